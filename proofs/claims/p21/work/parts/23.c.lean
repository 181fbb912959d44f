set_option maxRecDepth 100000 in
set_option maxHeartbeats 4000000 in
theorem lw_c16 {x : mX} {L : Nat} {xs : Nat → Int32} (C : mm_OK 60 601024 7293034 code RL 8 ret x) (X : mm_scr x L xs) (hl : x.2.1.stackTraces = false) (hL : L ≤ 3072) (i : Int) (hi : 0 ≤ i ∧ i + 6 ≤ L) (h : mH) (i0 : mm_inv h) (r0 : mm_RO h) (rl0 : mm_Rl i h) (K : mm_K x i) : mm_W x (mm_aA i h) (mm_bB i h) 1014 (mm_lls i) [] h := by
  have zl := mm_zf_le h
  have ea : mm_aA i h = 200 + i.toNat + (mm_zf h).1 := rfl
  have eb : mm_bB i h = 90000 + 6 * i.toNat + (mm_zf h).2 := rfl
  obtain ⟨rs0, rs1, rs2, rs3, rs4, rs5, rs6, rs7, rs8, rs9, rs10, rs11, rs12, ra0, ra1, ra2, ra3, ra4, ra5, ra6, ra7, ra8, ra9, ra10, ra11, ra12, ra13, ra14, ra15, ra16, ra17, ra18, ra19, ra20, ra21, ra22, ra23, ra24, ra25, ra26, ra27, ra28, ra29, ra30, ra31, ra32, ra33, ra34, ra35⟩ := rl0
  refine mm_aload_n C (mm_dec dk_law10 27 rfl) rfl ?_
  refine mm_aload_n C (mm_dec dk_law10 28 rfl) rfl ?_
  refine mm_iload C (mm_dec dk_law10 29 rfl) rfl ?_
  refine mm_iconst C (mm_dec dk_law10 30 rfl) ⟨by decide, by decide⟩ ?_
  refine mm_iadd C (mm_dec dk_law10 31 rfl) ⟨by omega, by omega⟩ ?_
  refine mm_sld C X (mm_dec dk_law10 32 rfl) (by omega) (by omega) ?_
  refine mm_aload_n C (mm_dec dk_law10 33 rfl) rfl ?_
  refine mm_cHi (d := 59) (rest := []) C mh_L_back ml_L_167 sm_L_back (mm_dec dk_law10 34 rfl) (c_L_back_q x.2.1 hl 59 (by decide) h i0 (mm_sc xs (i + 1))) rfl (Nat.le_of_ble_eq_true rfl) ⟨by omega, by omega⟩ rfl (fun r1 h1 hp1 => ?_)
  obtain ⟨b1, i1, g1, y1_0, y1_1⟩ := hp1
  have q1_1_5 : h1.1 1 5 = h.1 1 5 := g1.1 1 5 (by decide)
  have q1_66_1 : h1.1 66 1 = h.1 66 1 := g1.1 66 1 (by decide)
  have q1_1_6 : h1.1 1 6 = h.1 1 6 := g1.1 1 6 (by decide)
  have q1_66_2 : h1.1 66 2 = h.1 66 2 := g1.1 66 2 (by decide)
  have q1_14_8 : h1.1 14 8 = h.1 14 8 := g1.1 14 8 (by decide)
  have q1_66_22 : h1.1 66 22 = h.1 66 22 := g1.1 66 22 (by decide)
  have q1_22_8 : h1.1 22 8 = h.1 22 8 := g1.1 22 8 (by decide)
  have q1_66_23 : h1.1 66 23 = h.1 66 23 := g1.1 66 23 (by decide)
  have q1_14_7 : h1.1 14 7 = h.1 14 7 := g1.1 14 7 (by decide)
  have q1_66_21 : h1.1 66 21 = h.1 66 21 := g1.1 66 21 (by decide)
  have q1_22_9 : h1.1 22 9 = h.1 22 9 := g1.1 22 9 (by decide)
  have q1_66_24 : h1.1 66 24 = h.1 66 24 := g1.1 66 24 (by decide)
  have q1_0_12 : h1.1 0 12 = h.1 0 12 := g1.1 0 12 (by decide)
  have q1_66_56 : h1.1 66 56 = h.1 66 56 := g1.1 66 56 (by decide)
  have q1_0_14 : h1.1 0 14 = h.1 0 14 := g1.1 0 14 (by decide)
  have q1_66_58 : h1.1 66 58 = h.1 66 58 := g1.1 66 58 (by decide)
  have q1_30_6 : h1.1 30 6 = h.1 30 6 := g1.1 30 6 (by decide)
  have q1_66_40 : h1.1 66 40 = h.1 66 40 := g1.1 66 40 (by decide)
  have q1_30_12 : h1.1 30 12 = h.1 30 12 := g1.1 30 12 (by decide)
  have q1_66_82 : h1.1 66 82 = h.1 66 82 := g1.1 66 82 (by decide)
  have q1_0_13 : h1.1 0 13 = h.1 0 13 := g1.1 0 13 (by decide)
  have q1_66_41 : h1.1 66 41 = h.1 66 41 := g1.1 66 41 (by decide)
  have q1_1_7 : h1.1 1 7 = h.1 1 7 := g1.1 1 7 (by decide)
  have q1_66_3 : h1.1 66 3 = h.1 66 3 := g1.1 66 3 (by decide)
  have q1_66_9 : h1.1 66 9 = h.1 66 9 := g1.1 66 9 (by decide)
  have q1_66_10 : h1.1 66 10 = h.1 66 10 := g1.1 66 10 (by decide)
  have q1_1_8 : h1.1 1 8 = h.1 1 8 := g1.1 1 8 (by decide)
  have q1_66_11 : h1.1 66 11 = h.1 66 11 := g1.1 66 11 (by decide)
  have q1_66_12 : h1.1 66 12 = h.1 66 12 := g1.1 66 12 (by decide)
  have q1_66_67 : h1.1 66 67 = h.1 66 67 := g1.1 66 67 (by decide)
  have q1_66_68 : h1.1 66 68 = h.1 66 68 := g1.1 66 68 (by decide)
  have q1_30_13 : h1.1 30 13 = h.1 30 13 := g1.1 30 13 (by decide)
  have q1_66_91 : h1.1 66 91 = h.1 66 91 := g1.1 66 91 (by decide)
  have q1_42_3 : h1.1 42 3 = h.1 42 3 := g1.1 42 3 (by decide)
  refine mm_istoreL (ls2 := [mR 3000, mR 0, mR 66, mR 124, mI i, mI r1, mU, mU]) C (mm_dec dk_law10 35 rfl) (by decide) rfl ?_
  refine mm_aload_n C (mm_dec dk_law10 36 rfl) rfl ?_
  refine mm_aload_n C (mm_dec dk_law10 37 rfl) rfl ?_
  refine mm_iload C (mm_dec dk_law10 38 rfl) rfl ?_
  refine mm_iconst C (mm_dec dk_law10 39 rfl) ⟨by decide, by decide⟩ ?_
  refine mm_iadd C (mm_dec dk_law10 40 rfl) ⟨by omega, by omega⟩ ?_
  refine mm_sld C X (mm_dec dk_law10 41 rfl) (by omega) (by omega) ?_
  refine mm_cVi (d := 59) (rest := []) C ev_L_169 (mm_dec dk_law10 42 rfl) (c_X12_back_q x.2.1 hl 59 (by decide) h1 i1 (mm_sc xs (i + 1))) rfl rfl (Nat.le_of_ble_eq_true rfl) ⟨by omega, by omega⟩ rfl (fun r2 h2 hp2 => ?_) (fun _ _ q => q.elim)
  obtain ⟨b2, i2, g2, y2_0, y2_1⟩ := hp2
  have q2_1_5 : h2.1 1 5 = h1.1 1 5 := g2.1 1 5 (by decide)
  have q2_66_1 : h2.1 66 1 = h1.1 66 1 := g2.1 66 1 (by decide)
  have q2_1_6 : h2.1 1 6 = h1.1 1 6 := g2.1 1 6 (by decide)
  have q2_66_2 : h2.1 66 2 = h1.1 66 2 := g2.1 66 2 (by decide)
  have q2_14_8 : h2.1 14 8 = h1.1 14 8 := g2.1 14 8 (by decide)
  have q2_66_22 : h2.1 66 22 = h1.1 66 22 := g2.1 66 22 (by decide)
  have q2_22_8 : h2.1 22 8 = h1.1 22 8 := g2.1 22 8 (by decide)
  have q2_66_23 : h2.1 66 23 = h1.1 66 23 := g2.1 66 23 (by decide)
  have q2_14_7 : h2.1 14 7 = h1.1 14 7 := g2.1 14 7 (by decide)
  have q2_66_21 : h2.1 66 21 = h1.1 66 21 := g2.1 66 21 (by decide)
  have q2_22_9 : h2.1 22 9 = h1.1 22 9 := g2.1 22 9 (by decide)
  have q2_66_24 : h2.1 66 24 = h1.1 66 24 := g2.1 66 24 (by decide)
  have q2_0_12 : h2.1 0 12 = h1.1 0 12 := g2.1 0 12 (by decide)
  have q2_66_56 : h2.1 66 56 = h1.1 66 56 := g2.1 66 56 (by decide)
  have q2_0_14 : h2.1 0 14 = h1.1 0 14 := g2.1 0 14 (by decide)
  have q2_66_58 : h2.1 66 58 = h1.1 66 58 := g2.1 66 58 (by decide)
  have q2_30_6 : h2.1 30 6 = h1.1 30 6 := g2.1 30 6 (by decide)
  have q2_66_40 : h2.1 66 40 = h1.1 66 40 := g2.1 66 40 (by decide)
  have q2_30_12 : h2.1 30 12 = h1.1 30 12 := g2.1 30 12 (by decide)
  have q2_66_82 : h2.1 66 82 = h1.1 66 82 := g2.1 66 82 (by decide)
  have q2_0_13 : h2.1 0 13 = h1.1 0 13 := g2.1 0 13 (by decide)
  have q2_66_41 : h2.1 66 41 = h1.1 66 41 := g2.1 66 41 (by decide)
  have q2_1_7 : h2.1 1 7 = h1.1 1 7 := g2.1 1 7 (by decide)
  have q2_66_3 : h2.1 66 3 = h1.1 66 3 := g2.1 66 3 (by decide)
  have q2_66_9 : h2.1 66 9 = h1.1 66 9 := g2.1 66 9 (by decide)
  have q2_66_10 : h2.1 66 10 = h1.1 66 10 := g2.1 66 10 (by decide)
  have q2_1_8 : h2.1 1 8 = h1.1 1 8 := g2.1 1 8 (by decide)
  have q2_66_11 : h2.1 66 11 = h1.1 66 11 := g2.1 66 11 (by decide)
  have q2_66_12 : h2.1 66 12 = h1.1 66 12 := g2.1 66 12 (by decide)
  have q2_66_67 : h2.1 66 67 = h1.1 66 67 := g2.1 66 67 (by decide)
  have q2_66_68 : h2.1 66 68 = h1.1 66 68 := g2.1 66 68 (by decide)
  have q2_30_13 : h2.1 30 13 = h1.1 30 13 := g2.1 30 13 (by decide)
  have q2_66_91 : h2.1 66 91 = h1.1 66 91 := g2.1 66 91 (by decide)
  have q2_42_3 : h2.1 42 3 = h1.1 42 3 := g2.1 42 3 (by decide)
  obtain ⟨f1, hf1, u1⟩ := y1_1
  have eA := mm_eq_at ra24 (fun j => g1.2 97 (by decide) j) (mm_sc xs (i + 1))
  have eS : (f1 = 1 ↔ r2 = 1) ∧ ((r1 = 1 ∧ h2.1 66 0 = 1) ∨ (r1 = 0 ∧ h2.1 66 0 = 0 ∧ h1.2.1 124 0 = r2)) := by
    rcases y1_0 with y | y <;> rcases y2_0 with z | z <;> rcases hf1 with a1 | a1 <;> omega
  obtain ⟨s1, s2⟩ := eS
  clear y1_0 y2_0 hf1
  have rb24 : mm_eq h2 36 97 (h2.1 30 6 - 1) := mm_eq_upv ra24 u1 (fun j => g1.2 97 (by decide) j) y2_1 (fun j => g2.2 36 (by decide) j) s1 (fun _ => by omega) (Or.inl (by omega))
  have qa2 : h2.2.1 124 0 = h1.2.1 124 0 := g2.2 124 (by decide) 0
  refine mm_istoreL (ls2 := [mR 3000, mR 0, mR 66, mR 124, mI i, mI r1, mI r2, mU]) C (mm_dec dk_law10 43 rfl) (by decide) rfl ?_
  refine mm_goto (tgt := 1668) C (mm_dec dk_law10 44 rfl) (by decide) ?_
  refine mm_fgt 5 ?_
  refine mm_fgt 6 ?_
  have ze := mm_zf_eq (show h2.1 58 5 = h.1 58 5 from (g2.1 58 5 (by decide)).trans ((g1.1 58 5 (by decide)).trans (rfl)))
  refine mm_widen (k := mm_aA (i + 6) h2) (n := mm_bB (i + 6) h2) (by rw [show mm_aA (i + 6) h2 = 200 + (i + 6).toNat + (mm_zf h).1 from by unfold mm_aA; rw [ze]]; omega) (by rw [show mm_bB (i + 6) h2 = 90000 + 6 * (i + 6).toNat + (mm_zf h).2 from by unfold mm_bB; rw [ze]]; omega) ?_
  exact K h2 i2 (mm_RO_fr (mm_RO_fr (r0) g1 (by decide)) g2 (by decide)) (by unfold mm_Rl; exact ⟨by omega, by omega, by omega, by omega, by omega, by omega, by omega, by omega, by omega, by omega, by omega, by omega, by omega, mm_eq_fr (mm_eq_fr (ra0) g1 (by decide) (by decide)) g2 (by decide) (by decide), mm_eq_fr (mm_eq_fr (ra1) g1 (by decide) (by decide)) g2 (by decide) (by decide), mm_eq_le (mm_eq_fr (mm_eq_fr (ra2) g1 (by decide) (by decide)) g2 (by decide) (by decide)) (by omega), mm_eq_le (mm_eq_fr (mm_eq_fr (ra3) g1 (by decide) (by decide)) g2 (by decide) (by decide)) (by omega), mm_eq_le (mm_eq_fr (mm_eq_fr (ra4) g1 (by decide) (by decide)) g2 (by decide) (by decide)) (by omega), mm_eq_le (mm_eq_fr (mm_eq_fr (ra5) g1 (by decide) (by decide)) g2 (by decide) (by decide)) (by omega), mm_tk_sm (mm_tk_sm (ra6) (fun j => g1.2 18 (by decide) j) (fun j => g1.2 85 (by decide) j) (by omega) (by omega)) (fun j => g2.2 18 (by decide) j) (fun j => g2.2 85 (by decide) j) (by omega) (by omega), mm_cb_sm (mm_cb_sm (ra7) (fun j => g1.2 85 (by decide) j) (by omega) (by omega)) (fun j => g2.2 85 (by decide) j) (by omega) (by omega), mm_fb_sm (mm_fb_sm (ra8) (fun j => g1.2 20 (by decide) j) (by omega)) (fun j => g2.2 20 (by decide) j) (by omega), mm_eq_fr (mm_eq_fr (ra9) g1 (by decide) (by decide)) g2 (by decide) (by decide), mm_eq_fr (mm_eq_fr (ra10) g1 (by decide) (by decide)) g2 (by decide) (by decide), mm_eq_fr (mm_eq_fr (ra11) g1 (by decide) (by decide)) g2 (by decide) (by decide), mm_eq_le (mm_eq_fr (mm_eq_fr (ra12) g1 (by decide) (by decide)) g2 (by decide) (by decide)) (by omega), mm_go_sm (mm_go_sm (ra13) (fun j => g1.2 6 (by decide) j) (by omega) (by omega) (by omega) (by omega) (by omega) (by omega)) (fun j => g2.2 6 (by decide) j) (by omega) (by omega) (by omega) (by omega) (by omega) (by omega), mm_eq_le (mm_eq_fr (mm_eq_fr (ra14) g1 (by decide) (by decide)) g2 (by decide) (by decide)) (by omega), mm_eq_le (mm_eq_fr (mm_eq_fr (ra15) g1 (by decide) (by decide)) g2 (by decide) (by decide)) (by omega), mm_it_sm (mm_it_sm (ra16) (fun j => g1.2 28 (by decide) j) (fun j => g1.2 88 (by decide) j) (by omega)) (fun j => g2.2 28 (by decide) j) (fun j => g2.2 88 (by decide) j) (by omega), mm_br_sm (mm_br_sm (ra17) (fun j => g1.2 21 (by decide) j) (fun j => g1.2 82 (by decide) j) (fun j => g1.2 84 (by decide) j) (fun j => g1.2 19 (by decide) j) (by omega)) (fun j => g2.2 21 (by decide) j) (fun j => g2.2 82 (by decide) j) (fun j => g2.2 84 (by decide) j) (fun j => g2.2 19 (by decide) j) (by omega), mm_gn_sm (mm_gn_sm (ra18)  (by omega) (by omega) (by omega) (by omega) (by omega))  (by omega) (by omega) (by omega) (by omega) (by omega), mm_pc_sm (mm_pc_sm (ra19) (fun j => g1.2 15 (by decide) j) (by omega) (by omega) (by omega)) (fun j => g2.2 15 (by decide) j) (by omega) (by omega) (by omega), mm_bv_sm (mm_bv_sm (ra20) (fun j => g1.2 21 (by decide) j) (fun j => g1.2 19 (by decide) j) (by omega) (by omega)) (fun j => g2.2 21 (by decide) j) (fun j => g2.2 19 (by decide) j) (by omega) (by omega), mm_eq_le (mm_eq_fr (mm_eq_fr (ra21) g1 (by decide) (by decide)) g2 (by decide) (by decide)) (by omega), mm_eq_le (mm_eq_fr (mm_eq_fr (ra22) g1 (by decide) (by decide)) g2 (by decide) (by decide)) (by omega), mm_eq_le (mm_eq_fr (mm_eq_fr (ra23) g1 (by decide) (by decide)) g2 (by decide) (by decide)) (by omega), mm_eq_le (rb24) (by omega), mm_eq_le (mm_eq_fr (mm_eq_fr (ra25) g1 (by decide) (by decide)) g2 (by decide) (by decide)) (by omega), mm_eq_le (mm_eq_fr (mm_eq_fr (ra26) g1 (by decide) (by decide)) g2 (by decide) (by decide)) (by omega), mm_ah_sm (mm_ah_sm (ra27) (fun j => g1.2 27 (by decide) j) (fun j => g1.2 88 (by decide) j) (fun j => g1.2 89 (by decide) j) (by omega)) (fun j => g2.2 27 (by decide) j) (fun j => g2.2 88 (by decide) j) (fun j => g2.2 89 (by decide) j) (by omega), mm_pw9_sm (mm_pw9_sm (ra28) (fun j => g1.2 44 (by decide) j) (fun j => g1.2 102 (by decide) j) (by omega) (by omega)) (fun j => g2.2 44 (by decide) j) (fun j => g2.2 102 (by decide) j) (by omega) (by omega), mm_eq_le (mm_eq_fr (mm_eq_fr (ra29) g1 (by decide) (by decide)) g2 (by decide) (by decide)) (by omega), mm_ep8_sm (mm_ep8_sm (ra30) (fun j => g1.2 31 (by decide) j) (fun j => g1.2 33 (by decide) j) (fun j => g1.2 94 (by decide) j) (by omega)) (fun j => g2.2 31 (by decide) j) (fun j => g2.2 33 (by decide) j) (fun j => g2.2 94 (by decide) j) (by omega), mm_ab8_sm (mm_ab8_sm (ra31) (fun j => g1.2 27 (by decide) j) (fun j => g1.2 88 (by decide) j) (fun j => g1.2 89 (by decide) j) (fun j => g1.2 90 (by decide) j) (by omega) (by omega)) (fun j => g2.2 27 (by decide) j) (fun j => g2.2 88 (by decide) j) (fun j => g2.2 89 (by decide) j) (fun j => g2.2 90 (by decide) j) (by omega) (by omega), mm_eq_le (mm_eq_fr (mm_eq_fr (ra32) g1 (by decide) (by decide)) g2 (by decide) (by decide)) (by omega), mm_cJ_sm (mm_cJ_sm (ra33) (fun j => g1.2 43 (by decide) j) (fun j => g1.2 103 (by decide) j) (fun j => g1.2 104 (by decide) j) (fun j => g1.2 105 (by decide) j) (fun j => g1.2 106 (by decide) j) (fun j => g1.2 107 (by decide) j) (by omega) (by omega) (by omega)) (fun j => g2.2 43 (by decide) j) (fun j => g2.2 103 (by decide) j) (fun j => g2.2 104 (by decide) j) (fun j => g2.2 105 (by decide) j) (fun j => g2.2 106 (by decide) j) (fun j => g2.2 107 (by decide) j) (by omega) (by omega) (by omega), mm_pt9_sm (mm_pt9_sm (ra34) (fun j => g1.2 37 (by decide) j) (fun j => g1.2 38 (by decide) j) (fun j => g1.2 39 (by decide) j) (fun j => g1.2 40 (by decide) j) (fun j => g1.2 41 (by decide) j) (fun j => g1.2 112 (by decide) j) (fun j => g1.2 114 (by decide) j) (fun j => g1.2 115 (by decide) j) (fun j => g1.2 116 (by decide) j) (by omega) (by omega) (by omega)) (fun j => g2.2 37 (by decide) j) (fun j => g2.2 38 (by decide) j) (fun j => g2.2 39 (by decide) j) (fun j => g2.2 40 (by decide) j) (fun j => g2.2 41 (by decide) j) (fun j => g2.2 112 (by decide) j) (fun j => g2.2 114 (by decide) j) (fun j => g2.2 115 (by decide) j) (fun j => g2.2 116 (by decide) j) (by omega) (by omega) (by omega), mm_tm9_sm (mm_tm9_sm (ra35) (fun j => g1.2 29 (by decide) j) (fun j => g1.2 90 (by decide) j) (by omega) (by omega)) (fun j => g2.2 29 (by decide) j) (fun j => g2.2 90 (by decide) j) (by omega) (by omega)⟩)
set_option maxRecDepth 100000 in
set_option maxHeartbeats 4000000 in
theorem lw_c17 {x : mX} {L : Nat} {xs : Nat → Int32} (C : mm_OK 60 601024 7293034 code RL 8 ret x) (X : mm_scr x L xs) (hl : x.2.1.stackTraces = false) (hL : L ≤ 3072) (i : Int) (hi : 0 ≤ i ∧ i + 6 ≤ L) (h : mH) (i0 : mm_inv h) (r0 : mm_RO h) (rl0 : mm_Rl i h) (K : mm_K x i) : mm_W x (mm_aA i h) (mm_bB i h) 1042 (mm_lls i) [] h := by
  have zl := mm_zf_le h
  have ea : mm_aA i h = 200 + i.toNat + (mm_zf h).1 := rfl
  have eb : mm_bB i h = 90000 + 6 * i.toNat + (mm_zf h).2 := rfl
  obtain ⟨rs0, rs1, rs2, rs3, rs4, rs5, rs6, rs7, rs8, rs9, rs10, rs11, rs12, ra0, ra1, ra2, ra3, ra4, ra5, ra6, ra7, ra8, ra9, ra10, ra11, ra12, ra13, ra14, ra15, ra16, ra17, ra18, ra19, ra20, ra21, ra22, ra23, ra24, ra25, ra26, ra27, ra28, ra29, ra30, ra31, ra32, ra33, ra34, ra35⟩ := rl0
  refine mm_aload_n C (mm_dec dk_law10 45 rfl) rfl ?_
  refine mm_aload_n C (mm_dec dk_law10 46 rfl) rfl ?_
  refine mm_iload C (mm_dec dk_law10 47 rfl) rfl ?_
  refine mm_iconst C (mm_dec dk_law10 48 rfl) ⟨by decide, by decide⟩ ?_
  refine mm_iadd C (mm_dec dk_law10 49 rfl) ⟨by omega, by omega⟩ ?_
  refine mm_sld C X (mm_dec dk_law10 50 rfl) (by omega) (by omega) ?_
  refine mm_aload_n C (mm_dec dk_law10 51 rfl) rfl ?_
  refine mm_iload C (mm_dec dk_law10 52 rfl) rfl ?_
  refine mm_iconst C (mm_dec dk_law10 53 rfl) ⟨by decide, by decide⟩ ?_
  refine mm_iadd C (mm_dec dk_law10 54 rfl) ⟨by omega, by omega⟩ ?_
  refine mm_sld C X (mm_dec dk_law10 55 rfl) (by omega) (by omega) ?_
  refine mm_aload_n C (mm_dec dk_law10 56 rfl) rfl ?_
  refine mm_iload C (mm_dec dk_law10 57 rfl) rfl ?_
  refine mm_iconst C (mm_dec dk_law10 58 rfl) ⟨by decide, by decide⟩ ?_
  refine mm_iadd C (mm_dec dk_law10 59 rfl) ⟨by omega, by omega⟩ ?_
  refine mm_sld C X (mm_dec dk_law11 0 rfl) (by omega) (by omega) ?_
  refine mm_aload_n C (mm_dec dk_law11 1 rfl) rfl ?_
  refine mm_cHi (d := 59) (rest := []) C mh_L_judged ml_L_170 sm_L_judged (mm_dec dk_law11 2 rfl) (c_L_judged_q x.2.1 hl 59 (by decide) h i0 (mm_sc xs (i + 1)) (mm_sc xs (i + 2)) (mm_sc xs (i + 3))) rfl (Nat.le_of_ble_eq_true rfl) ⟨by omega, by omega⟩ rfl (fun r1 h1 hp1 => ?_)
  obtain ⟨b1, i1, g1, y1_0, y1_1⟩ := hp1
  have q1_1_5 : h1.1 1 5 = h.1 1 5 := g1.1 1 5 (by decide)
  have q1_66_1 : h1.1 66 1 = h.1 66 1 := g1.1 66 1 (by decide)
  have q1_1_6 : h1.1 1 6 = h.1 1 6 := g1.1 1 6 (by decide)
  have q1_66_2 : h1.1 66 2 = h.1 66 2 := g1.1 66 2 (by decide)
  have q1_14_8 : h1.1 14 8 = h.1 14 8 := g1.1 14 8 (by decide)
  have q1_66_22 : h1.1 66 22 = h.1 66 22 := g1.1 66 22 (by decide)
  have q1_22_8 : h1.1 22 8 = h.1 22 8 := g1.1 22 8 (by decide)
  have q1_66_23 : h1.1 66 23 = h.1 66 23 := g1.1 66 23 (by decide)
  have q1_14_7 : h1.1 14 7 = h.1 14 7 := g1.1 14 7 (by decide)
  have q1_66_21 : h1.1 66 21 = h.1 66 21 := g1.1 66 21 (by decide)
  have q1_22_9 : h1.1 22 9 = h.1 22 9 := g1.1 22 9 (by decide)
  have q1_66_24 : h1.1 66 24 = h.1 66 24 := g1.1 66 24 (by decide)
  have q1_0_12 : h1.1 0 12 = h.1 0 12 := g1.1 0 12 (by decide)
  have q1_66_56 : h1.1 66 56 = h.1 66 56 := g1.1 66 56 (by decide)
  have q1_0_14 : h1.1 0 14 = h.1 0 14 := g1.1 0 14 (by decide)
  have q1_66_58 : h1.1 66 58 = h.1 66 58 := g1.1 66 58 (by decide)
  have q1_30_6 : h1.1 30 6 = h.1 30 6 := g1.1 30 6 (by decide)
  have q1_66_40 : h1.1 66 40 = h.1 66 40 := g1.1 66 40 (by decide)
  have q1_30_12 : h1.1 30 12 = h.1 30 12 := g1.1 30 12 (by decide)
  have q1_66_82 : h1.1 66 82 = h.1 66 82 := g1.1 66 82 (by decide)
  have q1_0_13 : h1.1 0 13 = h.1 0 13 := g1.1 0 13 (by decide)
  have q1_66_41 : h1.1 66 41 = h.1 66 41 := g1.1 66 41 (by decide)
  have q1_1_7 : h1.1 1 7 = h.1 1 7 := g1.1 1 7 (by decide)
  have q1_66_3 : h1.1 66 3 = h.1 66 3 := g1.1 66 3 (by decide)
  have q1_66_9 : h1.1 66 9 = h.1 66 9 := g1.1 66 9 (by decide)
  have q1_66_10 : h1.1 66 10 = h.1 66 10 := g1.1 66 10 (by decide)
  have q1_1_8 : h1.1 1 8 = h.1 1 8 := g1.1 1 8 (by decide)
  have q1_66_11 : h1.1 66 11 = h.1 66 11 := g1.1 66 11 (by decide)
  have q1_66_12 : h1.1 66 12 = h.1 66 12 := g1.1 66 12 (by decide)
  have q1_66_67 : h1.1 66 67 = h.1 66 67 := g1.1 66 67 (by decide)
  have q1_66_68 : h1.1 66 68 = h.1 66 68 := g1.1 66 68 (by decide)
  have q1_30_13 : h1.1 30 13 = h.1 30 13 := g1.1 30 13 (by decide)
  have q1_66_91 : h1.1 66 91 = h.1 66 91 := g1.1 66 91 (by decide)
  have q1_42_3 : h1.1 42 3 = h.1 42 3 := g1.1 42 3 (by decide)
  refine mm_istoreL (ls2 := [mR 3000, mR 0, mR 66, mR 124, mI i, mI r1, mU, mU]) C (mm_dec dk_law11 3 rfl) (by decide) rfl ?_
  refine mm_aload_n C (mm_dec dk_law11 4 rfl) rfl ?_
  refine mm_aload_n C (mm_dec dk_law11 5 rfl) rfl ?_
  refine mm_iload C (mm_dec dk_law11 6 rfl) rfl ?_
  refine mm_iconst C (mm_dec dk_law11 7 rfl) ⟨by decide, by decide⟩ ?_
  refine mm_iadd C (mm_dec dk_law11 8 rfl) ⟨by omega, by omega⟩ ?_
  refine mm_sld C X (mm_dec dk_law11 9 rfl) (by omega) (by omega) ?_
  refine mm_aload_n C (mm_dec dk_law11 10 rfl) rfl ?_
  refine mm_iload C (mm_dec dk_law11 11 rfl) rfl ?_
  refine mm_iconst C (mm_dec dk_law11 12 rfl) ⟨by decide, by decide⟩ ?_
  refine mm_iadd C (mm_dec dk_law11 13 rfl) ⟨by omega, by omega⟩ ?_
  refine mm_sld C X (mm_dec dk_law11 14 rfl) (by omega) (by omega) ?_
  refine mm_aload_n C (mm_dec dk_law11 15 rfl) rfl ?_
  refine mm_iload C (mm_dec dk_law11 16 rfl) rfl ?_
  refine mm_iconst C (mm_dec dk_law11 17 rfl) ⟨by decide, by decide⟩ ?_
  refine mm_iadd C (mm_dec dk_law11 18 rfl) ⟨by omega, by omega⟩ ?_
  refine mm_sld C X (mm_dec dk_law11 19 rfl) (by omega) (by omega) ?_
  refine mm_cVi (d := 59) (rest := []) C ev_L_172 (mm_dec dk_law11 20 rfl) (c_X12_judged_q x.2.1 hl 59 (by decide) h1 i1 (mm_sc xs (i + 1)) (mm_sc xs (i + 2)) (mm_sc xs (i + 3)) (mm_RO_fr (r0) g1 (by decide))) rfl rfl (Nat.le_of_ble_eq_true rfl) ⟨by omega, by omega⟩ rfl (fun r2 h2 hp2 => ?_) (fun _ _ q => q.elim)
  obtain ⟨b2, i2, g2, y2_0, y2_1⟩ := hp2
  have q2_1_5 : h2.1 1 5 = h1.1 1 5 := g2.1 1 5 (by decide)
  have q2_66_1 : h2.1 66 1 = h1.1 66 1 := g2.1 66 1 (by decide)
  have q2_1_6 : h2.1 1 6 = h1.1 1 6 := g2.1 1 6 (by decide)
  have q2_66_2 : h2.1 66 2 = h1.1 66 2 := g2.1 66 2 (by decide)
  have q2_14_8 : h2.1 14 8 = h1.1 14 8 := g2.1 14 8 (by decide)
  have q2_66_22 : h2.1 66 22 = h1.1 66 22 := g2.1 66 22 (by decide)
  have q2_22_8 : h2.1 22 8 = h1.1 22 8 := g2.1 22 8 (by decide)
  have q2_66_23 : h2.1 66 23 = h1.1 66 23 := g2.1 66 23 (by decide)
  have q2_14_7 : h2.1 14 7 = h1.1 14 7 := g2.1 14 7 (by decide)
  have q2_66_21 : h2.1 66 21 = h1.1 66 21 := g2.1 66 21 (by decide)
  have q2_22_9 : h2.1 22 9 = h1.1 22 9 := g2.1 22 9 (by decide)
  have q2_66_24 : h2.1 66 24 = h1.1 66 24 := g2.1 66 24 (by decide)
  have q2_0_12 : h2.1 0 12 = h1.1 0 12 := g2.1 0 12 (by decide)
  have q2_66_56 : h2.1 66 56 = h1.1 66 56 := g2.1 66 56 (by decide)
  have q2_0_14 : h2.1 0 14 = h1.1 0 14 := g2.1 0 14 (by decide)
  have q2_66_58 : h2.1 66 58 = h1.1 66 58 := g2.1 66 58 (by decide)
  have q2_30_6 : h2.1 30 6 = h1.1 30 6 := g2.1 30 6 (by decide)
  have q2_66_40 : h2.1 66 40 = h1.1 66 40 := g2.1 66 40 (by decide)
  have q2_30_12 : h2.1 30 12 = h1.1 30 12 := g2.1 30 12 (by decide)
  have q2_66_82 : h2.1 66 82 = h1.1 66 82 := g2.1 66 82 (by decide)
  have q2_0_13 : h2.1 0 13 = h1.1 0 13 := g2.1 0 13 (by decide)
  have q2_66_41 : h2.1 66 41 = h1.1 66 41 := g2.1 66 41 (by decide)
  have q2_1_7 : h2.1 1 7 = h1.1 1 7 := g2.1 1 7 (by decide)
  have q2_66_3 : h2.1 66 3 = h1.1 66 3 := g2.1 66 3 (by decide)
  have q2_66_9 : h2.1 66 9 = h1.1 66 9 := g2.1 66 9 (by decide)
  have q2_66_10 : h2.1 66 10 = h1.1 66 10 := g2.1 66 10 (by decide)
  have q2_1_8 : h2.1 1 8 = h1.1 1 8 := g2.1 1 8 (by decide)
  have q2_66_11 : h2.1 66 11 = h1.1 66 11 := g2.1 66 11 (by decide)
  have q2_66_12 : h2.1 66 12 = h1.1 66 12 := g2.1 66 12 (by decide)
  have q2_66_67 : h2.1 66 67 = h1.1 66 67 := g2.1 66 67 (by decide)
  have q2_66_68 : h2.1 66 68 = h1.1 66 68 := g2.1 66 68 (by decide)
  have q2_30_13 : h2.1 30 13 = h1.1 30 13 := g2.1 30 13 (by decide)
  have q2_66_91 : h2.1 66 91 = h1.1 66 91 := g2.1 66 91 (by decide)
  have q2_42_3 : h2.1 42 3 = h1.1 42 3 := g2.1 42 3 (by decide)
  have qa2 : h2.2.1 124 0 = h1.2.1 124 0 := g2.2 124 (by decide) 0
  refine mm_istoreL (ls2 := [mR 3000, mR 0, mR 66, mR 124, mI i, mI r1, mI r2, mU]) C (mm_dec dk_law11 21 rfl) (by decide) rfl ?_
  refine mm_goto (tgt := 1668) C (mm_dec dk_law11 22 rfl) (by decide) ?_
  refine mm_fgt 5 ?_
  refine mm_fgt 6 ?_
  have ze := mm_zf_eq (show h2.1 58 5 = h.1 58 5 from (g2.1 58 5 (by decide)).trans ((g1.1 58 5 (by decide)).trans (rfl)))
  refine mm_widen (k := mm_aA (i + 6) h2) (n := mm_bB (i + 6) h2) (by rw [show mm_aA (i + 6) h2 = 200 + (i + 6).toNat + (mm_zf h).1 from by unfold mm_aA; rw [ze]]; omega) (by rw [show mm_bB (i + 6) h2 = 90000 + 6 * (i + 6).toNat + (mm_zf h).2 from by unfold mm_bB; rw [ze]]; omega) ?_
  exact K h2 i2 (mm_RO_fr (mm_RO_fr (r0) g1 (by decide)) g2 (by decide)) (by unfold mm_Rl; exact ⟨by omega, by omega, by omega, by omega, by omega, by omega, by omega, by omega, by omega, by omega, by omega, by omega, by omega, mm_eq_fr (mm_eq_fr (ra0) g1 (by decide) (by decide)) g2 (by decide) (by decide), mm_eq_fr (mm_eq_fr (ra1) g1 (by decide) (by decide)) g2 (by decide) (by decide), mm_eq_le (mm_eq_fr (mm_eq_fr (ra2) g1 (by decide) (by decide)) g2 (by decide) (by decide)) (by omega), mm_eq_le (mm_eq_fr (mm_eq_fr (ra3) g1 (by decide) (by decide)) g2 (by decide) (by decide)) (by omega), mm_eq_le (mm_eq_fr (mm_eq_fr (ra4) g1 (by decide) (by decide)) g2 (by decide) (by decide)) (by omega), mm_eq_le (mm_eq_fr (mm_eq_fr (ra5) g1 (by decide) (by decide)) g2 (by decide) (by decide)) (by omega), mm_tk_sm (mm_tk_sm (ra6) (fun j => g1.2 18 (by decide) j) (fun j => g1.2 85 (by decide) j) (by omega) (by omega)) (fun j => g2.2 18 (by decide) j) (fun j => g2.2 85 (by decide) j) (by omega) (by omega), mm_cb_sm (mm_cb_sm (ra7) (fun j => g1.2 85 (by decide) j) (by omega) (by omega)) (fun j => g2.2 85 (by decide) j) (by omega) (by omega), mm_fb_sm (mm_fb_sm (ra8) (fun j => g1.2 20 (by decide) j) (by omega)) (fun j => g2.2 20 (by decide) j) (by omega), mm_eq_fr (mm_eq_fr (ra9) g1 (by decide) (by decide)) g2 (by decide) (by decide), mm_eq_fr (mm_eq_fr (ra10) g1 (by decide) (by decide)) g2 (by decide) (by decide), mm_eq_fr (mm_eq_fr (ra11) g1 (by decide) (by decide)) g2 (by decide) (by decide), mm_eq_le (mm_eq_fr (mm_eq_fr (ra12) g1 (by decide) (by decide)) g2 (by decide) (by decide)) (by omega), mm_go_sm (mm_go_sm (ra13) (fun j => g1.2 6 (by decide) j) (by omega) (by omega) (by omega) (by omega) (by omega) (by omega)) (fun j => g2.2 6 (by decide) j) (by omega) (by omega) (by omega) (by omega) (by omega) (by omega), mm_eq_le (mm_eq_fr (mm_eq_fr (ra14) g1 (by decide) (by decide)) g2 (by decide) (by decide)) (by omega), mm_eq_le (mm_eq_fr (mm_eq_fr (ra15) g1 (by decide) (by decide)) g2 (by decide) (by decide)) (by omega), mm_it_sm (mm_it_sm (ra16) (fun j => g1.2 28 (by decide) j) (fun j => g1.2 88 (by decide) j) (by omega)) (fun j => g2.2 28 (by decide) j) (fun j => g2.2 88 (by decide) j) (by omega), mm_br_sm (mm_br_sm (ra17) (fun j => g1.2 21 (by decide) j) (fun j => g1.2 82 (by decide) j) (fun j => g1.2 84 (by decide) j) (fun j => g1.2 19 (by decide) j) (by omega)) (fun j => g2.2 21 (by decide) j) (fun j => g2.2 82 (by decide) j) (fun j => g2.2 84 (by decide) j) (fun j => g2.2 19 (by decide) j) (by omega), mm_gn_sm (mm_gn_sm (ra18)  (by omega) (by omega) (by omega) (by omega) (by omega))  (by omega) (by omega) (by omega) (by omega) (by omega), mm_pc_sm (mm_pc_sm (ra19) (fun j => g1.2 15 (by decide) j) (by omega) (by omega) (by omega)) (fun j => g2.2 15 (by decide) j) (by omega) (by omega) (by omega), mm_bv_sm (mm_bv_sm (ra20) (fun j => g1.2 21 (by decide) j) (fun j => g1.2 19 (by decide) j) (by omega) (by omega)) (fun j => g2.2 21 (by decide) j) (fun j => g2.2 19 (by decide) j) (by omega) (by omega), mm_eq_le (mm_eq_fr (mm_eq_fr (ra21) g1 (by decide) (by decide)) g2 (by decide) (by decide)) (by omega), mm_eq_le (mm_eq_fr (mm_eq_fr (ra22) g1 (by decide) (by decide)) g2 (by decide) (by decide)) (by omega), mm_eq_le (mm_eq_fr (mm_eq_fr (ra23) g1 (by decide) (by decide)) g2 (by decide) (by decide)) (by omega), mm_eq_le (mm_eq_fr (mm_eq_fr (ra24) g1 (by decide) (by decide)) g2 (by decide) (by decide)) (by omega), mm_eq_le (mm_eq_fr (mm_eq_fr (ra25) g1 (by decide) (by decide)) g2 (by decide) (by decide)) (by omega), mm_eq_le (mm_eq_fr (mm_eq_fr (ra26) g1 (by decide) (by decide)) g2 (by decide) (by decide)) (by omega), mm_ah_sm (mm_ah_sm (ra27) (fun j => g1.2 27 (by decide) j) (fun j => g1.2 88 (by decide) j) (fun j => g1.2 89 (by decide) j) (by omega)) (fun j => g2.2 27 (by decide) j) (fun j => g2.2 88 (by decide) j) (fun j => g2.2 89 (by decide) j) (by omega), mm_pw9_sm (mm_pw9_sm (ra28) (fun j => g1.2 44 (by decide) j) (fun j => g1.2 102 (by decide) j) (by omega) (by omega)) (fun j => g2.2 44 (by decide) j) (fun j => g2.2 102 (by decide) j) (by omega) (by omega), mm_eq_le (mm_eq_fr (mm_eq_fr (ra29) g1 (by decide) (by decide)) g2 (by decide) (by decide)) (by omega), mm_ep8_sm (mm_ep8_sm (ra30) (fun j => g1.2 31 (by decide) j) (fun j => g1.2 33 (by decide) j) (fun j => g1.2 94 (by decide) j) (by omega)) (fun j => g2.2 31 (by decide) j) (fun j => g2.2 33 (by decide) j) (fun j => g2.2 94 (by decide) j) (by omega), mm_ab8_sm (mm_ab8_sm (ra31) (fun j => g1.2 27 (by decide) j) (fun j => g1.2 88 (by decide) j) (fun j => g1.2 89 (by decide) j) (fun j => g1.2 90 (by decide) j) (by omega) (by omega)) (fun j => g2.2 27 (by decide) j) (fun j => g2.2 88 (by decide) j) (fun j => g2.2 89 (by decide) j) (fun j => g2.2 90 (by decide) j) (by omega) (by omega), mm_eq_le (mm_eq_fr (mm_eq_fr (ra32) g1 (by decide) (by decide)) g2 (by decide) (by decide)) (by omega), mm_cJ_sm (mm_cJ_sm (ra33) (fun j => g1.2 43 (by decide) j) (fun j => g1.2 103 (by decide) j) (fun j => g1.2 104 (by decide) j) (fun j => g1.2 105 (by decide) j) (fun j => g1.2 106 (by decide) j) (fun j => g1.2 107 (by decide) j) (by omega) (by omega) (by omega)) (fun j => g2.2 43 (by decide) j) (fun j => g2.2 103 (by decide) j) (fun j => g2.2 104 (by decide) j) (fun j => g2.2 105 (by decide) j) (fun j => g2.2 106 (by decide) j) (fun j => g2.2 107 (by decide) j) (by omega) (by omega) (by omega), mm_pt9_sm (mm_pt9_sm (ra34) (fun j => g1.2 37 (by decide) j) (fun j => g1.2 38 (by decide) j) (fun j => g1.2 39 (by decide) j) (fun j => g1.2 40 (by decide) j) (fun j => g1.2 41 (by decide) j) (fun j => g1.2 112 (by decide) j) (fun j => g1.2 114 (by decide) j) (fun j => g1.2 115 (by decide) j) (fun j => g1.2 116 (by decide) j) (by omega) (by omega) (by omega)) (fun j => g2.2 37 (by decide) j) (fun j => g2.2 38 (by decide) j) (fun j => g2.2 39 (by decide) j) (fun j => g2.2 40 (by decide) j) (fun j => g2.2 41 (by decide) j) (fun j => g2.2 112 (by decide) j) (fun j => g2.2 114 (by decide) j) (fun j => g2.2 115 (by decide) j) (fun j => g2.2 116 (by decide) j) (by omega) (by omega) (by omega), mm_tm9_sm (mm_tm9_sm (ra35) (fun j => g1.2 29 (by decide) j) (fun j => g1.2 90 (by decide) j) (by omega) (by omega)) (fun j => g2.2 29 (by decide) j) (fun j => g2.2 90 (by decide) j) (by omega) (by omega)⟩)
set_option maxRecDepth 100000 in
set_option maxHeartbeats 4000000 in
theorem lw_c18 {x : mX} {L : Nat} {xs : Nat → Int32} (C : mm_OK 60 601024 7293034 code RL 8 ret x) (X : mm_scr x L xs) (hl : x.2.1.stackTraces = false) (hL : L ≤ 3072) (i : Int) (hi : 0 ≤ i ∧ i + 6 ≤ L) (h : mH) (i0 : mm_inv h) (r0 : mm_RO h) (rl0 : mm_Rl i h) (K : mm_K x i) : mm_W x (mm_aA i h) (mm_bB i h) 1094 (mm_lls i) [] h := by
  have zl := mm_zf_le h
  have ea : mm_aA i h = 200 + i.toNat + (mm_zf h).1 := rfl
  have eb : mm_bB i h = 90000 + 6 * i.toNat + (mm_zf h).2 := rfl
  obtain ⟨rs0, rs1, rs2, rs3, rs4, rs5, rs6, rs7, rs8, rs9, rs10, rs11, rs12, ra0, ra1, ra2, ra3, ra4, ra5, ra6, ra7, ra8, ra9, ra10, ra11, ra12, ra13, ra14, ra15, ra16, ra17, ra18, ra19, ra20, ra21, ra22, ra23, ra24, ra25, ra26, ra27, ra28, ra29, ra30, ra31, ra32, ra33, ra34, ra35⟩ := rl0
  refine mm_aload_n C (mm_dec dk_law11 23 rfl) rfl ?_
  refine mm_aload_n C (mm_dec dk_law11 24 rfl) rfl ?_
  refine mm_iload C (mm_dec dk_law11 25 rfl) rfl ?_
  refine mm_iconst C (mm_dec dk_law11 26 rfl) ⟨by decide, by decide⟩ ?_
  refine mm_iadd C (mm_dec dk_law11 27 rfl) ⟨by omega, by omega⟩ ?_
  refine mm_sld C X (mm_dec dk_law11 28 rfl) (by omega) (by omega) ?_
  refine mm_aload_n C (mm_dec dk_law11 29 rfl) rfl ?_
  refine mm_iload C (mm_dec dk_law11 30 rfl) rfl ?_
  refine mm_iconst C (mm_dec dk_law11 31 rfl) ⟨by decide, by decide⟩ ?_
  refine mm_iadd C (mm_dec dk_law11 32 rfl) ⟨by omega, by omega⟩ ?_
  refine mm_sld C X (mm_dec dk_law11 33 rfl) (by omega) (by omega) ?_
  refine mm_aload_n C (mm_dec dk_law11 34 rfl) rfl ?_
  refine mm_iload C (mm_dec dk_law11 35 rfl) rfl ?_
  refine mm_iconst C (mm_dec dk_law11 36 rfl) ⟨by decide, by decide⟩ ?_
  refine mm_iadd C (mm_dec dk_law11 37 rfl) ⟨by omega, by omega⟩ ?_
  refine mm_sld C X (mm_dec dk_law11 38 rfl) (by omega) (by omega) ?_
  refine mm_aload_n C (mm_dec dk_law11 39 rfl) rfl ?_
  refine mm_cHi (d := 59) (rest := []) C mh_L_split ml_L_173 sm_L_split (mm_dec dk_law11 40 rfl) (c_L_split_q x.2.1 hl 59 (by decide) h i0 (mm_sc xs (i + 1)) (mm_sc xs (i + 2)) (mm_sc xs (i + 3))) rfl (Nat.le_of_ble_eq_true rfl) ⟨by omega, by omega⟩ rfl (fun r1 h1 hp1 => ?_)
  obtain ⟨b1, i1, g1, y1_0, y1_1⟩ := hp1
  have q1_1_5 : h1.1 1 5 = h.1 1 5 := g1.1 1 5 (by decide)
  have q1_66_1 : h1.1 66 1 = h.1 66 1 := g1.1 66 1 (by decide)
  have q1_1_6 : h1.1 1 6 = h.1 1 6 := g1.1 1 6 (by decide)
  have q1_66_2 : h1.1 66 2 = h.1 66 2 := g1.1 66 2 (by decide)
  have q1_14_8 : h1.1 14 8 = h.1 14 8 := g1.1 14 8 (by decide)
  have q1_66_22 : h1.1 66 22 = h.1 66 22 := g1.1 66 22 (by decide)
  have q1_22_8 : h1.1 22 8 = h.1 22 8 := g1.1 22 8 (by decide)
  have q1_66_23 : h1.1 66 23 = h.1 66 23 := g1.1 66 23 (by decide)
  have q1_14_7 : h1.1 14 7 = h.1 14 7 := g1.1 14 7 (by decide)
  have q1_66_21 : h1.1 66 21 = h.1 66 21 := g1.1 66 21 (by decide)
  have q1_22_9 : h1.1 22 9 = h.1 22 9 := g1.1 22 9 (by decide)
  have q1_66_24 : h1.1 66 24 = h.1 66 24 := g1.1 66 24 (by decide)
  have q1_0_12 : h1.1 0 12 = h.1 0 12 := g1.1 0 12 (by decide)
  have q1_66_56 : h1.1 66 56 = h.1 66 56 := g1.1 66 56 (by decide)
  have q1_0_14 : h1.1 0 14 = h.1 0 14 := g1.1 0 14 (by decide)
  have q1_66_58 : h1.1 66 58 = h.1 66 58 := g1.1 66 58 (by decide)
  have q1_30_6 : h1.1 30 6 = h.1 30 6 := g1.1 30 6 (by decide)
  have q1_66_40 : h1.1 66 40 = h.1 66 40 := g1.1 66 40 (by decide)
  have q1_30_12 : h1.1 30 12 = h.1 30 12 := g1.1 30 12 (by decide)
  have q1_66_82 : h1.1 66 82 = h.1 66 82 := g1.1 66 82 (by decide)
  have q1_0_13 : h1.1 0 13 = h.1 0 13 := g1.1 0 13 (by decide)
  have q1_66_41 : h1.1 66 41 = h.1 66 41 := g1.1 66 41 (by decide)
  have q1_1_7 : h1.1 1 7 = h.1 1 7 := g1.1 1 7 (by decide)
  have q1_66_3 : h1.1 66 3 = h.1 66 3 := g1.1 66 3 (by decide)
  have q1_66_9 : h1.1 66 9 = h.1 66 9 := g1.1 66 9 (by decide)
  have q1_66_10 : h1.1 66 10 = h.1 66 10 := g1.1 66 10 (by decide)
  have q1_1_8 : h1.1 1 8 = h.1 1 8 := g1.1 1 8 (by decide)
  have q1_66_11 : h1.1 66 11 = h.1 66 11 := g1.1 66 11 (by decide)
  have q1_66_12 : h1.1 66 12 = h.1 66 12 := g1.1 66 12 (by decide)
  have q1_66_67 : h1.1 66 67 = h.1 66 67 := g1.1 66 67 (by decide)
  have q1_66_68 : h1.1 66 68 = h.1 66 68 := g1.1 66 68 (by decide)
  have q1_30_13 : h1.1 30 13 = h.1 30 13 := g1.1 30 13 (by decide)
  have q1_66_91 : h1.1 66 91 = h.1 66 91 := g1.1 66 91 (by decide)
  have q1_42_3 : h1.1 42 3 = h.1 42 3 := g1.1 42 3 (by decide)
  refine mm_istoreL (ls2 := [mR 3000, mR 0, mR 66, mR 124, mI i, mI r1, mU, mU]) C (mm_dec dk_law11 41 rfl) (by decide) rfl ?_
  refine mm_aload_n C (mm_dec dk_law11 42 rfl) rfl ?_
  refine mm_aload_n C (mm_dec dk_law11 43 rfl) rfl ?_
  refine mm_iload C (mm_dec dk_law11 44 rfl) rfl ?_
  refine mm_iconst C (mm_dec dk_law11 45 rfl) ⟨by decide, by decide⟩ ?_
  refine mm_iadd C (mm_dec dk_law11 46 rfl) ⟨by omega, by omega⟩ ?_
  refine mm_sld C X (mm_dec dk_law11 47 rfl) (by omega) (by omega) ?_
  refine mm_aload_n C (mm_dec dk_law11 48 rfl) rfl ?_
  refine mm_iload C (mm_dec dk_law11 49 rfl) rfl ?_
  refine mm_iconst C (mm_dec dk_law11 50 rfl) ⟨by decide, by decide⟩ ?_
  refine mm_iadd C (mm_dec dk_law11 51 rfl) ⟨by omega, by omega⟩ ?_
  refine mm_sld C X (mm_dec dk_law11 52 rfl) (by omega) (by omega) ?_
  refine mm_aload_n C (mm_dec dk_law11 53 rfl) rfl ?_
  refine mm_iload C (mm_dec dk_law11 54 rfl) rfl ?_
  refine mm_iconst C (mm_dec dk_law11 55 rfl) ⟨by decide, by decide⟩ ?_
  refine mm_iadd C (mm_dec dk_law11 56 rfl) ⟨by omega, by omega⟩ ?_
  refine mm_sld C X (mm_dec dk_law11 57 rfl) (by omega) (by omega) ?_
  refine mm_cVi (d := 59) (rest := []) C ev_L_175 (mm_dec dk_law11 58 rfl) (c_X12_split_q x.2.1 hl 59 (by decide) h1 i1 (mm_sc xs (i + 1)) (mm_sc xs (i + 2)) (mm_sc xs (i + 3))) rfl rfl (Nat.le_of_ble_eq_true rfl) ⟨by omega, by omega⟩ rfl (fun r2 h2 hp2 => ?_) (fun _ _ q => q.elim)
  obtain ⟨b2, i2, g2, y2_0, y2_1⟩ := hp2
  have q2_1_5 : h2.1 1 5 = h1.1 1 5 := g2.1 1 5 (by decide)
  have q2_66_1 : h2.1 66 1 = h1.1 66 1 := g2.1 66 1 (by decide)
  have q2_1_6 : h2.1 1 6 = h1.1 1 6 := g2.1 1 6 (by decide)
  have q2_66_2 : h2.1 66 2 = h1.1 66 2 := g2.1 66 2 (by decide)
  have q2_14_8 : h2.1 14 8 = h1.1 14 8 := g2.1 14 8 (by decide)
  have q2_66_22 : h2.1 66 22 = h1.1 66 22 := g2.1 66 22 (by decide)
  have q2_22_8 : h2.1 22 8 = h1.1 22 8 := g2.1 22 8 (by decide)
  have q2_66_23 : h2.1 66 23 = h1.1 66 23 := g2.1 66 23 (by decide)
  have q2_14_7 : h2.1 14 7 = h1.1 14 7 := g2.1 14 7 (by decide)
  have q2_66_21 : h2.1 66 21 = h1.1 66 21 := g2.1 66 21 (by decide)
  have q2_22_9 : h2.1 22 9 = h1.1 22 9 := g2.1 22 9 (by decide)
  have q2_66_24 : h2.1 66 24 = h1.1 66 24 := g2.1 66 24 (by decide)
  have q2_0_12 : h2.1 0 12 = h1.1 0 12 := g2.1 0 12 (by decide)
  have q2_66_56 : h2.1 66 56 = h1.1 66 56 := g2.1 66 56 (by decide)
  have q2_0_14 : h2.1 0 14 = h1.1 0 14 := g2.1 0 14 (by decide)
  have q2_66_58 : h2.1 66 58 = h1.1 66 58 := g2.1 66 58 (by decide)
  have q2_30_6 : h2.1 30 6 = h1.1 30 6 := g2.1 30 6 (by decide)
  have q2_66_40 : h2.1 66 40 = h1.1 66 40 := g2.1 66 40 (by decide)
  have q2_30_12 : h2.1 30 12 = h1.1 30 12 := g2.1 30 12 (by decide)
  have q2_66_82 : h2.1 66 82 = h1.1 66 82 := g2.1 66 82 (by decide)
  have q2_0_13 : h2.1 0 13 = h1.1 0 13 := g2.1 0 13 (by decide)
  have q2_66_41 : h2.1 66 41 = h1.1 66 41 := g2.1 66 41 (by decide)
  have q2_1_7 : h2.1 1 7 = h1.1 1 7 := g2.1 1 7 (by decide)
  have q2_66_3 : h2.1 66 3 = h1.1 66 3 := g2.1 66 3 (by decide)
  have q2_66_9 : h2.1 66 9 = h1.1 66 9 := g2.1 66 9 (by decide)
  have q2_66_10 : h2.1 66 10 = h1.1 66 10 := g2.1 66 10 (by decide)
  have q2_1_8 : h2.1 1 8 = h1.1 1 8 := g2.1 1 8 (by decide)
  have q2_66_11 : h2.1 66 11 = h1.1 66 11 := g2.1 66 11 (by decide)
  have q2_66_12 : h2.1 66 12 = h1.1 66 12 := g2.1 66 12 (by decide)
  have q2_66_67 : h2.1 66 67 = h1.1 66 67 := g2.1 66 67 (by decide)
  have q2_66_68 : h2.1 66 68 = h1.1 66 68 := g2.1 66 68 (by decide)
  have q2_30_13 : h2.1 30 13 = h1.1 30 13 := g2.1 30 13 (by decide)
  have q2_66_91 : h2.1 66 91 = h1.1 66 91 := g2.1 66 91 (by decide)
  have q2_42_3 : h2.1 42 3 = h1.1 42 3 := g2.1 42 3 (by decide)
  have qa2 : h2.2.1 124 0 = h1.2.1 124 0 := g2.2 124 (by decide) 0
  refine mm_istoreL (ls2 := [mR 3000, mR 0, mR 66, mR 124, mI i, mI r1, mI r2, mU]) C (mm_dec dk_law11 59 rfl) (by decide) rfl ?_
  refine mm_goto (tgt := 1668) C (mm_dec dk_law12 0 rfl) (by decide) ?_
  refine mm_fgt 5 ?_
  refine mm_fgt 6 ?_
  have ze := mm_zf_eq (show h2.1 58 5 = h.1 58 5 from (g2.1 58 5 (by decide)).trans ((g1.1 58 5 (by decide)).trans (rfl)))
  refine mm_widen (k := mm_aA (i + 6) h2) (n := mm_bB (i + 6) h2) (by rw [show mm_aA (i + 6) h2 = 200 + (i + 6).toNat + (mm_zf h).1 from by unfold mm_aA; rw [ze]]; omega) (by rw [show mm_bB (i + 6) h2 = 90000 + 6 * (i + 6).toNat + (mm_zf h).2 from by unfold mm_bB; rw [ze]]; omega) ?_
  exact K h2 i2 (mm_RO_fr (mm_RO_fr (r0) g1 (by decide)) g2 (by decide)) (by unfold mm_Rl; exact ⟨by omega, by omega, by omega, by omega, by omega, by omega, by omega, by omega, by omega, by omega, by omega, by omega, by omega, mm_eq_fr (mm_eq_fr (ra0) g1 (by decide) (by decide)) g2 (by decide) (by decide), mm_eq_fr (mm_eq_fr (ra1) g1 (by decide) (by decide)) g2 (by decide) (by decide), mm_eq_le (mm_eq_fr (mm_eq_fr (ra2) g1 (by decide) (by decide)) g2 (by decide) (by decide)) (by omega), mm_eq_le (mm_eq_fr (mm_eq_fr (ra3) g1 (by decide) (by decide)) g2 (by decide) (by decide)) (by omega), mm_eq_le (mm_eq_fr (mm_eq_fr (ra4) g1 (by decide) (by decide)) g2 (by decide) (by decide)) (by omega), mm_eq_le (mm_eq_fr (mm_eq_fr (ra5) g1 (by decide) (by decide)) g2 (by decide) (by decide)) (by omega), mm_tk_sm (mm_tk_sm (ra6) (fun j => g1.2 18 (by decide) j) (fun j => g1.2 85 (by decide) j) (by omega) (by omega)) (fun j => g2.2 18 (by decide) j) (fun j => g2.2 85 (by decide) j) (by omega) (by omega), mm_cb_sm (mm_cb_sm (ra7) (fun j => g1.2 85 (by decide) j) (by omega) (by omega)) (fun j => g2.2 85 (by decide) j) (by omega) (by omega), mm_fb_sm (mm_fb_sm (ra8) (fun j => g1.2 20 (by decide) j) (by omega)) (fun j => g2.2 20 (by decide) j) (by omega), mm_eq_fr (mm_eq_fr (ra9) g1 (by decide) (by decide)) g2 (by decide) (by decide), mm_eq_fr (mm_eq_fr (ra10) g1 (by decide) (by decide)) g2 (by decide) (by decide), mm_eq_fr (mm_eq_fr (ra11) g1 (by decide) (by decide)) g2 (by decide) (by decide), mm_eq_le (mm_eq_fr (mm_eq_fr (ra12) g1 (by decide) (by decide)) g2 (by decide) (by decide)) (by omega), mm_go_sm (mm_go_sm (ra13) (fun j => g1.2 6 (by decide) j) (by omega) (by omega) (by omega) (by omega) (by omega) (by omega)) (fun j => g2.2 6 (by decide) j) (by omega) (by omega) (by omega) (by omega) (by omega) (by omega), mm_eq_le (mm_eq_fr (mm_eq_fr (ra14) g1 (by decide) (by decide)) g2 (by decide) (by decide)) (by omega), mm_eq_le (mm_eq_fr (mm_eq_fr (ra15) g1 (by decide) (by decide)) g2 (by decide) (by decide)) (by omega), mm_it_sm (mm_it_sm (ra16) (fun j => g1.2 28 (by decide) j) (fun j => g1.2 88 (by decide) j) (by omega)) (fun j => g2.2 28 (by decide) j) (fun j => g2.2 88 (by decide) j) (by omega), mm_br_sm (mm_br_sm (ra17) (fun j => g1.2 21 (by decide) j) (fun j => g1.2 82 (by decide) j) (fun j => g1.2 84 (by decide) j) (fun j => g1.2 19 (by decide) j) (by omega)) (fun j => g2.2 21 (by decide) j) (fun j => g2.2 82 (by decide) j) (fun j => g2.2 84 (by decide) j) (fun j => g2.2 19 (by decide) j) (by omega), mm_gn_sm (mm_gn_sm (ra18)  (by omega) (by omega) (by omega) (by omega) (by omega))  (by omega) (by omega) (by omega) (by omega) (by omega), mm_pc_sm (mm_pc_sm (ra19) (fun j => g1.2 15 (by decide) j) (by omega) (by omega) (by omega)) (fun j => g2.2 15 (by decide) j) (by omega) (by omega) (by omega), mm_bv_sm (mm_bv_sm (ra20) (fun j => g1.2 21 (by decide) j) (fun j => g1.2 19 (by decide) j) (by omega) (by omega)) (fun j => g2.2 21 (by decide) j) (fun j => g2.2 19 (by decide) j) (by omega) (by omega), mm_eq_le (mm_eq_fr (mm_eq_fr (ra21) g1 (by decide) (by decide)) g2 (by decide) (by decide)) (by omega), mm_eq_le (mm_eq_fr (mm_eq_fr (ra22) g1 (by decide) (by decide)) g2 (by decide) (by decide)) (by omega), mm_eq_le (mm_eq_fr (mm_eq_fr (ra23) g1 (by decide) (by decide)) g2 (by decide) (by decide)) (by omega), mm_eq_le (mm_eq_fr (mm_eq_fr (ra24) g1 (by decide) (by decide)) g2 (by decide) (by decide)) (by omega), mm_eq_le (mm_eq_fr (mm_eq_fr (ra25) g1 (by decide) (by decide)) g2 (by decide) (by decide)) (by omega), mm_eq_le (mm_eq_fr (mm_eq_fr (ra26) g1 (by decide) (by decide)) g2 (by decide) (by decide)) (by omega), mm_ah_sm (mm_ah_sm (ra27) (fun j => g1.2 27 (by decide) j) (fun j => g1.2 88 (by decide) j) (fun j => g1.2 89 (by decide) j) (by omega)) (fun j => g2.2 27 (by decide) j) (fun j => g2.2 88 (by decide) j) (fun j => g2.2 89 (by decide) j) (by omega), mm_pw9_sm (mm_pw9_sm (ra28) (fun j => g1.2 44 (by decide) j) (fun j => g1.2 102 (by decide) j) (by omega) (by omega)) (fun j => g2.2 44 (by decide) j) (fun j => g2.2 102 (by decide) j) (by omega) (by omega), mm_eq_le (mm_eq_fr (mm_eq_fr (ra29) g1 (by decide) (by decide)) g2 (by decide) (by decide)) (by omega), mm_ep8_sm (mm_ep8_sm (ra30) (fun j => g1.2 31 (by decide) j) (fun j => g1.2 33 (by decide) j) (fun j => g1.2 94 (by decide) j) (by omega)) (fun j => g2.2 31 (by decide) j) (fun j => g2.2 33 (by decide) j) (fun j => g2.2 94 (by decide) j) (by omega), mm_ab8_sm (mm_ab8_sm (ra31) (fun j => g1.2 27 (by decide) j) (fun j => g1.2 88 (by decide) j) (fun j => g1.2 89 (by decide) j) (fun j => g1.2 90 (by decide) j) (by omega) (by omega)) (fun j => g2.2 27 (by decide) j) (fun j => g2.2 88 (by decide) j) (fun j => g2.2 89 (by decide) j) (fun j => g2.2 90 (by decide) j) (by omega) (by omega), mm_eq_le (mm_eq_fr (mm_eq_fr (ra32) g1 (by decide) (by decide)) g2 (by decide) (by decide)) (by omega), mm_cJ_sm (mm_cJ_sm (ra33) (fun j => g1.2 43 (by decide) j) (fun j => g1.2 103 (by decide) j) (fun j => g1.2 104 (by decide) j) (fun j => g1.2 105 (by decide) j) (fun j => g1.2 106 (by decide) j) (fun j => g1.2 107 (by decide) j) (by omega) (by omega) (by omega)) (fun j => g2.2 43 (by decide) j) (fun j => g2.2 103 (by decide) j) (fun j => g2.2 104 (by decide) j) (fun j => g2.2 105 (by decide) j) (fun j => g2.2 106 (by decide) j) (fun j => g2.2 107 (by decide) j) (by omega) (by omega) (by omega), mm_pt9_sm (mm_pt9_sm (ra34) (fun j => g1.2 37 (by decide) j) (fun j => g1.2 38 (by decide) j) (fun j => g1.2 39 (by decide) j) (fun j => g1.2 40 (by decide) j) (fun j => g1.2 41 (by decide) j) (fun j => g1.2 112 (by decide) j) (fun j => g1.2 114 (by decide) j) (fun j => g1.2 115 (by decide) j) (fun j => g1.2 116 (by decide) j) (by omega) (by omega) (by omega)) (fun j => g2.2 37 (by decide) j) (fun j => g2.2 38 (by decide) j) (fun j => g2.2 39 (by decide) j) (fun j => g2.2 40 (by decide) j) (fun j => g2.2 41 (by decide) j) (fun j => g2.2 112 (by decide) j) (fun j => g2.2 114 (by decide) j) (fun j => g2.2 115 (by decide) j) (fun j => g2.2 116 (by decide) j) (by omega) (by omega) (by omega), mm_tm9_sm (mm_tm9_sm (ra35) (fun j => g1.2 29 (by decide) j) (fun j => g1.2 90 (by decide) j) (by omega) (by omega)) (fun j => g2.2 29 (by decide) j) (fun j => g2.2 90 (by decide) j) (by omega) (by omega)⟩)
set_option maxRecDepth 100000 in
set_option maxHeartbeats 4000000 in
theorem lw_c19 {x : mX} {L : Nat} {xs : Nat → Int32} (C : mm_OK 60 601024 7293034 code RL 8 ret x) (X : mm_scr x L xs) (hl : x.2.1.stackTraces = false) (hL : L ≤ 3072) (i : Int) (hi : 0 ≤ i ∧ i + 6 ≤ L) (h : mH) (i0 : mm_inv h) (r0 : mm_RO h) (rl0 : mm_Rl i h) (K : mm_K x i) : mm_W x (mm_aA i h) (mm_bB i h) 1146 (mm_lls i) [] h := by
  have zl := mm_zf_le h
  have ea : mm_aA i h = 200 + i.toNat + (mm_zf h).1 := rfl
  have eb : mm_bB i h = 90000 + 6 * i.toNat + (mm_zf h).2 := rfl
  obtain ⟨rs0, rs1, rs2, rs3, rs4, rs5, rs6, rs7, rs8, rs9, rs10, rs11, rs12, ra0, ra1, ra2, ra3, ra4, ra5, ra6, ra7, ra8, ra9, ra10, ra11, ra12, ra13, ra14, ra15, ra16, ra17, ra18, ra19, ra20, ra21, ra22, ra23, ra24, ra25, ra26, ra27, ra28, ra29, ra30, ra31, ra32, ra33, ra34, ra35⟩ := rl0
  refine mm_aload_n C (mm_dec dk_law12 1 rfl) rfl ?_
  refine mm_aload_n C (mm_dec dk_law12 2 rfl) rfl ?_
  refine mm_iload C (mm_dec dk_law12 3 rfl) rfl ?_
  refine mm_iconst C (mm_dec dk_law12 4 rfl) ⟨by decide, by decide⟩ ?_
  refine mm_iadd C (mm_dec dk_law12 5 rfl) ⟨by omega, by omega⟩ ?_
  refine mm_sld C X (mm_dec dk_law12 6 rfl) (by omega) (by omega) ?_
  refine mm_aload_n C (mm_dec dk_law12 7 rfl) rfl ?_
  refine mm_iload C (mm_dec dk_law12 8 rfl) rfl ?_
  refine mm_iconst C (mm_dec dk_law12 9 rfl) ⟨by decide, by decide⟩ ?_
  refine mm_iadd C (mm_dec dk_law12 10 rfl) ⟨by omega, by omega⟩ ?_
  refine mm_sld C X (mm_dec dk_law12 11 rfl) (by omega) (by omega) ?_
  refine mm_aload_n C (mm_dec dk_law12 12 rfl) rfl ?_
  refine mm_iload C (mm_dec dk_law12 13 rfl) rfl ?_
  refine mm_iconst C (mm_dec dk_law12 14 rfl) ⟨by decide, by decide⟩ ?_
  refine mm_iadd C (mm_dec dk_law12 15 rfl) ⟨by omega, by omega⟩ ?_
  refine mm_sld C X (mm_dec dk_law12 16 rfl) (by omega) (by omega) ?_
  refine mm_aload_n C (mm_dec dk_law12 17 rfl) rfl ?_
  refine mm_cHi (d := 59) (rest := []) C mh_L_ofTeam ml_L_176 sm_L_ofTeam (mm_dec dk_law12 18 rfl) (c_L_ofTeam_q x.2.1 hl 59 (by decide) h i0 (mm_sc xs (i + 1)) (mm_sc xs (i + 2)) (mm_sc xs (i + 3))) rfl (Nat.le_of_ble_eq_true rfl) ⟨by omega, by omega⟩ rfl (fun r1 h1 hp1 => ?_)
  obtain ⟨b1, i1, g1, y1_0, y1_1⟩ := hp1
  have q1_1_5 : h1.1 1 5 = h.1 1 5 := g1.1 1 5 (by decide)
  have q1_66_1 : h1.1 66 1 = h.1 66 1 := g1.1 66 1 (by decide)
  have q1_1_6 : h1.1 1 6 = h.1 1 6 := g1.1 1 6 (by decide)
  have q1_66_2 : h1.1 66 2 = h.1 66 2 := g1.1 66 2 (by decide)
  have q1_14_8 : h1.1 14 8 = h.1 14 8 := g1.1 14 8 (by decide)
  have q1_66_22 : h1.1 66 22 = h.1 66 22 := g1.1 66 22 (by decide)
  have q1_22_8 : h1.1 22 8 = h.1 22 8 := g1.1 22 8 (by decide)
  have q1_66_23 : h1.1 66 23 = h.1 66 23 := g1.1 66 23 (by decide)
  have q1_14_7 : h1.1 14 7 = h.1 14 7 := g1.1 14 7 (by decide)
  have q1_66_21 : h1.1 66 21 = h.1 66 21 := g1.1 66 21 (by decide)
  have q1_22_9 : h1.1 22 9 = h.1 22 9 := g1.1 22 9 (by decide)
  have q1_66_24 : h1.1 66 24 = h.1 66 24 := g1.1 66 24 (by decide)
  have q1_0_12 : h1.1 0 12 = h.1 0 12 := g1.1 0 12 (by decide)
  have q1_66_56 : h1.1 66 56 = h.1 66 56 := g1.1 66 56 (by decide)
  have q1_0_14 : h1.1 0 14 = h.1 0 14 := g1.1 0 14 (by decide)
  have q1_66_58 : h1.1 66 58 = h.1 66 58 := g1.1 66 58 (by decide)
  have q1_30_6 : h1.1 30 6 = h.1 30 6 := g1.1 30 6 (by decide)
  have q1_66_40 : h1.1 66 40 = h.1 66 40 := g1.1 66 40 (by decide)
  have q1_30_12 : h1.1 30 12 = h.1 30 12 := g1.1 30 12 (by decide)
  have q1_66_82 : h1.1 66 82 = h.1 66 82 := g1.1 66 82 (by decide)
  have q1_0_13 : h1.1 0 13 = h.1 0 13 := g1.1 0 13 (by decide)
  have q1_66_41 : h1.1 66 41 = h.1 66 41 := g1.1 66 41 (by decide)
  have q1_1_7 : h1.1 1 7 = h.1 1 7 := g1.1 1 7 (by decide)
  have q1_66_3 : h1.1 66 3 = h.1 66 3 := g1.1 66 3 (by decide)
  have q1_66_9 : h1.1 66 9 = h.1 66 9 := g1.1 66 9 (by decide)
  have q1_66_10 : h1.1 66 10 = h.1 66 10 := g1.1 66 10 (by decide)
  have q1_1_8 : h1.1 1 8 = h.1 1 8 := g1.1 1 8 (by decide)
  have q1_66_11 : h1.1 66 11 = h.1 66 11 := g1.1 66 11 (by decide)
  have q1_66_12 : h1.1 66 12 = h.1 66 12 := g1.1 66 12 (by decide)
  have q1_66_67 : h1.1 66 67 = h.1 66 67 := g1.1 66 67 (by decide)
  have q1_66_68 : h1.1 66 68 = h.1 66 68 := g1.1 66 68 (by decide)
  have q1_30_13 : h1.1 30 13 = h.1 30 13 := g1.1 30 13 (by decide)
  have q1_66_91 : h1.1 66 91 = h.1 66 91 := g1.1 66 91 (by decide)
  have q1_42_3 : h1.1 42 3 = h.1 42 3 := g1.1 42 3 (by decide)
  refine mm_istoreL (ls2 := [mR 3000, mR 0, mR 66, mR 124, mI i, mI r1, mU, mU]) C (mm_dec dk_law12 19 rfl) (by decide) rfl ?_
  refine mm_aload_n C (mm_dec dk_law12 20 rfl) rfl ?_
  refine mm_aload_n C (mm_dec dk_law12 21 rfl) rfl ?_
  refine mm_iload C (mm_dec dk_law12 22 rfl) rfl ?_
  refine mm_iconst C (mm_dec dk_law12 23 rfl) ⟨by decide, by decide⟩ ?_
  refine mm_iadd C (mm_dec dk_law12 24 rfl) ⟨by omega, by omega⟩ ?_
  refine mm_sld C X (mm_dec dk_law12 25 rfl) (by omega) (by omega) ?_
  refine mm_aload_n C (mm_dec dk_law12 26 rfl) rfl ?_
  refine mm_iload C (mm_dec dk_law12 27 rfl) rfl ?_
  refine mm_iconst C (mm_dec dk_law12 28 rfl) ⟨by decide, by decide⟩ ?_
  refine mm_iadd C (mm_dec dk_law12 29 rfl) ⟨by omega, by omega⟩ ?_
  refine mm_sld C X (mm_dec dk_law12 30 rfl) (by omega) (by omega) ?_
  refine mm_aload_n C (mm_dec dk_law12 31 rfl) rfl ?_
  refine mm_iload C (mm_dec dk_law12 32 rfl) rfl ?_
  refine mm_iconst C (mm_dec dk_law12 33 rfl) ⟨by decide, by decide⟩ ?_
  refine mm_iadd C (mm_dec dk_law12 34 rfl) ⟨by omega, by omega⟩ ?_
  refine mm_sld C X (mm_dec dk_law12 35 rfl) (by omega) (by omega) ?_
  refine mm_cVi (d := 59) (rest := []) C ev_L_178 (mm_dec dk_law12 36 rfl) (c_X12_ofTeam_q x.2.1 hl 59 (by decide) h1 i1 (mm_sc xs (i + 1)) (mm_sc xs (i + 2)) (mm_sc xs (i + 3)) (mm_RO_fr (r0) g1 (by decide))) rfl rfl (Nat.le_of_ble_eq_true rfl) ⟨by omega, by omega⟩ rfl (fun r2 h2 hp2 => ?_) (fun _ _ q => q.elim)
  obtain ⟨b2, i2, g2, y2_0, y2_1⟩ := hp2
  have q2_1_5 : h2.1 1 5 = h1.1 1 5 := g2.1 1 5 (by decide)
  have q2_66_1 : h2.1 66 1 = h1.1 66 1 := g2.1 66 1 (by decide)
  have q2_1_6 : h2.1 1 6 = h1.1 1 6 := g2.1 1 6 (by decide)
  have q2_66_2 : h2.1 66 2 = h1.1 66 2 := g2.1 66 2 (by decide)
  have q2_14_8 : h2.1 14 8 = h1.1 14 8 := g2.1 14 8 (by decide)
  have q2_66_22 : h2.1 66 22 = h1.1 66 22 := g2.1 66 22 (by decide)
  have q2_22_8 : h2.1 22 8 = h1.1 22 8 := g2.1 22 8 (by decide)
  have q2_66_23 : h2.1 66 23 = h1.1 66 23 := g2.1 66 23 (by decide)
  have q2_14_7 : h2.1 14 7 = h1.1 14 7 := g2.1 14 7 (by decide)
  have q2_66_21 : h2.1 66 21 = h1.1 66 21 := g2.1 66 21 (by decide)
  have q2_22_9 : h2.1 22 9 = h1.1 22 9 := g2.1 22 9 (by decide)
  have q2_66_24 : h2.1 66 24 = h1.1 66 24 := g2.1 66 24 (by decide)
  have q2_0_12 : h2.1 0 12 = h1.1 0 12 := g2.1 0 12 (by decide)
  have q2_66_56 : h2.1 66 56 = h1.1 66 56 := g2.1 66 56 (by decide)
  have q2_0_14 : h2.1 0 14 = h1.1 0 14 := g2.1 0 14 (by decide)
  have q2_66_58 : h2.1 66 58 = h1.1 66 58 := g2.1 66 58 (by decide)
  have q2_30_6 : h2.1 30 6 = h1.1 30 6 := g2.1 30 6 (by decide)
  have q2_66_40 : h2.1 66 40 = h1.1 66 40 := g2.1 66 40 (by decide)
  have q2_30_12 : h2.1 30 12 = h1.1 30 12 := g2.1 30 12 (by decide)
  have q2_66_82 : h2.1 66 82 = h1.1 66 82 := g2.1 66 82 (by decide)
  have q2_0_13 : h2.1 0 13 = h1.1 0 13 := g2.1 0 13 (by decide)
  have q2_66_41 : h2.1 66 41 = h1.1 66 41 := g2.1 66 41 (by decide)
  have q2_1_7 : h2.1 1 7 = h1.1 1 7 := g2.1 1 7 (by decide)
  have q2_66_3 : h2.1 66 3 = h1.1 66 3 := g2.1 66 3 (by decide)
  have q2_66_9 : h2.1 66 9 = h1.1 66 9 := g2.1 66 9 (by decide)
  have q2_66_10 : h2.1 66 10 = h1.1 66 10 := g2.1 66 10 (by decide)
  have q2_1_8 : h2.1 1 8 = h1.1 1 8 := g2.1 1 8 (by decide)
  have q2_66_11 : h2.1 66 11 = h1.1 66 11 := g2.1 66 11 (by decide)
  have q2_66_12 : h2.1 66 12 = h1.1 66 12 := g2.1 66 12 (by decide)
  have q2_66_67 : h2.1 66 67 = h1.1 66 67 := g2.1 66 67 (by decide)
  have q2_66_68 : h2.1 66 68 = h1.1 66 68 := g2.1 66 68 (by decide)
  have q2_30_13 : h2.1 30 13 = h1.1 30 13 := g2.1 30 13 (by decide)
  have q2_66_91 : h2.1 66 91 = h1.1 66 91 := g2.1 66 91 (by decide)
  have q2_42_3 : h2.1 42 3 = h1.1 42 3 := g2.1 42 3 (by decide)
  have R : mm_RW h := ⟨i0, by omega, by omega, by omega, by omega, ra0, ra1, ra9, ra10, ra11, ra13, ra18, ra19, ra20, ra17, ra7, ra2, ra4, ra14, ra15⟩
  have D9 : mm_JD h := ⟨R, ra31, ra21, ra22, ra23, ra24, ra29, ra30, ra3, by omega, ra26, ra32, ra28, ra33, ra34, ra25, by omega⟩
  have y9 : mm_hd _ := y1_1
  have y8 : mm_hd _ := y2_1
  clear y1_1 y2_1
  have eW : r1 ≠ 0 ∨ h1.2.1 124 0 = r2 := by
    by_cases q : r1 = 0
    · have z0 : h2.1 66 0 = 0 := by omega
      exact Or.inr (mm_ofTeam_law (t := (mm_sc xs (i + 1))) (w := (mm_sc xs (i + 2))) (k := (mm_sc xs (i + 3))) D9 ra35 (by omega) (by omega) ((mm_hd_x y9).2 q) (mm_oY9_fr (mm_hd_x y8 z0) (mm_k2_fr g1 (by decide)) (g1.2 79 (by decide)) (g1.2 80 (by decide)) (g1.2 82 (by decide)) (g1.2 83 (by decide)) (g1.2 84 (by decide)) (g1.2 85 (by decide)) (g1.2 86 (by decide)) (g1.2 87 (by decide)) (g1.2 88 (by decide)) (g1.2 89 (by decide)) (g1.2 90 (by decide)) (g1.2 94 (by decide)) (g1.2 95 (by decide)) (g1.2 112 (by decide)) (g1.2 113 (by decide)) (g1.2 114 (by decide)) (g1.2 115 (by decide)) (g1.2 116 (by decide)) (g1.2 102 (by decide)) (g1.2 103 (by decide)) (g1.2 104 (by decide)) (g1.2 105 (by decide)) (g1.2 106 (by decide)) (g1.2 107 (by decide)) (g1.1 66 40 (by decide)) (g1.1 66 82 (by decide)) (g1.1 66 67 (by decide)) (g1.1 66 68 (by decide)) (g1.1 66 24 (by decide))))
    · exact Or.inl q
  have qa2 : h2.2.1 124 0 = h1.2.1 124 0 := g2.2 124 (by decide) 0
  refine mm_istoreL (ls2 := [mR 3000, mR 0, mR 66, mR 124, mI i, mI r1, mI r2, mU]) C (mm_dec dk_law12 37 rfl) (by decide) rfl ?_
  refine mm_aload_n C (mm_dec dk_law12 38 rfl) rfl ?_
  refine mm_cVi (d := 59) (rest := []) C ev_L_179 (mm_dec dk_law12 39 rfl) (c_X12_thrown_q x.2.1 hl 59 (by decide) h2 i2 ) rfl rfl (Nat.le_of_ble_eq_true rfl) ⟨by omega, by omega⟩ rfl (fun r3 h3 hp3 => ?_) (fun _ _ q => q.elim)
  have z3 := hp3.1
  have w3 := hp3.2
  rw [z3]
  refine mm_iload C (mm_dec dk_law12 40 rfl) rfl ?_
  refine mm_icmp_eq (tgt := 1206) C (mm_dec dk_law12 41 rfl) (by decide) (fun ca1 => ?_) (fun ca1 => ?_)
  · skip
    refine mm_iload C (mm_dec dk_law12 44 rfl) rfl ?_
    refine mm_if_ne (tgt := 1223) C (mm_dec dk_law12 45 rfl) (by decide) (fun ca2 => ?_) (fun ca2 => ?_)
    · skip
      refine mm_goto (tgt := 1668) C (mm_dec dk_law12 55 rfl) (by decide) ?_
      refine mm_fgt 5 ?_
      refine mm_fgt 6 ?_
      have ze := mm_zf_eq (show h2.1 58 5 = h.1 58 5 from (g2.1 58 5 (by decide)).trans ((g1.1 58 5 (by decide)).trans (rfl)))
      refine mm_widen (k := mm_aA (i + 6) h2) (n := mm_bB (i + 6) h2) (by rw [show mm_aA (i + 6) h2 = 200 + (i + 6).toNat + (mm_zf h).1 from by unfold mm_aA; rw [ze]]; omega) (by rw [show mm_bB (i + 6) h2 = 90000 + 6 * (i + 6).toNat + (mm_zf h).2 from by unfold mm_bB; rw [ze]]; omega) ?_
      exact K h2 i2 (mm_RO_fr (mm_RO_fr (r0) g1 (by decide)) g2 (by decide)) (by unfold mm_Rl; exact ⟨by omega, by omega, by omega, by omega, by omega, by omega, by omega, by omega, by omega, by omega, by omega, by omega, by omega, mm_eq_fr (mm_eq_fr (ra0) g1 (by decide) (by decide)) g2 (by decide) (by decide), mm_eq_fr (mm_eq_fr (ra1) g1 (by decide) (by decide)) g2 (by decide) (by decide), mm_eq_le (mm_eq_fr (mm_eq_fr (ra2) g1 (by decide) (by decide)) g2 (by decide) (by decide)) (by omega), mm_eq_le (mm_eq_fr (mm_eq_fr (ra3) g1 (by decide) (by decide)) g2 (by decide) (by decide)) (by omega), mm_eq_le (mm_eq_fr (mm_eq_fr (ra4) g1 (by decide) (by decide)) g2 (by decide) (by decide)) (by omega), mm_eq_le (mm_eq_fr (mm_eq_fr (ra5) g1 (by decide) (by decide)) g2 (by decide) (by decide)) (by omega), mm_tk_sm (mm_tk_sm (ra6) (fun j => g1.2 18 (by decide) j) (fun j => g1.2 85 (by decide) j) (by omega) (by omega)) (fun j => g2.2 18 (by decide) j) (fun j => g2.2 85 (by decide) j) (by omega) (by omega), mm_cb_sm (mm_cb_sm (ra7) (fun j => g1.2 85 (by decide) j) (by omega) (by omega)) (fun j => g2.2 85 (by decide) j) (by omega) (by omega), mm_fb_sm (mm_fb_sm (ra8) (fun j => g1.2 20 (by decide) j) (by omega)) (fun j => g2.2 20 (by decide) j) (by omega), mm_eq_fr (mm_eq_fr (ra9) g1 (by decide) (by decide)) g2 (by decide) (by decide), mm_eq_fr (mm_eq_fr (ra10) g1 (by decide) (by decide)) g2 (by decide) (by decide), mm_eq_fr (mm_eq_fr (ra11) g1 (by decide) (by decide)) g2 (by decide) (by decide), mm_eq_le (mm_eq_fr (mm_eq_fr (ra12) g1 (by decide) (by decide)) g2 (by decide) (by decide)) (by omega), mm_go_sm (mm_go_sm (ra13) (fun j => g1.2 6 (by decide) j) (by omega) (by omega) (by omega) (by omega) (by omega) (by omega)) (fun j => g2.2 6 (by decide) j) (by omega) (by omega) (by omega) (by omega) (by omega) (by omega), mm_eq_le (mm_eq_fr (mm_eq_fr (ra14) g1 (by decide) (by decide)) g2 (by decide) (by decide)) (by omega), mm_eq_le (mm_eq_fr (mm_eq_fr (ra15) g1 (by decide) (by decide)) g2 (by decide) (by decide)) (by omega), mm_it_sm (mm_it_sm (ra16) (fun j => g1.2 28 (by decide) j) (fun j => g1.2 88 (by decide) j) (by omega)) (fun j => g2.2 28 (by decide) j) (fun j => g2.2 88 (by decide) j) (by omega), mm_br_sm (mm_br_sm (ra17) (fun j => g1.2 21 (by decide) j) (fun j => g1.2 82 (by decide) j) (fun j => g1.2 84 (by decide) j) (fun j => g1.2 19 (by decide) j) (by omega)) (fun j => g2.2 21 (by decide) j) (fun j => g2.2 82 (by decide) j) (fun j => g2.2 84 (by decide) j) (fun j => g2.2 19 (by decide) j) (by omega), mm_gn_sm (mm_gn_sm (ra18)  (by omega) (by omega) (by omega) (by omega) (by omega))  (by omega) (by omega) (by omega) (by omega) (by omega), mm_pc_sm (mm_pc_sm (ra19) (fun j => g1.2 15 (by decide) j) (by omega) (by omega) (by omega)) (fun j => g2.2 15 (by decide) j) (by omega) (by omega) (by omega), mm_bv_sm (mm_bv_sm (ra20) (fun j => g1.2 21 (by decide) j) (fun j => g1.2 19 (by decide) j) (by omega) (by omega)) (fun j => g2.2 21 (by decide) j) (fun j => g2.2 19 (by decide) j) (by omega) (by omega), mm_eq_le (mm_eq_fr (mm_eq_fr (ra21) g1 (by decide) (by decide)) g2 (by decide) (by decide)) (by omega), mm_eq_le (mm_eq_fr (mm_eq_fr (ra22) g1 (by decide) (by decide)) g2 (by decide) (by decide)) (by omega), mm_eq_le (mm_eq_fr (mm_eq_fr (ra23) g1 (by decide) (by decide)) g2 (by decide) (by decide)) (by omega), mm_eq_le (mm_eq_fr (mm_eq_fr (ra24) g1 (by decide) (by decide)) g2 (by decide) (by decide)) (by omega), mm_eq_le (mm_eq_fr (mm_eq_fr (ra25) g1 (by decide) (by decide)) g2 (by decide) (by decide)) (by omega), mm_eq_le (mm_eq_fr (mm_eq_fr (ra26) g1 (by decide) (by decide)) g2 (by decide) (by decide)) (by omega), mm_ah_sm (mm_ah_sm (ra27) (fun j => g1.2 27 (by decide) j) (fun j => g1.2 88 (by decide) j) (fun j => g1.2 89 (by decide) j) (by omega)) (fun j => g2.2 27 (by decide) j) (fun j => g2.2 88 (by decide) j) (fun j => g2.2 89 (by decide) j) (by omega), mm_pw9_sm (mm_pw9_sm (ra28) (fun j => g1.2 44 (by decide) j) (fun j => g1.2 102 (by decide) j) (by omega) (by omega)) (fun j => g2.2 44 (by decide) j) (fun j => g2.2 102 (by decide) j) (by omega) (by omega), mm_eq_le (mm_eq_fr (mm_eq_fr (ra29) g1 (by decide) (by decide)) g2 (by decide) (by decide)) (by omega), mm_ep8_sm (mm_ep8_sm (ra30) (fun j => g1.2 31 (by decide) j) (fun j => g1.2 33 (by decide) j) (fun j => g1.2 94 (by decide) j) (by omega)) (fun j => g2.2 31 (by decide) j) (fun j => g2.2 33 (by decide) j) (fun j => g2.2 94 (by decide) j) (by omega), mm_ab8_sm (mm_ab8_sm (ra31) (fun j => g1.2 27 (by decide) j) (fun j => g1.2 88 (by decide) j) (fun j => g1.2 89 (by decide) j) (fun j => g1.2 90 (by decide) j) (by omega) (by omega)) (fun j => g2.2 27 (by decide) j) (fun j => g2.2 88 (by decide) j) (fun j => g2.2 89 (by decide) j) (fun j => g2.2 90 (by decide) j) (by omega) (by omega), mm_eq_le (mm_eq_fr (mm_eq_fr (ra32) g1 (by decide) (by decide)) g2 (by decide) (by decide)) (by omega), mm_cJ_sm (mm_cJ_sm (ra33) (fun j => g1.2 43 (by decide) j) (fun j => g1.2 103 (by decide) j) (fun j => g1.2 104 (by decide) j) (fun j => g1.2 105 (by decide) j) (fun j => g1.2 106 (by decide) j) (fun j => g1.2 107 (by decide) j) (by omega) (by omega) (by omega)) (fun j => g2.2 43 (by decide) j) (fun j => g2.2 103 (by decide) j) (fun j => g2.2 104 (by decide) j) (fun j => g2.2 105 (by decide) j) (fun j => g2.2 106 (by decide) j) (fun j => g2.2 107 (by decide) j) (by omega) (by omega) (by omega), mm_pt9_sm (mm_pt9_sm (ra34) (fun j => g1.2 37 (by decide) j) (fun j => g1.2 38 (by decide) j) (fun j => g1.2 39 (by decide) j) (fun j => g1.2 40 (by decide) j) (fun j => g1.2 41 (by decide) j) (fun j => g1.2 112 (by decide) j) (fun j => g1.2 114 (by decide) j) (fun j => g1.2 115 (by decide) j) (fun j => g1.2 116 (by decide) j) (by omega) (by omega) (by omega)) (fun j => g2.2 37 (by decide) j) (fun j => g2.2 38 (by decide) j) (fun j => g2.2 39 (by decide) j) (fun j => g2.2 40 (by decide) j) (fun j => g2.2 41 (by decide) j) (fun j => g2.2 112 (by decide) j) (fun j => g2.2 114 (by decide) j) (fun j => g2.2 115 (by decide) j) (fun j => g2.2 116 (by decide) j) (by omega) (by omega) (by omega), mm_tm9_sm (mm_tm9_sm (ra35) (fun j => g1.2 29 (by decide) j) (fun j => g1.2 90 (by decide) j) (by omega) (by omega)) (fun j => g2.2 29 (by decide) j) (fun j => g2.2 90 (by decide) j) (by omega) (by omega)⟩)
    · skip
      refine mm_aload_n C (mm_dec dk_law12 46 rfl) rfl ?_
      refine mm_iconst C (mm_dec dk_law12 47 rfl) ⟨by decide, by decide⟩ ?_
      refine mm_lald C (mm_dec dk_law12 48 rfl) rfl (by decide) (by decide) ?_
      refine mm_iload C (mm_dec dk_law12 49 rfl) rfl ?_
      refine mm_i2l C (mm_dec dk_law12 50 rfl) ?_
      refine mm_lcmp C (mm_dec dk_law12 51 rfl) (fun cl3 => ?_) (fun _ => ?_) (fun cl3 => ?_)
      · exfalso; omega
      · skip
        refine mm_if_eq (tgt := 1223) C (mm_dec dk_law12 52 rfl) (by decide) (fun ca4 => ?_) (fun ca4 => ?_)
        · skip
          refine mm_goto (tgt := 1668) C (mm_dec dk_law12 55 rfl) (by decide) ?_
          refine mm_fgt 5 ?_
          refine mm_fgt 6 ?_
          have ze := mm_zf_eq (show h2.1 58 5 = h.1 58 5 from (g2.1 58 5 (by decide)).trans ((g1.1 58 5 (by decide)).trans (rfl)))
          refine mm_widen (k := mm_aA (i + 6) h2) (n := mm_bB (i + 6) h2) (by rw [show mm_aA (i + 6) h2 = 200 + (i + 6).toNat + (mm_zf h).1 from by unfold mm_aA; rw [ze]]; omega) (by rw [show mm_bB (i + 6) h2 = 90000 + 6 * (i + 6).toNat + (mm_zf h).2 from by unfold mm_bB; rw [ze]]; omega) ?_
          exact K h2 i2 (mm_RO_fr (mm_RO_fr (r0) g1 (by decide)) g2 (by decide)) (by unfold mm_Rl; exact ⟨by omega, by omega, by omega, by omega, by omega, by omega, by omega, by omega, by omega, by omega, by omega, by omega, by omega, mm_eq_fr (mm_eq_fr (ra0) g1 (by decide) (by decide)) g2 (by decide) (by decide), mm_eq_fr (mm_eq_fr (ra1) g1 (by decide) (by decide)) g2 (by decide) (by decide), mm_eq_le (mm_eq_fr (mm_eq_fr (ra2) g1 (by decide) (by decide)) g2 (by decide) (by decide)) (by omega), mm_eq_le (mm_eq_fr (mm_eq_fr (ra3) g1 (by decide) (by decide)) g2 (by decide) (by decide)) (by omega), mm_eq_le (mm_eq_fr (mm_eq_fr (ra4) g1 (by decide) (by decide)) g2 (by decide) (by decide)) (by omega), mm_eq_le (mm_eq_fr (mm_eq_fr (ra5) g1 (by decide) (by decide)) g2 (by decide) (by decide)) (by omega), mm_tk_sm (mm_tk_sm (ra6) (fun j => g1.2 18 (by decide) j) (fun j => g1.2 85 (by decide) j) (by omega) (by omega)) (fun j => g2.2 18 (by decide) j) (fun j => g2.2 85 (by decide) j) (by omega) (by omega), mm_cb_sm (mm_cb_sm (ra7) (fun j => g1.2 85 (by decide) j) (by omega) (by omega)) (fun j => g2.2 85 (by decide) j) (by omega) (by omega), mm_fb_sm (mm_fb_sm (ra8) (fun j => g1.2 20 (by decide) j) (by omega)) (fun j => g2.2 20 (by decide) j) (by omega), mm_eq_fr (mm_eq_fr (ra9) g1 (by decide) (by decide)) g2 (by decide) (by decide), mm_eq_fr (mm_eq_fr (ra10) g1 (by decide) (by decide)) g2 (by decide) (by decide), mm_eq_fr (mm_eq_fr (ra11) g1 (by decide) (by decide)) g2 (by decide) (by decide), mm_eq_le (mm_eq_fr (mm_eq_fr (ra12) g1 (by decide) (by decide)) g2 (by decide) (by decide)) (by omega), mm_go_sm (mm_go_sm (ra13) (fun j => g1.2 6 (by decide) j) (by omega) (by omega) (by omega) (by omega) (by omega) (by omega)) (fun j => g2.2 6 (by decide) j) (by omega) (by omega) (by omega) (by omega) (by omega) (by omega), mm_eq_le (mm_eq_fr (mm_eq_fr (ra14) g1 (by decide) (by decide)) g2 (by decide) (by decide)) (by omega), mm_eq_le (mm_eq_fr (mm_eq_fr (ra15) g1 (by decide) (by decide)) g2 (by decide) (by decide)) (by omega), mm_it_sm (mm_it_sm (ra16) (fun j => g1.2 28 (by decide) j) (fun j => g1.2 88 (by decide) j) (by omega)) (fun j => g2.2 28 (by decide) j) (fun j => g2.2 88 (by decide) j) (by omega), mm_br_sm (mm_br_sm (ra17) (fun j => g1.2 21 (by decide) j) (fun j => g1.2 82 (by decide) j) (fun j => g1.2 84 (by decide) j) (fun j => g1.2 19 (by decide) j) (by omega)) (fun j => g2.2 21 (by decide) j) (fun j => g2.2 82 (by decide) j) (fun j => g2.2 84 (by decide) j) (fun j => g2.2 19 (by decide) j) (by omega), mm_gn_sm (mm_gn_sm (ra18)  (by omega) (by omega) (by omega) (by omega) (by omega))  (by omega) (by omega) (by omega) (by omega) (by omega), mm_pc_sm (mm_pc_sm (ra19) (fun j => g1.2 15 (by decide) j) (by omega) (by omega) (by omega)) (fun j => g2.2 15 (by decide) j) (by omega) (by omega) (by omega), mm_bv_sm (mm_bv_sm (ra20) (fun j => g1.2 21 (by decide) j) (fun j => g1.2 19 (by decide) j) (by omega) (by omega)) (fun j => g2.2 21 (by decide) j) (fun j => g2.2 19 (by decide) j) (by omega) (by omega), mm_eq_le (mm_eq_fr (mm_eq_fr (ra21) g1 (by decide) (by decide)) g2 (by decide) (by decide)) (by omega), mm_eq_le (mm_eq_fr (mm_eq_fr (ra22) g1 (by decide) (by decide)) g2 (by decide) (by decide)) (by omega), mm_eq_le (mm_eq_fr (mm_eq_fr (ra23) g1 (by decide) (by decide)) g2 (by decide) (by decide)) (by omega), mm_eq_le (mm_eq_fr (mm_eq_fr (ra24) g1 (by decide) (by decide)) g2 (by decide) (by decide)) (by omega), mm_eq_le (mm_eq_fr (mm_eq_fr (ra25) g1 (by decide) (by decide)) g2 (by decide) (by decide)) (by omega), mm_eq_le (mm_eq_fr (mm_eq_fr (ra26) g1 (by decide) (by decide)) g2 (by decide) (by decide)) (by omega), mm_ah_sm (mm_ah_sm (ra27) (fun j => g1.2 27 (by decide) j) (fun j => g1.2 88 (by decide) j) (fun j => g1.2 89 (by decide) j) (by omega)) (fun j => g2.2 27 (by decide) j) (fun j => g2.2 88 (by decide) j) (fun j => g2.2 89 (by decide) j) (by omega), mm_pw9_sm (mm_pw9_sm (ra28) (fun j => g1.2 44 (by decide) j) (fun j => g1.2 102 (by decide) j) (by omega) (by omega)) (fun j => g2.2 44 (by decide) j) (fun j => g2.2 102 (by decide) j) (by omega) (by omega), mm_eq_le (mm_eq_fr (mm_eq_fr (ra29) g1 (by decide) (by decide)) g2 (by decide) (by decide)) (by omega), mm_ep8_sm (mm_ep8_sm (ra30) (fun j => g1.2 31 (by decide) j) (fun j => g1.2 33 (by decide) j) (fun j => g1.2 94 (by decide) j) (by omega)) (fun j => g2.2 31 (by decide) j) (fun j => g2.2 33 (by decide) j) (fun j => g2.2 94 (by decide) j) (by omega), mm_ab8_sm (mm_ab8_sm (ra31) (fun j => g1.2 27 (by decide) j) (fun j => g1.2 88 (by decide) j) (fun j => g1.2 89 (by decide) j) (fun j => g1.2 90 (by decide) j) (by omega) (by omega)) (fun j => g2.2 27 (by decide) j) (fun j => g2.2 88 (by decide) j) (fun j => g2.2 89 (by decide) j) (fun j => g2.2 90 (by decide) j) (by omega) (by omega), mm_eq_le (mm_eq_fr (mm_eq_fr (ra32) g1 (by decide) (by decide)) g2 (by decide) (by decide)) (by omega), mm_cJ_sm (mm_cJ_sm (ra33) (fun j => g1.2 43 (by decide) j) (fun j => g1.2 103 (by decide) j) (fun j => g1.2 104 (by decide) j) (fun j => g1.2 105 (by decide) j) (fun j => g1.2 106 (by decide) j) (fun j => g1.2 107 (by decide) j) (by omega) (by omega) (by omega)) (fun j => g2.2 43 (by decide) j) (fun j => g2.2 103 (by decide) j) (fun j => g2.2 104 (by decide) j) (fun j => g2.2 105 (by decide) j) (fun j => g2.2 106 (by decide) j) (fun j => g2.2 107 (by decide) j) (by omega) (by omega) (by omega), mm_pt9_sm (mm_pt9_sm (ra34) (fun j => g1.2 37 (by decide) j) (fun j => g1.2 38 (by decide) j) (fun j => g1.2 39 (by decide) j) (fun j => g1.2 40 (by decide) j) (fun j => g1.2 41 (by decide) j) (fun j => g1.2 112 (by decide) j) (fun j => g1.2 114 (by decide) j) (fun j => g1.2 115 (by decide) j) (fun j => g1.2 116 (by decide) j) (by omega) (by omega) (by omega)) (fun j => g2.2 37 (by decide) j) (fun j => g2.2 38 (by decide) j) (fun j => g2.2 39 (by decide) j) (fun j => g2.2 40 (by decide) j) (fun j => g2.2 41 (by decide) j) (fun j => g2.2 112 (by decide) j) (fun j => g2.2 114 (by decide) j) (fun j => g2.2 115 (by decide) j) (fun j => g2.2 116 (by decide) j) (by omega) (by omega) (by omega), mm_tm9_sm (mm_tm9_sm (ra35) (fun j => g1.2 29 (by decide) j) (fun j => g1.2 90 (by decide) j) (by omega) (by omega)) (fun j => g2.2 29 (by decide) j) (fun j => g2.2 90 (by decide) j) (by omega) (by omega)⟩)
        · exfalso; omega
      · exfalso; omega
  · exfalso; omega
set_option maxRecDepth 100000 in
set_option maxHeartbeats 4000000 in
theorem lw_c20 {x : mX} {L : Nat} {xs : Nat → Int32} (C : mm_OK 60 601024 7293034 code RL 8 ret x) (X : mm_scr x L xs) (hl : x.2.1.stackTraces = false) (hL : L ≤ 3072) (i : Int) (hi : 0 ≤ i ∧ i + 6 ≤ L) (h : mH) (i0 : mm_inv h) (r0 : mm_RO h) (rl0 : mm_Rl i h) (K : mm_K x i) : mm_W x (mm_aA i h) (mm_bB i h) 1226 (mm_lls i) [] h := by
  have zl := mm_zf_le h
  have ea : mm_aA i h = 200 + i.toNat + (mm_zf h).1 := rfl
  have eb : mm_bB i h = 90000 + 6 * i.toNat + (mm_zf h).2 := rfl
  obtain ⟨rs0, rs1, rs2, rs3, rs4, rs5, rs6, rs7, rs8, rs9, rs10, rs11, rs12, ra0, ra1, ra2, ra3, ra4, ra5, ra6, ra7, ra8, ra9, ra10, ra11, ra12, ra13, ra14, ra15, ra16, ra17, ra18, ra19, ra20, ra21, ra22, ra23, ra24, ra25, ra26, ra27, ra28, ra29, ra30, ra31, ra32, ra33, ra34, ra35⟩ := rl0
  refine mm_aload_n C (mm_dec dk_law12 56 rfl) rfl ?_
  refine mm_aload_n C (mm_dec dk_law12 57 rfl) rfl ?_
  refine mm_iload C (mm_dec dk_law12 58 rfl) rfl ?_
  refine mm_iconst C (mm_dec dk_law12 59 rfl) ⟨by decide, by decide⟩ ?_
  refine mm_iadd C (mm_dec dk_law13 0 rfl) ⟨by omega, by omega⟩ ?_
  refine mm_sld C X (mm_dec dk_law13 1 rfl) (by omega) (by omega) ?_
  refine mm_aload_n C (mm_dec dk_law13 2 rfl) rfl ?_
  refine mm_iload C (mm_dec dk_law13 3 rfl) rfl ?_
  refine mm_iconst C (mm_dec dk_law13 4 rfl) ⟨by decide, by decide⟩ ?_
  refine mm_iadd C (mm_dec dk_law13 5 rfl) ⟨by omega, by omega⟩ ?_
  refine mm_sld C X (mm_dec dk_law13 6 rfl) (by omega) (by omega) ?_
  refine mm_aload_n C (mm_dec dk_law13 7 rfl) rfl ?_
  refine mm_iload C (mm_dec dk_law13 8 rfl) rfl ?_
  refine mm_iconst C (mm_dec dk_law13 9 rfl) ⟨by decide, by decide⟩ ?_
  refine mm_iadd C (mm_dec dk_law13 10 rfl) ⟨by omega, by omega⟩ ?_
  refine mm_sld C X (mm_dec dk_law13 11 rfl) (by omega) (by omega) ?_
  refine mm_aload_n C (mm_dec dk_law13 12 rfl) rfl ?_
  refine mm_iload C (mm_dec dk_law13 13 rfl) rfl ?_
  refine mm_iconst C (mm_dec dk_law13 14 rfl) ⟨by decide, by decide⟩ ?_
  refine mm_iadd C (mm_dec dk_law13 15 rfl) ⟨by omega, by omega⟩ ?_
  refine mm_sld C X (mm_dec dk_law13 16 rfl) (by omega) (by omega) ?_
  refine mm_aload_n C (mm_dec dk_law13 17 rfl) rfl ?_
  refine mm_iload C (mm_dec dk_law13 18 rfl) rfl ?_
  refine mm_iconst C (mm_dec dk_law13 19 rfl) ⟨by decide, by decide⟩ ?_
  refine mm_iadd C (mm_dec dk_law13 20 rfl) ⟨by omega, by omega⟩ ?_
  refine mm_sld C X (mm_dec dk_law13 21 rfl) (by omega) (by omega) ?_
  refine mm_cVi (d := 59) (rest := []) C ev_L_183 (mm_dec dk_law13 22 rfl) (c_X11_feed_q x.2.1 hl 59 (by decide) h i0 (mm_sc xs (i + 1)) (mm_sc xs (i + 2)) (mm_sc xs (i + 3)) (mm_sc xs (i + 4)) (mm_sc xs (i + 5))) rfl rfl (Nat.le_of_ble_eq_true rfl) ⟨by omega, by omega⟩ rfl (fun r1 h1 hp1 => ?_) (fun _ _ q => q.elim)
  obtain ⟨b1, i1, g1, y1_0, y1_1⟩ := hp1
  have q1_1_5 : h1.1 1 5 = h.1 1 5 := g1.1 1 5 (by decide)
  have q1_66_1 : h1.1 66 1 = h.1 66 1 := g1.1 66 1 (by decide)
  have q1_1_6 : h1.1 1 6 = h.1 1 6 := g1.1 1 6 (by decide)
  have q1_66_2 : h1.1 66 2 = h.1 66 2 := g1.1 66 2 (by decide)
  have q1_14_8 : h1.1 14 8 = h.1 14 8 := g1.1 14 8 (by decide)
  have q1_66_22 : h1.1 66 22 = h.1 66 22 := g1.1 66 22 (by decide)
  have q1_22_8 : h1.1 22 8 = h.1 22 8 := g1.1 22 8 (by decide)
  have q1_66_23 : h1.1 66 23 = h.1 66 23 := g1.1 66 23 (by decide)
  have q1_14_7 : h1.1 14 7 = h.1 14 7 := g1.1 14 7 (by decide)
  have q1_66_21 : h1.1 66 21 = h.1 66 21 := g1.1 66 21 (by decide)
  have q1_22_9 : h1.1 22 9 = h.1 22 9 := g1.1 22 9 (by decide)
  have q1_66_24 : h1.1 66 24 = h.1 66 24 := g1.1 66 24 (by decide)
  have q1_66_56 : h1.1 66 56 = h.1 66 56 := g1.1 66 56 (by decide)
  have q1_0_14 : h1.1 0 14 = h.1 0 14 := g1.1 0 14 (by decide)
  have q1_66_58 : h1.1 66 58 = h.1 66 58 := g1.1 66 58 (by decide)
  have q1_30_6 : h1.1 30 6 = h.1 30 6 := g1.1 30 6 (by decide)
  have q1_66_40 : h1.1 66 40 = h.1 66 40 := g1.1 66 40 (by decide)
  have q1_30_12 : h1.1 30 12 = h.1 30 12 := g1.1 30 12 (by decide)
  have q1_66_82 : h1.1 66 82 = h.1 66 82 := g1.1 66 82 (by decide)
  have q1_0_13 : h1.1 0 13 = h.1 0 13 := g1.1 0 13 (by decide)
  have q1_66_41 : h1.1 66 41 = h.1 66 41 := g1.1 66 41 (by decide)
  have q1_1_7 : h1.1 1 7 = h.1 1 7 := g1.1 1 7 (by decide)
  have q1_66_3 : h1.1 66 3 = h.1 66 3 := g1.1 66 3 (by decide)
  have q1_66_9 : h1.1 66 9 = h.1 66 9 := g1.1 66 9 (by decide)
  have q1_66_10 : h1.1 66 10 = h.1 66 10 := g1.1 66 10 (by decide)
  have q1_1_8 : h1.1 1 8 = h.1 1 8 := g1.1 1 8 (by decide)
  have q1_66_11 : h1.1 66 11 = h.1 66 11 := g1.1 66 11 (by decide)
  have q1_66_12 : h1.1 66 12 = h.1 66 12 := g1.1 66 12 (by decide)
  have q1_66_67 : h1.1 66 67 = h.1 66 67 := g1.1 66 67 (by decide)
  have q1_66_68 : h1.1 66 68 = h.1 66 68 := g1.1 66 68 (by decide)
  have q1_30_13 : h1.1 30 13 = h.1 30 13 := g1.1 30 13 (by decide)
  have q1_66_91 : h1.1 66 91 = h.1 66 91 := g1.1 66 91 (by decide)
  have q1_42_3 : h1.1 42 3 = h.1 42 3 := g1.1 42 3 (by decide)
  have qa1 : h1.2.1 124 0 = h.2.1 124 0 := g1.2 124 (by decide) 0
  refine mm_pop C (mm_dec dk_law13 23 rfl) (show (0 : Nat) ≠ 1 by decide) ?_
  refine mm_aload_n C (mm_dec dk_law13 24 rfl) rfl ?_
  refine mm_aload_n C (mm_dec dk_law13 25 rfl) rfl ?_
  refine mm_iload C (mm_dec dk_law13 26 rfl) rfl ?_
  refine mm_iconst C (mm_dec dk_law13 27 rfl) ⟨by decide, by decide⟩ ?_
  refine mm_iadd C (mm_dec dk_law13 28 rfl) ⟨by omega, by omega⟩ ?_
  refine mm_sld C X (mm_dec dk_law13 29 rfl) (by omega) (by omega) ?_
  refine mm_aload_n C (mm_dec dk_law13 30 rfl) rfl ?_
  refine mm_iload C (mm_dec dk_law13 31 rfl) rfl ?_
  refine mm_iconst C (mm_dec dk_law13 32 rfl) ⟨by decide, by decide⟩ ?_
  refine mm_iadd C (mm_dec dk_law13 33 rfl) ⟨by omega, by omega⟩ ?_
  refine mm_sld C X (mm_dec dk_law13 34 rfl) (by omega) (by omega) ?_
  refine mm_aload_n C (mm_dec dk_law13 35 rfl) rfl ?_
  refine mm_iload C (mm_dec dk_law13 36 rfl) rfl ?_
  refine mm_iconst C (mm_dec dk_law13 37 rfl) ⟨by decide, by decide⟩ ?_
  refine mm_iadd C (mm_dec dk_law13 38 rfl) ⟨by omega, by omega⟩ ?_
  refine mm_sld C X (mm_dec dk_law13 39 rfl) (by omega) (by omega) ?_
  refine mm_aload_n C (mm_dec dk_law13 40 rfl) rfl ?_
  refine mm_iload C (mm_dec dk_law13 41 rfl) rfl ?_
  refine mm_iconst C (mm_dec dk_law13 42 rfl) ⟨by decide, by decide⟩ ?_
  refine mm_iadd C (mm_dec dk_law13 43 rfl) ⟨by omega, by omega⟩ ?_
  refine mm_sld C X (mm_dec dk_law13 44 rfl) (by omega) (by omega) ?_
  refine mm_aload_n C (mm_dec dk_law13 45 rfl) rfl ?_
  refine mm_iload C (mm_dec dk_law13 46 rfl) rfl ?_
  refine mm_iconst C (mm_dec dk_law13 47 rfl) ⟨by decide, by decide⟩ ?_
  refine mm_iadd C (mm_dec dk_law13 48 rfl) ⟨by omega, by omega⟩ ?_
  refine mm_sld C X (mm_dec dk_law13 49 rfl) (by omega) (by omega) ?_
  refine mm_cVi (d := 59) (rest := []) C ev_L_187 (mm_dec dk_law13 50 rfl) (c_X12_feed_q x.2.1 hl 59 (by decide) h1 i1 (mm_sc xs (i + 1)) (mm_sc xs (i + 2)) (mm_sc xs (i + 3)) (mm_sc xs (i + 4)) (mm_sc xs (i + 5))) rfl rfl (Nat.le_of_ble_eq_true rfl) ⟨by omega, by omega⟩ rfl (fun r2 h2 hp2 => ?_) (fun _ _ q => q.elim)
  obtain ⟨b2, i2, g2, y2_0, y2_1⟩ := hp2
  have q2_1_5 : h2.1 1 5 = h1.1 1 5 := g2.1 1 5 (by decide)
  have q2_66_1 : h2.1 66 1 = h1.1 66 1 := g2.1 66 1 (by decide)
  have q2_1_6 : h2.1 1 6 = h1.1 1 6 := g2.1 1 6 (by decide)
  have q2_66_2 : h2.1 66 2 = h1.1 66 2 := g2.1 66 2 (by decide)
  have q2_14_8 : h2.1 14 8 = h1.1 14 8 := g2.1 14 8 (by decide)
  have q2_66_22 : h2.1 66 22 = h1.1 66 22 := g2.1 66 22 (by decide)
  have q2_22_8 : h2.1 22 8 = h1.1 22 8 := g2.1 22 8 (by decide)
  have q2_66_23 : h2.1 66 23 = h1.1 66 23 := g2.1 66 23 (by decide)
  have q2_14_7 : h2.1 14 7 = h1.1 14 7 := g2.1 14 7 (by decide)
  have q2_66_21 : h2.1 66 21 = h1.1 66 21 := g2.1 66 21 (by decide)
  have q2_22_9 : h2.1 22 9 = h1.1 22 9 := g2.1 22 9 (by decide)
  have q2_66_24 : h2.1 66 24 = h1.1 66 24 := g2.1 66 24 (by decide)
  have q2_0_12 : h2.1 0 12 = h1.1 0 12 := g2.1 0 12 (by decide)
  have q2_0_14 : h2.1 0 14 = h1.1 0 14 := g2.1 0 14 (by decide)
  have q2_66_58 : h2.1 66 58 = h1.1 66 58 := g2.1 66 58 (by decide)
  have q2_30_6 : h2.1 30 6 = h1.1 30 6 := g2.1 30 6 (by decide)
  have q2_66_40 : h2.1 66 40 = h1.1 66 40 := g2.1 66 40 (by decide)
  have q2_30_12 : h2.1 30 12 = h1.1 30 12 := g2.1 30 12 (by decide)
  have q2_66_82 : h2.1 66 82 = h1.1 66 82 := g2.1 66 82 (by decide)
  have q2_0_13 : h2.1 0 13 = h1.1 0 13 := g2.1 0 13 (by decide)
  have q2_66_41 : h2.1 66 41 = h1.1 66 41 := g2.1 66 41 (by decide)
  have q2_1_7 : h2.1 1 7 = h1.1 1 7 := g2.1 1 7 (by decide)
  have q2_66_3 : h2.1 66 3 = h1.1 66 3 := g2.1 66 3 (by decide)
  have q2_66_9 : h2.1 66 9 = h1.1 66 9 := g2.1 66 9 (by decide)
  have q2_66_10 : h2.1 66 10 = h1.1 66 10 := g2.1 66 10 (by decide)
  have q2_1_8 : h2.1 1 8 = h1.1 1 8 := g2.1 1 8 (by decide)
  have q2_66_11 : h2.1 66 11 = h1.1 66 11 := g2.1 66 11 (by decide)
  have q2_66_12 : h2.1 66 12 = h1.1 66 12 := g2.1 66 12 (by decide)
  have q2_66_67 : h2.1 66 67 = h1.1 66 67 := g2.1 66 67 (by decide)
  have q2_66_68 : h2.1 66 68 = h1.1 66 68 := g2.1 66 68 (by decide)
  have q2_30_13 : h2.1 30 13 = h1.1 30 13 := g2.1 30 13 (by decide)
  have q2_66_91 : h2.1 66 91 = h1.1 66 91 := g2.1 66 91 (by decide)
  have q2_42_3 : h2.1 42 3 = h1.1 42 3 := g2.1 42 3 (by decide)
  obtain ⟨n1, hn1, u1⟩ := y1_1
  obtain ⟨n2, hn2, u2⟩ := y2_1
  have e0 : h1.1 66 56 = h.1 0 12 := by omega
  rw [e0] at u2
  have rb12 : mm_eq h2 62 101 (h2.1 0 12 - 1) := mm_eq_tp ra12 u1 (fun j => g1.2 101 (by decide) j) u2 (fun j => g2.2 62 (by decide) j) (by omega) (by omega) (by omega)
  have qa2 : h2.2.1 124 0 = h1.2.1 124 0 := g2.2 124 (by decide) 0
  refine mm_pop C (mm_dec dk_law13 51 rfl) (show (0 : Nat) ≠ 1 by decide) ?_
  refine mm_goto (tgt := 1668) C (mm_dec dk_law13 52 rfl) (by decide) ?_
  have ze := mm_zf_eq (show h2.1 58 5 = h.1 58 5 from (g2.1 58 5 (by decide)).trans ((g1.1 58 5 (by decide)).trans (rfl)))
  refine mm_widen (k := mm_aA (i + 6) h2) (n := mm_bB (i + 6) h2) (by rw [show mm_aA (i + 6) h2 = 200 + (i + 6).toNat + (mm_zf h).1 from by unfold mm_aA; rw [ze]]; omega) (by rw [show mm_bB (i + 6) h2 = 90000 + 6 * (i + 6).toNat + (mm_zf h).2 from by unfold mm_bB; rw [ze]]; omega) ?_
  exact K h2 i2 (mm_RO_fr (mm_RO_fr (r0) g1 (by decide)) g2 (by decide)) (by unfold mm_Rl; exact ⟨by omega, by omega, by omega, by omega, by omega, by omega, by omega, by omega, by omega, by omega, by omega, by omega, by omega, mm_eq_fr (mm_eq_fr (ra0) g1 (by decide) (by decide)) g2 (by decide) (by decide), mm_eq_fr (mm_eq_fr (ra1) g1 (by decide) (by decide)) g2 (by decide) (by decide), mm_eq_le (mm_eq_fr (mm_eq_fr (ra2) g1 (by decide) (by decide)) g2 (by decide) (by decide)) (by omega), mm_eq_le (mm_eq_fr (mm_eq_fr (ra3) g1 (by decide) (by decide)) g2 (by decide) (by decide)) (by omega), mm_eq_le (mm_eq_fr (mm_eq_fr (ra4) g1 (by decide) (by decide)) g2 (by decide) (by decide)) (by omega), mm_eq_le (mm_eq_fr (mm_eq_fr (ra5) g1 (by decide) (by decide)) g2 (by decide) (by decide)) (by omega), mm_tk_sm (mm_tk_sm (ra6) (fun j => g1.2 18 (by decide) j) (fun j => g1.2 85 (by decide) j) (by omega) (by omega)) (fun j => g2.2 18 (by decide) j) (fun j => g2.2 85 (by decide) j) (by omega) (by omega), mm_cb_sm (mm_cb_sm (ra7) (fun j => g1.2 85 (by decide) j) (by omega) (by omega)) (fun j => g2.2 85 (by decide) j) (by omega) (by omega), mm_fb_sm (mm_fb_sm (ra8) (fun j => g1.2 20 (by decide) j) (by omega)) (fun j => g2.2 20 (by decide) j) (by omega), mm_eq_fr (mm_eq_fr (ra9) g1 (by decide) (by decide)) g2 (by decide) (by decide), mm_eq_fr (mm_eq_fr (ra10) g1 (by decide) (by decide)) g2 (by decide) (by decide), mm_eq_fr (mm_eq_fr (ra11) g1 (by decide) (by decide)) g2 (by decide) (by decide), mm_eq_le (rb12) (by omega), mm_go_sm (mm_go_sm (ra13) (fun j => g1.2 6 (by decide) j) (by omega) (by omega) (by omega) (by omega) (by omega) (by omega)) (fun j => g2.2 6 (by decide) j) (by omega) (by omega) (by omega) (by omega) (by omega) (by omega), mm_eq_le (mm_eq_fr (mm_eq_fr (ra14) g1 (by decide) (by decide)) g2 (by decide) (by decide)) (by omega), mm_eq_le (mm_eq_fr (mm_eq_fr (ra15) g1 (by decide) (by decide)) g2 (by decide) (by decide)) (by omega), mm_it_sm (mm_it_sm (ra16) (fun j => g1.2 28 (by decide) j) (fun j => g1.2 88 (by decide) j) (by omega)) (fun j => g2.2 28 (by decide) j) (fun j => g2.2 88 (by decide) j) (by omega), mm_br_sm (mm_br_sm (ra17) (fun j => g1.2 21 (by decide) j) (fun j => g1.2 82 (by decide) j) (fun j => g1.2 84 (by decide) j) (fun j => g1.2 19 (by decide) j) (by omega)) (fun j => g2.2 21 (by decide) j) (fun j => g2.2 82 (by decide) j) (fun j => g2.2 84 (by decide) j) (fun j => g2.2 19 (by decide) j) (by omega), mm_gn_sm (mm_gn_sm (ra18)  (by omega) (by omega) (by omega) (by omega) (by omega))  (by omega) (by omega) (by omega) (by omega) (by omega), mm_pc_sm (mm_pc_sm (ra19) (fun j => g1.2 15 (by decide) j) (by omega) (by omega) (by omega)) (fun j => g2.2 15 (by decide) j) (by omega) (by omega) (by omega), mm_bv_sm (mm_bv_sm (ra20) (fun j => g1.2 21 (by decide) j) (fun j => g1.2 19 (by decide) j) (by omega) (by omega)) (fun j => g2.2 21 (by decide) j) (fun j => g2.2 19 (by decide) j) (by omega) (by omega), mm_eq_le (mm_eq_fr (mm_eq_fr (ra21) g1 (by decide) (by decide)) g2 (by decide) (by decide)) (by omega), mm_eq_le (mm_eq_fr (mm_eq_fr (ra22) g1 (by decide) (by decide)) g2 (by decide) (by decide)) (by omega), mm_eq_le (mm_eq_fr (mm_eq_fr (ra23) g1 (by decide) (by decide)) g2 (by decide) (by decide)) (by omega), mm_eq_le (mm_eq_fr (mm_eq_fr (ra24) g1 (by decide) (by decide)) g2 (by decide) (by decide)) (by omega), mm_eq_le (mm_eq_fr (mm_eq_fr (ra25) g1 (by decide) (by decide)) g2 (by decide) (by decide)) (by omega), mm_eq_le (mm_eq_fr (mm_eq_fr (ra26) g1 (by decide) (by decide)) g2 (by decide) (by decide)) (by omega), mm_ah_sm (mm_ah_sm (ra27) (fun j => g1.2 27 (by decide) j) (fun j => g1.2 88 (by decide) j) (fun j => g1.2 89 (by decide) j) (by omega)) (fun j => g2.2 27 (by decide) j) (fun j => g2.2 88 (by decide) j) (fun j => g2.2 89 (by decide) j) (by omega), mm_pw9_sm (mm_pw9_sm (ra28) (fun j => g1.2 44 (by decide) j) (fun j => g1.2 102 (by decide) j) (by omega) (by omega)) (fun j => g2.2 44 (by decide) j) (fun j => g2.2 102 (by decide) j) (by omega) (by omega), mm_eq_le (mm_eq_fr (mm_eq_fr (ra29) g1 (by decide) (by decide)) g2 (by decide) (by decide)) (by omega), mm_ep8_sm (mm_ep8_sm (ra30) (fun j => g1.2 31 (by decide) j) (fun j => g1.2 33 (by decide) j) (fun j => g1.2 94 (by decide) j) (by omega)) (fun j => g2.2 31 (by decide) j) (fun j => g2.2 33 (by decide) j) (fun j => g2.2 94 (by decide) j) (by omega), mm_ab8_sm (mm_ab8_sm (ra31) (fun j => g1.2 27 (by decide) j) (fun j => g1.2 88 (by decide) j) (fun j => g1.2 89 (by decide) j) (fun j => g1.2 90 (by decide) j) (by omega) (by omega)) (fun j => g2.2 27 (by decide) j) (fun j => g2.2 88 (by decide) j) (fun j => g2.2 89 (by decide) j) (fun j => g2.2 90 (by decide) j) (by omega) (by omega), mm_eq_le (mm_eq_fr (mm_eq_fr (ra32) g1 (by decide) (by decide)) g2 (by decide) (by decide)) (by omega), mm_cJ_sm (mm_cJ_sm (ra33) (fun j => g1.2 43 (by decide) j) (fun j => g1.2 103 (by decide) j) (fun j => g1.2 104 (by decide) j) (fun j => g1.2 105 (by decide) j) (fun j => g1.2 106 (by decide) j) (fun j => g1.2 107 (by decide) j) (by omega) (by omega) (by omega)) (fun j => g2.2 43 (by decide) j) (fun j => g2.2 103 (by decide) j) (fun j => g2.2 104 (by decide) j) (fun j => g2.2 105 (by decide) j) (fun j => g2.2 106 (by decide) j) (fun j => g2.2 107 (by decide) j) (by omega) (by omega) (by omega), mm_pt9_sm (mm_pt9_sm (ra34) (fun j => g1.2 37 (by decide) j) (fun j => g1.2 38 (by decide) j) (fun j => g1.2 39 (by decide) j) (fun j => g1.2 40 (by decide) j) (fun j => g1.2 41 (by decide) j) (fun j => g1.2 112 (by decide) j) (fun j => g1.2 114 (by decide) j) (fun j => g1.2 115 (by decide) j) (fun j => g1.2 116 (by decide) j) (by omega) (by omega) (by omega)) (fun j => g2.2 37 (by decide) j) (fun j => g2.2 38 (by decide) j) (fun j => g2.2 39 (by decide) j) (fun j => g2.2 40 (by decide) j) (fun j => g2.2 41 (by decide) j) (fun j => g2.2 112 (by decide) j) (fun j => g2.2 114 (by decide) j) (fun j => g2.2 115 (by decide) j) (fun j => g2.2 116 (by decide) j) (by omega) (by omega) (by omega), mm_tm9_sm (mm_tm9_sm (ra35) (fun j => g1.2 29 (by decide) j) (fun j => g1.2 90 (by decide) j) (by omega) (by omega)) (fun j => g2.2 29 (by decide) j) (fun j => g2.2 90 (by decide) j) (by omega) (by omega)⟩)
set_option maxRecDepth 100000 in
set_option maxHeartbeats 4000000 in
theorem lw_c21 {x : mX} {L : Nat} {xs : Nat → Int32} (C : mm_OK 60 601024 7293034 code RL 8 ret x) (X : mm_scr x L xs) (hl : x.2.1.stackTraces = false) (hL : L ≤ 3072) (i : Int) (hi : 0 ≤ i ∧ i + 6 ≤ L) (h : mH) (i0 : mm_inv h) (r0 : mm_RO h) (rl0 : mm_Rl i h) (K : mm_K x i) : mm_W x (mm_aA i h) (mm_bB i h) 1299 (mm_lls i) [] h := by
  have zl := mm_zf_le h
  have ea : mm_aA i h = 200 + i.toNat + (mm_zf h).1 := rfl
  have eb : mm_bB i h = 90000 + 6 * i.toNat + (mm_zf h).2 := rfl
  obtain ⟨rs0, rs1, rs2, rs3, rs4, rs5, rs6, rs7, rs8, rs9, rs10, rs11, rs12, ra0, ra1, ra2, ra3, ra4, ra5, ra6, ra7, ra8, ra9, ra10, ra11, ra12, ra13, ra14, ra15, ra16, ra17, ra18, ra19, ra20, ra21, ra22, ra23, ra24, ra25, ra26, ra27, ra28, ra29, ra30, ra31, ra32, ra33, ra34, ra35⟩ := rl0
  refine mm_aload_n C (mm_dec dk_law13 53 rfl) rfl ?_
  refine mm_aload_n C (mm_dec dk_law13 54 rfl) rfl ?_
  refine mm_iload C (mm_dec dk_law13 55 rfl) rfl ?_
  refine mm_iconst C (mm_dec dk_law13 56 rfl) ⟨by decide, by decide⟩ ?_
  refine mm_iadd C (mm_dec dk_law13 57 rfl) ⟨by omega, by omega⟩ ?_
  refine mm_sld C X (mm_dec dk_law13 58 rfl) (by omega) (by omega) ?_
  refine mm_aload_n C (mm_dec dk_law13 59 rfl) rfl ?_
  refine mm_cHi (d := 59) (rest := []) C mh_L_rules ml_L_188 sm_L_rules (mm_dec dk_law14 0 rfl) (c_L_rules_q x.2.1 hl 59 (by decide) h i0 (mm_sc xs (i + 1))) rfl (Nat.le_of_ble_eq_true rfl) ⟨by omega, by omega⟩ rfl (fun r1 h1 hp1 => ?_)
  obtain ⟨b1, i1, g1, y1_0, y1_1⟩ := hp1
  have q1_1_5 : h1.1 1 5 = h.1 1 5 := g1.1 1 5 (by decide)
  have q1_66_1 : h1.1 66 1 = h.1 66 1 := g1.1 66 1 (by decide)
  have q1_1_6 : h1.1 1 6 = h.1 1 6 := g1.1 1 6 (by decide)
  have q1_66_2 : h1.1 66 2 = h.1 66 2 := g1.1 66 2 (by decide)
  have q1_14_8 : h1.1 14 8 = h.1 14 8 := g1.1 14 8 (by decide)
  have q1_66_22 : h1.1 66 22 = h.1 66 22 := g1.1 66 22 (by decide)
  have q1_22_8 : h1.1 22 8 = h.1 22 8 := g1.1 22 8 (by decide)
  have q1_66_23 : h1.1 66 23 = h.1 66 23 := g1.1 66 23 (by decide)
  have q1_14_7 : h1.1 14 7 = h.1 14 7 := g1.1 14 7 (by decide)
  have q1_66_21 : h1.1 66 21 = h.1 66 21 := g1.1 66 21 (by decide)
  have q1_22_9 : h1.1 22 9 = h.1 22 9 := g1.1 22 9 (by decide)
  have q1_66_24 : h1.1 66 24 = h.1 66 24 := g1.1 66 24 (by decide)
  have q1_66_56 : h1.1 66 56 = h.1 66 56 := g1.1 66 56 (by decide)
  have q1_66_58 : h1.1 66 58 = h.1 66 58 := g1.1 66 58 (by decide)
  have q1_30_6 : h1.1 30 6 = h.1 30 6 := g1.1 30 6 (by decide)
  have q1_66_40 : h1.1 66 40 = h.1 66 40 := g1.1 66 40 (by decide)
  have q1_30_12 : h1.1 30 12 = h.1 30 12 := g1.1 30 12 (by decide)
  have q1_66_82 : h1.1 66 82 = h.1 66 82 := g1.1 66 82 (by decide)
  have q1_0_13 : h1.1 0 13 = h.1 0 13 := g1.1 0 13 (by decide)
  have q1_66_41 : h1.1 66 41 = h.1 66 41 := g1.1 66 41 (by decide)
  have q1_1_7 : h1.1 1 7 = h.1 1 7 := g1.1 1 7 (by decide)
  have q1_66_3 : h1.1 66 3 = h.1 66 3 := g1.1 66 3 (by decide)
  have q1_66_9 : h1.1 66 9 = h.1 66 9 := g1.1 66 9 (by decide)
  have q1_66_10 : h1.1 66 10 = h.1 66 10 := g1.1 66 10 (by decide)
  have q1_1_8 : h1.1 1 8 = h.1 1 8 := g1.1 1 8 (by decide)
  have q1_66_11 : h1.1 66 11 = h.1 66 11 := g1.1 66 11 (by decide)
  have q1_66_12 : h1.1 66 12 = h.1 66 12 := g1.1 66 12 (by decide)
  have q1_66_67 : h1.1 66 67 = h.1 66 67 := g1.1 66 67 (by decide)
  have q1_66_68 : h1.1 66 68 = h.1 66 68 := g1.1 66 68 (by decide)
  have q1_30_13 : h1.1 30 13 = h.1 30 13 := g1.1 30 13 (by decide)
  have q1_66_91 : h1.1 66 91 = h.1 66 91 := g1.1 66 91 (by decide)
  refine mm_istoreL (ls2 := [mR 3000, mR 0, mR 66, mR 124, mI i, mI r1, mU, mU]) C (mm_dec dk_law14 1 rfl) (by decide) rfl ?_
  refine mm_aload_n C (mm_dec dk_law14 2 rfl) rfl ?_
  refine mm_aload_n C (mm_dec dk_law14 3 rfl) rfl ?_
  refine mm_iload C (mm_dec dk_law14 4 rfl) rfl ?_
  refine mm_iconst C (mm_dec dk_law14 5 rfl) ⟨by decide, by decide⟩ ?_
  refine mm_iadd C (mm_dec dk_law14 6 rfl) ⟨by omega, by omega⟩ ?_
  refine mm_sld C X (mm_dec dk_law14 7 rfl) (by omega) (by omega) ?_
  refine mm_cVi (d := 59) (rest := []) C ev_L_190 (mm_dec dk_law14 8 rfl) (c_X12_rules_q x.2.1 hl 59 (by decide) h1 i1 (mm_sc xs (i + 1)) (mm_RO_fr (r0) g1 (by decide))) rfl rfl (Nat.le_of_ble_eq_true rfl) ⟨by omega, by omega⟩ rfl (fun r2 h2 hp2 => ?_) (fun _ _ q => q.elim)
  obtain ⟨b2, i2, g2, y2_0, y2_1, y2_2, y2_3⟩ := hp2
  have q2_1_5 : h2.1 1 5 = h1.1 1 5 := g2.1 1 5 (by decide)
  have q2_66_1 : h2.1 66 1 = h1.1 66 1 := g2.1 66 1 (by decide)
  have q2_1_6 : h2.1 1 6 = h1.1 1 6 := g2.1 1 6 (by decide)
  have q2_66_2 : h2.1 66 2 = h1.1 66 2 := g2.1 66 2 (by decide)
  have q2_14_8 : h2.1 14 8 = h1.1 14 8 := g2.1 14 8 (by decide)
  have q2_66_22 : h2.1 66 22 = h1.1 66 22 := g2.1 66 22 (by decide)
  have q2_22_8 : h2.1 22 8 = h1.1 22 8 := g2.1 22 8 (by decide)
  have q2_66_23 : h2.1 66 23 = h1.1 66 23 := g2.1 66 23 (by decide)
  have q2_14_7 : h2.1 14 7 = h1.1 14 7 := g2.1 14 7 (by decide)
  have q2_66_21 : h2.1 66 21 = h1.1 66 21 := g2.1 66 21 (by decide)
  have q2_22_9 : h2.1 22 9 = h1.1 22 9 := g2.1 22 9 (by decide)
  have q2_66_24 : h2.1 66 24 = h1.1 66 24 := g2.1 66 24 (by decide)
  have q2_0_12 : h2.1 0 12 = h1.1 0 12 := g2.1 0 12 (by decide)
  have q2_0_14 : h2.1 0 14 = h1.1 0 14 := g2.1 0 14 (by decide)
  have q2_30_6 : h2.1 30 6 = h1.1 30 6 := g2.1 30 6 (by decide)
  have q2_66_40 : h2.1 66 40 = h1.1 66 40 := g2.1 66 40 (by decide)
  have q2_30_12 : h2.1 30 12 = h1.1 30 12 := g2.1 30 12 (by decide)
  have q2_66_82 : h2.1 66 82 = h1.1 66 82 := g2.1 66 82 (by decide)
  have q2_0_13 : h2.1 0 13 = h1.1 0 13 := g2.1 0 13 (by decide)
  have q2_66_41 : h2.1 66 41 = h1.1 66 41 := g2.1 66 41 (by decide)
  have q2_1_7 : h2.1 1 7 = h1.1 1 7 := g2.1 1 7 (by decide)
  have q2_66_3 : h2.1 66 3 = h1.1 66 3 := g2.1 66 3 (by decide)
  have q2_66_9 : h2.1 66 9 = h1.1 66 9 := g2.1 66 9 (by decide)
  have q2_66_10 : h2.1 66 10 = h1.1 66 10 := g2.1 66 10 (by decide)
  have q2_1_8 : h2.1 1 8 = h1.1 1 8 := g2.1 1 8 (by decide)
  have q2_66_11 : h2.1 66 11 = h1.1 66 11 := g2.1 66 11 (by decide)
  have q2_66_12 : h2.1 66 12 = h1.1 66 12 := g2.1 66 12 (by decide)
  have q2_30_13 : h2.1 30 13 = h1.1 30 13 := g2.1 30 13 (by decide)
  have q2_66_91 : h2.1 66 91 = h1.1 66 91 := g2.1 66 91 (by decide)
  have q2_42_3 : h2.1 42 3 = h1.1 42 3 := g2.1 42 3 (by decide)
  have y9 : mm_hd _ := y1_1
  have y8 : mm_hd _ := y2_2
  clear y1_1 y2_2
  have eW : (r1 = 0 ∧ h2.1 66 0 = 0 ∧ h1.2.1 124 0 = r2 ∧ h2.1 66 58 = h1.1 0 14) ∨ (r1 = 1 ∧ h2.1 66 0 = 1 ∧ h2.1 66 58 = h1.1 66 58) := by
    have x9 := mm_hd_x y9
    by_cases q : r1 = 0
    · have x8 := (mm_hd_x y8).resolve_right (fun z => by have z1 := z.1; omega)
      have z := mm_rules_eq (fun j a b => (ra12 j a (by omega)).trans (g1.2 101 (by decide) j).symm) (x9.2.1 q) x8.2.2
      exact Or.inl ⟨q, x8.2.1, z.1, z.2.1.symm⟩
    · have x8 := (mm_hd_x y8).resolve_left (fun z => by have z1 := z.1.1; have z2 := z.1.2; omega)
      exact Or.inr ⟨by omega, x8.2.1, x8.2.2.2.1⟩
  have rV7 : mm_pw9 h2 := by
    have x9 := mm_hd_x y9
    by_cases q : r1 = 0
    · have x8 := (mm_hd_x y8).resolve_right (fun z => by have z1 := z.1; omega)
      have z := mm_rules_eq (fun j a b => (ra12 j a (by omega)).trans (g1.2 101 (by decide) j).symm) (x9.2.1 q) x8.2.2
      exact mm_pw9_rules ra28 (x9.2.1 q) z.2.2 (fun j => g2.2 44 (by decide) j) (fun j => g1.2 102 (by decide) j) (g1.1 66 67 (by decide)) (g1.1 66 68 (by decide))
    · have x8 := (mm_hd_x y8).resolve_left (fun z => by have z1 := z.1.1; have z2 := z.1.2; omega)
      exact mm_pw9_keep ra28 (fun w => (g2.2 44 (by decide) w).trans (x9.2.2.1 q w)) (fun w a b => (x8.2.2.2.2 w a b).trans (mm_pr_sm (fun j => g1.2 102 (by decide) j) (g1.1 66 67 (by decide)) (g1.1 66 68 (by decide))))
  have rG0 : mm_cJ h2 := by
    have x9 := mm_hd_x y9
    by_cases q : r1 = 0
    · have eq := (eW.resolve_right (fun z => by have z1 := z.1; omega)).2
      exact mm_cJ_rules ra33 (fun j a b => (ra12 j a (by omega)).trans (g1.2 101 (by decide) j).symm) (x9.2.2.2.1 q) (y2_3.resolve_right (fun z => z.1 eq.1)).2 eq.2.1 (fun w R => mm_ruY_sm R (g1.1 66 67 (by decide)) (g1.1 66 68 (by decide)) (g1.2 103 (by decide)) (g1.2 104 (by decide)) (g1.2 105 (by decide)) (g1.2 106 (by decide)) (g1.2 107 (by decide))) (g2.1 42 3 (by decide)) (fun j => g2.2 43 (by decide) j)
    · have eq := (eW.resolve_left (fun z => q z.1)).2
      exact mm_cJ_keep ra33 ((g2.1 42 3 (by decide)).trans (x9.2.2.2.2 q).1) (fun j => (g2.2 43 (by decide) j).trans ((x9.2.2.2.2 q).2 j)) (fun w R => mm_ruY_sm R (g1.1 66 67 (by decide)) (g1.1 66 68 (by decide)) (g1.2 103 (by decide)) (g1.2 104 (by decide)) (g1.2 105 (by decide)) (g1.2 106 (by decide)) (g1.2 107 (by decide))) (y2_3.resolve_left (fun z => by have z1 := z.1; omega)).2
  have qa2 : h2.2.1 124 0 = h1.2.1 124 0 := g2.2 124 (by decide) 0
  refine mm_istoreL (ls2 := [mR 3000, mR 0, mR 66, mR 124, mI i, mI r1, mI r2, mU]) C (mm_dec dk_law14 9 rfl) (by decide) rfl ?_
  refine mm_goto (tgt := 1668) C (mm_dec dk_law14 10 rfl) (by decide) ?_
  refine mm_fgt 5 ?_
  refine mm_fgt 6 ?_
  have ze := mm_zf_eq (show h2.1 58 5 = h.1 58 5 from (g2.1 58 5 (by decide)).trans ((g1.1 58 5 (by decide)).trans (rfl)))
  refine mm_widen (k := mm_aA (i + 6) h2) (n := mm_bB (i + 6) h2) (by rw [show mm_aA (i + 6) h2 = 200 + (i + 6).toNat + (mm_zf h).1 from by unfold mm_aA; rw [ze]]; omega) (by rw [show mm_bB (i + 6) h2 = 90000 + 6 * (i + 6).toNat + (mm_zf h).2 from by unfold mm_bB; rw [ze]]; omega) ?_
  exact K h2 i2 (y2_0) (by unfold mm_Rl; exact ⟨by omega, by omega, by omega, by omega, by omega, by omega, by omega, by omega, by omega, by omega, by omega, by omega, by omega, mm_eq_fr (mm_eq_fr (ra0) g1 (by decide) (by decide)) g2 (by decide) (by decide), mm_eq_fr (mm_eq_fr (ra1) g1 (by decide) (by decide)) g2 (by decide) (by decide), mm_eq_le (mm_eq_fr (mm_eq_fr (ra2) g1 (by decide) (by decide)) g2 (by decide) (by decide)) (by omega), mm_eq_le (mm_eq_fr (mm_eq_fr (ra3) g1 (by decide) (by decide)) g2 (by decide) (by decide)) (by omega), mm_eq_le (mm_eq_fr (mm_eq_fr (ra4) g1 (by decide) (by decide)) g2 (by decide) (by decide)) (by omega), mm_eq_le (mm_eq_fr (mm_eq_fr (ra5) g1 (by decide) (by decide)) g2 (by decide) (by decide)) (by omega), mm_tk_sm (mm_tk_sm (ra6) (fun j => g1.2 18 (by decide) j) (fun j => g1.2 85 (by decide) j) (by omega) (by omega)) (fun j => g2.2 18 (by decide) j) (fun j => g2.2 85 (by decide) j) (by omega) (by omega), mm_cb_sm (mm_cb_sm (ra7) (fun j => g1.2 85 (by decide) j) (by omega) (by omega)) (fun j => g2.2 85 (by decide) j) (by omega) (by omega), mm_fb_sm (mm_fb_sm (ra8) (fun j => g1.2 20 (by decide) j) (by omega)) (fun j => g2.2 20 (by decide) j) (by omega), mm_eq_fr (mm_eq_fr (ra9) g1 (by decide) (by decide)) g2 (by decide) (by decide), mm_eq_fr (mm_eq_fr (ra10) g1 (by decide) (by decide)) g2 (by decide) (by decide), mm_eq_fr (mm_eq_fr (ra11) g1 (by decide) (by decide)) g2 (by decide) (by decide), mm_eq_le (mm_eq_fr (mm_eq_fr (ra12) g1 (by decide) (by decide)) g2 (by decide) (by decide)) (by omega), mm_go_sm (mm_go_sm (ra13) (fun j => g1.2 6 (by decide) j) (by omega) (by omega) (by omega) (by omega) (by omega) (by omega)) (fun j => g2.2 6 (by decide) j) (by omega) (by omega) (by omega) (by omega) (by omega) (by omega), mm_eq_le (mm_eq_fr (mm_eq_fr (ra14) g1 (by decide) (by decide)) g2 (by decide) (by decide)) (by omega), mm_eq_le (mm_eq_fr (mm_eq_fr (ra15) g1 (by decide) (by decide)) g2 (by decide) (by decide)) (by omega), mm_it_sm (mm_it_sm (ra16) (fun j => g1.2 28 (by decide) j) (fun j => g1.2 88 (by decide) j) (by omega)) (fun j => g2.2 28 (by decide) j) (fun j => g2.2 88 (by decide) j) (by omega), mm_br_sm (mm_br_sm (ra17) (fun j => g1.2 21 (by decide) j) (fun j => g1.2 82 (by decide) j) (fun j => g1.2 84 (by decide) j) (fun j => g1.2 19 (by decide) j) (by omega)) (fun j => g2.2 21 (by decide) j) (fun j => g2.2 82 (by decide) j) (fun j => g2.2 84 (by decide) j) (fun j => g2.2 19 (by decide) j) (by omega), mm_gn_sm (mm_gn_sm (ra18)  (by omega) (by omega) (by omega) (by omega) (by omega))  (by omega) (by omega) (by omega) (by omega) (by omega), mm_pc_sm (mm_pc_sm (ra19) (fun j => g1.2 15 (by decide) j) (by omega) (by omega) (by omega)) (fun j => g2.2 15 (by decide) j) (by omega) (by omega) (by omega), mm_bv_sm (mm_bv_sm (ra20) (fun j => g1.2 21 (by decide) j) (fun j => g1.2 19 (by decide) j) (by omega) (by omega)) (fun j => g2.2 21 (by decide) j) (fun j => g2.2 19 (by decide) j) (by omega) (by omega), mm_eq_le (mm_eq_fr (mm_eq_fr (ra21) g1 (by decide) (by decide)) g2 (by decide) (by decide)) (by omega), mm_eq_le (mm_eq_fr (mm_eq_fr (ra22) g1 (by decide) (by decide)) g2 (by decide) (by decide)) (by omega), mm_eq_le (mm_eq_fr (mm_eq_fr (ra23) g1 (by decide) (by decide)) g2 (by decide) (by decide)) (by omega), mm_eq_le (mm_eq_fr (mm_eq_fr (ra24) g1 (by decide) (by decide)) g2 (by decide) (by decide)) (by omega), mm_eq_le (mm_eq_fr (mm_eq_fr (ra25) g1 (by decide) (by decide)) g2 (by decide) (by decide)) (by omega), mm_eq_le (mm_eq_fr (mm_eq_fr (ra26) g1 (by decide) (by decide)) g2 (by decide) (by decide)) (by omega), mm_ah_sm (mm_ah_sm (ra27) (fun j => g1.2 27 (by decide) j) (fun j => g1.2 88 (by decide) j) (fun j => g1.2 89 (by decide) j) (by omega)) (fun j => g2.2 27 (by decide) j) (fun j => g2.2 88 (by decide) j) (fun j => g2.2 89 (by decide) j) (by omega), rV7, mm_eq_le (mm_eq_fr (mm_eq_fr (ra29) g1 (by decide) (by decide)) g2 (by decide) (by decide)) (by omega), mm_ep8_sm (mm_ep8_sm (ra30) (fun j => g1.2 31 (by decide) j) (fun j => g1.2 33 (by decide) j) (fun j => g1.2 94 (by decide) j) (by omega)) (fun j => g2.2 31 (by decide) j) (fun j => g2.2 33 (by decide) j) (fun j => g2.2 94 (by decide) j) (by omega), mm_ab8_sm (mm_ab8_sm (ra31) (fun j => g1.2 27 (by decide) j) (fun j => g1.2 88 (by decide) j) (fun j => g1.2 89 (by decide) j) (fun j => g1.2 90 (by decide) j) (by omega) (by omega)) (fun j => g2.2 27 (by decide) j) (fun j => g2.2 88 (by decide) j) (fun j => g2.2 89 (by decide) j) (fun j => g2.2 90 (by decide) j) (by omega) (by omega), mm_eq_le (mm_eq_fr (mm_eq_fr (ra32) g1 (by decide) (by decide)) g2 (by decide) (by decide)) (by omega), rG0, mm_pt9_sm (mm_pt9_sm (ra34) (fun j => g1.2 37 (by decide) j) (fun j => g1.2 38 (by decide) j) (fun j => g1.2 39 (by decide) j) (fun j => g1.2 40 (by decide) j) (fun j => g1.2 41 (by decide) j) (fun j => g1.2 112 (by decide) j) (fun j => g1.2 114 (by decide) j) (fun j => g1.2 115 (by decide) j) (fun j => g1.2 116 (by decide) j) (by omega) (by omega) (by omega)) (fun j => g2.2 37 (by decide) j) (fun j => g2.2 38 (by decide) j) (fun j => g2.2 39 (by decide) j) (fun j => g2.2 40 (by decide) j) (fun j => g2.2 41 (by decide) j) (fun j => g2.2 112 (by decide) j) (fun j => g2.2 114 (by decide) j) (fun j => g2.2 115 (by decide) j) (fun j => g2.2 116 (by decide) j) (by omega) (by omega) (by omega), mm_tm9_sm (mm_tm9_sm (ra35) (fun j => g1.2 29 (by decide) j) (fun j => g1.2 90 (by decide) j) (by omega) (by omega)) (fun j => g2.2 29 (by decide) j) (fun j => g2.2 90 (by decide) j) (by omega) (by omega)⟩)
set_option maxRecDepth 100000 in
set_option maxHeartbeats 4000000 in
theorem lw_c22 {x : mX} {L : Nat} {xs : Nat → Int32} (C : mm_OK 60 601024 7293034 code RL 8 ret x) (X : mm_scr x L xs) (hl : x.2.1.stackTraces = false) (hL : L ≤ 3072) (i : Int) (hi : 0 ≤ i ∧ i + 6 ≤ L) (h : mH) (i0 : mm_inv h) (r0 : mm_RO h) (rl0 : mm_Rl i h) (K : mm_K x i) : mm_W x (mm_aA i h) (mm_bB i h) 1327 (mm_lls i) [] h := by
  have zl := mm_zf_le h
  have ea : mm_aA i h = 200 + i.toNat + (mm_zf h).1 := rfl
  have eb : mm_bB i h = 90000 + 6 * i.toNat + (mm_zf h).2 := rfl
  obtain ⟨rs0, rs1, rs2, rs3, rs4, rs5, rs6, rs7, rs8, rs9, rs10, rs11, rs12, ra0, ra1, ra2, ra3, ra4, ra5, ra6, ra7, ra8, ra9, ra10, ra11, ra12, ra13, ra14, ra15, ra16, ra17, ra18, ra19, ra20, ra21, ra22, ra23, ra24, ra25, ra26, ra27, ra28, ra29, ra30, ra31, ra32, ra33, ra34, ra35⟩ := rl0
  refine mm_aload_n C (mm_dec dk_law14 11 rfl) rfl ?_
  refine mm_cVi (d := 59) (rest := []) C ev_L_191 (mm_dec dk_law14 12 rfl) (c_X11_fault x.2.1 hl 59 (by decide) h i0 ) rfl rfl (Nat.le_of_ble_eq_true rfl) ⟨by omega, by omega⟩ rfl (fun r1 h1 hp1 => ?_) (fun _ _ q => q.elim)
  have z1 := hp1.1
  have w1 := hp1.2
  rw [z1]
  refine mm_pop C (mm_dec dk_law14 13 rfl) (show (0 : Nat) ≠ 1 by decide) ?_
  refine mm_aload_n C (mm_dec dk_law14 14 rfl) rfl ?_
  refine mm_cVi (d := 59) (rest := []) C ev_L_194 (mm_dec dk_law14 15 rfl) (c_X12_fault x.2.1 hl 59 (by decide) h i0 ) rfl rfl (Nat.le_of_ble_eq_true rfl) ⟨by omega, by omega⟩ rfl (fun r2 h2 hp2 => ?_) (fun _ _ q => q.elim)
  obtain ⟨b2, i2, g2⟩ := hp2
  have q2_1_5 : h2.1 1 5 = h.1 1 5 := g2.1 1 5 (by decide)
  have q2_66_1 : h2.1 66 1 = h.1 66 1 := g2.1 66 1 (by decide)
  have q2_1_6 : h2.1 1 6 = h.1 1 6 := g2.1 1 6 (by decide)
  have q2_66_2 : h2.1 66 2 = h.1 66 2 := g2.1 66 2 (by decide)
  have q2_14_8 : h2.1 14 8 = h.1 14 8 := g2.1 14 8 (by decide)
  have q2_66_22 : h2.1 66 22 = h.1 66 22 := g2.1 66 22 (by decide)
  have q2_22_8 : h2.1 22 8 = h.1 22 8 := g2.1 22 8 (by decide)
  have q2_66_23 : h2.1 66 23 = h.1 66 23 := g2.1 66 23 (by decide)
  have q2_14_7 : h2.1 14 7 = h.1 14 7 := g2.1 14 7 (by decide)
  have q2_66_21 : h2.1 66 21 = h.1 66 21 := g2.1 66 21 (by decide)
  have q2_22_9 : h2.1 22 9 = h.1 22 9 := g2.1 22 9 (by decide)
  have q2_66_24 : h2.1 66 24 = h.1 66 24 := g2.1 66 24 (by decide)
  have q2_0_12 : h2.1 0 12 = h.1 0 12 := g2.1 0 12 (by decide)
  have q2_66_56 : h2.1 66 56 = h.1 66 56 := g2.1 66 56 (by decide)
  have q2_0_14 : h2.1 0 14 = h.1 0 14 := g2.1 0 14 (by decide)
  have q2_66_58 : h2.1 66 58 = h.1 66 58 := g2.1 66 58 (by decide)
  have q2_30_6 : h2.1 30 6 = h.1 30 6 := g2.1 30 6 (by decide)
  have q2_66_40 : h2.1 66 40 = h.1 66 40 := g2.1 66 40 (by decide)
  have q2_30_12 : h2.1 30 12 = h.1 30 12 := g2.1 30 12 (by decide)
  have q2_66_82 : h2.1 66 82 = h.1 66 82 := g2.1 66 82 (by decide)
  have q2_0_13 : h2.1 0 13 = h.1 0 13 := g2.1 0 13 (by decide)
  have q2_66_41 : h2.1 66 41 = h.1 66 41 := g2.1 66 41 (by decide)
  have q2_1_7 : h2.1 1 7 = h.1 1 7 := g2.1 1 7 (by decide)
  have q2_66_3 : h2.1 66 3 = h.1 66 3 := g2.1 66 3 (by decide)
  have q2_66_9 : h2.1 66 9 = h.1 66 9 := g2.1 66 9 (by decide)
  have q2_66_10 : h2.1 66 10 = h.1 66 10 := g2.1 66 10 (by decide)
  have q2_1_8 : h2.1 1 8 = h.1 1 8 := g2.1 1 8 (by decide)
  have q2_66_11 : h2.1 66 11 = h.1 66 11 := g2.1 66 11 (by decide)
  have q2_66_12 : h2.1 66 12 = h.1 66 12 := g2.1 66 12 (by decide)
  have q2_66_67 : h2.1 66 67 = h.1 66 67 := g2.1 66 67 (by decide)
  have q2_66_68 : h2.1 66 68 = h.1 66 68 := g2.1 66 68 (by decide)
  have q2_30_13 : h2.1 30 13 = h.1 30 13 := g2.1 30 13 (by decide)
  have q2_66_91 : h2.1 66 91 = h.1 66 91 := g2.1 66 91 (by decide)
  have q2_42_3 : h2.1 42 3 = h.1 42 3 := g2.1 42 3 (by decide)
  have qa2 : h2.2.1 124 0 = h.2.1 124 0 := g2.2 124 (by decide) 0
  refine mm_pop C (mm_dec dk_law14 16 rfl) (show (0 : Nat) ≠ 1 by decide) ?_
  refine mm_goto (tgt := 1668) C (mm_dec dk_law14 17 rfl) (by decide) ?_
  have ze := mm_zf_eq (show h2.1 58 5 = h.1 58 5 from (g2.1 58 5 (by decide)).trans (rfl))
  refine mm_widen (k := mm_aA (i + 6) h2) (n := mm_bB (i + 6) h2) (by rw [show mm_aA (i + 6) h2 = 200 + (i + 6).toNat + (mm_zf h).1 from by unfold mm_aA; rw [ze]]; omega) (by rw [show mm_bB (i + 6) h2 = 90000 + 6 * (i + 6).toNat + (mm_zf h).2 from by unfold mm_bB; rw [ze]]; omega) ?_
  exact K h2 i2 (mm_RO_fr (r0) g2 (by decide)) (by unfold mm_Rl; exact ⟨by omega, by omega, by omega, by omega, by omega, by omega, by omega, by omega, by omega, by omega, by omega, by omega, by omega, mm_eq_fr (ra0) g2 (by decide) (by decide), mm_eq_fr (ra1) g2 (by decide) (by decide), mm_eq_le (mm_eq_fr (ra2) g2 (by decide) (by decide)) (by omega), mm_eq_le (mm_eq_fr (ra3) g2 (by decide) (by decide)) (by omega), mm_eq_le (mm_eq_fr (ra4) g2 (by decide) (by decide)) (by omega), mm_eq_le (mm_eq_fr (ra5) g2 (by decide) (by decide)) (by omega), mm_tk_sm (ra6) (fun j => g2.2 18 (by decide) j) (fun j => g2.2 85 (by decide) j) (by omega) (by omega), mm_cb_sm (ra7) (fun j => g2.2 85 (by decide) j) (by omega) (by omega), mm_fb_sm (ra8) (fun j => g2.2 20 (by decide) j) (by omega), mm_eq_fr (ra9) g2 (by decide) (by decide), mm_eq_fr (ra10) g2 (by decide) (by decide), mm_eq_fr (ra11) g2 (by decide) (by decide), mm_eq_le (mm_eq_fr (ra12) g2 (by decide) (by decide)) (by omega), mm_go_sm (ra13) (fun j => g2.2 6 (by decide) j) (by omega) (by omega) (by omega) (by omega) (by omega) (by omega), mm_eq_le (mm_eq_fr (ra14) g2 (by decide) (by decide)) (by omega), mm_eq_le (mm_eq_fr (ra15) g2 (by decide) (by decide)) (by omega), mm_it_sm (ra16) (fun j => g2.2 28 (by decide) j) (fun j => g2.2 88 (by decide) j) (by omega), mm_br_sm (ra17) (fun j => g2.2 21 (by decide) j) (fun j => g2.2 82 (by decide) j) (fun j => g2.2 84 (by decide) j) (fun j => g2.2 19 (by decide) j) (by omega), mm_gn_sm (ra18)  (by omega) (by omega) (by omega) (by omega) (by omega), mm_pc_sm (ra19) (fun j => g2.2 15 (by decide) j) (by omega) (by omega) (by omega), mm_bv_sm (ra20) (fun j => g2.2 21 (by decide) j) (fun j => g2.2 19 (by decide) j) (by omega) (by omega), mm_eq_le (mm_eq_fr (ra21) g2 (by decide) (by decide)) (by omega), mm_eq_le (mm_eq_fr (ra22) g2 (by decide) (by decide)) (by omega), mm_eq_le (mm_eq_fr (ra23) g2 (by decide) (by decide)) (by omega), mm_eq_le (mm_eq_fr (ra24) g2 (by decide) (by decide)) (by omega), mm_eq_le (mm_eq_fr (ra25) g2 (by decide) (by decide)) (by omega), mm_eq_le (mm_eq_fr (ra26) g2 (by decide) (by decide)) (by omega), mm_ah_sm (ra27) (fun j => g2.2 27 (by decide) j) (fun j => g2.2 88 (by decide) j) (fun j => g2.2 89 (by decide) j) (by omega), mm_pw9_sm (ra28) (fun j => g2.2 44 (by decide) j) (fun j => g2.2 102 (by decide) j) (by omega) (by omega), mm_eq_le (mm_eq_fr (ra29) g2 (by decide) (by decide)) (by omega), mm_ep8_sm (ra30) (fun j => g2.2 31 (by decide) j) (fun j => g2.2 33 (by decide) j) (fun j => g2.2 94 (by decide) j) (by omega), mm_ab8_sm (ra31) (fun j => g2.2 27 (by decide) j) (fun j => g2.2 88 (by decide) j) (fun j => g2.2 89 (by decide) j) (fun j => g2.2 90 (by decide) j) (by omega) (by omega), mm_eq_le (mm_eq_fr (ra32) g2 (by decide) (by decide)) (by omega), mm_cJ_sm (ra33) (fun j => g2.2 43 (by decide) j) (fun j => g2.2 103 (by decide) j) (fun j => g2.2 104 (by decide) j) (fun j => g2.2 105 (by decide) j) (fun j => g2.2 106 (by decide) j) (fun j => g2.2 107 (by decide) j) (by omega) (by omega) (by omega), mm_pt9_sm (ra34) (fun j => g2.2 37 (by decide) j) (fun j => g2.2 38 (by decide) j) (fun j => g2.2 39 (by decide) j) (fun j => g2.2 40 (by decide) j) (fun j => g2.2 41 (by decide) j) (fun j => g2.2 112 (by decide) j) (fun j => g2.2 114 (by decide) j) (fun j => g2.2 115 (by decide) j) (fun j => g2.2 116 (by decide) j) (by omega) (by omega) (by omega), mm_tm9_sm (ra35) (fun j => g2.2 29 (by decide) j) (fun j => g2.2 90 (by decide) j) (by omega) (by omega)⟩)
set_option maxRecDepth 100000 in
set_option maxHeartbeats 4000000 in
theorem lw_c23 {x : mX} {L : Nat} {xs : Nat → Int32} (C : mm_OK 60 601024 7293034 code RL 8 ret x) (X : mm_scr x L xs) (hl : x.2.1.stackTraces = false) (hL : L ≤ 3072) (i : Int) (hi : 0 ≤ i ∧ i + 6 ≤ L) (h : mH) (i0 : mm_inv h) (r0 : mm_RO h) (rl0 : mm_Rl i h) (K : mm_K x i) : mm_W x (mm_aA i h) (mm_bB i h) 1340 (mm_lls i) [] h := by
  have zl := mm_zf_le h
  have ea : mm_aA i h = 200 + i.toNat + (mm_zf h).1 := rfl
  have eb : mm_bB i h = 90000 + 6 * i.toNat + (mm_zf h).2 := rfl
  obtain ⟨rs0, rs1, rs2, rs3, rs4, rs5, rs6, rs7, rs8, rs9, rs10, rs11, rs12, ra0, ra1, ra2, ra3, ra4, ra5, ra6, ra7, ra8, ra9, ra10, ra11, ra12, ra13, ra14, ra15, ra16, ra17, ra18, ra19, ra20, ra21, ra22, ra23, ra24, ra25, ra26, ra27, ra28, ra29, ra30, ra31, ra32, ra33, ra34, ra35⟩ := rl0
  refine mm_aload_n C (mm_dec dk_law14 18 rfl) rfl ?_
  refine mm_aload_n C (mm_dec dk_law14 19 rfl) rfl ?_
  refine mm_iload C (mm_dec dk_law14 20 rfl) rfl ?_
  refine mm_iconst C (mm_dec dk_law14 21 rfl) ⟨by decide, by decide⟩ ?_
  refine mm_iadd C (mm_dec dk_law14 22 rfl) ⟨by omega, by omega⟩ ?_
  refine mm_sld C X (mm_dec dk_law14 23 rfl) (by omega) (by omega) ?_
  refine mm_aload_n C (mm_dec dk_law14 24 rfl) rfl ?_
  refine mm_cHi (d := 59) (rest := []) C mh_L_protest ml_L_195 sm_L_protest (mm_dec dk_law14 25 rfl) (c_L_protest_q x.2.1 hl 59 (by decide) h i0 (mm_sc xs (i + 1))) rfl (Nat.le_of_ble_eq_true rfl) ⟨by omega, by omega⟩ rfl (fun r1 h1 hp1 => ?_)
  obtain ⟨b1, i1, g1, y1_0, y1_1⟩ := hp1
  have q1_1_5 : h1.1 1 5 = h.1 1 5 := g1.1 1 5 (by decide)
  have q1_66_1 : h1.1 66 1 = h.1 66 1 := g1.1 66 1 (by decide)
  have q1_1_6 : h1.1 1 6 = h.1 1 6 := g1.1 1 6 (by decide)
  have q1_66_2 : h1.1 66 2 = h.1 66 2 := g1.1 66 2 (by decide)
  have q1_14_8 : h1.1 14 8 = h.1 14 8 := g1.1 14 8 (by decide)
  have q1_66_22 : h1.1 66 22 = h.1 66 22 := g1.1 66 22 (by decide)
  have q1_22_8 : h1.1 22 8 = h.1 22 8 := g1.1 22 8 (by decide)
  have q1_66_23 : h1.1 66 23 = h.1 66 23 := g1.1 66 23 (by decide)
  have q1_14_7 : h1.1 14 7 = h.1 14 7 := g1.1 14 7 (by decide)
  have q1_66_21 : h1.1 66 21 = h.1 66 21 := g1.1 66 21 (by decide)
  have q1_22_9 : h1.1 22 9 = h.1 22 9 := g1.1 22 9 (by decide)
  have q1_66_24 : h1.1 66 24 = h.1 66 24 := g1.1 66 24 (by decide)
  have q1_0_12 : h1.1 0 12 = h.1 0 12 := g1.1 0 12 (by decide)
  have q1_66_56 : h1.1 66 56 = h.1 66 56 := g1.1 66 56 (by decide)
  have q1_0_14 : h1.1 0 14 = h.1 0 14 := g1.1 0 14 (by decide)
  have q1_66_58 : h1.1 66 58 = h.1 66 58 := g1.1 66 58 (by decide)
  have q1_30_6 : h1.1 30 6 = h.1 30 6 := g1.1 30 6 (by decide)
  have q1_66_40 : h1.1 66 40 = h.1 66 40 := g1.1 66 40 (by decide)
  have q1_66_82 : h1.1 66 82 = h.1 66 82 := g1.1 66 82 (by decide)
  have q1_0_13 : h1.1 0 13 = h.1 0 13 := g1.1 0 13 (by decide)
  have q1_66_41 : h1.1 66 41 = h.1 66 41 := g1.1 66 41 (by decide)
  have q1_1_7 : h1.1 1 7 = h.1 1 7 := g1.1 1 7 (by decide)
  have q1_66_3 : h1.1 66 3 = h.1 66 3 := g1.1 66 3 (by decide)
  have q1_66_9 : h1.1 66 9 = h.1 66 9 := g1.1 66 9 (by decide)
  have q1_66_10 : h1.1 66 10 = h.1 66 10 := g1.1 66 10 (by decide)
  have q1_1_8 : h1.1 1 8 = h.1 1 8 := g1.1 1 8 (by decide)
  have q1_66_11 : h1.1 66 11 = h.1 66 11 := g1.1 66 11 (by decide)
  have q1_66_12 : h1.1 66 12 = h.1 66 12 := g1.1 66 12 (by decide)
  have q1_66_67 : h1.1 66 67 = h.1 66 67 := g1.1 66 67 (by decide)
  have q1_66_68 : h1.1 66 68 = h.1 66 68 := g1.1 66 68 (by decide)
  have q1_30_13 : h1.1 30 13 = h.1 30 13 := g1.1 30 13 (by decide)
  have q1_66_91 : h1.1 66 91 = h.1 66 91 := g1.1 66 91 (by decide)
  have q1_42_3 : h1.1 42 3 = h.1 42 3 := g1.1 42 3 (by decide)
  refine mm_istoreL (ls2 := [mR 3000, mR 0, mR 66, mR 124, mI i, mI r1, mU, mU]) C (mm_dec dk_law14 26 rfl) (by decide) rfl ?_
  refine mm_aload_n C (mm_dec dk_law14 27 rfl) rfl ?_
  refine mm_aload_n C (mm_dec dk_law14 28 rfl) rfl ?_
  refine mm_iload C (mm_dec dk_law14 29 rfl) rfl ?_
  refine mm_iconst C (mm_dec dk_law14 30 rfl) ⟨by decide, by decide⟩ ?_
  refine mm_iadd C (mm_dec dk_law14 31 rfl) ⟨by omega, by omega⟩ ?_
  refine mm_sld C X (mm_dec dk_law14 32 rfl) (by omega) (by omega) ?_
  refine mm_cVi (d := 59) (rest := []) C ev_L_197 (mm_dec dk_law14 33 rfl) (c_X12_protest_q x.2.1 hl 59 (by decide) h1 i1 (mm_sc xs (i + 1))) rfl rfl (Nat.le_of_ble_eq_true rfl) ⟨by omega, by omega⟩ rfl (fun r2 h2 hp2 => ?_) (fun _ _ q => q.elim)
  obtain ⟨b2, i2, g2, y2_0, y2_1⟩ := hp2
  have q2_1_5 : h2.1 1 5 = h1.1 1 5 := g2.1 1 5 (by decide)
  have q2_66_1 : h2.1 66 1 = h1.1 66 1 := g2.1 66 1 (by decide)
  have q2_1_6 : h2.1 1 6 = h1.1 1 6 := g2.1 1 6 (by decide)
  have q2_66_2 : h2.1 66 2 = h1.1 66 2 := g2.1 66 2 (by decide)
  have q2_14_8 : h2.1 14 8 = h1.1 14 8 := g2.1 14 8 (by decide)
  have q2_66_22 : h2.1 66 22 = h1.1 66 22 := g2.1 66 22 (by decide)
  have q2_22_8 : h2.1 22 8 = h1.1 22 8 := g2.1 22 8 (by decide)
  have q2_66_23 : h2.1 66 23 = h1.1 66 23 := g2.1 66 23 (by decide)
  have q2_14_7 : h2.1 14 7 = h1.1 14 7 := g2.1 14 7 (by decide)
  have q2_66_21 : h2.1 66 21 = h1.1 66 21 := g2.1 66 21 (by decide)
  have q2_22_9 : h2.1 22 9 = h1.1 22 9 := g2.1 22 9 (by decide)
  have q2_66_24 : h2.1 66 24 = h1.1 66 24 := g2.1 66 24 (by decide)
  have q2_0_12 : h2.1 0 12 = h1.1 0 12 := g2.1 0 12 (by decide)
  have q2_66_56 : h2.1 66 56 = h1.1 66 56 := g2.1 66 56 (by decide)
  have q2_0_14 : h2.1 0 14 = h1.1 0 14 := g2.1 0 14 (by decide)
  have q2_66_58 : h2.1 66 58 = h1.1 66 58 := g2.1 66 58 (by decide)
  have q2_30_6 : h2.1 30 6 = h1.1 30 6 := g2.1 30 6 (by decide)
  have q2_66_40 : h2.1 66 40 = h1.1 66 40 := g2.1 66 40 (by decide)
  have q2_30_12 : h2.1 30 12 = h1.1 30 12 := g2.1 30 12 (by decide)
  have q2_0_13 : h2.1 0 13 = h1.1 0 13 := g2.1 0 13 (by decide)
  have q2_66_41 : h2.1 66 41 = h1.1 66 41 := g2.1 66 41 (by decide)
  have q2_1_7 : h2.1 1 7 = h1.1 1 7 := g2.1 1 7 (by decide)
  have q2_66_3 : h2.1 66 3 = h1.1 66 3 := g2.1 66 3 (by decide)
  have q2_66_9 : h2.1 66 9 = h1.1 66 9 := g2.1 66 9 (by decide)
  have q2_66_10 : h2.1 66 10 = h1.1 66 10 := g2.1 66 10 (by decide)
  have q2_1_8 : h2.1 1 8 = h1.1 1 8 := g2.1 1 8 (by decide)
  have q2_66_11 : h2.1 66 11 = h1.1 66 11 := g2.1 66 11 (by decide)
  have q2_66_12 : h2.1 66 12 = h1.1 66 12 := g2.1 66 12 (by decide)
  have q2_66_67 : h2.1 66 67 = h1.1 66 67 := g2.1 66 67 (by decide)
  have q2_66_68 : h2.1 66 68 = h1.1 66 68 := g2.1 66 68 (by decide)
  have q2_30_13 : h2.1 30 13 = h1.1 30 13 := g2.1 30 13 (by decide)
  have q2_66_91 : h2.1 66 91 = h1.1 66 91 := g2.1 66 91 (by decide)
  have q2_42_3 : h2.1 42 3 = h1.1 42 3 := g2.1 42 3 (by decide)
  obtain ⟨x1, x2, f1, hf1, u40, u37⟩ := y1_1
  obtain ⟨f2, hf2, w113, w112⟩ := y2_1
  have e0 : h1.1 66 82 = h.1 30 12 := by omega
  rw [e0] at w113 w112
  have bp9 : 0 ≤ h.1 30 12 ∧ h.1 30 12 ≤ 40 := i0.1 30 12
  have eS : f1 = f2 ∧ ((r1 = 1 ∧ h2.1 66 0 = 1) ∨ (r1 = 0 ∧ h2.1 66 0 = 0 ∧ h1.2.1 124 0 = r2)) ∧ h2.1 66 82 = h2.1 30 12 := by
    by_cases q : r1 = 0
    · have x := x1 q
      have y9 := y2_0.resolve_right (fun z => by have z1 := z.1; omega)
      have z := mm_pro_eq (mm_hq9x x) (mm_hq9x y9.2.2) ra21 ra22 ra23 ra24 (mm_k2_fr g1 (by decide)) (fun j => g1.2 96 (by decide) j) (by omega) (by omega) e0 bp9.2 ((mm_pr_sm (fun j => g1.2 102 (by decide) j) (g1.1 66 67 (by decide)) (g1.1 66 68 (by decide))).trans (ra28 2 (by decide) (by decide)).1.symm)
      have y8 := y9.2.1
      clear y2_0 y1_0 x1 x y9
      rcases hf1 with a1 | a1 <;> rcases hf2 with a2 | a2 <;> omega
    · have x := x2 q
      have y9 := y2_0.resolve_left (fun z => by have z1 := z.1; have z2 := z.2.1; omega)
      clear y2_0 x1
      rcases hf1 with a1 | a1 <;> rcases hf2 with a2 | a2 <;> omega
  obtain ⟨s1, s2, s9⟩ := eS
  clear y1_0 y2_0 x1
  have rb34 : mm_pt9 h2 := mm_pt9_protest ra34 u37 u40 w112 (by omega) (fun j => g1.2 112 (by decide) j) (fun j => g2.2 37 (by decide) j) (fun j => g2.2 40 (by decide) j) (fun j => (g2.2 38 (by decide) j).trans (g1.2 38 (by decide) j)) (fun j => (g2.2 39 (by decide) j).trans (g1.2 39 (by decide) j)) (fun j => (g2.2 41 (by decide) j).trans (g1.2 41 (by decide) j)) (fun j => (g2.2 114 (by decide) j).trans (g1.2 114 (by decide) j)) (fun j => (g2.2 115 (by decide) j).trans (g1.2 115 (by decide) j)) (fun j => (g2.2 116 (by decide) j).trans (g1.2 116 (by decide) j)) (by rcases hf1 with a1 | a1 <;> omega) (by omega) (by omega)
  have rb25 : mm_eq h2 40 113 (h2.1 30 12 - 1) := mm_eq_upv ra25 u40 (fun j => g1.2 113 (by decide) j) w113 (fun j => g2.2 40 (by decide) j) (by omega) (fun _ => rfl) (by omega)
  have qa2 : h2.2.1 124 0 = h1.2.1 124 0 := g2.2 124 (by decide) 0
  refine mm_istoreL (ls2 := [mR 3000, mR 0, mR 66, mR 124, mI i, mI r1, mI r2, mU]) C (mm_dec dk_law14 34 rfl) (by decide) rfl ?_
  refine mm_goto (tgt := 1668) C (mm_dec dk_law14 35 rfl) (by decide) ?_
  refine mm_fgt 5 ?_
  refine mm_fgt 6 ?_
  have ze := mm_zf_eq (show h2.1 58 5 = h.1 58 5 from (g2.1 58 5 (by decide)).trans ((g1.1 58 5 (by decide)).trans (rfl)))
  refine mm_widen (k := mm_aA (i + 6) h2) (n := mm_bB (i + 6) h2) (by rw [show mm_aA (i + 6) h2 = 200 + (i + 6).toNat + (mm_zf h).1 from by unfold mm_aA; rw [ze]]; omega) (by rw [show mm_bB (i + 6) h2 = 90000 + 6 * (i + 6).toNat + (mm_zf h).2 from by unfold mm_bB; rw [ze]]; omega) ?_
  exact K h2 i2 (mm_RO_fr (mm_RO_fr (r0) g1 (by decide)) g2 (by decide)) (by unfold mm_Rl; exact ⟨by omega, by omega, by omega, by omega, by omega, by omega, by omega, by omega, by omega, by omega, by omega, by omega, by omega, mm_eq_fr (mm_eq_fr (ra0) g1 (by decide) (by decide)) g2 (by decide) (by decide), mm_eq_fr (mm_eq_fr (ra1) g1 (by decide) (by decide)) g2 (by decide) (by decide), mm_eq_le (mm_eq_fr (mm_eq_fr (ra2) g1 (by decide) (by decide)) g2 (by decide) (by decide)) (by omega), mm_eq_le (mm_eq_fr (mm_eq_fr (ra3) g1 (by decide) (by decide)) g2 (by decide) (by decide)) (by omega), mm_eq_le (mm_eq_fr (mm_eq_fr (ra4) g1 (by decide) (by decide)) g2 (by decide) (by decide)) (by omega), mm_eq_le (mm_eq_fr (mm_eq_fr (ra5) g1 (by decide) (by decide)) g2 (by decide) (by decide)) (by omega), mm_tk_sm (mm_tk_sm (ra6) (fun j => g1.2 18 (by decide) j) (fun j => g1.2 85 (by decide) j) (by omega) (by omega)) (fun j => g2.2 18 (by decide) j) (fun j => g2.2 85 (by decide) j) (by omega) (by omega), mm_cb_sm (mm_cb_sm (ra7) (fun j => g1.2 85 (by decide) j) (by omega) (by omega)) (fun j => g2.2 85 (by decide) j) (by omega) (by omega), mm_fb_sm (mm_fb_sm (ra8) (fun j => g1.2 20 (by decide) j) (by omega)) (fun j => g2.2 20 (by decide) j) (by omega), mm_eq_fr (mm_eq_fr (ra9) g1 (by decide) (by decide)) g2 (by decide) (by decide), mm_eq_fr (mm_eq_fr (ra10) g1 (by decide) (by decide)) g2 (by decide) (by decide), mm_eq_fr (mm_eq_fr (ra11) g1 (by decide) (by decide)) g2 (by decide) (by decide), mm_eq_le (mm_eq_fr (mm_eq_fr (ra12) g1 (by decide) (by decide)) g2 (by decide) (by decide)) (by omega), mm_go_sm (mm_go_sm (ra13) (fun j => g1.2 6 (by decide) j) (by omega) (by omega) (by omega) (by omega) (by omega) (by omega)) (fun j => g2.2 6 (by decide) j) (by omega) (by omega) (by omega) (by omega) (by omega) (by omega), mm_eq_le (mm_eq_fr (mm_eq_fr (ra14) g1 (by decide) (by decide)) g2 (by decide) (by decide)) (by omega), mm_eq_le (mm_eq_fr (mm_eq_fr (ra15) g1 (by decide) (by decide)) g2 (by decide) (by decide)) (by omega), mm_it_sm (mm_it_sm (ra16) (fun j => g1.2 28 (by decide) j) (fun j => g1.2 88 (by decide) j) (by omega)) (fun j => g2.2 28 (by decide) j) (fun j => g2.2 88 (by decide) j) (by omega), mm_br_sm (mm_br_sm (ra17) (fun j => g1.2 21 (by decide) j) (fun j => g1.2 82 (by decide) j) (fun j => g1.2 84 (by decide) j) (fun j => g1.2 19 (by decide) j) (by omega)) (fun j => g2.2 21 (by decide) j) (fun j => g2.2 82 (by decide) j) (fun j => g2.2 84 (by decide) j) (fun j => g2.2 19 (by decide) j) (by omega), mm_gn_sm (mm_gn_sm (ra18)  (by omega) (by omega) (by omega) (by omega) (by omega))  (by omega) (by omega) (by omega) (by omega) (by omega), mm_pc_sm (mm_pc_sm (ra19) (fun j => g1.2 15 (by decide) j) (by omega) (by omega) (by omega)) (fun j => g2.2 15 (by decide) j) (by omega) (by omega) (by omega), mm_bv_sm (mm_bv_sm (ra20) (fun j => g1.2 21 (by decide) j) (fun j => g1.2 19 (by decide) j) (by omega) (by omega)) (fun j => g2.2 21 (by decide) j) (fun j => g2.2 19 (by decide) j) (by omega) (by omega), mm_eq_le (mm_eq_fr (mm_eq_fr (ra21) g1 (by decide) (by decide)) g2 (by decide) (by decide)) (by omega), mm_eq_le (mm_eq_fr (mm_eq_fr (ra22) g1 (by decide) (by decide)) g2 (by decide) (by decide)) (by omega), mm_eq_le (mm_eq_fr (mm_eq_fr (ra23) g1 (by decide) (by decide)) g2 (by decide) (by decide)) (by omega), mm_eq_le (mm_eq_fr (mm_eq_fr (ra24) g1 (by decide) (by decide)) g2 (by decide) (by decide)) (by omega), mm_eq_le (rb25) (by omega), mm_eq_le (mm_eq_fr (mm_eq_fr (ra26) g1 (by decide) (by decide)) g2 (by decide) (by decide)) (by omega), mm_ah_sm (mm_ah_sm (ra27) (fun j => g1.2 27 (by decide) j) (fun j => g1.2 88 (by decide) j) (fun j => g1.2 89 (by decide) j) (by omega)) (fun j => g2.2 27 (by decide) j) (fun j => g2.2 88 (by decide) j) (fun j => g2.2 89 (by decide) j) (by omega), mm_pw9_sm (mm_pw9_sm (ra28) (fun j => g1.2 44 (by decide) j) (fun j => g1.2 102 (by decide) j) (by omega) (by omega)) (fun j => g2.2 44 (by decide) j) (fun j => g2.2 102 (by decide) j) (by omega) (by omega), mm_eq_le (mm_eq_fr (mm_eq_fr (ra29) g1 (by decide) (by decide)) g2 (by decide) (by decide)) (by omega), mm_ep8_sm (mm_ep8_sm (ra30) (fun j => g1.2 31 (by decide) j) (fun j => g1.2 33 (by decide) j) (fun j => g1.2 94 (by decide) j) (by omega)) (fun j => g2.2 31 (by decide) j) (fun j => g2.2 33 (by decide) j) (fun j => g2.2 94 (by decide) j) (by omega), mm_ab8_sm (mm_ab8_sm (ra31) (fun j => g1.2 27 (by decide) j) (fun j => g1.2 88 (by decide) j) (fun j => g1.2 89 (by decide) j) (fun j => g1.2 90 (by decide) j) (by omega) (by omega)) (fun j => g2.2 27 (by decide) j) (fun j => g2.2 88 (by decide) j) (fun j => g2.2 89 (by decide) j) (fun j => g2.2 90 (by decide) j) (by omega) (by omega), mm_eq_le (mm_eq_fr (mm_eq_fr (ra32) g1 (by decide) (by decide)) g2 (by decide) (by decide)) (by omega), mm_cJ_sm (mm_cJ_sm (ra33) (fun j => g1.2 43 (by decide) j) (fun j => g1.2 103 (by decide) j) (fun j => g1.2 104 (by decide) j) (fun j => g1.2 105 (by decide) j) (fun j => g1.2 106 (by decide) j) (fun j => g1.2 107 (by decide) j) (by omega) (by omega) (by omega)) (fun j => g2.2 43 (by decide) j) (fun j => g2.2 103 (by decide) j) (fun j => g2.2 104 (by decide) j) (fun j => g2.2 105 (by decide) j) (fun j => g2.2 106 (by decide) j) (fun j => g2.2 107 (by decide) j) (by omega) (by omega) (by omega), rb34, mm_tm9_sm (mm_tm9_sm (ra35) (fun j => g1.2 29 (by decide) j) (fun j => g1.2 90 (by decide) j) (by omega) (by omega)) (fun j => g2.2 29 (by decide) j) (fun j => g2.2 90 (by decide) j) (by omega) (by omega)⟩)
