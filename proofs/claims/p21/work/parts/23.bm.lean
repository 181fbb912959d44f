set_option maxRecDepth 100000 in
set_option maxHeartbeats 4000000 in
theorem lw_c13 {x : mX} {L : Nat} {xs : Nat → Int32} (C : mm_OK 60 601024 7293034 code RL 8 ret x) (X : mm_scr x L xs) (hl : x.2.1.stackTraces = false) (hL : L ≤ 3072) (i : Int) (hi : 0 ≤ i ∧ i + 6 ≤ L) (h : mH) (i0 : mm_inv h) (r0 : mm_RO h) (rl0 : mm_Rl i h) (K : mm_K x i) : mm_W x (mm_aA i h) (mm_bB i h) 870 (mm_lls i) [] h := by
  have zl := mm_zf_le h
  have ea : mm_aA i h = 200 + i.toNat + (mm_zf h).1 := rfl
  have eb : mm_bB i h = 90000 + 6 * i.toNat + (mm_zf h).2 := rfl
  obtain ⟨rs0, rs1, rs2, rs3, rs4, rs5, rs6, rs7, rs8, rs9, rs10, rs11, rs12, ra0, ra1, ra2, ra3, ra4, ra5, ra6, ra7, ra8, ra9, ra10, ra11, ra12, ra13, ra14, ra15, ra16, ra17, ra18, ra19, ra20, ra21, ra22, ra23, ra24, ra25, ra26, ra27, ra28, ra29, ra30, ra31, ra32, ra33, ra34, ra35⟩ := rl0
  refine mm_aload_n C (mm_dec dk_law8 43 rfl) rfl ?_
  refine mm_aload_n C (mm_dec dk_law8 44 rfl) rfl ?_
  refine mm_iload C (mm_dec dk_law8 45 rfl) rfl ?_
  refine mm_iconst C (mm_dec dk_law8 46 rfl) ⟨by decide, by decide⟩ ?_
  refine mm_iadd C (mm_dec dk_law8 47 rfl) ⟨by omega, by omega⟩ ?_
  refine mm_sld C X (mm_dec dk_law8 48 rfl) (by omega) (by omega) ?_
  refine mm_aload_n C (mm_dec dk_law8 49 rfl) rfl ?_
  refine mm_iload C (mm_dec dk_law8 50 rfl) rfl ?_
  refine mm_iconst C (mm_dec dk_law8 51 rfl) ⟨by decide, by decide⟩ ?_
  refine mm_iadd C (mm_dec dk_law8 52 rfl) ⟨by omega, by omega⟩ ?_
  refine mm_sld C X (mm_dec dk_law8 53 rfl) (by omega) (by omega) ?_
  refine mm_aload_n C (mm_dec dk_law8 54 rfl) rfl ?_
  refine mm_iload C (mm_dec dk_law8 55 rfl) rfl ?_
  refine mm_iconst C (mm_dec dk_law8 56 rfl) ⟨by decide, by decide⟩ ?_
  refine mm_iadd C (mm_dec dk_law8 57 rfl) ⟨by omega, by omega⟩ ?_
  refine mm_sld C X (mm_dec dk_law8 58 rfl) (by omega) (by omega) ?_
  refine mm_aload_n C (mm_dec dk_law8 59 rfl) rfl ?_
  refine mm_cHi (d := 59) (rest := []) C mh_L_team ml_L_158 sm_L_team (mm_dec dk_law9 0 rfl) (c_L_team_q x.2.1 hl 59 (by decide) h i0 (mm_sc xs (i + 1)) (mm_sc xs (i + 2)) (mm_sc xs (i + 3))) rfl (Nat.le_of_ble_eq_true rfl) ⟨by omega, by omega⟩ rfl (fun r1 h1 hp1 => ?_)
  obtain ⟨b1, i1, g1, y1_0, y1_1⟩ := hp1
  have q1_1_5 : h1.1 1 5 = h.1 1 5 := g1.1 1 5 (by decide)
  have q1_66_1 : h1.1 66 1 = h.1 66 1 := g1.1 66 1 (by decide)
  have q1_1_6 : h1.1 1 6 = h.1 1 6 := g1.1 1 6 (by decide)
  have q1_66_2 : h1.1 66 2 = h.1 66 2 := g1.1 66 2 (by decide)
  have q1_14_8 : h1.1 14 8 = h.1 14 8 := g1.1 14 8 (by decide)
  have q1_66_22 : h1.1 66 22 = h.1 66 22 := g1.1 66 22 (by decide)
  have q1_22_8 : h1.1 22 8 = h.1 22 8 := g1.1 22 8 (by decide)
  have q1_66_23 : h1.1 66 23 = h.1 66 23 := g1.1 66 23 (by decide)
  have q1_14_7 : h1.1 14 7 = h.1 14 7 := g1.1 14 7 (by decide)
  have q1_66_21 : h1.1 66 21 = h.1 66 21 := g1.1 66 21 (by decide)
  have q1_66_24 : h1.1 66 24 = h.1 66 24 := g1.1 66 24 (by decide)
  have q1_0_12 : h1.1 0 12 = h.1 0 12 := g1.1 0 12 (by decide)
  have q1_66_56 : h1.1 66 56 = h.1 66 56 := g1.1 66 56 (by decide)
  have q1_0_14 : h1.1 0 14 = h.1 0 14 := g1.1 0 14 (by decide)
  have q1_66_58 : h1.1 66 58 = h.1 66 58 := g1.1 66 58 (by decide)
  have q1_30_6 : h1.1 30 6 = h.1 30 6 := g1.1 30 6 (by decide)
  have q1_66_40 : h1.1 66 40 = h.1 66 40 := g1.1 66 40 (by decide)
  have q1_30_12 : h1.1 30 12 = h.1 30 12 := g1.1 30 12 (by decide)
  have q1_66_82 : h1.1 66 82 = h.1 66 82 := g1.1 66 82 (by decide)
  have q1_0_13 : h1.1 0 13 = h.1 0 13 := g1.1 0 13 (by decide)
  have q1_66_41 : h1.1 66 41 = h.1 66 41 := g1.1 66 41 (by decide)
  have q1_1_7 : h1.1 1 7 = h.1 1 7 := g1.1 1 7 (by decide)
  have q1_66_3 : h1.1 66 3 = h.1 66 3 := g1.1 66 3 (by decide)
  have q1_66_9 : h1.1 66 9 = h.1 66 9 := g1.1 66 9 (by decide)
  have q1_66_10 : h1.1 66 10 = h.1 66 10 := g1.1 66 10 (by decide)
  have q1_1_8 : h1.1 1 8 = h.1 1 8 := g1.1 1 8 (by decide)
  have q1_66_11 : h1.1 66 11 = h.1 66 11 := g1.1 66 11 (by decide)
  have q1_66_12 : h1.1 66 12 = h.1 66 12 := g1.1 66 12 (by decide)
  have q1_66_67 : h1.1 66 67 = h.1 66 67 := g1.1 66 67 (by decide)
  have q1_66_68 : h1.1 66 68 = h.1 66 68 := g1.1 66 68 (by decide)
  have q1_30_13 : h1.1 30 13 = h.1 30 13 := g1.1 30 13 (by decide)
  have q1_66_91 : h1.1 66 91 = h.1 66 91 := g1.1 66 91 (by decide)
  have q1_42_3 : h1.1 42 3 = h.1 42 3 := g1.1 42 3 (by decide)
  refine mm_istoreL (ls2 := [mR 3000, mR 0, mR 66, mR 124, mI i, mI r1, mU, mU]) C (mm_dec dk_law9 1 rfl) (by decide) rfl ?_
  refine mm_aload_n C (mm_dec dk_law9 2 rfl) rfl ?_
  refine mm_aload_n C (mm_dec dk_law9 3 rfl) rfl ?_
  refine mm_iload C (mm_dec dk_law9 4 rfl) rfl ?_
  refine mm_iconst C (mm_dec dk_law9 5 rfl) ⟨by decide, by decide⟩ ?_
  refine mm_iadd C (mm_dec dk_law9 6 rfl) ⟨by omega, by omega⟩ ?_
  refine mm_sld C X (mm_dec dk_law9 7 rfl) (by omega) (by omega) ?_
  refine mm_aload_n C (mm_dec dk_law9 8 rfl) rfl ?_
  refine mm_iload C (mm_dec dk_law9 9 rfl) rfl ?_
  refine mm_iconst C (mm_dec dk_law9 10 rfl) ⟨by decide, by decide⟩ ?_
  refine mm_iadd C (mm_dec dk_law9 11 rfl) ⟨by omega, by omega⟩ ?_
  refine mm_sld C X (mm_dec dk_law9 12 rfl) (by omega) (by omega) ?_
  refine mm_aload_n C (mm_dec dk_law9 13 rfl) rfl ?_
  refine mm_iload C (mm_dec dk_law9 14 rfl) rfl ?_
  refine mm_iconst C (mm_dec dk_law9 15 rfl) ⟨by decide, by decide⟩ ?_
  refine mm_iadd C (mm_dec dk_law9 16 rfl) ⟨by omega, by omega⟩ ?_
  refine mm_sld C X (mm_dec dk_law9 17 rfl) (by omega) (by omega) ?_
  refine mm_cVi (d := 59) (rest := []) C ev_L_160 (mm_dec dk_law9 18 rfl) (c_X12_team_q x.2.1 hl 59 (by decide) h1 i1 (mm_sc xs (i + 1)) (mm_sc xs (i + 2)) (mm_sc xs (i + 3))) rfl rfl (Nat.le_of_ble_eq_true rfl) ⟨by omega, by omega⟩ rfl (fun r2 h2 hp2 => ?_) (fun _ _ q => q.elim)
  obtain ⟨b2, i2, g2, y2_0, y2_1⟩ := hp2
  have q2_1_5 : h2.1 1 5 = h1.1 1 5 := g2.1 1 5 (by decide)
  have q2_66_1 : h2.1 66 1 = h1.1 66 1 := g2.1 66 1 (by decide)
  have q2_1_6 : h2.1 1 6 = h1.1 1 6 := g2.1 1 6 (by decide)
  have q2_66_2 : h2.1 66 2 = h1.1 66 2 := g2.1 66 2 (by decide)
  have q2_14_8 : h2.1 14 8 = h1.1 14 8 := g2.1 14 8 (by decide)
  have q2_66_22 : h2.1 66 22 = h1.1 66 22 := g2.1 66 22 (by decide)
  have q2_22_8 : h2.1 22 8 = h1.1 22 8 := g2.1 22 8 (by decide)
  have q2_66_23 : h2.1 66 23 = h1.1 66 23 := g2.1 66 23 (by decide)
  have q2_14_7 : h2.1 14 7 = h1.1 14 7 := g2.1 14 7 (by decide)
  have q2_66_21 : h2.1 66 21 = h1.1 66 21 := g2.1 66 21 (by decide)
  have q2_22_9 : h2.1 22 9 = h1.1 22 9 := g2.1 22 9 (by decide)
  have q2_0_12 : h2.1 0 12 = h1.1 0 12 := g2.1 0 12 (by decide)
  have q2_66_56 : h2.1 66 56 = h1.1 66 56 := g2.1 66 56 (by decide)
  have q2_0_14 : h2.1 0 14 = h1.1 0 14 := g2.1 0 14 (by decide)
  have q2_66_58 : h2.1 66 58 = h1.1 66 58 := g2.1 66 58 (by decide)
  have q2_30_6 : h2.1 30 6 = h1.1 30 6 := g2.1 30 6 (by decide)
  have q2_66_40 : h2.1 66 40 = h1.1 66 40 := g2.1 66 40 (by decide)
  have q2_30_12 : h2.1 30 12 = h1.1 30 12 := g2.1 30 12 (by decide)
  have q2_66_82 : h2.1 66 82 = h1.1 66 82 := g2.1 66 82 (by decide)
  have q2_0_13 : h2.1 0 13 = h1.1 0 13 := g2.1 0 13 (by decide)
  have q2_66_41 : h2.1 66 41 = h1.1 66 41 := g2.1 66 41 (by decide)
  have q2_1_7 : h2.1 1 7 = h1.1 1 7 := g2.1 1 7 (by decide)
  have q2_66_3 : h2.1 66 3 = h1.1 66 3 := g2.1 66 3 (by decide)
  have q2_66_9 : h2.1 66 9 = h1.1 66 9 := g2.1 66 9 (by decide)
  have q2_66_10 : h2.1 66 10 = h1.1 66 10 := g2.1 66 10 (by decide)
  have q2_1_8 : h2.1 1 8 = h1.1 1 8 := g2.1 1 8 (by decide)
  have q2_66_11 : h2.1 66 11 = h1.1 66 11 := g2.1 66 11 (by decide)
  have q2_66_12 : h2.1 66 12 = h1.1 66 12 := g2.1 66 12 (by decide)
  have q2_66_67 : h2.1 66 67 = h1.1 66 67 := g2.1 66 67 (by decide)
  have q2_66_68 : h2.1 66 68 = h1.1 66 68 := g2.1 66 68 (by decide)
  have q2_30_13 : h2.1 30 13 = h1.1 30 13 := g2.1 30 13 (by decide)
  have q2_66_91 : h2.1 66 91 = h1.1 66 91 := g2.1 66 91 (by decide)
  have q2_42_3 : h2.1 42 3 = h1.1 42 3 := g2.1 42 3 (by decide)
  obtain ⟨f1, hf1, u28, u27, u29⟩ := y1_1
  obtain ⟨f2, hf2, w88, w89, w90⟩ := y2_1
  have eG := mm_gt_eq (h1 := h1) (p1 := (mm_sc xs (i + 1))) (p2 := (mm_sc xs (i + 2))) (p3 := (mm_sc xs (i + 3))) ra3 ra5 ra7 ra14 ra15 ra16 (by omega) (by omega) (fun j => (i0.2.1 85 j).1) (fun j => g1.2 83 (by decide) j) (fun j => g1.2 81 (by decide) j) (fun j => g1.2 85 (by decide) j) (fun j => g1.2 87 (by decide) j) (fun j => g1.2 88 (by decide) j)
  have bg := mm_gt_rg h (mm_sc xs (i + 1)) (mm_sc xs (i + 2)) (mm_sc xs (i + 3))
  have bt : 0 ≤ h1.1 66 24 ∧ h1.1 66 24 ≤ 10 := i1.1 66 24
  have eS : f1 = f2 ∧ ((r1 = 1 ∧ h2.1 66 0 = 1) ∨ (r1 = 0 ∧ h2.1 66 0 = 0 ∧ h1.2.1 124 0 = r2)) ∧ h2.1 66 24 = h1.1 22 9 := by
    rcases eG with v | v <;> rcases y1_0 with y | y <;> rcases y2_0 with z | z <;> rcases hf1 with a1 | a1 <;> rcases hf2 with a2 | a2 <;> omega
  obtain ⟨s1, s2, s3⟩ := eS
  have eH : f1 = 1 → (mm_sc xs (i + 1)) ≠ (mm_sc xs (i + 2)) ∧ (mm_sc xs (i + 2)) ≠ (mm_sc xs (i + 3)) ∧ (mm_sc xs (i + 1)) ≠ (mm_sc xs (i + 3)) ∧ 0 ≤ (mm_sc xs (i + 1)) ∧ (mm_sc xs (i + 1)) < h.1 22 8 ∧ 0 ≤ (mm_sc xs (i + 2)) ∧ h.2.1 88 (mm_sc xs (i + 1)) = -1 := fun q => by
    have e1 : mm_gt h (mm_sc xs (i + 1)) (mm_sc xs (i + 2)) (mm_sc xs (i + 3)) = 1 := by rcases y1_0 with y | y <;> rcases hf1 with a1 | a1 <;> omega
    have e2 := mm_gt_1 e1
    have e3 : 0 ≤ (mm_sc xs (i + 1)) ∧ (mm_sc xs (i + 1)) < h.1 22 8 ∧ 0 ≤ (mm_sc xs (i + 2)) := by rcases y1_0 with y | y <;> rcases hf1 with a1 | a1 <;> omega
    exact ⟨e2.1, e2.2.1, e2.2.2.1, e3.1, e3.2.1, e3.2.2, (ra16 (mm_sc xs (i + 1)) e3.1 (by omega)).mp e2.2.2.2⟩
  have sU : (f1 = 1 ∧ h2.1 66 24 = h.1 66 24 + 1) ∨ (f1 ≠ 1 ∧ h2.1 66 24 = h.1 66 24) := by rcases hf1 with a1 | a1 <;> rcases hf2 with a2 | a2 <;> omega
  have eT9 : (f1 = 1 ∧ h2.1 22 9 = h.1 22 9 + 1) ∨ (f1 ≠ 1 ∧ h2.1 22 9 = h.1 22 9) := by rcases hf1 with a1 | a1 <;> omega
  have eN9 : f1 = 1 → 0 ≤ (mm_sc xs (i + 1)) ∧ (mm_sc xs (i + 1)) < h.1 22 8 ∧ 0 ≤ (mm_sc xs (i + 2)) ∧ (mm_sc xs (i + 2)) < h.1 22 8 ∧ 0 ≤ (mm_sc xs (i + 3)) ∧ (mm_sc xs (i + 3)) < h.1 22 8 := fun q => by rcases y1_0 with y | y <;> rcases hf1 with a1 | a1 <;> omega
  clear eG y1_0 y2_0 hf1 hf2
  have rb27 : mm_ah h2 := mm_ah_team ra27 u27 (fun j => g2.2 27 (by decide) j) w88 (fun j => g1.2 88 (by decide) j) w89 (fun j => g1.2 89 (by decide) j) (by omega) (by omega) eH (by omega)
  have rb35 : mm_tm9 h2 := mm_tm9_team ra35 u29 (fun j => g2.2 29 (by decide) j) w90 (fun j => g1.2 90 (by decide) j) (by omega) (by omega) rfl (by omega) eT9 eN9 (by omega)
  have rb31 : mm_ab8 h2 := mm_ab8_team ra31 u27 (fun j => g2.2 27 (by decide) j) w88 (fun j => g1.2 88 (by decide) j) w89 (fun j => g1.2 89 (by decide) j) w90 (fun j => g1.2 90 (by decide) j) (by omega) (by omega) (by omega) (by omega) eH (by omega)
  have rb16 : mm_it h2 := mm_it_team ra16 u28 (fun j => g2.2 28 (by decide) j) w88 (fun j => g1.2 88 (by decide) j) (by omega) (by omega) (by omega)
  have qa2 : h2.2.1 124 0 = h1.2.1 124 0 := g2.2 124 (by decide) 0
  refine mm_istoreL (ls2 := [mR 3000, mR 0, mR 66, mR 124, mI i, mI r1, mI r2, mU]) C (mm_dec dk_law9 19 rfl) (by decide) rfl ?_
  refine mm_goto (tgt := 1668) C (mm_dec dk_law9 20 rfl) (by decide) ?_
  refine mm_fgt 5 ?_
  refine mm_fgt 6 ?_
  have ze := mm_zf_eq (show h2.1 58 5 = h.1 58 5 from (g2.1 58 5 (by decide)).trans ((g1.1 58 5 (by decide)).trans (rfl)))
  refine mm_widen (k := mm_aA (i + 6) h2) (n := mm_bB (i + 6) h2) (by rw [show mm_aA (i + 6) h2 = 200 + (i + 6).toNat + (mm_zf h).1 from by unfold mm_aA; rw [ze]]; omega) (by rw [show mm_bB (i + 6) h2 = 90000 + 6 * (i + 6).toNat + (mm_zf h).2 from by unfold mm_bB; rw [ze]]; omega) ?_
  exact K h2 i2 (mm_RO_fr (mm_RO_fr (r0) g1 (by decide)) g2 (by decide)) (by unfold mm_Rl; exact ⟨by omega, by omega, by omega, by omega, by omega, by omega, by omega, by omega, by omega, by omega, by omega, by omega, by omega, mm_eq_fr (mm_eq_fr (ra0) g1 (by decide) (by decide)) g2 (by decide) (by decide), mm_eq_fr (mm_eq_fr (ra1) g1 (by decide) (by decide)) g2 (by decide) (by decide), mm_eq_le (mm_eq_fr (mm_eq_fr (ra2) g1 (by decide) (by decide)) g2 (by decide) (by decide)) (by omega), mm_eq_le (mm_eq_fr (mm_eq_fr (ra3) g1 (by decide) (by decide)) g2 (by decide) (by decide)) (by omega), mm_eq_le (mm_eq_fr (mm_eq_fr (ra4) g1 (by decide) (by decide)) g2 (by decide) (by decide)) (by omega), mm_eq_le (mm_eq_fr (mm_eq_fr (ra5) g1 (by decide) (by decide)) g2 (by decide) (by decide)) (by omega), mm_tk_sm (mm_tk_sm (ra6) (fun j => g1.2 18 (by decide) j) (fun j => g1.2 85 (by decide) j) (by omega) (by omega)) (fun j => g2.2 18 (by decide) j) (fun j => g2.2 85 (by decide) j) (by omega) (by omega), mm_cb_sm (mm_cb_sm (ra7) (fun j => g1.2 85 (by decide) j) (by omega) (by omega)) (fun j => g2.2 85 (by decide) j) (by omega) (by omega), mm_fb_sm (mm_fb_sm (ra8) (fun j => g1.2 20 (by decide) j) (by omega)) (fun j => g2.2 20 (by decide) j) (by omega), mm_eq_fr (mm_eq_fr (ra9) g1 (by decide) (by decide)) g2 (by decide) (by decide), mm_eq_fr (mm_eq_fr (ra10) g1 (by decide) (by decide)) g2 (by decide) (by decide), mm_eq_fr (mm_eq_fr (ra11) g1 (by decide) (by decide)) g2 (by decide) (by decide), mm_eq_le (mm_eq_fr (mm_eq_fr (ra12) g1 (by decide) (by decide)) g2 (by decide) (by decide)) (by omega), mm_go_sm (mm_go_sm (ra13) (fun j => g1.2 6 (by decide) j) (by omega) (by omega) (by omega) (by omega) (by omega) (by omega)) (fun j => g2.2 6 (by decide) j) (by omega) (by omega) (by omega) (by omega) (by omega) (by omega), mm_eq_le (mm_eq_fr (mm_eq_fr (ra14) g1 (by decide) (by decide)) g2 (by decide) (by decide)) (by omega), mm_eq_le (mm_eq_fr (mm_eq_fr (ra15) g1 (by decide) (by decide)) g2 (by decide) (by decide)) (by omega), rb16, mm_br_sm (mm_br_sm (ra17) (fun j => g1.2 21 (by decide) j) (fun j => g1.2 82 (by decide) j) (fun j => g1.2 84 (by decide) j) (fun j => g1.2 19 (by decide) j) (by omega)) (fun j => g2.2 21 (by decide) j) (fun j => g2.2 82 (by decide) j) (fun j => g2.2 84 (by decide) j) (fun j => g2.2 19 (by decide) j) (by omega), mm_gn_sm (mm_gn_sm (ra18)  (by omega) (by omega) (by omega) (by omega) (by omega))  (by omega) (by omega) (by omega) (by omega) (by omega), mm_pc_sm (mm_pc_sm (ra19) (fun j => g1.2 15 (by decide) j) (by omega) (by omega) (by omega)) (fun j => g2.2 15 (by decide) j) (by omega) (by omega) (by omega), mm_bv_sm (mm_bv_sm (ra20) (fun j => g1.2 21 (by decide) j) (fun j => g1.2 19 (by decide) j) (by omega) (by omega)) (fun j => g2.2 21 (by decide) j) (fun j => g2.2 19 (by decide) j) (by omega) (by omega), mm_eq_le (mm_eq_fr (mm_eq_fr (ra21) g1 (by decide) (by decide)) g2 (by decide) (by decide)) (by omega), mm_eq_le (mm_eq_fr (mm_eq_fr (ra22) g1 (by decide) (by decide)) g2 (by decide) (by decide)) (by omega), mm_eq_le (mm_eq_fr (mm_eq_fr (ra23) g1 (by decide) (by decide)) g2 (by decide) (by decide)) (by omega), mm_eq_le (mm_eq_fr (mm_eq_fr (ra24) g1 (by decide) (by decide)) g2 (by decide) (by decide)) (by omega), mm_eq_le (mm_eq_fr (mm_eq_fr (ra25) g1 (by decide) (by decide)) g2 (by decide) (by decide)) (by omega), mm_eq_le (mm_eq_fr (mm_eq_fr (ra26) g1 (by decide) (by decide)) g2 (by decide) (by decide)) (by omega), rb27, mm_pw9_sm (mm_pw9_sm (ra28) (fun j => g1.2 44 (by decide) j) (fun j => g1.2 102 (by decide) j) (by omega) (by omega)) (fun j => g2.2 44 (by decide) j) (fun j => g2.2 102 (by decide) j) (by omega) (by omega), mm_eq_le (mm_eq_fr (mm_eq_fr (ra29) g1 (by decide) (by decide)) g2 (by decide) (by decide)) (by omega), mm_ep8_sm (mm_ep8_sm (ra30) (fun j => g1.2 31 (by decide) j) (fun j => g1.2 33 (by decide) j) (fun j => g1.2 94 (by decide) j) (by omega)) (fun j => g2.2 31 (by decide) j) (fun j => g2.2 33 (by decide) j) (fun j => g2.2 94 (by decide) j) (by omega), rb31, mm_eq_le (mm_eq_fr (mm_eq_fr (ra32) g1 (by decide) (by decide)) g2 (by decide) (by decide)) (by omega), mm_cJ_sm (mm_cJ_sm (ra33) (fun j => g1.2 43 (by decide) j) (fun j => g1.2 103 (by decide) j) (fun j => g1.2 104 (by decide) j) (fun j => g1.2 105 (by decide) j) (fun j => g1.2 106 (by decide) j) (fun j => g1.2 107 (by decide) j) (by omega) (by omega) (by omega)) (fun j => g2.2 43 (by decide) j) (fun j => g2.2 103 (by decide) j) (fun j => g2.2 104 (by decide) j) (fun j => g2.2 105 (by decide) j) (fun j => g2.2 106 (by decide) j) (fun j => g2.2 107 (by decide) j) (by omega) (by omega) (by omega), mm_pt9_sm (mm_pt9_sm (ra34) (fun j => g1.2 37 (by decide) j) (fun j => g1.2 38 (by decide) j) (fun j => g1.2 39 (by decide) j) (fun j => g1.2 40 (by decide) j) (fun j => g1.2 41 (by decide) j) (fun j => g1.2 112 (by decide) j) (fun j => g1.2 114 (by decide) j) (fun j => g1.2 115 (by decide) j) (fun j => g1.2 116 (by decide) j) (by omega) (by omega) (by omega)) (fun j => g2.2 37 (by decide) j) (fun j => g2.2 38 (by decide) j) (fun j => g2.2 39 (by decide) j) (fun j => g2.2 40 (by decide) j) (fun j => g2.2 41 (by decide) j) (fun j => g2.2 112 (by decide) j) (fun j => g2.2 114 (by decide) j) (fun j => g2.2 115 (by decide) j) (fun j => g2.2 116 (by decide) j) (by omega) (by omega) (by omega), rb35⟩)
