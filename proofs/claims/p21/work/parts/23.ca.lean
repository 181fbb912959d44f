set_option maxRecDepth 100000 in
set_option maxHeartbeats 4000000 in
theorem lw_c24 {x : mX} {L : Nat} {xs : Nat → Int32} (C : mm_OK 60 601024 7293034 code RL 8 ret x) (X : mm_scr x L xs) (hl : x.2.1.stackTraces = false) (hL : L ≤ 3072) (i : Int) (hi : 0 ≤ i ∧ i + 6 ≤ L) (h : mH) (i0 : mm_inv h) (r0 : mm_RO h) (rl0 : mm_Rl i h) (K : mm_K x i) : mm_W x (mm_aA i h) (mm_bB i h) 1368 (mm_lls i) [] h := by
  have zl := mm_zf_le h
  have ea : mm_aA i h = 200 + i.toNat + (mm_zf h).1 := rfl
  have eb : mm_bB i h = 90000 + 6 * i.toNat + (mm_zf h).2 := rfl
  obtain ⟨rs0, rs1, rs2, rs3, rs4, rs5, rs6, rs7, rs8, rs9, rs10, rs11, rs12, ra0, ra1, ra2, ra3, ra4, ra5, ra6, ra7, ra8, ra9, ra10, ra11, ra12, ra13, ra14, ra15, ra16, ra17, ra18, ra19, ra20, ra21, ra22, ra23, ra24, ra25, ra26, ra27, ra28, ra29, ra30, ra31, ra32, ra33, ra34, ra35⟩ := rl0
  refine mm_aload_n C (mm_dec dk_law14 36 rfl) rfl ?_
  refine mm_aload_n C (mm_dec dk_law14 37 rfl) rfl ?_
  refine mm_iload C (mm_dec dk_law14 38 rfl) rfl ?_
  refine mm_iconst C (mm_dec dk_law14 39 rfl) ⟨by decide, by decide⟩ ?_
  refine mm_iadd C (mm_dec dk_law14 40 rfl) ⟨by omega, by omega⟩ ?_
  refine mm_sld C X (mm_dec dk_law14 41 rfl) (by omega) (by omega) ?_
  refine mm_aload_n C (mm_dec dk_law14 42 rfl) rfl ?_
  refine mm_iload C (mm_dec dk_law14 43 rfl) rfl ?_
  refine mm_iconst C (mm_dec dk_law14 44 rfl) ⟨by decide, by decide⟩ ?_
  refine mm_iadd C (mm_dec dk_law14 45 rfl) ⟨by omega, by omega⟩ ?_
  refine mm_sld C X (mm_dec dk_law14 46 rfl) (by omega) (by omega) ?_
  refine mm_aload_n C (mm_dec dk_law14 47 rfl) rfl ?_
  refine mm_iload C (mm_dec dk_law14 48 rfl) rfl ?_
  refine mm_iconst C (mm_dec dk_law14 49 rfl) ⟨by decide, by decide⟩ ?_
  refine mm_iadd C (mm_dec dk_law14 50 rfl) ⟨by omega, by omega⟩ ?_
  refine mm_sld C X (mm_dec dk_law14 51 rfl) (by omega) (by omega) ?_
  refine mm_aload_n C (mm_dec dk_law14 52 rfl) rfl ?_
  refine mm_cHi (d := 59) (rest := []) C mh_L_decide ml_L_198 sm_L_decide (mm_dec dk_law14 53 rfl) (c_L_decide_q x.2.1 hl 59 (by decide) h i0 (mm_sc xs (i + 1)) (mm_sc xs (i + 2)) (mm_sc xs (i + 3))) rfl (Nat.le_of_ble_eq_true rfl) ⟨by omega, by omega⟩ rfl (fun r1 h1 hp1 => ?_)
  obtain ⟨b1, i1, g1, y1_0, y1_1⟩ := hp1
  have q1_1_5 : h1.1 1 5 = h.1 1 5 := g1.1 1 5 (by decide)
  have q1_66_1 : h1.1 66 1 = h.1 66 1 := g1.1 66 1 (by decide)
  have q1_1_6 : h1.1 1 6 = h.1 1 6 := g1.1 1 6 (by decide)
  have q1_66_2 : h1.1 66 2 = h.1 66 2 := g1.1 66 2 (by decide)
  have q1_14_8 : h1.1 14 8 = h.1 14 8 := g1.1 14 8 (by decide)
  have q1_66_22 : h1.1 66 22 = h.1 66 22 := g1.1 66 22 (by decide)
  have q1_22_8 : h1.1 22 8 = h.1 22 8 := g1.1 22 8 (by decide)
  have q1_66_23 : h1.1 66 23 = h.1 66 23 := g1.1 66 23 (by decide)
  have q1_14_7 : h1.1 14 7 = h.1 14 7 := g1.1 14 7 (by decide)
  have q1_66_21 : h1.1 66 21 = h.1 66 21 := g1.1 66 21 (by decide)
  have q1_22_9 : h1.1 22 9 = h.1 22 9 := g1.1 22 9 (by decide)
  have q1_66_24 : h1.1 66 24 = h.1 66 24 := g1.1 66 24 (by decide)
  have q1_0_12 : h1.1 0 12 = h.1 0 12 := g1.1 0 12 (by decide)
  have q1_66_56 : h1.1 66 56 = h.1 66 56 := g1.1 66 56 (by decide)
  have q1_0_14 : h1.1 0 14 = h.1 0 14 := g1.1 0 14 (by decide)
  have q1_66_58 : h1.1 66 58 = h.1 66 58 := g1.1 66 58 (by decide)
  have q1_30_6 : h1.1 30 6 = h.1 30 6 := g1.1 30 6 (by decide)
  have q1_66_40 : h1.1 66 40 = h.1 66 40 := g1.1 66 40 (by decide)
  have q1_30_12 : h1.1 30 12 = h.1 30 12 := g1.1 30 12 (by decide)
  have q1_66_82 : h1.1 66 82 = h.1 66 82 := g1.1 66 82 (by decide)
  have q1_0_13 : h1.1 0 13 = h.1 0 13 := g1.1 0 13 (by decide)
  have q1_66_41 : h1.1 66 41 = h.1 66 41 := g1.1 66 41 (by decide)
  have q1_1_7 : h1.1 1 7 = h.1 1 7 := g1.1 1 7 (by decide)
  have q1_66_3 : h1.1 66 3 = h.1 66 3 := g1.1 66 3 (by decide)
  have q1_66_9 : h1.1 66 9 = h.1 66 9 := g1.1 66 9 (by decide)
  have q1_66_10 : h1.1 66 10 = h.1 66 10 := g1.1 66 10 (by decide)
  have q1_1_8 : h1.1 1 8 = h.1 1 8 := g1.1 1 8 (by decide)
  have q1_66_11 : h1.1 66 11 = h.1 66 11 := g1.1 66 11 (by decide)
  have q1_66_12 : h1.1 66 12 = h.1 66 12 := g1.1 66 12 (by decide)
  have q1_66_67 : h1.1 66 67 = h.1 66 67 := g1.1 66 67 (by decide)
  have q1_66_68 : h1.1 66 68 = h.1 66 68 := g1.1 66 68 (by decide)
  have q1_66_91 : h1.1 66 91 = h.1 66 91 := g1.1 66 91 (by decide)
  have q1_42_3 : h1.1 42 3 = h.1 42 3 := g1.1 42 3 (by decide)
  refine mm_istoreL (ls2 := [mR 3000, mR 0, mR 66, mR 124, mI i, mI r1, mU, mU]) C (mm_dec dk_law14 54 rfl) (by decide) rfl ?_
  refine mm_aload_n C (mm_dec dk_law14 55 rfl) rfl ?_
  refine mm_aload_n C (mm_dec dk_law14 56 rfl) rfl ?_
  refine mm_iload C (mm_dec dk_law14 57 rfl) rfl ?_
  refine mm_iconst C (mm_dec dk_law14 58 rfl) ⟨by decide, by decide⟩ ?_
  refine mm_iadd C (mm_dec dk_law14 59 rfl) ⟨by omega, by omega⟩ ?_
  refine mm_sld C X (mm_dec dk_law15 0 rfl) (by omega) (by omega) ?_
  refine mm_aload_n C (mm_dec dk_law15 1 rfl) rfl ?_
  refine mm_iload C (mm_dec dk_law15 2 rfl) rfl ?_
  refine mm_iconst C (mm_dec dk_law15 3 rfl) ⟨by decide, by decide⟩ ?_
  refine mm_iadd C (mm_dec dk_law15 4 rfl) ⟨by omega, by omega⟩ ?_
  refine mm_sld C X (mm_dec dk_law15 5 rfl) (by omega) (by omega) ?_
  refine mm_aload_n C (mm_dec dk_law15 6 rfl) rfl ?_
  refine mm_iload C (mm_dec dk_law15 7 rfl) rfl ?_
  refine mm_iconst C (mm_dec dk_law15 8 rfl) ⟨by decide, by decide⟩ ?_
  refine mm_iadd C (mm_dec dk_law15 9 rfl) ⟨by omega, by omega⟩ ?_
  refine mm_sld C X (mm_dec dk_law15 10 rfl) (by omega) (by omega) ?_
  refine mm_cVi (d := 59) (rest := []) C ev_L_200 (mm_dec dk_law15 11 rfl) (c_X12_decide_q x.2.1 hl 59 (by decide) h1 i1 (mm_sc xs (i + 1)) (mm_sc xs (i + 2)) (mm_sc xs (i + 3))) rfl rfl (Nat.le_of_ble_eq_true rfl) ⟨by omega, by omega⟩ rfl (fun r2 h2 hp2 => ?_) (fun _ _ q => q.elim)
  obtain ⟨b2, i2, g2, y2_0, y2_1, y2_2⟩ := hp2
  have q2_1_5 : h2.1 1 5 = h1.1 1 5 := g2.1 1 5 (by decide)
  have q2_66_1 : h2.1 66 1 = h1.1 66 1 := g2.1 66 1 (by decide)
  have q2_1_6 : h2.1 1 6 = h1.1 1 6 := g2.1 1 6 (by decide)
  have q2_66_2 : h2.1 66 2 = h1.1 66 2 := g2.1 66 2 (by decide)
  have q2_14_8 : h2.1 14 8 = h1.1 14 8 := g2.1 14 8 (by decide)
  have q2_66_22 : h2.1 66 22 = h1.1 66 22 := g2.1 66 22 (by decide)
  have q2_22_8 : h2.1 22 8 = h1.1 22 8 := g2.1 22 8 (by decide)
  have q2_66_23 : h2.1 66 23 = h1.1 66 23 := g2.1 66 23 (by decide)
  have q2_14_7 : h2.1 14 7 = h1.1 14 7 := g2.1 14 7 (by decide)
  have q2_66_21 : h2.1 66 21 = h1.1 66 21 := g2.1 66 21 (by decide)
  have q2_22_9 : h2.1 22 9 = h1.1 22 9 := g2.1 22 9 (by decide)
  have q2_66_24 : h2.1 66 24 = h1.1 66 24 := g2.1 66 24 (by decide)
  have q2_0_12 : h2.1 0 12 = h1.1 0 12 := g2.1 0 12 (by decide)
  have q2_66_56 : h2.1 66 56 = h1.1 66 56 := g2.1 66 56 (by decide)
  have q2_0_14 : h2.1 0 14 = h1.1 0 14 := g2.1 0 14 (by decide)
  have q2_66_58 : h2.1 66 58 = h1.1 66 58 := g2.1 66 58 (by decide)
  have q2_30_6 : h2.1 30 6 = h1.1 30 6 := g2.1 30 6 (by decide)
  have q2_66_40 : h2.1 66 40 = h1.1 66 40 := g2.1 66 40 (by decide)
  have q2_30_12 : h2.1 30 12 = h1.1 30 12 := g2.1 30 12 (by decide)
  have q2_66_82 : h2.1 66 82 = h1.1 66 82 := g2.1 66 82 (by decide)
  have q2_0_13 : h2.1 0 13 = h1.1 0 13 := g2.1 0 13 (by decide)
  have q2_66_41 : h2.1 66 41 = h1.1 66 41 := g2.1 66 41 (by decide)
  have q2_1_7 : h2.1 1 7 = h1.1 1 7 := g2.1 1 7 (by decide)
  have q2_66_3 : h2.1 66 3 = h1.1 66 3 := g2.1 66 3 (by decide)
  have q2_66_9 : h2.1 66 9 = h1.1 66 9 := g2.1 66 9 (by decide)
  have q2_66_10 : h2.1 66 10 = h1.1 66 10 := g2.1 66 10 (by decide)
  have q2_1_8 : h2.1 1 8 = h1.1 1 8 := g2.1 1 8 (by decide)
  have q2_66_11 : h2.1 66 11 = h1.1 66 11 := g2.1 66 11 (by decide)
  have q2_66_12 : h2.1 66 12 = h1.1 66 12 := g2.1 66 12 (by decide)
  have q2_66_67 : h2.1 66 67 = h1.1 66 67 := g2.1 66 67 (by decide)
  have q2_66_68 : h2.1 66 68 = h1.1 66 68 := g2.1 66 68 (by decide)
  have q2_30_13 : h2.1 30 13 = h1.1 30 13 := g2.1 30 13 (by decide)
  have q2_42_3 : h2.1 42 3 = h1.1 42 3 := g2.1 42 3 (by decide)
  obtain ⟨f1, hf1, u1, u38, u39, u41, e13⟩ := y1_1
  have eA := mm_eq_at ra25 (fun j => g1.2 113 (by decide) j) (mm_sc xs (i + 1))
  obtain ⟨w114, w115, w116, e91⟩ := y2_2
  have zk9 := ra34
  obtain ⟨zc9, zc0, zc1, zc2, _⟩ := zk9
  have zw13 : mm_w (h.1 30 13 + 1) = h.1 30 13 + 1 := mm_w_id ⟨by omega, by omega⟩
  have zw91 : mm_w (h1.1 66 91 + 1) = h1.1 66 91 + 1 := mm_w_id ⟨by omega, by omega⟩
  have eG9 : f1 = 1 → 0 ≤ (mm_sc xs (i + 2)) ∧ (mm_sc xs (i + 2)) ≤ 2 := fun q => by rcases y1_0 with y | y <;> rcases hf1 with a1 | a1 <;> omega
  have eS : (f1 = 1 ↔ r2 = 1) ∧ ((r1 = 1 ∧ h2.1 66 0 = 1) ∨ (r1 = 0 ∧ h2.1 66 0 = 0 ∧ h1.2.1 124 0 = r2)) := by
    rcases y1_0 with y | y <;> rcases y2_0 with z | z <;> rcases hf1 with a1 | a1 <;> omega
  obtain ⟨s1, s2⟩ := eS
  clear y1_0 y2_0 hf1
  have eM9 : (f1 = 1 ∧ h2.1 30 13 = h.1 30 13 + 1 ∧ h2.1 66 91 = h.1 66 91 + 1) ∨ (f1 ≠ 1 ∧ h2.1 30 13 = h.1 30 13 ∧ h2.1 66 91 = h.1 66 91) := by rcases e13 with a1 | a1 <;> rcases e91 with a2 | a2 <;> omega
  have rb34 : mm_pt9 h2 := mm_pt9_decide ra34 u1 u38 u39 u41 w114 w115 w116 s1 eG9 (fun j => g1.2 114 (by decide) j) (fun j => g1.2 115 (by decide) j) (fun j => g1.2 116 (by decide) j) (fun j => g2.2 40 (by decide) j) (fun j => g2.2 38 (by decide) j) (fun j => g2.2 39 (by decide) j) (fun j => g2.2 41 (by decide) j) (fun j => (g2.2 37 (by decide) j).trans (g1.2 37 (by decide) j)) (fun j => (g2.2 112 (by decide) j).trans (g1.2 112 (by decide) j)) (by omega) eM9 (by omega)
  have rb25 : mm_eq h2 40 113 (h2.1 30 12 - 1) := mm_eq_upv ra25 u1 (fun j => g1.2 113 (by decide) j) y2_1 (fun j => g2.2 40 (by decide) j) s1 (fun _ => by omega) (Or.inl (by omega))
  have qa2 : h2.2.1 124 0 = h1.2.1 124 0 := g2.2 124 (by decide) 0
  refine mm_istoreL (ls2 := [mR 3000, mR 0, mR 66, mR 124, mI i, mI r1, mI r2, mU]) C (mm_dec dk_law15 12 rfl) (by decide) rfl ?_
  refine mm_goto (tgt := 1668) C (mm_dec dk_law15 13 rfl) (by decide) ?_
  refine mm_fgt 5 ?_
  refine mm_fgt 6 ?_
  have ze := mm_zf_eq (show h2.1 58 5 = h.1 58 5 from (g2.1 58 5 (by decide)).trans ((g1.1 58 5 (by decide)).trans (rfl)))
  refine mm_widen (k := mm_aA (i + 6) h2) (n := mm_bB (i + 6) h2) (by rw [show mm_aA (i + 6) h2 = 200 + (i + 6).toNat + (mm_zf h).1 from by unfold mm_aA; rw [ze]]; omega) (by rw [show mm_bB (i + 6) h2 = 90000 + 6 * (i + 6).toNat + (mm_zf h).2 from by unfold mm_bB; rw [ze]]; omega) ?_
  exact K h2 i2 (mm_RO_fr (mm_RO_fr (r0) g1 (by decide)) g2 (by decide)) (by unfold mm_Rl; exact ⟨by omega, by omega, by omega, by omega, by omega, by omega, by omega, by omega, by omega, by omega, by omega, by omega, by omega, mm_eq_fr (mm_eq_fr (ra0) g1 (by decide) (by decide)) g2 (by decide) (by decide), mm_eq_fr (mm_eq_fr (ra1) g1 (by decide) (by decide)) g2 (by decide) (by decide), mm_eq_le (mm_eq_fr (mm_eq_fr (ra2) g1 (by decide) (by decide)) g2 (by decide) (by decide)) (by omega), mm_eq_le (mm_eq_fr (mm_eq_fr (ra3) g1 (by decide) (by decide)) g2 (by decide) (by decide)) (by omega), mm_eq_le (mm_eq_fr (mm_eq_fr (ra4) g1 (by decide) (by decide)) g2 (by decide) (by decide)) (by omega), mm_eq_le (mm_eq_fr (mm_eq_fr (ra5) g1 (by decide) (by decide)) g2 (by decide) (by decide)) (by omega), mm_tk_sm (mm_tk_sm (ra6) (fun j => g1.2 18 (by decide) j) (fun j => g1.2 85 (by decide) j) (by omega) (by omega)) (fun j => g2.2 18 (by decide) j) (fun j => g2.2 85 (by decide) j) (by omega) (by omega), mm_cb_sm (mm_cb_sm (ra7) (fun j => g1.2 85 (by decide) j) (by omega) (by omega)) (fun j => g2.2 85 (by decide) j) (by omega) (by omega), mm_fb_sm (mm_fb_sm (ra8) (fun j => g1.2 20 (by decide) j) (by omega)) (fun j => g2.2 20 (by decide) j) (by omega), mm_eq_fr (mm_eq_fr (ra9) g1 (by decide) (by decide)) g2 (by decide) (by decide), mm_eq_fr (mm_eq_fr (ra10) g1 (by decide) (by decide)) g2 (by decide) (by decide), mm_eq_fr (mm_eq_fr (ra11) g1 (by decide) (by decide)) g2 (by decide) (by decide), mm_eq_le (mm_eq_fr (mm_eq_fr (ra12) g1 (by decide) (by decide)) g2 (by decide) (by decide)) (by omega), mm_go_sm (mm_go_sm (ra13) (fun j => g1.2 6 (by decide) j) (by omega) (by omega) (by omega) (by omega) (by omega) (by omega)) (fun j => g2.2 6 (by decide) j) (by omega) (by omega) (by omega) (by omega) (by omega) (by omega), mm_eq_le (mm_eq_fr (mm_eq_fr (ra14) g1 (by decide) (by decide)) g2 (by decide) (by decide)) (by omega), mm_eq_le (mm_eq_fr (mm_eq_fr (ra15) g1 (by decide) (by decide)) g2 (by decide) (by decide)) (by omega), mm_it_sm (mm_it_sm (ra16) (fun j => g1.2 28 (by decide) j) (fun j => g1.2 88 (by decide) j) (by omega)) (fun j => g2.2 28 (by decide) j) (fun j => g2.2 88 (by decide) j) (by omega), mm_br_sm (mm_br_sm (ra17) (fun j => g1.2 21 (by decide) j) (fun j => g1.2 82 (by decide) j) (fun j => g1.2 84 (by decide) j) (fun j => g1.2 19 (by decide) j) (by omega)) (fun j => g2.2 21 (by decide) j) (fun j => g2.2 82 (by decide) j) (fun j => g2.2 84 (by decide) j) (fun j => g2.2 19 (by decide) j) (by omega), mm_gn_sm (mm_gn_sm (ra18)  (by omega) (by omega) (by omega) (by omega) (by omega))  (by omega) (by omega) (by omega) (by omega) (by omega), mm_pc_sm (mm_pc_sm (ra19) (fun j => g1.2 15 (by decide) j) (by omega) (by omega) (by omega)) (fun j => g2.2 15 (by decide) j) (by omega) (by omega) (by omega), mm_bv_sm (mm_bv_sm (ra20) (fun j => g1.2 21 (by decide) j) (fun j => g1.2 19 (by decide) j) (by omega) (by omega)) (fun j => g2.2 21 (by decide) j) (fun j => g2.2 19 (by decide) j) (by omega) (by omega), mm_eq_le (mm_eq_fr (mm_eq_fr (ra21) g1 (by decide) (by decide)) g2 (by decide) (by decide)) (by omega), mm_eq_le (mm_eq_fr (mm_eq_fr (ra22) g1 (by decide) (by decide)) g2 (by decide) (by decide)) (by omega), mm_eq_le (mm_eq_fr (mm_eq_fr (ra23) g1 (by decide) (by decide)) g2 (by decide) (by decide)) (by omega), mm_eq_le (mm_eq_fr (mm_eq_fr (ra24) g1 (by decide) (by decide)) g2 (by decide) (by decide)) (by omega), mm_eq_le (rb25) (by omega), mm_eq_le (mm_eq_fr (mm_eq_fr (ra26) g1 (by decide) (by decide)) g2 (by decide) (by decide)) (by omega), mm_ah_sm (mm_ah_sm (ra27) (fun j => g1.2 27 (by decide) j) (fun j => g1.2 88 (by decide) j) (fun j => g1.2 89 (by decide) j) (by omega)) (fun j => g2.2 27 (by decide) j) (fun j => g2.2 88 (by decide) j) (fun j => g2.2 89 (by decide) j) (by omega), mm_pw9_sm (mm_pw9_sm (ra28) (fun j => g1.2 44 (by decide) j) (fun j => g1.2 102 (by decide) j) (by omega) (by omega)) (fun j => g2.2 44 (by decide) j) (fun j => g2.2 102 (by decide) j) (by omega) (by omega), mm_eq_le (mm_eq_fr (mm_eq_fr (ra29) g1 (by decide) (by decide)) g2 (by decide) (by decide)) (by omega), mm_ep8_sm (mm_ep8_sm (ra30) (fun j => g1.2 31 (by decide) j) (fun j => g1.2 33 (by decide) j) (fun j => g1.2 94 (by decide) j) (by omega)) (fun j => g2.2 31 (by decide) j) (fun j => g2.2 33 (by decide) j) (fun j => g2.2 94 (by decide) j) (by omega), mm_ab8_sm (mm_ab8_sm (ra31) (fun j => g1.2 27 (by decide) j) (fun j => g1.2 88 (by decide) j) (fun j => g1.2 89 (by decide) j) (fun j => g1.2 90 (by decide) j) (by omega) (by omega)) (fun j => g2.2 27 (by decide) j) (fun j => g2.2 88 (by decide) j) (fun j => g2.2 89 (by decide) j) (fun j => g2.2 90 (by decide) j) (by omega) (by omega), mm_eq_le (mm_eq_fr (mm_eq_fr (ra32) g1 (by decide) (by decide)) g2 (by decide) (by decide)) (by omega), mm_cJ_sm (mm_cJ_sm (ra33) (fun j => g1.2 43 (by decide) j) (fun j => g1.2 103 (by decide) j) (fun j => g1.2 104 (by decide) j) (fun j => g1.2 105 (by decide) j) (fun j => g1.2 106 (by decide) j) (fun j => g1.2 107 (by decide) j) (by omega) (by omega) (by omega)) (fun j => g2.2 43 (by decide) j) (fun j => g2.2 103 (by decide) j) (fun j => g2.2 104 (by decide) j) (fun j => g2.2 105 (by decide) j) (fun j => g2.2 106 (by decide) j) (fun j => g2.2 107 (by decide) j) (by omega) (by omega) (by omega), rb34, mm_tm9_sm (mm_tm9_sm (ra35) (fun j => g1.2 29 (by decide) j) (fun j => g1.2 90 (by decide) j) (by omega) (by omega)) (fun j => g2.2 29 (by decide) j) (fun j => g2.2 90 (by decide) j) (by omega) (by omega)⟩)
set_option maxRecDepth 100000 in
set_option maxHeartbeats 4000000 in
theorem lw_c25 {x : mX} {L : Nat} {xs : Nat → Int32} (C : mm_OK 60 601024 7293034 code RL 8 ret x) (X : mm_scr x L xs) (hl : x.2.1.stackTraces = false) (hL : L ≤ 3072) (i : Int) (hi : 0 ≤ i ∧ i + 6 ≤ L) (h : mH) (i0 : mm_inv h) (r0 : mm_RO h) (rl0 : mm_Rl i h) (K : mm_K x i) : mm_W x (mm_aA i h) (mm_bB i h) 1420 (mm_lls i) [] h := by
  have zl := mm_zf_le h
  have ea : mm_aA i h = 200 + i.toNat + (mm_zf h).1 := rfl
  have eb : mm_bB i h = 90000 + 6 * i.toNat + (mm_zf h).2 := rfl
  obtain ⟨rs0, rs1, rs2, rs3, rs4, rs5, rs6, rs7, rs8, rs9, rs10, rs11, rs12, ra0, ra1, ra2, ra3, ra4, ra5, ra6, ra7, ra8, ra9, ra10, ra11, ra12, ra13, ra14, ra15, ra16, ra17, ra18, ra19, ra20, ra21, ra22, ra23, ra24, ra25, ra26, ra27, ra28, ra29, ra30, ra31, ra32, ra33, ra34, ra35⟩ := rl0
  refine mm_aload_n C (mm_dec dk_law15 14 rfl) rfl ?_
  refine mm_aload_n C (mm_dec dk_law15 15 rfl) rfl ?_
  refine mm_iload C (mm_dec dk_law15 16 rfl) rfl ?_
  refine mm_iconst C (mm_dec dk_law15 17 rfl) ⟨by decide, by decide⟩ ?_
  refine mm_iadd C (mm_dec dk_law15 18 rfl) ⟨by omega, by omega⟩ ?_
  refine mm_sld C X (mm_dec dk_law15 19 rfl) (by omega) (by omega) ?_
  refine mm_aload_n C (mm_dec dk_law15 20 rfl) rfl ?_
  refine mm_iload C (mm_dec dk_law15 21 rfl) rfl ?_
  refine mm_iconst C (mm_dec dk_law15 22 rfl) ⟨by decide, by decide⟩ ?_
  refine mm_iadd C (mm_dec dk_law15 23 rfl) ⟨by omega, by omega⟩ ?_
  refine mm_sld C X (mm_dec dk_law15 24 rfl) (by omega) (by omega) ?_
  refine mm_i2l C (mm_dec dk_law15 25 rfl) ?_
  refine mm_bipush C (mm_dec dk_law15 26 rfl) ⟨by decide, by decide⟩ ?_
  refine mm_lshl C (mm_dec dk_law15 27 rfl) ?_
  refine mm_aload_n C (mm_dec dk_law15 28 rfl) rfl ?_
  refine mm_iload C (mm_dec dk_law15 29 rfl) rfl ?_
  refine mm_iconst C (mm_dec dk_law15 30 rfl) ⟨by decide, by decide⟩ ?_
  refine mm_iadd C (mm_dec dk_law15 31 rfl) ⟨by omega, by omega⟩ ?_
  refine mm_sld C X (mm_dec dk_law15 32 rfl) (by omega) (by omega) ?_
  refine mm_i2l C (mm_dec dk_law15 33 rfl) ?_
  refine mm_ldc2 (z := 4294967295) C (mm_dec dk_law15 34 rfl) kc_L_201 (by decide) ?_
  refine mm_land C (mm_dec dk_law15 35 rfl) ?_
  refine mm_lor C (mm_dec dk_law15 36 rfl) ?_
  refine mm_aload_n C (mm_dec dk_law15 37 rfl) rfl ?_
  refine mm_iload C (mm_dec dk_law15 38 rfl) rfl ?_
  refine mm_iconst C (mm_dec dk_law15 39 rfl) ⟨by decide, by decide⟩ ?_
  refine mm_iadd C (mm_dec dk_law15 40 rfl) ⟨by omega, by omega⟩ ?_
  refine mm_sld C X (mm_dec dk_law15 41 rfl) (by omega) (by omega) ?_
  refine mm_aload_n C (mm_dec dk_law15 42 rfl) rfl ?_
  refine mm_cHi (d := 59) (rest := []) C mh_L_draw ml_L_203 sm_L_draw (mm_dec dk_law15 43 rfl) (c_L_draw_q x.2.1 hl 59 (by decide) h i0 (mm_sc xs (i + 1)) (mm_vlor (mm_vlshl (mm_sc xs (i + 2)) 32) (mm_vland (mm_sc xs (i + 3)) 4294967295)) (mm_sc xs (i + 4))) rfl (Nat.le_of_ble_eq_true rfl) ⟨by omega, by omega⟩ rfl (fun r1 h1 hp1 => ?_)
  obtain ⟨b1, i1, g1, y1_0, y1_1⟩ := hp1
  have q1_1_5 : h1.1 1 5 = h.1 1 5 := g1.1 1 5 (by decide)
  have q1_66_1 : h1.1 66 1 = h.1 66 1 := g1.1 66 1 (by decide)
  have q1_1_6 : h1.1 1 6 = h.1 1 6 := g1.1 1 6 (by decide)
  have q1_66_2 : h1.1 66 2 = h.1 66 2 := g1.1 66 2 (by decide)
  have q1_14_8 : h1.1 14 8 = h.1 14 8 := g1.1 14 8 (by decide)
  have q1_66_22 : h1.1 66 22 = h.1 66 22 := g1.1 66 22 (by decide)
  have q1_22_8 : h1.1 22 8 = h.1 22 8 := g1.1 22 8 (by decide)
  have q1_66_23 : h1.1 66 23 = h.1 66 23 := g1.1 66 23 (by decide)
  have q1_14_7 : h1.1 14 7 = h.1 14 7 := g1.1 14 7 (by decide)
  have q1_66_21 : h1.1 66 21 = h.1 66 21 := g1.1 66 21 (by decide)
  have q1_22_9 : h1.1 22 9 = h.1 22 9 := g1.1 22 9 (by decide)
  have q1_66_24 : h1.1 66 24 = h.1 66 24 := g1.1 66 24 (by decide)
  have q1_0_12 : h1.1 0 12 = h.1 0 12 := g1.1 0 12 (by decide)
  have q1_66_56 : h1.1 66 56 = h.1 66 56 := g1.1 66 56 (by decide)
  have q1_0_14 : h1.1 0 14 = h.1 0 14 := g1.1 0 14 (by decide)
  have q1_66_58 : h1.1 66 58 = h.1 66 58 := g1.1 66 58 (by decide)
  have q1_66_40 : h1.1 66 40 = h.1 66 40 := g1.1 66 40 (by decide)
  have q1_30_12 : h1.1 30 12 = h.1 30 12 := g1.1 30 12 (by decide)
  have q1_66_82 : h1.1 66 82 = h.1 66 82 := g1.1 66 82 (by decide)
  have q1_0_13 : h1.1 0 13 = h.1 0 13 := g1.1 0 13 (by decide)
  have q1_66_41 : h1.1 66 41 = h.1 66 41 := g1.1 66 41 (by decide)
  have q1_1_7 : h1.1 1 7 = h.1 1 7 := g1.1 1 7 (by decide)
  have q1_66_3 : h1.1 66 3 = h.1 66 3 := g1.1 66 3 (by decide)
  have q1_66_9 : h1.1 66 9 = h.1 66 9 := g1.1 66 9 (by decide)
  have q1_66_10 : h1.1 66 10 = h.1 66 10 := g1.1 66 10 (by decide)
  have q1_1_8 : h1.1 1 8 = h.1 1 8 := g1.1 1 8 (by decide)
  have q1_66_11 : h1.1 66 11 = h.1 66 11 := g1.1 66 11 (by decide)
  have q1_66_12 : h1.1 66 12 = h.1 66 12 := g1.1 66 12 (by decide)
  have q1_66_67 : h1.1 66 67 = h.1 66 67 := g1.1 66 67 (by decide)
  have q1_66_68 : h1.1 66 68 = h.1 66 68 := g1.1 66 68 (by decide)
  have q1_30_13 : h1.1 30 13 = h.1 30 13 := g1.1 30 13 (by decide)
  have q1_66_91 : h1.1 66 91 = h.1 66 91 := g1.1 66 91 (by decide)
  have q1_42_3 : h1.1 42 3 = h.1 42 3 := g1.1 42 3 (by decide)
  refine mm_istoreL (ls2 := [mR 3000, mR 0, mR 66, mR 124, mI i, mI r1, mU, mU]) C (mm_dec dk_law15 44 rfl) (by decide) rfl ?_
  refine mm_aload_n C (mm_dec dk_law15 45 rfl) rfl ?_
  refine mm_aload_n C (mm_dec dk_law15 46 rfl) rfl ?_
  refine mm_iload C (mm_dec dk_law15 47 rfl) rfl ?_
  refine mm_iconst C (mm_dec dk_law15 48 rfl) ⟨by decide, by decide⟩ ?_
  refine mm_iadd C (mm_dec dk_law15 49 rfl) ⟨by omega, by omega⟩ ?_
  refine mm_sld C X (mm_dec dk_law15 50 rfl) (by omega) (by omega) ?_
  refine mm_aload_n C (mm_dec dk_law15 51 rfl) rfl ?_
  refine mm_iload C (mm_dec dk_law15 52 rfl) rfl ?_
  refine mm_iconst C (mm_dec dk_law15 53 rfl) ⟨by decide, by decide⟩ ?_
  refine mm_iadd C (mm_dec dk_law15 54 rfl) ⟨by omega, by omega⟩ ?_
  refine mm_sld C X (mm_dec dk_law15 55 rfl) (by omega) (by omega) ?_
  refine mm_i2l C (mm_dec dk_law15 56 rfl) ?_
  refine mm_bipush C (mm_dec dk_law15 57 rfl) ⟨by decide, by decide⟩ ?_
  refine mm_lshl C (mm_dec dk_law15 58 rfl) ?_
  refine mm_aload_n C (mm_dec dk_law15 59 rfl) rfl ?_
  refine mm_iload C (mm_dec dk_law16 0 rfl) rfl ?_
  refine mm_iconst C (mm_dec dk_law16 1 rfl) ⟨by decide, by decide⟩ ?_
  refine mm_iadd C (mm_dec dk_law16 2 rfl) ⟨by omega, by omega⟩ ?_
  refine mm_sld C X (mm_dec dk_law16 3 rfl) (by omega) (by omega) ?_
  refine mm_i2l C (mm_dec dk_law16 4 rfl) ?_
  refine mm_ldc2 (z := 4294967295) C (mm_dec dk_law16 5 rfl) kc_L_201 (by decide) ?_
  refine mm_land C (mm_dec dk_law16 6 rfl) ?_
  refine mm_lor C (mm_dec dk_law16 7 rfl) ?_
  refine mm_aload_n C (mm_dec dk_law16 8 rfl) rfl ?_
  refine mm_iload C (mm_dec dk_law16 9 rfl) rfl ?_
  refine mm_iconst C (mm_dec dk_law16 10 rfl) ⟨by decide, by decide⟩ ?_
  refine mm_iadd C (mm_dec dk_law16 11 rfl) ⟨by omega, by omega⟩ ?_
  refine mm_sld C X (mm_dec dk_law16 12 rfl) (by omega) (by omega) ?_
  refine mm_cVi (d := 59) (rest := []) C ev_L_206 (mm_dec dk_law16 13 rfl) (c_X12_draw_q x.2.1 hl 59 (by decide) h1 i1 (mm_sc xs (i + 1)) (mm_vlor (mm_vlshl (mm_sc xs (i + 2)) 32) (mm_vland (mm_sc xs (i + 3)) 4294967295)) (mm_sc xs (i + 4))) rfl rfl (Nat.le_of_ble_eq_true rfl) ⟨by omega, by omega⟩ rfl (fun r2 h2 hp2 => ?_) (fun _ _ q => q.elim)
  obtain ⟨b2, i2, g2, y2_0, y2_1, y2_2, y2_3⟩ := hp2
  have q2_1_5 : h2.1 1 5 = h1.1 1 5 := g2.1 1 5 (by decide)
  have q2_66_1 : h2.1 66 1 = h1.1 66 1 := g2.1 66 1 (by decide)
  have q2_1_6 : h2.1 1 6 = h1.1 1 6 := g2.1 1 6 (by decide)
  have q2_66_2 : h2.1 66 2 = h1.1 66 2 := g2.1 66 2 (by decide)
  have q2_14_8 : h2.1 14 8 = h1.1 14 8 := g2.1 14 8 (by decide)
  have q2_66_22 : h2.1 66 22 = h1.1 66 22 := g2.1 66 22 (by decide)
  have q2_22_8 : h2.1 22 8 = h1.1 22 8 := g2.1 22 8 (by decide)
  have q2_66_23 : h2.1 66 23 = h1.1 66 23 := g2.1 66 23 (by decide)
  have q2_14_7 : h2.1 14 7 = h1.1 14 7 := g2.1 14 7 (by decide)
  have q2_66_21 : h2.1 66 21 = h1.1 66 21 := g2.1 66 21 (by decide)
  have q2_22_9 : h2.1 22 9 = h1.1 22 9 := g2.1 22 9 (by decide)
  have q2_66_24 : h2.1 66 24 = h1.1 66 24 := g2.1 66 24 (by decide)
  have q2_0_12 : h2.1 0 12 = h1.1 0 12 := g2.1 0 12 (by decide)
  have q2_66_56 : h2.1 66 56 = h1.1 66 56 := g2.1 66 56 (by decide)
  have q2_0_14 : h2.1 0 14 = h1.1 0 14 := g2.1 0 14 (by decide)
  have q2_66_58 : h2.1 66 58 = h1.1 66 58 := g2.1 66 58 (by decide)
  have q2_30_6 : h2.1 30 6 = h1.1 30 6 := g2.1 30 6 (by decide)
  have q2_30_12 : h2.1 30 12 = h1.1 30 12 := g2.1 30 12 (by decide)
  have q2_66_82 : h2.1 66 82 = h1.1 66 82 := g2.1 66 82 (by decide)
  have q2_0_13 : h2.1 0 13 = h1.1 0 13 := g2.1 0 13 (by decide)
  have q2_66_41 : h2.1 66 41 = h1.1 66 41 := g2.1 66 41 (by decide)
  have q2_1_7 : h2.1 1 7 = h1.1 1 7 := g2.1 1 7 (by decide)
  have q2_66_3 : h2.1 66 3 = h1.1 66 3 := g2.1 66 3 (by decide)
  have q2_66_9 : h2.1 66 9 = h1.1 66 9 := g2.1 66 9 (by decide)
  have q2_66_10 : h2.1 66 10 = h1.1 66 10 := g2.1 66 10 (by decide)
  have q2_1_8 : h2.1 1 8 = h1.1 1 8 := g2.1 1 8 (by decide)
  have q2_66_11 : h2.1 66 11 = h1.1 66 11 := g2.1 66 11 (by decide)
  have q2_66_12 : h2.1 66 12 = h1.1 66 12 := g2.1 66 12 (by decide)
  have q2_66_67 : h2.1 66 67 = h1.1 66 67 := g2.1 66 67 (by decide)
  have q2_66_68 : h2.1 66 68 = h1.1 66 68 := g2.1 66 68 (by decide)
  have q2_30_13 : h2.1 30 13 = h1.1 30 13 := g2.1 30 13 (by decide)
  have q2_66_91 : h2.1 66 91 = h1.1 66 91 := g2.1 66 91 (by decide)
  have q2_42_3 : h2.1 42 3 = h1.1 42 3 := g2.1 42 3 (by decide)
  have y9 : mm_hd _ := y1_1
  have y8 : mm_hd _ := y2_1
  clear y1_1 y2_1
  have bn9 : 0 ≤ h.1 22 8 ∧ h.1 22 8 ≤ 40 := i0.1 22 8
  have bp9 := (ra28 1 (by decide) (by decide))
  have be9 : 0 ≤ h.1 30 6 ∧ h.1 30 6 ≤ 500 := i0.1 30 6
  have y8d : mm_hd _ := y2_2
  have y8n : mm_hd _ := y2_3
  clear y2_2 y2_3
  have eS : ((r1 = 1 ∧ h2.1 66 0 = 1) ∨ (r1 = 0 ∧ h2.1 66 0 = 0 ∧ h1.2.1 124 0 = r2)) ∧ h2.1 66 40 = h2.1 30 6 ∧ mm_eq h2 31 92 (h2.1 30 6 - 1) ∧ mm_eq h2 32 93 (h2.1 30 6 - 1) ∧ mm_eq h2 35 96 (h2.1 30 6 - 1) ∧ mm_eq h2 36 97 (h2.1 30 6 - 1) ∧ mm_ep8 h2 ∧ mm_eq h2 34 95 (h2.1 30 6 - 1) := by
    by_cases q : r1 = 0
    · have z0 : h2.1 66 0 = 0 := by omega
      have x := (mm_hd_x y9).2.1 q bp9.2.1 bp9.2.2
      have e7 : mm_pr h1 1 = mm_pr h 1 := mm_pr_sm (fun j => g1.2 102 (by decide) j) (g1.1 66 67 (by decide)) (g1.1 66 68 (by decide))
      have y := mm_hd_x y8 z0 (by rw [e7, ← bp9.1]; exact bp9.2.1) (by rw [e7, ← bp9.1]; exact bp9.2.2)
      have z := mm_drw_rows (h := h) (hc := h1) (h1 := h1) (h2 := h2) x y ra21 ra22 ra23 ra24 (fun j => g1.2 92 (by decide) j) (fun j => g1.2 93 (by decide) j) (fun j => g1.2 96 (by decide) j) (fun j => g1.2 97 (by decide) j) (by omega) (by omega) ra14 ra26 ra27 (fun j => g1.2 85 (by decide) j) (fun j => g1.2 86 (by decide) j) (fun j => g1.2 88 (by decide) j) (fun j => g1.2 89 (by decide) j) (by omega) bn9 (e7.trans bp9.1.symm) ⟨fun _ => rfl, fun _ => rfl, fun _ => rfl, fun _ => rfl⟩ ⟨(fun j => g2.2 31 (by decide) j), (fun j => g2.2 32 (by decide) j), (fun j => g2.2 35 (by decide) j), (fun j => g2.2 36 (by decide) j)⟩ (by omega)
      have z8 := mm_dr8 (h := h) (h1 := h1) (h2 := h2) x ((mm_hd_x y9).2.2.2.1 q) (mm_hd_x y8d z0) z.1 ra30 ra29 (fun j => g1.2 94 (by decide) j) (fun j => g1.2 95 (by decide) j) (fun j => g2.2 31 (by decide) j) (fun j => g2.2 33 (by decide) j) (fun j => g2.2 34 (by decide) j) (by omega) (e7.trans bp9.1.symm) (by omega)
      have z1 := z.1
      exact ⟨by omega, by omega, z.2.1, z.2.2.1, z.2.2.2.1, z.2.2.2.2, z8.1, z8.2⟩
    · have x := (mm_hd_x y9).2.2.1 q
      have y := y2_0.resolve_left (fun z => by have z1 := z.1; have z2 := z.2.1; omega)
      have y4 := y.2.2.2
      have y5 := y.2.1
      have y6 := y4.2.2.2.2
      have y1 := y1_0.resolve_left (fun z => q z.1)
      have x8 := (mm_hd_x y9).2.2.2.2 q
      have y8m := mm_hd_x y8n (by omega)
      exact ⟨by omega, by omega, mm_eq_no (h1 := h) ra21 (fun j => (g2.2 31 (by decide) j).trans (x.1 j)) (fun j => (y4.1 j).trans (g1.2 92 (by decide) j)) (by omega), mm_eq_no (h1 := h) ra22 (fun j => (g2.2 32 (by decide) j).trans (x.2.1 j)) (fun j => (y4.2.1 j).trans (g1.2 93 (by decide) j)) (by omega), mm_eq_no (h1 := h) ra23 (fun j => (g2.2 35 (by decide) j).trans (x.2.2.1 j)) (fun j => (y4.2.2.1 j).trans (g1.2 96 (by decide) j)) (by omega), mm_eq_no (h1 := h) ra24 (fun j => (g2.2 36 (by decide) j).trans (x.2.2.2 j)) (fun j => (y4.2.2.2.1 j).trans (g1.2 97 (by decide) j)) (by omega), mm_ep8_sm ra30 (fun j => (g2.2 31 (by decide) j).trans (x.1 j)) (fun j => (g2.2 33 (by decide) j).trans (x8.1 j)) (fun j => (y8m.1 j).trans (g1.2 94 (by decide) j)) (by omega), mm_eq_no (h1 := h) ra29 (fun j => (g2.2 34 (by decide) j).trans (x8.2 j)) (fun j => (y8m.2 j).trans (g1.2 95 (by decide) j)) (by omega)⟩
  obtain ⟨s2, s9, rbv0, rbv1, rbv2, rbv3, rbv4, rbv5⟩ := eS
  clear y1_0 y2_0
  have qa2 : h2.2.1 124 0 = h1.2.1 124 0 := g2.2 124 (by decide) 0
  refine mm_istoreL (ls2 := [mR 3000, mR 0, mR 66, mR 124, mI i, mI r1, mI r2, mU]) C (mm_dec dk_law16 14 rfl) (by decide) rfl ?_
  refine mm_goto (tgt := 1668) C (mm_dec dk_law16 15 rfl) (by decide) ?_
  refine mm_fgt 5 ?_
  refine mm_fgt 6 ?_
  have ze := mm_zf_eq (show h2.1 58 5 = h.1 58 5 from (g2.1 58 5 (by decide)).trans ((g1.1 58 5 (by decide)).trans (rfl)))
  refine mm_widen (k := mm_aA (i + 6) h2) (n := mm_bB (i + 6) h2) (by rw [show mm_aA (i + 6) h2 = 200 + (i + 6).toNat + (mm_zf h).1 from by unfold mm_aA; rw [ze]]; omega) (by rw [show mm_bB (i + 6) h2 = 90000 + 6 * (i + 6).toNat + (mm_zf h).2 from by unfold mm_bB; rw [ze]]; omega) ?_
  exact K h2 i2 (mm_RO_fr (mm_RO_fr (r0) g1 (by decide)) g2 (by decide)) (by unfold mm_Rl; exact ⟨by omega, by omega, by omega, by omega, by omega, by omega, by omega, by omega, by omega, by omega, by omega, by omega, by omega, mm_eq_fr (mm_eq_fr (ra0) g1 (by decide) (by decide)) g2 (by decide) (by decide), mm_eq_fr (mm_eq_fr (ra1) g1 (by decide) (by decide)) g2 (by decide) (by decide), mm_eq_le (mm_eq_fr (mm_eq_fr (ra2) g1 (by decide) (by decide)) g2 (by decide) (by decide)) (by omega), mm_eq_le (mm_eq_fr (mm_eq_fr (ra3) g1 (by decide) (by decide)) g2 (by decide) (by decide)) (by omega), mm_eq_le (mm_eq_fr (mm_eq_fr (ra4) g1 (by decide) (by decide)) g2 (by decide) (by decide)) (by omega), mm_eq_le (mm_eq_fr (mm_eq_fr (ra5) g1 (by decide) (by decide)) g2 (by decide) (by decide)) (by omega), mm_tk_sm (mm_tk_sm (ra6) (fun j => g1.2 18 (by decide) j) (fun j => g1.2 85 (by decide) j) (by omega) (by omega)) (fun j => g2.2 18 (by decide) j) (fun j => g2.2 85 (by decide) j) (by omega) (by omega), mm_cb_sm (mm_cb_sm (ra7) (fun j => g1.2 85 (by decide) j) (by omega) (by omega)) (fun j => g2.2 85 (by decide) j) (by omega) (by omega), mm_fb_sm (mm_fb_sm (ra8) (fun j => g1.2 20 (by decide) j) (by omega)) (fun j => g2.2 20 (by decide) j) (by omega), mm_eq_fr (mm_eq_fr (ra9) g1 (by decide) (by decide)) g2 (by decide) (by decide), mm_eq_fr (mm_eq_fr (ra10) g1 (by decide) (by decide)) g2 (by decide) (by decide), mm_eq_fr (mm_eq_fr (ra11) g1 (by decide) (by decide)) g2 (by decide) (by decide), mm_eq_le (mm_eq_fr (mm_eq_fr (ra12) g1 (by decide) (by decide)) g2 (by decide) (by decide)) (by omega), mm_go_sm (mm_go_sm (ra13) (fun j => g1.2 6 (by decide) j) (by omega) (by omega) (by omega) (by omega) (by omega) (by omega)) (fun j => g2.2 6 (by decide) j) (by omega) (by omega) (by omega) (by omega) (by omega) (by omega), mm_eq_le (mm_eq_fr (mm_eq_fr (ra14) g1 (by decide) (by decide)) g2 (by decide) (by decide)) (by omega), mm_eq_le (mm_eq_fr (mm_eq_fr (ra15) g1 (by decide) (by decide)) g2 (by decide) (by decide)) (by omega), mm_it_sm (mm_it_sm (ra16) (fun j => g1.2 28 (by decide) j) (fun j => g1.2 88 (by decide) j) (by omega)) (fun j => g2.2 28 (by decide) j) (fun j => g2.2 88 (by decide) j) (by omega), mm_br_sm (mm_br_sm (ra17) (fun j => g1.2 21 (by decide) j) (fun j => g1.2 82 (by decide) j) (fun j => g1.2 84 (by decide) j) (fun j => g1.2 19 (by decide) j) (by omega)) (fun j => g2.2 21 (by decide) j) (fun j => g2.2 82 (by decide) j) (fun j => g2.2 84 (by decide) j) (fun j => g2.2 19 (by decide) j) (by omega), mm_gn_sm (mm_gn_sm (ra18)  (by omega) (by omega) (by omega) (by omega) (by omega))  (by omega) (by omega) (by omega) (by omega) (by omega), mm_pc_sm (mm_pc_sm (ra19) (fun j => g1.2 15 (by decide) j) (by omega) (by omega) (by omega)) (fun j => g2.2 15 (by decide) j) (by omega) (by omega) (by omega), mm_bv_sm (mm_bv_sm (ra20) (fun j => g1.2 21 (by decide) j) (fun j => g1.2 19 (by decide) j) (by omega) (by omega)) (fun j => g2.2 21 (by decide) j) (fun j => g2.2 19 (by decide) j) (by omega) (by omega), mm_eq_le (rbv0) (by omega), mm_eq_le (rbv1) (by omega), mm_eq_le (rbv2) (by omega), mm_eq_le (rbv3) (by omega), mm_eq_le (mm_eq_fr (mm_eq_fr (ra25) g1 (by decide) (by decide)) g2 (by decide) (by decide)) (by omega), mm_eq_le (mm_eq_fr (mm_eq_fr (ra26) g1 (by decide) (by decide)) g2 (by decide) (by decide)) (by omega), mm_ah_sm (mm_ah_sm (ra27) (fun j => g1.2 27 (by decide) j) (fun j => g1.2 88 (by decide) j) (fun j => g1.2 89 (by decide) j) (by omega)) (fun j => g2.2 27 (by decide) j) (fun j => g2.2 88 (by decide) j) (fun j => g2.2 89 (by decide) j) (by omega), mm_pw9_sm (mm_pw9_sm (ra28) (fun j => g1.2 44 (by decide) j) (fun j => g1.2 102 (by decide) j) (by omega) (by omega)) (fun j => g2.2 44 (by decide) j) (fun j => g2.2 102 (by decide) j) (by omega) (by omega), mm_eq_le (rbv5) (by omega), rbv4, mm_ab8_sm (mm_ab8_sm (ra31) (fun j => g1.2 27 (by decide) j) (fun j => g1.2 88 (by decide) j) (fun j => g1.2 89 (by decide) j) (fun j => g1.2 90 (by decide) j) (by omega) (by omega)) (fun j => g2.2 27 (by decide) j) (fun j => g2.2 88 (by decide) j) (fun j => g2.2 89 (by decide) j) (fun j => g2.2 90 (by decide) j) (by omega) (by omega), mm_eq_le (mm_eq_fr (mm_eq_fr (ra32) g1 (by decide) (by decide)) g2 (by decide) (by decide)) (by omega), mm_cJ_sm (mm_cJ_sm (ra33) (fun j => g1.2 43 (by decide) j) (fun j => g1.2 103 (by decide) j) (fun j => g1.2 104 (by decide) j) (fun j => g1.2 105 (by decide) j) (fun j => g1.2 106 (by decide) j) (fun j => g1.2 107 (by decide) j) (by omega) (by omega) (by omega)) (fun j => g2.2 43 (by decide) j) (fun j => g2.2 103 (by decide) j) (fun j => g2.2 104 (by decide) j) (fun j => g2.2 105 (by decide) j) (fun j => g2.2 106 (by decide) j) (fun j => g2.2 107 (by decide) j) (by omega) (by omega) (by omega), mm_pt9_sm (mm_pt9_sm (ra34) (fun j => g1.2 37 (by decide) j) (fun j => g1.2 38 (by decide) j) (fun j => g1.2 39 (by decide) j) (fun j => g1.2 40 (by decide) j) (fun j => g1.2 41 (by decide) j) (fun j => g1.2 112 (by decide) j) (fun j => g1.2 114 (by decide) j) (fun j => g1.2 115 (by decide) j) (fun j => g1.2 116 (by decide) j) (by omega) (by omega) (by omega)) (fun j => g2.2 37 (by decide) j) (fun j => g2.2 38 (by decide) j) (fun j => g2.2 39 (by decide) j) (fun j => g2.2 40 (by decide) j) (fun j => g2.2 41 (by decide) j) (fun j => g2.2 112 (by decide) j) (fun j => g2.2 114 (by decide) j) (fun j => g2.2 115 (by decide) j) (fun j => g2.2 116 (by decide) j) (by omega) (by omega) (by omega), mm_tm9_sm (mm_tm9_sm (ra35) (fun j => g1.2 29 (by decide) j) (fun j => g1.2 90 (by decide) j) (by omega) (by omega)) (fun j => g2.2 29 (by decide) j) (fun j => g2.2 90 (by decide) j) (by omega) (by omega)⟩)
set_option maxRecDepth 100000 in
set_option maxHeartbeats 4000000 in
theorem lw_c26 {x : mX} {L : Nat} {xs : Nat → Int32} (C : mm_OK 60 601024 7293034 code RL 8 ret x) (X : mm_scr x L xs) (hl : x.2.1.stackTraces = false) (hL : L ≤ 3072) (i : Int) (hi : 0 ≤ i ∧ i + 6 ≤ L) (h : mH) (i0 : mm_inv h) (r0 : mm_RO h) (rl0 : mm_Rl i h) (K : mm_K x i) : mm_W x (mm_aA i h) (mm_bB i h) 1504 (mm_lls i) [] h := by
  have zl := mm_zf_le h
  have ea : mm_aA i h = 200 + i.toNat + (mm_zf h).1 := rfl
  have eb : mm_bB i h = 90000 + 6 * i.toNat + (mm_zf h).2 := rfl
  obtain ⟨rs0, rs1, rs2, rs3, rs4, rs5, rs6, rs7, rs8, rs9, rs10, rs11, rs12, ra0, ra1, ra2, ra3, ra4, ra5, ra6, ra7, ra8, ra9, ra10, ra11, ra12, ra13, ra14, ra15, ra16, ra17, ra18, ra19, ra20, ra21, ra22, ra23, ra24, ra25, ra26, ra27, ra28, ra29, ra30, ra31, ra32, ra33, ra34, ra35⟩ := rl0
  refine mm_aload_n C (mm_dec dk_law16 16 rfl) rfl ?_
  refine mm_aload_n C (mm_dec dk_law16 17 rfl) rfl ?_
  refine mm_iload C (mm_dec dk_law16 18 rfl) rfl ?_
  refine mm_iconst C (mm_dec dk_law16 19 rfl) ⟨by decide, by decide⟩ ?_
  refine mm_iadd C (mm_dec dk_law16 20 rfl) ⟨by omega, by omega⟩ ?_
  refine mm_sld C X (mm_dec dk_law16 21 rfl) (by omega) (by omega) ?_
  refine mm_aload_n C (mm_dec dk_law16 22 rfl) rfl ?_
  refine mm_iload C (mm_dec dk_law16 23 rfl) rfl ?_
  refine mm_iconst C (mm_dec dk_law16 24 rfl) ⟨by decide, by decide⟩ ?_
  refine mm_iadd C (mm_dec dk_law16 25 rfl) ⟨by omega, by omega⟩ ?_
  refine mm_sld C X (mm_dec dk_law16 26 rfl) (by omega) (by omega) ?_
  refine mm_aload_n C (mm_dec dk_law16 27 rfl) rfl ?_
  by_cases hf : h.1 58 5 = 1
  · refine mm_cHi (d := 59) (rest := []) C mh_L_best ml_L_207 sm_L_best (mm_dec dk_law16 28 rfl) (c_L_best_t x.2.1 hl 59 (by decide) h i0 (mm_sc xs (i + 1)) (mm_sc xs (i + 2)) hf) rfl (Nat.le_of_ble_eq_true rfl) ⟨by omega, by omega⟩ rfl (fun r1 h1 hp1 => ?_)
    obtain ⟨b1, i1, g1⟩ := hp1
    have q1_1_5 : h1.1 1 5 = h.1 1 5 := g1.1 1 5 (by decide)
    have q1_66_1 : h1.1 66 1 = h.1 66 1 := g1.1 66 1 (by decide)
    have q1_1_6 : h1.1 1 6 = h.1 1 6 := g1.1 1 6 (by decide)
    have q1_66_2 : h1.1 66 2 = h.1 66 2 := g1.1 66 2 (by decide)
    have q1_14_8 : h1.1 14 8 = h.1 14 8 := g1.1 14 8 (by decide)
    have q1_66_22 : h1.1 66 22 = h.1 66 22 := g1.1 66 22 (by decide)
    have q1_22_8 : h1.1 22 8 = h.1 22 8 := g1.1 22 8 (by decide)
    have q1_66_23 : h1.1 66 23 = h.1 66 23 := g1.1 66 23 (by decide)
    have q1_14_7 : h1.1 14 7 = h.1 14 7 := g1.1 14 7 (by decide)
    have q1_66_21 : h1.1 66 21 = h.1 66 21 := g1.1 66 21 (by decide)
    have q1_22_9 : h1.1 22 9 = h.1 22 9 := g1.1 22 9 (by decide)
    have q1_66_24 : h1.1 66 24 = h.1 66 24 := g1.1 66 24 (by decide)
    have q1_0_12 : h1.1 0 12 = h.1 0 12 := g1.1 0 12 (by decide)
    have q1_66_56 : h1.1 66 56 = h.1 66 56 := g1.1 66 56 (by decide)
    have q1_0_14 : h1.1 0 14 = h.1 0 14 := g1.1 0 14 (by decide)
    have q1_66_58 : h1.1 66 58 = h.1 66 58 := g1.1 66 58 (by decide)
    have q1_30_6 : h1.1 30 6 = h.1 30 6 := g1.1 30 6 (by decide)
    have q1_66_40 : h1.1 66 40 = h.1 66 40 := g1.1 66 40 (by decide)
    have q1_30_12 : h1.1 30 12 = h.1 30 12 := g1.1 30 12 (by decide)
    have q1_66_82 : h1.1 66 82 = h.1 66 82 := g1.1 66 82 (by decide)
    have q1_0_13 : h1.1 0 13 = h.1 0 13 := g1.1 0 13 (by decide)
    have q1_66_41 : h1.1 66 41 = h.1 66 41 := g1.1 66 41 (by decide)
    have q1_1_7 : h1.1 1 7 = h.1 1 7 := g1.1 1 7 (by decide)
    have q1_66_3 : h1.1 66 3 = h.1 66 3 := g1.1 66 3 (by decide)
    have q1_66_9 : h1.1 66 9 = h.1 66 9 := g1.1 66 9 (by decide)
    have q1_66_10 : h1.1 66 10 = h.1 66 10 := g1.1 66 10 (by decide)
    have q1_1_8 : h1.1 1 8 = h.1 1 8 := g1.1 1 8 (by decide)
    have q1_66_11 : h1.1 66 11 = h.1 66 11 := g1.1 66 11 (by decide)
    have q1_66_12 : h1.1 66 12 = h.1 66 12 := g1.1 66 12 (by decide)
    have q1_66_67 : h1.1 66 67 = h.1 66 67 := g1.1 66 67 (by decide)
    have q1_66_68 : h1.1 66 68 = h.1 66 68 := g1.1 66 68 (by decide)
    have q1_30_13 : h1.1 30 13 = h.1 30 13 := g1.1 30 13 (by decide)
    have q1_66_91 : h1.1 66 91 = h.1 66 91 := g1.1 66 91 (by decide)
    have q1_42_3 : h1.1 42 3 = h.1 42 3 := g1.1 42 3 (by decide)
    refine mm_istoreL (ls2 := [mR 3000, mR 0, mR 66, mR 124, mI i, mI r1, mU, mU]) C (mm_dec dk_law16 29 rfl) (by decide) rfl ?_
    refine mm_aload_n C (mm_dec dk_law16 30 rfl) rfl ?_
    refine mm_aload_n C (mm_dec dk_law16 31 rfl) rfl ?_
    refine mm_iload C (mm_dec dk_law16 32 rfl) rfl ?_
    refine mm_iconst C (mm_dec dk_law16 33 rfl) ⟨by decide, by decide⟩ ?_
    refine mm_iadd C (mm_dec dk_law16 34 rfl) ⟨by omega, by omega⟩ ?_
    refine mm_sld C X (mm_dec dk_law16 35 rfl) (by omega) (by omega) ?_
    refine mm_aload_n C (mm_dec dk_law16 36 rfl) rfl ?_
    refine mm_iload C (mm_dec dk_law16 37 rfl) rfl ?_
    refine mm_iconst C (mm_dec dk_law16 38 rfl) ⟨by decide, by decide⟩ ?_
    refine mm_iadd C (mm_dec dk_law16 39 rfl) ⟨by omega, by omega⟩ ?_
    refine mm_sld C X (mm_dec dk_law16 40 rfl) (by omega) (by omega) ?_
    refine mm_cVi (d := 59) (rest := []) C ev_L_209 (mm_dec dk_law16 41 rfl) (c_X12_best x.2.1 hl 59 (by decide) h1 i1 (mm_sc xs (i + 1)) (mm_sc xs (i + 2))) rfl rfl (Nat.le_of_ble_eq_true rfl) ⟨by omega, by omega⟩ rfl (fun r11 h11 hp11 => ?_) (fun _ _ q => q.elim)
    obtain ⟨b11, i11, g11⟩ := hp11
    have q11_1_5 : h11.1 1 5 = h1.1 1 5 := g11.1 1 5 (by decide)
    have q11_66_1 : h11.1 66 1 = h1.1 66 1 := g11.1 66 1 (by decide)
    have q11_1_6 : h11.1 1 6 = h1.1 1 6 := g11.1 1 6 (by decide)
    have q11_66_2 : h11.1 66 2 = h1.1 66 2 := g11.1 66 2 (by decide)
    have q11_14_8 : h11.1 14 8 = h1.1 14 8 := g11.1 14 8 (by decide)
    have q11_66_22 : h11.1 66 22 = h1.1 66 22 := g11.1 66 22 (by decide)
    have q11_22_8 : h11.1 22 8 = h1.1 22 8 := g11.1 22 8 (by decide)
    have q11_66_23 : h11.1 66 23 = h1.1 66 23 := g11.1 66 23 (by decide)
    have q11_14_7 : h11.1 14 7 = h1.1 14 7 := g11.1 14 7 (by decide)
    have q11_66_21 : h11.1 66 21 = h1.1 66 21 := g11.1 66 21 (by decide)
    have q11_22_9 : h11.1 22 9 = h1.1 22 9 := g11.1 22 9 (by decide)
    have q11_66_24 : h11.1 66 24 = h1.1 66 24 := g11.1 66 24 (by decide)
    have q11_0_12 : h11.1 0 12 = h1.1 0 12 := g11.1 0 12 (by decide)
    have q11_66_56 : h11.1 66 56 = h1.1 66 56 := g11.1 66 56 (by decide)
    have q11_0_14 : h11.1 0 14 = h1.1 0 14 := g11.1 0 14 (by decide)
    have q11_66_58 : h11.1 66 58 = h1.1 66 58 := g11.1 66 58 (by decide)
    have q11_30_6 : h11.1 30 6 = h1.1 30 6 := g11.1 30 6 (by decide)
    have q11_66_40 : h11.1 66 40 = h1.1 66 40 := g11.1 66 40 (by decide)
    have q11_30_12 : h11.1 30 12 = h1.1 30 12 := g11.1 30 12 (by decide)
    have q11_66_82 : h11.1 66 82 = h1.1 66 82 := g11.1 66 82 (by decide)
    have q11_0_13 : h11.1 0 13 = h1.1 0 13 := g11.1 0 13 (by decide)
    have q11_66_41 : h11.1 66 41 = h1.1 66 41 := g11.1 66 41 (by decide)
    have q11_1_7 : h11.1 1 7 = h1.1 1 7 := g11.1 1 7 (by decide)
    have q11_66_3 : h11.1 66 3 = h1.1 66 3 := g11.1 66 3 (by decide)
    have q11_66_9 : h11.1 66 9 = h1.1 66 9 := g11.1 66 9 (by decide)
    have q11_66_10 : h11.1 66 10 = h1.1 66 10 := g11.1 66 10 (by decide)
    have q11_1_8 : h11.1 1 8 = h1.1 1 8 := g11.1 1 8 (by decide)
    have q11_66_11 : h11.1 66 11 = h1.1 66 11 := g11.1 66 11 (by decide)
    have q11_66_12 : h11.1 66 12 = h1.1 66 12 := g11.1 66 12 (by decide)
    have q11_66_67 : h11.1 66 67 = h1.1 66 67 := g11.1 66 67 (by decide)
    have q11_66_68 : h11.1 66 68 = h1.1 66 68 := g11.1 66 68 (by decide)
    have q11_30_13 : h11.1 30 13 = h1.1 30 13 := g11.1 30 13 (by decide)
    have q11_66_91 : h11.1 66 91 = h1.1 66 91 := g11.1 66 91 (by decide)
    have q11_42_3 : h11.1 42 3 = h1.1 42 3 := g11.1 42 3 (by decide)
    have qa11 : h11.2.1 124 0 = h1.2.1 124 0 := g11.2 124 (by decide) 0
    refine mm_istoreL (ls2 := [mR 3000, mR 0, mR 66, mR 124, mI i, mI r1, mI r11, mU]) C (mm_dec dk_law16 42 rfl) (by decide) rfl ?_
    refine mm_goto (tgt := 1668) C (mm_dec dk_law16 43 rfl) (by decide) ?_
    refine mm_fgt 5 ?_
    refine mm_fgt 6 ?_
    have ze := mm_zf_eq (show h11.1 58 5 = h.1 58 5 from (g11.1 58 5 (by decide)).trans ((g1.1 58 5 (by decide)).trans (rfl)))
    refine mm_widen (k := mm_aA (i + 6) h11) (n := mm_bB (i + 6) h11) (by rw [show mm_aA (i + 6) h11 = 200 + (i + 6).toNat + (mm_zf h).1 from by unfold mm_aA; rw [ze]]; omega) (by rw [show mm_bB (i + 6) h11 = 90000 + 6 * (i + 6).toNat + (mm_zf h).2 from by unfold mm_bB; rw [ze]]; omega) ?_
    exact K h11 i11 (mm_RO_fr (mm_RO_fr (r0) g1 (by decide)) g11 (by decide)) (by unfold mm_Rl; exact ⟨by omega, by omega, by omega, by omega, by omega, by omega, by omega, by omega, by omega, by omega, by omega, by omega, by omega, mm_eq_fr (mm_eq_fr (ra0) g1 (by decide) (by decide)) g11 (by decide) (by decide), mm_eq_fr (mm_eq_fr (ra1) g1 (by decide) (by decide)) g11 (by decide) (by decide), mm_eq_le (mm_eq_fr (mm_eq_fr (ra2) g1 (by decide) (by decide)) g11 (by decide) (by decide)) (by omega), mm_eq_le (mm_eq_fr (mm_eq_fr (ra3) g1 (by decide) (by decide)) g11 (by decide) (by decide)) (by omega), mm_eq_le (mm_eq_fr (mm_eq_fr (ra4) g1 (by decide) (by decide)) g11 (by decide) (by decide)) (by omega), mm_eq_le (mm_eq_fr (mm_eq_fr (ra5) g1 (by decide) (by decide)) g11 (by decide) (by decide)) (by omega), mm_tk_sm (mm_tk_sm (ra6) (fun j => g1.2 18 (by decide) j) (fun j => g1.2 85 (by decide) j) (by omega) (by omega)) (fun j => g11.2 18 (by decide) j) (fun j => g11.2 85 (by decide) j) (by omega) (by omega), mm_cb_sm (mm_cb_sm (ra7) (fun j => g1.2 85 (by decide) j) (by omega) (by omega)) (fun j => g11.2 85 (by decide) j) (by omega) (by omega), mm_fb_sm (mm_fb_sm (ra8) (fun j => g1.2 20 (by decide) j) (by omega)) (fun j => g11.2 20 (by decide) j) (by omega), mm_eq_fr (mm_eq_fr (ra9) g1 (by decide) (by decide)) g11 (by decide) (by decide), mm_eq_fr (mm_eq_fr (ra10) g1 (by decide) (by decide)) g11 (by decide) (by decide), mm_eq_fr (mm_eq_fr (ra11) g1 (by decide) (by decide)) g11 (by decide) (by decide), mm_eq_le (mm_eq_fr (mm_eq_fr (ra12) g1 (by decide) (by decide)) g11 (by decide) (by decide)) (by omega), mm_go_sm (mm_go_sm (ra13) (fun j => g1.2 6 (by decide) j) (by omega) (by omega) (by omega) (by omega) (by omega) (by omega)) (fun j => g11.2 6 (by decide) j) (by omega) (by omega) (by omega) (by omega) (by omega) (by omega), mm_eq_le (mm_eq_fr (mm_eq_fr (ra14) g1 (by decide) (by decide)) g11 (by decide) (by decide)) (by omega), mm_eq_le (mm_eq_fr (mm_eq_fr (ra15) g1 (by decide) (by decide)) g11 (by decide) (by decide)) (by omega), mm_it_sm (mm_it_sm (ra16) (fun j => g1.2 28 (by decide) j) (fun j => g1.2 88 (by decide) j) (by omega)) (fun j => g11.2 28 (by decide) j) (fun j => g11.2 88 (by decide) j) (by omega), mm_br_sm (mm_br_sm (ra17) (fun j => g1.2 21 (by decide) j) (fun j => g1.2 82 (by decide) j) (fun j => g1.2 84 (by decide) j) (fun j => g1.2 19 (by decide) j) (by omega)) (fun j => g11.2 21 (by decide) j) (fun j => g11.2 82 (by decide) j) (fun j => g11.2 84 (by decide) j) (fun j => g11.2 19 (by decide) j) (by omega), mm_gn_sm (mm_gn_sm (ra18)  (by omega) (by omega) (by omega) (by omega) (by omega))  (by omega) (by omega) (by omega) (by omega) (by omega), mm_pc_sm (mm_pc_sm (ra19) (fun j => g1.2 15 (by decide) j) (by omega) (by omega) (by omega)) (fun j => g11.2 15 (by decide) j) (by omega) (by omega) (by omega), mm_bv_sm (mm_bv_sm (ra20) (fun j => g1.2 21 (by decide) j) (fun j => g1.2 19 (by decide) j) (by omega) (by omega)) (fun j => g11.2 21 (by decide) j) (fun j => g11.2 19 (by decide) j) (by omega) (by omega), mm_eq_le (mm_eq_fr (mm_eq_fr (ra21) g1 (by decide) (by decide)) g11 (by decide) (by decide)) (by omega), mm_eq_le (mm_eq_fr (mm_eq_fr (ra22) g1 (by decide) (by decide)) g11 (by decide) (by decide)) (by omega), mm_eq_le (mm_eq_fr (mm_eq_fr (ra23) g1 (by decide) (by decide)) g11 (by decide) (by decide)) (by omega), mm_eq_le (mm_eq_fr (mm_eq_fr (ra24) g1 (by decide) (by decide)) g11 (by decide) (by decide)) (by omega), mm_eq_le (mm_eq_fr (mm_eq_fr (ra25) g1 (by decide) (by decide)) g11 (by decide) (by decide)) (by omega), mm_eq_le (mm_eq_fr (mm_eq_fr (ra26) g1 (by decide) (by decide)) g11 (by decide) (by decide)) (by omega), mm_ah_sm (mm_ah_sm (ra27) (fun j => g1.2 27 (by decide) j) (fun j => g1.2 88 (by decide) j) (fun j => g1.2 89 (by decide) j) (by omega)) (fun j => g11.2 27 (by decide) j) (fun j => g11.2 88 (by decide) j) (fun j => g11.2 89 (by decide) j) (by omega), mm_pw9_sm (mm_pw9_sm (ra28) (fun j => g1.2 44 (by decide) j) (fun j => g1.2 102 (by decide) j) (by omega) (by omega)) (fun j => g11.2 44 (by decide) j) (fun j => g11.2 102 (by decide) j) (by omega) (by omega), mm_eq_le (mm_eq_fr (mm_eq_fr (ra29) g1 (by decide) (by decide)) g11 (by decide) (by decide)) (by omega), mm_ep8_sm (mm_ep8_sm (ra30) (fun j => g1.2 31 (by decide) j) (fun j => g1.2 33 (by decide) j) (fun j => g1.2 94 (by decide) j) (by omega)) (fun j => g11.2 31 (by decide) j) (fun j => g11.2 33 (by decide) j) (fun j => g11.2 94 (by decide) j) (by omega), mm_ab8_sm (mm_ab8_sm (ra31) (fun j => g1.2 27 (by decide) j) (fun j => g1.2 88 (by decide) j) (fun j => g1.2 89 (by decide) j) (fun j => g1.2 90 (by decide) j) (by omega) (by omega)) (fun j => g11.2 27 (by decide) j) (fun j => g11.2 88 (by decide) j) (fun j => g11.2 89 (by decide) j) (fun j => g11.2 90 (by decide) j) (by omega) (by omega), mm_eq_le (mm_eq_fr (mm_eq_fr (ra32) g1 (by decide) (by decide)) g11 (by decide) (by decide)) (by omega), mm_cJ_sm (mm_cJ_sm (ra33) (fun j => g1.2 43 (by decide) j) (fun j => g1.2 103 (by decide) j) (fun j => g1.2 104 (by decide) j) (fun j => g1.2 105 (by decide) j) (fun j => g1.2 106 (by decide) j) (fun j => g1.2 107 (by decide) j) (by omega) (by omega) (by omega)) (fun j => g11.2 43 (by decide) j) (fun j => g11.2 103 (by decide) j) (fun j => g11.2 104 (by decide) j) (fun j => g11.2 105 (by decide) j) (fun j => g11.2 106 (by decide) j) (fun j => g11.2 107 (by decide) j) (by omega) (by omega) (by omega), mm_pt9_sm (mm_pt9_sm (ra34) (fun j => g1.2 37 (by decide) j) (fun j => g1.2 38 (by decide) j) (fun j => g1.2 39 (by decide) j) (fun j => g1.2 40 (by decide) j) (fun j => g1.2 41 (by decide) j) (fun j => g1.2 112 (by decide) j) (fun j => g1.2 114 (by decide) j) (fun j => g1.2 115 (by decide) j) (fun j => g1.2 116 (by decide) j) (by omega) (by omega) (by omega)) (fun j => g11.2 37 (by decide) j) (fun j => g11.2 38 (by decide) j) (fun j => g11.2 39 (by decide) j) (fun j => g11.2 40 (by decide) j) (fun j => g11.2 41 (by decide) j) (fun j => g11.2 112 (by decide) j) (fun j => g11.2 114 (by decide) j) (fun j => g11.2 115 (by decide) j) (fun j => g11.2 116 (by decide) j) (by omega) (by omega) (by omega), mm_tm9_sm (mm_tm9_sm (ra35) (fun j => g1.2 29 (by decide) j) (fun j => g1.2 90 (by decide) j) (by omega) (by omega)) (fun j => g11.2 29 (by decide) j) (fun j => g11.2 90 (by decide) j) (by omega) (by omega)⟩)
  · have hf2 : 0 ≤ h.1 58 5 ∧ h.1 58 5 ≤ 1 := i0.1 58 5
    by_cases hb : (mm_sc xs (i + 1)) < 0 ∨ h.1 14 8 ≤ (mm_sc xs (i + 1)) ∨ (mm_sc xs (i + 2)) < 0
    · refine mm_cHi (d := 59) (rest := []) C mh_L_best ml_L_207 sm_L_best (mm_dec dk_law16 28 rfl) (c_L_best_x x.2.1 hl 59 (by decide) h i0 (mm_sc xs (i + 1)) (mm_sc xs (i + 2)) hb) rfl (Nat.le_of_ble_eq_true rfl) ⟨by omega, by omega⟩ rfl (fun r2 h2 hp2 => ?_)
      obtain ⟨b2, i2, g2⟩ := hp2
      have q2_1_5 : h2.1 1 5 = h.1 1 5 := g2.1 1 5 (by decide)
      have q2_66_1 : h2.1 66 1 = h.1 66 1 := g2.1 66 1 (by decide)
      have q2_1_6 : h2.1 1 6 = h.1 1 6 := g2.1 1 6 (by decide)
      have q2_66_2 : h2.1 66 2 = h.1 66 2 := g2.1 66 2 (by decide)
      have q2_14_8 : h2.1 14 8 = h.1 14 8 := g2.1 14 8 (by decide)
      have q2_66_22 : h2.1 66 22 = h.1 66 22 := g2.1 66 22 (by decide)
      have q2_22_8 : h2.1 22 8 = h.1 22 8 := g2.1 22 8 (by decide)
      have q2_66_23 : h2.1 66 23 = h.1 66 23 := g2.1 66 23 (by decide)
      have q2_14_7 : h2.1 14 7 = h.1 14 7 := g2.1 14 7 (by decide)
      have q2_66_21 : h2.1 66 21 = h.1 66 21 := g2.1 66 21 (by decide)
      have q2_22_9 : h2.1 22 9 = h.1 22 9 := g2.1 22 9 (by decide)
      have q2_66_24 : h2.1 66 24 = h.1 66 24 := g2.1 66 24 (by decide)
      have q2_0_12 : h2.1 0 12 = h.1 0 12 := g2.1 0 12 (by decide)
      have q2_66_56 : h2.1 66 56 = h.1 66 56 := g2.1 66 56 (by decide)
      have q2_0_14 : h2.1 0 14 = h.1 0 14 := g2.1 0 14 (by decide)
      have q2_66_58 : h2.1 66 58 = h.1 66 58 := g2.1 66 58 (by decide)
      have q2_30_6 : h2.1 30 6 = h.1 30 6 := g2.1 30 6 (by decide)
      have q2_66_40 : h2.1 66 40 = h.1 66 40 := g2.1 66 40 (by decide)
      have q2_30_12 : h2.1 30 12 = h.1 30 12 := g2.1 30 12 (by decide)
      have q2_66_82 : h2.1 66 82 = h.1 66 82 := g2.1 66 82 (by decide)
      have q2_0_13 : h2.1 0 13 = h.1 0 13 := g2.1 0 13 (by decide)
      have q2_66_41 : h2.1 66 41 = h.1 66 41 := g2.1 66 41 (by decide)
      have q2_1_7 : h2.1 1 7 = h.1 1 7 := g2.1 1 7 (by decide)
      have q2_66_3 : h2.1 66 3 = h.1 66 3 := g2.1 66 3 (by decide)
      have q2_66_9 : h2.1 66 9 = h.1 66 9 := g2.1 66 9 (by decide)
      have q2_66_10 : h2.1 66 10 = h.1 66 10 := g2.1 66 10 (by decide)
      have q2_1_8 : h2.1 1 8 = h.1 1 8 := g2.1 1 8 (by decide)
      have q2_66_11 : h2.1 66 11 = h.1 66 11 := g2.1 66 11 (by decide)
      have q2_66_12 : h2.1 66 12 = h.1 66 12 := g2.1 66 12 (by decide)
      have q2_66_67 : h2.1 66 67 = h.1 66 67 := g2.1 66 67 (by decide)
      have q2_66_68 : h2.1 66 68 = h.1 66 68 := g2.1 66 68 (by decide)
      have q2_30_13 : h2.1 30 13 = h.1 30 13 := g2.1 30 13 (by decide)
      have q2_66_91 : h2.1 66 91 = h.1 66 91 := g2.1 66 91 (by decide)
      have q2_42_3 : h2.1 42 3 = h.1 42 3 := g2.1 42 3 (by decide)
      refine mm_istoreL (ls2 := [mR 3000, mR 0, mR 66, mR 124, mI i, mI r2, mU, mU]) C (mm_dec dk_law16 29 rfl) (by decide) rfl ?_
      refine mm_aload_n C (mm_dec dk_law16 30 rfl) rfl ?_
      refine mm_aload_n C (mm_dec dk_law16 31 rfl) rfl ?_
      refine mm_iload C (mm_dec dk_law16 32 rfl) rfl ?_
      refine mm_iconst C (mm_dec dk_law16 33 rfl) ⟨by decide, by decide⟩ ?_
      refine mm_iadd C (mm_dec dk_law16 34 rfl) ⟨by omega, by omega⟩ ?_
      refine mm_sld C X (mm_dec dk_law16 35 rfl) (by omega) (by omega) ?_
      refine mm_aload_n C (mm_dec dk_law16 36 rfl) rfl ?_
      refine mm_iload C (mm_dec dk_law16 37 rfl) rfl ?_
      refine mm_iconst C (mm_dec dk_law16 38 rfl) ⟨by decide, by decide⟩ ?_
      refine mm_iadd C (mm_dec dk_law16 39 rfl) ⟨by omega, by omega⟩ ?_
      refine mm_sld C X (mm_dec dk_law16 40 rfl) (by omega) (by omega) ?_
      refine mm_cVi (d := 59) (rest := []) C ev_L_209 (mm_dec dk_law16 41 rfl) (c_X12_best x.2.1 hl 59 (by decide) h2 i2 (mm_sc xs (i + 1)) (mm_sc xs (i + 2))) rfl rfl (Nat.le_of_ble_eq_true rfl) ⟨by omega, by omega⟩ rfl (fun r21 h21 hp21 => ?_) (fun _ _ q => q.elim)
      obtain ⟨b21, i21, g21⟩ := hp21
      have q21_1_5 : h21.1 1 5 = h2.1 1 5 := g21.1 1 5 (by decide)
      have q21_66_1 : h21.1 66 1 = h2.1 66 1 := g21.1 66 1 (by decide)
      have q21_1_6 : h21.1 1 6 = h2.1 1 6 := g21.1 1 6 (by decide)
      have q21_66_2 : h21.1 66 2 = h2.1 66 2 := g21.1 66 2 (by decide)
      have q21_14_8 : h21.1 14 8 = h2.1 14 8 := g21.1 14 8 (by decide)
      have q21_66_22 : h21.1 66 22 = h2.1 66 22 := g21.1 66 22 (by decide)
      have q21_22_8 : h21.1 22 8 = h2.1 22 8 := g21.1 22 8 (by decide)
      have q21_66_23 : h21.1 66 23 = h2.1 66 23 := g21.1 66 23 (by decide)
      have q21_14_7 : h21.1 14 7 = h2.1 14 7 := g21.1 14 7 (by decide)
      have q21_66_21 : h21.1 66 21 = h2.1 66 21 := g21.1 66 21 (by decide)
      have q21_22_9 : h21.1 22 9 = h2.1 22 9 := g21.1 22 9 (by decide)
      have q21_66_24 : h21.1 66 24 = h2.1 66 24 := g21.1 66 24 (by decide)
      have q21_0_12 : h21.1 0 12 = h2.1 0 12 := g21.1 0 12 (by decide)
      have q21_66_56 : h21.1 66 56 = h2.1 66 56 := g21.1 66 56 (by decide)
      have q21_0_14 : h21.1 0 14 = h2.1 0 14 := g21.1 0 14 (by decide)
      have q21_66_58 : h21.1 66 58 = h2.1 66 58 := g21.1 66 58 (by decide)
      have q21_30_6 : h21.1 30 6 = h2.1 30 6 := g21.1 30 6 (by decide)
      have q21_66_40 : h21.1 66 40 = h2.1 66 40 := g21.1 66 40 (by decide)
      have q21_30_12 : h21.1 30 12 = h2.1 30 12 := g21.1 30 12 (by decide)
      have q21_66_82 : h21.1 66 82 = h2.1 66 82 := g21.1 66 82 (by decide)
      have q21_0_13 : h21.1 0 13 = h2.1 0 13 := g21.1 0 13 (by decide)
      have q21_66_41 : h21.1 66 41 = h2.1 66 41 := g21.1 66 41 (by decide)
      have q21_1_7 : h21.1 1 7 = h2.1 1 7 := g21.1 1 7 (by decide)
      have q21_66_3 : h21.1 66 3 = h2.1 66 3 := g21.1 66 3 (by decide)
      have q21_66_9 : h21.1 66 9 = h2.1 66 9 := g21.1 66 9 (by decide)
      have q21_66_10 : h21.1 66 10 = h2.1 66 10 := g21.1 66 10 (by decide)
      have q21_1_8 : h21.1 1 8 = h2.1 1 8 := g21.1 1 8 (by decide)
      have q21_66_11 : h21.1 66 11 = h2.1 66 11 := g21.1 66 11 (by decide)
      have q21_66_12 : h21.1 66 12 = h2.1 66 12 := g21.1 66 12 (by decide)
      have q21_66_67 : h21.1 66 67 = h2.1 66 67 := g21.1 66 67 (by decide)
      have q21_66_68 : h21.1 66 68 = h2.1 66 68 := g21.1 66 68 (by decide)
      have q21_30_13 : h21.1 30 13 = h2.1 30 13 := g21.1 30 13 (by decide)
      have q21_66_91 : h21.1 66 91 = h2.1 66 91 := g21.1 66 91 (by decide)
      have q21_42_3 : h21.1 42 3 = h2.1 42 3 := g21.1 42 3 (by decide)
      have qa21 : h21.2.1 124 0 = h2.2.1 124 0 := g21.2 124 (by decide) 0
      refine mm_istoreL (ls2 := [mR 3000, mR 0, mR 66, mR 124, mI i, mI r2, mI r21, mU]) C (mm_dec dk_law16 42 rfl) (by decide) rfl ?_
      refine mm_goto (tgt := 1668) C (mm_dec dk_law16 43 rfl) (by decide) ?_
      refine mm_fgt 5 ?_
      refine mm_fgt 6 ?_
      have ze := mm_zf_eq (show h21.1 58 5 = h.1 58 5 from (g21.1 58 5 (by decide)).trans ((g2.1 58 5 (by decide)).trans (rfl)))
      refine mm_widen (k := mm_aA (i + 6) h21) (n := mm_bB (i + 6) h21) (by rw [show mm_aA (i + 6) h21 = 200 + (i + 6).toNat + (mm_zf h).1 from by unfold mm_aA; rw [ze]]; omega) (by rw [show mm_bB (i + 6) h21 = 90000 + 6 * (i + 6).toNat + (mm_zf h).2 from by unfold mm_bB; rw [ze]]; omega) ?_
      exact K h21 i21 (mm_RO_fr (mm_RO_fr (r0) g2 (by decide)) g21 (by decide)) (by unfold mm_Rl; exact ⟨by omega, by omega, by omega, by omega, by omega, by omega, by omega, by omega, by omega, by omega, by omega, by omega, by omega, mm_eq_fr (mm_eq_fr (ra0) g2 (by decide) (by decide)) g21 (by decide) (by decide), mm_eq_fr (mm_eq_fr (ra1) g2 (by decide) (by decide)) g21 (by decide) (by decide), mm_eq_le (mm_eq_fr (mm_eq_fr (ra2) g2 (by decide) (by decide)) g21 (by decide) (by decide)) (by omega), mm_eq_le (mm_eq_fr (mm_eq_fr (ra3) g2 (by decide) (by decide)) g21 (by decide) (by decide)) (by omega), mm_eq_le (mm_eq_fr (mm_eq_fr (ra4) g2 (by decide) (by decide)) g21 (by decide) (by decide)) (by omega), mm_eq_le (mm_eq_fr (mm_eq_fr (ra5) g2 (by decide) (by decide)) g21 (by decide) (by decide)) (by omega), mm_tk_sm (mm_tk_sm (ra6) (fun j => g2.2 18 (by decide) j) (fun j => g2.2 85 (by decide) j) (by omega) (by omega)) (fun j => g21.2 18 (by decide) j) (fun j => g21.2 85 (by decide) j) (by omega) (by omega), mm_cb_sm (mm_cb_sm (ra7) (fun j => g2.2 85 (by decide) j) (by omega) (by omega)) (fun j => g21.2 85 (by decide) j) (by omega) (by omega), mm_fb_sm (mm_fb_sm (ra8) (fun j => g2.2 20 (by decide) j) (by omega)) (fun j => g21.2 20 (by decide) j) (by omega), mm_eq_fr (mm_eq_fr (ra9) g2 (by decide) (by decide)) g21 (by decide) (by decide), mm_eq_fr (mm_eq_fr (ra10) g2 (by decide) (by decide)) g21 (by decide) (by decide), mm_eq_fr (mm_eq_fr (ra11) g2 (by decide) (by decide)) g21 (by decide) (by decide), mm_eq_le (mm_eq_fr (mm_eq_fr (ra12) g2 (by decide) (by decide)) g21 (by decide) (by decide)) (by omega), mm_go_sm (mm_go_sm (ra13) (fun j => g2.2 6 (by decide) j) (by omega) (by omega) (by omega) (by omega) (by omega) (by omega)) (fun j => g21.2 6 (by decide) j) (by omega) (by omega) (by omega) (by omega) (by omega) (by omega), mm_eq_le (mm_eq_fr (mm_eq_fr (ra14) g2 (by decide) (by decide)) g21 (by decide) (by decide)) (by omega), mm_eq_le (mm_eq_fr (mm_eq_fr (ra15) g2 (by decide) (by decide)) g21 (by decide) (by decide)) (by omega), mm_it_sm (mm_it_sm (ra16) (fun j => g2.2 28 (by decide) j) (fun j => g2.2 88 (by decide) j) (by omega)) (fun j => g21.2 28 (by decide) j) (fun j => g21.2 88 (by decide) j) (by omega), mm_br_sm (mm_br_sm (ra17) (fun j => g2.2 21 (by decide) j) (fun j => g2.2 82 (by decide) j) (fun j => g2.2 84 (by decide) j) (fun j => g2.2 19 (by decide) j) (by omega)) (fun j => g21.2 21 (by decide) j) (fun j => g21.2 82 (by decide) j) (fun j => g21.2 84 (by decide) j) (fun j => g21.2 19 (by decide) j) (by omega), mm_gn_sm (mm_gn_sm (ra18)  (by omega) (by omega) (by omega) (by omega) (by omega))  (by omega) (by omega) (by omega) (by omega) (by omega), mm_pc_sm (mm_pc_sm (ra19) (fun j => g2.2 15 (by decide) j) (by omega) (by omega) (by omega)) (fun j => g21.2 15 (by decide) j) (by omega) (by omega) (by omega), mm_bv_sm (mm_bv_sm (ra20) (fun j => g2.2 21 (by decide) j) (fun j => g2.2 19 (by decide) j) (by omega) (by omega)) (fun j => g21.2 21 (by decide) j) (fun j => g21.2 19 (by decide) j) (by omega) (by omega), mm_eq_le (mm_eq_fr (mm_eq_fr (ra21) g2 (by decide) (by decide)) g21 (by decide) (by decide)) (by omega), mm_eq_le (mm_eq_fr (mm_eq_fr (ra22) g2 (by decide) (by decide)) g21 (by decide) (by decide)) (by omega), mm_eq_le (mm_eq_fr (mm_eq_fr (ra23) g2 (by decide) (by decide)) g21 (by decide) (by decide)) (by omega), mm_eq_le (mm_eq_fr (mm_eq_fr (ra24) g2 (by decide) (by decide)) g21 (by decide) (by decide)) (by omega), mm_eq_le (mm_eq_fr (mm_eq_fr (ra25) g2 (by decide) (by decide)) g21 (by decide) (by decide)) (by omega), mm_eq_le (mm_eq_fr (mm_eq_fr (ra26) g2 (by decide) (by decide)) g21 (by decide) (by decide)) (by omega), mm_ah_sm (mm_ah_sm (ra27) (fun j => g2.2 27 (by decide) j) (fun j => g2.2 88 (by decide) j) (fun j => g2.2 89 (by decide) j) (by omega)) (fun j => g21.2 27 (by decide) j) (fun j => g21.2 88 (by decide) j) (fun j => g21.2 89 (by decide) j) (by omega), mm_pw9_sm (mm_pw9_sm (ra28) (fun j => g2.2 44 (by decide) j) (fun j => g2.2 102 (by decide) j) (by omega) (by omega)) (fun j => g21.2 44 (by decide) j) (fun j => g21.2 102 (by decide) j) (by omega) (by omega), mm_eq_le (mm_eq_fr (mm_eq_fr (ra29) g2 (by decide) (by decide)) g21 (by decide) (by decide)) (by omega), mm_ep8_sm (mm_ep8_sm (ra30) (fun j => g2.2 31 (by decide) j) (fun j => g2.2 33 (by decide) j) (fun j => g2.2 94 (by decide) j) (by omega)) (fun j => g21.2 31 (by decide) j) (fun j => g21.2 33 (by decide) j) (fun j => g21.2 94 (by decide) j) (by omega), mm_ab8_sm (mm_ab8_sm (ra31) (fun j => g2.2 27 (by decide) j) (fun j => g2.2 88 (by decide) j) (fun j => g2.2 89 (by decide) j) (fun j => g2.2 90 (by decide) j) (by omega) (by omega)) (fun j => g21.2 27 (by decide) j) (fun j => g21.2 88 (by decide) j) (fun j => g21.2 89 (by decide) j) (fun j => g21.2 90 (by decide) j) (by omega) (by omega), mm_eq_le (mm_eq_fr (mm_eq_fr (ra32) g2 (by decide) (by decide)) g21 (by decide) (by decide)) (by omega), mm_cJ_sm (mm_cJ_sm (ra33) (fun j => g2.2 43 (by decide) j) (fun j => g2.2 103 (by decide) j) (fun j => g2.2 104 (by decide) j) (fun j => g2.2 105 (by decide) j) (fun j => g2.2 106 (by decide) j) (fun j => g2.2 107 (by decide) j) (by omega) (by omega) (by omega)) (fun j => g21.2 43 (by decide) j) (fun j => g21.2 103 (by decide) j) (fun j => g21.2 104 (by decide) j) (fun j => g21.2 105 (by decide) j) (fun j => g21.2 106 (by decide) j) (fun j => g21.2 107 (by decide) j) (by omega) (by omega) (by omega), mm_pt9_sm (mm_pt9_sm (ra34) (fun j => g2.2 37 (by decide) j) (fun j => g2.2 38 (by decide) j) (fun j => g2.2 39 (by decide) j) (fun j => g2.2 40 (by decide) j) (fun j => g2.2 41 (by decide) j) (fun j => g2.2 112 (by decide) j) (fun j => g2.2 114 (by decide) j) (fun j => g2.2 115 (by decide) j) (fun j => g2.2 116 (by decide) j) (by omega) (by omega) (by omega)) (fun j => g21.2 37 (by decide) j) (fun j => g21.2 38 (by decide) j) (fun j => g21.2 39 (by decide) j) (fun j => g21.2 40 (by decide) j) (fun j => g21.2 41 (by decide) j) (fun j => g21.2 112 (by decide) j) (fun j => g21.2 114 (by decide) j) (fun j => g21.2 115 (by decide) j) (fun j => g21.2 116 (by decide) j) (by omega) (by omega) (by omega), mm_tm9_sm (mm_tm9_sm (ra35) (fun j => g2.2 29 (by decide) j) (fun j => g2.2 90 (by decide) j) (by omega) (by omega)) (fun j => g21.2 29 (by decide) j) (fun j => g21.2 90 (by decide) j) (by omega) (by omega)⟩)
    · have hz := mm_zf_0 (h := h) (by omega)
      refine mm_cHiZ (d := 59) (rest := []) C mh_L_best ml_L_207 sm_L_best (mm_dec dk_law16 28 rfl) (c_L_best_ok x.2.1 hl 59 (by decide) h i0 (mm_sc xs (i + 1)) (mm_sc xs (i + 2)) (by omega) (by omega) (by omega)) rfl (Nat.le_of_ble_eq_true rfl) ⟨by omega, by omega⟩ rfl (fun r3 h3 hp3 => ?_)
      obtain ⟨b3, i3, g3⟩ := hp3
      have q3_1_5 : h3.1 1 5 = h.1 1 5 := g3.1 1 5 (by decide)
      have q3_66_1 : h3.1 66 1 = h.1 66 1 := g3.1 66 1 (by decide)
      have q3_1_6 : h3.1 1 6 = h.1 1 6 := g3.1 1 6 (by decide)
      have q3_66_2 : h3.1 66 2 = h.1 66 2 := g3.1 66 2 (by decide)
      have q3_14_8 : h3.1 14 8 = h.1 14 8 := g3.1 14 8 (by decide)
      have q3_66_22 : h3.1 66 22 = h.1 66 22 := g3.1 66 22 (by decide)
      have q3_22_8 : h3.1 22 8 = h.1 22 8 := g3.1 22 8 (by decide)
      have q3_66_23 : h3.1 66 23 = h.1 66 23 := g3.1 66 23 (by decide)
      have q3_14_7 : h3.1 14 7 = h.1 14 7 := g3.1 14 7 (by decide)
      have q3_66_21 : h3.1 66 21 = h.1 66 21 := g3.1 66 21 (by decide)
      have q3_22_9 : h3.1 22 9 = h.1 22 9 := g3.1 22 9 (by decide)
      have q3_66_24 : h3.1 66 24 = h.1 66 24 := g3.1 66 24 (by decide)
      have q3_0_12 : h3.1 0 12 = h.1 0 12 := g3.1 0 12 (by decide)
      have q3_66_56 : h3.1 66 56 = h.1 66 56 := g3.1 66 56 (by decide)
      have q3_0_14 : h3.1 0 14 = h.1 0 14 := g3.1 0 14 (by decide)
      have q3_66_58 : h3.1 66 58 = h.1 66 58 := g3.1 66 58 (by decide)
      have q3_30_6 : h3.1 30 6 = h.1 30 6 := g3.1 30 6 (by decide)
      have q3_66_40 : h3.1 66 40 = h.1 66 40 := g3.1 66 40 (by decide)
      have q3_30_12 : h3.1 30 12 = h.1 30 12 := g3.1 30 12 (by decide)
      have q3_66_82 : h3.1 66 82 = h.1 66 82 := g3.1 66 82 (by decide)
      have q3_0_13 : h3.1 0 13 = h.1 0 13 := g3.1 0 13 (by decide)
      have q3_66_41 : h3.1 66 41 = h.1 66 41 := g3.1 66 41 (by decide)
      have q3_1_7 : h3.1 1 7 = h.1 1 7 := g3.1 1 7 (by decide)
      have q3_66_3 : h3.1 66 3 = h.1 66 3 := g3.1 66 3 (by decide)
      have q3_66_9 : h3.1 66 9 = h.1 66 9 := g3.1 66 9 (by decide)
      have q3_66_10 : h3.1 66 10 = h.1 66 10 := g3.1 66 10 (by decide)
      have q3_1_8 : h3.1 1 8 = h.1 1 8 := g3.1 1 8 (by decide)
      have q3_66_11 : h3.1 66 11 = h.1 66 11 := g3.1 66 11 (by decide)
      have q3_66_12 : h3.1 66 12 = h.1 66 12 := g3.1 66 12 (by decide)
      have q3_66_67 : h3.1 66 67 = h.1 66 67 := g3.1 66 67 (by decide)
      have q3_66_68 : h3.1 66 68 = h.1 66 68 := g3.1 66 68 (by decide)
      have q3_30_13 : h3.1 30 13 = h.1 30 13 := g3.1 30 13 (by decide)
      have q3_66_91 : h3.1 66 91 = h.1 66 91 := g3.1 66 91 (by decide)
      have q3_42_3 : h3.1 42 3 = h.1 42 3 := g3.1 42 3 (by decide)
      rw [show mm_aA i h = 200 + i.toNat from by unfold mm_aA; rw [hz]; rfl, show mm_bB i h = 90000 + 6 * i.toNat from by unfold mm_bB; rw [hz]; rfl]
      have zl := mm_zf_le h3
      refine mm_istoreL (ls2 := [mR 3000, mR 0, mR 66, mR 124, mI i, mI r3, mU, mU]) C (mm_dec dk_law16 29 rfl) (by decide) rfl ?_
      refine mm_aload_n C (mm_dec dk_law16 30 rfl) rfl ?_
      refine mm_aload_n C (mm_dec dk_law16 31 rfl) rfl ?_
      refine mm_iload C (mm_dec dk_law16 32 rfl) rfl ?_
      refine mm_iconst C (mm_dec dk_law16 33 rfl) ⟨by decide, by decide⟩ ?_
      refine mm_iadd C (mm_dec dk_law16 34 rfl) ⟨by omega, by omega⟩ ?_
      refine mm_sld C X (mm_dec dk_law16 35 rfl) (by omega) (by omega) ?_
      refine mm_aload_n C (mm_dec dk_law16 36 rfl) rfl ?_
      refine mm_iload C (mm_dec dk_law16 37 rfl) rfl ?_
      refine mm_iconst C (mm_dec dk_law16 38 rfl) ⟨by decide, by decide⟩ ?_
      refine mm_iadd C (mm_dec dk_law16 39 rfl) ⟨by omega, by omega⟩ ?_
      refine mm_sld C X (mm_dec dk_law16 40 rfl) (by omega) (by omega) ?_
      refine mm_cVi (d := 59) (rest := []) C ev_L_209 (mm_dec dk_law16 41 rfl) (c_X12_best x.2.1 hl 59 (by decide) h3 i3 (mm_sc xs (i + 1)) (mm_sc xs (i + 2))) rfl rfl (Nat.le_of_ble_eq_true rfl) ⟨by omega, by omega⟩ rfl (fun r31 h31 hp31 => ?_) (fun _ _ q => q.elim)
      obtain ⟨b31, i31, g31⟩ := hp31
      have q31_1_5 : h31.1 1 5 = h3.1 1 5 := g31.1 1 5 (by decide)
      have q31_66_1 : h31.1 66 1 = h3.1 66 1 := g31.1 66 1 (by decide)
      have q31_1_6 : h31.1 1 6 = h3.1 1 6 := g31.1 1 6 (by decide)
      have q31_66_2 : h31.1 66 2 = h3.1 66 2 := g31.1 66 2 (by decide)
      have q31_14_8 : h31.1 14 8 = h3.1 14 8 := g31.1 14 8 (by decide)
      have q31_66_22 : h31.1 66 22 = h3.1 66 22 := g31.1 66 22 (by decide)
      have q31_22_8 : h31.1 22 8 = h3.1 22 8 := g31.1 22 8 (by decide)
      have q31_66_23 : h31.1 66 23 = h3.1 66 23 := g31.1 66 23 (by decide)
      have q31_14_7 : h31.1 14 7 = h3.1 14 7 := g31.1 14 7 (by decide)
      have q31_66_21 : h31.1 66 21 = h3.1 66 21 := g31.1 66 21 (by decide)
      have q31_22_9 : h31.1 22 9 = h3.1 22 9 := g31.1 22 9 (by decide)
      have q31_66_24 : h31.1 66 24 = h3.1 66 24 := g31.1 66 24 (by decide)
      have q31_0_12 : h31.1 0 12 = h3.1 0 12 := g31.1 0 12 (by decide)
      have q31_66_56 : h31.1 66 56 = h3.1 66 56 := g31.1 66 56 (by decide)
      have q31_0_14 : h31.1 0 14 = h3.1 0 14 := g31.1 0 14 (by decide)
      have q31_66_58 : h31.1 66 58 = h3.1 66 58 := g31.1 66 58 (by decide)
      have q31_30_6 : h31.1 30 6 = h3.1 30 6 := g31.1 30 6 (by decide)
      have q31_66_40 : h31.1 66 40 = h3.1 66 40 := g31.1 66 40 (by decide)
      have q31_30_12 : h31.1 30 12 = h3.1 30 12 := g31.1 30 12 (by decide)
      have q31_66_82 : h31.1 66 82 = h3.1 66 82 := g31.1 66 82 (by decide)
      have q31_0_13 : h31.1 0 13 = h3.1 0 13 := g31.1 0 13 (by decide)
      have q31_66_41 : h31.1 66 41 = h3.1 66 41 := g31.1 66 41 (by decide)
      have q31_1_7 : h31.1 1 7 = h3.1 1 7 := g31.1 1 7 (by decide)
      have q31_66_3 : h31.1 66 3 = h3.1 66 3 := g31.1 66 3 (by decide)
      have q31_66_9 : h31.1 66 9 = h3.1 66 9 := g31.1 66 9 (by decide)
      have q31_66_10 : h31.1 66 10 = h3.1 66 10 := g31.1 66 10 (by decide)
      have q31_1_8 : h31.1 1 8 = h3.1 1 8 := g31.1 1 8 (by decide)
      have q31_66_11 : h31.1 66 11 = h3.1 66 11 := g31.1 66 11 (by decide)
      have q31_66_12 : h31.1 66 12 = h3.1 66 12 := g31.1 66 12 (by decide)
      have q31_66_67 : h31.1 66 67 = h3.1 66 67 := g31.1 66 67 (by decide)
      have q31_66_68 : h31.1 66 68 = h3.1 66 68 := g31.1 66 68 (by decide)
      have q31_30_13 : h31.1 30 13 = h3.1 30 13 := g31.1 30 13 (by decide)
      have q31_66_91 : h31.1 66 91 = h3.1 66 91 := g31.1 66 91 (by decide)
      have q31_42_3 : h31.1 42 3 = h3.1 42 3 := g31.1 42 3 (by decide)
      have qa31 : h31.2.1 124 0 = h3.2.1 124 0 := g31.2 124 (by decide) 0
      refine mm_istoreL (ls2 := [mR 3000, mR 0, mR 66, mR 124, mI i, mI r3, mI r31, mU]) C (mm_dec dk_law16 42 rfl) (by decide) rfl ?_
      refine mm_goto (tgt := 1668) C (mm_dec dk_law16 43 rfl) (by decide) ?_
      refine mm_fgt 5 ?_
      refine mm_fgt 6 ?_
      have ze := mm_zf_eq (show h31.1 58 5 = h3.1 58 5 from (g31.1 58 5 (by decide)).trans (rfl))
      refine mm_widen (k := mm_aA (i + 6) h31) (n := mm_bB (i + 6) h31) (by rw [show mm_aA (i + 6) h31 = 200 + (i + 6).toNat + (mm_zf h3).1 from by unfold mm_aA; rw [ze]]; omega) (by rw [show mm_bB (i + 6) h31 = 90000 + 6 * (i + 6).toNat + (mm_zf h3).2 from by unfold mm_bB; rw [ze]]; omega) ?_
      exact K h31 i31 (mm_RO_fr (mm_RO_fr (r0) g3 (by decide)) g31 (by decide)) (by unfold mm_Rl; exact ⟨by omega, by omega, by omega, by omega, by omega, by omega, by omega, by omega, by omega, by omega, by omega, by omega, by omega, mm_eq_fr (mm_eq_fr (ra0) g3 (by decide) (by decide)) g31 (by decide) (by decide), mm_eq_fr (mm_eq_fr (ra1) g3 (by decide) (by decide)) g31 (by decide) (by decide), mm_eq_le (mm_eq_fr (mm_eq_fr (ra2) g3 (by decide) (by decide)) g31 (by decide) (by decide)) (by omega), mm_eq_le (mm_eq_fr (mm_eq_fr (ra3) g3 (by decide) (by decide)) g31 (by decide) (by decide)) (by omega), mm_eq_le (mm_eq_fr (mm_eq_fr (ra4) g3 (by decide) (by decide)) g31 (by decide) (by decide)) (by omega), mm_eq_le (mm_eq_fr (mm_eq_fr (ra5) g3 (by decide) (by decide)) g31 (by decide) (by decide)) (by omega), mm_tk_sm (mm_tk_sm (ra6) (fun j => g3.2 18 (by decide) j) (fun j => g3.2 85 (by decide) j) (by omega) (by omega)) (fun j => g31.2 18 (by decide) j) (fun j => g31.2 85 (by decide) j) (by omega) (by omega), mm_cb_sm (mm_cb_sm (ra7) (fun j => g3.2 85 (by decide) j) (by omega) (by omega)) (fun j => g31.2 85 (by decide) j) (by omega) (by omega), mm_fb_sm (mm_fb_sm (ra8) (fun j => g3.2 20 (by decide) j) (by omega)) (fun j => g31.2 20 (by decide) j) (by omega), mm_eq_fr (mm_eq_fr (ra9) g3 (by decide) (by decide)) g31 (by decide) (by decide), mm_eq_fr (mm_eq_fr (ra10) g3 (by decide) (by decide)) g31 (by decide) (by decide), mm_eq_fr (mm_eq_fr (ra11) g3 (by decide) (by decide)) g31 (by decide) (by decide), mm_eq_le (mm_eq_fr (mm_eq_fr (ra12) g3 (by decide) (by decide)) g31 (by decide) (by decide)) (by omega), mm_go_sm (mm_go_sm (ra13) (fun j => g3.2 6 (by decide) j) (by omega) (by omega) (by omega) (by omega) (by omega) (by omega)) (fun j => g31.2 6 (by decide) j) (by omega) (by omega) (by omega) (by omega) (by omega) (by omega), mm_eq_le (mm_eq_fr (mm_eq_fr (ra14) g3 (by decide) (by decide)) g31 (by decide) (by decide)) (by omega), mm_eq_le (mm_eq_fr (mm_eq_fr (ra15) g3 (by decide) (by decide)) g31 (by decide) (by decide)) (by omega), mm_it_sm (mm_it_sm (ra16) (fun j => g3.2 28 (by decide) j) (fun j => g3.2 88 (by decide) j) (by omega)) (fun j => g31.2 28 (by decide) j) (fun j => g31.2 88 (by decide) j) (by omega), mm_br_sm (mm_br_sm (ra17) (fun j => g3.2 21 (by decide) j) (fun j => g3.2 82 (by decide) j) (fun j => g3.2 84 (by decide) j) (fun j => g3.2 19 (by decide) j) (by omega)) (fun j => g31.2 21 (by decide) j) (fun j => g31.2 82 (by decide) j) (fun j => g31.2 84 (by decide) j) (fun j => g31.2 19 (by decide) j) (by omega), mm_gn_sm (mm_gn_sm (ra18)  (by omega) (by omega) (by omega) (by omega) (by omega))  (by omega) (by omega) (by omega) (by omega) (by omega), mm_pc_sm (mm_pc_sm (ra19) (fun j => g3.2 15 (by decide) j) (by omega) (by omega) (by omega)) (fun j => g31.2 15 (by decide) j) (by omega) (by omega) (by omega), mm_bv_sm (mm_bv_sm (ra20) (fun j => g3.2 21 (by decide) j) (fun j => g3.2 19 (by decide) j) (by omega) (by omega)) (fun j => g31.2 21 (by decide) j) (fun j => g31.2 19 (by decide) j) (by omega) (by omega), mm_eq_le (mm_eq_fr (mm_eq_fr (ra21) g3 (by decide) (by decide)) g31 (by decide) (by decide)) (by omega), mm_eq_le (mm_eq_fr (mm_eq_fr (ra22) g3 (by decide) (by decide)) g31 (by decide) (by decide)) (by omega), mm_eq_le (mm_eq_fr (mm_eq_fr (ra23) g3 (by decide) (by decide)) g31 (by decide) (by decide)) (by omega), mm_eq_le (mm_eq_fr (mm_eq_fr (ra24) g3 (by decide) (by decide)) g31 (by decide) (by decide)) (by omega), mm_eq_le (mm_eq_fr (mm_eq_fr (ra25) g3 (by decide) (by decide)) g31 (by decide) (by decide)) (by omega), mm_eq_le (mm_eq_fr (mm_eq_fr (ra26) g3 (by decide) (by decide)) g31 (by decide) (by decide)) (by omega), mm_ah_sm (mm_ah_sm (ra27) (fun j => g3.2 27 (by decide) j) (fun j => g3.2 88 (by decide) j) (fun j => g3.2 89 (by decide) j) (by omega)) (fun j => g31.2 27 (by decide) j) (fun j => g31.2 88 (by decide) j) (fun j => g31.2 89 (by decide) j) (by omega), mm_pw9_sm (mm_pw9_sm (ra28) (fun j => g3.2 44 (by decide) j) (fun j => g3.2 102 (by decide) j) (by omega) (by omega)) (fun j => g31.2 44 (by decide) j) (fun j => g31.2 102 (by decide) j) (by omega) (by omega), mm_eq_le (mm_eq_fr (mm_eq_fr (ra29) g3 (by decide) (by decide)) g31 (by decide) (by decide)) (by omega), mm_ep8_sm (mm_ep8_sm (ra30) (fun j => g3.2 31 (by decide) j) (fun j => g3.2 33 (by decide) j) (fun j => g3.2 94 (by decide) j) (by omega)) (fun j => g31.2 31 (by decide) j) (fun j => g31.2 33 (by decide) j) (fun j => g31.2 94 (by decide) j) (by omega), mm_ab8_sm (mm_ab8_sm (ra31) (fun j => g3.2 27 (by decide) j) (fun j => g3.2 88 (by decide) j) (fun j => g3.2 89 (by decide) j) (fun j => g3.2 90 (by decide) j) (by omega) (by omega)) (fun j => g31.2 27 (by decide) j) (fun j => g31.2 88 (by decide) j) (fun j => g31.2 89 (by decide) j) (fun j => g31.2 90 (by decide) j) (by omega) (by omega), mm_eq_le (mm_eq_fr (mm_eq_fr (ra32) g3 (by decide) (by decide)) g31 (by decide) (by decide)) (by omega), mm_cJ_sm (mm_cJ_sm (ra33) (fun j => g3.2 43 (by decide) j) (fun j => g3.2 103 (by decide) j) (fun j => g3.2 104 (by decide) j) (fun j => g3.2 105 (by decide) j) (fun j => g3.2 106 (by decide) j) (fun j => g3.2 107 (by decide) j) (by omega) (by omega) (by omega)) (fun j => g31.2 43 (by decide) j) (fun j => g31.2 103 (by decide) j) (fun j => g31.2 104 (by decide) j) (fun j => g31.2 105 (by decide) j) (fun j => g31.2 106 (by decide) j) (fun j => g31.2 107 (by decide) j) (by omega) (by omega) (by omega), mm_pt9_sm (mm_pt9_sm (ra34) (fun j => g3.2 37 (by decide) j) (fun j => g3.2 38 (by decide) j) (fun j => g3.2 39 (by decide) j) (fun j => g3.2 40 (by decide) j) (fun j => g3.2 41 (by decide) j) (fun j => g3.2 112 (by decide) j) (fun j => g3.2 114 (by decide) j) (fun j => g3.2 115 (by decide) j) (fun j => g3.2 116 (by decide) j) (by omega) (by omega) (by omega)) (fun j => g31.2 37 (by decide) j) (fun j => g31.2 38 (by decide) j) (fun j => g31.2 39 (by decide) j) (fun j => g31.2 40 (by decide) j) (fun j => g31.2 41 (by decide) j) (fun j => g31.2 112 (by decide) j) (fun j => g31.2 114 (by decide) j) (fun j => g31.2 115 (by decide) j) (fun j => g31.2 116 (by decide) j) (by omega) (by omega) (by omega), mm_tm9_sm (mm_tm9_sm (ra35) (fun j => g3.2 29 (by decide) j) (fun j => g3.2 90 (by decide) j) (by omega) (by omega)) (fun j => g31.2 29 (by decide) j) (fun j => g31.2 90 (by decide) j) (by omega) (by omega)⟩)
set_option maxRecDepth 100000 in
set_option maxHeartbeats 4000000 in
theorem lw_c27 {x : mX} {L : Nat} {xs : Nat → Int32} (C : mm_OK 60 601024 7293034 code RL 8 ret x) (X : mm_scr x L xs) (hl : x.2.1.stackTraces = false) (hL : L ≤ 3072) (i : Int) (hi : 0 ≤ i ∧ i + 6 ≤ L) (h : mH) (i0 : mm_inv h) (r0 : mm_RO h) (rl0 : mm_Rl i h) (K : mm_K x i) : mm_W x (mm_aA i h) (mm_bB i h) 1544 (mm_lls i) [] h := by
  have zl := mm_zf_le h
  have ea : mm_aA i h = 200 + i.toNat + (mm_zf h).1 := rfl
  have eb : mm_bB i h = 90000 + 6 * i.toNat + (mm_zf h).2 := rfl
  obtain ⟨rs0, rs1, rs2, rs3, rs4, rs5, rs6, rs7, rs8, rs9, rs10, rs11, rs12, ra0, ra1, ra2, ra3, ra4, ra5, ra6, ra7, ra8, ra9, ra10, ra11, ra12, ra13, ra14, ra15, ra16, ra17, ra18, ra19, ra20, ra21, ra22, ra23, ra24, ra25, ra26, ra27, ra28, ra29, ra30, ra31, ra32, ra33, ra34, ra35⟩ := rl0
  refine mm_aload_n C (mm_dec dk_law16 44 rfl) rfl ?_
  refine mm_aload_n C (mm_dec dk_law16 45 rfl) rfl ?_
  refine mm_iload C (mm_dec dk_law16 46 rfl) rfl ?_
  refine mm_iconst C (mm_dec dk_law16 47 rfl) ⟨by decide, by decide⟩ ?_
  refine mm_iadd C (mm_dec dk_law16 48 rfl) ⟨by omega, by omega⟩ ?_
  refine mm_sld C X (mm_dec dk_law16 49 rfl) (by omega) (by omega) ?_
  refine mm_aload_n C (mm_dec dk_law16 50 rfl) rfl ?_
  refine mm_cHi (d := 59) (rest := []) C mh_L_bestOf ml_L_210 sm_L_bestOf (mm_dec dk_law16 51 rfl) (c_L_bestOf x.2.1 hl 59 (by decide) h i0 (mm_sc xs (i + 1))) rfl (Nat.le_of_ble_eq_true rfl) ⟨by omega, by omega⟩ rfl (fun r1 h1 hp1 => ?_)
  obtain ⟨b1, i1, g1⟩ := hp1
  have q1_1_5 : h1.1 1 5 = h.1 1 5 := g1.1 1 5 (by decide)
  have q1_66_1 : h1.1 66 1 = h.1 66 1 := g1.1 66 1 (by decide)
  have q1_1_6 : h1.1 1 6 = h.1 1 6 := g1.1 1 6 (by decide)
  have q1_66_2 : h1.1 66 2 = h.1 66 2 := g1.1 66 2 (by decide)
  have q1_14_8 : h1.1 14 8 = h.1 14 8 := g1.1 14 8 (by decide)
  have q1_66_22 : h1.1 66 22 = h.1 66 22 := g1.1 66 22 (by decide)
  have q1_22_8 : h1.1 22 8 = h.1 22 8 := g1.1 22 8 (by decide)
  have q1_66_23 : h1.1 66 23 = h.1 66 23 := g1.1 66 23 (by decide)
  have q1_14_7 : h1.1 14 7 = h.1 14 7 := g1.1 14 7 (by decide)
  have q1_66_21 : h1.1 66 21 = h.1 66 21 := g1.1 66 21 (by decide)
  have q1_22_9 : h1.1 22 9 = h.1 22 9 := g1.1 22 9 (by decide)
  have q1_66_24 : h1.1 66 24 = h.1 66 24 := g1.1 66 24 (by decide)
  have q1_0_12 : h1.1 0 12 = h.1 0 12 := g1.1 0 12 (by decide)
  have q1_66_56 : h1.1 66 56 = h.1 66 56 := g1.1 66 56 (by decide)
  have q1_0_14 : h1.1 0 14 = h.1 0 14 := g1.1 0 14 (by decide)
  have q1_66_58 : h1.1 66 58 = h.1 66 58 := g1.1 66 58 (by decide)
  have q1_30_6 : h1.1 30 6 = h.1 30 6 := g1.1 30 6 (by decide)
  have q1_66_40 : h1.1 66 40 = h.1 66 40 := g1.1 66 40 (by decide)
  have q1_30_12 : h1.1 30 12 = h.1 30 12 := g1.1 30 12 (by decide)
  have q1_66_82 : h1.1 66 82 = h.1 66 82 := g1.1 66 82 (by decide)
  have q1_0_13 : h1.1 0 13 = h.1 0 13 := g1.1 0 13 (by decide)
  have q1_66_41 : h1.1 66 41 = h.1 66 41 := g1.1 66 41 (by decide)
  have q1_1_7 : h1.1 1 7 = h.1 1 7 := g1.1 1 7 (by decide)
  have q1_66_3 : h1.1 66 3 = h.1 66 3 := g1.1 66 3 (by decide)
  have q1_66_9 : h1.1 66 9 = h.1 66 9 := g1.1 66 9 (by decide)
  have q1_66_10 : h1.1 66 10 = h.1 66 10 := g1.1 66 10 (by decide)
  have q1_1_8 : h1.1 1 8 = h.1 1 8 := g1.1 1 8 (by decide)
  have q1_66_11 : h1.1 66 11 = h.1 66 11 := g1.1 66 11 (by decide)
  have q1_66_12 : h1.1 66 12 = h.1 66 12 := g1.1 66 12 (by decide)
  have q1_66_67 : h1.1 66 67 = h.1 66 67 := g1.1 66 67 (by decide)
  have q1_66_68 : h1.1 66 68 = h.1 66 68 := g1.1 66 68 (by decide)
  have q1_30_13 : h1.1 30 13 = h.1 30 13 := g1.1 30 13 (by decide)
  have q1_66_91 : h1.1 66 91 = h.1 66 91 := g1.1 66 91 (by decide)
  have q1_42_3 : h1.1 42 3 = h.1 42 3 := g1.1 42 3 (by decide)
  refine mm_istoreL (ls2 := [mR 3000, mR 0, mR 66, mR 124, mI i, mI r1, mU, mU]) C (mm_dec dk_law16 52 rfl) (by decide) rfl ?_
  refine mm_aload_n C (mm_dec dk_law16 53 rfl) rfl ?_
  refine mm_aload_n C (mm_dec dk_law16 54 rfl) rfl ?_
  refine mm_iload C (mm_dec dk_law16 55 rfl) rfl ?_
  refine mm_iconst C (mm_dec dk_law16 56 rfl) ⟨by decide, by decide⟩ ?_
  refine mm_iadd C (mm_dec dk_law16 57 rfl) ⟨by omega, by omega⟩ ?_
  refine mm_sld C X (mm_dec dk_law16 58 rfl) (by omega) (by omega) ?_
  refine mm_cVi (d := 59) (rest := []) C ev_L_212 (mm_dec dk_law16 59 rfl) (c_X12_bestOf x.2.1 hl 59 (by decide) h1 i1 (mm_sc xs (i + 1))) rfl rfl (Nat.le_of_ble_eq_true rfl) ⟨by omega, by omega⟩ rfl (fun r2 h2 hp2 => ?_) (fun _ _ q => q.elim)
  obtain ⟨b2, i2, g2⟩ := hp2
  have q2_1_5 : h2.1 1 5 = h1.1 1 5 := g2.1 1 5 (by decide)
  have q2_66_1 : h2.1 66 1 = h1.1 66 1 := g2.1 66 1 (by decide)
  have q2_1_6 : h2.1 1 6 = h1.1 1 6 := g2.1 1 6 (by decide)
  have q2_66_2 : h2.1 66 2 = h1.1 66 2 := g2.1 66 2 (by decide)
  have q2_14_8 : h2.1 14 8 = h1.1 14 8 := g2.1 14 8 (by decide)
  have q2_66_22 : h2.1 66 22 = h1.1 66 22 := g2.1 66 22 (by decide)
  have q2_22_8 : h2.1 22 8 = h1.1 22 8 := g2.1 22 8 (by decide)
  have q2_66_23 : h2.1 66 23 = h1.1 66 23 := g2.1 66 23 (by decide)
  have q2_14_7 : h2.1 14 7 = h1.1 14 7 := g2.1 14 7 (by decide)
  have q2_66_21 : h2.1 66 21 = h1.1 66 21 := g2.1 66 21 (by decide)
  have q2_22_9 : h2.1 22 9 = h1.1 22 9 := g2.1 22 9 (by decide)
  have q2_66_24 : h2.1 66 24 = h1.1 66 24 := g2.1 66 24 (by decide)
  have q2_0_12 : h2.1 0 12 = h1.1 0 12 := g2.1 0 12 (by decide)
  have q2_66_56 : h2.1 66 56 = h1.1 66 56 := g2.1 66 56 (by decide)
  have q2_0_14 : h2.1 0 14 = h1.1 0 14 := g2.1 0 14 (by decide)
  have q2_66_58 : h2.1 66 58 = h1.1 66 58 := g2.1 66 58 (by decide)
  have q2_30_6 : h2.1 30 6 = h1.1 30 6 := g2.1 30 6 (by decide)
  have q2_66_40 : h2.1 66 40 = h1.1 66 40 := g2.1 66 40 (by decide)
  have q2_30_12 : h2.1 30 12 = h1.1 30 12 := g2.1 30 12 (by decide)
  have q2_66_82 : h2.1 66 82 = h1.1 66 82 := g2.1 66 82 (by decide)
  have q2_0_13 : h2.1 0 13 = h1.1 0 13 := g2.1 0 13 (by decide)
  have q2_66_41 : h2.1 66 41 = h1.1 66 41 := g2.1 66 41 (by decide)
  have q2_1_7 : h2.1 1 7 = h1.1 1 7 := g2.1 1 7 (by decide)
  have q2_66_3 : h2.1 66 3 = h1.1 66 3 := g2.1 66 3 (by decide)
  have q2_66_9 : h2.1 66 9 = h1.1 66 9 := g2.1 66 9 (by decide)
  have q2_66_10 : h2.1 66 10 = h1.1 66 10 := g2.1 66 10 (by decide)
  have q2_1_8 : h2.1 1 8 = h1.1 1 8 := g2.1 1 8 (by decide)
  have q2_66_11 : h2.1 66 11 = h1.1 66 11 := g2.1 66 11 (by decide)
  have q2_66_12 : h2.1 66 12 = h1.1 66 12 := g2.1 66 12 (by decide)
  have q2_66_67 : h2.1 66 67 = h1.1 66 67 := g2.1 66 67 (by decide)
  have q2_66_68 : h2.1 66 68 = h1.1 66 68 := g2.1 66 68 (by decide)
  have q2_30_13 : h2.1 30 13 = h1.1 30 13 := g2.1 30 13 (by decide)
  have q2_66_91 : h2.1 66 91 = h1.1 66 91 := g2.1 66 91 (by decide)
  have q2_42_3 : h2.1 42 3 = h1.1 42 3 := g2.1 42 3 (by decide)
  have qa2 : h2.2.1 124 0 = h1.2.1 124 0 := g2.2 124 (by decide) 0
  refine mm_istoreL (ls2 := [mR 3000, mR 0, mR 66, mR 124, mI i, mI r1, mI r2, mU]) C (mm_dec dk_law17 0 rfl) (by decide) rfl ?_
  refine mm_goto (tgt := 1668) C (mm_dec dk_law17 1 rfl) (by decide) ?_
  refine mm_fgt 5 ?_
  refine mm_fgt 6 ?_
  have ze := mm_zf_eq (show h2.1 58 5 = h.1 58 5 from (g2.1 58 5 (by decide)).trans ((g1.1 58 5 (by decide)).trans (rfl)))
  refine mm_widen (k := mm_aA (i + 6) h2) (n := mm_bB (i + 6) h2) (by rw [show mm_aA (i + 6) h2 = 200 + (i + 6).toNat + (mm_zf h).1 from by unfold mm_aA; rw [ze]]; omega) (by rw [show mm_bB (i + 6) h2 = 90000 + 6 * (i + 6).toNat + (mm_zf h).2 from by unfold mm_bB; rw [ze]]; omega) ?_
  exact K h2 i2 (mm_RO_fr (mm_RO_fr (r0) g1 (by decide)) g2 (by decide)) (by unfold mm_Rl; exact ⟨by omega, by omega, by omega, by omega, by omega, by omega, by omega, by omega, by omega, by omega, by omega, by omega, by omega, mm_eq_fr (mm_eq_fr (ra0) g1 (by decide) (by decide)) g2 (by decide) (by decide), mm_eq_fr (mm_eq_fr (ra1) g1 (by decide) (by decide)) g2 (by decide) (by decide), mm_eq_le (mm_eq_fr (mm_eq_fr (ra2) g1 (by decide) (by decide)) g2 (by decide) (by decide)) (by omega), mm_eq_le (mm_eq_fr (mm_eq_fr (ra3) g1 (by decide) (by decide)) g2 (by decide) (by decide)) (by omega), mm_eq_le (mm_eq_fr (mm_eq_fr (ra4) g1 (by decide) (by decide)) g2 (by decide) (by decide)) (by omega), mm_eq_le (mm_eq_fr (mm_eq_fr (ra5) g1 (by decide) (by decide)) g2 (by decide) (by decide)) (by omega), mm_tk_sm (mm_tk_sm (ra6) (fun j => g1.2 18 (by decide) j) (fun j => g1.2 85 (by decide) j) (by omega) (by omega)) (fun j => g2.2 18 (by decide) j) (fun j => g2.2 85 (by decide) j) (by omega) (by omega), mm_cb_sm (mm_cb_sm (ra7) (fun j => g1.2 85 (by decide) j) (by omega) (by omega)) (fun j => g2.2 85 (by decide) j) (by omega) (by omega), mm_fb_sm (mm_fb_sm (ra8) (fun j => g1.2 20 (by decide) j) (by omega)) (fun j => g2.2 20 (by decide) j) (by omega), mm_eq_fr (mm_eq_fr (ra9) g1 (by decide) (by decide)) g2 (by decide) (by decide), mm_eq_fr (mm_eq_fr (ra10) g1 (by decide) (by decide)) g2 (by decide) (by decide), mm_eq_fr (mm_eq_fr (ra11) g1 (by decide) (by decide)) g2 (by decide) (by decide), mm_eq_le (mm_eq_fr (mm_eq_fr (ra12) g1 (by decide) (by decide)) g2 (by decide) (by decide)) (by omega), mm_go_sm (mm_go_sm (ra13) (fun j => g1.2 6 (by decide) j) (by omega) (by omega) (by omega) (by omega) (by omega) (by omega)) (fun j => g2.2 6 (by decide) j) (by omega) (by omega) (by omega) (by omega) (by omega) (by omega), mm_eq_le (mm_eq_fr (mm_eq_fr (ra14) g1 (by decide) (by decide)) g2 (by decide) (by decide)) (by omega), mm_eq_le (mm_eq_fr (mm_eq_fr (ra15) g1 (by decide) (by decide)) g2 (by decide) (by decide)) (by omega), mm_it_sm (mm_it_sm (ra16) (fun j => g1.2 28 (by decide) j) (fun j => g1.2 88 (by decide) j) (by omega)) (fun j => g2.2 28 (by decide) j) (fun j => g2.2 88 (by decide) j) (by omega), mm_br_sm (mm_br_sm (ra17) (fun j => g1.2 21 (by decide) j) (fun j => g1.2 82 (by decide) j) (fun j => g1.2 84 (by decide) j) (fun j => g1.2 19 (by decide) j) (by omega)) (fun j => g2.2 21 (by decide) j) (fun j => g2.2 82 (by decide) j) (fun j => g2.2 84 (by decide) j) (fun j => g2.2 19 (by decide) j) (by omega), mm_gn_sm (mm_gn_sm (ra18)  (by omega) (by omega) (by omega) (by omega) (by omega))  (by omega) (by omega) (by omega) (by omega) (by omega), mm_pc_sm (mm_pc_sm (ra19) (fun j => g1.2 15 (by decide) j) (by omega) (by omega) (by omega)) (fun j => g2.2 15 (by decide) j) (by omega) (by omega) (by omega), mm_bv_sm (mm_bv_sm (ra20) (fun j => g1.2 21 (by decide) j) (fun j => g1.2 19 (by decide) j) (by omega) (by omega)) (fun j => g2.2 21 (by decide) j) (fun j => g2.2 19 (by decide) j) (by omega) (by omega), mm_eq_le (mm_eq_fr (mm_eq_fr (ra21) g1 (by decide) (by decide)) g2 (by decide) (by decide)) (by omega), mm_eq_le (mm_eq_fr (mm_eq_fr (ra22) g1 (by decide) (by decide)) g2 (by decide) (by decide)) (by omega), mm_eq_le (mm_eq_fr (mm_eq_fr (ra23) g1 (by decide) (by decide)) g2 (by decide) (by decide)) (by omega), mm_eq_le (mm_eq_fr (mm_eq_fr (ra24) g1 (by decide) (by decide)) g2 (by decide) (by decide)) (by omega), mm_eq_le (mm_eq_fr (mm_eq_fr (ra25) g1 (by decide) (by decide)) g2 (by decide) (by decide)) (by omega), mm_eq_le (mm_eq_fr (mm_eq_fr (ra26) g1 (by decide) (by decide)) g2 (by decide) (by decide)) (by omega), mm_ah_sm (mm_ah_sm (ra27) (fun j => g1.2 27 (by decide) j) (fun j => g1.2 88 (by decide) j) (fun j => g1.2 89 (by decide) j) (by omega)) (fun j => g2.2 27 (by decide) j) (fun j => g2.2 88 (by decide) j) (fun j => g2.2 89 (by decide) j) (by omega), mm_pw9_sm (mm_pw9_sm (ra28) (fun j => g1.2 44 (by decide) j) (fun j => g1.2 102 (by decide) j) (by omega) (by omega)) (fun j => g2.2 44 (by decide) j) (fun j => g2.2 102 (by decide) j) (by omega) (by omega), mm_eq_le (mm_eq_fr (mm_eq_fr (ra29) g1 (by decide) (by decide)) g2 (by decide) (by decide)) (by omega), mm_ep8_sm (mm_ep8_sm (ra30) (fun j => g1.2 31 (by decide) j) (fun j => g1.2 33 (by decide) j) (fun j => g1.2 94 (by decide) j) (by omega)) (fun j => g2.2 31 (by decide) j) (fun j => g2.2 33 (by decide) j) (fun j => g2.2 94 (by decide) j) (by omega), mm_ab8_sm (mm_ab8_sm (ra31) (fun j => g1.2 27 (by decide) j) (fun j => g1.2 88 (by decide) j) (fun j => g1.2 89 (by decide) j) (fun j => g1.2 90 (by decide) j) (by omega) (by omega)) (fun j => g2.2 27 (by decide) j) (fun j => g2.2 88 (by decide) j) (fun j => g2.2 89 (by decide) j) (fun j => g2.2 90 (by decide) j) (by omega) (by omega), mm_eq_le (mm_eq_fr (mm_eq_fr (ra32) g1 (by decide) (by decide)) g2 (by decide) (by decide)) (by omega), mm_cJ_sm (mm_cJ_sm (ra33) (fun j => g1.2 43 (by decide) j) (fun j => g1.2 103 (by decide) j) (fun j => g1.2 104 (by decide) j) (fun j => g1.2 105 (by decide) j) (fun j => g1.2 106 (by decide) j) (fun j => g1.2 107 (by decide) j) (by omega) (by omega) (by omega)) (fun j => g2.2 43 (by decide) j) (fun j => g2.2 103 (by decide) j) (fun j => g2.2 104 (by decide) j) (fun j => g2.2 105 (by decide) j) (fun j => g2.2 106 (by decide) j) (fun j => g2.2 107 (by decide) j) (by omega) (by omega) (by omega), mm_pt9_sm (mm_pt9_sm (ra34) (fun j => g1.2 37 (by decide) j) (fun j => g1.2 38 (by decide) j) (fun j => g1.2 39 (by decide) j) (fun j => g1.2 40 (by decide) j) (fun j => g1.2 41 (by decide) j) (fun j => g1.2 112 (by decide) j) (fun j => g1.2 114 (by decide) j) (fun j => g1.2 115 (by decide) j) (fun j => g1.2 116 (by decide) j) (by omega) (by omega) (by omega)) (fun j => g2.2 37 (by decide) j) (fun j => g2.2 38 (by decide) j) (fun j => g2.2 39 (by decide) j) (fun j => g2.2 40 (by decide) j) (fun j => g2.2 41 (by decide) j) (fun j => g2.2 112 (by decide) j) (fun j => g2.2 114 (by decide) j) (fun j => g2.2 115 (by decide) j) (fun j => g2.2 116 (by decide) j) (by omega) (by omega) (by omega), mm_tm9_sm (mm_tm9_sm (ra35) (fun j => g1.2 29 (by decide) j) (fun j => g1.2 90 (by decide) j) (by omega) (by omega)) (fun j => g2.2 29 (by decide) j) (fun j => g2.2 90 (by decide) j) (by omega) (by omega)⟩)
set_option maxRecDepth 100000 in
set_option maxHeartbeats 4000000 in
theorem lw_c28 {x : mX} {L : Nat} {xs : Nat → Int32} (C : mm_OK 60 601024 7293034 code RL 8 ret x) (X : mm_scr x L xs) (hl : x.2.1.stackTraces = false) (hL : L ≤ 3072) (i : Int) (hi : 0 ≤ i ∧ i + 6 ≤ L) (h : mH) (i0 : mm_inv h) (r0 : mm_RO h) (rl0 : mm_Rl i h) (K : mm_K x i) : mm_W x (mm_aA i h) (mm_bB i h) 1572 (mm_lls i) [] h := by
  have zl := mm_zf_le h
  have ea : mm_aA i h = 200 + i.toNat + (mm_zf h).1 := rfl
  have eb : mm_bB i h = 90000 + 6 * i.toNat + (mm_zf h).2 := rfl
  obtain ⟨rs0, rs1, rs2, rs3, rs4, rs5, rs6, rs7, rs8, rs9, rs10, rs11, rs12, ra0, ra1, ra2, ra3, ra4, ra5, ra6, ra7, ra8, ra9, ra10, ra11, ra12, ra13, ra14, ra15, ra16, ra17, ra18, ra19, ra20, ra21, ra22, ra23, ra24, ra25, ra26, ra27, ra28, ra29, ra30, ra31, ra32, ra33, ra34, ra35⟩ := rl0
  refine mm_aload_n C (mm_dec dk_law17 2 rfl) rfl ?_
  refine mm_aload_n C (mm_dec dk_law17 3 rfl) rfl ?_
  refine mm_iload C (mm_dec dk_law17 4 rfl) rfl ?_
  refine mm_iconst C (mm_dec dk_law17 5 rfl) ⟨by decide, by decide⟩ ?_
  refine mm_iadd C (mm_dec dk_law17 6 rfl) ⟨by omega, by omega⟩ ?_
  refine mm_sld C X (mm_dec dk_law17 7 rfl) (by omega) (by omega) ?_
  refine mm_aload_n C (mm_dec dk_law17 8 rfl) rfl ?_
  refine mm_iload C (mm_dec dk_law17 9 rfl) rfl ?_
  refine mm_iconst C (mm_dec dk_law17 10 rfl) ⟨by decide, by decide⟩ ?_
  refine mm_iadd C (mm_dec dk_law17 11 rfl) ⟨by omega, by omega⟩ ?_
  refine mm_sld C X (mm_dec dk_law17 12 rfl) (by omega) (by omega) ?_
  refine mm_aload_n C (mm_dec dk_law17 13 rfl) rfl ?_
  refine mm_cHi (d := 59) (rest := []) C mh_L_track ml_L_213 sm_L_track (mm_dec dk_law17 14 rfl) (c_L_track_q x.2.1 hl 59 (by decide) h i0 (mm_sc xs (i + 1)) (mm_sc xs (i + 2))) rfl (Nat.le_of_ble_eq_true rfl) ⟨by omega, by omega⟩ rfl (fun r1 h1 hp1 => ?_)
  obtain ⟨b1, i1, g1, y1_0, y1_1⟩ := hp1
  have q1_1_5 : h1.1 1 5 = h.1 1 5 := g1.1 1 5 (by decide)
  have q1_66_1 : h1.1 66 1 = h.1 66 1 := g1.1 66 1 (by decide)
  have q1_1_6 : h1.1 1 6 = h.1 1 6 := g1.1 1 6 (by decide)
  have q1_66_2 : h1.1 66 2 = h.1 66 2 := g1.1 66 2 (by decide)
  have q1_14_8 : h1.1 14 8 = h.1 14 8 := g1.1 14 8 (by decide)
  have q1_66_22 : h1.1 66 22 = h.1 66 22 := g1.1 66 22 (by decide)
  have q1_22_8 : h1.1 22 8 = h.1 22 8 := g1.1 22 8 (by decide)
  have q1_66_23 : h1.1 66 23 = h.1 66 23 := g1.1 66 23 (by decide)
  have q1_14_7 : h1.1 14 7 = h.1 14 7 := g1.1 14 7 (by decide)
  have q1_66_21 : h1.1 66 21 = h.1 66 21 := g1.1 66 21 (by decide)
  have q1_22_9 : h1.1 22 9 = h.1 22 9 := g1.1 22 9 (by decide)
  have q1_66_24 : h1.1 66 24 = h.1 66 24 := g1.1 66 24 (by decide)
  have q1_66_56 : h1.1 66 56 = h.1 66 56 := g1.1 66 56 (by decide)
  have q1_66_58 : h1.1 66 58 = h.1 66 58 := g1.1 66 58 (by decide)
  have q1_30_6 : h1.1 30 6 = h.1 30 6 := g1.1 30 6 (by decide)
  have q1_66_40 : h1.1 66 40 = h.1 66 40 := g1.1 66 40 (by decide)
  have q1_30_12 : h1.1 30 12 = h.1 30 12 := g1.1 30 12 (by decide)
  have q1_66_82 : h1.1 66 82 = h.1 66 82 := g1.1 66 82 (by decide)
  have q1_0_13 : h1.1 0 13 = h.1 0 13 := g1.1 0 13 (by decide)
  have q1_66_41 : h1.1 66 41 = h.1 66 41 := g1.1 66 41 (by decide)
  have q1_1_7 : h1.1 1 7 = h.1 1 7 := g1.1 1 7 (by decide)
  have q1_66_3 : h1.1 66 3 = h.1 66 3 := g1.1 66 3 (by decide)
  have q1_66_9 : h1.1 66 9 = h.1 66 9 := g1.1 66 9 (by decide)
  have q1_66_10 : h1.1 66 10 = h.1 66 10 := g1.1 66 10 (by decide)
  have q1_1_8 : h1.1 1 8 = h.1 1 8 := g1.1 1 8 (by decide)
  have q1_66_11 : h1.1 66 11 = h.1 66 11 := g1.1 66 11 (by decide)
  have q1_66_12 : h1.1 66 12 = h.1 66 12 := g1.1 66 12 (by decide)
  have q1_66_67 : h1.1 66 67 = h.1 66 67 := g1.1 66 67 (by decide)
  have q1_66_68 : h1.1 66 68 = h.1 66 68 := g1.1 66 68 (by decide)
  have q1_30_13 : h1.1 30 13 = h.1 30 13 := g1.1 30 13 (by decide)
  have q1_66_91 : h1.1 66 91 = h.1 66 91 := g1.1 66 91 (by decide)
  have q1_42_3 : h1.1 42 3 = h.1 42 3 := g1.1 42 3 (by decide)
  refine mm_istoreL (ls2 := [mR 3000, mR 0, mR 66, mR 124, mI i, mI r1, mU, mU]) C (mm_dec dk_law17 15 rfl) (by decide) rfl ?_
  refine mm_aload_n C (mm_dec dk_law17 16 rfl) rfl ?_
  refine mm_aload_n C (mm_dec dk_law17 17 rfl) rfl ?_
  refine mm_iload C (mm_dec dk_law17 18 rfl) rfl ?_
  refine mm_iconst C (mm_dec dk_law17 19 rfl) ⟨by decide, by decide⟩ ?_
  refine mm_iadd C (mm_dec dk_law17 20 rfl) ⟨by omega, by omega⟩ ?_
  refine mm_sld C X (mm_dec dk_law17 21 rfl) (by omega) (by omega) ?_
  refine mm_aload_n C (mm_dec dk_law17 22 rfl) rfl ?_
  refine mm_iload C (mm_dec dk_law17 23 rfl) rfl ?_
  refine mm_iconst C (mm_dec dk_law17 24 rfl) ⟨by decide, by decide⟩ ?_
  refine mm_iadd C (mm_dec dk_law17 25 rfl) ⟨by omega, by omega⟩ ?_
  refine mm_sld C X (mm_dec dk_law17 26 rfl) (by omega) (by omega) ?_
  refine mm_cVi (d := 59) (rest := []) C ev_L_215 (mm_dec dk_law17 27 rfl) (c_X12_track_q x.2.1 hl 59 (by decide) h1 i1 (mm_sc xs (i + 1)) (mm_sc xs (i + 2))) rfl rfl (Nat.le_of_ble_eq_true rfl) ⟨by omega, by omega⟩ rfl (fun r2 h2 hp2 => ?_) (fun _ _ q => q.elim)
  obtain ⟨b2, i2, g2, y2_0, y2_1⟩ := hp2
  have q2_1_5 : h2.1 1 5 = h1.1 1 5 := g2.1 1 5 (by decide)
  have q2_66_1 : h2.1 66 1 = h1.1 66 1 := g2.1 66 1 (by decide)
  have q2_1_6 : h2.1 1 6 = h1.1 1 6 := g2.1 1 6 (by decide)
  have q2_66_2 : h2.1 66 2 = h1.1 66 2 := g2.1 66 2 (by decide)
  have q2_14_8 : h2.1 14 8 = h1.1 14 8 := g2.1 14 8 (by decide)
  have q2_66_22 : h2.1 66 22 = h1.1 66 22 := g2.1 66 22 (by decide)
  have q2_22_8 : h2.1 22 8 = h1.1 22 8 := g2.1 22 8 (by decide)
  have q2_66_23 : h2.1 66 23 = h1.1 66 23 := g2.1 66 23 (by decide)
  have q2_14_7 : h2.1 14 7 = h1.1 14 7 := g2.1 14 7 (by decide)
  have q2_66_21 : h2.1 66 21 = h1.1 66 21 := g2.1 66 21 (by decide)
  have q2_22_9 : h2.1 22 9 = h1.1 22 9 := g2.1 22 9 (by decide)
  have q2_66_24 : h2.1 66 24 = h1.1 66 24 := g2.1 66 24 (by decide)
  have q2_0_12 : h2.1 0 12 = h1.1 0 12 := g2.1 0 12 (by decide)
  have q2_0_14 : h2.1 0 14 = h1.1 0 14 := g2.1 0 14 (by decide)
  have q2_30_6 : h2.1 30 6 = h1.1 30 6 := g2.1 30 6 (by decide)
  have q2_66_40 : h2.1 66 40 = h1.1 66 40 := g2.1 66 40 (by decide)
  have q2_30_12 : h2.1 30 12 = h1.1 30 12 := g2.1 30 12 (by decide)
  have q2_66_82 : h2.1 66 82 = h1.1 66 82 := g2.1 66 82 (by decide)
  have q2_0_13 : h2.1 0 13 = h1.1 0 13 := g2.1 0 13 (by decide)
  have q2_66_41 : h2.1 66 41 = h1.1 66 41 := g2.1 66 41 (by decide)
  have q2_1_7 : h2.1 1 7 = h1.1 1 7 := g2.1 1 7 (by decide)
  have q2_66_3 : h2.1 66 3 = h1.1 66 3 := g2.1 66 3 (by decide)
  have q2_66_9 : h2.1 66 9 = h1.1 66 9 := g2.1 66 9 (by decide)
  have q2_66_10 : h2.1 66 10 = h1.1 66 10 := g2.1 66 10 (by decide)
  have q2_1_8 : h2.1 1 8 = h1.1 1 8 := g2.1 1 8 (by decide)
  have q2_66_11 : h2.1 66 11 = h1.1 66 11 := g2.1 66 11 (by decide)
  have q2_66_12 : h2.1 66 12 = h1.1 66 12 := g2.1 66 12 (by decide)
  have q2_66_67 : h2.1 66 67 = h1.1 66 67 := g2.1 66 67 (by decide)
  have q2_66_68 : h2.1 66 68 = h1.1 66 68 := g2.1 66 68 (by decide)
  have q2_30_13 : h2.1 30 13 = h1.1 30 13 := g2.1 30 13 (by decide)
  have q2_66_91 : h2.1 66 91 = h1.1 66 91 := g2.1 66 91 (by decide)
  have q2_42_3 : h2.1 42 3 = h1.1 42 3 := g2.1 42 3 (by decide)
  have bw : 1 ≤ h.1 1 5 ∧ h.1 1 5 ≤ 20 := i0.1 1 5
  have bh : 1 ≤ h.1 1 6 ∧ h.1 1 6 ≤ 20 := i0.1 1 6
  have bx : 0 ≤ h.1 66 9 ∧ h.1 66 9 ≤ 19 := i0.1 66 9
  have by9 : 0 ≤ h.1 66 10 ∧ h.1 66 10 ≤ 19 := i0.1 66 10
  have eW : h.1 0 12 < (mm_sc xs (i + 2)) ∨ mm_wY h1 (mm_sc xs (i + 2)) = mm_wX h (mm_sc xs (i + 2)) := by
    by_cases q : h.1 0 12 < (mm_sc xs (i + 2))
    · exact Or.inl q
    · exact Or.inr ((mm_wY_fr (mm_sc xs (i + 2)) (g1.1 66 1 (by decide)) (g1.1 66 2 (by decide)) (g1.1 66 3 (by decide)) (g1.1 66 9 (by decide)) (g1.1 66 10 (by decide)) (g1.2 67 (by decide)) (g1.2 68 (by decide)) (g1.2 69 (by decide)) (g1.2 70 (by decide)) (g1.2 71 (by decide)) (g1.2 101 (by decide))).trans (mm_wXY (h1 := h) (by omega) (by omega) (by omega) (by omega) (by omega) (by omega) (by omega) ra0 ra1 ra9 ra10 ra11 ra12 ra13 (fun j => i0.2.1 2 j) (fun j => (i0.2.1 6 j).1)))
  have y9t : mm_hd _ := y1_1
  have y8t : mm_hd _ := y2_1
  clear y1_1 y2_1
  have eF : (r1 = 0 ∧ h2.1 66 58 = h1.1 0 14) ∨ (r1 ≠ 0 ∧ h2.1 66 58 = h1.1 66 58 ∧ h1.1 0 14 = h.1 0 14) := by
    have x9 := mm_hd_x y9t
    have x8 := mm_hd_x y8t
    by_cases q : r1 = 0
    · have x7 := (x9.resolve_right (fun z => z.1 q)).2
      have x6 := (x8.resolve_right (fun z => by have z1 := z.1; omega)).2.2
      have e7 : mm_WY h1 = mm_WY h := mm_WY_fr (g1.1 66 1 (by decide)) (g1.1 66 2 (by decide)) (g1.1 66 3 (by decide)) (g1.1 66 9 (by decide)) (g1.1 66 10 (by decide)) (g1.2 67 (by decide)) (g1.2 68 (by decide)) (g1.2 69 (by decide)) (g1.2 70 (by decide)) (g1.2 71 (by decide)) (g1.2 101 (by decide))
      rw [e7] at x6
      exact Or.inl ⟨q, (mm_fp_un x7 (mm_fp_cg (fun k hk => mm_WXY (n := (mm_sc xs (i + 2))) (by omega) (by omega) (by omega) (by omega) (by omega) (by omega) (by omega) ra0 ra1 ra9 ra10 ra11 ra12 ra13 (fun j => i0.2.1 2 j) (fun j => (i0.2.1 6 j).1) k hk) x6)).symm⟩
    · exact Or.inr ⟨q, (x8.resolve_left (fun z => by have z1 := z.1; have z2 := z.2.1; omega)).2, (x9.resolve_left (fun z => q z.1)).2⟩
  have qa2 : h2.2.1 124 0 = h1.2.1 124 0 := g2.2 124 (by decide) 0
  refine mm_istoreL (ls2 := [mR 3000, mR 0, mR 66, mR 124, mI i, mI r1, mI r2, mU]) C (mm_dec dk_law17 28 rfl) (by decide) rfl ?_
  refine mm_goto (tgt := 1668) C (mm_dec dk_law17 29 rfl) (by decide) ?_
  refine mm_fgt 5 ?_
  refine mm_fgt 6 ?_
  have ze := mm_zf_eq (show h2.1 58 5 = h.1 58 5 from (g2.1 58 5 (by decide)).trans ((g1.1 58 5 (by decide)).trans (rfl)))
  refine mm_widen (k := mm_aA (i + 6) h2) (n := mm_bB (i + 6) h2) (by rw [show mm_aA (i + 6) h2 = 200 + (i + 6).toNat + (mm_zf h).1 from by unfold mm_aA; rw [ze]]; omega) (by rw [show mm_bB (i + 6) h2 = 90000 + 6 * (i + 6).toNat + (mm_zf h).2 from by unfold mm_bB; rw [ze]]; omega) ?_
  exact K h2 i2 (mm_RO_fr (mm_RO_fr (r0) g1 (by decide)) g2 (by decide)) (by unfold mm_Rl; exact ⟨by omega, by omega, by omega, by omega, by omega, by omega, by omega, by omega, by omega, by omega, by omega, by omega, by omega, mm_eq_fr (mm_eq_fr (ra0) g1 (by decide) (by decide)) g2 (by decide) (by decide), mm_eq_fr (mm_eq_fr (ra1) g1 (by decide) (by decide)) g2 (by decide) (by decide), mm_eq_le (mm_eq_fr (mm_eq_fr (ra2) g1 (by decide) (by decide)) g2 (by decide) (by decide)) (by omega), mm_eq_le (mm_eq_fr (mm_eq_fr (ra3) g1 (by decide) (by decide)) g2 (by decide) (by decide)) (by omega), mm_eq_le (mm_eq_fr (mm_eq_fr (ra4) g1 (by decide) (by decide)) g2 (by decide) (by decide)) (by omega), mm_eq_le (mm_eq_fr (mm_eq_fr (ra5) g1 (by decide) (by decide)) g2 (by decide) (by decide)) (by omega), mm_tk_sm (mm_tk_sm (ra6) (fun j => g1.2 18 (by decide) j) (fun j => g1.2 85 (by decide) j) (by omega) (by omega)) (fun j => g2.2 18 (by decide) j) (fun j => g2.2 85 (by decide) j) (by omega) (by omega), mm_cb_sm (mm_cb_sm (ra7) (fun j => g1.2 85 (by decide) j) (by omega) (by omega)) (fun j => g2.2 85 (by decide) j) (by omega) (by omega), mm_fb_sm (mm_fb_sm (ra8) (fun j => g1.2 20 (by decide) j) (by omega)) (fun j => g2.2 20 (by decide) j) (by omega), mm_eq_fr (mm_eq_fr (ra9) g1 (by decide) (by decide)) g2 (by decide) (by decide), mm_eq_fr (mm_eq_fr (ra10) g1 (by decide) (by decide)) g2 (by decide) (by decide), mm_eq_fr (mm_eq_fr (ra11) g1 (by decide) (by decide)) g2 (by decide) (by decide), mm_eq_le (mm_eq_fr (mm_eq_fr (ra12) g1 (by decide) (by decide)) g2 (by decide) (by decide)) (by omega), mm_go_sm (mm_go_sm (ra13) (fun j => g1.2 6 (by decide) j) (by omega) (by omega) (by omega) (by omega) (by omega) (by omega)) (fun j => g2.2 6 (by decide) j) (by omega) (by omega) (by omega) (by omega) (by omega) (by omega), mm_eq_le (mm_eq_fr (mm_eq_fr (ra14) g1 (by decide) (by decide)) g2 (by decide) (by decide)) (by omega), mm_eq_le (mm_eq_fr (mm_eq_fr (ra15) g1 (by decide) (by decide)) g2 (by decide) (by decide)) (by omega), mm_it_sm (mm_it_sm (ra16) (fun j => g1.2 28 (by decide) j) (fun j => g1.2 88 (by decide) j) (by omega)) (fun j => g2.2 28 (by decide) j) (fun j => g2.2 88 (by decide) j) (by omega), mm_br_sm (mm_br_sm (ra17) (fun j => g1.2 21 (by decide) j) (fun j => g1.2 82 (by decide) j) (fun j => g1.2 84 (by decide) j) (fun j => g1.2 19 (by decide) j) (by omega)) (fun j => g2.2 21 (by decide) j) (fun j => g2.2 82 (by decide) j) (fun j => g2.2 84 (by decide) j) (fun j => g2.2 19 (by decide) j) (by omega), mm_gn_sm (mm_gn_sm (ra18)  (by omega) (by omega) (by omega) (by omega) (by omega))  (by omega) (by omega) (by omega) (by omega) (by omega), mm_pc_sm (mm_pc_sm (ra19) (fun j => g1.2 15 (by decide) j) (by omega) (by omega) (by omega)) (fun j => g2.2 15 (by decide) j) (by omega) (by omega) (by omega), mm_bv_sm (mm_bv_sm (ra20) (fun j => g1.2 21 (by decide) j) (fun j => g1.2 19 (by decide) j) (by omega) (by omega)) (fun j => g2.2 21 (by decide) j) (fun j => g2.2 19 (by decide) j) (by omega) (by omega), mm_eq_le (mm_eq_fr (mm_eq_fr (ra21) g1 (by decide) (by decide)) g2 (by decide) (by decide)) (by omega), mm_eq_le (mm_eq_fr (mm_eq_fr (ra22) g1 (by decide) (by decide)) g2 (by decide) (by decide)) (by omega), mm_eq_le (mm_eq_fr (mm_eq_fr (ra23) g1 (by decide) (by decide)) g2 (by decide) (by decide)) (by omega), mm_eq_le (mm_eq_fr (mm_eq_fr (ra24) g1 (by decide) (by decide)) g2 (by decide) (by decide)) (by omega), mm_eq_le (mm_eq_fr (mm_eq_fr (ra25) g1 (by decide) (by decide)) g2 (by decide) (by decide)) (by omega), mm_eq_le (mm_eq_fr (mm_eq_fr (ra26) g1 (by decide) (by decide)) g2 (by decide) (by decide)) (by omega), mm_ah_sm (mm_ah_sm (ra27) (fun j => g1.2 27 (by decide) j) (fun j => g1.2 88 (by decide) j) (fun j => g1.2 89 (by decide) j) (by omega)) (fun j => g2.2 27 (by decide) j) (fun j => g2.2 88 (by decide) j) (fun j => g2.2 89 (by decide) j) (by omega), mm_pw9_sm (mm_pw9_sm (ra28) (fun j => g1.2 44 (by decide) j) (fun j => g1.2 102 (by decide) j) (by omega) (by omega)) (fun j => g2.2 44 (by decide) j) (fun j => g2.2 102 (by decide) j) (by omega) (by omega), mm_eq_le (mm_eq_fr (mm_eq_fr (ra29) g1 (by decide) (by decide)) g2 (by decide) (by decide)) (by omega), mm_ep8_sm (mm_ep8_sm (ra30) (fun j => g1.2 31 (by decide) j) (fun j => g1.2 33 (by decide) j) (fun j => g1.2 94 (by decide) j) (by omega)) (fun j => g2.2 31 (by decide) j) (fun j => g2.2 33 (by decide) j) (fun j => g2.2 94 (by decide) j) (by omega), mm_ab8_sm (mm_ab8_sm (ra31) (fun j => g1.2 27 (by decide) j) (fun j => g1.2 88 (by decide) j) (fun j => g1.2 89 (by decide) j) (fun j => g1.2 90 (by decide) j) (by omega) (by omega)) (fun j => g2.2 27 (by decide) j) (fun j => g2.2 88 (by decide) j) (fun j => g2.2 89 (by decide) j) (fun j => g2.2 90 (by decide) j) (by omega) (by omega), mm_eq_le (mm_eq_fr (mm_eq_fr (ra32) g1 (by decide) (by decide)) g2 (by decide) (by decide)) (by omega), mm_cJ_sm (mm_cJ_sm (ra33) (fun j => g1.2 43 (by decide) j) (fun j => g1.2 103 (by decide) j) (fun j => g1.2 104 (by decide) j) (fun j => g1.2 105 (by decide) j) (fun j => g1.2 106 (by decide) j) (fun j => g1.2 107 (by decide) j) (by omega) (by omega) (by omega)) (fun j => g2.2 43 (by decide) j) (fun j => g2.2 103 (by decide) j) (fun j => g2.2 104 (by decide) j) (fun j => g2.2 105 (by decide) j) (fun j => g2.2 106 (by decide) j) (fun j => g2.2 107 (by decide) j) (by omega) (by omega) (by omega), mm_pt9_sm (mm_pt9_sm (ra34) (fun j => g1.2 37 (by decide) j) (fun j => g1.2 38 (by decide) j) (fun j => g1.2 39 (by decide) j) (fun j => g1.2 40 (by decide) j) (fun j => g1.2 41 (by decide) j) (fun j => g1.2 112 (by decide) j) (fun j => g1.2 114 (by decide) j) (fun j => g1.2 115 (by decide) j) (fun j => g1.2 116 (by decide) j) (by omega) (by omega) (by omega)) (fun j => g2.2 37 (by decide) j) (fun j => g2.2 38 (by decide) j) (fun j => g2.2 39 (by decide) j) (fun j => g2.2 40 (by decide) j) (fun j => g2.2 41 (by decide) j) (fun j => g2.2 112 (by decide) j) (fun j => g2.2 114 (by decide) j) (fun j => g2.2 115 (by decide) j) (fun j => g2.2 116 (by decide) j) (by omega) (by omega) (by omega), mm_tm9_sm (mm_tm9_sm (ra35) (fun j => g1.2 29 (by decide) j) (fun j => g1.2 90 (by decide) j) (by omega) (by omega)) (fun j => g2.2 29 (by decide) j) (fun j => g2.2 90 (by decide) j) (by omega) (by omega)⟩)
set_option maxRecDepth 100000 in
set_option maxHeartbeats 4000000 in
theorem lw_c29 {x : mX} {L : Nat} {xs : Nat → Int32} (C : mm_OK 60 601024 7293034 code RL 8 ret x) (X : mm_scr x L xs) (hl : x.2.1.stackTraces = false) (hL : L ≤ 3072) (i : Int) (hi : 0 ≤ i ∧ i + 6 ≤ L) (h : mH) (i0 : mm_inv h) (r0 : mm_RO h) (rl0 : mm_Rl i h) (K : mm_K x i) : mm_W x (mm_aA i h) (mm_bB i h) 1612 (mm_lls i) [] h := by
  have zl := mm_zf_le h
  have ea : mm_aA i h = 200 + i.toNat + (mm_zf h).1 := rfl
  have eb : mm_bB i h = 90000 + 6 * i.toNat + (mm_zf h).2 := rfl
  obtain ⟨rs0, rs1, rs2, rs3, rs4, rs5, rs6, rs7, rs8, rs9, rs10, rs11, rs12, ra0, ra1, ra2, ra3, ra4, ra5, ra6, ra7, ra8, ra9, ra10, ra11, ra12, ra13, ra14, ra15, ra16, ra17, ra18, ra19, ra20, ra21, ra22, ra23, ra24, ra25, ra26, ra27, ra28, ra29, ra30, ra31, ra32, ra33, ra34, ra35⟩ := rl0
  refine mm_aload_n C (mm_dec dk_law17 30 rfl) rfl ?_
  refine mm_aload_n C (mm_dec dk_law17 31 rfl) rfl ?_
  refine mm_iload C (mm_dec dk_law17 32 rfl) rfl ?_
  refine mm_iconst C (mm_dec dk_law17 33 rfl) ⟨by decide, by decide⟩ ?_
  refine mm_iadd C (mm_dec dk_law17 34 rfl) ⟨by omega, by omega⟩ ?_
  refine mm_sld C X (mm_dec dk_law17 35 rfl) (by omega) (by omega) ?_
  refine mm_aload_n C (mm_dec dk_law17 36 rfl) rfl ?_
  refine mm_cHi (d := 59) (rest := []) C mh_L_lost ml_L_216 sm_L_lost (mm_dec dk_law17 37 rfl) (c_L_lost x.2.1 hl 59 (by decide) h i0 (mm_sc xs (i + 1))) rfl (Nat.le_of_ble_eq_true rfl) ⟨by omega, by omega⟩ rfl (fun r1 h1 hp1 => ?_)
  obtain ⟨b1, i1, g1⟩ := hp1
  have q1_1_5 : h1.1 1 5 = h.1 1 5 := g1.1 1 5 (by decide)
  have q1_66_1 : h1.1 66 1 = h.1 66 1 := g1.1 66 1 (by decide)
  have q1_1_6 : h1.1 1 6 = h.1 1 6 := g1.1 1 6 (by decide)
  have q1_66_2 : h1.1 66 2 = h.1 66 2 := g1.1 66 2 (by decide)
  have q1_14_8 : h1.1 14 8 = h.1 14 8 := g1.1 14 8 (by decide)
  have q1_66_22 : h1.1 66 22 = h.1 66 22 := g1.1 66 22 (by decide)
  have q1_22_8 : h1.1 22 8 = h.1 22 8 := g1.1 22 8 (by decide)
  have q1_66_23 : h1.1 66 23 = h.1 66 23 := g1.1 66 23 (by decide)
  have q1_14_7 : h1.1 14 7 = h.1 14 7 := g1.1 14 7 (by decide)
  have q1_66_21 : h1.1 66 21 = h.1 66 21 := g1.1 66 21 (by decide)
  have q1_22_9 : h1.1 22 9 = h.1 22 9 := g1.1 22 9 (by decide)
  have q1_66_24 : h1.1 66 24 = h.1 66 24 := g1.1 66 24 (by decide)
  have q1_0_12 : h1.1 0 12 = h.1 0 12 := g1.1 0 12 (by decide)
  have q1_66_56 : h1.1 66 56 = h.1 66 56 := g1.1 66 56 (by decide)
  have q1_0_14 : h1.1 0 14 = h.1 0 14 := g1.1 0 14 (by decide)
  have q1_66_58 : h1.1 66 58 = h.1 66 58 := g1.1 66 58 (by decide)
  have q1_30_6 : h1.1 30 6 = h.1 30 6 := g1.1 30 6 (by decide)
  have q1_66_40 : h1.1 66 40 = h.1 66 40 := g1.1 66 40 (by decide)
  have q1_30_12 : h1.1 30 12 = h.1 30 12 := g1.1 30 12 (by decide)
  have q1_66_82 : h1.1 66 82 = h.1 66 82 := g1.1 66 82 (by decide)
  have q1_0_13 : h1.1 0 13 = h.1 0 13 := g1.1 0 13 (by decide)
  have q1_66_41 : h1.1 66 41 = h.1 66 41 := g1.1 66 41 (by decide)
  have q1_1_7 : h1.1 1 7 = h.1 1 7 := g1.1 1 7 (by decide)
  have q1_66_3 : h1.1 66 3 = h.1 66 3 := g1.1 66 3 (by decide)
  have q1_66_9 : h1.1 66 9 = h.1 66 9 := g1.1 66 9 (by decide)
  have q1_66_10 : h1.1 66 10 = h.1 66 10 := g1.1 66 10 (by decide)
  have q1_1_8 : h1.1 1 8 = h.1 1 8 := g1.1 1 8 (by decide)
  have q1_66_11 : h1.1 66 11 = h.1 66 11 := g1.1 66 11 (by decide)
  have q1_66_12 : h1.1 66 12 = h.1 66 12 := g1.1 66 12 (by decide)
  have q1_66_67 : h1.1 66 67 = h.1 66 67 := g1.1 66 67 (by decide)
  have q1_66_68 : h1.1 66 68 = h.1 66 68 := g1.1 66 68 (by decide)
  have q1_30_13 : h1.1 30 13 = h.1 30 13 := g1.1 30 13 (by decide)
  have q1_66_91 : h1.1 66 91 = h.1 66 91 := g1.1 66 91 (by decide)
  have q1_42_3 : h1.1 42 3 = h.1 42 3 := g1.1 42 3 (by decide)
  refine mm_istoreL (ls2 := [mR 3000, mR 0, mR 66, mR 124, mI i, mI r1, mU, mU]) C (mm_dec dk_law17 38 rfl) (by decide) rfl ?_
  refine mm_aload_n C (mm_dec dk_law17 39 rfl) rfl ?_
  refine mm_aload_n C (mm_dec dk_law17 40 rfl) rfl ?_
  refine mm_iload C (mm_dec dk_law17 41 rfl) rfl ?_
  refine mm_iconst C (mm_dec dk_law17 42 rfl) ⟨by decide, by decide⟩ ?_
  refine mm_iadd C (mm_dec dk_law17 43 rfl) ⟨by omega, by omega⟩ ?_
  refine mm_sld C X (mm_dec dk_law17 44 rfl) (by omega) (by omega) ?_
  refine mm_cVi (d := 59) (rest := []) C ev_L_218 (mm_dec dk_law17 45 rfl) (c_X12_lost x.2.1 hl 59 (by decide) h1 i1 (mm_sc xs (i + 1))) rfl rfl (Nat.le_of_ble_eq_true rfl) ⟨by omega, by omega⟩ rfl (fun r2 h2 hp2 => ?_) (fun _ _ q => q.elim)
  obtain ⟨b2, i2, g2⟩ := hp2
  have q2_1_5 : h2.1 1 5 = h1.1 1 5 := g2.1 1 5 (by decide)
  have q2_66_1 : h2.1 66 1 = h1.1 66 1 := g2.1 66 1 (by decide)
  have q2_1_6 : h2.1 1 6 = h1.1 1 6 := g2.1 1 6 (by decide)
  have q2_66_2 : h2.1 66 2 = h1.1 66 2 := g2.1 66 2 (by decide)
  have q2_14_8 : h2.1 14 8 = h1.1 14 8 := g2.1 14 8 (by decide)
  have q2_66_22 : h2.1 66 22 = h1.1 66 22 := g2.1 66 22 (by decide)
  have q2_22_8 : h2.1 22 8 = h1.1 22 8 := g2.1 22 8 (by decide)
  have q2_66_23 : h2.1 66 23 = h1.1 66 23 := g2.1 66 23 (by decide)
  have q2_14_7 : h2.1 14 7 = h1.1 14 7 := g2.1 14 7 (by decide)
  have q2_66_21 : h2.1 66 21 = h1.1 66 21 := g2.1 66 21 (by decide)
  have q2_22_9 : h2.1 22 9 = h1.1 22 9 := g2.1 22 9 (by decide)
  have q2_66_24 : h2.1 66 24 = h1.1 66 24 := g2.1 66 24 (by decide)
  have q2_0_12 : h2.1 0 12 = h1.1 0 12 := g2.1 0 12 (by decide)
  have q2_66_56 : h2.1 66 56 = h1.1 66 56 := g2.1 66 56 (by decide)
  have q2_0_14 : h2.1 0 14 = h1.1 0 14 := g2.1 0 14 (by decide)
  have q2_66_58 : h2.1 66 58 = h1.1 66 58 := g2.1 66 58 (by decide)
  have q2_30_6 : h2.1 30 6 = h1.1 30 6 := g2.1 30 6 (by decide)
  have q2_66_40 : h2.1 66 40 = h1.1 66 40 := g2.1 66 40 (by decide)
  have q2_30_12 : h2.1 30 12 = h1.1 30 12 := g2.1 30 12 (by decide)
  have q2_66_82 : h2.1 66 82 = h1.1 66 82 := g2.1 66 82 (by decide)
  have q2_0_13 : h2.1 0 13 = h1.1 0 13 := g2.1 0 13 (by decide)
  have q2_66_41 : h2.1 66 41 = h1.1 66 41 := g2.1 66 41 (by decide)
  have q2_1_7 : h2.1 1 7 = h1.1 1 7 := g2.1 1 7 (by decide)
  have q2_66_3 : h2.1 66 3 = h1.1 66 3 := g2.1 66 3 (by decide)
  have q2_66_9 : h2.1 66 9 = h1.1 66 9 := g2.1 66 9 (by decide)
  have q2_66_10 : h2.1 66 10 = h1.1 66 10 := g2.1 66 10 (by decide)
  have q2_1_8 : h2.1 1 8 = h1.1 1 8 := g2.1 1 8 (by decide)
  have q2_66_11 : h2.1 66 11 = h1.1 66 11 := g2.1 66 11 (by decide)
  have q2_66_12 : h2.1 66 12 = h1.1 66 12 := g2.1 66 12 (by decide)
  have q2_66_67 : h2.1 66 67 = h1.1 66 67 := g2.1 66 67 (by decide)
  have q2_66_68 : h2.1 66 68 = h1.1 66 68 := g2.1 66 68 (by decide)
  have q2_30_13 : h2.1 30 13 = h1.1 30 13 := g2.1 30 13 (by decide)
  have q2_66_91 : h2.1 66 91 = h1.1 66 91 := g2.1 66 91 (by decide)
  have q2_42_3 : h2.1 42 3 = h1.1 42 3 := g2.1 42 3 (by decide)
  have qa2 : h2.2.1 124 0 = h1.2.1 124 0 := g2.2 124 (by decide) 0
  refine mm_istoreL (ls2 := [mR 3000, mR 0, mR 66, mR 124, mI i, mI r1, mI r2, mU]) C (mm_dec dk_law17 46 rfl) (by decide) rfl ?_
  refine mm_goto (tgt := 1668) C (mm_dec dk_law17 47 rfl) (by decide) ?_
  refine mm_fgt 5 ?_
  refine mm_fgt 6 ?_
  have ze := mm_zf_eq (show h2.1 58 5 = h.1 58 5 from (g2.1 58 5 (by decide)).trans ((g1.1 58 5 (by decide)).trans (rfl)))
  refine mm_widen (k := mm_aA (i + 6) h2) (n := mm_bB (i + 6) h2) (by rw [show mm_aA (i + 6) h2 = 200 + (i + 6).toNat + (mm_zf h).1 from by unfold mm_aA; rw [ze]]; omega) (by rw [show mm_bB (i + 6) h2 = 90000 + 6 * (i + 6).toNat + (mm_zf h).2 from by unfold mm_bB; rw [ze]]; omega) ?_
  exact K h2 i2 (mm_RO_fr (mm_RO_fr (r0) g1 (by decide)) g2 (by decide)) (by unfold mm_Rl; exact ⟨by omega, by omega, by omega, by omega, by omega, by omega, by omega, by omega, by omega, by omega, by omega, by omega, by omega, mm_eq_fr (mm_eq_fr (ra0) g1 (by decide) (by decide)) g2 (by decide) (by decide), mm_eq_fr (mm_eq_fr (ra1) g1 (by decide) (by decide)) g2 (by decide) (by decide), mm_eq_le (mm_eq_fr (mm_eq_fr (ra2) g1 (by decide) (by decide)) g2 (by decide) (by decide)) (by omega), mm_eq_le (mm_eq_fr (mm_eq_fr (ra3) g1 (by decide) (by decide)) g2 (by decide) (by decide)) (by omega), mm_eq_le (mm_eq_fr (mm_eq_fr (ra4) g1 (by decide) (by decide)) g2 (by decide) (by decide)) (by omega), mm_eq_le (mm_eq_fr (mm_eq_fr (ra5) g1 (by decide) (by decide)) g2 (by decide) (by decide)) (by omega), mm_tk_sm (mm_tk_sm (ra6) (fun j => g1.2 18 (by decide) j) (fun j => g1.2 85 (by decide) j) (by omega) (by omega)) (fun j => g2.2 18 (by decide) j) (fun j => g2.2 85 (by decide) j) (by omega) (by omega), mm_cb_sm (mm_cb_sm (ra7) (fun j => g1.2 85 (by decide) j) (by omega) (by omega)) (fun j => g2.2 85 (by decide) j) (by omega) (by omega), mm_fb_sm (mm_fb_sm (ra8) (fun j => g1.2 20 (by decide) j) (by omega)) (fun j => g2.2 20 (by decide) j) (by omega), mm_eq_fr (mm_eq_fr (ra9) g1 (by decide) (by decide)) g2 (by decide) (by decide), mm_eq_fr (mm_eq_fr (ra10) g1 (by decide) (by decide)) g2 (by decide) (by decide), mm_eq_fr (mm_eq_fr (ra11) g1 (by decide) (by decide)) g2 (by decide) (by decide), mm_eq_le (mm_eq_fr (mm_eq_fr (ra12) g1 (by decide) (by decide)) g2 (by decide) (by decide)) (by omega), mm_go_sm (mm_go_sm (ra13) (fun j => g1.2 6 (by decide) j) (by omega) (by omega) (by omega) (by omega) (by omega) (by omega)) (fun j => g2.2 6 (by decide) j) (by omega) (by omega) (by omega) (by omega) (by omega) (by omega), mm_eq_le (mm_eq_fr (mm_eq_fr (ra14) g1 (by decide) (by decide)) g2 (by decide) (by decide)) (by omega), mm_eq_le (mm_eq_fr (mm_eq_fr (ra15) g1 (by decide) (by decide)) g2 (by decide) (by decide)) (by omega), mm_it_sm (mm_it_sm (ra16) (fun j => g1.2 28 (by decide) j) (fun j => g1.2 88 (by decide) j) (by omega)) (fun j => g2.2 28 (by decide) j) (fun j => g2.2 88 (by decide) j) (by omega), mm_br_sm (mm_br_sm (ra17) (fun j => g1.2 21 (by decide) j) (fun j => g1.2 82 (by decide) j) (fun j => g1.2 84 (by decide) j) (fun j => g1.2 19 (by decide) j) (by omega)) (fun j => g2.2 21 (by decide) j) (fun j => g2.2 82 (by decide) j) (fun j => g2.2 84 (by decide) j) (fun j => g2.2 19 (by decide) j) (by omega), mm_gn_sm (mm_gn_sm (ra18)  (by omega) (by omega) (by omega) (by omega) (by omega))  (by omega) (by omega) (by omega) (by omega) (by omega), mm_pc_sm (mm_pc_sm (ra19) (fun j => g1.2 15 (by decide) j) (by omega) (by omega) (by omega)) (fun j => g2.2 15 (by decide) j) (by omega) (by omega) (by omega), mm_bv_sm (mm_bv_sm (ra20) (fun j => g1.2 21 (by decide) j) (fun j => g1.2 19 (by decide) j) (by omega) (by omega)) (fun j => g2.2 21 (by decide) j) (fun j => g2.2 19 (by decide) j) (by omega) (by omega), mm_eq_le (mm_eq_fr (mm_eq_fr (ra21) g1 (by decide) (by decide)) g2 (by decide) (by decide)) (by omega), mm_eq_le (mm_eq_fr (mm_eq_fr (ra22) g1 (by decide) (by decide)) g2 (by decide) (by decide)) (by omega), mm_eq_le (mm_eq_fr (mm_eq_fr (ra23) g1 (by decide) (by decide)) g2 (by decide) (by decide)) (by omega), mm_eq_le (mm_eq_fr (mm_eq_fr (ra24) g1 (by decide) (by decide)) g2 (by decide) (by decide)) (by omega), mm_eq_le (mm_eq_fr (mm_eq_fr (ra25) g1 (by decide) (by decide)) g2 (by decide) (by decide)) (by omega), mm_eq_le (mm_eq_fr (mm_eq_fr (ra26) g1 (by decide) (by decide)) g2 (by decide) (by decide)) (by omega), mm_ah_sm (mm_ah_sm (ra27) (fun j => g1.2 27 (by decide) j) (fun j => g1.2 88 (by decide) j) (fun j => g1.2 89 (by decide) j) (by omega)) (fun j => g2.2 27 (by decide) j) (fun j => g2.2 88 (by decide) j) (fun j => g2.2 89 (by decide) j) (by omega), mm_pw9_sm (mm_pw9_sm (ra28) (fun j => g1.2 44 (by decide) j) (fun j => g1.2 102 (by decide) j) (by omega) (by omega)) (fun j => g2.2 44 (by decide) j) (fun j => g2.2 102 (by decide) j) (by omega) (by omega), mm_eq_le (mm_eq_fr (mm_eq_fr (ra29) g1 (by decide) (by decide)) g2 (by decide) (by decide)) (by omega), mm_ep8_sm (mm_ep8_sm (ra30) (fun j => g1.2 31 (by decide) j) (fun j => g1.2 33 (by decide) j) (fun j => g1.2 94 (by decide) j) (by omega)) (fun j => g2.2 31 (by decide) j) (fun j => g2.2 33 (by decide) j) (fun j => g2.2 94 (by decide) j) (by omega), mm_ab8_sm (mm_ab8_sm (ra31) (fun j => g1.2 27 (by decide) j) (fun j => g1.2 88 (by decide) j) (fun j => g1.2 89 (by decide) j) (fun j => g1.2 90 (by decide) j) (by omega) (by omega)) (fun j => g2.2 27 (by decide) j) (fun j => g2.2 88 (by decide) j) (fun j => g2.2 89 (by decide) j) (fun j => g2.2 90 (by decide) j) (by omega) (by omega), mm_eq_le (mm_eq_fr (mm_eq_fr (ra32) g1 (by decide) (by decide)) g2 (by decide) (by decide)) (by omega), mm_cJ_sm (mm_cJ_sm (ra33) (fun j => g1.2 43 (by decide) j) (fun j => g1.2 103 (by decide) j) (fun j => g1.2 104 (by decide) j) (fun j => g1.2 105 (by decide) j) (fun j => g1.2 106 (by decide) j) (fun j => g1.2 107 (by decide) j) (by omega) (by omega) (by omega)) (fun j => g2.2 43 (by decide) j) (fun j => g2.2 103 (by decide) j) (fun j => g2.2 104 (by decide) j) (fun j => g2.2 105 (by decide) j) (fun j => g2.2 106 (by decide) j) (fun j => g2.2 107 (by decide) j) (by omega) (by omega) (by omega), mm_pt9_sm (mm_pt9_sm (ra34) (fun j => g1.2 37 (by decide) j) (fun j => g1.2 38 (by decide) j) (fun j => g1.2 39 (by decide) j) (fun j => g1.2 40 (by decide) j) (fun j => g1.2 41 (by decide) j) (fun j => g1.2 112 (by decide) j) (fun j => g1.2 114 (by decide) j) (fun j => g1.2 115 (by decide) j) (fun j => g1.2 116 (by decide) j) (by omega) (by omega) (by omega)) (fun j => g2.2 37 (by decide) j) (fun j => g2.2 38 (by decide) j) (fun j => g2.2 39 (by decide) j) (fun j => g2.2 40 (by decide) j) (fun j => g2.2 41 (by decide) j) (fun j => g2.2 112 (by decide) j) (fun j => g2.2 114 (by decide) j) (fun j => g2.2 115 (by decide) j) (fun j => g2.2 116 (by decide) j) (by omega) (by omega) (by omega), mm_tm9_sm (mm_tm9_sm (ra35) (fun j => g1.2 29 (by decide) j) (fun j => g1.2 90 (by decide) j) (by omega) (by omega)) (fun j => g2.2 29 (by decide) j) (fun j => g2.2 90 (by decide) j) (by omega) (by omega)⟩)
set_option maxRecDepth 100000 in
set_option maxHeartbeats 4000000 in
theorem lw_c30 {x : mX} {L : Nat} {xs : Nat → Int32} (C : mm_OK 60 601024 7293034 code RL 8 ret x) (X : mm_scr x L xs) (hl : x.2.1.stackTraces = false) (hL : L ≤ 3072) (i : Int) (hi : 0 ≤ i ∧ i + 6 ≤ L) (h : mH) (i0 : mm_inv h) (r0 : mm_RO h) (rl0 : mm_Rl i h) (K : mm_K x i) : mm_W x (mm_aA i h) (mm_bB i h) 1640 (mm_lls i) [] h := by
  have zl := mm_zf_le h
  have ea : mm_aA i h = 200 + i.toNat + (mm_zf h).1 := rfl
  have eb : mm_bB i h = 90000 + 6 * i.toNat + (mm_zf h).2 := rfl
  obtain ⟨rs0, rs1, rs2, rs3, rs4, rs5, rs6, rs7, rs8, rs9, rs10, rs11, rs12, ra0, ra1, ra2, ra3, ra4, ra5, ra6, ra7, ra8, ra9, ra10, ra11, ra12, ra13, ra14, ra15, ra16, ra17, ra18, ra19, ra20, ra21, ra22, ra23, ra24, ra25, ra26, ra27, ra28, ra29, ra30, ra31, ra32, ra33, ra34, ra35⟩ := rl0
  refine mm_aload_n C (mm_dec dk_law17 48 rfl) rfl ?_
  refine mm_aload_n C (mm_dec dk_law17 49 rfl) rfl ?_
  refine mm_iload C (mm_dec dk_law17 50 rfl) rfl ?_
  refine mm_iconst C (mm_dec dk_law17 51 rfl) ⟨by decide, by decide⟩ ?_
  refine mm_iadd C (mm_dec dk_law17 52 rfl) ⟨by omega, by omega⟩ ?_
  refine mm_sld C X (mm_dec dk_law17 53 rfl) (by omega) (by omega) ?_
  refine mm_aload_n C (mm_dec dk_law17 54 rfl) rfl ?_
  refine mm_cHi (d := 59) (rest := []) C mh_L_count ml_L_219 sm_L_count (mm_dec dk_law17 55 rfl) (c_L_count_q x.2.1 hl 59 (by decide) h i0 (mm_sc xs (i + 1))) rfl (Nat.le_of_ble_eq_true rfl) ⟨by omega, by omega⟩ rfl (fun r1 h1 hp1 => ?_)
  obtain ⟨b1, i1, g1, y1_0⟩ := hp1
  have q1_1_5 : h1.1 1 5 = h.1 1 5 := g1.1 1 5 (by decide)
  have q1_66_1 : h1.1 66 1 = h.1 66 1 := g1.1 66 1 (by decide)
  have q1_1_6 : h1.1 1 6 = h.1 1 6 := g1.1 1 6 (by decide)
  have q1_66_2 : h1.1 66 2 = h.1 66 2 := g1.1 66 2 (by decide)
  have q1_14_8 : h1.1 14 8 = h.1 14 8 := g1.1 14 8 (by decide)
  have q1_66_22 : h1.1 66 22 = h.1 66 22 := g1.1 66 22 (by decide)
  have q1_22_8 : h1.1 22 8 = h.1 22 8 := g1.1 22 8 (by decide)
  have q1_66_23 : h1.1 66 23 = h.1 66 23 := g1.1 66 23 (by decide)
  have q1_14_7 : h1.1 14 7 = h.1 14 7 := g1.1 14 7 (by decide)
  have q1_66_21 : h1.1 66 21 = h.1 66 21 := g1.1 66 21 (by decide)
  have q1_22_9 : h1.1 22 9 = h.1 22 9 := g1.1 22 9 (by decide)
  have q1_66_24 : h1.1 66 24 = h.1 66 24 := g1.1 66 24 (by decide)
  have q1_0_12 : h1.1 0 12 = h.1 0 12 := g1.1 0 12 (by decide)
  have q1_66_56 : h1.1 66 56 = h.1 66 56 := g1.1 66 56 (by decide)
  have q1_0_14 : h1.1 0 14 = h.1 0 14 := g1.1 0 14 (by decide)
  have q1_66_58 : h1.1 66 58 = h.1 66 58 := g1.1 66 58 (by decide)
  have q1_30_6 : h1.1 30 6 = h.1 30 6 := g1.1 30 6 (by decide)
  have q1_66_40 : h1.1 66 40 = h.1 66 40 := g1.1 66 40 (by decide)
  have q1_30_12 : h1.1 30 12 = h.1 30 12 := g1.1 30 12 (by decide)
  have q1_66_82 : h1.1 66 82 = h.1 66 82 := g1.1 66 82 (by decide)
  have q1_0_13 : h1.1 0 13 = h.1 0 13 := g1.1 0 13 (by decide)
  have q1_66_41 : h1.1 66 41 = h.1 66 41 := g1.1 66 41 (by decide)
  have q1_1_7 : h1.1 1 7 = h.1 1 7 := g1.1 1 7 (by decide)
  have q1_66_3 : h1.1 66 3 = h.1 66 3 := g1.1 66 3 (by decide)
  have q1_66_9 : h1.1 66 9 = h.1 66 9 := g1.1 66 9 (by decide)
  have q1_66_10 : h1.1 66 10 = h.1 66 10 := g1.1 66 10 (by decide)
  have q1_1_8 : h1.1 1 8 = h.1 1 8 := g1.1 1 8 (by decide)
  have q1_66_11 : h1.1 66 11 = h.1 66 11 := g1.1 66 11 (by decide)
  have q1_66_12 : h1.1 66 12 = h.1 66 12 := g1.1 66 12 (by decide)
  have q1_66_67 : h1.1 66 67 = h.1 66 67 := g1.1 66 67 (by decide)
  have q1_66_68 : h1.1 66 68 = h.1 66 68 := g1.1 66 68 (by decide)
  have q1_30_13 : h1.1 30 13 = h.1 30 13 := g1.1 30 13 (by decide)
  have q1_66_91 : h1.1 66 91 = h.1 66 91 := g1.1 66 91 (by decide)
  have q1_42_3 : h1.1 42 3 = h.1 42 3 := g1.1 42 3 (by decide)
  refine mm_istoreL (ls2 := [mR 3000, mR 0, mR 66, mR 124, mI i, mI r1, mU, mU]) C (mm_dec dk_law17 56 rfl) (by decide) rfl ?_
  refine mm_aload_n C (mm_dec dk_law17 57 rfl) rfl ?_
  refine mm_aload_n C (mm_dec dk_law17 58 rfl) rfl ?_
  refine mm_iload C (mm_dec dk_law17 59 rfl) rfl ?_
  refine mm_iconst C (mm_dec dk_law18 0 rfl) ⟨by decide, by decide⟩ ?_
  refine mm_iadd C (mm_dec dk_law18 1 rfl) ⟨by omega, by omega⟩ ?_
  refine mm_sld C X (mm_dec dk_law18 2 rfl) (by omega) (by omega) ?_
  refine mm_cVi (d := 59) (rest := []) C ev_L_221 (mm_dec dk_law18 3 rfl) (c_X12_count_q x.2.1 hl 59 (by decide) h1 i1 (mm_sc xs (i + 1))) rfl rfl (Nat.le_of_ble_eq_true rfl) ⟨by omega, by omega⟩ rfl (fun r2 h2 hp2 => ?_) (fun _ _ q => q.elim)
  obtain ⟨b2, i2, g2, y2_0⟩ := hp2
  have q2_1_5 : h2.1 1 5 = h1.1 1 5 := g2.1 1 5 (by decide)
  have q2_66_1 : h2.1 66 1 = h1.1 66 1 := g2.1 66 1 (by decide)
  have q2_1_6 : h2.1 1 6 = h1.1 1 6 := g2.1 1 6 (by decide)
  have q2_66_2 : h2.1 66 2 = h1.1 66 2 := g2.1 66 2 (by decide)
  have q2_14_8 : h2.1 14 8 = h1.1 14 8 := g2.1 14 8 (by decide)
  have q2_66_22 : h2.1 66 22 = h1.1 66 22 := g2.1 66 22 (by decide)
  have q2_22_8 : h2.1 22 8 = h1.1 22 8 := g2.1 22 8 (by decide)
  have q2_66_23 : h2.1 66 23 = h1.1 66 23 := g2.1 66 23 (by decide)
  have q2_14_7 : h2.1 14 7 = h1.1 14 7 := g2.1 14 7 (by decide)
  have q2_66_21 : h2.1 66 21 = h1.1 66 21 := g2.1 66 21 (by decide)
  have q2_22_9 : h2.1 22 9 = h1.1 22 9 := g2.1 22 9 (by decide)
  have q2_66_24 : h2.1 66 24 = h1.1 66 24 := g2.1 66 24 (by decide)
  have q2_0_12 : h2.1 0 12 = h1.1 0 12 := g2.1 0 12 (by decide)
  have q2_66_56 : h2.1 66 56 = h1.1 66 56 := g2.1 66 56 (by decide)
  have q2_0_14 : h2.1 0 14 = h1.1 0 14 := g2.1 0 14 (by decide)
  have q2_66_58 : h2.1 66 58 = h1.1 66 58 := g2.1 66 58 (by decide)
  have q2_30_6 : h2.1 30 6 = h1.1 30 6 := g2.1 30 6 (by decide)
  have q2_66_40 : h2.1 66 40 = h1.1 66 40 := g2.1 66 40 (by decide)
  have q2_30_12 : h2.1 30 12 = h1.1 30 12 := g2.1 30 12 (by decide)
  have q2_66_82 : h2.1 66 82 = h1.1 66 82 := g2.1 66 82 (by decide)
  have q2_0_13 : h2.1 0 13 = h1.1 0 13 := g2.1 0 13 (by decide)
  have q2_66_41 : h2.1 66 41 = h1.1 66 41 := g2.1 66 41 (by decide)
  have q2_1_7 : h2.1 1 7 = h1.1 1 7 := g2.1 1 7 (by decide)
  have q2_66_3 : h2.1 66 3 = h1.1 66 3 := g2.1 66 3 (by decide)
  have q2_66_9 : h2.1 66 9 = h1.1 66 9 := g2.1 66 9 (by decide)
  have q2_66_10 : h2.1 66 10 = h1.1 66 10 := g2.1 66 10 (by decide)
  have q2_1_8 : h2.1 1 8 = h1.1 1 8 := g2.1 1 8 (by decide)
  have q2_66_11 : h2.1 66 11 = h1.1 66 11 := g2.1 66 11 (by decide)
  have q2_66_12 : h2.1 66 12 = h1.1 66 12 := g2.1 66 12 (by decide)
  have q2_66_67 : h2.1 66 67 = h1.1 66 67 := g2.1 66 67 (by decide)
  have q2_66_68 : h2.1 66 68 = h1.1 66 68 := g2.1 66 68 (by decide)
  have q2_30_13 : h2.1 30 13 = h1.1 30 13 := g2.1 30 13 (by decide)
  have q2_66_91 : h2.1 66 91 = h1.1 66 91 := g2.1 66 91 (by decide)
  have q2_42_3 : h2.1 42 3 = h1.1 42 3 := g2.1 42 3 (by decide)
  have qa2 : h2.2.1 124 0 = h1.2.1 124 0 := g2.2 124 (by decide) 0
  refine mm_istoreL (ls2 := [mR 3000, mR 0, mR 66, mR 124, mI i, mI r1, mI r2, mU]) C (mm_dec dk_law18 4 rfl) (by decide) rfl ?_
  refine mm_goto (tgt := 1668) C (mm_dec dk_law18 5 rfl) (by decide) ?_
  refine mm_fgt 5 ?_
  refine mm_fgt 6 ?_
  have ze := mm_zf_eq (show h2.1 58 5 = h.1 58 5 from (g2.1 58 5 (by decide)).trans ((g1.1 58 5 (by decide)).trans (rfl)))
  refine mm_widen (k := mm_aA (i + 6) h2) (n := mm_bB (i + 6) h2) (by rw [show mm_aA (i + 6) h2 = 200 + (i + 6).toNat + (mm_zf h).1 from by unfold mm_aA; rw [ze]]; omega) (by rw [show mm_bB (i + 6) h2 = 90000 + 6 * (i + 6).toNat + (mm_zf h).2 from by unfold mm_bB; rw [ze]]; omega) ?_
  exact K h2 i2 (mm_RO_fr (mm_RO_fr (r0) g1 (by decide)) g2 (by decide)) (by unfold mm_Rl; exact ⟨by omega, by omega, by omega, by omega, by omega, by omega, by omega, by omega, by omega, by omega, by omega, by omega, by omega, mm_eq_fr (mm_eq_fr (ra0) g1 (by decide) (by decide)) g2 (by decide) (by decide), mm_eq_fr (mm_eq_fr (ra1) g1 (by decide) (by decide)) g2 (by decide) (by decide), mm_eq_le (mm_eq_fr (mm_eq_fr (ra2) g1 (by decide) (by decide)) g2 (by decide) (by decide)) (by omega), mm_eq_le (mm_eq_fr (mm_eq_fr (ra3) g1 (by decide) (by decide)) g2 (by decide) (by decide)) (by omega), mm_eq_le (mm_eq_fr (mm_eq_fr (ra4) g1 (by decide) (by decide)) g2 (by decide) (by decide)) (by omega), mm_eq_le (mm_eq_fr (mm_eq_fr (ra5) g1 (by decide) (by decide)) g2 (by decide) (by decide)) (by omega), mm_tk_sm (mm_tk_sm (ra6) (fun j => g1.2 18 (by decide) j) (fun j => g1.2 85 (by decide) j) (by omega) (by omega)) (fun j => g2.2 18 (by decide) j) (fun j => g2.2 85 (by decide) j) (by omega) (by omega), mm_cb_sm (mm_cb_sm (ra7) (fun j => g1.2 85 (by decide) j) (by omega) (by omega)) (fun j => g2.2 85 (by decide) j) (by omega) (by omega), mm_fb_sm (mm_fb_sm (ra8) (fun j => g1.2 20 (by decide) j) (by omega)) (fun j => g2.2 20 (by decide) j) (by omega), mm_eq_fr (mm_eq_fr (ra9) g1 (by decide) (by decide)) g2 (by decide) (by decide), mm_eq_fr (mm_eq_fr (ra10) g1 (by decide) (by decide)) g2 (by decide) (by decide), mm_eq_fr (mm_eq_fr (ra11) g1 (by decide) (by decide)) g2 (by decide) (by decide), mm_eq_le (mm_eq_fr (mm_eq_fr (ra12) g1 (by decide) (by decide)) g2 (by decide) (by decide)) (by omega), mm_go_sm (mm_go_sm (ra13) (fun j => g1.2 6 (by decide) j) (by omega) (by omega) (by omega) (by omega) (by omega) (by omega)) (fun j => g2.2 6 (by decide) j) (by omega) (by omega) (by omega) (by omega) (by omega) (by omega), mm_eq_le (mm_eq_fr (mm_eq_fr (ra14) g1 (by decide) (by decide)) g2 (by decide) (by decide)) (by omega), mm_eq_le (mm_eq_fr (mm_eq_fr (ra15) g1 (by decide) (by decide)) g2 (by decide) (by decide)) (by omega), mm_it_sm (mm_it_sm (ra16) (fun j => g1.2 28 (by decide) j) (fun j => g1.2 88 (by decide) j) (by omega)) (fun j => g2.2 28 (by decide) j) (fun j => g2.2 88 (by decide) j) (by omega), mm_br_sm (mm_br_sm (ra17) (fun j => g1.2 21 (by decide) j) (fun j => g1.2 82 (by decide) j) (fun j => g1.2 84 (by decide) j) (fun j => g1.2 19 (by decide) j) (by omega)) (fun j => g2.2 21 (by decide) j) (fun j => g2.2 82 (by decide) j) (fun j => g2.2 84 (by decide) j) (fun j => g2.2 19 (by decide) j) (by omega), mm_gn_sm (mm_gn_sm (ra18)  (by omega) (by omega) (by omega) (by omega) (by omega))  (by omega) (by omega) (by omega) (by omega) (by omega), mm_pc_sm (mm_pc_sm (ra19) (fun j => g1.2 15 (by decide) j) (by omega) (by omega) (by omega)) (fun j => g2.2 15 (by decide) j) (by omega) (by omega) (by omega), mm_bv_sm (mm_bv_sm (ra20) (fun j => g1.2 21 (by decide) j) (fun j => g1.2 19 (by decide) j) (by omega) (by omega)) (fun j => g2.2 21 (by decide) j) (fun j => g2.2 19 (by decide) j) (by omega) (by omega), mm_eq_le (mm_eq_fr (mm_eq_fr (ra21) g1 (by decide) (by decide)) g2 (by decide) (by decide)) (by omega), mm_eq_le (mm_eq_fr (mm_eq_fr (ra22) g1 (by decide) (by decide)) g2 (by decide) (by decide)) (by omega), mm_eq_le (mm_eq_fr (mm_eq_fr (ra23) g1 (by decide) (by decide)) g2 (by decide) (by decide)) (by omega), mm_eq_le (mm_eq_fr (mm_eq_fr (ra24) g1 (by decide) (by decide)) g2 (by decide) (by decide)) (by omega), mm_eq_le (mm_eq_fr (mm_eq_fr (ra25) g1 (by decide) (by decide)) g2 (by decide) (by decide)) (by omega), mm_eq_le (mm_eq_fr (mm_eq_fr (ra26) g1 (by decide) (by decide)) g2 (by decide) (by decide)) (by omega), mm_ah_sm (mm_ah_sm (ra27) (fun j => g1.2 27 (by decide) j) (fun j => g1.2 88 (by decide) j) (fun j => g1.2 89 (by decide) j) (by omega)) (fun j => g2.2 27 (by decide) j) (fun j => g2.2 88 (by decide) j) (fun j => g2.2 89 (by decide) j) (by omega), mm_pw9_sm (mm_pw9_sm (ra28) (fun j => g1.2 44 (by decide) j) (fun j => g1.2 102 (by decide) j) (by omega) (by omega)) (fun j => g2.2 44 (by decide) j) (fun j => g2.2 102 (by decide) j) (by omega) (by omega), mm_eq_le (mm_eq_fr (mm_eq_fr (ra29) g1 (by decide) (by decide)) g2 (by decide) (by decide)) (by omega), mm_ep8_sm (mm_ep8_sm (ra30) (fun j => g1.2 31 (by decide) j) (fun j => g1.2 33 (by decide) j) (fun j => g1.2 94 (by decide) j) (by omega)) (fun j => g2.2 31 (by decide) j) (fun j => g2.2 33 (by decide) j) (fun j => g2.2 94 (by decide) j) (by omega), mm_ab8_sm (mm_ab8_sm (ra31) (fun j => g1.2 27 (by decide) j) (fun j => g1.2 88 (by decide) j) (fun j => g1.2 89 (by decide) j) (fun j => g1.2 90 (by decide) j) (by omega) (by omega)) (fun j => g2.2 27 (by decide) j) (fun j => g2.2 88 (by decide) j) (fun j => g2.2 89 (by decide) j) (fun j => g2.2 90 (by decide) j) (by omega) (by omega), mm_eq_le (mm_eq_fr (mm_eq_fr (ra32) g1 (by decide) (by decide)) g2 (by decide) (by decide)) (by omega), mm_cJ_sm (mm_cJ_sm (ra33) (fun j => g1.2 43 (by decide) j) (fun j => g1.2 103 (by decide) j) (fun j => g1.2 104 (by decide) j) (fun j => g1.2 105 (by decide) j) (fun j => g1.2 106 (by decide) j) (fun j => g1.2 107 (by decide) j) (by omega) (by omega) (by omega)) (fun j => g2.2 43 (by decide) j) (fun j => g2.2 103 (by decide) j) (fun j => g2.2 104 (by decide) j) (fun j => g2.2 105 (by decide) j) (fun j => g2.2 106 (by decide) j) (fun j => g2.2 107 (by decide) j) (by omega) (by omega) (by omega), mm_pt9_sm (mm_pt9_sm (ra34) (fun j => g1.2 37 (by decide) j) (fun j => g1.2 38 (by decide) j) (fun j => g1.2 39 (by decide) j) (fun j => g1.2 40 (by decide) j) (fun j => g1.2 41 (by decide) j) (fun j => g1.2 112 (by decide) j) (fun j => g1.2 114 (by decide) j) (fun j => g1.2 115 (by decide) j) (fun j => g1.2 116 (by decide) j) (by omega) (by omega) (by omega)) (fun j => g2.2 37 (by decide) j) (fun j => g2.2 38 (by decide) j) (fun j => g2.2 39 (by decide) j) (fun j => g2.2 40 (by decide) j) (fun j => g2.2 41 (by decide) j) (fun j => g2.2 112 (by decide) j) (fun j => g2.2 114 (by decide) j) (fun j => g2.2 115 (by decide) j) (fun j => g2.2 116 (by decide) j) (by omega) (by omega) (by omega), mm_tm9_sm (mm_tm9_sm (ra35) (fun j => g1.2 29 (by decide) j) (fun j => g1.2 90 (by decide) j) (by omega) (by omega)) (fun j => g2.2 29 (by decide) j) (fun j => g2.2 90 (by decide) j) (by omega) (by omega)⟩)
