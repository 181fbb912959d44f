def mm_hd (P : Prop) : Prop := P
theorem mm_hd_x {P : Prop} (h : mm_hd P) : P := h
set_option maxRecDepth 100000 in
set_option maxHeartbeats 4000000 in
theorem lw_c0 {x : mX} {L : Nat} {xs : Nat → Int32} (C : mm_OK 60 601024 7293034 code RL 8 ret x) (X : mm_scr x L xs) (hl : x.2.1.stackTraces = false) (hL : L ≤ 3072) (i : Int) (hi : 0 ≤ i ∧ i + 6 ≤ L) (h : mH) (i0 : mm_inv h) (r0 : mm_RO h) (rl0 : mm_Rl i h) (K : mm_K x i) : mm_W x (mm_aA i h) (mm_bB i h) 180 (mm_lls i) [] h := by
  have zl := mm_zf_le h
  have ea : mm_aA i h = 200 + i.toNat + (mm_zf h).1 := rfl
  have eb : mm_bB i h = 90000 + 6 * i.toNat + (mm_zf h).2 := rfl
  obtain ⟨rs0, rs1, rs2, rs3, rs4, rs5, rs6, rs7, rs8, rs9, rs10, rs11, rs12, ra0, ra1, ra2, ra3, ra4, ra5, ra6, ra7, ra8, ra9, ra10, ra11, ra12, ra13, ra14, ra15, ra16, ra17, ra18, ra19, ra20, ra21, ra22, ra23, ra24, ra25, ra26, ra27, ra28, ra29, ra30, ra31, ra32, ra33, ra34, ra35⟩ := rl0
  refine mm_aload_n C (mm_dec dk_law0 25 rfl) rfl ?_
  refine mm_aload_n C (mm_dec dk_law0 26 rfl) rfl ?_
  refine mm_iload C (mm_dec dk_law0 27 rfl) rfl ?_
  refine mm_iconst C (mm_dec dk_law0 28 rfl) ⟨by decide, by decide⟩ ?_
  refine mm_iadd C (mm_dec dk_law0 29 rfl) ⟨by omega, by omega⟩ ?_
  refine mm_sld C X (mm_dec dk_law0 30 rfl) (by omega) (by omega) ?_
  refine mm_aload_n C (mm_dec dk_law0 31 rfl) rfl ?_
  refine mm_iload C (mm_dec dk_law0 32 rfl) rfl ?_
  refine mm_iconst C (mm_dec dk_law0 33 rfl) ⟨by decide, by decide⟩ ?_
  refine mm_iadd C (mm_dec dk_law0 34 rfl) ⟨by omega, by omega⟩ ?_
  refine mm_sld C X (mm_dec dk_law0 35 rfl) (by omega) (by omega) ?_
  refine mm_cVi (d := 59) (rest := []) C ev_L_109 (mm_dec dk_law0 36 rfl) (c_X11_land_q x.2.1 hl 59 (by decide) h i0 (mm_sc xs (i + 1)) (mm_sc xs (i + 2))) rfl rfl (Nat.le_of_ble_eq_true rfl) ⟨by omega, by omega⟩ rfl (fun r1 h1 hp1 => ?_) (fun _ _ q => q.elim)
  obtain ⟨b1, i1, g1, y1_0, y1_1, y1_2, y1_3, y1_4, y1_5, y1_6, y1_7, y1_8, y1_9, y1_10⟩ := hp1
  have q1_66_1 : h1.1 66 1 = h.1 66 1 := g1.1 66 1 (by decide)
  have q1_66_2 : h1.1 66 2 = h.1 66 2 := g1.1 66 2 (by decide)
  have q1_66_22 : h1.1 66 22 = h.1 66 22 := g1.1 66 22 (by decide)
  have q1_66_23 : h1.1 66 23 = h.1 66 23 := g1.1 66 23 (by decide)
  have q1_66_21 : h1.1 66 21 = h.1 66 21 := g1.1 66 21 (by decide)
  have q1_66_24 : h1.1 66 24 = h.1 66 24 := g1.1 66 24 (by decide)
  have q1_0_12 : h1.1 0 12 = h.1 0 12 := g1.1 0 12 (by decide)
  have q1_66_56 : h1.1 66 56 = h.1 66 56 := g1.1 66 56 (by decide)
  have q1_66_58 : h1.1 66 58 = h.1 66 58 := g1.1 66 58 (by decide)
  have q1_66_40 : h1.1 66 40 = h.1 66 40 := g1.1 66 40 (by decide)
  have q1_66_82 : h1.1 66 82 = h.1 66 82 := g1.1 66 82 (by decide)
  have q1_66_41 : h1.1 66 41 = h.1 66 41 := g1.1 66 41 (by decide)
  have q1_66_3 : h1.1 66 3 = h.1 66 3 := g1.1 66 3 (by decide)
  have q1_66_9 : h1.1 66 9 = h.1 66 9 := g1.1 66 9 (by decide)
  have q1_66_10 : h1.1 66 10 = h.1 66 10 := g1.1 66 10 (by decide)
  have q1_66_11 : h1.1 66 11 = h.1 66 11 := g1.1 66 11 (by decide)
  have q1_66_12 : h1.1 66 12 = h.1 66 12 := g1.1 66 12 (by decide)
  have q1_66_67 : h1.1 66 67 = h.1 66 67 := g1.1 66 67 (by decide)
  have q1_66_68 : h1.1 66 68 = h.1 66 68 := g1.1 66 68 (by decide)
  have q1_66_91 : h1.1 66 91 = h.1 66 91 := g1.1 66 91 (by decide)
  have qa1 : h1.2.1 124 0 = h.2.1 124 0 := g1.2 124 (by decide) 0
  refine mm_pop C (mm_dec dk_law0 37 rfl) (show (0 : Nat) ≠ 1 by decide) ?_
  refine mm_aload_n C (mm_dec dk_law0 38 rfl) rfl ?_
  refine mm_aload_n C (mm_dec dk_law0 39 rfl) rfl ?_
  refine mm_iload C (mm_dec dk_law0 40 rfl) rfl ?_
  refine mm_iconst C (mm_dec dk_law0 41 rfl) ⟨by decide, by decide⟩ ?_
  refine mm_iadd C (mm_dec dk_law0 42 rfl) ⟨by omega, by omega⟩ ?_
  refine mm_sld C X (mm_dec dk_law0 43 rfl) (by omega) (by omega) ?_
  refine mm_aload_n C (mm_dec dk_law0 44 rfl) rfl ?_
  refine mm_iload C (mm_dec dk_law0 45 rfl) rfl ?_
  refine mm_iconst C (mm_dec dk_law0 46 rfl) ⟨by decide, by decide⟩ ?_
  refine mm_iadd C (mm_dec dk_law0 47 rfl) ⟨by omega, by omega⟩ ?_
  refine mm_sld C X (mm_dec dk_law0 48 rfl) (by omega) (by omega) ?_
  refine mm_cVi (d := 59) (rest := []) C ev_L_112 (mm_dec dk_law0 49 rfl) (c_X12_land_q x.2.1 hl 59 (by decide) h1 i1 (mm_sc xs (i + 1)) (mm_sc xs (i + 2)) (mm_RO_fr (r0) g1 (by decide))) rfl rfl (Nat.le_of_ble_eq_true rfl) ⟨by omega, by omega⟩ rfl (fun r2 h2 hp2 => ?_) (fun _ _ q => q.elim)
  obtain ⟨b2, i2, g2, y2_0, y2_1, y2_2, y2_3, y2_4, y2_5, y2_6, y2_7, y2_8, y2_9⟩ := hp2
  have q2_1_5 : h2.1 1 5 = h1.1 1 5 := g2.1 1 5 (by decide)
  have q2_1_6 : h2.1 1 6 = h1.1 1 6 := g2.1 1 6 (by decide)
  have q2_14_8 : h2.1 14 8 = h1.1 14 8 := g2.1 14 8 (by decide)
  have q2_22_8 : h2.1 22 8 = h1.1 22 8 := g2.1 22 8 (by decide)
  have q2_14_7 : h2.1 14 7 = h1.1 14 7 := g2.1 14 7 (by decide)
  have q2_22_9 : h2.1 22 9 = h1.1 22 9 := g2.1 22 9 (by decide)
  have q2_0_12 : h2.1 0 12 = h1.1 0 12 := g2.1 0 12 (by decide)
  have q2_66_56 : h2.1 66 56 = h1.1 66 56 := g2.1 66 56 (by decide)
  have q2_0_14 : h2.1 0 14 = h1.1 0 14 := g2.1 0 14 (by decide)
  have q2_30_6 : h2.1 30 6 = h1.1 30 6 := g2.1 30 6 (by decide)
  have q2_30_12 : h2.1 30 12 = h1.1 30 12 := g2.1 30 12 (by decide)
  have q2_0_13 : h2.1 0 13 = h1.1 0 13 := g2.1 0 13 (by decide)
  have q2_1_7 : h2.1 1 7 = h1.1 1 7 := g2.1 1 7 (by decide)
  have q2_1_8 : h2.1 1 8 = h1.1 1 8 := g2.1 1 8 (by decide)
  have q2_66_68 : h2.1 66 68 = h1.1 66 68 := g2.1 66 68 (by decide)
  have q2_30_13 : h2.1 30 13 = h1.1 30 13 := g2.1 30 13 (by decide)
  have q2_66_91 : h2.1 66 91 = h1.1 66 91 := g2.1 66 91 (by decide)
  have q2_42_3 : h2.1 42 3 = h1.1 42 3 := g2.1 42 3 (by decide)
  have zr : (r1 = 1 ∧ r2 = 1) ∨ (r1 = 0 ∧ r2 = 0) := by omega
  have zALL : mm_eq h2 2 67 399 ∧ mm_eq h2 6 69 7 ∧ mm_eq h2 15 78 (h2.1 14 7 - 1) ∧ mm_eq h2 17 83 (h2.1 14 8 - 1) ∧ mm_eq h2 19 80 (h2.1 14 8 - 1) ∧ mm_eq h2 20 81 (h2.1 14 8 - 1) ∧ mm_tk h2 ∧ mm_cb h2 ∧ mm_fb h2 ∧ mm_eq h2 3 68 399 ∧ mm_eq h2 4 70 399 ∧ mm_eq h2 5 71 399 ∧ mm_go h2 ∧ mm_eq h2 23 85 (h2.1 22 8 - 1) ∧ mm_eq h2 25 87 (h2.1 22 8 - 1) ∧ mm_it h2 ∧ mm_br h2 ∧ mm_gn h2 ∧ mm_pc h2 ∧ mm_bv h2 ∧ mm_eq h2 31 92 (h2.1 30 6 - 1) ∧ mm_eq h2 32 93 (h2.1 30 6 - 1) ∧ mm_eq h2 35 96 (h2.1 30 6 - 1) ∧ mm_eq h2 36 97 (h2.1 30 6 - 1) ∧ mm_eq h2 40 113 (h2.1 30 12 - 1) ∧ mm_eq h2 24 86 (h2.1 22 8 - 1) ∧ mm_ah h2 ∧ mm_pw9 h2 ∧ mm_eq h2 34 95 (h2.1 30 6 - 1) ∧ mm_ep8 h2 ∧ mm_ab8 h2 ∧ mm_eq h2 16 79 (h2.1 14 7 - 1) ∧ mm_cJ h2 ∧ mm_pt9 h2 ∧ mm_tm9 h2 ∧ h2.1 1 5 = h2.1 66 1 ∧ h2.1 1 6 = h2.1 66 2 ∧ h2.1 14 8 = h2.1 66 22 ∧ h2.1 22 8 = h2.1 66 23 ∧ h2.1 14 7 = h2.1 66 21 ∧ h2.1 22 9 = h2.1 66 24 ∧ h2.1 0 12 = h2.1 66 56 ∧ h2.1 0 14 = h2.1 66 58 ∧ h2.1 30 6 = h2.1 66 40 ∧ h2.1 30 12 = h2.1 66 82 ∧ h2.1 0 13 = h2.1 66 41 := by
    rcases zr with ⟨w, v⟩ | ⟨w, v⟩
    · have v1_0 := (y1_0.resolve_right (fun q => absurd (q.1.symm.trans w) (by decide))).2
      have v1_1 := (y1_1.resolve_left (fun q => absurd (q.1.symm.trans w) (by decide))).2
      have v1_2 := (y1_2.resolve_left (fun q => absurd (q.1.symm.trans w) (by decide))).2
      have v1_3 := y1_3 w
      have v1_5 := (y1_5.resolve_left (fun q => absurd (q.1.symm.trans w) (by decide))).2
      have v1_6 := (y1_6.resolve_left (fun q => absurd (q.1.symm.trans w) (by decide))).2
      have v1_7 := y1_7 w
      have v1_8 := (y1_8.resolve_left (fun q => absurd (q.1.symm.trans w) (by decide))).2
      have v1_9 := (y1_9.resolve_left (fun q => absurd (q.1.symm.trans w) (by decide))).2
      have v1_10 := (y1_10.resolve_left (fun q => absurd (q.1.symm.trans w) (by decide))).2
      have v2_0 := (y2_0.resolve_right (fun q => absurd (q.1.symm.trans v) (by decide))).2
      have v2_2 := (y2_2.resolve_left (fun q => absurd (q.1.symm.trans v) (by decide))).2
      have v2_3 := (y2_3.resolve_left (fun q => absurd (q.1.symm.trans v) (by decide))).2
      have v2_4 := y2_4 v
      have v2_6 := (y2_6.resolve_left (fun q => absurd (q.1.symm.trans v) (by decide))).2
      have v2_7 := (y2_7.resolve_left (fun q => absurd (q.1.symm.trans v) (by decide))).2
      have v2_8 := (y2_8.resolve_left (fun q => absurd (q.1.symm.trans v) (by decide))).2
      have v2_9 := (y2_9.resolve_left (fun q => absurd (q.1.symm.trans v) (by decide))).2
      clear y1_0 y1_1 y1_2 y1_3 y1_4 y1_5 y1_6 y1_7 y1_8 y1_9 y1_10 y2_0 y2_2 y2_3 y2_4 y2_5 y2_6 y2_7 y2_8 y2_9
      exact ⟨mm_eq_const (mm_al_fr v1_3.1 g2 (by decide)) v2_4.1, mm_eq_const (mm_al_fr v1_3.2.1 g2 (by decide)) v2_4.2.1, mm_eq_nil (by omega), mm_eq_nil (by omega), mm_eq_nil (by omega), mm_eq_nil (by omega), mm_tk_nil (by omega), mm_cb_nil (by omega), mm_fb_nil (by omega), mm_eq_const (mm_al_fr v1_3.2.2.1 g2 (by decide)) v2_4.2.2.1, mm_eq_const (mm_al_fr v1_3.2.2.2.1 g2 (by decide)) v2_4.2.2.2.1, mm_eq_const (mm_al_fr v1_3.2.2.2.2.1 g2 (by decide)) v2_4.2.2.2.2, (by unfold mm_go; rw [show h2.2.1 6 8 = 2 from (g2.2 6 (by decide) 8).trans v1_3.2.2.2.2.2]; omega), mm_eq_nil (by omega), mm_eq_nil (by omega), mm_it_nil (by omega), mm_br_nil (by omega), (by unfold mm_gn; omega), mm_pc_nil (by omega), mm_bv_nil (by omega), mm_eq_nil (by omega), mm_eq_nil (by omega), mm_eq_nil (by omega), mm_eq_nil (by omega), mm_eq_nil (by omega), mm_eq_nil (by omega), mm_ah_nil (by omega), mm_pw9_nil ((g2.2 44 (by decide) 0).trans v1_7.1) ((g2.2 44 (by decide) 1).trans v1_7.2.1) ((g2.2 44 (by decide) 2).trans v1_7.2.2) (by omega), mm_eq_nil (by omega), mm_ep8_nil (by omega), mm_ab8_nil (by omega), mm_eq_nil (by omega), mm_cJ_nil (by omega) (by omega), mm_pt9_nil (by omega) (by omega) (by omega), mm_tm9_nil (by omega), by omega, by omega, by omega, by omega, by omega, by omega, by omega, by omega, by omega, by omega, by omega⟩
    · have v1_0 := (y1_0.resolve_left (fun q => absurd (q.1.symm.trans w) (by decide))).2
      have v1_1 := (y1_1.resolve_right (fun q => absurd (q.1.symm.trans w) (by decide))).2
      have v1_2 := (y1_2.resolve_right (fun q => absurd (q.1.symm.trans w) (by decide))).2
      have v1_4 := y1_4 w
      have v1_5 := (y1_5.resolve_right (fun q => absurd (q.1.symm.trans w) (by decide))).2
      have v1_6 := (y1_6.resolve_right (fun q => absurd (q.1.symm.trans w) (by decide))).2
      have v1_8 := (y1_8.resolve_right (fun q => absurd (q.1.symm.trans w) (by decide))).2
      have v1_9 := (y1_9.resolve_right (fun q => absurd (q.1.symm.trans w) (by decide))).2
      have v1_10 := (y1_10.resolve_right (fun q => absurd (q.1.symm.trans w) (by decide))).2
      have v2_0 := (y2_0.resolve_left (fun q => absurd (q.1.symm.trans v) (by decide))).2
      have v2_2 := (y2_2.resolve_right (fun q => absurd (q.1.symm.trans v) (by decide))).2
      have v2_3 := (y2_3.resolve_right (fun q => absurd (q.1.symm.trans v) (by decide))).2
      have v2_5 := y2_5 v
      have v2_6 := (y2_6.resolve_right (fun q => absurd (q.1.symm.trans v) (by decide))).2
      have v2_7 := (y2_7.resolve_right (fun q => absurd (q.1.symm.trans v) (by decide))).2
      have v2_8 := (y2_8.resolve_right (fun q => absurd (q.1.symm.trans v) (by decide))).2
      have v2_9 := (y2_9.resolve_right (fun q => absurd (q.1.symm.trans v) (by decide))).2
      clear y1_0 y1_1 y1_2 y1_3 y1_4 y1_5 y1_6 y1_7 y1_8 y1_9 y1_10 y2_0 y2_2 y2_3 y2_4 y2_5 y2_6 y2_7 y2_8 y2_9
      exact ⟨mm_eq_keep ra0 v1_4 v2_5 (by omega), mm_eq_keep ra1 v1_4 v2_5 (by omega), mm_eq_keep ra2 v1_4 v2_5 (by omega), mm_eq_keep ra3 v1_4 v2_5 (by omega), mm_eq_keep ra4 v1_4 v2_5 (by omega), mm_eq_keep ra5 v1_4 v2_5 (by omega), mm_tk_sm ra6 (fun j => (v2_5 18 j).trans (v1_4 18 j)) (fun j => (v2_5 85 j).trans (v1_4 85 j)) (by omega) (by omega), mm_cb_sm ra7 (fun j => (v2_5 85 j).trans (v1_4 85 j)) (by omega) (by omega), mm_fb_sm ra8 (fun j => (v2_5 20 j).trans (v1_4 20 j)) (by omega), mm_eq_keep ra9 v1_4 v2_5 (by omega), mm_eq_keep ra10 v1_4 v2_5 (by omega), mm_eq_keep ra11 v1_4 v2_5 (by omega), mm_go_sm ra13 (fun j => (v2_5 6 j).trans (v1_4 6 j)) (by omega) (by omega) (by omega) (by omega) (by omega) (by omega), mm_eq_keep ra14 v1_4 v2_5 (by omega), mm_eq_keep ra15 v1_4 v2_5 (by omega), mm_it_sm ra16 (fun j => (v2_5 28 j).trans (v1_4 28 j)) (fun j => (v2_5 88 j).trans (v1_4 88 j)) (by omega), mm_br_sm ra17 (fun j => (v2_5 21 j).trans (v1_4 21 j)) (fun j => (v2_5 82 j).trans (v1_4 82 j)) (fun j => (v2_5 84 j).trans (v1_4 84 j)) (fun j => (v2_5 19 j).trans (v1_4 19 j)) (by omega), mm_gn_sm ra18  (by omega) (by omega) (by omega) (by omega) (by omega), mm_pc_sm ra19 (fun j => (v2_5 15 j).trans (v1_4 15 j)) (by omega) (by omega) (by omega), mm_bv_sm ra20 (fun j => (v2_5 21 j).trans (v1_4 21 j)) (fun j => (v2_5 19 j).trans (v1_4 19 j)) (by omega) (by omega), mm_eq_keep ra21 v1_4 v2_5 (by omega), mm_eq_keep ra22 v1_4 v2_5 (by omega), mm_eq_keep ra23 v1_4 v2_5 (by omega), mm_eq_keep ra24 v1_4 v2_5 (by omega), mm_eq_keep ra25 v1_4 v2_5 (by omega), mm_eq_keep ra26 v1_4 v2_5 (by omega), mm_ah_sm ra27 (fun j => (v2_5 27 j).trans (v1_4 27 j)) (fun j => (v2_5 88 j).trans (v1_4 88 j)) (fun j => (v2_5 89 j).trans (v1_4 89 j)) (by omega), mm_pw9_sm ra28 (fun j => (v2_5 44 j).trans (v1_4 44 j)) (fun j => (v2_5 102 j).trans (v1_4 102 j)) (by omega) (by omega), mm_eq_keep ra29 v1_4 v2_5 (by omega), mm_ep8_sm ra30 (fun j => (v2_5 31 j).trans (v1_4 31 j)) (fun j => (v2_5 33 j).trans (v1_4 33 j)) (fun j => (v2_5 94 j).trans (v1_4 94 j)) (by omega), mm_ab8_sm ra31 (fun j => (v2_5 27 j).trans (v1_4 27 j)) (fun j => (v2_5 88 j).trans (v1_4 88 j)) (fun j => (v2_5 89 j).trans (v1_4 89 j)) (fun j => (v2_5 90 j).trans (v1_4 90 j)) (by omega) (by omega), mm_eq_keep ra32 v1_4 v2_5 (by omega), mm_cJ_sm ra33 (fun j => (v2_5 43 j).trans (v1_4 43 j)) (fun j => (v2_5 103 j).trans (v1_4 103 j)) (fun j => (v2_5 104 j).trans (v1_4 104 j)) (fun j => (v2_5 105 j).trans (v1_4 105 j)) (fun j => (v2_5 106 j).trans (v1_4 106 j)) (fun j => (v2_5 107 j).trans (v1_4 107 j)) (by omega) (by omega) (by omega), mm_pt9_sm ra34 (fun j => (v2_5 37 j).trans (v1_4 37 j)) (fun j => (v2_5 38 j).trans (v1_4 38 j)) (fun j => (v2_5 39 j).trans (v1_4 39 j)) (fun j => (v2_5 40 j).trans (v1_4 40 j)) (fun j => (v2_5 41 j).trans (v1_4 41 j)) (fun j => (v2_5 112 j).trans (v1_4 112 j)) (fun j => (v2_5 114 j).trans (v1_4 114 j)) (fun j => (v2_5 115 j).trans (v1_4 115 j)) (fun j => (v2_5 116 j).trans (v1_4 116 j)) (by omega) (by omega) (by omega), mm_tm9_sm ra35 (fun j => (v2_5 29 j).trans (v1_4 29 j)) (fun j => (v2_5 90 j).trans (v1_4 90 j)) (by omega) (by omega), by omega, by omega, by omega, by omega, by omega, by omega, by omega, by omega, by omega, by omega, by omega⟩
  obtain ⟨rb0, rb1, rb2, rb3, rb4, rb5, rb6, rb7, rb8, rb9, rb10, rb11, rb13, rb14, rb15, rb16, rb17, rb18, rb19, rb20, rb21, rb22, rb23, rb24, rb25, rb26, rb27, rb28, rb29, rb30, rb31, rb32, rb33, rb34, rb35, sc0_9, sc1_9, sc2_9, sc3_9, sc4_9, sc5_9, sc6_9, sc7_9, sc8_9, sc9_9, sc10_9⟩ := zALL
  clear y1_0 y1_1 y1_2 y1_3 y1_4 y1_5 y1_6 y1_7 y1_8 y1_9 y1_10 y2_0 y2_2 y2_3 y2_4 y2_5 y2_6 y2_7 y2_8 y2_9
  have qa2 : h2.2.1 124 0 = h1.2.1 124 0 := g2.2 124 (by decide) 0
  refine mm_pop C (mm_dec dk_law0 50 rfl) (show (0 : Nat) ≠ 1 by decide) ?_
  refine mm_goto (tgt := 1668) C (mm_dec dk_law0 51 rfl) (by decide) ?_
  have ze := mm_zf_eq (show h2.1 58 5 = h.1 58 5 from (g2.1 58 5 (by decide)).trans ((g1.1 58 5 (by decide)).trans (rfl)))
  refine mm_widen (k := mm_aA (i + 6) h2) (n := mm_bB (i + 6) h2) (by rw [show mm_aA (i + 6) h2 = 200 + (i + 6).toNat + (mm_zf h).1 from by unfold mm_aA; rw [ze]]; omega) (by rw [show mm_bB (i + 6) h2 = 90000 + 6 * (i + 6).toNat + (mm_zf h).2 from by unfold mm_bB; rw [ze]]; omega) ?_
  exact K h2 i2 (y2_1) (by unfold mm_Rl; exact ⟨by omega, by omega, by omega, by omega, by omega, by omega, by omega, by omega, by omega, by omega, by omega, by omega, by omega, rb0, rb1, mm_eq_le (rb2) (by omega), mm_eq_le (rb3) (by omega), mm_eq_le (rb4) (by omega), mm_eq_le (rb5) (by omega), rb6, rb7, rb8, rb9, rb10, rb11, mm_eq_le (mm_eq_fr (mm_eq_fr (ra12) g1 (by decide) (by decide)) g2 (by decide) (by decide)) (by omega), rb13, mm_eq_le (rb14) (by omega), mm_eq_le (rb15) (by omega), rb16, rb17, rb18, rb19, rb20, mm_eq_le (rb21) (by omega), mm_eq_le (rb22) (by omega), mm_eq_le (rb23) (by omega), mm_eq_le (rb24) (by omega), mm_eq_le (rb25) (by omega), mm_eq_le (rb26) (by omega), rb27, rb28, mm_eq_le (rb29) (by omega), rb30, rb31, mm_eq_le (rb32) (by omega), rb33, rb34, rb35⟩)
