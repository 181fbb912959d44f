def mm_hd (P : Prop) : Prop := P
theorem mm_hd_x {P : Prop} (h : mm_hd P) : P := h
set_option maxRecDepth 100000 in
set_option maxHeartbeats 4000000 in
theorem lw_c0 {x : mX} {L : Nat} {xs : Nat → Int32} (C : mm_OK 60 601024 7293034 code RL 8 ret x) (X : mm_scr x L xs) (hl : x.2.1.stackTraces = false) (hL : L ≤ 3072) (i : Int) (hi : 0 ≤ i ∧ i + 6 ≤ L) (h : mH) (i0 : mm_inv h) (r0 : mm_RO h) (rl0 : mm_Rl h) (K : mm_K x i) : mm_W x (mm_aA i h) (mm_bB i h) 180 (mm_lls i) [] h := by
  have zl := mm_zf_le h
  have ea : mm_aA i h = 200 + i.toNat + (mm_zf h).1 := rfl
  have eb : mm_bB i h = 90000 + 6 * i.toNat + (mm_zf h).2 := rfl
  obtain ⟨rs0, rs1, rs2, rs3, rs4, rs5, rs6, rs7, rs8, rs9, rs10, ra0, ra1, ra2, ra3, ra4, ra5, ra6, ra7, ra8, ra9, ra10, ra11, ra12, ra13, ra14, ra15, ra16, ra17, ra18, ra19, ra20, ra21, ra22, ra23, ra24, ra25, ra26, ra27, ra28, ra29, ra30, ra31⟩ := rl0
  refine mm_aload_n C (mm_dec dk_law0 25 rfl) rfl ?_
  refine mm_aload_n C (mm_dec dk_law0 26 rfl) rfl ?_
  refine mm_iload C (mm_dec dk_law0 27 rfl) rfl ?_
  refine mm_iconst C (mm_dec dk_law0 28 rfl) ⟨by decide, by decide⟩ ?_
  refine mm_iadd C (mm_dec dk_law0 29 rfl) ⟨by omega, by omega⟩ ?_
  refine mm_sld C X (mm_dec dk_law0 30 rfl) (by omega) (by omega) ?_
  refine mm_aload_n C (mm_dec dk_law0 31 rfl) rfl ?_
  refine mm_iload C (mm_dec dk_law0 32 rfl) rfl ?_
  refine mm_iconst C (mm_dec dk_law0 33 rfl) ⟨by decide, by decide⟩ ?_
  refine mm_iadd C (mm_dec dk_law0 34 rfl) ⟨by omega, by omega⟩ ?_
  refine mm_sld C X (mm_dec dk_law0 35 rfl) (by omega) (by omega) ?_
  refine mm_cVi (d := 59) (rest := []) C ev_L_109 (mm_dec dk_law0 36 rfl) (c_X11_land_q x.2.1 hl 59 (by decide) h i0 (mm_sc xs (i + 1)) (mm_sc xs (i + 2))) rfl rfl (Nat.le_of_ble_eq_true rfl) ⟨by omega, by omega⟩ rfl (fun r1 h1 hp1 => ?_) (fun _ _ q => q.elim)
  obtain ⟨b1, i1, g1, y1_0, y1_1, y1_2, y1_3, y1_4, y1_5, y1_6, y1_7, y1_8, y1_9⟩ := hp1
  have q1_66_1 : h1.1 66 1 = h.1 66 1 := g1.1 66 1 (by decide)
  have q1_66_2 : h1.1 66 2 = h.1 66 2 := g1.1 66 2 (by decide)
  have q1_66_22 : h1.1 66 22 = h.1 66 22 := g1.1 66 22 (by decide)
  have q1_66_23 : h1.1 66 23 = h.1 66 23 := g1.1 66 23 (by decide)
  have q1_66_21 : h1.1 66 21 = h.1 66 21 := g1.1 66 21 (by decide)
  have q1_66_24 : h1.1 66 24 = h.1 66 24 := g1.1 66 24 (by decide)
  have q1_0_12 : h1.1 0 12 = h.1 0 12 := g1.1 0 12 (by decide)
  have q1_66_56 : h1.1 66 56 = h.1 66 56 := g1.1 66 56 (by decide)
  have q1_66_58 : h1.1 66 58 = h.1 66 58 := g1.1 66 58 (by decide)
  have q1_66_40 : h1.1 66 40 = h.1 66 40 := g1.1 66 40 (by decide)
  have q1_66_82 : h1.1 66 82 = h.1 66 82 := g1.1 66 82 (by decide)
  have q1_66_41 : h1.1 66 41 = h.1 66 41 := g1.1 66 41 (by decide)
  have q1_66_3 : h1.1 66 3 = h.1 66 3 := g1.1 66 3 (by decide)
  have q1_66_9 : h1.1 66 9 = h.1 66 9 := g1.1 66 9 (by decide)
  have q1_66_10 : h1.1 66 10 = h.1 66 10 := g1.1 66 10 (by decide)
  have q1_66_11 : h1.1 66 11 = h.1 66 11 := g1.1 66 11 (by decide)
  have q1_66_12 : h1.1 66 12 = h.1 66 12 := g1.1 66 12 (by decide)
  have q1_66_67 : h1.1 66 67 = h.1 66 67 := g1.1 66 67 (by decide)
  have q1_66_68 : h1.1 66 68 = h.1 66 68 := g1.1 66 68 (by decide)
  have qa1 : h1.2.1 124 0 = h.2.1 124 0 := g1.2 124 (by decide) 0
  refine mm_pop C (mm_dec dk_law0 37 rfl) (show (0 : Nat) ≠ 1 by decide) ?_
  refine mm_aload_n C (mm_dec dk_law0 38 rfl) rfl ?_
  refine mm_aload_n C (mm_dec dk_law0 39 rfl) rfl ?_
  refine mm_iload C (mm_dec dk_law0 40 rfl) rfl ?_
  refine mm_iconst C (mm_dec dk_law0 41 rfl) ⟨by decide, by decide⟩ ?_
  refine mm_iadd C (mm_dec dk_law0 42 rfl) ⟨by omega, by omega⟩ ?_
  refine mm_sld C X (mm_dec dk_law0 43 rfl) (by omega) (by omega) ?_
  refine mm_aload_n C (mm_dec dk_law0 44 rfl) rfl ?_
  refine mm_iload C (mm_dec dk_law0 45 rfl) rfl ?_
  refine mm_iconst C (mm_dec dk_law0 46 rfl) ⟨by decide, by decide⟩ ?_
  refine mm_iadd C (mm_dec dk_law0 47 rfl) ⟨by omega, by omega⟩ ?_
  refine mm_sld C X (mm_dec dk_law0 48 rfl) (by omega) (by omega) ?_
  refine mm_cVi (d := 59) (rest := []) C ev_L_112 (mm_dec dk_law0 49 rfl) (c_X12_land_q x.2.1 hl 59 (by decide) h1 i1 (mm_sc xs (i + 1)) (mm_sc xs (i + 2)) (mm_RO_fr (r0) g1 (by decide))) rfl rfl (Nat.le_of_ble_eq_true rfl) ⟨by omega, by omega⟩ rfl (fun r2 h2 hp2 => ?_) (fun _ _ q => q.elim)
  obtain ⟨b2, i2, g2, y2_0, y2_1, y2_2, y2_3, y2_4, y2_5, y2_6, y2_7, y2_8, y2_9⟩ := hp2
  have q2_1_5 : h2.1 1 5 = h1.1 1 5 := g2.1 1 5 (by decide)
  have q2_1_6 : h2.1 1 6 = h1.1 1 6 := g2.1 1 6 (by decide)
  have q2_14_8 : h2.1 14 8 = h1.1 14 8 := g2.1 14 8 (by decide)
  have q2_22_8 : h2.1 22 8 = h1.1 22 8 := g2.1 22 8 (by decide)
  have q2_14_7 : h2.1 14 7 = h1.1 14 7 := g2.1 14 7 (by decide)
  have q2_22_9 : h2.1 22 9 = h1.1 22 9 := g2.1 22 9 (by decide)
  have q2_0_12 : h2.1 0 12 = h1.1 0 12 := g2.1 0 12 (by decide)
  have q2_66_56 : h2.1 66 56 = h1.1 66 56 := g2.1 66 56 (by decide)
  have q2_0_14 : h2.1 0 14 = h1.1 0 14 := g2.1 0 14 (by decide)
  have q2_30_6 : h2.1 30 6 = h1.1 30 6 := g2.1 30 6 (by decide)
  have q2_30_12 : h2.1 30 12 = h1.1 30 12 := g2.1 30 12 (by decide)
  have q2_0_13 : h2.1 0 13 = h1.1 0 13 := g2.1 0 13 (by decide)
  have q2_1_7 : h2.1 1 7 = h1.1 1 7 := g2.1 1 7 (by decide)
  have q2_1_8 : h2.1 1 8 = h1.1 1 8 := g2.1 1 8 (by decide)
  have q2_66_68 : h2.1 66 68 = h1.1 66 68 := g2.1 66 68 (by decide)
  have rb0 : mm_eq h2 2 67 399 := by
    by_cases w : r1 = 1
    · exact mm_eq_const (mm_al_fr (y1_3 w).1 g2 (by decide)) (y2_4 (by omega)).1
    · exact mm_eq_keep ra0 (y1_4 (by omega)) (y2_5 (by omega)) (by omega)
  have rb1 : mm_eq h2 6 69 7 := by
    by_cases w : r1 = 1
    · exact mm_eq_const (mm_al_fr (y1_3 w).2.1 g2 (by decide)) (y2_4 (by omega)).2.1
    · exact mm_eq_keep ra1 (y1_4 (by omega)) (y2_5 (by omega)) (by omega)
  have rb2 : mm_eq h2 15 78 (h2.1 14 7 - 1) := by
    by_cases w : r1 = 1
    · exact mm_eq_nil (by omega)
    · exact mm_eq_keep ra2 (y1_4 (by omega)) (y2_5 (by omega)) (by omega)
  have rb3 : mm_eq h2 17 83 (h2.1 14 8 - 1) := by
    by_cases w : r1 = 1
    · exact mm_eq_nil (by omega)
    · exact mm_eq_keep ra3 (y1_4 (by omega)) (y2_5 (by omega)) (by omega)
  have rb4 : mm_eq h2 19 80 (h2.1 14 8 - 1) := by
    by_cases w : r1 = 1
    · exact mm_eq_nil (by omega)
    · exact mm_eq_keep ra4 (y1_4 (by omega)) (y2_5 (by omega)) (by omega)
  have rb5 : mm_eq h2 20 81 (h2.1 14 8 - 1) := by
    by_cases w : r1 = 1
    · exact mm_eq_nil (by omega)
    · exact mm_eq_keep ra5 (y1_4 (by omega)) (y2_5 (by omega)) (by omega)
  have rb6 : mm_tk h2 := by
    by_cases w : r1 = 1
    · exact mm_tk_nil (by omega)
    · exact mm_tk_sm ra6 (fun j => (y2_5 (by omega) 18 j).trans (y1_4 (by omega) 18 j)) (fun j => (y2_5 (by omega) 85 j).trans (y1_4 (by omega) 85 j)) (by omega) (by omega)
  have rb7 : mm_cb h2 := by
    by_cases w : r1 = 1
    · exact mm_cb_nil (by omega)
    · exact mm_cb_sm ra7 (fun j => (y2_5 (by omega) 85 j).trans (y1_4 (by omega) 85 j)) (by omega) (by omega)
  have rb8 : mm_fb h2 := by
    by_cases w : r1 = 1
    · exact mm_fb_nil (by omega)
    · exact mm_fb_sm ra8 (fun j => (y2_5 (by omega) 20 j).trans (y1_4 (by omega) 20 j)) (by omega)
  have rb9 : mm_eq h2 3 68 399 := by
    by_cases w : r1 = 1
    · exact mm_eq_const (mm_al_fr (y1_3 w).2.2.1 g2 (by decide)) (y2_4 (by omega)).2.2.1
    · exact mm_eq_keep ra9 (y1_4 (by omega)) (y2_5 (by omega)) (by omega)
  have rb10 : mm_eq h2 4 70 399 := by
    by_cases w : r1 = 1
    · exact mm_eq_const (mm_al_fr (y1_3 w).2.2.2.1 g2 (by decide)) (y2_4 (by omega)).2.2.2.1
    · exact mm_eq_keep ra10 (y1_4 (by omega)) (y2_5 (by omega)) (by omega)
  have rb11 : mm_eq h2 5 71 399 := by
    by_cases w : r1 = 1
    · exact mm_eq_const (mm_al_fr (y1_3 w).2.2.2.2.1 g2 (by decide)) (y2_4 (by omega)).2.2.2.2
    · exact mm_eq_keep ra11 (y1_4 (by omega)) (y2_5 (by omega)) (by omega)
  have rb13 : mm_go h2 := by
    by_cases w : r1 = 1
    · exact (by unfold mm_go; rw [show h2.2.1 6 8 = 2 from (g2.2 6 (by decide) 8).trans (y1_3 w).2.2.2.2.2]; omega)
    · exact mm_go_sm ra13 (fun j => (y2_5 (by omega) 6 j).trans (y1_4 (by omega) 6 j)) (by omega) (by omega) (by omega) (by omega) (by omega) (by omega)
  have rb14 : mm_eq h2 23 85 (h2.1 22 8 - 1) := by
    by_cases w : r1 = 1
    · exact mm_eq_nil (by omega)
    · exact mm_eq_keep ra14 (y1_4 (by omega)) (y2_5 (by omega)) (by omega)
  have rb15 : mm_eq h2 25 87 (h2.1 22 8 - 1) := by
    by_cases w : r1 = 1
    · exact mm_eq_nil (by omega)
    · exact mm_eq_keep ra15 (y1_4 (by omega)) (y2_5 (by omega)) (by omega)
  have rb16 : mm_it h2 := by
    by_cases w : r1 = 1
    · exact mm_it_nil (by omega)
    · exact mm_it_sm ra16 (fun j => (y2_5 (by omega) 28 j).trans (y1_4 (by omega) 28 j)) (fun j => (y2_5 (by omega) 88 j).trans (y1_4 (by omega) 88 j)) (by omega)
  have rb17 : mm_br h2 := by
    by_cases w : r1 = 1
    · exact mm_br_nil (by omega)
    · exact mm_br_sm ra17 (fun j => (y2_5 (by omega) 21 j).trans (y1_4 (by omega) 21 j)) (fun j => (y2_5 (by omega) 82 j).trans (y1_4 (by omega) 82 j)) (fun j => (y2_5 (by omega) 84 j).trans (y1_4 (by omega) 84 j)) (fun j => (y2_5 (by omega) 19 j).trans (y1_4 (by omega) 19 j)) (by omega)
  have rb18 : mm_gn h2 := by
    by_cases w : r1 = 1
    · exact (by unfold mm_gn; omega)
    · exact mm_gn_sm ra18  (by omega) (by omega) (by omega) (by omega) (by omega)
  have rb19 : mm_pc h2 := by
    by_cases w : r1 = 1
    · exact mm_pc_nil (by omega)
    · exact mm_pc_sm ra19 (fun j => (y2_5 (by omega) 15 j).trans (y1_4 (by omega) 15 j)) (by omega) (by omega) (by omega)
  have rb20 : mm_bv h2 := by
    by_cases w : r1 = 1
    · exact mm_bv_nil (by omega)
    · exact mm_bv_sm ra20 (fun j => (y2_5 (by omega) 21 j).trans (y1_4 (by omega) 21 j)) (fun j => (y2_5 (by omega) 19 j).trans (y1_4 (by omega) 19 j)) (by omega) (by omega)
  have rb21 : mm_eq h2 31 92 (h2.1 30 6 - 1) := by
    by_cases w : r1 = 1
    · exact mm_eq_nil (by omega)
    · exact mm_eq_keep ra21 (y1_4 (by omega)) (y2_5 (by omega)) (by omega)
  have rb22 : mm_eq h2 32 93 (h2.1 30 6 - 1) := by
    by_cases w : r1 = 1
    · exact mm_eq_nil (by omega)
    · exact mm_eq_keep ra22 (y1_4 (by omega)) (y2_5 (by omega)) (by omega)
  have rb23 : mm_eq h2 35 96 (h2.1 30 6 - 1) := by
    by_cases w : r1 = 1
    · exact mm_eq_nil (by omega)
    · exact mm_eq_keep ra23 (y1_4 (by omega)) (y2_5 (by omega)) (by omega)
  have rb24 : mm_eq h2 36 97 (h2.1 30 6 - 1) := by
    by_cases w : r1 = 1
    · exact mm_eq_nil (by omega)
    · exact mm_eq_keep ra24 (y1_4 (by omega)) (y2_5 (by omega)) (by omega)
  have rb25 : mm_eq h2 40 113 (h2.1 30 12 - 1) := by
    by_cases w : r1 = 1
    · exact mm_eq_nil (by omega)
    · exact mm_eq_keep ra25 (y1_4 (by omega)) (y2_5 (by omega)) (by omega)
  have rb26 : mm_eq h2 24 86 (h2.1 22 8 - 1) := by
    by_cases w : r1 = 1
    · exact mm_eq_nil (by omega)
    · exact mm_eq_keep ra26 (y1_4 (by omega)) (y2_5 (by omega)) (by omega)
  have rb27 : mm_ah h2 := by
    by_cases w : r1 = 1
    · exact mm_ah_nil (by omega)
    · exact mm_ah_sm ra27 (fun j => (y2_5 (by omega) 27 j).trans (y1_4 (by omega) 27 j)) (fun j => (y2_5 (by omega) 88 j).trans (y1_4 (by omega) 88 j)) (fun j => (y2_5 (by omega) 89 j).trans (y1_4 (by omega) 89 j)) (by omega)
  have rb28 : mm_pw9 h2 := by
    by_cases w : r1 = 1
    · exact mm_pw9_nil ((g2.2 44 (by decide) 0).trans (y1_7 w).1) ((g2.2 44 (by decide) 1).trans (y1_7 w).2.1) ((g2.2 44 (by decide) 2).trans (y1_7 w).2.2) (by omega)
    · exact mm_pw9_sm ra28 (fun j => (y2_5 (by omega) 44 j).trans (y1_4 (by omega) 44 j)) (fun j => (y2_5 (by omega) 102 j).trans (y1_4 (by omega) 102 j)) (by omega) (by omega)
  have rb29 : mm_eq h2 34 95 (h2.1 30 6 - 1) := by
    by_cases w : r1 = 1
    · exact mm_eq_nil (by omega)
    · exact mm_eq_keep ra29 (y1_4 (by omega)) (y2_5 (by omega)) (by omega)
  have rb30 : mm_ep8 h2 := by
    by_cases w : r1 = 1
    · exact mm_ep8_nil (by omega)
    · exact mm_ep8_sm ra30 (fun j => (y2_5 (by omega) 31 j).trans (y1_4 (by omega) 31 j)) (fun j => (y2_5 (by omega) 33 j).trans (y1_4 (by omega) 33 j)) (fun j => (y2_5 (by omega) 94 j).trans (y1_4 (by omega) 94 j)) (by omega)
  have rb31 : mm_ab8 h2 := by
    by_cases w : r1 = 1
    · exact mm_ab8_nil (by omega)
    · exact mm_ab8_sm ra31 (fun j => (y2_5 (by omega) 27 j).trans (y1_4 (by omega) 27 j)) (fun j => (y2_5 (by omega) 88 j).trans (y1_4 (by omega) 88 j)) (fun j => (y2_5 (by omega) 89 j).trans (y1_4 (by omega) 89 j)) (fun j => (y2_5 (by omega) 90 j).trans (y1_4 (by omega) 90 j)) (by omega) (by omega)
  have qa2 : h2.2.1 124 0 = h1.2.1 124 0 := g2.2 124 (by decide) 0
  refine mm_pop C (mm_dec dk_law0 50 rfl) (show (0 : Nat) ≠ 1 by decide) ?_
  refine mm_goto (tgt := 1668) C (mm_dec dk_law0 51 rfl) (by decide) ?_
  have ze := mm_zf_eq (show h2.1 58 5 = h.1 58 5 from (g2.1 58 5 (by decide)).trans ((g1.1 58 5 (by decide)).trans (rfl)))
  refine mm_widen (k := mm_aA (i + 6) h2) (n := mm_bB (i + 6) h2) (by rw [show mm_aA (i + 6) h2 = 200 + (i + 6).toNat + (mm_zf h).1 from by unfold mm_aA; rw [ze]]; omega) (by rw [show mm_bB (i + 6) h2 = 90000 + 6 * (i + 6).toNat + (mm_zf h).2 from by unfold mm_bB; rw [ze]]; omega) ?_
  exact K h2 i2 (y2_1) (by unfold mm_Rl; exact ⟨by omega, by omega, by omega, by omega, by omega, by omega, by omega, by omega, by omega, by omega, by omega, rb0, rb1, mm_eq_le (rb2) (by omega), mm_eq_le (rb3) (by omega), mm_eq_le (rb4) (by omega), mm_eq_le (rb5) (by omega), rb6, rb7, rb8, rb9, rb10, rb11, mm_eq_le (mm_eq_fr (mm_eq_fr (ra12) g1 (by decide) (by decide)) g2 (by decide) (by decide)) (by omega), rb13, mm_eq_le (rb14) (by omega), mm_eq_le (rb15) (by omega), rb16, rb17, rb18, rb19, rb20, mm_eq_le (rb21) (by omega), mm_eq_le (rb22) (by omega), mm_eq_le (rb23) (by omega), mm_eq_le (rb24) (by omega), mm_eq_le (rb25) (by omega), mm_eq_le (rb26) (by omega), rb27, rb28, mm_eq_le (rb29) (by omega), rb30, rb31⟩)
