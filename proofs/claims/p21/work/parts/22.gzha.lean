set_option maxRecDepth 100000 in
set_option maxHeartbeats 4000000 in
theorem c_X8_endClause_q (l : Launch) (hl : l.stackTraces = false) (d : Nat) (hd : 1 ≤ d) (h : mH) (i0 : mm_inv h) (p1 : Int) (p2 : Int) : mm_Met l d yX8_endClause cX8_endClause 3 none [mR 42, mI p1, mI p2] h (mm_pv fun h2 => mm_inv h2 ∧ mm_fr [(42, 5), (42, 6)] [] h h2 ∧ ((h2.1 42 5), (h2.1 42 6)) = mm_ed9 p1 p2 ((h.1 42 5), (h.1 42 6))) mm_nx 0 0 := by
  refine mm_ofW (ls := [mR 42, mI p1, mI p2]) hl (by decide) rfl (Nat.le_of_ble_eq_true rfl) ?_
  intro x hxl C T hnm htb
  subst hxl
  have C1 := mm_OK_le (d' := d - 1 + 1) (by omega) C
  refine mm_rng (fun hr _ => ?_)
  have ap1 : -2147483648 ≤ p1 ∧ p1 < 2147483648 := mm_ok_at hr (i := 1) rfl
  have ap2 : -2147483648 ≤ p2 ∧ p2 < 2147483648 := mm_ok_at hr (i := 2) rfl
  have f0 : mm_fr [(42, 5), (42, 6)] [] h h := mm_fr_rf
  have g1 : -2147483648 ≤ h.1 42 5 ∧ h.1 42 5 ≤ 2147483647 := i0.1 42 5
  have g2 : 0 ≤ h.1 42 6 ∧ h.1 42 6 ≤ 1 := i0.1 42 6
  refine mm_iload_n C (mm_dec dk_X8_endClause 0 rfl) rfl ?_
  refine mm_ldc (z := 100020) C (mm_dec dk_X8_endClause 1 rfl) kc_X8_60 (by decide) ?_
  have J40 : ∀ (h40_ : mH) (i40_ : mm_inv h40_) (f40_ : mm_fr [(42, 5), (42, 6)] [] h h40_) (w40_0 : ((h40_.1 42 5), (h40_.1 42 6)) = mm_ed9 p1 p2 ((h.1 42 5), (h.1 42 6))), mm_W x 0 0 40 [mU, mU, mU] [] h40_ := by
    intro h40_ i40_ f40_ w40_0
    have g3 : -2147483648 ≤ h40_.1 42 5 ∧ h40_.1 42 5 ≤ 2147483647 := i40_.1 42 5
    have g4 : 0 ≤ h40_.1 42 6 ∧ h40_.1 42 6 ≤ 1 := i40_.1 42 6
    exact mm_vret C T (mm_dec dk_X8_endClause 19 rfl) (by decide : 0 ≤ 0) (by decide : 0 ≤ 0) ⟨rfl, ⟨i40_, f40_, by exact w40_0⟩⟩
  refine mm_icmp_ne (tgt := 31) C (mm_dec dk_X8_endClause 2 rfl) (by decide) (fun c3 => ?_) (fun c3 => ?_)
  · skip
    refine mm_iload_n C (mm_dec dk_X8_endClause 14 rfl) rfl ?_
    refine mm_if_eq (tgt := 40) C (mm_dec dk_X8_endClause 15 rfl) (by decide) (fun c32 => ?_) (fun c32 => ?_)
    · skip
      refine mm_fgt 0 ?_
      refine mm_fgt 1 ?_
      refine mm_fgt 2 ?_
      exact J40 h i0 f0 (by first | exact (mm_two (by omega) (by omega)).trans (mm_ed9_n (by omega) (by omega)).symm | exact (mm_two (by omega) (by omega)).trans (mm_ed9_y (by omega) (by omega)).symm | exact (mm_two ((show _ = mm_w (h.1 42 5 + r21) by omega).trans (congrArg mm_w (congrArg (fun z => h.1 42 5 + z) (show r21 = mm_clp p2 from by unfold mm_clp; (repeat' split) <;> omega)))) (by omega)).trans (mm_ed9_p (by omega)).symm)
    · skip
      refine mm_aload_n C (mm_dec dk_X8_endClause 16 rfl) rfl ?_
      refine mm_iconst C (mm_dec dk_X8_endClause 17 rfl) ⟨by decide, by decide⟩ ?_
      refine mm_puti C fl_X8_31 (mm_dec dk_X8_endClause 18 rfl) rfl rfl rfl (Or.inr ⟨rfl, rfl, by omega⟩) ?_
      have i1 : mm_inv (mm_pf h 42 6 1) := mm_inv_pf i0 (show 0 ≤ 1 ∧ 1 ≤ 1 from ⟨by omega, by omega⟩) (by decide)
      have f1 : mm_fr [(42, 5), (42, 6)] [] h (mm_pf h 42 6 1) := mm_fr_pf f0 (by decide)
      obtain ⟨h1, eh1⟩ : ∃ z, z = mm_pf h 42 6 1 := ⟨_, rfl⟩
      rw [← eh1] at i1 f1 ⊢
      have qh1 : h1.1 42 6 = 1 := by rw [eh1]; exact mm_pf_same _ _ _ _
      have qh1_5 : h1.1 42 5 = h.1 42 5 := by rw [eh1]; exact mm_pf_ne _ _ (by decide)
      refine mm_fgt 0 ?_
      refine mm_fgt 1 ?_
      refine mm_fgt 2 ?_
      exact J40 h1 i1 f1 (by first | exact (mm_two (by omega) (by omega)).trans (mm_ed9_n (by omega) (by omega)).symm | exact (mm_two (by omega) (by omega)).trans (mm_ed9_y (by omega) (by omega)).symm | exact (mm_two ((show _ = mm_w (h.1 42 5 + r21) by omega).trans (congrArg mm_w (congrArg (fun z => h.1 42 5 + z) (show r21 = mm_clp p2 from by unfold mm_clp; (repeat' split) <;> omega)))) (by omega)).trans (mm_ed9_p (by omega)).symm)
  · skip
    refine mm_aload_n C (mm_dec dk_X8_endClause 3 rfl) rfl ?_
    refine mm_dup C (mm_dec dk_X8_endClause 4 rfl) (show (2 : Nat) ≠ 1 by decide) ?_
    refine mm_geti C fl_X8_28 (mm_dec dk_X8_endClause 5 rfl) rfl rfl (Or.inl rfl) ?_
    refine mm_sipush C (mm_dec dk_X8_endClause 6 rfl) ⟨by decide, by decide⟩ ?_
    refine mm_sipush C (mm_dec dk_X8_endClause 7 rfl) ⟨by decide, by decide⟩ ?_
    refine mm_iload_n C (mm_dec dk_X8_endClause 8 rfl) rfl ?_
    refine mm_mmin C1 ml_X8_69 sm_J9_min_7cf53 mw_J9_min_7cf53.2.1 mw_J9_min_7cf53.1 (mm_dec dk_X8_endClause 9 rfl) (Nat.le_of_ble_eq_true rfl) ⟨by decide, by decide⟩ (fun r18 hr18 => ?_)
    refine mm_mmax C1 ml_X8_75 sm_J9_max_7cf53 mw_J9_max_7cf53.2.1 mw_J9_max_7cf53.1 (mm_dec dk_X8_endClause 10 rfl) (Nat.le_of_ble_eq_true rfl) ⟨by decide, by decide⟩ (fun r21 hr21 => ?_)
    refine mm_iaddw C (mm_dec dk_X8_endClause 11 rfl) ?_
    have g6 : -2147483648 ≤ (mm_w ((h.1 42 5) + r21)) ∧ (mm_w ((h.1 42 5) + r21)) < 2147483648 := mm_w_rg _
    refine mm_puti C fl_X8_28 (mm_dec dk_X8_endClause 12 rfl) rfl rfl rfl (Or.inl ⟨rfl, rfl⟩) ?_
    have i2 : mm_inv (mm_pf h 42 5 (mm_w ((h.1 42 5) + r21))) := mm_inv_pf i0 (show -2147483648 ≤ (mm_w ((h.1 42 5) + r21)) ∧ (mm_w ((h.1 42 5) + r21)) ≤ 2147483647 from ⟨by omega, by omega⟩) (by decide)
    have f2 : mm_fr [(42, 5), (42, 6)] [] h (mm_pf h 42 5 (mm_w ((h.1 42 5) + r21))) := mm_fr_pf f0 (by decide)
    obtain ⟨h2, eh2⟩ : ∃ z, z = mm_pf h 42 5 (mm_w ((h.1 42 5) + r21)) := ⟨_, rfl⟩
    rw [← eh2] at i2 f2 ⊢
    have qh2 : h2.1 42 5 = (mm_w ((h.1 42 5) + r21)) := by rw [eh2]; exact mm_pf_same _ _ _ _
    have qh2_7 : h2.1 42 6 = h.1 42 6 := by rw [eh2]; exact mm_pf_ne _ _ (by decide)
    refine mm_goto (tgt := 40) C (mm_dec dk_X8_endClause 13 rfl) (by decide) ?_
    refine mm_fgt 0 ?_
    refine mm_fgt 1 ?_
    refine mm_fgt 2 ?_
    exact J40 h2 i2 f2 (by first | exact (mm_two (by omega) (by omega)).trans (mm_ed9_n (by omega) (by omega)).symm | exact (mm_two (by omega) (by omega)).trans (mm_ed9_y (by omega) (by omega)).symm | exact (mm_two ((show _ = mm_w (h.1 42 5 + r21) by omega).trans (congrArg mm_w (congrArg (fun z => h.1 42 5 + z) (show r21 = mm_clp p2 from by unfold mm_clp; (repeat' split) <;> omega)))) (by omega)).trans (mm_ed9_p (by omega)).symm)
set_option maxRecDepth 100000 in
set_option maxHeartbeats 4000000 in
theorem c_X8_apply_47_q (l : Launch) (hl : l.stackTraces = false) (d : Nat) (hd : 2 ≤ d) (h : mH) (i0 : mm_inv h) : mm_Met l d yX8_apply cX8_apply 5 none [mR 42, mR 47] h (mm_pv fun h2 => mm_inv h2 ∧ mm_fr [(42, 4), (42, 5), (42, 6)] [45] h h2 ∧ (h2.1 42 5, h2.1 42 6) = (mm_yf (h.2.1 47) (h.2.1 44) (h.2.1 43) (h.1 42 3).toNat).2) mm_nx 0 0 := by
  refine mm_ofW (ls := [mR 42, mR 47, mU, mU, mU]) hl (by decide) rfl (Nat.le_of_ble_eq_true rfl) ?_
  intro x hxl C T hnm htb
  subst hxl
  have C1 := mm_OK_le (d' := d - 1 + 1) (by omega) C
  have f0 : mm_fr [(42, 4), (42, 5), (42, 6)] [45] h h := mm_fr_rf
  have g1 : 0 ≤ h.1 42 4 ∧ h.1 42 4 ≤ 64 := i0.1 42 4
  have g2 : -2147483648 ≤ h.1 42 5 ∧ h.1 42 5 ≤ 2147483647 := i0.1 42 5
  have g3 : 0 ≤ h.1 42 6 ∧ h.1 42 6 ≤ 1 := i0.1 42 6
  have g4 : 0 ≤ h.1 42 3 ∧ h.1 42 3 ≤ 500 := i0.1 42 3
  refine mm_aload_n C (mm_dec dk_X8_apply 0 rfl) rfl ?_
  refine mm_iconst C (mm_dec dk_X8_apply 1 rfl) ⟨by decide, by decide⟩ ?_
  refine mm_puti C fl_X8_25 (mm_dec dk_X8_apply 2 rfl) rfl rfl rfl (Or.inl ⟨rfl, rfl⟩) ?_
  have i1 : mm_inv (mm_pf h 42 4 0) := mm_inv_pf i0 (show 0 ≤ 0 ∧ 0 ≤ 64 from ⟨by omega, by omega⟩) (by decide)
  have f1 : mm_fr [(42, 4), (42, 5), (42, 6)] [45] h (mm_pf h 42 4 0) := mm_fr_pf f0 (by decide)
  obtain ⟨h1, eh1⟩ : ∃ z, z = mm_pf h 42 4 0 := ⟨_, rfl⟩
  rw [← eh1] at i1 f1 ⊢
  have qh1 : h1.1 42 4 = 0 := by rw [eh1]; exact mm_pf_same _ _ _ _
  have qh1_5 : h1.1 42 3 = h.1 42 3 := by rw [eh1]; exact mm_pf_ne _ _ (by decide)
  have qh1_6 : h1.1 42 5 = h.1 42 5 := by rw [eh1]; exact mm_pf_ne _ _ (by decide)
  have qh1_7 : h1.1 42 6 = h.1 42 6 := by rw [eh1]; exact mm_pf_ne _ _ (by decide)
  refine mm_aload_n C (mm_dec dk_X8_apply 3 rfl) rfl ?_
  refine mm_iconst C (mm_dec dk_X8_apply 4 rfl) ⟨by decide, by decide⟩ ?_
  refine mm_puti C fl_X8_28 (mm_dec dk_X8_apply 5 rfl) rfl rfl rfl (Or.inl ⟨rfl, rfl⟩) ?_
  have i2 : mm_inv (mm_pf h1 42 5 0) := mm_inv_pf i1 (show -2147483648 ≤ 0 ∧ 0 ≤ 2147483647 from ⟨by omega, by omega⟩) (by decide)
  have f2 : mm_fr [(42, 4), (42, 5), (42, 6)] [45] h (mm_pf h1 42 5 0) := mm_fr_pf f1 (by decide)
  obtain ⟨h2, eh2⟩ : ∃ z, z = mm_pf h1 42 5 0 := ⟨_, rfl⟩
  rw [← eh2] at i2 f2 ⊢
  have qh2 : h2.1 42 5 = 0 := by rw [eh2]; exact mm_pf_same _ _ _ _
  have qh2_8 : h2.1 42 3 = h1.1 42 3 := by rw [eh2]; exact mm_pf_ne _ _ (by decide)
  have qh2_9 : h2.1 42 4 = h1.1 42 4 := by rw [eh2]; exact mm_pf_ne _ _ (by decide)
  have qh2_10 : h2.1 42 6 = h1.1 42 6 := by rw [eh2]; exact mm_pf_ne _ _ (by decide)
  refine mm_aload_n C (mm_dec dk_X8_apply 6 rfl) rfl ?_
  refine mm_iconst C (mm_dec dk_X8_apply 7 rfl) ⟨by decide, by decide⟩ ?_
  refine mm_puti C fl_X8_31 (mm_dec dk_X8_apply 8 rfl) rfl rfl rfl (Or.inr ⟨rfl, rfl, by omega⟩) ?_
  have i3 : mm_inv (mm_pf h2 42 6 0) := mm_inv_pf i2 (show 0 ≤ 0 ∧ 0 ≤ 1 from ⟨by omega, by omega⟩) (by decide)
  have f3 : mm_fr [(42, 4), (42, 5), (42, 6)] [45] h (mm_pf h2 42 6 0) := mm_fr_pf f2 (by decide)
  obtain ⟨h3, eh3⟩ : ∃ z, z = mm_pf h2 42 6 0 := ⟨_, rfl⟩
  rw [← eh3] at i3 f3 ⊢
  have qh3 : h3.1 42 6 = 0 := by rw [eh3]; exact mm_pf_same _ _ _ _
  have qh3_11 : h3.1 42 3 = h2.1 42 3 := by rw [eh3]; exact mm_pf_ne _ _ (by decide)
  have qh3_12 : h3.1 42 4 = h2.1 42 4 := by rw [eh3]; exact mm_pf_ne _ _ (by decide)
  have qh3_13 : h3.1 42 5 = h2.1 42 5 := by rw [eh3]; exact mm_pf_ne _ _ (by decide)
  refine mm_iconst C (mm_dec dk_X8_apply 9 rfl) ⟨by decide, by decide⟩ ?_
  have J17 : ∀ (n : Nat) (x17_2 : Int) (bx17_2 : 0 ≤ x17_2 ∧ x17_2 ≤ 500) (h17_ : mH) (i17_ : mm_inv h17_) (f17_ : mm_fr [(42, 4), (42, 5), (42, 6)] [45] h h17_) (w17_0 : (mm_sX h17_, h17_.1 42 5, h17_.1 42 6) = mm_yf (h.2.1 47) (h.2.1 44) (h.2.1 43) (x17_2).toNat) (w17_1 : x17_2 ≤ h.1 42 3), (500 - x17_2 : Int) < n → mm_W x 0 0 17 [mR 42, mR 47, mI x17_2, mU, mU] [] h17_ := by
    intro n
    induction n with
    | zero =>
      intro x17_2 bx17_2 h17_ i17_ f17_ w17_0 w17_1 hm
      have g14 : 0 ≤ h17_.1 42 4 ∧ h17_.1 42 4 ≤ 64 := i17_.1 42 4
      have g15 : -2147483648 ≤ h17_.1 42 5 ∧ h17_.1 42 5 ≤ 2147483647 := i17_.1 42 5
      have g16 : 0 ≤ h17_.1 42 6 ∧ h17_.1 42 6 ≤ 1 := i17_.1 42 6
      have g17 : 0 ≤ h17_.1 42 3 ∧ h17_.1 42 3 ≤ 500 := i17_.1 42 3
      exfalso; omega
    | succ n ih17 =>
      intro x17_2 bx17_2 h17_ i17_ f17_ w17_0 w17_1 hm17
      have g18 : 0 ≤ h17_.1 42 4 ∧ h17_.1 42 4 ≤ 64 := i17_.1 42 4
      have g19 : -2147483648 ≤ h17_.1 42 5 ∧ h17_.1 42 5 ≤ 2147483647 := i17_.1 42 5
      have g20 : 0 ≤ h17_.1 42 6 ∧ h17_.1 42 6 ≤ 1 := i17_.1 42 6
      have g21 : 0 ≤ h17_.1 42 3 ∧ h17_.1 42 3 ≤ 500 := i17_.1 42 3
      have g22 : h17_.1 42 3 = h.1 42 3 := f17_.1 42 3 (by decide)
      have z43 : h17_.2.1 43 x17_2 = h.2.1 43 x17_2 := f17_.2 43 (by decide) _
      have z3 : h17_.1 42 3 = h.1 42 3 := f17_.1 42 3 (by decide)
      refine mm_iload_n C (mm_dec dk_X8_apply 11 rfl) rfl ?_
      refine mm_aload_n C (mm_dec dk_X8_apply 12 rfl) rfl ?_
      refine mm_geti C fl_X8_21 (mm_dec dk_X8_apply 13 rfl) rfl rfl (Or.inl rfl) ?_
      refine mm_icmp_ge (tgt := 159) C (mm_dec dk_X8_apply 14 rfl) (by decide) (fun c22 => ?_) (fun c22 => ?_)
      · skip
        exact mm_vret C T (mm_dec dk_X8_apply 84 rfl) (by decide : 0 ≤ 0) (by decide : 0 ≤ 0) ⟨rfl, ⟨i17_, f17_, by (rw [show h.1 42 3 = x17_2 by omega]; exact congrArg Prod.snd w17_0)⟩⟩
      · skip
        refine mm_aload_n C (mm_dec dk_X8_apply 15 rfl) rfl ?_
        refine mm_getr (t := 43) C fl_X8_11 (mm_dec dk_X8_apply 16 rfl) rfl rfl (mm_ref i17_ rfl) ?_
        refine mm_iload_n C (mm_dec dk_X8_apply 17 rfl) rfl ?_
        refine mm_iald C (mm_dec dk_X8_apply 18 rfl) rfl (by omega) (by omega) ?_
        have g23 : -2147483648 ≤ (h17_.2.1 43 x17_2) ∧ (h17_.2.1 43 x17_2) ≤ 2147483647 := i17_.2.1 43 x17_2
        refine mm_istore_nL (ls2 := [mR 42, mR 47, mI x17_2, mI (h17_.2.1 43 x17_2), mU]) C (mm_dec dk_X8_apply 19 rfl) (by decide) rfl ?_
        refine mm_iload_n C (mm_dec dk_X8_apply 20 rfl) rfl ?_
        refine mm_ldc (z := 100000) C (mm_dec dk_X8_apply 21 rfl) kc_X8_45 (by decide) ?_
        have J153 : ∀ (h153_ : mH) (i153_ : mm_inv h153_) (f153_ : mm_fr [(42, 4), (42, 5), (42, 6)] [45] h h153_) (w153_0 : (mm_sX h153_, h153_.1 42 5, h153_.1 42 6) = mm_yf (h.2.1 47) (h.2.1 44) (h.2.1 43) (x17_2 + 1).toNat), mm_W x 0 0 153 [mR 42, mR 47, mI x17_2, mU, mU] [] h153_ := by
          intro h153_ i153_ f153_ w153_0
          have g24 : 0 ≤ h153_.1 42 4 ∧ h153_.1 42 4 ≤ 64 := i153_.1 42 4
          have g25 : -2147483648 ≤ h153_.1 42 5 ∧ h153_.1 42 5 ≤ 2147483647 := i153_.1 42 5
          have g26 : 0 ≤ h153_.1 42 6 ∧ h153_.1 42 6 ≤ 1 := i153_.1 42 6
          have g27 : 0 ≤ h153_.1 42 3 ∧ h153_.1 42 3 ≤ 500 := i153_.1 42 3
          have g28 : h153_.1 42 3 = h.1 42 3 := f153_.1 42 3 (by decide)
          refine mm_iincL (ls2 := [mR 42, mR 47, mI (x17_2 + 1), mU, mU]) C (mm_dec dk_X8_apply 82 rfl) rfl (by decide) ⟨by omega, by omega⟩ rfl ?_
          refine mm_goto (tgt := 17) C (mm_dec dk_X8_apply 83 rfl) (by decide) ?_
          exact ih17 (x17_2 + 1) ⟨by omega, by omega⟩ h153_ i153_ f153_ (by first | exact w153_0 | exact (mm_tri (mm_sX_0 (by omega)) (by omega) (by omega))) (by omega) (by omega)
        refine mm_icmp_ge (tgt := 46) C (mm_dec dk_X8_apply 22 rfl) (by decide) (fun c35 => ?_) (fun c35 => ?_)
        · skip
          refine mm_iload_n C (mm_dec dk_X8_apply 27 rfl) rfl ?_
          refine mm_ldc (z := 100007) C (mm_dec dk_X8_apply 28 rfl) kc_X8_50 (by decide) ?_
          refine mm_icmp_ge (tgt := 65) C (mm_dec dk_X8_apply 29 rfl) (by decide) (fun c49 => ?_) (fun c49 => ?_)
          · skip
            refine mm_iload_n C (mm_dec dk_X8_apply 38 rfl) rfl ?_
            refine mm_ldc (z := 100010) C (mm_dec dk_X8_apply 39 rfl) kc_X8_51 (by decide) ?_
            refine mm_icmp_ge (tgt := 87) C (mm_dec dk_X8_apply 40 rfl) (by decide) (fun c68 => ?_) (fun c68 => ?_)
            · skip
              refine mm_iload_n C (mm_dec dk_X8_apply 50 rfl) rfl ?_
              refine mm_ldc (z := 100010) C (mm_dec dk_X8_apply 51 rfl) kc_X8_51 (by decide) ?_
              refine mm_icmp_ne (tgt := 115) C (mm_dec dk_X8_apply 52 rfl) (by decide) (fun c90 => ?_) (fun c90 => ?_)
              · skip
                refine mm_iload_n C (mm_dec dk_X8_apply 63 rfl) rfl ?_
                refine mm_ldc (z := 100020) C (mm_dec dk_X8_apply 64 rfl) kc_X8_60 (by decide) ?_
                refine mm_icmp_lt (tgt := 133) C (mm_dec dk_X8_apply 65 rfl) (by decide) (fun c118 => ?_) (fun c118 => ?_)
                · skip
                  refine mm_aload_n C (mm_dec dk_X8_apply 72 rfl) rfl ?_
                  refine mm_cVi (rest := []) C1 ev_X8_52 (mm_dec dk_X8_apply 73 rfl) (c_X8_pop_q x.2.1 hl (d - 1) (by omega) h17_ i17_ ) rfl rfl (Nat.le_of_ble_eq_true rfl) ⟨by decide, by decide⟩ rfl (fun r134 h134c hp134 => ?_) (fun _ _ q => q.elim)
                  obtain ⟨b134, i134c, g134c, y134_0, y134_1⟩ := hp134
                  have f134c : mm_fr [(42, 4), (42, 5), (42, 6)] [45] h h134c := mm_fr_tr f17_ g134c (by decide +kernel)
                  have q134c_30 : h134c.1 42 3 = h17_.1 42 3 := g134c.1 42 3 (by decide)
                  have q134c_31 : h134c.1 42 5 = h17_.1 42 5 := g134c.1 42 5 (by decide)
                  have q134c_32 : h134c.1 42 6 = h17_.1 42 6 := g134c.1 42 6 (by decide)
                  have g33 : 0 ≤ (h134c.1 42 4) ∧ (h134c.1 42 4) ≤ 64 := i134c.1 42 4
                  refine mm_istoreL (ls2 := [mR 42, mR 47, mI x17_2, mI (h17_.2.1 43 x17_2), mI r134]) C (mm_dec dk_X8_apply 74 rfl) (by decide) rfl ?_
                  refine mm_aload_n C (mm_dec dk_X8_apply 75 rfl) rfl ?_
                  refine mm_iload_n C (mm_dec dk_X8_apply 76 rfl) rfl ?_
                  refine mm_aload_n C (mm_dec dk_X8_apply 77 rfl) rfl ?_
                  refine mm_cVi (rest := [mI (h17_.2.1 43 x17_2), mR 42]) C1 ev_X8_52 (mm_dec dk_X8_apply 78 rfl) (c_X8_pop_q x.2.1 hl (d - 1) (by omega) h134c i134c ) rfl rfl (Nat.le_of_ble_eq_true rfl) ⟨by decide, by decide⟩ rfl (fun r142 h142c hp142 => ?_) (fun _ _ q => q.elim)
                  obtain ⟨b142, i142c, g142c, y142_0, y142_1⟩ := hp142
                  have f142c : mm_fr [(42, 4), (42, 5), (42, 6)] [45] h h142c := mm_fr_tr f134c g142c (by decide +kernel)
                  have q142c_35 : h142c.1 42 3 = h134c.1 42 3 := g142c.1 42 3 (by decide)
                  have q142c_36 : h142c.1 42 5 = h134c.1 42 5 := g142c.1 42 5 (by decide)
                  have q142c_37 : h142c.1 42 6 = h134c.1 42 6 := g142c.1 42 6 (by decide)
                  have g38 : 0 ≤ (h142c.1 42 4) ∧ (h142c.1 42 4) ≤ 64 := i142c.1 42 4
                  refine mm_iload C (mm_dec dk_X8_apply 79 rfl) rfl ?_
                  refine mm_cSi (rest := [mR 42]) C1 es_X8_65 (mm_dec dk_X8_apply 80 rfl) (c_X8_joined_q x.2.1 hl (d - 1) (by omega) h142c i142c (h17_.2.1 43 x17_2) r142 r134) rfl (Nat.le_of_ble_eq_true rfl) ⟨by decide, by decide⟩ rfl (fun r147 h147c hp147 => ?_) (fun _ _ q => q.elim)
                  obtain ⟨b147, z147, y147_0⟩ := hp147
                  rw [z147]
                  refine mm_cVv (rest := []) C1 ev_X8_46 (mm_dec dk_X8_apply 81 rfl) (c_X8_push_q x.2.1 hl (d - 1) (by omega) h142c i142c r147) rfl rfl (Nat.le_of_ble_eq_true rfl) ⟨by decide, by decide⟩ rfl (fun h150c hp150 => ?_) (fun _ _ q => q.elim)
                  obtain ⟨i150c, g150c, y150_0⟩ := hp150
                  have f150c : mm_fr [(42, 4), (42, 5), (42, 6)] [45] h h150c := mm_fr_tr f142c g150c (by decide +kernel)
                  have q150c_41 : h150c.1 42 3 = h142c.1 42 3 := g150c.1 42 3 (by decide)
                  have q150c_42 : h150c.1 42 5 = h142c.1 42 5 := g150c.1 42 5 (by decide)
                  have q150c_43 : h150c.1 42 6 = h142c.1 42 6 := g150c.1 42 6 (by decide)
                  have g44 : 0 ≤ (h150c.1 42 4) ∧ (h150c.1 42 4) ≤ 64 := i150c.1 42 4
                  refine mm_fgt 3 ?_
                  refine mm_fgt 4 ?_
                  exact J153 h150c i150c f150c (by first | exact (mm_tri ((y40_0).trans (by first | rfl | (rw [z43]))) (by omega) (by omega)).trans ((mm_y1_n (by omega)).symm.trans (mm_yf_s (v := h.2.1 47) (p := h.2.1 44) (f := h.2.1 43) w17_0 (by omega)).symm) | exact (mm_tri ((y59_0).trans (by rw [z43, f17_.2 47 (by decide)])) (by omega) (by omega)).trans ((mm_y1_v (by omega) (by omega)).symm.trans (mm_yf_s (v := h.2.1 47) (p := h.2.1 44) (f := h.2.1 43) w17_0 (by omega)).symm) | exact (mm_tri ((y81_0).trans (by rw [z43, f17_.2 44 (by decide)])) (by omega) (by omega)).trans ((mm_y1_p (by omega) (by omega)).symm.trans (mm_yf_s (v := h.2.1 47) (p := h.2.1 44) (f := h.2.1 43) w17_0 (by omega)).symm) | exact (mm_tri ((y109_0).trans (by rw [y95_1, show r106 = (if (mm_sX h17_).headD 0 = 0 then 1 else 0) from by rw [← y95_0]; split <;> omega])) (by omega) (by omega)).trans ((mm_y1_no (by omega)).symm.trans (mm_yf_s (v := h.2.1 47) (p := h.2.1 44) (f := h.2.1 43) w17_0 (by omega)).symm) | exact mm_y1_end w17_0 (by omega) z43 (by omega) y124_1 y124_0 (mm_sX_fr (g127c.1 42 4 (by decide)) (g127c.2 45 (by decide))) (y127_0.trans (by rw [g124c.1 42 5 (by decide), g124c.1 42 6 (by decide)])) | exact (mm_tri ((y150_0).trans (by rw [y142_1, y134_1, y147_0, y142_0, y134_0, z43, y134_1])) (by omega) (by omega)).trans ((mm_y1_o (by omega) (by omega)).symm.trans (mm_yf_s (v := h.2.1 47) (p := h.2.1 44) (f := h.2.1 43) w17_0 (by omega)).symm))
                · skip
                  refine mm_aload_n C (mm_dec dk_X8_apply 66 rfl) rfl ?_
                  refine mm_iload_n C (mm_dec dk_X8_apply 67 rfl) rfl ?_
                  refine mm_aload_n C (mm_dec dk_X8_apply 68 rfl) rfl ?_
                  refine mm_cVi (rest := [mI (h17_.2.1 43 x17_2), mR 42]) C1 ev_X8_52 (mm_dec dk_X8_apply 69 rfl) (c_X8_pop_q x.2.1 hl (d - 1) (by omega) h17_ i17_ ) rfl rfl (Nat.le_of_ble_eq_true rfl) ⟨by decide, by decide⟩ rfl (fun r124 h124c hp124 => ?_) (fun _ _ q => q.elim)
                  obtain ⟨b124, i124c, g124c, y124_0, y124_1⟩ := hp124
                  have f124c : mm_fr [(42, 4), (42, 5), (42, 6)] [45] h h124c := mm_fr_tr f17_ g124c (by decide +kernel)
                  have q124c_46 : h124c.1 42 3 = h17_.1 42 3 := g124c.1 42 3 (by decide)
                  have q124c_47 : h124c.1 42 5 = h17_.1 42 5 := g124c.1 42 5 (by decide)
                  have q124c_48 : h124c.1 42 6 = h17_.1 42 6 := g124c.1 42 6 (by decide)
                  have g49 : 0 ≤ (h124c.1 42 4) ∧ (h124c.1 42 4) ≤ 64 := i124c.1 42 4
                  refine mm_cVv (rest := []) C1 ev_X8_61 (mm_dec dk_X8_apply 70 rfl) (c_X8_endClause_q x.2.1 hl (d - 1) (by omega) h124c i124c (h17_.2.1 43 x17_2) r124) rfl rfl (Nat.le_of_ble_eq_true rfl) ⟨by decide, by decide⟩ rfl (fun h127c hp127 => ?_) (fun _ _ q => q.elim)
                  obtain ⟨i127c, g127c, y127_0⟩ := hp127
                  have f127c : mm_fr [(42, 4), (42, 5), (42, 6)] [45] h h127c := mm_fr_tr f124c g127c (by decide +kernel)
                  have q127c_51 : h127c.1 42 3 = h124c.1 42 3 := g127c.1 42 3 (by decide)
                  have q127c_52 : h127c.1 42 4 = h124c.1 42 4 := g127c.1 42 4 (by decide)
                  have g53 : -2147483648 ≤ (h127c.1 42 5) ∧ (h127c.1 42 5) ≤ 2147483647 := i127c.1 42 5
                  have g54 : 0 ≤ (h127c.1 42 6) ∧ (h127c.1 42 6) ≤ 1 := i127c.1 42 6
                  refine mm_goto (tgt := 153) C (mm_dec dk_X8_apply 71 rfl) (by decide) ?_
                  refine mm_fgt 3 ?_
                  exact J153 h127c i127c f127c (by first | exact (mm_tri ((y40_0).trans (by first | rfl | (rw [z43]))) (by omega) (by omega)).trans ((mm_y1_n (by omega)).symm.trans (mm_yf_s (v := h.2.1 47) (p := h.2.1 44) (f := h.2.1 43) w17_0 (by omega)).symm) | exact (mm_tri ((y59_0).trans (by rw [z43, f17_.2 47 (by decide)])) (by omega) (by omega)).trans ((mm_y1_v (by omega) (by omega)).symm.trans (mm_yf_s (v := h.2.1 47) (p := h.2.1 44) (f := h.2.1 43) w17_0 (by omega)).symm) | exact (mm_tri ((y81_0).trans (by rw [z43, f17_.2 44 (by decide)])) (by omega) (by omega)).trans ((mm_y1_p (by omega) (by omega)).symm.trans (mm_yf_s (v := h.2.1 47) (p := h.2.1 44) (f := h.2.1 43) w17_0 (by omega)).symm) | exact (mm_tri ((y109_0).trans (by rw [y95_1, show r106 = (if (mm_sX h17_).headD 0 = 0 then 1 else 0) from by rw [← y95_0]; split <;> omega])) (by omega) (by omega)).trans ((mm_y1_no (by omega)).symm.trans (mm_yf_s (v := h.2.1 47) (p := h.2.1 44) (f := h.2.1 43) w17_0 (by omega)).symm) | exact mm_y1_end w17_0 (by omega) z43 (by omega) y124_1 y124_0 (mm_sX_fr (g127c.1 42 4 (by decide)) (g127c.2 45 (by decide))) (y127_0.trans (by rw [g124c.1 42 5 (by decide), g124c.1 42 6 (by decide)])) | exact (mm_tri ((y150_0).trans (by rw [y142_1, y134_1, y147_0, y142_0, y134_0, z43, y134_1])) (by omega) (by omega)).trans ((mm_y1_o (by omega) (by omega)).symm.trans (mm_yf_s (v := h.2.1 47) (p := h.2.1 44) (f := h.2.1 43) w17_0 (by omega)).symm))
              · skip
                refine mm_aload_n C (mm_dec dk_X8_apply 53 rfl) rfl ?_
                refine mm_aload_n C (mm_dec dk_X8_apply 54 rfl) rfl ?_
                refine mm_cVi (rest := [mR 42]) C1 ev_X8_52 (mm_dec dk_X8_apply 55 rfl) (c_X8_pop_q x.2.1 hl (d - 1) (by omega) h17_ i17_ ) rfl rfl (Nat.le_of_ble_eq_true rfl) ⟨by decide, by decide⟩ rfl (fun r95 h95c hp95 => ?_) (fun _ _ q => q.elim)
                obtain ⟨b95, i95c, g95c, y95_0, y95_1⟩ := hp95
                have f95c : mm_fr [(42, 4), (42, 5), (42, 6)] [45] h h95c := mm_fr_tr f17_ g95c (by decide +kernel)
                have q95c_56 : h95c.1 42 3 = h17_.1 42 3 := g95c.1 42 3 (by decide)
                have q95c_57 : h95c.1 42 5 = h17_.1 42 5 := g95c.1 42 5 (by decide)
                have q95c_58 : h95c.1 42 6 = h17_.1 42 6 := g95c.1 42 6 (by decide)
                have g59 : 0 ≤ (h95c.1 42 4) ∧ (h95c.1 42 4) ≤ 64 := i95c.1 42 4
                have J106 : ∀ (s106_1 : Int) (bs106_1 : 0 ≤ s106_1 ∧ s106_1 ≤ 1) (vs106_1 : (r95 ≠ 0 ∧ s106_1 = 0) ∨ (r95 = 0 ∧ s106_1 = 1)), mm_W x 0 0 106 [mR 42, mR 47, mI x17_2, mU, mU] [mI s106_1, mR 42] h95c := by
                  intro s106_1 bs106_1 vs106_1
                  refine mm_cSi (rest := [mR 42]) C1 es_X8_56 (mm_dec dk_X8_apply 60 rfl) (c_X8_truth_q x.2.1 hl (d - 1) (by omega) h95c i95c s106_1 ⟨by omega, by omega⟩) rfl (Nat.le_of_ble_eq_true rfl) ⟨by decide, by decide⟩ rfl (fun r106 h106c hp106 => ?_) (fun _ _ q => q.elim)
                  obtain ⟨b106, z106, y106_0⟩ := hp106
                  rw [z106]
                  refine mm_cVv (rest := []) C1 ev_X8_46 (mm_dec dk_X8_apply 61 rfl) (c_X8_push_q x.2.1 hl (d - 1) (by omega) h95c i95c r106) rfl rfl (Nat.le_of_ble_eq_true rfl) ⟨by decide, by decide⟩ rfl (fun h109c hp109 => ?_) (fun _ _ q => q.elim)
                  obtain ⟨i109c, g109c, y109_0⟩ := hp109
                  have f109c : mm_fr [(42, 4), (42, 5), (42, 6)] [45] h h109c := mm_fr_tr f95c g109c (by decide +kernel)
                  have q109c_62 : h109c.1 42 3 = h95c.1 42 3 := g109c.1 42 3 (by decide)
                  have q109c_63 : h109c.1 42 5 = h95c.1 42 5 := g109c.1 42 5 (by decide)
                  have q109c_64 : h109c.1 42 6 = h95c.1 42 6 := g109c.1 42 6 (by decide)
                  have g65 : 0 ≤ (h109c.1 42 4) ∧ (h109c.1 42 4) ≤ 64 := i109c.1 42 4
                  refine mm_goto (tgt := 153) C (mm_dec dk_X8_apply 62 rfl) (by decide) ?_
                  exact J153 h109c i109c f109c (by first | exact (mm_tri ((y40_0).trans (by first | rfl | (rw [z43]))) (by omega) (by omega)).trans ((mm_y1_n (by omega)).symm.trans (mm_yf_s (v := h.2.1 47) (p := h.2.1 44) (f := h.2.1 43) w17_0 (by omega)).symm) | exact (mm_tri ((y59_0).trans (by rw [z43, f17_.2 47 (by decide)])) (by omega) (by omega)).trans ((mm_y1_v (by omega) (by omega)).symm.trans (mm_yf_s (v := h.2.1 47) (p := h.2.1 44) (f := h.2.1 43) w17_0 (by omega)).symm) | exact (mm_tri ((y81_0).trans (by rw [z43, f17_.2 44 (by decide)])) (by omega) (by omega)).trans ((mm_y1_p (by omega) (by omega)).symm.trans (mm_yf_s (v := h.2.1 47) (p := h.2.1 44) (f := h.2.1 43) w17_0 (by omega)).symm) | exact (mm_tri ((y109_0).trans (by rw [y95_1, show r106 = (if (mm_sX h17_).headD 0 = 0 then 1 else 0) from by rw [← y95_0]; split <;> omega])) (by omega) (by omega)).trans ((mm_y1_no (by omega)).symm.trans (mm_yf_s (v := h.2.1 47) (p := h.2.1 44) (f := h.2.1 43) w17_0 (by omega)).symm) | exact mm_y1_end w17_0 (by omega) z43 (by omega) y124_1 y124_0 (mm_sX_fr (g127c.1 42 4 (by decide)) (g127c.2 45 (by decide))) (y127_0.trans (by rw [g124c.1 42 5 (by decide), g124c.1 42 6 (by decide)])) | exact (mm_tri ((y150_0).trans (by rw [y142_1, y134_1, y147_0, y142_0, y134_0, z43, y134_1])) (by omega) (by omega)).trans ((mm_y1_o (by omega) (by omega)).symm.trans (mm_yf_s (v := h.2.1 47) (p := h.2.1 44) (f := h.2.1 43) w17_0 (by omega)).symm))
                refine mm_if_ne (tgt := 105) C (mm_dec dk_X8_apply 56 rfl) (by decide) (fun c98 => ?_) (fun c98 => ?_)
                · skip
                  refine mm_iconst C (mm_dec dk_X8_apply 59 rfl) ⟨by decide, by decide⟩ ?_
                  refine mm_fgt 3 ?_
                  exact J106 0 ⟨by omega, by omega⟩ (Or.inl ⟨by omega, rfl⟩)
                · skip
                  refine mm_iconst C (mm_dec dk_X8_apply 57 rfl) ⟨by decide, by decide⟩ ?_
                  refine mm_goto (tgt := 106) C (mm_dec dk_X8_apply 58 rfl) (by decide) ?_
                  refine mm_fgt 3 ?_
                  exact J106 1 ⟨by omega, by omega⟩ (Or.inr (⟨by omega, rfl⟩))
            · skip
              refine mm_aload_n C (mm_dec dk_X8_apply 41 rfl) rfl ?_
              refine mm_aload_n C (mm_dec dk_X8_apply 42 rfl) rfl ?_
              refine mm_getr (t := 44) C fl_X8_15 (mm_dec dk_X8_apply 43 rfl) rfl rfl (mm_ref i17_ rfl) ?_
              refine mm_iload_n C (mm_dec dk_X8_apply 44 rfl) rfl ?_
              refine mm_ldc (z := 100007) C (mm_dec dk_X8_apply 45 rfl) kc_X8_50 (by decide) ?_
              refine mm_isub C (mm_dec dk_X8_apply 46 rfl) ⟨by omega, by omega⟩ ?_
              refine mm_iald C (mm_dec dk_X8_apply 47 rfl) rfl (by omega) (by omega) ?_
              have g66 : -2147483648 ≤ (h17_.2.1 44 ((h17_.2.1 43 x17_2) - 100007)) ∧ (h17_.2.1 44 ((h17_.2.1 43 x17_2) - 100007)) ≤ 2147483647 := i17_.2.1 44 ((h17_.2.1 43 x17_2) - 100007)
              refine mm_cVv (rest := []) C1 ev_X8_46 (mm_dec dk_X8_apply 48 rfl) (c_X8_push_q x.2.1 hl (d - 1) (by omega) h17_ i17_ (h17_.2.1 44 ((h17_.2.1 43 x17_2) - 100007))) rfl rfl (Nat.le_of_ble_eq_true rfl) ⟨by decide, by decide⟩ rfl (fun h81c hp81 => ?_) (fun _ _ q => q.elim)
              obtain ⟨i81c, g81c, y81_0⟩ := hp81
              have f81c : mm_fr [(42, 4), (42, 5), (42, 6)] [45] h h81c := mm_fr_tr f17_ g81c (by decide +kernel)
              have q81c_68 : h81c.1 42 3 = h17_.1 42 3 := g81c.1 42 3 (by decide)
              have q81c_69 : h81c.1 42 5 = h17_.1 42 5 := g81c.1 42 5 (by decide)
              have q81c_70 : h81c.1 42 6 = h17_.1 42 6 := g81c.1 42 6 (by decide)
              have g71 : 0 ≤ (h81c.1 42 4) ∧ (h81c.1 42 4) ≤ 64 := i81c.1 42 4
              refine mm_goto (tgt := 153) C (mm_dec dk_X8_apply 49 rfl) (by decide) ?_
              refine mm_fgt 3 ?_
              exact J153 h81c i81c f81c (by first | exact (mm_tri ((y40_0).trans (by first | rfl | (rw [z43]))) (by omega) (by omega)).trans ((mm_y1_n (by omega)).symm.trans (mm_yf_s (v := h.2.1 47) (p := h.2.1 44) (f := h.2.1 43) w17_0 (by omega)).symm) | exact (mm_tri ((y59_0).trans (by rw [z43, f17_.2 47 (by decide)])) (by omega) (by omega)).trans ((mm_y1_v (by omega) (by omega)).symm.trans (mm_yf_s (v := h.2.1 47) (p := h.2.1 44) (f := h.2.1 43) w17_0 (by omega)).symm) | exact (mm_tri ((y81_0).trans (by rw [z43, f17_.2 44 (by decide)])) (by omega) (by omega)).trans ((mm_y1_p (by omega) (by omega)).symm.trans (mm_yf_s (v := h.2.1 47) (p := h.2.1 44) (f := h.2.1 43) w17_0 (by omega)).symm) | exact (mm_tri ((y109_0).trans (by rw [y95_1, show r106 = (if (mm_sX h17_).headD 0 = 0 then 1 else 0) from by rw [← y95_0]; split <;> omega])) (by omega) (by omega)).trans ((mm_y1_no (by omega)).symm.trans (mm_yf_s (v := h.2.1 47) (p := h.2.1 44) (f := h.2.1 43) w17_0 (by omega)).symm) | exact mm_y1_end w17_0 (by omega) z43 (by omega) y124_1 y124_0 (mm_sX_fr (g127c.1 42 4 (by decide)) (g127c.2 45 (by decide))) (y127_0.trans (by rw [g124c.1 42 5 (by decide), g124c.1 42 6 (by decide)])) | exact (mm_tri ((y150_0).trans (by rw [y142_1, y134_1, y147_0, y142_0, y134_0, z43, y134_1])) (by omega) (by omega)).trans ((mm_y1_o (by omega) (by omega)).symm.trans (mm_yf_s (v := h.2.1 47) (p := h.2.1 44) (f := h.2.1 43) w17_0 (by omega)).symm))
          · skip
            refine mm_aload_n C (mm_dec dk_X8_apply 30 rfl) rfl ?_
            refine mm_aload_n C (mm_dec dk_X8_apply 31 rfl) rfl ?_
            refine mm_iload_n C (mm_dec dk_X8_apply 32 rfl) rfl ?_
            refine mm_ldc (z := 100000) C (mm_dec dk_X8_apply 33 rfl) kc_X8_45 (by decide) ?_
            refine mm_isub C (mm_dec dk_X8_apply 34 rfl) ⟨by omega, by omega⟩ ?_
            refine mm_iald C (mm_dec dk_X8_apply 35 rfl) rfl (by omega) (by omega) ?_
            have g72 : -2147483648 ≤ (h17_.2.1 47 ((h17_.2.1 43 x17_2) - 100000)) ∧ (h17_.2.1 47 ((h17_.2.1 43 x17_2) - 100000)) ≤ 2147483647 := i17_.2.1 47 ((h17_.2.1 43 x17_2) - 100000)
            refine mm_cVv (rest := []) C1 ev_X8_46 (mm_dec dk_X8_apply 36 rfl) (c_X8_push_q x.2.1 hl (d - 1) (by omega) h17_ i17_ (h17_.2.1 47 ((h17_.2.1 43 x17_2) - 100000))) rfl rfl (Nat.le_of_ble_eq_true rfl) ⟨by decide, by decide⟩ rfl (fun h59c hp59 => ?_) (fun _ _ q => q.elim)
            obtain ⟨i59c, g59c, y59_0⟩ := hp59
            have f59c : mm_fr [(42, 4), (42, 5), (42, 6)] [45] h h59c := mm_fr_tr f17_ g59c (by decide +kernel)
            have q59c_74 : h59c.1 42 3 = h17_.1 42 3 := g59c.1 42 3 (by decide)
            have q59c_75 : h59c.1 42 5 = h17_.1 42 5 := g59c.1 42 5 (by decide)
            have q59c_76 : h59c.1 42 6 = h17_.1 42 6 := g59c.1 42 6 (by decide)
            have g77 : 0 ≤ (h59c.1 42 4) ∧ (h59c.1 42 4) ≤ 64 := i59c.1 42 4
            refine mm_goto (tgt := 153) C (mm_dec dk_X8_apply 37 rfl) (by decide) ?_
            refine mm_fgt 3 ?_
            exact J153 h59c i59c f59c (by first | exact (mm_tri ((y40_0).trans (by first | rfl | (rw [z43]))) (by omega) (by omega)).trans ((mm_y1_n (by omega)).symm.trans (mm_yf_s (v := h.2.1 47) (p := h.2.1 44) (f := h.2.1 43) w17_0 (by omega)).symm) | exact (mm_tri ((y59_0).trans (by rw [z43, f17_.2 47 (by decide)])) (by omega) (by omega)).trans ((mm_y1_v (by omega) (by omega)).symm.trans (mm_yf_s (v := h.2.1 47) (p := h.2.1 44) (f := h.2.1 43) w17_0 (by omega)).symm) | exact (mm_tri ((y81_0).trans (by rw [z43, f17_.2 44 (by decide)])) (by omega) (by omega)).trans ((mm_y1_p (by omega) (by omega)).symm.trans (mm_yf_s (v := h.2.1 47) (p := h.2.1 44) (f := h.2.1 43) w17_0 (by omega)).symm) | exact (mm_tri ((y109_0).trans (by rw [y95_1, show r106 = (if (mm_sX h17_).headD 0 = 0 then 1 else 0) from by rw [← y95_0]; split <;> omega])) (by omega) (by omega)).trans ((mm_y1_no (by omega)).symm.trans (mm_yf_s (v := h.2.1 47) (p := h.2.1 44) (f := h.2.1 43) w17_0 (by omega)).symm) | exact mm_y1_end w17_0 (by omega) z43 (by omega) y124_1 y124_0 (mm_sX_fr (g127c.1 42 4 (by decide)) (g127c.2 45 (by decide))) (y127_0.trans (by rw [g124c.1 42 5 (by decide), g124c.1 42 6 (by decide)])) | exact (mm_tri ((y150_0).trans (by rw [y142_1, y134_1, y147_0, y142_0, y134_0, z43, y134_1])) (by omega) (by omega)).trans ((mm_y1_o (by omega) (by omega)).symm.trans (mm_yf_s (v := h.2.1 47) (p := h.2.1 44) (f := h.2.1 43) w17_0 (by omega)).symm))
        · skip
          refine mm_aload_n C (mm_dec dk_X8_apply 23 rfl) rfl ?_
          refine mm_iload_n C (mm_dec dk_X8_apply 24 rfl) rfl ?_
          refine mm_cVv (rest := []) C1 ev_X8_46 (mm_dec dk_X8_apply 25 rfl) (c_X8_push_q x.2.1 hl (d - 1) (by omega) h17_ i17_ (h17_.2.1 43 x17_2)) rfl rfl (Nat.le_of_ble_eq_true rfl) ⟨by decide, by decide⟩ rfl (fun h40c hp40 => ?_) (fun _ _ q => q.elim)
          obtain ⟨i40c, g40c, y40_0⟩ := hp40
          have f40c : mm_fr [(42, 4), (42, 5), (42, 6)] [45] h h40c := mm_fr_tr f17_ g40c (by decide +kernel)
          have q40c_79 : h40c.1 42 3 = h17_.1 42 3 := g40c.1 42 3 (by decide)
          have q40c_80 : h40c.1 42 5 = h17_.1 42 5 := g40c.1 42 5 (by decide)
          have q40c_81 : h40c.1 42 6 = h17_.1 42 6 := g40c.1 42 6 (by decide)
          have g82 : 0 ≤ (h40c.1 42 4) ∧ (h40c.1 42 4) ≤ 64 := i40c.1 42 4
          refine mm_goto (tgt := 153) C (mm_dec dk_X8_apply 26 rfl) (by decide) ?_
          refine mm_fgt 3 ?_
          exact J153 h40c i40c f40c (by first | exact (mm_tri ((y40_0).trans (by first | rfl | (rw [z43]))) (by omega) (by omega)).trans ((mm_y1_n (by omega)).symm.trans (mm_yf_s (v := h.2.1 47) (p := h.2.1 44) (f := h.2.1 43) w17_0 (by omega)).symm) | exact (mm_tri ((y59_0).trans (by rw [z43, f17_.2 47 (by decide)])) (by omega) (by omega)).trans ((mm_y1_v (by omega) (by omega)).symm.trans (mm_yf_s (v := h.2.1 47) (p := h.2.1 44) (f := h.2.1 43) w17_0 (by omega)).symm) | exact (mm_tri ((y81_0).trans (by rw [z43, f17_.2 44 (by decide)])) (by omega) (by omega)).trans ((mm_y1_p (by omega) (by omega)).symm.trans (mm_yf_s (v := h.2.1 47) (p := h.2.1 44) (f := h.2.1 43) w17_0 (by omega)).symm) | exact (mm_tri ((y109_0).trans (by rw [y95_1, show r106 = (if (mm_sX h17_).headD 0 = 0 then 1 else 0) from by rw [← y95_0]; split <;> omega])) (by omega) (by omega)).trans ((mm_y1_no (by omega)).symm.trans (mm_yf_s (v := h.2.1 47) (p := h.2.1 44) (f := h.2.1 43) w17_0 (by omega)).symm) | exact mm_y1_end w17_0 (by omega) z43 (by omega) y124_1 y124_0 (mm_sX_fr (g127c.1 42 4 (by decide)) (g127c.2 45 (by decide))) (y127_0.trans (by rw [g124c.1 42 5 (by decide), g124c.1 42 6 (by decide)])) | exact (mm_tri ((y150_0).trans (by rw [y142_1, y134_1, y147_0, y142_0, y134_0, z43, y134_1])) (by omega) (by omega)).trans ((mm_y1_o (by omega) (by omega)).symm.trans (mm_yf_s (v := h.2.1 47) (p := h.2.1 44) (f := h.2.1 43) w17_0 (by omega)).symm))
  refine mm_istore_nL (ls2 := [mR 42, mR 47, mI 0, mU, mU]) C (mm_dec dk_X8_apply 10 rfl) (by decide) rfl ?_
  exact J17 (((500 - 0) : Int) + 1).toNat 0 ⟨by omega, by omega⟩ h3 i3 f3 (by first | exact w153_0 | exact (mm_tri (mm_sX_0 (by omega)) (by omega) (by omega))) (by omega) (by omega)
