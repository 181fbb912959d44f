set_option maxRecDepth 100000 in
set_option maxHeartbeats 4000000 in
theorem c_X12_tells_q (l : Launch) (hl : l.stackTraces = false) (d : Nat) (hd : 0 ≤ d) (h : mH) (i0 : mm_inv h) (p1 : Int) (p2 : Int) (p3 : Int) (p4 : Int) (bp2 : 0 ≤ p2 ∧ p2 ≤ 39) (u0 : (h.1 66 40) ≤ 499) : mm_Met l d yX12_tells cX12_tells 5 (some .int) [mR 66, mI p1, mI p2, mI p3, mI p4] h (mm_pi fun r h2 => (0 ≤ r ∧ r ≤ 499) ∧ mm_inv h2 ∧ mm_fr [(66, 40)] [92, 93, 94, 95, 96, 97] h h2 ∧ h2.1 66 40 = h.1 66 40 + 1 ∧ r = h.1 66 40 ∧ mm_up h h2 92 (h.1 66 40) p1 1 ∧ mm_up h h2 93 (h.1 66 40) p2 1 ∧ mm_up h h2 96 (h.1 66 40) (h.1 66 41) 1 ∧ mm_up h h2 97 (h.1 66 40) (-1) 1 ∧ mm_up h h2 94 (h.1 66 40) p3 1 ∧ mm_up h h2 95 (h.1 66 40) p4 1) mm_nx 0 0 := by
  refine mm_ofW (ls := [mR 66, mI p1, mI p2, mI p3, mI p4]) hl (by decide) rfl (Nat.le_of_ble_eq_true rfl) ?_
  intro x hxl C T hnm htb
  subst hxl
  refine mm_rng (fun hr _ => ?_)
  have ap1 : -2147483648 ≤ p1 ∧ p1 < 2147483648 := mm_ok_at hr (i := 1) rfl
  have ap2 : -2147483648 ≤ p2 ∧ p2 < 2147483648 := mm_ok_at hr (i := 2) rfl
  have ap3 : -2147483648 ≤ p3 ∧ p3 < 2147483648 := mm_ok_at hr (i := 3) rfl
  have ap4 : -2147483648 ≤ p4 ∧ p4 < 2147483648 := mm_ok_at hr (i := 4) rfl
  have f0 : mm_fr [(66, 40)] [92, 93, 94, 95, 96, 97] h h := mm_fr_rf
  have g1 : 0 ≤ h.1 66 40 ∧ h.1 66 40 ≤ 500 := i0.1 66 40
  have g2 : 0 ≤ h.1 66 41 ∧ h.1 66 41 ≤ 99999 := i0.1 66 41
  refine mm_aload_n C (mm_dec dk_X12_tells 0 rfl) rfl ?_
  refine mm_getr (t := 92) C fl_X12_87 (mm_dec dk_X12_tells 1 rfl) rfl rfl (mm_ref i0 rfl) ?_
  refine mm_aload_n C (mm_dec dk_X12_tells 2 rfl) rfl ?_
  refine mm_geti C fl_X12_228 (mm_dec dk_X12_tells 3 rfl) rfl rfl (Or.inl rfl) ?_
  refine mm_iload_n C (mm_dec dk_X12_tells 4 rfl) rfl ?_
  refine mm_iast C (mm_dec dk_X12_tells 5 rfl) rfl (by omega) (by omega) ?_
  have i1 : mm_inv (mm_pa h 92 (h.1 66 40) p1) := mm_inv_pa i0 (show -2147483648 ≤ p1 ∧ p1 ≤ 2147483647 from ⟨by omega, by omega⟩)
  have f1 : mm_fr [(66, 40)] [92, 93, 94, 95, 96, 97] h (mm_pa h 92 (h.1 66 40) p1) := mm_fr_pa f0 (by decide)
  obtain ⟨h1, eh1⟩ : ∃ z, z = mm_pa h 92 (h.1 66 40) p1 := ⟨_, rfl⟩
  rw [← eh1] at i1 f1 ⊢
  have qh1_3 : h1.1 66 40 = h.1 66 40 := by rw [eh1]; rfl
  have qh1_4 : h1.1 66 41 = h.1 66 41 := by rw [eh1]; rfl
  refine mm_aload_n C (mm_dec dk_X12_tells 6 rfl) rfl ?_
  refine mm_getr (t := 93) C fl_X12_90 (mm_dec dk_X12_tells 7 rfl) rfl rfl (mm_ref i1 rfl) ?_
  refine mm_aload_n C (mm_dec dk_X12_tells 8 rfl) rfl ?_
  refine mm_geti C fl_X12_228 (mm_dec dk_X12_tells 9 rfl) rfl rfl (Or.inl rfl) ?_
  refine mm_iload_n C (mm_dec dk_X12_tells 10 rfl) rfl ?_
  refine mm_iast C (mm_dec dk_X12_tells 11 rfl) rfl (by omega) (by omega) ?_
  have i2 : mm_inv (mm_pa h1 93 (h1.1 66 40) p2) := mm_inv_pa i1 (show -2147483648 ≤ p2 ∧ p2 ≤ 2147483647 from ⟨by omega, by omega⟩)
  have f2 : mm_fr [(66, 40)] [92, 93, 94, 95, 96, 97] h (mm_pa h1 93 (h1.1 66 40) p2) := mm_fr_pa f1 (by decide)
  obtain ⟨h2, eh2⟩ : ∃ z, z = mm_pa h1 93 (h1.1 66 40) p2 := ⟨_, rfl⟩
  rw [← eh2] at i2 f2 ⊢
  have qh2_5 : h2.1 66 40 = h1.1 66 40 := by rw [eh2]; rfl
  have qh2_6 : h2.1 66 41 = h1.1 66 41 := by rw [eh2]; rfl
  refine mm_aload_n C (mm_dec dk_X12_tells 12 rfl) rfl ?_
  refine mm_getr (t := 94) C fl_X12_93 (mm_dec dk_X12_tells 13 rfl) rfl rfl (mm_ref i2 rfl) ?_
  refine mm_aload_n C (mm_dec dk_X12_tells 14 rfl) rfl ?_
  refine mm_geti C fl_X12_228 (mm_dec dk_X12_tells 15 rfl) rfl rfl (Or.inl rfl) ?_
  refine mm_iload_n C (mm_dec dk_X12_tells 16 rfl) rfl ?_
  refine mm_iast C (mm_dec dk_X12_tells 17 rfl) rfl (by omega) (by omega) ?_
  have i3 : mm_inv (mm_pa h2 94 (h2.1 66 40) p3) := mm_inv_pa i2 (show -2147483648 ≤ p3 ∧ p3 ≤ 2147483647 from ⟨by omega, by omega⟩)
  have f3 : mm_fr [(66, 40)] [92, 93, 94, 95, 96, 97] h (mm_pa h2 94 (h2.1 66 40) p3) := mm_fr_pa f2 (by decide)
  obtain ⟨h3, eh3⟩ : ∃ z, z = mm_pa h2 94 (h2.1 66 40) p3 := ⟨_, rfl⟩
  rw [← eh3] at i3 f3 ⊢
  have qh3_7 : h3.1 66 40 = h2.1 66 40 := by rw [eh3]; rfl
  have qh3_8 : h3.1 66 41 = h2.1 66 41 := by rw [eh3]; rfl
  refine mm_aload_n C (mm_dec dk_X12_tells 18 rfl) rfl ?_
  refine mm_getr (t := 95) C fl_X12_96 (mm_dec dk_X12_tells 19 rfl) rfl rfl (mm_ref i3 rfl) ?_
  refine mm_aload_n C (mm_dec dk_X12_tells 20 rfl) rfl ?_
  refine mm_geti C fl_X12_228 (mm_dec dk_X12_tells 21 rfl) rfl rfl (Or.inl rfl) ?_
  refine mm_iload C (mm_dec dk_X12_tells 22 rfl) rfl ?_
  refine mm_iast C (mm_dec dk_X12_tells 23 rfl) rfl (by omega) (by omega) ?_
  have i4 : mm_inv (mm_pa h3 95 (h3.1 66 40) p4) := mm_inv_pa i3 (show -2147483648 ≤ p4 ∧ p4 ≤ 2147483647 from ⟨by omega, by omega⟩)
  have f4 : mm_fr [(66, 40)] [92, 93, 94, 95, 96, 97] h (mm_pa h3 95 (h3.1 66 40) p4) := mm_fr_pa f3 (by decide)
  obtain ⟨h4, eh4⟩ : ∃ z, z = mm_pa h3 95 (h3.1 66 40) p4 := ⟨_, rfl⟩
  rw [← eh4] at i4 f4 ⊢
  have qh4_9 : h4.1 66 40 = h3.1 66 40 := by rw [eh4]; rfl
  have qh4_10 : h4.1 66 41 = h3.1 66 41 := by rw [eh4]; rfl
  refine mm_aload_n C (mm_dec dk_X12_tells 24 rfl) rfl ?_
  refine mm_getr (t := 96) C fl_X12_99 (mm_dec dk_X12_tells 25 rfl) rfl rfl (mm_ref i4 rfl) ?_
  refine mm_aload_n C (mm_dec dk_X12_tells 26 rfl) rfl ?_
  refine mm_geti C fl_X12_228 (mm_dec dk_X12_tells 27 rfl) rfl rfl (Or.inl rfl) ?_
  refine mm_aload_n C (mm_dec dk_X12_tells 28 rfl) rfl ?_
  refine mm_geti C fl_X12_234 (mm_dec dk_X12_tells 29 rfl) rfl rfl (Or.inl rfl) ?_
  refine mm_iast C (mm_dec dk_X12_tells 30 rfl) rfl (by omega) (by omega) ?_
  have i5 : mm_inv (mm_pa h4 96 (h4.1 66 40) (h4.1 66 41)) := mm_inv_pa i4 (show -2147483648 ≤ (h4.1 66 41) ∧ (h4.1 66 41) ≤ 2147483647 from ⟨by omega, by omega⟩)
  have f5 : mm_fr [(66, 40)] [92, 93, 94, 95, 96, 97] h (mm_pa h4 96 (h4.1 66 40) (h4.1 66 41)) := mm_fr_pa f4 (by decide)
  obtain ⟨h5, eh5⟩ : ∃ z, z = mm_pa h4 96 (h4.1 66 40) (h4.1 66 41) := ⟨_, rfl⟩
  rw [← eh5] at i5 f5 ⊢
  have qh5_11 : h5.1 66 40 = h4.1 66 40 := by rw [eh5]; rfl
  have qh5_12 : h5.1 66 41 = h4.1 66 41 := by rw [eh5]; rfl
  refine mm_aload_n C (mm_dec dk_X12_tells 31 rfl) rfl ?_
  refine mm_getr (t := 97) C fl_X12_102 (mm_dec dk_X12_tells 32 rfl) rfl rfl (mm_ref i5 rfl) ?_
  refine mm_aload_n C (mm_dec dk_X12_tells 33 rfl) rfl ?_
  refine mm_geti C fl_X12_228 (mm_dec dk_X12_tells 34 rfl) rfl rfl (Or.inl rfl) ?_
  refine mm_iconst C (mm_dec dk_X12_tells 35 rfl) ⟨by decide, by decide⟩ ?_
  refine mm_iast C (mm_dec dk_X12_tells 36 rfl) rfl (by omega) (by omega) ?_
  have i6 : mm_inv (mm_pa h5 97 (h5.1 66 40) (-1)) := mm_inv_pa i5 (show -2147483648 ≤ (-1) ∧ (-1) ≤ 2147483647 from ⟨by omega, by omega⟩)
  have f6 : mm_fr [(66, 40)] [92, 93, 94, 95, 96, 97] h (mm_pa h5 97 (h5.1 66 40) (-1)) := mm_fr_pa f5 (by decide)
  obtain ⟨h6, eh6⟩ : ∃ z, z = mm_pa h5 97 (h5.1 66 40) (-1) := ⟨_, rfl⟩
  rw [← eh6] at i6 f6 ⊢
  have qh6_13 : h6.1 66 40 = h5.1 66 40 := by rw [eh6]; rfl
  have qh6_14 : h6.1 66 41 = h5.1 66 41 := by rw [eh6]; rfl
  refine mm_aload_n C (mm_dec dk_X12_tells 37 rfl) rfl ?_
  refine mm_dup C (mm_dec dk_X12_tells 38 rfl) (show (2 : Nat) ≠ 1 by decide) ?_
  refine mm_geti C fl_X12_228 (mm_dec dk_X12_tells 39 rfl) rfl rfl (Or.inl rfl) ?_
  refine mm_iconst C (mm_dec dk_X12_tells 40 rfl) ⟨by decide, by decide⟩ ?_
  refine mm_iadd C (mm_dec dk_X12_tells 41 rfl) ⟨by omega, by omega⟩ ?_
  refine mm_puti C fl_X12_228 (mm_dec dk_X12_tells 42 rfl) rfl rfl rfl (Or.inl ⟨rfl, rfl⟩) ?_
  have i7 : mm_inv (mm_pf h6 66 40 ((h6.1 66 40) + 1)) := mm_inv_pf i6 (show 0 ≤ ((h6.1 66 40) + 1) ∧ ((h6.1 66 40) + 1) ≤ 500 from ⟨by omega, by omega⟩) (by decide)
  have f7 : mm_fr [(66, 40)] [92, 93, 94, 95, 96, 97] h (mm_pf h6 66 40 ((h6.1 66 40) + 1)) := mm_fr_pf f6 (by decide)
  obtain ⟨h7, eh7⟩ : ∃ z, z = mm_pf h6 66 40 ((h6.1 66 40) + 1) := ⟨_, rfl⟩
  rw [← eh7] at i7 f7 ⊢
  have qh7 : h7.1 66 40 = ((h6.1 66 40) + 1) := by rw [eh7]; exact mm_pf_same _ _ _ _
  have qh7_15 : h7.1 66 41 = h6.1 66 41 := by rw [eh7]; exact mm_pf_ne _ _ (by decide)
  refine mm_aload_n C (mm_dec dk_X12_tells 43 rfl) rfl ?_
  refine mm_geti C fl_X12_228 (mm_dec dk_X12_tells 44 rfl) rfl rfl (Or.inl rfl) ?_
  refine mm_iconst C (mm_dec dk_X12_tells 45 rfl) ⟨by decide, by decide⟩ ?_
  refine mm_isub C (mm_dec dk_X12_tells 46 rfl) ⟨by omega, by omega⟩ ?_
  exact mm_iret C T (mm_dec dk_X12_tells 47 rfl) (by decide : 0 ≤ 0) (by decide : 0 ≤ 0) ⟨_, rfl, ⟨⟨by omega, by omega⟩, i7, f7, by omega, by omega, by exact mm_up_pav (fun _ => rfl) eh1 (fun _ => ((mm_sm_pf 92 eh7 _).trans ((mm_sm_pa 92 eh6 (by decide) _).trans ((mm_sm_pa 92 eh5 (by decide) _).trans ((mm_sm_pa 92 eh4 (by decide) _).trans ((mm_sm_pa 92 eh3 (by decide) _).trans (mm_sm_pa 92 eh2 (by decide) _))))))) (by omega) (by omega) rfl, by exact mm_up_pav (fun _ => (mm_sm_pa 93 eh1 (by decide) _)) eh2 (fun _ => ((mm_sm_pf 93 eh7 _).trans ((mm_sm_pa 93 eh6 (by decide) _).trans ((mm_sm_pa 93 eh5 (by decide) _).trans ((mm_sm_pa 93 eh4 (by decide) _).trans (mm_sm_pa 93 eh3 (by decide) _)))))) (by omega) (by omega) rfl, by exact mm_up_pav (fun _ => ((mm_sm_pa 96 eh4 (by decide) _).trans ((mm_sm_pa 96 eh3 (by decide) _).trans ((mm_sm_pa 96 eh2 (by decide) _).trans (mm_sm_pa 96 eh1 (by decide) _))))) eh5 (fun _ => ((mm_sm_pf 96 eh7 _).trans (mm_sm_pa 96 eh6 (by decide) _))) (by omega) (by omega) rfl, by exact mm_up_pav (fun _ => ((mm_sm_pa 97 eh5 (by decide) _).trans ((mm_sm_pa 97 eh4 (by decide) _).trans ((mm_sm_pa 97 eh3 (by decide) _).trans ((mm_sm_pa 97 eh2 (by decide) _).trans (mm_sm_pa 97 eh1 (by decide) _)))))) eh6 (fun _ => (mm_sm_pf 97 eh7 _)) (by omega) (by omega) rfl, by exact mm_up_pav (fun _ => ((mm_sm_pa 94 eh2 (by decide) _).trans (mm_sm_pa 94 eh1 (by decide) _))) eh3 (fun _ => ((mm_sm_pf 94 eh7 _).trans ((mm_sm_pa 94 eh6 (by decide) _).trans ((mm_sm_pa 94 eh5 (by decide) _).trans (mm_sm_pa 94 eh4 (by decide) _))))) (by omega) (by omega) rfl, by exact mm_up_pav (fun _ => ((mm_sm_pa 95 eh3 (by decide) _).trans ((mm_sm_pa 95 eh2 (by decide) _).trans (mm_sm_pa 95 eh1 (by decide) _)))) eh4 (fun _ => ((mm_sm_pf 95 eh7 _).trans ((mm_sm_pa 95 eh6 (by decide) _).trans (mm_sm_pa 95 eh5 (by decide) _)))) (by omega) (by omega) rfl⟩⟩
set_option maxRecDepth 100000 in
set_option maxHeartbeats 4000000 in
theorem c_X12_isKnown_q (l : Launch) (hl : l.stackTraces = false) (d : Nat) (hd : 0 ≤ d) (h : mH) (i0 : mm_inv h) (p1 : Int) (p2 : Int) (bp1 : 0 ≤ p1 ∧ p1 ≤ 499) : mm_Met l d yX12_isKnown cX12_isKnown 3 (some .boolean) [mR 66, mI p1, mI p2] h (mm_pi fun r h2 => (0 ≤ r ∧ r ≤ 1) ∧ h2 = h ∧ ((r = 1 ∧ (h.2.1 96 p1 ≤ p2 ∧ (h.2.1 97 p1 = -1 ∨ p2 < h.2.1 97 p1))) ∨ (r = 0 ∧ (p2 < h.2.1 96 p1 ∨ (h.2.1 97 p1 ≠ -1 ∧ h.2.1 97 p1 ≤ p2))))) mm_nx 0 0 := by
  refine mm_ofW (ls := [mR 66, mI p1, mI p2]) hl (by decide) rfl (Nat.le_of_ble_eq_true rfl) ?_
  intro x hxl C T hnm htb
  subst hxl
  refine mm_rng (fun hr _ => ?_)
  have ap1 : -2147483648 ≤ p1 ∧ p1 < 2147483648 := mm_ok_at hr (i := 1) rfl
  have ap2 : -2147483648 ≤ p2 ∧ p2 < 2147483648 := mm_ok_at hr (i := 2) rfl
  have f0 : mm_fr [] [] h h := mm_fr_rf
  refine mm_aload_n C (mm_dec dk_X12_isKnown 0 rfl) rfl ?_
  refine mm_getr (t := 96) C fl_X12_99 (mm_dec dk_X12_isKnown 1 rfl) rfl rfl (mm_ref i0 rfl) ?_
  refine mm_iload_n C (mm_dec dk_X12_isKnown 2 rfl) rfl ?_
  refine mm_iald C (mm_dec dk_X12_isKnown 3 rfl) rfl (by omega) (by omega) ?_
  have g1 : -2147483648 ≤ (h.2.1 96 p1) ∧ (h.2.1 96 p1) ≤ 2147483647 := i0.2.1 96 p1
  refine mm_iload_n C (mm_dec dk_X12_isKnown 4 rfl) rfl ?_
  have J35 : ∀ (s35_0 : Int) (bs35_0 : 0 ≤ s35_0 ∧ s35_0 ≤ 1) (w35_0 : ((s35_0 = 1 ∧ (h.2.1 96 p1 ≤ p2 ∧ (h.2.1 97 p1 = -1 ∨ p2 < h.2.1 97 p1))) ∨ (s35_0 = 0 ∧ (p2 < h.2.1 96 p1 ∨ (h.2.1 97 p1 ≠ -1 ∧ h.2.1 97 p1 ≤ p2))))) (vs35_0 : (s35_0 = 0) ∨ ((h.2.1 96 p1) ≤ p2 ∧ s35_0 = 1)), mm_W x 0 0 35 [mU, mU, mU] [mI s35_0] h := by
    intro s35_0 bs35_0 w35_0 vs35_0
    exact mm_zret C T (mm_dec dk_X12_isKnown 21 rfl) (by decide : 0 ≤ 0) (by decide : 0 ≤ 0) (by omega) ⟨_, rfl, ⟨⟨by omega, by omega⟩, rfl, by omega⟩⟩
  have J34 : ∀ (w34_0 : (p2 < h.2.1 96 p1 ∨ (h.2.1 97 p1 ≠ -1 ∧ h.2.1 97 p1 ≤ p2))), mm_W x 0 0 34 [mU, mU, mU] [] h := by
    intro w34_0
    refine mm_iconst C (mm_dec dk_X12_isKnown 20 rfl) ⟨by decide, by decide⟩ ?_
    exact J35 0 ⟨by omega, by omega⟩ (by omega) (Or.inl rfl)
  refine mm_icmp_gt (tgt := 34) C (mm_dec dk_X12_isKnown 5 rfl) (by decide) (fun c7 => ?_) (fun c7 => ?_)
  · skip
    refine mm_fgt 0 ?_
    refine mm_fgt 1 ?_
    refine mm_fgt 2 ?_
    exact J34 (by omega)
  · skip
    refine mm_aload_n C (mm_dec dk_X12_isKnown 6 rfl) rfl ?_
    refine mm_getr (t := 97) C fl_X12_102 (mm_dec dk_X12_isKnown 7 rfl) rfl rfl (mm_ref i0 rfl) ?_
    refine mm_iload_n C (mm_dec dk_X12_isKnown 8 rfl) rfl ?_
    refine mm_iald C (mm_dec dk_X12_isKnown 9 rfl) rfl (by omega) (by omega) ?_
    have g2 : -2147483648 ≤ (h.2.1 97 p1) ∧ (h.2.1 97 p1) ≤ 2147483647 := i0.2.1 97 p1
    refine mm_iconst C (mm_dec dk_X12_isKnown 10 rfl) ⟨by decide, by decide⟩ ?_
    have J30 : ∀ (w30_0 : (h.2.1 96 p1 ≤ p2 ∧ (h.2.1 97 p1 = -1 ∨ p2 < h.2.1 97 p1))), mm_W x 0 0 30 [mU, mU, mU] [] h := by
      intro w30_0
      refine mm_iconst C (mm_dec dk_X12_isKnown 18 rfl) ⟨by decide, by decide⟩ ?_
      refine mm_goto (tgt := 35) C (mm_dec dk_X12_isKnown 19 rfl) (by decide) ?_
      exact J35 1 ⟨by omega, by omega⟩ (by omega) (Or.inr (⟨by omega, rfl⟩))
    refine mm_icmp_eq (tgt := 30) C (mm_dec dk_X12_isKnown 11 rfl) (by decide) (fun c17 => ?_) (fun c17 => ?_)
    · skip
      refine mm_fgt 0 ?_
      refine mm_fgt 1 ?_
      refine mm_fgt 2 ?_
      exact J30 (by omega)
    · skip
      refine mm_aload_n C (mm_dec dk_X12_isKnown 12 rfl) rfl ?_
      refine mm_getr (t := 97) C fl_X12_102 (mm_dec dk_X12_isKnown 13 rfl) rfl rfl (mm_ref i0 rfl) ?_
      refine mm_iload_n C (mm_dec dk_X12_isKnown 14 rfl) rfl ?_
      refine mm_iald C (mm_dec dk_X12_isKnown 15 rfl) rfl (by omega) (by omega) ?_
      refine mm_iload_n C (mm_dec dk_X12_isKnown 16 rfl) rfl ?_
      refine mm_icmp_le (tgt := 34) C (mm_dec dk_X12_isKnown 17 rfl) (by decide) (fun c27 => ?_) (fun c27 => ?_)
      · skip
        refine mm_fgt 0 ?_
        refine mm_fgt 1 ?_
        refine mm_fgt 2 ?_
        exact J34 (by omega)
      · skip
        refine mm_fgt 0 ?_
        refine mm_fgt 1 ?_
        refine mm_fgt 2 ?_
        exact J30 (by omega)
set_option maxRecDepth 100000 in
set_option maxHeartbeats 4000000 in
theorem c_X12_latest_q (l : Launch) (hl : l.stackTraces = false) (d : Nat) (hd : 1 ≤ d) (h : mH) (i0 : mm_inv h) (p1 : Int) (p2 : Int) (p3 : Int) : mm_Met l d yX12_latest cX12_latest 6 (some .int) [mR 66, mI p1, mI p2, mI p3] h (mm_pi fun r h2 => (-1 ≤ r ∧ r ≤ 499) ∧ h2 = h ∧ mm_lat (mm_k2 h p1 p2 p3) (h.1 66 40) r) mm_nx 0 0 := by
  refine mm_ofW (ls := [mR 66, mI p1, mI p2, mI p3, mU, mU]) hl (by decide) rfl (Nat.le_of_ble_eq_true rfl) ?_
  intro x hxl C T hnm htb
  subst hxl
  have C1 := mm_OK_le (d' := d - 1 + 1) (by omega) C
  refine mm_rng (fun hr _ => ?_)
  have ap1 : -2147483648 ≤ p1 ∧ p1 < 2147483648 := mm_ok_at hr (i := 1) rfl
  have ap2 : -2147483648 ≤ p2 ∧ p2 < 2147483648 := mm_ok_at hr (i := 2) rfl
  have ap3 : -2147483648 ≤ p3 ∧ p3 < 2147483648 := mm_ok_at hr (i := 3) rfl
  have f0 : mm_fr [] [] h h := mm_fr_rf
  have g1 : 0 ≤ h.1 66 40 ∧ h.1 66 40 ≤ 500 := i0.1 66 40
  refine mm_iconst C (mm_dec dk_X12_latest 0 rfl) ⟨by decide, by decide⟩ ?_
  refine mm_istoreL (ls2 := [mR 66, mI p1, mI p2, mI p3, mI (-1), mU]) C (mm_dec dk_X12_latest 1 rfl) (by decide) rfl ?_
  refine mm_iconst C (mm_dec dk_X12_latest 2 rfl) ⟨by decide, by decide⟩ ?_
  have J6 : ∀ (n : Nat) (x6_4 : Int) (bx6_4 : -1 ≤ x6_4 ∧ x6_4 ≤ 499) (x6_5 : Int) (bx6_5 : 0 ≤ x6_5 ∧ x6_5 ≤ 500) (w6_0 : mm_lat (mm_k2 h p1 p2 p3) x6_5 x6_4) (w6_1 : x6_5 ≤ h.1 66 40), (500 - x6_5 : Int) < n → mm_W x 0 0 6 [mR 66, mI p1, mI p2, mI p3, mI x6_4, mI x6_5] [] h := by
    intro n
    induction n with
    | zero =>
      intro x6_4 bx6_4 x6_5 bx6_5 w6_0 w6_1 hm
      have g2 : 0 ≤ h.1 66 40 ∧ h.1 66 40 ≤ 500 := i0.1 66 40
      exfalso; omega
    | succ n ih6 =>
      intro x6_4 bx6_4 x6_5 bx6_5 w6_0 w6_1 hm6
      have g3 : 0 ≤ h.1 66 40 ∧ h.1 66 40 ≤ 500 := i0.1 66 40
      refine mm_iload C (mm_dec dk_X12_latest 4 rfl) rfl ?_
      refine mm_aload_n C (mm_dec dk_X12_latest 5 rfl) rfl ?_
      refine mm_geti C fl_X12_228 (mm_dec dk_X12_latest 6 rfl) rfl rfl (Or.inl rfl) ?_
      refine mm_icmp_ge (tgt := 57) C (mm_dec dk_X12_latest 7 rfl) (by decide) (fun c12 => ?_) (fun c12 => ?_)
      · skip
        refine mm_iload C (mm_dec dk_X12_latest 29 rfl) rfl ?_
        exact mm_iret C T (mm_dec dk_X12_latest 30 rfl) (by decide : 0 ≤ 0) (by decide : 0 ≤ 0) ⟨_, rfl, ⟨⟨by omega, by omega⟩, rfl, by (rw [show h.1 66 40 = x6_5 by omega]; exact w6_0)⟩⟩
      · skip
        refine mm_aload_n C (mm_dec dk_X12_latest 8 rfl) rfl ?_
        refine mm_getr (t := 92) C fl_X12_87 (mm_dec dk_X12_latest 9 rfl) rfl rfl (mm_ref i0 rfl) ?_
        refine mm_iload C (mm_dec dk_X12_latest 10 rfl) rfl ?_
        refine mm_iald C (mm_dec dk_X12_latest 11 rfl) rfl (by omega) (by omega) ?_
        have g4 : -2147483648 ≤ (h.2.1 92 x6_5) ∧ (h.2.1 92 x6_5) ≤ 2147483647 := i0.2.1 92 x6_5
        refine mm_iload_n C (mm_dec dk_X12_latest 12 rfl) rfl ?_
        have J51 : ∀ (x51_4 : Int) (bx51_4 : -1 ≤ x51_4 ∧ x51_4 ≤ 499) (w51_0 : mm_lat (mm_k2 h p1 p2 p3) (x6_5 + 1) x51_4), mm_W x 0 0 51 [mR 66, mI p1, mI p2, mI p3, mI x51_4, mI x6_5] [] h := by
          intro x51_4 bx51_4 w51_0
          have g5 : 0 ≤ h.1 66 40 ∧ h.1 66 40 ≤ 500 := i0.1 66 40
          refine mm_iincL (ls2 := [mR 66, mI p1, mI p2, mI p3, mI x51_4, mI (x6_5 + 1)]) C (mm_dec dk_X12_latest 27 rfl) rfl (by decide) ⟨by omega, by omega⟩ rfl ?_
          refine mm_goto (tgt := 6) C (mm_dec dk_X12_latest 28 rfl) (by decide) ?_
          exact ih6 x51_4 ⟨by omega, by omega⟩ (x6_5 + 1) ⟨by omega, by omega⟩ (by first | exact mm_lat_0 | exact w51_0) (by omega) (by omega)
        refine mm_icmp_ne (tgt := 51) C (mm_dec dk_X12_latest 13 rfl) (by decide) (fun c23 => ?_) (fun c23 => ?_)
        · skip
          exact J51 x6_4 ⟨by omega, by omega⟩ (by first | exact mm_lat_1 (by omega) ⟨by omega, by omega, by omega, by omega⟩ | exact mm_lat_2 w6_0 (fun q => by have q1 := q.1; have q2 := q.2.1; have q3 := q.2.2.1; have q4 := q.2.2.2; omega))
        · skip
          refine mm_aload_n C (mm_dec dk_X12_latest 14 rfl) rfl ?_
          refine mm_getr (t := 93) C fl_X12_90 (mm_dec dk_X12_latest 15 rfl) rfl rfl (mm_ref i0 rfl) ?_
          refine mm_iload C (mm_dec dk_X12_latest 16 rfl) rfl ?_
          refine mm_iald C (mm_dec dk_X12_latest 17 rfl) rfl (by omega) (by omega) ?_
          have g6 : -2147483648 ≤ (h.2.1 93 x6_5) ∧ (h.2.1 93 x6_5) ≤ 2147483647 := i0.2.1 93 x6_5
          refine mm_iload_n C (mm_dec dk_X12_latest 18 rfl) rfl ?_
          refine mm_icmp_ne (tgt := 51) C (mm_dec dk_X12_latest 19 rfl) (by decide) (fun c34 => ?_) (fun c34 => ?_)
          · skip
            exact J51 x6_4 ⟨by omega, by omega⟩ (by first | exact mm_lat_1 (by omega) ⟨by omega, by omega, by omega, by omega⟩ | exact mm_lat_2 w6_0 (fun q => by have q1 := q.1; have q2 := q.2.1; have q3 := q.2.2.1; have q4 := q.2.2.2; omega))
          · skip
            refine mm_aload_n C (mm_dec dk_X12_latest 20 rfl) rfl ?_
            refine mm_iload C (mm_dec dk_X12_latest 21 rfl) rfl ?_
            refine mm_iload_n C (mm_dec dk_X12_latest 22 rfl) rfl ?_
            refine mm_cVi (rest := []) C1 ev_X12_319 (mm_dec dk_X12_latest 23 rfl) (c_X12_isKnown_q x.2.1 hl (d - 1) (by omega) h i0 x6_5 p3 ⟨by omega, by omega⟩) rfl rfl (Nat.le_of_ble_eq_true rfl) ⟨by decide, by decide⟩ rfl (fun r41 h41c hp41 => ?_) (fun _ _ q => q.elim)
            obtain ⟨b41, z41, y41_0⟩ := hp41
            rw [z41]
            refine mm_if_eq (tgt := 51) C (mm_dec dk_X12_latest 24 rfl) (by decide) (fun c44 => ?_) (fun c44 => ?_)
            · skip
              exact J51 x6_4 ⟨by omega, by omega⟩ (by first | exact mm_lat_1 (by omega) ⟨by omega, by omega, by omega, by omega⟩ | exact mm_lat_2 w6_0 (fun q => by have q1 := q.1; have q2 := q.2.1; have q3 := q.2.2.1; have q4 := q.2.2.2; omega))
            · skip
              refine mm_iload C (mm_dec dk_X12_latest 25 rfl) rfl ?_
              refine mm_istoreL (ls2 := [mR 66, mI p1, mI p2, mI p3, mI x6_5, mI x6_5]) C (mm_dec dk_X12_latest 26 rfl) (by decide) rfl ?_
              exact J51 x6_5 ⟨by omega, by omega⟩ (by first | exact mm_lat_1 (by omega) ⟨by omega, by omega, by omega, by omega⟩ | exact mm_lat_2 w6_0 (fun q => by have q1 := q.1; have q2 := q.2.1; have q3 := q.2.2.1; have q4 := q.2.2.2; omega))
  refine mm_istoreL (ls2 := [mR 66, mI p1, mI p2, mI p3, mI (-1), mI 0]) C (mm_dec dk_X12_latest 3 rfl) (by decide) rfl ?_
  exact J6 (((500 - 0) : Int) + 1).toNat (-1) ⟨by omega, by omega⟩ 0 ⟨by omega, by omega⟩ (by first | exact mm_lat_0 | exact w51_0) (by omega) (by omega)
set_option maxRecDepth 100000 in
set_option maxHeartbeats 4000000 in
theorem c_X12_paramOf_q (l : Launch) (hl : l.stackTraces = false) (d : Nat) (hd : 0 ≤ d) (h : mH) (i0 : mm_inv h) (p1 : Int) (bp1 : 0 ≤ p1 ∧ p1 ≤ 2) : mm_Met l d yX12_paramOf cX12_paramOf 2 (some .int) [mR 66, mI p1] h (mm_pi fun r h2 => (-2147483648 ≤ r ∧ r ≤ 2147483647) ∧ h2 = h ∧ r = mm_pr h p1) mm_nx 0 0 := by
  refine mm_ofW (ls := [mR 66, mI p1]) hl (by decide) rfl (Nat.le_of_ble_eq_true rfl) ?_
  intro x hxl C T hnm htb
  subst hxl
  refine mm_rng (fun hr _ => ?_)
  have ap1 : -2147483648 ≤ p1 ∧ p1 < 2147483648 := mm_ok_at hr (i := 1) rfl
  have f0 : mm_fr [] [] h h := mm_fr_rf
  refine mm_aload_n C (mm_dec dk_X12_paramOf 0 rfl) rfl ?_
  refine mm_geti C fl_X12_240 (mm_dec dk_X12_paramOf 1 rfl) rfl rfl (Or.inr rfl) ?_
  have g1 : 0 ≤ (h.1 66 67) ∧ (h.1 66 67) ≤ 1 := i0.1 66 67
  have J46 : ∀ (s46_0 : Int) (bs46_0 : -2147483648 ≤ s46_0 ∧ s46_0 ≤ 2147483647) (w46_0 : s46_0 = mm_pr h p1), mm_W x 0 0 46 [mU, mU] [mI s46_0] h := by
    intro s46_0 bs46_0 w46_0
    exact mm_iret C T (mm_dec dk_X12_paramOf 23 rfl) (by decide : 0 ≤ 0) (by decide : 0 ≤ 0) ⟨_, rfl, ⟨⟨by omega, by omega⟩, rfl, by omega⟩⟩
  refine mm_if_eq (tgt := 23) C (mm_dec dk_X12_paramOf 2 rfl) (by decide) (fun c4 => ?_) (fun c4 => ?_)
  · skip
    refine mm_iload_n C (mm_dec dk_X12_paramOf 13 rfl) rfl ?_
    refine mm_if_ne (tgt := 33) C (mm_dec dk_X12_paramOf 14 rfl) (by decide) (fun c24 => ?_) (fun c24 => ?_)
    · skip
      refine mm_iload_n C (mm_dec dk_X12_paramOf 17 rfl) rfl ?_
      refine mm_iconst C (mm_dec dk_X12_paramOf 18 rfl) ⟨by decide, by decide⟩ ?_
      refine mm_icmp_ne (tgt := 43) C (mm_dec dk_X12_paramOf 19 rfl) (by decide) (fun c35 => ?_) (fun c35 => ?_)
      · skip
        refine mm_sipush C (mm_dec dk_X12_paramOf 22 rfl) ⟨by decide, by decide⟩ ?_
        refine mm_fgt 0 ?_
        refine mm_fgt 1 ?_
        exact J46 900 ⟨by omega, by omega⟩ (by first | (unfold mm_pr; rw [if_neg (by omega)]) | (unfold mm_pr mm_P0; rw [if_pos (by omega)]; (repeat' split) <;> omega))
      · skip
        refine mm_bipush C (mm_dec dk_X12_paramOf 20 rfl) ⟨by decide, by decide⟩ ?_
        refine mm_goto (tgt := 46) C (mm_dec dk_X12_paramOf 21 rfl) (by decide) ?_
        refine mm_fgt 0 ?_
        refine mm_fgt 1 ?_
        exact J46 60 ⟨by omega, by omega⟩ (by first | (unfold mm_pr; rw [if_neg (by omega)]) | (unfold mm_pr mm_P0; rw [if_pos (by omega)]; (repeat' split) <;> omega))
    · skip
      refine mm_sipush C (mm_dec dk_X12_paramOf 15 rfl) ⟨by decide, by decide⟩ ?_
      refine mm_goto (tgt := 46) C (mm_dec dk_X12_paramOf 16 rfl) (by decide) ?_
      refine mm_fgt 0 ?_
      refine mm_fgt 1 ?_
      exact J46 3600 ⟨by omega, by omega⟩ (by first | (unfold mm_pr; rw [if_neg (by omega)]) | (unfold mm_pr mm_P0; rw [if_pos (by omega)]; (repeat' split) <;> omega))
  · skip
    refine mm_aload_n C (mm_dec dk_X12_paramOf 3 rfl) rfl ?_
    refine mm_getr (t := 102) C fl_X12_117 (mm_dec dk_X12_paramOf 4 rfl) rfl rfl (mm_ref i0 rfl) ?_
    refine mm_iconst C (mm_dec dk_X12_paramOf 5 rfl) ⟨by decide, by decide⟩ ?_
    refine mm_aload_n C (mm_dec dk_X12_paramOf 6 rfl) rfl ?_
    refine mm_geti C fl_X12_454 (mm_dec dk_X12_paramOf 7 rfl) rfl rfl (Or.inl rfl) ?_
    have g2 : 0 ≤ (h.1 66 68) ∧ (h.1 66 68) ≤ 1 := i0.1 66 68
    refine mm_imul C (mm_dec dk_X12_paramOf 8 rfl) ⟨by omega, by omega⟩ ?_
    refine mm_iload_n C (mm_dec dk_X12_paramOf 9 rfl) rfl ?_
    refine mm_iadd C (mm_dec dk_X12_paramOf 10 rfl) ⟨by omega, by omega⟩ ?_
    refine mm_iald C (mm_dec dk_X12_paramOf 11 rfl) rfl (by omega) (by omega) ?_
    have g3 : -2147483648 ≤ (h.2.1 102 ((3 * (h.1 66 68)) + p1)) ∧ (h.2.1 102 ((3 * (h.1 66 68)) + p1)) ≤ 2147483647 := i0.2.1 102 ((3 * (h.1 66 68)) + p1)
    refine mm_goto (tgt := 46) C (mm_dec dk_X12_paramOf 12 rfl) (by decide) ?_
    refine mm_fgt 0 ?_
    refine mm_fgt 1 ?_
    exact J46 (h.2.1 102 ((3 * (h.1 66 68)) + p1)) ⟨by omega, by omega⟩ (by first | (unfold mm_pr; rw [if_neg (by omega)]) | (unfold mm_pr mm_P0; rw [if_pos (by omega)]; (repeat' split) <;> omega))
set_option maxRecDepth 100000 in
set_option maxHeartbeats 4000000 in
theorem c_X12_event_q (l : Launch) (hl : l.stackTraces = false) (d : Nat) (hd : 2 ≤ d) (h : mH) (i0 : mm_inv h) (p1 : Int) (p2 : Int) (p3 : Int) (p4 : Int) : mm_Met l d yX12_event cX12_event 5 (some .int) [mR 66, mI p1, mI p2, mI p3, mI p4] h (mm_pi fun r h2 => (-1 ≤ r ∧ r ≤ 499) ∧ mm_inv h2 ∧ mm_fr [(66, 0), (66, 40)] [92, 93, 94, 95, 96, 97] h h2 ∧ (((0 ≤ p1 ∧ p1 ≤ 2 ∧ 0 ≤ p2 ∧ p2 < h.1 66 23 ∧ (p1 ≠ 1 ∨ (0 ≤ p3 ∧ p3 < h.1 66 21))) ∧ h2.1 66 0 = 0 ∧ (((h.1 66 40 ≤ 499 ∧ 0 ≤ p4 ∧ ((p1 = 0 ∧ p4 ≤ 99999) ∨ (p1 ≠ 0 ∧ p4 ≤ h.1 66 41))) ∧ r = h.1 66 40 ∧ h2.1 66 40 = h.1 66 40 + 1) ∨ ((h.1 66 40 = 500 ∨ p4 < 0 ∨ (p1 = 0 ∧ 99999 < p4) ∨ (p1 ≠ 0 ∧ h.1 66 41 < p4)) ∧ r = -1 ∧ h2.1 66 40 = h.1 66 40))) ∨ ((p1 < 0 ∨ 2 < p1 ∨ p2 < 0 ∨ h.1 66 23 ≤ p2 ∨ (p1 = 1 ∧ (p3 < 0 ∨ h.1 66 21 ≤ p3))) ∧ h2.1 66 0 = 1 ∧ r = 0 ∧ h2.1 66 40 = h.1 66 40)) ∧ (∃ f : Int, ((f = 1 ∧ h2.1 66 40 = h.1 66 40 + 1) ∨ (f = 0 ∧ h2.1 66 40 = h.1 66 40)) ∧ mm_up h h2 92 (h.1 66 40) p1 f ∧ mm_up h h2 93 (h.1 66 40) p2 f ∧ mm_up h h2 96 (h.1 66 40) (h.1 66 41) f ∧ mm_up h h2 97 (h.1 66 40) (-1) f ∧ mm_up h h2 94 (h.1 66 40) p3 f ∧ mm_up h h2 95 (h.1 66 40) p4 f)) mm_nx 0 0 := by
  refine mm_ofW (ls := [mR 66, mI p1, mI p2, mI p3, mI p4]) hl (by decide) rfl (Nat.le_of_ble_eq_true rfl) ?_
  intro x hxl C T hnm htb
  subst hxl
  have C1 := mm_OK_le (d' := d - 1 + 1) (by omega) C
  refine mm_rng (fun hr _ => ?_)
  have ap1 : -2147483648 ≤ p1 ∧ p1 < 2147483648 := mm_ok_at hr (i := 1) rfl
  have ap2 : -2147483648 ≤ p2 ∧ p2 < 2147483648 := mm_ok_at hr (i := 2) rfl
  have ap3 : -2147483648 ≤ p3 ∧ p3 < 2147483648 := mm_ok_at hr (i := 3) rfl
  have ap4 : -2147483648 ≤ p4 ∧ p4 < 2147483648 := mm_ok_at hr (i := 4) rfl
  have f0 : mm_fr [(66, 0), (66, 40)] [92, 93, 94, 95, 96, 97] h h := mm_fr_rf
  have g1 : -2147483648 ≤ h.1 66 0 ∧ h.1 66 0 ≤ 2147483647 := i0.1 66 0
  have g2 : 0 ≤ h.1 66 40 ∧ h.1 66 40 ≤ 500 := i0.1 66 40
  have g3 : 0 ≤ h.1 66 23 ∧ h.1 66 23 ≤ 40 := i0.1 66 23
  have g4 : 0 ≤ h.1 66 21 ∧ h.1 66 21 ≤ 20 := i0.1 66 21
  have g5 : 0 ≤ h.1 66 41 ∧ h.1 66 41 ≤ 99999 := i0.1 66 41
  refine mm_aload_n C (mm_dec dk_X12_event 0 rfl) rfl ?_
  refine mm_iconst C (mm_dec dk_X12_event 1 rfl) ⟨by decide, by decide⟩ ?_
  refine mm_puti C fl_X12_188 (mm_dec dk_X12_event 2 rfl) rfl rfl rfl (Or.inl ⟨rfl, rfl⟩) ?_
  have i1 : mm_inv (mm_pf h 66 0 0) := mm_inv_pf i0 (show -2147483648 ≤ 0 ∧ 0 ≤ 2147483647 from ⟨by omega, by omega⟩) (by decide)
  have f1 : mm_fr [(66, 0), (66, 40)] [92, 93, 94, 95, 96, 97] h (mm_pf h 66 0 0) := mm_fr_pf f0 (by decide)
  obtain ⟨h1, eh1⟩ : ∃ z, z = mm_pf h 66 0 0 := ⟨_, rfl⟩
  rw [← eh1] at i1 f1 ⊢
  have qh1 : h1.1 66 0 = 0 := by rw [eh1]; exact mm_pf_same _ _ _ _
  have qh1_6 : h1.1 66 21 = h.1 66 21 := by rw [eh1]; exact mm_pf_ne _ _ (by decide)
  have qh1_7 : h1.1 66 23 = h.1 66 23 := by rw [eh1]; exact mm_pf_ne _ _ (by decide)
  have qh1_8 : h1.1 66 40 = h.1 66 40 := by rw [eh1]; exact mm_pf_ne _ _ (by decide)
  have qh1_9 : h1.1 66 41 = h.1 66 41 := by rw [eh1]; exact mm_pf_ne _ _ (by decide)
  refine mm_aload_n C (mm_dec dk_X12_event 3 rfl) rfl ?_
  refine mm_iload_n C (mm_dec dk_X12_event 4 rfl) rfl ?_
  have J20 : ∀ (s20_1 : Int) (bs20_1 : 0 ≤ s20_1 ∧ s20_1 ≤ 1) (w20_0 : ((s20_1 = 1 ∧ (0 ≤ p1 ∧ p1 ≤ 2)) ∨ (s20_1 = 0 ∧ (p1 < 0 ∨ 2 < p1)))) (w20_1 : h1.1 66 0 = 0) (vs20_1 : (s20_1 = 0) ∨ (0 ≤ p1 ∧ p1 ≤ 2 ∧ s20_1 = 1)), mm_W x 0 0 20 [mR 66, mI p1, mI p2, mI p3, mI p4] [mI s20_1, mR 66] h1 := by
    intro s20_1 bs20_1 w20_0 w20_1 vs20_1
    refine mm_iconst C (mm_dec dk_X12_event 12 rfl) ⟨by decide, by decide⟩ ?_
    refine mm_cVi (rest := []) C1 ev_X12_251 (mm_dec dk_X12_event 13 rfl) (c_X12_right_q x.2.1 hl (d - 1) (by omega) h1 i1 s20_1 1 ⟨by omega, by omega⟩ (by omega)) rfl rfl (Nat.le_of_ble_eq_true rfl) ⟨by decide, by decide⟩ rfl (fun r21 h21c hp21 => ?_) (fun _ _ q => q.elim)
    obtain ⟨b21, i21c, g21c, y21_0⟩ := hp21
    have f21c : mm_fr [(66, 0), (66, 40)] [92, 93, 94, 95, 96, 97] h h21c := mm_fr_tr f1 g21c (by decide +kernel)
    have q21c_11 : h21c.1 66 21 = h1.1 66 21 := g21c.1 66 21 (by decide)
    have q21c_12 : h21c.1 66 23 = h1.1 66 23 := g21c.1 66 23 (by decide)
    have q21c_13 : h21c.1 66 40 = h1.1 66 40 := g21c.1 66 40 (by decide)
    have q21c_14 : h21c.1 66 41 = h1.1 66 41 := g21c.1 66 41 (by decide)
    have g15 : -2147483648 ≤ (h21c.1 66 0) ∧ (h21c.1 66 0) ≤ 2147483647 := i21c.1 66 0
    have J65 : ∀ (h65_ : mH) (i65_ : mm_inv h65_) (f65_ : mm_fr [(66, 0), (66, 40)] [92, 93, 94, 95, 96, 97] h h65_) (w65_0 : (p1 < 0 ∨ 2 < p1 ∨ p2 < 0 ∨ h.1 66 23 ≤ p2 ∨ (p1 = 1 ∧ (p3 < 0 ∨ h.1 66 21 ≤ p3)))) (w65_1 : h65_.1 66 0 = 1) (w65_2 : h65_.1 66 40 = h.1 66 40) (w65_3 : mm_ke9 h h65_) (w65_4 : ∀ j, h65_.2.1 94 j = h.2.1 94 j) (w65_5 : ∀ j, h65_.2.1 95 j = h.2.1 95 j), mm_W x 0 0 65 [mU, mU, mU, mU, mU] [] h65_ := by
      intro h65_ i65_ f65_ w65_0 w65_1 w65_2 w65_3 w65_4 w65_5
      have g16 : -2147483648 ≤ h65_.1 66 0 ∧ h65_.1 66 0 ≤ 2147483647 := i65_.1 66 0
      have g17 : 0 ≤ h65_.1 66 40 ∧ h65_.1 66 40 ≤ 500 := i65_.1 66 40
      have g18 : 0 ≤ h65_.1 66 23 ∧ h65_.1 66 23 ≤ 40 := i65_.1 66 23
      have g19 : 0 ≤ h65_.1 66 21 ∧ h65_.1 66 21 ≤ 20 := i65_.1 66 21
      have g20 : 0 ≤ h65_.1 66 41 ∧ h65_.1 66 41 ≤ 99999 := i65_.1 66 41
      have g21 : h65_.1 66 23 = h.1 66 23 := f65_.1 66 23 (by decide)
      have g22 : h65_.1 66 21 = h.1 66 21 := f65_.1 66 21 (by decide)
      have g23 : h65_.1 66 41 = h.1 66 41 := f65_.1 66 41 (by decide)
      refine mm_iconst C (mm_dec dk_X12_event 35 rfl) ⟨by decide, by decide⟩ ?_
      exact mm_iret C T (mm_dec dk_X12_event 36 rfl) (by decide : 0 ≤ 0) (by decide : 0 ≤ 0) ⟨_, rfl, ⟨⟨by omega, by omega⟩, i65_, f65_, by omega, by first | exact ⟨0, Or.inr ⟨rfl, by omega⟩, mm_up_no (by decide) w65_3.1, mm_up_no (by decide) w65_3.2.1, mm_up_no (by decide) w65_3.2.2.1, mm_up_no (by decide) w65_3.2.2.2.1, mm_up_no (by decide) w65_4, mm_up_no (by decide) w65_5⟩ | exact ⟨0, Or.inr ⟨rfl, by omega⟩, mm_up_no (by decide) w67_3.1, mm_up_no (by decide) w67_3.2.1, mm_up_no (by decide) w67_3.2.2.1, mm_up_no (by decide) w67_3.2.2.2.1, mm_up_no (by decide) w67_4, mm_up_no (by decide) w67_5⟩ | exact ⟨1, Or.inl ⟨rfl, by omega⟩, mm_up_cg (mm_up_tr w67_3.1 y109_2 (fun _ => rfl) rfl Iff.rfl) (by omega) rfl, mm_up_cg (mm_up_tr w67_3.2.1 y109_3 (fun _ => rfl) rfl Iff.rfl) (by omega) rfl, mm_up_cg (mm_up_tr w67_3.2.2.1 y109_4 (fun _ => rfl) rfl Iff.rfl) (by omega) (by omega), mm_up_cg (mm_up_tr w67_3.2.2.2.1 y109_5 (fun _ => rfl) rfl Iff.rfl) (by omega) rfl, mm_up_cg (mm_up_tr w67_4 y109_6 (fun _ => rfl) rfl Iff.rfl) (by omega) rfl, mm_up_cg (mm_up_tr w67_5 y109_7 (fun _ => rfl) rfl Iff.rfl) (by omega) rfl⟩⟩⟩
    refine mm_if_eq (tgt := 65) C (mm_dec dk_X12_event 14 rfl) (by decide) (fun c24 => ?_) (fun c24 => ?_)
    · skip
      refine mm_fgt 0 ?_
      refine mm_fgt 1 ?_
      refine mm_fgt 2 ?_
      refine mm_fgt 3 ?_
      refine mm_fgt 4 ?_
      exact J65 h21c i21c f21c (by omega) (by omega) (by omega) (by first | exact (mm_ke9_fr (mm_ke9_fr mm_ke9_rf (show mm_fr [(66, 0)] [] h h1 from by rw [eh1]; exact mm_fr_pf mm_fr_rf (by decide)) (by decide)) g21c (by decide)) | exact (mm_ke9_fr (mm_ke9_fr (mm_ke9_fr mm_ke9_rf (show mm_fr [(66, 0)] [] h h1 from by rw [eh1]; exact mm_fr_pf mm_fr_rf (by decide)) (by decide)) g21c (by decide)) g46c (by decide)) | exact (mm_ke9_fr (mm_ke9_fr (mm_ke9_fr (mm_ke9_fr mm_ke9_rf (show mm_fr [(66, 0)] [] h h1 from by rw [eh1]; exact mm_fr_pf mm_fr_rf (by decide)) (by decide)) g21c (by decide)) g46c (by decide)) g59c (by decide))) (by first | exact fun j => (g21c.2 94 (by decide) j).trans (mm_sm_pf 94 eh1 j) | exact fun j => (g46c.2 94 (by decide) j).trans ((g21c.2 94 (by decide) j).trans (mm_sm_pf 94 eh1 j)) | exact fun j => (g59c.2 94 (by decide) j).trans ((g46c.2 94 (by decide) j).trans ((g21c.2 94 (by decide) j).trans (mm_sm_pf 94 eh1 j)))) (by first | exact fun j => (g21c.2 95 (by decide) j).trans (mm_sm_pf 95 eh1 j) | exact fun j => (g46c.2 95 (by decide) j).trans ((g21c.2 95 (by decide) j).trans (mm_sm_pf 95 eh1 j)) | exact fun j => (g59c.2 95 (by decide) j).trans ((g46c.2 95 (by decide) j).trans ((g21c.2 95 (by decide) j).trans (mm_sm_pf 95 eh1 j))))
    · skip
      refine mm_aload_n C (mm_dec dk_X12_event 15 rfl) rfl ?_
      refine mm_iload_n C (mm_dec dk_X12_event 16 rfl) rfl ?_
      have J45 : ∀ (s45_1 : Int) (bs45_1 : 0 ≤ s45_1 ∧ s45_1 ≤ 1) (w45_0 : ((s45_1 = 1 ∧ (0 ≤ p2 ∧ p2 < h.1 66 23)) ∨ (s45_1 = 0 ∧ (p2 < 0 ∨ h.1 66 23 ≤ p2)))) (w45_1 : (0 ≤ p1 ∧ p1 ≤ 2)) (w45_2 : h21c.1 66 0 = 0) (vs45_1 : (s45_1 = 0) ∨ (0 ≤ p2 ∧ p2 < (h21c.1 66 23) ∧ s45_1 = 1)), mm_W x 0 0 45 [mR 66, mI p1, mI p2, mI p3, mI p4] [mI s45_1, mR 66] h21c := by
        intro s45_1 bs45_1 w45_0 w45_1 w45_2 vs45_1
        refine mm_iconst C (mm_dec dk_X12_event 25 rfl) ⟨by decide, by decide⟩ ?_
        refine mm_cVi (rest := []) C1 ev_X12_251 (mm_dec dk_X12_event 26 rfl) (c_X12_right_q x.2.1 hl (d - 1) (by omega) h21c i21c s45_1 1 ⟨by omega, by omega⟩ (by omega)) rfl rfl (Nat.le_of_ble_eq_true rfl) ⟨by decide, by decide⟩ rfl (fun r46 h46c hp46 => ?_) (fun _ _ q => q.elim)
        obtain ⟨b46, i46c, g46c, y46_0⟩ := hp46
        have f46c : mm_fr [(66, 0), (66, 40)] [92, 93, 94, 95, 96, 97] h h46c := mm_fr_tr f21c g46c (by decide +kernel)
        have q46c_25 : h46c.1 66 21 = h21c.1 66 21 := g46c.1 66 21 (by decide)
        have q46c_26 : h46c.1 66 23 = h21c.1 66 23 := g46c.1 66 23 (by decide)
        have q46c_27 : h46c.1 66 40 = h21c.1 66 40 := g46c.1 66 40 (by decide)
        have q46c_28 : h46c.1 66 41 = h21c.1 66 41 := g46c.1 66 41 (by decide)
        have g29 : -2147483648 ≤ (h46c.1 66 0) ∧ (h46c.1 66 0) ≤ 2147483647 := i46c.1 66 0
        refine mm_if_eq (tgt := 65) C (mm_dec dk_X12_event 27 rfl) (by decide) (fun c49 => ?_) (fun c49 => ?_)
        · skip
          refine mm_fgt 0 ?_
          refine mm_fgt 1 ?_
          refine mm_fgt 2 ?_
          refine mm_fgt 3 ?_
          refine mm_fgt 4 ?_
          exact J65 h46c i46c f46c (by omega) (by omega) (by omega) (by first | exact (mm_ke9_fr (mm_ke9_fr mm_ke9_rf (show mm_fr [(66, 0)] [] h h1 from by rw [eh1]; exact mm_fr_pf mm_fr_rf (by decide)) (by decide)) g21c (by decide)) | exact (mm_ke9_fr (mm_ke9_fr (mm_ke9_fr mm_ke9_rf (show mm_fr [(66, 0)] [] h h1 from by rw [eh1]; exact mm_fr_pf mm_fr_rf (by decide)) (by decide)) g21c (by decide)) g46c (by decide)) | exact (mm_ke9_fr (mm_ke9_fr (mm_ke9_fr (mm_ke9_fr mm_ke9_rf (show mm_fr [(66, 0)] [] h h1 from by rw [eh1]; exact mm_fr_pf mm_fr_rf (by decide)) (by decide)) g21c (by decide)) g46c (by decide)) g59c (by decide))) (by first | exact fun j => (g21c.2 94 (by decide) j).trans (mm_sm_pf 94 eh1 j) | exact fun j => (g46c.2 94 (by decide) j).trans ((g21c.2 94 (by decide) j).trans (mm_sm_pf 94 eh1 j)) | exact fun j => (g59c.2 94 (by decide) j).trans ((g46c.2 94 (by decide) j).trans ((g21c.2 94 (by decide) j).trans (mm_sm_pf 94 eh1 j)))) (by first | exact fun j => (g21c.2 95 (by decide) j).trans (mm_sm_pf 95 eh1 j) | exact fun j => (g46c.2 95 (by decide) j).trans ((g21c.2 95 (by decide) j).trans (mm_sm_pf 95 eh1 j)) | exact fun j => (g59c.2 95 (by decide) j).trans ((g46c.2 95 (by decide) j).trans ((g21c.2 95 (by decide) j).trans (mm_sm_pf 95 eh1 j))))
        · skip
          refine mm_iload_n C (mm_dec dk_X12_event 28 rfl) rfl ?_
          refine mm_iconst C (mm_dec dk_X12_event 29 rfl) ⟨by decide, by decide⟩ ?_
          have J67 : ∀ (h67_ : mH) (i67_ : mm_inv h67_) (f67_ : mm_fr [(66, 0), (66, 40)] [92, 93, 94, 95, 96, 97] h h67_) (w67_0 : (0 ≤ p1 ∧ p1 ≤ 2 ∧ 0 ≤ p2 ∧ p2 < h.1 66 23 ∧ (p1 ≠ 1 ∨ (0 ≤ p3 ∧ p3 < h.1 66 21)))) (w67_1 : h67_.1 66 0 = 0) (w67_2 : h67_.1 66 40 = h.1 66 40) (w67_3 : mm_ke9 h h67_) (w67_4 : ∀ j, h67_.2.1 94 j = h.2.1 94 j) (w67_5 : ∀ j, h67_.2.1 95 j = h.2.1 95 j), mm_W x 0 0 67 [mR 66, mI p1, mI p2, mI p3, mI p4] [] h67_ := by
            intro h67_ i67_ f67_ w67_0 w67_1 w67_2 w67_3 w67_4 w67_5
            have g30 : -2147483648 ≤ h67_.1 66 0 ∧ h67_.1 66 0 ≤ 2147483647 := i67_.1 66 0
            have g31 : 0 ≤ h67_.1 66 40 ∧ h67_.1 66 40 ≤ 500 := i67_.1 66 40
            have g32 : 0 ≤ h67_.1 66 23 ∧ h67_.1 66 23 ≤ 40 := i67_.1 66 23
            have g33 : 0 ≤ h67_.1 66 21 ∧ h67_.1 66 21 ≤ 20 := i67_.1 66 21
            have g34 : 0 ≤ h67_.1 66 41 ∧ h67_.1 66 41 ≤ 99999 := i67_.1 66 41
            have g35 : h67_.1 66 23 = h.1 66 23 := f67_.1 66 23 (by decide)
            have g36 : h67_.1 66 21 = h.1 66 21 := f67_.1 66 21 (by decide)
            have g37 : h67_.1 66 41 = h.1 66 41 := f67_.1 66 41 (by decide)
            refine mm_aload_n C (mm_dec dk_X12_event 37 rfl) rfl ?_
            refine mm_geti C fl_X12_228 (mm_dec dk_X12_event 38 rfl) rfl rfl (Or.inl rfl) ?_
            refine mm_sipush C (mm_dec dk_X12_event 39 rfl) ⟨by decide, by decide⟩ ?_
            have J101 : ∀ (w101_0 : (h.1 66 40 = 500 ∨ p4 < 0 ∨ (p1 = 0 ∧ 99999 < p4) ∨ (p1 ≠ 0 ∧ h.1 66 41 < p4))), mm_W x 0 0 101 [mU, mU, mU, mU, mU] [] h67_ := by
              intro w101_0
              have g38 : -2147483648 ≤ h67_.1 66 0 ∧ h67_.1 66 0 ≤ 2147483647 := i67_.1 66 0
              have g39 : 0 ≤ h67_.1 66 40 ∧ h67_.1 66 40 ≤ 500 := i67_.1 66 40
              have g40 : 0 ≤ h67_.1 66 23 ∧ h67_.1 66 23 ≤ 40 := i67_.1 66 23
              have g41 : 0 ≤ h67_.1 66 21 ∧ h67_.1 66 21 ≤ 20 := i67_.1 66 21
              have g42 : 0 ≤ h67_.1 66 41 ∧ h67_.1 66 41 ≤ 99999 := i67_.1 66 41
              refine mm_iconst C (mm_dec dk_X12_event 51 rfl) ⟨by decide, by decide⟩ ?_
              exact mm_iret C T (mm_dec dk_X12_event 52 rfl) (by decide : 0 ≤ 0) (by decide : 0 ≤ 0) ⟨_, rfl, ⟨⟨by omega, by omega⟩, i67_, f67_, by omega, by first | exact ⟨0, Or.inr ⟨rfl, by omega⟩, mm_up_no (by decide) w65_3.1, mm_up_no (by decide) w65_3.2.1, mm_up_no (by decide) w65_3.2.2.1, mm_up_no (by decide) w65_3.2.2.2.1, mm_up_no (by decide) w65_4, mm_up_no (by decide) w65_5⟩ | exact ⟨0, Or.inr ⟨rfl, by omega⟩, mm_up_no (by decide) w67_3.1, mm_up_no (by decide) w67_3.2.1, mm_up_no (by decide) w67_3.2.2.1, mm_up_no (by decide) w67_3.2.2.2.1, mm_up_no (by decide) w67_4, mm_up_no (by decide) w67_5⟩ | exact ⟨1, Or.inl ⟨rfl, by omega⟩, mm_up_cg (mm_up_tr w67_3.1 y109_2 (fun _ => rfl) rfl Iff.rfl) (by omega) rfl, mm_up_cg (mm_up_tr w67_3.2.1 y109_3 (fun _ => rfl) rfl Iff.rfl) (by omega) rfl, mm_up_cg (mm_up_tr w67_3.2.2.1 y109_4 (fun _ => rfl) rfl Iff.rfl) (by omega) (by omega), mm_up_cg (mm_up_tr w67_3.2.2.2.1 y109_5 (fun _ => rfl) rfl Iff.rfl) (by omega) rfl, mm_up_cg (mm_up_tr w67_4 y109_6 (fun _ => rfl) rfl Iff.rfl) (by omega) rfl, mm_up_cg (mm_up_tr w67_5 y109_7 (fun _ => rfl) rfl Iff.rfl) (by omega) rfl⟩⟩⟩
            refine mm_icmp_eq (tgt := 101) C (mm_dec dk_X12_event 40 rfl) (by decide) (fun c74 => ?_) (fun c74 => ?_)
            · skip
              refine mm_fgt 0 ?_
              refine mm_fgt 1 ?_
              refine mm_fgt 2 ?_
              refine mm_fgt 3 ?_
              refine mm_fgt 4 ?_
              exact J101 (by omega)
            · skip
              refine mm_iload C (mm_dec dk_X12_event 41 rfl) rfl ?_
              refine mm_if_lt (tgt := 101) C (mm_dec dk_X12_event 42 rfl) (by decide) (fun c79 => ?_) (fun c79 => ?_)
              · skip
                refine mm_fgt 0 ?_
                refine mm_fgt 1 ?_
                refine mm_fgt 2 ?_
                refine mm_fgt 3 ?_
                refine mm_fgt 4 ?_
                exact J101 (by omega)
              · skip
                refine mm_iload C (mm_dec dk_X12_event 43 rfl) rfl ?_
                refine mm_iload_n C (mm_dec dk_X12_event 44 rfl) rfl ?_
                have J98 : ∀ (s98_1 : Int) (bs98_1 : 0 ≤ s98_1 ∧ s98_1 ≤ 99999) (w98_0 : ((p1 = 0 ∧ s98_1 = 99999) ∨ (p1 ≠ 0 ∧ s98_1 = h.1 66 41))), mm_W x 0 0 98 [mR 66, mI p1, mI p2, mI p3, mI p4] [mI s98_1, mI p4] h67_ := by
                  intro s98_1 bs98_1 w98_0
                  have g43 : -2147483648 ≤ h67_.1 66 0 ∧ h67_.1 66 0 ≤ 2147483647 := i67_.1 66 0
                  have g44 : 0 ≤ h67_.1 66 40 ∧ h67_.1 66 40 ≤ 500 := i67_.1 66 40
                  have g45 : 0 ≤ h67_.1 66 23 ∧ h67_.1 66 23 ≤ 40 := i67_.1 66 23
                  have g46 : 0 ≤ h67_.1 66 21 ∧ h67_.1 66 21 ≤ 20 := i67_.1 66 21
                  have g47 : 0 ≤ h67_.1 66 41 ∧ h67_.1 66 41 ≤ 99999 := i67_.1 66 41
                  refine mm_icmp_le (tgt := 103) C (mm_dec dk_X12_event 50 rfl) (by decide) (fun c98 => ?_) (fun c98 => ?_)
                  · skip
                    refine mm_aload_n C (mm_dec dk_X12_event 53 rfl) rfl ?_
                    refine mm_iload_n C (mm_dec dk_X12_event 54 rfl) rfl ?_
                    refine mm_iload_n C (mm_dec dk_X12_event 55 rfl) rfl ?_
                    refine mm_iload_n C (mm_dec dk_X12_event 56 rfl) rfl ?_
                    refine mm_iload C (mm_dec dk_X12_event 57 rfl) rfl ?_
                    refine mm_cVi (rest := []) C1 ev_X12_315 (mm_dec dk_X12_event 58 rfl) (c_X12_tells_q x.2.1 hl (d - 1) (by omega) h67_ i67_ p1 p2 p3 p4 ⟨by omega, by omega⟩ (by omega)) rfl rfl (Nat.le_of_ble_eq_true rfl) ⟨by decide, by decide⟩ rfl (fun r109 h109c hp109 => ?_) (fun _ _ q => q.elim)
                    obtain ⟨b109, i109c, g109c, y109_0, y109_1, y109_2, y109_3, y109_4, y109_5, y109_6, y109_7⟩ := hp109
                    have f109c : mm_fr [(66, 0), (66, 40)] [92, 93, 94, 95, 96, 97] h h109c := mm_fr_tr f67_ g109c (by decide +kernel)
                    have q109c_49 : h109c.1 66 0 = h67_.1 66 0 := g109c.1 66 0 (by decide)
                    have q109c_50 : h109c.1 66 21 = h67_.1 66 21 := g109c.1 66 21 (by decide)
                    have q109c_51 : h109c.1 66 23 = h67_.1 66 23 := g109c.1 66 23 (by decide)
                    have q109c_52 : h109c.1 66 41 = h67_.1 66 41 := g109c.1 66 41 (by decide)
                    have g53 : 0 ≤ (h109c.1 66 40) ∧ (h109c.1 66 40) ≤ 500 := i109c.1 66 40
                    exact mm_iret C T (mm_dec dk_X12_event 59 rfl) (by decide : 0 ≤ 0) (by decide : 0 ≤ 0) ⟨_, rfl, ⟨⟨by omega, by omega⟩, i109c, f109c, by omega, by first | exact ⟨0, Or.inr ⟨rfl, by omega⟩, mm_up_no (by decide) w65_3.1, mm_up_no (by decide) w65_3.2.1, mm_up_no (by decide) w65_3.2.2.1, mm_up_no (by decide) w65_3.2.2.2.1, mm_up_no (by decide) w65_4, mm_up_no (by decide) w65_5⟩ | exact ⟨0, Or.inr ⟨rfl, by omega⟩, mm_up_no (by decide) w67_3.1, mm_up_no (by decide) w67_3.2.1, mm_up_no (by decide) w67_3.2.2.1, mm_up_no (by decide) w67_3.2.2.2.1, mm_up_no (by decide) w67_4, mm_up_no (by decide) w67_5⟩ | exact ⟨1, Or.inl ⟨rfl, by omega⟩, mm_up_cg (mm_up_tr w67_3.1 y109_2 (fun _ => rfl) rfl Iff.rfl) (by omega) rfl, mm_up_cg (mm_up_tr w67_3.2.1 y109_3 (fun _ => rfl) rfl Iff.rfl) (by omega) rfl, mm_up_cg (mm_up_tr w67_3.2.2.1 y109_4 (fun _ => rfl) rfl Iff.rfl) (by omega) (by omega), mm_up_cg (mm_up_tr w67_3.2.2.2.1 y109_5 (fun _ => rfl) rfl Iff.rfl) (by omega) rfl, mm_up_cg (mm_up_tr w67_4 y109_6 (fun _ => rfl) rfl Iff.rfl) (by omega) rfl, mm_up_cg (mm_up_tr w67_5 y109_7 (fun _ => rfl) rfl Iff.rfl) (by omega) rfl⟩⟩⟩
                  · skip
                    refine mm_fgt 0 ?_
                    refine mm_fgt 1 ?_
                    refine mm_fgt 2 ?_
                    refine mm_fgt 3 ?_
                    refine mm_fgt 4 ?_
                    exact J101 (by omega)
                refine mm_if_ne (tgt := 94) C (mm_dec dk_X12_event 45 rfl) (by decide) (fun c85 => ?_) (fun c85 => ?_)
                · skip
                  refine mm_aload_n C (mm_dec dk_X12_event 48 rfl) rfl ?_
                  refine mm_geti C fl_X12_234 (mm_dec dk_X12_event 49 rfl) rfl rfl (Or.inl rfl) ?_
                  exact J98 (h67_.1 66 41) ⟨by omega, by omega⟩ (by omega)
                · skip
                  refine mm_ldcw (z := 99999) C (mm_dec dk_X12_event 46 rfl) kc_X12_314 (by decide) ?_
                  refine mm_goto (tgt := 98) C (mm_dec dk_X12_event 47 rfl) (by decide) ?_
                  exact J98 99999 ⟨by omega, by omega⟩ (by omega)
          refine mm_icmp_ne (tgt := 67) C (mm_dec dk_X12_event 30 rfl) (by decide) (fun c54 => ?_) (fun c54 => ?_)
          · skip
            exact J67 h46c i46c f46c (by omega) (by omega) (by omega) (by first | exact (mm_ke9_fr (mm_ke9_fr mm_ke9_rf (show mm_fr [(66, 0)] [] h h1 from by rw [eh1]; exact mm_fr_pf mm_fr_rf (by decide)) (by decide)) g21c (by decide)) | exact (mm_ke9_fr (mm_ke9_fr (mm_ke9_fr mm_ke9_rf (show mm_fr [(66, 0)] [] h h1 from by rw [eh1]; exact mm_fr_pf mm_fr_rf (by decide)) (by decide)) g21c (by decide)) g46c (by decide)) | exact (mm_ke9_fr (mm_ke9_fr (mm_ke9_fr (mm_ke9_fr mm_ke9_rf (show mm_fr [(66, 0)] [] h h1 from by rw [eh1]; exact mm_fr_pf mm_fr_rf (by decide)) (by decide)) g21c (by decide)) g46c (by decide)) g59c (by decide))) (by first | exact fun j => (g21c.2 94 (by decide) j).trans (mm_sm_pf 94 eh1 j) | exact fun j => (g46c.2 94 (by decide) j).trans ((g21c.2 94 (by decide) j).trans (mm_sm_pf 94 eh1 j)) | exact fun j => (g59c.2 94 (by decide) j).trans ((g46c.2 94 (by decide) j).trans ((g21c.2 94 (by decide) j).trans (mm_sm_pf 94 eh1 j)))) (by first | exact fun j => (g21c.2 95 (by decide) j).trans (mm_sm_pf 95 eh1 j) | exact fun j => (g46c.2 95 (by decide) j).trans ((g21c.2 95 (by decide) j).trans (mm_sm_pf 95 eh1 j)) | exact fun j => (g59c.2 95 (by decide) j).trans ((g46c.2 95 (by decide) j).trans ((g21c.2 95 (by decide) j).trans (mm_sm_pf 95 eh1 j))))
          · skip
            refine mm_aload_n C (mm_dec dk_X12_event 31 rfl) rfl ?_
            refine mm_iload_n C (mm_dec dk_X12_event 32 rfl) rfl ?_
            refine mm_cVi (rest := []) C1 ev_X12_292 (mm_dec dk_X12_event 33 rfl) (c_X12_isPost_q x.2.1 hl (d - 1) (by omega) h46c i46c p3) rfl rfl (Nat.le_of_ble_eq_true rfl) ⟨by decide, by decide⟩ rfl (fun r59 h59c hp59 => ?_) (fun _ _ q => q.elim)
            obtain ⟨b59, i59c, g59c, y59_0, y59_1⟩ := hp59
            have f59c : mm_fr [(66, 0), (66, 40)] [92, 93, 94, 95, 96, 97] h h59c := mm_fr_tr f46c g59c (by decide +kernel)
            have q59c_55 : h59c.1 66 21 = h46c.1 66 21 := g59c.1 66 21 (by decide)
            have q59c_56 : h59c.1 66 23 = h46c.1 66 23 := g59c.1 66 23 (by decide)
            have q59c_57 : h59c.1 66 40 = h46c.1 66 40 := g59c.1 66 40 (by decide)
            have q59c_58 : h59c.1 66 41 = h46c.1 66 41 := g59c.1 66 41 (by decide)
            have g59 : -2147483648 ≤ (h59c.1 66 0) ∧ (h59c.1 66 0) ≤ 2147483647 := i59c.1 66 0
            refine mm_if_ne (tgt := 67) C (mm_dec dk_X12_event 34 rfl) (by decide) (fun c62 => ?_) (fun c62 => ?_)
            · skip
              exact J67 h59c i59c f59c (by omega) (by omega) (by omega) (by first | exact (mm_ke9_fr (mm_ke9_fr mm_ke9_rf (show mm_fr [(66, 0)] [] h h1 from by rw [eh1]; exact mm_fr_pf mm_fr_rf (by decide)) (by decide)) g21c (by decide)) | exact (mm_ke9_fr (mm_ke9_fr (mm_ke9_fr mm_ke9_rf (show mm_fr [(66, 0)] [] h h1 from by rw [eh1]; exact mm_fr_pf mm_fr_rf (by decide)) (by decide)) g21c (by decide)) g46c (by decide)) | exact (mm_ke9_fr (mm_ke9_fr (mm_ke9_fr (mm_ke9_fr mm_ke9_rf (show mm_fr [(66, 0)] [] h h1 from by rw [eh1]; exact mm_fr_pf mm_fr_rf (by decide)) (by decide)) g21c (by decide)) g46c (by decide)) g59c (by decide))) (by first | exact fun j => (g21c.2 94 (by decide) j).trans (mm_sm_pf 94 eh1 j) | exact fun j => (g46c.2 94 (by decide) j).trans ((g21c.2 94 (by decide) j).trans (mm_sm_pf 94 eh1 j)) | exact fun j => (g59c.2 94 (by decide) j).trans ((g46c.2 94 (by decide) j).trans ((g21c.2 94 (by decide) j).trans (mm_sm_pf 94 eh1 j)))) (by first | exact fun j => (g21c.2 95 (by decide) j).trans (mm_sm_pf 95 eh1 j) | exact fun j => (g46c.2 95 (by decide) j).trans ((g21c.2 95 (by decide) j).trans (mm_sm_pf 95 eh1 j)) | exact fun j => (g59c.2 95 (by decide) j).trans ((g46c.2 95 (by decide) j).trans ((g21c.2 95 (by decide) j).trans (mm_sm_pf 95 eh1 j))))
            · skip
              refine mm_fgt 0 ?_
              refine mm_fgt 1 ?_
              refine mm_fgt 2 ?_
              refine mm_fgt 3 ?_
              refine mm_fgt 4 ?_
              exact J65 h59c i59c f59c (by omega) (by omega) (by omega) (by first | exact (mm_ke9_fr (mm_ke9_fr mm_ke9_rf (show mm_fr [(66, 0)] [] h h1 from by rw [eh1]; exact mm_fr_pf mm_fr_rf (by decide)) (by decide)) g21c (by decide)) | exact (mm_ke9_fr (mm_ke9_fr (mm_ke9_fr mm_ke9_rf (show mm_fr [(66, 0)] [] h h1 from by rw [eh1]; exact mm_fr_pf mm_fr_rf (by decide)) (by decide)) g21c (by decide)) g46c (by decide)) | exact (mm_ke9_fr (mm_ke9_fr (mm_ke9_fr (mm_ke9_fr mm_ke9_rf (show mm_fr [(66, 0)] [] h h1 from by rw [eh1]; exact mm_fr_pf mm_fr_rf (by decide)) (by decide)) g21c (by decide)) g46c (by decide)) g59c (by decide))) (by first | exact fun j => (g21c.2 94 (by decide) j).trans (mm_sm_pf 94 eh1 j) | exact fun j => (g46c.2 94 (by decide) j).trans ((g21c.2 94 (by decide) j).trans (mm_sm_pf 94 eh1 j)) | exact fun j => (g59c.2 94 (by decide) j).trans ((g46c.2 94 (by decide) j).trans ((g21c.2 94 (by decide) j).trans (mm_sm_pf 94 eh1 j)))) (by first | exact fun j => (g21c.2 95 (by decide) j).trans (mm_sm_pf 95 eh1 j) | exact fun j => (g46c.2 95 (by decide) j).trans ((g21c.2 95 (by decide) j).trans (mm_sm_pf 95 eh1 j)) | exact fun j => (g59c.2 95 (by decide) j).trans ((g46c.2 95 (by decide) j).trans ((g21c.2 95 (by decide) j).trans (mm_sm_pf 95 eh1 j))))
      have J44 : ∀ (w44_0 : (p2 < 0 ∨ h.1 66 23 ≤ p2)) (w44_1 : (0 ≤ p1 ∧ p1 ≤ 2)) (w44_2 : h21c.1 66 0 = 0), mm_W x 0 0 44 [mR 66, mI p1, mI p2, mI p3, mI p4] [mR 66] h21c := by
        intro w44_0 w44_1 w44_2
        refine mm_iconst C (mm_dec dk_X12_event 24 rfl) ⟨by decide, by decide⟩ ?_
        exact J45 0 ⟨by omega, by omega⟩ (by omega) (by omega) (by omega) (Or.inl rfl)
      refine mm_if_lt (tgt := 44) C (mm_dec dk_X12_event 17 rfl) (by decide) (fun c29 => ?_) (fun c29 => ?_)
      · skip
        exact J44 (by omega) (by omega) (by omega)
      · skip
        refine mm_iload_n C (mm_dec dk_X12_event 18 rfl) rfl ?_
        refine mm_aload_n C (mm_dec dk_X12_event 19 rfl) rfl ?_
        refine mm_geti C fl_X12_222 (mm_dec dk_X12_event 20 rfl) rfl rfl (Or.inl rfl) ?_
        refine mm_icmp_ge (tgt := 44) C (mm_dec dk_X12_event 21 rfl) (by decide) (fun c37 => ?_) (fun c37 => ?_)
        · skip
          exact J44 (by omega) (by omega) (by omega)
        · skip
          refine mm_iconst C (mm_dec dk_X12_event 22 rfl) ⟨by decide, by decide⟩ ?_
          refine mm_goto (tgt := 45) C (mm_dec dk_X12_event 23 rfl) (by decide) ?_
          exact J45 1 ⟨by omega, by omega⟩ (by omega) (by omega) (by omega) (Or.inr (⟨by omega, by omega, rfl⟩))
  have J19 : ∀ (w19_0 : (p1 < 0 ∨ 2 < p1)) (w19_1 : h1.1 66 0 = 0), mm_W x 0 0 19 [mR 66, mI p1, mI p2, mI p3, mI p4] [mR 66] h1 := by
    intro w19_0 w19_1
    refine mm_iconst C (mm_dec dk_X12_event 11 rfl) ⟨by decide, by decide⟩ ?_
    exact J20 0 ⟨by omega, by omega⟩ (by omega) (by omega) (Or.inl rfl)
  refine mm_if_lt (tgt := 19) C (mm_dec dk_X12_event 5 rfl) (by decide) (fun c7 => ?_) (fun c7 => ?_)
  · skip
    exact J19 (by omega) (by omega)
  · skip
    refine mm_iload_n C (mm_dec dk_X12_event 6 rfl) rfl ?_
    refine mm_iconst C (mm_dec dk_X12_event 7 rfl) ⟨by decide, by decide⟩ ?_
    refine mm_icmp_gt (tgt := 19) C (mm_dec dk_X12_event 8 rfl) (by decide) (fun c12 => ?_) (fun c12 => ?_)
    · skip
      exact J19 (by omega) (by omega)
    · skip
      refine mm_iconst C (mm_dec dk_X12_event 9 rfl) ⟨by decide, by decide⟩ ?_
      refine mm_goto (tgt := 20) C (mm_dec dk_X12_event 10 rfl) (by decide) ?_
      exact J20 1 ⟨by omega, by omega⟩ (by omega) (by omega) (Or.inr (⟨by omega, by omega, rfl⟩))
set_option maxRecDepth 100000 in
set_option maxHeartbeats 4000000 in
theorem c_X12_back_q (l : Launch) (hl : l.stackTraces = false) (d : Nat) (hd : 1 ≤ d) (h : mH) (i0 : mm_inv h) (p1 : Int) : mm_Met l d yX12_back cX12_back 2 (some .boolean) [mR 66, mI p1] h (mm_pi fun r h2 => (0 ≤ r ∧ r ≤ 1) ∧ mm_inv h2 ∧ mm_fr [(66, 0)] [97] h h2 ∧ (((0 ≤ p1 ∧ p1 < h.1 66 40) ∧ h2.1 66 0 = 0 ∧ ((r = 1 ∧ h.2.1 97 p1 = -1) ∨ (r = 0 ∧ h.2.1 97 p1 ≠ -1))) ∨ ((p1 < 0 ∨ h.1 66 40 ≤ p1) ∧ h2.1 66 0 = 1 ∧ r = 0)) ∧ mm_up h h2 97 p1 (h.1 66 41) r) mm_nx 0 0 := by
  refine mm_ofW (ls := [mR 66, mI p1]) hl (by decide) rfl (Nat.le_of_ble_eq_true rfl) ?_
  intro x hxl C T hnm htb
  subst hxl
  have C1 := mm_OK_le (d' := d - 1 + 1) (by omega) C
  refine mm_rng (fun hr _ => ?_)
  have ap1 : -2147483648 ≤ p1 ∧ p1 < 2147483648 := mm_ok_at hr (i := 1) rfl
  have f0 : mm_fr [(66, 0)] [97] h h := mm_fr_rf
  have g1 : -2147483648 ≤ h.1 66 0 ∧ h.1 66 0 ≤ 2147483647 := i0.1 66 0
  have g2 : 0 ≤ h.1 66 40 ∧ h.1 66 40 ≤ 500 := i0.1 66 40
  have g3 : 0 ≤ h.1 66 41 ∧ h.1 66 41 ≤ 99999 := i0.1 66 41
  refine mm_aload_n C (mm_dec dk_X12_back 0 rfl) rfl ?_
  refine mm_iconst C (mm_dec dk_X12_back 1 rfl) ⟨by decide, by decide⟩ ?_
  refine mm_puti C fl_X12_188 (mm_dec dk_X12_back 2 rfl) rfl rfl rfl (Or.inl ⟨rfl, rfl⟩) ?_
  have i1 : mm_inv (mm_pf h 66 0 0) := mm_inv_pf i0 (show -2147483648 ≤ 0 ∧ 0 ≤ 2147483647 from ⟨by omega, by omega⟩) (by decide)
  have f1 : mm_fr [(66, 0)] [97] h (mm_pf h 66 0 0) := mm_fr_pf f0 (by decide)
  obtain ⟨h1, eh1⟩ : ∃ z, z = mm_pf h 66 0 0 := ⟨_, rfl⟩
  rw [← eh1] at i1 f1 ⊢
  have qh1 : h1.1 66 0 = 0 := by rw [eh1]; exact mm_pf_same _ _ _ _
  have qh1_4 : h1.1 66 40 = h.1 66 40 := by rw [eh1]; exact mm_pf_ne _ _ (by decide)
  have qh1_5 : h1.1 66 41 = h.1 66 41 := by rw [eh1]; exact mm_pf_ne _ _ (by decide)
  refine mm_aload_n C (mm_dec dk_X12_back 3 rfl) rfl ?_
  refine mm_iload_n C (mm_dec dk_X12_back 4 rfl) rfl ?_
  have J23 : ∀ (s23_1 : Int) (bs23_1 : 0 ≤ s23_1 ∧ s23_1 ≤ 1) (w23_0 : ((s23_1 = 1 ∧ (0 ≤ p1 ∧ p1 < h.1 66 40)) ∨ (s23_1 = 0 ∧ (p1 < 0 ∨ h.1 66 40 ≤ p1)))) (w23_1 : h1.1 66 0 = 0) (vs23_1 : (s23_1 = 0) ∨ (0 ≤ p1 ∧ p1 < (h1.1 66 40) ∧ s23_1 = 1)), mm_W x 0 0 23 [mR 66, mI p1] [mI s23_1, mR 66] h1 := by
    intro s23_1 bs23_1 w23_0 w23_1 vs23_1
    refine mm_iconst C (mm_dec dk_X12_back 13 rfl) ⟨by decide, by decide⟩ ?_
    refine mm_cVi (rest := []) C1 ev_X12_251 (mm_dec dk_X12_back 14 rfl) (c_X12_right_q x.2.1 hl (d - 1) (by omega) h1 i1 s23_1 1 ⟨by omega, by omega⟩ (by omega)) rfl rfl (Nat.le_of_ble_eq_true rfl) ⟨by decide, by decide⟩ rfl (fun r24 h24c hp24 => ?_) (fun _ _ q => q.elim)
    obtain ⟨b24, i24c, g24c, y24_0⟩ := hp24
    have f24c : mm_fr [(66, 0)] [97] h h24c := mm_fr_tr f1 g24c (by decide +kernel)
    have q24c_7 : h24c.1 66 40 = h1.1 66 40 := g24c.1 66 40 (by decide)
    have q24c_8 : h24c.1 66 41 = h1.1 66 41 := g24c.1 66 41 (by decide)
    have g9 : -2147483648 ≤ (h24c.1 66 0) ∧ (h24c.1 66 0) ≤ 2147483647 := i24c.1 66 0
    have J40 : ∀ (w40_0 : (((0 ≤ p1 ∧ p1 < h.1 66 40) ∧ h24c.1 66 0 = 0 ∧ h.2.1 97 p1 ≠ -1) ∨ ((p1 < 0 ∨ h.1 66 40 ≤ p1) ∧ h24c.1 66 0 = 1))) (w40_1 : ∀ j, h24c.2.1 97 j = h.2.1 97 j), mm_W x 0 0 40 [mU, mU] [] h24c := by
      intro w40_0 w40_1
      refine mm_iconst C (mm_dec dk_X12_back 22 rfl) ⟨by decide, by decide⟩ ?_
      exact mm_zret C T (mm_dec dk_X12_back 23 rfl) (by decide : 0 ≤ 0) (by decide : 0 ≤ 0) (by omega) ⟨_, rfl, ⟨⟨by omega, by omega⟩, i24c, f24c, by omega, by first | exact mm_up_no (by decide) w40_1 | exact mm_up_pav (fun j => (g24c.2 97 (by decide) j).trans (mm_sm_pf 97 eh1 j)) eh3 (fun _ => rfl) rfl (by omega) rfl⟩⟩
    have z97 : h24c.2.1 97 p1 = h.2.1 97 p1 := (fun j => (g24c.2 97 (by decide) j).trans (mm_sm_pf 97 eh1 j)) p1
    refine mm_if_eq (tgt := 40) C (mm_dec dk_X12_back 15 rfl) (by decide) (fun c27 => ?_) (fun c27 => ?_)
    · skip
      refine mm_fgt 0 ?_
      refine mm_fgt 1 ?_
      exact J40 (by omega) (by exact (fun j => (g24c.2 97 (by decide) j).trans (mm_sm_pf 97 eh1 j)))
    · skip
      refine mm_aload_n C (mm_dec dk_X12_back 16 rfl) rfl ?_
      refine mm_getr (t := 97) C fl_X12_102 (mm_dec dk_X12_back 17 rfl) rfl rfl (mm_ref i24c rfl) ?_
      refine mm_iload_n C (mm_dec dk_X12_back 18 rfl) rfl ?_
      refine mm_iald C (mm_dec dk_X12_back 19 rfl) rfl (by omega) (by omega) ?_
      have g10 : -2147483648 ≤ (h24c.2.1 97 p1) ∧ (h24c.2.1 97 p1) ≤ 2147483647 := i24c.2.1 97 p1
      refine mm_iconst C (mm_dec dk_X12_back 20 rfl) ⟨by decide, by decide⟩ ?_
      refine mm_icmp_eq (tgt := 42) C (mm_dec dk_X12_back 21 rfl) (by decide) (fun c37 => ?_) (fun c37 => ?_)
      · skip
        refine mm_aload_n C (mm_dec dk_X12_back 24 rfl) rfl ?_
        refine mm_getr (t := 97) C fl_X12_102 (mm_dec dk_X12_back 25 rfl) rfl rfl (mm_ref i24c rfl) ?_
        refine mm_iload_n C (mm_dec dk_X12_back 26 rfl) rfl ?_
        refine mm_aload_n C (mm_dec dk_X12_back 27 rfl) rfl ?_
        refine mm_geti C fl_X12_234 (mm_dec dk_X12_back 28 rfl) rfl rfl (Or.inl rfl) ?_
        refine mm_iast C (mm_dec dk_X12_back 29 rfl) rfl (by omega) (by omega) ?_
        have i3 : mm_inv (mm_pa h24c 97 p1 (h24c.1 66 41)) := mm_inv_pa i24c (show -2147483648 ≤ (h24c.1 66 41) ∧ (h24c.1 66 41) ≤ 2147483647 from ⟨by omega, by omega⟩)
        have f3 : mm_fr [(66, 0)] [97] h (mm_pa h24c 97 p1 (h24c.1 66 41)) := mm_fr_pa f24c (by decide)
        obtain ⟨h3, eh3⟩ : ∃ z, z = mm_pa h24c 97 p1 (h24c.1 66 41) := ⟨_, rfl⟩
        rw [← eh3] at i3 f3 ⊢
        have qh3_11 : h3.1 66 0 = h24c.1 66 0 := by rw [eh3]; rfl
        have qh3_12 : h3.1 66 40 = h24c.1 66 40 := by rw [eh3]; rfl
        have qh3_13 : h3.1 66 41 = h24c.1 66 41 := by rw [eh3]; rfl
        refine mm_iconst C (mm_dec dk_X12_back 30 rfl) ⟨by decide, by decide⟩ ?_
        exact mm_zret C T (mm_dec dk_X12_back 31 rfl) (by decide : 0 ≤ 0) (by decide : 0 ≤ 0) (by omega) ⟨_, rfl, ⟨⟨by omega, by omega⟩, i3, f3, by omega, by first | exact mm_up_no (by decide) w40_1 | exact mm_up_pav (fun j => (g24c.2 97 (by decide) j).trans (mm_sm_pf 97 eh1 j)) eh3 (fun _ => rfl) rfl (by omega) rfl⟩⟩
      · skip
        refine mm_fgt 0 ?_
        refine mm_fgt 1 ?_
        exact J40 (by omega) (by exact (fun j => (g24c.2 97 (by decide) j).trans (mm_sm_pf 97 eh1 j)))
  have J22 : ∀ (w22_0 : (p1 < 0 ∨ h.1 66 40 ≤ p1)) (w22_1 : h1.1 66 0 = 0), mm_W x 0 0 22 [mR 66, mI p1] [mR 66] h1 := by
    intro w22_0 w22_1
    refine mm_iconst C (mm_dec dk_X12_back 12 rfl) ⟨by decide, by decide⟩ ?_
    exact J23 0 ⟨by omega, by omega⟩ (by omega) (by omega) (Or.inl rfl)
  refine mm_if_lt (tgt := 22) C (mm_dec dk_X12_back 5 rfl) (by decide) (fun c7 => ?_) (fun c7 => ?_)
  · skip
    exact J22 (by omega) (by omega)
  · skip
    refine mm_iload_n C (mm_dec dk_X12_back 6 rfl) rfl ?_
    refine mm_aload_n C (mm_dec dk_X12_back 7 rfl) rfl ?_
    refine mm_geti C fl_X12_228 (mm_dec dk_X12_back 8 rfl) rfl rfl (Or.inl rfl) ?_
    refine mm_icmp_ge (tgt := 22) C (mm_dec dk_X12_back 9 rfl) (by decide) (fun c15 => ?_) (fun c15 => ?_)
    · skip
      exact J22 (by omega) (by omega)
    · skip
      refine mm_iconst C (mm_dec dk_X12_back 10 rfl) ⟨by decide, by decide⟩ ?_
      refine mm_goto (tgt := 23) C (mm_dec dk_X12_back 11 rfl) (by decide) ?_
      exact J23 1 ⟨by omega, by omega⟩ (by omega) (by omega) (Or.inr (⟨by omega, by omega, rfl⟩))
set_option maxRecDepth 100000 in
set_option maxHeartbeats 4000000 in
theorem c_X12_protest_q (l : Launch) (hl : l.stackTraces = false) (d : Nat) (hd : 2 ≤ d) (h : mH) (i0 : mm_inv h) (p1 : Int) : mm_Met l d yX12_protest cX12_protest 3 (some .int) [mR 66, mI p1] h (mm_pi fun r h2 => (-1 ≤ r ∧ r ≤ 39) ∧ mm_inv h2 ∧ mm_fr [(66, 0), (66, 82)] [112, 113] h h2 ∧ (((0 ≤ p1 ∧ p1 < h.1 66 23) ∧ h2.1 66 0 = 0 ∧ mm_hq9 (∃ e : Int, mm_lat (mm_k2 h 2 p1 (h.1 66 41)) (h.1 66 40) e ∧ (((h.1 66 82 ≠ 40 ∧ e ≠ -1 ∧ (mm_w (h.1 66 41 - h.2.1 96 e)) ≤ mm_pr h 2) ∧ r = h.1 66 82 ∧ h2.1 66 82 = h.1 66 82 + 1) ∨ ((h.1 66 82 = 40 ∨ e = -1 ∨ mm_pr h 2 < (mm_w (h.1 66 41 - h.2.1 96 e))) ∧ r = -1 ∧ h2.1 66 82 = h.1 66 82)))) ∨ ((p1 < 0 ∨ h.1 66 23 ≤ p1) ∧ h2.1 66 0 = 1 ∧ r = 0 ∧ h2.1 66 82 = h.1 66 82)) ∧ (∃ f : Int, ((f = 1 ∧ h2.1 66 82 = h.1 66 82 + 1) ∨ (f = 0 ∧ h2.1 66 82 = h.1 66 82)) ∧ mm_up h h2 113 (h.1 66 82) (-1) f ∧ mm_up h h2 112 (h.1 66 82) p1 f)) mm_nx 0 0 := by
  refine mm_ofW (ls := [mR 66, mI p1, mU]) hl (by decide) rfl (Nat.le_of_ble_eq_true rfl) ?_
  intro x hxl C T hnm htb
  subst hxl
  have C1 := mm_OK_le (d' := d - 1 + 1) (by omega) C
  refine mm_rng (fun hr _ => ?_)
  have ap1 : -2147483648 ≤ p1 ∧ p1 < 2147483648 := mm_ok_at hr (i := 1) rfl
  have f0 : mm_fr [(66, 0), (66, 82)] [112, 113] h h := mm_fr_rf
  have g1 : -2147483648 ≤ h.1 66 0 ∧ h.1 66 0 ≤ 2147483647 := i0.1 66 0
  have g2 : 0 ≤ h.1 66 82 ∧ h.1 66 82 ≤ 40 := i0.1 66 82
  have g3 : 0 ≤ h.1 66 23 ∧ h.1 66 23 ≤ 40 := i0.1 66 23
  refine mm_aload_n C (mm_dec dk_X12_protest 0 rfl) rfl ?_
  refine mm_iload_n C (mm_dec dk_X12_protest 1 rfl) rfl ?_
  refine mm_cVi (rest := []) C1 ev_X12_308 (mm_dec dk_X12_protest 2 rfl) (c_X12_isRunner_q x.2.1 hl (d - 1) (by omega) h i0 p1) rfl rfl (Nat.le_of_ble_eq_true rfl) ⟨by decide, by decide⟩ rfl (fun r2 h2c hp2 => ?_) (fun _ _ q => q.elim)
  obtain ⟨b2, i2c, g2c, y2_0, y2_1⟩ := hp2
  have f2c : mm_fr [(66, 0), (66, 82)] [112, 113] h h2c := mm_fr_tr f0 g2c (by decide +kernel)
  have q2c_5 : h2c.1 66 23 = h.1 66 23 := g2c.1 66 23 (by decide)
  have q2c_6 : h2c.1 66 82 = h.1 66 82 := g2c.1 66 82 (by decide)
  have g7 : -2147483648 ≤ (h2c.1 66 0) ∧ (h2c.1 66 0) ≤ 2147483647 := i2c.1 66 0
  refine mm_if_ne (tgt := 10) C (mm_dec dk_X12_protest 3 rfl) (by decide) (fun c5 => ?_) (fun c5 => ?_)
  · skip
    refine mm_aload_n C (mm_dec dk_X12_protest 6 rfl) rfl ?_
    refine mm_iconst C (mm_dec dk_X12_protest 7 rfl) ⟨by decide, by decide⟩ ?_
    refine mm_iload_n C (mm_dec dk_X12_protest 8 rfl) rfl ?_
    refine mm_aload_n C (mm_dec dk_X12_protest 9 rfl) rfl ?_
    refine mm_geti C fl_X12_234 (mm_dec dk_X12_protest 10 rfl) rfl rfl (Or.inl rfl) ?_
    have g8 : 0 ≤ (h2c.1 66 41) ∧ (h2c.1 66 41) ≤ 99999 := i2c.1 66 41
    refine mm_cVi (rest := []) C1 ev_X12_322 (mm_dec dk_X12_protest 11 rfl) (c_X12_latest_q x.2.1 hl (d - 1) (by omega) h2c i2c 2 p1 (h2c.1 66 41)) rfl rfl (Nat.le_of_ble_eq_true rfl) ⟨by decide, by decide⟩ rfl (fun r17 h17c hp17 => ?_) (fun _ _ q => q.elim)
    obtain ⟨b17, z17, y17_0⟩ := hp17
    rw [z17]
    have zk9 : mm_k2 h2c = mm_k2 h := mm_k2_fr g2c (by decide)
    have zl9 : mm_lat (mm_k2 h 2 p1 (h.1 66 41)) (h.1 66 40) r17 := by rw [← zk9, ← show h2c.1 66 41 = h.1 66 41 from g2c.1 66 41 (by decide), ← show h2c.1 66 40 = h.1 66 40 from g2c.1 66 40 (by decide)]; exact y17_0
    have z96 : h2c.2.1 96 r17 = h.2.1 96 r17 := g2c.2 96 (by decide) _
    have z41 : h2c.1 66 41 = h.1 66 41 := g2c.1 66 41 (by decide)
    have z82 : h2c.1 66 82 = h.1 66 82 := g2c.1 66 82 (by decide)
    refine mm_istore_nL (ls2 := [mR 66, mI p1, mI r17]) C (mm_dec dk_X12_protest 12 rfl) (by decide) rfl ?_
    refine mm_aload_n C (mm_dec dk_X12_protest 13 rfl) rfl ?_
    refine mm_geti C fl_X12_231 (mm_dec dk_X12_protest 14 rfl) rfl rfl (Or.inl rfl) ?_
    refine mm_bipush C (mm_dec dk_X12_protest 15 rfl) ⟨by decide, by decide⟩ ?_
    have J54 : ∀ (w54_0 : (h2c.1 66 82 = 40 ∨ r17 = -1 ∨ mm_pr h 2 < (mm_w (h.1 66 41 - h.2.1 96 r17)))), mm_W x 0 0 54 [mU, mU, mU] [] h2c := by
      intro w54_0
      refine mm_iconst C (mm_dec dk_X12_protest 31 rfl) ⟨by decide, by decide⟩ ?_
      exact mm_iret C T (mm_dec dk_X12_protest 32 rfl) (by decide : 0 ≤ 0) (by decide : 0 ≤ 0) ⟨_, rfl, ⟨⟨by omega, by omega⟩, i2c, f2c, by first | exact Or.inr ⟨by omega, by omega, rfl, by omega⟩ | exact Or.inl ⟨by omega, by omega, mm_hq9i ⟨r17, zl9, by omega⟩⟩, by first | exact ⟨0, Or.inr ⟨rfl, by omega⟩, mm_up_no (by decide) (fun j => g2c.2 113 (by decide) j), mm_up_no (by decide) (fun j => g2c.2 112 (by decide) j)⟩ | exact ⟨1, Or.inl ⟨rfl, by omega⟩, mm_up_pav (fun _ => ((mm_sm_pa 113 eh2 (by decide) _).trans (g2c.2 113 (by decide) _))) eh3 (fun _ => (mm_sm_pf 113 eh4 _)) (by omega) rfl rfl, mm_up_pav (fun _ => (g2c.2 112 (by decide) _)) eh2 (fun _ => ((mm_sm_pf 112 eh4 _).trans (mm_sm_pa 112 eh3 (by decide) _))) (by omega) rfl rfl⟩⟩⟩
    refine mm_icmp_eq (tgt := 54) C (mm_dec dk_X12_protest 16 rfl) (by decide) (fun c27 => ?_) (fun c27 => ?_)
    · skip
      refine mm_fgt 0 ?_
      refine mm_fgt 1 ?_
      refine mm_fgt 2 ?_
      exact J54 (by omega)
    · skip
      refine mm_iload_n C (mm_dec dk_X12_protest 17 rfl) rfl ?_
      refine mm_iconst C (mm_dec dk_X12_protest 18 rfl) ⟨by decide, by decide⟩ ?_
      refine mm_icmp_eq (tgt := 54) C (mm_dec dk_X12_protest 19 rfl) (by decide) (fun c32 => ?_) (fun c32 => ?_)
      · skip
        refine mm_fgt 0 ?_
        refine mm_fgt 1 ?_
        refine mm_fgt 2 ?_
        exact J54 (by omega)
      · skip
        refine mm_aload_n C (mm_dec dk_X12_protest 20 rfl) rfl ?_
        refine mm_geti C fl_X12_234 (mm_dec dk_X12_protest 21 rfl) rfl rfl (Or.inl rfl) ?_
        refine mm_aload_n C (mm_dec dk_X12_protest 22 rfl) rfl ?_
        refine mm_getr (t := 96) C fl_X12_99 (mm_dec dk_X12_protest 23 rfl) rfl rfl (mm_ref i2c rfl) ?_
        refine mm_iload_n C (mm_dec dk_X12_protest 24 rfl) rfl ?_
        refine mm_iald C (mm_dec dk_X12_protest 25 rfl) rfl (by omega) (by omega) ?_
        have g10 : -2147483648 ≤ (h2c.2.1 96 r17) ∧ (h2c.2.1 96 r17) ≤ 2147483647 := i2c.2.1 96 r17
        refine mm_isubw C (mm_dec dk_X12_protest 26 rfl) ?_
        have g11 : -2147483648 ≤ (mm_w ((h2c.1 66 41) - (h2c.2.1 96 r17))) ∧ (mm_w ((h2c.1 66 41) - (h2c.2.1 96 r17))) < 2147483648 := mm_w_rg _
        refine mm_aload_n C (mm_dec dk_X12_protest 27 rfl) rfl ?_
        refine mm_iconst C (mm_dec dk_X12_protest 28 rfl) ⟨by decide, by decide⟩ ?_
        refine mm_cVi (rest := [mI (mm_w ((h2c.1 66 41) - (h2c.2.1 96 r17)))]) C1 ev_X12_460 (mm_dec dk_X12_protest 29 rfl) (c_X12_paramOf_q x.2.1 hl (d - 1) (by omega) h2c i2c 2 ⟨by omega, by omega⟩) rfl rfl (Nat.le_of_ble_eq_true rfl) ⟨by decide, by decide⟩ rfl (fun r48 h48c hp48 => ?_) (fun _ _ q => q.elim)
        obtain ⟨b48, z48, y48_0⟩ := hp48
        rw [z48]
        have zp9 : r48 = mm_pr h 2 := y48_0.trans (mm_pr_sm (g2c.2 102 (by decide)) (g2c.1 66 67 (by decide)) (g2c.1 66 68 (by decide)))
        have zw9 : mm_w (h2c.1 66 41 - h2c.2.1 96 r17) = mm_w (h.1 66 41 - h.2.1 96 r17) := by rw [z96, z41]
        refine mm_icmp_le (tgt := 56) C (mm_dec dk_X12_protest 30 rfl) (by decide) (fun c51 => ?_) (fun c51 => ?_)
        · skip
          refine mm_aload_n C (mm_dec dk_X12_protest 33 rfl) rfl ?_
          refine mm_getr (t := 112) C fl_X12_147 (mm_dec dk_X12_protest 34 rfl) rfl rfl (mm_ref i2c rfl) ?_
          refine mm_aload_n C (mm_dec dk_X12_protest 35 rfl) rfl ?_
          refine mm_geti C fl_X12_231 (mm_dec dk_X12_protest 36 rfl) rfl rfl (Or.inl rfl) ?_
          refine mm_iload_n C (mm_dec dk_X12_protest 37 rfl) rfl ?_
          refine mm_iast C (mm_dec dk_X12_protest 38 rfl) rfl (by omega) (by omega) ?_
          have i2 : mm_inv (mm_pa h2c 112 (h2c.1 66 82) p1) := mm_inv_pa i2c (show -2147483648 ≤ p1 ∧ p1 ≤ 2147483647 from ⟨by omega, by omega⟩)
          have f2 : mm_fr [(66, 0), (66, 82)] [112, 113] h (mm_pa h2c 112 (h2c.1 66 82) p1) := mm_fr_pa f2c (by decide)
          obtain ⟨h2, eh2⟩ : ∃ z, z = mm_pa h2c 112 (h2c.1 66 82) p1 := ⟨_, rfl⟩
          rw [← eh2] at i2 f2 ⊢
          have qh2_13 : h2.1 66 0 = h2c.1 66 0 := by rw [eh2]; rfl
          have qh2_14 : h2.1 66 23 = h2c.1 66 23 := by rw [eh2]; rfl
          have qh2_15 : h2.1 66 41 = h2c.1 66 41 := by rw [eh2]; rfl
          have qh2_16 : h2.1 66 82 = h2c.1 66 82 := by rw [eh2]; rfl
          refine mm_aload_n C (mm_dec dk_X12_protest 39 rfl) rfl ?_
          refine mm_getr (t := 113) C fl_X12_150 (mm_dec dk_X12_protest 40 rfl) rfl rfl (mm_ref i2 rfl) ?_
          refine mm_aload_n C (mm_dec dk_X12_protest 41 rfl) rfl ?_
          refine mm_geti C fl_X12_231 (mm_dec dk_X12_protest 42 rfl) rfl rfl (Or.inl rfl) ?_
          refine mm_iconst C (mm_dec dk_X12_protest 43 rfl) ⟨by decide, by decide⟩ ?_
          refine mm_iast C (mm_dec dk_X12_protest 44 rfl) rfl (by omega) (by omega) ?_
          have i3 : mm_inv (mm_pa h2 113 (h2.1 66 82) (-1)) := mm_inv_pa i2 (show -2147483648 ≤ (-1) ∧ (-1) ≤ 2147483647 from ⟨by omega, by omega⟩)
          have f3 : mm_fr [(66, 0), (66, 82)] [112, 113] h (mm_pa h2 113 (h2.1 66 82) (-1)) := mm_fr_pa f2 (by decide)
          obtain ⟨h3, eh3⟩ : ∃ z, z = mm_pa h2 113 (h2.1 66 82) (-1) := ⟨_, rfl⟩
          rw [← eh3] at i3 f3 ⊢
          have qh3_17 : h3.1 66 0 = h2.1 66 0 := by rw [eh3]; rfl
          have qh3_18 : h3.1 66 23 = h2.1 66 23 := by rw [eh3]; rfl
          have qh3_19 : h3.1 66 41 = h2.1 66 41 := by rw [eh3]; rfl
          have qh3_20 : h3.1 66 82 = h2.1 66 82 := by rw [eh3]; rfl
          refine mm_aload_n C (mm_dec dk_X12_protest 45 rfl) rfl ?_
          refine mm_dup C (mm_dec dk_X12_protest 46 rfl) (show (2 : Nat) ≠ 1 by decide) ?_
          refine mm_geti C fl_X12_231 (mm_dec dk_X12_protest 47 rfl) rfl rfl (Or.inl rfl) ?_
          refine mm_iconst C (mm_dec dk_X12_protest 48 rfl) ⟨by decide, by decide⟩ ?_
          refine mm_iadd C (mm_dec dk_X12_protest 49 rfl) ⟨by omega, by omega⟩ ?_
          refine mm_puti C fl_X12_231 (mm_dec dk_X12_protest 50 rfl) rfl rfl rfl (Or.inl ⟨rfl, rfl⟩) ?_
          have i4 : mm_inv (mm_pf h3 66 82 ((h3.1 66 82) + 1)) := mm_inv_pf i3 (show 0 ≤ ((h3.1 66 82) + 1) ∧ ((h3.1 66 82) + 1) ≤ 40 from ⟨by omega, by omega⟩) (by decide)
          have f4 : mm_fr [(66, 0), (66, 82)] [112, 113] h (mm_pf h3 66 82 ((h3.1 66 82) + 1)) := mm_fr_pf f3 (by decide)
          obtain ⟨h4, eh4⟩ : ∃ z, z = mm_pf h3 66 82 ((h3.1 66 82) + 1) := ⟨_, rfl⟩
          rw [← eh4] at i4 f4 ⊢
          have qh4 : h4.1 66 82 = ((h3.1 66 82) + 1) := by rw [eh4]; exact mm_pf_same _ _ _ _
          have qh4_21 : h4.1 66 0 = h3.1 66 0 := by rw [eh4]; exact mm_pf_ne _ _ (by decide)
          have qh4_22 : h4.1 66 23 = h3.1 66 23 := by rw [eh4]; exact mm_pf_ne _ _ (by decide)
          have qh4_23 : h4.1 66 41 = h3.1 66 41 := by rw [eh4]; exact mm_pf_ne _ _ (by decide)
          refine mm_aload_n C (mm_dec dk_X12_protest 51 rfl) rfl ?_
          refine mm_geti C fl_X12_231 (mm_dec dk_X12_protest 52 rfl) rfl rfl (Or.inl rfl) ?_
          refine mm_iconst C (mm_dec dk_X12_protest 53 rfl) ⟨by decide, by decide⟩ ?_
          refine mm_isub C (mm_dec dk_X12_protest 54 rfl) ⟨by omega, by omega⟩ ?_
          exact mm_iret C T (mm_dec dk_X12_protest 55 rfl) (by decide : 0 ≤ 0) (by decide : 0 ≤ 0) ⟨_, rfl, ⟨⟨by omega, by omega⟩, i4, f4, by first | exact Or.inr ⟨by omega, by omega, rfl, by omega⟩ | exact Or.inl ⟨by omega, by omega, mm_hq9i ⟨r17, zl9, by omega⟩⟩, by first | exact ⟨0, Or.inr ⟨rfl, by omega⟩, mm_up_no (by decide) (fun j => g2c.2 113 (by decide) j), mm_up_no (by decide) (fun j => g2c.2 112 (by decide) j)⟩ | exact ⟨1, Or.inl ⟨rfl, by omega⟩, mm_up_pav (fun _ => ((mm_sm_pa 113 eh2 (by decide) _).trans (g2c.2 113 (by decide) _))) eh3 (fun _ => (mm_sm_pf 113 eh4 _)) (by omega) rfl rfl, mm_up_pav (fun _ => (g2c.2 112 (by decide) _)) eh2 (fun _ => ((mm_sm_pf 112 eh4 _).trans (mm_sm_pa 112 eh3 (by decide) _))) (by omega) rfl rfl⟩⟩⟩
        · skip
          refine mm_fgt 0 ?_
          refine mm_fgt 1 ?_
          refine mm_fgt 2 ?_
          exact J54 (by omega)
  · skip
    refine mm_iconst C (mm_dec dk_X12_protest 4 rfl) ⟨by decide, by decide⟩ ?_
    exact mm_iret C T (mm_dec dk_X12_protest 5 rfl) (by decide : 0 ≤ 0) (by decide : 0 ≤ 0) ⟨_, rfl, ⟨⟨by omega, by omega⟩, i2c, f2c, by first | exact Or.inr ⟨by omega, by omega, rfl, by omega⟩ | exact Or.inl ⟨by omega, by omega, mm_hq9i ⟨r17, zl9, by omega⟩⟩, by first | exact ⟨0, Or.inr ⟨rfl, by omega⟩, mm_up_no (by decide) (fun j => g2c.2 113 (by decide) j), mm_up_no (by decide) (fun j => g2c.2 112 (by decide) j)⟩ | exact ⟨1, Or.inl ⟨rfl, by omega⟩, mm_up_pav (fun _ => ((mm_sm_pa 113 eh2 (by decide) _).trans (g2c.2 113 (by decide) _))) eh3 (fun _ => (mm_sm_pf 113 eh4 _)) (by omega) rfl rfl, mm_up_pav (fun _ => (g2c.2 112 (by decide) _)) eh2 (fun _ => ((mm_sm_pf 112 eh4 _).trans (mm_sm_pa 112 eh3 (by decide) _))) (by omega) rfl rfl⟩⟩⟩
set_option maxRecDepth 100000 in
set_option maxHeartbeats 4000000 in
theorem c_X12_decide_q (l : Launch) (hl : l.stackTraces = false) (d : Nat) (hd : 1 ≤ d) (h : mH) (i0 : mm_inv h) (p1 : Int) (p2 : Int) (p3 : Int) : mm_Met l d yX12_decide cX12_decide 4 (some .boolean) [mR 66, mI p1, mI p2, mI p3] h (mm_pi fun r h2 => (0 ≤ r ∧ r ≤ 1) ∧ mm_inv h2 ∧ mm_fr [(66, 0), (66, 91)] [113, 114, 115, 116] h h2 ∧ (((0 ≤ p1 ∧ p1 < h.1 66 82) ∧ h2.1 66 0 = 0 ∧ ((r = 1 ∧ (0 ≤ p2 ∧ p2 ≤ 2 ∧ -999 ≤ p3 ∧ p3 ≤ 999) ∧ h.2.1 113 p1 = -1) ∨ (r = 0 ∧ ((p2 < 0 ∨ 2 < p2 ∨ p3 < -999 ∨ 999 < p3) ∨ h.2.1 113 p1 ≠ -1)))) ∨ ((p1 < 0 ∨ h.1 66 82 ≤ p1) ∧ h2.1 66 0 = 1 ∧ r = 0)) ∧ mm_up h h2 113 p1 (h.1 66 41) r ∧ (mm_up h h2 114 p1 p2 r ∧ mm_up h h2 115 p1 p3 r ∧ mm_up h h2 116 p1 (h.1 66 91) r ∧ ((r = 1 ∧ h2.1 66 91 = mm_w (h.1 66 91 + 1)) ∨ (r = 0 ∧ h2.1 66 91 = h.1 66 91)))) mm_nx 0 0 := by
  refine mm_ofW (ls := [mR 66, mI p1, mI p2, mI p3]) hl (by decide) rfl (Nat.le_of_ble_eq_true rfl) ?_
  intro x hxl C T hnm htb
  subst hxl
  have C1 := mm_OK_le (d' := d - 1 + 1) (by omega) C
  refine mm_rng (fun hr _ => ?_)
  have ap1 : -2147483648 ≤ p1 ∧ p1 < 2147483648 := mm_ok_at hr (i := 1) rfl
  have ap2 : -2147483648 ≤ p2 ∧ p2 < 2147483648 := mm_ok_at hr (i := 2) rfl
  have ap3 : -2147483648 ≤ p3 ∧ p3 < 2147483648 := mm_ok_at hr (i := 3) rfl
  have f0 : mm_fr [(66, 0), (66, 91)] [113, 114, 115, 116] h h := mm_fr_rf
  have g1 : -2147483648 ≤ h.1 66 0 ∧ h.1 66 0 ≤ 2147483647 := i0.1 66 0
  have g2 : 0 ≤ h.1 66 82 ∧ h.1 66 82 ≤ 40 := i0.1 66 82
  have g3 : 0 ≤ h.1 66 41 ∧ h.1 66 41 ≤ 99999 := i0.1 66 41
  have g4 : -2147483648 ≤ h.1 66 91 ∧ h.1 66 91 ≤ 2147483647 := i0.1 66 91
  refine mm_aload_n C (mm_dec dk_X12_decide 0 rfl) rfl ?_
  refine mm_iconst C (mm_dec dk_X12_decide 1 rfl) ⟨by decide, by decide⟩ ?_
  refine mm_puti C fl_X12_188 (mm_dec dk_X12_decide 2 rfl) rfl rfl rfl (Or.inl ⟨rfl, rfl⟩) ?_
  have i1 : mm_inv (mm_pf h 66 0 0) := mm_inv_pf i0 (show -2147483648 ≤ 0 ∧ 0 ≤ 2147483647 from ⟨by omega, by omega⟩) (by decide)
  have f1 : mm_fr [(66, 0), (66, 91)] [113, 114, 115, 116] h (mm_pf h 66 0 0) := mm_fr_pf f0 (by decide)
  obtain ⟨h1, eh1⟩ : ∃ z, z = mm_pf h 66 0 0 := ⟨_, rfl⟩
  rw [← eh1] at i1 f1 ⊢
  have qh1 : h1.1 66 0 = 0 := by rw [eh1]; exact mm_pf_same _ _ _ _
  have qh1_5 : h1.1 66 41 = h.1 66 41 := by rw [eh1]; exact mm_pf_ne _ _ (by decide)
  have qh1_6 : h1.1 66 82 = h.1 66 82 := by rw [eh1]; exact mm_pf_ne _ _ (by decide)
  have qh1_7 : h1.1 66 91 = h.1 66 91 := by rw [eh1]; exact mm_pf_ne _ _ (by decide)
  refine mm_aload_n C (mm_dec dk_X12_decide 3 rfl) rfl ?_
  refine mm_iload_n C (mm_dec dk_X12_decide 4 rfl) rfl ?_
  have J23 : ∀ (s23_1 : Int) (bs23_1 : 0 ≤ s23_1 ∧ s23_1 ≤ 1) (w23_0 : ((s23_1 = 1 ∧ (0 ≤ p1 ∧ p1 < h.1 66 82)) ∨ (s23_1 = 0 ∧ (p1 < 0 ∨ h.1 66 82 ≤ p1)))) (w23_1 : h1.1 66 0 = 0) (vs23_1 : (s23_1 = 0) ∨ (0 ≤ p1 ∧ p1 < (h1.1 66 82) ∧ s23_1 = 1)), mm_W x 0 0 23 [mR 66, mI p1, mI p2, mI p3] [mI s23_1, mR 66] h1 := by
    intro s23_1 bs23_1 w23_0 w23_1 vs23_1
    refine mm_iconst C (mm_dec dk_X12_decide 13 rfl) ⟨by decide, by decide⟩ ?_
    refine mm_cVi (rest := []) C1 ev_X12_251 (mm_dec dk_X12_decide 14 rfl) (c_X12_right_q x.2.1 hl (d - 1) (by omega) h1 i1 s23_1 1 ⟨by omega, by omega⟩ (by omega)) rfl rfl (Nat.le_of_ble_eq_true rfl) ⟨by decide, by decide⟩ rfl (fun r24 h24c hp24 => ?_) (fun _ _ q => q.elim)
    obtain ⟨b24, i24c, g24c, y24_0⟩ := hp24
    have f24c : mm_fr [(66, 0), (66, 91)] [113, 114, 115, 116] h h24c := mm_fr_tr f1 g24c (by decide +kernel)
    have q24c_9 : h24c.1 66 41 = h1.1 66 41 := g24c.1 66 41 (by decide)
    have q24c_10 : h24c.1 66 82 = h1.1 66 82 := g24c.1 66 82 (by decide)
    have q24c_11 : h24c.1 66 91 = h1.1 66 91 := g24c.1 66 91 (by decide)
    have g12 : -2147483648 ≤ (h24c.1 66 0) ∧ (h24c.1 66 0) ≤ 2147483647 := i24c.1 66 0
    refine mm_if_ne (tgt := 32) C (mm_dec dk_X12_decide 15 rfl) (by decide) (fun c27 => ?_) (fun c27 => ?_)
    · skip
      have z113 : h24c.2.1 113 p1 = h.2.1 113 p1 := (fun j => (g24c.2 113 (by decide) j).trans (mm_sm_pf 113 eh1 j)) p1
      refine mm_aload_n C (mm_dec dk_X12_decide 18 rfl) rfl ?_
      refine mm_getr (t := 113) C fl_X12_150 (mm_dec dk_X12_decide 19 rfl) rfl rfl (mm_ref i24c rfl) ?_
      refine mm_iload_n C (mm_dec dk_X12_decide 20 rfl) rfl ?_
      refine mm_iald C (mm_dec dk_X12_decide 21 rfl) rfl (by omega) (by omega) ?_
      have g13 : -2147483648 ≤ (h24c.2.1 113 p1) ∧ (h24c.2.1 113 p1) ≤ 2147483647 := i24c.2.1 113 p1
      refine mm_iconst C (mm_dec dk_X12_decide 22 rfl) ⟨by decide, by decide⟩ ?_
      have J65 : ∀ (w65_0 : ((p2 < 0 ∨ 2 < p2 ∨ p3 < -999 ∨ 999 < p3) ∨ h.2.1 113 p1 ≠ -1)), mm_W x 0 0 65 [mU, mU, mU, mU] [] h24c := by
        intro w65_0
        refine mm_iconst C (mm_dec dk_X12_decide 35 rfl) ⟨by decide, by decide⟩ ?_
        exact mm_zret C T (mm_dec dk_X12_decide 36 rfl) (by decide : 0 ≤ 0) (by decide : 0 ≤ 0) (by omega) ⟨_, rfl, ⟨⟨by omega, by omega⟩, i24c, f24c, by omega, by first | exact mm_up_no (by decide) (fun j => (g24c.2 113 (by decide) j).trans (mm_sm_pf 113 eh1 j)) | exact mm_up_pav (fun j => (g24c.2 113 (by decide) j).trans (mm_sm_pf 113 eh1 j)) eh3 (fun _ => ((mm_sm_pf 113 eh7 _).trans ((mm_sm_pa 113 eh6 (by decide) _).trans ((mm_sm_pa 113 eh5 (by decide) _).trans (mm_sm_pa 113 eh4 (by decide) _))))) rfl (by omega) rfl, by first | exact ⟨mm_up_no (by decide) (fun j => (g24c.2 114 (by decide) j).trans (mm_sm_pf 114 eh1 j)), mm_up_no (by decide) (fun j => (g24c.2 115 (by decide) j).trans (mm_sm_pf 115 eh1 j)), mm_up_no (by decide) (fun j => (g24c.2 116 (by decide) j).trans (mm_sm_pf 116 eh1 j)), Or.inr ⟨rfl, by omega⟩⟩ | exact ⟨mm_up_pav (fun _ => ((mm_sm_pa 114 eh3 (by decide) _).trans ((g24c.2 114 (by decide) _).trans (mm_sm_pf 114 eh1 _)))) eh4 (fun _ => ((mm_sm_pf 114 eh7 _).trans ((mm_sm_pa 114 eh6 (by decide) _).trans (mm_sm_pa 114 eh5 (by decide) _)))) rfl rfl rfl, mm_up_pav (fun _ => ((mm_sm_pa 115 eh4 (by decide) _).trans ((mm_sm_pa 115 eh3 (by decide) _).trans ((g24c.2 115 (by decide) _).trans (mm_sm_pf 115 eh1 _))))) eh5 (fun _ => ((mm_sm_pf 115 eh7 _).trans (mm_sm_pa 115 eh6 (by decide) _))) rfl rfl rfl, mm_up_pav (fun _ => ((mm_sm_pa 116 eh5 (by decide) _).trans ((mm_sm_pa 116 eh4 (by decide) _).trans ((mm_sm_pa 116 eh3 (by decide) _).trans ((g24c.2 116 (by decide) _).trans (mm_sm_pf 116 eh1 _)))))) eh6 (fun _ => (mm_sm_pf 116 eh7 _)) rfl (by omega) rfl, Or.inl ⟨rfl, qh7.trans (congrArg mm_w (show _ = h.1 66 91 + 1 by omega))⟩⟩⟩⟩
      refine mm_icmp_ne (tgt := 65) C (mm_dec dk_X12_decide 23 rfl) (by decide) (fun c39 => ?_) (fun c39 => ?_)
      · skip
        refine mm_fgt 0 ?_
        refine mm_fgt 1 ?_
        refine mm_fgt 2 ?_
        refine mm_fgt 3 ?_
        exact J65 (by omega)
      · skip
        refine mm_iload_n C (mm_dec dk_X12_decide 24 rfl) rfl ?_
        refine mm_if_lt (tgt := 65) C (mm_dec dk_X12_decide 25 rfl) (by decide) (fun c43 => ?_) (fun c43 => ?_)
        · skip
          refine mm_fgt 0 ?_
          refine mm_fgt 1 ?_
          refine mm_fgt 2 ?_
          refine mm_fgt 3 ?_
          exact J65 (by omega)
        · skip
          refine mm_iload_n C (mm_dec dk_X12_decide 26 rfl) rfl ?_
          refine mm_iconst C (mm_dec dk_X12_decide 27 rfl) ⟨by decide, by decide⟩ ?_
          refine mm_icmp_gt (tgt := 65) C (mm_dec dk_X12_decide 28 rfl) (by decide) (fun c48 => ?_) (fun c48 => ?_)
          · skip
            refine mm_fgt 0 ?_
            refine mm_fgt 1 ?_
            refine mm_fgt 2 ?_
            refine mm_fgt 3 ?_
            exact J65 (by omega)
          · skip
            refine mm_iload_n C (mm_dec dk_X12_decide 29 rfl) rfl ?_
            refine mm_sipush C (mm_dec dk_X12_decide 30 rfl) ⟨by decide, by decide⟩ ?_
            refine mm_icmp_lt (tgt := 65) C (mm_dec dk_X12_decide 31 rfl) (by decide) (fun c55 => ?_) (fun c55 => ?_)
            · skip
              refine mm_fgt 0 ?_
              refine mm_fgt 1 ?_
              refine mm_fgt 2 ?_
              refine mm_fgt 3 ?_
              exact J65 (by omega)
            · skip
              refine mm_iload_n C (mm_dec dk_X12_decide 32 rfl) rfl ?_
              refine mm_sipush C (mm_dec dk_X12_decide 33 rfl) ⟨by decide, by decide⟩ ?_
              refine mm_icmp_le (tgt := 67) C (mm_dec dk_X12_decide 34 rfl) (by decide) (fun c62 => ?_) (fun c62 => ?_)
              · skip
                refine mm_aload_n C (mm_dec dk_X12_decide 37 rfl) rfl ?_
                refine mm_getr (t := 113) C fl_X12_150 (mm_dec dk_X12_decide 38 rfl) rfl rfl (mm_ref i24c rfl) ?_
                refine mm_iload_n C (mm_dec dk_X12_decide 39 rfl) rfl ?_
                refine mm_aload_n C (mm_dec dk_X12_decide 40 rfl) rfl ?_
                refine mm_geti C fl_X12_234 (mm_dec dk_X12_decide 41 rfl) rfl rfl (Or.inl rfl) ?_
                refine mm_iast C (mm_dec dk_X12_decide 42 rfl) rfl (by omega) (by omega) ?_
                have i3 : mm_inv (mm_pa h24c 113 p1 (h24c.1 66 41)) := mm_inv_pa i24c (show -2147483648 ≤ (h24c.1 66 41) ∧ (h24c.1 66 41) ≤ 2147483647 from ⟨by omega, by omega⟩)
                have f3 : mm_fr [(66, 0), (66, 91)] [113, 114, 115, 116] h (mm_pa h24c 113 p1 (h24c.1 66 41)) := mm_fr_pa f24c (by decide)
                obtain ⟨h3, eh3⟩ : ∃ z, z = mm_pa h24c 113 p1 (h24c.1 66 41) := ⟨_, rfl⟩
                rw [← eh3] at i3 f3 ⊢
                have qh3_14 : h3.1 66 0 = h24c.1 66 0 := by rw [eh3]; rfl
                have qh3_15 : h3.1 66 41 = h24c.1 66 41 := by rw [eh3]; rfl
                have qh3_16 : h3.1 66 82 = h24c.1 66 82 := by rw [eh3]; rfl
                have qh3_17 : h3.1 66 91 = h24c.1 66 91 := by rw [eh3]; rfl
                refine mm_aload_n C (mm_dec dk_X12_decide 43 rfl) rfl ?_
                refine mm_getr (t := 114) C fl_X12_153 (mm_dec dk_X12_decide 44 rfl) rfl rfl (mm_ref i3 rfl) ?_
                refine mm_iload_n C (mm_dec dk_X12_decide 45 rfl) rfl ?_
                refine mm_iload_n C (mm_dec dk_X12_decide 46 rfl) rfl ?_
                refine mm_iast C (mm_dec dk_X12_decide 47 rfl) rfl (by omega) (by omega) ?_
                have i4 : mm_inv (mm_pa h3 114 p1 p2) := mm_inv_pa i3 (show -2147483648 ≤ p2 ∧ p2 ≤ 2147483647 from ⟨by omega, by omega⟩)
                have f4 : mm_fr [(66, 0), (66, 91)] [113, 114, 115, 116] h (mm_pa h3 114 p1 p2) := mm_fr_pa f3 (by decide)
                obtain ⟨h4, eh4⟩ : ∃ z, z = mm_pa h3 114 p1 p2 := ⟨_, rfl⟩
                rw [← eh4] at i4 f4 ⊢
                have qh4_18 : h4.1 66 0 = h3.1 66 0 := by rw [eh4]; rfl
                have qh4_19 : h4.1 66 41 = h3.1 66 41 := by rw [eh4]; rfl
                have qh4_20 : h4.1 66 82 = h3.1 66 82 := by rw [eh4]; rfl
                have qh4_21 : h4.1 66 91 = h3.1 66 91 := by rw [eh4]; rfl
                refine mm_aload_n C (mm_dec dk_X12_decide 48 rfl) rfl ?_
                refine mm_getr (t := 115) C fl_X12_156 (mm_dec dk_X12_decide 49 rfl) rfl rfl (mm_ref i4 rfl) ?_
                refine mm_iload_n C (mm_dec dk_X12_decide 50 rfl) rfl ?_
                refine mm_iload_n C (mm_dec dk_X12_decide 51 rfl) rfl ?_
                refine mm_iast C (mm_dec dk_X12_decide 52 rfl) rfl (by omega) (by omega) ?_
                have i5 : mm_inv (mm_pa h4 115 p1 p3) := mm_inv_pa i4 (show -2147483648 ≤ p3 ∧ p3 ≤ 2147483647 from ⟨by omega, by omega⟩)
                have f5 : mm_fr [(66, 0), (66, 91)] [113, 114, 115, 116] h (mm_pa h4 115 p1 p3) := mm_fr_pa f4 (by decide)
                obtain ⟨h5, eh5⟩ : ∃ z, z = mm_pa h4 115 p1 p3 := ⟨_, rfl⟩
                rw [← eh5] at i5 f5 ⊢
                have qh5_22 : h5.1 66 0 = h4.1 66 0 := by rw [eh5]; rfl
                have qh5_23 : h5.1 66 41 = h4.1 66 41 := by rw [eh5]; rfl
                have qh5_24 : h5.1 66 82 = h4.1 66 82 := by rw [eh5]; rfl
                have qh5_25 : h5.1 66 91 = h4.1 66 91 := by rw [eh5]; rfl
                refine mm_aload_n C (mm_dec dk_X12_decide 53 rfl) rfl ?_
                refine mm_getr (t := 116) C fl_X12_159 (mm_dec dk_X12_decide 54 rfl) rfl rfl (mm_ref i5 rfl) ?_
                refine mm_iload_n C (mm_dec dk_X12_decide 55 rfl) rfl ?_
                refine mm_aload_n C (mm_dec dk_X12_decide 56 rfl) rfl ?_
                refine mm_geti C fl_X12_511 (mm_dec dk_X12_decide 57 rfl) rfl rfl (Or.inl rfl) ?_
                refine mm_iast C (mm_dec dk_X12_decide 58 rfl) rfl (by omega) (by omega) ?_
                have i6 : mm_inv (mm_pa h5 116 p1 (h5.1 66 91)) := mm_inv_pa i5 (show -2147483648 ≤ (h5.1 66 91) ∧ (h5.1 66 91) ≤ 2147483647 from ⟨by omega, by omega⟩)
                have f6 : mm_fr [(66, 0), (66, 91)] [113, 114, 115, 116] h (mm_pa h5 116 p1 (h5.1 66 91)) := mm_fr_pa f5 (by decide)
                obtain ⟨h6, eh6⟩ : ∃ z, z = mm_pa h5 116 p1 (h5.1 66 91) := ⟨_, rfl⟩
                rw [← eh6] at i6 f6 ⊢
                have qh6_26 : h6.1 66 0 = h5.1 66 0 := by rw [eh6]; rfl
                have qh6_27 : h6.1 66 41 = h5.1 66 41 := by rw [eh6]; rfl
                have qh6_28 : h6.1 66 82 = h5.1 66 82 := by rw [eh6]; rfl
                have qh6_29 : h6.1 66 91 = h5.1 66 91 := by rw [eh6]; rfl
                refine mm_aload_n C (mm_dec dk_X12_decide 59 rfl) rfl ?_
                refine mm_dup C (mm_dec dk_X12_decide 60 rfl) (show (2 : Nat) ≠ 1 by decide) ?_
                refine mm_geti C fl_X12_511 (mm_dec dk_X12_decide 61 rfl) rfl rfl (Or.inl rfl) ?_
                refine mm_iconst C (mm_dec dk_X12_decide 62 rfl) ⟨by decide, by decide⟩ ?_
                refine mm_iaddw C (mm_dec dk_X12_decide 63 rfl) ?_
                have g30 : -2147483648 ≤ (mm_w ((h6.1 66 91) + 1)) ∧ (mm_w ((h6.1 66 91) + 1)) < 2147483648 := mm_w_rg _
                refine mm_puti C fl_X12_511 (mm_dec dk_X12_decide 64 rfl) rfl rfl rfl (Or.inl ⟨rfl, rfl⟩) ?_
                have i7 : mm_inv (mm_pf h6 66 91 (mm_w ((h6.1 66 91) + 1))) := mm_inv_pf i6 (show -2147483648 ≤ (mm_w ((h6.1 66 91) + 1)) ∧ (mm_w ((h6.1 66 91) + 1)) ≤ 2147483647 from ⟨by omega, by omega⟩) (by decide)
                have f7 : mm_fr [(66, 0), (66, 91)] [113, 114, 115, 116] h (mm_pf h6 66 91 (mm_w ((h6.1 66 91) + 1))) := mm_fr_pf f6 (by decide)
                obtain ⟨h7, eh7⟩ : ∃ z, z = mm_pf h6 66 91 (mm_w ((h6.1 66 91) + 1)) := ⟨_, rfl⟩
                rw [← eh7] at i7 f7 ⊢
                have qh7 : h7.1 66 91 = (mm_w ((h6.1 66 91) + 1)) := by rw [eh7]; exact mm_pf_same _ _ _ _
                have qh7_31 : h7.1 66 0 = h6.1 66 0 := by rw [eh7]; exact mm_pf_ne _ _ (by decide)
                have qh7_32 : h7.1 66 41 = h6.1 66 41 := by rw [eh7]; exact mm_pf_ne _ _ (by decide)
                have qh7_33 : h7.1 66 82 = h6.1 66 82 := by rw [eh7]; exact mm_pf_ne _ _ (by decide)
                refine mm_iconst C (mm_dec dk_X12_decide 65 rfl) ⟨by decide, by decide⟩ ?_
                exact mm_zret C T (mm_dec dk_X12_decide 66 rfl) (by decide : 0 ≤ 0) (by decide : 0 ≤ 0) (by omega) ⟨_, rfl, ⟨⟨by omega, by omega⟩, i7, f7, by omega, by first | exact mm_up_no (by decide) (fun j => (g24c.2 113 (by decide) j).trans (mm_sm_pf 113 eh1 j)) | exact mm_up_pav (fun j => (g24c.2 113 (by decide) j).trans (mm_sm_pf 113 eh1 j)) eh3 (fun _ => ((mm_sm_pf 113 eh7 _).trans ((mm_sm_pa 113 eh6 (by decide) _).trans ((mm_sm_pa 113 eh5 (by decide) _).trans (mm_sm_pa 113 eh4 (by decide) _))))) rfl (by omega) rfl, by first | exact ⟨mm_up_no (by decide) (fun j => (g24c.2 114 (by decide) j).trans (mm_sm_pf 114 eh1 j)), mm_up_no (by decide) (fun j => (g24c.2 115 (by decide) j).trans (mm_sm_pf 115 eh1 j)), mm_up_no (by decide) (fun j => (g24c.2 116 (by decide) j).trans (mm_sm_pf 116 eh1 j)), Or.inr ⟨rfl, by omega⟩⟩ | exact ⟨mm_up_pav (fun _ => ((mm_sm_pa 114 eh3 (by decide) _).trans ((g24c.2 114 (by decide) _).trans (mm_sm_pf 114 eh1 _)))) eh4 (fun _ => ((mm_sm_pf 114 eh7 _).trans ((mm_sm_pa 114 eh6 (by decide) _).trans (mm_sm_pa 114 eh5 (by decide) _)))) rfl rfl rfl, mm_up_pav (fun _ => ((mm_sm_pa 115 eh4 (by decide) _).trans ((mm_sm_pa 115 eh3 (by decide) _).trans ((g24c.2 115 (by decide) _).trans (mm_sm_pf 115 eh1 _))))) eh5 (fun _ => ((mm_sm_pf 115 eh7 _).trans (mm_sm_pa 115 eh6 (by decide) _))) rfl rfl rfl, mm_up_pav (fun _ => ((mm_sm_pa 116 eh5 (by decide) _).trans ((mm_sm_pa 116 eh4 (by decide) _).trans ((mm_sm_pa 116 eh3 (by decide) _).trans ((g24c.2 116 (by decide) _).trans (mm_sm_pf 116 eh1 _)))))) eh6 (fun _ => (mm_sm_pf 116 eh7 _)) rfl (by omega) rfl, Or.inl ⟨rfl, qh7.trans (congrArg mm_w (show _ = h.1 66 91 + 1 by omega))⟩⟩⟩⟩
              · skip
                refine mm_fgt 0 ?_
                refine mm_fgt 1 ?_
                refine mm_fgt 2 ?_
                refine mm_fgt 3 ?_
                exact J65 (by omega)
    · skip
      have z113 : h24c.2.1 113 p1 = h.2.1 113 p1 := (fun j => (g24c.2 113 (by decide) j).trans (mm_sm_pf 113 eh1 j)) p1
      refine mm_iconst C (mm_dec dk_X12_decide 16 rfl) ⟨by decide, by decide⟩ ?_
      exact mm_zret C T (mm_dec dk_X12_decide 17 rfl) (by decide : 0 ≤ 0) (by decide : 0 ≤ 0) (by omega) ⟨_, rfl, ⟨⟨by omega, by omega⟩, i24c, f24c, by omega, by first | exact mm_up_no (by decide) (fun j => (g24c.2 113 (by decide) j).trans (mm_sm_pf 113 eh1 j)) | exact mm_up_pav (fun j => (g24c.2 113 (by decide) j).trans (mm_sm_pf 113 eh1 j)) eh3 (fun _ => ((mm_sm_pf 113 eh7 _).trans ((mm_sm_pa 113 eh6 (by decide) _).trans ((mm_sm_pa 113 eh5 (by decide) _).trans (mm_sm_pa 113 eh4 (by decide) _))))) rfl (by omega) rfl, by first | exact ⟨mm_up_no (by decide) (fun j => (g24c.2 114 (by decide) j).trans (mm_sm_pf 114 eh1 j)), mm_up_no (by decide) (fun j => (g24c.2 115 (by decide) j).trans (mm_sm_pf 115 eh1 j)), mm_up_no (by decide) (fun j => (g24c.2 116 (by decide) j).trans (mm_sm_pf 116 eh1 j)), Or.inr ⟨rfl, by omega⟩⟩ | exact ⟨mm_up_pav (fun _ => ((mm_sm_pa 114 eh3 (by decide) _).trans ((g24c.2 114 (by decide) _).trans (mm_sm_pf 114 eh1 _)))) eh4 (fun _ => ((mm_sm_pf 114 eh7 _).trans ((mm_sm_pa 114 eh6 (by decide) _).trans (mm_sm_pa 114 eh5 (by decide) _)))) rfl rfl rfl, mm_up_pav (fun _ => ((mm_sm_pa 115 eh4 (by decide) _).trans ((mm_sm_pa 115 eh3 (by decide) _).trans ((g24c.2 115 (by decide) _).trans (mm_sm_pf 115 eh1 _))))) eh5 (fun _ => ((mm_sm_pf 115 eh7 _).trans (mm_sm_pa 115 eh6 (by decide) _))) rfl rfl rfl, mm_up_pav (fun _ => ((mm_sm_pa 116 eh5 (by decide) _).trans ((mm_sm_pa 116 eh4 (by decide) _).trans ((mm_sm_pa 116 eh3 (by decide) _).trans ((g24c.2 116 (by decide) _).trans (mm_sm_pf 116 eh1 _)))))) eh6 (fun _ => (mm_sm_pf 116 eh7 _)) rfl (by omega) rfl, Or.inl ⟨rfl, qh7.trans (congrArg mm_w (show _ = h.1 66 91 + 1 by omega))⟩⟩⟩⟩
  have J22 : ∀ (w22_0 : (p1 < 0 ∨ h.1 66 82 ≤ p1)) (w22_1 : h1.1 66 0 = 0), mm_W x 0 0 22 [mR 66, mI p1, mI p2, mI p3] [mR 66] h1 := by
    intro w22_0 w22_1
    refine mm_iconst C (mm_dec dk_X12_decide 12 rfl) ⟨by decide, by decide⟩ ?_
    exact J23 0 ⟨by omega, by omega⟩ (by omega) (by omega) (Or.inl rfl)
  refine mm_if_lt (tgt := 22) C (mm_dec dk_X12_decide 5 rfl) (by decide) (fun c7 => ?_) (fun c7 => ?_)
  · skip
    exact J22 (by omega) (by omega)
  · skip
    refine mm_iload_n C (mm_dec dk_X12_decide 6 rfl) rfl ?_
    refine mm_aload_n C (mm_dec dk_X12_decide 7 rfl) rfl ?_
    refine mm_geti C fl_X12_231 (mm_dec dk_X12_decide 8 rfl) rfl rfl (Or.inl rfl) ?_
    refine mm_icmp_ge (tgt := 22) C (mm_dec dk_X12_decide 9 rfl) (by decide) (fun c15 => ?_) (fun c15 => ?_)
    · skip
      exact J22 (by omega) (by omega)
    · skip
      refine mm_iconst C (mm_dec dk_X12_decide 10 rfl) ⟨by decide, by decide⟩ ?_
      refine mm_goto (tgt := 23) C (mm_dec dk_X12_decide 11 rfl) (by decide) ?_
      exact J23 1 ⟨by omega, by omega⟩ (by omega) (by omega) (Or.inr (⟨by omega, by omega, rfl⟩))
set_option maxRecDepth 100000 in
set_option maxHeartbeats 4000000 in
theorem c_X12_count_q (l : Launch) (hl : l.stackTraces = false) (d : Nat) (hd : 1 ≤ d) (h : mH) (i0 : mm_inv h) (p1 : Int) : mm_Met l d yX12_count cX12_count 2 (some .int) [mR 66, mI p1] h (mm_pi fun r h2 => (-2147483648 ≤ r ∧ r ≤ 2147483647) ∧ mm_inv h2 ∧ mm_fr [(66, 0)] [] h h2 ∧ (((0 ≤ p1 ∧ p1 ≤ 10) ∧ h2.1 66 0 = 0 ∧ r = mm_cu9 h p1) ∨ ((p1 < 0 ∨ 10 < p1) ∧ h2.1 66 0 = 1 ∧ r = 0))) mm_nx 0 0 := by
  refine mm_ofW (ls := [mR 66, mI p1]) hl (by decide) rfl (Nat.le_of_ble_eq_true rfl) ?_
  intro x hxl C T hnm htb
  subst hxl
  have C1 := mm_OK_le (d' := d - 1 + 1) (by omega) C
  refine mm_rng (fun hr _ => ?_)
  have ap1 : -2147483648 ≤ p1 ∧ p1 < 2147483648 := mm_ok_at hr (i := 1) rfl
  have f0 : mm_fr [(66, 0)] [] h h := mm_fr_rf
  have g1 : -2147483648 ≤ h.1 66 0 ∧ h.1 66 0 ≤ 2147483647 := i0.1 66 0
  have g2 : 0 ≤ h.1 66 41 ∧ h.1 66 41 ≤ 99999 := i0.1 66 41
  have g3 : 0 ≤ h.1 66 21 ∧ h.1 66 21 ≤ 20 := i0.1 66 21
  have g4 : 0 ≤ h.1 66 22 ∧ h.1 66 22 ≤ 8 := i0.1 66 22
  have g5 : 0 ≤ h.1 66 23 ∧ h.1 66 23 ≤ 40 := i0.1 66 23
  have g6 : 0 ≤ h.1 66 24 ∧ h.1 66 24 ≤ 10 := i0.1 66 24
  have g7 : 0 ≤ h.1 66 40 ∧ h.1 66 40 ≤ 500 := i0.1 66 40
  have g8 : 0 ≤ h.1 66 82 ∧ h.1 66 82 ≤ 40 := i0.1 66 82
  have g9 : 0 ≤ h.1 66 56 ∧ h.1 66 56 ≤ 500 := i0.1 66 56
  refine mm_aload_n C (mm_dec dk_X12_count 0 rfl) rfl ?_
  refine mm_iconst C (mm_dec dk_X12_count 1 rfl) ⟨by decide, by decide⟩ ?_
  refine mm_puti C fl_X12_188 (mm_dec dk_X12_count 2 rfl) rfl rfl rfl (Or.inl ⟨rfl, rfl⟩) ?_
  have i1 : mm_inv (mm_pf h 66 0 0) := mm_inv_pf i0 (show -2147483648 ≤ 0 ∧ 0 ≤ 2147483647 from ⟨by omega, by omega⟩) (by decide)
  have f1 : mm_fr [(66, 0)] [] h (mm_pf h 66 0 0) := mm_fr_pf f0 (by decide)
  obtain ⟨h1, eh1⟩ : ∃ z, z = mm_pf h 66 0 0 := ⟨_, rfl⟩
  rw [← eh1] at i1 f1 ⊢
  have qh1 : h1.1 66 0 = 0 := by rw [eh1]; exact mm_pf_same _ _ _ _
  have qh1_10 : h1.1 66 21 = h.1 66 21 := by rw [eh1]; exact mm_pf_ne _ _ (by decide)
  have qh1_11 : h1.1 66 22 = h.1 66 22 := by rw [eh1]; exact mm_pf_ne _ _ (by decide)
  have qh1_12 : h1.1 66 23 = h.1 66 23 := by rw [eh1]; exact mm_pf_ne _ _ (by decide)
  have qh1_13 : h1.1 66 24 = h.1 66 24 := by rw [eh1]; exact mm_pf_ne _ _ (by decide)
  have qh1_14 : h1.1 66 40 = h.1 66 40 := by rw [eh1]; exact mm_pf_ne _ _ (by decide)
  have qh1_15 : h1.1 66 41 = h.1 66 41 := by rw [eh1]; exact mm_pf_ne _ _ (by decide)
  have qh1_16 : h1.1 66 56 = h.1 66 56 := by rw [eh1]; exact mm_pf_ne _ _ (by decide)
  have qh1_17 : h1.1 66 82 = h.1 66 82 := by rw [eh1]; exact mm_pf_ne _ _ (by decide)
  refine mm_aload_n C (mm_dec dk_X12_count 3 rfl) rfl ?_
  refine mm_iload_n C (mm_dec dk_X12_count 4 rfl) rfl ?_
  have J21 : ∀ (s21_1 : Int) (bs21_1 : 0 ≤ s21_1 ∧ s21_1 ≤ 1) (w21_0 : ((s21_1 = 1 ∧ (0 ≤ p1 ∧ p1 ≤ 10)) ∨ (s21_1 = 0 ∧ (p1 < 0 ∨ 10 < p1)))) (w21_1 : h1.1 66 0 = 0) (vs21_1 : (s21_1 = 0) ∨ (0 ≤ p1 ∧ p1 ≤ 10 ∧ s21_1 = 1)), mm_W x 0 0 21 [mR 66, mI p1] [mI s21_1, mR 66] h1 := by
    intro s21_1 bs21_1 w21_0 w21_1 vs21_1
    refine mm_iconst C (mm_dec dk_X12_count 12 rfl) ⟨by decide, by decide⟩ ?_
    refine mm_cVi (rest := []) C1 ev_X12_251 (mm_dec dk_X12_count 13 rfl) (c_X12_right_q x.2.1 hl (d - 1) (by omega) h1 i1 s21_1 1 ⟨by omega, by omega⟩ (by omega)) rfl rfl (Nat.le_of_ble_eq_true rfl) ⟨by decide, by decide⟩ rfl (fun r22 h22c hp22 => ?_) (fun _ _ q => q.elim)
    obtain ⟨b22, i22c, g22c, y22_0⟩ := hp22
    have f22c : mm_fr [(66, 0)] [] h h22c := mm_fr_tr f1 g22c (by decide +kernel)
    have q22c_19 : h22c.1 66 21 = h1.1 66 21 := g22c.1 66 21 (by decide)
    have q22c_20 : h22c.1 66 22 = h1.1 66 22 := g22c.1 66 22 (by decide)
    have q22c_21 : h22c.1 66 23 = h1.1 66 23 := g22c.1 66 23 (by decide)
    have q22c_22 : h22c.1 66 24 = h1.1 66 24 := g22c.1 66 24 (by decide)
    have q22c_23 : h22c.1 66 40 = h1.1 66 40 := g22c.1 66 40 (by decide)
    have q22c_24 : h22c.1 66 41 = h1.1 66 41 := g22c.1 66 41 (by decide)
    have q22c_25 : h22c.1 66 56 = h1.1 66 56 := g22c.1 66 56 (by decide)
    have q22c_26 : h22c.1 66 82 = h1.1 66 82 := g22c.1 66 82 (by decide)
    have g27 : -2147483648 ≤ (h22c.1 66 0) ∧ (h22c.1 66 0) ≤ 2147483647 := i22c.1 66 0
    refine mm_if_ne (tgt := 30) C (mm_dec dk_X12_count 14 rfl) (by decide) (fun c25 => ?_) (fun c25 => ?_)
    · skip
      refine mm_iload_n C (mm_dec dk_X12_count 17 rfl) rfl ?_
      refine mm_table (t0 := 116) [76, 81, 86, 91, 96, 101, 106, 111] C (mm_dec dk_X12_count 18 rfl) (by decide) (by decide) (by decide +kernel) (fun c31 => ?_) (fun k31 hk31 c31 => ?_)
      · skip
        have zw9 : mm_w (p1 - 8) = p1 - 8 := mm_w_id ⟨by omega, by omega⟩
        refine mm_aload_n C (mm_dec dk_X12_count 43 rfl) rfl ?_
        refine mm_iload_n C (mm_dec dk_X12_count 44 rfl) rfl ?_
        refine mm_bipush C (mm_dec dk_X12_count 45 rfl) ⟨by decide, by decide⟩ ?_
        refine mm_isubw C (mm_dec dk_X12_count 46 rfl) ?_
        have g28 : -2147483648 ≤ (mm_w (p1 - 8)) ∧ (mm_w (p1 - 8)) < 2147483648 := mm_w_rg _
        refine mm_cVi (rest := []) C1 ev_X12_460 (mm_dec dk_X12_count 47 rfl) (c_X12_paramOf_q x.2.1 hl (d - 1) (by omega) h22c i22c (mm_w (p1 - 8)) ⟨by omega, by omega⟩) rfl rfl (Nat.le_of_ble_eq_true rfl) ⟨by decide, by decide⟩ rfl (fun r121 h121c hp121 => ?_) (fun _ _ q => q.elim)
        obtain ⟨b121, z121, y121_0⟩ := hp121
        rw [z121]
        exact mm_iret C T (mm_dec dk_X12_count 48 rfl) (by decide : 0 ≤ 0) (by decide : 0 ≤ 0) ⟨_, rfl, ⟨⟨by omega, by omega⟩, i22c, f22c, by first | exact Or.inr ⟨by omega, by omega, rfl⟩ | exact Or.inl ⟨by omega, by omega, (by rw [show r121 = mm_pr h (p1 - 8) from by rw [← zw9]; exact y121_0.trans (mm_pr_sm (fun j => (g22c.2 102 (by decide) j).trans (mm_sm_pf 102 eh1 j)) ((g22c.1 66 67 (by decide)).trans (by rw [eh1]; rfl)) ((g22c.1 66 68 (by decide)).trans (by rw [eh1]; rfl)))]; unfold mm_cu9; (repeat' split) <;> first | omega | rfl)⟩ | exact Or.inl ⟨by omega, by omega, (by unfold mm_cu9; (repeat' split) <;> omega)⟩⟩⟩
      · have hq31 : k31 < 8 := hk31
        rcases (by omega : k31 = 0 ∨ k31 = 1 ∨ k31 = 2 ∨ k31 = 3 ∨ k31 = 4 ∨ k31 = 5 ∨ k31 = 6 ∨ k31 = 7) with rfl | rfl | rfl | rfl | rfl | rfl | rfl | rfl
        · show mm_W x 0 0 76 _ _ _
          refine mm_aload_n C (mm_dec dk_X12_count 19 rfl) rfl ?_
          refine mm_geti C fl_X12_234 (mm_dec dk_X12_count 20 rfl) rfl rfl (Or.inl rfl) ?_
          exact mm_iret C T (mm_dec dk_X12_count 21 rfl) (by decide : 0 ≤ 0) (by decide : 0 ≤ 0) ⟨_, rfl, ⟨⟨by omega, by omega⟩, i22c, f22c, by first | exact Or.inr ⟨by omega, by omega, rfl⟩ | exact Or.inl ⟨by omega, by omega, (by rw [show r121 = mm_pr h (p1 - 8) from by rw [← zw9]; exact y121_0.trans (mm_pr_sm (fun j => (g22c.2 102 (by decide) j).trans (mm_sm_pf 102 eh1 j)) ((g22c.1 66 67 (by decide)).trans (by rw [eh1]; rfl)) ((g22c.1 66 68 (by decide)).trans (by rw [eh1]; rfl)))]; unfold mm_cu9; (repeat' split) <;> first | omega | rfl)⟩ | exact Or.inl ⟨by omega, by omega, (by unfold mm_cu9; (repeat' split) <;> omega)⟩⟩⟩
        · show mm_W x 0 0 81 _ _ _
          refine mm_aload_n C (mm_dec dk_X12_count 22 rfl) rfl ?_
          refine mm_geti C fl_X12_216 (mm_dec dk_X12_count 23 rfl) rfl rfl (Or.inl rfl) ?_
          exact mm_iret C T (mm_dec dk_X12_count 24 rfl) (by decide : 0 ≤ 0) (by decide : 0 ≤ 0) ⟨_, rfl, ⟨⟨by omega, by omega⟩, i22c, f22c, by first | exact Or.inr ⟨by omega, by omega, rfl⟩ | exact Or.inl ⟨by omega, by omega, (by rw [show r121 = mm_pr h (p1 - 8) from by rw [← zw9]; exact y121_0.trans (mm_pr_sm (fun j => (g22c.2 102 (by decide) j).trans (mm_sm_pf 102 eh1 j)) ((g22c.1 66 67 (by decide)).trans (by rw [eh1]; rfl)) ((g22c.1 66 68 (by decide)).trans (by rw [eh1]; rfl)))]; unfold mm_cu9; (repeat' split) <;> first | omega | rfl)⟩ | exact Or.inl ⟨by omega, by omega, (by unfold mm_cu9; (repeat' split) <;> omega)⟩⟩⟩
        · show mm_W x 0 0 86 _ _ _
          refine mm_aload_n C (mm_dec dk_X12_count 25 rfl) rfl ?_
          refine mm_geti C fl_X12_219 (mm_dec dk_X12_count 26 rfl) rfl rfl (Or.inl rfl) ?_
          exact mm_iret C T (mm_dec dk_X12_count 27 rfl) (by decide : 0 ≤ 0) (by decide : 0 ≤ 0) ⟨_, rfl, ⟨⟨by omega, by omega⟩, i22c, f22c, by first | exact Or.inr ⟨by omega, by omega, rfl⟩ | exact Or.inl ⟨by omega, by omega, (by rw [show r121 = mm_pr h (p1 - 8) from by rw [← zw9]; exact y121_0.trans (mm_pr_sm (fun j => (g22c.2 102 (by decide) j).trans (mm_sm_pf 102 eh1 j)) ((g22c.1 66 67 (by decide)).trans (by rw [eh1]; rfl)) ((g22c.1 66 68 (by decide)).trans (by rw [eh1]; rfl)))]; unfold mm_cu9; (repeat' split) <;> first | omega | rfl)⟩ | exact Or.inl ⟨by omega, by omega, (by unfold mm_cu9; (repeat' split) <;> omega)⟩⟩⟩
        · show mm_W x 0 0 91 _ _ _
          refine mm_aload_n C (mm_dec dk_X12_count 28 rfl) rfl ?_
          refine mm_geti C fl_X12_222 (mm_dec dk_X12_count 29 rfl) rfl rfl (Or.inl rfl) ?_
          exact mm_iret C T (mm_dec dk_X12_count 30 rfl) (by decide : 0 ≤ 0) (by decide : 0 ≤ 0) ⟨_, rfl, ⟨⟨by omega, by omega⟩, i22c, f22c, by first | exact Or.inr ⟨by omega, by omega, rfl⟩ | exact Or.inl ⟨by omega, by omega, (by rw [show r121 = mm_pr h (p1 - 8) from by rw [← zw9]; exact y121_0.trans (mm_pr_sm (fun j => (g22c.2 102 (by decide) j).trans (mm_sm_pf 102 eh1 j)) ((g22c.1 66 67 (by decide)).trans (by rw [eh1]; rfl)) ((g22c.1 66 68 (by decide)).trans (by rw [eh1]; rfl)))]; unfold mm_cu9; (repeat' split) <;> first | omega | rfl)⟩ | exact Or.inl ⟨by omega, by omega, (by unfold mm_cu9; (repeat' split) <;> omega)⟩⟩⟩
        · show mm_W x 0 0 96 _ _ _
          refine mm_aload_n C (mm_dec dk_X12_count 31 rfl) rfl ?_
          refine mm_geti C fl_X12_225 (mm_dec dk_X12_count 32 rfl) rfl rfl (Or.inl rfl) ?_
          exact mm_iret C T (mm_dec dk_X12_count 33 rfl) (by decide : 0 ≤ 0) (by decide : 0 ≤ 0) ⟨_, rfl, ⟨⟨by omega, by omega⟩, i22c, f22c, by first | exact Or.inr ⟨by omega, by omega, rfl⟩ | exact Or.inl ⟨by omega, by omega, (by rw [show r121 = mm_pr h (p1 - 8) from by rw [← zw9]; exact y121_0.trans (mm_pr_sm (fun j => (g22c.2 102 (by decide) j).trans (mm_sm_pf 102 eh1 j)) ((g22c.1 66 67 (by decide)).trans (by rw [eh1]; rfl)) ((g22c.1 66 68 (by decide)).trans (by rw [eh1]; rfl)))]; unfold mm_cu9; (repeat' split) <;> first | omega | rfl)⟩ | exact Or.inl ⟨by omega, by omega, (by unfold mm_cu9; (repeat' split) <;> omega)⟩⟩⟩
        · show mm_W x 0 0 101 _ _ _
          refine mm_aload_n C (mm_dec dk_X12_count 34 rfl) rfl ?_
          refine mm_geti C fl_X12_228 (mm_dec dk_X12_count 35 rfl) rfl rfl (Or.inl rfl) ?_
          exact mm_iret C T (mm_dec dk_X12_count 36 rfl) (by decide : 0 ≤ 0) (by decide : 0 ≤ 0) ⟨_, rfl, ⟨⟨by omega, by omega⟩, i22c, f22c, by first | exact Or.inr ⟨by omega, by omega, rfl⟩ | exact Or.inl ⟨by omega, by omega, (by rw [show r121 = mm_pr h (p1 - 8) from by rw [← zw9]; exact y121_0.trans (mm_pr_sm (fun j => (g22c.2 102 (by decide) j).trans (mm_sm_pf 102 eh1 j)) ((g22c.1 66 67 (by decide)).trans (by rw [eh1]; rfl)) ((g22c.1 66 68 (by decide)).trans (by rw [eh1]; rfl)))]; unfold mm_cu9; (repeat' split) <;> first | omega | rfl)⟩ | exact Or.inl ⟨by omega, by omega, (by unfold mm_cu9; (repeat' split) <;> omega)⟩⟩⟩
        · show mm_W x 0 0 106 _ _ _
          refine mm_aload_n C (mm_dec dk_X12_count 37 rfl) rfl ?_
          refine mm_geti C fl_X12_231 (mm_dec dk_X12_count 38 rfl) rfl rfl (Or.inl rfl) ?_
          exact mm_iret C T (mm_dec dk_X12_count 39 rfl) (by decide : 0 ≤ 0) (by decide : 0 ≤ 0) ⟨_, rfl, ⟨⟨by omega, by omega⟩, i22c, f22c, by first | exact Or.inr ⟨by omega, by omega, rfl⟩ | exact Or.inl ⟨by omega, by omega, (by rw [show r121 = mm_pr h (p1 - 8) from by rw [← zw9]; exact y121_0.trans (mm_pr_sm (fun j => (g22c.2 102 (by decide) j).trans (mm_sm_pf 102 eh1 j)) ((g22c.1 66 67 (by decide)).trans (by rw [eh1]; rfl)) ((g22c.1 66 68 (by decide)).trans (by rw [eh1]; rfl)))]; unfold mm_cu9; (repeat' split) <;> first | omega | rfl)⟩ | exact Or.inl ⟨by omega, by omega, (by unfold mm_cu9; (repeat' split) <;> omega)⟩⟩⟩
        · show mm_W x 0 0 111 _ _ _
          refine mm_aload_n C (mm_dec dk_X12_count 40 rfl) rfl ?_
          refine mm_geti C fl_X12_350 (mm_dec dk_X12_count 41 rfl) rfl rfl (Or.inl rfl) ?_
          exact mm_iret C T (mm_dec dk_X12_count 42 rfl) (by decide : 0 ≤ 0) (by decide : 0 ≤ 0) ⟨_, rfl, ⟨⟨by omega, by omega⟩, i22c, f22c, by first | exact Or.inr ⟨by omega, by omega, rfl⟩ | exact Or.inl ⟨by omega, by omega, (by rw [show r121 = mm_pr h (p1 - 8) from by rw [← zw9]; exact y121_0.trans (mm_pr_sm (fun j => (g22c.2 102 (by decide) j).trans (mm_sm_pf 102 eh1 j)) ((g22c.1 66 67 (by decide)).trans (by rw [eh1]; rfl)) ((g22c.1 66 68 (by decide)).trans (by rw [eh1]; rfl)))]; unfold mm_cu9; (repeat' split) <;> first | omega | rfl)⟩ | exact Or.inl ⟨by omega, by omega, (by unfold mm_cu9; (repeat' split) <;> omega)⟩⟩⟩
    · skip
      refine mm_iconst C (mm_dec dk_X12_count 15 rfl) ⟨by decide, by decide⟩ ?_
      exact mm_iret C T (mm_dec dk_X12_count 16 rfl) (by decide : 0 ≤ 0) (by decide : 0 ≤ 0) ⟨_, rfl, ⟨⟨by omega, by omega⟩, i22c, f22c, by first | exact Or.inr ⟨by omega, by omega, rfl⟩ | exact Or.inl ⟨by omega, by omega, (by rw [show r121 = mm_pr h (p1 - 8) from by rw [← zw9]; exact y121_0.trans (mm_pr_sm (fun j => (g22c.2 102 (by decide) j).trans (mm_sm_pf 102 eh1 j)) ((g22c.1 66 67 (by decide)).trans (by rw [eh1]; rfl)) ((g22c.1 66 68 (by decide)).trans (by rw [eh1]; rfl)))]; unfold mm_cu9; (repeat' split) <;> first | omega | rfl)⟩ | exact Or.inl ⟨by omega, by omega, (by unfold mm_cu9; (repeat' split) <;> omega)⟩⟩⟩
  have J20 : ∀ (w20_0 : (p1 < 0 ∨ 10 < p1)) (w20_1 : h1.1 66 0 = 0), mm_W x 0 0 20 [mR 66, mI p1] [mR 66] h1 := by
    intro w20_0 w20_1
    refine mm_iconst C (mm_dec dk_X12_count 11 rfl) ⟨by decide, by decide⟩ ?_
    exact J21 0 ⟨by omega, by omega⟩ (by omega) (by omega) (Or.inl rfl)
  refine mm_if_lt (tgt := 20) C (mm_dec dk_X12_count 5 rfl) (by decide) (fun c7 => ?_) (fun c7 => ?_)
  · skip
    exact J20 (by omega) (by omega)
  · skip
    refine mm_iload_n C (mm_dec dk_X12_count 6 rfl) rfl ?_
    refine mm_bipush C (mm_dec dk_X12_count 7 rfl) ⟨by decide, by decide⟩ ?_
    refine mm_icmp_gt (tgt := 20) C (mm_dec dk_X12_count 8 rfl) (by decide) (fun c13 => ?_) (fun c13 => ?_)
    · skip
      exact J20 (by omega) (by omega)
    · skip
      refine mm_iconst C (mm_dec dk_X12_count 9 rfl) ⟨by decide, by decide⟩ ?_
      refine mm_goto (tgt := 21) C (mm_dec dk_X12_count 10 rfl) (by decide) ?_
      exact J21 1 ⟨by omega, by omega⟩ (by omega) (by omega) (Or.inr (⟨by omega, by omega, rfl⟩))
