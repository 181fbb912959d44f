set_option maxRecDepth 100000 in
set_option maxHeartbeats 4000000 in
theorem c_X0_forget_q (l : Launch) (hl : l.stackTraces = false) (d : Nat) (hd : 0 ≤ d) (h : mH) (i0 : mm_inv h) : mm_Met l d yX0_forget cX0_forget 1 none [mR 58] h (mm_pv fun h2 => mm_inv h2 ∧ mm_fr [(58, 10)] [] h h2 ∧ h2.1 58 10 = 0) mm_nx 0 0 := by
  refine mm_ofW (ls := [mR 58]) hl (by decide) rfl (Nat.le_of_ble_eq_true rfl) ?_
  intro x hxl C T hnm htb
  subst hxl
  have f0 : mm_fr [(58, 10)] [] h h := mm_fr_rf
  have g1 : 0 ≤ h.1 58 10 ∧ h.1 58 10 ≤ 1 := i0.1 58 10
  refine mm_aload_n C (mm_dec dk_X0_forget 0 rfl) rfl ?_
  refine mm_iconst C (mm_dec dk_X0_forget 1 rfl) ⟨by decide, by decide⟩ ?_
  refine mm_puti C fl_X0_34 (mm_dec dk_X0_forget 2 rfl) rfl rfl rfl (Or.inr ⟨rfl, rfl, by omega⟩) ?_
  have i1 : mm_inv (mm_pf h 58 10 0) := mm_inv_pf i0 (show 0 ≤ 0 ∧ 0 ≤ 1 from ⟨by omega, by omega⟩) (by decide)
  have f1 : mm_fr [(58, 10)] [] h (mm_pf h 58 10 0) := mm_fr_pf f0 (by decide)
  obtain ⟨h1, eh1⟩ : ∃ z, z = mm_pf h 58 10 0 := ⟨_, rfl⟩
  rw [← eh1] at i1 f1 ⊢
  have qh1 : h1.1 58 10 = 0 := by rw [eh1]; exact mm_pf_same _ _ _ _
  exact mm_vret C T (mm_dec dk_X0_forget 3 rfl) (by decide : 0 ≤ 0) (by decide : 0 ≤ 0) ⟨rfl, ⟨i1, f1, by omega⟩⟩
set_option maxRecDepth 100000 in
set_option maxHeartbeats 4000000 in
theorem c_X2_open_q (l : Launch) (hl : l.stackTraces = false) (d : Nat) (hd : 0 ≤ d) (h : mH) (i0 : mm_inv h) (p1 : Int) (bp1 : 0 ≤ p1 ∧ p1 ≤ 1) (u0 : (h.1 14 8) ≤ 7) : mm_Met l d yX2_open cX2_open 2 (some .int) [mR 14, mI p1] h (mm_pi fun r h2 => (0 ≤ r ∧ r ≤ 7) ∧ mm_inv h2 ∧ mm_fr [(14, 8)] [17, 18, 19, 20] h h2 ∧ h2.1 14 8 = h.1 14 8 + 1 ∧ r = h.1 14 8 ∧ mm_up h h2 17 (h.1 14 8) p1 1 ∧ mm_up h h2 18 (h.1 14 8) 0 1 ∧ mm_up h h2 19 (h.1 14 8) 0 1 ∧ mm_up h h2 20 (h.1 14 8) 0 1) mm_nx 0 0 := by
  refine mm_ofW (ls := [mR 14, mI p1]) hl (by decide) rfl (Nat.le_of_ble_eq_true rfl) ?_
  intro x hxl C T hnm htb
  subst hxl
  refine mm_rng (fun hr _ => ?_)
  have ap1 : -2147483648 ≤ p1 ∧ p1 < 2147483648 := mm_ok_at hr (i := 1) rfl
  have f0 : mm_fr [(14, 8)] [17, 18, 19, 20] h h := mm_fr_rf
  have g1 : 0 ≤ h.1 14 8 ∧ h.1 14 8 ≤ 8 := i0.1 14 8
  refine mm_aload_n C (mm_dec dk_X2_open 0 rfl) rfl ?_
  refine mm_getr (t := 17) C fl_X2_18 (mm_dec dk_X2_open 1 rfl) rfl rfl (mm_ref i0 rfl) ?_
  refine mm_aload_n C (mm_dec dk_X2_open 2 rfl) rfl ?_
  refine mm_geti C fl_X2_38 (mm_dec dk_X2_open 3 rfl) rfl rfl (Or.inl rfl) ?_
  refine mm_iload_n C (mm_dec dk_X2_open 4 rfl) rfl ?_
  refine mm_zast C (mm_dec dk_X2_open 5 rfl) rfl (by omega) (by omega) (by omega) ?_
  have i1 : mm_inv (mm_pa h 17 (h.1 14 8) p1) := mm_inv_pa i0 (show 0 ≤ p1 ∧ p1 ≤ 1 from ⟨by omega, by omega⟩)
  have f1 : mm_fr [(14, 8)] [17, 18, 19, 20] h (mm_pa h 17 (h.1 14 8) p1) := mm_fr_pa f0 (by decide)
  obtain ⟨h1, eh1⟩ : ∃ z, z = mm_pa h 17 (h.1 14 8) p1 := ⟨_, rfl⟩
  rw [← eh1] at i1 f1 ⊢
  have qh1_2 : h1.1 14 8 = h.1 14 8 := by rw [eh1]; rfl
  refine mm_aload_n C (mm_dec dk_X2_open 6 rfl) rfl ?_
  refine mm_getr (t := 18) C fl_X2_22 (mm_dec dk_X2_open 7 rfl) rfl rfl (mm_ref i1 rfl) ?_
  refine mm_aload_n C (mm_dec dk_X2_open 8 rfl) rfl ?_
  refine mm_geti C fl_X2_38 (mm_dec dk_X2_open 9 rfl) rfl rfl (Or.inl rfl) ?_
  refine mm_iconst C (mm_dec dk_X2_open 10 rfl) ⟨by decide, by decide⟩ ?_
  refine mm_zast C (mm_dec dk_X2_open 11 rfl) rfl (by omega) (by omega) (by omega) ?_
  have i2 : mm_inv (mm_pa h1 18 (h1.1 14 8) 0) := mm_inv_pa i1 (show 0 ≤ 0 ∧ 0 ≤ 1 from ⟨by omega, by omega⟩)
  have f2 : mm_fr [(14, 8)] [17, 18, 19, 20] h (mm_pa h1 18 (h1.1 14 8) 0) := mm_fr_pa f1 (by decide)
  obtain ⟨h2, eh2⟩ : ∃ z, z = mm_pa h1 18 (h1.1 14 8) 0 := ⟨_, rfl⟩
  rw [← eh2] at i2 f2 ⊢
  have qh2_3 : h2.1 14 8 = h1.1 14 8 := by rw [eh2]; rfl
  refine mm_aload_n C (mm_dec dk_X2_open 12 rfl) rfl ?_
  refine mm_getr (t := 19) C fl_X2_25 (mm_dec dk_X2_open 13 rfl) rfl rfl (mm_ref i2 rfl) ?_
  refine mm_aload_n C (mm_dec dk_X2_open 14 rfl) rfl ?_
  refine mm_geti C fl_X2_38 (mm_dec dk_X2_open 15 rfl) rfl rfl (Or.inl rfl) ?_
  refine mm_iconst C (mm_dec dk_X2_open 16 rfl) ⟨by decide, by decide⟩ ?_
  refine mm_iast C (mm_dec dk_X2_open 17 rfl) rfl (by omega) (by omega) ?_
  have i3 : mm_inv (mm_pa h2 19 (h2.1 14 8) 0) := mm_inv_pa i2 (show 0 ≤ 0 ∧ 0 ≤ 12 from ⟨by omega, by omega⟩)
  have f3 : mm_fr [(14, 8)] [17, 18, 19, 20] h (mm_pa h2 19 (h2.1 14 8) 0) := mm_fr_pa f2 (by decide)
  obtain ⟨h3, eh3⟩ : ∃ z, z = mm_pa h2 19 (h2.1 14 8) 0 := ⟨_, rfl⟩
  rw [← eh3] at i3 f3 ⊢
  have qh3_4 : h3.1 14 8 = h2.1 14 8 := by rw [eh3]; rfl
  refine mm_aload_n C (mm_dec dk_X2_open 18 rfl) rfl ?_
  refine mm_getr (t := 20) C fl_X2_28 (mm_dec dk_X2_open 19 rfl) rfl rfl (mm_ref i3 rfl) ?_
  refine mm_aload_n C (mm_dec dk_X2_open 20 rfl) rfl ?_
  refine mm_geti C fl_X2_38 (mm_dec dk_X2_open 21 rfl) rfl rfl (Or.inl rfl) ?_
  refine mm_iconst C (mm_dec dk_X2_open 22 rfl) ⟨by decide, by decide⟩ ?_
  refine mm_iast C (mm_dec dk_X2_open 23 rfl) rfl (by omega) (by omega) ?_
  have i4 : mm_inv (mm_pa h3 20 (h3.1 14 8) 0) := mm_inv_pa i3 (show -2147483648 ≤ 0 ∧ 0 ≤ 2147483647 from ⟨by omega, by omega⟩)
  have f4 : mm_fr [(14, 8)] [17, 18, 19, 20] h (mm_pa h3 20 (h3.1 14 8) 0) := mm_fr_pa f3 (by decide)
  obtain ⟨h4, eh4⟩ : ∃ z, z = mm_pa h3 20 (h3.1 14 8) 0 := ⟨_, rfl⟩
  rw [← eh4] at i4 f4 ⊢
  have qh4_5 : h4.1 14 8 = h3.1 14 8 := by rw [eh4]; rfl
  refine mm_aload_n C (mm_dec dk_X2_open 24 rfl) rfl ?_
  refine mm_dup C (mm_dec dk_X2_open 25 rfl) (show (2 : Nat) ≠ 1 by decide) ?_
  refine mm_geti C fl_X2_38 (mm_dec dk_X2_open 26 rfl) rfl rfl (Or.inl rfl) ?_
  refine mm_iconst C (mm_dec dk_X2_open 27 rfl) ⟨by decide, by decide⟩ ?_
  refine mm_iadd C (mm_dec dk_X2_open 28 rfl) ⟨by omega, by omega⟩ ?_
  refine mm_puti C fl_X2_38 (mm_dec dk_X2_open 29 rfl) rfl rfl rfl (Or.inl ⟨rfl, rfl⟩) ?_
  have i5 : mm_inv (mm_pf h4 14 8 ((h4.1 14 8) + 1)) := mm_inv_pf i4 (show 0 ≤ ((h4.1 14 8) + 1) ∧ ((h4.1 14 8) + 1) ≤ 8 from ⟨by omega, by omega⟩) (by decide)
  have f5 : mm_fr [(14, 8)] [17, 18, 19, 20] h (mm_pf h4 14 8 ((h4.1 14 8) + 1)) := mm_fr_pf f4 (by decide)
  obtain ⟨h5, eh5⟩ : ∃ z, z = mm_pf h4 14 8 ((h4.1 14 8) + 1) := ⟨_, rfl⟩
  rw [← eh5] at i5 f5 ⊢
  have qh5 : h5.1 14 8 = ((h4.1 14 8) + 1) := by rw [eh5]; exact mm_pf_same _ _ _ _
  refine mm_aload_n C (mm_dec dk_X2_open 30 rfl) rfl ?_
  refine mm_geti C fl_X2_38 (mm_dec dk_X2_open 31 rfl) rfl rfl (Or.inl rfl) ?_
  refine mm_iconst C (mm_dec dk_X2_open 32 rfl) ⟨by decide, by decide⟩ ?_
  refine mm_isub C (mm_dec dk_X2_open 33 rfl) ⟨by omega, by omega⟩ ?_
  exact mm_iret C T (mm_dec dk_X2_open 34 rfl) (by decide : 0 ≤ 0) (by decide : 0 ≤ 0) ⟨_, rfl, ⟨⟨by omega, by omega⟩, i5, f5, by omega, by omega, by exact mm_up_pav (fun _ => rfl) eh1 (fun _ => ((mm_sm_pf 17 eh5 _).trans ((mm_sm_pa 17 eh4 (by decide) _).trans ((mm_sm_pa 17 eh3 (by decide) _).trans (mm_sm_pa 17 eh2 (by decide) _))))) (by omega) (by omega) rfl, by exact mm_up_pav (fun _ => (mm_sm_pa 18 eh1 (by decide) _)) eh2 (fun _ => ((mm_sm_pf 18 eh5 _).trans ((mm_sm_pa 18 eh4 (by decide) _).trans (mm_sm_pa 18 eh3 (by decide) _)))) (by omega) (by omega) rfl, by exact mm_up_pav (fun _ => ((mm_sm_pa 19 eh2 (by decide) _).trans (mm_sm_pa 19 eh1 (by decide) _))) eh3 (fun _ => ((mm_sm_pf 19 eh5 _).trans (mm_sm_pa 19 eh4 (by decide) _))) (by omega) (by omega) rfl, by exact mm_up_pav (fun _ => ((mm_sm_pa 20 eh3 (by decide) _).trans ((mm_sm_pa 20 eh2 (by decide) _).trans (mm_sm_pa 20 eh1 (by decide) _)))) eh4 (fun _ => (mm_sm_pf 20 eh5 _)) (by omega) (by omega) rfl⟩⟩
set_option maxRecDepth 100000 in
set_option maxHeartbeats 4000000 in
theorem c_X2_clear_q (l : Launch) (hl : l.stackTraces = false) (d : Nat) (hd : 0 ≤ d) (h : mH) (i0 : mm_inv h) : mm_Met l d yX2_clear cX2_clear 1 none [mR 14] h (mm_pv fun h2 => mm_inv h2 ∧ mm_fr [(14, 7), (14, 8)] [] h h2 ∧ h2.1 14 8 = 0 ∧ h2.1 14 7 = 0) mm_nx 0 0 := by
  refine mm_ofW (ls := [mR 14]) hl (by decide) rfl (Nat.le_of_ble_eq_true rfl) ?_
  intro x hxl C T hnm htb
  subst hxl
  have f0 : mm_fr [(14, 7), (14, 8)] [] h h := mm_fr_rf
  have g1 : 0 ≤ h.1 14 8 ∧ h.1 14 8 ≤ 8 := i0.1 14 8
  have g2 : 0 ≤ h.1 14 7 ∧ h.1 14 7 ≤ 20 := i0.1 14 7
  refine mm_aload_n C (mm_dec dk_X2_clear 0 rfl) rfl ?_
  refine mm_iconst C (mm_dec dk_X2_clear 1 rfl) ⟨by decide, by decide⟩ ?_
  refine mm_puti C fl_X2_34 (mm_dec dk_X2_clear 2 rfl) rfl rfl rfl (Or.inl ⟨rfl, rfl⟩) ?_
  have i1 : mm_inv (mm_pf h 14 7 0) := mm_inv_pf i0 (show 0 ≤ 0 ∧ 0 ≤ 20 from ⟨by omega, by omega⟩) (by decide)
  have f1 : mm_fr [(14, 7), (14, 8)] [] h (mm_pf h 14 7 0) := mm_fr_pf f0 (by decide)
  obtain ⟨h1, eh1⟩ : ∃ z, z = mm_pf h 14 7 0 := ⟨_, rfl⟩
  rw [← eh1] at i1 f1 ⊢
  have qh1 : h1.1 14 7 = 0 := by rw [eh1]; exact mm_pf_same _ _ _ _
  have qh1_3 : h1.1 14 8 = h.1 14 8 := by rw [eh1]; exact mm_pf_ne _ _ (by decide)
  refine mm_aload_n C (mm_dec dk_X2_clear 3 rfl) rfl ?_
  refine mm_iconst C (mm_dec dk_X2_clear 4 rfl) ⟨by decide, by decide⟩ ?_
  refine mm_puti C fl_X2_38 (mm_dec dk_X2_clear 5 rfl) rfl rfl rfl (Or.inl ⟨rfl, rfl⟩) ?_
  have i2 : mm_inv (mm_pf h1 14 8 0) := mm_inv_pf i1 (show 0 ≤ 0 ∧ 0 ≤ 8 from ⟨by omega, by omega⟩) (by decide)
  have f2 : mm_fr [(14, 7), (14, 8)] [] h (mm_pf h1 14 8 0) := mm_fr_pf f1 (by decide)
  obtain ⟨h2, eh2⟩ : ∃ z, z = mm_pf h1 14 8 0 := ⟨_, rfl⟩
  rw [← eh2] at i2 f2 ⊢
  have qh2 : h2.1 14 8 = 0 := by rw [eh2]; exact mm_pf_same _ _ _ _
  have qh2_4 : h2.1 14 7 = h1.1 14 7 := by rw [eh2]; exact mm_pf_ne _ _ (by decide)
  exact mm_vret C T (mm_dec dk_X2_clear 6 rfl) (by decide : 0 ≤ 0) (by decide : 0 ≤ 0) ⟨rfl, ⟨i2, f2, by omega, by omega⟩⟩
set_option maxRecDepth 100000 in
set_option maxHeartbeats 4000000 in
theorem c_X9_clear_q (l : Launch) (hl : l.stackTraces = false) (d : Nat) (hd : 0 ≤ d) (h : mH) (i0 : mm_inv h) : mm_Met l d yX9_clear cX9_clear 1 none [mR 22] h (mm_pv fun h2 => mm_inv h2 ∧ mm_fr [(22, 8), (22, 9)] [] h h2 ∧ h2.1 22 8 = 0 ∧ h2.1 22 9 = 0) mm_nx 0 0 := by
  refine mm_ofW (ls := [mR 22]) hl (by decide) rfl (Nat.le_of_ble_eq_true rfl) ?_
  intro x hxl C T hnm htb
  subst hxl
  have f0 : mm_fr [(22, 8), (22, 9)] [] h h := mm_fr_rf
  have g1 : 0 ≤ h.1 22 8 ∧ h.1 22 8 ≤ 40 := i0.1 22 8
  have g2 : 0 ≤ h.1 22 9 ∧ h.1 22 9 ≤ 10 := i0.1 22 9
  refine mm_aload_n C (mm_dec dk_X9_clear 0 rfl) rfl ?_
  refine mm_iconst C (mm_dec dk_X9_clear 1 rfl) ⟨by decide, by decide⟩ ?_
  refine mm_puti C fl_X9_34 (mm_dec dk_X9_clear 2 rfl) rfl rfl rfl (Or.inl ⟨rfl, rfl⟩) ?_
  have i1 : mm_inv (mm_pf h 22 8 0) := mm_inv_pf i0 (show 0 ≤ 0 ∧ 0 ≤ 40 from ⟨by omega, by omega⟩) (by decide)
  have f1 : mm_fr [(22, 8), (22, 9)] [] h (mm_pf h 22 8 0) := mm_fr_pf f0 (by decide)
  obtain ⟨h1, eh1⟩ : ∃ z, z = mm_pf h 22 8 0 := ⟨_, rfl⟩
  rw [← eh1] at i1 f1 ⊢
  have qh1 : h1.1 22 8 = 0 := by rw [eh1]; exact mm_pf_same _ _ _ _
  have qh1_3 : h1.1 22 9 = h.1 22 9 := by rw [eh1]; exact mm_pf_ne _ _ (by decide)
  refine mm_aload_n C (mm_dec dk_X9_clear 3 rfl) rfl ?_
  refine mm_iconst C (mm_dec dk_X9_clear 4 rfl) ⟨by decide, by decide⟩ ?_
  refine mm_puti C fl_X9_38 (mm_dec dk_X9_clear 5 rfl) rfl rfl rfl (Or.inl ⟨rfl, rfl⟩) ?_
  have i2 : mm_inv (mm_pf h1 22 9 0) := mm_inv_pf i1 (show 0 ≤ 0 ∧ 0 ≤ 10 from ⟨by omega, by omega⟩) (by decide)
  have f2 : mm_fr [(22, 8), (22, 9)] [] h (mm_pf h1 22 9 0) := mm_fr_pf f1 (by decide)
  obtain ⟨h2, eh2⟩ : ∃ z, z = mm_pf h1 22 9 0 := ⟨_, rfl⟩
  rw [← eh2] at i2 f2 ⊢
  have qh2 : h2.1 22 9 = 0 := by rw [eh2]; exact mm_pf_same _ _ _ _
  have qh2_4 : h2.1 22 8 = h1.1 22 8 := by rw [eh2]; exact mm_pf_ne _ _ (by decide)
  exact mm_vret C T (mm_dec dk_X9_clear 6 rfl) (by decide : 0 ≤ 0) (by decide : 0 ≤ 0) ⟨rfl, ⟨i2, f2, by omega, by omega⟩⟩
set_option maxRecDepth 100000 in
set_option maxHeartbeats 4000000 in
theorem c_X2_take_q (l : Launch) (hl : l.stackTraces = false) (d : Nat) (hd : 0 ≤ d) (h : mH) (i0 : mm_inv h) (p1 : Int) (bp1 : 0 ≤ p1 ∧ p1 ≤ 7) : mm_Met l d yX2_take cX2_take 2 none [mR 14, mI p1] h (mm_pv fun h2 => mm_inv h2 ∧ mm_fr [] [18] h h2 ∧ mm_up h h2 18 p1 1 1) mm_nx 0 0 := by
  refine mm_ofW (ls := [mR 14, mI p1]) hl (by decide) rfl (Nat.le_of_ble_eq_true rfl) ?_
  intro x hxl C T hnm htb
  subst hxl
  refine mm_rng (fun hr _ => ?_)
  have ap1 : -2147483648 ≤ p1 ∧ p1 < 2147483648 := mm_ok_at hr (i := 1) rfl
  have f0 : mm_fr [] [18] h h := mm_fr_rf
  refine mm_aload_n C (mm_dec dk_X2_take 0 rfl) rfl ?_
  refine mm_getr (t := 18) C fl_X2_22 (mm_dec dk_X2_take 1 rfl) rfl rfl (mm_ref i0 rfl) ?_
  refine mm_iload_n C (mm_dec dk_X2_take 2 rfl) rfl ?_
  refine mm_iconst C (mm_dec dk_X2_take 3 rfl) ⟨by decide, by decide⟩ ?_
  refine mm_zast C (mm_dec dk_X2_take 4 rfl) rfl (by omega) (by omega) (by omega) ?_
  have i1 : mm_inv (mm_pa h 18 p1 1) := mm_inv_pa i0 (show 0 ≤ 1 ∧ 1 ≤ 1 from ⟨by omega, by omega⟩)
  have f1 : mm_fr [] [18] h (mm_pa h 18 p1 1) := mm_fr_pa f0 (by decide)
  obtain ⟨h1, eh1⟩ : ∃ z, z = mm_pa h 18 p1 1 := ⟨_, rfl⟩
  rw [← eh1] at i1 f1 ⊢
  exact mm_vret C T (mm_dec dk_X2_take 5 rfl) (by decide : 0 ≤ 0) (by decide : 0 ≤ 0) ⟨rfl, ⟨i1, f1, by exact mm_up_pav (fun _ => rfl) eh1 (fun _ => rfl) (by omega) (by omega) rfl⟩⟩
set_option maxRecDepth 100000 in
set_option maxHeartbeats 4000000 in
theorem c_X9_enter_q (l : Launch) (hl : l.stackTraces = false) (d : Nat) (hd : 1 ≤ d) (h : mH) (i0 : mm_inv h) (p1 : Int) (p2 : Int) (p3 : Int) (bp1 : 0 ≤ p1 ∧ p1 ≤ 7) (bp2 : 0 ≤ p2 ∧ p2 ≤ 9) (bp3 : 0 ≤ p3 ∧ p3 ≤ 80) (u0 : (h.1 22 8) ≤ 39) : mm_Met l d yX9_enter cX9_enter 4 (some .int) [mR 22, mI p1, mI p2, mI p3] h (mm_pi fun r h2 => (0 ≤ r ∧ r ≤ 39) ∧ mm_inv h2 ∧ mm_fr [(22, 8)] [18, 23, 24, 25, 26, 27, 28] h h2 ∧ h2.1 22 8 = h.1 22 8 + 1 ∧ r = h.1 22 8 ∧ mm_up h h2 18 p1 1 1 ∧ mm_up h h2 23 (h.1 22 8) p1 1 ∧ mm_up h h2 25 (h.1 22 8) p3 1 ∧ mm_up h h2 28 (h.1 22 8) 0 1) mm_nx 0 0 := by
  refine mm_ofW (ls := [mR 22, mI p1, mI p2, mI p3]) hl (by decide) rfl (Nat.le_of_ble_eq_true rfl) ?_
  intro x hxl C T hnm htb
  subst hxl
  have C1 := mm_OK_le (d' := d - 1 + 1) (by omega) C
  refine mm_rng (fun hr _ => ?_)
  have ap1 : -2147483648 ≤ p1 ∧ p1 < 2147483648 := mm_ok_at hr (i := 1) rfl
  have ap2 : -2147483648 ≤ p2 ∧ p2 < 2147483648 := mm_ok_at hr (i := 2) rfl
  have ap3 : -2147483648 ≤ p3 ∧ p3 < 2147483648 := mm_ok_at hr (i := 3) rfl
  have f0 : mm_fr [(22, 8)] [18, 23, 24, 25, 26, 27, 28] h h := mm_fr_rf
  have g1 : 0 ≤ h.1 22 8 ∧ h.1 22 8 ≤ 40 := i0.1 22 8
  refine mm_aload_n C (mm_dec dk_X9_enter 0 rfl) rfl ?_
  refine mm_getr (t := 23) C fl_X9_9 (mm_dec dk_X9_enter 1 rfl) rfl rfl (mm_ref i0 rfl) ?_
  refine mm_aload_n C (mm_dec dk_X9_enter 2 rfl) rfl ?_
  refine mm_geti C fl_X9_34 (mm_dec dk_X9_enter 3 rfl) rfl rfl (Or.inl rfl) ?_
  refine mm_iload_n C (mm_dec dk_X9_enter 4 rfl) rfl ?_
  refine mm_iast C (mm_dec dk_X9_enter 5 rfl) rfl (by omega) (by omega) ?_
  have i1 : mm_inv (mm_pa h 23 (h.1 22 8) p1) := mm_inv_pa i0 (show 0 ≤ p1 ∧ p1 ≤ 7 from ⟨by omega, by omega⟩)
  have f1 : mm_fr [(22, 8)] [18, 23, 24, 25, 26, 27, 28] h (mm_pa h 23 (h.1 22 8) p1) := mm_fr_pa f0 (by decide)
  obtain ⟨h1, eh1⟩ : ∃ z, z = mm_pa h 23 (h.1 22 8) p1 := ⟨_, rfl⟩
  rw [← eh1] at i1 f1 ⊢
  have qh1_2 : h1.1 22 8 = h.1 22 8 := by rw [eh1]; rfl
  refine mm_aload_n C (mm_dec dk_X9_enter 6 rfl) rfl ?_
  refine mm_getr (t := 24) C fl_X9_15 (mm_dec dk_X9_enter 7 rfl) rfl rfl (mm_ref i1 rfl) ?_
  refine mm_aload_n C (mm_dec dk_X9_enter 8 rfl) rfl ?_
  refine mm_geti C fl_X9_34 (mm_dec dk_X9_enter 9 rfl) rfl rfl (Or.inl rfl) ?_
  refine mm_iload_n C (mm_dec dk_X9_enter 10 rfl) rfl ?_
  refine mm_iast C (mm_dec dk_X9_enter 11 rfl) rfl (by omega) (by omega) ?_
  have i2 : mm_inv (mm_pa h1 24 (h1.1 22 8) p2) := mm_inv_pa i1 (show 0 ≤ p2 ∧ p2 ≤ 9 from ⟨by omega, by omega⟩)
  have f2 : mm_fr [(22, 8)] [18, 23, 24, 25, 26, 27, 28] h (mm_pa h1 24 (h1.1 22 8) p2) := mm_fr_pa f1 (by decide)
  obtain ⟨h2, eh2⟩ : ∃ z, z = mm_pa h1 24 (h1.1 22 8) p2 := ⟨_, rfl⟩
  rw [← eh2] at i2 f2 ⊢
  have qh2_3 : h2.1 22 8 = h1.1 22 8 := by rw [eh2]; rfl
  refine mm_aload_n C (mm_dec dk_X9_enter 12 rfl) rfl ?_
  refine mm_getr (t := 25) C fl_X9_18 (mm_dec dk_X9_enter 13 rfl) rfl rfl (mm_ref i2 rfl) ?_
  refine mm_aload_n C (mm_dec dk_X9_enter 14 rfl) rfl ?_
  refine mm_geti C fl_X9_34 (mm_dec dk_X9_enter 15 rfl) rfl rfl (Or.inl rfl) ?_
  refine mm_iload_n C (mm_dec dk_X9_enter 16 rfl) rfl ?_
  refine mm_iast C (mm_dec dk_X9_enter 17 rfl) rfl (by omega) (by omega) ?_
  have i3 : mm_inv (mm_pa h2 25 (h2.1 22 8) p3) := mm_inv_pa i2 (show 0 ≤ p3 ∧ p3 ≤ 80 from ⟨by omega, by omega⟩)
  have f3 : mm_fr [(22, 8)] [18, 23, 24, 25, 26, 27, 28] h (mm_pa h2 25 (h2.1 22 8) p3) := mm_fr_pa f2 (by decide)
  obtain ⟨h3, eh3⟩ : ∃ z, z = mm_pa h2 25 (h2.1 22 8) p3 := ⟨_, rfl⟩
  rw [← eh3] at i3 f3 ⊢
  have qh3_4 : h3.1 22 8 = h2.1 22 8 := by rw [eh3]; rfl
  refine mm_aload_n C (mm_dec dk_X9_enter 18 rfl) rfl ?_
  refine mm_getr (t := 26) C fl_X9_21 (mm_dec dk_X9_enter 19 rfl) rfl rfl (mm_ref i3 rfl) ?_
  refine mm_aload_n C (mm_dec dk_X9_enter 20 rfl) rfl ?_
  refine mm_geti C fl_X9_34 (mm_dec dk_X9_enter 21 rfl) rfl rfl (Or.inl rfl) ?_
  refine mm_iconst C (mm_dec dk_X9_enter 22 rfl) ⟨by decide, by decide⟩ ?_
  refine mm_iast C (mm_dec dk_X9_enter 23 rfl) rfl (by omega) (by omega) ?_
  have i4 : mm_inv (mm_pa h3 26 (h3.1 22 8) (-1)) := mm_inv_pa i3 (show -2147483648 ≤ (-1) ∧ (-1) ≤ 2147483647 from ⟨by omega, by omega⟩)
  have f4 : mm_fr [(22, 8)] [18, 23, 24, 25, 26, 27, 28] h (mm_pa h3 26 (h3.1 22 8) (-1)) := mm_fr_pa f3 (by decide)
  obtain ⟨h4, eh4⟩ : ∃ z, z = mm_pa h3 26 (h3.1 22 8) (-1) := ⟨_, rfl⟩
  rw [← eh4] at i4 f4 ⊢
  have qh4_5 : h4.1 22 8 = h3.1 22 8 := by rw [eh4]; rfl
  refine mm_aload_n C (mm_dec dk_X9_enter 24 rfl) rfl ?_
  refine mm_getr (t := 27) C fl_X9_24 (mm_dec dk_X9_enter 25 rfl) rfl rfl (mm_ref i4 rfl) ?_
  refine mm_aload_n C (mm_dec dk_X9_enter 26 rfl) rfl ?_
  refine mm_geti C fl_X9_34 (mm_dec dk_X9_enter 27 rfl) rfl rfl (Or.inl rfl) ?_
  refine mm_iconst C (mm_dec dk_X9_enter 28 rfl) ⟨by decide, by decide⟩ ?_
  refine mm_iast C (mm_dec dk_X9_enter 29 rfl) rfl (by omega) (by omega) ?_
  have i5 : mm_inv (mm_pa h4 27 (h4.1 22 8) (-1)) := mm_inv_pa i4 (show -1 ≤ (-1) ∧ (-1) ≤ 39 from ⟨by omega, by omega⟩)
  have f5 : mm_fr [(22, 8)] [18, 23, 24, 25, 26, 27, 28] h (mm_pa h4 27 (h4.1 22 8) (-1)) := mm_fr_pa f4 (by decide)
  obtain ⟨h5, eh5⟩ : ∃ z, z = mm_pa h4 27 (h4.1 22 8) (-1) := ⟨_, rfl⟩
  rw [← eh5] at i5 f5 ⊢
  have qh5_6 : h5.1 22 8 = h4.1 22 8 := by rw [eh5]; rfl
  refine mm_aload_n C (mm_dec dk_X9_enter 30 rfl) rfl ?_
  refine mm_getr (t := 28) C fl_X9_27 (mm_dec dk_X9_enter 31 rfl) rfl rfl (mm_ref i5 rfl) ?_
  refine mm_aload_n C (mm_dec dk_X9_enter 32 rfl) rfl ?_
  refine mm_geti C fl_X9_34 (mm_dec dk_X9_enter 33 rfl) rfl rfl (Or.inl rfl) ?_
  refine mm_iconst C (mm_dec dk_X9_enter 34 rfl) ⟨by decide, by decide⟩ ?_
  refine mm_zast C (mm_dec dk_X9_enter 35 rfl) rfl (by omega) (by omega) (by omega) ?_
  have i6 : mm_inv (mm_pa h5 28 (h5.1 22 8) 0) := mm_inv_pa i5 (show 0 ≤ 0 ∧ 0 ≤ 1 from ⟨by omega, by omega⟩)
  have f6 : mm_fr [(22, 8)] [18, 23, 24, 25, 26, 27, 28] h (mm_pa h5 28 (h5.1 22 8) 0) := mm_fr_pa f5 (by decide)
  obtain ⟨h6, eh6⟩ : ∃ z, z = mm_pa h5 28 (h5.1 22 8) 0 := ⟨_, rfl⟩
  rw [← eh6] at i6 f6 ⊢
  have qh6_7 : h6.1 22 8 = h5.1 22 8 := by rw [eh6]; rfl
  refine mm_aload_n C (mm_dec dk_X9_enter 36 rfl) rfl ?_
  refine mm_getr (t := 14) C fl_X9_41 (mm_dec dk_X9_enter 37 rfl) rfl rfl (mm_ref i6 rfl) ?_
  refine mm_iload_n C (mm_dec dk_X9_enter 38 rfl) rfl ?_
  refine mm_cVv (rest := []) C1 ev_X9_45 (mm_dec dk_X9_enter 39 rfl) (c_X2_take_q x.2.1 hl (d - 1) (by omega) h6 i6 p1 ⟨by omega, by omega⟩) rfl rfl (Nat.le_of_ble_eq_true rfl) ⟨by decide, by decide⟩ rfl (fun h65c hp65 => ?_) (fun _ _ q => q.elim)
  obtain ⟨i65c, g65c, y65_0⟩ := hp65
  have f65c : mm_fr [(22, 8)] [18, 23, 24, 25, 26, 27, 28] h h65c := mm_fr_tr f6 g65c (by decide +kernel)
  have q65c_9 : h65c.1 22 8 = h6.1 22 8 := g65c.1 22 8 (by decide)
  refine mm_aload_n C (mm_dec dk_X9_enter 40 rfl) rfl ?_
  refine mm_dup C (mm_dec dk_X9_enter 41 rfl) (show (2 : Nat) ≠ 1 by decide) ?_
  refine mm_geti C fl_X9_34 (mm_dec dk_X9_enter 42 rfl) rfl rfl (Or.inl rfl) ?_
  refine mm_iconst C (mm_dec dk_X9_enter 43 rfl) ⟨by decide, by decide⟩ ?_
  refine mm_iadd C (mm_dec dk_X9_enter 44 rfl) ⟨by omega, by omega⟩ ?_
  refine mm_puti C fl_X9_34 (mm_dec dk_X9_enter 45 rfl) rfl rfl rfl (Or.inl ⟨rfl, rfl⟩) ?_
  have i8 : mm_inv (mm_pf h65c 22 8 ((h65c.1 22 8) + 1)) := mm_inv_pf i65c (show 0 ≤ ((h65c.1 22 8) + 1) ∧ ((h65c.1 22 8) + 1) ≤ 40 from ⟨by omega, by omega⟩) (by decide)
  have f8 : mm_fr [(22, 8)] [18, 23, 24, 25, 26, 27, 28] h (mm_pf h65c 22 8 ((h65c.1 22 8) + 1)) := mm_fr_pf f65c (by decide)
  obtain ⟨h8, eh8⟩ : ∃ z, z = mm_pf h65c 22 8 ((h65c.1 22 8) + 1) := ⟨_, rfl⟩
  rw [← eh8] at i8 f8 ⊢
  have qh8 : h8.1 22 8 = ((h65c.1 22 8) + 1) := by rw [eh8]; exact mm_pf_same _ _ _ _
  refine mm_aload_n C (mm_dec dk_X9_enter 46 rfl) rfl ?_
  refine mm_geti C fl_X9_34 (mm_dec dk_X9_enter 47 rfl) rfl rfl (Or.inl rfl) ?_
  refine mm_iconst C (mm_dec dk_X9_enter 48 rfl) ⟨by decide, by decide⟩ ?_
  refine mm_isub C (mm_dec dk_X9_enter 49 rfl) ⟨by omega, by omega⟩ ?_
  exact mm_iret C T (mm_dec dk_X9_enter 50 rfl) (by decide : 0 ≤ 0) (by decide : 0 ≤ 0) ⟨_, rfl, ⟨⟨by omega, by omega⟩, i8, f8, by omega, by omega, by exact mm_up_tr (fun _ => ((mm_sm_pa 18 eh6 (by decide) _).trans ((mm_sm_pa 18 eh5 (by decide) _).trans ((mm_sm_pa 18 eh4 (by decide) _).trans ((mm_sm_pa 18 eh3 (by decide) _).trans ((mm_sm_pa 18 eh2 (by decide) _).trans (mm_sm_pa 18 eh1 (by decide) _))))))) y65_0 (fun _ => (mm_sm_pf 18 eh8 _)) rfl Iff.rfl, by exact mm_up_pav (fun _ => rfl) eh1 (fun _ => ((mm_sm_pf 23 eh8 _).trans ((g65c.2 23 (by decide) _).trans ((mm_sm_pa 23 eh6 (by decide) _).trans ((mm_sm_pa 23 eh5 (by decide) _).trans ((mm_sm_pa 23 eh4 (by decide) _).trans ((mm_sm_pa 23 eh3 (by decide) _).trans (mm_sm_pa 23 eh2 (by decide) _)))))))) (by omega) (by omega) rfl, by exact mm_up_pav (fun _ => ((mm_sm_pa 25 eh2 (by decide) _).trans (mm_sm_pa 25 eh1 (by decide) _))) eh3 (fun _ => ((mm_sm_pf 25 eh8 _).trans ((g65c.2 25 (by decide) _).trans ((mm_sm_pa 25 eh6 (by decide) _).trans ((mm_sm_pa 25 eh5 (by decide) _).trans (mm_sm_pa 25 eh4 (by decide) _)))))) (by omega) (by omega) rfl, by exact mm_up_pav (fun _ => ((mm_sm_pa 28 eh5 (by decide) _).trans ((mm_sm_pa 28 eh4 (by decide) _).trans ((mm_sm_pa 28 eh3 (by decide) _).trans ((mm_sm_pa 28 eh2 (by decide) _).trans (mm_sm_pa 28 eh1 (by decide) _)))))) eh6 (fun _ => ((mm_sm_pf 28 eh8 _).trans (g65c.2 28 (by decide) _))) (by omega) (by omega) rfl⟩⟩
set_option maxRecDepth 100000 in
set_option maxHeartbeats 4000000 in
theorem c_J7_fill_53178_2_q (l : Launch) (hl : l.stackTraces = false) (d : Nat) (hd : 0 ≤ d) (h : mH) (i0 : mm_inv h) (p1 : Int) (bp1 : 0 ≤ p1 ∧ p1 ≤ 7) : mm_Met l d yJ7_fill_53178 cJ7_fill_53178 4 none [mR 2, mI p1] h (mm_pv fun h2 => mm_inv h2 ∧ mm_fr [] [2] h h2 ∧ mm_al h2 2 399 p1) mm_nx 0 0 := by
  refine mm_ofW (ls := [mR 2, mI p1, mU, mU]) hl (by decide) rfl (Nat.le_of_ble_eq_true rfl) ?_
  intro x hxl C T hnm htb
  subst hxl
  refine mm_rng (fun hr _ => ?_)
  have ap1 : -2147483648 ≤ p1 ∧ p1 < 2147483648 := mm_ok_at hr (i := 1) rfl
  have f0 : mm_fr [] [2] h h := mm_fr_rf
  refine mm_iconst C (mm_dec dk_J7_fill_53178 0 rfl) ⟨by decide, by decide⟩ ?_
  refine mm_istore_nL (ls2 := [mR 2, mI p1, mI 0, mU]) C (mm_dec dk_J7_fill_53178 1 rfl) (by decide) rfl ?_
  refine mm_aload_n C (mm_dec dk_J7_fill_53178 2 rfl) rfl ?_
  refine mm_alenz (z := 400) C (mm_dec dk_J7_fill_53178 3 rfl) rfl (by decide) (by decide) rfl ?_
  have J5 : ∀ (n : Nat) (x5_2 : Int) (bx5_2 : 0 ≤ x5_2 ∧ x5_2 ≤ 400) (x5_3 : Int) (bx5_3 : 400 ≤ x5_3 ∧ x5_3 ≤ 400) (h5_ : mH) (i5_ : mm_inv h5_) (f5_ : mm_fr [] [2] h h5_) (w5_0 : mm_al h5_ 2 (x5_2 - 1) p1), (400 - x5_2 : Int) < n → mm_W x 0 0 5 [mR 2, mI p1, mI x5_2, mI x5_3] [] h5_ := by
    intro n
    induction n with
    | zero =>
      intro x5_2 bx5_2 x5_3 bx5_3 h5_ i5_ f5_ w5_0 hm
      exfalso; omega
    | succ n ih5 =>
      intro x5_2 bx5_2 x5_3 bx5_3 h5_ i5_ f5_ w5_0 hm5
      refine mm_iload_n C (mm_dec dk_J7_fill_53178 5 rfl) rfl ?_
      refine mm_iload_n C (mm_dec dk_J7_fill_53178 6 rfl) rfl ?_
      refine mm_icmp_ge (tgt := 20) C (mm_dec dk_J7_fill_53178 7 rfl) (by decide) (fun c7 => ?_) (fun c7 => ?_)
      · skip
        exact mm_vret C T (mm_dec dk_J7_fill_53178 14 rfl) (by decide : 0 ≤ 0) (by decide : 0 ≤ 0) ⟨rfl, ⟨i5_, f5_, by exact mm_al_le w5_0 (by omega)⟩⟩
      · skip
        refine mm_aload_n C (mm_dec dk_J7_fill_53178 8 rfl) rfl ?_
        refine mm_iload_n C (mm_dec dk_J7_fill_53178 9 rfl) rfl ?_
        refine mm_iload_n C (mm_dec dk_J7_fill_53178 10 rfl) rfl ?_
        refine mm_iast C (mm_dec dk_J7_fill_53178 11 rfl) rfl (by omega) (by omega) ?_
        have i1 : mm_inv (mm_pa h5_ 2 x5_2 p1) := mm_inv_pa i5_ (show 0 ≤ p1 ∧ p1 ≤ 7 from ⟨by omega, by omega⟩)
        have f1 : mm_fr [] [2] h (mm_pa h5_ 2 x5_2 p1) := mm_fr_pa f5_ (by decide)
        obtain ⟨h1, eh1⟩ : ∃ z, z = mm_pa h5_ 2 x5_2 p1 := ⟨_, rfl⟩
        rw [← eh1] at i1 f1 ⊢
        refine mm_iincL (ls2 := [mR 2, mI p1, mI (x5_2 + 1), mI x5_3]) C (mm_dec dk_J7_fill_53178 12 rfl) rfl (by decide) ⟨by omega, by omega⟩ rfl ?_
        refine mm_goto (tgt := 5) C (mm_dec dk_J7_fill_53178 13 rfl) (by decide) ?_
        exact ih5 (x5_2 + 1) ⟨by omega, by omega⟩ x5_3 ⟨by omega, by omega⟩ h1 i1 f1 (by first | exact mm_al_nil (by omega) | (rw [show x5_2 + 1 - 1 = x5_2 by omega]; exact mm_al_put w5_0 eh1)) (by omega)
  refine mm_istore_nL (ls2 := [mR 2, mI p1, mI 0, mI 400]) C (mm_dec dk_J7_fill_53178 4 rfl) (by decide) rfl ?_
  exact J5 (((400 - 0) : Int) + 1).toNat 0 ⟨by omega, by omega⟩ 400 ⟨by omega, by omega⟩ h i0 f0 (by first | exact mm_al_nil (by omega) | (rw [show x5_2 + 1 - 1 = x5_2 by omega]; exact mm_al_put w5_0 eh)) (by omega)
set_option maxRecDepth 100000 in
set_option maxHeartbeats 4000000 in
theorem c_J7_fill_53178_6_q (l : Launch) (hl : l.stackTraces = false) (d : Nat) (hd : 0 ≤ d) (h : mH) (i0 : mm_inv h) (p1 : Int) (bp1 : 0 ≤ p1 ∧ p1 ≤ 99) : mm_Met l d yJ7_fill_53178 cJ7_fill_53178 4 none [mR 6, mI p1] h (mm_pv fun h2 => mm_inv h2 ∧ mm_fr [] [6] h h2 ∧ mm_al h2 6 8 p1) mm_nx 0 0 := by
  refine mm_ofW (ls := [mR 6, mI p1, mU, mU]) hl (by decide) rfl (Nat.le_of_ble_eq_true rfl) ?_
  intro x hxl C T hnm htb
  subst hxl
  refine mm_rng (fun hr _ => ?_)
  have ap1 : -2147483648 ≤ p1 ∧ p1 < 2147483648 := mm_ok_at hr (i := 1) rfl
  have f0 : mm_fr [] [6] h h := mm_fr_rf
  refine mm_iconst C (mm_dec dk_J7_fill_53178 0 rfl) ⟨by decide, by decide⟩ ?_
  refine mm_istore_nL (ls2 := [mR 6, mI p1, mI 0, mU]) C (mm_dec dk_J7_fill_53178 1 rfl) (by decide) rfl ?_
  refine mm_aload_n C (mm_dec dk_J7_fill_53178 2 rfl) rfl ?_
  refine mm_alenz (z := 9) C (mm_dec dk_J7_fill_53178 3 rfl) rfl (by decide) (by decide) rfl ?_
  have J5 : ∀ (n : Nat) (x5_2 : Int) (bx5_2 : 0 ≤ x5_2 ∧ x5_2 ≤ 9) (x5_3 : Int) (bx5_3 : 9 ≤ x5_3 ∧ x5_3 ≤ 9) (h5_ : mH) (i5_ : mm_inv h5_) (f5_ : mm_fr [] [6] h h5_) (w5_0 : mm_al h5_ 6 (x5_2 - 1) p1), (9 - x5_2 : Int) < n → mm_W x 0 0 5 [mR 6, mI p1, mI x5_2, mI x5_3] [] h5_ := by
    intro n
    induction n with
    | zero =>
      intro x5_2 bx5_2 x5_3 bx5_3 h5_ i5_ f5_ w5_0 hm
      exfalso; omega
    | succ n ih5 =>
      intro x5_2 bx5_2 x5_3 bx5_3 h5_ i5_ f5_ w5_0 hm5
      refine mm_iload_n C (mm_dec dk_J7_fill_53178 5 rfl) rfl ?_
      refine mm_iload_n C (mm_dec dk_J7_fill_53178 6 rfl) rfl ?_
      refine mm_icmp_ge (tgt := 20) C (mm_dec dk_J7_fill_53178 7 rfl) (by decide) (fun c7 => ?_) (fun c7 => ?_)
      · skip
        exact mm_vret C T (mm_dec dk_J7_fill_53178 14 rfl) (by decide : 0 ≤ 0) (by decide : 0 ≤ 0) ⟨rfl, ⟨i5_, f5_, by exact mm_al_le w5_0 (by omega)⟩⟩
      · skip
        refine mm_aload_n C (mm_dec dk_J7_fill_53178 8 rfl) rfl ?_
        refine mm_iload_n C (mm_dec dk_J7_fill_53178 9 rfl) rfl ?_
        refine mm_iload_n C (mm_dec dk_J7_fill_53178 10 rfl) rfl ?_
        refine mm_iast C (mm_dec dk_J7_fill_53178 11 rfl) rfl (by omega) (by omega) ?_
        have i1 : mm_inv (mm_pa h5_ 6 x5_2 p1) := mm_inv_pa i5_ (show 0 ≤ p1 ∧ p1 ≤ 99 from ⟨by omega, by omega⟩)
        have f1 : mm_fr [] [6] h (mm_pa h5_ 6 x5_2 p1) := mm_fr_pa f5_ (by decide)
        obtain ⟨h1, eh1⟩ : ∃ z, z = mm_pa h5_ 6 x5_2 p1 := ⟨_, rfl⟩
        rw [← eh1] at i1 f1 ⊢
        refine mm_iincL (ls2 := [mR 6, mI p1, mI (x5_2 + 1), mI x5_3]) C (mm_dec dk_J7_fill_53178 12 rfl) rfl (by decide) ⟨by omega, by omega⟩ rfl ?_
        refine mm_goto (tgt := 5) C (mm_dec dk_J7_fill_53178 13 rfl) (by decide) ?_
        exact ih5 (x5_2 + 1) ⟨by omega, by omega⟩ x5_3 ⟨by omega, by omega⟩ h1 i1 f1 (by first | exact mm_al_nil (by omega) | (rw [show x5_2 + 1 - 1 = x5_2 by omega]; exact mm_al_put w5_0 eh1)) (by omega)
  refine mm_istore_nL (ls2 := [mR 6, mI p1, mI 0, mI 9]) C (mm_dec dk_J7_fill_53178 4 rfl) (by decide) rfl ?_
  exact J5 (((9 - 0) : Int) + 1).toNat 0 ⟨by omega, by omega⟩ 9 ⟨by omega, by omega⟩ h i0 f0 (by first | exact mm_al_nil (by omega) | (rw [show x5_2 + 1 - 1 = x5_2 by omega]; exact mm_al_put w5_0 eh)) (by omega)
set_option maxRecDepth 100000 in
set_option maxHeartbeats 4000000 in
theorem c_J7_fill_53178_3_q (l : Launch) (hl : l.stackTraces = false) (d : Nat) (hd : 0 ≤ d) (h : mH) (i0 : mm_inv h) (p1 : Int) (bp1 : 0 ≤ p1 ∧ p1 ≤ 99) : mm_Met l d yJ7_fill_53178 cJ7_fill_53178 4 none [mR 3, mI p1] h (mm_pv fun h2 => mm_inv h2 ∧ mm_fr [] [3] h h2 ∧ mm_al h2 3 399 p1) mm_nx 0 0 := by
  refine mm_ofW (ls := [mR 3, mI p1, mU, mU]) hl (by decide) rfl (Nat.le_of_ble_eq_true rfl) ?_
  intro x hxl C T hnm htb
  subst hxl
  refine mm_rng (fun hr _ => ?_)
  have ap1 : -2147483648 ≤ p1 ∧ p1 < 2147483648 := mm_ok_at hr (i := 1) rfl
  have f0 : mm_fr [] [3] h h := mm_fr_rf
  refine mm_iconst C (mm_dec dk_J7_fill_53178 0 rfl) ⟨by decide, by decide⟩ ?_
  refine mm_istore_nL (ls2 := [mR 3, mI p1, mI 0, mU]) C (mm_dec dk_J7_fill_53178 1 rfl) (by decide) rfl ?_
  refine mm_aload_n C (mm_dec dk_J7_fill_53178 2 rfl) rfl ?_
  refine mm_alenz (z := 400) C (mm_dec dk_J7_fill_53178 3 rfl) rfl (by decide) (by decide) rfl ?_
  have J5 : ∀ (n : Nat) (x5_2 : Int) (bx5_2 : 0 ≤ x5_2 ∧ x5_2 ≤ 400) (x5_3 : Int) (bx5_3 : 400 ≤ x5_3 ∧ x5_3 ≤ 400) (h5_ : mH) (i5_ : mm_inv h5_) (f5_ : mm_fr [] [3] h h5_) (w5_0 : mm_al h5_ 3 (x5_2 - 1) p1), (400 - x5_2 : Int) < n → mm_W x 0 0 5 [mR 3, mI p1, mI x5_2, mI x5_3] [] h5_ := by
    intro n
    induction n with
    | zero =>
      intro x5_2 bx5_2 x5_3 bx5_3 h5_ i5_ f5_ w5_0 hm
      exfalso; omega
    | succ n ih5 =>
      intro x5_2 bx5_2 x5_3 bx5_3 h5_ i5_ f5_ w5_0 hm5
      refine mm_iload_n C (mm_dec dk_J7_fill_53178 5 rfl) rfl ?_
      refine mm_iload_n C (mm_dec dk_J7_fill_53178 6 rfl) rfl ?_
      refine mm_icmp_ge (tgt := 20) C (mm_dec dk_J7_fill_53178 7 rfl) (by decide) (fun c7 => ?_) (fun c7 => ?_)
      · skip
        exact mm_vret C T (mm_dec dk_J7_fill_53178 14 rfl) (by decide : 0 ≤ 0) (by decide : 0 ≤ 0) ⟨rfl, ⟨i5_, f5_, by exact mm_al_le w5_0 (by omega)⟩⟩
      · skip
        refine mm_aload_n C (mm_dec dk_J7_fill_53178 8 rfl) rfl ?_
        refine mm_iload_n C (mm_dec dk_J7_fill_53178 9 rfl) rfl ?_
        refine mm_iload_n C (mm_dec dk_J7_fill_53178 10 rfl) rfl ?_
        refine mm_iast C (mm_dec dk_J7_fill_53178 11 rfl) rfl (by omega) (by omega) ?_
        have i1 : mm_inv (mm_pa h5_ 3 x5_2 p1) := mm_inv_pa i5_ (show 0 ≤ p1 ∧ p1 ≤ 99 from ⟨by omega, by omega⟩)
        have f1 : mm_fr [] [3] h (mm_pa h5_ 3 x5_2 p1) := mm_fr_pa f5_ (by decide)
        obtain ⟨h1, eh1⟩ : ∃ z, z = mm_pa h5_ 3 x5_2 p1 := ⟨_, rfl⟩
        rw [← eh1] at i1 f1 ⊢
        refine mm_iincL (ls2 := [mR 3, mI p1, mI (x5_2 + 1), mI x5_3]) C (mm_dec dk_J7_fill_53178 12 rfl) rfl (by decide) ⟨by omega, by omega⟩ rfl ?_
        refine mm_goto (tgt := 5) C (mm_dec dk_J7_fill_53178 13 rfl) (by decide) ?_
        exact ih5 (x5_2 + 1) ⟨by omega, by omega⟩ x5_3 ⟨by omega, by omega⟩ h1 i1 f1 (by first | exact mm_al_nil (by omega) | (rw [show x5_2 + 1 - 1 = x5_2 by omega]; exact mm_al_put w5_0 eh1)) (by omega)
  refine mm_istore_nL (ls2 := [mR 3, mI p1, mI 0, mI 400]) C (mm_dec dk_J7_fill_53178 4 rfl) (by decide) rfl ?_
  exact J5 (((400 - 0) : Int) + 1).toNat 0 ⟨by omega, by omega⟩ 400 ⟨by omega, by omega⟩ h i0 f0 (by first | exact mm_al_nil (by omega) | (rw [show x5_2 + 1 - 1 = x5_2 by omega]; exact mm_al_put w5_0 eh)) (by omega)
set_option maxRecDepth 100000 in
set_option maxHeartbeats 4000000 in
theorem c_X5_renew_q (l : Launch) (hl : l.stackTraces = false) (d : Nat) (hd : 1 ≤ d) (h : mH) (i0 : mm_inv h) (p1 : Int) (p2 : Int) (bp1 : 1 ≤ p1 ∧ p1 ≤ 20) (bp2 : 1 ≤ p2 ∧ p2 ≤ 20) : mm_Met l d yX5_renew cX5_renew 4 none [mR 1, mI p1, mI p2] h (mm_pv fun h2 => mm_inv h2 ∧ mm_fr [(1, 5), (1, 6), (1, 7), (1, 8)] [2, 3, 4, 5, 6] h h2 ∧ h2.1 1 5 = p1 ∧ h2.1 1 6 = p2 ∧ mm_al h2 2 399 0 ∧ mm_al h2 6 7 5 ∧ mm_al h2 3 399 0 ∧ mm_al h2 4 399 0 ∧ mm_al h2 5 399 0 ∧ h2.2.1 6 8 = 2 ∧ h2.1 1 7 = 0 ∧ h2.1 1 8 = 0) mm_nx 0 0 := by
  refine mm_ofW (ls := [mR 1, mI p1, mI p2, mU]) hl (by decide) rfl (Nat.le_of_ble_eq_true rfl) ?_
  intro x hxl C T hnm htb
  subst hxl
  have C1 := mm_OK_le (d' := d - 1 + 1) (by omega) C
  refine mm_rng (fun hr _ => ?_)
  have ap1 : -2147483648 ≤ p1 ∧ p1 < 2147483648 := mm_ok_at hr (i := 1) rfl
  have ap2 : -2147483648 ≤ p2 ∧ p2 < 2147483648 := mm_ok_at hr (i := 2) rfl
  have f0 : mm_fr [(1, 5), (1, 6), (1, 7), (1, 8)] [2, 3, 4, 5, 6] h h := mm_fr_rf
  have g1 : 1 ≤ h.1 1 5 ∧ h.1 1 5 ≤ 20 := i0.1 1 5
  have g2 : 1 ≤ h.1 1 6 ∧ h.1 1 6 ≤ 20 := i0.1 1 6
  have g3 : 0 ≤ h.1 1 7 ∧ h.1 1 7 ≤ 399 := i0.1 1 7
  have g4 : 0 ≤ h.1 1 8 ∧ h.1 1 8 ≤ 399 := i0.1 1 8
  refine mm_aload_n C (mm_dec dk_X5_renew 0 rfl) rfl ?_
  refine mm_iload_n C (mm_dec dk_X5_renew 1 rfl) rfl ?_
  refine mm_puti C fl_X5_28 (mm_dec dk_X5_renew 2 rfl) rfl rfl rfl (Or.inl ⟨rfl, rfl⟩) ?_
  have i1 : mm_inv (mm_pf h 1 5 p1) := mm_inv_pf i0 (show 1 ≤ p1 ∧ p1 ≤ 20 from ⟨by omega, by omega⟩) (by decide)
  have f1 : mm_fr [(1, 5), (1, 6), (1, 7), (1, 8)] [2, 3, 4, 5, 6] h (mm_pf h 1 5 p1) := mm_fr_pf f0 (by decide)
  obtain ⟨h1, eh1⟩ : ∃ z, z = mm_pf h 1 5 p1 := ⟨_, rfl⟩
  rw [← eh1] at i1 f1 ⊢
  have qh1 : h1.1 1 5 = p1 := by rw [eh1]; exact mm_pf_same _ _ _ _
  have qh1_5 : h1.1 1 6 = h.1 1 6 := by rw [eh1]; exact mm_pf_ne _ _ (by decide)
  have qh1_6 : h1.1 1 7 = h.1 1 7 := by rw [eh1]; exact mm_pf_ne _ _ (by decide)
  have qh1_7 : h1.1 1 8 = h.1 1 8 := by rw [eh1]; exact mm_pf_ne _ _ (by decide)
  refine mm_aload_n C (mm_dec dk_X5_renew 3 rfl) rfl ?_
  refine mm_iload_n C (mm_dec dk_X5_renew 4 rfl) rfl ?_
  refine mm_puti C fl_X5_32 (mm_dec dk_X5_renew 5 rfl) rfl rfl rfl (Or.inl ⟨rfl, rfl⟩) ?_
  have i2 : mm_inv (mm_pf h1 1 6 p2) := mm_inv_pf i1 (show 1 ≤ p2 ∧ p2 ≤ 20 from ⟨by omega, by omega⟩) (by decide)
  have f2 : mm_fr [(1, 5), (1, 6), (1, 7), (1, 8)] [2, 3, 4, 5, 6] h (mm_pf h1 1 6 p2) := mm_fr_pf f1 (by decide)
  obtain ⟨h2, eh2⟩ : ∃ z, z = mm_pf h1 1 6 p2 := ⟨_, rfl⟩
  rw [← eh2] at i2 f2 ⊢
  have qh2 : h2.1 1 6 = p2 := by rw [eh2]; exact mm_pf_same _ _ _ _
  have qh2_8 : h2.1 1 5 = h1.1 1 5 := by rw [eh2]; exact mm_pf_ne _ _ (by decide)
  have qh2_9 : h2.1 1 7 = h1.1 1 7 := by rw [eh2]; exact mm_pf_ne _ _ (by decide)
  have qh2_10 : h2.1 1 8 = h1.1 1 8 := by rw [eh2]; exact mm_pf_ne _ _ (by decide)
  refine mm_aload_n C (mm_dec dk_X5_renew 6 rfl) rfl ?_
  refine mm_iconst C (mm_dec dk_X5_renew 7 rfl) ⟨by decide, by decide⟩ ?_
  refine mm_puti C fl_X5_35 (mm_dec dk_X5_renew 8 rfl) rfl rfl rfl (Or.inl ⟨rfl, rfl⟩) ?_
  have i3 : mm_inv (mm_pf h2 1 7 0) := mm_inv_pf i2 (show 0 ≤ 0 ∧ 0 ≤ 399 from ⟨by omega, by omega⟩) (by decide)
  have f3 : mm_fr [(1, 5), (1, 6), (1, 7), (1, 8)] [2, 3, 4, 5, 6] h (mm_pf h2 1 7 0) := mm_fr_pf f2 (by decide)
  obtain ⟨h3, eh3⟩ : ∃ z, z = mm_pf h2 1 7 0 := ⟨_, rfl⟩
  rw [← eh3] at i3 f3 ⊢
  have qh3 : h3.1 1 7 = 0 := by rw [eh3]; exact mm_pf_same _ _ _ _
  have qh3_11 : h3.1 1 5 = h2.1 1 5 := by rw [eh3]; exact mm_pf_ne _ _ (by decide)
  have qh3_12 : h3.1 1 6 = h2.1 1 6 := by rw [eh3]; exact mm_pf_ne _ _ (by decide)
  have qh3_13 : h3.1 1 8 = h2.1 1 8 := by rw [eh3]; exact mm_pf_ne _ _ (by decide)
  refine mm_aload_n C (mm_dec dk_X5_renew 9 rfl) rfl ?_
  refine mm_iconst C (mm_dec dk_X5_renew 10 rfl) ⟨by decide, by decide⟩ ?_
  refine mm_puti C fl_X5_38 (mm_dec dk_X5_renew 11 rfl) rfl rfl rfl (Or.inl ⟨rfl, rfl⟩) ?_
  have i4 : mm_inv (mm_pf h3 1 8 0) := mm_inv_pf i3 (show 0 ≤ 0 ∧ 0 ≤ 399 from ⟨by omega, by omega⟩) (by decide)
  have f4 : mm_fr [(1, 5), (1, 6), (1, 7), (1, 8)] [2, 3, 4, 5, 6] h (mm_pf h3 1 8 0) := mm_fr_pf f3 (by decide)
  obtain ⟨h4, eh4⟩ : ∃ z, z = mm_pf h3 1 8 0 := ⟨_, rfl⟩
  rw [← eh4] at i4 f4 ⊢
  have qh4 : h4.1 1 8 = 0 := by rw [eh4]; exact mm_pf_same _ _ _ _
  have qh4_14 : h4.1 1 5 = h3.1 1 5 := by rw [eh4]; exact mm_pf_ne _ _ (by decide)
  have qh4_15 : h4.1 1 6 = h3.1 1 6 := by rw [eh4]; exact mm_pf_ne _ _ (by decide)
  have qh4_16 : h4.1 1 7 = h3.1 1 7 := by rw [eh4]; exact mm_pf_ne _ _ (by decide)
  refine mm_aload_n C (mm_dec dk_X5_renew 12 rfl) rfl ?_
  refine mm_getr (t := 2) C fl_X5_9 (mm_dec dk_X5_renew 13 rfl) rfl rfl (mm_ref i4 rfl) ?_
  refine mm_iconst C (mm_dec dk_X5_renew 14 rfl) ⟨by decide, by decide⟩ ?_
  refine mm_cSv (rest := []) C1 es_X5_41 (mm_dec dk_X5_renew 15 rfl) (c_J7_fill_53178_2_q x.2.1 hl (d - 1) (by omega) h4 i4 0 ⟨by omega, by omega⟩) rfl (Nat.le_of_ble_eq_true rfl) ⟨by decide, by decide⟩ rfl (fun h25c hp25 => ?_) (fun _ _ q => q.elim)
  obtain ⟨i25c, g25c, y25_0⟩ := hp25
  have f25c : mm_fr [(1, 5), (1, 6), (1, 7), (1, 8)] [2, 3, 4, 5, 6] h h25c := mm_fr_tr f4 g25c (by decide +kernel)
  have q25c_18 : h25c.1 1 5 = h4.1 1 5 := g25c.1 1 5 (by decide)
  have q25c_19 : h25c.1 1 6 = h4.1 1 6 := g25c.1 1 6 (by decide)
  have q25c_20 : h25c.1 1 7 = h4.1 1 7 := g25c.1 1 7 (by decide)
  have q25c_21 : h25c.1 1 8 = h4.1 1 8 := g25c.1 1 8 (by decide)
  refine mm_aload_n C (mm_dec dk_X5_renew 16 rfl) rfl ?_
  refine mm_getr (t := 3) C fl_X5_15 (mm_dec dk_X5_renew 17 rfl) rfl rfl (mm_ref i25c rfl) ?_
  refine mm_iconst C (mm_dec dk_X5_renew 18 rfl) ⟨by decide, by decide⟩ ?_
  refine mm_cSv (rest := []) C1 es_X5_41 (mm_dec dk_X5_renew 19 rfl) (c_J7_fill_53178_3_q x.2.1 hl (d - 1) (by omega) h25c i25c 0 ⟨by omega, by omega⟩) rfl (Nat.le_of_ble_eq_true rfl) ⟨by decide, by decide⟩ rfl (fun h33c hp33 => ?_) (fun _ _ q => q.elim)
  obtain ⟨i33c, g33c, y33_0⟩ := hp33
  have f33c : mm_fr [(1, 5), (1, 6), (1, 7), (1, 8)] [2, 3, 4, 5, 6] h h33c := mm_fr_tr f25c g33c (by decide +kernel)
  have q33c_23 : h33c.1 1 5 = h25c.1 1 5 := g33c.1 1 5 (by decide)
  have q33c_24 : h33c.1 1 6 = h25c.1 1 6 := g33c.1 1 6 (by decide)
  have q33c_25 : h33c.1 1 7 = h25c.1 1 7 := g33c.1 1 7 (by decide)
  have q33c_26 : h33c.1 1 8 = h25c.1 1 8 := g33c.1 1 8 (by decide)
  refine mm_iconst C (mm_dec dk_X5_renew 20 rfl) ⟨by decide, by decide⟩ ?_
  have J38 : ∀ (n : Nat) (x38_3 : Int) (bx38_3 : 0 ≤ x38_3 ∧ x38_3 ≤ 400) (h38_ : mH) (i38_ : mm_inv h38_) (f38_ : mm_fr [(1, 5), (1, 6), (1, 7), (1, 8)] [2, 3, 4, 5, 6] h h38_) (w38_0 : mm_al h38_ 2 399 0) (w38_1 : mm_al h38_ 3 399 0) (w38_2 : mm_al h38_ 4 (x38_3 - 1) 0) (w38_3 : mm_al h38_ 5 (x38_3 - 1) 0) (w38_4 : h38_.1 1 7 = 0) (w38_5 : h38_.1 1 8 = 0) (w38_6 : h38_.1 1 5 = p1) (w38_7 : h38_.1 1 6 = p2), (400 - x38_3 : Int) < n → mm_W x 0 0 38 [mR 1, mU, mU, mI x38_3] [] h38_ := by
    intro n
    induction n with
    | zero =>
      intro x38_3 bx38_3 h38_ i38_ f38_ w38_0 w38_1 w38_2 w38_3 w38_4 w38_5 w38_6 w38_7 hm
      have g27 : 1 ≤ h38_.1 1 5 ∧ h38_.1 1 5 ≤ 20 := i38_.1 1 5
      have g28 : 1 ≤ h38_.1 1 6 ∧ h38_.1 1 6 ≤ 20 := i38_.1 1 6
      have g29 : 0 ≤ h38_.1 1 7 ∧ h38_.1 1 7 ≤ 399 := i38_.1 1 7
      have g30 : 0 ≤ h38_.1 1 8 ∧ h38_.1 1 8 ≤ 399 := i38_.1 1 8
      exfalso; omega
    | succ n ih38 =>
      intro x38_3 bx38_3 h38_ i38_ f38_ w38_0 w38_1 w38_2 w38_3 w38_4 w38_5 w38_6 w38_7 hm38
      have g31 : 1 ≤ h38_.1 1 5 ∧ h38_.1 1 5 ≤ 20 := i38_.1 1 5
      have g32 : 1 ≤ h38_.1 1 6 ∧ h38_.1 1 6 ≤ 20 := i38_.1 1 6
      have g33 : 0 ≤ h38_.1 1 7 ∧ h38_.1 1 7 ≤ 399 := i38_.1 1 7
      have g34 : 0 ≤ h38_.1 1 8 ∧ h38_.1 1 8 ≤ 399 := i38_.1 1 8
      refine mm_iload_n C (mm_dec dk_X5_renew 22 rfl) rfl ?_
      refine mm_sipush C (mm_dec dk_X5_renew 23 rfl) ⟨by decide, by decide⟩ ?_
      refine mm_icmp_ge (tgt := 65) C (mm_dec dk_X5_renew 24 rfl) (by decide) (fun c42 => ?_) (fun c42 => ?_)
      · skip
        refine mm_aload_n C (mm_dec dk_X5_renew 37 rfl) rfl ?_
        refine mm_getr (t := 6) C fl_X5_25 (mm_dec dk_X5_renew 38 rfl) rfl rfl (mm_ref i38_ rfl) ?_
        refine mm_iconst C (mm_dec dk_X5_renew 39 rfl) ⟨by decide, by decide⟩ ?_
        refine mm_cSv (rest := []) C1 es_X5_41 (mm_dec dk_X5_renew 40 rfl) (c_J7_fill_53178_6_q x.2.1 hl (d - 1) (by omega) h38_ i38_ 5 ⟨by omega, by omega⟩) rfl (Nat.le_of_ble_eq_true rfl) ⟨by decide, by decide⟩ rfl (fun h70c hp70 => ?_) (fun _ _ q => q.elim)
        obtain ⟨i70c, g70c, y70_0⟩ := hp70
        have f70c : mm_fr [(1, 5), (1, 6), (1, 7), (1, 8)] [2, 3, 4, 5, 6] h h70c := mm_fr_tr f38_ g70c (by decide +kernel)
        have q70c_36 : h70c.1 1 5 = h38_.1 1 5 := g70c.1 1 5 (by decide)
        have q70c_37 : h70c.1 1 6 = h38_.1 1 6 := g70c.1 1 6 (by decide)
        have q70c_38 : h70c.1 1 7 = h38_.1 1 7 := g70c.1 1 7 (by decide)
        have q70c_39 : h70c.1 1 8 = h38_.1 1 8 := g70c.1 1 8 (by decide)
        refine mm_aload_n C (mm_dec dk_X5_renew 41 rfl) rfl ?_
        refine mm_getr (t := 6) C fl_X5_25 (mm_dec dk_X5_renew 42 rfl) rfl rfl (mm_ref i70c rfl) ?_
        refine mm_bipush C (mm_dec dk_X5_renew 43 rfl) ⟨by decide, by decide⟩ ?_
        refine mm_iconst C (mm_dec dk_X5_renew 44 rfl) ⟨by decide, by decide⟩ ?_
        refine mm_iast C (mm_dec dk_X5_renew 45 rfl) rfl (by omega) (by omega) ?_
        have i8 : mm_inv (mm_pa h70c 6 8 2) := mm_inv_pa i70c (show 0 ≤ 2 ∧ 2 ≤ 99 from ⟨by omega, by omega⟩)
        have f8 : mm_fr [(1, 5), (1, 6), (1, 7), (1, 8)] [2, 3, 4, 5, 6] h (mm_pa h70c 6 8 2) := mm_fr_pa f70c (by decide)
        obtain ⟨h8, eh8⟩ : ∃ z, z = mm_pa h70c 6 8 2 := ⟨_, rfl⟩
        rw [← eh8] at i8 f8 ⊢
        have qh8_40 : h8.1 1 5 = h70c.1 1 5 := by rw [eh8]; rfl
        have qh8_41 : h8.1 1 6 = h70c.1 1 6 := by rw [eh8]; rfl
        have qh8_42 : h8.1 1 7 = h70c.1 1 7 := by rw [eh8]; rfl
        have qh8_43 : h8.1 1 8 = h70c.1 1 8 := by rw [eh8]; rfl
        exact mm_vret C T (mm_dec dk_X5_renew 46 rfl) (by decide : 0 ≤ 0) (by decide : 0 ≤ 0) ⟨rfl, ⟨i8, f8, by omega, by omega, by exact mm_al_sm (mm_al_fr w38_0 g70c (by decide)) (fun _ => (mm_sm_pa 2 eh8 (by decide) _)), by exact mm_al_hi y70_0 eh8 (by decide) (by decide), by exact mm_al_sm (mm_al_fr w38_1 g70c (by decide)) (fun _ => (mm_sm_pa 3 eh8 (by decide) _)), by exact mm_al_sm (mm_al_fr (mm_al_le w38_2 (by omega)) g70c (by decide)) (fun _ => (mm_sm_pa 4 eh8 (by decide) _)), by exact mm_al_sm (mm_al_fr (mm_al_le w38_3 (by omega)) g70c (by decide)) (fun _ => (mm_sm_pa 5 eh8 (by decide) _)), by exact mm_pa_is eh8 rfl, by omega, by omega⟩⟩
      · skip
        refine mm_aload_n C (mm_dec dk_X5_renew 25 rfl) rfl ?_
        refine mm_getr (t := 4) C fl_X5_18 (mm_dec dk_X5_renew 26 rfl) rfl rfl (mm_ref i38_ rfl) ?_
        refine mm_iload_n C (mm_dec dk_X5_renew 27 rfl) rfl ?_
        refine mm_iconst C (mm_dec dk_X5_renew 28 rfl) ⟨by decide, by decide⟩ ?_
        refine mm_zast C (mm_dec dk_X5_renew 29 rfl) rfl (by omega) (by omega) (by omega) ?_
        have i9 : mm_inv (mm_pa h38_ 4 x38_3 0) := mm_inv_pa i38_ (show 0 ≤ 0 ∧ 0 ≤ 1 from ⟨by omega, by omega⟩)
        have f9 : mm_fr [(1, 5), (1, 6), (1, 7), (1, 8)] [2, 3, 4, 5, 6] h (mm_pa h38_ 4 x38_3 0) := mm_fr_pa f38_ (by decide)
        obtain ⟨h9, eh9⟩ : ∃ z, z = mm_pa h38_ 4 x38_3 0 := ⟨_, rfl⟩
        rw [← eh9] at i9 f9 ⊢
        have qh9_44 : h9.1 1 5 = h38_.1 1 5 := by rw [eh9]; rfl
        have qh9_45 : h9.1 1 6 = h38_.1 1 6 := by rw [eh9]; rfl
        have qh9_46 : h9.1 1 7 = h38_.1 1 7 := by rw [eh9]; rfl
        have qh9_47 : h9.1 1 8 = h38_.1 1 8 := by rw [eh9]; rfl
        refine mm_aload_n C (mm_dec dk_X5_renew 30 rfl) rfl ?_
        refine mm_getr (t := 5) C fl_X5_22 (mm_dec dk_X5_renew 31 rfl) rfl rfl (mm_ref i9 rfl) ?_
        refine mm_iload_n C (mm_dec dk_X5_renew 32 rfl) rfl ?_
        refine mm_iconst C (mm_dec dk_X5_renew 33 rfl) ⟨by decide, by decide⟩ ?_
        refine mm_zast C (mm_dec dk_X5_renew 34 rfl) rfl (by omega) (by omega) (by omega) ?_
        have i10 : mm_inv (mm_pa h9 5 x38_3 0) := mm_inv_pa i9 (show 0 ≤ 0 ∧ 0 ≤ 1 from ⟨by omega, by omega⟩)
        have f10 : mm_fr [(1, 5), (1, 6), (1, 7), (1, 8)] [2, 3, 4, 5, 6] h (mm_pa h9 5 x38_3 0) := mm_fr_pa f9 (by decide)
        obtain ⟨h10, eh10⟩ : ∃ z, z = mm_pa h9 5 x38_3 0 := ⟨_, rfl⟩
        rw [← eh10] at i10 f10 ⊢
        have qh10_48 : h10.1 1 5 = h9.1 1 5 := by rw [eh10]; rfl
        have qh10_49 : h10.1 1 6 = h9.1 1 6 := by rw [eh10]; rfl
        have qh10_50 : h10.1 1 7 = h9.1 1 7 := by rw [eh10]; rfl
        have qh10_51 : h10.1 1 8 = h9.1 1 8 := by rw [eh10]; rfl
        refine mm_iincL (ls2 := [mR 1, mU, mU, mI (x38_3 + 1)]) C (mm_dec dk_X5_renew 35 rfl) rfl (by decide) ⟨by omega, by omega⟩ rfl ?_
        refine mm_goto (tgt := 38) C (mm_dec dk_X5_renew 36 rfl) (by decide) ?_
        exact ih38 (x38_3 + 1) ⟨by omega, by omega⟩ h10 i10 f10 (by first | exact mm_al_fr y25_0 g33c (by decide) | exact mm_al_sm w38_0 (fun _ => ((mm_sm_pa 2 eh10 (by decide) _).trans (mm_sm_pa 2 eh9 (by decide) _)))) (by first | exact y33_0 | exact mm_al_sm w38_1 (fun _ => ((mm_sm_pa 3 eh10 (by decide) _).trans (mm_sm_pa 3 eh9 (by decide) _)))) (by first | exact mm_al_nil (by omega) | (rw [show x38_3 + 1 - 1 = x38_3 by omega]; exact mm_al_sm (mm_al_put w38_2 eh9) (fun _ => (mm_sm_pa 4 eh10 (by decide) _)))) (by first | exact mm_al_nil (by omega) | (rw [show x38_3 + 1 - 1 = x38_3 by omega]; exact mm_al_put (mm_al_sm w38_3 (fun _ => (mm_sm_pa 5 eh9 (by decide) _))) eh10)) (by omega) (by omega) (by omega) (by omega) (by omega)
  refine mm_istore_nL (ls2 := [mR 1, mI p1, mI p2, mI 0]) C (mm_dec dk_X5_renew 21 rfl) (by decide) rfl ?_
  refine mm_fgt 1 ?_
  refine mm_fgt 2 ?_
  exact J38 (((400 - 0) : Int) + 1).toNat 0 ⟨by omega, by omega⟩ h33c i33c f33c (by first | exact mm_al_fr y25_0 g33c (by decide) | exact mm_al_sm w38_0 (fun _ => ((mm_sm_pa 2 eh10 (by decide) _).trans (mm_sm_pa 2 eh9 (by decide) _)))) (by first | exact y33_0 | exact mm_al_sm w38_1 (fun _ => ((mm_sm_pa 3 eh10 (by decide) _).trans (mm_sm_pa 3 eh9 (by decide) _)))) (by first | exact mm_al_nil (by omega) | (rw [show x38_3 + 1 - 1 = x38_3 by omega]; exact mm_al_sm (mm_al_put w38_2 eh9) (fun _ => (mm_sm_pa 4 eh10 (by decide) _)))) (by first | exact mm_al_nil (by omega) | (rw [show x38_3 + 1 - 1 = x38_3 by omega]; exact mm_al_put (mm_al_sm w38_3 (fun _ => (mm_sm_pa 5 eh9 (by decide) _))) eh10)) (by omega) (by omega) (by omega) (by omega) (by omega)
set_option maxRecDepth 100000 in
set_option maxHeartbeats 4000000 in
theorem c_X11_land_q (l : Launch) (hl : l.stackTraces = false) (d : Nat) (hd : 2 ≤ d) (h : mH) (i0 : mm_inv h) (p1 : Int) (p2 : Int) : mm_Met l d yX11_land cX11_land 3 (some .boolean) [mR 0, mI p1, mI p2] h (mm_pi fun r h2 => (0 ≤ r ∧ r ≤ 1) ∧ mm_inv h2 ∧ mm_fr [(0, 13), (0, 14), (1, 5), (1, 6), (1, 7), (1, 8), (7, 9), (14, 7), (14, 8), (22, 8), (22, 9), (30, 6), (30, 12), (30, 13), (42, 3), (58, 10)] [2, 3, 4, 5, 6, 44] h h2 ∧ ((r = 1 ∧ 1 ≤ p1 ∧ p1 ≤ 20 ∧ 1 ≤ p2 ∧ p2 ≤ 20) ∨ (r = 0 ∧ (p1 < 1 ∨ 20 < p1 ∨ p2 < 1 ∨ 20 < p2))) ∧ ((r = 0 ∧ h2.1 14 8 = h.1 14 8 ∧ h2.1 22 8 = h.1 22 8 ∧ h2.1 0 13 = h.1 0 13 ∧ h2.1 1 5 = h.1 1 5 ∧ h2.1 1 6 = h.1 1 6 ∧ h2.1 22 9 = h.1 22 9) ∨ (r = 1 ∧ h2.1 14 8 = 0 ∧ h2.1 22 8 = 0 ∧ h2.1 0 13 = 0 ∧ h2.1 1 5 = p1 ∧ h2.1 1 6 = p2 ∧ h2.1 22 9 = 0)) ∧ ((r = 0 ∧ h2.1 14 7 = h.1 14 7) ∨ (r = 1 ∧ h2.1 14 7 = 0)) ∧ (r = 1 → mm_al h2 2 399 0 ∧ mm_al h2 6 7 5 ∧ mm_al h2 3 399 0 ∧ mm_al h2 4 399 0 ∧ mm_al h2 5 399 0 ∧ h2.2.1 6 8 = 2) ∧ (r = 0 → ∀ o j, h2.2.1 o j = h.2.1 o j) ∧ ((r = 0 ∧ h2.1 1 7 = h.1 1 7) ∨ (r = 1 ∧ h2.1 1 7 = 0)) ∧ ((r = 0 ∧ h2.1 1 8 = h.1 1 8) ∨ (r = 1 ∧ h2.1 1 8 = 0)) ∧ ((r = 0 ∧ h2.1 58 10 = h.1 58 10) ∨ (r = 1 ∧ h2.1 58 10 = 0))) mm_nx 0 0 := by
  refine mm_ofW (ls := [mR 0, mI p1, mI p2]) hl (by decide) rfl (Nat.le_of_ble_eq_true rfl) ?_
  intro x hxl C T hnm htb
  subst hxl
  have C1 := mm_OK_le (d' := d - 1 + 1) (by omega) C
  refine mm_rng (fun hr _ => ?_)
  have ap1 : -2147483648 ≤ p1 ∧ p1 < 2147483648 := mm_ok_at hr (i := 1) rfl
  have ap2 : -2147483648 ≤ p2 ∧ p2 < 2147483648 := mm_ok_at hr (i := 2) rfl
  have f0 : mm_fr [(0, 13), (0, 14), (1, 5), (1, 6), (1, 7), (1, 8), (7, 9), (14, 7), (14, 8), (22, 8), (22, 9), (30, 6), (30, 12), (30, 13), (42, 3), (58, 10)] [2, 3, 4, 5, 6, 44] h h := mm_fr_rf
  have g1 : 0 ≤ h.1 14 8 ∧ h.1 14 8 ≤ 8 := i0.1 14 8
  have g2 : 0 ≤ h.1 22 8 ∧ h.1 22 8 ≤ 40 := i0.1 22 8
  have g3 : 0 ≤ h.1 0 13 ∧ h.1 0 13 ≤ 99999 := i0.1 0 13
  have g4 : 1 ≤ h.1 1 5 ∧ h.1 1 5 ≤ 20 := i0.1 1 5
  have g5 : 1 ≤ h.1 1 6 ∧ h.1 1 6 ≤ 20 := i0.1 1 6
  have g6 : 0 ≤ h.1 14 7 ∧ h.1 14 7 ≤ 20 := i0.1 14 7
  have g7 : 0 ≤ h.1 1 7 ∧ h.1 1 7 ≤ 399 := i0.1 1 7
  have g8 : 0 ≤ h.1 22 9 ∧ h.1 22 9 ≤ 10 := i0.1 22 9
  have g9 : 0 ≤ h.1 1 8 ∧ h.1 1 8 ≤ 399 := i0.1 1 8
  have g10 : 0 ≤ h.1 58 10 ∧ h.1 58 10 ≤ 1 := i0.1 58 10
  refine mm_iload_n C (mm_dec dk_X11_land 0 rfl) rfl ?_
  refine mm_iconst C (mm_dec dk_X11_land 1 rfl) ⟨by decide, by decide⟩ ?_
  have J22 : ∀ (w22_0 : (p1 < 1 ∨ 20 < p1 ∨ p2 < 1 ∨ 20 < p2)), mm_W x 0 0 22 [mU, mU, mU] [] h := by
    intro w22_0
    have g11 : 0 ≤ h.1 14 8 ∧ h.1 14 8 ≤ 8 := i0.1 14 8
    have g12 : 0 ≤ h.1 22 8 ∧ h.1 22 8 ≤ 40 := i0.1 22 8
    have g13 : 0 ≤ h.1 0 13 ∧ h.1 0 13 ≤ 99999 := i0.1 0 13
    have g14 : 1 ≤ h.1 1 5 ∧ h.1 1 5 ≤ 20 := i0.1 1 5
    have g15 : 1 ≤ h.1 1 6 ∧ h.1 1 6 ≤ 20 := i0.1 1 6
    have g16 : 0 ≤ h.1 14 7 ∧ h.1 14 7 ≤ 20 := i0.1 14 7
    have g17 : 0 ≤ h.1 1 7 ∧ h.1 1 7 ≤ 399 := i0.1 1 7
    have g18 : 0 ≤ h.1 22 9 ∧ h.1 22 9 ≤ 10 := i0.1 22 9
    have g19 : 0 ≤ h.1 1 8 ∧ h.1 1 8 ≤ 399 := i0.1 1 8
    have g20 : 0 ≤ h.1 58 10 ∧ h.1 58 10 ≤ 1 := i0.1 58 10
    refine mm_iconst C (mm_dec dk_X11_land 12 rfl) ⟨by decide, by decide⟩ ?_
    exact mm_zret C T (mm_dec dk_X11_land 13 rfl) (by decide : 0 ≤ 0) (by decide : 0 ≤ 0) (by omega) ⟨_, rfl, ⟨⟨by omega, by omega⟩, i0, f0, by omega, by omega, by omega, by first | exact fun w => absurd w (by decide) | exact fun _ => ⟨mm_al_sm y30_2 (fun _ => ((mm_sm_pf 2 eh9 _).trans ((mm_sm_pf 2 eh8 _).trans ((g72c.2 2 (by decide) _).trans ((g65c.2 2 (by decide) _).trans ((g58c.2 2 (by decide) _).trans ((g51c.2 2 (by decide) _).trans ((g44c.2 2 (by decide) _).trans (g37c.2 2 (by decide) _))))))))), mm_al_sm y30_3 (fun _ => ((mm_sm_pf 6 eh9 _).trans ((mm_sm_pf 6 eh8 _).trans ((g72c.2 6 (by decide) _).trans ((g65c.2 6 (by decide) _).trans ((g58c.2 6 (by decide) _).trans ((g51c.2 6 (by decide) _).trans ((g44c.2 6 (by decide) _).trans (g37c.2 6 (by decide) _))))))))), mm_al_sm y30_4 (fun _ => ((mm_sm_pf 3 eh9 _).trans ((mm_sm_pf 3 eh8 _).trans ((g72c.2 3 (by decide) _).trans ((g65c.2 3 (by decide) _).trans ((g58c.2 3 (by decide) _).trans ((g51c.2 3 (by decide) _).trans ((g44c.2 3 (by decide) _).trans (g37c.2 3 (by decide) _))))))))), mm_al_sm y30_5 (fun _ => ((mm_sm_pf 4 eh9 _).trans ((mm_sm_pf 4 eh8 _).trans ((g72c.2 4 (by decide) _).trans ((g65c.2 4 (by decide) _).trans ((g58c.2 4 (by decide) _).trans ((g51c.2 4 (by decide) _).trans ((g44c.2 4 (by decide) _).trans (g37c.2 4 (by decide) _))))))))), mm_al_sm y30_6 (fun _ => ((mm_sm_pf 5 eh9 _).trans ((mm_sm_pf 5 eh8 _).trans ((g72c.2 5 (by decide) _).trans ((g65c.2 5 (by decide) _).trans ((g58c.2 5 (by decide) _).trans ((g51c.2 5 (by decide) _).trans ((g44c.2 5 (by decide) _).trans (g37c.2 5 (by decide) _))))))))), ((fun _ => ((mm_sm_pf 6 eh9 _).trans ((mm_sm_pf 6 eh8 _).trans ((g72c.2 6 (by decide) _).trans ((g65c.2 6 (by decide) _).trans ((g58c.2 6 (by decide) _).trans ((g51c.2 6 (by decide) _).trans ((g44c.2 6 (by decide) _).trans (g37c.2 6 (by decide) _))))))))) 8).trans y30_7⟩, by first | exact fun w => absurd w (by decide) | exact fun _ _ _ => rfl, by omega, by omega, by omega⟩⟩
  refine mm_icmp_lt (tgt := 22) C (mm_dec dk_X11_land 2 rfl) (by decide) (fun c2 => ?_) (fun c2 => ?_)
  · skip
    refine mm_fgt 0 ?_
    refine mm_fgt 1 ?_
    refine mm_fgt 2 ?_
    exact J22 (by omega)
  · skip
    refine mm_iload_n C (mm_dec dk_X11_land 3 rfl) rfl ?_
    refine mm_bipush C (mm_dec dk_X11_land 4 rfl) ⟨by decide, by decide⟩ ?_
    refine mm_icmp_gt (tgt := 22) C (mm_dec dk_X11_land 5 rfl) (by decide) (fun c8 => ?_) (fun c8 => ?_)
    · skip
      refine mm_fgt 0 ?_
      refine mm_fgt 1 ?_
      refine mm_fgt 2 ?_
      exact J22 (by omega)
    · skip
      refine mm_iload_n C (mm_dec dk_X11_land 6 rfl) rfl ?_
      refine mm_iconst C (mm_dec dk_X11_land 7 rfl) ⟨by decide, by decide⟩ ?_
      refine mm_icmp_lt (tgt := 22) C (mm_dec dk_X11_land 8 rfl) (by decide) (fun c13 => ?_) (fun c13 => ?_)
      · skip
        refine mm_fgt 0 ?_
        refine mm_fgt 1 ?_
        refine mm_fgt 2 ?_
        exact J22 (by omega)
      · skip
        refine mm_iload_n C (mm_dec dk_X11_land 9 rfl) rfl ?_
        refine mm_bipush C (mm_dec dk_X11_land 10 rfl) ⟨by decide, by decide⟩ ?_
        refine mm_icmp_le (tgt := 24) C (mm_dec dk_X11_land 11 rfl) (by decide) (fun c19 => ?_) (fun c19 => ?_)
        · skip
          refine mm_aload_n C (mm_dec dk_X11_land 14 rfl) rfl ?_
          refine mm_getr (t := 1) C fl_X11_12 (mm_dec dk_X11_land 15 rfl) rfl rfl (mm_ref i0 rfl) ?_
          refine mm_iload_n C (mm_dec dk_X11_land 16 rfl) rfl ?_
          refine mm_iload_n C (mm_dec dk_X11_land 17 rfl) rfl ?_
          refine mm_cVv (rest := []) C1 ev_X11_108 (mm_dec dk_X11_land 18 rfl) (c_X5_renew_q x.2.1 hl (d - 1) (by omega) h i0 p1 p2 ⟨by omega, by omega⟩ ⟨by omega, by omega⟩) rfl rfl (Nat.le_of_ble_eq_true rfl) ⟨by decide, by decide⟩ rfl (fun h30c hp30 => ?_) (fun _ _ q => q.elim)
          obtain ⟨i30c, g30c, y30_0, y30_1, y30_2, y30_3, y30_4, y30_5, y30_6, y30_7, y30_8, y30_9⟩ := hp30
          have f30c : mm_fr [(0, 13), (0, 14), (1, 5), (1, 6), (1, 7), (1, 8), (7, 9), (14, 7), (14, 8), (22, 8), (22, 9), (30, 6), (30, 12), (30, 13), (42, 3), (58, 10)] [2, 3, 4, 5, 6, 44] h h30c := mm_fr_tr f0 g30c (by decide +kernel)
          have q30c_22 : h30c.1 0 13 = h.1 0 13 := g30c.1 0 13 (by decide)
          have q30c_23 : h30c.1 14 7 = h.1 14 7 := g30c.1 14 7 (by decide)
          have q30c_24 : h30c.1 14 8 = h.1 14 8 := g30c.1 14 8 (by decide)
          have q30c_25 : h30c.1 22 8 = h.1 22 8 := g30c.1 22 8 (by decide)
          have q30c_26 : h30c.1 22 9 = h.1 22 9 := g30c.1 22 9 (by decide)
          have q30c_27 : h30c.1 58 10 = h.1 58 10 := g30c.1 58 10 (by decide)
          have g28 : 1 ≤ (h30c.1 1 5) ∧ (h30c.1 1 5) ≤ 20 := i30c.1 1 5
          have g29 : 1 ≤ (h30c.1 1 6) ∧ (h30c.1 1 6) ≤ 20 := i30c.1 1 6
          have g30 : 0 ≤ (h30c.1 1 7) ∧ (h30c.1 1 7) ≤ 399 := i30c.1 1 7
          have g31 : 0 ≤ (h30c.1 1 8) ∧ (h30c.1 1 8) ≤ 399 := i30c.1 1 8
          refine mm_aload_n C (mm_dec dk_X11_land 19 rfl) rfl ?_
          refine mm_getr (t := 7) C fl_X11_21 (mm_dec dk_X11_land 20 rfl) rfl rfl (mm_ref i30c rfl) ?_
          refine mm_cVv (rest := []) C1 ev_X11_112 (mm_dec dk_X11_land 21 rfl) (c_X10_forget x.2.1 hl (d - 1) (by omega) h30c i30c ) rfl rfl (Nat.le_of_ble_eq_true rfl) ⟨by decide, by decide⟩ rfl (fun h37c hp37 => ?_) (fun _ _ q => q.elim)
          obtain ⟨i37c, g37c⟩ := hp37
          have f37c : mm_fr [(0, 13), (0, 14), (1, 5), (1, 6), (1, 7), (1, 8), (7, 9), (14, 7), (14, 8), (22, 8), (22, 9), (30, 6), (30, 12), (30, 13), (42, 3), (58, 10)] [2, 3, 4, 5, 6, 44] h h37c := mm_fr_tr f30c g37c (by decide +kernel)
          have q37c_33 : h37c.1 0 13 = h30c.1 0 13 := g37c.1 0 13 (by decide)
          have q37c_34 : h37c.1 1 5 = h30c.1 1 5 := g37c.1 1 5 (by decide)
          have q37c_35 : h37c.1 1 6 = h30c.1 1 6 := g37c.1 1 6 (by decide)
          have q37c_36 : h37c.1 1 7 = h30c.1 1 7 := g37c.1 1 7 (by decide)
          have q37c_37 : h37c.1 1 8 = h30c.1 1 8 := g37c.1 1 8 (by decide)
          have q37c_38 : h37c.1 14 7 = h30c.1 14 7 := g37c.1 14 7 (by decide)
          have q37c_39 : h37c.1 14 8 = h30c.1 14 8 := g37c.1 14 8 (by decide)
          have q37c_40 : h37c.1 22 8 = h30c.1 22 8 := g37c.1 22 8 (by decide)
          have q37c_41 : h37c.1 22 9 = h30c.1 22 9 := g37c.1 22 9 (by decide)
          have q37c_42 : h37c.1 58 10 = h30c.1 58 10 := g37c.1 58 10 (by decide)
          refine mm_aload_n C (mm_dec dk_X11_land 22 rfl) rfl ?_
          refine mm_getr (t := 14) C fl_X11_28 (mm_dec dk_X11_land 23 rfl) rfl rfl (mm_ref i37c rfl) ?_
          refine mm_cVv (rest := []) C1 ev_X11_115 (mm_dec dk_X11_land 24 rfl) (c_X2_clear_q x.2.1 hl (d - 1) (by omega) h37c i37c ) rfl rfl (Nat.le_of_ble_eq_true rfl) ⟨by decide, by decide⟩ rfl (fun h44c hp44 => ?_) (fun _ _ q => q.elim)
          obtain ⟨i44c, g44c, y44_0, y44_1⟩ := hp44
          have f44c : mm_fr [(0, 13), (0, 14), (1, 5), (1, 6), (1, 7), (1, 8), (7, 9), (14, 7), (14, 8), (22, 8), (22, 9), (30, 6), (30, 12), (30, 13), (42, 3), (58, 10)] [2, 3, 4, 5, 6, 44] h h44c := mm_fr_tr f37c g44c (by decide +kernel)
          have q44c_44 : h44c.1 0 13 = h37c.1 0 13 := g44c.1 0 13 (by decide)
          have q44c_45 : h44c.1 1 5 = h37c.1 1 5 := g44c.1 1 5 (by decide)
          have q44c_46 : h44c.1 1 6 = h37c.1 1 6 := g44c.1 1 6 (by decide)
          have q44c_47 : h44c.1 1 7 = h37c.1 1 7 := g44c.1 1 7 (by decide)
          have q44c_48 : h44c.1 1 8 = h37c.1 1 8 := g44c.1 1 8 (by decide)
          have q44c_49 : h44c.1 22 8 = h37c.1 22 8 := g44c.1 22 8 (by decide)
          have q44c_50 : h44c.1 22 9 = h37c.1 22 9 := g44c.1 22 9 (by decide)
          have q44c_51 : h44c.1 58 10 = h37c.1 58 10 := g44c.1 58 10 (by decide)
          have g52 : 0 ≤ (h44c.1 14 8) ∧ (h44c.1 14 8) ≤ 8 := i44c.1 14 8
          have g53 : 0 ≤ (h44c.1 14 7) ∧ (h44c.1 14 7) ≤ 20 := i44c.1 14 7
          refine mm_aload_n C (mm_dec dk_X11_land 25 rfl) rfl ?_
          refine mm_getr (t := 22) C fl_X11_37 (mm_dec dk_X11_land 26 rfl) rfl rfl (mm_ref i44c rfl) ?_
          refine mm_cVv (rest := []) C1 ev_X11_118 (mm_dec dk_X11_land 27 rfl) (c_X9_clear_q x.2.1 hl (d - 1) (by omega) h44c i44c ) rfl rfl (Nat.le_of_ble_eq_true rfl) ⟨by decide, by decide⟩ rfl (fun h51c hp51 => ?_) (fun _ _ q => q.elim)
          obtain ⟨i51c, g51c, y51_0, y51_1⟩ := hp51
          have f51c : mm_fr [(0, 13), (0, 14), (1, 5), (1, 6), (1, 7), (1, 8), (7, 9), (14, 7), (14, 8), (22, 8), (22, 9), (30, 6), (30, 12), (30, 13), (42, 3), (58, 10)] [2, 3, 4, 5, 6, 44] h h51c := mm_fr_tr f44c g51c (by decide +kernel)
          have q51c_55 : h51c.1 0 13 = h44c.1 0 13 := g51c.1 0 13 (by decide)
          have q51c_56 : h51c.1 1 5 = h44c.1 1 5 := g51c.1 1 5 (by decide)
          have q51c_57 : h51c.1 1 6 = h44c.1 1 6 := g51c.1 1 6 (by decide)
          have q51c_58 : h51c.1 1 7 = h44c.1 1 7 := g51c.1 1 7 (by decide)
          have q51c_59 : h51c.1 1 8 = h44c.1 1 8 := g51c.1 1 8 (by decide)
          have q51c_60 : h51c.1 14 7 = h44c.1 14 7 := g51c.1 14 7 (by decide)
          have q51c_61 : h51c.1 14 8 = h44c.1 14 8 := g51c.1 14 8 (by decide)
          have q51c_62 : h51c.1 58 10 = h44c.1 58 10 := g51c.1 58 10 (by decide)
          have g63 : 0 ≤ (h51c.1 22 8) ∧ (h51c.1 22 8) ≤ 40 := i51c.1 22 8
          have g64 : 0 ≤ (h51c.1 22 9) ∧ (h51c.1 22 9) ≤ 10 := i51c.1 22 9
          refine mm_aload_n C (mm_dec dk_X11_land 28 rfl) rfl ?_
          refine mm_getr (t := 30) C fl_X11_44 (mm_dec dk_X11_land 29 rfl) rfl rfl (mm_ref i51c rfl) ?_
          refine mm_cVv (rest := []) C1 ev_X11_119 (mm_dec dk_X11_land 30 rfl) (c_X6_clear x.2.1 hl (d - 1) (by omega) h51c i51c ) rfl rfl (Nat.le_of_ble_eq_true rfl) ⟨by decide, by decide⟩ rfl (fun h58c hp58 => ?_) (fun _ _ q => q.elim)
          obtain ⟨i58c, g58c⟩ := hp58
          have f58c : mm_fr [(0, 13), (0, 14), (1, 5), (1, 6), (1, 7), (1, 8), (7, 9), (14, 7), (14, 8), (22, 8), (22, 9), (30, 6), (30, 12), (30, 13), (42, 3), (58, 10)] [2, 3, 4, 5, 6, 44] h h58c := mm_fr_tr f51c g58c (by decide +kernel)
          have q58c_66 : h58c.1 0 13 = h51c.1 0 13 := g58c.1 0 13 (by decide)
          have q58c_67 : h58c.1 1 5 = h51c.1 1 5 := g58c.1 1 5 (by decide)
          have q58c_68 : h58c.1 1 6 = h51c.1 1 6 := g58c.1 1 6 (by decide)
          have q58c_69 : h58c.1 1 7 = h51c.1 1 7 := g58c.1 1 7 (by decide)
          have q58c_70 : h58c.1 1 8 = h51c.1 1 8 := g58c.1 1 8 (by decide)
          have q58c_71 : h58c.1 14 7 = h51c.1 14 7 := g58c.1 14 7 (by decide)
          have q58c_72 : h58c.1 14 8 = h51c.1 14 8 := g58c.1 14 8 (by decide)
          have q58c_73 : h58c.1 22 8 = h51c.1 22 8 := g58c.1 22 8 (by decide)
          have q58c_74 : h58c.1 22 9 = h51c.1 22 9 := g58c.1 22 9 (by decide)
          have q58c_75 : h58c.1 58 10 = h51c.1 58 10 := g58c.1 58 10 (by decide)
          refine mm_aload_n C (mm_dec dk_X11_land 31 rfl) rfl ?_
          refine mm_getr (t := 42) C fl_X11_51 (mm_dec dk_X11_land 32 rfl) rfl rfl (mm_ref i58c rfl) ?_
          refine mm_cVv (rest := []) C1 ev_X11_120 (mm_dec dk_X11_land 33 rfl) (c_X8_clear x.2.1 hl (d - 1) (by omega) h58c i58c ) rfl rfl (Nat.le_of_ble_eq_true rfl) ⟨by decide, by decide⟩ rfl (fun h65c hp65 => ?_) (fun _ _ q => q.elim)
          obtain ⟨i65c, g65c⟩ := hp65
          have f65c : mm_fr [(0, 13), (0, 14), (1, 5), (1, 6), (1, 7), (1, 8), (7, 9), (14, 7), (14, 8), (22, 8), (22, 9), (30, 6), (30, 12), (30, 13), (42, 3), (58, 10)] [2, 3, 4, 5, 6, 44] h h65c := mm_fr_tr f58c g65c (by decide +kernel)
          have q65c_77 : h65c.1 0 13 = h58c.1 0 13 := g65c.1 0 13 (by decide)
          have q65c_78 : h65c.1 1 5 = h58c.1 1 5 := g65c.1 1 5 (by decide)
          have q65c_79 : h65c.1 1 6 = h58c.1 1 6 := g65c.1 1 6 (by decide)
          have q65c_80 : h65c.1 1 7 = h58c.1 1 7 := g65c.1 1 7 (by decide)
          have q65c_81 : h65c.1 1 8 = h58c.1 1 8 := g65c.1 1 8 (by decide)
          have q65c_82 : h65c.1 14 7 = h58c.1 14 7 := g65c.1 14 7 (by decide)
          have q65c_83 : h65c.1 14 8 = h58c.1 14 8 := g65c.1 14 8 (by decide)
          have q65c_84 : h65c.1 22 8 = h58c.1 22 8 := g65c.1 22 8 (by decide)
          have q65c_85 : h65c.1 22 9 = h58c.1 22 9 := g65c.1 22 9 (by decide)
          have q65c_86 : h65c.1 58 10 = h58c.1 58 10 := g65c.1 58 10 (by decide)
          refine mm_aload_n C (mm_dec dk_X11_land 34 rfl) rfl ?_
          refine mm_getr (t := 58) C fl_X11_78 (mm_dec dk_X11_land 35 rfl) rfl rfl (mm_ref i65c rfl) ?_
          refine mm_cVv (rest := []) C1 ev_X11_121 (mm_dec dk_X11_land 36 rfl) (c_X0_forget_q x.2.1 hl (d - 1) (by omega) h65c i65c ) rfl rfl (Nat.le_of_ble_eq_true rfl) ⟨by decide, by decide⟩ rfl (fun h72c hp72 => ?_) (fun _ _ q => q.elim)
          obtain ⟨i72c, g72c, y72_0⟩ := hp72
          have f72c : mm_fr [(0, 13), (0, 14), (1, 5), (1, 6), (1, 7), (1, 8), (7, 9), (14, 7), (14, 8), (22, 8), (22, 9), (30, 6), (30, 12), (30, 13), (42, 3), (58, 10)] [2, 3, 4, 5, 6, 44] h h72c := mm_fr_tr f65c g72c (by decide +kernel)
          have q72c_88 : h72c.1 0 13 = h65c.1 0 13 := g72c.1 0 13 (by decide)
          have q72c_89 : h72c.1 1 5 = h65c.1 1 5 := g72c.1 1 5 (by decide)
          have q72c_90 : h72c.1 1 6 = h65c.1 1 6 := g72c.1 1 6 (by decide)
          have q72c_91 : h72c.1 1 7 = h65c.1 1 7 := g72c.1 1 7 (by decide)
          have q72c_92 : h72c.1 1 8 = h65c.1 1 8 := g72c.1 1 8 (by decide)
          have q72c_93 : h72c.1 14 7 = h65c.1 14 7 := g72c.1 14 7 (by decide)
          have q72c_94 : h72c.1 14 8 = h65c.1 14 8 := g72c.1 14 8 (by decide)
          have q72c_95 : h72c.1 22 8 = h65c.1 22 8 := g72c.1 22 8 (by decide)
          have q72c_96 : h72c.1 22 9 = h65c.1 22 9 := g72c.1 22 9 (by decide)
          have g97 : 0 ≤ (h72c.1 58 10) ∧ (h72c.1 58 10) ≤ 1 := i72c.1 58 10
          refine mm_aload_n C (mm_dec dk_X11_land 37 rfl) rfl ?_
          refine mm_iconst C (mm_dec dk_X11_land 38 rfl) ⟨by decide, by decide⟩ ?_
          refine mm_puti C fl_X11_102 (mm_dec dk_X11_land 39 rfl) rfl rfl rfl (Or.inl ⟨rfl, rfl⟩) ?_
          have i8 : mm_inv (mm_pf h72c 0 13 0) := mm_inv_pf i72c (show 0 ≤ 0 ∧ 0 ≤ 99999 from ⟨by omega, by omega⟩) (by decide)
          have f8 : mm_fr [(0, 13), (0, 14), (1, 5), (1, 6), (1, 7), (1, 8), (7, 9), (14, 7), (14, 8), (22, 8), (22, 9), (30, 6), (30, 12), (30, 13), (42, 3), (58, 10)] [2, 3, 4, 5, 6, 44] h (mm_pf h72c 0 13 0) := mm_fr_pf f72c (by decide)
          obtain ⟨h8, eh8⟩ : ∃ z, z = mm_pf h72c 0 13 0 := ⟨_, rfl⟩
          rw [← eh8] at i8 f8 ⊢
          have qh8 : h8.1 0 13 = 0 := by rw [eh8]; exact mm_pf_same _ _ _ _
          have qh8_98 : h8.1 1 5 = h72c.1 1 5 := by rw [eh8]; exact mm_pf_ne _ _ (by decide)
          have qh8_99 : h8.1 1 6 = h72c.1 1 6 := by rw [eh8]; exact mm_pf_ne _ _ (by decide)
          have qh8_100 : h8.1 1 7 = h72c.1 1 7 := by rw [eh8]; exact mm_pf_ne _ _ (by decide)
          have qh8_101 : h8.1 1 8 = h72c.1 1 8 := by rw [eh8]; exact mm_pf_ne _ _ (by decide)
          have qh8_102 : h8.1 14 7 = h72c.1 14 7 := by rw [eh8]; exact mm_pf_ne _ _ (by decide)
          have qh8_103 : h8.1 14 8 = h72c.1 14 8 := by rw [eh8]; exact mm_pf_ne _ _ (by decide)
          have qh8_104 : h8.1 22 8 = h72c.1 22 8 := by rw [eh8]; exact mm_pf_ne _ _ (by decide)
          have qh8_105 : h8.1 22 9 = h72c.1 22 9 := by rw [eh8]; exact mm_pf_ne _ _ (by decide)
          have qh8_106 : h8.1 58 10 = h72c.1 58 10 := by rw [eh8]; exact mm_pf_ne _ _ (by decide)
          refine mm_aload_n C (mm_dec dk_X11_land 40 rfl) rfl ?_
          refine mm_iconst C (mm_dec dk_X11_land 41 rfl) ⟨by decide, by decide⟩ ?_
          refine mm_puti C fl_X11_105 (mm_dec dk_X11_land 42 rfl) rfl rfl rfl (Or.inl ⟨rfl, rfl⟩) ?_
          have i9 : mm_inv (mm_pf h8 0 14 (-1)) := mm_inv_pf i8 (show -2147483648 ≤ (-1) ∧ (-1) ≤ 2147483647 from ⟨by omega, by omega⟩) (by decide)
          have f9 : mm_fr [(0, 13), (0, 14), (1, 5), (1, 6), (1, 7), (1, 8), (7, 9), (14, 7), (14, 8), (22, 8), (22, 9), (30, 6), (30, 12), (30, 13), (42, 3), (58, 10)] [2, 3, 4, 5, 6, 44] h (mm_pf h8 0 14 (-1)) := mm_fr_pf f8 (by decide)
          obtain ⟨h9, eh9⟩ : ∃ z, z = mm_pf h8 0 14 (-1) := ⟨_, rfl⟩
          rw [← eh9] at i9 f9 ⊢
          have qh9 : h9.1 0 14 = (-1) := by rw [eh9]; exact mm_pf_same _ _ _ _
          have qh9_107 : h9.1 0 13 = h8.1 0 13 := by rw [eh9]; exact mm_pf_ne _ _ (by decide)
          have qh9_108 : h9.1 1 5 = h8.1 1 5 := by rw [eh9]; exact mm_pf_ne _ _ (by decide)
          have qh9_109 : h9.1 1 6 = h8.1 1 6 := by rw [eh9]; exact mm_pf_ne _ _ (by decide)
          have qh9_110 : h9.1 1 7 = h8.1 1 7 := by rw [eh9]; exact mm_pf_ne _ _ (by decide)
          have qh9_111 : h9.1 1 8 = h8.1 1 8 := by rw [eh9]; exact mm_pf_ne _ _ (by decide)
          have qh9_112 : h9.1 14 7 = h8.1 14 7 := by rw [eh9]; exact mm_pf_ne _ _ (by decide)
          have qh9_113 : h9.1 14 8 = h8.1 14 8 := by rw [eh9]; exact mm_pf_ne _ _ (by decide)
          have qh9_114 : h9.1 22 8 = h8.1 22 8 := by rw [eh9]; exact mm_pf_ne _ _ (by decide)
          have qh9_115 : h9.1 22 9 = h8.1 22 9 := by rw [eh9]; exact mm_pf_ne _ _ (by decide)
          have qh9_116 : h9.1 58 10 = h8.1 58 10 := by rw [eh9]; exact mm_pf_ne _ _ (by decide)
          refine mm_iconst C (mm_dec dk_X11_land 43 rfl) ⟨by decide, by decide⟩ ?_
          exact mm_zret C T (mm_dec dk_X11_land 44 rfl) (by decide : 0 ≤ 0) (by decide : 0 ≤ 0) (by omega) ⟨_, rfl, ⟨⟨by omega, by omega⟩, i9, f9, by omega, by omega, by omega, by first | exact fun w => absurd w (by decide) | exact fun _ => ⟨mm_al_sm y30_2 (fun _ => ((mm_sm_pf 2 eh9 _).trans ((mm_sm_pf 2 eh8 _).trans ((g72c.2 2 (by decide) _).trans ((g65c.2 2 (by decide) _).trans ((g58c.2 2 (by decide) _).trans ((g51c.2 2 (by decide) _).trans ((g44c.2 2 (by decide) _).trans (g37c.2 2 (by decide) _))))))))), mm_al_sm y30_3 (fun _ => ((mm_sm_pf 6 eh9 _).trans ((mm_sm_pf 6 eh8 _).trans ((g72c.2 6 (by decide) _).trans ((g65c.2 6 (by decide) _).trans ((g58c.2 6 (by decide) _).trans ((g51c.2 6 (by decide) _).trans ((g44c.2 6 (by decide) _).trans (g37c.2 6 (by decide) _))))))))), mm_al_sm y30_4 (fun _ => ((mm_sm_pf 3 eh9 _).trans ((mm_sm_pf 3 eh8 _).trans ((g72c.2 3 (by decide) _).trans ((g65c.2 3 (by decide) _).trans ((g58c.2 3 (by decide) _).trans ((g51c.2 3 (by decide) _).trans ((g44c.2 3 (by decide) _).trans (g37c.2 3 (by decide) _))))))))), mm_al_sm y30_5 (fun _ => ((mm_sm_pf 4 eh9 _).trans ((mm_sm_pf 4 eh8 _).trans ((g72c.2 4 (by decide) _).trans ((g65c.2 4 (by decide) _).trans ((g58c.2 4 (by decide) _).trans ((g51c.2 4 (by decide) _).trans ((g44c.2 4 (by decide) _).trans (g37c.2 4 (by decide) _))))))))), mm_al_sm y30_6 (fun _ => ((mm_sm_pf 5 eh9 _).trans ((mm_sm_pf 5 eh8 _).trans ((g72c.2 5 (by decide) _).trans ((g65c.2 5 (by decide) _).trans ((g58c.2 5 (by decide) _).trans ((g51c.2 5 (by decide) _).trans ((g44c.2 5 (by decide) _).trans (g37c.2 5 (by decide) _))))))))), ((fun _ => ((mm_sm_pf 6 eh9 _).trans ((mm_sm_pf 6 eh8 _).trans ((g72c.2 6 (by decide) _).trans ((g65c.2 6 (by decide) _).trans ((g58c.2 6 (by decide) _).trans ((g51c.2 6 (by decide) _).trans ((g44c.2 6 (by decide) _).trans (g37c.2 6 (by decide) _))))))))) 8).trans y30_7⟩, by first | exact fun w => absurd w (by decide) | exact fun _ _ _ => rfl, by omega, by omega, by omega⟩⟩
        · skip
          refine mm_fgt 0 ?_
          refine mm_fgt 1 ?_
          refine mm_fgt 2 ?_
          exact J22 (by omega)
set_option maxRecDepth 100000 in
set_option maxHeartbeats 4000000 in
theorem c_X11_course_q (l : Launch) (hl : l.stackTraces = false) (d : Nat) (hd : 1 ≤ d) (h : mH) (i0 : mm_inv h) (p1 : Int) (bp1 : 0 ≤ p1 ∧ p1 ≤ 1) : mm_Met l d yX11_course cX11_course 2 (some .int) [mR 0, mI p1] h (mm_pi fun r h2 => (-1 ≤ r ∧ r ≤ 7) ∧ mm_inv h2 ∧ mm_fr [(14, 8)] [17, 18, 19, 20] h h2 ∧ ((h.1 14 8 ≤ 7 ∧ r = h.1 14 8 ∧ h2.1 14 8 = h.1 14 8 + 1) ∨ (8 ≤ h.1 14 8 ∧ r = -1 ∧ h2.1 14 8 = h.1 14 8)) ∧ (∃ f : Int, ((f = 1 ∧ h2.1 14 8 = h.1 14 8 + 1) ∨ (f = 0 ∧ h2.1 14 8 = h.1 14 8)) ∧ mm_up h h2 17 (h.1 14 8) p1 f ∧ mm_up h h2 18 (h.1 14 8) 0 f ∧ mm_up h h2 19 (h.1 14 8) 0 f ∧ mm_up h h2 20 (h.1 14 8) 0 f)) mm_nx 0 0 := by
  refine mm_ofW (ls := [mR 0, mI p1]) hl (by decide) rfl (Nat.le_of_ble_eq_true rfl) ?_
  intro x hxl C T hnm htb
  subst hxl
  have C1 := mm_OK_le (d' := d - 1 + 1) (by omega) C
  refine mm_rng (fun hr _ => ?_)
  have ap1 : -2147483648 ≤ p1 ∧ p1 < 2147483648 := mm_ok_at hr (i := 1) rfl
  have f0 : mm_fr [(14, 8)] [17, 18, 19, 20] h h := mm_fr_rf
  have g1 : 0 ≤ h.1 14 8 ∧ h.1 14 8 ≤ 8 := i0.1 14 8
  refine mm_aload_n C (mm_dec dk_X11_course 0 rfl) rfl ?_
  refine mm_getr (t := 14) C fl_X11_28 (mm_dec dk_X11_course 1 rfl) rfl rfl (mm_ref i0 rfl) ?_
  refine mm_cVi (rest := []) C1 ev_X11_200 (mm_dec dk_X11_course 2 rfl) (c_X2_size x.2.1 hl (d - 1) (by omega) h i0 ) rfl rfl (Nat.le_of_ble_eq_true rfl) ⟨by decide, by decide⟩ rfl (fun r4 h4c hp4 => ?_) (fun _ _ q => q.elim)
  obtain ⟨z4, y4⟩ := hp4
  rw [z4, y4]
  refine mm_bipush C (mm_dec dk_X11_course 3 rfl) ⟨by decide, by decide⟩ ?_
  refine mm_icmp_lt (tgt := 14) C (mm_dec dk_X11_course 4 rfl) (by decide) (fun c9 => ?_) (fun c9 => ?_)
  · skip
    refine mm_aload_n C (mm_dec dk_X11_course 7 rfl) rfl ?_
    refine mm_getr (t := 14) C fl_X11_28 (mm_dec dk_X11_course 8 rfl) rfl rfl (mm_ref i0 rfl) ?_
    refine mm_iload_n C (mm_dec dk_X11_course 9 rfl) rfl ?_
    refine mm_cVi (rest := []) C1 ev_X11_203 (mm_dec dk_X11_course 10 rfl) (c_X2_open_q x.2.1 hl (d - 1) (by omega) h i0 p1 ⟨by omega, by omega⟩ (by omega)) rfl rfl (Nat.le_of_ble_eq_true rfl) ⟨by decide, by decide⟩ rfl (fun r19 h19c hp19 => ?_) (fun _ _ q => q.elim)
    obtain ⟨b19, i19c, g19c, y19_0, y19_1, y19_2, y19_3, y19_4, y19_5⟩ := hp19
    have f19c : mm_fr [(14, 8)] [17, 18, 19, 20] h h19c := mm_fr_tr f0 g19c (by decide +kernel)
    have g4 : 0 ≤ (h19c.1 14 8) ∧ (h19c.1 14 8) ≤ 8 := i19c.1 14 8
    exact mm_iret C T (mm_dec dk_X11_course 11 rfl) (by decide : 0 ≤ 0) (by decide : 0 ≤ 0) ⟨_, rfl, ⟨⟨by omega, by omega⟩, i19c, f19c, by omega, by first | exact ⟨0, Or.inr ⟨rfl, rfl⟩, mm_up_no (by decide) (fun _ => rfl), mm_up_no (by decide) (fun _ => rfl), mm_up_no (by decide) (fun _ => rfl), mm_up_no (by decide) (fun _ => rfl)⟩ | exact ⟨1, Or.inl ⟨rfl, by omega⟩, y19_2, y19_3, y19_4, y19_5⟩⟩⟩
  · skip
    refine mm_iconst C (mm_dec dk_X11_course 5 rfl) ⟨by decide, by decide⟩ ?_
    exact mm_iret C T (mm_dec dk_X11_course 6 rfl) (by decide : 0 ≤ 0) (by decide : 0 ≤ 0) ⟨_, rfl, ⟨⟨by omega, by omega⟩, i0, f0, by omega, by first | exact ⟨0, Or.inr ⟨rfl, rfl⟩, mm_up_no (by decide) (fun _ => rfl), mm_up_no (by decide) (fun _ => rfl), mm_up_no (by decide) (fun _ => rfl), mm_up_no (by decide) (fun _ => rfl)⟩ | exact ⟨1, Or.inl ⟨rfl, by omega⟩, y19_2, y19_3, y19_4, y19_5⟩⟩⟩
set_option maxRecDepth 100000 in
set_option maxHeartbeats 4000000 in
theorem c_X12_right_q (l : Launch) (hl : l.stackTraces = false) (d : Nat) (hd : 0 ≤ d) (h : mH) (i0 : mm_inv h) (p1 : Int) (p2 : Int) (bp1 : 0 ≤ p1 ∧ p1 ≤ 1) (u0 : p2 ≠ 0) : mm_Met l d yX12_right cX12_right 3 (some .boolean) [mR 66, mI p1, mI p2] h (mm_pi fun r h2 => (0 ≤ r ∧ r ≤ 1) ∧ mm_inv h2 ∧ mm_fr [(66, 0)] [] h h2 ∧ ((h.1 66 0 = 0 ∧ p1 = 0 ∧ r = 0 ∧ h2.1 66 0 = p2) ∨ (h.1 66 0 = 0 ∧ p1 ≠ 0 ∧ r = 1 ∧ h2.1 66 0 = 0) ∨ (h.1 66 0 ≠ 0 ∧ r = 0 ∧ h2.1 66 0 = h.1 66 0))) mm_nx 0 0 := by
  refine mm_ofW (ls := [mR 66, mI p1, mI p2]) hl (by decide) rfl (Nat.le_of_ble_eq_true rfl) ?_
  intro x hxl C T hnm htb
  subst hxl
  refine mm_rng (fun hr _ => ?_)
  have ap1 : -2147483648 ≤ p1 ∧ p1 < 2147483648 := mm_ok_at hr (i := 1) rfl
  have ap2 : -2147483648 ≤ p2 ∧ p2 < 2147483648 := mm_ok_at hr (i := 2) rfl
  have f0 : mm_fr [(66, 0)] [] h h := mm_fr_rf
  have g1 : -2147483648 ≤ h.1 66 0 ∧ h.1 66 0 ≤ 2147483647 := i0.1 66 0
  refine mm_aload_n C (mm_dec dk_X12_right 0 rfl) rfl ?_
  refine mm_geti C fl_X12_188 (mm_dec dk_X12_right 1 rfl) rfl rfl (Or.inl rfl) ?_
  have J16 : ∀ (h16_ : mH) (i16_ : mm_inv h16_) (f16_ : mm_fr [(66, 0)] [] h h16_) (w16_0 : ((h.1 66 0 = 0 ∧ p1 = 0 ∧ h16_.1 66 0 = p2) ∨ ((h.1 66 0 ≠ 0 ∨ p1 ≠ 0) ∧ h16_.1 66 0 = h.1 66 0))), mm_W x 0 0 16 [mR 66, mU, mU] [] h16_ := by
    intro h16_ i16_ f16_ w16_0
    have g2 : -2147483648 ≤ h16_.1 66 0 ∧ h16_.1 66 0 ≤ 2147483647 := i16_.1 66 0
    refine mm_aload_n C (mm_dec dk_X12_right 8 rfl) rfl ?_
    refine mm_geti C fl_X12_188 (mm_dec dk_X12_right 9 rfl) rfl rfl (Or.inl rfl) ?_
    have J28 : ∀ (s28_0 : Int) (bs28_0 : 0 ≤ s28_0 ∧ s28_0 ≤ 1) (w28_0 : ((h16_.1 66 0 = 0 ∧ s28_0 = 1) ∨ (h16_.1 66 0 ≠ 0 ∧ s28_0 = 0))) (vs28_0 : ((h16_.1 66 0) ≠ 0 ∧ s28_0 = 0) ∨ ((h16_.1 66 0) = 0 ∧ s28_0 = 1)), mm_W x 0 0 28 [mU, mU, mU] [mI s28_0] h16_ := by
      intro s28_0 bs28_0 w28_0 vs28_0
      have g3 : -2147483648 ≤ h16_.1 66 0 ∧ h16_.1 66 0 ≤ 2147483647 := i16_.1 66 0
      exact mm_zret C T (mm_dec dk_X12_right 14 rfl) (by decide : 0 ≤ 0) (by decide : 0 ≤ 0) (by omega) ⟨_, rfl, ⟨⟨by omega, by omega⟩, i16_, f16_, by omega⟩⟩
    refine mm_if_ne (tgt := 27) C (mm_dec dk_X12_right 10 rfl) (by decide) (fun c20 => ?_) (fun c20 => ?_)
    · skip
      refine mm_iconst C (mm_dec dk_X12_right 13 rfl) ⟨by decide, by decide⟩ ?_
      refine mm_fgt 0 ?_
      exact J28 0 ⟨by omega, by omega⟩ (by omega) (Or.inl ⟨by omega, rfl⟩)
    · skip
      refine mm_iconst C (mm_dec dk_X12_right 11 rfl) ⟨by decide, by decide⟩ ?_
      refine mm_goto (tgt := 28) C (mm_dec dk_X12_right 12 rfl) (by decide) ?_
      refine mm_fgt 0 ?_
      exact J28 1 ⟨by omega, by omega⟩ (by omega) (Or.inr (⟨by omega, rfl⟩))
  refine mm_if_ne (tgt := 16) C (mm_dec dk_X12_right 2 rfl) (by decide) (fun c4 => ?_) (fun c4 => ?_)
  · skip
    refine mm_fgt 1 ?_
    refine mm_fgt 2 ?_
    exact J16 h i0 f0 (by omega)
  · skip
    refine mm_iload_n C (mm_dec dk_X12_right 3 rfl) rfl ?_
    refine mm_if_ne (tgt := 16) C (mm_dec dk_X12_right 4 rfl) (by decide) (fun c8 => ?_) (fun c8 => ?_)
    · skip
      refine mm_fgt 1 ?_
      refine mm_fgt 2 ?_
      exact J16 h i0 f0 (by omega)
    · skip
      refine mm_aload_n C (mm_dec dk_X12_right 5 rfl) rfl ?_
      refine mm_iload_n C (mm_dec dk_X12_right 6 rfl) rfl ?_
      refine mm_puti C fl_X12_188 (mm_dec dk_X12_right 7 rfl) rfl rfl rfl (Or.inl ⟨rfl, rfl⟩) ?_
      have i1 : mm_inv (mm_pf h 66 0 p2) := mm_inv_pf i0 (show -2147483648 ≤ p2 ∧ p2 ≤ 2147483647 from ⟨by omega, by omega⟩) (by decide)
      have f1 : mm_fr [(66, 0)] [] h (mm_pf h 66 0 p2) := mm_fr_pf f0 (by decide)
      obtain ⟨h1, eh1⟩ : ∃ z, z = mm_pf h 66 0 p2 := ⟨_, rfl⟩
      rw [← eh1] at i1 f1 ⊢
      have qh1 : h1.1 66 0 = p2 := by rw [eh1]; exact mm_pf_same _ _ _ _
      refine mm_fgt 1 ?_
      refine mm_fgt 2 ?_
      exact J16 h1 i1 f1 (by omega)
set_option maxRecDepth 100000 in
set_option maxHeartbeats 4000000 in
theorem c_X12_anew_q (l : Launch) (hl : l.stackTraces = false) (d : Nat) (hd : 0 ≤ d) (h : mH) (i0 : mm_inv h) (p1 : Int) (p2 : Int) (bp1 : 1 ≤ p1 ∧ p1 ≤ 20) (bp2 : 1 ≤ p2 ∧ p2 ≤ 20) : mm_Met l d yX12_anew cX12_anew 4 none [mR 66, mI p1, mI p2] h (mm_pv fun h2 => mm_inv h2 ∧ mm_fr [(66, 1), (66, 2), (66, 3), (66, 9), (66, 10), (66, 11), (66, 12), (66, 19), (66, 21), (66, 22), (66, 23), (66, 24), (66, 40), (66, 41), (66, 58), (66, 67), (66, 82), (66, 95)] [67, 68, 69, 70, 71] h h2 ∧ h2.1 66 1 = p1 ∧ h2.1 66 2 = p2 ∧ h2.1 66 67 = 0 ∧ h2.1 66 22 = 0 ∧ h2.1 66 23 = 0 ∧ h2.1 66 41 = 0 ∧ h2.1 66 21 = 0 ∧ mm_al h2 67 399 0 ∧ mm_al h2 69 7 5 ∧ mm_al h2 68 399 0 ∧ mm_al h2 70 399 0 ∧ mm_al h2 71 399 0 ∧ h2.1 66 3 = 2 ∧ h2.1 66 9 = 0 ∧ h2.1 66 10 = 0 ∧ h2.1 66 24 = 0 ∧ h2.1 66 11 = 0 ∧ h2.1 66 12 = 0 ∧ h2.1 66 95 = 0) mm_nx 0 0 := by
  refine mm_ofW (ls := [mR 66, mI p1, mI p2, mU]) hl (by decide) rfl (Nat.le_of_ble_eq_true rfl) ?_
  intro x hxl C T hnm htb
  subst hxl
  refine mm_rng (fun hr _ => ?_)
  have ap1 : -2147483648 ≤ p1 ∧ p1 < 2147483648 := mm_ok_at hr (i := 1) rfl
  have ap2 : -2147483648 ≤ p2 ∧ p2 < 2147483648 := mm_ok_at hr (i := 2) rfl
  have f0 : mm_fr [(66, 1), (66, 2), (66, 3), (66, 9), (66, 10), (66, 11), (66, 12), (66, 19), (66, 21), (66, 22), (66, 23), (66, 24), (66, 40), (66, 41), (66, 58), (66, 67), (66, 82), (66, 95)] [67, 68, 69, 70, 71] h h := mm_fr_rf
  have g1 : 0 ≤ h.1 66 67 ∧ h.1 66 67 ≤ 1 := i0.1 66 67
  have g2 : 0 ≤ h.1 66 22 ∧ h.1 66 22 ≤ 8 := i0.1 66 22
  have g3 : 0 ≤ h.1 66 23 ∧ h.1 66 23 ≤ 40 := i0.1 66 23
  have g4 : 0 ≤ h.1 66 41 ∧ h.1 66 41 ≤ 99999 := i0.1 66 41
  have g5 : 1 ≤ h.1 66 1 ∧ h.1 66 1 ≤ 20 := i0.1 66 1
  have g6 : 1 ≤ h.1 66 2 ∧ h.1 66 2 ≤ 20 := i0.1 66 2
  have g7 : 0 ≤ h.1 66 21 ∧ h.1 66 21 ≤ 20 := i0.1 66 21
  have g8 : 0 ≤ h.1 66 3 ∧ h.1 66 3 ≤ 9 := i0.1 66 3
  have g9 : 0 ≤ h.1 66 9 ∧ h.1 66 9 ≤ 19 := i0.1 66 9
  have g10 : 0 ≤ h.1 66 10 ∧ h.1 66 10 ≤ 19 := i0.1 66 10
  have g11 : 0 ≤ h.1 66 24 ∧ h.1 66 24 ≤ 10 := i0.1 66 24
  have g12 : 0 ≤ h.1 66 11 ∧ h.1 66 11 ≤ 19 := i0.1 66 11
  have g13 : 0 ≤ h.1 66 12 ∧ h.1 66 12 ≤ 19 := i0.1 66 12
  have g14 : 0 ≤ h.1 66 95 ∧ h.1 66 95 ≤ 1 := i0.1 66 95
  refine mm_aload_n C (mm_dec dk_X12_anew 0 rfl) rfl ?_
  refine mm_iload_n C (mm_dec dk_X12_anew 1 rfl) rfl ?_
  refine mm_puti C fl_X12_192 (mm_dec dk_X12_anew 2 rfl) rfl rfl rfl (Or.inl ⟨rfl, rfl⟩) ?_
  have i1 : mm_inv (mm_pf h 66 1 p1) := mm_inv_pf i0 (show 1 ≤ p1 ∧ p1 ≤ 20 from ⟨by omega, by omega⟩) (by decide)
  have f1 : mm_fr [(66, 1), (66, 2), (66, 3), (66, 9), (66, 10), (66, 11), (66, 12), (66, 19), (66, 21), (66, 22), (66, 23), (66, 24), (66, 40), (66, 41), (66, 58), (66, 67), (66, 82), (66, 95)] [67, 68, 69, 70, 71] h (mm_pf h 66 1 p1) := mm_fr_pf f0 (by decide)
  obtain ⟨h1, eh1⟩ : ∃ z, z = mm_pf h 66 1 p1 := ⟨_, rfl⟩
  rw [← eh1] at i1 f1 ⊢
  have qh1 : h1.1 66 1 = p1 := by rw [eh1]; exact mm_pf_same _ _ _ _
  have qh1_15 : h1.1 66 2 = h.1 66 2 := by rw [eh1]; exact mm_pf_ne _ _ (by decide)
  have qh1_16 : h1.1 66 3 = h.1 66 3 := by rw [eh1]; exact mm_pf_ne _ _ (by decide)
  have qh1_17 : h1.1 66 9 = h.1 66 9 := by rw [eh1]; exact mm_pf_ne _ _ (by decide)
  have qh1_18 : h1.1 66 10 = h.1 66 10 := by rw [eh1]; exact mm_pf_ne _ _ (by decide)
  have qh1_19 : h1.1 66 11 = h.1 66 11 := by rw [eh1]; exact mm_pf_ne _ _ (by decide)
  have qh1_20 : h1.1 66 12 = h.1 66 12 := by rw [eh1]; exact mm_pf_ne _ _ (by decide)
  have qh1_21 : h1.1 66 21 = h.1 66 21 := by rw [eh1]; exact mm_pf_ne _ _ (by decide)
  have qh1_22 : h1.1 66 22 = h.1 66 22 := by rw [eh1]; exact mm_pf_ne _ _ (by decide)
  have qh1_23 : h1.1 66 23 = h.1 66 23 := by rw [eh1]; exact mm_pf_ne _ _ (by decide)
  have qh1_24 : h1.1 66 24 = h.1 66 24 := by rw [eh1]; exact mm_pf_ne _ _ (by decide)
  have qh1_25 : h1.1 66 41 = h.1 66 41 := by rw [eh1]; exact mm_pf_ne _ _ (by decide)
  have qh1_26 : h1.1 66 67 = h.1 66 67 := by rw [eh1]; exact mm_pf_ne _ _ (by decide)
  have qh1_27 : h1.1 66 95 = h.1 66 95 := by rw [eh1]; exact mm_pf_ne _ _ (by decide)
  refine mm_aload_n C (mm_dec dk_X12_anew 3 rfl) rfl ?_
  refine mm_iload_n C (mm_dec dk_X12_anew 4 rfl) rfl ?_
  refine mm_puti C fl_X12_195 (mm_dec dk_X12_anew 5 rfl) rfl rfl rfl (Or.inl ⟨rfl, rfl⟩) ?_
  have i2 : mm_inv (mm_pf h1 66 2 p2) := mm_inv_pf i1 (show 1 ≤ p2 ∧ p2 ≤ 20 from ⟨by omega, by omega⟩) (by decide)
  have f2 : mm_fr [(66, 1), (66, 2), (66, 3), (66, 9), (66, 10), (66, 11), (66, 12), (66, 19), (66, 21), (66, 22), (66, 23), (66, 24), (66, 40), (66, 41), (66, 58), (66, 67), (66, 82), (66, 95)] [67, 68, 69, 70, 71] h (mm_pf h1 66 2 p2) := mm_fr_pf f1 (by decide)
  obtain ⟨h2, eh2⟩ : ∃ z, z = mm_pf h1 66 2 p2 := ⟨_, rfl⟩
  rw [← eh2] at i2 f2 ⊢
  have qh2 : h2.1 66 2 = p2 := by rw [eh2]; exact mm_pf_same _ _ _ _
  have qh2_28 : h2.1 66 1 = h1.1 66 1 := by rw [eh2]; exact mm_pf_ne _ _ (by decide)
  have qh2_29 : h2.1 66 3 = h1.1 66 3 := by rw [eh2]; exact mm_pf_ne _ _ (by decide)
  have qh2_30 : h2.1 66 9 = h1.1 66 9 := by rw [eh2]; exact mm_pf_ne _ _ (by decide)
  have qh2_31 : h2.1 66 10 = h1.1 66 10 := by rw [eh2]; exact mm_pf_ne _ _ (by decide)
  have qh2_32 : h2.1 66 11 = h1.1 66 11 := by rw [eh2]; exact mm_pf_ne _ _ (by decide)
  have qh2_33 : h2.1 66 12 = h1.1 66 12 := by rw [eh2]; exact mm_pf_ne _ _ (by decide)
  have qh2_34 : h2.1 66 21 = h1.1 66 21 := by rw [eh2]; exact mm_pf_ne _ _ (by decide)
  have qh2_35 : h2.1 66 22 = h1.1 66 22 := by rw [eh2]; exact mm_pf_ne _ _ (by decide)
  have qh2_36 : h2.1 66 23 = h1.1 66 23 := by rw [eh2]; exact mm_pf_ne _ _ (by decide)
  have qh2_37 : h2.1 66 24 = h1.1 66 24 := by rw [eh2]; exact mm_pf_ne _ _ (by decide)
  have qh2_38 : h2.1 66 41 = h1.1 66 41 := by rw [eh2]; exact mm_pf_ne _ _ (by decide)
  have qh2_39 : h2.1 66 67 = h1.1 66 67 := by rw [eh2]; exact mm_pf_ne _ _ (by decide)
  have qh2_40 : h2.1 66 95 = h1.1 66 95 := by rw [eh2]; exact mm_pf_ne _ _ (by decide)
  refine mm_aload_n C (mm_dec dk_X12_anew 6 rfl) rfl ?_
  refine mm_iconst C (mm_dec dk_X12_anew 7 rfl) ⟨by decide, by decide⟩ ?_
  refine mm_puti C fl_X12_198 (mm_dec dk_X12_anew 8 rfl) rfl rfl rfl (Or.inl ⟨rfl, rfl⟩) ?_
  have i3 : mm_inv (mm_pf h2 66 3 2) := mm_inv_pf i2 (show 0 ≤ 2 ∧ 2 ≤ 9 from ⟨by omega, by omega⟩) (by decide)
  have f3 : mm_fr [(66, 1), (66, 2), (66, 3), (66, 9), (66, 10), (66, 11), (66, 12), (66, 19), (66, 21), (66, 22), (66, 23), (66, 24), (66, 40), (66, 41), (66, 58), (66, 67), (66, 82), (66, 95)] [67, 68, 69, 70, 71] h (mm_pf h2 66 3 2) := mm_fr_pf f2 (by decide)
  obtain ⟨h3, eh3⟩ : ∃ z, z = mm_pf h2 66 3 2 := ⟨_, rfl⟩
  rw [← eh3] at i3 f3 ⊢
  have qh3 : h3.1 66 3 = 2 := by rw [eh3]; exact mm_pf_same _ _ _ _
  have qh3_41 : h3.1 66 1 = h2.1 66 1 := by rw [eh3]; exact mm_pf_ne _ _ (by decide)
  have qh3_42 : h3.1 66 2 = h2.1 66 2 := by rw [eh3]; exact mm_pf_ne _ _ (by decide)
  have qh3_43 : h3.1 66 9 = h2.1 66 9 := by rw [eh3]; exact mm_pf_ne _ _ (by decide)
  have qh3_44 : h3.1 66 10 = h2.1 66 10 := by rw [eh3]; exact mm_pf_ne _ _ (by decide)
  have qh3_45 : h3.1 66 11 = h2.1 66 11 := by rw [eh3]; exact mm_pf_ne _ _ (by decide)
  have qh3_46 : h3.1 66 12 = h2.1 66 12 := by rw [eh3]; exact mm_pf_ne _ _ (by decide)
  have qh3_47 : h3.1 66 21 = h2.1 66 21 := by rw [eh3]; exact mm_pf_ne _ _ (by decide)
  have qh3_48 : h3.1 66 22 = h2.1 66 22 := by rw [eh3]; exact mm_pf_ne _ _ (by decide)
  have qh3_49 : h3.1 66 23 = h2.1 66 23 := by rw [eh3]; exact mm_pf_ne _ _ (by decide)
  have qh3_50 : h3.1 66 24 = h2.1 66 24 := by rw [eh3]; exact mm_pf_ne _ _ (by decide)
  have qh3_51 : h3.1 66 41 = h2.1 66 41 := by rw [eh3]; exact mm_pf_ne _ _ (by decide)
  have qh3_52 : h3.1 66 67 = h2.1 66 67 := by rw [eh3]; exact mm_pf_ne _ _ (by decide)
  have qh3_53 : h3.1 66 95 = h2.1 66 95 := by rw [eh3]; exact mm_pf_ne _ _ (by decide)
  refine mm_iconst C (mm_dec dk_X12_anew 9 rfl) ⟨by decide, by decide⟩ ?_
  have J17 : ∀ (n : Nat) (x17_3 : Int) (bx17_3 : 0 ≤ x17_3 ∧ x17_3 ≤ 400) (h17_ : mH) (i17_ : mm_inv h17_) (f17_ : mm_fr [(66, 1), (66, 2), (66, 3), (66, 9), (66, 10), (66, 11), (66, 12), (66, 19), (66, 21), (66, 22), (66, 23), (66, 24), (66, 40), (66, 41), (66, 58), (66, 67), (66, 82), (66, 95)] [67, 68, 69, 70, 71] h h17_) (w17_0 : mm_al h17_ 67 (x17_3 - 1) 0) (w17_1 : mm_al h17_ 68 (x17_3 - 1) 0) (w17_2 : mm_al h17_ 70 (x17_3 - 1) 0) (w17_3 : mm_al h17_ 71 (x17_3 - 1) 0) (w17_4 : h17_.1 66 3 = 2) (w17_5 : h17_.1 66 1 = p1) (w17_6 : h17_.1 66 2 = p2), (400 - x17_3 : Int) < n → mm_W x 0 0 17 [mR 66, mU, mU, mI x17_3] [] h17_ := by
    intro n
    induction n with
    | zero =>
      intro x17_3 bx17_3 h17_ i17_ f17_ w17_0 w17_1 w17_2 w17_3 w17_4 w17_5 w17_6 hm
      have g54 : 0 ≤ h17_.1 66 67 ∧ h17_.1 66 67 ≤ 1 := i17_.1 66 67
      have g55 : 0 ≤ h17_.1 66 22 ∧ h17_.1 66 22 ≤ 8 := i17_.1 66 22
      have g56 : 0 ≤ h17_.1 66 23 ∧ h17_.1 66 23 ≤ 40 := i17_.1 66 23
      have g57 : 0 ≤ h17_.1 66 41 ∧ h17_.1 66 41 ≤ 99999 := i17_.1 66 41
      have g58 : 1 ≤ h17_.1 66 1 ∧ h17_.1 66 1 ≤ 20 := i17_.1 66 1
      have g59 : 1 ≤ h17_.1 66 2 ∧ h17_.1 66 2 ≤ 20 := i17_.1 66 2
      have g60 : 0 ≤ h17_.1 66 21 ∧ h17_.1 66 21 ≤ 20 := i17_.1 66 21
      have g61 : 0 ≤ h17_.1 66 3 ∧ h17_.1 66 3 ≤ 9 := i17_.1 66 3
      have g62 : 0 ≤ h17_.1 66 9 ∧ h17_.1 66 9 ≤ 19 := i17_.1 66 9
      have g63 : 0 ≤ h17_.1 66 10 ∧ h17_.1 66 10 ≤ 19 := i17_.1 66 10
      have g64 : 0 ≤ h17_.1 66 24 ∧ h17_.1 66 24 ≤ 10 := i17_.1 66 24
      have g65 : 0 ≤ h17_.1 66 11 ∧ h17_.1 66 11 ≤ 19 := i17_.1 66 11
      have g66 : 0 ≤ h17_.1 66 12 ∧ h17_.1 66 12 ≤ 19 := i17_.1 66 12
      have g67 : 0 ≤ h17_.1 66 95 ∧ h17_.1 66 95 ≤ 1 := i17_.1 66 95
      exfalso; omega
    | succ n ih17 =>
      intro x17_3 bx17_3 h17_ i17_ f17_ w17_0 w17_1 w17_2 w17_3 w17_4 w17_5 w17_6 hm17
      have g68 : 0 ≤ h17_.1 66 67 ∧ h17_.1 66 67 ≤ 1 := i17_.1 66 67
      have g69 : 0 ≤ h17_.1 66 22 ∧ h17_.1 66 22 ≤ 8 := i17_.1 66 22
      have g70 : 0 ≤ h17_.1 66 23 ∧ h17_.1 66 23 ≤ 40 := i17_.1 66 23
      have g71 : 0 ≤ h17_.1 66 41 ∧ h17_.1 66 41 ≤ 99999 := i17_.1 66 41
      have g72 : 1 ≤ h17_.1 66 1 ∧ h17_.1 66 1 ≤ 20 := i17_.1 66 1
      have g73 : 1 ≤ h17_.1 66 2 ∧ h17_.1 66 2 ≤ 20 := i17_.1 66 2
      have g74 : 0 ≤ h17_.1 66 21 ∧ h17_.1 66 21 ≤ 20 := i17_.1 66 21
      have g75 : 0 ≤ h17_.1 66 3 ∧ h17_.1 66 3 ≤ 9 := i17_.1 66 3
      have g76 : 0 ≤ h17_.1 66 9 ∧ h17_.1 66 9 ≤ 19 := i17_.1 66 9
      have g77 : 0 ≤ h17_.1 66 10 ∧ h17_.1 66 10 ≤ 19 := i17_.1 66 10
      have g78 : 0 ≤ h17_.1 66 24 ∧ h17_.1 66 24 ≤ 10 := i17_.1 66 24
      have g79 : 0 ≤ h17_.1 66 11 ∧ h17_.1 66 11 ≤ 19 := i17_.1 66 11
      have g80 : 0 ≤ h17_.1 66 12 ∧ h17_.1 66 12 ≤ 19 := i17_.1 66 12
      have g81 : 0 ≤ h17_.1 66 95 ∧ h17_.1 66 95 ≤ 1 := i17_.1 66 95
      refine mm_iload_n C (mm_dec dk_X12_anew 11 rfl) rfl ?_
      refine mm_sipush C (mm_dec dk_X12_anew 12 rfl) ⟨by decide, by decide⟩ ?_
      refine mm_icmp_ge (tgt := 58) C (mm_dec dk_X12_anew 13 rfl) (by decide) (fun c21 => ?_) (fun c21 => ?_)
      · skip
        refine mm_iconst C (mm_dec dk_X12_anew 36 rfl) ⟨by decide, by decide⟩ ?_
        have J60 : ∀ (n : Nat) (x60_3 : Int) (bx60_3 : 0 ≤ x60_3 ∧ x60_3 ≤ 8) (h60_ : mH) (i60_ : mm_inv h60_) (f60_ : mm_fr [(66, 1), (66, 2), (66, 3), (66, 9), (66, 10), (66, 11), (66, 12), (66, 19), (66, 21), (66, 22), (66, 23), (66, 24), (66, 40), (66, 41), (66, 58), (66, 67), (66, 82), (66, 95)] [67, 68, 69, 70, 71] h h60_) (w60_0 : mm_al h60_ 67 399 0) (w60_1 : mm_al h60_ 69 (x60_3 - 1) 5) (w60_2 : mm_al h60_ 68 399 0) (w60_3 : mm_al h60_ 70 399 0) (w60_4 : mm_al h60_ 71 399 0) (w60_5 : h60_.1 66 3 = 2) (w60_6 : h60_.1 66 1 = p1) (w60_7 : h60_.1 66 2 = p2), (8 - x60_3 : Int) < n → mm_W x 0 0 60 [mR 66, mU, mU, mI x60_3] [] h60_ := by
          intro n
          induction n with
          | zero =>
            intro x60_3 bx60_3 h60_ i60_ f60_ w60_0 w60_1 w60_2 w60_3 w60_4 w60_5 w60_6 w60_7 hm
            have g82 : 0 ≤ h60_.1 66 67 ∧ h60_.1 66 67 ≤ 1 := i60_.1 66 67
            have g83 : 0 ≤ h60_.1 66 22 ∧ h60_.1 66 22 ≤ 8 := i60_.1 66 22
            have g84 : 0 ≤ h60_.1 66 23 ∧ h60_.1 66 23 ≤ 40 := i60_.1 66 23
            have g85 : 0 ≤ h60_.1 66 41 ∧ h60_.1 66 41 ≤ 99999 := i60_.1 66 41
            have g86 : 1 ≤ h60_.1 66 1 ∧ h60_.1 66 1 ≤ 20 := i60_.1 66 1
            have g87 : 1 ≤ h60_.1 66 2 ∧ h60_.1 66 2 ≤ 20 := i60_.1 66 2
            have g88 : 0 ≤ h60_.1 66 21 ∧ h60_.1 66 21 ≤ 20 := i60_.1 66 21
            have g89 : 0 ≤ h60_.1 66 3 ∧ h60_.1 66 3 ≤ 9 := i60_.1 66 3
            have g90 : 0 ≤ h60_.1 66 9 ∧ h60_.1 66 9 ≤ 19 := i60_.1 66 9
            have g91 : 0 ≤ h60_.1 66 10 ∧ h60_.1 66 10 ≤ 19 := i60_.1 66 10
            have g92 : 0 ≤ h60_.1 66 24 ∧ h60_.1 66 24 ≤ 10 := i60_.1 66 24
            have g93 : 0 ≤ h60_.1 66 11 ∧ h60_.1 66 11 ≤ 19 := i60_.1 66 11
            have g94 : 0 ≤ h60_.1 66 12 ∧ h60_.1 66 12 ≤ 19 := i60_.1 66 12
            have g95 : 0 ≤ h60_.1 66 95 ∧ h60_.1 66 95 ≤ 1 := i60_.1 66 95
            exfalso; omega
          | succ n ih60 =>
            intro x60_3 bx60_3 h60_ i60_ f60_ w60_0 w60_1 w60_2 w60_3 w60_4 w60_5 w60_6 w60_7 hm60
            have g96 : 0 ≤ h60_.1 66 67 ∧ h60_.1 66 67 ≤ 1 := i60_.1 66 67
            have g97 : 0 ≤ h60_.1 66 22 ∧ h60_.1 66 22 ≤ 8 := i60_.1 66 22
            have g98 : 0 ≤ h60_.1 66 23 ∧ h60_.1 66 23 ≤ 40 := i60_.1 66 23
            have g99 : 0 ≤ h60_.1 66 41 ∧ h60_.1 66 41 ≤ 99999 := i60_.1 66 41
            have g100 : 1 ≤ h60_.1 66 1 ∧ h60_.1 66 1 ≤ 20 := i60_.1 66 1
            have g101 : 1 ≤ h60_.1 66 2 ∧ h60_.1 66 2 ≤ 20 := i60_.1 66 2
            have g102 : 0 ≤ h60_.1 66 21 ∧ h60_.1 66 21 ≤ 20 := i60_.1 66 21
            have g103 : 0 ≤ h60_.1 66 3 ∧ h60_.1 66 3 ≤ 9 := i60_.1 66 3
            have g104 : 0 ≤ h60_.1 66 9 ∧ h60_.1 66 9 ≤ 19 := i60_.1 66 9
            have g105 : 0 ≤ h60_.1 66 10 ∧ h60_.1 66 10 ≤ 19 := i60_.1 66 10
            have g106 : 0 ≤ h60_.1 66 24 ∧ h60_.1 66 24 ≤ 10 := i60_.1 66 24
            have g107 : 0 ≤ h60_.1 66 11 ∧ h60_.1 66 11 ≤ 19 := i60_.1 66 11
            have g108 : 0 ≤ h60_.1 66 12 ∧ h60_.1 66 12 ≤ 19 := i60_.1 66 12
            have g109 : 0 ≤ h60_.1 66 95 ∧ h60_.1 66 95 ≤ 1 := i60_.1 66 95
            refine mm_iload_n C (mm_dec dk_X12_anew 38 rfl) rfl ?_
            refine mm_bipush C (mm_dec dk_X12_anew 39 rfl) ⟨by decide, by decide⟩ ?_
            refine mm_icmp_ge (tgt := 79) C (mm_dec dk_X12_anew 40 rfl) (by decide) (fun c63 => ?_) (fun c63 => ?_)
            · skip
              refine mm_aload_n C (mm_dec dk_X12_anew 48 rfl) rfl ?_
              refine mm_iconst C (mm_dec dk_X12_anew 49 rfl) ⟨by decide, by decide⟩ ?_
              refine mm_puti C fl_X12_201 (mm_dec dk_X12_anew 50 rfl) rfl rfl rfl (Or.inl ⟨rfl, rfl⟩) ?_
              have i4 : mm_inv (mm_pf h60_ 66 9 0) := mm_inv_pf i60_ (show 0 ≤ 0 ∧ 0 ≤ 19 from ⟨by omega, by omega⟩) (by decide)
              have f4 : mm_fr [(66, 1), (66, 2), (66, 3), (66, 9), (66, 10), (66, 11), (66, 12), (66, 19), (66, 21), (66, 22), (66, 23), (66, 24), (66, 40), (66, 41), (66, 58), (66, 67), (66, 82), (66, 95)] [67, 68, 69, 70, 71] h (mm_pf h60_ 66 9 0) := mm_fr_pf f60_ (by decide)
              obtain ⟨h4, eh4⟩ : ∃ z, z = mm_pf h60_ 66 9 0 := ⟨_, rfl⟩
              rw [← eh4] at i4 f4 ⊢
              have qh4 : h4.1 66 9 = 0 := by rw [eh4]; exact mm_pf_same _ _ _ _
              have qh4_110 : h4.1 66 1 = h60_.1 66 1 := by rw [eh4]; exact mm_pf_ne _ _ (by decide)
              have qh4_111 : h4.1 66 2 = h60_.1 66 2 := by rw [eh4]; exact mm_pf_ne _ _ (by decide)
              have qh4_112 : h4.1 66 3 = h60_.1 66 3 := by rw [eh4]; exact mm_pf_ne _ _ (by decide)
              have qh4_113 : h4.1 66 10 = h60_.1 66 10 := by rw [eh4]; exact mm_pf_ne _ _ (by decide)
              have qh4_114 : h4.1 66 11 = h60_.1 66 11 := by rw [eh4]; exact mm_pf_ne _ _ (by decide)
              have qh4_115 : h4.1 66 12 = h60_.1 66 12 := by rw [eh4]; exact mm_pf_ne _ _ (by decide)
              have qh4_116 : h4.1 66 21 = h60_.1 66 21 := by rw [eh4]; exact mm_pf_ne _ _ (by decide)
              have qh4_117 : h4.1 66 22 = h60_.1 66 22 := by rw [eh4]; exact mm_pf_ne _ _ (by decide)
              have qh4_118 : h4.1 66 23 = h60_.1 66 23 := by rw [eh4]; exact mm_pf_ne _ _ (by decide)
              have qh4_119 : h4.1 66 24 = h60_.1 66 24 := by rw [eh4]; exact mm_pf_ne _ _ (by decide)
              have qh4_120 : h4.1 66 41 = h60_.1 66 41 := by rw [eh4]; exact mm_pf_ne _ _ (by decide)
              have qh4_121 : h4.1 66 67 = h60_.1 66 67 := by rw [eh4]; exact mm_pf_ne _ _ (by decide)
              have qh4_122 : h4.1 66 95 = h60_.1 66 95 := by rw [eh4]; exact mm_pf_ne _ _ (by decide)
              refine mm_aload_n C (mm_dec dk_X12_anew 51 rfl) rfl ?_
              refine mm_iconst C (mm_dec dk_X12_anew 52 rfl) ⟨by decide, by decide⟩ ?_
              refine mm_puti C fl_X12_204 (mm_dec dk_X12_anew 53 rfl) rfl rfl rfl (Or.inl ⟨rfl, rfl⟩) ?_
              have i5 : mm_inv (mm_pf h4 66 10 0) := mm_inv_pf i4 (show 0 ≤ 0 ∧ 0 ≤ 19 from ⟨by omega, by omega⟩) (by decide)
              have f5 : mm_fr [(66, 1), (66, 2), (66, 3), (66, 9), (66, 10), (66, 11), (66, 12), (66, 19), (66, 21), (66, 22), (66, 23), (66, 24), (66, 40), (66, 41), (66, 58), (66, 67), (66, 82), (66, 95)] [67, 68, 69, 70, 71] h (mm_pf h4 66 10 0) := mm_fr_pf f4 (by decide)
              obtain ⟨h5, eh5⟩ : ∃ z, z = mm_pf h4 66 10 0 := ⟨_, rfl⟩
              rw [← eh5] at i5 f5 ⊢
              have qh5 : h5.1 66 10 = 0 := by rw [eh5]; exact mm_pf_same _ _ _ _
              have qh5_123 : h5.1 66 1 = h4.1 66 1 := by rw [eh5]; exact mm_pf_ne _ _ (by decide)
              have qh5_124 : h5.1 66 2 = h4.1 66 2 := by rw [eh5]; exact mm_pf_ne _ _ (by decide)
              have qh5_125 : h5.1 66 3 = h4.1 66 3 := by rw [eh5]; exact mm_pf_ne _ _ (by decide)
              have qh5_126 : h5.1 66 9 = h4.1 66 9 := by rw [eh5]; exact mm_pf_ne _ _ (by decide)
              have qh5_127 : h5.1 66 11 = h4.1 66 11 := by rw [eh5]; exact mm_pf_ne _ _ (by decide)
              have qh5_128 : h5.1 66 12 = h4.1 66 12 := by rw [eh5]; exact mm_pf_ne _ _ (by decide)
              have qh5_129 : h5.1 66 21 = h4.1 66 21 := by rw [eh5]; exact mm_pf_ne _ _ (by decide)
              have qh5_130 : h5.1 66 22 = h4.1 66 22 := by rw [eh5]; exact mm_pf_ne _ _ (by decide)
              have qh5_131 : h5.1 66 23 = h4.1 66 23 := by rw [eh5]; exact mm_pf_ne _ _ (by decide)
              have qh5_132 : h5.1 66 24 = h4.1 66 24 := by rw [eh5]; exact mm_pf_ne _ _ (by decide)
              have qh5_133 : h5.1 66 41 = h4.1 66 41 := by rw [eh5]; exact mm_pf_ne _ _ (by decide)
              have qh5_134 : h5.1 66 67 = h4.1 66 67 := by rw [eh5]; exact mm_pf_ne _ _ (by decide)
              have qh5_135 : h5.1 66 95 = h4.1 66 95 := by rw [eh5]; exact mm_pf_ne _ _ (by decide)
              refine mm_aload_n C (mm_dec dk_X12_anew 54 rfl) rfl ?_
              refine mm_iconst C (mm_dec dk_X12_anew 55 rfl) ⟨by decide, by decide⟩ ?_
              refine mm_puti C fl_X12_207 (mm_dec dk_X12_anew 56 rfl) rfl rfl rfl (Or.inl ⟨rfl, rfl⟩) ?_
              have i6 : mm_inv (mm_pf h5 66 11 0) := mm_inv_pf i5 (show 0 ≤ 0 ∧ 0 ≤ 19 from ⟨by omega, by omega⟩) (by decide)
              have f6 : mm_fr [(66, 1), (66, 2), (66, 3), (66, 9), (66, 10), (66, 11), (66, 12), (66, 19), (66, 21), (66, 22), (66, 23), (66, 24), (66, 40), (66, 41), (66, 58), (66, 67), (66, 82), (66, 95)] [67, 68, 69, 70, 71] h (mm_pf h5 66 11 0) := mm_fr_pf f5 (by decide)
              obtain ⟨h6, eh6⟩ : ∃ z, z = mm_pf h5 66 11 0 := ⟨_, rfl⟩
              rw [← eh6] at i6 f6 ⊢
              have qh6 : h6.1 66 11 = 0 := by rw [eh6]; exact mm_pf_same _ _ _ _
              have qh6_136 : h6.1 66 1 = h5.1 66 1 := by rw [eh6]; exact mm_pf_ne _ _ (by decide)
              have qh6_137 : h6.1 66 2 = h5.1 66 2 := by rw [eh6]; exact mm_pf_ne _ _ (by decide)
              have qh6_138 : h6.1 66 3 = h5.1 66 3 := by rw [eh6]; exact mm_pf_ne _ _ (by decide)
              have qh6_139 : h6.1 66 9 = h5.1 66 9 := by rw [eh6]; exact mm_pf_ne _ _ (by decide)
              have qh6_140 : h6.1 66 10 = h5.1 66 10 := by rw [eh6]; exact mm_pf_ne _ _ (by decide)
              have qh6_141 : h6.1 66 12 = h5.1 66 12 := by rw [eh6]; exact mm_pf_ne _ _ (by decide)
              have qh6_142 : h6.1 66 21 = h5.1 66 21 := by rw [eh6]; exact mm_pf_ne _ _ (by decide)
              have qh6_143 : h6.1 66 22 = h5.1 66 22 := by rw [eh6]; exact mm_pf_ne _ _ (by decide)
              have qh6_144 : h6.1 66 23 = h5.1 66 23 := by rw [eh6]; exact mm_pf_ne _ _ (by decide)
              have qh6_145 : h6.1 66 24 = h5.1 66 24 := by rw [eh6]; exact mm_pf_ne _ _ (by decide)
              have qh6_146 : h6.1 66 41 = h5.1 66 41 := by rw [eh6]; exact mm_pf_ne _ _ (by decide)
              have qh6_147 : h6.1 66 67 = h5.1 66 67 := by rw [eh6]; exact mm_pf_ne _ _ (by decide)
              have qh6_148 : h6.1 66 95 = h5.1 66 95 := by rw [eh6]; exact mm_pf_ne _ _ (by decide)
              refine mm_aload_n C (mm_dec dk_X12_anew 57 rfl) rfl ?_
              refine mm_iconst C (mm_dec dk_X12_anew 58 rfl) ⟨by decide, by decide⟩ ?_
              refine mm_puti C fl_X12_210 (mm_dec dk_X12_anew 59 rfl) rfl rfl rfl (Or.inl ⟨rfl, rfl⟩) ?_
              have i7 : mm_inv (mm_pf h6 66 12 0) := mm_inv_pf i6 (show 0 ≤ 0 ∧ 0 ≤ 19 from ⟨by omega, by omega⟩) (by decide)
              have f7 : mm_fr [(66, 1), (66, 2), (66, 3), (66, 9), (66, 10), (66, 11), (66, 12), (66, 19), (66, 21), (66, 22), (66, 23), (66, 24), (66, 40), (66, 41), (66, 58), (66, 67), (66, 82), (66, 95)] [67, 68, 69, 70, 71] h (mm_pf h6 66 12 0) := mm_fr_pf f6 (by decide)
              obtain ⟨h7, eh7⟩ : ∃ z, z = mm_pf h6 66 12 0 := ⟨_, rfl⟩
              rw [← eh7] at i7 f7 ⊢
              have qh7 : h7.1 66 12 = 0 := by rw [eh7]; exact mm_pf_same _ _ _ _
              have qh7_149 : h7.1 66 1 = h6.1 66 1 := by rw [eh7]; exact mm_pf_ne _ _ (by decide)
              have qh7_150 : h7.1 66 2 = h6.1 66 2 := by rw [eh7]; exact mm_pf_ne _ _ (by decide)
              have qh7_151 : h7.1 66 3 = h6.1 66 3 := by rw [eh7]; exact mm_pf_ne _ _ (by decide)
              have qh7_152 : h7.1 66 9 = h6.1 66 9 := by rw [eh7]; exact mm_pf_ne _ _ (by decide)
              have qh7_153 : h7.1 66 10 = h6.1 66 10 := by rw [eh7]; exact mm_pf_ne _ _ (by decide)
              have qh7_154 : h7.1 66 11 = h6.1 66 11 := by rw [eh7]; exact mm_pf_ne _ _ (by decide)
              have qh7_155 : h7.1 66 21 = h6.1 66 21 := by rw [eh7]; exact mm_pf_ne _ _ (by decide)
              have qh7_156 : h7.1 66 22 = h6.1 66 22 := by rw [eh7]; exact mm_pf_ne _ _ (by decide)
              have qh7_157 : h7.1 66 23 = h6.1 66 23 := by rw [eh7]; exact mm_pf_ne _ _ (by decide)
              have qh7_158 : h7.1 66 24 = h6.1 66 24 := by rw [eh7]; exact mm_pf_ne _ _ (by decide)
              have qh7_159 : h7.1 66 41 = h6.1 66 41 := by rw [eh7]; exact mm_pf_ne _ _ (by decide)
              have qh7_160 : h7.1 66 67 = h6.1 66 67 := by rw [eh7]; exact mm_pf_ne _ _ (by decide)
              have qh7_161 : h7.1 66 95 = h6.1 66 95 := by rw [eh7]; exact mm_pf_ne _ _ (by decide)
              refine mm_aload_n C (mm_dec dk_X12_anew 60 rfl) rfl ?_
              refine mm_iconst C (mm_dec dk_X12_anew 61 rfl) ⟨by decide, by decide⟩ ?_
              refine mm_puti C fl_X12_213 (mm_dec dk_X12_anew 62 rfl) rfl rfl rfl (Or.inl ⟨rfl, rfl⟩) ?_
              have i8 : mm_inv (mm_pf h7 66 19 (-1)) := mm_inv_pf i7 (show -1 ≤ (-1) ∧ (-1) ≤ 400 from ⟨by omega, by omega⟩) (by decide)
              have f8 : mm_fr [(66, 1), (66, 2), (66, 3), (66, 9), (66, 10), (66, 11), (66, 12), (66, 19), (66, 21), (66, 22), (66, 23), (66, 24), (66, 40), (66, 41), (66, 58), (66, 67), (66, 82), (66, 95)] [67, 68, 69, 70, 71] h (mm_pf h7 66 19 (-1)) := mm_fr_pf f7 (by decide)
              obtain ⟨h8, eh8⟩ : ∃ z, z = mm_pf h7 66 19 (-1) := ⟨_, rfl⟩
              rw [← eh8] at i8 f8 ⊢
              have qh8 : h8.1 66 19 = (-1) := by rw [eh8]; exact mm_pf_same _ _ _ _
              have qh8_162 : h8.1 66 1 = h7.1 66 1 := by rw [eh8]; exact mm_pf_ne _ _ (by decide)
              have qh8_163 : h8.1 66 2 = h7.1 66 2 := by rw [eh8]; exact mm_pf_ne _ _ (by decide)
              have qh8_164 : h8.1 66 3 = h7.1 66 3 := by rw [eh8]; exact mm_pf_ne _ _ (by decide)
              have qh8_165 : h8.1 66 9 = h7.1 66 9 := by rw [eh8]; exact mm_pf_ne _ _ (by decide)
              have qh8_166 : h8.1 66 10 = h7.1 66 10 := by rw [eh8]; exact mm_pf_ne _ _ (by decide)
              have qh8_167 : h8.1 66 11 = h7.1 66 11 := by rw [eh8]; exact mm_pf_ne _ _ (by decide)
              have qh8_168 : h8.1 66 12 = h7.1 66 12 := by rw [eh8]; exact mm_pf_ne _ _ (by decide)
              have qh8_169 : h8.1 66 21 = h7.1 66 21 := by rw [eh8]; exact mm_pf_ne _ _ (by decide)
              have qh8_170 : h8.1 66 22 = h7.1 66 22 := by rw [eh8]; exact mm_pf_ne _ _ (by decide)
              have qh8_171 : h8.1 66 23 = h7.1 66 23 := by rw [eh8]; exact mm_pf_ne _ _ (by decide)
              have qh8_172 : h8.1 66 24 = h7.1 66 24 := by rw [eh8]; exact mm_pf_ne _ _ (by decide)
              have qh8_173 : h8.1 66 41 = h7.1 66 41 := by rw [eh8]; exact mm_pf_ne _ _ (by decide)
              have qh8_174 : h8.1 66 67 = h7.1 66 67 := by rw [eh8]; exact mm_pf_ne _ _ (by decide)
              have qh8_175 : h8.1 66 95 = h7.1 66 95 := by rw [eh8]; exact mm_pf_ne _ _ (by decide)
              refine mm_aload_n C (mm_dec dk_X12_anew 63 rfl) rfl ?_
              refine mm_iconst C (mm_dec dk_X12_anew 64 rfl) ⟨by decide, by decide⟩ ?_
              refine mm_puti C fl_X12_216 (mm_dec dk_X12_anew 65 rfl) rfl rfl rfl (Or.inl ⟨rfl, rfl⟩) ?_
              have i9 : mm_inv (mm_pf h8 66 21 0) := mm_inv_pf i8 (show 0 ≤ 0 ∧ 0 ≤ 20 from ⟨by omega, by omega⟩) (by decide)
              have f9 : mm_fr [(66, 1), (66, 2), (66, 3), (66, 9), (66, 10), (66, 11), (66, 12), (66, 19), (66, 21), (66, 22), (66, 23), (66, 24), (66, 40), (66, 41), (66, 58), (66, 67), (66, 82), (66, 95)] [67, 68, 69, 70, 71] h (mm_pf h8 66 21 0) := mm_fr_pf f8 (by decide)
              obtain ⟨h9, eh9⟩ : ∃ z, z = mm_pf h8 66 21 0 := ⟨_, rfl⟩
              rw [← eh9] at i9 f9 ⊢
              have qh9 : h9.1 66 21 = 0 := by rw [eh9]; exact mm_pf_same _ _ _ _
              have qh9_176 : h9.1 66 1 = h8.1 66 1 := by rw [eh9]; exact mm_pf_ne _ _ (by decide)
              have qh9_177 : h9.1 66 2 = h8.1 66 2 := by rw [eh9]; exact mm_pf_ne _ _ (by decide)
              have qh9_178 : h9.1 66 3 = h8.1 66 3 := by rw [eh9]; exact mm_pf_ne _ _ (by decide)
              have qh9_179 : h9.1 66 9 = h8.1 66 9 := by rw [eh9]; exact mm_pf_ne _ _ (by decide)
              have qh9_180 : h9.1 66 10 = h8.1 66 10 := by rw [eh9]; exact mm_pf_ne _ _ (by decide)
              have qh9_181 : h9.1 66 11 = h8.1 66 11 := by rw [eh9]; exact mm_pf_ne _ _ (by decide)
              have qh9_182 : h9.1 66 12 = h8.1 66 12 := by rw [eh9]; exact mm_pf_ne _ _ (by decide)
              have qh9_183 : h9.1 66 19 = h8.1 66 19 := by rw [eh9]; exact mm_pf_ne _ _ (by decide)
              have qh9_184 : h9.1 66 22 = h8.1 66 22 := by rw [eh9]; exact mm_pf_ne _ _ (by decide)
              have qh9_185 : h9.1 66 23 = h8.1 66 23 := by rw [eh9]; exact mm_pf_ne _ _ (by decide)
              have qh9_186 : h9.1 66 24 = h8.1 66 24 := by rw [eh9]; exact mm_pf_ne _ _ (by decide)
              have qh9_187 : h9.1 66 41 = h8.1 66 41 := by rw [eh9]; exact mm_pf_ne _ _ (by decide)
              have qh9_188 : h9.1 66 67 = h8.1 66 67 := by rw [eh9]; exact mm_pf_ne _ _ (by decide)
              have qh9_189 : h9.1 66 95 = h8.1 66 95 := by rw [eh9]; exact mm_pf_ne _ _ (by decide)
              refine mm_aload_n C (mm_dec dk_X12_anew 66 rfl) rfl ?_
              refine mm_iconst C (mm_dec dk_X12_anew 67 rfl) ⟨by decide, by decide⟩ ?_
              refine mm_puti C fl_X12_219 (mm_dec dk_X12_anew 68 rfl) rfl rfl rfl (Or.inl ⟨rfl, rfl⟩) ?_
              have i10 : mm_inv (mm_pf h9 66 22 0) := mm_inv_pf i9 (show 0 ≤ 0 ∧ 0 ≤ 8 from ⟨by omega, by omega⟩) (by decide)
              have f10 : mm_fr [(66, 1), (66, 2), (66, 3), (66, 9), (66, 10), (66, 11), (66, 12), (66, 19), (66, 21), (66, 22), (66, 23), (66, 24), (66, 40), (66, 41), (66, 58), (66, 67), (66, 82), (66, 95)] [67, 68, 69, 70, 71] h (mm_pf h9 66 22 0) := mm_fr_pf f9 (by decide)
              obtain ⟨h10, eh10⟩ : ∃ z, z = mm_pf h9 66 22 0 := ⟨_, rfl⟩
              rw [← eh10] at i10 f10 ⊢
              have qh10 : h10.1 66 22 = 0 := by rw [eh10]; exact mm_pf_same _ _ _ _
              have qh10_190 : h10.1 66 1 = h9.1 66 1 := by rw [eh10]; exact mm_pf_ne _ _ (by decide)
              have qh10_191 : h10.1 66 2 = h9.1 66 2 := by rw [eh10]; exact mm_pf_ne _ _ (by decide)
              have qh10_192 : h10.1 66 3 = h9.1 66 3 := by rw [eh10]; exact mm_pf_ne _ _ (by decide)
              have qh10_193 : h10.1 66 9 = h9.1 66 9 := by rw [eh10]; exact mm_pf_ne _ _ (by decide)
              have qh10_194 : h10.1 66 10 = h9.1 66 10 := by rw [eh10]; exact mm_pf_ne _ _ (by decide)
              have qh10_195 : h10.1 66 11 = h9.1 66 11 := by rw [eh10]; exact mm_pf_ne _ _ (by decide)
              have qh10_196 : h10.1 66 12 = h9.1 66 12 := by rw [eh10]; exact mm_pf_ne _ _ (by decide)
              have qh10_197 : h10.1 66 19 = h9.1 66 19 := by rw [eh10]; exact mm_pf_ne _ _ (by decide)
              have qh10_198 : h10.1 66 21 = h9.1 66 21 := by rw [eh10]; exact mm_pf_ne _ _ (by decide)
              have qh10_199 : h10.1 66 23 = h9.1 66 23 := by rw [eh10]; exact mm_pf_ne _ _ (by decide)
              have qh10_200 : h10.1 66 24 = h9.1 66 24 := by rw [eh10]; exact mm_pf_ne _ _ (by decide)
              have qh10_201 : h10.1 66 41 = h9.1 66 41 := by rw [eh10]; exact mm_pf_ne _ _ (by decide)
              have qh10_202 : h10.1 66 67 = h9.1 66 67 := by rw [eh10]; exact mm_pf_ne _ _ (by decide)
              have qh10_203 : h10.1 66 95 = h9.1 66 95 := by rw [eh10]; exact mm_pf_ne _ _ (by decide)
              refine mm_aload_n C (mm_dec dk_X12_anew 69 rfl) rfl ?_
              refine mm_iconst C (mm_dec dk_X12_anew 70 rfl) ⟨by decide, by decide⟩ ?_
              refine mm_puti C fl_X12_222 (mm_dec dk_X12_anew 71 rfl) rfl rfl rfl (Or.inl ⟨rfl, rfl⟩) ?_
              have i11 : mm_inv (mm_pf h10 66 23 0) := mm_inv_pf i10 (show 0 ≤ 0 ∧ 0 ≤ 40 from ⟨by omega, by omega⟩) (by decide)
              have f11 : mm_fr [(66, 1), (66, 2), (66, 3), (66, 9), (66, 10), (66, 11), (66, 12), (66, 19), (66, 21), (66, 22), (66, 23), (66, 24), (66, 40), (66, 41), (66, 58), (66, 67), (66, 82), (66, 95)] [67, 68, 69, 70, 71] h (mm_pf h10 66 23 0) := mm_fr_pf f10 (by decide)
              obtain ⟨h11, eh11⟩ : ∃ z, z = mm_pf h10 66 23 0 := ⟨_, rfl⟩
              rw [← eh11] at i11 f11 ⊢
              have qh11 : h11.1 66 23 = 0 := by rw [eh11]; exact mm_pf_same _ _ _ _
              have qh11_204 : h11.1 66 1 = h10.1 66 1 := by rw [eh11]; exact mm_pf_ne _ _ (by decide)
              have qh11_205 : h11.1 66 2 = h10.1 66 2 := by rw [eh11]; exact mm_pf_ne _ _ (by decide)
              have qh11_206 : h11.1 66 3 = h10.1 66 3 := by rw [eh11]; exact mm_pf_ne _ _ (by decide)
              have qh11_207 : h11.1 66 9 = h10.1 66 9 := by rw [eh11]; exact mm_pf_ne _ _ (by decide)
              have qh11_208 : h11.1 66 10 = h10.1 66 10 := by rw [eh11]; exact mm_pf_ne _ _ (by decide)
              have qh11_209 : h11.1 66 11 = h10.1 66 11 := by rw [eh11]; exact mm_pf_ne _ _ (by decide)
              have qh11_210 : h11.1 66 12 = h10.1 66 12 := by rw [eh11]; exact mm_pf_ne _ _ (by decide)
              have qh11_211 : h11.1 66 19 = h10.1 66 19 := by rw [eh11]; exact mm_pf_ne _ _ (by decide)
              have qh11_212 : h11.1 66 21 = h10.1 66 21 := by rw [eh11]; exact mm_pf_ne _ _ (by decide)
              have qh11_213 : h11.1 66 22 = h10.1 66 22 := by rw [eh11]; exact mm_pf_ne _ _ (by decide)
              have qh11_214 : h11.1 66 24 = h10.1 66 24 := by rw [eh11]; exact mm_pf_ne _ _ (by decide)
              have qh11_215 : h11.1 66 41 = h10.1 66 41 := by rw [eh11]; exact mm_pf_ne _ _ (by decide)
              have qh11_216 : h11.1 66 67 = h10.1 66 67 := by rw [eh11]; exact mm_pf_ne _ _ (by decide)
              have qh11_217 : h11.1 66 95 = h10.1 66 95 := by rw [eh11]; exact mm_pf_ne _ _ (by decide)
              refine mm_aload_n C (mm_dec dk_X12_anew 72 rfl) rfl ?_
              refine mm_iconst C (mm_dec dk_X12_anew 73 rfl) ⟨by decide, by decide⟩ ?_
              refine mm_puti C fl_X12_225 (mm_dec dk_X12_anew 74 rfl) rfl rfl rfl (Or.inl ⟨rfl, rfl⟩) ?_
              have i12 : mm_inv (mm_pf h11 66 24 0) := mm_inv_pf i11 (show 0 ≤ 0 ∧ 0 ≤ 10 from ⟨by omega, by omega⟩) (by decide)
              have f12 : mm_fr [(66, 1), (66, 2), (66, 3), (66, 9), (66, 10), (66, 11), (66, 12), (66, 19), (66, 21), (66, 22), (66, 23), (66, 24), (66, 40), (66, 41), (66, 58), (66, 67), (66, 82), (66, 95)] [67, 68, 69, 70, 71] h (mm_pf h11 66 24 0) := mm_fr_pf f11 (by decide)
              obtain ⟨h12, eh12⟩ : ∃ z, z = mm_pf h11 66 24 0 := ⟨_, rfl⟩
              rw [← eh12] at i12 f12 ⊢
              have qh12 : h12.1 66 24 = 0 := by rw [eh12]; exact mm_pf_same _ _ _ _
              have qh12_218 : h12.1 66 1 = h11.1 66 1 := by rw [eh12]; exact mm_pf_ne _ _ (by decide)
              have qh12_219 : h12.1 66 2 = h11.1 66 2 := by rw [eh12]; exact mm_pf_ne _ _ (by decide)
              have qh12_220 : h12.1 66 3 = h11.1 66 3 := by rw [eh12]; exact mm_pf_ne _ _ (by decide)
              have qh12_221 : h12.1 66 9 = h11.1 66 9 := by rw [eh12]; exact mm_pf_ne _ _ (by decide)
              have qh12_222 : h12.1 66 10 = h11.1 66 10 := by rw [eh12]; exact mm_pf_ne _ _ (by decide)
              have qh12_223 : h12.1 66 11 = h11.1 66 11 := by rw [eh12]; exact mm_pf_ne _ _ (by decide)
              have qh12_224 : h12.1 66 12 = h11.1 66 12 := by rw [eh12]; exact mm_pf_ne _ _ (by decide)
              have qh12_225 : h12.1 66 19 = h11.1 66 19 := by rw [eh12]; exact mm_pf_ne _ _ (by decide)
              have qh12_226 : h12.1 66 21 = h11.1 66 21 := by rw [eh12]; exact mm_pf_ne _ _ (by decide)
              have qh12_227 : h12.1 66 22 = h11.1 66 22 := by rw [eh12]; exact mm_pf_ne _ _ (by decide)
              have qh12_228 : h12.1 66 23 = h11.1 66 23 := by rw [eh12]; exact mm_pf_ne _ _ (by decide)
              have qh12_229 : h12.1 66 41 = h11.1 66 41 := by rw [eh12]; exact mm_pf_ne _ _ (by decide)
              have qh12_230 : h12.1 66 67 = h11.1 66 67 := by rw [eh12]; exact mm_pf_ne _ _ (by decide)
              have qh12_231 : h12.1 66 95 = h11.1 66 95 := by rw [eh12]; exact mm_pf_ne _ _ (by decide)
              refine mm_aload_n C (mm_dec dk_X12_anew 75 rfl) rfl ?_
              refine mm_iconst C (mm_dec dk_X12_anew 76 rfl) ⟨by decide, by decide⟩ ?_
              refine mm_puti C fl_X12_228 (mm_dec dk_X12_anew 77 rfl) rfl rfl rfl (Or.inl ⟨rfl, rfl⟩) ?_
              have i13 : mm_inv (mm_pf h12 66 40 0) := mm_inv_pf i12 (show 0 ≤ 0 ∧ 0 ≤ 500 from ⟨by omega, by omega⟩) (by decide)
              have f13 : mm_fr [(66, 1), (66, 2), (66, 3), (66, 9), (66, 10), (66, 11), (66, 12), (66, 19), (66, 21), (66, 22), (66, 23), (66, 24), (66, 40), (66, 41), (66, 58), (66, 67), (66, 82), (66, 95)] [67, 68, 69, 70, 71] h (mm_pf h12 66 40 0) := mm_fr_pf f12 (by decide)
              obtain ⟨h13, eh13⟩ : ∃ z, z = mm_pf h12 66 40 0 := ⟨_, rfl⟩
              rw [← eh13] at i13 f13 ⊢
              have qh13 : h13.1 66 40 = 0 := by rw [eh13]; exact mm_pf_same _ _ _ _
              have qh13_232 : h13.1 66 1 = h12.1 66 1 := by rw [eh13]; exact mm_pf_ne _ _ (by decide)
              have qh13_233 : h13.1 66 2 = h12.1 66 2 := by rw [eh13]; exact mm_pf_ne _ _ (by decide)
              have qh13_234 : h13.1 66 3 = h12.1 66 3 := by rw [eh13]; exact mm_pf_ne _ _ (by decide)
              have qh13_235 : h13.1 66 9 = h12.1 66 9 := by rw [eh13]; exact mm_pf_ne _ _ (by decide)
              have qh13_236 : h13.1 66 10 = h12.1 66 10 := by rw [eh13]; exact mm_pf_ne _ _ (by decide)
              have qh13_237 : h13.1 66 11 = h12.1 66 11 := by rw [eh13]; exact mm_pf_ne _ _ (by decide)
              have qh13_238 : h13.1 66 12 = h12.1 66 12 := by rw [eh13]; exact mm_pf_ne _ _ (by decide)
              have qh13_239 : h13.1 66 19 = h12.1 66 19 := by rw [eh13]; exact mm_pf_ne _ _ (by decide)
              have qh13_240 : h13.1 66 21 = h12.1 66 21 := by rw [eh13]; exact mm_pf_ne _ _ (by decide)
              have qh13_241 : h13.1 66 22 = h12.1 66 22 := by rw [eh13]; exact mm_pf_ne _ _ (by decide)
              have qh13_242 : h13.1 66 23 = h12.1 66 23 := by rw [eh13]; exact mm_pf_ne _ _ (by decide)
              have qh13_243 : h13.1 66 24 = h12.1 66 24 := by rw [eh13]; exact mm_pf_ne _ _ (by decide)
              have qh13_244 : h13.1 66 41 = h12.1 66 41 := by rw [eh13]; exact mm_pf_ne _ _ (by decide)
              have qh13_245 : h13.1 66 67 = h12.1 66 67 := by rw [eh13]; exact mm_pf_ne _ _ (by decide)
              have qh13_246 : h13.1 66 95 = h12.1 66 95 := by rw [eh13]; exact mm_pf_ne _ _ (by decide)
              refine mm_aload_n C (mm_dec dk_X12_anew 78 rfl) rfl ?_
              refine mm_iconst C (mm_dec dk_X12_anew 79 rfl) ⟨by decide, by decide⟩ ?_
              refine mm_puti C fl_X12_231 (mm_dec dk_X12_anew 80 rfl) rfl rfl rfl (Or.inl ⟨rfl, rfl⟩) ?_
              have i14 : mm_inv (mm_pf h13 66 82 0) := mm_inv_pf i13 (show 0 ≤ 0 ∧ 0 ≤ 40 from ⟨by omega, by omega⟩) (by decide)
              have f14 : mm_fr [(66, 1), (66, 2), (66, 3), (66, 9), (66, 10), (66, 11), (66, 12), (66, 19), (66, 21), (66, 22), (66, 23), (66, 24), (66, 40), (66, 41), (66, 58), (66, 67), (66, 82), (66, 95)] [67, 68, 69, 70, 71] h (mm_pf h13 66 82 0) := mm_fr_pf f13 (by decide)
              obtain ⟨h14, eh14⟩ : ∃ z, z = mm_pf h13 66 82 0 := ⟨_, rfl⟩
              rw [← eh14] at i14 f14 ⊢
              have qh14 : h14.1 66 82 = 0 := by rw [eh14]; exact mm_pf_same _ _ _ _
              have qh14_247 : h14.1 66 1 = h13.1 66 1 := by rw [eh14]; exact mm_pf_ne _ _ (by decide)
              have qh14_248 : h14.1 66 2 = h13.1 66 2 := by rw [eh14]; exact mm_pf_ne _ _ (by decide)
              have qh14_249 : h14.1 66 3 = h13.1 66 3 := by rw [eh14]; exact mm_pf_ne _ _ (by decide)
              have qh14_250 : h14.1 66 9 = h13.1 66 9 := by rw [eh14]; exact mm_pf_ne _ _ (by decide)
              have qh14_251 : h14.1 66 10 = h13.1 66 10 := by rw [eh14]; exact mm_pf_ne _ _ (by decide)
              have qh14_252 : h14.1 66 11 = h13.1 66 11 := by rw [eh14]; exact mm_pf_ne _ _ (by decide)
              have qh14_253 : h14.1 66 12 = h13.1 66 12 := by rw [eh14]; exact mm_pf_ne _ _ (by decide)
              have qh14_254 : h14.1 66 19 = h13.1 66 19 := by rw [eh14]; exact mm_pf_ne _ _ (by decide)
              have qh14_255 : h14.1 66 21 = h13.1 66 21 := by rw [eh14]; exact mm_pf_ne _ _ (by decide)
              have qh14_256 : h14.1 66 22 = h13.1 66 22 := by rw [eh14]; exact mm_pf_ne _ _ (by decide)
              have qh14_257 : h14.1 66 23 = h13.1 66 23 := by rw [eh14]; exact mm_pf_ne _ _ (by decide)
              have qh14_258 : h14.1 66 24 = h13.1 66 24 := by rw [eh14]; exact mm_pf_ne _ _ (by decide)
              have qh14_259 : h14.1 66 40 = h13.1 66 40 := by rw [eh14]; exact mm_pf_ne _ _ (by decide)
              have qh14_260 : h14.1 66 41 = h13.1 66 41 := by rw [eh14]; exact mm_pf_ne _ _ (by decide)
              have qh14_261 : h14.1 66 67 = h13.1 66 67 := by rw [eh14]; exact mm_pf_ne _ _ (by decide)
              have qh14_262 : h14.1 66 95 = h13.1 66 95 := by rw [eh14]; exact mm_pf_ne _ _ (by decide)
              refine mm_aload_n C (mm_dec dk_X12_anew 81 rfl) rfl ?_
              refine mm_iconst C (mm_dec dk_X12_anew 82 rfl) ⟨by decide, by decide⟩ ?_
              refine mm_puti C fl_X12_234 (mm_dec dk_X12_anew 83 rfl) rfl rfl rfl (Or.inl ⟨rfl, rfl⟩) ?_
              have i15 : mm_inv (mm_pf h14 66 41 0) := mm_inv_pf i14 (show 0 ≤ 0 ∧ 0 ≤ 99999 from ⟨by omega, by omega⟩) (by decide)
              have f15 : mm_fr [(66, 1), (66, 2), (66, 3), (66, 9), (66, 10), (66, 11), (66, 12), (66, 19), (66, 21), (66, 22), (66, 23), (66, 24), (66, 40), (66, 41), (66, 58), (66, 67), (66, 82), (66, 95)] [67, 68, 69, 70, 71] h (mm_pf h14 66 41 0) := mm_fr_pf f14 (by decide)
              obtain ⟨h15, eh15⟩ : ∃ z, z = mm_pf h14 66 41 0 := ⟨_, rfl⟩
              rw [← eh15] at i15 f15 ⊢
              have qh15 : h15.1 66 41 = 0 := by rw [eh15]; exact mm_pf_same _ _ _ _
              have qh15_263 : h15.1 66 1 = h14.1 66 1 := by rw [eh15]; exact mm_pf_ne _ _ (by decide)
              have qh15_264 : h15.1 66 2 = h14.1 66 2 := by rw [eh15]; exact mm_pf_ne _ _ (by decide)
              have qh15_265 : h15.1 66 3 = h14.1 66 3 := by rw [eh15]; exact mm_pf_ne _ _ (by decide)
              have qh15_266 : h15.1 66 9 = h14.1 66 9 := by rw [eh15]; exact mm_pf_ne _ _ (by decide)
              have qh15_267 : h15.1 66 10 = h14.1 66 10 := by rw [eh15]; exact mm_pf_ne _ _ (by decide)
              have qh15_268 : h15.1 66 11 = h14.1 66 11 := by rw [eh15]; exact mm_pf_ne _ _ (by decide)
              have qh15_269 : h15.1 66 12 = h14.1 66 12 := by rw [eh15]; exact mm_pf_ne _ _ (by decide)
              have qh15_270 : h15.1 66 19 = h14.1 66 19 := by rw [eh15]; exact mm_pf_ne _ _ (by decide)
              have qh15_271 : h15.1 66 21 = h14.1 66 21 := by rw [eh15]; exact mm_pf_ne _ _ (by decide)
              have qh15_272 : h15.1 66 22 = h14.1 66 22 := by rw [eh15]; exact mm_pf_ne _ _ (by decide)
              have qh15_273 : h15.1 66 23 = h14.1 66 23 := by rw [eh15]; exact mm_pf_ne _ _ (by decide)
              have qh15_274 : h15.1 66 24 = h14.1 66 24 := by rw [eh15]; exact mm_pf_ne _ _ (by decide)
              have qh15_275 : h15.1 66 40 = h14.1 66 40 := by rw [eh15]; exact mm_pf_ne _ _ (by decide)
              have qh15_276 : h15.1 66 67 = h14.1 66 67 := by rw [eh15]; exact mm_pf_ne _ _ (by decide)
              have qh15_277 : h15.1 66 82 = h14.1 66 82 := by rw [eh15]; exact mm_pf_ne _ _ (by decide)
              have qh15_278 : h15.1 66 95 = h14.1 66 95 := by rw [eh15]; exact mm_pf_ne _ _ (by decide)
              refine mm_aload_n C (mm_dec dk_X12_anew 84 rfl) rfl ?_
              refine mm_iconst C (mm_dec dk_X12_anew 85 rfl) ⟨by decide, by decide⟩ ?_
              refine mm_puti C fl_X12_237 (mm_dec dk_X12_anew 86 rfl) rfl rfl rfl (Or.inl ⟨rfl, rfl⟩) ?_
              have i16 : mm_inv (mm_pf h15 66 58 (-1)) := mm_inv_pf i15 (show -2147483648 ≤ (-1) ∧ (-1) ≤ 2147483647 from ⟨by omega, by omega⟩) (by decide)
              have f16 : mm_fr [(66, 1), (66, 2), (66, 3), (66, 9), (66, 10), (66, 11), (66, 12), (66, 19), (66, 21), (66, 22), (66, 23), (66, 24), (66, 40), (66, 41), (66, 58), (66, 67), (66, 82), (66, 95)] [67, 68, 69, 70, 71] h (mm_pf h15 66 58 (-1)) := mm_fr_pf f15 (by decide)
              obtain ⟨h16, eh16⟩ : ∃ z, z = mm_pf h15 66 58 (-1) := ⟨_, rfl⟩
              rw [← eh16] at i16 f16 ⊢
              have qh16 : h16.1 66 58 = (-1) := by rw [eh16]; exact mm_pf_same _ _ _ _
              have qh16_279 : h16.1 66 1 = h15.1 66 1 := by rw [eh16]; exact mm_pf_ne _ _ (by decide)
              have qh16_280 : h16.1 66 2 = h15.1 66 2 := by rw [eh16]; exact mm_pf_ne _ _ (by decide)
              have qh16_281 : h16.1 66 3 = h15.1 66 3 := by rw [eh16]; exact mm_pf_ne _ _ (by decide)
              have qh16_282 : h16.1 66 9 = h15.1 66 9 := by rw [eh16]; exact mm_pf_ne _ _ (by decide)
              have qh16_283 : h16.1 66 10 = h15.1 66 10 := by rw [eh16]; exact mm_pf_ne _ _ (by decide)
              have qh16_284 : h16.1 66 11 = h15.1 66 11 := by rw [eh16]; exact mm_pf_ne _ _ (by decide)
              have qh16_285 : h16.1 66 12 = h15.1 66 12 := by rw [eh16]; exact mm_pf_ne _ _ (by decide)
              have qh16_286 : h16.1 66 19 = h15.1 66 19 := by rw [eh16]; exact mm_pf_ne _ _ (by decide)
              have qh16_287 : h16.1 66 21 = h15.1 66 21 := by rw [eh16]; exact mm_pf_ne _ _ (by decide)
              have qh16_288 : h16.1 66 22 = h15.1 66 22 := by rw [eh16]; exact mm_pf_ne _ _ (by decide)
              have qh16_289 : h16.1 66 23 = h15.1 66 23 := by rw [eh16]; exact mm_pf_ne _ _ (by decide)
              have qh16_290 : h16.1 66 24 = h15.1 66 24 := by rw [eh16]; exact mm_pf_ne _ _ (by decide)
              have qh16_291 : h16.1 66 40 = h15.1 66 40 := by rw [eh16]; exact mm_pf_ne _ _ (by decide)
              have qh16_292 : h16.1 66 41 = h15.1 66 41 := by rw [eh16]; exact mm_pf_ne _ _ (by decide)
              have qh16_293 : h16.1 66 67 = h15.1 66 67 := by rw [eh16]; exact mm_pf_ne _ _ (by decide)
              have qh16_294 : h16.1 66 82 = h15.1 66 82 := by rw [eh16]; exact mm_pf_ne _ _ (by decide)
              have qh16_295 : h16.1 66 95 = h15.1 66 95 := by rw [eh16]; exact mm_pf_ne _ _ (by decide)
              refine mm_aload_n C (mm_dec dk_X12_anew 87 rfl) rfl ?_
              refine mm_iconst C (mm_dec dk_X12_anew 88 rfl) ⟨by decide, by decide⟩ ?_
              refine mm_puti C fl_X12_240 (mm_dec dk_X12_anew 89 rfl) rfl rfl rfl (Or.inr ⟨rfl, rfl, by omega⟩) ?_
              have i17 : mm_inv (mm_pf h16 66 67 0) := mm_inv_pf i16 (show 0 ≤ 0 ∧ 0 ≤ 1 from ⟨by omega, by omega⟩) (by decide)
              have f17 : mm_fr [(66, 1), (66, 2), (66, 3), (66, 9), (66, 10), (66, 11), (66, 12), (66, 19), (66, 21), (66, 22), (66, 23), (66, 24), (66, 40), (66, 41), (66, 58), (66, 67), (66, 82), (66, 95)] [67, 68, 69, 70, 71] h (mm_pf h16 66 67 0) := mm_fr_pf f16 (by decide)
              obtain ⟨h17, eh17⟩ : ∃ z, z = mm_pf h16 66 67 0 := ⟨_, rfl⟩
              rw [← eh17] at i17 f17 ⊢
              have qh17 : h17.1 66 67 = 0 := by rw [eh17]; exact mm_pf_same _ _ _ _
              have qh17_296 : h17.1 66 1 = h16.1 66 1 := by rw [eh17]; exact mm_pf_ne _ _ (by decide)
              have qh17_297 : h17.1 66 2 = h16.1 66 2 := by rw [eh17]; exact mm_pf_ne _ _ (by decide)
              have qh17_298 : h17.1 66 3 = h16.1 66 3 := by rw [eh17]; exact mm_pf_ne _ _ (by decide)
              have qh17_299 : h17.1 66 9 = h16.1 66 9 := by rw [eh17]; exact mm_pf_ne _ _ (by decide)
              have qh17_300 : h17.1 66 10 = h16.1 66 10 := by rw [eh17]; exact mm_pf_ne _ _ (by decide)
              have qh17_301 : h17.1 66 11 = h16.1 66 11 := by rw [eh17]; exact mm_pf_ne _ _ (by decide)
              have qh17_302 : h17.1 66 12 = h16.1 66 12 := by rw [eh17]; exact mm_pf_ne _ _ (by decide)
              have qh17_303 : h17.1 66 19 = h16.1 66 19 := by rw [eh17]; exact mm_pf_ne _ _ (by decide)
              have qh17_304 : h17.1 66 21 = h16.1 66 21 := by rw [eh17]; exact mm_pf_ne _ _ (by decide)
              have qh17_305 : h17.1 66 22 = h16.1 66 22 := by rw [eh17]; exact mm_pf_ne _ _ (by decide)
              have qh17_306 : h17.1 66 23 = h16.1 66 23 := by rw [eh17]; exact mm_pf_ne _ _ (by decide)
              have qh17_307 : h17.1 66 24 = h16.1 66 24 := by rw [eh17]; exact mm_pf_ne _ _ (by decide)
              have qh17_308 : h17.1 66 40 = h16.1 66 40 := by rw [eh17]; exact mm_pf_ne _ _ (by decide)
              have qh17_309 : h17.1 66 41 = h16.1 66 41 := by rw [eh17]; exact mm_pf_ne _ _ (by decide)
              have qh17_310 : h17.1 66 58 = h16.1 66 58 := by rw [eh17]; exact mm_pf_ne _ _ (by decide)
              have qh17_311 : h17.1 66 82 = h16.1 66 82 := by rw [eh17]; exact mm_pf_ne _ _ (by decide)
              have qh17_312 : h17.1 66 95 = h16.1 66 95 := by rw [eh17]; exact mm_pf_ne _ _ (by decide)
              refine mm_aload_n C (mm_dec dk_X12_anew 90 rfl) rfl ?_
              refine mm_iconst C (mm_dec dk_X12_anew 91 rfl) ⟨by decide, by decide⟩ ?_
              refine mm_puti C fl_X12_244 (mm_dec dk_X12_anew 92 rfl) rfl rfl rfl (Or.inr ⟨rfl, rfl, by omega⟩) ?_
              have i18 : mm_inv (mm_pf h17 66 95 0) := mm_inv_pf i17 (show 0 ≤ 0 ∧ 0 ≤ 1 from ⟨by omega, by omega⟩) (by decide)
              have f18 : mm_fr [(66, 1), (66, 2), (66, 3), (66, 9), (66, 10), (66, 11), (66, 12), (66, 19), (66, 21), (66, 22), (66, 23), (66, 24), (66, 40), (66, 41), (66, 58), (66, 67), (66, 82), (66, 95)] [67, 68, 69, 70, 71] h (mm_pf h17 66 95 0) := mm_fr_pf f17 (by decide)
              obtain ⟨h18, eh18⟩ : ∃ z, z = mm_pf h17 66 95 0 := ⟨_, rfl⟩
              rw [← eh18] at i18 f18 ⊢
              have qh18 : h18.1 66 95 = 0 := by rw [eh18]; exact mm_pf_same _ _ _ _
              have qh18_313 : h18.1 66 1 = h17.1 66 1 := by rw [eh18]; exact mm_pf_ne _ _ (by decide)
              have qh18_314 : h18.1 66 2 = h17.1 66 2 := by rw [eh18]; exact mm_pf_ne _ _ (by decide)
              have qh18_315 : h18.1 66 3 = h17.1 66 3 := by rw [eh18]; exact mm_pf_ne _ _ (by decide)
              have qh18_316 : h18.1 66 9 = h17.1 66 9 := by rw [eh18]; exact mm_pf_ne _ _ (by decide)
              have qh18_317 : h18.1 66 10 = h17.1 66 10 := by rw [eh18]; exact mm_pf_ne _ _ (by decide)
              have qh18_318 : h18.1 66 11 = h17.1 66 11 := by rw [eh18]; exact mm_pf_ne _ _ (by decide)
              have qh18_319 : h18.1 66 12 = h17.1 66 12 := by rw [eh18]; exact mm_pf_ne _ _ (by decide)
              have qh18_320 : h18.1 66 19 = h17.1 66 19 := by rw [eh18]; exact mm_pf_ne _ _ (by decide)
              have qh18_321 : h18.1 66 21 = h17.1 66 21 := by rw [eh18]; exact mm_pf_ne _ _ (by decide)
              have qh18_322 : h18.1 66 22 = h17.1 66 22 := by rw [eh18]; exact mm_pf_ne _ _ (by decide)
              have qh18_323 : h18.1 66 23 = h17.1 66 23 := by rw [eh18]; exact mm_pf_ne _ _ (by decide)
              have qh18_324 : h18.1 66 24 = h17.1 66 24 := by rw [eh18]; exact mm_pf_ne _ _ (by decide)
              have qh18_325 : h18.1 66 40 = h17.1 66 40 := by rw [eh18]; exact mm_pf_ne _ _ (by decide)
              have qh18_326 : h18.1 66 41 = h17.1 66 41 := by rw [eh18]; exact mm_pf_ne _ _ (by decide)
              have qh18_327 : h18.1 66 58 = h17.1 66 58 := by rw [eh18]; exact mm_pf_ne _ _ (by decide)
              have qh18_328 : h18.1 66 67 = h17.1 66 67 := by rw [eh18]; exact mm_pf_ne _ _ (by decide)
              have qh18_329 : h18.1 66 82 = h17.1 66 82 := by rw [eh18]; exact mm_pf_ne _ _ (by decide)
              exact mm_vret C T (mm_dec dk_X12_anew 93 rfl) (by decide : 0 ≤ 0) (by decide : 0 ≤ 0) ⟨rfl, ⟨i18, f18, by omega, by omega, by omega, by omega, by omega, by omega, by omega, by rw [eh18, eh17, eh16, eh15, eh14, eh13, eh12, eh11, eh10, eh9, eh8, eh7, eh6, eh5, eh4]; exact w60_0, by rw [eh18, eh17, eh16, eh15, eh14, eh13, eh12, eh11, eh10, eh9, eh8, eh7, eh6, eh5, eh4]; exact mm_al_le w60_1 (by omega), by rw [eh18, eh17, eh16, eh15, eh14, eh13, eh12, eh11, eh10, eh9, eh8, eh7, eh6, eh5, eh4]; exact w60_2, by rw [eh18, eh17, eh16, eh15, eh14, eh13, eh12, eh11, eh10, eh9, eh8, eh7, eh6, eh5, eh4]; exact w60_3, by rw [eh18, eh17, eh16, eh15, eh14, eh13, eh12, eh11, eh10, eh9, eh8, eh7, eh6, eh5, eh4]; exact w60_4, by omega, by omega, by omega, by omega, by omega, by omega, by omega⟩⟩
            · skip
              refine mm_aload_n C (mm_dec dk_X12_anew 41 rfl) rfl ?_
              refine mm_getr (t := 69) C fl_X12_16 (mm_dec dk_X12_anew 42 rfl) rfl rfl (mm_ref i60_ rfl) ?_
              refine mm_iload_n C (mm_dec dk_X12_anew 43 rfl) rfl ?_
              refine mm_iconst C (mm_dec dk_X12_anew 44 rfl) ⟨by decide, by decide⟩ ?_
              refine mm_iast C (mm_dec dk_X12_anew 45 rfl) rfl (by omega) (by omega) ?_
              have i19 : mm_inv (mm_pa h60_ 69 x60_3 5) := mm_inv_pa i60_ (show 0 ≤ 5 ∧ 5 ≤ 99 from ⟨by omega, by omega⟩)
              have f19 : mm_fr [(66, 1), (66, 2), (66, 3), (66, 9), (66, 10), (66, 11), (66, 12), (66, 19), (66, 21), (66, 22), (66, 23), (66, 24), (66, 40), (66, 41), (66, 58), (66, 67), (66, 82), (66, 95)] [67, 68, 69, 70, 71] h (mm_pa h60_ 69 x60_3 5) := mm_fr_pa f60_ (by decide)
              obtain ⟨h19, eh19⟩ : ∃ z, z = mm_pa h60_ 69 x60_3 5 := ⟨_, rfl⟩
              rw [← eh19] at i19 f19 ⊢
              have qh19_330 : h19.1 66 1 = h60_.1 66 1 := by rw [eh19]; rfl
              have qh19_331 : h19.1 66 2 = h60_.1 66 2 := by rw [eh19]; rfl
              have qh19_332 : h19.1 66 3 = h60_.1 66 3 := by rw [eh19]; rfl
              have qh19_333 : h19.1 66 9 = h60_.1 66 9 := by rw [eh19]; rfl
              have qh19_334 : h19.1 66 10 = h60_.1 66 10 := by rw [eh19]; rfl
              have qh19_335 : h19.1 66 11 = h60_.1 66 11 := by rw [eh19]; rfl
              have qh19_336 : h19.1 66 12 = h60_.1 66 12 := by rw [eh19]; rfl
              have qh19_337 : h19.1 66 21 = h60_.1 66 21 := by rw [eh19]; rfl
              have qh19_338 : h19.1 66 22 = h60_.1 66 22 := by rw [eh19]; rfl
              have qh19_339 : h19.1 66 23 = h60_.1 66 23 := by rw [eh19]; rfl
              have qh19_340 : h19.1 66 24 = h60_.1 66 24 := by rw [eh19]; rfl
              have qh19_341 : h19.1 66 41 = h60_.1 66 41 := by rw [eh19]; rfl
              have qh19_342 : h19.1 66 67 = h60_.1 66 67 := by rw [eh19]; rfl
              have qh19_343 : h19.1 66 95 = h60_.1 66 95 := by rw [eh19]; rfl
              refine mm_iincL (ls2 := [mR 66, mU, mU, mI (x60_3 + 1)]) C (mm_dec dk_X12_anew 46 rfl) rfl (by decide) ⟨by omega, by omega⟩ rfl ?_
              refine mm_goto (tgt := 60) C (mm_dec dk_X12_anew 47 rfl) (by decide) ?_
              exact ih60 (x60_3 + 1) ⟨by omega, by omega⟩ h19 i19 f19 (by first | exact mm_al_le w17_0 (by omega) | exact mm_al_sm w60_0 (fun _ => (mm_sm_pa 67 eh19 (by decide) _))) (by first | exact mm_al_nil (by omega) | (rw [show x60_3 + 1 - 1 = x60_3 by omega]; exact mm_al_put w60_1 eh19)) (by first | exact mm_al_le w17_1 (by omega) | exact mm_al_sm w60_2 (fun _ => (mm_sm_pa 68 eh19 (by decide) _))) (by first | exact mm_al_le w17_2 (by omega) | exact mm_al_sm w60_3 (fun _ => (mm_sm_pa 70 eh19 (by decide) _))) (by first | exact mm_al_le w17_3 (by omega) | exact mm_al_sm w60_4 (fun _ => (mm_sm_pa 71 eh19 (by decide) _))) (by omega) (by omega) (by omega) (by omega)
        refine mm_istore_nL (ls2 := [mR 66, mU, mU, mI 0]) C (mm_dec dk_X12_anew 37 rfl) (by decide) rfl ?_
        exact J60 (((8 - 0) : Int) + 1).toNat 0 ⟨by omega, by omega⟩ h17_ i17_ f17_ (by first | exact mm_al_le w17_0 (by omega) | exact mm_al_sm w60_0 (fun _ => (mm_sm_pa 67 eh19 (by decide) _))) (by first | exact mm_al_nil (by omega) | (rw [show x60_3 + 1 - 1 = x60_3 by omega]; exact mm_al_put w60_1 eh19)) (by first | exact mm_al_le w17_1 (by omega) | exact mm_al_sm w60_2 (fun _ => (mm_sm_pa 68 eh19 (by decide) _))) (by first | exact mm_al_le w17_2 (by omega) | exact mm_al_sm w60_3 (fun _ => (mm_sm_pa 70 eh19 (by decide) _))) (by first | exact mm_al_le w17_3 (by omega) | exact mm_al_sm w60_4 (fun _ => (mm_sm_pa 71 eh19 (by decide) _))) (by omega) (by omega) (by omega) (by omega)
      · skip
        refine mm_aload_n C (mm_dec dk_X12_anew 14 rfl) rfl ?_
        refine mm_getr (t := 67) C fl_X12_7 (mm_dec dk_X12_anew 15 rfl) rfl rfl (mm_ref i17_ rfl) ?_
        refine mm_iload_n C (mm_dec dk_X12_anew 16 rfl) rfl ?_
        refine mm_iconst C (mm_dec dk_X12_anew 17 rfl) ⟨by decide, by decide⟩ ?_
        refine mm_iast C (mm_dec dk_X12_anew 18 rfl) rfl (by omega) (by omega) ?_
        have i20 : mm_inv (mm_pa h17_ 67 x17_3 0) := mm_inv_pa i17_ (show 0 ≤ 0 ∧ 0 ≤ 7 from ⟨by omega, by omega⟩)
        have f20 : mm_fr [(66, 1), (66, 2), (66, 3), (66, 9), (66, 10), (66, 11), (66, 12), (66, 19), (66, 21), (66, 22), (66, 23), (66, 24), (66, 40), (66, 41), (66, 58), (66, 67), (66, 82), (66, 95)] [67, 68, 69, 70, 71] h (mm_pa h17_ 67 x17_3 0) := mm_fr_pa f17_ (by decide)
        obtain ⟨h20, eh20⟩ : ∃ z, z = mm_pa h17_ 67 x17_3 0 := ⟨_, rfl⟩
        rw [← eh20] at i20 f20 ⊢
        have qh20_344 : h20.1 66 1 = h17_.1 66 1 := by rw [eh20]; rfl
        have qh20_345 : h20.1 66 2 = h17_.1 66 2 := by rw [eh20]; rfl
        have qh20_346 : h20.1 66 3 = h17_.1 66 3 := by rw [eh20]; rfl
        have qh20_347 : h20.1 66 9 = h17_.1 66 9 := by rw [eh20]; rfl
        have qh20_348 : h20.1 66 10 = h17_.1 66 10 := by rw [eh20]; rfl
        have qh20_349 : h20.1 66 11 = h17_.1 66 11 := by rw [eh20]; rfl
        have qh20_350 : h20.1 66 12 = h17_.1 66 12 := by rw [eh20]; rfl
        have qh20_351 : h20.1 66 21 = h17_.1 66 21 := by rw [eh20]; rfl
        have qh20_352 : h20.1 66 22 = h17_.1 66 22 := by rw [eh20]; rfl
        have qh20_353 : h20.1 66 23 = h17_.1 66 23 := by rw [eh20]; rfl
        have qh20_354 : h20.1 66 24 = h17_.1 66 24 := by rw [eh20]; rfl
        have qh20_355 : h20.1 66 41 = h17_.1 66 41 := by rw [eh20]; rfl
        have qh20_356 : h20.1 66 67 = h17_.1 66 67 := by rw [eh20]; rfl
        have qh20_357 : h20.1 66 95 = h17_.1 66 95 := by rw [eh20]; rfl
        refine mm_aload_n C (mm_dec dk_X12_anew 19 rfl) rfl ?_
        refine mm_getr (t := 68) C fl_X12_13 (mm_dec dk_X12_anew 20 rfl) rfl rfl (mm_ref i20 rfl) ?_
        refine mm_iload_n C (mm_dec dk_X12_anew 21 rfl) rfl ?_
        refine mm_iconst C (mm_dec dk_X12_anew 22 rfl) ⟨by decide, by decide⟩ ?_
        refine mm_iast C (mm_dec dk_X12_anew 23 rfl) rfl (by omega) (by omega) ?_
        have i21 : mm_inv (mm_pa h20 68 x17_3 0) := mm_inv_pa i20 (show 0 ≤ 0 ∧ 0 ≤ 99 from ⟨by omega, by omega⟩)
        have f21 : mm_fr [(66, 1), (66, 2), (66, 3), (66, 9), (66, 10), (66, 11), (66, 12), (66, 19), (66, 21), (66, 22), (66, 23), (66, 24), (66, 40), (66, 41), (66, 58), (66, 67), (66, 82), (66, 95)] [67, 68, 69, 70, 71] h (mm_pa h20 68 x17_3 0) := mm_fr_pa f20 (by decide)
        obtain ⟨h21, eh21⟩ : ∃ z, z = mm_pa h20 68 x17_3 0 := ⟨_, rfl⟩
        rw [← eh21] at i21 f21 ⊢
        have qh21_358 : h21.1 66 1 = h20.1 66 1 := by rw [eh21]; rfl
        have qh21_359 : h21.1 66 2 = h20.1 66 2 := by rw [eh21]; rfl
        have qh21_360 : h21.1 66 3 = h20.1 66 3 := by rw [eh21]; rfl
        have qh21_361 : h21.1 66 9 = h20.1 66 9 := by rw [eh21]; rfl
        have qh21_362 : h21.1 66 10 = h20.1 66 10 := by rw [eh21]; rfl
        have qh21_363 : h21.1 66 11 = h20.1 66 11 := by rw [eh21]; rfl
        have qh21_364 : h21.1 66 12 = h20.1 66 12 := by rw [eh21]; rfl
        have qh21_365 : h21.1 66 21 = h20.1 66 21 := by rw [eh21]; rfl
        have qh21_366 : h21.1 66 22 = h20.1 66 22 := by rw [eh21]; rfl
        have qh21_367 : h21.1 66 23 = h20.1 66 23 := by rw [eh21]; rfl
        have qh21_368 : h21.1 66 24 = h20.1 66 24 := by rw [eh21]; rfl
        have qh21_369 : h21.1 66 41 = h20.1 66 41 := by rw [eh21]; rfl
        have qh21_370 : h21.1 66 67 = h20.1 66 67 := by rw [eh21]; rfl
        have qh21_371 : h21.1 66 95 = h20.1 66 95 := by rw [eh21]; rfl
        refine mm_aload_n C (mm_dec dk_X12_anew 24 rfl) rfl ?_
        refine mm_getr (t := 70) C fl_X12_19 (mm_dec dk_X12_anew 25 rfl) rfl rfl (mm_ref i21 rfl) ?_
        refine mm_iload_n C (mm_dec dk_X12_anew 26 rfl) rfl ?_
        refine mm_iconst C (mm_dec dk_X12_anew 27 rfl) ⟨by decide, by decide⟩ ?_
        refine mm_zast C (mm_dec dk_X12_anew 28 rfl) rfl (by omega) (by omega) (by omega) ?_
        have i22 : mm_inv (mm_pa h21 70 x17_3 0) := mm_inv_pa i21 (show 0 ≤ 0 ∧ 0 ≤ 1 from ⟨by omega, by omega⟩)
        have f22 : mm_fr [(66, 1), (66, 2), (66, 3), (66, 9), (66, 10), (66, 11), (66, 12), (66, 19), (66, 21), (66, 22), (66, 23), (66, 24), (66, 40), (66, 41), (66, 58), (66, 67), (66, 82), (66, 95)] [67, 68, 69, 70, 71] h (mm_pa h21 70 x17_3 0) := mm_fr_pa f21 (by decide)
        obtain ⟨h22, eh22⟩ : ∃ z, z = mm_pa h21 70 x17_3 0 := ⟨_, rfl⟩
        rw [← eh22] at i22 f22 ⊢
        have qh22_372 : h22.1 66 1 = h21.1 66 1 := by rw [eh22]; rfl
        have qh22_373 : h22.1 66 2 = h21.1 66 2 := by rw [eh22]; rfl
        have qh22_374 : h22.1 66 3 = h21.1 66 3 := by rw [eh22]; rfl
        have qh22_375 : h22.1 66 9 = h21.1 66 9 := by rw [eh22]; rfl
        have qh22_376 : h22.1 66 10 = h21.1 66 10 := by rw [eh22]; rfl
        have qh22_377 : h22.1 66 11 = h21.1 66 11 := by rw [eh22]; rfl
        have qh22_378 : h22.1 66 12 = h21.1 66 12 := by rw [eh22]; rfl
        have qh22_379 : h22.1 66 21 = h21.1 66 21 := by rw [eh22]; rfl
        have qh22_380 : h22.1 66 22 = h21.1 66 22 := by rw [eh22]; rfl
        have qh22_381 : h22.1 66 23 = h21.1 66 23 := by rw [eh22]; rfl
        have qh22_382 : h22.1 66 24 = h21.1 66 24 := by rw [eh22]; rfl
        have qh22_383 : h22.1 66 41 = h21.1 66 41 := by rw [eh22]; rfl
        have qh22_384 : h22.1 66 67 = h21.1 66 67 := by rw [eh22]; rfl
        have qh22_385 : h22.1 66 95 = h21.1 66 95 := by rw [eh22]; rfl
        refine mm_aload_n C (mm_dec dk_X12_anew 29 rfl) rfl ?_
        refine mm_getr (t := 71) C fl_X12_23 (mm_dec dk_X12_anew 30 rfl) rfl rfl (mm_ref i22 rfl) ?_
        refine mm_iload_n C (mm_dec dk_X12_anew 31 rfl) rfl ?_
        refine mm_iconst C (mm_dec dk_X12_anew 32 rfl) ⟨by decide, by decide⟩ ?_
        refine mm_zast C (mm_dec dk_X12_anew 33 rfl) rfl (by omega) (by omega) (by omega) ?_
        have i23 : mm_inv (mm_pa h22 71 x17_3 0) := mm_inv_pa i22 (show 0 ≤ 0 ∧ 0 ≤ 1 from ⟨by omega, by omega⟩)
        have f23 : mm_fr [(66, 1), (66, 2), (66, 3), (66, 9), (66, 10), (66, 11), (66, 12), (66, 19), (66, 21), (66, 22), (66, 23), (66, 24), (66, 40), (66, 41), (66, 58), (66, 67), (66, 82), (66, 95)] [67, 68, 69, 70, 71] h (mm_pa h22 71 x17_3 0) := mm_fr_pa f22 (by decide)
        obtain ⟨h23, eh23⟩ : ∃ z, z = mm_pa h22 71 x17_3 0 := ⟨_, rfl⟩
        rw [← eh23] at i23 f23 ⊢
        have qh23_386 : h23.1 66 1 = h22.1 66 1 := by rw [eh23]; rfl
        have qh23_387 : h23.1 66 2 = h22.1 66 2 := by rw [eh23]; rfl
        have qh23_388 : h23.1 66 3 = h22.1 66 3 := by rw [eh23]; rfl
        have qh23_389 : h23.1 66 9 = h22.1 66 9 := by rw [eh23]; rfl
        have qh23_390 : h23.1 66 10 = h22.1 66 10 := by rw [eh23]; rfl
        have qh23_391 : h23.1 66 11 = h22.1 66 11 := by rw [eh23]; rfl
        have qh23_392 : h23.1 66 12 = h22.1 66 12 := by rw [eh23]; rfl
        have qh23_393 : h23.1 66 21 = h22.1 66 21 := by rw [eh23]; rfl
        have qh23_394 : h23.1 66 22 = h22.1 66 22 := by rw [eh23]; rfl
        have qh23_395 : h23.1 66 23 = h22.1 66 23 := by rw [eh23]; rfl
        have qh23_396 : h23.1 66 24 = h22.1 66 24 := by rw [eh23]; rfl
        have qh23_397 : h23.1 66 41 = h22.1 66 41 := by rw [eh23]; rfl
        have qh23_398 : h23.1 66 67 = h22.1 66 67 := by rw [eh23]; rfl
        have qh23_399 : h23.1 66 95 = h22.1 66 95 := by rw [eh23]; rfl
        refine mm_iincL (ls2 := [mR 66, mU, mU, mI (x17_3 + 1)]) C (mm_dec dk_X12_anew 34 rfl) rfl (by decide) ⟨by omega, by omega⟩ rfl ?_
        refine mm_goto (tgt := 17) C (mm_dec dk_X12_anew 35 rfl) (by decide) ?_
        exact ih17 (x17_3 + 1) ⟨by omega, by omega⟩ h23 i23 f23 (by first | exact mm_al_nil (by omega) | (rw [show x17_3 + 1 - 1 = x17_3 by omega]; exact mm_al_sm (mm_al_put w17_0 eh20) (fun _ => ((mm_sm_pa 67 eh23 (by decide) _).trans ((mm_sm_pa 67 eh22 (by decide) _).trans (mm_sm_pa 67 eh21 (by decide) _)))))) (by first | exact mm_al_nil (by omega) | (rw [show x17_3 + 1 - 1 = x17_3 by omega]; exact mm_al_sm (mm_al_put (mm_al_sm w17_1 (fun _ => (mm_sm_pa 68 eh20 (by decide) _))) eh21) (fun _ => ((mm_sm_pa 68 eh23 (by decide) _).trans (mm_sm_pa 68 eh22 (by decide) _))))) (by first | exact mm_al_nil (by omega) | (rw [show x17_3 + 1 - 1 = x17_3 by omega]; exact mm_al_sm (mm_al_put (mm_al_sm w17_2 (fun _ => ((mm_sm_pa 70 eh21 (by decide) _).trans (mm_sm_pa 70 eh20 (by decide) _)))) eh22) (fun _ => (mm_sm_pa 70 eh23 (by decide) _)))) (by first | exact mm_al_nil (by omega) | (rw [show x17_3 + 1 - 1 = x17_3 by omega]; exact mm_al_sm (mm_al_put (mm_al_sm w17_3 (fun _ => ((mm_sm_pa 71 eh22 (by decide) _).trans ((mm_sm_pa 71 eh21 (by decide) _).trans (mm_sm_pa 71 eh20 (by decide) _))))) eh23) (fun _ => rfl))) (by omega) (by omega) (by omega) (by omega)
  refine mm_istore_nL (ls2 := [mR 66, mI p1, mI p2, mI 0]) C (mm_dec dk_X12_anew 10 rfl) (by decide) rfl ?_
  refine mm_fgt 1 ?_
  refine mm_fgt 2 ?_
  exact J17 (((400 - 0) : Int) + 1).toNat 0 ⟨by omega, by omega⟩ h3 i3 f3 (by first | exact mm_al_nil (by omega) | (rw [show x17_3 + 1 - 1 = x17_3 by omega]; exact mm_al_sm (mm_al_put w17_0 eh20) (fun _ => ((mm_sm_pa 67 eh23 (by decide) _).trans ((mm_sm_pa 67 eh22 (by decide) _).trans (mm_sm_pa 67 eh21 (by decide) _)))))) (by first | exact mm_al_nil (by omega) | (rw [show x17_3 + 1 - 1 = x17_3 by omega]; exact mm_al_sm (mm_al_put (mm_al_sm w17_1 (fun _ => (mm_sm_pa 68 eh20 (by decide) _))) eh21) (fun _ => ((mm_sm_pa 68 eh23 (by decide) _).trans (mm_sm_pa 68 eh22 (by decide) _))))) (by first | exact mm_al_nil (by omega) | (rw [show x17_3 + 1 - 1 = x17_3 by omega]; exact mm_al_sm (mm_al_put (mm_al_sm w17_2 (fun _ => ((mm_sm_pa 70 eh21 (by decide) _).trans (mm_sm_pa 70 eh20 (by decide) _)))) eh22) (fun _ => (mm_sm_pa 70 eh23 (by decide) _)))) (by first | exact mm_al_nil (by omega) | (rw [show x17_3 + 1 - 1 = x17_3 by omega]; exact mm_al_sm (mm_al_put (mm_al_sm w17_3 (fun _ => ((mm_sm_pa 71 eh22 (by decide) _).trans ((mm_sm_pa 71 eh21 (by decide) _).trans (mm_sm_pa 71 eh20 (by decide) _))))) eh23) (fun _ => rfl))) (by omega) (by omega) (by omega) (by omega)
set_option maxRecDepth 100000 in
set_option maxHeartbeats 4000000 in
theorem c_X12_land_q (l : Launch) (hl : l.stackTraces = false) (d : Nat) (hd : 1 ≤ d) (h : mH) (i0 : mm_inv h) (p1 : Int) (p2 : Int) (t0 : mm_RO h) : mm_Met l d yX12_land cX12_land 3 (some .boolean) [mR 66, mI p1, mI p2] h (mm_pi fun r h2 => (0 ≤ r ∧ r ≤ 1) ∧ mm_inv h2 ∧ mm_fr [(66, 0), (66, 1), (66, 2), (66, 3), (66, 9), (66, 10), (66, 11), (66, 12), (66, 19), (66, 21), (66, 22), (66, 23), (66, 24), (66, 40), (66, 41), (66, 58), (66, 67), (66, 82), (66, 95)] [67, 68, 69, 70, 71] h h2 ∧ ((r = 1 ∧ 1 ≤ p1 ∧ p1 ≤ 20 ∧ 1 ≤ p2 ∧ p2 ≤ 20) ∨ (r = 0 ∧ (p1 < 1 ∨ 20 < p1 ∨ p2 < 1 ∨ 20 < p2))) ∧ mm_RO h2 ∧ ((r = 0 ∧ h2.1 66 22 = h.1 66 22 ∧ h2.1 66 23 = h.1 66 23 ∧ h2.1 66 41 = h.1 66 41 ∧ h2.1 66 1 = h.1 66 1 ∧ h2.1 66 2 = h.1 66 2 ∧ h2.1 66 24 = h.1 66 24) ∨ (r = 1 ∧ h2.1 66 22 = 0 ∧ h2.1 66 23 = 0 ∧ h2.1 66 41 = 0 ∧ h2.1 66 1 = p1 ∧ h2.1 66 2 = p2 ∧ h2.1 66 24 = 0)) ∧ ((r = 0 ∧ h2.1 66 21 = h.1 66 21) ∨ (r = 1 ∧ h2.1 66 21 = 0)) ∧ (r = 1 → mm_al h2 67 399 0 ∧ mm_al h2 69 7 5 ∧ mm_al h2 68 399 0 ∧ mm_al h2 70 399 0 ∧ mm_al h2 71 399 0) ∧ (r = 0 → ∀ o j, h2.2.1 o j = h.2.1 o j) ∧ ((r = 0 ∧ h2.1 66 3 = h.1 66 3 ∧ h2.1 66 9 = h.1 66 9 ∧ h2.1 66 10 = h.1 66 10) ∨ (r = 1 ∧ h2.1 66 3 = 2 ∧ h2.1 66 9 = 0 ∧ h2.1 66 10 = 0)) ∧ ((r = 0 ∧ h2.1 66 11 = h.1 66 11 ∧ h2.1 66 12 = h.1 66 12) ∨ (r = 1 ∧ h2.1 66 11 = 0 ∧ h2.1 66 12 = 0)) ∧ ((r = 0 ∧ h2.1 66 95 = h.1 66 95) ∨ (r = 1 ∧ h2.1 66 95 = 0))) mm_nx 0 0 := by
  refine mm_ofW (ls := [mR 66, mI p1, mI p2]) hl (by decide) rfl (Nat.le_of_ble_eq_true rfl) ?_
  intro x hxl C T hnm htb
  subst hxl
  have C1 := mm_OK_le (d' := d - 1 + 1) (by omega) C
  refine mm_rng (fun hr _ => ?_)
  have ap1 : -2147483648 ≤ p1 ∧ p1 < 2147483648 := mm_ok_at hr (i := 1) rfl
  have ap2 : -2147483648 ≤ p2 ∧ p2 < 2147483648 := mm_ok_at hr (i := 2) rfl
  have f0 : mm_fr [(66, 0), (66, 1), (66, 2), (66, 3), (66, 9), (66, 10), (66, 11), (66, 12), (66, 19), (66, 21), (66, 22), (66, 23), (66, 24), (66, 40), (66, 41), (66, 58), (66, 67), (66, 82), (66, 95)] [67, 68, 69, 70, 71] h h := mm_fr_rf
  have g1 : 0 ≤ h.1 66 67 ∧ h.1 66 67 ≤ 1 := i0.1 66 67
  have g2 : 0 ≤ h.1 66 22 ∧ h.1 66 22 ≤ 8 := i0.1 66 22
  have g3 : 0 ≤ h.1 66 23 ∧ h.1 66 23 ≤ 40 := i0.1 66 23
  have g4 : 0 ≤ h.1 66 41 ∧ h.1 66 41 ≤ 99999 := i0.1 66 41
  have g5 : 1 ≤ h.1 66 1 ∧ h.1 66 1 ≤ 20 := i0.1 66 1
  have g6 : 1 ≤ h.1 66 2 ∧ h.1 66 2 ≤ 20 := i0.1 66 2
  have g7 : 0 ≤ h.1 66 21 ∧ h.1 66 21 ≤ 20 := i0.1 66 21
  have g8 : 0 ≤ h.1 66 3 ∧ h.1 66 3 ≤ 9 := i0.1 66 3
  have g9 : 0 ≤ h.1 66 9 ∧ h.1 66 9 ≤ 19 := i0.1 66 9
  have g10 : 0 ≤ h.1 66 10 ∧ h.1 66 10 ≤ 19 := i0.1 66 10
  have g11 : 0 ≤ h.1 66 24 ∧ h.1 66 24 ≤ 10 := i0.1 66 24
  have g12 : 0 ≤ h.1 66 11 ∧ h.1 66 11 ≤ 19 := i0.1 66 11
  have g13 : 0 ≤ h.1 66 12 ∧ h.1 66 12 ≤ 19 := i0.1 66 12
  have g14 : 0 ≤ h.1 66 95 ∧ h.1 66 95 ≤ 1 := i0.1 66 95
  refine mm_aload_n C (mm_dec dk_X12_land 0 rfl) rfl ?_
  refine mm_iconst C (mm_dec dk_X12_land 1 rfl) ⟨by decide, by decide⟩ ?_
  refine mm_puti C fl_X12_188 (mm_dec dk_X12_land 2 rfl) rfl rfl rfl (Or.inl ⟨rfl, rfl⟩) ?_
  have i1 : mm_inv (mm_pf h 66 0 0) := mm_inv_pf i0 (show -2147483648 ≤ 0 ∧ 0 ≤ 2147483647 from ⟨by omega, by omega⟩) (by decide)
  have f1 : mm_fr [(66, 0), (66, 1), (66, 2), (66, 3), (66, 9), (66, 10), (66, 11), (66, 12), (66, 19), (66, 21), (66, 22), (66, 23), (66, 24), (66, 40), (66, 41), (66, 58), (66, 67), (66, 82), (66, 95)] [67, 68, 69, 70, 71] h (mm_pf h 66 0 0) := mm_fr_pf f0 (by decide)
  obtain ⟨h1, eh1⟩ : ∃ z, z = mm_pf h 66 0 0 := ⟨_, rfl⟩
  rw [← eh1] at i1 f1 ⊢
  have qh1 : h1.1 66 0 = 0 := by rw [eh1]; exact mm_pf_same _ _ _ _
  have qh1_15 : h1.1 66 1 = h.1 66 1 := by rw [eh1]; exact mm_pf_ne _ _ (by decide)
  have qh1_16 : h1.1 66 2 = h.1 66 2 := by rw [eh1]; exact mm_pf_ne _ _ (by decide)
  have qh1_17 : h1.1 66 3 = h.1 66 3 := by rw [eh1]; exact mm_pf_ne _ _ (by decide)
  have qh1_18 : h1.1 66 9 = h.1 66 9 := by rw [eh1]; exact mm_pf_ne _ _ (by decide)
  have qh1_19 : h1.1 66 10 = h.1 66 10 := by rw [eh1]; exact mm_pf_ne _ _ (by decide)
  have qh1_20 : h1.1 66 11 = h.1 66 11 := by rw [eh1]; exact mm_pf_ne _ _ (by decide)
  have qh1_21 : h1.1 66 12 = h.1 66 12 := by rw [eh1]; exact mm_pf_ne _ _ (by decide)
  have qh1_22 : h1.1 66 21 = h.1 66 21 := by rw [eh1]; exact mm_pf_ne _ _ (by decide)
  have qh1_23 : h1.1 66 22 = h.1 66 22 := by rw [eh1]; exact mm_pf_ne _ _ (by decide)
  have qh1_24 : h1.1 66 23 = h.1 66 23 := by rw [eh1]; exact mm_pf_ne _ _ (by decide)
  have qh1_25 : h1.1 66 24 = h.1 66 24 := by rw [eh1]; exact mm_pf_ne _ _ (by decide)
  have qh1_26 : h1.1 66 41 = h.1 66 41 := by rw [eh1]; exact mm_pf_ne _ _ (by decide)
  have qh1_27 : h1.1 66 67 = h.1 66 67 := by rw [eh1]; exact mm_pf_ne _ _ (by decide)
  have qh1_28 : h1.1 66 95 = h.1 66 95 := by rw [eh1]; exact mm_pf_ne _ _ (by decide)
  refine mm_iload_n C (mm_dec dk_X12_land 3 rfl) rfl ?_
  refine mm_iconst C (mm_dec dk_X12_land 4 rfl) ⟨by decide, by decide⟩ ?_
  have J27 : ∀ (w27_0 : (p1 < 1 ∨ 20 < p1 ∨ p2 < 1 ∨ 20 < p2)), mm_W x 0 0 27 [mU, mU, mU] [] h1 := by
    intro w27_0
    refine mm_iconst C (mm_dec dk_X12_land 15 rfl) ⟨by decide, by decide⟩ ?_
    exact mm_zret C T (mm_dec dk_X12_land 16 rfl) (by decide : 0 ≤ 0) (by decide : 0 ≤ 0) (by omega) ⟨_, rfl, ⟨⟨by omega, by omega⟩, i1, f1, by omega, by first | exact Or.inl (by omega) | exact mm_RO_fr (wf := [(66, 0)]) (wa := []) t0 (by rw [eh1]; exact mm_fr_pf mm_fr_rf (by decide)) (by decide), by omega, by omega, by first | exact fun w => absurd w (by decide) | exact fun _ => ⟨y32_7, y32_8, y32_9, y32_10, y32_11⟩, by first | exact fun w => absurd w (by decide) | exact fun _ o j => mm_sm_pf o eh1 j, by omega, by omega, by omega⟩⟩
  refine mm_icmp_lt (tgt := 27) C (mm_dec dk_X12_land 5 rfl) (by decide) (fun c7 => ?_) (fun c7 => ?_)
  · skip
    refine mm_fgt 0 ?_
    refine mm_fgt 1 ?_
    refine mm_fgt 2 ?_
    exact J27 (by omega)
  · skip
    refine mm_iload_n C (mm_dec dk_X12_land 6 rfl) rfl ?_
    refine mm_bipush C (mm_dec dk_X12_land 7 rfl) ⟨by decide, by decide⟩ ?_
    refine mm_icmp_gt (tgt := 27) C (mm_dec dk_X12_land 8 rfl) (by decide) (fun c13 => ?_) (fun c13 => ?_)
    · skip
      refine mm_fgt 0 ?_
      refine mm_fgt 1 ?_
      refine mm_fgt 2 ?_
      exact J27 (by omega)
    · skip
      refine mm_iload_n C (mm_dec dk_X12_land 9 rfl) rfl ?_
      refine mm_iconst C (mm_dec dk_X12_land 10 rfl) ⟨by decide, by decide⟩ ?_
      refine mm_icmp_lt (tgt := 27) C (mm_dec dk_X12_land 11 rfl) (by decide) (fun c18 => ?_) (fun c18 => ?_)
      · skip
        refine mm_fgt 0 ?_
        refine mm_fgt 1 ?_
        refine mm_fgt 2 ?_
        exact J27 (by omega)
      · skip
        refine mm_iload_n C (mm_dec dk_X12_land 12 rfl) rfl ?_
        refine mm_bipush C (mm_dec dk_X12_land 13 rfl) ⟨by decide, by decide⟩ ?_
        refine mm_icmp_le (tgt := 29) C (mm_dec dk_X12_land 14 rfl) (by decide) (fun c24 => ?_) (fun c24 => ?_)
        · skip
          refine mm_aload_n C (mm_dec dk_X12_land 17 rfl) rfl ?_
          refine mm_iload_n C (mm_dec dk_X12_land 18 rfl) rfl ?_
          refine mm_iload_n C (mm_dec dk_X12_land 19 rfl) rfl ?_
          refine mm_cVv (rest := []) C1 ev_X12_184 (mm_dec dk_X12_land 20 rfl) (c_X12_anew_q x.2.1 hl (d - 1) (by omega) h1 i1 p1 p2 ⟨by omega, by omega⟩ ⟨by omega, by omega⟩) rfl rfl (Nat.le_of_ble_eq_true rfl) ⟨by decide, by decide⟩ rfl (fun h32c hp32 => ?_) (fun _ _ q => q.elim)
          obtain ⟨i32c, g32c, y32_0, y32_1, y32_2, y32_3, y32_4, y32_5, y32_6, y32_7, y32_8, y32_9, y32_10, y32_11, y32_12, y32_13, y32_14, y32_15, y32_16, y32_17, y32_18⟩ := hp32
          have f32c : mm_fr [(66, 0), (66, 1), (66, 2), (66, 3), (66, 9), (66, 10), (66, 11), (66, 12), (66, 19), (66, 21), (66, 22), (66, 23), (66, 24), (66, 40), (66, 41), (66, 58), (66, 67), (66, 82), (66, 95)] [67, 68, 69, 70, 71] h h32c := mm_fr_tr f1 g32c (by decide +kernel)
          have q32c_30 : h32c.1 66 0 = h1.1 66 0 := g32c.1 66 0 (by decide)
          have g31 : 0 ≤ (h32c.1 66 67) ∧ (h32c.1 66 67) ≤ 1 := i32c.1 66 67
          have g32 : 0 ≤ (h32c.1 66 22) ∧ (h32c.1 66 22) ≤ 8 := i32c.1 66 22
          have g33 : 0 ≤ (h32c.1 66 23) ∧ (h32c.1 66 23) ≤ 40 := i32c.1 66 23
          have g34 : 0 ≤ (h32c.1 66 41) ∧ (h32c.1 66 41) ≤ 99999 := i32c.1 66 41
          have g35 : 1 ≤ (h32c.1 66 1) ∧ (h32c.1 66 1) ≤ 20 := i32c.1 66 1
          have g36 : 1 ≤ (h32c.1 66 2) ∧ (h32c.1 66 2) ≤ 20 := i32c.1 66 2
          have g37 : 0 ≤ (h32c.1 66 21) ∧ (h32c.1 66 21) ≤ 20 := i32c.1 66 21
          have g38 : 0 ≤ (h32c.1 66 3) ∧ (h32c.1 66 3) ≤ 9 := i32c.1 66 3
          have g39 : 0 ≤ (h32c.1 66 9) ∧ (h32c.1 66 9) ≤ 19 := i32c.1 66 9
          have g40 : 0 ≤ (h32c.1 66 10) ∧ (h32c.1 66 10) ≤ 19 := i32c.1 66 10
          have g41 : 0 ≤ (h32c.1 66 24) ∧ (h32c.1 66 24) ≤ 10 := i32c.1 66 24
          have g42 : 0 ≤ (h32c.1 66 11) ∧ (h32c.1 66 11) ≤ 19 := i32c.1 66 11
          have g43 : 0 ≤ (h32c.1 66 12) ∧ (h32c.1 66 12) ≤ 19 := i32c.1 66 12
          have g44 : 0 ≤ (h32c.1 66 95) ∧ (h32c.1 66 95) ≤ 1 := i32c.1 66 95
          refine mm_iconst C (mm_dec dk_X12_land 21 rfl) ⟨by decide, by decide⟩ ?_
          exact mm_zret C T (mm_dec dk_X12_land 22 rfl) (by decide : 0 ≤ 0) (by decide : 0 ≤ 0) (by omega) ⟨_, rfl, ⟨⟨by omega, by omega⟩, i32c, f32c, by omega, by first | exact Or.inl (by omega) | exact mm_RO_fr (wf := [(66, 0)]) (wa := []) t0 (by rw [eh1]; exact mm_fr_pf mm_fr_rf (by decide)) (by decide), by omega, by omega, by first | exact fun w => absurd w (by decide) | exact fun _ => ⟨y32_7, y32_8, y32_9, y32_10, y32_11⟩, by first | exact fun w => absurd w (by decide) | exact fun _ o j => mm_sm_pf o eh1 j, by omega, by omega, by omega⟩⟩
        · skip
          refine mm_fgt 0 ?_
          refine mm_fgt 1 ?_
          refine mm_fgt 2 ?_
          exact J27 (by omega)
set_option maxRecDepth 100000 in
set_option maxHeartbeats 4000000 in
theorem c_X12_course_q (l : Launch) (hl : l.stackTraces = false) (d : Nat) (hd : 0 ≤ d) (h : mH) (i0 : mm_inv h) (p1 : Int) (bp1 : 0 ≤ p1 ∧ p1 ≤ 1) : mm_Met l d yX12_course cX12_course 2 (some .int) [mR 66, mI p1] h (mm_pi fun r h2 => (-1 ≤ r ∧ r ≤ 7) ∧ mm_inv h2 ∧ mm_fr [(66, 0), (66, 22)] [80, 81, 83] h h2 ∧ ((h.1 66 22 ≤ 7 ∧ r = h.1 66 22 ∧ h2.1 66 22 = h.1 66 22 + 1) ∨ (8 ≤ h.1 66 22 ∧ r = -1 ∧ h2.1 66 22 = h.1 66 22)) ∧ (∃ f : Int, ((f = 1 ∧ h2.1 66 22 = h.1 66 22 + 1) ∨ (f = 0 ∧ h2.1 66 22 = h.1 66 22)) ∧ mm_up h h2 83 (h.1 66 22) p1 f ∧ mm_up h h2 80 (h.1 66 22) 0 f ∧ mm_up h h2 81 (h.1 66 22) 0 f)) mm_nx 0 0 := by
  refine mm_ofW (ls := [mR 66, mI p1]) hl (by decide) rfl (Nat.le_of_ble_eq_true rfl) ?_
  intro x hxl C T hnm htb
  subst hxl
  refine mm_rng (fun hr _ => ?_)
  have ap1 : -2147483648 ≤ p1 ∧ p1 < 2147483648 := mm_ok_at hr (i := 1) rfl
  have f0 : mm_fr [(66, 0), (66, 22)] [80, 81, 83] h h := mm_fr_rf
  have g1 : 0 ≤ h.1 66 22 ∧ h.1 66 22 ≤ 8 := i0.1 66 22
  refine mm_aload_n C (mm_dec dk_X12_course 0 rfl) rfl ?_
  refine mm_iconst C (mm_dec dk_X12_course 1 rfl) ⟨by decide, by decide⟩ ?_
  refine mm_puti C fl_X12_188 (mm_dec dk_X12_course 2 rfl) rfl rfl rfl (Or.inl ⟨rfl, rfl⟩) ?_
  have i1 : mm_inv (mm_pf h 66 0 0) := mm_inv_pf i0 (show -2147483648 ≤ 0 ∧ 0 ≤ 2147483647 from ⟨by omega, by omega⟩) (by decide)
  have f1 : mm_fr [(66, 0), (66, 22)] [80, 81, 83] h (mm_pf h 66 0 0) := mm_fr_pf f0 (by decide)
  obtain ⟨h1, eh1⟩ : ∃ z, z = mm_pf h 66 0 0 := ⟨_, rfl⟩
  rw [← eh1] at i1 f1 ⊢
  have qh1 : h1.1 66 0 = 0 := by rw [eh1]; exact mm_pf_same _ _ _ _
  have qh1_2 : h1.1 66 22 = h.1 66 22 := by rw [eh1]; exact mm_pf_ne _ _ (by decide)
  refine mm_aload_n C (mm_dec dk_X12_course 3 rfl) rfl ?_
  refine mm_geti C fl_X12_219 (mm_dec dk_X12_course 4 rfl) rfl rfl (Or.inl rfl) ?_
  refine mm_bipush C (mm_dec dk_X12_course 5 rfl) ⟨by decide, by decide⟩ ?_
  refine mm_icmp_ne (tgt := 16) C (mm_dec dk_X12_course 6 rfl) (by decide) (fun c11 => ?_) (fun c11 => ?_)
  · skip
    refine mm_aload_n C (mm_dec dk_X12_course 9 rfl) rfl ?_
    refine mm_getr (t := 83) C fl_X12_60 (mm_dec dk_X12_course 10 rfl) rfl rfl (mm_ref i1 rfl) ?_
    refine mm_aload_n C (mm_dec dk_X12_course 11 rfl) rfl ?_
    refine mm_geti C fl_X12_219 (mm_dec dk_X12_course 12 rfl) rfl rfl (Or.inl rfl) ?_
    refine mm_iload_n C (mm_dec dk_X12_course 13 rfl) rfl ?_
    refine mm_zast C (mm_dec dk_X12_course 14 rfl) rfl (by omega) (by omega) (by omega) ?_
    have i2 : mm_inv (mm_pa h1 83 (h1.1 66 22) p1) := mm_inv_pa i1 (show 0 ≤ p1 ∧ p1 ≤ 1 from ⟨by omega, by omega⟩)
    have f2 : mm_fr [(66, 0), (66, 22)] [80, 81, 83] h (mm_pa h1 83 (h1.1 66 22) p1) := mm_fr_pa f1 (by decide)
    obtain ⟨h2, eh2⟩ : ∃ z, z = mm_pa h1 83 (h1.1 66 22) p1 := ⟨_, rfl⟩
    rw [← eh2] at i2 f2 ⊢
    have qh2_3 : h2.1 66 0 = h1.1 66 0 := by rw [eh2]; rfl
    have qh2_4 : h2.1 66 22 = h1.1 66 22 := by rw [eh2]; rfl
    refine mm_aload_n C (mm_dec dk_X12_course 15 rfl) rfl ?_
    refine mm_getr (t := 80) C fl_X12_51 (mm_dec dk_X12_course 16 rfl) rfl rfl (mm_ref i2 rfl) ?_
    refine mm_aload_n C (mm_dec dk_X12_course 17 rfl) rfl ?_
    refine mm_geti C fl_X12_219 (mm_dec dk_X12_course 18 rfl) rfl rfl (Or.inl rfl) ?_
    refine mm_iconst C (mm_dec dk_X12_course 19 rfl) ⟨by decide, by decide⟩ ?_
    refine mm_iast C (mm_dec dk_X12_course 20 rfl) rfl (by omega) (by omega) ?_
    have i3 : mm_inv (mm_pa h2 80 (h2.1 66 22) 0) := mm_inv_pa i2 (show 0 ≤ 0 ∧ 0 ≤ 12 from ⟨by omega, by omega⟩)
    have f3 : mm_fr [(66, 0), (66, 22)] [80, 81, 83] h (mm_pa h2 80 (h2.1 66 22) 0) := mm_fr_pa f2 (by decide)
    obtain ⟨h3, eh3⟩ : ∃ z, z = mm_pa h2 80 (h2.1 66 22) 0 := ⟨_, rfl⟩
    rw [← eh3] at i3 f3 ⊢
    have qh3_5 : h3.1 66 0 = h2.1 66 0 := by rw [eh3]; rfl
    have qh3_6 : h3.1 66 22 = h2.1 66 22 := by rw [eh3]; rfl
    refine mm_aload_n C (mm_dec dk_X12_course 21 rfl) rfl ?_
    refine mm_getr (t := 81) C fl_X12_54 (mm_dec dk_X12_course 22 rfl) rfl rfl (mm_ref i3 rfl) ?_
    refine mm_aload_n C (mm_dec dk_X12_course 23 rfl) rfl ?_
    refine mm_geti C fl_X12_219 (mm_dec dk_X12_course 24 rfl) rfl rfl (Or.inl rfl) ?_
    refine mm_iconst C (mm_dec dk_X12_course 25 rfl) ⟨by decide, by decide⟩ ?_
    refine mm_iast C (mm_dec dk_X12_course 26 rfl) rfl (by omega) (by omega) ?_
    have i4 : mm_inv (mm_pa h3 81 (h3.1 66 22) 0) := mm_inv_pa i3 (show -2147483648 ≤ 0 ∧ 0 ≤ 2147483647 from ⟨by omega, by omega⟩)
    have f4 : mm_fr [(66, 0), (66, 22)] [80, 81, 83] h (mm_pa h3 81 (h3.1 66 22) 0) := mm_fr_pa f3 (by decide)
    obtain ⟨h4, eh4⟩ : ∃ z, z = mm_pa h3 81 (h3.1 66 22) 0 := ⟨_, rfl⟩
    rw [← eh4] at i4 f4 ⊢
    have qh4_7 : h4.1 66 0 = h3.1 66 0 := by rw [eh4]; rfl
    have qh4_8 : h4.1 66 22 = h3.1 66 22 := by rw [eh4]; rfl
    refine mm_aload_n C (mm_dec dk_X12_course 27 rfl) rfl ?_
    refine mm_dup C (mm_dec dk_X12_course 28 rfl) (show (2 : Nat) ≠ 1 by decide) ?_
    refine mm_geti C fl_X12_219 (mm_dec dk_X12_course 29 rfl) rfl rfl (Or.inl rfl) ?_
    refine mm_iconst C (mm_dec dk_X12_course 30 rfl) ⟨by decide, by decide⟩ ?_
    refine mm_iadd C (mm_dec dk_X12_course 31 rfl) ⟨by omega, by omega⟩ ?_
    refine mm_puti C fl_X12_219 (mm_dec dk_X12_course 32 rfl) rfl rfl rfl (Or.inl ⟨rfl, rfl⟩) ?_
    have i5 : mm_inv (mm_pf h4 66 22 ((h4.1 66 22) + 1)) := mm_inv_pf i4 (show 0 ≤ ((h4.1 66 22) + 1) ∧ ((h4.1 66 22) + 1) ≤ 8 from ⟨by omega, by omega⟩) (by decide)
    have f5 : mm_fr [(66, 0), (66, 22)] [80, 81, 83] h (mm_pf h4 66 22 ((h4.1 66 22) + 1)) := mm_fr_pf f4 (by decide)
    obtain ⟨h5, eh5⟩ : ∃ z, z = mm_pf h4 66 22 ((h4.1 66 22) + 1) := ⟨_, rfl⟩
    rw [← eh5] at i5 f5 ⊢
    have qh5 : h5.1 66 22 = ((h4.1 66 22) + 1) := by rw [eh5]; exact mm_pf_same _ _ _ _
    have qh5_9 : h5.1 66 0 = h4.1 66 0 := by rw [eh5]; exact mm_pf_ne _ _ (by decide)
    refine mm_aload_n C (mm_dec dk_X12_course 33 rfl) rfl ?_
    refine mm_geti C fl_X12_219 (mm_dec dk_X12_course 34 rfl) rfl rfl (Or.inl rfl) ?_
    refine mm_iconst C (mm_dec dk_X12_course 35 rfl) ⟨by decide, by decide⟩ ?_
    refine mm_isub C (mm_dec dk_X12_course 36 rfl) ⟨by omega, by omega⟩ ?_
    exact mm_iret C T (mm_dec dk_X12_course 37 rfl) (by decide : 0 ≤ 0) (by decide : 0 ≤ 0) ⟨_, rfl, ⟨⟨by omega, by omega⟩, i5, f5, by omega, by first | exact ⟨0, Or.inr ⟨rfl, by omega⟩, mm_up_no (by decide) (fun j => mm_sm_pf 83 eh1 j), mm_up_no (by decide) (fun j => mm_sm_pf 80 eh1 j), mm_up_no (by decide) (fun j => mm_sm_pf 81 eh1 j)⟩ | exact ⟨1, Or.inl ⟨rfl, by omega⟩, mm_up_pav (fun _ => (mm_sm_pf 83 eh1 _)) eh2 (fun _ => ((mm_sm_pf 83 eh5 _).trans ((mm_sm_pa 83 eh4 (by decide) _).trans (mm_sm_pa 83 eh3 (by decide) _)))) (by omega) (by omega) rfl, mm_up_pav (fun _ => ((mm_sm_pa 80 eh2 (by decide) _).trans (mm_sm_pf 80 eh1 _))) eh3 (fun _ => ((mm_sm_pf 80 eh5 _).trans (mm_sm_pa 80 eh4 (by decide) _))) (by omega) (by omega) rfl, mm_up_pav (fun _ => ((mm_sm_pa 81 eh3 (by decide) _).trans ((mm_sm_pa 81 eh2 (by decide) _).trans (mm_sm_pf 81 eh1 _)))) eh4 (fun _ => (mm_sm_pf 81 eh5 _)) (by omega) (by omega) rfl⟩⟩⟩
  · skip
    refine mm_iconst C (mm_dec dk_X12_course 7 rfl) ⟨by decide, by decide⟩ ?_
    exact mm_iret C T (mm_dec dk_X12_course 8 rfl) (by decide : 0 ≤ 0) (by decide : 0 ≤ 0) ⟨_, rfl, ⟨⟨by omega, by omega⟩, i1, f1, by omega, by first | exact ⟨0, Or.inr ⟨rfl, by omega⟩, mm_up_no (by decide) (fun j => mm_sm_pf 83 eh1 j), mm_up_no (by decide) (fun j => mm_sm_pf 80 eh1 j), mm_up_no (by decide) (fun j => mm_sm_pf 81 eh1 j)⟩ | exact ⟨1, Or.inl ⟨rfl, by omega⟩, mm_up_pav (fun _ => (mm_sm_pf 83 eh1 _)) eh2 (fun _ => ((mm_sm_pf 83 eh5 _).trans ((mm_sm_pa 83 eh4 (by decide) _).trans (mm_sm_pa 83 eh3 (by decide) _)))) (by omega) (by omega) rfl, mm_up_pav (fun _ => ((mm_sm_pa 80 eh2 (by decide) _).trans (mm_sm_pf 80 eh1 _))) eh3 (fun _ => ((mm_sm_pf 80 eh5 _).trans (mm_sm_pa 80 eh4 (by decide) _))) (by omega) (by omega) rfl, mm_up_pav (fun _ => ((mm_sm_pa 81 eh3 (by decide) _).trans ((mm_sm_pa 81 eh2 (by decide) _).trans (mm_sm_pf 81 eh1 _)))) eh4 (fun _ => (mm_sm_pf 81 eh5 _)) (by omega) (by omega) rfl⟩⟩⟩
set_option maxRecDepth 100000 in
set_option maxHeartbeats 4000000 in
theorem c_X12_thrown_q (l : Launch) (hl : l.stackTraces = false) (d : Nat) (hd : 0 ≤ d) (h : mH) (i0 : mm_inv h) : mm_Met l d yX12_thrown cX12_thrown 1 (some .int) [mR 66] h (mm_pi fun r h2 => h2 = h ∧ (r = (h.1 66 0))) mm_nx 0 0 := by
  refine mm_ofW (ls := [mR 66]) hl (by decide) rfl (Nat.le_of_ble_eq_true rfl) ?_
  intro x hxl C T hnm htb
  subst hxl
  have f0 : mm_fr [] [] h h := mm_fr_rf
  refine mm_aload_n C (mm_dec dk_X12_thrown 0 rfl) rfl ?_
  refine mm_geti C fl_X12_188 (mm_dec dk_X12_thrown 1 rfl) rfl rfl (Or.inl rfl) ?_
  have g1 : -2147483648 ≤ (h.1 66 0) ∧ (h.1 66 0) ≤ 2147483647 := i0.1 66 0
  exact mm_iret C T (mm_dec dk_X12_thrown 2 rfl) (by decide : 0 ≤ 0) (by decide : 0 ≤ 0) ⟨_, rfl, ⟨rfl, rfl⟩⟩
