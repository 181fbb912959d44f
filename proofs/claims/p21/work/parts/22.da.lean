set_option maxRecDepth 100000 in
set_option maxHeartbeats 4000000 in
theorem c_X8_setDefaults_44_q (l : Launch) (hl : l.stackTraces = false) (d : Nat) (hd : 0 ≤ d) (h : mH) (i0 : mm_inv h) : mm_Met l d yX8_setDefaults cX8_setDefaults 1 none [mR 44] h (mm_pv fun h2 => mm_inv h2 ∧ mm_fr [] [44] h h2 ∧ h2.2.1 44 0 = 3600 ∧ h2.2.1 44 1 = 60 ∧ h2.2.1 44 2 = 900) mm_nx 0 0 := by
  refine mm_ofW (ls := [mR 44]) hl (by decide) rfl (Nat.le_of_ble_eq_true rfl) ?_
  intro x hxl C T hnm htb
  subst hxl
  have f0 : mm_fr [] [44] h h := mm_fr_rf
  refine mm_aload_n C (mm_dec dk_X8_setDefaults 0 rfl) rfl ?_
  refine mm_iconst C (mm_dec dk_X8_setDefaults 1 rfl) ⟨by decide, by decide⟩ ?_
  refine mm_sipush C (mm_dec dk_X8_setDefaults 2 rfl) ⟨by decide, by decide⟩ ?_
  refine mm_iast C (mm_dec dk_X8_setDefaults 3 rfl) rfl (by omega) (by omega) ?_
  have i1 : mm_inv (mm_pa h 44 0 3600) := mm_inv_pa i0 (show -2147483648 ≤ 3600 ∧ 3600 ≤ 2147483647 from ⟨by omega, by omega⟩)
  have f1 : mm_fr [] [44] h (mm_pa h 44 0 3600) := mm_fr_pa f0 (by decide)
  obtain ⟨h1, eh1⟩ : ∃ z, z = mm_pa h 44 0 3600 := ⟨_, rfl⟩
  rw [← eh1] at i1 f1 ⊢
  refine mm_aload_n C (mm_dec dk_X8_setDefaults 4 rfl) rfl ?_
  refine mm_iconst C (mm_dec dk_X8_setDefaults 5 rfl) ⟨by decide, by decide⟩ ?_
  refine mm_bipush C (mm_dec dk_X8_setDefaults 6 rfl) ⟨by decide, by decide⟩ ?_
  refine mm_iast C (mm_dec dk_X8_setDefaults 7 rfl) rfl (by omega) (by omega) ?_
  have i2 : mm_inv (mm_pa h1 44 1 60) := mm_inv_pa i1 (show -2147483648 ≤ 60 ∧ 60 ≤ 2147483647 from ⟨by omega, by omega⟩)
  have f2 : mm_fr [] [44] h (mm_pa h1 44 1 60) := mm_fr_pa f1 (by decide)
  obtain ⟨h2, eh2⟩ : ∃ z, z = mm_pa h1 44 1 60 := ⟨_, rfl⟩
  rw [← eh2] at i2 f2 ⊢
  refine mm_aload_n C (mm_dec dk_X8_setDefaults 8 rfl) rfl ?_
  refine mm_iconst C (mm_dec dk_X8_setDefaults 9 rfl) ⟨by decide, by decide⟩ ?_
  refine mm_sipush C (mm_dec dk_X8_setDefaults 10 rfl) ⟨by decide, by decide⟩ ?_
  refine mm_iast C (mm_dec dk_X8_setDefaults 11 rfl) rfl (by omega) (by omega) ?_
  have i3 : mm_inv (mm_pa h2 44 2 900) := mm_inv_pa i2 (show -2147483648 ≤ 900 ∧ 900 ≤ 2147483647 from ⟨by omega, by omega⟩)
  have f3 : mm_fr [] [44] h (mm_pa h2 44 2 900) := mm_fr_pa f2 (by decide)
  obtain ⟨h3, eh3⟩ : ∃ z, z = mm_pa h2 44 2 900 := ⟨_, rfl⟩
  rw [← eh3] at i3 f3 ⊢
  exact mm_vret C T (mm_dec dk_X8_setDefaults 12 rfl) (by decide : 0 ≤ 0) (by decide : 0 ≤ 0) ⟨rfl, ⟨i3, f3, by rw [eh3, mm_pa_j 44 (by decide), eh2, mm_pa_j 44 (by decide), eh1]; exact mm_pa_same _ _ _ _, by rw [eh3, mm_pa_j 44 (by decide), eh2]; exact mm_pa_same _ _ _ _, by rw [eh3]; exact mm_pa_same _ _ _ _⟩⟩
set_option maxRecDepth 100000 in
set_option maxHeartbeats 4000000 in
theorem c_X8_clear_q (l : Launch) (hl : l.stackTraces = false) (d : Nat) (hd : 1 ≤ d) (h : mH) (i0 : mm_inv h) : mm_Met l d yX8_clear cX8_clear 1 none [mR 42] h (mm_pv fun h2 => mm_inv h2 ∧ mm_fr [(42, 3)] [44] h h2 ∧ h2.2.1 44 0 = 3600 ∧ h2.2.1 44 1 = 60 ∧ h2.2.1 44 2 = 900 ∧ h2.1 42 3 = 0) mm_nx 0 0 := by
  refine mm_ofW (ls := [mR 42]) hl (by decide) rfl (Nat.le_of_ble_eq_true rfl) ?_
  intro x hxl C T hnm htb
  subst hxl
  have C1 := mm_OK_le (d' := d - 1 + 1) (by omega) C
  have f0 : mm_fr [(42, 3)] [44] h h := mm_fr_rf
  have g1 : 0 ≤ h.1 42 3 ∧ h.1 42 3 ≤ 500 := i0.1 42 3
  refine mm_aload_n C (mm_dec dk_X8_clear 0 rfl) rfl ?_
  refine mm_iconst C (mm_dec dk_X8_clear 1 rfl) ⟨by decide, by decide⟩ ?_
  refine mm_puti C fl_X8_21 (mm_dec dk_X8_clear 2 rfl) rfl rfl rfl (Or.inl ⟨rfl, rfl⟩) ?_
  have i1 : mm_inv (mm_pf h 42 3 0) := mm_inv_pf i0 (show 0 ≤ 0 ∧ 0 ≤ 500 from ⟨by omega, by omega⟩) (by decide)
  have f1 : mm_fr [(42, 3)] [44] h (mm_pf h 42 3 0) := mm_fr_pf f0 (by decide)
  obtain ⟨h1, eh1⟩ : ∃ z, z = mm_pf h 42 3 0 := ⟨_, rfl⟩
  rw [← eh1] at i1 f1 ⊢
  have qh1 : h1.1 42 3 = 0 := by rw [eh1]; exact mm_pf_same _ _ _ _
  refine mm_aload_n C (mm_dec dk_X8_clear 3 rfl) rfl ?_
  refine mm_getr (t := 44) C fl_X8_15 (mm_dec dk_X8_clear 4 rfl) rfl rfl (mm_ref i1 rfl) ?_
  refine mm_cSv (rest := []) C1 es_X8_35 (mm_dec dk_X8_clear 5 rfl) (c_X8_setDefaults_44_q x.2.1 hl (d - 1) (by omega) h1 i1 ) rfl (Nat.le_of_ble_eq_true rfl) ⟨by decide, by decide⟩ rfl (fun h9c hp9 => ?_) (fun _ _ q => q.elim)
  obtain ⟨i9c, g9c, y9_0, y9_1, y9_2⟩ := hp9
  have f9c : mm_fr [(42, 3)] [44] h h9c := mm_fr_tr f1 g9c (by decide +kernel)
  have q9c_3 : h9c.1 42 3 = h1.1 42 3 := g9c.1 42 3 (by decide)
  exact mm_vret C T (mm_dec dk_X8_clear 6 rfl) (by decide : 0 ≤ 0) (by decide : 0 ≤ 0) ⟨rfl, ⟨i9c, f9c, by exact y9_0, by exact y9_1, by exact y9_2, by omega⟩⟩
set_option maxRecDepth 100000 in
set_option maxHeartbeats 4000000 in
theorem c_X6_clear_q (l : Launch) (hl : l.stackTraces = false) (d : Nat) (hd : 0 ≤ d) (h : mH) (i0 : mm_inv h) : mm_Met l d yX6_clear cX6_clear 1 none [mR 30] h (mm_pv fun h2 => mm_inv h2 ∧ mm_fr [(30, 6), (30, 12), (30, 13)] [] h h2 ∧ h2.1 30 6 = 0 ∧ h2.1 30 12 = 0 ∧ h2.1 30 13 = 0) mm_nx 0 0 := by
  refine mm_ofW (ls := [mR 30]) hl (by decide) rfl (Nat.le_of_ble_eq_true rfl) ?_
  intro x hxl C T hnm htb
  subst hxl
  have f0 : mm_fr [(30, 6), (30, 12), (30, 13)] [] h h := mm_fr_rf
  have g1 : 0 ≤ h.1 30 6 ∧ h.1 30 6 ≤ 500 := i0.1 30 6
  have g2 : 0 ≤ h.1 30 12 ∧ h.1 30 12 ≤ 40 := i0.1 30 12
  have g3 : -2147483648 ≤ h.1 30 13 ∧ h.1 30 13 ≤ 2147483647 := i0.1 30 13
  refine mm_aload_n C (mm_dec dk_X6_clear 0 rfl) rfl ?_
  refine mm_iconst C (mm_dec dk_X6_clear 1 rfl) ⟨by decide, by decide⟩ ?_
  refine mm_puti C fl_X6_30 (mm_dec dk_X6_clear 2 rfl) rfl rfl rfl (Or.inl ⟨rfl, rfl⟩) ?_
  have i1 : mm_inv (mm_pf h 30 6 0) := mm_inv_pf i0 (show 0 ≤ 0 ∧ 0 ≤ 500 from ⟨by omega, by omega⟩) (by decide)
  have f1 : mm_fr [(30, 6), (30, 12), (30, 13)] [] h (mm_pf h 30 6 0) := mm_fr_pf f0 (by decide)
  obtain ⟨h1, eh1⟩ : ∃ z, z = mm_pf h 30 6 0 := ⟨_, rfl⟩
  rw [← eh1] at i1 f1 ⊢
  have qh1 : h1.1 30 6 = 0 := by rw [eh1]; exact mm_pf_same _ _ _ _
  have qh1_4 : h1.1 30 12 = h.1 30 12 := by rw [eh1]; exact mm_pf_ne _ _ (by decide)
  have qh1_5 : h1.1 30 13 = h.1 30 13 := by rw [eh1]; exact mm_pf_ne _ _ (by decide)
  refine mm_aload_n C (mm_dec dk_X6_clear 3 rfl) rfl ?_
  refine mm_iconst C (mm_dec dk_X6_clear 4 rfl) ⟨by decide, by decide⟩ ?_
  refine mm_puti C fl_X6_49 (mm_dec dk_X6_clear 5 rfl) rfl rfl rfl (Or.inl ⟨rfl, rfl⟩) ?_
  have i2 : mm_inv (mm_pf h1 30 12 0) := mm_inv_pf i1 (show 0 ≤ 0 ∧ 0 ≤ 40 from ⟨by omega, by omega⟩) (by decide)
  have f2 : mm_fr [(30, 6), (30, 12), (30, 13)] [] h (mm_pf h1 30 12 0) := mm_fr_pf f1 (by decide)
  obtain ⟨h2, eh2⟩ : ∃ z, z = mm_pf h1 30 12 0 := ⟨_, rfl⟩
  rw [← eh2] at i2 f2 ⊢
  have qh2 : h2.1 30 12 = 0 := by rw [eh2]; exact mm_pf_same _ _ _ _
  have qh2_6 : h2.1 30 6 = h1.1 30 6 := by rw [eh2]; exact mm_pf_ne _ _ (by decide)
  have qh2_7 : h2.1 30 13 = h1.1 30 13 := by rw [eh2]; exact mm_pf_ne _ _ (by decide)
  refine mm_aload_n C (mm_dec dk_X6_clear 6 rfl) rfl ?_
  refine mm_iconst C (mm_dec dk_X6_clear 7 rfl) ⟨by decide, by decide⟩ ?_
  refine mm_puti C fl_X6_52 (mm_dec dk_X6_clear 8 rfl) rfl rfl rfl (Or.inl ⟨rfl, rfl⟩) ?_
  have i3 : mm_inv (mm_pf h2 30 13 0) := mm_inv_pf i2 (show -2147483648 ≤ 0 ∧ 0 ≤ 2147483647 from ⟨by omega, by omega⟩) (by decide)
  have f3 : mm_fr [(30, 6), (30, 12), (30, 13)] [] h (mm_pf h2 30 13 0) := mm_fr_pf f2 (by decide)
  obtain ⟨h3, eh3⟩ : ∃ z, z = mm_pf h2 30 13 0 := ⟨_, rfl⟩
  rw [← eh3] at i3 f3 ⊢
  have qh3 : h3.1 30 13 = 0 := by rw [eh3]; exact mm_pf_same _ _ _ _
  have qh3_8 : h3.1 30 6 = h2.1 30 6 := by rw [eh3]; exact mm_pf_ne _ _ (by decide)
  have qh3_9 : h3.1 30 12 = h2.1 30 12 := by rw [eh3]; exact mm_pf_ne _ _ (by decide)
  exact mm_vret C T (mm_dec dk_X6_clear 9 rfl) (by decide : 0 ≤ 0) (by decide : 0 ≤ 0) ⟨rfl, ⟨i3, f3, by omega, by omega, by omega⟩⟩
set_option maxRecDepth 100000 in
set_option maxHeartbeats 4000000 in
theorem c_X2_open_q (l : Launch) (hl : l.stackTraces = false) (d : Nat) (hd : 0 ≤ d) (h : mH) (i0 : mm_inv h) (p1 : Int) (bp1 : 0 ≤ p1 ∧ p1 ≤ 1) (u0 : (h.1 14 8) ≤ 7) : mm_Met l d yX2_open cX2_open 2 (some .int) [mR 14, mI p1] h (mm_pi fun r h2 => (0 ≤ r ∧ r ≤ 7) ∧ mm_inv h2 ∧ mm_fr [(14, 8)] [17, 18, 19, 20] h h2 ∧ h2.1 14 8 = h.1 14 8 + 1 ∧ r = h.1 14 8 ∧ mm_up h h2 17 (h.1 14 8) p1 1 ∧ mm_up h h2 18 (h.1 14 8) 0 1 ∧ mm_up h h2 19 (h.1 14 8) 0 1 ∧ mm_up h h2 20 (h.1 14 8) 0 1) mm_nx 0 0 := by
  refine mm_ofW (ls := [mR 14, mI p1]) hl (by decide) rfl (Nat.le_of_ble_eq_true rfl) ?_
  intro x hxl C T hnm htb
  subst hxl
  refine mm_rng (fun hr _ => ?_)
  have ap1 : -2147483648 ≤ p1 ∧ p1 < 2147483648 := mm_ok_at hr (i := 1) rfl
  have f0 : mm_fr [(14, 8)] [17, 18, 19, 20] h h := mm_fr_rf
  have g1 : 0 ≤ h.1 14 8 ∧ h.1 14 8 ≤ 8 := i0.1 14 8
  refine mm_aload_n C (mm_dec dk_X2_open 0 rfl) rfl ?_
  refine mm_getr (t := 17) C fl_X2_18 (mm_dec dk_X2_open 1 rfl) rfl rfl (mm_ref i0 rfl) ?_
  refine mm_aload_n C (mm_dec dk_X2_open 2 rfl) rfl ?_
  refine mm_geti C fl_X2_38 (mm_dec dk_X2_open 3 rfl) rfl rfl (Or.inl rfl) ?_
  refine mm_iload_n C (mm_dec dk_X2_open 4 rfl) rfl ?_
  refine mm_zast C (mm_dec dk_X2_open 5 rfl) rfl (by omega) (by omega) (by omega) ?_
  have i1 : mm_inv (mm_pa h 17 (h.1 14 8) p1) := mm_inv_pa i0 (show 0 ≤ p1 ∧ p1 ≤ 1 from ⟨by omega, by omega⟩)
  have f1 : mm_fr [(14, 8)] [17, 18, 19, 20] h (mm_pa h 17 (h.1 14 8) p1) := mm_fr_pa f0 (by decide)
  obtain ⟨h1, eh1⟩ : ∃ z, z = mm_pa h 17 (h.1 14 8) p1 := ⟨_, rfl⟩
  rw [← eh1] at i1 f1 ⊢
  have qh1_2 : h1.1 14 8 = h.1 14 8 := by rw [eh1]; rfl
  refine mm_aload_n C (mm_dec dk_X2_open 6 rfl) rfl ?_
  refine mm_getr (t := 18) C fl_X2_22 (mm_dec dk_X2_open 7 rfl) rfl rfl (mm_ref i1 rfl) ?_
  refine mm_aload_n C (mm_dec dk_X2_open 8 rfl) rfl ?_
  refine mm_geti C fl_X2_38 (mm_dec dk_X2_open 9 rfl) rfl rfl (Or.inl rfl) ?_
  refine mm_iconst C (mm_dec dk_X2_open 10 rfl) ⟨by decide, by decide⟩ ?_
  refine mm_zast C (mm_dec dk_X2_open 11 rfl) rfl (by omega) (by omega) (by omega) ?_
  have i2 : mm_inv (mm_pa h1 18 (h1.1 14 8) 0) := mm_inv_pa i1 (show 0 ≤ 0 ∧ 0 ≤ 1 from ⟨by omega, by omega⟩)
  have f2 : mm_fr [(14, 8)] [17, 18, 19, 20] h (mm_pa h1 18 (h1.1 14 8) 0) := mm_fr_pa f1 (by decide)
  obtain ⟨h2, eh2⟩ : ∃ z, z = mm_pa h1 18 (h1.1 14 8) 0 := ⟨_, rfl⟩
  rw [← eh2] at i2 f2 ⊢
  have qh2_3 : h2.1 14 8 = h1.1 14 8 := by rw [eh2]; rfl
  refine mm_aload_n C (mm_dec dk_X2_open 12 rfl) rfl ?_
  refine mm_getr (t := 19) C fl_X2_25 (mm_dec dk_X2_open 13 rfl) rfl rfl (mm_ref i2 rfl) ?_
  refine mm_aload_n C (mm_dec dk_X2_open 14 rfl) rfl ?_
  refine mm_geti C fl_X2_38 (mm_dec dk_X2_open 15 rfl) rfl rfl (Or.inl rfl) ?_
  refine mm_iconst C (mm_dec dk_X2_open 16 rfl) ⟨by decide, by decide⟩ ?_
  refine mm_iast C (mm_dec dk_X2_open 17 rfl) rfl (by omega) (by omega) ?_
  have i3 : mm_inv (mm_pa h2 19 (h2.1 14 8) 0) := mm_inv_pa i2 (show 0 ≤ 0 ∧ 0 ≤ 12 from ⟨by omega, by omega⟩)
  have f3 : mm_fr [(14, 8)] [17, 18, 19, 20] h (mm_pa h2 19 (h2.1 14 8) 0) := mm_fr_pa f2 (by decide)
  obtain ⟨h3, eh3⟩ : ∃ z, z = mm_pa h2 19 (h2.1 14 8) 0 := ⟨_, rfl⟩
  rw [← eh3] at i3 f3 ⊢
  have qh3_4 : h3.1 14 8 = h2.1 14 8 := by rw [eh3]; rfl
  refine mm_aload_n C (mm_dec dk_X2_open 18 rfl) rfl ?_
  refine mm_getr (t := 20) C fl_X2_28 (mm_dec dk_X2_open 19 rfl) rfl rfl (mm_ref i3 rfl) ?_
  refine mm_aload_n C (mm_dec dk_X2_open 20 rfl) rfl ?_
  refine mm_geti C fl_X2_38 (mm_dec dk_X2_open 21 rfl) rfl rfl (Or.inl rfl) ?_
  refine mm_iconst C (mm_dec dk_X2_open 22 rfl) ⟨by decide, by decide⟩ ?_
  refine mm_iast C (mm_dec dk_X2_open 23 rfl) rfl (by omega) (by omega) ?_
  have i4 : mm_inv (mm_pa h3 20 (h3.1 14 8) 0) := mm_inv_pa i3 (show -2147483648 ≤ 0 ∧ 0 ≤ 2147483647 from ⟨by omega, by omega⟩)
  have f4 : mm_fr [(14, 8)] [17, 18, 19, 20] h (mm_pa h3 20 (h3.1 14 8) 0) := mm_fr_pa f3 (by decide)
  obtain ⟨h4, eh4⟩ : ∃ z, z = mm_pa h3 20 (h3.1 14 8) 0 := ⟨_, rfl⟩
  rw [← eh4] at i4 f4 ⊢
  have qh4_5 : h4.1 14 8 = h3.1 14 8 := by rw [eh4]; rfl
  refine mm_aload_n C (mm_dec dk_X2_open 24 rfl) rfl ?_
  refine mm_dup C (mm_dec dk_X2_open 25 rfl) (show (2 : Nat) ≠ 1 by decide) ?_
  refine mm_geti C fl_X2_38 (mm_dec dk_X2_open 26 rfl) rfl rfl (Or.inl rfl) ?_
  refine mm_iconst C (mm_dec dk_X2_open 27 rfl) ⟨by decide, by decide⟩ ?_
  refine mm_iadd C (mm_dec dk_X2_open 28 rfl) ⟨by omega, by omega⟩ ?_
  refine mm_puti C fl_X2_38 (mm_dec dk_X2_open 29 rfl) rfl rfl rfl (Or.inl ⟨rfl, rfl⟩) ?_
  have i5 : mm_inv (mm_pf h4 14 8 ((h4.1 14 8) + 1)) := mm_inv_pf i4 (show 0 ≤ ((h4.1 14 8) + 1) ∧ ((h4.1 14 8) + 1) ≤ 8 from ⟨by omega, by omega⟩) (by decide)
  have f5 : mm_fr [(14, 8)] [17, 18, 19, 20] h (mm_pf h4 14 8 ((h4.1 14 8) + 1)) := mm_fr_pf f4 (by decide)
  obtain ⟨h5, eh5⟩ : ∃ z, z = mm_pf h4 14 8 ((h4.1 14 8) + 1) := ⟨_, rfl⟩
  rw [← eh5] at i5 f5 ⊢
  have qh5 : h5.1 14 8 = ((h4.1 14 8) + 1) := by rw [eh5]; exact mm_pf_same _ _ _ _
  refine mm_aload_n C (mm_dec dk_X2_open 30 rfl) rfl ?_
  refine mm_geti C fl_X2_38 (mm_dec dk_X2_open 31 rfl) rfl rfl (Or.inl rfl) ?_
  refine mm_iconst C (mm_dec dk_X2_open 32 rfl) ⟨by decide, by decide⟩ ?_
  refine mm_isub C (mm_dec dk_X2_open 33 rfl) ⟨by omega, by omega⟩ ?_
  exact mm_iret C T (mm_dec dk_X2_open 34 rfl) (by decide : 0 ≤ 0) (by decide : 0 ≤ 0) ⟨_, rfl, ⟨⟨by omega, by omega⟩, i5, f5, by omega, by omega, by exact mm_up_pav (fun _ => rfl) eh1 (fun _ => ((mm_sm_pf 17 eh5 _).trans ((mm_sm_pa 17 eh4 (by decide) _).trans ((mm_sm_pa 17 eh3 (by decide) _).trans (mm_sm_pa 17 eh2 (by decide) _))))) (by omega) (by omega) rfl, by exact mm_up_pav (fun _ => (mm_sm_pa 18 eh1 (by decide) _)) eh2 (fun _ => ((mm_sm_pf 18 eh5 _).trans ((mm_sm_pa 18 eh4 (by decide) _).trans (mm_sm_pa 18 eh3 (by decide) _)))) (by omega) (by omega) rfl, by exact mm_up_pav (fun _ => ((mm_sm_pa 19 eh2 (by decide) _).trans (mm_sm_pa 19 eh1 (by decide) _))) eh3 (fun _ => ((mm_sm_pf 19 eh5 _).trans (mm_sm_pa 19 eh4 (by decide) _))) (by omega) (by omega) rfl, by exact mm_up_pav (fun _ => ((mm_sm_pa 20 eh3 (by decide) _).trans ((mm_sm_pa 20 eh2 (by decide) _).trans (mm_sm_pa 20 eh1 (by decide) _)))) eh4 (fun _ => (mm_sm_pf 20 eh5 _)) (by omega) (by omega) rfl⟩⟩
set_option maxRecDepth 100000 in
set_option maxHeartbeats 4000000 in
theorem c_X2_clear_q (l : Launch) (hl : l.stackTraces = false) (d : Nat) (hd : 0 ≤ d) (h : mH) (i0 : mm_inv h) : mm_Met l d yX2_clear cX2_clear 1 none [mR 14] h (mm_pv fun h2 => mm_inv h2 ∧ mm_fr [(14, 7), (14, 8)] [] h h2 ∧ h2.1 14 8 = 0 ∧ h2.1 14 7 = 0) mm_nx 0 0 := by
  refine mm_ofW (ls := [mR 14]) hl (by decide) rfl (Nat.le_of_ble_eq_true rfl) ?_
  intro x hxl C T hnm htb
  subst hxl
  have f0 : mm_fr [(14, 7), (14, 8)] [] h h := mm_fr_rf
  have g1 : 0 ≤ h.1 14 8 ∧ h.1 14 8 ≤ 8 := i0.1 14 8
  have g2 : 0 ≤ h.1 14 7 ∧ h.1 14 7 ≤ 20 := i0.1 14 7
  refine mm_aload_n C (mm_dec dk_X2_clear 0 rfl) rfl ?_
  refine mm_iconst C (mm_dec dk_X2_clear 1 rfl) ⟨by decide, by decide⟩ ?_
  refine mm_puti C fl_X2_34 (mm_dec dk_X2_clear 2 rfl) rfl rfl rfl (Or.inl ⟨rfl, rfl⟩) ?_
  have i1 : mm_inv (mm_pf h 14 7 0) := mm_inv_pf i0 (show 0 ≤ 0 ∧ 0 ≤ 20 from ⟨by omega, by omega⟩) (by decide)
  have f1 : mm_fr [(14, 7), (14, 8)] [] h (mm_pf h 14 7 0) := mm_fr_pf f0 (by decide)
  obtain ⟨h1, eh1⟩ : ∃ z, z = mm_pf h 14 7 0 := ⟨_, rfl⟩
  rw [← eh1] at i1 f1 ⊢
  have qh1 : h1.1 14 7 = 0 := by rw [eh1]; exact mm_pf_same _ _ _ _
  have qh1_3 : h1.1 14 8 = h.1 14 8 := by rw [eh1]; exact mm_pf_ne _ _ (by decide)
  refine mm_aload_n C (mm_dec dk_X2_clear 3 rfl) rfl ?_
  refine mm_iconst C (mm_dec dk_X2_clear 4 rfl) ⟨by decide, by decide⟩ ?_
  refine mm_puti C fl_X2_38 (mm_dec dk_X2_clear 5 rfl) rfl rfl rfl (Or.inl ⟨rfl, rfl⟩) ?_
  have i2 : mm_inv (mm_pf h1 14 8 0) := mm_inv_pf i1 (show 0 ≤ 0 ∧ 0 ≤ 8 from ⟨by omega, by omega⟩) (by decide)
  have f2 : mm_fr [(14, 7), (14, 8)] [] h (mm_pf h1 14 8 0) := mm_fr_pf f1 (by decide)
  obtain ⟨h2, eh2⟩ : ∃ z, z = mm_pf h1 14 8 0 := ⟨_, rfl⟩
  rw [← eh2] at i2 f2 ⊢
  have qh2 : h2.1 14 8 = 0 := by rw [eh2]; exact mm_pf_same _ _ _ _
  have qh2_4 : h2.1 14 7 = h1.1 14 7 := by rw [eh2]; exact mm_pf_ne _ _ (by decide)
  exact mm_vret C T (mm_dec dk_X2_clear 6 rfl) (by decide : 0 ≤ 0) (by decide : 0 ≤ 0) ⟨rfl, ⟨i2, f2, by omega, by omega⟩⟩
set_option maxRecDepth 100000 in
set_option maxHeartbeats 4000000 in
theorem c_X9_clear_q (l : Launch) (hl : l.stackTraces = false) (d : Nat) (hd : 0 ≤ d) (h : mH) (i0 : mm_inv h) : mm_Met l d yX9_clear cX9_clear 1 none [mR 22] h (mm_pv fun h2 => mm_inv h2 ∧ mm_fr [(22, 8), (22, 9)] [] h h2 ∧ h2.1 22 8 = 0 ∧ h2.1 22 9 = 0) mm_nx 0 0 := by
  refine mm_ofW (ls := [mR 22]) hl (by decide) rfl (Nat.le_of_ble_eq_true rfl) ?_
  intro x hxl C T hnm htb
  subst hxl
  have f0 : mm_fr [(22, 8), (22, 9)] [] h h := mm_fr_rf
  have g1 : 0 ≤ h.1 22 8 ∧ h.1 22 8 ≤ 40 := i0.1 22 8
  have g2 : 0 ≤ h.1 22 9 ∧ h.1 22 9 ≤ 10 := i0.1 22 9
  refine mm_aload_n C (mm_dec dk_X9_clear 0 rfl) rfl ?_
  refine mm_iconst C (mm_dec dk_X9_clear 1 rfl) ⟨by decide, by decide⟩ ?_
  refine mm_puti C fl_X9_34 (mm_dec dk_X9_clear 2 rfl) rfl rfl rfl (Or.inl ⟨rfl, rfl⟩) ?_
  have i1 : mm_inv (mm_pf h 22 8 0) := mm_inv_pf i0 (show 0 ≤ 0 ∧ 0 ≤ 40 from ⟨by omega, by omega⟩) (by decide)
  have f1 : mm_fr [(22, 8), (22, 9)] [] h (mm_pf h 22 8 0) := mm_fr_pf f0 (by decide)
  obtain ⟨h1, eh1⟩ : ∃ z, z = mm_pf h 22 8 0 := ⟨_, rfl⟩
  rw [← eh1] at i1 f1 ⊢
  have qh1 : h1.1 22 8 = 0 := by rw [eh1]; exact mm_pf_same _ _ _ _
  have qh1_3 : h1.1 22 9 = h.1 22 9 := by rw [eh1]; exact mm_pf_ne _ _ (by decide)
  refine mm_aload_n C (mm_dec dk_X9_clear 3 rfl) rfl ?_
  refine mm_iconst C (mm_dec dk_X9_clear 4 rfl) ⟨by decide, by decide⟩ ?_
  refine mm_puti C fl_X9_38 (mm_dec dk_X9_clear 5 rfl) rfl rfl rfl (Or.inl ⟨rfl, rfl⟩) ?_
  have i2 : mm_inv (mm_pf h1 22 9 0) := mm_inv_pf i1 (show 0 ≤ 0 ∧ 0 ≤ 10 from ⟨by omega, by omega⟩) (by decide)
  have f2 : mm_fr [(22, 8), (22, 9)] [] h (mm_pf h1 22 9 0) := mm_fr_pf f1 (by decide)
  obtain ⟨h2, eh2⟩ : ∃ z, z = mm_pf h1 22 9 0 := ⟨_, rfl⟩
  rw [← eh2] at i2 f2 ⊢
  have qh2 : h2.1 22 9 = 0 := by rw [eh2]; exact mm_pf_same _ _ _ _
  have qh2_4 : h2.1 22 8 = h1.1 22 8 := by rw [eh2]; exact mm_pf_ne _ _ (by decide)
  exact mm_vret C T (mm_dec dk_X9_clear 6 rfl) (by decide : 0 ≤ 0) (by decide : 0 ≤ 0) ⟨rfl, ⟨i2, f2, by omega, by omega⟩⟩
set_option maxRecDepth 100000 in
set_option maxHeartbeats 4000000 in
theorem c_X2_take_q (l : Launch) (hl : l.stackTraces = false) (d : Nat) (hd : 0 ≤ d) (h : mH) (i0 : mm_inv h) (p1 : Int) (bp1 : 0 ≤ p1 ∧ p1 ≤ 7) : mm_Met l d yX2_take cX2_take 2 none [mR 14, mI p1] h (mm_pv fun h2 => mm_inv h2 ∧ mm_fr [] [18] h h2 ∧ mm_up h h2 18 p1 1 1) mm_nx 0 0 := by
  refine mm_ofW (ls := [mR 14, mI p1]) hl (by decide) rfl (Nat.le_of_ble_eq_true rfl) ?_
  intro x hxl C T hnm htb
  subst hxl
  refine mm_rng (fun hr _ => ?_)
  have ap1 : -2147483648 ≤ p1 ∧ p1 < 2147483648 := mm_ok_at hr (i := 1) rfl
  have f0 : mm_fr [] [18] h h := mm_fr_rf
  refine mm_aload_n C (mm_dec dk_X2_take 0 rfl) rfl ?_
  refine mm_getr (t := 18) C fl_X2_22 (mm_dec dk_X2_take 1 rfl) rfl rfl (mm_ref i0 rfl) ?_
  refine mm_iload_n C (mm_dec dk_X2_take 2 rfl) rfl ?_
  refine mm_iconst C (mm_dec dk_X2_take 3 rfl) ⟨by decide, by decide⟩ ?_
  refine mm_zast C (mm_dec dk_X2_take 4 rfl) rfl (by omega) (by omega) (by omega) ?_
  have i1 : mm_inv (mm_pa h 18 p1 1) := mm_inv_pa i0 (show 0 ≤ 1 ∧ 1 ≤ 1 from ⟨by omega, by omega⟩)
  have f1 : mm_fr [] [18] h (mm_pa h 18 p1 1) := mm_fr_pa f0 (by decide)
  obtain ⟨h1, eh1⟩ : ∃ z, z = mm_pa h 18 p1 1 := ⟨_, rfl⟩
  rw [← eh1] at i1 f1 ⊢
  exact mm_vret C T (mm_dec dk_X2_take 5 rfl) (by decide : 0 ≤ 0) (by decide : 0 ≤ 0) ⟨rfl, ⟨i1, f1, by exact mm_up_pav (fun _ => rfl) eh1 (fun _ => rfl) (by omega) (by omega) rfl⟩⟩
set_option maxRecDepth 100000 in
set_option maxHeartbeats 4000000 in
theorem c_X9_enter_q (l : Launch) (hl : l.stackTraces = false) (d : Nat) (hd : 1 ≤ d) (h : mH) (i0 : mm_inv h) (p1 : Int) (p2 : Int) (p3 : Int) (bp1 : 0 ≤ p1 ∧ p1 ≤ 7) (bp2 : 0 ≤ p2 ∧ p2 ≤ 9) (bp3 : 0 ≤ p3 ∧ p3 ≤ 80) (u0 : (h.1 22 8) ≤ 39) : mm_Met l d yX9_enter cX9_enter 4 (some .int) [mR 22, mI p1, mI p2, mI p3] h (mm_pi fun r h2 => (0 ≤ r ∧ r ≤ 39) ∧ mm_inv h2 ∧ mm_fr [(22, 8)] [18, 23, 24, 25, 26, 27, 28] h h2 ∧ h2.1 22 8 = h.1 22 8 + 1 ∧ r = h.1 22 8 ∧ mm_up h h2 18 p1 1 1 ∧ mm_up h h2 23 (h.1 22 8) p1 1 ∧ mm_up h h2 25 (h.1 22 8) p3 1 ∧ mm_up h h2 28 (h.1 22 8) 0 1 ∧ mm_up h h2 24 (h.1 22 8) p2 1 ∧ mm_up h h2 27 (h.1 22 8) (-1) 1) mm_nx 0 0 := by
  refine mm_ofW (ls := [mR 22, mI p1, mI p2, mI p3]) hl (by decide) rfl (Nat.le_of_ble_eq_true rfl) ?_
  intro x hxl C T hnm htb
  subst hxl
  have C1 := mm_OK_le (d' := d - 1 + 1) (by omega) C
  refine mm_rng (fun hr _ => ?_)
  have ap1 : -2147483648 ≤ p1 ∧ p1 < 2147483648 := mm_ok_at hr (i := 1) rfl
  have ap2 : -2147483648 ≤ p2 ∧ p2 < 2147483648 := mm_ok_at hr (i := 2) rfl
  have ap3 : -2147483648 ≤ p3 ∧ p3 < 2147483648 := mm_ok_at hr (i := 3) rfl
  have f0 : mm_fr [(22, 8)] [18, 23, 24, 25, 26, 27, 28] h h := mm_fr_rf
  have g1 : 0 ≤ h.1 22 8 ∧ h.1 22 8 ≤ 40 := i0.1 22 8
  refine mm_aload_n C (mm_dec dk_X9_enter 0 rfl) rfl ?_
  refine mm_getr (t := 23) C fl_X9_9 (mm_dec dk_X9_enter 1 rfl) rfl rfl (mm_ref i0 rfl) ?_
  refine mm_aload_n C (mm_dec dk_X9_enter 2 rfl) rfl ?_
  refine mm_geti C fl_X9_34 (mm_dec dk_X9_enter 3 rfl) rfl rfl (Or.inl rfl) ?_
  refine mm_iload_n C (mm_dec dk_X9_enter 4 rfl) rfl ?_
  refine mm_iast C (mm_dec dk_X9_enter 5 rfl) rfl (by omega) (by omega) ?_
  have i1 : mm_inv (mm_pa h 23 (h.1 22 8) p1) := mm_inv_pa i0 (show 0 ≤ p1 ∧ p1 ≤ 7 from ⟨by omega, by omega⟩)
  have f1 : mm_fr [(22, 8)] [18, 23, 24, 25, 26, 27, 28] h (mm_pa h 23 (h.1 22 8) p1) := mm_fr_pa f0 (by decide)
  obtain ⟨h1, eh1⟩ : ∃ z, z = mm_pa h 23 (h.1 22 8) p1 := ⟨_, rfl⟩
  rw [← eh1] at i1 f1 ⊢
  have qh1_2 : h1.1 22 8 = h.1 22 8 := by rw [eh1]; rfl
  refine mm_aload_n C (mm_dec dk_X9_enter 6 rfl) rfl ?_
  refine mm_getr (t := 24) C fl_X9_15 (mm_dec dk_X9_enter 7 rfl) rfl rfl (mm_ref i1 rfl) ?_
  refine mm_aload_n C (mm_dec dk_X9_enter 8 rfl) rfl ?_
  refine mm_geti C fl_X9_34 (mm_dec dk_X9_enter 9 rfl) rfl rfl (Or.inl rfl) ?_
  refine mm_iload_n C (mm_dec dk_X9_enter 10 rfl) rfl ?_
  refine mm_iast C (mm_dec dk_X9_enter 11 rfl) rfl (by omega) (by omega) ?_
  have i2 : mm_inv (mm_pa h1 24 (h1.1 22 8) p2) := mm_inv_pa i1 (show 0 ≤ p2 ∧ p2 ≤ 9 from ⟨by omega, by omega⟩)
  have f2 : mm_fr [(22, 8)] [18, 23, 24, 25, 26, 27, 28] h (mm_pa h1 24 (h1.1 22 8) p2) := mm_fr_pa f1 (by decide)
  obtain ⟨h2, eh2⟩ : ∃ z, z = mm_pa h1 24 (h1.1 22 8) p2 := ⟨_, rfl⟩
  rw [← eh2] at i2 f2 ⊢
  have qh2_3 : h2.1 22 8 = h1.1 22 8 := by rw [eh2]; rfl
  refine mm_aload_n C (mm_dec dk_X9_enter 12 rfl) rfl ?_
  refine mm_getr (t := 25) C fl_X9_18 (mm_dec dk_X9_enter 13 rfl) rfl rfl (mm_ref i2 rfl) ?_
  refine mm_aload_n C (mm_dec dk_X9_enter 14 rfl) rfl ?_
  refine mm_geti C fl_X9_34 (mm_dec dk_X9_enter 15 rfl) rfl rfl (Or.inl rfl) ?_
  refine mm_iload_n C (mm_dec dk_X9_enter 16 rfl) rfl ?_
  refine mm_iast C (mm_dec dk_X9_enter 17 rfl) rfl (by omega) (by omega) ?_
  have i3 : mm_inv (mm_pa h2 25 (h2.1 22 8) p3) := mm_inv_pa i2 (show 0 ≤ p3 ∧ p3 ≤ 80 from ⟨by omega, by omega⟩)
  have f3 : mm_fr [(22, 8)] [18, 23, 24, 25, 26, 27, 28] h (mm_pa h2 25 (h2.1 22 8) p3) := mm_fr_pa f2 (by decide)
  obtain ⟨h3, eh3⟩ : ∃ z, z = mm_pa h2 25 (h2.1 22 8) p3 := ⟨_, rfl⟩
  rw [← eh3] at i3 f3 ⊢
  have qh3_4 : h3.1 22 8 = h2.1 22 8 := by rw [eh3]; rfl
  refine mm_aload_n C (mm_dec dk_X9_enter 18 rfl) rfl ?_
  refine mm_getr (t := 26) C fl_X9_21 (mm_dec dk_X9_enter 19 rfl) rfl rfl (mm_ref i3 rfl) ?_
  refine mm_aload_n C (mm_dec dk_X9_enter 20 rfl) rfl ?_
  refine mm_geti C fl_X9_34 (mm_dec dk_X9_enter 21 rfl) rfl rfl (Or.inl rfl) ?_
  refine mm_iconst C (mm_dec dk_X9_enter 22 rfl) ⟨by decide, by decide⟩ ?_
  refine mm_iast C (mm_dec dk_X9_enter 23 rfl) rfl (by omega) (by omega) ?_
  have i4 : mm_inv (mm_pa h3 26 (h3.1 22 8) (-1)) := mm_inv_pa i3 (show -2147483648 ≤ (-1) ∧ (-1) ≤ 2147483647 from ⟨by omega, by omega⟩)
  have f4 : mm_fr [(22, 8)] [18, 23, 24, 25, 26, 27, 28] h (mm_pa h3 26 (h3.1 22 8) (-1)) := mm_fr_pa f3 (by decide)
  obtain ⟨h4, eh4⟩ : ∃ z, z = mm_pa h3 26 (h3.1 22 8) (-1) := ⟨_, rfl⟩
  rw [← eh4] at i4 f4 ⊢
  have qh4_5 : h4.1 22 8 = h3.1 22 8 := by rw [eh4]; rfl
  refine mm_aload_n C (mm_dec dk_X9_enter 24 rfl) rfl ?_
  refine mm_getr (t := 27) C fl_X9_24 (mm_dec dk_X9_enter 25 rfl) rfl rfl (mm_ref i4 rfl) ?_
  refine mm_aload_n C (mm_dec dk_X9_enter 26 rfl) rfl ?_
  refine mm_geti C fl_X9_34 (mm_dec dk_X9_enter 27 rfl) rfl rfl (Or.inl rfl) ?_
  refine mm_iconst C (mm_dec dk_X9_enter 28 rfl) ⟨by decide, by decide⟩ ?_
  refine mm_iast C (mm_dec dk_X9_enter 29 rfl) rfl (by omega) (by omega) ?_
  have i5 : mm_inv (mm_pa h4 27 (h4.1 22 8) (-1)) := mm_inv_pa i4 (show -1 ≤ (-1) ∧ (-1) ≤ 39 from ⟨by omega, by omega⟩)
  have f5 : mm_fr [(22, 8)] [18, 23, 24, 25, 26, 27, 28] h (mm_pa h4 27 (h4.1 22 8) (-1)) := mm_fr_pa f4 (by decide)
  obtain ⟨h5, eh5⟩ : ∃ z, z = mm_pa h4 27 (h4.1 22 8) (-1) := ⟨_, rfl⟩
  rw [← eh5] at i5 f5 ⊢
  have qh5_6 : h5.1 22 8 = h4.1 22 8 := by rw [eh5]; rfl
  refine mm_aload_n C (mm_dec dk_X9_enter 30 rfl) rfl ?_
  refine mm_getr (t := 28) C fl_X9_27 (mm_dec dk_X9_enter 31 rfl) rfl rfl (mm_ref i5 rfl) ?_
  refine mm_aload_n C (mm_dec dk_X9_enter 32 rfl) rfl ?_
  refine mm_geti C fl_X9_34 (mm_dec dk_X9_enter 33 rfl) rfl rfl (Or.inl rfl) ?_
  refine mm_iconst C (mm_dec dk_X9_enter 34 rfl) ⟨by decide, by decide⟩ ?_
  refine mm_zast C (mm_dec dk_X9_enter 35 rfl) rfl (by omega) (by omega) (by omega) ?_
  have i6 : mm_inv (mm_pa h5 28 (h5.1 22 8) 0) := mm_inv_pa i5 (show 0 ≤ 0 ∧ 0 ≤ 1 from ⟨by omega, by omega⟩)
  have f6 : mm_fr [(22, 8)] [18, 23, 24, 25, 26, 27, 28] h (mm_pa h5 28 (h5.1 22 8) 0) := mm_fr_pa f5 (by decide)
  obtain ⟨h6, eh6⟩ : ∃ z, z = mm_pa h5 28 (h5.1 22 8) 0 := ⟨_, rfl⟩
  rw [← eh6] at i6 f6 ⊢
  have qh6_7 : h6.1 22 8 = h5.1 22 8 := by rw [eh6]; rfl
  refine mm_aload_n C (mm_dec dk_X9_enter 36 rfl) rfl ?_
  refine mm_getr (t := 14) C fl_X9_41 (mm_dec dk_X9_enter 37 rfl) rfl rfl (mm_ref i6 rfl) ?_
  refine mm_iload_n C (mm_dec dk_X9_enter 38 rfl) rfl ?_
  refine mm_cVv (rest := []) C1 ev_X9_45 (mm_dec dk_X9_enter 39 rfl) (c_X2_take_q x.2.1 hl (d - 1) (by omega) h6 i6 p1 ⟨by omega, by omega⟩) rfl rfl (Nat.le_of_ble_eq_true rfl) ⟨by decide, by decide⟩ rfl (fun h65c hp65 => ?_) (fun _ _ q => q.elim)
  obtain ⟨i65c, g65c, y65_0⟩ := hp65
  have f65c : mm_fr [(22, 8)] [18, 23, 24, 25, 26, 27, 28] h h65c := mm_fr_tr f6 g65c (by decide +kernel)
  have q65c_9 : h65c.1 22 8 = h6.1 22 8 := g65c.1 22 8 (by decide)
  refine mm_aload_n C (mm_dec dk_X9_enter 40 rfl) rfl ?_
  refine mm_dup C (mm_dec dk_X9_enter 41 rfl) (show (2 : Nat) ≠ 1 by decide) ?_
  refine mm_geti C fl_X9_34 (mm_dec dk_X9_enter 42 rfl) rfl rfl (Or.inl rfl) ?_
  refine mm_iconst C (mm_dec dk_X9_enter 43 rfl) ⟨by decide, by decide⟩ ?_
  refine mm_iadd C (mm_dec dk_X9_enter 44 rfl) ⟨by omega, by omega⟩ ?_
  refine mm_puti C fl_X9_34 (mm_dec dk_X9_enter 45 rfl) rfl rfl rfl (Or.inl ⟨rfl, rfl⟩) ?_
  have i8 : mm_inv (mm_pf h65c 22 8 ((h65c.1 22 8) + 1)) := mm_inv_pf i65c (show 0 ≤ ((h65c.1 22 8) + 1) ∧ ((h65c.1 22 8) + 1) ≤ 40 from ⟨by omega, by omega⟩) (by decide)
  have f8 : mm_fr [(22, 8)] [18, 23, 24, 25, 26, 27, 28] h (mm_pf h65c 22 8 ((h65c.1 22 8) + 1)) := mm_fr_pf f65c (by decide)
  obtain ⟨h8, eh8⟩ : ∃ z, z = mm_pf h65c 22 8 ((h65c.1 22 8) + 1) := ⟨_, rfl⟩
  rw [← eh8] at i8 f8 ⊢
  have qh8 : h8.1 22 8 = ((h65c.1 22 8) + 1) := by rw [eh8]; exact mm_pf_same _ _ _ _
  refine mm_aload_n C (mm_dec dk_X9_enter 46 rfl) rfl ?_
  refine mm_geti C fl_X9_34 (mm_dec dk_X9_enter 47 rfl) rfl rfl (Or.inl rfl) ?_
  refine mm_iconst C (mm_dec dk_X9_enter 48 rfl) ⟨by decide, by decide⟩ ?_
  refine mm_isub C (mm_dec dk_X9_enter 49 rfl) ⟨by omega, by omega⟩ ?_
  exact mm_iret C T (mm_dec dk_X9_enter 50 rfl) (by decide : 0 ≤ 0) (by decide : 0 ≤ 0) ⟨_, rfl, ⟨⟨by omega, by omega⟩, i8, f8, by omega, by omega, by exact mm_up_tr (fun _ => ((mm_sm_pa 18 eh6 (by decide) _).trans ((mm_sm_pa 18 eh5 (by decide) _).trans ((mm_sm_pa 18 eh4 (by decide) _).trans ((mm_sm_pa 18 eh3 (by decide) _).trans ((mm_sm_pa 18 eh2 (by decide) _).trans (mm_sm_pa 18 eh1 (by decide) _))))))) y65_0 (fun _ => (mm_sm_pf 18 eh8 _)) rfl Iff.rfl, by exact mm_up_pav (fun _ => rfl) eh1 (fun _ => ((mm_sm_pf 23 eh8 _).trans ((g65c.2 23 (by decide) _).trans ((mm_sm_pa 23 eh6 (by decide) _).trans ((mm_sm_pa 23 eh5 (by decide) _).trans ((mm_sm_pa 23 eh4 (by decide) _).trans ((mm_sm_pa 23 eh3 (by decide) _).trans (mm_sm_pa 23 eh2 (by decide) _)))))))) (by omega) (by omega) rfl, by exact mm_up_pav (fun _ => ((mm_sm_pa 25 eh2 (by decide) _).trans (mm_sm_pa 25 eh1 (by decide) _))) eh3 (fun _ => ((mm_sm_pf 25 eh8 _).trans ((g65c.2 25 (by decide) _).trans ((mm_sm_pa 25 eh6 (by decide) _).trans ((mm_sm_pa 25 eh5 (by decide) _).trans (mm_sm_pa 25 eh4 (by decide) _)))))) (by omega) (by omega) rfl, by exact mm_up_pav (fun _ => ((mm_sm_pa 28 eh5 (by decide) _).trans ((mm_sm_pa 28 eh4 (by decide) _).trans ((mm_sm_pa 28 eh3 (by decide) _).trans ((mm_sm_pa 28 eh2 (by decide) _).trans (mm_sm_pa 28 eh1 (by decide) _)))))) eh6 (fun _ => ((mm_sm_pf 28 eh8 _).trans (g65c.2 28 (by decide) _))) (by omega) (by omega) rfl, by exact mm_up_pav (fun _ => (mm_sm_pa 24 eh1 (by decide) _)) eh2 (fun _ => ((mm_sm_pf 24 eh8 _).trans ((g65c.2 24 (by decide) _).trans ((mm_sm_pa 24 eh6 (by decide) _).trans ((mm_sm_pa 24 eh5 (by decide) _).trans ((mm_sm_pa 24 eh4 (by decide) _).trans (mm_sm_pa 24 eh3 (by decide) _))))))) (by omega) (by omega) rfl, by exact mm_up_pav (fun _ => ((mm_sm_pa 27 eh4 (by decide) _).trans ((mm_sm_pa 27 eh3 (by decide) _).trans ((mm_sm_pa 27 eh2 (by decide) _).trans (mm_sm_pa 27 eh1 (by decide) _))))) eh5 (fun _ => ((mm_sm_pf 27 eh8 _).trans ((g65c.2 27 (by decide) _).trans (mm_sm_pa 27 eh6 (by decide) _)))) (by omega) (by omega) rfl⟩⟩
set_option maxRecDepth 100000 in
set_option maxHeartbeats 4000000 in
theorem c_J7_fill_53178_2_q (l : Launch) (hl : l.stackTraces = false) (d : Nat) (hd : 0 ≤ d) (h : mH) (i0 : mm_inv h) (p1 : Int) (bp1 : 0 ≤ p1 ∧ p1 ≤ 7) : mm_Met l d yJ7_fill_53178 cJ7_fill_53178 4 none [mR 2, mI p1] h (mm_pv fun h2 => mm_inv h2 ∧ mm_fr [] [2] h h2 ∧ mm_al h2 2 399 p1) mm_nx 0 0 := by
  refine mm_ofW (ls := [mR 2, mI p1, mU, mU]) hl (by decide) rfl (Nat.le_of_ble_eq_true rfl) ?_
  intro x hxl C T hnm htb
  subst hxl
  refine mm_rng (fun hr _ => ?_)
  have ap1 : -2147483648 ≤ p1 ∧ p1 < 2147483648 := mm_ok_at hr (i := 1) rfl
  have f0 : mm_fr [] [2] h h := mm_fr_rf
  refine mm_iconst C (mm_dec dk_J7_fill_53178 0 rfl) ⟨by decide, by decide⟩ ?_
  refine mm_istore_nL (ls2 := [mR 2, mI p1, mI 0, mU]) C (mm_dec dk_J7_fill_53178 1 rfl) (by decide) rfl ?_
  refine mm_aload_n C (mm_dec dk_J7_fill_53178 2 rfl) rfl ?_
  refine mm_alenz (z := 400) C (mm_dec dk_J7_fill_53178 3 rfl) rfl (by decide) (by decide) rfl ?_
  have J5 : ∀ (n : Nat) (x5_2 : Int) (bx5_2 : 0 ≤ x5_2 ∧ x5_2 ≤ 400) (x5_3 : Int) (bx5_3 : 400 ≤ x5_3 ∧ x5_3 ≤ 400) (h5_ : mH) (i5_ : mm_inv h5_) (f5_ : mm_fr [] [2] h h5_) (w5_0 : mm_al h5_ 2 (x5_2 - 1) p1), (400 - x5_2 : Int) < n → mm_W x 0 0 5 [mR 2, mI p1, mI x5_2, mI x5_3] [] h5_ := by
    intro n
    induction n with
    | zero =>
      intro x5_2 bx5_2 x5_3 bx5_3 h5_ i5_ f5_ w5_0 hm
      exfalso; omega
    | succ n ih5 =>
      intro x5_2 bx5_2 x5_3 bx5_3 h5_ i5_ f5_ w5_0 hm5
      refine mm_iload_n C (mm_dec dk_J7_fill_53178 5 rfl) rfl ?_
      refine mm_iload_n C (mm_dec dk_J7_fill_53178 6 rfl) rfl ?_
      refine mm_icmp_ge (tgt := 20) C (mm_dec dk_J7_fill_53178 7 rfl) (by decide) (fun c7 => ?_) (fun c7 => ?_)
      · skip
        exact mm_vret C T (mm_dec dk_J7_fill_53178 14 rfl) (by decide : 0 ≤ 0) (by decide : 0 ≤ 0) ⟨rfl, ⟨i5_, f5_, by exact mm_al_le w5_0 (by omega)⟩⟩
      · skip
        refine mm_aload_n C (mm_dec dk_J7_fill_53178 8 rfl) rfl ?_
        refine mm_iload_n C (mm_dec dk_J7_fill_53178 9 rfl) rfl ?_
        refine mm_iload_n C (mm_dec dk_J7_fill_53178 10 rfl) rfl ?_
        refine mm_iast C (mm_dec dk_J7_fill_53178 11 rfl) rfl (by omega) (by omega) ?_
        have i1 : mm_inv (mm_pa h5_ 2 x5_2 p1) := mm_inv_pa i5_ (show 0 ≤ p1 ∧ p1 ≤ 7 from ⟨by omega, by omega⟩)
        have f1 : mm_fr [] [2] h (mm_pa h5_ 2 x5_2 p1) := mm_fr_pa f5_ (by decide)
        obtain ⟨h1, eh1⟩ : ∃ z, z = mm_pa h5_ 2 x5_2 p1 := ⟨_, rfl⟩
        rw [← eh1] at i1 f1 ⊢
        refine mm_iincL (ls2 := [mR 2, mI p1, mI (x5_2 + 1), mI x5_3]) C (mm_dec dk_J7_fill_53178 12 rfl) rfl (by decide) ⟨by omega, by omega⟩ rfl ?_
        refine mm_goto (tgt := 5) C (mm_dec dk_J7_fill_53178 13 rfl) (by decide) ?_
        exact ih5 (x5_2 + 1) ⟨by omega, by omega⟩ x5_3 ⟨by omega, by omega⟩ h1 i1 f1 (by first | exact mm_al_nil (by omega) | (rw [show x5_2 + 1 - 1 = x5_2 by omega]; exact mm_al_put w5_0 eh1)) (by omega)
  refine mm_istore_nL (ls2 := [mR 2, mI p1, mI 0, mI 400]) C (mm_dec dk_J7_fill_53178 4 rfl) (by decide) rfl ?_
  exact J5 (((400 - 0) : Int) + 1).toNat 0 ⟨by omega, by omega⟩ 400 ⟨by omega, by omega⟩ h i0 f0 (by first | exact mm_al_nil (by omega) | (rw [show x5_2 + 1 - 1 = x5_2 by omega]; exact mm_al_put w5_0 eh)) (by omega)
set_option maxRecDepth 100000 in
set_option maxHeartbeats 4000000 in
theorem c_J7_fill_53178_6_q (l : Launch) (hl : l.stackTraces = false) (d : Nat) (hd : 0 ≤ d) (h : mH) (i0 : mm_inv h) (p1 : Int) (bp1 : 0 ≤ p1 ∧ p1 ≤ 99) : mm_Met l d yJ7_fill_53178 cJ7_fill_53178 4 none [mR 6, mI p1] h (mm_pv fun h2 => mm_inv h2 ∧ mm_fr [] [6] h h2 ∧ mm_al h2 6 8 p1) mm_nx 0 0 := by
  refine mm_ofW (ls := [mR 6, mI p1, mU, mU]) hl (by decide) rfl (Nat.le_of_ble_eq_true rfl) ?_
  intro x hxl C T hnm htb
  subst hxl
  refine mm_rng (fun hr _ => ?_)
  have ap1 : -2147483648 ≤ p1 ∧ p1 < 2147483648 := mm_ok_at hr (i := 1) rfl
  have f0 : mm_fr [] [6] h h := mm_fr_rf
  refine mm_iconst C (mm_dec dk_J7_fill_53178 0 rfl) ⟨by decide, by decide⟩ ?_
  refine mm_istore_nL (ls2 := [mR 6, mI p1, mI 0, mU]) C (mm_dec dk_J7_fill_53178 1 rfl) (by decide) rfl ?_
  refine mm_aload_n C (mm_dec dk_J7_fill_53178 2 rfl) rfl ?_
  refine mm_alenz (z := 9) C (mm_dec dk_J7_fill_53178 3 rfl) rfl (by decide) (by decide) rfl ?_
  have J5 : ∀ (n : Nat) (x5_2 : Int) (bx5_2 : 0 ≤ x5_2 ∧ x5_2 ≤ 9) (x5_3 : Int) (bx5_3 : 9 ≤ x5_3 ∧ x5_3 ≤ 9) (h5_ : mH) (i5_ : mm_inv h5_) (f5_ : mm_fr [] [6] h h5_) (w5_0 : mm_al h5_ 6 (x5_2 - 1) p1), (9 - x5_2 : Int) < n → mm_W x 0 0 5 [mR 6, mI p1, mI x5_2, mI x5_3] [] h5_ := by
    intro n
    induction n with
    | zero =>
      intro x5_2 bx5_2 x5_3 bx5_3 h5_ i5_ f5_ w5_0 hm
      exfalso; omega
    | succ n ih5 =>
      intro x5_2 bx5_2 x5_3 bx5_3 h5_ i5_ f5_ w5_0 hm5
      refine mm_iload_n C (mm_dec dk_J7_fill_53178 5 rfl) rfl ?_
      refine mm_iload_n C (mm_dec dk_J7_fill_53178 6 rfl) rfl ?_
      refine mm_icmp_ge (tgt := 20) C (mm_dec dk_J7_fill_53178 7 rfl) (by decide) (fun c7 => ?_) (fun c7 => ?_)
      · skip
        exact mm_vret C T (mm_dec dk_J7_fill_53178 14 rfl) (by decide : 0 ≤ 0) (by decide : 0 ≤ 0) ⟨rfl, ⟨i5_, f5_, by exact mm_al_le w5_0 (by omega)⟩⟩
      · skip
        refine mm_aload_n C (mm_dec dk_J7_fill_53178 8 rfl) rfl ?_
        refine mm_iload_n C (mm_dec dk_J7_fill_53178 9 rfl) rfl ?_
        refine mm_iload_n C (mm_dec dk_J7_fill_53178 10 rfl) rfl ?_
        refine mm_iast C (mm_dec dk_J7_fill_53178 11 rfl) rfl (by omega) (by omega) ?_
        have i1 : mm_inv (mm_pa h5_ 6 x5_2 p1) := mm_inv_pa i5_ (show 0 ≤ p1 ∧ p1 ≤ 99 from ⟨by omega, by omega⟩)
        have f1 : mm_fr [] [6] h (mm_pa h5_ 6 x5_2 p1) := mm_fr_pa f5_ (by decide)
        obtain ⟨h1, eh1⟩ : ∃ z, z = mm_pa h5_ 6 x5_2 p1 := ⟨_, rfl⟩
        rw [← eh1] at i1 f1 ⊢
        refine mm_iincL (ls2 := [mR 6, mI p1, mI (x5_2 + 1), mI x5_3]) C (mm_dec dk_J7_fill_53178 12 rfl) rfl (by decide) ⟨by omega, by omega⟩ rfl ?_
        refine mm_goto (tgt := 5) C (mm_dec dk_J7_fill_53178 13 rfl) (by decide) ?_
        exact ih5 (x5_2 + 1) ⟨by omega, by omega⟩ x5_3 ⟨by omega, by omega⟩ h1 i1 f1 (by first | exact mm_al_nil (by omega) | (rw [show x5_2 + 1 - 1 = x5_2 by omega]; exact mm_al_put w5_0 eh1)) (by omega)
  refine mm_istore_nL (ls2 := [mR 6, mI p1, mI 0, mI 9]) C (mm_dec dk_J7_fill_53178 4 rfl) (by decide) rfl ?_
  exact J5 (((9 - 0) : Int) + 1).toNat 0 ⟨by omega, by omega⟩ 9 ⟨by omega, by omega⟩ h i0 f0 (by first | exact mm_al_nil (by omega) | (rw [show x5_2 + 1 - 1 = x5_2 by omega]; exact mm_al_put w5_0 eh)) (by omega)
set_option maxRecDepth 100000 in
set_option maxHeartbeats 4000000 in
theorem c_J7_fill_53178_3_q (l : Launch) (hl : l.stackTraces = false) (d : Nat) (hd : 0 ≤ d) (h : mH) (i0 : mm_inv h) (p1 : Int) (bp1 : 0 ≤ p1 ∧ p1 ≤ 99) : mm_Met l d yJ7_fill_53178 cJ7_fill_53178 4 none [mR 3, mI p1] h (mm_pv fun h2 => mm_inv h2 ∧ mm_fr [] [3] h h2 ∧ mm_al h2 3 399 p1) mm_nx 0 0 := by
  refine mm_ofW (ls := [mR 3, mI p1, mU, mU]) hl (by decide) rfl (Nat.le_of_ble_eq_true rfl) ?_
  intro x hxl C T hnm htb
  subst hxl
  refine mm_rng (fun hr _ => ?_)
  have ap1 : -2147483648 ≤ p1 ∧ p1 < 2147483648 := mm_ok_at hr (i := 1) rfl
  have f0 : mm_fr [] [3] h h := mm_fr_rf
  refine mm_iconst C (mm_dec dk_J7_fill_53178 0 rfl) ⟨by decide, by decide⟩ ?_
  refine mm_istore_nL (ls2 := [mR 3, mI p1, mI 0, mU]) C (mm_dec dk_J7_fill_53178 1 rfl) (by decide) rfl ?_
  refine mm_aload_n C (mm_dec dk_J7_fill_53178 2 rfl) rfl ?_
  refine mm_alenz (z := 400) C (mm_dec dk_J7_fill_53178 3 rfl) rfl (by decide) (by decide) rfl ?_
  have J5 : ∀ (n : Nat) (x5_2 : Int) (bx5_2 : 0 ≤ x5_2 ∧ x5_2 ≤ 400) (x5_3 : Int) (bx5_3 : 400 ≤ x5_3 ∧ x5_3 ≤ 400) (h5_ : mH) (i5_ : mm_inv h5_) (f5_ : mm_fr [] [3] h h5_) (w5_0 : mm_al h5_ 3 (x5_2 - 1) p1), (400 - x5_2 : Int) < n → mm_W x 0 0 5 [mR 3, mI p1, mI x5_2, mI x5_3] [] h5_ := by
    intro n
    induction n with
    | zero =>
      intro x5_2 bx5_2 x5_3 bx5_3 h5_ i5_ f5_ w5_0 hm
      exfalso; omega
    | succ n ih5 =>
      intro x5_2 bx5_2 x5_3 bx5_3 h5_ i5_ f5_ w5_0 hm5
      refine mm_iload_n C (mm_dec dk_J7_fill_53178 5 rfl) rfl ?_
      refine mm_iload_n C (mm_dec dk_J7_fill_53178 6 rfl) rfl ?_
      refine mm_icmp_ge (tgt := 20) C (mm_dec dk_J7_fill_53178 7 rfl) (by decide) (fun c7 => ?_) (fun c7 => ?_)
      · skip
        exact mm_vret C T (mm_dec dk_J7_fill_53178 14 rfl) (by decide : 0 ≤ 0) (by decide : 0 ≤ 0) ⟨rfl, ⟨i5_, f5_, by exact mm_al_le w5_0 (by omega)⟩⟩
      · skip
        refine mm_aload_n C (mm_dec dk_J7_fill_53178 8 rfl) rfl ?_
        refine mm_iload_n C (mm_dec dk_J7_fill_53178 9 rfl) rfl ?_
        refine mm_iload_n C (mm_dec dk_J7_fill_53178 10 rfl) rfl ?_
        refine mm_iast C (mm_dec dk_J7_fill_53178 11 rfl) rfl (by omega) (by omega) ?_
        have i1 : mm_inv (mm_pa h5_ 3 x5_2 p1) := mm_inv_pa i5_ (show 0 ≤ p1 ∧ p1 ≤ 99 from ⟨by omega, by omega⟩)
        have f1 : mm_fr [] [3] h (mm_pa h5_ 3 x5_2 p1) := mm_fr_pa f5_ (by decide)
        obtain ⟨h1, eh1⟩ : ∃ z, z = mm_pa h5_ 3 x5_2 p1 := ⟨_, rfl⟩
        rw [← eh1] at i1 f1 ⊢
        refine mm_iincL (ls2 := [mR 3, mI p1, mI (x5_2 + 1), mI x5_3]) C (mm_dec dk_J7_fill_53178 12 rfl) rfl (by decide) ⟨by omega, by omega⟩ rfl ?_
        refine mm_goto (tgt := 5) C (mm_dec dk_J7_fill_53178 13 rfl) (by decide) ?_
        exact ih5 (x5_2 + 1) ⟨by omega, by omega⟩ x5_3 ⟨by omega, by omega⟩ h1 i1 f1 (by first | exact mm_al_nil (by omega) | (rw [show x5_2 + 1 - 1 = x5_2 by omega]; exact mm_al_put w5_0 eh1)) (by omega)
  refine mm_istore_nL (ls2 := [mR 3, mI p1, mI 0, mI 400]) C (mm_dec dk_J7_fill_53178 4 rfl) (by decide) rfl ?_
  exact J5 (((400 - 0) : Int) + 1).toNat 0 ⟨by omega, by omega⟩ 400 ⟨by omega, by omega⟩ h i0 f0 (by first | exact mm_al_nil (by omega) | (rw [show x5_2 + 1 - 1 = x5_2 by omega]; exact mm_al_put w5_0 eh)) (by omega)
set_option maxRecDepth 100000 in
set_option maxHeartbeats 4000000 in
theorem c_X5_renew_q (l : Launch) (hl : l.stackTraces = false) (d : Nat) (hd : 1 ≤ d) (h : mH) (i0 : mm_inv h) (p1 : Int) (p2 : Int) (bp1 : 1 ≤ p1 ∧ p1 ≤ 20) (bp2 : 1 ≤ p2 ∧ p2 ≤ 20) : mm_Met l d yX5_renew cX5_renew 4 none [mR 1, mI p1, mI p2] h (mm_pv fun h2 => mm_inv h2 ∧ mm_fr [(1, 5), (1, 6), (1, 7), (1, 8)] [2, 3, 4, 5, 6] h h2 ∧ h2.1 1 5 = p1 ∧ h2.1 1 6 = p2 ∧ mm_al h2 2 399 0 ∧ mm_al h2 6 7 5 ∧ mm_al h2 3 399 0 ∧ mm_al h2 4 399 0 ∧ mm_al h2 5 399 0 ∧ h2.2.1 6 8 = 2 ∧ h2.1 1 7 = 0 ∧ h2.1 1 8 = 0) mm_nx 0 0 := by
  refine mm_ofW (ls := [mR 1, mI p1, mI p2, mU]) hl (by decide) rfl (Nat.le_of_ble_eq_true rfl) ?_
  intro x hxl C T hnm htb
  subst hxl
  have C1 := mm_OK_le (d' := d - 1 + 1) (by omega) C
  refine mm_rng (fun hr _ => ?_)
  have ap1 : -2147483648 ≤ p1 ∧ p1 < 2147483648 := mm_ok_at hr (i := 1) rfl
  have ap2 : -2147483648 ≤ p2 ∧ p2 < 2147483648 := mm_ok_at hr (i := 2) rfl
  have f0 : mm_fr [(1, 5), (1, 6), (1, 7), (1, 8)] [2, 3, 4, 5, 6] h h := mm_fr_rf
  have g1 : 1 ≤ h.1 1 5 ∧ h.1 1 5 ≤ 20 := i0.1 1 5
  have g2 : 1 ≤ h.1 1 6 ∧ h.1 1 6 ≤ 20 := i0.1 1 6
  have g3 : 0 ≤ h.1 1 7 ∧ h.1 1 7 ≤ 399 := i0.1 1 7
  have g4 : 0 ≤ h.1 1 8 ∧ h.1 1 8 ≤ 399 := i0.1 1 8
  refine mm_aload_n C (mm_dec dk_X5_renew 0 rfl) rfl ?_
  refine mm_iload_n C (mm_dec dk_X5_renew 1 rfl) rfl ?_
  refine mm_puti C fl_X5_28 (mm_dec dk_X5_renew 2 rfl) rfl rfl rfl (Or.inl ⟨rfl, rfl⟩) ?_
  have i1 : mm_inv (mm_pf h 1 5 p1) := mm_inv_pf i0 (show 1 ≤ p1 ∧ p1 ≤ 20 from ⟨by omega, by omega⟩) (by decide)
  have f1 : mm_fr [(1, 5), (1, 6), (1, 7), (1, 8)] [2, 3, 4, 5, 6] h (mm_pf h 1 5 p1) := mm_fr_pf f0 (by decide)
  obtain ⟨h1, eh1⟩ : ∃ z, z = mm_pf h 1 5 p1 := ⟨_, rfl⟩
  rw [← eh1] at i1 f1 ⊢
  have qh1 : h1.1 1 5 = p1 := by rw [eh1]; exact mm_pf_same _ _ _ _
  have qh1_5 : h1.1 1 6 = h.1 1 6 := by rw [eh1]; exact mm_pf_ne _ _ (by decide)
  have qh1_6 : h1.1 1 7 = h.1 1 7 := by rw [eh1]; exact mm_pf_ne _ _ (by decide)
  have qh1_7 : h1.1 1 8 = h.1 1 8 := by rw [eh1]; exact mm_pf_ne _ _ (by decide)
  refine mm_aload_n C (mm_dec dk_X5_renew 3 rfl) rfl ?_
  refine mm_iload_n C (mm_dec dk_X5_renew 4 rfl) rfl ?_
  refine mm_puti C fl_X5_32 (mm_dec dk_X5_renew 5 rfl) rfl rfl rfl (Or.inl ⟨rfl, rfl⟩) ?_
  have i2 : mm_inv (mm_pf h1 1 6 p2) := mm_inv_pf i1 (show 1 ≤ p2 ∧ p2 ≤ 20 from ⟨by omega, by omega⟩) (by decide)
  have f2 : mm_fr [(1, 5), (1, 6), (1, 7), (1, 8)] [2, 3, 4, 5, 6] h (mm_pf h1 1 6 p2) := mm_fr_pf f1 (by decide)
  obtain ⟨h2, eh2⟩ : ∃ z, z = mm_pf h1 1 6 p2 := ⟨_, rfl⟩
  rw [← eh2] at i2 f2 ⊢
  have qh2 : h2.1 1 6 = p2 := by rw [eh2]; exact mm_pf_same _ _ _ _
  have qh2_8 : h2.1 1 5 = h1.1 1 5 := by rw [eh2]; exact mm_pf_ne _ _ (by decide)
  have qh2_9 : h2.1 1 7 = h1.1 1 7 := by rw [eh2]; exact mm_pf_ne _ _ (by decide)
  have qh2_10 : h2.1 1 8 = h1.1 1 8 := by rw [eh2]; exact mm_pf_ne _ _ (by decide)
  refine mm_aload_n C (mm_dec dk_X5_renew 6 rfl) rfl ?_
  refine mm_iconst C (mm_dec dk_X5_renew 7 rfl) ⟨by decide, by decide⟩ ?_
  refine mm_puti C fl_X5_35 (mm_dec dk_X5_renew 8 rfl) rfl rfl rfl (Or.inl ⟨rfl, rfl⟩) ?_
  have i3 : mm_inv (mm_pf h2 1 7 0) := mm_inv_pf i2 (show 0 ≤ 0 ∧ 0 ≤ 399 from ⟨by omega, by omega⟩) (by decide)
  have f3 : mm_fr [(1, 5), (1, 6), (1, 7), (1, 8)] [2, 3, 4, 5, 6] h (mm_pf h2 1 7 0) := mm_fr_pf f2 (by decide)
  obtain ⟨h3, eh3⟩ : ∃ z, z = mm_pf h2 1 7 0 := ⟨_, rfl⟩
  rw [← eh3] at i3 f3 ⊢
  have qh3 : h3.1 1 7 = 0 := by rw [eh3]; exact mm_pf_same _ _ _ _
  have qh3_11 : h3.1 1 5 = h2.1 1 5 := by rw [eh3]; exact mm_pf_ne _ _ (by decide)
  have qh3_12 : h3.1 1 6 = h2.1 1 6 := by rw [eh3]; exact mm_pf_ne _ _ (by decide)
  have qh3_13 : h3.1 1 8 = h2.1 1 8 := by rw [eh3]; exact mm_pf_ne _ _ (by decide)
  refine mm_aload_n C (mm_dec dk_X5_renew 9 rfl) rfl ?_
  refine mm_iconst C (mm_dec dk_X5_renew 10 rfl) ⟨by decide, by decide⟩ ?_
  refine mm_puti C fl_X5_38 (mm_dec dk_X5_renew 11 rfl) rfl rfl rfl (Or.inl ⟨rfl, rfl⟩) ?_
  have i4 : mm_inv (mm_pf h3 1 8 0) := mm_inv_pf i3 (show 0 ≤ 0 ∧ 0 ≤ 399 from ⟨by omega, by omega⟩) (by decide)
  have f4 : mm_fr [(1, 5), (1, 6), (1, 7), (1, 8)] [2, 3, 4, 5, 6] h (mm_pf h3 1 8 0) := mm_fr_pf f3 (by decide)
  obtain ⟨h4, eh4⟩ : ∃ z, z = mm_pf h3 1 8 0 := ⟨_, rfl⟩
  rw [← eh4] at i4 f4 ⊢
  have qh4 : h4.1 1 8 = 0 := by rw [eh4]; exact mm_pf_same _ _ _ _
  have qh4_14 : h4.1 1 5 = h3.1 1 5 := by rw [eh4]; exact mm_pf_ne _ _ (by decide)
  have qh4_15 : h4.1 1 6 = h3.1 1 6 := by rw [eh4]; exact mm_pf_ne _ _ (by decide)
  have qh4_16 : h4.1 1 7 = h3.1 1 7 := by rw [eh4]; exact mm_pf_ne _ _ (by decide)
  refine mm_aload_n C (mm_dec dk_X5_renew 12 rfl) rfl ?_
  refine mm_getr (t := 2) C fl_X5_9 (mm_dec dk_X5_renew 13 rfl) rfl rfl (mm_ref i4 rfl) ?_
  refine mm_iconst C (mm_dec dk_X5_renew 14 rfl) ⟨by decide, by decide⟩ ?_
  refine mm_cSv (rest := []) C1 es_X5_41 (mm_dec dk_X5_renew 15 rfl) (c_J7_fill_53178_2_q x.2.1 hl (d - 1) (by omega) h4 i4 0 ⟨by omega, by omega⟩) rfl (Nat.le_of_ble_eq_true rfl) ⟨by decide, by decide⟩ rfl (fun h25c hp25 => ?_) (fun _ _ q => q.elim)
  obtain ⟨i25c, g25c, y25_0⟩ := hp25
  have f25c : mm_fr [(1, 5), (1, 6), (1, 7), (1, 8)] [2, 3, 4, 5, 6] h h25c := mm_fr_tr f4 g25c (by decide +kernel)
  have q25c_18 : h25c.1 1 5 = h4.1 1 5 := g25c.1 1 5 (by decide)
  have q25c_19 : h25c.1 1 6 = h4.1 1 6 := g25c.1 1 6 (by decide)
  have q25c_20 : h25c.1 1 7 = h4.1 1 7 := g25c.1 1 7 (by decide)
  have q25c_21 : h25c.1 1 8 = h4.1 1 8 := g25c.1 1 8 (by decide)
  refine mm_aload_n C (mm_dec dk_X5_renew 16 rfl) rfl ?_
  refine mm_getr (t := 3) C fl_X5_15 (mm_dec dk_X5_renew 17 rfl) rfl rfl (mm_ref i25c rfl) ?_
  refine mm_iconst C (mm_dec dk_X5_renew 18 rfl) ⟨by decide, by decide⟩ ?_
  refine mm_cSv (rest := []) C1 es_X5_41 (mm_dec dk_X5_renew 19 rfl) (c_J7_fill_53178_3_q x.2.1 hl (d - 1) (by omega) h25c i25c 0 ⟨by omega, by omega⟩) rfl (Nat.le_of_ble_eq_true rfl) ⟨by decide, by decide⟩ rfl (fun h33c hp33 => ?_) (fun _ _ q => q.elim)
  obtain ⟨i33c, g33c, y33_0⟩ := hp33
  have f33c : mm_fr [(1, 5), (1, 6), (1, 7), (1, 8)] [2, 3, 4, 5, 6] h h33c := mm_fr_tr f25c g33c (by decide +kernel)
  have q33c_23 : h33c.1 1 5 = h25c.1 1 5 := g33c.1 1 5 (by decide)
  have q33c_24 : h33c.1 1 6 = h25c.1 1 6 := g33c.1 1 6 (by decide)
  have q33c_25 : h33c.1 1 7 = h25c.1 1 7 := g33c.1 1 7 (by decide)
  have q33c_26 : h33c.1 1 8 = h25c.1 1 8 := g33c.1 1 8 (by decide)
  refine mm_iconst C (mm_dec dk_X5_renew 20 rfl) ⟨by decide, by decide⟩ ?_
  have J38 : ∀ (n : Nat) (x38_3 : Int) (bx38_3 : 0 ≤ x38_3 ∧ x38_3 ≤ 400) (h38_ : mH) (i38_ : mm_inv h38_) (f38_ : mm_fr [(1, 5), (1, 6), (1, 7), (1, 8)] [2, 3, 4, 5, 6] h h38_) (w38_0 : mm_al h38_ 2 399 0) (w38_1 : mm_al h38_ 3 399 0) (w38_2 : mm_al h38_ 4 (x38_3 - 1) 0) (w38_3 : mm_al h38_ 5 (x38_3 - 1) 0) (w38_4 : h38_.1 1 7 = 0) (w38_5 : h38_.1 1 8 = 0) (w38_6 : h38_.1 1 5 = p1) (w38_7 : h38_.1 1 6 = p2), (400 - x38_3 : Int) < n → mm_W x 0 0 38 [mR 1, mU, mU, mI x38_3] [] h38_ := by
    intro n
    induction n with
    | zero =>
      intro x38_3 bx38_3 h38_ i38_ f38_ w38_0 w38_1 w38_2 w38_3 w38_4 w38_5 w38_6 w38_7 hm
      have g27 : 1 ≤ h38_.1 1 5 ∧ h38_.1 1 5 ≤ 20 := i38_.1 1 5
      have g28 : 1 ≤ h38_.1 1 6 ∧ h38_.1 1 6 ≤ 20 := i38_.1 1 6
      have g29 : 0 ≤ h38_.1 1 7 ∧ h38_.1 1 7 ≤ 399 := i38_.1 1 7
      have g30 : 0 ≤ h38_.1 1 8 ∧ h38_.1 1 8 ≤ 399 := i38_.1 1 8
      exfalso; omega
    | succ n ih38 =>
      intro x38_3 bx38_3 h38_ i38_ f38_ w38_0 w38_1 w38_2 w38_3 w38_4 w38_5 w38_6 w38_7 hm38
      have g31 : 1 ≤ h38_.1 1 5 ∧ h38_.1 1 5 ≤ 20 := i38_.1 1 5
      have g32 : 1 ≤ h38_.1 1 6 ∧ h38_.1 1 6 ≤ 20 := i38_.1 1 6
      have g33 : 0 ≤ h38_.1 1 7 ∧ h38_.1 1 7 ≤ 399 := i38_.1 1 7
      have g34 : 0 ≤ h38_.1 1 8 ∧ h38_.1 1 8 ≤ 399 := i38_.1 1 8
      refine mm_iload_n C (mm_dec dk_X5_renew 22 rfl) rfl ?_
      refine mm_sipush C (mm_dec dk_X5_renew 23 rfl) ⟨by decide, by decide⟩ ?_
      refine mm_icmp_ge (tgt := 65) C (mm_dec dk_X5_renew 24 rfl) (by decide) (fun c42 => ?_) (fun c42 => ?_)
      · skip
        refine mm_aload_n C (mm_dec dk_X5_renew 37 rfl) rfl ?_
        refine mm_getr (t := 6) C fl_X5_25 (mm_dec dk_X5_renew 38 rfl) rfl rfl (mm_ref i38_ rfl) ?_
        refine mm_iconst C (mm_dec dk_X5_renew 39 rfl) ⟨by decide, by decide⟩ ?_
        refine mm_cSv (rest := []) C1 es_X5_41 (mm_dec dk_X5_renew 40 rfl) (c_J7_fill_53178_6_q x.2.1 hl (d - 1) (by omega) h38_ i38_ 5 ⟨by omega, by omega⟩) rfl (Nat.le_of_ble_eq_true rfl) ⟨by decide, by decide⟩ rfl (fun h70c hp70 => ?_) (fun _ _ q => q.elim)
        obtain ⟨i70c, g70c, y70_0⟩ := hp70
        have f70c : mm_fr [(1, 5), (1, 6), (1, 7), (1, 8)] [2, 3, 4, 5, 6] h h70c := mm_fr_tr f38_ g70c (by decide +kernel)
        have q70c_36 : h70c.1 1 5 = h38_.1 1 5 := g70c.1 1 5 (by decide)
        have q70c_37 : h70c.1 1 6 = h38_.1 1 6 := g70c.1 1 6 (by decide)
        have q70c_38 : h70c.1 1 7 = h38_.1 1 7 := g70c.1 1 7 (by decide)
        have q70c_39 : h70c.1 1 8 = h38_.1 1 8 := g70c.1 1 8 (by decide)
        refine mm_aload_n C (mm_dec dk_X5_renew 41 rfl) rfl ?_
        refine mm_getr (t := 6) C fl_X5_25 (mm_dec dk_X5_renew 42 rfl) rfl rfl (mm_ref i70c rfl) ?_
        refine mm_bipush C (mm_dec dk_X5_renew 43 rfl) ⟨by decide, by decide⟩ ?_
        refine mm_iconst C (mm_dec dk_X5_renew 44 rfl) ⟨by decide, by decide⟩ ?_
        refine mm_iast C (mm_dec dk_X5_renew 45 rfl) rfl (by omega) (by omega) ?_
        have i8 : mm_inv (mm_pa h70c 6 8 2) := mm_inv_pa i70c (show 0 ≤ 2 ∧ 2 ≤ 99 from ⟨by omega, by omega⟩)
        have f8 : mm_fr [(1, 5), (1, 6), (1, 7), (1, 8)] [2, 3, 4, 5, 6] h (mm_pa h70c 6 8 2) := mm_fr_pa f70c (by decide)
        obtain ⟨h8, eh8⟩ : ∃ z, z = mm_pa h70c 6 8 2 := ⟨_, rfl⟩
        rw [← eh8] at i8 f8 ⊢
        have qh8_40 : h8.1 1 5 = h70c.1 1 5 := by rw [eh8]; rfl
        have qh8_41 : h8.1 1 6 = h70c.1 1 6 := by rw [eh8]; rfl
        have qh8_42 : h8.1 1 7 = h70c.1 1 7 := by rw [eh8]; rfl
        have qh8_43 : h8.1 1 8 = h70c.1 1 8 := by rw [eh8]; rfl
        exact mm_vret C T (mm_dec dk_X5_renew 46 rfl) (by decide : 0 ≤ 0) (by decide : 0 ≤ 0) ⟨rfl, ⟨i8, f8, by omega, by omega, by exact mm_al_sm (mm_al_fr w38_0 g70c (by decide)) (fun _ => (mm_sm_pa 2 eh8 (by decide) _)), by exact mm_al_hi y70_0 eh8 (by decide) (by decide), by exact mm_al_sm (mm_al_fr w38_1 g70c (by decide)) (fun _ => (mm_sm_pa 3 eh8 (by decide) _)), by exact mm_al_sm (mm_al_fr (mm_al_le w38_2 (by omega)) g70c (by decide)) (fun _ => (mm_sm_pa 4 eh8 (by decide) _)), by exact mm_al_sm (mm_al_fr (mm_al_le w38_3 (by omega)) g70c (by decide)) (fun _ => (mm_sm_pa 5 eh8 (by decide) _)), by exact mm_pa_is eh8 rfl, by omega, by omega⟩⟩
      · skip
        refine mm_aload_n C (mm_dec dk_X5_renew 25 rfl) rfl ?_
        refine mm_getr (t := 4) C fl_X5_18 (mm_dec dk_X5_renew 26 rfl) rfl rfl (mm_ref i38_ rfl) ?_
        refine mm_iload_n C (mm_dec dk_X5_renew 27 rfl) rfl ?_
        refine mm_iconst C (mm_dec dk_X5_renew 28 rfl) ⟨by decide, by decide⟩ ?_
        refine mm_zast C (mm_dec dk_X5_renew 29 rfl) rfl (by omega) (by omega) (by omega) ?_
        have i9 : mm_inv (mm_pa h38_ 4 x38_3 0) := mm_inv_pa i38_ (show 0 ≤ 0 ∧ 0 ≤ 1 from ⟨by omega, by omega⟩)
        have f9 : mm_fr [(1, 5), (1, 6), (1, 7), (1, 8)] [2, 3, 4, 5, 6] h (mm_pa h38_ 4 x38_3 0) := mm_fr_pa f38_ (by decide)
        obtain ⟨h9, eh9⟩ : ∃ z, z = mm_pa h38_ 4 x38_3 0 := ⟨_, rfl⟩
        rw [← eh9] at i9 f9 ⊢
        have qh9_44 : h9.1 1 5 = h38_.1 1 5 := by rw [eh9]; rfl
        have qh9_45 : h9.1 1 6 = h38_.1 1 6 := by rw [eh9]; rfl
        have qh9_46 : h9.1 1 7 = h38_.1 1 7 := by rw [eh9]; rfl
        have qh9_47 : h9.1 1 8 = h38_.1 1 8 := by rw [eh9]; rfl
        refine mm_aload_n C (mm_dec dk_X5_renew 30 rfl) rfl ?_
        refine mm_getr (t := 5) C fl_X5_22 (mm_dec dk_X5_renew 31 rfl) rfl rfl (mm_ref i9 rfl) ?_
        refine mm_iload_n C (mm_dec dk_X5_renew 32 rfl) rfl ?_
        refine mm_iconst C (mm_dec dk_X5_renew 33 rfl) ⟨by decide, by decide⟩ ?_
        refine mm_zast C (mm_dec dk_X5_renew 34 rfl) rfl (by omega) (by omega) (by omega) ?_
        have i10 : mm_inv (mm_pa h9 5 x38_3 0) := mm_inv_pa i9 (show 0 ≤ 0 ∧ 0 ≤ 1 from ⟨by omega, by omega⟩)
        have f10 : mm_fr [(1, 5), (1, 6), (1, 7), (1, 8)] [2, 3, 4, 5, 6] h (mm_pa h9 5 x38_3 0) := mm_fr_pa f9 (by decide)
        obtain ⟨h10, eh10⟩ : ∃ z, z = mm_pa h9 5 x38_3 0 := ⟨_, rfl⟩
        rw [← eh10] at i10 f10 ⊢
        have qh10_48 : h10.1 1 5 = h9.1 1 5 := by rw [eh10]; rfl
        have qh10_49 : h10.1 1 6 = h9.1 1 6 := by rw [eh10]; rfl
        have qh10_50 : h10.1 1 7 = h9.1 1 7 := by rw [eh10]; rfl
        have qh10_51 : h10.1 1 8 = h9.1 1 8 := by rw [eh10]; rfl
        refine mm_iincL (ls2 := [mR 1, mU, mU, mI (x38_3 + 1)]) C (mm_dec dk_X5_renew 35 rfl) rfl (by decide) ⟨by omega, by omega⟩ rfl ?_
        refine mm_goto (tgt := 38) C (mm_dec dk_X5_renew 36 rfl) (by decide) ?_
        exact ih38 (x38_3 + 1) ⟨by omega, by omega⟩ h10 i10 f10 (by first | exact mm_al_fr y25_0 g33c (by decide) | exact mm_al_sm w38_0 (fun _ => ((mm_sm_pa 2 eh10 (by decide) _).trans (mm_sm_pa 2 eh9 (by decide) _)))) (by first | exact y33_0 | exact mm_al_sm w38_1 (fun _ => ((mm_sm_pa 3 eh10 (by decide) _).trans (mm_sm_pa 3 eh9 (by decide) _)))) (by first | exact mm_al_nil (by omega) | (rw [show x38_3 + 1 - 1 = x38_3 by omega]; exact mm_al_sm (mm_al_put w38_2 eh9) (fun _ => (mm_sm_pa 4 eh10 (by decide) _)))) (by first | exact mm_al_nil (by omega) | (rw [show x38_3 + 1 - 1 = x38_3 by omega]; exact mm_al_put (mm_al_sm w38_3 (fun _ => (mm_sm_pa 5 eh9 (by decide) _))) eh10)) (by omega) (by omega) (by omega) (by omega) (by omega)
  refine mm_istore_nL (ls2 := [mR 1, mI p1, mI p2, mI 0]) C (mm_dec dk_X5_renew 21 rfl) (by decide) rfl ?_
  refine mm_fgt 1 ?_
  refine mm_fgt 2 ?_
  exact J38 (((400 - 0) : Int) + 1).toNat 0 ⟨by omega, by omega⟩ h33c i33c f33c (by first | exact mm_al_fr y25_0 g33c (by decide) | exact mm_al_sm w38_0 (fun _ => ((mm_sm_pa 2 eh10 (by decide) _).trans (mm_sm_pa 2 eh9 (by decide) _)))) (by first | exact y33_0 | exact mm_al_sm w38_1 (fun _ => ((mm_sm_pa 3 eh10 (by decide) _).trans (mm_sm_pa 3 eh9 (by decide) _)))) (by first | exact mm_al_nil (by omega) | (rw [show x38_3 + 1 - 1 = x38_3 by omega]; exact mm_al_sm (mm_al_put w38_2 eh9) (fun _ => (mm_sm_pa 4 eh10 (by decide) _)))) (by first | exact mm_al_nil (by omega) | (rw [show x38_3 + 1 - 1 = x38_3 by omega]; exact mm_al_put (mm_al_sm w38_3 (fun _ => (mm_sm_pa 5 eh9 (by decide) _))) eh10)) (by omega) (by omega) (by omega) (by omega) (by omega)
set_option maxRecDepth 100000 in
set_option maxHeartbeats 4000000 in
theorem c_X11_land_q (l : Launch) (hl : l.stackTraces = false) (d : Nat) (hd : 2 ≤ d) (h : mH) (i0 : mm_inv h) (p1 : Int) (p2 : Int) : mm_Met l d yX11_land cX11_land 3 (some .boolean) [mR 0, mI p1, mI p2] h (mm_pi fun r h2 => (0 ≤ r ∧ r ≤ 1) ∧ mm_inv h2 ∧ mm_fr [(0, 13), (0, 14), (1, 5), (1, 6), (1, 7), (1, 8), (7, 9), (14, 7), (14, 8), (22, 8), (22, 9), (30, 6), (30, 12), (30, 13), (42, 3), (58, 10)] [2, 3, 4, 5, 6, 44] h h2 ∧ ((r = 1 ∧ 1 ≤ p1 ∧ p1 ≤ 20 ∧ 1 ≤ p2 ∧ p2 ≤ 20) ∨ (r = 0 ∧ (p1 < 1 ∨ 20 < p1 ∨ p2 < 1 ∨ 20 < p2))) ∧ ((r = 0 ∧ h2.1 14 8 = h.1 14 8 ∧ h2.1 22 8 = h.1 22 8 ∧ h2.1 0 13 = h.1 0 13 ∧ h2.1 1 5 = h.1 1 5 ∧ h2.1 1 6 = h.1 1 6 ∧ h2.1 22 9 = h.1 22 9) ∨ (r = 1 ∧ h2.1 14 8 = 0 ∧ h2.1 22 8 = 0 ∧ h2.1 0 13 = 0 ∧ h2.1 1 5 = p1 ∧ h2.1 1 6 = p2 ∧ h2.1 22 9 = 0)) ∧ ((r = 0 ∧ h2.1 14 7 = h.1 14 7) ∨ (r = 1 ∧ h2.1 14 7 = 0)) ∧ (r = 1 → mm_al h2 2 399 0 ∧ mm_al h2 6 7 5 ∧ mm_al h2 3 399 0 ∧ mm_al h2 4 399 0 ∧ mm_al h2 5 399 0 ∧ h2.2.1 6 8 = 2) ∧ (r = 0 → ∀ o j, h2.2.1 o j = h.2.1 o j) ∧ ((r = 0 ∧ h2.1 1 7 = h.1 1 7) ∨ (r = 1 ∧ h2.1 1 7 = 0)) ∧ ((r = 0 ∧ h2.1 1 8 = h.1 1 8) ∨ (r = 1 ∧ h2.1 1 8 = 0)) ∧ (r = 1 → h2.2.1 44 0 = 3600 ∧ h2.2.1 44 1 = 60 ∧ h2.2.1 44 2 = 900) ∧ ((r = 0 ∧ h2.1 0 14 = h.1 0 14) ∨ (r = 1 ∧ h2.1 0 14 = -1)) ∧ ((r = 0 ∧ h2.1 30 6 = h.1 30 6 ∧ h2.1 30 12 = h.1 30 12) ∨ (r = 1 ∧ h2.1 30 6 = 0 ∧ h2.1 30 12 = 0)) ∧ ((r = 0 ∧ h2.1 30 13 = h.1 30 13 ∧ h2.1 42 3 = h.1 42 3) ∨ (r = 1 ∧ h2.1 30 13 = 0 ∧ h2.1 42 3 = 0))) mm_nx 0 0 := by
  refine mm_ofW (ls := [mR 0, mI p1, mI p2]) hl (by decide) rfl (Nat.le_of_ble_eq_true rfl) ?_
  intro x hxl C T hnm htb
  subst hxl
  have C1 := mm_OK_le (d' := d - 1 + 1) (by omega) C
  refine mm_rng (fun hr _ => ?_)
  have ap1 : -2147483648 ≤ p1 ∧ p1 < 2147483648 := mm_ok_at hr (i := 1) rfl
  have ap2 : -2147483648 ≤ p2 ∧ p2 < 2147483648 := mm_ok_at hr (i := 2) rfl
  have f0 : mm_fr [(0, 13), (0, 14), (1, 5), (1, 6), (1, 7), (1, 8), (7, 9), (14, 7), (14, 8), (22, 8), (22, 9), (30, 6), (30, 12), (30, 13), (42, 3), (58, 10)] [2, 3, 4, 5, 6, 44] h h := mm_fr_rf
  have g1 : 0 ≤ h.1 14 8 ∧ h.1 14 8 ≤ 8 := i0.1 14 8
  have g2 : 0 ≤ h.1 22 8 ∧ h.1 22 8 ≤ 40 := i0.1 22 8
  have g3 : 0 ≤ h.1 0 13 ∧ h.1 0 13 ≤ 99999 := i0.1 0 13
  have g4 : 1 ≤ h.1 1 5 ∧ h.1 1 5 ≤ 20 := i0.1 1 5
  have g5 : 1 ≤ h.1 1 6 ∧ h.1 1 6 ≤ 20 := i0.1 1 6
  have g6 : 0 ≤ h.1 14 7 ∧ h.1 14 7 ≤ 20 := i0.1 14 7
  have g7 : 0 ≤ h.1 1 7 ∧ h.1 1 7 ≤ 399 := i0.1 1 7
  have g8 : 0 ≤ h.1 22 9 ∧ h.1 22 9 ≤ 10 := i0.1 22 9
  have g9 : 0 ≤ h.1 1 8 ∧ h.1 1 8 ≤ 399 := i0.1 1 8
  have g10 : -2147483648 ≤ h.1 0 14 ∧ h.1 0 14 ≤ 2147483647 := i0.1 0 14
  have g11 : 0 ≤ h.1 30 6 ∧ h.1 30 6 ≤ 500 := i0.1 30 6
  have g12 : 0 ≤ h.1 30 12 ∧ h.1 30 12 ≤ 40 := i0.1 30 12
  have g13 : -2147483648 ≤ h.1 30 13 ∧ h.1 30 13 ≤ 2147483647 := i0.1 30 13
  have g14 : 0 ≤ h.1 42 3 ∧ h.1 42 3 ≤ 500 := i0.1 42 3
  refine mm_iload_n C (mm_dec dk_X11_land 0 rfl) rfl ?_
  refine mm_iconst C (mm_dec dk_X11_land 1 rfl) ⟨by decide, by decide⟩ ?_
  have J22 : ∀ (w22_0 : (p1 < 1 ∨ 20 < p1 ∨ p2 < 1 ∨ 20 < p2)), mm_W x 0 0 22 [mU, mU, mU] [] h := by
    intro w22_0
    have g15 : 0 ≤ h.1 14 8 ∧ h.1 14 8 ≤ 8 := i0.1 14 8
    have g16 : 0 ≤ h.1 22 8 ∧ h.1 22 8 ≤ 40 := i0.1 22 8
    have g17 : 0 ≤ h.1 0 13 ∧ h.1 0 13 ≤ 99999 := i0.1 0 13
    have g18 : 1 ≤ h.1 1 5 ∧ h.1 1 5 ≤ 20 := i0.1 1 5
    have g19 : 1 ≤ h.1 1 6 ∧ h.1 1 6 ≤ 20 := i0.1 1 6
    have g20 : 0 ≤ h.1 14 7 ∧ h.1 14 7 ≤ 20 := i0.1 14 7
    have g21 : 0 ≤ h.1 1 7 ∧ h.1 1 7 ≤ 399 := i0.1 1 7
    have g22 : 0 ≤ h.1 22 9 ∧ h.1 22 9 ≤ 10 := i0.1 22 9
    have g23 : 0 ≤ h.1 1 8 ∧ h.1 1 8 ≤ 399 := i0.1 1 8
    have g24 : -2147483648 ≤ h.1 0 14 ∧ h.1 0 14 ≤ 2147483647 := i0.1 0 14
    have g25 : 0 ≤ h.1 30 6 ∧ h.1 30 6 ≤ 500 := i0.1 30 6
    have g26 : 0 ≤ h.1 30 12 ∧ h.1 30 12 ≤ 40 := i0.1 30 12
    have g27 : -2147483648 ≤ h.1 30 13 ∧ h.1 30 13 ≤ 2147483647 := i0.1 30 13
    have g28 : 0 ≤ h.1 42 3 ∧ h.1 42 3 ≤ 500 := i0.1 42 3
    refine mm_iconst C (mm_dec dk_X11_land 12 rfl) ⟨by decide, by decide⟩ ?_
    exact mm_zret C T (mm_dec dk_X11_land 13 rfl) (by decide : 0 ≤ 0) (by decide : 0 ≤ 0) (by omega) ⟨_, rfl, ⟨⟨by omega, by omega⟩, i0, f0, by omega, by omega, by omega, by first | exact fun w => absurd w (by decide) | exact fun _ => ⟨mm_al_sm y30_2 (fun _ => ((mm_sm_pf 2 eh9 _).trans ((mm_sm_pf 2 eh8 _).trans ((g72c.2 2 (by decide) _).trans ((g65c.2 2 (by decide) _).trans ((g58c.2 2 (by decide) _).trans ((g51c.2 2 (by decide) _).trans ((g44c.2 2 (by decide) _).trans (g37c.2 2 (by decide) _))))))))), mm_al_sm y30_3 (fun _ => ((mm_sm_pf 6 eh9 _).trans ((mm_sm_pf 6 eh8 _).trans ((g72c.2 6 (by decide) _).trans ((g65c.2 6 (by decide) _).trans ((g58c.2 6 (by decide) _).trans ((g51c.2 6 (by decide) _).trans ((g44c.2 6 (by decide) _).trans (g37c.2 6 (by decide) _))))))))), mm_al_sm y30_4 (fun _ => ((mm_sm_pf 3 eh9 _).trans ((mm_sm_pf 3 eh8 _).trans ((g72c.2 3 (by decide) _).trans ((g65c.2 3 (by decide) _).trans ((g58c.2 3 (by decide) _).trans ((g51c.2 3 (by decide) _).trans ((g44c.2 3 (by decide) _).trans (g37c.2 3 (by decide) _))))))))), mm_al_sm y30_5 (fun _ => ((mm_sm_pf 4 eh9 _).trans ((mm_sm_pf 4 eh8 _).trans ((g72c.2 4 (by decide) _).trans ((g65c.2 4 (by decide) _).trans ((g58c.2 4 (by decide) _).trans ((g51c.2 4 (by decide) _).trans ((g44c.2 4 (by decide) _).trans (g37c.2 4 (by decide) _))))))))), mm_al_sm y30_6 (fun _ => ((mm_sm_pf 5 eh9 _).trans ((mm_sm_pf 5 eh8 _).trans ((g72c.2 5 (by decide) _).trans ((g65c.2 5 (by decide) _).trans ((g58c.2 5 (by decide) _).trans ((g51c.2 5 (by decide) _).trans ((g44c.2 5 (by decide) _).trans (g37c.2 5 (by decide) _))))))))), ((fun _ => ((mm_sm_pf 6 eh9 _).trans ((mm_sm_pf 6 eh8 _).trans ((g72c.2 6 (by decide) _).trans ((g65c.2 6 (by decide) _).trans ((g58c.2 6 (by decide) _).trans ((g51c.2 6 (by decide) _).trans ((g44c.2 6 (by decide) _).trans (g37c.2 6 (by decide) _))))))))) 8).trans y30_7⟩, by first | exact fun w => absurd w (by decide) | exact fun _ _ _ => rfl, by omega, by omega, by first | exact fun w => absurd w (by decide) | exact fun _ => ⟨((fun _ => ((mm_sm_pf 44 eh9 _).trans ((mm_sm_pf 44 eh8 _).trans (g72c.2 44 (by decide) _)))) 0).trans y65_0, ((fun _ => ((mm_sm_pf 44 eh9 _).trans ((mm_sm_pf 44 eh8 _).trans (g72c.2 44 (by decide) _)))) 1).trans y65_1, ((fun _ => ((mm_sm_pf 44 eh9 _).trans ((mm_sm_pf 44 eh8 _).trans (g72c.2 44 (by decide) _)))) 2).trans y65_2⟩, by omega, by omega, by omega⟩⟩
  refine mm_icmp_lt (tgt := 22) C (mm_dec dk_X11_land 2 rfl) (by decide) (fun c2 => ?_) (fun c2 => ?_)
  · skip
    refine mm_fgt 0 ?_
    refine mm_fgt 1 ?_
    refine mm_fgt 2 ?_
    exact J22 (by omega)
  · skip
    refine mm_iload_n C (mm_dec dk_X11_land 3 rfl) rfl ?_
    refine mm_bipush C (mm_dec dk_X11_land 4 rfl) ⟨by decide, by decide⟩ ?_
    refine mm_icmp_gt (tgt := 22) C (mm_dec dk_X11_land 5 rfl) (by decide) (fun c8 => ?_) (fun c8 => ?_)
    · skip
      refine mm_fgt 0 ?_
      refine mm_fgt 1 ?_
      refine mm_fgt 2 ?_
      exact J22 (by omega)
    · skip
      refine mm_iload_n C (mm_dec dk_X11_land 6 rfl) rfl ?_
      refine mm_iconst C (mm_dec dk_X11_land 7 rfl) ⟨by decide, by decide⟩ ?_
      refine mm_icmp_lt (tgt := 22) C (mm_dec dk_X11_land 8 rfl) (by decide) (fun c13 => ?_) (fun c13 => ?_)
      · skip
        refine mm_fgt 0 ?_
        refine mm_fgt 1 ?_
        refine mm_fgt 2 ?_
        exact J22 (by omega)
      · skip
        refine mm_iload_n C (mm_dec dk_X11_land 9 rfl) rfl ?_
        refine mm_bipush C (mm_dec dk_X11_land 10 rfl) ⟨by decide, by decide⟩ ?_
        refine mm_icmp_le (tgt := 24) C (mm_dec dk_X11_land 11 rfl) (by decide) (fun c19 => ?_) (fun c19 => ?_)
        · skip
          refine mm_aload_n C (mm_dec dk_X11_land 14 rfl) rfl ?_
          refine mm_getr (t := 1) C fl_X11_12 (mm_dec dk_X11_land 15 rfl) rfl rfl (mm_ref i0 rfl) ?_
          refine mm_iload_n C (mm_dec dk_X11_land 16 rfl) rfl ?_
          refine mm_iload_n C (mm_dec dk_X11_land 17 rfl) rfl ?_
          refine mm_cVv (rest := []) C1 ev_X11_108 (mm_dec dk_X11_land 18 rfl) (c_X5_renew_q x.2.1 hl (d - 1) (by omega) h i0 p1 p2 ⟨by omega, by omega⟩ ⟨by omega, by omega⟩) rfl rfl (Nat.le_of_ble_eq_true rfl) ⟨by decide, by decide⟩ rfl (fun h30c hp30 => ?_) (fun _ _ q => q.elim)
          obtain ⟨i30c, g30c, y30_0, y30_1, y30_2, y30_3, y30_4, y30_5, y30_6, y30_7, y30_8, y30_9⟩ := hp30
          have f30c : mm_fr [(0, 13), (0, 14), (1, 5), (1, 6), (1, 7), (1, 8), (7, 9), (14, 7), (14, 8), (22, 8), (22, 9), (30, 6), (30, 12), (30, 13), (42, 3), (58, 10)] [2, 3, 4, 5, 6, 44] h h30c := mm_fr_tr f0 g30c (by decide +kernel)
          have q30c_30 : h30c.1 0 13 = h.1 0 13 := g30c.1 0 13 (by decide)
          have q30c_31 : h30c.1 0 14 = h.1 0 14 := g30c.1 0 14 (by decide)
          have q30c_32 : h30c.1 14 7 = h.1 14 7 := g30c.1 14 7 (by decide)
          have q30c_33 : h30c.1 14 8 = h.1 14 8 := g30c.1 14 8 (by decide)
          have q30c_34 : h30c.1 22 8 = h.1 22 8 := g30c.1 22 8 (by decide)
          have q30c_35 : h30c.1 22 9 = h.1 22 9 := g30c.1 22 9 (by decide)
          have q30c_36 : h30c.1 30 6 = h.1 30 6 := g30c.1 30 6 (by decide)
          have q30c_37 : h30c.1 30 12 = h.1 30 12 := g30c.1 30 12 (by decide)
          have q30c_38 : h30c.1 30 13 = h.1 30 13 := g30c.1 30 13 (by decide)
          have q30c_39 : h30c.1 42 3 = h.1 42 3 := g30c.1 42 3 (by decide)
          have g40 : 1 ≤ (h30c.1 1 5) ∧ (h30c.1 1 5) ≤ 20 := i30c.1 1 5
          have g41 : 1 ≤ (h30c.1 1 6) ∧ (h30c.1 1 6) ≤ 20 := i30c.1 1 6
          have g42 : 0 ≤ (h30c.1 1 7) ∧ (h30c.1 1 7) ≤ 399 := i30c.1 1 7
          have g43 : 0 ≤ (h30c.1 1 8) ∧ (h30c.1 1 8) ≤ 399 := i30c.1 1 8
          refine mm_aload_n C (mm_dec dk_X11_land 19 rfl) rfl ?_
          refine mm_getr (t := 7) C fl_X11_21 (mm_dec dk_X11_land 20 rfl) rfl rfl (mm_ref i30c rfl) ?_
          refine mm_cVv (rest := []) C1 ev_X11_112 (mm_dec dk_X11_land 21 rfl) (c_X10_forget x.2.1 hl (d - 1) (by omega) h30c i30c ) rfl rfl (Nat.le_of_ble_eq_true rfl) ⟨by decide, by decide⟩ rfl (fun h37c hp37 => ?_) (fun _ _ q => q.elim)
          obtain ⟨i37c, g37c⟩ := hp37
          have f37c : mm_fr [(0, 13), (0, 14), (1, 5), (1, 6), (1, 7), (1, 8), (7, 9), (14, 7), (14, 8), (22, 8), (22, 9), (30, 6), (30, 12), (30, 13), (42, 3), (58, 10)] [2, 3, 4, 5, 6, 44] h h37c := mm_fr_tr f30c g37c (by decide +kernel)
          have q37c_45 : h37c.1 0 13 = h30c.1 0 13 := g37c.1 0 13 (by decide)
          have q37c_46 : h37c.1 0 14 = h30c.1 0 14 := g37c.1 0 14 (by decide)
          have q37c_47 : h37c.1 1 5 = h30c.1 1 5 := g37c.1 1 5 (by decide)
          have q37c_48 : h37c.1 1 6 = h30c.1 1 6 := g37c.1 1 6 (by decide)
          have q37c_49 : h37c.1 1 7 = h30c.1 1 7 := g37c.1 1 7 (by decide)
          have q37c_50 : h37c.1 1 8 = h30c.1 1 8 := g37c.1 1 8 (by decide)
          have q37c_51 : h37c.1 14 7 = h30c.1 14 7 := g37c.1 14 7 (by decide)
          have q37c_52 : h37c.1 14 8 = h30c.1 14 8 := g37c.1 14 8 (by decide)
          have q37c_53 : h37c.1 22 8 = h30c.1 22 8 := g37c.1 22 8 (by decide)
          have q37c_54 : h37c.1 22 9 = h30c.1 22 9 := g37c.1 22 9 (by decide)
          have q37c_55 : h37c.1 30 6 = h30c.1 30 6 := g37c.1 30 6 (by decide)
          have q37c_56 : h37c.1 30 12 = h30c.1 30 12 := g37c.1 30 12 (by decide)
          have q37c_57 : h37c.1 30 13 = h30c.1 30 13 := g37c.1 30 13 (by decide)
          have q37c_58 : h37c.1 42 3 = h30c.1 42 3 := g37c.1 42 3 (by decide)
          refine mm_aload_n C (mm_dec dk_X11_land 22 rfl) rfl ?_
          refine mm_getr (t := 14) C fl_X11_28 (mm_dec dk_X11_land 23 rfl) rfl rfl (mm_ref i37c rfl) ?_
          refine mm_cVv (rest := []) C1 ev_X11_115 (mm_dec dk_X11_land 24 rfl) (c_X2_clear_q x.2.1 hl (d - 1) (by omega) h37c i37c ) rfl rfl (Nat.le_of_ble_eq_true rfl) ⟨by decide, by decide⟩ rfl (fun h44c hp44 => ?_) (fun _ _ q => q.elim)
          obtain ⟨i44c, g44c, y44_0, y44_1⟩ := hp44
          have f44c : mm_fr [(0, 13), (0, 14), (1, 5), (1, 6), (1, 7), (1, 8), (7, 9), (14, 7), (14, 8), (22, 8), (22, 9), (30, 6), (30, 12), (30, 13), (42, 3), (58, 10)] [2, 3, 4, 5, 6, 44] h h44c := mm_fr_tr f37c g44c (by decide +kernel)
          have q44c_60 : h44c.1 0 13 = h37c.1 0 13 := g44c.1 0 13 (by decide)
          have q44c_61 : h44c.1 0 14 = h37c.1 0 14 := g44c.1 0 14 (by decide)
          have q44c_62 : h44c.1 1 5 = h37c.1 1 5 := g44c.1 1 5 (by decide)
          have q44c_63 : h44c.1 1 6 = h37c.1 1 6 := g44c.1 1 6 (by decide)
          have q44c_64 : h44c.1 1 7 = h37c.1 1 7 := g44c.1 1 7 (by decide)
          have q44c_65 : h44c.1 1 8 = h37c.1 1 8 := g44c.1 1 8 (by decide)
          have q44c_66 : h44c.1 22 8 = h37c.1 22 8 := g44c.1 22 8 (by decide)
          have q44c_67 : h44c.1 22 9 = h37c.1 22 9 := g44c.1 22 9 (by decide)
          have q44c_68 : h44c.1 30 6 = h37c.1 30 6 := g44c.1 30 6 (by decide)
          have q44c_69 : h44c.1 30 12 = h37c.1 30 12 := g44c.1 30 12 (by decide)
          have q44c_70 : h44c.1 30 13 = h37c.1 30 13 := g44c.1 30 13 (by decide)
          have q44c_71 : h44c.1 42 3 = h37c.1 42 3 := g44c.1 42 3 (by decide)
          have g72 : 0 ≤ (h44c.1 14 8) ∧ (h44c.1 14 8) ≤ 8 := i44c.1 14 8
          have g73 : 0 ≤ (h44c.1 14 7) ∧ (h44c.1 14 7) ≤ 20 := i44c.1 14 7
          refine mm_aload_n C (mm_dec dk_X11_land 25 rfl) rfl ?_
          refine mm_getr (t := 22) C fl_X11_37 (mm_dec dk_X11_land 26 rfl) rfl rfl (mm_ref i44c rfl) ?_
          refine mm_cVv (rest := []) C1 ev_X11_118 (mm_dec dk_X11_land 27 rfl) (c_X9_clear_q x.2.1 hl (d - 1) (by omega) h44c i44c ) rfl rfl (Nat.le_of_ble_eq_true rfl) ⟨by decide, by decide⟩ rfl (fun h51c hp51 => ?_) (fun _ _ q => q.elim)
          obtain ⟨i51c, g51c, y51_0, y51_1⟩ := hp51
          have f51c : mm_fr [(0, 13), (0, 14), (1, 5), (1, 6), (1, 7), (1, 8), (7, 9), (14, 7), (14, 8), (22, 8), (22, 9), (30, 6), (30, 12), (30, 13), (42, 3), (58, 10)] [2, 3, 4, 5, 6, 44] h h51c := mm_fr_tr f44c g51c (by decide +kernel)
          have q51c_75 : h51c.1 0 13 = h44c.1 0 13 := g51c.1 0 13 (by decide)
          have q51c_76 : h51c.1 0 14 = h44c.1 0 14 := g51c.1 0 14 (by decide)
          have q51c_77 : h51c.1 1 5 = h44c.1 1 5 := g51c.1 1 5 (by decide)
          have q51c_78 : h51c.1 1 6 = h44c.1 1 6 := g51c.1 1 6 (by decide)
          have q51c_79 : h51c.1 1 7 = h44c.1 1 7 := g51c.1 1 7 (by decide)
          have q51c_80 : h51c.1 1 8 = h44c.1 1 8 := g51c.1 1 8 (by decide)
          have q51c_81 : h51c.1 14 7 = h44c.1 14 7 := g51c.1 14 7 (by decide)
          have q51c_82 : h51c.1 14 8 = h44c.1 14 8 := g51c.1 14 8 (by decide)
          have q51c_83 : h51c.1 30 6 = h44c.1 30 6 := g51c.1 30 6 (by decide)
          have q51c_84 : h51c.1 30 12 = h44c.1 30 12 := g51c.1 30 12 (by decide)
          have q51c_85 : h51c.1 30 13 = h44c.1 30 13 := g51c.1 30 13 (by decide)
          have q51c_86 : h51c.1 42 3 = h44c.1 42 3 := g51c.1 42 3 (by decide)
          have g87 : 0 ≤ (h51c.1 22 8) ∧ (h51c.1 22 8) ≤ 40 := i51c.1 22 8
          have g88 : 0 ≤ (h51c.1 22 9) ∧ (h51c.1 22 9) ≤ 10 := i51c.1 22 9
          refine mm_aload_n C (mm_dec dk_X11_land 28 rfl) rfl ?_
          refine mm_getr (t := 30) C fl_X11_44 (mm_dec dk_X11_land 29 rfl) rfl rfl (mm_ref i51c rfl) ?_
          refine mm_cVv (rest := []) C1 ev_X11_119 (mm_dec dk_X11_land 30 rfl) (c_X6_clear_q x.2.1 hl (d - 1) (by omega) h51c i51c ) rfl rfl (Nat.le_of_ble_eq_true rfl) ⟨by decide, by decide⟩ rfl (fun h58c hp58 => ?_) (fun _ _ q => q.elim)
          obtain ⟨i58c, g58c, y58_0, y58_1, y58_2⟩ := hp58
          have f58c : mm_fr [(0, 13), (0, 14), (1, 5), (1, 6), (1, 7), (1, 8), (7, 9), (14, 7), (14, 8), (22, 8), (22, 9), (30, 6), (30, 12), (30, 13), (42, 3), (58, 10)] [2, 3, 4, 5, 6, 44] h h58c := mm_fr_tr f51c g58c (by decide +kernel)
          have q58c_90 : h58c.1 0 13 = h51c.1 0 13 := g58c.1 0 13 (by decide)
          have q58c_91 : h58c.1 0 14 = h51c.1 0 14 := g58c.1 0 14 (by decide)
          have q58c_92 : h58c.1 1 5 = h51c.1 1 5 := g58c.1 1 5 (by decide)
          have q58c_93 : h58c.1 1 6 = h51c.1 1 6 := g58c.1 1 6 (by decide)
          have q58c_94 : h58c.1 1 7 = h51c.1 1 7 := g58c.1 1 7 (by decide)
          have q58c_95 : h58c.1 1 8 = h51c.1 1 8 := g58c.1 1 8 (by decide)
          have q58c_96 : h58c.1 14 7 = h51c.1 14 7 := g58c.1 14 7 (by decide)
          have q58c_97 : h58c.1 14 8 = h51c.1 14 8 := g58c.1 14 8 (by decide)
          have q58c_98 : h58c.1 22 8 = h51c.1 22 8 := g58c.1 22 8 (by decide)
          have q58c_99 : h58c.1 22 9 = h51c.1 22 9 := g58c.1 22 9 (by decide)
          have q58c_100 : h58c.1 42 3 = h51c.1 42 3 := g58c.1 42 3 (by decide)
          have g101 : 0 ≤ (h58c.1 30 6) ∧ (h58c.1 30 6) ≤ 500 := i58c.1 30 6
          have g102 : 0 ≤ (h58c.1 30 12) ∧ (h58c.1 30 12) ≤ 40 := i58c.1 30 12
          have g103 : -2147483648 ≤ (h58c.1 30 13) ∧ (h58c.1 30 13) ≤ 2147483647 := i58c.1 30 13
          refine mm_aload_n C (mm_dec dk_X11_land 31 rfl) rfl ?_
          refine mm_getr (t := 42) C fl_X11_51 (mm_dec dk_X11_land 32 rfl) rfl rfl (mm_ref i58c rfl) ?_
          refine mm_cVv (rest := []) C1 ev_X11_120 (mm_dec dk_X11_land 33 rfl) (c_X8_clear_q x.2.1 hl (d - 1) (by omega) h58c i58c ) rfl rfl (Nat.le_of_ble_eq_true rfl) ⟨by decide, by decide⟩ rfl (fun h65c hp65 => ?_) (fun _ _ q => q.elim)
          obtain ⟨i65c, g65c, y65_0, y65_1, y65_2, y65_3⟩ := hp65
          have f65c : mm_fr [(0, 13), (0, 14), (1, 5), (1, 6), (1, 7), (1, 8), (7, 9), (14, 7), (14, 8), (22, 8), (22, 9), (30, 6), (30, 12), (30, 13), (42, 3), (58, 10)] [2, 3, 4, 5, 6, 44] h h65c := mm_fr_tr f58c g65c (by decide +kernel)
          have q65c_105 : h65c.1 0 13 = h58c.1 0 13 := g65c.1 0 13 (by decide)
          have q65c_106 : h65c.1 0 14 = h58c.1 0 14 := g65c.1 0 14 (by decide)
          have q65c_107 : h65c.1 1 5 = h58c.1 1 5 := g65c.1 1 5 (by decide)
          have q65c_108 : h65c.1 1 6 = h58c.1 1 6 := g65c.1 1 6 (by decide)
          have q65c_109 : h65c.1 1 7 = h58c.1 1 7 := g65c.1 1 7 (by decide)
          have q65c_110 : h65c.1 1 8 = h58c.1 1 8 := g65c.1 1 8 (by decide)
          have q65c_111 : h65c.1 14 7 = h58c.1 14 7 := g65c.1 14 7 (by decide)
          have q65c_112 : h65c.1 14 8 = h58c.1 14 8 := g65c.1 14 8 (by decide)
          have q65c_113 : h65c.1 22 8 = h58c.1 22 8 := g65c.1 22 8 (by decide)
          have q65c_114 : h65c.1 22 9 = h58c.1 22 9 := g65c.1 22 9 (by decide)
          have q65c_115 : h65c.1 30 6 = h58c.1 30 6 := g65c.1 30 6 (by decide)
          have q65c_116 : h65c.1 30 12 = h58c.1 30 12 := g65c.1 30 12 (by decide)
          have q65c_117 : h65c.1 30 13 = h58c.1 30 13 := g65c.1 30 13 (by decide)
          have g118 : 0 ≤ (h65c.1 42 3) ∧ (h65c.1 42 3) ≤ 500 := i65c.1 42 3
          refine mm_aload_n C (mm_dec dk_X11_land 34 rfl) rfl ?_
          refine mm_getr (t := 58) C fl_X11_78 (mm_dec dk_X11_land 35 rfl) rfl rfl (mm_ref i65c rfl) ?_
          refine mm_cVv (rest := []) C1 ev_X11_121 (mm_dec dk_X11_land 36 rfl) (c_X0_forget x.2.1 hl (d - 1) (by omega) h65c i65c ) rfl rfl (Nat.le_of_ble_eq_true rfl) ⟨by decide, by decide⟩ rfl (fun h72c hp72 => ?_) (fun _ _ q => q.elim)
          obtain ⟨i72c, g72c⟩ := hp72
          have f72c : mm_fr [(0, 13), (0, 14), (1, 5), (1, 6), (1, 7), (1, 8), (7, 9), (14, 7), (14, 8), (22, 8), (22, 9), (30, 6), (30, 12), (30, 13), (42, 3), (58, 10)] [2, 3, 4, 5, 6, 44] h h72c := mm_fr_tr f65c g72c (by decide +kernel)
          have q72c_120 : h72c.1 0 13 = h65c.1 0 13 := g72c.1 0 13 (by decide)
          have q72c_121 : h72c.1 0 14 = h65c.1 0 14 := g72c.1 0 14 (by decide)
          have q72c_122 : h72c.1 1 5 = h65c.1 1 5 := g72c.1 1 5 (by decide)
          have q72c_123 : h72c.1 1 6 = h65c.1 1 6 := g72c.1 1 6 (by decide)
          have q72c_124 : h72c.1 1 7 = h65c.1 1 7 := g72c.1 1 7 (by decide)
          have q72c_125 : h72c.1 1 8 = h65c.1 1 8 := g72c.1 1 8 (by decide)
          have q72c_126 : h72c.1 14 7 = h65c.1 14 7 := g72c.1 14 7 (by decide)
          have q72c_127 : h72c.1 14 8 = h65c.1 14 8 := g72c.1 14 8 (by decide)
          have q72c_128 : h72c.1 22 8 = h65c.1 22 8 := g72c.1 22 8 (by decide)
          have q72c_129 : h72c.1 22 9 = h65c.1 22 9 := g72c.1 22 9 (by decide)
          have q72c_130 : h72c.1 30 6 = h65c.1 30 6 := g72c.1 30 6 (by decide)
          have q72c_131 : h72c.1 30 12 = h65c.1 30 12 := g72c.1 30 12 (by decide)
          have q72c_132 : h72c.1 30 13 = h65c.1 30 13 := g72c.1 30 13 (by decide)
          have q72c_133 : h72c.1 42 3 = h65c.1 42 3 := g72c.1 42 3 (by decide)
          refine mm_aload_n C (mm_dec dk_X11_land 37 rfl) rfl ?_
          refine mm_iconst C (mm_dec dk_X11_land 38 rfl) ⟨by decide, by decide⟩ ?_
          refine mm_puti C fl_X11_102 (mm_dec dk_X11_land 39 rfl) rfl rfl rfl (Or.inl ⟨rfl, rfl⟩) ?_
          have i8 : mm_inv (mm_pf h72c 0 13 0) := mm_inv_pf i72c (show 0 ≤ 0 ∧ 0 ≤ 99999 from ⟨by omega, by omega⟩) (by decide)
          have f8 : mm_fr [(0, 13), (0, 14), (1, 5), (1, 6), (1, 7), (1, 8), (7, 9), (14, 7), (14, 8), (22, 8), (22, 9), (30, 6), (30, 12), (30, 13), (42, 3), (58, 10)] [2, 3, 4, 5, 6, 44] h (mm_pf h72c 0 13 0) := mm_fr_pf f72c (by decide)
          obtain ⟨h8, eh8⟩ : ∃ z, z = mm_pf h72c 0 13 0 := ⟨_, rfl⟩
          rw [← eh8] at i8 f8 ⊢
          have qh8 : h8.1 0 13 = 0 := by rw [eh8]; exact mm_pf_same _ _ _ _
          have qh8_134 : h8.1 0 14 = h72c.1 0 14 := by rw [eh8]; exact mm_pf_ne _ _ (by decide)
          have qh8_135 : h8.1 1 5 = h72c.1 1 5 := by rw [eh8]; exact mm_pf_ne _ _ (by decide)
          have qh8_136 : h8.1 1 6 = h72c.1 1 6 := by rw [eh8]; exact mm_pf_ne _ _ (by decide)
          have qh8_137 : h8.1 1 7 = h72c.1 1 7 := by rw [eh8]; exact mm_pf_ne _ _ (by decide)
          have qh8_138 : h8.1 1 8 = h72c.1 1 8 := by rw [eh8]; exact mm_pf_ne _ _ (by decide)
          have qh8_139 : h8.1 14 7 = h72c.1 14 7 := by rw [eh8]; exact mm_pf_ne _ _ (by decide)
          have qh8_140 : h8.1 14 8 = h72c.1 14 8 := by rw [eh8]; exact mm_pf_ne _ _ (by decide)
          have qh8_141 : h8.1 22 8 = h72c.1 22 8 := by rw [eh8]; exact mm_pf_ne _ _ (by decide)
          have qh8_142 : h8.1 22 9 = h72c.1 22 9 := by rw [eh8]; exact mm_pf_ne _ _ (by decide)
          have qh8_143 : h8.1 30 6 = h72c.1 30 6 := by rw [eh8]; exact mm_pf_ne _ _ (by decide)
          have qh8_144 : h8.1 30 12 = h72c.1 30 12 := by rw [eh8]; exact mm_pf_ne _ _ (by decide)
          have qh8_145 : h8.1 30 13 = h72c.1 30 13 := by rw [eh8]; exact mm_pf_ne _ _ (by decide)
          have qh8_146 : h8.1 42 3 = h72c.1 42 3 := by rw [eh8]; exact mm_pf_ne _ _ (by decide)
          refine mm_aload_n C (mm_dec dk_X11_land 40 rfl) rfl ?_
          refine mm_iconst C (mm_dec dk_X11_land 41 rfl) ⟨by decide, by decide⟩ ?_
          refine mm_puti C fl_X11_105 (mm_dec dk_X11_land 42 rfl) rfl rfl rfl (Or.inl ⟨rfl, rfl⟩) ?_
          have i9 : mm_inv (mm_pf h8 0 14 (-1)) := mm_inv_pf i8 (show -2147483648 ≤ (-1) ∧ (-1) ≤ 2147483647 from ⟨by omega, by omega⟩) (by decide)
          have f9 : mm_fr [(0, 13), (0, 14), (1, 5), (1, 6), (1, 7), (1, 8), (7, 9), (14, 7), (14, 8), (22, 8), (22, 9), (30, 6), (30, 12), (30, 13), (42, 3), (58, 10)] [2, 3, 4, 5, 6, 44] h (mm_pf h8 0 14 (-1)) := mm_fr_pf f8 (by decide)
          obtain ⟨h9, eh9⟩ : ∃ z, z = mm_pf h8 0 14 (-1) := ⟨_, rfl⟩
          rw [← eh9] at i9 f9 ⊢
          have qh9 : h9.1 0 14 = (-1) := by rw [eh9]; exact mm_pf_same _ _ _ _
          have qh9_147 : h9.1 0 13 = h8.1 0 13 := by rw [eh9]; exact mm_pf_ne _ _ (by decide)
          have qh9_148 : h9.1 1 5 = h8.1 1 5 := by rw [eh9]; exact mm_pf_ne _ _ (by decide)
          have qh9_149 : h9.1 1 6 = h8.1 1 6 := by rw [eh9]; exact mm_pf_ne _ _ (by decide)
          have qh9_150 : h9.1 1 7 = h8.1 1 7 := by rw [eh9]; exact mm_pf_ne _ _ (by decide)
          have qh9_151 : h9.1 1 8 = h8.1 1 8 := by rw [eh9]; exact mm_pf_ne _ _ (by decide)
          have qh9_152 : h9.1 14 7 = h8.1 14 7 := by rw [eh9]; exact mm_pf_ne _ _ (by decide)
          have qh9_153 : h9.1 14 8 = h8.1 14 8 := by rw [eh9]; exact mm_pf_ne _ _ (by decide)
          have qh9_154 : h9.1 22 8 = h8.1 22 8 := by rw [eh9]; exact mm_pf_ne _ _ (by decide)
          have qh9_155 : h9.1 22 9 = h8.1 22 9 := by rw [eh9]; exact mm_pf_ne _ _ (by decide)
          have qh9_156 : h9.1 30 6 = h8.1 30 6 := by rw [eh9]; exact mm_pf_ne _ _ (by decide)
          have qh9_157 : h9.1 30 12 = h8.1 30 12 := by rw [eh9]; exact mm_pf_ne _ _ (by decide)
          have qh9_158 : h9.1 30 13 = h8.1 30 13 := by rw [eh9]; exact mm_pf_ne _ _ (by decide)
          have qh9_159 : h9.1 42 3 = h8.1 42 3 := by rw [eh9]; exact mm_pf_ne _ _ (by decide)
          refine mm_iconst C (mm_dec dk_X11_land 43 rfl) ⟨by decide, by decide⟩ ?_
          exact mm_zret C T (mm_dec dk_X11_land 44 rfl) (by decide : 0 ≤ 0) (by decide : 0 ≤ 0) (by omega) ⟨_, rfl, ⟨⟨by omega, by omega⟩, i9, f9, by omega, by omega, by omega, by first | exact fun w => absurd w (by decide) | exact fun _ => ⟨mm_al_sm y30_2 (fun _ => ((mm_sm_pf 2 eh9 _).trans ((mm_sm_pf 2 eh8 _).trans ((g72c.2 2 (by decide) _).trans ((g65c.2 2 (by decide) _).trans ((g58c.2 2 (by decide) _).trans ((g51c.2 2 (by decide) _).trans ((g44c.2 2 (by decide) _).trans (g37c.2 2 (by decide) _))))))))), mm_al_sm y30_3 (fun _ => ((mm_sm_pf 6 eh9 _).trans ((mm_sm_pf 6 eh8 _).trans ((g72c.2 6 (by decide) _).trans ((g65c.2 6 (by decide) _).trans ((g58c.2 6 (by decide) _).trans ((g51c.2 6 (by decide) _).trans ((g44c.2 6 (by decide) _).trans (g37c.2 6 (by decide) _))))))))), mm_al_sm y30_4 (fun _ => ((mm_sm_pf 3 eh9 _).trans ((mm_sm_pf 3 eh8 _).trans ((g72c.2 3 (by decide) _).trans ((g65c.2 3 (by decide) _).trans ((g58c.2 3 (by decide) _).trans ((g51c.2 3 (by decide) _).trans ((g44c.2 3 (by decide) _).trans (g37c.2 3 (by decide) _))))))))), mm_al_sm y30_5 (fun _ => ((mm_sm_pf 4 eh9 _).trans ((mm_sm_pf 4 eh8 _).trans ((g72c.2 4 (by decide) _).trans ((g65c.2 4 (by decide) _).trans ((g58c.2 4 (by decide) _).trans ((g51c.2 4 (by decide) _).trans ((g44c.2 4 (by decide) _).trans (g37c.2 4 (by decide) _))))))))), mm_al_sm y30_6 (fun _ => ((mm_sm_pf 5 eh9 _).trans ((mm_sm_pf 5 eh8 _).trans ((g72c.2 5 (by decide) _).trans ((g65c.2 5 (by decide) _).trans ((g58c.2 5 (by decide) _).trans ((g51c.2 5 (by decide) _).trans ((g44c.2 5 (by decide) _).trans (g37c.2 5 (by decide) _))))))))), ((fun _ => ((mm_sm_pf 6 eh9 _).trans ((mm_sm_pf 6 eh8 _).trans ((g72c.2 6 (by decide) _).trans ((g65c.2 6 (by decide) _).trans ((g58c.2 6 (by decide) _).trans ((g51c.2 6 (by decide) _).trans ((g44c.2 6 (by decide) _).trans (g37c.2 6 (by decide) _))))))))) 8).trans y30_7⟩, by first | exact fun w => absurd w (by decide) | exact fun _ _ _ => rfl, by omega, by omega, by first | exact fun w => absurd w (by decide) | exact fun _ => ⟨((fun _ => ((mm_sm_pf 44 eh9 _).trans ((mm_sm_pf 44 eh8 _).trans (g72c.2 44 (by decide) _)))) 0).trans y65_0, ((fun _ => ((mm_sm_pf 44 eh9 _).trans ((mm_sm_pf 44 eh8 _).trans (g72c.2 44 (by decide) _)))) 1).trans y65_1, ((fun _ => ((mm_sm_pf 44 eh9 _).trans ((mm_sm_pf 44 eh8 _).trans (g72c.2 44 (by decide) _)))) 2).trans y65_2⟩, by omega, by omega, by omega⟩⟩
        · skip
          refine mm_fgt 0 ?_
          refine mm_fgt 1 ?_
          refine mm_fgt 2 ?_
          exact J22 (by omega)
set_option maxRecDepth 100000 in
set_option maxHeartbeats 4000000 in
theorem c_X11_course_q (l : Launch) (hl : l.stackTraces = false) (d : Nat) (hd : 1 ≤ d) (h : mH) (i0 : mm_inv h) (p1 : Int) (bp1 : 0 ≤ p1 ∧ p1 ≤ 1) : mm_Met l d yX11_course cX11_course 2 (some .int) [mR 0, mI p1] h (mm_pi fun r h2 => (-1 ≤ r ∧ r ≤ 7) ∧ mm_inv h2 ∧ mm_fr [(14, 8)] [17, 18, 19, 20] h h2 ∧ ((h.1 14 8 ≤ 7 ∧ r = h.1 14 8 ∧ h2.1 14 8 = h.1 14 8 + 1) ∨ (8 ≤ h.1 14 8 ∧ r = -1 ∧ h2.1 14 8 = h.1 14 8)) ∧ (∃ f : Int, ((f = 1 ∧ h2.1 14 8 = h.1 14 8 + 1) ∨ (f = 0 ∧ h2.1 14 8 = h.1 14 8)) ∧ mm_up h h2 17 (h.1 14 8) p1 f ∧ mm_up h h2 18 (h.1 14 8) 0 f ∧ mm_up h h2 19 (h.1 14 8) 0 f ∧ mm_up h h2 20 (h.1 14 8) 0 f)) mm_nx 0 0 := by
  refine mm_ofW (ls := [mR 0, mI p1]) hl (by decide) rfl (Nat.le_of_ble_eq_true rfl) ?_
  intro x hxl C T hnm htb
  subst hxl
  have C1 := mm_OK_le (d' := d - 1 + 1) (by omega) C
  refine mm_rng (fun hr _ => ?_)
  have ap1 : -2147483648 ≤ p1 ∧ p1 < 2147483648 := mm_ok_at hr (i := 1) rfl
  have f0 : mm_fr [(14, 8)] [17, 18, 19, 20] h h := mm_fr_rf
  have g1 : 0 ≤ h.1 14 8 ∧ h.1 14 8 ≤ 8 := i0.1 14 8
  refine mm_aload_n C (mm_dec dk_X11_course 0 rfl) rfl ?_
  refine mm_getr (t := 14) C fl_X11_28 (mm_dec dk_X11_course 1 rfl) rfl rfl (mm_ref i0 rfl) ?_
  refine mm_cVi (rest := []) C1 ev_X11_200 (mm_dec dk_X11_course 2 rfl) (c_X2_size x.2.1 hl (d - 1) (by omega) h i0 ) rfl rfl (Nat.le_of_ble_eq_true rfl) ⟨by decide, by decide⟩ rfl (fun r4 h4c hp4 => ?_) (fun _ _ q => q.elim)
  obtain ⟨z4, y4⟩ := hp4
  rw [z4, y4]
  refine mm_bipush C (mm_dec dk_X11_course 3 rfl) ⟨by decide, by decide⟩ ?_
  refine mm_icmp_lt (tgt := 14) C (mm_dec dk_X11_course 4 rfl) (by decide) (fun c9 => ?_) (fun c9 => ?_)
  · skip
    refine mm_aload_n C (mm_dec dk_X11_course 7 rfl) rfl ?_
    refine mm_getr (t := 14) C fl_X11_28 (mm_dec dk_X11_course 8 rfl) rfl rfl (mm_ref i0 rfl) ?_
    refine mm_iload_n C (mm_dec dk_X11_course 9 rfl) rfl ?_
    refine mm_cVi (rest := []) C1 ev_X11_203 (mm_dec dk_X11_course 10 rfl) (c_X2_open_q x.2.1 hl (d - 1) (by omega) h i0 p1 ⟨by omega, by omega⟩ (by omega)) rfl rfl (Nat.le_of_ble_eq_true rfl) ⟨by decide, by decide⟩ rfl (fun r19 h19c hp19 => ?_) (fun _ _ q => q.elim)
    obtain ⟨b19, i19c, g19c, y19_0, y19_1, y19_2, y19_3, y19_4, y19_5⟩ := hp19
    have f19c : mm_fr [(14, 8)] [17, 18, 19, 20] h h19c := mm_fr_tr f0 g19c (by decide +kernel)
    have g4 : 0 ≤ (h19c.1 14 8) ∧ (h19c.1 14 8) ≤ 8 := i19c.1 14 8
    exact mm_iret C T (mm_dec dk_X11_course 11 rfl) (by decide : 0 ≤ 0) (by decide : 0 ≤ 0) ⟨_, rfl, ⟨⟨by omega, by omega⟩, i19c, f19c, by omega, by first | exact ⟨0, Or.inr ⟨rfl, rfl⟩, mm_up_no (by decide) (fun _ => rfl), mm_up_no (by decide) (fun _ => rfl), mm_up_no (by decide) (fun _ => rfl), mm_up_no (by decide) (fun _ => rfl)⟩ | exact ⟨1, Or.inl ⟨rfl, by omega⟩, y19_2, y19_3, y19_4, y19_5⟩⟩⟩
  · skip
    refine mm_iconst C (mm_dec dk_X11_course 5 rfl) ⟨by decide, by decide⟩ ?_
    exact mm_iret C T (mm_dec dk_X11_course 6 rfl) (by decide : 0 ≤ 0) (by decide : 0 ≤ 0) ⟨_, rfl, ⟨⟨by omega, by omega⟩, i0, f0, by omega, by first | exact ⟨0, Or.inr ⟨rfl, rfl⟩, mm_up_no (by decide) (fun _ => rfl), mm_up_no (by decide) (fun _ => rfl), mm_up_no (by decide) (fun _ => rfl), mm_up_no (by decide) (fun _ => rfl)⟩ | exact ⟨1, Or.inl ⟨rfl, by omega⟩, y19_2, y19_3, y19_4, y19_5⟩⟩⟩
set_option maxRecDepth 100000 in
set_option maxHeartbeats 4000000 in
theorem c_X12_right_q (l : Launch) (hl : l.stackTraces = false) (d : Nat) (hd : 0 ≤ d) (h : mH) (i0 : mm_inv h) (p1 : Int) (p2 : Int) (bp1 : 0 ≤ p1 ∧ p1 ≤ 1) (u0 : p2 ≠ 0) : mm_Met l d yX12_right cX12_right 3 (some .boolean) [mR 66, mI p1, mI p2] h (mm_pi fun r h2 => (0 ≤ r ∧ r ≤ 1) ∧ mm_inv h2 ∧ mm_fr [(66, 0)] [] h h2 ∧ ((h.1 66 0 = 0 ∧ p1 = 0 ∧ r = 0 ∧ h2.1 66 0 = p2) ∨ (h.1 66 0 = 0 ∧ p1 ≠ 0 ∧ r = 1 ∧ h2.1 66 0 = 0) ∨ (h.1 66 0 ≠ 0 ∧ r = 0 ∧ h2.1 66 0 = h.1 66 0))) mm_nx 0 0 := by
  refine mm_ofW (ls := [mR 66, mI p1, mI p2]) hl (by decide) rfl (Nat.le_of_ble_eq_true rfl) ?_
  intro x hxl C T hnm htb
  subst hxl
  refine mm_rng (fun hr _ => ?_)
  have ap1 : -2147483648 ≤ p1 ∧ p1 < 2147483648 := mm_ok_at hr (i := 1) rfl
  have ap2 : -2147483648 ≤ p2 ∧ p2 < 2147483648 := mm_ok_at hr (i := 2) rfl
  have f0 : mm_fr [(66, 0)] [] h h := mm_fr_rf
  have g1 : -2147483648 ≤ h.1 66 0 ∧ h.1 66 0 ≤ 2147483647 := i0.1 66 0
  refine mm_aload_n C (mm_dec dk_X12_right 0 rfl) rfl ?_
  refine mm_geti C fl_X12_188 (mm_dec dk_X12_right 1 rfl) rfl rfl (Or.inl rfl) ?_
  have J16 : ∀ (h16_ : mH) (i16_ : mm_inv h16_) (f16_ : mm_fr [(66, 0)] [] h h16_) (w16_0 : ((h.1 66 0 = 0 ∧ p1 = 0 ∧ h16_.1 66 0 = p2) ∨ ((h.1 66 0 ≠ 0 ∨ p1 ≠ 0) ∧ h16_.1 66 0 = h.1 66 0))), mm_W x 0 0 16 [mR 66, mU, mU] [] h16_ := by
    intro h16_ i16_ f16_ w16_0
    have g2 : -2147483648 ≤ h16_.1 66 0 ∧ h16_.1 66 0 ≤ 2147483647 := i16_.1 66 0
    refine mm_aload_n C (mm_dec dk_X12_right 8 rfl) rfl ?_
    refine mm_geti C fl_X12_188 (mm_dec dk_X12_right 9 rfl) rfl rfl (Or.inl rfl) ?_
    have J28 : ∀ (s28_0 : Int) (bs28_0 : 0 ≤ s28_0 ∧ s28_0 ≤ 1) (w28_0 : ((h16_.1 66 0 = 0 ∧ s28_0 = 1) ∨ (h16_.1 66 0 ≠ 0 ∧ s28_0 = 0))) (vs28_0 : ((h16_.1 66 0) ≠ 0 ∧ s28_0 = 0) ∨ ((h16_.1 66 0) = 0 ∧ s28_0 = 1)), mm_W x 0 0 28 [mU, mU, mU] [mI s28_0] h16_ := by
      intro s28_0 bs28_0 w28_0 vs28_0
      have g3 : -2147483648 ≤ h16_.1 66 0 ∧ h16_.1 66 0 ≤ 2147483647 := i16_.1 66 0
      exact mm_zret C T (mm_dec dk_X12_right 14 rfl) (by decide : 0 ≤ 0) (by decide : 0 ≤ 0) (by omega) ⟨_, rfl, ⟨⟨by omega, by omega⟩, i16_, f16_, by omega⟩⟩
    refine mm_if_ne (tgt := 27) C (mm_dec dk_X12_right 10 rfl) (by decide) (fun c20 => ?_) (fun c20 => ?_)
    · skip
      refine mm_iconst C (mm_dec dk_X12_right 13 rfl) ⟨by decide, by decide⟩ ?_
      refine mm_fgt 0 ?_
      exact J28 0 ⟨by omega, by omega⟩ (by omega) (Or.inl ⟨by omega, rfl⟩)
    · skip
      refine mm_iconst C (mm_dec dk_X12_right 11 rfl) ⟨by decide, by decide⟩ ?_
      refine mm_goto (tgt := 28) C (mm_dec dk_X12_right 12 rfl) (by decide) ?_
      refine mm_fgt 0 ?_
      exact J28 1 ⟨by omega, by omega⟩ (by omega) (Or.inr (⟨by omega, rfl⟩))
  refine mm_if_ne (tgt := 16) C (mm_dec dk_X12_right 2 rfl) (by decide) (fun c4 => ?_) (fun c4 => ?_)
  · skip
    refine mm_fgt 1 ?_
    refine mm_fgt 2 ?_
    exact J16 h i0 f0 (by omega)
  · skip
    refine mm_iload_n C (mm_dec dk_X12_right 3 rfl) rfl ?_
    refine mm_if_ne (tgt := 16) C (mm_dec dk_X12_right 4 rfl) (by decide) (fun c8 => ?_) (fun c8 => ?_)
    · skip
      refine mm_fgt 1 ?_
      refine mm_fgt 2 ?_
      exact J16 h i0 f0 (by omega)
    · skip
      refine mm_aload_n C (mm_dec dk_X12_right 5 rfl) rfl ?_
      refine mm_iload_n C (mm_dec dk_X12_right 6 rfl) rfl ?_
      refine mm_puti C fl_X12_188 (mm_dec dk_X12_right 7 rfl) rfl rfl rfl (Or.inl ⟨rfl, rfl⟩) ?_
      have i1 : mm_inv (mm_pf h 66 0 p2) := mm_inv_pf i0 (show -2147483648 ≤ p2 ∧ p2 ≤ 2147483647 from ⟨by omega, by omega⟩) (by decide)
      have f1 : mm_fr [(66, 0)] [] h (mm_pf h 66 0 p2) := mm_fr_pf f0 (by decide)
      obtain ⟨h1, eh1⟩ : ∃ z, z = mm_pf h 66 0 p2 := ⟨_, rfl⟩
      rw [← eh1] at i1 f1 ⊢
      have qh1 : h1.1 66 0 = p2 := by rw [eh1]; exact mm_pf_same _ _ _ _
      refine mm_fgt 1 ?_
      refine mm_fgt 2 ?_
      exact J16 h1 i1 f1 (by omega)
