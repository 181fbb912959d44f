set_option maxRecDepth 100000 in
set_option maxHeartbeats 4000000 in
theorem c_X5_init (l : Launch) (hl : l.stackTraces = false) (d : Nat) (hd : 1 ≤ d) (h : mH) (i0 : mm_inp [(1, 0), (1, 1), (1, 2), (1, 3), (1, 4), (1, 5), (1, 6), (0, 0), (0, 1), (0, 2), (0, 3), (0, 4), (0, 5), (0, 6), (0, 7), (0, 8), (0, 9), (0, 10), (0, 11)] 2 h) : mm_Met l d yX5_init cX5_init 1 none [mR 1] h (mm_pv fun h2 => mm_inp [(0, 0), (0, 1), (0, 2), (0, 3), (0, 4), (0, 5), (0, 6), (0, 7), (0, 8), (0, 9), (0, 10), (0, 11)] 7 h2) mm_nx 5 1609 := by
  refine mm_ofW (ls := [mR 1]) hl (by decide) rfl (Nat.le_of_ble_eq_true rfl) ?_
  intro x hxl C T hnm htb
  subst hxl
  have C1 := mm_OK_le (d' := d - 1 + 1) (by omega) C
  refine mm_aload_n C (mm_dec dk_X5_init 0 rfl) rfl ?_
  refine mm_objInit C1 ml_X5_3 im_obj co_obj (mm_dec dk_X5_init 1 rfl) (Nat.le_of_ble_eq_true rfl) ?_
  refine mm_aload_n C (mm_dec dk_X5_init 2 rfl) rfl ?_
  refine mm_sipush C (mm_dec dk_X5_init 3 rfl) ⟨by decide, by decide⟩ ?_
  refine mm_newa (atype := .int) (n := 2) (len := 400) C ac_int (mm_dec dk_X5_init 4 rfl) i0.2.2 (by decide) rfl (Or.inl ⟨rfl, rfl⟩) rfl (by decide) (by decide) (by decide) ?_
  have i1 : mm_inp [(1, 0), (1, 1), (1, 2), (1, 3), (1, 4), (1, 5), (1, 6), (0, 0), (0, 1), (0, 2), (0, 3), (0, 4), (0, 5), (0, 6), (0, 7), (0, 8), (0, 9), (0, 10), (0, 11)] 3 (mm_nw h) := mm_inp_nw i0 (by decide) rfl (by decide +kernel) (by decide +kernel)
  obtain ⟨h1, eh1⟩ : ∃ z, z = mm_nw h := ⟨_, rfl⟩
  rw [← eh1] at i1 ⊢
  clear eh1
  refine mm_putrF C fl_X5_9 (mm_dec dk_X5_init 5 rfl) rfl rfl rfl hnm rfl (fun q => ⟨rfl, rfl⟩) (by decide) ?_
  have i2 : mm_inp [(1, 1), (1, 2), (1, 3), (1, 4), (1, 5), (1, 6), (0, 0), (0, 1), (0, 2), (0, 3), (0, 4), (0, 5), (0, 6), (0, 7), (0, 8), (0, 9), (0, 10), (0, 11)] 3 (mm_pf h1 1 0 1) := mm_inp_pf i1 (show 1 ≤ 1 ∧ 1 ≤ 1 by decide) (by decide +kernel)
  obtain ⟨h2, eh2⟩ : ∃ z, z = mm_pf h1 1 0 1 := ⟨_, rfl⟩
  rw [← eh2] at i2 ⊢
  clear eh2
  refine mm_aload_n C (mm_dec dk_X5_init 6 rfl) rfl ?_
  refine mm_sipush C (mm_dec dk_X5_init 7 rfl) ⟨by decide, by decide⟩ ?_
  refine mm_newa (atype := .int) (n := 3) (len := 400) C ac_int (mm_dec dk_X5_init 8 rfl) i2.2.2 (by decide) rfl (Or.inl ⟨rfl, rfl⟩) rfl (by decide) (by decide) (by decide) ?_
  have i3 : mm_inp [(1, 1), (1, 2), (1, 3), (1, 4), (1, 5), (1, 6), (0, 0), (0, 1), (0, 2), (0, 3), (0, 4), (0, 5), (0, 6), (0, 7), (0, 8), (0, 9), (0, 10), (0, 11)] 4 (mm_nw h2) := mm_inp_nw i2 (by decide) rfl (by decide +kernel) (by decide +kernel)
  obtain ⟨h3, eh3⟩ : ∃ z, z = mm_nw h2 := ⟨_, rfl⟩
  rw [← eh3] at i3 ⊢
  clear eh3
  refine mm_putrF C fl_X5_15 (mm_dec dk_X5_init 9 rfl) rfl rfl rfl hnm rfl (fun q => ⟨rfl, rfl⟩) (by decide) ?_
  have i4 : mm_inp [(1, 2), (1, 3), (1, 4), (1, 5), (1, 6), (0, 0), (0, 1), (0, 2), (0, 3), (0, 4), (0, 5), (0, 6), (0, 7), (0, 8), (0, 9), (0, 10), (0, 11)] 4 (mm_pf h3 1 1 1) := mm_inp_pf i3 (show 1 ≤ 1 ∧ 1 ≤ 1 by decide) (by decide +kernel)
  obtain ⟨h4, eh4⟩ : ∃ z, z = mm_pf h3 1 1 1 := ⟨_, rfl⟩
  rw [← eh4] at i4 ⊢
  clear eh4
  refine mm_aload_n C (mm_dec dk_X5_init 10 rfl) rfl ?_
  refine mm_sipush C (mm_dec dk_X5_init 11 rfl) ⟨by decide, by decide⟩ ?_
  refine mm_newa (atype := .boolean) (n := 4) (len := 400) C ac_boolean (mm_dec dk_X5_init 12 rfl) i4.2.2 (by decide) rfl (Or.inr (Or.inl ⟨rfl, rfl⟩)) rfl (by decide) (by decide) (by decide) ?_
  have i5 : mm_inp [(1, 2), (1, 3), (1, 4), (1, 5), (1, 6), (0, 0), (0, 1), (0, 2), (0, 3), (0, 4), (0, 5), (0, 6), (0, 7), (0, 8), (0, 9), (0, 10), (0, 11)] 5 (mm_nw h4) := mm_inp_nw i4 (by decide) rfl (by decide +kernel) (by decide +kernel)
  obtain ⟨h5, eh5⟩ : ∃ z, z = mm_nw h4 := ⟨_, rfl⟩
  rw [← eh5] at i5 ⊢
  clear eh5
  refine mm_putrF C fl_X5_18 (mm_dec dk_X5_init 13 rfl) rfl rfl rfl hnm rfl (fun q => ⟨rfl, rfl⟩) (by decide) ?_
  have i6 : mm_inp [(1, 3), (1, 4), (1, 5), (1, 6), (0, 0), (0, 1), (0, 2), (0, 3), (0, 4), (0, 5), (0, 6), (0, 7), (0, 8), (0, 9), (0, 10), (0, 11)] 5 (mm_pf h5 1 2 1) := mm_inp_pf i5 (show 1 ≤ 1 ∧ 1 ≤ 1 by decide) (by decide +kernel)
  obtain ⟨h6, eh6⟩ : ∃ z, z = mm_pf h5 1 2 1 := ⟨_, rfl⟩
  rw [← eh6] at i6 ⊢
  clear eh6
  refine mm_aload_n C (mm_dec dk_X5_init 14 rfl) rfl ?_
  refine mm_sipush C (mm_dec dk_X5_init 15 rfl) ⟨by decide, by decide⟩ ?_
  refine mm_newa (atype := .boolean) (n := 5) (len := 400) C ac_boolean (mm_dec dk_X5_init 16 rfl) i6.2.2 (by decide) rfl (Or.inr (Or.inl ⟨rfl, rfl⟩)) rfl (by decide) (by decide) (by decide) ?_
  have i7 : mm_inp [(1, 3), (1, 4), (1, 5), (1, 6), (0, 0), (0, 1), (0, 2), (0, 3), (0, 4), (0, 5), (0, 6), (0, 7), (0, 8), (0, 9), (0, 10), (0, 11)] 6 (mm_nw h6) := mm_inp_nw i6 (by decide) rfl (by decide +kernel) (by decide +kernel)
  obtain ⟨h7, eh7⟩ : ∃ z, z = mm_nw h6 := ⟨_, rfl⟩
  rw [← eh7] at i7 ⊢
  clear eh7
  refine mm_putrF C fl_X5_22 (mm_dec dk_X5_init 17 rfl) rfl rfl rfl hnm rfl (fun q => ⟨rfl, rfl⟩) (by decide) ?_
  have i8 : mm_inp [(1, 4), (1, 5), (1, 6), (0, 0), (0, 1), (0, 2), (0, 3), (0, 4), (0, 5), (0, 6), (0, 7), (0, 8), (0, 9), (0, 10), (0, 11)] 6 (mm_pf h7 1 3 1) := mm_inp_pf i7 (show 1 ≤ 1 ∧ 1 ≤ 1 by decide) (by decide +kernel)
  obtain ⟨h8, eh8⟩ : ∃ z, z = mm_pf h7 1 3 1 := ⟨_, rfl⟩
  rw [← eh8] at i8 ⊢
  clear eh8
  refine mm_aload_n C (mm_dec dk_X5_init 18 rfl) rfl ?_
  refine mm_bipush C (mm_dec dk_X5_init 19 rfl) ⟨by decide, by decide⟩ ?_
  refine mm_newa (atype := .int) (n := 6) (len := 9) C ac_int (mm_dec dk_X5_init 20 rfl) i8.2.2 (by decide) rfl (Or.inl ⟨rfl, rfl⟩) rfl (by decide) (by decide) (by decide) ?_
  have i9 : mm_inp [(1, 4), (1, 5), (1, 6), (0, 0), (0, 1), (0, 2), (0, 3), (0, 4), (0, 5), (0, 6), (0, 7), (0, 8), (0, 9), (0, 10), (0, 11)] 7 (mm_nw h8) := mm_inp_nw i8 (by decide) rfl (by decide +kernel) (by decide +kernel)
  obtain ⟨h9, eh9⟩ : ∃ z, z = mm_nw h8 := ⟨_, rfl⟩
  rw [← eh9] at i9 ⊢
  clear eh9
  refine mm_putrF C fl_X5_25 (mm_dec dk_X5_init 21 rfl) rfl rfl rfl hnm rfl (fun q => ⟨rfl, rfl⟩) (by decide) ?_
  have i10 : mm_inp [(1, 5), (1, 6), (0, 0), (0, 1), (0, 2), (0, 3), (0, 4), (0, 5), (0, 6), (0, 7), (0, 8), (0, 9), (0, 10), (0, 11)] 7 (mm_pf h9 1 4 1) := mm_inp_pf i9 (show 1 ≤ 1 ∧ 1 ≤ 1 by decide) (by decide +kernel)
  obtain ⟨h10, eh10⟩ : ∃ z, z = mm_pf h9 1 4 1 := ⟨_, rfl⟩
  rw [← eh10] at i10 ⊢
  clear eh10
  refine mm_aload_n C (mm_dec dk_X5_init 22 rfl) rfl ?_
  refine mm_iconst C (mm_dec dk_X5_init 23 rfl) ⟨by decide, by decide⟩ ?_
  refine mm_puti C fl_X5_28 (mm_dec dk_X5_init 24 rfl) rfl rfl rfl (Or.inl ⟨rfl, rfl⟩) ?_
  have i11 : mm_inp [(1, 6), (0, 0), (0, 1), (0, 2), (0, 3), (0, 4), (0, 5), (0, 6), (0, 7), (0, 8), (0, 9), (0, 10), (0, 11)] 7 (mm_pf h10 1 5 1) := mm_inp_pf i10 (show 1 ≤ 1 ∧ 1 ≤ 1 by decide) (by decide +kernel)
  obtain ⟨h11, eh11⟩ : ∃ z, z = mm_pf h10 1 5 1 := ⟨_, rfl⟩
  rw [← eh11] at i11 ⊢
  clear eh11
  refine mm_aload_n C (mm_dec dk_X5_init 25 rfl) rfl ?_
  refine mm_iconst C (mm_dec dk_X5_init 26 rfl) ⟨by decide, by decide⟩ ?_
  refine mm_puti C fl_X5_32 (mm_dec dk_X5_init 27 rfl) rfl rfl rfl (Or.inl ⟨rfl, rfl⟩) ?_
  have i12 : mm_inp [(0, 0), (0, 1), (0, 2), (0, 3), (0, 4), (0, 5), (0, 6), (0, 7), (0, 8), (0, 9), (0, 10), (0, 11)] 7 (mm_pf h11 1 6 1) := mm_inp_pf i11 (show 1 ≤ 1 ∧ 1 ≤ 1 by decide) (by decide +kernel)
  obtain ⟨h12, eh12⟩ : ∃ z, z = mm_pf h11 1 6 1 := ⟨_, rfl⟩
  rw [← eh12] at i12 ⊢
  clear eh12
  refine mm_aload_n C (mm_dec dk_X5_init 28 rfl) rfl ?_
  refine mm_iconst C (mm_dec dk_X5_init 29 rfl) ⟨by decide, by decide⟩ ?_
  refine mm_puti C fl_X5_35 (mm_dec dk_X5_init 30 rfl) rfl rfl rfl (Or.inl ⟨rfl, rfl⟩) ?_
  have i13 : mm_inp [(0, 0), (0, 1), (0, 2), (0, 3), (0, 4), (0, 5), (0, 6), (0, 7), (0, 8), (0, 9), (0, 10), (0, 11)] 7 (mm_pf h12 1 7 0) := mm_inp_pf i12 (show 0 ≤ 0 ∧ 0 ≤ 0 by decide) (by decide +kernel)
  obtain ⟨h13, eh13⟩ : ∃ z, z = mm_pf h12 1 7 0 := ⟨_, rfl⟩
  rw [← eh13] at i13 ⊢
  clear eh13
  refine mm_aload_n C (mm_dec dk_X5_init 31 rfl) rfl ?_
  refine mm_iconst C (mm_dec dk_X5_init 32 rfl) ⟨by decide, by decide⟩ ?_
  refine mm_puti C fl_X5_38 (mm_dec dk_X5_init 33 rfl) rfl rfl rfl (Or.inl ⟨rfl, rfl⟩) ?_
  have i14 : mm_inp [(0, 0), (0, 1), (0, 2), (0, 3), (0, 4), (0, 5), (0, 6), (0, 7), (0, 8), (0, 9), (0, 10), (0, 11)] 7 (mm_pf h13 1 8 0) := mm_inp_pf i13 (show 0 ≤ 0 ∧ 0 ≤ 0 by decide) (by decide +kernel)
  obtain ⟨h14, eh14⟩ : ∃ z, z = mm_pf h13 1 8 0 := ⟨_, rfl⟩
  rw [← eh14] at i14 ⊢
  clear eh14
  exact mm_vret C T (mm_dec dk_X5_init 34 rfl) (by decide : 5 ≤ 5) (by decide : 1609 ≤ 1609) ⟨rfl, i14⟩
set_option maxRecDepth 100000 in
set_option maxHeartbeats 4000000 in
theorem c_X10_init (l : Launch) (hl : l.stackTraces = false) (d : Nat) (hd : 1 ≤ d) (h : mH) (i0 : mm_inp [(7, 0), (7, 1), (7, 2), (7, 3), (7, 4), (7, 5), (7, 6), (0, 1), (0, 2), (0, 3), (0, 4), (0, 5), (0, 6), (0, 7), (0, 8), (0, 9), (0, 10), (0, 11)] 8 h) : mm_Met l d yX10_init cX10_init 2 none [mR 7, mR 1] h (mm_pv fun h2 => mm_inp [(0, 1), (0, 2), (0, 3), (0, 4), (0, 5), (0, 6), (0, 7), (0, 8), (0, 9), (0, 10), (0, 11)] 14 h2) mm_nx 6 2400 := by
  refine mm_ofW (ls := [mR 7, mR 1]) hl (by decide) rfl (Nat.le_of_ble_eq_true rfl) ?_
  intro x hxl C T hnm htb
  subst hxl
  have C1 := mm_OK_le (d' := d - 1 + 1) (by omega) C
  refine mm_aload_n C (mm_dec dk_X10_init 0 rfl) rfl ?_
  refine mm_objInit C1 ml_X10_3 im_obj co_obj (mm_dec dk_X10_init 1 rfl) (Nat.le_of_ble_eq_true rfl) ?_
  refine mm_aload_n C (mm_dec dk_X10_init 2 rfl) rfl ?_
  refine mm_sipush C (mm_dec dk_X10_init 3 rfl) ⟨by decide, by decide⟩ ?_
  refine mm_newa (atype := .int) (n := 8) (len := 400) C ac_int (mm_dec dk_X10_init 4 rfl) i0.2.2 (by decide) rfl (Or.inl ⟨rfl, rfl⟩) rfl (by decide) (by decide) (by decide) ?_
  have i1 : mm_inp [(7, 0), (7, 1), (7, 2), (7, 3), (7, 4), (7, 5), (7, 6), (0, 1), (0, 2), (0, 3), (0, 4), (0, 5), (0, 6), (0, 7), (0, 8), (0, 9), (0, 10), (0, 11)] 9 (mm_nw h) := mm_inp_nw i0 (by decide) rfl (by decide +kernel) (by decide +kernel)
  obtain ⟨h1, eh1⟩ : ∃ z, z = mm_nw h := ⟨_, rfl⟩
  rw [← eh1] at i1 ⊢
  clear eh1
  refine mm_putrF C fl_X10_9 (mm_dec dk_X10_init 5 rfl) rfl rfl rfl hnm rfl (fun q => ⟨rfl, rfl⟩) (by decide) ?_
  have i2 : mm_inp [(7, 0), (7, 2), (7, 3), (7, 4), (7, 5), (7, 6), (0, 1), (0, 2), (0, 3), (0, 4), (0, 5), (0, 6), (0, 7), (0, 8), (0, 9), (0, 10), (0, 11)] 9 (mm_pf h1 7 1 1) := mm_inp_pf i1 (show 1 ≤ 1 ∧ 1 ≤ 1 by decide) (by decide +kernel)
  obtain ⟨h2, eh2⟩ : ∃ z, z = mm_pf h1 7 1 1 := ⟨_, rfl⟩
  rw [← eh2] at i2 ⊢
  clear eh2
  refine mm_aload_n C (mm_dec dk_X10_init 6 rfl) rfl ?_
  refine mm_sipush C (mm_dec dk_X10_init 7 rfl) ⟨by decide, by decide⟩ ?_
  refine mm_newa (atype := .int) (n := 9) (len := 400) C ac_int (mm_dec dk_X10_init 8 rfl) i2.2.2 (by decide) rfl (Or.inl ⟨rfl, rfl⟩) rfl (by decide) (by decide) (by decide) ?_
  have i3 : mm_inp [(7, 0), (7, 2), (7, 3), (7, 4), (7, 5), (7, 6), (0, 1), (0, 2), (0, 3), (0, 4), (0, 5), (0, 6), (0, 7), (0, 8), (0, 9), (0, 10), (0, 11)] 10 (mm_nw h2) := mm_inp_nw i2 (by decide) rfl (by decide +kernel) (by decide +kernel)
  obtain ⟨h3, eh3⟩ : ∃ z, z = mm_nw h2 := ⟨_, rfl⟩
  rw [← eh3] at i3 ⊢
  clear eh3
  refine mm_putrF C fl_X10_15 (mm_dec dk_X10_init 9 rfl) rfl rfl rfl hnm rfl (fun q => ⟨rfl, rfl⟩) (by decide) ?_
  have i4 : mm_inp [(7, 0), (7, 3), (7, 4), (7, 5), (7, 6), (0, 1), (0, 2), (0, 3), (0, 4), (0, 5), (0, 6), (0, 7), (0, 8), (0, 9), (0, 10), (0, 11)] 10 (mm_pf h3 7 2 1) := mm_inp_pf i3 (show 1 ≤ 1 ∧ 1 ≤ 1 by decide) (by decide +kernel)
  obtain ⟨h4, eh4⟩ : ∃ z, z = mm_pf h3 7 2 1 := ⟨_, rfl⟩
  rw [← eh4] at i4 ⊢
  clear eh4
  refine mm_aload_n C (mm_dec dk_X10_init 10 rfl) rfl ?_
  refine mm_sipush C (mm_dec dk_X10_init 11 rfl) ⟨by decide, by decide⟩ ?_
  refine mm_newa (atype := .int) (n := 10) (len := 400) C ac_int (mm_dec dk_X10_init 12 rfl) i4.2.2 (by decide) rfl (Or.inl ⟨rfl, rfl⟩) rfl (by decide) (by decide) (by decide) ?_
  have i5 : mm_inp [(7, 0), (7, 3), (7, 4), (7, 5), (7, 6), (0, 1), (0, 2), (0, 3), (0, 4), (0, 5), (0, 6), (0, 7), (0, 8), (0, 9), (0, 10), (0, 11)] 11 (mm_nw h4) := mm_inp_nw i4 (by decide) rfl (by decide +kernel) (by decide +kernel)
  obtain ⟨h5, eh5⟩ : ∃ z, z = mm_nw h4 := ⟨_, rfl⟩
  rw [← eh5] at i5 ⊢
  clear eh5
  refine mm_putrF C fl_X10_18 (mm_dec dk_X10_init 13 rfl) rfl rfl rfl hnm rfl (fun q => ⟨rfl, rfl⟩) (by decide) ?_
  have i6 : mm_inp [(7, 0), (7, 4), (7, 5), (7, 6), (0, 1), (0, 2), (0, 3), (0, 4), (0, 5), (0, 6), (0, 7), (0, 8), (0, 9), (0, 10), (0, 11)] 11 (mm_pf h5 7 3 1) := mm_inp_pf i5 (show 1 ≤ 1 ∧ 1 ≤ 1 by decide) (by decide +kernel)
  obtain ⟨h6, eh6⟩ : ∃ z, z = mm_pf h5 7 3 1 := ⟨_, rfl⟩
  rw [← eh6] at i6 ⊢
  clear eh6
  refine mm_aload_n C (mm_dec dk_X10_init 14 rfl) rfl ?_
  refine mm_sipush C (mm_dec dk_X10_init 15 rfl) ⟨by decide, by decide⟩ ?_
  refine mm_newa (atype := .int) (n := 11) (len := 400) C ac_int (mm_dec dk_X10_init 16 rfl) i6.2.2 (by decide) rfl (Or.inl ⟨rfl, rfl⟩) rfl (by decide) (by decide) (by decide) ?_
  have i7 : mm_inp [(7, 0), (7, 4), (7, 5), (7, 6), (0, 1), (0, 2), (0, 3), (0, 4), (0, 5), (0, 6), (0, 7), (0, 8), (0, 9), (0, 10), (0, 11)] 12 (mm_nw h6) := mm_inp_nw i6 (by decide) rfl (by decide +kernel) (by decide +kernel)
  obtain ⟨h7, eh7⟩ : ∃ z, z = mm_nw h6 := ⟨_, rfl⟩
  rw [← eh7] at i7 ⊢
  clear eh7
  refine mm_putrF C fl_X10_21 (mm_dec dk_X10_init 17 rfl) rfl rfl rfl hnm rfl (fun q => ⟨rfl, rfl⟩) (by decide) ?_
  have i8 : mm_inp [(7, 0), (7, 5), (7, 6), (0, 1), (0, 2), (0, 3), (0, 4), (0, 5), (0, 6), (0, 7), (0, 8), (0, 9), (0, 10), (0, 11)] 12 (mm_pf h7 7 4 1) := mm_inp_pf i7 (show 1 ≤ 1 ∧ 1 ≤ 1 by decide) (by decide +kernel)
  obtain ⟨h8, eh8⟩ : ∃ z, z = mm_pf h7 7 4 1 := ⟨_, rfl⟩
  rw [← eh8] at i8 ⊢
  clear eh8
  refine mm_aload_n C (mm_dec dk_X10_init 18 rfl) rfl ?_
  refine mm_sipush C (mm_dec dk_X10_init 19 rfl) ⟨by decide, by decide⟩ ?_
  refine mm_newa (atype := .long) (n := 12) (len := 400) C ac_long (mm_dec dk_X10_init 20 rfl) i8.2.2 (by decide) rfl (Or.inr (Or.inr ⟨rfl, rfl⟩)) rfl (by decide) (by decide) (by decide) ?_
  have i9 : mm_inp [(7, 0), (7, 5), (7, 6), (0, 1), (0, 2), (0, 3), (0, 4), (0, 5), (0, 6), (0, 7), (0, 8), (0, 9), (0, 10), (0, 11)] 13 (mm_nw h8) := mm_inp_nw i8 (by decide) rfl (by decide +kernel) (by decide +kernel)
  obtain ⟨h9, eh9⟩ : ∃ z, z = mm_nw h8 := ⟨_, rfl⟩
  rw [← eh9] at i9 ⊢
  clear eh9
  refine mm_putrF C fl_X10_24 (mm_dec dk_X10_init 21 rfl) rfl rfl rfl hnm rfl (fun q => ⟨rfl, rfl⟩) (by decide) ?_
  have i10 : mm_inp [(7, 0), (7, 6), (0, 1), (0, 2), (0, 3), (0, 4), (0, 5), (0, 6), (0, 7), (0, 8), (0, 9), (0, 10), (0, 11)] 13 (mm_pf h9 7 5 1) := mm_inp_pf i9 (show 1 ≤ 1 ∧ 1 ≤ 1 by decide) (by decide +kernel)
  obtain ⟨h10, eh10⟩ : ∃ z, z = mm_pf h9 7 5 1 := ⟨_, rfl⟩
  rw [← eh10] at i10 ⊢
  clear eh10
  refine mm_aload_n C (mm_dec dk_X10_init 22 rfl) rfl ?_
  refine mm_sipush C (mm_dec dk_X10_init 23 rfl) ⟨by decide, by decide⟩ ?_
  refine mm_newa (atype := .int) (n := 13) (len := 400) C ac_int (mm_dec dk_X10_init 24 rfl) i10.2.2 (by decide) rfl (Or.inl ⟨rfl, rfl⟩) rfl (by decide) (by decide) (by decide) ?_
  have i11 : mm_inp [(7, 0), (7, 6), (0, 1), (0, 2), (0, 3), (0, 4), (0, 5), (0, 6), (0, 7), (0, 8), (0, 9), (0, 10), (0, 11)] 14 (mm_nw h10) := mm_inp_nw i10 (by decide) rfl (by decide +kernel) (by decide +kernel)
  obtain ⟨h11, eh11⟩ : ∃ z, z = mm_nw h10 := ⟨_, rfl⟩
  rw [← eh11] at i11 ⊢
  clear eh11
  refine mm_putrF C fl_X10_28 (mm_dec dk_X10_init 25 rfl) rfl rfl rfl hnm rfl (fun q => ⟨rfl, rfl⟩) (by decide) ?_
  have i12 : mm_inp [(7, 0), (0, 1), (0, 2), (0, 3), (0, 4), (0, 5), (0, 6), (0, 7), (0, 8), (0, 9), (0, 10), (0, 11)] 14 (mm_pf h11 7 6 1) := mm_inp_pf i11 (show 1 ≤ 1 ∧ 1 ≤ 1 by decide) (by decide +kernel)
  obtain ⟨h12, eh12⟩ : ∃ z, z = mm_pf h11 7 6 1 := ⟨_, rfl⟩
  rw [← eh12] at i12 ⊢
  clear eh12
  refine mm_aload_n C (mm_dec dk_X10_init 26 rfl) rfl ?_
  refine mm_iconst C (mm_dec dk_X10_init 27 rfl) ⟨by decide, by decide⟩ ?_
  refine mm_puti C fl_X10_31 (mm_dec dk_X10_init 28 rfl) rfl rfl rfl (Or.inl ⟨rfl, rfl⟩) ?_
  have i13 : mm_inp [(7, 0), (0, 1), (0, 2), (0, 3), (0, 4), (0, 5), (0, 6), (0, 7), (0, 8), (0, 9), (0, 10), (0, 11)] 14 (mm_pf h12 7 7 0) := mm_inp_pf i12 (show 0 ≤ 0 ∧ 0 ≤ 400 by decide) (by decide +kernel)
  obtain ⟨h13, eh13⟩ : ∃ z, z = mm_pf h12 7 7 0 := ⟨_, rfl⟩
  rw [← eh13] at i13 ⊢
  clear eh13
  refine mm_aload_n C (mm_dec dk_X10_init 29 rfl) rfl ?_
  refine mm_iconst C (mm_dec dk_X10_init 30 rfl) ⟨by decide, by decide⟩ ?_
  refine mm_puti C fl_X10_35 (mm_dec dk_X10_init 31 rfl) rfl rfl rfl (Or.inl ⟨rfl, rfl⟩) ?_
  have i14 : mm_inp [(7, 0), (0, 1), (0, 2), (0, 3), (0, 4), (0, 5), (0, 6), (0, 7), (0, 8), (0, 9), (0, 10), (0, 11)] 14 (mm_pf h13 7 8 0) := mm_inp_pf i13 (show 0 ≤ 0 ∧ 0 ≤ 400 by decide) (by decide +kernel)
  obtain ⟨h14, eh14⟩ : ∃ z, z = mm_pf h13 7 8 0 := ⟨_, rfl⟩
  rw [← eh14] at i14 ⊢
  clear eh14
  refine mm_aload_n C (mm_dec dk_X10_init 32 rfl) rfl ?_
  refine mm_iconst C (mm_dec dk_X10_init 33 rfl) ⟨by decide, by decide⟩ ?_
  refine mm_puti C fl_X10_38 (mm_dec dk_X10_init 34 rfl) rfl rfl rfl (Or.inl ⟨rfl, rfl⟩) ?_
  have i15 : mm_inp [(7, 0), (0, 1), (0, 2), (0, 3), (0, 4), (0, 5), (0, 6), (0, 7), (0, 8), (0, 9), (0, 10), (0, 11)] 14 (mm_pf h14 7 9 (-1)) := mm_inp_pf i14 (show -1 ≤ (-1) ∧ (-1) ≤ 400 by decide) (by decide +kernel)
  obtain ⟨h15, eh15⟩ : ∃ z, z = mm_pf h14 7 9 (-1) := ⟨_, rfl⟩
  rw [← eh15] at i15 ⊢
  clear eh15
  refine mm_aload_n C (mm_dec dk_X10_init 35 rfl) rfl ?_
  refine mm_iconst C (mm_dec dk_X10_init 36 rfl) ⟨by decide, by decide⟩ ?_
  refine mm_puti C fl_X10_41 (mm_dec dk_X10_init 37 rfl) rfl rfl rfl (Or.inl ⟨rfl, rfl⟩) ?_
  have i16 : mm_inp [(7, 0), (0, 1), (0, 2), (0, 3), (0, 4), (0, 5), (0, 6), (0, 7), (0, 8), (0, 9), (0, 10), (0, 11)] 14 (mm_pf h15 7 10 (-1)) := mm_inp_pf i15 (show -2147483648 ≤ (-1) ∧ (-1) ≤ 2147483647 by decide) (by decide +kernel)
  obtain ⟨h16, eh16⟩ : ∃ z, z = mm_pf h15 7 10 (-1) := ⟨_, rfl⟩
  rw [← eh16] at i16 ⊢
  clear eh16
  refine mm_aload_n C (mm_dec dk_X10_init 38 rfl) rfl ?_
  refine mm_iconst C (mm_dec dk_X10_init 39 rfl) ⟨by decide, by decide⟩ ?_
  refine mm_puti C fl_X10_44 (mm_dec dk_X10_init 40 rfl) rfl rfl rfl (Or.inr ⟨rfl, rfl, by omega⟩) ?_
  have i17 : mm_inp [(7, 0), (0, 1), (0, 2), (0, 3), (0, 4), (0, 5), (0, 6), (0, 7), (0, 8), (0, 9), (0, 10), (0, 11)] 14 (mm_pf h16 7 11 0) := mm_inp_pf i16 (show 0 ≤ 0 ∧ 0 ≤ 1 by decide) (by decide +kernel)
  obtain ⟨h17, eh17⟩ : ∃ z, z = mm_pf h16 7 11 0 := ⟨_, rfl⟩
  rw [← eh17] at i17 ⊢
  clear eh17
  refine mm_aload_n C (mm_dec dk_X10_init 41 rfl) rfl ?_
  refine mm_aload_n C (mm_dec dk_X10_init 42 rfl) rfl ?_
  refine mm_putrF C fl_X10_48 (mm_dec dk_X10_init 43 rfl) rfl rfl rfl hnm rfl (fun q => ⟨rfl, rfl⟩) (by decide) ?_
  have i18 : mm_inp [(0, 1), (0, 2), (0, 3), (0, 4), (0, 5), (0, 6), (0, 7), (0, 8), (0, 9), (0, 10), (0, 11)] 14 (mm_pf h17 7 0 1) := mm_inp_pf i17 (show 1 ≤ 1 ∧ 1 ≤ 1 by decide) (by decide +kernel)
  obtain ⟨h18, eh18⟩ : ∃ z, z = mm_pf h17 7 0 1 := ⟨_, rfl⟩
  rw [← eh18] at i18 ⊢
  clear eh18
  exact mm_vret C T (mm_dec dk_X10_init 44 rfl) (by decide : 6 ≤ 6) (by decide : 2400 ≤ 2400) ⟨rfl, i18⟩
set_option maxRecDepth 100000 in
set_option maxHeartbeats 4000000 in
theorem c_X2_init (l : Launch) (hl : l.stackTraces = false) (d : Nat) (hd : 1 ≤ d) (h : mH) (i0 : mm_inp [(14, 0), (14, 1), (14, 2), (14, 3), (14, 4), (14, 5), (14, 6), (0, 2), (0, 3), (0, 4), (0, 5), (0, 6), (0, 7), (0, 8), (0, 9), (0, 10), (0, 11)] 15 h) : mm_Met l d yX2_init cX2_init 1 none [mR 14] h (mm_pv fun h2 => mm_inp [(0, 2), (0, 3), (0, 4), (0, 5), (0, 6), (0, 7), (0, 8), (0, 9), (0, 10), (0, 11)] 22 h2) mm_nx 7 360 := by
  refine mm_ofW (ls := [mR 14]) hl (by decide) rfl (Nat.le_of_ble_eq_true rfl) ?_
  intro x hxl C T hnm htb
  subst hxl
  have C1 := mm_OK_le (d' := d - 1 + 1) (by omega) C
  refine mm_aload_n C (mm_dec dk_X2_init 0 rfl) rfl ?_
  refine mm_objInit C1 ml_X2_3 im_obj co_obj (mm_dec dk_X2_init 1 rfl) (Nat.le_of_ble_eq_true rfl) ?_
  refine mm_aload_n C (mm_dec dk_X2_init 2 rfl) rfl ?_
  refine mm_bipush C (mm_dec dk_X2_init 3 rfl) ⟨by decide, by decide⟩ ?_
  refine mm_newa (atype := .int) (n := 15) (len := 20) C ac_int (mm_dec dk_X2_init 4 rfl) i0.2.2 (by decide) rfl (Or.inl ⟨rfl, rfl⟩) rfl (by decide) (by decide) (by decide) ?_
  have i1 : mm_inp [(14, 0), (14, 1), (14, 2), (14, 3), (14, 4), (14, 5), (14, 6), (0, 2), (0, 3), (0, 4), (0, 5), (0, 6), (0, 7), (0, 8), (0, 9), (0, 10), (0, 11)] 16 (mm_nw h) := mm_inp_nw i0 (by decide) rfl (by decide +kernel) (by decide +kernel)
  obtain ⟨h1, eh1⟩ : ∃ z, z = mm_nw h := ⟨_, rfl⟩
  rw [← eh1] at i1 ⊢
  clear eh1
  refine mm_putrF C fl_X2_9 (mm_dec dk_X2_init 5 rfl) rfl rfl rfl hnm rfl (fun q => ⟨rfl, rfl⟩) (by decide) ?_
  have i2 : mm_inp [(14, 1), (14, 2), (14, 3), (14, 4), (14, 5), (14, 6), (0, 2), (0, 3), (0, 4), (0, 5), (0, 6), (0, 7), (0, 8), (0, 9), (0, 10), (0, 11)] 16 (mm_pf h1 14 0 1) := mm_inp_pf i1 (show 1 ≤ 1 ∧ 1 ≤ 1 by decide) (by decide +kernel)
  obtain ⟨h2, eh2⟩ : ∃ z, z = mm_pf h1 14 0 1 := ⟨_, rfl⟩
  rw [← eh2] at i2 ⊢
  clear eh2
  refine mm_aload_n C (mm_dec dk_X2_init 6 rfl) rfl ?_
  refine mm_bipush C (mm_dec dk_X2_init 7 rfl) ⟨by decide, by decide⟩ ?_
  refine mm_newa (atype := .int) (n := 16) (len := 20) C ac_int (mm_dec dk_X2_init 8 rfl) i2.2.2 (by decide) rfl (Or.inl ⟨rfl, rfl⟩) rfl (by decide) (by decide) (by decide) ?_
  have i3 : mm_inp [(14, 1), (14, 2), (14, 3), (14, 4), (14, 5), (14, 6), (0, 2), (0, 3), (0, 4), (0, 5), (0, 6), (0, 7), (0, 8), (0, 9), (0, 10), (0, 11)] 17 (mm_nw h2) := mm_inp_nw i2 (by decide) rfl (by decide +kernel) (by decide +kernel)
  obtain ⟨h3, eh3⟩ : ∃ z, z = mm_nw h2 := ⟨_, rfl⟩
  rw [← eh3] at i3 ⊢
  clear eh3
  refine mm_putrF C fl_X2_15 (mm_dec dk_X2_init 9 rfl) rfl rfl rfl hnm rfl (fun q => ⟨rfl, rfl⟩) (by decide) ?_
  have i4 : mm_inp [(14, 2), (14, 3), (14, 4), (14, 5), (14, 6), (0, 2), (0, 3), (0, 4), (0, 5), (0, 6), (0, 7), (0, 8), (0, 9), (0, 10), (0, 11)] 17 (mm_pf h3 14 1 1) := mm_inp_pf i3 (show 1 ≤ 1 ∧ 1 ≤ 1 by decide) (by decide +kernel)
  obtain ⟨h4, eh4⟩ : ∃ z, z = mm_pf h3 14 1 1 := ⟨_, rfl⟩
  rw [← eh4] at i4 ⊢
  clear eh4
  refine mm_aload_n C (mm_dec dk_X2_init 10 rfl) rfl ?_
  refine mm_bipush C (mm_dec dk_X2_init 11 rfl) ⟨by decide, by decide⟩ ?_
  refine mm_newa (atype := .boolean) (n := 17) (len := 8) C ac_boolean (mm_dec dk_X2_init 12 rfl) i4.2.2 (by decide) rfl (Or.inr (Or.inl ⟨rfl, rfl⟩)) rfl (by decide) (by decide) (by decide) ?_
  have i5 : mm_inp [(14, 2), (14, 3), (14, 4), (14, 5), (14, 6), (0, 2), (0, 3), (0, 4), (0, 5), (0, 6), (0, 7), (0, 8), (0, 9), (0, 10), (0, 11)] 18 (mm_nw h4) := mm_inp_nw i4 (by decide) rfl (by decide +kernel) (by decide +kernel)
  obtain ⟨h5, eh5⟩ : ∃ z, z = mm_nw h4 := ⟨_, rfl⟩
  rw [← eh5] at i5 ⊢
  clear eh5
  refine mm_putrF C fl_X2_18 (mm_dec dk_X2_init 13 rfl) rfl rfl rfl hnm rfl (fun q => ⟨rfl, rfl⟩) (by decide) ?_
  have i6 : mm_inp [(14, 3), (14, 4), (14, 5), (14, 6), (0, 2), (0, 3), (0, 4), (0, 5), (0, 6), (0, 7), (0, 8), (0, 9), (0, 10), (0, 11)] 18 (mm_pf h5 14 2 1) := mm_inp_pf i5 (show 1 ≤ 1 ∧ 1 ≤ 1 by decide) (by decide +kernel)
  obtain ⟨h6, eh6⟩ : ∃ z, z = mm_pf h5 14 2 1 := ⟨_, rfl⟩
  rw [← eh6] at i6 ⊢
  clear eh6
  refine mm_aload_n C (mm_dec dk_X2_init 14 rfl) rfl ?_
  refine mm_bipush C (mm_dec dk_X2_init 15 rfl) ⟨by decide, by decide⟩ ?_
  refine mm_newa (atype := .boolean) (n := 18) (len := 8) C ac_boolean (mm_dec dk_X2_init 16 rfl) i6.2.2 (by decide) rfl (Or.inr (Or.inl ⟨rfl, rfl⟩)) rfl (by decide) (by decide) (by decide) ?_
  have i7 : mm_inp [(14, 3), (14, 4), (14, 5), (14, 6), (0, 2), (0, 3), (0, 4), (0, 5), (0, 6), (0, 7), (0, 8), (0, 9), (0, 10), (0, 11)] 19 (mm_nw h6) := mm_inp_nw i6 (by decide) rfl (by decide +kernel) (by decide +kernel)
  obtain ⟨h7, eh7⟩ : ∃ z, z = mm_nw h6 := ⟨_, rfl⟩
  rw [← eh7] at i7 ⊢
  clear eh7
  refine mm_putrF C fl_X2_22 (mm_dec dk_X2_init 17 rfl) rfl rfl rfl hnm rfl (fun q => ⟨rfl, rfl⟩) (by decide) ?_
  have i8 : mm_inp [(14, 4), (14, 5), (14, 6), (0, 2), (0, 3), (0, 4), (0, 5), (0, 6), (0, 7), (0, 8), (0, 9), (0, 10), (0, 11)] 19 (mm_pf h7 14 3 1) := mm_inp_pf i7 (show 1 ≤ 1 ∧ 1 ≤ 1 by decide) (by decide +kernel)
  obtain ⟨h8, eh8⟩ : ∃ z, z = mm_pf h7 14 3 1 := ⟨_, rfl⟩
  rw [← eh8] at i8 ⊢
  clear eh8
  refine mm_aload_n C (mm_dec dk_X2_init 18 rfl) rfl ?_
  refine mm_bipush C (mm_dec dk_X2_init 19 rfl) ⟨by decide, by decide⟩ ?_
  refine mm_newa (atype := .int) (n := 19) (len := 8) C ac_int (mm_dec dk_X2_init 20 rfl) i8.2.2 (by decide) rfl (Or.inl ⟨rfl, rfl⟩) rfl (by decide) (by decide) (by decide) ?_
  have i9 : mm_inp [(14, 4), (14, 5), (14, 6), (0, 2), (0, 3), (0, 4), (0, 5), (0, 6), (0, 7), (0, 8), (0, 9), (0, 10), (0, 11)] 20 (mm_nw h8) := mm_inp_nw i8 (by decide) rfl (by decide +kernel) (by decide +kernel)
  obtain ⟨h9, eh9⟩ : ∃ z, z = mm_nw h8 := ⟨_, rfl⟩
  rw [← eh9] at i9 ⊢
  clear eh9
  refine mm_putrF C fl_X2_25 (mm_dec dk_X2_init 21 rfl) rfl rfl rfl hnm rfl (fun q => ⟨rfl, rfl⟩) (by decide) ?_
  have i10 : mm_inp [(14, 5), (14, 6), (0, 2), (0, 3), (0, 4), (0, 5), (0, 6), (0, 7), (0, 8), (0, 9), (0, 10), (0, 11)] 20 (mm_pf h9 14 4 1) := mm_inp_pf i9 (show 1 ≤ 1 ∧ 1 ≤ 1 by decide) (by decide +kernel)
  obtain ⟨h10, eh10⟩ : ∃ z, z = mm_pf h9 14 4 1 := ⟨_, rfl⟩
  rw [← eh10] at i10 ⊢
  clear eh10
  refine mm_aload_n C (mm_dec dk_X2_init 22 rfl) rfl ?_
  refine mm_bipush C (mm_dec dk_X2_init 23 rfl) ⟨by decide, by decide⟩ ?_
  refine mm_newa (atype := .int) (n := 20) (len := 8) C ac_int (mm_dec dk_X2_init 24 rfl) i10.2.2 (by decide) rfl (Or.inl ⟨rfl, rfl⟩) rfl (by decide) (by decide) (by decide) ?_
  have i11 : mm_inp [(14, 5), (14, 6), (0, 2), (0, 3), (0, 4), (0, 5), (0, 6), (0, 7), (0, 8), (0, 9), (0, 10), (0, 11)] 21 (mm_nw h10) := mm_inp_nw i10 (by decide) rfl (by decide +kernel) (by decide +kernel)
  obtain ⟨h11, eh11⟩ : ∃ z, z = mm_nw h10 := ⟨_, rfl⟩
  rw [← eh11] at i11 ⊢
  clear eh11
  refine mm_putrF C fl_X2_28 (mm_dec dk_X2_init 25 rfl) rfl rfl rfl hnm rfl (fun q => ⟨rfl, rfl⟩) (by decide) ?_
  have i12 : mm_inp [(14, 6), (0, 2), (0, 3), (0, 4), (0, 5), (0, 6), (0, 7), (0, 8), (0, 9), (0, 10), (0, 11)] 21 (mm_pf h11 14 5 1) := mm_inp_pf i11 (show 1 ≤ 1 ∧ 1 ≤ 1 by decide) (by decide +kernel)
  obtain ⟨h12, eh12⟩ : ∃ z, z = mm_pf h11 14 5 1 := ⟨_, rfl⟩
  rw [← eh12] at i12 ⊢
  clear eh12
  refine mm_aload_n C (mm_dec dk_X2_init 26 rfl) rfl ?_
  refine mm_sipush C (mm_dec dk_X2_init 27 rfl) ⟨by decide, by decide⟩ ?_
  refine mm_newa (atype := .int) (n := 21) (len := 288) C ac_int (mm_dec dk_X2_init 28 rfl) i12.2.2 (by decide) rfl (Or.inl ⟨rfl, rfl⟩) rfl (by decide) (by decide) (by decide) ?_
  have i13 : mm_inp [(14, 6), (0, 2), (0, 3), (0, 4), (0, 5), (0, 6), (0, 7), (0, 8), (0, 9), (0, 10), (0, 11)] 22 (mm_nw h12) := mm_inp_nw i12 (by decide) rfl (by decide +kernel) (by decide +kernel)
  obtain ⟨h13, eh13⟩ : ∃ z, z = mm_nw h12 := ⟨_, rfl⟩
  rw [← eh13] at i13 ⊢
  clear eh13
  refine mm_putrF C fl_X2_31 (mm_dec dk_X2_init 29 rfl) rfl rfl rfl hnm rfl (fun q => ⟨rfl, rfl⟩) (by decide) ?_
  have i14 : mm_inp [(0, 2), (0, 3), (0, 4), (0, 5), (0, 6), (0, 7), (0, 8), (0, 9), (0, 10), (0, 11)] 22 (mm_pf h13 14 6 1) := mm_inp_pf i13 (show 1 ≤ 1 ∧ 1 ≤ 1 by decide) (by decide +kernel)
  obtain ⟨h14, eh14⟩ : ∃ z, z = mm_pf h13 14 6 1 := ⟨_, rfl⟩
  rw [← eh14] at i14 ⊢
  clear eh14
  refine mm_aload_n C (mm_dec dk_X2_init 30 rfl) rfl ?_
  refine mm_iconst C (mm_dec dk_X2_init 31 rfl) ⟨by decide, by decide⟩ ?_
  refine mm_puti C fl_X2_34 (mm_dec dk_X2_init 32 rfl) rfl rfl rfl (Or.inl ⟨rfl, rfl⟩) ?_
  have i15 : mm_inp [(0, 2), (0, 3), (0, 4), (0, 5), (0, 6), (0, 7), (0, 8), (0, 9), (0, 10), (0, 11)] 22 (mm_pf h14 14 7 0) := mm_inp_pf i14 (show 0 ≤ 0 ∧ 0 ≤ 0 by decide) (by decide +kernel)
  obtain ⟨h15, eh15⟩ : ∃ z, z = mm_pf h14 14 7 0 := ⟨_, rfl⟩
  rw [← eh15] at i15 ⊢
  clear eh15
  refine mm_aload_n C (mm_dec dk_X2_init 33 rfl) rfl ?_
  refine mm_iconst C (mm_dec dk_X2_init 34 rfl) ⟨by decide, by decide⟩ ?_
  refine mm_puti C fl_X2_38 (mm_dec dk_X2_init 35 rfl) rfl rfl rfl (Or.inl ⟨rfl, rfl⟩) ?_
  have i16 : mm_inp [(0, 2), (0, 3), (0, 4), (0, 5), (0, 6), (0, 7), (0, 8), (0, 9), (0, 10), (0, 11)] 22 (mm_pf h15 14 8 0) := mm_inp_pf i15 (show 0 ≤ 0 ∧ 0 ≤ 0 by decide) (by decide +kernel)
  obtain ⟨h16, eh16⟩ : ∃ z, z = mm_pf h15 14 8 0 := ⟨_, rfl⟩
  rw [← eh16] at i16 ⊢
  clear eh16
  exact mm_vret C T (mm_dec dk_X2_init 36 rfl) (by decide : 7 ≤ 7) (by decide : 360 ≤ 360) ⟨rfl, i16⟩
set_option maxRecDepth 100000 in
set_option maxHeartbeats 4000000 in
theorem c_X9_init (l : Launch) (hl : l.stackTraces = false) (d : Nat) (hd : 1 ≤ d) (h : mH) (i0 : mm_inp [(22, 0), (22, 1), (22, 2), (22, 3), (22, 4), (22, 5), (22, 6), (22, 7), (0, 3), (0, 4), (0, 5), (0, 6), (0, 7), (0, 8), (0, 9), (0, 10), (0, 11)] 23 h) : mm_Met l d yX9_init cX9_init 2 none [mR 22, mR 14] h (mm_pv fun h2 => mm_inp [(0, 3), (0, 4), (0, 5), (0, 6), (0, 7), (0, 8), (0, 9), (0, 10), (0, 11)] 30 h2) mm_nx 7 270 := by
  refine mm_ofW (ls := [mR 22, mR 14]) hl (by decide) rfl (Nat.le_of_ble_eq_true rfl) ?_
  intro x hxl C T hnm htb
  subst hxl
  have C1 := mm_OK_le (d' := d - 1 + 1) (by omega) C
  refine mm_aload_n C (mm_dec dk_X9_init 0 rfl) rfl ?_
  refine mm_objInit C1 ml_X9_3 im_obj co_obj (mm_dec dk_X9_init 1 rfl) (Nat.le_of_ble_eq_true rfl) ?_
  refine mm_aload_n C (mm_dec dk_X9_init 2 rfl) rfl ?_
  refine mm_bipush C (mm_dec dk_X9_init 3 rfl) ⟨by decide, by decide⟩ ?_
  refine mm_newa (atype := .int) (n := 23) (len := 40) C ac_int (mm_dec dk_X9_init 4 rfl) i0.2.2 (by decide) rfl (Or.inl ⟨rfl, rfl⟩) rfl (by decide) (by decide) (by decide) ?_
  have i1 : mm_inp [(22, 0), (22, 1), (22, 2), (22, 3), (22, 4), (22, 5), (22, 6), (22, 7), (0, 3), (0, 4), (0, 5), (0, 6), (0, 7), (0, 8), (0, 9), (0, 10), (0, 11)] 24 (mm_nw h) := mm_inp_nw i0 (by decide) rfl (by decide +kernel) (by decide +kernel)
  obtain ⟨h1, eh1⟩ : ∃ z, z = mm_nw h := ⟨_, rfl⟩
  rw [← eh1] at i1 ⊢
  clear eh1
  refine mm_putrF C fl_X9_9 (mm_dec dk_X9_init 5 rfl) rfl rfl rfl hnm rfl (fun q => ⟨rfl, rfl⟩) (by decide) ?_
  have i2 : mm_inp [(22, 0), (22, 2), (22, 3), (22, 4), (22, 5), (22, 6), (22, 7), (0, 3), (0, 4), (0, 5), (0, 6), (0, 7), (0, 8), (0, 9), (0, 10), (0, 11)] 24 (mm_pf h1 22 1 1) := mm_inp_pf i1 (show 1 ≤ 1 ∧ 1 ≤ 1 by decide) (by decide +kernel)
  obtain ⟨h2, eh2⟩ : ∃ z, z = mm_pf h1 22 1 1 := ⟨_, rfl⟩
  rw [← eh2] at i2 ⊢
  clear eh2
  refine mm_aload_n C (mm_dec dk_X9_init 6 rfl) rfl ?_
  refine mm_bipush C (mm_dec dk_X9_init 7 rfl) ⟨by decide, by decide⟩ ?_
  refine mm_newa (atype := .int) (n := 24) (len := 40) C ac_int (mm_dec dk_X9_init 8 rfl) i2.2.2 (by decide) rfl (Or.inl ⟨rfl, rfl⟩) rfl (by decide) (by decide) (by decide) ?_
  have i3 : mm_inp [(22, 0), (22, 2), (22, 3), (22, 4), (22, 5), (22, 6), (22, 7), (0, 3), (0, 4), (0, 5), (0, 6), (0, 7), (0, 8), (0, 9), (0, 10), (0, 11)] 25 (mm_nw h2) := mm_inp_nw i2 (by decide) rfl (by decide +kernel) (by decide +kernel)
  obtain ⟨h3, eh3⟩ : ∃ z, z = mm_nw h2 := ⟨_, rfl⟩
  rw [← eh3] at i3 ⊢
  clear eh3
  refine mm_putrF C fl_X9_15 (mm_dec dk_X9_init 9 rfl) rfl rfl rfl hnm rfl (fun q => ⟨rfl, rfl⟩) (by decide) ?_
  have i4 : mm_inp [(22, 0), (22, 3), (22, 4), (22, 5), (22, 6), (22, 7), (0, 3), (0, 4), (0, 5), (0, 6), (0, 7), (0, 8), (0, 9), (0, 10), (0, 11)] 25 (mm_pf h3 22 2 1) := mm_inp_pf i3 (show 1 ≤ 1 ∧ 1 ≤ 1 by decide) (by decide +kernel)
  obtain ⟨h4, eh4⟩ : ∃ z, z = mm_pf h3 22 2 1 := ⟨_, rfl⟩
  rw [← eh4] at i4 ⊢
  clear eh4
  refine mm_aload_n C (mm_dec dk_X9_init 10 rfl) rfl ?_
  refine mm_bipush C (mm_dec dk_X9_init 11 rfl) ⟨by decide, by decide⟩ ?_
  refine mm_newa (atype := .int) (n := 25) (len := 40) C ac_int (mm_dec dk_X9_init 12 rfl) i4.2.2 (by decide) rfl (Or.inl ⟨rfl, rfl⟩) rfl (by decide) (by decide) (by decide) ?_
  have i5 : mm_inp [(22, 0), (22, 3), (22, 4), (22, 5), (22, 6), (22, 7), (0, 3), (0, 4), (0, 5), (0, 6), (0, 7), (0, 8), (0, 9), (0, 10), (0, 11)] 26 (mm_nw h4) := mm_inp_nw i4 (by decide) rfl (by decide +kernel) (by decide +kernel)
  obtain ⟨h5, eh5⟩ : ∃ z, z = mm_nw h4 := ⟨_, rfl⟩
  rw [← eh5] at i5 ⊢
  clear eh5
  refine mm_putrF C fl_X9_18 (mm_dec dk_X9_init 13 rfl) rfl rfl rfl hnm rfl (fun q => ⟨rfl, rfl⟩) (by decide) ?_
  have i6 : mm_inp [(22, 0), (22, 4), (22, 5), (22, 6), (22, 7), (0, 3), (0, 4), (0, 5), (0, 6), (0, 7), (0, 8), (0, 9), (0, 10), (0, 11)] 26 (mm_pf h5 22 3 1) := mm_inp_pf i5 (show 1 ≤ 1 ∧ 1 ≤ 1 by decide) (by decide +kernel)
  obtain ⟨h6, eh6⟩ : ∃ z, z = mm_pf h5 22 3 1 := ⟨_, rfl⟩
  rw [← eh6] at i6 ⊢
  clear eh6
  refine mm_aload_n C (mm_dec dk_X9_init 14 rfl) rfl ?_
  refine mm_bipush C (mm_dec dk_X9_init 15 rfl) ⟨by decide, by decide⟩ ?_
  refine mm_newa (atype := .int) (n := 26) (len := 40) C ac_int (mm_dec dk_X9_init 16 rfl) i6.2.2 (by decide) rfl (Or.inl ⟨rfl, rfl⟩) rfl (by decide) (by decide) (by decide) ?_
  have i7 : mm_inp [(22, 0), (22, 4), (22, 5), (22, 6), (22, 7), (0, 3), (0, 4), (0, 5), (0, 6), (0, 7), (0, 8), (0, 9), (0, 10), (0, 11)] 27 (mm_nw h6) := mm_inp_nw i6 (by decide) rfl (by decide +kernel) (by decide +kernel)
  obtain ⟨h7, eh7⟩ : ∃ z, z = mm_nw h6 := ⟨_, rfl⟩
  rw [← eh7] at i7 ⊢
  clear eh7
  refine mm_putrF C fl_X9_21 (mm_dec dk_X9_init 17 rfl) rfl rfl rfl hnm rfl (fun q => ⟨rfl, rfl⟩) (by decide) ?_
  have i8 : mm_inp [(22, 0), (22, 5), (22, 6), (22, 7), (0, 3), (0, 4), (0, 5), (0, 6), (0, 7), (0, 8), (0, 9), (0, 10), (0, 11)] 27 (mm_pf h7 22 4 1) := mm_inp_pf i7 (show 1 ≤ 1 ∧ 1 ≤ 1 by decide) (by decide +kernel)
  obtain ⟨h8, eh8⟩ : ∃ z, z = mm_pf h7 22 4 1 := ⟨_, rfl⟩
  rw [← eh8] at i8 ⊢
  clear eh8
  refine mm_aload_n C (mm_dec dk_X9_init 18 rfl) rfl ?_
  refine mm_bipush C (mm_dec dk_X9_init 19 rfl) ⟨by decide, by decide⟩ ?_
  refine mm_newa (atype := .int) (n := 27) (len := 40) C ac_int (mm_dec dk_X9_init 20 rfl) i8.2.2 (by decide) rfl (Or.inl ⟨rfl, rfl⟩) rfl (by decide) (by decide) (by decide) ?_
  have i9 : mm_inp [(22, 0), (22, 5), (22, 6), (22, 7), (0, 3), (0, 4), (0, 5), (0, 6), (0, 7), (0, 8), (0, 9), (0, 10), (0, 11)] 28 (mm_nw h8) := mm_inp_nw i8 (by decide) rfl (by decide +kernel) (by decide +kernel)
  obtain ⟨h9, eh9⟩ : ∃ z, z = mm_nw h8 := ⟨_, rfl⟩
  rw [← eh9] at i9 ⊢
  clear eh9
  refine mm_putrF C fl_X9_24 (mm_dec dk_X9_init 21 rfl) rfl rfl rfl hnm rfl (fun q => ⟨rfl, rfl⟩) (by decide) ?_
  have i10 : mm_inp [(22, 0), (22, 6), (22, 7), (0, 3), (0, 4), (0, 5), (0, 6), (0, 7), (0, 8), (0, 9), (0, 10), (0, 11)] 28 (mm_pf h9 22 5 1) := mm_inp_pf i9 (show 1 ≤ 1 ∧ 1 ≤ 1 by decide) (by decide +kernel)
  obtain ⟨h10, eh10⟩ : ∃ z, z = mm_pf h9 22 5 1 := ⟨_, rfl⟩
  rw [← eh10] at i10 ⊢
  clear eh10
  refine mm_aload_n C (mm_dec dk_X9_init 22 rfl) rfl ?_
  refine mm_bipush C (mm_dec dk_X9_init 23 rfl) ⟨by decide, by decide⟩ ?_
  refine mm_newa (atype := .boolean) (n := 28) (len := 40) C ac_boolean (mm_dec dk_X9_init 24 rfl) i10.2.2 (by decide) rfl (Or.inr (Or.inl ⟨rfl, rfl⟩)) rfl (by decide) (by decide) (by decide) ?_
  have i11 : mm_inp [(22, 0), (22, 6), (22, 7), (0, 3), (0, 4), (0, 5), (0, 6), (0, 7), (0, 8), (0, 9), (0, 10), (0, 11)] 29 (mm_nw h10) := mm_inp_nw i10 (by decide) rfl (by decide +kernel) (by decide +kernel)
  obtain ⟨h11, eh11⟩ : ∃ z, z = mm_nw h10 := ⟨_, rfl⟩
  rw [← eh11] at i11 ⊢
  clear eh11
  refine mm_putrF C fl_X9_27 (mm_dec dk_X9_init 25 rfl) rfl rfl rfl hnm rfl (fun q => ⟨rfl, rfl⟩) (by decide) ?_
  have i12 : mm_inp [(22, 0), (22, 7), (0, 3), (0, 4), (0, 5), (0, 6), (0, 7), (0, 8), (0, 9), (0, 10), (0, 11)] 29 (mm_pf h11 22 6 1) := mm_inp_pf i11 (show 1 ≤ 1 ∧ 1 ≤ 1 by decide) (by decide +kernel)
  obtain ⟨h12, eh12⟩ : ∃ z, z = mm_pf h11 22 6 1 := ⟨_, rfl⟩
  rw [← eh12] at i12 ⊢
  clear eh12
  refine mm_aload_n C (mm_dec dk_X9_init 26 rfl) rfl ?_
  refine mm_bipush C (mm_dec dk_X9_init 27 rfl) ⟨by decide, by decide⟩ ?_
  refine mm_newa (atype := .int) (n := 29) (len := 30) C ac_int (mm_dec dk_X9_init 28 rfl) i12.2.2 (by decide) rfl (Or.inl ⟨rfl, rfl⟩) rfl (by decide) (by decide) (by decide) ?_
  have i13 : mm_inp [(22, 0), (22, 7), (0, 3), (0, 4), (0, 5), (0, 6), (0, 7), (0, 8), (0, 9), (0, 10), (0, 11)] 30 (mm_nw h12) := mm_inp_nw i12 (by decide) rfl (by decide +kernel) (by decide +kernel)
  obtain ⟨h13, eh13⟩ : ∃ z, z = mm_nw h12 := ⟨_, rfl⟩
  rw [← eh13] at i13 ⊢
  clear eh13
  refine mm_putrF C fl_X9_31 (mm_dec dk_X9_init 29 rfl) rfl rfl rfl hnm rfl (fun q => ⟨rfl, rfl⟩) (by decide) ?_
  have i14 : mm_inp [(22, 0), (0, 3), (0, 4), (0, 5), (0, 6), (0, 7), (0, 8), (0, 9), (0, 10), (0, 11)] 30 (mm_pf h13 22 7 1) := mm_inp_pf i13 (show 1 ≤ 1 ∧ 1 ≤ 1 by decide) (by decide +kernel)
  obtain ⟨h14, eh14⟩ : ∃ z, z = mm_pf h13 22 7 1 := ⟨_, rfl⟩
  rw [← eh14] at i14 ⊢
  clear eh14
  refine mm_aload_n C (mm_dec dk_X9_init 30 rfl) rfl ?_
  refine mm_iconst C (mm_dec dk_X9_init 31 rfl) ⟨by decide, by decide⟩ ?_
  refine mm_puti C fl_X9_34 (mm_dec dk_X9_init 32 rfl) rfl rfl rfl (Or.inl ⟨rfl, rfl⟩) ?_
  have i15 : mm_inp [(22, 0), (0, 3), (0, 4), (0, 5), (0, 6), (0, 7), (0, 8), (0, 9), (0, 10), (0, 11)] 30 (mm_pf h14 22 8 0) := mm_inp_pf i14 (show 0 ≤ 0 ∧ 0 ≤ 0 by decide) (by decide +kernel)
  obtain ⟨h15, eh15⟩ : ∃ z, z = mm_pf h14 22 8 0 := ⟨_, rfl⟩
  rw [← eh15] at i15 ⊢
  clear eh15
  refine mm_aload_n C (mm_dec dk_X9_init 33 rfl) rfl ?_
  refine mm_iconst C (mm_dec dk_X9_init 34 rfl) ⟨by decide, by decide⟩ ?_
  refine mm_puti C fl_X9_38 (mm_dec dk_X9_init 35 rfl) rfl rfl rfl (Or.inl ⟨rfl, rfl⟩) ?_
  have i16 : mm_inp [(22, 0), (0, 3), (0, 4), (0, 5), (0, 6), (0, 7), (0, 8), (0, 9), (0, 10), (0, 11)] 30 (mm_pf h15 22 9 0) := mm_inp_pf i15 (show 0 ≤ 0 ∧ 0 ≤ 0 by decide) (by decide +kernel)
  obtain ⟨h16, eh16⟩ : ∃ z, z = mm_pf h15 22 9 0 := ⟨_, rfl⟩
  rw [← eh16] at i16 ⊢
  clear eh16
  refine mm_aload_n C (mm_dec dk_X9_init 36 rfl) rfl ?_
  refine mm_aload_n C (mm_dec dk_X9_init 37 rfl) rfl ?_
  refine mm_putrF C fl_X9_41 (mm_dec dk_X9_init 38 rfl) rfl rfl rfl hnm rfl (fun q => ⟨rfl, rfl⟩) (by decide) ?_
  have i17 : mm_inp [(0, 3), (0, 4), (0, 5), (0, 6), (0, 7), (0, 8), (0, 9), (0, 10), (0, 11)] 30 (mm_pf h16 22 0 1) := mm_inp_pf i16 (show 1 ≤ 1 ∧ 1 ≤ 1 by decide) (by decide +kernel)
  obtain ⟨h17, eh17⟩ : ∃ z, z = mm_pf h16 22 0 1 := ⟨_, rfl⟩
  rw [← eh17] at i17 ⊢
  clear eh17
  exact mm_vret C T (mm_dec dk_X9_init 39 rfl) (by decide : 7 ≤ 7) (by decide : 270 ≤ 270) ⟨rfl, i17⟩
set_option maxRecDepth 100000 in
set_option maxHeartbeats 4000000 in
theorem c_X6_init (l : Launch) (hl : l.stackTraces = false) (d : Nat) (hd : 1 ≤ d) (h : mH) (i0 : mm_inp [(30, 0), (30, 1), (30, 2), (30, 3), (30, 4), (30, 5), (30, 7), (30, 8), (30, 9), (30, 10), (30, 11), (0, 4), (0, 5), (0, 6), (0, 7), (0, 8), (0, 9), (0, 10), (0, 11)] 31 h) : mm_Met l d yX6_init cX6_init 1 none [mR 30] h (mm_pv fun h2 => mm_inp [(0, 4), (0, 5), (0, 6), (0, 7), (0, 8), (0, 9), (0, 10), (0, 11)] 42 h2) mm_nx 11 3200 := by
  refine mm_ofW (ls := [mR 30]) hl (by decide) rfl (Nat.le_of_ble_eq_true rfl) ?_
  intro x hxl C T hnm htb
  subst hxl
  have C1 := mm_OK_le (d' := d - 1 + 1) (by omega) C
  refine mm_aload_n C (mm_dec dk_X6_init 0 rfl) rfl ?_
  refine mm_objInit C1 ml_X6_3 im_obj co_obj (mm_dec dk_X6_init 1 rfl) (Nat.le_of_ble_eq_true rfl) ?_
  refine mm_aload_n C (mm_dec dk_X6_init 2 rfl) rfl ?_
  refine mm_sipush C (mm_dec dk_X6_init 3 rfl) ⟨by decide, by decide⟩ ?_
  refine mm_newa (atype := .int) (n := 31) (len := 500) C ac_int (mm_dec dk_X6_init 4 rfl) i0.2.2 (by decide) rfl (Or.inl ⟨rfl, rfl⟩) rfl (by decide) (by decide) (by decide) ?_
  have i1 : mm_inp [(30, 0), (30, 1), (30, 2), (30, 3), (30, 4), (30, 5), (30, 7), (30, 8), (30, 9), (30, 10), (30, 11), (0, 4), (0, 5), (0, 6), (0, 7), (0, 8), (0, 9), (0, 10), (0, 11)] 32 (mm_nw h) := mm_inp_nw i0 (by decide) rfl (by decide +kernel) (by decide +kernel)
  obtain ⟨h1, eh1⟩ : ∃ z, z = mm_nw h := ⟨_, rfl⟩
  rw [← eh1] at i1 ⊢
  clear eh1
  refine mm_putrF C fl_X6_9 (mm_dec dk_X6_init 5 rfl) rfl rfl rfl hnm rfl (fun q => ⟨rfl, rfl⟩) (by decide) ?_
  have i2 : mm_inp [(30, 1), (30, 2), (30, 3), (30, 4), (30, 5), (30, 7), (30, 8), (30, 9), (30, 10), (30, 11), (0, 4), (0, 5), (0, 6), (0, 7), (0, 8), (0, 9), (0, 10), (0, 11)] 32 (mm_pf h1 30 0 1) := mm_inp_pf i1 (show 1 ≤ 1 ∧ 1 ≤ 1 by decide) (by decide +kernel)
  obtain ⟨h2, eh2⟩ : ∃ z, z = mm_pf h1 30 0 1 := ⟨_, rfl⟩
  rw [← eh2] at i2 ⊢
  clear eh2
  refine mm_aload_n C (mm_dec dk_X6_init 6 rfl) rfl ?_
  refine mm_sipush C (mm_dec dk_X6_init 7 rfl) ⟨by decide, by decide⟩ ?_
  refine mm_newa (atype := .int) (n := 32) (len := 500) C ac_int (mm_dec dk_X6_init 8 rfl) i2.2.2 (by decide) rfl (Or.inl ⟨rfl, rfl⟩) rfl (by decide) (by decide) (by decide) ?_
  have i3 : mm_inp [(30, 1), (30, 2), (30, 3), (30, 4), (30, 5), (30, 7), (30, 8), (30, 9), (30, 10), (30, 11), (0, 4), (0, 5), (0, 6), (0, 7), (0, 8), (0, 9), (0, 10), (0, 11)] 33 (mm_nw h2) := mm_inp_nw i2 (by decide) rfl (by decide +kernel) (by decide +kernel)
  obtain ⟨h3, eh3⟩ : ∃ z, z = mm_nw h2 := ⟨_, rfl⟩
  rw [← eh3] at i3 ⊢
  clear eh3
  refine mm_putrF C fl_X6_15 (mm_dec dk_X6_init 9 rfl) rfl rfl rfl hnm rfl (fun q => ⟨rfl, rfl⟩) (by decide) ?_
  have i4 : mm_inp [(30, 2), (30, 3), (30, 4), (30, 5), (30, 7), (30, 8), (30, 9), (30, 10), (30, 11), (0, 4), (0, 5), (0, 6), (0, 7), (0, 8), (0, 9), (0, 10), (0, 11)] 33 (mm_pf h3 30 1 1) := mm_inp_pf i3 (show 1 ≤ 1 ∧ 1 ≤ 1 by decide) (by decide +kernel)
  obtain ⟨h4, eh4⟩ : ∃ z, z = mm_pf h3 30 1 1 := ⟨_, rfl⟩
  rw [← eh4] at i4 ⊢
  clear eh4
  refine mm_aload_n C (mm_dec dk_X6_init 10 rfl) rfl ?_
  refine mm_sipush C (mm_dec dk_X6_init 11 rfl) ⟨by decide, by decide⟩ ?_
  refine mm_newa (atype := .int) (n := 33) (len := 500) C ac_int (mm_dec dk_X6_init 12 rfl) i4.2.2 (by decide) rfl (Or.inl ⟨rfl, rfl⟩) rfl (by decide) (by decide) (by decide) ?_
  have i5 : mm_inp [(30, 2), (30, 3), (30, 4), (30, 5), (30, 7), (30, 8), (30, 9), (30, 10), (30, 11), (0, 4), (0, 5), (0, 6), (0, 7), (0, 8), (0, 9), (0, 10), (0, 11)] 34 (mm_nw h4) := mm_inp_nw i4 (by decide) rfl (by decide +kernel) (by decide +kernel)
  obtain ⟨h5, eh5⟩ : ∃ z, z = mm_nw h4 := ⟨_, rfl⟩
  rw [← eh5] at i5 ⊢
  clear eh5
  refine mm_putrF C fl_X6_18 (mm_dec dk_X6_init 13 rfl) rfl rfl rfl hnm rfl (fun q => ⟨rfl, rfl⟩) (by decide) ?_
  have i6 : mm_inp [(30, 3), (30, 4), (30, 5), (30, 7), (30, 8), (30, 9), (30, 10), (30, 11), (0, 4), (0, 5), (0, 6), (0, 7), (0, 8), (0, 9), (0, 10), (0, 11)] 34 (mm_pf h5 30 2 1) := mm_inp_pf i5 (show 1 ≤ 1 ∧ 1 ≤ 1 by decide) (by decide +kernel)
  obtain ⟨h6, eh6⟩ : ∃ z, z = mm_pf h5 30 2 1 := ⟨_, rfl⟩
  rw [← eh6] at i6 ⊢
  clear eh6
  refine mm_aload_n C (mm_dec dk_X6_init 14 rfl) rfl ?_
  refine mm_sipush C (mm_dec dk_X6_init 15 rfl) ⟨by decide, by decide⟩ ?_
  refine mm_newa (atype := .int) (n := 34) (len := 500) C ac_int (mm_dec dk_X6_init 16 rfl) i6.2.2 (by decide) rfl (Or.inl ⟨rfl, rfl⟩) rfl (by decide) (by decide) (by decide) ?_
  have i7 : mm_inp [(30, 3), (30, 4), (30, 5), (30, 7), (30, 8), (30, 9), (30, 10), (30, 11), (0, 4), (0, 5), (0, 6), (0, 7), (0, 8), (0, 9), (0, 10), (0, 11)] 35 (mm_nw h6) := mm_inp_nw i6 (by decide) rfl (by decide +kernel) (by decide +kernel)
  obtain ⟨h7, eh7⟩ : ∃ z, z = mm_nw h6 := ⟨_, rfl⟩
  rw [← eh7] at i7 ⊢
  clear eh7
  refine mm_putrF C fl_X6_21 (mm_dec dk_X6_init 17 rfl) rfl rfl rfl hnm rfl (fun q => ⟨rfl, rfl⟩) (by decide) ?_
  have i8 : mm_inp [(30, 4), (30, 5), (30, 7), (30, 8), (30, 9), (30, 10), (30, 11), (0, 4), (0, 5), (0, 6), (0, 7), (0, 8), (0, 9), (0, 10), (0, 11)] 35 (mm_pf h7 30 3 1) := mm_inp_pf i7 (show 1 ≤ 1 ∧ 1 ≤ 1 by decide) (by decide +kernel)
  obtain ⟨h8, eh8⟩ : ∃ z, z = mm_pf h7 30 3 1 := ⟨_, rfl⟩
  rw [← eh8] at i8 ⊢
  clear eh8
  refine mm_aload_n C (mm_dec dk_X6_init 18 rfl) rfl ?_
  refine mm_sipush C (mm_dec dk_X6_init 19 rfl) ⟨by decide, by decide⟩ ?_
  refine mm_newa (atype := .int) (n := 35) (len := 500) C ac_int (mm_dec dk_X6_init 20 rfl) i8.2.2 (by decide) rfl (Or.inl ⟨rfl, rfl⟩) rfl (by decide) (by decide) (by decide) ?_
  have i9 : mm_inp [(30, 4), (30, 5), (30, 7), (30, 8), (30, 9), (30, 10), (30, 11), (0, 4), (0, 5), (0, 6), (0, 7), (0, 8), (0, 9), (0, 10), (0, 11)] 36 (mm_nw h8) := mm_inp_nw i8 (by decide) rfl (by decide +kernel) (by decide +kernel)
  obtain ⟨h9, eh9⟩ : ∃ z, z = mm_nw h8 := ⟨_, rfl⟩
  rw [← eh9] at i9 ⊢
  clear eh9
  refine mm_putrF C fl_X6_24 (mm_dec dk_X6_init 21 rfl) rfl rfl rfl hnm rfl (fun q => ⟨rfl, rfl⟩) (by decide) ?_
  have i10 : mm_inp [(30, 5), (30, 7), (30, 8), (30, 9), (30, 10), (30, 11), (0, 4), (0, 5), (0, 6), (0, 7), (0, 8), (0, 9), (0, 10), (0, 11)] 36 (mm_pf h9 30 4 1) := mm_inp_pf i9 (show 1 ≤ 1 ∧ 1 ≤ 1 by decide) (by decide +kernel)
  obtain ⟨h10, eh10⟩ : ∃ z, z = mm_pf h9 30 4 1 := ⟨_, rfl⟩
  rw [← eh10] at i10 ⊢
  clear eh10
  refine mm_aload_n C (mm_dec dk_X6_init 22 rfl) rfl ?_
  refine mm_sipush C (mm_dec dk_X6_init 23 rfl) ⟨by decide, by decide⟩ ?_
  refine mm_newa (atype := .int) (n := 36) (len := 500) C ac_int (mm_dec dk_X6_init 24 rfl) i10.2.2 (by decide) rfl (Or.inl ⟨rfl, rfl⟩) rfl (by decide) (by decide) (by decide) ?_
  have i11 : mm_inp [(30, 5), (30, 7), (30, 8), (30, 9), (30, 10), (30, 11), (0, 4), (0, 5), (0, 6), (0, 7), (0, 8), (0, 9), (0, 10), (0, 11)] 37 (mm_nw h10) := mm_inp_nw i10 (by decide) rfl (by decide +kernel) (by decide +kernel)
  obtain ⟨h11, eh11⟩ : ∃ z, z = mm_nw h10 := ⟨_, rfl⟩
  rw [← eh11] at i11 ⊢
  clear eh11
  refine mm_putrF C fl_X6_27 (mm_dec dk_X6_init 25 rfl) rfl rfl rfl hnm rfl (fun q => ⟨rfl, rfl⟩) (by decide) ?_
  have i12 : mm_inp [(30, 7), (30, 8), (30, 9), (30, 10), (30, 11), (0, 4), (0, 5), (0, 6), (0, 7), (0, 8), (0, 9), (0, 10), (0, 11)] 37 (mm_pf h11 30 5 1) := mm_inp_pf i11 (show 1 ≤ 1 ∧ 1 ≤ 1 by decide) (by decide +kernel)
  obtain ⟨h12, eh12⟩ : ∃ z, z = mm_pf h11 30 5 1 := ⟨_, rfl⟩
  rw [← eh12] at i12 ⊢
  clear eh12
  refine mm_aload_n C (mm_dec dk_X6_init 26 rfl) rfl ?_
  refine mm_iconst C (mm_dec dk_X6_init 27 rfl) ⟨by decide, by decide⟩ ?_
  refine mm_puti C fl_X6_30 (mm_dec dk_X6_init 28 rfl) rfl rfl rfl (Or.inl ⟨rfl, rfl⟩) ?_
  have i13 : mm_inp [(30, 7), (30, 8), (30, 9), (30, 10), (30, 11), (0, 4), (0, 5), (0, 6), (0, 7), (0, 8), (0, 9), (0, 10), (0, 11)] 37 (mm_pf h12 30 6 0) := mm_inp_pf i12 (show 0 ≤ 0 ∧ 0 ≤ 0 by decide) (by decide +kernel)
  obtain ⟨h13, eh13⟩ : ∃ z, z = mm_pf h12 30 6 0 := ⟨_, rfl⟩
  rw [← eh13] at i13 ⊢
  clear eh13
  refine mm_aload_n C (mm_dec dk_X6_init 29 rfl) rfl ?_
  refine mm_bipush C (mm_dec dk_X6_init 30 rfl) ⟨by decide, by decide⟩ ?_
  refine mm_newa (atype := .int) (n := 37) (len := 40) C ac_int (mm_dec dk_X6_init 31 rfl) i13.2.2 (by decide) rfl (Or.inl ⟨rfl, rfl⟩) rfl (by decide) (by decide) (by decide) ?_
  have i14 : mm_inp [(30, 7), (30, 8), (30, 9), (30, 10), (30, 11), (0, 4), (0, 5), (0, 6), (0, 7), (0, 8), (0, 9), (0, 10), (0, 11)] 38 (mm_nw h13) := mm_inp_nw i13 (by decide) rfl (by decide +kernel) (by decide +kernel)
  obtain ⟨h14, eh14⟩ : ∃ z, z = mm_nw h13 := ⟨_, rfl⟩
  rw [← eh14] at i14 ⊢
  clear eh14
  refine mm_putrF C fl_X6_34 (mm_dec dk_X6_init 32 rfl) rfl rfl rfl hnm rfl (fun q => ⟨rfl, rfl⟩) (by decide) ?_
  have i15 : mm_inp [(30, 8), (30, 9), (30, 10), (30, 11), (0, 4), (0, 5), (0, 6), (0, 7), (0, 8), (0, 9), (0, 10), (0, 11)] 38 (mm_pf h14 30 7 1) := mm_inp_pf i14 (show 1 ≤ 1 ∧ 1 ≤ 1 by decide) (by decide +kernel)
  obtain ⟨h15, eh15⟩ : ∃ z, z = mm_pf h14 30 7 1 := ⟨_, rfl⟩
  rw [← eh15] at i15 ⊢
  clear eh15
  refine mm_aload_n C (mm_dec dk_X6_init 33 rfl) rfl ?_
  refine mm_bipush C (mm_dec dk_X6_init 34 rfl) ⟨by decide, by decide⟩ ?_
  refine mm_newa (atype := .int) (n := 38) (len := 40) C ac_int (mm_dec dk_X6_init 35 rfl) i15.2.2 (by decide) rfl (Or.inl ⟨rfl, rfl⟩) rfl (by decide) (by decide) (by decide) ?_
  have i16 : mm_inp [(30, 8), (30, 9), (30, 10), (30, 11), (0, 4), (0, 5), (0, 6), (0, 7), (0, 8), (0, 9), (0, 10), (0, 11)] 39 (mm_nw h15) := mm_inp_nw i15 (by decide) rfl (by decide +kernel) (by decide +kernel)
  obtain ⟨h16, eh16⟩ : ∃ z, z = mm_nw h15 := ⟨_, rfl⟩
  rw [← eh16] at i16 ⊢
  clear eh16
  refine mm_putrF C fl_X6_37 (mm_dec dk_X6_init 36 rfl) rfl rfl rfl hnm rfl (fun q => ⟨rfl, rfl⟩) (by decide) ?_
  have i17 : mm_inp [(30, 9), (30, 10), (30, 11), (0, 4), (0, 5), (0, 6), (0, 7), (0, 8), (0, 9), (0, 10), (0, 11)] 39 (mm_pf h16 30 8 1) := mm_inp_pf i16 (show 1 ≤ 1 ∧ 1 ≤ 1 by decide) (by decide +kernel)
  obtain ⟨h17, eh17⟩ : ∃ z, z = mm_pf h16 30 8 1 := ⟨_, rfl⟩
  rw [← eh17] at i17 ⊢
  clear eh17
  refine mm_aload_n C (mm_dec dk_X6_init 37 rfl) rfl ?_
  refine mm_bipush C (mm_dec dk_X6_init 38 rfl) ⟨by decide, by decide⟩ ?_
  refine mm_newa (atype := .int) (n := 39) (len := 40) C ac_int (mm_dec dk_X6_init 39 rfl) i17.2.2 (by decide) rfl (Or.inl ⟨rfl, rfl⟩) rfl (by decide) (by decide) (by decide) ?_
  have i18 : mm_inp [(30, 9), (30, 10), (30, 11), (0, 4), (0, 5), (0, 6), (0, 7), (0, 8), (0, 9), (0, 10), (0, 11)] 40 (mm_nw h17) := mm_inp_nw i17 (by decide) rfl (by decide +kernel) (by decide +kernel)
  obtain ⟨h18, eh18⟩ : ∃ z, z = mm_nw h17 := ⟨_, rfl⟩
  rw [← eh18] at i18 ⊢
  clear eh18
  refine mm_putrF C fl_X6_40 (mm_dec dk_X6_init 40 rfl) rfl rfl rfl hnm rfl (fun q => ⟨rfl, rfl⟩) (by decide) ?_
  have i19 : mm_inp [(30, 10), (30, 11), (0, 4), (0, 5), (0, 6), (0, 7), (0, 8), (0, 9), (0, 10), (0, 11)] 40 (mm_pf h18 30 9 1) := mm_inp_pf i18 (show 1 ≤ 1 ∧ 1 ≤ 1 by decide) (by decide +kernel)
  obtain ⟨h19, eh19⟩ : ∃ z, z = mm_pf h18 30 9 1 := ⟨_, rfl⟩
  rw [← eh19] at i19 ⊢
  clear eh19
  refine mm_aload_n C (mm_dec dk_X6_init 41 rfl) rfl ?_
  refine mm_bipush C (mm_dec dk_X6_init 42 rfl) ⟨by decide, by decide⟩ ?_
  refine mm_newa (atype := .int) (n := 40) (len := 40) C ac_int (mm_dec dk_X6_init 43 rfl) i19.2.2 (by decide) rfl (Or.inl ⟨rfl, rfl⟩) rfl (by decide) (by decide) (by decide) ?_
  have i20 : mm_inp [(30, 10), (30, 11), (0, 4), (0, 5), (0, 6), (0, 7), (0, 8), (0, 9), (0, 10), (0, 11)] 41 (mm_nw h19) := mm_inp_nw i19 (by decide) rfl (by decide +kernel) (by decide +kernel)
  obtain ⟨h20, eh20⟩ : ∃ z, z = mm_nw h19 := ⟨_, rfl⟩
  rw [← eh20] at i20 ⊢
  clear eh20
  refine mm_putrF C fl_X6_43 (mm_dec dk_X6_init 44 rfl) rfl rfl rfl hnm rfl (fun q => ⟨rfl, rfl⟩) (by decide) ?_
  have i21 : mm_inp [(30, 11), (0, 4), (0, 5), (0, 6), (0, 7), (0, 8), (0, 9), (0, 10), (0, 11)] 41 (mm_pf h20 30 10 1) := mm_inp_pf i20 (show 1 ≤ 1 ∧ 1 ≤ 1 by decide) (by decide +kernel)
  obtain ⟨h21, eh21⟩ : ∃ z, z = mm_pf h20 30 10 1 := ⟨_, rfl⟩
  rw [← eh21] at i21 ⊢
  clear eh21
  refine mm_aload_n C (mm_dec dk_X6_init 45 rfl) rfl ?_
  refine mm_bipush C (mm_dec dk_X6_init 46 rfl) ⟨by decide, by decide⟩ ?_
  refine mm_newa (atype := .int) (n := 41) (len := 40) C ac_int (mm_dec dk_X6_init 47 rfl) i21.2.2 (by decide) rfl (Or.inl ⟨rfl, rfl⟩) rfl (by decide) (by decide) (by decide) ?_
  have i22 : mm_inp [(30, 11), (0, 4), (0, 5), (0, 6), (0, 7), (0, 8), (0, 9), (0, 10), (0, 11)] 42 (mm_nw h21) := mm_inp_nw i21 (by decide) rfl (by decide +kernel) (by decide +kernel)
  obtain ⟨h22, eh22⟩ : ∃ z, z = mm_nw h21 := ⟨_, rfl⟩
  rw [← eh22] at i22 ⊢
  clear eh22
  refine mm_putrF C fl_X6_46 (mm_dec dk_X6_init 48 rfl) rfl rfl rfl hnm rfl (fun q => ⟨rfl, rfl⟩) (by decide) ?_
  have i23 : mm_inp [(0, 4), (0, 5), (0, 6), (0, 7), (0, 8), (0, 9), (0, 10), (0, 11)] 42 (mm_pf h22 30 11 1) := mm_inp_pf i22 (show 1 ≤ 1 ∧ 1 ≤ 1 by decide) (by decide +kernel)
  obtain ⟨h23, eh23⟩ : ∃ z, z = mm_pf h22 30 11 1 := ⟨_, rfl⟩
  rw [← eh23] at i23 ⊢
  clear eh23
  refine mm_aload_n C (mm_dec dk_X6_init 49 rfl) rfl ?_
  refine mm_iconst C (mm_dec dk_X6_init 50 rfl) ⟨by decide, by decide⟩ ?_
  refine mm_puti C fl_X6_49 (mm_dec dk_X6_init 51 rfl) rfl rfl rfl (Or.inl ⟨rfl, rfl⟩) ?_
  have i24 : mm_inp [(0, 4), (0, 5), (0, 6), (0, 7), (0, 8), (0, 9), (0, 10), (0, 11)] 42 (mm_pf h23 30 12 0) := mm_inp_pf i23 (show 0 ≤ 0 ∧ 0 ≤ 0 by decide) (by decide +kernel)
  obtain ⟨h24, eh24⟩ : ∃ z, z = mm_pf h23 30 12 0 := ⟨_, rfl⟩
  rw [← eh24] at i24 ⊢
  clear eh24
  refine mm_aload_n C (mm_dec dk_X6_init 52 rfl) rfl ?_
  refine mm_iconst C (mm_dec dk_X6_init 53 rfl) ⟨by decide, by decide⟩ ?_
  refine mm_puti C fl_X6_52 (mm_dec dk_X6_init 54 rfl) rfl rfl rfl (Or.inl ⟨rfl, rfl⟩) ?_
  have i25 : mm_inp [(0, 4), (0, 5), (0, 6), (0, 7), (0, 8), (0, 9), (0, 10), (0, 11)] 42 (mm_pf h24 30 13 0) := mm_inp_pf i24 (show -2147483648 ≤ 0 ∧ 0 ≤ 2147483647 by decide) (by decide +kernel)
  obtain ⟨h25, eh25⟩ : ∃ z, z = mm_pf h24 30 13 0 := ⟨_, rfl⟩
  rw [← eh25] at i25 ⊢
  clear eh25
  exact mm_vret C T (mm_dec dk_X6_init 55 rfl) (by decide : 11 ≤ 11) (by decide : 3200 ≤ 3200) ⟨rfl, i25⟩
set_option maxRecDepth 100000 in
set_option maxHeartbeats 4000000 in
theorem c_X8_init (l : Launch) (hl : l.stackTraces = false) (d : Nat) (hd : 1 ≤ d) (h : mH) (i0 : mm_inp [(42, 0), (42, 1), (42, 2), (0, 5), (0, 6), (0, 7), (0, 8), (0, 9), (0, 10), (0, 11)] 43 h) : mm_Met l d yX8_init cX8_init 1 none [mR 42] h (mm_pv fun h2 => mm_inp [(0, 5), (0, 6), (0, 7), (0, 8), (0, 9), (0, 10), (0, 11)] 46 h2) mm_nx 3 567 := by
  refine mm_ofW (ls := [mR 42]) hl (by decide) rfl (Nat.le_of_ble_eq_true rfl) ?_
  intro x hxl C T hnm htb
  subst hxl
  have C1 := mm_OK_le (d' := d - 1 + 1) (by omega) C
  refine mm_aload_n C (mm_dec dk_X8_init 0 rfl) rfl ?_
  refine mm_objInit C1 ml_X8_5 im_obj co_obj (mm_dec dk_X8_init 1 rfl) (Nat.le_of_ble_eq_true rfl) ?_
  refine mm_aload_n C (mm_dec dk_X8_init 2 rfl) rfl ?_
  refine mm_sipush C (mm_dec dk_X8_init 3 rfl) ⟨by decide, by decide⟩ ?_
  refine mm_newa (atype := .int) (n := 43) (len := 500) C ac_int (mm_dec dk_X8_init 4 rfl) i0.2.2 (by decide) rfl (Or.inl ⟨rfl, rfl⟩) rfl (by decide) (by decide) (by decide) ?_
  have i1 : mm_inp [(42, 0), (42, 1), (42, 2), (0, 5), (0, 6), (0, 7), (0, 8), (0, 9), (0, 10), (0, 11)] 44 (mm_nw h) := mm_inp_nw i0 (by decide) rfl (by decide +kernel) (by decide +kernel)
  obtain ⟨h1, eh1⟩ : ∃ z, z = mm_nw h := ⟨_, rfl⟩
  rw [← eh1] at i1 ⊢
  clear eh1
  refine mm_putrF C fl_X8_11 (mm_dec dk_X8_init 5 rfl) rfl rfl rfl hnm rfl (fun q => ⟨rfl, rfl⟩) (by decide) ?_
  have i2 : mm_inp [(42, 1), (42, 2), (0, 5), (0, 6), (0, 7), (0, 8), (0, 9), (0, 10), (0, 11)] 44 (mm_pf h1 42 0 1) := mm_inp_pf i1 (show 1 ≤ 1 ∧ 1 ≤ 1 by decide) (by decide +kernel)
  obtain ⟨h2, eh2⟩ : ∃ z, z = mm_pf h1 42 0 1 := ⟨_, rfl⟩
  rw [← eh2] at i2 ⊢
  clear eh2
  refine mm_aload_n C (mm_dec dk_X8_init 6 rfl) rfl ?_
  refine mm_iconst C (mm_dec dk_X8_init 7 rfl) ⟨by decide, by decide⟩ ?_
  refine mm_newa (atype := .int) (n := 44) (len := 3) C ac_int (mm_dec dk_X8_init 8 rfl) i2.2.2 (by decide) rfl (Or.inl ⟨rfl, rfl⟩) rfl (by decide) (by decide) (by decide) ?_
  have i3 : mm_inp [(42, 1), (42, 2), (0, 5), (0, 6), (0, 7), (0, 8), (0, 9), (0, 10), (0, 11)] 45 (mm_nw h2) := mm_inp_nw i2 (by decide) rfl (by decide +kernel) (by decide +kernel)
  obtain ⟨h3, eh3⟩ : ∃ z, z = mm_nw h2 := ⟨_, rfl⟩
  rw [← eh3] at i3 ⊢
  clear eh3
  refine mm_dup C (mm_dec dk_X8_init 9 rfl) (show (2 : Nat) ≠ 1 by decide) ?_
  refine mm_iconst C (mm_dec dk_X8_init 10 rfl) ⟨by decide, by decide⟩ ?_
  refine mm_sipush C (mm_dec dk_X8_init 11 rfl) ⟨by decide, by decide⟩ ?_
  refine mm_iast C (mm_dec dk_X8_init 12 rfl) rfl (by decide) (by decide) ?_
  have i4 : mm_inp [(42, 1), (42, 2), (0, 5), (0, 6), (0, 7), (0, 8), (0, 9), (0, 10), (0, 11)] 45 (mm_pa h3 44 0 3600) := mm_inp_pa i3 (show -2147483648 ≤ 3600 ∧ 3600 ≤ 2147483647 by decide)
  obtain ⟨h4, eh4⟩ : ∃ z, z = mm_pa h3 44 0 3600 := ⟨_, rfl⟩
  rw [← eh4] at i4 ⊢
  clear eh4
  refine mm_dup C (mm_dec dk_X8_init 13 rfl) (show (2 : Nat) ≠ 1 by decide) ?_
  refine mm_iconst C (mm_dec dk_X8_init 14 rfl) ⟨by decide, by decide⟩ ?_
  refine mm_bipush C (mm_dec dk_X8_init 15 rfl) ⟨by decide, by decide⟩ ?_
  refine mm_iast C (mm_dec dk_X8_init 16 rfl) rfl (by decide) (by decide) ?_
  have i5 : mm_inp [(42, 1), (42, 2), (0, 5), (0, 6), (0, 7), (0, 8), (0, 9), (0, 10), (0, 11)] 45 (mm_pa h4 44 1 60) := mm_inp_pa i4 (show -2147483648 ≤ 60 ∧ 60 ≤ 2147483647 by decide)
  obtain ⟨h5, eh5⟩ : ∃ z, z = mm_pa h4 44 1 60 := ⟨_, rfl⟩
  rw [← eh5] at i5 ⊢
  clear eh5
  refine mm_dup C (mm_dec dk_X8_init 17 rfl) (show (2 : Nat) ≠ 1 by decide) ?_
  refine mm_iconst C (mm_dec dk_X8_init 18 rfl) ⟨by decide, by decide⟩ ?_
  refine mm_sipush C (mm_dec dk_X8_init 19 rfl) ⟨by decide, by decide⟩ ?_
  refine mm_iast C (mm_dec dk_X8_init 20 rfl) rfl (by decide) (by decide) ?_
  have i6 : mm_inp [(42, 1), (42, 2), (0, 5), (0, 6), (0, 7), (0, 8), (0, 9), (0, 10), (0, 11)] 45 (mm_pa h5 44 2 900) := mm_inp_pa i5 (show -2147483648 ≤ 900 ∧ 900 ≤ 2147483647 by decide)
  obtain ⟨h6, eh6⟩ : ∃ z, z = mm_pa h5 44 2 900 := ⟨_, rfl⟩
  rw [← eh6] at i6 ⊢
  clear eh6
  refine mm_putrF C fl_X8_15 (mm_dec dk_X8_init 21 rfl) rfl rfl rfl hnm rfl (fun q => ⟨rfl, rfl⟩) (by decide) ?_
  have i7 : mm_inp [(42, 2), (0, 5), (0, 6), (0, 7), (0, 8), (0, 9), (0, 10), (0, 11)] 45 (mm_pf h6 42 1 1) := mm_inp_pf i6 (show 1 ≤ 1 ∧ 1 ≤ 1 by decide) (by decide +kernel)
  obtain ⟨h7, eh7⟩ : ∃ z, z = mm_pf h6 42 1 1 := ⟨_, rfl⟩
  rw [← eh7] at i7 ⊢
  clear eh7
  refine mm_aload_n C (mm_dec dk_X8_init 22 rfl) rfl ?_
  refine mm_bipush C (mm_dec dk_X8_init 23 rfl) ⟨by decide, by decide⟩ ?_
  refine mm_newa (atype := .int) (n := 45) (len := 64) C ac_int (mm_dec dk_X8_init 24 rfl) i7.2.2 (by decide) rfl (Or.inl ⟨rfl, rfl⟩) rfl (by decide) (by decide) (by decide) ?_
  have i8 : mm_inp [(42, 2), (0, 5), (0, 6), (0, 7), (0, 8), (0, 9), (0, 10), (0, 11)] 46 (mm_nw h7) := mm_inp_nw i7 (by decide) rfl (by decide +kernel) (by decide +kernel)
  obtain ⟨h8, eh8⟩ : ∃ z, z = mm_nw h7 := ⟨_, rfl⟩
  rw [← eh8] at i8 ⊢
  clear eh8
  refine mm_putrF C fl_X8_18 (mm_dec dk_X8_init 25 rfl) rfl rfl rfl hnm rfl (fun q => ⟨rfl, rfl⟩) (by decide) ?_
  have i9 : mm_inp [(0, 5), (0, 6), (0, 7), (0, 8), (0, 9), (0, 10), (0, 11)] 46 (mm_pf h8 42 2 1) := mm_inp_pf i8 (show 1 ≤ 1 ∧ 1 ≤ 1 by decide) (by decide +kernel)
  obtain ⟨h9, eh9⟩ : ∃ z, z = mm_pf h8 42 2 1 := ⟨_, rfl⟩
  rw [← eh9] at i9 ⊢
  clear eh9
  refine mm_aload_n C (mm_dec dk_X8_init 26 rfl) rfl ?_
  refine mm_iconst C (mm_dec dk_X8_init 27 rfl) ⟨by decide, by decide⟩ ?_
  refine mm_puti C fl_X8_21 (mm_dec dk_X8_init 28 rfl) rfl rfl rfl (Or.inl ⟨rfl, rfl⟩) ?_
  have i10 : mm_inp [(0, 5), (0, 6), (0, 7), (0, 8), (0, 9), (0, 10), (0, 11)] 46 (mm_pf h9 42 3 0) := mm_inp_pf i9 (show 0 ≤ 0 ∧ 0 ≤ 500 by decide) (by decide +kernel)
  obtain ⟨h10, eh10⟩ : ∃ z, z = mm_pf h9 42 3 0 := ⟨_, rfl⟩
  rw [← eh10] at i10 ⊢
  clear eh10
  refine mm_aload_n C (mm_dec dk_X8_init 29 rfl) rfl ?_
  refine mm_iconst C (mm_dec dk_X8_init 30 rfl) ⟨by decide, by decide⟩ ?_
  refine mm_puti C fl_X8_25 (mm_dec dk_X8_init 31 rfl) rfl rfl rfl (Or.inl ⟨rfl, rfl⟩) ?_
  have i11 : mm_inp [(0, 5), (0, 6), (0, 7), (0, 8), (0, 9), (0, 10), (0, 11)] 46 (mm_pf h10 42 4 0) := mm_inp_pf i10 (show 0 ≤ 0 ∧ 0 ≤ 64 by decide) (by decide +kernel)
  obtain ⟨h11, eh11⟩ : ∃ z, z = mm_pf h10 42 4 0 := ⟨_, rfl⟩
  rw [← eh11] at i11 ⊢
  clear eh11
  refine mm_aload_n C (mm_dec dk_X8_init 32 rfl) rfl ?_
  refine mm_iconst C (mm_dec dk_X8_init 33 rfl) ⟨by decide, by decide⟩ ?_
  refine mm_puti C fl_X8_28 (mm_dec dk_X8_init 34 rfl) rfl rfl rfl (Or.inl ⟨rfl, rfl⟩) ?_
  have i12 : mm_inp [(0, 5), (0, 6), (0, 7), (0, 8), (0, 9), (0, 10), (0, 11)] 46 (mm_pf h11 42 5 0) := mm_inp_pf i11 (show -2147483648 ≤ 0 ∧ 0 ≤ 2147483647 by decide) (by decide +kernel)
  obtain ⟨h12, eh12⟩ : ∃ z, z = mm_pf h11 42 5 0 := ⟨_, rfl⟩
  rw [← eh12] at i12 ⊢
  clear eh12
  refine mm_aload_n C (mm_dec dk_X8_init 35 rfl) rfl ?_
  refine mm_iconst C (mm_dec dk_X8_init 36 rfl) ⟨by decide, by decide⟩ ?_
  refine mm_puti C fl_X8_31 (mm_dec dk_X8_init 37 rfl) rfl rfl rfl (Or.inr ⟨rfl, rfl, by omega⟩) ?_
  have i13 : mm_inp [(0, 5), (0, 6), (0, 7), (0, 8), (0, 9), (0, 10), (0, 11)] 46 (mm_pf h12 42 6 0) := mm_inp_pf i12 (show 0 ≤ 0 ∧ 0 ≤ 1 by decide) (by decide +kernel)
  obtain ⟨h13, eh13⟩ : ∃ z, z = mm_pf h12 42 6 0 := ⟨_, rfl⟩
  rw [← eh13] at i13 ⊢
  clear eh13
  exact mm_vret C T (mm_dec dk_X8_init 38 rfl) (by decide : 3 ≤ 3) (by decide : 567 ≤ 567) ⟨rfl, i13⟩
set_option maxRecDepth 100000 in
set_option maxHeartbeats 4000000 in
theorem c_X1_init (l : Launch) (hl : l.stackTraces = false) (d : Nat) (hd : 1 ≤ d) (h : mH) (i0 : mm_inp [(48, 0), (48, 1), (48, 2), (48, 3), (48, 4), (48, 5), (48, 6), (48, 7), (46, 3), (0, 6), (0, 7), (0, 8), (0, 9), (0, 10), (0, 11)] 49 h) : mm_Met l d yX1_init cX1_init 4 none [mR 48, mR 14, mR 22, mR 30] h (mm_pv fun h2 => mm_inp [(46, 3), (0, 6), (0, 7), (0, 8), (0, 9), (0, 10), (0, 11)] 54 h2) mm_nx 5 1193 := by
  refine mm_ofW (ls := [mR 48, mR 14, mR 22, mR 30]) hl (by decide) rfl (Nat.le_of_ble_eq_true rfl) ?_
  intro x hxl C T hnm htb
  subst hxl
  have C1 := mm_OK_le (d' := d - 1 + 1) (by omega) C
  refine mm_aload_n C (mm_dec dk_X1_init 0 rfl) rfl ?_
  refine mm_objInit C1 ml_X1_3 im_obj co_obj (mm_dec dk_X1_init 1 rfl) (Nat.le_of_ble_eq_true rfl) ?_
  refine mm_aload_n C (mm_dec dk_X1_init 2 rfl) rfl ?_
  refine mm_bipush C (mm_dec dk_X1_init 3 rfl) ⟨by decide, by decide⟩ ?_
  refine mm_newa (atype := .int) (n := 49) (len := 12) C ac_int (mm_dec dk_X1_init 4 rfl) i0.2.2 (by decide) rfl (Or.inl ⟨rfl, rfl⟩) rfl (by decide) (by decide) (by decide) ?_
  have i1 : mm_inp [(48, 0), (48, 1), (48, 2), (48, 3), (48, 4), (48, 5), (48, 6), (48, 7), (46, 3), (0, 6), (0, 7), (0, 8), (0, 9), (0, 10), (0, 11)] 50 (mm_nw h) := mm_inp_nw i0 (by decide) rfl (by decide +kernel) (by decide +kernel)
  obtain ⟨h1, eh1⟩ : ∃ z, z = mm_nw h := ⟨_, rfl⟩
  rw [← eh1] at i1 ⊢
  clear eh1
  refine mm_putrF C fl_X1_9 (mm_dec dk_X1_init 5 rfl) rfl rfl rfl hnm rfl (fun q => ⟨rfl, rfl⟩) (by decide) ?_
  have i2 : mm_inp [(48, 0), (48, 1), (48, 2), (48, 4), (48, 5), (48, 6), (48, 7), (46, 3), (0, 6), (0, 7), (0, 8), (0, 9), (0, 10), (0, 11)] 50 (mm_pf h1 48 3 1) := mm_inp_pf i1 (show 1 ≤ 1 ∧ 1 ≤ 1 by decide) (by decide +kernel)
  obtain ⟨h2, eh2⟩ : ∃ z, z = mm_pf h1 48 3 1 := ⟨_, rfl⟩
  rw [← eh2] at i2 ⊢
  clear eh2
  refine mm_aload_n C (mm_dec dk_X1_init 6 rfl) rfl ?_
  refine mm_sipush C (mm_dec dk_X1_init 7 rfl) ⟨by decide, by decide⟩ ?_
  refine mm_newa (atype := .int) (n := 50) (len := 500) C ac_int (mm_dec dk_X1_init 8 rfl) i2.2.2 (by decide) rfl (Or.inl ⟨rfl, rfl⟩) rfl (by decide) (by decide) (by decide) ?_
  have i3 : mm_inp [(48, 0), (48, 1), (48, 2), (48, 4), (48, 5), (48, 6), (48, 7), (46, 3), (0, 6), (0, 7), (0, 8), (0, 9), (0, 10), (0, 11)] 51 (mm_nw h2) := mm_inp_nw i2 (by decide) rfl (by decide +kernel) (by decide +kernel)
  obtain ⟨h3, eh3⟩ : ∃ z, z = mm_nw h2 := ⟨_, rfl⟩
  rw [← eh3] at i3 ⊢
  clear eh3
  refine mm_putrF C fl_X1_15 (mm_dec dk_X1_init 9 rfl) rfl rfl rfl hnm rfl (fun q => ⟨rfl, rfl⟩) (by decide) ?_
  have i4 : mm_inp [(48, 0), (48, 1), (48, 2), (48, 5), (48, 6), (48, 7), (46, 3), (0, 6), (0, 7), (0, 8), (0, 9), (0, 10), (0, 11)] 51 (mm_pf h3 48 4 1) := mm_inp_pf i3 (show 1 ≤ 1 ∧ 1 ≤ 1 by decide) (by decide +kernel)
  obtain ⟨h4, eh4⟩ : ∃ z, z = mm_pf h3 48 4 1 := ⟨_, rfl⟩
  rw [← eh4] at i4 ⊢
  clear eh4
  refine mm_aload_n C (mm_dec dk_X1_init 10 rfl) rfl ?_
  refine mm_sipush C (mm_dec dk_X1_init 11 rfl) ⟨by decide, by decide⟩ ?_
  refine mm_newa (atype := .int) (n := 51) (len := 500) C ac_int (mm_dec dk_X1_init 12 rfl) i4.2.2 (by decide) rfl (Or.inl ⟨rfl, rfl⟩) rfl (by decide) (by decide) (by decide) ?_
  have i5 : mm_inp [(48, 0), (48, 1), (48, 2), (48, 5), (48, 6), (48, 7), (46, 3), (0, 6), (0, 7), (0, 8), (0, 9), (0, 10), (0, 11)] 52 (mm_nw h4) := mm_inp_nw i4 (by decide) rfl (by decide +kernel) (by decide +kernel)
  obtain ⟨h5, eh5⟩ : ∃ z, z = mm_nw h4 := ⟨_, rfl⟩
  rw [← eh5] at i5 ⊢
  clear eh5
  refine mm_putrF C fl_X1_18 (mm_dec dk_X1_init 13 rfl) rfl rfl rfl hnm rfl (fun q => ⟨rfl, rfl⟩) (by decide) ?_
  have i6 : mm_inp [(48, 0), (48, 1), (48, 2), (48, 6), (48, 7), (46, 3), (0, 6), (0, 7), (0, 8), (0, 9), (0, 10), (0, 11)] 52 (mm_pf h5 48 5 1) := mm_inp_pf i5 (show 1 ≤ 1 ∧ 1 ≤ 1 by decide) (by decide +kernel)
  obtain ⟨h6, eh6⟩ : ∃ z, z = mm_pf h5 48 5 1 := ⟨_, rfl⟩
  rw [← eh6] at i6 ⊢
  clear eh6
  refine mm_aload_n C (mm_dec dk_X1_init 14 rfl) rfl ?_
  refine mm_bipush C (mm_dec dk_X1_init 15 rfl) ⟨by decide, by decide⟩ ?_
  refine mm_newa (atype := .int) (n := 52) (len := 12) C ac_int (mm_dec dk_X1_init 16 rfl) i6.2.2 (by decide) rfl (Or.inl ⟨rfl, rfl⟩) rfl (by decide) (by decide) (by decide) ?_
  have i7 : mm_inp [(48, 0), (48, 1), (48, 2), (48, 6), (48, 7), (46, 3), (0, 6), (0, 7), (0, 8), (0, 9), (0, 10), (0, 11)] 53 (mm_nw h6) := mm_inp_nw i6 (by decide) rfl (by decide +kernel) (by decide +kernel)
  obtain ⟨h7, eh7⟩ : ∃ z, z = mm_nw h6 := ⟨_, rfl⟩
  rw [← eh7] at i7 ⊢
  clear eh7
  refine mm_putrF C fl_X1_21 (mm_dec dk_X1_init 17 rfl) rfl rfl rfl hnm rfl (fun q => ⟨rfl, rfl⟩) (by decide) ?_
  have i8 : mm_inp [(48, 0), (48, 1), (48, 2), (48, 7), (46, 3), (0, 6), (0, 7), (0, 8), (0, 9), (0, 10), (0, 11)] 53 (mm_pf h7 48 6 1) := mm_inp_pf i7 (show 1 ≤ 1 ∧ 1 ≤ 1 by decide) (by decide +kernel)
  obtain ⟨h8, eh8⟩ : ∃ z, z = mm_pf h7 48 6 1 := ⟨_, rfl⟩
  rw [← eh8] at i8 ⊢
  clear eh8
  refine mm_aload_n C (mm_dec dk_X1_init 18 rfl) rfl ?_
  refine mm_sipush C (mm_dec dk_X1_init 19 rfl) ⟨by decide, by decide⟩ ?_
  refine mm_newa (atype := .int) (n := 53) (len := 169) C ac_int (mm_dec dk_X1_init 20 rfl) i8.2.2 (by decide) rfl (Or.inl ⟨rfl, rfl⟩) rfl (by decide) (by decide) (by decide) ?_
  have i9 : mm_inp [(48, 0), (48, 1), (48, 2), (48, 7), (46, 3), (0, 6), (0, 7), (0, 8), (0, 9), (0, 10), (0, 11)] 54 (mm_nw h8) := mm_inp_nw i8 (by decide) rfl (by decide +kernel) (by decide +kernel)
  obtain ⟨h9, eh9⟩ : ∃ z, z = mm_nw h8 := ⟨_, rfl⟩
  rw [← eh9] at i9 ⊢
  clear eh9
  refine mm_putrF C fl_X1_24 (mm_dec dk_X1_init 21 rfl) rfl rfl rfl hnm rfl (fun q => ⟨rfl, rfl⟩) (by decide) ?_
  have i10 : mm_inp [(48, 0), (48, 1), (48, 2), (46, 3), (0, 6), (0, 7), (0, 8), (0, 9), (0, 10), (0, 11)] 54 (mm_pf h9 48 7 1) := mm_inp_pf i9 (show 1 ≤ 1 ∧ 1 ≤ 1 by decide) (by decide +kernel)
  obtain ⟨h10, eh10⟩ : ∃ z, z = mm_pf h9 48 7 1 := ⟨_, rfl⟩
  rw [← eh10] at i10 ⊢
  clear eh10
  refine mm_aload_n C (mm_dec dk_X1_init 22 rfl) rfl ?_
  refine mm_iconst C (mm_dec dk_X1_init 23 rfl) ⟨by decide, by decide⟩ ?_
  refine mm_puti C fl_X1_27 (mm_dec dk_X1_init 24 rfl) rfl rfl rfl (Or.inl ⟨rfl, rfl⟩) ?_
  have i11 : mm_inp [(48, 0), (48, 1), (48, 2), (46, 3), (0, 6), (0, 7), (0, 8), (0, 9), (0, 10), (0, 11)] 54 (mm_pf h10 48 8 0) := mm_inp_pf i10 (show 0 ≤ 0 ∧ 0 ≤ 12 by decide) (by decide +kernel)
  obtain ⟨h11, eh11⟩ : ∃ z, z = mm_pf h10 48 8 0 := ⟨_, rfl⟩
  rw [← eh11] at i11 ⊢
  clear eh11
  refine mm_aload_n C (mm_dec dk_X1_init 25 rfl) rfl ?_
  refine mm_iconst C (mm_dec dk_X1_init 26 rfl) ⟨by decide, by decide⟩ ?_
  refine mm_puti C fl_X1_31 (mm_dec dk_X1_init 27 rfl) rfl rfl rfl (Or.inl ⟨rfl, rfl⟩) ?_
  have i12 : mm_inp [(48, 0), (48, 1), (48, 2), (46, 3), (0, 6), (0, 7), (0, 8), (0, 9), (0, 10), (0, 11)] 54 (mm_pf h11 48 9 0) := mm_inp_pf i11 (show 0 ≤ 0 ∧ 0 ≤ 500 by decide) (by decide +kernel)
  obtain ⟨h12, eh12⟩ : ∃ z, z = mm_pf h11 48 9 0 := ⟨_, rfl⟩
  rw [← eh12] at i12 ⊢
  clear eh12
  refine mm_aload_n C (mm_dec dk_X1_init 28 rfl) rfl ?_
  refine mm_aload_n C (mm_dec dk_X1_init 29 rfl) rfl ?_
  refine mm_putrF C fl_X1_34 (mm_dec dk_X1_init 30 rfl) rfl rfl rfl hnm rfl (fun q => ⟨rfl, rfl⟩) (by decide) ?_
  have i13 : mm_inp [(48, 1), (48, 2), (46, 3), (0, 6), (0, 7), (0, 8), (0, 9), (0, 10), (0, 11)] 54 (mm_pf h12 48 0 1) := mm_inp_pf i12 (show 1 ≤ 1 ∧ 1 ≤ 1 by decide) (by decide +kernel)
  obtain ⟨h13, eh13⟩ : ∃ z, z = mm_pf h12 48 0 1 := ⟨_, rfl⟩
  rw [← eh13] at i13 ⊢
  clear eh13
  refine mm_aload_n C (mm_dec dk_X1_init 31 rfl) rfl ?_
  refine mm_aload_n C (mm_dec dk_X1_init 32 rfl) rfl ?_
  refine mm_putrF C fl_X1_38 (mm_dec dk_X1_init 33 rfl) rfl rfl rfl hnm rfl (fun q => ⟨rfl, rfl⟩) (by decide) ?_
  have i14 : mm_inp [(48, 2), (46, 3), (0, 6), (0, 7), (0, 8), (0, 9), (0, 10), (0, 11)] 54 (mm_pf h13 48 1 1) := mm_inp_pf i13 (show 1 ≤ 1 ∧ 1 ≤ 1 by decide) (by decide +kernel)
  obtain ⟨h14, eh14⟩ : ∃ z, z = mm_pf h13 48 1 1 := ⟨_, rfl⟩
  rw [← eh14] at i14 ⊢
  clear eh14
  refine mm_aload_n C (mm_dec dk_X1_init 34 rfl) rfl ?_
  refine mm_aload_n C (mm_dec dk_X1_init 35 rfl) rfl ?_
  refine mm_putrF C fl_X1_42 (mm_dec dk_X1_init 36 rfl) rfl rfl rfl hnm rfl (fun q => ⟨rfl, rfl⟩) (by decide) ?_
  have i15 : mm_inp [(46, 3), (0, 6), (0, 7), (0, 8), (0, 9), (0, 10), (0, 11)] 54 (mm_pf h14 48 2 1) := mm_inp_pf i14 (show 1 ≤ 1 ∧ 1 ≤ 1 by decide) (by decide +kernel)
  obtain ⟨h15, eh15⟩ : ∃ z, z = mm_pf h14 48 2 1 := ⟨_, rfl⟩
  rw [← eh15] at i15 ⊢
  clear eh15
  exact mm_vret C T (mm_dec dk_X1_init 37 rfl) (by decide : 5 ≤ 5) (by decide : 1193 ≤ 1193) ⟨rfl, i15⟩
set_option maxRecDepth 100000 in
set_option maxHeartbeats 4000000 in
theorem c_X4_init (l : Launch) (hl : l.stackTraces = false) (d : Nat) (hd : 2 ≤ d) (h : mH) (i0 : mm_inp [(46, 0), (46, 1), (46, 2), (46, 3), (46, 4), (0, 6), (0, 7), (0, 8), (0, 9), (0, 10), (0, 11)] 47 h) : mm_Met l d yX4_init cX4_init 5 none [mR 46, mR 14, mR 22, mR 30, mR 42] h (mm_pv fun h2 => mm_inp [(0, 6), (0, 7), (0, 8), (0, 9), (0, 10), (0, 11)] 54 h2) mm_nx 7 1210 := by
  refine mm_ofW (ls := [mR 46, mR 14, mR 22, mR 30, mR 42]) hl (by decide) rfl (Nat.le_of_ble_eq_true rfl) ?_
  intro x hxl C T hnm htb
  subst hxl
  have C1 := mm_OK_le (d' := d - 1 + 1) (by omega) C
  refine mm_aload_n C (mm_dec dk_X4_init 0 rfl) rfl ?_
  refine mm_objInit C1 ml_X4_3 im_obj co_obj (mm_dec dk_X4_init 1 rfl) (Nat.le_of_ble_eq_true rfl) ?_
  refine mm_aload_n C (mm_dec dk_X4_init 2 rfl) rfl ?_
  refine mm_bipush C (mm_dec dk_X4_init 3 rfl) ⟨by decide, by decide⟩ ?_
  refine mm_newa (atype := .int) (n := 47) (len := 7) C ac_int (mm_dec dk_X4_init 4 rfl) i0.2.2 (by decide) rfl (Or.inl ⟨rfl, rfl⟩) rfl (by decide) (by decide) (by decide) ?_
  have i1 : mm_inp [(46, 0), (46, 1), (46, 2), (46, 3), (46, 4), (0, 6), (0, 7), (0, 8), (0, 9), (0, 10), (0, 11)] 48 (mm_nw h) := mm_inp_nw i0 (by decide) rfl (by decide +kernel) (by decide +kernel)
  obtain ⟨h1, eh1⟩ : ∃ z, z = mm_nw h := ⟨_, rfl⟩
  rw [← eh1] at i1 ⊢
  clear eh1
  refine mm_putrF C fl_X4_9 (mm_dec dk_X4_init 5 rfl) rfl rfl rfl hnm rfl (fun q => ⟨rfl, rfl⟩) (by decide) ?_
  have i2 : mm_inp [(46, 0), (46, 1), (46, 2), (46, 3), (0, 6), (0, 7), (0, 8), (0, 9), (0, 10), (0, 11)] 48 (mm_pf h1 46 4 1) := mm_inp_pf i1 (show 1 ≤ 1 ∧ 1 ≤ 1 by decide) (by decide +kernel)
  obtain ⟨h2, eh2⟩ : ∃ z, z = mm_pf h1 46 4 1 := ⟨_, rfl⟩
  rw [← eh2] at i2 ⊢
  clear eh2
  refine mm_aload_n C (mm_dec dk_X4_init 6 rfl) rfl ?_
  refine mm_iconst C (mm_dec dk_X4_init 7 rfl) ⟨by decide, by decide⟩ ?_
  refine mm_puti C fl_X4_15 (mm_dec dk_X4_init 8 rfl) rfl rfl rfl (Or.inl ⟨rfl, rfl⟩) ?_
  have i3 : mm_inp [(46, 0), (46, 1), (46, 2), (46, 3), (0, 6), (0, 7), (0, 8), (0, 9), (0, 10), (0, 11)] 48 (mm_pf h2 46 5 0) := mm_inp_pf i2 (show -2147483648 ≤ 0 ∧ 0 ≤ 2147483647 by decide) (by decide +kernel)
  obtain ⟨h3, eh3⟩ : ∃ z, z = mm_pf h2 46 5 0 := ⟨_, rfl⟩
  rw [← eh3] at i3 ⊢
  clear eh3
  refine mm_aload_n C (mm_dec dk_X4_init 9 rfl) rfl ?_
  refine mm_iconst C (mm_dec dk_X4_init 10 rfl) ⟨by decide, by decide⟩ ?_
  refine mm_puti C fl_X4_19 (mm_dec dk_X4_init 11 rfl) rfl rfl rfl (Or.inl ⟨rfl, rfl⟩) ?_
  have i4 : mm_inp [(46, 0), (46, 1), (46, 2), (46, 3), (0, 6), (0, 7), (0, 8), (0, 9), (0, 10), (0, 11)] 48 (mm_pf h3 46 6 (-1)) := mm_inp_pf i3 (show -2147483648 ≤ (-1) ∧ (-1) ≤ 2147483647 by decide) (by decide +kernel)
  obtain ⟨h4, eh4⟩ : ∃ z, z = mm_pf h3 46 6 (-1) := ⟨_, rfl⟩
  rw [← eh4] at i4 ⊢
  clear eh4
  refine mm_aload_n C (mm_dec dk_X4_init 12 rfl) rfl ?_
  refine mm_iconst C (mm_dec dk_X4_init 13 rfl) ⟨by decide, by decide⟩ ?_
  refine mm_puti C fl_X4_22 (mm_dec dk_X4_init 14 rfl) rfl rfl rfl (Or.inl ⟨rfl, rfl⟩) ?_
  have i5 : mm_inp [(46, 0), (46, 1), (46, 2), (46, 3), (0, 6), (0, 7), (0, 8), (0, 9), (0, 10), (0, 11)] 48 (mm_pf h4 46 7 (-1)) := mm_inp_pf i4 (show -2147483648 ≤ (-1) ∧ (-1) ≤ 2147483647 by decide) (by decide +kernel)
  obtain ⟨h5, eh5⟩ : ∃ z, z = mm_pf h4 46 7 (-1) := ⟨_, rfl⟩
  rw [← eh5] at i5 ⊢
  clear eh5
  refine mm_aload_n C (mm_dec dk_X4_init 15 rfl) rfl ?_
  refine mm_iconst C (mm_dec dk_X4_init 16 rfl) ⟨by decide, by decide⟩ ?_
  refine mm_puti C fl_X4_25 (mm_dec dk_X4_init 17 rfl) rfl rfl rfl (Or.inl ⟨rfl, rfl⟩) ?_
  have i6 : mm_inp [(46, 0), (46, 1), (46, 2), (46, 3), (0, 6), (0, 7), (0, 8), (0, 9), (0, 10), (0, 11)] 48 (mm_pf h5 46 8 0) := mm_inp_pf i5 (show -2147483648 ≤ 0 ∧ 0 ≤ 2147483647 by decide) (by decide +kernel)
  obtain ⟨h6, eh6⟩ : ∃ z, z = mm_pf h5 46 8 0 := ⟨_, rfl⟩
  rw [← eh6] at i6 ⊢
  clear eh6
  refine mm_aload_n C (mm_dec dk_X4_init 18 rfl) rfl ?_
  refine mm_iconst C (mm_dec dk_X4_init 19 rfl) ⟨by decide, by decide⟩ ?_
  refine mm_puti C fl_X4_28 (mm_dec dk_X4_init 20 rfl) rfl rfl rfl (Or.inl ⟨rfl, rfl⟩) ?_
  have i7 : mm_inp [(46, 0), (46, 1), (46, 2), (46, 3), (0, 6), (0, 7), (0, 8), (0, 9), (0, 10), (0, 11)] 48 (mm_pf h6 46 9 0) := mm_inp_pf i6 (show -2147483648 ≤ 0 ∧ 0 ≤ 2147483647 by decide) (by decide +kernel)
  obtain ⟨h7, eh7⟩ : ∃ z, z = mm_pf h6 46 9 0 := ⟨_, rfl⟩
  rw [← eh7] at i7 ⊢
  clear eh7
  refine mm_aload_n C (mm_dec dk_X4_init 21 rfl) rfl ?_
  refine mm_ldc (z := -100000) C (mm_dec dk_X4_init 22 rfl) kc_X4_31 (by decide) ?_
  refine mm_puti C fl_X4_32 (mm_dec dk_X4_init 23 rfl) rfl rfl rfl (Or.inl ⟨rfl, rfl⟩) ?_
  have i8 : mm_inp [(46, 0), (46, 1), (46, 2), (46, 3), (0, 6), (0, 7), (0, 8), (0, 9), (0, 10), (0, 11)] 48 (mm_pf h7 46 10 (-100000)) := mm_inp_pf i7 (show -2147483648 ≤ (-100000) ∧ (-100000) ≤ 2147483647 by decide) (by decide +kernel)
  obtain ⟨h8, eh8⟩ : ∃ z, z = mm_pf h7 46 10 (-100000) := ⟨_, rfl⟩
  rw [← eh8] at i8 ⊢
  clear eh8
  refine mm_aload_n C (mm_dec dk_X4_init 24 rfl) rfl ?_
  refine mm_ldc (z := -100000) C (mm_dec dk_X4_init 25 rfl) kc_X4_31 (by decide) ?_
  refine mm_puti C fl_X4_35 (mm_dec dk_X4_init 26 rfl) rfl rfl rfl (Or.inl ⟨rfl, rfl⟩) ?_
  have i9 : mm_inp [(46, 0), (46, 1), (46, 2), (46, 3), (0, 6), (0, 7), (0, 8), (0, 9), (0, 10), (0, 11)] 48 (mm_pf h8 46 11 (-100000)) := mm_inp_pf i8 (show -2147483648 ≤ (-100000) ∧ (-100000) ≤ 2147483647 by decide) (by decide +kernel)
  obtain ⟨h9, eh9⟩ : ∃ z, z = mm_pf h8 46 11 (-100000) := ⟨_, rfl⟩
  rw [← eh9] at i9 ⊢
  clear eh9
  refine mm_aload_n C (mm_dec dk_X4_init 27 rfl) rfl ?_
  refine mm_aload_n C (mm_dec dk_X4_init 28 rfl) rfl ?_
  refine mm_putrF C fl_X4_38 (mm_dec dk_X4_init 29 rfl) rfl rfl rfl hnm rfl (fun q => ⟨rfl, rfl⟩) (by decide) ?_
  have i10 : mm_inp [(46, 1), (46, 2), (46, 3), (0, 6), (0, 7), (0, 8), (0, 9), (0, 10), (0, 11)] 48 (mm_pf h9 46 0 1) := mm_inp_pf i9 (show 1 ≤ 1 ∧ 1 ≤ 1 by decide) (by decide +kernel)
  obtain ⟨h10, eh10⟩ : ∃ z, z = mm_pf h9 46 0 1 := ⟨_, rfl⟩
  rw [← eh10] at i10 ⊢
  clear eh10
  refine mm_aload_n C (mm_dec dk_X4_init 30 rfl) rfl ?_
  refine mm_aload_n C (mm_dec dk_X4_init 31 rfl) rfl ?_
  refine mm_putrF C fl_X4_42 (mm_dec dk_X4_init 32 rfl) rfl rfl rfl hnm rfl (fun q => ⟨rfl, rfl⟩) (by decide) ?_
  have i11 : mm_inp [(46, 2), (46, 3), (0, 6), (0, 7), (0, 8), (0, 9), (0, 10), (0, 11)] 48 (mm_pf h10 46 1 1) := mm_inp_pf i10 (show 1 ≤ 1 ∧ 1 ≤ 1 by decide) (by decide +kernel)
  obtain ⟨h11, eh11⟩ : ∃ z, z = mm_pf h10 46 1 1 := ⟨_, rfl⟩
  rw [← eh11] at i11 ⊢
  clear eh11
  refine mm_aload_n C (mm_dec dk_X4_init 33 rfl) rfl ?_
  refine mm_aload C (mm_dec dk_X4_init 34 rfl) rfl ?_
  refine mm_putrF C fl_X4_46 (mm_dec dk_X4_init 35 rfl) rfl rfl rfl hnm rfl (fun q => ⟨rfl, rfl⟩) (by decide) ?_
  have i12 : mm_inp [(46, 3), (0, 6), (0, 7), (0, 8), (0, 9), (0, 10), (0, 11)] 48 (mm_pf h11 46 2 1) := mm_inp_pf i11 (show 1 ≤ 1 ∧ 1 ≤ 1 by decide) (by decide +kernel)
  obtain ⟨h12, eh12⟩ : ∃ z, z = mm_pf h11 46 2 1 := ⟨_, rfl⟩
  rw [← eh12] at i12 ⊢
  clear eh12
  refine mm_aload_n C (mm_dec dk_X4_init 36 rfl) rfl ?_
  refine mm_new (n := 48) C mm_cl_1 ck_X4_50 ci_1 cn_1 (mm_dec dk_X4_init 37 rfl) i12.2.2 (by decide) rfl (mm_df_1 _ rfl) (by decide) (by decide) ?_
  have i13 : mm_inp [(48, 0), (48, 1), (48, 2), (48, 3), (48, 4), (48, 5), (48, 6), (48, 7), (46, 3), (0, 6), (0, 7), (0, 8), (0, 9), (0, 10), (0, 11)] 49 (mm_nw h12) := mm_inp_nw i12 (by decide) rfl (by decide +kernel) (by decide +kernel)
  obtain ⟨h13, eh13⟩ : ∃ z, z = mm_nw h12 := ⟨_, rfl⟩
  rw [← eh13] at i13 ⊢
  clear eh13
  refine mm_dup C (mm_dec dk_X4_init 38 rfl) (show (2 : Nat) ≠ 1 by decide) ?_
  refine mm_aload_n C (mm_dec dk_X4_init 39 rfl) rfl ?_
  refine mm_aload_n C (mm_dec dk_X4_init 40 rfl) rfl ?_
  refine mm_aload_n C (mm_dec dk_X4_init 41 rfl) rfl ?_
  refine mm_callI (rest := [mR 48, mR 46]) C1 mw_X1_init ml_X4_52 im_X1_init rfl (c_X1_init x.2.1 hl (d - 1) (by omega) h13 i13) (mm_dec dk_X4_init 42 rfl) rfl (Nat.le_of_ble_eq_true rfl) ⟨by decide, by decide⟩ rfl (fun v73 h73c hp73 => ?_)
  obtain ⟨rfl, i73c⟩ := hp73
  show mm_W _ _ _ _ _ [mR 48, mR 46] _
  refine mm_putrF C fl_X4_55 (mm_dec dk_X4_init 43 rfl) rfl rfl rfl hnm rfl (fun q => ⟨rfl, rfl⟩) (by decide) ?_
  have i14 : mm_inp [(0, 6), (0, 7), (0, 8), (0, 9), (0, 10), (0, 11)] 54 (mm_pf h73c 46 3 1) := mm_inp_pf i73c (show 1 ≤ 1 ∧ 1 ≤ 1 by decide) (by decide +kernel)
  obtain ⟨h14, eh14⟩ : ∃ z, z = mm_pf h73c 46 3 1 := ⟨_, rfl⟩
  rw [← eh14] at i14 ⊢
  clear eh14
  exact mm_vret C T (mm_dec dk_X4_init 44 rfl) (by decide : 7 ≤ 7) (by decide : 1210 ≤ 1210) ⟨rfl, i14⟩
set_option maxRecDepth 100000 in
set_option maxHeartbeats 4000000 in
theorem c_X3_init (l : Launch) (hl : l.stackTraces = false) (d : Nat) (hd : 1 ≤ d) (h : mH) (i0 : mm_inp [(54, 0), (54, 1), (54, 2), (54, 3), (54, 4), (0, 7), (0, 8), (0, 9), (0, 10), (0, 11)] 55 h) : mm_Met l d yX3_init cX3_init 3 none [mR 54, mR 22, mR 30] h (mm_pv fun h2 => mm_inp [(0, 7), (0, 8), (0, 9), (0, 10), (0, 11)] 58 h2) mm_nx 3 90 := by
  refine mm_ofW (ls := [mR 54, mR 22, mR 30]) hl (by decide) rfl (Nat.le_of_ble_eq_true rfl) ?_
  intro x hxl C T hnm htb
  subst hxl
  have C1 := mm_OK_le (d' := d - 1 + 1) (by omega) C
  refine mm_aload_n C (mm_dec dk_X3_init 0 rfl) rfl ?_
  refine mm_objInit C1 ml_X3_3 im_obj co_obj (mm_dec dk_X3_init 1 rfl) (Nat.le_of_ble_eq_true rfl) ?_
  refine mm_aload_n C (mm_dec dk_X3_init 2 rfl) rfl ?_
  refine mm_bipush C (mm_dec dk_X3_init 3 rfl) ⟨by decide, by decide⟩ ?_
  refine mm_newa (atype := .int) (n := 55) (len := 40) C ac_int (mm_dec dk_X3_init 4 rfl) i0.2.2 (by decide) rfl (Or.inl ⟨rfl, rfl⟩) rfl (by decide) (by decide) (by decide) ?_
  have i1 : mm_inp [(54, 0), (54, 1), (54, 2), (54, 3), (54, 4), (0, 7), (0, 8), (0, 9), (0, 10), (0, 11)] 56 (mm_nw h) := mm_inp_nw i0 (by decide) rfl (by decide +kernel) (by decide +kernel)
  obtain ⟨h1, eh1⟩ : ∃ z, z = mm_nw h := ⟨_, rfl⟩
  rw [← eh1] at i1 ⊢
  clear eh1
  refine mm_putrF C fl_X3_9 (mm_dec dk_X3_init 5 rfl) rfl rfl rfl hnm rfl (fun q => ⟨rfl, rfl⟩) (by decide) ?_
  have i2 : mm_inp [(54, 0), (54, 1), (54, 3), (54, 4), (0, 7), (0, 8), (0, 9), (0, 10), (0, 11)] 56 (mm_pf h1 54 2 1) := mm_inp_pf i1 (show 1 ≤ 1 ∧ 1 ≤ 1 by decide) (by decide +kernel)
  obtain ⟨h2, eh2⟩ : ∃ z, z = mm_pf h1 54 2 1 := ⟨_, rfl⟩
  rw [← eh2] at i2 ⊢
  clear eh2
  refine mm_aload_n C (mm_dec dk_X3_init 6 rfl) rfl ?_
  refine mm_bipush C (mm_dec dk_X3_init 7 rfl) ⟨by decide, by decide⟩ ?_
  refine mm_newa (atype := .int) (n := 56) (len := 40) C ac_int (mm_dec dk_X3_init 8 rfl) i2.2.2 (by decide) rfl (Or.inl ⟨rfl, rfl⟩) rfl (by decide) (by decide) (by decide) ?_
  have i3 : mm_inp [(54, 0), (54, 1), (54, 3), (54, 4), (0, 7), (0, 8), (0, 9), (0, 10), (0, 11)] 57 (mm_nw h2) := mm_inp_nw i2 (by decide) rfl (by decide +kernel) (by decide +kernel)
  obtain ⟨h3, eh3⟩ : ∃ z, z = mm_nw h2 := ⟨_, rfl⟩
  rw [← eh3] at i3 ⊢
  clear eh3
  refine mm_putrF C fl_X3_15 (mm_dec dk_X3_init 9 rfl) rfl rfl rfl hnm rfl (fun q => ⟨rfl, rfl⟩) (by decide) ?_
  have i4 : mm_inp [(54, 0), (54, 1), (54, 4), (0, 7), (0, 8), (0, 9), (0, 10), (0, 11)] 57 (mm_pf h3 54 3 1) := mm_inp_pf i3 (show 1 ≤ 1 ∧ 1 ≤ 1 by decide) (by decide +kernel)
  obtain ⟨h4, eh4⟩ : ∃ z, z = mm_pf h3 54 3 1 := ⟨_, rfl⟩
  rw [← eh4] at i4 ⊢
  clear eh4
  refine mm_aload_n C (mm_dec dk_X3_init 10 rfl) rfl ?_
  refine mm_bipush C (mm_dec dk_X3_init 11 rfl) ⟨by decide, by decide⟩ ?_
  refine mm_newa (atype := .int) (n := 57) (len := 10) C ac_int (mm_dec dk_X3_init 12 rfl) i4.2.2 (by decide) rfl (Or.inl ⟨rfl, rfl⟩) rfl (by decide) (by decide) (by decide) ?_
  have i5 : mm_inp [(54, 0), (54, 1), (54, 4), (0, 7), (0, 8), (0, 9), (0, 10), (0, 11)] 58 (mm_nw h4) := mm_inp_nw i4 (by decide) rfl (by decide +kernel) (by decide +kernel)
  obtain ⟨h5, eh5⟩ : ∃ z, z = mm_nw h4 := ⟨_, rfl⟩
  rw [← eh5] at i5 ⊢
  clear eh5
  refine mm_putrF C fl_X3_18 (mm_dec dk_X3_init 13 rfl) rfl rfl rfl hnm rfl (fun q => ⟨rfl, rfl⟩) (by decide) ?_
  have i6 : mm_inp [(54, 0), (54, 1), (0, 7), (0, 8), (0, 9), (0, 10), (0, 11)] 58 (mm_pf h5 54 4 1) := mm_inp_pf i5 (show 1 ≤ 1 ∧ 1 ≤ 1 by decide) (by decide +kernel)
  obtain ⟨h6, eh6⟩ : ∃ z, z = mm_pf h5 54 4 1 := ⟨_, rfl⟩
  rw [← eh6] at i6 ⊢
  clear eh6
  refine mm_aload_n C (mm_dec dk_X3_init 14 rfl) rfl ?_
  refine mm_iconst C (mm_dec dk_X3_init 15 rfl) ⟨by decide, by decide⟩ ?_
  refine mm_puti C fl_X3_21 (mm_dec dk_X3_init 16 rfl) rfl rfl rfl (Or.inl ⟨rfl, rfl⟩) ?_
  have i7 : mm_inp [(54, 0), (54, 1), (0, 7), (0, 8), (0, 9), (0, 10), (0, 11)] 58 (mm_pf h6 54 5 0) := mm_inp_pf i6 (show 0 ≤ 0 ∧ 0 ≤ 40 by decide) (by decide +kernel)
  obtain ⟨h7, eh7⟩ : ∃ z, z = mm_pf h6 54 5 0 := ⟨_, rfl⟩
  rw [← eh7] at i7 ⊢
  clear eh7
  refine mm_aload_n C (mm_dec dk_X3_init 17 rfl) rfl ?_
  refine mm_aload_n C (mm_dec dk_X3_init 18 rfl) rfl ?_
  refine mm_putrF C fl_X3_25 (mm_dec dk_X3_init 19 rfl) rfl rfl rfl hnm rfl (fun q => ⟨rfl, rfl⟩) (by decide) ?_
  have i8 : mm_inp [(54, 1), (0, 7), (0, 8), (0, 9), (0, 10), (0, 11)] 58 (mm_pf h7 54 0 1) := mm_inp_pf i7 (show 1 ≤ 1 ∧ 1 ≤ 1 by decide) (by decide +kernel)
  obtain ⟨h8, eh8⟩ : ∃ z, z = mm_pf h7 54 0 1 := ⟨_, rfl⟩
  rw [← eh8] at i8 ⊢
  clear eh8
  refine mm_aload_n C (mm_dec dk_X3_init 20 rfl) rfl ?_
  refine mm_aload_n C (mm_dec dk_X3_init 21 rfl) rfl ?_
  refine mm_putrF C fl_X3_29 (mm_dec dk_X3_init 22 rfl) rfl rfl rfl hnm rfl (fun q => ⟨rfl, rfl⟩) (by decide) ?_
  have i9 : mm_inp [(0, 7), (0, 8), (0, 9), (0, 10), (0, 11)] 58 (mm_pf h8 54 1 1) := mm_inp_pf i8 (show 1 ≤ 1 ∧ 1 ≤ 1 by decide) (by decide +kernel)
  obtain ⟨h9, eh9⟩ : ∃ z, z = mm_pf h8 54 1 1 := ⟨_, rfl⟩
  rw [← eh9] at i9 ⊢
  clear eh9
  exact mm_vret C T (mm_dec dk_X3_init 23 rfl) (by decide : 3 ≤ 3) (by decide : 90 ≤ 90) ⟨rfl, i9⟩
set_option maxRecDepth 100000 in
set_option maxHeartbeats 4000000 in
theorem c_X0_init (l : Launch) (hl : l.stackTraces = false) (d : Nat) (hd : 1 ≤ d) (h : mH) (i0 : mm_inp [(58, 0), (58, 1), (58, 2), (58, 3), (58, 4), (0, 8), (0, 9), (0, 10), (0, 11)] 59 h) : mm_Met l d yX0_init cX0_init 4 none [mR 58, mR 1, mR 7, mR 14] h (mm_pv fun h2 => mm_inp [(0, 8), (0, 9), (0, 10), (0, 11)] 61 h2) mm_nx 2 181 := by
  refine mm_ofW (ls := [mR 58, mR 1, mR 7, mR 14]) hl (by decide) rfl (Nat.le_of_ble_eq_true rfl) ?_
  intro x hxl C T hnm htb
  subst hxl
  have C1 := mm_OK_le (d' := d - 1 + 1) (by omega) C
  refine mm_aload_n C (mm_dec dk_X0_init 0 rfl) rfl ?_
  refine mm_objInit C1 ml_X0_3 im_obj co_obj (mm_dec dk_X0_init 1 rfl) (Nat.le_of_ble_eq_true rfl) ?_
  refine mm_aload_n C (mm_dec dk_X0_init 2 rfl) rfl ?_
  refine mm_sipush C (mm_dec dk_X0_init 3 rfl) ⟨by decide, by decide⟩ ?_
  refine mm_newa (atype := .int) (n := 59) (len := 169) C ac_int (mm_dec dk_X0_init 4 rfl) i0.2.2 (by decide) rfl (Or.inl ⟨rfl, rfl⟩) rfl (by decide) (by decide) (by decide) ?_
  have i1 : mm_inp [(58, 0), (58, 1), (58, 2), (58, 3), (58, 4), (0, 8), (0, 9), (0, 10), (0, 11)] 60 (mm_nw h) := mm_inp_nw i0 (by decide) rfl (by decide +kernel) (by decide +kernel)
  obtain ⟨h1, eh1⟩ : ∃ z, z = mm_nw h := ⟨_, rfl⟩
  rw [← eh1] at i1 ⊢
  clear eh1
  refine mm_putrF C fl_X0_11 (mm_dec dk_X0_init 5 rfl) rfl rfl rfl hnm rfl (fun q => ⟨rfl, rfl⟩) (by decide) ?_
  have i2 : mm_inp [(58, 0), (58, 1), (58, 2), (58, 4), (0, 8), (0, 9), (0, 10), (0, 11)] 60 (mm_pf h1 58 3 1) := mm_inp_pf i1 (show 1 ≤ 1 ∧ 1 ≤ 1 by decide) (by decide +kernel)
  obtain ⟨h2, eh2⟩ : ∃ z, z = mm_pf h1 58 3 1 := ⟨_, rfl⟩
  rw [← eh2] at i2 ⊢
  clear eh2
  refine mm_aload_n C (mm_dec dk_X0_init 6 rfl) rfl ?_
  refine mm_bipush C (mm_dec dk_X0_init 7 rfl) ⟨by decide, by decide⟩ ?_
  refine mm_newa (atype := .int) (n := 60) (len := 12) C ac_int (mm_dec dk_X0_init 8 rfl) i2.2.2 (by decide) rfl (Or.inl ⟨rfl, rfl⟩) rfl (by decide) (by decide) (by decide) ?_
  have i3 : mm_inp [(58, 0), (58, 1), (58, 2), (58, 4), (0, 8), (0, 9), (0, 10), (0, 11)] 61 (mm_nw h2) := mm_inp_nw i2 (by decide) rfl (by decide +kernel) (by decide +kernel)
  obtain ⟨h3, eh3⟩ : ∃ z, z = mm_nw h2 := ⟨_, rfl⟩
  rw [← eh3] at i3 ⊢
  clear eh3
  refine mm_putrF C fl_X0_15 (mm_dec dk_X0_init 9 rfl) rfl rfl rfl hnm rfl (fun q => ⟨rfl, rfl⟩) (by decide) ?_
  have i4 : mm_inp [(58, 0), (58, 1), (58, 2), (0, 8), (0, 9), (0, 10), (0, 11)] 61 (mm_pf h3 58 4 1) := mm_inp_pf i3 (show 1 ≤ 1 ∧ 1 ≤ 1 by decide) (by decide +kernel)
  obtain ⟨h4, eh4⟩ : ∃ z, z = mm_pf h3 58 4 1 := ⟨_, rfl⟩
  rw [← eh4] at i4 ⊢
  clear eh4
  refine mm_aload_n C (mm_dec dk_X0_init 10 rfl) rfl ?_
  refine mm_null C (mm_dec dk_X0_init 11 rfl) ?_
  refine mm_putn (t := 125) C fl_X0_18 (mm_dec dk_X0_init 12 rfl) rfl rfl rfl ⟨rfl, rfl⟩ ?_
  have i5 : mm_inp [(58, 0), (58, 1), (58, 2), (0, 8), (0, 9), (0, 10), (0, 11)] 61 (mm_pf h4 58 5 0) := mm_inp_pf i4 (show 0 ≤ 0 ∧ 0 ≤ 0 by decide) (by decide +kernel)
  obtain ⟨h5, eh5⟩ : ∃ z, z = mm_pf h4 58 5 0 := ⟨_, rfl⟩
  rw [← eh5] at i5 ⊢
  clear eh5
  refine mm_aload_n C (mm_dec dk_X0_init 13 rfl) rfl ?_
  refine mm_iconst C (mm_dec dk_X0_init 14 rfl) ⟨by decide, by decide⟩ ?_
  refine mm_puti C fl_X0_21 (mm_dec dk_X0_init 15 rfl) rfl rfl rfl (Or.inl ⟨rfl, rfl⟩) ?_
  have i6 : mm_inp [(58, 0), (58, 1), (58, 2), (0, 8), (0, 9), (0, 10), (0, 11)] 61 (mm_pf h5 58 6 0) := mm_inp_pf i5 (show 0 ≤ 0 ∧ 0 ≤ 12 by decide) (by decide +kernel)
  obtain ⟨h6, eh6⟩ : ∃ z, z = mm_pf h5 58 6 0 := ⟨_, rfl⟩
  rw [← eh6] at i6 ⊢
  clear eh6
  refine mm_aload_n C (mm_dec dk_X0_init 16 rfl) rfl ?_
  refine mm_iconst C (mm_dec dk_X0_init 17 rfl) ⟨by decide, by decide⟩ ?_
  refine mm_puti C fl_X0_25 (mm_dec dk_X0_init 18 rfl) rfl rfl rfl (Or.inl ⟨rfl, rfl⟩) ?_
  have i7 : mm_inp [(58, 0), (58, 1), (58, 2), (0, 8), (0, 9), (0, 10), (0, 11)] 61 (mm_pf h6 58 7 0) := mm_inp_pf i6 (show -2147483648 ≤ 0 ∧ 0 ≤ 2147483647 by decide) (by decide +kernel)
  obtain ⟨h7, eh7⟩ : ∃ z, z = mm_pf h6 58 7 0 := ⟨_, rfl⟩
  rw [← eh7] at i7 ⊢
  clear eh7
  refine mm_aload_n C (mm_dec dk_X0_init 19 rfl) rfl ?_
  refine mm_iconst C (mm_dec dk_X0_init 20 rfl) ⟨by decide, by decide⟩ ?_
  refine mm_puti C fl_X0_28 (mm_dec dk_X0_init 21 rfl) rfl rfl rfl (Or.inl ⟨rfl, rfl⟩) ?_
  have i8 : mm_inp [(58, 0), (58, 1), (58, 2), (0, 8), (0, 9), (0, 10), (0, 11)] 61 (mm_pf h7 58 8 0) := mm_inp_pf i7 (show 0 ≤ 0 ∧ 0 ≤ 0 by decide) (by decide +kernel)
  obtain ⟨h8, eh8⟩ : ∃ z, z = mm_pf h7 58 8 0 := ⟨_, rfl⟩
  rw [← eh8] at i8 ⊢
  clear eh8
  refine mm_aload_n C (mm_dec dk_X0_init 22 rfl) rfl ?_
  refine mm_iconst C (mm_dec dk_X0_init 23 rfl) ⟨by decide, by decide⟩ ?_
  refine mm_puti C fl_X0_31 (mm_dec dk_X0_init 24 rfl) rfl rfl rfl (Or.inl ⟨rfl, rfl⟩) ?_
  have i9 : mm_inp [(58, 0), (58, 1), (58, 2), (0, 8), (0, 9), (0, 10), (0, 11)] 61 (mm_pf h8 58 9 0) := mm_inp_pf i8 (show 0 ≤ 0 ∧ 0 ≤ 0 by decide) (by decide +kernel)
  obtain ⟨h9, eh9⟩ : ∃ z, z = mm_pf h8 58 9 0 := ⟨_, rfl⟩
  rw [← eh9] at i9 ⊢
  clear eh9
  refine mm_aload_n C (mm_dec dk_X0_init 25 rfl) rfl ?_
  refine mm_iconst C (mm_dec dk_X0_init 26 rfl) ⟨by decide, by decide⟩ ?_
  refine mm_puti C fl_X0_34 (mm_dec dk_X0_init 27 rfl) rfl rfl rfl (Or.inr ⟨rfl, rfl, by omega⟩) ?_
  have i10 : mm_inp [(58, 0), (58, 1), (58, 2), (0, 8), (0, 9), (0, 10), (0, 11)] 61 (mm_pf h9 58 10 0) := mm_inp_pf i9 (show 0 ≤ 0 ∧ 0 ≤ 0 by decide) (by decide +kernel)
  obtain ⟨h10, eh10⟩ : ∃ z, z = mm_pf h9 58 10 0 := ⟨_, rfl⟩
  rw [← eh10] at i10 ⊢
  clear eh10
  refine mm_aload_n C (mm_dec dk_X0_init 28 rfl) rfl ?_
  refine mm_aload_n C (mm_dec dk_X0_init 29 rfl) rfl ?_
  refine mm_putrF C fl_X0_38 (mm_dec dk_X0_init 30 rfl) rfl rfl rfl hnm rfl (fun q => ⟨rfl, rfl⟩) (by decide) ?_
  have i11 : mm_inp [(58, 1), (58, 2), (0, 8), (0, 9), (0, 10), (0, 11)] 61 (mm_pf h10 58 0 1) := mm_inp_pf i10 (show 1 ≤ 1 ∧ 1 ≤ 1 by decide) (by decide +kernel)
  obtain ⟨h11, eh11⟩ : ∃ z, z = mm_pf h10 58 0 1 := ⟨_, rfl⟩
  rw [← eh11] at i11 ⊢
  clear eh11
  refine mm_aload_n C (mm_dec dk_X0_init 31 rfl) rfl ?_
  refine mm_aload_n C (mm_dec dk_X0_init 32 rfl) rfl ?_
  refine mm_putrF C fl_X0_42 (mm_dec dk_X0_init 33 rfl) rfl rfl rfl hnm rfl (fun q => ⟨rfl, rfl⟩) (by decide) ?_
  have i12 : mm_inp [(58, 2), (0, 8), (0, 9), (0, 10), (0, 11)] 61 (mm_pf h11 58 1 1) := mm_inp_pf i11 (show 1 ≤ 1 ∧ 1 ≤ 1 by decide) (by decide +kernel)
  obtain ⟨h12, eh12⟩ : ∃ z, z = mm_pf h11 58 1 1 := ⟨_, rfl⟩
  rw [← eh12] at i12 ⊢
  clear eh12
  refine mm_aload_n C (mm_dec dk_X0_init 34 rfl) rfl ?_
  refine mm_aload_n C (mm_dec dk_X0_init 35 rfl) rfl ?_
  refine mm_putrF C fl_X0_46 (mm_dec dk_X0_init 36 rfl) rfl rfl rfl hnm rfl (fun q => ⟨rfl, rfl⟩) (by decide) ?_
  have i13 : mm_inp [(0, 8), (0, 9), (0, 10), (0, 11)] 61 (mm_pf h12 58 2 1) := mm_inp_pf i12 (show 1 ≤ 1 ∧ 1 ≤ 1 by decide) (by decide +kernel)
  obtain ⟨h13, eh13⟩ : ∃ z, z = mm_pf h12 58 2 1 := ⟨_, rfl⟩
  rw [← eh13] at i13 ⊢
  clear eh13
  exact mm_vret C T (mm_dec dk_X0_init 37 rfl) (by decide : 2 ≤ 2) (by decide : 181 ≤ 181) ⟨rfl, i13⟩
set_option maxRecDepth 100000 in
set_option maxHeartbeats 4000000 in
theorem c_X7_init (l : Launch) (hl : l.stackTraces = false) (d : Nat) (hd : 1 ≤ d) (h : mH) (i0 : mm_inp [(63, 0), (63, 1), (63, 2), (0, 11)] 64 h) : mm_Met l d yX7_init cX7_init 2 none [mR 63, mR 62] h (mm_pv fun h2 => mm_inp [(0, 11)] 66 h2) mm_nx 2 503 := by
  refine mm_ofW (ls := [mR 63, mR 62]) hl (by decide) rfl (Nat.le_of_ble_eq_true rfl) ?_
  intro x hxl C T hnm htb
  subst hxl
  have C1 := mm_OK_le (d' := d - 1 + 1) (by omega) C
  refine mm_aload_n C (mm_dec dk_X7_init 0 rfl) rfl ?_
  refine mm_objInit C1 ml_X7_5 im_obj co_obj (mm_dec dk_X7_init 1 rfl) (Nat.le_of_ble_eq_true rfl) ?_
  refine mm_aload_n C (mm_dec dk_X7_init 2 rfl) rfl ?_
  refine mm_sipush C (mm_dec dk_X7_init 3 rfl) ⟨by decide, by decide⟩ ?_
  refine mm_newa (atype := .int) (n := 64) (len := 500) C ac_int (mm_dec dk_X7_init 4 rfl) i0.2.2 (by decide) rfl (Or.inl ⟨rfl, rfl⟩) rfl (by decide) (by decide) (by decide) ?_
  have i1 : mm_inp [(63, 0), (63, 1), (63, 2), (0, 11)] 65 (mm_nw h) := mm_inp_nw i0 (by decide) rfl (by decide +kernel) (by decide +kernel)
  obtain ⟨h1, eh1⟩ : ∃ z, z = mm_nw h := ⟨_, rfl⟩
  rw [← eh1] at i1 ⊢
  clear eh1
  refine mm_putrF C fl_X7_11 (mm_dec dk_X7_init 5 rfl) rfl rfl rfl hnm rfl (fun q => ⟨rfl, rfl⟩) (by decide) ?_
  have i2 : mm_inp [(63, 0), (63, 2), (0, 11)] 65 (mm_pf h1 63 1 1) := mm_inp_pf i1 (show 1 ≤ 1 ∧ 1 ≤ 1 by decide) (by decide +kernel)
  obtain ⟨h2, eh2⟩ : ∃ z, z = mm_pf h1 63 1 1 := ⟨_, rfl⟩
  rw [← eh2] at i2 ⊢
  clear eh2
  refine mm_aload_n C (mm_dec dk_X7_init 6 rfl) rfl ?_
  refine mm_iconst C (mm_dec dk_X7_init 7 rfl) ⟨by decide, by decide⟩ ?_
  refine mm_newa (atype := .int) (n := 65) (len := 3) C ac_int (mm_dec dk_X7_init 8 rfl) i2.2.2 (by decide) rfl (Or.inl ⟨rfl, rfl⟩) rfl (by decide) (by decide) (by decide) ?_
  have i3 : mm_inp [(63, 0), (63, 2), (0, 11)] 66 (mm_nw h2) := mm_inp_nw i2 (by decide) rfl (by decide +kernel) (by decide +kernel)
  obtain ⟨h3, eh3⟩ : ∃ z, z = mm_nw h2 := ⟨_, rfl⟩
  rw [← eh3] at i3 ⊢
  clear eh3
  refine mm_putrF C fl_X7_15 (mm_dec dk_X7_init 9 rfl) rfl rfl rfl hnm rfl (fun q => ⟨rfl, rfl⟩) (by decide) ?_
  have i4 : mm_inp [(63, 0), (0, 11)] 66 (mm_pf h3 63 2 1) := mm_inp_pf i3 (show 1 ≤ 1 ∧ 1 ≤ 1 by decide) (by decide +kernel)
  obtain ⟨h4, eh4⟩ : ∃ z, z = mm_pf h3 63 2 1 := ⟨_, rfl⟩
  rw [← eh4] at i4 ⊢
  clear eh4
  refine mm_aload_n C (mm_dec dk_X7_init 10 rfl) rfl ?_
  refine mm_iconst C (mm_dec dk_X7_init 11 rfl) ⟨by decide, by decide⟩ ?_
  refine mm_puti C fl_X7_18 (mm_dec dk_X7_init 12 rfl) rfl rfl rfl (Or.inl ⟨rfl, rfl⟩) ?_
  have i5 : mm_inp [(63, 0), (0, 11)] 66 (mm_pf h4 63 3 0) := mm_inp_pf i4 (show 0 ≤ 0 ∧ 0 ≤ 500 by decide) (by decide +kernel)
  obtain ⟨h5, eh5⟩ : ∃ z, z = mm_pf h4 63 3 0 := ⟨_, rfl⟩
  rw [← eh5] at i5 ⊢
  clear eh5
  refine mm_aload_n C (mm_dec dk_X7_init 13 rfl) rfl ?_
  refine mm_iconst C (mm_dec dk_X7_init 14 rfl) ⟨by decide, by decide⟩ ?_
  refine mm_puti C fl_X7_22 (mm_dec dk_X7_init 15 rfl) rfl rfl rfl (Or.inl ⟨rfl, rfl⟩) ?_
  have i6 : mm_inp [(63, 0), (0, 11)] 66 (mm_pf h5 63 4 0) := mm_inp_pf i5 (show 0 ≤ 0 ∧ 0 ≤ 500 by decide) (by decide +kernel)
  obtain ⟨h6, eh6⟩ : ∃ z, z = mm_pf h5 63 4 0 := ⟨_, rfl⟩
  rw [← eh6] at i6 ⊢
  clear eh6
  refine mm_aload_n C (mm_dec dk_X7_init 16 rfl) rfl ?_
  refine mm_iconst C (mm_dec dk_X7_init 17 rfl) ⟨by decide, by decide⟩ ?_
  refine mm_puti C fl_X7_25 (mm_dec dk_X7_init 18 rfl) rfl rfl rfl (Or.inl ⟨rfl, rfl⟩) ?_
  have i7 : mm_inp [(63, 0), (0, 11)] 66 (mm_pf h6 63 5 0) := mm_inp_pf i6 (show -2147483648 ≤ 0 ∧ 0 ≤ 2147483647 by decide) (by decide +kernel)
  obtain ⟨h7, eh7⟩ : ∃ z, z = mm_pf h6 63 5 0 := ⟨_, rfl⟩
  rw [← eh7] at i7 ⊢
  clear eh7
  refine mm_aload_n C (mm_dec dk_X7_init 19 rfl) rfl ?_
  refine mm_iconst C (mm_dec dk_X7_init 20 rfl) ⟨by decide, by decide⟩ ?_
  refine mm_puti C fl_X7_28 (mm_dec dk_X7_init 21 rfl) rfl rfl rfl (Or.inl ⟨rfl, rfl⟩) ?_
  have i8 : mm_inp [(63, 0), (0, 11)] 66 (mm_pf h7 63 6 (-1)) := mm_inp_pf i7 (show -2147483648 ≤ (-1) ∧ (-1) ≤ 2147483647 by decide) (by decide +kernel)
  obtain ⟨h8, eh8⟩ : ∃ z, z = mm_pf h7 63 6 (-1) := ⟨_, rfl⟩
  rw [← eh8] at i8 ⊢
  clear eh8
  refine mm_aload_n C (mm_dec dk_X7_init 22 rfl) rfl ?_
  refine mm_iconst C (mm_dec dk_X7_init 23 rfl) ⟨by decide, by decide⟩ ?_
  refine mm_puti C fl_X7_31 (mm_dec dk_X7_init 24 rfl) rfl rfl rfl (Or.inl ⟨rfl, rfl⟩) ?_
  have i9 : mm_inp [(63, 0), (0, 11)] 66 (mm_pf h8 63 7 0) := mm_inp_pf i8 (show 0 ≤ 0 ∧ 0 ≤ 500 by decide) (by decide +kernel)
  obtain ⟨h9, eh9⟩ : ∃ z, z = mm_pf h8 63 7 0 := ⟨_, rfl⟩
  rw [← eh9] at i9 ⊢
  clear eh9
  refine mm_aload_n C (mm_dec dk_X7_init 25 rfl) rfl ?_
  refine mm_iconst C (mm_dec dk_X7_init 26 rfl) ⟨by decide, by decide⟩ ?_
  refine mm_puti C fl_X7_34 (mm_dec dk_X7_init 27 rfl) rfl rfl rfl (Or.inl ⟨rfl, rfl⟩) ?_
  have i10 : mm_inp [(63, 0), (0, 11)] 66 (mm_pf h9 63 8 0) := mm_inp_pf i9 (show 0 ≤ 0 ∧ 0 ≤ 500 by decide) (by decide +kernel)
  obtain ⟨h10, eh10⟩ : ∃ z, z = mm_pf h9 63 8 0 := ⟨_, rfl⟩
  rw [← eh10] at i10 ⊢
  clear eh10
  refine mm_aload_n C (mm_dec dk_X7_init 28 rfl) rfl ?_
  refine mm_iconst C (mm_dec dk_X7_init 29 rfl) ⟨by decide, by decide⟩ ?_
  refine mm_puti C fl_X7_37 (mm_dec dk_X7_init 30 rfl) rfl rfl rfl (Or.inl ⟨rfl, rfl⟩) ?_
  have i11 : mm_inp [(63, 0), (0, 11)] 66 (mm_pf h10 63 9 0) := mm_inp_pf i10 (show -2147483648 ≤ 0 ∧ 0 ≤ 2147483647 by decide) (by decide +kernel)
  obtain ⟨h11, eh11⟩ : ∃ z, z = mm_pf h10 63 9 0 := ⟨_, rfl⟩
  rw [← eh11] at i11 ⊢
  clear eh11
  refine mm_aload_n C (mm_dec dk_X7_init 31 rfl) rfl ?_
  refine mm_iconst C (mm_dec dk_X7_init 32 rfl) ⟨by decide, by decide⟩ ?_
  refine mm_puti C fl_X7_40 (mm_dec dk_X7_init 33 rfl) rfl rfl rfl (Or.inl ⟨rfl, rfl⟩) ?_
  have i12 : mm_inp [(63, 0), (0, 11)] 66 (mm_pf h11 63 10 (-1)) := mm_inp_pf i11 (show -2147483648 ≤ (-1) ∧ (-1) ≤ 2147483647 by decide) (by decide +kernel)
  obtain ⟨h12, eh12⟩ : ∃ z, z = mm_pf h11 63 10 (-1) := ⟨_, rfl⟩
  rw [← eh12] at i12 ⊢
  clear eh12
  refine mm_aload_n C (mm_dec dk_X7_init 34 rfl) rfl ?_
  refine mm_aload_n C (mm_dec dk_X7_init 35 rfl) rfl ?_
  refine mm_putrF C fl_X7_43 (mm_dec dk_X7_init 36 rfl) rfl rfl rfl hnm rfl (fun q => ⟨rfl, rfl⟩) (by decide) ?_
  have i13 : mm_inp [(0, 11)] 66 (mm_pf h12 63 0 1) := mm_inp_pf i12 (show 1 ≤ 1 ∧ 1 ≤ 1 by decide) (by decide +kernel)
  obtain ⟨h13, eh13⟩ : ∃ z, z = mm_pf h12 63 0 1 := ⟨_, rfl⟩
  rw [← eh13] at i13 ⊢
  clear eh13
  exact mm_vret C T (mm_dec dk_X7_init 37 rfl) (by decide : 2 ≤ 2) (by decide : 503 ≤ 503) ⟨rfl, i13⟩
set_option maxRecDepth 100000 in
set_option maxHeartbeats 4000000 in
theorem c_X11_init (l : Launch) (hl : l.stackTraces = false) (d : Nat) (hd : 3 ≤ d) (h : mH) (i0 : mm_inp [(0, 0), (0, 1), (0, 2), (0, 3), (0, 4), (0, 5), (0, 6), (0, 7), (0, 8), (0, 9), (0, 10), (0, 11)] 1 h) : mm_Met l d yX11_init cX11_init 1 none [mR 0] h (mm_pv fun h2 => mm_inp [] 66 h2 ∧ mm_al h2 2 399 0 ∧ mm_al h2 6 7 5 ∧ mm_al h2 3 399 0 ∧ mm_al h2 4 399 0 ∧ mm_al h2 5 399 0 ∧ h2.2.1 6 8 = 2) mm_nx 65 11003 := by
  refine mm_ofW (ls := [mR 0]) hl (by decide) rfl (Nat.le_of_ble_eq_true rfl) ?_
  intro x hxl C T hnm htb
  subst hxl
  have C1 := mm_OK_le (d' := d - 1 + 1) (by omega) C
  refine mm_aload_n C (mm_dec dk_X11_init 0 rfl) rfl ?_
  refine mm_objInit C1 ml_X11_3 im_obj co_obj (mm_dec dk_X11_init 1 rfl) (Nat.le_of_ble_eq_true rfl) ?_
  refine mm_aload_n C (mm_dec dk_X11_init 2 rfl) rfl ?_
  refine mm_new (n := 1) C mm_cl_5 ck_X11_9 ci_5 cn_5 (mm_dec dk_X11_init 3 rfl) i0.2.2 (by decide) rfl (mm_df_5 _ rfl) (by decide) (by decide) ?_
  have i1 : mm_inp [(1, 0), (1, 1), (1, 2), (1, 3), (1, 4), (1, 5), (1, 6), (0, 0), (0, 1), (0, 2), (0, 3), (0, 4), (0, 5), (0, 6), (0, 7), (0, 8), (0, 9), (0, 10), (0, 11)] 2 (mm_nw h) := mm_inp_nw i0 (by decide) rfl (by decide +kernel) (by decide +kernel)
  obtain ⟨h1, eh1⟩ : ∃ z, z = mm_nw h := ⟨_, rfl⟩
  rw [← eh1] at i1 ⊢
  clear eh1
  refine mm_dup C (mm_dec dk_X11_init 4 rfl) (show (2 : Nat) ≠ 1 by decide) ?_
  refine mm_callIN (host := "MapRun") (rest := [mR 1, mR 0]) C1 mw_X5_init (by decide) im_X5_init rfl (c_X5_init x.2.1 hl (d - 1) (by omega) h1 i1) (mm_dec dk_X11_init 5 rfl) rfl (Nat.le_of_ble_eq_true rfl) ⟨by decide, by decide⟩ rfl (fun v9 h9c hp9 => ?_)
  obtain ⟨rfl, i9c⟩ := hp9
  show mm_W _ _ _ _ _ [mR 1, mR 0] _
  refine mm_putrF C fl_X11_12 (mm_dec dk_X11_init 6 rfl) rfl rfl rfl hnm rfl (fun q => ⟨rfl, rfl⟩) (by decide) ?_
  have i2 : mm_inp [(0, 1), (0, 2), (0, 3), (0, 4), (0, 5), (0, 6), (0, 7), (0, 8), (0, 9), (0, 10), (0, 11)] 7 (mm_pf h9c 0 0 1) := mm_inp_pf i9c (show 1 ≤ 1 ∧ 1 ≤ 1 by decide) (by decide +kernel)
  obtain ⟨h2, eh2⟩ : ∃ z, z = mm_pf h9c 0 0 1 := ⟨_, rfl⟩
  rw [← eh2] at i2 ⊢
  clear eh2
  refine mm_aload_n C (mm_dec dk_X11_init 7 rfl) rfl ?_
  refine mm_new (n := 7) C mm_cl_10 ck_X11_16 ci_10 cn_10 (mm_dec dk_X11_init 8 rfl) i2.2.2 (by decide) rfl (mm_df_10 _ rfl) (by decide) (by decide) ?_
  have i3 : mm_inp [(7, 0), (7, 1), (7, 2), (7, 3), (7, 4), (7, 5), (7, 6), (0, 1), (0, 2), (0, 3), (0, 4), (0, 5), (0, 6), (0, 7), (0, 8), (0, 9), (0, 10), (0, 11)] 8 (mm_nw h2) := mm_inp_nw i2 (by decide) rfl (by decide +kernel) (by decide +kernel)
  obtain ⟨h3, eh3⟩ : ∃ z, z = mm_nw h2 := ⟨_, rfl⟩
  rw [← eh3] at i3 ⊢
  clear eh3
  refine mm_dup C (mm_dec dk_X11_init 9 rfl) (show (2 : Nat) ≠ 1 by decide) ?_
  refine mm_aload_n C (mm_dec dk_X11_init 10 rfl) rfl ?_
  refine mm_getr (t := 1) C fl_X11_12 (mm_dec dk_X11_init 11 rfl) rfl rfl (mm_inp_ref i3 (by decide +kernel)) ?_
  refine mm_callI (rest := [mR 7, mR 0]) C1 mw_X10_init ml_X11_18 im_X10_init rfl (c_X10_init x.2.1 hl (d - 1) (by omega) h3 i3) (mm_dec dk_X11_init 12 rfl) rfl (Nat.le_of_ble_eq_true rfl) ⟨by decide, by decide⟩ rfl (fun v24 h24c hp24 => ?_)
  obtain ⟨rfl, i24c⟩ := hp24
  show mm_W _ _ _ _ _ [mR 7, mR 0] _
  refine mm_putrF C fl_X11_21 (mm_dec dk_X11_init 13 rfl) rfl rfl rfl hnm rfl (fun q => ⟨rfl, rfl⟩) (by decide) ?_
  have i4 : mm_inp [(0, 2), (0, 3), (0, 4), (0, 5), (0, 6), (0, 7), (0, 8), (0, 9), (0, 10), (0, 11)] 14 (mm_pf h24c 0 1 1) := mm_inp_pf i24c (show 1 ≤ 1 ∧ 1 ≤ 1 by decide) (by decide +kernel)
  obtain ⟨h4, eh4⟩ : ∃ z, z = mm_pf h24c 0 1 1 := ⟨_, rfl⟩
  rw [← eh4] at i4 ⊢
  clear eh4
  refine mm_aload_n C (mm_dec dk_X11_init 14 rfl) rfl ?_
  refine mm_new (n := 14) C mm_cl_2 ck_X11_25 ci_2 cn_2 (mm_dec dk_X11_init 15 rfl) i4.2.2 (by decide) rfl (mm_df_2 _ rfl) (by decide) (by decide) ?_
  have i5 : mm_inp [(14, 0), (14, 1), (14, 2), (14, 3), (14, 4), (14, 5), (14, 6), (0, 2), (0, 3), (0, 4), (0, 5), (0, 6), (0, 7), (0, 8), (0, 9), (0, 10), (0, 11)] 15 (mm_nw h4) := mm_inp_nw i4 (by decide) rfl (by decide +kernel) (by decide +kernel)
  obtain ⟨h5, eh5⟩ : ∃ z, z = mm_nw h4 := ⟨_, rfl⟩
  rw [← eh5] at i5 ⊢
  clear eh5
  refine mm_dup C (mm_dec dk_X11_init 16 rfl) (show (2 : Nat) ≠ 1 by decide) ?_
  refine mm_callIN (host := "MapRun") (rest := [mR 14, mR 0]) C1 mw_X2_init (by decide) im_X2_init rfl (c_X2_init x.2.1 hl (d - 1) (by omega) h5 i5) (mm_dec dk_X11_init 17 rfl) rfl (Nat.le_of_ble_eq_true rfl) ⟨by decide, by decide⟩ rfl (fun v35 h35c hp35 => ?_)
  obtain ⟨rfl, i35c⟩ := hp35
  show mm_W _ _ _ _ _ [mR 14, mR 0] _
  refine mm_putrF C fl_X11_28 (mm_dec dk_X11_init 18 rfl) rfl rfl rfl hnm rfl (fun q => ⟨rfl, rfl⟩) (by decide) ?_
  have i6 : mm_inp [(0, 3), (0, 4), (0, 5), (0, 6), (0, 7), (0, 8), (0, 9), (0, 10), (0, 11)] 22 (mm_pf h35c 0 2 1) := mm_inp_pf i35c (show 1 ≤ 1 ∧ 1 ≤ 1 by decide) (by decide +kernel)
  obtain ⟨h6, eh6⟩ : ∃ z, z = mm_pf h35c 0 2 1 := ⟨_, rfl⟩
  rw [← eh6] at i6 ⊢
  clear eh6
  refine mm_aload_n C (mm_dec dk_X11_init 19 rfl) rfl ?_
  refine mm_new (n := 22) C mm_cl_9 ck_X11_32 ci_9 cn_9 (mm_dec dk_X11_init 20 rfl) i6.2.2 (by decide) rfl (mm_df_9 _ rfl) (by decide) (by decide) ?_
  have i7 : mm_inp [(22, 0), (22, 1), (22, 2), (22, 3), (22, 4), (22, 5), (22, 6), (22, 7), (0, 3), (0, 4), (0, 5), (0, 6), (0, 7), (0, 8), (0, 9), (0, 10), (0, 11)] 23 (mm_nw h6) := mm_inp_nw i6 (by decide) rfl (by decide +kernel) (by decide +kernel)
  obtain ⟨h7, eh7⟩ : ∃ z, z = mm_nw h6 := ⟨_, rfl⟩
  rw [← eh7] at i7 ⊢
  clear eh7
  refine mm_dup C (mm_dec dk_X11_init 21 rfl) (show (2 : Nat) ≠ 1 by decide) ?_
  refine mm_aload_n C (mm_dec dk_X11_init 22 rfl) rfl ?_
  refine mm_getr (t := 14) C fl_X11_28 (mm_dec dk_X11_init 23 rfl) rfl rfl (mm_inp_ref i7 (by decide +kernel)) ?_
  refine mm_callI (rest := [mR 22, mR 0]) C1 mw_X9_init ml_X11_34 im_X9_init rfl (c_X9_init x.2.1 hl (d - 1) (by omega) h7 i7) (mm_dec dk_X11_init 24 rfl) rfl (Nat.le_of_ble_eq_true rfl) ⟨by decide, by decide⟩ rfl (fun v50 h50c hp50 => ?_)
  obtain ⟨rfl, i50c⟩ := hp50
  show mm_W _ _ _ _ _ [mR 22, mR 0] _
  refine mm_putrF C fl_X11_37 (mm_dec dk_X11_init 25 rfl) rfl rfl rfl hnm rfl (fun q => ⟨rfl, rfl⟩) (by decide) ?_
  have i8 : mm_inp [(0, 4), (0, 5), (0, 6), (0, 7), (0, 8), (0, 9), (0, 10), (0, 11)] 30 (mm_pf h50c 0 3 1) := mm_inp_pf i50c (show 1 ≤ 1 ∧ 1 ≤ 1 by decide) (by decide +kernel)
  obtain ⟨h8, eh8⟩ : ∃ z, z = mm_pf h50c 0 3 1 := ⟨_, rfl⟩
  rw [← eh8] at i8 ⊢
  clear eh8
  refine mm_aload_n C (mm_dec dk_X11_init 26 rfl) rfl ?_
  refine mm_new (n := 30) C mm_cl_6 ck_X11_41 ci_6 cn_6 (mm_dec dk_X11_init 27 rfl) i8.2.2 (by decide) rfl (mm_df_6 _ rfl) (by decide) (by decide) ?_
  have i9 : mm_inp [(30, 0), (30, 1), (30, 2), (30, 3), (30, 4), (30, 5), (30, 7), (30, 8), (30, 9), (30, 10), (30, 11), (0, 4), (0, 5), (0, 6), (0, 7), (0, 8), (0, 9), (0, 10), (0, 11)] 31 (mm_nw h8) := mm_inp_nw i8 (by decide) rfl (by decide +kernel) (by decide +kernel)
  obtain ⟨h9, eh9⟩ : ∃ z, z = mm_nw h8 := ⟨_, rfl⟩
  rw [← eh9] at i9 ⊢
  clear eh9
  refine mm_dup C (mm_dec dk_X11_init 28 rfl) (show (2 : Nat) ≠ 1 by decide) ?_
  refine mm_callIN (host := "MapRun") (rest := [mR 30, mR 0]) C1 mw_X6_init (by decide) im_X6_init rfl (c_X6_init x.2.1 hl (d - 1) (by omega) h9 i9) (mm_dec dk_X11_init 29 rfl) rfl (Nat.le_of_ble_eq_true rfl) ⟨by decide, by decide⟩ rfl (fun v61 h61c hp61 => ?_)
  obtain ⟨rfl, i61c⟩ := hp61
  show mm_W _ _ _ _ _ [mR 30, mR 0] _
  refine mm_putrF C fl_X11_44 (mm_dec dk_X11_init 30 rfl) rfl rfl rfl hnm rfl (fun q => ⟨rfl, rfl⟩) (by decide) ?_
  have i10 : mm_inp [(0, 5), (0, 6), (0, 7), (0, 8), (0, 9), (0, 10), (0, 11)] 42 (mm_pf h61c 0 4 1) := mm_inp_pf i61c (show 1 ≤ 1 ∧ 1 ≤ 1 by decide) (by decide +kernel)
  obtain ⟨h10, eh10⟩ : ∃ z, z = mm_pf h61c 0 4 1 := ⟨_, rfl⟩
  rw [← eh10] at i10 ⊢
  clear eh10
  refine mm_aload_n C (mm_dec dk_X11_init 31 rfl) rfl ?_
  refine mm_new (n := 42) C mm_cl_8 ck_X11_48 ci_8 cn_8 (mm_dec dk_X11_init 32 rfl) i10.2.2 (by decide) rfl (mm_df_8 _ rfl) (by decide) (by decide) ?_
  have i11 : mm_inp [(42, 0), (42, 1), (42, 2), (0, 5), (0, 6), (0, 7), (0, 8), (0, 9), (0, 10), (0, 11)] 43 (mm_nw h10) := mm_inp_nw i10 (by decide) rfl (by decide +kernel) (by decide +kernel)
  obtain ⟨h11, eh11⟩ : ∃ z, z = mm_nw h10 := ⟨_, rfl⟩
  rw [← eh11] at i11 ⊢
  clear eh11
  refine mm_dup C (mm_dec dk_X11_init 33 rfl) (show (2 : Nat) ≠ 1 by decide) ?_
  refine mm_callIN (host := "MapRun") (rest := [mR 42, mR 0]) C1 mw_X8_init (by decide) im_X8_init rfl (c_X8_init x.2.1 hl (d - 1) (by omega) h11 i11) (mm_dec dk_X11_init 34 rfl) rfl (Nat.le_of_ble_eq_true rfl) ⟨by decide, by decide⟩ rfl (fun v72 h72c hp72 => ?_)
  obtain ⟨rfl, i72c⟩ := hp72
  show mm_W _ _ _ _ _ [mR 42, mR 0] _
  refine mm_putrF C fl_X11_51 (mm_dec dk_X11_init 35 rfl) rfl rfl rfl hnm rfl (fun q => ⟨rfl, rfl⟩) (by decide) ?_
  have i12 : mm_inp [(0, 6), (0, 7), (0, 8), (0, 9), (0, 10), (0, 11)] 46 (mm_pf h72c 0 5 1) := mm_inp_pf i72c (show 1 ≤ 1 ∧ 1 ≤ 1 by decide) (by decide +kernel)
  obtain ⟨h12, eh12⟩ : ∃ z, z = mm_pf h72c 0 5 1 := ⟨_, rfl⟩
  rw [← eh12] at i12 ⊢
  clear eh12
  refine mm_aload_n C (mm_dec dk_X11_init 36 rfl) rfl ?_
  refine mm_new (n := 46) C mm_cl_4 ck_X11_55 ci_4 cn_4 (mm_dec dk_X11_init 37 rfl) i12.2.2 (by decide) rfl (mm_df_4 _ rfl) (by decide) (by decide) ?_
  have i13 : mm_inp [(46, 0), (46, 1), (46, 2), (46, 3), (46, 4), (0, 6), (0, 7), (0, 8), (0, 9), (0, 10), (0, 11)] 47 (mm_nw h12) := mm_inp_nw i12 (by decide) rfl (by decide +kernel) (by decide +kernel)
  obtain ⟨h13, eh13⟩ : ∃ z, z = mm_nw h12 := ⟨_, rfl⟩
  rw [← eh13] at i13 ⊢
  clear eh13
  refine mm_dup C (mm_dec dk_X11_init 38 rfl) (show (2 : Nat) ≠ 1 by decide) ?_
  refine mm_aload_n C (mm_dec dk_X11_init 39 rfl) rfl ?_
  refine mm_getr (t := 14) C fl_X11_28 (mm_dec dk_X11_init 40 rfl) rfl rfl (mm_inp_ref i13 (by decide +kernel)) ?_
  refine mm_aload_n C (mm_dec dk_X11_init 41 rfl) rfl ?_
  refine mm_getr (t := 22) C fl_X11_37 (mm_dec dk_X11_init 42 rfl) rfl rfl (mm_inp_ref i13 (by decide +kernel)) ?_
  refine mm_aload_n C (mm_dec dk_X11_init 43 rfl) rfl ?_
  refine mm_getr (t := 30) C fl_X11_44 (mm_dec dk_X11_init 44 rfl) rfl rfl (mm_inp_ref i13 (by decide +kernel)) ?_
  refine mm_aload_n C (mm_dec dk_X11_init 45 rfl) rfl ?_
  refine mm_getr (t := 42) C fl_X11_51 (mm_dec dk_X11_init 46 rfl) rfl rfl (mm_inp_ref i13 (by decide +kernel)) ?_
  refine mm_callI (rest := [mR 46, mR 0]) C1 mw_X4_init ml_X11_57 im_X4_init rfl (c_X4_init x.2.1 hl (d - 1) (by omega) h13 i13) (mm_dec dk_X11_init 47 rfl) rfl (Nat.le_of_ble_eq_true rfl) ⟨by decide, by decide⟩ rfl (fun v99 h99c hp99 => ?_)
  obtain ⟨rfl, i99c⟩ := hp99
  show mm_W _ _ _ _ _ [mR 46, mR 0] _
  refine mm_putrF C fl_X11_60 (mm_dec dk_X11_init 48 rfl) rfl rfl rfl hnm rfl (fun q => ⟨rfl, rfl⟩) (by decide) ?_
  have i14 : mm_inp [(0, 7), (0, 8), (0, 9), (0, 10), (0, 11)] 54 (mm_pf h99c 0 6 1) := mm_inp_pf i99c (show 1 ≤ 1 ∧ 1 ≤ 1 by decide) (by decide +kernel)
  obtain ⟨h14, eh14⟩ : ∃ z, z = mm_pf h99c 0 6 1 := ⟨_, rfl⟩
  rw [← eh14] at i14 ⊢
  clear eh14
  refine mm_aload_n C (mm_dec dk_X11_init 49 rfl) rfl ?_
  refine mm_new (n := 54) C mm_cl_3 ck_X11_64 ci_3 cn_3 (mm_dec dk_X11_init 50 rfl) i14.2.2 (by decide) rfl (mm_df_3 _ rfl) (by decide) (by decide) ?_
  have i15 : mm_inp [(54, 0), (54, 1), (54, 2), (54, 3), (54, 4), (0, 7), (0, 8), (0, 9), (0, 10), (0, 11)] 55 (mm_nw h14) := mm_inp_nw i14 (by decide) rfl (by decide +kernel) (by decide +kernel)
  obtain ⟨h15, eh15⟩ : ∃ z, z = mm_nw h14 := ⟨_, rfl⟩
  rw [← eh15] at i15 ⊢
  clear eh15
  refine mm_dup C (mm_dec dk_X11_init 51 rfl) (show (2 : Nat) ≠ 1 by decide) ?_
  refine mm_aload_n C (mm_dec dk_X11_init 52 rfl) rfl ?_
  refine mm_getr (t := 22) C fl_X11_37 (mm_dec dk_X11_init 53 rfl) rfl rfl (mm_inp_ref i15 (by decide +kernel)) ?_
  refine mm_aload_n C (mm_dec dk_X11_init 54 rfl) rfl ?_
  refine mm_getr (t := 30) C fl_X11_44 (mm_dec dk_X11_init 55 rfl) rfl rfl (mm_inp_ref i15 (by decide +kernel)) ?_
  refine mm_callI (rest := [mR 54, mR 0]) C1 mw_X3_init ml_X11_66 im_X3_init rfl (c_X3_init x.2.1 hl (d - 1) (by omega) h15 i15) (mm_dec dk_X11_init 56 rfl) rfl (Nat.le_of_ble_eq_true rfl) ⟨by decide, by decide⟩ rfl (fun v118 h118c hp118 => ?_)
  obtain ⟨rfl, i118c⟩ := hp118
  show mm_W _ _ _ _ _ [mR 54, mR 0] _
  refine mm_putrF C fl_X11_69 (mm_dec dk_X11_init 57 rfl) rfl rfl rfl hnm rfl (fun q => ⟨rfl, rfl⟩) (by decide) ?_
  have i16 : mm_inp [(0, 8), (0, 9), (0, 10), (0, 11)] 58 (mm_pf h118c 0 7 1) := mm_inp_pf i118c (show 1 ≤ 1 ∧ 1 ≤ 1 by decide) (by decide +kernel)
  obtain ⟨h16, eh16⟩ : ∃ z, z = mm_pf h118c 0 7 1 := ⟨_, rfl⟩
  rw [← eh16] at i16 ⊢
  clear eh16
  refine mm_aload_n C (mm_dec dk_X11_init 58 rfl) rfl ?_
  refine mm_new (n := 58) C mm_cl_0 ck_X11_73 ci_0 cn_0 (mm_dec dk_X11_init 59 rfl) i16.2.2 (by decide) rfl (mm_df_0 _ rfl) (by decide) (by decide) ?_
  have i17 : mm_inp [(58, 0), (58, 1), (58, 2), (58, 3), (58, 4), (0, 8), (0, 9), (0, 10), (0, 11)] 59 (mm_nw h16) := mm_inp_nw i16 (by decide) rfl (by decide +kernel) (by decide +kernel)
  obtain ⟨h17, eh17⟩ : ∃ z, z = mm_nw h16 := ⟨_, rfl⟩
  rw [← eh17] at i17 ⊢
  clear eh17
  refine mm_dup C (mm_dec dk_X11_init 60 rfl) (show (2 : Nat) ≠ 1 by decide) ?_
  refine mm_aload_n C (mm_dec dk_X11_init 61 rfl) rfl ?_
  refine mm_getr (t := 1) C fl_X11_12 (mm_dec dk_X11_init 62 rfl) rfl rfl (mm_inp_ref i17 (by decide +kernel)) ?_
  refine mm_aload_n C (mm_dec dk_X11_init 63 rfl) rfl ?_
  refine mm_getr (t := 7) C fl_X11_21 (mm_dec dk_X11_init 64 rfl) rfl rfl (mm_inp_ref i17 (by decide +kernel)) ?_
  refine mm_aload_n C (mm_dec dk_X11_init 65 rfl) rfl ?_
  refine mm_getr (t := 14) C fl_X11_28 (mm_dec dk_X11_init 66 rfl) rfl rfl (mm_inp_ref i17 (by decide +kernel)) ?_
  refine mm_callI (rest := [mR 58, mR 0]) C1 mw_X0_init ml_X11_75 im_X0_init rfl (c_X0_init x.2.1 hl (d - 1) (by omega) h17 i17) (mm_dec dk_X11_init 67 rfl) rfl (Nat.le_of_ble_eq_true rfl) ⟨by decide, by decide⟩ rfl (fun v141 h141c hp141 => ?_)
  obtain ⟨rfl, i141c⟩ := hp141
  show mm_W _ _ _ _ _ [mR 58, mR 0] _
  refine mm_putrF C fl_X11_78 (mm_dec dk_X11_init 68 rfl) rfl rfl rfl hnm rfl (fun q => ⟨rfl, rfl⟩) (by decide) ?_
  have i18 : mm_inp [(0, 9), (0, 10), (0, 11)] 61 (mm_pf h141c 0 8 1) := mm_inp_pf i141c (show 1 ≤ 1 ∧ 1 ≤ 1 by decide) (by decide +kernel)
  obtain ⟨h18, eh18⟩ : ∃ z, z = mm_pf h141c 0 8 1 := ⟨_, rfl⟩
  rw [← eh18] at i18 ⊢
  clear eh18
  refine mm_aload_n C (mm_dec dk_X11_init 69 rfl) rfl ?_
  refine mm_bipush C (mm_dec dk_X11_init 70 rfl) ⟨by decide, by decide⟩ ?_
  refine mm_newa (atype := .int) (n := 61) (len := 12) C ac_int (mm_dec dk_X11_init 71 rfl) i18.2.2 (by decide) rfl (Or.inl ⟨rfl, rfl⟩) rfl (by decide) (by decide) (by decide) ?_
  have i19 : mm_inp [(0, 9), (0, 10), (0, 11)] 62 (mm_nw h18) := mm_inp_nw i18 (by decide) rfl (by decide +kernel) (by decide +kernel)
  obtain ⟨h19, eh19⟩ : ∃ z, z = mm_nw h18 := ⟨_, rfl⟩
  rw [← eh19] at i19 ⊢
  clear eh19
  refine mm_putrF C fl_X11_82 (mm_dec dk_X11_init 72 rfl) rfl rfl rfl hnm rfl (fun q => ⟨rfl, rfl⟩) (by decide) ?_
  have i20 : mm_inp [(0, 10), (0, 11)] 62 (mm_pf h19 0 9 1) := mm_inp_pf i19 (show 1 ≤ 1 ∧ 1 ≤ 1 by decide) (by decide +kernel)
  obtain ⟨h20, eh20⟩ : ∃ z, z = mm_pf h19 0 9 1 := ⟨_, rfl⟩
  rw [← eh20] at i20 ⊢
  clear eh20
  refine mm_aload_n C (mm_dec dk_X11_init 73 rfl) rfl ?_
  refine mm_sipush C (mm_dec dk_X11_init 74 rfl) ⟨by decide, by decide⟩ ?_
  refine mm_newa (atype := .int) (n := 62) (len := 500) C ac_int (mm_dec dk_X11_init 75 rfl) i20.2.2 (by decide) rfl (Or.inl ⟨rfl, rfl⟩) rfl (by decide) (by decide) (by decide) ?_
  have i21 : mm_inp [(0, 10), (0, 11)] 63 (mm_nw h20) := mm_inp_nw i20 (by decide) rfl (by decide +kernel) (by decide +kernel)
  obtain ⟨h21, eh21⟩ : ∃ z, z = mm_nw h20 := ⟨_, rfl⟩
  rw [← eh21] at i21 ⊢
  clear eh21
  refine mm_putrF C fl_X11_86 (mm_dec dk_X11_init 76 rfl) rfl rfl rfl hnm rfl (fun q => ⟨rfl, rfl⟩) (by decide) ?_
  have i22 : mm_inp [(0, 11)] 63 (mm_pf h21 0 10 1) := mm_inp_pf i21 (show 1 ≤ 1 ∧ 1 ≤ 1 by decide) (by decide +kernel)
  obtain ⟨h22, eh22⟩ : ∃ z, z = mm_pf h21 0 10 1 := ⟨_, rfl⟩
  rw [← eh22] at i22 ⊢
  clear eh22
  refine mm_aload_n C (mm_dec dk_X11_init 77 rfl) rfl ?_
  refine mm_new (n := 63) C mm_cl_7 ck_X11_89 ci_7 cn_7 (mm_dec dk_X11_init 78 rfl) i22.2.2 (by decide) rfl (mm_df_7 _ rfl) (by decide) (by decide) ?_
  have i23 : mm_inp [(63, 0), (63, 1), (63, 2), (0, 11)] 64 (mm_nw h22) := mm_inp_nw i22 (by decide) rfl (by decide +kernel) (by decide +kernel)
  obtain ⟨h23, eh23⟩ : ∃ z, z = mm_nw h22 := ⟨_, rfl⟩
  rw [← eh23] at i23 ⊢
  clear eh23
  refine mm_dup C (mm_dec dk_X11_init 79 rfl) (show (2 : Nat) ≠ 1 by decide) ?_
  refine mm_aload_n C (mm_dec dk_X11_init 80 rfl) rfl ?_
  refine mm_getr (t := 62) C fl_X11_86 (mm_dec dk_X11_init 81 rfl) rfl rfl (mm_inp_ref i23 (by decide +kernel)) ?_
  refine mm_callI (rest := [mR 63, mR 0]) C1 mw_X7_init ml_X11_91 im_X7_init rfl (c_X7_init x.2.1 hl (d - 1) (by omega) h23 i23) (mm_dec dk_X11_init 82 rfl) rfl (Nat.le_of_ble_eq_true rfl) ⟨by decide, by decide⟩ rfl (fun v173 h173c hp173 => ?_)
  obtain ⟨rfl, i173c⟩ := hp173
  show mm_W _ _ _ _ _ [mR 63, mR 0] _
  refine mm_putrF C fl_X11_94 (mm_dec dk_X11_init 83 rfl) rfl rfl rfl hnm rfl (fun q => ⟨rfl, rfl⟩) (by decide) ?_
  have i24 : mm_inp [] 66 (mm_pf h173c 0 11 1) := mm_inp_pf i173c (show 1 ≤ 1 ∧ 1 ≤ 1 by decide) (by decide +kernel)
  obtain ⟨h24, eh24⟩ : ∃ z, z = mm_pf h173c 0 11 1 := ⟨_, rfl⟩
  rw [← eh24] at i24 ⊢
  clear eh24
  refine mm_aload_n C (mm_dec dk_X11_init 84 rfl) rfl ?_
  refine mm_iconst C (mm_dec dk_X11_init 85 rfl) ⟨by decide, by decide⟩ ?_
  refine mm_puti C fl_X11_98 (mm_dec dk_X11_init 86 rfl) rfl rfl rfl (Or.inl ⟨rfl, rfl⟩) ?_
  have i25 : mm_inp [] 66 (mm_pf h24 0 12 0) := mm_inp_pf i24 (show 0 ≤ 0 ∧ 0 ≤ 0 by decide) (by decide +kernel)
  obtain ⟨h25, eh25⟩ : ∃ z, z = mm_pf h24 0 12 0 := ⟨_, rfl⟩
  rw [← eh25] at i25 ⊢
  clear eh25
  refine mm_aload_n C (mm_dec dk_X11_init 87 rfl) rfl ?_
  refine mm_iconst C (mm_dec dk_X11_init 88 rfl) ⟨by decide, by decide⟩ ?_
  refine mm_puti C fl_X11_102 (mm_dec dk_X11_init 89 rfl) rfl rfl rfl (Or.inl ⟨rfl, rfl⟩) ?_
  have i26 : mm_inp [] 66 (mm_pf h25 0 13 0) := mm_inp_pf i25 (show 0 ≤ 0 ∧ 0 ≤ 0 by decide) (by decide +kernel)
  obtain ⟨h26, eh26⟩ : ∃ z, z = mm_pf h25 0 13 0 := ⟨_, rfl⟩
  rw [← eh26] at i26 ⊢
  clear eh26
  refine mm_aload_n C (mm_dec dk_X11_init 90 rfl) rfl ?_
  refine mm_iconst C (mm_dec dk_X11_init 91 rfl) ⟨by decide, by decide⟩ ?_
  refine mm_puti C fl_X11_105 (mm_dec dk_X11_init 92 rfl) rfl rfl rfl (Or.inl ⟨rfl, rfl⟩) ?_
  have i27 : mm_inp [] 66 (mm_pf h26 0 14 (-1)) := mm_inp_pf i26 (show -2147483648 ≤ (-1) ∧ (-1) ≤ 2147483647 by decide) (by decide +kernel)
  obtain ⟨h27, eh27⟩ : ∃ z, z = mm_pf h26 0 14 (-1) := ⟨_, rfl⟩
  rw [← eh27] at i27 ⊢
  clear eh27
  refine mm_aload_n C (mm_dec dk_X11_init 93 rfl) rfl ?_
  refine mm_getr (t := 1) C fl_X11_12 (mm_dec dk_X11_init 94 rfl) rfl rfl (mm_inp_ref i27 (by decide +kernel)) ?_
  refine mm_iconst C (mm_dec dk_X11_init 95 rfl) ⟨by decide, by decide⟩ ?_
  refine mm_iconst C (mm_dec dk_X11_init 96 rfl) ⟨by decide, by decide⟩ ?_
  refine mm_cVv (rest := []) C1 ev_X11_108 (mm_dec dk_X11_init 97 rfl) (c_X5_renew_w x.2.1 hl (d - 1) (by omega) h27 i27 1 1 ⟨by decide, by decide⟩ ⟨by decide, by decide⟩) rfl rfl (Nat.le_of_ble_eq_true rfl) ⟨by decide, by decide⟩ rfl (fun h200c hp200 => ?_) (fun _ _ q => q.elim)
  obtain ⟨i200c, g200c, y_0, y_1, y_2, y_3, y_4, y_5, y_6, y_7, y_8⟩ := hp200
  exact mm_vret C T (mm_dec dk_X11_init 98 rfl) (by decide : 65 ≤ 65) (by decide : 11003 ≤ 11003) ⟨rfl, ⟨i200c, y_2, y_3, y_4, y_5, y_6, y_7⟩⟩
set_option maxRecDepth 100000 in
set_option maxHeartbeats 4000000 in
theorem c_X12_init (l : Launch) (hl : l.stackTraces = false) (d : Nat) (hd : 2 ≤ d) (h : mH) (i0 : mm_inp [(66, 1), (66, 2), (66, 4), (66, 5), (66, 6), (66, 7), (66, 8), (66, 13), (66, 14), (66, 15), (66, 16), (66, 17), (66, 20), (66, 25), (66, 26), (66, 27), (66, 28), (66, 29), (66, 30), (66, 31), (66, 32), (66, 33), (66, 34), (66, 35), (66, 36), (66, 37), (66, 38), (66, 42), (66, 43), (66, 44), (66, 45), (66, 46), (66, 47), (66, 49), (66, 50), (66, 51), (66, 55), (66, 72), (66, 73), (66, 74), (66, 75), (66, 76), (66, 77), (66, 78), (66, 79), (66, 80), (66, 81), (66, 83), (66, 84), (66, 85), (66, 86), (66, 90), (66, 92), (66, 93), (66, 94), (66, 98), (66, 99), (66, 100), (66, 101)] 67 h) : mm_Met l d yX12_init cX12_init 1 none [mR 66] h (mm_pv fun h2 => mm_inp [] 124 h2 ∧ h2.1 66 67 = 0 ∧ mm_ke h h2 ∧ mm_al h2 67 399 0 ∧ mm_al h2 69 7 5 ∧ mm_al h2 68 399 0 ∧ mm_al h2 70 399 0 ∧ mm_al h2 71 399 0 ∧ h2.1 66 3 = 2) mm_nx 57 68525 := by
  refine mm_ofW (ls := [mR 66]) hl (by decide) rfl (Nat.le_of_ble_eq_true rfl) ?_
  intro x hxl C T hnm htb
  subst hxl
  have C1 := mm_OK_le (d' := d - 1 + 1) (by omega) C
  refine mm_aload_n C (mm_dec dk_X12_init 0 rfl) rfl ?_
  refine mm_objInit C1 ml_X12_1 im_obj co_obj (mm_dec dk_X12_init 1 rfl) (Nat.le_of_ble_eq_true rfl) ?_
  refine mm_aload_n C (mm_dec dk_X12_init 2 rfl) rfl ?_
  refine mm_sipush C (mm_dec dk_X12_init 3 rfl) ⟨by decide, by decide⟩ ?_
  refine mm_newa (atype := .int) (n := 67) (len := 400) C ac_int (mm_dec dk_X12_init 4 rfl) i0.2.2 (by decide) rfl (Or.inl ⟨rfl, rfl⟩) rfl (by decide) (by decide) (by decide) ?_
  have k1 : mm_ke h (mm_nw h) := mm_ke_nw mm_ke_rf i0 (by decide)
  have i1 : mm_inp [(66, 1), (66, 2), (66, 4), (66, 5), (66, 6), (66, 7), (66, 8), (66, 13), (66, 14), (66, 15), (66, 16), (66, 17), (66, 20), (66, 25), (66, 26), (66, 27), (66, 28), (66, 29), (66, 30), (66, 31), (66, 32), (66, 33), (66, 34), (66, 35), (66, 36), (66, 37), (66, 38), (66, 42), (66, 43), (66, 44), (66, 45), (66, 46), (66, 47), (66, 49), (66, 50), (66, 51), (66, 55), (66, 72), (66, 73), (66, 74), (66, 75), (66, 76), (66, 77), (66, 78), (66, 79), (66, 80), (66, 81), (66, 83), (66, 84), (66, 85), (66, 86), (66, 90), (66, 92), (66, 93), (66, 94), (66, 98), (66, 99), (66, 100), (66, 101)] 68 (mm_nw h) := mm_inp_nw i0 (by decide) rfl (by decide +kernel) (by decide +kernel)
  obtain ⟨h1, eh1⟩ : ∃ z, z = mm_nw h := ⟨_, rfl⟩
  rw [← eh1] at i1 k1 ⊢
  clear eh1
  refine mm_putrF C fl_X12_7 (mm_dec dk_X12_init 5 rfl) rfl rfl rfl hnm rfl (fun q => ⟨rfl, rfl⟩) (by decide) ?_
  have k2 : mm_ke h (mm_pf h1 66 4 1) := mm_ke_pf k1
  have i2 : mm_inp [(66, 1), (66, 2), (66, 5), (66, 6), (66, 7), (66, 8), (66, 13), (66, 14), (66, 15), (66, 16), (66, 17), (66, 20), (66, 25), (66, 26), (66, 27), (66, 28), (66, 29), (66, 30), (66, 31), (66, 32), (66, 33), (66, 34), (66, 35), (66, 36), (66, 37), (66, 38), (66, 42), (66, 43), (66, 44), (66, 45), (66, 46), (66, 47), (66, 49), (66, 50), (66, 51), (66, 55), (66, 72), (66, 73), (66, 74), (66, 75), (66, 76), (66, 77), (66, 78), (66, 79), (66, 80), (66, 81), (66, 83), (66, 84), (66, 85), (66, 86), (66, 90), (66, 92), (66, 93), (66, 94), (66, 98), (66, 99), (66, 100), (66, 101)] 68 (mm_pf h1 66 4 1) := mm_inp_pf i1 (show 1 ≤ 1 ∧ 1 ≤ 1 by decide) (by decide +kernel)
  obtain ⟨h2, eh2⟩ : ∃ z, z = mm_pf h1 66 4 1 := ⟨_, rfl⟩
  rw [← eh2] at i2 k2 ⊢
  clear eh2
  refine mm_aload_n C (mm_dec dk_X12_init 6 rfl) rfl ?_
  refine mm_sipush C (mm_dec dk_X12_init 7 rfl) ⟨by decide, by decide⟩ ?_
  refine mm_newa (atype := .int) (n := 68) (len := 400) C ac_int (mm_dec dk_X12_init 8 rfl) i2.2.2 (by decide) rfl (Or.inl ⟨rfl, rfl⟩) rfl (by decide) (by decide) (by decide) ?_
  have k3 : mm_ke h (mm_nw h2) := mm_ke_nw k2 i2 (by decide)
  have i3 : mm_inp [(66, 1), (66, 2), (66, 5), (66, 6), (66, 7), (66, 8), (66, 13), (66, 14), (66, 15), (66, 16), (66, 17), (66, 20), (66, 25), (66, 26), (66, 27), (66, 28), (66, 29), (66, 30), (66, 31), (66, 32), (66, 33), (66, 34), (66, 35), (66, 36), (66, 37), (66, 38), (66, 42), (66, 43), (66, 44), (66, 45), (66, 46), (66, 47), (66, 49), (66, 50), (66, 51), (66, 55), (66, 72), (66, 73), (66, 74), (66, 75), (66, 76), (66, 77), (66, 78), (66, 79), (66, 80), (66, 81), (66, 83), (66, 84), (66, 85), (66, 86), (66, 90), (66, 92), (66, 93), (66, 94), (66, 98), (66, 99), (66, 100), (66, 101)] 69 (mm_nw h2) := mm_inp_nw i2 (by decide) rfl (by decide +kernel) (by decide +kernel)
  obtain ⟨h3, eh3⟩ : ∃ z, z = mm_nw h2 := ⟨_, rfl⟩
  rw [← eh3] at i3 k3 ⊢
  clear eh3
  refine mm_putrF C fl_X12_13 (mm_dec dk_X12_init 9 rfl) rfl rfl rfl hnm rfl (fun q => ⟨rfl, rfl⟩) (by decide) ?_
  have k4 : mm_ke h (mm_pf h3 66 5 1) := mm_ke_pf k3
  have i4 : mm_inp [(66, 1), (66, 2), (66, 6), (66, 7), (66, 8), (66, 13), (66, 14), (66, 15), (66, 16), (66, 17), (66, 20), (66, 25), (66, 26), (66, 27), (66, 28), (66, 29), (66, 30), (66, 31), (66, 32), (66, 33), (66, 34), (66, 35), (66, 36), (66, 37), (66, 38), (66, 42), (66, 43), (66, 44), (66, 45), (66, 46), (66, 47), (66, 49), (66, 50), (66, 51), (66, 55), (66, 72), (66, 73), (66, 74), (66, 75), (66, 76), (66, 77), (66, 78), (66, 79), (66, 80), (66, 81), (66, 83), (66, 84), (66, 85), (66, 86), (66, 90), (66, 92), (66, 93), (66, 94), (66, 98), (66, 99), (66, 100), (66, 101)] 69 (mm_pf h3 66 5 1) := mm_inp_pf i3 (show 1 ≤ 1 ∧ 1 ≤ 1 by decide) (by decide +kernel)
  obtain ⟨h4, eh4⟩ : ∃ z, z = mm_pf h3 66 5 1 := ⟨_, rfl⟩
  rw [← eh4] at i4 k4 ⊢
  clear eh4
  refine mm_aload_n C (mm_dec dk_X12_init 10 rfl) rfl ?_
  refine mm_bipush C (mm_dec dk_X12_init 11 rfl) ⟨by decide, by decide⟩ ?_
  refine mm_newa (atype := .int) (n := 69) (len := 8) C ac_int (mm_dec dk_X12_init 12 rfl) i4.2.2 (by decide) rfl (Or.inl ⟨rfl, rfl⟩) rfl (by decide) (by decide) (by decide) ?_
  have k5 : mm_ke h (mm_nw h4) := mm_ke_nw k4 i4 (by decide)
  have i5 : mm_inp [(66, 1), (66, 2), (66, 6), (66, 7), (66, 8), (66, 13), (66, 14), (66, 15), (66, 16), (66, 17), (66, 20), (66, 25), (66, 26), (66, 27), (66, 28), (66, 29), (66, 30), (66, 31), (66, 32), (66, 33), (66, 34), (66, 35), (66, 36), (66, 37), (66, 38), (66, 42), (66, 43), (66, 44), (66, 45), (66, 46), (66, 47), (66, 49), (66, 50), (66, 51), (66, 55), (66, 72), (66, 73), (66, 74), (66, 75), (66, 76), (66, 77), (66, 78), (66, 79), (66, 80), (66, 81), (66, 83), (66, 84), (66, 85), (66, 86), (66, 90), (66, 92), (66, 93), (66, 94), (66, 98), (66, 99), (66, 100), (66, 101)] 70 (mm_nw h4) := mm_inp_nw i4 (by decide) rfl (by decide +kernel) (by decide +kernel)
  obtain ⟨h5, eh5⟩ : ∃ z, z = mm_nw h4 := ⟨_, rfl⟩
  rw [← eh5] at i5 k5 ⊢
  clear eh5
  refine mm_putrF C fl_X12_16 (mm_dec dk_X12_init 13 rfl) rfl rfl rfl hnm rfl (fun q => ⟨rfl, rfl⟩) (by decide) ?_
  have k6 : mm_ke h (mm_pf h5 66 6 1) := mm_ke_pf k5
  have i6 : mm_inp [(66, 1), (66, 2), (66, 7), (66, 8), (66, 13), (66, 14), (66, 15), (66, 16), (66, 17), (66, 20), (66, 25), (66, 26), (66, 27), (66, 28), (66, 29), (66, 30), (66, 31), (66, 32), (66, 33), (66, 34), (66, 35), (66, 36), (66, 37), (66, 38), (66, 42), (66, 43), (66, 44), (66, 45), (66, 46), (66, 47), (66, 49), (66, 50), (66, 51), (66, 55), (66, 72), (66, 73), (66, 74), (66, 75), (66, 76), (66, 77), (66, 78), (66, 79), (66, 80), (66, 81), (66, 83), (66, 84), (66, 85), (66, 86), (66, 90), (66, 92), (66, 93), (66, 94), (66, 98), (66, 99), (66, 100), (66, 101)] 70 (mm_pf h5 66 6 1) := mm_inp_pf i5 (show 1 ≤ 1 ∧ 1 ≤ 1 by decide) (by decide +kernel)
  obtain ⟨h6, eh6⟩ : ∃ z, z = mm_pf h5 66 6 1 := ⟨_, rfl⟩
  rw [← eh6] at i6 k6 ⊢
  clear eh6
  refine mm_aload_n C (mm_dec dk_X12_init 14 rfl) rfl ?_
  refine mm_sipush C (mm_dec dk_X12_init 15 rfl) ⟨by decide, by decide⟩ ?_
  refine mm_newa (atype := .boolean) (n := 70) (len := 400) C ac_boolean (mm_dec dk_X12_init 16 rfl) i6.2.2 (by decide) rfl (Or.inr (Or.inl ⟨rfl, rfl⟩)) rfl (by decide) (by decide) (by decide) ?_
  have k7 : mm_ke h (mm_nw h6) := mm_ke_nw k6 i6 (by decide)
  have i7 : mm_inp [(66, 1), (66, 2), (66, 7), (66, 8), (66, 13), (66, 14), (66, 15), (66, 16), (66, 17), (66, 20), (66, 25), (66, 26), (66, 27), (66, 28), (66, 29), (66, 30), (66, 31), (66, 32), (66, 33), (66, 34), (66, 35), (66, 36), (66, 37), (66, 38), (66, 42), (66, 43), (66, 44), (66, 45), (66, 46), (66, 47), (66, 49), (66, 50), (66, 51), (66, 55), (66, 72), (66, 73), (66, 74), (66, 75), (66, 76), (66, 77), (66, 78), (66, 79), (66, 80), (66, 81), (66, 83), (66, 84), (66, 85), (66, 86), (66, 90), (66, 92), (66, 93), (66, 94), (66, 98), (66, 99), (66, 100), (66, 101)] 71 (mm_nw h6) := mm_inp_nw i6 (by decide) rfl (by decide +kernel) (by decide +kernel)
  obtain ⟨h7, eh7⟩ : ∃ z, z = mm_nw h6 := ⟨_, rfl⟩
  rw [← eh7] at i7 k7 ⊢
  clear eh7
  refine mm_putrF C fl_X12_19 (mm_dec dk_X12_init 17 rfl) rfl rfl rfl hnm rfl (fun q => ⟨rfl, rfl⟩) (by decide) ?_
  have k8 : mm_ke h (mm_pf h7 66 7 1) := mm_ke_pf k7
  have i8 : mm_inp [(66, 1), (66, 2), (66, 8), (66, 13), (66, 14), (66, 15), (66, 16), (66, 17), (66, 20), (66, 25), (66, 26), (66, 27), (66, 28), (66, 29), (66, 30), (66, 31), (66, 32), (66, 33), (66, 34), (66, 35), (66, 36), (66, 37), (66, 38), (66, 42), (66, 43), (66, 44), (66, 45), (66, 46), (66, 47), (66, 49), (66, 50), (66, 51), (66, 55), (66, 72), (66, 73), (66, 74), (66, 75), (66, 76), (66, 77), (66, 78), (66, 79), (66, 80), (66, 81), (66, 83), (66, 84), (66, 85), (66, 86), (66, 90), (66, 92), (66, 93), (66, 94), (66, 98), (66, 99), (66, 100), (66, 101)] 71 (mm_pf h7 66 7 1) := mm_inp_pf i7 (show 1 ≤ 1 ∧ 1 ≤ 1 by decide) (by decide +kernel)
  obtain ⟨h8, eh8⟩ : ∃ z, z = mm_pf h7 66 7 1 := ⟨_, rfl⟩
  rw [← eh8] at i8 k8 ⊢
  clear eh8
  refine mm_aload_n C (mm_dec dk_X12_init 18 rfl) rfl ?_
  refine mm_sipush C (mm_dec dk_X12_init 19 rfl) ⟨by decide, by decide⟩ ?_
  refine mm_newa (atype := .boolean) (n := 71) (len := 400) C ac_boolean (mm_dec dk_X12_init 20 rfl) i8.2.2 (by decide) rfl (Or.inr (Or.inl ⟨rfl, rfl⟩)) rfl (by decide) (by decide) (by decide) ?_
  have k9 : mm_ke h (mm_nw h8) := mm_ke_nw k8 i8 (by decide)
  have i9 : mm_inp [(66, 1), (66, 2), (66, 8), (66, 13), (66, 14), (66, 15), (66, 16), (66, 17), (66, 20), (66, 25), (66, 26), (66, 27), (66, 28), (66, 29), (66, 30), (66, 31), (66, 32), (66, 33), (66, 34), (66, 35), (66, 36), (66, 37), (66, 38), (66, 42), (66, 43), (66, 44), (66, 45), (66, 46), (66, 47), (66, 49), (66, 50), (66, 51), (66, 55), (66, 72), (66, 73), (66, 74), (66, 75), (66, 76), (66, 77), (66, 78), (66, 79), (66, 80), (66, 81), (66, 83), (66, 84), (66, 85), (66, 86), (66, 90), (66, 92), (66, 93), (66, 94), (66, 98), (66, 99), (66, 100), (66, 101)] 72 (mm_nw h8) := mm_inp_nw i8 (by decide) rfl (by decide +kernel) (by decide +kernel)
  obtain ⟨h9, eh9⟩ : ∃ z, z = mm_nw h8 := ⟨_, rfl⟩
  rw [← eh9] at i9 k9 ⊢
  clear eh9
  refine mm_putrF C fl_X12_23 (mm_dec dk_X12_init 21 rfl) rfl rfl rfl hnm rfl (fun q => ⟨rfl, rfl⟩) (by decide) ?_
  have k10 : mm_ke h (mm_pf h9 66 8 1) := mm_ke_pf k9
  have i10 : mm_inp [(66, 1), (66, 2), (66, 13), (66, 14), (66, 15), (66, 16), (66, 17), (66, 20), (66, 25), (66, 26), (66, 27), (66, 28), (66, 29), (66, 30), (66, 31), (66, 32), (66, 33), (66, 34), (66, 35), (66, 36), (66, 37), (66, 38), (66, 42), (66, 43), (66, 44), (66, 45), (66, 46), (66, 47), (66, 49), (66, 50), (66, 51), (66, 55), (66, 72), (66, 73), (66, 74), (66, 75), (66, 76), (66, 77), (66, 78), (66, 79), (66, 80), (66, 81), (66, 83), (66, 84), (66, 85), (66, 86), (66, 90), (66, 92), (66, 93), (66, 94), (66, 98), (66, 99), (66, 100), (66, 101)] 72 (mm_pf h9 66 8 1) := mm_inp_pf i9 (show 1 ≤ 1 ∧ 1 ≤ 1 by decide) (by decide +kernel)
  obtain ⟨h10, eh10⟩ : ∃ z, z = mm_pf h9 66 8 1 := ⟨_, rfl⟩
  rw [← eh10] at i10 k10 ⊢
  clear eh10
  refine mm_aload_n C (mm_dec dk_X12_init 22 rfl) rfl ?_
  refine mm_sipush C (mm_dec dk_X12_init 23 rfl) ⟨by decide, by decide⟩ ?_
  refine mm_newa (atype := .int) (n := 72) (len := 400) C ac_int (mm_dec dk_X12_init 24 rfl) i10.2.2 (by decide) rfl (Or.inl ⟨rfl, rfl⟩) rfl (by decide) (by decide) (by decide) ?_
  have k11 : mm_ke h (mm_nw h10) := mm_ke_nw k10 i10 (by decide)
  have i11 : mm_inp [(66, 1), (66, 2), (66, 13), (66, 14), (66, 15), (66, 16), (66, 17), (66, 20), (66, 25), (66, 26), (66, 27), (66, 28), (66, 29), (66, 30), (66, 31), (66, 32), (66, 33), (66, 34), (66, 35), (66, 36), (66, 37), (66, 38), (66, 42), (66, 43), (66, 44), (66, 45), (66, 46), (66, 47), (66, 49), (66, 50), (66, 51), (66, 55), (66, 72), (66, 73), (66, 74), (66, 75), (66, 76), (66, 77), (66, 78), (66, 79), (66, 80), (66, 81), (66, 83), (66, 84), (66, 85), (66, 86), (66, 90), (66, 92), (66, 93), (66, 94), (66, 98), (66, 99), (66, 100), (66, 101)] 73 (mm_nw h10) := mm_inp_nw i10 (by decide) rfl (by decide +kernel) (by decide +kernel)
  obtain ⟨h11, eh11⟩ : ∃ z, z = mm_nw h10 := ⟨_, rfl⟩
  rw [← eh11] at i11 k11 ⊢
  clear eh11
  refine mm_putrF C fl_X12_26 (mm_dec dk_X12_init 25 rfl) rfl rfl rfl hnm rfl (fun q => ⟨rfl, rfl⟩) (by decide) ?_
  have k12 : mm_ke h (mm_pf h11 66 13 1) := mm_ke_pf k11
  have i12 : mm_inp [(66, 1), (66, 2), (66, 14), (66, 15), (66, 16), (66, 17), (66, 20), (66, 25), (66, 26), (66, 27), (66, 28), (66, 29), (66, 30), (66, 31), (66, 32), (66, 33), (66, 34), (66, 35), (66, 36), (66, 37), (66, 38), (66, 42), (66, 43), (66, 44), (66, 45), (66, 46), (66, 47), (66, 49), (66, 50), (66, 51), (66, 55), (66, 72), (66, 73), (66, 74), (66, 75), (66, 76), (66, 77), (66, 78), (66, 79), (66, 80), (66, 81), (66, 83), (66, 84), (66, 85), (66, 86), (66, 90), (66, 92), (66, 93), (66, 94), (66, 98), (66, 99), (66, 100), (66, 101)] 73 (mm_pf h11 66 13 1) := mm_inp_pf i11 (show 1 ≤ 1 ∧ 1 ≤ 1 by decide) (by decide +kernel)
  obtain ⟨h12, eh12⟩ : ∃ z, z = mm_pf h11 66 13 1 := ⟨_, rfl⟩
  rw [← eh12] at i12 k12 ⊢
  clear eh12
  refine mm_aload_n C (mm_dec dk_X12_init 26 rfl) rfl ?_
  refine mm_sipush C (mm_dec dk_X12_init 27 rfl) ⟨by decide, by decide⟩ ?_
  refine mm_newa (atype := .int) (n := 73) (len := 400) C ac_int (mm_dec dk_X12_init 28 rfl) i12.2.2 (by decide) rfl (Or.inl ⟨rfl, rfl⟩) rfl (by decide) (by decide) (by decide) ?_
  have k13 : mm_ke h (mm_nw h12) := mm_ke_nw k12 i12 (by decide)
  have i13 : mm_inp [(66, 1), (66, 2), (66, 14), (66, 15), (66, 16), (66, 17), (66, 20), (66, 25), (66, 26), (66, 27), (66, 28), (66, 29), (66, 30), (66, 31), (66, 32), (66, 33), (66, 34), (66, 35), (66, 36), (66, 37), (66, 38), (66, 42), (66, 43), (66, 44), (66, 45), (66, 46), (66, 47), (66, 49), (66, 50), (66, 51), (66, 55), (66, 72), (66, 73), (66, 74), (66, 75), (66, 76), (66, 77), (66, 78), (66, 79), (66, 80), (66, 81), (66, 83), (66, 84), (66, 85), (66, 86), (66, 90), (66, 92), (66, 93), (66, 94), (66, 98), (66, 99), (66, 100), (66, 101)] 74 (mm_nw h12) := mm_inp_nw i12 (by decide) rfl (by decide +kernel) (by decide +kernel)
  obtain ⟨h13, eh13⟩ : ∃ z, z = mm_nw h12 := ⟨_, rfl⟩
  rw [← eh13] at i13 k13 ⊢
  clear eh13
  refine mm_putrF C fl_X12_29 (mm_dec dk_X12_init 29 rfl) rfl rfl rfl hnm rfl (fun q => ⟨rfl, rfl⟩) (by decide) ?_
  have k14 : mm_ke h (mm_pf h13 66 14 1) := mm_ke_pf k13
  have i14 : mm_inp [(66, 1), (66, 2), (66, 15), (66, 16), (66, 17), (66, 20), (66, 25), (66, 26), (66, 27), (66, 28), (66, 29), (66, 30), (66, 31), (66, 32), (66, 33), (66, 34), (66, 35), (66, 36), (66, 37), (66, 38), (66, 42), (66, 43), (66, 44), (66, 45), (66, 46), (66, 47), (66, 49), (66, 50), (66, 51), (66, 55), (66, 72), (66, 73), (66, 74), (66, 75), (66, 76), (66, 77), (66, 78), (66, 79), (66, 80), (66, 81), (66, 83), (66, 84), (66, 85), (66, 86), (66, 90), (66, 92), (66, 93), (66, 94), (66, 98), (66, 99), (66, 100), (66, 101)] 74 (mm_pf h13 66 14 1) := mm_inp_pf i13 (show 1 ≤ 1 ∧ 1 ≤ 1 by decide) (by decide +kernel)
  obtain ⟨h14, eh14⟩ : ∃ z, z = mm_pf h13 66 14 1 := ⟨_, rfl⟩
  rw [← eh14] at i14 k14 ⊢
  clear eh14
  refine mm_aload_n C (mm_dec dk_X12_init 30 rfl) rfl ?_
  refine mm_sipush C (mm_dec dk_X12_init 31 rfl) ⟨by decide, by decide⟩ ?_
  refine mm_newa (atype := .int) (n := 74) (len := 400) C ac_int (mm_dec dk_X12_init 32 rfl) i14.2.2 (by decide) rfl (Or.inl ⟨rfl, rfl⟩) rfl (by decide) (by decide) (by decide) ?_
  have k15 : mm_ke h (mm_nw h14) := mm_ke_nw k14 i14 (by decide)
  have i15 : mm_inp [(66, 1), (66, 2), (66, 15), (66, 16), (66, 17), (66, 20), (66, 25), (66, 26), (66, 27), (66, 28), (66, 29), (66, 30), (66, 31), (66, 32), (66, 33), (66, 34), (66, 35), (66, 36), (66, 37), (66, 38), (66, 42), (66, 43), (66, 44), (66, 45), (66, 46), (66, 47), (66, 49), (66, 50), (66, 51), (66, 55), (66, 72), (66, 73), (66, 74), (66, 75), (66, 76), (66, 77), (66, 78), (66, 79), (66, 80), (66, 81), (66, 83), (66, 84), (66, 85), (66, 86), (66, 90), (66, 92), (66, 93), (66, 94), (66, 98), (66, 99), (66, 100), (66, 101)] 75 (mm_nw h14) := mm_inp_nw i14 (by decide) rfl (by decide +kernel) (by decide +kernel)
  obtain ⟨h15, eh15⟩ : ∃ z, z = mm_nw h14 := ⟨_, rfl⟩
  rw [← eh15] at i15 k15 ⊢
  clear eh15
  refine mm_putrF C fl_X12_32 (mm_dec dk_X12_init 33 rfl) rfl rfl rfl hnm rfl (fun q => ⟨rfl, rfl⟩) (by decide) ?_
  have k16 : mm_ke h (mm_pf h15 66 15 1) := mm_ke_pf k15
  have i16 : mm_inp [(66, 1), (66, 2), (66, 16), (66, 17), (66, 20), (66, 25), (66, 26), (66, 27), (66, 28), (66, 29), (66, 30), (66, 31), (66, 32), (66, 33), (66, 34), (66, 35), (66, 36), (66, 37), (66, 38), (66, 42), (66, 43), (66, 44), (66, 45), (66, 46), (66, 47), (66, 49), (66, 50), (66, 51), (66, 55), (66, 72), (66, 73), (66, 74), (66, 75), (66, 76), (66, 77), (66, 78), (66, 79), (66, 80), (66, 81), (66, 83), (66, 84), (66, 85), (66, 86), (66, 90), (66, 92), (66, 93), (66, 94), (66, 98), (66, 99), (66, 100), (66, 101)] 75 (mm_pf h15 66 15 1) := mm_inp_pf i15 (show 1 ≤ 1 ∧ 1 ≤ 1 by decide) (by decide +kernel)
  obtain ⟨h16, eh16⟩ : ∃ z, z = mm_pf h15 66 15 1 := ⟨_, rfl⟩
  rw [← eh16] at i16 k16 ⊢
  clear eh16
  refine mm_aload_n C (mm_dec dk_X12_init 34 rfl) rfl ?_
  refine mm_sipush C (mm_dec dk_X12_init 35 rfl) ⟨by decide, by decide⟩ ?_
  refine mm_newa (atype := .long) (n := 75) (len := 400) C ac_long (mm_dec dk_X12_init 36 rfl) i16.2.2 (by decide) rfl (Or.inr (Or.inr ⟨rfl, rfl⟩)) rfl (by decide) (by decide) (by decide) ?_
  have k17 : mm_ke h (mm_nw h16) := mm_ke_nw k16 i16 (by decide)
  have i17 : mm_inp [(66, 1), (66, 2), (66, 16), (66, 17), (66, 20), (66, 25), (66, 26), (66, 27), (66, 28), (66, 29), (66, 30), (66, 31), (66, 32), (66, 33), (66, 34), (66, 35), (66, 36), (66, 37), (66, 38), (66, 42), (66, 43), (66, 44), (66, 45), (66, 46), (66, 47), (66, 49), (66, 50), (66, 51), (66, 55), (66, 72), (66, 73), (66, 74), (66, 75), (66, 76), (66, 77), (66, 78), (66, 79), (66, 80), (66, 81), (66, 83), (66, 84), (66, 85), (66, 86), (66, 90), (66, 92), (66, 93), (66, 94), (66, 98), (66, 99), (66, 100), (66, 101)] 76 (mm_nw h16) := mm_inp_nw i16 (by decide) rfl (by decide +kernel) (by decide +kernel)
  obtain ⟨h17, eh17⟩ : ∃ z, z = mm_nw h16 := ⟨_, rfl⟩
  rw [← eh17] at i17 k17 ⊢
  clear eh17
  refine mm_putrF C fl_X12_35 (mm_dec dk_X12_init 37 rfl) rfl rfl rfl hnm rfl (fun q => ⟨rfl, rfl⟩) (by decide) ?_
  have k18 : mm_ke h (mm_pf h17 66 16 1) := mm_ke_pf k17
  have i18 : mm_inp [(66, 1), (66, 2), (66, 17), (66, 20), (66, 25), (66, 26), (66, 27), (66, 28), (66, 29), (66, 30), (66, 31), (66, 32), (66, 33), (66, 34), (66, 35), (66, 36), (66, 37), (66, 38), (66, 42), (66, 43), (66, 44), (66, 45), (66, 46), (66, 47), (66, 49), (66, 50), (66, 51), (66, 55), (66, 72), (66, 73), (66, 74), (66, 75), (66, 76), (66, 77), (66, 78), (66, 79), (66, 80), (66, 81), (66, 83), (66, 84), (66, 85), (66, 86), (66, 90), (66, 92), (66, 93), (66, 94), (66, 98), (66, 99), (66, 100), (66, 101)] 76 (mm_pf h17 66 16 1) := mm_inp_pf i17 (show 1 ≤ 1 ∧ 1 ≤ 1 by decide) (by decide +kernel)
  obtain ⟨h18, eh18⟩ : ∃ z, z = mm_pf h17 66 16 1 := ⟨_, rfl⟩
  rw [← eh18] at i18 k18 ⊢
  clear eh18
  refine mm_aload_n C (mm_dec dk_X12_init 38 rfl) rfl ?_
  refine mm_sipush C (mm_dec dk_X12_init 39 rfl) ⟨by decide, by decide⟩ ?_
  refine mm_newa (atype := .boolean) (n := 76) (len := 400) C ac_boolean (mm_dec dk_X12_init 40 rfl) i18.2.2 (by decide) rfl (Or.inr (Or.inl ⟨rfl, rfl⟩)) rfl (by decide) (by decide) (by decide) ?_
  have k19 : mm_ke h (mm_nw h18) := mm_ke_nw k18 i18 (by decide)
  have i19 : mm_inp [(66, 1), (66, 2), (66, 17), (66, 20), (66, 25), (66, 26), (66, 27), (66, 28), (66, 29), (66, 30), (66, 31), (66, 32), (66, 33), (66, 34), (66, 35), (66, 36), (66, 37), (66, 38), (66, 42), (66, 43), (66, 44), (66, 45), (66, 46), (66, 47), (66, 49), (66, 50), (66, 51), (66, 55), (66, 72), (66, 73), (66, 74), (66, 75), (66, 76), (66, 77), (66, 78), (66, 79), (66, 80), (66, 81), (66, 83), (66, 84), (66, 85), (66, 86), (66, 90), (66, 92), (66, 93), (66, 94), (66, 98), (66, 99), (66, 100), (66, 101)] 77 (mm_nw h18) := mm_inp_nw i18 (by decide) rfl (by decide +kernel) (by decide +kernel)
  obtain ⟨h19, eh19⟩ : ∃ z, z = mm_nw h18 := ⟨_, rfl⟩
  rw [← eh19] at i19 k19 ⊢
  clear eh19
  refine mm_putrF C fl_X12_39 (mm_dec dk_X12_init 41 rfl) rfl rfl rfl hnm rfl (fun q => ⟨rfl, rfl⟩) (by decide) ?_
  have k20 : mm_ke h (mm_pf h19 66 17 1) := mm_ke_pf k19
  have i20 : mm_inp [(66, 1), (66, 2), (66, 20), (66, 25), (66, 26), (66, 27), (66, 28), (66, 29), (66, 30), (66, 31), (66, 32), (66, 33), (66, 34), (66, 35), (66, 36), (66, 37), (66, 38), (66, 42), (66, 43), (66, 44), (66, 45), (66, 46), (66, 47), (66, 49), (66, 50), (66, 51), (66, 55), (66, 72), (66, 73), (66, 74), (66, 75), (66, 76), (66, 77), (66, 78), (66, 79), (66, 80), (66, 81), (66, 83), (66, 84), (66, 85), (66, 86), (66, 90), (66, 92), (66, 93), (66, 94), (66, 98), (66, 99), (66, 100), (66, 101)] 77 (mm_pf h19 66 17 1) := mm_inp_pf i19 (show 1 ≤ 1 ∧ 1 ≤ 1 by decide) (by decide +kernel)
  obtain ⟨h20, eh20⟩ : ∃ z, z = mm_pf h19 66 17 1 := ⟨_, rfl⟩
  rw [← eh20] at i20 k20 ⊢
  clear eh20
  refine mm_aload_n C (mm_dec dk_X12_init 42 rfl) rfl ?_
  refine mm_sipush C (mm_dec dk_X12_init 43 rfl) ⟨by decide, by decide⟩ ?_
  refine mm_newa (atype := .int) (n := 77) (len := 400) C ac_int (mm_dec dk_X12_init 44 rfl) i20.2.2 (by decide) rfl (Or.inl ⟨rfl, rfl⟩) rfl (by decide) (by decide) (by decide) ?_
  have k21 : mm_ke h (mm_nw h20) := mm_ke_nw k20 i20 (by decide)
  have i21 : mm_inp [(66, 1), (66, 2), (66, 20), (66, 25), (66, 26), (66, 27), (66, 28), (66, 29), (66, 30), (66, 31), (66, 32), (66, 33), (66, 34), (66, 35), (66, 36), (66, 37), (66, 38), (66, 42), (66, 43), (66, 44), (66, 45), (66, 46), (66, 47), (66, 49), (66, 50), (66, 51), (66, 55), (66, 72), (66, 73), (66, 74), (66, 75), (66, 76), (66, 77), (66, 78), (66, 79), (66, 80), (66, 81), (66, 83), (66, 84), (66, 85), (66, 86), (66, 90), (66, 92), (66, 93), (66, 94), (66, 98), (66, 99), (66, 100), (66, 101)] 78 (mm_nw h20) := mm_inp_nw i20 (by decide) rfl (by decide +kernel) (by decide +kernel)
  obtain ⟨h21, eh21⟩ : ∃ z, z = mm_nw h20 := ⟨_, rfl⟩
  rw [← eh21] at i21 k21 ⊢
  clear eh21
  refine mm_putrF C fl_X12_42 (mm_dec dk_X12_init 45 rfl) rfl rfl rfl hnm rfl (fun q => ⟨rfl, rfl⟩) (by decide) ?_
  have k22 : mm_ke h (mm_pf h21 66 20 1) := mm_ke_pf k21
  have i22 : mm_inp [(66, 1), (66, 2), (66, 25), (66, 26), (66, 27), (66, 28), (66, 29), (66, 30), (66, 31), (66, 32), (66, 33), (66, 34), (66, 35), (66, 36), (66, 37), (66, 38), (66, 42), (66, 43), (66, 44), (66, 45), (66, 46), (66, 47), (66, 49), (66, 50), (66, 51), (66, 55), (66, 72), (66, 73), (66, 74), (66, 75), (66, 76), (66, 77), (66, 78), (66, 79), (66, 80), (66, 81), (66, 83), (66, 84), (66, 85), (66, 86), (66, 90), (66, 92), (66, 93), (66, 94), (66, 98), (66, 99), (66, 100), (66, 101)] 78 (mm_pf h21 66 20 1) := mm_inp_pf i21 (show 1 ≤ 1 ∧ 1 ≤ 1 by decide) (by decide +kernel)
  obtain ⟨h22, eh22⟩ : ∃ z, z = mm_pf h21 66 20 1 := ⟨_, rfl⟩
  rw [← eh22] at i22 k22 ⊢
  clear eh22
  refine mm_aload_n C (mm_dec dk_X12_init 46 rfl) rfl ?_
  refine mm_bipush C (mm_dec dk_X12_init 47 rfl) ⟨by decide, by decide⟩ ?_
  refine mm_newa (atype := .int) (n := 78) (len := 20) C ac_int (mm_dec dk_X12_init 48 rfl) i22.2.2 (by decide) rfl (Or.inl ⟨rfl, rfl⟩) rfl (by decide) (by decide) (by decide) ?_
  have k23 : mm_ke h (mm_nw h22) := mm_ke_nw k22 i22 (by decide)
  have i23 : mm_inp [(66, 1), (66, 2), (66, 25), (66, 26), (66, 27), (66, 28), (66, 29), (66, 30), (66, 31), (66, 32), (66, 33), (66, 34), (66, 35), (66, 36), (66, 37), (66, 38), (66, 42), (66, 43), (66, 44), (66, 45), (66, 46), (66, 47), (66, 49), (66, 50), (66, 51), (66, 55), (66, 72), (66, 73), (66, 74), (66, 75), (66, 76), (66, 77), (66, 78), (66, 79), (66, 80), (66, 81), (66, 83), (66, 84), (66, 85), (66, 86), (66, 90), (66, 92), (66, 93), (66, 94), (66, 98), (66, 99), (66, 100), (66, 101)] 79 (mm_nw h22) := mm_inp_nw i22 (by decide) rfl (by decide +kernel) (by decide +kernel)
  obtain ⟨h23, eh23⟩ : ∃ z, z = mm_nw h22 := ⟨_, rfl⟩
  rw [← eh23] at i23 k23 ⊢
  clear eh23
  refine mm_putrF C fl_X12_45 (mm_dec dk_X12_init 49 rfl) rfl rfl rfl hnm rfl (fun q => ⟨rfl, rfl⟩) (by decide) ?_
  have k24 : mm_ke h (mm_pf h23 66 25 1) := mm_ke_pf k23
  have i24 : mm_inp [(66, 1), (66, 2), (66, 26), (66, 27), (66, 28), (66, 29), (66, 30), (66, 31), (66, 32), (66, 33), (66, 34), (66, 35), (66, 36), (66, 37), (66, 38), (66, 42), (66, 43), (66, 44), (66, 45), (66, 46), (66, 47), (66, 49), (66, 50), (66, 51), (66, 55), (66, 72), (66, 73), (66, 74), (66, 75), (66, 76), (66, 77), (66, 78), (66, 79), (66, 80), (66, 81), (66, 83), (66, 84), (66, 85), (66, 86), (66, 90), (66, 92), (66, 93), (66, 94), (66, 98), (66, 99), (66, 100), (66, 101)] 79 (mm_pf h23 66 25 1) := mm_inp_pf i23 (show 1 ≤ 1 ∧ 1 ≤ 1 by decide) (by decide +kernel)
  obtain ⟨h24, eh24⟩ : ∃ z, z = mm_pf h23 66 25 1 := ⟨_, rfl⟩
  rw [← eh24] at i24 k24 ⊢
  clear eh24
  refine mm_aload_n C (mm_dec dk_X12_init 50 rfl) rfl ?_
  refine mm_bipush C (mm_dec dk_X12_init 51 rfl) ⟨by decide, by decide⟩ ?_
  refine mm_newa (atype := .int) (n := 79) (len := 20) C ac_int (mm_dec dk_X12_init 52 rfl) i24.2.2 (by decide) rfl (Or.inl ⟨rfl, rfl⟩) rfl (by decide) (by decide) (by decide) ?_
  have k25 : mm_ke h (mm_nw h24) := mm_ke_nw k24 i24 (by decide)
  have i25 : mm_inp [(66, 1), (66, 2), (66, 26), (66, 27), (66, 28), (66, 29), (66, 30), (66, 31), (66, 32), (66, 33), (66, 34), (66, 35), (66, 36), (66, 37), (66, 38), (66, 42), (66, 43), (66, 44), (66, 45), (66, 46), (66, 47), (66, 49), (66, 50), (66, 51), (66, 55), (66, 72), (66, 73), (66, 74), (66, 75), (66, 76), (66, 77), (66, 78), (66, 79), (66, 80), (66, 81), (66, 83), (66, 84), (66, 85), (66, 86), (66, 90), (66, 92), (66, 93), (66, 94), (66, 98), (66, 99), (66, 100), (66, 101)] 80 (mm_nw h24) := mm_inp_nw i24 (by decide) rfl (by decide +kernel) (by decide +kernel)
  obtain ⟨h25, eh25⟩ : ∃ z, z = mm_nw h24 := ⟨_, rfl⟩
  rw [← eh25] at i25 k25 ⊢
  clear eh25
  refine mm_putrF C fl_X12_48 (mm_dec dk_X12_init 53 rfl) rfl rfl rfl hnm rfl (fun q => ⟨rfl, rfl⟩) (by decide) ?_
  have k26 : mm_ke h (mm_pf h25 66 26 1) := mm_ke_pf k25
  have i26 : mm_inp [(66, 1), (66, 2), (66, 27), (66, 28), (66, 29), (66, 30), (66, 31), (66, 32), (66, 33), (66, 34), (66, 35), (66, 36), (66, 37), (66, 38), (66, 42), (66, 43), (66, 44), (66, 45), (66, 46), (66, 47), (66, 49), (66, 50), (66, 51), (66, 55), (66, 72), (66, 73), (66, 74), (66, 75), (66, 76), (66, 77), (66, 78), (66, 79), (66, 80), (66, 81), (66, 83), (66, 84), (66, 85), (66, 86), (66, 90), (66, 92), (66, 93), (66, 94), (66, 98), (66, 99), (66, 100), (66, 101)] 80 (mm_pf h25 66 26 1) := mm_inp_pf i25 (show 1 ≤ 1 ∧ 1 ≤ 1 by decide) (by decide +kernel)
  obtain ⟨h26, eh26⟩ : ∃ z, z = mm_pf h25 66 26 1 := ⟨_, rfl⟩
  rw [← eh26] at i26 k26 ⊢
  clear eh26
  refine mm_aload_n C (mm_dec dk_X12_init 54 rfl) rfl ?_
  refine mm_bipush C (mm_dec dk_X12_init 55 rfl) ⟨by decide, by decide⟩ ?_
  refine mm_newa (atype := .int) (n := 80) (len := 8) C ac_int (mm_dec dk_X12_init 56 rfl) i26.2.2 (by decide) rfl (Or.inl ⟨rfl, rfl⟩) rfl (by decide) (by decide) (by decide) ?_
  have k27 : mm_ke h (mm_nw h26) := mm_ke_nw k26 i26 (by decide)
  have i27 : mm_inp [(66, 1), (66, 2), (66, 27), (66, 28), (66, 29), (66, 30), (66, 31), (66, 32), (66, 33), (66, 34), (66, 35), (66, 36), (66, 37), (66, 38), (66, 42), (66, 43), (66, 44), (66, 45), (66, 46), (66, 47), (66, 49), (66, 50), (66, 51), (66, 55), (66, 72), (66, 73), (66, 74), (66, 75), (66, 76), (66, 77), (66, 78), (66, 79), (66, 80), (66, 81), (66, 83), (66, 84), (66, 85), (66, 86), (66, 90), (66, 92), (66, 93), (66, 94), (66, 98), (66, 99), (66, 100), (66, 101)] 81 (mm_nw h26) := mm_inp_nw i26 (by decide) rfl (by decide +kernel) (by decide +kernel)
  obtain ⟨h27, eh27⟩ : ∃ z, z = mm_nw h26 := ⟨_, rfl⟩
  rw [← eh27] at i27 k27 ⊢
  clear eh27
  refine mm_putrF C fl_X12_51 (mm_dec dk_X12_init 57 rfl) rfl rfl rfl hnm rfl (fun q => ⟨rfl, rfl⟩) (by decide) ?_
  have k28 : mm_ke h (mm_pf h27 66 27 1) := mm_ke_pf k27
  have i28 : mm_inp [(66, 1), (66, 2), (66, 28), (66, 29), (66, 30), (66, 31), (66, 32), (66, 33), (66, 34), (66, 35), (66, 36), (66, 37), (66, 38), (66, 42), (66, 43), (66, 44), (66, 45), (66, 46), (66, 47), (66, 49), (66, 50), (66, 51), (66, 55), (66, 72), (66, 73), (66, 74), (66, 75), (66, 76), (66, 77), (66, 78), (66, 79), (66, 80), (66, 81), (66, 83), (66, 84), (66, 85), (66, 86), (66, 90), (66, 92), (66, 93), (66, 94), (66, 98), (66, 99), (66, 100), (66, 101)] 81 (mm_pf h27 66 27 1) := mm_inp_pf i27 (show 1 ≤ 1 ∧ 1 ≤ 1 by decide) (by decide +kernel)
  obtain ⟨h28, eh28⟩ : ∃ z, z = mm_pf h27 66 27 1 := ⟨_, rfl⟩
  rw [← eh28] at i28 k28 ⊢
  clear eh28
  refine mm_aload_n C (mm_dec dk_X12_init 58 rfl) rfl ?_
  refine mm_bipush C (mm_dec dk_X12_init 59 rfl) ⟨by decide, by decide⟩ ?_
  refine mm_newa (atype := .int) (n := 81) (len := 8) C ac_int (mm_dec dk_X12_init 60 rfl) i28.2.2 (by decide) rfl (Or.inl ⟨rfl, rfl⟩) rfl (by decide) (by decide) (by decide) ?_
  have k29 : mm_ke h (mm_nw h28) := mm_ke_nw k28 i28 (by decide)
  have i29 : mm_inp [(66, 1), (66, 2), (66, 28), (66, 29), (66, 30), (66, 31), (66, 32), (66, 33), (66, 34), (66, 35), (66, 36), (66, 37), (66, 38), (66, 42), (66, 43), (66, 44), (66, 45), (66, 46), (66, 47), (66, 49), (66, 50), (66, 51), (66, 55), (66, 72), (66, 73), (66, 74), (66, 75), (66, 76), (66, 77), (66, 78), (66, 79), (66, 80), (66, 81), (66, 83), (66, 84), (66, 85), (66, 86), (66, 90), (66, 92), (66, 93), (66, 94), (66, 98), (66, 99), (66, 100), (66, 101)] 82 (mm_nw h28) := mm_inp_nw i28 (by decide) rfl (by decide +kernel) (by decide +kernel)
  obtain ⟨h29, eh29⟩ : ∃ z, z = mm_nw h28 := ⟨_, rfl⟩
  rw [← eh29] at i29 k29 ⊢
  clear eh29
  refine mm_putrF C fl_X12_54 (mm_dec dk_X12_init 61 rfl) rfl rfl rfl hnm rfl (fun q => ⟨rfl, rfl⟩) (by decide) ?_
  have k30 : mm_ke h (mm_pf h29 66 28 1) := mm_ke_pf k29
  have i30 : mm_inp [(66, 1), (66, 2), (66, 29), (66, 30), (66, 31), (66, 32), (66, 33), (66, 34), (66, 35), (66, 36), (66, 37), (66, 38), (66, 42), (66, 43), (66, 44), (66, 45), (66, 46), (66, 47), (66, 49), (66, 50), (66, 51), (66, 55), (66, 72), (66, 73), (66, 74), (66, 75), (66, 76), (66, 77), (66, 78), (66, 79), (66, 80), (66, 81), (66, 83), (66, 84), (66, 85), (66, 86), (66, 90), (66, 92), (66, 93), (66, 94), (66, 98), (66, 99), (66, 100), (66, 101)] 82 (mm_pf h29 66 28 1) := mm_inp_pf i29 (show 1 ≤ 1 ∧ 1 ≤ 1 by decide) (by decide +kernel)
  obtain ⟨h30, eh30⟩ : ∃ z, z = mm_pf h29 66 28 1 := ⟨_, rfl⟩
  rw [← eh30] at i30 k30 ⊢
  clear eh30
  refine mm_aload_n C (mm_dec dk_X12_init 62 rfl) rfl ?_
  refine mm_sipush C (mm_dec dk_X12_init 63 rfl) ⟨by decide, by decide⟩ ?_
  refine mm_newa (atype := .int) (n := 82) (len := 288) C ac_int (mm_dec dk_X12_init 64 rfl) i30.2.2 (by decide) rfl (Or.inl ⟨rfl, rfl⟩) rfl (by decide) (by decide) (by decide) ?_
  have k31 : mm_ke h (mm_nw h30) := mm_ke_nw k30 i30 (by decide)
  have i31 : mm_inp [(66, 1), (66, 2), (66, 29), (66, 30), (66, 31), (66, 32), (66, 33), (66, 34), (66, 35), (66, 36), (66, 37), (66, 38), (66, 42), (66, 43), (66, 44), (66, 45), (66, 46), (66, 47), (66, 49), (66, 50), (66, 51), (66, 55), (66, 72), (66, 73), (66, 74), (66, 75), (66, 76), (66, 77), (66, 78), (66, 79), (66, 80), (66, 81), (66, 83), (66, 84), (66, 85), (66, 86), (66, 90), (66, 92), (66, 93), (66, 94), (66, 98), (66, 99), (66, 100), (66, 101)] 83 (mm_nw h30) := mm_inp_nw i30 (by decide) rfl (by decide +kernel) (by decide +kernel)
  obtain ⟨h31, eh31⟩ : ∃ z, z = mm_nw h30 := ⟨_, rfl⟩
  rw [← eh31] at i31 k31 ⊢
  clear eh31
  refine mm_putrF C fl_X12_57 (mm_dec dk_X12_init 65 rfl) rfl rfl rfl hnm rfl (fun q => ⟨rfl, rfl⟩) (by decide) ?_
  have k32 : mm_ke h (mm_pf h31 66 29 1) := mm_ke_pf k31
  have i32 : mm_inp [(66, 1), (66, 2), (66, 30), (66, 31), (66, 32), (66, 33), (66, 34), (66, 35), (66, 36), (66, 37), (66, 38), (66, 42), (66, 43), (66, 44), (66, 45), (66, 46), (66, 47), (66, 49), (66, 50), (66, 51), (66, 55), (66, 72), (66, 73), (66, 74), (66, 75), (66, 76), (66, 77), (66, 78), (66, 79), (66, 80), (66, 81), (66, 83), (66, 84), (66, 85), (66, 86), (66, 90), (66, 92), (66, 93), (66, 94), (66, 98), (66, 99), (66, 100), (66, 101)] 83 (mm_pf h31 66 29 1) := mm_inp_pf i31 (show 1 ≤ 1 ∧ 1 ≤ 1 by decide) (by decide +kernel)
  obtain ⟨h32, eh32⟩ : ∃ z, z = mm_pf h31 66 29 1 := ⟨_, rfl⟩
  rw [← eh32] at i32 k32 ⊢
  clear eh32
  refine mm_aload_n C (mm_dec dk_X12_init 66 rfl) rfl ?_
  refine mm_bipush C (mm_dec dk_X12_init 67 rfl) ⟨by decide, by decide⟩ ?_
  refine mm_newa (atype := .boolean) (n := 83) (len := 8) C ac_boolean (mm_dec dk_X12_init 68 rfl) i32.2.2 (by decide) rfl (Or.inr (Or.inl ⟨rfl, rfl⟩)) rfl (by decide) (by decide) (by decide) ?_
  have k33 : mm_ke h (mm_nw h32) := mm_ke_nw k32 i32 (by decide)
  have i33 : mm_inp [(66, 1), (66, 2), (66, 30), (66, 31), (66, 32), (66, 33), (66, 34), (66, 35), (66, 36), (66, 37), (66, 38), (66, 42), (66, 43), (66, 44), (66, 45), (66, 46), (66, 47), (66, 49), (66, 50), (66, 51), (66, 55), (66, 72), (66, 73), (66, 74), (66, 75), (66, 76), (66, 77), (66, 78), (66, 79), (66, 80), (66, 81), (66, 83), (66, 84), (66, 85), (66, 86), (66, 90), (66, 92), (66, 93), (66, 94), (66, 98), (66, 99), (66, 100), (66, 101)] 84 (mm_nw h32) := mm_inp_nw i32 (by decide) rfl (by decide +kernel) (by decide +kernel)
  obtain ⟨h33, eh33⟩ : ∃ z, z = mm_nw h32 := ⟨_, rfl⟩
  rw [← eh33] at i33 k33 ⊢
  clear eh33
  refine mm_putrF C fl_X12_60 (mm_dec dk_X12_init 69 rfl) rfl rfl rfl hnm rfl (fun q => ⟨rfl, rfl⟩) (by decide) ?_
  have k34 : mm_ke h (mm_pf h33 66 30 1) := mm_ke_pf k33
  have i34 : mm_inp [(66, 1), (66, 2), (66, 31), (66, 32), (66, 33), (66, 34), (66, 35), (66, 36), (66, 37), (66, 38), (66, 42), (66, 43), (66, 44), (66, 45), (66, 46), (66, 47), (66, 49), (66, 50), (66, 51), (66, 55), (66, 72), (66, 73), (66, 74), (66, 75), (66, 76), (66, 77), (66, 78), (66, 79), (66, 80), (66, 81), (66, 83), (66, 84), (66, 85), (66, 86), (66, 90), (66, 92), (66, 93), (66, 94), (66, 98), (66, 99), (66, 100), (66, 101)] 84 (mm_pf h33 66 30 1) := mm_inp_pf i33 (show 1 ≤ 1 ∧ 1 ≤ 1 by decide) (by decide +kernel)
  obtain ⟨h34, eh34⟩ : ∃ z, z = mm_pf h33 66 30 1 := ⟨_, rfl⟩
  rw [← eh34] at i34 k34 ⊢
  clear eh34
  refine mm_aload_n C (mm_dec dk_X12_init 70 rfl) rfl ?_
  refine mm_bipush C (mm_dec dk_X12_init 71 rfl) ⟨by decide, by decide⟩ ?_
  refine mm_newa (atype := .boolean) (n := 84) (len := 96) C ac_boolean (mm_dec dk_X12_init 72 rfl) i34.2.2 (by decide) rfl (Or.inr (Or.inl ⟨rfl, rfl⟩)) rfl (by decide) (by decide) (by decide) ?_
  have k35 : mm_ke h (mm_nw h34) := mm_ke_nw k34 i34 (by decide)
  have i35 : mm_inp [(66, 1), (66, 2), (66, 31), (66, 32), (66, 33), (66, 34), (66, 35), (66, 36), (66, 37), (66, 38), (66, 42), (66, 43), (66, 44), (66, 45), (66, 46), (66, 47), (66, 49), (66, 50), (66, 51), (66, 55), (66, 72), (66, 73), (66, 74), (66, 75), (66, 76), (66, 77), (66, 78), (66, 79), (66, 80), (66, 81), (66, 83), (66, 84), (66, 85), (66, 86), (66, 90), (66, 92), (66, 93), (66, 94), (66, 98), (66, 99), (66, 100), (66, 101)] 85 (mm_nw h34) := mm_inp_nw i34 (by decide) rfl (by decide +kernel) (by decide +kernel)
  obtain ⟨h35, eh35⟩ : ∃ z, z = mm_nw h34 := ⟨_, rfl⟩
  rw [← eh35] at i35 k35 ⊢
  clear eh35
  refine mm_putrF C fl_X12_63 (mm_dec dk_X12_init 73 rfl) rfl rfl rfl hnm rfl (fun q => ⟨rfl, rfl⟩) (by decide) ?_
  have k36 : mm_ke h (mm_pf h35 66 31 1) := mm_ke_pf k35
  have i36 : mm_inp [(66, 1), (66, 2), (66, 32), (66, 33), (66, 34), (66, 35), (66, 36), (66, 37), (66, 38), (66, 42), (66, 43), (66, 44), (66, 45), (66, 46), (66, 47), (66, 49), (66, 50), (66, 51), (66, 55), (66, 72), (66, 73), (66, 74), (66, 75), (66, 76), (66, 77), (66, 78), (66, 79), (66, 80), (66, 81), (66, 83), (66, 84), (66, 85), (66, 86), (66, 90), (66, 92), (66, 93), (66, 94), (66, 98), (66, 99), (66, 100), (66, 101)] 85 (mm_pf h35 66 31 1) := mm_inp_pf i35 (show 1 ≤ 1 ∧ 1 ≤ 1 by decide) (by decide +kernel)
  obtain ⟨h36, eh36⟩ : ∃ z, z = mm_pf h35 66 31 1 := ⟨_, rfl⟩
  rw [← eh36] at i36 k36 ⊢
  clear eh36
  refine mm_aload_n C (mm_dec dk_X12_init 74 rfl) rfl ?_
  refine mm_bipush C (mm_dec dk_X12_init 75 rfl) ⟨by decide, by decide⟩ ?_
  refine mm_newa (atype := .int) (n := 85) (len := 40) C ac_int (mm_dec dk_X12_init 76 rfl) i36.2.2 (by decide) rfl (Or.inl ⟨rfl, rfl⟩) rfl (by decide) (by decide) (by decide) ?_
  have k37 : mm_ke h (mm_nw h36) := mm_ke_nw k36 i36 (by decide)
  have i37 : mm_inp [(66, 1), (66, 2), (66, 32), (66, 33), (66, 34), (66, 35), (66, 36), (66, 37), (66, 38), (66, 42), (66, 43), (66, 44), (66, 45), (66, 46), (66, 47), (66, 49), (66, 50), (66, 51), (66, 55), (66, 72), (66, 73), (66, 74), (66, 75), (66, 76), (66, 77), (66, 78), (66, 79), (66, 80), (66, 81), (66, 83), (66, 84), (66, 85), (66, 86), (66, 90), (66, 92), (66, 93), (66, 94), (66, 98), (66, 99), (66, 100), (66, 101)] 86 (mm_nw h36) := mm_inp_nw i36 (by decide) rfl (by decide +kernel) (by decide +kernel)
  obtain ⟨h37, eh37⟩ : ∃ z, z = mm_nw h36 := ⟨_, rfl⟩
  rw [← eh37] at i37 k37 ⊢
  clear eh37
  refine mm_putrF C fl_X12_66 (mm_dec dk_X12_init 77 rfl) rfl rfl rfl hnm rfl (fun q => ⟨rfl, rfl⟩) (by decide) ?_
  have k38 : mm_ke h (mm_pf h37 66 32 1) := mm_ke_pf k37
  have i38 : mm_inp [(66, 1), (66, 2), (66, 33), (66, 34), (66, 35), (66, 36), (66, 37), (66, 38), (66, 42), (66, 43), (66, 44), (66, 45), (66, 46), (66, 47), (66, 49), (66, 50), (66, 51), (66, 55), (66, 72), (66, 73), (66, 74), (66, 75), (66, 76), (66, 77), (66, 78), (66, 79), (66, 80), (66, 81), (66, 83), (66, 84), (66, 85), (66, 86), (66, 90), (66, 92), (66, 93), (66, 94), (66, 98), (66, 99), (66, 100), (66, 101)] 86 (mm_pf h37 66 32 1) := mm_inp_pf i37 (show 1 ≤ 1 ∧ 1 ≤ 1 by decide) (by decide +kernel)
  obtain ⟨h38, eh38⟩ : ∃ z, z = mm_pf h37 66 32 1 := ⟨_, rfl⟩
  rw [← eh38] at i38 k38 ⊢
  clear eh38
  refine mm_aload_n C (mm_dec dk_X12_init 78 rfl) rfl ?_
  refine mm_bipush C (mm_dec dk_X12_init 79 rfl) ⟨by decide, by decide⟩ ?_
  refine mm_newa (atype := .int) (n := 86) (len := 40) C ac_int (mm_dec dk_X12_init 80 rfl) i38.2.2 (by decide) rfl (Or.inl ⟨rfl, rfl⟩) rfl (by decide) (by decide) (by decide) ?_
  have k39 : mm_ke h (mm_nw h38) := mm_ke_nw k38 i38 (by decide)
  have i39 : mm_inp [(66, 1), (66, 2), (66, 33), (66, 34), (66, 35), (66, 36), (66, 37), (66, 38), (66, 42), (66, 43), (66, 44), (66, 45), (66, 46), (66, 47), (66, 49), (66, 50), (66, 51), (66, 55), (66, 72), (66, 73), (66, 74), (66, 75), (66, 76), (66, 77), (66, 78), (66, 79), (66, 80), (66, 81), (66, 83), (66, 84), (66, 85), (66, 86), (66, 90), (66, 92), (66, 93), (66, 94), (66, 98), (66, 99), (66, 100), (66, 101)] 87 (mm_nw h38) := mm_inp_nw i38 (by decide) rfl (by decide +kernel) (by decide +kernel)
  obtain ⟨h39, eh39⟩ : ∃ z, z = mm_nw h38 := ⟨_, rfl⟩
  rw [← eh39] at i39 k39 ⊢
  clear eh39
  refine mm_putrF C fl_X12_69 (mm_dec dk_X12_init 81 rfl) rfl rfl rfl hnm rfl (fun q => ⟨rfl, rfl⟩) (by decide) ?_
  have k40 : mm_ke h (mm_pf h39 66 33 1) := mm_ke_pf k39
  have i40 : mm_inp [(66, 1), (66, 2), (66, 34), (66, 35), (66, 36), (66, 37), (66, 38), (66, 42), (66, 43), (66, 44), (66, 45), (66, 46), (66, 47), (66, 49), (66, 50), (66, 51), (66, 55), (66, 72), (66, 73), (66, 74), (66, 75), (66, 76), (66, 77), (66, 78), (66, 79), (66, 80), (66, 81), (66, 83), (66, 84), (66, 85), (66, 86), (66, 90), (66, 92), (66, 93), (66, 94), (66, 98), (66, 99), (66, 100), (66, 101)] 87 (mm_pf h39 66 33 1) := mm_inp_pf i39 (show 1 ≤ 1 ∧ 1 ≤ 1 by decide) (by decide +kernel)
  obtain ⟨h40, eh40⟩ : ∃ z, z = mm_pf h39 66 33 1 := ⟨_, rfl⟩
  rw [← eh40] at i40 k40 ⊢
  clear eh40
  refine mm_aload_n C (mm_dec dk_X12_init 82 rfl) rfl ?_
  refine mm_bipush C (mm_dec dk_X12_init 83 rfl) ⟨by decide, by decide⟩ ?_
  refine mm_newa (atype := .int) (n := 87) (len := 40) C ac_int (mm_dec dk_X12_init 84 rfl) i40.2.2 (by decide) rfl (Or.inl ⟨rfl, rfl⟩) rfl (by decide) (by decide) (by decide) ?_
  have k41 : mm_ke h (mm_nw h40) := mm_ke_nw k40 i40 (by decide)
  have i41 : mm_inp [(66, 1), (66, 2), (66, 34), (66, 35), (66, 36), (66, 37), (66, 38), (66, 42), (66, 43), (66, 44), (66, 45), (66, 46), (66, 47), (66, 49), (66, 50), (66, 51), (66, 55), (66, 72), (66, 73), (66, 74), (66, 75), (66, 76), (66, 77), (66, 78), (66, 79), (66, 80), (66, 81), (66, 83), (66, 84), (66, 85), (66, 86), (66, 90), (66, 92), (66, 93), (66, 94), (66, 98), (66, 99), (66, 100), (66, 101)] 88 (mm_nw h40) := mm_inp_nw i40 (by decide) rfl (by decide +kernel) (by decide +kernel)
  obtain ⟨h41, eh41⟩ : ∃ z, z = mm_nw h40 := ⟨_, rfl⟩
  rw [← eh41] at i41 k41 ⊢
  clear eh41
  refine mm_putrF C fl_X12_72 (mm_dec dk_X12_init 85 rfl) rfl rfl rfl hnm rfl (fun q => ⟨rfl, rfl⟩) (by decide) ?_
  have k42 : mm_ke h (mm_pf h41 66 34 1) := mm_ke_pf k41
  have i42 : mm_inp [(66, 1), (66, 2), (66, 35), (66, 36), (66, 37), (66, 38), (66, 42), (66, 43), (66, 44), (66, 45), (66, 46), (66, 47), (66, 49), (66, 50), (66, 51), (66, 55), (66, 72), (66, 73), (66, 74), (66, 75), (66, 76), (66, 77), (66, 78), (66, 79), (66, 80), (66, 81), (66, 83), (66, 84), (66, 85), (66, 86), (66, 90), (66, 92), (66, 93), (66, 94), (66, 98), (66, 99), (66, 100), (66, 101)] 88 (mm_pf h41 66 34 1) := mm_inp_pf i41 (show 1 ≤ 1 ∧ 1 ≤ 1 by decide) (by decide +kernel)
  obtain ⟨h42, eh42⟩ : ∃ z, z = mm_pf h41 66 34 1 := ⟨_, rfl⟩
  rw [← eh42] at i42 k42 ⊢
  clear eh42
  refine mm_aload_n C (mm_dec dk_X12_init 86 rfl) rfl ?_
  refine mm_bipush C (mm_dec dk_X12_init 87 rfl) ⟨by decide, by decide⟩ ?_
  refine mm_newa (atype := .int) (n := 88) (len := 40) C ac_int (mm_dec dk_X12_init 88 rfl) i42.2.2 (by decide) rfl (Or.inl ⟨rfl, rfl⟩) rfl (by decide) (by decide) (by decide) ?_
  have k43 : mm_ke h (mm_nw h42) := mm_ke_nw k42 i42 (by decide)
  have i43 : mm_inp [(66, 1), (66, 2), (66, 35), (66, 36), (66, 37), (66, 38), (66, 42), (66, 43), (66, 44), (66, 45), (66, 46), (66, 47), (66, 49), (66, 50), (66, 51), (66, 55), (66, 72), (66, 73), (66, 74), (66, 75), (66, 76), (66, 77), (66, 78), (66, 79), (66, 80), (66, 81), (66, 83), (66, 84), (66, 85), (66, 86), (66, 90), (66, 92), (66, 93), (66, 94), (66, 98), (66, 99), (66, 100), (66, 101)] 89 (mm_nw h42) := mm_inp_nw i42 (by decide) rfl (by decide +kernel) (by decide +kernel)
  obtain ⟨h43, eh43⟩ : ∃ z, z = mm_nw h42 := ⟨_, rfl⟩
  rw [← eh43] at i43 k43 ⊢
  clear eh43
  refine mm_putrF C fl_X12_75 (mm_dec dk_X12_init 89 rfl) rfl rfl rfl hnm rfl (fun q => ⟨rfl, rfl⟩) (by decide) ?_
  have k44 : mm_ke h (mm_pf h43 66 35 1) := mm_ke_pf k43
  have i44 : mm_inp [(66, 1), (66, 2), (66, 36), (66, 37), (66, 38), (66, 42), (66, 43), (66, 44), (66, 45), (66, 46), (66, 47), (66, 49), (66, 50), (66, 51), (66, 55), (66, 72), (66, 73), (66, 74), (66, 75), (66, 76), (66, 77), (66, 78), (66, 79), (66, 80), (66, 81), (66, 83), (66, 84), (66, 85), (66, 86), (66, 90), (66, 92), (66, 93), (66, 94), (66, 98), (66, 99), (66, 100), (66, 101)] 89 (mm_pf h43 66 35 1) := mm_inp_pf i43 (show 1 ≤ 1 ∧ 1 ≤ 1 by decide) (by decide +kernel)
  obtain ⟨h44, eh44⟩ : ∃ z, z = mm_pf h43 66 35 1 := ⟨_, rfl⟩
  rw [← eh44] at i44 k44 ⊢
  clear eh44
  refine mm_aload_n C (mm_dec dk_X12_init 90 rfl) rfl ?_
  refine mm_bipush C (mm_dec dk_X12_init 91 rfl) ⟨by decide, by decide⟩ ?_
  refine mm_newa (atype := .int) (n := 89) (len := 40) C ac_int (mm_dec dk_X12_init 92 rfl) i44.2.2 (by decide) rfl (Or.inl ⟨rfl, rfl⟩) rfl (by decide) (by decide) (by decide) ?_
  have k45 : mm_ke h (mm_nw h44) := mm_ke_nw k44 i44 (by decide)
  have i45 : mm_inp [(66, 1), (66, 2), (66, 36), (66, 37), (66, 38), (66, 42), (66, 43), (66, 44), (66, 45), (66, 46), (66, 47), (66, 49), (66, 50), (66, 51), (66, 55), (66, 72), (66, 73), (66, 74), (66, 75), (66, 76), (66, 77), (66, 78), (66, 79), (66, 80), (66, 81), (66, 83), (66, 84), (66, 85), (66, 86), (66, 90), (66, 92), (66, 93), (66, 94), (66, 98), (66, 99), (66, 100), (66, 101)] 90 (mm_nw h44) := mm_inp_nw i44 (by decide) rfl (by decide +kernel) (by decide +kernel)
  obtain ⟨h45, eh45⟩ : ∃ z, z = mm_nw h44 := ⟨_, rfl⟩
  rw [← eh45] at i45 k45 ⊢
  clear eh45
  refine mm_putrF C fl_X12_78 (mm_dec dk_X12_init 93 rfl) rfl rfl rfl hnm rfl (fun q => ⟨rfl, rfl⟩) (by decide) ?_
  have k46 : mm_ke h (mm_pf h45 66 36 1) := mm_ke_pf k45
  have i46 : mm_inp [(66, 1), (66, 2), (66, 37), (66, 38), (66, 42), (66, 43), (66, 44), (66, 45), (66, 46), (66, 47), (66, 49), (66, 50), (66, 51), (66, 55), (66, 72), (66, 73), (66, 74), (66, 75), (66, 76), (66, 77), (66, 78), (66, 79), (66, 80), (66, 81), (66, 83), (66, 84), (66, 85), (66, 86), (66, 90), (66, 92), (66, 93), (66, 94), (66, 98), (66, 99), (66, 100), (66, 101)] 90 (mm_pf h45 66 36 1) := mm_inp_pf i45 (show 1 ≤ 1 ∧ 1 ≤ 1 by decide) (by decide +kernel)
  obtain ⟨h46, eh46⟩ : ∃ z, z = mm_pf h45 66 36 1 := ⟨_, rfl⟩
  rw [← eh46] at i46 k46 ⊢
  clear eh46
  refine mm_aload_n C (mm_dec dk_X12_init 94 rfl) rfl ?_
  refine mm_bipush C (mm_dec dk_X12_init 95 rfl) ⟨by decide, by decide⟩ ?_
  refine mm_newa (atype := .int) (n := 90) (len := 30) C ac_int (mm_dec dk_X12_init 96 rfl) i46.2.2 (by decide) rfl (Or.inl ⟨rfl, rfl⟩) rfl (by decide) (by decide) (by decide) ?_
  have k47 : mm_ke h (mm_nw h46) := mm_ke_nw k46 i46 (by decide)
  have i47 : mm_inp [(66, 1), (66, 2), (66, 37), (66, 38), (66, 42), (66, 43), (66, 44), (66, 45), (66, 46), (66, 47), (66, 49), (66, 50), (66, 51), (66, 55), (66, 72), (66, 73), (66, 74), (66, 75), (66, 76), (66, 77), (66, 78), (66, 79), (66, 80), (66, 81), (66, 83), (66, 84), (66, 85), (66, 86), (66, 90), (66, 92), (66, 93), (66, 94), (66, 98), (66, 99), (66, 100), (66, 101)] 91 (mm_nw h46) := mm_inp_nw i46 (by decide) rfl (by decide +kernel) (by decide +kernel)
  obtain ⟨h47, eh47⟩ : ∃ z, z = mm_nw h46 := ⟨_, rfl⟩
  rw [← eh47] at i47 k47 ⊢
  clear eh47
  refine mm_putrF C fl_X12_81 (mm_dec dk_X12_init 97 rfl) rfl rfl rfl hnm rfl (fun q => ⟨rfl, rfl⟩) (by decide) ?_
  have k48 : mm_ke h (mm_pf h47 66 37 1) := mm_ke_pf k47
  have i48 : mm_inp [(66, 1), (66, 2), (66, 38), (66, 42), (66, 43), (66, 44), (66, 45), (66, 46), (66, 47), (66, 49), (66, 50), (66, 51), (66, 55), (66, 72), (66, 73), (66, 74), (66, 75), (66, 76), (66, 77), (66, 78), (66, 79), (66, 80), (66, 81), (66, 83), (66, 84), (66, 85), (66, 86), (66, 90), (66, 92), (66, 93), (66, 94), (66, 98), (66, 99), (66, 100), (66, 101)] 91 (mm_pf h47 66 37 1) := mm_inp_pf i47 (show 1 ≤ 1 ∧ 1 ≤ 1 by decide) (by decide +kernel)
  obtain ⟨h48, eh48⟩ : ∃ z, z = mm_pf h47 66 37 1 := ⟨_, rfl⟩
  rw [← eh48] at i48 k48 ⊢
  clear eh48
  refine mm_aload_n C (mm_dec dk_X12_init 98 rfl) rfl ?_
  refine mm_bipush C (mm_dec dk_X12_init 99 rfl) ⟨by decide, by decide⟩ ?_
  refine mm_newa (atype := .int) (n := 91) (len := 12) C ac_int (mm_dec dk_X12_init 100 rfl) i48.2.2 (by decide) rfl (Or.inl ⟨rfl, rfl⟩) rfl (by decide) (by decide) (by decide) ?_
  have k49 : mm_ke h (mm_nw h48) := mm_ke_nw k48 i48 (by decide)
  have i49 : mm_inp [(66, 1), (66, 2), (66, 38), (66, 42), (66, 43), (66, 44), (66, 45), (66, 46), (66, 47), (66, 49), (66, 50), (66, 51), (66, 55), (66, 72), (66, 73), (66, 74), (66, 75), (66, 76), (66, 77), (66, 78), (66, 79), (66, 80), (66, 81), (66, 83), (66, 84), (66, 85), (66, 86), (66, 90), (66, 92), (66, 93), (66, 94), (66, 98), (66, 99), (66, 100), (66, 101)] 92 (mm_nw h48) := mm_inp_nw i48 (by decide) rfl (by decide +kernel) (by decide +kernel)
  obtain ⟨h49, eh49⟩ : ∃ z, z = mm_nw h48 := ⟨_, rfl⟩
  rw [← eh49] at i49 k49 ⊢
  clear eh49
  refine mm_putrF C fl_X12_84 (mm_dec dk_X12_init 101 rfl) rfl rfl rfl hnm rfl (fun q => ⟨rfl, rfl⟩) (by decide) ?_
  have k50 : mm_ke h (mm_pf h49 66 38 1) := mm_ke_pf k49
  have i50 : mm_inp [(66, 1), (66, 2), (66, 42), (66, 43), (66, 44), (66, 45), (66, 46), (66, 47), (66, 49), (66, 50), (66, 51), (66, 55), (66, 72), (66, 73), (66, 74), (66, 75), (66, 76), (66, 77), (66, 78), (66, 79), (66, 80), (66, 81), (66, 83), (66, 84), (66, 85), (66, 86), (66, 90), (66, 92), (66, 93), (66, 94), (66, 98), (66, 99), (66, 100), (66, 101)] 92 (mm_pf h49 66 38 1) := mm_inp_pf i49 (show 1 ≤ 1 ∧ 1 ≤ 1 by decide) (by decide +kernel)
  obtain ⟨h50, eh50⟩ : ∃ z, z = mm_pf h49 66 38 1 := ⟨_, rfl⟩
  rw [← eh50] at i50 k50 ⊢
  clear eh50
  refine mm_aload_n C (mm_dec dk_X12_init 102 rfl) rfl ?_
  refine mm_sipush C (mm_dec dk_X12_init 103 rfl) ⟨by decide, by decide⟩ ?_
  refine mm_newa (atype := .int) (n := 92) (len := 500) C ac_int (mm_dec dk_X12_init 104 rfl) i50.2.2 (by decide) rfl (Or.inl ⟨rfl, rfl⟩) rfl (by decide) (by decide) (by decide) ?_
  have k51 : mm_ke h (mm_nw h50) := mm_ke_nw k50 i50 (by decide)
  have i51 : mm_inp [(66, 1), (66, 2), (66, 42), (66, 43), (66, 44), (66, 45), (66, 46), (66, 47), (66, 49), (66, 50), (66, 51), (66, 55), (66, 72), (66, 73), (66, 74), (66, 75), (66, 76), (66, 77), (66, 78), (66, 79), (66, 80), (66, 81), (66, 83), (66, 84), (66, 85), (66, 86), (66, 90), (66, 92), (66, 93), (66, 94), (66, 98), (66, 99), (66, 100), (66, 101)] 93 (mm_nw h50) := mm_inp_nw i50 (by decide) rfl (by decide +kernel) (by decide +kernel)
  obtain ⟨h51, eh51⟩ : ∃ z, z = mm_nw h50 := ⟨_, rfl⟩
  rw [← eh51] at i51 k51 ⊢
  clear eh51
  refine mm_putrF C fl_X12_87 (mm_dec dk_X12_init 105 rfl) rfl rfl rfl hnm rfl (fun q => ⟨rfl, rfl⟩) (by decide) ?_
  have k52 : mm_ke h (mm_pf h51 66 42 1) := mm_ke_pf k51
  have i52 : mm_inp [(66, 1), (66, 2), (66, 43), (66, 44), (66, 45), (66, 46), (66, 47), (66, 49), (66, 50), (66, 51), (66, 55), (66, 72), (66, 73), (66, 74), (66, 75), (66, 76), (66, 77), (66, 78), (66, 79), (66, 80), (66, 81), (66, 83), (66, 84), (66, 85), (66, 86), (66, 90), (66, 92), (66, 93), (66, 94), (66, 98), (66, 99), (66, 100), (66, 101)] 93 (mm_pf h51 66 42 1) := mm_inp_pf i51 (show 1 ≤ 1 ∧ 1 ≤ 1 by decide) (by decide +kernel)
  obtain ⟨h52, eh52⟩ : ∃ z, z = mm_pf h51 66 42 1 := ⟨_, rfl⟩
  rw [← eh52] at i52 k52 ⊢
  clear eh52
  refine mm_aload_n C (mm_dec dk_X12_init 106 rfl) rfl ?_
  refine mm_sipush C (mm_dec dk_X12_init 107 rfl) ⟨by decide, by decide⟩ ?_
  refine mm_newa (atype := .int) (n := 93) (len := 500) C ac_int (mm_dec dk_X12_init 108 rfl) i52.2.2 (by decide) rfl (Or.inl ⟨rfl, rfl⟩) rfl (by decide) (by decide) (by decide) ?_
  have k53 : mm_ke h (mm_nw h52) := mm_ke_nw k52 i52 (by decide)
  have i53 : mm_inp [(66, 1), (66, 2), (66, 43), (66, 44), (66, 45), (66, 46), (66, 47), (66, 49), (66, 50), (66, 51), (66, 55), (66, 72), (66, 73), (66, 74), (66, 75), (66, 76), (66, 77), (66, 78), (66, 79), (66, 80), (66, 81), (66, 83), (66, 84), (66, 85), (66, 86), (66, 90), (66, 92), (66, 93), (66, 94), (66, 98), (66, 99), (66, 100), (66, 101)] 94 (mm_nw h52) := mm_inp_nw i52 (by decide) rfl (by decide +kernel) (by decide +kernel)
  obtain ⟨h53, eh53⟩ : ∃ z, z = mm_nw h52 := ⟨_, rfl⟩
  rw [← eh53] at i53 k53 ⊢
  clear eh53
  refine mm_putrF C fl_X12_90 (mm_dec dk_X12_init 109 rfl) rfl rfl rfl hnm rfl (fun q => ⟨rfl, rfl⟩) (by decide) ?_
  have k54 : mm_ke h (mm_pf h53 66 43 1) := mm_ke_pf k53
  have i54 : mm_inp [(66, 1), (66, 2), (66, 44), (66, 45), (66, 46), (66, 47), (66, 49), (66, 50), (66, 51), (66, 55), (66, 72), (66, 73), (66, 74), (66, 75), (66, 76), (66, 77), (66, 78), (66, 79), (66, 80), (66, 81), (66, 83), (66, 84), (66, 85), (66, 86), (66, 90), (66, 92), (66, 93), (66, 94), (66, 98), (66, 99), (66, 100), (66, 101)] 94 (mm_pf h53 66 43 1) := mm_inp_pf i53 (show 1 ≤ 1 ∧ 1 ≤ 1 by decide) (by decide +kernel)
  obtain ⟨h54, eh54⟩ : ∃ z, z = mm_pf h53 66 43 1 := ⟨_, rfl⟩
  rw [← eh54] at i54 k54 ⊢
  clear eh54
  refine mm_aload_n C (mm_dec dk_X12_init 110 rfl) rfl ?_
  refine mm_sipush C (mm_dec dk_X12_init 111 rfl) ⟨by decide, by decide⟩ ?_
  refine mm_newa (atype := .int) (n := 94) (len := 500) C ac_int (mm_dec dk_X12_init 112 rfl) i54.2.2 (by decide) rfl (Or.inl ⟨rfl, rfl⟩) rfl (by decide) (by decide) (by decide) ?_
  have k55 : mm_ke h (mm_nw h54) := mm_ke_nw k54 i54 (by decide)
  have i55 : mm_inp [(66, 1), (66, 2), (66, 44), (66, 45), (66, 46), (66, 47), (66, 49), (66, 50), (66, 51), (66, 55), (66, 72), (66, 73), (66, 74), (66, 75), (66, 76), (66, 77), (66, 78), (66, 79), (66, 80), (66, 81), (66, 83), (66, 84), (66, 85), (66, 86), (66, 90), (66, 92), (66, 93), (66, 94), (66, 98), (66, 99), (66, 100), (66, 101)] 95 (mm_nw h54) := mm_inp_nw i54 (by decide) rfl (by decide +kernel) (by decide +kernel)
  obtain ⟨h55, eh55⟩ : ∃ z, z = mm_nw h54 := ⟨_, rfl⟩
  rw [← eh55] at i55 k55 ⊢
  clear eh55
  refine mm_putrF C fl_X12_93 (mm_dec dk_X12_init 113 rfl) rfl rfl rfl hnm rfl (fun q => ⟨rfl, rfl⟩) (by decide) ?_
  have k56 : mm_ke h (mm_pf h55 66 44 1) := mm_ke_pf k55
  have i56 : mm_inp [(66, 1), (66, 2), (66, 45), (66, 46), (66, 47), (66, 49), (66, 50), (66, 51), (66, 55), (66, 72), (66, 73), (66, 74), (66, 75), (66, 76), (66, 77), (66, 78), (66, 79), (66, 80), (66, 81), (66, 83), (66, 84), (66, 85), (66, 86), (66, 90), (66, 92), (66, 93), (66, 94), (66, 98), (66, 99), (66, 100), (66, 101)] 95 (mm_pf h55 66 44 1) := mm_inp_pf i55 (show 1 ≤ 1 ∧ 1 ≤ 1 by decide) (by decide +kernel)
  obtain ⟨h56, eh56⟩ : ∃ z, z = mm_pf h55 66 44 1 := ⟨_, rfl⟩
  rw [← eh56] at i56 k56 ⊢
  clear eh56
  refine mm_aload_n C (mm_dec dk_X12_init 114 rfl) rfl ?_
  refine mm_sipush C (mm_dec dk_X12_init 115 rfl) ⟨by decide, by decide⟩ ?_
  refine mm_newa (atype := .int) (n := 95) (len := 500) C ac_int (mm_dec dk_X12_init 116 rfl) i56.2.2 (by decide) rfl (Or.inl ⟨rfl, rfl⟩) rfl (by decide) (by decide) (by decide) ?_
  have k57 : mm_ke h (mm_nw h56) := mm_ke_nw k56 i56 (by decide)
  have i57 : mm_inp [(66, 1), (66, 2), (66, 45), (66, 46), (66, 47), (66, 49), (66, 50), (66, 51), (66, 55), (66, 72), (66, 73), (66, 74), (66, 75), (66, 76), (66, 77), (66, 78), (66, 79), (66, 80), (66, 81), (66, 83), (66, 84), (66, 85), (66, 86), (66, 90), (66, 92), (66, 93), (66, 94), (66, 98), (66, 99), (66, 100), (66, 101)] 96 (mm_nw h56) := mm_inp_nw i56 (by decide) rfl (by decide +kernel) (by decide +kernel)
  obtain ⟨h57, eh57⟩ : ∃ z, z = mm_nw h56 := ⟨_, rfl⟩
  rw [← eh57] at i57 k57 ⊢
  clear eh57
  refine mm_putrF C fl_X12_96 (mm_dec dk_X12_init 117 rfl) rfl rfl rfl hnm rfl (fun q => ⟨rfl, rfl⟩) (by decide) ?_
  have k58 : mm_ke h (mm_pf h57 66 45 1) := mm_ke_pf k57
  have i58 : mm_inp [(66, 1), (66, 2), (66, 46), (66, 47), (66, 49), (66, 50), (66, 51), (66, 55), (66, 72), (66, 73), (66, 74), (66, 75), (66, 76), (66, 77), (66, 78), (66, 79), (66, 80), (66, 81), (66, 83), (66, 84), (66, 85), (66, 86), (66, 90), (66, 92), (66, 93), (66, 94), (66, 98), (66, 99), (66, 100), (66, 101)] 96 (mm_pf h57 66 45 1) := mm_inp_pf i57 (show 1 ≤ 1 ∧ 1 ≤ 1 by decide) (by decide +kernel)
  obtain ⟨h58, eh58⟩ : ∃ z, z = mm_pf h57 66 45 1 := ⟨_, rfl⟩
  rw [← eh58] at i58 k58 ⊢
  clear eh58
  refine mm_aload_n C (mm_dec dk_X12_init 118 rfl) rfl ?_
  refine mm_sipush C (mm_dec dk_X12_init 119 rfl) ⟨by decide, by decide⟩ ?_
  refine mm_newa (atype := .int) (n := 96) (len := 500) C ac_int (mm_dec dk_X12_init 120 rfl) i58.2.2 (by decide) rfl (Or.inl ⟨rfl, rfl⟩) rfl (by decide) (by decide) (by decide) ?_
  have k59 : mm_ke h (mm_nw h58) := mm_ke_nw k58 i58 (by decide)
  have i59 : mm_inp [(66, 1), (66, 2), (66, 46), (66, 47), (66, 49), (66, 50), (66, 51), (66, 55), (66, 72), (66, 73), (66, 74), (66, 75), (66, 76), (66, 77), (66, 78), (66, 79), (66, 80), (66, 81), (66, 83), (66, 84), (66, 85), (66, 86), (66, 90), (66, 92), (66, 93), (66, 94), (66, 98), (66, 99), (66, 100), (66, 101)] 97 (mm_nw h58) := mm_inp_nw i58 (by decide) rfl (by decide +kernel) (by decide +kernel)
  obtain ⟨h59, eh59⟩ : ∃ z, z = mm_nw h58 := ⟨_, rfl⟩
  rw [← eh59] at i59 k59 ⊢
  clear eh59
  refine mm_putrF C fl_X12_99 (mm_dec dk_X12_init 121 rfl) rfl rfl rfl hnm rfl (fun q => ⟨rfl, rfl⟩) (by decide) ?_
  have k60 : mm_ke h (mm_pf h59 66 46 1) := mm_ke_pf k59
  have i60 : mm_inp [(66, 1), (66, 2), (66, 47), (66, 49), (66, 50), (66, 51), (66, 55), (66, 72), (66, 73), (66, 74), (66, 75), (66, 76), (66, 77), (66, 78), (66, 79), (66, 80), (66, 81), (66, 83), (66, 84), (66, 85), (66, 86), (66, 90), (66, 92), (66, 93), (66, 94), (66, 98), (66, 99), (66, 100), (66, 101)] 97 (mm_pf h59 66 46 1) := mm_inp_pf i59 (show 1 ≤ 1 ∧ 1 ≤ 1 by decide) (by decide +kernel)
  obtain ⟨h60, eh60⟩ : ∃ z, z = mm_pf h59 66 46 1 := ⟨_, rfl⟩
  rw [← eh60] at i60 k60 ⊢
  clear eh60
  refine mm_aload_n C (mm_dec dk_X12_init 122 rfl) rfl ?_
  refine mm_sipush C (mm_dec dk_X12_init 123 rfl) ⟨by decide, by decide⟩ ?_
  refine mm_newa (atype := .int) (n := 97) (len := 500) C ac_int (mm_dec dk_X12_init 124 rfl) i60.2.2 (by decide) rfl (Or.inl ⟨rfl, rfl⟩) rfl (by decide) (by decide) (by decide) ?_
  have k61 : mm_ke h (mm_nw h60) := mm_ke_nw k60 i60 (by decide)
  have i61 : mm_inp [(66, 1), (66, 2), (66, 47), (66, 49), (66, 50), (66, 51), (66, 55), (66, 72), (66, 73), (66, 74), (66, 75), (66, 76), (66, 77), (66, 78), (66, 79), (66, 80), (66, 81), (66, 83), (66, 84), (66, 85), (66, 86), (66, 90), (66, 92), (66, 93), (66, 94), (66, 98), (66, 99), (66, 100), (66, 101)] 98 (mm_nw h60) := mm_inp_nw i60 (by decide) rfl (by decide +kernel) (by decide +kernel)
  obtain ⟨h61, eh61⟩ : ∃ z, z = mm_nw h60 := ⟨_, rfl⟩
  rw [← eh61] at i61 k61 ⊢
  clear eh61
  refine mm_putrF C fl_X12_102 (mm_dec dk_X12_init 125 rfl) rfl rfl rfl hnm rfl (fun q => ⟨rfl, rfl⟩) (by decide) ?_
  have k62 : mm_ke h (mm_pf h61 66 47 1) := mm_ke_pf k61
  have i62 : mm_inp [(66, 1), (66, 2), (66, 49), (66, 50), (66, 51), (66, 55), (66, 72), (66, 73), (66, 74), (66, 75), (66, 76), (66, 77), (66, 78), (66, 79), (66, 80), (66, 81), (66, 83), (66, 84), (66, 85), (66, 86), (66, 90), (66, 92), (66, 93), (66, 94), (66, 98), (66, 99), (66, 100), (66, 101)] 98 (mm_pf h61 66 47 1) := mm_inp_pf i61 (show 1 ≤ 1 ∧ 1 ≤ 1 by decide) (by decide +kernel)
  obtain ⟨h62, eh62⟩ : ∃ z, z = mm_pf h61 66 47 1 := ⟨_, rfl⟩
  rw [← eh62] at i62 k62 ⊢
  clear eh62
  refine mm_aload_n C (mm_dec dk_X12_init 126 rfl) rfl ?_
  refine mm_sipush C (mm_dec dk_X12_init 127 rfl) ⟨by decide, by decide⟩ ?_
  refine mm_newa (atype := .int) (n := 98) (len := 500) C ac_int (mm_dec dk_X12_init 128 rfl) i62.2.2 (by decide) rfl (Or.inl ⟨rfl, rfl⟩) rfl (by decide) (by decide) (by decide) ?_
  have k63 : mm_ke h (mm_nw h62) := mm_ke_nw k62 i62 (by decide)
  have i63 : mm_inp [(66, 1), (66, 2), (66, 49), (66, 50), (66, 51), (66, 55), (66, 72), (66, 73), (66, 74), (66, 75), (66, 76), (66, 77), (66, 78), (66, 79), (66, 80), (66, 81), (66, 83), (66, 84), (66, 85), (66, 86), (66, 90), (66, 92), (66, 93), (66, 94), (66, 98), (66, 99), (66, 100), (66, 101)] 99 (mm_nw h62) := mm_inp_nw i62 (by decide) rfl (by decide +kernel) (by decide +kernel)
  obtain ⟨h63, eh63⟩ : ∃ z, z = mm_nw h62 := ⟨_, rfl⟩
  rw [← eh63] at i63 k63 ⊢
  clear eh63
  refine mm_putrF C fl_X12_105 (mm_dec dk_X12_init 129 rfl) rfl rfl rfl hnm rfl (fun q => ⟨rfl, rfl⟩) (by decide) ?_
  have k64 : mm_ke h (mm_pf h63 66 49 1) := mm_ke_pf k63
  have i64 : mm_inp [(66, 1), (66, 2), (66, 50), (66, 51), (66, 55), (66, 72), (66, 73), (66, 74), (66, 75), (66, 76), (66, 77), (66, 78), (66, 79), (66, 80), (66, 81), (66, 83), (66, 84), (66, 85), (66, 86), (66, 90), (66, 92), (66, 93), (66, 94), (66, 98), (66, 99), (66, 100), (66, 101)] 99 (mm_pf h63 66 49 1) := mm_inp_pf i63 (show 1 ≤ 1 ∧ 1 ≤ 1 by decide) (by decide +kernel)
  obtain ⟨h64, eh64⟩ : ∃ z, z = mm_pf h63 66 49 1 := ⟨_, rfl⟩
  rw [← eh64] at i64 k64 ⊢
  clear eh64
  refine mm_aload_n C (mm_dec dk_X12_init 130 rfl) rfl ?_
  refine mm_sipush C (mm_dec dk_X12_init 131 rfl) ⟨by decide, by decide⟩ ?_
  refine mm_newa (atype := .int) (n := 99) (len := 6513) C ac_int (mm_dec dk_X12_init 132 rfl) i64.2.2 (by decide) rfl (Or.inl ⟨rfl, rfl⟩) rfl (by decide) (by decide) (by decide) ?_
  have k65 : mm_ke h (mm_nw h64) := mm_ke_nw k64 i64 (by decide)
  have i65 : mm_inp [(66, 1), (66, 2), (66, 50), (66, 51), (66, 55), (66, 72), (66, 73), (66, 74), (66, 75), (66, 76), (66, 77), (66, 78), (66, 79), (66, 80), (66, 81), (66, 83), (66, 84), (66, 85), (66, 86), (66, 90), (66, 92), (66, 93), (66, 94), (66, 98), (66, 99), (66, 100), (66, 101)] 100 (mm_nw h64) := mm_inp_nw i64 (by decide) rfl (by decide +kernel) (by decide +kernel)
  obtain ⟨h65, eh65⟩ : ∃ z, z = mm_nw h64 := ⟨_, rfl⟩
  rw [← eh65] at i65 k65 ⊢
  clear eh65
  refine mm_putrF C fl_X12_108 (mm_dec dk_X12_init 133 rfl) rfl rfl rfl hnm rfl (fun q => ⟨rfl, rfl⟩) (by decide) ?_
  have k66 : mm_ke h (mm_pf h65 66 50 1) := mm_ke_pf k65
  have i66 : mm_inp [(66, 1), (66, 2), (66, 51), (66, 55), (66, 72), (66, 73), (66, 74), (66, 75), (66, 76), (66, 77), (66, 78), (66, 79), (66, 80), (66, 81), (66, 83), (66, 84), (66, 85), (66, 86), (66, 90), (66, 92), (66, 93), (66, 94), (66, 98), (66, 99), (66, 100), (66, 101)] 100 (mm_pf h65 66 50 1) := mm_inp_pf i65 (show 1 ≤ 1 ∧ 1 ≤ 1 by decide) (by decide +kernel)
  obtain ⟨h66, eh66⟩ : ∃ z, z = mm_pf h65 66 50 1 := ⟨_, rfl⟩
  rw [← eh66] at i66 k66 ⊢
  clear eh66
  refine mm_aload_n C (mm_dec dk_X12_init 134 rfl) rfl ?_
  refine mm_bipush C (mm_dec dk_X12_init 135 rfl) ⟨by decide, by decide⟩ ?_
  refine mm_newa (atype := .int) (n := 100) (len := 12) C ac_int (mm_dec dk_X12_init 136 rfl) i66.2.2 (by decide) rfl (Or.inl ⟨rfl, rfl⟩) rfl (by decide) (by decide) (by decide) ?_
  have k67 : mm_ke h (mm_nw h66) := mm_ke_nw k66 i66 (by decide)
  have i67 : mm_inp [(66, 1), (66, 2), (66, 51), (66, 55), (66, 72), (66, 73), (66, 74), (66, 75), (66, 76), (66, 77), (66, 78), (66, 79), (66, 80), (66, 81), (66, 83), (66, 84), (66, 85), (66, 86), (66, 90), (66, 92), (66, 93), (66, 94), (66, 98), (66, 99), (66, 100), (66, 101)] 101 (mm_nw h66) := mm_inp_nw i66 (by decide) rfl (by decide +kernel) (by decide +kernel)
  obtain ⟨h67, eh67⟩ : ∃ z, z = mm_nw h66 := ⟨_, rfl⟩
  rw [← eh67] at i67 k67 ⊢
  clear eh67
  refine mm_putrF C fl_X12_111 (mm_dec dk_X12_init 137 rfl) rfl rfl rfl hnm rfl (fun q => ⟨rfl, rfl⟩) (by decide) ?_
  have k68 : mm_ke h (mm_pf h67 66 51 1) := mm_ke_pf k67
  have i68 : mm_inp [(66, 1), (66, 2), (66, 55), (66, 72), (66, 73), (66, 74), (66, 75), (66, 76), (66, 77), (66, 78), (66, 79), (66, 80), (66, 81), (66, 83), (66, 84), (66, 85), (66, 86), (66, 90), (66, 92), (66, 93), (66, 94), (66, 98), (66, 99), (66, 100), (66, 101)] 101 (mm_pf h67 66 51 1) := mm_inp_pf i67 (show 1 ≤ 1 ∧ 1 ≤ 1 by decide) (by decide +kernel)
  obtain ⟨h68, eh68⟩ : ∃ z, z = mm_pf h67 66 51 1 := ⟨_, rfl⟩
  rw [← eh68] at i68 k68 ⊢
  clear eh68
  refine mm_aload_n C (mm_dec dk_X12_init 138 rfl) rfl ?_
  refine mm_sipush C (mm_dec dk_X12_init 139 rfl) ⟨by decide, by decide⟩ ?_
  refine mm_newa (atype := .int) (n := 101) (len := 500) C ac_int (mm_dec dk_X12_init 140 rfl) i68.2.2 (by decide) rfl (Or.inl ⟨rfl, rfl⟩) rfl (by decide) (by decide) (by decide) ?_
  have k69 : mm_ke h (mm_nw h68) := mm_ke_nw k68 i68 (by decide)
  have i69 : mm_inp [(66, 1), (66, 2), (66, 55), (66, 72), (66, 73), (66, 74), (66, 75), (66, 76), (66, 77), (66, 78), (66, 79), (66, 80), (66, 81), (66, 83), (66, 84), (66, 85), (66, 86), (66, 90), (66, 92), (66, 93), (66, 94), (66, 98), (66, 99), (66, 100), (66, 101)] 102 (mm_nw h68) := mm_inp_nw i68 (by decide) rfl (by decide +kernel) (by decide +kernel)
  obtain ⟨h69, eh69⟩ : ∃ z, z = mm_nw h68 := ⟨_, rfl⟩
  rw [← eh69] at i69 k69 ⊢
  clear eh69
  refine mm_putrF C fl_X12_114 (mm_dec dk_X12_init 141 rfl) rfl rfl rfl hnm rfl (fun q => ⟨rfl, rfl⟩) (by decide) ?_
  have k70 : mm_ke h (mm_pf h69 66 55 1) := mm_ke_pf k69
  have i70 : mm_inp [(66, 1), (66, 2), (66, 72), (66, 73), (66, 74), (66, 75), (66, 76), (66, 77), (66, 78), (66, 79), (66, 80), (66, 81), (66, 83), (66, 84), (66, 85), (66, 86), (66, 90), (66, 92), (66, 93), (66, 94), (66, 98), (66, 99), (66, 100), (66, 101)] 102 (mm_pf h69 66 55 1) := mm_inp_pf i69 (show 1 ≤ 1 ∧ 1 ≤ 1 by decide) (by decide +kernel)
  obtain ⟨h70, eh70⟩ : ∃ z, z = mm_pf h69 66 55 1 := ⟨_, rfl⟩
  rw [← eh70] at i70 k70 ⊢
  clear eh70
  refine mm_aload_n C (mm_dec dk_X12_init 142 rfl) rfl ?_
  refine mm_bipush C (mm_dec dk_X12_init 143 rfl) ⟨by decide, by decide⟩ ?_
  refine mm_newa (atype := .int) (n := 102) (len := 6) C ac_int (mm_dec dk_X12_init 144 rfl) i70.2.2 (by decide) rfl (Or.inl ⟨rfl, rfl⟩) rfl (by decide) (by decide) (by decide) ?_
  have k71 : mm_ke h (mm_nw h70) := mm_ke_nw k70 i70 (by decide)
  have i71 : mm_inp [(66, 1), (66, 2), (66, 72), (66, 73), (66, 74), (66, 75), (66, 76), (66, 77), (66, 78), (66, 79), (66, 80), (66, 81), (66, 83), (66, 84), (66, 85), (66, 86), (66, 90), (66, 92), (66, 93), (66, 94), (66, 98), (66, 99), (66, 100), (66, 101)] 103 (mm_nw h70) := mm_inp_nw i70 (by decide) rfl (by decide +kernel) (by decide +kernel)
  obtain ⟨h71, eh71⟩ : ∃ z, z = mm_nw h70 := ⟨_, rfl⟩
  rw [← eh71] at i71 k71 ⊢
  clear eh71
  refine mm_putrF C fl_X12_117 (mm_dec dk_X12_init 145 rfl) rfl rfl rfl hnm rfl (fun q => ⟨rfl, rfl⟩) (by decide) ?_
  have k72 : mm_ke h (mm_pf h71 66 72 1) := mm_ke_pf k71
  have i72 : mm_inp [(66, 1), (66, 2), (66, 73), (66, 74), (66, 75), (66, 76), (66, 77), (66, 78), (66, 79), (66, 80), (66, 81), (66, 83), (66, 84), (66, 85), (66, 86), (66, 90), (66, 92), (66, 93), (66, 94), (66, 98), (66, 99), (66, 100), (66, 101)] 103 (mm_pf h71 66 72 1) := mm_inp_pf i71 (show 1 ≤ 1 ∧ 1 ≤ 1 by decide) (by decide +kernel)
  obtain ⟨h72, eh72⟩ : ∃ z, z = mm_pf h71 66 72 1 := ⟨_, rfl⟩
  rw [← eh72] at i72 k72 ⊢
  clear eh72
  refine mm_aload_n C (mm_dec dk_X12_init 146 rfl) rfl ?_
  refine mm_iconst C (mm_dec dk_X12_init 147 rfl) ⟨by decide, by decide⟩ ?_
  refine mm_newa (atype := .int) (n := 103) (len := 2) C ac_int (mm_dec dk_X12_init 148 rfl) i72.2.2 (by decide) rfl (Or.inl ⟨rfl, rfl⟩) rfl (by decide) (by decide) (by decide) ?_
  have k73 : mm_ke h (mm_nw h72) := mm_ke_nw k72 i72 (by decide)
  have i73 : mm_inp [(66, 1), (66, 2), (66, 73), (66, 74), (66, 75), (66, 76), (66, 77), (66, 78), (66, 79), (66, 80), (66, 81), (66, 83), (66, 84), (66, 85), (66, 86), (66, 90), (66, 92), (66, 93), (66, 94), (66, 98), (66, 99), (66, 100), (66, 101)] 104 (mm_nw h72) := mm_inp_nw i72 (by decide) rfl (by decide +kernel) (by decide +kernel)
  obtain ⟨h73, eh73⟩ : ∃ z, z = mm_nw h72 := ⟨_, rfl⟩
  rw [← eh73] at i73 k73 ⊢
  clear eh73
  refine mm_putrF C fl_X12_120 (mm_dec dk_X12_init 149 rfl) rfl rfl rfl hnm rfl (fun q => ⟨rfl, rfl⟩) (by decide) ?_
  have k74 : mm_ke h (mm_pf h73 66 73 1) := mm_ke_pf k73
  have i74 : mm_inp [(66, 1), (66, 2), (66, 74), (66, 75), (66, 76), (66, 77), (66, 78), (66, 79), (66, 80), (66, 81), (66, 83), (66, 84), (66, 85), (66, 86), (66, 90), (66, 92), (66, 93), (66, 94), (66, 98), (66, 99), (66, 100), (66, 101)] 104 (mm_pf h73 66 73 1) := mm_inp_pf i73 (show 1 ≤ 1 ∧ 1 ≤ 1 by decide) (by decide +kernel)
  obtain ⟨h74, eh74⟩ : ∃ z, z = mm_pf h73 66 73 1 := ⟨_, rfl⟩
  rw [← eh74] at i74 k74 ⊢
  clear eh74
  refine mm_aload_n C (mm_dec dk_X12_init 150 rfl) rfl ?_
  refine mm_bipush C (mm_dec dk_X12_init 151 rfl) ⟨by decide, by decide⟩ ?_
  refine mm_newa (atype := .int) (n := 104) (len := 40) C ac_int (mm_dec dk_X12_init 152 rfl) i74.2.2 (by decide) rfl (Or.inl ⟨rfl, rfl⟩) rfl (by decide) (by decide) (by decide) ?_
  have k75 : mm_ke h (mm_nw h74) := mm_ke_nw k74 i74 (by decide)
  have i75 : mm_inp [(66, 1), (66, 2), (66, 74), (66, 75), (66, 76), (66, 77), (66, 78), (66, 79), (66, 80), (66, 81), (66, 83), (66, 84), (66, 85), (66, 86), (66, 90), (66, 92), (66, 93), (66, 94), (66, 98), (66, 99), (66, 100), (66, 101)] 105 (mm_nw h74) := mm_inp_nw i74 (by decide) rfl (by decide +kernel) (by decide +kernel)
  obtain ⟨h75, eh75⟩ : ∃ z, z = mm_nw h74 := ⟨_, rfl⟩
  rw [← eh75] at i75 k75 ⊢
  clear eh75
  refine mm_putrF C fl_X12_123 (mm_dec dk_X12_init 153 rfl) rfl rfl rfl hnm rfl (fun q => ⟨rfl, rfl⟩) (by decide) ?_
  have k76 : mm_ke h (mm_pf h75 66 74 1) := mm_ke_pf k75
  have i76 : mm_inp [(66, 1), (66, 2), (66, 75), (66, 76), (66, 77), (66, 78), (66, 79), (66, 80), (66, 81), (66, 83), (66, 84), (66, 85), (66, 86), (66, 90), (66, 92), (66, 93), (66, 94), (66, 98), (66, 99), (66, 100), (66, 101)] 105 (mm_pf h75 66 74 1) := mm_inp_pf i75 (show 1 ≤ 1 ∧ 1 ≤ 1 by decide) (by decide +kernel)
  obtain ⟨h76, eh76⟩ : ∃ z, z = mm_pf h75 66 74 1 := ⟨_, rfl⟩
  rw [← eh76] at i76 k76 ⊢
  clear eh76
  refine mm_aload_n C (mm_dec dk_X12_init 154 rfl) rfl ?_
  refine mm_bipush C (mm_dec dk_X12_init 155 rfl) ⟨by decide, by decide⟩ ?_
  refine mm_newa (atype := .int) (n := 105) (len := 40) C ac_int (mm_dec dk_X12_init 156 rfl) i76.2.2 (by decide) rfl (Or.inl ⟨rfl, rfl⟩) rfl (by decide) (by decide) (by decide) ?_
  have k77 : mm_ke h (mm_nw h76) := mm_ke_nw k76 i76 (by decide)
  have i77 : mm_inp [(66, 1), (66, 2), (66, 75), (66, 76), (66, 77), (66, 78), (66, 79), (66, 80), (66, 81), (66, 83), (66, 84), (66, 85), (66, 86), (66, 90), (66, 92), (66, 93), (66, 94), (66, 98), (66, 99), (66, 100), (66, 101)] 106 (mm_nw h76) := mm_inp_nw i76 (by decide) rfl (by decide +kernel) (by decide +kernel)
  obtain ⟨h77, eh77⟩ : ∃ z, z = mm_nw h76 := ⟨_, rfl⟩
  rw [← eh77] at i77 k77 ⊢
  clear eh77
  refine mm_putrF C fl_X12_126 (mm_dec dk_X12_init 157 rfl) rfl rfl rfl hnm rfl (fun q => ⟨rfl, rfl⟩) (by decide) ?_
  have k78 : mm_ke h (mm_pf h77 66 75 1) := mm_ke_pf k77
  have i78 : mm_inp [(66, 1), (66, 2), (66, 76), (66, 77), (66, 78), (66, 79), (66, 80), (66, 81), (66, 83), (66, 84), (66, 85), (66, 86), (66, 90), (66, 92), (66, 93), (66, 94), (66, 98), (66, 99), (66, 100), (66, 101)] 106 (mm_pf h77 66 75 1) := mm_inp_pf i77 (show 1 ≤ 1 ∧ 1 ≤ 1 by decide) (by decide +kernel)
  obtain ⟨h78, eh78⟩ : ∃ z, z = mm_pf h77 66 75 1 := ⟨_, rfl⟩
  rw [← eh78] at i78 k78 ⊢
  clear eh78
  refine mm_aload_n C (mm_dec dk_X12_init 158 rfl) rfl ?_
  refine mm_bipush C (mm_dec dk_X12_init 159 rfl) ⟨by decide, by decide⟩ ?_
  refine mm_newa (atype := .int) (n := 106) (len := 40) C ac_int (mm_dec dk_X12_init 160 rfl) i78.2.2 (by decide) rfl (Or.inl ⟨rfl, rfl⟩) rfl (by decide) (by decide) (by decide) ?_
  have k79 : mm_ke h (mm_nw h78) := mm_ke_nw k78 i78 (by decide)
  have i79 : mm_inp [(66, 1), (66, 2), (66, 76), (66, 77), (66, 78), (66, 79), (66, 80), (66, 81), (66, 83), (66, 84), (66, 85), (66, 86), (66, 90), (66, 92), (66, 93), (66, 94), (66, 98), (66, 99), (66, 100), (66, 101)] 107 (mm_nw h78) := mm_inp_nw i78 (by decide) rfl (by decide +kernel) (by decide +kernel)
  obtain ⟨h79, eh79⟩ : ∃ z, z = mm_nw h78 := ⟨_, rfl⟩
  rw [← eh79] at i79 k79 ⊢
  clear eh79
  refine mm_putrF C fl_X12_129 (mm_dec dk_X12_init 161 rfl) rfl rfl rfl hnm rfl (fun q => ⟨rfl, rfl⟩) (by decide) ?_
  have k80 : mm_ke h (mm_pf h79 66 76 1) := mm_ke_pf k79
  have i80 : mm_inp [(66, 1), (66, 2), (66, 77), (66, 78), (66, 79), (66, 80), (66, 81), (66, 83), (66, 84), (66, 85), (66, 86), (66, 90), (66, 92), (66, 93), (66, 94), (66, 98), (66, 99), (66, 100), (66, 101)] 107 (mm_pf h79 66 76 1) := mm_inp_pf i79 (show 1 ≤ 1 ∧ 1 ≤ 1 by decide) (by decide +kernel)
  obtain ⟨h80, eh80⟩ : ∃ z, z = mm_pf h79 66 76 1 := ⟨_, rfl⟩
  rw [← eh80] at i80 k80 ⊢
  clear eh80
  refine mm_aload_n C (mm_dec dk_X12_init 162 rfl) rfl ?_
  refine mm_sipush C (mm_dec dk_X12_init 163 rfl) ⟨by decide, by decide⟩ ?_
  refine mm_newa (atype := .int) (n := 107) (len := 2400) C ac_int (mm_dec dk_X12_init 164 rfl) i80.2.2 (by decide) rfl (Or.inl ⟨rfl, rfl⟩) rfl (by decide) (by decide) (by decide) ?_
  have k81 : mm_ke h (mm_nw h80) := mm_ke_nw k80 i80 (by decide)
  have i81 : mm_inp [(66, 1), (66, 2), (66, 77), (66, 78), (66, 79), (66, 80), (66, 81), (66, 83), (66, 84), (66, 85), (66, 86), (66, 90), (66, 92), (66, 93), (66, 94), (66, 98), (66, 99), (66, 100), (66, 101)] 108 (mm_nw h80) := mm_inp_nw i80 (by decide) rfl (by decide +kernel) (by decide +kernel)
  obtain ⟨h81, eh81⟩ : ∃ z, z = mm_nw h80 := ⟨_, rfl⟩
  rw [← eh81] at i81 k81 ⊢
  clear eh81
  refine mm_putrF C fl_X12_132 (mm_dec dk_X12_init 165 rfl) rfl rfl rfl hnm rfl (fun q => ⟨rfl, rfl⟩) (by decide) ?_
  have k82 : mm_ke h (mm_pf h81 66 77 1) := mm_ke_pf k81
  have i82 : mm_inp [(66, 1), (66, 2), (66, 78), (66, 79), (66, 80), (66, 81), (66, 83), (66, 84), (66, 85), (66, 86), (66, 90), (66, 92), (66, 93), (66, 94), (66, 98), (66, 99), (66, 100), (66, 101)] 108 (mm_pf h81 66 77 1) := mm_inp_pf i81 (show 1 ≤ 1 ∧ 1 ≤ 1 by decide) (by decide +kernel)
  obtain ⟨h82, eh82⟩ : ∃ z, z = mm_pf h81 66 77 1 := ⟨_, rfl⟩
  rw [← eh82] at i82 k82 ⊢
  clear eh82
  refine mm_aload_n C (mm_dec dk_X12_init 166 rfl) rfl ?_
  refine mm_sipush C (mm_dec dk_X12_init 167 rfl) ⟨by decide, by decide⟩ ?_
  refine mm_newa (atype := .int) (n := 108) (len := 520) C ac_int (mm_dec dk_X12_init 168 rfl) i82.2.2 (by decide) rfl (Or.inl ⟨rfl, rfl⟩) rfl (by decide) (by decide) (by decide) ?_
  have k83 : mm_ke h (mm_nw h82) := mm_ke_nw k82 i82 (by decide)
  have i83 : mm_inp [(66, 1), (66, 2), (66, 78), (66, 79), (66, 80), (66, 81), (66, 83), (66, 84), (66, 85), (66, 86), (66, 90), (66, 92), (66, 93), (66, 94), (66, 98), (66, 99), (66, 100), (66, 101)] 109 (mm_nw h82) := mm_inp_nw i82 (by decide) rfl (by decide +kernel) (by decide +kernel)
  obtain ⟨h83, eh83⟩ : ∃ z, z = mm_nw h82 := ⟨_, rfl⟩
  rw [← eh83] at i83 k83 ⊢
  clear eh83
  refine mm_putrF C fl_X12_135 (mm_dec dk_X12_init 169 rfl) rfl rfl rfl hnm rfl (fun q => ⟨rfl, rfl⟩) (by decide) ?_
  have k84 : mm_ke h (mm_pf h83 66 78 1) := mm_ke_pf k83
  have i84 : mm_inp [(66, 1), (66, 2), (66, 79), (66, 80), (66, 81), (66, 83), (66, 84), (66, 85), (66, 86), (66, 90), (66, 92), (66, 93), (66, 94), (66, 98), (66, 99), (66, 100), (66, 101)] 109 (mm_pf h83 66 78 1) := mm_inp_pf i83 (show 1 ≤ 1 ∧ 1 ≤ 1 by decide) (by decide +kernel)
  obtain ⟨h84, eh84⟩ : ∃ z, z = mm_pf h83 66 78 1 := ⟨_, rfl⟩
  rw [← eh84] at i84 k84 ⊢
  clear eh84
  refine mm_aload_n C (mm_dec dk_X12_init 170 rfl) rfl ?_
  refine mm_bipush C (mm_dec dk_X12_init 171 rfl) ⟨by decide, by decide⟩ ?_
  refine mm_newa (atype := .boolean) (n := 109) (len := 9) C ac_boolean (mm_dec dk_X12_init 172 rfl) i84.2.2 (by decide) rfl (Or.inr (Or.inl ⟨rfl, rfl⟩)) rfl (by decide) (by decide) (by decide) ?_
  have k85 : mm_ke h (mm_nw h84) := mm_ke_nw k84 i84 (by decide)
  have i85 : mm_inp [(66, 1), (66, 2), (66, 79), (66, 80), (66, 81), (66, 83), (66, 84), (66, 85), (66, 86), (66, 90), (66, 92), (66, 93), (66, 94), (66, 98), (66, 99), (66, 100), (66, 101)] 110 (mm_nw h84) := mm_inp_nw i84 (by decide) rfl (by decide +kernel) (by decide +kernel)
  obtain ⟨h85, eh85⟩ : ∃ z, z = mm_nw h84 := ⟨_, rfl⟩
  rw [← eh85] at i85 k85 ⊢
  clear eh85
  refine mm_putrF C fl_X12_138 (mm_dec dk_X12_init 173 rfl) rfl rfl rfl hnm rfl (fun q => ⟨rfl, rfl⟩) (by decide) ?_
  have k86 : mm_ke h (mm_pf h85 66 79 1) := mm_ke_pf k85
  have i86 : mm_inp [(66, 1), (66, 2), (66, 80), (66, 81), (66, 83), (66, 84), (66, 85), (66, 86), (66, 90), (66, 92), (66, 93), (66, 94), (66, 98), (66, 99), (66, 100), (66, 101)] 110 (mm_pf h85 66 79 1) := mm_inp_pf i85 (show 1 ≤ 1 ∧ 1 ≤ 1 by decide) (by decide +kernel)
  obtain ⟨h86, eh86⟩ : ∃ z, z = mm_pf h85 66 79 1 := ⟨_, rfl⟩
  rw [← eh86] at i86 k86 ⊢
  clear eh86
  refine mm_aload_n C (mm_dec dk_X12_init 174 rfl) rfl ?_
  refine mm_bipush C (mm_dec dk_X12_init 175 rfl) ⟨by decide, by decide⟩ ?_
  refine mm_newa (atype := .int) (n := 110) (len := 7) C ac_int (mm_dec dk_X12_init 176 rfl) i86.2.2 (by decide) rfl (Or.inl ⟨rfl, rfl⟩) rfl (by decide) (by decide) (by decide) ?_
  have k87 : mm_ke h (mm_nw h86) := mm_ke_nw k86 i86 (by decide)
  have i87 : mm_inp [(66, 1), (66, 2), (66, 80), (66, 81), (66, 83), (66, 84), (66, 85), (66, 86), (66, 90), (66, 92), (66, 93), (66, 94), (66, 98), (66, 99), (66, 100), (66, 101)] 111 (mm_nw h86) := mm_inp_nw i86 (by decide) rfl (by decide +kernel) (by decide +kernel)
  obtain ⟨h87, eh87⟩ : ∃ z, z = mm_nw h86 := ⟨_, rfl⟩
  rw [← eh87] at i87 k87 ⊢
  clear eh87
  refine mm_putrF C fl_X12_141 (mm_dec dk_X12_init 177 rfl) rfl rfl rfl hnm rfl (fun q => ⟨rfl, rfl⟩) (by decide) ?_
  have k88 : mm_ke h (mm_pf h87 66 80 1) := mm_ke_pf k87
  have i88 : mm_inp [(66, 1), (66, 2), (66, 81), (66, 83), (66, 84), (66, 85), (66, 86), (66, 90), (66, 92), (66, 93), (66, 94), (66, 98), (66, 99), (66, 100), (66, 101)] 111 (mm_pf h87 66 80 1) := mm_inp_pf i87 (show 1 ≤ 1 ∧ 1 ≤ 1 by decide) (by decide +kernel)
  obtain ⟨h88, eh88⟩ : ∃ z, z = mm_pf h87 66 80 1 := ⟨_, rfl⟩
  rw [← eh88] at i88 k88 ⊢
  clear eh88
  refine mm_aload_n C (mm_dec dk_X12_init 178 rfl) rfl ?_
  refine mm_sipush C (mm_dec dk_X12_init 179 rfl) ⟨by decide, by decide⟩ ?_
  refine mm_newa (atype := .int) (n := 111) (len := 520) C ac_int (mm_dec dk_X12_init 180 rfl) i88.2.2 (by decide) rfl (Or.inl ⟨rfl, rfl⟩) rfl (by decide) (by decide) (by decide) ?_
  have k89 : mm_ke h (mm_nw h88) := mm_ke_nw k88 i88 (by decide)
  have i89 : mm_inp [(66, 1), (66, 2), (66, 81), (66, 83), (66, 84), (66, 85), (66, 86), (66, 90), (66, 92), (66, 93), (66, 94), (66, 98), (66, 99), (66, 100), (66, 101)] 112 (mm_nw h88) := mm_inp_nw i88 (by decide) rfl (by decide +kernel) (by decide +kernel)
  obtain ⟨h89, eh89⟩ : ∃ z, z = mm_nw h88 := ⟨_, rfl⟩
  rw [← eh89] at i89 k89 ⊢
  clear eh89
  refine mm_putrF C fl_X12_144 (mm_dec dk_X12_init 181 rfl) rfl rfl rfl hnm rfl (fun q => ⟨rfl, rfl⟩) (by decide) ?_
  have k90 : mm_ke h (mm_pf h89 66 81 1) := mm_ke_pf k89
  have i90 : mm_inp [(66, 1), (66, 2), (66, 83), (66, 84), (66, 85), (66, 86), (66, 90), (66, 92), (66, 93), (66, 94), (66, 98), (66, 99), (66, 100), (66, 101)] 112 (mm_pf h89 66 81 1) := mm_inp_pf i89 (show 1 ≤ 1 ∧ 1 ≤ 1 by decide) (by decide +kernel)
  obtain ⟨h90, eh90⟩ : ∃ z, z = mm_pf h89 66 81 1 := ⟨_, rfl⟩
  rw [← eh90] at i90 k90 ⊢
  clear eh90
  refine mm_aload_n C (mm_dec dk_X12_init 182 rfl) rfl ?_
  refine mm_bipush C (mm_dec dk_X12_init 183 rfl) ⟨by decide, by decide⟩ ?_
  refine mm_newa (atype := .int) (n := 112) (len := 40) C ac_int (mm_dec dk_X12_init 184 rfl) i90.2.2 (by decide) rfl (Or.inl ⟨rfl, rfl⟩) rfl (by decide) (by decide) (by decide) ?_
  have k91 : mm_ke h (mm_nw h90) := mm_ke_nw k90 i90 (by decide)
  have i91 : mm_inp [(66, 1), (66, 2), (66, 83), (66, 84), (66, 85), (66, 86), (66, 90), (66, 92), (66, 93), (66, 94), (66, 98), (66, 99), (66, 100), (66, 101)] 113 (mm_nw h90) := mm_inp_nw i90 (by decide) rfl (by decide +kernel) (by decide +kernel)
  obtain ⟨h91, eh91⟩ : ∃ z, z = mm_nw h90 := ⟨_, rfl⟩
  rw [← eh91] at i91 k91 ⊢
  clear eh91
  refine mm_putrF C fl_X12_147 (mm_dec dk_X12_init 185 rfl) rfl rfl rfl hnm rfl (fun q => ⟨rfl, rfl⟩) (by decide) ?_
  have k92 : mm_ke h (mm_pf h91 66 83 1) := mm_ke_pf k91
  have i92 : mm_inp [(66, 1), (66, 2), (66, 84), (66, 85), (66, 86), (66, 90), (66, 92), (66, 93), (66, 94), (66, 98), (66, 99), (66, 100), (66, 101)] 113 (mm_pf h91 66 83 1) := mm_inp_pf i91 (show 1 ≤ 1 ∧ 1 ≤ 1 by decide) (by decide +kernel)
  obtain ⟨h92, eh92⟩ : ∃ z, z = mm_pf h91 66 83 1 := ⟨_, rfl⟩
  rw [← eh92] at i92 k92 ⊢
  clear eh92
  refine mm_aload_n C (mm_dec dk_X12_init 186 rfl) rfl ?_
  refine mm_bipush C (mm_dec dk_X12_init 187 rfl) ⟨by decide, by decide⟩ ?_
  refine mm_newa (atype := .int) (n := 113) (len := 40) C ac_int (mm_dec dk_X12_init 188 rfl) i92.2.2 (by decide) rfl (Or.inl ⟨rfl, rfl⟩) rfl (by decide) (by decide) (by decide) ?_
  have k93 : mm_ke h (mm_nw h92) := mm_ke_nw k92 i92 (by decide)
  have i93 : mm_inp [(66, 1), (66, 2), (66, 84), (66, 85), (66, 86), (66, 90), (66, 92), (66, 93), (66, 94), (66, 98), (66, 99), (66, 100), (66, 101)] 114 (mm_nw h92) := mm_inp_nw i92 (by decide) rfl (by decide +kernel) (by decide +kernel)
  obtain ⟨h93, eh93⟩ : ∃ z, z = mm_nw h92 := ⟨_, rfl⟩
  rw [← eh93] at i93 k93 ⊢
  clear eh93
  refine mm_putrF C fl_X12_150 (mm_dec dk_X12_init 189 rfl) rfl rfl rfl hnm rfl (fun q => ⟨rfl, rfl⟩) (by decide) ?_
  have k94 : mm_ke h (mm_pf h93 66 84 1) := mm_ke_pf k93
  have i94 : mm_inp [(66, 1), (66, 2), (66, 85), (66, 86), (66, 90), (66, 92), (66, 93), (66, 94), (66, 98), (66, 99), (66, 100), (66, 101)] 114 (mm_pf h93 66 84 1) := mm_inp_pf i93 (show 1 ≤ 1 ∧ 1 ≤ 1 by decide) (by decide +kernel)
  obtain ⟨h94, eh94⟩ : ∃ z, z = mm_pf h93 66 84 1 := ⟨_, rfl⟩
  rw [← eh94] at i94 k94 ⊢
  clear eh94
  refine mm_aload_n C (mm_dec dk_X12_init 190 rfl) rfl ?_
  refine mm_bipush C (mm_dec dk_X12_init 191 rfl) ⟨by decide, by decide⟩ ?_
  refine mm_newa (atype := .int) (n := 114) (len := 40) C ac_int (mm_dec dk_X12_init 192 rfl) i94.2.2 (by decide) rfl (Or.inl ⟨rfl, rfl⟩) rfl (by decide) (by decide) (by decide) ?_
  have k95 : mm_ke h (mm_nw h94) := mm_ke_nw k94 i94 (by decide)
  have i95 : mm_inp [(66, 1), (66, 2), (66, 85), (66, 86), (66, 90), (66, 92), (66, 93), (66, 94), (66, 98), (66, 99), (66, 100), (66, 101)] 115 (mm_nw h94) := mm_inp_nw i94 (by decide) rfl (by decide +kernel) (by decide +kernel)
  obtain ⟨h95, eh95⟩ : ∃ z, z = mm_nw h94 := ⟨_, rfl⟩
  rw [← eh95] at i95 k95 ⊢
  clear eh95
  refine mm_putrF C fl_X12_153 (mm_dec dk_X12_init 193 rfl) rfl rfl rfl hnm rfl (fun q => ⟨rfl, rfl⟩) (by decide) ?_
  have k96 : mm_ke h (mm_pf h95 66 85 1) := mm_ke_pf k95
  have i96 : mm_inp [(66, 1), (66, 2), (66, 86), (66, 90), (66, 92), (66, 93), (66, 94), (66, 98), (66, 99), (66, 100), (66, 101)] 115 (mm_pf h95 66 85 1) := mm_inp_pf i95 (show 1 ≤ 1 ∧ 1 ≤ 1 by decide) (by decide +kernel)
  obtain ⟨h96, eh96⟩ : ∃ z, z = mm_pf h95 66 85 1 := ⟨_, rfl⟩
  rw [← eh96] at i96 k96 ⊢
  clear eh96
  refine mm_aload_n C (mm_dec dk_X12_init 194 rfl) rfl ?_
  refine mm_bipush C (mm_dec dk_X12_init 195 rfl) ⟨by decide, by decide⟩ ?_
  refine mm_newa (atype := .int) (n := 115) (len := 40) C ac_int (mm_dec dk_X12_init 196 rfl) i96.2.2 (by decide) rfl (Or.inl ⟨rfl, rfl⟩) rfl (by decide) (by decide) (by decide) ?_
  have k97 : mm_ke h (mm_nw h96) := mm_ke_nw k96 i96 (by decide)
  have i97 : mm_inp [(66, 1), (66, 2), (66, 86), (66, 90), (66, 92), (66, 93), (66, 94), (66, 98), (66, 99), (66, 100), (66, 101)] 116 (mm_nw h96) := mm_inp_nw i96 (by decide) rfl (by decide +kernel) (by decide +kernel)
  obtain ⟨h97, eh97⟩ : ∃ z, z = mm_nw h96 := ⟨_, rfl⟩
  rw [← eh97] at i97 k97 ⊢
  clear eh97
  refine mm_putrF C fl_X12_156 (mm_dec dk_X12_init 197 rfl) rfl rfl rfl hnm rfl (fun q => ⟨rfl, rfl⟩) (by decide) ?_
  have k98 : mm_ke h (mm_pf h97 66 86 1) := mm_ke_pf k97
  have i98 : mm_inp [(66, 1), (66, 2), (66, 90), (66, 92), (66, 93), (66, 94), (66, 98), (66, 99), (66, 100), (66, 101)] 116 (mm_pf h97 66 86 1) := mm_inp_pf i97 (show 1 ≤ 1 ∧ 1 ≤ 1 by decide) (by decide +kernel)
  obtain ⟨h98, eh98⟩ : ∃ z, z = mm_pf h97 66 86 1 := ⟨_, rfl⟩
  rw [← eh98] at i98 k98 ⊢
  clear eh98
  refine mm_aload_n C (mm_dec dk_X12_init 198 rfl) rfl ?_
  refine mm_bipush C (mm_dec dk_X12_init 199 rfl) ⟨by decide, by decide⟩ ?_
  refine mm_newa (atype := .int) (n := 116) (len := 40) C ac_int (mm_dec dk_X12_init 200 rfl) i98.2.2 (by decide) rfl (Or.inl ⟨rfl, rfl⟩) rfl (by decide) (by decide) (by decide) ?_
  have k99 : mm_ke h (mm_nw h98) := mm_ke_nw k98 i98 (by decide)
  have i99 : mm_inp [(66, 1), (66, 2), (66, 90), (66, 92), (66, 93), (66, 94), (66, 98), (66, 99), (66, 100), (66, 101)] 117 (mm_nw h98) := mm_inp_nw i98 (by decide) rfl (by decide +kernel) (by decide +kernel)
  obtain ⟨h99, eh99⟩ : ∃ z, z = mm_nw h98 := ⟨_, rfl⟩
  rw [← eh99] at i99 k99 ⊢
  clear eh99
  refine mm_putrF C fl_X12_159 (mm_dec dk_X12_init 201 rfl) rfl rfl rfl hnm rfl (fun q => ⟨rfl, rfl⟩) (by decide) ?_
  have k100 : mm_ke h (mm_pf h99 66 90 1) := mm_ke_pf k99
  have i100 : mm_inp [(66, 1), (66, 2), (66, 92), (66, 93), (66, 94), (66, 98), (66, 99), (66, 100), (66, 101)] 117 (mm_pf h99 66 90 1) := mm_inp_pf i99 (show 1 ≤ 1 ∧ 1 ≤ 1 by decide) (by decide +kernel)
  obtain ⟨h100, eh100⟩ : ∃ z, z = mm_pf h99 66 90 1 := ⟨_, rfl⟩
  rw [← eh100] at i100 k100 ⊢
  clear eh100
  refine mm_aload_n C (mm_dec dk_X12_init 202 rfl) rfl ?_
  refine mm_bipush C (mm_dec dk_X12_init 203 rfl) ⟨by decide, by decide⟩ ?_
  refine mm_newa (atype := .int) (n := 117) (len := 40) C ac_int (mm_dec dk_X12_init 204 rfl) i100.2.2 (by decide) rfl (Or.inl ⟨rfl, rfl⟩) rfl (by decide) (by decide) (by decide) ?_
  have k101 : mm_ke h (mm_nw h100) := mm_ke_nw k100 i100 (by decide)
  have i101 : mm_inp [(66, 1), (66, 2), (66, 92), (66, 93), (66, 94), (66, 98), (66, 99), (66, 100), (66, 101)] 118 (mm_nw h100) := mm_inp_nw i100 (by decide) rfl (by decide +kernel) (by decide +kernel)
  obtain ⟨h101, eh101⟩ : ∃ z, z = mm_nw h100 := ⟨_, rfl⟩
  rw [← eh101] at i101 k101 ⊢
  clear eh101
  refine mm_putrF C fl_X12_162 (mm_dec dk_X12_init 205 rfl) rfl rfl rfl hnm rfl (fun q => ⟨rfl, rfl⟩) (by decide) ?_
  have k102 : mm_ke h (mm_pf h101 66 92 1) := mm_ke_pf k101
  have i102 : mm_inp [(66, 1), (66, 2), (66, 93), (66, 94), (66, 98), (66, 99), (66, 100), (66, 101)] 118 (mm_pf h101 66 92 1) := mm_inp_pf i101 (show 1 ≤ 1 ∧ 1 ≤ 1 by decide) (by decide +kernel)
  obtain ⟨h102, eh102⟩ : ∃ z, z = mm_pf h101 66 92 1 := ⟨_, rfl⟩
  rw [← eh102] at i102 k102 ⊢
  clear eh102
  refine mm_aload_n C (mm_dec dk_X12_init 206 rfl) rfl ?_
  refine mm_bipush C (mm_dec dk_X12_init 207 rfl) ⟨by decide, by decide⟩ ?_
  refine mm_newa (atype := .int) (n := 118) (len := 10) C ac_int (mm_dec dk_X12_init 208 rfl) i102.2.2 (by decide) rfl (Or.inl ⟨rfl, rfl⟩) rfl (by decide) (by decide) (by decide) ?_
  have k103 : mm_ke h (mm_nw h102) := mm_ke_nw k102 i102 (by decide)
  have i103 : mm_inp [(66, 1), (66, 2), (66, 93), (66, 94), (66, 98), (66, 99), (66, 100), (66, 101)] 119 (mm_nw h102) := mm_inp_nw i102 (by decide) rfl (by decide +kernel) (by decide +kernel)
  obtain ⟨h103, eh103⟩ : ∃ z, z = mm_nw h102 := ⟨_, rfl⟩
  rw [← eh103] at i103 k103 ⊢
  clear eh103
  refine mm_putrF C fl_X12_165 (mm_dec dk_X12_init 209 rfl) rfl rfl rfl hnm rfl (fun q => ⟨rfl, rfl⟩) (by decide) ?_
  have k104 : mm_ke h (mm_pf h103 66 93 1) := mm_ke_pf k103
  have i104 : mm_inp [(66, 1), (66, 2), (66, 94), (66, 98), (66, 99), (66, 100), (66, 101)] 119 (mm_pf h103 66 93 1) := mm_inp_pf i103 (show 1 ≤ 1 ∧ 1 ≤ 1 by decide) (by decide +kernel)
  obtain ⟨h104, eh104⟩ : ∃ z, z = mm_pf h103 66 93 1 := ⟨_, rfl⟩
  rw [← eh104] at i104 k104 ⊢
  clear eh104
  refine mm_aload_n C (mm_dec dk_X12_init 210 rfl) rfl ?_
  refine mm_bipush C (mm_dec dk_X12_init 211 rfl) ⟨by decide, by decide⟩ ?_
  refine mm_newa (atype := .boolean) (n := 119) (len := 40) C ac_boolean (mm_dec dk_X12_init 212 rfl) i104.2.2 (by decide) rfl (Or.inr (Or.inl ⟨rfl, rfl⟩)) rfl (by decide) (by decide) (by decide) ?_
  have k105 : mm_ke h (mm_nw h104) := mm_ke_nw k104 i104 (by decide)
  have i105 : mm_inp [(66, 1), (66, 2), (66, 94), (66, 98), (66, 99), (66, 100), (66, 101)] 120 (mm_nw h104) := mm_inp_nw i104 (by decide) rfl (by decide +kernel) (by decide +kernel)
  obtain ⟨h105, eh105⟩ : ∃ z, z = mm_nw h104 := ⟨_, rfl⟩
  rw [← eh105] at i105 k105 ⊢
  clear eh105
  refine mm_putrF C fl_X12_168 (mm_dec dk_X12_init 213 rfl) rfl rfl rfl hnm rfl (fun q => ⟨rfl, rfl⟩) (by decide) ?_
  have k106 : mm_ke h (mm_pf h105 66 94 1) := mm_ke_pf k105
  have i106 : mm_inp [(66, 1), (66, 2), (66, 98), (66, 99), (66, 100), (66, 101)] 120 (mm_pf h105 66 94 1) := mm_inp_pf i105 (show 1 ≤ 1 ∧ 1 ≤ 1 by decide) (by decide +kernel)
  obtain ⟨h106, eh106⟩ : ∃ z, z = mm_pf h105 66 94 1 := ⟨_, rfl⟩
  rw [← eh106] at i106 k106 ⊢
  clear eh106
  refine mm_aload_n C (mm_dec dk_X12_init 214 rfl) rfl ?_
  refine mm_sipush C (mm_dec dk_X12_init 215 rfl) ⟨by decide, by decide⟩ ?_
  refine mm_newa (atype := .int) (n := 120) (len := 196) C ac_int (mm_dec dk_X12_init 216 rfl) i106.2.2 (by decide) rfl (Or.inl ⟨rfl, rfl⟩) rfl (by decide) (by decide) (by decide) ?_
  have k107 : mm_ke h (mm_nw h106) := mm_ke_nw k106 i106 (by decide)
  have i107 : mm_inp [(66, 1), (66, 2), (66, 98), (66, 99), (66, 100), (66, 101)] 121 (mm_nw h106) := mm_inp_nw i106 (by decide) rfl (by decide +kernel) (by decide +kernel)
  obtain ⟨h107, eh107⟩ : ∃ z, z = mm_nw h106 := ⟨_, rfl⟩
  rw [← eh107] at i107 k107 ⊢
  clear eh107
  refine mm_putrF C fl_X12_171 (mm_dec dk_X12_init 217 rfl) rfl rfl rfl hnm rfl (fun q => ⟨rfl, rfl⟩) (by decide) ?_
  have k108 : mm_ke h (mm_pf h107 66 98 1) := mm_ke_pf k107
  have i108 : mm_inp [(66, 1), (66, 2), (66, 99), (66, 100), (66, 101)] 121 (mm_pf h107 66 98 1) := mm_inp_pf i107 (show 1 ≤ 1 ∧ 1 ≤ 1 by decide) (by decide +kernel)
  obtain ⟨h108, eh108⟩ : ∃ z, z = mm_pf h107 66 98 1 := ⟨_, rfl⟩
  rw [← eh108] at i108 k108 ⊢
  clear eh108
  refine mm_aload_n C (mm_dec dk_X12_init 218 rfl) rfl ?_
  refine mm_ldc (z := 49152) C (mm_dec dk_X12_init 219 rfl) kc_X12_174 (by decide) ?_
  refine mm_newa (atype := .int) (n := 121) (len := 49152) C ac_int (mm_dec dk_X12_init 220 rfl) i108.2.2 (by decide) rfl (Or.inl ⟨rfl, rfl⟩) rfl (by decide) (by decide) (by decide) ?_
  have k109 : mm_ke h (mm_nw h108) := mm_ke_nw k108 i108 (by decide)
  have i109 : mm_inp [(66, 1), (66, 2), (66, 99), (66, 100), (66, 101)] 122 (mm_nw h108) := mm_inp_nw i108 (by decide) rfl (by decide +kernel) (by decide +kernel)
  obtain ⟨h109, eh109⟩ : ∃ z, z = mm_nw h108 := ⟨_, rfl⟩
  rw [← eh109] at i109 k109 ⊢
  clear eh109
  refine mm_putrF C fl_X12_175 (mm_dec dk_X12_init 221 rfl) rfl rfl rfl hnm rfl (fun q => ⟨rfl, rfl⟩) (by decide) ?_
  have k110 : mm_ke h (mm_pf h109 66 99 1) := mm_ke_pf k109
  have i110 : mm_inp [(66, 1), (66, 2), (66, 100), (66, 101)] 122 (mm_pf h109 66 99 1) := mm_inp_pf i109 (show 1 ≤ 1 ∧ 1 ≤ 1 by decide) (by decide +kernel)
  obtain ⟨h110, eh110⟩ : ∃ z, z = mm_pf h109 66 99 1 := ⟨_, rfl⟩
  rw [← eh110] at i110 k110 ⊢
  clear eh110
  refine mm_aload_n C (mm_dec dk_X12_init 222 rfl) rfl ?_
  refine mm_bipush C (mm_dec dk_X12_init 223 rfl) ⟨by decide, by decide⟩ ?_
  refine mm_newa (atype := .int) (n := 122) (len := 40) C ac_int (mm_dec dk_X12_init 224 rfl) i110.2.2 (by decide) rfl (Or.inl ⟨rfl, rfl⟩) rfl (by decide) (by decide) (by decide) ?_
  have k111 : mm_ke h (mm_nw h110) := mm_ke_nw k110 i110 (by decide)
  have i111 : mm_inp [(66, 1), (66, 2), (66, 100), (66, 101)] 123 (mm_nw h110) := mm_inp_nw i110 (by decide) rfl (by decide +kernel) (by decide +kernel)
  obtain ⟨h111, eh111⟩ : ∃ z, z = mm_nw h110 := ⟨_, rfl⟩
  rw [← eh111] at i111 k111 ⊢
  clear eh111
  refine mm_putrF C fl_X12_178 (mm_dec dk_X12_init 225 rfl) rfl rfl rfl hnm rfl (fun q => ⟨rfl, rfl⟩) (by decide) ?_
  have k112 : mm_ke h (mm_pf h111 66 100 1) := mm_ke_pf k111
  have i112 : mm_inp [(66, 1), (66, 2), (66, 101)] 123 (mm_pf h111 66 100 1) := mm_inp_pf i111 (show 1 ≤ 1 ∧ 1 ≤ 1 by decide) (by decide +kernel)
  obtain ⟨h112, eh112⟩ : ∃ z, z = mm_pf h111 66 100 1 := ⟨_, rfl⟩
  rw [← eh112] at i112 k112 ⊢
  clear eh112
  refine mm_aload_n C (mm_dec dk_X12_init 226 rfl) rfl ?_
  refine mm_bipush C (mm_dec dk_X12_init 227 rfl) ⟨by decide, by decide⟩ ?_
  refine mm_newa (atype := .boolean) (n := 123) (len := 40) C ac_boolean (mm_dec dk_X12_init 228 rfl) i112.2.2 (by decide) rfl (Or.inr (Or.inl ⟨rfl, rfl⟩)) rfl (by decide) (by decide) (by decide) ?_
  have k113 : mm_ke h (mm_nw h112) := mm_ke_nw k112 i112 (by decide)
  have i113 : mm_inp [(66, 1), (66, 2), (66, 101)] 124 (mm_nw h112) := mm_inp_nw i112 (by decide) rfl (by decide +kernel) (by decide +kernel)
  obtain ⟨h113, eh113⟩ : ∃ z, z = mm_nw h112 := ⟨_, rfl⟩
  rw [← eh113] at i113 k113 ⊢
  clear eh113
  refine mm_putrF C fl_X12_181 (mm_dec dk_X12_init 229 rfl) rfl rfl rfl hnm rfl (fun q => ⟨rfl, rfl⟩) (by decide) ?_
  have k114 : mm_ke h (mm_pf h113 66 101 1) := mm_ke_pf k113
  have i114 : mm_inp [(66, 1), (66, 2)] 124 (mm_pf h113 66 101 1) := mm_inp_pf i113 (show 1 ≤ 1 ∧ 1 ≤ 1 by decide) (by decide +kernel)
  obtain ⟨h114, eh114⟩ : ∃ z, z = mm_pf h113 66 101 1 := ⟨_, rfl⟩
  rw [← eh114] at i114 k114 ⊢
  clear eh114
  refine mm_aload_n C (mm_dec dk_X12_init 230 rfl) rfl ?_
  refine mm_iconst C (mm_dec dk_X12_init 231 rfl) ⟨by decide, by decide⟩ ?_
  refine mm_iconst C (mm_dec dk_X12_init 232 rfl) ⟨by decide, by decide⟩ ?_
  refine mm_cVv (rest := []) C1 ev_X12_184 (mm_dec dk_X12_init 233 rfl) (c_X12_anew_w x.2.1 hl (d - 1) (by omega) h114 i114 1 1 ⟨by decide, by decide⟩ ⟨by decide, by decide⟩) rfl rfl (Nat.le_of_ble_eq_true rfl) ⟨by decide, by decide⟩ rfl (fun h486c hp486 => ?_) (fun _ _ q => q.elim)
  obtain ⟨i486d, g486c, y486_0, y486_1, y486_2, y_3, y_4, y_5, y_6, y_7, y_8, y_9, y_10, y_11⟩ := hp486
  have i486c : mm_inp [] 124 h486c := mm_inp_land i486d (by omega) (by omega)
  exact mm_vret C T (mm_dec dk_X12_init 234 rfl) (by decide : 57 ≤ 57) (by decide : 68525 ≤ 68525) ⟨rfl, ⟨i486c, y486_2, mm_ke_fr k114 g486c (by decide), y_4, y_5, y_6, y_7, y_8, y_9⟩⟩
