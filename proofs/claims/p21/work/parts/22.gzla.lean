set_option maxRecDepth 100000 in
set_option maxHeartbeats 4000000 in
theorem c_X4_look_q (l : Launch) (hl : l.stackTraces = false) (d : Nat) (hd : 3 ≤ d) (h : mH) (i0 : mm_inv h) (p1 : Int) (p2 : Int) (bp1 : 0 ≤ p1 ∧ p1 ≤ 39) : mm_Met l d yX4_look cX4_look 4 none [mR 46, mI p1, mI p2] h (mm_pv fun h2 => mm_inv h2 ∧ mm_fr [(42, 4), (42, 5), (42, 6), (46, 5), (46, 6), (46, 7), (46, 8), (46, 9), (46, 10), (48, 8), (48, 9)] [45, 47, 49, 50, 51, 52, 53] h h2 ∧ mm_LX h h2 p1 p2) mm_nx 0 0 := by
  refine mm_ofW (ls := [mR 46, mI p1, mI p2, mU]) hl (by decide) rfl (Nat.le_of_ble_eq_true rfl) ?_
  intro x hxl C T hnm htb
  subst hxl
  have C1 := mm_OK_le (d' := d - 1 + 1) (by omega) C
  refine mm_rng (fun hr _ => ?_)
  have ap1 : -2147483648 ≤ p1 ∧ p1 < 2147483648 := mm_ok_at hr (i := 1) rfl
  have ap2 : -2147483648 ≤ p2 ∧ p2 < 2147483648 := mm_ok_at hr (i := 2) rfl
  have f0 : mm_fr [(42, 4), (42, 5), (42, 6), (46, 5), (46, 6), (46, 7), (46, 8), (46, 9), (46, 10), (48, 8), (48, 9)] [45, 47, 49, 50, 51, 52, 53] h h := mm_fr_rf
  have g1 : -2147483648 ≤ h.1 46 5 ∧ h.1 46 5 ≤ 2147483647 := i0.1 46 5
  have g2 : -2147483648 ≤ h.1 46 6 ∧ h.1 46 6 ≤ 2147483647 := i0.1 46 6
  have g3 : -2147483648 ≤ h.1 46 7 ∧ h.1 46 7 ≤ 2147483647 := i0.1 46 7
  have g4 : -2147483648 ≤ h.1 46 8 ∧ h.1 46 8 ≤ 2147483647 := i0.1 46 8
  have g5 : -2147483648 ≤ h.1 46 9 ∧ h.1 46 9 ≤ 2147483647 := i0.1 46 9
  have g6 : -2147483648 ≤ h.1 46 10 ∧ h.1 46 10 ≤ 2147483647 := i0.1 46 10
  have g7 : -2147483648 ≤ h.1 42 5 ∧ h.1 42 5 ≤ 2147483647 := i0.1 42 5
  have g8 : 0 ≤ h.1 42 6 ∧ h.1 42 6 ≤ 1 := i0.1 42 6
  have g9 : 0 ≤ h.1 48 8 ∧ h.1 48 8 ≤ 12 := i0.1 48 8
  have g10 : 0 ≤ h.1 48 9 ∧ h.1 48 9 ≤ 500 := i0.1 48 9
  refine mm_aload_n C (mm_dec dk_X4_look 0 rfl) rfl ?_
  refine mm_getr (t := 48) C fl_X4_55 (mm_dec dk_X4_look 1 rfl) rfl rfl (mm_ref i0 rfl) ?_
  refine mm_iload_n C (mm_dec dk_X4_look 2 rfl) rfl ?_
  refine mm_iload_n C (mm_dec dk_X4_look 3 rfl) rfl ?_
  refine mm_cVv (rest := []) C1 ev_X4_59 (mm_dec dk_X4_look 4 rfl) (c_X1_fill_q x.2.1 hl (d - 1) (by omega) h i0 p1 p2 ⟨by omega, by omega⟩) rfl rfl (Nat.le_of_ble_eq_true rfl) ⟨by decide, by decide⟩ rfl (fun h6c hp6 => ?_) (fun _ _ q => q.elim)
  obtain ⟨i6c, g6c, y6_0⟩ := hp6
  have f6c : mm_fr [(42, 4), (42, 5), (42, 6), (46, 5), (46, 6), (46, 7), (46, 8), (46, 9), (46, 10), (48, 8), (48, 9)] [45, 47, 49, 50, 51, 52, 53] h h6c := mm_fr_tr f0 g6c (by decide +kernel)
  have q6c_12 : h6c.1 42 5 = h.1 42 5 := g6c.1 42 5 (by decide)
  have q6c_13 : h6c.1 42 6 = h.1 42 6 := g6c.1 42 6 (by decide)
  have q6c_14 : h6c.1 46 5 = h.1 46 5 := g6c.1 46 5 (by decide)
  have q6c_15 : h6c.1 46 6 = h.1 46 6 := g6c.1 46 6 (by decide)
  have q6c_16 : h6c.1 46 7 = h.1 46 7 := g6c.1 46 7 (by decide)
  have q6c_17 : h6c.1 46 8 = h.1 46 8 := g6c.1 46 8 (by decide)
  have q6c_18 : h6c.1 46 9 = h.1 46 9 := g6c.1 46 9 (by decide)
  have q6c_19 : h6c.1 46 10 = h.1 46 10 := g6c.1 46 10 (by decide)
  have g20 : 0 ≤ (h6c.1 48 8) ∧ (h6c.1 48 8) ≤ 12 := i6c.1 48 8
  have g21 : 0 ≤ (h6c.1 48 9) ∧ (h6c.1 48 9) ≤ 500 := i6c.1 48 9
  have z48 : 0 ≤ h6c.1 48 8 ∧ 0 ≤ h6c.1 48 9 := ⟨(i6c.1 48 8).1, (i6c.1 48 9).1⟩
  refine mm_aload_n C (mm_dec dk_X4_look 5 rfl) rfl ?_
  refine mm_aload_n C (mm_dec dk_X4_look 6 rfl) rfl ?_
  refine mm_iload_n C (mm_dec dk_X4_look 7 rfl) rfl ?_
  refine mm_iload_n C (mm_dec dk_X4_look 8 rfl) rfl ?_
  refine mm_cVi (rest := [mR 46]) C1 ev_X4_63 (mm_dec dk_X4_look 9 rfl) (c_X4_startOf_q x.2.1 hl (d - 1) (by omega) h6c i6c p1 p2 ⟨by omega, by omega⟩) rfl rfl (Nat.le_of_ble_eq_true rfl) ⟨by decide, by decide⟩ rfl (fun r13 h13c hp13 => ?_) (fun _ _ q => q.elim)
  obtain ⟨b13, z13, y13_0⟩ := hp13
  rw [z13]
  have zS : mm_sX8 h p1 p2 r13 := mm_sX8_fr y13_0 (mm_k1_fr f6c (by decide)) (f6c.2 27 (by decide)) (f6c.2 34 (by decide)) (f6c.1 30 6 (by decide))
  refine mm_puti C fl_X4_19 (mm_dec dk_X4_look 10 rfl) rfl rfl rfl (Or.inl ⟨rfl, rfl⟩) ?_
  have i2 : mm_inv (mm_pf h6c 46 6 r13) := mm_inv_pf i6c (show -2147483648 ≤ r13 ∧ r13 ≤ 2147483647 from ⟨by omega, by omega⟩) (by decide)
  have f2 : mm_fr [(42, 4), (42, 5), (42, 6), (46, 5), (46, 6), (46, 7), (46, 8), (46, 9), (46, 10), (48, 8), (48, 9)] [45, 47, 49, 50, 51, 52, 53] h (mm_pf h6c 46 6 r13) := mm_fr_pf f6c (by decide)
  obtain ⟨h2, eh2⟩ : ∃ z, z = mm_pf h6c 46 6 r13 := ⟨_, rfl⟩
  rw [← eh2] at i2 f2 ⊢
  have qh2 : h2.1 46 6 = r13 := by rw [eh2]; exact mm_pf_same _ _ _ _
  have qh2_23 : h2.1 42 5 = h6c.1 42 5 := by rw [eh2]; exact mm_pf_ne _ _ (by decide)
  have qh2_24 : h2.1 42 6 = h6c.1 42 6 := by rw [eh2]; exact mm_pf_ne _ _ (by decide)
  have qh2_25 : h2.1 46 5 = h6c.1 46 5 := by rw [eh2]; exact mm_pf_ne _ _ (by decide)
  have qh2_26 : h2.1 46 7 = h6c.1 46 7 := by rw [eh2]; exact mm_pf_ne _ _ (by decide)
  have qh2_27 : h2.1 46 8 = h6c.1 46 8 := by rw [eh2]; exact mm_pf_ne _ _ (by decide)
  have qh2_28 : h2.1 46 9 = h6c.1 46 9 := by rw [eh2]; exact mm_pf_ne _ _ (by decide)
  have qh2_29 : h2.1 46 10 = h6c.1 46 10 := by rw [eh2]; exact mm_pf_ne _ _ (by decide)
  have qh2_30 : h2.1 48 8 = h6c.1 48 8 := by rw [eh2]; exact mm_pf_ne _ _ (by decide)
  have qh2_31 : h2.1 48 9 = h6c.1 48 9 := by rw [eh2]; exact mm_pf_ne _ _ (by decide)
  refine mm_aload_n C (mm_dec dk_X4_look 11 rfl) rfl ?_
  refine mm_aload_n C (mm_dec dk_X4_look 12 rfl) rfl ?_
  refine mm_getr (t := 30) C fl_X4_42 (mm_dec dk_X4_look 13 rfl) rfl rfl (mm_ref i2 rfl) ?_
  refine mm_aload_n C (mm_dec dk_X4_look 14 rfl) rfl ?_
  refine mm_getr (t := 30) C fl_X4_42 (mm_dec dk_X4_look 15 rfl) rfl rfl (mm_ref i2 rfl) ?_
  refine mm_iconst C (mm_dec dk_X4_look 16 rfl) ⟨by decide, by decide⟩ ?_
  refine mm_iload_n C (mm_dec dk_X4_look 17 rfl) rfl ?_
  refine mm_iload_n C (mm_dec dk_X4_look 18 rfl) rfl ?_
  refine mm_cVi (rest := [mR 30, mR 46]) C1 ev_X4_67 (mm_dec dk_X4_look 19 rfl) (c_X6_latest_q x.2.1 hl (d - 1) (by omega) h2 i2 2 p1 p2 ⟨by omega, by omega⟩) rfl rfl (Nat.le_of_ble_eq_true rfl) ⟨by decide, by decide⟩ rfl (fun r31 h31c hp31 => ?_) (fun _ _ q => q.elim)
  obtain ⟨b31, z31, y31_0⟩ := hp31
  rw [z31]
  have zT : mm_lat (mm_k1 h 2 p1 p2) (h.1 30 6) r31 := by rw [← mm_k1_fr f2 (by decide), ← f2.1 30 6 (by decide)]; exact y31_0
  refine mm_cVi (rest := [mR 46]) C1 ev_X4_73 (mm_dec dk_X4_look 20 rfl) (c_X6_timeOf_q x.2.1 hl (d - 1) (by omega) h2 i2 r31 ⟨by omega, by omega⟩) rfl rfl (Nat.le_of_ble_eq_true rfl) ⟨by decide, by decide⟩ rfl (fun r34 h34c hp34 => ?_) (fun _ _ q => q.elim)
  obtain ⟨b34, z34, y34_0⟩ := hp34
  rw [z34]
  have zT2 : mm_tm8 (h.2.1 34) (mm_k1 h 2 p1 p2) (h.1 30 6) r34 := ⟨r31, zT, by rw [← f2.2 34 (by decide)]; omega⟩
  refine mm_puti C fl_X4_22 (mm_dec dk_X4_look 21 rfl) rfl rfl rfl (Or.inl ⟨rfl, rfl⟩) ?_
  have i3 : mm_inv (mm_pf h2 46 7 r34) := mm_inv_pf i2 (show -2147483648 ≤ r34 ∧ r34 ≤ 2147483647 from ⟨by omega, by omega⟩) (by decide)
  have f3 : mm_fr [(42, 4), (42, 5), (42, 6), (46, 5), (46, 6), (46, 7), (46, 8), (46, 9), (46, 10), (48, 8), (48, 9)] [45, 47, 49, 50, 51, 52, 53] h (mm_pf h2 46 7 r34) := mm_fr_pf f2 (by decide)
  obtain ⟨h3, eh3⟩ : ∃ z, z = mm_pf h2 46 7 r34 := ⟨_, rfl⟩
  rw [← eh3] at i3 f3 ⊢
  have qh3 : h3.1 46 7 = r34 := by rw [eh3]; exact mm_pf_same _ _ _ _
  have qh3_34 : h3.1 42 5 = h2.1 42 5 := by rw [eh3]; exact mm_pf_ne _ _ (by decide)
  have qh3_35 : h3.1 42 6 = h2.1 42 6 := by rw [eh3]; exact mm_pf_ne _ _ (by decide)
  have qh3_36 : h3.1 46 5 = h2.1 46 5 := by rw [eh3]; exact mm_pf_ne _ _ (by decide)
  have qh3_37 : h3.1 46 6 = h2.1 46 6 := by rw [eh3]; exact mm_pf_ne _ _ (by decide)
  have qh3_38 : h3.1 46 8 = h2.1 46 8 := by rw [eh3]; exact mm_pf_ne _ _ (by decide)
  have qh3_39 : h3.1 46 9 = h2.1 46 9 := by rw [eh3]; exact mm_pf_ne _ _ (by decide)
  have qh3_40 : h3.1 46 10 = h2.1 46 10 := by rw [eh3]; exact mm_pf_ne _ _ (by decide)
  have qh3_41 : h3.1 48 8 = h2.1 48 8 := by rw [eh3]; exact mm_pf_ne _ _ (by decide)
  have qh3_42 : h3.1 48 9 = h2.1 48 9 := by rw [eh3]; exact mm_pf_ne _ _ (by decide)
  refine mm_aload_n C (mm_dec dk_X4_look 22 rfl) rfl ?_
  refine mm_iload_n C (mm_dec dk_X4_look 23 rfl) rfl ?_
  refine mm_cVv (rest := []) C1 ev_X4_77 (mm_dec dk_X4_look 24 rfl) (c_X4_fillValues_q x.2.1 hl (d - 1) (by omega) h3 i3 p1 ⟨by omega, by omega⟩) rfl rfl (Nat.le_of_ble_eq_true rfl) ⟨by decide, by decide⟩ rfl (fun h42c hp42 => ?_) (fun _ _ q => q.elim)
  obtain ⟨i42c, g42c, y42_0, y42_1, y42_2, y42_3, y42_4, y42_5, y42_6⟩ := hp42
  have f42c : mm_fr [(42, 4), (42, 5), (42, 6), (46, 5), (46, 6), (46, 7), (46, 8), (46, 9), (46, 10), (48, 8), (48, 9)] [45, 47, 49, 50, 51, 52, 53] h h42c := mm_fr_tr f3 g42c (by decide +kernel)
  have q42c_44 : h42c.1 42 5 = h3.1 42 5 := g42c.1 42 5 (by decide)
  have q42c_45 : h42c.1 42 6 = h3.1 42 6 := g42c.1 42 6 (by decide)
  have q42c_46 : h42c.1 46 5 = h3.1 46 5 := g42c.1 46 5 (by decide)
  have q42c_47 : h42c.1 46 6 = h3.1 46 6 := g42c.1 46 6 (by decide)
  have q42c_48 : h42c.1 46 7 = h3.1 46 7 := g42c.1 46 7 (by decide)
  have q42c_49 : h42c.1 46 8 = h3.1 46 8 := g42c.1 46 8 (by decide)
  have q42c_50 : h42c.1 46 9 = h3.1 46 9 := g42c.1 46 9 (by decide)
  have q42c_51 : h42c.1 46 10 = h3.1 46 10 := g42c.1 46 10 (by decide)
  have q42c_52 : h42c.1 48 8 = h3.1 48 8 := g42c.1 48 8 (by decide)
  have q42c_53 : h42c.1 48 9 = h3.1 48 9 := g42c.1 48 9 (by decide)
  refine mm_aload_n C (mm_dec dk_X4_look 25 rfl) rfl ?_
  refine mm_getr (t := 42) C fl_X4_46 (mm_dec dk_X4_look 26 rfl) rfl rfl (mm_ref i42c rfl) ?_
  refine mm_aload_n C (mm_dec dk_X4_look 27 rfl) rfl ?_
  refine mm_getr (t := 47) C fl_X4_9 (mm_dec dk_X4_look 28 rfl) rfl rfl (mm_ref i42c rfl) ?_
  refine mm_cVv (rest := []) C1 ev_X4_81 (mm_dec dk_X4_look 29 rfl) (c_X8_apply_47_q x.2.1 hl (d - 1) (by omega) h42c i42c ) rfl rfl (Nat.le_of_ble_eq_true rfl) ⟨by decide, by decide⟩ rfl (fun h53c hp53 => ?_) (fun _ _ q => q.elim)
  obtain ⟨i53c, g53c, y53_0⟩ := hp53
  have f53c : mm_fr [(42, 4), (42, 5), (42, 6), (46, 5), (46, 6), (46, 7), (46, 8), (46, 9), (46, 10), (48, 8), (48, 9)] [45, 47, 49, 50, 51, 52, 53] h h53c := mm_fr_tr f42c g53c (by decide +kernel)
  have q53c_55 : h53c.1 46 5 = h42c.1 46 5 := g53c.1 46 5 (by decide)
  have q53c_56 : h53c.1 46 6 = h42c.1 46 6 := g53c.1 46 6 (by decide)
  have q53c_57 : h53c.1 46 7 = h42c.1 46 7 := g53c.1 46 7 (by decide)
  have q53c_58 : h53c.1 46 8 = h42c.1 46 8 := g53c.1 46 8 (by decide)
  have q53c_59 : h53c.1 46 9 = h42c.1 46 9 := g53c.1 46 9 (by decide)
  have q53c_60 : h53c.1 46 10 = h42c.1 46 10 := g53c.1 46 10 (by decide)
  have q53c_61 : h53c.1 48 8 = h42c.1 48 8 := g53c.1 48 8 (by decide)
  have q53c_62 : h53c.1 48 9 = h42c.1 48 9 := g53c.1 48 9 (by decide)
  have g63 : -2147483648 ≤ (h53c.1 42 5) ∧ (h53c.1 42 5) ≤ 2147483647 := i53c.1 42 5
  have g64 : 0 ≤ (h53c.1 42 6) ∧ (h53c.1 42 6) ≤ 1 := i53c.1 42 6
  have zF := mm_FX_of y6_0 zS zT2 g6c (by rw [eh3, eh2]; rfl) (by omega) (by omega) (by omega) (by omega) z48.1 z48.2 y42_0 y42_1 y42_2 y42_3 y42_4 y42_5 y42_6 y53_0 (f42c.2 44 (by decide)) (f42c.2 43 (by decide)) (f42c.1 42 3 (by decide))
  have z47 : ∀ j, h53c.2.1 47 j = h42c.2.1 47 j := fun j => g53c.2 47 (by decide) j
  refine mm_aload_n C (mm_dec dk_X4_look 30 rfl) rfl ?_
  refine mm_aload_n C (mm_dec dk_X4_look 31 rfl) rfl ?_
  refine mm_getr (t := 42) C fl_X4_46 (mm_dec dk_X4_look 32 rfl) rfl rfl (mm_ref i53c rfl) ?_
  refine mm_cVi (rest := [mR 46]) C1 ev_X4_87 (mm_dec dk_X4_look 33 rfl) (c_X8_penalty x.2.1 hl (d - 1) (by omega) h53c i53c ) rfl rfl (Nat.le_of_ble_eq_true rfl) ⟨by decide, by decide⟩ rfl (fun r61 h61c hp61 => ?_) (fun _ _ q => q.elim)
  obtain ⟨z61, y61⟩ := hp61
  rw [z61, y61]
  refine mm_puti C fl_X4_25 (mm_dec dk_X4_look 34 rfl) rfl rfl rfl (Or.inl ⟨rfl, rfl⟩) ?_
  have i6 : mm_inv (mm_pf h53c 46 8 (h53c.1 42 5)) := mm_inv_pf i53c (show -2147483648 ≤ (h53c.1 42 5) ∧ (h53c.1 42 5) ≤ 2147483647 from ⟨by omega, by omega⟩) (by decide)
  have f6 : mm_fr [(42, 4), (42, 5), (42, 6), (46, 5), (46, 6), (46, 7), (46, 8), (46, 9), (46, 10), (48, 8), (48, 9)] [45, 47, 49, 50, 51, 52, 53] h (mm_pf h53c 46 8 (h53c.1 42 5)) := mm_fr_pf f53c (by decide)
  obtain ⟨h6, eh6⟩ : ∃ z, z = mm_pf h53c 46 8 (h53c.1 42 5) := ⟨_, rfl⟩
  rw [← eh6] at i6 f6 ⊢
  have qh6 : h6.1 46 8 = (h53c.1 42 5) := by rw [eh6]; exact mm_pf_same _ _ _ _
  have qh6_66 : h6.1 42 5 = h53c.1 42 5 := by rw [eh6]; exact mm_pf_ne _ _ (by decide)
  have qh6_67 : h6.1 42 6 = h53c.1 42 6 := by rw [eh6]; exact mm_pf_ne _ _ (by decide)
  have qh6_68 : h6.1 46 5 = h53c.1 46 5 := by rw [eh6]; exact mm_pf_ne _ _ (by decide)
  have qh6_69 : h6.1 46 6 = h53c.1 46 6 := by rw [eh6]; exact mm_pf_ne _ _ (by decide)
  have qh6_70 : h6.1 46 7 = h53c.1 46 7 := by rw [eh6]; exact mm_pf_ne _ _ (by decide)
  have qh6_71 : h6.1 46 9 = h53c.1 46 9 := by rw [eh6]; exact mm_pf_ne _ _ (by decide)
  have qh6_72 : h6.1 46 10 = h53c.1 46 10 := by rw [eh6]; exact mm_pf_ne _ _ (by decide)
  have qh6_73 : h6.1 48 8 = h53c.1 48 8 := by rw [eh6]; exact mm_pf_ne _ _ (by decide)
  have qh6_74 : h6.1 48 9 = h53c.1 48 9 := by rw [eh6]; exact mm_pf_ne _ _ (by decide)
  refine mm_aload_n C (mm_dec dk_X4_look 35 rfl) rfl ?_
  refine mm_aload_n C (mm_dec dk_X4_look 36 rfl) rfl ?_
  refine mm_getr (t := 30) C fl_X4_42 (mm_dec dk_X4_look 37 rfl) rfl rfl (mm_ref i6 rfl) ?_
  refine mm_iload_n C (mm_dec dk_X4_look 38 rfl) rfl ?_
  refine mm_iload_n C (mm_dec dk_X4_look 39 rfl) rfl ?_
  refine mm_cVi (rest := [mR 46]) C1 ev_X4_90 (mm_dec dk_X4_look 40 rfl) (c_X6_addedTo_q x.2.1 hl (d - 1) (by omega) h6 i6 p1 p2 ⟨by omega, by omega⟩) rfl rfl (Nat.le_of_ble_eq_true rfl) ⟨by decide, by decide⟩ rfl (fun r74 h74c hp74 => ?_) (fun _ _ q => q.elim)
  obtain ⟨b74, z74, y74_0⟩ := hp74
  rw [z74]
  have zA : r74 = mm_aX9 h p1 p2 := mm_adX_fr y74_0 (f6.2 37 (by decide)) (f6.2 40 (by decide)) (f6.2 38 (by decide)) (f6.2 39 (by decide)) (f6.1 30 12 (by decide))
  refine mm_puti C fl_X4_28 (mm_dec dk_X4_look 41 rfl) rfl rfl rfl (Or.inl ⟨rfl, rfl⟩) ?_
  have i7 : mm_inv (mm_pf h6 46 9 r74) := mm_inv_pf i6 (show -2147483648 ≤ r74 ∧ r74 ≤ 2147483647 from ⟨by omega, by omega⟩) (by decide)
  have f7 : mm_fr [(42, 4), (42, 5), (42, 6), (46, 5), (46, 6), (46, 7), (46, 8), (46, 9), (46, 10), (48, 8), (48, 9)] [45, 47, 49, 50, 51, 52, 53] h (mm_pf h6 46 9 r74) := mm_fr_pf f6 (by decide)
  obtain ⟨h7, eh7⟩ : ∃ z, z = mm_pf h6 46 9 r74 := ⟨_, rfl⟩
  rw [← eh7] at i7 f7 ⊢
  have qh7 : h7.1 46 9 = r74 := by rw [eh7]; exact mm_pf_same _ _ _ _
  have qh7_76 : h7.1 42 5 = h6.1 42 5 := by rw [eh7]; exact mm_pf_ne _ _ (by decide)
  have qh7_77 : h7.1 42 6 = h6.1 42 6 := by rw [eh7]; exact mm_pf_ne _ _ (by decide)
  have qh7_78 : h7.1 46 5 = h6.1 46 5 := by rw [eh7]; exact mm_pf_ne _ _ (by decide)
  have qh7_79 : h7.1 46 6 = h6.1 46 6 := by rw [eh7]; exact mm_pf_ne _ _ (by decide)
  have qh7_80 : h7.1 46 7 = h6.1 46 7 := by rw [eh7]; exact mm_pf_ne _ _ (by decide)
  have qh7_81 : h7.1 46 8 = h6.1 46 8 := by rw [eh7]; exact mm_pf_ne _ _ (by decide)
  have qh7_82 : h7.1 46 10 = h6.1 46 10 := by rw [eh7]; exact mm_pf_ne _ _ (by decide)
  have qh7_83 : h7.1 48 8 = h6.1 48 8 := by rw [eh7]; exact mm_pf_ne _ _ (by decide)
  have qh7_84 : h7.1 48 9 = h6.1 48 9 := by rw [eh7]; exact mm_pf_ne _ _ (by decide)
  refine mm_aload_n C (mm_dec dk_X4_look 42 rfl) rfl ?_
  refine mm_aload_n C (mm_dec dk_X4_look 43 rfl) rfl ?_
  refine mm_iload_n C (mm_dec dk_X4_look 44 rfl) rfl ?_
  refine mm_aload_n C (mm_dec dk_X4_look 45 rfl) rfl ?_
  refine mm_getr (t := 30) C fl_X4_42 (mm_dec dk_X4_look 46 rfl) rfl rfl (mm_ref i7 rfl) ?_
  refine mm_iload_n C (mm_dec dk_X4_look 47 rfl) rfl ?_
  refine mm_iload_n C (mm_dec dk_X4_look 48 rfl) rfl ?_
  refine mm_cVi (rest := [mI p2, mR 46, mR 46]) C1 ev_X4_93 (mm_dec dk_X4_look 49 rfl) (c_X6_verdictOn_q x.2.1 hl (d - 1) (by omega) h7 i7 p1 p2 ⟨by omega, by omega⟩) rfl rfl (Nat.le_of_ble_eq_true rfl) ⟨by decide, by decide⟩ rfl (fun r89 h89c hp89 => ?_) (fun _ _ q => q.elim)
  obtain ⟨b89, z89, y89_0⟩ := hp89
  rw [z89]
  have zV : r89 = mm_vX9 h p1 p2 := mm_veX_fr y89_0 (f7.2 37 (by decide)) (f7.2 40 (by decide)) (f7.2 38 (by decide)) (f7.2 41 (by decide)) (f7.1 30 12 (by decide))
  refine mm_cVi (rest := [mR 46]) C1 ev_X4_96 (mm_dec dk_X4_look 50 rfl) (c_X4_stateAt_q x.2.1 hl (d - 1) (by omega) h7 i7 p2 r89) rfl rfl (Nat.le_of_ble_eq_true rfl) ⟨by decide, by decide⟩ rfl (fun r92 h92c hp92 => ?_) (fun _ _ q => q.elim)
  obtain ⟨b92, z92, y92_0⟩ := hp92
  rw [z92]
  refine mm_puti C fl_X4_15 (mm_dec dk_X4_look 51 rfl) rfl rfl rfl (Or.inl ⟨rfl, rfl⟩) ?_
  have i8 : mm_inv (mm_pf h7 46 5 r92) := mm_inv_pf i7 (show -2147483648 ≤ r92 ∧ r92 ≤ 2147483647 from ⟨by omega, by omega⟩) (by decide)
  have f8 : mm_fr [(42, 4), (42, 5), (42, 6), (46, 5), (46, 6), (46, 7), (46, 8), (46, 9), (46, 10), (48, 8), (48, 9)] [45, 47, 49, 50, 51, 52, 53] h (mm_pf h7 46 5 r92) := mm_fr_pf f7 (by decide)
  obtain ⟨h8, eh8⟩ : ∃ z, z = mm_pf h7 46 5 r92 := ⟨_, rfl⟩
  rw [← eh8] at i8 f8 ⊢
  have qh8 : h8.1 46 5 = r92 := by rw [eh8]; exact mm_pf_same _ _ _ _
  have qh8_87 : h8.1 42 5 = h7.1 42 5 := by rw [eh8]; exact mm_pf_ne _ _ (by decide)
  have qh8_88 : h8.1 42 6 = h7.1 42 6 := by rw [eh8]; exact mm_pf_ne _ _ (by decide)
  have qh8_89 : h8.1 46 6 = h7.1 46 6 := by rw [eh8]; exact mm_pf_ne _ _ (by decide)
  have qh8_90 : h8.1 46 7 = h7.1 46 7 := by rw [eh8]; exact mm_pf_ne _ _ (by decide)
  have qh8_91 : h8.1 46 8 = h7.1 46 8 := by rw [eh8]; exact mm_pf_ne _ _ (by decide)
  have qh8_92 : h8.1 46 9 = h7.1 46 9 := by rw [eh8]; exact mm_pf_ne _ _ (by decide)
  have qh8_93 : h8.1 46 10 = h7.1 46 10 := by rw [eh8]; exact mm_pf_ne _ _ (by decide)
  have qh8_94 : h8.1 48 8 = h7.1 48 8 := by rw [eh8]; exact mm_pf_ne _ _ (by decide)
  have qh8_95 : h8.1 48 9 = h7.1 48 9 := by rw [eh8]; exact mm_pf_ne _ _ (by decide)
  refine mm_aload_n C (mm_dec dk_X4_look 52 rfl) rfl ?_
  refine mm_ldc (z := -100000) C (mm_dec dk_X4_look 53 rfl) kc_X4_31 (by decide) ?_
  refine mm_puti C fl_X4_32 (mm_dec dk_X4_look 54 rfl) rfl rfl rfl (Or.inl ⟨rfl, rfl⟩) ?_
  have i9 : mm_inv (mm_pf h8 46 10 (-100000)) := mm_inv_pf i8 (show -2147483648 ≤ (-100000) ∧ (-100000) ≤ 2147483647 from ⟨by omega, by omega⟩) (by decide)
  have f9 : mm_fr [(42, 4), (42, 5), (42, 6), (46, 5), (46, 6), (46, 7), (46, 8), (46, 9), (46, 10), (48, 8), (48, 9)] [45, 47, 49, 50, 51, 52, 53] h (mm_pf h8 46 10 (-100000)) := mm_fr_pf f8 (by decide)
  obtain ⟨h9, eh9⟩ : ∃ z, z = mm_pf h8 46 10 (-100000) := ⟨_, rfl⟩
  rw [← eh9] at i9 f9 ⊢
  have qh9 : h9.1 46 10 = (-100000) := by rw [eh9]; exact mm_pf_same _ _ _ _
  have qh9_96 : h9.1 42 5 = h8.1 42 5 := by rw [eh9]; exact mm_pf_ne _ _ (by decide)
  have qh9_97 : h9.1 42 6 = h8.1 42 6 := by rw [eh9]; exact mm_pf_ne _ _ (by decide)
  have qh9_98 : h9.1 46 5 = h8.1 46 5 := by rw [eh9]; exact mm_pf_ne _ _ (by decide)
  have qh9_99 : h9.1 46 6 = h8.1 46 6 := by rw [eh9]; exact mm_pf_ne _ _ (by decide)
  have qh9_100 : h9.1 46 7 = h8.1 46 7 := by rw [eh9]; exact mm_pf_ne _ _ (by decide)
  have qh9_101 : h9.1 46 8 = h8.1 46 8 := by rw [eh9]; exact mm_pf_ne _ _ (by decide)
  have qh9_102 : h9.1 46 9 = h8.1 46 9 := by rw [eh9]; exact mm_pf_ne _ _ (by decide)
  have qh9_103 : h9.1 48 8 = h8.1 48 8 := by rw [eh9]; exact mm_pf_ne _ _ (by decide)
  have qh9_104 : h9.1 48 9 = h8.1 48 9 := by rw [eh9]; exact mm_pf_ne _ _ (by decide)
  refine mm_aload_n C (mm_dec dk_X4_look 55 rfl) rfl ?_
  have z47b : ∀ j, h9.2.1 47 j = h42c.2.1 47 j := fun j => (by rw [eh9, eh8, eh7, eh6]; exact z47 j)
  have zL : mm_LX0 h h9 p1 p2 := mm_LX0_of zF (by omega) (by omega) z47b (by omega) (by omega) ((show h9.1 46 9 = r74 by omega).trans zA) ((show h9.1 46 5 = r92 by omega).trans (y92_0.trans (by rw [zV, show h7.1 46 6 = r13 by omega, show h7.1 46 7 = r34 by omega, show h7.1 42 6 = h53c.1 42 6 by omega, show h7.2.1 47 0 = h42c.2.1 47 0 from (by rw [eh7, eh6]; exact z47 0)])))
  have z17 : h9.2.1 17 (h9.2.1 23 p1) = h.2.1 17 (h.2.1 23 p1) := by rw [f9.2 17 (by decide), f9.2 23 (by decide)]
  refine mm_geti C fl_X4_15 (mm_dec dk_X4_look 56 rfl) rfl rfl (Or.inl rfl) ?_
  refine mm_iconst C (mm_dec dk_X4_look 57 rfl) ⟨by decide, by decide⟩ ?_
  have J156 : ∀ (h156_ : mH) (i156_ : mm_inv h156_) (f156_ : mm_fr [(42, 4), (42, 5), (42, 6), (46, 5), (46, 6), (46, 7), (46, 8), (46, 9), (46, 10), (48, 8), (48, 9)] [45, 47, 49, 50, 51, 52, 53] h h156_) (w156_0 : mm_LX h h156_ p1 p2), mm_W x 0 0 156 [mU, mU, mU, mU] [] h156_ := by
    intro h156_ i156_ f156_ w156_0
    have g105 : -2147483648 ≤ h156_.1 46 5 ∧ h156_.1 46 5 ≤ 2147483647 := i156_.1 46 5
    have g106 : -2147483648 ≤ h156_.1 46 6 ∧ h156_.1 46 6 ≤ 2147483647 := i156_.1 46 6
    have g107 : -2147483648 ≤ h156_.1 46 7 ∧ h156_.1 46 7 ≤ 2147483647 := i156_.1 46 7
    have g108 : -2147483648 ≤ h156_.1 46 8 ∧ h156_.1 46 8 ≤ 2147483647 := i156_.1 46 8
    have g109 : -2147483648 ≤ h156_.1 46 9 ∧ h156_.1 46 9 ≤ 2147483647 := i156_.1 46 9
    have g110 : -2147483648 ≤ h156_.1 46 10 ∧ h156_.1 46 10 ≤ 2147483647 := i156_.1 46 10
    have g111 : -2147483648 ≤ h156_.1 42 5 ∧ h156_.1 42 5 ≤ 2147483647 := i156_.1 42 5
    have g112 : 0 ≤ h156_.1 42 6 ∧ h156_.1 42 6 ≤ 1 := i156_.1 42 6
    have g113 : 0 ≤ h156_.1 48 8 ∧ h156_.1 48 8 ≤ 12 := i156_.1 48 8
    have g114 : 0 ≤ h156_.1 48 9 ∧ h156_.1 48 9 ≤ 500 := i156_.1 48 9
    exact mm_vret C T (mm_dec dk_X4_look 85 rfl) (by decide : 0 ≤ 0) (by decide : 0 ≤ 0) ⟨rfl, ⟨i156_, f156_, by exact w156_0⟩⟩
  refine mm_icmp_ne (tgt := 156) C (mm_dec dk_X4_look 58 rfl) (by decide) (fun c109 => ?_) (fun c109 => ?_)
  · skip
    refine mm_fgt 0 ?_
    refine mm_fgt 1 ?_
    refine mm_fgt 2 ?_
    exact J156 h9 i9 f9 (by first | exact ⟨zL, Or.inl ⟨by omega, by omega⟩⟩ | exact ⟨mm_LX0_pf zL eh10, Or.inr ⟨by omega, mm_to9_pf eh10 w153_0⟩⟩)
  · skip
    refine mm_aload_n C (mm_dec dk_X4_look 59 rfl) rfl ?_
    refine mm_geti C fl_X4_25 (mm_dec dk_X4_look 60 rfl) rfl rfl (Or.inl rfl) ?_
    refine mm_aload_n C (mm_dec dk_X4_look 61 rfl) rfl ?_
    refine mm_geti C fl_X4_28 (mm_dec dk_X4_look 62 rfl) rfl rfl (Or.inl rfl) ?_
    refine mm_iaddw C (mm_dec dk_X4_look 63 rfl) ?_
    have g115 : -2147483648 ≤ (mm_w ((h9.1 46 8) + (h9.1 46 9))) ∧ (mm_w ((h9.1 46 8) + (h9.1 46 9))) < 2147483648 := mm_w_rg _
    refine mm_istore_nL (ls2 := [mR 46, mI p1, mI p2, mI (mm_w ((h9.1 46 8) + (h9.1 46 9)))]) C (mm_dec dk_X4_look 64 rfl) (by decide) rfl ?_
    refine mm_aload_n C (mm_dec dk_X4_look 65 rfl) rfl ?_
    refine mm_aload_n C (mm_dec dk_X4_look 66 rfl) rfl ?_
    refine mm_getr (t := 22) C fl_X4_38 (mm_dec dk_X4_look 67 rfl) rfl rfl (mm_ref i9 rfl) ?_
    refine mm_iload_n C (mm_dec dk_X4_look 68 rfl) rfl ?_
    refine mm_cVi (rest := [mR 46]) C1 ev_X4_99 (mm_dec dk_X4_look 69 rfl) (c_X9_runsFree x.2.1 hl (d - 1) (by omega) h9 i9 p1 ⟨by omega, by omega⟩) rfl rfl (Nat.le_of_ble_eq_true rfl) ⟨by decide, by decide⟩ rfl (fun r128 h128c hp128 => ?_) (fun _ _ q => q.elim)
    obtain ⟨z128, y128⟩ := hp128
    rw [z128, y128]
    have g117 : 0 ≤ (h9.2.1 17 (h9.2.1 23 p1)) ∧ (h9.2.1 17 (h9.2.1 23 p1)) ≤ 1 := i9.2.1 17 (h9.2.1 23 p1)
    have g118 : 0 ≤ (h9.2.1 23 p1) ∧ (h9.2.1 23 p1) ≤ 7 := i9.2.1 23 p1
    have J153 : ∀ (s153_1 : Int) (bs153_1 : -2147483648 ≤ s153_1 ∧ s153_1 ≤ 2147483647) (w153_0 : s153_1 = mm_to9 (h.2.1 17 (h.2.1 23 p1)) (h9.2.1 47 3) (h9.2.1 47 2) (h9.1 46 8) (h9.1 46 9)), mm_W x 0 0 153 [mU, mU, mU, mU] [mI s153_1, mR 46] h9 := by
      intro s153_1 bs153_1 w153_0
      refine mm_puti C fl_X4_32 (mm_dec dk_X4_look 84 rfl) rfl rfl rfl (Or.inl ⟨rfl, rfl⟩) ?_
      have i10 : mm_inv (mm_pf h9 46 10 s153_1) := mm_inv_pf i9 (show -2147483648 ≤ s153_1 ∧ s153_1 ≤ 2147483647 from ⟨by omega, by omega⟩) (by decide)
      have f10 : mm_fr [(42, 4), (42, 5), (42, 6), (46, 5), (46, 6), (46, 7), (46, 8), (46, 9), (46, 10), (48, 8), (48, 9)] [45, 47, 49, 50, 51, 52, 53] h (mm_pf h9 46 10 s153_1) := mm_fr_pf f9 (by decide)
      obtain ⟨h10, eh10⟩ : ∃ z, z = mm_pf h9 46 10 s153_1 := ⟨_, rfl⟩
      rw [← eh10] at i10 f10 ⊢
      have qh10 : h10.1 46 10 = s153_1 := by rw [eh10]; exact mm_pf_same _ _ _ _
      have qh10_119 : h10.1 42 5 = h9.1 42 5 := by rw [eh10]; exact mm_pf_ne _ _ (by decide)
      have qh10_120 : h10.1 42 6 = h9.1 42 6 := by rw [eh10]; exact mm_pf_ne _ _ (by decide)
      have qh10_121 : h10.1 46 5 = h9.1 46 5 := by rw [eh10]; exact mm_pf_ne _ _ (by decide)
      have qh10_122 : h10.1 46 6 = h9.1 46 6 := by rw [eh10]; exact mm_pf_ne _ _ (by decide)
      have qh10_123 : h10.1 46 7 = h9.1 46 7 := by rw [eh10]; exact mm_pf_ne _ _ (by decide)
      have qh10_124 : h10.1 46 8 = h9.1 46 8 := by rw [eh10]; exact mm_pf_ne _ _ (by decide)
      have qh10_125 : h10.1 46 9 = h9.1 46 9 := by rw [eh10]; exact mm_pf_ne _ _ (by decide)
      have qh10_126 : h10.1 48 8 = h9.1 48 8 := by rw [eh10]; exact mm_pf_ne _ _ (by decide)
      have qh10_127 : h10.1 48 9 = h9.1 48 9 := by rw [eh10]; exact mm_pf_ne _ _ (by decide)
      exact J156 h10 i10 f10 (by first | exact ⟨zL, Or.inl ⟨by omega, by omega⟩⟩ | exact ⟨mm_LX0_pf zL eh10, Or.inr ⟨by omega, mm_to9_pf eh10 w153_0⟩⟩)
    refine mm_if_eq (tgt := 145) C (mm_dec dk_X4_look 70 rfl) (by decide) (fun c131 => ?_) (fun c131 => ?_)
    · skip
      refine mm_aload_n C (mm_dec dk_X4_look 78 rfl) rfl ?_
      refine mm_getr (t := 47) C fl_X4_9 (mm_dec dk_X4_look 79 rfl) rfl rfl (mm_ref i9 rfl) ?_
      refine mm_iconst C (mm_dec dk_X4_look 80 rfl) ⟨by decide, by decide⟩ ?_
      refine mm_iald C (mm_dec dk_X4_look 81 rfl) rfl (by omega) (by omega) ?_
      have g128 : -2147483648 ≤ (h9.2.1 47 2) ∧ (h9.2.1 47 2) ≤ 2147483647 := i9.2.1 47 2
      refine mm_iload_n C (mm_dec dk_X4_look 82 rfl) rfl ?_
      refine mm_iaddw C (mm_dec dk_X4_look 83 rfl) ?_
      have g129 : -2147483648 ≤ (mm_w ((h9.2.1 47 2) + (mm_w ((h9.1 46 8) + (h9.1 46 9))))) ∧ (mm_w ((h9.2.1 47 2) + (mm_w ((h9.1 46 8) + (h9.1 46 9))))) < 2147483648 := mm_w_rg _
      refine mm_fgt 0 ?_
      refine mm_fgt 1 ?_
      refine mm_fgt 2 ?_
      refine mm_fgt 3 ?_
      exact J153 (mm_w ((h9.2.1 47 2) + (mm_w ((h9.1 46 8) + (h9.1 46 9))))) ⟨by omega, by omega⟩ (by first | exact (if_pos (by omega)).symm | exact (if_neg (by omega)).symm)
    · skip
      refine mm_aload_n C (mm_dec dk_X4_look 71 rfl) rfl ?_
      refine mm_getr (t := 47) C fl_X4_9 (mm_dec dk_X4_look 72 rfl) rfl rfl (mm_ref i9 rfl) ?_
      refine mm_iconst C (mm_dec dk_X4_look 73 rfl) ⟨by decide, by decide⟩ ?_
      refine mm_iald C (mm_dec dk_X4_look 74 rfl) rfl (by omega) (by omega) ?_
      have g130 : -2147483648 ≤ (h9.2.1 47 3) ∧ (h9.2.1 47 3) ≤ 2147483647 := i9.2.1 47 3
      refine mm_iload_n C (mm_dec dk_X4_look 75 rfl) rfl ?_
      refine mm_isubw C (mm_dec dk_X4_look 76 rfl) ?_
      have g131 : -2147483648 ≤ (mm_w ((h9.2.1 47 3) - (mm_w ((h9.1 46 8) + (h9.1 46 9))))) ∧ (mm_w ((h9.2.1 47 3) - (mm_w ((h9.1 46 8) + (h9.1 46 9))))) < 2147483648 := mm_w_rg _
      refine mm_goto (tgt := 153) C (mm_dec dk_X4_look 77 rfl) (by decide) ?_
      refine mm_fgt 0 ?_
      refine mm_fgt 1 ?_
      refine mm_fgt 2 ?_
      refine mm_fgt 3 ?_
      exact J153 (mm_w ((h9.2.1 47 3) - (mm_w ((h9.1 46 8) + (h9.1 46 9))))) ⟨by omega, by omega⟩ (by first | exact (if_pos (by omega)).symm | exact (if_neg (by omega)).symm)
set_option maxRecDepth 100000 in
set_option maxHeartbeats 4000000 in
theorem c_X4_answer_q (l : Launch) (hl : l.stackTraces = false) (d : Nat) (hd : 0 ≤ d) (h : mH) (i0 : mm_inv h) (p1 : Int) : mm_Met l d yX4_answer cX4_answer 2 (some .int) [mR 46, mI p1] h (mm_pi fun r h2 => (-2147483648 ≤ r ∧ r ≤ 2147483647) ∧ h2 = h ∧ ((p1 = 0 ∧ r = h.1 46 5) ∨ (p1 = 1 ∧ r = h.1 46 6) ∨ (p1 = 2 ∧ r = h.1 46 7) ∨ (p1 = 3 ∧ r = h.2.1 47 0) ∨ (p1 = 4 ∧ r = h.2.1 47 1) ∨ (p1 = 5 ∧ r = h.2.1 47 3) ∨ (p1 = 6 ∧ r = h.1 46 8) ∨ ((p1 < 0 ∨ 6 < p1) ∧ r = h.1 46 10))) mm_nx 0 0 := by
  refine mm_ofW (ls := [mR 46, mI p1]) hl (by decide) rfl (Nat.le_of_ble_eq_true rfl) ?_
  intro x hxl C T hnm htb
  subst hxl
  refine mm_rng (fun hr _ => ?_)
  have ap1 : -2147483648 ≤ p1 ∧ p1 < 2147483648 := mm_ok_at hr (i := 1) rfl
  have f0 : mm_fr [] [] h h := mm_fr_rf
  refine mm_iload_n C (mm_dec dk_X4_answer 0 rfl) rfl ?_
  refine mm_table (t0 := 85) [44, 49, 54, 59, 66, 73, 80] C (mm_dec dk_X4_answer 1 rfl) (by decide) (by decide) (by decide +kernel) (fun c1 => ?_) (fun k1 hk1 c1 => ?_)
  · skip
    refine mm_aload_n C (mm_dec dk_X4_answer 29 rfl) rfl ?_
    refine mm_geti C fl_X4_32 (mm_dec dk_X4_answer 30 rfl) rfl rfl (Or.inl rfl) ?_
    have g1 : -2147483648 ≤ (h.1 46 10) ∧ (h.1 46 10) ≤ 2147483647 := i0.1 46 10
    exact mm_iret C T (mm_dec dk_X4_answer 31 rfl) (by decide : 0 ≤ 0) (by decide : 0 ≤ 0) ⟨_, rfl, ⟨⟨by omega, by omega⟩, rfl, by omega⟩⟩
  · have hq1 : k1 < 7 := hk1
    rcases (by omega : k1 = 0 ∨ k1 = 1 ∨ k1 = 2 ∨ k1 = 3 ∨ k1 = 4 ∨ k1 = 5 ∨ k1 = 6) with rfl | rfl | rfl | rfl | rfl | rfl | rfl
    · show mm_W x 0 0 44 _ _ _
      refine mm_aload_n C (mm_dec dk_X4_answer 2 rfl) rfl ?_
      refine mm_geti C fl_X4_15 (mm_dec dk_X4_answer 3 rfl) rfl rfl (Or.inl rfl) ?_
      have g2 : -2147483648 ≤ (h.1 46 5) ∧ (h.1 46 5) ≤ 2147483647 := i0.1 46 5
      exact mm_iret C T (mm_dec dk_X4_answer 4 rfl) (by decide : 0 ≤ 0) (by decide : 0 ≤ 0) ⟨_, rfl, ⟨⟨by omega, by omega⟩, rfl, by omega⟩⟩
    · show mm_W x 0 0 49 _ _ _
      refine mm_aload_n C (mm_dec dk_X4_answer 5 rfl) rfl ?_
      refine mm_geti C fl_X4_19 (mm_dec dk_X4_answer 6 rfl) rfl rfl (Or.inl rfl) ?_
      have g3 : -2147483648 ≤ (h.1 46 6) ∧ (h.1 46 6) ≤ 2147483647 := i0.1 46 6
      exact mm_iret C T (mm_dec dk_X4_answer 7 rfl) (by decide : 0 ≤ 0) (by decide : 0 ≤ 0) ⟨_, rfl, ⟨⟨by omega, by omega⟩, rfl, by omega⟩⟩
    · show mm_W x 0 0 54 _ _ _
      refine mm_aload_n C (mm_dec dk_X4_answer 8 rfl) rfl ?_
      refine mm_geti C fl_X4_22 (mm_dec dk_X4_answer 9 rfl) rfl rfl (Or.inl rfl) ?_
      have g4 : -2147483648 ≤ (h.1 46 7) ∧ (h.1 46 7) ≤ 2147483647 := i0.1 46 7
      exact mm_iret C T (mm_dec dk_X4_answer 10 rfl) (by decide : 0 ≤ 0) (by decide : 0 ≤ 0) ⟨_, rfl, ⟨⟨by omega, by omega⟩, rfl, by omega⟩⟩
    · show mm_W x 0 0 59 _ _ _
      refine mm_aload_n C (mm_dec dk_X4_answer 11 rfl) rfl ?_
      refine mm_getr (t := 47) C fl_X4_9 (mm_dec dk_X4_answer 12 rfl) rfl rfl (mm_ref i0 rfl) ?_
      refine mm_iconst C (mm_dec dk_X4_answer 13 rfl) ⟨by decide, by decide⟩ ?_
      refine mm_iald C (mm_dec dk_X4_answer 14 rfl) rfl (by omega) (by omega) ?_
      have g5 : -2147483648 ≤ (h.2.1 47 0) ∧ (h.2.1 47 0) ≤ 2147483647 := i0.2.1 47 0
      exact mm_iret C T (mm_dec dk_X4_answer 15 rfl) (by decide : 0 ≤ 0) (by decide : 0 ≤ 0) ⟨_, rfl, ⟨⟨by omega, by omega⟩, rfl, by omega⟩⟩
    · show mm_W x 0 0 66 _ _ _
      refine mm_aload_n C (mm_dec dk_X4_answer 16 rfl) rfl ?_
      refine mm_getr (t := 47) C fl_X4_9 (mm_dec dk_X4_answer 17 rfl) rfl rfl (mm_ref i0 rfl) ?_
      refine mm_iconst C (mm_dec dk_X4_answer 18 rfl) ⟨by decide, by decide⟩ ?_
      refine mm_iald C (mm_dec dk_X4_answer 19 rfl) rfl (by omega) (by omega) ?_
      have g6 : -2147483648 ≤ (h.2.1 47 1) ∧ (h.2.1 47 1) ≤ 2147483647 := i0.2.1 47 1
      exact mm_iret C T (mm_dec dk_X4_answer 20 rfl) (by decide : 0 ≤ 0) (by decide : 0 ≤ 0) ⟨_, rfl, ⟨⟨by omega, by omega⟩, rfl, by omega⟩⟩
    · show mm_W x 0 0 73 _ _ _
      refine mm_aload_n C (mm_dec dk_X4_answer 21 rfl) rfl ?_
      refine mm_getr (t := 47) C fl_X4_9 (mm_dec dk_X4_answer 22 rfl) rfl rfl (mm_ref i0 rfl) ?_
      refine mm_iconst C (mm_dec dk_X4_answer 23 rfl) ⟨by decide, by decide⟩ ?_
      refine mm_iald C (mm_dec dk_X4_answer 24 rfl) rfl (by omega) (by omega) ?_
      have g7 : -2147483648 ≤ (h.2.1 47 3) ∧ (h.2.1 47 3) ≤ 2147483647 := i0.2.1 47 3
      exact mm_iret C T (mm_dec dk_X4_answer 25 rfl) (by decide : 0 ≤ 0) (by decide : 0 ≤ 0) ⟨_, rfl, ⟨⟨by omega, by omega⟩, rfl, by omega⟩⟩
    · show mm_W x 0 0 80 _ _ _
      refine mm_aload_n C (mm_dec dk_X4_answer 26 rfl) rfl ?_
      refine mm_geti C fl_X4_25 (mm_dec dk_X4_answer 27 rfl) rfl rfl (Or.inl rfl) ?_
      have g8 : -2147483648 ≤ (h.1 46 8) ∧ (h.1 46 8) ≤ 2147483647 := i0.1 46 8
      exact mm_iret C T (mm_dec dk_X4_answer 28 rfl) (by decide : 0 ≤ 0) (by decide : 0 ≤ 0) ⟨_, rfl, ⟨⟨by omega, by omega⟩, rfl, by omega⟩⟩
set_option maxRecDepth 100000 in
set_option maxHeartbeats 4000000 in
theorem c_X4_isBetterFree_q (l : Launch) (hl : l.stackTraces = false) (d : Nat) (hd : 0 ≤ d) (h : mH) (i0 : mm_inv h) (p1 : Int) (p2 : Int) : mm_Met l d yX4_isBetterFree cX4_isBetterFree 3 (some .boolean) [mR 46, mI p1, mI p2] h (mm_pi fun r h2 => (0 ≤ r ∧ r ≤ 1) ∧ h2 = h ∧ ((r = 1 ∧ (p1 < h.1 46 10 ∨ (h.1 46 10 = p1 ∧ h.2.1 47 2 < p2))) ∨ (r = 0 ∧ ¬ (p1 < h.1 46 10 ∨ (h.1 46 10 = p1 ∧ h.2.1 47 2 < p2))))) mm_nx 0 0 := by
  refine mm_ofW (ls := [mR 46, mI p1, mI p2]) hl (by decide) rfl (Nat.le_of_ble_eq_true rfl) ?_
  intro x hxl C T hnm htb
  subst hxl
  refine mm_rng (fun hr _ => ?_)
  have ap1 : -2147483648 ≤ p1 ∧ p1 < 2147483648 := mm_ok_at hr (i := 1) rfl
  have ap2 : -2147483648 ≤ p2 ∧ p2 < 2147483648 := mm_ok_at hr (i := 2) rfl
  have f0 : mm_fr [] [] h h := mm_fr_rf
  refine mm_aload_n C (mm_dec dk_X4_isBetterFree 0 rfl) rfl ?_
  refine mm_geti C fl_X4_32 (mm_dec dk_X4_isBetterFree 1 rfl) rfl rfl (Or.inl rfl) ?_
  have g1 : -2147483648 ≤ (h.1 46 10) ∧ (h.1 46 10) ≤ 2147483647 := i0.1 46 10
  refine mm_iload_n C (mm_dec dk_X4_isBetterFree 2 rfl) rfl ?_
  have J31 : ∀ (s31_0 : Int) (bs31_0 : 0 ≤ s31_0 ∧ s31_0 ≤ 1) (w31_0 : ((s31_0 = 1 ∧ (p1 < h.1 46 10 ∨ (h.1 46 10 = p1 ∧ h.2.1 47 2 < p2))) ∨ (s31_0 = 0 ∧ ¬ (p1 < h.1 46 10 ∨ (h.1 46 10 = p1 ∧ h.2.1 47 2 < p2))))) (vs31_0 : ((h.1 46 10) ≤ p1 ∧ s31_0 = 0) ∨ (s31_0 = 1)), mm_W x 0 0 31 [mU, mU, mU] [mI s31_0] h := by
    intro s31_0 bs31_0 w31_0 vs31_0
    exact mm_zret C T (mm_dec dk_X4_isBetterFree 17 rfl) (by decide : 0 ≤ 0) (by decide : 0 ≤ 0) (by omega) ⟨_, rfl, ⟨⟨by omega, by omega⟩, rfl, by exact w31_0⟩⟩
  have J26 : ∀ (w26_0 : (p1 < h.1 46 10 ∨ (h.1 46 10 = p1 ∧ h.2.1 47 2 < p2))), mm_W x 0 0 26 [mU, mU, mU] [] h := by
    intro w26_0
    refine mm_iconst C (mm_dec dk_X4_isBetterFree 14 rfl) ⟨by decide, by decide⟩ ?_
    refine mm_goto (tgt := 31) C (mm_dec dk_X4_isBetterFree 15 rfl) (by decide) ?_
    exact J31 1 ⟨by omega, by omega⟩ (by first | exact Or.inl ⟨rfl, w26_0⟩ | exact Or.inr ⟨rfl, w30_0⟩) (Or.inr (rfl))
  refine mm_icmp_gt (tgt := 26) C (mm_dec dk_X4_isBetterFree 3 rfl) (by decide) (fun c5 => ?_) (fun c5 => ?_)
  · skip
    refine mm_fgt 0 ?_
    refine mm_fgt 1 ?_
    refine mm_fgt 2 ?_
    exact J26 (by omega)
  · skip
    refine mm_aload_n C (mm_dec dk_X4_isBetterFree 4 rfl) rfl ?_
    refine mm_geti C fl_X4_32 (mm_dec dk_X4_isBetterFree 5 rfl) rfl rfl (Or.inl rfl) ?_
    refine mm_iload_n C (mm_dec dk_X4_isBetterFree 6 rfl) rfl ?_
    have J30 : ∀ (w30_0 : ¬ (p1 < h.1 46 10 ∨ (h.1 46 10 = p1 ∧ h.2.1 47 2 < p2))), mm_W x 0 0 30 [mU, mU, mU] [] h := by
      intro w30_0
      refine mm_iconst C (mm_dec dk_X4_isBetterFree 16 rfl) ⟨by decide, by decide⟩ ?_
      exact J31 0 ⟨by omega, by omega⟩ (by first | exact Or.inl ⟨rfl, w26_0⟩ | exact Or.inr ⟨rfl, w30_0⟩) (Or.inl ⟨by omega, rfl⟩)
    refine mm_icmp_ne (tgt := 30) C (mm_dec dk_X4_isBetterFree 7 rfl) (by decide) (fun c13 => ?_) (fun c13 => ?_)
    · skip
      refine mm_fgt 0 ?_
      refine mm_fgt 1 ?_
      refine mm_fgt 2 ?_
      exact J30 (by omega)
    · skip
      refine mm_aload_n C (mm_dec dk_X4_isBetterFree 8 rfl) rfl ?_
      refine mm_getr (t := 47) C fl_X4_9 (mm_dec dk_X4_isBetterFree 9 rfl) rfl rfl (mm_ref i0 rfl) ?_
      refine mm_iconst C (mm_dec dk_X4_isBetterFree 10 rfl) ⟨by decide, by decide⟩ ?_
      refine mm_iald C (mm_dec dk_X4_isBetterFree 11 rfl) rfl (by omega) (by omega) ?_
      have g2 : -2147483648 ≤ (h.2.1 47 2) ∧ (h.2.1 47 2) ≤ 2147483647 := i0.2.1 47 2
      refine mm_iload_n C (mm_dec dk_X4_isBetterFree 12 rfl) rfl ?_
      refine mm_icmp_ge (tgt := 30) C (mm_dec dk_X4_isBetterFree 13 rfl) (by decide) (fun c23 => ?_) (fun c23 => ?_)
      · skip
        refine mm_fgt 0 ?_
        refine mm_fgt 1 ?_
        refine mm_fgt 2 ?_
        exact J30 (by omega)
      · skip
        refine mm_fgt 0 ?_
        refine mm_fgt 1 ?_
        refine mm_fgt 2 ?_
        exact J26 (by omega)
/-! ===== places ===== -/
theorem mm_LX_fr {h a b : mH} {p k : Int} (X : mm_LX a b p k) (ek : mm_k1 a = mm_k1 h) (e16 : ∀ j, a.2.1 16 j = h.2.1 16 j) (e17 : ∀ j, a.2.1 17 j = h.2.1 17 j) (e19 : ∀ j, a.2.1 19 j = h.2.1 19 j) (e21 : ∀ j, a.2.1 21 j = h.2.1 21 j) (e23 : ∀ j, a.2.1 23 j = h.2.1 23 j) (e24 : ∀ j, a.2.1 24 j = h.2.1 24 j) (e25 : ∀ j, a.2.1 25 j = h.2.1 25 j) (e27 : ∀ j, a.2.1 27 j = h.2.1 27 j) (e33 : ∀ j, a.2.1 33 j = h.2.1 33 j) (e34 : ∀ j, a.2.1 34 j = h.2.1 34 j) (e37 : ∀ j, a.2.1 37 j = h.2.1 37 j) (e38 : ∀ j, a.2.1 38 j = h.2.1 38 j) (e39 : ∀ j, a.2.1 39 j = h.2.1 39 j) (e40 : ∀ j, a.2.1 40 j = h.2.1 40 j) (e41 : ∀ j, a.2.1 41 j = h.2.1 41 j) (e43 : ∀ j, a.2.1 43 j = h.2.1 43 j) (e44 : ∀ j, a.2.1 44 j = h.2.1 44 j) (n6 : a.1 30 6 = h.1 30 6) (n12 : a.1 30 12 = h.1 30 12) (n3 : a.1 42 3 = h.1 42 3) : mm_LX h b p k := by
  unfold mm_LX mm_LX0 mm_FX mm_sX8 mm_jX8 mm_rX mm_nX mm_aX9 mm_vX9 at X ⊢
  rw [ek, show a.2.1 16 = h.2.1 16 from funext e16, show a.2.1 17 = h.2.1 17 from funext e17, show a.2.1 19 = h.2.1 19 from funext e19, show a.2.1 21 = h.2.1 21 from funext e21, show a.2.1 23 = h.2.1 23 from funext e23, show a.2.1 24 = h.2.1 24 from funext e24, show a.2.1 25 = h.2.1 25 from funext e25, show a.2.1 27 = h.2.1 27 from funext e27, show a.2.1 33 = h.2.1 33 from funext e33, show a.2.1 34 = h.2.1 34 from funext e34, show a.2.1 37 = h.2.1 37 from funext e37, show a.2.1 38 = h.2.1 38 from funext e38, show a.2.1 39 = h.2.1 39 from funext e39, show a.2.1 40 = h.2.1 40 from funext e40, show a.2.1 41 = h.2.1 41 from funext e41, show a.2.1 43 = h.2.1 43 from funext e43, show a.2.1 44 = h.2.1 44 from funext e44, n6, n12, n3] at X
  exact X
def mm_bX9 (fr own run : Int) (b : mH) : Prop := b.1 46 5 = 4 ∧ ((fr ≠ 0 ∧ (own < b.1 46 10 ∨ (b.1 46 10 = own ∧ b.2.1 47 2 < run))) ∨ (fr = 0 ∧ b.1 46 10 < own))
/-- one place more for each of the first i that is better -/
def mm_PZ9 (h : mH) (p k own run : Int) : Nat → Int → Prop
  | 0, n => n = 1
  | i + 1, n => (((i : Int) = p ∨ h.2.1 23 (i : Int) ≠ h.2.1 23 p) ∧ mm_PZ9 h p k own run i n) ∨ ((i : Int) ≠ p ∧ h.2.1 23 (i : Int) = h.2.1 23 p ∧ ∃ b, mm_LX h b (i : Int) k ∧ ((mm_bX9 (h.2.1 17 (h.2.1 23 p)) own run b ∧ mm_PZ9 h p k own run i (n - 1)) ∨ (¬ mm_bX9 (h.2.1 17 (h.2.1 23 p)) own run b ∧ mm_PZ9 h p k own run i n)))
theorem mm_PZ9_rg {h : mH} {p k own run : Int} : ∀ (i : Nat) (n : Int), mm_PZ9 h p k own run i n → 1 ≤ n ∧ n ≤ (i : Int) + 1
  | 0, n, h => by
    have z : n = 1 := h
    omega
  | i + 1, n, h => by
    rcases h with ⟨_, h⟩ | ⟨_, _, b, _, ⟨_, h⟩ | ⟨_, h⟩⟩
    · have := mm_PZ9_rg i _ h; omega
    · have := mm_PZ9_rg i _ h; omega
    · have := mm_PZ9_rg i _ h; omega
theorem mm_PZ9_n {h : mH} {p k own run i n : Int} (W : mm_PZ9 h p k own run i.toNat n) (i0 : 0 ≤ i) (e : i = p ∨ h.2.1 23 i ≠ h.2.1 23 p) : mm_PZ9 h p k own run (i + 1).toNat n := by
  rw [show (i + 1).toNat = i.toNat + 1 by omega]
  refine Or.inl ⟨?_, W⟩
  rw [Int.toNat_of_nonneg i0]
  exact e
theorem mm_PZ9_y {h b : mH} {p k own run i n : Int} (W : mm_PZ9 h p k own run i.toNat n) (i0 : 0 ≤ i) (e : i ≠ p) (e2 : h.2.1 23 i = h.2.1 23 p) (L : mm_LX h b i k) (B : mm_bX9 (h.2.1 17 (h.2.1 23 p)) own run b) : mm_PZ9 h p k own run (i + 1).toNat (n + 1) := by
  rw [show (i + 1).toNat = i.toNat + 1 by omega]
  refine Or.inr ?_
  rw [Int.toNat_of_nonneg i0]
  exact ⟨e, e2, b, L, Or.inl ⟨B, by rw [show n + 1 - 1 = n by omega]; exact W⟩⟩
theorem mm_PZ9_w {h b : mH} {p k own run i n : Int} (W : mm_PZ9 h p k own run i.toNat n) (i0 : 0 ≤ i) (e : i ≠ p) (e2 : h.2.1 23 i = h.2.1 23 p) (L : mm_LX h b i k) (B : ¬ mm_bX9 (h.2.1 17 (h.2.1 23 p)) own run b) : mm_PZ9 h p k own run (i + 1).toNat n := by
  rw [show (i + 1).toNat = i.toNat + 1 by omega]
  refine Or.inr ?_
  rw [Int.toNat_of_nonneg i0]
  exact ⟨e, e2, b, L, Or.inr ⟨B, W⟩⟩
def mm_pX9 (h : mH) (p k r : Int) : Prop := ∃ b, mm_LX h b p k ∧ ((b.1 46 5 ≠ 4 ∧ r = -1) ∨ (b.1 46 5 = 4 ∧ mm_PZ9 h p k (b.1 46 10) (b.2.1 47 2) (h.1 22 8).toNat r))
/-! teams -/
def mm_tX9 (h : mH) (t k : Int) : Nat → Int → Int → Prop
  | 0, s, _ => s = 0
  | i + 1, s, f => ∃ b s0 f0, mm_tX9 h t k i s0 f0 ∧ mm_LX h b (h.2.1 29 (t * 3 + i)) k ∧ b.1 46 5 = 4 ∧ f = b.1 46 7 ∧ s = if i = 0 then mm_w (mm_w (s0 + mm_w (b.1 46 8 + b.1 46 9)) - b.1 46 6) else mm_w (s0 + mm_w (b.1 46 8 + b.1 46 9))
def mm_TZ9 (h : mH) (t k r T : Int) : Prop := (r = 1 ∧ ∃ s f, mm_tX9 h t k 3 s f ∧ T = mm_w (s + f)) ∨ (r = 0 ∧ ∃ (i : Nat) (s f : Int) (b : mH), i < 3 ∧ mm_tX9 h t k i s f ∧ mm_LX h b (h.2.1 29 (t * 3 + i)) k ∧ b.1 46 5 ≠ 4)
def mm_QZ9 (h : mH) (t k own : Int) : Nat → Int → Prop
  | 0, n => n = 1
  | i + 1, n => (((i : Int) = t ∨ h.2.1 23 (h.2.1 29 ((i : Int) * 3 + 0)) ≠ h.2.1 23 (h.2.1 29 (t * 3 + 0))) ∧ mm_QZ9 h t k own i n) ∨ ((i : Int) ≠ t ∧ h.2.1 23 (h.2.1 29 ((i : Int) * 3 + 0)) = h.2.1 23 (h.2.1 29 (t * 3 + 0)) ∧ ∃ r T, mm_TZ9 h (i : Int) k r T ∧ ((r = 1 ∧ T < own ∧ mm_QZ9 h t k own i (n - 1)) ∨ ((r = 0 ∨ own ≤ T) ∧ mm_QZ9 h t k own i n)))
theorem mm_QZ9_rg {h : mH} {t k own : Int} : ∀ (i : Nat) (n : Int), mm_QZ9 h t k own i n → 1 ≤ n ∧ n ≤ (i : Int) + 1
  | 0, n, h => by
    have z : n = 1 := h
    omega
  | i + 1, n, h => by
    rcases h with ⟨_, h⟩ | ⟨_, _, r, T, _, ⟨_, _, h⟩ | ⟨_, h⟩⟩
    · have := mm_QZ9_rg i _ h; omega
    · have := mm_QZ9_rg i _ h; omega
    · have := mm_QZ9_rg i _ h; omega
theorem mm_QZ9_n {h : mH} {t k own i n : Int} (W : mm_QZ9 h t k own i.toNat n) (i0 : 0 ≤ i) (e : i = t ∨ h.2.1 23 (h.2.1 29 (i * 3 + 0)) ≠ h.2.1 23 (h.2.1 29 (t * 3 + 0))) : mm_QZ9 h t k own (i + 1).toNat n := by
  rw [show (i + 1).toNat = i.toNat + 1 by omega]
  refine Or.inl ⟨?_, W⟩
  rw [Int.toNat_of_nonneg i0]
  exact e
theorem mm_QZ9_y {h : mH} {t k own i n r T : Int} (W : mm_QZ9 h t k own i.toNat n) (i0 : 0 ≤ i) (e : i ≠ t) (e2 : h.2.1 23 (h.2.1 29 (i * 3 + 0)) = h.2.1 23 (h.2.1 29 (t * 3 + 0))) (L : mm_TZ9 h i k r T) (B : r = 1 ∧ T < own) : mm_QZ9 h t k own (i + 1).toNat (n + 1) := by
  rw [show (i + 1).toNat = i.toNat + 1 by omega]
  refine Or.inr ?_
  rw [Int.toNat_of_nonneg i0]
  exact ⟨e, e2, r, T, L, Or.inl ⟨B.1, B.2, by rw [show n + 1 - 1 = n by omega]; exact W⟩⟩
theorem mm_QZ9_w {h : mH} {t k own i n r T : Int} (W : mm_QZ9 h t k own i.toNat n) (i0 : 0 ≤ i) (e : i ≠ t) (e2 : h.2.1 23 (h.2.1 29 (i * 3 + 0)) = h.2.1 23 (h.2.1 29 (t * 3 + 0))) (L : mm_TZ9 h i k r T) (B : r = 0 ∨ own ≤ T) : mm_QZ9 h t k own (i + 1).toNat n := by
  rw [show (i + 1).toNat = i.toNat + 1 by omega]
  refine Or.inr ?_
  rw [Int.toNat_of_nonneg i0]
  exact ⟨e, e2, r, T, L, Or.inr ⟨B, W⟩⟩
theorem mm_tX9_s {h b : mH} {t k i s f v m : Int} (W : mm_tX9 h t k i.toNat s f) (i0 : 0 ≤ i) (L : mm_LX h b m k) (hm : m = h.2.1 29 (t * 3 + i)) (e : b.1 46 5 = 4) (hv : v = if i = 0 then mm_w (mm_w (s + mm_w (b.1 46 8 + b.1 46 9)) - b.1 46 6) else mm_w (s + mm_w (b.1 46 8 + b.1 46 9))) : mm_tX9 h t k (i + 1).toNat v (b.1 46 7) := by
  rw [show (i + 1).toNat = i.toNat + 1 by omega]
  refine ⟨b, s, f, W, ?_, e, rfl, ?_⟩
  · rw [Int.toNat_of_nonneg i0, ← hm]; exact L
  · rw [hv]
    by_cases q : i = 0
    · rw [if_pos q, if_pos (by omega)]
    · rw [if_neg q, if_neg (by omega)]
def mm_qX9 (h : mH) (t k r : Int) : Prop := (∃ T, mm_TZ9 h t k 0 T ∧ r = -1) ∨ (∃ T, mm_TZ9 h t k 1 T ∧ mm_QZ9 h t k T (h.1 22 9).toNat r)
theorem mm_tX9_fr {h a : mH} {t k : Int} (ek : mm_k1 a = mm_k1 h) (e16 : ∀ j, a.2.1 16 j = h.2.1 16 j) (e17 : ∀ j, a.2.1 17 j = h.2.1 17 j) (e19 : ∀ j, a.2.1 19 j = h.2.1 19 j) (e21 : ∀ j, a.2.1 21 j = h.2.1 21 j) (e23 : ∀ j, a.2.1 23 j = h.2.1 23 j) (e24 : ∀ j, a.2.1 24 j = h.2.1 24 j) (e25 : ∀ j, a.2.1 25 j = h.2.1 25 j) (e27 : ∀ j, a.2.1 27 j = h.2.1 27 j) (e33 : ∀ j, a.2.1 33 j = h.2.1 33 j) (e34 : ∀ j, a.2.1 34 j = h.2.1 34 j) (e37 : ∀ j, a.2.1 37 j = h.2.1 37 j) (e38 : ∀ j, a.2.1 38 j = h.2.1 38 j) (e39 : ∀ j, a.2.1 39 j = h.2.1 39 j) (e40 : ∀ j, a.2.1 40 j = h.2.1 40 j) (e41 : ∀ j, a.2.1 41 j = h.2.1 41 j) (e43 : ∀ j, a.2.1 43 j = h.2.1 43 j) (e44 : ∀ j, a.2.1 44 j = h.2.1 44 j) (n6 : a.1 30 6 = h.1 30 6) (n12 : a.1 30 12 = h.1 30 12) (n3 : a.1 42 3 = h.1 42 3) (e29 : ∀ j, a.2.1 29 j = h.2.1 29 j) : ∀ (i : Nat) (s f : Int), mm_tX9 a t k i s f → mm_tX9 h t k i s f
  | 0, _, _, w => w
  | i + 1, s, f, ⟨b, s0, f0, w, L, e, ef, es⟩ => ⟨b, s0, f0, mm_tX9_fr ek e16 e17 e19 e21 e23 e24 e25 e27 e33 e34 e37 e38 e39 e40 e41 e43 e44 n6 n12 n3 e29 i s0 f0 w, by rw [← e29]; exact mm_LX_fr L ek e16 e17 e19 e21 e23 e24 e25 e27 e33 e34 e37 e38 e39 e40 e41 e43 e44 n6 n12 n3, e, ef, es⟩
theorem mm_TZ9_fr {h a : mH} {t k r T : Int} (X : mm_TZ9 a t k r T) (ek : mm_k1 a = mm_k1 h) (e16 : ∀ j, a.2.1 16 j = h.2.1 16 j) (e17 : ∀ j, a.2.1 17 j = h.2.1 17 j) (e19 : ∀ j, a.2.1 19 j = h.2.1 19 j) (e21 : ∀ j, a.2.1 21 j = h.2.1 21 j) (e23 : ∀ j, a.2.1 23 j = h.2.1 23 j) (e24 : ∀ j, a.2.1 24 j = h.2.1 24 j) (e25 : ∀ j, a.2.1 25 j = h.2.1 25 j) (e27 : ∀ j, a.2.1 27 j = h.2.1 27 j) (e33 : ∀ j, a.2.1 33 j = h.2.1 33 j) (e34 : ∀ j, a.2.1 34 j = h.2.1 34 j) (e37 : ∀ j, a.2.1 37 j = h.2.1 37 j) (e38 : ∀ j, a.2.1 38 j = h.2.1 38 j) (e39 : ∀ j, a.2.1 39 j = h.2.1 39 j) (e40 : ∀ j, a.2.1 40 j = h.2.1 40 j) (e41 : ∀ j, a.2.1 41 j = h.2.1 41 j) (e43 : ∀ j, a.2.1 43 j = h.2.1 43 j) (e44 : ∀ j, a.2.1 44 j = h.2.1 44 j) (n6 : a.1 30 6 = h.1 30 6) (n12 : a.1 30 12 = h.1 30 12) (n3 : a.1 42 3 = h.1 42 3) (e29 : ∀ j, a.2.1 29 j = h.2.1 29 j) : mm_TZ9 h t k r T := by
  rcases X with ⟨e, s, f, w, eT⟩ | ⟨e, i, s, f, b, li, w, L, n⟩
  · exact Or.inl ⟨e, s, f, mm_tX9_fr ek e16 e17 e19 e21 e23 e24 e25 e27 e33 e34 e37 e38 e39 e40 e41 e43 e44 n6 n12 n3 e29 3 s f w, eT⟩
  · exact Or.inr ⟨e, i, s, f, b, li, mm_tX9_fr ek e16 e17 e19 e21 e23 e24 e25 e27 e33 e34 e37 e38 e39 e40 e41 e43 e44 n6 n12 n3 e29 i s f w, by rw [← e29]; exact mm_LX_fr L ek e16 e17 e19 e21 e23 e24 e25 e27 e33 e34 e37 e38 e39 e40 e41 e43 e44 n6 n12 n3, n⟩
def mm_jX9 (h : mH) (p w k r : Int) : Prop := (w = 8 ∧ mm_pX9 h p k r) ∨ (0 ≤ w ∧ w ≤ 7 ∧ ∃ b, mm_LX h b p k ∧ ((w = 0 ∧ r = b.1 46 5) ∨ (w = 1 ∧ r = b.1 46 6) ∨ (w = 2 ∧ r = b.1 46 7) ∨ (w = 3 ∧ r = b.2.1 47 0) ∨ (w = 4 ∧ r = b.2.1 47 1) ∨ (w = 5 ∧ r = b.2.1 47 3) ∨ (w = 6 ∧ r = b.1 46 8) ∨ ((w < 0 ∨ 6 < w) ∧ r = b.1 46 10)))
def mm_oX9 (h : mH) (t w k r : Int) : Prop := (w = 1 ∧ mm_qX9 h t k r) ∨ (w = 0 ∧ ∃ x T, mm_TZ9 h t k x T ∧ ((x = 1 ∧ r = T) ∨ (x = 0 ∧ r = -100000)))
