set_option maxRecDepth 100000 in
set_option maxHeartbeats 4000000 in
theorem c_X11_rules_q (l : Launch) (hl : l.stackTraces = false) (d : Nat) (hd : 50 ≤ d) (h : mH) (i0 : mm_inv h) (p1 : Int) : mm_Met l d yX11_rules cX11_rules 3 (some .int) [mR 0, mI p1] h (mm_pi fun r h2 => (-2147483648 ≤ r ∧ r ≤ 2147483647) ∧ mm_inv h2 ∧ mm_fr [(0, 12), (0, 14), (42, 3), (63, 3), (63, 4), (63, 5), (63, 6), (63, 7), (63, 8), (63, 9), (63, 10)] [43, 44, 64, 65] h h2 ∧ (0 ≤ p1 ∧ p1 ≤ h.1 0 12 ∧ h2.1 0 12 = 0) ∧ mm_RC h h2 p1 r (h2.1 0 14) ∧ mm_RCj h h2 p1 r) (fun E h' => mm_xi h E h' ∧ (p1 < 0 ∨ h.1 0 12 < p1)) 1 6 := by
  refine mm_ofW (ls := [mR 0, mI p1, mU]) hl (by decide) rfl (Nat.le_of_ble_eq_true rfl) ?_
  intro x hxl C T hnm htb
  subst hxl
  have C1 := mm_OK_le (d' := d - 1 + 1) (by omega) C
  have C8 := mm_OK_le (d' := d - 8 + 8) (by omega) C
  refine mm_rng (fun hr _ => ?_)
  have ap1 : -2147483648 ≤ p1 ∧ p1 < 2147483648 := mm_ok_at hr (i := 1) rfl
  have f0 : mm_fr [(0, 12), (0, 14), (42, 3), (63, 3), (63, 4), (63, 5), (63, 6), (63, 7), (63, 8), (63, 9), (63, 10)] [43, 44, 64, 65] h h := mm_fr_rf
  have g1 : 0 ≤ h.1 0 12 ∧ h.1 0 12 ≤ 500 := i0.1 0 12
  have g2 : -2147483648 ≤ h.1 0 14 ∧ h.1 0 14 ≤ 2147483647 := i0.1 0 14
  have g3 : -2147483648 ≤ h.1 63 9 ∧ h.1 63 9 ≤ 2147483647 := i0.1 63 9
  have g4 : -2147483648 ≤ h.1 63 10 ∧ h.1 63 10 ≤ 2147483647 := i0.1 63 10
  have g5 : 0 ≤ h.1 63 4 ∧ h.1 63 4 ≤ 500 := i0.1 63 4
  have g6 : 0 ≤ h.1 42 3 ∧ h.1 42 3 ≤ 500 := i0.1 42 3
  refine mm_aload_n C (mm_dec dk_X11_rules 0 rfl) rfl ?_
  refine mm_iload_n C (mm_dec dk_X11_rules 1 rfl) rfl ?_
  refine mm_cVv (rest := []) C1 ev_X11_312 (mm_dec dk_X11_rules 2 rfl) (c_X11_needBytes_q x.2.1 hl (d - 1) (by omega) h i0 p1) rfl rfl (Nat.le_of_ble_eq_true rfl) ⟨by decide, by decide⟩ rfl (fun h2c hp2 => ?_) (fun E hx q => mm_out C T htb (by decide) (by decide) (by obtain ⟨q1, q2⟩ := q; exact ⟨q1, by omega⟩))
  obtain ⟨z2, k2_0, k2_1⟩ := hp2
  rw [z2]
  refine mm_aload_n C (mm_dec dk_X11_rules 3 rfl) rfl ?_
  refine mm_getr (t := 63) C fl_X11_94 (mm_dec dk_X11_rules 4 rfl) rfl rfl (mm_ref i0 rfl) ?_
  refine mm_iload_n C (mm_dec dk_X11_rules 5 rfl) rfl ?_
  refine mm_cVi (rest := []) C1 ev_X11_315 (mm_dec dk_X11_rules 6 rfl) (c_X7_read_q x.2.1 hl (d - 1) (by omega) h i0 p1 ⟨by omega, by omega⟩) rfl rfl (Nat.le_of_ble_eq_true rfl) ⟨by decide, by decide⟩ rfl (fun r10 h10c hp10 => ?_) (fun _ _ q => q.elim)
  obtain ⟨b10, i10c, g10c, y10_0, y10_1, y10_2⟩ := hp10
  have f10c : mm_fr [(0, 12), (0, 14), (42, 3), (63, 3), (63, 4), (63, 5), (63, 6), (63, 7), (63, 8), (63, 9), (63, 10)] [43, 44, 64, 65] h h10c := mm_fr_tr f0 g10c (by decide +kernel)
  have q10c_9 : h10c.1 0 12 = h.1 0 12 := g10c.1 0 12 (by decide)
  have q10c_10 : h10c.1 0 14 = h.1 0 14 := g10c.1 0 14 (by decide)
  have q10c_11 : h10c.1 42 3 = h.1 42 3 := g10c.1 42 3 (by decide)
  have g12 : -2147483648 ≤ (h10c.1 63 9) ∧ (h10c.1 63 9) ≤ 2147483647 := i10c.1 63 9
  have g13 : -2147483648 ≤ (h10c.1 63 10) ∧ (h10c.1 63 10) ≤ 2147483647 := i10c.1 63 10
  have g14 : 0 ≤ (h10c.1 63 4) ∧ (h10c.1 63 4) ≤ 500 := i10c.1 63 4
  have z44 : ∀ w, h10c.2.1 44 w = h.2.1 44 w := fun w => g10c.2 44 (by decide) w
  refine mm_istore_nL (ls2 := [mR 0, mI p1, mI r10]) C (mm_dec dk_X11_rules 7 rfl) (by decide) rfl ?_
  refine mm_aload_n C (mm_dec dk_X11_rules 8 rfl) rfl ?_
  refine mm_iconst C (mm_dec dk_X11_rules 9 rfl) ⟨by decide, by decide⟩ ?_
  refine mm_puti C fl_X11_98 (mm_dec dk_X11_rules 10 rfl) rfl rfl rfl (Or.inl ⟨rfl, rfl⟩) ?_
  have i2 : mm_inv (mm_pf h10c 0 12 0) := mm_inv_pf i10c (show 0 ≤ 0 ∧ 0 ≤ 500 from ⟨by omega, by omega⟩) (by decide)
  have f2 : mm_fr [(0, 12), (0, 14), (42, 3), (63, 3), (63, 4), (63, 5), (63, 6), (63, 7), (63, 8), (63, 9), (63, 10)] [43, 44, 64, 65] h (mm_pf h10c 0 12 0) := mm_fr_pf f10c (by decide)
  obtain ⟨h2, eh2⟩ : ∃ z, z = mm_pf h10c 0 12 0 := ⟨_, rfl⟩
  rw [← eh2] at i2 f2 ⊢
  have qh2 : h2.1 0 12 = 0 := by rw [eh2]; exact mm_pf_same _ _ _ _
  have qh2_15 : h2.1 0 14 = h10c.1 0 14 := by rw [eh2]; exact mm_pf_ne _ _ (by decide)
  have qh2_16 : h2.1 42 3 = h10c.1 42 3 := by rw [eh2]; exact mm_pf_ne _ _ (by decide)
  have qh2_17 : h2.1 63 4 = h10c.1 63 4 := by rw [eh2]; exact mm_pf_ne _ _ (by decide)
  have qh2_18 : h2.1 63 9 = h10c.1 63 9 := by rw [eh2]; exact mm_pf_ne _ _ (by decide)
  have qh2_19 : h2.1 63 10 = h10c.1 63 10 := by rw [eh2]; exact mm_pf_ne _ _ (by decide)
  refine mm_aload_n C (mm_dec dk_X11_rules 11 rfl) rfl ?_
  refine mm_aload_n C (mm_dec dk_X11_rules 12 rfl) rfl ?_
  refine mm_getr (t := 63) C fl_X11_94 (mm_dec dk_X11_rules 13 rfl) rfl rfl (mm_ref i2 rfl) ?_
  refine mm_cVi (rest := [mR 0]) C1 ev_X11_318 (mm_dec dk_X11_rules 14 rfl) (c_X7_faultAt x.2.1 hl (d - 1) (by omega) h2 i2 ) rfl rfl (Nat.le_of_ble_eq_true rfl) ⟨by decide, by decide⟩ rfl (fun r24 h24c hp24 => ?_) (fun _ _ q => q.elim)
  obtain ⟨z24, y24⟩ := hp24
  rw [z24, y24]
  refine mm_puti C fl_X11_105 (mm_dec dk_X11_rules 15 rfl) rfl rfl rfl (Or.inl ⟨rfl, rfl⟩) ?_
  have i3 : mm_inv (mm_pf h2 0 14 (h2.1 63 10)) := mm_inv_pf i2 (show -2147483648 ≤ (h2.1 63 10) ∧ (h2.1 63 10) ≤ 2147483647 from ⟨by omega, by omega⟩) (by decide)
  have f3 : mm_fr [(0, 12), (0, 14), (42, 3), (63, 3), (63, 4), (63, 5), (63, 6), (63, 7), (63, 8), (63, 9), (63, 10)] [43, 44, 64, 65] h (mm_pf h2 0 14 (h2.1 63 10)) := mm_fr_pf f2 (by decide)
  obtain ⟨h3, eh3⟩ : ∃ z, z = mm_pf h2 0 14 (h2.1 63 10) := ⟨_, rfl⟩
  rw [← eh3] at i3 f3 ⊢
  have qh3 : h3.1 0 14 = (h2.1 63 10) := by rw [eh3]; exact mm_pf_same _ _ _ _
  have qh3_21 : h3.1 0 12 = h2.1 0 12 := by rw [eh3]; exact mm_pf_ne _ _ (by decide)
  have qh3_22 : h3.1 42 3 = h2.1 42 3 := by rw [eh3]; exact mm_pf_ne _ _ (by decide)
  have qh3_23 : h3.1 63 4 = h2.1 63 4 := by rw [eh3]; exact mm_pf_ne _ _ (by decide)
  have qh3_24 : h3.1 63 9 = h2.1 63 9 := by rw [eh3]; exact mm_pf_ne _ _ (by decide)
  have qh3_25 : h3.1 63 10 = h2.1 63 10 := by rw [eh3]; exact mm_pf_ne _ _ (by decide)
  refine mm_iload_n C (mm_dec dk_X11_rules 16 rfl) rfl ?_
  have J45 : ∀ (h45_ : mH) (i45_ : mm_inv h45_) (f45_ : mm_fr [(0, 12), (0, 14), (42, 3), (63, 3), (63, 4), (63, 5), (63, 6), (63, 7), (63, 8), (63, 9), (63, 10)] [43, 44, 64, 65] h h45_) (w45_0 : h45_.1 0 12 = 0) (w45_1 : mm_RC h h45_ p1 r10 (h45_.1 0 14)) (w45_2 : mm_RCj h h45_ p1 r10), mm_W x 1 6 45 [mU, mU, mI r10] [] h45_ := by
    intro h45_ i45_ f45_ w45_0 w45_1 w45_2
    have g26 : 0 ≤ h45_.1 0 12 ∧ h45_.1 0 12 ≤ 500 := i45_.1 0 12
    have g27 : -2147483648 ≤ h45_.1 0 14 ∧ h45_.1 0 14 ≤ 2147483647 := i45_.1 0 14
    have g28 : -2147483648 ≤ h45_.1 63 9 ∧ h45_.1 63 9 ≤ 2147483647 := i45_.1 63 9
    have g29 : -2147483648 ≤ h45_.1 63 10 ∧ h45_.1 63 10 ≤ 2147483647 := i45_.1 63 10
    have g30 : 0 ≤ h45_.1 63 4 ∧ h45_.1 63 4 ≤ 500 := i45_.1 63 4
    have g31 : 0 ≤ h45_.1 42 3 ∧ h45_.1 42 3 ≤ 500 := i45_.1 42 3
    refine mm_iload_n C (mm_dec dk_X11_rules 23 rfl) rfl ?_
    exact mm_iret C T (mm_dec dk_X11_rules 24 rfl) (by decide : 1 ≤ 1) (by decide : 6 ≤ 6) ⟨_, rfl, ⟨⟨by omega, by omega⟩, i45_, f45_, by omega, by exact w45_1, by exact w45_2⟩⟩
  refine mm_if_ne (tgt := 45) C (mm_dec dk_X11_rules 17 rfl) (by decide) (fun c31 => ?_) (fun c31 => ?_)
  · skip
    refine mm_fgt 0 ?_
    refine mm_fgt 1 ?_
    exact J45 h3 i3 f3 (by omega) (by first | (have z := y10_1.resolve_left (fun q => by have := q.1; omega); exact Or.inr ⟨by omega, (by rw [show h3.1 0 14 = h10c.1 63 10 by omega, y10_0]; exact z.2), fun w => (mm_sm_pf 44 eh3 w).trans ((mm_sm_pf 44 eh2 w).trans (z44 w))⟩) | (have z := y10_1.resolve_right (fun q => by have := q.1; omega); exact Or.inl ⟨by omega, by (have z1 := z.2.1; omega), mm_PX h10c, z.2.2, fun w a b => (y42_0 w a b).trans ((mm_sm_pf 65 eh3 w).trans ((mm_sm_pf 65 eh2 w).trans (if_pos ⟨a, b⟩).symm))⟩)) (by first | exact Or.inr ⟨by omega, by omega, fun j => (mm_sm_pf 43 eh3 j).trans ((mm_sm_pf 43 eh2 j).trans (g10c.2 43 (by decide) j))⟩ | (obtain ⟨L, zL, zR⟩ := y10_2 (by omega); exact Or.inl ⟨by omega, L, mm_cdj_cp zL (by have z9 := y42_1.1; omega) (fun j a b => (y42_1.2 j a (by omega)).trans ((mm_sm_pf 64 eh3 j).trans (mm_sm_pf 64 eh2 j))), zR⟩))
  · skip
    refine mm_aload_n C (mm_dec dk_X11_rules 18 rfl) rfl ?_
    refine mm_getr (t := 42) C fl_X11_51 (mm_dec dk_X11_rules 19 rfl) rfl rfl (mm_ref i3 rfl) ?_
    refine mm_aload_n C (mm_dec dk_X11_rules 20 rfl) rfl ?_
    refine mm_getr (t := 63) C fl_X11_94 (mm_dec dk_X11_rules 21 rfl) rfl rfl (mm_ref i3 rfl) ?_
    refine mm_cVv (rest := []) C1 ev_X11_320 (mm_dec dk_X11_rules 22 rfl) (c_X8_adopt_63_q x.2.1 hl (d - 1) (by omega) h3 i3 ) rfl rfl (Nat.le_of_ble_eq_true rfl) ⟨by decide, by decide⟩ rfl (fun h42c hp42 => ?_) (fun _ _ q => q.elim)
    obtain ⟨i42c, g42c, y42_0, y42_1⟩ := hp42
    have f42c : mm_fr [(0, 12), (0, 14), (42, 3), (63, 3), (63, 4), (63, 5), (63, 6), (63, 7), (63, 8), (63, 9), (63, 10)] [43, 44, 64, 65] h h42c := mm_fr_tr f3 g42c (by decide +kernel)
    have q42c_33 : h42c.1 0 12 = h3.1 0 12 := g42c.1 0 12 (by decide)
    have q42c_34 : h42c.1 0 14 = h3.1 0 14 := g42c.1 0 14 (by decide)
    have q42c_35 : h42c.1 63 4 = h3.1 63 4 := g42c.1 63 4 (by decide)
    have q42c_36 : h42c.1 63 9 = h3.1 63 9 := g42c.1 63 9 (by decide)
    have q42c_37 : h42c.1 63 10 = h3.1 63 10 := g42c.1 63 10 (by decide)
    have g38 : 0 ≤ (h42c.1 42 3) ∧ (h42c.1 42 3) ≤ 500 := i42c.1 42 3
    refine mm_fgt 0 ?_
    refine mm_fgt 1 ?_
    exact J45 h42c i42c f42c (by omega) (by first | (have z := y10_1.resolve_left (fun q => by have := q.1; omega); exact Or.inr ⟨by omega, (by rw [show h42c.1 0 14 = h10c.1 63 10 by omega, y10_0]; exact z.2), fun w => (mm_sm_pf 44 eh3 w).trans ((mm_sm_pf 44 eh2 w).trans (z44 w))⟩) | (have z := y10_1.resolve_right (fun q => by have := q.1; omega); exact Or.inl ⟨by omega, by (have z1 := z.2.1; omega), mm_PX h10c, z.2.2, fun w a b => (y42_0 w a b).trans ((mm_sm_pf 65 eh3 w).trans ((mm_sm_pf 65 eh2 w).trans (if_pos ⟨a, b⟩).symm))⟩)) (by first | exact Or.inr ⟨by omega, by omega, fun j => (mm_sm_pf 43 eh3 j).trans ((mm_sm_pf 43 eh2 j).trans (g10c.2 43 (by decide) j))⟩ | (obtain ⟨L, zL, zR⟩ := y10_2 (by omega); exact Or.inl ⟨by omega, L, mm_cdj_cp zL (by have z9 := y42_1.1; omega) (fun j a b => (y42_1.2 j a (by omega)).trans ((mm_sm_pf 64 eh3 j).trans (mm_sm_pf 64 eh2 j))), zR⟩))
