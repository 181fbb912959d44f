set_option maxRecDepth 100000 in
set_option maxHeartbeats 4000000 in
theorem c_X11_go_q (l : Launch) (hl : l.stackTraces = false) (d : Nat) (hd : 8 ≤ d) (h : mH) (i0 : mm_inv h) (p1 : Int) : mm_Met l d yX11_go cX11_go 2 (some .int) [mR 0, mI p1] h (mm_pi fun r h2 => (0 ≤ r ∧ r ≤ 99999) ∧ mm_inv h2 ∧ mm_fr [(0, 13)] [] h h2 ∧ (0 ≤ p1 ∧ p1 ≤ 99999 - h.1 0 13 ∧ h2.1 0 13 = h.1 0 13 + p1 ∧ r = h2.1 0 13)) (fun E h' => mm_xi h E h' ∧ (p1 < 0 ∨ 99999 - h.1 0 13 < p1)) 1 6 := by
  refine mm_ofW (ls := [mR 0, mI p1]) hl (by decide) rfl (Nat.le_of_ble_eq_true rfl) ?_
  intro x hxl C T hnm htb
  subst hxl
  have C1 := mm_OK_le (d' := d - 1 + 1) (by omega) C
  have C8 := mm_OK_le (d' := d - 8 + 8) (by omega) C
  refine mm_rng (fun hr _ => ?_)
  have ap1 : -2147483648 ≤ p1 ∧ p1 < 2147483648 := mm_ok_at hr (i := 1) rfl
  have f0 : mm_fr [(0, 13)] [] h h := mm_fr_rf
  have g1 : 0 ≤ h.1 0 13 ∧ h.1 0 13 ≤ 99999 := i0.1 0 13
  refine mm_iload_n C (mm_dec dk_X11_go 0 rfl) rfl ?_
  have J16 : ∀ (w16_0 : (p1 < 0 ∨ 99999 - h.1 0 13 < p1)), mm_W x 0 0 16 [mU, mU] [] h := by
    intro w16_0
    have g2 : 0 ≤ h.1 0 13 ∧ h.1 0 13 ≤ 99999 := i0.1 0 13
    exact mm_throwXW C8 T htb th_iae (i := 8) rfl (mm_dec dk_X11_go 8 rfl) (mm_dec dk_X11_go 9 rfl) (mm_dec dk_X11_go 10 rfl) (mm_dec dk_X11_go 11 rfl) (mm_dec dk_X11_go 12 rfl) (Nat.le_of_ble_eq_true rfl) ⟨by decide, by decide⟩ ⟨by decide, by decide⟩ (⟨⟨rfl, rfl⟩, by omega⟩)
  refine mm_if_lt (tgt := 16) C (mm_dec dk_X11_go 1 rfl) (by decide) (fun c1 => ?_) (fun c1 => ?_)
  · skip
    refine mm_fgt 0 ?_
    refine mm_fgt 1 ?_
    exact J16 (by omega)
  · skip
    refine mm_iload_n C (mm_dec dk_X11_go 2 rfl) rfl ?_
    refine mm_ldcw (z := 99999) C (mm_dec dk_X11_go 3 rfl) kc_X11_260 (by decide) ?_
    refine mm_aload_n C (mm_dec dk_X11_go 4 rfl) rfl ?_
    refine mm_geti C fl_X11_102 (mm_dec dk_X11_go 5 rfl) rfl rfl (Or.inl rfl) ?_
    refine mm_isub C (mm_dec dk_X11_go 6 rfl) ⟨by omega, by omega⟩ ?_
    refine mm_icmp_le (tgt := 27) C (mm_dec dk_X11_go 7 rfl) (by decide) (fun c13 => ?_) (fun c13 => ?_)
    · skip
      refine mm_aload_n C (mm_dec dk_X11_go 13 rfl) rfl ?_
      refine mm_dup C (mm_dec dk_X11_go 14 rfl) (show (2 : Nat) ≠ 1 by decide) ?_
      refine mm_geti C fl_X11_102 (mm_dec dk_X11_go 15 rfl) rfl rfl (Or.inl rfl) ?_
      refine mm_iload_n C (mm_dec dk_X11_go 16 rfl) rfl ?_
      refine mm_iadd C (mm_dec dk_X11_go 17 rfl) ⟨by omega, by omega⟩ ?_
      refine mm_puti C fl_X11_102 (mm_dec dk_X11_go 18 rfl) rfl rfl rfl (Or.inl ⟨rfl, rfl⟩) ?_
      have i1 : mm_inv (mm_pf h 0 13 ((h.1 0 13) + p1)) := mm_inv_pf i0 (show 0 ≤ ((h.1 0 13) + p1) ∧ ((h.1 0 13) + p1) ≤ 99999 from ⟨by omega, by omega⟩) (by decide)
      have f1 : mm_fr [(0, 13)] [] h (mm_pf h 0 13 ((h.1 0 13) + p1)) := mm_fr_pf f0 (by decide)
      obtain ⟨h1, eh1⟩ : ∃ z, z = mm_pf h 0 13 ((h.1 0 13) + p1) := ⟨_, rfl⟩
      rw [← eh1] at i1 f1 ⊢
      have qh1 : h1.1 0 13 = ((h.1 0 13) + p1) := by rw [eh1]; exact mm_pf_same _ _ _ _
      refine mm_aload_n C (mm_dec dk_X11_go 19 rfl) rfl ?_
      refine mm_geti C fl_X11_102 (mm_dec dk_X11_go 20 rfl) rfl rfl (Or.inl rfl) ?_
      exact mm_iret C T (mm_dec dk_X11_go 21 rfl) (by decide : 0 ≤ 1) (by decide : 0 ≤ 6) ⟨_, rfl, ⟨⟨by omega, by omega⟩, i1, f1, by omega⟩⟩
    · skip
      refine mm_fgt 0 ?_
      refine mm_fgt 1 ?_
      exact J16 (by omega)
set_option maxRecDepth 100000 in
set_option maxHeartbeats 4000000 in
theorem c_X12_go_q (l : Launch) (hl : l.stackTraces = false) (d : Nat) (hd : 1 ≤ d) (h : mH) (i0 : mm_inv h) (p1 : Int) : mm_Met l d yX12_go cX12_go 2 (some .int) [mR 66, mI p1] h (mm_pi fun r h2 => (0 ≤ r ∧ r ≤ 99999) ∧ mm_inv h2 ∧ mm_fr [(66, 0), (66, 41)] [] h h2 ∧ ((0 ≤ p1 ∧ p1 ≤ 99999 - h.1 66 41 ∧ h2.1 66 41 = h.1 66 41 + p1 ∧ r = h2.1 66 41 ∧ h2.1 66 0 = 0) ∨ ((p1 < 0 ∨ 99999 - h.1 66 41 < p1) ∧ h2.1 66 41 = h.1 66 41 ∧ r = 0 ∧ h2.1 66 0 = 1))) mm_nx 0 0 := by
  refine mm_ofW (ls := [mR 66, mI p1]) hl (by decide) rfl (Nat.le_of_ble_eq_true rfl) ?_
  intro x hxl C T hnm htb
  subst hxl
  have C1 := mm_OK_le (d' := d - 1 + 1) (by omega) C
  refine mm_rng (fun hr _ => ?_)
  have ap1 : -2147483648 ≤ p1 ∧ p1 < 2147483648 := mm_ok_at hr (i := 1) rfl
  have f0 : mm_fr [(66, 0), (66, 41)] [] h h := mm_fr_rf
  have g1 : -2147483648 ≤ h.1 66 0 ∧ h.1 66 0 ≤ 2147483647 := i0.1 66 0
  have g2 : 0 ≤ h.1 66 41 ∧ h.1 66 41 ≤ 99999 := i0.1 66 41
  refine mm_aload_n C (mm_dec dk_X12_go 0 rfl) rfl ?_
  refine mm_iconst C (mm_dec dk_X12_go 1 rfl) ⟨by decide, by decide⟩ ?_
  refine mm_puti C fl_X12_188 (mm_dec dk_X12_go 2 rfl) rfl rfl rfl (Or.inl ⟨rfl, rfl⟩) ?_
  have i1 : mm_inv (mm_pf h 66 0 0) := mm_inv_pf i0 (show -2147483648 ≤ 0 ∧ 0 ≤ 2147483647 from ⟨by omega, by omega⟩) (by decide)
  have f1 : mm_fr [(66, 0), (66, 41)] [] h (mm_pf h 66 0 0) := mm_fr_pf f0 (by decide)
  obtain ⟨h1, eh1⟩ : ∃ z, z = mm_pf h 66 0 0 := ⟨_, rfl⟩
  rw [← eh1] at i1 f1 ⊢
  have qh1 : h1.1 66 0 = 0 := by rw [eh1]; exact mm_pf_same _ _ _ _
  have qh1_3 : h1.1 66 41 = h.1 66 41 := by rw [eh1]; exact mm_pf_ne _ _ (by decide)
  refine mm_aload_n C (mm_dec dk_X12_go 3 rfl) rfl ?_
  refine mm_iload_n C (mm_dec dk_X12_go 4 rfl) rfl ?_
  have J34 : ∀ (s34_1 : Int) (bs34_1 : 0 ≤ s34_1 ∧ s34_1 ≤ 1) (w34_0 : ((s34_1 = 1 ∧ 0 ≤ p1 ∧ p1 ≤ 99999 - h.1 66 41) ∨ (s34_1 = 0 ∧ (p1 < 0 ∨ 99999 - h.1 66 41 < p1)))) (vs34_1 : (s34_1 = 0) ∨ (0 ≤ p1 ∧ p1 ≤ 99999 ∧ p1 ≤ (99999 - (h1.1 66 41)) ∧ s34_1 = 1)), mm_W x 0 0 34 [mR 66, mI p1] [mI s34_1, mR 66] h1 := by
    intro s34_1 bs34_1 w34_0 vs34_1
    refine mm_iconst C (mm_dec dk_X12_go 18 rfl) ⟨by decide, by decide⟩ ?_
    refine mm_cVi (rest := []) C1 ev_X12_251 (mm_dec dk_X12_go 19 rfl) (c_X12_right_q x.2.1 hl (d - 1) (by omega) h1 i1 s34_1 1 ⟨by omega, by omega⟩ (by omega)) rfl rfl (Nat.le_of_ble_eq_true rfl) ⟨by decide, by decide⟩ rfl (fun r35 h35c hp35 => ?_) (fun _ _ q => q.elim)
    obtain ⟨b35, i35c, g35c, y35_0⟩ := hp35
    have f35c : mm_fr [(66, 0), (66, 41)] [] h h35c := mm_fr_tr f1 g35c (by decide +kernel)
    have q35c_5 : h35c.1 66 41 = h1.1 66 41 := g35c.1 66 41 (by decide)
    have g6 : -2147483648 ≤ (h35c.1 66 0) ∧ (h35c.1 66 0) ≤ 2147483647 := i35c.1 66 0
    refine mm_if_ne (tgt := 43) C (mm_dec dk_X12_go 20 rfl) (by decide) (fun c38 => ?_) (fun c38 => ?_)
    · skip
      refine mm_aload_n C (mm_dec dk_X12_go 23 rfl) rfl ?_
      refine mm_dup C (mm_dec dk_X12_go 24 rfl) (show (2 : Nat) ≠ 1 by decide) ?_
      refine mm_geti C fl_X12_234 (mm_dec dk_X12_go 25 rfl) rfl rfl (Or.inl rfl) ?_
      refine mm_iload_n C (mm_dec dk_X12_go 26 rfl) rfl ?_
      refine mm_iaddw C (mm_dec dk_X12_go 27 rfl) ?_
      have g7 : -2147483648 ≤ (mm_w ((h35c.1 66 41) + p1)) ∧ (mm_w ((h35c.1 66 41) + p1)) < 2147483648 := mm_w_rg _
      have zw : mm_w (h35c.1 66 41 + p1) = h35c.1 66 41 + p1 := mm_w_id ⟨by omega, by omega⟩
      refine mm_puti C fl_X12_234 (mm_dec dk_X12_go 28 rfl) rfl rfl rfl (Or.inl ⟨rfl, rfl⟩) ?_
      have i3 : mm_inv (mm_pf h35c 66 41 (mm_w ((h35c.1 66 41) + p1))) := mm_inv_pf i35c (show 0 ≤ (mm_w ((h35c.1 66 41) + p1)) ∧ (mm_w ((h35c.1 66 41) + p1)) ≤ 99999 from ⟨by omega, by omega⟩) (by decide)
      have f3 : mm_fr [(66, 0), (66, 41)] [] h (mm_pf h35c 66 41 (mm_w ((h35c.1 66 41) + p1))) := mm_fr_pf f35c (by decide)
      obtain ⟨h3, eh3⟩ : ∃ z, z = mm_pf h35c 66 41 (mm_w ((h35c.1 66 41) + p1)) := ⟨_, rfl⟩
      rw [← eh3] at i3 f3 ⊢
      have qh3 : h3.1 66 41 = (mm_w ((h35c.1 66 41) + p1)) := by rw [eh3]; exact mm_pf_same _ _ _ _
      have qh3_8 : h3.1 66 0 = h35c.1 66 0 := by rw [eh3]; exact mm_pf_ne _ _ (by decide)
      refine mm_aload_n C (mm_dec dk_X12_go 29 rfl) rfl ?_
      refine mm_geti C fl_X12_234 (mm_dec dk_X12_go 30 rfl) rfl rfl (Or.inl rfl) ?_
      exact mm_iret C T (mm_dec dk_X12_go 31 rfl) (by decide : 0 ≤ 0) (by decide : 0 ≤ 0) ⟨_, rfl, ⟨⟨by omega, by omega⟩, i3, f3, by omega⟩⟩
    · skip
      refine mm_iconst C (mm_dec dk_X12_go 21 rfl) ⟨by decide, by decide⟩ ?_
      exact mm_iret C T (mm_dec dk_X12_go 22 rfl) (by decide : 0 ≤ 0) (by decide : 0 ≤ 0) ⟨_, rfl, ⟨⟨by omega, by omega⟩, i35c, f35c, by omega⟩⟩
  have J33 : ∀ (w33_0 : (p1 < 0 ∨ 99999 - h.1 66 41 < p1)), mm_W x 0 0 33 [mR 66, mI p1] [mR 66] h1 := by
    intro w33_0
    refine mm_iconst C (mm_dec dk_X12_go 17 rfl) ⟨by decide, by decide⟩ ?_
    exact J34 0 ⟨by omega, by omega⟩ (by omega) (Or.inl rfl)
  refine mm_if_lt (tgt := 33) C (mm_dec dk_X12_go 5 rfl) (by decide) (fun c7 => ?_) (fun c7 => ?_)
  · skip
    exact J33 (by omega)
  · skip
    refine mm_iload_n C (mm_dec dk_X12_go 6 rfl) rfl ?_
    refine mm_ldcw (z := 99999) C (mm_dec dk_X12_go 7 rfl) kc_X12_314 (by decide) ?_
    refine mm_icmp_gt (tgt := 33) C (mm_dec dk_X12_go 8 rfl) (by decide) (fun c14 => ?_) (fun c14 => ?_)
    · skip
      exact J33 (by omega)
    · skip
      refine mm_iload_n C (mm_dec dk_X12_go 9 rfl) rfl ?_
      refine mm_ldcw (z := 99999) C (mm_dec dk_X12_go 10 rfl) kc_X12_314 (by decide) ?_
      refine mm_aload_n C (mm_dec dk_X12_go 11 rfl) rfl ?_
      refine mm_geti C fl_X12_234 (mm_dec dk_X12_go 12 rfl) rfl rfl (Or.inl rfl) ?_
      refine mm_isub C (mm_dec dk_X12_go 13 rfl) ⟨by omega, by omega⟩ ?_
      refine mm_icmp_gt (tgt := 33) C (mm_dec dk_X12_go 14 rfl) (by decide) (fun c26 => ?_) (fun c26 => ?_)
      · skip
        exact J33 (by omega)
      · skip
        refine mm_iconst C (mm_dec dk_X12_go 15 rfl) ⟨by decide, by decide⟩ ?_
        refine mm_goto (tgt := 34) C (mm_dec dk_X12_go 16 rfl) (by decide) ?_
        exact J34 1 ⟨by omega, by omega⟩ (by omega) (Or.inr (⟨by omega, by omega, by omega, rfl⟩))
