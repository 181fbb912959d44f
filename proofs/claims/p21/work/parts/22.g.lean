set_option maxRecDepth 100000 in
set_option maxHeartbeats 4000000 in
theorem c_X11_needCell_q (l : Launch) (hl : l.stackTraces = false) (d : Nat) (hd : 8 ≤ d) (h : mH) (i0 : mm_inv h) (p1 : Int) (p2 : Int) : mm_Met l d yX11_needCell cX11_needCell 3 (some .int) [mR 0, mI p1, mI p2] h (mm_pi fun r h2 => h2 = h ∧ ((0 ≤ p1 ∧ p1 < (h.1 1 5) ∧ 0 ≤ p2 ∧ p2 < (h.1 1 6) ∧ 1 ≠ 0 ∧ r = ((p2 * 20) + p1)))) (fun E h' => mm_xn h E h' ∧ (p1 < 0 ∨ h.1 1 5 ≤ p1 ∨ p2 < 0 ∨ h.1 1 6 ≤ p2)) 1 6 := by
  refine mm_ofW (ls := [mR 0, mI p1, mI p2]) hl (by decide) rfl (Nat.le_of_ble_eq_true rfl) ?_
  intro x hxl C T hnm htb
  subst hxl
  have C1 := mm_OK_le (d' := d - 1 + 1) (by omega) C
  have C8 := mm_OK_le (d' := d - 8 + 8) (by omega) C
  refine mm_rng (fun hr _ => ?_)
  have ap1 : -2147483648 ≤ p1 ∧ p1 < 2147483648 := mm_ok_at hr (i := 1) rfl
  have ap2 : -2147483648 ≤ p2 ∧ p2 < 2147483648 := mm_ok_at hr (i := 2) rfl
  have f0 : mm_fr [] [] h h := mm_fr_rf
  refine mm_aload_n C (mm_dec dk_X11_needCell 0 rfl) rfl ?_
  refine mm_getr (t := 1) C fl_X11_12 (mm_dec dk_X11_needCell 1 rfl) rfl rfl (mm_ref i0 rfl) ?_
  refine mm_iload_n C (mm_dec dk_X11_needCell 2 rfl) rfl ?_
  refine mm_iload_n C (mm_dec dk_X11_needCell 3 rfl) rfl ?_
  refine mm_cVi (rest := []) C1 ev_X11_158 (mm_dec dk_X11_needCell 4 rfl) (c_X5_holds x.2.1 hl (d - 1) (by omega) h i0 p1 p2) rfl rfl (Nat.le_of_ble_eq_true rfl) ⟨by decide, by decide⟩ rfl (fun r6 h6c hp6 => ?_) (fun _ _ q => q.elim)
  obtain ⟨z6, y6⟩ := hp6
  rw [z6]
  rcases y6 with ⟨k6_0, rfl⟩ | ⟨k6_0, k6_1, rfl⟩ | ⟨k6_0, k6_1, k6_2, rfl⟩ | ⟨k6_0, k6_1, k6_2, k6_3, rfl⟩ | ⟨k6_0, k6_1, k6_2, k6_3, rfl⟩
  · skip
    refine mm_if_ne (tgt := 23) C (mm_dec dk_X11_needCell 5 rfl) (by decide) (fun c9 => ?_) (fun c9 => ?_)
    · skip
      exfalso; omega
    · skip
      exact mm_throwXW C8 T htb th_nse (i := 0) rfl (mm_dec dk_X11_needCell 6 rfl) (mm_dec dk_X11_needCell 7 rfl) (mm_dec dk_X11_needCell 8 rfl) (mm_dec dk_X11_needCell 9 rfl) (mm_dec dk_X11_needCell 10 rfl) (Nat.le_of_ble_eq_true rfl) ⟨by decide, by decide⟩ ⟨by decide, by decide⟩ (⟨⟨rfl, rfl⟩, by omega⟩)
  · skip
    have g2 : 1 ≤ (h.1 1 5) ∧ (h.1 1 5) ≤ 20 := i0.1 1 5
    refine mm_if_ne (tgt := 23) C (mm_dec dk_X11_needCell 5 rfl) (by decide) (fun c9 => ?_) (fun c9 => ?_)
    · skip
      exfalso; omega
    · skip
      exact mm_throwXW C8 T htb th_nse (i := 0) rfl (mm_dec dk_X11_needCell 6 rfl) (mm_dec dk_X11_needCell 7 rfl) (mm_dec dk_X11_needCell 8 rfl) (mm_dec dk_X11_needCell 9 rfl) (mm_dec dk_X11_needCell 10 rfl) (Nat.le_of_ble_eq_true rfl) ⟨by decide, by decide⟩ ⟨by decide, by decide⟩ (⟨⟨rfl, rfl⟩, by omega⟩)
  · skip
    have g3 : 1 ≤ (h.1 1 5) ∧ (h.1 1 5) ≤ 20 := i0.1 1 5
    refine mm_if_ne (tgt := 23) C (mm_dec dk_X11_needCell 5 rfl) (by decide) (fun c9 => ?_) (fun c9 => ?_)
    · skip
      exfalso; omega
    · skip
      exact mm_throwXW C8 T htb th_nse (i := 0) rfl (mm_dec dk_X11_needCell 6 rfl) (mm_dec dk_X11_needCell 7 rfl) (mm_dec dk_X11_needCell 8 rfl) (mm_dec dk_X11_needCell 9 rfl) (mm_dec dk_X11_needCell 10 rfl) (Nat.le_of_ble_eq_true rfl) ⟨by decide, by decide⟩ ⟨by decide, by decide⟩ (⟨⟨rfl, rfl⟩, by omega⟩)
  · skip
    have g4 : 1 ≤ (h.1 1 5) ∧ (h.1 1 5) ≤ 20 := i0.1 1 5
    have g5 : 1 ≤ (h.1 1 6) ∧ (h.1 1 6) ≤ 20 := i0.1 1 6
    refine mm_if_ne (tgt := 23) C (mm_dec dk_X11_needCell 5 rfl) (by decide) (fun c9 => ?_) (fun c9 => ?_)
    · skip
      exfalso; omega
    · skip
      exact mm_throwXW C8 T htb th_nse (i := 0) rfl (mm_dec dk_X11_needCell 6 rfl) (mm_dec dk_X11_needCell 7 rfl) (mm_dec dk_X11_needCell 8 rfl) (mm_dec dk_X11_needCell 9 rfl) (mm_dec dk_X11_needCell 10 rfl) (Nat.le_of_ble_eq_true rfl) ⟨by decide, by decide⟩ ⟨by decide, by decide⟩ (⟨⟨rfl, rfl⟩, by omega⟩)
  · skip
    have g6 : 1 ≤ (h.1 1 5) ∧ (h.1 1 5) ≤ 20 := i0.1 1 5
    have g7 : 1 ≤ (h.1 1 6) ∧ (h.1 1 6) ≤ 20 := i0.1 1 6
    refine mm_if_ne (tgt := 23) C (mm_dec dk_X11_needCell 5 rfl) (by decide) (fun c9 => ?_) (fun c9 => ?_)
    · skip
      refine mm_iload_n C (mm_dec dk_X11_needCell 11 rfl) rfl ?_
      refine mm_bipush C (mm_dec dk_X11_needCell 12 rfl) ⟨by decide, by decide⟩ ?_
      refine mm_imul C (mm_dec dk_X11_needCell 13 rfl) ⟨by omega, by omega⟩ ?_
      refine mm_iload_n C (mm_dec dk_X11_needCell 14 rfl) rfl ?_
      refine mm_iadd C (mm_dec dk_X11_needCell 15 rfl) ⟨by omega, by omega⟩ ?_
      exact mm_iret C T (mm_dec dk_X11_needCell 16 rfl) (by decide : 0 ≤ 1) (by decide : 0 ≤ 6) ⟨_, rfl, ⟨rfl, ⟨by omega, by omega, by omega, by omega, by omega, rfl⟩⟩⟩
    · skip
      exfalso; omega
set_option maxRecDepth 100000 in
set_option maxHeartbeats 4000000 in
theorem c_X12_inside_q (l : Launch) (hl : l.stackTraces = false) (d : Nat) (hd : 1 ≤ d) (h : mH) (i0 : mm_inv h) (p1 : Int) (p2 : Int) : mm_Met l d yX12_inside cX12_inside 3 (some .boolean) [mR 66, mI p1, mI p2] h (mm_pi fun r h2 => (0 ≤ r ∧ r ≤ 1) ∧ mm_inv h2 ∧ mm_fr [(66, 0)] [] h h2 ∧ ((h.1 66 0 = 0 ∧ (0 ≤ p1 ∧ p1 < h.1 66 1 ∧ 0 ≤ p2 ∧ p2 < h.1 66 2) ∧ r = 1 ∧ h2.1 66 0 = 0) ∨ (h.1 66 0 = 0 ∧ (p1 < 0 ∨ h.1 66 1 ≤ p1 ∨ p2 < 0 ∨ h.1 66 2 ≤ p2) ∧ r = 0 ∧ h2.1 66 0 = 1) ∨ (h.1 66 0 ≠ 0 ∧ r = 0 ∧ h2.1 66 0 = h.1 66 0)) ∧ (r = 0 ∨ (0 ≤ p1 ∧ p1 < (h2.1 66 1) ∧ 0 ≤ p2 ∧ p2 < (h2.1 66 2)))) mm_nx 0 0 := by
  refine mm_ofW (ls := [mR 66, mI p1, mI p2]) hl (by decide) rfl (Nat.le_of_ble_eq_true rfl) ?_
  intro x hxl C T hnm htb
  subst hxl
  have C1 := mm_OK_le (d' := d - 1 + 1) (by omega) C
  refine mm_rng (fun hr _ => ?_)
  have ap1 : -2147483648 ≤ p1 ∧ p1 < 2147483648 := mm_ok_at hr (i := 1) rfl
  have ap2 : -2147483648 ≤ p2 ∧ p2 < 2147483648 := mm_ok_at hr (i := 2) rfl
  have f0 : mm_fr [(66, 0)] [] h h := mm_fr_rf
  have g1 : -2147483648 ≤ h.1 66 0 ∧ h.1 66 0 ≤ 2147483647 := i0.1 66 0
  have g2 : 1 ≤ h.1 66 1 ∧ h.1 66 1 ≤ 20 := i0.1 66 1
  have g3 : 1 ≤ h.1 66 2 ∧ h.1 66 2 ≤ 20 := i0.1 66 2
  have g4 : 0 ≤ h.1 66 23 ∧ h.1 66 23 ≤ 40 := i0.1 66 23
  refine mm_aload_n C (mm_dec dk_X12_inside 0 rfl) rfl ?_
  refine mm_iload_n C (mm_dec dk_X12_inside 1 rfl) rfl ?_
  refine mm_if_lt (tgt := 29) C (mm_dec dk_X12_inside 2 rfl) (by decide) (fun c2 => ?_) (fun c2 => ?_)
  · skip
    refine mm_iconst C (mm_dec dk_X12_inside 15 rfl) ⟨by decide, by decide⟩ ?_
    refine mm_iconst C (mm_dec dk_X12_inside 16 rfl) ⟨by decide, by decide⟩ ?_
    refine mm_cVi (rest := []) C1 ev_X12_251 (mm_dec dk_X12_inside 17 rfl) (c_X12_right_q x.2.1 hl (d - 1) (by omega) h i0 0 1 ⟨by omega, by omega⟩ (by omega)) rfl rfl (Nat.le_of_ble_eq_true rfl) ⟨by decide, by decide⟩ rfl (fun r31 h31c hp31 => ?_) (fun _ _ q => q.elim)
    obtain ⟨b31, i31c, g31c, y31_0⟩ := hp31
    have f31c : mm_fr [(66, 0)] [] h h31c := mm_fr_tr f0 g31c (by decide +kernel)
    have q31c_6 : h31c.1 66 1 = h.1 66 1 := g31c.1 66 1 (by decide)
    have q31c_7 : h31c.1 66 2 = h.1 66 2 := g31c.1 66 2 (by decide)
    have q31c_8 : h31c.1 66 23 = h.1 66 23 := g31c.1 66 23 (by decide)
    have g9 : -2147483648 ≤ (h31c.1 66 0) ∧ (h31c.1 66 0) ≤ 2147483647 := i31c.1 66 0
    exact mm_zret C T (mm_dec dk_X12_inside 18 rfl) (by decide : 0 ≤ 0) (by decide : 0 ≤ 0) (by omega) ⟨_, rfl, ⟨⟨by omega, by omega⟩, i31c, f31c, by omega, by omega⟩⟩
  · skip
    refine mm_iload_n C (mm_dec dk_X12_inside 3 rfl) rfl ?_
    refine mm_aload_n C (mm_dec dk_X12_inside 4 rfl) rfl ?_
    refine mm_geti C fl_X12_192 (mm_dec dk_X12_inside 5 rfl) rfl rfl (Or.inl rfl) ?_
    refine mm_icmp_ge (tgt := 29) C (mm_dec dk_X12_inside 6 rfl) (by decide) (fun c10 => ?_) (fun c10 => ?_)
    · skip
      refine mm_iconst C (mm_dec dk_X12_inside 15 rfl) ⟨by decide, by decide⟩ ?_
      refine mm_iconst C (mm_dec dk_X12_inside 16 rfl) ⟨by decide, by decide⟩ ?_
      refine mm_cVi (rest := []) C1 ev_X12_251 (mm_dec dk_X12_inside 17 rfl) (c_X12_right_q x.2.1 hl (d - 1) (by omega) h i0 0 1 ⟨by omega, by omega⟩ (by omega)) rfl rfl (Nat.le_of_ble_eq_true rfl) ⟨by decide, by decide⟩ rfl (fun r31 h31c hp31 => ?_) (fun _ _ q => q.elim)
      obtain ⟨b31, i31c, g31c, y31_0⟩ := hp31
      have f31c : mm_fr [(66, 0)] [] h h31c := mm_fr_tr f0 g31c (by decide +kernel)
      have q31c_11 : h31c.1 66 1 = h.1 66 1 := g31c.1 66 1 (by decide)
      have q31c_12 : h31c.1 66 2 = h.1 66 2 := g31c.1 66 2 (by decide)
      have q31c_13 : h31c.1 66 23 = h.1 66 23 := g31c.1 66 23 (by decide)
      have g14 : -2147483648 ≤ (h31c.1 66 0) ∧ (h31c.1 66 0) ≤ 2147483647 := i31c.1 66 0
      exact mm_zret C T (mm_dec dk_X12_inside 18 rfl) (by decide : 0 ≤ 0) (by decide : 0 ≤ 0) (by omega) ⟨_, rfl, ⟨⟨by omega, by omega⟩, i31c, f31c, by omega, by omega⟩⟩
    · skip
      refine mm_iload_n C (mm_dec dk_X12_inside 7 rfl) rfl ?_
      refine mm_if_lt (tgt := 29) C (mm_dec dk_X12_inside 8 rfl) (by decide) (fun c14 => ?_) (fun c14 => ?_)
      · skip
        refine mm_iconst C (mm_dec dk_X12_inside 15 rfl) ⟨by decide, by decide⟩ ?_
        refine mm_iconst C (mm_dec dk_X12_inside 16 rfl) ⟨by decide, by decide⟩ ?_
        refine mm_cVi (rest := []) C1 ev_X12_251 (mm_dec dk_X12_inside 17 rfl) (c_X12_right_q x.2.1 hl (d - 1) (by omega) h i0 0 1 ⟨by omega, by omega⟩ (by omega)) rfl rfl (Nat.le_of_ble_eq_true rfl) ⟨by decide, by decide⟩ rfl (fun r31 h31c hp31 => ?_) (fun _ _ q => q.elim)
        obtain ⟨b31, i31c, g31c, y31_0⟩ := hp31
        have f31c : mm_fr [(66, 0)] [] h h31c := mm_fr_tr f0 g31c (by decide +kernel)
        have q31c_16 : h31c.1 66 1 = h.1 66 1 := g31c.1 66 1 (by decide)
        have q31c_17 : h31c.1 66 2 = h.1 66 2 := g31c.1 66 2 (by decide)
        have q31c_18 : h31c.1 66 23 = h.1 66 23 := g31c.1 66 23 (by decide)
        have g19 : -2147483648 ≤ (h31c.1 66 0) ∧ (h31c.1 66 0) ≤ 2147483647 := i31c.1 66 0
        exact mm_zret C T (mm_dec dk_X12_inside 18 rfl) (by decide : 0 ≤ 0) (by decide : 0 ≤ 0) (by omega) ⟨_, rfl, ⟨⟨by omega, by omega⟩, i31c, f31c, by omega, by omega⟩⟩
      · skip
        refine mm_iload_n C (mm_dec dk_X12_inside 9 rfl) rfl ?_
        refine mm_aload_n C (mm_dec dk_X12_inside 10 rfl) rfl ?_
        refine mm_geti C fl_X12_195 (mm_dec dk_X12_inside 11 rfl) rfl rfl (Or.inl rfl) ?_
        refine mm_icmp_ge (tgt := 29) C (mm_dec dk_X12_inside 12 rfl) (by decide) (fun c22 => ?_) (fun c22 => ?_)
        · skip
          refine mm_iconst C (mm_dec dk_X12_inside 15 rfl) ⟨by decide, by decide⟩ ?_
          refine mm_iconst C (mm_dec dk_X12_inside 16 rfl) ⟨by decide, by decide⟩ ?_
          refine mm_cVi (rest := []) C1 ev_X12_251 (mm_dec dk_X12_inside 17 rfl) (c_X12_right_q x.2.1 hl (d - 1) (by omega) h i0 0 1 ⟨by omega, by omega⟩ (by omega)) rfl rfl (Nat.le_of_ble_eq_true rfl) ⟨by decide, by decide⟩ rfl (fun r31 h31c hp31 => ?_) (fun _ _ q => q.elim)
          obtain ⟨b31, i31c, g31c, y31_0⟩ := hp31
          have f31c : mm_fr [(66, 0)] [] h h31c := mm_fr_tr f0 g31c (by decide +kernel)
          have q31c_21 : h31c.1 66 1 = h.1 66 1 := g31c.1 66 1 (by decide)
          have q31c_22 : h31c.1 66 2 = h.1 66 2 := g31c.1 66 2 (by decide)
          have q31c_23 : h31c.1 66 23 = h.1 66 23 := g31c.1 66 23 (by decide)
          have g24 : -2147483648 ≤ (h31c.1 66 0) ∧ (h31c.1 66 0) ≤ 2147483647 := i31c.1 66 0
          exact mm_zret C T (mm_dec dk_X12_inside 18 rfl) (by decide : 0 ≤ 0) (by decide : 0 ≤ 0) (by omega) ⟨_, rfl, ⟨⟨by omega, by omega⟩, i31c, f31c, by omega, by omega⟩⟩
        · skip
          refine mm_iconst C (mm_dec dk_X12_inside 13 rfl) ⟨by decide, by decide⟩ ?_
          refine mm_goto (tgt := 30) C (mm_dec dk_X12_inside 14 rfl) (by decide) ?_
          refine mm_iconst C (mm_dec dk_X12_inside 16 rfl) ⟨by decide, by decide⟩ ?_
          refine mm_cVi (rest := []) C1 ev_X12_251 (mm_dec dk_X12_inside 17 rfl) (c_X12_right_q x.2.1 hl (d - 1) (by omega) h i0 1 1 ⟨by omega, by omega⟩ (by omega)) rfl rfl (Nat.le_of_ble_eq_true rfl) ⟨by decide, by decide⟩ rfl (fun r31 h31c hp31 => ?_) (fun _ _ q => q.elim)
          obtain ⟨b31, i31c, g31c, y31_0⟩ := hp31
          have f31c : mm_fr [(66, 0)] [] h h31c := mm_fr_tr f0 g31c (by decide +kernel)
          have q31c_26 : h31c.1 66 1 = h.1 66 1 := g31c.1 66 1 (by decide)
          have q31c_27 : h31c.1 66 2 = h.1 66 2 := g31c.1 66 2 (by decide)
          have q31c_28 : h31c.1 66 23 = h.1 66 23 := g31c.1 66 23 (by decide)
          have g29 : -2147483648 ≤ (h31c.1 66 0) ∧ (h31c.1 66 0) ≤ 2147483647 := i31c.1 66 0
          exact mm_zret C T (mm_dec dk_X12_inside 18 rfl) (by decide : 0 ≤ 0) (by decide : 0 ≤ 0) (by omega) ⟨_, rfl, ⟨⟨by omega, by omega⟩, i31c, f31c, by omega, by omega⟩⟩
set_option maxRecDepth 100000 in
set_option maxHeartbeats 4000000 in
theorem c_X12_isCell_q (l : Launch) (hl : l.stackTraces = false) (d : Nat) (hd : 2 ≤ d) (h : mH) (i0 : mm_inv h) (p1 : Int) (p2 : Int) : mm_Met l d yX12_isCell cX12_isCell 3 (some .boolean) [mR 66, mI p1, mI p2] h (mm_pi fun r h2 => (0 ≤ r ∧ r ≤ 1) ∧ mm_inv h2 ∧ mm_fr [(66, 0)] [] h h2 ∧ (((0 ≤ p1 ∧ p1 < h.1 66 1 ∧ 0 ≤ p2 ∧ p2 < h.1 66 2) ∧ r = 1 ∧ h2.1 66 0 = 0) ∨ ((p1 < 0 ∨ h.1 66 1 ≤ p1 ∨ p2 < 0 ∨ h.1 66 2 ≤ p2) ∧ r = 0 ∧ h2.1 66 0 = 1)) ∧ (r = 0 ∨ (0 ≤ p1 ∧ p1 < (h2.1 66 1) ∧ 0 ≤ p2 ∧ p2 < (h2.1 66 2)))) mm_nx 0 0 := by
  refine mm_ofW (ls := [mR 66, mI p1, mI p2]) hl (by decide) rfl (Nat.le_of_ble_eq_true rfl) ?_
  intro x hxl C T hnm htb
  subst hxl
  have C1 := mm_OK_le (d' := d - 1 + 1) (by omega) C
  refine mm_rng (fun hr _ => ?_)
  have ap1 : -2147483648 ≤ p1 ∧ p1 < 2147483648 := mm_ok_at hr (i := 1) rfl
  have ap2 : -2147483648 ≤ p2 ∧ p2 < 2147483648 := mm_ok_at hr (i := 2) rfl
  have f0 : mm_fr [(66, 0)] [] h h := mm_fr_rf
  have g1 : -2147483648 ≤ h.1 66 0 ∧ h.1 66 0 ≤ 2147483647 := i0.1 66 0
  have g2 : 1 ≤ h.1 66 1 ∧ h.1 66 1 ≤ 20 := i0.1 66 1
  have g3 : 1 ≤ h.1 66 2 ∧ h.1 66 2 ≤ 20 := i0.1 66 2
  have g4 : 0 ≤ h.1 66 23 ∧ h.1 66 23 ≤ 40 := i0.1 66 23
  refine mm_aload_n C (mm_dec dk_X12_isCell 0 rfl) rfl ?_
  refine mm_iconst C (mm_dec dk_X12_isCell 1 rfl) ⟨by decide, by decide⟩ ?_
  refine mm_puti C fl_X12_188 (mm_dec dk_X12_isCell 2 rfl) rfl rfl rfl (Or.inl ⟨rfl, rfl⟩) ?_
  have i1 : mm_inv (mm_pf h 66 0 0) := mm_inv_pf i0 (show -2147483648 ≤ 0 ∧ 0 ≤ 2147483647 from ⟨by omega, by omega⟩) (by decide)
  have f1 : mm_fr [(66, 0)] [] h (mm_pf h 66 0 0) := mm_fr_pf f0 (by decide)
  obtain ⟨h1, eh1⟩ : ∃ z, z = mm_pf h 66 0 0 := ⟨_, rfl⟩
  rw [← eh1] at i1 f1 ⊢
  have qh1 : h1.1 66 0 = 0 := by rw [eh1]; exact mm_pf_same _ _ _ _
  have qh1_5 : h1.1 66 1 = h.1 66 1 := by rw [eh1]; exact mm_pf_ne _ _ (by decide)
  have qh1_6 : h1.1 66 2 = h.1 66 2 := by rw [eh1]; exact mm_pf_ne _ _ (by decide)
  have qh1_7 : h1.1 66 23 = h.1 66 23 := by rw [eh1]; exact mm_pf_ne _ _ (by decide)
  refine mm_aload_n C (mm_dec dk_X12_isCell 3 rfl) rfl ?_
  refine mm_iload_n C (mm_dec dk_X12_isCell 4 rfl) rfl ?_
  refine mm_iload_n C (mm_dec dk_X12_isCell 5 rfl) rfl ?_
  refine mm_cVi (rest := []) C1 ev_X12_247 (mm_dec dk_X12_isCell 6 rfl) (c_X12_inside_q x.2.1 hl (d - 1) (by omega) h1 i1 p1 p2) rfl rfl (Nat.le_of_ble_eq_true rfl) ⟨by decide, by decide⟩ rfl (fun r8 h8c hp8 => ?_) (fun _ _ q => q.elim)
  obtain ⟨b8, i8c, g8c, y8_0, y8_1⟩ := hp8
  have f8c : mm_fr [(66, 0)] [] h h8c := mm_fr_tr f1 g8c (by decide +kernel)
  have q8c_9 : h8c.1 66 1 = h1.1 66 1 := g8c.1 66 1 (by decide)
  have q8c_10 : h8c.1 66 2 = h1.1 66 2 := g8c.1 66 2 (by decide)
  have q8c_11 : h8c.1 66 23 = h1.1 66 23 := g8c.1 66 23 (by decide)
  have g12 : -2147483648 ≤ (h8c.1 66 0) ∧ (h8c.1 66 0) ≤ 2147483647 := i8c.1 66 0
  exact mm_zret C T (mm_dec dk_X12_isCell 7 rfl) (by decide : 0 ≤ 0) (by decide : 0 ≤ 0) (by omega) ⟨_, rfl, ⟨⟨by omega, by omega⟩, i8c, f8c, by omega, by omega⟩⟩
set_option maxRecDepth 100000 in
set_option maxHeartbeats 4000000 in
theorem c_X2_postStandsAt_q (l : Launch) (hl : l.stackTraces = false) (d : Nat) (hd : 0 ≤ d) (h : mH) (i0 : mm_inv h) (p1 : Int) (bp1 : 0 ≤ p1 ∧ p1 ≤ 399) : mm_Met l d yX2_postStandsAt cX2_postStandsAt 3 (some .boolean) [mR 14, mI p1] h (mm_pi fun r h2 => (0 ≤ r ∧ r ≤ 1) ∧ h2 = h ∧ r = mm_fd (h.2.1 15) p1 (h.1 14 7).toNat) mm_nx 0 0 := by
  refine mm_ofW (ls := [mR 14, mI p1, mU]) hl (by decide) rfl (Nat.le_of_ble_eq_true rfl) ?_
  intro x hxl C T hnm htb
  subst hxl
  refine mm_rng (fun hr _ => ?_)
  have ap1 : -2147483648 ≤ p1 ∧ p1 < 2147483648 := mm_ok_at hr (i := 1) rfl
  have f0 : mm_fr [] [] h h := mm_fr_rf
  have zp : 0 ≤ h.1 14 7 ∧ h.1 14 7 ≤ 20 := i0.1 14 7
  refine mm_iconst C (mm_dec dk_X2_postStandsAt 0 rfl) ⟨by decide, by decide⟩ ?_
  have J2 : ∀ (n : Nat) (x2_2 : Int) (bx2_2 : 0 ≤ x2_2 ∧ x2_2 ≤ 20) (w2_0 : mm_fd (h.2.1 15) p1 (x2_2).toNat = 0) (w2_1 : x2_2 ≤ h.1 14 7), (20 - x2_2 : Int) < n → mm_W x 0 0 2 [mR 14, mI p1, mI x2_2] [] h := by
    intro n
    induction n with
    | zero =>
      intro x2_2 bx2_2 w2_0 w2_1 hm
      exfalso; omega
    | succ n ih2 =>
      intro x2_2 bx2_2 w2_0 w2_1 hm2
      refine mm_iload_n C (mm_dec dk_X2_postStandsAt 2 rfl) rfl ?_
      refine mm_aload_n C (mm_dec dk_X2_postStandsAt 3 rfl) rfl ?_
      refine mm_geti C fl_X2_34 (mm_dec dk_X2_postStandsAt 4 rfl) rfl rfl (Or.inl rfl) ?_
      have g1 : 0 ≤ (h.1 14 7) ∧ (h.1 14 7) ≤ 20 := i0.1 14 7
      refine mm_icmp_ge (tgt := 28) C (mm_dec dk_X2_postStandsAt 5 rfl) (by decide) (fun c7 => ?_) (fun c7 => ?_)
      · skip
        refine mm_iconst C (mm_dec dk_X2_postStandsAt 16 rfl) ⟨by decide, by decide⟩ ?_
        exact mm_zret C T (mm_dec dk_X2_postStandsAt 17 rfl) (by decide : 0 ≤ 0) (by decide : 0 ≤ 0) (by omega) ⟨_, rfl, ⟨⟨by omega, by omega⟩, rfl, by first | exact mm_fd_hit (i := x2_2) (by omega) (by omega) (by omega) | exact mm_fd_end w2_0 (by omega)⟩⟩
      · skip
        refine mm_aload_n C (mm_dec dk_X2_postStandsAt 6 rfl) rfl ?_
        refine mm_getr (t := 15) C fl_X2_9 (mm_dec dk_X2_postStandsAt 7 rfl) rfl rfl (mm_ref i0 rfl) ?_
        refine mm_iload_n C (mm_dec dk_X2_postStandsAt 8 rfl) rfl ?_
        refine mm_iald C (mm_dec dk_X2_postStandsAt 9 rfl) rfl (by omega) (by omega) ?_
        have g2 : 0 ≤ (h.2.1 15 x2_2) ∧ (h.2.1 15 x2_2) ≤ 399 := i0.2.1 15 x2_2
        refine mm_iload_n C (mm_dec dk_X2_postStandsAt 10 rfl) rfl ?_
        refine mm_icmp_ne (tgt := 22) C (mm_dec dk_X2_postStandsAt 11 rfl) (by decide) (fun c17 => ?_) (fun c17 => ?_)
        · skip
          refine mm_iincL (ls2 := [mR 14, mI p1, mI (x2_2 + 1)]) C (mm_dec dk_X2_postStandsAt 14 rfl) rfl (by decide) ⟨by omega, by omega⟩ rfl ?_
          refine mm_goto (tgt := 2) C (mm_dec dk_X2_postStandsAt 15 rfl) (by decide) ?_
          exact ih2 (x2_2 + 1) ⟨by omega, by omega⟩ (by first | rfl | exact mm_fd_step w2_0 (by omega) (by omega)) (by omega) (by omega)
        · skip
          refine mm_iconst C (mm_dec dk_X2_postStandsAt 12 rfl) ⟨by decide, by decide⟩ ?_
          exact mm_zret C T (mm_dec dk_X2_postStandsAt 13 rfl) (by decide : 0 ≤ 0) (by decide : 0 ≤ 0) (by omega) ⟨_, rfl, ⟨⟨by omega, by omega⟩, rfl, by first | exact mm_fd_hit (i := x2_2) (by omega) (by omega) (by omega) | exact mm_fd_end w2_0 (by omega)⟩⟩
  refine mm_istore_nL (ls2 := [mR 14, mI p1, mI 0]) C (mm_dec dk_X2_postStandsAt 1 rfl) (by decide) rfl ?_
  exact J2 (((20 - 0) : Int) + 1).toNat 0 ⟨by omega, by omega⟩ (by first | rfl | exact mm_fd_step w2_0 (by omega) (by omega)) (by omega) (by omega)
set_option maxRecDepth 100000 in
set_option maxHeartbeats 4000000 in
theorem c_X11_postStandsOn_q (l : Launch) (hl : l.stackTraces = false) (d : Nat) (hd : 1 ≤ d) (h : mH) (i0 : mm_inv h) (p1 : Int) : mm_Met l d yX11_postStandsOn cX11_postStandsOn 3 (some .boolean) [mR 0, mI p1] h (mm_pi fun r h2 => (0 ≤ r ∧ r ≤ 1) ∧ h2 = h ∧ r = mm_fd (fun j => h.2.1 2 (h.2.1 15 j)) p1 (h.1 14 7).toNat) mm_nx 0 0 := by
  refine mm_ofW (ls := [mR 0, mI p1, mU]) hl (by decide) rfl (Nat.le_of_ble_eq_true rfl) ?_
  intro x hxl C T hnm htb
  subst hxl
  have C1 := mm_OK_le (d' := d - 1 + 1) (by omega) C
  refine mm_rng (fun hr _ => ?_)
  have ap1 : -2147483648 ≤ p1 ∧ p1 < 2147483648 := mm_ok_at hr (i := 1) rfl
  have f0 : mm_fr [] [] h h := mm_fr_rf
  have zp : 0 ≤ h.1 14 7 ∧ h.1 14 7 ≤ 20 := i0.1 14 7
  refine mm_iconst C (mm_dec dk_X11_postStandsOn 0 rfl) ⟨by decide, by decide⟩ ?_
  have J2 : ∀ (n : Nat) (x2_2 : Int) (bx2_2 : 0 ≤ x2_2 ∧ x2_2 ≤ 20) (w2_0 : mm_fd (fun j => h.2.1 2 (h.2.1 15 j)) p1 (x2_2).toNat = 0) (w2_1 : x2_2 ≤ h.1 14 7), (20 - x2_2 : Int) < n → mm_W x 0 0 2 [mR 0, mI p1, mI x2_2] [] h := by
    intro n
    induction n with
    | zero =>
      intro x2_2 bx2_2 w2_0 w2_1 hm
      exfalso; omega
    | succ n ih2 =>
      intro x2_2 bx2_2 w2_0 w2_1 hm2
      refine mm_iload_n C (mm_dec dk_X11_postStandsOn 2 rfl) rfl ?_
      refine mm_aload_n C (mm_dec dk_X11_postStandsOn 3 rfl) rfl ?_
      refine mm_getr (t := 14) C fl_X11_28 (mm_dec dk_X11_postStandsOn 4 rfl) rfl rfl (mm_ref i0 rfl) ?_
      refine mm_cVi (rest := [mI x2_2]) C1 ev_X11_191 (mm_dec dk_X11_postStandsOn 5 rfl) (c_X2_posts x.2.1 hl (d - 1) (by omega) h i0 ) rfl rfl (Nat.le_of_ble_eq_true rfl) ⟨by decide, by decide⟩ rfl (fun r7 h7c hp7 => ?_) (fun _ _ q => q.elim)
      obtain ⟨z7, y7⟩ := hp7
      rw [z7, y7]
      have g2 : 0 ≤ (h.1 14 7) ∧ (h.1 14 7) ≤ 20 := i0.1 14 7
      refine mm_icmp_ge (tgt := 40) C (mm_dec dk_X11_postStandsOn 6 rfl) (by decide) (fun c10 => ?_) (fun c10 => ?_)
      · skip
        refine mm_iconst C (mm_dec dk_X11_postStandsOn 20 rfl) ⟨by decide, by decide⟩ ?_
        exact mm_zret C T (mm_dec dk_X11_postStandsOn 21 rfl) (by decide : 0 ≤ 0) (by decide : 0 ≤ 0) (by omega) ⟨_, rfl, ⟨⟨by omega, by omega⟩, rfl, by first | exact mm_fd_hit (i := x2_2) (by omega) (by omega) (show h.2.1 2 (h.2.1 15 x2_2) = p1 by omega) | exact mm_fd_end w2_0 (by omega)⟩⟩
      · skip
        refine mm_aload_n C (mm_dec dk_X11_postStandsOn 7 rfl) rfl ?_
        refine mm_getr (t := 1) C fl_X11_12 (mm_dec dk_X11_postStandsOn 8 rfl) rfl rfl (mm_ref i0 rfl) ?_
        refine mm_aload_n C (mm_dec dk_X11_postStandsOn 9 rfl) rfl ?_
        refine mm_getr (t := 14) C fl_X11_28 (mm_dec dk_X11_postStandsOn 10 rfl) rfl rfl (mm_ref i0 rfl) ?_
        refine mm_iload_n C (mm_dec dk_X11_postStandsOn 11 rfl) rfl ?_
        refine mm_cVi (rest := [mR 1]) C1 ev_X11_392 (mm_dec dk_X11_postStandsOn 12 rfl) (c_X2_cellOf x.2.1 hl (d - 1) (by omega) h i0 x2_2 ⟨by omega, by omega⟩) rfl rfl (Nat.le_of_ble_eq_true rfl) ⟨by decide, by decide⟩ rfl (fun r22 h22c hp22 => ?_) (fun _ _ q => q.elim)
        obtain ⟨z22, y22⟩ := hp22
        rw [z22, y22]
        have g4 : 0 ≤ (h.2.1 15 x2_2) ∧ (h.2.1 15 x2_2) ≤ 399 := i0.2.1 15 x2_2
        refine mm_cVi (rest := []) C1 ev_X11_395 (mm_dec dk_X11_postStandsOn 13 rfl) (c_X5_groundAt x.2.1 hl (d - 1) (by omega) h i0 (h.2.1 15 x2_2) ⟨by omega, by omega⟩) rfl rfl (Nat.le_of_ble_eq_true rfl) ⟨by decide, by decide⟩ rfl (fun r25 h25c hp25 => ?_) (fun _ _ q => q.elim)
        obtain ⟨z25, y25⟩ := hp25
        rw [z25, y25]
        have g6 : 0 ≤ (h.2.1 2 (h.2.1 15 x2_2)) ∧ (h.2.1 2 (h.2.1 15 x2_2)) ≤ 7 := i0.2.1 2 (h.2.1 15 x2_2)
        refine mm_iload_n C (mm_dec dk_X11_postStandsOn 14 rfl) rfl ?_
        refine mm_icmp_ne (tgt := 34) C (mm_dec dk_X11_postStandsOn 15 rfl) (by decide) (fun c29 => ?_) (fun c29 => ?_)
        · skip
          refine mm_iincL (ls2 := [mR 0, mI p1, mI (x2_2 + 1)]) C (mm_dec dk_X11_postStandsOn 18 rfl) rfl (by decide) ⟨by omega, by omega⟩ rfl ?_
          refine mm_goto (tgt := 2) C (mm_dec dk_X11_postStandsOn 19 rfl) (by decide) ?_
          exact ih2 (x2_2 + 1) ⟨by omega, by omega⟩ (by first | rfl | exact mm_fd_step w2_0 (by omega) (show h.2.1 2 (h.2.1 15 x2_2) ≠ p1 by omega)) (by omega) (by omega)
        · skip
          refine mm_iconst C (mm_dec dk_X11_postStandsOn 16 rfl) ⟨by decide, by decide⟩ ?_
          exact mm_zret C T (mm_dec dk_X11_postStandsOn 17 rfl) (by decide : 0 ≤ 0) (by decide : 0 ≤ 0) (by omega) ⟨_, rfl, ⟨⟨by omega, by omega⟩, rfl, by first | exact mm_fd_hit (i := x2_2) (by omega) (by omega) (show h.2.1 2 (h.2.1 15 x2_2) = p1 by omega) | exact mm_fd_end w2_0 (by omega)⟩⟩
  refine mm_istore_nL (ls2 := [mR 0, mI p1, mI 0]) C (mm_dec dk_X11_postStandsOn 1 rfl) (by decide) rfl ?_
  exact J2 (((20 - 0) : Int) + 1).toNat 0 ⟨by omega, by omega⟩ (by first | rfl | exact mm_fd_step w2_0 (by omega) (show h.2.1 2 (h.2.1 15 x2_2) ≠ p1 by omega)) (by omega) (by omega)
set_option maxRecDepth 100000 in
set_option maxHeartbeats 4000000 in
theorem c_X2_setPost_q (l : Launch) (hl : l.stackTraces = false) (d : Nat) (hd : 0 ≤ d) (h : mH) (i0 : mm_inv h) (p1 : Int) (p2 : Int) (bp1 : 0 ≤ p1 ∧ p1 ≤ 399) (bp2 : 0 ≤ p2 ∧ p2 ≤ 99) (u0 : (h.1 14 7) ≤ 19) : mm_Met l d yX2_setPost cX2_setPost 3 (some .int) [mR 14, mI p1, mI p2] h (mm_pi fun r h2 => (0 ≤ r ∧ r ≤ 19) ∧ mm_inv h2 ∧ mm_fr [(14, 7)] [15, 16] h h2 ∧ h2.1 14 7 = h.1 14 7 + 1 ∧ r = h.1 14 7 ∧ mm_up h h2 15 (h.1 14 7) p1 1 ∧ mm_up h h2 16 (h.1 14 7) p2 1) mm_nx 0 0 := by
  refine mm_ofW (ls := [mR 14, mI p1, mI p2]) hl (by decide) rfl (Nat.le_of_ble_eq_true rfl) ?_
  intro x hxl C T hnm htb
  subst hxl
  refine mm_rng (fun hr _ => ?_)
  have ap1 : -2147483648 ≤ p1 ∧ p1 < 2147483648 := mm_ok_at hr (i := 1) rfl
  have ap2 : -2147483648 ≤ p2 ∧ p2 < 2147483648 := mm_ok_at hr (i := 2) rfl
  have f0 : mm_fr [(14, 7)] [15, 16] h h := mm_fr_rf
  have g1 : 0 ≤ h.1 14 7 ∧ h.1 14 7 ≤ 20 := i0.1 14 7
  refine mm_aload_n C (mm_dec dk_X2_setPost 0 rfl) rfl ?_
  refine mm_getr (t := 15) C fl_X2_9 (mm_dec dk_X2_setPost 1 rfl) rfl rfl (mm_ref i0 rfl) ?_
  refine mm_aload_n C (mm_dec dk_X2_setPost 2 rfl) rfl ?_
  refine mm_geti C fl_X2_34 (mm_dec dk_X2_setPost 3 rfl) rfl rfl (Or.inl rfl) ?_
  refine mm_iload_n C (mm_dec dk_X2_setPost 4 rfl) rfl ?_
  refine mm_iast C (mm_dec dk_X2_setPost 5 rfl) rfl (by omega) (by omega) ?_
  have i1 : mm_inv (mm_pa h 15 (h.1 14 7) p1) := mm_inv_pa i0 (show 0 ≤ p1 ∧ p1 ≤ 399 from ⟨by omega, by omega⟩)
  have f1 : mm_fr [(14, 7)] [15, 16] h (mm_pa h 15 (h.1 14 7) p1) := mm_fr_pa f0 (by decide)
  obtain ⟨h1, eh1⟩ : ∃ z, z = mm_pa h 15 (h.1 14 7) p1 := ⟨_, rfl⟩
  rw [← eh1] at i1 f1 ⊢
  have qh1_2 : h1.1 14 7 = h.1 14 7 := by rw [eh1]; rfl
  refine mm_aload_n C (mm_dec dk_X2_setPost 6 rfl) rfl ?_
  refine mm_getr (t := 16) C fl_X2_15 (mm_dec dk_X2_setPost 7 rfl) rfl rfl (mm_ref i1 rfl) ?_
  refine mm_aload_n C (mm_dec dk_X2_setPost 8 rfl) rfl ?_
  refine mm_geti C fl_X2_34 (mm_dec dk_X2_setPost 9 rfl) rfl rfl (Or.inl rfl) ?_
  refine mm_iload_n C (mm_dec dk_X2_setPost 10 rfl) rfl ?_
  refine mm_iast C (mm_dec dk_X2_setPost 11 rfl) rfl (by omega) (by omega) ?_
  have i2 : mm_inv (mm_pa h1 16 (h1.1 14 7) p2) := mm_inv_pa i1 (show 0 ≤ p2 ∧ p2 ≤ 99 from ⟨by omega, by omega⟩)
  have f2 : mm_fr [(14, 7)] [15, 16] h (mm_pa h1 16 (h1.1 14 7) p2) := mm_fr_pa f1 (by decide)
  obtain ⟨h2, eh2⟩ : ∃ z, z = mm_pa h1 16 (h1.1 14 7) p2 := ⟨_, rfl⟩
  rw [← eh2] at i2 f2 ⊢
  have qh2_3 : h2.1 14 7 = h1.1 14 7 := by rw [eh2]; rfl
  refine mm_aload_n C (mm_dec dk_X2_setPost 12 rfl) rfl ?_
  refine mm_dup C (mm_dec dk_X2_setPost 13 rfl) (show (2 : Nat) ≠ 1 by decide) ?_
  refine mm_geti C fl_X2_34 (mm_dec dk_X2_setPost 14 rfl) rfl rfl (Or.inl rfl) ?_
  refine mm_iconst C (mm_dec dk_X2_setPost 15 rfl) ⟨by decide, by decide⟩ ?_
  refine mm_iadd C (mm_dec dk_X2_setPost 16 rfl) ⟨by omega, by omega⟩ ?_
  refine mm_puti C fl_X2_34 (mm_dec dk_X2_setPost 17 rfl) rfl rfl rfl (Or.inl ⟨rfl, rfl⟩) ?_
  have i3 : mm_inv (mm_pf h2 14 7 ((h2.1 14 7) + 1)) := mm_inv_pf i2 (show 0 ≤ ((h2.1 14 7) + 1) ∧ ((h2.1 14 7) + 1) ≤ 20 from ⟨by omega, by omega⟩) (by decide)
  have f3 : mm_fr [(14, 7)] [15, 16] h (mm_pf h2 14 7 ((h2.1 14 7) + 1)) := mm_fr_pf f2 (by decide)
  obtain ⟨h3, eh3⟩ : ∃ z, z = mm_pf h2 14 7 ((h2.1 14 7) + 1) := ⟨_, rfl⟩
  rw [← eh3] at i3 f3 ⊢
  have qh3 : h3.1 14 7 = ((h2.1 14 7) + 1) := by rw [eh3]; exact mm_pf_same _ _ _ _
  refine mm_aload_n C (mm_dec dk_X2_setPost 18 rfl) rfl ?_
  refine mm_geti C fl_X2_34 (mm_dec dk_X2_setPost 19 rfl) rfl rfl (Or.inl rfl) ?_
  refine mm_iconst C (mm_dec dk_X2_setPost 20 rfl) ⟨by decide, by decide⟩ ?_
  refine mm_isub C (mm_dec dk_X2_setPost 21 rfl) ⟨by omega, by omega⟩ ?_
  exact mm_iret C T (mm_dec dk_X2_setPost 22 rfl) (by decide : 0 ≤ 0) (by decide : 0 ≤ 0) ⟨_, rfl, ⟨⟨by omega, by omega⟩, i3, f3, by omega, by omega, by exact mm_up_pa (fun _ => rfl) eh1 (fun _ => ((mm_sm_pf 15 eh3 _).trans (mm_sm_pa 15 eh2 (by decide) _))) rfl rfl, by exact mm_up_pav (fun _ => (mm_sm_pa 16 eh1 (by decide) _)) eh2 (fun _ => (mm_sm_pf 16 eh3 _)) (by omega) (by omega) rfl⟩⟩
set_option maxRecDepth 100000 in
set_option maxHeartbeats 4000000 in
theorem c_X11_post_q (l : Launch) (hl : l.stackTraces = false) (d : Nat) (hd : 9 ≤ d) (h : mH) (i0 : mm_inv h) (p1 : Int) (p2 : Int) (p3 : Int) : mm_Met l d yX11_post cX11_post 5 (some .int) [mR 0, mI p1, mI p2, mI p3] h (mm_pi fun r h2 => (-1 ≤ r ∧ r ≤ 19) ∧ mm_inv h2 ∧ mm_fr [(14, 7)] [15, 16] h h2 ∧ (0 ≤ p1 ∧ p1 < h.1 1 5 ∧ 0 ≤ p2 ∧ p2 < h.1 1 6) ∧ ((r = h.1 14 7 ∧ (h.1 14 7 ≤ 19 ∧ 0 ≤ p3 ∧ p3 ≤ 99 ∧ 0 < h.2.1 6 (h.2.1 2 (20 * p2 + p1))) ∧ h2.1 14 7 = h.1 14 7 + 1) ∨ (r = -1 ∧ (20 ≤ h.1 14 7 ∨ p3 < 0 ∨ 99 < p3 ∨ h.2.1 6 (h.2.1 2 (20 * p2 + p1)) ≤ 0) ∧ h2.1 14 7 = h.1 14 7)) ∧ (∃ f : Int, ((r = -1 ∧ f = 0) ∨ (r ≠ -1 ∧ f = 1)) ∧ mm_up h h2 15 (h.1 14 7) (20 * p2 + p1) f ∧ mm_up h h2 16 (h.1 14 7) p3 f)) (fun E h' => mm_xn h E h' ∧ (p1 < 0 ∨ h.1 1 5 ≤ p1 ∨ p2 < 0 ∨ h.1 1 6 ≤ p2)) 1 6 := by
  refine mm_ofW (ls := [mR 0, mI p1, mI p2, mI p3, mU]) hl (by decide) rfl (Nat.le_of_ble_eq_true rfl) ?_
  intro x hxl C T hnm htb
  subst hxl
  have C1 := mm_OK_le (d' := d - 1 + 1) (by omega) C
  have C8 := mm_OK_le (d' := d - 8 + 8) (by omega) C
  refine mm_rng (fun hr _ => ?_)
  have ap1 : -2147483648 ≤ p1 ∧ p1 < 2147483648 := mm_ok_at hr (i := 1) rfl
  have ap2 : -2147483648 ≤ p2 ∧ p2 < 2147483648 := mm_ok_at hr (i := 2) rfl
  have ap3 : -2147483648 ≤ p3 ∧ p3 < 2147483648 := mm_ok_at hr (i := 3) rfl
  have f0 : mm_fr [(14, 7)] [15, 16] h h := mm_fr_rf
  have g1 : 0 ≤ h.1 14 7 ∧ h.1 14 7 ≤ 20 := i0.1 14 7
  refine mm_aload_n C (mm_dec dk_X11_post 0 rfl) rfl ?_
  refine mm_iload_n C (mm_dec dk_X11_post 1 rfl) rfl ?_
  refine mm_iload_n C (mm_dec dk_X11_post 2 rfl) rfl ?_
  refine mm_cVi (rest := []) C1 ev_X11_122 (mm_dec dk_X11_post 3 rfl) (c_X11_needCell_q x.2.1 hl (d - 1) (by omega) h i0 p1 p2) rfl rfl (Nat.le_of_ble_eq_true rfl) ⟨by decide, by decide⟩ rfl (fun r3 h3c hp3 => ?_) (fun E hx q => mm_out C T htb (by decide) (by decide) (by obtain ⟨q1, q2⟩ := q; exact ⟨q1, by omega⟩))
  obtain ⟨z3, k3_0, k3_1, k3_2, k3_3, k3_4, y3⟩ := hp3
  rw [z3, y3]
  have g3 : 1 ≤ (h.1 1 5) ∧ (h.1 1 5) ≤ 20 := i0.1 1 5
  have g4 : 1 ≤ (h.1 1 6) ∧ (h.1 1 6) ≤ 20 := i0.1 1 6
  refine mm_istoreL (ls2 := [mR 0, mI p1, mI p2, mI p3, mI ((p2 * 20) + p1)]) C (mm_dec dk_X11_post 4 rfl) (by decide) rfl ?_
  have zc : p2 * 20 + p1 = 20 * p2 + p1 := by omega
  refine mm_aload_n C (mm_dec dk_X11_post 5 rfl) rfl ?_
  refine mm_getr (t := 14) C fl_X11_28 (mm_dec dk_X11_post 6 rfl) rfl rfl (mm_ref i0 rfl) ?_
  refine mm_cVi (rest := []) C1 ev_X11_191 (mm_dec dk_X11_post 7 rfl) (c_X2_posts x.2.1 hl (d - 1) (by omega) h i0 ) rfl rfl (Nat.le_of_ble_eq_true rfl) ⟨by decide, by decide⟩ rfl (fun r12 h12c hp12 => ?_) (fun _ _ q => q.elim)
  obtain ⟨z12, y12⟩ := hp12
  rw [z12, y12]
  refine mm_bipush C (mm_dec dk_X11_post 8 rfl) ⟨by decide, by decide⟩ ?_
  have J42 : ∀ (w42_0 : (0 ≤ p1 ∧ p1 < h.1 1 5 ∧ 0 ≤ p2 ∧ p2 < h.1 1 6)) (w42_1 : (20 ≤ h.1 14 7 ∨ p3 < 0 ∨ 99 < p3 ∨ h.2.1 6 (h.2.1 2 (20 * p2 + p1)) ≤ 0)), mm_W x 1 6 42 [mU, mU, mU, mU, mU] [] h := by
    intro w42_0 w42_1
    have g6 : 0 ≤ h.1 14 7 ∧ h.1 14 7 ≤ 20 := i0.1 14 7
    refine mm_iconst C (mm_dec dk_X11_post 20 rfl) ⟨by decide, by decide⟩ ?_
    exact mm_iret C T (mm_dec dk_X11_post 21 rfl) (by decide : 1 ≤ 1) (by decide : 6 ≤ 6) ⟨_, rfl, ⟨⟨by omega, by omega⟩, i0, f0, by omega, by omega, by first | exact ⟨0, Or.inl ⟨rfl, rfl⟩, mm_up_no (by decide) (fun _ => rfl), mm_up_no (by decide) (fun _ => rfl)⟩ | exact ⟨1, Or.inr ⟨by omega, rfl⟩, by rw [← zc]; exact y51_2, y51_3⟩⟩⟩
  refine mm_icmp_ge (tgt := 42) C (mm_dec dk_X11_post 9 rfl) (by decide) (fun c17 => ?_) (fun c17 => ?_)
  · skip
    refine mm_fgt 0 ?_
    refine mm_fgt 1 ?_
    refine mm_fgt 2 ?_
    refine mm_fgt 3 ?_
    refine mm_fgt 4 ?_
    exact J42 (by omega) (by omega)
  · skip
    refine mm_iload_n C (mm_dec dk_X11_post 10 rfl) rfl ?_
    refine mm_iconst C (mm_dec dk_X11_post 11 rfl) ⟨by decide, by decide⟩ ?_
    refine mm_bipush C (mm_dec dk_X11_post 12 rfl) ⟨by decide, by decide⟩ ?_
    refine mm_cSi (rest := []) C1 es_X11_130 (mm_dec dk_X11_post 13 rfl) (c_X11_within x.2.1 hl (d - 1) (by omega) h i0 p3 0 99) rfl (Nat.le_of_ble_eq_true rfl) ⟨by decide, by decide⟩ rfl (fun r24 h24c hp24 => ?_) (fun _ _ q => q.elim)
    obtain ⟨z24, y24⟩ := hp24
    rw [z24]
    refine mm_if_eq (tgt := 42) C (mm_dec dk_X11_post 14 rfl) (by decide) (fun c27 => ?_) (fun c27 => ?_)
    · skip
      refine mm_fgt 0 ?_
      refine mm_fgt 1 ?_
      refine mm_fgt 2 ?_
      refine mm_fgt 3 ?_
      refine mm_fgt 4 ?_
      exact J42 (by omega) (by omega)
    · skip
      refine mm_aload_n C (mm_dec dk_X11_post 15 rfl) rfl ?_
      refine mm_getr (t := 1) C fl_X11_12 (mm_dec dk_X11_post 16 rfl) rfl rfl (mm_ref i0 rfl) ?_
      refine mm_iload C (mm_dec dk_X11_post 17 rfl) rfl ?_
      refine mm_cVi (rest := []) C1 ev_X11_194 (mm_dec dk_X11_post 18 rfl) (c_X5_canEnter x.2.1 hl (d - 1) (by omega) h i0 ((p2 * 20) + p1) ⟨by omega, by omega⟩) rfl rfl (Nat.le_of_ble_eq_true rfl) ⟨by decide, by decide⟩ rfl (fun r36 h36c hp36 => ?_) (fun _ _ q => q.elim)
      obtain ⟨z36, y36⟩ := hp36
      rw [z36]
      have g9 : 0 ≤ (h.2.1 6 (h.2.1 2 ((p2 * 20) + p1))) ∧ (h.2.1 6 (h.2.1 2 ((p2 * 20) + p1))) ≤ 99 := i0.2.1 6 (h.2.1 2 ((p2 * 20) + p1))
      have g10 : 0 ≤ (h.2.1 2 ((p2 * 20) + p1)) ∧ (h.2.1 2 ((p2 * 20) + p1)) ≤ 7 := i0.2.1 2 ((p2 * 20) + p1)
      have zd : h.2.1 2 (p2 * 20 + p1) = h.2.1 2 (20 * p2 + p1) := by rw [zc]
      have ze : h.2.1 6 (h.2.1 2 (p2 * 20 + p1)) = h.2.1 6 (h.2.1 2 (20 * p2 + p1)) := by rw [zc]
      refine mm_if_ne (tgt := 44) C (mm_dec dk_X11_post 19 rfl) (by decide) (fun c39 => ?_) (fun c39 => ?_)
      · skip
        refine mm_aload_n C (mm_dec dk_X11_post 22 rfl) rfl ?_
        refine mm_getr (t := 14) C fl_X11_28 (mm_dec dk_X11_post 23 rfl) rfl rfl (mm_ref i0 rfl) ?_
        refine mm_iload C (mm_dec dk_X11_post 24 rfl) rfl ?_
        refine mm_iload_n C (mm_dec dk_X11_post 25 rfl) rfl ?_
        refine mm_cVi (rest := []) C1 ev_X11_197 (mm_dec dk_X11_post 26 rfl) (c_X2_setPost_q x.2.1 hl (d - 1) (by omega) h i0 ((p2 * 20) + p1) p3 ⟨by omega, by omega⟩ ⟨by omega, by omega⟩ (by omega)) rfl rfl (Nat.le_of_ble_eq_true rfl) ⟨by decide, by decide⟩ rfl (fun r51 h51c hp51 => ?_) (fun _ _ q => q.elim)
        obtain ⟨b51, i51c, g51c, y51_0, y51_1, y51_2, y51_3⟩ := hp51
        have f51c : mm_fr [(14, 7)] [15, 16] h h51c := mm_fr_tr f0 g51c (by decide +kernel)
        have q51c_12 : h51c.1 1 5 = h.1 1 5 := g51c.1 1 5 (by decide)
        have q51c_13 : h51c.1 1 6 = h.1 1 6 := g51c.1 1 6 (by decide)
        have g14 : 0 ≤ (h51c.1 14 7) ∧ (h51c.1 14 7) ≤ 20 := i51c.1 14 7
        exact mm_iret C T (mm_dec dk_X11_post 27 rfl) (by decide : 1 ≤ 1) (by decide : 6 ≤ 6) ⟨_, rfl, ⟨⟨by omega, by omega⟩, i51c, f51c, by omega, by omega, by first | exact ⟨0, Or.inl ⟨rfl, rfl⟩, mm_up_no (by decide) (fun _ => rfl), mm_up_no (by decide) (fun _ => rfl)⟩ | exact ⟨1, Or.inr ⟨by omega, rfl⟩, by rw [← zc]; exact y51_2, y51_3⟩⟩⟩
      · skip
        refine mm_fgt 0 ?_
        refine mm_fgt 1 ?_
        refine mm_fgt 2 ?_
        refine mm_fgt 3 ?_
        refine mm_fgt 4 ?_
        exact J42 (by omega) (by omega)
set_option maxRecDepth 100000 in
set_option maxHeartbeats 4000000 in
theorem c_X5_shape_q (l : Launch) (hl : l.stackTraces = false) (d : Nat) (hd : 0 ≤ d) (h : mH) (i0 : mm_inv h) (p1 : Int) (p2 : Int) (p3 : Int) (bp1 : 0 ≤ p1 ∧ p1 ≤ 399) (bp2 : 0 ≤ p2 ∧ p2 ≤ 7) (bp3 : 0 ≤ p3 ∧ p3 ≤ 99) : mm_Met l d yX5_shape cX5_shape 4 none [mR 1, mI p1, mI p2, mI p3] h (mm_pv fun h2 => mm_inv h2 ∧ mm_fr [] [2, 3] h h2 ∧ mm_up h h2 2 p1 p2 1 ∧ mm_up h h2 3 p1 p3 1) mm_nx 0 0 := by
  refine mm_ofW (ls := [mR 1, mI p1, mI p2, mI p3]) hl (by decide) rfl (Nat.le_of_ble_eq_true rfl) ?_
  intro x hxl C T hnm htb
  subst hxl
  refine mm_rng (fun hr _ => ?_)
  have ap1 : -2147483648 ≤ p1 ∧ p1 < 2147483648 := mm_ok_at hr (i := 1) rfl
  have ap2 : -2147483648 ≤ p2 ∧ p2 < 2147483648 := mm_ok_at hr (i := 2) rfl
  have ap3 : -2147483648 ≤ p3 ∧ p3 < 2147483648 := mm_ok_at hr (i := 3) rfl
  have f0 : mm_fr [] [2, 3] h h := mm_fr_rf
  refine mm_aload_n C (mm_dec dk_X5_shape 0 rfl) rfl ?_
  refine mm_getr (t := 2) C fl_X5_9 (mm_dec dk_X5_shape 1 rfl) rfl rfl (mm_ref i0 rfl) ?_
  refine mm_iload_n C (mm_dec dk_X5_shape 2 rfl) rfl ?_
  refine mm_iload_n C (mm_dec dk_X5_shape 3 rfl) rfl ?_
  refine mm_iast C (mm_dec dk_X5_shape 4 rfl) rfl (by omega) (by omega) ?_
  have i1 : mm_inv (mm_pa h 2 p1 p2) := mm_inv_pa i0 (show 0 ≤ p2 ∧ p2 ≤ 7 from ⟨by omega, by omega⟩)
  have f1 : mm_fr [] [2, 3] h (mm_pa h 2 p1 p2) := mm_fr_pa f0 (by decide)
  obtain ⟨h1, eh1⟩ : ∃ z, z = mm_pa h 2 p1 p2 := ⟨_, rfl⟩
  rw [← eh1] at i1 f1 ⊢
  refine mm_aload_n C (mm_dec dk_X5_shape 5 rfl) rfl ?_
  refine mm_getr (t := 3) C fl_X5_15 (mm_dec dk_X5_shape 6 rfl) rfl rfl (mm_ref i1 rfl) ?_
  refine mm_iload_n C (mm_dec dk_X5_shape 7 rfl) rfl ?_
  refine mm_iload_n C (mm_dec dk_X5_shape 8 rfl) rfl ?_
  refine mm_iast C (mm_dec dk_X5_shape 9 rfl) rfl (by omega) (by omega) ?_
  have i2 : mm_inv (mm_pa h1 3 p1 p3) := mm_inv_pa i1 (show 0 ≤ p3 ∧ p3 ≤ 99 from ⟨by omega, by omega⟩)
  have f2 : mm_fr [] [2, 3] h (mm_pa h1 3 p1 p3) := mm_fr_pa f1 (by decide)
  obtain ⟨h2, eh2⟩ : ∃ z, z = mm_pa h1 3 p1 p3 := ⟨_, rfl⟩
  rw [← eh2] at i2 f2 ⊢
  exact mm_vret C T (mm_dec dk_X5_shape 10 rfl) (by decide : 0 ≤ 0) (by decide : 0 ≤ 0) ⟨rfl, ⟨i2, f2, by exact mm_up_pa (fun _ => rfl) eh1 (fun _ => (mm_sm_pa 2 eh2 (by decide) _)) rfl rfl, by exact mm_up_pav (fun _ => (mm_sm_pa 3 eh1 (by decide) _)) eh2 (fun _ => rfl) (by omega) (by omega) rfl⟩⟩
set_option maxRecDepth 100000 in
set_option maxHeartbeats 4000000 in
theorem c_X5_price_q (l : Launch) (hl : l.stackTraces = false) (d : Nat) (hd : 0 ≤ d) (h : mH) (i0 : mm_inv h) (p1 : Int) (p2 : Int) (bp1 : 0 ≤ p1 ∧ p1 ≤ 8) (bp2 : 0 ≤ p2 ∧ p2 ≤ 99) : mm_Met l d yX5_price cX5_price 3 none [mR 1, mI p1, mI p2] h (mm_pv fun h2 => mm_inv h2 ∧ mm_fr [] [6] h h2 ∧ mm_up h h2 6 p1 p2 1) mm_nx 0 0 := by
  refine mm_ofW (ls := [mR 1, mI p1, mI p2]) hl (by decide) rfl (Nat.le_of_ble_eq_true rfl) ?_
  intro x hxl C T hnm htb
  subst hxl
  refine mm_rng (fun hr _ => ?_)
  have ap1 : -2147483648 ≤ p1 ∧ p1 < 2147483648 := mm_ok_at hr (i := 1) rfl
  have ap2 : -2147483648 ≤ p2 ∧ p2 < 2147483648 := mm_ok_at hr (i := 2) rfl
  have f0 : mm_fr [] [6] h h := mm_fr_rf
  refine mm_aload_n C (mm_dec dk_X5_price 0 rfl) rfl ?_
  refine mm_getr (t := 6) C fl_X5_25 (mm_dec dk_X5_price 1 rfl) rfl rfl (mm_ref i0 rfl) ?_
  refine mm_iload_n C (mm_dec dk_X5_price 2 rfl) rfl ?_
  refine mm_iload_n C (mm_dec dk_X5_price 3 rfl) rfl ?_
  refine mm_iast C (mm_dec dk_X5_price 4 rfl) rfl (by omega) (by omega) ?_
  have i1 : mm_inv (mm_pa h 6 p1 p2) := mm_inv_pa i0 (show 0 ≤ p2 ∧ p2 ≤ 99 from ⟨by omega, by omega⟩)
  have f1 : mm_fr [] [6] h (mm_pa h 6 p1 p2) := mm_fr_pa f0 (by decide)
  obtain ⟨h1, eh1⟩ : ∃ z, z = mm_pa h 6 p1 p2 := ⟨_, rfl⟩
  rw [← eh1] at i1 f1 ⊢
  exact mm_vret C T (mm_dec dk_X5_price 5 rfl) (by decide : 0 ≤ 0) (by decide : 0 ≤ 0) ⟨rfl, ⟨i1, f1, by exact mm_up_pa (fun _ => rfl) eh1 (fun _ => rfl) rfl rfl⟩⟩
set_option maxRecDepth 100000 in
set_option maxHeartbeats 4000000 in
theorem c_X11_cell_q (l : Launch) (hl : l.stackTraces = false) (d : Nat) (hd : 9 ≤ d) (h : mH) (i0 : mm_inv h) (p1 : Int) (p2 : Int) (p3 : Int) (p4 : Int) : mm_Met l d yX11_cell cX11_cell 6 (some .boolean) [mR 0, mI p1, mI p2, mI p3, mI p4] h (mm_pi fun r h2 => (0 ≤ r ∧ r ≤ 1) ∧ mm_inv h2 ∧ mm_fr [] [2, 3] h h2 ∧ (0 ≤ p1 ∧ p1 < h.1 1 5 ∧ 0 ≤ p2 ∧ p2 < h.1 1 6) ∧ ((r = 1 ∧ (h.1 22 8 ≤ 0 ∧ 0 ≤ p3 ∧ p3 ≤ 7 ∧ 0 ≤ p4 ∧ p4 ≤ 99 ∧ (h.2.1 6 p3 ≠ 0 ∨ mm_fd (h.2.1 15) (20 * p2 + p1) (h.1 14 7).toNat = 0))) ∨ (r = 0 ∧ ((0 < h.1 22 8 ∨ p3 < 0 ∨ 7 < p3 ∨ p4 < 0 ∨ 99 < p4) ∨ (h.2.1 6 p3 = 0 ∧ mm_fd (h.2.1 15) (20 * p2 + p1) (h.1 14 7).toNat = 1)))) ∧ mm_up h h2 2 (20 * p2 + p1) p3 r ∧ mm_up h h2 3 (20 * p2 + p1) p4 r) (fun E h' => mm_xn h E h' ∧ (p1 < 0 ∨ h.1 1 5 ≤ p1 ∨ p2 < 0 ∨ h.1 1 6 ≤ p2)) 1 6 := by
  refine mm_ofW (ls := [mR 0, mI p1, mI p2, mI p3, mI p4, mU]) hl (by decide) rfl (Nat.le_of_ble_eq_true rfl) ?_
  intro x hxl C T hnm htb
  subst hxl
  have C1 := mm_OK_le (d' := d - 1 + 1) (by omega) C
  have C8 := mm_OK_le (d' := d - 8 + 8) (by omega) C
  refine mm_rng (fun hr _ => ?_)
  have ap1 : -2147483648 ≤ p1 ∧ p1 < 2147483648 := mm_ok_at hr (i := 1) rfl
  have ap2 : -2147483648 ≤ p2 ∧ p2 < 2147483648 := mm_ok_at hr (i := 2) rfl
  have ap3 : -2147483648 ≤ p3 ∧ p3 < 2147483648 := mm_ok_at hr (i := 3) rfl
  have ap4 : -2147483648 ≤ p4 ∧ p4 < 2147483648 := mm_ok_at hr (i := 4) rfl
  have f0 : mm_fr [] [2, 3] h h := mm_fr_rf
  refine mm_aload_n C (mm_dec dk_X11_cell 0 rfl) rfl ?_
  refine mm_iload_n C (mm_dec dk_X11_cell 1 rfl) rfl ?_
  refine mm_iload_n C (mm_dec dk_X11_cell 2 rfl) rfl ?_
  refine mm_cVi (rest := []) C1 ev_X11_122 (mm_dec dk_X11_cell 3 rfl) (c_X11_needCell_q x.2.1 hl (d - 1) (by omega) h i0 p1 p2) rfl rfl (Nat.le_of_ble_eq_true rfl) ⟨by decide, by decide⟩ rfl (fun r3 h3c hp3 => ?_) (fun E hx q => mm_out C T htb (by decide) (by decide) (by obtain ⟨q1, q2⟩ := q; exact ⟨q1, by omega⟩))
  obtain ⟨z3, k3_0, k3_1, k3_2, k3_3, k3_4, y3⟩ := hp3
  rw [z3, y3]
  have g2 : 1 ≤ (h.1 1 5) ∧ (h.1 1 5) ≤ 20 := i0.1 1 5
  have g3 : 1 ≤ (h.1 1 6) ∧ (h.1 1 6) ≤ 20 := i0.1 1 6
  refine mm_istoreL (ls2 := [mR 0, mI p1, mI p2, mI p3, mI p4, mI ((p2 * 20) + p1)]) C (mm_dec dk_X11_cell 4 rfl) (by decide) rfl ?_
  have zc : p2 * 20 + p1 = 20 * p2 + p1 := by omega
  refine mm_aload_n C (mm_dec dk_X11_cell 5 rfl) rfl ?_
  refine mm_cVi (rest := []) C1 ev_X11_126 (mm_dec dk_X11_cell 6 rfl) (c_X11_landIsFixed x.2.1 hl (d - 1) (by omega) h i0 ) rfl rfl (Nat.le_of_ble_eq_true rfl) ⟨by decide, by decide⟩ rfl (fun r9 h9c hp9 => ?_) (fun _ _ q => q.elim)
  obtain ⟨z9, y9⟩ := hp9
  rw [z9]
  have g5 : 0 ≤ (h.1 22 8) ∧ (h.1 22 8) ≤ 40 := i0.1 22 8
  have J36 : ∀ (w36_0 : (0 ≤ p1 ∧ p1 < h.1 1 5 ∧ 0 ≤ p2 ∧ p2 < h.1 1 6)) (w36_1 : (0 < h.1 22 8 ∨ p3 < 0 ∨ 7 < p3 ∨ p4 < 0 ∨ 99 < p4)), mm_W x 1 6 36 [mU, mU, mU, mU, mU, mU] [] h := by
    intro w36_0 w36_1
    refine mm_iconst C (mm_dec dk_X11_cell 18 rfl) ⟨by decide, by decide⟩ ?_
    exact mm_zret C T (mm_dec dk_X11_cell 19 rfl) (by decide : 1 ≤ 1) (by decide : 6 ≤ 6) (by omega) ⟨_, rfl, ⟨⟨by omega, by omega⟩, i0, f0, by omega, by omega, by first | exact mm_up_no (by decide) (fun _ => rfl) | (rw [← zc]; exact y72_0), by first | exact mm_up_no (by decide) (fun _ => rfl) | (rw [← zc]; exact y72_1)⟩⟩
  refine mm_if_ne (tgt := 36) C (mm_dec dk_X11_cell 7 rfl) (by decide) (fun c12 => ?_) (fun c12 => ?_)
  · skip
    refine mm_fgt 0 ?_
    refine mm_fgt 1 ?_
    refine mm_fgt 2 ?_
    refine mm_fgt 3 ?_
    refine mm_fgt 4 ?_
    refine mm_fgt 5 ?_
    exact J36 (by omega) (by omega)
  · skip
    refine mm_iload_n C (mm_dec dk_X11_cell 8 rfl) rfl ?_
    refine mm_iconst C (mm_dec dk_X11_cell 9 rfl) ⟨by decide, by decide⟩ ?_
    refine mm_bipush C (mm_dec dk_X11_cell 10 rfl) ⟨by decide, by decide⟩ ?_
    refine mm_cSi (rest := []) C1 es_X11_130 (mm_dec dk_X11_cell 11 rfl) (c_X11_within x.2.1 hl (d - 1) (by omega) h i0 p3 0 7) rfl (Nat.le_of_ble_eq_true rfl) ⟨by decide, by decide⟩ rfl (fun r19 h19c hp19 => ?_) (fun _ _ q => q.elim)
    obtain ⟨z19, y19⟩ := hp19
    rw [z19]
    refine mm_if_eq (tgt := 36) C (mm_dec dk_X11_cell 12 rfl) (by decide) (fun c22 => ?_) (fun c22 => ?_)
    · skip
      refine mm_fgt 0 ?_
      refine mm_fgt 1 ?_
      refine mm_fgt 2 ?_
      refine mm_fgt 3 ?_
      refine mm_fgt 4 ?_
      refine mm_fgt 5 ?_
      exact J36 (by omega) (by omega)
    · skip
      refine mm_iload C (mm_dec dk_X11_cell 13 rfl) rfl ?_
      refine mm_iconst C (mm_dec dk_X11_cell 14 rfl) ⟨by decide, by decide⟩ ?_
      refine mm_bipush C (mm_dec dk_X11_cell 15 rfl) ⟨by decide, by decide⟩ ?_
      refine mm_cSi (rest := []) C1 es_X11_130 (mm_dec dk_X11_cell 16 rfl) (c_X11_within x.2.1 hl (d - 1) (by omega) h i0 p4 0 99) rfl (Nat.le_of_ble_eq_true rfl) ⟨by decide, by decide⟩ rfl (fun r30 h30c hp30 => ?_) (fun _ _ q => q.elim)
      obtain ⟨z30, y30⟩ := hp30
      rw [z30]
      refine mm_if_ne (tgt := 38) C (mm_dec dk_X11_cell 17 rfl) (by decide) (fun c33 => ?_) (fun c33 => ?_)
      · skip
        refine mm_aload_n C (mm_dec dk_X11_cell 20 rfl) rfl ?_
        refine mm_getr (t := 1) C fl_X11_12 (mm_dec dk_X11_cell 21 rfl) rfl rfl (mm_ref i0 rfl) ?_
        refine mm_iload_n C (mm_dec dk_X11_cell 22 rfl) rfl ?_
        refine mm_cVi (rest := []) C1 ev_X11_134 (mm_dec dk_X11_cell 23 rfl) (c_X5_letsIn x.2.1 hl (d - 1) (by omega) h i0 p3 ⟨by omega, by omega⟩) rfl rfl (Nat.le_of_ble_eq_true rfl) ⟨by decide, by decide⟩ rfl (fun r43 h43c hp43 => ?_) (fun _ _ q => q.elim)
        obtain ⟨z43, y43⟩ := hp43
        rw [z43]
        have g9 : 0 ≤ (h.2.1 6 p3) ∧ (h.2.1 6 p3) ≤ 99 := i0.2.1 6 p3
        have J63 : ∀ (w63_0 : (0 ≤ p1 ∧ p1 < h.1 1 5 ∧ 0 ≤ p2 ∧ p2 < h.1 1 6)) (w63_1 : (h.1 22 8 ≤ 0 ∧ 0 ≤ p3 ∧ p3 ≤ 7 ∧ 0 ≤ p4 ∧ p4 ≤ 99 ∧ (h.2.1 6 p3 ≠ 0 ∨ mm_fd (h.2.1 15) (20 * p2 + p1) (h.1 14 7).toNat = 0))), mm_W x 1 6 63 [mR 0, mU, mU, mI p3, mI p4, mI ((p2 * 20) + p1)] [] h := by
          intro w63_0 w63_1
          refine mm_aload_n C (mm_dec dk_X11_cell 32 rfl) rfl ?_
          refine mm_getr (t := 1) C fl_X11_12 (mm_dec dk_X11_cell 33 rfl) rfl rfl (mm_ref i0 rfl) ?_
          refine mm_iload C (mm_dec dk_X11_cell 34 rfl) rfl ?_
          refine mm_iload_n C (mm_dec dk_X11_cell 35 rfl) rfl ?_
          refine mm_iload C (mm_dec dk_X11_cell 36 rfl) rfl ?_
          refine mm_cVv (rest := []) C1 ev_X11_141 (mm_dec dk_X11_cell 37 rfl) (c_X5_shape_q x.2.1 hl (d - 1) (by omega) h i0 ((p2 * 20) + p1) p3 p4 ⟨by omega, by omega⟩ ⟨by omega, by omega⟩ ⟨by omega, by omega⟩) rfl rfl (Nat.le_of_ble_eq_true rfl) ⟨by decide, by decide⟩ rfl (fun h72c hp72 => ?_) (fun _ _ q => q.elim)
          obtain ⟨i72c, g72c, y72_0, y72_1⟩ := hp72
          have f72c : mm_fr [] [2, 3] h h72c := mm_fr_tr f0 g72c (by decide +kernel)
          have q72c_11 : h72c.1 1 5 = h.1 1 5 := g72c.1 1 5 (by decide)
          have q72c_12 : h72c.1 1 6 = h.1 1 6 := g72c.1 1 6 (by decide)
          have q72c_13 : h72c.1 22 8 = h.1 22 8 := g72c.1 22 8 (by decide)
          refine mm_iconst C (mm_dec dk_X11_cell 38 rfl) ⟨by decide, by decide⟩ ?_
          exact mm_zret C T (mm_dec dk_X11_cell 39 rfl) (by decide : 1 ≤ 1) (by decide : 6 ≤ 6) (by omega) ⟨_, rfl, ⟨⟨by omega, by omega⟩, i72c, f72c, by omega, by omega, by first | exact mm_up_no (by decide) (fun _ => rfl) | (rw [← zc]; exact y72_0), by first | exact mm_up_no (by decide) (fun _ => rfl) | (rw [← zc]; exact y72_1)⟩⟩
        refine mm_if_ne (tgt := 63) C (mm_dec dk_X11_cell 24 rfl) (by decide) (fun c46 => ?_) (fun c46 => ?_)
        · skip
          refine mm_fgt 1 ?_
          refine mm_fgt 2 ?_
          exact J63 (by omega) (by omega)
        · skip
          refine mm_aload_n C (mm_dec dk_X11_cell 25 rfl) rfl ?_
          refine mm_getr (t := 14) C fl_X11_28 (mm_dec dk_X11_cell 26 rfl) rfl rfl (mm_ref i0 rfl) ?_
          refine mm_iload C (mm_dec dk_X11_cell 27 rfl) rfl ?_
          refine mm_cVi (rest := []) C1 ev_X11_138 (mm_dec dk_X11_cell 28 rfl) (c_X2_postStandsAt_q x.2.1 hl (d - 1) (by omega) h i0 ((p2 * 20) + p1) ⟨by omega, by omega⟩) rfl rfl (Nat.le_of_ble_eq_true rfl) ⟨by decide, by decide⟩ rfl (fun r55 h55c hp55 => ?_) (fun _ _ q => q.elim)
          obtain ⟨b55, z55, y55_0⟩ := hp55
          rw [z55]
          have zf : mm_fd (h.2.1 15) (p2 * 20 + p1) (h.1 14 7).toNat = mm_fd (h.2.1 15) (20 * p2 + p1) (h.1 14 7).toNat := by rw [zc]
          refine mm_if_eq (tgt := 63) C (mm_dec dk_X11_cell 29 rfl) (by decide) (fun c58 => ?_) (fun c58 => ?_)
          · skip
            refine mm_fgt 1 ?_
            refine mm_fgt 2 ?_
            exact J63 (by omega) (by omega)
          · skip
            refine mm_iconst C (mm_dec dk_X11_cell 30 rfl) ⟨by decide, by decide⟩ ?_
            exact mm_zret C T (mm_dec dk_X11_cell 31 rfl) (by decide : 1 ≤ 1) (by decide : 6 ≤ 6) (by omega) ⟨_, rfl, ⟨⟨by omega, by omega⟩, i0, f0, by omega, by omega, by first | exact mm_up_no (by decide) (fun _ => rfl) | (rw [← zc]; exact y72_0), by first | exact mm_up_no (by decide) (fun _ => rfl) | (rw [← zc]; exact y72_1)⟩⟩
      · skip
        refine mm_fgt 0 ?_
        refine mm_fgt 1 ?_
        refine mm_fgt 2 ?_
        refine mm_fgt 3 ?_
        refine mm_fgt 4 ?_
        refine mm_fgt 5 ?_
        exact J36 (by omega) (by omega)
set_option maxRecDepth 100000 in
set_option maxHeartbeats 4000000 in
theorem c_X11_takes_q (l : Launch) (hl : l.stackTraces = false) (d : Nat) (hd : 8 ≤ d) (h : mH) (i0 : mm_inv h) (p1 : Int) (p2 : Int) : mm_Met l d yX11_takes cX11_takes 4 (some .boolean) [mR 0, mI p1, mI p2] h (mm_pi fun r h2 => (0 ≤ r ∧ r ≤ 1) ∧ mm_inv h2 ∧ mm_fr [] [6] h h2 ∧ (0 ≤ p1 ∧ p1 ≤ 8) ∧ ((r = 1 ∧ (h.1 22 8 ≤ 0 ∧ 0 ≤ p2 ∧ ((p1 = 8 ∧ p2 ≤ 9) ∨ (p1 ≠ 8 ∧ p2 ≤ 99 ∧ (p2 ≠ 0 ∨ mm_fd (fun j => h.2.1 2 (h.2.1 15 j)) p1 (h.1 14 7).toNat = 0))))) ∨ (r = 0 ∧ (0 < h.1 22 8 ∨ p2 < 0 ∨ (p1 = 8 ∧ 9 < p2) ∨ (p1 ≠ 8 ∧ (99 < p2 ∨ (p2 = 0 ∧ mm_fd (fun j => h.2.1 2 (h.2.1 15 j)) p1 (h.1 14 7).toNat = 1)))))) ∧ mm_up h h2 6 p1 p2 r) (fun E h' => mm_xn h E h' ∧ (p1 < 0 ∨ 8 < p1)) 1 6 := by
  refine mm_ofW (ls := [mR 0, mI p1, mI p2, mU]) hl (by decide) rfl (Nat.le_of_ble_eq_true rfl) ?_
  intro x hxl C T hnm htb
  subst hxl
  have C1 := mm_OK_le (d' := d - 1 + 1) (by omega) C
  have C8 := mm_OK_le (d' := d - 8 + 8) (by omega) C
  refine mm_rng (fun hr _ => ?_)
  have ap1 : -2147483648 ≤ p1 ∧ p1 < 2147483648 := mm_ok_at hr (i := 1) rfl
  have ap2 : -2147483648 ≤ p2 ∧ p2 < 2147483648 := mm_ok_at hr (i := 2) rfl
  have f0 : mm_fr [] [6] h h := mm_fr_rf
  refine mm_iload_n C (mm_dec dk_X11_takes 0 rfl) rfl ?_
  refine mm_iconst C (mm_dec dk_X11_takes 1 rfl) ⟨by decide, by decide⟩ ?_
  refine mm_bipush C (mm_dec dk_X11_takes 2 rfl) ⟨by decide, by decide⟩ ?_
  refine mm_cSi (rest := []) C1 es_X11_130 (mm_dec dk_X11_takes 3 rfl) (c_X11_within x.2.1 hl (d - 1) (by omega) h i0 p1 0 8) rfl (Nat.le_of_ble_eq_true rfl) ⟨by decide, by decide⟩ rfl (fun r4 h4c hp4 => ?_) (fun _ _ q => q.elim)
  obtain ⟨z4, y4⟩ := hp4
  rw [z4]
  refine mm_if_ne (tgt := 20) C (mm_dec dk_X11_takes 4 rfl) (by decide) (fun c7 => ?_) (fun c7 => ?_)
  · skip
    refine mm_iload_n C (mm_dec dk_X11_takes 10 rfl) rfl ?_
    refine mm_bipush C (mm_dec dk_X11_takes 11 rfl) ⟨by decide, by decide⟩ ?_
    have J33 : ∀ (s33_0 : Int) (bs33_0 : 9 ≤ s33_0 ∧ s33_0 ≤ 99) (w33_0 : (0 ≤ p1 ∧ p1 ≤ 8)) (w33_1 : ((p1 = 8 ∧ s33_0 = 9) ∨ (p1 ≠ 8 ∧ s33_0 = 99))) (vs33_0 : (p1 = 8 ∧ s33_0 = 9) ∨ (p1 ≠ 8 ∧ s33_0 = 99)), mm_W x 0 0 33 [mR 0, mI p1, mI p2, mU] [mI s33_0] h := by
      intro s33_0 bs33_0 w33_0 w33_1 vs33_0
      refine mm_istore_nL (ls2 := [mR 0, mI p1, mI p2, mI s33_0]) C (mm_dec dk_X11_takes 16 rfl) (by decide) rfl ?_
      refine mm_aload_n C (mm_dec dk_X11_takes 17 rfl) rfl ?_
      refine mm_cVi (rest := []) C1 ev_X11_126 (mm_dec dk_X11_takes 18 rfl) (c_X11_landIsFixed x.2.1 hl (d - 1) (by omega) h i0 ) rfl rfl (Nat.le_of_ble_eq_true rfl) ⟨by decide, by decide⟩ rfl (fun r35 h35c hp35 => ?_) (fun _ _ q => q.elim)
      obtain ⟨z35, y35⟩ := hp35
      rw [z35]
      have g3 : 0 ≤ (h.1 22 8) ∧ (h.1 22 8) ≤ 40 := i0.1 22 8
      have J50 : ∀ (w50_0 : (0 ≤ p1 ∧ p1 ≤ 8)) (w50_1 : (0 < h.1 22 8 ∨ p2 < 0 ∨ s33_0 < p2)), mm_W x 0 0 50 [mU, mU, mU, mU] [] h := by
        intro w50_0 w50_1
        refine mm_iconst C (mm_dec dk_X11_takes 25 rfl) ⟨by decide, by decide⟩ ?_
        exact mm_zret C T (mm_dec dk_X11_takes 26 rfl) (by decide : 0 ≤ 1) (by decide : 0 ≤ 6) (by omega) ⟨_, rfl, ⟨⟨by omega, by omega⟩, i0, f0, by omega, by omega, by first | exact mm_up_no (by decide) (fun _ => rfl) | exact y78_0⟩⟩
      refine mm_if_ne (tgt := 50) C (mm_dec dk_X11_takes 19 rfl) (by decide) (fun c38 => ?_) (fun c38 => ?_)
      · skip
        refine mm_fgt 0 ?_
        refine mm_fgt 1 ?_
        refine mm_fgt 2 ?_
        refine mm_fgt 3 ?_
        exact J50 (by omega) (by omega)
      · skip
        refine mm_iload_n C (mm_dec dk_X11_takes 20 rfl) rfl ?_
        refine mm_iconst C (mm_dec dk_X11_takes 21 rfl) ⟨by decide, by decide⟩ ?_
        refine mm_iload_n C (mm_dec dk_X11_takes 22 rfl) rfl ?_
        refine mm_cSi (rest := []) C1 es_X11_130 (mm_dec dk_X11_takes 23 rfl) (c_X11_within x.2.1 hl (d - 1) (by omega) h i0 p2 0 s33_0) rfl (Nat.le_of_ble_eq_true rfl) ⟨by decide, by decide⟩ rfl (fun r44 h44c hp44 => ?_) (fun _ _ q => q.elim)
        obtain ⟨z44, y44⟩ := hp44
        rw [z44]
        refine mm_if_ne (tgt := 52) C (mm_dec dk_X11_takes 24 rfl) (by decide) (fun c47 => ?_) (fun c47 => ?_)
        · skip
          refine mm_iload_n C (mm_dec dk_X11_takes 27 rfl) rfl ?_
          refine mm_bipush C (mm_dec dk_X11_takes 28 rfl) ⟨by decide, by decide⟩ ?_
          have J72 : ∀ (w72_0 : (0 ≤ p1 ∧ p1 ≤ 8)) (w72_1 : (h.1 22 8 ≤ 0 ∧ 0 ≤ p2 ∧ ((p1 = 8 ∧ p2 ≤ 9) ∨ (p1 ≠ 8 ∧ p2 ≤ 99 ∧ (p2 ≠ 0 ∨ mm_fd (fun j => h.2.1 2 (h.2.1 15 j)) p1 (h.1 14 7).toNat = 0))))), mm_W x 0 0 72 [mR 0, mI p1, mI p2, mU] [] h := by
            intro w72_0 w72_1
            refine mm_aload_n C (mm_dec dk_X11_takes 38 rfl) rfl ?_
            refine mm_getr (t := 1) C fl_X11_12 (mm_dec dk_X11_takes 39 rfl) rfl rfl (mm_ref i0 rfl) ?_
            refine mm_iload_n C (mm_dec dk_X11_takes 40 rfl) rfl ?_
            refine mm_iload_n C (mm_dec dk_X11_takes 41 rfl) rfl ?_
            refine mm_cVv (rest := []) C1 ev_X11_155 (mm_dec dk_X11_takes 42 rfl) (c_X5_price_q x.2.1 hl (d - 1) (by omega) h i0 p1 p2 ⟨by omega, by omega⟩ ⟨by omega, by omega⟩) rfl rfl (Nat.le_of_ble_eq_true rfl) ⟨by decide, by decide⟩ rfl (fun h78c hp78 => ?_) (fun _ _ q => q.elim)
            obtain ⟨i78c, g78c, y78_0⟩ := hp78
            have f78c : mm_fr [] [6] h h78c := mm_fr_tr f0 g78c (by decide +kernel)
            have q78c_6 : h78c.1 22 8 = h.1 22 8 := g78c.1 22 8 (by decide)
            refine mm_iconst C (mm_dec dk_X11_takes 43 rfl) ⟨by decide, by decide⟩ ?_
            exact mm_zret C T (mm_dec dk_X11_takes 44 rfl) (by decide : 0 ≤ 1) (by decide : 0 ≤ 6) (by omega) ⟨_, rfl, ⟨⟨by omega, by omega⟩, i78c, f78c, by omega, by omega, by first | exact mm_up_no (by decide) (fun _ => rfl) | exact y78_0⟩⟩
          refine mm_icmp_eq (tgt := 72) C (mm_dec dk_X11_takes 29 rfl) (by decide) (fun c55 => ?_) (fun c55 => ?_)
          · skip
            refine mm_fgt 3 ?_
            exact J72 (by omega) (by omega)
          · skip
            refine mm_iload_n C (mm_dec dk_X11_takes 30 rfl) rfl ?_
            refine mm_if_ne (tgt := 72) C (mm_dec dk_X11_takes 31 rfl) (by decide) (fun c59 => ?_) (fun c59 => ?_)
            · skip
              refine mm_fgt 3 ?_
              exact J72 (by omega) (by omega)
            · skip
              refine mm_aload_n C (mm_dec dk_X11_takes 32 rfl) rfl ?_
              refine mm_iload_n C (mm_dec dk_X11_takes 33 rfl) rfl ?_
              refine mm_cVi (rest := []) C1 ev_X11_152 (mm_dec dk_X11_takes 34 rfl) (c_X11_postStandsOn_q x.2.1 hl (d - 1) (by omega) h i0 p1) rfl rfl (Nat.le_of_ble_eq_true rfl) ⟨by decide, by decide⟩ rfl (fun r64 h64c hp64 => ?_) (fun _ _ q => q.elim)
              obtain ⟨b64, z64, y64_0⟩ := hp64
              rw [z64]
              refine mm_if_eq (tgt := 72) C (mm_dec dk_X11_takes 35 rfl) (by decide) (fun c67 => ?_) (fun c67 => ?_)
              · skip
                refine mm_fgt 3 ?_
                exact J72 (by omega) (by omega)
              · skip
                refine mm_iconst C (mm_dec dk_X11_takes 36 rfl) ⟨by decide, by decide⟩ ?_
                exact mm_zret C T (mm_dec dk_X11_takes 37 rfl) (by decide : 0 ≤ 1) (by decide : 0 ≤ 6) (by omega) ⟨_, rfl, ⟨⟨by omega, by omega⟩, i0, f0, by omega, by omega, by first | exact mm_up_no (by decide) (fun _ => rfl) | exact y78_0⟩⟩
        · skip
          refine mm_fgt 0 ?_
          refine mm_fgt 1 ?_
          refine mm_fgt 2 ?_
          refine mm_fgt 3 ?_
          exact J50 (by omega) (by omega)
    refine mm_icmp_ne (tgt := 31) C (mm_dec dk_X11_takes 12 rfl) (by decide) (fun c23 => ?_) (fun c23 => ?_)
    · skip
      refine mm_bipush C (mm_dec dk_X11_takes 15 rfl) ⟨by decide, by decide⟩ ?_
      exact J33 99 ⟨by omega, by omega⟩ (by omega) (by omega) (Or.inr (⟨by omega, rfl⟩))
    · skip
      refine mm_bipush C (mm_dec dk_X11_takes 13 rfl) ⟨by decide, by decide⟩ ?_
      refine mm_goto (tgt := 33) C (mm_dec dk_X11_takes 14 rfl) (by decide) ?_
      exact J33 9 ⟨by omega, by omega⟩ (by omega) (by omega) (Or.inl ⟨by omega, rfl⟩)
  · skip
    exact mm_throwX C8 T htb th_nse (i := 1) rfl (mm_dec dk_X11_takes 5 rfl) (mm_dec dk_X11_takes 6 rfl) (mm_dec dk_X11_takes 7 rfl) (mm_dec dk_X11_takes 8 rfl) (mm_dec dk_X11_takes 9 rfl) (Nat.le_of_ble_eq_true rfl) ⟨by decide, by decide⟩ ⟨by decide, by decide⟩ (⟨⟨rfl, rfl⟩, by omega⟩)
set_option maxRecDepth 100000 in
set_option maxHeartbeats 4000000 in
theorem c_X12_cell_q (l : Launch) (hl : l.stackTraces = false) (d : Nat) (hd : 3 ≤ d) (h : mH) (i0 : mm_inv h) (p1 : Int) (p2 : Int) (p3 : Int) (p4 : Int) : mm_Met l d yX12_cell cX12_cell 6 (some .boolean) [mR 66, mI p1, mI p2, mI p3, mI p4] h (mm_pi fun r h2 => (0 ≤ r ∧ r ≤ 1) ∧ mm_inv h2 ∧ mm_fr [(66, 0)] [67, 68] h h2 ∧ (((0 ≤ p1 ∧ p1 < h.1 66 1 ∧ 0 ≤ p2 ∧ p2 < h.1 66 2) ∧ h2.1 66 0 = 0 ∧ ((r = 1 ∧ (h.1 66 23 ≤ 0 ∧ 0 ≤ p3 ∧ p3 ≤ 7 ∧ 0 ≤ p4 ∧ p4 ≤ 99 ∧ (h.2.1 69 p3 ≠ 0 ∨ mm_fd (h.2.1 78) (20 * p2 + p1) (h.1 66 21).toNat = 0))) ∨ (r = 0 ∧ ((0 < h.1 66 23 ∨ p3 < 0 ∨ 7 < p3 ∨ p4 < 0 ∨ 99 < p4) ∨ (h.2.1 69 p3 = 0 ∧ mm_fd (h.2.1 78) (20 * p2 + p1) (h.1 66 21).toNat = 1))))) ∨ ((p1 < 0 ∨ h.1 66 1 ≤ p1 ∨ p2 < 0 ∨ h.1 66 2 ≤ p2) ∧ h2.1 66 0 = 1 ∧ r = 0)) ∧ mm_up h h2 67 (20 * p2 + p1) p3 r ∧ mm_up h h2 68 (20 * p2 + p1) p4 r) mm_nx 0 0 := by
  refine mm_ofW (ls := [mR 66, mI p1, mI p2, mI p3, mI p4, mU]) hl (by decide) rfl (Nat.le_of_ble_eq_true rfl) ?_
  intro x hxl C T hnm htb
  subst hxl
  have C1 := mm_OK_le (d' := d - 1 + 1) (by omega) C
  refine mm_rng (fun hr _ => ?_)
  have ap1 : -2147483648 ≤ p1 ∧ p1 < 2147483648 := mm_ok_at hr (i := 1) rfl
  have ap2 : -2147483648 ≤ p2 ∧ p2 < 2147483648 := mm_ok_at hr (i := 2) rfl
  have ap3 : -2147483648 ≤ p3 ∧ p3 < 2147483648 := mm_ok_at hr (i := 3) rfl
  have ap4 : -2147483648 ≤ p4 ∧ p4 < 2147483648 := mm_ok_at hr (i := 4) rfl
  have f0 : mm_fr [(66, 0)] [67, 68] h h := mm_fr_rf
  have g1 : -2147483648 ≤ h.1 66 0 ∧ h.1 66 0 ≤ 2147483647 := i0.1 66 0
  have g2 : 1 ≤ h.1 66 1 ∧ h.1 66 1 ≤ 20 := i0.1 66 1
  have g3 : 1 ≤ h.1 66 2 ∧ h.1 66 2 ≤ 20 := i0.1 66 2
  have g4 : 0 ≤ h.1 66 23 ∧ h.1 66 23 ≤ 40 := i0.1 66 23
  have g5 : 0 ≤ h.1 66 21 ∧ h.1 66 21 ≤ 20 := i0.1 66 21
  refine mm_aload_n C (mm_dec dk_X12_cell 0 rfl) rfl ?_
  refine mm_iload_n C (mm_dec dk_X12_cell 1 rfl) rfl ?_
  refine mm_iload_n C (mm_dec dk_X12_cell 2 rfl) rfl ?_
  refine mm_cVi (rest := []) C1 ev_X12_255 (mm_dec dk_X12_cell 3 rfl) (c_X12_isCell_q x.2.1 hl (d - 1) (by omega) h i0 p1 p2) rfl rfl (Nat.le_of_ble_eq_true rfl) ⟨by decide, by decide⟩ rfl (fun r3 h3c hp3 => ?_) (fun _ _ q => q.elim)
  obtain ⟨b3, i3c, g3c, y3_0, y3_1⟩ := hp3
  have f3c : mm_fr [(66, 0)] [67, 68] h h3c := mm_fr_tr f0 g3c (by decide +kernel)
  have q3c_7 : h3c.1 66 1 = h.1 66 1 := g3c.1 66 1 (by decide)
  have q3c_8 : h3c.1 66 2 = h.1 66 2 := g3c.1 66 2 (by decide)
  have q3c_9 : h3c.1 66 21 = h.1 66 21 := g3c.1 66 21 (by decide)
  have q3c_10 : h3c.1 66 23 = h.1 66 23 := g3c.1 66 23 (by decide)
  have g11 : -2147483648 ≤ (h3c.1 66 0) ∧ (h3c.1 66 0) ≤ 2147483647 := i3c.1 66 0
  have J38 : ∀ (w38_0 : (((0 ≤ p1 ∧ p1 < h.1 66 1 ∧ 0 ≤ p2 ∧ p2 < h.1 66 2) ∧ h3c.1 66 0 = 0 ∧ (0 < h.1 66 23 ∨ p3 < 0 ∨ 7 < p3 ∨ p4 < 0 ∨ 99 < p4)) ∨ ((p1 < 0 ∨ h.1 66 1 ≤ p1 ∨ p2 < 0 ∨ h.1 66 2 ≤ p2) ∧ h3c.1 66 0 = 1))) (w38_1 : ∀ j, h3c.2.1 67 j = h.2.1 67 j) (w38_2 : ∀ j, h3c.2.1 68 j = h.2.1 68 j), mm_W x 0 0 38 [mU, mU, mU, mU, mU, mU] [] h3c := by
    intro w38_0 w38_1 w38_2
    refine mm_iconst C (mm_dec dk_X12_cell 18 rfl) ⟨by decide, by decide⟩ ?_
    exact mm_zret C T (mm_dec dk_X12_cell 19 rfl) (by decide : 0 ≤ 0) (by decide : 0 ≤ 0) (by omega) ⟨_, rfl, ⟨⟨by omega, by omega⟩, i3c, f3c, by omega, by first | exact mm_up_no (by decide) w38_1 | exact mm_up_no (by decide) (fun j => g3c.2 67 (by decide) j) | exact mm_up_pa (fun j => g3c.2 67 (by decide) j) eh2 (fun _ => (mm_sm_pa 67 eh3 (by decide) _)) rfl rfl, by first | exact mm_up_no (by decide) w38_2 | exact mm_up_no (by decide) (fun j => g3c.2 68 (by decide) j) | exact mm_up_pav (fun _ => ((mm_sm_pa 68 eh2 (by decide) _).trans (g3c.2 68 (by decide) _))) eh3 (fun _ => rfl) (by omega) (by omega) rfl⟩⟩
  refine mm_if_eq (tgt := 38) C (mm_dec dk_X12_cell 4 rfl) (by decide) (fun c6 => ?_) (fun c6 => ?_)
  · skip
    refine mm_fgt 0 ?_
    refine mm_fgt 1 ?_
    refine mm_fgt 2 ?_
    refine mm_fgt 3 ?_
    refine mm_fgt 4 ?_
    exact J38 (by omega) (by first | exact g3c.2 67 (by decide)) (by exact g3c.2 68 (by decide))
  · skip
    refine mm_aload_n C (mm_dec dk_X12_cell 5 rfl) rfl ?_
    refine mm_geti C fl_X12_222 (mm_dec dk_X12_cell 6 rfl) rfl rfl (Or.inl rfl) ?_
    refine mm_if_gt (tgt := 38) C (mm_dec dk_X12_cell 7 rfl) (by decide) (fun c13 => ?_) (fun c13 => ?_)
    · skip
      refine mm_fgt 0 ?_
      refine mm_fgt 1 ?_
      refine mm_fgt 2 ?_
      refine mm_fgt 3 ?_
      refine mm_fgt 4 ?_
      exact J38 (by omega) (by first | exact g3c.2 67 (by decide)) (by exact g3c.2 68 (by decide))
    · skip
      refine mm_iload_n C (mm_dec dk_X12_cell 8 rfl) rfl ?_
      refine mm_if_lt (tgt := 38) C (mm_dec dk_X12_cell 9 rfl) (by decide) (fun c17 => ?_) (fun c17 => ?_)
      · skip
        refine mm_fgt 0 ?_
        refine mm_fgt 1 ?_
        refine mm_fgt 2 ?_
        refine mm_fgt 3 ?_
        refine mm_fgt 4 ?_
        exact J38 (by omega) (by first | exact g3c.2 67 (by decide)) (by exact g3c.2 68 (by decide))
      · skip
        refine mm_iload_n C (mm_dec dk_X12_cell 10 rfl) rfl ?_
        refine mm_bipush C (mm_dec dk_X12_cell 11 rfl) ⟨by decide, by decide⟩ ?_
        refine mm_icmp_gt (tgt := 38) C (mm_dec dk_X12_cell 12 rfl) (by decide) (fun c23 => ?_) (fun c23 => ?_)
        · skip
          refine mm_fgt 0 ?_
          refine mm_fgt 1 ?_
          refine mm_fgt 2 ?_
          refine mm_fgt 3 ?_
          refine mm_fgt 4 ?_
          exact J38 (by omega) (by first | exact g3c.2 67 (by decide)) (by exact g3c.2 68 (by decide))
        · skip
          refine mm_iload C (mm_dec dk_X12_cell 13 rfl) rfl ?_
          refine mm_if_lt (tgt := 38) C (mm_dec dk_X12_cell 14 rfl) (by decide) (fun c28 => ?_) (fun c28 => ?_)
          · skip
            refine mm_fgt 0 ?_
            refine mm_fgt 1 ?_
            refine mm_fgt 2 ?_
            refine mm_fgt 3 ?_
            refine mm_fgt 4 ?_
            exact J38 (by omega) (by first | exact g3c.2 67 (by decide)) (by exact g3c.2 68 (by decide))
          · skip
            refine mm_iload C (mm_dec dk_X12_cell 15 rfl) rfl ?_
            refine mm_bipush C (mm_dec dk_X12_cell 16 rfl) ⟨by decide, by decide⟩ ?_
            refine mm_icmp_le (tgt := 40) C (mm_dec dk_X12_cell 17 rfl) (by decide) (fun c35 => ?_) (fun c35 => ?_)
            · skip
              refine mm_iconst C (mm_dec dk_X12_cell 20 rfl) ⟨by decide, by decide⟩ ?_
              have J43 : ∀ (n : Nat) (x43_5 : Int) (bx43_5 : 0 ≤ x43_5 ∧ x43_5 ≤ 20) (w43_0 : (h.2.1 69 p3 ≠ 0 ∨ mm_fd (h.2.1 78) (20 * p2 + p1) (x43_5).toNat = 0)) (w43_1 : x43_5 ≤ h.1 66 21) (w43_2 : h3c.1 66 0 = 0) (w43_3 : (0 ≤ p1 ∧ p1 < h.1 66 1 ∧ 0 ≤ p2 ∧ p2 < h.1 66 2)) (w43_4 : (h.1 66 23 ≤ 0 ∧ 0 ≤ p3 ∧ p3 ≤ 7 ∧ 0 ≤ p4 ∧ p4 ≤ 99)), (20 - x43_5 : Int) < n → mm_W x 0 0 43 [mR 66, mI p1, mI p2, mI p3, mI p4, mI x43_5] [] h3c := by
                intro n
                induction n with
                | zero =>
                  intro x43_5 bx43_5 w43_0 w43_1 w43_2 w43_3 w43_4 hm
                  exfalso; omega
                | succ n ih43 =>
                  intro x43_5 bx43_5 w43_0 w43_1 w43_2 w43_3 w43_4 hm43
                  have z69 : ∀ j, h3c.2.1 69 j = h.2.1 69 j := fun j => f3c.2 69 (by decide) j
                  have z78 : ∀ j, h3c.2.1 78 j = h.2.1 78 j := fun j => f3c.2 78 (by decide) j
                  have z69p := z69 p3
                  have z78p := z78 x43_5
                  have zq := mm_fd_rg (h.2.1 78) (20 * p2 + p1) (h.1 66 21).toNat
                  refine mm_iload C (mm_dec dk_X12_cell 22 rfl) rfl ?_
                  refine mm_aload_n C (mm_dec dk_X12_cell 23 rfl) rfl ?_
                  refine mm_geti C fl_X12_216 (mm_dec dk_X12_cell 24 rfl) rfl rfl (Or.inl rfl) ?_
                  refine mm_icmp_ge (tgt := 85) C (mm_dec dk_X12_cell 25 rfl) (by decide) (fun c49 => ?_) (fun c49 => ?_)
                  · skip
                    have ze : h.2.1 69 p3 ≠ 0 ∨ mm_fd (h.2.1 78) (20 * p2 + p1) (h.1 66 21).toNat = 0 := w43_0.imp id (fun w => (mm_fd_end w (by omega)).symm)
                    refine mm_aload_n C (mm_dec dk_X12_cell 45 rfl) rfl ?_
                    refine mm_getr (t := 67) C fl_X12_7 (mm_dec dk_X12_cell 46 rfl) rfl rfl (mm_ref i3c rfl) ?_
                    refine mm_bipush C (mm_dec dk_X12_cell 47 rfl) ⟨by decide, by decide⟩ ?_
                    refine mm_iload_n C (mm_dec dk_X12_cell 48 rfl) rfl ?_
                    refine mm_imul C (mm_dec dk_X12_cell 49 rfl) ⟨by omega, by omega⟩ ?_
                    refine mm_iload_n C (mm_dec dk_X12_cell 50 rfl) rfl ?_
                    refine mm_iadd C (mm_dec dk_X12_cell 51 rfl) ⟨by omega, by omega⟩ ?_
                    refine mm_iload_n C (mm_dec dk_X12_cell 52 rfl) rfl ?_
                    refine mm_iast C (mm_dec dk_X12_cell 53 rfl) rfl (by omega) (by omega) ?_
                    have i2 : mm_inv (mm_pa h3c 67 ((20 * p2) + p1) p3) := mm_inv_pa i3c (show 0 ≤ p3 ∧ p3 ≤ 7 from ⟨by omega, by omega⟩)
                    have f2 : mm_fr [(66, 0)] [67, 68] h (mm_pa h3c 67 ((20 * p2) + p1) p3) := mm_fr_pa f3c (by decide)
                    obtain ⟨h2, eh2⟩ : ∃ z, z = mm_pa h3c 67 ((20 * p2) + p1) p3 := ⟨_, rfl⟩
                    rw [← eh2] at i2 f2 ⊢
                    have qh2_12 : h2.1 66 0 = h3c.1 66 0 := by rw [eh2]; rfl
                    have qh2_13 : h2.1 66 1 = h3c.1 66 1 := by rw [eh2]; rfl
                    have qh2_14 : h2.1 66 2 = h3c.1 66 2 := by rw [eh2]; rfl
                    have qh2_15 : h2.1 66 21 = h3c.1 66 21 := by rw [eh2]; rfl
                    have qh2_16 : h2.1 66 23 = h3c.1 66 23 := by rw [eh2]; rfl
                    refine mm_aload_n C (mm_dec dk_X12_cell 54 rfl) rfl ?_
                    refine mm_getr (t := 68) C fl_X12_13 (mm_dec dk_X12_cell 55 rfl) rfl rfl (mm_ref i2 rfl) ?_
                    refine mm_bipush C (mm_dec dk_X12_cell 56 rfl) ⟨by decide, by decide⟩ ?_
                    refine mm_iload_n C (mm_dec dk_X12_cell 57 rfl) rfl ?_
                    refine mm_imul C (mm_dec dk_X12_cell 58 rfl) ⟨by omega, by omega⟩ ?_
                    refine mm_iload_n C (mm_dec dk_X12_cell 59 rfl) rfl ?_
                    refine mm_iadd C (mm_dec dk_X12_cell 60 rfl) ⟨by omega, by omega⟩ ?_
                    refine mm_iload C (mm_dec dk_X12_cell 61 rfl) rfl ?_
                    refine mm_iast C (mm_dec dk_X12_cell 62 rfl) rfl (by omega) (by omega) ?_
                    have i3 : mm_inv (mm_pa h2 68 ((20 * p2) + p1) p4) := mm_inv_pa i2 (show 0 ≤ p4 ∧ p4 ≤ 99 from ⟨by omega, by omega⟩)
                    have f3 : mm_fr [(66, 0)] [67, 68] h (mm_pa h2 68 ((20 * p2) + p1) p4) := mm_fr_pa f2 (by decide)
                    obtain ⟨h3, eh3⟩ : ∃ z, z = mm_pa h2 68 ((20 * p2) + p1) p4 := ⟨_, rfl⟩
                    rw [← eh3] at i3 f3 ⊢
                    have qh3_17 : h3.1 66 0 = h2.1 66 0 := by rw [eh3]; rfl
                    have qh3_18 : h3.1 66 1 = h2.1 66 1 := by rw [eh3]; rfl
                    have qh3_19 : h3.1 66 2 = h2.1 66 2 := by rw [eh3]; rfl
                    have qh3_20 : h3.1 66 21 = h2.1 66 21 := by rw [eh3]; rfl
                    have qh3_21 : h3.1 66 23 = h2.1 66 23 := by rw [eh3]; rfl
                    refine mm_iconst C (mm_dec dk_X12_cell 63 rfl) ⟨by decide, by decide⟩ ?_
                    exact mm_zret C T (mm_dec dk_X12_cell 64 rfl) (by decide : 0 ≤ 0) (by decide : 0 ≤ 0) (by omega) ⟨_, rfl, ⟨⟨by omega, by omega⟩, i3, f3, by omega, by first | exact mm_up_no (by decide) w38_1 | exact mm_up_no (by decide) (fun j => g3c.2 67 (by decide) j) | exact mm_up_pa (fun j => g3c.2 67 (by decide) j) eh2 (fun _ => (mm_sm_pa 67 eh3 (by decide) _)) rfl rfl, by first | exact mm_up_no (by decide) w38_2 | exact mm_up_no (by decide) (fun j => g3c.2 68 (by decide) j) | exact mm_up_pav (fun _ => ((mm_sm_pa 68 eh2 (by decide) _).trans (g3c.2 68 (by decide) _))) eh3 (fun _ => rfl) (by omega) (by omega) rfl⟩⟩
                  · skip
                    refine mm_aload_n C (mm_dec dk_X12_cell 26 rfl) rfl ?_
                    refine mm_getr (t := 78) C fl_X12_45 (mm_dec dk_X12_cell 27 rfl) rfl rfl (mm_ref i3c rfl) ?_
                    refine mm_iload C (mm_dec dk_X12_cell 28 rfl) rfl ?_
                    refine mm_iald C (mm_dec dk_X12_cell 29 rfl) rfl (by omega) (by omega) ?_
                    have g22 : 0 ≤ (h3c.2.1 78 x43_5) ∧ (h3c.2.1 78 x43_5) ≤ 399 := i3c.2.1 78 x43_5
                    refine mm_bipush C (mm_dec dk_X12_cell 30 rfl) ⟨by decide, by decide⟩ ?_
                    refine mm_iload_n C (mm_dec dk_X12_cell 31 rfl) rfl ?_
                    refine mm_imul C (mm_dec dk_X12_cell 32 rfl) ⟨by omega, by omega⟩ ?_
                    refine mm_iload_n C (mm_dec dk_X12_cell 33 rfl) rfl ?_
                    refine mm_iadd C (mm_dec dk_X12_cell 34 rfl) ⟨by omega, by omega⟩ ?_
                    have J79 : ∀ (w79_0 : (h3c.2.1 69 p3 ≠ 0 ∨ h3c.2.1 78 x43_5 ≠ (20 * p2 + p1))), mm_W x 0 0 79 [mR 66, mI p1, mI p2, mI p3, mI p4, mI x43_5] [] h3c := by
                      intro w79_0
                      refine mm_iincL (ls2 := [mR 66, mI p1, mI p2, mI p3, mI p4, mI (x43_5 + 1)]) C (mm_dec dk_X12_cell 43 rfl) rfl (by decide) ⟨by omega, by omega⟩ rfl ?_
                      refine mm_goto (tgt := 43) C (mm_dec dk_X12_cell 44 rfl) (by decide) ?_
                      exact ih43 (x43_5 + 1) ⟨by omega, by omega⟩ (by first | exact Or.inr rfl | exact (w43_0.imp id (fun w => w)).elim Or.inl (fun w => w79_0.elim (fun z => Or.inl (by have := z69 p3; omega)) (fun z => Or.inr (mm_fd_step w (by omega) (by have := z78 x43_5; omega))))) (by omega) (by omega) (by omega) (by omega) (by omega)
                    refine mm_icmp_ne (tgt := 79) C (mm_dec dk_X12_cell 35 rfl) (by decide) (fun c65 => ?_) (fun c65 => ?_)
                    · skip
                      exact J79 (by omega)
                    · skip
                      refine mm_aload_n C (mm_dec dk_X12_cell 36 rfl) rfl ?_
                      refine mm_getr (t := 69) C fl_X12_16 (mm_dec dk_X12_cell 37 rfl) rfl rfl (mm_ref i3c rfl) ?_
                      refine mm_iload_n C (mm_dec dk_X12_cell 38 rfl) rfl ?_
                      refine mm_iald C (mm_dec dk_X12_cell 39 rfl) rfl (by omega) (by omega) ?_
                      have g23 : 0 ≤ (h3c.2.1 69 p3) ∧ (h3c.2.1 69 p3) ≤ 99 := i3c.2.1 69 p3
                      refine mm_if_ne (tgt := 79) C (mm_dec dk_X12_cell 40 rfl) (by decide) (fun c74 => ?_) (fun c74 => ?_)
                      · skip
                        exact J79 (by omega)
                      · skip
                        have zh : 1 = mm_fd (h.2.1 78) (20 * p2 + p1) (h.1 66 21).toNat := mm_fd_hit (i := x43_5) (by omega) (by omega) (by omega)
                        refine mm_iconst C (mm_dec dk_X12_cell 41 rfl) ⟨by decide, by decide⟩ ?_
                        exact mm_zret C T (mm_dec dk_X12_cell 42 rfl) (by decide : 0 ≤ 0) (by decide : 0 ≤ 0) (by omega) ⟨_, rfl, ⟨⟨by omega, by omega⟩, i3c, f3c, by omega, by first | exact mm_up_no (by decide) w38_1 | exact mm_up_no (by decide) (fun j => g3c.2 67 (by decide) j) | exact mm_up_pa (fun j => g3c.2 67 (by decide) j) eh2 (fun _ => (mm_sm_pa 67 eh3 (by decide) _)) rfl rfl, by first | exact mm_up_no (by decide) w38_2 | exact mm_up_no (by decide) (fun j => g3c.2 68 (by decide) j) | exact mm_up_pav (fun _ => ((mm_sm_pa 68 eh2 (by decide) _).trans (g3c.2 68 (by decide) _))) eh3 (fun _ => rfl) (by omega) (by omega) rfl⟩⟩
              refine mm_istoreL (ls2 := [mR 66, mI p1, mI p2, mI p3, mI p4, mI 0]) C (mm_dec dk_X12_cell 21 rfl) (by decide) rfl ?_
              exact J43 (((20 - 0) : Int) + 1).toNat 0 ⟨by omega, by omega⟩ (by first | exact Or.inr rfl | exact (w43_0.imp id (fun w => w)).elim Or.inl (fun w => w79_0.elim (fun z => Or.inl (by have := z69 p3; omega)) (fun z => Or.inr (mm_fd_step w (by omega) (by have := z78 x43_5; omega))))) (by omega) (by omega) (by omega) (by omega) (by omega)
            · skip
              refine mm_fgt 0 ?_
              refine mm_fgt 1 ?_
              refine mm_fgt 2 ?_
              refine mm_fgt 3 ?_
              refine mm_fgt 4 ?_
              exact J38 (by omega) (by first | exact g3c.2 67 (by decide)) (by exact g3c.2 68 (by decide))
set_option maxRecDepth 100000 in
set_option maxHeartbeats 4000000 in
theorem c_X12_takes_q (l : Launch) (hl : l.stackTraces = false) (d : Nat) (hd : 1 ≤ d) (h : mH) (i0 : mm_inv h) (p1 : Int) (p2 : Int) : mm_Met l d yX12_takes cX12_takes 4 (some .boolean) [mR 66, mI p1, mI p2] h (mm_pi fun r h2 => (0 ≤ r ∧ r ≤ 1) ∧ mm_inv h2 ∧ mm_fr [(66, 0), (66, 3)] [69] h h2 ∧ (((0 ≤ p1 ∧ p1 ≤ 8) ∧ h2.1 66 0 = 0 ∧ ((r = 1 ∧ (h.1 66 23 ≤ 0 ∧ 0 ≤ p2 ∧ ((p1 = 8 ∧ p2 ≤ 9) ∨ (p1 ≠ 8 ∧ p2 ≤ 99 ∧ (p2 ≠ 0 ∨ mm_fd (fun j => h.2.1 67 (h.2.1 78 j)) p1 (h.1 66 21).toNat = 0))))) ∨ (r = 0 ∧ (0 < h.1 66 23 ∨ p2 < 0 ∨ (p1 = 8 ∧ 9 < p2) ∨ (p1 ≠ 8 ∧ (99 < p2 ∨ (p2 = 0 ∧ mm_fd (fun j => h.2.1 67 (h.2.1 78 j)) p1 (h.1 66 21).toNat = 1))))))) ∨ ((p1 < 0 ∨ 8 < p1) ∧ h2.1 66 0 = 1 ∧ r = 0)) ∧ (∃ f : Int, ((f = 1 ∧ r = 1 ∧ p1 ≠ 8) ∨ (f = 0 ∧ (r = 0 ∨ p1 = 8))) ∧ mm_up h h2 69 p1 p2 f) ∧ ((r = 1 ∧ p1 = 8 ∧ h2.1 66 3 = p2) ∨ ((r = 0 ∨ p1 ≠ 8) ∧ h2.1 66 3 = h.1 66 3))) mm_nx 0 0 := by
  refine mm_ofW (ls := [mR 66, mI p1, mI p2, mU]) hl (by decide) rfl (Nat.le_of_ble_eq_true rfl) ?_
  intro x hxl C T hnm htb
  subst hxl
  have C1 := mm_OK_le (d' := d - 1 + 1) (by omega) C
  refine mm_rng (fun hr _ => ?_)
  have ap1 : -2147483648 ≤ p1 ∧ p1 < 2147483648 := mm_ok_at hr (i := 1) rfl
  have ap2 : -2147483648 ≤ p2 ∧ p2 < 2147483648 := mm_ok_at hr (i := 2) rfl
  have f0 : mm_fr [(66, 0), (66, 3)] [69] h h := mm_fr_rf
  have g1 : -2147483648 ≤ h.1 66 0 ∧ h.1 66 0 ≤ 2147483647 := i0.1 66 0
  have g2 : 0 ≤ h.1 66 23 ∧ h.1 66 23 ≤ 40 := i0.1 66 23
  have g3 : 0 ≤ h.1 66 21 ∧ h.1 66 21 ≤ 20 := i0.1 66 21
  have g4 : 0 ≤ h.1 66 3 ∧ h.1 66 3 ≤ 9 := i0.1 66 3
  refine mm_aload_n C (mm_dec dk_X12_takes 0 rfl) rfl ?_
  refine mm_iconst C (mm_dec dk_X12_takes 1 rfl) ⟨by decide, by decide⟩ ?_
  refine mm_puti C fl_X12_188 (mm_dec dk_X12_takes 2 rfl) rfl rfl rfl (Or.inl ⟨rfl, rfl⟩) ?_
  have i1 : mm_inv (mm_pf h 66 0 0) := mm_inv_pf i0 (show -2147483648 ≤ 0 ∧ 0 ≤ 2147483647 from ⟨by omega, by omega⟩) (by decide)
  have f1 : mm_fr [(66, 0), (66, 3)] [69] h (mm_pf h 66 0 0) := mm_fr_pf f0 (by decide)
  obtain ⟨h1, eh1⟩ : ∃ z, z = mm_pf h 66 0 0 := ⟨_, rfl⟩
  rw [← eh1] at i1 f1 ⊢
  have qh1 : h1.1 66 0 = 0 := by rw [eh1]; exact mm_pf_same _ _ _ _
  have qh1_5 : h1.1 66 3 = h.1 66 3 := by rw [eh1]; exact mm_pf_ne _ _ (by decide)
  have qh1_6 : h1.1 66 21 = h.1 66 21 := by rw [eh1]; exact mm_pf_ne _ _ (by decide)
  have qh1_7 : h1.1 66 23 = h.1 66 23 := by rw [eh1]; exact mm_pf_ne _ _ (by decide)
  refine mm_aload_n C (mm_dec dk_X12_takes 3 rfl) rfl ?_
  refine mm_iload_n C (mm_dec dk_X12_takes 4 rfl) rfl ?_
  have J21 : ∀ (s21_1 : Int) (bs21_1 : 0 ≤ s21_1 ∧ s21_1 ≤ 1) (w21_0 : ((s21_1 = 1 ∧ (0 ≤ p1 ∧ p1 ≤ 8)) ∨ (s21_1 = 0 ∧ (p1 < 0 ∨ 8 < p1)))) (w21_1 : h1.1 66 0 = 0) (vs21_1 : (s21_1 = 0) ∨ (0 ≤ p1 ∧ p1 ≤ 8 ∧ s21_1 = 1)), mm_W x 0 0 21 [mR 66, mI p1, mI p2, mU] [mI s21_1, mR 66] h1 := by
    intro s21_1 bs21_1 w21_0 w21_1 vs21_1
    refine mm_iconst C (mm_dec dk_X12_takes 12 rfl) ⟨by decide, by decide⟩ ?_
    refine mm_cVi (rest := []) C1 ev_X12_251 (mm_dec dk_X12_takes 13 rfl) (c_X12_right_q x.2.1 hl (d - 1) (by omega) h1 i1 s21_1 1 ⟨by omega, by omega⟩ (by omega)) rfl rfl (Nat.le_of_ble_eq_true rfl) ⟨by decide, by decide⟩ rfl (fun r22 h22c hp22 => ?_) (fun _ _ q => q.elim)
    obtain ⟨b22, i22c, g22c, y22_0⟩ := hp22
    have f22c : mm_fr [(66, 0), (66, 3)] [69] h h22c := mm_fr_tr f1 g22c (by decide +kernel)
    have q22c_9 : h22c.1 66 3 = h1.1 66 3 := g22c.1 66 3 (by decide)
    have q22c_10 : h22c.1 66 21 = h1.1 66 21 := g22c.1 66 21 (by decide)
    have q22c_11 : h22c.1 66 23 = h1.1 66 23 := g22c.1 66 23 (by decide)
    have g12 : -2147483648 ≤ (h22c.1 66 0) ∧ (h22c.1 66 0) ≤ 2147483647 := i22c.1 66 0
    have J56 : ∀ (w56_0 : (((0 ≤ p1 ∧ p1 ≤ 8) ∧ h22c.1 66 0 = 0 ∧ (0 < h.1 66 23 ∨ p2 < 0 ∨ (p1 = 8 ∧ 9 < p2) ∨ (p1 ≠ 8 ∧ 99 < p2))) ∨ ((p1 < 0 ∨ 8 < p1) ∧ h22c.1 66 0 = 1))), mm_W x 0 0 56 [mU, mU, mU, mU] [] h22c := by
      intro w56_0
      refine mm_iconst C (mm_dec dk_X12_takes 28 rfl) ⟨by decide, by decide⟩ ?_
      exact mm_zret C T (mm_dec dk_X12_takes 29 rfl) (by decide : 0 ≤ 0) (by decide : 0 ≤ 0) (by omega) ⟨_, rfl, ⟨⟨by omega, by omega⟩, i22c, f22c, by omega, by first | exact ⟨0, Or.inr ⟨rfl, by omega⟩, mm_up_no (by decide) (fun j => f22c.2 69 (by decide) j)⟩ | exact ⟨0, Or.inr ⟨rfl, by omega⟩, mm_up_no (by decide) (fun j => (mm_sm_pf 69 eh22c j).trans (g22c.2 69 (by decide) j |>.trans (mm_sm_pf 69 eh1 j)))⟩ | exact ⟨0, Or.inr ⟨rfl, by omega⟩, mm_up_no (by decide) (fun j => (g22c.2 69 (by decide) j).trans (mm_sm_pf 69 eh1 j))⟩ | exact ⟨1, Or.inl ⟨rfl, by omega, by omega⟩, mm_up_pa (fun j => (g22c.2 69 (by decide) j).trans (mm_sm_pf 69 eh1 j)) eh22c (fun _ => rfl) rfl rfl⟩, by omega⟩⟩
    refine mm_if_eq (tgt := 56) C (mm_dec dk_X12_takes 14 rfl) (by decide) (fun c25 => ?_) (fun c25 => ?_)
    · skip
      refine mm_fgt 0 ?_
      refine mm_fgt 1 ?_
      refine mm_fgt 2 ?_
      exact J56 (by omega)
    · skip
      refine mm_aload_n C (mm_dec dk_X12_takes 15 rfl) rfl ?_
      refine mm_geti C fl_X12_222 (mm_dec dk_X12_takes 16 rfl) rfl rfl (Or.inl rfl) ?_
      refine mm_if_gt (tgt := 56) C (mm_dec dk_X12_takes 17 rfl) (by decide) (fun c32 => ?_) (fun c32 => ?_)
      · skip
        refine mm_fgt 0 ?_
        refine mm_fgt 1 ?_
        refine mm_fgt 2 ?_
        exact J56 (by omega)
      · skip
        refine mm_iload_n C (mm_dec dk_X12_takes 18 rfl) rfl ?_
        refine mm_if_lt (tgt := 56) C (mm_dec dk_X12_takes 19 rfl) (by decide) (fun c36 => ?_) (fun c36 => ?_)
        · skip
          refine mm_fgt 0 ?_
          refine mm_fgt 1 ?_
          refine mm_fgt 2 ?_
          exact J56 (by omega)
        · skip
          refine mm_iload_n C (mm_dec dk_X12_takes 20 rfl) rfl ?_
          refine mm_iload_n C (mm_dec dk_X12_takes 21 rfl) rfl ?_
          refine mm_bipush C (mm_dec dk_X12_takes 22 rfl) ⟨by decide, by decide⟩ ?_
          have J53 : ∀ (s53_1 : Int) (bs53_1 : 9 ≤ s53_1 ∧ s53_1 ≤ 99) (w53_0 : ((p1 = 8 ∧ s53_1 = 9) ∨ (p1 ≠ 8 ∧ s53_1 = 99))) (w53_1 : (0 ≤ p1 ∧ p1 ≤ 8)) (w53_2 : h22c.1 66 0 = 0) (w53_3 : h.1 66 23 ≤ 0) (w53_4 : 0 ≤ p2) (vs53_1 : (p1 = 8 ∧ s53_1 = 9) ∨ (p1 ≠ 8 ∧ s53_1 = 99)), mm_W x 0 0 53 [mR 66, mI p1, mI p2, mU] [mI s53_1, mI p2] h22c := by
            intro s53_1 bs53_1 w53_0 w53_1 w53_2 w53_3 w53_4 vs53_1
            refine mm_icmp_le (tgt := 58) C (mm_dec dk_X12_takes 27 rfl) (by decide) (fun c53 => ?_) (fun c53 => ?_)
            · skip
              refine mm_iload_n C (mm_dec dk_X12_takes 30 rfl) rfl ?_
              refine mm_bipush C (mm_dec dk_X12_takes 31 rfl) ⟨by decide, by decide⟩ ?_
              refine mm_icmp_ne (tgt := 71) C (mm_dec dk_X12_takes 32 rfl) (by decide) (fun c61 => ?_) (fun c61 => ?_)
              · skip
                refine mm_iconst C (mm_dec dk_X12_takes 38 rfl) ⟨by decide, by decide⟩ ?_
                have J73 : ∀ (n : Nat) (x73_3 : Int) (bx73_3 : 0 ≤ x73_3 ∧ x73_3 ≤ 20) (w73_0 : (p2 ≠ 0 ∨ mm_fd (fun j => h.2.1 67 (h.2.1 78 j)) p1 (x73_3).toNat = 0)) (w73_1 : x73_3 ≤ h.1 66 21) (w73_2 : h22c.1 66 0 = 0) (w73_3 : (0 ≤ p1 ∧ p1 ≤ 8)) (w73_4 : (h.1 66 23 ≤ 0 ∧ 0 ≤ p2 ∧ p1 ≠ 8 ∧ p2 ≤ 99)), (20 - x73_3 : Int) < n → mm_W x 0 0 73 [mR 66, mI p1, mI p2, mI x73_3] [] h22c := by
                  intro n
                  induction n with
                  | zero =>
                    intro x73_3 bx73_3 w73_0 w73_1 w73_2 w73_3 w73_4 hm
                    exfalso; omega
                  | succ n ih73 =>
                    intro x73_3 bx73_3 w73_0 w73_1 w73_2 w73_3 w73_4 hm73
                    have z67 : ∀ j, h22c.2.1 67 j = h.2.1 67 j := fun j => f22c.2 67 (by decide) j
                    have z78 : ∀ j, h22c.2.1 78 j = h.2.1 78 j := fun j => f22c.2 78 (by decide) j
                    have z67p : h22c.2.1 67 (h22c.2.1 78 x73_3) = h.2.1 67 (h.2.1 78 x73_3) := by rw [z67, z78]
                    have zq := mm_fd_rg (fun j => h.2.1 67 (h.2.1 78 j)) p1 (h.1 66 21).toNat
                    refine mm_iload_n C (mm_dec dk_X12_takes 40 rfl) rfl ?_
                    refine mm_aload_n C (mm_dec dk_X12_takes 41 rfl) rfl ?_
                    refine mm_geti C fl_X12_216 (mm_dec dk_X12_takes 42 rfl) rfl rfl (Or.inl rfl) ?_
                    refine mm_icmp_ge (tgt := 108) C (mm_dec dk_X12_takes 43 rfl) (by decide) (fun c78 => ?_) (fun c78 => ?_)
                    · skip
                      have ze : p2 ≠ 0 ∨ mm_fd (fun j => h.2.1 67 (h.2.1 78 j)) p1 (h.1 66 21).toNat = 0 := w73_0.imp id (fun w => (mm_fd_end w (by omega)).symm)
                      refine mm_aload_n C (mm_dec dk_X12_takes 59 rfl) rfl ?_
                      refine mm_getr (t := 69) C fl_X12_16 (mm_dec dk_X12_takes 60 rfl) rfl rfl (mm_ref i22c rfl) ?_
                      refine mm_iload_n C (mm_dec dk_X12_takes 61 rfl) rfl ?_
                      refine mm_iload_n C (mm_dec dk_X12_takes 62 rfl) rfl ?_
                      refine mm_iast C (mm_dec dk_X12_takes 63 rfl) rfl (by omega) (by omega) ?_
                      have i3 : mm_inv (mm_pa h22c 69 p1 p2) := mm_inv_pa i22c (show 0 ≤ p2 ∧ p2 ≤ 99 from ⟨by omega, by omega⟩)
                      have f3 : mm_fr [(66, 0), (66, 3)] [69] h (mm_pa h22c 69 p1 p2) := mm_fr_pa f22c (by decide)
                      obtain ⟨h3, eh3⟩ : ∃ z, z = mm_pa h22c 69 p1 p2 := ⟨_, rfl⟩
                      rw [← eh3] at i3 f3 ⊢
                      have qh3_13 : h3.1 66 0 = h22c.1 66 0 := by rw [eh3]; rfl
                      have qh3_14 : h3.1 66 3 = h22c.1 66 3 := by rw [eh3]; rfl
                      have qh3_15 : h3.1 66 21 = h22c.1 66 21 := by rw [eh3]; rfl
                      have qh3_16 : h3.1 66 23 = h22c.1 66 23 := by rw [eh3]; rfl
                      refine mm_iconst C (mm_dec dk_X12_takes 64 rfl) ⟨by decide, by decide⟩ ?_
                      exact mm_zret C T (mm_dec dk_X12_takes 65 rfl) (by decide : 0 ≤ 0) (by decide : 0 ≤ 0) (by omega) ⟨_, rfl, ⟨⟨by omega, by omega⟩, i3, f3, by omega, by first | exact ⟨0, Or.inr ⟨rfl, by omega⟩, mm_up_no (by decide) (fun j => f3.2 69 (by decide) j)⟩ | exact ⟨0, Or.inr ⟨rfl, by omega⟩, mm_up_no (by decide) (fun j => (mm_sm_pf 69 eh3 j).trans (g22c.2 69 (by decide) j |>.trans (mm_sm_pf 69 eh1 j)))⟩ | exact ⟨0, Or.inr ⟨rfl, by omega⟩, mm_up_no (by decide) (fun j => (g22c.2 69 (by decide) j).trans (mm_sm_pf 69 eh1 j))⟩ | exact ⟨1, Or.inl ⟨rfl, by omega, by omega⟩, mm_up_pa (fun j => (g22c.2 69 (by decide) j).trans (mm_sm_pf 69 eh1 j)) eh3 (fun _ => rfl) rfl rfl⟩, by omega⟩⟩
                    · skip
                      refine mm_aload_n C (mm_dec dk_X12_takes 44 rfl) rfl ?_
                      refine mm_getr (t := 67) C fl_X12_7 (mm_dec dk_X12_takes 45 rfl) rfl rfl (mm_ref i22c rfl) ?_
                      refine mm_aload_n C (mm_dec dk_X12_takes 46 rfl) rfl ?_
                      refine mm_getr (t := 78) C fl_X12_45 (mm_dec dk_X12_takes 47 rfl) rfl rfl (mm_ref i22c rfl) ?_
                      refine mm_iload_n C (mm_dec dk_X12_takes 48 rfl) rfl ?_
                      refine mm_iald C (mm_dec dk_X12_takes 49 rfl) rfl (by omega) (by omega) ?_
                      have g17 : 0 ≤ (h22c.2.1 78 x73_3) ∧ (h22c.2.1 78 x73_3) ≤ 399 := i22c.2.1 78 x73_3
                      refine mm_iald C (mm_dec dk_X12_takes 50 rfl) rfl (by omega) (by omega) ?_
                      have g18 : 0 ≤ (h22c.2.1 67 (h22c.2.1 78 x73_3)) ∧ (h22c.2.1 67 (h22c.2.1 78 x73_3)) ≤ 7 := i22c.2.1 67 (h22c.2.1 78 x73_3)
                      refine mm_iload_n C (mm_dec dk_X12_takes 51 rfl) rfl ?_
                      have J102 : ∀ (w102_0 : (p2 ≠ 0 ∨ h22c.2.1 67 (h22c.2.1 78 x73_3) ≠ p1)), mm_W x 0 0 102 [mR 66, mI p1, mI p2, mI x73_3] [] h22c := by
                        intro w102_0
                        refine mm_iincL (ls2 := [mR 66, mI p1, mI p2, mI (x73_3 + 1)]) C (mm_dec dk_X12_takes 57 rfl) rfl (by decide) ⟨by omega, by omega⟩ rfl ?_
                        refine mm_goto (tgt := 73) C (mm_dec dk_X12_takes 58 rfl) (by decide) ?_
                        exact ih73 (x73_3 + 1) ⟨by omega, by omega⟩ (by first | exact Or.inr rfl | exact w73_0.elim Or.inl (fun w => w102_0.elim Or.inl (fun z => Or.inr (mm_fd_step w (by omega) (show h.2.1 67 (h.2.1 78 x73_3) ≠ p1 by rw [← z67p]; exact z))))) (by omega) (by omega) (by omega) (by omega) (by omega)
                      refine mm_icmp_ne (tgt := 102) C (mm_dec dk_X12_takes 52 rfl) (by decide) (fun c93 => ?_) (fun c93 => ?_)
                      · skip
                        exact J102 (by omega)
                      · skip
                        refine mm_iload_n C (mm_dec dk_X12_takes 53 rfl) rfl ?_
                        refine mm_if_ne (tgt := 102) C (mm_dec dk_X12_takes 54 rfl) (by decide) (fun c97 => ?_) (fun c97 => ?_)
                        · skip
                          exact J102 (by omega)
                        · skip
                          have zh : 1 = mm_fd (fun j => h.2.1 67 (h.2.1 78 j)) p1 (h.1 66 21).toNat := mm_fd_hit (i := x73_3) (by omega) (by omega) (show h.2.1 67 (h.2.1 78 x73_3) = p1 by rw [← z67p]; omega)
                          refine mm_iconst C (mm_dec dk_X12_takes 55 rfl) ⟨by decide, by decide⟩ ?_
                          exact mm_zret C T (mm_dec dk_X12_takes 56 rfl) (by decide : 0 ≤ 0) (by decide : 0 ≤ 0) (by omega) ⟨_, rfl, ⟨⟨by omega, by omega⟩, i22c, f22c, by omega, by first | exact ⟨0, Or.inr ⟨rfl, by omega⟩, mm_up_no (by decide) (fun j => f22c.2 69 (by decide) j)⟩ | exact ⟨0, Or.inr ⟨rfl, by omega⟩, mm_up_no (by decide) (fun j => (mm_sm_pf 69 eh22c j).trans (g22c.2 69 (by decide) j |>.trans (mm_sm_pf 69 eh1 j)))⟩ | exact ⟨0, Or.inr ⟨rfl, by omega⟩, mm_up_no (by decide) (fun j => (g22c.2 69 (by decide) j).trans (mm_sm_pf 69 eh1 j))⟩ | exact ⟨1, Or.inl ⟨rfl, by omega, by omega⟩, mm_up_pa (fun j => (g22c.2 69 (by decide) j).trans (mm_sm_pf 69 eh1 j)) eh22c (fun _ => rfl) rfl rfl⟩, by omega⟩⟩
                refine mm_istore_nL (ls2 := [mR 66, mI p1, mI p2, mI 0]) C (mm_dec dk_X12_takes 39 rfl) (by decide) rfl ?_
                exact J73 (((20 - 0) : Int) + 1).toNat 0 ⟨by omega, by omega⟩ (by first | exact Or.inr rfl | exact w73_0.elim Or.inl (fun w => w102_0.elim Or.inl (fun z => Or.inr (mm_fd_step w (by omega) (show h.2.1 67 (h.2.1 78 x73_3) ≠ p1 by rw [← z67p]; exact z))))) (by omega) (by omega) (by omega) (by omega) (by omega)
              · skip
                refine mm_aload_n C (mm_dec dk_X12_takes 33 rfl) rfl ?_
                refine mm_iload_n C (mm_dec dk_X12_takes 34 rfl) rfl ?_
                refine mm_puti C fl_X12_198 (mm_dec dk_X12_takes 35 rfl) rfl rfl rfl (Or.inl ⟨rfl, rfl⟩) ?_
                have i4 : mm_inv (mm_pf h22c 66 3 p2) := mm_inv_pf i22c (show 0 ≤ p2 ∧ p2 ≤ 9 from ⟨by omega, by omega⟩) (by decide)
                have f4 : mm_fr [(66, 0), (66, 3)] [69] h (mm_pf h22c 66 3 p2) := mm_fr_pf f22c (by decide)
                obtain ⟨h4, eh4⟩ : ∃ z, z = mm_pf h22c 66 3 p2 := ⟨_, rfl⟩
                rw [← eh4] at i4 f4 ⊢
                have qh4 : h4.1 66 3 = p2 := by rw [eh4]; exact mm_pf_same _ _ _ _
                have qh4_19 : h4.1 66 0 = h22c.1 66 0 := by rw [eh4]; exact mm_pf_ne _ _ (by decide)
                have qh4_20 : h4.1 66 21 = h22c.1 66 21 := by rw [eh4]; exact mm_pf_ne _ _ (by decide)
                have qh4_21 : h4.1 66 23 = h22c.1 66 23 := by rw [eh4]; exact mm_pf_ne _ _ (by decide)
                refine mm_iconst C (mm_dec dk_X12_takes 36 rfl) ⟨by decide, by decide⟩ ?_
                exact mm_zret C T (mm_dec dk_X12_takes 37 rfl) (by decide : 0 ≤ 0) (by decide : 0 ≤ 0) (by omega) ⟨_, rfl, ⟨⟨by omega, by omega⟩, i4, f4, by omega, by first | exact ⟨0, Or.inr ⟨rfl, by omega⟩, mm_up_no (by decide) (fun j => f4.2 69 (by decide) j)⟩ | exact ⟨0, Or.inr ⟨rfl, by omega⟩, mm_up_no (by decide) (fun j => (mm_sm_pf 69 eh4 j).trans (g22c.2 69 (by decide) j |>.trans (mm_sm_pf 69 eh1 j)))⟩ | exact ⟨0, Or.inr ⟨rfl, by omega⟩, mm_up_no (by decide) (fun j => (g22c.2 69 (by decide) j).trans (mm_sm_pf 69 eh1 j))⟩ | exact ⟨1, Or.inl ⟨rfl, by omega, by omega⟩, mm_up_pa (fun j => (g22c.2 69 (by decide) j).trans (mm_sm_pf 69 eh1 j)) eh4 (fun _ => rfl) rfl rfl⟩, by omega⟩⟩
            · skip
              refine mm_fgt 0 ?_
              refine mm_fgt 1 ?_
              refine mm_fgt 2 ?_
              exact J56 (by omega)
          refine mm_icmp_ne (tgt := 51) C (mm_dec dk_X12_takes 23 rfl) (by decide) (fun c43 => ?_) (fun c43 => ?_)
          · skip
            refine mm_bipush C (mm_dec dk_X12_takes 26 rfl) ⟨by decide, by decide⟩ ?_
            exact J53 99 ⟨by omega, by omega⟩ (by omega) (by omega) (by omega) (by omega) (by omega) (Or.inr (⟨by omega, rfl⟩))
          · skip
            refine mm_bipush C (mm_dec dk_X12_takes 24 rfl) ⟨by decide, by decide⟩ ?_
            refine mm_goto (tgt := 53) C (mm_dec dk_X12_takes 25 rfl) (by decide) ?_
            exact J53 9 ⟨by omega, by omega⟩ (by omega) (by omega) (by omega) (by omega) (by omega) (Or.inl ⟨by omega, rfl⟩)
  have J20 : ∀ (w20_0 : (p1 < 0 ∨ 8 < p1)) (w20_1 : h1.1 66 0 = 0), mm_W x 0 0 20 [mR 66, mI p1, mI p2, mU] [mR 66] h1 := by
    intro w20_0 w20_1
    refine mm_iconst C (mm_dec dk_X12_takes 11 rfl) ⟨by decide, by decide⟩ ?_
    exact J21 0 ⟨by omega, by omega⟩ (by omega) (by omega) (Or.inl rfl)
  refine mm_if_lt (tgt := 20) C (mm_dec dk_X12_takes 5 rfl) (by decide) (fun c7 => ?_) (fun c7 => ?_)
  · skip
    exact J20 (by omega) (by omega)
  · skip
    refine mm_iload_n C (mm_dec dk_X12_takes 6 rfl) rfl ?_
    refine mm_bipush C (mm_dec dk_X12_takes 7 rfl) ⟨by decide, by decide⟩ ?_
    refine mm_icmp_gt (tgt := 20) C (mm_dec dk_X12_takes 8 rfl) (by decide) (fun c13 => ?_) (fun c13 => ?_)
    · skip
      exact J20 (by omega) (by omega)
    · skip
      refine mm_iconst C (mm_dec dk_X12_takes 9 rfl) ⟨by decide, by decide⟩ ?_
      refine mm_goto (tgt := 21) C (mm_dec dk_X12_takes 10 rfl) (by decide) ?_
      exact J21 1 ⟨by omega, by omega⟩ (by omega) (by omega) (Or.inr (⟨by omega, by omega, rfl⟩))
set_option maxRecDepth 100000 in
set_option maxHeartbeats 4000000 in
theorem c_X12_post_q (l : Launch) (hl : l.stackTraces = false) (d : Nat) (hd : 3 ≤ d) (h : mH) (i0 : mm_inv h) (p1 : Int) (p2 : Int) (p3 : Int) : mm_Met l d yX12_post cX12_post 4 (some .int) [mR 66, mI p1, mI p2, mI p3] h (mm_pi fun r h2 => (-1 ≤ r ∧ r ≤ 19) ∧ mm_inv h2 ∧ mm_fr [(66, 0), (66, 21)] [78, 79] h h2 ∧ (((0 ≤ p1 ∧ p1 < h.1 66 1 ∧ 0 ≤ p2 ∧ p2 < h.1 66 2) ∧ h2.1 66 0 = 0 ∧ ((r = h.1 66 21 ∧ (h.1 66 21 ≤ 19 ∧ 0 ≤ p3 ∧ p3 ≤ 99 ∧ h.2.1 69 (h.2.1 67 (20 * p2 + p1)) ≠ 0) ∧ h2.1 66 21 = h.1 66 21 + 1) ∨ (r = -1 ∧ (20 ≤ h.1 66 21 ∨ p3 < 0 ∨ 99 < p3 ∨ h.2.1 69 (h.2.1 67 (20 * p2 + p1)) = 0) ∧ h2.1 66 21 = h.1 66 21))) ∨ ((p1 < 0 ∨ h.1 66 1 ≤ p1 ∨ p2 < 0 ∨ h.1 66 2 ≤ p2) ∧ h2.1 66 0 = 1 ∧ r = 0 ∧ h2.1 66 21 = h.1 66 21)) ∧ (∃ f : Int, ((f = 1 ∧ h2.1 66 21 = h.1 66 21 + 1) ∨ (f = 0 ∧ h2.1 66 21 = h.1 66 21)) ∧ mm_up h h2 78 (h.1 66 21) (20 * p2 + p1) f ∧ mm_up h h2 79 (h.1 66 21) p3 f)) mm_nx 0 0 := by
  refine mm_ofW (ls := [mR 66, mI p1, mI p2, mI p3]) hl (by decide) rfl (Nat.le_of_ble_eq_true rfl) ?_
  intro x hxl C T hnm htb
  subst hxl
  have C1 := mm_OK_le (d' := d - 1 + 1) (by omega) C
  refine mm_rng (fun hr _ => ?_)
  have ap1 : -2147483648 ≤ p1 ∧ p1 < 2147483648 := mm_ok_at hr (i := 1) rfl
  have ap2 : -2147483648 ≤ p2 ∧ p2 < 2147483648 := mm_ok_at hr (i := 2) rfl
  have ap3 : -2147483648 ≤ p3 ∧ p3 < 2147483648 := mm_ok_at hr (i := 3) rfl
  have f0 : mm_fr [(66, 0), (66, 21)] [78, 79] h h := mm_fr_rf
  have g1 : -2147483648 ≤ h.1 66 0 ∧ h.1 66 0 ≤ 2147483647 := i0.1 66 0
  have g2 : 1 ≤ h.1 66 1 ∧ h.1 66 1 ≤ 20 := i0.1 66 1
  have g3 : 1 ≤ h.1 66 2 ∧ h.1 66 2 ≤ 20 := i0.1 66 2
  have g4 : 0 ≤ h.1 66 23 ∧ h.1 66 23 ≤ 40 := i0.1 66 23
  have g5 : 0 ≤ h.1 66 21 ∧ h.1 66 21 ≤ 20 := i0.1 66 21
  refine mm_aload_n C (mm_dec dk_X12_post 0 rfl) rfl ?_
  refine mm_iload_n C (mm_dec dk_X12_post 1 rfl) rfl ?_
  refine mm_iload_n C (mm_dec dk_X12_post 2 rfl) rfl ?_
  refine mm_cVi (rest := []) C1 ev_X12_255 (mm_dec dk_X12_post 3 rfl) (c_X12_isCell_q x.2.1 hl (d - 1) (by omega) h i0 p1 p2) rfl rfl (Nat.le_of_ble_eq_true rfl) ⟨by decide, by decide⟩ rfl (fun r3 h3c hp3 => ?_) (fun _ _ q => q.elim)
  obtain ⟨b3, i3c, g3c, y3_0, y3_1⟩ := hp3
  have f3c : mm_fr [(66, 0), (66, 21)] [78, 79] h h3c := mm_fr_tr f0 g3c (by decide +kernel)
  have q3c_7 : h3c.1 66 1 = h.1 66 1 := g3c.1 66 1 (by decide)
  have q3c_8 : h3c.1 66 2 = h.1 66 2 := g3c.1 66 2 (by decide)
  have q3c_9 : h3c.1 66 21 = h.1 66 21 := g3c.1 66 21 (by decide)
  have q3c_10 : h3c.1 66 23 = h.1 66 23 := g3c.1 66 23 (by decide)
  have g11 : -2147483648 ≤ (h3c.1 66 0) ∧ (h3c.1 66 0) ≤ 2147483647 := i3c.1 66 0
  refine mm_if_ne (tgt := 11) C (mm_dec dk_X12_post 4 rfl) (by decide) (fun c6 => ?_) (fun c6 => ?_)
  · skip
    have z1 : h3c.2.1 69 (h3c.2.1 67 (20 * p2 + p1)) = h.2.1 69 (h.2.1 67 (20 * p2 + p1)) := by rw [f3c.2 67 (by decide), f3c.2 69 (by decide)]
    refine mm_aload_n C (mm_dec dk_X12_post 7 rfl) rfl ?_
    refine mm_geti C fl_X12_216 (mm_dec dk_X12_post 8 rfl) rfl rfl (Or.inl rfl) ?_
    refine mm_bipush C (mm_dec dk_X12_post 9 rfl) ⟨by decide, by decide⟩ ?_
    have J49 : ∀ (w49_0 : (0 ≤ p1 ∧ p1 < h.1 66 1 ∧ 0 ≤ p2 ∧ p2 < h.1 66 2)) (w49_1 : h3c.1 66 0 = 0) (w49_2 : (20 ≤ h.1 66 21 ∨ p3 < 0 ∨ 99 < p3 ∨ h.2.1 69 (h.2.1 67 (20 * p2 + p1)) = 0)), mm_W x 0 0 49 [mU, mU, mU, mU] [] h3c := by
      intro w49_0 w49_1 w49_2
      refine mm_iconst C (mm_dec dk_X12_post 28 rfl) ⟨by decide, by decide⟩ ?_
      exact mm_iret C T (mm_dec dk_X12_post 29 rfl) (by decide : 0 ≤ 0) (by decide : 0 ≤ 0) ⟨_, rfl, ⟨⟨by omega, by omega⟩, i3c, f3c, by omega, by first | exact ⟨0, Or.inr ⟨rfl, by omega⟩, mm_up_no (by decide) (fun j => g3c.2 78 (by decide) j), mm_up_no (by decide) (fun j => g3c.2 79 (by decide) j)⟩ | exact ⟨1, Or.inl ⟨rfl, by omega⟩, mm_up_pa (fun j => g3c.2 78 (by decide) j) (eh2.trans (by rw [show h3c.1 66 21 = h.1 66 21 by omega])) (fun _ => ((mm_sm_pf 78 eh4 _).trans (mm_sm_pa 78 eh3 (by decide) _))) rfl rfl, mm_up_pav (fun _ => ((mm_sm_pa 79 eh2 (by decide) _).trans (g3c.2 79 (by decide) _))) eh3 (fun _ => (mm_sm_pf 79 eh4 _)) (by omega) (by omega) rfl⟩⟩⟩
    refine mm_icmp_eq (tgt := 49) C (mm_dec dk_X12_post 10 rfl) (by decide) (fun c17 => ?_) (fun c17 => ?_)
    · skip
      refine mm_fgt 0 ?_
      refine mm_fgt 1 ?_
      refine mm_fgt 2 ?_
      refine mm_fgt 3 ?_
      exact J49 (by omega) (by omega) (by omega)
    · skip
      refine mm_iload_n C (mm_dec dk_X12_post 11 rfl) rfl ?_
      refine mm_if_lt (tgt := 49) C (mm_dec dk_X12_post 12 rfl) (by decide) (fun c21 => ?_) (fun c21 => ?_)
      · skip
        refine mm_fgt 0 ?_
        refine mm_fgt 1 ?_
        refine mm_fgt 2 ?_
        refine mm_fgt 3 ?_
        exact J49 (by omega) (by omega) (by omega)
      · skip
        refine mm_iload_n C (mm_dec dk_X12_post 13 rfl) rfl ?_
        refine mm_bipush C (mm_dec dk_X12_post 14 rfl) ⟨by decide, by decide⟩ ?_
        refine mm_icmp_gt (tgt := 49) C (mm_dec dk_X12_post 15 rfl) (by decide) (fun c27 => ?_) (fun c27 => ?_)
        · skip
          refine mm_fgt 0 ?_
          refine mm_fgt 1 ?_
          refine mm_fgt 2 ?_
          refine mm_fgt 3 ?_
          exact J49 (by omega) (by omega) (by omega)
        · skip
          refine mm_aload_n C (mm_dec dk_X12_post 16 rfl) rfl ?_
          refine mm_getr (t := 69) C fl_X12_16 (mm_dec dk_X12_post 17 rfl) rfl rfl (mm_ref i3c rfl) ?_
          refine mm_aload_n C (mm_dec dk_X12_post 18 rfl) rfl ?_
          refine mm_getr (t := 67) C fl_X12_7 (mm_dec dk_X12_post 19 rfl) rfl rfl (mm_ref i3c rfl) ?_
          refine mm_bipush C (mm_dec dk_X12_post 20 rfl) ⟨by decide, by decide⟩ ?_
          refine mm_iload_n C (mm_dec dk_X12_post 21 rfl) rfl ?_
          refine mm_imul C (mm_dec dk_X12_post 22 rfl) ⟨by omega, by omega⟩ ?_
          refine mm_iload_n C (mm_dec dk_X12_post 23 rfl) rfl ?_
          refine mm_iadd C (mm_dec dk_X12_post 24 rfl) ⟨by omega, by omega⟩ ?_
          refine mm_iald C (mm_dec dk_X12_post 25 rfl) rfl (by omega) (by omega) ?_
          have g12 : 0 ≤ (h3c.2.1 67 ((20 * p2) + p1)) ∧ (h3c.2.1 67 ((20 * p2) + p1)) ≤ 7 := i3c.2.1 67 ((20 * p2) + p1)
          refine mm_iald C (mm_dec dk_X12_post 26 rfl) rfl (by omega) (by omega) ?_
          have g13 : 0 ≤ (h3c.2.1 69 (h3c.2.1 67 ((20 * p2) + p1))) ∧ (h3c.2.1 69 (h3c.2.1 67 ((20 * p2) + p1))) ≤ 99 := i3c.2.1 69 (h3c.2.1 67 ((20 * p2) + p1))
          refine mm_if_ne (tgt := 51) C (mm_dec dk_X12_post 27 rfl) (by decide) (fun c46 => ?_) (fun c46 => ?_)
          · skip
            refine mm_aload_n C (mm_dec dk_X12_post 30 rfl) rfl ?_
            refine mm_getr (t := 78) C fl_X12_45 (mm_dec dk_X12_post 31 rfl) rfl rfl (mm_ref i3c rfl) ?_
            refine mm_aload_n C (mm_dec dk_X12_post 32 rfl) rfl ?_
            refine mm_geti C fl_X12_216 (mm_dec dk_X12_post 33 rfl) rfl rfl (Or.inl rfl) ?_
            refine mm_bipush C (mm_dec dk_X12_post 34 rfl) ⟨by decide, by decide⟩ ?_
            refine mm_iload_n C (mm_dec dk_X12_post 35 rfl) rfl ?_
            refine mm_imul C (mm_dec dk_X12_post 36 rfl) ⟨by omega, by omega⟩ ?_
            refine mm_iload_n C (mm_dec dk_X12_post 37 rfl) rfl ?_
            refine mm_iadd C (mm_dec dk_X12_post 38 rfl) ⟨by omega, by omega⟩ ?_
            refine mm_iast C (mm_dec dk_X12_post 39 rfl) rfl (by omega) (by omega) ?_
            have i2 : mm_inv (mm_pa h3c 78 (h3c.1 66 21) ((20 * p2) + p1)) := mm_inv_pa i3c (show 0 ≤ ((20 * p2) + p1) ∧ ((20 * p2) + p1) ≤ 399 from ⟨by omega, by omega⟩)
            have f2 : mm_fr [(66, 0), (66, 21)] [78, 79] h (mm_pa h3c 78 (h3c.1 66 21) ((20 * p2) + p1)) := mm_fr_pa f3c (by decide)
            obtain ⟨h2, eh2⟩ : ∃ z, z = mm_pa h3c 78 (h3c.1 66 21) ((20 * p2) + p1) := ⟨_, rfl⟩
            rw [← eh2] at i2 f2 ⊢
            have qh2_14 : h2.1 66 0 = h3c.1 66 0 := by rw [eh2]; rfl
            have qh2_15 : h2.1 66 1 = h3c.1 66 1 := by rw [eh2]; rfl
            have qh2_16 : h2.1 66 2 = h3c.1 66 2 := by rw [eh2]; rfl
            have qh2_17 : h2.1 66 21 = h3c.1 66 21 := by rw [eh2]; rfl
            have qh2_18 : h2.1 66 23 = h3c.1 66 23 := by rw [eh2]; rfl
            refine mm_aload_n C (mm_dec dk_X12_post 40 rfl) rfl ?_
            refine mm_getr (t := 79) C fl_X12_48 (mm_dec dk_X12_post 41 rfl) rfl rfl (mm_ref i2 rfl) ?_
            refine mm_aload_n C (mm_dec dk_X12_post 42 rfl) rfl ?_
            refine mm_geti C fl_X12_216 (mm_dec dk_X12_post 43 rfl) rfl rfl (Or.inl rfl) ?_
            refine mm_iload_n C (mm_dec dk_X12_post 44 rfl) rfl ?_
            refine mm_iast C (mm_dec dk_X12_post 45 rfl) rfl (by omega) (by omega) ?_
            have i3 : mm_inv (mm_pa h2 79 (h2.1 66 21) p3) := mm_inv_pa i2 (show -2147483648 ≤ p3 ∧ p3 ≤ 2147483647 from ⟨by omega, by omega⟩)
            have f3 : mm_fr [(66, 0), (66, 21)] [78, 79] h (mm_pa h2 79 (h2.1 66 21) p3) := mm_fr_pa f2 (by decide)
            obtain ⟨h3, eh3⟩ : ∃ z, z = mm_pa h2 79 (h2.1 66 21) p3 := ⟨_, rfl⟩
            rw [← eh3] at i3 f3 ⊢
            have qh3_19 : h3.1 66 0 = h2.1 66 0 := by rw [eh3]; rfl
            have qh3_20 : h3.1 66 1 = h2.1 66 1 := by rw [eh3]; rfl
            have qh3_21 : h3.1 66 2 = h2.1 66 2 := by rw [eh3]; rfl
            have qh3_22 : h3.1 66 21 = h2.1 66 21 := by rw [eh3]; rfl
            have qh3_23 : h3.1 66 23 = h2.1 66 23 := by rw [eh3]; rfl
            refine mm_aload_n C (mm_dec dk_X12_post 46 rfl) rfl ?_
            refine mm_dup C (mm_dec dk_X12_post 47 rfl) (show (2 : Nat) ≠ 1 by decide) ?_
            refine mm_geti C fl_X12_216 (mm_dec dk_X12_post 48 rfl) rfl rfl (Or.inl rfl) ?_
            refine mm_iconst C (mm_dec dk_X12_post 49 rfl) ⟨by decide, by decide⟩ ?_
            refine mm_iadd C (mm_dec dk_X12_post 50 rfl) ⟨by omega, by omega⟩ ?_
            refine mm_puti C fl_X12_216 (mm_dec dk_X12_post 51 rfl) rfl rfl rfl (Or.inl ⟨rfl, rfl⟩) ?_
            have i4 : mm_inv (mm_pf h3 66 21 ((h3.1 66 21) + 1)) := mm_inv_pf i3 (show 0 ≤ ((h3.1 66 21) + 1) ∧ ((h3.1 66 21) + 1) ≤ 20 from ⟨by omega, by omega⟩) (by decide)
            have f4 : mm_fr [(66, 0), (66, 21)] [78, 79] h (mm_pf h3 66 21 ((h3.1 66 21) + 1)) := mm_fr_pf f3 (by decide)
            obtain ⟨h4, eh4⟩ : ∃ z, z = mm_pf h3 66 21 ((h3.1 66 21) + 1) := ⟨_, rfl⟩
            rw [← eh4] at i4 f4 ⊢
            have qh4 : h4.1 66 21 = ((h3.1 66 21) + 1) := by rw [eh4]; exact mm_pf_same _ _ _ _
            have qh4_24 : h4.1 66 0 = h3.1 66 0 := by rw [eh4]; exact mm_pf_ne _ _ (by decide)
            have qh4_25 : h4.1 66 1 = h3.1 66 1 := by rw [eh4]; exact mm_pf_ne _ _ (by decide)
            have qh4_26 : h4.1 66 2 = h3.1 66 2 := by rw [eh4]; exact mm_pf_ne _ _ (by decide)
            have qh4_27 : h4.1 66 23 = h3.1 66 23 := by rw [eh4]; exact mm_pf_ne _ _ (by decide)
            refine mm_aload_n C (mm_dec dk_X12_post 52 rfl) rfl ?_
            refine mm_geti C fl_X12_216 (mm_dec dk_X12_post 53 rfl) rfl rfl (Or.inl rfl) ?_
            refine mm_iconst C (mm_dec dk_X12_post 54 rfl) ⟨by decide, by decide⟩ ?_
            refine mm_isub C (mm_dec dk_X12_post 55 rfl) ⟨by omega, by omega⟩ ?_
            exact mm_iret C T (mm_dec dk_X12_post 56 rfl) (by decide : 0 ≤ 0) (by decide : 0 ≤ 0) ⟨_, rfl, ⟨⟨by omega, by omega⟩, i4, f4, by omega, by first | exact ⟨0, Or.inr ⟨rfl, by omega⟩, mm_up_no (by decide) (fun j => g3c.2 78 (by decide) j), mm_up_no (by decide) (fun j => g3c.2 79 (by decide) j)⟩ | exact ⟨1, Or.inl ⟨rfl, by omega⟩, mm_up_pa (fun j => g3c.2 78 (by decide) j) (eh2.trans (by rw [show h3c.1 66 21 = h.1 66 21 by omega])) (fun _ => ((mm_sm_pf 78 eh4 _).trans (mm_sm_pa 78 eh3 (by decide) _))) rfl rfl, mm_up_pav (fun _ => ((mm_sm_pa 79 eh2 (by decide) _).trans (g3c.2 79 (by decide) _))) eh3 (fun _ => (mm_sm_pf 79 eh4 _)) (by omega) (by omega) rfl⟩⟩⟩
          · skip
            refine mm_fgt 0 ?_
            refine mm_fgt 1 ?_
            refine mm_fgt 2 ?_
            refine mm_fgt 3 ?_
            exact J49 (by omega) (by omega) (by omega)
  · skip
    refine mm_iconst C (mm_dec dk_X12_post 5 rfl) ⟨by decide, by decide⟩ ?_
    exact mm_iret C T (mm_dec dk_X12_post 6 rfl) (by decide : 0 ≤ 0) (by decide : 0 ≤ 0) ⟨_, rfl, ⟨⟨by omega, by omega⟩, i3c, f3c, by omega, by first | exact ⟨0, Or.inr ⟨rfl, by omega⟩, mm_up_no (by decide) (fun j => g3c.2 78 (by decide) j), mm_up_no (by decide) (fun j => g3c.2 79 (by decide) j)⟩ | exact ⟨1, Or.inl ⟨rfl, by omega⟩, mm_up_pa (fun j => g3c.2 78 (by decide) j) (eh2.trans (by rw [show h3c.1 66 21 = h.1 66 21 by omega])) (fun _ => ((mm_sm_pf 78 eh4 _).trans (mm_sm_pa 78 eh3 (by decide) _))) rfl rfl, mm_up_pav (fun _ => ((mm_sm_pa 79 eh2 (by decide) _).trans (g3c.2 79 (by decide) _))) eh3 (fun _ => (mm_sm_pf 79 eh4 _)) (by omega) (by omega) rfl⟩⟩⟩
set_option maxRecDepth 100000 in
set_option maxHeartbeats 4000000 in
theorem c_X11_needPost_q (l : Launch) (hl : l.stackTraces = false) (d : Nat) (hd : 8 ≤ d) (h : mH) (i0 : mm_inv h) (p1 : Int) : mm_Met l d yX11_needPost cX11_needPost 2 none [mR 0, mI p1] h (mm_pv fun h2 => h2 = h ∧ 0 ≤ p1 ∧ p1 < (h.1 14 7)) (fun E h' => mm_xn h E h' ∧ (p1 < 0 ∨ h.1 14 7 ≤ p1)) 1 6 := by
  refine mm_ofW (ls := [mR 0, mI p1]) hl (by decide) rfl (Nat.le_of_ble_eq_true rfl) ?_
  intro x hxl C T hnm htb
  subst hxl
  have C1 := mm_OK_le (d' := d - 1 + 1) (by omega) C
  have C8 := mm_OK_le (d' := d - 8 + 8) (by omega) C
  refine mm_rng (fun hr _ => ?_)
  have ap1 : -2147483648 ≤ p1 ∧ p1 < 2147483648 := mm_ok_at hr (i := 1) rfl
  have f0 : mm_fr [] [] h h := mm_fr_rf
  have g1 : 0 ≤ h.1 14 7 ∧ h.1 14 7 ≤ 20 := i0.1 14 7
  refine mm_iload_n C (mm_dec dk_X11_needPost 0 rfl) rfl ?_
  refine mm_if_lt (tgt := 15) C (mm_dec dk_X11_needPost 1 rfl) (by decide) (fun c1 => ?_) (fun c1 => ?_)
  · skip
    exact mm_throwXW C8 T htb th_nse (i := 5) rfl (mm_dec dk_X11_needPost 7 rfl) (mm_dec dk_X11_needPost 8 rfl) (mm_dec dk_X11_needPost 9 rfl) (mm_dec dk_X11_needPost 10 rfl) (mm_dec dk_X11_needPost 11 rfl) (Nat.le_of_ble_eq_true rfl) ⟨by decide, by decide⟩ ⟨by decide, by decide⟩ (⟨⟨rfl, rfl⟩, by omega⟩)
  · skip
    refine mm_iload_n C (mm_dec dk_X11_needPost 2 rfl) rfl ?_
    refine mm_aload_n C (mm_dec dk_X11_needPost 3 rfl) rfl ?_
    refine mm_getr (t := 14) C fl_X11_28 (mm_dec dk_X11_needPost 4 rfl) rfl rfl (mm_ref i0 rfl) ?_
    refine mm_cVi (rest := [mI p1]) C1 ev_X11_191 (mm_dec dk_X11_needPost 5 rfl) (c_X2_posts x.2.1 hl (d - 1) (by omega) h i0 ) rfl rfl (Nat.le_of_ble_eq_true rfl) ⟨by decide, by decide⟩ rfl (fun r9 h9c hp9 => ?_) (fun _ _ q => q.elim)
    obtain ⟨z9, y9⟩ := hp9
    rw [z9, y9]
    refine mm_icmp_lt (tgt := 26) C (mm_dec dk_X11_needPost 6 rfl) (by decide) (fun c12 => ?_) (fun c12 => ?_)
    · skip
      exact mm_vret C T (mm_dec dk_X11_needPost 12 rfl) (by decide : 0 ≤ 1) (by decide : 0 ≤ 6) ⟨rfl, ⟨rfl, by omega, by omega⟩⟩
    · skip
      exact mm_throwXW C8 T htb th_nse (i := 5) rfl (mm_dec dk_X11_needPost 7 rfl) (mm_dec dk_X11_needPost 8 rfl) (mm_dec dk_X11_needPost 9 rfl) (mm_dec dk_X11_needPost 10 rfl) (mm_dec dk_X11_needPost 11 rfl) (Nat.le_of_ble_eq_true rfl) ⟨by decide, by decide⟩ ⟨by decide, by decide⟩ (⟨⟨rfl, rfl⟩, by omega⟩)
set_option maxRecDepth 100000 in
set_option maxHeartbeats 4000000 in
theorem c_X2_lengthen_q (l : Launch) (hl : l.stackTraces = false) (d : Nat) (hd : 0 ≤ d) (h : mH) (i0 : mm_inv h) (p1 : Int) (p2 : Int) (p3 : Int) (p4 : Int) (bp1 : 0 ≤ p1 ∧ p1 ≤ 7) (bp2 : 0 ≤ p2 ∧ p2 ≤ 19) (bp3 : 0 ≤ p3 ∧ p3 ≤ 19) (bp4 : 0 ≤ p4 ∧ p4 ≤ 19) (u0 : (h.2.1 19 p1) ≤ 11) : mm_Met l d yX2_lengthen cX2_lengthen 6 (some .int) [mR 14, mI p1, mI p2, mI p3, mI p4] h (mm_pi fun r h2 => (1 ≤ r ∧ r ≤ 12) ∧ mm_inv h2 ∧ mm_fr [] [19, 20, 21] h h2 ∧ r = h.2.1 19 p1 + 1 ∧ mm_up h h2 19 p1 (h.2.1 19 p1 + 1) 1 ∧ (∃ f : Int, ((p2 = p3 ∧ f = 0) ∨ (p2 ≠ p3 ∧ f = 1)) ∧ mm_up h h2 20 p1 (mm_w (h.2.1 20 p1 + 1)) f) ∧ mm_w3 h h2 21 ((p1 * 12 + h.2.1 19 p1) * 3) p2 p3 p4 1) mm_nx 0 0 := by
  refine mm_ofW (ls := [mR 14, mI p1, mI p2, mI p3, mI p4, mU]) hl (by decide) rfl (Nat.le_of_ble_eq_true rfl) ?_
  intro x hxl C T hnm htb
  subst hxl
  refine mm_rng (fun hr _ => ?_)
  have ap1 : -2147483648 ≤ p1 ∧ p1 < 2147483648 := mm_ok_at hr (i := 1) rfl
  have ap2 : -2147483648 ≤ p2 ∧ p2 < 2147483648 := mm_ok_at hr (i := 2) rfl
  have ap3 : -2147483648 ≤ p3 ∧ p3 < 2147483648 := mm_ok_at hr (i := 3) rfl
  have ap4 : -2147483648 ≤ p4 ∧ p4 < 2147483648 := mm_ok_at hr (i := 4) rfl
  have f0 : mm_fr [] [19, 20, 21] h h := mm_fr_rf
  refine mm_iload_n C (mm_dec dk_X2_lengthen 0 rfl) rfl ?_
  refine mm_bipush C (mm_dec dk_X2_lengthen 1 rfl) ⟨by decide, by decide⟩ ?_
  refine mm_imul C (mm_dec dk_X2_lengthen 2 rfl) ⟨by omega, by omega⟩ ?_
  refine mm_aload_n C (mm_dec dk_X2_lengthen 3 rfl) rfl ?_
  refine mm_getr (t := 19) C fl_X2_25 (mm_dec dk_X2_lengthen 4 rfl) rfl rfl (mm_ref i0 rfl) ?_
  refine mm_iload_n C (mm_dec dk_X2_lengthen 5 rfl) rfl ?_
  refine mm_iald C (mm_dec dk_X2_lengthen 6 rfl) rfl (by omega) (by omega) ?_
  have g1 : 0 ≤ (h.2.1 19 p1) ∧ (h.2.1 19 p1) ≤ 12 := i0.2.1 19 p1
  refine mm_iadd C (mm_dec dk_X2_lengthen 7 rfl) ⟨by omega, by omega⟩ ?_
  refine mm_iconst C (mm_dec dk_X2_lengthen 8 rfl) ⟨by decide, by decide⟩ ?_
  refine mm_imul C (mm_dec dk_X2_lengthen 9 rfl) ⟨by omega, by omega⟩ ?_
  refine mm_istoreL (ls2 := [mR 14, mI p1, mI p2, mI p3, mI p4, mI (((p1 * 12) + (h.2.1 19 p1)) * 3)]) C (mm_dec dk_X2_lengthen 10 rfl) (by decide) rfl ?_
  refine mm_aload_n C (mm_dec dk_X2_lengthen 11 rfl) rfl ?_
  refine mm_getr (t := 21) C fl_X2_31 (mm_dec dk_X2_lengthen 12 rfl) rfl rfl (mm_ref i0 rfl) ?_
  refine mm_iload C (mm_dec dk_X2_lengthen 13 rfl) rfl ?_
  refine mm_iload_n C (mm_dec dk_X2_lengthen 14 rfl) rfl ?_
  refine mm_iast C (mm_dec dk_X2_lengthen 15 rfl) rfl (by omega) (by omega) ?_
  have i1 : mm_inv (mm_pa h 21 (((p1 * 12) + (h.2.1 19 p1)) * 3) p2) := mm_inv_pa i0 (show 0 ≤ p2 ∧ p2 ≤ 19 from ⟨by omega, by omega⟩)
  have f1 : mm_fr [] [19, 20, 21] h (mm_pa h 21 (((p1 * 12) + (h.2.1 19 p1)) * 3) p2) := mm_fr_pa f0 (by decide)
  obtain ⟨h1, eh1⟩ : ∃ z, z = mm_pa h 21 (((p1 * 12) + (h.2.1 19 p1)) * 3) p2 := ⟨_, rfl⟩
  rw [← eh1] at i1 f1 ⊢
  have qh1_2 : h1.2.1 19 p1 = h.2.1 19 p1 := by rw [eh1]; exact mm_pa_ne _ _ (fun q => absurd q.1 (by decide))
  refine mm_aload_n C (mm_dec dk_X2_lengthen 16 rfl) rfl ?_
  refine mm_getr (t := 21) C fl_X2_31 (mm_dec dk_X2_lengthen 17 rfl) rfl rfl (mm_ref i1 rfl) ?_
  refine mm_iload C (mm_dec dk_X2_lengthen 18 rfl) rfl ?_
  refine mm_iconst C (mm_dec dk_X2_lengthen 19 rfl) ⟨by decide, by decide⟩ ?_
  refine mm_iadd C (mm_dec dk_X2_lengthen 20 rfl) ⟨by omega, by omega⟩ ?_
  refine mm_iload_n C (mm_dec dk_X2_lengthen 21 rfl) rfl ?_
  refine mm_iast C (mm_dec dk_X2_lengthen 22 rfl) rfl (by omega) (by omega) ?_
  have i2 : mm_inv (mm_pa h1 21 ((((p1 * 12) + (h.2.1 19 p1)) * 3) + 1) p3) := mm_inv_pa i1 (show 0 ≤ p3 ∧ p3 ≤ 19 from ⟨by omega, by omega⟩)
  have f2 : mm_fr [] [19, 20, 21] h (mm_pa h1 21 ((((p1 * 12) + (h.2.1 19 p1)) * 3) + 1) p3) := mm_fr_pa f1 (by decide)
  obtain ⟨h2, eh2⟩ : ∃ z, z = mm_pa h1 21 ((((p1 * 12) + (h.2.1 19 p1)) * 3) + 1) p3 := ⟨_, rfl⟩
  rw [← eh2] at i2 f2 ⊢
  have qh2_3 : h2.2.1 19 p1 = h1.2.1 19 p1 := by rw [eh2]; exact mm_pa_ne _ _ (fun q => absurd q.1 (by decide))
  refine mm_aload_n C (mm_dec dk_X2_lengthen 23 rfl) rfl ?_
  refine mm_getr (t := 21) C fl_X2_31 (mm_dec dk_X2_lengthen 24 rfl) rfl rfl (mm_ref i2 rfl) ?_
  refine mm_iload C (mm_dec dk_X2_lengthen 25 rfl) rfl ?_
  refine mm_iconst C (mm_dec dk_X2_lengthen 26 rfl) ⟨by decide, by decide⟩ ?_
  refine mm_iadd C (mm_dec dk_X2_lengthen 27 rfl) ⟨by omega, by omega⟩ ?_
  refine mm_iload C (mm_dec dk_X2_lengthen 28 rfl) rfl ?_
  refine mm_iast C (mm_dec dk_X2_lengthen 29 rfl) rfl (by omega) (by omega) ?_
  have i3 : mm_inv (mm_pa h2 21 ((((p1 * 12) + (h.2.1 19 p1)) * 3) + 2) p4) := mm_inv_pa i2 (show 0 ≤ p4 ∧ p4 ≤ 19 from ⟨by omega, by omega⟩)
  have f3 : mm_fr [] [19, 20, 21] h (mm_pa h2 21 ((((p1 * 12) + (h.2.1 19 p1)) * 3) + 2) p4) := mm_fr_pa f2 (by decide)
  obtain ⟨h3, eh3⟩ : ∃ z, z = mm_pa h2 21 ((((p1 * 12) + (h.2.1 19 p1)) * 3) + 2) p4 := ⟨_, rfl⟩
  rw [← eh3] at i3 f3 ⊢
  have qh3_4 : h3.2.1 19 p1 = h2.2.1 19 p1 := by rw [eh3]; exact mm_pa_ne _ _ (fun q => absurd q.1 (by decide))
  refine mm_iload_n C (mm_dec dk_X2_lengthen 30 rfl) rfl ?_
  refine mm_iload_n C (mm_dec dk_X2_lengthen 31 rfl) rfl ?_
  have J59 : ∀ (h59_ : mH) (i59_ : mm_inv h59_) (f59_ : mm_fr [] [19, 20, 21] h h59_) (w59_0 : h59_.2.1 19 p1 = h.2.1 19 p1) (w59_1 : ∀ j, h59_.2.1 19 j = h.2.1 19 j) (w59_2 : (∃ f : Int, ((p2 = p3 ∧ f = 0) ∨ (p2 ≠ p3 ∧ f = 1)) ∧ mm_up h h59_ 20 p1 (mm_w (h.2.1 20 p1 + 1)) f)) (w59_3 : mm_w3 h h59_ 21 ((p1 * 12 + h.2.1 19 p1) * 3) p2 p3 p4 1), mm_W x 0 0 59 [mR 14, mI p1, mU, mU, mU, mU] [] h59_ := by
    intro h59_ i59_ f59_ w59_0 w59_1 w59_2 w59_3
    refine mm_aload_n C (mm_dec dk_X2_lengthen 41 rfl) rfl ?_
    refine mm_getr (t := 19) C fl_X2_25 (mm_dec dk_X2_lengthen 42 rfl) rfl rfl (mm_ref i59_ rfl) ?_
    refine mm_iload_n C (mm_dec dk_X2_lengthen 43 rfl) rfl ?_
    refine mm_dup2 C (mm_dec dk_X2_lengthen 44 rfl) (show (0 : Nat) ≠ 1 by decide) (show (2 : Nat) ≠ 1 by decide) ?_
    refine mm_iald C (mm_dec dk_X2_lengthen 45 rfl) rfl (by omega) (by omega) ?_
    have g5 : 0 ≤ (h59_.2.1 19 p1) ∧ (h59_.2.1 19 p1) ≤ 12 := i59_.2.1 19 p1
    refine mm_iconst C (mm_dec dk_X2_lengthen 46 rfl) ⟨by decide, by decide⟩ ?_
    refine mm_iadd C (mm_dec dk_X2_lengthen 47 rfl) ⟨by omega, by omega⟩ ?_
    refine mm_iast C (mm_dec dk_X2_lengthen 48 rfl) rfl (by omega) (by omega) ?_
    have i4 : mm_inv (mm_pa h59_ 19 p1 ((h59_.2.1 19 p1) + 1)) := mm_inv_pa i59_ (show 0 ≤ ((h59_.2.1 19 p1) + 1) ∧ ((h59_.2.1 19 p1) + 1) ≤ 12 from ⟨by omega, by omega⟩)
    have f4 : mm_fr [] [19, 20, 21] h (mm_pa h59_ 19 p1 ((h59_.2.1 19 p1) + 1)) := mm_fr_pa f59_ (by decide)
    obtain ⟨h4, eh4⟩ : ∃ z, z = mm_pa h59_ 19 p1 ((h59_.2.1 19 p1) + 1) := ⟨_, rfl⟩
    rw [← eh4] at i4 f4 ⊢
    have qh4_6 : h4.2.1 19 p1 = ((h59_.2.1 19 p1) + 1) := by rw [eh4]; exact mm_pa_same _ _ _ _
    refine mm_aload_n C (mm_dec dk_X2_lengthen 49 rfl) rfl ?_
    refine mm_getr (t := 19) C fl_X2_25 (mm_dec dk_X2_lengthen 50 rfl) rfl rfl (mm_ref i4 rfl) ?_
    refine mm_iload_n C (mm_dec dk_X2_lengthen 51 rfl) rfl ?_
    refine mm_iald C (mm_dec dk_X2_lengthen 52 rfl) rfl (by omega) (by omega) ?_
    have g7 : 0 ≤ (h4.2.1 19 p1) ∧ (h4.2.1 19 p1) ≤ 12 := i4.2.1 19 p1
    exact mm_iret C T (mm_dec dk_X2_lengthen 53 rfl) (by decide : 0 ≤ 0) (by decide : 0 ≤ 0) ⟨_, rfl, ⟨⟨by omega, by omega⟩, i4, f4, by omega, by exact mm_up_pav w59_1 eh4 (fun _ => rfl) rfl (by omega) rfl, by exact (let ⟨f, hf, uf⟩ := w59_2; ⟨f, hf, mm_up_tr (fun _ => rfl) uf (fun _ => (mm_sm_pa 20 eh4 (by decide) _)) rfl Iff.rfl⟩), by exact mm_w3_tr (fun _ => rfl) w59_3 (fun _ => (mm_sm_pa 21 eh4 (by decide) _)) rfl⟩⟩
  refine mm_icmp_eq (tgt := 59) C (mm_dec dk_X2_lengthen 32 rfl) (by decide) (fun c46 => ?_) (fun c46 => ?_)
  · skip
    refine mm_fgt 2 ?_
    refine mm_fgt 3 ?_
    refine mm_fgt 4 ?_
    refine mm_fgt 5 ?_
    exact J59 h3 i3 f3 (by omega) (by first | exact (fun _ => ((mm_sm_pa 19 eh3 (by decide) _).trans ((mm_sm_pa 19 eh2 (by decide) _).trans (mm_sm_pa 19 eh1 (by decide) _)))) | exact (fun _ => ((mm_sm_pa 19 eh5 (by decide) _).trans ((mm_sm_pa 19 eh3 (by decide) _).trans ((mm_sm_pa 19 eh2 (by decide) _).trans (mm_sm_pa 19 eh1 (by decide) _)))))) (by first | exact ⟨0, Or.inl ⟨by omega, rfl⟩, mm_up_no (by decide) (fun _ => ((mm_sm_pa 20 eh3 (by decide) _).trans ((mm_sm_pa 20 eh2 (by decide) _).trans (mm_sm_pa 20 eh1 (by decide) _))))⟩ | exact ⟨1, Or.inr ⟨by omega, rfl⟩, mm_up_pav (fun _ => ((mm_sm_pa 20 eh3 (by decide) _).trans ((mm_sm_pa 20 eh2 (by decide) _).trans (mm_sm_pa 20 eh1 (by decide) _)))) eh5 (fun _ => rfl) rfl (by rw [show h3.2.1 20 p1 = h.2.1 20 p1 from (fun _ => ((mm_sm_pa 20 eh3 (by decide) _).trans ((mm_sm_pa 20 eh2 (by decide) _).trans (mm_sm_pa 20 eh1 (by decide) _)))) p1]) rfl⟩) (by first | exact mm_w3_pa (fun _ => rfl) eh1 eh2 eh3 (fun _ => rfl) rfl rfl rfl | exact mm_w3_pa (fun _ => rfl) eh1 eh2 eh3 (fun _ => (mm_sm_pa 21 eh5 (by decide) _)) rfl rfl rfl)
  · skip
    refine mm_aload_n C (mm_dec dk_X2_lengthen 33 rfl) rfl ?_
    refine mm_getr (t := 20) C fl_X2_28 (mm_dec dk_X2_lengthen 34 rfl) rfl rfl (mm_ref i3 rfl) ?_
    refine mm_iload_n C (mm_dec dk_X2_lengthen 35 rfl) rfl ?_
    refine mm_dup2 C (mm_dec dk_X2_lengthen 36 rfl) (show (0 : Nat) ≠ 1 by decide) (show (2 : Nat) ≠ 1 by decide) ?_
    refine mm_iald C (mm_dec dk_X2_lengthen 37 rfl) rfl (by omega) (by omega) ?_
    have g8 : -2147483648 ≤ (h3.2.1 20 p1) ∧ (h3.2.1 20 p1) ≤ 2147483647 := i3.2.1 20 p1
    refine mm_iconst C (mm_dec dk_X2_lengthen 38 rfl) ⟨by decide, by decide⟩ ?_
    refine mm_iaddw C (mm_dec dk_X2_lengthen 39 rfl) ?_
    have g9 : -2147483648 ≤ (mm_w ((h3.2.1 20 p1) + 1)) ∧ (mm_w ((h3.2.1 20 p1) + 1)) < 2147483648 := mm_w_rg _
    refine mm_iast C (mm_dec dk_X2_lengthen 40 rfl) rfl (by omega) (by omega) ?_
    have i5 : mm_inv (mm_pa h3 20 p1 (mm_w ((h3.2.1 20 p1) + 1))) := mm_inv_pa i3 (show -2147483648 ≤ (mm_w ((h3.2.1 20 p1) + 1)) ∧ (mm_w ((h3.2.1 20 p1) + 1)) ≤ 2147483647 from ⟨by omega, by omega⟩)
    have f5 : mm_fr [] [19, 20, 21] h (mm_pa h3 20 p1 (mm_w ((h3.2.1 20 p1) + 1))) := mm_fr_pa f3 (by decide)
    obtain ⟨h5, eh5⟩ : ∃ z, z = mm_pa h3 20 p1 (mm_w ((h3.2.1 20 p1) + 1)) := ⟨_, rfl⟩
    rw [← eh5] at i5 f5 ⊢
    have qh5_10 : h5.2.1 19 p1 = h3.2.1 19 p1 := by rw [eh5]; exact mm_pa_ne _ _ (fun q => absurd q.1 (by decide))
    refine mm_fgt 2 ?_
    refine mm_fgt 3 ?_
    refine mm_fgt 4 ?_
    refine mm_fgt 5 ?_
    exact J59 h5 i5 f5 (by omega) (by first | exact (fun _ => ((mm_sm_pa 19 eh3 (by decide) _).trans ((mm_sm_pa 19 eh2 (by decide) _).trans (mm_sm_pa 19 eh1 (by decide) _)))) | exact (fun _ => ((mm_sm_pa 19 eh5 (by decide) _).trans ((mm_sm_pa 19 eh3 (by decide) _).trans ((mm_sm_pa 19 eh2 (by decide) _).trans (mm_sm_pa 19 eh1 (by decide) _)))))) (by first | exact ⟨0, Or.inl ⟨by omega, rfl⟩, mm_up_no (by decide) (fun _ => ((mm_sm_pa 20 eh3 (by decide) _).trans ((mm_sm_pa 20 eh2 (by decide) _).trans (mm_sm_pa 20 eh1 (by decide) _))))⟩ | exact ⟨1, Or.inr ⟨by omega, rfl⟩, mm_up_pav (fun _ => ((mm_sm_pa 20 eh3 (by decide) _).trans ((mm_sm_pa 20 eh2 (by decide) _).trans (mm_sm_pa 20 eh1 (by decide) _)))) eh5 (fun _ => rfl) rfl (by rw [show h3.2.1 20 p1 = h.2.1 20 p1 from (fun _ => ((mm_sm_pa 20 eh3 (by decide) _).trans ((mm_sm_pa 20 eh2 (by decide) _).trans (mm_sm_pa 20 eh1 (by decide) _)))) p1]) rfl⟩) (by first | exact mm_w3_pa (fun _ => rfl) eh1 eh2 eh3 (fun _ => rfl) rfl rfl rfl | exact mm_w3_pa (fun _ => rfl) eh1 eh2 eh3 (fun _ => (mm_sm_pa 21 eh5 (by decide) _)) rfl rfl rfl)
set_option maxRecDepth 100000 in
set_option maxHeartbeats 4000000 in
theorem c_X11_add_q (l : Launch) (hl : l.stackTraces = false) (d : Nat) (hd : 9 ≤ d) (h : mH) (i0 : mm_inv h) (p1 : Int) (p2 : Int) (p3 : Int) (p4 : Int) : mm_Met l d yX11_add cX11_add 5 (some .int) [mR 0, mI p1, mI p2, mI p3, mI p4] h (mm_pi fun r h2 => (-1 ≤ r ∧ r ≤ 12) ∧ mm_inv h2 ∧ mm_fr [] [19, 20, 21] h h2 ∧ (0 ≤ p1 ∧ p1 < h.1 14 8 ∧ 0 ≤ p2 ∧ p2 < h.1 14 7 ∧ 0 ≤ p3 ∧ p3 < h.1 14 7 ∧ 0 ≤ p4 ∧ p4 < h.1 14 7) ∧ ((r = h.2.1 19 p1 + 1 ∧ (h.2.1 19 p1 ≤ 11 ∧ h.2.1 18 p1 = 0 ∧ (p2 = p3 ∨ (h.2.1 17 p1 = 0 ∧ h.2.1 20 p1 ≤ 3)))) ∨ (r = -1 ∧ (12 ≤ h.2.1 19 p1 ∨ h.2.1 18 p1 ≠ 0 ∨ (p2 ≠ p3 ∧ (h.2.1 17 p1 ≠ 0 ∨ 4 ≤ h.2.1 20 p1))))) ∧ (∃ f g : Int, ((f = 0 ∧ g = 0 ∧ r ≤ 0) ∨ (f = 1 ∧ 1 ≤ r ∧ ((p2 = p3 ∧ g = 0) ∨ (p2 ≠ p3 ∧ g = 1)))) ∧ mm_up h h2 19 p1 (h.2.1 19 p1 + 1) f ∧ mm_up h h2 20 p1 (mm_w (h.2.1 20 p1 + 1)) g ∧ mm_w3 h h2 21 ((p1 * 12 + h.2.1 19 p1) * 3) p2 p3 p4 f)) (fun E h' => mm_xn h E h' ∧ (p1 < 0 ∨ h.1 14 8 ≤ p1 ∨ p2 < 0 ∨ h.1 14 7 ≤ p2 ∨ p3 < 0 ∨ h.1 14 7 ≤ p3 ∨ p4 < 0 ∨ h.1 14 7 ≤ p4)) 4 24 := by
  refine mm_ofW (ls := [mR 0, mI p1, mI p2, mI p3, mI p4]) hl (by decide) rfl (Nat.le_of_ble_eq_true rfl) ?_
  intro x hxl C T hnm htb
  subst hxl
  have C1 := mm_OK_le (d' := d - 1 + 1) (by omega) C
  have C8 := mm_OK_le (d' := d - 8 + 8) (by omega) C
  refine mm_rng (fun hr _ => ?_)
  have ap1 : -2147483648 ≤ p1 ∧ p1 < 2147483648 := mm_ok_at hr (i := 1) rfl
  have ap2 : -2147483648 ≤ p2 ∧ p2 < 2147483648 := mm_ok_at hr (i := 2) rfl
  have ap3 : -2147483648 ≤ p3 ∧ p3 < 2147483648 := mm_ok_at hr (i := 3) rfl
  have ap4 : -2147483648 ≤ p4 ∧ p4 < 2147483648 := mm_ok_at hr (i := 4) rfl
  have f0 : mm_fr [] [19, 20, 21] h h := mm_fr_rf
  have g1 : 0 ≤ h.1 14 7 ∧ h.1 14 7 ≤ 20 := i0.1 14 7
  have g2 : 0 ≤ h.1 14 8 ∧ h.1 14 8 ≤ 8 := i0.1 14 8
  have zs : 0 ≤ h.2.1 19 p1 := (i0.2.1 19 p1).1
  refine mm_aload_n C (mm_dec dk_X11_add 0 rfl) rfl ?_
  refine mm_iload_n C (mm_dec dk_X11_add 1 rfl) rfl ?_
  refine mm_cVv (rest := []) C1 ev_X11_207 (mm_dec dk_X11_add 2 rfl) (c_X11_needCourse_q x.2.1 hl (d - 1) (by omega) h i0 p1) rfl rfl (Nat.le_of_ble_eq_true rfl) ⟨by decide, by decide⟩ rfl (fun h2c hp2 => ?_) (fun E hx q => mm_out C T htb (by decide) (by decide) (by obtain ⟨q1, q2⟩ := q; exact ⟨q1, by omega⟩))
  obtain ⟨z2, k2_0, k2_1⟩ := hp2
  rw [z2]
  refine mm_aload_n C (mm_dec dk_X11_add 3 rfl) rfl ?_
  refine mm_iload_n C (mm_dec dk_X11_add 4 rfl) rfl ?_
  refine mm_cVv (rest := []) C1 ev_X11_211 (mm_dec dk_X11_add 5 rfl) (c_X11_needPost_q x.2.1 hl (d - 1) (by omega) h i0 p2) rfl rfl (Nat.le_of_ble_eq_true rfl) ⟨by decide, by decide⟩ rfl (fun h7c hp7 => ?_) (fun E hx q => mm_out C T htb (by decide) (by decide) (by obtain ⟨q1, q2⟩ := q; exact ⟨q1, by omega⟩))
  obtain ⟨z7, k7_0, k7_1⟩ := hp7
  rw [z7]
  refine mm_aload_n C (mm_dec dk_X11_add 6 rfl) rfl ?_
  refine mm_iload_n C (mm_dec dk_X11_add 7 rfl) rfl ?_
  refine mm_cVv (rest := []) C1 ev_X11_211 (mm_dec dk_X11_add 8 rfl) (c_X11_needPost_q x.2.1 hl (d - 1) (by omega) h i0 p3) rfl rfl (Nat.le_of_ble_eq_true rfl) ⟨by decide, by decide⟩ rfl (fun h12c hp12 => ?_) (fun E hx q => mm_out C T htb (by decide) (by decide) (by obtain ⟨q1, q2⟩ := q; exact ⟨q1, by omega⟩))
  obtain ⟨z12, k12_0, k12_1⟩ := hp12
  rw [z12]
  refine mm_aload_n C (mm_dec dk_X11_add 9 rfl) rfl ?_
  refine mm_iload C (mm_dec dk_X11_add 10 rfl) rfl ?_
  refine mm_cVv (rest := []) C1 ev_X11_211 (mm_dec dk_X11_add 11 rfl) (c_X11_needPost_q x.2.1 hl (d - 1) (by omega) h i0 p4) rfl rfl (Nat.le_of_ble_eq_true rfl) ⟨by decide, by decide⟩ rfl (fun h18c hp18 => ?_) (fun E hx q => mm_out C T htb (by decide) (by decide) (by obtain ⟨q1, q2⟩ := q; exact ⟨q1, by omega⟩))
  obtain ⟨z18, k18_0, k18_1⟩ := hp18
  rw [z18]
  refine mm_aload_n C (mm_dec dk_X11_add 12 rfl) rfl ?_
  refine mm_getr (t := 14) C fl_X11_28 (mm_dec dk_X11_add 13 rfl) rfl rfl (mm_ref i0 rfl) ?_
  refine mm_iload_n C (mm_dec dk_X11_add 14 rfl) rfl ?_
  refine mm_cVi (rest := []) C1 ev_X11_214 (mm_dec dk_X11_add 15 rfl) (c_X2_elements x.2.1 hl (d - 1) (by omega) h i0 p1 ⟨by omega, by omega⟩) rfl rfl (Nat.le_of_ble_eq_true rfl) ⟨by decide, by decide⟩ rfl (fun r26 h26c hp26 => ?_) (fun _ _ q => q.elim)
  obtain ⟨z26, y26⟩ := hp26
  rw [z26, y26]
  have g8 : 0 ≤ (h.2.1 19 p1) ∧ (h.2.1 19 p1) ≤ 12 := i0.2.1 19 p1
  refine mm_bipush C (mm_dec dk_X11_add 16 rfl) ⟨by decide, by decide⟩ ?_
  have J45 : ∀ (w45_0 : (0 ≤ p1 ∧ p1 < h.1 14 8 ∧ 0 ≤ p2 ∧ p2 < h.1 14 7 ∧ 0 ≤ p3 ∧ p3 < h.1 14 7 ∧ 0 ≤ p4 ∧ p4 < h.1 14 7)) (w45_1 : (12 ≤ h.2.1 19 p1 ∨ h.2.1 18 p1 ≠ 0 ∨ (p2 ≠ p3 ∧ (h.2.1 17 p1 ≠ 0 ∨ 4 ≤ h.2.1 20 p1)))), mm_W x 4 24 45 [mU, mU, mU, mU, mU] [] h := by
    intro w45_0 w45_1
    have g9 : 0 ≤ h.1 14 7 ∧ h.1 14 7 ≤ 20 := i0.1 14 7
    have g10 : 0 ≤ h.1 14 8 ∧ h.1 14 8 ≤ 8 := i0.1 14 8
    refine mm_iconst C (mm_dec dk_X11_add 23 rfl) ⟨by decide, by decide⟩ ?_
    exact mm_iret C T (mm_dec dk_X11_add 24 rfl) (by decide : 4 ≤ 4) (by decide : 24 ≤ 24) ⟨_, rfl, ⟨⟨by omega, by omega⟩, i0, f0, by omega, by omega, by first | exact ⟨0, 0, Or.inl ⟨rfl, rfl, by decide⟩, mm_up_no (by decide) (fun _ => rfl), mm_up_no (by decide) (fun _ => rfl), mm_w3_no (by decide) (fun _ => rfl)⟩ | exact (let ⟨g, hg, ug⟩ := y86_2; ⟨1, g, Or.inr ⟨rfl, by omega, hg⟩, y86_1, ug, y86_3⟩)⟩⟩
  refine mm_icmp_ge (tgt := 45) C (mm_dec dk_X11_add 17 rfl) (by decide) (fun c31 => ?_) (fun c31 => ?_)
  · skip
    refine mm_fgt 0 ?_
    refine mm_fgt 1 ?_
    refine mm_fgt 2 ?_
    refine mm_fgt 3 ?_
    refine mm_fgt 4 ?_
    exact J45 (by omega) (by omega)
  · skip
    refine mm_aload_n C (mm_dec dk_X11_add 18 rfl) rfl ?_
    refine mm_getr (t := 14) C fl_X11_28 (mm_dec dk_X11_add 19 rfl) rfl rfl (mm_ref i0 rfl) ?_
    refine mm_iload_n C (mm_dec dk_X11_add 20 rfl) rfl ?_
    refine mm_cVi (rest := []) C1 ev_X11_217 (mm_dec dk_X11_add 21 rfl) (c_X2_isTaken x.2.1 hl (d - 1) (by omega) h i0 p1 ⟨by omega, by omega⟩) rfl rfl (Nat.le_of_ble_eq_true rfl) ⟨by decide, by decide⟩ rfl (fun r39 h39c hp39 => ?_) (fun _ _ q => q.elim)
    obtain ⟨z39, y39⟩ := hp39
    rw [z39, y39]
    have g12 : 0 ≤ (h.2.1 18 p1) ∧ (h.2.1 18 p1) ≤ 1 := i0.2.1 18 p1
    refine mm_if_eq (tgt := 47) C (mm_dec dk_X11_add 22 rfl) (by decide) (fun c42 => ?_) (fun c42 => ?_)
    · skip
      refine mm_iload_n C (mm_dec dk_X11_add 25 rfl) rfl ?_
      refine mm_iload_n C (mm_dec dk_X11_add 26 rfl) rfl ?_
      have J77 : ∀ (w77_0 : (0 ≤ p1 ∧ p1 < h.1 14 8 ∧ 0 ≤ p2 ∧ p2 < h.1 14 7 ∧ 0 ≤ p3 ∧ p3 < h.1 14 7 ∧ 0 ≤ p4 ∧ p4 < h.1 14 7)) (w77_1 : (h.2.1 19 p1 ≤ 11 ∧ h.2.1 18 p1 = 0 ∧ (p2 = p3 ∨ (h.2.1 17 p1 = 0 ∧ h.2.1 20 p1 ≤ 3)))), mm_W x 4 24 77 [mR 0, mI p1, mI p2, mI p3, mI p4] [] h := by
        intro w77_0 w77_1
        have g13 : 0 ≤ h.1 14 7 ∧ h.1 14 7 ≤ 20 := i0.1 14 7
        have g14 : 0 ≤ h.1 14 8 ∧ h.1 14 8 ≤ 8 := i0.1 14 8
        refine mm_aload_n C (mm_dec dk_X11_add 41 rfl) rfl ?_
        refine mm_getr (t := 14) C fl_X11_28 (mm_dec dk_X11_add 42 rfl) rfl rfl (mm_ref i0 rfl) ?_
        refine mm_iload_n C (mm_dec dk_X11_add 43 rfl) rfl ?_
        refine mm_iload_n C (mm_dec dk_X11_add 44 rfl) rfl ?_
        refine mm_iload_n C (mm_dec dk_X11_add 45 rfl) rfl ?_
        refine mm_iload C (mm_dec dk_X11_add 46 rfl) rfl ?_
        refine mm_cVi (rest := []) C1 ev_X11_226 (mm_dec dk_X11_add 47 rfl) (c_X2_lengthen_q x.2.1 hl (d - 1) (by omega) h i0 p1 p2 p3 p4 ⟨by omega, by omega⟩ ⟨by omega, by omega⟩ ⟨by omega, by omega⟩ ⟨by omega, by omega⟩ (by omega)) rfl rfl (Nat.le_of_ble_eq_true rfl) ⟨by decide, by decide⟩ rfl (fun r86 h86c hp86 => ?_) (fun _ _ q => q.elim)
        obtain ⟨b86, i86c, g86c, y86_0, y86_1, y86_2, y86_3⟩ := hp86
        have f86c : mm_fr [] [19, 20, 21] h h86c := mm_fr_tr f0 g86c (by decide +kernel)
        have q86c_16 : h86c.1 14 7 = h.1 14 7 := g86c.1 14 7 (by decide)
        have q86c_17 : h86c.1 14 8 = h.1 14 8 := g86c.1 14 8 (by decide)
        exact mm_iret C T (mm_dec dk_X11_add 48 rfl) (by decide : 4 ≤ 4) (by decide : 24 ≤ 24) ⟨_, rfl, ⟨⟨by omega, by omega⟩, i86c, f86c, by omega, by omega, by first | exact ⟨0, 0, Or.inl ⟨rfl, rfl, by decide⟩, mm_up_no (by decide) (fun _ => rfl), mm_up_no (by decide) (fun _ => rfl), mm_w3_no (by decide) (fun _ => rfl)⟩ | exact (let ⟨g, hg, ug⟩ := y86_2; ⟨1, g, Or.inr ⟨rfl, by omega, hg⟩, y86_1, ug, y86_3⟩)⟩⟩
      refine mm_icmp_eq (tgt := 77) C (mm_dec dk_X11_add 27 rfl) (by decide) (fun c49 => ?_) (fun c49 => ?_)
      · skip
        exact J77 (by omega) (by omega)
      · skip
        refine mm_aload_n C (mm_dec dk_X11_add 28 rfl) rfl ?_
        refine mm_getr (t := 14) C fl_X11_28 (mm_dec dk_X11_add 29 rfl) rfl rfl (mm_ref i0 rfl) ?_
        refine mm_iload_n C (mm_dec dk_X11_add 30 rfl) rfl ?_
        refine mm_cVi (rest := []) C1 ev_X11_220 (mm_dec dk_X11_add 31 rfl) (c_X2_isFree x.2.1 hl (d - 1) (by omega) h i0 p1 ⟨by omega, by omega⟩) rfl rfl (Nat.le_of_ble_eq_true rfl) ⟨by decide, by decide⟩ rfl (fun r57 h57c hp57 => ?_) (fun _ _ q => q.elim)
        obtain ⟨z57, y57⟩ := hp57
        rw [z57, y57]
        have g19 : 0 ≤ (h.2.1 17 p1) ∧ (h.2.1 17 p1) ≤ 1 := i0.2.1 17 p1
        have J75 : ∀ (w75_0 : (0 ≤ p1 ∧ p1 < h.1 14 8 ∧ 0 ≤ p2 ∧ p2 < h.1 14 7 ∧ 0 ≤ p3 ∧ p3 < h.1 14 7 ∧ 0 ≤ p4 ∧ p4 < h.1 14 7)) (w75_1 : (12 ≤ h.2.1 19 p1 ∨ h.2.1 18 p1 ≠ 0 ∨ (p2 ≠ p3 ∧ (h.2.1 17 p1 ≠ 0 ∨ 4 ≤ h.2.1 20 p1)))), mm_W x 4 24 75 [mU, mU, mU, mU, mU] [] h := by
          intro w75_0 w75_1
          have g20 : 0 ≤ h.1 14 7 ∧ h.1 14 7 ≤ 20 := i0.1 14 7
          have g21 : 0 ≤ h.1 14 8 ∧ h.1 14 8 ≤ 8 := i0.1 14 8
          refine mm_iconst C (mm_dec dk_X11_add 39 rfl) ⟨by decide, by decide⟩ ?_
          exact mm_iret C T (mm_dec dk_X11_add 40 rfl) (by decide : 4 ≤ 4) (by decide : 24 ≤ 24) ⟨_, rfl, ⟨⟨by omega, by omega⟩, i0, f0, by omega, by omega, by first | exact ⟨0, 0, Or.inl ⟨rfl, rfl, by decide⟩, mm_up_no (by decide) (fun _ => rfl), mm_up_no (by decide) (fun _ => rfl), mm_w3_no (by decide) (fun _ => rfl)⟩ | exact (let ⟨g, hg, ug⟩ := y86_2; ⟨1, g, Or.inr ⟨rfl, by omega, hg⟩, y86_1, ug, y86_3⟩)⟩⟩
        refine mm_if_ne (tgt := 75) C (mm_dec dk_X11_add 32 rfl) (by decide) (fun c60 => ?_) (fun c60 => ?_)
        · skip
          refine mm_fgt 0 ?_
          refine mm_fgt 1 ?_
          refine mm_fgt 2 ?_
          refine mm_fgt 3 ?_
          refine mm_fgt 4 ?_
          exact J75 (by omega) (by omega)
        · skip
          refine mm_aload_n C (mm_dec dk_X11_add 33 rfl) rfl ?_
          refine mm_getr (t := 14) C fl_X11_28 (mm_dec dk_X11_add 34 rfl) rfl rfl (mm_ref i0 rfl) ?_
          refine mm_iload_n C (mm_dec dk_X11_add 35 rfl) rfl ?_
          refine mm_cVi (rest := []) C1 ev_X11_223 (mm_dec dk_X11_add 36 rfl) (c_X2_forks x.2.1 hl (d - 1) (by omega) h i0 p1 ⟨by omega, by omega⟩) rfl rfl (Nat.le_of_ble_eq_true rfl) ⟨by decide, by decide⟩ rfl (fun r68 h68c hp68 => ?_) (fun _ _ q => q.elim)
          obtain ⟨z68, y68⟩ := hp68
          rw [z68, y68]
          have g23 : -2147483648 ≤ (h.2.1 20 p1) ∧ (h.2.1 20 p1) ≤ 2147483647 := i0.2.1 20 p1
          refine mm_iconst C (mm_dec dk_X11_add 37 rfl) ⟨by decide, by decide⟩ ?_
          refine mm_icmp_lt (tgt := 77) C (mm_dec dk_X11_add 38 rfl) (by decide) (fun c72 => ?_) (fun c72 => ?_)
          · skip
            exact J77 (by omega) (by omega)
          · skip
            refine mm_fgt 0 ?_
            refine mm_fgt 1 ?_
            refine mm_fgt 2 ?_
            refine mm_fgt 3 ?_
            refine mm_fgt 4 ?_
            exact J75 (by omega) (by omega)
    · skip
      refine mm_fgt 0 ?_
      refine mm_fgt 1 ?_
      refine mm_fgt 2 ?_
      refine mm_fgt 3 ?_
      refine mm_fgt 4 ?_
      exact J45 (by omega) (by omega)
set_option maxRecDepth 100000 in
set_option maxHeartbeats 4000000 in
theorem c_X12_isPost_q (l : Launch) (hl : l.stackTraces = false) (d : Nat) (hd : 1 ≤ d) (h : mH) (i0 : mm_inv h) (p1 : Int) : mm_Met l d yX12_isPost cX12_isPost 2 (some .boolean) [mR 66, mI p1] h (mm_pi fun r h2 => (0 ≤ r ∧ r ≤ 1) ∧ mm_inv h2 ∧ mm_fr [(66, 0)] [] h h2 ∧ ((h.1 66 0 = 0 ∧ (0 ≤ p1 ∧ p1 < h.1 66 21) ∧ r = 1 ∧ h2.1 66 0 = 0) ∨ (h.1 66 0 = 0 ∧ (p1 < 0 ∨ h.1 66 21 ≤ p1) ∧ r = 0 ∧ h2.1 66 0 = 1) ∨ (h.1 66 0 ≠ 0 ∧ r = 0 ∧ h2.1 66 0 = h.1 66 0)) ∧ (r = 0 ∨ (0 ≤ p1 ∧ p1 < (h2.1 66 21)))) mm_nx 0 0 := by
  refine mm_ofW (ls := [mR 66, mI p1]) hl (by decide) rfl (Nat.le_of_ble_eq_true rfl) ?_
  intro x hxl C T hnm htb
  subst hxl
  have C1 := mm_OK_le (d' := d - 1 + 1) (by omega) C
  refine mm_rng (fun hr _ => ?_)
  have ap1 : -2147483648 ≤ p1 ∧ p1 < 2147483648 := mm_ok_at hr (i := 1) rfl
  have f0 : mm_fr [(66, 0)] [] h h := mm_fr_rf
  have g1 : -2147483648 ≤ h.1 66 0 ∧ h.1 66 0 ≤ 2147483647 := i0.1 66 0
  have g2 : 0 ≤ h.1 66 21 ∧ h.1 66 21 ≤ 20 := i0.1 66 21
  refine mm_aload_n C (mm_dec dk_X12_isPost 0 rfl) rfl ?_
  refine mm_iload_n C (mm_dec dk_X12_isPost 1 rfl) rfl ?_
  refine mm_if_lt (tgt := 17) C (mm_dec dk_X12_isPost 2 rfl) (by decide) (fun c2 => ?_) (fun c2 => ?_)
  · skip
    refine mm_iconst C (mm_dec dk_X12_isPost 9 rfl) ⟨by decide, by decide⟩ ?_
    refine mm_iconst C (mm_dec dk_X12_isPost 10 rfl) ⟨by decide, by decide⟩ ?_
    refine mm_cVi (rest := []) C1 ev_X12_251 (mm_dec dk_X12_isPost 11 rfl) (c_X12_right_q x.2.1 hl (d - 1) (by omega) h i0 0 1 ⟨by omega, by omega⟩ (by omega)) rfl rfl (Nat.le_of_ble_eq_true rfl) ⟨by decide, by decide⟩ rfl (fun r19 h19c hp19 => ?_) (fun _ _ q => q.elim)
    obtain ⟨b19, i19c, g19c, y19_0⟩ := hp19
    have f19c : mm_fr [(66, 0)] [] h h19c := mm_fr_tr f0 g19c (by decide +kernel)
    have q19c_4 : h19c.1 66 21 = h.1 66 21 := g19c.1 66 21 (by decide)
    have g5 : -2147483648 ≤ (h19c.1 66 0) ∧ (h19c.1 66 0) ≤ 2147483647 := i19c.1 66 0
    exact mm_zret C T (mm_dec dk_X12_isPost 12 rfl) (by decide : 0 ≤ 0) (by decide : 0 ≤ 0) (by omega) ⟨_, rfl, ⟨⟨by omega, by omega⟩, i19c, f19c, by omega, by omega⟩⟩
  · skip
    refine mm_iload_n C (mm_dec dk_X12_isPost 3 rfl) rfl ?_
    refine mm_aload_n C (mm_dec dk_X12_isPost 4 rfl) rfl ?_
    refine mm_geti C fl_X12_216 (mm_dec dk_X12_isPost 5 rfl) rfl rfl (Or.inl rfl) ?_
    refine mm_icmp_ge (tgt := 17) C (mm_dec dk_X12_isPost 6 rfl) (by decide) (fun c10 => ?_) (fun c10 => ?_)
    · skip
      refine mm_iconst C (mm_dec dk_X12_isPost 9 rfl) ⟨by decide, by decide⟩ ?_
      refine mm_iconst C (mm_dec dk_X12_isPost 10 rfl) ⟨by decide, by decide⟩ ?_
      refine mm_cVi (rest := []) C1 ev_X12_251 (mm_dec dk_X12_isPost 11 rfl) (c_X12_right_q x.2.1 hl (d - 1) (by omega) h i0 0 1 ⟨by omega, by omega⟩ (by omega)) rfl rfl (Nat.le_of_ble_eq_true rfl) ⟨by decide, by decide⟩ rfl (fun r19 h19c hp19 => ?_) (fun _ _ q => q.elim)
      obtain ⟨b19, i19c, g19c, y19_0⟩ := hp19
      have f19c : mm_fr [(66, 0)] [] h h19c := mm_fr_tr f0 g19c (by decide +kernel)
      have q19c_7 : h19c.1 66 21 = h.1 66 21 := g19c.1 66 21 (by decide)
      have g8 : -2147483648 ≤ (h19c.1 66 0) ∧ (h19c.1 66 0) ≤ 2147483647 := i19c.1 66 0
      exact mm_zret C T (mm_dec dk_X12_isPost 12 rfl) (by decide : 0 ≤ 0) (by decide : 0 ≤ 0) (by omega) ⟨_, rfl, ⟨⟨by omega, by omega⟩, i19c, f19c, by omega, by omega⟩⟩
    · skip
      refine mm_iconst C (mm_dec dk_X12_isPost 7 rfl) ⟨by decide, by decide⟩ ?_
      refine mm_goto (tgt := 18) C (mm_dec dk_X12_isPost 8 rfl) (by decide) ?_
      refine mm_iconst C (mm_dec dk_X12_isPost 10 rfl) ⟨by decide, by decide⟩ ?_
      refine mm_cVi (rest := []) C1 ev_X12_251 (mm_dec dk_X12_isPost 11 rfl) (c_X12_right_q x.2.1 hl (d - 1) (by omega) h i0 1 1 ⟨by omega, by omega⟩ (by omega)) rfl rfl (Nat.le_of_ble_eq_true rfl) ⟨by decide, by decide⟩ rfl (fun r19 h19c hp19 => ?_) (fun _ _ q => q.elim)
      obtain ⟨b19, i19c, g19c, y19_0⟩ := hp19
      have f19c : mm_fr [(66, 0)] [] h h19c := mm_fr_tr f0 g19c (by decide +kernel)
      have q19c_10 : h19c.1 66 21 = h.1 66 21 := g19c.1 66 21 (by decide)
      have g11 : -2147483648 ≤ (h19c.1 66 0) ∧ (h19c.1 66 0) ≤ 2147483647 := i19c.1 66 0
      exact mm_zret C T (mm_dec dk_X12_isPost 12 rfl) (by decide : 0 ≤ 0) (by decide : 0 ≤ 0) (by omega) ⟨_, rfl, ⟨⟨by omega, by omega⟩, i19c, f19c, by omega, by omega⟩⟩
set_option maxRecDepth 100000 in
set_option maxHeartbeats 4000000 in
theorem c_X12_add_q (l : Launch) (hl : l.stackTraces = false) (d : Nat) (hd : 2 ≤ d) (h : mH) (i0 : mm_inv h) (p1 : Int) (p2 : Int) (p3 : Int) (p4 : Int) : mm_Met l d yX12_add cX12_add 7 (some .int) [mR 66, mI p1, mI p2, mI p3, mI p4] h (mm_pi fun r h2 => (-1 ≤ r ∧ r ≤ 12) ∧ mm_inv h2 ∧ mm_fr [(66, 0)] [80, 81, 82, 84] h h2 ∧ (((0 ≤ p1 ∧ p1 < h.1 66 22 ∧ 0 ≤ p2 ∧ p2 < h.1 66 21 ∧ 0 ≤ p3 ∧ p3 < h.1 66 21 ∧ 0 ≤ p4 ∧ p4 < h.1 66 21) ∧ h2.1 66 0 = 0 ∧ ((r = h.2.1 80 p1 + 1 ∧ (mm_fd (h.2.1 85) p1 (h.1 66 23).toNat = 0 ∧ h.2.1 80 p1 ≠ 12 ∧ (p2 = p3 ∨ (h.2.1 83 p1 = 0 ∧ h.2.1 81 p1 ≠ 4)))) ∨ (r = -1 ∧ (mm_fd (h.2.1 85) p1 (h.1 66 23).toNat = 1 ∨ h.2.1 80 p1 = 12 ∨ (p2 ≠ p3 ∧ (h.2.1 83 p1 ≠ 0 ∨ h.2.1 81 p1 = 4)))))) ∨ ((p1 < 0 ∨ h.1 66 22 ≤ p1 ∨ p2 < 0 ∨ h.1 66 21 ≤ p2 ∨ p3 < 0 ∨ h.1 66 21 ≤ p3 ∨ p4 < 0 ∨ h.1 66 21 ≤ p4) ∧ h2.1 66 0 = 1 ∧ r = 0)) ∧ (∃ f g : Int, ((f = 0 ∧ g = 0 ∧ r ≤ 0) ∨ (f = 1 ∧ 1 ≤ r ∧ ((p2 = p3 ∧ g = 0) ∨ (p2 ≠ p3 ∧ g = 1)))) ∧ mm_up h h2 80 p1 (h.2.1 80 p1 + 1) f ∧ mm_up h h2 81 p1 (mm_w (h.2.1 81 p1 + 1)) g ∧ mm_w3 h h2 82 (3 * (12 * p1 + h.2.1 80 p1)) p2 p3 p4 f ∧ (∃ v9 : Int, ((v9 = 1 ∧ p2 ≠ p3) ∨ (v9 = 0 ∧ p2 = p3)) ∧ mm_up h h2 84 (12 * p1 + h.2.1 80 p1) v9 f))) mm_nx 0 0 := by
  refine mm_ofW (ls := [mR 66, mI p1, mI p2, mI p3, mI p4, mU, mU]) hl (by decide) rfl (Nat.le_of_ble_eq_true rfl) ?_
  intro x hxl C T hnm htb
  subst hxl
  have C1 := mm_OK_le (d' := d - 1 + 1) (by omega) C
  refine mm_rng (fun hr _ => ?_)
  have ap1 : -2147483648 ≤ p1 ∧ p1 < 2147483648 := mm_ok_at hr (i := 1) rfl
  have ap2 : -2147483648 ≤ p2 ∧ p2 < 2147483648 := mm_ok_at hr (i := 2) rfl
  have ap3 : -2147483648 ≤ p3 ∧ p3 < 2147483648 := mm_ok_at hr (i := 3) rfl
  have ap4 : -2147483648 ≤ p4 ∧ p4 < 2147483648 := mm_ok_at hr (i := 4) rfl
  have f0 : mm_fr [(66, 0)] [80, 81, 82, 84] h h := mm_fr_rf
  have g1 : -2147483648 ≤ h.1 66 0 ∧ h.1 66 0 ≤ 2147483647 := i0.1 66 0
  have g2 : 0 ≤ h.1 66 22 ∧ h.1 66 22 ≤ 8 := i0.1 66 22
  have g3 : 0 ≤ h.1 66 21 ∧ h.1 66 21 ≤ 20 := i0.1 66 21
  have g4 : 0 ≤ h.1 66 23 ∧ h.1 66 23 ≤ 40 := i0.1 66 23
  refine mm_aload_n C (mm_dec dk_X12_add 0 rfl) rfl ?_
  refine mm_iload_n C (mm_dec dk_X12_add 1 rfl) rfl ?_
  refine mm_cVi (rest := []) C1 ev_X12_288 (mm_dec dk_X12_add 2 rfl) (c_X12_isCourse_q x.2.1 hl (d - 1) (by omega) h i0 p1) rfl rfl (Nat.le_of_ble_eq_true rfl) ⟨by decide, by decide⟩ rfl (fun r2 h2c hp2 => ?_) (fun _ _ q => q.elim)
  obtain ⟨b2, i2c, g2c, y2_0, y2_1⟩ := hp2
  have f2c : mm_fr [(66, 0)] [80, 81, 82, 84] h h2c := mm_fr_tr f0 g2c (by decide +kernel)
  have q2c_6 : h2c.1 66 21 = h.1 66 21 := g2c.1 66 21 (by decide)
  have q2c_7 : h2c.1 66 22 = h.1 66 22 := g2c.1 66 22 (by decide)
  have q2c_8 : h2c.1 66 23 = h.1 66 23 := g2c.1 66 23 (by decide)
  have q2c_9 : h2c.2.1 80 p1 = h.2.1 80 p1 := g2c.2 80 (by decide) _
  have g10 : -2147483648 ≤ (h2c.1 66 0) ∧ (h2c.1 66 0) ≤ 2147483647 := i2c.1 66 0
  have J33 : ∀ (h33_ : mH) (i33_ : mm_inv h33_) (f33_ : mm_fr [(66, 0)] [80, 81, 82, 84] h h33_) (w33_0 : ((p1 < 0 ∨ h.1 66 22 ≤ p1 ∨ p2 < 0 ∨ h.1 66 21 ≤ p2 ∨ p3 < 0 ∨ h.1 66 21 ≤ p3 ∨ p4 < 0 ∨ h.1 66 21 ≤ p4) ∧ h33_.1 66 0 = 1)) (w33_1 : ∀ j, h33_.2.1 80 j = h.2.1 80 j) (w33_2 : ∀ j, h33_.2.1 81 j = h.2.1 81 j) (w33_3 : ∀ j, h33_.2.1 82 j = h.2.1 82 j) (w33_4 : ∀ j, h33_.2.1 84 j = h.2.1 84 j), mm_W x 0 0 33 [mU, mU, mU, mU, mU, mU, mU] [] h33_ := by
    intro h33_ i33_ f33_ w33_0 w33_1 w33_2 w33_3 w33_4
    have g11 : -2147483648 ≤ h33_.1 66 0 ∧ h33_.1 66 0 ≤ 2147483647 := i33_.1 66 0
    have g12 : 0 ≤ h33_.1 66 22 ∧ h33_.1 66 22 ≤ 8 := i33_.1 66 22
    have g13 : 0 ≤ h33_.1 66 21 ∧ h33_.1 66 21 ≤ 20 := i33_.1 66 21
    have g14 : 0 ≤ h33_.1 66 23 ∧ h33_.1 66 23 ≤ 40 := i33_.1 66 23
    have g15 : h33_.1 66 22 = h.1 66 22 := f33_.1 66 22 (by decide)
    have g16 : h33_.1 66 21 = h.1 66 21 := f33_.1 66 21 (by decide)
    have g17 : h33_.1 66 23 = h.1 66 23 := f33_.1 66 23 (by decide)
    refine mm_iconst C (mm_dec dk_X12_add 16 rfl) ⟨by decide, by decide⟩ ?_
    exact mm_iret C T (mm_dec dk_X12_add 17 rfl) (by decide : 0 ≤ 0) (by decide : 0 ≤ 0) ⟨_, rfl, ⟨⟨by omega, by omega⟩, i33_, f33_, by omega, by first | exact ⟨0, 0, Or.inl ⟨rfl, rfl, by decide⟩, mm_up_no (by decide) z80, mm_up_no (by decide) z81, mm_w3_no (by decide) (fun _ => ((g27c.2 82 (by decide) _).trans ((g18c.2 82 (by decide) _).trans ((g10c.2 82 (by decide) _).trans (g2c.2 82 (by decide) _))))), mm_v9 (fun _ => ((g27c.2 84 (by decide) _).trans ((g18c.2 84 (by decide) _).trans ((g10c.2 84 (by decide) _).trans (g2c.2 84 (by decide) _)))))⟩ | exact ⟨0, 0, Or.inl ⟨rfl, rfl, by decide⟩, mm_up_no (by decide) w33_1, mm_up_no (by decide) w33_2, mm_w3_no (by decide) w33_3, mm_v9 w33_4⟩ | exact (let ⟨g, hg, ug⟩ := w187_2; ⟨1, g, Or.inr ⟨rfl, by omega, hg⟩, mm_up_pav w187_1 eh9 (fun _ => rfl) rfl (by omega) rfl, mm_up_tr (fun _ => rfl) ug (fun _ => (mm_sm_pa 81 eh9 (by decide) _)) rfl Iff.rfl, mm_w3_tr (fun _ => rfl) w187_5 (fun _ => (mm_sm_pa 82 eh9 (by decide) _)) rfl, mm_v9_tr w187_6 (fun _ => (mm_sm_pa 84 eh9 (by decide) _))⟩)⟩⟩
  refine mm_if_eq (tgt := 33) C (mm_dec dk_X12_add 3 rfl) (by decide) (fun c5 => ?_) (fun c5 => ?_)
  · skip
    refine mm_fgt 0 ?_
    refine mm_fgt 1 ?_
    refine mm_fgt 2 ?_
    refine mm_fgt 3 ?_
    refine mm_fgt 4 ?_
    exact J33 h2c i2c f2c (by omega) (by first | exact (fun _ => (g2c.2 80 (by decide) _)) | exact (fun _ => ((g10c.2 80 (by decide) _).trans (g2c.2 80 (by decide) _))) | exact (fun _ => ((g18c.2 80 (by decide) _).trans ((g10c.2 80 (by decide) _).trans (g2c.2 80 (by decide) _)))) | exact (fun _ => ((g27c.2 80 (by decide) _).trans ((g18c.2 80 (by decide) _).trans ((g10c.2 80 (by decide) _).trans (g2c.2 80 (by decide) _)))))) (by first | exact (fun _ => (g2c.2 81 (by decide) _)) | exact (fun _ => ((g10c.2 81 (by decide) _).trans (g2c.2 81 (by decide) _))) | exact (fun _ => ((g18c.2 81 (by decide) _).trans ((g10c.2 81 (by decide) _).trans (g2c.2 81 (by decide) _)))) | exact (fun _ => ((g27c.2 81 (by decide) _).trans ((g18c.2 81 (by decide) _).trans ((g10c.2 81 (by decide) _).trans (g2c.2 81 (by decide) _)))))) (by first | exact (fun _ => (g2c.2 82 (by decide) _)) | exact (fun _ => ((g10c.2 82 (by decide) _).trans (g2c.2 82 (by decide) _))) | exact (fun _ => ((g18c.2 82 (by decide) _).trans ((g10c.2 82 (by decide) _).trans (g2c.2 82 (by decide) _)))) | exact (fun _ => ((g27c.2 82 (by decide) _).trans ((g18c.2 82 (by decide) _).trans ((g10c.2 82 (by decide) _).trans (g2c.2 82 (by decide) _)))))) (by first | exact (fun _ => (g2c.2 84 (by decide) _)) | exact (fun _ => ((g10c.2 84 (by decide) _).trans (g2c.2 84 (by decide) _))) | exact (fun _ => ((g18c.2 84 (by decide) _).trans ((g10c.2 84 (by decide) _).trans (g2c.2 84 (by decide) _)))) | exact (fun _ => ((g27c.2 84 (by decide) _).trans ((g18c.2 84 (by decide) _).trans ((g10c.2 84 (by decide) _).trans (g2c.2 84 (by decide) _))))))
  · skip
    refine mm_aload_n C (mm_dec dk_X12_add 4 rfl) rfl ?_
    refine mm_iload_n C (mm_dec dk_X12_add 5 rfl) rfl ?_
    refine mm_cVi (rest := []) C1 ev_X12_292 (mm_dec dk_X12_add 6 rfl) (c_X12_isPost_q x.2.1 hl (d - 1) (by omega) h2c i2c p2) rfl rfl (Nat.le_of_ble_eq_true rfl) ⟨by decide, by decide⟩ rfl (fun r10 h10c hp10 => ?_) (fun _ _ q => q.elim)
    obtain ⟨b10, i10c, g10c, y10_0, y10_1⟩ := hp10
    have f10c : mm_fr [(66, 0)] [80, 81, 82, 84] h h10c := mm_fr_tr f2c g10c (by decide +kernel)
    have q10c_19 : h10c.1 66 21 = h2c.1 66 21 := g10c.1 66 21 (by decide)
    have q10c_20 : h10c.1 66 22 = h2c.1 66 22 := g10c.1 66 22 (by decide)
    have q10c_21 : h10c.1 66 23 = h2c.1 66 23 := g10c.1 66 23 (by decide)
    have q10c_22 : h10c.2.1 80 p1 = h2c.2.1 80 p1 := g10c.2 80 (by decide) _
    have g23 : -2147483648 ≤ (h10c.1 66 0) ∧ (h10c.1 66 0) ≤ 2147483647 := i10c.1 66 0
    refine mm_if_eq (tgt := 33) C (mm_dec dk_X12_add 7 rfl) (by decide) (fun c13 => ?_) (fun c13 => ?_)
    · skip
      refine mm_fgt 0 ?_
      refine mm_fgt 1 ?_
      refine mm_fgt 2 ?_
      refine mm_fgt 3 ?_
      refine mm_fgt 4 ?_
      exact J33 h10c i10c f10c (by omega) (by first | exact (fun _ => (g2c.2 80 (by decide) _)) | exact (fun _ => ((g10c.2 80 (by decide) _).trans (g2c.2 80 (by decide) _))) | exact (fun _ => ((g18c.2 80 (by decide) _).trans ((g10c.2 80 (by decide) _).trans (g2c.2 80 (by decide) _)))) | exact (fun _ => ((g27c.2 80 (by decide) _).trans ((g18c.2 80 (by decide) _).trans ((g10c.2 80 (by decide) _).trans (g2c.2 80 (by decide) _)))))) (by first | exact (fun _ => (g2c.2 81 (by decide) _)) | exact (fun _ => ((g10c.2 81 (by decide) _).trans (g2c.2 81 (by decide) _))) | exact (fun _ => ((g18c.2 81 (by decide) _).trans ((g10c.2 81 (by decide) _).trans (g2c.2 81 (by decide) _)))) | exact (fun _ => ((g27c.2 81 (by decide) _).trans ((g18c.2 81 (by decide) _).trans ((g10c.2 81 (by decide) _).trans (g2c.2 81 (by decide) _)))))) (by first | exact (fun _ => (g2c.2 82 (by decide) _)) | exact (fun _ => ((g10c.2 82 (by decide) _).trans (g2c.2 82 (by decide) _))) | exact (fun _ => ((g18c.2 82 (by decide) _).trans ((g10c.2 82 (by decide) _).trans (g2c.2 82 (by decide) _)))) | exact (fun _ => ((g27c.2 82 (by decide) _).trans ((g18c.2 82 (by decide) _).trans ((g10c.2 82 (by decide) _).trans (g2c.2 82 (by decide) _)))))) (by first | exact (fun _ => (g2c.2 84 (by decide) _)) | exact (fun _ => ((g10c.2 84 (by decide) _).trans (g2c.2 84 (by decide) _))) | exact (fun _ => ((g18c.2 84 (by decide) _).trans ((g10c.2 84 (by decide) _).trans (g2c.2 84 (by decide) _)))) | exact (fun _ => ((g27c.2 84 (by decide) _).trans ((g18c.2 84 (by decide) _).trans ((g10c.2 84 (by decide) _).trans (g2c.2 84 (by decide) _))))))
    · skip
      refine mm_aload_n C (mm_dec dk_X12_add 8 rfl) rfl ?_
      refine mm_iload_n C (mm_dec dk_X12_add 9 rfl) rfl ?_
      refine mm_cVi (rest := []) C1 ev_X12_292 (mm_dec dk_X12_add 10 rfl) (c_X12_isPost_q x.2.1 hl (d - 1) (by omega) h10c i10c p3) rfl rfl (Nat.le_of_ble_eq_true rfl) ⟨by decide, by decide⟩ rfl (fun r18 h18c hp18 => ?_) (fun _ _ q => q.elim)
      obtain ⟨b18, i18c, g18c, y18_0, y18_1⟩ := hp18
      have f18c : mm_fr [(66, 0)] [80, 81, 82, 84] h h18c := mm_fr_tr f10c g18c (by decide +kernel)
      have q18c_25 : h18c.1 66 21 = h10c.1 66 21 := g18c.1 66 21 (by decide)
      have q18c_26 : h18c.1 66 22 = h10c.1 66 22 := g18c.1 66 22 (by decide)
      have q18c_27 : h18c.1 66 23 = h10c.1 66 23 := g18c.1 66 23 (by decide)
      have q18c_28 : h18c.2.1 80 p1 = h10c.2.1 80 p1 := g18c.2 80 (by decide) _
      have g29 : -2147483648 ≤ (h18c.1 66 0) ∧ (h18c.1 66 0) ≤ 2147483647 := i18c.1 66 0
      refine mm_if_eq (tgt := 33) C (mm_dec dk_X12_add 11 rfl) (by decide) (fun c21 => ?_) (fun c21 => ?_)
      · skip
        refine mm_fgt 0 ?_
        refine mm_fgt 1 ?_
        refine mm_fgt 2 ?_
        refine mm_fgt 3 ?_
        refine mm_fgt 4 ?_
        exact J33 h18c i18c f18c (by omega) (by first | exact (fun _ => (g2c.2 80 (by decide) _)) | exact (fun _ => ((g10c.2 80 (by decide) _).trans (g2c.2 80 (by decide) _))) | exact (fun _ => ((g18c.2 80 (by decide) _).trans ((g10c.2 80 (by decide) _).trans (g2c.2 80 (by decide) _)))) | exact (fun _ => ((g27c.2 80 (by decide) _).trans ((g18c.2 80 (by decide) _).trans ((g10c.2 80 (by decide) _).trans (g2c.2 80 (by decide) _)))))) (by first | exact (fun _ => (g2c.2 81 (by decide) _)) | exact (fun _ => ((g10c.2 81 (by decide) _).trans (g2c.2 81 (by decide) _))) | exact (fun _ => ((g18c.2 81 (by decide) _).trans ((g10c.2 81 (by decide) _).trans (g2c.2 81 (by decide) _)))) | exact (fun _ => ((g27c.2 81 (by decide) _).trans ((g18c.2 81 (by decide) _).trans ((g10c.2 81 (by decide) _).trans (g2c.2 81 (by decide) _)))))) (by first | exact (fun _ => (g2c.2 82 (by decide) _)) | exact (fun _ => ((g10c.2 82 (by decide) _).trans (g2c.2 82 (by decide) _))) | exact (fun _ => ((g18c.2 82 (by decide) _).trans ((g10c.2 82 (by decide) _).trans (g2c.2 82 (by decide) _)))) | exact (fun _ => ((g27c.2 82 (by decide) _).trans ((g18c.2 82 (by decide) _).trans ((g10c.2 82 (by decide) _).trans (g2c.2 82 (by decide) _)))))) (by first | exact (fun _ => (g2c.2 84 (by decide) _)) | exact (fun _ => ((g10c.2 84 (by decide) _).trans (g2c.2 84 (by decide) _))) | exact (fun _ => ((g18c.2 84 (by decide) _).trans ((g10c.2 84 (by decide) _).trans (g2c.2 84 (by decide) _)))) | exact (fun _ => ((g27c.2 84 (by decide) _).trans ((g18c.2 84 (by decide) _).trans ((g10c.2 84 (by decide) _).trans (g2c.2 84 (by decide) _))))))
      · skip
        refine mm_aload_n C (mm_dec dk_X12_add 12 rfl) rfl ?_
        refine mm_iload C (mm_dec dk_X12_add 13 rfl) rfl ?_
        refine mm_cVi (rest := []) C1 ev_X12_292 (mm_dec dk_X12_add 14 rfl) (c_X12_isPost_q x.2.1 hl (d - 1) (by omega) h18c i18c p4) rfl rfl (Nat.le_of_ble_eq_true rfl) ⟨by decide, by decide⟩ rfl (fun r27 h27c hp27 => ?_) (fun _ _ q => q.elim)
        obtain ⟨b27, i27c, g27c, y27_0, y27_1⟩ := hp27
        have f27c : mm_fr [(66, 0)] [80, 81, 82, 84] h h27c := mm_fr_tr f18c g27c (by decide +kernel)
        have q27c_31 : h27c.1 66 21 = h18c.1 66 21 := g27c.1 66 21 (by decide)
        have q27c_32 : h27c.1 66 22 = h18c.1 66 22 := g27c.1 66 22 (by decide)
        have q27c_33 : h27c.1 66 23 = h18c.1 66 23 := g27c.1 66 23 (by decide)
        have q27c_34 : h27c.2.1 80 p1 = h18c.2.1 80 p1 := g27c.2 80 (by decide) _
        have g35 : -2147483648 ≤ (h27c.1 66 0) ∧ (h27c.1 66 0) ≤ 2147483647 := i27c.1 66 0
        refine mm_if_ne (tgt := 35) C (mm_dec dk_X12_add 15 rfl) (by decide) (fun c30 => ?_) (fun c30 => ?_)
        · skip
          have zC : (0 ≤ p1 ∧ p1 < h.1 66 22 ∧ 0 ≤ p2 ∧ p2 < h.1 66 21 ∧ 0 ≤ p3 ∧ p3 < h.1 66 21 ∧ 0 ≤ p4 ∧ p4 < h.1 66 21) := by omega
          have z0 : h27c.1 66 0 = 0 := by omega
          have zr : h27c.1 66 23 = h.1 66 23 := by omega
          clear y2_0 y2_1 y10_0 y10_1 y18_0 y18_1 y27_0 y27_1
          have z80 : ∀ j, h27c.2.1 80 j = h.2.1 80 j := (fun _ => ((g27c.2 80 (by decide) _).trans ((g18c.2 80 (by decide) _).trans ((g10c.2 80 (by decide) _).trans (g2c.2 80 (by decide) _)))))
          have z81 : ∀ j, h27c.2.1 81 j = h.2.1 81 j := (fun _ => ((g27c.2 81 (by decide) _).trans ((g18c.2 81 (by decide) _).trans ((g10c.2 81 (by decide) _).trans (g2c.2 81 (by decide) _)))))
          have z83 : ∀ j, h27c.2.1 83 j = h.2.1 83 j := (fun _ => ((g27c.2 83 (by decide) _).trans ((g18c.2 83 (by decide) _).trans ((g10c.2 83 (by decide) _).trans (g2c.2 83 (by decide) _)))))
          have z85 : ∀ j, h27c.2.1 85 j = h.2.1 85 j := (fun _ => ((g27c.2 85 (by decide) _).trans ((g18c.2 85 (by decide) _).trans ((g10c.2 85 (by decide) _).trans (g2c.2 85 (by decide) _)))))
          have y80 := z80 p1
          have y81 := z81 p1
          have y83 := z83 p1
          have zq := mm_fd_rg (h.2.1 85) p1 (h.1 66 23).toNat
          have k80 : 0 ≤ h.2.1 80 p1 ∧ h.2.1 80 p1 ≤ 12 := i0.2.1 80 p1
          refine mm_iload_n C (mm_dec dk_X12_add 18 rfl) rfl ?_
          refine mm_iload_n C (mm_dec dk_X12_add 19 rfl) rfl ?_
          have J45 : ∀ (s45_0 : Int) (bs45_0 : 0 ≤ s45_0 ∧ s45_0 ≤ 1) (vs45_0 : (p2 = p3 ∧ s45_0 = 0) ∨ (p2 ≠ p3 ∧ s45_0 = 1)), mm_W x 0 0 45 [mR 66, mI p1, mI p2, mI p3, mI p4, mU, mU] [mI s45_0] h27c := by
            intro s45_0 bs45_0 vs45_0
            refine mm_istoreL (ls2 := [mR 66, mI p1, mI p2, mI p3, mI p4, mI s45_0, mU]) C (mm_dec dk_X12_add 24 rfl) (by decide) rfl ?_
            refine mm_iconst C (mm_dec dk_X12_add 25 rfl) ⟨by decide, by decide⟩ ?_
            have J50 : ∀ (n : Nat) (x50_6 : Int) (bx50_6 : 0 ≤ x50_6 ∧ x50_6 ≤ 40) (w50_0 : mm_fd (h.2.1 85) p1 (x50_6).toNat = 0) (w50_1 : x50_6 ≤ h.1 66 23), (40 - x50_6 : Int) < n → mm_W x 0 0 50 [mR 66, mI p1, mI p2, mI p3, mI p4, mI s45_0, mI x50_6] [] h27c := by
              intro n
              induction n with
              | zero =>
                intro x50_6 bx50_6 w50_0 w50_1 hm
                exfalso; omega
              | succ n ih50 =>
                intro x50_6 bx50_6 w50_0 w50_1 hm50
                refine mm_iload C (mm_dec dk_X12_add 27 rfl) rfl ?_
                refine mm_aload_n C (mm_dec dk_X12_add 28 rfl) rfl ?_
                refine mm_geti C fl_X12_222 (mm_dec dk_X12_add 29 rfl) rfl rfl (Or.inl rfl) ?_
                refine mm_icmp_ge (tgt := 78) C (mm_dec dk_X12_add 30 rfl) (by decide) (fun c56 => ?_) (fun c56 => ?_)
                · skip
                  have ze : 0 = mm_fd (h.2.1 85) p1 (h.1 66 23).toNat := mm_fd_end w50_0 (by omega)
                  refine mm_aload_n C (mm_dec dk_X12_add 41 rfl) rfl ?_
                  refine mm_getr (t := 80) C fl_X12_51 (mm_dec dk_X12_add 42 rfl) rfl rfl (mm_ref i27c rfl) ?_
                  refine mm_iload_n C (mm_dec dk_X12_add 43 rfl) rfl ?_
                  refine mm_iald C (mm_dec dk_X12_add 44 rfl) rfl (by omega) (by omega) ?_
                  have g36 : 0 ≤ (h27c.2.1 80 p1) ∧ (h27c.2.1 80 p1) ≤ 12 := i27c.2.1 80 p1
                  refine mm_bipush C (mm_dec dk_X12_add 45 rfl) ⟨by decide, by decide⟩ ?_
                  have J113 : ∀ (w113_0 : (mm_fd (h.2.1 85) p1 (h.1 66 23).toNat = 1 ∨ h.2.1 80 p1 = 12 ∨ (p2 ≠ p3 ∧ (h.2.1 83 p1 ≠ 0 ∨ h.2.1 81 p1 = 4)))), mm_W x 0 0 113 [mU, mU, mU, mU, mU, mU, mU] [] h27c := by
                    intro w113_0
                    refine mm_iconst C (mm_dec dk_X12_add 60 rfl) ⟨by decide, by decide⟩ ?_
                    exact mm_iret C T (mm_dec dk_X12_add 61 rfl) (by decide : 0 ≤ 0) (by decide : 0 ≤ 0) ⟨_, rfl, ⟨⟨by omega, by omega⟩, i27c, f27c, by omega, by first | exact ⟨0, 0, Or.inl ⟨rfl, rfl, by decide⟩, mm_up_no (by decide) z80, mm_up_no (by decide) z81, mm_w3_no (by decide) (fun _ => ((g27c.2 82 (by decide) _).trans ((g18c.2 82 (by decide) _).trans ((g10c.2 82 (by decide) _).trans (g2c.2 82 (by decide) _))))), mm_v9 (fun _ => ((g27c.2 84 (by decide) _).trans ((g18c.2 84 (by decide) _).trans ((g10c.2 84 (by decide) _).trans (g2c.2 84 (by decide) _)))))⟩ | exact ⟨0, 0, Or.inl ⟨rfl, rfl, by decide⟩, mm_up_no (by decide) w33_1, mm_up_no (by decide) w33_2, mm_w3_no (by decide) w33_3, mm_v9 w33_4⟩ | exact (let ⟨g, hg, ug⟩ := w187_2; ⟨1, g, Or.inr ⟨rfl, by omega, hg⟩, mm_up_pav w187_1 eh9 (fun _ => rfl) rfl (by omega) rfl, mm_up_tr (fun _ => rfl) ug (fun _ => (mm_sm_pa 81 eh9 (by decide) _)) rfl Iff.rfl, mm_w3_tr (fun _ => rfl) w187_5 (fun _ => (mm_sm_pa 82 eh9 (by decide) _)) rfl, mm_v9_tr w187_6 (fun _ => (mm_sm_pa 84 eh9 (by decide) _))⟩)⟩⟩
                  refine mm_icmp_eq (tgt := 113) C (mm_dec dk_X12_add 46 rfl) (by decide) (fun c86 => ?_) (fun c86 => ?_)
                  · skip
                    refine mm_fgt 0 ?_
                    refine mm_fgt 1 ?_
                    refine mm_fgt 2 ?_
                    refine mm_fgt 3 ?_
                    refine mm_fgt 4 ?_
                    refine mm_fgt 5 ?_
                    refine mm_fgt 6 ?_
                    exact J113 (by omega)
                  · skip
                    refine mm_iload C (mm_dec dk_X12_add 47 rfl) rfl ?_
                    have J115 : ∀ (w115_0 : (mm_fd (h.2.1 85) p1 (h.1 66 23).toNat = 0 ∧ h.2.1 80 p1 ≠ 12 ∧ (p2 = p3 ∨ (h.2.1 83 p1 = 0 ∧ h.2.1 81 p1 ≠ 4)))), mm_W x 0 0 115 [mR 66, mI p1, mI p2, mI p3, mI p4, mI s45_0, mU] [] h27c := by
                      intro w115_0
                      refine mm_bipush C (mm_dec dk_X12_add 62 rfl) ⟨by decide, by decide⟩ ?_
                      refine mm_iload_n C (mm_dec dk_X12_add 63 rfl) rfl ?_
                      refine mm_imul C (mm_dec dk_X12_add 64 rfl) ⟨by omega, by omega⟩ ?_
                      refine mm_aload_n C (mm_dec dk_X12_add 65 rfl) rfl ?_
                      refine mm_getr (t := 80) C fl_X12_51 (mm_dec dk_X12_add 66 rfl) rfl rfl (mm_ref i27c rfl) ?_
                      refine mm_iload_n C (mm_dec dk_X12_add 67 rfl) rfl ?_
                      refine mm_iald C (mm_dec dk_X12_add 68 rfl) rfl (by omega) (by omega) ?_
                      refine mm_iadd C (mm_dec dk_X12_add 69 rfl) ⟨by omega, by omega⟩ ?_
                      refine mm_istoreL (ls2 := [mR 66, mI p1, mI p2, mI p3, mI p4, mI s45_0, mI ((12 * p1) + (h27c.2.1 80 p1))]) C (mm_dec dk_X12_add 70 rfl) (by decide) rfl ?_
                      refine mm_aload_n C (mm_dec dk_X12_add 71 rfl) rfl ?_
                      refine mm_getr (t := 84) C fl_X12_63 (mm_dec dk_X12_add 72 rfl) rfl rfl (mm_ref i27c rfl) ?_
                      refine mm_iload C (mm_dec dk_X12_add 73 rfl) rfl ?_
                      refine mm_iload C (mm_dec dk_X12_add 74 rfl) rfl ?_
                      refine mm_zast C (mm_dec dk_X12_add 75 rfl) rfl (by omega) (by omega) (by omega) ?_
                      have i5 : mm_inv (mm_pa h27c 84 ((12 * p1) + (h27c.2.1 80 p1)) s45_0) := mm_inv_pa i27c (show 0 ≤ s45_0 ∧ s45_0 ≤ 1 from ⟨by omega, by omega⟩)
                      have f5 : mm_fr [(66, 0)] [80, 81, 82, 84] h (mm_pa h27c 84 ((12 * p1) + (h27c.2.1 80 p1)) s45_0) := mm_fr_pa f27c (by decide)
                      obtain ⟨h5, eh5⟩ : ∃ z, z = mm_pa h27c 84 ((12 * p1) + (h27c.2.1 80 p1)) s45_0 := ⟨_, rfl⟩
                      rw [← eh5] at i5 f5 ⊢
                      have qh5_37 : h5.1 66 0 = h27c.1 66 0 := by rw [eh5]; rfl
                      have qh5_38 : h5.1 66 21 = h27c.1 66 21 := by rw [eh5]; rfl
                      have qh5_39 : h5.1 66 22 = h27c.1 66 22 := by rw [eh5]; rfl
                      have qh5_40 : h5.1 66 23 = h27c.1 66 23 := by rw [eh5]; rfl
                      have qh5_41 : h5.2.1 80 p1 = h27c.2.1 80 p1 := by rw [eh5]; exact mm_pa_ne _ _ (fun q => absurd q.1 (by decide))
                      refine mm_aload_n C (mm_dec dk_X12_add 76 rfl) rfl ?_
                      refine mm_getr (t := 82) C fl_X12_57 (mm_dec dk_X12_add 77 rfl) rfl rfl (mm_ref i5 rfl) ?_
                      refine mm_iconst C (mm_dec dk_X12_add 78 rfl) ⟨by decide, by decide⟩ ?_
                      refine mm_iload C (mm_dec dk_X12_add 79 rfl) rfl ?_
                      refine mm_imul C (mm_dec dk_X12_add 80 rfl) ⟨by omega, by omega⟩ ?_
                      refine mm_iload_n C (mm_dec dk_X12_add 81 rfl) rfl ?_
                      refine mm_iast C (mm_dec dk_X12_add 82 rfl) rfl (by omega) (by omega) ?_
                      have i6 : mm_inv (mm_pa h5 82 (3 * ((12 * p1) + (h27c.2.1 80 p1))) p2) := mm_inv_pa i5 (show 0 ≤ p2 ∧ p2 ≤ 19 from ⟨by omega, by omega⟩)
                      have f6 : mm_fr [(66, 0)] [80, 81, 82, 84] h (mm_pa h5 82 (3 * ((12 * p1) + (h27c.2.1 80 p1))) p2) := mm_fr_pa f5 (by decide)
                      obtain ⟨h6, eh6⟩ : ∃ z, z = mm_pa h5 82 (3 * ((12 * p1) + (h27c.2.1 80 p1))) p2 := ⟨_, rfl⟩
                      rw [← eh6] at i6 f6 ⊢
                      have qh6_42 : h6.1 66 0 = h5.1 66 0 := by rw [eh6]; rfl
                      have qh6_43 : h6.1 66 21 = h5.1 66 21 := by rw [eh6]; rfl
                      have qh6_44 : h6.1 66 22 = h5.1 66 22 := by rw [eh6]; rfl
                      have qh6_45 : h6.1 66 23 = h5.1 66 23 := by rw [eh6]; rfl
                      have qh6_46 : h6.2.1 80 p1 = h5.2.1 80 p1 := by rw [eh6]; exact mm_pa_ne _ _ (fun q => absurd q.1 (by decide))
                      refine mm_aload_n C (mm_dec dk_X12_add 83 rfl) rfl ?_
                      refine mm_getr (t := 82) C fl_X12_57 (mm_dec dk_X12_add 84 rfl) rfl rfl (mm_ref i6 rfl) ?_
                      refine mm_iconst C (mm_dec dk_X12_add 85 rfl) ⟨by decide, by decide⟩ ?_
                      refine mm_iload C (mm_dec dk_X12_add 86 rfl) rfl ?_
                      refine mm_imul C (mm_dec dk_X12_add 87 rfl) ⟨by omega, by omega⟩ ?_
                      refine mm_iconst C (mm_dec dk_X12_add 88 rfl) ⟨by decide, by decide⟩ ?_
                      refine mm_iadd C (mm_dec dk_X12_add 89 rfl) ⟨by omega, by omega⟩ ?_
                      refine mm_iload_n C (mm_dec dk_X12_add 90 rfl) rfl ?_
                      refine mm_iast C (mm_dec dk_X12_add 91 rfl) rfl (by omega) (by omega) ?_
                      have i7 : mm_inv (mm_pa h6 82 ((3 * ((12 * p1) + (h27c.2.1 80 p1))) + 1) p3) := mm_inv_pa i6 (show 0 ≤ p3 ∧ p3 ≤ 19 from ⟨by omega, by omega⟩)
                      have f7 : mm_fr [(66, 0)] [80, 81, 82, 84] h (mm_pa h6 82 ((3 * ((12 * p1) + (h27c.2.1 80 p1))) + 1) p3) := mm_fr_pa f6 (by decide)
                      obtain ⟨h7, eh7⟩ : ∃ z, z = mm_pa h6 82 ((3 * ((12 * p1) + (h27c.2.1 80 p1))) + 1) p3 := ⟨_, rfl⟩
                      rw [← eh7] at i7 f7 ⊢
                      have qh7_47 : h7.1 66 0 = h6.1 66 0 := by rw [eh7]; rfl
                      have qh7_48 : h7.1 66 21 = h6.1 66 21 := by rw [eh7]; rfl
                      have qh7_49 : h7.1 66 22 = h6.1 66 22 := by rw [eh7]; rfl
                      have qh7_50 : h7.1 66 23 = h6.1 66 23 := by rw [eh7]; rfl
                      have qh7_51 : h7.2.1 80 p1 = h6.2.1 80 p1 := by rw [eh7]; exact mm_pa_ne _ _ (fun q => absurd q.1 (by decide))
                      refine mm_aload_n C (mm_dec dk_X12_add 92 rfl) rfl ?_
                      refine mm_getr (t := 82) C fl_X12_57 (mm_dec dk_X12_add 93 rfl) rfl rfl (mm_ref i7 rfl) ?_
                      refine mm_iconst C (mm_dec dk_X12_add 94 rfl) ⟨by decide, by decide⟩ ?_
                      refine mm_iload C (mm_dec dk_X12_add 95 rfl) rfl ?_
                      refine mm_imul C (mm_dec dk_X12_add 96 rfl) ⟨by omega, by omega⟩ ?_
                      refine mm_iconst C (mm_dec dk_X12_add 97 rfl) ⟨by decide, by decide⟩ ?_
                      refine mm_iadd C (mm_dec dk_X12_add 98 rfl) ⟨by omega, by omega⟩ ?_
                      refine mm_iload C (mm_dec dk_X12_add 99 rfl) rfl ?_
                      refine mm_iast C (mm_dec dk_X12_add 100 rfl) rfl (by omega) (by omega) ?_
                      have i8 : mm_inv (mm_pa h7 82 ((3 * ((12 * p1) + (h27c.2.1 80 p1))) + 2) p4) := mm_inv_pa i7 (show 0 ≤ p4 ∧ p4 ≤ 19 from ⟨by omega, by omega⟩)
                      have f8 : mm_fr [(66, 0)] [80, 81, 82, 84] h (mm_pa h7 82 ((3 * ((12 * p1) + (h27c.2.1 80 p1))) + 2) p4) := mm_fr_pa f7 (by decide)
                      obtain ⟨h8, eh8⟩ : ∃ z, z = mm_pa h7 82 ((3 * ((12 * p1) + (h27c.2.1 80 p1))) + 2) p4 := ⟨_, rfl⟩
                      rw [← eh8] at i8 f8 ⊢
                      have qh8_52 : h8.1 66 0 = h7.1 66 0 := by rw [eh8]; rfl
                      have qh8_53 : h8.1 66 21 = h7.1 66 21 := by rw [eh8]; rfl
                      have qh8_54 : h8.1 66 22 = h7.1 66 22 := by rw [eh8]; rfl
                      have qh8_55 : h8.1 66 23 = h7.1 66 23 := by rw [eh8]; rfl
                      have qh8_56 : h8.2.1 80 p1 = h7.2.1 80 p1 := by rw [eh8]; exact mm_pa_ne _ _ (fun q => absurd q.1 (by decide))
                      refine mm_iload C (mm_dec dk_X12_add 101 rfl) rfl ?_
                      have J187 : ∀ (h187_ : mH) (i187_ : mm_inv h187_) (f187_ : mm_fr [(66, 0)] [80, 81, 82, 84] h h187_) (w187_0 : h187_.2.1 80 p1 ≤ 11) (w187_1 : ∀ j, h187_.2.1 80 j = h.2.1 80 j) (w187_2 : (∃ f : Int, ((p2 = p3 ∧ f = 0) ∨ (p2 ≠ p3 ∧ f = 1)) ∧ mm_up h h187_ 81 p1 (mm_w (h.2.1 81 p1 + 1)) f)) (w187_3 : h187_.1 66 0 = 0) (w187_4 : (mm_fd (h.2.1 85) p1 (h.1 66 23).toNat = 0 ∧ h.2.1 80 p1 ≠ 12 ∧ (p2 = p3 ∨ (h.2.1 83 p1 = 0 ∧ h.2.1 81 p1 ≠ 4)))) (w187_5 : mm_w3 h h187_ 82 (3 * (12 * p1 + h.2.1 80 p1)) p2 p3 p4 1) (w187_6 : (∃ v9 : Int, ((v9 = 1 ∧ p2 ≠ p3) ∨ (v9 = 0 ∧ p2 = p3)) ∧ mm_up h h187_ 84 (12 * p1 + h.2.1 80 p1) v9 1)), mm_W x 0 0 187 [mR 66, mI p1, mU, mU, mU, mU, mU] [] h187_ := by
                        intro h187_ i187_ f187_ w187_0 w187_1 w187_2 w187_3 w187_4 w187_5 w187_6
                        have g57 : -2147483648 ≤ h187_.1 66 0 ∧ h187_.1 66 0 ≤ 2147483647 := i187_.1 66 0
                        have g58 : 0 ≤ h187_.1 66 22 ∧ h187_.1 66 22 ≤ 8 := i187_.1 66 22
                        have g59 : 0 ≤ h187_.1 66 21 ∧ h187_.1 66 21 ≤ 20 := i187_.1 66 21
                        have g60 : 0 ≤ h187_.1 66 23 ∧ h187_.1 66 23 ≤ 40 := i187_.1 66 23
                        have g61 : h187_.1 66 22 = h.1 66 22 := f187_.1 66 22 (by decide)
                        have g62 : h187_.1 66 21 = h.1 66 21 := f187_.1 66 21 (by decide)
                        have g63 : h187_.1 66 23 = h.1 66 23 := f187_.1 66 23 (by decide)
                        have y187 := w187_1 p1
                        refine mm_aload_n C (mm_dec dk_X12_add 111 rfl) rfl ?_
                        refine mm_getr (t := 80) C fl_X12_51 (mm_dec dk_X12_add 112 rfl) rfl rfl (mm_ref i187_ rfl) ?_
                        refine mm_iload_n C (mm_dec dk_X12_add 113 rfl) rfl ?_
                        refine mm_dup2 C (mm_dec dk_X12_add 114 rfl) (show (0 : Nat) ≠ 1 by decide) (show (2 : Nat) ≠ 1 by decide) ?_
                        refine mm_iald C (mm_dec dk_X12_add 115 rfl) rfl (by omega) (by omega) ?_
                        have g64 : 0 ≤ (h187_.2.1 80 p1) ∧ (h187_.2.1 80 p1) ≤ 12 := i187_.2.1 80 p1
                        refine mm_iconst C (mm_dec dk_X12_add 116 rfl) ⟨by decide, by decide⟩ ?_
                        refine mm_iadd C (mm_dec dk_X12_add 117 rfl) ⟨by omega, by omega⟩ ?_
                        refine mm_iast C (mm_dec dk_X12_add 118 rfl) rfl (by omega) (by omega) ?_
                        have i9 : mm_inv (mm_pa h187_ 80 p1 ((h187_.2.1 80 p1) + 1)) := mm_inv_pa i187_ (show 0 ≤ ((h187_.2.1 80 p1) + 1) ∧ ((h187_.2.1 80 p1) + 1) ≤ 12 from ⟨by omega, by omega⟩)
                        have f9 : mm_fr [(66, 0)] [80, 81, 82, 84] h (mm_pa h187_ 80 p1 ((h187_.2.1 80 p1) + 1)) := mm_fr_pa f187_ (by decide)
                        obtain ⟨h9, eh9⟩ : ∃ z, z = mm_pa h187_ 80 p1 ((h187_.2.1 80 p1) + 1) := ⟨_, rfl⟩
                        rw [← eh9] at i9 f9 ⊢
                        have qh9_65 : h9.1 66 0 = h187_.1 66 0 := by rw [eh9]; rfl
                        have qh9_66 : h9.1 66 21 = h187_.1 66 21 := by rw [eh9]; rfl
                        have qh9_67 : h9.1 66 22 = h187_.1 66 22 := by rw [eh9]; rfl
                        have qh9_68 : h9.1 66 23 = h187_.1 66 23 := by rw [eh9]; rfl
                        have qh9_69 : h9.2.1 80 p1 = ((h187_.2.1 80 p1) + 1) := by rw [eh9]; exact mm_pa_same _ _ _ _
                        refine mm_aload_n C (mm_dec dk_X12_add 119 rfl) rfl ?_
                        refine mm_getr (t := 80) C fl_X12_51 (mm_dec dk_X12_add 120 rfl) rfl rfl (mm_ref i9 rfl) ?_
                        refine mm_iload_n C (mm_dec dk_X12_add 121 rfl) rfl ?_
                        refine mm_iald C (mm_dec dk_X12_add 122 rfl) rfl (by omega) (by omega) ?_
                        have g70 : 0 ≤ (h9.2.1 80 p1) ∧ (h9.2.1 80 p1) ≤ 12 := i9.2.1 80 p1
                        exact mm_iret C T (mm_dec dk_X12_add 123 rfl) (by decide : 0 ≤ 0) (by decide : 0 ≤ 0) ⟨_, rfl, ⟨⟨by omega, by omega⟩, i9, f9, by omega, by first | exact ⟨0, 0, Or.inl ⟨rfl, rfl, by decide⟩, mm_up_no (by decide) z80, mm_up_no (by decide) z81, mm_w3_no (by decide) (fun _ => ((g27c.2 82 (by decide) _).trans ((g18c.2 82 (by decide) _).trans ((g10c.2 82 (by decide) _).trans (g2c.2 82 (by decide) _))))), mm_v9 (fun _ => ((g27c.2 84 (by decide) _).trans ((g18c.2 84 (by decide) _).trans ((g10c.2 84 (by decide) _).trans (g2c.2 84 (by decide) _)))))⟩ | exact ⟨0, 0, Or.inl ⟨rfl, rfl, by decide⟩, mm_up_no (by decide) w33_1, mm_up_no (by decide) w33_2, mm_w3_no (by decide) w33_3, mm_v9 w33_4⟩ | exact (let ⟨g, hg, ug⟩ := w187_2; ⟨1, g, Or.inr ⟨rfl, by omega, hg⟩, mm_up_pav w187_1 eh9 (fun _ => rfl) rfl (by omega) rfl, mm_up_tr (fun _ => rfl) ug (fun _ => (mm_sm_pa 81 eh9 (by decide) _)) rfl Iff.rfl, mm_w3_tr (fun _ => rfl) w187_5 (fun _ => (mm_sm_pa 82 eh9 (by decide) _)) rfl, mm_v9_tr w187_6 (fun _ => (mm_sm_pa 84 eh9 (by decide) _))⟩)⟩⟩
                      refine mm_if_eq (tgt := 187) C (mm_dec dk_X12_add 102 rfl) (by decide) (fun c174 => ?_) (fun c174 => ?_)
                      · skip
                        refine mm_fgt 2 ?_
                        refine mm_fgt 3 ?_
                        refine mm_fgt 4 ?_
                        refine mm_fgt 5 ?_
                        refine mm_fgt 6 ?_
                        exact J187 h8 i8 f8 (by omega) (by first | exact (fun _ => ((mm_sm_pa 80 eh8 (by decide) _).trans ((mm_sm_pa 80 eh7 (by decide) _).trans ((mm_sm_pa 80 eh6 (by decide) _).trans ((mm_sm_pa 80 eh5 (by decide) _).trans ((g27c.2 80 (by decide) _).trans ((g18c.2 80 (by decide) _).trans ((g10c.2 80 (by decide) _).trans (g2c.2 80 (by decide) _))))))))) | exact (fun _ => ((mm_sm_pa 80 eh10 (by decide) _).trans ((mm_sm_pa 80 eh8 (by decide) _).trans ((mm_sm_pa 80 eh7 (by decide) _).trans ((mm_sm_pa 80 eh6 (by decide) _).trans ((mm_sm_pa 80 eh5 (by decide) _).trans ((g27c.2 80 (by decide) _).trans ((g18c.2 80 (by decide) _).trans ((g10c.2 80 (by decide) _).trans (g2c.2 80 (by decide) _))))))))))) (by first | exact ⟨0, Or.inl ⟨by omega, rfl⟩, mm_up_no (by decide) (fun _ => ((mm_sm_pa 81 eh8 (by decide) _).trans ((mm_sm_pa 81 eh7 (by decide) _).trans ((mm_sm_pa 81 eh6 (by decide) _).trans ((mm_sm_pa 81 eh5 (by decide) _).trans ((g27c.2 81 (by decide) _).trans ((g18c.2 81 (by decide) _).trans ((g10c.2 81 (by decide) _).trans (g2c.2 81 (by decide) _)))))))))⟩ | exact ⟨1, Or.inr ⟨by omega, rfl⟩, mm_up_pav (fun _ => ((mm_sm_pa 81 eh8 (by decide) _).trans ((mm_sm_pa 81 eh7 (by decide) _).trans ((mm_sm_pa 81 eh6 (by decide) _).trans ((mm_sm_pa 81 eh5 (by decide) _).trans ((g27c.2 81 (by decide) _).trans ((g18c.2 81 (by decide) _).trans ((g10c.2 81 (by decide) _).trans (g2c.2 81 (by decide) _))))))))) eh10 (fun _ => rfl) rfl (by rw [show h8.2.1 81 p1 = h.2.1 81 p1 from (fun _ => ((mm_sm_pa 81 eh8 (by decide) _).trans ((mm_sm_pa 81 eh7 (by decide) _).trans ((mm_sm_pa 81 eh6 (by decide) _).trans ((mm_sm_pa 81 eh5 (by decide) _).trans ((g27c.2 81 (by decide) _).trans ((g18c.2 81 (by decide) _).trans ((g10c.2 81 (by decide) _).trans (g2c.2 81 (by decide) _))))))))) p1]) rfl⟩) (by omega) (by omega) (by first | exact mm_w3_pa (fun _ => ((mm_sm_pa 82 eh5 (by decide) _).trans ((g27c.2 82 (by decide) _).trans ((g18c.2 82 (by decide) _).trans ((g10c.2 82 (by decide) _).trans (g2c.2 82 (by decide) _)))))) eh6 eh7 eh8 (fun _ => rfl) (by omega) (by omega) (by omega) | exact mm_w3_pa (fun _ => ((mm_sm_pa 82 eh5 (by decide) _).trans ((g27c.2 82 (by decide) _).trans ((g18c.2 82 (by decide) _).trans ((g10c.2 82 (by decide) _).trans (g2c.2 82 (by decide) _)))))) eh6 eh7 eh8 (fun _ => (mm_sm_pa 82 eh10 (by decide) _)) (by omega) (by omega) (by omega)) (by first | exact ⟨s45_0, by omega, mm_up_pav (fun _ => ((g27c.2 84 (by decide) _).trans ((g18c.2 84 (by decide) _).trans ((g10c.2 84 (by decide) _).trans (g2c.2 84 (by decide) _))))) eh5 (fun _ => ((mm_sm_pa 84 eh8 (by decide) _).trans ((mm_sm_pa 84 eh7 (by decide) _).trans (mm_sm_pa 84 eh6 (by decide) _)))) (by omega) rfl rfl⟩ | exact ⟨s45_0, by omega, mm_up_pav (fun _ => ((g27c.2 84 (by decide) _).trans ((g18c.2 84 (by decide) _).trans ((g10c.2 84 (by decide) _).trans (g2c.2 84 (by decide) _))))) eh5 (fun _ => ((mm_sm_pa 84 eh10 (by decide) _).trans ((mm_sm_pa 84 eh8 (by decide) _).trans ((mm_sm_pa 84 eh7 (by decide) _).trans (mm_sm_pa 84 eh6 (by decide) _))))) (by omega) rfl rfl⟩)
                      · skip
                        refine mm_aload_n C (mm_dec dk_X12_add 103 rfl) rfl ?_
                        refine mm_getr (t := 81) C fl_X12_54 (mm_dec dk_X12_add 104 rfl) rfl rfl (mm_ref i8 rfl) ?_
                        refine mm_iload_n C (mm_dec dk_X12_add 105 rfl) rfl ?_
                        refine mm_dup2 C (mm_dec dk_X12_add 106 rfl) (show (0 : Nat) ≠ 1 by decide) (show (2 : Nat) ≠ 1 by decide) ?_
                        refine mm_iald C (mm_dec dk_X12_add 107 rfl) rfl (by omega) (by omega) ?_
                        have g71 : -2147483648 ≤ (h8.2.1 81 p1) ∧ (h8.2.1 81 p1) ≤ 2147483647 := i8.2.1 81 p1
                        refine mm_iconst C (mm_dec dk_X12_add 108 rfl) ⟨by decide, by decide⟩ ?_
                        refine mm_iaddw C (mm_dec dk_X12_add 109 rfl) ?_
                        have g72 : -2147483648 ≤ (mm_w ((h8.2.1 81 p1) + 1)) ∧ (mm_w ((h8.2.1 81 p1) + 1)) < 2147483648 := mm_w_rg _
                        refine mm_iast C (mm_dec dk_X12_add 110 rfl) rfl (by omega) (by omega) ?_
                        have i10 : mm_inv (mm_pa h8 81 p1 (mm_w ((h8.2.1 81 p1) + 1))) := mm_inv_pa i8 (show -2147483648 ≤ (mm_w ((h8.2.1 81 p1) + 1)) ∧ (mm_w ((h8.2.1 81 p1) + 1)) ≤ 2147483647 from ⟨by omega, by omega⟩)
                        have f10 : mm_fr [(66, 0)] [80, 81, 82, 84] h (mm_pa h8 81 p1 (mm_w ((h8.2.1 81 p1) + 1))) := mm_fr_pa f8 (by decide)
                        obtain ⟨h10, eh10⟩ : ∃ z, z = mm_pa h8 81 p1 (mm_w ((h8.2.1 81 p1) + 1)) := ⟨_, rfl⟩
                        rw [← eh10] at i10 f10 ⊢
                        have qh10_73 : h10.1 66 0 = h8.1 66 0 := by rw [eh10]; rfl
                        have qh10_74 : h10.1 66 21 = h8.1 66 21 := by rw [eh10]; rfl
                        have qh10_75 : h10.1 66 22 = h8.1 66 22 := by rw [eh10]; rfl
                        have qh10_76 : h10.1 66 23 = h8.1 66 23 := by rw [eh10]; rfl
                        have qh10_77 : h10.2.1 80 p1 = h8.2.1 80 p1 := by rw [eh10]; exact mm_pa_ne _ _ (fun q => absurd q.1 (by decide))
                        refine mm_fgt 2 ?_
                        refine mm_fgt 3 ?_
                        refine mm_fgt 4 ?_
                        refine mm_fgt 5 ?_
                        refine mm_fgt 6 ?_
                        exact J187 h10 i10 f10 (by omega) (by first | exact (fun _ => ((mm_sm_pa 80 eh8 (by decide) _).trans ((mm_sm_pa 80 eh7 (by decide) _).trans ((mm_sm_pa 80 eh6 (by decide) _).trans ((mm_sm_pa 80 eh5 (by decide) _).trans ((g27c.2 80 (by decide) _).trans ((g18c.2 80 (by decide) _).trans ((g10c.2 80 (by decide) _).trans (g2c.2 80 (by decide) _))))))))) | exact (fun _ => ((mm_sm_pa 80 eh10 (by decide) _).trans ((mm_sm_pa 80 eh8 (by decide) _).trans ((mm_sm_pa 80 eh7 (by decide) _).trans ((mm_sm_pa 80 eh6 (by decide) _).trans ((mm_sm_pa 80 eh5 (by decide) _).trans ((g27c.2 80 (by decide) _).trans ((g18c.2 80 (by decide) _).trans ((g10c.2 80 (by decide) _).trans (g2c.2 80 (by decide) _))))))))))) (by first | exact ⟨0, Or.inl ⟨by omega, rfl⟩, mm_up_no (by decide) (fun _ => ((mm_sm_pa 81 eh8 (by decide) _).trans ((mm_sm_pa 81 eh7 (by decide) _).trans ((mm_sm_pa 81 eh6 (by decide) _).trans ((mm_sm_pa 81 eh5 (by decide) _).trans ((g27c.2 81 (by decide) _).trans ((g18c.2 81 (by decide) _).trans ((g10c.2 81 (by decide) _).trans (g2c.2 81 (by decide) _)))))))))⟩ | exact ⟨1, Or.inr ⟨by omega, rfl⟩, mm_up_pav (fun _ => ((mm_sm_pa 81 eh8 (by decide) _).trans ((mm_sm_pa 81 eh7 (by decide) _).trans ((mm_sm_pa 81 eh6 (by decide) _).trans ((mm_sm_pa 81 eh5 (by decide) _).trans ((g27c.2 81 (by decide) _).trans ((g18c.2 81 (by decide) _).trans ((g10c.2 81 (by decide) _).trans (g2c.2 81 (by decide) _))))))))) eh10 (fun _ => rfl) rfl (by rw [show h8.2.1 81 p1 = h.2.1 81 p1 from (fun _ => ((mm_sm_pa 81 eh8 (by decide) _).trans ((mm_sm_pa 81 eh7 (by decide) _).trans ((mm_sm_pa 81 eh6 (by decide) _).trans ((mm_sm_pa 81 eh5 (by decide) _).trans ((g27c.2 81 (by decide) _).trans ((g18c.2 81 (by decide) _).trans ((g10c.2 81 (by decide) _).trans (g2c.2 81 (by decide) _))))))))) p1]) rfl⟩) (by omega) (by omega) (by first | exact mm_w3_pa (fun _ => ((mm_sm_pa 82 eh5 (by decide) _).trans ((g27c.2 82 (by decide) _).trans ((g18c.2 82 (by decide) _).trans ((g10c.2 82 (by decide) _).trans (g2c.2 82 (by decide) _)))))) eh6 eh7 eh8 (fun _ => rfl) (by omega) (by omega) (by omega) | exact mm_w3_pa (fun _ => ((mm_sm_pa 82 eh5 (by decide) _).trans ((g27c.2 82 (by decide) _).trans ((g18c.2 82 (by decide) _).trans ((g10c.2 82 (by decide) _).trans (g2c.2 82 (by decide) _)))))) eh6 eh7 eh8 (fun _ => (mm_sm_pa 82 eh10 (by decide) _)) (by omega) (by omega) (by omega)) (by first | exact ⟨s45_0, by omega, mm_up_pav (fun _ => ((g27c.2 84 (by decide) _).trans ((g18c.2 84 (by decide) _).trans ((g10c.2 84 (by decide) _).trans (g2c.2 84 (by decide) _))))) eh5 (fun _ => ((mm_sm_pa 84 eh8 (by decide) _).trans ((mm_sm_pa 84 eh7 (by decide) _).trans (mm_sm_pa 84 eh6 (by decide) _)))) (by omega) rfl rfl⟩ | exact ⟨s45_0, by omega, mm_up_pav (fun _ => ((g27c.2 84 (by decide) _).trans ((g18c.2 84 (by decide) _).trans ((g10c.2 84 (by decide) _).trans (g2c.2 84 (by decide) _))))) eh5 (fun _ => ((mm_sm_pa 84 eh10 (by decide) _).trans ((mm_sm_pa 84 eh8 (by decide) _).trans ((mm_sm_pa 84 eh7 (by decide) _).trans (mm_sm_pa 84 eh6 (by decide) _))))) (by omega) rfl rfl⟩)
                    refine mm_if_eq (tgt := 115) C (mm_dec dk_X12_add 48 rfl) (by decide) (fun c91 => ?_) (fun c91 => ?_)
                    · skip
                      refine mm_fgt 6 ?_
                      exact J115 (by omega)
                    · skip
                      refine mm_aload_n C (mm_dec dk_X12_add 49 rfl) rfl ?_
                      refine mm_getr (t := 83) C fl_X12_60 (mm_dec dk_X12_add 50 rfl) rfl rfl (mm_ref i27c rfl) ?_
                      refine mm_iload_n C (mm_dec dk_X12_add 51 rfl) rfl ?_
                      refine mm_zald C (mm_dec dk_X12_add 52 rfl) rfl (by omega) (by omega) ?_
                      have g78 : 0 ≤ (h27c.2.1 83 p1) ∧ (h27c.2.1 83 p1) ≤ 1 := i27c.2.1 83 p1
                      refine mm_if_ne (tgt := 113) C (mm_dec dk_X12_add 53 rfl) (by decide) (fun c100 => ?_) (fun c100 => ?_)
                      · skip
                        refine mm_fgt 0 ?_
                        refine mm_fgt 1 ?_
                        refine mm_fgt 2 ?_
                        refine mm_fgt 3 ?_
                        refine mm_fgt 4 ?_
                        refine mm_fgt 5 ?_
                        refine mm_fgt 6 ?_
                        exact J113 (by omega)
                      · skip
                        refine mm_aload_n C (mm_dec dk_X12_add 54 rfl) rfl ?_
                        refine mm_getr (t := 81) C fl_X12_54 (mm_dec dk_X12_add 55 rfl) rfl rfl (mm_ref i27c rfl) ?_
                        refine mm_iload_n C (mm_dec dk_X12_add 56 rfl) rfl ?_
                        refine mm_iald C (mm_dec dk_X12_add 57 rfl) rfl (by omega) (by omega) ?_
                        have g79 : -2147483648 ≤ (h27c.2.1 81 p1) ∧ (h27c.2.1 81 p1) ≤ 2147483647 := i27c.2.1 81 p1
                        refine mm_iconst C (mm_dec dk_X12_add 58 rfl) ⟨by decide, by decide⟩ ?_
                        refine mm_icmp_ne (tgt := 115) C (mm_dec dk_X12_add 59 rfl) (by decide) (fun c110 => ?_) (fun c110 => ?_)
                        · skip
                          refine mm_fgt 6 ?_
                          exact J115 (by omega)
                        · skip
                          refine mm_fgt 0 ?_
                          refine mm_fgt 1 ?_
                          refine mm_fgt 2 ?_
                          refine mm_fgt 3 ?_
                          refine mm_fgt 4 ?_
                          refine mm_fgt 5 ?_
                          refine mm_fgt 6 ?_
                          exact J113 (by omega)
                · skip
                  refine mm_aload_n C (mm_dec dk_X12_add 31 rfl) rfl ?_
                  refine mm_getr (t := 85) C fl_X12_66 (mm_dec dk_X12_add 32 rfl) rfl rfl (mm_ref i27c rfl) ?_
                  refine mm_iload C (mm_dec dk_X12_add 33 rfl) rfl ?_
                  refine mm_iald C (mm_dec dk_X12_add 34 rfl) rfl (by omega) (by omega) ?_
                  have g80 : 0 ≤ (h27c.2.1 85 x50_6) ∧ (h27c.2.1 85 x50_6) ≤ 7 := i27c.2.1 85 x50_6
                  refine mm_iload_n C (mm_dec dk_X12_add 35 rfl) rfl ?_
                  refine mm_icmp_ne (tgt := 72) C (mm_dec dk_X12_add 36 rfl) (by decide) (fun c67 => ?_) (fun c67 => ?_)
                  · skip
                    refine mm_iincL (ls2 := [mR 66, mI p1, mI p2, mI p3, mI p4, mI s45_0, mI (x50_6 + 1)]) C (mm_dec dk_X12_add 39 rfl) rfl (by decide) ⟨by omega, by omega⟩ rfl ?_
                    refine mm_goto (tgt := 50) C (mm_dec dk_X12_add 40 rfl) (by decide) ?_
                    exact ih50 (x50_6 + 1) ⟨by omega, by omega⟩ (by first | rfl | exact mm_fd_step w50_0 (by omega) (by have := z85 x50_6; omega)) (by omega) (by omega)
                  · skip
                    have zh : 1 = mm_fd (h.2.1 85) p1 (h.1 66 23).toNat := mm_fd_hit (i := x50_6) (by omega) (by omega) (by have := z85 x50_6; omega)
                    refine mm_iconst C (mm_dec dk_X12_add 37 rfl) ⟨by decide, by decide⟩ ?_
                    exact mm_iret C T (mm_dec dk_X12_add 38 rfl) (by decide : 0 ≤ 0) (by decide : 0 ≤ 0) ⟨_, rfl, ⟨⟨by omega, by omega⟩, i27c, f27c, by omega, by first | exact ⟨0, 0, Or.inl ⟨rfl, rfl, by decide⟩, mm_up_no (by decide) z80, mm_up_no (by decide) z81, mm_w3_no (by decide) (fun _ => ((g27c.2 82 (by decide) _).trans ((g18c.2 82 (by decide) _).trans ((g10c.2 82 (by decide) _).trans (g2c.2 82 (by decide) _))))), mm_v9 (fun _ => ((g27c.2 84 (by decide) _).trans ((g18c.2 84 (by decide) _).trans ((g10c.2 84 (by decide) _).trans (g2c.2 84 (by decide) _)))))⟩ | exact ⟨0, 0, Or.inl ⟨rfl, rfl, by decide⟩, mm_up_no (by decide) w33_1, mm_up_no (by decide) w33_2, mm_w3_no (by decide) w33_3, mm_v9 w33_4⟩ | exact (let ⟨g, hg, ug⟩ := w187_2; ⟨1, g, Or.inr ⟨rfl, by omega, hg⟩, mm_up_pav w187_1 eh9 (fun _ => rfl) rfl (by omega) rfl, mm_up_tr (fun _ => rfl) ug (fun _ => (mm_sm_pa 81 eh9 (by decide) _)) rfl Iff.rfl, mm_w3_tr (fun _ => rfl) w187_5 (fun _ => (mm_sm_pa 82 eh9 (by decide) _)) rfl, mm_v9_tr w187_6 (fun _ => (mm_sm_pa 84 eh9 (by decide) _))⟩)⟩⟩
            refine mm_istoreL (ls2 := [mR 66, mI p1, mI p2, mI p3, mI p4, mI s45_0, mI 0]) C (mm_dec dk_X12_add 26 rfl) (by decide) rfl ?_
            exact J50 (((40 - 0) : Int) + 1).toNat 0 ⟨by omega, by omega⟩ (by first | rfl | exact mm_fd_step w50_0 (by omega) (by have := z85 x50_6; omega)) (by omega) (by omega)
          refine mm_icmp_eq (tgt := 44) C (mm_dec dk_X12_add 20 rfl) (by decide) (fun c37 => ?_) (fun c37 => ?_)
          · skip
            refine mm_iconst C (mm_dec dk_X12_add 23 rfl) ⟨by decide, by decide⟩ ?_
            exact J45 0 ⟨by omega, by omega⟩ (Or.inl ⟨by omega, rfl⟩)
          · skip
            refine mm_iconst C (mm_dec dk_X12_add 21 rfl) ⟨by decide, by decide⟩ ?_
            refine mm_goto (tgt := 45) C (mm_dec dk_X12_add 22 rfl) (by decide) ?_
            exact J45 1 ⟨by omega, by omega⟩ (Or.inr (⟨by omega, rfl⟩))
        · skip
          refine mm_fgt 0 ?_
          refine mm_fgt 1 ?_
          refine mm_fgt 2 ?_
          refine mm_fgt 3 ?_
          refine mm_fgt 4 ?_
          exact J33 h27c i27c f27c (by omega) (by first | exact (fun _ => (g2c.2 80 (by decide) _)) | exact (fun _ => ((g10c.2 80 (by decide) _).trans (g2c.2 80 (by decide) _))) | exact (fun _ => ((g18c.2 80 (by decide) _).trans ((g10c.2 80 (by decide) _).trans (g2c.2 80 (by decide) _)))) | exact (fun _ => ((g27c.2 80 (by decide) _).trans ((g18c.2 80 (by decide) _).trans ((g10c.2 80 (by decide) _).trans (g2c.2 80 (by decide) _)))))) (by first | exact (fun _ => (g2c.2 81 (by decide) _)) | exact (fun _ => ((g10c.2 81 (by decide) _).trans (g2c.2 81 (by decide) _))) | exact (fun _ => ((g18c.2 81 (by decide) _).trans ((g10c.2 81 (by decide) _).trans (g2c.2 81 (by decide) _)))) | exact (fun _ => ((g27c.2 81 (by decide) _).trans ((g18c.2 81 (by decide) _).trans ((g10c.2 81 (by decide) _).trans (g2c.2 81 (by decide) _)))))) (by first | exact (fun _ => (g2c.2 82 (by decide) _)) | exact (fun _ => ((g10c.2 82 (by decide) _).trans (g2c.2 82 (by decide) _))) | exact (fun _ => ((g18c.2 82 (by decide) _).trans ((g10c.2 82 (by decide) _).trans (g2c.2 82 (by decide) _)))) | exact (fun _ => ((g27c.2 82 (by decide) _).trans ((g18c.2 82 (by decide) _).trans ((g10c.2 82 (by decide) _).trans (g2c.2 82 (by decide) _)))))) (by first | exact (fun _ => (g2c.2 84 (by decide) _)) | exact (fun _ => ((g10c.2 84 (by decide) _).trans (g2c.2 84 (by decide) _))) | exact (fun _ => ((g18c.2 84 (by decide) _).trans ((g10c.2 84 (by decide) _).trans (g2c.2 84 (by decide) _)))) | exact (fun _ => ((g27c.2 84 (by decide) _).trans ((g18c.2 84 (by decide) _).trans ((g10c.2 84 (by decide) _).trans (g2c.2 84 (by decide) _))))))
