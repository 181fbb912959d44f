set_option maxRecDepth 100000 in
set_option maxHeartbeats 4000000 in
theorem c_X11_needCell_q (l : Launch) (hl : l.stackTraces = false) (d : Nat) (hd : 8 ≤ d) (h : mH) (i0 : mm_inv h) (p1 : Int) (p2 : Int) : mm_Met l d yX11_needCell cX11_needCell 3 (some .int) [mR 0, mI p1, mI p2] h (mm_pi fun r h2 => h2 = h ∧ ((0 ≤ p1 ∧ p1 < (h.1 1 5) ∧ 0 ≤ p2 ∧ p2 < (h.1 1 6) ∧ 1 ≠ 0 ∧ r = ((p2 * 20) + p1)))) (fun E h' => mm_xn h E h' ∧ (p1 < 0 ∨ h.1 1 5 ≤ p1 ∨ p2 < 0 ∨ h.1 1 6 ≤ p2)) 1 6 := by
  refine mm_ofW (ls := [mR 0, mI p1, mI p2]) hl (by decide) rfl (Nat.le_of_ble_eq_true rfl) ?_
  intro x hxl C T hnm htb
  subst hxl
  have C1 := mm_OK_le (d' := d - 1 + 1) (by omega) C
  have C8 := mm_OK_le (d' := d - 8 + 8) (by omega) C
  refine mm_rng (fun hr _ => ?_)
  have ap1 : -2147483648 ≤ p1 ∧ p1 < 2147483648 := mm_ok_at hr (i := 1) rfl
  have ap2 : -2147483648 ≤ p2 ∧ p2 < 2147483648 := mm_ok_at hr (i := 2) rfl
  have f0 : mm_fr [] [] h h := mm_fr_rf
  refine mm_aload_n C (mm_dec dk_X11_needCell 0 rfl) rfl ?_
  refine mm_getr (t := 1) C fl_X11_12 (mm_dec dk_X11_needCell 1 rfl) rfl rfl (mm_ref i0 rfl) ?_
  refine mm_iload_n C (mm_dec dk_X11_needCell 2 rfl) rfl ?_
  refine mm_iload_n C (mm_dec dk_X11_needCell 3 rfl) rfl ?_
  refine mm_cVi (rest := []) C1 ev_X11_158 (mm_dec dk_X11_needCell 4 rfl) (c_X5_holds x.2.1 hl (d - 1) (by omega) h i0 p1 p2) rfl rfl (Nat.le_of_ble_eq_true rfl) ⟨by decide, by decide⟩ rfl (fun r6 h6c hp6 => ?_) (fun _ _ q => q.elim)
  obtain ⟨z6, y6⟩ := hp6
  rw [z6]
  rcases y6 with ⟨k6_0, rfl⟩ | ⟨k6_0, k6_1, rfl⟩ | ⟨k6_0, k6_1, k6_2, rfl⟩ | ⟨k6_0, k6_1, k6_2, k6_3, rfl⟩ | ⟨k6_0, k6_1, k6_2, k6_3, rfl⟩
  · skip
    refine mm_if_ne (tgt := 23) C (mm_dec dk_X11_needCell 5 rfl) (by decide) (fun c9 => ?_) (fun c9 => ?_)
    · skip
      exfalso; omega
    · skip
      exact mm_throwXW C8 T htb th_nse (i := 0) rfl (mm_dec dk_X11_needCell 6 rfl) (mm_dec dk_X11_needCell 7 rfl) (mm_dec dk_X11_needCell 8 rfl) (mm_dec dk_X11_needCell 9 rfl) (mm_dec dk_X11_needCell 10 rfl) (Nat.le_of_ble_eq_true rfl) ⟨by decide, by decide⟩ ⟨by decide, by decide⟩ (⟨⟨rfl, rfl⟩, by omega⟩)
  · skip
    have g2 : 1 ≤ (h.1 1 5) ∧ (h.1 1 5) ≤ 20 := i0.1 1 5
    refine mm_if_ne (tgt := 23) C (mm_dec dk_X11_needCell 5 rfl) (by decide) (fun c9 => ?_) (fun c9 => ?_)
    · skip
      exfalso; omega
    · skip
      exact mm_throwXW C8 T htb th_nse (i := 0) rfl (mm_dec dk_X11_needCell 6 rfl) (mm_dec dk_X11_needCell 7 rfl) (mm_dec dk_X11_needCell 8 rfl) (mm_dec dk_X11_needCell 9 rfl) (mm_dec dk_X11_needCell 10 rfl) (Nat.le_of_ble_eq_true rfl) ⟨by decide, by decide⟩ ⟨by decide, by decide⟩ (⟨⟨rfl, rfl⟩, by omega⟩)
  · skip
    have g3 : 1 ≤ (h.1 1 5) ∧ (h.1 1 5) ≤ 20 := i0.1 1 5
    refine mm_if_ne (tgt := 23) C (mm_dec dk_X11_needCell 5 rfl) (by decide) (fun c9 => ?_) (fun c9 => ?_)
    · skip
      exfalso; omega
    · skip
      exact mm_throwXW C8 T htb th_nse (i := 0) rfl (mm_dec dk_X11_needCell 6 rfl) (mm_dec dk_X11_needCell 7 rfl) (mm_dec dk_X11_needCell 8 rfl) (mm_dec dk_X11_needCell 9 rfl) (mm_dec dk_X11_needCell 10 rfl) (Nat.le_of_ble_eq_true rfl) ⟨by decide, by decide⟩ ⟨by decide, by decide⟩ (⟨⟨rfl, rfl⟩, by omega⟩)
  · skip
    have g4 : 1 ≤ (h.1 1 5) ∧ (h.1 1 5) ≤ 20 := i0.1 1 5
    have g5 : 1 ≤ (h.1 1 6) ∧ (h.1 1 6) ≤ 20 := i0.1 1 6
    refine mm_if_ne (tgt := 23) C (mm_dec dk_X11_needCell 5 rfl) (by decide) (fun c9 => ?_) (fun c9 => ?_)
    · skip
      exfalso; omega
    · skip
      exact mm_throwXW C8 T htb th_nse (i := 0) rfl (mm_dec dk_X11_needCell 6 rfl) (mm_dec dk_X11_needCell 7 rfl) (mm_dec dk_X11_needCell 8 rfl) (mm_dec dk_X11_needCell 9 rfl) (mm_dec dk_X11_needCell 10 rfl) (Nat.le_of_ble_eq_true rfl) ⟨by decide, by decide⟩ ⟨by decide, by decide⟩ (⟨⟨rfl, rfl⟩, by omega⟩)
  · skip
    have g6 : 1 ≤ (h.1 1 5) ∧ (h.1 1 5) ≤ 20 := i0.1 1 5
    have g7 : 1 ≤ (h.1 1 6) ∧ (h.1 1 6) ≤ 20 := i0.1 1 6
    refine mm_if_ne (tgt := 23) C (mm_dec dk_X11_needCell 5 rfl) (by decide) (fun c9 => ?_) (fun c9 => ?_)
    · skip
      refine mm_iload_n C (mm_dec dk_X11_needCell 11 rfl) rfl ?_
      refine mm_bipush C (mm_dec dk_X11_needCell 12 rfl) ⟨by decide, by decide⟩ ?_
      refine mm_imul C (mm_dec dk_X11_needCell 13 rfl) ⟨by omega, by omega⟩ ?_
      refine mm_iload_n C (mm_dec dk_X11_needCell 14 rfl) rfl ?_
      refine mm_iadd C (mm_dec dk_X11_needCell 15 rfl) ⟨by omega, by omega⟩ ?_
      exact mm_iret C T (mm_dec dk_X11_needCell 16 rfl) (by decide : 0 ≤ 1) (by decide : 0 ≤ 6) ⟨_, rfl, ⟨rfl, ⟨by omega, by omega, by omega, by omega, by omega, rfl⟩⟩⟩
    · skip
      exfalso; omega
set_option maxRecDepth 100000 in
set_option maxHeartbeats 4000000 in
theorem c_X12_inside_q (l : Launch) (hl : l.stackTraces = false) (d : Nat) (hd : 1 ≤ d) (h : mH) (i0 : mm_inv h) (p1 : Int) (p2 : Int) : mm_Met l d yX12_inside cX12_inside 3 (some .boolean) [mR 66, mI p1, mI p2] h (mm_pi fun r h2 => (0 ≤ r ∧ r ≤ 1) ∧ mm_inv h2 ∧ mm_fr [(66, 0)] [] h h2 ∧ ((h.1 66 0 = 0 ∧ (0 ≤ p1 ∧ p1 < h.1 66 1 ∧ 0 ≤ p2 ∧ p2 < h.1 66 2) ∧ r = 1 ∧ h2.1 66 0 = 0) ∨ (h.1 66 0 = 0 ∧ (p1 < 0 ∨ h.1 66 1 ≤ p1 ∨ p2 < 0 ∨ h.1 66 2 ≤ p2) ∧ r = 0 ∧ h2.1 66 0 = 1) ∨ (h.1 66 0 ≠ 0 ∧ r = 0 ∧ h2.1 66 0 = h.1 66 0)) ∧ (r = 0 ∨ (0 ≤ p1 ∧ p1 < (h2.1 66 1) ∧ 0 ≤ p2 ∧ p2 < (h2.1 66 2)))) mm_nx 0 0 := by
  refine mm_ofW (ls := [mR 66, mI p1, mI p2]) hl (by decide) rfl (Nat.le_of_ble_eq_true rfl) ?_
  intro x hxl C T hnm htb
  subst hxl
  have C1 := mm_OK_le (d' := d - 1 + 1) (by omega) C
  refine mm_rng (fun hr _ => ?_)
  have ap1 : -2147483648 ≤ p1 ∧ p1 < 2147483648 := mm_ok_at hr (i := 1) rfl
  have ap2 : -2147483648 ≤ p2 ∧ p2 < 2147483648 := mm_ok_at hr (i := 2) rfl
  have f0 : mm_fr [(66, 0)] [] h h := mm_fr_rf
  have g1 : -2147483648 ≤ h.1 66 0 ∧ h.1 66 0 ≤ 2147483647 := i0.1 66 0
  have g2 : 1 ≤ h.1 66 1 ∧ h.1 66 1 ≤ 20 := i0.1 66 1
  have g3 : 1 ≤ h.1 66 2 ∧ h.1 66 2 ≤ 20 := i0.1 66 2
  have g4 : 0 ≤ h.1 66 23 ∧ h.1 66 23 ≤ 40 := i0.1 66 23
  refine mm_aload_n C (mm_dec dk_X12_inside 0 rfl) rfl ?_
  refine mm_iload_n C (mm_dec dk_X12_inside 1 rfl) rfl ?_
  refine mm_if_lt (tgt := 29) C (mm_dec dk_X12_inside 2 rfl) (by decide) (fun c2 => ?_) (fun c2 => ?_)
  · skip
    refine mm_iconst C (mm_dec dk_X12_inside 15 rfl) ⟨by decide, by decide⟩ ?_
    refine mm_iconst C (mm_dec dk_X12_inside 16 rfl) ⟨by decide, by decide⟩ ?_
    refine mm_cVi (rest := []) C1 ev_X12_251 (mm_dec dk_X12_inside 17 rfl) (c_X12_right_q x.2.1 hl (d - 1) (by omega) h i0 0 1 ⟨by omega, by omega⟩ (by omega)) rfl rfl (Nat.le_of_ble_eq_true rfl) ⟨by decide, by decide⟩ rfl (fun r31 h31c hp31 => ?_) (fun _ _ q => q.elim)
    obtain ⟨b31, i31c, g31c, y31_0⟩ := hp31
    have f31c : mm_fr [(66, 0)] [] h h31c := mm_fr_tr f0 g31c (by decide +kernel)
    have q31c_6 : h31c.1 66 1 = h.1 66 1 := g31c.1 66 1 (by decide)
    have q31c_7 : h31c.1 66 2 = h.1 66 2 := g31c.1 66 2 (by decide)
    have q31c_8 : h31c.1 66 23 = h.1 66 23 := g31c.1 66 23 (by decide)
    have g9 : -2147483648 ≤ (h31c.1 66 0) ∧ (h31c.1 66 0) ≤ 2147483647 := i31c.1 66 0
    exact mm_zret C T (mm_dec dk_X12_inside 18 rfl) (by decide : 0 ≤ 0) (by decide : 0 ≤ 0) (by omega) ⟨_, rfl, ⟨⟨by omega, by omega⟩, i31c, f31c, by omega, by omega⟩⟩
  · skip
    refine mm_iload_n C (mm_dec dk_X12_inside 3 rfl) rfl ?_
    refine mm_aload_n C (mm_dec dk_X12_inside 4 rfl) rfl ?_
    refine mm_geti C fl_X12_192 (mm_dec dk_X12_inside 5 rfl) rfl rfl (Or.inl rfl) ?_
    refine mm_icmp_ge (tgt := 29) C (mm_dec dk_X12_inside 6 rfl) (by decide) (fun c10 => ?_) (fun c10 => ?_)
    · skip
      refine mm_iconst C (mm_dec dk_X12_inside 15 rfl) ⟨by decide, by decide⟩ ?_
      refine mm_iconst C (mm_dec dk_X12_inside 16 rfl) ⟨by decide, by decide⟩ ?_
      refine mm_cVi (rest := []) C1 ev_X12_251 (mm_dec dk_X12_inside 17 rfl) (c_X12_right_q x.2.1 hl (d - 1) (by omega) h i0 0 1 ⟨by omega, by omega⟩ (by omega)) rfl rfl (Nat.le_of_ble_eq_true rfl) ⟨by decide, by decide⟩ rfl (fun r31 h31c hp31 => ?_) (fun _ _ q => q.elim)
      obtain ⟨b31, i31c, g31c, y31_0⟩ := hp31
      have f31c : mm_fr [(66, 0)] [] h h31c := mm_fr_tr f0 g31c (by decide +kernel)
      have q31c_11 : h31c.1 66 1 = h.1 66 1 := g31c.1 66 1 (by decide)
      have q31c_12 : h31c.1 66 2 = h.1 66 2 := g31c.1 66 2 (by decide)
      have q31c_13 : h31c.1 66 23 = h.1 66 23 := g31c.1 66 23 (by decide)
      have g14 : -2147483648 ≤ (h31c.1 66 0) ∧ (h31c.1 66 0) ≤ 2147483647 := i31c.1 66 0
      exact mm_zret C T (mm_dec dk_X12_inside 18 rfl) (by decide : 0 ≤ 0) (by decide : 0 ≤ 0) (by omega) ⟨_, rfl, ⟨⟨by omega, by omega⟩, i31c, f31c, by omega, by omega⟩⟩
    · skip
      refine mm_iload_n C (mm_dec dk_X12_inside 7 rfl) rfl ?_
      refine mm_if_lt (tgt := 29) C (mm_dec dk_X12_inside 8 rfl) (by decide) (fun c14 => ?_) (fun c14 => ?_)
      · skip
        refine mm_iconst C (mm_dec dk_X12_inside 15 rfl) ⟨by decide, by decide⟩ ?_
        refine mm_iconst C (mm_dec dk_X12_inside 16 rfl) ⟨by decide, by decide⟩ ?_
        refine mm_cVi (rest := []) C1 ev_X12_251 (mm_dec dk_X12_inside 17 rfl) (c_X12_right_q x.2.1 hl (d - 1) (by omega) h i0 0 1 ⟨by omega, by omega⟩ (by omega)) rfl rfl (Nat.le_of_ble_eq_true rfl) ⟨by decide, by decide⟩ rfl (fun r31 h31c hp31 => ?_) (fun _ _ q => q.elim)
        obtain ⟨b31, i31c, g31c, y31_0⟩ := hp31
        have f31c : mm_fr [(66, 0)] [] h h31c := mm_fr_tr f0 g31c (by decide +kernel)
        have q31c_16 : h31c.1 66 1 = h.1 66 1 := g31c.1 66 1 (by decide)
        have q31c_17 : h31c.1 66 2 = h.1 66 2 := g31c.1 66 2 (by decide)
        have q31c_18 : h31c.1 66 23 = h.1 66 23 := g31c.1 66 23 (by decide)
        have g19 : -2147483648 ≤ (h31c.1 66 0) ∧ (h31c.1 66 0) ≤ 2147483647 := i31c.1 66 0
        exact mm_zret C T (mm_dec dk_X12_inside 18 rfl) (by decide : 0 ≤ 0) (by decide : 0 ≤ 0) (by omega) ⟨_, rfl, ⟨⟨by omega, by omega⟩, i31c, f31c, by omega, by omega⟩⟩
      · skip
        refine mm_iload_n C (mm_dec dk_X12_inside 9 rfl) rfl ?_
        refine mm_aload_n C (mm_dec dk_X12_inside 10 rfl) rfl ?_
        refine mm_geti C fl_X12_195 (mm_dec dk_X12_inside 11 rfl) rfl rfl (Or.inl rfl) ?_
        refine mm_icmp_ge (tgt := 29) C (mm_dec dk_X12_inside 12 rfl) (by decide) (fun c22 => ?_) (fun c22 => ?_)
        · skip
          refine mm_iconst C (mm_dec dk_X12_inside 15 rfl) ⟨by decide, by decide⟩ ?_
          refine mm_iconst C (mm_dec dk_X12_inside 16 rfl) ⟨by decide, by decide⟩ ?_
          refine mm_cVi (rest := []) C1 ev_X12_251 (mm_dec dk_X12_inside 17 rfl) (c_X12_right_q x.2.1 hl (d - 1) (by omega) h i0 0 1 ⟨by omega, by omega⟩ (by omega)) rfl rfl (Nat.le_of_ble_eq_true rfl) ⟨by decide, by decide⟩ rfl (fun r31 h31c hp31 => ?_) (fun _ _ q => q.elim)
          obtain ⟨b31, i31c, g31c, y31_0⟩ := hp31
          have f31c : mm_fr [(66, 0)] [] h h31c := mm_fr_tr f0 g31c (by decide +kernel)
          have q31c_21 : h31c.1 66 1 = h.1 66 1 := g31c.1 66 1 (by decide)
          have q31c_22 : h31c.1 66 2 = h.1 66 2 := g31c.1 66 2 (by decide)
          have q31c_23 : h31c.1 66 23 = h.1 66 23 := g31c.1 66 23 (by decide)
          have g24 : -2147483648 ≤ (h31c.1 66 0) ∧ (h31c.1 66 0) ≤ 2147483647 := i31c.1 66 0
          exact mm_zret C T (mm_dec dk_X12_inside 18 rfl) (by decide : 0 ≤ 0) (by decide : 0 ≤ 0) (by omega) ⟨_, rfl, ⟨⟨by omega, by omega⟩, i31c, f31c, by omega, by omega⟩⟩
        · skip
          refine mm_iconst C (mm_dec dk_X12_inside 13 rfl) ⟨by decide, by decide⟩ ?_
          refine mm_goto (tgt := 30) C (mm_dec dk_X12_inside 14 rfl) (by decide) ?_
          refine mm_iconst C (mm_dec dk_X12_inside 16 rfl) ⟨by decide, by decide⟩ ?_
          refine mm_cVi (rest := []) C1 ev_X12_251 (mm_dec dk_X12_inside 17 rfl) (c_X12_right_q x.2.1 hl (d - 1) (by omega) h i0 1 1 ⟨by omega, by omega⟩ (by omega)) rfl rfl (Nat.le_of_ble_eq_true rfl) ⟨by decide, by decide⟩ rfl (fun r31 h31c hp31 => ?_) (fun _ _ q => q.elim)
          obtain ⟨b31, i31c, g31c, y31_0⟩ := hp31
          have f31c : mm_fr [(66, 0)] [] h h31c := mm_fr_tr f0 g31c (by decide +kernel)
          have q31c_26 : h31c.1 66 1 = h.1 66 1 := g31c.1 66 1 (by decide)
          have q31c_27 : h31c.1 66 2 = h.1 66 2 := g31c.1 66 2 (by decide)
          have q31c_28 : h31c.1 66 23 = h.1 66 23 := g31c.1 66 23 (by decide)
          have g29 : -2147483648 ≤ (h31c.1 66 0) ∧ (h31c.1 66 0) ≤ 2147483647 := i31c.1 66 0
          exact mm_zret C T (mm_dec dk_X12_inside 18 rfl) (by decide : 0 ≤ 0) (by decide : 0 ≤ 0) (by omega) ⟨_, rfl, ⟨⟨by omega, by omega⟩, i31c, f31c, by omega, by omega⟩⟩
set_option maxRecDepth 100000 in
set_option maxHeartbeats 4000000 in
theorem c_X12_isCell_q (l : Launch) (hl : l.stackTraces = false) (d : Nat) (hd : 2 ≤ d) (h : mH) (i0 : mm_inv h) (p1 : Int) (p2 : Int) : mm_Met l d yX12_isCell cX12_isCell 3 (some .boolean) [mR 66, mI p1, mI p2] h (mm_pi fun r h2 => (0 ≤ r ∧ r ≤ 1) ∧ mm_inv h2 ∧ mm_fr [(66, 0)] [] h h2 ∧ (((0 ≤ p1 ∧ p1 < h.1 66 1 ∧ 0 ≤ p2 ∧ p2 < h.1 66 2) ∧ r = 1 ∧ h2.1 66 0 = 0) ∨ ((p1 < 0 ∨ h.1 66 1 ≤ p1 ∨ p2 < 0 ∨ h.1 66 2 ≤ p2) ∧ r = 0 ∧ h2.1 66 0 = 1)) ∧ (r = 0 ∨ (0 ≤ p1 ∧ p1 < (h2.1 66 1) ∧ 0 ≤ p2 ∧ p2 < (h2.1 66 2)))) mm_nx 0 0 := by
  refine mm_ofW (ls := [mR 66, mI p1, mI p2]) hl (by decide) rfl (Nat.le_of_ble_eq_true rfl) ?_
  intro x hxl C T hnm htb
  subst hxl
  have C1 := mm_OK_le (d' := d - 1 + 1) (by omega) C
  refine mm_rng (fun hr _ => ?_)
  have ap1 : -2147483648 ≤ p1 ∧ p1 < 2147483648 := mm_ok_at hr (i := 1) rfl
  have ap2 : -2147483648 ≤ p2 ∧ p2 < 2147483648 := mm_ok_at hr (i := 2) rfl
  have f0 : mm_fr [(66, 0)] [] h h := mm_fr_rf
  have g1 : -2147483648 ≤ h.1 66 0 ∧ h.1 66 0 ≤ 2147483647 := i0.1 66 0
  have g2 : 1 ≤ h.1 66 1 ∧ h.1 66 1 ≤ 20 := i0.1 66 1
  have g3 : 1 ≤ h.1 66 2 ∧ h.1 66 2 ≤ 20 := i0.1 66 2
  have g4 : 0 ≤ h.1 66 23 ∧ h.1 66 23 ≤ 40 := i0.1 66 23
  refine mm_aload_n C (mm_dec dk_X12_isCell 0 rfl) rfl ?_
  refine mm_iconst C (mm_dec dk_X12_isCell 1 rfl) ⟨by decide, by decide⟩ ?_
  refine mm_puti C fl_X12_188 (mm_dec dk_X12_isCell 2 rfl) rfl rfl rfl (Or.inl ⟨rfl, rfl⟩) ?_
  have i1 : mm_inv (mm_pf h 66 0 0) := mm_inv_pf i0 (show -2147483648 ≤ 0 ∧ 0 ≤ 2147483647 from ⟨by omega, by omega⟩) (by decide)
  have f1 : mm_fr [(66, 0)] [] h (mm_pf h 66 0 0) := mm_fr_pf f0 (by decide)
  obtain ⟨h1, eh1⟩ : ∃ z, z = mm_pf h 66 0 0 := ⟨_, rfl⟩
  rw [← eh1] at i1 f1 ⊢
  have qh1 : h1.1 66 0 = 0 := by rw [eh1]; exact mm_pf_same _ _ _ _
  have qh1_5 : h1.1 66 1 = h.1 66 1 := by rw [eh1]; exact mm_pf_ne _ _ (by decide)
  have qh1_6 : h1.1 66 2 = h.1 66 2 := by rw [eh1]; exact mm_pf_ne _ _ (by decide)
  have qh1_7 : h1.1 66 23 = h.1 66 23 := by rw [eh1]; exact mm_pf_ne _ _ (by decide)
  refine mm_aload_n C (mm_dec dk_X12_isCell 3 rfl) rfl ?_
  refine mm_iload_n C (mm_dec dk_X12_isCell 4 rfl) rfl ?_
  refine mm_iload_n C (mm_dec dk_X12_isCell 5 rfl) rfl ?_
  refine mm_cVi (rest := []) C1 ev_X12_247 (mm_dec dk_X12_isCell 6 rfl) (c_X12_inside_q x.2.1 hl (d - 1) (by omega) h1 i1 p1 p2) rfl rfl (Nat.le_of_ble_eq_true rfl) ⟨by decide, by decide⟩ rfl (fun r8 h8c hp8 => ?_) (fun _ _ q => q.elim)
  obtain ⟨b8, i8c, g8c, y8_0, y8_1⟩ := hp8
  have f8c : mm_fr [(66, 0)] [] h h8c := mm_fr_tr f1 g8c (by decide +kernel)
  have q8c_9 : h8c.1 66 1 = h1.1 66 1 := g8c.1 66 1 (by decide)
  have q8c_10 : h8c.1 66 2 = h1.1 66 2 := g8c.1 66 2 (by decide)
  have q8c_11 : h8c.1 66 23 = h1.1 66 23 := g8c.1 66 23 (by decide)
  have g12 : -2147483648 ≤ (h8c.1 66 0) ∧ (h8c.1 66 0) ≤ 2147483647 := i8c.1 66 0
  exact mm_zret C T (mm_dec dk_X12_isCell 7 rfl) (by decide : 0 ≤ 0) (by decide : 0 ≤ 0) (by omega) ⟨_, rfl, ⟨⟨by omega, by omega⟩, i8c, f8c, by omega, by omega⟩⟩
set_option maxRecDepth 100000 in
set_option maxHeartbeats 4000000 in
theorem c_X11_wall_q (l : Launch) (hl : l.stackTraces = false) (d : Nat) (hd : 9 ≤ d) (h : mH) (i0 : mm_inv h) (p1 : Int) (p2 : Int) (p3 : Int) (p4 : Int) (bp4 : 0 ≤ p4 ∧ p4 ≤ 1) : mm_Met l d yX11_wall cX11_wall 6 (some .boolean) [mR 0, mI p1, mI p2, mI p3, mI p4] h (mm_pi fun r h2 => (0 ≤ r ∧ r ≤ 1) ∧ mm_inv h2 ∧ mm_fr [] [4, 5] h h2 ∧ (0 ≤ p1 ∧ p1 < h.1 1 5 ∧ 0 ≤ p2 ∧ p2 < h.1 1 6) ∧ ((r = 1 ∧ (h.1 22 8 ≤ 0 ∧ ((p3 = 1 ∧ p1 + 1 < h.1 1 5) ∨ (p3 = 2 ∧ p2 + 1 < h.1 1 6)))) ∨ (r = 0 ∧ (0 < h.1 22 8 ∨ (p3 ≠ 1 ∧ p3 ≠ 2) ∨ (p3 = 1 ∧ h.1 1 5 ≤ p1 + 1) ∨ (p3 = 2 ∧ h.1 1 6 ≤ p2 + 1))))) (fun E h' => mm_xn h E h' ∧ (p1 < 0 ∨ h.1 1 5 ≤ p1 ∨ p2 < 0 ∨ h.1 1 6 ≤ p2)) 1 6 := by
  refine mm_ofW (ls := [mR 0, mI p1, mI p2, mI p3, mI p4, mU]) hl (by decide) rfl (Nat.le_of_ble_eq_true rfl) ?_
  intro x hxl C T hnm htb
  subst hxl
  have C1 := mm_OK_le (d' := d - 1 + 1) (by omega) C
  have C8 := mm_OK_le (d' := d - 8 + 8) (by omega) C
  refine mm_rng (fun hr _ => ?_)
  have ap1 : -2147483648 ≤ p1 ∧ p1 < 2147483648 := mm_ok_at hr (i := 1) rfl
  have ap2 : -2147483648 ≤ p2 ∧ p2 < 2147483648 := mm_ok_at hr (i := 2) rfl
  have ap3 : -2147483648 ≤ p3 ∧ p3 < 2147483648 := mm_ok_at hr (i := 3) rfl
  have ap4 : -2147483648 ≤ p4 ∧ p4 < 2147483648 := mm_ok_at hr (i := 4) rfl
  have f0 : mm_fr [] [4, 5] h h := mm_fr_rf
  refine mm_aload_n C (mm_dec dk_X11_wall 0 rfl) rfl ?_
  refine mm_iload_n C (mm_dec dk_X11_wall 1 rfl) rfl ?_
  refine mm_iload_n C (mm_dec dk_X11_wall 2 rfl) rfl ?_
  refine mm_cVi (rest := []) C1 ev_X11_122 (mm_dec dk_X11_wall 3 rfl) (c_X11_needCell_q x.2.1 hl (d - 1) (by omega) h i0 p1 p2) rfl rfl (Nat.le_of_ble_eq_true rfl) ⟨by decide, by decide⟩ rfl (fun r3 h3c hp3 => ?_) (fun E hx q => mm_out C T htb (by decide) (by decide) (by obtain ⟨q1, q2⟩ := q; exact ⟨q1, by omega⟩))
  obtain ⟨z3, k3_0, k3_1, k3_2, k3_3, k3_4, y3⟩ := hp3
  rw [z3, y3]
  have g2 : 1 ≤ (h.1 1 5) ∧ (h.1 1 5) ≤ 20 := i0.1 1 5
  have g3 : 1 ≤ (h.1 1 6) ∧ (h.1 1 6) ≤ 20 := i0.1 1 6
  refine mm_istoreL (ls2 := [mR 0, mI p1, mI p2, mI p3, mI p4, mI ((p2 * 20) + p1)]) C (mm_dec dk_X11_wall 4 rfl) (by decide) rfl ?_
  refine mm_aload_n C (mm_dec dk_X11_wall 5 rfl) rfl ?_
  refine mm_cVi (rest := []) C1 ev_X11_126 (mm_dec dk_X11_wall 6 rfl) (c_X11_landIsFixed x.2.1 hl (d - 1) (by omega) h i0 ) rfl rfl (Nat.le_of_ble_eq_true rfl) ⟨by decide, by decide⟩ rfl (fun r9 h9c hp9 => ?_) (fun _ _ q => q.elim)
  obtain ⟨z9, y9⟩ := hp9
  rw [z9]
  have g5 : 0 ≤ (h.1 22 8) ∧ (h.1 22 8) ≤ 40 := i0.1 22 8
  have J25 : ∀ (w25_0 : (0 ≤ p1 ∧ p1 < h.1 1 5 ∧ 0 ≤ p2 ∧ p2 < h.1 1 6)) (w25_1 : (0 < h.1 22 8 ∨ (p3 ≠ 1 ∧ p3 ≠ 2))), mm_W x 1 6 25 [mU, mU, mU, mU, mU, mU] [] h := by
    intro w25_0 w25_1
    refine mm_iconst C (mm_dec dk_X11_wall 14 rfl) ⟨by decide, by decide⟩ ?_
    exact mm_zret C T (mm_dec dk_X11_wall 15 rfl) (by decide : 1 ≤ 1) (by decide : 6 ≤ 6) (by omega) ⟨_, rfl, ⟨⟨by omega, by omega⟩, i0, f0, by omega, by omega⟩⟩
  refine mm_if_ne (tgt := 25) C (mm_dec dk_X11_wall 7 rfl) (by decide) (fun c12 => ?_) (fun c12 => ?_)
  · skip
    refine mm_fgt 0 ?_
    refine mm_fgt 1 ?_
    refine mm_fgt 2 ?_
    refine mm_fgt 3 ?_
    refine mm_fgt 4 ?_
    refine mm_fgt 5 ?_
    exact J25 (by omega) (by omega)
  · skip
    refine mm_iload_n C (mm_dec dk_X11_wall 8 rfl) rfl ?_
    refine mm_iconst C (mm_dec dk_X11_wall 9 rfl) ⟨by decide, by decide⟩ ?_
    have J27 : ∀ (w27_0 : (0 ≤ p1 ∧ p1 < h.1 1 5 ∧ 0 ≤ p2 ∧ p2 < h.1 1 6)) (w27_1 : h.1 22 8 ≤ 0) (w27_2 : (p3 = 1 ∨ p3 = 2)), mm_W x 1 6 27 [mR 0, mI p1, mI p2, mI p3, mI p4, mI ((p2 * 20) + p1)] [] h := by
      intro w27_0 w27_1 w27_2
      refine mm_aload_n C (mm_dec dk_X11_wall 16 rfl) rfl ?_
      refine mm_getr (t := 1) C fl_X11_12 (mm_dec dk_X11_wall 17 rfl) rfl rfl (mm_ref i0 rfl) ?_
      refine mm_iload_n C (mm_dec dk_X11_wall 18 rfl) rfl ?_
      refine mm_iconst C (mm_dec dk_X11_wall 19 rfl) ⟨by decide, by decide⟩ ?_
      have J43 : ∀ (s43_1 : Int) (bs43_1 : 0 ≤ s43_1 ∧ s43_1 ≤ 20) (w43_0 : (0 ≤ p1 ∧ p1 < h.1 1 5 ∧ 0 ≤ p2 ∧ p2 < h.1 1 6)) (w43_1 : h.1 22 8 ≤ 0) (w43_2 : ((p3 = 1 ∧ s43_1 = p1 + 1) ∨ (p3 = 2 ∧ s43_1 = p1))), mm_W x 1 6 43 [mR 0, mU, mI p2, mI p3, mI p4, mI ((p2 * 20) + p1)] [mI s43_1, mR 1] h := by
        intro s43_1 bs43_1 w43_0 w43_1 w43_2
        refine mm_iload_n C (mm_dec dk_X11_wall 26 rfl) rfl ?_
        refine mm_iconst C (mm_dec dk_X11_wall 27 rfl) ⟨by decide, by decide⟩ ?_
        have J55 : ∀ (s55_2 : Int) (bs55_2 : 0 ≤ s55_2 ∧ s55_2 ≤ 20) (w55_0 : (0 ≤ p1 ∧ p1 < h.1 1 5 ∧ 0 ≤ p2 ∧ p2 < h.1 1 6)) (w55_1 : h.1 22 8 ≤ 0) (w55_2 : ((p3 = 1 ∧ s43_1 = p1 + 1 ∧ s55_2 = p2) ∨ (p3 = 2 ∧ s43_1 = p1 ∧ s55_2 = p2 + 1))), mm_W x 1 6 55 [mR 0, mU, mU, mI p3, mI p4, mI ((p2 * 20) + p1)] [mI s55_2, mI s43_1, mR 1] h := by
          intro s55_2 bs55_2 w55_0 w55_1 w55_2
          refine mm_cVi (rest := []) C1 ev_X11_158 (mm_dec dk_X11_wall 34 rfl) (c_X5_holds x.2.1 hl (d - 1) (by omega) h i0 s43_1 s55_2) rfl rfl (Nat.le_of_ble_eq_true rfl) ⟨by decide, by decide⟩ rfl (fun r55 h55c hp55 => ?_) (fun _ _ q => q.elim)
          obtain ⟨z55, y55⟩ := hp55
          rw [z55]
          refine mm_if_ne (tgt := 63) C (mm_dec dk_X11_wall 35 rfl) (by decide) (fun c58 => ?_) (fun c58 => ?_)
          · skip
            refine mm_aload_n C (mm_dec dk_X11_wall 38 rfl) rfl ?_
            refine mm_getr (t := 1) C fl_X11_12 (mm_dec dk_X11_wall 39 rfl) rfl rfl (mm_ref i0 rfl) ?_
            refine mm_iload C (mm_dec dk_X11_wall 40 rfl) rfl ?_
            refine mm_iload_n C (mm_dec dk_X11_wall 41 rfl) rfl ?_
            refine mm_iload C (mm_dec dk_X11_wall 42 rfl) rfl ?_
            refine mm_cVv (rest := []) C1 ev_X11_162 (mm_dec dk_X11_wall 43 rfl) (c_X5_build x.2.1 hl (d - 1) (by omega) h i0 ((p2 * 20) + p1) p3 p4 ⟨by omega, by omega⟩ ⟨by omega, by omega⟩) rfl rfl (Nat.le_of_ble_eq_true rfl) ⟨by decide, by decide⟩ rfl (fun h72c hp72 => ?_) (fun _ _ q => q.elim)
            obtain ⟨i72c, g72c⟩ := hp72
            have f72c : mm_fr [] [4, 5] h h72c := mm_fr_tr f0 g72c (by decide +kernel)
            have q72c_8 : h72c.1 1 5 = h.1 1 5 := g72c.1 1 5 (by decide)
            have q72c_9 : h72c.1 1 6 = h.1 1 6 := g72c.1 1 6 (by decide)
            have q72c_10 : h72c.1 22 8 = h.1 22 8 := g72c.1 22 8 (by decide)
            refine mm_iconst C (mm_dec dk_X11_wall 44 rfl) ⟨by decide, by decide⟩ ?_
            exact mm_zret C T (mm_dec dk_X11_wall 45 rfl) (by decide : 1 ≤ 1) (by decide : 6 ≤ 6) (by omega) ⟨_, rfl, ⟨⟨by omega, by omega⟩, i72c, f72c, by omega, by omega⟩⟩
          · skip
            refine mm_iconst C (mm_dec dk_X11_wall 36 rfl) ⟨by decide, by decide⟩ ?_
            exact mm_zret C T (mm_dec dk_X11_wall 37 rfl) (by decide : 1 ≤ 1) (by decide : 6 ≤ 6) (by omega) ⟨_, rfl, ⟨⟨by omega, by omega⟩, i0, f0, by omega, by omega⟩⟩
        refine mm_icmp_ne (tgt := 54) C (mm_dec dk_X11_wall 28 rfl) (by decide) (fun c45 => ?_) (fun c45 => ?_)
        · skip
          refine mm_iload_n C (mm_dec dk_X11_wall 33 rfl) rfl ?_
          refine mm_fgt 2 ?_
          exact J55 p2 ⟨by omega, by omega⟩ (by omega) (by omega) (by omega)
        · skip
          refine mm_iload_n C (mm_dec dk_X11_wall 29 rfl) rfl ?_
          refine mm_iconst C (mm_dec dk_X11_wall 30 rfl) ⟨by decide, by decide⟩ ?_
          refine mm_iadd C (mm_dec dk_X11_wall 31 rfl) ⟨by omega, by omega⟩ ?_
          refine mm_goto (tgt := 55) C (mm_dec dk_X11_wall 32 rfl) (by decide) ?_
          refine mm_fgt 2 ?_
          exact J55 (p2 + 1) ⟨by omega, by omega⟩ (by omega) (by omega) (by omega)
      refine mm_icmp_ne (tgt := 42) C (mm_dec dk_X11_wall 20 rfl) (by decide) (fun c33 => ?_) (fun c33 => ?_)
      · skip
        refine mm_iload_n C (mm_dec dk_X11_wall 25 rfl) rfl ?_
        refine mm_fgt 1 ?_
        exact J43 p1 ⟨by omega, by omega⟩ (by omega) (by omega) (by omega)
      · skip
        refine mm_iload_n C (mm_dec dk_X11_wall 21 rfl) rfl ?_
        refine mm_iconst C (mm_dec dk_X11_wall 22 rfl) ⟨by decide, by decide⟩ ?_
        refine mm_iadd C (mm_dec dk_X11_wall 23 rfl) ⟨by omega, by omega⟩ ?_
        refine mm_goto (tgt := 43) C (mm_dec dk_X11_wall 24 rfl) (by decide) ?_
        refine mm_fgt 1 ?_
        exact J43 (p1 + 1) ⟨by omega, by omega⟩ (by omega) (by omega) (by omega)
    refine mm_icmp_eq (tgt := 27) C (mm_dec dk_X11_wall 10 rfl) (by decide) (fun c17 => ?_) (fun c17 => ?_)
    · skip
      exact J27 (by omega) (by omega) (by omega)
    · skip
      refine mm_iload_n C (mm_dec dk_X11_wall 11 rfl) rfl ?_
      refine mm_iconst C (mm_dec dk_X11_wall 12 rfl) ⟨by decide, by decide⟩ ?_
      refine mm_icmp_eq (tgt := 27) C (mm_dec dk_X11_wall 13 rfl) (by decide) (fun c22 => ?_) (fun c22 => ?_)
      · skip
        exact J27 (by omega) (by omega) (by omega)
      · skip
        refine mm_fgt 0 ?_
        refine mm_fgt 1 ?_
        refine mm_fgt 2 ?_
        refine mm_fgt 3 ?_
        refine mm_fgt 4 ?_
        refine mm_fgt 5 ?_
        exact J25 (by omega) (by omega)
set_option maxRecDepth 100000 in
set_option maxHeartbeats 4000000 in
theorem c_X12_wall_q (l : Launch) (hl : l.stackTraces = false) (d : Nat) (hd : 3 ≤ d) (h : mH) (i0 : mm_inv h) (p1 : Int) (p2 : Int) (p3 : Int) (p4 : Int) (bp4 : 0 ≤ p4 ∧ p4 ≤ 1) : mm_Met l d yX12_wall cX12_wall 5 (some .boolean) [mR 66, mI p1, mI p2, mI p3, mI p4] h (mm_pi fun r h2 => (0 ≤ r ∧ r ≤ 1) ∧ mm_inv h2 ∧ mm_fr [(66, 0)] [70, 71] h h2 ∧ (((0 ≤ p1 ∧ p1 < h.1 66 1 ∧ 0 ≤ p2 ∧ p2 < h.1 66 2) ∧ h2.1 66 0 = 0 ∧ ((r = 1 ∧ (h.1 66 23 ≤ 0 ∧ ((p3 = 1 ∧ p1 + 1 < h.1 66 1) ∨ (p3 = 2 ∧ p2 + 1 < h.1 66 2)))) ∨ (r = 0 ∧ (0 < h.1 66 23 ∨ (p3 ≠ 1 ∧ p3 ≠ 2) ∨ (p3 = 1 ∧ h.1 66 1 ≤ p1 + 1) ∨ (p3 = 2 ∧ h.1 66 2 ≤ p2 + 1))))) ∨ ((p1 < 0 ∨ h.1 66 1 ≤ p1 ∨ p2 < 0 ∨ h.1 66 2 ≤ p2) ∧ h2.1 66 0 = 1 ∧ r = 0))) mm_nx 0 0 := by
  refine mm_ofW (ls := [mR 66, mI p1, mI p2, mI p3, mI p4]) hl (by decide) rfl (Nat.le_of_ble_eq_true rfl) ?_
  intro x hxl C T hnm htb
  subst hxl
  have C1 := mm_OK_le (d' := d - 1 + 1) (by omega) C
  refine mm_rng (fun hr _ => ?_)
  have ap1 : -2147483648 ≤ p1 ∧ p1 < 2147483648 := mm_ok_at hr (i := 1) rfl
  have ap2 : -2147483648 ≤ p2 ∧ p2 < 2147483648 := mm_ok_at hr (i := 2) rfl
  have ap3 : -2147483648 ≤ p3 ∧ p3 < 2147483648 := mm_ok_at hr (i := 3) rfl
  have ap4 : -2147483648 ≤ p4 ∧ p4 < 2147483648 := mm_ok_at hr (i := 4) rfl
  have f0 : mm_fr [(66, 0)] [70, 71] h h := mm_fr_rf
  have g1 : -2147483648 ≤ h.1 66 0 ∧ h.1 66 0 ≤ 2147483647 := i0.1 66 0
  have g2 : 1 ≤ h.1 66 1 ∧ h.1 66 1 ≤ 20 := i0.1 66 1
  have g3 : 1 ≤ h.1 66 2 ∧ h.1 66 2 ≤ 20 := i0.1 66 2
  have g4 : 0 ≤ h.1 66 23 ∧ h.1 66 23 ≤ 40 := i0.1 66 23
  refine mm_aload_n C (mm_dec dk_X12_wall 0 rfl) rfl ?_
  refine mm_iload_n C (mm_dec dk_X12_wall 1 rfl) rfl ?_
  refine mm_iload_n C (mm_dec dk_X12_wall 2 rfl) rfl ?_
  refine mm_cVi (rest := []) C1 ev_X12_255 (mm_dec dk_X12_wall 3 rfl) (c_X12_isCell_q x.2.1 hl (d - 1) (by omega) h i0 p1 p2) rfl rfl (Nat.le_of_ble_eq_true rfl) ⟨by decide, by decide⟩ rfl (fun r3 h3c hp3 => ?_) (fun _ _ q => q.elim)
  obtain ⟨b3, i3c, g3c, y3_0, y3_1⟩ := hp3
  have f3c : mm_fr [(66, 0)] [70, 71] h h3c := mm_fr_tr f0 g3c (by decide +kernel)
  have q3c_6 : h3c.1 66 1 = h.1 66 1 := g3c.1 66 1 (by decide)
  have q3c_7 : h3c.1 66 2 = h.1 66 2 := g3c.1 66 2 (by decide)
  have q3c_8 : h3c.1 66 23 = h.1 66 23 := g3c.1 66 23 (by decide)
  have g9 : -2147483648 ≤ (h3c.1 66 0) ∧ (h3c.1 66 0) ≤ 2147483647 := i3c.1 66 0
  have J26 : ∀ (w26_0 : (((0 ≤ p1 ∧ p1 < h.1 66 1 ∧ 0 ≤ p2 ∧ p2 < h.1 66 2) ∧ h3c.1 66 0 = 0 ∧ (0 < h.1 66 23 ∨ (p3 ≠ 1 ∧ p3 ≠ 2))) ∨ ((p1 < 0 ∨ h.1 66 1 ≤ p1 ∨ p2 < 0 ∨ h.1 66 2 ≤ p2) ∧ h3c.1 66 0 = 1))), mm_W x 0 0 26 [mU, mU, mU, mU, mU] [] h3c := by
    intro w26_0
    refine mm_iconst C (mm_dec dk_X12_wall 14 rfl) ⟨by decide, by decide⟩ ?_
    exact mm_zret C T (mm_dec dk_X12_wall 15 rfl) (by decide : 0 ≤ 0) (by decide : 0 ≤ 0) (by omega) ⟨_, rfl, ⟨⟨by omega, by omega⟩, i3c, f3c, by omega⟩⟩
  refine mm_if_eq (tgt := 26) C (mm_dec dk_X12_wall 4 rfl) (by decide) (fun c6 => ?_) (fun c6 => ?_)
  · skip
    refine mm_fgt 0 ?_
    refine mm_fgt 1 ?_
    refine mm_fgt 2 ?_
    refine mm_fgt 3 ?_
    refine mm_fgt 4 ?_
    exact J26 (by omega)
  · skip
    refine mm_aload_n C (mm_dec dk_X12_wall 5 rfl) rfl ?_
    refine mm_geti C fl_X12_222 (mm_dec dk_X12_wall 6 rfl) rfl rfl (Or.inl rfl) ?_
    refine mm_if_gt (tgt := 26) C (mm_dec dk_X12_wall 7 rfl) (by decide) (fun c13 => ?_) (fun c13 => ?_)
    · skip
      refine mm_fgt 0 ?_
      refine mm_fgt 1 ?_
      refine mm_fgt 2 ?_
      refine mm_fgt 3 ?_
      refine mm_fgt 4 ?_
      exact J26 (by omega)
    · skip
      refine mm_iload_n C (mm_dec dk_X12_wall 8 rfl) rfl ?_
      refine mm_iconst C (mm_dec dk_X12_wall 9 rfl) ⟨by decide, by decide⟩ ?_
      have J28 : ∀ (w28_0 : (0 ≤ p1 ∧ p1 < h.1 66 1 ∧ 0 ≤ p2 ∧ p2 < h.1 66 2)) (w28_1 : h3c.1 66 0 = 0) (w28_2 : h.1 66 23 ≤ 0) (w28_3 : (p3 = 1 ∨ p3 = 2)), mm_W x 0 0 28 [mR 66, mI p1, mI p2, mI p3, mI p4] [] h3c := by
        intro w28_0 w28_1 w28_2 w28_3
        refine mm_iload_n C (mm_dec dk_X12_wall 16 rfl) rfl ?_
        refine mm_iconst C (mm_dec dk_X12_wall 17 rfl) ⟨by decide, by decide⟩ ?_
        have J58 : ∀ (w58_0 : (0 ≤ p1 ∧ p1 < h.1 66 1 ∧ 0 ≤ p2 ∧ p2 < h.1 66 2)) (w58_1 : h3c.1 66 0 = 0) (w58_2 : (h.1 66 23 ≤ 0 ∧ ((p3 = 1 ∧ p1 + 1 < h.1 66 1) ∨ (p3 = 2 ∧ p2 + 1 < h.1 66 2)))), mm_W x 0 0 58 [mR 66, mI p1, mI p2, mI p3, mI p4] [] h3c := by
          intro w58_0 w58_1 w58_2
          refine mm_iload_n C (mm_dec dk_X12_wall 34 rfl) rfl ?_
          refine mm_iconst C (mm_dec dk_X12_wall 35 rfl) ⟨by decide, by decide⟩ ?_
          have J92 : ∀ (h92_ : mH) (i92_ : mm_inv h92_) (f92_ : mm_fr [(66, 0)] [70, 71] h h92_) (w92_0 : (0 ≤ p1 ∧ p1 < h.1 66 1 ∧ 0 ≤ p2 ∧ p2 < h.1 66 2)) (w92_1 : h92_.1 66 0 = 0) (w92_2 : (h.1 66 23 ≤ 0 ∧ ((p3 = 1 ∧ p1 + 1 < h.1 66 1) ∨ (p3 = 2 ∧ p2 + 1 < h.1 66 2)))), mm_W x 0 0 92 [mU, mU, mU, mU, mU] [] h92_ := by
            intro h92_ i92_ f92_ w92_0 w92_1 w92_2
            have g10 : -2147483648 ≤ h92_.1 66 0 ∧ h92_.1 66 0 ≤ 2147483647 := i92_.1 66 0
            have g11 : 1 ≤ h92_.1 66 1 ∧ h92_.1 66 1 ≤ 20 := i92_.1 66 1
            have g12 : 1 ≤ h92_.1 66 2 ∧ h92_.1 66 2 ≤ 20 := i92_.1 66 2
            have g13 : 0 ≤ h92_.1 66 23 ∧ h92_.1 66 23 ≤ 40 := i92_.1 66 23
            have g14 : h92_.1 66 1 = h.1 66 1 := f92_.1 66 1 (by decide)
            have g15 : h92_.1 66 2 = h.1 66 2 := f92_.1 66 2 (by decide)
            have g16 : h92_.1 66 23 = h.1 66 23 := f92_.1 66 23 (by decide)
            refine mm_iconst C (mm_dec dk_X12_wall 56 rfl) ⟨by decide, by decide⟩ ?_
            exact mm_zret C T (mm_dec dk_X12_wall 57 rfl) (by decide : 0 ≤ 0) (by decide : 0 ≤ 0) (by omega) ⟨_, rfl, ⟨⟨by omega, by omega⟩, i92_, f92_, by omega⟩⟩
          refine mm_icmp_ne (tgt := 79) C (mm_dec dk_X12_wall 36 rfl) (by decide) (fun c60 => ?_) (fun c60 => ?_)
          · skip
            refine mm_aload_n C (mm_dec dk_X12_wall 47 rfl) rfl ?_
            refine mm_getr (t := 71) C fl_X12_23 (mm_dec dk_X12_wall 48 rfl) rfl rfl (mm_ref i3c rfl) ?_
            refine mm_bipush C (mm_dec dk_X12_wall 49 rfl) ⟨by decide, by decide⟩ ?_
            refine mm_iload_n C (mm_dec dk_X12_wall 50 rfl) rfl ?_
            refine mm_imul C (mm_dec dk_X12_wall 51 rfl) ⟨by omega, by omega⟩ ?_
            refine mm_iload_n C (mm_dec dk_X12_wall 52 rfl) rfl ?_
            refine mm_iadd C (mm_dec dk_X12_wall 53 rfl) ⟨by omega, by omega⟩ ?_
            refine mm_iload C (mm_dec dk_X12_wall 54 rfl) rfl ?_
            refine mm_zast C (mm_dec dk_X12_wall 55 rfl) rfl (by omega) (by omega) (by omega) ?_
            have i2 : mm_inv (mm_pa h3c 71 ((20 * p2) + p1) p4) := mm_inv_pa i3c (show 0 ≤ p4 ∧ p4 ≤ 1 from ⟨by omega, by omega⟩)
            have f2 : mm_fr [(66, 0)] [70, 71] h (mm_pa h3c 71 ((20 * p2) + p1) p4) := mm_fr_pa f3c (by decide)
            obtain ⟨h2, eh2⟩ : ∃ z, z = mm_pa h3c 71 ((20 * p2) + p1) p4 := ⟨_, rfl⟩
            rw [← eh2] at i2 f2 ⊢
            have qh2_17 : h2.1 66 0 = h3c.1 66 0 := by rw [eh2]; rfl
            have qh2_18 : h2.1 66 1 = h3c.1 66 1 := by rw [eh2]; rfl
            have qh2_19 : h2.1 66 2 = h3c.1 66 2 := by rw [eh2]; rfl
            have qh2_20 : h2.1 66 23 = h3c.1 66 23 := by rw [eh2]; rfl
            refine mm_fgt 0 ?_
            refine mm_fgt 1 ?_
            refine mm_fgt 2 ?_
            refine mm_fgt 3 ?_
            refine mm_fgt 4 ?_
            exact J92 h2 i2 f2 (by omega) (by omega) (by omega)
          · skip
            refine mm_aload_n C (mm_dec dk_X12_wall 37 rfl) rfl ?_
            refine mm_getr (t := 70) C fl_X12_19 (mm_dec dk_X12_wall 38 rfl) rfl rfl (mm_ref i3c rfl) ?_
            refine mm_bipush C (mm_dec dk_X12_wall 39 rfl) ⟨by decide, by decide⟩ ?_
            refine mm_iload_n C (mm_dec dk_X12_wall 40 rfl) rfl ?_
            refine mm_imul C (mm_dec dk_X12_wall 41 rfl) ⟨by omega, by omega⟩ ?_
            refine mm_iload_n C (mm_dec dk_X12_wall 42 rfl) rfl ?_
            refine mm_iadd C (mm_dec dk_X12_wall 43 rfl) ⟨by omega, by omega⟩ ?_
            refine mm_iload C (mm_dec dk_X12_wall 44 rfl) rfl ?_
            refine mm_zast C (mm_dec dk_X12_wall 45 rfl) rfl (by omega) (by omega) (by omega) ?_
            have i3 : mm_inv (mm_pa h3c 70 ((20 * p2) + p1) p4) := mm_inv_pa i3c (show 0 ≤ p4 ∧ p4 ≤ 1 from ⟨by omega, by omega⟩)
            have f3 : mm_fr [(66, 0)] [70, 71] h (mm_pa h3c 70 ((20 * p2) + p1) p4) := mm_fr_pa f3c (by decide)
            obtain ⟨h3, eh3⟩ : ∃ z, z = mm_pa h3c 70 ((20 * p2) + p1) p4 := ⟨_, rfl⟩
            rw [← eh3] at i3 f3 ⊢
            have qh3_21 : h3.1 66 0 = h3c.1 66 0 := by rw [eh3]; rfl
            have qh3_22 : h3.1 66 1 = h3c.1 66 1 := by rw [eh3]; rfl
            have qh3_23 : h3.1 66 2 = h3c.1 66 2 := by rw [eh3]; rfl
            have qh3_24 : h3.1 66 23 = h3c.1 66 23 := by rw [eh3]; rfl
            refine mm_goto (tgt := 92) C (mm_dec dk_X12_wall 46 rfl) (by decide) ?_
            refine mm_fgt 0 ?_
            refine mm_fgt 1 ?_
            refine mm_fgt 2 ?_
            refine mm_fgt 3 ?_
            refine mm_fgt 4 ?_
            exact J92 h3 i3 f3 (by omega) (by omega) (by omega)
        have J56 : ∀ (w56_0 : (0 ≤ p1 ∧ p1 < h.1 66 1 ∧ 0 ≤ p2 ∧ p2 < h.1 66 2)) (w56_1 : h3c.1 66 0 = 0) (w56_2 : (0 < h.1 66 23 ∨ (p3 ≠ 1 ∧ p3 ≠ 2) ∨ (p3 = 1 ∧ h.1 66 1 ≤ p1 + 1) ∨ (p3 = 2 ∧ h.1 66 2 ≤ p2 + 1))), mm_W x 0 0 56 [mU, mU, mU, mU, mU] [] h3c := by
          intro w56_0 w56_1 w56_2
          refine mm_iconst C (mm_dec dk_X12_wall 32 rfl) ⟨by decide, by decide⟩ ?_
          exact mm_zret C T (mm_dec dk_X12_wall 33 rfl) (by decide : 0 ≤ 0) (by decide : 0 ≤ 0) (by omega) ⟨_, rfl, ⟨⟨by omega, by omega⟩, i3c, f3c, by omega⟩⟩
        refine mm_icmp_ne (tgt := 46) C (mm_dec dk_X12_wall 18 rfl) (by decide) (fun c30 => ?_) (fun c30 => ?_)
        · skip
          refine mm_iload_n C (mm_dec dk_X12_wall 26 rfl) rfl ?_
          refine mm_iconst C (mm_dec dk_X12_wall 27 rfl) ⟨by decide, by decide⟩ ?_
          refine mm_iadd C (mm_dec dk_X12_wall 28 rfl) ⟨by omega, by omega⟩ ?_
          refine mm_aload_n C (mm_dec dk_X12_wall 29 rfl) rfl ?_
          refine mm_geti C fl_X12_195 (mm_dec dk_X12_wall 30 rfl) rfl rfl (Or.inl rfl) ?_
          refine mm_icmp_lt (tgt := 58) C (mm_dec dk_X12_wall 31 rfl) (by decide) (fun c53 => ?_) (fun c53 => ?_)
          · skip
            exact J58 (by omega) (by omega) (by omega)
          · skip
            refine mm_fgt 0 ?_
            refine mm_fgt 1 ?_
            refine mm_fgt 2 ?_
            refine mm_fgt 3 ?_
            refine mm_fgt 4 ?_
            exact J56 (by omega) (by omega) (by omega)
        · skip
          refine mm_iload_n C (mm_dec dk_X12_wall 19 rfl) rfl ?_
          refine mm_iconst C (mm_dec dk_X12_wall 20 rfl) ⟨by decide, by decide⟩ ?_
          refine mm_iadd C (mm_dec dk_X12_wall 21 rfl) ⟨by omega, by omega⟩ ?_
          refine mm_aload_n C (mm_dec dk_X12_wall 22 rfl) rfl ?_
          refine mm_geti C fl_X12_192 (mm_dec dk_X12_wall 23 rfl) rfl rfl (Or.inl rfl) ?_
          refine mm_icmp_lt (tgt := 58) C (mm_dec dk_X12_wall 24 rfl) (by decide) (fun c40 => ?_) (fun c40 => ?_)
          · skip
            exact J58 (by omega) (by omega) (by omega)
          · skip
            refine mm_goto (tgt := 56) C (mm_dec dk_X12_wall 25 rfl) (by decide) ?_
            refine mm_fgt 0 ?_
            refine mm_fgt 1 ?_
            refine mm_fgt 2 ?_
            refine mm_fgt 3 ?_
            refine mm_fgt 4 ?_
            exact J56 (by omega) (by omega) (by omega)
      refine mm_icmp_eq (tgt := 28) C (mm_dec dk_X12_wall 10 rfl) (by decide) (fun c18 => ?_) (fun c18 => ?_)
      · skip
        exact J28 (by omega) (by omega) (by omega) (by omega)
      · skip
        refine mm_iload_n C (mm_dec dk_X12_wall 11 rfl) rfl ?_
        refine mm_iconst C (mm_dec dk_X12_wall 12 rfl) ⟨by decide, by decide⟩ ?_
        refine mm_icmp_eq (tgt := 28) C (mm_dec dk_X12_wall 13 rfl) (by decide) (fun c23 => ?_) (fun c23 => ?_)
        · skip
          exact J28 (by omega) (by omega) (by omega) (by omega)
        · skip
          refine mm_fgt 0 ?_
          refine mm_fgt 1 ?_
          refine mm_fgt 2 ?_
          refine mm_fgt 3 ?_
          refine mm_fgt 4 ?_
          exact J26 (by omega)
