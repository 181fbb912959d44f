set_option maxRecDepth 100000 in
set_option maxHeartbeats 4000000 in
theorem c_X11_needCell_q (l : Launch) (hl : l.stackTraces = false) (d : Nat) (hd : 8 ≤ d) (h : mH) (i0 : mm_inv h) (p1 : Int) (p2 : Int) : mm_Met l d yX11_needCell cX11_needCell 3 (some .int) [mR 0, mI p1, mI p2] h (mm_pi fun r h2 => h2 = h ∧ ((0 ≤ p1 ∧ p1 < (h.1 1 5) ∧ 0 ≤ p2 ∧ p2 < (h.1 1 6) ∧ 1 ≠ 0 ∧ r = ((p2 * 20) + p1)))) (fun E h' => mm_xn h E h' ∧ (p1 < 0 ∨ h.1 1 5 ≤ p1 ∨ p2 < 0 ∨ h.1 1 6 ≤ p2)) 1 6 := by
  refine mm_ofW (ls := [mR 0, mI p1, mI p2]) hl (by decide) rfl (Nat.le_of_ble_eq_true rfl) ?_
  intro x hxl C T hnm htb
  subst hxl
  have C1 := mm_OK_le (d' := d - 1 + 1) (by omega) C
  have C8 := mm_OK_le (d' := d - 8 + 8) (by omega) C
  refine mm_rng (fun hr _ => ?_)
  have ap1 : -2147483648 ≤ p1 ∧ p1 < 2147483648 := mm_ok_at hr (i := 1) rfl
  have ap2 : -2147483648 ≤ p2 ∧ p2 < 2147483648 := mm_ok_at hr (i := 2) rfl
  have f0 : mm_fr [] [] h h := mm_fr_rf
  refine mm_aload_n C (mm_dec dk_X11_needCell 0 rfl) rfl ?_
  refine mm_getr (t := 1) C fl_X11_12 (mm_dec dk_X11_needCell 1 rfl) rfl rfl (mm_ref i0 rfl) ?_
  refine mm_iload_n C (mm_dec dk_X11_needCell 2 rfl) rfl ?_
  refine mm_iload_n C (mm_dec dk_X11_needCell 3 rfl) rfl ?_
  refine mm_cVi (rest := []) C1 ev_X11_158 (mm_dec dk_X11_needCell 4 rfl) (c_X5_holds x.2.1 hl (d - 1) (by omega) h i0 p1 p2) rfl rfl (Nat.le_of_ble_eq_true rfl) ⟨by decide, by decide⟩ rfl (fun r6 h6c hp6 => ?_) (fun _ _ q => q.elim)
  obtain ⟨z6, y6⟩ := hp6
  rw [z6]
  rcases y6 with ⟨k6_0, rfl⟩ | ⟨k6_0, k6_1, rfl⟩ | ⟨k6_0, k6_1, k6_2, rfl⟩ | ⟨k6_0, k6_1, k6_2, k6_3, rfl⟩ | ⟨k6_0, k6_1, k6_2, k6_3, rfl⟩
  · skip
    refine mm_if_ne (tgt := 23) C (mm_dec dk_X11_needCell 5 rfl) (by decide) (fun c9 => ?_) (fun c9 => ?_)
    · skip
      exfalso; omega
    · skip
      exact mm_throwXW C8 T htb th_nse (i := 0) rfl (mm_dec dk_X11_needCell 6 rfl) (mm_dec dk_X11_needCell 7 rfl) (mm_dec dk_X11_needCell 8 rfl) (mm_dec dk_X11_needCell 9 rfl) (mm_dec dk_X11_needCell 10 rfl) (Nat.le_of_ble_eq_true rfl) ⟨by decide, by decide⟩ ⟨by decide, by decide⟩ (⟨⟨rfl, rfl⟩, by omega⟩)
  · skip
    have g2 : 1 ≤ (h.1 1 5) ∧ (h.1 1 5) ≤ 20 := i0.1 1 5
    refine mm_if_ne (tgt := 23) C (mm_dec dk_X11_needCell 5 rfl) (by decide) (fun c9 => ?_) (fun c9 => ?_)
    · skip
      exfalso; omega
    · skip
      exact mm_throwXW C8 T htb th_nse (i := 0) rfl (mm_dec dk_X11_needCell 6 rfl) (mm_dec dk_X11_needCell 7 rfl) (mm_dec dk_X11_needCell 8 rfl) (mm_dec dk_X11_needCell 9 rfl) (mm_dec dk_X11_needCell 10 rfl) (Nat.le_of_ble_eq_true rfl) ⟨by decide, by decide⟩ ⟨by decide, by decide⟩ (⟨⟨rfl, rfl⟩, by omega⟩)
  · skip
    have g3 : 1 ≤ (h.1 1 5) ∧ (h.1 1 5) ≤ 20 := i0.1 1 5
    refine mm_if_ne (tgt := 23) C (mm_dec dk_X11_needCell 5 rfl) (by decide) (fun c9 => ?_) (fun c9 => ?_)
    · skip
      exfalso; omega
    · skip
      exact mm_throwXW C8 T htb th_nse (i := 0) rfl (mm_dec dk_X11_needCell 6 rfl) (mm_dec dk_X11_needCell 7 rfl) (mm_dec dk_X11_needCell 8 rfl) (mm_dec dk_X11_needCell 9 rfl) (mm_dec dk_X11_needCell 10 rfl) (Nat.le_of_ble_eq_true rfl) ⟨by decide, by decide⟩ ⟨by decide, by decide⟩ (⟨⟨rfl, rfl⟩, by omega⟩)
  · skip
    have g4 : 1 ≤ (h.1 1 5) ∧ (h.1 1 5) ≤ 20 := i0.1 1 5
    have g5 : 1 ≤ (h.1 1 6) ∧ (h.1 1 6) ≤ 20 := i0.1 1 6
    refine mm_if_ne (tgt := 23) C (mm_dec dk_X11_needCell 5 rfl) (by decide) (fun c9 => ?_) (fun c9 => ?_)
    · skip
      exfalso; omega
    · skip
      exact mm_throwXW C8 T htb th_nse (i := 0) rfl (mm_dec dk_X11_needCell 6 rfl) (mm_dec dk_X11_needCell 7 rfl) (mm_dec dk_X11_needCell 8 rfl) (mm_dec dk_X11_needCell 9 rfl) (mm_dec dk_X11_needCell 10 rfl) (Nat.le_of_ble_eq_true rfl) ⟨by decide, by decide⟩ ⟨by decide, by decide⟩ (⟨⟨rfl, rfl⟩, by omega⟩)
  · skip
    have g6 : 1 ≤ (h.1 1 5) ∧ (h.1 1 5) ≤ 20 := i0.1 1 5
    have g7 : 1 ≤ (h.1 1 6) ∧ (h.1 1 6) ≤ 20 := i0.1 1 6
    refine mm_if_ne (tgt := 23) C (mm_dec dk_X11_needCell 5 rfl) (by decide) (fun c9 => ?_) (fun c9 => ?_)
    · skip
      refine mm_iload_n C (mm_dec dk_X11_needCell 11 rfl) rfl ?_
      refine mm_bipush C (mm_dec dk_X11_needCell 12 rfl) ⟨by decide, by decide⟩ ?_
      refine mm_imul C (mm_dec dk_X11_needCell 13 rfl) ⟨by omega, by omega⟩ ?_
      refine mm_iload_n C (mm_dec dk_X11_needCell 14 rfl) rfl ?_
      refine mm_iadd C (mm_dec dk_X11_needCell 15 rfl) ⟨by omega, by omega⟩ ?_
      exact mm_iret C T (mm_dec dk_X11_needCell 16 rfl) (by decide : 0 ≤ 1) (by decide : 0 ≤ 6) ⟨_, rfl, ⟨rfl, ⟨by omega, by omega, by omega, by omega, by omega, rfl⟩⟩⟩
    · skip
      exfalso; omega
set_option maxRecDepth 100000 in
set_option maxHeartbeats 4000000 in
theorem c_X12_inside_q (l : Launch) (hl : l.stackTraces = false) (d : Nat) (hd : 1 ≤ d) (h : mH) (i0 : mm_inv h) (p1 : Int) (p2 : Int) : mm_Met l d yX12_inside cX12_inside 3 (some .boolean) [mR 66, mI p1, mI p2] h (mm_pi fun r h2 => (0 ≤ r ∧ r ≤ 1) ∧ mm_inv h2 ∧ mm_fr [(66, 0)] [] h h2 ∧ ((h.1 66 0 = 0 ∧ (0 ≤ p1 ∧ p1 < h.1 66 1 ∧ 0 ≤ p2 ∧ p2 < h.1 66 2) ∧ r = 1 ∧ h2.1 66 0 = 0) ∨ (h.1 66 0 = 0 ∧ (p1 < 0 ∨ h.1 66 1 ≤ p1 ∨ p2 < 0 ∨ h.1 66 2 ≤ p2) ∧ r = 0 ∧ h2.1 66 0 = 1) ∨ (h.1 66 0 ≠ 0 ∧ r = 0 ∧ h2.1 66 0 = h.1 66 0)) ∧ (r = 0 ∨ (0 ≤ p1 ∧ p1 < (h2.1 66 1) ∧ 0 ≤ p2 ∧ p2 < (h2.1 66 2)))) mm_nx 0 0 := by
  refine mm_ofW (ls := [mR 66, mI p1, mI p2]) hl (by decide) rfl (Nat.le_of_ble_eq_true rfl) ?_
  intro x hxl C T hnm htb
  subst hxl
  have C1 := mm_OK_le (d' := d - 1 + 1) (by omega) C
  refine mm_rng (fun hr _ => ?_)
  have ap1 : -2147483648 ≤ p1 ∧ p1 < 2147483648 := mm_ok_at hr (i := 1) rfl
  have ap2 : -2147483648 ≤ p2 ∧ p2 < 2147483648 := mm_ok_at hr (i := 2) rfl
  have f0 : mm_fr [(66, 0)] [] h h := mm_fr_rf
  have g1 : -2147483648 ≤ h.1 66 0 ∧ h.1 66 0 ≤ 2147483647 := i0.1 66 0
  have g2 : 1 ≤ h.1 66 1 ∧ h.1 66 1 ≤ 20 := i0.1 66 1
  have g3 : 1 ≤ h.1 66 2 ∧ h.1 66 2 ≤ 20 := i0.1 66 2
  have g4 : 0 ≤ h.1 66 23 ∧ h.1 66 23 ≤ 40 := i0.1 66 23
  refine mm_aload_n C (mm_dec dk_X12_inside 0 rfl) rfl ?_
  refine mm_iload_n C (mm_dec dk_X12_inside 1 rfl) rfl ?_
  refine mm_if_lt (tgt := 29) C (mm_dec dk_X12_inside 2 rfl) (by decide) (fun c2 => ?_) (fun c2 => ?_)
  · skip
    refine mm_iconst C (mm_dec dk_X12_inside 15 rfl) ⟨by decide, by decide⟩ ?_
    refine mm_iconst C (mm_dec dk_X12_inside 16 rfl) ⟨by decide, by decide⟩ ?_
    refine mm_cVi (rest := []) C1 ev_X12_251 (mm_dec dk_X12_inside 17 rfl) (c_X12_right_q x.2.1 hl (d - 1) (by omega) h i0 0 1 ⟨by omega, by omega⟩ (by omega)) rfl rfl (Nat.le_of_ble_eq_true rfl) ⟨by decide, by decide⟩ rfl (fun r31 h31c hp31 => ?_) (fun _ _ q => q.elim)
    obtain ⟨b31, i31c, g31c, y31_0⟩ := hp31
    have f31c : mm_fr [(66, 0)] [] h h31c := mm_fr_tr f0 g31c (by decide +kernel)
    have q31c_6 : h31c.1 66 1 = h.1 66 1 := g31c.1 66 1 (by decide)
    have q31c_7 : h31c.1 66 2 = h.1 66 2 := g31c.1 66 2 (by decide)
    have q31c_8 : h31c.1 66 23 = h.1 66 23 := g31c.1 66 23 (by decide)
    have g9 : -2147483648 ≤ (h31c.1 66 0) ∧ (h31c.1 66 0) ≤ 2147483647 := i31c.1 66 0
    exact mm_zret C T (mm_dec dk_X12_inside 18 rfl) (by decide : 0 ≤ 0) (by decide : 0 ≤ 0) (by omega) ⟨_, rfl, ⟨⟨by omega, by omega⟩, i31c, f31c, by omega, by omega⟩⟩
  · skip
    refine mm_iload_n C (mm_dec dk_X12_inside 3 rfl) rfl ?_
    refine mm_aload_n C (mm_dec dk_X12_inside 4 rfl) rfl ?_
    refine mm_geti C fl_X12_192 (mm_dec dk_X12_inside 5 rfl) rfl rfl (Or.inl rfl) ?_
    refine mm_icmp_ge (tgt := 29) C (mm_dec dk_X12_inside 6 rfl) (by decide) (fun c10 => ?_) (fun c10 => ?_)
    · skip
      refine mm_iconst C (mm_dec dk_X12_inside 15 rfl) ⟨by decide, by decide⟩ ?_
      refine mm_iconst C (mm_dec dk_X12_inside 16 rfl) ⟨by decide, by decide⟩ ?_
      refine mm_cVi (rest := []) C1 ev_X12_251 (mm_dec dk_X12_inside 17 rfl) (c_X12_right_q x.2.1 hl (d - 1) (by omega) h i0 0 1 ⟨by omega, by omega⟩ (by omega)) rfl rfl (Nat.le_of_ble_eq_true rfl) ⟨by decide, by decide⟩ rfl (fun r31 h31c hp31 => ?_) (fun _ _ q => q.elim)
      obtain ⟨b31, i31c, g31c, y31_0⟩ := hp31
      have f31c : mm_fr [(66, 0)] [] h h31c := mm_fr_tr f0 g31c (by decide +kernel)
      have q31c_11 : h31c.1 66 1 = h.1 66 1 := g31c.1 66 1 (by decide)
      have q31c_12 : h31c.1 66 2 = h.1 66 2 := g31c.1 66 2 (by decide)
      have q31c_13 : h31c.1 66 23 = h.1 66 23 := g31c.1 66 23 (by decide)
      have g14 : -2147483648 ≤ (h31c.1 66 0) ∧ (h31c.1 66 0) ≤ 2147483647 := i31c.1 66 0
      exact mm_zret C T (mm_dec dk_X12_inside 18 rfl) (by decide : 0 ≤ 0) (by decide : 0 ≤ 0) (by omega) ⟨_, rfl, ⟨⟨by omega, by omega⟩, i31c, f31c, by omega, by omega⟩⟩
    · skip
      refine mm_iload_n C (mm_dec dk_X12_inside 7 rfl) rfl ?_
      refine mm_if_lt (tgt := 29) C (mm_dec dk_X12_inside 8 rfl) (by decide) (fun c14 => ?_) (fun c14 => ?_)
      · skip
        refine mm_iconst C (mm_dec dk_X12_inside 15 rfl) ⟨by decide, by decide⟩ ?_
        refine mm_iconst C (mm_dec dk_X12_inside 16 rfl) ⟨by decide, by decide⟩ ?_
        refine mm_cVi (rest := []) C1 ev_X12_251 (mm_dec dk_X12_inside 17 rfl) (c_X12_right_q x.2.1 hl (d - 1) (by omega) h i0 0 1 ⟨by omega, by omega⟩ (by omega)) rfl rfl (Nat.le_of_ble_eq_true rfl) ⟨by decide, by decide⟩ rfl (fun r31 h31c hp31 => ?_) (fun _ _ q => q.elim)
        obtain ⟨b31, i31c, g31c, y31_0⟩ := hp31
        have f31c : mm_fr [(66, 0)] [] h h31c := mm_fr_tr f0 g31c (by decide +kernel)
        have q31c_16 : h31c.1 66 1 = h.1 66 1 := g31c.1 66 1 (by decide)
        have q31c_17 : h31c.1 66 2 = h.1 66 2 := g31c.1 66 2 (by decide)
        have q31c_18 : h31c.1 66 23 = h.1 66 23 := g31c.1 66 23 (by decide)
        have g19 : -2147483648 ≤ (h31c.1 66 0) ∧ (h31c.1 66 0) ≤ 2147483647 := i31c.1 66 0
        exact mm_zret C T (mm_dec dk_X12_inside 18 rfl) (by decide : 0 ≤ 0) (by decide : 0 ≤ 0) (by omega) ⟨_, rfl, ⟨⟨by omega, by omega⟩, i31c, f31c, by omega, by omega⟩⟩
      · skip
        refine mm_iload_n C (mm_dec dk_X12_inside 9 rfl) rfl ?_
        refine mm_aload_n C (mm_dec dk_X12_inside 10 rfl) rfl ?_
        refine mm_geti C fl_X12_195 (mm_dec dk_X12_inside 11 rfl) rfl rfl (Or.inl rfl) ?_
        refine mm_icmp_ge (tgt := 29) C (mm_dec dk_X12_inside 12 rfl) (by decide) (fun c22 => ?_) (fun c22 => ?_)
        · skip
          refine mm_iconst C (mm_dec dk_X12_inside 15 rfl) ⟨by decide, by decide⟩ ?_
          refine mm_iconst C (mm_dec dk_X12_inside 16 rfl) ⟨by decide, by decide⟩ ?_
          refine mm_cVi (rest := []) C1 ev_X12_251 (mm_dec dk_X12_inside 17 rfl) (c_X12_right_q x.2.1 hl (d - 1) (by omega) h i0 0 1 ⟨by omega, by omega⟩ (by omega)) rfl rfl (Nat.le_of_ble_eq_true rfl) ⟨by decide, by decide⟩ rfl (fun r31 h31c hp31 => ?_) (fun _ _ q => q.elim)
          obtain ⟨b31, i31c, g31c, y31_0⟩ := hp31
          have f31c : mm_fr [(66, 0)] [] h h31c := mm_fr_tr f0 g31c (by decide +kernel)
          have q31c_21 : h31c.1 66 1 = h.1 66 1 := g31c.1 66 1 (by decide)
          have q31c_22 : h31c.1 66 2 = h.1 66 2 := g31c.1 66 2 (by decide)
          have q31c_23 : h31c.1 66 23 = h.1 66 23 := g31c.1 66 23 (by decide)
          have g24 : -2147483648 ≤ (h31c.1 66 0) ∧ (h31c.1 66 0) ≤ 2147483647 := i31c.1 66 0
          exact mm_zret C T (mm_dec dk_X12_inside 18 rfl) (by decide : 0 ≤ 0) (by decide : 0 ≤ 0) (by omega) ⟨_, rfl, ⟨⟨by omega, by omega⟩, i31c, f31c, by omega, by omega⟩⟩
        · skip
          refine mm_iconst C (mm_dec dk_X12_inside 13 rfl) ⟨by decide, by decide⟩ ?_
          refine mm_goto (tgt := 30) C (mm_dec dk_X12_inside 14 rfl) (by decide) ?_
          refine mm_iconst C (mm_dec dk_X12_inside 16 rfl) ⟨by decide, by decide⟩ ?_
          refine mm_cVi (rest := []) C1 ev_X12_251 (mm_dec dk_X12_inside 17 rfl) (c_X12_right_q x.2.1 hl (d - 1) (by omega) h i0 1 1 ⟨by omega, by omega⟩ (by omega)) rfl rfl (Nat.le_of_ble_eq_true rfl) ⟨by decide, by decide⟩ rfl (fun r31 h31c hp31 => ?_) (fun _ _ q => q.elim)
          obtain ⟨b31, i31c, g31c, y31_0⟩ := hp31
          have f31c : mm_fr [(66, 0)] [] h h31c := mm_fr_tr f0 g31c (by decide +kernel)
          have q31c_26 : h31c.1 66 1 = h.1 66 1 := g31c.1 66 1 (by decide)
          have q31c_27 : h31c.1 66 2 = h.1 66 2 := g31c.1 66 2 (by decide)
          have q31c_28 : h31c.1 66 23 = h.1 66 23 := g31c.1 66 23 (by decide)
          have g29 : -2147483648 ≤ (h31c.1 66 0) ∧ (h31c.1 66 0) ≤ 2147483647 := i31c.1 66 0
          exact mm_zret C T (mm_dec dk_X12_inside 18 rfl) (by decide : 0 ≤ 0) (by decide : 0 ≤ 0) (by omega) ⟨_, rfl, ⟨⟨by omega, by omega⟩, i31c, f31c, by omega, by omega⟩⟩
set_option maxRecDepth 100000 in
set_option maxHeartbeats 4000000 in
theorem c_X12_isCell_q (l : Launch) (hl : l.stackTraces = false) (d : Nat) (hd : 2 ≤ d) (h : mH) (i0 : mm_inv h) (p1 : Int) (p2 : Int) : mm_Met l d yX12_isCell cX12_isCell 3 (some .boolean) [mR 66, mI p1, mI p2] h (mm_pi fun r h2 => (0 ≤ r ∧ r ≤ 1) ∧ mm_inv h2 ∧ mm_fr [(66, 0)] [] h h2 ∧ (((0 ≤ p1 ∧ p1 < h.1 66 1 ∧ 0 ≤ p2 ∧ p2 < h.1 66 2) ∧ r = 1 ∧ h2.1 66 0 = 0) ∨ ((p1 < 0 ∨ h.1 66 1 ≤ p1 ∨ p2 < 0 ∨ h.1 66 2 ≤ p2) ∧ r = 0 ∧ h2.1 66 0 = 1)) ∧ (r = 0 ∨ (0 ≤ p1 ∧ p1 < (h2.1 66 1) ∧ 0 ≤ p2 ∧ p2 < (h2.1 66 2)))) mm_nx 0 0 := by
  refine mm_ofW (ls := [mR 66, mI p1, mI p2]) hl (by decide) rfl (Nat.le_of_ble_eq_true rfl) ?_
  intro x hxl C T hnm htb
  subst hxl
  have C1 := mm_OK_le (d' := d - 1 + 1) (by omega) C
  refine mm_rng (fun hr _ => ?_)
  have ap1 : -2147483648 ≤ p1 ∧ p1 < 2147483648 := mm_ok_at hr (i := 1) rfl
  have ap2 : -2147483648 ≤ p2 ∧ p2 < 2147483648 := mm_ok_at hr (i := 2) rfl
  have f0 : mm_fr [(66, 0)] [] h h := mm_fr_rf
  have g1 : -2147483648 ≤ h.1 66 0 ∧ h.1 66 0 ≤ 2147483647 := i0.1 66 0
  have g2 : 1 ≤ h.1 66 1 ∧ h.1 66 1 ≤ 20 := i0.1 66 1
  have g3 : 1 ≤ h.1 66 2 ∧ h.1 66 2 ≤ 20 := i0.1 66 2
  have g4 : 0 ≤ h.1 66 23 ∧ h.1 66 23 ≤ 40 := i0.1 66 23
  refine mm_aload_n C (mm_dec dk_X12_isCell 0 rfl) rfl ?_
  refine mm_iconst C (mm_dec dk_X12_isCell 1 rfl) ⟨by decide, by decide⟩ ?_
  refine mm_puti C fl_X12_188 (mm_dec dk_X12_isCell 2 rfl) rfl rfl rfl (Or.inl ⟨rfl, rfl⟩) ?_
  have i1 : mm_inv (mm_pf h 66 0 0) := mm_inv_pf i0 (show -2147483648 ≤ 0 ∧ 0 ≤ 2147483647 from ⟨by omega, by omega⟩) (by decide)
  have f1 : mm_fr [(66, 0)] [] h (mm_pf h 66 0 0) := mm_fr_pf f0 (by decide)
  obtain ⟨h1, eh1⟩ : ∃ z, z = mm_pf h 66 0 0 := ⟨_, rfl⟩
  rw [← eh1] at i1 f1 ⊢
  have qh1 : h1.1 66 0 = 0 := by rw [eh1]; exact mm_pf_same _ _ _ _
  have qh1_5 : h1.1 66 1 = h.1 66 1 := by rw [eh1]; exact mm_pf_ne _ _ (by decide)
  have qh1_6 : h1.1 66 2 = h.1 66 2 := by rw [eh1]; exact mm_pf_ne _ _ (by decide)
  have qh1_7 : h1.1 66 23 = h.1 66 23 := by rw [eh1]; exact mm_pf_ne _ _ (by decide)
  refine mm_aload_n C (mm_dec dk_X12_isCell 3 rfl) rfl ?_
  refine mm_iload_n C (mm_dec dk_X12_isCell 4 rfl) rfl ?_
  refine mm_iload_n C (mm_dec dk_X12_isCell 5 rfl) rfl ?_
  refine mm_cVi (rest := []) C1 ev_X12_247 (mm_dec dk_X12_isCell 6 rfl) (c_X12_inside_q x.2.1 hl (d - 1) (by omega) h1 i1 p1 p2) rfl rfl (Nat.le_of_ble_eq_true rfl) ⟨by decide, by decide⟩ rfl (fun r8 h8c hp8 => ?_) (fun _ _ q => q.elim)
  obtain ⟨b8, i8c, g8c, y8_0, y8_1⟩ := hp8
  have f8c : mm_fr [(66, 0)] [] h h8c := mm_fr_tr f1 g8c (by decide +kernel)
  have q8c_9 : h8c.1 66 1 = h1.1 66 1 := g8c.1 66 1 (by decide)
  have q8c_10 : h8c.1 66 2 = h1.1 66 2 := g8c.1 66 2 (by decide)
  have q8c_11 : h8c.1 66 23 = h1.1 66 23 := g8c.1 66 23 (by decide)
  have g12 : -2147483648 ≤ (h8c.1 66 0) ∧ (h8c.1 66 0) ≤ 2147483647 := i8c.1 66 0
  exact mm_zret C T (mm_dec dk_X12_isCell 7 rfl) (by decide : 0 ≤ 0) (by decide : 0 ≤ 0) (by omega) ⟨_, rfl, ⟨⟨by omega, by omega⟩, i8c, f8c, by omega, by omega⟩⟩
set_option maxRecDepth 100000 in
set_option maxHeartbeats 4000000 in
theorem c_X11_gates_q (l : Launch) (hl : l.stackTraces = false) (d : Nat) (hd : 9 ≤ d) (h : mH) (i0 : mm_inv h) (p1 : Int) (p2 : Int) (p3 : Int) (p4 : Int) : mm_Met l d yX11_gates cX11_gates 7 (some .boolean) [mR 0, mI p1, mI p2, mI p3, mI p4] h (mm_pi fun r h2 => (0 ≤ r ∧ r ≤ 1) ∧ mm_inv h2 ∧ mm_fr [(1, 7), (1, 8)] [] h h2 ∧ (0 ≤ p1 ∧ p1 < h.1 1 5 ∧ 0 ≤ p2 ∧ p2 < h.1 1 6) ∧ (0 ≤ p3 ∧ p3 < h.1 1 5 ∧ 0 ≤ p4 ∧ p4 < h.1 1 6) ∧ ((r = 1 ∧ h.1 22 8 ≤ 0) ∨ (r = 0 ∧ 0 < h.1 22 8))) (fun E h' => mm_xn h E h' ∧ ((p1 < 0 ∨ h.1 1 5 ≤ p1 ∨ p2 < 0 ∨ h.1 1 6 ≤ p2) ∨ (p3 < 0 ∨ h.1 1 5 ≤ p3 ∨ p4 < 0 ∨ h.1 1 6 ≤ p4))) 2 12 := by
  refine mm_ofW (ls := [mR 0, mI p1, mI p2, mI p3, mI p4, mU, mU]) hl (by decide) rfl (Nat.le_of_ble_eq_true rfl) ?_
  intro x hxl C T hnm htb
  subst hxl
  have C1 := mm_OK_le (d' := d - 1 + 1) (by omega) C
  have C8 := mm_OK_le (d' := d - 8 + 8) (by omega) C
  refine mm_rng (fun hr _ => ?_)
  have ap1 : -2147483648 ≤ p1 ∧ p1 < 2147483648 := mm_ok_at hr (i := 1) rfl
  have ap2 : -2147483648 ≤ p2 ∧ p2 < 2147483648 := mm_ok_at hr (i := 2) rfl
  have ap3 : -2147483648 ≤ p3 ∧ p3 < 2147483648 := mm_ok_at hr (i := 3) rfl
  have ap4 : -2147483648 ≤ p4 ∧ p4 < 2147483648 := mm_ok_at hr (i := 4) rfl
  have f0 : mm_fr [(1, 7), (1, 8)] [] h h := mm_fr_rf
  refine mm_aload_n C (mm_dec dk_X11_gates 0 rfl) rfl ?_
  refine mm_iload_n C (mm_dec dk_X11_gates 1 rfl) rfl ?_
  refine mm_iload_n C (mm_dec dk_X11_gates 2 rfl) rfl ?_
  refine mm_cVi (rest := []) C1 ev_X11_122 (mm_dec dk_X11_gates 3 rfl) (c_X11_needCell_q x.2.1 hl (d - 1) (by omega) h i0 p1 p2) rfl rfl (Nat.le_of_ble_eq_true rfl) ⟨by decide, by decide⟩ rfl (fun r3 h3c hp3 => ?_) (fun E hx q => mm_out C T htb (by decide) (by decide) (by obtain ⟨q1, q2⟩ := q; exact ⟨q1, by omega⟩))
  obtain ⟨z3, k3_0, k3_1, k3_2, k3_3, k3_4, y3⟩ := hp3
  rw [z3, y3]
  have g2 : 1 ≤ (h.1 1 5) ∧ (h.1 1 5) ≤ 20 := i0.1 1 5
  have g3 : 1 ≤ (h.1 1 6) ∧ (h.1 1 6) ≤ 20 := i0.1 1 6
  refine mm_istoreL (ls2 := [mR 0, mI p1, mI p2, mI p3, mI p4, mI ((p2 * 20) + p1), mU]) C (mm_dec dk_X11_gates 4 rfl) (by decide) rfl ?_
  refine mm_aload_n C (mm_dec dk_X11_gates 5 rfl) rfl ?_
  refine mm_iload_n C (mm_dec dk_X11_gates 6 rfl) rfl ?_
  refine mm_iload C (mm_dec dk_X11_gates 7 rfl) rfl ?_
  refine mm_cVi (rest := []) C1 ev_X11_122 (mm_dec dk_X11_gates 8 rfl) (c_X11_needCell_q x.2.1 hl (d - 1) (by omega) h i0 p3 p4) rfl rfl (Nat.le_of_ble_eq_true rfl) ⟨by decide, by decide⟩ rfl (fun r12 h12c hp12 => ?_) (fun E hx q => mm_out C T htb (by decide) (by decide) (by obtain ⟨q1, q2⟩ := q; exact ⟨q1, by omega⟩))
  obtain ⟨z12, k12_0, k12_1, k12_2, k12_3, k12_4, y12⟩ := hp12
  rw [z12, y12]
  refine mm_istoreL (ls2 := [mR 0, mI p1, mI p2, mI p3, mI p4, mI ((p2 * 20) + p1), mI ((p4 * 20) + p3)]) C (mm_dec dk_X11_gates 9 rfl) (by decide) rfl ?_
  refine mm_aload_n C (mm_dec dk_X11_gates 10 rfl) rfl ?_
  refine mm_cVi (rest := []) C1 ev_X11_126 (mm_dec dk_X11_gates 11 rfl) (c_X11_landIsFixed x.2.1 hl (d - 1) (by omega) h i0 ) rfl rfl (Nat.le_of_ble_eq_true rfl) ⟨by decide, by decide⟩ rfl (fun r18 h18c hp18 => ?_) (fun _ _ q => q.elim)
  obtain ⟨z18, y18⟩ := hp18
  rw [z18]
  have g6 : 0 ≤ (h.1 22 8) ∧ (h.1 22 8) ≤ 40 := i0.1 22 8
  refine mm_if_eq (tgt := 26) C (mm_dec dk_X11_gates 12 rfl) (by decide) (fun c21 => ?_) (fun c21 => ?_)
  · skip
    refine mm_aload_n C (mm_dec dk_X11_gates 15 rfl) rfl ?_
    refine mm_getr (t := 1) C fl_X11_12 (mm_dec dk_X11_gates 16 rfl) rfl rfl (mm_ref i0 rfl) ?_
    refine mm_iload C (mm_dec dk_X11_gates 17 rfl) rfl ?_
    refine mm_puti C fl_X11_166 (mm_dec dk_X11_gates 18 rfl) rfl rfl rfl (Or.inl ⟨rfl, rfl⟩) ?_
    have i1 : mm_inv (mm_pf h 1 7 ((p2 * 20) + p1)) := mm_inv_pf i0 (show 0 ≤ ((p2 * 20) + p1) ∧ ((p2 * 20) + p1) ≤ 399 from ⟨by omega, by omega⟩) (by decide)
    have f1 : mm_fr [(1, 7), (1, 8)] [] h (mm_pf h 1 7 ((p2 * 20) + p1)) := mm_fr_pf f0 (by decide)
    obtain ⟨h1, eh1⟩ : ∃ z, z = mm_pf h 1 7 ((p2 * 20) + p1) := ⟨_, rfl⟩
    rw [← eh1] at i1 f1 ⊢
    have qh1 : h1.1 1 7 = ((p2 * 20) + p1) := by rw [eh1]; exact mm_pf_same _ _ _ _
    have qh1_7 : h1.1 1 5 = h.1 1 5 := by rw [eh1]; exact mm_pf_ne _ _ (by decide)
    have qh1_8 : h1.1 1 6 = h.1 1 6 := by rw [eh1]; exact mm_pf_ne _ _ (by decide)
    have qh1_9 : h1.1 22 8 = h.1 22 8 := by rw [eh1]; exact mm_pf_ne _ _ (by decide)
    refine mm_aload_n C (mm_dec dk_X11_gates 19 rfl) rfl ?_
    refine mm_getr (t := 1) C fl_X11_12 (mm_dec dk_X11_gates 20 rfl) rfl rfl (mm_ref i1 rfl) ?_
    refine mm_iload C (mm_dec dk_X11_gates 21 rfl) rfl ?_
    refine mm_puti C fl_X11_169 (mm_dec dk_X11_gates 22 rfl) rfl rfl rfl (Or.inl ⟨rfl, rfl⟩) ?_
    have i2 : mm_inv (mm_pf h1 1 8 ((p4 * 20) + p3)) := mm_inv_pf i1 (show 0 ≤ ((p4 * 20) + p3) ∧ ((p4 * 20) + p3) ≤ 399 from ⟨by omega, by omega⟩) (by decide)
    have f2 : mm_fr [(1, 7), (1, 8)] [] h (mm_pf h1 1 8 ((p4 * 20) + p3)) := mm_fr_pf f1 (by decide)
    obtain ⟨h2, eh2⟩ : ∃ z, z = mm_pf h1 1 8 ((p4 * 20) + p3) := ⟨_, rfl⟩
    rw [← eh2] at i2 f2 ⊢
    have qh2 : h2.1 1 8 = ((p4 * 20) + p3) := by rw [eh2]; exact mm_pf_same _ _ _ _
    have qh2_10 : h2.1 1 5 = h1.1 1 5 := by rw [eh2]; exact mm_pf_ne _ _ (by decide)
    have qh2_11 : h2.1 1 6 = h1.1 1 6 := by rw [eh2]; exact mm_pf_ne _ _ (by decide)
    have qh2_12 : h2.1 1 7 = h1.1 1 7 := by rw [eh2]; exact mm_pf_ne _ _ (by decide)
    have qh2_13 : h2.1 22 8 = h1.1 22 8 := by rw [eh2]; exact mm_pf_ne _ _ (by decide)
    refine mm_iconst C (mm_dec dk_X11_gates 23 rfl) ⟨by decide, by decide⟩ ?_
    exact mm_zret C T (mm_dec dk_X11_gates 24 rfl) (by decide : 2 ≤ 2) (by decide : 12 ≤ 12) (by omega) ⟨_, rfl, ⟨⟨by omega, by omega⟩, i2, f2, by omega, by omega, by omega⟩⟩
  · skip
    refine mm_iconst C (mm_dec dk_X11_gates 13 rfl) ⟨by decide, by decide⟩ ?_
    exact mm_zret C T (mm_dec dk_X11_gates 14 rfl) (by decide : 2 ≤ 2) (by decide : 12 ≤ 12) (by omega) ⟨_, rfl, ⟨⟨by omega, by omega⟩, i0, f0, by omega, by omega, by omega⟩⟩
set_option maxRecDepth 100000 in
set_option maxHeartbeats 4000000 in
theorem c_X12_gates_q (l : Launch) (hl : l.stackTraces = false) (d : Nat) (hd : 3 ≤ d) (h : mH) (i0 : mm_inv h) (p1 : Int) (p2 : Int) (p3 : Int) (p4 : Int) : mm_Met l d yX12_gates cX12_gates 5 (some .boolean) [mR 66, mI p1, mI p2, mI p3, mI p4] h (mm_pi fun r h2 => (0 ≤ r ∧ r ≤ 1) ∧ mm_inv h2 ∧ mm_fr [(66, 0), (66, 9), (66, 10), (66, 11), (66, 12)] [] h h2 ∧ (((0 ≤ p1 ∧ p1 < h.1 66 1 ∧ 0 ≤ p2 ∧ p2 < h.1 66 2) ∧ (0 ≤ p3 ∧ p3 < h.1 66 1 ∧ 0 ≤ p4 ∧ p4 < h.1 66 2) ∧ h2.1 66 0 = 0 ∧ ((r = 1 ∧ h.1 66 23 ≤ 0) ∨ (r = 0 ∧ 0 < h.1 66 23))) ∨ (((p1 < 0 ∨ h.1 66 1 ≤ p1 ∨ p2 < 0 ∨ h.1 66 2 ≤ p2) ∨ (p3 < 0 ∨ h.1 66 1 ≤ p3 ∨ p4 < 0 ∨ h.1 66 2 ≤ p4)) ∧ h2.1 66 0 = 1 ∧ r = 0))) mm_nx 0 0 := by
  refine mm_ofW (ls := [mR 66, mI p1, mI p2, mI p3, mI p4]) hl (by decide) rfl (Nat.le_of_ble_eq_true rfl) ?_
  intro x hxl C T hnm htb
  subst hxl
  have C1 := mm_OK_le (d' := d - 1 + 1) (by omega) C
  refine mm_rng (fun hr _ => ?_)
  have ap1 : -2147483648 ≤ p1 ∧ p1 < 2147483648 := mm_ok_at hr (i := 1) rfl
  have ap2 : -2147483648 ≤ p2 ∧ p2 < 2147483648 := mm_ok_at hr (i := 2) rfl
  have ap3 : -2147483648 ≤ p3 ∧ p3 < 2147483648 := mm_ok_at hr (i := 3) rfl
  have ap4 : -2147483648 ≤ p4 ∧ p4 < 2147483648 := mm_ok_at hr (i := 4) rfl
  have f0 : mm_fr [(66, 0), (66, 9), (66, 10), (66, 11), (66, 12)] [] h h := mm_fr_rf
  have g1 : -2147483648 ≤ h.1 66 0 ∧ h.1 66 0 ≤ 2147483647 := i0.1 66 0
  have g2 : 1 ≤ h.1 66 1 ∧ h.1 66 1 ≤ 20 := i0.1 66 1
  have g3 : 1 ≤ h.1 66 2 ∧ h.1 66 2 ≤ 20 := i0.1 66 2
  have g4 : 0 ≤ h.1 66 23 ∧ h.1 66 23 ≤ 40 := i0.1 66 23
  refine mm_aload_n C (mm_dec dk_X12_gates 0 rfl) rfl ?_
  refine mm_iload_n C (mm_dec dk_X12_gates 1 rfl) rfl ?_
  refine mm_iload_n C (mm_dec dk_X12_gates 2 rfl) rfl ?_
  refine mm_cVi (rest := []) C1 ev_X12_255 (mm_dec dk_X12_gates 3 rfl) (c_X12_isCell_q x.2.1 hl (d - 1) (by omega) h i0 p1 p2) rfl rfl (Nat.le_of_ble_eq_true rfl) ⟨by decide, by decide⟩ rfl (fun r3 h3c hp3 => ?_) (fun _ _ q => q.elim)
  obtain ⟨b3, i3c, g3c, y3_0, y3_1⟩ := hp3
  have f3c : mm_fr [(66, 0), (66, 9), (66, 10), (66, 11), (66, 12)] [] h h3c := mm_fr_tr f0 g3c (by decide +kernel)
  have q3c_6 : h3c.1 66 1 = h.1 66 1 := g3c.1 66 1 (by decide)
  have q3c_7 : h3c.1 66 2 = h.1 66 2 := g3c.1 66 2 (by decide)
  have q3c_8 : h3c.1 66 23 = h.1 66 23 := g3c.1 66 23 (by decide)
  have g9 : -2147483648 ≤ (h3c.1 66 0) ∧ (h3c.1 66 0) ≤ 2147483647 := i3c.1 66 0
  have J26 : ∀ (h26_ : mH) (i26_ : mm_inv h26_) (f26_ : mm_fr [(66, 0), (66, 9), (66, 10), (66, 11), (66, 12)] [] h h26_) (w26_0 : (((0 ≤ p1 ∧ p1 < h.1 66 1 ∧ 0 ≤ p2 ∧ p2 < h.1 66 2) ∧ (0 ≤ p3 ∧ p3 < h.1 66 1 ∧ 0 ≤ p4 ∧ p4 < h.1 66 2) ∧ h26_.1 66 0 = 0 ∧ 0 < h.1 66 23) ∨ (((p1 < 0 ∨ h.1 66 1 ≤ p1 ∨ p2 < 0 ∨ h.1 66 2 ≤ p2) ∨ (p3 < 0 ∨ h.1 66 1 ≤ p3 ∨ p4 < 0 ∨ h.1 66 2 ≤ p4)) ∧ h26_.1 66 0 = 1))), mm_W x 0 0 26 [mU, mU, mU, mU, mU] [] h26_ := by
    intro h26_ i26_ f26_ w26_0
    have g10 : -2147483648 ≤ h26_.1 66 0 ∧ h26_.1 66 0 ≤ 2147483647 := i26_.1 66 0
    have g11 : 1 ≤ h26_.1 66 1 ∧ h26_.1 66 1 ≤ 20 := i26_.1 66 1
    have g12 : 1 ≤ h26_.1 66 2 ∧ h26_.1 66 2 ≤ 20 := i26_.1 66 2
    have g13 : 0 ≤ h26_.1 66 23 ∧ h26_.1 66 23 ≤ 40 := i26_.1 66 23
    have g14 : h26_.1 66 1 = h.1 66 1 := f26_.1 66 1 (by decide)
    have g15 : h26_.1 66 2 = h.1 66 2 := f26_.1 66 2 (by decide)
    have g16 : h26_.1 66 23 = h.1 66 23 := f26_.1 66 23 (by decide)
    refine mm_iconst C (mm_dec dk_X12_gates 13 rfl) ⟨by decide, by decide⟩ ?_
    exact mm_zret C T (mm_dec dk_X12_gates 14 rfl) (by decide : 0 ≤ 0) (by decide : 0 ≤ 0) (by omega) ⟨_, rfl, ⟨⟨by omega, by omega⟩, i26_, f26_, by omega⟩⟩
  refine mm_if_eq (tgt := 26) C (mm_dec dk_X12_gates 4 rfl) (by decide) (fun c6 => ?_) (fun c6 => ?_)
  · skip
    refine mm_fgt 0 ?_
    refine mm_fgt 1 ?_
    refine mm_fgt 2 ?_
    refine mm_fgt 3 ?_
    refine mm_fgt 4 ?_
    exact J26 h3c i3c f3c (by omega)
  · skip
    refine mm_aload_n C (mm_dec dk_X12_gates 5 rfl) rfl ?_
    refine mm_iload_n C (mm_dec dk_X12_gates 6 rfl) rfl ?_
    refine mm_iload C (mm_dec dk_X12_gates 7 rfl) rfl ?_
    refine mm_cVi (rest := []) C1 ev_X12_247 (mm_dec dk_X12_gates 8 rfl) (c_X12_inside_q x.2.1 hl (d - 1) (by omega) h3c i3c p3 p4) rfl rfl (Nat.le_of_ble_eq_true rfl) ⟨by decide, by decide⟩ rfl (fun r13 h13c hp13 => ?_) (fun _ _ q => q.elim)
    obtain ⟨b13, i13c, g13c, y13_0, y13_1⟩ := hp13
    have f13c : mm_fr [(66, 0), (66, 9), (66, 10), (66, 11), (66, 12)] [] h h13c := mm_fr_tr f3c g13c (by decide +kernel)
    have q13c_18 : h13c.1 66 1 = h3c.1 66 1 := g13c.1 66 1 (by decide)
    have q13c_19 : h13c.1 66 2 = h3c.1 66 2 := g13c.1 66 2 (by decide)
    have q13c_20 : h13c.1 66 23 = h3c.1 66 23 := g13c.1 66 23 (by decide)
    have g21 : -2147483648 ≤ (h13c.1 66 0) ∧ (h13c.1 66 0) ≤ 2147483647 := i13c.1 66 0
    refine mm_if_eq (tgt := 26) C (mm_dec dk_X12_gates 9 rfl) (by decide) (fun c16 => ?_) (fun c16 => ?_)
    · skip
      refine mm_fgt 0 ?_
      refine mm_fgt 1 ?_
      refine mm_fgt 2 ?_
      refine mm_fgt 3 ?_
      refine mm_fgt 4 ?_
      exact J26 h13c i13c f13c (by omega)
    · skip
      refine mm_aload_n C (mm_dec dk_X12_gates 10 rfl) rfl ?_
      refine mm_geti C fl_X12_222 (mm_dec dk_X12_gates 11 rfl) rfl rfl (Or.inl rfl) ?_
      refine mm_if_le (tgt := 28) C (mm_dec dk_X12_gates 12 rfl) (by decide) (fun c23 => ?_) (fun c23 => ?_)
      · skip
        refine mm_aload_n C (mm_dec dk_X12_gates 15 rfl) rfl ?_
        refine mm_iload_n C (mm_dec dk_X12_gates 16 rfl) rfl ?_
        refine mm_puti C fl_X12_201 (mm_dec dk_X12_gates 17 rfl) rfl rfl rfl (Or.inl ⟨rfl, rfl⟩) ?_
        have i3 : mm_inv (mm_pf h13c 66 9 p1) := mm_inv_pf i13c (show 0 ≤ p1 ∧ p1 ≤ 19 from ⟨by omega, by omega⟩) (by decide)
        have f3 : mm_fr [(66, 0), (66, 9), (66, 10), (66, 11), (66, 12)] [] h (mm_pf h13c 66 9 p1) := mm_fr_pf f13c (by decide)
        obtain ⟨h3, eh3⟩ : ∃ z, z = mm_pf h13c 66 9 p1 := ⟨_, rfl⟩
        rw [← eh3] at i3 f3 ⊢
        have qh3 : h3.1 66 9 = p1 := by rw [eh3]; exact mm_pf_same _ _ _ _
        have qh3_22 : h3.1 66 0 = h13c.1 66 0 := by rw [eh3]; exact mm_pf_ne _ _ (by decide)
        have qh3_23 : h3.1 66 1 = h13c.1 66 1 := by rw [eh3]; exact mm_pf_ne _ _ (by decide)
        have qh3_24 : h3.1 66 2 = h13c.1 66 2 := by rw [eh3]; exact mm_pf_ne _ _ (by decide)
        have qh3_25 : h3.1 66 23 = h13c.1 66 23 := by rw [eh3]; exact mm_pf_ne _ _ (by decide)
        refine mm_aload_n C (mm_dec dk_X12_gates 18 rfl) rfl ?_
        refine mm_iload_n C (mm_dec dk_X12_gates 19 rfl) rfl ?_
        refine mm_puti C fl_X12_204 (mm_dec dk_X12_gates 20 rfl) rfl rfl rfl (Or.inl ⟨rfl, rfl⟩) ?_
        have i4 : mm_inv (mm_pf h3 66 10 p2) := mm_inv_pf i3 (show 0 ≤ p2 ∧ p2 ≤ 19 from ⟨by omega, by omega⟩) (by decide)
        have f4 : mm_fr [(66, 0), (66, 9), (66, 10), (66, 11), (66, 12)] [] h (mm_pf h3 66 10 p2) := mm_fr_pf f3 (by decide)
        obtain ⟨h4, eh4⟩ : ∃ z, z = mm_pf h3 66 10 p2 := ⟨_, rfl⟩
        rw [← eh4] at i4 f4 ⊢
        have qh4 : h4.1 66 10 = p2 := by rw [eh4]; exact mm_pf_same _ _ _ _
        have qh4_26 : h4.1 66 0 = h3.1 66 0 := by rw [eh4]; exact mm_pf_ne _ _ (by decide)
        have qh4_27 : h4.1 66 1 = h3.1 66 1 := by rw [eh4]; exact mm_pf_ne _ _ (by decide)
        have qh4_28 : h4.1 66 2 = h3.1 66 2 := by rw [eh4]; exact mm_pf_ne _ _ (by decide)
        have qh4_29 : h4.1 66 9 = h3.1 66 9 := by rw [eh4]; exact mm_pf_ne _ _ (by decide)
        have qh4_30 : h4.1 66 23 = h3.1 66 23 := by rw [eh4]; exact mm_pf_ne _ _ (by decide)
        refine mm_aload_n C (mm_dec dk_X12_gates 21 rfl) rfl ?_
        refine mm_iload_n C (mm_dec dk_X12_gates 22 rfl) rfl ?_
        refine mm_puti C fl_X12_207 (mm_dec dk_X12_gates 23 rfl) rfl rfl rfl (Or.inl ⟨rfl, rfl⟩) ?_
        have i5 : mm_inv (mm_pf h4 66 11 p3) := mm_inv_pf i4 (show 0 ≤ p3 ∧ p3 ≤ 19 from ⟨by omega, by omega⟩) (by decide)
        have f5 : mm_fr [(66, 0), (66, 9), (66, 10), (66, 11), (66, 12)] [] h (mm_pf h4 66 11 p3) := mm_fr_pf f4 (by decide)
        obtain ⟨h5, eh5⟩ : ∃ z, z = mm_pf h4 66 11 p3 := ⟨_, rfl⟩
        rw [← eh5] at i5 f5 ⊢
        have qh5 : h5.1 66 11 = p3 := by rw [eh5]; exact mm_pf_same _ _ _ _
        have qh5_31 : h5.1 66 0 = h4.1 66 0 := by rw [eh5]; exact mm_pf_ne _ _ (by decide)
        have qh5_32 : h5.1 66 1 = h4.1 66 1 := by rw [eh5]; exact mm_pf_ne _ _ (by decide)
        have qh5_33 : h5.1 66 2 = h4.1 66 2 := by rw [eh5]; exact mm_pf_ne _ _ (by decide)
        have qh5_34 : h5.1 66 9 = h4.1 66 9 := by rw [eh5]; exact mm_pf_ne _ _ (by decide)
        have qh5_35 : h5.1 66 10 = h4.1 66 10 := by rw [eh5]; exact mm_pf_ne _ _ (by decide)
        have qh5_36 : h5.1 66 23 = h4.1 66 23 := by rw [eh5]; exact mm_pf_ne _ _ (by decide)
        refine mm_aload_n C (mm_dec dk_X12_gates 24 rfl) rfl ?_
        refine mm_iload C (mm_dec dk_X12_gates 25 rfl) rfl ?_
        refine mm_puti C fl_X12_210 (mm_dec dk_X12_gates 26 rfl) rfl rfl rfl (Or.inl ⟨rfl, rfl⟩) ?_
        have i6 : mm_inv (mm_pf h5 66 12 p4) := mm_inv_pf i5 (show 0 ≤ p4 ∧ p4 ≤ 19 from ⟨by omega, by omega⟩) (by decide)
        have f6 : mm_fr [(66, 0), (66, 9), (66, 10), (66, 11), (66, 12)] [] h (mm_pf h5 66 12 p4) := mm_fr_pf f5 (by decide)
        obtain ⟨h6, eh6⟩ : ∃ z, z = mm_pf h5 66 12 p4 := ⟨_, rfl⟩
        rw [← eh6] at i6 f6 ⊢
        have qh6 : h6.1 66 12 = p4 := by rw [eh6]; exact mm_pf_same _ _ _ _
        have qh6_37 : h6.1 66 0 = h5.1 66 0 := by rw [eh6]; exact mm_pf_ne _ _ (by decide)
        have qh6_38 : h6.1 66 1 = h5.1 66 1 := by rw [eh6]; exact mm_pf_ne _ _ (by decide)
        have qh6_39 : h6.1 66 2 = h5.1 66 2 := by rw [eh6]; exact mm_pf_ne _ _ (by decide)
        have qh6_40 : h6.1 66 9 = h5.1 66 9 := by rw [eh6]; exact mm_pf_ne _ _ (by decide)
        have qh6_41 : h6.1 66 10 = h5.1 66 10 := by rw [eh6]; exact mm_pf_ne _ _ (by decide)
        have qh6_42 : h6.1 66 11 = h5.1 66 11 := by rw [eh6]; exact mm_pf_ne _ _ (by decide)
        have qh6_43 : h6.1 66 23 = h5.1 66 23 := by rw [eh6]; exact mm_pf_ne _ _ (by decide)
        refine mm_iconst C (mm_dec dk_X12_gates 27 rfl) ⟨by decide, by decide⟩ ?_
        exact mm_zret C T (mm_dec dk_X12_gates 28 rfl) (by decide : 0 ≤ 0) (by decide : 0 ≤ 0) (by omega) ⟨_, rfl, ⟨⟨by omega, by omega⟩, i6, f6, by omega⟩⟩
      · skip
        refine mm_fgt 0 ?_
        refine mm_fgt 1 ?_
        refine mm_fgt 2 ?_
        refine mm_fgt 3 ?_
        refine mm_fgt 4 ?_
        exact J26 h13c i13c f13c (by omega)
