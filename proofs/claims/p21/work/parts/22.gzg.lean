set_option maxRecDepth 100000 in
set_option maxHeartbeats 4000000 in
theorem c_X11_needSecond_q (l : Launch) (hl : l.stackTraces = false) (d : Nat) (hd : 8 ≤ d) (h : mH) (i0 : mm_inv h) (p1 : Int) : mm_Met l d yX11_needSecond cX11_needSecond 2 none [mR 0, mI p1] h (mm_pv fun h2 => h2 = h ∧ 0 ≤ p1 ∧ p1 ≤ (h.1 0 13)) (fun E h' => mm_xi h E h' ∧ (p1 < 0 ∨ h.1 0 13 < p1)) 1 6 := by
  refine mm_ofW (ls := [mR 0, mI p1]) hl (by decide) rfl (Nat.le_of_ble_eq_true rfl) ?_
  intro x hxl C T hnm htb
  subst hxl
  have C1 := mm_OK_le (d' := d - 1 + 1) (by omega) C
  have C8 := mm_OK_le (d' := d - 8 + 8) (by omega) C
  refine mm_rng (fun hr _ => ?_)
  have ap1 : -2147483648 ≤ p1 ∧ p1 < 2147483648 := mm_ok_at hr (i := 1) rfl
  have f0 : mm_fr [] [] h h := mm_fr_rf
  refine mm_iload_n C (mm_dec dk_X11_needSecond 0 rfl) rfl ?_
  refine mm_if_lt (tgt := 12) C (mm_dec dk_X11_needSecond 1 rfl) (by decide) (fun c1 => ?_) (fun c1 => ?_)
  · skip
    exact mm_throwXW C8 T htb th_iae (i := 12) rfl (mm_dec dk_X11_needSecond 6 rfl) (mm_dec dk_X11_needSecond 7 rfl) (mm_dec dk_X11_needSecond 8 rfl) (mm_dec dk_X11_needSecond 9 rfl) (mm_dec dk_X11_needSecond 10 rfl) (Nat.le_of_ble_eq_true rfl) ⟨by decide, by decide⟩ ⟨by decide, by decide⟩ (⟨⟨rfl, rfl⟩, by omega⟩)
  · skip
    refine mm_iload_n C (mm_dec dk_X11_needSecond 2 rfl) rfl ?_
    refine mm_aload_n C (mm_dec dk_X11_needSecond 3 rfl) rfl ?_
    refine mm_geti C fl_X11_102 (mm_dec dk_X11_needSecond 4 rfl) rfl rfl (Or.inl rfl) ?_
    have g1 : 0 ≤ (h.1 0 13) ∧ (h.1 0 13) ≤ 99999 := i0.1 0 13
    refine mm_icmp_le (tgt := 23) C (mm_dec dk_X11_needSecond 5 rfl) (by decide) (fun c9 => ?_) (fun c9 => ?_)
    · skip
      exact mm_vret C T (mm_dec dk_X11_needSecond 11 rfl) (by decide : 0 ≤ 1) (by decide : 0 ≤ 6) ⟨rfl, ⟨rfl, by omega, by omega⟩⟩
    · skip
      exact mm_throwXW C8 T htb th_iae (i := 12) rfl (mm_dec dk_X11_needSecond 6 rfl) (mm_dec dk_X11_needSecond 7 rfl) (mm_dec dk_X11_needSecond 8 rfl) (mm_dec dk_X11_needSecond 9 rfl) (mm_dec dk_X11_needSecond 10 rfl) (Nat.le_of_ble_eq_true rfl) ⟨by decide, by decide⟩ ⟨by decide, by decide⟩ (⟨⟨rfl, rfl⟩, by omega⟩)
set_option maxRecDepth 100000 in
set_option maxHeartbeats 4000000 in
theorem c_X11_split_q (l : Launch) (hl : l.stackTraces = false) (d : Nat) (hd : 9 ≤ d) (h : mH) (i0 : mm_inv h) (p1 : Int) (p2 : Int) (p3 : Int) : mm_Met l d yX11_split cX11_split 4 (some .int) [mR 0, mI p1, mI p2, mI p3] h (mm_pi fun r h2 => (-2147483648 ≤ r ∧ r ≤ 2147483647) ∧ mm_inv h2 ∧ mm_fr [(48, 8), (48, 9)] [49, 50, 51, 52, 53] h h2 ∧ ((0 ≤ p1 ∧ p1 < h.1 22 8) ∧ (0 ≤ p2 ∧ p2 < h.2.1 19 (h.2.1 23 p1)) ∧ (0 ≤ p3 ∧ p3 ≤ h.1 0 13)) ∧ mm_vX8 h p1 p2 p3 r) (fun E h' => (mm_xn h E h' ∧ ((p1 < 0 ∨ h.1 22 8 ≤ p1) ∨ (p2 < 0 ∨ h.2.1 19 (h.2.1 23 p1) ≤ p2))) ∨ (mm_xi h E h' ∧ ((0 ≤ p1 ∧ p1 < h.1 22 8) ∧ (0 ≤ p2 ∧ p2 < h.2.1 19 (h.2.1 23 p1)) ∧ (p3 < 0 ∨ h.1 0 13 < p3)))) 3 18 := by
  refine mm_ofW (ls := [mR 0, mI p1, mI p2, mI p3]) hl (by decide) rfl (Nat.le_of_ble_eq_true rfl) ?_
  intro x hxl C T hnm htb
  subst hxl
  have C1 := mm_OK_le (d' := d - 1 + 1) (by omega) C
  have C8 := mm_OK_le (d' := d - 8 + 8) (by omega) C
  refine mm_rng (fun hr _ => ?_)
  have ap1 : -2147483648 ≤ p1 ∧ p1 < 2147483648 := mm_ok_at hr (i := 1) rfl
  have ap2 : -2147483648 ≤ p2 ∧ p2 < 2147483648 := mm_ok_at hr (i := 2) rfl
  have ap3 : -2147483648 ≤ p3 ∧ p3 < 2147483648 := mm_ok_at hr (i := 3) rfl
  have f0 : mm_fr [(48, 8), (48, 9)] [49, 50, 51, 52, 53] h h := mm_fr_rf
  have z19 : 0 ≤ h.2.1 19 (h.2.1 23 p1) := (i0.2.1 19 _).1
  refine mm_aload_n C (mm_dec dk_X11_split 0 rfl) rfl ?_
  refine mm_iload_n C (mm_dec dk_X11_split 1 rfl) rfl ?_
  refine mm_cVv (rest := []) C1 ev_X11_235 (mm_dec dk_X11_split 2 rfl) (c_X11_needRunner_q x.2.1 hl (d - 1) (by omega) h i0 p1) rfl rfl (Nat.le_of_ble_eq_true rfl) ⟨by decide, by decide⟩ rfl (fun h2c hp2 => ?_) (fun E hx q => mm_out C T htb (by decide) (by decide) (by obtain ⟨q1, q2⟩ := q; exact Or.inl ⟨q1, by omega⟩))
  obtain ⟨z2, k2_0, k2_1⟩ := hp2
  rw [z2]
  have g2 : 0 ≤ (h.1 22 8) ∧ (h.1 22 8) ≤ 40 := i0.1 22 8
  refine mm_aload_n C (mm_dec dk_X11_split 3 rfl) rfl ?_
  refine mm_iload_n C (mm_dec dk_X11_split 4 rfl) rfl ?_
  refine mm_iload_n C (mm_dec dk_X11_split 5 rfl) rfl ?_
  refine mm_cVv (rest := []) C1 ev_X11_244 (mm_dec dk_X11_split 6 rfl) (c_X11_needPlace_q x.2.1 hl (d - 1) (by omega) h i0 p1 p2 ⟨by omega, by omega⟩) rfl rfl (Nat.le_of_ble_eq_true rfl) ⟨by decide, by decide⟩ rfl (fun h8c hp8 => ?_) (fun E hx q => mm_out C T htb (by decide) (by decide) (by obtain ⟨q1, q2⟩ := q; exact Or.inl ⟨q1, by omega⟩))
  obtain ⟨z8, k8_0, k8_1⟩ := hp8
  rw [z8]
  have g4 : 0 ≤ (h.2.1 19 (h.2.1 23 p1)) ∧ (h.2.1 19 (h.2.1 23 p1)) ≤ 12 := i0.2.1 19 (h.2.1 23 p1)
  have g5 : 0 ≤ (h.2.1 23 p1) ∧ (h.2.1 23 p1) ≤ 7 := i0.2.1 23 p1
  refine mm_aload_n C (mm_dec dk_X11_split 7 rfl) rfl ?_
  refine mm_iload_n C (mm_dec dk_X11_split 8 rfl) rfl ?_
  refine mm_cVv (rest := []) C1 ev_X11_282 (mm_dec dk_X11_split 9 rfl) (c_X11_needSecond_q x.2.1 hl (d - 1) (by omega) h i0 p3) rfl rfl (Nat.le_of_ble_eq_true rfl) ⟨by decide, by decide⟩ rfl (fun h13c hp13 => ?_) (fun E hx q => mm_out C T htb (by decide) (by decide) (by obtain ⟨q1, q2⟩ := q; exact Or.inr ⟨q1, by omega⟩))
  obtain ⟨z13, k13_0, k13_1⟩ := hp13
  rw [z13]
  have g7 : 0 ≤ (h.1 0 13) ∧ (h.1 0 13) ≤ 99999 := i0.1 0 13
  refine mm_aload_n C (mm_dec dk_X11_split 10 rfl) rfl ?_
  refine mm_getr (t := 46) C fl_X11_60 (mm_dec dk_X11_split 11 rfl) rfl rfl (mm_ref i0 rfl) ?_
  refine mm_iload_n C (mm_dec dk_X11_split 12 rfl) rfl ?_
  refine mm_iload_n C (mm_dec dk_X11_split 13 rfl) rfl ?_
  refine mm_iload_n C (mm_dec dk_X11_split 14 rfl) rfl ?_
  refine mm_cVi (rest := []) C1 ev_X11_294 (mm_dec dk_X11_split 15 rfl) (c_X4_splitOf_q x.2.1 hl (d - 1) (by omega) h i0 p1 p2 p3 ⟨by omega, by omega⟩ ⟨by omega, by omega⟩) rfl rfl (Nat.le_of_ble_eq_true rfl) ⟨by decide, by decide⟩ rfl (fun r23 h23c hp23 => ?_) (fun _ _ q => q.elim)
  obtain ⟨b23, i23c, g23c, y23_0⟩ := hp23
  have f23c : mm_fr [(48, 8), (48, 9)] [49, 50, 51, 52, 53] h h23c := mm_fr_tr f0 g23c (by decide +kernel)
  have q23c_9 : h23c.1 0 13 = h.1 0 13 := g23c.1 0 13 (by decide)
  have q23c_10 : h23c.1 22 8 = h.1 22 8 := g23c.1 22 8 (by decide)
  exact mm_iret C T (mm_dec dk_X11_split 16 rfl) (by decide : 3 ≤ 3) (by decide : 18 ≤ 18) ⟨_, rfl, ⟨⟨by omega, by omega⟩, i23c, f23c, by omega, by exact y23_0⟩⟩
set_option maxRecDepth 100000 in
set_option maxHeartbeats 4000000 in
theorem c_X12_isSecond_q (l : Launch) (hl : l.stackTraces = false) (d : Nat) (hd : 1 ≤ d) (h : mH) (i0 : mm_inv h) (p1 : Int) : mm_Met l d yX12_isSecond cX12_isSecond 2 (some .boolean) [mR 66, mI p1] h (mm_pi fun r h2 => (0 ≤ r ∧ r ≤ 1) ∧ mm_inv h2 ∧ mm_fr [(66, 0)] [] h h2 ∧ ((h.1 66 0 = 0 ∧ (0 ≤ p1 ∧ p1 ≤ h.1 66 41) ∧ r = 1 ∧ h2.1 66 0 = 0) ∨ (h.1 66 0 = 0 ∧ (p1 < 0 ∨ h.1 66 41 < p1) ∧ r = 0 ∧ h2.1 66 0 = 2) ∨ h.1 66 0 ≠ 0) ∧ (r = 0 ∨ (0 ≤ p1 ∧ p1 ≤ (h2.1 66 41)))) mm_nx 0 0 := by
  refine mm_ofW (ls := [mR 66, mI p1]) hl (by decide) rfl (Nat.le_of_ble_eq_true rfl) ?_
  intro x hxl C T hnm htb
  subst hxl
  have C1 := mm_OK_le (d' := d - 1 + 1) (by omega) C
  refine mm_rng (fun hr _ => ?_)
  have ap1 : -2147483648 ≤ p1 ∧ p1 < 2147483648 := mm_ok_at hr (i := 1) rfl
  have f0 : mm_fr [(66, 0)] [] h h := mm_fr_rf
  have g1 : -2147483648 ≤ h.1 66 0 ∧ h.1 66 0 ≤ 2147483647 := i0.1 66 0
  have g2 : 0 ≤ h.1 66 41 ∧ h.1 66 41 ≤ 99999 := i0.1 66 41
  refine mm_aload_n C (mm_dec dk_X12_isSecond 0 rfl) rfl ?_
  refine mm_iload_n C (mm_dec dk_X12_isSecond 1 rfl) rfl ?_
  refine mm_if_lt (tgt := 17) C (mm_dec dk_X12_isSecond 2 rfl) (by decide) (fun c2 => ?_) (fun c2 => ?_)
  · skip
    refine mm_iconst C (mm_dec dk_X12_isSecond 9 rfl) ⟨by decide, by decide⟩ ?_
    refine mm_iconst C (mm_dec dk_X12_isSecond 10 rfl) ⟨by decide, by decide⟩ ?_
    refine mm_cVi (rest := []) C1 ev_X12_251 (mm_dec dk_X12_isSecond 11 rfl) (c_X12_right_q x.2.1 hl (d - 1) (by omega) h i0 0 2 ⟨by omega, by omega⟩ (by omega)) rfl rfl (Nat.le_of_ble_eq_true rfl) ⟨by decide, by decide⟩ rfl (fun r19 h19c hp19 => ?_) (fun _ _ q => q.elim)
    obtain ⟨b19, i19c, g19c, y19_0⟩ := hp19
    have f19c : mm_fr [(66, 0)] [] h h19c := mm_fr_tr f0 g19c (by decide +kernel)
    have q19c_4 : h19c.1 66 41 = h.1 66 41 := g19c.1 66 41 (by decide)
    have g5 : -2147483648 ≤ (h19c.1 66 0) ∧ (h19c.1 66 0) ≤ 2147483647 := i19c.1 66 0
    exact mm_zret C T (mm_dec dk_X12_isSecond 12 rfl) (by decide : 0 ≤ 0) (by decide : 0 ≤ 0) (by omega) ⟨_, rfl, ⟨⟨by omega, by omega⟩, i19c, f19c, by omega, by omega⟩⟩
  · skip
    refine mm_iload_n C (mm_dec dk_X12_isSecond 3 rfl) rfl ?_
    refine mm_aload_n C (mm_dec dk_X12_isSecond 4 rfl) rfl ?_
    refine mm_geti C fl_X12_234 (mm_dec dk_X12_isSecond 5 rfl) rfl rfl (Or.inl rfl) ?_
    refine mm_icmp_gt (tgt := 17) C (mm_dec dk_X12_isSecond 6 rfl) (by decide) (fun c10 => ?_) (fun c10 => ?_)
    · skip
      refine mm_iconst C (mm_dec dk_X12_isSecond 9 rfl) ⟨by decide, by decide⟩ ?_
      refine mm_iconst C (mm_dec dk_X12_isSecond 10 rfl) ⟨by decide, by decide⟩ ?_
      refine mm_cVi (rest := []) C1 ev_X12_251 (mm_dec dk_X12_isSecond 11 rfl) (c_X12_right_q x.2.1 hl (d - 1) (by omega) h i0 0 2 ⟨by omega, by omega⟩ (by omega)) rfl rfl (Nat.le_of_ble_eq_true rfl) ⟨by decide, by decide⟩ rfl (fun r19 h19c hp19 => ?_) (fun _ _ q => q.elim)
      obtain ⟨b19, i19c, g19c, y19_0⟩ := hp19
      have f19c : mm_fr [(66, 0)] [] h h19c := mm_fr_tr f0 g19c (by decide +kernel)
      have q19c_7 : h19c.1 66 41 = h.1 66 41 := g19c.1 66 41 (by decide)
      have g8 : -2147483648 ≤ (h19c.1 66 0) ∧ (h19c.1 66 0) ≤ 2147483647 := i19c.1 66 0
      exact mm_zret C T (mm_dec dk_X12_isSecond 12 rfl) (by decide : 0 ≤ 0) (by decide : 0 ≤ 0) (by omega) ⟨_, rfl, ⟨⟨by omega, by omega⟩, i19c, f19c, by omega, by omega⟩⟩
    · skip
      refine mm_iconst C (mm_dec dk_X12_isSecond 7 rfl) ⟨by decide, by decide⟩ ?_
      refine mm_goto (tgt := 18) C (mm_dec dk_X12_isSecond 8 rfl) (by decide) ?_
      refine mm_iconst C (mm_dec dk_X12_isSecond 10 rfl) ⟨by decide, by decide⟩ ?_
      refine mm_cVi (rest := []) C1 ev_X12_251 (mm_dec dk_X12_isSecond 11 rfl) (c_X12_right_q x.2.1 hl (d - 1) (by omega) h i0 1 2 ⟨by omega, by omega⟩ (by omega)) rfl rfl (Nat.le_of_ble_eq_true rfl) ⟨by decide, by decide⟩ rfl (fun r19 h19c hp19 => ?_) (fun _ _ q => q.elim)
      obtain ⟨b19, i19c, g19c, y19_0⟩ := hp19
      have f19c : mm_fr [(66, 0)] [] h h19c := mm_fr_tr f0 g19c (by decide +kernel)
      have q19c_10 : h19c.1 66 41 = h.1 66 41 := g19c.1 66 41 (by decide)
      have g11 : -2147483648 ≤ (h19c.1 66 0) ∧ (h19c.1 66 0) ≤ 2147483647 := i19c.1 66 0
      exact mm_zret C T (mm_dec dk_X12_isSecond 12 rfl) (by decide : 0 ≤ 0) (by decide : 0 ≤ 0) (by omega) ⟨_, rfl, ⟨⟨by omega, by omega⟩, i19c, f19c, by omega, by omega⟩⟩
set_option maxRecDepth 100000 in
set_option maxHeartbeats 4000000 in
theorem c_X12_split_q (l : Launch) (hl : l.stackTraces = false) (d : Nat) (hd : 4 ≤ d) (h : mH) (i0 : mm_inv h) (p1 : Int) (p2 : Int) (p3 : Int) : mm_Met l d yX12_split cX12_split 5 (some .int) [mR 66, mI p1, mI p2, mI p3] h (mm_pi fun r h2 => (-2147483648 ≤ r ∧ r ≤ 2147483647) ∧ mm_inv h2 ∧ mm_fr [(66, 0), (66, 39), (66, 48), (66, 52), (66, 53), (66, 54)] [91, 98, 99, 100] h h2 ∧ (((0 ≤ p1 ∧ p1 < h.1 66 23) ∧ (0 ≤ p2 ∧ p2 < h.2.1 80 (h.2.1 85 p1)) ∧ (0 ≤ p3 ∧ p3 ≤ h.1 66 41) ∧ h2.1 66 0 = 0) ∨ (((p1 < 0 ∨ h.1 66 23 ≤ p1) ∨ ((0 ≤ p1 ∧ p1 < h.1 66 23) ∧ (p2 < 0 ∨ h.2.1 80 (h.2.1 85 p1) ≤ p2))) ∧ h2.1 66 0 = 1 ∧ r = 0) ∨ ((0 ≤ p1 ∧ p1 < h.1 66 23) ∧ (0 ≤ p2 ∧ p2 < h.2.1 80 (h.2.1 85 p1)) ∧ (p3 < 0 ∨ h.1 66 41 < p3) ∧ h2.1 66 0 = 2 ∧ r = 0)) ∧ (h2.1 66 0 = 0 → mm_vY8 h p1 p2 p3 r)) mm_nx 0 0 := by
  refine mm_ofW (ls := [mR 66, mI p1, mI p2, mI p3, mU]) hl (by decide) rfl (Nat.le_of_ble_eq_true rfl) ?_
  intro x hxl C T hnm htb
  subst hxl
  have C1 := mm_OK_le (d' := d - 1 + 1) (by omega) C
  refine mm_rng (fun hr _ => ?_)
  have ap1 : -2147483648 ≤ p1 ∧ p1 < 2147483648 := mm_ok_at hr (i := 1) rfl
  have ap2 : -2147483648 ≤ p2 ∧ p2 < 2147483648 := mm_ok_at hr (i := 2) rfl
  have ap3 : -2147483648 ≤ p3 ∧ p3 < 2147483648 := mm_ok_at hr (i := 3) rfl
  have f0 : mm_fr [(66, 0), (66, 39), (66, 48), (66, 52), (66, 53), (66, 54)] [91, 98, 99, 100] h h := mm_fr_rf
  have g1 : 0 ≤ h.1 66 39 ∧ h.1 66 39 ≤ 12 := i0.1 66 39
  have g2 : 0 ≤ h.1 66 23 ∧ h.1 66 23 ≤ 40 := i0.1 66 23
  have g3 : -2147483648 ≤ h.1 66 0 ∧ h.1 66 0 ≤ 2147483647 := i0.1 66 0
  have g4 : 0 ≤ h.1 66 41 ∧ h.1 66 41 ≤ 99999 := i0.1 66 41
  refine mm_aload_n C (mm_dec dk_X12_split 0 rfl) rfl ?_
  refine mm_iload_n C (mm_dec dk_X12_split 1 rfl) rfl ?_
  refine mm_cVi (rest := []) C1 ev_X12_308 (mm_dec dk_X12_split 2 rfl) (c_X12_isRunner_q x.2.1 hl (d - 1) (by omega) h i0 p1) rfl rfl (Nat.le_of_ble_eq_true rfl) ⟨by decide, by decide⟩ rfl (fun r2 h2c hp2 => ?_) (fun _ _ q => q.elim)
  obtain ⟨b2, i2c, g2c, y2_0, y2_1⟩ := hp2
  have f2c : mm_fr [(66, 0), (66, 39), (66, 48), (66, 52), (66, 53), (66, 54)] [91, 98, 99, 100] h h2c := mm_fr_tr f0 g2c (by decide +kernel)
  have q2c_6 : h2c.1 66 23 = h.1 66 23 := g2c.1 66 23 (by decide)
  have q2c_7 : h2c.1 66 39 = h.1 66 39 := g2c.1 66 39 (by decide)
  have q2c_8 : h2c.1 66 41 = h.1 66 41 := g2c.1 66 41 (by decide)
  have g9 : -2147483648 ≤ (h2c.1 66 0) ∧ (h2c.1 66 0) ≤ 2147483647 := i2c.1 66 0
  refine mm_if_ne (tgt := 10) C (mm_dec dk_X12_split 3 rfl) (by decide) (fun c5 => ?_) (fun c5 => ?_)
  · skip
    refine mm_aload_n C (mm_dec dk_X12_split 6 rfl) rfl ?_
    refine mm_iload_n C (mm_dec dk_X12_split 7 rfl) rfl ?_
    refine mm_cVv (rest := []) C1 ev_X12_302 (mm_dec dk_X12_split 8 rfl) (c_X12_rows_q x.2.1 hl (d - 1) (by omega) h2c i2c p1 ⟨by omega, by omega⟩) rfl rfl (Nat.le_of_ble_eq_true rfl) ⟨by decide, by decide⟩ rfl (fun h12c hp12 => ?_) (fun _ _ q => q.elim)
    obtain ⟨i12c, g12c, y12_0, y12_1⟩ := hp12
    have f12c : mm_fr [(66, 0), (66, 39), (66, 48), (66, 52), (66, 53), (66, 54)] [91, 98, 99, 100] h h12c := mm_fr_tr f2c g12c (by decide +kernel)
    have q12c_11 : h12c.1 66 0 = h2c.1 66 0 := g12c.1 66 0 (by decide)
    have q12c_12 : h12c.1 66 23 = h2c.1 66 23 := g12c.1 66 23 (by decide)
    have q12c_13 : h12c.1 66 41 = h2c.1 66 41 := g12c.1 66 41 (by decide)
    have g14 : 0 ≤ (h12c.1 66 39) ∧ (h12c.1 66 39) ≤ 12 := i12c.1 66 39
    have zn : h12c.1 66 39 = h.2.1 80 (h.2.1 85 p1) := y12_1.trans (by rw [g2c.2 80 (by decide), g2c.2 85 (by decide)])
    refine mm_aload_n C (mm_dec dk_X12_split 9 rfl) rfl ?_
    refine mm_iload_n C (mm_dec dk_X12_split 10 rfl) rfl ?_
    have J33 : ∀ (s33_1 : Int) (bs33_1 : 0 ≤ s33_1 ∧ s33_1 ≤ 1) (w33_0 : ((s33_1 = 1 ∧ (0 ≤ p2 ∧ p2 < h.2.1 80 (h.2.1 85 p1))) ∨ (s33_1 = 0 ∧ (p2 < 0 ∨ h.2.1 80 (h.2.1 85 p1) ≤ p2)))) (vs33_1 : (s33_1 = 0) ∨ (0 ≤ p2 ∧ p2 < (h12c.1 66 39) ∧ s33_1 = 1)), mm_W x 0 0 33 [mR 66, mI p1, mI p2, mI p3, mU] [mI s33_1, mR 66] h12c := by
      intro s33_1 bs33_1 w33_0 vs33_1
      refine mm_iconst C (mm_dec dk_X12_split 19 rfl) ⟨by decide, by decide⟩ ?_
      refine mm_cVi (rest := []) C1 ev_X12_251 (mm_dec dk_X12_split 20 rfl) (c_X12_right_q x.2.1 hl (d - 1) (by omega) h12c i12c s33_1 1 ⟨by omega, by omega⟩ (by omega)) rfl rfl (Nat.le_of_ble_eq_true rfl) ⟨by decide, by decide⟩ rfl (fun r34 h34c hp34 => ?_) (fun _ _ q => q.elim)
      obtain ⟨b34, i34c, g34c, y34_0⟩ := hp34
      have f34c : mm_fr [(66, 0), (66, 39), (66, 48), (66, 52), (66, 53), (66, 54)] [91, 98, 99, 100] h h34c := mm_fr_tr f12c g34c (by decide +kernel)
      have q34c_16 : h34c.1 66 23 = h12c.1 66 23 := g34c.1 66 23 (by decide)
      have q34c_17 : h34c.1 66 39 = h12c.1 66 39 := g34c.1 66 39 (by decide)
      have q34c_18 : h34c.1 66 41 = h12c.1 66 41 := g34c.1 66 41 (by decide)
      have g19 : -2147483648 ≤ (h34c.1 66 0) ∧ (h34c.1 66 0) ≤ 2147483647 := i34c.1 66 0
      have J48 : ∀ (h48_ : mH) (i48_ : mm_inv h48_) (f48_ : mm_fr [(66, 0), (66, 39), (66, 48), (66, 52), (66, 53), (66, 54)] [91, 98, 99, 100] h h48_) (w48_0 : (((p2 < 0 ∨ h.2.1 80 (h.2.1 85 p1) ≤ p2) ∧ h48_.1 66 0 = 1) ∨ ((0 ≤ p2 ∧ p2 < h.2.1 80 (h.2.1 85 p1)) ∧ (p3 < 0 ∨ h.1 66 41 < p3) ∧ h48_.1 66 0 = 2))), mm_W x 0 0 48 [mU, mU, mU, mU, mU] [] h48_ := by
        intro h48_ i48_ f48_ w48_0
        have g20 : 0 ≤ h48_.1 66 39 ∧ h48_.1 66 39 ≤ 12 := i48_.1 66 39
        have g21 : 0 ≤ h48_.1 66 23 ∧ h48_.1 66 23 ≤ 40 := i48_.1 66 23
        have g22 : -2147483648 ≤ h48_.1 66 0 ∧ h48_.1 66 0 ≤ 2147483647 := i48_.1 66 0
        have g23 : 0 ≤ h48_.1 66 41 ∧ h48_.1 66 41 ≤ 99999 := i48_.1 66 41
        have g24 : h48_.1 66 23 = h.1 66 23 := f48_.1 66 23 (by decide)
        have g25 : h48_.1 66 41 = h.1 66 41 := f48_.1 66 41 (by decide)
        refine mm_iconst C (mm_dec dk_X12_split 26 rfl) ⟨by decide, by decide⟩ ?_
        exact mm_iret C T (mm_dec dk_X12_split 27 rfl) (by decide : 0 ≤ 0) (by decide : 0 ≤ 0) ⟨_, rfl, ⟨⟨by omega, by omega⟩, i48_, f48_, by omega, by first | exact fun q => absurd q (by omega) | exact fun _ => w103_0⟩⟩
      refine mm_if_eq (tgt := 48) C (mm_dec dk_X12_split 21 rfl) (by decide) (fun c37 => ?_) (fun c37 => ?_)
      · skip
        refine mm_fgt 0 ?_
        refine mm_fgt 1 ?_
        refine mm_fgt 2 ?_
        refine mm_fgt 3 ?_
        exact J48 h34c i34c f34c (by omega)
      · skip
        refine mm_aload_n C (mm_dec dk_X12_split 22 rfl) rfl ?_
        refine mm_iload_n C (mm_dec dk_X12_split 23 rfl) rfl ?_
        refine mm_cVi (rest := []) C1 ev_X12_499 (mm_dec dk_X12_split 24 rfl) (c_X12_isSecond_q x.2.1 hl (d - 1) (by omega) h34c i34c p3) rfl rfl (Nat.le_of_ble_eq_true rfl) ⟨by decide, by decide⟩ rfl (fun r42 h42c hp42 => ?_) (fun _ _ q => q.elim)
        obtain ⟨b42, i42c, g42c, y42_0, y42_1⟩ := hp42
        have f42c : mm_fr [(66, 0), (66, 39), (66, 48), (66, 52), (66, 53), (66, 54)] [91, 98, 99, 100] h h42c := mm_fr_tr f34c g42c (by decide +kernel)
        have q42c_27 : h42c.1 66 23 = h34c.1 66 23 := g42c.1 66 23 (by decide)
        have q42c_28 : h42c.1 66 39 = h34c.1 66 39 := g42c.1 66 39 (by decide)
        have q42c_29 : h42c.1 66 41 = h34c.1 66 41 := g42c.1 66 41 (by decide)
        have g30 : -2147483648 ≤ (h42c.1 66 0) ∧ (h42c.1 66 0) ≤ 2147483647 := i42c.1 66 0
        refine mm_if_ne (tgt := 50) C (mm_dec dk_X12_split 25 rfl) (by decide) (fun c45 => ?_) (fun c45 => ?_)
        · skip
          refine mm_aload_n C (mm_dec dk_X12_split 28 rfl) rfl ?_
          refine mm_iload_n C (mm_dec dk_X12_split 29 rfl) rfl ?_
          refine mm_iload_n C (mm_dec dk_X12_split 30 rfl) rfl ?_
          refine mm_cVv (rest := []) C1 ev_X12_469 (mm_dec dk_X12_split 31 rfl) (c_X12_judges_q x.2.1 hl (d - 1) (by omega) h42c i42c p1 p3 ⟨by omega, by omega⟩) rfl rfl (Nat.le_of_ble_eq_true rfl) ⟨by decide, by decide⟩ rfl (fun h53c hp53 => ?_) (fun _ _ q => q.elim)
          obtain ⟨i53c, g53c, y53_0, y53_1, y53_2, y53_3, y53_4⟩ := hp53
          have f53c : mm_fr [(66, 0), (66, 39), (66, 48), (66, 52), (66, 53), (66, 54)] [91, 98, 99, 100] h h53c := mm_fr_tr f42c g53c (by decide +kernel)
          have q53c_32 : h53c.1 66 0 = h42c.1 66 0 := g53c.1 66 0 (by decide)
          have q53c_33 : h53c.1 66 23 = h42c.1 66 23 := g53c.1 66 23 (by decide)
          have q53c_34 : h53c.1 66 41 = h42c.1 66 41 := g53c.1 66 41 (by decide)
          have g35 : 0 ≤ (h53c.1 66 39) ∧ (h53c.1 66 39) ≤ 12 := i53c.1 66 39
          refine mm_aload_n C (mm_dec dk_X12_split 32 rfl) rfl ?_
          refine mm_iload_n C (mm_dec dk_X12_split 33 rfl) rfl ?_
          refine mm_iload_n C (mm_dec dk_X12_split 34 rfl) rfl ?_
          refine mm_cVi (rest := []) C1 ev_X12_472 (mm_dec dk_X12_split 35 rfl) (c_X12_startOf_q x.2.1 hl (d - 1) (by omega) h53c i53c p1 p3 ⟨by omega, by omega⟩) rfl rfl (Nat.le_of_ble_eq_true rfl) ⟨by decide, by decide⟩ rfl (fun r59 h59c hp59 => ?_) (fun _ _ q => q.elim)
          obtain ⟨b59, z59, y59_0⟩ := hp59
          rw [z59]
          have zJ : mm_jY8 h p1 p3 (h53c.2.1 100) (h53c.2.1 98) (h53c.1 66 48) := mm_jY8_fr y53_0 (mm_k2_fr f42c (by decide)) (fun j => f42c.2 80 (by decide) j) (fun j => f42c.2 82 (by decide) j) (fun j => f42c.2 83 (by decide) j) (fun j => f42c.2 84 (by decide) j) (fun j => f42c.2 85 (by decide) j) (fun j => f42c.2 87 (by decide) j) (fun j => f42c.2 94 (by decide) j) (fun j => f42c.2 95 (by decide) j) (f42c.1 66 40 (by decide))
          have zS : mm_sY8 h p1 p3 r59 := mm_sY8_fr y59_0 (mm_k2_fr f53c (by decide)) (fun j => f53c.2 88 (by decide) j) (fun j => f53c.2 89 (by decide) j) (fun j => f53c.2 90 (by decide) j) (fun j => f53c.2 95 (by decide) j) (f53c.1 66 40 (by decide))
          have z95 : ∀ j, h53c.2.1 95 j = h.2.1 95 j := fun j => f53c.2 95 (by decide) j
          refine mm_istoreL (ls2 := [mR 66, mI p1, mI p2, mI p3, mI r59]) C (mm_dec dk_X12_split 36 rfl) (by decide) rfl ?_
          refine mm_iload C (mm_dec dk_X12_split 37 rfl) rfl ?_
          refine mm_iconst C (mm_dec dk_X12_split 38 rfl) ⟨by decide, by decide⟩ ?_
          have J103 : ∀ (s103_0 : Int) (bs103_0 : -2147483648 ≤ s103_0 ∧ s103_0 ≤ 2147483647) (w103_0 : mm_vY8 h p1 p2 p3 s103_0), mm_W x 0 0 103 [mU, mU, mU, mU, mU] [mI s103_0] h53c := by
            intro s103_0 bs103_0 w103_0
            exact mm_iret C T (mm_dec dk_X12_split 60 rfl) (by decide : 0 ≤ 0) (by decide : 0 ≤ 0) ⟨_, rfl, ⟨⟨by omega, by omega⟩, i53c, f53c, by omega, by first | exact fun q => absurd q (by omega) | exact fun _ => w103_0⟩⟩
          have J80 : ∀ (w80_0 : (r59 = -1 ∨ h53c.2.1 100 p2 = -1)), mm_W x 0 0 80 [mU, mU, mU, mU, mU] [] h53c := by
            intro w80_0
            refine mm_iconst C (mm_dec dk_X12_split 46 rfl) ⟨by decide, by decide⟩ ?_
            refine mm_goto (tgt := 103) C (mm_dec dk_X12_split 47 rfl) (by decide) ?_
            exact J103 (-1) ⟨by omega, by omega⟩ (by first | exact ⟨r59, h53c.2.1 100, h53c.2.1 98, h53c.1 66 48, zS, zJ, Or.inl ⟨w80_0, rfl⟩⟩ | exact ⟨r59, h53c.2.1 100, h53c.2.1 98, h53c.1 66 48, zS, zJ, Or.inr ⟨by omega, by omega, by rw [z95]⟩⟩)
          refine mm_icmp_eq (tgt := 80) C (mm_dec dk_X12_split 39 rfl) (by decide) (fun c67 => ?_) (fun c67 => ?_)
          · skip
            refine mm_fgt 0 ?_
            refine mm_fgt 1 ?_
            refine mm_fgt 2 ?_
            refine mm_fgt 3 ?_
            refine mm_fgt 4 ?_
            exact J80 (by omega)
          · skip
            refine mm_aload_n C (mm_dec dk_X12_split 40 rfl) rfl ?_
            refine mm_getr (t := 100) C fl_X12_111 (mm_dec dk_X12_split 41 rfl) rfl rfl (mm_ref i53c rfl) ?_
            refine mm_iload_n C (mm_dec dk_X12_split 42 rfl) rfl ?_
            refine mm_iald C (mm_dec dk_X12_split 43 rfl) rfl (by omega) (by omega) ?_
            have g37 : -1 ≤ (h53c.2.1 100 p2) ∧ (h53c.2.1 100 p2) ≤ 499 := i53c.2.1 100 p2
            refine mm_iconst C (mm_dec dk_X12_split 44 rfl) ⟨by decide, by decide⟩ ?_
            refine mm_icmp_ne (tgt := 84) C (mm_dec dk_X12_split 45 rfl) (by decide) (fun c77 => ?_) (fun c77 => ?_)
            · skip
              refine mm_aload_n C (mm_dec dk_X12_split 48 rfl) rfl ?_
              refine mm_getr (t := 95) C fl_X12_96 (mm_dec dk_X12_split 49 rfl) rfl rfl (mm_ref i53c rfl) ?_
              refine mm_aload_n C (mm_dec dk_X12_split 50 rfl) rfl ?_
              refine mm_getr (t := 98) C fl_X12_105 (mm_dec dk_X12_split 51 rfl) rfl rfl (mm_ref i53c rfl) ?_
              refine mm_aload_n C (mm_dec dk_X12_split 52 rfl) rfl ?_
              refine mm_getr (t := 100) C fl_X12_111 (mm_dec dk_X12_split 53 rfl) rfl rfl (mm_ref i53c rfl) ?_
              refine mm_iload_n C (mm_dec dk_X12_split 54 rfl) rfl ?_
              refine mm_iald C (mm_dec dk_X12_split 55 rfl) rfl (by omega) (by omega) ?_
              refine mm_iald C (mm_dec dk_X12_split 56 rfl) rfl (by omega) (by omega) ?_
              have g38 : 0 ≤ (h53c.2.1 98 (h53c.2.1 100 p2)) ∧ (h53c.2.1 98 (h53c.2.1 100 p2)) ≤ 499 := i53c.2.1 98 (h53c.2.1 100 p2)
              refine mm_iald C (mm_dec dk_X12_split 57 rfl) rfl (by omega) (by omega) ?_
              have g39 : -2147483648 ≤ (h53c.2.1 95 (h53c.2.1 98 (h53c.2.1 100 p2))) ∧ (h53c.2.1 95 (h53c.2.1 98 (h53c.2.1 100 p2))) ≤ 2147483647 := i53c.2.1 95 (h53c.2.1 98 (h53c.2.1 100 p2))
              refine mm_iload C (mm_dec dk_X12_split 58 rfl) rfl ?_
              refine mm_isubw C (mm_dec dk_X12_split 59 rfl) ?_
              have g40 : -2147483648 ≤ (mm_w ((h53c.2.1 95 (h53c.2.1 98 (h53c.2.1 100 p2))) - r59)) ∧ (mm_w ((h53c.2.1 95 (h53c.2.1 98 (h53c.2.1 100 p2))) - r59)) < 2147483648 := mm_w_rg _
              refine mm_fgt 0 ?_
              refine mm_fgt 1 ?_
              refine mm_fgt 2 ?_
              refine mm_fgt 3 ?_
              refine mm_fgt 4 ?_
              exact J103 (mm_w ((h53c.2.1 95 (h53c.2.1 98 (h53c.2.1 100 p2))) - r59)) ⟨by omega, by omega⟩ (by first | exact ⟨r59, h53c.2.1 100, h53c.2.1 98, h53c.1 66 48, zS, zJ, Or.inl ⟨w80_0, rfl⟩⟩ | exact ⟨r59, h53c.2.1 100, h53c.2.1 98, h53c.1 66 48, zS, zJ, Or.inr ⟨by omega, by omega, by rw [z95]⟩⟩)
            · skip
              refine mm_fgt 0 ?_
              refine mm_fgt 1 ?_
              refine mm_fgt 2 ?_
              refine mm_fgt 3 ?_
              refine mm_fgt 4 ?_
              exact J80 (by omega)
        · skip
          refine mm_fgt 0 ?_
          refine mm_fgt 1 ?_
          refine mm_fgt 2 ?_
          refine mm_fgt 3 ?_
          exact J48 h42c i42c f42c (by omega)
    have J32 : ∀ (w32_0 : (p2 < 0 ∨ h.2.1 80 (h.2.1 85 p1) ≤ p2)), mm_W x 0 0 32 [mR 66, mI p1, mI p2, mI p3, mU] [mR 66] h12c := by
      intro w32_0
      refine mm_iconst C (mm_dec dk_X12_split 18 rfl) ⟨by decide, by decide⟩ ?_
      exact J33 0 ⟨by omega, by omega⟩ (by omega) (Or.inl rfl)
    refine mm_if_lt (tgt := 32) C (mm_dec dk_X12_split 11 rfl) (by decide) (fun c17 => ?_) (fun c17 => ?_)
    · skip
      exact J32 (by omega)
    · skip
      refine mm_iload_n C (mm_dec dk_X12_split 12 rfl) rfl ?_
      refine mm_aload_n C (mm_dec dk_X12_split 13 rfl) rfl ?_
      refine mm_geti C fl_X12_296 (mm_dec dk_X12_split 14 rfl) rfl rfl (Or.inl rfl) ?_
      refine mm_icmp_ge (tgt := 32) C (mm_dec dk_X12_split 15 rfl) (by decide) (fun c25 => ?_) (fun c25 => ?_)
      · skip
        exact J32 (by omega)
      · skip
        refine mm_iconst C (mm_dec dk_X12_split 16 rfl) ⟨by decide, by decide⟩ ?_
        refine mm_goto (tgt := 33) C (mm_dec dk_X12_split 17 rfl) (by decide) ?_
        exact J33 1 ⟨by omega, by omega⟩ (by omega) (Or.inr (⟨by omega, by omega, rfl⟩))
  · skip
    refine mm_iconst C (mm_dec dk_X12_split 4 rfl) ⟨by decide, by decide⟩ ?_
    exact mm_iret C T (mm_dec dk_X12_split 5 rfl) (by decide : 0 ≤ 0) (by decide : 0 ≤ 0) ⟨_, rfl, ⟨⟨by omega, by omega⟩, i2c, f2c, by omega, by first | exact fun q => absurd q (by omega) | exact fun _ => w103_0⟩⟩
/-! ===== who runs ahead, kept alike ===== -/
def mm_ab8 (h : mH) : Prop := ∀ p, 0 ≤ p → p ≤ h.1 22 8 - 1 → (h.2.1 27 p = -1 ∧ (h.2.1 88 p = -1 ∨ h.2.1 89 p ≤ 0)) ∨ (h.2.1 27 p ≠ -1 ∧ 0 ≤ h.2.1 88 p ∧ h.2.1 88 p < h.1 66 24 ∧ 0 < h.2.1 89 p ∧ h.2.1 89 p ≤ 2 ∧ h.2.1 90 (3 * h.2.1 88 p + h.2.1 89 p - 1) = h.2.1 27 p)
theorem mm_ab8_aa {h : mH} (T : mm_ab8 h) : mm_aa8 h := fun p x y => by
  rcases T p x y with ⟨a, b⟩ | ⟨a, b, c, d, e, f⟩
  · exact Or.inl ⟨a, b⟩
  · exact Or.inr ⟨a, by omega, d, f⟩
theorem mm_ab8_ah {h : mH} (T : mm_ab8 h) : mm_ah h := fun p x y => by
  rcases T p x y with ⟨a, b⟩ | ⟨a, b, c, d, e, f⟩
  · exact ⟨fun _ => b, fun _ => a⟩
  · exact ⟨fun z => absurd z a, fun z => by omega⟩
theorem mm_ab8_sm {h h2 : mH} (T : mm_ab8 h) (e : ∀ j, h2.2.1 27 j = h.2.1 27 j) (e8 : ∀ j, h2.2.1 88 j = h.2.1 88 j) (e9 : ∀ j, h2.2.1 89 j = h.2.1 89 j) (e0 : ∀ j, h2.2.1 90 j = h.2.1 90 j) (n : h2.1 22 8 = h.1 22 8) (t : h2.1 66 24 = h.1 66 24) : mm_ab8 h2 := fun j x y => by
  rw [e, e8, e9, e0, t]; exact T j x (by omega)
theorem mm_ab8_nil {h : mH} (n : h.1 22 8 = 0) : mm_ab8 h := fun c x y => absurd (Int.le_trans x y) (by omega)
theorem mm_ab8_runner {h h1 h2 : mH} {f f' n n' v : Int} (T : mm_ab8 h) (u : mm_up h h1 27 n (-1) f) (e : ∀ j, h2.2.1 27 j = h1.2.1 27 j) (w : mm_up h1 h2 88 n' (-1) f') (e' : ∀ j, h1.2.1 88 j = h.2.1 88 j) (w9 : mm_up h1 h2 89 n' v f') (e9 : ∀ j, h1.2.1 89 j = h.2.1 89 j) (e0 : ∀ j, h2.2.1 90 j = h.2.1 90 j) (t : h2.1 66 24 = h.1 66 24) (hn : n = h.1 22 8) (hn' : n' = h.1 22 8) (hf : f = 1 ↔ f' = 1) (m : (f = 1 ∧ h2.1 22 8 = h.1 22 8 + 1) ∨ (f ≠ 1 ∧ h2.1 22 8 = h.1 22 8)) : mm_ab8 h2 := fun j x y => by
  rw [e, u j, w j, w9 j, e', e9, hn, hn', e0, t]
  by_cases q : j = h.1 22 8 ∧ f = 1
  · rw [if_pos q, if_pos ⟨q.1, hf.mp q.2⟩]; exact Or.inl ⟨rfl, Or.inl rfl⟩
  · rw [if_neg q, if_neg (fun z => q ⟨z.1, hf.mpr z.2⟩), if_neg (fun z => q ⟨z.1, hf.mpr z.2⟩)]
    exact T j x (by omega)
theorem mm_ab8_team {h h1 h2 : mH} {a b c t f f' : Int} (T : mm_ab8 h) (u : mm_ua h h1 a b c f) (e : ∀ j, h2.2.1 27 j = h1.2.1 27 j) (w : mm_u3 h1 h2 88 a b c t f') (e8 : ∀ j, h1.2.1 88 j = h.2.1 88 j) (w9 : mm_ub h1 h2 a b c f') (e9 : ∀ j, h1.2.1 89 j = h.2.1 89 j) (w0 : mm_uc h1 h2 a b c t f') (e0 : ∀ j, h1.2.1 90 j = h.2.1 90 j) (hf : f = 1 ↔ f' = 1) (ht : t = h.1 66 24) (t0 : 0 ≤ t) (hu : (f = 1 ∧ h2.1 66 24 = h.1 66 24 + 1) ∨ (f ≠ 1 ∧ h2.1 66 24 = h.1 66 24)) (g : f = 1 → a ≠ b ∧ b ≠ c ∧ a ≠ c ∧ 0 ≤ a ∧ a < h.1 22 8 ∧ 0 ≤ b ∧ h.2.1 88 a = -1) (m : h2.1 22 8 = h.1 22 8) : mm_ab8 h2 := fun j x y => by
  by_cases q : f = 1
  · obtain ⟨g1, g2, g3, g4, g5, g6, g7⟩ := g q
    have q' := hf.mp q
    have h24 : h2.1 66 24 = t + 1 := by omega
    have R : ∀ i, h2.2.1 90 i = if i = 3 * t + 2 then c else if i = 3 * t + 1 then b else if i = 3 * t then a else h.2.1 90 i := fun i => by
      rw [w0 i, e0]; simp [q']
    by_cases z1 : j = c
    · have E27 : h2.2.1 27 j = b := by rw [e, u j, if_pos ⟨q, z1⟩]
      have E88 : h2.2.1 88 j = t := by rw [w j, if_pos ⟨Or.inr (Or.inr z1), q'⟩]
      have E89 : h2.2.1 89 j = 2 := by rw [w9 j, if_pos ⟨q', z1⟩]
      refine Or.inr ⟨by omega, by omega, by omega, by omega, by omega, ?_⟩
      rw [E27, E88, E89, R, if_neg (by omega), if_pos (by omega)]
    · by_cases z2 : j = b
      · have E27 : h2.2.1 27 j = a := by rw [e, u j, if_neg (fun z => z1 z.2), if_pos ⟨q, z2⟩]
        have E88 : h2.2.1 88 j = t := by rw [w j, if_pos ⟨Or.inr (Or.inl z2), q'⟩]
        have E89 : h2.2.1 89 j = 1 := by rw [w9 j, if_neg (fun z => z1 z.2), if_pos ⟨q', z2⟩]
        refine Or.inr ⟨by omega, by omega, by omega, by omega, by omega, ?_⟩
        rw [E27, E88, E89, R, if_neg (by omega), if_neg (by omega), if_pos (by omega)]
      · have E27 : h2.2.1 27 j = h.2.1 27 j := by rw [e, u j, if_neg (fun z => z1 z.2), if_neg (fun z => z2 z.2)]
        by_cases z3 : j = a
        · have E89 : h2.2.1 89 j = 0 := by rw [w9 j, if_neg (fun z => z1 z.2), if_neg (fun z => z2 z.2), if_pos ⟨q', z3⟩]
          have o := T a g4 (by omega)
          rw [← z3] at o g7
          refine Or.inl ⟨?_, Or.inr (by omega)⟩
          rw [E27]
          rcases o with ⟨o, _⟩ | ⟨_, o, _⟩
          · exact o
          · omega
        · have E88 : h2.2.1 88 j = h.2.1 88 j := by rw [w j, if_neg (fun z => z.1.elim z3 (fun z => z.elim z2 z1)), e8]
          have E89 : h2.2.1 89 j = h.2.1 89 j := by rw [w9 j, if_neg (fun z => z1 z.2), if_neg (fun z => z2 z.2), if_neg (fun z => z3 z.2), e9]
          rcases T j x (by omega) with ⟨o1, o2⟩ | ⟨o1, o2, o3, o4, o5, o6⟩
          · exact Or.inl ⟨by omega, by omega⟩
          · refine Or.inr ⟨by omega, by omega, by omega, by omega, by omega, ?_⟩
            rw [E27, E88, E89, R, if_neg (by omega), if_neg (by omega), if_neg (by omega)]
            exact o6
  · have q' : f' ≠ 1 := fun z => q (hf.mpr z)
    have E27 : h2.2.1 27 j = h.2.1 27 j := by rw [e, u j, if_neg (fun z => q z.1), if_neg (fun z => q z.1)]
    have E88 : h2.2.1 88 j = h.2.1 88 j := by rw [w j, if_neg (fun z => q' z.2), e8]
    have E89 : h2.2.1 89 j = h.2.1 89 j := by rw [w9 j, if_neg (fun z => q' z.1), if_neg (fun z => q' z.1), if_neg (fun z => q' z.1), e9]
    have E90 : ∀ i, h2.2.1 90 i = h.2.1 90 i := fun i => by rw [w0 i, if_neg (fun z => q' z.1), if_neg (fun z => q' z.1), if_neg (fun z => q' z.1), e0]
    rw [E27, E88, E89, E90, show h2.1 66 24 = h.1 66 24 by omega]
    exact T j x (by omega)
/-! ===== split, for the law ===== -/
theorem mm_vY8_fr {h a : mH} {p q k r : Int} (X : mm_vY8 a p q k r) (e : mm_k2 a = mm_k2 h) (e80 : ∀ j, a.2.1 80 j = h.2.1 80 j) (e82 : ∀ j, a.2.1 82 j = h.2.1 82 j) (e83 : ∀ j, a.2.1 83 j = h.2.1 83 j) (e84 : ∀ j, a.2.1 84 j = h.2.1 84 j) (e85 : ∀ j, a.2.1 85 j = h.2.1 85 j) (e87 : ∀ j, a.2.1 87 j = h.2.1 87 j) (e88 : ∀ j, a.2.1 88 j = h.2.1 88 j) (e89 : ∀ j, a.2.1 89 j = h.2.1 89 j) (e90 : ∀ j, a.2.1 90 j = h.2.1 90 j) (e94 : ∀ j, a.2.1 94 j = h.2.1 94 j) (e95 : ∀ j, a.2.1 95 j = h.2.1 95 j) (n : a.1 66 40 = h.1 66 40) : mm_vY8 h p q k r := by
  obtain ⟨s, K, Q, m, x, y, z⟩ := X
  exact ⟨s, K, Q, m, mm_sY8_fr x e e88 e89 e90 e95 n, mm_jY8_fr y e e80 e82 e83 e84 e85 e87 e94 e95 n, by rw [← e95]; exact z⟩
theorem mm_split_law {h : mH} {p q k r r' : Int} (R : mm_RW h) (A8 : mm_ab8 h) (a : mm_eq h 31 92 (h.1 30 6 - 1)) (b : mm_eq h 32 93 (h.1 30 6 - 1)) (d : mm_eq h 35 96 (h.1 30 6 - 1)) (g : mm_eq h 36 97 (h.1 30 6 - 1)) (eA : mm_eq h 34 95 (h.1 30 6 - 1)) (eU : mm_ep8 h) (e17 : mm_eq h 17 83 (h.1 14 8 - 1)) (p0 : 0 ≤ p ∧ p < h.1 22 8) (q0 : 0 ≤ q ∧ q < mm_nX h p) (hev : h.1 66 40 = h.1 30 6) (X : mm_vX8 h p q k r) (Y : mm_vY8 h p q k r') : r = r' := by
  have c := mm_RW_c R p0.1 p0.2
  have n0 : 0 ≤ h.1 30 6 := (R.1.1 30 6).1
  refine (mm_split_eq X Y (mm_ab8_aa A8) p0 q0 hev n0 (fun e x y => (eA e x (by omega)).symm) (fun e x y z => (eU e x (by omega) z).symm) (fun kd r e x y => mm_kk a b d g rfl rfl x y) c.2.2.2.2.1 (fun j x y => (mm_RW_r R p0.1 p0.2 j x y).1.symm) ?_).symm
  rw [e17 (h.2.1 23 p) c.2.2.1 c.2.2.2.1, c.1]

