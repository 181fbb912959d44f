set_option maxRecDepth 100000 in
set_option maxHeartbeats 4000000 in
theorem c_X11_needCourse_q (l : Launch) (hl : l.stackTraces = false) (d : Nat) (hd : 8 ≤ d) (h : mH) (i0 : mm_inv h) (p1 : Int) : mm_Met l d yX11_needCourse cX11_needCourse 2 none [mR 0, mI p1] h (mm_pv fun h2 => h2 = h ∧ 0 ≤ p1 ∧ p1 < (h.1 14 8)) (fun E h' => mm_xn h E h' ∧ (p1 < 0 ∨ h.1 14 8 ≤ p1)) 1 6 := by
  refine mm_ofW (ls := [mR 0, mI p1]) hl (by decide) rfl (Nat.le_of_ble_eq_true rfl) ?_
  intro x hxl C T hnm htb
  subst hxl
  have C1 := mm_OK_le (d' := d - 1 + 1) (by omega) C
  have C8 := mm_OK_le (d' := d - 8 + 8) (by omega) C
  refine mm_rng (fun hr _ => ?_)
  have ap1 : -2147483648 ≤ p1 ∧ p1 < 2147483648 := mm_ok_at hr (i := 1) rfl
  have f0 : mm_fr [] [] h h := mm_fr_rf
  have g1 : 0 ≤ h.1 14 8 ∧ h.1 14 8 ≤ 8 := i0.1 14 8
  refine mm_iload_n C (mm_dec dk_X11_needCourse 0 rfl) rfl ?_
  refine mm_if_lt (tgt := 15) C (mm_dec dk_X11_needCourse 1 rfl) (by decide) (fun c1 => ?_) (fun c1 => ?_)
  · skip
    exact mm_throwXW C8 T htb th_nse (i := 4) rfl (mm_dec dk_X11_needCourse 7 rfl) (mm_dec dk_X11_needCourse 8 rfl) (mm_dec dk_X11_needCourse 9 rfl) (mm_dec dk_X11_needCourse 10 rfl) (mm_dec dk_X11_needCourse 11 rfl) (Nat.le_of_ble_eq_true rfl) ⟨by decide, by decide⟩ ⟨by decide, by decide⟩ (⟨⟨rfl, rfl⟩, by omega⟩)
  · skip
    refine mm_iload_n C (mm_dec dk_X11_needCourse 2 rfl) rfl ?_
    refine mm_aload_n C (mm_dec dk_X11_needCourse 3 rfl) rfl ?_
    refine mm_getr (t := 14) C fl_X11_28 (mm_dec dk_X11_needCourse 4 rfl) rfl rfl (mm_ref i0 rfl) ?_
    refine mm_cVi (rest := [mI p1]) C1 ev_X11_200 (mm_dec dk_X11_needCourse 5 rfl) (c_X2_size x.2.1 hl (d - 1) (by omega) h i0 ) rfl rfl (Nat.le_of_ble_eq_true rfl) ⟨by decide, by decide⟩ rfl (fun r9 h9c hp9 => ?_) (fun _ _ q => q.elim)
    obtain ⟨z9, y9⟩ := hp9
    rw [z9, y9]
    refine mm_icmp_lt (tgt := 26) C (mm_dec dk_X11_needCourse 6 rfl) (by decide) (fun c12 => ?_) (fun c12 => ?_)
    · skip
      exact mm_vret C T (mm_dec dk_X11_needCourse 12 rfl) (by decide : 0 ≤ 1) (by decide : 0 ≤ 6) ⟨rfl, ⟨rfl, by omega, by omega⟩⟩
    · skip
      exact mm_throwXW C8 T htb th_nse (i := 4) rfl (mm_dec dk_X11_needCourse 7 rfl) (mm_dec dk_X11_needCourse 8 rfl) (mm_dec dk_X11_needCourse 9 rfl) (mm_dec dk_X11_needCourse 10 rfl) (mm_dec dk_X11_needCourse 11 rfl) (Nat.le_of_ble_eq_true rfl) ⟨by decide, by decide⟩ ⟨by decide, by decide⟩ (⟨⟨rfl, rfl⟩, by omega⟩)
set_option maxRecDepth 100000 in
set_option maxHeartbeats 4000000 in
theorem c_X11_runner_q (l : Launch) (hl : l.stackTraces = false) (d : Nat) (hd : 9 ≤ d) (h : mH) (i0 : mm_inv h) (p1 : Int) (p2 : Int) (p3 : Int) : mm_Met l d yX11_runner cX11_runner 4 (some .int) [mR 0, mI p1, mI p2, mI p3] h (mm_pi fun r h2 => (-1 ≤ r ∧ r ≤ 39) ∧ mm_inv h2 ∧ mm_fr [(22, 8)] [18, 23, 24, 25, 26, 27, 28] h h2 ∧ (0 ≤ p1 ∧ p1 < h.1 14 8) ∧ (((h.1 22 8 ≤ 39 ∧ 0 ≤ p2 ∧ p2 ≤ 9 ∧ 0 ≤ p3 ∧ p3 ≤ 80) ∧ r = h.1 22 8 ∧ h2.1 22 8 = h.1 22 8 + 1) ∨ ((40 ≤ h.1 22 8 ∨ p2 < 0 ∨ 9 < p2 ∨ p3 < 0 ∨ 80 < p3) ∧ r = -1 ∧ h2.1 22 8 = h.1 22 8)) ∧ (∃ f : Int, ((f = 1 ∧ h2.1 22 8 = h.1 22 8 + 1) ∨ (f = 0 ∧ h2.1 22 8 = h.1 22 8)) ∧ mm_up h h2 18 p1 1 f ∧ mm_up h h2 23 (h.1 22 8) p1 f ∧ mm_up h h2 25 (h.1 22 8) p3 f ∧ mm_up h h2 28 (h.1 22 8) 0 f ∧ mm_up h h2 24 (h.1 22 8) p2 f ∧ mm_up h h2 27 (h.1 22 8) (-1) f)) (fun E h' => mm_xn h E h' ∧ (p1 < 0 ∨ h.1 14 8 ≤ p1)) 1 6 := by
  refine mm_ofW (ls := [mR 0, mI p1, mI p2, mI p3]) hl (by decide) rfl (Nat.le_of_ble_eq_true rfl) ?_
  intro x hxl C T hnm htb
  subst hxl
  have C1 := mm_OK_le (d' := d - 1 + 1) (by omega) C
  have C8 := mm_OK_le (d' := d - 8 + 8) (by omega) C
  refine mm_rng (fun hr _ => ?_)
  have ap1 : -2147483648 ≤ p1 ∧ p1 < 2147483648 := mm_ok_at hr (i := 1) rfl
  have ap2 : -2147483648 ≤ p2 ∧ p2 < 2147483648 := mm_ok_at hr (i := 2) rfl
  have ap3 : -2147483648 ≤ p3 ∧ p3 < 2147483648 := mm_ok_at hr (i := 3) rfl
  have f0 : mm_fr [(22, 8)] [18, 23, 24, 25, 26, 27, 28] h h := mm_fr_rf
  have g1 : 0 ≤ h.1 14 8 ∧ h.1 14 8 ≤ 8 := i0.1 14 8
  have g2 : 0 ≤ h.1 22 8 ∧ h.1 22 8 ≤ 40 := i0.1 22 8
  refine mm_aload_n C (mm_dec dk_X11_runner 0 rfl) rfl ?_
  refine mm_iload_n C (mm_dec dk_X11_runner 1 rfl) rfl ?_
  refine mm_cVv (rest := []) C1 ev_X11_207 (mm_dec dk_X11_runner 2 rfl) (c_X11_needCourse_q x.2.1 hl (d - 1) (by omega) h i0 p1) rfl rfl (Nat.le_of_ble_eq_true rfl) ⟨by decide, by decide⟩ rfl (fun h2c hp2 => ?_) (fun E hx q => mm_out C T htb (by decide) (by decide) (by obtain ⟨q1, q2⟩ := q; exact ⟨q1, by omega⟩))
  obtain ⟨z2, k2_0, k2_1⟩ := hp2
  rw [z2]
  refine mm_aload_n C (mm_dec dk_X11_runner 3 rfl) rfl ?_
  refine mm_getr (t := 22) C fl_X11_37 (mm_dec dk_X11_runner 4 rfl) rfl rfl (mm_ref i0 rfl) ?_
  refine mm_cVi (rest := []) C1 ev_X11_230 (mm_dec dk_X11_runner 5 rfl) (c_X9_size x.2.1 hl (d - 1) (by omega) h i0 ) rfl rfl (Nat.le_of_ble_eq_true rfl) ⟨by decide, by decide⟩ rfl (fun r9 h9c hp9 => ?_) (fun _ _ q => q.elim)
  obtain ⟨z9, y9⟩ := hp9
  rw [z9, y9]
  refine mm_bipush C (mm_dec dk_X11_runner 6 rfl) ⟨by decide, by decide⟩ ?_
  have J37 : ∀ (w37_0 : (40 ≤ h.1 22 8 ∨ p2 < 0 ∨ 9 < p2 ∨ p3 < 0 ∨ 80 < p3)), mm_W x 1 6 37 [mU, mU, mU, mU] [] h := by
    intro w37_0
    have g5 : 0 ≤ h.1 14 8 ∧ h.1 14 8 ≤ 8 := i0.1 14 8
    have g6 : 0 ≤ h.1 22 8 ∧ h.1 22 8 ≤ 40 := i0.1 22 8
    refine mm_iconst C (mm_dec dk_X11_runner 18 rfl) ⟨by decide, by decide⟩ ?_
    exact mm_iret C T (mm_dec dk_X11_runner 19 rfl) (by decide : 1 ≤ 1) (by decide : 6 ≤ 6) ⟨_, rfl, ⟨⟨by omega, by omega⟩, i0, f0, by omega, by omega, by first | exact ⟨0, Or.inr ⟨rfl, rfl⟩, mm_up_no (by decide) (fun _ => rfl), mm_up_no (by decide) (fun _ => rfl), mm_up_no (by decide) (fun _ => rfl), mm_up_no (by decide) (fun _ => rfl), mm_up_no (by decide) (fun _ => rfl), mm_up_no (by decide) (fun _ => rfl)⟩ | exact ⟨1, Or.inl ⟨rfl, by omega⟩, y46_2, y46_3, y46_4, y46_5, y46_6, y46_7⟩⟩⟩
  refine mm_icmp_ge (tgt := 37) C (mm_dec dk_X11_runner 7 rfl) (by decide) (fun c14 => ?_) (fun c14 => ?_)
  · skip
    refine mm_fgt 0 ?_
    refine mm_fgt 1 ?_
    refine mm_fgt 2 ?_
    refine mm_fgt 3 ?_
    exact J37 (by omega)
  · skip
    refine mm_iload_n C (mm_dec dk_X11_runner 8 rfl) rfl ?_
    refine mm_iconst C (mm_dec dk_X11_runner 9 rfl) ⟨by decide, by decide⟩ ?_
    refine mm_bipush C (mm_dec dk_X11_runner 10 rfl) ⟨by decide, by decide⟩ ?_
    refine mm_cSi (rest := []) C1 es_X11_130 (mm_dec dk_X11_runner 11 rfl) (c_X11_within x.2.1 hl (d - 1) (by omega) h i0 p2 0 9) rfl (Nat.le_of_ble_eq_true rfl) ⟨by decide, by decide⟩ rfl (fun r21 h21c hp21 => ?_) (fun _ _ q => q.elim)
    obtain ⟨z21, y21⟩ := hp21
    rw [z21]
    refine mm_if_eq (tgt := 37) C (mm_dec dk_X11_runner 12 rfl) (by decide) (fun c24 => ?_) (fun c24 => ?_)
    · skip
      refine mm_fgt 0 ?_
      refine mm_fgt 1 ?_
      refine mm_fgt 2 ?_
      refine mm_fgt 3 ?_
      exact J37 (by omega)
    · skip
      refine mm_iload_n C (mm_dec dk_X11_runner 13 rfl) rfl ?_
      refine mm_iconst C (mm_dec dk_X11_runner 14 rfl) ⟨by decide, by decide⟩ ?_
      refine mm_bipush C (mm_dec dk_X11_runner 15 rfl) ⟨by decide, by decide⟩ ?_
      refine mm_cSi (rest := []) C1 es_X11_130 (mm_dec dk_X11_runner 16 rfl) (c_X11_within x.2.1 hl (d - 1) (by omega) h i0 p3 0 80) rfl (Nat.le_of_ble_eq_true rfl) ⟨by decide, by decide⟩ rfl (fun r31 h31c hp31 => ?_) (fun _ _ q => q.elim)
      obtain ⟨z31, y31⟩ := hp31
      rw [z31]
      refine mm_if_ne (tgt := 39) C (mm_dec dk_X11_runner 17 rfl) (by decide) (fun c34 => ?_) (fun c34 => ?_)
      · skip
        refine mm_aload_n C (mm_dec dk_X11_runner 20 rfl) rfl ?_
        refine mm_getr (t := 22) C fl_X11_37 (mm_dec dk_X11_runner 21 rfl) rfl rfl (mm_ref i0 rfl) ?_
        refine mm_iload_n C (mm_dec dk_X11_runner 22 rfl) rfl ?_
        refine mm_iload_n C (mm_dec dk_X11_runner 23 rfl) rfl ?_
        refine mm_iload_n C (mm_dec dk_X11_runner 24 rfl) rfl ?_
        refine mm_cVi (rest := []) C1 ev_X11_231 (mm_dec dk_X11_runner 25 rfl) (c_X9_enter_q x.2.1 hl (d - 1) (by omega) h i0 p1 p2 p3 ⟨by omega, by omega⟩ ⟨by omega, by omega⟩ ⟨by omega, by omega⟩ (by omega)) rfl rfl (Nat.le_of_ble_eq_true rfl) ⟨by decide, by decide⟩ rfl (fun r46 h46c hp46 => ?_) (fun _ _ q => q.elim)
        obtain ⟨b46, i46c, g46c, y46_0, y46_1, y46_2, y46_3, y46_4, y46_5, y46_6, y46_7⟩ := hp46
        have f46c : mm_fr [(22, 8)] [18, 23, 24, 25, 26, 27, 28] h h46c := mm_fr_tr f0 g46c (by decide +kernel)
        have q46c_10 : h46c.1 14 8 = h.1 14 8 := g46c.1 14 8 (by decide)
        have g11 : 0 ≤ (h46c.1 22 8) ∧ (h46c.1 22 8) ≤ 40 := i46c.1 22 8
        exact mm_iret C T (mm_dec dk_X11_runner 26 rfl) (by decide : 1 ≤ 1) (by decide : 6 ≤ 6) ⟨_, rfl, ⟨⟨by omega, by omega⟩, i46c, f46c, by omega, by omega, by first | exact ⟨0, Or.inr ⟨rfl, rfl⟩, mm_up_no (by decide) (fun _ => rfl), mm_up_no (by decide) (fun _ => rfl), mm_up_no (by decide) (fun _ => rfl), mm_up_no (by decide) (fun _ => rfl), mm_up_no (by decide) (fun _ => rfl), mm_up_no (by decide) (fun _ => rfl)⟩ | exact ⟨1, Or.inl ⟨rfl, by omega⟩, y46_2, y46_3, y46_4, y46_5, y46_6, y46_7⟩⟩⟩
      · skip
        refine mm_fgt 0 ?_
        refine mm_fgt 1 ?_
        refine mm_fgt 2 ?_
        refine mm_fgt 3 ?_
        exact J37 (by omega)
set_option maxRecDepth 100000 in
set_option maxHeartbeats 4000000 in
theorem c_X12_isCourse_q (l : Launch) (hl : l.stackTraces = false) (d : Nat) (hd : 1 ≤ d) (h : mH) (i0 : mm_inv h) (p1 : Int) : mm_Met l d yX12_isCourse cX12_isCourse 2 (some .boolean) [mR 66, mI p1] h (mm_pi fun r h2 => (0 ≤ r ∧ r ≤ 1) ∧ mm_inv h2 ∧ mm_fr [(66, 0)] [] h h2 ∧ ((0 ≤ p1 ∧ p1 < h.1 66 22 ∧ r = 1 ∧ h2.1 66 0 = 0) ∨ ((p1 < 0 ∨ h.1 66 22 ≤ p1) ∧ r = 0 ∧ h2.1 66 0 = 1)) ∧ (r = 0 ∨ (0 ≤ p1 ∧ p1 < (h2.1 66 22)))) mm_nx 0 0 := by
  refine mm_ofW (ls := [mR 66, mI p1]) hl (by decide) rfl (Nat.le_of_ble_eq_true rfl) ?_
  intro x hxl C T hnm htb
  subst hxl
  have C1 := mm_OK_le (d' := d - 1 + 1) (by omega) C
  refine mm_rng (fun hr _ => ?_)
  have ap1 : -2147483648 ≤ p1 ∧ p1 < 2147483648 := mm_ok_at hr (i := 1) rfl
  have f0 : mm_fr [(66, 0)] [] h h := mm_fr_rf
  have g1 : -2147483648 ≤ h.1 66 0 ∧ h.1 66 0 ≤ 2147483647 := i0.1 66 0
  have g2 : 0 ≤ h.1 66 22 ∧ h.1 66 22 ≤ 8 := i0.1 66 22
  refine mm_aload_n C (mm_dec dk_X12_isCourse 0 rfl) rfl ?_
  refine mm_iconst C (mm_dec dk_X12_isCourse 1 rfl) ⟨by decide, by decide⟩ ?_
  refine mm_puti C fl_X12_188 (mm_dec dk_X12_isCourse 2 rfl) rfl rfl rfl (Or.inl ⟨rfl, rfl⟩) ?_
  have i1 : mm_inv (mm_pf h 66 0 0) := mm_inv_pf i0 (show -2147483648 ≤ 0 ∧ 0 ≤ 2147483647 from ⟨by omega, by omega⟩) (by decide)
  have f1 : mm_fr [(66, 0)] [] h (mm_pf h 66 0 0) := mm_fr_pf f0 (by decide)
  obtain ⟨h1, eh1⟩ : ∃ z, z = mm_pf h 66 0 0 := ⟨_, rfl⟩
  rw [← eh1] at i1 f1 ⊢
  have qh1 : h1.1 66 0 = 0 := by rw [eh1]; exact mm_pf_same _ _ _ _
  have qh1_3 : h1.1 66 22 = h.1 66 22 := by rw [eh1]; exact mm_pf_ne _ _ (by decide)
  refine mm_aload_n C (mm_dec dk_X12_isCourse 3 rfl) rfl ?_
  refine mm_iload_n C (mm_dec dk_X12_isCourse 4 rfl) rfl ?_
  refine mm_if_lt (tgt := 22) C (mm_dec dk_X12_isCourse 5 rfl) (by decide) (fun c7 => ?_) (fun c7 => ?_)
  · skip
    refine mm_iconst C (mm_dec dk_X12_isCourse 12 rfl) ⟨by decide, by decide⟩ ?_
    refine mm_iconst C (mm_dec dk_X12_isCourse 13 rfl) ⟨by decide, by decide⟩ ?_
    refine mm_cVi (rest := []) C1 ev_X12_251 (mm_dec dk_X12_isCourse 14 rfl) (c_X12_right_q x.2.1 hl (d - 1) (by omega) h1 i1 0 1 ⟨by omega, by omega⟩ (by omega)) rfl rfl (Nat.le_of_ble_eq_true rfl) ⟨by decide, by decide⟩ rfl (fun r24 h24c hp24 => ?_) (fun _ _ q => q.elim)
    obtain ⟨b24, i24c, g24c, y24_0⟩ := hp24
    have f24c : mm_fr [(66, 0)] [] h h24c := mm_fr_tr f1 g24c (by decide +kernel)
    have q24c_5 : h24c.1 66 22 = h1.1 66 22 := g24c.1 66 22 (by decide)
    have g6 : -2147483648 ≤ (h24c.1 66 0) ∧ (h24c.1 66 0) ≤ 2147483647 := i24c.1 66 0
    exact mm_zret C T (mm_dec dk_X12_isCourse 15 rfl) (by decide : 0 ≤ 0) (by decide : 0 ≤ 0) (by omega) ⟨_, rfl, ⟨⟨by omega, by omega⟩, i24c, f24c, by omega, by omega⟩⟩
  · skip
    refine mm_iload_n C (mm_dec dk_X12_isCourse 6 rfl) rfl ?_
    refine mm_aload_n C (mm_dec dk_X12_isCourse 7 rfl) rfl ?_
    refine mm_geti C fl_X12_219 (mm_dec dk_X12_isCourse 8 rfl) rfl rfl (Or.inl rfl) ?_
    refine mm_icmp_ge (tgt := 22) C (mm_dec dk_X12_isCourse 9 rfl) (by decide) (fun c15 => ?_) (fun c15 => ?_)
    · skip
      refine mm_iconst C (mm_dec dk_X12_isCourse 12 rfl) ⟨by decide, by decide⟩ ?_
      refine mm_iconst C (mm_dec dk_X12_isCourse 13 rfl) ⟨by decide, by decide⟩ ?_
      refine mm_cVi (rest := []) C1 ev_X12_251 (mm_dec dk_X12_isCourse 14 rfl) (c_X12_right_q x.2.1 hl (d - 1) (by omega) h1 i1 0 1 ⟨by omega, by omega⟩ (by omega)) rfl rfl (Nat.le_of_ble_eq_true rfl) ⟨by decide, by decide⟩ rfl (fun r24 h24c hp24 => ?_) (fun _ _ q => q.elim)
      obtain ⟨b24, i24c, g24c, y24_0⟩ := hp24
      have f24c : mm_fr [(66, 0)] [] h h24c := mm_fr_tr f1 g24c (by decide +kernel)
      have q24c_8 : h24c.1 66 22 = h1.1 66 22 := g24c.1 66 22 (by decide)
      have g9 : -2147483648 ≤ (h24c.1 66 0) ∧ (h24c.1 66 0) ≤ 2147483647 := i24c.1 66 0
      exact mm_zret C T (mm_dec dk_X12_isCourse 15 rfl) (by decide : 0 ≤ 0) (by decide : 0 ≤ 0) (by omega) ⟨_, rfl, ⟨⟨by omega, by omega⟩, i24c, f24c, by omega, by omega⟩⟩
    · skip
      refine mm_iconst C (mm_dec dk_X12_isCourse 10 rfl) ⟨by decide, by decide⟩ ?_
      refine mm_goto (tgt := 23) C (mm_dec dk_X12_isCourse 11 rfl) (by decide) ?_
      refine mm_iconst C (mm_dec dk_X12_isCourse 13 rfl) ⟨by decide, by decide⟩ ?_
      refine mm_cVi (rest := []) C1 ev_X12_251 (mm_dec dk_X12_isCourse 14 rfl) (c_X12_right_q x.2.1 hl (d - 1) (by omega) h1 i1 1 1 ⟨by omega, by omega⟩ (by omega)) rfl rfl (Nat.le_of_ble_eq_true rfl) ⟨by decide, by decide⟩ rfl (fun r24 h24c hp24 => ?_) (fun _ _ q => q.elim)
      obtain ⟨b24, i24c, g24c, y24_0⟩ := hp24
      have f24c : mm_fr [(66, 0)] [] h h24c := mm_fr_tr f1 g24c (by decide +kernel)
      have q24c_11 : h24c.1 66 22 = h1.1 66 22 := g24c.1 66 22 (by decide)
      have g12 : -2147483648 ≤ (h24c.1 66 0) ∧ (h24c.1 66 0) ≤ 2147483647 := i24c.1 66 0
      exact mm_zret C T (mm_dec dk_X12_isCourse 15 rfl) (by decide : 0 ≤ 0) (by decide : 0 ≤ 0) (by omega) ⟨_, rfl, ⟨⟨by omega, by omega⟩, i24c, f24c, by omega, by omega⟩⟩
set_option maxRecDepth 100000 in
set_option maxHeartbeats 4000000 in
theorem c_X12_runner_q (l : Launch) (hl : l.stackTraces = false) (d : Nat) (hd : 2 ≤ d) (h : mH) (i0 : mm_inv h) (p1 : Int) (p2 : Int) (p3 : Int) : mm_Met l d yX12_runner cX12_runner 4 (some .int) [mR 66, mI p1, mI p2, mI p3] h (mm_pi fun r h2 => (-1 ≤ r ∧ r ≤ 39) ∧ mm_inv h2 ∧ mm_fr [(66, 0), (66, 23)] [85, 86, 87, 88, 89, 122] h h2 ∧ ((0 ≤ p1 ∧ p1 < h.1 66 22 ∧ h2.1 66 0 = 0 ∧ (((h.1 66 23 ≤ 39 ∧ 0 ≤ p2 ∧ p2 ≤ 9 ∧ 0 ≤ p3 ∧ p3 ≤ 80) ∧ r = h.1 66 23 ∧ h2.1 66 23 = h.1 66 23 + 1) ∨ ((40 ≤ h.1 66 23 ∨ p2 < 0 ∨ 9 < p2 ∨ p3 < 0 ∨ 80 < p3) ∧ r = -1 ∧ h2.1 66 23 = h.1 66 23))) ∨ ((p1 < 0 ∨ h.1 66 22 ≤ p1) ∧ r = 0 ∧ h2.1 66 0 = 1 ∧ h2.1 66 23 = h.1 66 23)) ∧ (∃ f : Int, ((f = 1 ∧ h2.1 66 23 = h.1 66 23 + 1) ∨ (f = 0 ∧ h2.1 66 23 = h.1 66 23)) ∧ mm_up h h2 85 (h.1 66 23) p1 f ∧ mm_up h h2 87 (h.1 66 23) p3 f ∧ mm_up h h2 88 (h.1 66 23) (-1) f ∧ mm_up h h2 86 (h.1 66 23) p2 f ∧ mm_up h h2 89 (h.1 66 23) 0 f)) mm_nx 0 0 := by
  refine mm_ofW (ls := [mR 66, mI p1, mI p2, mI p3]) hl (by decide) rfl (Nat.le_of_ble_eq_true rfl) ?_
  intro x hxl C T hnm htb
  subst hxl
  have C1 := mm_OK_le (d' := d - 1 + 1) (by omega) C
  refine mm_rng (fun hr _ => ?_)
  have ap1 : -2147483648 ≤ p1 ∧ p1 < 2147483648 := mm_ok_at hr (i := 1) rfl
  have ap2 : -2147483648 ≤ p2 ∧ p2 < 2147483648 := mm_ok_at hr (i := 2) rfl
  have ap3 : -2147483648 ≤ p3 ∧ p3 < 2147483648 := mm_ok_at hr (i := 3) rfl
  have f0 : mm_fr [(66, 0), (66, 23)] [85, 86, 87, 88, 89, 122] h h := mm_fr_rf
  have g1 : -2147483648 ≤ h.1 66 0 ∧ h.1 66 0 ≤ 2147483647 := i0.1 66 0
  have g2 : 0 ≤ h.1 66 22 ∧ h.1 66 22 ≤ 8 := i0.1 66 22
  have g3 : 0 ≤ h.1 66 23 ∧ h.1 66 23 ≤ 40 := i0.1 66 23
  refine mm_aload_n C (mm_dec dk_X12_runner 0 rfl) rfl ?_
  refine mm_iload_n C (mm_dec dk_X12_runner 1 rfl) rfl ?_
  refine mm_cVi (rest := []) C1 ev_X12_288 (mm_dec dk_X12_runner 2 rfl) (c_X12_isCourse_q x.2.1 hl (d - 1) (by omega) h i0 p1) rfl rfl (Nat.le_of_ble_eq_true rfl) ⟨by decide, by decide⟩ rfl (fun r2 h2c hp2 => ?_) (fun _ _ q => q.elim)
  obtain ⟨b2, i2c, g2c, y2_0, y2_1⟩ := hp2
  have f2c : mm_fr [(66, 0), (66, 23)] [85, 86, 87, 88, 89, 122] h h2c := mm_fr_tr f0 g2c (by decide +kernel)
  have q2c_5 : h2c.1 66 22 = h.1 66 22 := g2c.1 66 22 (by decide)
  have q2c_6 : h2c.1 66 23 = h.1 66 23 := g2c.1 66 23 (by decide)
  have g7 : -2147483648 ≤ (h2c.1 66 0) ∧ (h2c.1 66 0) ≤ 2147483647 := i2c.1 66 0
  refine mm_if_ne (tgt := 10) C (mm_dec dk_X12_runner 3 rfl) (by decide) (fun c5 => ?_) (fun c5 => ?_)
  · skip
    refine mm_aload_n C (mm_dec dk_X12_runner 6 rfl) rfl ?_
    refine mm_geti C fl_X12_222 (mm_dec dk_X12_runner 7 rfl) rfl rfl (Or.inl rfl) ?_
    refine mm_bipush C (mm_dec dk_X12_runner 8 rfl) ⟨by decide, by decide⟩ ?_
    have J39 : ∀ (w39_0 : (40 ≤ h.1 66 23 ∨ p2 < 0 ∨ 9 < p2 ∨ p3 < 0 ∨ 80 < p3)), mm_W x 0 0 39 [mU, mU, mU, mU] [] h2c := by
      intro w39_0
      refine mm_iconst C (mm_dec dk_X12_runner 20 rfl) ⟨by decide, by decide⟩ ?_
      exact mm_iret C T (mm_dec dk_X12_runner 21 rfl) (by decide : 0 ≤ 0) (by decide : 0 ≤ 0) ⟨_, rfl, ⟨⟨by omega, by omega⟩, i2c, f2c, by omega, by first | exact ⟨0, Or.inr ⟨rfl, by omega⟩, mm_up_no (by decide) (fun j => g2c.2 85 (by decide) j), mm_up_no (by decide) (fun j => g2c.2 87 (by decide) j), mm_up_no (by decide) (fun j => g2c.2 88 (by decide) j), mm_up_no (by decide) (fun j => g2c.2 86 (by decide) j), mm_up_no (by decide) (fun j => g2c.2 89 (by decide) j)⟩ | exact ⟨1, Or.inl ⟨rfl, by omega⟩, mm_up_pav (fun _ => (g2c.2 85 (by decide) _)) eh2 (fun _ => ((mm_sm_pf 85 eh8 _).trans ((mm_sm_pa 85 eh7 (by decide) _).trans ((mm_sm_pa 85 eh6 (by decide) _).trans ((mm_sm_pa 85 eh5 (by decide) _).trans ((mm_sm_pa 85 eh4 (by decide) _).trans (mm_sm_pa 85 eh3 (by decide) _))))))) (by omega) (by omega) rfl, mm_up_pav (fun _ => ((mm_sm_pa 87 eh3 (by decide) _).trans ((mm_sm_pa 87 eh2 (by decide) _).trans (g2c.2 87 (by decide) _)))) eh4 (fun _ => ((mm_sm_pf 87 eh8 _).trans ((mm_sm_pa 87 eh7 (by decide) _).trans ((mm_sm_pa 87 eh6 (by decide) _).trans (mm_sm_pa 87 eh5 (by decide) _))))) (by omega) (by omega) rfl, mm_up_pav (fun _ => ((mm_sm_pa 88 eh4 (by decide) _).trans ((mm_sm_pa 88 eh3 (by decide) _).trans ((mm_sm_pa 88 eh2 (by decide) _).trans (g2c.2 88 (by decide) _))))) eh5 (fun _ => ((mm_sm_pf 88 eh8 _).trans ((mm_sm_pa 88 eh7 (by decide) _).trans (mm_sm_pa 88 eh6 (by decide) _)))) (by omega) (by omega) rfl, mm_up_pav (fun _ => ((mm_sm_pa 86 eh2 (by decide) _).trans (g2c.2 86 (by decide) _))) eh3 (fun _ => ((mm_sm_pf 86 eh8 _).trans ((mm_sm_pa 86 eh7 (by decide) _).trans ((mm_sm_pa 86 eh6 (by decide) _).trans ((mm_sm_pa 86 eh5 (by decide) _).trans (mm_sm_pa 86 eh4 (by decide) _)))))) (by omega) (by omega) rfl, mm_up_pav (fun _ => ((mm_sm_pa 89 eh5 (by decide) _).trans ((mm_sm_pa 89 eh4 (by decide) _).trans ((mm_sm_pa 89 eh3 (by decide) _).trans ((mm_sm_pa 89 eh2 (by decide) _).trans (g2c.2 89 (by decide) _)))))) eh6 (fun _ => ((mm_sm_pf 89 eh8 _).trans (mm_sm_pa 89 eh7 (by decide) _))) (by omega) (by omega) rfl⟩⟩⟩
    refine mm_icmp_eq (tgt := 39) C (mm_dec dk_X12_runner 9 rfl) (by decide) (fun c16 => ?_) (fun c16 => ?_)
    · skip
      refine mm_fgt 0 ?_
      refine mm_fgt 1 ?_
      refine mm_fgt 2 ?_
      refine mm_fgt 3 ?_
      exact J39 (by omega)
    · skip
      refine mm_iload_n C (mm_dec dk_X12_runner 10 rfl) rfl ?_
      refine mm_if_lt (tgt := 39) C (mm_dec dk_X12_runner 11 rfl) (by decide) (fun c20 => ?_) (fun c20 => ?_)
      · skip
        refine mm_fgt 0 ?_
        refine mm_fgt 1 ?_
        refine mm_fgt 2 ?_
        refine mm_fgt 3 ?_
        exact J39 (by omega)
      · skip
        refine mm_iload_n C (mm_dec dk_X12_runner 12 rfl) rfl ?_
        refine mm_bipush C (mm_dec dk_X12_runner 13 rfl) ⟨by decide, by decide⟩ ?_
        refine mm_icmp_gt (tgt := 39) C (mm_dec dk_X12_runner 14 rfl) (by decide) (fun c26 => ?_) (fun c26 => ?_)
        · skip
          refine mm_fgt 0 ?_
          refine mm_fgt 1 ?_
          refine mm_fgt 2 ?_
          refine mm_fgt 3 ?_
          exact J39 (by omega)
        · skip
          refine mm_iload_n C (mm_dec dk_X12_runner 15 rfl) rfl ?_
          refine mm_if_lt (tgt := 39) C (mm_dec dk_X12_runner 16 rfl) (by decide) (fun c30 => ?_) (fun c30 => ?_)
          · skip
            refine mm_fgt 0 ?_
            refine mm_fgt 1 ?_
            refine mm_fgt 2 ?_
            refine mm_fgt 3 ?_
            exact J39 (by omega)
          · skip
            refine mm_iload_n C (mm_dec dk_X12_runner 17 rfl) rfl ?_
            refine mm_bipush C (mm_dec dk_X12_runner 18 rfl) ⟨by decide, by decide⟩ ?_
            refine mm_icmp_le (tgt := 41) C (mm_dec dk_X12_runner 19 rfl) (by decide) (fun c36 => ?_) (fun c36 => ?_)
            · skip
              refine mm_aload_n C (mm_dec dk_X12_runner 22 rfl) rfl ?_
              refine mm_getr (t := 85) C fl_X12_66 (mm_dec dk_X12_runner 23 rfl) rfl rfl (mm_ref i2c rfl) ?_
              refine mm_aload_n C (mm_dec dk_X12_runner 24 rfl) rfl ?_
              refine mm_geti C fl_X12_222 (mm_dec dk_X12_runner 25 rfl) rfl rfl (Or.inl rfl) ?_
              refine mm_iload_n C (mm_dec dk_X12_runner 26 rfl) rfl ?_
              refine mm_iast C (mm_dec dk_X12_runner 27 rfl) rfl (by omega) (by omega) ?_
              have i2 : mm_inv (mm_pa h2c 85 (h2c.1 66 23) p1) := mm_inv_pa i2c (show 0 ≤ p1 ∧ p1 ≤ 7 from ⟨by omega, by omega⟩)
              have f2 : mm_fr [(66, 0), (66, 23)] [85, 86, 87, 88, 89, 122] h (mm_pa h2c 85 (h2c.1 66 23) p1) := mm_fr_pa f2c (by decide)
              obtain ⟨h2, eh2⟩ : ∃ z, z = mm_pa h2c 85 (h2c.1 66 23) p1 := ⟨_, rfl⟩
              rw [← eh2] at i2 f2 ⊢
              have qh2_8 : h2.1 66 0 = h2c.1 66 0 := by rw [eh2]; rfl
              have qh2_9 : h2.1 66 22 = h2c.1 66 22 := by rw [eh2]; rfl
              have qh2_10 : h2.1 66 23 = h2c.1 66 23 := by rw [eh2]; rfl
              refine mm_aload_n C (mm_dec dk_X12_runner 28 rfl) rfl ?_
              refine mm_getr (t := 86) C fl_X12_69 (mm_dec dk_X12_runner 29 rfl) rfl rfl (mm_ref i2 rfl) ?_
              refine mm_aload_n C (mm_dec dk_X12_runner 30 rfl) rfl ?_
              refine mm_geti C fl_X12_222 (mm_dec dk_X12_runner 31 rfl) rfl rfl (Or.inl rfl) ?_
              refine mm_iload_n C (mm_dec dk_X12_runner 32 rfl) rfl ?_
              refine mm_iast C (mm_dec dk_X12_runner 33 rfl) rfl (by omega) (by omega) ?_
              have i3 : mm_inv (mm_pa h2 86 (h2.1 66 23) p2) := mm_inv_pa i2 (show 0 ≤ p2 ∧ p2 ≤ 9 from ⟨by omega, by omega⟩)
              have f3 : mm_fr [(66, 0), (66, 23)] [85, 86, 87, 88, 89, 122] h (mm_pa h2 86 (h2.1 66 23) p2) := mm_fr_pa f2 (by decide)
              obtain ⟨h3, eh3⟩ : ∃ z, z = mm_pa h2 86 (h2.1 66 23) p2 := ⟨_, rfl⟩
              rw [← eh3] at i3 f3 ⊢
              have qh3_11 : h3.1 66 0 = h2.1 66 0 := by rw [eh3]; rfl
              have qh3_12 : h3.1 66 22 = h2.1 66 22 := by rw [eh3]; rfl
              have qh3_13 : h3.1 66 23 = h2.1 66 23 := by rw [eh3]; rfl
              refine mm_aload_n C (mm_dec dk_X12_runner 34 rfl) rfl ?_
              refine mm_getr (t := 87) C fl_X12_72 (mm_dec dk_X12_runner 35 rfl) rfl rfl (mm_ref i3 rfl) ?_
              refine mm_aload_n C (mm_dec dk_X12_runner 36 rfl) rfl ?_
              refine mm_geti C fl_X12_222 (mm_dec dk_X12_runner 37 rfl) rfl rfl (Or.inl rfl) ?_
              refine mm_iload_n C (mm_dec dk_X12_runner 38 rfl) rfl ?_
              refine mm_iast C (mm_dec dk_X12_runner 39 rfl) rfl (by omega) (by omega) ?_
              have i4 : mm_inv (mm_pa h3 87 (h3.1 66 23) p3) := mm_inv_pa i3 (show 0 ≤ p3 ∧ p3 ≤ 80 from ⟨by omega, by omega⟩)
              have f4 : mm_fr [(66, 0), (66, 23)] [85, 86, 87, 88, 89, 122] h (mm_pa h3 87 (h3.1 66 23) p3) := mm_fr_pa f3 (by decide)
              obtain ⟨h4, eh4⟩ : ∃ z, z = mm_pa h3 87 (h3.1 66 23) p3 := ⟨_, rfl⟩
              rw [← eh4] at i4 f4 ⊢
              have qh4_14 : h4.1 66 0 = h3.1 66 0 := by rw [eh4]; rfl
              have qh4_15 : h4.1 66 22 = h3.1 66 22 := by rw [eh4]; rfl
              have qh4_16 : h4.1 66 23 = h3.1 66 23 := by rw [eh4]; rfl
              refine mm_aload_n C (mm_dec dk_X12_runner 40 rfl) rfl ?_
              refine mm_getr (t := 88) C fl_X12_75 (mm_dec dk_X12_runner 41 rfl) rfl rfl (mm_ref i4 rfl) ?_
              refine mm_aload_n C (mm_dec dk_X12_runner 42 rfl) rfl ?_
              refine mm_geti C fl_X12_222 (mm_dec dk_X12_runner 43 rfl) rfl rfl (Or.inl rfl) ?_
              refine mm_iconst C (mm_dec dk_X12_runner 44 rfl) ⟨by decide, by decide⟩ ?_
              refine mm_iast C (mm_dec dk_X12_runner 45 rfl) rfl (by omega) (by omega) ?_
              have i5 : mm_inv (mm_pa h4 88 (h4.1 66 23) (-1)) := mm_inv_pa i4 (show -1 ≤ (-1) ∧ (-1) ≤ 9 from ⟨by omega, by omega⟩)
              have f5 : mm_fr [(66, 0), (66, 23)] [85, 86, 87, 88, 89, 122] h (mm_pa h4 88 (h4.1 66 23) (-1)) := mm_fr_pa f4 (by decide)
              obtain ⟨h5, eh5⟩ : ∃ z, z = mm_pa h4 88 (h4.1 66 23) (-1) := ⟨_, rfl⟩
              rw [← eh5] at i5 f5 ⊢
              have qh5_17 : h5.1 66 0 = h4.1 66 0 := by rw [eh5]; rfl
              have qh5_18 : h5.1 66 22 = h4.1 66 22 := by rw [eh5]; rfl
              have qh5_19 : h5.1 66 23 = h4.1 66 23 := by rw [eh5]; rfl
              refine mm_aload_n C (mm_dec dk_X12_runner 46 rfl) rfl ?_
              refine mm_getr (t := 89) C fl_X12_78 (mm_dec dk_X12_runner 47 rfl) rfl rfl (mm_ref i5 rfl) ?_
              refine mm_aload_n C (mm_dec dk_X12_runner 48 rfl) rfl ?_
              refine mm_geti C fl_X12_222 (mm_dec dk_X12_runner 49 rfl) rfl rfl (Or.inl rfl) ?_
              refine mm_iconst C (mm_dec dk_X12_runner 50 rfl) ⟨by decide, by decide⟩ ?_
              refine mm_iast C (mm_dec dk_X12_runner 51 rfl) rfl (by omega) (by omega) ?_
              have i6 : mm_inv (mm_pa h5 89 (h5.1 66 23) 0) := mm_inv_pa i5 (show 0 ≤ 0 ∧ 0 ≤ 2 from ⟨by omega, by omega⟩)
              have f6 : mm_fr [(66, 0), (66, 23)] [85, 86, 87, 88, 89, 122] h (mm_pa h5 89 (h5.1 66 23) 0) := mm_fr_pa f5 (by decide)
              obtain ⟨h6, eh6⟩ : ∃ z, z = mm_pa h5 89 (h5.1 66 23) 0 := ⟨_, rfl⟩
              rw [← eh6] at i6 f6 ⊢
              have qh6_20 : h6.1 66 0 = h5.1 66 0 := by rw [eh6]; rfl
              have qh6_21 : h6.1 66 22 = h5.1 66 22 := by rw [eh6]; rfl
              have qh6_22 : h6.1 66 23 = h5.1 66 23 := by rw [eh6]; rfl
              refine mm_aload_n C (mm_dec dk_X12_runner 52 rfl) rfl ?_
              refine mm_getr (t := 122) C fl_X12_178 (mm_dec dk_X12_runner 53 rfl) rfl rfl (mm_ref i6 rfl) ?_
              refine mm_aload_n C (mm_dec dk_X12_runner 54 rfl) rfl ?_
              refine mm_geti C fl_X12_222 (mm_dec dk_X12_runner 55 rfl) rfl rfl (Or.inl rfl) ?_
              refine mm_ldcw (z := -100000) C (mm_dec dk_X12_runner 56 rfl) kc_X12_295 (by decide) ?_
              refine mm_iast C (mm_dec dk_X12_runner 57 rfl) rfl (by omega) (by omega) ?_
              have i7 : mm_inv (mm_pa h6 122 (h6.1 66 23) (-100000)) := mm_inv_pa i6 (show -2147483648 ≤ (-100000) ∧ (-100000) ≤ 2147483647 from ⟨by omega, by omega⟩)
              have f7 : mm_fr [(66, 0), (66, 23)] [85, 86, 87, 88, 89, 122] h (mm_pa h6 122 (h6.1 66 23) (-100000)) := mm_fr_pa f6 (by decide)
              obtain ⟨h7, eh7⟩ : ∃ z, z = mm_pa h6 122 (h6.1 66 23) (-100000) := ⟨_, rfl⟩
              rw [← eh7] at i7 f7 ⊢
              have qh7_23 : h7.1 66 0 = h6.1 66 0 := by rw [eh7]; rfl
              have qh7_24 : h7.1 66 22 = h6.1 66 22 := by rw [eh7]; rfl
              have qh7_25 : h7.1 66 23 = h6.1 66 23 := by rw [eh7]; rfl
              refine mm_aload_n C (mm_dec dk_X12_runner 58 rfl) rfl ?_
              refine mm_dup C (mm_dec dk_X12_runner 59 rfl) (show (2 : Nat) ≠ 1 by decide) ?_
              refine mm_geti C fl_X12_222 (mm_dec dk_X12_runner 60 rfl) rfl rfl (Or.inl rfl) ?_
              refine mm_iconst C (mm_dec dk_X12_runner 61 rfl) ⟨by decide, by decide⟩ ?_
              refine mm_iadd C (mm_dec dk_X12_runner 62 rfl) ⟨by omega, by omega⟩ ?_
              refine mm_puti C fl_X12_222 (mm_dec dk_X12_runner 63 rfl) rfl rfl rfl (Or.inl ⟨rfl, rfl⟩) ?_
              have i8 : mm_inv (mm_pf h7 66 23 ((h7.1 66 23) + 1)) := mm_inv_pf i7 (show 0 ≤ ((h7.1 66 23) + 1) ∧ ((h7.1 66 23) + 1) ≤ 40 from ⟨by omega, by omega⟩) (by decide)
              have f8 : mm_fr [(66, 0), (66, 23)] [85, 86, 87, 88, 89, 122] h (mm_pf h7 66 23 ((h7.1 66 23) + 1)) := mm_fr_pf f7 (by decide)
              obtain ⟨h8, eh8⟩ : ∃ z, z = mm_pf h7 66 23 ((h7.1 66 23) + 1) := ⟨_, rfl⟩
              rw [← eh8] at i8 f8 ⊢
              have qh8 : h8.1 66 23 = ((h7.1 66 23) + 1) := by rw [eh8]; exact mm_pf_same _ _ _ _
              have qh8_26 : h8.1 66 0 = h7.1 66 0 := by rw [eh8]; exact mm_pf_ne _ _ (by decide)
              have qh8_27 : h8.1 66 22 = h7.1 66 22 := by rw [eh8]; exact mm_pf_ne _ _ (by decide)
              refine mm_aload_n C (mm_dec dk_X12_runner 64 rfl) rfl ?_
              refine mm_geti C fl_X12_222 (mm_dec dk_X12_runner 65 rfl) rfl rfl (Or.inl rfl) ?_
              refine mm_iconst C (mm_dec dk_X12_runner 66 rfl) ⟨by decide, by decide⟩ ?_
              refine mm_isub C (mm_dec dk_X12_runner 67 rfl) ⟨by omega, by omega⟩ ?_
              exact mm_iret C T (mm_dec dk_X12_runner 68 rfl) (by decide : 0 ≤ 0) (by decide : 0 ≤ 0) ⟨_, rfl, ⟨⟨by omega, by omega⟩, i8, f8, by omega, by first | exact ⟨0, Or.inr ⟨rfl, by omega⟩, mm_up_no (by decide) (fun j => g2c.2 85 (by decide) j), mm_up_no (by decide) (fun j => g2c.2 87 (by decide) j), mm_up_no (by decide) (fun j => g2c.2 88 (by decide) j), mm_up_no (by decide) (fun j => g2c.2 86 (by decide) j), mm_up_no (by decide) (fun j => g2c.2 89 (by decide) j)⟩ | exact ⟨1, Or.inl ⟨rfl, by omega⟩, mm_up_pav (fun _ => (g2c.2 85 (by decide) _)) eh2 (fun _ => ((mm_sm_pf 85 eh8 _).trans ((mm_sm_pa 85 eh7 (by decide) _).trans ((mm_sm_pa 85 eh6 (by decide) _).trans ((mm_sm_pa 85 eh5 (by decide) _).trans ((mm_sm_pa 85 eh4 (by decide) _).trans (mm_sm_pa 85 eh3 (by decide) _))))))) (by omega) (by omega) rfl, mm_up_pav (fun _ => ((mm_sm_pa 87 eh3 (by decide) _).trans ((mm_sm_pa 87 eh2 (by decide) _).trans (g2c.2 87 (by decide) _)))) eh4 (fun _ => ((mm_sm_pf 87 eh8 _).trans ((mm_sm_pa 87 eh7 (by decide) _).trans ((mm_sm_pa 87 eh6 (by decide) _).trans (mm_sm_pa 87 eh5 (by decide) _))))) (by omega) (by omega) rfl, mm_up_pav (fun _ => ((mm_sm_pa 88 eh4 (by decide) _).trans ((mm_sm_pa 88 eh3 (by decide) _).trans ((mm_sm_pa 88 eh2 (by decide) _).trans (g2c.2 88 (by decide) _))))) eh5 (fun _ => ((mm_sm_pf 88 eh8 _).trans ((mm_sm_pa 88 eh7 (by decide) _).trans (mm_sm_pa 88 eh6 (by decide) _)))) (by omega) (by omega) rfl, mm_up_pav (fun _ => ((mm_sm_pa 86 eh2 (by decide) _).trans (g2c.2 86 (by decide) _))) eh3 (fun _ => ((mm_sm_pf 86 eh8 _).trans ((mm_sm_pa 86 eh7 (by decide) _).trans ((mm_sm_pa 86 eh6 (by decide) _).trans ((mm_sm_pa 86 eh5 (by decide) _).trans (mm_sm_pa 86 eh4 (by decide) _)))))) (by omega) (by omega) rfl, mm_up_pav (fun _ => ((mm_sm_pa 89 eh5 (by decide) _).trans ((mm_sm_pa 89 eh4 (by decide) _).trans ((mm_sm_pa 89 eh3 (by decide) _).trans ((mm_sm_pa 89 eh2 (by decide) _).trans (g2c.2 89 (by decide) _)))))) eh6 (fun _ => ((mm_sm_pf 89 eh8 _).trans (mm_sm_pa 89 eh7 (by decide) _))) (by omega) (by omega) rfl⟩⟩⟩
            · skip
              refine mm_fgt 0 ?_
              refine mm_fgt 1 ?_
              refine mm_fgt 2 ?_
              refine mm_fgt 3 ?_
              exact J39 (by omega)
  · skip
    refine mm_iconst C (mm_dec dk_X12_runner 4 rfl) ⟨by decide, by decide⟩ ?_
    exact mm_iret C T (mm_dec dk_X12_runner 5 rfl) (by decide : 0 ≤ 0) (by decide : 0 ≤ 0) ⟨_, rfl, ⟨⟨by omega, by omega⟩, i2c, f2c, by omega, by first | exact ⟨0, Or.inr ⟨rfl, by omega⟩, mm_up_no (by decide) (fun j => g2c.2 85 (by decide) j), mm_up_no (by decide) (fun j => g2c.2 87 (by decide) j), mm_up_no (by decide) (fun j => g2c.2 88 (by decide) j), mm_up_no (by decide) (fun j => g2c.2 86 (by decide) j), mm_up_no (by decide) (fun j => g2c.2 89 (by decide) j)⟩ | exact ⟨1, Or.inl ⟨rfl, by omega⟩, mm_up_pav (fun _ => (g2c.2 85 (by decide) _)) eh2 (fun _ => ((mm_sm_pf 85 eh8 _).trans ((mm_sm_pa 85 eh7 (by decide) _).trans ((mm_sm_pa 85 eh6 (by decide) _).trans ((mm_sm_pa 85 eh5 (by decide) _).trans ((mm_sm_pa 85 eh4 (by decide) _).trans (mm_sm_pa 85 eh3 (by decide) _))))))) (by omega) (by omega) rfl, mm_up_pav (fun _ => ((mm_sm_pa 87 eh3 (by decide) _).trans ((mm_sm_pa 87 eh2 (by decide) _).trans (g2c.2 87 (by decide) _)))) eh4 (fun _ => ((mm_sm_pf 87 eh8 _).trans ((mm_sm_pa 87 eh7 (by decide) _).trans ((mm_sm_pa 87 eh6 (by decide) _).trans (mm_sm_pa 87 eh5 (by decide) _))))) (by omega) (by omega) rfl, mm_up_pav (fun _ => ((mm_sm_pa 88 eh4 (by decide) _).trans ((mm_sm_pa 88 eh3 (by decide) _).trans ((mm_sm_pa 88 eh2 (by decide) _).trans (g2c.2 88 (by decide) _))))) eh5 (fun _ => ((mm_sm_pf 88 eh8 _).trans ((mm_sm_pa 88 eh7 (by decide) _).trans (mm_sm_pa 88 eh6 (by decide) _)))) (by omega) (by omega) rfl, mm_up_pav (fun _ => ((mm_sm_pa 86 eh2 (by decide) _).trans (g2c.2 86 (by decide) _))) eh3 (fun _ => ((mm_sm_pf 86 eh8 _).trans ((mm_sm_pa 86 eh7 (by decide) _).trans ((mm_sm_pa 86 eh6 (by decide) _).trans ((mm_sm_pa 86 eh5 (by decide) _).trans (mm_sm_pa 86 eh4 (by decide) _)))))) (by omega) (by omega) rfl, mm_up_pav (fun _ => ((mm_sm_pa 89 eh5 (by decide) _).trans ((mm_sm_pa 89 eh4 (by decide) _).trans ((mm_sm_pa 89 eh3 (by decide) _).trans ((mm_sm_pa 89 eh2 (by decide) _).trans (g2c.2 89 (by decide) _)))))) eh6 (fun _ => ((mm_sm_pf 89 eh8 _).trans (mm_sm_pa 89 eh7 (by decide) _))) (by omega) (by omega) rfl⟩⟩⟩
