set_option maxRecDepth 100000 in
set_option maxHeartbeats 4000000 in
theorem c_X12_placeOf_q (l : Launch) (hl : l.stackTraces = false) (d : Nat) (hd : 7 ≤ d) (h : mH) (i0 : mm_inv h) (p1 : Int) (p2 : Int) (bp1 : 0 ≤ p1 ∧ p1 ≤ 39) (t0 : mm_RO h) : mm_Met l d yX12_placeOf cX12_placeOf 9 (some .int) [mR 66, mI p1, mI p2] h (mm_pi fun r h2 => (-1 ≤ r ∧ r ≤ 41) ∧ mm_inv h2 ∧ mm_fr [(66, 39), (66, 48), (66, 52), (66, 53), (66, 54), (66, 87), (66, 88)] [91, 98, 99, 100, 110, 111] h h2 ∧ mm_plY9 h p1 p2 r) mm_nx 0 0 := by
  refine mm_ofW (ls := [mR 66, mI p1, mI p2, mU, mU, mU, mU, mU, mU]) hl (by decide) rfl (Nat.le_of_ble_eq_true rfl) ?_
  intro x hxl C T hnm htb
  subst hxl
  have C1 := mm_OK_le (d' := d - 1 + 1) (by omega) C
  refine mm_rng (fun hr _ => ?_)
  have ap1 : -2147483648 ≤ p1 ∧ p1 < 2147483648 := mm_ok_at hr (i := 1) rfl
  have ap2 : -2147483648 ≤ p2 ∧ p2 < 2147483648 := mm_ok_at hr (i := 2) rfl
  have f0 : mm_fr [(66, 39), (66, 48), (66, 52), (66, 53), (66, 54), (66, 87), (66, 88)] [91, 98, 99, 100, 110, 111] h h := mm_fr_rf
  have g1 : -2147483648 ≤ h.1 66 52 ∧ h.1 66 52 ≤ 2147483647 := i0.1 66 52
  have g2 : -2147483648 ≤ h.1 66 53 ∧ h.1 66 53 ≤ 2147483647 := i0.1 66 53
  have g3 : -2147483648 ≤ h.1 66 54 ∧ h.1 66 54 ≤ 2147483647 := i0.1 66 54
  have g4 : -2147483648 ≤ h.1 66 87 ∧ h.1 66 87 ≤ 2147483647 := i0.1 66 87
  have g5 : 0 ≤ h.1 66 88 ∧ h.1 66 88 ≤ 1 := i0.1 66 88
  have g6 : 0 ≤ h.1 66 23 ∧ h.1 66 23 ≤ 40 := i0.1 66 23
  have zn23 : 0 ≤ h.1 66 23 ∧ h.1 66 23 ≤ 40 := i0.1 66 23
  refine mm_aload_n C (mm_dec dk_X12_placeOf 0 rfl) rfl ?_
  refine mm_iload_n C (mm_dec dk_X12_placeOf 1 rfl) rfl ?_
  refine mm_iload_n C (mm_dec dk_X12_placeOf 2 rfl) rfl ?_
  refine mm_cVi (rest := []) C1 ev_X12_490 (mm_dec dk_X12_placeOf 3 rfl) (c_X12_stateOf_q x.2.1 hl (d - 1) (by omega) h i0 p1 p2 ⟨by omega, by omega⟩ (by omega)) rfl rfl (Nat.le_of_ble_eq_true rfl) ⟨by decide, by decide⟩ rfl (fun r3 h3c hp3 => ?_) (fun _ _ q => q.elim)
  obtain ⟨b3, i3c, g3c, y3_0⟩ := hp3
  have f3c : mm_fr [(66, 39), (66, 48), (66, 52), (66, 53), (66, 54), (66, 87), (66, 88)] [91, 98, 99, 100, 110, 111] h h3c := mm_fr_tr f0 g3c (by decide +kernel)
  have q3c_8 : h3c.1 66 23 = h.1 66 23 := g3c.1 66 23 (by decide)
  have g9 : -2147483648 ≤ (h3c.1 66 52) ∧ (h3c.1 66 52) ≤ 2147483647 := i3c.1 66 52
  have g10 : -2147483648 ≤ (h3c.1 66 53) ∧ (h3c.1 66 53) ≤ 2147483647 := i3c.1 66 53
  have g11 : -2147483648 ≤ (h3c.1 66 54) ∧ (h3c.1 66 54) ≤ 2147483647 := i3c.1 66 54
  have g12 : -2147483648 ≤ (h3c.1 66 87) ∧ (h3c.1 66 87) ≤ 2147483647 := i3c.1 66 87
  have g13 : 0 ≤ (h3c.1 66 88) ∧ (h3c.1 66 88) ≤ 1 := i3c.1 66 88
  refine mm_iconst C (mm_dec dk_X12_placeOf 4 rfl) ⟨by decide, by decide⟩ ?_
  refine mm_icmp_eq (tgt := 12) C (mm_dec dk_X12_placeOf 5 rfl) (by decide) (fun c7 => ?_) (fun c7 => ?_)
  · skip
    refine mm_aload_n C (mm_dec dk_X12_placeOf 8 rfl) rfl ?_
    refine mm_iload_n C (mm_dec dk_X12_placeOf 9 rfl) rfl ?_
    refine mm_iload_n C (mm_dec dk_X12_placeOf 10 rfl) rfl ?_
    refine mm_cVi (rest := []) C1 ev_X12_496 (mm_dec dk_X12_placeOf 11 rfl) (c_X12_totalOf_q x.2.1 hl (d - 1) (by omega) h3c i3c p1 p2 ⟨by omega, by omega⟩ (by first | exact mm_RO_fr t0 f3c (by decide) | omega)) rfl rfl (Nat.le_of_ble_eq_true rfl) ⟨by decide, by decide⟩ rfl (fun r15 h15c hp15 => ?_) (fun _ _ q => q.elim)
    obtain ⟨b15, i15c, g15c, y15_0⟩ := hp15
    have f15c : mm_fr [(66, 39), (66, 48), (66, 52), (66, 53), (66, 54), (66, 87), (66, 88)] [91, 98, 99, 100, 110, 111] h h15c := mm_fr_tr f3c g15c (by decide +kernel)
    have q15c_15 : h15c.1 66 23 = h3c.1 66 23 := g15c.1 66 23 (by decide)
    have g16 : -2147483648 ≤ (h15c.1 66 52) ∧ (h15c.1 66 52) ≤ 2147483647 := i15c.1 66 52
    have g17 : -2147483648 ≤ (h15c.1 66 53) ∧ (h15c.1 66 53) ≤ 2147483647 := i15c.1 66 53
    have g18 : -2147483648 ≤ (h15c.1 66 54) ∧ (h15c.1 66 54) ≤ 2147483647 := i15c.1 66 54
    have g19 : -2147483648 ≤ (h15c.1 66 87) ∧ (h15c.1 66 87) ≤ 2147483647 := i15c.1 66 87
    have g20 : 0 ≤ (h15c.1 66 88) ∧ (h15c.1 66 88) ≤ 1 := i15c.1 66 88
    have zO : mm_TY9 h p1 p2 r15 := mm_TY9_fr y15_0 (mm_k2_fr f3c (by decide)) (f3c.2 79 (by decide)) (f3c.2 80 (by decide)) (f3c.2 82 (by decide)) (f3c.2 83 (by decide)) (f3c.2 84 (by decide)) (f3c.2 85 (by decide)) (f3c.2 86 (by decide)) (f3c.2 87 (by decide)) (f3c.2 88 (by decide)) (f3c.2 89 (by decide)) (f3c.2 90 (by decide)) (f3c.2 94 (by decide)) (f3c.2 95 (by decide)) (f3c.2 112 (by decide)) (f3c.2 113 (by decide)) (f3c.2 114 (by decide)) (f3c.2 115 (by decide)) (f3c.2 116 (by decide)) (f3c.2 102 (by decide)) (f3c.2 103 (by decide)) (f3c.2 104 (by decide)) (f3c.2 105 (by decide)) (f3c.2 106 (by decide)) (f3c.2 107 (by decide)) (f3c.1 66 40 (by decide)) (f3c.1 66 82 (by decide)) (f3c.1 66 67 (by decide)) (f3c.1 66 68 (by decide))
    refine mm_istore_nL (ls2 := [mR 66, mI p1, mI p2, mI r15, mU, mU, mU, mU, mU]) C (mm_dec dk_X12_placeOf 12 rfl) (by decide) rfl ?_
    refine mm_aload_n C (mm_dec dk_X12_placeOf 13 rfl) rfl ?_
    refine mm_iload_n C (mm_dec dk_X12_placeOf 14 rfl) rfl ?_
    refine mm_iload_n C (mm_dec dk_X12_placeOf 15 rfl) rfl ?_
    refine mm_cVi (rest := []) C1 ev_X12_326 (mm_dec dk_X12_placeOf 16 rfl) (c_X12_finishOf_q x.2.1 hl (d - 1) (by omega) h15c i15c p1 p2 ⟨by omega, by omega⟩) rfl rfl (Nat.le_of_ble_eq_true rfl) ⟨by decide, by decide⟩ rfl (fun r22 h22c hp22 => ?_) (fun _ _ q => q.elim)
    obtain ⟨b22, z22, y22_0⟩ := hp22
    rw [z22]
    have zF0 : mm_fY9 h p1 p2 r22 := mm_fY9_fr y22_0 (mm_k2_fr f15c (by decide)) (f15c.2 95 (by decide)) (f15c.1 66 40 (by decide))
    refine mm_aload_n C (mm_dec dk_X12_placeOf 17 rfl) rfl ?_
    refine mm_iload_n C (mm_dec dk_X12_placeOf 18 rfl) rfl ?_
    refine mm_iload_n C (mm_dec dk_X12_placeOf 19 rfl) rfl ?_
    refine mm_cVi (rest := [mI r22]) C1 ev_X12_472 (mm_dec dk_X12_placeOf 20 rfl) (c_X12_startOf_q x.2.1 hl (d - 1) (by omega) h15c i15c p1 p2 ⟨by omega, by omega⟩) rfl rfl (Nat.le_of_ble_eq_true rfl) ⟨by decide, by decide⟩ rfl (fun r28 h28c hp28 => ?_) (fun _ _ q => q.elim)
    obtain ⟨b28, z28, y28_0⟩ := hp28
    rw [z28]
    have zS0 : mm_sY8 h p1 p2 r28 := mm_sY8_fr y28_0 (mm_k2_fr f15c (by decide)) (f15c.2 88 (by decide)) (f15c.2 89 (by decide)) (f15c.2 90 (by decide)) (f15c.2 95 (by decide)) (f15c.1 66 40 (by decide))
    refine mm_isubw C (mm_dec dk_X12_placeOf 21 rfl) ?_
    have g23 : -2147483648 ≤ (mm_w (r22 - r28)) ∧ (mm_w (r22 - r28)) < 2147483648 := mm_w_rg _
    refine mm_istoreL (ls2 := [mR 66, mI p1, mI p2, mI r15, mI (mm_w (r22 - r28)), mU, mU, mU, mU]) C (mm_dec dk_X12_placeOf 22 rfl) (by decide) rfl ?_
    refine mm_iconst C (mm_dec dk_X12_placeOf 23 rfl) ⟨by decide, by decide⟩ ?_
    refine mm_istoreL (ls2 := [mR 66, mI p1, mI p2, mI r15, mI (mm_w (r22 - r28)), mI 1, mU, mU, mU]) C (mm_dec dk_X12_placeOf 24 rfl) (by decide) rfl ?_
    refine mm_iconst C (mm_dec dk_X12_placeOf 25 rfl) ⟨by decide, by decide⟩ ?_
    have J40 : ∀ (n : Nat) (x40_5 : Int) (bx40_5 : 1 ≤ x40_5 ∧ x40_5 ≤ 41) (x40_6 : Int) (bx40_6 : 0 ≤ x40_6 ∧ x40_6 ≤ 40) (h40_ : mH) (i40_ : mm_inv h40_) (f40_ : mm_fr [(66, 39), (66, 48), (66, 52), (66, 53), (66, 54), (66, 87), (66, 88)] [91, 98, 99, 100, 110, 111] h h40_) (w40_0 : mm_PY9 h p1 p2 r15 (mm_w (r22 - r28)) (x40_6).toNat x40_5) (w40_1 : x40_6 ≤ h.1 66 23), (40 - x40_6 : Int) < n → mm_W x 0 0 40 [mR 66, mI p1, mI p2, mI r15, mI (mm_w (r22 - r28)), mI x40_5, mI x40_6, mU, mU] [] h40_ := by
      intro n
      induction n with
      | zero =>
        intro x40_5 bx40_5 x40_6 bx40_6 h40_ i40_ f40_ w40_0 w40_1 hm
        have g24 : -2147483648 ≤ h40_.1 66 52 ∧ h40_.1 66 52 ≤ 2147483647 := i40_.1 66 52
        have g25 : -2147483648 ≤ h40_.1 66 53 ∧ h40_.1 66 53 ≤ 2147483647 := i40_.1 66 53
        have g26 : -2147483648 ≤ h40_.1 66 54 ∧ h40_.1 66 54 ≤ 2147483647 := i40_.1 66 54
        have g27 : -2147483648 ≤ h40_.1 66 87 ∧ h40_.1 66 87 ≤ 2147483647 := i40_.1 66 87
        have g28 : 0 ≤ h40_.1 66 88 ∧ h40_.1 66 88 ≤ 1 := i40_.1 66 88
        have g29 : 0 ≤ h40_.1 66 23 ∧ h40_.1 66 23 ≤ 40 := i40_.1 66 23
        exfalso; omega
      | succ n ih40 =>
        intro x40_5 bx40_5 x40_6 bx40_6 h40_ i40_ f40_ w40_0 w40_1 hm40
        have g30 : -2147483648 ≤ h40_.1 66 52 ∧ h40_.1 66 52 ≤ 2147483647 := i40_.1 66 52
        have g31 : -2147483648 ≤ h40_.1 66 53 ∧ h40_.1 66 53 ≤ 2147483647 := i40_.1 66 53
        have g32 : -2147483648 ≤ h40_.1 66 54 ∧ h40_.1 66 54 ≤ 2147483647 := i40_.1 66 54
        have g33 : -2147483648 ≤ h40_.1 66 87 ∧ h40_.1 66 87 ≤ 2147483647 := i40_.1 66 87
        have g34 : 0 ≤ h40_.1 66 88 ∧ h40_.1 66 88 ≤ 1 := i40_.1 66 88
        have g35 : 0 ≤ h40_.1 66 23 ∧ h40_.1 66 23 ≤ 40 := i40_.1 66 23
        have g36 : h40_.1 66 23 = h.1 66 23 := f40_.1 66 23 (by decide)
        have zr40 := mm_PY9_rg _ _ w40_0
        have z85 : ∀ j, h40_.2.1 85 j = h.2.1 85 j := fun j => f40_.2 85 (by decide) j
        have z85a := z85 x40_6
        have z85b := z85 p1
        have zq23 : h40_.1 66 23 = h.1 66 23 := f40_.1 66 23 (by decide)
        refine mm_iload C (mm_dec dk_X12_placeOf 27 rfl) rfl ?_
        refine mm_aload_n C (mm_dec dk_X12_placeOf 28 rfl) rfl ?_
        refine mm_geti C fl_X12_222 (mm_dec dk_X12_placeOf 29 rfl) rfl rfl (Or.inl rfl) ?_
        refine mm_icmp_ge (tgt := 175) C (mm_dec dk_X12_placeOf 30 rfl) (by decide) (fun c46 => ?_) (fun c46 => ?_)
        · skip
          refine mm_iload C (mm_dec dk_X12_placeOf 96 rfl) rfl ?_
          exact mm_iret C T (mm_dec dk_X12_placeOf 97 rfl) (by decide : 0 ≤ 0) (by decide : 0 ≤ 0) ⟨_, rfl, ⟨⟨by omega, by omega⟩, i40_, f40_, by first | exact ⟨h3c, r3, y3_0, Or.inl ⟨by omega, rfl⟩⟩ | exact ⟨h3c, r3, y3_0, Or.inr ⟨by omega, r15, r28, r22, zO, zS0, zF0, (by rw [show h.1 66 23 = x40_6 by omega]; exact w40_0)⟩⟩⟩⟩
        · skip
          refine mm_iload C (mm_dec dk_X12_placeOf 31 rfl) rfl ?_
          refine mm_iload_n C (mm_dec dk_X12_placeOf 32 rfl) rfl ?_
          have J169 : ∀ (x169_5 : Int) (bx169_5 : 1 ≤ x169_5 ∧ x169_5 ≤ 41) (h169_ : mH) (i169_ : mm_inv h169_) (f169_ : mm_fr [(66, 39), (66, 48), (66, 52), (66, 53), (66, 54), (66, 87), (66, 88)] [91, 98, 99, 100, 110, 111] h h169_) (w169_0 : mm_PY9 h p1 p2 r15 (mm_w (r22 - r28)) (x40_6 + 1).toNat x169_5), mm_W x 0 0 169 [mR 66, mI p1, mI p2, mI r15, mI (mm_w (r22 - r28)), mI x169_5, mI x40_6, mU, mU] [] h169_ := by
            intro x169_5 bx169_5 h169_ i169_ f169_ w169_0
            have g37 : -2147483648 ≤ h169_.1 66 52 ∧ h169_.1 66 52 ≤ 2147483647 := i169_.1 66 52
            have g38 : -2147483648 ≤ h169_.1 66 53 ∧ h169_.1 66 53 ≤ 2147483647 := i169_.1 66 53
            have g39 : -2147483648 ≤ h169_.1 66 54 ∧ h169_.1 66 54 ≤ 2147483647 := i169_.1 66 54
            have g40 : -2147483648 ≤ h169_.1 66 87 ∧ h169_.1 66 87 ≤ 2147483647 := i169_.1 66 87
            have g41 : 0 ≤ h169_.1 66 88 ∧ h169_.1 66 88 ≤ 1 := i169_.1 66 88
            have g42 : 0 ≤ h169_.1 66 23 ∧ h169_.1 66 23 ≤ 40 := i169_.1 66 23
            have g43 : h169_.1 66 23 = h.1 66 23 := f169_.1 66 23 (by decide)
            refine mm_iincL (ls2 := [mR 66, mI p1, mI p2, mI r15, mI (mm_w (r22 - r28)), mI x169_5, mI (x40_6 + 1), mU, mU]) C (mm_dec dk_X12_placeOf 94 rfl) rfl (by decide) ⟨by omega, by omega⟩ rfl ?_
            refine mm_goto (tgt := 40) C (mm_dec dk_X12_placeOf 95 rfl) (by decide) ?_
            exact ih40 x169_5 ⟨by omega, by omega⟩ (x40_6 + 1) ⟨by omega, by omega⟩ h169_ i169_ f169_ (by first | exact w169_0 | exact (show (1 : Int) = 1 from rfl)) (by omega) (by omega)
          refine mm_icmp_eq (tgt := 169) C (mm_dec dk_X12_placeOf 33 rfl) (by decide) (fun c52 => ?_) (fun c52 => ?_)
          · skip
            exact J169 x40_5 ⟨by omega, by omega⟩ h40_ i40_ f40_ (by first | exact mm_PY9_n w40_0 (by omega) (by omega) | exact mm_PY9_z w40_0 (by omega) (by omega) (by omega) zZ (by omega) | exact mm_PY9_y w40_0 (by omega) (by omega) (by omega) zZ (by omega) (w159_0.resolve_right (fun z => by have z1 := z.1; omega)).2 | exact mm_PY9_w w40_0 (by omega) (by omega) (by omega) zZ (by omega) (w159_0.resolve_left (fun z => by have z1 := z.1; omega)).2)
          · skip
            refine mm_aload_n C (mm_dec dk_X12_placeOf 34 rfl) rfl ?_
            refine mm_getr (t := 85) C fl_X12_66 (mm_dec dk_X12_placeOf 35 rfl) rfl rfl (mm_ref i40_ rfl) ?_
            refine mm_iload C (mm_dec dk_X12_placeOf 36 rfl) rfl ?_
            refine mm_iald C (mm_dec dk_X12_placeOf 37 rfl) rfl (by omega) (by omega) ?_
            have g44 : 0 ≤ (h40_.2.1 85 x40_6) ∧ (h40_.2.1 85 x40_6) ≤ 7 := i40_.2.1 85 x40_6
            refine mm_aload_n C (mm_dec dk_X12_placeOf 38 rfl) rfl ?_
            refine mm_getr (t := 85) C fl_X12_66 (mm_dec dk_X12_placeOf 39 rfl) rfl rfl (mm_ref i40_ rfl) ?_
            refine mm_iload_n C (mm_dec dk_X12_placeOf 40 rfl) rfl ?_
            refine mm_iald C (mm_dec dk_X12_placeOf 41 rfl) rfl (by omega) (by omega) ?_
            have g45 : 0 ≤ (h40_.2.1 85 p1) ∧ (h40_.2.1 85 p1) ≤ 7 := i40_.2.1 85 p1
            refine mm_icmp_ne (tgt := 169) C (mm_dec dk_X12_placeOf 42 rfl) (by decide) (fun c68 => ?_) (fun c68 => ?_)
            · skip
              exact J169 x40_5 ⟨by omega, by omega⟩ h40_ i40_ f40_ (by first | exact mm_PY9_n w40_0 (by omega) (by omega) | exact mm_PY9_z w40_0 (by omega) (by omega) (by omega) zZ (by omega) | exact mm_PY9_y w40_0 (by omega) (by omega) (by omega) zZ (by omega) (w159_0.resolve_right (fun z => by have z1 := z.1; omega)).2 | exact mm_PY9_w w40_0 (by omega) (by omega) (by omega) zZ (by omega) (w159_0.resolve_left (fun z => by have z1 := z.1; omega)).2)
            · skip
              refine mm_aload_n C (mm_dec dk_X12_placeOf 43 rfl) rfl ?_
              refine mm_iload C (mm_dec dk_X12_placeOf 44 rfl) rfl ?_
              refine mm_iload_n C (mm_dec dk_X12_placeOf 45 rfl) rfl ?_
              refine mm_cVi (rest := []) C1 ev_X12_490 (mm_dec dk_X12_placeOf 46 rfl) (c_X12_stateOf_q x.2.1 hl (d - 1) (by omega) h40_ i40_ x40_6 p2 ⟨by omega, by omega⟩ (by first | exact mm_RO_fr t0 f40_ (by decide) | omega)) rfl rfl (Nat.le_of_ble_eq_true rfl) ⟨by decide, by decide⟩ rfl (fun r75 h75c hp75 => ?_) (fun _ _ q => q.elim)
              obtain ⟨b75, i75c, g75c, y75_0⟩ := hp75
              have f75c : mm_fr [(66, 39), (66, 48), (66, 52), (66, 53), (66, 54), (66, 87), (66, 88)] [91, 98, 99, 100, 110, 111] h h75c := mm_fr_tr f40_ g75c (by decide +kernel)
              have q75c_47 : h75c.1 66 23 = h40_.1 66 23 := g75c.1 66 23 (by decide)
              have g48 : -2147483648 ≤ (h75c.1 66 52) ∧ (h75c.1 66 52) ≤ 2147483647 := i75c.1 66 52
              have g49 : -2147483648 ≤ (h75c.1 66 53) ∧ (h75c.1 66 53) ≤ 2147483647 := i75c.1 66 53
              have g50 : -2147483648 ≤ (h75c.1 66 54) ∧ (h75c.1 66 54) ≤ 2147483647 := i75c.1 66 54
              have g51 : -2147483648 ≤ (h75c.1 66 87) ∧ (h75c.1 66 87) ≤ 2147483647 := i75c.1 66 87
              have g52 : 0 ≤ (h75c.1 66 88) ∧ (h75c.1 66 88) ≤ 1 := i75c.1 66 88
              have zZ : mm_ZY9 h h75c x40_6 p2 r75 := mm_ZY9_fr y75_0 (mm_k2_fr f40_ (by decide)) (f40_.2 79 (by decide)) (f40_.2 80 (by decide)) (f40_.2 82 (by decide)) (f40_.2 83 (by decide)) (f40_.2 84 (by decide)) (f40_.2 85 (by decide)) (f40_.2 86 (by decide)) (f40_.2 87 (by decide)) (f40_.2 88 (by decide)) (f40_.2 89 (by decide)) (f40_.2 90 (by decide)) (f40_.2 94 (by decide)) (f40_.2 95 (by decide)) (f40_.2 112 (by decide)) (f40_.2 113 (by decide)) (f40_.2 114 (by decide)) (f40_.2 115 (by decide)) (f40_.2 116 (by decide)) (f40_.2 102 (by decide)) (f40_.2 103 (by decide)) (f40_.2 104 (by decide)) (f40_.2 105 (by decide)) (f40_.2 106 (by decide)) (f40_.2 107 (by decide)) (f40_.1 66 40 (by decide)) (f40_.1 66 82 (by decide)) (f40_.1 66 67 (by decide)) (f40_.1 66 68 (by decide))
              refine mm_iconst C (mm_dec dk_X12_placeOf 47 rfl) ⟨by decide, by decide⟩ ?_
              refine mm_icmp_eq (tgt := 85) C (mm_dec dk_X12_placeOf 48 rfl) (by decide) (fun c79 => ?_) (fun c79 => ?_)
              · skip
                refine mm_aload_n C (mm_dec dk_X12_placeOf 50 rfl) rfl ?_
                refine mm_iload C (mm_dec dk_X12_placeOf 51 rfl) rfl ?_
                refine mm_iload_n C (mm_dec dk_X12_placeOf 52 rfl) rfl ?_
                refine mm_cVi (rest := []) C1 ev_X12_496 (mm_dec dk_X12_placeOf 53 rfl) (c_X12_totalOf_q x.2.1 hl (d - 1) (by omega) h75c i75c x40_6 p2 ⟨by omega, by omega⟩ (by first | exact mm_RO_fr t0 f75c (by decide) | omega)) rfl rfl (Nat.le_of_ble_eq_true rfl) ⟨by decide, by decide⟩ rfl (fun r89 h89c hp89 => ?_) (fun _ _ q => q.elim)
                obtain ⟨b89, i89c, g89c, y89_0⟩ := hp89
                have f89c : mm_fr [(66, 39), (66, 48), (66, 52), (66, 53), (66, 54), (66, 87), (66, 88)] [91, 98, 99, 100, 110, 111] h h89c := mm_fr_tr f75c g89c (by decide +kernel)
                have q89c_54 : h89c.1 66 23 = h75c.1 66 23 := g89c.1 66 23 (by decide)
                have g55 : -2147483648 ≤ (h89c.1 66 52) ∧ (h89c.1 66 52) ≤ 2147483647 := i89c.1 66 52
                have g56 : -2147483648 ≤ (h89c.1 66 53) ∧ (h89c.1 66 53) ≤ 2147483647 := i89c.1 66 53
                have g57 : -2147483648 ≤ (h89c.1 66 54) ∧ (h89c.1 66 54) ≤ 2147483647 := i89c.1 66 54
                have g58 : -2147483648 ≤ (h89c.1 66 87) ∧ (h89c.1 66 87) ≤ 2147483647 := i89c.1 66 87
                have g59 : 0 ≤ (h89c.1 66 88) ∧ (h89c.1 66 88) ≤ 1 := i89c.1 66 88
                have zT2 : mm_TY9 h x40_6 p2 r89 := mm_TY9_fr y89_0 (mm_k2_fr f75c (by decide)) (f75c.2 79 (by decide)) (f75c.2 80 (by decide)) (f75c.2 82 (by decide)) (f75c.2 83 (by decide)) (f75c.2 84 (by decide)) (f75c.2 85 (by decide)) (f75c.2 86 (by decide)) (f75c.2 87 (by decide)) (f75c.2 88 (by decide)) (f75c.2 89 (by decide)) (f75c.2 90 (by decide)) (f75c.2 94 (by decide)) (f75c.2 95 (by decide)) (f75c.2 112 (by decide)) (f75c.2 113 (by decide)) (f75c.2 114 (by decide)) (f75c.2 115 (by decide)) (f75c.2 116 (by decide)) (f75c.2 102 (by decide)) (f75c.2 103 (by decide)) (f75c.2 104 (by decide)) (f75c.2 105 (by decide)) (f75c.2 106 (by decide)) (f75c.2 107 (by decide)) (f75c.1 66 40 (by decide)) (f75c.1 66 82 (by decide)) (f75c.1 66 67 (by decide)) (f75c.1 66 68 (by decide))
                have zfr : h89c.2.1 83 (h89c.2.1 85 p1) = h.2.1 83 (h.2.1 85 p1) := by rw [f89c.2 83 (by decide), f89c.2 85 (by decide)]
                refine mm_istoreL (ls2 := [mR 66, mI p1, mI p2, mI r15, mI (mm_w (r22 - r28)), mI x40_5, mI x40_6, mI r89, mU]) C (mm_dec dk_X12_placeOf 54 rfl) (by decide) rfl ?_
                refine mm_aload_n C (mm_dec dk_X12_placeOf 55 rfl) rfl ?_
                refine mm_getr (t := 83) C fl_X12_60 (mm_dec dk_X12_placeOf 56 rfl) rfl rfl (mm_ref i89c rfl) ?_
                refine mm_aload_n C (mm_dec dk_X12_placeOf 57 rfl) rfl ?_
                refine mm_getr (t := 85) C fl_X12_66 (mm_dec dk_X12_placeOf 58 rfl) rfl rfl (mm_ref i89c rfl) ?_
                refine mm_iload_n C (mm_dec dk_X12_placeOf 59 rfl) rfl ?_
                refine mm_iald C (mm_dec dk_X12_placeOf 60 rfl) rfl (by omega) (by omega) ?_
                have g60 : 0 ≤ (h89c.2.1 85 p1) ∧ (h89c.2.1 85 p1) ≤ 7 := i89c.2.1 85 p1
                refine mm_zald C (mm_dec dk_X12_placeOf 61 rfl) rfl (by omega) (by omega) ?_
                have g61 : 0 ≤ (h89c.2.1 83 (h89c.2.1 85 p1)) ∧ (h89c.2.1 83 (h89c.2.1 85 p1)) ≤ 1 := i89c.2.1 83 (h89c.2.1 85 p1)
                have J159 : ∀ (s159_0 : Int) (bs159_0 : 0 ≤ s159_0 ∧ s159_0 ≤ 1) (w159_0 : ((s159_0 = 1 ∧ mm_bY9 h (h.2.1 83 (h.2.1 85 p1)) r15 (mm_w (r22 - r28)) x40_6 p2 True) ∨ (s159_0 = 0 ∧ mm_bY9 h (h.2.1 83 (h.2.1 85 p1)) r15 (mm_w (r22 - r28)) x40_6 p2 False))), mm_W x 0 0 159 [mR 66, mI p1, mI p2, mI r15, mI (mm_w (r22 - r28)), mI x40_5, mI x40_6, mU, mU] [mI s159_0] h89c := by
                  intro s159_0 bs159_0 w159_0
                  refine mm_istoreL (ls2 := [mR 66, mI p1, mI p2, mI r15, mI (mm_w (r22 - r28)), mI x40_5, mI x40_6, mU, mI s159_0]) C (mm_dec dk_X12_placeOf 90 rfl) (by decide) rfl ?_
                  refine mm_iload C (mm_dec dk_X12_placeOf 91 rfl) rfl ?_
                  refine mm_if_eq (tgt := 169) C (mm_dec dk_X12_placeOf 92 rfl) (by decide) (fun c163 => ?_) (fun c163 => ?_)
                  · skip
                    refine mm_fgt 8 ?_
                    exact J169 x40_5 ⟨by omega, by omega⟩ h89c i89c f89c (by first | exact mm_PY9_n w40_0 (by omega) (by omega) | exact mm_PY9_z w40_0 (by omega) (by omega) (by omega) zZ (by omega) | exact mm_PY9_y w40_0 (by omega) (by omega) (by omega) zZ (by omega) (w159_0.resolve_right (fun z => by have z1 := z.1; omega)).2 | exact mm_PY9_w w40_0 (by omega) (by omega) (by omega) zZ (by omega) (w159_0.resolve_left (fun z => by have z1 := z.1; omega)).2)
                  · skip
                    refine mm_iincL (ls2 := [mR 66, mI p1, mI p2, mI r15, mI (mm_w (r22 - r28)), mI (x40_5 + 1), mI x40_6, mU, mI s159_0]) C (mm_dec dk_X12_placeOf 93 rfl) rfl (by decide) ⟨by omega, by omega⟩ rfl ?_
                    refine mm_fgt 8 ?_
                    exact J169 (x40_5 + 1) ⟨by omega, by omega⟩ h89c i89c f89c (by first | exact mm_PY9_n w40_0 (by omega) (by omega) | exact mm_PY9_z w40_0 (by omega) (by omega) (by omega) zZ (by omega) | exact mm_PY9_y w40_0 (by omega) (by omega) (by omega) zZ (by omega) (w159_0.resolve_right (fun z => by have z1 := z.1; omega)).2 | exact mm_PY9_w w40_0 (by omega) (by omega) (by omega) zZ (by omega) (w159_0.resolve_left (fun z => by have z1 := z.1; omega)).2)
                refine mm_if_eq (tgt := 148) C (mm_dec dk_X12_placeOf 62 rfl) (by decide) (fun c105 => ?_) (fun c105 => ?_)
                · skip
                  refine mm_iload C (mm_dec dk_X12_placeOf 84 rfl) rfl ?_
                  refine mm_iload_n C (mm_dec dk_X12_placeOf 85 rfl) rfl ?_
                  refine mm_icmp_ge (tgt := 158) C (mm_dec dk_X12_placeOf 86 rfl) (by decide) (fun c151 => ?_) (fun c151 => ?_)
                  · skip
                    refine mm_iconst C (mm_dec dk_X12_placeOf 89 rfl) ⟨by decide, by decide⟩ ?_
                    refine mm_fgt 7 ?_
                    exact J159 0 ⟨by omega, by omega⟩ (by first | exact Or.inl ⟨rfl, w140_0⟩ | exact Or.inr ⟨rfl, w144_0⟩ | exact Or.inl ⟨rfl, ⟨r89, zT2, Or.inl ⟨by omega, ⟨fun _ => by omega, fun _ => trivial⟩⟩⟩⟩ | exact Or.inr ⟨rfl, ⟨r89, zT2, Or.inl ⟨by omega, ⟨False.elim, fun z => by omega⟩⟩⟩⟩)
                  · skip
                    refine mm_iconst C (mm_dec dk_X12_placeOf 87 rfl) ⟨by decide, by decide⟩ ?_
                    refine mm_goto (tgt := 159) C (mm_dec dk_X12_placeOf 88 rfl) (by decide) ?_
                    refine mm_fgt 7 ?_
                    exact J159 1 ⟨by omega, by omega⟩ (by first | exact Or.inl ⟨rfl, w140_0⟩ | exact Or.inr ⟨rfl, w144_0⟩ | exact Or.inl ⟨rfl, ⟨r89, zT2, Or.inl ⟨by omega, ⟨fun _ => by omega, fun _ => trivial⟩⟩⟩⟩ | exact Or.inr ⟨rfl, ⟨r89, zT2, Or.inl ⟨by omega, ⟨False.elim, fun z => by omega⟩⟩⟩⟩)
                · skip
                  refine mm_iload C (mm_dec dk_X12_placeOf 63 rfl) rfl ?_
                  refine mm_iload_n C (mm_dec dk_X12_placeOf 64 rfl) rfl ?_
                  have J140 : ∀ (w140_0 : mm_bY9 h (h.2.1 83 (h.2.1 85 p1)) r15 (mm_w (r22 - r28)) x40_6 p2 True), mm_W x 0 0 140 [mR 66, mI p1, mI p2, mI r15, mI (mm_w (r22 - r28)), mI x40_5, mI x40_6, mU, mU] [] h89c := by
                    intro w140_0
                    refine mm_iconst C (mm_dec dk_X12_placeOf 80 rfl) ⟨by decide, by decide⟩ ?_
                    refine mm_goto (tgt := 159) C (mm_dec dk_X12_placeOf 81 rfl) (by decide) ?_
                    exact J159 1 ⟨by omega, by omega⟩ (by first | exact Or.inl ⟨rfl, w140_0⟩ | exact Or.inr ⟨rfl, w144_0⟩ | exact Or.inl ⟨rfl, ⟨r89, zT2, Or.inl ⟨by omega, ⟨fun _ => by omega, fun _ => trivial⟩⟩⟩⟩ | exact Or.inr ⟨rfl, ⟨r89, zT2, Or.inl ⟨by omega, ⟨False.elim, fun z => by omega⟩⟩⟩⟩)
                  refine mm_icmp_gt (tgt := 140) C (mm_dec dk_X12_placeOf 65 rfl) (by decide) (fun c111 => ?_) (fun c111 => ?_)
                  · skip
                    refine mm_fgt 7 ?_
                    exact J140 (by first | exact ⟨r89, zT2, Or.inr (Or.inl ⟨by omega, by omega, ⟨fun _ => by omega, fun _ => trivial⟩⟩)⟩ | exact ⟨r89, zT2, Or.inr (Or.inr ⟨by omega, by omega, r131, r124, zS1, zF1, ⟨fun _ => by omega, fun _ => trivial⟩⟩)⟩)
                  · skip
                    refine mm_iload C (mm_dec dk_X12_placeOf 66 rfl) rfl ?_
                    refine mm_iload_n C (mm_dec dk_X12_placeOf 67 rfl) rfl ?_
                    have J144 : ∀ (w144_0 : mm_bY9 h (h.2.1 83 (h.2.1 85 p1)) r15 (mm_w (r22 - r28)) x40_6 p2 False), mm_W x 0 0 144 [mR 66, mI p1, mI p2, mI r15, mI (mm_w (r22 - r28)), mI x40_5, mI x40_6, mU, mU] [] h89c := by
                      intro w144_0
                      refine mm_iconst C (mm_dec dk_X12_placeOf 82 rfl) ⟨by decide, by decide⟩ ?_
                      refine mm_goto (tgt := 159) C (mm_dec dk_X12_placeOf 83 rfl) (by decide) ?_
                      exact J159 0 ⟨by omega, by omega⟩ (by first | exact Or.inl ⟨rfl, w140_0⟩ | exact Or.inr ⟨rfl, w144_0⟩ | exact Or.inl ⟨rfl, ⟨r89, zT2, Or.inl ⟨by omega, ⟨fun _ => by omega, fun _ => trivial⟩⟩⟩⟩ | exact Or.inr ⟨rfl, ⟨r89, zT2, Or.inl ⟨by omega, ⟨False.elim, fun z => by omega⟩⟩⟩⟩)
                    refine mm_icmp_ne (tgt := 144) C (mm_dec dk_X12_placeOf 68 rfl) (by decide) (fun c117 => ?_) (fun c117 => ?_)
                    · skip
                      refine mm_fgt 7 ?_
                      exact J144 (by first | exact ⟨r89, zT2, Or.inr (Or.inl ⟨by omega, by omega, ⟨False.elim, fun z => by omega⟩⟩)⟩ | exact ⟨r89, zT2, Or.inr (Or.inr ⟨by omega, by omega, r131, r124, zS1, zF1, ⟨False.elim, fun z => by omega⟩⟩)⟩)
                    · skip
                      refine mm_aload_n C (mm_dec dk_X12_placeOf 69 rfl) rfl ?_
                      refine mm_iload C (mm_dec dk_X12_placeOf 70 rfl) rfl ?_
                      refine mm_iload_n C (mm_dec dk_X12_placeOf 71 rfl) rfl ?_
                      refine mm_cVi (rest := []) C1 ev_X12_326 (mm_dec dk_X12_placeOf 72 rfl) (c_X12_finishOf_q x.2.1 hl (d - 1) (by omega) h89c i89c x40_6 p2 ⟨by omega, by omega⟩) rfl rfl (Nat.le_of_ble_eq_true rfl) ⟨by decide, by decide⟩ rfl (fun r124 h124c hp124 => ?_) (fun _ _ q => q.elim)
                      obtain ⟨b124, z124, y124_0⟩ := hp124
                      rw [z124]
                      have zF1 : mm_fY9 h x40_6 p2 r124 := mm_fY9_fr y124_0 (mm_k2_fr f89c (by decide)) (f89c.2 95 (by decide)) (f89c.1 66 40 (by decide))
                      refine mm_aload_n C (mm_dec dk_X12_placeOf 73 rfl) rfl ?_
                      refine mm_iload C (mm_dec dk_X12_placeOf 74 rfl) rfl ?_
                      refine mm_iload_n C (mm_dec dk_X12_placeOf 75 rfl) rfl ?_
                      refine mm_cVi (rest := [mI r124]) C1 ev_X12_472 (mm_dec dk_X12_placeOf 76 rfl) (c_X12_startOf_q x.2.1 hl (d - 1) (by omega) h89c i89c x40_6 p2 ⟨by omega, by omega⟩) rfl rfl (Nat.le_of_ble_eq_true rfl) ⟨by decide, by decide⟩ rfl (fun r131 h131c hp131 => ?_) (fun _ _ q => q.elim)
                      obtain ⟨b131, z131, y131_0⟩ := hp131
                      rw [z131]
                      have zS1 : mm_sY8 h x40_6 p2 r131 := mm_sY8_fr y131_0 (mm_k2_fr f89c (by decide)) (f89c.2 88 (by decide)) (f89c.2 89 (by decide)) (f89c.2 90 (by decide)) (f89c.2 95 (by decide)) (f89c.1 66 40 (by decide))
                      refine mm_isubw C (mm_dec dk_X12_placeOf 77 rfl) ?_
                      have g64 : -2147483648 ≤ (mm_w (r124 - r131)) ∧ (mm_w (r124 - r131)) < 2147483648 := mm_w_rg _
                      refine mm_iload C (mm_dec dk_X12_placeOf 78 rfl) rfl ?_
                      refine mm_icmp_ge (tgt := 144) C (mm_dec dk_X12_placeOf 79 rfl) (by decide) (fun c137 => ?_) (fun c137 => ?_)
                      · skip
                        refine mm_fgt 7 ?_
                        exact J144 (by first | exact ⟨r89, zT2, Or.inr (Or.inl ⟨by omega, by omega, ⟨False.elim, fun z => by omega⟩⟩)⟩ | exact ⟨r89, zT2, Or.inr (Or.inr ⟨by omega, by omega, r131, r124, zS1, zF1, ⟨False.elim, fun z => by omega⟩⟩)⟩)
                      · skip
                        refine mm_fgt 7 ?_
                        exact J140 (by first | exact ⟨r89, zT2, Or.inr (Or.inl ⟨by omega, by omega, ⟨fun _ => by omega, fun _ => trivial⟩⟩)⟩ | exact ⟨r89, zT2, Or.inr (Or.inr ⟨by omega, by omega, r131, r124, zS1, zF1, ⟨fun _ => by omega, fun _ => trivial⟩⟩)⟩)
              · skip
                refine mm_goto (tgt := 169) C (mm_dec dk_X12_placeOf 49 rfl) (by decide) ?_
                exact J169 x40_5 ⟨by omega, by omega⟩ h75c i75c f75c (by first | exact mm_PY9_n w40_0 (by omega) (by omega) | exact mm_PY9_z w40_0 (by omega) (by omega) (by omega) zZ (by omega) | exact mm_PY9_y w40_0 (by omega) (by omega) (by omega) zZ (by omega) (w159_0.resolve_right (fun z => by have z1 := z.1; omega)).2 | exact mm_PY9_w w40_0 (by omega) (by omega) (by omega) zZ (by omega) (w159_0.resolve_left (fun z => by have z1 := z.1; omega)).2)
    refine mm_istoreL (ls2 := [mR 66, mI p1, mI p2, mI r15, mI (mm_w (r22 - r28)), mI 1, mI 0, mU, mU]) C (mm_dec dk_X12_placeOf 26 rfl) (by decide) rfl ?_
    exact J40 (((40 - 0) : Int) + 1).toNat 1 ⟨by omega, by omega⟩ 0 ⟨by omega, by omega⟩ h15c i15c f15c (by first | exact w169_0 | exact (show (1 : Int) = 1 from rfl)) (by omega) (by omega)
  · skip
    refine mm_iconst C (mm_dec dk_X12_placeOf 6 rfl) ⟨by decide, by decide⟩ ?_
    exact mm_iret C T (mm_dec dk_X12_placeOf 7 rfl) (by decide : 0 ≤ 0) (by decide : 0 ≤ 0) ⟨_, rfl, ⟨⟨by omega, by omega⟩, i3c, f3c, by first | exact ⟨h3c, r3, y3_0, Or.inl ⟨by omega, rfl⟩⟩ | exact ⟨h3c, r3, y3_0, Or.inr ⟨by omega, r15, r28, r22, zO, zS0, zF0, (by rw [show h.1 66 23 = x40_6 by omega]; exact w40_0)⟩⟩⟩⟩
set_option maxRecDepth 100000 in
set_option maxHeartbeats 4000000 in
theorem c_X12_timeOf_q (l : Launch) (hl : l.stackTraces = false) (d : Nat) (hd : 6 ≤ d) (h : mH) (i0 : mm_inv h) (p1 : Int) (p2 : Int) (bp1 : 0 ≤ p1 ∧ p1 ≤ 9) (t0 : mm_RO h) : mm_Met l d yX12_timeOf cX12_timeOf 6 (some .int) [mR 66, mI p1, mI p2] h (mm_pi fun r h2 => (-2147483648 ≤ r ∧ r ≤ 2147483647) ∧ mm_inv h2 ∧ mm_fr [(66, 39), (66, 48), (66, 52), (66, 53), (66, 54), (66, 87), (66, 88), (66, 89)] [91, 98, 99, 100, 110, 111] h h2 ∧ mm_UY9 h p1 p2 (h2.1 66 89) r) mm_nx 0 0 := by
  refine mm_ofW (ls := [mR 66, mI p1, mI p2, mU, mU, mU]) hl (by decide) rfl (Nat.le_of_ble_eq_true rfl) ?_
  intro x hxl C T hnm htb
  subst hxl
  have C1 := mm_OK_le (d' := d - 1 + 1) (by omega) C
  refine mm_rng (fun hr _ => ?_)
  have ap1 : -2147483648 ≤ p1 ∧ p1 < 2147483648 := mm_ok_at hr (i := 1) rfl
  have ap2 : -2147483648 ≤ p2 ∧ p2 < 2147483648 := mm_ok_at hr (i := 2) rfl
  have f0 : mm_fr [(66, 39), (66, 48), (66, 52), (66, 53), (66, 54), (66, 87), (66, 88), (66, 89)] [91, 98, 99, 100, 110, 111] h h := mm_fr_rf
  have g1 : -2147483648 ≤ h.1 66 52 ∧ h.1 66 52 ≤ 2147483647 := i0.1 66 52
  have g2 : -2147483648 ≤ h.1 66 53 ∧ h.1 66 53 ≤ 2147483647 := i0.1 66 53
  have g3 : -2147483648 ≤ h.1 66 54 ∧ h.1 66 54 ≤ 2147483647 := i0.1 66 54
  have g4 : -2147483648 ≤ h.1 66 87 ∧ h.1 66 87 ≤ 2147483647 := i0.1 66 87
  have g5 : 0 ≤ h.1 66 88 ∧ h.1 66 88 ≤ 1 := i0.1 66 88
  have g6 : 0 ≤ h.1 66 89 ∧ h.1 66 89 ≤ 1 := i0.1 66 89
  refine mm_iconst C (mm_dec dk_X12_timeOf 0 rfl) ⟨by decide, by decide⟩ ?_
  refine mm_istore_nL (ls2 := [mR 66, mI p1, mI p2, mI 0, mU, mU]) C (mm_dec dk_X12_timeOf 1 rfl) (by decide) rfl ?_
  refine mm_aload_n C (mm_dec dk_X12_timeOf 2 rfl) rfl ?_
  refine mm_iconst C (mm_dec dk_X12_timeOf 3 rfl) ⟨by decide, by decide⟩ ?_
  refine mm_puti C fl_X12_505 (mm_dec dk_X12_timeOf 4 rfl) rfl rfl rfl (Or.inr ⟨rfl, rfl, by omega⟩) ?_
  have i1 : mm_inv (mm_pf h 66 89 1) := mm_inv_pf i0 (show 0 ≤ 1 ∧ 1 ≤ 1 from ⟨by omega, by omega⟩) (by decide)
  have f1 : mm_fr [(66, 39), (66, 48), (66, 52), (66, 53), (66, 54), (66, 87), (66, 88), (66, 89)] [91, 98, 99, 100, 110, 111] h (mm_pf h 66 89 1) := mm_fr_pf f0 (by decide)
  obtain ⟨h1, eh1⟩ : ∃ z, z = mm_pf h 66 89 1 := ⟨_, rfl⟩
  rw [← eh1] at i1 f1 ⊢
  have qh1 : h1.1 66 89 = 1 := by rw [eh1]; exact mm_pf_same _ _ _ _
  have qh1_7 : h1.1 66 52 = h.1 66 52 := by rw [eh1]; exact mm_pf_ne _ _ (by decide)
  have qh1_8 : h1.1 66 53 = h.1 66 53 := by rw [eh1]; exact mm_pf_ne _ _ (by decide)
  have qh1_9 : h1.1 66 54 = h.1 66 54 := by rw [eh1]; exact mm_pf_ne _ _ (by decide)
  have qh1_10 : h1.1 66 87 = h.1 66 87 := by rw [eh1]; exact mm_pf_ne _ _ (by decide)
  have qh1_11 : h1.1 66 88 = h.1 66 88 := by rw [eh1]; exact mm_pf_ne _ _ (by decide)
  refine mm_iconst C (mm_dec dk_X12_timeOf 5 rfl) ⟨by decide, by decide⟩ ?_
  have J10 : ∀ (n : Nat) (x10_3 : Int) (bx10_3 : -2147483648 ≤ x10_3 ∧ x10_3 ≤ 2147483647) (x10_4 : Int) (bx10_4 : 0 ≤ x10_4 ∧ x10_4 ≤ 3) (h10_ : mH) (i10_ : mm_inv h10_) (f10_ : mm_fr [(66, 39), (66, 48), (66, 52), (66, 53), (66, 54), (66, 87), (66, 88), (66, 89)] [91, 98, 99, 100, 110, 111] h h10_) (w10_0 : mm_tY9 h p1 p2 (x10_4).toNat x10_3) (w10_1 : h10_.1 66 89 = 1), (3 - x10_4 : Int) < n → mm_W x 0 0 10 [mR 66, mI p1, mI p2, mI x10_3, mI x10_4, mU] [] h10_ := by
    intro n
    induction n with
    | zero =>
      intro x10_3 bx10_3 x10_4 bx10_4 h10_ i10_ f10_ w10_0 w10_1 hm
      have g12 : -2147483648 ≤ h10_.1 66 52 ∧ h10_.1 66 52 ≤ 2147483647 := i10_.1 66 52
      have g13 : -2147483648 ≤ h10_.1 66 53 ∧ h10_.1 66 53 ≤ 2147483647 := i10_.1 66 53
      have g14 : -2147483648 ≤ h10_.1 66 54 ∧ h10_.1 66 54 ≤ 2147483647 := i10_.1 66 54
      have g15 : -2147483648 ≤ h10_.1 66 87 ∧ h10_.1 66 87 ≤ 2147483647 := i10_.1 66 87
      have g16 : 0 ≤ h10_.1 66 88 ∧ h10_.1 66 88 ≤ 1 := i10_.1 66 88
      have g17 : 0 ≤ h10_.1 66 89 ∧ h10_.1 66 89 ≤ 1 := i10_.1 66 89
      exfalso; omega
    | succ n ih10 =>
      intro x10_3 bx10_3 x10_4 bx10_4 h10_ i10_ f10_ w10_0 w10_1 hm10
      have g18 : -2147483648 ≤ h10_.1 66 52 ∧ h10_.1 66 52 ≤ 2147483647 := i10_.1 66 52
      have g19 : -2147483648 ≤ h10_.1 66 53 ∧ h10_.1 66 53 ≤ 2147483647 := i10_.1 66 53
      have g20 : -2147483648 ≤ h10_.1 66 54 ∧ h10_.1 66 54 ≤ 2147483647 := i10_.1 66 54
      have g21 : -2147483648 ≤ h10_.1 66 87 ∧ h10_.1 66 87 ≤ 2147483647 := i10_.1 66 87
      have g22 : 0 ≤ h10_.1 66 88 ∧ h10_.1 66 88 ≤ 1 := i10_.1 66 88
      have g23 : 0 ≤ h10_.1 66 89 ∧ h10_.1 66 89 ≤ 1 := i10_.1 66 89
      have z90 : ∀ j, h10_.2.1 90 j = h.2.1 90 j := fun j => f10_.2 90 (by decide) j
      refine mm_iload C (mm_dec dk_X12_timeOf 7 rfl) rfl ?_
      refine mm_iconst C (mm_dec dk_X12_timeOf 8 rfl) ⟨by decide, by decide⟩ ?_
      refine mm_icmp_ge (tgt := 81) C (mm_dec dk_X12_timeOf 9 rfl) (by decide) (fun c13 => ?_) (fun c13 => ?_)
      · skip
        refine mm_iload_n C (mm_dec dk_X12_timeOf 47 rfl) rfl ?_
        refine mm_aload_n C (mm_dec dk_X12_timeOf 48 rfl) rfl ?_
        refine mm_aload_n C (mm_dec dk_X12_timeOf 49 rfl) rfl ?_
        refine mm_getr (t := 90) C fl_X12_81 (mm_dec dk_X12_timeOf 50 rfl) rfl rfl (mm_ref i10_ rfl) ?_
        refine mm_iconst C (mm_dec dk_X12_timeOf 51 rfl) ⟨by decide, by decide⟩ ?_
        refine mm_iload_n C (mm_dec dk_X12_timeOf 52 rfl) rfl ?_
        refine mm_imul C (mm_dec dk_X12_timeOf 53 rfl) ⟨by omega, by omega⟩ ?_
        refine mm_iconst C (mm_dec dk_X12_timeOf 54 rfl) ⟨by decide, by decide⟩ ?_
        refine mm_iadd C (mm_dec dk_X12_timeOf 55 rfl) ⟨by omega, by omega⟩ ?_
        refine mm_iald C (mm_dec dk_X12_timeOf 56 rfl) rfl (by omega) (by omega) ?_
        have g24 : 0 ≤ (h10_.2.1 90 ((3 * p1) + 2)) ∧ (h10_.2.1 90 ((3 * p1) + 2)) ≤ 39 := i10_.2.1 90 ((3 * p1) + 2)
        refine mm_iload_n C (mm_dec dk_X12_timeOf 57 rfl) rfl ?_
        refine mm_cVi (rest := [mI x10_3]) C1 ev_X12_326 (mm_dec dk_X12_timeOf 58 rfl) (c_X12_finishOf_q x.2.1 hl (d - 1) (by omega) h10_ i10_ (h10_.2.1 90 ((3 * p1) + 2)) p2 ⟨by omega, by omega⟩) rfl rfl (Nat.le_of_ble_eq_true rfl) ⟨by decide, by decide⟩ rfl (fun r94 h94c hp94 => ?_) (fun _ _ q => q.elim)
        obtain ⟨b94, z94, y94_0⟩ := hp94
        rw [z94]
        have zF1 : mm_fY9 h (h.2.1 90 (3 * p1 + 2)) p2 r94 := (by rw [← z90]; exact mm_fY9_fr y94_0 (mm_k2_fr f10_ (by decide)) (f10_.2 95 (by decide)) (f10_.1 66 40 (by decide)))
        refine mm_iaddw C (mm_dec dk_X12_timeOf 59 rfl) ?_
        have g26 : -2147483648 ≤ (mm_w (x10_3 + r94)) ∧ (mm_w (x10_3 + r94)) < 2147483648 := mm_w_rg _
        refine mm_aload_n C (mm_dec dk_X12_timeOf 60 rfl) rfl ?_
        refine mm_aload_n C (mm_dec dk_X12_timeOf 61 rfl) rfl ?_
        refine mm_getr (t := 90) C fl_X12_81 (mm_dec dk_X12_timeOf 62 rfl) rfl rfl (mm_ref i10_ rfl) ?_
        refine mm_iconst C (mm_dec dk_X12_timeOf 63 rfl) ⟨by decide, by decide⟩ ?_
        refine mm_iload_n C (mm_dec dk_X12_timeOf 64 rfl) rfl ?_
        refine mm_imul C (mm_dec dk_X12_timeOf 65 rfl) ⟨by omega, by omega⟩ ?_
        refine mm_iald C (mm_dec dk_X12_timeOf 66 rfl) rfl (by omega) (by omega) ?_
        have g27 : 0 ≤ (h10_.2.1 90 (3 * p1)) ∧ (h10_.2.1 90 (3 * p1)) ≤ 39 := i10_.2.1 90 (3 * p1)
        refine mm_iload_n C (mm_dec dk_X12_timeOf 67 rfl) rfl ?_
        refine mm_cVi (rest := [mI (mm_w (x10_3 + r94))]) C1 ev_X12_472 (mm_dec dk_X12_timeOf 68 rfl) (c_X12_startOf_q x.2.1 hl (d - 1) (by omega) h10_ i10_ (h10_.2.1 90 (3 * p1)) p2 ⟨by omega, by omega⟩) rfl rfl (Nat.le_of_ble_eq_true rfl) ⟨by decide, by decide⟩ rfl (fun r108 h108c hp108 => ?_) (fun _ _ q => q.elim)
        obtain ⟨b108, z108, y108_0⟩ := hp108
        rw [z108]
        have zS1 : mm_sY8 h (h.2.1 90 (3 * p1)) p2 r108 := (by rw [← z90]; exact mm_sY8_fr y108_0 (mm_k2_fr f10_ (by decide)) (f10_.2 88 (by decide)) (f10_.2 89 (by decide)) (f10_.2 90 (by decide)) (f10_.2 95 (by decide)) (f10_.1 66 40 (by decide)))
        refine mm_isubw C (mm_dec dk_X12_timeOf 69 rfl) ?_
        have g29 : -2147483648 ≤ (mm_w ((mm_w (x10_3 + r94)) - r108)) ∧ (mm_w ((mm_w (x10_3 + r94)) - r108)) < 2147483648 := mm_w_rg _
        exact mm_iret C T (mm_dec dk_X12_timeOf 70 rfl) (by decide : 0 ≤ 0) (by decide : 0 ≤ 0) ⟨_, rfl, ⟨⟨by omega, by omega⟩, i10_, f10_, by first | exact Or.inr ⟨by omega, rfl, x10_4.toNat, x10_3, h34c, r34, by omega, w10_0, by rw [Int.toNat_of_nonneg (by omega)]; exact zZ, by omega⟩ | exact Or.inl ⟨by omega, x10_3, r94, r108, (by rw [show (3 : Nat) = x10_4.toNat by omega]; exact w10_0), zF1, zS1, rfl⟩⟩⟩
      · skip
        refine mm_aload_n C (mm_dec dk_X12_timeOf 10 rfl) rfl ?_
        refine mm_getr (t := 90) C fl_X12_81 (mm_dec dk_X12_timeOf 11 rfl) rfl rfl (mm_ref i10_ rfl) ?_
        refine mm_iconst C (mm_dec dk_X12_timeOf 12 rfl) ⟨by decide, by decide⟩ ?_
        refine mm_iload_n C (mm_dec dk_X12_timeOf 13 rfl) rfl ?_
        refine mm_imul C (mm_dec dk_X12_timeOf 14 rfl) ⟨by omega, by omega⟩ ?_
        refine mm_iload C (mm_dec dk_X12_timeOf 15 rfl) rfl ?_
        refine mm_iadd C (mm_dec dk_X12_timeOf 16 rfl) ⟨by omega, by omega⟩ ?_
        refine mm_iald C (mm_dec dk_X12_timeOf 17 rfl) rfl (by omega) (by omega) ?_
        have g30 : 0 ≤ (h10_.2.1 90 ((3 * p1) + x10_4)) ∧ (h10_.2.1 90 ((3 * p1) + x10_4)) ≤ 39 := i10_.2.1 90 ((3 * p1) + x10_4)
        refine mm_istoreL (ls2 := [mR 66, mI p1, mI p2, mI x10_3, mI x10_4, mI (h10_.2.1 90 ((3 * p1) + x10_4))]) C (mm_dec dk_X12_timeOf 18 rfl) (by decide) rfl ?_
        refine mm_aload_n C (mm_dec dk_X12_timeOf 19 rfl) rfl ?_
        refine mm_aload_n C (mm_dec dk_X12_timeOf 20 rfl) rfl ?_
        refine mm_iload C (mm_dec dk_X12_timeOf 21 rfl) rfl ?_
        refine mm_iload_n C (mm_dec dk_X12_timeOf 22 rfl) rfl ?_
        refine mm_cVi (rest := [mR 66]) C1 ev_X12_490 (mm_dec dk_X12_timeOf 23 rfl) (c_X12_stateOf_q x.2.1 hl (d - 1) (by omega) h10_ i10_ (h10_.2.1 90 ((3 * p1) + x10_4)) p2 ⟨by omega, by omega⟩ (by first | exact mm_RO_fr t0 f10_ (by decide) | omega)) rfl rfl (Nat.le_of_ble_eq_true rfl) ⟨by decide, by decide⟩ rfl (fun r34 h34c hp34 => ?_) (fun _ _ q => q.elim)
        obtain ⟨b34, i34c, g34c, y34_0⟩ := hp34
        have f34c : mm_fr [(66, 39), (66, 48), (66, 52), (66, 53), (66, 54), (66, 87), (66, 88), (66, 89)] [91, 98, 99, 100, 110, 111] h h34c := mm_fr_tr f10_ g34c (by decide +kernel)
        have q34c_32 : h34c.1 66 89 = h10_.1 66 89 := g34c.1 66 89 (by decide)
        have g33 : -2147483648 ≤ (h34c.1 66 52) ∧ (h34c.1 66 52) ≤ 2147483647 := i34c.1 66 52
        have g34 : -2147483648 ≤ (h34c.1 66 53) ∧ (h34c.1 66 53) ≤ 2147483647 := i34c.1 66 53
        have g35 : -2147483648 ≤ (h34c.1 66 54) ∧ (h34c.1 66 54) ≤ 2147483647 := i34c.1 66 54
        have g36 : -2147483648 ≤ (h34c.1 66 87) ∧ (h34c.1 66 87) ≤ 2147483647 := i34c.1 66 87
        have g37 : 0 ≤ (h34c.1 66 88) ∧ (h34c.1 66 88) ≤ 1 := i34c.1 66 88
        have zZ : mm_ZY9 h h34c (h.2.1 90 (3 * p1 + x10_4)) p2 r34 := (by rw [← z90]; exact mm_ZY9_fr y34_0 (mm_k2_fr f10_ (by decide)) (f10_.2 79 (by decide)) (f10_.2 80 (by decide)) (f10_.2 82 (by decide)) (f10_.2 83 (by decide)) (f10_.2 84 (by decide)) (f10_.2 85 (by decide)) (f10_.2 86 (by decide)) (f10_.2 87 (by decide)) (f10_.2 88 (by decide)) (f10_.2 89 (by decide)) (f10_.2 90 (by decide)) (f10_.2 94 (by decide)) (f10_.2 95 (by decide)) (f10_.2 112 (by decide)) (f10_.2 113 (by decide)) (f10_.2 114 (by decide)) (f10_.2 115 (by decide)) (f10_.2 116 (by decide)) (f10_.2 102 (by decide)) (f10_.2 103 (by decide)) (f10_.2 104 (by decide)) (f10_.2 105 (by decide)) (f10_.2 106 (by decide)) (f10_.2 107 (by decide)) (f10_.1 66 40 (by decide)) (f10_.1 66 82 (by decide)) (f10_.1 66 67 (by decide)) (f10_.1 66 68 (by decide)))
        refine mm_iconst C (mm_dec dk_X12_timeOf 24 rfl) ⟨by decide, by decide⟩ ?_
        have J46 : ∀ (s46_1 : Int) (bs46_1 : 0 ≤ s46_1 ∧ s46_1 ≤ 1) (w46_0 : ((s46_1 = 1 ∧ r34 = 4) ∨ (s46_1 = 0 ∧ r34 ≠ 4))) (vs46_1 : (r34 ≠ 4 ∧ s46_1 = 0) ∨ (r34 = 4 ∧ s46_1 = 1)), mm_W x 0 0 46 [mR 66, mI p1, mI p2, mI x10_3, mI x10_4, mI (h10_.2.1 90 ((3 * p1) + x10_4))] [mI s46_1, mR 66] h34c := by
          intro s46_1 bs46_1 w46_0 vs46_1
          refine mm_puti C fl_X12_505 (mm_dec dk_X12_timeOf 29 rfl) rfl rfl rfl (Or.inr ⟨rfl, rfl, by omega⟩) ?_
          have i3 : mm_inv (mm_pf h34c 66 89 s46_1) := mm_inv_pf i34c (show 0 ≤ s46_1 ∧ s46_1 ≤ 1 from ⟨by omega, by omega⟩) (by decide)
          have f3 : mm_fr [(66, 39), (66, 48), (66, 52), (66, 53), (66, 54), (66, 87), (66, 88), (66, 89)] [91, 98, 99, 100, 110, 111] h (mm_pf h34c 66 89 s46_1) := mm_fr_pf f34c (by decide)
          obtain ⟨h3, eh3⟩ : ∃ z, z = mm_pf h34c 66 89 s46_1 := ⟨_, rfl⟩
          rw [← eh3] at i3 f3 ⊢
          have qh3 : h3.1 66 89 = s46_1 := by rw [eh3]; exact mm_pf_same _ _ _ _
          have qh3_38 : h3.1 66 52 = h34c.1 66 52 := by rw [eh3]; exact mm_pf_ne _ _ (by decide)
          have qh3_39 : h3.1 66 53 = h34c.1 66 53 := by rw [eh3]; exact mm_pf_ne _ _ (by decide)
          have qh3_40 : h3.1 66 54 = h34c.1 66 54 := by rw [eh3]; exact mm_pf_ne _ _ (by decide)
          have qh3_41 : h3.1 66 87 = h34c.1 66 87 := by rw [eh3]; exact mm_pf_ne _ _ (by decide)
          have qh3_42 : h3.1 66 88 = h34c.1 66 88 := by rw [eh3]; exact mm_pf_ne _ _ (by decide)
          refine mm_aload_n C (mm_dec dk_X12_timeOf 30 rfl) rfl ?_
          refine mm_geti C fl_X12_505 (mm_dec dk_X12_timeOf 31 rfl) rfl rfl (Or.inr rfl) ?_
          refine mm_if_ne (tgt := 60) C (mm_dec dk_X12_timeOf 32 rfl) (by decide) (fun c53 => ?_) (fun c53 => ?_)
          · skip
            refine mm_iload_n C (mm_dec dk_X12_timeOf 35 rfl) rfl ?_
            refine mm_aload_n C (mm_dec dk_X12_timeOf 36 rfl) rfl ?_
            refine mm_geti C fl_X12_475 (mm_dec dk_X12_timeOf 37 rfl) rfl rfl (Or.inl rfl) ?_
            refine mm_aload_n C (mm_dec dk_X12_timeOf 38 rfl) rfl ?_
            refine mm_iload C (mm_dec dk_X12_timeOf 39 rfl) rfl ?_
            refine mm_iload_n C (mm_dec dk_X12_timeOf 40 rfl) rfl ?_
            refine mm_cVi (rest := [mI (h3.1 66 87), mI x10_3]) C1 ev_X12_493 (mm_dec dk_X12_timeOf 41 rfl) (c_X12_added_q x.2.1 hl (d - 1) (by omega) h3 i3 (h10_.2.1 90 ((3 * p1) + x10_4)) p2) rfl rfl (Nat.le_of_ble_eq_true rfl) ⟨by decide, by decide⟩ rfl (fun r69 h69c hp69 => ?_) (fun _ _ q => q.elim)
            obtain ⟨b69, z69, y69_0⟩ := hp69
            rw [z69]
            have zA : r69 = mm_aY9 h (h.2.1 90 (3 * p1 + x10_4)) p2 := (by rw [← z90]; exact mm_aY9_fr y69_0 (f3.2 112 (by decide)) (f3.2 113 (by decide)) (f3.2 114 (by decide)) (f3.2 115 (by decide)) (f3.1 66 82 (by decide)))
            refine mm_iaddw C (mm_dec dk_X12_timeOf 42 rfl) ?_
            have g44 : -2147483648 ≤ (mm_w ((h3.1 66 87) + r69)) ∧ (mm_w ((h3.1 66 87) + r69)) < 2147483648 := mm_w_rg _
            refine mm_iaddw C (mm_dec dk_X12_timeOf 43 rfl) ?_
            have g45 : -2147483648 ≤ (mm_w (x10_3 + (mm_w ((h3.1 66 87) + r69)))) ∧ (mm_w (x10_3 + (mm_w ((h3.1 66 87) + r69)))) < 2147483648 := mm_w_rg _
            refine mm_istore_nL (ls2 := [mR 66, mI p1, mI p2, mI (mm_w (x10_3 + (mm_w ((h3.1 66 87) + r69)))), mI x10_4, mI (h10_.2.1 90 ((3 * p1) + x10_4))]) C (mm_dec dk_X12_timeOf 44 rfl) (by decide) rfl ?_
            refine mm_iincL (ls2 := [mR 66, mI p1, mI p2, mI (mm_w (x10_3 + (mm_w ((h3.1 66 87) + r69)))), mI (x10_4 + 1), mI (h10_.2.1 90 ((3 * p1) + x10_4))]) C (mm_dec dk_X12_timeOf 45 rfl) rfl (by decide) ⟨by omega, by omega⟩ rfl ?_
            refine mm_goto (tgt := 10) C (mm_dec dk_X12_timeOf 46 rfl) (by decide) ?_
            refine mm_fgt 5 ?_
            exact ih10 (mm_w (x10_3 + (mm_w ((h3.1 66 87) + r69)))) ⟨by omega, by omega⟩ (x10_4 + 1) ⟨by omega, by omega⟩ h3 i3 f3 (by first | exact (show (0 : Int) = 0 from rfl) | exact mm_tY9_s w10_0 (by omega) rfl zZ (by omega) (by rw [← zA, show h3.1 66 87 = h34c.1 66 87 by omega])) (by omega) (by omega)
          · skip
            refine mm_ldcw (z := -100000) C (mm_dec dk_X12_timeOf 33 rfl) kc_X12_295 (by decide) ?_
            exact mm_iret C T (mm_dec dk_X12_timeOf 34 rfl) (by decide : 0 ≤ 0) (by decide : 0 ≤ 0) ⟨_, rfl, ⟨⟨by omega, by omega⟩, i3, f3, by first | exact Or.inr ⟨by omega, rfl, x10_4.toNat, x10_3, h34c, r34, by omega, w10_0, by rw [Int.toNat_of_nonneg (by omega)]; exact zZ, by omega⟩ | exact Or.inl ⟨by omega, x10_3, r94, r108, (by rw [show (3 : Nat) = x10_4.toNat by omega]; exact w10_0), zF1, zS1, rfl⟩⟩⟩
        refine mm_icmp_ne (tgt := 45) C (mm_dec dk_X12_timeOf 25 rfl) (by decide) (fun c38 => ?_) (fun c38 => ?_)
        · skip
          refine mm_iconst C (mm_dec dk_X12_timeOf 28 rfl) ⟨by decide, by decide⟩ ?_
          exact J46 0 ⟨by omega, by omega⟩ (by omega) (Or.inl ⟨by omega, rfl⟩)
        · skip
          refine mm_iconst C (mm_dec dk_X12_timeOf 26 rfl) ⟨by decide, by decide⟩ ?_
          refine mm_goto (tgt := 46) C (mm_dec dk_X12_timeOf 27 rfl) (by decide) ?_
          exact J46 1 ⟨by omega, by omega⟩ (by omega) (Or.inr (⟨by omega, rfl⟩))
  refine mm_istoreL (ls2 := [mR 66, mI p1, mI p2, mI 0, mI 0, mU]) C (mm_dec dk_X12_timeOf 6 rfl) (by decide) rfl ?_
  exact J10 (((3 - 0) : Int) + 1).toNat 0 ⟨by omega, by omega⟩ 0 ⟨by omega, by omega⟩ h1 i1 f1 (by first | exact (show (0 : Int) = 0 from rfl) | exact mm_tY9_s w10_0 (by omega) rfl zZ (by omega) (by rw [← zA, show h1.1 66 87 = h34c.1 66 87 by omega])) (by omega) (by omega)
