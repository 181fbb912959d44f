set_option maxRecDepth 100000 in
set_option maxHeartbeats 40000000 in
theorem c_X12_expression_q (l : Launch) (hl : l.stackTraces = false) (d : Nat) (hd : 5 ≤ d) (h : mH) (i0 : mm_inv h) (t0 : mm_tok h) (t1 : h.1 66 69 ≤ 1397 + 2 * h.1 66 62) (t2 : mm_aY h) : mm_Met l d yX12_expression cX12_expression 4 (some .int) [mR 66] h (mm_pi fun r h2 => (0 ≤ r ∧ r ≤ 2400) ∧ mm_inv h2 ∧ mm_fr [(66, 57), (66, 58), (66, 60), (66, 61), (66, 62), (66, 63), (66, 64), (66, 65), (66, 66), (66, 69), (66, 70), (66, 71)] [107, 108, 109] h h2 ∧ mm_ex h h2 ∧ r = h.1 66 69 ∧ (h.1 66 57 = 0 → mm_X9 h h2) ∧ (h2.1 66 57 ≠ 0 ∨ (h.1 66 57 = 0 ∧ h2.1 66 58 = h.1 66 58)) ∧ (h.1 66 57 = 0 → mm_X9J h h2)) mm_nx 0 0 := by
  refine mm_ofW (ls := [mR 66, mU, mU, mU]) hl (by decide) rfl (Nat.le_of_ble_eq_true rfl) ?_
  intro x hxl C T hnm htb
  subst hxl
  have C1 := mm_OK_le (d' := d - 1 + 1) (by omega) C
  have f0 : mm_fr [(66, 57), (66, 58), (66, 60), (66, 61), (66, 62), (66, 63), (66, 64), (66, 65), (66, 66), (66, 69), (66, 70), (66, 71)] [107, 108, 109] h h := mm_fr_rf
  have g1 : -2147483648 ≤ h.1 66 57 ∧ h.1 66 57 ≤ 2147483647 := i0.1 66 57
  have g2 : 0 ≤ h.1 66 69 ∧ h.1 66 69 ≤ 2400 := i0.1 66 69
  have g3 : 0 ≤ h.1 66 70 ∧ h.1 66 70 ≤ 520 := i0.1 66 70
  have g4 : 0 ≤ h.1 66 62 ∧ h.1 66 62 ≤ 500 := i0.1 66 62
  have g5 : 0 ≤ h.1 66 60 ∧ h.1 66 60 ≤ 500 := i0.1 66 60
  have g6 : -2147483648 ≤ h.1 66 61 ∧ h.1 66 61 ≤ 2147483647 := i0.1 66 61
  have g7 : 0 ≤ h.1 66 71 ∧ h.1 66 71 ≤ 6 := i0.1 66 71
  have g8 : -2147483648 ≤ h.1 66 58 ∧ h.1 66 58 ≤ 2147483647 := i0.1 66 58
  have g9 : -2147483648 ≤ h.1 66 65 ∧ h.1 66 65 ≤ 2147483647 := i0.1 66 65
  refine mm_aload_n C (mm_dec dk_X12_expression 0 rfl) rfl ?_
  refine mm_geti C fl_X12_401 (mm_dec dk_X12_expression 1 rfl) rfl rfl (Or.inl rfl) ?_
  refine mm_istore_nL (ls2 := [mR 66, mI (h.1 66 69), mU, mU]) C (mm_dec dk_X12_expression 2 rfl) (by decide) rfl ?_
  refine mm_aload_n C (mm_dec dk_X12_expression 3 rfl) rfl ?_
  refine mm_cVi (rest := []) C1 ev_X12_413 (mm_dec dk_X12_expression 4 rfl) (c_X12_isGood x.2.1 hl (d - 1) (by omega) h i0 ) rfl rfl (Nat.le_of_ble_eq_true rfl) ⟨by decide, by decide⟩ rfl (fun r6 h6c hp6 => ?_) (fun _ _ q => q.elim)
  obtain ⟨z6, y6⟩ := hp6
  rw [z6]
  refine mm_if_ne (tgt := 14) C (mm_dec dk_X12_expression 5 rfl) (by decide) (fun c9 => ?_) (fun c9 => ?_)
  · skip
    refine mm_aload_n C (mm_dec dk_X12_expression 8 rfl) rfl ?_
    refine mm_iconst C (mm_dec dk_X12_expression 9 rfl) ⟨by decide, by decide⟩ ?_
    refine mm_puti C fl_X12_404 (mm_dec dk_X12_expression 10 rfl) rfl rfl rfl (Or.inl ⟨rfl, rfl⟩) ?_
    have i1 : mm_inv (mm_pf h 66 70 0) := mm_inv_pf i0 (show 0 ≤ 0 ∧ 0 ≤ 520 from ⟨by omega, by omega⟩) (by decide)
    have f1 : mm_fr [(66, 57), (66, 58), (66, 60), (66, 61), (66, 62), (66, 63), (66, 64), (66, 65), (66, 66), (66, 69), (66, 70), (66, 71)] [107, 108, 109] h (mm_pf h 66 70 0) := mm_fr_pf f0 (by decide)
    obtain ⟨h1, eh1⟩ : ∃ z, z = mm_pf h 66 70 0 := ⟨_, rfl⟩
    rw [← eh1] at i1 f1 ⊢
    have qh1 : h1.1 66 70 = 0 := by rw [eh1]; exact mm_pf_same _ _ _ _
    have qh1_11 : h1.1 66 57 = h.1 66 57 := by rw [eh1]; exact mm_pf_ne _ _ (by decide)
    have qh1_12 : h1.1 66 58 = h.1 66 58 := by rw [eh1]; exact mm_pf_ne _ _ (by decide)
    have qh1_13 : h1.1 66 60 = h.1 66 60 := by rw [eh1]; exact mm_pf_ne _ _ (by decide)
    have qh1_14 : h1.1 66 61 = h.1 66 61 := by rw [eh1]; exact mm_pf_ne _ _ (by decide)
    have qh1_15 : h1.1 66 62 = h.1 66 62 := by rw [eh1]; exact mm_pf_ne _ _ (by decide)
    have qh1_16 : h1.1 66 65 = h.1 66 65 := by rw [eh1]; exact mm_pf_ne _ _ (by decide)
    have qh1_17 : h1.1 66 69 = h.1 66 69 := by rw [eh1]; exact mm_pf_ne _ _ (by decide)
    have qh1_18 : h1.1 66 71 = h.1 66 71 := by rw [eh1]; exact mm_pf_ne _ _ (by decide)
    refine mm_aload_n C (mm_dec dk_X12_expression 11 rfl) rfl ?_
    refine mm_iconst C (mm_dec dk_X12_expression 12 rfl) ⟨by decide, by decide⟩ ?_
    refine mm_puti C fl_X12_426 (mm_dec dk_X12_expression 13 rfl) rfl rfl rfl (Or.inl ⟨rfl, rfl⟩) ?_
    have i2 : mm_inv (mm_pf h1 66 71 0) := mm_inv_pf i1 (show 0 ≤ 0 ∧ 0 ≤ 6 from ⟨by omega, by omega⟩) (by decide)
    have f2 : mm_fr [(66, 57), (66, 58), (66, 60), (66, 61), (66, 62), (66, 63), (66, 64), (66, 65), (66, 66), (66, 69), (66, 70), (66, 71)] [107, 108, 109] h (mm_pf h1 66 71 0) := mm_fr_pf f1 (by decide)
    obtain ⟨h2, eh2⟩ : ∃ z, z = mm_pf h1 66 71 0 := ⟨_, rfl⟩
    rw [← eh2] at i2 f2 ⊢
    have qh2 : h2.1 66 71 = 0 := by rw [eh2]; exact mm_pf_same _ _ _ _
    have qh2_19 : h2.1 66 57 = h1.1 66 57 := by rw [eh2]; exact mm_pf_ne _ _ (by decide)
    have qh2_20 : h2.1 66 58 = h1.1 66 58 := by rw [eh2]; exact mm_pf_ne _ _ (by decide)
    have qh2_21 : h2.1 66 60 = h1.1 66 60 := by rw [eh2]; exact mm_pf_ne _ _ (by decide)
    have qh2_22 : h2.1 66 61 = h1.1 66 61 := by rw [eh2]; exact mm_pf_ne _ _ (by decide)
    have qh2_23 : h2.1 66 62 = h1.1 66 62 := by rw [eh2]; exact mm_pf_ne _ _ (by decide)
    have qh2_24 : h2.1 66 65 = h1.1 66 65 := by rw [eh2]; exact mm_pf_ne _ _ (by decide)
    have qh2_25 : h2.1 66 69 = h1.1 66 69 := by rw [eh2]; exact mm_pf_ne _ _ (by decide)
    have qh2_26 : h2.1 66 70 = h1.1 66 70 := by rw [eh2]; exact mm_pf_ne _ _ (by decide)
    have zE0 := mm_eY_tr (mm_eY_pf eh1 (by decide)) (mm_eY_pf eh2 (by decide))
    refine mm_aload_n C (mm_dec dk_X12_expression 14 rfl) rfl ?_
    refine mm_cVv (rest := []) C1 ev_X12_435 (mm_dec dk_X12_expression 15 rfl) (c_X12_begins_q x.2.1 hl (d - 1) (by omega) h2 i2 (by first | exact mm_eY_a zE0 t2 | omega)) rfl rfl (Nat.le_of_ble_eq_true rfl) ⟨by decide, by decide⟩ rfl (fun h25c hp25 => ?_) (fun _ _ q => q.elim)
    obtain ⟨i25c, g25c, y25_0, y25_1⟩ := hp25
    have f25c : mm_fr [(66, 57), (66, 58), (66, 60), (66, 61), (66, 62), (66, 63), (66, 64), (66, 65), (66, 66), (66, 69), (66, 70), (66, 71)] [107, 108, 109] h h25c := mm_fr_tr f2 g25c (by decide +kernel)
    have q25c_28 : h25c.1 66 60 = h2.1 66 60 := g25c.1 66 60 (by decide)
    have q25c_29 : h25c.1 66 61 = h2.1 66 61 := g25c.1 66 61 (by decide)
    have q25c_30 : h25c.1 66 62 = h2.1 66 62 := g25c.1 66 62 (by decide)
    have q25c_31 : h25c.1 66 65 = h2.1 66 65 := g25c.1 66 65 (by decide)
    have q25c_32 : h25c.1 66 69 = h2.1 66 69 := g25c.1 66 69 (by decide)
    have q25c_33 : h25c.1 66 70 = h2.1 66 70 := g25c.1 66 70 (by decide)
    have g34 : -2147483648 ≤ (h25c.1 66 57) ∧ (h25c.1 66 57) ≤ 2147483647 := i25c.1 66 57
    have g35 : 0 ≤ (h25c.1 66 71) ∧ (h25c.1 66 71) ≤ 6 := i25c.1 66 71
    have g36 : -2147483648 ≤ (h25c.1 66 58) ∧ (h25c.1 66 58) ≤ 2147483647 := i25c.1 66 58
    have zI := mm_e_init eh1 eh2 g25c y25_0 t0
    have zi1 := zI.2.2.2.2.1
    have zi2 := zI.2.2.2.2.2.1
    have zi3 := zI.2.2.2.2.2.2
    refine mm_aload_n C (mm_dec dk_X12_expression 16 rfl) rfl ?_
    refine mm_iconst C (mm_dec dk_X12_expression 17 rfl) ⟨by decide, by decide⟩ ?_
    refine mm_cVv (rest := []) C1 ev_X12_441 (mm_dec dk_X12_expression 18 rfl) (c_X12_operand_q x.2.1 hl (d - 1) (by omega) h25c i25c 1 ⟨by omega, by omega⟩ (by first | exact mm_eY_a ((y25_1).1) (mm_eY_a zE0 t2) | exact zI.1 | exact zI.2.1 | omega) (by first | exact mm_eY_a ((y25_1).1) (mm_eY_a zE0 t2) | exact zI.1 | exact zI.2.1 | omega) (by first | exact mm_eY_a ((y25_1).1) (mm_eY_a zE0 t2) | exact zI.1 | exact zI.2.1 | omega) (by first | exact mm_eY_a ((y25_1).1) (mm_eY_a zE0 t2) | exact zI.1 | exact zI.2.1 | omega) (by first | exact mm_eY_a ((y25_1).1) (mm_eY_a zE0 t2) | exact zI.1 | exact zI.2.1 | omega)) rfl rfl (Nat.le_of_ble_eq_true rfl) ⟨by decide, by decide⟩ rfl (fun h30c hp30 => ?_) (fun _ _ q => q.elim)
    obtain ⟨i30c, g30c, y30_0, y30_1, y30_2, y30_3⟩ := hp30
    have f30c : mm_fr [(66, 57), (66, 58), (66, 60), (66, 61), (66, 62), (66, 63), (66, 64), (66, 65), (66, 66), (66, 69), (66, 70), (66, 71)] [107, 108, 109] h h30c := mm_fr_tr f25c g30c (by decide +kernel)
    have g38 : -2147483648 ≤ (h30c.1 66 57) ∧ (h30c.1 66 57) ≤ 2147483647 := i30c.1 66 57
    have g39 : 0 ≤ (h30c.1 66 69) ∧ (h30c.1 66 69) ≤ 2400 := i30c.1 66 69
    have g40 : 0 ≤ (h30c.1 66 70) ∧ (h30c.1 66 70) ≤ 520 := i30c.1 66 70
    have g41 : 0 ≤ (h30c.1 66 62) ∧ (h30c.1 66 62) ≤ 500 := i30c.1 66 62
    have g42 : 0 ≤ (h30c.1 66 60) ∧ (h30c.1 66 60) ≤ 500 := i30c.1 66 60
    have g43 : -2147483648 ≤ (h30c.1 66 61) ∧ (h30c.1 66 61) ≤ 2147483647 := i30c.1 66 61
    have g44 : 0 ≤ (h30c.1 66 71) ∧ (h30c.1 66 71) ≤ 6 := i30c.1 66 71
    have g45 : -2147483648 ≤ (h30c.1 66 58) ∧ (h30c.1 66 58) ≤ 2147483647 := i30c.1 66 58
    have g46 : -2147483648 ≤ (h30c.1 66 65) ∧ (h30c.1 66 65) ≤ 2147483647 := i30c.1 66 65
    refine mm_iconst C (mm_dec dk_X12_expression 19 rfl) ⟨by decide, by decide⟩ ?_
    have J35 : ∀ (n : Nat) (x35_2 : Int) (bx35_2 : 0 ≤ x35_2 ∧ x35_2 ≤ 1) (h35_ : mH) (i35_ : mm_inv h35_) (f35_ : mm_fr [(66, 57), (66, 58), (66, 60), (66, 61), (66, 62), (66, 63), (66, 64), (66, 65), (66, 66), (66, 69), (66, 70), (66, 71)] [107, 108, 109] h h35_) (w35_0 : mm_e1 h1 (h.1 66 69) (h.1 66 62) h35_) (w35_1 : mm_I35 h h35_ x35_2) (w35_2 : (h35_.1 66 57 ≠ 0 ∨ (h.1 66 57 = 0 ∧ h35_.1 66 58 = h.1 66 58))) (w35_3 : mm_I35J h h35_), (2 * (500 - h35_.1 66 62) + x35_2 : Int) < n → mm_W x 0 0 35 [mR 66, mI (h.1 66 69), mI x35_2, mU] [] h35_ := by
      intro n
      induction n with
      | zero =>
        intro x35_2 bx35_2 h35_ i35_ f35_ w35_0 w35_1 w35_2 w35_3 hm
        have g47 : -2147483648 ≤ h35_.1 66 57 ∧ h35_.1 66 57 ≤ 2147483647 := i35_.1 66 57
        have g48 : 0 ≤ h35_.1 66 69 ∧ h35_.1 66 69 ≤ 2400 := i35_.1 66 69
        have g49 : 0 ≤ h35_.1 66 70 ∧ h35_.1 66 70 ≤ 520 := i35_.1 66 70
        have g50 : 0 ≤ h35_.1 66 62 ∧ h35_.1 66 62 ≤ 500 := i35_.1 66 62
        have g51 : 0 ≤ h35_.1 66 60 ∧ h35_.1 66 60 ≤ 500 := i35_.1 66 60
        have g52 : -2147483648 ≤ h35_.1 66 61 ∧ h35_.1 66 61 ≤ 2147483647 := i35_.1 66 61
        have g53 : 0 ≤ h35_.1 66 71 ∧ h35_.1 66 71 ≤ 6 := i35_.1 66 71
        have g54 : -2147483648 ≤ h35_.1 66 58 ∧ h35_.1 66 58 ≤ 2147483647 := i35_.1 66 58
        have g55 : -2147483648 ≤ h35_.1 66 65 ∧ h35_.1 66 65 ≤ 2147483647 := i35_.1 66 65
        exfalso; omega
      | succ n ih35 =>
        intro x35_2 bx35_2 h35_ i35_ f35_ w35_0 w35_1 w35_2 w35_3 hm35
        clear qh2 qh2_19 qh2_20 qh2_21 qh2_22 qh2_23 qh2_24 qh2_25 qh2_26 q25c_28 q25c_29 q25c_30 q25c_31 q25c_32 q25c_33 g34 g35 g36 zi1 zi2 zi3 g38 g39 g40 g41 g42 g43 g44 g45 g46 y25_1 y30_0 y30_1 y30_2 y30_3
        have g56 : -2147483648 ≤ h35_.1 66 57 ∧ h35_.1 66 57 ≤ 2147483647 := i35_.1 66 57
        have g57 : 0 ≤ h35_.1 66 69 ∧ h35_.1 66 69 ≤ 2400 := i35_.1 66 69
        have g58 : 0 ≤ h35_.1 66 70 ∧ h35_.1 66 70 ≤ 520 := i35_.1 66 70
        have g59 : 0 ≤ h35_.1 66 62 ∧ h35_.1 66 62 ≤ 500 := i35_.1 66 62
        have g60 : 0 ≤ h35_.1 66 60 ∧ h35_.1 66 60 ≤ 500 := i35_.1 66 60
        have g61 : -2147483648 ≤ h35_.1 66 61 ∧ h35_.1 66 61 ≤ 2147483647 := i35_.1 66 61
        have g62 : 0 ≤ h35_.1 66 71 ∧ h35_.1 66 71 ≤ 6 := i35_.1 66 71
        have g63 : -2147483648 ≤ h35_.1 66 58 ∧ h35_.1 66 58 ≤ 2147483647 := i35_.1 66 58
        have g64 : -2147483648 ≤ h35_.1 66 65 ∧ h35_.1 66 65 ≤ 2147483647 := i35_.1 66 65
        have zm := w35_0.1.1.2.2.2.1
        have zt := w35_0.1.1.2.2.1
        have zu := w35_0.1.1.2.2.2.2.2
        have tf35 := mm_cY_h w35_1.2.1
        refine mm_iload_n C (mm_dec dk_X12_expression 21 rfl) rfl ?_
        have J354 : ∀ (w354_0 : (x35_2 = 0 ∨ h35_.1 66 57 ≠ 0)), mm_W x 0 0 354 [mR 66, mI (h.1 66 69), mU, mU] [] h35_ := by
          intro w354_0
          refine mm_aload_n C (mm_dec dk_X12_expression 182 rfl) rfl ?_
          refine mm_cVi (rest := []) C1 ev_X12_413 (mm_dec dk_X12_expression 183 rfl) (c_X12_isGood x.2.1 hl (d - 1) (by omega) h35_ i35_ ) rfl rfl (Nat.le_of_ble_eq_true rfl) ⟨by decide, by decide⟩ rfl (fun r355 h355c hp355 => ?_) (fun _ _ q => q.elim)
          obtain ⟨z355, y355⟩ := hp355
          rw [z355]
          have J374 : ∀ (h374_ : mH) (i374_ : mm_inv h374_) (f374_ : mm_fr [(66, 57), (66, 58), (66, 60), (66, 61), (66, 62), (66, 63), (66, 64), (66, 65), (66, 66), (66, 69), (66, 70), (66, 71)] [107, 108, 109] h h374_) (w374_0 : mm_sm h35_ h374_) (w374_1 : (h374_.1 66 57 = 0 → h35_.1 66 57 = 0)) (w374_2 : mm_eY h35_ h374_) (w374_3 : ((h35_.1 66 57 = 0 ∧ 1 < h35_.1 66 71 ∧ h374_.1 66 57 = 1 ∧ h374_.1 66 58 = h35_.1 66 62) ∨ ((h35_.1 66 57 ≠ 0 ∨ h35_.1 66 71 ≤ 1) ∧ h374_.1 66 57 = h35_.1 66 57 ∧ h374_.1 66 58 = h35_.1 66 58))), mm_W x 0 0 374 [mR 66, mI (h.1 66 69), mU, mU] [] h374_ := by
            intro h374_ i374_ f374_ w374_0 w374_1 w374_2 w374_3
            have g75 : -2147483648 ≤ h374_.1 66 57 ∧ h374_.1 66 57 ≤ 2147483647 := i374_.1 66 57
            have g76 : 0 ≤ h374_.1 66 69 ∧ h374_.1 66 69 ≤ 2400 := i374_.1 66 69
            have g77 : 0 ≤ h374_.1 66 70 ∧ h374_.1 66 70 ≤ 520 := i374_.1 66 70
            have g78 : 0 ≤ h374_.1 66 62 ∧ h374_.1 66 62 ≤ 500 := i374_.1 66 62
            have g79 : 0 ≤ h374_.1 66 60 ∧ h374_.1 66 60 ≤ 500 := i374_.1 66 60
            have g80 : -2147483648 ≤ h374_.1 66 61 ∧ h374_.1 66 61 ≤ 2147483647 := i374_.1 66 61
            have g81 : 0 ≤ h374_.1 66 71 ∧ h374_.1 66 71 ≤ 6 := i374_.1 66 71
            have g82 : -2147483648 ≤ h374_.1 66 58 ∧ h374_.1 66 58 ≤ 2147483647 := i374_.1 66 58
            have g83 : -2147483648 ≤ h374_.1 66 65 ∧ h374_.1 66 65 ≤ 2147483647 := i374_.1 66 65
            have zs1 := w374_0.1
            have zs2 := w374_0.2.1
            have zs3 := w374_0.2.2.1
            refine mm_aload_n C (mm_dec dk_X12_expression 192 rfl) rfl ?_
            refine mm_iconst C (mm_dec dk_X12_expression 193 rfl) ⟨by decide, by decide⟩ ?_
            refine mm_cVv (rest := []) C1 ev_X12_445 (mm_dec dk_X12_expression 194 rfl) (c_X12_drops_q x.2.1 hl (d - 1) (by omega) h374_ i374_ 0 (by omega) (by omega)) rfl rfl (Nat.le_of_ble_eq_true rfl) ⟨by decide, by decide⟩ rfl (fun h376c hp376 => ?_) (fun _ _ q => q.elim)
            obtain ⟨i376c, g376c, y376_0, y376_1, y376_2⟩ := hp376
            have f376c : mm_fr [(66, 57), (66, 58), (66, 60), (66, 61), (66, 62), (66, 63), (66, 64), (66, 65), (66, 66), (66, 69), (66, 70), (66, 71)] [107, 108, 109] h h376c := mm_fr_tr f374_ g376c (by decide +kernel)
            have q376c_85 : h376c.1 66 57 = h374_.1 66 57 := g376c.1 66 57 (by decide)
            have q376c_86 : h376c.1 66 58 = h374_.1 66 58 := g376c.1 66 58 (by decide)
            have q376c_87 : h376c.1 66 60 = h374_.1 66 60 := g376c.1 66 60 (by decide)
            have q376c_88 : h376c.1 66 61 = h374_.1 66 61 := g376c.1 66 61 (by decide)
            have q376c_89 : h376c.1 66 62 = h374_.1 66 62 := g376c.1 66 62 (by decide)
            have q376c_90 : h376c.1 66 65 = h374_.1 66 65 := g376c.1 66 65 (by decide)
            have q376c_91 : h376c.1 66 71 = h374_.1 66 71 := g376c.1 66 71 (by decide)
            have g92 : 0 ≤ (h376c.1 66 69) ∧ (h376c.1 66 69) ≤ 2400 := i376c.1 66 69
            have g93 : 0 ≤ (h376c.1 66 70) ∧ (h376c.1 66 70) ≤ 520 := i376c.1 66 70
            have zd1 := y376_0.1.2.2.2.2.2
            have zd2 := y376_0.2.1
            have zd3 := y376_0.2.2.2.2
            refine mm_aload_n C (mm_dec dk_X12_expression 195 rfl) rfl ?_
            refine mm_iconst C (mm_dec dk_X12_expression 196 rfl) ⟨by decide, by decide⟩ ?_
            refine mm_cVv (rest := []) C1 ev_X12_410 (mm_dec dk_X12_expression 197 rfl) (c_X12_puts_x x.2.1 hl (d - 1) (by omega) h376c i376c 0 (by omega)) rfl rfl (Nat.le_of_ble_eq_true rfl) ⟨by decide, by decide⟩ rfl (fun h381c hp381 => ?_) (fun _ _ q => q.elim)
            obtain ⟨i381c, g381c, y381_0, y381_1⟩ := hp381
            have f381c : mm_fr [(66, 57), (66, 58), (66, 60), (66, 61), (66, 62), (66, 63), (66, 64), (66, 65), (66, 66), (66, 69), (66, 70), (66, 71)] [107, 108, 109] h h381c := mm_fr_tr f376c g381c (by decide +kernel)
            have q381c_95 : h381c.1 66 57 = h376c.1 66 57 := g381c.1 66 57 (by decide)
            have q381c_96 : h381c.1 66 58 = h376c.1 66 58 := g381c.1 66 58 (by decide)
            have q381c_97 : h381c.1 66 60 = h376c.1 66 60 := g381c.1 66 60 (by decide)
            have q381c_98 : h381c.1 66 61 = h376c.1 66 61 := g381c.1 66 61 (by decide)
            have q381c_99 : h381c.1 66 62 = h376c.1 66 62 := g381c.1 66 62 (by decide)
            have q381c_100 : h381c.1 66 65 = h376c.1 66 65 := g381c.1 66 65 (by decide)
            have q381c_101 : h381c.1 66 70 = h376c.1 66 70 := g381c.1 66 70 (by decide)
            have q381c_102 : h381c.1 66 71 = h376c.1 66 71 := g381c.1 66 71 (by decide)
            have g103 : 0 ≤ (h381c.1 66 69) ∧ (h381c.1 66 69) ≤ 2400 := i381c.1 66 69
            refine mm_iload_n C (mm_dec dk_X12_expression 198 rfl) rfl ?_
            exact mm_iret C T (mm_dec dk_X12_expression 199 rfl) (by decide : 0 ≤ 0) (by decide : 0 ≤ 0) ⟨_, rfl, ⟨⟨by omega, by omega⟩, i381c, f381c, by first | exact mm_ex_rf (by omega) t0 | exact mm_ex_of eh1 w35_0 w374_0 w374_1 i376c y376_0 g376c (by omega) (by omega) y381_0 y381_1 g381c, by rfl, by first | exact fun q => absurd q (by omega) | exact fun _ => mm_X9_end w35_1 w354_0 w374_2 w374_3 (mm_eY_tr (mm_eY_fr g376c (by decide)) (mm_eY_fr g381c (by decide))) ⟨by omega, by omega⟩, by omega, by first | exact fun q => absurd q (by omega) | exact fun _ => mm_X9J_end w35_1 w35_3 w354_0 (fun q => ⟨by omega, by omega⟩) ⟨w374_0.1, w374_0.2.1, w374_0.2.2.2.2.2.2.1, w374_0.2.2.2.2.2.2.2⟩ w374_2 y376_2 (fun q => by omega) (fun q => mm_z0J w35_0 (by omega) (by omega) ⟨w374_0.1, w374_0.2.1, w374_0.2.2.2.2.2.2.1, w374_0.2.2.2.2.2.2.2⟩ y376_0 y376_1) y381_0 y381_1 (by omega)⟩⟩
          refine mm_if_eq (tgt := 374) C (mm_dec dk_X12_expression 184 rfl) (by decide) (fun c358 => ?_) (fun c358 => ?_)
          · skip
            exact J374 h35_ i35_ f35_ (by first | exact mm_sm_rf | exact mm_sm_fr g371c (by decide)) (by omega) (by first | exact mm_eY_rf | exact mm_eY_fr g371c (by decide)) (by omega)
          · skip
            refine mm_aload_n C (mm_dec dk_X12_expression 185 rfl) rfl ?_
            refine mm_geti C fl_X12_426 (mm_dec dk_X12_expression 186 rfl) rfl rfl (Or.inl rfl) ?_
            refine mm_iconst C (mm_dec dk_X12_expression 187 rfl) ⟨by decide, by decide⟩ ?_
            refine mm_icmp_le (tgt := 374) C (mm_dec dk_X12_expression 188 rfl) (by decide) (fun c366 => ?_) (fun c366 => ?_)
            · skip
              exact J374 h35_ i35_ f35_ (by first | exact mm_sm_rf | exact mm_sm_fr g371c (by decide)) (by omega) (by first | exact mm_eY_rf | exact mm_eY_fr g371c (by decide)) (by omega)
            · skip
              refine mm_aload_n C (mm_dec dk_X12_expression 189 rfl) rfl ?_
              refine mm_iconst C (mm_dec dk_X12_expression 190 rfl) ⟨by decide, by decide⟩ ?_
              refine mm_cVv (rest := []) C1 ev_X12_417 (mm_dec dk_X12_expression 191 rfl) (c_X12_wrong_q x.2.1 hl (d - 1) (by omega) h35_ i35_ 1 (by omega)) rfl rfl (Nat.le_of_ble_eq_true rfl) ⟨by decide, by decide⟩ rfl (fun h371c hp371 => ?_) (fun _ _ q => q.elim)
              obtain ⟨i371c, g371c, y371_0, y371_1⟩ := hp371
              have f371c : mm_fr [(66, 57), (66, 58), (66, 60), (66, 61), (66, 62), (66, 63), (66, 64), (66, 65), (66, 66), (66, 69), (66, 70), (66, 71)] [107, 108, 109] h h371c := mm_fr_tr f35_ g371c (by decide +kernel)
              have q371c_105 : h371c.1 66 60 = h35_.1 66 60 := g371c.1 66 60 (by decide)
              have q371c_106 : h371c.1 66 61 = h35_.1 66 61 := g371c.1 66 61 (by decide)
              have q371c_107 : h371c.1 66 62 = h35_.1 66 62 := g371c.1 66 62 (by decide)
              have q371c_108 : h371c.1 66 65 = h35_.1 66 65 := g371c.1 66 65 (by decide)
              have q371c_109 : h371c.1 66 69 = h35_.1 66 69 := g371c.1 66 69 (by decide)
              have q371c_110 : h371c.1 66 70 = h35_.1 66 70 := g371c.1 66 70 (by decide)
              have q371c_111 : h371c.1 66 71 = h35_.1 66 71 := g371c.1 66 71 (by decide)
              have g112 : -2147483648 ≤ (h371c.1 66 57) ∧ (h371c.1 66 57) ≤ 2147483647 := i371c.1 66 57
              have g113 : -2147483648 ≤ (h371c.1 66 58) ∧ (h371c.1 66 58) ≤ 2147483647 := i371c.1 66 58
              exact J374 h371c i371c f371c (by first | exact mm_sm_rf | exact mm_sm_fr g371c (by decide)) (by omega) (by first | exact mm_eY_rf | exact mm_eY_fr g371c (by decide)) (by omega)
        refine mm_if_eq (tgt := 354) C (mm_dec dk_X12_expression 22 rfl) (by decide) (fun c36 => ?_) (fun c36 => ?_)
        · skip
          refine mm_fgt 2 ?_
          exact J354 (by omega)
        · skip
          refine mm_aload_n C (mm_dec dk_X12_expression 23 rfl) rfl ?_
          refine mm_cVi (rest := []) C1 ev_X12_413 (mm_dec dk_X12_expression 24 rfl) (c_X12_isGood x.2.1 hl (d - 1) (by omega) h35_ i35_ ) rfl rfl (Nat.le_of_ble_eq_true rfl) ⟨by decide, by decide⟩ rfl (fun r40 h40c hp40 => ?_) (fun _ _ q => q.elim)
          obtain ⟨z40, y40⟩ := hp40
          rw [z40]
          refine mm_if_eq (tgt := 354) C (mm_dec dk_X12_expression 25 rfl) (by decide) (fun c43 => ?_) (fun c43 => ?_)
          · skip
            refine mm_fgt 2 ?_
            exact J354 (by omega)
          · skip
            have zI1 : mm_I35 h h35_ 1 := by rw [← show x35_2 = 1 by omega]; exact w35_1
            have zdd := (zI1.2.2.2 (by omega)).1
            have zq8 : h.1 66 57 = 0 ∧ h35_.1 66 58 = h.1 66 58 := by omega
            clear w35_2
            refine mm_aload_n C (mm_dec dk_X12_expression 26 rfl) rfl ?_
            refine mm_cVi (rest := []) C1 ev_X12_419 (mm_dec dk_X12_expression 27 rfl) (c_X12_knownWord_q x.2.1 hl (d - 1) (by omega) h35_ i35_ (by first | exact w35_1.2.1 | omega)) rfl rfl (Nat.le_of_ble_eq_true rfl) ⟨by decide, by decide⟩ rfl (fun r47 h47c hp47 => ?_) (fun _ _ q => q.elim)
            obtain ⟨b47, z47, y47_0, y47_1⟩ := hp47
            rw [z47]
            refine mm_istore_nL (ls2 := [mR 66, mI (h.1 66 69), mI x35_2, mI r47]) C (mm_dec dk_X12_expression 28 rfl) (by decide) rfl ?_
            refine mm_iload_n C (mm_dec dk_X12_expression 29 rfl) rfl ?_
            refine mm_iconst C (mm_dec dk_X12_expression 30 rfl) ⟨by decide, by decide⟩ ?_
            have J351 : ∀ (x351_2 : Int) (bx351_2 : 0 ≤ x351_2 ∧ x351_2 ≤ 1) (h351_ : mH) (i351_ : mm_inv h351_) (f351_ : mm_fr [(66, 57), (66, 58), (66, 60), (66, 61), (66, 62), (66, 63), (66, 64), (66, 65), (66, 66), (66, 69), (66, 70), (66, 71)] [107, 108, 109] h h351_) (w351_0 : mm_e1 h1 (h.1 66 69) (h.1 66 62) h351_) (w351_1 : (x351_2 = 0 ∨ h35_.1 66 62 + 1 ≤ h351_.1 66 62)) (w351_2 : h35_.1 66 62 ≤ h351_.1 66 62) (w351_3 : mm_I35 h h351_ x351_2) (w351_4 : (h351_.1 66 57 ≠ 0 ∨ (h.1 66 57 = 0 ∧ h351_.1 66 58 = h.1 66 58))) (w351_5 : mm_I35J h h351_), mm_W x 0 0 351 [mR 66, mI (h.1 66 69), mI x351_2, mU] [] h351_ := by
              intro x351_2 bx351_2 h351_ i351_ f351_ w351_0 w351_1 w351_2 w351_3 w351_4 w351_5
              have g116 : -2147483648 ≤ h351_.1 66 57 ∧ h351_.1 66 57 ≤ 2147483647 := i351_.1 66 57
              have g117 : 0 ≤ h351_.1 66 69 ∧ h351_.1 66 69 ≤ 2400 := i351_.1 66 69
              have g118 : 0 ≤ h351_.1 66 70 ∧ h351_.1 66 70 ≤ 520 := i351_.1 66 70
              have g119 : 0 ≤ h351_.1 66 62 ∧ h351_.1 66 62 ≤ 500 := i351_.1 66 62
              have g120 : 0 ≤ h351_.1 66 60 ∧ h351_.1 66 60 ≤ 500 := i351_.1 66 60
              have g121 : -2147483648 ≤ h351_.1 66 61 ∧ h351_.1 66 61 ≤ 2147483647 := i351_.1 66 61
              have g122 : 0 ≤ h351_.1 66 71 ∧ h351_.1 66 71 ≤ 6 := i351_.1 66 71
              have g123 : -2147483648 ≤ h351_.1 66 58 ∧ h351_.1 66 58 ≤ 2147483647 := i351_.1 66 58
              have g124 : -2147483648 ≤ h351_.1 66 65 ∧ h351_.1 66 65 ≤ 2147483647 := i351_.1 66 65
              refine mm_goto (tgt := 35) C (mm_dec dk_X12_expression 181 rfl) (by decide) ?_
              exact ih35 x351_2 ⟨by omega, by omega⟩ h351_ i351_ f351_ (by first | exact w351_0 | exact mm_e_start eh1 eh2 g25c y25_0 t0 y30_0) (by first | exact w351_3 | exact mm_I35_0 (by omega) zE0 ⟨by omega, by omega⟩ (by omega) y25_1 y30_1 (fun q => by have z9 := (y30_0.2.2.1 q).2; omega) rfl) (by first | omega | (have zb := (y25_1).2; rcases zb with ⟨zb1, zb2, zb3, zb4⟩ | ⟨zb1, zb2, zb3⟩; (have zb5 := zb3.1; have zb6 := zb3.2; omega); omega)) (by first | exact w351_5 | exact mm_I35J_0 (by omega) zE0 ⟨by omega, by omega⟩ (by omega) (by omega) (fun j => (mm_sm_pf 107 eh2 j).trans (mm_sm_pf 107 eh1 j)) (by omega) y25_1 (mm_wo_fr g25c (by decide)) y30_3) (by omega)
            have J61 : ∀ (w61_0 : (r47 = 4 ∨ r47 = 5)), mm_W x 0 0 61 [mR 66, mI (h.1 66 69), mI x35_2, mI r47] [] h35_ := by
              intro w61_0
              have zca : mm_cY h35_ = 4 ∨ mm_cY h35_ = 5 := by have zk := mm_kw9_x y47_1; omega
              refine mm_aload_n C (mm_dec dk_X12_expression 35 rfl) rfl ?_
              refine mm_iload_n C (mm_dec dk_X12_expression 36 rfl) rfl ?_
              refine mm_iconst C (mm_dec dk_X12_expression 37 rfl) ⟨by decide, by decide⟩ ?_
              have J72 : ∀ (s72_1 : Int) (bs72_1 : 1 ≤ s72_1 ∧ s72_1 ≤ 2) (w72_0 : ((s72_1 = 2 ∧ mm_cY h35_ = 5) ∨ (s72_1 = 1 ∧ mm_cY h35_ = 4))) (vs72_1 : (r47 ≠ 4 ∧ s72_1 = 1) ∨ (r47 = 4 ∧ s72_1 = 2)), mm_W x 0 0 72 [mR 66, mI (h.1 66 69), mI x35_2, mI r47] [mI s72_1, mR 66] h35_ := by
                intro s72_1 bs72_1 w72_0 vs72_1
                refine mm_cVv (rest := []) C1 ev_X12_445 (mm_dec dk_X12_expression 42 rfl) (c_X12_drops_q x.2.1 hl (d - 1) (by omega) h35_ i35_ s72_1 (by omega) (by omega)) rfl rfl (Nat.le_of_ble_eq_true rfl) ⟨by decide, by decide⟩ rfl (fun h72c hp72 => ?_) (fun _ _ q => q.elim)
                obtain ⟨i72c, g72c, y72_0, y72_1, y72_2⟩ := hp72
                have f72c : mm_fr [(66, 57), (66, 58), (66, 60), (66, 61), (66, 62), (66, 63), (66, 64), (66, 65), (66, 66), (66, 69), (66, 70), (66, 71)] [107, 108, 109] h h72c := mm_fr_tr f35_ g72c (by decide +kernel)
                have q72c_144 : h72c.1 66 57 = h35_.1 66 57 := g72c.1 66 57 (by decide)
                have q72c_145 : h72c.1 66 58 = h35_.1 66 58 := g72c.1 66 58 (by decide)
                have q72c_146 : h72c.1 66 60 = h35_.1 66 60 := g72c.1 66 60 (by decide)
                have q72c_147 : h72c.1 66 61 = h35_.1 66 61 := g72c.1 66 61 (by decide)
                have q72c_148 : h72c.1 66 62 = h35_.1 66 62 := g72c.1 66 62 (by decide)
                have q72c_149 : h72c.1 66 65 = h35_.1 66 65 := g72c.1 66 65 (by decide)
                have q72c_150 : h72c.1 66 71 = h35_.1 66 71 := g72c.1 66 71 (by decide)
                have g151 : 0 ≤ (h72c.1 66 69) ∧ (h72c.1 66 69) ≤ 2400 := i72c.1 66 69
                have g152 : 0 ≤ (h72c.1 66 70) ∧ (h72c.1 66 70) ≤ 520 := i72c.1 66 70
                have zd1 := y72_0.1.2.2.2.2.2
                have zd2 := y72_0.2.1
                clear y72_1
                refine mm_aload_n C (mm_dec dk_X12_expression 43 rfl) rfl ?_
                refine mm_iload_n C (mm_dec dk_X12_expression 44 rfl) rfl ?_
                refine mm_iconst C (mm_dec dk_X12_expression 45 rfl) ⟨by decide, by decide⟩ ?_
                have J87 : ∀ (s87_1 : Int) (bs87_1 : 5 ≤ s87_1 ∧ s87_1 ≤ 6) (w87_0 : ((s87_1 = 5 ∧ mm_cY h35_ = 5) ∨ (s87_1 = 6 ∧ mm_cY h35_ = 4))) (vs87_1 : (r47 = 4 ∧ s87_1 = 5) ∨ (r47 ≠ 4 ∧ s87_1 = 6)), mm_W x 0 0 87 [mR 66, mI (h.1 66 69), mI x35_2, mU] [mI s87_1, mR 66] h72c := by
                  intro s87_1 bs87_1 w87_0 vs87_1
                  refine mm_cVv (rest := []) C1 ev_X12_432 (mm_dec dk_X12_expression 50 rfl) (c_X12_waitsFor_x x.2.1 hl (d - 1) (by omega) h72c i72c s87_1 (by omega)) rfl rfl (Nat.le_of_ble_eq_true rfl) ⟨by decide, by decide⟩ rfl (fun h87c hp87 => ?_) (fun _ _ q => q.elim)
                  obtain ⟨i87c, g87c, y87_0, y87_1⟩ := hp87
                  have f87c : mm_fr [(66, 57), (66, 58), (66, 60), (66, 61), (66, 62), (66, 63), (66, 64), (66, 65), (66, 66), (66, 69), (66, 70), (66, 71)] [107, 108, 109] h h87c := mm_fr_tr f72c g87c (by decide +kernel)
                  have q87c_154 : h87c.1 66 57 = h72c.1 66 57 := g87c.1 66 57 (by decide)
                  have q87c_155 : h87c.1 66 58 = h72c.1 66 58 := g87c.1 66 58 (by decide)
                  have q87c_156 : h87c.1 66 60 = h72c.1 66 60 := g87c.1 66 60 (by decide)
                  have q87c_157 : h87c.1 66 61 = h72c.1 66 61 := g87c.1 66 61 (by decide)
                  have q87c_158 : h87c.1 66 62 = h72c.1 66 62 := g87c.1 66 62 (by decide)
                  have q87c_159 : h87c.1 66 65 = h72c.1 66 65 := g87c.1 66 65 (by decide)
                  have q87c_160 : h87c.1 66 69 = h72c.1 66 69 := g87c.1 66 69 (by decide)
                  have q87c_161 : h87c.1 66 71 = h72c.1 66 71 := g87c.1 66 71 (by decide)
                  have g162 : 0 ≤ (h87c.1 66 70) ∧ (h87c.1 66 70) ≤ 520 := i87c.1 66 70
                  refine mm_aload_n C (mm_dec dk_X12_expression 51 rfl) rfl ?_
                  refine mm_getr (t := 109) C fl_X12_138 (mm_dec dk_X12_expression 52 rfl) rfl rfl (mm_ref i87c rfl) ?_
                  refine mm_aload_n C (mm_dec dk_X12_expression 53 rfl) rfl ?_
                  refine mm_geti C fl_X12_426 (mm_dec dk_X12_expression 54 rfl) rfl rfl (Or.inl rfl) ?_
                  refine mm_iconst C (mm_dec dk_X12_expression 55 rfl) ⟨by decide, by decide⟩ ?_
                  refine mm_zast C (mm_dec dk_X12_expression 56 rfl) rfl (by omega) (by omega) (by omega) ?_
                  have i10 : mm_inv (mm_pa h87c 109 (h87c.1 66 71) 0) := mm_inv_pa i87c (show 0 ≤ 0 ∧ 0 ≤ 1 from ⟨by omega, by omega⟩)
                  have f10 : mm_fr [(66, 57), (66, 58), (66, 60), (66, 61), (66, 62), (66, 63), (66, 64), (66, 65), (66, 66), (66, 69), (66, 70), (66, 71)] [107, 108, 109] h (mm_pa h87c 109 (h87c.1 66 71) 0) := mm_fr_pa f87c (by decide)
                  obtain ⟨h10, eh10⟩ : ∃ z, z = mm_pa h87c 109 (h87c.1 66 71) 0 := ⟨_, rfl⟩
                  rw [← eh10] at i10 f10 ⊢
                  have qh10_163 : h10.1 66 57 = h87c.1 66 57 := by rw [eh10]; rfl
                  have qh10_164 : h10.1 66 58 = h87c.1 66 58 := by rw [eh10]; rfl
                  have qh10_165 : h10.1 66 60 = h87c.1 66 60 := by rw [eh10]; rfl
                  have qh10_166 : h10.1 66 61 = h87c.1 66 61 := by rw [eh10]; rfl
                  have qh10_167 : h10.1 66 62 = h87c.1 66 62 := by rw [eh10]; rfl
                  have qh10_168 : h10.1 66 65 = h87c.1 66 65 := by rw [eh10]; rfl
                  have qh10_169 : h10.1 66 69 = h87c.1 66 69 := by rw [eh10]; rfl
                  have qh10_170 : h10.1 66 70 = h87c.1 66 70 := by rw [eh10]; rfl
                  have qh10_171 : h10.1 66 71 = h87c.1 66 71 := by rw [eh10]; rfl
                  refine mm_aload_n C (mm_dec dk_X12_expression 57 rfl) rfl ?_
                  refine mm_cVv (rest := []) C1 ev_X12_423 (mm_dec dk_X12_expression 58 rfl) (c_X12_goes_q x.2.1 hl (d - 1) (by omega) h10 i10 ) rfl rfl (Nat.le_of_ble_eq_true rfl) ⟨by decide, by decide⟩ rfl (fun h101c hp101 => ?_) (fun _ _ q => q.elim)
                  obtain ⟨i101c, g101c, y101_0, y101_1, y101_2, y101_3, y101_4⟩ := hp101
                  have f101c : mm_fr [(66, 57), (66, 58), (66, 60), (66, 61), (66, 62), (66, 63), (66, 64), (66, 65), (66, 66), (66, 69), (66, 70), (66, 71)] [107, 108, 109] h h101c := mm_fr_tr f10 g101c (by decide +kernel)
                  have q101c_173 : h101c.1 66 57 = h10.1 66 57 := g101c.1 66 57 (by decide)
                  have q101c_174 : h101c.1 66 58 = h10.1 66 58 := g101c.1 66 58 (by decide)
                  have q101c_175 : h101c.1 66 69 = h10.1 66 69 := g101c.1 66 69 (by decide)
                  have q101c_176 : h101c.1 66 70 = h10.1 66 70 := g101c.1 66 70 (by decide)
                  have q101c_177 : h101c.1 66 71 = h10.1 66 71 := g101c.1 66 71 (by decide)
                  have g178 : 0 ≤ (h101c.1 66 62) ∧ (h101c.1 66 62) ≤ 500 := i101c.1 66 62
                  have g179 : 0 ≤ (h101c.1 66 60) ∧ (h101c.1 66 60) ≤ 500 := i101c.1 66 60
                  have g180 : -2147483648 ≤ (h101c.1 66 61) ∧ (h101c.1 66 61) ≤ 2147483647 := i101c.1 66 61
                  have g181 : -2147483648 ≤ (h101c.1 66 65) ∧ (h101c.1 66 65) ≤ 2147483647 := i101c.1 66 65
                  have q9 := y101_2
                  clear y101_2
                  have y101_2 : mm_hq9 _ := q9
                  clear q9
                  have zE := mm_e_op w35_0 i72c (by omega) (by omega) y72_0 g72c ⟨by omega, by omega⟩ y87_0 y87_1 g87c ⟨by rw [eh10]; rfl, fun o ho => by rw [eh10]; exact funext fun j => mm_pa_ne _ _ (fun w => ho w.1)⟩ g101c y101_0 y101_1 y101_2
                  have zb := zE.1.2.2.1
                  have zw := zE.1.2.2.2.2.2
                  have zl := zE.2.2.2.2.1
                  have ze9 := mm_eY_tr (mm_eY_tr (mm_eY_fr g72c (by decide)) (mm_eY_fr g87c (by decide))) (mm_eY_pa eh10 (by decide))
                  have zs9 := mm_st9_of (mm_eY_a ze9 w35_1.2.1) y101_3 y101_4 g101c (by decide)
                  have zu9 : mm_up h35_ h10 109 (h35_.1 66 71) 0 1 := mm_up_pav (fun j => (g87c.2 109 (by decide) j).trans (g72c.2 109 (by decide) j)) eh10 (fun _ => rfl) (by omega) rfl rfl
                  clear y101_2
                  have zE9 := zE
                  clear zE
                  have zE : mm_hq9 _ := zE9
                  clear zE9
                  refine mm_aload_n C (mm_dec dk_X12_expression 59 rfl) rfl ?_
                  refine mm_iconst C (mm_dec dk_X12_expression 60 rfl) ⟨by decide, by decide⟩ ?_
                  refine mm_cVv (rest := []) C1 ev_X12_441 (mm_dec dk_X12_expression 61 rfl) (c_X12_operand_q x.2.1 hl (d - 1) (by omega) h101c i101c 1 ⟨by omega, by omega⟩ (by first | exact y101_3 | exact zE.2.1 | exact fun _ => zE.2.2.2.1 | omega) (by first | exact y101_3 | exact zE.2.1 | exact fun _ => zE.2.2.2.1 | omega) (by first | exact y101_3 | exact zE.2.1 | exact fun _ => zE.2.2.2.1 | omega) (by first | exact y101_3 | exact zE.2.1 | exact fun _ => zE.2.2.2.1 | omega) (by first | exact y101_3 | exact zE.2.1 | exact fun _ => zE.2.2.2.1 | omega)) rfl rfl (Nat.le_of_ble_eq_true rfl) ⟨by decide, by decide⟩ rfl (fun h106c hp106 => ?_) (fun _ _ q => q.elim)
                  obtain ⟨i106c, g106c, y106_0, y106_1, y106_2, y106_3⟩ := hp106
                  have f106c : mm_fr [(66, 57), (66, 58), (66, 60), (66, 61), (66, 62), (66, 63), (66, 64), (66, 65), (66, 66), (66, 69), (66, 70), (66, 71)] [107, 108, 109] h h106c := mm_fr_tr f101c g106c (by decide +kernel)
                  have g183 : -2147483648 ≤ (h106c.1 66 57) ∧ (h106c.1 66 57) ≤ 2147483647 := i106c.1 66 57
                  have g184 : 0 ≤ (h106c.1 66 69) ∧ (h106c.1 66 69) ≤ 2400 := i106c.1 66 69
                  have g185 : 0 ≤ (h106c.1 66 70) ∧ (h106c.1 66 70) ≤ 520 := i106c.1 66 70
                  have g186 : 0 ≤ (h106c.1 66 62) ∧ (h106c.1 66 62) ≤ 500 := i106c.1 66 62
                  have g187 : 0 ≤ (h106c.1 66 60) ∧ (h106c.1 66 60) ≤ 500 := i106c.1 66 60
                  have g188 : -2147483648 ≤ (h106c.1 66 61) ∧ (h106c.1 66 61) ≤ 2147483647 := i106c.1 66 61
                  have g189 : 0 ≤ (h106c.1 66 71) ∧ (h106c.1 66 71) ≤ 6 := i106c.1 66 71
                  have g190 : -2147483648 ≤ (h106c.1 66 58) ∧ (h106c.1 66 58) ≤ 2147483647 := i106c.1 66 58
                  have g191 : -2147483648 ≤ (h106c.1 66 65) ∧ (h106c.1 66 65) ≤ 2147483647 := i106c.1 66 65
                  have zF := mm_e_put (p := h.1 66 62) zE y106_0 (by omega)
                  have zG := zF.2
                  have yq : mm_hq9 _ := y106_2
                  clear y106_2
                  refine mm_goto (tgt := 351) C (mm_dec dk_X12_expression 62 rfl) (by decide) ?_
                  exact J351 x35_2 ⟨by omega, by omega⟩ h106c i106c f106c (by first | exact zF.1 | exact w35_0) (by omega) (by omega) (by first | exact mm_I35_op zI1 (by omega) ze9 ⟨by omega, by omega⟩ zs9 ⟨by omega, by omega⟩ (mm_kY_eq (g101c.2 109 (by decide)) (g101c.1 66 71 (by decide))) (fun i r P => mm_st_and zca zu9 (by omega) zdd) y106_1 (fun q => by have z9 := (y106_0.2.2.1 q).2; omega) (by omega) | exact mm_I35_op zI1 (by omega) ze9 ⟨by omega, by omega⟩ zs9 ⟨by omega, by omega⟩ (mm_kY_eq (g178c.2 109 (by decide)) (g178c.1 66 71 (by decide))) (fun i r P => mm_st_lt (mm_hq9x zc0) (by omega) zu9 (by omega) zdd) y183_1 (fun q => by have z9 := (y183_0.2.2.1 q).2; omega) (by omega) | exact mm_I35_op zI1 (by omega) ze9 ⟨by omega, by omega⟩ zs9 ⟨by omega, by omega⟩ (mm_kY_eq (g233c.2 109 (by decide)) (g233c.1 66 71 (by decide))) (fun i r P => mm_st_op (mm_hq9x zc7) zk9 zdd) y238_1 (fun q => by have z9 := (y238_0.2.2.1 q).2; omega) (by omega) | exact mm_I35_op zI1 (by omega) ze9 ⟨by omega, by omega⟩ zs9 ⟨by omega, by omega⟩ (mm_kY_eq (g289c.2 109 (by decide)) (g289c.1 66 71 (by decide))) (fun i r P => mm_st_op (mm_hq9x zc7) zk9 zdd) y294_1 (fun q => by have z9 := (y294_0.2.2.1 q).2; omega) (by omega) | exact mm_I35_close zI1 (by omega) zc41 ze9 ⟨by omega, by omega⟩ z109 (by omega) (by omega) zs9 ⟨by omega, by omega⟩ (mm_kY_eq (g343c.2 109 (by decide)) (g343c.1 66 71 (by decide))) (by omega) (by omega) | exact mm_I35_out zI1 (fun _ => ⟨w349_0, w349_1⟩)) (by first | exact (mm_hq9x yq).elim Or.inl (fun z => Or.inr ⟨zq8.1, by omega⟩) | omega) (by first | exact mm_I35J_op (l := s72_1) zI1 w35_3 (by omega) (mm_opJ9 (s87_1) (by omega)) y72_2 y87_0 y87_1 (show 0 ≤ h72c.1 66 70 ∧ h72c.1 66 70 ≤ 520 from i72c.1 66 70).1 (g87c.1 66 69 (by decide)) (g87c.2 107 (by decide)) (mm_wo_pa eh10 (by decide)) ze9 ⟨by omega, by omega⟩ zs9 ⟨by omega, by omega⟩ (mm_wo_fr g101c (by decide)) (mm_kY_eq (g101c.2 109 (by decide)) (g101c.1 66 71 (by decide))) (fun i r P => mm_st_and zca zu9 (by omega) zdd) (Or.inl ⟨by omega, by omega⟩) y106_3 | exact mm_I35J_op (l := 4) zI1 w35_3 (by omega) w164_0 y144_2 y164_0 y164_1 (show 0 ≤ h144c.1 66 70 ∧ h144c.1 66 70 ≤ 520 from i144c.1 66 70).1 (g164c.1 66 69 (by decide)) (g164c.2 107 (by decide)) (mm_wo_pa eh27 (by decide)) ze9 ⟨by omega, by omega⟩ zs9 ⟨by omega, by omega⟩ (mm_wo_fr g178c (by decide)) (mm_kY_eq (g178c.2 109 (by decide)) (g178c.1 66 71 (by decide))) (fun i r P => mm_st_lt (mm_hq9x zc0) (by omega) zu9 (by omega) zdd) (Or.inr (by omega)) y183_3 | exact mm_I35J_op (l := 5) zI1 w35_3 (by omega) w229_0 y209_2 y229_0 y229_1 (show 0 ≤ h209c.1 66 70 ∧ h209c.1 66 70 ≤ 520 from i209c.1 66 70).1 (g229c.1 66 69 (by decide)) (g229c.2 107 (by decide)) mm_wo_rf ze9 ⟨by omega, by omega⟩ zs9 ⟨by omega, by omega⟩ (mm_wo_fr g233c (by decide)) (mm_kY_eq (g233c.2 109 (by decide)) (g233c.1 66 71 (by decide))) (fun i r P => mm_st_op (mm_hq9x zc7) zk9 zdd) (Or.inl (mm_hcJ (mm_hq9x zc7))) y238_3 | exact mm_I35J_op (l := 6) zI1 w35_3 (by omega) w285_0 y265_2 y285_0 y285_1 (show 0 ≤ h265c.1 66 70 ∧ h265c.1 66 70 ≤ 520 from i265c.1 66 70).1 (g285c.1 66 69 (by decide)) (g285c.2 107 (by decide)) mm_wo_rf ze9 ⟨by omega, by omega⟩ zs9 ⟨by omega, by omega⟩ (mm_wo_fr g289c (by decide)) (mm_kY_eq (g289c.2 109 (by decide)) (g289c.1 66 71 (by decide))) (fun i r P => mm_st_op (mm_hq9x zc7) zk9 zdd) (Or.inl (mm_hcJ (mm_hq9x zc7))) y294_3 | exact mm_I35J_close zI1 w35_3 (by omega) zc41 y319_2 zC (by omega) (fun j => (mm_sm_pf 108 eh23 j).trans (mm_sm_pf 108 eh22 j)) (by omega) (fun j => (mm_sm_pf 107 eh23 j).trans (mm_sm_pf 107 eh22 j)) ze9 z109 (by omega) (by omega) zs9 (mm_wo_fr g343c (by decide)) (mm_kY_eq (g343c.2 109 (by decide)) (g343c.1 66 71 (by decide))) | exact w35_3)
                refine mm_icmp_ne (tgt := 85) C (mm_dec dk_X12_expression 46 rfl) (by decide) (fun c78 => ?_) (fun c78 => ?_)
                · skip
                  refine mm_bipush C (mm_dec dk_X12_expression 49 rfl) ⟨by decide, by decide⟩ ?_
                  refine mm_fgt 3 ?_
                  exact J87 6 ⟨by omega, by omega⟩ (by have zk := mm_kw9_x y47_1; omega) (Or.inr (⟨by omega, rfl⟩))
                · skip
                  refine mm_iconst C (mm_dec dk_X12_expression 47 rfl) ⟨by decide, by decide⟩ ?_
                  refine mm_goto (tgt := 87) C (mm_dec dk_X12_expression 48 rfl) (by decide) ?_
                  refine mm_fgt 3 ?_
                  exact J87 5 ⟨by omega, by omega⟩ (by have zk := mm_kw9_x y47_1; omega) (Or.inl ⟨by omega, rfl⟩)
              refine mm_icmp_ne (tgt := 71) C (mm_dec dk_X12_expression 38 rfl) (by decide) (fun c64 => ?_) (fun c64 => ?_)
              · skip
                refine mm_iconst C (mm_dec dk_X12_expression 41 rfl) ⟨by decide, by decide⟩ ?_
                exact J72 1 ⟨by omega, by omega⟩ (by have zk := mm_kw9_x y47_1; omega) (Or.inl ⟨by omega, rfl⟩)
              · skip
                refine mm_iconst C (mm_dec dk_X12_expression 39 rfl) ⟨by decide, by decide⟩ ?_
                refine mm_goto (tgt := 72) C (mm_dec dk_X12_expression 40 rfl) (by decide) ?_
                exact J72 2 ⟨by omega, by omega⟩ (by have zk := mm_kw9_x y47_1; omega) (Or.inr (⟨by omega, rfl⟩))
            refine mm_icmp_eq (tgt := 61) C (mm_dec dk_X12_expression 31 rfl) (by decide) (fun c53 => ?_) (fun c53 => ?_)
            · skip
              exact J61 (by omega)
            · skip
              refine mm_iload_n C (mm_dec dk_X12_expression 32 rfl) rfl ?_
              refine mm_iconst C (mm_dec dk_X12_expression 33 rfl) ⟨by decide, by decide⟩ ?_
              refine mm_icmp_ne (tgt := 112) C (mm_dec dk_X12_expression 34 rfl) (by decide) (fun c58 => ?_) (fun c58 => ?_)
              · skip
                have zcn : mm_hq9 (mm_cY h35_ ≠ 4 ∧ mm_cY h35_ ≠ 5) := (show mm_cY h35_ ≠ 4 ∧ mm_cY h35_ ≠ 5 by have zk := mm_kw9_x y47_1; omega)
                refine mm_aload_n C (mm_dec dk_X12_expression 63 rfl) rfl ?_
                refine mm_bipush C (mm_dec dk_X12_expression 64 rfl) ⟨by decide, by decide⟩ ?_
                refine mm_cVi (rest := []) C1 ev_X12_429 (mm_dec dk_X12_expression 65 rfl) (c_X12_isSign x.2.1 hl (d - 1) (by omega) h35_ i35_ 60) rfl rfl (Nat.le_of_ble_eq_true rfl) ⟨by decide, by decide⟩ rfl (fun r115 h115c hp115 => ?_) (fun _ _ q => q.elim)
                obtain ⟨z115, y115⟩ := hp115
                rw [z115]
                have J189 : ∀ (w189_0 : mm_hq9 (h35_.2.1 109 (h35_.1 66 71) ≠ 0 ∨ (mm_cY h35_ ≠ 160 ∧ mm_cY h35_ ≠ 161))), mm_W x 0 0 189 [mR 66, mI (h.1 66 69), mI x35_2, mU] [] h35_ := by
                  intro w189_0
                  refine mm_aload_n C (mm_dec dk_X12_expression 101 rfl) rfl ?_
                  refine mm_bipush C (mm_dec dk_X12_expression 102 rfl) ⟨by decide, by decide⟩ ?_
                  refine mm_cVi (rest := []) C1 ev_X12_429 (mm_dec dk_X12_expression 103 rfl) (c_X12_isSign x.2.1 hl (d - 1) (by omega) h35_ i35_ 43) rfl rfl (Nat.le_of_ble_eq_true rfl) ⟨by decide, by decide⟩ rfl (fun r192 h192c hp192 => ?_) (fun _ _ q => q.elim)
                  obtain ⟨z192, y192⟩ := hp192
                  rw [z192]
                  have J207 : ∀ (w207_0 : h35_.1 66 61 = 3) (w207_1 : (mm_cY h35_ = 143 ∨ mm_cY h35_ = 145)), mm_W x 0 0 207 [mR 66, mI (h.1 66 69), mI x35_2, mU] [] h35_ := by
                    intro w207_0 w207_1
                    have zcK : mm_hq9 _ := w207_1
                    have zc7 : mm_hq9 (mm_cY h35_ = 142 ∨ mm_cY h35_ = 147 ∨ mm_cY h35_ = 143 ∨ mm_cY h35_ = 145) := Or.inr (Or.inr w207_1)
                    clear w207_1 c53 c58 y47_0
                    refine mm_aload_n C (mm_dec dk_X12_expression 109 rfl) rfl ?_
                    refine mm_iconst C (mm_dec dk_X12_expression 110 rfl) ⟨by decide, by decide⟩ ?_
                    refine mm_cVv (rest := []) C1 ev_X12_445 (mm_dec dk_X12_expression 111 rfl) (c_X12_drops_q x.2.1 hl (d - 1) (by omega) h35_ i35_ 5 (by omega) (by omega)) rfl rfl (Nat.le_of_ble_eq_true rfl) ⟨by decide, by decide⟩ rfl (fun h209c hp209 => ?_) (fun _ _ q => q.elim)
                    obtain ⟨i209c, g209c, y209_0, y209_1, y209_2⟩ := hp209
                    have f209c : mm_fr [(66, 57), (66, 58), (66, 60), (66, 61), (66, 62), (66, 63), (66, 64), (66, 65), (66, 66), (66, 69), (66, 70), (66, 71)] [107, 108, 109] h h209c := mm_fr_tr f35_ g209c (by decide +kernel)
                    have q209c_213 : h209c.1 66 57 = h35_.1 66 57 := g209c.1 66 57 (by decide)
                    have q209c_214 : h209c.1 66 58 = h35_.1 66 58 := g209c.1 66 58 (by decide)
                    have q209c_215 : h209c.1 66 60 = h35_.1 66 60 := g209c.1 66 60 (by decide)
                    have q209c_216 : h209c.1 66 61 = h35_.1 66 61 := g209c.1 66 61 (by decide)
                    have q209c_217 : h209c.1 66 62 = h35_.1 66 62 := g209c.1 66 62 (by decide)
                    have q209c_218 : h209c.1 66 65 = h35_.1 66 65 := g209c.1 66 65 (by decide)
                    have q209c_219 : h209c.1 66 71 = h35_.1 66 71 := g209c.1 66 71 (by decide)
                    have g220 : 0 ≤ (h209c.1 66 69) ∧ (h209c.1 66 69) ≤ 2400 := i209c.1 66 69
                    have g221 : 0 ≤ (h209c.1 66 70) ∧ (h209c.1 66 70) ≤ 520 := i209c.1 66 70
                    have zd1 := y209_0.1.2.2.2.2.2
                    have zd2 := y209_0.2.1
                    clear y209_1
                    refine mm_aload_n C (mm_dec dk_X12_expression 112 rfl) rfl ?_
                    refine mm_aload_n C (mm_dec dk_X12_expression 113 rfl) rfl ?_
                    refine mm_bipush C (mm_dec dk_X12_expression 114 rfl) ⟨by decide, by decide⟩ ?_
                    refine mm_cVi (rest := [mR 66]) C1 ev_X12_429 (mm_dec dk_X12_expression 115 rfl) (c_X12_isSign x.2.1 hl (d - 1) (by omega) h209c i209c 43) rfl rfl (Nat.le_of_ble_eq_true rfl) ⟨by decide, by decide⟩ rfl (fun r216 h216c hp216 => ?_) (fun _ _ q => q.elim)
                    obtain ⟨z216, y216⟩ := hp216
                    rw [z216]
                    have J229 : ∀ (s229_1 : Int) (bs229_1 : 9 ≤ s229_1 ∧ s229_1 ≤ 10) (w229_0 : (∃ c, mm_op9 (mm_cY h35_) 5 s229_1 c)) (vs229_1 : (r216 ≠ 0 ∧ s229_1 = 9) ∨ (r216 = 0 ∧ s229_1 = 10)), mm_W x 0 0 229 [mR 66, mI (h.1 66 69), mI x35_2, mU] [mI s229_1, mR 66] h209c := by
                      intro s229_1 bs229_1 w229_0 vs229_1
                      refine mm_cVv (rest := []) C1 ev_X12_432 (mm_dec dk_X12_expression 120 rfl) (c_X12_waitsFor_x x.2.1 hl (d - 1) (by omega) h209c i209c s229_1 (by omega)) rfl rfl (Nat.le_of_ble_eq_true rfl) ⟨by decide, by decide⟩ rfl (fun h229c hp229 => ?_) (fun _ _ q => q.elim)
                      obtain ⟨i229c, g229c, y229_0, y229_1⟩ := hp229
                      have f229c : mm_fr [(66, 57), (66, 58), (66, 60), (66, 61), (66, 62), (66, 63), (66, 64), (66, 65), (66, 66), (66, 69), (66, 70), (66, 71)] [107, 108, 109] h h229c := mm_fr_tr f209c g229c (by decide +kernel)
                      have q229c_224 : h229c.1 66 57 = h209c.1 66 57 := g229c.1 66 57 (by decide)
                      have q229c_225 : h229c.1 66 58 = h209c.1 66 58 := g229c.1 66 58 (by decide)
                      have q229c_226 : h229c.1 66 60 = h209c.1 66 60 := g229c.1 66 60 (by decide)
                      have q229c_227 : h229c.1 66 61 = h209c.1 66 61 := g229c.1 66 61 (by decide)
                      have q229c_228 : h229c.1 66 62 = h209c.1 66 62 := g229c.1 66 62 (by decide)
                      have q229c_229 : h229c.1 66 65 = h209c.1 66 65 := g229c.1 66 65 (by decide)
                      have q229c_230 : h229c.1 66 69 = h209c.1 66 69 := g229c.1 66 69 (by decide)
                      have q229c_231 : h229c.1 66 71 = h209c.1 66 71 := g229c.1 66 71 (by decide)
                      have g232 : 0 ≤ (h229c.1 66 70) ∧ (h229c.1 66 70) ≤ 520 := i229c.1 66 70
                      clear vs229_1
                      refine mm_aload_n C (mm_dec dk_X12_expression 121 rfl) rfl ?_
                      refine mm_cVv (rest := []) C1 ev_X12_423 (mm_dec dk_X12_expression 122 rfl) (c_X12_goes_q x.2.1 hl (d - 1) (by omega) h229c i229c ) rfl rfl (Nat.le_of_ble_eq_true rfl) ⟨by decide, by decide⟩ rfl (fun h233c hp233 => ?_) (fun _ _ q => q.elim)
                      obtain ⟨i233c, g233c, y233_0, y233_1, y233_2, y233_3, y233_4⟩ := hp233
                      have f233c : mm_fr [(66, 57), (66, 58), (66, 60), (66, 61), (66, 62), (66, 63), (66, 64), (66, 65), (66, 66), (66, 69), (66, 70), (66, 71)] [107, 108, 109] h h233c := mm_fr_tr f229c g233c (by decide +kernel)
                      have q233c_234 : h233c.1 66 57 = h229c.1 66 57 := g233c.1 66 57 (by decide)
                      have q233c_235 : h233c.1 66 58 = h229c.1 66 58 := g233c.1 66 58 (by decide)
                      have q233c_236 : h233c.1 66 69 = h229c.1 66 69 := g233c.1 66 69 (by decide)
                      have q233c_237 : h233c.1 66 70 = h229c.1 66 70 := g233c.1 66 70 (by decide)
                      have q233c_238 : h233c.1 66 71 = h229c.1 66 71 := g233c.1 66 71 (by decide)
                      have g239 : 0 ≤ (h233c.1 66 62) ∧ (h233c.1 66 62) ≤ 500 := i233c.1 66 62
                      have g240 : 0 ≤ (h233c.1 66 60) ∧ (h233c.1 66 60) ≤ 500 := i233c.1 66 60
                      have g241 : -2147483648 ≤ (h233c.1 66 61) ∧ (h233c.1 66 61) ≤ 2147483647 := i233c.1 66 61
                      have g242 : -2147483648 ≤ (h233c.1 66 65) ∧ (h233c.1 66 65) ≤ 2147483647 := i233c.1 66 65
                      have q9 := y233_2
                      clear y233_2
                      have y233_2 : mm_hq9 _ := q9
                      clear q9
                      have zE := mm_e_op w35_0 i209c (by omega) (by omega) y209_0 g209c ⟨by omega, by omega⟩ y229_0 y229_1 g229c ⟨rfl, fun _ _ => rfl⟩ g233c y233_0 y233_1 y233_2
                      have zb := zE.1.2.2.1
                      have zw := zE.1.2.2.2.2.2
                      have zl := zE.2.2.2.2.1
                      have ze9 := mm_eY_tr (mm_eY_fr g209c (by decide)) (mm_eY_fr g229c (by decide))
                      have zs9 := mm_st9_of (mm_eY_a ze9 w35_1.2.1) y233_3 y233_4 g233c (by decide)
                      have zk9 : mm_kY h229c = mm_kY h35_ := mm_kY_eq (fun j => (g229c.2 109 (by decide) j).trans (g209c.2 109 (by decide) j)) (by omega)
                      clear y233_2
                      have zE9 := zE
                      clear zE
                      have zE : mm_hq9 _ := zE9
                      clear zE9
                      refine mm_aload_n C (mm_dec dk_X12_expression 123 rfl) rfl ?_
                      refine mm_iconst C (mm_dec dk_X12_expression 124 rfl) ⟨by decide, by decide⟩ ?_
                      refine mm_cVv (rest := []) C1 ev_X12_441 (mm_dec dk_X12_expression 125 rfl) (c_X12_operand_q x.2.1 hl (d - 1) (by omega) h233c i233c 0 ⟨by omega, by omega⟩ (by first | exact y233_3 | exact zE.2.1 | exact fun _ => zE.2.2.2.1 | omega) (by first | exact y233_3 | exact zE.2.1 | exact fun _ => zE.2.2.2.1 | omega) (by first | exact y233_3 | exact zE.2.1 | exact fun _ => zE.2.2.2.1 | omega) (by first | exact y233_3 | exact zE.2.1 | exact fun _ => zE.2.2.2.1 | omega) (by first | exact y233_3 | exact zE.2.1 | exact fun _ => zE.2.2.2.1 | omega)) rfl rfl (Nat.le_of_ble_eq_true rfl) ⟨by decide, by decide⟩ rfl (fun h238c hp238 => ?_) (fun _ _ q => q.elim)
                      obtain ⟨i238c, g238c, y238_0, y238_1, y238_2, y238_3⟩ := hp238
                      have f238c : mm_fr [(66, 57), (66, 58), (66, 60), (66, 61), (66, 62), (66, 63), (66, 64), (66, 65), (66, 66), (66, 69), (66, 70), (66, 71)] [107, 108, 109] h h238c := mm_fr_tr f233c g238c (by decide +kernel)
                      have g244 : -2147483648 ≤ (h238c.1 66 57) ∧ (h238c.1 66 57) ≤ 2147483647 := i238c.1 66 57
                      have g245 : 0 ≤ (h238c.1 66 69) ∧ (h238c.1 66 69) ≤ 2400 := i238c.1 66 69
                      have g246 : 0 ≤ (h238c.1 66 70) ∧ (h238c.1 66 70) ≤ 520 := i238c.1 66 70
                      have g247 : 0 ≤ (h238c.1 66 62) ∧ (h238c.1 66 62) ≤ 500 := i238c.1 66 62
                      have g248 : 0 ≤ (h238c.1 66 60) ∧ (h238c.1 66 60) ≤ 500 := i238c.1 66 60
                      have g249 : -2147483648 ≤ (h238c.1 66 61) ∧ (h238c.1 66 61) ≤ 2147483647 := i238c.1 66 61
                      have g250 : 0 ≤ (h238c.1 66 71) ∧ (h238c.1 66 71) ≤ 6 := i238c.1 66 71
                      have g251 : -2147483648 ≤ (h238c.1 66 58) ∧ (h238c.1 66 58) ≤ 2147483647 := i238c.1 66 58
                      have g252 : -2147483648 ≤ (h238c.1 66 65) ∧ (h238c.1 66 65) ≤ 2147483647 := i238c.1 66 65
                      have zF := mm_e_put (p := h.1 66 62) zE y238_0 (by omega)
                      have zG := zF.2
                      have yq : mm_hq9 _ := y238_2
                      clear y238_2
                      refine mm_goto (tgt := 351) C (mm_dec dk_X12_expression 126 rfl) (by decide) ?_
                      exact J351 x35_2 ⟨by omega, by omega⟩ h238c i238c f238c (by first | exact zF.1 | exact w35_0) (by omega) (by omega) (by first | exact mm_I35_op zI1 (by omega) ze9 ⟨by omega, by omega⟩ zs9 ⟨by omega, by omega⟩ (mm_kY_eq (g101c.2 109 (by decide)) (g101c.1 66 71 (by decide))) (fun i r P => mm_st_and zca zu9 (by omega) zdd) y106_1 (fun q => by have z9 := (y106_0.2.2.1 q).2; omega) (by omega) | exact mm_I35_op zI1 (by omega) ze9 ⟨by omega, by omega⟩ zs9 ⟨by omega, by omega⟩ (mm_kY_eq (g178c.2 109 (by decide)) (g178c.1 66 71 (by decide))) (fun i r P => mm_st_lt (mm_hq9x zc0) (by omega) zu9 (by omega) zdd) y183_1 (fun q => by have z9 := (y183_0.2.2.1 q).2; omega) (by omega) | exact mm_I35_op zI1 (by omega) ze9 ⟨by omega, by omega⟩ zs9 ⟨by omega, by omega⟩ (mm_kY_eq (g233c.2 109 (by decide)) (g233c.1 66 71 (by decide))) (fun i r P => mm_st_op (mm_hq9x zc7) zk9 zdd) y238_1 (fun q => by have z9 := (y238_0.2.2.1 q).2; omega) (by omega) | exact mm_I35_op zI1 (by omega) ze9 ⟨by omega, by omega⟩ zs9 ⟨by omega, by omega⟩ (mm_kY_eq (g289c.2 109 (by decide)) (g289c.1 66 71 (by decide))) (fun i r P => mm_st_op (mm_hq9x zc7) zk9 zdd) y294_1 (fun q => by have z9 := (y294_0.2.2.1 q).2; omega) (by omega) | exact mm_I35_close zI1 (by omega) zc41 ze9 ⟨by omega, by omega⟩ z109 (by omega) (by omega) zs9 ⟨by omega, by omega⟩ (mm_kY_eq (g343c.2 109 (by decide)) (g343c.1 66 71 (by decide))) (by omega) (by omega) | exact mm_I35_out zI1 (fun _ => ⟨w349_0, w349_1⟩)) (by first | exact (mm_hq9x yq).elim Or.inl (fun z => Or.inr ⟨zq8.1, by omega⟩) | omega) (by first | exact mm_I35J_op (l := s72_1) zI1 w35_3 (by omega) (mm_opJ9 (s87_1) (by omega)) y72_2 y87_0 y87_1 (show 0 ≤ h72c.1 66 70 ∧ h72c.1 66 70 ≤ 520 from i72c.1 66 70).1 (g87c.1 66 69 (by decide)) (g87c.2 107 (by decide)) (mm_wo_pa eh10 (by decide)) ze9 ⟨by omega, by omega⟩ zs9 ⟨by omega, by omega⟩ (mm_wo_fr g101c (by decide)) (mm_kY_eq (g101c.2 109 (by decide)) (g101c.1 66 71 (by decide))) (fun i r P => mm_st_and zca zu9 (by omega) zdd) (Or.inl ⟨by omega, by omega⟩) y106_3 | exact mm_I35J_op (l := 4) zI1 w35_3 (by omega) w164_0 y144_2 y164_0 y164_1 (show 0 ≤ h144c.1 66 70 ∧ h144c.1 66 70 ≤ 520 from i144c.1 66 70).1 (g164c.1 66 69 (by decide)) (g164c.2 107 (by decide)) (mm_wo_pa eh27 (by decide)) ze9 ⟨by omega, by omega⟩ zs9 ⟨by omega, by omega⟩ (mm_wo_fr g178c (by decide)) (mm_kY_eq (g178c.2 109 (by decide)) (g178c.1 66 71 (by decide))) (fun i r P => mm_st_lt (mm_hq9x zc0) (by omega) zu9 (by omega) zdd) (Or.inr (by omega)) y183_3 | exact mm_I35J_op (l := 5) zI1 w35_3 (by omega) w229_0 y209_2 y229_0 y229_1 (show 0 ≤ h209c.1 66 70 ∧ h209c.1 66 70 ≤ 520 from i209c.1 66 70).1 (g229c.1 66 69 (by decide)) (g229c.2 107 (by decide)) mm_wo_rf ze9 ⟨by omega, by omega⟩ zs9 ⟨by omega, by omega⟩ (mm_wo_fr g233c (by decide)) (mm_kY_eq (g233c.2 109 (by decide)) (g233c.1 66 71 (by decide))) (fun i r P => mm_st_op (mm_hq9x zc7) zk9 zdd) (Or.inl (mm_hcJ (mm_hq9x zc7))) y238_3 | exact mm_I35J_op (l := 6) zI1 w35_3 (by omega) w285_0 y265_2 y285_0 y285_1 (show 0 ≤ h265c.1 66 70 ∧ h265c.1 66 70 ≤ 520 from i265c.1 66 70).1 (g285c.1 66 69 (by decide)) (g285c.2 107 (by decide)) mm_wo_rf ze9 ⟨by omega, by omega⟩ zs9 ⟨by omega, by omega⟩ (mm_wo_fr g289c (by decide)) (mm_kY_eq (g289c.2 109 (by decide)) (g289c.1 66 71 (by decide))) (fun i r P => mm_st_op (mm_hq9x zc7) zk9 zdd) (Or.inl (mm_hcJ (mm_hq9x zc7))) y294_3 | exact mm_I35J_close zI1 w35_3 (by omega) zc41 y319_2 zC (by omega) (fun j => (mm_sm_pf 108 eh23 j).trans (mm_sm_pf 108 eh22 j)) (by omega) (fun j => (mm_sm_pf 107 eh23 j).trans (mm_sm_pf 107 eh22 j)) ze9 z109 (by omega) (by omega) zs9 (mm_wo_fr g343c (by decide)) (mm_kY_eq (g343c.2 109 (by decide)) (g343c.1 66 71 (by decide))) | exact w35_3)
                    have tfJ := mm_cY_h (mm_eY_a (mm_eY_fr g209c (by decide)) w35_1.2.1)
                    have hs216 : mm_hs9 h209c r216 143 := mm_sgn9 tfJ (by decide) (by decide) y216
                    have zcJ216 := (mm_eY_c (mm_eY_fr g209c (by decide))).1
                    clear tfJ
                    clear y216
                    refine mm_if_eq (tgt := 227) C (mm_dec dk_X12_expression 116 rfl) (by decide) (fun c219 => ?_) (fun c219 => ?_)
                    · skip
                      refine mm_bipush C (mm_dec dk_X12_expression 119 rfl) ⟨by decide, by decide⟩ ?_
                      exact J229 10 ⟨by omega, by omega⟩ (by first | exact ⟨100015, Or.inr (Or.inr (Or.inr (Or.inr (Or.inl ⟨zcJ216.symm.trans (mm_hs9_y hs216 c219).2, rfl, rfl, rfl⟩))))⟩ | exact ⟨100016, Or.inr (Or.inr (Or.inr (Or.inr (Or.inr (Or.inl ⟨(mm_hq9x zcK).resolve_left (fun z => mm_hs9_n hs216 c219 (zcJ216.trans z)), rfl, rfl, rfl⟩)))))⟩) (Or.inr (⟨by omega, rfl⟩))
                    · skip
                      refine mm_bipush C (mm_dec dk_X12_expression 117 rfl) ⟨by decide, by decide⟩ ?_
                      refine mm_goto (tgt := 229) C (mm_dec dk_X12_expression 118 rfl) (by decide) ?_
                      exact J229 9 ⟨by omega, by omega⟩ (by first | exact ⟨100015, Or.inr (Or.inr (Or.inr (Or.inr (Or.inl ⟨zcJ216.symm.trans (mm_hs9_y hs216 c219).2, rfl, rfl, rfl⟩))))⟩ | exact ⟨100016, Or.inr (Or.inr (Or.inr (Or.inr (Or.inr (Or.inl ⟨(mm_hq9x zcK).resolve_left (fun z => mm_hs9_n hs216 c219 (zcJ216.trans z)), rfl, rfl, rfl⟩)))))⟩) (Or.inl ⟨by omega, rfl⟩)
                  have hs192 : mm_hs9 h35_ r192 143 := mm_sgn9 tf35 (by decide) (by decide) y192
                  clear y192
                  refine mm_if_ne (tgt := 207) C (mm_dec dk_X12_expression 104 rfl) (by decide) (fun c195 => ?_) (fun c195 => ?_)
                  · skip
                    exact J207 (by first | exact (mm_hs9_y hs192 c195).1 | exact (mm_hs9_y hs201 c204).1) (by first | exact Or.inl (mm_hs9_y hs192 c195).2 | exact Or.inr (mm_hs9_y hs201 c204).2)
                  · skip
                    refine mm_aload_n C (mm_dec dk_X12_expression 105 rfl) rfl ?_
                    refine mm_bipush C (mm_dec dk_X12_expression 106 rfl) ⟨by decide, by decide⟩ ?_
                    refine mm_cVi (rest := []) C1 ev_X12_429 (mm_dec dk_X12_expression 107 rfl) (c_X12_isSign x.2.1 hl (d - 1) (by omega) h35_ i35_ 45) rfl rfl (Nat.le_of_ble_eq_true rfl) ⟨by decide, by decide⟩ rfl (fun r201 h201c hp201 => ?_) (fun _ _ q => q.elim)
                    obtain ⟨z201, y201⟩ := hp201
                    rw [z201]
                    have hs201 : mm_hs9 h35_ r201 145 := mm_sgn9 tf35 (by decide) (by decide) y201
                    clear y201
                    refine mm_if_eq (tgt := 244) C (mm_dec dk_X12_expression 108 rfl) (by decide) (fun c204 => ?_) (fun c204 => ?_)
                    · skip
                      refine mm_aload_n C (mm_dec dk_X12_expression 127 rfl) rfl ?_
                      refine mm_bipush C (mm_dec dk_X12_expression 128 rfl) ⟨by decide, by decide⟩ ?_
                      refine mm_cVi (rest := []) C1 ev_X12_429 (mm_dec dk_X12_expression 129 rfl) (c_X12_isSign x.2.1 hl (d - 1) (by omega) h35_ i35_ 42) rfl rfl (Nat.le_of_ble_eq_true rfl) ⟨by decide, by decide⟩ rfl (fun r247 h247c hp247 => ?_) (fun _ _ q => q.elim)
                      obtain ⟨z247, y247⟩ := hp247
                      rw [z247]
                      have J262 : ∀ (w262_0 : h35_.1 66 61 = 3) (w262_1 : (mm_cY h35_ = 142 ∨ mm_cY h35_ = 147)), mm_W x 0 0 262 [mR 66, mI (h.1 66 69), mI x35_2, mU] [] h35_ := by
                        intro w262_0 w262_1
                        have zcL : mm_hq9 _ := w262_1
                        have zc7 : mm_hq9 (mm_cY h35_ = 142 ∨ mm_cY h35_ = 147 ∨ mm_cY h35_ = 143 ∨ mm_cY h35_ = 145) := w262_1.elim Or.inl (fun z => Or.inr (Or.inl z))
                        clear w262_1 c53 c58 y47_0
                        refine mm_aload_n C (mm_dec dk_X12_expression 135 rfl) rfl ?_
                        refine mm_bipush C (mm_dec dk_X12_expression 136 rfl) ⟨by decide, by decide⟩ ?_
                        refine mm_cVv (rest := []) C1 ev_X12_445 (mm_dec dk_X12_expression 137 rfl) (c_X12_drops_q x.2.1 hl (d - 1) (by omega) h35_ i35_ 6 (by omega) (by omega)) rfl rfl (Nat.le_of_ble_eq_true rfl) ⟨by decide, by decide⟩ rfl (fun h265c hp265 => ?_) (fun _ _ q => q.elim)
                        obtain ⟨i265c, g265c, y265_0, y265_1, y265_2⟩ := hp265
                        have f265c : mm_fr [(66, 57), (66, 58), (66, 60), (66, 61), (66, 62), (66, 63), (66, 64), (66, 65), (66, 66), (66, 69), (66, 70), (66, 71)] [107, 108, 109] h h265c := mm_fr_tr f35_ g265c (by decide +kernel)
                        have q265c_265 : h265c.1 66 57 = h35_.1 66 57 := g265c.1 66 57 (by decide)
                        have q265c_266 : h265c.1 66 58 = h35_.1 66 58 := g265c.1 66 58 (by decide)
                        have q265c_267 : h265c.1 66 60 = h35_.1 66 60 := g265c.1 66 60 (by decide)
                        have q265c_268 : h265c.1 66 61 = h35_.1 66 61 := g265c.1 66 61 (by decide)
                        have q265c_269 : h265c.1 66 62 = h35_.1 66 62 := g265c.1 66 62 (by decide)
                        have q265c_270 : h265c.1 66 65 = h35_.1 66 65 := g265c.1 66 65 (by decide)
                        have q265c_271 : h265c.1 66 71 = h35_.1 66 71 := g265c.1 66 71 (by decide)
                        have g272 : 0 ≤ (h265c.1 66 69) ∧ (h265c.1 66 69) ≤ 2400 := i265c.1 66 69
                        have g273 : 0 ≤ (h265c.1 66 70) ∧ (h265c.1 66 70) ≤ 520 := i265c.1 66 70
                        have zd1 := y265_0.1.2.2.2.2.2
                        have zd2 := y265_0.2.1
                        clear y265_1
                        refine mm_aload_n C (mm_dec dk_X12_expression 138 rfl) rfl ?_
                        refine mm_aload_n C (mm_dec dk_X12_expression 139 rfl) rfl ?_
                        refine mm_bipush C (mm_dec dk_X12_expression 140 rfl) ⟨by decide, by decide⟩ ?_
                        refine mm_cVi (rest := [mR 66]) C1 ev_X12_429 (mm_dec dk_X12_expression 141 rfl) (c_X12_isSign x.2.1 hl (d - 1) (by omega) h265c i265c 42) rfl rfl (Nat.le_of_ble_eq_true rfl) ⟨by decide, by decide⟩ rfl (fun r272 h272c hp272 => ?_) (fun _ _ q => q.elim)
                        obtain ⟨z272, y272⟩ := hp272
                        rw [z272]
                        have J285 : ∀ (s285_1 : Int) (bs285_1 : 11 ≤ s285_1 ∧ s285_1 ≤ 12) (w285_0 : (∃ c, mm_op9 (mm_cY h35_) 6 s285_1 c)) (vs285_1 : (r272 ≠ 0 ∧ s285_1 = 11) ∨ (r272 = 0 ∧ s285_1 = 12)), mm_W x 0 0 285 [mR 66, mI (h.1 66 69), mI x35_2, mU] [mI s285_1, mR 66] h265c := by
                          intro s285_1 bs285_1 w285_0 vs285_1
                          refine mm_cVv (rest := []) C1 ev_X12_432 (mm_dec dk_X12_expression 146 rfl) (c_X12_waitsFor_x x.2.1 hl (d - 1) (by omega) h265c i265c s285_1 (by omega)) rfl rfl (Nat.le_of_ble_eq_true rfl) ⟨by decide, by decide⟩ rfl (fun h285c hp285 => ?_) (fun _ _ q => q.elim)
                          obtain ⟨i285c, g285c, y285_0, y285_1⟩ := hp285
                          have f285c : mm_fr [(66, 57), (66, 58), (66, 60), (66, 61), (66, 62), (66, 63), (66, 64), (66, 65), (66, 66), (66, 69), (66, 70), (66, 71)] [107, 108, 109] h h285c := mm_fr_tr f265c g285c (by decide +kernel)
                          have q285c_276 : h285c.1 66 57 = h265c.1 66 57 := g285c.1 66 57 (by decide)
                          have q285c_277 : h285c.1 66 58 = h265c.1 66 58 := g285c.1 66 58 (by decide)
                          have q285c_278 : h285c.1 66 60 = h265c.1 66 60 := g285c.1 66 60 (by decide)
                          have q285c_279 : h285c.1 66 61 = h265c.1 66 61 := g285c.1 66 61 (by decide)
                          have q285c_280 : h285c.1 66 62 = h265c.1 66 62 := g285c.1 66 62 (by decide)
                          have q285c_281 : h285c.1 66 65 = h265c.1 66 65 := g285c.1 66 65 (by decide)
                          have q285c_282 : h285c.1 66 69 = h265c.1 66 69 := g285c.1 66 69 (by decide)
                          have q285c_283 : h285c.1 66 71 = h265c.1 66 71 := g285c.1 66 71 (by decide)
                          have g284 : 0 ≤ (h285c.1 66 70) ∧ (h285c.1 66 70) ≤ 520 := i285c.1 66 70
                          clear vs285_1
                          refine mm_aload_n C (mm_dec dk_X12_expression 147 rfl) rfl ?_
                          refine mm_cVv (rest := []) C1 ev_X12_423 (mm_dec dk_X12_expression 148 rfl) (c_X12_goes_q x.2.1 hl (d - 1) (by omega) h285c i285c ) rfl rfl (Nat.le_of_ble_eq_true rfl) ⟨by decide, by decide⟩ rfl (fun h289c hp289 => ?_) (fun _ _ q => q.elim)
                          obtain ⟨i289c, g289c, y289_0, y289_1, y289_2, y289_3, y289_4⟩ := hp289
                          have f289c : mm_fr [(66, 57), (66, 58), (66, 60), (66, 61), (66, 62), (66, 63), (66, 64), (66, 65), (66, 66), (66, 69), (66, 70), (66, 71)] [107, 108, 109] h h289c := mm_fr_tr f285c g289c (by decide +kernel)
                          have q289c_286 : h289c.1 66 57 = h285c.1 66 57 := g289c.1 66 57 (by decide)
                          have q289c_287 : h289c.1 66 58 = h285c.1 66 58 := g289c.1 66 58 (by decide)
                          have q289c_288 : h289c.1 66 69 = h285c.1 66 69 := g289c.1 66 69 (by decide)
                          have q289c_289 : h289c.1 66 70 = h285c.1 66 70 := g289c.1 66 70 (by decide)
                          have q289c_290 : h289c.1 66 71 = h285c.1 66 71 := g289c.1 66 71 (by decide)
                          have g291 : 0 ≤ (h289c.1 66 62) ∧ (h289c.1 66 62) ≤ 500 := i289c.1 66 62
                          have g292 : 0 ≤ (h289c.1 66 60) ∧ (h289c.1 66 60) ≤ 500 := i289c.1 66 60
                          have g293 : -2147483648 ≤ (h289c.1 66 61) ∧ (h289c.1 66 61) ≤ 2147483647 := i289c.1 66 61
                          have g294 : -2147483648 ≤ (h289c.1 66 65) ∧ (h289c.1 66 65) ≤ 2147483647 := i289c.1 66 65
                          have q9 := y289_2
                          clear y289_2
                          have y289_2 : mm_hq9 _ := q9
                          clear q9
                          have zE := mm_e_op w35_0 i265c (by omega) (by omega) y265_0 g265c ⟨by omega, by omega⟩ y285_0 y285_1 g285c ⟨rfl, fun _ _ => rfl⟩ g289c y289_0 y289_1 y289_2
                          have zb := zE.1.2.2.1
                          have zw := zE.1.2.2.2.2.2
                          have zl := zE.2.2.2.2.1
                          have ze9 := mm_eY_tr (mm_eY_fr g265c (by decide)) (mm_eY_fr g285c (by decide))
                          have zs9 := mm_st9_of (mm_eY_a ze9 w35_1.2.1) y289_3 y289_4 g289c (by decide)
                          have zk9 : mm_kY h285c = mm_kY h35_ := mm_kY_eq (fun j => (g285c.2 109 (by decide) j).trans (g265c.2 109 (by decide) j)) (by omega)
                          clear y289_2
                          have zE9 := zE
                          clear zE
                          have zE : mm_hq9 _ := zE9
                          clear zE9
                          refine mm_aload_n C (mm_dec dk_X12_expression 149 rfl) rfl ?_
                          refine mm_iconst C (mm_dec dk_X12_expression 150 rfl) ⟨by decide, by decide⟩ ?_
                          refine mm_cVv (rest := []) C1 ev_X12_441 (mm_dec dk_X12_expression 151 rfl) (c_X12_operand_q x.2.1 hl (d - 1) (by omega) h289c i289c 0 ⟨by omega, by omega⟩ (by first | exact y289_3 | exact zE.2.1 | exact fun _ => zE.2.2.2.1 | omega) (by first | exact y289_3 | exact zE.2.1 | exact fun _ => zE.2.2.2.1 | omega) (by first | exact y289_3 | exact zE.2.1 | exact fun _ => zE.2.2.2.1 | omega) (by first | exact y289_3 | exact zE.2.1 | exact fun _ => zE.2.2.2.1 | omega) (by first | exact y289_3 | exact zE.2.1 | exact fun _ => zE.2.2.2.1 | omega)) rfl rfl (Nat.le_of_ble_eq_true rfl) ⟨by decide, by decide⟩ rfl (fun h294c hp294 => ?_) (fun _ _ q => q.elim)
                          obtain ⟨i294c, g294c, y294_0, y294_1, y294_2, y294_3⟩ := hp294
                          have f294c : mm_fr [(66, 57), (66, 58), (66, 60), (66, 61), (66, 62), (66, 63), (66, 64), (66, 65), (66, 66), (66, 69), (66, 70), (66, 71)] [107, 108, 109] h h294c := mm_fr_tr f289c g294c (by decide +kernel)
                          have g296 : -2147483648 ≤ (h294c.1 66 57) ∧ (h294c.1 66 57) ≤ 2147483647 := i294c.1 66 57
                          have g297 : 0 ≤ (h294c.1 66 69) ∧ (h294c.1 66 69) ≤ 2400 := i294c.1 66 69
                          have g298 : 0 ≤ (h294c.1 66 70) ∧ (h294c.1 66 70) ≤ 520 := i294c.1 66 70
                          have g299 : 0 ≤ (h294c.1 66 62) ∧ (h294c.1 66 62) ≤ 500 := i294c.1 66 62
                          have g300 : 0 ≤ (h294c.1 66 60) ∧ (h294c.1 66 60) ≤ 500 := i294c.1 66 60
                          have g301 : -2147483648 ≤ (h294c.1 66 61) ∧ (h294c.1 66 61) ≤ 2147483647 := i294c.1 66 61
                          have g302 : 0 ≤ (h294c.1 66 71) ∧ (h294c.1 66 71) ≤ 6 := i294c.1 66 71
                          have g303 : -2147483648 ≤ (h294c.1 66 58) ∧ (h294c.1 66 58) ≤ 2147483647 := i294c.1 66 58
                          have g304 : -2147483648 ≤ (h294c.1 66 65) ∧ (h294c.1 66 65) ≤ 2147483647 := i294c.1 66 65
                          have zF := mm_e_put (p := h.1 66 62) zE y294_0 (by omega)
                          have zG := zF.2
                          have yq : mm_hq9 _ := y294_2
                          clear y294_2
                          refine mm_goto (tgt := 351) C (mm_dec dk_X12_expression 152 rfl) (by decide) ?_
                          exact J351 x35_2 ⟨by omega, by omega⟩ h294c i294c f294c (by first | exact zF.1 | exact w35_0) (by omega) (by omega) (by first | exact mm_I35_op zI1 (by omega) ze9 ⟨by omega, by omega⟩ zs9 ⟨by omega, by omega⟩ (mm_kY_eq (g101c.2 109 (by decide)) (g101c.1 66 71 (by decide))) (fun i r P => mm_st_and zca zu9 (by omega) zdd) y106_1 (fun q => by have z9 := (y106_0.2.2.1 q).2; omega) (by omega) | exact mm_I35_op zI1 (by omega) ze9 ⟨by omega, by omega⟩ zs9 ⟨by omega, by omega⟩ (mm_kY_eq (g178c.2 109 (by decide)) (g178c.1 66 71 (by decide))) (fun i r P => mm_st_lt (mm_hq9x zc0) (by omega) zu9 (by omega) zdd) y183_1 (fun q => by have z9 := (y183_0.2.2.1 q).2; omega) (by omega) | exact mm_I35_op zI1 (by omega) ze9 ⟨by omega, by omega⟩ zs9 ⟨by omega, by omega⟩ (mm_kY_eq (g233c.2 109 (by decide)) (g233c.1 66 71 (by decide))) (fun i r P => mm_st_op (mm_hq9x zc7) zk9 zdd) y238_1 (fun q => by have z9 := (y238_0.2.2.1 q).2; omega) (by omega) | exact mm_I35_op zI1 (by omega) ze9 ⟨by omega, by omega⟩ zs9 ⟨by omega, by omega⟩ (mm_kY_eq (g289c.2 109 (by decide)) (g289c.1 66 71 (by decide))) (fun i r P => mm_st_op (mm_hq9x zc7) zk9 zdd) y294_1 (fun q => by have z9 := (y294_0.2.2.1 q).2; omega) (by omega) | exact mm_I35_close zI1 (by omega) zc41 ze9 ⟨by omega, by omega⟩ z109 (by omega) (by omega) zs9 ⟨by omega, by omega⟩ (mm_kY_eq (g343c.2 109 (by decide)) (g343c.1 66 71 (by decide))) (by omega) (by omega) | exact mm_I35_out zI1 (fun _ => ⟨w349_0, w349_1⟩)) (by first | exact (mm_hq9x yq).elim Or.inl (fun z => Or.inr ⟨zq8.1, by omega⟩) | omega) (by first | exact mm_I35J_op (l := s72_1) zI1 w35_3 (by omega) (mm_opJ9 (s87_1) (by omega)) y72_2 y87_0 y87_1 (show 0 ≤ h72c.1 66 70 ∧ h72c.1 66 70 ≤ 520 from i72c.1 66 70).1 (g87c.1 66 69 (by decide)) (g87c.2 107 (by decide)) (mm_wo_pa eh10 (by decide)) ze9 ⟨by omega, by omega⟩ zs9 ⟨by omega, by omega⟩ (mm_wo_fr g101c (by decide)) (mm_kY_eq (g101c.2 109 (by decide)) (g101c.1 66 71 (by decide))) (fun i r P => mm_st_and zca zu9 (by omega) zdd) (Or.inl ⟨by omega, by omega⟩) y106_3 | exact mm_I35J_op (l := 4) zI1 w35_3 (by omega) w164_0 y144_2 y164_0 y164_1 (show 0 ≤ h144c.1 66 70 ∧ h144c.1 66 70 ≤ 520 from i144c.1 66 70).1 (g164c.1 66 69 (by decide)) (g164c.2 107 (by decide)) (mm_wo_pa eh27 (by decide)) ze9 ⟨by omega, by omega⟩ zs9 ⟨by omega, by omega⟩ (mm_wo_fr g178c (by decide)) (mm_kY_eq (g178c.2 109 (by decide)) (g178c.1 66 71 (by decide))) (fun i r P => mm_st_lt (mm_hq9x zc0) (by omega) zu9 (by omega) zdd) (Or.inr (by omega)) y183_3 | exact mm_I35J_op (l := 5) zI1 w35_3 (by omega) w229_0 y209_2 y229_0 y229_1 (show 0 ≤ h209c.1 66 70 ∧ h209c.1 66 70 ≤ 520 from i209c.1 66 70).1 (g229c.1 66 69 (by decide)) (g229c.2 107 (by decide)) mm_wo_rf ze9 ⟨by omega, by omega⟩ zs9 ⟨by omega, by omega⟩ (mm_wo_fr g233c (by decide)) (mm_kY_eq (g233c.2 109 (by decide)) (g233c.1 66 71 (by decide))) (fun i r P => mm_st_op (mm_hq9x zc7) zk9 zdd) (Or.inl (mm_hcJ (mm_hq9x zc7))) y238_3 | exact mm_I35J_op (l := 6) zI1 w35_3 (by omega) w285_0 y265_2 y285_0 y285_1 (show 0 ≤ h265c.1 66 70 ∧ h265c.1 66 70 ≤ 520 from i265c.1 66 70).1 (g285c.1 66 69 (by decide)) (g285c.2 107 (by decide)) mm_wo_rf ze9 ⟨by omega, by omega⟩ zs9 ⟨by omega, by omega⟩ (mm_wo_fr g289c (by decide)) (mm_kY_eq (g289c.2 109 (by decide)) (g289c.1 66 71 (by decide))) (fun i r P => mm_st_op (mm_hq9x zc7) zk9 zdd) (Or.inl (mm_hcJ (mm_hq9x zc7))) y294_3 | exact mm_I35J_close zI1 w35_3 (by omega) zc41 y319_2 zC (by omega) (fun j => (mm_sm_pf 108 eh23 j).trans (mm_sm_pf 108 eh22 j)) (by omega) (fun j => (mm_sm_pf 107 eh23 j).trans (mm_sm_pf 107 eh22 j)) ze9 z109 (by omega) (by omega) zs9 (mm_wo_fr g343c (by decide)) (mm_kY_eq (g343c.2 109 (by decide)) (g343c.1 66 71 (by decide))) | exact w35_3)
                        have tfJ := mm_cY_h (mm_eY_a (mm_eY_fr g265c (by decide)) w35_1.2.1)
                        have hs272 : mm_hs9 h265c r272 142 := mm_sgn9 tfJ (by decide) (by decide) y272
                        have zcJ272 := (mm_eY_c (mm_eY_fr g265c (by decide))).1
                        clear tfJ
                        clear y272
                        refine mm_if_eq (tgt := 283) C (mm_dec dk_X12_expression 142 rfl) (by decide) (fun c275 => ?_) (fun c275 => ?_)
                        · skip
                          refine mm_bipush C (mm_dec dk_X12_expression 145 rfl) ⟨by decide, by decide⟩ ?_
                          exact J285 12 ⟨by omega, by omega⟩ (by first | exact ⟨100017, Or.inr (Or.inr (Or.inr (Or.inr (Or.inr (Or.inr (Or.inl ⟨zcJ272.symm.trans (mm_hs9_y hs272 c275).2, rfl, rfl, rfl⟩))))))⟩ | exact ⟨100018, Or.inr (Or.inr (Or.inr (Or.inr (Or.inr (Or.inr (Or.inr (⟨(mm_hq9x zcL).resolve_left (fun z => mm_hs9_n hs272 c275 (zcJ272.trans z)), rfl, rfl, rfl⟩)))))))⟩) (Or.inr (⟨by omega, rfl⟩))
                        · skip
                          refine mm_bipush C (mm_dec dk_X12_expression 143 rfl) ⟨by decide, by decide⟩ ?_
                          refine mm_goto (tgt := 285) C (mm_dec dk_X12_expression 144 rfl) (by decide) ?_
                          exact J285 11 ⟨by omega, by omega⟩ (by first | exact ⟨100017, Or.inr (Or.inr (Or.inr (Or.inr (Or.inr (Or.inr (Or.inl ⟨zcJ272.symm.trans (mm_hs9_y hs272 c275).2, rfl, rfl, rfl⟩))))))⟩ | exact ⟨100018, Or.inr (Or.inr (Or.inr (Or.inr (Or.inr (Or.inr (Or.inr (⟨(mm_hq9x zcL).resolve_left (fun z => mm_hs9_n hs272 c275 (zcJ272.trans z)), rfl, rfl, rfl⟩)))))))⟩) (Or.inl ⟨by omega, rfl⟩)
                      have hs247 : mm_hs9 h35_ r247 142 := mm_sgn9 tf35 (by decide) (by decide) y247
                      clear y247
                      refine mm_if_ne (tgt := 262) C (mm_dec dk_X12_expression 130 rfl) (by decide) (fun c250 => ?_) (fun c250 => ?_)
                      · skip
                        exact J262 (by first | exact (mm_hs9_y hs247 c250).1 | exact (mm_hs9_y hs256 c259).1) (by first | exact Or.inl (mm_hs9_y hs247 c250).2 | exact Or.inr (mm_hs9_y hs256 c259).2)
                      · skip
                        refine mm_aload_n C (mm_dec dk_X12_expression 131 rfl) rfl ?_
                        refine mm_bipush C (mm_dec dk_X12_expression 132 rfl) ⟨by decide, by decide⟩ ?_
                        refine mm_cVi (rest := []) C1 ev_X12_429 (mm_dec dk_X12_expression 133 rfl) (c_X12_isSign x.2.1 hl (d - 1) (by omega) h35_ i35_ 47) rfl rfl (Nat.le_of_ble_eq_true rfl) ⟨by decide, by decide⟩ rfl (fun r256 h256c hp256 => ?_) (fun _ _ q => q.elim)
                        obtain ⟨z256, y256⟩ := hp256
                        rw [z256]
                        have hs256 : mm_hs9 h35_ r256 147 := mm_sgn9 tf35 (by decide) (by decide) y256
                        clear y256
                        refine mm_if_eq (tgt := 300) C (mm_dec dk_X12_expression 134 rfl) (by decide) (fun c259 => ?_) (fun c259 => ?_)
                        · skip
                          refine mm_aload_n C (mm_dec dk_X12_expression 153 rfl) rfl ?_
                          refine mm_bipush C (mm_dec dk_X12_expression 154 rfl) ⟨by decide, by decide⟩ ?_
                          refine mm_cVi (rest := []) C1 ev_X12_429 (mm_dec dk_X12_expression 155 rfl) (c_X12_isSign x.2.1 hl (d - 1) (by omega) h35_ i35_ 41) rfl rfl (Nat.le_of_ble_eq_true rfl) ⟨by decide, by decide⟩ rfl (fun r303 h303c hp303 => ?_) (fun _ _ q => q.elim)
                          obtain ⟨z303, y303⟩ := hp303
                          rw [z303]
                          have J349 : ∀ (w349_0 : mm_nF (mm_cY h35_) (h35_.2.1 109 (h35_.1 66 71))) (w349_1 : (mm_cY h35_ ≠ 141 ∨ h35_.1 66 71 ≤ 1)), mm_W x 0 0 349 [mR 66, mI (h.1 66 69), mU, mU] [] h35_ := by
                            intro w349_0 w349_1
                            refine mm_iconst C (mm_dec dk_X12_expression 179 rfl) ⟨by decide, by decide⟩ ?_
                            refine mm_istore_nL (ls2 := [mR 66, mI (h.1 66 69), mI 0, mU]) C (mm_dec dk_X12_expression 180 rfl) (by decide) rfl ?_
                            exact J351 0 ⟨by omega, by omega⟩ h35_ i35_ f35_ (by first | exact zF.1 | exact w35_0) (by omega) (by omega) (by first | exact mm_I35_op zI1 (by omega) ze9 ⟨by omega, by omega⟩ zs9 ⟨by omega, by omega⟩ (mm_kY_eq (g101c.2 109 (by decide)) (g101c.1 66 71 (by decide))) (fun i r P => mm_st_and zca zu9 (by omega) zdd) y106_1 (fun q => by have z9 := (y106_0.2.2.1 q).2; omega) (by omega) | exact mm_I35_op zI1 (by omega) ze9 ⟨by omega, by omega⟩ zs9 ⟨by omega, by omega⟩ (mm_kY_eq (g178c.2 109 (by decide)) (g178c.1 66 71 (by decide))) (fun i r P => mm_st_lt (mm_hq9x zc0) (by omega) zu9 (by omega) zdd) y183_1 (fun q => by have z9 := (y183_0.2.2.1 q).2; omega) (by omega) | exact mm_I35_op zI1 (by omega) ze9 ⟨by omega, by omega⟩ zs9 ⟨by omega, by omega⟩ (mm_kY_eq (g233c.2 109 (by decide)) (g233c.1 66 71 (by decide))) (fun i r P => mm_st_op (mm_hq9x zc7) zk9 zdd) y238_1 (fun q => by have z9 := (y238_0.2.2.1 q).2; omega) (by omega) | exact mm_I35_op zI1 (by omega) ze9 ⟨by omega, by omega⟩ zs9 ⟨by omega, by omega⟩ (mm_kY_eq (g289c.2 109 (by decide)) (g289c.1 66 71 (by decide))) (fun i r P => mm_st_op (mm_hq9x zc7) zk9 zdd) y294_1 (fun q => by have z9 := (y294_0.2.2.1 q).2; omega) (by omega) | exact mm_I35_close zI1 (by omega) zc41 ze9 ⟨by omega, by omega⟩ z109 (by omega) (by omega) zs9 ⟨by omega, by omega⟩ (mm_kY_eq (g343c.2 109 (by decide)) (g343c.1 66 71 (by decide))) (by omega) (by omega) | exact mm_I35_out zI1 (fun _ => ⟨w349_0, w349_1⟩)) (by first | exact (mm_hq9x yq).elim Or.inl (fun z => Or.inr ⟨zq8.1, by omega⟩) | omega) (by first | exact mm_I35J_op (l := s72_1) zI1 w35_3 (by omega) (mm_opJ9 (s87_1) (by omega)) y72_2 y87_0 y87_1 (show 0 ≤ h72c.1 66 70 ∧ h72c.1 66 70 ≤ 520 from i72c.1 66 70).1 (g87c.1 66 69 (by decide)) (g87c.2 107 (by decide)) (mm_wo_pa eh10 (by decide)) ze9 ⟨by omega, by omega⟩ zs9 ⟨by omega, by omega⟩ (mm_wo_fr g101c (by decide)) (mm_kY_eq (g101c.2 109 (by decide)) (g101c.1 66 71 (by decide))) (fun i r P => mm_st_and zca zu9 (by omega) zdd) (Or.inl ⟨by omega, by omega⟩) y106_3 | exact mm_I35J_op (l := 4) zI1 w35_3 (by omega) w164_0 y144_2 y164_0 y164_1 (show 0 ≤ h144c.1 66 70 ∧ h144c.1 66 70 ≤ 520 from i144c.1 66 70).1 (g164c.1 66 69 (by decide)) (g164c.2 107 (by decide)) (mm_wo_pa eh27 (by decide)) ze9 ⟨by omega, by omega⟩ zs9 ⟨by omega, by omega⟩ (mm_wo_fr g178c (by decide)) (mm_kY_eq (g178c.2 109 (by decide)) (g178c.1 66 71 (by decide))) (fun i r P => mm_st_lt (mm_hq9x zc0) (by omega) zu9 (by omega) zdd) (Or.inr (by omega)) y183_3 | exact mm_I35J_op (l := 5) zI1 w35_3 (by omega) w229_0 y209_2 y229_0 y229_1 (show 0 ≤ h209c.1 66 70 ∧ h209c.1 66 70 ≤ 520 from i209c.1 66 70).1 (g229c.1 66 69 (by decide)) (g229c.2 107 (by decide)) mm_wo_rf ze9 ⟨by omega, by omega⟩ zs9 ⟨by omega, by omega⟩ (mm_wo_fr g233c (by decide)) (mm_kY_eq (g233c.2 109 (by decide)) (g233c.1 66 71 (by decide))) (fun i r P => mm_st_op (mm_hq9x zc7) zk9 zdd) (Or.inl (mm_hcJ (mm_hq9x zc7))) y238_3 | exact mm_I35J_op (l := 6) zI1 w35_3 (by omega) w285_0 y265_2 y285_0 y285_1 (show 0 ≤ h265c.1 66 70 ∧ h265c.1 66 70 ≤ 520 from i265c.1 66 70).1 (g285c.1 66 69 (by decide)) (g285c.2 107 (by decide)) mm_wo_rf ze9 ⟨by omega, by omega⟩ zs9 ⟨by omega, by omega⟩ (mm_wo_fr g289c (by decide)) (mm_kY_eq (g289c.2 109 (by decide)) (g289c.1 66 71 (by decide))) (fun i r P => mm_st_op (mm_hq9x zc7) zk9 zdd) (Or.inl (mm_hcJ (mm_hq9x zc7))) y294_3 | exact mm_I35J_close zI1 w35_3 (by omega) zc41 y319_2 zC (by omega) (fun j => (mm_sm_pf 108 eh23 j).trans (mm_sm_pf 108 eh22 j)) (by omega) (fun j => (mm_sm_pf 107 eh23 j).trans (mm_sm_pf 107 eh22 j)) ze9 z109 (by omega) (by omega) zs9 (mm_wo_fr g343c (by decide)) (mm_kY_eq (g343c.2 109 (by decide)) (g343c.1 66 71 (by decide))) | exact w35_3)
                          have hs303 : mm_hs9 h35_ r303 141 := mm_sgn9 tf35 (by decide) (by decide) y303
                          clear y303
                          refine mm_if_eq (tgt := 349) C (mm_dec dk_X12_expression 156 rfl) (by decide) (fun c306 => ?_) (fun c306 => ?_)
                          · skip
                            refine mm_fgt 2 ?_
                            exact J349 (by (unfold mm_nF; exact ⟨(mm_hq9x zcn).1, (mm_hq9x zcn).2, mm_hs9_n hs192 c195, mm_hs9_n hs201 c204, mm_hs9_n hs247 c250, mm_hs9_n hs256 c259, mm_hq9x w189_0⟩)) (by first | exact Or.inl (mm_hs9_n hs303 c306) | exact Or.inr c314)
                          · skip
                            clear c53 c58 y47_0
                            have zs3 : h35_.1 66 61 = 3 := (mm_hs9_y hs303 c306).1
                            have zc41 : mm_cY h35_ = 141 := (mm_hs9_y hs303 c306).2
                            refine mm_aload_n C (mm_dec dk_X12_expression 157 rfl) rfl ?_
                            refine mm_geti C fl_X12_426 (mm_dec dk_X12_expression 158 rfl) rfl rfl (Or.inl rfl) ?_
                            refine mm_iconst C (mm_dec dk_X12_expression 159 rfl) ⟨by decide, by decide⟩ ?_
                            refine mm_icmp_le (tgt := 349) C (mm_dec dk_X12_expression 160 rfl) (by decide) (fun c314 => ?_) (fun c314 => ?_)
                            · skip
                              refine mm_fgt 2 ?_
                              exact J349 (by (unfold mm_nF; exact ⟨(mm_hq9x zcn).1, (mm_hq9x zcn).2, mm_hs9_n hs192 c195, mm_hs9_n hs201 c204, mm_hs9_n hs247 c250, mm_hs9_n hs256 c259, mm_hq9x w189_0⟩)) (by first | exact Or.inl (mm_hs9_n hs303 c306) | exact Or.inr c314)
                            · skip
                              refine mm_aload_n C (mm_dec dk_X12_expression 161 rfl) rfl ?_
                              refine mm_iconst C (mm_dec dk_X12_expression 162 rfl) ⟨by decide, by decide⟩ ?_
                              refine mm_cVv (rest := []) C1 ev_X12_445 (mm_dec dk_X12_expression 163 rfl) (c_X12_drops_q x.2.1 hl (d - 1) (by omega) h35_ i35_ 0 (by omega) (by omega)) rfl rfl (Nat.le_of_ble_eq_true rfl) ⟨by decide, by decide⟩ rfl (fun h319c hp319 => ?_) (fun _ _ q => q.elim)
                              obtain ⟨i319c, g319c, y319_0, y319_1, y319_2⟩ := hp319
                              have f319c : mm_fr [(66, 57), (66, 58), (66, 60), (66, 61), (66, 62), (66, 63), (66, 64), (66, 65), (66, 66), (66, 69), (66, 70), (66, 71)] [107, 108, 109] h h319c := mm_fr_tr f35_ g319c (by decide +kernel)
                              have q319c_317 : h319c.1 66 57 = h35_.1 66 57 := g319c.1 66 57 (by decide)
                              have q319c_318 : h319c.1 66 58 = h35_.1 66 58 := g319c.1 66 58 (by decide)
                              have q319c_319 : h319c.1 66 60 = h35_.1 66 60 := g319c.1 66 60 (by decide)
                              have q319c_320 : h319c.1 66 61 = h35_.1 66 61 := g319c.1 66 61 (by decide)
                              have q319c_321 : h319c.1 66 62 = h35_.1 66 62 := g319c.1 66 62 (by decide)
                              have q319c_322 : h319c.1 66 65 = h35_.1 66 65 := g319c.1 66 65 (by decide)
                              have q319c_323 : h319c.1 66 71 = h35_.1 66 71 := g319c.1 66 71 (by decide)
                              have g324 : 0 ≤ (h319c.1 66 69) ∧ (h319c.1 66 69) ≤ 2400 := i319c.1 66 69
                              have g325 : 0 ≤ (h319c.1 66 70) ∧ (h319c.1 66 70) ≤ 520 := i319c.1 66 70
                              have q9 := y319_1
                              clear y319_1
                              have y319_1 : mm_hq9 _ := q9
                              clear q9
                              have zC := mm_e_close w35_0 i35_ i319c (by omega) (by omega) (by omega) y319_0 g319c (y319_1.resolve_left (by omega))
                              refine mm_aload_n C (mm_dec dk_X12_expression 164 rfl) rfl ?_
                              refine mm_dup C (mm_dec dk_X12_expression 165 rfl) (show (2 : Nat) ≠ 1 by decide) ?_
                              refine mm_geti C fl_X12_404 (mm_dec dk_X12_expression 166 rfl) rfl rfl (Or.inl rfl) ?_
                              refine mm_iconst C (mm_dec dk_X12_expression 167 rfl) ⟨by decide, by decide⟩ ?_
                              refine mm_isub C (mm_dec dk_X12_expression 168 rfl) ⟨by omega, by omega⟩ ?_
                              refine mm_puti C fl_X12_404 (mm_dec dk_X12_expression 169 rfl) rfl rfl rfl (Or.inl ⟨rfl, rfl⟩) ?_
                              have i22 : mm_inv (mm_pf h319c 66 70 ((h319c.1 66 70) - 1)) := mm_inv_pf i319c (show 0 ≤ ((h319c.1 66 70) - 1) ∧ ((h319c.1 66 70) - 1) ≤ 520 from ⟨by omega, by omega⟩) (by decide)
                              have f22 : mm_fr [(66, 57), (66, 58), (66, 60), (66, 61), (66, 62), (66, 63), (66, 64), (66, 65), (66, 66), (66, 69), (66, 70), (66, 71)] [107, 108, 109] h (mm_pf h319c 66 70 ((h319c.1 66 70) - 1)) := mm_fr_pf f319c (by decide)
                              obtain ⟨h22, eh22⟩ : ∃ z, z = mm_pf h319c 66 70 ((h319c.1 66 70) - 1) := ⟨_, rfl⟩
                              rw [← eh22] at i22 f22 ⊢
                              have qh22 : h22.1 66 70 = ((h319c.1 66 70) - 1) := by rw [eh22]; exact mm_pf_same _ _ _ _
                              have qh22_326 : h22.1 66 57 = h319c.1 66 57 := by rw [eh22]; exact mm_pf_ne _ _ (by decide)
                              have qh22_327 : h22.1 66 58 = h319c.1 66 58 := by rw [eh22]; exact mm_pf_ne _ _ (by decide)
                              have qh22_328 : h22.1 66 60 = h319c.1 66 60 := by rw [eh22]; exact mm_pf_ne _ _ (by decide)
                              have qh22_329 : h22.1 66 61 = h319c.1 66 61 := by rw [eh22]; exact mm_pf_ne _ _ (by decide)
                              have qh22_330 : h22.1 66 62 = h319c.1 66 62 := by rw [eh22]; exact mm_pf_ne _ _ (by decide)
                              have qh22_331 : h22.1 66 65 = h319c.1 66 65 := by rw [eh22]; exact mm_pf_ne _ _ (by decide)
                              have qh22_332 : h22.1 66 69 = h319c.1 66 69 := by rw [eh22]; exact mm_pf_ne _ _ (by decide)
                              have qh22_333 : h22.1 66 71 = h319c.1 66 71 := by rw [eh22]; exact mm_pf_ne _ _ (by decide)
                              refine mm_aload_n C (mm_dec dk_X12_expression 170 rfl) rfl ?_
                              refine mm_dup C (mm_dec dk_X12_expression 171 rfl) (show (2 : Nat) ≠ 1 by decide) ?_
                              refine mm_geti C fl_X12_426 (mm_dec dk_X12_expression 172 rfl) rfl rfl (Or.inl rfl) ?_
                              refine mm_iconst C (mm_dec dk_X12_expression 173 rfl) ⟨by decide, by decide⟩ ?_
                              refine mm_isub C (mm_dec dk_X12_expression 174 rfl) ⟨by omega, by omega⟩ ?_
                              refine mm_puti C fl_X12_426 (mm_dec dk_X12_expression 175 rfl) rfl rfl rfl (Or.inl ⟨rfl, rfl⟩) ?_
                              have i23 : mm_inv (mm_pf h22 66 71 ((h22.1 66 71) - 1)) := mm_inv_pf i22 (show 0 ≤ ((h22.1 66 71) - 1) ∧ ((h22.1 66 71) - 1) ≤ 6 from ⟨by omega, by omega⟩) (by decide)
                              have f23 : mm_fr [(66, 57), (66, 58), (66, 60), (66, 61), (66, 62), (66, 63), (66, 64), (66, 65), (66, 66), (66, 69), (66, 70), (66, 71)] [107, 108, 109] h (mm_pf h22 66 71 ((h22.1 66 71) - 1)) := mm_fr_pf f22 (by decide)
                              obtain ⟨h23, eh23⟩ : ∃ z, z = mm_pf h22 66 71 ((h22.1 66 71) - 1) := ⟨_, rfl⟩
                              rw [← eh23] at i23 f23 ⊢
                              have qh23 : h23.1 66 71 = ((h22.1 66 71) - 1) := by rw [eh23]; exact mm_pf_same _ _ _ _
                              have qh23_334 : h23.1 66 57 = h22.1 66 57 := by rw [eh23]; exact mm_pf_ne _ _ (by decide)
                              have qh23_335 : h23.1 66 58 = h22.1 66 58 := by rw [eh23]; exact mm_pf_ne _ _ (by decide)
                              have qh23_336 : h23.1 66 60 = h22.1 66 60 := by rw [eh23]; exact mm_pf_ne _ _ (by decide)
                              have qh23_337 : h23.1 66 61 = h22.1 66 61 := by rw [eh23]; exact mm_pf_ne _ _ (by decide)
                              have qh23_338 : h23.1 66 62 = h22.1 66 62 := by rw [eh23]; exact mm_pf_ne _ _ (by decide)
                              have qh23_339 : h23.1 66 65 = h22.1 66 65 := by rw [eh23]; exact mm_pf_ne _ _ (by decide)
                              have qh23_340 : h23.1 66 69 = h22.1 66 69 := by rw [eh23]; exact mm_pf_ne _ _ (by decide)
                              have qh23_341 : h23.1 66 70 = h22.1 66 70 := by rw [eh23]; exact mm_pf_ne _ _ (by decide)
                              refine mm_aload_n C (mm_dec dk_X12_expression 176 rfl) rfl ?_
                              refine mm_cVv (rest := []) C1 ev_X12_423 (mm_dec dk_X12_expression 177 rfl) (c_X12_goes_q x.2.1 hl (d - 1) (by omega) h23 i23 ) rfl rfl (Nat.le_of_ble_eq_true rfl) ⟨by decide, by decide⟩ rfl (fun h343c hp343 => ?_) (fun _ _ q => q.elim)
                              obtain ⟨i343c, g343c, y343_0, y343_1, y343_2, y343_3, y343_4⟩ := hp343
                              have f343c : mm_fr [(66, 57), (66, 58), (66, 60), (66, 61), (66, 62), (66, 63), (66, 64), (66, 65), (66, 66), (66, 69), (66, 70), (66, 71)] [107, 108, 109] h h343c := mm_fr_tr f23 g343c (by decide +kernel)
                              have q343c_343 : h343c.1 66 57 = h23.1 66 57 := g343c.1 66 57 (by decide)
                              have q343c_344 : h343c.1 66 58 = h23.1 66 58 := g343c.1 66 58 (by decide)
                              have q343c_345 : h343c.1 66 69 = h23.1 66 69 := g343c.1 66 69 (by decide)
                              have q343c_346 : h343c.1 66 70 = h23.1 66 70 := g343c.1 66 70 (by decide)
                              have q343c_347 : h343c.1 66 71 = h23.1 66 71 := g343c.1 66 71 (by decide)
                              have g348 : 0 ≤ (h343c.1 66 62) ∧ (h343c.1 66 62) ≤ 500 := i343c.1 66 62
                              have g349 : 0 ≤ (h343c.1 66 60) ∧ (h343c.1 66 60) ≤ 500 := i343c.1 66 60
                              have g350 : -2147483648 ≤ (h343c.1 66 61) ∧ (h343c.1 66 61) ≤ 2147483647 := i343c.1 66 61
                              have g351 : -2147483648 ≤ (h343c.1 66 65) ∧ (h343c.1 66 65) ≤ 2147483647 := i343c.1 66 65
                              have q9 := y343_2
                              clear y343_2
                              have y343_2 : mm_hq9 _ := q9
                              clear q9
                              have zF := mm_e_shut w35_0 i319c (by omega) (by omega) y319_0 g319c (y319_1.resolve_left (by omega)) zC eh22 eh23 g343c y343_0 y343_1 y343_2
                              have zG := zF.2
                              have ze9 := mm_eY_tr (mm_eY_fr g319c (by decide)) (mm_eY_tr (mm_eY_pf eh22 (by decide)) (mm_eY_pf eh23 (by decide)))
                              have zs9 := mm_st9_of (mm_eY_a ze9 w35_1.2.1) y343_3 y343_4 g343c (by decide)
                              have z109 : ∀ j, h23.2.1 109 j = h35_.2.1 109 j := fun j => by rw [eh23, eh22]; exact g319c.2 109 (by decide) j
                              refine mm_goto (tgt := 351) C (mm_dec dk_X12_expression 178 rfl) (by decide) ?_
                              exact J351 x35_2 ⟨by omega, by omega⟩ h343c i343c f343c (by first | exact zF.1 | exact w35_0) (by omega) (by omega) (by first | exact mm_I35_op zI1 (by omega) ze9 ⟨by omega, by omega⟩ zs9 ⟨by omega, by omega⟩ (mm_kY_eq (g101c.2 109 (by decide)) (g101c.1 66 71 (by decide))) (fun i r P => mm_st_and zca zu9 (by omega) zdd) y106_1 (fun q => by have z9 := (y106_0.2.2.1 q).2; omega) (by omega) | exact mm_I35_op zI1 (by omega) ze9 ⟨by omega, by omega⟩ zs9 ⟨by omega, by omega⟩ (mm_kY_eq (g178c.2 109 (by decide)) (g178c.1 66 71 (by decide))) (fun i r P => mm_st_lt (mm_hq9x zc0) (by omega) zu9 (by omega) zdd) y183_1 (fun q => by have z9 := (y183_0.2.2.1 q).2; omega) (by omega) | exact mm_I35_op zI1 (by omega) ze9 ⟨by omega, by omega⟩ zs9 ⟨by omega, by omega⟩ (mm_kY_eq (g233c.2 109 (by decide)) (g233c.1 66 71 (by decide))) (fun i r P => mm_st_op (mm_hq9x zc7) zk9 zdd) y238_1 (fun q => by have z9 := (y238_0.2.2.1 q).2; omega) (by omega) | exact mm_I35_op zI1 (by omega) ze9 ⟨by omega, by omega⟩ zs9 ⟨by omega, by omega⟩ (mm_kY_eq (g289c.2 109 (by decide)) (g289c.1 66 71 (by decide))) (fun i r P => mm_st_op (mm_hq9x zc7) zk9 zdd) y294_1 (fun q => by have z9 := (y294_0.2.2.1 q).2; omega) (by omega) | exact mm_I35_close zI1 (by omega) zc41 ze9 ⟨by omega, by omega⟩ z109 (by omega) (by omega) zs9 ⟨by omega, by omega⟩ (mm_kY_eq (g343c.2 109 (by decide)) (g343c.1 66 71 (by decide))) (by omega) (by omega) | exact mm_I35_out zI1 (fun _ => ⟨w349_0, w349_1⟩)) (by first | exact (mm_hq9x yq).elim Or.inl (fun z => Or.inr ⟨zq8.1, by omega⟩) | omega) (by first | exact mm_I35J_op (l := s72_1) zI1 w35_3 (by omega) (mm_opJ9 (s87_1) (by omega)) y72_2 y87_0 y87_1 (show 0 ≤ h72c.1 66 70 ∧ h72c.1 66 70 ≤ 520 from i72c.1 66 70).1 (g87c.1 66 69 (by decide)) (g87c.2 107 (by decide)) (mm_wo_pa eh10 (by decide)) ze9 ⟨by omega, by omega⟩ zs9 ⟨by omega, by omega⟩ (mm_wo_fr g101c (by decide)) (mm_kY_eq (g101c.2 109 (by decide)) (g101c.1 66 71 (by decide))) (fun i r P => mm_st_and zca zu9 (by omega) zdd) (Or.inl ⟨by omega, by omega⟩) y106_3 | exact mm_I35J_op (l := 4) zI1 w35_3 (by omega) w164_0 y144_2 y164_0 y164_1 (show 0 ≤ h144c.1 66 70 ∧ h144c.1 66 70 ≤ 520 from i144c.1 66 70).1 (g164c.1 66 69 (by decide)) (g164c.2 107 (by decide)) (mm_wo_pa eh27 (by decide)) ze9 ⟨by omega, by omega⟩ zs9 ⟨by omega, by omega⟩ (mm_wo_fr g178c (by decide)) (mm_kY_eq (g178c.2 109 (by decide)) (g178c.1 66 71 (by decide))) (fun i r P => mm_st_lt (mm_hq9x zc0) (by omega) zu9 (by omega) zdd) (Or.inr (by omega)) y183_3 | exact mm_I35J_op (l := 5) zI1 w35_3 (by omega) w229_0 y209_2 y229_0 y229_1 (show 0 ≤ h209c.1 66 70 ∧ h209c.1 66 70 ≤ 520 from i209c.1 66 70).1 (g229c.1 66 69 (by decide)) (g229c.2 107 (by decide)) mm_wo_rf ze9 ⟨by omega, by omega⟩ zs9 ⟨by omega, by omega⟩ (mm_wo_fr g233c (by decide)) (mm_kY_eq (g233c.2 109 (by decide)) (g233c.1 66 71 (by decide))) (fun i r P => mm_st_op (mm_hq9x zc7) zk9 zdd) (Or.inl (mm_hcJ (mm_hq9x zc7))) y238_3 | exact mm_I35J_op (l := 6) zI1 w35_3 (by omega) w285_0 y265_2 y285_0 y285_1 (show 0 ≤ h265c.1 66 70 ∧ h265c.1 66 70 ≤ 520 from i265c.1 66 70).1 (g285c.1 66 69 (by decide)) (g285c.2 107 (by decide)) mm_wo_rf ze9 ⟨by omega, by omega⟩ zs9 ⟨by omega, by omega⟩ (mm_wo_fr g289c (by decide)) (mm_kY_eq (g289c.2 109 (by decide)) (g289c.1 66 71 (by decide))) (fun i r P => mm_st_op (mm_hq9x zc7) zk9 zdd) (Or.inl (mm_hcJ (mm_hq9x zc7))) y294_3 | exact mm_I35J_close zI1 w35_3 (by omega) zc41 y319_2 zC (by omega) (fun j => (mm_sm_pf 108 eh23 j).trans (mm_sm_pf 108 eh22 j)) (by omega) (fun j => (mm_sm_pf 107 eh23 j).trans (mm_sm_pf 107 eh22 j)) ze9 z109 (by omega) (by omega) zs9 (mm_wo_fr g343c (by decide)) (mm_kY_eq (g343c.2 109 (by decide)) (g343c.1 66 71 (by decide))) | exact w35_3)
                        · skip
                          exact J262 (by first | exact (mm_hs9_y hs247 c250).1 | exact (mm_hs9_y hs256 c259).1) (by first | exact Or.inl (mm_hs9_y hs247 c250).2 | exact Or.inr (mm_hs9_y hs256 c259).2)
                    · skip
                      exact J207 (by first | exact (mm_hs9_y hs192 c195).1 | exact (mm_hs9_y hs201 c204).1) (by first | exact Or.inl (mm_hs9_y hs192 c195).2 | exact Or.inr (mm_hs9_y hs201 c204).2)
                have J130 : ∀ (w130_0 : h35_.1 66 61 = 3) (w130_1 : (mm_cY h35_ = 160 ∨ mm_cY h35_ = 161)), mm_W x 0 0 130 [mR 66, mI (h.1 66 69), mI x35_2, mU] [] h35_ := by
                  intro w130_0 w130_1
                  have zc0 : mm_hq9 _ := w130_1
                  clear w130_1 c53 c58 y47_0
                  refine mm_aload_n C (mm_dec dk_X12_expression 71 rfl) rfl ?_
                  refine mm_getr (t := 109) C fl_X12_138 (mm_dec dk_X12_expression 72 rfl) rfl rfl (mm_ref i35_ rfl) ?_
                  refine mm_aload_n C (mm_dec dk_X12_expression 73 rfl) rfl ?_
                  refine mm_geti C fl_X12_426 (mm_dec dk_X12_expression 74 rfl) rfl rfl (Or.inl rfl) ?_
                  refine mm_zald C (mm_dec dk_X12_expression 75 rfl) rfl (by omega) (by omega) ?_
                  have g361 : 0 ≤ (h35_.2.1 109 (h35_.1 66 71)) ∧ (h35_.2.1 109 (h35_.1 66 71)) ≤ 1 := i35_.2.1 109 (h35_.1 66 71)
                  refine mm_if_ne (tgt := 189) C (mm_dec dk_X12_expression 76 rfl) (by decide) (fun c139 => ?_) (fun c139 => ?_)
                  · skip
                    exact J189 (by first | exact (show _ ∨ _ from Or.inl c139) | exact (show _ ∨ _ from Or.inr ⟨mm_hs9_n hs115 c118, mm_hs9_n hs124 c127⟩))
                  · skip
                    refine mm_aload_n C (mm_dec dk_X12_expression 77 rfl) rfl ?_
                    refine mm_iconst C (mm_dec dk_X12_expression 78 rfl) ⟨by decide, by decide⟩ ?_
                    refine mm_cVv (rest := []) C1 ev_X12_445 (mm_dec dk_X12_expression 79 rfl) (c_X12_drops_q x.2.1 hl (d - 1) (by omega) h35_ i35_ 4 (by omega) (by omega)) rfl rfl (Nat.le_of_ble_eq_true rfl) ⟨by decide, by decide⟩ rfl (fun h144c hp144 => ?_) (fun _ _ q => q.elim)
                    obtain ⟨i144c, g144c, y144_0, y144_1, y144_2⟩ := hp144
                    have f144c : mm_fr [(66, 57), (66, 58), (66, 60), (66, 61), (66, 62), (66, 63), (66, 64), (66, 65), (66, 66), (66, 69), (66, 70), (66, 71)] [107, 108, 109] h h144c := mm_fr_tr f35_ g144c (by decide +kernel)
                    have q144c_363 : h144c.1 66 57 = h35_.1 66 57 := g144c.1 66 57 (by decide)
                    have q144c_364 : h144c.1 66 58 = h35_.1 66 58 := g144c.1 66 58 (by decide)
                    have q144c_365 : h144c.1 66 60 = h35_.1 66 60 := g144c.1 66 60 (by decide)
                    have q144c_366 : h144c.1 66 61 = h35_.1 66 61 := g144c.1 66 61 (by decide)
                    have q144c_367 : h144c.1 66 62 = h35_.1 66 62 := g144c.1 66 62 (by decide)
                    have q144c_368 : h144c.1 66 65 = h35_.1 66 65 := g144c.1 66 65 (by decide)
                    have q144c_369 : h144c.1 66 71 = h35_.1 66 71 := g144c.1 66 71 (by decide)
                    have g370 : 0 ≤ (h144c.1 66 69) ∧ (h144c.1 66 69) ≤ 2400 := i144c.1 66 69
                    have g371 : 0 ≤ (h144c.1 66 70) ∧ (h144c.1 66 70) ≤ 520 := i144c.1 66 70
                    have zd1 := y144_0.1.2.2.2.2.2
                    have zd2 := y144_0.2.1
                    clear y144_1
                    refine mm_aload_n C (mm_dec dk_X12_expression 80 rfl) rfl ?_
                    refine mm_aload_n C (mm_dec dk_X12_expression 81 rfl) rfl ?_
                    refine mm_bipush C (mm_dec dk_X12_expression 82 rfl) ⟨by decide, by decide⟩ ?_
                    refine mm_cVi (rest := [mR 66]) C1 ev_X12_429 (mm_dec dk_X12_expression 83 rfl) (c_X12_isSign x.2.1 hl (d - 1) (by omega) h144c i144c 60) rfl rfl (Nat.le_of_ble_eq_true rfl) ⟨by decide, by decide⟩ rfl (fun r151 h151c hp151 => ?_) (fun _ _ q => q.elim)
                    obtain ⟨z151, y151⟩ := hp151
                    rw [z151]
                    have J164 : ∀ (s164_1 : Int) (bs164_1 : 7 ≤ s164_1 ∧ s164_1 ≤ 8) (w164_0 : (∃ c, mm_op9 (mm_cY h35_) 4 s164_1 c)) (vs164_1 : (r151 ≠ 0 ∧ s164_1 = 7) ∨ (r151 = 0 ∧ s164_1 = 8)), mm_W x 0 0 164 [mR 66, mI (h.1 66 69), mI x35_2, mU] [mI s164_1, mR 66] h144c := by
                      intro s164_1 bs164_1 w164_0 vs164_1
                      refine mm_cVv (rest := []) C1 ev_X12_432 (mm_dec dk_X12_expression 88 rfl) (c_X12_waitsFor_x x.2.1 hl (d - 1) (by omega) h144c i144c s164_1 (by omega)) rfl rfl (Nat.le_of_ble_eq_true rfl) ⟨by decide, by decide⟩ rfl (fun h164c hp164 => ?_) (fun _ _ q => q.elim)
                      obtain ⟨i164c, g164c, y164_0, y164_1⟩ := hp164
                      have f164c : mm_fr [(66, 57), (66, 58), (66, 60), (66, 61), (66, 62), (66, 63), (66, 64), (66, 65), (66, 66), (66, 69), (66, 70), (66, 71)] [107, 108, 109] h h164c := mm_fr_tr f144c g164c (by decide +kernel)
                      have q164c_374 : h164c.1 66 57 = h144c.1 66 57 := g164c.1 66 57 (by decide)
                      have q164c_375 : h164c.1 66 58 = h144c.1 66 58 := g164c.1 66 58 (by decide)
                      have q164c_376 : h164c.1 66 60 = h144c.1 66 60 := g164c.1 66 60 (by decide)
                      have q164c_377 : h164c.1 66 61 = h144c.1 66 61 := g164c.1 66 61 (by decide)
                      have q164c_378 : h164c.1 66 62 = h144c.1 66 62 := g164c.1 66 62 (by decide)
                      have q164c_379 : h164c.1 66 65 = h144c.1 66 65 := g164c.1 66 65 (by decide)
                      have q164c_380 : h164c.1 66 69 = h144c.1 66 69 := g164c.1 66 69 (by decide)
                      have q164c_381 : h164c.1 66 71 = h144c.1 66 71 := g164c.1 66 71 (by decide)
                      have g382 : 0 ≤ (h164c.1 66 70) ∧ (h164c.1 66 70) ≤ 520 := i164c.1 66 70
                      clear vs164_1
                      refine mm_aload_n C (mm_dec dk_X12_expression 89 rfl) rfl ?_
                      refine mm_getr (t := 109) C fl_X12_138 (mm_dec dk_X12_expression 90 rfl) rfl rfl (mm_ref i164c rfl) ?_
                      refine mm_aload_n C (mm_dec dk_X12_expression 91 rfl) rfl ?_
                      refine mm_geti C fl_X12_426 (mm_dec dk_X12_expression 92 rfl) rfl rfl (Or.inl rfl) ?_
                      refine mm_iconst C (mm_dec dk_X12_expression 93 rfl) ⟨by decide, by decide⟩ ?_
                      refine mm_zast C (mm_dec dk_X12_expression 94 rfl) rfl (by omega) (by omega) (by omega) ?_
                      have i27 : mm_inv (mm_pa h164c 109 (h164c.1 66 71) 1) := mm_inv_pa i164c (show 0 ≤ 1 ∧ 1 ≤ 1 from ⟨by omega, by omega⟩)
                      have f27 : mm_fr [(66, 57), (66, 58), (66, 60), (66, 61), (66, 62), (66, 63), (66, 64), (66, 65), (66, 66), (66, 69), (66, 70), (66, 71)] [107, 108, 109] h (mm_pa h164c 109 (h164c.1 66 71) 1) := mm_fr_pa f164c (by decide)
                      obtain ⟨h27, eh27⟩ : ∃ z, z = mm_pa h164c 109 (h164c.1 66 71) 1 := ⟨_, rfl⟩
                      rw [← eh27] at i27 f27 ⊢
                      have qh27_383 : h27.1 66 57 = h164c.1 66 57 := by rw [eh27]; rfl
                      have qh27_384 : h27.1 66 58 = h164c.1 66 58 := by rw [eh27]; rfl
                      have qh27_385 : h27.1 66 60 = h164c.1 66 60 := by rw [eh27]; rfl
                      have qh27_386 : h27.1 66 61 = h164c.1 66 61 := by rw [eh27]; rfl
                      have qh27_387 : h27.1 66 62 = h164c.1 66 62 := by rw [eh27]; rfl
                      have qh27_388 : h27.1 66 65 = h164c.1 66 65 := by rw [eh27]; rfl
                      have qh27_389 : h27.1 66 69 = h164c.1 66 69 := by rw [eh27]; rfl
                      have qh27_390 : h27.1 66 70 = h164c.1 66 70 := by rw [eh27]; rfl
                      have qh27_391 : h27.1 66 71 = h164c.1 66 71 := by rw [eh27]; rfl
                      refine mm_aload_n C (mm_dec dk_X12_expression 95 rfl) rfl ?_
                      refine mm_cVv (rest := []) C1 ev_X12_423 (mm_dec dk_X12_expression 96 rfl) (c_X12_goes_q x.2.1 hl (d - 1) (by omega) h27 i27 ) rfl rfl (Nat.le_of_ble_eq_true rfl) ⟨by decide, by decide⟩ rfl (fun h178c hp178 => ?_) (fun _ _ q => q.elim)
                      obtain ⟨i178c, g178c, y178_0, y178_1, y178_2, y178_3, y178_4⟩ := hp178
                      have f178c : mm_fr [(66, 57), (66, 58), (66, 60), (66, 61), (66, 62), (66, 63), (66, 64), (66, 65), (66, 66), (66, 69), (66, 70), (66, 71)] [107, 108, 109] h h178c := mm_fr_tr f27 g178c (by decide +kernel)
                      have q178c_393 : h178c.1 66 57 = h27.1 66 57 := g178c.1 66 57 (by decide)
                      have q178c_394 : h178c.1 66 58 = h27.1 66 58 := g178c.1 66 58 (by decide)
                      have q178c_395 : h178c.1 66 69 = h27.1 66 69 := g178c.1 66 69 (by decide)
                      have q178c_396 : h178c.1 66 70 = h27.1 66 70 := g178c.1 66 70 (by decide)
                      have q178c_397 : h178c.1 66 71 = h27.1 66 71 := g178c.1 66 71 (by decide)
                      have g398 : 0 ≤ (h178c.1 66 62) ∧ (h178c.1 66 62) ≤ 500 := i178c.1 66 62
                      have g399 : 0 ≤ (h178c.1 66 60) ∧ (h178c.1 66 60) ≤ 500 := i178c.1 66 60
                      have g400 : -2147483648 ≤ (h178c.1 66 61) ∧ (h178c.1 66 61) ≤ 2147483647 := i178c.1 66 61
                      have g401 : -2147483648 ≤ (h178c.1 66 65) ∧ (h178c.1 66 65) ≤ 2147483647 := i178c.1 66 65
                      have q9 := y178_2
                      clear y178_2
                      have y178_2 : mm_hq9 _ := q9
                      clear q9
                      have zE := mm_e_op w35_0 i144c (by omega) (by omega) y144_0 g144c ⟨by omega, by omega⟩ y164_0 y164_1 g164c ⟨by rw [eh27]; rfl, fun o ho => by rw [eh27]; exact funext fun j => mm_pa_ne _ _ (fun w => ho w.1)⟩ g178c y178_0 y178_1 y178_2
                      have zb := zE.1.2.2.1
                      have zw := zE.1.2.2.2.2.2
                      have zl := zE.2.2.2.2.1
                      have ze9 := mm_eY_tr (mm_eY_tr (mm_eY_fr g144c (by decide)) (mm_eY_fr g164c (by decide))) (mm_eY_pa eh27 (by decide))
                      have zs9 := mm_st9_of (mm_eY_a ze9 w35_1.2.1) y178_3 y178_4 g178c (by decide)
                      have zu9 : mm_up h35_ h27 109 (h35_.1 66 71) 1 1 := mm_up_pav (fun j => (g164c.2 109 (by decide) j).trans (g144c.2 109 (by decide) j)) eh27 (fun _ => rfl) (by omega) rfl rfl
                      clear y178_2
                      have zE9 := zE
                      clear zE
                      have zE : mm_hq9 _ := zE9
                      clear zE9
                      refine mm_aload_n C (mm_dec dk_X12_expression 97 rfl) rfl ?_
                      refine mm_iconst C (mm_dec dk_X12_expression 98 rfl) ⟨by decide, by decide⟩ ?_
                      refine mm_cVv (rest := []) C1 ev_X12_441 (mm_dec dk_X12_expression 99 rfl) (c_X12_operand_q x.2.1 hl (d - 1) (by omega) h178c i178c 0 ⟨by omega, by omega⟩ (by first | exact y178_3 | exact zE.2.1 | exact fun _ => zE.2.2.2.1 | omega) (by first | exact y178_3 | exact zE.2.1 | exact fun _ => zE.2.2.2.1 | omega) (by first | exact y178_3 | exact zE.2.1 | exact fun _ => zE.2.2.2.1 | omega) (by first | exact y178_3 | exact zE.2.1 | exact fun _ => zE.2.2.2.1 | omega) (by first | exact y178_3 | exact zE.2.1 | exact fun _ => zE.2.2.2.1 | omega)) rfl rfl (Nat.le_of_ble_eq_true rfl) ⟨by decide, by decide⟩ rfl (fun h183c hp183 => ?_) (fun _ _ q => q.elim)
                      obtain ⟨i183c, g183c, y183_0, y183_1, y183_2, y183_3⟩ := hp183
                      have f183c : mm_fr [(66, 57), (66, 58), (66, 60), (66, 61), (66, 62), (66, 63), (66, 64), (66, 65), (66, 66), (66, 69), (66, 70), (66, 71)] [107, 108, 109] h h183c := mm_fr_tr f178c g183c (by decide +kernel)
                      have g403 : -2147483648 ≤ (h183c.1 66 57) ∧ (h183c.1 66 57) ≤ 2147483647 := i183c.1 66 57
                      have g404 : 0 ≤ (h183c.1 66 69) ∧ (h183c.1 66 69) ≤ 2400 := i183c.1 66 69
                      have g405 : 0 ≤ (h183c.1 66 70) ∧ (h183c.1 66 70) ≤ 520 := i183c.1 66 70
                      have g406 : 0 ≤ (h183c.1 66 62) ∧ (h183c.1 66 62) ≤ 500 := i183c.1 66 62
                      have g407 : 0 ≤ (h183c.1 66 60) ∧ (h183c.1 66 60) ≤ 500 := i183c.1 66 60
                      have g408 : -2147483648 ≤ (h183c.1 66 61) ∧ (h183c.1 66 61) ≤ 2147483647 := i183c.1 66 61
                      have g409 : 0 ≤ (h183c.1 66 71) ∧ (h183c.1 66 71) ≤ 6 := i183c.1 66 71
                      have g410 : -2147483648 ≤ (h183c.1 66 58) ∧ (h183c.1 66 58) ≤ 2147483647 := i183c.1 66 58
                      have g411 : -2147483648 ≤ (h183c.1 66 65) ∧ (h183c.1 66 65) ≤ 2147483647 := i183c.1 66 65
                      have zF := mm_e_put (p := h.1 66 62) zE y183_0 (by omega)
                      have zG := zF.2
                      have yq : mm_hq9 _ := y183_2
                      clear y183_2
                      refine mm_goto (tgt := 351) C (mm_dec dk_X12_expression 100 rfl) (by decide) ?_
                      exact J351 x35_2 ⟨by omega, by omega⟩ h183c i183c f183c (by first | exact zF.1 | exact w35_0) (by omega) (by omega) (by first | exact mm_I35_op zI1 (by omega) ze9 ⟨by omega, by omega⟩ zs9 ⟨by omega, by omega⟩ (mm_kY_eq (g101c.2 109 (by decide)) (g101c.1 66 71 (by decide))) (fun i r P => mm_st_and zca zu9 (by omega) zdd) y106_1 (fun q => by have z9 := (y106_0.2.2.1 q).2; omega) (by omega) | exact mm_I35_op zI1 (by omega) ze9 ⟨by omega, by omega⟩ zs9 ⟨by omega, by omega⟩ (mm_kY_eq (g178c.2 109 (by decide)) (g178c.1 66 71 (by decide))) (fun i r P => mm_st_lt (mm_hq9x zc0) (by omega) zu9 (by omega) zdd) y183_1 (fun q => by have z9 := (y183_0.2.2.1 q).2; omega) (by omega) | exact mm_I35_op zI1 (by omega) ze9 ⟨by omega, by omega⟩ zs9 ⟨by omega, by omega⟩ (mm_kY_eq (g233c.2 109 (by decide)) (g233c.1 66 71 (by decide))) (fun i r P => mm_st_op (mm_hq9x zc7) zk9 zdd) y238_1 (fun q => by have z9 := (y238_0.2.2.1 q).2; omega) (by omega) | exact mm_I35_op zI1 (by omega) ze9 ⟨by omega, by omega⟩ zs9 ⟨by omega, by omega⟩ (mm_kY_eq (g289c.2 109 (by decide)) (g289c.1 66 71 (by decide))) (fun i r P => mm_st_op (mm_hq9x zc7) zk9 zdd) y294_1 (fun q => by have z9 := (y294_0.2.2.1 q).2; omega) (by omega) | exact mm_I35_close zI1 (by omega) zc41 ze9 ⟨by omega, by omega⟩ z109 (by omega) (by omega) zs9 ⟨by omega, by omega⟩ (mm_kY_eq (g343c.2 109 (by decide)) (g343c.1 66 71 (by decide))) (by omega) (by omega) | exact mm_I35_out zI1 (fun _ => ⟨w349_0, w349_1⟩)) (by first | exact (mm_hq9x yq).elim Or.inl (fun z => Or.inr ⟨zq8.1, by omega⟩) | omega) (by first | exact mm_I35J_op (l := s72_1) zI1 w35_3 (by omega) (mm_opJ9 (s87_1) (by omega)) y72_2 y87_0 y87_1 (show 0 ≤ h72c.1 66 70 ∧ h72c.1 66 70 ≤ 520 from i72c.1 66 70).1 (g87c.1 66 69 (by decide)) (g87c.2 107 (by decide)) (mm_wo_pa eh10 (by decide)) ze9 ⟨by omega, by omega⟩ zs9 ⟨by omega, by omega⟩ (mm_wo_fr g101c (by decide)) (mm_kY_eq (g101c.2 109 (by decide)) (g101c.1 66 71 (by decide))) (fun i r P => mm_st_and zca zu9 (by omega) zdd) (Or.inl ⟨by omega, by omega⟩) y106_3 | exact mm_I35J_op (l := 4) zI1 w35_3 (by omega) w164_0 y144_2 y164_0 y164_1 (show 0 ≤ h144c.1 66 70 ∧ h144c.1 66 70 ≤ 520 from i144c.1 66 70).1 (g164c.1 66 69 (by decide)) (g164c.2 107 (by decide)) (mm_wo_pa eh27 (by decide)) ze9 ⟨by omega, by omega⟩ zs9 ⟨by omega, by omega⟩ (mm_wo_fr g178c (by decide)) (mm_kY_eq (g178c.2 109 (by decide)) (g178c.1 66 71 (by decide))) (fun i r P => mm_st_lt (mm_hq9x zc0) (by omega) zu9 (by omega) zdd) (Or.inr (by omega)) y183_3 | exact mm_I35J_op (l := 5) zI1 w35_3 (by omega) w229_0 y209_2 y229_0 y229_1 (show 0 ≤ h209c.1 66 70 ∧ h209c.1 66 70 ≤ 520 from i209c.1 66 70).1 (g229c.1 66 69 (by decide)) (g229c.2 107 (by decide)) mm_wo_rf ze9 ⟨by omega, by omega⟩ zs9 ⟨by omega, by omega⟩ (mm_wo_fr g233c (by decide)) (mm_kY_eq (g233c.2 109 (by decide)) (g233c.1 66 71 (by decide))) (fun i r P => mm_st_op (mm_hq9x zc7) zk9 zdd) (Or.inl (mm_hcJ (mm_hq9x zc7))) y238_3 | exact mm_I35J_op (l := 6) zI1 w35_3 (by omega) w285_0 y265_2 y285_0 y285_1 (show 0 ≤ h265c.1 66 70 ∧ h265c.1 66 70 ≤ 520 from i265c.1 66 70).1 (g285c.1 66 69 (by decide)) (g285c.2 107 (by decide)) mm_wo_rf ze9 ⟨by omega, by omega⟩ zs9 ⟨by omega, by omega⟩ (mm_wo_fr g289c (by decide)) (mm_kY_eq (g289c.2 109 (by decide)) (g289c.1 66 71 (by decide))) (fun i r P => mm_st_op (mm_hq9x zc7) zk9 zdd) (Or.inl (mm_hcJ (mm_hq9x zc7))) y294_3 | exact mm_I35J_close zI1 w35_3 (by omega) zc41 y319_2 zC (by omega) (fun j => (mm_sm_pf 108 eh23 j).trans (mm_sm_pf 108 eh22 j)) (by omega) (fun j => (mm_sm_pf 107 eh23 j).trans (mm_sm_pf 107 eh22 j)) ze9 z109 (by omega) (by omega) zs9 (mm_wo_fr g343c (by decide)) (mm_kY_eq (g343c.2 109 (by decide)) (g343c.1 66 71 (by decide))) | exact w35_3)
                    have tfJ := mm_cY_h (mm_eY_a (mm_eY_fr g144c (by decide)) w35_1.2.1)
                    have hs151 : mm_hs9 h144c r151 160 := mm_sgn9 tfJ (by decide) (by decide) y151
                    have zcJ151 := (mm_eY_c (mm_eY_fr g144c (by decide))).1
                    clear tfJ
                    clear y151
                    refine mm_if_eq (tgt := 162) C (mm_dec dk_X12_expression 84 rfl) (by decide) (fun c154 => ?_) (fun c154 => ?_)
                    · skip
                      refine mm_bipush C (mm_dec dk_X12_expression 87 rfl) ⟨by decide, by decide⟩ ?_
                      exact J164 8 ⟨by omega, by omega⟩ (by first | exact ⟨100013, Or.inr (Or.inr (Or.inl ⟨zcJ151.symm.trans (mm_hs9_y hs151 c154).2, rfl, rfl, rfl⟩))⟩ | exact ⟨100014, Or.inr (Or.inr (Or.inr (Or.inl ⟨(mm_hq9x zc0).resolve_left (fun z => mm_hs9_n hs151 c154 (zcJ151.trans z)), rfl, rfl, rfl⟩)))⟩) (Or.inr (⟨by omega, rfl⟩))
                    · skip
                      refine mm_bipush C (mm_dec dk_X12_expression 85 rfl) ⟨by decide, by decide⟩ ?_
                      refine mm_goto (tgt := 164) C (mm_dec dk_X12_expression 86 rfl) (by decide) ?_
                      exact J164 7 ⟨by omega, by omega⟩ (by first | exact ⟨100013, Or.inr (Or.inr (Or.inl ⟨zcJ151.symm.trans (mm_hs9_y hs151 c154).2, rfl, rfl, rfl⟩))⟩ | exact ⟨100014, Or.inr (Or.inr (Or.inr (Or.inl ⟨(mm_hq9x zc0).resolve_left (fun z => mm_hs9_n hs151 c154 (zcJ151.trans z)), rfl, rfl, rfl⟩)))⟩) (Or.inl ⟨by omega, rfl⟩)
                have hs115 : mm_hs9 h35_ r115 160 := mm_sgn9 tf35 (by decide) (by decide) y115
                clear y115
                refine mm_if_ne (tgt := 130) C (mm_dec dk_X12_expression 66 rfl) (by decide) (fun c118 => ?_) (fun c118 => ?_)
                · skip
                  refine mm_fgt 3 ?_
                  exact J130 (by first | exact (mm_hs9_y hs115 c118).1 | exact (mm_hs9_y hs124 c127).1) (by first | exact Or.inl (mm_hs9_y hs115 c118).2 | exact Or.inr (mm_hs9_y hs124 c127).2)
                · skip
                  refine mm_aload_n C (mm_dec dk_X12_expression 67 rfl) rfl ?_
                  refine mm_bipush C (mm_dec dk_X12_expression 68 rfl) ⟨by decide, by decide⟩ ?_
                  refine mm_cVi (rest := []) C1 ev_X12_429 (mm_dec dk_X12_expression 69 rfl) (c_X12_isSign x.2.1 hl (d - 1) (by omega) h35_ i35_ 61) rfl rfl (Nat.le_of_ble_eq_true rfl) ⟨by decide, by decide⟩ rfl (fun r124 h124c hp124 => ?_) (fun _ _ q => q.elim)
                  obtain ⟨z124, y124⟩ := hp124
                  rw [z124]
                  have hs124 : mm_hs9 h35_ r124 161 := mm_sgn9 tf35 (by decide) (by decide) y124
                  clear y124
                  refine mm_if_eq (tgt := 189) C (mm_dec dk_X12_expression 70 rfl) (by decide) (fun c127 => ?_) (fun c127 => ?_)
                  · skip
                    refine mm_fgt 3 ?_
                    exact J189 (by first | exact (show _ ∨ _ from Or.inl c139) | exact (show _ ∨ _ from Or.inr ⟨mm_hs9_n hs115 c118, mm_hs9_n hs124 c127⟩))
                  · skip
                    refine mm_fgt 3 ?_
                    exact J130 (by first | exact (mm_hs9_y hs115 c118).1 | exact (mm_hs9_y hs124 c127).1) (by first | exact Or.inl (mm_hs9_y hs115 c118).2 | exact Or.inr (mm_hs9_y hs124 c127).2)
              · skip
                exact J61 (by omega)
    refine mm_istore_nL (ls2 := [mR 66, mI (h.1 66 69), mI 1, mU]) C (mm_dec dk_X12_expression 20 rfl) (by decide) rfl ?_
    exact J35 (((2 * (500 - h30c.1 66 62) + 1) : Int) + 1).toNat 1 ⟨by omega, by omega⟩ h30c i30c f30c (by first | exact w351_0 | exact mm_e_start eh1 eh2 g25c y25_0 t0 y30_0) (by first | exact w351_3 | exact mm_I35_0 (by omega) zE0 ⟨by omega, by omega⟩ (by omega) y25_1 y30_1 (fun q => by have z9 := (y30_0.2.2.1 q).2; omega) rfl) (by first | omega | (have zb := (y25_1).2; rcases zb with ⟨zb1, zb2, zb3, zb4⟩ | ⟨zb1, zb2, zb3⟩; (have zb5 := zb3.1; have zb6 := zb3.2; omega); omega)) (by first | exact w351_5 | exact mm_I35J_0 (by omega) zE0 ⟨by omega, by omega⟩ (by omega) (by omega) (fun j => (mm_sm_pf 107 eh2 j).trans (mm_sm_pf 107 eh1 j)) (by omega) y25_1 (mm_wo_fr g25c (by decide)) y30_3) (by omega)
  · skip
    refine mm_iload_n C (mm_dec dk_X12_expression 6 rfl) rfl ?_
    exact mm_iret C T (mm_dec dk_X12_expression 7 rfl) (by decide : 0 ≤ 0) (by decide : 0 ≤ 0) ⟨_, rfl, ⟨⟨by omega, by omega⟩, i0, f0, by first | exact mm_ex_rf (by omega) t0 | exact mm_ex_of eh1 w35_0 w374_0 w374_1 i376c y376_0 g376c (by omega) (by omega) y381_0 y381_1 g381c, by rfl, by first | exact fun q => absurd q (by omega) | exact fun _ => mm_X9_end w35_1 w354_0 w374_2 w374_3 (mm_eY_tr (mm_eY_fr g376c (by decide)) (mm_eY_fr g381c (by decide))) ⟨by omega, by omega⟩, by omega, by first | exact fun q => absurd q (by omega) | exact fun _ => mm_X9J_end w35_1 w35_3 w354_0 (fun q => ⟨by omega, by omega⟩) ⟨w374_0.1, w374_0.2.1, w374_0.2.2.2.2.2.2.1, w374_0.2.2.2.2.2.2.2⟩ w374_2 y376_2 (fun q => by omega) (fun q => mm_z0J w35_0 (by omega) (by omega) ⟨w374_0.1, w374_0.2.1, w374_0.2.2.2.2.2.2.1, w374_0.2.2.2.2.2.2.2⟩ y376_0 y376_1) y381_0 y381_1 (by omega)⟩⟩
