set_option maxRecDepth 100000 in
set_option maxHeartbeats 4000000 in
theorem c_X12_goes (l : Launch) (hl : l.stackTraces = false) (d : Nat) (hd : 1 ≤ d) (h : mH) (i0 : mm_inv h) : mm_Met l d yX12_goes cX12_goes 2 none [mR 66] h (mm_pv fun h2 => mm_inv h2 ∧ mm_fr [(66, 60), (66, 61), (66, 62), (66, 63), (66, 64), (66, 65), (66, 66)] [] h h2 ∧ h.1 66 60 ≤ h2.1 66 62 ∧ h2.1 66 62 ≤ h2.1 66 60 ∧ (h2.1 66 61 = 0 ∨ h2.1 66 62 < h2.1 66 60)) mm_nx 0 0 := by
  refine mm_ofW (ls := [mR 66, mU]) hl (by decide) rfl (Nat.le_of_ble_eq_true rfl) ?_
  intro x hxl C T hnm htb
  subst hxl
  have C1 := mm_OK_le (d' := d - 1 + 1) (by omega) C
  have f0 : mm_fr [(66, 60), (66, 61), (66, 62), (66, 63), (66, 64), (66, 65), (66, 66)] [] h h := mm_fr_rf
  have g1 : 0 ≤ h.1 66 60 ∧ h.1 66 60 ≤ 500 := i0.1 66 60
  have g2 : 0 ≤ h.1 66 59 ∧ h.1 66 59 ≤ 500 := i0.1 66 59
  have g3 : 0 ≤ h.1 66 62 ∧ h.1 66 62 ≤ 500 := i0.1 66 62
  have g4 : -2147483648 ≤ h.1 66 61 ∧ h.1 66 61 ≤ 2147483647 := i0.1 66 61
  have J0 : ∀ (n : Nat) (h0_ : mH) (i0_ : mm_inv h0_) (f0_ : mm_fr [(66, 60), (66, 61), (66, 62), (66, 63), (66, 64), (66, 65), (66, 66)] [] h h0_) (w0_0 : h.1 66 60 ≤ h0_.1 66 60), (500 - h0_.1 66 60 : Int) < n → mm_W x 0 0 0 [mR 66, mU] [] h0_ := by
    intro n
    induction n with
    | zero =>
      intro h0_ i0_ f0_ w0_0 hm
      have g5 : 0 ≤ h0_.1 66 60 ∧ h0_.1 66 60 ≤ 500 := i0_.1 66 60
      have g6 : 0 ≤ h0_.1 66 59 ∧ h0_.1 66 59 ≤ 500 := i0_.1 66 59
      have g7 : 0 ≤ h0_.1 66 62 ∧ h0_.1 66 62 ≤ 500 := i0_.1 66 62
      have g8 : -2147483648 ≤ h0_.1 66 61 ∧ h0_.1 66 61 ≤ 2147483647 := i0_.1 66 61
      exfalso; omega
    | succ n ih0 =>
      intro h0_ i0_ f0_ w0_0 hm0
      have g9 : 0 ≤ h0_.1 66 60 ∧ h0_.1 66 60 ≤ 500 := i0_.1 66 60
      have g10 : 0 ≤ h0_.1 66 59 ∧ h0_.1 66 59 ≤ 500 := i0_.1 66 59
      have g11 : 0 ≤ h0_.1 66 62 ∧ h0_.1 66 62 ≤ 500 := i0_.1 66 62
      have g12 : -2147483648 ≤ h0_.1 66 61 ∧ h0_.1 66 61 ≤ 2147483647 := i0_.1 66 61
      have g13 : h0_.1 66 59 = h.1 66 59 := f0_.1 66 59 (by decide)
      refine mm_aload_n C (mm_dec dk_X12_goes 0 rfl) rfl ?_
      refine mm_geti C fl_X12_359 (mm_dec dk_X12_goes 1 rfl) rfl rfl (Or.inl rfl) ?_
      refine mm_aload_n C (mm_dec dk_X12_goes 2 rfl) rfl ?_
      refine mm_geti C fl_X12_356 (mm_dec dk_X12_goes 3 rfl) rfl rfl (Or.inl rfl) ?_
      have J50 : mm_W x 0 0 50 [mR 66, mU] [] h0_ := by
        have g14 : 0 ≤ h0_.1 66 60 ∧ h0_.1 66 60 ≤ 500 := i0_.1 66 60
        have g15 : 0 ≤ h0_.1 66 59 ∧ h0_.1 66 59 ≤ 500 := i0_.1 66 59
        have g16 : 0 ≤ h0_.1 66 62 ∧ h0_.1 66 62 ≤ 500 := i0_.1 66 62
        have g17 : -2147483648 ≤ h0_.1 66 61 ∧ h0_.1 66 61 ≤ 2147483647 := i0_.1 66 61
        refine mm_aload_n C (mm_dec dk_X12_goes 24 rfl) rfl ?_
        refine mm_aload_n C (mm_dec dk_X12_goes 25 rfl) rfl ?_
        refine mm_geti C fl_X12_359 (mm_dec dk_X12_goes 26 rfl) rfl rfl (Or.inl rfl) ?_
        refine mm_puti C fl_X12_365 (mm_dec dk_X12_goes 27 rfl) rfl rfl rfl (Or.inl ⟨rfl, rfl⟩) ?_
        have i1 : mm_inv (mm_pf h0_ 66 62 (h0_.1 66 60)) := mm_inv_pf i0_ (show 0 ≤ (h0_.1 66 60) ∧ (h0_.1 66 60) ≤ 500 from ⟨by omega, by omega⟩) (by decide)
        have f1 : mm_fr [(66, 60), (66, 61), (66, 62), (66, 63), (66, 64), (66, 65), (66, 66)] [] h (mm_pf h0_ 66 62 (h0_.1 66 60)) := mm_fr_pf f0_ (by decide)
        obtain ⟨h1, eh1⟩ : ∃ z, z = mm_pf h0_ 66 62 (h0_.1 66 60) := ⟨_, rfl⟩
        rw [← eh1] at i1 f1 ⊢
        have qh1 : h1.1 66 62 = (h0_.1 66 60) := by rw [eh1]; exact mm_pf_same _ _ _ _
        have qh1_18 : h1.1 66 59 = h0_.1 66 59 := by rw [eh1]; exact mm_pf_ne _ _ (by decide)
        have qh1_19 : h1.1 66 60 = h0_.1 66 60 := by rw [eh1]; exact mm_pf_ne _ _ (by decide)
        have qh1_20 : h1.1 66 61 = h0_.1 66 61 := by rw [eh1]; exact mm_pf_ne _ _ (by decide)
        refine mm_aload_n C (mm_dec dk_X12_goes 28 rfl) rfl ?_
        refine mm_lconst (z := 0) C (mm_dec dk_X12_goes 29 rfl) rfl ?_
        refine mm_putl C fl_X12_368 (mm_dec dk_X12_goes 30 rfl) rfl rfl rfl rfl ?_
        have i2 : mm_inv (mm_pf h1 66 66 0) := mm_inv_pf i1 (show -9223372036854775808 ≤ 0 ∧ 0 ≤ 9223372036854775807 from ⟨by omega, by omega⟩) (by decide)
        have f2 : mm_fr [(66, 60), (66, 61), (66, 62), (66, 63), (66, 64), (66, 65), (66, 66)] [] h (mm_pf h1 66 66 0) := mm_fr_pf f1 (by decide)
        obtain ⟨h2, eh2⟩ : ∃ z, z = mm_pf h1 66 66 0 := ⟨_, rfl⟩
        rw [← eh2] at i2 f2 ⊢
        have qh2 : h2.1 66 66 = 0 := by rw [eh2]; exact mm_pf_same _ _ _ _
        have qh2_21 : h2.1 66 59 = h1.1 66 59 := by rw [eh2]; exact mm_pf_ne _ _ (by decide)
        have qh2_22 : h2.1 66 60 = h1.1 66 60 := by rw [eh2]; exact mm_pf_ne _ _ (by decide)
        have qh2_23 : h2.1 66 61 = h1.1 66 61 := by rw [eh2]; exact mm_pf_ne _ _ (by decide)
        have qh2_24 : h2.1 66 62 = h1.1 66 62 := by rw [eh2]; exact mm_pf_ne _ _ (by decide)
        refine mm_aload_n C (mm_dec dk_X12_goes 31 rfl) rfl ?_
        refine mm_iconst C (mm_dec dk_X12_goes 32 rfl) ⟨by decide, by decide⟩ ?_
        refine mm_puti C fl_X12_372 (mm_dec dk_X12_goes 33 rfl) rfl rfl rfl (Or.inl ⟨rfl, rfl⟩) ?_
        have i3 : mm_inv (mm_pf h2 66 64 0) := mm_inv_pf i2 (show -2147483648 ≤ 0 ∧ 0 ≤ 2147483647 from ⟨by omega, by omega⟩) (by decide)
        have f3 : mm_fr [(66, 60), (66, 61), (66, 62), (66, 63), (66, 64), (66, 65), (66, 66)] [] h (mm_pf h2 66 64 0) := mm_fr_pf f2 (by decide)
        obtain ⟨h3, eh3⟩ : ∃ z, z = mm_pf h2 66 64 0 := ⟨_, rfl⟩
        rw [← eh3] at i3 f3 ⊢
        have qh3 : h3.1 66 64 = 0 := by rw [eh3]; exact mm_pf_same _ _ _ _
        have qh3_25 : h3.1 66 59 = h2.1 66 59 := by rw [eh3]; exact mm_pf_ne _ _ (by decide)
        have qh3_26 : h3.1 66 60 = h2.1 66 60 := by rw [eh3]; exact mm_pf_ne _ _ (by decide)
        have qh3_27 : h3.1 66 61 = h2.1 66 61 := by rw [eh3]; exact mm_pf_ne _ _ (by decide)
        have qh3_28 : h3.1 66 62 = h2.1 66 62 := by rw [eh3]; exact mm_pf_ne _ _ (by decide)
        have qh3_29 : h3.1 66 66 = h2.1 66 66 := by rw [eh3]; exact mm_pf_ne _ _ (by decide)
        refine mm_aload_n C (mm_dec dk_X12_goes 34 rfl) rfl ?_
        refine mm_aload_n C (mm_dec dk_X12_goes 35 rfl) rfl ?_
        refine mm_geti C fl_X12_359 (mm_dec dk_X12_goes 36 rfl) rfl rfl (Or.inl rfl) ?_
        refine mm_cVi (rest := []) C1 ev_X12_362 (mm_dec dk_X12_goes 37 rfl) (c_X12_byteAt x.2.1 hl (d - 1) (by omega) h3 i3 (h3.1 66 60) ⟨by omega, by omega⟩) rfl rfl (Nat.le_of_ble_eq_true rfl) ⟨by decide, by decide⟩ rfl (fun r73 h73c hp73 => ?_) (fun _ _ q => q.elim)
        obtain ⟨z73, y73⟩ := hp73
        rw [z73]
        have g31 : -2147483648 ≤ (h3.2.1 101 (h3.1 66 60)) ∧ (h3.2.1 101 (h3.1 66 60)) ≤ 2147483647 := i3.2.1 101 (h3.1 66 60)
        refine mm_istore_nL (ls2 := [mR 66, mI r73]) C (mm_dec dk_X12_goes 38 rfl) (by decide) rfl ?_
        refine mm_aload_n C (mm_dec dk_X12_goes 39 rfl) rfl ?_
        refine mm_iload_n C (mm_dec dk_X12_goes 40 rfl) rfl ?_
        refine mm_puti C fl_X12_375 (mm_dec dk_X12_goes 41 rfl) rfl rfl rfl (Or.inl ⟨rfl, rfl⟩) ?_
        have i4 : mm_inv (mm_pf h3 66 65 r73) := mm_inv_pf i3 (show -2147483648 ≤ r73 ∧ r73 ≤ 2147483647 from ⟨by omega, by omega⟩) (by decide)
        have f4 : mm_fr [(66, 60), (66, 61), (66, 62), (66, 63), (66, 64), (66, 65), (66, 66)] [] h (mm_pf h3 66 65 r73) := mm_fr_pf f3 (by decide)
        obtain ⟨h4, eh4⟩ : ∃ z, z = mm_pf h3 66 65 r73 := ⟨_, rfl⟩
        rw [← eh4] at i4 f4 ⊢
        have qh4 : h4.1 66 65 = r73 := by rw [eh4]; exact mm_pf_same _ _ _ _
        have qh4_32 : h4.1 66 59 = h3.1 66 59 := by rw [eh4]; exact mm_pf_ne _ _ (by decide)
        have qh4_33 : h4.1 66 60 = h3.1 66 60 := by rw [eh4]; exact mm_pf_ne _ _ (by decide)
        have qh4_34 : h4.1 66 61 = h3.1 66 61 := by rw [eh4]; exact mm_pf_ne _ _ (by decide)
        have qh4_35 : h4.1 66 62 = h3.1 66 62 := by rw [eh4]; exact mm_pf_ne _ _ (by decide)
        have qh4_36 : h4.1 66 64 = h3.1 66 64 := by rw [eh4]; exact mm_pf_ne _ _ (by decide)
        have qh4_37 : h4.1 66 66 = h3.1 66 66 := by rw [eh4]; exact mm_pf_ne _ _ (by decide)
        have zz : h4.2.1 101 (h4.1 66 60) = h3.2.1 101 (h3.1 66 60) := by rw [eh4]; rfl
        refine mm_aload_n C (mm_dec dk_X12_goes 42 rfl) rfl ?_
        refine mm_geti C fl_X12_359 (mm_dec dk_X12_goes 43 rfl) rfl rfl (Or.inl rfl) ?_
        refine mm_aload_n C (mm_dec dk_X12_goes 44 rfl) rfl ?_
        refine mm_geti C fl_X12_356 (mm_dec dk_X12_goes 45 rfl) rfl rfl (Or.inl rfl) ?_
        have J331 : ∀ (h331_ : mH) (i331_ : mm_inv h331_) (f331_ : mm_fr [(66, 60), (66, 61), (66, 62), (66, 63), (66, 64), (66, 65), (66, 66)] [] h h331_) (w331_0 : h.1 66 60 ≤ h331_.1 66 62) (w331_1 : h331_.1 66 62 ≤ h331_.1 66 60) (w331_2 : (h331_.1 66 61 = 0 ∨ h331_.1 66 62 < h331_.1 66 60)), mm_W x 0 0 331 [mR 66, mU] [] h331_ := by
          intro h331_ i331_ f331_ w331_0 w331_1 w331_2
          have g38 : 0 ≤ h331_.1 66 60 ∧ h331_.1 66 60 ≤ 500 := i331_.1 66 60
          have g39 : 0 ≤ h331_.1 66 59 ∧ h331_.1 66 59 ≤ 500 := i331_.1 66 59
          have g40 : 0 ≤ h331_.1 66 62 ∧ h331_.1 66 62 ≤ 500 := i331_.1 66 62
          have g41 : -2147483648 ≤ h331_.1 66 61 ∧ h331_.1 66 61 ≤ 2147483647 := i331_.1 66 61
          have g42 : h331_.1 66 59 = h.1 66 59 := f331_.1 66 59 (by decide)
          refine mm_aload_n C (mm_dec dk_X12_goes 170 rfl) rfl ?_
          refine mm_aload_n C (mm_dec dk_X12_goes 171 rfl) rfl ?_
          refine mm_geti C fl_X12_359 (mm_dec dk_X12_goes 172 rfl) rfl rfl (Or.inl rfl) ?_
          refine mm_aload_n C (mm_dec dk_X12_goes 173 rfl) rfl ?_
          refine mm_geti C fl_X12_365 (mm_dec dk_X12_goes 174 rfl) rfl rfl (Or.inl rfl) ?_
          refine mm_isub C (mm_dec dk_X12_goes 175 rfl) ⟨by omega, by omega⟩ ?_
          refine mm_puti C fl_X12_387 (mm_dec dk_X12_goes 176 rfl) rfl rfl rfl (Or.inl ⟨rfl, rfl⟩) ?_
          have i5 : mm_inv (mm_pf h331_ 66 63 ((h331_.1 66 60) - (h331_.1 66 62))) := mm_inv_pf i331_ (show -2147483648 ≤ ((h331_.1 66 60) - (h331_.1 66 62)) ∧ ((h331_.1 66 60) - (h331_.1 66 62)) ≤ 2147483647 from ⟨by omega, by omega⟩) (by decide)
          have f5 : mm_fr [(66, 60), (66, 61), (66, 62), (66, 63), (66, 64), (66, 65), (66, 66)] [] h (mm_pf h331_ 66 63 ((h331_.1 66 60) - (h331_.1 66 62))) := mm_fr_pf f331_ (by decide)
          obtain ⟨h5, eh5⟩ : ∃ z, z = mm_pf h331_ 66 63 ((h331_.1 66 60) - (h331_.1 66 62)) := ⟨_, rfl⟩
          rw [← eh5] at i5 f5 ⊢
          have qh5 : h5.1 66 63 = ((h331_.1 66 60) - (h331_.1 66 62)) := by rw [eh5]; exact mm_pf_same _ _ _ _
          have qh5_43 : h5.1 66 59 = h331_.1 66 59 := by rw [eh5]; exact mm_pf_ne _ _ (by decide)
          have qh5_44 : h5.1 66 60 = h331_.1 66 60 := by rw [eh5]; exact mm_pf_ne _ _ (by decide)
          have qh5_45 : h5.1 66 61 = h331_.1 66 61 := by rw [eh5]; exact mm_pf_ne _ _ (by decide)
          have qh5_46 : h5.1 66 62 = h331_.1 66 62 := by rw [eh5]; exact mm_pf_ne _ _ (by decide)
          exact mm_vret C T (mm_dec dk_X12_goes 177 rfl) (by decide : 0 ≤ 0) (by decide : 0 ≤ 0) ⟨rfl, ⟨i5, f5, by omega, by omega, by omega⟩⟩
        refine mm_icmp_lt (tgt := 101) C (mm_dec dk_X12_goes 46 rfl) (by decide) (fun c90 => ?_) (fun c90 => ?_)
        · skip
          refine mm_iload_n C (mm_dec dk_X12_goes 51 rfl) rfl ?_
          refine mm_cSi (rest := []) C1 es_X12_381 (mm_dec dk_X12_goes 52 rfl) (c_X12_isLetter x.2.1 hl (d - 1) (by omega) h4 i4 r73) rfl (Nat.le_of_ble_eq_true rfl) ⟨by decide, by decide⟩ rfl (fun r102 h102c hp102 => ?_) (fun _ _ q => q.elim)
          obtain ⟨z102, y102⟩ := hp102
          rw [z102]
          have J108 : ∀ (n : Nat) (h108_ : mH) (i108_ : mm_inv h108_) (f108_ : mm_fr [(66, 60), (66, 61), (66, 62), (66, 63), (66, 64), (66, 65), (66, 66)] [] h h108_) (w108_0 : h.1 66 60 ≤ h108_.1 66 62) (w108_1 : h108_.1 66 62 ≤ h108_.1 66 60) (w108_2 : (h108_.1 66 62 < h108_.1 66 60 ∨ (97 ≤ h108_.2.1 101 (h108_.1 66 60) ∧ h108_.2.1 101 (h108_.1 66 60) ≤ 122 ∧ h108_.1 66 60 < h108_.1 66 59))), (500 - h108_.1 66 60 : Int) < n → mm_W x 0 0 108 [mR 66, mU] [] h108_ := by
            intro n
            induction n with
            | zero =>
              intro h108_ i108_ f108_ w108_0 w108_1 w108_2 hm
              have g48 : 0 ≤ h108_.1 66 60 ∧ h108_.1 66 60 ≤ 500 := i108_.1 66 60
              have g49 : 0 ≤ h108_.1 66 59 ∧ h108_.1 66 59 ≤ 500 := i108_.1 66 59
              have g50 : 0 ≤ h108_.1 66 62 ∧ h108_.1 66 62 ≤ 500 := i108_.1 66 62
              have g51 : -2147483648 ≤ h108_.1 66 61 ∧ h108_.1 66 61 ≤ 2147483647 := i108_.1 66 61
              exfalso; omega
            | succ n ih108 =>
              intro h108_ i108_ f108_ w108_0 w108_1 w108_2 hm108
              have g52 : 0 ≤ h108_.1 66 60 ∧ h108_.1 66 60 ≤ 500 := i108_.1 66 60
              have g53 : 0 ≤ h108_.1 66 59 ∧ h108_.1 66 59 ≤ 500 := i108_.1 66 59
              have g54 : 0 ≤ h108_.1 66 62 ∧ h108_.1 66 62 ≤ 500 := i108_.1 66 62
              have g55 : -2147483648 ≤ h108_.1 66 61 ∧ h108_.1 66 61 ≤ 2147483647 := i108_.1 66 61
              have g56 : h108_.1 66 59 = h.1 66 59 := f108_.1 66 59 (by decide)
              refine mm_aload_n C (mm_dec dk_X12_goes 54 rfl) rfl ?_
              refine mm_aload_n C (mm_dec dk_X12_goes 55 rfl) rfl ?_
              refine mm_geti C fl_X12_359 (mm_dec dk_X12_goes 56 rfl) rfl rfl (Or.inl rfl) ?_
              refine mm_cVi (rest := []) C1 ev_X12_362 (mm_dec dk_X12_goes 57 rfl) (c_X12_byteAt x.2.1 hl (d - 1) (by omega) h108_ i108_ (h108_.1 66 60) ⟨by omega, by omega⟩) rfl rfl (Nat.le_of_ble_eq_true rfl) ⟨by decide, by decide⟩ rfl (fun r113 h113c hp113 => ?_) (fun _ _ q => q.elim)
              obtain ⟨z113, y113⟩ := hp113
              rw [z113]
              have g58 : -2147483648 ≤ (h108_.2.1 101 (h108_.1 66 60)) ∧ (h108_.2.1 101 (h108_.1 66 60)) ≤ 2147483647 := i108_.2.1 101 (h108_.1 66 60)
              refine mm_cSi (rest := []) C1 es_X12_381 (mm_dec dk_X12_goes 58 rfl) (c_X12_isLetter x.2.1 hl (d - 1) (by omega) h108_ i108_ r113) rfl (Nat.le_of_ble_eq_true rfl) ⟨by decide, by decide⟩ rfl (fun r116 h116c hp116 => ?_) (fun _ _ q => q.elim)
              obtain ⟨z116, y116⟩ := hp116
              rw [z116]
              refine mm_if_eq (tgt := 172) C (mm_dec dk_X12_goes 59 rfl) (by decide) (fun c119 => ?_) (fun c119 => ?_)
              · skip
                refine mm_aload_n C (mm_dec dk_X12_goes 88 rfl) rfl ?_
                refine mm_iconst C (mm_dec dk_X12_goes 89 rfl) ⟨by decide, by decide⟩ ?_
                refine mm_puti C fl_X12_378 (mm_dec dk_X12_goes 90 rfl) rfl rfl rfl (Or.inl ⟨rfl, rfl⟩) ?_
                have i6 : mm_inv (mm_pf h108_ 66 61 1) := mm_inv_pf i108_ (show -2147483648 ≤ 1 ∧ 1 ≤ 2147483647 from ⟨by omega, by omega⟩) (by decide)
                have f6 : mm_fr [(66, 60), (66, 61), (66, 62), (66, 63), (66, 64), (66, 65), (66, 66)] [] h (mm_pf h108_ 66 61 1) := mm_fr_pf f108_ (by decide)
                obtain ⟨h6, eh6⟩ : ∃ z, z = mm_pf h108_ 66 61 1 := ⟨_, rfl⟩
                rw [← eh6] at i6 f6 ⊢
                have qh6 : h6.1 66 61 = 1 := by rw [eh6]; exact mm_pf_same _ _ _ _
                have qh6_60 : h6.1 66 59 = h108_.1 66 59 := by rw [eh6]; exact mm_pf_ne _ _ (by decide)
                have qh6_61 : h6.1 66 60 = h108_.1 66 60 := by rw [eh6]; exact mm_pf_ne _ _ (by decide)
                have qh6_62 : h6.1 66 62 = h108_.1 66 62 := by rw [eh6]; exact mm_pf_ne _ _ (by decide)
                refine mm_goto (tgt := 331) C (mm_dec dk_X12_goes 91 rfl) (by decide) ?_
                exact J331 h6 i6 f6 (by omega) (by omega) (by omega)
              · skip
                refine mm_aload_n C (mm_dec dk_X12_goes 60 rfl) rfl ?_
                refine mm_geti C fl_X12_359 (mm_dec dk_X12_goes 61 rfl) rfl rfl (Or.inl rfl) ?_
                refine mm_aload_n C (mm_dec dk_X12_goes 62 rfl) rfl ?_
                refine mm_geti C fl_X12_365 (mm_dec dk_X12_goes 63 rfl) rfl rfl (Or.inl rfl) ?_
                refine mm_isub C (mm_dec dk_X12_goes 64 rfl) ⟨by omega, by omega⟩ ?_
                refine mm_bipush C (mm_dec dk_X12_goes 65 rfl) ⟨by decide, by decide⟩ ?_
                have J159 : ∀ (h159_ : mH) (i159_ : mm_inv h159_) (f159_ : mm_fr [(66, 60), (66, 61), (66, 62), (66, 63), (66, 64), (66, 65), (66, 66)] [] h h159_) (w159_0 : h159_.1 66 60 = h108_.1 66 60) (w159_1 : h.1 66 60 ≤ h159_.1 66 62) (w159_2 : h159_.1 66 62 ≤ h159_.1 66 60) (w159_3 : h159_.1 66 60 < h159_.1 66 59), mm_W x 0 0 159 [mR 66, mU] [] h159_ := by
                  intro h159_ i159_ f159_ w159_0 w159_1 w159_2 w159_3
                  have g63 : 0 ≤ h159_.1 66 60 ∧ h159_.1 66 60 ≤ 500 := i159_.1 66 60
                  have g64 : 0 ≤ h159_.1 66 59 ∧ h159_.1 66 59 ≤ 500 := i159_.1 66 59
                  have g65 : 0 ≤ h159_.1 66 62 ∧ h159_.1 66 62 ≤ 500 := i159_.1 66 62
                  have g66 : -2147483648 ≤ h159_.1 66 61 ∧ h159_.1 66 61 ≤ 2147483647 := i159_.1 66 61
                  have g67 : h159_.1 66 59 = h.1 66 59 := f159_.1 66 59 (by decide)
                  refine mm_aload_n C (mm_dec dk_X12_goes 81 rfl) rfl ?_
                  refine mm_dup C (mm_dec dk_X12_goes 82 rfl) (show (2 : Nat) ≠ 1 by decide) ?_
                  refine mm_geti C fl_X12_359 (mm_dec dk_X12_goes 83 rfl) rfl rfl (Or.inl rfl) ?_
                  refine mm_iconst C (mm_dec dk_X12_goes 84 rfl) ⟨by decide, by decide⟩ ?_
                  refine mm_iadd C (mm_dec dk_X12_goes 85 rfl) ⟨by omega, by omega⟩ ?_
                  refine mm_puti C fl_X12_359 (mm_dec dk_X12_goes 86 rfl) rfl rfl rfl (Or.inl ⟨rfl, rfl⟩) ?_
                  have i7 : mm_inv (mm_pf h159_ 66 60 ((h159_.1 66 60) + 1)) := mm_inv_pf i159_ (show 0 ≤ ((h159_.1 66 60) + 1) ∧ ((h159_.1 66 60) + 1) ≤ 500 from ⟨by omega, by omega⟩) (by decide)
                  have f7 : mm_fr [(66, 60), (66, 61), (66, 62), (66, 63), (66, 64), (66, 65), (66, 66)] [] h (mm_pf h159_ 66 60 ((h159_.1 66 60) + 1)) := mm_fr_pf f159_ (by decide)
                  obtain ⟨h7, eh7⟩ : ∃ z, z = mm_pf h159_ 66 60 ((h159_.1 66 60) + 1) := ⟨_, rfl⟩
                  rw [← eh7] at i7 f7 ⊢
                  have qh7 : h7.1 66 60 = ((h159_.1 66 60) + 1) := by rw [eh7]; exact mm_pf_same _ _ _ _
                  have qh7_68 : h7.1 66 59 = h159_.1 66 59 := by rw [eh7]; exact mm_pf_ne _ _ (by decide)
                  have qh7_69 : h7.1 66 61 = h159_.1 66 61 := by rw [eh7]; exact mm_pf_ne _ _ (by decide)
                  have qh7_70 : h7.1 66 62 = h159_.1 66 62 := by rw [eh7]; exact mm_pf_ne _ _ (by decide)
                  refine mm_goto (tgt := 108) C (mm_dec dk_X12_goes 87 rfl) (by decide) ?_
                  exact ih108 h7 i7 f7 (by omega) (by omega) (by omega) (by omega)
                refine mm_icmp_ge (tgt := 159) C (mm_dec dk_X12_goes 66 rfl) (by decide) (fun c133 => ?_) (fun c133 => ?_)
                · skip
                  exact J159 h108_ i108_ f108_ (by omega) (by omega) (by omega) (by omega)
                · skip
                  refine mm_aload_n C (mm_dec dk_X12_goes 67 rfl) rfl ?_
                  refine mm_aload_n C (mm_dec dk_X12_goes 68 rfl) rfl ?_
                  refine mm_getl C fl_X12_368 (mm_dec dk_X12_goes 69 rfl) rfl rfl ?_
                  refine mm_iconst C (mm_dec dk_X12_goes 70 rfl) ⟨by decide, by decide⟩ ?_
                  refine mm_lshl C (mm_dec dk_X12_goes 71 rfl) ?_
                  have g71 : -9223372036854775808 ≤ (mm_vlshl (h108_.1 66 66) 5) ∧ (mm_vlshl (h108_.1 66 66) 5) < 9223372036854775808 := mm_rng64 _
                  obtain ⟨y71, ey71⟩ : ∃ z, z = (mm_vlshl (h108_.1 66 66) 5) := ⟨_, rfl⟩
                  rw [← ey71] at g71 ⊢
                  clear ey71
                  refine mm_aload_n C (mm_dec dk_X12_goes 72 rfl) rfl ?_
                  refine mm_aload_n C (mm_dec dk_X12_goes 73 rfl) rfl ?_
                  refine mm_geti C fl_X12_359 (mm_dec dk_X12_goes 74 rfl) rfl rfl (Or.inl rfl) ?_
                  refine mm_cVi (rest := [mL y71, mR 66]) C1 ev_X12_362 (mm_dec dk_X12_goes 75 rfl) (c_X12_byteAt x.2.1 hl (d - 1) (by omega) h108_ i108_ (h108_.1 66 60) ⟨by omega, by omega⟩) rfl rfl (Nat.le_of_ble_eq_true rfl) ⟨by decide, by decide⟩ rfl (fun r148 h148c hp148 => ?_) (fun _ _ q => q.elim)
                  obtain ⟨z148, y148⟩ := hp148
                  rw [z148]
                  refine mm_bipush C (mm_dec dk_X12_goes 76 rfl) ⟨by decide, by decide⟩ ?_
                  refine mm_isubw C (mm_dec dk_X12_goes 77 rfl) ?_
                  have g73 : -2147483648 ≤ (mm_w (r148 - 96)) ∧ (mm_w (r148 - 96)) < 2147483648 := mm_w_rg _
                  refine mm_i2l C (mm_dec dk_X12_goes 78 rfl) ?_
                  refine mm_lor C (mm_dec dk_X12_goes 79 rfl) ?_
                  have g74 : -9223372036854775808 ≤ (mm_vlor y71 (mm_w (r148 - 96))) ∧ (mm_vlor y71 (mm_w (r148 - 96))) < 9223372036854775808 := mm_rng64 _
                  obtain ⟨y74, ey74⟩ : ∃ z, z = (mm_vlor y71 (mm_w (r148 - 96))) := ⟨_, rfl⟩
                  rw [← ey74] at g74 ⊢
                  clear ey74
                  refine mm_putl C fl_X12_368 (mm_dec dk_X12_goes 80 rfl) rfl rfl rfl rfl ?_
                  have i8 : mm_inv (mm_pf h108_ 66 66 y74) := mm_inv_pf i108_ (show -9223372036854775808 ≤ y74 ∧ y74 ≤ 9223372036854775807 from ⟨by omega, by omega⟩) (by decide)
                  have f8 : mm_fr [(66, 60), (66, 61), (66, 62), (66, 63), (66, 64), (66, 65), (66, 66)] [] h (mm_pf h108_ 66 66 y74) := mm_fr_pf f108_ (by decide)
                  obtain ⟨h8, eh8⟩ : ∃ z, z = mm_pf h108_ 66 66 y74 := ⟨_, rfl⟩
                  rw [← eh8] at i8 f8 ⊢
                  have qh8 : h8.1 66 66 = y74 := by rw [eh8]; exact mm_pf_same _ _ _ _
                  have qh8_75 : h8.1 66 59 = h108_.1 66 59 := by rw [eh8]; exact mm_pf_ne _ _ (by decide)
                  have qh8_76 : h8.1 66 60 = h108_.1 66 60 := by rw [eh8]; exact mm_pf_ne _ _ (by decide)
                  have qh8_77 : h8.1 66 61 = h108_.1 66 61 := by rw [eh8]; exact mm_pf_ne _ _ (by decide)
                  have qh8_78 : h8.1 66 62 = h108_.1 66 62 := by rw [eh8]; exact mm_pf_ne _ _ (by decide)
                  exact J159 h8 i8 f8 (by omega) (by omega) (by omega) (by omega)
          refine mm_if_eq (tgt := 180) C (mm_dec dk_X12_goes 53 rfl) (by decide) (fun c105 => ?_) (fun c105 => ?_)
          · skip
            refine mm_iload_n C (mm_dec dk_X12_goes 92 rfl) rfl ?_
            refine mm_cSi (rest := []) C1 es_X12_384 (mm_dec dk_X12_goes 93 rfl) (c_X12_isDigit x.2.1 hl (d - 1) (by omega) h4 i4 r73) rfl (Nat.le_of_ble_eq_true rfl) ⟨by decide, by decide⟩ rfl (fun r181 h181c hp181 => ?_) (fun _ _ q => q.elim)
            obtain ⟨z181, y181⟩ := hp181
            rw [z181]
            have J187 : ∀ (n : Nat) (h187_ : mH) (i187_ : mm_inv h187_) (f187_ : mm_fr [(66, 60), (66, 61), (66, 62), (66, 63), (66, 64), (66, 65), (66, 66)] [] h h187_) (w187_0 : h.1 66 60 ≤ h187_.1 66 62) (w187_1 : h187_.1 66 62 ≤ h187_.1 66 60) (w187_2 : (h187_.1 66 62 < h187_.1 66 60 ∨ (48 ≤ h187_.2.1 101 (h187_.1 66 60) ∧ h187_.2.1 101 (h187_.1 66 60) ≤ 57 ∧ h187_.1 66 60 < h187_.1 66 59))), (500 - h187_.1 66 60 : Int) < n → mm_W x 0 0 187 [mR 66, mU] [] h187_ := by
              intro n
              induction n with
              | zero =>
                intro h187_ i187_ f187_ w187_0 w187_1 w187_2 hm
                have g80 : 0 ≤ h187_.1 66 60 ∧ h187_.1 66 60 ≤ 500 := i187_.1 66 60
                have g81 : 0 ≤ h187_.1 66 59 ∧ h187_.1 66 59 ≤ 500 := i187_.1 66 59
                have g82 : 0 ≤ h187_.1 66 62 ∧ h187_.1 66 62 ≤ 500 := i187_.1 66 62
                have g83 : -2147483648 ≤ h187_.1 66 61 ∧ h187_.1 66 61 ≤ 2147483647 := i187_.1 66 61
                exfalso; omega
              | succ n ih187 =>
                intro h187_ i187_ f187_ w187_0 w187_1 w187_2 hm187
                have g84 : 0 ≤ h187_.1 66 60 ∧ h187_.1 66 60 ≤ 500 := i187_.1 66 60
                have g85 : 0 ≤ h187_.1 66 59 ∧ h187_.1 66 59 ≤ 500 := i187_.1 66 59
                have g86 : 0 ≤ h187_.1 66 62 ∧ h187_.1 66 62 ≤ 500 := i187_.1 66 62
                have g87 : -2147483648 ≤ h187_.1 66 61 ∧ h187_.1 66 61 ≤ 2147483647 := i187_.1 66 61
                have g88 : h187_.1 66 59 = h.1 66 59 := f187_.1 66 59 (by decide)
                refine mm_aload_n C (mm_dec dk_X12_goes 95 rfl) rfl ?_
                refine mm_aload_n C (mm_dec dk_X12_goes 96 rfl) rfl ?_
                refine mm_geti C fl_X12_359 (mm_dec dk_X12_goes 97 rfl) rfl rfl (Or.inl rfl) ?_
                refine mm_cVi (rest := []) C1 ev_X12_362 (mm_dec dk_X12_goes 98 rfl) (c_X12_byteAt x.2.1 hl (d - 1) (by omega) h187_ i187_ (h187_.1 66 60) ⟨by omega, by omega⟩) rfl rfl (Nat.le_of_ble_eq_true rfl) ⟨by decide, by decide⟩ rfl (fun r192 h192c hp192 => ?_) (fun _ _ q => q.elim)
                obtain ⟨z192, y192⟩ := hp192
                rw [z192]
                have g90 : -2147483648 ≤ (h187_.2.1 101 (h187_.1 66 60)) ∧ (h187_.2.1 101 (h187_.1 66 60)) ≤ 2147483647 := i187_.2.1 101 (h187_.1 66 60)
                refine mm_cSi (rest := []) C1 es_X12_384 (mm_dec dk_X12_goes 99 rfl) (c_X12_isDigit x.2.1 hl (d - 1) (by omega) h187_ i187_ r192) rfl (Nat.le_of_ble_eq_true rfl) ⟨by decide, by decide⟩ rfl (fun r195 h195c hp195 => ?_) (fun _ _ q => q.elim)
                obtain ⟨z195, y195⟩ := hp195
                rw [z195]
                refine mm_if_eq (tgt := 250) C (mm_dec dk_X12_goes 100 rfl) (by decide) (fun c198 => ?_) (fun c198 => ?_)
                · skip
                  refine mm_aload_n C (mm_dec dk_X12_goes 128 rfl) rfl ?_
                  refine mm_iconst C (mm_dec dk_X12_goes 129 rfl) ⟨by decide, by decide⟩ ?_
                  refine mm_puti C fl_X12_378 (mm_dec dk_X12_goes 130 rfl) rfl rfl rfl (Or.inl ⟨rfl, rfl⟩) ?_
                  have i9 : mm_inv (mm_pf h187_ 66 61 2) := mm_inv_pf i187_ (show -2147483648 ≤ 2 ∧ 2 ≤ 2147483647 from ⟨by omega, by omega⟩) (by decide)
                  have f9 : mm_fr [(66, 60), (66, 61), (66, 62), (66, 63), (66, 64), (66, 65), (66, 66)] [] h (mm_pf h187_ 66 61 2) := mm_fr_pf f187_ (by decide)
                  obtain ⟨h9, eh9⟩ : ∃ z, z = mm_pf h187_ 66 61 2 := ⟨_, rfl⟩
                  rw [← eh9] at i9 f9 ⊢
                  have qh9 : h9.1 66 61 = 2 := by rw [eh9]; exact mm_pf_same _ _ _ _
                  have qh9_92 : h9.1 66 59 = h187_.1 66 59 := by rw [eh9]; exact mm_pf_ne _ _ (by decide)
                  have qh9_93 : h9.1 66 60 = h187_.1 66 60 := by rw [eh9]; exact mm_pf_ne _ _ (by decide)
                  have qh9_94 : h9.1 66 62 = h187_.1 66 62 := by rw [eh9]; exact mm_pf_ne _ _ (by decide)
                  refine mm_goto (tgt := 331) C (mm_dec dk_X12_goes 131 rfl) (by decide) ?_
                  exact J331 h9 i9 f9 (by omega) (by omega) (by omega)
                · skip
                  refine mm_aload_n C (mm_dec dk_X12_goes 101 rfl) rfl ?_
                  refine mm_geti C fl_X12_359 (mm_dec dk_X12_goes 102 rfl) rfl rfl (Or.inl rfl) ?_
                  refine mm_aload_n C (mm_dec dk_X12_goes 103 rfl) rfl ?_
                  refine mm_geti C fl_X12_365 (mm_dec dk_X12_goes 104 rfl) rfl rfl (Or.inl rfl) ?_
                  refine mm_isub C (mm_dec dk_X12_goes 105 rfl) ⟨by omega, by omega⟩ ?_
                  refine mm_iconst C (mm_dec dk_X12_goes 106 rfl) ⟨by decide, by decide⟩ ?_
                  have J237 : ∀ (h237_ : mH) (i237_ : mm_inv h237_) (f237_ : mm_fr [(66, 60), (66, 61), (66, 62), (66, 63), (66, 64), (66, 65), (66, 66)] [] h h237_) (w237_0 : h237_.1 66 60 = h187_.1 66 60) (w237_1 : h.1 66 60 ≤ h237_.1 66 62) (w237_2 : h237_.1 66 62 ≤ h237_.1 66 60) (w237_3 : h237_.1 66 60 < h237_.1 66 59), mm_W x 0 0 237 [mR 66, mU] [] h237_ := by
                    intro h237_ i237_ f237_ w237_0 w237_1 w237_2 w237_3
                    have g95 : 0 ≤ h237_.1 66 60 ∧ h237_.1 66 60 ≤ 500 := i237_.1 66 60
                    have g96 : 0 ≤ h237_.1 66 59 ∧ h237_.1 66 59 ≤ 500 := i237_.1 66 59
                    have g97 : 0 ≤ h237_.1 66 62 ∧ h237_.1 66 62 ≤ 500 := i237_.1 66 62
                    have g98 : -2147483648 ≤ h237_.1 66 61 ∧ h237_.1 66 61 ≤ 2147483647 := i237_.1 66 61
                    have g99 : h237_.1 66 59 = h.1 66 59 := f237_.1 66 59 (by decide)
                    refine mm_aload_n C (mm_dec dk_X12_goes 121 rfl) rfl ?_
                    refine mm_dup C (mm_dec dk_X12_goes 122 rfl) (show (2 : Nat) ≠ 1 by decide) ?_
                    refine mm_geti C fl_X12_359 (mm_dec dk_X12_goes 123 rfl) rfl rfl (Or.inl rfl) ?_
                    refine mm_iconst C (mm_dec dk_X12_goes 124 rfl) ⟨by decide, by decide⟩ ?_
                    refine mm_iadd C (mm_dec dk_X12_goes 125 rfl) ⟨by omega, by omega⟩ ?_
                    refine mm_puti C fl_X12_359 (mm_dec dk_X12_goes 126 rfl) rfl rfl rfl (Or.inl ⟨rfl, rfl⟩) ?_
                    have i10 : mm_inv (mm_pf h237_ 66 60 ((h237_.1 66 60) + 1)) := mm_inv_pf i237_ (show 0 ≤ ((h237_.1 66 60) + 1) ∧ ((h237_.1 66 60) + 1) ≤ 500 from ⟨by omega, by omega⟩) (by decide)
                    have f10 : mm_fr [(66, 60), (66, 61), (66, 62), (66, 63), (66, 64), (66, 65), (66, 66)] [] h (mm_pf h237_ 66 60 ((h237_.1 66 60) + 1)) := mm_fr_pf f237_ (by decide)
                    obtain ⟨h10, eh10⟩ : ∃ z, z = mm_pf h237_ 66 60 ((h237_.1 66 60) + 1) := ⟨_, rfl⟩
                    rw [← eh10] at i10 f10 ⊢
                    have qh10 : h10.1 66 60 = ((h237_.1 66 60) + 1) := by rw [eh10]; exact mm_pf_same _ _ _ _
                    have qh10_100 : h10.1 66 59 = h237_.1 66 59 := by rw [eh10]; exact mm_pf_ne _ _ (by decide)
                    have qh10_101 : h10.1 66 61 = h237_.1 66 61 := by rw [eh10]; exact mm_pf_ne _ _ (by decide)
                    have qh10_102 : h10.1 66 62 = h237_.1 66 62 := by rw [eh10]; exact mm_pf_ne _ _ (by decide)
                    refine mm_goto (tgt := 187) C (mm_dec dk_X12_goes 127 rfl) (by decide) ?_
                    exact ih187 h10 i10 f10 (by omega) (by omega) (by omega) (by omega)
                  refine mm_icmp_ge (tgt := 237) C (mm_dec dk_X12_goes 107 rfl) (by decide) (fun c211 => ?_) (fun c211 => ?_)
                  · skip
                    exact J237 h187_ i187_ f187_ (by omega) (by omega) (by omega) (by omega)
                  · skip
                    refine mm_aload_n C (mm_dec dk_X12_goes 108 rfl) rfl ?_
                    refine mm_bipush C (mm_dec dk_X12_goes 109 rfl) ⟨by decide, by decide⟩ ?_
                    refine mm_aload_n C (mm_dec dk_X12_goes 110 rfl) rfl ?_
                    refine mm_geti C fl_X12_372 (mm_dec dk_X12_goes 111 rfl) rfl rfl (Or.inl rfl) ?_
                    have g103 : -2147483648 ≤ (h187_.1 66 64) ∧ (h187_.1 66 64) ≤ 2147483647 := i187_.1 66 64
                    refine mm_imulw C (mm_dec dk_X12_goes 112 rfl) ?_
                    have g104 : -2147483648 ≤ (mm_w (10 * (h187_.1 66 64))) ∧ (mm_w (10 * (h187_.1 66 64))) < 2147483648 := mm_w_rg _
                    refine mm_aload_n C (mm_dec dk_X12_goes 113 rfl) rfl ?_
                    refine mm_aload_n C (mm_dec dk_X12_goes 114 rfl) rfl ?_
                    refine mm_geti C fl_X12_359 (mm_dec dk_X12_goes 115 rfl) rfl rfl (Or.inl rfl) ?_
                    refine mm_cVi (rest := [mI (mm_w (10 * (h187_.1 66 64))), mR 66]) C1 ev_X12_362 (mm_dec dk_X12_goes 116 rfl) (c_X12_byteAt x.2.1 hl (d - 1) (by omega) h187_ i187_ (h187_.1 66 60) ⟨by omega, by omega⟩) rfl rfl (Nat.le_of_ble_eq_true rfl) ⟨by decide, by decide⟩ rfl (fun r227 h227c hp227 => ?_) (fun _ _ q => q.elim)
                    obtain ⟨z227, y227⟩ := hp227
                    rw [z227]
                    refine mm_iaddw C (mm_dec dk_X12_goes 117 rfl) ?_
                    have g106 : -2147483648 ≤ (mm_w ((mm_w (10 * (h187_.1 66 64))) + r227)) ∧ (mm_w ((mm_w (10 * (h187_.1 66 64))) + r227)) < 2147483648 := mm_w_rg _
                    refine mm_bipush C (mm_dec dk_X12_goes 118 rfl) ⟨by decide, by decide⟩ ?_
                    refine mm_isubw C (mm_dec dk_X12_goes 119 rfl) ?_
                    have g107 : -2147483648 ≤ (mm_w ((mm_w ((mm_w (10 * (h187_.1 66 64))) + r227)) - 48)) ∧ (mm_w ((mm_w ((mm_w (10 * (h187_.1 66 64))) + r227)) - 48)) < 2147483648 := mm_w_rg _
                    refine mm_puti C fl_X12_372 (mm_dec dk_X12_goes 120 rfl) rfl rfl rfl (Or.inl ⟨rfl, rfl⟩) ?_
                    have i11 : mm_inv (mm_pf h187_ 66 64 (mm_w ((mm_w ((mm_w (10 * (h187_.1 66 64))) + r227)) - 48))) := mm_inv_pf i187_ (show -2147483648 ≤ (mm_w ((mm_w ((mm_w (10 * (h187_.1 66 64))) + r227)) - 48)) ∧ (mm_w ((mm_w ((mm_w (10 * (h187_.1 66 64))) + r227)) - 48)) ≤ 2147483647 from ⟨by omega, by omega⟩) (by decide)
                    have f11 : mm_fr [(66, 60), (66, 61), (66, 62), (66, 63), (66, 64), (66, 65), (66, 66)] [] h (mm_pf h187_ 66 64 (mm_w ((mm_w ((mm_w (10 * (h187_.1 66 64))) + r227)) - 48))) := mm_fr_pf f187_ (by decide)
                    obtain ⟨h11, eh11⟩ : ∃ z, z = mm_pf h187_ 66 64 (mm_w ((mm_w ((mm_w (10 * (h187_.1 66 64))) + r227)) - 48)) := ⟨_, rfl⟩
                    rw [← eh11] at i11 f11 ⊢
                    have qh11 : h11.1 66 64 = (mm_w ((mm_w ((mm_w (10 * (h187_.1 66 64))) + r227)) - 48)) := by rw [eh11]; exact mm_pf_same _ _ _ _
                    have qh11_108 : h11.1 66 59 = h187_.1 66 59 := by rw [eh11]; exact mm_pf_ne _ _ (by decide)
                    have qh11_109 : h11.1 66 60 = h187_.1 66 60 := by rw [eh11]; exact mm_pf_ne _ _ (by decide)
                    have qh11_110 : h11.1 66 61 = h187_.1 66 61 := by rw [eh11]; exact mm_pf_ne _ _ (by decide)
                    have qh11_111 : h11.1 66 62 = h187_.1 66 62 := by rw [eh11]; exact mm_pf_ne _ _ (by decide)
                    exact J237 h11 i11 f11 (by omega) (by omega) (by omega) (by omega)
            refine mm_if_eq (tgt := 258) C (mm_dec dk_X12_goes 94 rfl) (by decide) (fun c184 => ?_) (fun c184 => ?_)
            · skip
              refine mm_aload_n C (mm_dec dk_X12_goes 132 rfl) rfl ?_
              refine mm_dup C (mm_dec dk_X12_goes 133 rfl) (show (2 : Nat) ≠ 1 by decide) ?_
              refine mm_geti C fl_X12_359 (mm_dec dk_X12_goes 134 rfl) rfl rfl (Or.inl rfl) ?_
              refine mm_iconst C (mm_dec dk_X12_goes 135 rfl) ⟨by decide, by decide⟩ ?_
              refine mm_iadd C (mm_dec dk_X12_goes 136 rfl) ⟨by omega, by omega⟩ ?_
              refine mm_puti C fl_X12_359 (mm_dec dk_X12_goes 137 rfl) rfl rfl rfl (Or.inl ⟨rfl, rfl⟩) ?_
              have i12 : mm_inv (mm_pf h4 66 60 ((h4.1 66 60) + 1)) := mm_inv_pf i4 (show 0 ≤ ((h4.1 66 60) + 1) ∧ ((h4.1 66 60) + 1) ≤ 500 from ⟨by omega, by omega⟩) (by decide)
              have f12 : mm_fr [(66, 60), (66, 61), (66, 62), (66, 63), (66, 64), (66, 65), (66, 66)] [] h (mm_pf h4 66 60 ((h4.1 66 60) + 1)) := mm_fr_pf f4 (by decide)
              obtain ⟨h12, eh12⟩ : ∃ z, z = mm_pf h4 66 60 ((h4.1 66 60) + 1) := ⟨_, rfl⟩
              rw [← eh12] at i12 f12 ⊢
              have qh12 : h12.1 66 60 = ((h4.1 66 60) + 1) := by rw [eh12]; exact mm_pf_same _ _ _ _
              have qh12_112 : h12.1 66 59 = h4.1 66 59 := by rw [eh12]; exact mm_pf_ne _ _ (by decide)
              have qh12_113 : h12.1 66 61 = h4.1 66 61 := by rw [eh12]; exact mm_pf_ne _ _ (by decide)
              have qh12_114 : h12.1 66 62 = h4.1 66 62 := by rw [eh12]; exact mm_pf_ne _ _ (by decide)
              have qh12_115 : h12.1 66 64 = h4.1 66 64 := by rw [eh12]; exact mm_pf_ne _ _ (by decide)
              have qh12_116 : h12.1 66 65 = h4.1 66 65 := by rw [eh12]; exact mm_pf_ne _ _ (by decide)
              have qh12_117 : h12.1 66 66 = h4.1 66 66 := by rw [eh12]; exact mm_pf_ne _ _ (by decide)
              refine mm_aload_n C (mm_dec dk_X12_goes 138 rfl) rfl ?_
              refine mm_iload_n C (mm_dec dk_X12_goes 139 rfl) rfl ?_
              refine mm_bipush C (mm_dec dk_X12_goes 140 rfl) ⟨by decide, by decide⟩ ?_
              have J328 : ∀ (s328_1 : Int) (bs328_1 : 3 ≤ s328_1 ∧ s328_1 ≤ 4) (vs328_1 : (s328_1 = 3) ∨ (r73 ≠ 59 ∧ r73 ≠ 40 ∧ r73 ≠ 41 ∧ r73 ≠ 43 ∧ r73 ≠ 45 ∧ r73 ≠ 42 ∧ r73 ≠ 47 ∧ r73 ≠ 60 ∧ r73 ≠ 61 ∧ s328_1 = 4)), mm_W x 0 0 328 [mR 66, mU] [mI s328_1, mR 66] h12 := by
                intro s328_1 bs328_1 vs328_1
                refine mm_puti C fl_X12_378 (mm_dec dk_X12_goes 169 rfl) rfl rfl rfl (Or.inl ⟨rfl, rfl⟩) ?_
                have i13 : mm_inv (mm_pf h12 66 61 s328_1) := mm_inv_pf i12 (show -2147483648 ≤ s328_1 ∧ s328_1 ≤ 2147483647 from ⟨by omega, by omega⟩) (by decide)
                have f13 : mm_fr [(66, 60), (66, 61), (66, 62), (66, 63), (66, 64), (66, 65), (66, 66)] [] h (mm_pf h12 66 61 s328_1) := mm_fr_pf f12 (by decide)
                obtain ⟨h13, eh13⟩ : ∃ z, z = mm_pf h12 66 61 s328_1 := ⟨_, rfl⟩
                rw [← eh13] at i13 f13 ⊢
                have qh13 : h13.1 66 61 = s328_1 := by rw [eh13]; exact mm_pf_same _ _ _ _
                have qh13_118 : h13.1 66 59 = h12.1 66 59 := by rw [eh13]; exact mm_pf_ne _ _ (by decide)
                have qh13_119 : h13.1 66 60 = h12.1 66 60 := by rw [eh13]; exact mm_pf_ne _ _ (by decide)
                have qh13_120 : h13.1 66 62 = h12.1 66 62 := by rw [eh13]; exact mm_pf_ne _ _ (by decide)
                have qh13_121 : h13.1 66 64 = h12.1 66 64 := by rw [eh13]; exact mm_pf_ne _ _ (by decide)
                have qh13_122 : h13.1 66 65 = h12.1 66 65 := by rw [eh13]; exact mm_pf_ne _ _ (by decide)
                have qh13_123 : h13.1 66 66 = h12.1 66 66 := by rw [eh13]; exact mm_pf_ne _ _ (by decide)
                exact J331 h13 i13 f13 (by omega) (by omega) (by omega)
              have J323 : mm_W x 0 0 323 [mR 66, mU] [mR 66] h12 := by
                refine mm_iconst C (mm_dec dk_X12_goes 166 rfl) ⟨by decide, by decide⟩ ?_
                refine mm_goto (tgt := 328) C (mm_dec dk_X12_goes 167 rfl) (by decide) ?_
                exact J328 3 ⟨by omega, by omega⟩ (Or.inl rfl)
              refine mm_icmp_eq (tgt := 323) C (mm_dec dk_X12_goes 141 rfl) (by decide) (fun c272 => ?_) (fun c272 => ?_)
              · skip
                refine mm_fgt 1 ?_
                exact J323
              · skip
                refine mm_iload_n C (mm_dec dk_X12_goes 142 rfl) rfl ?_
                refine mm_bipush C (mm_dec dk_X12_goes 143 rfl) ⟨by decide, by decide⟩ ?_
                refine mm_icmp_eq (tgt := 323) C (mm_dec dk_X12_goes 144 rfl) (by decide) (fun c278 => ?_) (fun c278 => ?_)
                · skip
                  refine mm_fgt 1 ?_
                  exact J323
                · skip
                  refine mm_iload_n C (mm_dec dk_X12_goes 145 rfl) rfl ?_
                  refine mm_bipush C (mm_dec dk_X12_goes 146 rfl) ⟨by decide, by decide⟩ ?_
                  refine mm_icmp_eq (tgt := 323) C (mm_dec dk_X12_goes 147 rfl) (by decide) (fun c284 => ?_) (fun c284 => ?_)
                  · skip
                    refine mm_fgt 1 ?_
                    exact J323
                  · skip
                    refine mm_iload_n C (mm_dec dk_X12_goes 148 rfl) rfl ?_
                    refine mm_bipush C (mm_dec dk_X12_goes 149 rfl) ⟨by decide, by decide⟩ ?_
                    refine mm_icmp_eq (tgt := 323) C (mm_dec dk_X12_goes 150 rfl) (by decide) (fun c290 => ?_) (fun c290 => ?_)
                    · skip
                      refine mm_fgt 1 ?_
                      exact J323
                    · skip
                      refine mm_iload_n C (mm_dec dk_X12_goes 151 rfl) rfl ?_
                      refine mm_bipush C (mm_dec dk_X12_goes 152 rfl) ⟨by decide, by decide⟩ ?_
                      refine mm_icmp_eq (tgt := 323) C (mm_dec dk_X12_goes 153 rfl) (by decide) (fun c296 => ?_) (fun c296 => ?_)
                      · skip
                        refine mm_fgt 1 ?_
                        exact J323
                      · skip
                        refine mm_iload_n C (mm_dec dk_X12_goes 154 rfl) rfl ?_
                        refine mm_bipush C (mm_dec dk_X12_goes 155 rfl) ⟨by decide, by decide⟩ ?_
                        refine mm_icmp_eq (tgt := 323) C (mm_dec dk_X12_goes 156 rfl) (by decide) (fun c302 => ?_) (fun c302 => ?_)
                        · skip
                          refine mm_fgt 1 ?_
                          exact J323
                        · skip
                          refine mm_iload_n C (mm_dec dk_X12_goes 157 rfl) rfl ?_
                          refine mm_bipush C (mm_dec dk_X12_goes 158 rfl) ⟨by decide, by decide⟩ ?_
                          refine mm_icmp_eq (tgt := 323) C (mm_dec dk_X12_goes 159 rfl) (by decide) (fun c308 => ?_) (fun c308 => ?_)
                          · skip
                            refine mm_fgt 1 ?_
                            exact J323
                          · skip
                            refine mm_iload_n C (mm_dec dk_X12_goes 160 rfl) rfl ?_
                            refine mm_bipush C (mm_dec dk_X12_goes 161 rfl) ⟨by decide, by decide⟩ ?_
                            refine mm_icmp_eq (tgt := 323) C (mm_dec dk_X12_goes 162 rfl) (by decide) (fun c314 => ?_) (fun c314 => ?_)
                            · skip
                              refine mm_fgt 1 ?_
                              exact J323
                            · skip
                              refine mm_iload_n C (mm_dec dk_X12_goes 163 rfl) rfl ?_
                              refine mm_bipush C (mm_dec dk_X12_goes 164 rfl) ⟨by decide, by decide⟩ ?_
                              refine mm_icmp_ne (tgt := 327) C (mm_dec dk_X12_goes 165 rfl) (by decide) (fun c320 => ?_) (fun c320 => ?_)
                              · skip
                                refine mm_iconst C (mm_dec dk_X12_goes 168 rfl) ⟨by decide, by decide⟩ ?_
                                refine mm_fgt 1 ?_
                                exact J328 4 ⟨by omega, by omega⟩ (Or.inr (⟨by omega, by omega, by omega, by omega, by omega, by omega, by omega, by omega, by omega, rfl⟩))
                              · skip
                                refine mm_fgt 1 ?_
                                exact J323
            · skip
              refine mm_fgt 1 ?_
              exact J187 (((500 - h4.1 66 60) : Int) + 1).toNat h4 i4 f4 (by omega) (by omega) (by omega) (by omega)
          · skip
            refine mm_fgt 1 ?_
            exact J108 (((500 - h4.1 66 60) : Int) + 1).toNat h4 i4 f4 (by omega) (by omega) (by omega) (by omega)
        · skip
          refine mm_aload_n C (mm_dec dk_X12_goes 47 rfl) rfl ?_
          refine mm_iconst C (mm_dec dk_X12_goes 48 rfl) ⟨by decide, by decide⟩ ?_
          refine mm_puti C fl_X12_378 (mm_dec dk_X12_goes 49 rfl) rfl rfl rfl (Or.inl ⟨rfl, rfl⟩) ?_
          have i14 : mm_inv (mm_pf h4 66 61 0) := mm_inv_pf i4 (show -2147483648 ≤ 0 ∧ 0 ≤ 2147483647 from ⟨by omega, by omega⟩) (by decide)
          have f14 : mm_fr [(66, 60), (66, 61), (66, 62), (66, 63), (66, 64), (66, 65), (66, 66)] [] h (mm_pf h4 66 61 0) := mm_fr_pf f4 (by decide)
          obtain ⟨h14, eh14⟩ : ∃ z, z = mm_pf h4 66 61 0 := ⟨_, rfl⟩
          rw [← eh14] at i14 f14 ⊢
          have qh14 : h14.1 66 61 = 0 := by rw [eh14]; exact mm_pf_same _ _ _ _
          have qh14_124 : h14.1 66 59 = h4.1 66 59 := by rw [eh14]; exact mm_pf_ne _ _ (by decide)
          have qh14_125 : h14.1 66 60 = h4.1 66 60 := by rw [eh14]; exact mm_pf_ne _ _ (by decide)
          have qh14_126 : h14.1 66 62 = h4.1 66 62 := by rw [eh14]; exact mm_pf_ne _ _ (by decide)
          have qh14_127 : h14.1 66 64 = h4.1 66 64 := by rw [eh14]; exact mm_pf_ne _ _ (by decide)
          have qh14_128 : h14.1 66 65 = h4.1 66 65 := by rw [eh14]; exact mm_pf_ne _ _ (by decide)
          have qh14_129 : h14.1 66 66 = h4.1 66 66 := by rw [eh14]; exact mm_pf_ne _ _ (by decide)
          refine mm_goto (tgt := 331) C (mm_dec dk_X12_goes 50 rfl) (by decide) ?_
          refine mm_fgt 1 ?_
          exact J331 h14 i14 f14 (by omega) (by omega) (by omega)
      refine mm_icmp_ge (tgt := 50) C (mm_dec dk_X12_goes 4 rfl) (by decide) (fun c8 => ?_) (fun c8 => ?_)
      · skip
        exact J50
      · skip
        refine mm_aload_n C (mm_dec dk_X12_goes 5 rfl) rfl ?_
        refine mm_aload_n C (mm_dec dk_X12_goes 6 rfl) rfl ?_
        refine mm_geti C fl_X12_359 (mm_dec dk_X12_goes 7 rfl) rfl rfl (Or.inl rfl) ?_
        refine mm_cVi (rest := []) C1 ev_X12_362 (mm_dec dk_X12_goes 8 rfl) (c_X12_byteAt x.2.1 hl (d - 1) (by omega) h0_ i0_ (h0_.1 66 60) ⟨by omega, by omega⟩) rfl rfl (Nat.le_of_ble_eq_true rfl) ⟨by decide, by decide⟩ rfl (fun r16 h16c hp16 => ?_) (fun _ _ q => q.elim)
        obtain ⟨z16, y16⟩ := hp16
        rw [z16]
        have g131 : -2147483648 ≤ (h0_.2.1 101 (h0_.1 66 60)) ∧ (h0_.2.1 101 (h0_.1 66 60)) ≤ 2147483647 := i0_.2.1 101 (h0_.1 66 60)
        refine mm_bipush C (mm_dec dk_X12_goes 9 rfl) ⟨by decide, by decide⟩ ?_
        have J37 : mm_W x 0 0 37 [mR 66, mU] [] h0_ := by
          have g132 : 0 ≤ h0_.1 66 60 ∧ h0_.1 66 60 ≤ 500 := i0_.1 66 60
          have g133 : 0 ≤ h0_.1 66 59 ∧ h0_.1 66 59 ≤ 500 := i0_.1 66 59
          have g134 : 0 ≤ h0_.1 66 62 ∧ h0_.1 66 62 ≤ 500 := i0_.1 66 62
          have g135 : -2147483648 ≤ h0_.1 66 61 ∧ h0_.1 66 61 ≤ 2147483647 := i0_.1 66 61
          refine mm_aload_n C (mm_dec dk_X12_goes 17 rfl) rfl ?_
          refine mm_dup C (mm_dec dk_X12_goes 18 rfl) (show (2 : Nat) ≠ 1 by decide) ?_
          refine mm_geti C fl_X12_359 (mm_dec dk_X12_goes 19 rfl) rfl rfl (Or.inl rfl) ?_
          refine mm_iconst C (mm_dec dk_X12_goes 20 rfl) ⟨by decide, by decide⟩ ?_
          refine mm_iadd C (mm_dec dk_X12_goes 21 rfl) ⟨by omega, by omega⟩ ?_
          refine mm_puti C fl_X12_359 (mm_dec dk_X12_goes 22 rfl) rfl rfl rfl (Or.inl ⟨rfl, rfl⟩) ?_
          have i15 : mm_inv (mm_pf h0_ 66 60 ((h0_.1 66 60) + 1)) := mm_inv_pf i0_ (show 0 ≤ ((h0_.1 66 60) + 1) ∧ ((h0_.1 66 60) + 1) ≤ 500 from ⟨by omega, by omega⟩) (by decide)
          have f15 : mm_fr [(66, 60), (66, 61), (66, 62), (66, 63), (66, 64), (66, 65), (66, 66)] [] h (mm_pf h0_ 66 60 ((h0_.1 66 60) + 1)) := mm_fr_pf f0_ (by decide)
          obtain ⟨h15, eh15⟩ : ∃ z, z = mm_pf h0_ 66 60 ((h0_.1 66 60) + 1) := ⟨_, rfl⟩
          rw [← eh15] at i15 f15 ⊢
          have qh15 : h15.1 66 60 = ((h0_.1 66 60) + 1) := by rw [eh15]; exact mm_pf_same _ _ _ _
          have qh15_136 : h15.1 66 59 = h0_.1 66 59 := by rw [eh15]; exact mm_pf_ne _ _ (by decide)
          have qh15_137 : h15.1 66 61 = h0_.1 66 61 := by rw [eh15]; exact mm_pf_ne _ _ (by decide)
          have qh15_138 : h15.1 66 62 = h0_.1 66 62 := by rw [eh15]; exact mm_pf_ne _ _ (by decide)
          refine mm_goto (tgt := 0) C (mm_dec dk_X12_goes 23 rfl) (by decide) ?_
          exact ih0 h15 i15 f15 (by omega) (by omega)
        refine mm_icmp_eq (tgt := 37) C (mm_dec dk_X12_goes 10 rfl) (by decide) (fun c21 => ?_) (fun c21 => ?_)
        · skip
          exact J37
        · skip
          refine mm_aload_n C (mm_dec dk_X12_goes 11 rfl) rfl ?_
          refine mm_aload_n C (mm_dec dk_X12_goes 12 rfl) rfl ?_
          refine mm_geti C fl_X12_359 (mm_dec dk_X12_goes 13 rfl) rfl rfl (Or.inl rfl) ?_
          refine mm_cVi (rest := []) C1 ev_X12_362 (mm_dec dk_X12_goes 14 rfl) (c_X12_byteAt x.2.1 hl (d - 1) (by omega) h0_ i0_ (h0_.1 66 60) ⟨by omega, by omega⟩) rfl rfl (Nat.le_of_ble_eq_true rfl) ⟨by decide, by decide⟩ rfl (fun r29 h29c hp29 => ?_) (fun _ _ q => q.elim)
          obtain ⟨z29, y29⟩ := hp29
          rw [z29]
          refine mm_bipush C (mm_dec dk_X12_goes 15 rfl) ⟨by decide, by decide⟩ ?_
          refine mm_icmp_ne (tgt := 50) C (mm_dec dk_X12_goes 16 rfl) (by decide) (fun c34 => ?_) (fun c34 => ?_)
          · skip
            exact J50
          · skip
            exact J37
  exact J0 (((500 - h.1 66 60) : Int) + 1).toNat h i0 f0 (by omega) (by omega)
