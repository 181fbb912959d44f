set_option maxRecDepth 100000 in
set_option maxHeartbeats 4000000 in
theorem c_X12_puts_x (l : Launch) (hl : l.stackTraces = false) (d : Nat) (hd : 0 ≤ d) (h : mH) (i0 : mm_inv h) (p1 : Int) (u0 : (h.1 66 69) ≤ 2399) : mm_Met l d yX12_puts cX12_puts 2 none [mR 66, mI p1] h (mm_pv fun h2 => mm_inv h2 ∧ mm_fr [(66, 69)] [107] h h2 ∧ h2.1 66 69 = h.1 66 69 + 1 ∧ (∀ j, h2.2.1 107 j = if j = h.1 66 69 then p1 else h.2.1 107 j)) mm_nx 0 0 := by
  refine mm_ofW (ls := [mR 66, mI p1]) hl (by decide) rfl (Nat.le_of_ble_eq_true rfl) ?_
  intro x hxl C T hnm htb
  subst hxl
  refine mm_rng (fun hr _ => ?_)
  have ap1 : -2147483648 ≤ p1 ∧ p1 < 2147483648 := mm_ok_at hr (i := 1) rfl
  have f0 : mm_fr [(66, 69)] [107] h h := mm_fr_rf
  have g1 : 0 ≤ h.1 66 69 ∧ h.1 66 69 ≤ 2400 := i0.1 66 69
  refine mm_aload_n C (mm_dec dk_X12_puts 0 rfl) rfl ?_
  refine mm_getr (t := 107) C fl_X12_132 (mm_dec dk_X12_puts 1 rfl) rfl rfl (mm_ref i0 rfl) ?_
  refine mm_aload_n C (mm_dec dk_X12_puts 2 rfl) rfl ?_
  refine mm_geti C fl_X12_401 (mm_dec dk_X12_puts 3 rfl) rfl rfl (Or.inl rfl) ?_
  refine mm_iload_n C (mm_dec dk_X12_puts 4 rfl) rfl ?_
  refine mm_iast C (mm_dec dk_X12_puts 5 rfl) rfl (by omega) (by omega) ?_
  have i1 : mm_inv (mm_pa h 107 (h.1 66 69) p1) := mm_inv_pa i0 (show -2147483648 ≤ p1 ∧ p1 ≤ 2147483647 from ⟨by omega, by omega⟩)
  have f1 : mm_fr [(66, 69)] [107] h (mm_pa h 107 (h.1 66 69) p1) := mm_fr_pa f0 (by decide)
  obtain ⟨h1, eh1⟩ : ∃ z, z = mm_pa h 107 (h.1 66 69) p1 := ⟨_, rfl⟩
  rw [← eh1] at i1 f1 ⊢
  have qh1_2 : h1.1 66 69 = h.1 66 69 := by rw [eh1]; rfl
  refine mm_aload_n C (mm_dec dk_X12_puts 6 rfl) rfl ?_
  refine mm_dup C (mm_dec dk_X12_puts 7 rfl) (show (2 : Nat) ≠ 1 by decide) ?_
  refine mm_geti C fl_X12_401 (mm_dec dk_X12_puts 8 rfl) rfl rfl (Or.inl rfl) ?_
  refine mm_iconst C (mm_dec dk_X12_puts 9 rfl) ⟨by decide, by decide⟩ ?_
  refine mm_iadd C (mm_dec dk_X12_puts 10 rfl) ⟨by omega, by omega⟩ ?_
  refine mm_puti C fl_X12_401 (mm_dec dk_X12_puts 11 rfl) rfl rfl rfl (Or.inl ⟨rfl, rfl⟩) ?_
  have i2 : mm_inv (mm_pf h1 66 69 ((h1.1 66 69) + 1)) := mm_inv_pf i1 (show 0 ≤ ((h1.1 66 69) + 1) ∧ ((h1.1 66 69) + 1) ≤ 2400 from ⟨by omega, by omega⟩) (by decide)
  have f2 : mm_fr [(66, 69)] [107] h (mm_pf h1 66 69 ((h1.1 66 69) + 1)) := mm_fr_pf f1 (by decide)
  obtain ⟨h2, eh2⟩ : ∃ z, z = mm_pf h1 66 69 ((h1.1 66 69) + 1) := ⟨_, rfl⟩
  rw [← eh2] at i2 f2 ⊢
  have qh2 : h2.1 66 69 = ((h1.1 66 69) + 1) := by rw [eh2]; exact mm_pf_same _ _ _ _
  exact mm_vret C T (mm_dec dk_X12_puts 12 rfl) (by decide : 0 ≤ 0) (by decide : 0 ≤ 0) ⟨rfl, ⟨i2, f2, by omega, by (intro j; rw [eh2, eh1]; show (mm_pa h 107 (h.1 66 69) p1).2.1 107 j = _; by_cases q : j = h.1 66 69; (rw [if_pos q, q]; exact mm_pa_same _ _ _ _); (rw [if_neg q]; exact mm_pa_ne _ _ (fun w => q w.2)))⟩⟩
set_option maxRecDepth 100000 in
set_option maxHeartbeats 4000000 in
theorem c_X12_waitsFor_x (l : Launch) (hl : l.stackTraces = false) (d : Nat) (hd : 0 ≤ d) (h : mH) (i0 : mm_inv h) (p1 : Int) (u0 : (h.1 66 70) ≤ 519) : mm_Met l d yX12_waitsFor cX12_waitsFor 2 none [mR 66, mI p1] h (mm_pv fun h2 => mm_inv h2 ∧ mm_fr [(66, 70)] [108] h h2 ∧ h2.1 66 70 = h.1 66 70 + 1 ∧ (∀ j, h2.2.1 108 j = if j = h.1 66 70 then p1 else h.2.1 108 j)) mm_nx 0 0 := by
  refine mm_ofW (ls := [mR 66, mI p1]) hl (by decide) rfl (Nat.le_of_ble_eq_true rfl) ?_
  intro x hxl C T hnm htb
  subst hxl
  refine mm_rng (fun hr _ => ?_)
  have ap1 : -2147483648 ≤ p1 ∧ p1 < 2147483648 := mm_ok_at hr (i := 1) rfl
  have f0 : mm_fr [(66, 70)] [108] h h := mm_fr_rf
  have g1 : 0 ≤ h.1 66 70 ∧ h.1 66 70 ≤ 520 := i0.1 66 70
  refine mm_aload_n C (mm_dec dk_X12_waitsFor 0 rfl) rfl ?_
  refine mm_getr (t := 108) C fl_X12_135 (mm_dec dk_X12_waitsFor 1 rfl) rfl rfl (mm_ref i0 rfl) ?_
  refine mm_aload_n C (mm_dec dk_X12_waitsFor 2 rfl) rfl ?_
  refine mm_geti C fl_X12_404 (mm_dec dk_X12_waitsFor 3 rfl) rfl rfl (Or.inl rfl) ?_
  refine mm_iload_n C (mm_dec dk_X12_waitsFor 4 rfl) rfl ?_
  refine mm_iast C (mm_dec dk_X12_waitsFor 5 rfl) rfl (by omega) (by omega) ?_
  have i1 : mm_inv (mm_pa h 108 (h.1 66 70) p1) := mm_inv_pa i0 (show -2147483648 ≤ p1 ∧ p1 ≤ 2147483647 from ⟨by omega, by omega⟩)
  have f1 : mm_fr [(66, 70)] [108] h (mm_pa h 108 (h.1 66 70) p1) := mm_fr_pa f0 (by decide)
  obtain ⟨h1, eh1⟩ : ∃ z, z = mm_pa h 108 (h.1 66 70) p1 := ⟨_, rfl⟩
  rw [← eh1] at i1 f1 ⊢
  have qh1_2 : h1.1 66 70 = h.1 66 70 := by rw [eh1]; rfl
  refine mm_aload_n C (mm_dec dk_X12_waitsFor 6 rfl) rfl ?_
  refine mm_dup C (mm_dec dk_X12_waitsFor 7 rfl) (show (2 : Nat) ≠ 1 by decide) ?_
  refine mm_geti C fl_X12_404 (mm_dec dk_X12_waitsFor 8 rfl) rfl rfl (Or.inl rfl) ?_
  refine mm_iconst C (mm_dec dk_X12_waitsFor 9 rfl) ⟨by decide, by decide⟩ ?_
  refine mm_iadd C (mm_dec dk_X12_waitsFor 10 rfl) ⟨by omega, by omega⟩ ?_
  refine mm_puti C fl_X12_404 (mm_dec dk_X12_waitsFor 11 rfl) rfl rfl rfl (Or.inl ⟨rfl, rfl⟩) ?_
  have i2 : mm_inv (mm_pf h1 66 70 ((h1.1 66 70) + 1)) := mm_inv_pf i1 (show 0 ≤ ((h1.1 66 70) + 1) ∧ ((h1.1 66 70) + 1) ≤ 520 from ⟨by omega, by omega⟩) (by decide)
  have f2 : mm_fr [(66, 70)] [108] h (mm_pf h1 66 70 ((h1.1 66 70) + 1)) := mm_fr_pf f1 (by decide)
  obtain ⟨h2, eh2⟩ : ∃ z, z = mm_pf h1 66 70 ((h1.1 66 70) + 1) := ⟨_, rfl⟩
  rw [← eh2] at i2 f2 ⊢
  have qh2 : h2.1 66 70 = ((h1.1 66 70) + 1) := by rw [eh2]; exact mm_pf_same _ _ _ _
  exact mm_vret C T (mm_dec dk_X12_waitsFor 12 rfl) (by decide : 0 ≤ 0) (by decide : 0 ≤ 0) ⟨rfl, ⟨i2, f2, by omega, by (intro j; rw [eh2, eh1]; show (mm_pa h 108 (h.1 66 70) p1).2.1 108 j = _; by_cases q : j = h.1 66 70; (rw [if_pos q, q]; exact mm_pa_same _ _ _ _); (rw [if_neg q]; exact mm_pa_ne _ _ (fun w => q w.2)))⟩⟩
set_option maxRecDepth 100000 in
set_option maxHeartbeats 4000000 in
theorem c_X12_wrong_x (l : Launch) (hl : l.stackTraces = false) (d : Nat) (hd : 0 ≤ d) (h : mH) (i0 : mm_inv h) (p1 : Int) (u0 : p1 ≠ 0) : mm_Met l d yX12_wrong cX12_wrong 2 none [mR 66, mI p1] h (mm_pv fun h2 => mm_inv h2 ∧ mm_fr [(66, 57), (66, 58)] [] h h2 ∧ h2.1 66 57 ≠ 0) mm_nx 0 0 := by
  refine mm_ofW (ls := [mR 66, mI p1]) hl (by decide) rfl (Nat.le_of_ble_eq_true rfl) ?_
  intro x hxl C T hnm htb
  subst hxl
  refine mm_rng (fun hr _ => ?_)
  have ap1 : -2147483648 ≤ p1 ∧ p1 < 2147483648 := mm_ok_at hr (i := 1) rfl
  have f0 : mm_fr [(66, 57), (66, 58)] [] h h := mm_fr_rf
  have g1 : -2147483648 ≤ h.1 66 57 ∧ h.1 66 57 ≤ 2147483647 := i0.1 66 57
  refine mm_aload_n C (mm_dec dk_X12_wrong 0 rfl) rfl ?_
  refine mm_geti C fl_X12_398 (mm_dec dk_X12_wrong 1 rfl) rfl rfl (Or.inl rfl) ?_
  refine mm_if_eq (tgt := 8) C (mm_dec dk_X12_wrong 2 rfl) (by decide) (fun c4 => ?_) (fun c4 => ?_)
  · skip
    refine mm_aload_n C (mm_dec dk_X12_wrong 4 rfl) rfl ?_
    refine mm_iload_n C (mm_dec dk_X12_wrong 5 rfl) rfl ?_
    refine mm_puti C fl_X12_398 (mm_dec dk_X12_wrong 6 rfl) rfl rfl rfl (Or.inl ⟨rfl, rfl⟩) ?_
    have i1 : mm_inv (mm_pf h 66 57 p1) := mm_inv_pf i0 (show -2147483648 ≤ p1 ∧ p1 ≤ 2147483647 from ⟨by omega, by omega⟩) (by decide)
    have f1 : mm_fr [(66, 57), (66, 58)] [] h (mm_pf h 66 57 p1) := mm_fr_pf f0 (by decide)
    obtain ⟨h1, eh1⟩ : ∃ z, z = mm_pf h 66 57 p1 := ⟨_, rfl⟩
    rw [← eh1] at i1 f1 ⊢
    have qh1 : h1.1 66 57 = p1 := by rw [eh1]; exact mm_pf_same _ _ _ _
    refine mm_aload_n C (mm_dec dk_X12_wrong 7 rfl) rfl ?_
    refine mm_aload_n C (mm_dec dk_X12_wrong 8 rfl) rfl ?_
    refine mm_geti C fl_X12_365 (mm_dec dk_X12_wrong 9 rfl) rfl rfl (Or.inl rfl) ?_
    have g2 : 0 ≤ (h1.1 66 62) ∧ (h1.1 66 62) ≤ 500 := i1.1 66 62
    refine mm_puti C fl_X12_237 (mm_dec dk_X12_wrong 10 rfl) rfl rfl rfl (Or.inl ⟨rfl, rfl⟩) ?_
    have i2 : mm_inv (mm_pf h1 66 58 (h1.1 66 62)) := mm_inv_pf i1 (show -2147483648 ≤ (h1.1 66 62) ∧ (h1.1 66 62) ≤ 2147483647 from ⟨by omega, by omega⟩) (by decide)
    have f2 : mm_fr [(66, 57), (66, 58)] [] h (mm_pf h1 66 58 (h1.1 66 62)) := mm_fr_pf f1 (by decide)
    obtain ⟨h2, eh2⟩ : ∃ z, z = mm_pf h1 66 58 (h1.1 66 62) := ⟨_, rfl⟩
    rw [← eh2] at i2 f2 ⊢
    have qh2 : h2.1 66 58 = (h1.1 66 62) := by rw [eh2]; exact mm_pf_same _ _ _ _
    have qh2_3 : h2.1 66 57 = h1.1 66 57 := by rw [eh2]; exact mm_pf_ne _ _ (by decide)
    have qh2_4 : h2.1 66 62 = h1.1 66 62 := by rw [eh2]; exact mm_pf_ne _ _ (by decide)
    exact mm_vret C T (mm_dec dk_X12_wrong 11 rfl) (by decide : 0 ≤ 0) (by decide : 0 ≤ 0) ⟨rfl, ⟨i2, f2, by omega⟩⟩
  · skip
    exact mm_vret C T (mm_dec dk_X12_wrong 3 rfl) (by decide : 0 ≤ 0) (by decide : 0 ≤ 0) ⟨rfl, ⟨i0, f0, by omega⟩⟩
set_option maxRecDepth 100000 in
set_option maxHeartbeats 4000000 in
theorem c_X12_knownWord_x (l : Launch) (hl : l.stackTraces = false) (d : Nat) (hd : 2 ≤ d) (h : mH) (i0 : mm_inv h) : mm_Met l d yX12_knownWord cX12_knownWord 2 (some .int) [mR 66] h (mm_pi fun r h2 => (-1 ≤ r ∧ r ≤ 16) ∧ h2 = h ∧ (r = -1 ∨ h.1 66 61 = 1)) mm_nx 0 0 := by
  refine mm_ofW (ls := [mR 66, mU]) hl (by decide) rfl (Nat.le_of_ble_eq_true rfl) ?_
  intro x hxl C T hnm htb
  subst hxl
  have C1 := mm_OK_le (d' := d - 1 + 1) (by omega) C
  have f0 : mm_fr [] [] h h := mm_fr_rf
  refine mm_aload_n C (mm_dec dk_X12_knownWord 0 rfl) rfl ?_
  refine mm_geti C fl_X12_378 (mm_dec dk_X12_knownWord 1 rfl) rfl rfl (Or.inl rfl) ?_
  have g1 : -2147483648 ≤ (h.1 66 61) ∧ (h.1 66 61) ≤ 2147483647 := i0.1 66 61
  refine mm_iconst C (mm_dec dk_X12_knownWord 2 rfl) ⟨by decide, by decide⟩ ?_
  have J17 : mm_W x 0 0 17 [mU, mU] [] h := by
    refine mm_iconst C (mm_dec dk_X12_knownWord 8 rfl) ⟨by decide, by decide⟩ ?_
    exact mm_iret C T (mm_dec dk_X12_knownWord 9 rfl) (by decide : 0 ≤ 0) (by decide : 0 ≤ 0) ⟨_, rfl, ⟨⟨by omega, by omega⟩, rfl, by omega⟩⟩
  refine mm_icmp_ne (tgt := 17) C (mm_dec dk_X12_knownWord 3 rfl) (by decide) (fun c5 => ?_) (fun c5 => ?_)
  · skip
    refine mm_fgt 0 ?_
    exact J17
  · skip
    refine mm_aload_n C (mm_dec dk_X12_knownWord 4 rfl) rfl ?_
    refine mm_geti C fl_X12_387 (mm_dec dk_X12_knownWord 5 rfl) rfl rfl (Or.inl rfl) ?_
    have g2 : -2147483648 ≤ (h.1 66 63) ∧ (h.1 66 63) ≤ 2147483647 := i0.1 66 63
    refine mm_bipush C (mm_dec dk_X12_knownWord 6 rfl) ⟨by decide, by decide⟩ ?_
    refine mm_icmp_le (tgt := 19) C (mm_dec dk_X12_knownWord 7 rfl) (by decide) (fun c14 => ?_) (fun c14 => ?_)
    · skip
      refine mm_iconst C (mm_dec dk_X12_knownWord 10 rfl) ⟨by decide, by decide⟩ ?_
      have J21 : ∀ (n : Nat) (x21_1 : Int) (bx21_1 : 0 ≤ x21_1 ∧ x21_1 ≤ 19), (19 - x21_1 : Int) < n → mm_W x 0 0 21 [mR 66, mI x21_1] [] h := by
        intro n
        induction n with
        | zero =>
          intro x21_1 bx21_1 hm
          exfalso; omega
        | succ n ih21 =>
          intro x21_1 bx21_1 hm21
          refine mm_iload_n C (mm_dec dk_X12_knownWord 12 rfl) rfl ?_
          refine mm_bipush C (mm_dec dk_X12_knownWord 13 rfl) ⟨by decide, by decide⟩ ?_
          refine mm_icmp_ge (tgt := 47) C (mm_dec dk_X12_knownWord 14 rfl) (by decide) (fun c24 => ?_) (fun c24 => ?_)
          · skip
            refine mm_iconst C (mm_dec dk_X12_knownWord 25 rfl) ⟨by decide, by decide⟩ ?_
            exact mm_iret C T (mm_dec dk_X12_knownWord 26 rfl) (by decide : 0 ≤ 0) (by decide : 0 ≤ 0) ⟨_, rfl, ⟨⟨by omega, by omega⟩, rfl, by omega⟩⟩
          · skip
            refine mm_iload_n C (mm_dec dk_X12_knownWord 15 rfl) rfl ?_
            refine mm_cSl (rest := []) C1 es_X12_394 (mm_dec dk_X12_knownWord 16 rfl) (c_X12_known x.2.1 hl (d - 1) (by omega) h i0 x21_1) rfl (Nat.le_of_ble_eq_true rfl) ⟨by decide, by decide⟩ rfl (fun r28 h28c hp28 => ?_) (fun _ _ q => q.elim)
            have z28 := hp28
            rw [z28]
            refine mm_rng (fun _ ho => ?_)
            have b28 : -9223372036854775808 ≤ r28 ∧ r28 < 9223372036854775808 := mm_ok_hd ho
            refine mm_aload_n C (mm_dec dk_X12_knownWord 17 rfl) rfl ?_
            refine mm_getl C fl_X12_368 (mm_dec dk_X12_knownWord 18 rfl) rfl rfl ?_
            refine mm_lcmp C (mm_dec dk_X12_knownWord 19 rfl) (fun c35 => ?_) (fun c35 => ?_) (fun c35 => ?_)
            · skip
              refine mm_if_ne (tgt := 41) C (mm_dec dk_X12_knownWord 20 rfl) (by decide) (fun c36 => ?_) (fun c36 => ?_)
              · skip
                refine mm_iincL (ls2 := [mR 66, mI (x21_1 + 1)]) C (mm_dec dk_X12_knownWord 23 rfl) rfl (by decide) ⟨by omega, by omega⟩ rfl ?_
                refine mm_goto (tgt := 21) C (mm_dec dk_X12_knownWord 24 rfl) (by decide) ?_
                exact ih21 (x21_1 + 1) ⟨by omega, by omega⟩ (by omega)
              · skip
                exfalso; omega
            · skip
              refine mm_if_ne (tgt := 41) C (mm_dec dk_X12_knownWord 20 rfl) (by decide) (fun c36 => ?_) (fun c36 => ?_)
              · skip
                exfalso; omega
              · skip
                refine mm_iload_n C (mm_dec dk_X12_knownWord 21 rfl) rfl ?_
                exact mm_iret C T (mm_dec dk_X12_knownWord 22 rfl) (by decide : 0 ≤ 0) (by decide : 0 ≤ 0) ⟨_, rfl, ⟨⟨by omega, by omega⟩, rfl, by omega⟩⟩
            · skip
              refine mm_if_ne (tgt := 41) C (mm_dec dk_X12_knownWord 20 rfl) (by decide) (fun c36 => ?_) (fun c36 => ?_)
              · skip
                refine mm_iincL (ls2 := [mR 66, mI (x21_1 + 1)]) C (mm_dec dk_X12_knownWord 23 rfl) rfl (by decide) ⟨by omega, by omega⟩ rfl ?_
                refine mm_goto (tgt := 21) C (mm_dec dk_X12_knownWord 24 rfl) (by decide) ?_
                exact ih21 (x21_1 + 1) ⟨by omega, by omega⟩ (by omega)
              · skip
                exfalso; omega
      refine mm_istore_nL (ls2 := [mR 66, mI 0]) C (mm_dec dk_X12_knownWord 11 rfl) (by decide) rfl ?_
      exact J21 (((19 - 0) : Int) + 1).toNat 0 ⟨by omega, by omega⟩ (by omega)
    · skip
      refine mm_fgt 0 ?_
      exact J17
set_option maxRecDepth 100000 in
set_option maxHeartbeats 4000000 in
theorem c_X12_begins_x (l : Launch) (hl : l.stackTraces = false) (d : Nat) (hd : 1 ≤ d) (h : mH) (i0 : mm_inv h) : mm_Met l d yX12_begins cX12_begins 1 none [mR 66] h (mm_pv fun h2 => mm_inv h2 ∧ mm_fr [(66, 57), (66, 58), (66, 71)] [109] h h2 ∧ (h2.1 66 57 = 0 → h.1 66 57 = 0 ∧ h2.1 66 71 = h.1 66 71 + 1)) mm_nx 0 0 := by
  refine mm_ofW (ls := [mR 66]) hl (by decide) rfl (Nat.le_of_ble_eq_true rfl) ?_
  intro x hxl C T hnm htb
  subst hxl
  have C1 := mm_OK_le (d' := d - 1 + 1) (by omega) C
  have f0 : mm_fr [(66, 57), (66, 58), (66, 71)] [109] h h := mm_fr_rf
  have g1 : -2147483648 ≤ h.1 66 57 ∧ h.1 66 57 ≤ 2147483647 := i0.1 66 57
  have g2 : 0 ≤ h.1 66 71 ∧ h.1 66 71 ≤ 6 := i0.1 66 71
  refine mm_aload_n C (mm_dec dk_X12_begins 0 rfl) rfl ?_
  refine mm_geti C fl_X12_426 (mm_dec dk_X12_begins 1 rfl) rfl rfl (Or.inl rfl) ?_
  refine mm_bipush C (mm_dec dk_X12_begins 2 rfl) ⟨by decide, by decide⟩ ?_
  refine mm_icmp_ge (tgt := 30) C (mm_dec dk_X12_begins 3 rfl) (by decide) (fun c6 => ?_) (fun c6 => ?_)
  · skip
    refine mm_aload_n C (mm_dec dk_X12_begins 17 rfl) rfl ?_
    refine mm_aload_n C (mm_dec dk_X12_begins 18 rfl) rfl ?_
    refine mm_geti C fl_X12_378 (mm_dec dk_X12_begins 19 rfl) rfl rfl (Or.inl rfl) ?_
    have g3 : -2147483648 ≤ (h.1 66 61) ∧ (h.1 66 61) ≤ 2147483647 := i0.1 66 61
    refine mm_iconst C (mm_dec dk_X12_begins 20 rfl) ⟨by decide, by decide⟩ ?_
    have J61 : ∀ (s61_1 : Int) (bs61_1 : 1 ≤ s61_1 ∧ s61_1 ≤ 2) (vs61_1 : ((h.1 66 61) ≠ 2 ∧ (h.1 66 61) ≠ 1 ∧ s61_1 = 1) ∨ (s61_1 = 2)), mm_W x 0 0 61 [mU] [mI s61_1, mR 66] h := by
      intro s61_1 bs61_1 vs61_1
      have g4 : -2147483648 ≤ h.1 66 57 ∧ h.1 66 57 ≤ 2147483647 := i0.1 66 57
      have g5 : 0 ≤ h.1 66 71 ∧ h.1 66 71 ≤ 6 := i0.1 66 71
      refine mm_cVv (rest := []) C1 ev_X12_417 (mm_dec dk_X12_begins 33 rfl) (c_X12_wrong_x x.2.1 hl (d - 1) (by omega) h i0 s61_1 (by omega)) rfl rfl (Nat.le_of_ble_eq_true rfl) ⟨by decide, by decide⟩ rfl (fun h61c hp61 => ?_) (fun _ _ q => q.elim)
      obtain ⟨i61c, g61c, y61_0⟩ := hp61
      have f61c : mm_fr [(66, 57), (66, 58), (66, 71)] [109] h h61c := mm_fr_tr f0 g61c (by decide +kernel)
      have q61c_7 : h61c.1 66 61 = h.1 66 61 := g61c.1 66 61 (by decide)
      have q61c_8 : h61c.1 66 71 = h.1 66 71 := g61c.1 66 71 (by decide)
      have g9 : -2147483648 ≤ (h61c.1 66 57) ∧ (h61c.1 66 57) ≤ 2147483647 := i61c.1 66 57
      exact mm_vret C T (mm_dec dk_X12_begins 34 rfl) (by decide : 0 ≤ 0) (by decide : 0 ≤ 0) ⟨rfl, ⟨i61c, f61c, by omega⟩⟩
    have J56 : mm_W x 0 0 56 [mU] [mR 66] h := by
      have g10 : -2147483648 ≤ h.1 66 57 ∧ h.1 66 57 ≤ 2147483647 := i0.1 66 57
      have g11 : 0 ≤ h.1 66 71 ∧ h.1 66 71 ≤ 6 := i0.1 66 71
      refine mm_iconst C (mm_dec dk_X12_begins 30 rfl) ⟨by decide, by decide⟩ ?_
      refine mm_goto (tgt := 61) C (mm_dec dk_X12_begins 31 rfl) (by decide) ?_
      exact J61 2 ⟨by omega, by omega⟩ (Or.inr (rfl))
    refine mm_icmp_eq (tgt := 56) C (mm_dec dk_X12_begins 21 rfl) (by decide) (fun c36 => ?_) (fun c36 => ?_)
    · skip
      refine mm_fgt 0 ?_
      exact J56
    · skip
      refine mm_aload_n C (mm_dec dk_X12_begins 22 rfl) rfl ?_
      refine mm_geti C fl_X12_378 (mm_dec dk_X12_begins 23 rfl) rfl rfl (Or.inl rfl) ?_
      refine mm_iconst C (mm_dec dk_X12_begins 24 rfl) ⟨by decide, by decide⟩ ?_
      refine mm_icmp_eq (tgt := 56) C (mm_dec dk_X12_begins 25 rfl) (by decide) (fun c44 => ?_) (fun c44 => ?_)
      · skip
        refine mm_fgt 0 ?_
        exact J56
      · skip
        refine mm_aload_n C (mm_dec dk_X12_begins 26 rfl) rfl ?_
        refine mm_bipush C (mm_dec dk_X12_begins 27 rfl) ⟨by decide, by decide⟩ ?_
        refine mm_cVi (rest := [mR 66]) C1 ev_X12_429 (mm_dec dk_X12_begins 28 rfl) (c_X12_isSign x.2.1 hl (d - 1) (by omega) h i0 40) rfl rfl (Nat.le_of_ble_eq_true rfl) ⟨by decide, by decide⟩ rfl (fun r50 h50c hp50 => ?_) (fun _ _ q => q.elim)
        obtain ⟨z50, y50⟩ := hp50
        rw [z50]
        have g13 : -2147483648 ≤ (h.1 66 65) ∧ (h.1 66 65) ≤ 2147483647 := i0.1 66 65
        refine mm_if_eq (tgt := 60) C (mm_dec dk_X12_begins 29 rfl) (by decide) (fun c53 => ?_) (fun c53 => ?_)
        · skip
          refine mm_iconst C (mm_dec dk_X12_begins 32 rfl) ⟨by decide, by decide⟩ ?_
          refine mm_fgt 0 ?_
          exact J61 1 ⟨by omega, by omega⟩ (Or.inl ⟨by omega, by omega, rfl⟩)
        · skip
          refine mm_fgt 0 ?_
          exact J56
  · skip
    refine mm_aload_n C (mm_dec dk_X12_begins 4 rfl) rfl ?_
    refine mm_dup C (mm_dec dk_X12_begins 5 rfl) (show (2 : Nat) ≠ 1 by decide) ?_
    refine mm_geti C fl_X12_426 (mm_dec dk_X12_begins 6 rfl) rfl rfl (Or.inl rfl) ?_
    refine mm_iconst C (mm_dec dk_X12_begins 7 rfl) ⟨by decide, by decide⟩ ?_
    refine mm_iadd C (mm_dec dk_X12_begins 8 rfl) ⟨by omega, by omega⟩ ?_
    refine mm_puti C fl_X12_426 (mm_dec dk_X12_begins 9 rfl) rfl rfl rfl (Or.inl ⟨rfl, rfl⟩) ?_
    have i2 : mm_inv (mm_pf h 66 71 ((h.1 66 71) + 1)) := mm_inv_pf i0 (show 0 ≤ ((h.1 66 71) + 1) ∧ ((h.1 66 71) + 1) ≤ 6 from ⟨by omega, by omega⟩) (by decide)
    have f2 : mm_fr [(66, 57), (66, 58), (66, 71)] [109] h (mm_pf h 66 71 ((h.1 66 71) + 1)) := mm_fr_pf f0 (by decide)
    obtain ⟨h2, eh2⟩ : ∃ z, z = mm_pf h 66 71 ((h.1 66 71) + 1) := ⟨_, rfl⟩
    rw [← eh2] at i2 f2 ⊢
    have qh2 : h2.1 66 71 = ((h.1 66 71) + 1) := by rw [eh2]; exact mm_pf_same _ _ _ _
    have qh2_14 : h2.1 66 57 = h.1 66 57 := by rw [eh2]; exact mm_pf_ne _ _ (by decide)
    refine mm_aload_n C (mm_dec dk_X12_begins 10 rfl) rfl ?_
    refine mm_getr (t := 109) C fl_X12_138 (mm_dec dk_X12_begins 11 rfl) rfl rfl (mm_ref i2 rfl) ?_
    refine mm_aload_n C (mm_dec dk_X12_begins 12 rfl) rfl ?_
    refine mm_geti C fl_X12_426 (mm_dec dk_X12_begins 13 rfl) rfl rfl (Or.inl rfl) ?_
    refine mm_iconst C (mm_dec dk_X12_begins 14 rfl) ⟨by decide, by decide⟩ ?_
    refine mm_zast C (mm_dec dk_X12_begins 15 rfl) rfl (by omega) (by omega) (by omega) ?_
    have i3 : mm_inv (mm_pa h2 109 (h2.1 66 71) 0) := mm_inv_pa i2 (show 0 ≤ 0 ∧ 0 ≤ 1 from ⟨by omega, by omega⟩)
    have f3 : mm_fr [(66, 57), (66, 58), (66, 71)] [109] h (mm_pa h2 109 (h2.1 66 71) 0) := mm_fr_pa f2 (by decide)
    obtain ⟨h3, eh3⟩ : ∃ z, z = mm_pa h2 109 (h2.1 66 71) 0 := ⟨_, rfl⟩
    rw [← eh3] at i3 f3 ⊢
    have qh3_15 : h3.1 66 57 = h2.1 66 57 := by rw [eh3]; rfl
    have qh3_16 : h3.1 66 71 = h2.1 66 71 := by rw [eh3]; rfl
    exact mm_vret C T (mm_dec dk_X12_begins 16 rfl) (by decide : 0 ≤ 0) (by decide : 0 ≤ 0) ⟨rfl, ⟨i3, f3, by omega⟩⟩
set_option maxRecDepth 100000 in
set_option maxHeartbeats 4000000 in
theorem c_X12_drops (l : Launch) (hl : l.stackTraces = false) (d : Nat) (hd : 1 ≤ d) (h : mH) (i0 : mm_inv h) (p1 : Int) (t0 : h.1 66 69 + h.1 66 70 ≤ 2400) (t1 : h.1 66 70 ≤ 519) : mm_Met l d yX12_drops cX12_drops 2 none [mR 66, mI p1] h (mm_pv fun h2 => mm_inv h2 ∧ mm_fr [(66, 69), (66, 70)] [107] h h2 ∧ mm_dr h h2 ∧ (0 < p1 ∨ h2.1 66 70 = 0 ∨ h2.2.1 108 (h2.1 66 70 - 1) = 13)) mm_nx 0 0 := by
  refine mm_ofW (ls := [mR 66, mI p1]) hl (by decide) rfl (Nat.le_of_ble_eq_true rfl) ?_
  intro x hxl C T hnm htb
  subst hxl
  have C1 := mm_OK_le (d' := d - 1 + 1) (by omega) C
  refine mm_rng (fun hr _ => ?_)
  have ap1 : -2147483648 ≤ p1 ∧ p1 < 2147483648 := mm_ok_at hr (i := 1) rfl
  have f0 : mm_fr [(66, 69), (66, 70)] [107] h h := mm_fr_rf
  have g1 : 0 ≤ h.1 66 69 ∧ h.1 66 69 ≤ 2400 := i0.1 66 69
  have g2 : 0 ≤ h.1 66 70 ∧ h.1 66 70 ≤ 520 := i0.1 66 70
  have g3 : 0 ≤ h.1 66 62 ∧ h.1 66 62 ≤ 500 := i0.1 66 62
  have g4 : -2147483648 ≤ h.1 66 57 ∧ h.1 66 57 ≤ 2147483647 := i0.1 66 57
  have J0 : ∀ (n : Nat) (h0_ : mH) (i0_ : mm_inv h0_) (f0_ : mm_fr [(66, 69), (66, 70)] [107] h h0_) (w0_0 : mm_dr h h0_) (w0_1 : h0_.1 66 70 ≤ 519), (h0_.1 66 70 : Int) < n → mm_W x 0 0 0 [mR 66, mI p1] [] h0_ := by
    intro n
    induction n with
    | zero =>
      intro h0_ i0_ f0_ w0_0 w0_1 hm
      have g5 : 0 ≤ h0_.1 66 69 ∧ h0_.1 66 69 ≤ 2400 := i0_.1 66 69
      have g6 : 0 ≤ h0_.1 66 70 ∧ h0_.1 66 70 ≤ 520 := i0_.1 66 70
      have g7 : 0 ≤ h0_.1 66 62 ∧ h0_.1 66 62 ≤ 500 := i0_.1 66 62
      have g8 : -2147483648 ≤ h0_.1 66 57 ∧ h0_.1 66 57 ≤ 2147483647 := i0_.1 66 57
      exfalso; omega
    | succ n ih0 =>
      intro h0_ i0_ f0_ w0_0 w0_1 hm0
      have g9 : 0 ≤ h0_.1 66 69 ∧ h0_.1 66 69 ≤ 2400 := i0_.1 66 69
      have g10 : 0 ≤ h0_.1 66 70 ∧ h0_.1 66 70 ≤ 520 := i0_.1 66 70
      have g11 : 0 ≤ h0_.1 66 62 ∧ h0_.1 66 62 ≤ 500 := i0_.1 66 62
      have g12 : -2147483648 ≤ h0_.1 66 57 ∧ h0_.1 66 57 ≤ 2147483647 := i0_.1 66 57
      have g13 : h0_.1 66 62 = h.1 66 62 := f0_.1 66 62 (by decide)
      have g14 : h0_.1 66 57 = h.1 66 57 := f0_.1 66 57 (by decide)
      refine mm_aload_n C (mm_dec dk_X12_drops 0 rfl) rfl ?_
      refine mm_geti C fl_X12_404 (mm_dec dk_X12_drops 1 rfl) rfl rfl (Or.inl rfl) ?_
      have J67 : ∀ (w67_0 : mm_dr h h0_) (w67_1 : (0 < p1 ∨ h0_.1 66 70 = 0 ∨ h0_.2.1 108 (h0_.1 66 70 - 1) = 13)), mm_W x 0 0 67 [mU, mU] [] h0_ := by
        intro w67_0 w67_1
        have g15 : 0 ≤ h0_.1 66 69 ∧ h0_.1 66 69 ≤ 2400 := i0_.1 66 69
        have g16 : 0 ≤ h0_.1 66 70 ∧ h0_.1 66 70 ≤ 520 := i0_.1 66 70
        have g17 : 0 ≤ h0_.1 66 62 ∧ h0_.1 66 62 ≤ 500 := i0_.1 66 62
        have g18 : -2147483648 ≤ h0_.1 66 57 ∧ h0_.1 66 57 ≤ 2147483647 := i0_.1 66 57
        exact mm_vret C T (mm_dec dk_X12_drops 36 rfl) (by decide : 0 ≤ 0) (by decide : 0 ≤ 0) ⟨rfl, ⟨i0_, f0_, by exact w67_0, by exact w67_1⟩⟩
      refine mm_if_le (tgt := 67) C (mm_dec dk_X12_drops 2 rfl) (by decide) (fun c4 => ?_) (fun c4 => ?_)
      · skip
        refine mm_fgt 0 ?_
        refine mm_fgt 1 ?_
        exact J67 (by exact w0_0) (by omega)
      · skip
        have zs := w0_0.2.1
        refine mm_aload_n C (mm_dec dk_X12_drops 3 rfl) rfl ?_
        refine mm_getr (t := 108) C fl_X12_135 (mm_dec dk_X12_drops 4 rfl) rfl rfl (mm_ref i0_ rfl) ?_
        refine mm_aload_n C (mm_dec dk_X12_drops 5 rfl) rfl ?_
        refine mm_geti C fl_X12_404 (mm_dec dk_X12_drops 6 rfl) rfl rfl (Or.inl rfl) ?_
        refine mm_iconst C (mm_dec dk_X12_drops 7 rfl) ⟨by decide, by decide⟩ ?_
        refine mm_isub C (mm_dec dk_X12_drops 8 rfl) ⟨by omega, by omega⟩ ?_
        refine mm_iald C (mm_dec dk_X12_drops 9 rfl) rfl (by omega) (by omega) ?_
        have g19 : -2147483648 ≤ (h0_.2.1 108 ((h0_.1 66 70) - 1)) ∧ (h0_.2.1 108 ((h0_.1 66 70) - 1)) ≤ 2147483647 := i0_.2.1 108 ((h0_.1 66 70) - 1)
        refine mm_bipush C (mm_dec dk_X12_drops 10 rfl) ⟨by decide, by decide⟩ ?_
        refine mm_icmp_eq (tgt := 67) C (mm_dec dk_X12_drops 11 rfl) (by decide) (fun c20 => ?_) (fun c20 => ?_)
        · skip
          refine mm_fgt 0 ?_
          refine mm_fgt 1 ?_
          exact J67 (by exact w0_0) (by omega)
        · skip
          refine mm_aload_n C (mm_dec dk_X12_drops 12 rfl) rfl ?_
          refine mm_getr (t := 108) C fl_X12_135 (mm_dec dk_X12_drops 13 rfl) rfl rfl (mm_ref i0_ rfl) ?_
          refine mm_aload_n C (mm_dec dk_X12_drops 14 rfl) rfl ?_
          refine mm_geti C fl_X12_404 (mm_dec dk_X12_drops 15 rfl) rfl rfl (Or.inl rfl) ?_
          refine mm_iconst C (mm_dec dk_X12_drops 16 rfl) ⟨by decide, by decide⟩ ?_
          refine mm_isub C (mm_dec dk_X12_drops 17 rfl) ⟨by omega, by omega⟩ ?_
          refine mm_iald C (mm_dec dk_X12_drops 18 rfl) rfl (by omega) (by omega) ?_
          refine mm_cSi (rest := []) C1 es_X12_407 (mm_dec dk_X12_drops 19 rfl) (c_X12_strength x.2.1 hl (d - 1) (by omega) h0_ i0_ (h0_.2.1 108 ((h0_.1 66 70) - 1))) rfl (Nat.le_of_ble_eq_true rfl) ⟨by decide, by decide⟩ rfl (fun r34 h34c hp34 => ?_) (fun _ _ q => q.elim)
          obtain ⟨z34, y34⟩ := hp34
          rw [z34]
          refine mm_iload_n C (mm_dec dk_X12_drops 20 rfl) rfl ?_
          refine mm_icmp_lt (tgt := 67) C (mm_dec dk_X12_drops 21 rfl) (by decide) (fun c38 => ?_) (fun c38 => ?_)
          · skip
            refine mm_fgt 0 ?_
            refine mm_fgt 1 ?_
            exact J67 (by exact w0_0) (by omega)
          · skip
            refine mm_aload_n C (mm_dec dk_X12_drops 22 rfl) rfl ?_
            refine mm_dup C (mm_dec dk_X12_drops 23 rfl) (show (2 : Nat) ≠ 1 by decide) ?_
            refine mm_geti C fl_X12_404 (mm_dec dk_X12_drops 24 rfl) rfl rfl (Or.inl rfl) ?_
            refine mm_iconst C (mm_dec dk_X12_drops 25 rfl) ⟨by decide, by decide⟩ ?_
            refine mm_isub C (mm_dec dk_X12_drops 26 rfl) ⟨by omega, by omega⟩ ?_
            refine mm_puti C fl_X12_404 (mm_dec dk_X12_drops 27 rfl) rfl rfl rfl (Or.inl ⟨rfl, rfl⟩) ?_
            have i1 : mm_inv (mm_pf h0_ 66 70 ((h0_.1 66 70) - 1)) := mm_inv_pf i0_ (show 0 ≤ ((h0_.1 66 70) - 1) ∧ ((h0_.1 66 70) - 1) ≤ 520 from ⟨by omega, by omega⟩) (by decide)
            have f1 : mm_fr [(66, 69), (66, 70)] [107] h (mm_pf h0_ 66 70 ((h0_.1 66 70) - 1)) := mm_fr_pf f0_ (by decide)
            obtain ⟨h1, eh1⟩ : ∃ z, z = mm_pf h0_ 66 70 ((h0_.1 66 70) - 1) := ⟨_, rfl⟩
            rw [← eh1] at i1 f1 ⊢
            have qh1 : h1.1 66 70 = ((h0_.1 66 70) - 1) := by rw [eh1]; exact mm_pf_same _ _ _ _
            have qh1_21 : h1.1 66 57 = h0_.1 66 57 := by rw [eh1]; exact mm_pf_ne _ _ (by decide)
            have qh1_22 : h1.1 66 62 = h0_.1 66 62 := by rw [eh1]; exact mm_pf_ne _ _ (by decide)
            have qh1_23 : h1.1 66 69 = h0_.1 66 69 := by rw [eh1]; exact mm_pf_ne _ _ (by decide)
            refine mm_aload_n C (mm_dec dk_X12_drops 28 rfl) rfl ?_
            refine mm_aload_n C (mm_dec dk_X12_drops 29 rfl) rfl ?_
            refine mm_getr (t := 108) C fl_X12_135 (mm_dec dk_X12_drops 30 rfl) rfl rfl (mm_ref i1 rfl) ?_
            refine mm_aload_n C (mm_dec dk_X12_drops 31 rfl) rfl ?_
            refine mm_geti C fl_X12_404 (mm_dec dk_X12_drops 32 rfl) rfl rfl (Or.inl rfl) ?_
            refine mm_iald C (mm_dec dk_X12_drops 33 rfl) rfl (by omega) (by omega) ?_
            have g24 : -2147483648 ≤ (h1.2.1 108 (h1.1 66 70)) ∧ (h1.2.1 108 (h1.1 66 70)) ≤ 2147483647 := i1.2.1 108 (h1.1 66 70)
            refine mm_cVv (rest := []) C1 ev_X12_410 (mm_dec dk_X12_drops 34 rfl) (c_X12_puts_x x.2.1 hl (d - 1) (by omega) h1 i1 (h1.2.1 108 (h1.1 66 70)) (by omega)) rfl rfl (Nat.le_of_ble_eq_true rfl) ⟨by decide, by decide⟩ rfl (fun h61c hp61 => ?_) (fun _ _ q => q.elim)
            obtain ⟨i61c, g61c, y61_0, y61_1⟩ := hp61
            have f61c : mm_fr [(66, 69), (66, 70)] [107] h h61c := mm_fr_tr f1 g61c (by decide +kernel)
            have q61c_26 : h61c.1 66 57 = h1.1 66 57 := g61c.1 66 57 (by decide)
            have q61c_27 : h61c.1 66 62 = h1.1 66 62 := g61c.1 66 62 (by decide)
            have q61c_28 : h61c.1 66 70 = h1.1 66 70 := g61c.1 66 70 (by decide)
            have g29 : 0 ≤ (h61c.1 66 69) ∧ (h61c.1 66 69) ≤ 2400 := i61c.1 66 69
            have zq7 : ∀ j, h61c.2.1 107 j = if j = h0_.1 66 69 then h0_.2.1 108 (h0_.1 66 70 - 1) else h0_.2.1 107 j := fun j => by rw [y61_1 j, qh1, show h1.1 66 69 = h0_.1 66 69 by omega, show h1.2.1 = h0_.2.1 by rw [eh1]; rfl]
            refine mm_goto (tgt := 0) C (mm_dec dk_X12_drops 35 rfl) (by decide) ?_
            exact ih0 h61c i61c f61c (by first | exact mm_dr_rf i0 | exact mm_dr_pop w0_0 i0_ (by omega) (by omega) (by omega) (by omega) zq7 (fun j => by rw [g61c.2 108 (by decide) j, eh1]; rfl) (by omega) (by omega) (by omega) (by omega)) (by omega) (by omega)
  exact J0 (((h.1 66 70) : Int) + 1).toNat h i0 f0 (by first | exact mm_dr_rf i0 | exact mm_dr_pop w0_0 i0_ (by omega) (by omega) (by omega) (by omega) zq7 (fun j => by rw [g61c.2 108 (by decide) j, eh1]; rfl) (by omega) (by omega) (by omega) (by omega)) (by omega) (by omega)
