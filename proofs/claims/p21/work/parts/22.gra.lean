set_option maxRecDepth 100000 in
set_option maxHeartbeats 4000000 in
theorem c_X12_knownWord_q (l : Launch) (hl : l.stackTraces = false) (d : Nat) (hd : 2 ≤ d) (h : mH) (i0 : mm_inv h) (t0 : mm_aY h) : mm_Met l d yX12_knownWord cX12_knownWord 2 (some .int) [mR 66] h (mm_pi fun r h2 => (-1 ≤ r ∧ r ≤ 16) ∧ h2 = h ∧ (r = -1 ∨ h.1 66 61 = 1) ∧ mm_kw9 r (mm_cY h)) mm_nx 0 0 := by
  refine mm_ofW (ls := [mR 66, mU]) hl (by decide) rfl (Nat.le_of_ble_eq_true rfl) ?_
  intro x hxl C T hnm htb
  subst hxl
  have C1 := mm_OK_le (d' := d - 1 + 1) (by omega) C
  have f0 : mm_fr [] [] h h := mm_fr_rf
  have g1 : -2147483648 ≤ h.1 66 61 ∧ h.1 66 61 ≤ 2147483647 := i0.1 66 61
  have g2 : -2147483648 ≤ h.1 66 63 ∧ h.1 66 63 ≤ 2147483647 := i0.1 66 63
  have g3 : -9223372036854775808 ≤ h.1 66 66 ∧ h.1 66 66 ≤ 9223372036854775807 := i0.1 66 66
  have tS := t0.1
  have tT : h.1 66 61 = 1 → mm_tkk (mm_UY h) (h.1 66 59) (h.1 66 62) = 2 := fun q => by unfold mm_so at tS; omega
  have tL := t0.2.2.1
  have tE := t0.2.1
  have tW := t0.2.2.2.2.2
  have tf := mm_cY_h t0
  refine mm_aload_n C (mm_dec dk_X12_knownWord 0 rfl) rfl ?_
  refine mm_geti C fl_X12_378 (mm_dec dk_X12_knownWord 1 rfl) rfl rfl (Or.inl rfl) ?_
  refine mm_iconst C (mm_dec dk_X12_knownWord 2 rfl) ⟨by decide, by decide⟩ ?_
  have J17 : ∀ (w17_0 : (h.1 66 61 ≠ 1 ∨ 8 < h.1 66 63)), mm_W x 0 0 17 [mU, mU] [] h := by
    intro w17_0
    have g4 : -2147483648 ≤ h.1 66 61 ∧ h.1 66 61 ≤ 2147483647 := i0.1 66 61
    have g5 : -2147483648 ≤ h.1 66 63 ∧ h.1 66 63 ≤ 2147483647 := i0.1 66 63
    have g6 : -9223372036854775808 ≤ h.1 66 66 ∧ h.1 66 66 ≤ 9223372036854775807 := i0.1 66 66
    refine mm_iconst C (mm_dec dk_X12_knownWord 8 rfl) ⟨by decide, by decide⟩ ?_
    exact mm_iret C T (mm_dec dk_X12_knownWord 9 rfl) (by decide : 0 ≤ 0) (by decide : 0 ≤ 0) ⟨_, rfl, ⟨⟨by omega, by omega⟩, rfl, by omega, by first | (rcases w17_0 with q | q; (exact mm_kw9_no (by have zz := mm_hd9x tf; omega)); (by_cases q2 : h.1 66 61 = 1; exact mm_kw_long (tT q2) (by omega); exact mm_kw9_no (by have zz := mm_hd9x tf; omega))) | exact mm_kw_hit (tT (by omega)) ⟨by omega, by omega⟩ (by rw [← tE]; exact tE ▸ (mm_kw_at (tT (by omega)) (by omega) (by rw [← tE]; exact tW (by omega) (by omega)) ⟨by omega, by omega⟩).mp zr.symm) | exact mm_kw_none (tT (by omega)) (fun k a b m => w21_0 k a (by omega) ((mm_kw_at (tT (by omega)) (by omega) (by rw [← tE]; exact tW (by omega) (by omega)) ⟨a, b⟩).mpr m).symm)⟩⟩
  refine mm_icmp_ne (tgt := 17) C (mm_dec dk_X12_knownWord 3 rfl) (by decide) (fun c5 => ?_) (fun c5 => ?_)
  · skip
    refine mm_fgt 0 ?_
    exact J17 (by omega)
  · skip
    refine mm_aload_n C (mm_dec dk_X12_knownWord 4 rfl) rfl ?_
    refine mm_geti C fl_X12_387 (mm_dec dk_X12_knownWord 5 rfl) rfl rfl (Or.inl rfl) ?_
    refine mm_bipush C (mm_dec dk_X12_knownWord 6 rfl) ⟨by decide, by decide⟩ ?_
    refine mm_icmp_le (tgt := 19) C (mm_dec dk_X12_knownWord 7 rfl) (by decide) (fun c14 => ?_) (fun c14 => ?_)
    · skip
      refine mm_iconst C (mm_dec dk_X12_knownWord 10 rfl) ⟨by decide, by decide⟩ ?_
      have J21 : ∀ (n : Nat) (x21_1 : Int) (bx21_1 : 0 ≤ x21_1 ∧ x21_1 ≤ 19) (w21_0 : (∀ j, 0 ≤ j → j < x21_1 → h.1 66 66 ≠ mm_ky j)), (19 - x21_1 : Int) < n → mm_W x 0 0 21 [mR 66, mI x21_1] [] h := by
        intro n
        induction n with
        | zero =>
          intro x21_1 bx21_1 w21_0 hm
          have g7 : -2147483648 ≤ h.1 66 61 ∧ h.1 66 61 ≤ 2147483647 := i0.1 66 61
          have g8 : -2147483648 ≤ h.1 66 63 ∧ h.1 66 63 ≤ 2147483647 := i0.1 66 63
          have g9 : -9223372036854775808 ≤ h.1 66 66 ∧ h.1 66 66 ≤ 9223372036854775807 := i0.1 66 66
          exfalso; omega
        | succ n ih21 =>
          intro x21_1 bx21_1 w21_0 hm21
          have g10 : -2147483648 ≤ h.1 66 61 ∧ h.1 66 61 ≤ 2147483647 := i0.1 66 61
          have g11 : -2147483648 ≤ h.1 66 63 ∧ h.1 66 63 ≤ 2147483647 := i0.1 66 63
          have g12 : -9223372036854775808 ≤ h.1 66 66 ∧ h.1 66 66 ≤ 9223372036854775807 := i0.1 66 66
          refine mm_iload_n C (mm_dec dk_X12_knownWord 12 rfl) rfl ?_
          refine mm_bipush C (mm_dec dk_X12_knownWord 13 rfl) ⟨by decide, by decide⟩ ?_
          refine mm_icmp_ge (tgt := 47) C (mm_dec dk_X12_knownWord 14 rfl) (by decide) (fun c24 => ?_) (fun c24 => ?_)
          · skip
            refine mm_iconst C (mm_dec dk_X12_knownWord 25 rfl) ⟨by decide, by decide⟩ ?_
            exact mm_iret C T (mm_dec dk_X12_knownWord 26 rfl) (by decide : 0 ≤ 0) (by decide : 0 ≤ 0) ⟨_, rfl, ⟨⟨by omega, by omega⟩, rfl, by omega, by first | (rcases w17_0 with q | q; (exact mm_kw9_no (by have zz := mm_hd9x tf; omega)); (by_cases q2 : h.1 66 61 = 1; exact mm_kw_long (tT q2) (by omega); exact mm_kw9_no (by have zz := mm_hd9x tf; omega))) | exact mm_kw_hit (tT (by omega)) ⟨by omega, by omega⟩ (by rw [← tE]; exact tE ▸ (mm_kw_at (tT (by omega)) (by omega) (by rw [← tE]; exact tW (by omega) (by omega)) ⟨by omega, by omega⟩).mp zr.symm) | exact mm_kw_none (tT (by omega)) (fun k a b m => w21_0 k a (by omega) ((mm_kw_at (tT (by omega)) (by omega) (by rw [← tE]; exact tW (by omega) (by omega)) ⟨a, b⟩).mpr m).symm)⟩⟩
          · skip
            refine mm_iload_n C (mm_dec dk_X12_knownWord 15 rfl) rfl ?_
            refine mm_cSl (rest := []) C1 es_X12_394 (mm_dec dk_X12_knownWord 16 rfl) (c_X12_known_q x.2.1 hl (d - 1) (by omega) h i0 x21_1 ⟨by omega, by omega⟩) rfl (Nat.le_of_ble_eq_true rfl) ⟨by decide, by decide⟩ rfl (fun r28 h28c hp28 => ?_) (fun _ _ q => q.elim)
            obtain ⟨z28, y28_0⟩ := hp28
            rw [z28]
            refine mm_rng (fun _ ho => ?_)
            have b28 : -9223372036854775808 ≤ r28 ∧ r28 < 9223372036854775808 := mm_ok_hd ho
            refine mm_aload_n C (mm_dec dk_X12_knownWord 17 rfl) rfl ?_
            refine mm_getl C fl_X12_368 (mm_dec dk_X12_knownWord 18 rfl) rfl rfl ?_
            refine mm_lcmp C (mm_dec dk_X12_knownWord 19 rfl) (fun c35 => ?_) (fun c35 => ?_) (fun c35 => ?_)
            · skip
              refine mm_if_ne (tgt := 41) C (mm_dec dk_X12_knownWord 20 rfl) (by decide) (fun c36 => ?_) (fun c36 => ?_)
              · skip
                have zr : h.1 66 66 ≠ mm_ky x21_1 := by have q := y28_0; omega
                refine mm_iincL (ls2 := [mR 66, mI (x21_1 + 1)]) C (mm_dec dk_X12_knownWord 23 rfl) rfl (by decide) ⟨by omega, by omega⟩ rfl ?_
                refine mm_goto (tgt := 21) C (mm_dec dk_X12_knownWord 24 rfl) (by decide) ?_
                exact ih21 (x21_1 + 1) ⟨by omega, by omega⟩ (by first | exact fun j a b => absurd b (by omega) | exact fun j a b => (by by_cases e : j = x21_1; (rw [e]; exact zr); exact w21_0 j a (by omega))) (by omega)
              · skip
                exfalso; omega
            · skip
              refine mm_if_ne (tgt := 41) C (mm_dec dk_X12_knownWord 20 rfl) (by decide) (fun c36 => ?_) (fun c36 => ?_)
              · skip
                exfalso; omega
              · skip
                have zr : h.1 66 66 = mm_ky x21_1 := by have q := y28_0; omega
                refine mm_iload_n C (mm_dec dk_X12_knownWord 21 rfl) rfl ?_
                exact mm_iret C T (mm_dec dk_X12_knownWord 22 rfl) (by decide : 0 ≤ 0) (by decide : 0 ≤ 0) ⟨_, rfl, ⟨⟨by omega, by omega⟩, rfl, by omega, by first | (rcases w17_0 with q | q; (exact mm_kw9_no (by have zz := mm_hd9x tf; omega)); (by_cases q2 : h.1 66 61 = 1; exact mm_kw_long (tT q2) (by omega); exact mm_kw9_no (by have zz := mm_hd9x tf; omega))) | exact mm_kw_hit (tT (by omega)) ⟨by omega, by omega⟩ (by rw [← tE]; exact tE ▸ (mm_kw_at (tT (by omega)) (by omega) (by rw [← tE]; exact tW (by omega) (by omega)) ⟨by omega, by omega⟩).mp zr.symm) | exact mm_kw_none (tT (by omega)) (fun k a b m => w21_0 k a (by omega) ((mm_kw_at (tT (by omega)) (by omega) (by rw [← tE]; exact tW (by omega) (by omega)) ⟨a, b⟩).mpr m).symm)⟩⟩
            · skip
              refine mm_if_ne (tgt := 41) C (mm_dec dk_X12_knownWord 20 rfl) (by decide) (fun c36 => ?_) (fun c36 => ?_)
              · skip
                have zr : h.1 66 66 ≠ mm_ky x21_1 := by have q := y28_0; omega
                refine mm_iincL (ls2 := [mR 66, mI (x21_1 + 1)]) C (mm_dec dk_X12_knownWord 23 rfl) rfl (by decide) ⟨by omega, by omega⟩ rfl ?_
                refine mm_goto (tgt := 21) C (mm_dec dk_X12_knownWord 24 rfl) (by decide) ?_
                exact ih21 (x21_1 + 1) ⟨by omega, by omega⟩ (by first | exact fun j a b => absurd b (by omega) | exact fun j a b => (by by_cases e : j = x21_1; (rw [e]; exact zr); exact w21_0 j a (by omega))) (by omega)
              · skip
                exfalso; omega
      refine mm_istore_nL (ls2 := [mR 66, mI 0]) C (mm_dec dk_X12_knownWord 11 rfl) (by decide) rfl ?_
      exact J21 (((19 - 0) : Int) + 1).toNat 0 ⟨by omega, by omega⟩ (by first | exact fun j a b => absurd b (by omega) | exact fun j a b => (by by_cases e : j = x21_1; (rw [e]; exact zr); exact w21_0 j a (by omega))) (by omega)
    · skip
      refine mm_fgt 0 ?_
      exact J17 (by omega)
set_option maxRecDepth 100000 in
set_option maxHeartbeats 4000000 in
theorem c_X12_wrong_q (l : Launch) (hl : l.stackTraces = false) (d : Nat) (hd : 0 ≤ d) (h : mH) (i0 : mm_inv h) (p1 : Int) (u0 : p1 ≠ 0) : mm_Met l d yX12_wrong cX12_wrong 2 none [mR 66, mI p1] h (mm_pv fun h2 => mm_inv h2 ∧ mm_fr [(66, 57), (66, 58)] [] h h2 ∧ h2.1 66 57 ≠ 0 ∧ ((h.1 66 57 = 0 ∧ h2.1 66 57 = p1 ∧ h2.1 66 58 = h.1 66 62) ∨ (h.1 66 57 ≠ 0 ∧ h2.1 66 57 = h.1 66 57 ∧ h2.1 66 58 = h.1 66 58))) mm_nx 0 0 := by
  refine mm_ofW (ls := [mR 66, mI p1]) hl (by decide) rfl (Nat.le_of_ble_eq_true rfl) ?_
  intro x hxl C T hnm htb
  subst hxl
  refine mm_rng (fun hr _ => ?_)
  have ap1 : -2147483648 ≤ p1 ∧ p1 < 2147483648 := mm_ok_at hr (i := 1) rfl
  have f0 : mm_fr [(66, 57), (66, 58)] [] h h := mm_fr_rf
  have g1 : -2147483648 ≤ h.1 66 57 ∧ h.1 66 57 ≤ 2147483647 := i0.1 66 57
  have g2 : -2147483648 ≤ h.1 66 58 ∧ h.1 66 58 ≤ 2147483647 := i0.1 66 58
  have g3 : 0 ≤ h.1 66 62 ∧ h.1 66 62 ≤ 500 := i0.1 66 62
  refine mm_aload_n C (mm_dec dk_X12_wrong 0 rfl) rfl ?_
  refine mm_geti C fl_X12_398 (mm_dec dk_X12_wrong 1 rfl) rfl rfl (Or.inl rfl) ?_
  refine mm_if_eq (tgt := 8) C (mm_dec dk_X12_wrong 2 rfl) (by decide) (fun c4 => ?_) (fun c4 => ?_)
  · skip
    refine mm_aload_n C (mm_dec dk_X12_wrong 4 rfl) rfl ?_
    refine mm_iload_n C (mm_dec dk_X12_wrong 5 rfl) rfl ?_
    refine mm_puti C fl_X12_398 (mm_dec dk_X12_wrong 6 rfl) rfl rfl rfl (Or.inl ⟨rfl, rfl⟩) ?_
    have i1 : mm_inv (mm_pf h 66 57 p1) := mm_inv_pf i0 (show -2147483648 ≤ p1 ∧ p1 ≤ 2147483647 from ⟨by omega, by omega⟩) (by decide)
    have f1 : mm_fr [(66, 57), (66, 58)] [] h (mm_pf h 66 57 p1) := mm_fr_pf f0 (by decide)
    obtain ⟨h1, eh1⟩ : ∃ z, z = mm_pf h 66 57 p1 := ⟨_, rfl⟩
    rw [← eh1] at i1 f1 ⊢
    have qh1 : h1.1 66 57 = p1 := by rw [eh1]; exact mm_pf_same _ _ _ _
    have qh1_4 : h1.1 66 58 = h.1 66 58 := by rw [eh1]; exact mm_pf_ne _ _ (by decide)
    have qh1_5 : h1.1 66 62 = h.1 66 62 := by rw [eh1]; exact mm_pf_ne _ _ (by decide)
    refine mm_aload_n C (mm_dec dk_X12_wrong 7 rfl) rfl ?_
    refine mm_aload_n C (mm_dec dk_X12_wrong 8 rfl) rfl ?_
    refine mm_geti C fl_X12_365 (mm_dec dk_X12_wrong 9 rfl) rfl rfl (Or.inl rfl) ?_
    refine mm_puti C fl_X12_237 (mm_dec dk_X12_wrong 10 rfl) rfl rfl rfl (Or.inl ⟨rfl, rfl⟩) ?_
    have i2 : mm_inv (mm_pf h1 66 58 (h1.1 66 62)) := mm_inv_pf i1 (show -2147483648 ≤ (h1.1 66 62) ∧ (h1.1 66 62) ≤ 2147483647 from ⟨by omega, by omega⟩) (by decide)
    have f2 : mm_fr [(66, 57), (66, 58)] [] h (mm_pf h1 66 58 (h1.1 66 62)) := mm_fr_pf f1 (by decide)
    obtain ⟨h2, eh2⟩ : ∃ z, z = mm_pf h1 66 58 (h1.1 66 62) := ⟨_, rfl⟩
    rw [← eh2] at i2 f2 ⊢
    have qh2 : h2.1 66 58 = (h1.1 66 62) := by rw [eh2]; exact mm_pf_same _ _ _ _
    have qh2_6 : h2.1 66 57 = h1.1 66 57 := by rw [eh2]; exact mm_pf_ne _ _ (by decide)
    have qh2_7 : h2.1 66 62 = h1.1 66 62 := by rw [eh2]; exact mm_pf_ne _ _ (by decide)
    exact mm_vret C T (mm_dec dk_X12_wrong 11 rfl) (by decide : 0 ≤ 0) (by decide : 0 ≤ 0) ⟨rfl, ⟨i2, f2, by omega, by omega⟩⟩
  · skip
    exact mm_vret C T (mm_dec dk_X12_wrong 3 rfl) (by decide : 0 ≤ 0) (by decide : 0 ≤ 0) ⟨rfl, ⟨i0, f0, by omega, by omega⟩⟩
set_option maxRecDepth 100000 in
set_option maxHeartbeats 4000000 in
theorem c_X12_begins_q (l : Launch) (hl : l.stackTraces = false) (d : Nat) (hd : 1 ≤ d) (h : mH) (i0 : mm_inv h) (t0 : mm_aY h) : mm_Met l d yX12_begins cX12_begins 1 none [mR 66] h (mm_pv fun h2 => mm_inv h2 ∧ mm_fr [(66, 57), (66, 58), (66, 71)] [109] h h2 ∧ (h2.1 66 57 = 0 → h.1 66 57 = 0 ∧ h2.1 66 71 = h.1 66 71 + 1) ∧ mm_bg h h2) mm_nx 0 0 := by
  refine mm_ofW (ls := [mR 66]) hl (by decide) rfl (Nat.le_of_ble_eq_true rfl) ?_
  intro x hxl C T hnm htb
  subst hxl
  have C1 := mm_OK_le (d' := d - 1 + 1) (by omega) C
  have f0 : mm_fr [(66, 57), (66, 58), (66, 71)] [109] h h := mm_fr_rf
  have g1 : -2147483648 ≤ h.1 66 57 ∧ h.1 66 57 ≤ 2147483647 := i0.1 66 57
  have g2 : -2147483648 ≤ h.1 66 58 ∧ h.1 66 58 ≤ 2147483647 := i0.1 66 58
  have g3 : 0 ≤ h.1 66 71 ∧ h.1 66 71 ≤ 6 := i0.1 66 71
  have g4 : 0 ≤ h.1 66 62 ∧ h.1 66 62 ≤ 500 := i0.1 66 62
  have tf := mm_cY_h t0
  refine mm_aload_n C (mm_dec dk_X12_begins 0 rfl) rfl ?_
  refine mm_geti C fl_X12_426 (mm_dec dk_X12_begins 1 rfl) rfl rfl (Or.inl rfl) ?_
  refine mm_bipush C (mm_dec dk_X12_begins 2 rfl) ⟨by decide, by decide⟩ ?_
  refine mm_icmp_ge (tgt := 30) C (mm_dec dk_X12_begins 3 rfl) (by decide) (fun c6 => ?_) (fun c6 => ?_)
  · skip
    refine mm_aload_n C (mm_dec dk_X12_begins 17 rfl) rfl ?_
    refine mm_aload_n C (mm_dec dk_X12_begins 18 rfl) rfl ?_
    refine mm_geti C fl_X12_378 (mm_dec dk_X12_begins 19 rfl) rfl rfl (Or.inl rfl) ?_
    have g5 : -2147483648 ≤ (h.1 66 61) ∧ (h.1 66 61) ≤ 2147483647 := i0.1 66 61
    refine mm_iconst C (mm_dec dk_X12_begins 20 rfl) ⟨by decide, by decide⟩ ?_
    have J61 : ∀ (s61_1 : Int) (bs61_1 : 1 ≤ s61_1 ∧ s61_1 ≤ 2) (w61_0 : ((s61_1 = 2 ∧ (mm_cY h ≤ 19 ∨ mm_cY h = 140)) ∨ (s61_1 = 1 ∧ ¬ (mm_cY h ≤ 19 ∨ mm_cY h = 140)))) (vs61_1 : ((h.1 66 61) ≠ 2 ∧ (h.1 66 61) ≠ 1 ∧ s61_1 = 1) ∨ (s61_1 = 2)), mm_W x 0 0 61 [mU] [mI s61_1, mR 66] h := by
      intro s61_1 bs61_1 w61_0 vs61_1
      have g6 : -2147483648 ≤ h.1 66 57 ∧ h.1 66 57 ≤ 2147483647 := i0.1 66 57
      have g7 : -2147483648 ≤ h.1 66 58 ∧ h.1 66 58 ≤ 2147483647 := i0.1 66 58
      have g8 : 0 ≤ h.1 66 71 ∧ h.1 66 71 ≤ 6 := i0.1 66 71
      have g9 : 0 ≤ h.1 66 62 ∧ h.1 66 62 ≤ 500 := i0.1 66 62
      refine mm_cVv (rest := []) C1 ev_X12_417 (mm_dec dk_X12_begins 33 rfl) (c_X12_wrong_q x.2.1 hl (d - 1) (by omega) h i0 s61_1 (by omega)) rfl rfl (Nat.le_of_ble_eq_true rfl) ⟨by decide, by decide⟩ rfl (fun h61c hp61 => ?_) (fun _ _ q => q.elim)
      obtain ⟨i61c, g61c, y61_0, y61_1⟩ := hp61
      have f61c : mm_fr [(66, 57), (66, 58), (66, 71)] [109] h h61c := mm_fr_tr f0 g61c (by decide +kernel)
      have q61c_11 : h61c.1 66 61 = h.1 66 61 := g61c.1 66 61 (by decide)
      have q61c_12 : h61c.1 66 62 = h.1 66 62 := g61c.1 66 62 (by decide)
      have q61c_13 : h61c.1 66 71 = h.1 66 71 := g61c.1 66 71 (by decide)
      have g14 : -2147483648 ≤ (h61c.1 66 57) ∧ (h61c.1 66 57) ≤ 2147483647 := i61c.1 66 57
      have g15 : -2147483648 ≤ (h61c.1 66 58) ∧ (h61c.1 66 58) ≤ 2147483647 := i61c.1 66 58
      exact mm_vret C T (mm_dec dk_X12_begins 34 rfl) (by decide : 0 ≤ 0) (by decide : 0 ≤ 0) ⟨rfl, ⟨i61c, f61c, by omega, by first | exact ⟨mm_eY_tr (mm_eY_pf eh2 (by decide)) (mm_eY_pa eh3 (by decide)), Or.inl ⟨by omega, by omega, ⟨by omega, by omega⟩, mm_up_pav (fun _ => (by rw [eh2]; rfl)) eh3 (fun _ => rfl) (by omega) rfl rfl⟩⟩ | exact ⟨mm_eY_fr g61c (by decide), Or.inr ⟨by omega, by omega, fun q => ⟨by omega, by rcases w61_0 with ⟨u, w⟩ | ⟨u, w⟩; (rw [if_pos w]; omega); (rw [if_neg w]; omega)⟩⟩⟩⟩⟩
    have J56 : ∀ (w56_0 : (mm_cY h ≤ 19 ∨ mm_cY h = 140)), mm_W x 0 0 56 [mU] [mR 66] h := by
      intro w56_0
      have g16 : -2147483648 ≤ h.1 66 57 ∧ h.1 66 57 ≤ 2147483647 := i0.1 66 57
      have g17 : -2147483648 ≤ h.1 66 58 ∧ h.1 66 58 ≤ 2147483647 := i0.1 66 58
      have g18 : 0 ≤ h.1 66 71 ∧ h.1 66 71 ≤ 6 := i0.1 66 71
      have g19 : 0 ≤ h.1 66 62 ∧ h.1 66 62 ≤ 500 := i0.1 66 62
      refine mm_iconst C (mm_dec dk_X12_begins 30 rfl) ⟨by decide, by decide⟩ ?_
      refine mm_goto (tgt := 61) C (mm_dec dk_X12_begins 31 rfl) (by decide) ?_
      exact J61 2 ⟨by omega, by omega⟩ (by have zz := mm_hd9x tf; omega) (Or.inr (rfl))
    refine mm_icmp_eq (tgt := 56) C (mm_dec dk_X12_begins 21 rfl) (by decide) (fun c36 => ?_) (fun c36 => ?_)
    · skip
      refine mm_fgt 0 ?_
      exact J56 (by have zz := mm_hd9x tf; omega)
    · skip
      refine mm_aload_n C (mm_dec dk_X12_begins 22 rfl) rfl ?_
      refine mm_geti C fl_X12_378 (mm_dec dk_X12_begins 23 rfl) rfl rfl (Or.inl rfl) ?_
      refine mm_iconst C (mm_dec dk_X12_begins 24 rfl) ⟨by decide, by decide⟩ ?_
      refine mm_icmp_eq (tgt := 56) C (mm_dec dk_X12_begins 25 rfl) (by decide) (fun c44 => ?_) (fun c44 => ?_)
      · skip
        refine mm_fgt 0 ?_
        exact J56 (by have zz := mm_hd9x tf; omega)
      · skip
        refine mm_aload_n C (mm_dec dk_X12_begins 26 rfl) rfl ?_
        refine mm_bipush C (mm_dec dk_X12_begins 27 rfl) ⟨by decide, by decide⟩ ?_
        refine mm_cVi (rest := [mR 66]) C1 ev_X12_429 (mm_dec dk_X12_begins 28 rfl) (c_X12_isSign x.2.1 hl (d - 1) (by omega) h i0 40) rfl rfl (Nat.le_of_ble_eq_true rfl) ⟨by decide, by decide⟩ rfl (fun r50 h50c hp50 => ?_) (fun _ _ q => q.elim)
        obtain ⟨z50, y50⟩ := hp50
        rw [z50]
        have g21 : -2147483648 ≤ (h.1 66 65) ∧ (h.1 66 65) ≤ 2147483647 := i0.1 66 65
        refine mm_if_eq (tgt := 60) C (mm_dec dk_X12_begins 29 rfl) (by decide) (fun c53 => ?_) (fun c53 => ?_)
        · skip
          refine mm_iconst C (mm_dec dk_X12_begins 32 rfl) ⟨by decide, by decide⟩ ?_
          refine mm_fgt 0 ?_
          exact J61 1 ⟨by omega, by omega⟩ (by have zz := mm_hd9x tf; omega) (Or.inl ⟨by omega, by omega, rfl⟩)
        · skip
          refine mm_fgt 0 ?_
          exact J56 (by have zz := mm_hd9x tf; omega)
  · skip
    refine mm_aload_n C (mm_dec dk_X12_begins 4 rfl) rfl ?_
    refine mm_dup C (mm_dec dk_X12_begins 5 rfl) (show (2 : Nat) ≠ 1 by decide) ?_
    refine mm_geti C fl_X12_426 (mm_dec dk_X12_begins 6 rfl) rfl rfl (Or.inl rfl) ?_
    refine mm_iconst C (mm_dec dk_X12_begins 7 rfl) ⟨by decide, by decide⟩ ?_
    refine mm_iadd C (mm_dec dk_X12_begins 8 rfl) ⟨by omega, by omega⟩ ?_
    refine mm_puti C fl_X12_426 (mm_dec dk_X12_begins 9 rfl) rfl rfl rfl (Or.inl ⟨rfl, rfl⟩) ?_
    have i2 : mm_inv (mm_pf h 66 71 ((h.1 66 71) + 1)) := mm_inv_pf i0 (show 0 ≤ ((h.1 66 71) + 1) ∧ ((h.1 66 71) + 1) ≤ 6 from ⟨by omega, by omega⟩) (by decide)
    have f2 : mm_fr [(66, 57), (66, 58), (66, 71)] [109] h (mm_pf h 66 71 ((h.1 66 71) + 1)) := mm_fr_pf f0 (by decide)
    obtain ⟨h2, eh2⟩ : ∃ z, z = mm_pf h 66 71 ((h.1 66 71) + 1) := ⟨_, rfl⟩
    rw [← eh2] at i2 f2 ⊢
    have qh2 : h2.1 66 71 = ((h.1 66 71) + 1) := by rw [eh2]; exact mm_pf_same _ _ _ _
    have qh2_22 : h2.1 66 57 = h.1 66 57 := by rw [eh2]; exact mm_pf_ne _ _ (by decide)
    have qh2_23 : h2.1 66 58 = h.1 66 58 := by rw [eh2]; exact mm_pf_ne _ _ (by decide)
    have qh2_24 : h2.1 66 62 = h.1 66 62 := by rw [eh2]; exact mm_pf_ne _ _ (by decide)
    refine mm_aload_n C (mm_dec dk_X12_begins 10 rfl) rfl ?_
    refine mm_getr (t := 109) C fl_X12_138 (mm_dec dk_X12_begins 11 rfl) rfl rfl (mm_ref i2 rfl) ?_
    refine mm_aload_n C (mm_dec dk_X12_begins 12 rfl) rfl ?_
    refine mm_geti C fl_X12_426 (mm_dec dk_X12_begins 13 rfl) rfl rfl (Or.inl rfl) ?_
    refine mm_iconst C (mm_dec dk_X12_begins 14 rfl) ⟨by decide, by decide⟩ ?_
    refine mm_zast C (mm_dec dk_X12_begins 15 rfl) rfl (by omega) (by omega) (by omega) ?_
    have i3 : mm_inv (mm_pa h2 109 (h2.1 66 71) 0) := mm_inv_pa i2 (show 0 ≤ 0 ∧ 0 ≤ 1 from ⟨by omega, by omega⟩)
    have f3 : mm_fr [(66, 57), (66, 58), (66, 71)] [109] h (mm_pa h2 109 (h2.1 66 71) 0) := mm_fr_pa f2 (by decide)
    obtain ⟨h3, eh3⟩ : ∃ z, z = mm_pa h2 109 (h2.1 66 71) 0 := ⟨_, rfl⟩
    rw [← eh3] at i3 f3 ⊢
    have qh3_25 : h3.1 66 57 = h2.1 66 57 := by rw [eh3]; rfl
    have qh3_26 : h3.1 66 58 = h2.1 66 58 := by rw [eh3]; rfl
    have qh3_27 : h3.1 66 62 = h2.1 66 62 := by rw [eh3]; rfl
    have qh3_28 : h3.1 66 71 = h2.1 66 71 := by rw [eh3]; rfl
    exact mm_vret C T (mm_dec dk_X12_begins 16 rfl) (by decide : 0 ≤ 0) (by decide : 0 ≤ 0) ⟨rfl, ⟨i3, f3, by omega, by first | exact ⟨mm_eY_tr (mm_eY_pf eh2 (by decide)) (mm_eY_pa eh3 (by decide)), Or.inl ⟨by omega, by omega, ⟨by omega, by omega⟩, mm_up_pav (fun _ => (by rw [eh2]; rfl)) eh3 (fun _ => rfl) (by omega) rfl rfl⟩⟩ | exact ⟨mm_eY_fr g61c (by decide), Or.inr ⟨by omega, by omega, fun q => ⟨by omega, by rcases w61_0 with ⟨u, w⟩ | ⟨u, w⟩; (rw [if_pos w]; omega); (rw [if_neg w]; omega)⟩⟩⟩⟩⟩
