set_option maxRecDepth 100000 in
set_option maxHeartbeats 4000000 in
theorem c_X12_sets_q (l : Launch) (hl : l.stackTraces = false) (d : Nat) (hd : 3 ≤ d) (h : mH) (i0 : mm_inv h) (p1 : Int) (bp1 : 0 ≤ p1 ∧ p1 ≤ 1) (t0 : mm_tok h) (t1 : h.1 66 57 = 0) (t2 : mm_aY h) : mm_Met l d yX12_sets cX12_sets 3 none [mR 66, mI p1] h (mm_pv fun h2 => mm_inv h2 ∧ mm_fr [(66, 57), (66, 58), (66, 60), (66, 61), (66, 62), (66, 63), (66, 64), (66, 65), (66, 66)] [102] h h2 ∧ mm_tok h2 ∧ h.1 66 62 ≤ h2.1 66 62 ∧ mm_D9 11 p1 h h2 ∧ (h2.1 66 57 ≠ 0 ∨ (h.1 66 57 = 0 ∧ h2.1 66 58 = h.1 66 58)) ∧ mm_DJ9 p1 h h2) mm_nx 0 0 := by
  refine mm_ofW (ls := [mR 66, mI p1, mU]) hl (by decide) rfl (Nat.le_of_ble_eq_true rfl) ?_
  intro x hxl C T hnm htb
  subst hxl
  have C1 := mm_OK_le (d' := d - 1 + 1) (by omega) C
  refine mm_rng (fun hr _ => ?_)
  have ap1 : -2147483648 ≤ p1 ∧ p1 < 2147483648 := mm_ok_at hr (i := 1) rfl
  have f0 : mm_fr [(66, 57), (66, 58), (66, 60), (66, 61), (66, 62), (66, 63), (66, 64), (66, 65), (66, 66)] [102] h h := mm_fr_rf
  have g1 : -2147483648 ≤ h.1 66 57 ∧ h.1 66 57 ≤ 2147483647 := i0.1 66 57
  have g2 : 0 ≤ h.1 66 69 ∧ h.1 66 69 ≤ 2400 := i0.1 66 69
  have g3 : 0 ≤ h.1 66 70 ∧ h.1 66 70 ≤ 520 := i0.1 66 70
  have g4 : 0 ≤ h.1 66 62 ∧ h.1 66 62 ≤ 500 := i0.1 66 62
  have g5 : 0 ≤ h.1 66 60 ∧ h.1 66 60 ≤ 500 := i0.1 66 60
  have g6 : -2147483648 ≤ h.1 66 61 ∧ h.1 66 61 ≤ 2147483647 := i0.1 66 61
  have g7 : 0 ≤ h.1 66 71 ∧ h.1 66 71 ≤ 6 := i0.1 66 71
  have g8 : -2147483648 ≤ h.1 66 58 ∧ h.1 66 58 ≤ 2147483647 := i0.1 66 58
  have g9 : -2147483648 ≤ h.1 66 63 ∧ h.1 66 63 ≤ 2147483647 := i0.1 66 63
  have g10 : -2147483648 ≤ h.1 66 65 ∧ h.1 66 65 ≤ 2147483647 := i0.1 66 65
  have g11 : -2147483648 ≤ h.1 66 64 ∧ h.1 66 64 ≤ 2147483647 := i0.1 66 64
  have zt := t0.1
  have zu := t0.2
  have tf := mm_cY_h t2
  refine mm_aload_n C (mm_dec dk_X12_sets 0 rfl) rfl ?_
  refine mm_cVi (rest := []) C1 ev_X12_419 (mm_dec dk_X12_sets 1 rfl) (c_X12_knownWord_q x.2.1 hl (d - 1) (by omega) h i0 (by first | exact t2 | omega)) rfl rfl (Nat.le_of_ble_eq_true rfl) ⟨by decide, by decide⟩ rfl (fun r1 h1c hp1 => ?_) (fun _ _ q => q.elim)
  obtain ⟨b1, z1, y1_0, y1_1⟩ := hp1
  rw [z1]
  refine mm_istore_nL (ls2 := [mR 66, mI p1, mI r1]) C (mm_dec dk_X12_sets 2 rfl) (by decide) rfl ?_
  refine mm_aload_n C (mm_dec dk_X12_sets 3 rfl) rfl ?_
  refine mm_geti C fl_X12_378 (mm_dec dk_X12_sets 4 rfl) rfl rfl (Or.inl rfl) ?_
  refine mm_iconst C (mm_dec dk_X12_sets 5 rfl) ⟨by decide, by decide⟩ ?_
  have J38 : ∀ (h38_ : mH) (i38_ : mm_inv h38_) (f38_ : mm_fr [(66, 57), (66, 58), (66, 60), (66, 61), (66, 62), (66, 63), (66, 64), (66, 65), (66, 66)] [102] h h38_) (w38_0 : mm_sm h h38_) (w38_1 : (h38_.1 66 57 = 0 → h38_.1 66 61 = 1 ∧ 7 ≤ r1 ∧ r1 ≤ 9)) (w38_2 : mm_eY h h38_) (w38_3 : ((h38_.1 66 57 = 0 ∧ h38_.1 66 58 = h.1 66 58 ∧ 7 ≤ mm_cY h ∧ mm_cY h ≤ 9 ∧ r1 = mm_cY h) ∨ (h38_.1 66 58 = h.1 66 62 ∧ ((18 ≤ mm_cY h ∧ h38_.1 66 57 = 1) ∨ (mm_cY h ≤ 17 ∧ ¬ (7 ≤ mm_cY h ∧ mm_cY h ≤ 9) ∧ h38_.1 66 57 = 3))))) (w38_4 : ∀ j, h38_.2.1 102 j = h.2.1 102 j), mm_W x 0 0 38 [mR 66, mI p1, mI r1] [] h38_ := by
    intro h38_ i38_ f38_ w38_0 w38_1 w38_2 w38_3 w38_4
    have g13 : -2147483648 ≤ h38_.1 66 57 ∧ h38_.1 66 57 ≤ 2147483647 := i38_.1 66 57
    have g14 : 0 ≤ h38_.1 66 69 ∧ h38_.1 66 69 ≤ 2400 := i38_.1 66 69
    have g15 : 0 ≤ h38_.1 66 70 ∧ h38_.1 66 70 ≤ 520 := i38_.1 66 70
    have g16 : 0 ≤ h38_.1 66 62 ∧ h38_.1 66 62 ≤ 500 := i38_.1 66 62
    have g17 : 0 ≤ h38_.1 66 60 ∧ h38_.1 66 60 ≤ 500 := i38_.1 66 60
    have g18 : -2147483648 ≤ h38_.1 66 61 ∧ h38_.1 66 61 ≤ 2147483647 := i38_.1 66 61
    have g19 : 0 ≤ h38_.1 66 71 ∧ h38_.1 66 71 ≤ 6 := i38_.1 66 71
    have g20 : -2147483648 ≤ h38_.1 66 58 ∧ h38_.1 66 58 ≤ 2147483647 := i38_.1 66 58
    have g21 : -2147483648 ≤ h38_.1 66 63 ∧ h38_.1 66 63 ≤ 2147483647 := i38_.1 66 63
    have g22 : -2147483648 ≤ h38_.1 66 65 ∧ h38_.1 66 65 ≤ 2147483647 := i38_.1 66 65
    have g23 : -2147483648 ≤ h38_.1 66 64 ∧ h38_.1 66 64 ≤ 2147483647 := i38_.1 66 64
    have g24 : h38_.1 66 69 = h.1 66 69 := f38_.1 66 69 (by decide)
    have g25 : h38_.1 66 70 = h.1 66 70 := f38_.1 66 70 (by decide)
    have g26 : h38_.1 66 71 = h.1 66 71 := f38_.1 66 71 (by decide)
    have za := w38_0.2.2.1
    have zb := w38_0.2.2.2.1
    have zc := w38_0.2.2.2.2.1
    refine mm_aload_n C (mm_dec dk_X12_sets 20 rfl) rfl ?_
    refine mm_cVi (rest := []) C1 ev_X12_413 (mm_dec dk_X12_sets 21 rfl) (c_X12_isGood x.2.1 hl (d - 1) (by omega) h38_ i38_ ) rfl rfl (Nat.le_of_ble_eq_true rfl) ⟨by decide, by decide⟩ rfl (fun r39 h39c hp39 => ?_) (fun _ _ q => q.elim)
    obtain ⟨z39, y39⟩ := hp39
    rw [z39]
    refine mm_if_ne (tgt := 46) C (mm_dec dk_X12_sets 22 rfl) (by decide) (fun c42 => ?_) (fun c42 => ?_)
    · skip
      refine mm_aload_n C (mm_dec dk_X12_sets 24 rfl) rfl ?_
      refine mm_cVv (rest := []) C1 ev_X12_423 (mm_dec dk_X12_sets 25 rfl) (c_X12_goes_q x.2.1 hl (d - 1) (by omega) h38_ i38_ ) rfl rfl (Nat.le_of_ble_eq_true rfl) ⟨by decide, by decide⟩ rfl (fun h47c hp47 => ?_) (fun _ _ q => q.elim)
      obtain ⟨i47c, g47c, y47_0, y47_1, y47_2, y47_3, y47_4⟩ := hp47
      have f47c : mm_fr [(66, 57), (66, 58), (66, 60), (66, 61), (66, 62), (66, 63), (66, 64), (66, 65), (66, 66)] [102] h h47c := mm_fr_tr f38_ g47c (by decide +kernel)
      have q47c_29 : h47c.1 66 57 = h38_.1 66 57 := g47c.1 66 57 (by decide)
      have q47c_30 : h47c.1 66 58 = h38_.1 66 58 := g47c.1 66 58 (by decide)
      have q47c_31 : h47c.1 66 69 = h38_.1 66 69 := g47c.1 66 69 (by decide)
      have q47c_32 : h47c.1 66 70 = h38_.1 66 70 := g47c.1 66 70 (by decide)
      have q47c_33 : h47c.1 66 71 = h38_.1 66 71 := g47c.1 66 71 (by decide)
      have g34 : 0 ≤ (h47c.1 66 62) ∧ (h47c.1 66 62) ≤ 500 := i47c.1 66 62
      have g35 : 0 ≤ (h47c.1 66 60) ∧ (h47c.1 66 60) ≤ 500 := i47c.1 66 60
      have g36 : -2147483648 ≤ (h47c.1 66 61) ∧ (h47c.1 66 61) ≤ 2147483647 := i47c.1 66 61
      have g37 : -2147483648 ≤ (h47c.1 66 63) ∧ (h47c.1 66 63) ≤ 2147483647 := i47c.1 66 63
      have g38 : -2147483648 ≤ (h47c.1 66 65) ∧ (h47c.1 66 65) ≤ 2147483647 := i47c.1 66 65
      have g39 : -2147483648 ≤ (h47c.1 66 64) ∧ (h47c.1 66 64) ≤ 2147483647 := i47c.1 66 64
      have zs9 := mm_st9_e w38_2 (mm_st9_of (mm_eY_a w38_2 t2) y47_3 y47_4 g47c (by decide))
      have tg := mm_cY_h y47_3
      have zc9 : 7 ≤ mm_cY h ∧ mm_cY h ≤ 9 := by omega
      have z102 : ∀ j, h47c.2.1 102 j = h.2.1 102 j := fun j => (g47c.2 102 (by decide) j).trans (w38_4 j)
      refine mm_aload_n C (mm_dec dk_X12_sets 26 rfl) rfl ?_
      refine mm_geti C fl_X12_378 (mm_dec dk_X12_sets 27 rfl) rfl rfl (Or.inl rfl) ?_
      refine mm_iconst C (mm_dec dk_X12_sets 28 rfl) ⟨by decide, by decide⟩ ?_
      have J79 : ∀ (h79_ : mH) (i79_ : mm_inv h79_) (f79_ : mm_fr [(66, 57), (66, 58), (66, 60), (66, 61), (66, 62), (66, 63), (66, 64), (66, 65), (66, 66)] [102] h h79_) (w79_0 : mm_sm h47c h79_) (w79_1 : mm_eY h47c h79_) (w79_2 : ((h79_.1 66 57 = 0 ∧ h79_.1 66 58 = h.1 66 58 ∧ mm_cY h47c = 18 ∧ h47c.1 66 61 = 2 ∧ h47c.1 66 63 ≤ 5) ∨ (h79_.1 66 58 = h47c.1 66 62 ∧ ((mm_cY h47c = 19 ∧ h79_.1 66 57 = 2) ∨ (mm_cY h47c ≠ 18 ∧ mm_cY h47c ≠ 19 ∧ h79_.1 66 57 = 1))))) (w79_3 : ∀ j, h79_.2.1 102 j = h47c.2.1 102 j), mm_W x 0 0 79 [mR 66, mI p1, mI r1] [] h79_ := by
        intro h79_ i79_ f79_ w79_0 w79_1 w79_2 w79_3
        have g40 : -2147483648 ≤ h79_.1 66 57 ∧ h79_.1 66 57 ≤ 2147483647 := i79_.1 66 57
        have g41 : 0 ≤ h79_.1 66 69 ∧ h79_.1 66 69 ≤ 2400 := i79_.1 66 69
        have g42 : 0 ≤ h79_.1 66 70 ∧ h79_.1 66 70 ≤ 520 := i79_.1 66 70
        have g43 : 0 ≤ h79_.1 66 62 ∧ h79_.1 66 62 ≤ 500 := i79_.1 66 62
        have g44 : 0 ≤ h79_.1 66 60 ∧ h79_.1 66 60 ≤ 500 := i79_.1 66 60
        have g45 : -2147483648 ≤ h79_.1 66 61 ∧ h79_.1 66 61 ≤ 2147483647 := i79_.1 66 61
        have g46 : 0 ≤ h79_.1 66 71 ∧ h79_.1 66 71 ≤ 6 := i79_.1 66 71
        have g47 : -2147483648 ≤ h79_.1 66 58 ∧ h79_.1 66 58 ≤ 2147483647 := i79_.1 66 58
        have g48 : -2147483648 ≤ h79_.1 66 63 ∧ h79_.1 66 63 ≤ 2147483647 := i79_.1 66 63
        have g49 : -2147483648 ≤ h79_.1 66 65 ∧ h79_.1 66 65 ≤ 2147483647 := i79_.1 66 65
        have g50 : -2147483648 ≤ h79_.1 66 64 ∧ h79_.1 66 64 ≤ 2147483647 := i79_.1 66 64
        have g51 : h79_.1 66 69 = h.1 66 69 := f79_.1 66 69 (by decide)
        have g52 : h79_.1 66 70 = h.1 66 70 := f79_.1 66 70 (by decide)
        have g53 : h79_.1 66 71 = h.1 66 71 := f79_.1 66 71 (by decide)
        have zd := w79_0.2.2.1
        have ze := w79_0.2.2.2.1
        have zf := w79_0.2.2.2.2.1
        refine mm_aload_n C (mm_dec dk_X12_sets 41 rfl) rfl ?_
        refine mm_cVi (rest := []) C1 ev_X12_413 (mm_dec dk_X12_sets 42 rfl) (c_X12_isGood x.2.1 hl (d - 1) (by omega) h79_ i79_ ) rfl rfl (Nat.le_of_ble_eq_true rfl) ⟨by decide, by decide⟩ rfl (fun r80 h80c hp80 => ?_) (fun _ _ q => q.elim)
        obtain ⟨z80, y80⟩ := hp80
        rw [z80]
        refine mm_if_ne (tgt := 87) C (mm_dec dk_X12_sets 43 rfl) (by decide) (fun c83 => ?_) (fun c83 => ?_)
        · skip
          refine mm_aload_n C (mm_dec dk_X12_sets 45 rfl) rfl ?_
          refine mm_getr (t := 102) C fl_X12_117 (mm_dec dk_X12_sets 46 rfl) rfl rfl (mm_ref i79_ rfl) ?_
          refine mm_iconst C (mm_dec dk_X12_sets 47 rfl) ⟨by decide, by decide⟩ ?_
          refine mm_iload_n C (mm_dec dk_X12_sets 48 rfl) rfl ?_
          refine mm_imul C (mm_dec dk_X12_sets 49 rfl) ⟨by omega, by omega⟩ ?_
          refine mm_iload_n C (mm_dec dk_X12_sets 50 rfl) rfl ?_
          refine mm_iadd C (mm_dec dk_X12_sets 51 rfl) ⟨by omega, by omega⟩ ?_
          refine mm_bipush C (mm_dec dk_X12_sets 52 rfl) ⟨by decide, by decide⟩ ?_
          refine mm_isub C (mm_dec dk_X12_sets 53 rfl) ⟨by omega, by omega⟩ ?_
          refine mm_aload_n C (mm_dec dk_X12_sets 54 rfl) rfl ?_
          refine mm_geti C fl_X12_372 (mm_dec dk_X12_sets 55 rfl) rfl rfl (Or.inl rfl) ?_
          refine mm_iast C (mm_dec dk_X12_sets 56 rfl) rfl (by omega) (by omega) ?_
          have i2 : mm_inv (mm_pa h79_ 102 (((3 * p1) + r1) - 7) (h79_.1 66 64)) := mm_inv_pa i79_ (show -2147483648 ≤ (h79_.1 66 64) ∧ (h79_.1 66 64) ≤ 2147483647 from ⟨by omega, by omega⟩)
          have f2 : mm_fr [(66, 57), (66, 58), (66, 60), (66, 61), (66, 62), (66, 63), (66, 64), (66, 65), (66, 66)] [102] h (mm_pa h79_ 102 (((3 * p1) + r1) - 7) (h79_.1 66 64)) := mm_fr_pa f79_ (by decide)
          obtain ⟨h2, eh2⟩ : ∃ z, z = mm_pa h79_ 102 (((3 * p1) + r1) - 7) (h79_.1 66 64) := ⟨_, rfl⟩
          rw [← eh2] at i2 f2 ⊢
          have qh2_55 : h2.1 66 57 = h79_.1 66 57 := by rw [eh2]; rfl
          have qh2_56 : h2.1 66 58 = h79_.1 66 58 := by rw [eh2]; rfl
          have qh2_57 : h2.1 66 60 = h79_.1 66 60 := by rw [eh2]; rfl
          have qh2_58 : h2.1 66 61 = h79_.1 66 61 := by rw [eh2]; rfl
          have qh2_59 : h2.1 66 62 = h79_.1 66 62 := by rw [eh2]; rfl
          have qh2_60 : h2.1 66 63 = h79_.1 66 63 := by rw [eh2]; rfl
          have qh2_61 : h2.1 66 64 = h79_.1 66 64 := by rw [eh2]; rfl
          have qh2_62 : h2.1 66 65 = h79_.1 66 65 := by rw [eh2]; rfl
          have qh2_63 : h2.1 66 69 = h79_.1 66 69 := by rw [eh2]; rfl
          have qh2_64 : h2.1 66 70 = h79_.1 66 70 := by rw [eh2]; rfl
          have qh2_65 : h2.1 66 71 = h79_.1 66 71 := by rw [eh2]; rfl
          refine mm_aload_n C (mm_dec dk_X12_sets 57 rfl) rfl ?_
          refine mm_cVv (rest := []) C1 ev_X12_423 (mm_dec dk_X12_sets 58 rfl) (c_X12_goes_q x.2.1 hl (d - 1) (by omega) h2 i2 ) rfl rfl (Nat.le_of_ble_eq_true rfl) ⟨by decide, by decide⟩ rfl (fun h105c hp105 => ?_) (fun _ _ q => q.elim)
          obtain ⟨i105c, g105c, y105_0, y105_1, y105_2, y105_3, y105_4⟩ := hp105
          have f105c : mm_fr [(66, 57), (66, 58), (66, 60), (66, 61), (66, 62), (66, 63), (66, 64), (66, 65), (66, 66)] [102] h h105c := mm_fr_tr f2 g105c (by decide +kernel)
          have q105c_67 : h105c.1 66 57 = h2.1 66 57 := g105c.1 66 57 (by decide)
          have q105c_68 : h105c.1 66 58 = h2.1 66 58 := g105c.1 66 58 (by decide)
          have q105c_69 : h105c.1 66 69 = h2.1 66 69 := g105c.1 66 69 (by decide)
          have q105c_70 : h105c.1 66 70 = h2.1 66 70 := g105c.1 66 70 (by decide)
          have q105c_71 : h105c.1 66 71 = h2.1 66 71 := g105c.1 66 71 (by decide)
          have g72 : 0 ≤ (h105c.1 66 62) ∧ (h105c.1 66 62) ≤ 500 := i105c.1 66 62
          have g73 : 0 ≤ (h105c.1 66 60) ∧ (h105c.1 66 60) ≤ 500 := i105c.1 66 60
          have g74 : -2147483648 ≤ (h105c.1 66 61) ∧ (h105c.1 66 61) ≤ 2147483647 := i105c.1 66 61
          have g75 : -2147483648 ≤ (h105c.1 66 63) ∧ (h105c.1 66 63) ≤ 2147483647 := i105c.1 66 63
          have g76 : -2147483648 ≤ (h105c.1 66 65) ∧ (h105c.1 66 65) ≤ 2147483647 := i105c.1 66 65
          have g77 : -2147483648 ≤ (h105c.1 66 64) ∧ (h105c.1 66 64) ≤ 2147483647 := i105c.1 66 64
          exact mm_vret C T (mm_dec dk_X12_sets 59 rfl) (by decide : 0 ≤ 0) (by decide : 0 ≤ 0) ⟨rfl, ⟨i105c, f105c, by unfold mm_tok; omega, by omega, by first | exact mm_D9_1 t2 w38_2 (mm_ot_rf w38_4) (by omega) (by omega) | exact mm_D9_2 zc9 zs9 w79_1 (mm_ot_rf (fun j => (w79_3 j).trans (z102 j))) (by omega) (by omega) | exact mm_D9_3 zc9 zs9 (by omega) (by omega) (mm_eY_tr w79_1 (mm_eY_pa eh2 (by decide))) z102 (mm_up_pav w79_3 eh2 (fun _ => rfl) (by omega) rfl rfl) (((mm_eY_a w79_1 y47_3).2.2.2.2.1 (by have e1 := w79_1.2.2.1; omega) (by have e3 := w79_1.2.2.2.2.1; omega)).trans (mm_eY_tv w79_1)) (mm_st9_of (mm_eY_a (mm_eY_tr w79_1 (mm_eY_pa eh2 (by decide))) y47_3) y105_3 y105_4 g105c (by decide)) (g105c.2 102 (by decide)), by omega, by first | exact fun q => absurd q (by omega) | exact mm_DJ9_3 zc9 zs9 (by omega) (mm_eY_tr w79_1 (mm_eY_pa eh2 (by decide))) z102 (mm_up_pav w79_3 eh2 (fun _ => rfl) (by omega) rfl rfl) (((mm_eY_a w79_1 y47_3).2.2.2.2.1 (by have e1 := w79_1.2.2.1; omega) (by have e3 := w79_1.2.2.2.2.1; omega)).trans (mm_eY_tv w79_1)) (mm_st9_of (mm_eY_a (mm_eY_tr w79_1 (mm_eY_pa eh2 (by decide))) y47_3) y105_3 y105_4 g105c (by decide)) (g105c.2 102 (by decide))⟩⟩
        · skip
          exact mm_vret C T (mm_dec dk_X12_sets 44 rfl) (by decide : 0 ≤ 0) (by decide : 0 ≤ 0) ⟨rfl, ⟨i79_, f79_, by unfold mm_tok; omega, by omega, by first | exact mm_D9_1 t2 w38_2 (mm_ot_rf w38_4) (by omega) (by omega) | exact mm_D9_2 zc9 zs9 w79_1 (mm_ot_rf (fun j => (w79_3 j).trans (z102 j))) (by omega) (by omega) | exact mm_D9_3 zc9 zs9 (by omega) (by omega) (mm_eY_tr w79_1 (mm_eY_pa eh2 (by decide))) z102 (mm_up_pav w79_3 eh2 (fun _ => rfl) (by omega) rfl rfl) (((mm_eY_a w79_1 y47_3).2.2.2.2.1 (by have e1 := w79_1.2.2.1; omega) (by have e3 := w79_1.2.2.2.2.1; omega)).trans (mm_eY_tv w79_1)) (mm_st9_of (mm_eY_a (mm_eY_tr w79_1 (mm_eY_pa eh2 (by decide))) y47_3) y105_3 y105_4 g105c (by decide)) (g105c.2 102 (by decide)), by omega, by first | exact fun q => absurd q (by omega) | exact mm_DJ9_3 zc9 zs9 (by omega) (mm_eY_tr w79_1 (mm_eY_pa eh2 (by decide))) z102 (mm_up_pav w79_3 eh2 (fun _ => rfl) (by omega) rfl rfl) (((mm_eY_a w79_1 y47_3).2.2.2.2.1 (by have e1 := w79_1.2.2.1; omega) (by have e3 := w79_1.2.2.2.2.1; omega)).trans (mm_eY_tv w79_1)) (mm_st9_of (mm_eY_a (mm_eY_tr w79_1 (mm_eY_pa eh2 (by decide))) y47_3) y105_3 y105_4 g105c (by decide)) (g105c.2 102 (by decide))⟩⟩
      refine mm_icmp_eq (tgt := 66) C (mm_dec dk_X12_sets 29 rfl) (by decide) (fun c55 => ?_) (fun c55 => ?_)
      · skip
        refine mm_aload_n C (mm_dec dk_X12_sets 34 rfl) rfl ?_
        refine mm_geti C fl_X12_387 (mm_dec dk_X12_sets 35 rfl) rfl rfl (Or.inl rfl) ?_
        refine mm_iconst C (mm_dec dk_X12_sets 36 rfl) ⟨by decide, by decide⟩ ?_
        refine mm_icmp_le (tgt := 79) C (mm_dec dk_X12_sets 37 rfl) (by decide) (fun c71 => ?_) (fun c71 => ?_)
        · skip
          exact J79 h47c i47c f47c (by first | exact mm_sm_rf | exact mm_sm_fr g60c (by decide) | exact mm_sm_fr g76c (by decide)) (by first | exact mm_eY_rf | exact mm_eY_fr g60c (by decide) | exact mm_eY_fr g76c (by decide)) (by have zz := mm_hd9x tg; omega) (by first | exact fun _ => rfl | exact g60c.2 102 (by decide) | exact g76c.2 102 (by decide))
        · skip
          refine mm_aload_n C (mm_dec dk_X12_sets 38 rfl) rfl ?_
          refine mm_iconst C (mm_dec dk_X12_sets 39 rfl) ⟨by decide, by decide⟩ ?_
          refine mm_cVv (rest := []) C1 ev_X12_417 (mm_dec dk_X12_sets 40 rfl) (c_X12_wrong_q x.2.1 hl (d - 1) (by omega) h47c i47c 2 (by omega)) rfl rfl (Nat.le_of_ble_eq_true rfl) ⟨by decide, by decide⟩ rfl (fun h76c hp76 => ?_) (fun _ _ q => q.elim)
          obtain ⟨i76c, g76c, y76_0, y76_1⟩ := hp76
          have f76c : mm_fr [(66, 57), (66, 58), (66, 60), (66, 61), (66, 62), (66, 63), (66, 64), (66, 65), (66, 66)] [102] h h76c := mm_fr_tr f47c g76c (by decide +kernel)
          have q76c_79 : h76c.1 66 60 = h47c.1 66 60 := g76c.1 66 60 (by decide)
          have q76c_80 : h76c.1 66 61 = h47c.1 66 61 := g76c.1 66 61 (by decide)
          have q76c_81 : h76c.1 66 62 = h47c.1 66 62 := g76c.1 66 62 (by decide)
          have q76c_82 : h76c.1 66 63 = h47c.1 66 63 := g76c.1 66 63 (by decide)
          have q76c_83 : h76c.1 66 64 = h47c.1 66 64 := g76c.1 66 64 (by decide)
          have q76c_84 : h76c.1 66 65 = h47c.1 66 65 := g76c.1 66 65 (by decide)
          have q76c_85 : h76c.1 66 69 = h47c.1 66 69 := g76c.1 66 69 (by decide)
          have q76c_86 : h76c.1 66 70 = h47c.1 66 70 := g76c.1 66 70 (by decide)
          have q76c_87 : h76c.1 66 71 = h47c.1 66 71 := g76c.1 66 71 (by decide)
          have g88 : -2147483648 ≤ (h76c.1 66 57) ∧ (h76c.1 66 57) ≤ 2147483647 := i76c.1 66 57
          have g89 : -2147483648 ≤ (h76c.1 66 58) ∧ (h76c.1 66 58) ≤ 2147483647 := i76c.1 66 58
          exact J79 h76c i76c f76c (by first | exact mm_sm_rf | exact mm_sm_fr g60c (by decide) | exact mm_sm_fr g76c (by decide)) (by first | exact mm_eY_rf | exact mm_eY_fr g60c (by decide) | exact mm_eY_fr g76c (by decide)) (by have zz := mm_hd9x tg; omega) (by first | exact fun _ => rfl | exact g60c.2 102 (by decide) | exact g76c.2 102 (by decide))
      · skip
        refine mm_aload_n C (mm_dec dk_X12_sets 30 rfl) rfl ?_
        refine mm_iconst C (mm_dec dk_X12_sets 31 rfl) ⟨by decide, by decide⟩ ?_
        refine mm_cVv (rest := []) C1 ev_X12_417 (mm_dec dk_X12_sets 32 rfl) (c_X12_wrong_q x.2.1 hl (d - 1) (by omega) h47c i47c 1 (by omega)) rfl rfl (Nat.le_of_ble_eq_true rfl) ⟨by decide, by decide⟩ rfl (fun h60c hp60 => ?_) (fun _ _ q => q.elim)
        obtain ⟨i60c, g60c, y60_0, y60_1⟩ := hp60
        have f60c : mm_fr [(66, 57), (66, 58), (66, 60), (66, 61), (66, 62), (66, 63), (66, 64), (66, 65), (66, 66)] [102] h h60c := mm_fr_tr f47c g60c (by decide +kernel)
        have q60c_91 : h60c.1 66 60 = h47c.1 66 60 := g60c.1 66 60 (by decide)
        have q60c_92 : h60c.1 66 61 = h47c.1 66 61 := g60c.1 66 61 (by decide)
        have q60c_93 : h60c.1 66 62 = h47c.1 66 62 := g60c.1 66 62 (by decide)
        have q60c_94 : h60c.1 66 63 = h47c.1 66 63 := g60c.1 66 63 (by decide)
        have q60c_95 : h60c.1 66 64 = h47c.1 66 64 := g60c.1 66 64 (by decide)
        have q60c_96 : h60c.1 66 65 = h47c.1 66 65 := g60c.1 66 65 (by decide)
        have q60c_97 : h60c.1 66 69 = h47c.1 66 69 := g60c.1 66 69 (by decide)
        have q60c_98 : h60c.1 66 70 = h47c.1 66 70 := g60c.1 66 70 (by decide)
        have q60c_99 : h60c.1 66 71 = h47c.1 66 71 := g60c.1 66 71 (by decide)
        have g100 : -2147483648 ≤ (h60c.1 66 57) ∧ (h60c.1 66 57) ≤ 2147483647 := i60c.1 66 57
        have g101 : -2147483648 ≤ (h60c.1 66 58) ∧ (h60c.1 66 58) ≤ 2147483647 := i60c.1 66 58
        refine mm_goto (tgt := 79) C (mm_dec dk_X12_sets 33 rfl) (by decide) ?_
        exact J79 h60c i60c f60c (by first | exact mm_sm_rf | exact mm_sm_fr g60c (by decide) | exact mm_sm_fr g76c (by decide)) (by first | exact mm_eY_rf | exact mm_eY_fr g60c (by decide) | exact mm_eY_fr g76c (by decide)) (by have zz := mm_hd9x tg; omega) (by first | exact fun _ => rfl | exact g60c.2 102 (by decide) | exact g76c.2 102 (by decide))
    · skip
      exact mm_vret C T (mm_dec dk_X12_sets 23 rfl) (by decide : 0 ≤ 0) (by decide : 0 ≤ 0) ⟨rfl, ⟨i38_, f38_, by unfold mm_tok; omega, by omega, by first | exact mm_D9_1 t2 w38_2 (mm_ot_rf w38_4) (by omega) (by omega) | exact mm_D9_2 zc9 zs9 w79_1 (mm_ot_rf (fun j => (w79_3 j).trans (z102 j))) (by omega) (by omega) | exact mm_D9_3 zc9 zs9 (by omega) (by omega) (mm_eY_tr w79_1 (mm_eY_pa eh2 (by decide))) z102 (mm_up_pav w79_3 eh2 (fun _ => rfl) (by omega) rfl rfl) (((mm_eY_a w79_1 y47_3).2.2.2.2.1 (by have e1 := w79_1.2.2.1; omega) (by have e3 := w79_1.2.2.2.2.1; omega)).trans (mm_eY_tv w79_1)) (mm_st9_of (mm_eY_a (mm_eY_tr w79_1 (mm_eY_pa eh2 (by decide))) y47_3) y105_3 y105_4 g105c (by decide)) (g105c.2 102 (by decide)), by omega, by first | exact fun q => absurd q (by omega) | exact mm_DJ9_3 zc9 zs9 (by omega) (mm_eY_tr w79_1 (mm_eY_pa eh2 (by decide))) z102 (mm_up_pav w79_3 eh2 (fun _ => rfl) (by omega) rfl rfl) (((mm_eY_a w79_1 y47_3).2.2.2.2.1 (by have e1 := w79_1.2.2.1; omega) (by have e3 := w79_1.2.2.2.2.1; omega)).trans (mm_eY_tv w79_1)) (mm_st9_of (mm_eY_a (mm_eY_tr w79_1 (mm_eY_pa eh2 (by decide))) y47_3) y105_3 y105_4 g105c (by decide)) (g105c.2 102 (by decide))⟩⟩
  refine mm_icmp_eq (tgt := 21) C (mm_dec dk_X12_sets 6 rfl) (by decide) (fun c10 => ?_) (fun c10 => ?_)
  · skip
    refine mm_iload_n C (mm_dec dk_X12_sets 11 rfl) rfl ?_
    refine mm_bipush C (mm_dec dk_X12_sets 12 rfl) ⟨by decide, by decide⟩ ?_
    have J33 : ∀ (w33_0 : mm_cY h ≤ 17) (w33_1 : ¬ (7 ≤ mm_cY h ∧ mm_cY h ≤ 9)), mm_W x 0 0 33 [mR 66, mI p1, mI r1] [] h := by
      intro w33_0 w33_1
      refine mm_aload_n C (mm_dec dk_X12_sets 17 rfl) rfl ?_
      refine mm_iconst C (mm_dec dk_X12_sets 18 rfl) ⟨by decide, by decide⟩ ?_
      refine mm_cVv (rest := []) C1 ev_X12_417 (mm_dec dk_X12_sets 19 rfl) (c_X12_wrong_q x.2.1 hl (d - 1) (by omega) h i0 3 (by omega)) rfl rfl (Nat.le_of_ble_eq_true rfl) ⟨by decide, by decide⟩ rfl (fun h35c hp35 => ?_) (fun _ _ q => q.elim)
      obtain ⟨i35c, g35c, y35_0, y35_1⟩ := hp35
      have f35c : mm_fr [(66, 57), (66, 58), (66, 60), (66, 61), (66, 62), (66, 63), (66, 64), (66, 65), (66, 66)] [102] h h35c := mm_fr_tr f0 g35c (by decide +kernel)
      have q35c_114 : h35c.1 66 60 = h.1 66 60 := g35c.1 66 60 (by decide)
      have q35c_115 : h35c.1 66 61 = h.1 66 61 := g35c.1 66 61 (by decide)
      have q35c_116 : h35c.1 66 62 = h.1 66 62 := g35c.1 66 62 (by decide)
      have q35c_117 : h35c.1 66 63 = h.1 66 63 := g35c.1 66 63 (by decide)
      have q35c_118 : h35c.1 66 64 = h.1 66 64 := g35c.1 66 64 (by decide)
      have q35c_119 : h35c.1 66 65 = h.1 66 65 := g35c.1 66 65 (by decide)
      have q35c_120 : h35c.1 66 69 = h.1 66 69 := g35c.1 66 69 (by decide)
      have q35c_121 : h35c.1 66 70 = h.1 66 70 := g35c.1 66 70 (by decide)
      have q35c_122 : h35c.1 66 71 = h.1 66 71 := g35c.1 66 71 (by decide)
      have g123 : -2147483648 ≤ (h35c.1 66 57) ∧ (h35c.1 66 57) ≤ 2147483647 := i35c.1 66 57
      have g124 : -2147483648 ≤ (h35c.1 66 58) ∧ (h35c.1 66 58) ≤ 2147483647 := i35c.1 66 58
      exact J38 h35c i35c f35c (by first | exact mm_sm_rf | exact mm_sm_fr g15c (by decide) | exact mm_sm_fr g35c (by decide)) (by omega) (by first | exact mm_eY_rf | exact mm_eY_fr g15c (by decide) | exact mm_eY_fr g35c (by decide)) (by first | (have zk := mm_kw9_x y1_1; have zz := mm_hd9x tf; omega) | (have zz := mm_hd9x tf; omega)) (by first | exact fun _ => rfl | exact g15c.2 102 (by decide) | exact g35c.2 102 (by decide))
    refine mm_icmp_lt (tgt := 33) C (mm_dec dk_X12_sets 13 rfl) (by decide) (fun c24 => ?_) (fun c24 => ?_)
    · skip
      exact J33 (by have zk := mm_kw9_x y1_1; have zz := mm_hd9x tf; omega) (by have zk := mm_kw9_x y1_1; have zz := mm_hd9x tf; omega)
    · skip
      refine mm_iload_n C (mm_dec dk_X12_sets 14 rfl) rfl ?_
      refine mm_bipush C (mm_dec dk_X12_sets 15 rfl) ⟨by decide, by decide⟩ ?_
      refine mm_icmp_lt (tgt := 38) C (mm_dec dk_X12_sets 16 rfl) (by decide) (fun c30 => ?_) (fun c30 => ?_)
      · skip
        exact J38 h i0 f0 (by first | exact mm_sm_rf | exact mm_sm_fr g15c (by decide) | exact mm_sm_fr g35c (by decide)) (by omega) (by first | exact mm_eY_rf | exact mm_eY_fr g15c (by decide) | exact mm_eY_fr g35c (by decide)) (by first | (have zk := mm_kw9_x y1_1; have zz := mm_hd9x tf; omega) | (have zz := mm_hd9x tf; omega)) (by first | exact fun _ => rfl | exact g15c.2 102 (by decide) | exact g35c.2 102 (by decide))
      · skip
        exact J33 (by have zk := mm_kw9_x y1_1; have zz := mm_hd9x tf; omega) (by have zk := mm_kw9_x y1_1; have zz := mm_hd9x tf; omega)
  · skip
    refine mm_aload_n C (mm_dec dk_X12_sets 7 rfl) rfl ?_
    refine mm_iconst C (mm_dec dk_X12_sets 8 rfl) ⟨by decide, by decide⟩ ?_
    refine mm_cVv (rest := []) C1 ev_X12_417 (mm_dec dk_X12_sets 9 rfl) (c_X12_wrong_q x.2.1 hl (d - 1) (by omega) h i0 1 (by omega)) rfl rfl (Nat.le_of_ble_eq_true rfl) ⟨by decide, by decide⟩ rfl (fun h15c hp15 => ?_) (fun _ _ q => q.elim)
    obtain ⟨i15c, g15c, y15_0, y15_1⟩ := hp15
    have f15c : mm_fr [(66, 57), (66, 58), (66, 60), (66, 61), (66, 62), (66, 63), (66, 64), (66, 65), (66, 66)] [102] h h15c := mm_fr_tr f0 g15c (by decide +kernel)
    have q15c_126 : h15c.1 66 60 = h.1 66 60 := g15c.1 66 60 (by decide)
    have q15c_127 : h15c.1 66 61 = h.1 66 61 := g15c.1 66 61 (by decide)
    have q15c_128 : h15c.1 66 62 = h.1 66 62 := g15c.1 66 62 (by decide)
    have q15c_129 : h15c.1 66 63 = h.1 66 63 := g15c.1 66 63 (by decide)
    have q15c_130 : h15c.1 66 64 = h.1 66 64 := g15c.1 66 64 (by decide)
    have q15c_131 : h15c.1 66 65 = h.1 66 65 := g15c.1 66 65 (by decide)
    have q15c_132 : h15c.1 66 69 = h.1 66 69 := g15c.1 66 69 (by decide)
    have q15c_133 : h15c.1 66 70 = h.1 66 70 := g15c.1 66 70 (by decide)
    have q15c_134 : h15c.1 66 71 = h.1 66 71 := g15c.1 66 71 (by decide)
    have g135 : -2147483648 ≤ (h15c.1 66 57) ∧ (h15c.1 66 57) ≤ 2147483647 := i15c.1 66 57
    have g136 : -2147483648 ≤ (h15c.1 66 58) ∧ (h15c.1 66 58) ≤ 2147483647 := i15c.1 66 58
    refine mm_goto (tgt := 38) C (mm_dec dk_X12_sets 10 rfl) (by decide) ?_
    exact J38 h15c i15c f15c (by first | exact mm_sm_rf | exact mm_sm_fr g15c (by decide) | exact mm_sm_fr g35c (by decide)) (by omega) (by first | exact mm_eY_rf | exact mm_eY_fr g15c (by decide) | exact mm_eY_fr g35c (by decide)) (by first | (have zk := mm_kw9_x y1_1; have zz := mm_hd9x tf; omega) | (have zz := mm_hd9x tf; omega)) (by first | exact fun _ => rfl | exact g15c.2 102 (by decide) | exact g35c.2 102 (by decide))
