set_option maxRecDepth 100000 in
set_option maxHeartbeats 4000000 in
theorem c_X12_sets (l : Launch) (hl : l.stackTraces = false) (d : Nat) (hd : 3 ≤ d) (h : mH) (i0 : mm_inv h) (p1 : Int) (bp1 : 0 ≤ p1 ∧ p1 ≤ 1) (t0 : mm_tok h) (t1 : h.1 66 57 = 0) : mm_Met l d yX12_sets cX12_sets 3 none [mR 66, mI p1] h (mm_pv fun h2 => mm_inv h2 ∧ mm_fr [(66, 57), (66, 58), (66, 60), (66, 61), (66, 62), (66, 63), (66, 64), (66, 65), (66, 66)] [102] h h2 ∧ mm_tok h2 ∧ h.1 66 62 ≤ h2.1 66 62) mm_nx 0 0 := by
  refine mm_ofW (ls := [mR 66, mI p1, mU]) hl (by decide) rfl (Nat.le_of_ble_eq_true rfl) ?_
  intro x hxl C T hnm htb
  subst hxl
  have C1 := mm_OK_le (d' := d - 1 + 1) (by omega) C
  refine mm_rng (fun hr _ => ?_)
  have ap1 : -2147483648 ≤ p1 ∧ p1 < 2147483648 := mm_ok_at hr (i := 1) rfl
  have f0 : mm_fr [(66, 57), (66, 58), (66, 60), (66, 61), (66, 62), (66, 63), (66, 64), (66, 65), (66, 66)] [102] h h := mm_fr_rf
  have g1 : -2147483648 ≤ h.1 66 57 ∧ h.1 66 57 ≤ 2147483647 := i0.1 66 57
  have g2 : 0 ≤ h.1 66 69 ∧ h.1 66 69 ≤ 2400 := i0.1 66 69
  have g3 : 0 ≤ h.1 66 70 ∧ h.1 66 70 ≤ 520 := i0.1 66 70
  have g4 : 0 ≤ h.1 66 62 ∧ h.1 66 62 ≤ 500 := i0.1 66 62
  have g5 : 0 ≤ h.1 66 60 ∧ h.1 66 60 ≤ 500 := i0.1 66 60
  have g6 : -2147483648 ≤ h.1 66 61 ∧ h.1 66 61 ≤ 2147483647 := i0.1 66 61
  have g7 : 0 ≤ h.1 66 71 ∧ h.1 66 71 ≤ 6 := i0.1 66 71
  have zt := t0.1
  have zu := t0.2
  refine mm_aload_n C (mm_dec dk_X12_sets 0 rfl) rfl ?_
  refine mm_cVi (rest := []) C1 ev_X12_419 (mm_dec dk_X12_sets 1 rfl) (c_X12_knownWord_x x.2.1 hl (d - 1) (by omega) h i0 ) rfl rfl (Nat.le_of_ble_eq_true rfl) ⟨by decide, by decide⟩ rfl (fun r1 h1c hp1 => ?_) (fun _ _ q => q.elim)
  obtain ⟨b1, z1, y1_0⟩ := hp1
  rw [z1]
  refine mm_istore_nL (ls2 := [mR 66, mI p1, mI r1]) C (mm_dec dk_X12_sets 2 rfl) (by decide) rfl ?_
  refine mm_aload_n C (mm_dec dk_X12_sets 3 rfl) rfl ?_
  refine mm_geti C fl_X12_378 (mm_dec dk_X12_sets 4 rfl) rfl rfl (Or.inl rfl) ?_
  refine mm_iconst C (mm_dec dk_X12_sets 5 rfl) ⟨by decide, by decide⟩ ?_
  have J38 : ∀ (h38_ : mH) (i38_ : mm_inv h38_) (f38_ : mm_fr [(66, 57), (66, 58), (66, 60), (66, 61), (66, 62), (66, 63), (66, 64), (66, 65), (66, 66)] [102] h h38_) (w38_0 : mm_sm h h38_) (w38_1 : (h38_.1 66 57 = 0 → h38_.1 66 61 = 1 ∧ 7 ≤ r1 ∧ r1 ≤ 9)), mm_W x 0 0 38 [mR 66, mI p1, mI r1] [] h38_ := by
    intro h38_ i38_ f38_ w38_0 w38_1
    have g9 : -2147483648 ≤ h38_.1 66 57 ∧ h38_.1 66 57 ≤ 2147483647 := i38_.1 66 57
    have g10 : 0 ≤ h38_.1 66 69 ∧ h38_.1 66 69 ≤ 2400 := i38_.1 66 69
    have g11 : 0 ≤ h38_.1 66 70 ∧ h38_.1 66 70 ≤ 520 := i38_.1 66 70
    have g12 : 0 ≤ h38_.1 66 62 ∧ h38_.1 66 62 ≤ 500 := i38_.1 66 62
    have g13 : 0 ≤ h38_.1 66 60 ∧ h38_.1 66 60 ≤ 500 := i38_.1 66 60
    have g14 : -2147483648 ≤ h38_.1 66 61 ∧ h38_.1 66 61 ≤ 2147483647 := i38_.1 66 61
    have g15 : 0 ≤ h38_.1 66 71 ∧ h38_.1 66 71 ≤ 6 := i38_.1 66 71
    have g16 : h38_.1 66 69 = h.1 66 69 := f38_.1 66 69 (by decide)
    have g17 : h38_.1 66 70 = h.1 66 70 := f38_.1 66 70 (by decide)
    have g18 : h38_.1 66 71 = h.1 66 71 := f38_.1 66 71 (by decide)
    have za := w38_0.2.2.1
    have zb := w38_0.2.2.2.1
    have zc := w38_0.2.2.2.2.1
    refine mm_aload_n C (mm_dec dk_X12_sets 20 rfl) rfl ?_
    refine mm_cVi (rest := []) C1 ev_X12_413 (mm_dec dk_X12_sets 21 rfl) (c_X12_isGood x.2.1 hl (d - 1) (by omega) h38_ i38_ ) rfl rfl (Nat.le_of_ble_eq_true rfl) ⟨by decide, by decide⟩ rfl (fun r39 h39c hp39 => ?_) (fun _ _ q => q.elim)
    obtain ⟨z39, y39⟩ := hp39
    rw [z39]
    refine mm_if_ne (tgt := 46) C (mm_dec dk_X12_sets 22 rfl) (by decide) (fun c42 => ?_) (fun c42 => ?_)
    · skip
      refine mm_aload_n C (mm_dec dk_X12_sets 24 rfl) rfl ?_
      refine mm_cVv (rest := []) C1 ev_X12_423 (mm_dec dk_X12_sets 25 rfl) (c_X12_goes x.2.1 hl (d - 1) (by omega) h38_ i38_ ) rfl rfl (Nat.le_of_ble_eq_true rfl) ⟨by decide, by decide⟩ rfl (fun h47c hp47 => ?_) (fun _ _ q => q.elim)
      obtain ⟨i47c, g47c, y47_0, y47_1, y47_2⟩ := hp47
      have f47c : mm_fr [(66, 57), (66, 58), (66, 60), (66, 61), (66, 62), (66, 63), (66, 64), (66, 65), (66, 66)] [102] h h47c := mm_fr_tr f38_ g47c (by decide +kernel)
      have q47c_21 : h47c.1 66 57 = h38_.1 66 57 := g47c.1 66 57 (by decide)
      have q47c_22 : h47c.1 66 69 = h38_.1 66 69 := g47c.1 66 69 (by decide)
      have q47c_23 : h47c.1 66 70 = h38_.1 66 70 := g47c.1 66 70 (by decide)
      have q47c_24 : h47c.1 66 71 = h38_.1 66 71 := g47c.1 66 71 (by decide)
      have g25 : 0 ≤ (h47c.1 66 62) ∧ (h47c.1 66 62) ≤ 500 := i47c.1 66 62
      have g26 : 0 ≤ (h47c.1 66 60) ∧ (h47c.1 66 60) ≤ 500 := i47c.1 66 60
      have g27 : -2147483648 ≤ (h47c.1 66 61) ∧ (h47c.1 66 61) ≤ 2147483647 := i47c.1 66 61
      refine mm_aload_n C (mm_dec dk_X12_sets 26 rfl) rfl ?_
      refine mm_geti C fl_X12_378 (mm_dec dk_X12_sets 27 rfl) rfl rfl (Or.inl rfl) ?_
      refine mm_iconst C (mm_dec dk_X12_sets 28 rfl) ⟨by decide, by decide⟩ ?_
      have J79 : ∀ (h79_ : mH) (i79_ : mm_inv h79_) (f79_ : mm_fr [(66, 57), (66, 58), (66, 60), (66, 61), (66, 62), (66, 63), (66, 64), (66, 65), (66, 66)] [102] h h79_) (w79_0 : mm_sm h47c h79_), mm_W x 0 0 79 [mR 66, mI p1, mI r1] [] h79_ := by
        intro h79_ i79_ f79_ w79_0
        have g28 : -2147483648 ≤ h79_.1 66 57 ∧ h79_.1 66 57 ≤ 2147483647 := i79_.1 66 57
        have g29 : 0 ≤ h79_.1 66 69 ∧ h79_.1 66 69 ≤ 2400 := i79_.1 66 69
        have g30 : 0 ≤ h79_.1 66 70 ∧ h79_.1 66 70 ≤ 520 := i79_.1 66 70
        have g31 : 0 ≤ h79_.1 66 62 ∧ h79_.1 66 62 ≤ 500 := i79_.1 66 62
        have g32 : 0 ≤ h79_.1 66 60 ∧ h79_.1 66 60 ≤ 500 := i79_.1 66 60
        have g33 : -2147483648 ≤ h79_.1 66 61 ∧ h79_.1 66 61 ≤ 2147483647 := i79_.1 66 61
        have g34 : 0 ≤ h79_.1 66 71 ∧ h79_.1 66 71 ≤ 6 := i79_.1 66 71
        have g35 : h79_.1 66 69 = h.1 66 69 := f79_.1 66 69 (by decide)
        have g36 : h79_.1 66 70 = h.1 66 70 := f79_.1 66 70 (by decide)
        have g37 : h79_.1 66 71 = h.1 66 71 := f79_.1 66 71 (by decide)
        have zd := w79_0.2.2.1
        have ze := w79_0.2.2.2.1
        have zf := w79_0.2.2.2.2.1
        refine mm_aload_n C (mm_dec dk_X12_sets 41 rfl) rfl ?_
        refine mm_cVi (rest := []) C1 ev_X12_413 (mm_dec dk_X12_sets 42 rfl) (c_X12_isGood x.2.1 hl (d - 1) (by omega) h79_ i79_ ) rfl rfl (Nat.le_of_ble_eq_true rfl) ⟨by decide, by decide⟩ rfl (fun r80 h80c hp80 => ?_) (fun _ _ q => q.elim)
        obtain ⟨z80, y80⟩ := hp80
        rw [z80]
        refine mm_if_ne (tgt := 87) C (mm_dec dk_X12_sets 43 rfl) (by decide) (fun c83 => ?_) (fun c83 => ?_)
        · skip
          refine mm_aload_n C (mm_dec dk_X12_sets 45 rfl) rfl ?_
          refine mm_getr (t := 102) C fl_X12_117 (mm_dec dk_X12_sets 46 rfl) rfl rfl (mm_ref i79_ rfl) ?_
          refine mm_iconst C (mm_dec dk_X12_sets 47 rfl) ⟨by decide, by decide⟩ ?_
          refine mm_iload_n C (mm_dec dk_X12_sets 48 rfl) rfl ?_
          refine mm_imul C (mm_dec dk_X12_sets 49 rfl) ⟨by omega, by omega⟩ ?_
          refine mm_iload_n C (mm_dec dk_X12_sets 50 rfl) rfl ?_
          refine mm_iadd C (mm_dec dk_X12_sets 51 rfl) ⟨by omega, by omega⟩ ?_
          refine mm_bipush C (mm_dec dk_X12_sets 52 rfl) ⟨by decide, by decide⟩ ?_
          refine mm_isub C (mm_dec dk_X12_sets 53 rfl) ⟨by omega, by omega⟩ ?_
          refine mm_aload_n C (mm_dec dk_X12_sets 54 rfl) rfl ?_
          refine mm_geti C fl_X12_372 (mm_dec dk_X12_sets 55 rfl) rfl rfl (Or.inl rfl) ?_
          have g39 : -2147483648 ≤ (h79_.1 66 64) ∧ (h79_.1 66 64) ≤ 2147483647 := i79_.1 66 64
          refine mm_iast C (mm_dec dk_X12_sets 56 rfl) rfl (by omega) (by omega) ?_
          have i2 : mm_inv (mm_pa h79_ 102 (((3 * p1) + r1) - 7) (h79_.1 66 64)) := mm_inv_pa i79_ (show -2147483648 ≤ (h79_.1 66 64) ∧ (h79_.1 66 64) ≤ 2147483647 from ⟨by omega, by omega⟩)
          have f2 : mm_fr [(66, 57), (66, 58), (66, 60), (66, 61), (66, 62), (66, 63), (66, 64), (66, 65), (66, 66)] [102] h (mm_pa h79_ 102 (((3 * p1) + r1) - 7) (h79_.1 66 64)) := mm_fr_pa f79_ (by decide)
          obtain ⟨h2, eh2⟩ : ∃ z, z = mm_pa h79_ 102 (((3 * p1) + r1) - 7) (h79_.1 66 64) := ⟨_, rfl⟩
          rw [← eh2] at i2 f2 ⊢
          have qh2_40 : h2.1 66 57 = h79_.1 66 57 := by rw [eh2]; rfl
          have qh2_41 : h2.1 66 60 = h79_.1 66 60 := by rw [eh2]; rfl
          have qh2_42 : h2.1 66 61 = h79_.1 66 61 := by rw [eh2]; rfl
          have qh2_43 : h2.1 66 62 = h79_.1 66 62 := by rw [eh2]; rfl
          have qh2_44 : h2.1 66 64 = h79_.1 66 64 := by rw [eh2]; rfl
          have qh2_45 : h2.1 66 69 = h79_.1 66 69 := by rw [eh2]; rfl
          have qh2_46 : h2.1 66 70 = h79_.1 66 70 := by rw [eh2]; rfl
          have qh2_47 : h2.1 66 71 = h79_.1 66 71 := by rw [eh2]; rfl
          refine mm_aload_n C (mm_dec dk_X12_sets 57 rfl) rfl ?_
          refine mm_cVv (rest := []) C1 ev_X12_423 (mm_dec dk_X12_sets 58 rfl) (c_X12_goes x.2.1 hl (d - 1) (by omega) h2 i2 ) rfl rfl (Nat.le_of_ble_eq_true rfl) ⟨by decide, by decide⟩ rfl (fun h105c hp105 => ?_) (fun _ _ q => q.elim)
          obtain ⟨i105c, g105c, y105_0, y105_1, y105_2⟩ := hp105
          have f105c : mm_fr [(66, 57), (66, 58), (66, 60), (66, 61), (66, 62), (66, 63), (66, 64), (66, 65), (66, 66)] [102] h h105c := mm_fr_tr f2 g105c (by decide +kernel)
          have q105c_49 : h105c.1 66 57 = h2.1 66 57 := g105c.1 66 57 (by decide)
          have q105c_50 : h105c.1 66 69 = h2.1 66 69 := g105c.1 66 69 (by decide)
          have q105c_51 : h105c.1 66 70 = h2.1 66 70 := g105c.1 66 70 (by decide)
          have q105c_52 : h105c.1 66 71 = h2.1 66 71 := g105c.1 66 71 (by decide)
          have g53 : 0 ≤ (h105c.1 66 62) ∧ (h105c.1 66 62) ≤ 500 := i105c.1 66 62
          have g54 : 0 ≤ (h105c.1 66 60) ∧ (h105c.1 66 60) ≤ 500 := i105c.1 66 60
          have g55 : -2147483648 ≤ (h105c.1 66 61) ∧ (h105c.1 66 61) ≤ 2147483647 := i105c.1 66 61
          exact mm_vret C T (mm_dec dk_X12_sets 59 rfl) (by decide : 0 ≤ 0) (by decide : 0 ≤ 0) ⟨rfl, ⟨i105c, f105c, by unfold mm_tok; omega, by omega⟩⟩
        · skip
          exact mm_vret C T (mm_dec dk_X12_sets 44 rfl) (by decide : 0 ≤ 0) (by decide : 0 ≤ 0) ⟨rfl, ⟨i79_, f79_, by unfold mm_tok; omega, by omega⟩⟩
      refine mm_icmp_eq (tgt := 66) C (mm_dec dk_X12_sets 29 rfl) (by decide) (fun c55 => ?_) (fun c55 => ?_)
      · skip
        refine mm_aload_n C (mm_dec dk_X12_sets 34 rfl) rfl ?_
        refine mm_geti C fl_X12_387 (mm_dec dk_X12_sets 35 rfl) rfl rfl (Or.inl rfl) ?_
        have g56 : -2147483648 ≤ (h47c.1 66 63) ∧ (h47c.1 66 63) ≤ 2147483647 := i47c.1 66 63
        refine mm_iconst C (mm_dec dk_X12_sets 36 rfl) ⟨by decide, by decide⟩ ?_
        refine mm_icmp_le (tgt := 79) C (mm_dec dk_X12_sets 37 rfl) (by decide) (fun c71 => ?_) (fun c71 => ?_)
        · skip
          exact J79 h47c i47c f47c (by first | exact mm_sm_rf | exact mm_sm_fr g60c (by decide) | exact mm_sm_fr g76c (by decide))
        · skip
          refine mm_aload_n C (mm_dec dk_X12_sets 38 rfl) rfl ?_
          refine mm_iconst C (mm_dec dk_X12_sets 39 rfl) ⟨by decide, by decide⟩ ?_
          refine mm_cVv (rest := []) C1 ev_X12_417 (mm_dec dk_X12_sets 40 rfl) (c_X12_wrong_x x.2.1 hl (d - 1) (by omega) h47c i47c 2 (by omega)) rfl rfl (Nat.le_of_ble_eq_true rfl) ⟨by decide, by decide⟩ rfl (fun h76c hp76 => ?_) (fun _ _ q => q.elim)
          obtain ⟨i76c, g76c, y76_0⟩ := hp76
          have f76c : mm_fr [(66, 57), (66, 58), (66, 60), (66, 61), (66, 62), (66, 63), (66, 64), (66, 65), (66, 66)] [102] h h76c := mm_fr_tr f47c g76c (by decide +kernel)
          have q76c_58 : h76c.1 66 60 = h47c.1 66 60 := g76c.1 66 60 (by decide)
          have q76c_59 : h76c.1 66 61 = h47c.1 66 61 := g76c.1 66 61 (by decide)
          have q76c_60 : h76c.1 66 62 = h47c.1 66 62 := g76c.1 66 62 (by decide)
          have q76c_61 : h76c.1 66 63 = h47c.1 66 63 := g76c.1 66 63 (by decide)
          have q76c_62 : h76c.1 66 69 = h47c.1 66 69 := g76c.1 66 69 (by decide)
          have q76c_63 : h76c.1 66 70 = h47c.1 66 70 := g76c.1 66 70 (by decide)
          have q76c_64 : h76c.1 66 71 = h47c.1 66 71 := g76c.1 66 71 (by decide)
          have g65 : -2147483648 ≤ (h76c.1 66 57) ∧ (h76c.1 66 57) ≤ 2147483647 := i76c.1 66 57
          exact J79 h76c i76c f76c (by first | exact mm_sm_rf | exact mm_sm_fr g60c (by decide) | exact mm_sm_fr g76c (by decide))
      · skip
        refine mm_aload_n C (mm_dec dk_X12_sets 30 rfl) rfl ?_
        refine mm_iconst C (mm_dec dk_X12_sets 31 rfl) ⟨by decide, by decide⟩ ?_
        refine mm_cVv (rest := []) C1 ev_X12_417 (mm_dec dk_X12_sets 32 rfl) (c_X12_wrong_x x.2.1 hl (d - 1) (by omega) h47c i47c 1 (by omega)) rfl rfl (Nat.le_of_ble_eq_true rfl) ⟨by decide, by decide⟩ rfl (fun h60c hp60 => ?_) (fun _ _ q => q.elim)
        obtain ⟨i60c, g60c, y60_0⟩ := hp60
        have f60c : mm_fr [(66, 57), (66, 58), (66, 60), (66, 61), (66, 62), (66, 63), (66, 64), (66, 65), (66, 66)] [102] h h60c := mm_fr_tr f47c g60c (by decide +kernel)
        have q60c_67 : h60c.1 66 60 = h47c.1 66 60 := g60c.1 66 60 (by decide)
        have q60c_68 : h60c.1 66 61 = h47c.1 66 61 := g60c.1 66 61 (by decide)
        have q60c_69 : h60c.1 66 62 = h47c.1 66 62 := g60c.1 66 62 (by decide)
        have q60c_70 : h60c.1 66 69 = h47c.1 66 69 := g60c.1 66 69 (by decide)
        have q60c_71 : h60c.1 66 70 = h47c.1 66 70 := g60c.1 66 70 (by decide)
        have q60c_72 : h60c.1 66 71 = h47c.1 66 71 := g60c.1 66 71 (by decide)
        have g73 : -2147483648 ≤ (h60c.1 66 57) ∧ (h60c.1 66 57) ≤ 2147483647 := i60c.1 66 57
        refine mm_goto (tgt := 79) C (mm_dec dk_X12_sets 33 rfl) (by decide) ?_
        exact J79 h60c i60c f60c (by first | exact mm_sm_rf | exact mm_sm_fr g60c (by decide) | exact mm_sm_fr g76c (by decide))
    · skip
      exact mm_vret C T (mm_dec dk_X12_sets 23 rfl) (by decide : 0 ≤ 0) (by decide : 0 ≤ 0) ⟨rfl, ⟨i38_, f38_, by unfold mm_tok; omega, by omega⟩⟩
  refine mm_icmp_eq (tgt := 21) C (mm_dec dk_X12_sets 6 rfl) (by decide) (fun c10 => ?_) (fun c10 => ?_)
  · skip
    refine mm_iload_n C (mm_dec dk_X12_sets 11 rfl) rfl ?_
    refine mm_bipush C (mm_dec dk_X12_sets 12 rfl) ⟨by decide, by decide⟩ ?_
    have J33 : mm_W x 0 0 33 [mR 66, mI p1, mI r1] [] h := by
      have g74 : -2147483648 ≤ h.1 66 57 ∧ h.1 66 57 ≤ 2147483647 := i0.1 66 57
      have g75 : 0 ≤ h.1 66 69 ∧ h.1 66 69 ≤ 2400 := i0.1 66 69
      have g76 : 0 ≤ h.1 66 70 ∧ h.1 66 70 ≤ 520 := i0.1 66 70
      have g77 : 0 ≤ h.1 66 62 ∧ h.1 66 62 ≤ 500 := i0.1 66 62
      have g78 : 0 ≤ h.1 66 60 ∧ h.1 66 60 ≤ 500 := i0.1 66 60
      have g79 : -2147483648 ≤ h.1 66 61 ∧ h.1 66 61 ≤ 2147483647 := i0.1 66 61
      have g80 : 0 ≤ h.1 66 71 ∧ h.1 66 71 ≤ 6 := i0.1 66 71
      refine mm_aload_n C (mm_dec dk_X12_sets 17 rfl) rfl ?_
      refine mm_iconst C (mm_dec dk_X12_sets 18 rfl) ⟨by decide, by decide⟩ ?_
      refine mm_cVv (rest := []) C1 ev_X12_417 (mm_dec dk_X12_sets 19 rfl) (c_X12_wrong_x x.2.1 hl (d - 1) (by omega) h i0 3 (by omega)) rfl rfl (Nat.le_of_ble_eq_true rfl) ⟨by decide, by decide⟩ rfl (fun h35c hp35 => ?_) (fun _ _ q => q.elim)
      obtain ⟨i35c, g35c, y35_0⟩ := hp35
      have f35c : mm_fr [(66, 57), (66, 58), (66, 60), (66, 61), (66, 62), (66, 63), (66, 64), (66, 65), (66, 66)] [102] h h35c := mm_fr_tr f0 g35c (by decide +kernel)
      have q35c_82 : h35c.1 66 60 = h.1 66 60 := g35c.1 66 60 (by decide)
      have q35c_83 : h35c.1 66 61 = h.1 66 61 := g35c.1 66 61 (by decide)
      have q35c_84 : h35c.1 66 62 = h.1 66 62 := g35c.1 66 62 (by decide)
      have q35c_85 : h35c.1 66 69 = h.1 66 69 := g35c.1 66 69 (by decide)
      have q35c_86 : h35c.1 66 70 = h.1 66 70 := g35c.1 66 70 (by decide)
      have q35c_87 : h35c.1 66 71 = h.1 66 71 := g35c.1 66 71 (by decide)
      have g88 : -2147483648 ≤ (h35c.1 66 57) ∧ (h35c.1 66 57) ≤ 2147483647 := i35c.1 66 57
      exact J38 h35c i35c f35c (by first | exact mm_sm_rf | exact mm_sm_fr g15c (by decide) | exact mm_sm_fr g35c (by decide)) (by omega)
    refine mm_icmp_lt (tgt := 33) C (mm_dec dk_X12_sets 13 rfl) (by decide) (fun c24 => ?_) (fun c24 => ?_)
    · skip
      exact J33
    · skip
      refine mm_iload_n C (mm_dec dk_X12_sets 14 rfl) rfl ?_
      refine mm_bipush C (mm_dec dk_X12_sets 15 rfl) ⟨by decide, by decide⟩ ?_
      refine mm_icmp_lt (tgt := 38) C (mm_dec dk_X12_sets 16 rfl) (by decide) (fun c30 => ?_) (fun c30 => ?_)
      · skip
        exact J38 h i0 f0 (by first | exact mm_sm_rf | exact mm_sm_fr g15c (by decide) | exact mm_sm_fr g35c (by decide)) (by omega)
      · skip
        exact J33
  · skip
    refine mm_aload_n C (mm_dec dk_X12_sets 7 rfl) rfl ?_
    refine mm_iconst C (mm_dec dk_X12_sets 8 rfl) ⟨by decide, by decide⟩ ?_
    refine mm_cVv (rest := []) C1 ev_X12_417 (mm_dec dk_X12_sets 9 rfl) (c_X12_wrong_x x.2.1 hl (d - 1) (by omega) h i0 1 (by omega)) rfl rfl (Nat.le_of_ble_eq_true rfl) ⟨by decide, by decide⟩ rfl (fun h15c hp15 => ?_) (fun _ _ q => q.elim)
    obtain ⟨i15c, g15c, y15_0⟩ := hp15
    have f15c : mm_fr [(66, 57), (66, 58), (66, 60), (66, 61), (66, 62), (66, 63), (66, 64), (66, 65), (66, 66)] [102] h h15c := mm_fr_tr f0 g15c (by decide +kernel)
    have q15c_90 : h15c.1 66 60 = h.1 66 60 := g15c.1 66 60 (by decide)
    have q15c_91 : h15c.1 66 61 = h.1 66 61 := g15c.1 66 61 (by decide)
    have q15c_92 : h15c.1 66 62 = h.1 66 62 := g15c.1 66 62 (by decide)
    have q15c_93 : h15c.1 66 69 = h.1 66 69 := g15c.1 66 69 (by decide)
    have q15c_94 : h15c.1 66 70 = h.1 66 70 := g15c.1 66 70 (by decide)
    have q15c_95 : h15c.1 66 71 = h.1 66 71 := g15c.1 66 71 (by decide)
    have g96 : -2147483648 ≤ (h15c.1 66 57) ∧ (h15c.1 66 57) ≤ 2147483647 := i15c.1 66 57
    refine mm_goto (tgt := 38) C (mm_dec dk_X12_sets 10 rfl) (by decide) ?_
    exact J38 h15c i15c f15c (by first | exact mm_sm_rf | exact mm_sm_fr g15c (by decide) | exact mm_sm_fr g35c (by decide)) (by omega)
set_option maxRecDepth 100000 in
set_option maxHeartbeats 4000000 in
theorem c_X12_clause (l : Launch) (hl : l.stackTraces = false) (d : Nat) (hd : 6 ≤ d) (h : mH) (i0 : mm_inv h) (p1 : Int) (bp1 : 0 ≤ p1 ∧ p1 ≤ 1) (t0 : mm_tok h) (t1 : h.1 66 57 = 0) (t2 : h.1 66 61 ≠ 0) (t3 : 1200 * p1 ≤ h.1 66 69) (t4 : h.1 66 69 ≤ 1200 * p1 + 2 * h.1 66 62) (t5 : mm_cg h p1 (h.1 66 69)) : mm_Met l d yX12_clause cX12_clause 4 none [mR 66, mI p1] h (mm_pv fun h2 => mm_inv h2 ∧ mm_fr [(66, 57), (66, 58), (66, 60), (66, 61), (66, 62), (66, 63), (66, 64), (66, 65), (66, 66), (66, 69), (66, 70), (66, 71)] [102, 103, 104, 105, 106, 107, 108, 109] h h2 ∧ mm_rl h h2 p1 ∧ (h2.1 66 57 = 0 → h.1 66 62 + 1 ≤ h2.1 66 62)) mm_nx 0 0 := by
  refine mm_ofW (ls := [mR 66, mI p1, mU, mU]) hl (by decide) rfl (Nat.le_of_ble_eq_true rfl) ?_
  intro x hxl C T hnm htb
  subst hxl
  have C1 := mm_OK_le (d' := d - 1 + 1) (by omega) C
  refine mm_rng (fun hr _ => ?_)
  have ap1 : -2147483648 ≤ p1 ∧ p1 < 2147483648 := mm_ok_at hr (i := 1) rfl
  have f0 : mm_fr [(66, 57), (66, 58), (66, 60), (66, 61), (66, 62), (66, 63), (66, 64), (66, 65), (66, 66), (66, 69), (66, 70), (66, 71)] [102, 103, 104, 105, 106, 107, 108, 109] h h := mm_fr_rf
  have g1 : -2147483648 ≤ h.1 66 57 ∧ h.1 66 57 ≤ 2147483647 := i0.1 66 57
  have g2 : 0 ≤ h.1 66 69 ∧ h.1 66 69 ≤ 2400 := i0.1 66 69
  have g3 : 0 ≤ h.1 66 70 ∧ h.1 66 70 ≤ 520 := i0.1 66 70
  have g4 : 0 ≤ h.1 66 62 ∧ h.1 66 62 ≤ 500 := i0.1 66 62
  have g5 : 0 ≤ h.1 66 60 ∧ h.1 66 60 ≤ 500 := i0.1 66 60
  have g6 : -2147483648 ≤ h.1 66 61 ∧ h.1 66 61 ≤ 2147483647 := i0.1 66 61
  have g7 : 0 ≤ h.1 66 71 ∧ h.1 66 71 ≤ 6 := i0.1 66 71
  refine mm_aload_n C (mm_dec dk_X12_clause 0 rfl) rfl ?_
  refine mm_cVi (rest := []) C1 ev_X12_419 (mm_dec dk_X12_clause 1 rfl) (c_X12_knownWord_x x.2.1 hl (d - 1) (by omega) h i0 ) rfl rfl (Nat.le_of_ble_eq_true rfl) ⟨by decide, by decide⟩ rfl (fun r1 h1c hp1 => ?_) (fun _ _ q => q.elim)
  obtain ⟨b1, z1, y1_0⟩ := hp1
  rw [z1]
  refine mm_istore_nL (ls2 := [mR 66, mI p1, mI r1, mU]) C (mm_dec dk_X12_clause 2 rfl) (by decide) rfl ?_
  refine mm_iload_n C (mm_dec dk_X12_clause 3 rfl) rfl ?_
  have J24 : ∀ (h24_ : mH) (i24_ : mm_inv h24_) (f24_ : mm_fr [(66, 57), (66, 58), (66, 60), (66, 61), (66, 62), (66, 63), (66, 64), (66, 65), (66, 66), (66, 69), (66, 70), (66, 71)] [102, 103, 104, 105, 106, 107, 108, 109] h h24_) (w24_0 : mm_fr [(66, 57), (66, 58)] [] h h24_) (w24_1 : (h24_.1 66 57 = 0 → (r1 = 0 ∨ r1 = 1 ∨ r1 = 3))), mm_W x 0 0 24 [mR 66, mI p1, mI r1, mU] [] h24_ := by
    intro h24_ i24_ f24_ w24_0 w24_1
    have g9 : -2147483648 ≤ h24_.1 66 57 ∧ h24_.1 66 57 ≤ 2147483647 := i24_.1 66 57
    have g10 : 0 ≤ h24_.1 66 69 ∧ h24_.1 66 69 ≤ 2400 := i24_.1 66 69
    have g11 : 0 ≤ h24_.1 66 70 ∧ h24_.1 66 70 ≤ 520 := i24_.1 66 70
    have g12 : 0 ≤ h24_.1 66 62 ∧ h24_.1 66 62 ≤ 500 := i24_.1 66 62
    have g13 : 0 ≤ h24_.1 66 60 ∧ h24_.1 66 60 ≤ 500 := i24_.1 66 60
    have g14 : -2147483648 ≤ h24_.1 66 61 ∧ h24_.1 66 61 ≤ 2147483647 := i24_.1 66 61
    have g15 : 0 ≤ h24_.1 66 71 ∧ h24_.1 66 71 ≤ 6 := i24_.1 66 71
    refine mm_aload_n C (mm_dec dk_X12_clause 14 rfl) rfl ?_
    refine mm_getr (t := 103) C fl_X12_120 (mm_dec dk_X12_clause 15 rfl) rfl rfl (mm_ref i24_ rfl) ?_
    refine mm_iload_n C (mm_dec dk_X12_clause 16 rfl) rfl ?_
    refine mm_iald C (mm_dec dk_X12_clause 17 rfl) rfl (by omega) (by omega) ?_
    have g16 : 0 ≤ (h24_.2.1 103 p1) ∧ (h24_.2.1 103 p1) ≤ 20 := i24_.2.1 103 p1
    refine mm_bipush C (mm_dec dk_X12_clause 18 rfl) ⟨by decide, by decide⟩ ?_
    have J40 : ∀ (h40_ : mH) (i40_ : mm_inv h40_) (f40_ : mm_fr [(66, 57), (66, 58), (66, 60), (66, 61), (66, 62), (66, 63), (66, 64), (66, 65), (66, 66), (66, 69), (66, 70), (66, 71)] [102, 103, 104, 105, 106, 107, 108, 109] h h40_) (w40_0 : mm_fr [(66, 57), (66, 58)] [] h h40_) (w40_1 : (h40_.1 66 57 = 0 → (r1 = 0 ∨ r1 = 1 ∨ r1 = 3) ∧ h40_.2.1 103 p1 ≤ 19)), mm_W x 0 0 40 [mR 66, mI p1, mI r1, mU] [] h40_ := by
      intro h40_ i40_ f40_ w40_0 w40_1
      have g17 : -2147483648 ≤ h40_.1 66 57 ∧ h40_.1 66 57 ≤ 2147483647 := i40_.1 66 57
      have g18 : 0 ≤ h40_.1 66 69 ∧ h40_.1 66 69 ≤ 2400 := i40_.1 66 69
      have g19 : 0 ≤ h40_.1 66 70 ∧ h40_.1 66 70 ≤ 520 := i40_.1 66 70
      have g20 : 0 ≤ h40_.1 66 62 ∧ h40_.1 66 62 ≤ 500 := i40_.1 66 62
      have g21 : 0 ≤ h40_.1 66 60 ∧ h40_.1 66 60 ≤ 500 := i40_.1 66 60
      have g22 : -2147483648 ≤ h40_.1 66 61 ∧ h40_.1 66 61 ≤ 2147483647 := i40_.1 66 61
      have g23 : 0 ≤ h40_.1 66 71 ∧ h40_.1 66 71 ≤ 6 := i40_.1 66 71
      refine mm_aload_n C (mm_dec dk_X12_clause 23 rfl) rfl ?_
      refine mm_cVi (rest := []) C1 ev_X12_413 (mm_dec dk_X12_clause 24 rfl) (c_X12_isGood x.2.1 hl (d - 1) (by omega) h40_ i40_ ) rfl rfl (Nat.le_of_ble_eq_true rfl) ⟨by decide, by decide⟩ rfl (fun r41 h41c hp41 => ?_) (fun _ _ q => q.elim)
      obtain ⟨z41, y41⟩ := hp41
      rw [z41]
      refine mm_if_ne (tgt := 48) C (mm_dec dk_X12_clause 25 rfl) (by decide) (fun c44 => ?_) (fun c44 => ?_)
      · skip
        refine mm_bipush C (mm_dec dk_X12_clause 27 rfl) ⟨by decide, by decide⟩ ?_
        refine mm_iload_n C (mm_dec dk_X12_clause 28 rfl) rfl ?_
        refine mm_imul C (mm_dec dk_X12_clause 29 rfl) ⟨by omega, by omega⟩ ?_
        refine mm_aload_n C (mm_dec dk_X12_clause 30 rfl) rfl ?_
        refine mm_getr (t := 103) C fl_X12_120 (mm_dec dk_X12_clause 31 rfl) rfl rfl (mm_ref i40_ rfl) ?_
        refine mm_iload_n C (mm_dec dk_X12_clause 32 rfl) rfl ?_
        refine mm_iald C (mm_dec dk_X12_clause 33 rfl) rfl (by omega) (by omega) ?_
        have g25 : 0 ≤ (h40_.2.1 103 p1) ∧ (h40_.2.1 103 p1) ≤ 20 := i40_.2.1 103 p1
        refine mm_iadd C (mm_dec dk_X12_clause 34 rfl) ⟨by omega, by omega⟩ ?_
        refine mm_istore_nL (ls2 := [mR 66, mI p1, mI r1, mI ((20 * p1) + (h40_.2.1 103 p1))]) C (mm_dec dk_X12_clause 35 rfl) (by decide) rfl ?_
        refine mm_aload_n C (mm_dec dk_X12_clause 36 rfl) rfl ?_
        refine mm_getr (t := 103) C fl_X12_120 (mm_dec dk_X12_clause 37 rfl) rfl rfl (mm_ref i40_ rfl) ?_
        refine mm_iload_n C (mm_dec dk_X12_clause 38 rfl) rfl ?_
        refine mm_dup2 C (mm_dec dk_X12_clause 39 rfl) (show (0 : Nat) ≠ 1 by decide) (show (2 : Nat) ≠ 1 by decide) ?_
        refine mm_iald C (mm_dec dk_X12_clause 40 rfl) rfl (by omega) (by omega) ?_
        refine mm_iconst C (mm_dec dk_X12_clause 41 rfl) ⟨by decide, by decide⟩ ?_
        refine mm_iadd C (mm_dec dk_X12_clause 42 rfl) ⟨by omega, by omega⟩ ?_
        refine mm_iast C (mm_dec dk_X12_clause 43 rfl) rfl (by omega) (by omega) ?_
        have i1 : mm_inv (mm_pa h40_ 103 p1 ((h40_.2.1 103 p1) + 1)) := mm_inv_pa i40_ (show 0 ≤ ((h40_.2.1 103 p1) + 1) ∧ ((h40_.2.1 103 p1) + 1) ≤ 20 from ⟨by omega, by omega⟩)
        have f1 : mm_fr [(66, 57), (66, 58), (66, 60), (66, 61), (66, 62), (66, 63), (66, 64), (66, 65), (66, 66), (66, 69), (66, 70), (66, 71)] [102, 103, 104, 105, 106, 107, 108, 109] h (mm_pa h40_ 103 p1 ((h40_.2.1 103 p1) + 1)) := mm_fr_pa f40_ (by decide)
        obtain ⟨h1, eh1⟩ : ∃ z, z = mm_pa h40_ 103 p1 ((h40_.2.1 103 p1) + 1) := ⟨_, rfl⟩
        rw [← eh1] at i1 f1 ⊢
        have qh1_26 : h1.1 66 57 = h40_.1 66 57 := by rw [eh1]; rfl
        have qh1_27 : h1.1 66 60 = h40_.1 66 60 := by rw [eh1]; rfl
        have qh1_28 : h1.1 66 61 = h40_.1 66 61 := by rw [eh1]; rfl
        have qh1_29 : h1.1 66 62 = h40_.1 66 62 := by rw [eh1]; rfl
        have qh1_30 : h1.1 66 69 = h40_.1 66 69 := by rw [eh1]; rfl
        have qh1_31 : h1.1 66 70 = h40_.1 66 70 := by rw [eh1]; rfl
        have qh1_32 : h1.1 66 71 = h40_.1 66 71 := by rw [eh1]; rfl
        refine mm_aload_n C (mm_dec dk_X12_clause 44 rfl) rfl ?_
        refine mm_getr (t := 104) C fl_X12_123 (mm_dec dk_X12_clause 45 rfl) rfl rfl (mm_ref i1 rfl) ?_
        refine mm_iload_n C (mm_dec dk_X12_clause 46 rfl) rfl ?_
        refine mm_iload_n C (mm_dec dk_X12_clause 47 rfl) rfl ?_
        refine mm_iast C (mm_dec dk_X12_clause 48 rfl) rfl (by omega) (by omega) ?_
        have i2 : mm_inv (mm_pa h1 104 ((20 * p1) + (h40_.2.1 103 p1)) r1) := mm_inv_pa i1 (show -2147483648 ≤ r1 ∧ r1 ≤ 2147483647 from ⟨by omega, by omega⟩)
        have f2 : mm_fr [(66, 57), (66, 58), (66, 60), (66, 61), (66, 62), (66, 63), (66, 64), (66, 65), (66, 66), (66, 69), (66, 70), (66, 71)] [102, 103, 104, 105, 106, 107, 108, 109] h (mm_pa h1 104 ((20 * p1) + (h40_.2.1 103 p1)) r1) := mm_fr_pa f1 (by decide)
        obtain ⟨h2, eh2⟩ : ∃ z, z = mm_pa h1 104 ((20 * p1) + (h40_.2.1 103 p1)) r1 := ⟨_, rfl⟩
        rw [← eh2] at i2 f2 ⊢
        have qh2_33 : h2.1 66 57 = h1.1 66 57 := by rw [eh2]; rfl
        have qh2_34 : h2.1 66 60 = h1.1 66 60 := by rw [eh2]; rfl
        have qh2_35 : h2.1 66 61 = h1.1 66 61 := by rw [eh2]; rfl
        have qh2_36 : h2.1 66 62 = h1.1 66 62 := by rw [eh2]; rfl
        have qh2_37 : h2.1 66 69 = h1.1 66 69 := by rw [eh2]; rfl
        have qh2_38 : h2.1 66 70 = h1.1 66 70 := by rw [eh2]; rfl
        have qh2_39 : h2.1 66 71 = h1.1 66 71 := by rw [eh2]; rfl
        refine mm_aload_n C (mm_dec dk_X12_clause 49 rfl) rfl ?_
        refine mm_cVv (rest := []) C1 ev_X12_423 (mm_dec dk_X12_clause 50 rfl) (c_X12_goes x.2.1 hl (d - 1) (by omega) h2 i2 ) rfl rfl (Nat.le_of_ble_eq_true rfl) ⟨by decide, by decide⟩ rfl (fun h78c hp78 => ?_) (fun _ _ q => q.elim)
        obtain ⟨i78c, g78c, y78_0, y78_1, y78_2⟩ := hp78
        have f78c : mm_fr [(66, 57), (66, 58), (66, 60), (66, 61), (66, 62), (66, 63), (66, 64), (66, 65), (66, 66), (66, 69), (66, 70), (66, 71)] [102, 103, 104, 105, 106, 107, 108, 109] h h78c := mm_fr_tr f2 g78c (by decide +kernel)
        have q78c_41 : h78c.1 66 57 = h2.1 66 57 := g78c.1 66 57 (by decide)
        have q78c_42 : h78c.1 66 69 = h2.1 66 69 := g78c.1 66 69 (by decide)
        have q78c_43 : h78c.1 66 70 = h2.1 66 70 := g78c.1 66 70 (by decide)
        have q78c_44 : h78c.1 66 71 = h2.1 66 71 := g78c.1 66 71 (by decide)
        have g45 : 0 ≤ (h78c.1 66 62) ∧ (h78c.1 66 62) ≤ 500 := i78c.1 66 62
        have g46 : 0 ≤ (h78c.1 66 60) ∧ (h78c.1 66 60) ≤ 500 := i78c.1 66 60
        have g47 : -2147483648 ≤ (h78c.1 66 61) ∧ (h78c.1 66 61) ≤ 2147483647 := i78c.1 66 61
        have zK := mm_cl_open i40_ t0 (by omega) t5 w40_0 (by omega) (by omega) eh1 eh2 g78c y78_0 y78_1 y78_2
        have zk1 := zK.2.2.1
        have zk2 := zK.2.2.2.1
        refine mm_iload_n C (mm_dec dk_X12_clause 51 rfl) rfl ?_
        refine mm_iconst C (mm_dec dk_X12_clause 52 rfl) ⟨by decide, by decide⟩ ?_
        have J140 : ∀ (h140_ : mH) (i140_ : mm_inv h140_) (f140_ : mm_fr [(66, 57), (66, 58), (66, 60), (66, 61), (66, 62), (66, 63), (66, 64), (66, 65), (66, 66), (66, 69), (66, 70), (66, 71)] [102, 103, 104, 105, 106, 107, 108, 109] h h140_) (w140_0 : mm_rl h h140_ p1) (w140_1 : (h140_.1 66 57 = 0 → h.1 66 62 + 1 ≤ h140_.1 66 62)), mm_W x 0 0 140 [mR 66, mU, mU, mU] [] h140_ := by
          intro h140_ i140_ f140_ w140_0 w140_1
          have g48 : -2147483648 ≤ h140_.1 66 57 ∧ h140_.1 66 57 ≤ 2147483647 := i140_.1 66 57
          have g49 : 0 ≤ h140_.1 66 69 ∧ h140_.1 66 69 ≤ 2400 := i140_.1 66 69
          have g50 : 0 ≤ h140_.1 66 70 ∧ h140_.1 66 70 ≤ 520 := i140_.1 66 70
          have g51 : 0 ≤ h140_.1 66 62 ∧ h140_.1 66 62 ≤ 500 := i140_.1 66 62
          have g52 : 0 ≤ h140_.1 66 60 ∧ h140_.1 66 60 ≤ 500 := i140_.1 66 60
          have g53 : -2147483648 ≤ h140_.1 66 61 ∧ h140_.1 66 61 ≤ 2147483647 := i140_.1 66 61
          have g54 : 0 ≤ h140_.1 66 71 ∧ h140_.1 66 71 ≤ 6 := i140_.1 66 71
          have zq1 := w140_0.2.1.1
          refine mm_aload_n C (mm_dec dk_X12_clause 84 rfl) rfl ?_
          refine mm_cVi (rest := []) C1 ev_X12_413 (mm_dec dk_X12_clause 85 rfl) (c_X12_isGood x.2.1 hl (d - 1) (by omega) h140_ i140_ ) rfl rfl (Nat.le_of_ble_eq_true rfl) ⟨by decide, by decide⟩ rfl (fun r141 h141c hp141 => ?_) (fun _ _ q => q.elim)
          obtain ⟨z141, y141⟩ := hp141
          rw [z141]
          refine mm_if_ne (tgt := 148) C (mm_dec dk_X12_clause 86 rfl) (by decide) (fun c144 => ?_) (fun c144 => ?_)
          · skip
            refine mm_aload_n C (mm_dec dk_X12_clause 88 rfl) rfl ?_
            refine mm_bipush C (mm_dec dk_X12_clause 89 rfl) ⟨by decide, by decide⟩ ?_
            refine mm_cVi (rest := []) C1 ev_X12_429 (mm_dec dk_X12_clause 90 rfl) (c_X12_isSign x.2.1 hl (d - 1) (by omega) h140_ i140_ 59) rfl rfl (Nat.le_of_ble_eq_true rfl) ⟨by decide, by decide⟩ rfl (fun r151 h151c hp151 => ?_) (fun _ _ q => q.elim)
            obtain ⟨z151, y151⟩ := hp151
            rw [z151]
            have g57 : -2147483648 ≤ (h140_.1 66 65) ∧ (h140_.1 66 65) ≤ 2147483647 := i140_.1 66 65
            have J169 : ∀ (h169_ : mH) (i169_ : mm_inv h169_) (f169_ : mm_fr [(66, 57), (66, 58), (66, 60), (66, 61), (66, 62), (66, 63), (66, 64), (66, 65), (66, 66), (66, 69), (66, 70), (66, 71)] [102, 103, 104, 105, 106, 107, 108, 109] h h169_) (w169_0 : mm_rl h h169_ p1) (w169_1 : (h169_.1 66 57 = 0 → h.1 66 62 + 1 ≤ h169_.1 66 62)), mm_W x 0 0 169 [mU, mU, mU, mU] [] h169_ := by
              intro h169_ i169_ f169_ w169_0 w169_1
              have g58 : -2147483648 ≤ h169_.1 66 57 ∧ h169_.1 66 57 ≤ 2147483647 := i169_.1 66 57
              have g59 : 0 ≤ h169_.1 66 69 ∧ h169_.1 66 69 ≤ 2400 := i169_.1 66 69
              have g60 : 0 ≤ h169_.1 66 70 ∧ h169_.1 66 70 ≤ 520 := i169_.1 66 70
              have g61 : 0 ≤ h169_.1 66 62 ∧ h169_.1 66 62 ≤ 500 := i169_.1 66 62
              have g62 : 0 ≤ h169_.1 66 60 ∧ h169_.1 66 60 ≤ 500 := i169_.1 66 60
              have g63 : -2147483648 ≤ h169_.1 66 61 ∧ h169_.1 66 61 ≤ 2147483647 := i169_.1 66 61
              have g64 : 0 ≤ h169_.1 66 71 ∧ h169_.1 66 71 ≤ 6 := i169_.1 66 71
              exact mm_vret C T (mm_dec dk_X12_clause 98 rfl) (by decide : 0 ≤ 0) (by decide : 0 ≤ 0) ⟨rfl, ⟨i169_, f169_, by first | exact w169_0 | exact w140_0 | exact mm_rl_bad w40_0 (by omega) t0 (by omega) (by omega), by omega⟩⟩
            refine mm_if_eq (tgt := 164) C (mm_dec dk_X12_clause 91 rfl) (by decide) (fun c154 => ?_) (fun c154 => ?_)
            · skip
              refine mm_aload_n C (mm_dec dk_X12_clause 95 rfl) rfl ?_
              refine mm_iconst C (mm_dec dk_X12_clause 96 rfl) ⟨by decide, by decide⟩ ?_
              refine mm_cVv (rest := []) C1 ev_X12_417 (mm_dec dk_X12_clause 97 rfl) (c_X12_wrong_x x.2.1 hl (d - 1) (by omega) h140_ i140_ 1 (by omega)) rfl rfl (Nat.le_of_ble_eq_true rfl) ⟨by decide, by decide⟩ rfl (fun h166c hp166 => ?_) (fun _ _ q => q.elim)
              obtain ⟨i166c, g166c, y166_0⟩ := hp166
              have f166c : mm_fr [(66, 57), (66, 58), (66, 60), (66, 61), (66, 62), (66, 63), (66, 64), (66, 65), (66, 66), (66, 69), (66, 70), (66, 71)] [102, 103, 104, 105, 106, 107, 108, 109] h h166c := mm_fr_tr f140_ g166c (by decide +kernel)
              have q166c_66 : h166c.1 66 60 = h140_.1 66 60 := g166c.1 66 60 (by decide)
              have q166c_67 : h166c.1 66 61 = h140_.1 66 61 := g166c.1 66 61 (by decide)
              have q166c_68 : h166c.1 66 62 = h140_.1 66 62 := g166c.1 66 62 (by decide)
              have q166c_69 : h166c.1 66 65 = h140_.1 66 65 := g166c.1 66 65 (by decide)
              have q166c_70 : h166c.1 66 69 = h140_.1 66 69 := g166c.1 66 69 (by decide)
              have q166c_71 : h166c.1 66 70 = h140_.1 66 70 := g166c.1 66 70 (by decide)
              have q166c_72 : h166c.1 66 71 = h140_.1 66 71 := g166c.1 66 71 (by decide)
              have g73 : -2147483648 ≤ (h166c.1 66 57) ∧ (h166c.1 66 57) ≤ 2147483647 := i166c.1 66 57
              refine mm_fgt 0 ?_
              exact J169 h166c i166c f166c (by first | exact mm_rl_go w140_0 g158c y158_0 y158_1 y158_2 | exact mm_rl_no w140_0 g166c y166_0) (by first | omega)
            · skip
              refine mm_aload_n C (mm_dec dk_X12_clause 92 rfl) rfl ?_
              refine mm_cVv (rest := []) C1 ev_X12_423 (mm_dec dk_X12_clause 93 rfl) (c_X12_goes x.2.1 hl (d - 1) (by omega) h140_ i140_ ) rfl rfl (Nat.le_of_ble_eq_true rfl) ⟨by decide, by decide⟩ rfl (fun h158c hp158 => ?_) (fun _ _ q => q.elim)
              obtain ⟨i158c, g158c, y158_0, y158_1, y158_2⟩ := hp158
              have f158c : mm_fr [(66, 57), (66, 58), (66, 60), (66, 61), (66, 62), (66, 63), (66, 64), (66, 65), (66, 66), (66, 69), (66, 70), (66, 71)] [102, 103, 104, 105, 106, 107, 108, 109] h h158c := mm_fr_tr f140_ g158c (by decide +kernel)
              have q158c_75 : h158c.1 66 57 = h140_.1 66 57 := g158c.1 66 57 (by decide)
              have q158c_76 : h158c.1 66 69 = h140_.1 66 69 := g158c.1 66 69 (by decide)
              have q158c_77 : h158c.1 66 70 = h140_.1 66 70 := g158c.1 66 70 (by decide)
              have q158c_78 : h158c.1 66 71 = h140_.1 66 71 := g158c.1 66 71 (by decide)
              have g79 : 0 ≤ (h158c.1 66 62) ∧ (h158c.1 66 62) ≤ 500 := i158c.1 66 62
              have g80 : 0 ≤ (h158c.1 66 60) ∧ (h158c.1 66 60) ≤ 500 := i158c.1 66 60
              have g81 : -2147483648 ≤ (h158c.1 66 61) ∧ (h158c.1 66 61) ≤ 2147483647 := i158c.1 66 61
              refine mm_goto (tgt := 169) C (mm_dec dk_X12_clause 94 rfl) (by decide) ?_
              refine mm_fgt 0 ?_
              exact J169 h158c i158c f158c (by first | exact mm_rl_go w140_0 g158c y158_0 y158_1 y158_2 | exact mm_rl_no w140_0 g166c y166_0) (by first | omega)
          · skip
            exact mm_vret C T (mm_dec dk_X12_clause 87 rfl) (by decide : 0 ≤ 0) (by decide : 0 ≤ 0) ⟨rfl, ⟨i140_, f140_, by first | exact w169_0 | exact w140_0 | exact mm_rl_bad w40_0 (by omega) t0 (by omega) (by omega), by omega⟩⟩
        refine mm_icmp_ne (tgt := 94) C (mm_dec dk_X12_clause 53 rfl) (by decide) (fun c83 => ?_) (fun c83 => ?_)
        · skip
          refine mm_aload_n C (mm_dec dk_X12_clause 58 rfl) rfl ?_
          refine mm_getr (t := 105) C fl_X12_126 (mm_dec dk_X12_clause 59 rfl) rfl rfl (mm_ref i78c rfl) ?_
          refine mm_iload_n C (mm_dec dk_X12_clause 60 rfl) rfl ?_
          refine mm_aload_n C (mm_dec dk_X12_clause 61 rfl) rfl ?_
          refine mm_cVi (rest := [mI ((20 * p1) + (h40_.2.1 103 p1)), mR 105]) C1 ev_X12_451 (mm_dec dk_X12_clause 62 rfl) (c_X12_expression x.2.1 hl (d - 1) (by omega) h78c i78c (by first | exact zK.2.1 | omega) (by first | exact zK.2.1 | omega)) rfl rfl (Nat.le_of_ble_eq_true rfl) ⟨by decide, by decide⟩ rfl (fun r100 h100c hp100 => ?_) (fun _ _ q => q.elim)
          obtain ⟨b100, i100c, g100c, y100_0, y100_1⟩ := hp100
          have f100c : mm_fr [(66, 57), (66, 58), (66, 60), (66, 61), (66, 62), (66, 63), (66, 64), (66, 65), (66, 66), (66, 69), (66, 70), (66, 71)] [102, 103, 104, 105, 106, 107, 108, 109] h h100c := mm_fr_tr f78c g100c (by decide +kernel)
          have g83 : -2147483648 ≤ (h100c.1 66 57) ∧ (h100c.1 66 57) ≤ 2147483647 := i100c.1 66 57
          have g84 : 0 ≤ (h100c.1 66 69) ∧ (h100c.1 66 69) ≤ 2400 := i100c.1 66 69
          have g85 : 0 ≤ (h100c.1 66 70) ∧ (h100c.1 66 70) ≤ 520 := i100c.1 66 70
          have g86 : 0 ≤ (h100c.1 66 62) ∧ (h100c.1 66 62) ≤ 500 := i100c.1 66 62
          have g87 : 0 ≤ (h100c.1 66 60) ∧ (h100c.1 66 60) ≤ 500 := i100c.1 66 60
          have g88 : -2147483648 ≤ (h100c.1 66 61) ∧ (h100c.1 66 61) ≤ 2147483647 := i100c.1 66 61
          have g89 : 0 ≤ (h100c.1 66 71) ∧ (h100c.1 66 71) ≤ 6 := i100c.1 66 71
          refine mm_iast C (mm_dec dk_X12_clause 63 rfl) rfl (by omega) (by omega) ?_
          have i7 : mm_inv (mm_pa h100c 105 ((20 * p1) + (h40_.2.1 103 p1)) r100) := mm_inv_pa i100c (show 0 ≤ r100 ∧ r100 ≤ 2399 from ⟨by omega, by omega⟩)
          have f7 : mm_fr [(66, 57), (66, 58), (66, 60), (66, 61), (66, 62), (66, 63), (66, 64), (66, 65), (66, 66), (66, 69), (66, 70), (66, 71)] [102, 103, 104, 105, 106, 107, 108, 109] h (mm_pa h100c 105 ((20 * p1) + (h40_.2.1 103 p1)) r100) := mm_fr_pa f100c (by decide)
          obtain ⟨h7, eh7⟩ : ∃ z, z = mm_pa h100c 105 ((20 * p1) + (h40_.2.1 103 p1)) r100 := ⟨_, rfl⟩
          rw [← eh7] at i7 f7 ⊢
          have qh7_90 : h7.1 66 57 = h100c.1 66 57 := by rw [eh7]; rfl
          have qh7_91 : h7.1 66 60 = h100c.1 66 60 := by rw [eh7]; rfl
          have qh7_92 : h7.1 66 61 = h100c.1 66 61 := by rw [eh7]; rfl
          have qh7_93 : h7.1 66 62 = h100c.1 66 62 := by rw [eh7]; rfl
          have qh7_94 : h7.1 66 69 = h100c.1 66 69 := by rw [eh7]; rfl
          have qh7_95 : h7.1 66 70 = h100c.1 66 70 := by rw [eh7]; rfl
          have qh7_96 : h7.1 66 71 = h100c.1 66 71 := by rw [eh7]; rfl
          refine mm_aload_n C (mm_dec dk_X12_clause 64 rfl) rfl ?_
          refine mm_getr (t := 106) C fl_X12_129 (mm_dec dk_X12_clause 65 rfl) rfl rfl (mm_ref i7 rfl) ?_
          refine mm_iload_n C (mm_dec dk_X12_clause 66 rfl) rfl ?_
          refine mm_iconst C (mm_dec dk_X12_clause 67 rfl) ⟨by decide, by decide⟩ ?_
          refine mm_iast C (mm_dec dk_X12_clause 68 rfl) rfl (by omega) (by omega) ?_
          have i8 : mm_inv (mm_pa h7 106 ((20 * p1) + (h40_.2.1 103 p1)) (-1)) := mm_inv_pa i7 (show -1 ≤ (-1) ∧ (-1) ≤ 2399 from ⟨by omega, by omega⟩)
          have f8 : mm_fr [(66, 57), (66, 58), (66, 60), (66, 61), (66, 62), (66, 63), (66, 64), (66, 65), (66, 66), (66, 69), (66, 70), (66, 71)] [102, 103, 104, 105, 106, 107, 108, 109] h (mm_pa h7 106 ((20 * p1) + (h40_.2.1 103 p1)) (-1)) := mm_fr_pa f7 (by decide)
          obtain ⟨h8, eh8⟩ : ∃ z, z = mm_pa h7 106 ((20 * p1) + (h40_.2.1 103 p1)) (-1) := ⟨_, rfl⟩
          rw [← eh8] at i8 f8 ⊢
          have qh8_97 : h8.1 66 57 = h7.1 66 57 := by rw [eh8]; rfl
          have qh8_98 : h8.1 66 60 = h7.1 66 60 := by rw [eh8]; rfl
          have qh8_99 : h8.1 66 61 = h7.1 66 61 := by rw [eh8]; rfl
          have qh8_100 : h8.1 66 62 = h7.1 66 62 := by rw [eh8]; rfl
          have qh8_101 : h8.1 66 69 = h7.1 66 69 := by rw [eh8]; rfl
          have qh8_102 : h8.1 66 70 = h7.1 66 70 := by rw [eh8]; rfl
          have qh8_103 : h8.1 66 71 = h7.1 66 71 := by rw [eh8]; rfl
          have zM := mm_cl_e1 zK y100_0 g100c (by rw [eh7, y100_1]) eh8 (by omega) (by omega) (by omega)
          have zm1 := zM.2.1
          refine mm_aload_n C (mm_dec dk_X12_clause 69 rfl) rfl ?_
          refine mm_cVi (rest := []) C1 ev_X12_413 (mm_dec dk_X12_clause 70 rfl) (c_X12_isGood x.2.1 hl (d - 1) (by omega) h8 i8 ) rfl rfl (Nat.le_of_ble_eq_true rfl) ⟨by decide, by decide⟩ rfl (fun r112 h112c hp112 => ?_) (fun _ _ q => q.elim)
          obtain ⟨z112, y112⟩ := hp112
          rw [z112]
          refine mm_if_eq (tgt := 140) C (mm_dec dk_X12_clause 71 rfl) (by decide) (fun c115 => ?_) (fun c115 => ?_)
          · skip
            refine mm_fgt 1 ?_
            refine mm_fgt 2 ?_
            refine mm_fgt 3 ?_
            exact J140 h8 i8 f8 (by first | exact zM.1 | exact mm_cl_set zK (by omega) g88c (by decide) y88_0 (by omega) (by omega) (by omega) | exact (mm_cl_e2 zM (by omega) g127c y127_0 (by omega) y136_0 g136c (by rw [eh11, y136_1]) (by omega)).1) (by first | omega | exact fun z => (zm1 z).2.2.2 | exact fun _ => (mm_cl_e2 zM (by omega) g127c y127_0 (by omega) y136_0 g136c (by rw [eh11, y136_1]) (by omega)).2)
          · skip
            refine mm_aload_n C (mm_dec dk_X12_clause 72 rfl) rfl ?_
            refine mm_cVi (rest := []) C1 ev_X12_419 (mm_dec dk_X12_clause 73 rfl) (c_X12_knownWord_x x.2.1 hl (d - 1) (by omega) h8 i8 ) rfl rfl (Nat.le_of_ble_eq_true rfl) ⟨by decide, by decide⟩ rfl (fun r119 h119c hp119 => ?_) (fun _ _ q => q.elim)
            obtain ⟨b119, z119, y119_0⟩ := hp119
            rw [z119]
            refine mm_iconst C (mm_dec dk_X12_clause 74 rfl) ⟨by decide, by decide⟩ ?_
            refine mm_icmp_ne (tgt := 140) C (mm_dec dk_X12_clause 75 rfl) (by decide) (fun c123 => ?_) (fun c123 => ?_)
            · skip
              refine mm_fgt 1 ?_
              refine mm_fgt 2 ?_
              refine mm_fgt 3 ?_
              exact J140 h8 i8 f8 (by first | exact zM.1 | exact mm_cl_set zK (by omega) g88c (by decide) y88_0 (by omega) (by omega) (by omega) | exact (mm_cl_e2 zM (by omega) g127c y127_0 (by omega) y136_0 g136c (by rw [eh11, y136_1]) (by omega)).1) (by first | omega | exact fun z => (zm1 z).2.2.2 | exact fun _ => (mm_cl_e2 zM (by omega) g127c y127_0 (by omega) y136_0 g136c (by rw [eh11, y136_1]) (by omega)).2)
            · skip
              refine mm_aload_n C (mm_dec dk_X12_clause 76 rfl) rfl ?_
              refine mm_cVv (rest := []) C1 ev_X12_423 (mm_dec dk_X12_clause 77 rfl) (c_X12_goes x.2.1 hl (d - 1) (by omega) h8 i8 ) rfl rfl (Nat.le_of_ble_eq_true rfl) ⟨by decide, by decide⟩ rfl (fun h127c hp127 => ?_) (fun _ _ q => q.elim)
              obtain ⟨i127c, g127c, y127_0, y127_1, y127_2⟩ := hp127
              have f127c : mm_fr [(66, 57), (66, 58), (66, 60), (66, 61), (66, 62), (66, 63), (66, 64), (66, 65), (66, 66), (66, 69), (66, 70), (66, 71)] [102, 103, 104, 105, 106, 107, 108, 109] h h127c := mm_fr_tr f8 g127c (by decide +kernel)
              have q127c_107 : h127c.1 66 57 = h8.1 66 57 := g127c.1 66 57 (by decide)
              have q127c_108 : h127c.1 66 69 = h8.1 66 69 := g127c.1 66 69 (by decide)
              have q127c_109 : h127c.1 66 70 = h8.1 66 70 := g127c.1 66 70 (by decide)
              have q127c_110 : h127c.1 66 71 = h8.1 66 71 := g127c.1 66 71 (by decide)
              have g111 : 0 ≤ (h127c.1 66 62) ∧ (h127c.1 66 62) ≤ 500 := i127c.1 66 62
              have g112 : 0 ≤ (h127c.1 66 60) ∧ (h127c.1 66 60) ≤ 500 := i127c.1 66 60
              have g113 : -2147483648 ≤ (h127c.1 66 61) ∧ (h127c.1 66 61) ≤ 2147483647 := i127c.1 66 61
              have zm2 := zM.1.2.1.1
              have zm3 := zM.1.2.2.2.2.1
              have zm5 := zm1 (by omega)
              have zm4 := zm5.1
              have zm6 := zM.1.2.2.2.1
              refine mm_aload_n C (mm_dec dk_X12_clause 78 rfl) rfl ?_
              refine mm_getr (t := 106) C fl_X12_129 (mm_dec dk_X12_clause 79 rfl) rfl rfl (mm_ref i127c rfl) ?_
              refine mm_iload_n C (mm_dec dk_X12_clause 80 rfl) rfl ?_
              refine mm_aload_n C (mm_dec dk_X12_clause 81 rfl) rfl ?_
              refine mm_cVi (rest := [mI ((20 * p1) + (h40_.2.1 103 p1)), mR 106]) C1 ev_X12_451 (mm_dec dk_X12_clause 82 rfl) (c_X12_expression x.2.1 hl (d - 1) (by omega) h127c i127c (by first | exact ⟨y127_1, y127_2⟩ | omega) (by first | exact ⟨y127_1, y127_2⟩ | omega)) rfl rfl (Nat.le_of_ble_eq_true rfl) ⟨by decide, by decide⟩ rfl (fun r136 h136c hp136 => ?_) (fun _ _ q => q.elim)
              obtain ⟨b136, i136c, g136c, y136_0, y136_1⟩ := hp136
              have f136c : mm_fr [(66, 57), (66, 58), (66, 60), (66, 61), (66, 62), (66, 63), (66, 64), (66, 65), (66, 66), (66, 69), (66, 70), (66, 71)] [102, 103, 104, 105, 106, 107, 108, 109] h h136c := mm_fr_tr f127c g136c (by decide +kernel)
              have g115 : -2147483648 ≤ (h136c.1 66 57) ∧ (h136c.1 66 57) ≤ 2147483647 := i136c.1 66 57
              have g116 : 0 ≤ (h136c.1 66 69) ∧ (h136c.1 66 69) ≤ 2400 := i136c.1 66 69
              have g117 : 0 ≤ (h136c.1 66 70) ∧ (h136c.1 66 70) ≤ 520 := i136c.1 66 70
              have g118 : 0 ≤ (h136c.1 66 62) ∧ (h136c.1 66 62) ≤ 500 := i136c.1 66 62
              have g119 : 0 ≤ (h136c.1 66 60) ∧ (h136c.1 66 60) ≤ 500 := i136c.1 66 60
              have g120 : -2147483648 ≤ (h136c.1 66 61) ∧ (h136c.1 66 61) ≤ 2147483647 := i136c.1 66 61
              have g121 : 0 ≤ (h136c.1 66 71) ∧ (h136c.1 66 71) ≤ 6 := i136c.1 66 71
              refine mm_iast C (mm_dec dk_X12_clause 83 rfl) rfl (by omega) (by omega) ?_
              have i11 : mm_inv (mm_pa h136c 106 ((20 * p1) + (h40_.2.1 103 p1)) r136) := mm_inv_pa i136c (show -1 ≤ r136 ∧ r136 ≤ 2399 from ⟨by omega, by omega⟩)
              have f11 : mm_fr [(66, 57), (66, 58), (66, 60), (66, 61), (66, 62), (66, 63), (66, 64), (66, 65), (66, 66), (66, 69), (66, 70), (66, 71)] [102, 103, 104, 105, 106, 107, 108, 109] h (mm_pa h136c 106 ((20 * p1) + (h40_.2.1 103 p1)) r136) := mm_fr_pa f136c (by decide)
              obtain ⟨h11, eh11⟩ : ∃ z, z = mm_pa h136c 106 ((20 * p1) + (h40_.2.1 103 p1)) r136 := ⟨_, rfl⟩
              rw [← eh11] at i11 f11 ⊢
              have qh11_122 : h11.1 66 57 = h136c.1 66 57 := by rw [eh11]; rfl
              have qh11_123 : h11.1 66 60 = h136c.1 66 60 := by rw [eh11]; rfl
              have qh11_124 : h11.1 66 61 = h136c.1 66 61 := by rw [eh11]; rfl
              have qh11_125 : h11.1 66 62 = h136c.1 66 62 := by rw [eh11]; rfl
              have qh11_126 : h11.1 66 69 = h136c.1 66 69 := by rw [eh11]; rfl
              have qh11_127 : h11.1 66 70 = h136c.1 66 70 := by rw [eh11]; rfl
              have qh11_128 : h11.1 66 71 = h136c.1 66 71 := by rw [eh11]; rfl
              refine mm_fgt 1 ?_
              refine mm_fgt 2 ?_
              refine mm_fgt 3 ?_
              exact J140 h11 i11 f11 (by first | exact zM.1 | exact mm_cl_set zK (by omega) g88c (by decide) y88_0 (by omega) (by omega) (by omega) | exact (mm_cl_e2 zM (by omega) g127c y127_0 (by omega) y136_0 g136c (by rw [eh11, y136_1]) (by omega)).1) (by first | omega | exact fun z => (zm1 z).2.2.2 | exact fun _ => (mm_cl_e2 zM (by omega) g127c y127_0 (by omega) y136_0 g136c (by rw [eh11, y136_1]) (by omega)).2)
        · skip
          refine mm_aload_n C (mm_dec dk_X12_clause 54 rfl) rfl ?_
          refine mm_iload_n C (mm_dec dk_X12_clause 55 rfl) rfl ?_
          refine mm_cVv (rest := []) C1 ev_X12_448 (mm_dec dk_X12_clause 56 rfl) (c_X12_sets x.2.1 hl (d - 1) (by omega) h78c i78c p1 ⟨by omega, by omega⟩ (by first | exact zK.2.1 | omega) (by first | exact zK.2.1 | omega)) rfl rfl (Nat.le_of_ble_eq_true rfl) ⟨by decide, by decide⟩ rfl (fun h88c hp88 => ?_) (fun _ _ q => q.elim)
          obtain ⟨i88c, g88c, y88_0, y88_1⟩ := hp88
          have f88c : mm_fr [(66, 57), (66, 58), (66, 60), (66, 61), (66, 62), (66, 63), (66, 64), (66, 65), (66, 66), (66, 69), (66, 70), (66, 71)] [102, 103, 104, 105, 106, 107, 108, 109] h h88c := mm_fr_tr f78c g88c (by decide +kernel)
          have q88c_130 : h88c.1 66 69 = h78c.1 66 69 := g88c.1 66 69 (by decide)
          have q88c_131 : h88c.1 66 70 = h78c.1 66 70 := g88c.1 66 70 (by decide)
          have q88c_132 : h88c.1 66 71 = h78c.1 66 71 := g88c.1 66 71 (by decide)
          have g133 : -2147483648 ≤ (h88c.1 66 57) ∧ (h88c.1 66 57) ≤ 2147483647 := i88c.1 66 57
          have g134 : 0 ≤ (h88c.1 66 62) ∧ (h88c.1 66 62) ≤ 500 := i88c.1 66 62
          have g135 : 0 ≤ (h88c.1 66 60) ∧ (h88c.1 66 60) ≤ 500 := i88c.1 66 60
          have g136 : -2147483648 ≤ (h88c.1 66 61) ∧ (h88c.1 66 61) ≤ 2147483647 := i88c.1 66 61
          refine mm_goto (tgt := 140) C (mm_dec dk_X12_clause 57 rfl) (by decide) ?_
          refine mm_fgt 1 ?_
          refine mm_fgt 2 ?_
          refine mm_fgt 3 ?_
          exact J140 h88c i88c f88c (by first | exact zM.1 | exact mm_cl_set zK (by omega) g88c (by decide) y88_0 (by omega) (by omega) (by omega) | exact (mm_cl_e2 zM (by omega) g127c y127_0 (by omega) y136_0 g136c (by rw [eh11, y136_1]) (by omega)).1) (by first | omega | exact fun z => (zm1 z).2.2.2 | exact fun _ => (mm_cl_e2 zM (by omega) g127c y127_0 (by omega) y136_0 g136c (by rw [eh11, y136_1]) (by omega)).2)
      · skip
        exact mm_vret C T (mm_dec dk_X12_clause 26 rfl) (by decide : 0 ≤ 0) (by decide : 0 ≤ 0) ⟨rfl, ⟨i40_, f40_, by first | exact w169_0 | exact w140_0 | exact mm_rl_bad w40_0 (by omega) t0 (by omega) (by omega), by omega⟩⟩
    refine mm_icmp_ne (tgt := 40) C (mm_dec dk_X12_clause 19 rfl) (by decide) (fun c32 => ?_) (fun c32 => ?_)
    · skip
      exact J40 h24_ i24_ f24_ (by first | exact w24_0 | exact mm_fr_tr w24_0 g37c (by decide +kernel)) (by omega)
    · skip
      refine mm_aload_n C (mm_dec dk_X12_clause 20 rfl) rfl ?_
      refine mm_iconst C (mm_dec dk_X12_clause 21 rfl) ⟨by decide, by decide⟩ ?_
      refine mm_cVv (rest := []) C1 ev_X12_417 (mm_dec dk_X12_clause 22 rfl) (c_X12_wrong_x x.2.1 hl (d - 1) (by omega) h24_ i24_ 2 (by omega)) rfl rfl (Nat.le_of_ble_eq_true rfl) ⟨by decide, by decide⟩ rfl (fun h37c hp37 => ?_) (fun _ _ q => q.elim)
      obtain ⟨i37c, g37c, y37_0⟩ := hp37
      have f37c : mm_fr [(66, 57), (66, 58), (66, 60), (66, 61), (66, 62), (66, 63), (66, 64), (66, 65), (66, 66), (66, 69), (66, 70), (66, 71)] [102, 103, 104, 105, 106, 107, 108, 109] h h37c := mm_fr_tr f24_ g37c (by decide +kernel)
      have q37c_138 : h37c.1 66 60 = h24_.1 66 60 := g37c.1 66 60 (by decide)
      have q37c_139 : h37c.1 66 61 = h24_.1 66 61 := g37c.1 66 61 (by decide)
      have q37c_140 : h37c.1 66 62 = h24_.1 66 62 := g37c.1 66 62 (by decide)
      have q37c_141 : h37c.1 66 69 = h24_.1 66 69 := g37c.1 66 69 (by decide)
      have q37c_142 : h37c.1 66 70 = h24_.1 66 70 := g37c.1 66 70 (by decide)
      have q37c_143 : h37c.1 66 71 = h24_.1 66 71 := g37c.1 66 71 (by decide)
      have g144 : -2147483648 ≤ (h37c.1 66 57) ∧ (h37c.1 66 57) ≤ 2147483647 := i37c.1 66 57
      exact J40 h37c i37c f37c (by first | exact w24_0 | exact mm_fr_tr w24_0 g37c (by decide +kernel)) (by omega)
  refine mm_if_eq (tgt := 24) C (mm_dec dk_X12_clause 4 rfl) (by decide) (fun c6 => ?_) (fun c6 => ?_)
  · skip
    exact J24 h i0 f0 (by first | exact mm_fr_rf | exact g21c) (by omega)
  · skip
    refine mm_iload_n C (mm_dec dk_X12_clause 5 rfl) rfl ?_
    refine mm_iconst C (mm_dec dk_X12_clause 6 rfl) ⟨by decide, by decide⟩ ?_
    refine mm_icmp_eq (tgt := 24) C (mm_dec dk_X12_clause 7 rfl) (by decide) (fun c11 => ?_) (fun c11 => ?_)
    · skip
      exact J24 h i0 f0 (by first | exact mm_fr_rf | exact g21c) (by omega)
    · skip
      refine mm_iload_n C (mm_dec dk_X12_clause 8 rfl) rfl ?_
      refine mm_iconst C (mm_dec dk_X12_clause 9 rfl) ⟨by decide, by decide⟩ ?_
      refine mm_icmp_eq (tgt := 24) C (mm_dec dk_X12_clause 10 rfl) (by decide) (fun c16 => ?_) (fun c16 => ?_)
      · skip
        exact J24 h i0 f0 (by first | exact mm_fr_rf | exact g21c) (by omega)
      · skip
        refine mm_aload_n C (mm_dec dk_X12_clause 11 rfl) rfl ?_
        refine mm_iconst C (mm_dec dk_X12_clause 12 rfl) ⟨by decide, by decide⟩ ?_
        refine mm_cVv (rest := []) C1 ev_X12_417 (mm_dec dk_X12_clause 13 rfl) (c_X12_wrong_x x.2.1 hl (d - 1) (by omega) h i0 1 (by omega)) rfl rfl (Nat.le_of_ble_eq_true rfl) ⟨by decide, by decide⟩ rfl (fun h21c hp21 => ?_) (fun _ _ q => q.elim)
        obtain ⟨i21c, g21c, y21_0⟩ := hp21
        have f21c : mm_fr [(66, 57), (66, 58), (66, 60), (66, 61), (66, 62), (66, 63), (66, 64), (66, 65), (66, 66), (66, 69), (66, 70), (66, 71)] [102, 103, 104, 105, 106, 107, 108, 109] h h21c := mm_fr_tr f0 g21c (by decide +kernel)
        have q21c_146 : h21c.1 66 60 = h.1 66 60 := g21c.1 66 60 (by decide)
        have q21c_147 : h21c.1 66 61 = h.1 66 61 := g21c.1 66 61 (by decide)
        have q21c_148 : h21c.1 66 62 = h.1 66 62 := g21c.1 66 62 (by decide)
        have q21c_149 : h21c.1 66 69 = h.1 66 69 := g21c.1 66 69 (by decide)
        have q21c_150 : h21c.1 66 70 = h.1 66 70 := g21c.1 66 70 (by decide)
        have q21c_151 : h21c.1 66 71 = h.1 66 71 := g21c.1 66 71 (by decide)
        have g152 : -2147483648 ≤ (h21c.1 66 57) ∧ (h21c.1 66 57) ≤ 2147483647 := i21c.1 66 57
        exact J24 h21c i21c f21c (by first | exact mm_fr_rf | exact g21c) (by omega)
set_option maxRecDepth 100000 in
set_option maxHeartbeats 4000000 in
theorem c_X12_rules (l : Launch) (hl : l.stackTraces = false) (d : Nat) (hd : 7 ≤ d) (h : mH) (i0 : mm_inv h) (p1 : Int) (t0 : mm_RO h) : mm_Met l d yX12_rules cX12_rules 3 (some .int) [mR 66, mI p1] h (mm_pi fun r h2 => (-2147483648 ≤ r ∧ r ≤ 2147483647) ∧ mm_inv h2 ∧ mm_fr [(66, 0), (66, 56), (66, 57), (66, 58), (66, 59), (66, 60), (66, 61), (66, 62), (66, 63), (66, 64), (66, 65), (66, 66), (66, 67), (66, 68), (66, 69), (66, 70), (66, 71)] [102, 103, 104, 105, 106, 107, 108, 109] h h2 ∧ mm_RO h2) mm_nx 0 0 := by
  refine mm_ofW (ls := [mR 66, mI p1, mU]) hl (by decide) rfl (Nat.le_of_ble_eq_true rfl) ?_
  intro x hxl C T hnm htb
  subst hxl
  have C1 := mm_OK_le (d' := d - 1 + 1) (by omega) C
  refine mm_rng (fun hr _ => ?_)
  have ap1 : -2147483648 ≤ p1 ∧ p1 < 2147483648 := mm_ok_at hr (i := 1) rfl
  have f0 : mm_fr [(66, 0), (66, 56), (66, 57), (66, 58), (66, 59), (66, 60), (66, 61), (66, 62), (66, 63), (66, 64), (66, 65), (66, 66), (66, 67), (66, 68), (66, 69), (66, 70), (66, 71)] [102, 103, 104, 105, 106, 107, 108, 109] h h := mm_fr_rf
  have g1 : -2147483648 ≤ h.1 66 57 ∧ h.1 66 57 ≤ 2147483647 := i0.1 66 57
  have g2 : 0 ≤ h.1 66 69 ∧ h.1 66 69 ≤ 2400 := i0.1 66 69
  have g3 : 0 ≤ h.1 66 70 ∧ h.1 66 70 ≤ 520 := i0.1 66 70
  have g4 : 0 ≤ h.1 66 62 ∧ h.1 66 62 ≤ 500 := i0.1 66 62
  have g5 : 0 ≤ h.1 66 60 ∧ h.1 66 60 ≤ 500 := i0.1 66 60
  have g6 : -2147483648 ≤ h.1 66 61 ∧ h.1 66 61 ≤ 2147483647 := i0.1 66 61
  have g7 : 0 ≤ h.1 66 71 ∧ h.1 66 71 ≤ 6 := i0.1 66 71
  have g8 : 0 ≤ h.1 66 67 ∧ h.1 66 67 ≤ 1 := i0.1 66 67
  have g9 : 0 ≤ h.1 66 68 ∧ h.1 66 68 ≤ 1 := i0.1 66 68
  have g10 : 0 ≤ h.1 66 56 ∧ h.1 66 56 ≤ 500 := i0.1 66 56
  refine mm_aload_n C (mm_dec dk_X12_rules 0 rfl) rfl ?_
  refine mm_iconst C (mm_dec dk_X12_rules 1 rfl) ⟨by decide, by decide⟩ ?_
  refine mm_puti C fl_X12_188 (mm_dec dk_X12_rules 2 rfl) rfl rfl rfl (Or.inl ⟨rfl, rfl⟩) ?_
  have i1 : mm_inv (mm_pf h 66 0 0) := mm_inv_pf i0 (show -2147483648 ≤ 0 ∧ 0 ≤ 2147483647 from ⟨by omega, by omega⟩) (by decide)
  have f1 : mm_fr [(66, 0), (66, 56), (66, 57), (66, 58), (66, 59), (66, 60), (66, 61), (66, 62), (66, 63), (66, 64), (66, 65), (66, 66), (66, 67), (66, 68), (66, 69), (66, 70), (66, 71)] [102, 103, 104, 105, 106, 107, 108, 109] h (mm_pf h 66 0 0) := mm_fr_pf f0 (by decide)
  obtain ⟨h1, eh1⟩ : ∃ z, z = mm_pf h 66 0 0 := ⟨_, rfl⟩
  rw [← eh1] at i1 f1 ⊢
  have qh1 : h1.1 66 0 = 0 := by rw [eh1]; exact mm_pf_same _ _ _ _
  have qh1_11 : h1.1 66 56 = h.1 66 56 := by rw [eh1]; exact mm_pf_ne _ _ (by decide)
  have qh1_12 : h1.1 66 57 = h.1 66 57 := by rw [eh1]; exact mm_pf_ne _ _ (by decide)
  have qh1_13 : h1.1 66 60 = h.1 66 60 := by rw [eh1]; exact mm_pf_ne _ _ (by decide)
  have qh1_14 : h1.1 66 61 = h.1 66 61 := by rw [eh1]; exact mm_pf_ne _ _ (by decide)
  have qh1_15 : h1.1 66 62 = h.1 66 62 := by rw [eh1]; exact mm_pf_ne _ _ (by decide)
  have qh1_16 : h1.1 66 67 = h.1 66 67 := by rw [eh1]; exact mm_pf_ne _ _ (by decide)
  have qh1_17 : h1.1 66 68 = h.1 66 68 := by rw [eh1]; exact mm_pf_ne _ _ (by decide)
  have qh1_18 : h1.1 66 69 = h.1 66 69 := by rw [eh1]; exact mm_pf_ne _ _ (by decide)
  have qh1_19 : h1.1 66 70 = h.1 66 70 := by rw [eh1]; exact mm_pf_ne _ _ (by decide)
  have qh1_20 : h1.1 66 71 = h.1 66 71 := by rw [eh1]; exact mm_pf_ne _ _ (by decide)
  refine mm_aload_n C (mm_dec dk_X12_rules 3 rfl) rfl ?_
  refine mm_iload_n C (mm_dec dk_X12_rules 4 rfl) rfl ?_
  have J23 : ∀ (s23_1 : Int) (bs23_1 : 0 ≤ s23_1 ∧ s23_1 ≤ 1) (vs23_1 : (s23_1 = 0) ∨ (0 ≤ p1 ∧ p1 ≤ (h1.1 66 56) ∧ s23_1 = 1)), mm_W x 0 0 23 [mR 66, mI p1, mU] [mI s23_1, mR 66] h1 := by
    intro s23_1 bs23_1 vs23_1
    refine mm_iconst C (mm_dec dk_X12_rules 13 rfl) ⟨by decide, by decide⟩ ?_
    refine mm_cVi (rest := []) C1 ev_X12_251 (mm_dec dk_X12_rules 14 rfl) (c_X12_right x.2.1 hl (d - 1) (by omega) h1 i1 s23_1 1 ⟨by omega, by omega⟩ (by omega)) rfl rfl (Nat.le_of_ble_eq_true rfl) ⟨by decide, by decide⟩ rfl (fun r24 h24c hp24 => ?_) (fun _ _ q => q.elim)
    obtain ⟨b24, i24c, g24c, y24_0⟩ := hp24
    have f24c : mm_fr [(66, 0), (66, 56), (66, 57), (66, 58), (66, 59), (66, 60), (66, 61), (66, 62), (66, 63), (66, 64), (66, 65), (66, 66), (66, 67), (66, 68), (66, 69), (66, 70), (66, 71)] [102, 103, 104, 105, 106, 107, 108, 109] h h24c := mm_fr_tr f1 g24c (by decide +kernel)
    have q24c_22 : h24c.1 66 56 = h1.1 66 56 := g24c.1 66 56 (by decide)
    have q24c_23 : h24c.1 66 57 = h1.1 66 57 := g24c.1 66 57 (by decide)
    have q24c_24 : h24c.1 66 60 = h1.1 66 60 := g24c.1 66 60 (by decide)
    have q24c_25 : h24c.1 66 61 = h1.1 66 61 := g24c.1 66 61 (by decide)
    have q24c_26 : h24c.1 66 62 = h1.1 66 62 := g24c.1 66 62 (by decide)
    have q24c_27 : h24c.1 66 67 = h1.1 66 67 := g24c.1 66 67 (by decide)
    have q24c_28 : h24c.1 66 68 = h1.1 66 68 := g24c.1 66 68 (by decide)
    have q24c_29 : h24c.1 66 69 = h1.1 66 69 := g24c.1 66 69 (by decide)
    have q24c_30 : h24c.1 66 70 = h1.1 66 70 := g24c.1 66 70 (by decide)
    have q24c_31 : h24c.1 66 71 = h1.1 66 71 := g24c.1 66 71 (by decide)
    refine mm_if_ne (tgt := 32) C (mm_dec dk_X12_rules 15 rfl) (by decide) (fun c27 => ?_) (fun c27 => ?_)
    · skip
      refine mm_aload_n C (mm_dec dk_X12_rules 18 rfl) rfl ?_
      refine mm_iconst C (mm_dec dk_X12_rules 19 rfl) ⟨by decide, by decide⟩ ?_
      refine mm_puti C fl_X12_350 (mm_dec dk_X12_rules 20 rfl) rfl rfl rfl (Or.inl ⟨rfl, rfl⟩) ?_
      have i3 : mm_inv (mm_pf h24c 66 56 0) := mm_inv_pf i24c (show 0 ≤ 0 ∧ 0 ≤ 500 from ⟨by omega, by omega⟩) (by decide)
      have f3 : mm_fr [(66, 0), (66, 56), (66, 57), (66, 58), (66, 59), (66, 60), (66, 61), (66, 62), (66, 63), (66, 64), (66, 65), (66, 66), (66, 67), (66, 68), (66, 69), (66, 70), (66, 71)] [102, 103, 104, 105, 106, 107, 108, 109] h (mm_pf h24c 66 56 0) := mm_fr_pf f24c (by decide)
      obtain ⟨h3, eh3⟩ : ∃ z, z = mm_pf h24c 66 56 0 := ⟨_, rfl⟩
      rw [← eh3] at i3 f3 ⊢
      have qh3 : h3.1 66 56 = 0 := by rw [eh3]; exact mm_pf_same _ _ _ _
      have qh3_32 : h3.1 66 57 = h24c.1 66 57 := by rw [eh3]; exact mm_pf_ne _ _ (by decide)
      have qh3_33 : h3.1 66 60 = h24c.1 66 60 := by rw [eh3]; exact mm_pf_ne _ _ (by decide)
      have qh3_34 : h3.1 66 61 = h24c.1 66 61 := by rw [eh3]; exact mm_pf_ne _ _ (by decide)
      have qh3_35 : h3.1 66 62 = h24c.1 66 62 := by rw [eh3]; exact mm_pf_ne _ _ (by decide)
      have qh3_36 : h3.1 66 67 = h24c.1 66 67 := by rw [eh3]; exact mm_pf_ne _ _ (by decide)
      have qh3_37 : h3.1 66 68 = h24c.1 66 68 := by rw [eh3]; exact mm_pf_ne _ _ (by decide)
      have qh3_38 : h3.1 66 69 = h24c.1 66 69 := by rw [eh3]; exact mm_pf_ne _ _ (by decide)
      have qh3_39 : h3.1 66 70 = h24c.1 66 70 := by rw [eh3]; exact mm_pf_ne _ _ (by decide)
      have qh3_40 : h3.1 66 71 = h24c.1 66 71 := by rw [eh3]; exact mm_pf_ne _ _ (by decide)
      refine mm_aload_n C (mm_dec dk_X12_rules 21 rfl) rfl ?_
      refine mm_iconst C (mm_dec dk_X12_rules 22 rfl) ⟨by decide, by decide⟩ ?_
      refine mm_puti C fl_X12_237 (mm_dec dk_X12_rules 23 rfl) rfl rfl rfl (Or.inl ⟨rfl, rfl⟩) ?_
      have i4 : mm_inv (mm_pf h3 66 58 (-1)) := mm_inv_pf i3 (show -2147483648 ≤ (-1) ∧ (-1) ≤ 2147483647 from ⟨by omega, by omega⟩) (by decide)
      have f4 : mm_fr [(66, 0), (66, 56), (66, 57), (66, 58), (66, 59), (66, 60), (66, 61), (66, 62), (66, 63), (66, 64), (66, 65), (66, 66), (66, 67), (66, 68), (66, 69), (66, 70), (66, 71)] [102, 103, 104, 105, 106, 107, 108, 109] h (mm_pf h3 66 58 (-1)) := mm_fr_pf f3 (by decide)
      obtain ⟨h4, eh4⟩ : ∃ z, z = mm_pf h3 66 58 (-1) := ⟨_, rfl⟩
      rw [← eh4] at i4 f4 ⊢
      have qh4 : h4.1 66 58 = (-1) := by rw [eh4]; exact mm_pf_same _ _ _ _
      have qh4_41 : h4.1 66 56 = h3.1 66 56 := by rw [eh4]; exact mm_pf_ne _ _ (by decide)
      have qh4_42 : h4.1 66 57 = h3.1 66 57 := by rw [eh4]; exact mm_pf_ne _ _ (by decide)
      have qh4_43 : h4.1 66 60 = h3.1 66 60 := by rw [eh4]; exact mm_pf_ne _ _ (by decide)
      have qh4_44 : h4.1 66 61 = h3.1 66 61 := by rw [eh4]; exact mm_pf_ne _ _ (by decide)
      have qh4_45 : h4.1 66 62 = h3.1 66 62 := by rw [eh4]; exact mm_pf_ne _ _ (by decide)
      have qh4_46 : h4.1 66 67 = h3.1 66 67 := by rw [eh4]; exact mm_pf_ne _ _ (by decide)
      have qh4_47 : h4.1 66 68 = h3.1 66 68 := by rw [eh4]; exact mm_pf_ne _ _ (by decide)
      have qh4_48 : h4.1 66 69 = h3.1 66 69 := by rw [eh4]; exact mm_pf_ne _ _ (by decide)
      have qh4_49 : h4.1 66 70 = h3.1 66 70 := by rw [eh4]; exact mm_pf_ne _ _ (by decide)
      have qh4_50 : h4.1 66 71 = h3.1 66 71 := by rw [eh4]; exact mm_pf_ne _ _ (by decide)
      refine mm_aload_n C (mm_dec dk_X12_rules 24 rfl) rfl ?_
      refine mm_iconst C (mm_dec dk_X12_rules 25 rfl) ⟨by decide, by decide⟩ ?_
      refine mm_puti C fl_X12_398 (mm_dec dk_X12_rules 26 rfl) rfl rfl rfl (Or.inl ⟨rfl, rfl⟩) ?_
      have i5 : mm_inv (mm_pf h4 66 57 0) := mm_inv_pf i4 (show -2147483648 ≤ 0 ∧ 0 ≤ 2147483647 from ⟨by omega, by omega⟩) (by decide)
      have f5 : mm_fr [(66, 0), (66, 56), (66, 57), (66, 58), (66, 59), (66, 60), (66, 61), (66, 62), (66, 63), (66, 64), (66, 65), (66, 66), (66, 67), (66, 68), (66, 69), (66, 70), (66, 71)] [102, 103, 104, 105, 106, 107, 108, 109] h (mm_pf h4 66 57 0) := mm_fr_pf f4 (by decide)
      obtain ⟨h5, eh5⟩ : ∃ z, z = mm_pf h4 66 57 0 := ⟨_, rfl⟩
      rw [← eh5] at i5 f5 ⊢
      have qh5 : h5.1 66 57 = 0 := by rw [eh5]; exact mm_pf_same _ _ _ _
      have qh5_51 : h5.1 66 56 = h4.1 66 56 := by rw [eh5]; exact mm_pf_ne _ _ (by decide)
      have qh5_52 : h5.1 66 58 = h4.1 66 58 := by rw [eh5]; exact mm_pf_ne _ _ (by decide)
      have qh5_53 : h5.1 66 60 = h4.1 66 60 := by rw [eh5]; exact mm_pf_ne _ _ (by decide)
      have qh5_54 : h5.1 66 61 = h4.1 66 61 := by rw [eh5]; exact mm_pf_ne _ _ (by decide)
      have qh5_55 : h5.1 66 62 = h4.1 66 62 := by rw [eh5]; exact mm_pf_ne _ _ (by decide)
      have qh5_56 : h5.1 66 67 = h4.1 66 67 := by rw [eh5]; exact mm_pf_ne _ _ (by decide)
      have qh5_57 : h5.1 66 68 = h4.1 66 68 := by rw [eh5]; exact mm_pf_ne _ _ (by decide)
      have qh5_58 : h5.1 66 69 = h4.1 66 69 := by rw [eh5]; exact mm_pf_ne _ _ (by decide)
      have qh5_59 : h5.1 66 70 = h4.1 66 70 := by rw [eh5]; exact mm_pf_ne _ _ (by decide)
      have qh5_60 : h5.1 66 71 = h4.1 66 71 := by rw [eh5]; exact mm_pf_ne _ _ (by decide)
      refine mm_aload_n C (mm_dec dk_X12_rules 27 rfl) rfl ?_
      refine mm_geti C fl_X12_240 (mm_dec dk_X12_rules 28 rfl) rfl rfl (Or.inr rfl) ?_
      have J64 : ∀ (s64_0 : Int) (bs64_0 : 0 ≤ s64_0 ∧ s64_0 ≤ 1) (w64_0 : (h5.1 66 67 = 0 ∨ s64_0 = 1 - h5.1 66 68)), mm_W x 0 0 64 [mR 66, mI p1, mU] [mI s64_0] h5 := by
        intro s64_0 bs64_0 w64_0
        refine mm_istore_nL (ls2 := [mR 66, mI p1, mI s64_0]) C (mm_dec dk_X12_rules 36 rfl) (by decide) rfl ?_
        refine mm_aload_n C (mm_dec dk_X12_rules 37 rfl) rfl ?_
        refine mm_iload_n C (mm_dec dk_X12_rules 38 rfl) rfl ?_
        refine mm_puti C fl_X12_356 (mm_dec dk_X12_rules 39 rfl) rfl rfl rfl (Or.inl ⟨rfl, rfl⟩) ?_
        have i6 : mm_inv (mm_pf h5 66 59 p1) := mm_inv_pf i5 (show 0 ≤ p1 ∧ p1 ≤ 500 from ⟨by omega, by omega⟩) (by decide)
        have f6 : mm_fr [(66, 0), (66, 56), (66, 57), (66, 58), (66, 59), (66, 60), (66, 61), (66, 62), (66, 63), (66, 64), (66, 65), (66, 66), (66, 67), (66, 68), (66, 69), (66, 70), (66, 71)] [102, 103, 104, 105, 106, 107, 108, 109] h (mm_pf h5 66 59 p1) := mm_fr_pf f5 (by decide)
        obtain ⟨h6, eh6⟩ : ∃ z, z = mm_pf h5 66 59 p1 := ⟨_, rfl⟩
        rw [← eh6] at i6 f6 ⊢
        have qh6 : h6.1 66 59 = p1 := by rw [eh6]; exact mm_pf_same _ _ _ _
        have qh6_61 : h6.1 66 56 = h5.1 66 56 := by rw [eh6]; exact mm_pf_ne _ _ (by decide)
        have qh6_62 : h6.1 66 57 = h5.1 66 57 := by rw [eh6]; exact mm_pf_ne _ _ (by decide)
        have qh6_63 : h6.1 66 58 = h5.1 66 58 := by rw [eh6]; exact mm_pf_ne _ _ (by decide)
        have qh6_64 : h6.1 66 60 = h5.1 66 60 := by rw [eh6]; exact mm_pf_ne _ _ (by decide)
        have qh6_65 : h6.1 66 61 = h5.1 66 61 := by rw [eh6]; exact mm_pf_ne _ _ (by decide)
        have qh6_66 : h6.1 66 62 = h5.1 66 62 := by rw [eh6]; exact mm_pf_ne _ _ (by decide)
        have qh6_67 : h6.1 66 67 = h5.1 66 67 := by rw [eh6]; exact mm_pf_ne _ _ (by decide)
        have qh6_68 : h6.1 66 68 = h5.1 66 68 := by rw [eh6]; exact mm_pf_ne _ _ (by decide)
        have qh6_69 : h6.1 66 69 = h5.1 66 69 := by rw [eh6]; exact mm_pf_ne _ _ (by decide)
        have qh6_70 : h6.1 66 70 = h5.1 66 70 := by rw [eh6]; exact mm_pf_ne _ _ (by decide)
        have qh6_71 : h6.1 66 71 = h5.1 66 71 := by rw [eh6]; exact mm_pf_ne _ _ (by decide)
        refine mm_aload_n C (mm_dec dk_X12_rules 40 rfl) rfl ?_
        refine mm_iconst C (mm_dec dk_X12_rules 41 rfl) ⟨by decide, by decide⟩ ?_
        refine mm_puti C fl_X12_359 (mm_dec dk_X12_rules 42 rfl) rfl rfl rfl (Or.inl ⟨rfl, rfl⟩) ?_
        have i7 : mm_inv (mm_pf h6 66 60 0) := mm_inv_pf i6 (show 0 ≤ 0 ∧ 0 ≤ 500 from ⟨by omega, by omega⟩) (by decide)
        have f7 : mm_fr [(66, 0), (66, 56), (66, 57), (66, 58), (66, 59), (66, 60), (66, 61), (66, 62), (66, 63), (66, 64), (66, 65), (66, 66), (66, 67), (66, 68), (66, 69), (66, 70), (66, 71)] [102, 103, 104, 105, 106, 107, 108, 109] h (mm_pf h6 66 60 0) := mm_fr_pf f6 (by decide)
        obtain ⟨h7, eh7⟩ : ∃ z, z = mm_pf h6 66 60 0 := ⟨_, rfl⟩
        rw [← eh7] at i7 f7 ⊢
        have qh7 : h7.1 66 60 = 0 := by rw [eh7]; exact mm_pf_same _ _ _ _
        have qh7_72 : h7.1 66 56 = h6.1 66 56 := by rw [eh7]; exact mm_pf_ne _ _ (by decide)
        have qh7_73 : h7.1 66 57 = h6.1 66 57 := by rw [eh7]; exact mm_pf_ne _ _ (by decide)
        have qh7_74 : h7.1 66 58 = h6.1 66 58 := by rw [eh7]; exact mm_pf_ne _ _ (by decide)
        have qh7_75 : h7.1 66 59 = h6.1 66 59 := by rw [eh7]; exact mm_pf_ne _ _ (by decide)
        have qh7_76 : h7.1 66 61 = h6.1 66 61 := by rw [eh7]; exact mm_pf_ne _ _ (by decide)
        have qh7_77 : h7.1 66 62 = h6.1 66 62 := by rw [eh7]; exact mm_pf_ne _ _ (by decide)
        have qh7_78 : h7.1 66 67 = h6.1 66 67 := by rw [eh7]; exact mm_pf_ne _ _ (by decide)
        have qh7_79 : h7.1 66 68 = h6.1 66 68 := by rw [eh7]; exact mm_pf_ne _ _ (by decide)
        have qh7_80 : h7.1 66 69 = h6.1 66 69 := by rw [eh7]; exact mm_pf_ne _ _ (by decide)
        have qh7_81 : h7.1 66 70 = h6.1 66 70 := by rw [eh7]; exact mm_pf_ne _ _ (by decide)
        have qh7_82 : h7.1 66 71 = h6.1 66 71 := by rw [eh7]; exact mm_pf_ne _ _ (by decide)
        refine mm_aload_n C (mm_dec dk_X12_rules 43 rfl) rfl ?_
        refine mm_sipush C (mm_dec dk_X12_rules 44 rfl) ⟨by decide, by decide⟩ ?_
        refine mm_iload_n C (mm_dec dk_X12_rules 45 rfl) rfl ?_
        refine mm_imul C (mm_dec dk_X12_rules 46 rfl) ⟨by omega, by omega⟩ ?_
        refine mm_puti C fl_X12_401 (mm_dec dk_X12_rules 47 rfl) rfl rfl rfl (Or.inl ⟨rfl, rfl⟩) ?_
        have i8 : mm_inv (mm_pf h7 66 69 (1200 * s64_0)) := mm_inv_pf i7 (show 0 ≤ (1200 * s64_0) ∧ (1200 * s64_0) ≤ 2400 from ⟨by omega, by omega⟩) (by decide)
        have f8 : mm_fr [(66, 0), (66, 56), (66, 57), (66, 58), (66, 59), (66, 60), (66, 61), (66, 62), (66, 63), (66, 64), (66, 65), (66, 66), (66, 67), (66, 68), (66, 69), (66, 70), (66, 71)] [102, 103, 104, 105, 106, 107, 108, 109] h (mm_pf h7 66 69 (1200 * s64_0)) := mm_fr_pf f7 (by decide)
        obtain ⟨h8, eh8⟩ : ∃ z, z = mm_pf h7 66 69 (1200 * s64_0) := ⟨_, rfl⟩
        rw [← eh8] at i8 f8 ⊢
        have qh8 : h8.1 66 69 = (1200 * s64_0) := by rw [eh8]; exact mm_pf_same _ _ _ _
        have qh8_83 : h8.1 66 56 = h7.1 66 56 := by rw [eh8]; exact mm_pf_ne _ _ (by decide)
        have qh8_84 : h8.1 66 57 = h7.1 66 57 := by rw [eh8]; exact mm_pf_ne _ _ (by decide)
        have qh8_85 : h8.1 66 58 = h7.1 66 58 := by rw [eh8]; exact mm_pf_ne _ _ (by decide)
        have qh8_86 : h8.1 66 59 = h7.1 66 59 := by rw [eh8]; exact mm_pf_ne _ _ (by decide)
        have qh8_87 : h8.1 66 60 = h7.1 66 60 := by rw [eh8]; exact mm_pf_ne _ _ (by decide)
        have qh8_88 : h8.1 66 61 = h7.1 66 61 := by rw [eh8]; exact mm_pf_ne _ _ (by decide)
        have qh8_89 : h8.1 66 62 = h7.1 66 62 := by rw [eh8]; exact mm_pf_ne _ _ (by decide)
        have qh8_90 : h8.1 66 67 = h7.1 66 67 := by rw [eh8]; exact mm_pf_ne _ _ (by decide)
        have qh8_91 : h8.1 66 68 = h7.1 66 68 := by rw [eh8]; exact mm_pf_ne _ _ (by decide)
        have qh8_92 : h8.1 66 70 = h7.1 66 70 := by rw [eh8]; exact mm_pf_ne _ _ (by decide)
        have qh8_93 : h8.1 66 71 = h7.1 66 71 := by rw [eh8]; exact mm_pf_ne _ _ (by decide)
        refine mm_aload_n C (mm_dec dk_X12_rules 48 rfl) rfl ?_
        refine mm_getr (t := 103) C fl_X12_120 (mm_dec dk_X12_rules 49 rfl) rfl rfl (mm_ref i8 rfl) ?_
        refine mm_iload_n C (mm_dec dk_X12_rules 50 rfl) rfl ?_
        refine mm_iconst C (mm_dec dk_X12_rules 51 rfl) ⟨by decide, by decide⟩ ?_
        refine mm_iast C (mm_dec dk_X12_rules 52 rfl) rfl (by omega) (by omega) ?_
        have i9 : mm_inv (mm_pa h8 103 s64_0 0) := mm_inv_pa i8 (show 0 ≤ 0 ∧ 0 ≤ 20 from ⟨by omega, by omega⟩)
        have f9 : mm_fr [(66, 0), (66, 56), (66, 57), (66, 58), (66, 59), (66, 60), (66, 61), (66, 62), (66, 63), (66, 64), (66, 65), (66, 66), (66, 67), (66, 68), (66, 69), (66, 70), (66, 71)] [102, 103, 104, 105, 106, 107, 108, 109] h (mm_pa h8 103 s64_0 0) := mm_fr_pa f8 (by decide)
        obtain ⟨h9, eh9⟩ : ∃ z, z = mm_pa h8 103 s64_0 0 := ⟨_, rfl⟩
        rw [← eh9] at i9 f9 ⊢
        have qh9_94 : h9.1 66 56 = h8.1 66 56 := by rw [eh9]; rfl
        have qh9_95 : h9.1 66 57 = h8.1 66 57 := by rw [eh9]; rfl
        have qh9_96 : h9.1 66 58 = h8.1 66 58 := by rw [eh9]; rfl
        have qh9_97 : h9.1 66 59 = h8.1 66 59 := by rw [eh9]; rfl
        have qh9_98 : h9.1 66 60 = h8.1 66 60 := by rw [eh9]; rfl
        have qh9_99 : h9.1 66 61 = h8.1 66 61 := by rw [eh9]; rfl
        have qh9_100 : h9.1 66 62 = h8.1 66 62 := by rw [eh9]; rfl
        have qh9_101 : h9.1 66 67 = h8.1 66 67 := by rw [eh9]; rfl
        have qh9_102 : h9.1 66 68 = h8.1 66 68 := by rw [eh9]; rfl
        have qh9_103 : h9.1 66 69 = h8.1 66 69 := by rw [eh9]; rfl
        have qh9_104 : h9.1 66 70 = h8.1 66 70 := by rw [eh9]; rfl
        have qh9_105 : h9.1 66 71 = h8.1 66 71 := by rw [eh9]; rfl
        refine mm_aload_n C (mm_dec dk_X12_rules 53 rfl) rfl ?_
        refine mm_getr (t := 102) C fl_X12_117 (mm_dec dk_X12_rules 54 rfl) rfl rfl (mm_ref i9 rfl) ?_
        refine mm_iconst C (mm_dec dk_X12_rules 55 rfl) ⟨by decide, by decide⟩ ?_
        refine mm_iload_n C (mm_dec dk_X12_rules 56 rfl) rfl ?_
        refine mm_imul C (mm_dec dk_X12_rules 57 rfl) ⟨by omega, by omega⟩ ?_
        refine mm_sipush C (mm_dec dk_X12_rules 58 rfl) ⟨by decide, by decide⟩ ?_
        refine mm_iast C (mm_dec dk_X12_rules 59 rfl) rfl (by omega) (by omega) ?_
        have i10 : mm_inv (mm_pa h9 102 (3 * s64_0) 3600) := mm_inv_pa i9 (show -2147483648 ≤ 3600 ∧ 3600 ≤ 2147483647 from ⟨by omega, by omega⟩)
        have f10 : mm_fr [(66, 0), (66, 56), (66, 57), (66, 58), (66, 59), (66, 60), (66, 61), (66, 62), (66, 63), (66, 64), (66, 65), (66, 66), (66, 67), (66, 68), (66, 69), (66, 70), (66, 71)] [102, 103, 104, 105, 106, 107, 108, 109] h (mm_pa h9 102 (3 * s64_0) 3600) := mm_fr_pa f9 (by decide)
        obtain ⟨h10, eh10⟩ : ∃ z, z = mm_pa h9 102 (3 * s64_0) 3600 := ⟨_, rfl⟩
        rw [← eh10] at i10 f10 ⊢
        have qh10_106 : h10.1 66 56 = h9.1 66 56 := by rw [eh10]; rfl
        have qh10_107 : h10.1 66 57 = h9.1 66 57 := by rw [eh10]; rfl
        have qh10_108 : h10.1 66 58 = h9.1 66 58 := by rw [eh10]; rfl
        have qh10_109 : h10.1 66 59 = h9.1 66 59 := by rw [eh10]; rfl
        have qh10_110 : h10.1 66 60 = h9.1 66 60 := by rw [eh10]; rfl
        have qh10_111 : h10.1 66 61 = h9.1 66 61 := by rw [eh10]; rfl
        have qh10_112 : h10.1 66 62 = h9.1 66 62 := by rw [eh10]; rfl
        have qh10_113 : h10.1 66 67 = h9.1 66 67 := by rw [eh10]; rfl
        have qh10_114 : h10.1 66 68 = h9.1 66 68 := by rw [eh10]; rfl
        have qh10_115 : h10.1 66 69 = h9.1 66 69 := by rw [eh10]; rfl
        have qh10_116 : h10.1 66 70 = h9.1 66 70 := by rw [eh10]; rfl
        have qh10_117 : h10.1 66 71 = h9.1 66 71 := by rw [eh10]; rfl
        refine mm_aload_n C (mm_dec dk_X12_rules 60 rfl) rfl ?_
        refine mm_getr (t := 102) C fl_X12_117 (mm_dec dk_X12_rules 61 rfl) rfl rfl (mm_ref i10 rfl) ?_
        refine mm_iconst C (mm_dec dk_X12_rules 62 rfl) ⟨by decide, by decide⟩ ?_
        refine mm_iload_n C (mm_dec dk_X12_rules 63 rfl) rfl ?_
        refine mm_imul C (mm_dec dk_X12_rules 64 rfl) ⟨by omega, by omega⟩ ?_
        refine mm_iconst C (mm_dec dk_X12_rules 65 rfl) ⟨by decide, by decide⟩ ?_
        refine mm_iadd C (mm_dec dk_X12_rules 66 rfl) ⟨by omega, by omega⟩ ?_
        refine mm_bipush C (mm_dec dk_X12_rules 67 rfl) ⟨by decide, by decide⟩ ?_
        refine mm_iast C (mm_dec dk_X12_rules 68 rfl) rfl (by omega) (by omega) ?_
        have i11 : mm_inv (mm_pa h10 102 ((3 * s64_0) + 1) 60) := mm_inv_pa i10 (show -2147483648 ≤ 60 ∧ 60 ≤ 2147483647 from ⟨by omega, by omega⟩)
        have f11 : mm_fr [(66, 0), (66, 56), (66, 57), (66, 58), (66, 59), (66, 60), (66, 61), (66, 62), (66, 63), (66, 64), (66, 65), (66, 66), (66, 67), (66, 68), (66, 69), (66, 70), (66, 71)] [102, 103, 104, 105, 106, 107, 108, 109] h (mm_pa h10 102 ((3 * s64_0) + 1) 60) := mm_fr_pa f10 (by decide)
        obtain ⟨h11, eh11⟩ : ∃ z, z = mm_pa h10 102 ((3 * s64_0) + 1) 60 := ⟨_, rfl⟩
        rw [← eh11] at i11 f11 ⊢
        have qh11_118 : h11.1 66 56 = h10.1 66 56 := by rw [eh11]; rfl
        have qh11_119 : h11.1 66 57 = h10.1 66 57 := by rw [eh11]; rfl
        have qh11_120 : h11.1 66 58 = h10.1 66 58 := by rw [eh11]; rfl
        have qh11_121 : h11.1 66 59 = h10.1 66 59 := by rw [eh11]; rfl
        have qh11_122 : h11.1 66 60 = h10.1 66 60 := by rw [eh11]; rfl
        have qh11_123 : h11.1 66 61 = h10.1 66 61 := by rw [eh11]; rfl
        have qh11_124 : h11.1 66 62 = h10.1 66 62 := by rw [eh11]; rfl
        have qh11_125 : h11.1 66 67 = h10.1 66 67 := by rw [eh11]; rfl
        have qh11_126 : h11.1 66 68 = h10.1 66 68 := by rw [eh11]; rfl
        have qh11_127 : h11.1 66 69 = h10.1 66 69 := by rw [eh11]; rfl
        have qh11_128 : h11.1 66 70 = h10.1 66 70 := by rw [eh11]; rfl
        have qh11_129 : h11.1 66 71 = h10.1 66 71 := by rw [eh11]; rfl
        refine mm_aload_n C (mm_dec dk_X12_rules 69 rfl) rfl ?_
        refine mm_getr (t := 102) C fl_X12_117 (mm_dec dk_X12_rules 70 rfl) rfl rfl (mm_ref i11 rfl) ?_
        refine mm_iconst C (mm_dec dk_X12_rules 71 rfl) ⟨by decide, by decide⟩ ?_
        refine mm_iload_n C (mm_dec dk_X12_rules 72 rfl) rfl ?_
        refine mm_imul C (mm_dec dk_X12_rules 73 rfl) ⟨by omega, by omega⟩ ?_
        refine mm_iconst C (mm_dec dk_X12_rules 74 rfl) ⟨by decide, by decide⟩ ?_
        refine mm_iadd C (mm_dec dk_X12_rules 75 rfl) ⟨by omega, by omega⟩ ?_
        refine mm_sipush C (mm_dec dk_X12_rules 76 rfl) ⟨by decide, by decide⟩ ?_
        refine mm_iast C (mm_dec dk_X12_rules 77 rfl) rfl (by omega) (by omega) ?_
        have i12 : mm_inv (mm_pa h11 102 ((3 * s64_0) + 2) 900) := mm_inv_pa i11 (show -2147483648 ≤ 900 ∧ 900 ≤ 2147483647 from ⟨by omega, by omega⟩)
        have f12 : mm_fr [(66, 0), (66, 56), (66, 57), (66, 58), (66, 59), (66, 60), (66, 61), (66, 62), (66, 63), (66, 64), (66, 65), (66, 66), (66, 67), (66, 68), (66, 69), (66, 70), (66, 71)] [102, 103, 104, 105, 106, 107, 108, 109] h (mm_pa h11 102 ((3 * s64_0) + 2) 900) := mm_fr_pa f11 (by decide)
        obtain ⟨h12, eh12⟩ : ∃ z, z = mm_pa h11 102 ((3 * s64_0) + 2) 900 := ⟨_, rfl⟩
        rw [← eh12] at i12 f12 ⊢
        have qh12_130 : h12.1 66 56 = h11.1 66 56 := by rw [eh12]; rfl
        have qh12_131 : h12.1 66 57 = h11.1 66 57 := by rw [eh12]; rfl
        have qh12_132 : h12.1 66 58 = h11.1 66 58 := by rw [eh12]; rfl
        have qh12_133 : h12.1 66 59 = h11.1 66 59 := by rw [eh12]; rfl
        have qh12_134 : h12.1 66 60 = h11.1 66 60 := by rw [eh12]; rfl
        have qh12_135 : h12.1 66 61 = h11.1 66 61 := by rw [eh12]; rfl
        have qh12_136 : h12.1 66 62 = h11.1 66 62 := by rw [eh12]; rfl
        have qh12_137 : h12.1 66 67 = h11.1 66 67 := by rw [eh12]; rfl
        have qh12_138 : h12.1 66 68 = h11.1 66 68 := by rw [eh12]; rfl
        have qh12_139 : h12.1 66 69 = h11.1 66 69 := by rw [eh12]; rfl
        have qh12_140 : h12.1 66 70 = h11.1 66 70 := by rw [eh12]; rfl
        have qh12_141 : h12.1 66 71 = h11.1 66 71 := by rw [eh12]; rfl
        have zbk : mm_bk h h12 s64_0 := by rw [eh12]; refine mm_bk_pa ?_ (by decide); rw [eh11]; refine mm_bk_pa ?_ (by decide); rw [eh10]; refine mm_bk_pa ?_ (by decide); rw [eh9]; refine mm_bk_103 ?_; rw [eh8]; refine mm_bk_pf ?_; rw [eh7]; refine mm_bk_pf ?_; rw [eh6]; refine mm_bk_pf ?_; rw [eh5]; refine mm_bk_pf ?_; rw [eh4]; refine mm_bk_pf ?_; rw [eh3]; refine mm_bk_pf ?_; exact mm_bk_tr (by rw [eh1]; exact mm_bk_pf mm_bk_rf) (mm_bk_fr g24c (by decide))
        have z3 : h12.2.1 103 s64_0 = 0 := by rw [eh12, mm_pa_o 103 102 (by decide), eh11, mm_pa_o 103 102 (by decide), eh10, mm_pa_o 103 102 (by decide), eh9]; exact mm_pa_same _ _ _ _
        refine mm_aload_n C (mm_dec dk_X12_rules 78 rfl) rfl ?_
        have J131 : ∀ (n : Nat) (h131_ : mH) (i131_ : mm_inv h131_) (f131_ : mm_fr [(66, 0), (66, 56), (66, 57), (66, 58), (66, 59), (66, 60), (66, 61), (66, 62), (66, 63), (66, 64), (66, 65), (66, 66), (66, 67), (66, 68), (66, 69), (66, 70), (66, 71)] [102, 103, 104, 105, 106, 107, 108, 109] h h131_) (w131_0 : mm_rn h12 h131_ s64_0) (w131_1 : h131_.1 66 67 = h.1 66 67) (w131_2 : h131_.1 66 68 = h.1 66 68), (2 * (500 - h131_.1 66 62) + (if h131_.1 66 57 = 0 then 1 else 0) : Int) < n → mm_W x 0 0 131 [mR 66, mU, mI s64_0] [] h131_ := by
          intro n
          induction n with
          | zero =>
            intro h131_ i131_ f131_ w131_0 w131_1 w131_2 hm
            have g142 : -2147483648 ≤ h131_.1 66 57 ∧ h131_.1 66 57 ≤ 2147483647 := i131_.1 66 57
            have g143 : 0 ≤ h131_.1 66 69 ∧ h131_.1 66 69 ≤ 2400 := i131_.1 66 69
            have g144 : 0 ≤ h131_.1 66 70 ∧ h131_.1 66 70 ≤ 520 := i131_.1 66 70
            have g145 : 0 ≤ h131_.1 66 62 ∧ h131_.1 66 62 ≤ 500 := i131_.1 66 62
            have g146 : 0 ≤ h131_.1 66 60 ∧ h131_.1 66 60 ≤ 500 := i131_.1 66 60
            have g147 : -2147483648 ≤ h131_.1 66 61 ∧ h131_.1 66 61 ≤ 2147483647 := i131_.1 66 61
            have g148 : 0 ≤ h131_.1 66 71 ∧ h131_.1 66 71 ≤ 6 := i131_.1 66 71
            have g149 : 0 ≤ h131_.1 66 67 ∧ h131_.1 66 67 ≤ 1 := i131_.1 66 67
            have g150 : 0 ≤ h131_.1 66 68 ∧ h131_.1 66 68 ≤ 1 := i131_.1 66 68
            have g151 : 0 ≤ h131_.1 66 56 ∧ h131_.1 66 56 ≤ 500 := i131_.1 66 56
            exfalso; omega
          | succ n ih131 =>
            intro h131_ i131_ f131_ w131_0 w131_1 w131_2 hm131
            have g152 : -2147483648 ≤ h131_.1 66 57 ∧ h131_.1 66 57 ≤ 2147483647 := i131_.1 66 57
            have g153 : 0 ≤ h131_.1 66 69 ∧ h131_.1 66 69 ≤ 2400 := i131_.1 66 69
            have g154 : 0 ≤ h131_.1 66 70 ∧ h131_.1 66 70 ≤ 520 := i131_.1 66 70
            have g155 : 0 ≤ h131_.1 66 62 ∧ h131_.1 66 62 ≤ 500 := i131_.1 66 62
            have g156 : 0 ≤ h131_.1 66 60 ∧ h131_.1 66 60 ≤ 500 := i131_.1 66 60
            have g157 : -2147483648 ≤ h131_.1 66 61 ∧ h131_.1 66 61 ≤ 2147483647 := i131_.1 66 61
            have g158 : 0 ≤ h131_.1 66 71 ∧ h131_.1 66 71 ≤ 6 := i131_.1 66 71
            have g159 : 0 ≤ h131_.1 66 67 ∧ h131_.1 66 67 ≤ 1 := i131_.1 66 67
            have g160 : 0 ≤ h131_.1 66 68 ∧ h131_.1 66 68 ≤ 1 := i131_.1 66 68
            have g161 : 0 ≤ h131_.1 66 56 ∧ h131_.1 66 56 ≤ 500 := i131_.1 66 56
            have zt := w131_0.2.2.1
            have zu := w131_0.2.2.2.1
            have zv := w131_0.2.2.2.2
            refine mm_aload_n C (mm_dec dk_X12_rules 80 rfl) rfl ?_
            refine mm_cVi (rest := []) C1 ev_X12_413 (mm_dec dk_X12_rules 81 rfl) (c_X12_isGood x.2.1 hl (d - 1) (by omega) h131_ i131_ ) rfl rfl (Nat.le_of_ble_eq_true rfl) ⟨by decide, by decide⟩ rfl (fun r132 h132c hp132 => ?_) (fun _ _ q => q.elim)
            obtain ⟨z132, y132⟩ := hp132
            rw [z132]
            have J153 : mm_W x 0 0 153 [mR 66, mU, mI s64_0] [] h131_ := by
              have g163 : -2147483648 ≤ h131_.1 66 57 ∧ h131_.1 66 57 ≤ 2147483647 := i131_.1 66 57
              have g164 : 0 ≤ h131_.1 66 69 ∧ h131_.1 66 69 ≤ 2400 := i131_.1 66 69
              have g165 : 0 ≤ h131_.1 66 70 ∧ h131_.1 66 70 ≤ 520 := i131_.1 66 70
              have g166 : 0 ≤ h131_.1 66 62 ∧ h131_.1 66 62 ≤ 500 := i131_.1 66 62
              have g167 : 0 ≤ h131_.1 66 60 ∧ h131_.1 66 60 ≤ 500 := i131_.1 66 60
              have g168 : -2147483648 ≤ h131_.1 66 61 ∧ h131_.1 66 61 ≤ 2147483647 := i131_.1 66 61
              have g169 : 0 ≤ h131_.1 66 71 ∧ h131_.1 66 71 ≤ 6 := i131_.1 66 71
              have g170 : 0 ≤ h131_.1 66 67 ∧ h131_.1 66 67 ≤ 1 := i131_.1 66 67
              have g171 : 0 ≤ h131_.1 66 68 ∧ h131_.1 66 68 ≤ 1 := i131_.1 66 68
              have g172 : 0 ≤ h131_.1 66 56 ∧ h131_.1 66 56 ≤ 500 := i131_.1 66 56
              refine mm_aload_n C (mm_dec dk_X12_rules 90 rfl) rfl ?_
              refine mm_cVi (rest := []) C1 ev_X12_413 (mm_dec dk_X12_rules 91 rfl) (c_X12_isGood x.2.1 hl (d - 1) (by omega) h131_ i131_ ) rfl rfl (Nat.le_of_ble_eq_true rfl) ⟨by decide, by decide⟩ rfl (fun r154 h154c hp154 => ?_) (fun _ _ q => q.elim)
              obtain ⟨z154, y154⟩ := hp154
              rw [z154]
              refine mm_if_ne (tgt := 165) C (mm_dec dk_X12_rules 92 rfl) (by decide) (fun c157 => ?_) (fun c157 => ?_)
              · skip
                refine mm_aload_n C (mm_dec dk_X12_rules 96 rfl) rfl ?_
                refine mm_iconst C (mm_dec dk_X12_rules 97 rfl) ⟨by decide, by decide⟩ ?_
                refine mm_puti C fl_X12_240 (mm_dec dk_X12_rules 98 rfl) rfl rfl rfl (Or.inr ⟨rfl, rfl, by omega⟩) ?_
                have i13 : mm_inv (mm_pf h131_ 66 67 1) := mm_inv_pf i131_ (show 0 ≤ 1 ∧ 1 ≤ 1 from ⟨by omega, by omega⟩) (by decide)
                have f13 : mm_fr [(66, 0), (66, 56), (66, 57), (66, 58), (66, 59), (66, 60), (66, 61), (66, 62), (66, 63), (66, 64), (66, 65), (66, 66), (66, 67), (66, 68), (66, 69), (66, 70), (66, 71)] [102, 103, 104, 105, 106, 107, 108, 109] h (mm_pf h131_ 66 67 1) := mm_fr_pf f131_ (by decide)
                obtain ⟨h13, eh13⟩ : ∃ z, z = mm_pf h131_ 66 67 1 := ⟨_, rfl⟩
                rw [← eh13] at i13 f13 ⊢
                have qh13 : h13.1 66 67 = 1 := by rw [eh13]; exact mm_pf_same _ _ _ _
                have qh13_174 : h13.1 66 56 = h131_.1 66 56 := by rw [eh13]; exact mm_pf_ne _ _ (by decide)
                have qh13_175 : h13.1 66 57 = h131_.1 66 57 := by rw [eh13]; exact mm_pf_ne _ _ (by decide)
                have qh13_176 : h13.1 66 60 = h131_.1 66 60 := by rw [eh13]; exact mm_pf_ne _ _ (by decide)
                have qh13_177 : h13.1 66 61 = h131_.1 66 61 := by rw [eh13]; exact mm_pf_ne _ _ (by decide)
                have qh13_178 : h13.1 66 62 = h131_.1 66 62 := by rw [eh13]; exact mm_pf_ne _ _ (by decide)
                have qh13_179 : h13.1 66 68 = h131_.1 66 68 := by rw [eh13]; exact mm_pf_ne _ _ (by decide)
                have qh13_180 : h13.1 66 69 = h131_.1 66 69 := by rw [eh13]; exact mm_pf_ne _ _ (by decide)
                have qh13_181 : h13.1 66 70 = h131_.1 66 70 := by rw [eh13]; exact mm_pf_ne _ _ (by decide)
                have qh13_182 : h13.1 66 71 = h131_.1 66 71 := by rw [eh13]; exact mm_pf_ne _ _ (by decide)
                refine mm_aload_n C (mm_dec dk_X12_rules 99 rfl) rfl ?_
                refine mm_iload_n C (mm_dec dk_X12_rules 100 rfl) rfl ?_
                refine mm_puti C fl_X12_454 (mm_dec dk_X12_rules 101 rfl) rfl rfl rfl (Or.inl ⟨rfl, rfl⟩) ?_
                have i14 : mm_inv (mm_pf h13 66 68 s64_0) := mm_inv_pf i13 (show 0 ≤ s64_0 ∧ s64_0 ≤ 1 from ⟨by omega, by omega⟩) (by decide)
                have f14 : mm_fr [(66, 0), (66, 56), (66, 57), (66, 58), (66, 59), (66, 60), (66, 61), (66, 62), (66, 63), (66, 64), (66, 65), (66, 66), (66, 67), (66, 68), (66, 69), (66, 70), (66, 71)] [102, 103, 104, 105, 106, 107, 108, 109] h (mm_pf h13 66 68 s64_0) := mm_fr_pf f13 (by decide)
                obtain ⟨h14, eh14⟩ : ∃ z, z = mm_pf h13 66 68 s64_0 := ⟨_, rfl⟩
                rw [← eh14] at i14 f14 ⊢
                have qh14 : h14.1 66 68 = s64_0 := by rw [eh14]; exact mm_pf_same _ _ _ _
                have qh14_183 : h14.1 66 56 = h13.1 66 56 := by rw [eh14]; exact mm_pf_ne _ _ (by decide)
                have qh14_184 : h14.1 66 57 = h13.1 66 57 := by rw [eh14]; exact mm_pf_ne _ _ (by decide)
                have qh14_185 : h14.1 66 60 = h13.1 66 60 := by rw [eh14]; exact mm_pf_ne _ _ (by decide)
                have qh14_186 : h14.1 66 61 = h13.1 66 61 := by rw [eh14]; exact mm_pf_ne _ _ (by decide)
                have qh14_187 : h14.1 66 62 = h13.1 66 62 := by rw [eh14]; exact mm_pf_ne _ _ (by decide)
                have qh14_188 : h14.1 66 67 = h13.1 66 67 := by rw [eh14]; exact mm_pf_ne _ _ (by decide)
                have qh14_189 : h14.1 66 69 = h13.1 66 69 := by rw [eh14]; exact mm_pf_ne _ _ (by decide)
                have qh14_190 : h14.1 66 70 = h13.1 66 70 := by rw [eh14]; exact mm_pf_ne _ _ (by decide)
                have qh14_191 : h14.1 66 71 = h13.1 66 71 := by rw [eh14]; exact mm_pf_ne _ _ (by decide)
                refine mm_iconst C (mm_dec dk_X12_rules 102 rfl) ⟨by decide, by decide⟩ ?_
                exact mm_iret C T (mm_dec dk_X12_rules 103 rfl) (by decide : 0 ≤ 0) (by decide : 0 ≤ 0) ⟨_, rfl, ⟨⟨by omega, by omega⟩, i14, f14, by first | exact mm_RO_fr t0 f14 (by decide) | exact mm_RO_new w131_0 (by omega) (by omega) eh13 eh14 | exact mm_RO_bk i0 t0 (mm_bk_tr zbk w131_0.1) (by omega) (by omega) (by omega) | exact mm_RO_fr (mm_RO_fr (wf := [(66, 0)]) (wa := []) (h2 := h1) t0 (by rw [eh1]; exact mm_fr_pf mm_fr_rf (by decide)) (by decide)) g24c (by decide)⟩⟩
              · skip
                refine mm_aload_n C (mm_dec dk_X12_rules 93 rfl) rfl ?_
                refine mm_geti C fl_X12_398 (mm_dec dk_X12_rules 94 rfl) rfl rfl (Or.inl rfl) ?_
                exact mm_iret C T (mm_dec dk_X12_rules 95 rfl) (by decide : 0 ≤ 0) (by decide : 0 ≤ 0) ⟨_, rfl, ⟨⟨by omega, by omega⟩, i131_, f131_, by first | exact mm_RO_fr t0 f131_ (by decide) | exact mm_RO_new w131_0 (by omega) (by omega) eh13 eh14 | exact mm_RO_bk i0 t0 (mm_bk_tr zbk w131_0.1) (by omega) (by omega) (by omega) | exact mm_RO_fr (mm_RO_fr (wf := [(66, 0)]) (wa := []) (h2 := h1) t0 (by rw [eh1]; exact mm_fr_pf mm_fr_rf (by decide)) (by decide)) g24c (by decide)⟩⟩
            refine mm_if_eq (tgt := 153) C (mm_dec dk_X12_rules 82 rfl) (by decide) (fun c135 => ?_) (fun c135 => ?_)
            · skip
              exact J153
            · skip
              refine mm_aload_n C (mm_dec dk_X12_rules 83 rfl) rfl ?_
              refine mm_geti C fl_X12_378 (mm_dec dk_X12_rules 84 rfl) rfl rfl (Or.inl rfl) ?_
              refine mm_if_eq (tgt := 153) C (mm_dec dk_X12_rules 85 rfl) (by decide) (fun c142 => ?_) (fun c142 => ?_)
              · skip
                exact J153
              · skip
                refine mm_aload_n C (mm_dec dk_X12_rules 86 rfl) rfl ?_
                refine mm_iload_n C (mm_dec dk_X12_rules 87 rfl) rfl ?_
                refine mm_cVv (rest := []) C1 ev_X12_457 (mm_dec dk_X12_rules 88 rfl) (c_X12_clause x.2.1 hl (d - 1) (by omega) h131_ i131_ s64_0 ⟨by omega, by omega⟩ (by first | exact w131_0.2.1 | omega | exact (zv (by omega)).1 | exact (zv (by omega)).2) (by first | exact w131_0.2.1 | omega | exact (zv (by omega)).1 | exact (zv (by omega)).2) (by first | exact w131_0.2.1 | omega | exact (zv (by omega)).1 | exact (zv (by omega)).2) (by first | exact w131_0.2.1 | omega | exact (zv (by omega)).1 | exact (zv (by omega)).2) (by first | exact w131_0.2.1 | omega | exact (zv (by omega)).1 | exact (zv (by omega)).2) (by first | exact w131_0.2.1 | omega | exact (zv (by omega)).1 | exact (zv (by omega)).2)) rfl rfl (Nat.le_of_ble_eq_true rfl) ⟨by decide, by decide⟩ rfl (fun h147c hp147 => ?_) (fun _ _ q => q.elim)
                obtain ⟨i147c, g147c, y147_0, y147_1⟩ := hp147
                have f147c : mm_fr [(66, 0), (66, 56), (66, 57), (66, 58), (66, 59), (66, 60), (66, 61), (66, 62), (66, 63), (66, 64), (66, 65), (66, 66), (66, 67), (66, 68), (66, 69), (66, 70), (66, 71)] [102, 103, 104, 105, 106, 107, 108, 109] h h147c := mm_fr_tr f131_ g147c (by decide +kernel)
                have q147c_193 : h147c.1 66 56 = h131_.1 66 56 := g147c.1 66 56 (by decide)
                have q147c_194 : h147c.1 66 67 = h131_.1 66 67 := g147c.1 66 67 (by decide)
                have q147c_195 : h147c.1 66 68 = h131_.1 66 68 := g147c.1 66 68 (by decide)
                have g196 : -2147483648 ≤ (h147c.1 66 57) ∧ (h147c.1 66 57) ≤ 2147483647 := i147c.1 66 57
                have g197 : 0 ≤ (h147c.1 66 69) ∧ (h147c.1 66 69) ≤ 2400 := i147c.1 66 69
                have g198 : 0 ≤ (h147c.1 66 70) ∧ (h147c.1 66 70) ≤ 520 := i147c.1 66 70
                have g199 : 0 ≤ (h147c.1 66 62) ∧ (h147c.1 66 62) ≤ 500 := i147c.1 66 62
                have g200 : 0 ≤ (h147c.1 66 60) ∧ (h147c.1 66 60) ≤ 500 := i147c.1 66 60
                have g201 : -2147483648 ≤ (h147c.1 66 61) ∧ (h147c.1 66 61) ≤ 2147483647 := i147c.1 66 61
                have g202 : 0 ≤ (h147c.1 66 71) ∧ (h147c.1 66 71) ≤ 6 := i147c.1 66 71
                have zw := y147_0.2.2.1
                refine mm_goto (tgt := 131) C (mm_dec dk_X12_rules 89 rfl) (by decide) ?_
                exact ih131 h147c i147c f147c (by first | exact mm_rn_tr w131_0 y147_0 | exact mm_rn_init g128c (by omega) z3 y128_1 y128_2 (by omega)) (by omega) (by omega) (by omega)
        refine mm_cVv (rest := []) C1 ev_X12_423 (mm_dec dk_X12_rules 79 rfl) (c_X12_goes x.2.1 hl (d - 1) (by omega) h12 i12 ) rfl rfl (Nat.le_of_ble_eq_true rfl) ⟨by decide, by decide⟩ rfl (fun h128c hp128 => ?_) (fun _ _ q => q.elim)
        obtain ⟨i128c, g128c, y128_0, y128_1, y128_2⟩ := hp128
        have f128c : mm_fr [(66, 0), (66, 56), (66, 57), (66, 58), (66, 59), (66, 60), (66, 61), (66, 62), (66, 63), (66, 64), (66, 65), (66, 66), (66, 67), (66, 68), (66, 69), (66, 70), (66, 71)] [102, 103, 104, 105, 106, 107, 108, 109] h h128c := mm_fr_tr f12 g128c (by decide +kernel)
        have q128c_204 : h128c.1 66 56 = h12.1 66 56 := g128c.1 66 56 (by decide)
        have q128c_205 : h128c.1 66 57 = h12.1 66 57 := g128c.1 66 57 (by decide)
        have q128c_206 : h128c.1 66 58 = h12.1 66 58 := g128c.1 66 58 (by decide)
        have q128c_207 : h128c.1 66 59 = h12.1 66 59 := g128c.1 66 59 (by decide)
        have q128c_208 : h128c.1 66 67 = h12.1 66 67 := g128c.1 66 67 (by decide)
        have q128c_209 : h128c.1 66 68 = h12.1 66 68 := g128c.1 66 68 (by decide)
        have q128c_210 : h128c.1 66 69 = h12.1 66 69 := g128c.1 66 69 (by decide)
        have q128c_211 : h128c.1 66 70 = h12.1 66 70 := g128c.1 66 70 (by decide)
        have q128c_212 : h128c.1 66 71 = h12.1 66 71 := g128c.1 66 71 (by decide)
        have g213 : 0 ≤ (h128c.1 66 62) ∧ (h128c.1 66 62) ≤ 500 := i128c.1 66 62
        have g214 : 0 ≤ (h128c.1 66 60) ∧ (h128c.1 66 60) ≤ 500 := i128c.1 66 60
        have g215 : -2147483648 ≤ (h128c.1 66 61) ∧ (h128c.1 66 61) ≤ 2147483647 := i128c.1 66 61
        refine mm_fgt 1 ?_
        exact J131 (((2 * (500 - h128c.1 66 62) + (if h128c.1 66 57 = 0 then 1 else 0)) : Int) + 1).toNat h128c i128c f128c (by first | exact mm_rn_tr w131_0 y147_0 | exact mm_rn_init g128c (by omega) z3 y128_1 y128_2 (by omega)) (by omega) (by omega) (by omega)
      refine mm_if_eq (tgt := 63) C (mm_dec dk_X12_rules 29 rfl) (by decide) (fun c51 => ?_) (fun c51 => ?_)
      · skip
        refine mm_iconst C (mm_dec dk_X12_rules 35 rfl) ⟨by decide, by decide⟩ ?_
        exact J64 0 ⟨by omega, by omega⟩ (by omega)
      · skip
        refine mm_iconst C (mm_dec dk_X12_rules 30 rfl) ⟨by decide, by decide⟩ ?_
        refine mm_aload_n C (mm_dec dk_X12_rules 31 rfl) rfl ?_
        refine mm_geti C fl_X12_454 (mm_dec dk_X12_rules 32 rfl) rfl rfl (Or.inl rfl) ?_
        refine mm_isub C (mm_dec dk_X12_rules 33 rfl) ⟨by omega, by omega⟩ ?_
        refine mm_goto (tgt := 64) C (mm_dec dk_X12_rules 34 rfl) (by decide) ?_
        exact J64 (1 - (h5.1 66 68)) ⟨by omega, by omega⟩ (by omega)
    · skip
      refine mm_iconst C (mm_dec dk_X12_rules 16 rfl) ⟨by decide, by decide⟩ ?_
      exact mm_iret C T (mm_dec dk_X12_rules 17 rfl) (by decide : 0 ≤ 0) (by decide : 0 ≤ 0) ⟨_, rfl, ⟨⟨by omega, by omega⟩, i24c, f24c, by first | exact mm_RO_fr t0 f24c (by decide) | exact mm_RO_new w131_0 (by omega) (by omega) eh13 eh14 | exact mm_RO_bk i0 t0 (mm_bk_tr zbk w131_0.1) (by omega) (by omega) (by omega) | exact mm_RO_fr (mm_RO_fr (wf := [(66, 0)]) (wa := []) (h2 := h1) t0 (by rw [eh1]; exact mm_fr_pf mm_fr_rf (by decide)) (by decide)) g24c (by decide)⟩⟩
  have J22 : mm_W x 0 0 22 [mR 66, mI p1, mU] [mR 66] h1 := by
    refine mm_iconst C (mm_dec dk_X12_rules 12 rfl) ⟨by decide, by decide⟩ ?_
    exact J23 0 ⟨by omega, by omega⟩ (Or.inl rfl)
  refine mm_if_lt (tgt := 22) C (mm_dec dk_X12_rules 5 rfl) (by decide) (fun c7 => ?_) (fun c7 => ?_)
  · skip
    exact J22
  · skip
    refine mm_iload_n C (mm_dec dk_X12_rules 6 rfl) rfl ?_
    refine mm_aload_n C (mm_dec dk_X12_rules 7 rfl) rfl ?_
    refine mm_geti C fl_X12_350 (mm_dec dk_X12_rules 8 rfl) rfl rfl (Or.inl rfl) ?_
    refine mm_icmp_gt (tgt := 22) C (mm_dec dk_X12_rules 9 rfl) (by decide) (fun c15 => ?_) (fun c15 => ?_)
    · skip
      exact J22
    · skip
      refine mm_iconst C (mm_dec dk_X12_rules 10 rfl) ⟨by decide, by decide⟩ ?_
      refine mm_goto (tgt := 23) C (mm_dec dk_X12_rules 11 rfl) (by decide) ?_
      exact J23 1 ⟨by omega, by omega⟩ (Or.inr (⟨by omega, by omega, rfl⟩))
