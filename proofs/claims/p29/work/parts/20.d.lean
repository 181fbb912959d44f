set_option maxRecDepth 100000 in
set_option maxHeartbeats 4000000 in
theorem c_X7_readClause (l : Launch) (hl : l.stackTraces = false) (d : Nat) (hd : 48 ≤ d) (h : mH) (i0 : mm_inv h) (p1 : Int) (t0 : (h.1 63 5 = 0 ∨ h.1 63 7 ≤ 499)) : mm_Met l d yX7_readClause cX7_readClause 3 (some .boolean) [mR 63, mI p1] h (mm_pi fun r h2 => (0 ≤ r ∧ r ≤ 1) ∧ mm_inv h2 ∧ mm_fr [(63, 4), (63, 5), (63, 6), (63, 7), (63, 8), (63, 9), (63, 10)] [64, 65] h h2 ∧ (h2.1 63 5 = 0 ∨ h2.1 63 7 ≤ 499)) mm_nx 0 0 := by
  refine mm_ofW (ls := [mR 63, mI p1, mU]) hl (by decide) rfl (Nat.le_of_ble_eq_true rfl) ?_
  intro x hxl C T hnm htb
  subst hxl
  have C1 := mm_OK_le (d' := d - 1 + 1) (by omega) C
  have C8 := mm_OK_le (d' := d - 8 + 8) (by omega) C
  refine mm_rng (fun hr _ => ?_)
  have ap1 : -2147483648 ≤ p1 ∧ p1 < 2147483648 := mm_ok_at hr (i := 1) rfl
  have f0 : mm_fr [(63, 4), (63, 5), (63, 6), (63, 7), (63, 8), (63, 9), (63, 10)] [64, 65] h h := mm_fr_rf
  have g1 : -2147483648 ≤ h.1 63 5 ∧ h.1 63 5 ≤ 2147483647 := i0.1 63 5
  have g2 : 0 ≤ h.1 63 7 ∧ h.1 63 7 ≤ 500 := i0.1 63 7
  refine mm_aload_n C (mm_dec dk_X7_readClause 0 rfl) rfl ?_
  refine mm_geti C fl_X7_28 (mm_dec dk_X7_readClause 1 rfl) rfl rfl (Or.inl rfl) ?_
  have g3 : -2147483648 ≤ (h.1 63 6) ∧ (h.1 63 6) ≤ 2147483647 := i0.1 63 6
  refine mm_istore_nL (ls2 := [mR 63, mI p1, mI (h.1 63 6)]) C (mm_dec dk_X7_readClause 2 rfl) (by decide) rfl ?_
  refine mm_iload_n C (mm_dec dk_X7_readClause 3 rfl) rfl ?_
  have J25 : mm_W x 0 0 25 [mR 63, mI p1, mI (h.1 63 6)] [] h := by
    have g4 : -2147483648 ≤ h.1 63 5 ∧ h.1 63 5 ≤ 2147483647 := i0.1 63 5
    have g5 : 0 ≤ h.1 63 7 ∧ h.1 63 7 ≤ 500 := i0.1 63 7
    refine mm_iload_n C (mm_dec dk_X7_readClause 15 rfl) rfl ?_
    refine mm_bipush C (mm_dec dk_X7_readClause 16 rfl) ⟨by decide, by decide⟩ ?_
    refine mm_icmp_lt (tgt := 37) C (mm_dec dk_X7_readClause 17 rfl) (by decide) (fun c28 => ?_) (fun c28 => ?_)
    · skip
      refine mm_aload_n C (mm_dec dk_X7_readClause 22 rfl) rfl ?_
      refine mm_cVv (rest := []) C1 ev_X7_52 (mm_dec dk_X7_readClause 23 rfl) (c_X7_step x.2.1 hl (d - 1) (by omega) h i0 ) rfl rfl (Nat.le_of_ble_eq_true rfl) ⟨by decide, by decide⟩ rfl (fun h38c hp38 => ?_) (fun _ _ q => q.elim)
      obtain ⟨i38c, g38c, y38_0⟩ := hp38
      have f38c : mm_fr [(63, 4), (63, 5), (63, 6), (63, 7), (63, 8), (63, 9), (63, 10)] [64, 65] h h38c := mm_fr_tr f0 g38c (by decide +kernel)
      have g7 : -2147483648 ≤ (h38c.1 63 5) ∧ (h38c.1 63 5) ≤ 2147483647 := i38c.1 63 5
      have g8 : 0 ≤ (h38c.1 63 7) ∧ (h38c.1 63 7) ≤ 500 := i38c.1 63 7
      refine mm_iload_n C (mm_dec dk_X7_readClause 24 rfl) rfl ?_
      refine mm_iconst C (mm_dec dk_X7_readClause 25 rfl) ⟨by decide, by decide⟩ ?_
      refine mm_icmp_ne (tgt := 68) C (mm_dec dk_X7_readClause 26 rfl) (by decide) (fun c43 => ?_) (fun c43 => ?_)
      · skip
        refine mm_aload_n C (mm_dec dk_X7_readClause 38 rfl) rfl ?_
        refine mm_iconst C (mm_dec dk_X7_readClause 39 rfl) ⟨by decide, by decide⟩ ?_
        refine mm_cVi (rest := []) C1 ev_X7_75 (mm_dec dk_X7_readClause 40 rfl) (c_X7_readOr_k0 x.2.1 hl (d - 1) (by omega) h38c i38c 0 ⟨by omega, by omega⟩ (by omega)) rfl rfl (Nat.le_of_ble_eq_true rfl) ⟨by decide, by decide⟩ rfl (fun r70 h70c hp70 => ?_) (fun _ _ q => q.elim)
        obtain ⟨b70, i70c, g70c, y70_0⟩ := hp70
        have f70c : mm_fr [(63, 4), (63, 5), (63, 6), (63, 7), (63, 8), (63, 9), (63, 10)] [64, 65] h h70c := mm_fr_tr f38c g70c (by decide +kernel)
        have g10 : -2147483648 ≤ (h70c.1 63 5) ∧ (h70c.1 63 5) ≤ 2147483647 := i70c.1 63 5
        have g11 : 0 ≤ (h70c.1 63 7) ∧ (h70c.1 63 7) ≤ 500 := i70c.1 63 7
        refine mm_if_ne (tgt := 78) C (mm_dec dk_X7_readClause 41 rfl) (by decide) (fun c73 => ?_) (fun c73 => ?_)
        · skip
          refine mm_aload_n C (mm_dec dk_X7_readClause 44 rfl) rfl ?_
          refine mm_geti C fl_X7_28 (mm_dec dk_X7_readClause 45 rfl) rfl rfl (Or.inl rfl) ?_
          have g12 : -2147483648 ≤ (h70c.1 63 6) ∧ (h70c.1 63 6) ≤ 2147483647 := i70c.1 63 6
          refine mm_iconst C (mm_dec dk_X7_readClause 46 rfl) ⟨by decide, by decide⟩ ?_
          have J106 : ∀ (h106_ : mH) (i106_ : mm_inv h106_) (f106_ : mm_fr [(63, 4), (63, 5), (63, 6), (63, 7), (63, 8), (63, 9), (63, 10)] [64, 65] h h106_) (w106_0 : (h106_.1 63 5 = 0 ∨ h106_.1 63 7 ≤ 499)), mm_W x 0 0 106 [mR 63, mU, mI (h.1 63 6)] [] h106_ := by
            intro h106_ i106_ f106_ w106_0
            have g13 : -2147483648 ≤ h106_.1 63 5 ∧ h106_.1 63 5 ≤ 2147483647 := i106_.1 63 5
            have g14 : 0 ≤ h106_.1 63 7 ∧ h106_.1 63 7 ≤ 500 := i106_.1 63 7
            refine mm_aload_n C (mm_dec dk_X7_readClause 59 rfl) rfl ?_
            refine mm_bipush C (mm_dec dk_X7_readClause 60 rfl) ⟨by decide, by decide⟩ ?_
            refine mm_cVi (rest := []) C1 ev_X7_72 (mm_dec dk_X7_readClause 61 rfl) (c_X7_readSign x.2.1 hl (d - 1) (by omega) h106_ i106_ 59 (by omega)) rfl rfl (Nat.le_of_ble_eq_true rfl) ⟨by decide, by decide⟩ rfl (fun r109 h109c hp109 => ?_) (fun _ _ q => q.elim)
            obtain ⟨b109, i109c, g109c, y109_0⟩ := hp109
            have f109c : mm_fr [(63, 4), (63, 5), (63, 6), (63, 7), (63, 8), (63, 9), (63, 10)] [64, 65] h h109c := mm_fr_tr f106_ g109c (by decide +kernel)
            have g16 : -2147483648 ≤ (h109c.1 63 5) ∧ (h109c.1 63 5) ≤ 2147483647 := i109c.1 63 5
            have g17 : 0 ≤ (h109c.1 63 7) ∧ (h109c.1 63 7) ≤ 500 := i109c.1 63 7
            refine mm_if_ne (tgt := 117) C (mm_dec dk_X7_readClause 62 rfl) (by decide) (fun c112 => ?_) (fun c112 => ?_)
            · skip
              refine mm_aload_n C (mm_dec dk_X7_readClause 65 rfl) rfl ?_
              refine mm_iload_n C (mm_dec dk_X7_readClause 66 rfl) rfl ?_
              have J129 : ∀ (s129_1 : Int) (bs129_1 : 100020 ≤ s129_1 ∧ s129_1 ≤ 100021), mm_W x 0 0 129 [mU, mU, mU] [mI s129_1, mR 63] h109c := by
                intro s129_1 bs129_1
                refine mm_cVv (rest := []) C1 ev_X7_79 (mm_dec dk_X7_readClause 71 rfl) (c_X7_emit x.2.1 hl (d - 1) (by omega) h109c i109c s129_1) rfl rfl (Nat.le_of_ble_eq_true rfl) ⟨by decide, by decide⟩ rfl (fun h129c hp129 => ?_) (fun _ _ q => q.elim)
                obtain ⟨i129c, g129c⟩ := hp129
                have f129c : mm_fr [(63, 4), (63, 5), (63, 6), (63, 7), (63, 8), (63, 9), (63, 10)] [64, 65] h h129c := mm_fr_tr f109c g129c (by decide +kernel)
                have q129c_19 : h129c.1 63 5 = h109c.1 63 5 := g129c.1 63 5 (by decide)
                have q129c_20 : h129c.1 63 7 = h109c.1 63 7 := g129c.1 63 7 (by decide)
                refine mm_iconst C (mm_dec dk_X7_readClause 72 rfl) ⟨by decide, by decide⟩ ?_
                exact mm_zret C T (mm_dec dk_X7_readClause 73 rfl) (by decide : 0 ≤ 0) (by decide : 0 ≤ 0) (by omega) ⟨_, rfl, ⟨⟨by omega, by omega⟩, i129c, f129c, by omega⟩⟩
              refine mm_if_ne (tgt := 127) C (mm_dec dk_X7_readClause 67 rfl) (by decide) (fun c119 => ?_) (fun c119 => ?_)
              · skip
                refine mm_ldc (z := 100021) C (mm_dec dk_X7_readClause 70 rfl) kc_X7_84 (by decide) ?_
                refine mm_fgt 0 ?_
                refine mm_fgt 2 ?_
                exact J129 100021 ⟨by omega, by omega⟩
              · skip
                refine mm_ldc (z := 100020) C (mm_dec dk_X7_readClause 68 rfl) kc_X7_83 (by decide) ?_
                refine mm_goto (tgt := 129) C (mm_dec dk_X7_readClause 69 rfl) (by decide) ?_
                refine mm_fgt 0 ?_
                refine mm_fgt 2 ?_
                exact J129 100020 ⟨by omega, by omega⟩
            · skip
              refine mm_iconst C (mm_dec dk_X7_readClause 63 rfl) ⟨by decide, by decide⟩ ?_
              exact mm_zret C T (mm_dec dk_X7_readClause 64 rfl) (by decide : 0 ≤ 0) (by decide : 0 ≤ 0) (by omega) ⟨_, rfl, ⟨⟨by omega, by omega⟩, i109c, f109c, by omega⟩⟩
          refine mm_icmp_ne (tgt := 106) C (mm_dec dk_X7_readClause 47 rfl) (by decide) (fun c83 => ?_) (fun c83 => ?_)
          · skip
            refine mm_fgt 1 ?_
            exact J106 h70c i70c f70c (by omega)
          · skip
            refine mm_aload_n C (mm_dec dk_X7_readClause 48 rfl) rfl ?_
            refine mm_cVv (rest := []) C1 ev_X7_52 (mm_dec dk_X7_readClause 49 rfl) (c_X7_step x.2.1 hl (d - 1) (by omega) h70c i70c ) rfl rfl (Nat.le_of_ble_eq_true rfl) ⟨by decide, by decide⟩ rfl (fun h87c hp87 => ?_) (fun _ _ q => q.elim)
            obtain ⟨i87c, g87c, y87_0⟩ := hp87
            have f87c : mm_fr [(63, 4), (63, 5), (63, 6), (63, 7), (63, 8), (63, 9), (63, 10)] [64, 65] h h87c := mm_fr_tr f70c g87c (by decide +kernel)
            have g22 : -2147483648 ≤ (h87c.1 63 5) ∧ (h87c.1 63 5) ≤ 2147483647 := i87c.1 63 5
            have g23 : 0 ≤ (h87c.1 63 7) ∧ (h87c.1 63 7) ≤ 500 := i87c.1 63 7
            refine mm_aload_n C (mm_dec dk_X7_readClause 50 rfl) rfl ?_
            refine mm_iconst C (mm_dec dk_X7_readClause 51 rfl) ⟨by decide, by decide⟩ ?_
            refine mm_cVi (rest := []) C1 ev_X7_75 (mm_dec dk_X7_readClause 52 rfl) (c_X7_readOr_k0 x.2.1 hl (d - 1) (by omega) h87c i87c 0 ⟨by omega, by omega⟩ (by omega)) rfl rfl (Nat.le_of_ble_eq_true rfl) ⟨by decide, by decide⟩ rfl (fun r92 h92c hp92 => ?_) (fun _ _ q => q.elim)
            obtain ⟨b92, i92c, g92c, y92_0⟩ := hp92
            have f92c : mm_fr [(63, 4), (63, 5), (63, 6), (63, 7), (63, 8), (63, 9), (63, 10)] [64, 65] h h92c := mm_fr_tr f87c g92c (by decide +kernel)
            have g25 : -2147483648 ≤ (h92c.1 63 5) ∧ (h92c.1 63 5) ≤ 2147483647 := i92c.1 63 5
            have g26 : 0 ≤ (h92c.1 63 7) ∧ (h92c.1 63 7) ≤ 500 := i92c.1 63 7
            refine mm_if_ne (tgt := 100) C (mm_dec dk_X7_readClause 53 rfl) (by decide) (fun c95 => ?_) (fun c95 => ?_)
            · skip
              refine mm_aload_n C (mm_dec dk_X7_readClause 56 rfl) rfl ?_
              refine mm_ldc (z := 100019) C (mm_dec dk_X7_readClause 57 rfl) kc_X7_78 (by decide) ?_
              refine mm_cVv (rest := []) C1 ev_X7_79 (mm_dec dk_X7_readClause 58 rfl) (c_X7_emit x.2.1 hl (d - 1) (by omega) h92c i92c 100019) rfl rfl (Nat.le_of_ble_eq_true rfl) ⟨by decide, by decide⟩ rfl (fun h103c hp103 => ?_) (fun _ _ q => q.elim)
              obtain ⟨i103c, g103c⟩ := hp103
              have f103c : mm_fr [(63, 4), (63, 5), (63, 6), (63, 7), (63, 8), (63, 9), (63, 10)] [64, 65] h h103c := mm_fr_tr f92c g103c (by decide +kernel)
              have q103c_28 : h103c.1 63 5 = h92c.1 63 5 := g103c.1 63 5 (by decide)
              have q103c_29 : h103c.1 63 7 = h92c.1 63 7 := g103c.1 63 7 (by decide)
              refine mm_fgt 1 ?_
              exact J106 h103c i103c f103c (by omega)
            · skip
              refine mm_iconst C (mm_dec dk_X7_readClause 54 rfl) ⟨by decide, by decide⟩ ?_
              exact mm_zret C T (mm_dec dk_X7_readClause 55 rfl) (by decide : 0 ≤ 0) (by decide : 0 ≤ 0) (by omega) ⟨_, rfl, ⟨⟨by omega, by omega⟩, i92c, f92c, by omega⟩⟩
        · skip
          refine mm_iconst C (mm_dec dk_X7_readClause 42 rfl) ⟨by decide, by decide⟩ ?_
          exact mm_zret C T (mm_dec dk_X7_readClause 43 rfl) (by decide : 0 ≤ 0) (by decide : 0 ≤ 0) (by omega) ⟨_, rfl, ⟨⟨by omega, by omega⟩, i70c, f70c, by omega⟩⟩
      · skip
        refine mm_aload_n C (mm_dec dk_X7_readClause 27 rfl) rfl ?_
        refine mm_cVi (rest := []) C1 ev_X7_68 (mm_dec dk_X7_readClause 28 rfl) (c_X7_readSetting x.2.1 hl (d - 1) (by omega) h38c i38c (by omega)) rfl rfl (Nat.le_of_ble_eq_true rfl) ⟨by decide, by decide⟩ rfl (fun r47 h47c hp47 => ?_) (fun _ _ q => q.elim)
        obtain ⟨b47, i47c, g47c, y47_0⟩ := hp47
        have f47c : mm_fr [(63, 4), (63, 5), (63, 6), (63, 7), (63, 8), (63, 9), (63, 10)] [64, 65] h h47c := mm_fr_tr f38c g47c (by decide +kernel)
        have g31 : -2147483648 ≤ (h47c.1 63 5) ∧ (h47c.1 63 5) ≤ 2147483647 := i47c.1 63 5
        have g32 : 0 ≤ (h47c.1 63 7) ∧ (h47c.1 63 7) ≤ 500 := i47c.1 63 7
        have J67 : ∀ (s67_0 : Int) (bs67_0 : 0 ≤ s67_0 ∧ s67_0 ≤ 1) (h67_ : mH) (i67_ : mm_inv h67_) (f67_ : mm_fr [(63, 4), (63, 5), (63, 6), (63, 7), (63, 8), (63, 9), (63, 10)] [64, 65] h h67_) (w67_0 : (h67_.1 63 5 = 0 ∨ h67_.1 63 7 ≤ 499)), mm_W x 0 0 67 [mU, mU, mU] [mI s67_0] h67_ := by
          intro s67_0 bs67_0 h67_ i67_ f67_ w67_0
          have g33 : -2147483648 ≤ h67_.1 63 5 ∧ h67_.1 63 5 ≤ 2147483647 := i67_.1 63 5
          have g34 : 0 ≤ h67_.1 63 7 ∧ h67_.1 63 7 ≤ 500 := i67_.1 63 7
          exact mm_zret C T (mm_dec dk_X7_readClause 37 rfl) (by decide : 0 ≤ 0) (by decide : 0 ≤ 0) (by omega) ⟨_, rfl, ⟨⟨by omega, by omega⟩, i67_, f67_, by omega⟩⟩
        have J66 : ∀ (h66_ : mH) (i66_ : mm_inv h66_) (f66_ : mm_fr [(63, 4), (63, 5), (63, 6), (63, 7), (63, 8), (63, 9), (63, 10)] [64, 65] h h66_) (w66_0 : (h66_.1 63 5 = 0 ∨ h66_.1 63 7 ≤ 499)), mm_W x 0 0 66 [mU, mU, mU] [] h66_ := by
          intro h66_ i66_ f66_ w66_0
          have g35 : -2147483648 ≤ h66_.1 63 5 ∧ h66_.1 63 5 ≤ 2147483647 := i66_.1 63 5
          have g36 : 0 ≤ h66_.1 63 7 ∧ h66_.1 63 7 ≤ 500 := i66_.1 63 7
          refine mm_iconst C (mm_dec dk_X7_readClause 36 rfl) ⟨by decide, by decide⟩ ?_
          exact J67 0 ⟨by omega, by omega⟩ h66_ i66_ f66_ (by omega)
        refine mm_if_eq (tgt := 66) C (mm_dec dk_X7_readClause 29 rfl) (by decide) (fun c50 => ?_) (fun c50 => ?_)
        · skip
          refine mm_fgt 0 ?_
          refine mm_fgt 1 ?_
          refine mm_fgt 2 ?_
          exact J66 h47c i47c f47c (by omega)
        · skip
          refine mm_aload_n C (mm_dec dk_X7_readClause 30 rfl) rfl ?_
          refine mm_bipush C (mm_dec dk_X7_readClause 31 rfl) ⟨by decide, by decide⟩ ?_
          refine mm_cVi (rest := []) C1 ev_X7_72 (mm_dec dk_X7_readClause 32 rfl) (c_X7_readSign x.2.1 hl (d - 1) (by omega) h47c i47c 59 (by omega)) rfl rfl (Nat.le_of_ble_eq_true rfl) ⟨by decide, by decide⟩ rfl (fun r56 h56c hp56 => ?_) (fun _ _ q => q.elim)
          obtain ⟨b56, i56c, g56c, y56_0⟩ := hp56
          have f56c : mm_fr [(63, 4), (63, 5), (63, 6), (63, 7), (63, 8), (63, 9), (63, 10)] [64, 65] h h56c := mm_fr_tr f47c g56c (by decide +kernel)
          have g38 : -2147483648 ≤ (h56c.1 63 5) ∧ (h56c.1 63 5) ≤ 2147483647 := i56c.1 63 5
          have g39 : 0 ≤ (h56c.1 63 7) ∧ (h56c.1 63 7) ≤ 500 := i56c.1 63 7
          refine mm_if_eq (tgt := 66) C (mm_dec dk_X7_readClause 33 rfl) (by decide) (fun c59 => ?_) (fun c59 => ?_)
          · skip
            refine mm_fgt 0 ?_
            refine mm_fgt 1 ?_
            refine mm_fgt 2 ?_
            exact J66 h56c i56c f56c (by omega)
          · skip
            refine mm_iconst C (mm_dec dk_X7_readClause 34 rfl) ⟨by decide, by decide⟩ ?_
            refine mm_goto (tgt := 67) C (mm_dec dk_X7_readClause 35 rfl) (by decide) ?_
            refine mm_fgt 0 ?_
            refine mm_fgt 1 ?_
            refine mm_fgt 2 ?_
            exact J67 1 ⟨by omega, by omega⟩ h56c i56c f56c (by omega)
    · skip
      refine mm_aload_n C (mm_dec dk_X7_readClause 18 rfl) rfl ?_
      refine mm_iconst C (mm_dec dk_X7_readClause 19 rfl) ⟨by decide, by decide⟩ ?_
      refine mm_cVi (rest := []) C1 ev_X7_65 (mm_dec dk_X7_readClause 20 rfl) (c_X7_refuse x.2.1 hl (d - 1) (by omega) h i0 2) rfl rfl (Nat.le_of_ble_eq_true rfl) ⟨by decide, by decide⟩ rfl (fun r33 h33c hp33 => ?_) (fun _ _ q => q.elim)
      obtain ⟨b33, i33c, g33c⟩ := hp33
      have f33c : mm_fr [(63, 4), (63, 5), (63, 6), (63, 7), (63, 8), (63, 9), (63, 10)] [64, 65] h h33c := mm_fr_tr f0 g33c (by decide +kernel)
      have q33c_41 : h33c.1 63 5 = h.1 63 5 := g33c.1 63 5 (by decide)
      have q33c_42 : h33c.1 63 6 = h.1 63 6 := g33c.1 63 6 (by decide)
      have q33c_43 : h33c.1 63 7 = h.1 63 7 := g33c.1 63 7 (by decide)
      exact mm_zret C T (mm_dec dk_X7_readClause 21 rfl) (by decide : 0 ≤ 0) (by decide : 0 ≤ 0) (by omega) ⟨_, rfl, ⟨⟨by omega, by omega⟩, i33c, f33c, by omega⟩⟩
  refine mm_if_eq (tgt := 25) C (mm_dec dk_X7_readClause 4 rfl) (by decide) (fun c6 => ?_) (fun c6 => ?_)
  · skip
    exact J25
  · skip
    refine mm_iload_n C (mm_dec dk_X7_readClause 5 rfl) rfl ?_
    refine mm_iconst C (mm_dec dk_X7_readClause 6 rfl) ⟨by decide, by decide⟩ ?_
    refine mm_icmp_eq (tgt := 25) C (mm_dec dk_X7_readClause 7 rfl) (by decide) (fun c11 => ?_) (fun c11 => ?_)
    · skip
      exact J25
    · skip
      refine mm_iload_n C (mm_dec dk_X7_readClause 8 rfl) rfl ?_
      refine mm_iconst C (mm_dec dk_X7_readClause 9 rfl) ⟨by decide, by decide⟩ ?_
      refine mm_icmp_eq (tgt := 25) C (mm_dec dk_X7_readClause 10 rfl) (by decide) (fun c16 => ?_) (fun c16 => ?_)
      · skip
        exact J25
      · skip
        refine mm_aload_n C (mm_dec dk_X7_readClause 11 rfl) rfl ?_
        refine mm_iconst C (mm_dec dk_X7_readClause 12 rfl) ⟨by decide, by decide⟩ ?_
        refine mm_cVi (rest := []) C1 ev_X7_65 (mm_dec dk_X7_readClause 13 rfl) (c_X7_refuse x.2.1 hl (d - 1) (by omega) h i0 1) rfl rfl (Nat.le_of_ble_eq_true rfl) ⟨by decide, by decide⟩ rfl (fun r21 h21c hp21 => ?_) (fun _ _ q => q.elim)
        obtain ⟨b21, i21c, g21c⟩ := hp21
        have f21c : mm_fr [(63, 4), (63, 5), (63, 6), (63, 7), (63, 8), (63, 9), (63, 10)] [64, 65] h h21c := mm_fr_tr f0 g21c (by decide +kernel)
        have q21c_45 : h21c.1 63 5 = h.1 63 5 := g21c.1 63 5 (by decide)
        have q21c_46 : h21c.1 63 6 = h.1 63 6 := g21c.1 63 6 (by decide)
        have q21c_47 : h21c.1 63 7 = h.1 63 7 := g21c.1 63 7 (by decide)
        exact mm_zret C T (mm_dec dk_X7_readClause 14 rfl) (by decide : 0 ≤ 0) (by decide : 0 ≤ 0) (by omega) ⟨_, rfl, ⟨⟨by omega, by omega⟩, i21c, f21c, by omega⟩⟩
set_option maxRecDepth 100000 in
set_option maxHeartbeats 4000000 in
theorem c_X7_read (l : Launch) (hl : l.stackTraces = false) (d : Nat) (hd : 49 ≤ d) (h : mH) (i0 : mm_inv h) (p1 : Int) (bp1 : 0 ≤ p1 ∧ p1 ≤ 500) : mm_Met l d yX7_read cX7_read 3 (some .int) [mR 63, mI p1] h (mm_pi fun r h2 => (-2147483648 ≤ r ∧ r ≤ 2147483647) ∧ mm_inv h2 ∧ mm_fr [(63, 3), (63, 4), (63, 5), (63, 6), (63, 7), (63, 8), (63, 9), (63, 10)] [64, 65] h h2) mm_nx 0 0 := by
  refine mm_ofW (ls := [mR 63, mI p1, mU]) hl (by decide) rfl (Nat.le_of_ble_eq_true rfl) ?_
  intro x hxl C T hnm htb
  subst hxl
  have C1 := mm_OK_le (d' := d - 1 + 1) (by omega) C
  have C8 := mm_OK_le (d' := d - 8 + 8) (by omega) C
  refine mm_rng (fun hr _ => ?_)
  have ap1 : -2147483648 ≤ p1 ∧ p1 < 2147483648 := mm_ok_at hr (i := 1) rfl
  have f0 : mm_fr [(63, 3), (63, 4), (63, 5), (63, 6), (63, 7), (63, 8), (63, 9), (63, 10)] [64, 65] h h := mm_fr_rf
  have g1 : -2147483648 ≤ h.1 63 5 ∧ h.1 63 5 ≤ 2147483647 := i0.1 63 5
  have g2 : 0 ≤ h.1 63 7 ∧ h.1 63 7 ≤ 500 := i0.1 63 7
  refine mm_aload_n C (mm_dec dk_X7_read 0 rfl) rfl ?_
  refine mm_iload_n C (mm_dec dk_X7_read 1 rfl) rfl ?_
  refine mm_puti C fl_X7_18 (mm_dec dk_X7_read 2 rfl) rfl rfl rfl (Or.inl ⟨rfl, rfl⟩) ?_
  have i1 : mm_inv (mm_pf h 63 3 p1) := mm_inv_pf i0 (show 0 ≤ p1 ∧ p1 ≤ 500 from ⟨by omega, by omega⟩) (by decide)
  have f1 : mm_fr [(63, 3), (63, 4), (63, 5), (63, 6), (63, 7), (63, 8), (63, 9), (63, 10)] [64, 65] h (mm_pf h 63 3 p1) := mm_fr_pf f0 (by decide)
  obtain ⟨h1, eh1⟩ : ∃ z, z = mm_pf h 63 3 p1 := ⟨_, rfl⟩
  rw [← eh1] at i1 f1 ⊢
  have qh1 : h1.1 63 3 = p1 := by rw [eh1]; exact mm_pf_same _ _ _ _
  have qh1_3 : h1.1 63 5 = h.1 63 5 := by rw [eh1]; exact mm_pf_ne _ _ (by decide)
  have qh1_4 : h1.1 63 7 = h.1 63 7 := by rw [eh1]; exact mm_pf_ne _ _ (by decide)
  refine mm_aload_n C (mm_dec dk_X7_read 3 rfl) rfl ?_
  refine mm_iconst C (mm_dec dk_X7_read 4 rfl) ⟨by decide, by decide⟩ ?_
  refine mm_puti C fl_X7_22 (mm_dec dk_X7_read 5 rfl) rfl rfl rfl (Or.inl ⟨rfl, rfl⟩) ?_
  have i2 : mm_inv (mm_pf h1 63 4 0) := mm_inv_pf i1 (show 0 ≤ 0 ∧ 0 ≤ 500 from ⟨by omega, by omega⟩) (by decide)
  have f2 : mm_fr [(63, 3), (63, 4), (63, 5), (63, 6), (63, 7), (63, 8), (63, 9), (63, 10)] [64, 65] h (mm_pf h1 63 4 0) := mm_fr_pf f1 (by decide)
  obtain ⟨h2, eh2⟩ : ∃ z, z = mm_pf h1 63 4 0 := ⟨_, rfl⟩
  rw [← eh2] at i2 f2 ⊢
  have qh2 : h2.1 63 4 = 0 := by rw [eh2]; exact mm_pf_same _ _ _ _
  have qh2_5 : h2.1 63 3 = h1.1 63 3 := by rw [eh2]; exact mm_pf_ne _ _ (by decide)
  have qh2_6 : h2.1 63 5 = h1.1 63 5 := by rw [eh2]; exact mm_pf_ne _ _ (by decide)
  have qh2_7 : h2.1 63 7 = h1.1 63 7 := by rw [eh2]; exact mm_pf_ne _ _ (by decide)
  refine mm_aload_n C (mm_dec dk_X7_read 6 rfl) rfl ?_
  refine mm_iconst C (mm_dec dk_X7_read 7 rfl) ⟨by decide, by decide⟩ ?_
  refine mm_puti C fl_X7_34 (mm_dec dk_X7_read 8 rfl) rfl rfl rfl (Or.inl ⟨rfl, rfl⟩) ?_
  have i3 : mm_inv (mm_pf h2 63 8 0) := mm_inv_pf i2 (show 0 ≤ 0 ∧ 0 ≤ 500 from ⟨by omega, by omega⟩) (by decide)
  have f3 : mm_fr [(63, 3), (63, 4), (63, 5), (63, 6), (63, 7), (63, 8), (63, 9), (63, 10)] [64, 65] h (mm_pf h2 63 8 0) := mm_fr_pf f2 (by decide)
  obtain ⟨h3, eh3⟩ : ∃ z, z = mm_pf h2 63 8 0 := ⟨_, rfl⟩
  rw [← eh3] at i3 f3 ⊢
  have qh3 : h3.1 63 8 = 0 := by rw [eh3]; exact mm_pf_same _ _ _ _
  have qh3_8 : h3.1 63 3 = h2.1 63 3 := by rw [eh3]; exact mm_pf_ne _ _ (by decide)
  have qh3_9 : h3.1 63 4 = h2.1 63 4 := by rw [eh3]; exact mm_pf_ne _ _ (by decide)
  have qh3_10 : h3.1 63 5 = h2.1 63 5 := by rw [eh3]; exact mm_pf_ne _ _ (by decide)
  have qh3_11 : h3.1 63 7 = h2.1 63 7 := by rw [eh3]; exact mm_pf_ne _ _ (by decide)
  refine mm_aload_n C (mm_dec dk_X7_read 9 rfl) rfl ?_
  refine mm_iconst C (mm_dec dk_X7_read 10 rfl) ⟨by decide, by decide⟩ ?_
  refine mm_puti C fl_X7_37 (mm_dec dk_X7_read 11 rfl) rfl rfl rfl (Or.inl ⟨rfl, rfl⟩) ?_
  have i4 : mm_inv (mm_pf h3 63 9 0) := mm_inv_pf i3 (show -2147483648 ≤ 0 ∧ 0 ≤ 2147483647 from ⟨by omega, by omega⟩) (by decide)
  have f4 : mm_fr [(63, 3), (63, 4), (63, 5), (63, 6), (63, 7), (63, 8), (63, 9), (63, 10)] [64, 65] h (mm_pf h3 63 9 0) := mm_fr_pf f3 (by decide)
  obtain ⟨h4, eh4⟩ : ∃ z, z = mm_pf h3 63 9 0 := ⟨_, rfl⟩
  rw [← eh4] at i4 f4 ⊢
  have qh4 : h4.1 63 9 = 0 := by rw [eh4]; exact mm_pf_same _ _ _ _
  have qh4_12 : h4.1 63 3 = h3.1 63 3 := by rw [eh4]; exact mm_pf_ne _ _ (by decide)
  have qh4_13 : h4.1 63 4 = h3.1 63 4 := by rw [eh4]; exact mm_pf_ne _ _ (by decide)
  have qh4_14 : h4.1 63 5 = h3.1 63 5 := by rw [eh4]; exact mm_pf_ne _ _ (by decide)
  have qh4_15 : h4.1 63 7 = h3.1 63 7 := by rw [eh4]; exact mm_pf_ne _ _ (by decide)
  have qh4_16 : h4.1 63 8 = h3.1 63 8 := by rw [eh4]; exact mm_pf_ne _ _ (by decide)
  refine mm_aload_n C (mm_dec dk_X7_read 12 rfl) rfl ?_
  refine mm_iconst C (mm_dec dk_X7_read 13 rfl) ⟨by decide, by decide⟩ ?_
  refine mm_puti C fl_X7_40 (mm_dec dk_X7_read 14 rfl) rfl rfl rfl (Or.inl ⟨rfl, rfl⟩) ?_
  have i5 : mm_inv (mm_pf h4 63 10 (-1)) := mm_inv_pf i4 (show -2147483648 ≤ (-1) ∧ (-1) ≤ 2147483647 from ⟨by omega, by omega⟩) (by decide)
  have f5 : mm_fr [(63, 3), (63, 4), (63, 5), (63, 6), (63, 7), (63, 8), (63, 9), (63, 10)] [64, 65] h (mm_pf h4 63 10 (-1)) := mm_fr_pf f4 (by decide)
  obtain ⟨h5, eh5⟩ : ∃ z, z = mm_pf h4 63 10 (-1) := ⟨_, rfl⟩
  rw [← eh5] at i5 f5 ⊢
  have qh5 : h5.1 63 10 = (-1) := by rw [eh5]; exact mm_pf_same _ _ _ _
  have qh5_17 : h5.1 63 3 = h4.1 63 3 := by rw [eh5]; exact mm_pf_ne _ _ (by decide)
  have qh5_18 : h5.1 63 4 = h4.1 63 4 := by rw [eh5]; exact mm_pf_ne _ _ (by decide)
  have qh5_19 : h5.1 63 5 = h4.1 63 5 := by rw [eh5]; exact mm_pf_ne _ _ (by decide)
  have qh5_20 : h5.1 63 7 = h4.1 63 7 := by rw [eh5]; exact mm_pf_ne _ _ (by decide)
  have qh5_21 : h5.1 63 8 = h4.1 63 8 := by rw [eh5]; exact mm_pf_ne _ _ (by decide)
  have qh5_22 : h5.1 63 9 = h4.1 63 9 := by rw [eh5]; exact mm_pf_ne _ _ (by decide)
  refine mm_aload_n C (mm_dec dk_X7_read 15 rfl) rfl ?_
  refine mm_getr (t := 65) C fl_X7_15 (mm_dec dk_X7_read 16 rfl) rfl rfl (mm_ref i5 rfl) ?_
  refine mm_cSv (rest := []) C1 es_X7_46 (mm_dec dk_X7_read 17 rfl) (c_X8_setDefaults_65 x.2.1 hl (d - 1) (by omega) h5 i5 ) rfl (Nat.le_of_ble_eq_true rfl) ⟨by decide, by decide⟩ rfl (fun h29c hp29 => ?_) (fun _ _ q => q.elim)
  obtain ⟨i29c, g29c⟩ := hp29
  have f29c : mm_fr [(63, 3), (63, 4), (63, 5), (63, 6), (63, 7), (63, 8), (63, 9), (63, 10)] [64, 65] h h29c := mm_fr_tr f5 g29c (by decide +kernel)
  have q29c_24 : h29c.1 63 3 = h5.1 63 3 := g29c.1 63 3 (by decide)
  have q29c_25 : h29c.1 63 4 = h5.1 63 4 := g29c.1 63 4 (by decide)
  have q29c_26 : h29c.1 63 5 = h5.1 63 5 := g29c.1 63 5 (by decide)
  have q29c_27 : h29c.1 63 7 = h5.1 63 7 := g29c.1 63 7 (by decide)
  have q29c_28 : h29c.1 63 8 = h5.1 63 8 := g29c.1 63 8 (by decide)
  have q29c_29 : h29c.1 63 9 = h5.1 63 9 := g29c.1 63 9 (by decide)
  have q29c_30 : h29c.1 63 10 = h5.1 63 10 := g29c.1 63 10 (by decide)
  refine mm_aload_n C (mm_dec dk_X7_read 18 rfl) rfl ?_
  refine mm_cVv (rest := []) C1 ev_X7_52 (mm_dec dk_X7_read 19 rfl) (c_X7_step x.2.1 hl (d - 1) (by omega) h29c i29c ) rfl rfl (Nat.le_of_ble_eq_true rfl) ⟨by decide, by decide⟩ rfl (fun h33c hp33 => ?_) (fun _ _ q => q.elim)
  obtain ⟨i33c, g33c, y33_0⟩ := hp33
  have f33c : mm_fr [(63, 3), (63, 4), (63, 5), (63, 6), (63, 7), (63, 8), (63, 9), (63, 10)] [64, 65] h h33c := mm_fr_tr f29c g33c (by decide +kernel)
  have q33c_32 : h33c.1 63 3 = h29c.1 63 3 := g33c.1 63 3 (by decide)
  have q33c_33 : h33c.1 63 4 = h29c.1 63 4 := g33c.1 63 4 (by decide)
  have q33c_34 : h33c.1 63 9 = h29c.1 63 9 := g33c.1 63 9 (by decide)
  have q33c_35 : h33c.1 63 10 = h29c.1 63 10 := g33c.1 63 10 (by decide)
  have g36 : -2147483648 ≤ (h33c.1 63 5) ∧ (h33c.1 63 5) ≤ 2147483647 := i33c.1 63 5
  have g37 : 0 ≤ (h33c.1 63 7) ∧ (h33c.1 63 7) ≤ 500 := i33c.1 63 7
  refine mm_iconst C (mm_dec dk_X7_read 20 rfl) ⟨by decide, by decide⟩ ?_
  have J38 : ∀ (n : Nat) (x38_2 : Int) (bx38_2 : 0 ≤ x38_2 ∧ x38_2 ≤ 39) (h38_ : mH) (i38_ : mm_inv h38_) (f38_ : mm_fr [(63, 3), (63, 4), (63, 5), (63, 6), (63, 7), (63, 8), (63, 9), (63, 10)] [64, 65] h h38_) (w38_0 : (h38_.1 63 5 = 0 ∨ h38_.1 63 7 ≤ 499)), (39 - x38_2 : Int) < n → mm_W x 0 0 38 [mR 63, mU, mI x38_2] [] h38_ := by
    intro n
    induction n with
    | zero =>
      intro x38_2 bx38_2 h38_ i38_ f38_ w38_0 hm
      have g38 : -2147483648 ≤ h38_.1 63 5 ∧ h38_.1 63 5 ≤ 2147483647 := i38_.1 63 5
      have g39 : 0 ≤ h38_.1 63 7 ∧ h38_.1 63 7 ≤ 500 := i38_.1 63 7
      exfalso; omega
    | succ n ih38 =>
      intro x38_2 bx38_2 h38_ i38_ f38_ w38_0 hm38
      have g40 : -2147483648 ≤ h38_.1 63 5 ∧ h38_.1 63 5 ≤ 2147483647 := i38_.1 63 5
      have g41 : 0 ≤ h38_.1 63 7 ∧ h38_.1 63 7 ≤ 500 := i38_.1 63 7
      refine mm_iload_n C (mm_dec dk_X7_read 22 rfl) rfl ?_
      refine mm_bipush C (mm_dec dk_X7_read 23 rfl) ⟨by decide, by decide⟩ ?_
      have J68 : ∀ (h68_ : mH) (i68_ : mm_inv h68_) (f68_ : mm_fr [(63, 3), (63, 4), (63, 5), (63, 6), (63, 7), (63, 8), (63, 9), (63, 10)] [64, 65] h h68_) (w68_0 : (h68_.1 63 5 = 0 ∨ h68_.1 63 7 ≤ 499)), mm_W x 0 0 68 [mR 63, mU, mU] [] h68_ := by
        intro h68_ i68_ f68_ w68_0
        have g42 : -2147483648 ≤ h68_.1 63 5 ∧ h68_.1 63 5 ≤ 2147483647 := i68_.1 63 5
        have g43 : 0 ≤ h68_.1 63 7 ∧ h68_.1 63 7 ≤ 500 := i68_.1 63 7
        refine mm_aload_n C (mm_dec dk_X7_read 35 rfl) rfl ?_
        refine mm_geti C fl_X7_37 (mm_dec dk_X7_read 36 rfl) rfl rfl (Or.inl rfl) ?_
        have g44 : -2147483648 ≤ (h68_.1 63 9) ∧ (h68_.1 63 9) ≤ 2147483647 := i68_.1 63 9
        exact mm_iret C T (mm_dec dk_X7_read 37 rfl) (by decide : 0 ≤ 0) (by decide : 0 ≤ 0) ⟨_, rfl, ⟨⟨by omega, by omega⟩, i68_, f68_⟩⟩
      refine mm_icmp_gt (tgt := 68) C (mm_dec dk_X7_read 24 rfl) (by decide) (fun c41 => ?_) (fun c41 => ?_)
      · skip
        refine mm_fgt 2 ?_
        exact J68 h38_ i38_ f38_ (by omega)
      · skip
        refine mm_aload_n C (mm_dec dk_X7_read 25 rfl) rfl ?_
        refine mm_geti C fl_X7_25 (mm_dec dk_X7_read 26 rfl) rfl rfl (Or.inl rfl) ?_
        refine mm_if_eq (tgt := 68) C (mm_dec dk_X7_read 27 rfl) (by decide) (fun c48 => ?_) (fun c48 => ?_)
        · skip
          refine mm_fgt 2 ?_
          exact J68 h38_ i38_ f38_ (by omega)
        · skip
          refine mm_aload_n C (mm_dec dk_X7_read 28 rfl) rfl ?_
          refine mm_iload_n C (mm_dec dk_X7_read 29 rfl) rfl ?_
          refine mm_cVi (rest := []) C1 ev_X7_55 (mm_dec dk_X7_read 30 rfl) (c_X7_readClause x.2.1 hl (d - 1) (by omega) h38_ i38_ x38_2 (by omega)) rfl rfl (Nat.le_of_ble_eq_true rfl) ⟨by decide, by decide⟩ rfl (fun r53 h53c hp53 => ?_) (fun _ _ q => q.elim)
          obtain ⟨b53, i53c, g53c, y53_0⟩ := hp53
          have f53c : mm_fr [(63, 3), (63, 4), (63, 5), (63, 6), (63, 7), (63, 8), (63, 9), (63, 10)] [64, 65] h h53c := mm_fr_tr f38_ g53c (by decide +kernel)
          have g46 : -2147483648 ≤ (h53c.1 63 5) ∧ (h53c.1 63 5) ≤ 2147483647 := i53c.1 63 5
          have g47 : 0 ≤ (h53c.1 63 7) ∧ (h53c.1 63 7) ≤ 500 := i53c.1 63 7
          refine mm_if_ne (tgt := 62) C (mm_dec dk_X7_read 31 rfl) (by decide) (fun c56 => ?_) (fun c56 => ?_)
          · skip
            refine mm_iincL (ls2 := [mR 63, mU, mI (x38_2 + 1)]) C (mm_dec dk_X7_read 33 rfl) rfl (by decide) ⟨by omega, by omega⟩ rfl ?_
            refine mm_goto (tgt := 38) C (mm_dec dk_X7_read 34 rfl) (by decide) ?_
            exact ih38 (x38_2 + 1) ⟨by omega, by omega⟩ h53c i53c f53c (by omega) (by omega)
          · skip
            refine mm_goto (tgt := 68) C (mm_dec dk_X7_read 32 rfl) (by decide) ?_
            refine mm_fgt 2 ?_
            exact J68 h53c i53c f53c (by omega)
  refine mm_istore_nL (ls2 := [mR 63, mI p1, mI 0]) C (mm_dec dk_X7_read 21 rfl) (by decide) rfl ?_
  refine mm_fgt 1 ?_
  exact J38 (((39 - 0) : Int) + 1).toNat 0 ⟨by omega, by omega⟩ h33c i33c f33c (by omega) (by omega)
set_option maxRecDepth 100000 in
set_option maxHeartbeats 4000000 in
theorem c_X7_copyTo_43_44 (l : Launch) (hl : l.stackTraces = false) (d : Nat) (hd : 1 ≤ d) (h : mH) (i0 : mm_inv h) : mm_Met l d yX7_copyTo cX7_copyTo 3 (some .int) [mR 63, mR 43, mR 44] h (mm_pi fun r h2 => (0 ≤ r ∧ r ≤ 500) ∧ mm_inv h2 ∧ mm_fr [] [43, 44] h h2) mm_nx 0 0 := by
  refine mm_ofW (ls := [mR 63, mR 43, mR 44]) hl (by decide) rfl (Nat.le_of_ble_eq_true rfl) ?_
  intro x hxl C T hnm htb
  subst hxl
  have C1 := mm_OK_le (d' := d - 1 + 1) (by omega) C
  have f0 : mm_fr [] [43, 44] h h := mm_fr_rf
  refine mm_aload_n C (mm_dec dk_X7_copyTo 0 rfl) rfl ?_
  refine mm_getr (t := 64) C fl_X7_11 (mm_dec dk_X7_copyTo 1 rfl) rfl rfl (mm_ref i0 rfl) ?_
  refine mm_iconst C (mm_dec dk_X7_copyTo 2 rfl) ⟨by decide, by decide⟩ ?_
  refine mm_aload_n C (mm_dec dk_X7_copyTo 3 rfl) rfl ?_
  refine mm_iconst C (mm_dec dk_X7_copyTo 4 rfl) ⟨by decide, by decide⟩ ?_
  refine mm_aload_n C (mm_dec dk_X7_copyTo 5 rfl) rfl ?_
  refine mm_geti C fl_X7_22 (mm_dec dk_X7_copyTo 6 rfl) rfl rfl (Or.inl rfl) ?_
  have g1 : 0 ≤ (h.1 63 4) ∧ (h.1 63 4) ≤ 500 := i0.1 63 4
  refine mm_copy C1 ml_ac nt_ac sm_ac cn_sys rfl rfl (by omega) (by omega) (by omega) (Nat.le_of_ble_eq_true rfl) (mm_dec dk_X7_copyTo 7 rfl) ?_
  have i1 : mm_inv (mm_cp h 64 43 (h.1 63 4)) := mm_inv_cp i0 (by decide) (by decide)
  have f1 : mm_fr [] [43, 44] h (mm_cp h 64 43 (h.1 63 4)) := mm_fr_cp f0 (by decide)
  change mm_W _ _ _ _ _ _ (mm_cp h 64 43 (h.1 63 4))
  obtain ⟨h1, eh1⟩ : ∃ z, z = mm_cp h 64 43 (h.1 63 4) := ⟨_, rfl⟩
  rw [← eh1] at i1 f1 ⊢
  refine mm_aload_n C (mm_dec dk_X7_copyTo 8 rfl) rfl ?_
  refine mm_getr (t := 65) C fl_X7_15 (mm_dec dk_X7_copyTo 9 rfl) rfl rfl (mm_ref i1 rfl) ?_
  refine mm_iconst C (mm_dec dk_X7_copyTo 10 rfl) ⟨by decide, by decide⟩ ?_
  refine mm_aload_n C (mm_dec dk_X7_copyTo 11 rfl) rfl ?_
  refine mm_iconst C (mm_dec dk_X7_copyTo 12 rfl) ⟨by decide, by decide⟩ ?_
  refine mm_iconst C (mm_dec dk_X7_copyTo 13 rfl) ⟨by decide, by decide⟩ ?_
  refine mm_copy C1 ml_ac nt_ac sm_ac cn_sys rfl rfl (by omega) (by omega) (by omega) (Nat.le_of_ble_eq_true rfl) (mm_dec dk_X7_copyTo 14 rfl) ?_
  have i2 : mm_inv (mm_cp h1 65 44 3) := mm_inv_cp i1 (by decide) (by decide)
  have f2 : mm_fr [] [43, 44] h (mm_cp h1 65 44 3) := mm_fr_cp f1 (by decide)
  change mm_W _ _ _ _ _ _ (mm_cp h1 65 44 3)
  obtain ⟨h2, eh2⟩ : ∃ z, z = mm_cp h1 65 44 3 := ⟨_, rfl⟩
  rw [← eh2] at i2 f2 ⊢
  refine mm_aload_n C (mm_dec dk_X7_copyTo 15 rfl) rfl ?_
  refine mm_geti C fl_X7_22 (mm_dec dk_X7_copyTo 16 rfl) rfl rfl (Or.inl rfl) ?_
  have g2 : 0 ≤ (h2.1 63 4) ∧ (h2.1 63 4) ≤ 500 := i2.1 63 4
  exact mm_iret C T (mm_dec dk_X7_copyTo 17 rfl) (by decide : 0 ≤ 0) (by decide : 0 ≤ 0) ⟨_, rfl, ⟨⟨by omega, by omega⟩, i2, f2⟩⟩
set_option maxRecDepth 100000 in
set_option maxHeartbeats 4000000 in
theorem c_X8_adopt_63 (l : Launch) (hl : l.stackTraces = false) (d : Nat) (hd : 2 ≤ d) (h : mH) (i0 : mm_inv h) : mm_Met l d yX8_adopt cX8_adopt 2 none [mR 42, mR 63] h (mm_pv fun h2 => mm_inv h2 ∧ mm_fr [(42, 3)] [43, 44] h h2) mm_nx 0 0 := by
  refine mm_ofW (ls := [mR 42, mR 63]) hl (by decide) rfl (Nat.le_of_ble_eq_true rfl) ?_
  intro x hxl C T hnm htb
  subst hxl
  have C1 := mm_OK_le (d' := d - 1 + 1) (by omega) C
  have f0 : mm_fr [(42, 3)] [43, 44] h h := mm_fr_rf
  refine mm_aload_n C (mm_dec dk_X8_adopt 0 rfl) rfl ?_
  refine mm_aload_n C (mm_dec dk_X8_adopt 1 rfl) rfl ?_
  refine mm_aload_n C (mm_dec dk_X8_adopt 2 rfl) rfl ?_
  refine mm_getr (t := 43) C fl_X8_11 (mm_dec dk_X8_adopt 3 rfl) rfl rfl (mm_ref i0 rfl) ?_
  refine mm_aload_n C (mm_dec dk_X8_adopt 4 rfl) rfl ?_
  refine mm_getr (t := 44) C fl_X8_15 (mm_dec dk_X8_adopt 5 rfl) rfl rfl (mm_ref i0 rfl) ?_
  refine mm_cVi (rest := [mR 42]) C1 ev_X8_39 (mm_dec dk_X8_adopt 6 rfl) (c_X7_copyTo_43_44 x.2.1 hl (d - 1) (by omega) h i0 ) rfl rfl (Nat.le_of_ble_eq_true rfl) ⟨by decide, by decide⟩ rfl (fun r10 h10c hp10 => ?_) (fun _ _ q => q.elim)
  obtain ⟨b10, i10c, g10c⟩ := hp10
  have f10c : mm_fr [(42, 3)] [43, 44] h h10c := mm_fr_tr f0 g10c (by decide +kernel)
  refine mm_puti C fl_X8_21 (mm_dec dk_X8_adopt 7 rfl) rfl rfl rfl (Or.inl ⟨rfl, rfl⟩) ?_
  have i2 : mm_inv (mm_pf h10c 42 3 r10) := mm_inv_pf i10c (show 0 ≤ r10 ∧ r10 ≤ 500 from ⟨by omega, by omega⟩) (by decide)
  have f2 : mm_fr [(42, 3)] [43, 44] h (mm_pf h10c 42 3 r10) := mm_fr_pf f10c (by decide)
  obtain ⟨h2, eh2⟩ : ∃ z, z = mm_pf h10c 42 3 r10 := ⟨_, rfl⟩
  rw [← eh2] at i2 f2 ⊢
  have qh2 : h2.1 42 3 = r10 := by rw [eh2]; exact mm_pf_same _ _ _ _
  exact mm_vret C T (mm_dec dk_X8_adopt 8 rfl) (by decide : 0 ≤ 0) (by decide : 0 ≤ 0) ⟨rfl, ⟨i2, f2⟩⟩
set_option maxRecDepth 100000 in
set_option maxHeartbeats 4000000 in
theorem c_X11_rules (l : Launch) (hl : l.stackTraces = false) (d : Nat) (hd : 50 ≤ d) (h : mH) (i0 : mm_inv h) (p1 : Int) : mm_Met l d yX11_rules cX11_rules 3 (some .int) [mR 0, mI p1] h (mm_pi fun r h2 => (-2147483648 ≤ r ∧ r ≤ 2147483647) ∧ mm_inv h2 ∧ mm_fr [(0, 12), (0, 14), (42, 3), (63, 3), (63, 4), (63, 5), (63, 6), (63, 7), (63, 8), (63, 9), (63, 10)] [43, 44, 64, 65] h h2) (mm_xp h) 1 6 := by
  refine mm_ofW (ls := [mR 0, mI p1, mU]) hl (by decide) rfl (Nat.le_of_ble_eq_true rfl) ?_
  intro x hxl C T hnm htb
  subst hxl
  have C1 := mm_OK_le (d' := d - 1 + 1) (by omega) C
  have C8 := mm_OK_le (d' := d - 8 + 8) (by omega) C
  refine mm_rng (fun hr _ => ?_)
  have ap1 : -2147483648 ≤ p1 ∧ p1 < 2147483648 := mm_ok_at hr (i := 1) rfl
  have f0 : mm_fr [(0, 12), (0, 14), (42, 3), (63, 3), (63, 4), (63, 5), (63, 6), (63, 7), (63, 8), (63, 9), (63, 10)] [43, 44, 64, 65] h h := mm_fr_rf
  refine mm_aload_n C (mm_dec dk_X11_rules 0 rfl) rfl ?_
  refine mm_iload_n C (mm_dec dk_X11_rules 1 rfl) rfl ?_
  refine mm_cVv (rest := []) C1 ev_X11_312 (mm_dec dk_X11_rules 2 rfl) (c_X11_needBytes x.2.1 hl (d - 1) (by omega) h i0 p1) rfl rfl (Nat.le_of_ble_eq_true rfl) ⟨by decide, by decide⟩ rfl (fun h2c hp2 => ?_) (fun E hx q => mm_out C T htb (by decide) (by decide) (by rcases q with ⟨q1, q2⟩ | ⟨q1, q2⟩ <;> first | exact Or.inl ⟨q1, q2⟩ | exact Or.inr ⟨q1, q2⟩))
  obtain ⟨z2, k2_0, k2_1⟩ := hp2
  rw [z2]
  have g2 : 0 ≤ (h.1 0 12) ∧ (h.1 0 12) ≤ 500 := i0.1 0 12
  refine mm_aload_n C (mm_dec dk_X11_rules 3 rfl) rfl ?_
  refine mm_getr (t := 63) C fl_X11_94 (mm_dec dk_X11_rules 4 rfl) rfl rfl (mm_ref i0 rfl) ?_
  refine mm_iload_n C (mm_dec dk_X11_rules 5 rfl) rfl ?_
  refine mm_cVi (rest := []) C1 ev_X11_315 (mm_dec dk_X11_rules 6 rfl) (c_X7_read x.2.1 hl (d - 1) (by omega) h i0 p1 ⟨by omega, by omega⟩) rfl rfl (Nat.le_of_ble_eq_true rfl) ⟨by decide, by decide⟩ rfl (fun r10 h10c hp10 => ?_) (fun _ _ q => q.elim)
  obtain ⟨b10, i10c, g10c⟩ := hp10
  have f10c : mm_fr [(0, 12), (0, 14), (42, 3), (63, 3), (63, 4), (63, 5), (63, 6), (63, 7), (63, 8), (63, 9), (63, 10)] [43, 44, 64, 65] h h10c := mm_fr_tr f0 g10c (by decide +kernel)
  have q10c_4 : h10c.1 0 12 = h.1 0 12 := g10c.1 0 12 (by decide)
  refine mm_istore_nL (ls2 := [mR 0, mI p1, mI r10]) C (mm_dec dk_X11_rules 7 rfl) (by decide) rfl ?_
  refine mm_aload_n C (mm_dec dk_X11_rules 8 rfl) rfl ?_
  refine mm_iconst C (mm_dec dk_X11_rules 9 rfl) ⟨by decide, by decide⟩ ?_
  refine mm_puti C fl_X11_98 (mm_dec dk_X11_rules 10 rfl) rfl rfl rfl (Or.inl ⟨rfl, rfl⟩) ?_
  have i2 : mm_inv (mm_pf h10c 0 12 0) := mm_inv_pf i10c (show 0 ≤ 0 ∧ 0 ≤ 500 from ⟨by omega, by omega⟩) (by decide)
  have f2 : mm_fr [(0, 12), (0, 14), (42, 3), (63, 3), (63, 4), (63, 5), (63, 6), (63, 7), (63, 8), (63, 9), (63, 10)] [43, 44, 64, 65] h (mm_pf h10c 0 12 0) := mm_fr_pf f10c (by decide)
  obtain ⟨h2, eh2⟩ : ∃ z, z = mm_pf h10c 0 12 0 := ⟨_, rfl⟩
  rw [← eh2] at i2 f2 ⊢
  have qh2 : h2.1 0 12 = 0 := by rw [eh2]; exact mm_pf_same _ _ _ _
  refine mm_aload_n C (mm_dec dk_X11_rules 11 rfl) rfl ?_
  refine mm_aload_n C (mm_dec dk_X11_rules 12 rfl) rfl ?_
  refine mm_getr (t := 63) C fl_X11_94 (mm_dec dk_X11_rules 13 rfl) rfl rfl (mm_ref i2 rfl) ?_
  refine mm_cVi (rest := [mR 0]) C1 ev_X11_318 (mm_dec dk_X11_rules 14 rfl) (c_X7_faultAt x.2.1 hl (d - 1) (by omega) h2 i2 ) rfl rfl (Nat.le_of_ble_eq_true rfl) ⟨by decide, by decide⟩ rfl (fun r24 h24c hp24 => ?_) (fun _ _ q => q.elim)
  obtain ⟨z24, y24⟩ := hp24
  rw [z24, y24]
  have g6 : -2147483648 ≤ (h2.1 63 10) ∧ (h2.1 63 10) ≤ 2147483647 := i2.1 63 10
  refine mm_puti C fl_X11_105 (mm_dec dk_X11_rules 15 rfl) rfl rfl rfl (Or.inl ⟨rfl, rfl⟩) ?_
  have i3 : mm_inv (mm_pf h2 0 14 (h2.1 63 10)) := mm_inv_pf i2 (show -2147483648 ≤ (h2.1 63 10) ∧ (h2.1 63 10) ≤ 2147483647 from ⟨by omega, by omega⟩) (by decide)
  have f3 : mm_fr [(0, 12), (0, 14), (42, 3), (63, 3), (63, 4), (63, 5), (63, 6), (63, 7), (63, 8), (63, 9), (63, 10)] [43, 44, 64, 65] h (mm_pf h2 0 14 (h2.1 63 10)) := mm_fr_pf f2 (by decide)
  obtain ⟨h3, eh3⟩ : ∃ z, z = mm_pf h2 0 14 (h2.1 63 10) := ⟨_, rfl⟩
  rw [← eh3] at i3 f3 ⊢
  have qh3 : h3.1 0 14 = (h2.1 63 10) := by rw [eh3]; exact mm_pf_same _ _ _ _
  have qh3_7 : h3.1 0 12 = h2.1 0 12 := by rw [eh3]; exact mm_pf_ne _ _ (by decide)
  have qh3_8 : h3.1 63 10 = h2.1 63 10 := by rw [eh3]; exact mm_pf_ne _ _ (by decide)
  refine mm_iload_n C (mm_dec dk_X11_rules 16 rfl) rfl ?_
  have J45 : ∀ (h45_ : mH) (i45_ : mm_inv h45_) (f45_ : mm_fr [(0, 12), (0, 14), (42, 3), (63, 3), (63, 4), (63, 5), (63, 6), (63, 7), (63, 8), (63, 9), (63, 10)] [43, 44, 64, 65] h h45_), mm_W x 1 6 45 [mU, mU, mI r10] [] h45_ := by
    intro h45_ i45_ f45_
    refine mm_iload_n C (mm_dec dk_X11_rules 23 rfl) rfl ?_
    exact mm_iret C T (mm_dec dk_X11_rules 24 rfl) (by decide : 1 ≤ 1) (by decide : 6 ≤ 6) ⟨_, rfl, ⟨⟨by omega, by omega⟩, i45_, f45_⟩⟩
  refine mm_if_ne (tgt := 45) C (mm_dec dk_X11_rules 17 rfl) (by decide) (fun c31 => ?_) (fun c31 => ?_)
  · skip
    refine mm_fgt 0 ?_
    refine mm_fgt 1 ?_
    exact J45 h3 i3 f3
  · skip
    refine mm_aload_n C (mm_dec dk_X11_rules 18 rfl) rfl ?_
    refine mm_getr (t := 42) C fl_X11_51 (mm_dec dk_X11_rules 19 rfl) rfl rfl (mm_ref i3 rfl) ?_
    refine mm_aload_n C (mm_dec dk_X11_rules 20 rfl) rfl ?_
    refine mm_getr (t := 63) C fl_X11_94 (mm_dec dk_X11_rules 21 rfl) rfl rfl (mm_ref i3 rfl) ?_
    refine mm_cVv (rest := []) C1 ev_X11_320 (mm_dec dk_X11_rules 22 rfl) (c_X8_adopt_63 x.2.1 hl (d - 1) (by omega) h3 i3 ) rfl rfl (Nat.le_of_ble_eq_true rfl) ⟨by decide, by decide⟩ rfl (fun h42c hp42 => ?_) (fun _ _ q => q.elim)
    obtain ⟨i42c, g42c⟩ := hp42
    have f42c : mm_fr [(0, 12), (0, 14), (42, 3), (63, 3), (63, 4), (63, 5), (63, 6), (63, 7), (63, 8), (63, 9), (63, 10)] [43, 44, 64, 65] h h42c := mm_fr_tr f3 g42c (by decide +kernel)
    have q42c_10 : h42c.1 0 12 = h3.1 0 12 := g42c.1 0 12 (by decide)
    have q42c_11 : h42c.1 0 14 = h3.1 0 14 := g42c.1 0 14 (by decide)
    have q42c_12 : h42c.1 63 10 = h3.1 63 10 := g42c.1 63 10 (by decide)
    refine mm_fgt 0 ?_
    refine mm_fgt 1 ?_
    exact J45 h42c i42c f42c
