set_option maxRecDepth 100000 in
set_option maxHeartbeats 4000000 in
theorem c_X12_rules_q (l : Launch) (hl : l.stackTraces = false) (d : Nat) (hd : 7 ≤ d) (h : mH) (i0 : mm_inv h) (p1 : Int) (t0 : mm_RO h) : mm_Met l d yX12_rules cX12_rules 3 (some .int) [mR 66, mI p1] h (mm_pi fun r h2 => (-2147483648 ≤ r ∧ r ≤ 2147483647) ∧ mm_inv h2 ∧ mm_fr [(66, 0), (66, 56), (66, 57), (66, 58), (66, 59), (66, 60), (66, 61), (66, 62), (66, 63), (66, 64), (66, 65), (66, 66), (66, 67), (66, 68), (66, 69), (66, 70), (66, 71)] [102, 103, 104, 105, 106, 107, 108, 109] h h2 ∧ mm_RO h2 ∧ ((0 ≤ p1 ∧ p1 ≤ h.1 66 56 ∧ h2.1 66 56 = 0) ∨ ((p1 < 0 ∨ h.1 66 56 < p1) ∧ h2.1 66 56 = h.1 66 56)) ∧ (((0 ≤ p1 ∧ p1 ≤ h.1 66 56) ∧ h2.1 66 0 = 0 ∧ ((r = 0 ∧ h2.1 66 58 = -1 ∧ ∃ P, mm_RDo (h.2.1 101) p1 P ∧ ∀ w, 0 ≤ w → w ≤ 2 → mm_pr h2 w = P w) ∨ (r ≠ 0 ∧ mm_RDf (h.2.1 101) p1 (h2.1 66 58) r ∧ (∀ w, 0 ≤ w → w ≤ 2 → mm_pr h2 w = mm_pr h w)))) ∨ ((p1 < 0 ∨ h.1 66 56 < p1) ∧ h2.1 66 0 = 1 ∧ r = 0 ∧ h2.1 66 58 = h.1 66 58 ∧ (∀ w, 0 ≤ w → w ≤ 2 → mm_pr h2 w = mm_pr h w))) ∧ ((h2.1 66 0 = 0 ∧ mm_REj h h2 p1 r) ∨ (h2.1 66 0 ≠ 0 ∧ ∀ w, mm_ruY h w → mm_ruY h2 w))) mm_nx 0 0 := by
  refine mm_ofW (ls := [mR 66, mI p1, mU]) hl (by decide) rfl (Nat.le_of_ble_eq_true rfl) ?_
  intro x hxl C T hnm htb
  subst hxl
  have C1 := mm_OK_le (d' := d - 1 + 1) (by omega) C
  refine mm_rng (fun hr _ => ?_)
  have ap1 : -2147483648 ≤ p1 ∧ p1 < 2147483648 := mm_ok_at hr (i := 1) rfl
  have f0 : mm_fr [(66, 0), (66, 56), (66, 57), (66, 58), (66, 59), (66, 60), (66, 61), (66, 62), (66, 63), (66, 64), (66, 65), (66, 66), (66, 67), (66, 68), (66, 69), (66, 70), (66, 71)] [102, 103, 104, 105, 106, 107, 108, 109] h h := mm_fr_rf
  have g1 : -2147483648 ≤ h.1 66 57 ∧ h.1 66 57 ≤ 2147483647 := i0.1 66 57
  have g2 : 0 ≤ h.1 66 69 ∧ h.1 66 69 ≤ 2400 := i0.1 66 69
  have g3 : 0 ≤ h.1 66 70 ∧ h.1 66 70 ≤ 520 := i0.1 66 70
  have g4 : 0 ≤ h.1 66 62 ∧ h.1 66 62 ≤ 500 := i0.1 66 62
  have g5 : 0 ≤ h.1 66 60 ∧ h.1 66 60 ≤ 500 := i0.1 66 60
  have g6 : -2147483648 ≤ h.1 66 61 ∧ h.1 66 61 ≤ 2147483647 := i0.1 66 61
  have g7 : 0 ≤ h.1 66 71 ∧ h.1 66 71 ≤ 6 := i0.1 66 71
  have g8 : 0 ≤ h.1 66 67 ∧ h.1 66 67 ≤ 1 := i0.1 66 67
  have g9 : 0 ≤ h.1 66 68 ∧ h.1 66 68 ≤ 1 := i0.1 66 68
  have g10 : 0 ≤ h.1 66 56 ∧ h.1 66 56 ≤ 500 := i0.1 66 56
  have g11 : -2147483648 ≤ h.1 66 0 ∧ h.1 66 0 ≤ 2147483647 := i0.1 66 0
  have g12 : -2147483648 ≤ h.1 66 58 ∧ h.1 66 58 ≤ 2147483647 := i0.1 66 58
  have g13 : 0 ≤ h.1 66 59 ∧ h.1 66 59 ≤ 500 := i0.1 66 59
  have g14 : -2147483648 ≤ h.1 66 65 ∧ h.1 66 65 ≤ 2147483647 := i0.1 66 65
  refine mm_aload_n C (mm_dec dk_X12_rules 0 rfl) rfl ?_
  refine mm_iconst C (mm_dec dk_X12_rules 1 rfl) ⟨by decide, by decide⟩ ?_
  refine mm_puti C fl_X12_188 (mm_dec dk_X12_rules 2 rfl) rfl rfl rfl (Or.inl ⟨rfl, rfl⟩) ?_
  have i1 : mm_inv (mm_pf h 66 0 0) := mm_inv_pf i0 (show -2147483648 ≤ 0 ∧ 0 ≤ 2147483647 from ⟨by omega, by omega⟩) (by decide)
  have f1 : mm_fr [(66, 0), (66, 56), (66, 57), (66, 58), (66, 59), (66, 60), (66, 61), (66, 62), (66, 63), (66, 64), (66, 65), (66, 66), (66, 67), (66, 68), (66, 69), (66, 70), (66, 71)] [102, 103, 104, 105, 106, 107, 108, 109] h (mm_pf h 66 0 0) := mm_fr_pf f0 (by decide)
  obtain ⟨h1, eh1⟩ : ∃ z, z = mm_pf h 66 0 0 := ⟨_, rfl⟩
  rw [← eh1] at i1 f1 ⊢
  have qh1 : h1.1 66 0 = 0 := by rw [eh1]; exact mm_pf_same _ _ _ _
  have qh1_15 : h1.1 66 56 = h.1 66 56 := by rw [eh1]; exact mm_pf_ne _ _ (by decide)
  have qh1_16 : h1.1 66 57 = h.1 66 57 := by rw [eh1]; exact mm_pf_ne _ _ (by decide)
  have qh1_17 : h1.1 66 58 = h.1 66 58 := by rw [eh1]; exact mm_pf_ne _ _ (by decide)
  have qh1_18 : h1.1 66 59 = h.1 66 59 := by rw [eh1]; exact mm_pf_ne _ _ (by decide)
  have qh1_19 : h1.1 66 60 = h.1 66 60 := by rw [eh1]; exact mm_pf_ne _ _ (by decide)
  have qh1_20 : h1.1 66 61 = h.1 66 61 := by rw [eh1]; exact mm_pf_ne _ _ (by decide)
  have qh1_21 : h1.1 66 62 = h.1 66 62 := by rw [eh1]; exact mm_pf_ne _ _ (by decide)
  have qh1_22 : h1.1 66 65 = h.1 66 65 := by rw [eh1]; exact mm_pf_ne _ _ (by decide)
  have qh1_23 : h1.1 66 67 = h.1 66 67 := by rw [eh1]; exact mm_pf_ne _ _ (by decide)
  have qh1_24 : h1.1 66 68 = h.1 66 68 := by rw [eh1]; exact mm_pf_ne _ _ (by decide)
  have qh1_25 : h1.1 66 69 = h.1 66 69 := by rw [eh1]; exact mm_pf_ne _ _ (by decide)
  have qh1_26 : h1.1 66 70 = h.1 66 70 := by rw [eh1]; exact mm_pf_ne _ _ (by decide)
  have qh1_27 : h1.1 66 71 = h.1 66 71 := by rw [eh1]; exact mm_pf_ne _ _ (by decide)
  refine mm_aload_n C (mm_dec dk_X12_rules 3 rfl) rfl ?_
  refine mm_iload_n C (mm_dec dk_X12_rules 4 rfl) rfl ?_
  have J23 : ∀ (s23_1 : Int) (bs23_1 : 0 ≤ s23_1 ∧ s23_1 ≤ 1) (w23_0 : ((s23_1 = 1 ∧ 0 ≤ p1 ∧ p1 ≤ h.1 66 56) ∨ (s23_1 = 0 ∧ (p1 < 0 ∨ h.1 66 56 < p1)))) (w23_1 : h1.1 66 56 = h.1 66 56) (w23_2 : h1.1 66 0 = 0) (vs23_1 : (s23_1 = 0) ∨ (0 ≤ p1 ∧ p1 ≤ (h1.1 66 56) ∧ s23_1 = 1)), mm_W x 0 0 23 [mR 66, mI p1, mU] [mI s23_1, mR 66] h1 := by
    intro s23_1 bs23_1 w23_0 w23_1 w23_2 vs23_1
    refine mm_iconst C (mm_dec dk_X12_rules 13 rfl) ⟨by decide, by decide⟩ ?_
    refine mm_cVi (rest := []) C1 ev_X12_251 (mm_dec dk_X12_rules 14 rfl) (c_X12_right_q x.2.1 hl (d - 1) (by omega) h1 i1 s23_1 1 ⟨by omega, by omega⟩ (by omega)) rfl rfl (Nat.le_of_ble_eq_true rfl) ⟨by decide, by decide⟩ rfl (fun r24 h24c hp24 => ?_) (fun _ _ q => q.elim)
    obtain ⟨b24, i24c, g24c, y24_0⟩ := hp24
    have f24c : mm_fr [(66, 0), (66, 56), (66, 57), (66, 58), (66, 59), (66, 60), (66, 61), (66, 62), (66, 63), (66, 64), (66, 65), (66, 66), (66, 67), (66, 68), (66, 69), (66, 70), (66, 71)] [102, 103, 104, 105, 106, 107, 108, 109] h h24c := mm_fr_tr f1 g24c (by decide +kernel)
    have q24c_29 : h24c.1 66 56 = h1.1 66 56 := g24c.1 66 56 (by decide)
    have q24c_30 : h24c.1 66 57 = h1.1 66 57 := g24c.1 66 57 (by decide)
    have q24c_31 : h24c.1 66 58 = h1.1 66 58 := g24c.1 66 58 (by decide)
    have q24c_32 : h24c.1 66 59 = h1.1 66 59 := g24c.1 66 59 (by decide)
    have q24c_33 : h24c.1 66 60 = h1.1 66 60 := g24c.1 66 60 (by decide)
    have q24c_34 : h24c.1 66 61 = h1.1 66 61 := g24c.1 66 61 (by decide)
    have q24c_35 : h24c.1 66 62 = h1.1 66 62 := g24c.1 66 62 (by decide)
    have q24c_36 : h24c.1 66 65 = h1.1 66 65 := g24c.1 66 65 (by decide)
    have q24c_37 : h24c.1 66 67 = h1.1 66 67 := g24c.1 66 67 (by decide)
    have q24c_38 : h24c.1 66 68 = h1.1 66 68 := g24c.1 66 68 (by decide)
    have q24c_39 : h24c.1 66 69 = h1.1 66 69 := g24c.1 66 69 (by decide)
    have q24c_40 : h24c.1 66 70 = h1.1 66 70 := g24c.1 66 70 (by decide)
    have q24c_41 : h24c.1 66 71 = h1.1 66 71 := g24c.1 66 71 (by decide)
    have g42 : -2147483648 ≤ (h24c.1 66 0) ∧ (h24c.1 66 0) ≤ 2147483647 := i24c.1 66 0
    refine mm_if_ne (tgt := 32) C (mm_dec dk_X12_rules 15 rfl) (by decide) (fun c27 => ?_) (fun c27 => ?_)
    · skip
      refine mm_aload_n C (mm_dec dk_X12_rules 18 rfl) rfl ?_
      refine mm_iconst C (mm_dec dk_X12_rules 19 rfl) ⟨by decide, by decide⟩ ?_
      refine mm_puti C fl_X12_350 (mm_dec dk_X12_rules 20 rfl) rfl rfl rfl (Or.inl ⟨rfl, rfl⟩) ?_
      have i3 : mm_inv (mm_pf h24c 66 56 0) := mm_inv_pf i24c (show 0 ≤ 0 ∧ 0 ≤ 500 from ⟨by omega, by omega⟩) (by decide)
      have f3 : mm_fr [(66, 0), (66, 56), (66, 57), (66, 58), (66, 59), (66, 60), (66, 61), (66, 62), (66, 63), (66, 64), (66, 65), (66, 66), (66, 67), (66, 68), (66, 69), (66, 70), (66, 71)] [102, 103, 104, 105, 106, 107, 108, 109] h (mm_pf h24c 66 56 0) := mm_fr_pf f24c (by decide)
      obtain ⟨h3, eh3⟩ : ∃ z, z = mm_pf h24c 66 56 0 := ⟨_, rfl⟩
      rw [← eh3] at i3 f3 ⊢
      have qh3 : h3.1 66 56 = 0 := by rw [eh3]; exact mm_pf_same _ _ _ _
      have qh3_43 : h3.1 66 0 = h24c.1 66 0 := by rw [eh3]; exact mm_pf_ne _ _ (by decide)
      have qh3_44 : h3.1 66 57 = h24c.1 66 57 := by rw [eh3]; exact mm_pf_ne _ _ (by decide)
      have qh3_45 : h3.1 66 58 = h24c.1 66 58 := by rw [eh3]; exact mm_pf_ne _ _ (by decide)
      have qh3_46 : h3.1 66 59 = h24c.1 66 59 := by rw [eh3]; exact mm_pf_ne _ _ (by decide)
      have qh3_47 : h3.1 66 60 = h24c.1 66 60 := by rw [eh3]; exact mm_pf_ne _ _ (by decide)
      have qh3_48 : h3.1 66 61 = h24c.1 66 61 := by rw [eh3]; exact mm_pf_ne _ _ (by decide)
      have qh3_49 : h3.1 66 62 = h24c.1 66 62 := by rw [eh3]; exact mm_pf_ne _ _ (by decide)
      have qh3_50 : h3.1 66 65 = h24c.1 66 65 := by rw [eh3]; exact mm_pf_ne _ _ (by decide)
      have qh3_51 : h3.1 66 67 = h24c.1 66 67 := by rw [eh3]; exact mm_pf_ne _ _ (by decide)
      have qh3_52 : h3.1 66 68 = h24c.1 66 68 := by rw [eh3]; exact mm_pf_ne _ _ (by decide)
      have qh3_53 : h3.1 66 69 = h24c.1 66 69 := by rw [eh3]; exact mm_pf_ne _ _ (by decide)
      have qh3_54 : h3.1 66 70 = h24c.1 66 70 := by rw [eh3]; exact mm_pf_ne _ _ (by decide)
      have qh3_55 : h3.1 66 71 = h24c.1 66 71 := by rw [eh3]; exact mm_pf_ne _ _ (by decide)
      refine mm_aload_n C (mm_dec dk_X12_rules 21 rfl) rfl ?_
      refine mm_iconst C (mm_dec dk_X12_rules 22 rfl) ⟨by decide, by decide⟩ ?_
      refine mm_puti C fl_X12_237 (mm_dec dk_X12_rules 23 rfl) rfl rfl rfl (Or.inl ⟨rfl, rfl⟩) ?_
      have i4 : mm_inv (mm_pf h3 66 58 (-1)) := mm_inv_pf i3 (show -2147483648 ≤ (-1) ∧ (-1) ≤ 2147483647 from ⟨by omega, by omega⟩) (by decide)
      have f4 : mm_fr [(66, 0), (66, 56), (66, 57), (66, 58), (66, 59), (66, 60), (66, 61), (66, 62), (66, 63), (66, 64), (66, 65), (66, 66), (66, 67), (66, 68), (66, 69), (66, 70), (66, 71)] [102, 103, 104, 105, 106, 107, 108, 109] h (mm_pf h3 66 58 (-1)) := mm_fr_pf f3 (by decide)
      obtain ⟨h4, eh4⟩ : ∃ z, z = mm_pf h3 66 58 (-1) := ⟨_, rfl⟩
      rw [← eh4] at i4 f4 ⊢
      have qh4 : h4.1 66 58 = (-1) := by rw [eh4]; exact mm_pf_same _ _ _ _
      have qh4_56 : h4.1 66 0 = h3.1 66 0 := by rw [eh4]; exact mm_pf_ne _ _ (by decide)
      have qh4_57 : h4.1 66 56 = h3.1 66 56 := by rw [eh4]; exact mm_pf_ne _ _ (by decide)
      have qh4_58 : h4.1 66 57 = h3.1 66 57 := by rw [eh4]; exact mm_pf_ne _ _ (by decide)
      have qh4_59 : h4.1 66 59 = h3.1 66 59 := by rw [eh4]; exact mm_pf_ne _ _ (by decide)
      have qh4_60 : h4.1 66 60 = h3.1 66 60 := by rw [eh4]; exact mm_pf_ne _ _ (by decide)
      have qh4_61 : h4.1 66 61 = h3.1 66 61 := by rw [eh4]; exact mm_pf_ne _ _ (by decide)
      have qh4_62 : h4.1 66 62 = h3.1 66 62 := by rw [eh4]; exact mm_pf_ne _ _ (by decide)
      have qh4_63 : h4.1 66 65 = h3.1 66 65 := by rw [eh4]; exact mm_pf_ne _ _ (by decide)
      have qh4_64 : h4.1 66 67 = h3.1 66 67 := by rw [eh4]; exact mm_pf_ne _ _ (by decide)
      have qh4_65 : h4.1 66 68 = h3.1 66 68 := by rw [eh4]; exact mm_pf_ne _ _ (by decide)
      have qh4_66 : h4.1 66 69 = h3.1 66 69 := by rw [eh4]; exact mm_pf_ne _ _ (by decide)
      have qh4_67 : h4.1 66 70 = h3.1 66 70 := by rw [eh4]; exact mm_pf_ne _ _ (by decide)
      have qh4_68 : h4.1 66 71 = h3.1 66 71 := by rw [eh4]; exact mm_pf_ne _ _ (by decide)
      refine mm_aload_n C (mm_dec dk_X12_rules 24 rfl) rfl ?_
      refine mm_iconst C (mm_dec dk_X12_rules 25 rfl) ⟨by decide, by decide⟩ ?_
      refine mm_puti C fl_X12_398 (mm_dec dk_X12_rules 26 rfl) rfl rfl rfl (Or.inl ⟨rfl, rfl⟩) ?_
      have i5 : mm_inv (mm_pf h4 66 57 0) := mm_inv_pf i4 (show -2147483648 ≤ 0 ∧ 0 ≤ 2147483647 from ⟨by omega, by omega⟩) (by decide)
      have f5 : mm_fr [(66, 0), (66, 56), (66, 57), (66, 58), (66, 59), (66, 60), (66, 61), (66, 62), (66, 63), (66, 64), (66, 65), (66, 66), (66, 67), (66, 68), (66, 69), (66, 70), (66, 71)] [102, 103, 104, 105, 106, 107, 108, 109] h (mm_pf h4 66 57 0) := mm_fr_pf f4 (by decide)
      obtain ⟨h5, eh5⟩ : ∃ z, z = mm_pf h4 66 57 0 := ⟨_, rfl⟩
      rw [← eh5] at i5 f5 ⊢
      have qh5 : h5.1 66 57 = 0 := by rw [eh5]; exact mm_pf_same _ _ _ _
      have qh5_69 : h5.1 66 0 = h4.1 66 0 := by rw [eh5]; exact mm_pf_ne _ _ (by decide)
      have qh5_70 : h5.1 66 56 = h4.1 66 56 := by rw [eh5]; exact mm_pf_ne _ _ (by decide)
      have qh5_71 : h5.1 66 58 = h4.1 66 58 := by rw [eh5]; exact mm_pf_ne _ _ (by decide)
      have qh5_72 : h5.1 66 59 = h4.1 66 59 := by rw [eh5]; exact mm_pf_ne _ _ (by decide)
      have qh5_73 : h5.1 66 60 = h4.1 66 60 := by rw [eh5]; exact mm_pf_ne _ _ (by decide)
      have qh5_74 : h5.1 66 61 = h4.1 66 61 := by rw [eh5]; exact mm_pf_ne _ _ (by decide)
      have qh5_75 : h5.1 66 62 = h4.1 66 62 := by rw [eh5]; exact mm_pf_ne _ _ (by decide)
      have qh5_76 : h5.1 66 65 = h4.1 66 65 := by rw [eh5]; exact mm_pf_ne _ _ (by decide)
      have qh5_77 : h5.1 66 67 = h4.1 66 67 := by rw [eh5]; exact mm_pf_ne _ _ (by decide)
      have qh5_78 : h5.1 66 68 = h4.1 66 68 := by rw [eh5]; exact mm_pf_ne _ _ (by decide)
      have qh5_79 : h5.1 66 69 = h4.1 66 69 := by rw [eh5]; exact mm_pf_ne _ _ (by decide)
      have qh5_80 : h5.1 66 70 = h4.1 66 70 := by rw [eh5]; exact mm_pf_ne _ _ (by decide)
      have qh5_81 : h5.1 66 71 = h4.1 66 71 := by rw [eh5]; exact mm_pf_ne _ _ (by decide)
      refine mm_aload_n C (mm_dec dk_X12_rules 27 rfl) rfl ?_
      refine mm_geti C fl_X12_240 (mm_dec dk_X12_rules 28 rfl) rfl rfl (Or.inr rfl) ?_
      have J64 : ∀ (s64_0 : Int) (bs64_0 : 0 ≤ s64_0 ∧ s64_0 ≤ 1) (w64_0 : (h5.1 66 67 = 0 ∨ s64_0 = 1 - h5.1 66 68)) (w64_1 : h5.1 66 56 = 0) (w64_2 : (0 ≤ p1 ∧ p1 ≤ h.1 66 56)) (w64_3 : h5.1 66 0 = 0), mm_W x 0 0 64 [mR 66, mI p1, mU] [mI s64_0] h5 := by
        intro s64_0 bs64_0 w64_0 w64_1 w64_2 w64_3
        refine mm_istore_nL (ls2 := [mR 66, mI p1, mI s64_0]) C (mm_dec dk_X12_rules 36 rfl) (by decide) rfl ?_
        refine mm_aload_n C (mm_dec dk_X12_rules 37 rfl) rfl ?_
        refine mm_iload_n C (mm_dec dk_X12_rules 38 rfl) rfl ?_
        refine mm_puti C fl_X12_356 (mm_dec dk_X12_rules 39 rfl) rfl rfl rfl (Or.inl ⟨rfl, rfl⟩) ?_
        have i6 : mm_inv (mm_pf h5 66 59 p1) := mm_inv_pf i5 (show 0 ≤ p1 ∧ p1 ≤ 500 from ⟨by omega, by omega⟩) (by decide)
        have f6 : mm_fr [(66, 0), (66, 56), (66, 57), (66, 58), (66, 59), (66, 60), (66, 61), (66, 62), (66, 63), (66, 64), (66, 65), (66, 66), (66, 67), (66, 68), (66, 69), (66, 70), (66, 71)] [102, 103, 104, 105, 106, 107, 108, 109] h (mm_pf h5 66 59 p1) := mm_fr_pf f5 (by decide)
        obtain ⟨h6, eh6⟩ : ∃ z, z = mm_pf h5 66 59 p1 := ⟨_, rfl⟩
        rw [← eh6] at i6 f6 ⊢
        have qh6 : h6.1 66 59 = p1 := by rw [eh6]; exact mm_pf_same _ _ _ _
        have qh6_82 : h6.1 66 0 = h5.1 66 0 := by rw [eh6]; exact mm_pf_ne _ _ (by decide)
        have qh6_83 : h6.1 66 56 = h5.1 66 56 := by rw [eh6]; exact mm_pf_ne _ _ (by decide)
        have qh6_84 : h6.1 66 57 = h5.1 66 57 := by rw [eh6]; exact mm_pf_ne _ _ (by decide)
        have qh6_85 : h6.1 66 58 = h5.1 66 58 := by rw [eh6]; exact mm_pf_ne _ _ (by decide)
        have qh6_86 : h6.1 66 60 = h5.1 66 60 := by rw [eh6]; exact mm_pf_ne _ _ (by decide)
        have qh6_87 : h6.1 66 61 = h5.1 66 61 := by rw [eh6]; exact mm_pf_ne _ _ (by decide)
        have qh6_88 : h6.1 66 62 = h5.1 66 62 := by rw [eh6]; exact mm_pf_ne _ _ (by decide)
        have qh6_89 : h6.1 66 65 = h5.1 66 65 := by rw [eh6]; exact mm_pf_ne _ _ (by decide)
        have qh6_90 : h6.1 66 67 = h5.1 66 67 := by rw [eh6]; exact mm_pf_ne _ _ (by decide)
        have qh6_91 : h6.1 66 68 = h5.1 66 68 := by rw [eh6]; exact mm_pf_ne _ _ (by decide)
        have qh6_92 : h6.1 66 69 = h5.1 66 69 := by rw [eh6]; exact mm_pf_ne _ _ (by decide)
        have qh6_93 : h6.1 66 70 = h5.1 66 70 := by rw [eh6]; exact mm_pf_ne _ _ (by decide)
        have qh6_94 : h6.1 66 71 = h5.1 66 71 := by rw [eh6]; exact mm_pf_ne _ _ (by decide)
        refine mm_aload_n C (mm_dec dk_X12_rules 40 rfl) rfl ?_
        refine mm_iconst C (mm_dec dk_X12_rules 41 rfl) ⟨by decide, by decide⟩ ?_
        refine mm_puti C fl_X12_359 (mm_dec dk_X12_rules 42 rfl) rfl rfl rfl (Or.inl ⟨rfl, rfl⟩) ?_
        have i7 : mm_inv (mm_pf h6 66 60 0) := mm_inv_pf i6 (show 0 ≤ 0 ∧ 0 ≤ 500 from ⟨by omega, by omega⟩) (by decide)
        have f7 : mm_fr [(66, 0), (66, 56), (66, 57), (66, 58), (66, 59), (66, 60), (66, 61), (66, 62), (66, 63), (66, 64), (66, 65), (66, 66), (66, 67), (66, 68), (66, 69), (66, 70), (66, 71)] [102, 103, 104, 105, 106, 107, 108, 109] h (mm_pf h6 66 60 0) := mm_fr_pf f6 (by decide)
        obtain ⟨h7, eh7⟩ : ∃ z, z = mm_pf h6 66 60 0 := ⟨_, rfl⟩
        rw [← eh7] at i7 f7 ⊢
        have qh7 : h7.1 66 60 = 0 := by rw [eh7]; exact mm_pf_same _ _ _ _
        have qh7_95 : h7.1 66 0 = h6.1 66 0 := by rw [eh7]; exact mm_pf_ne _ _ (by decide)
        have qh7_96 : h7.1 66 56 = h6.1 66 56 := by rw [eh7]; exact mm_pf_ne _ _ (by decide)
        have qh7_97 : h7.1 66 57 = h6.1 66 57 := by rw [eh7]; exact mm_pf_ne _ _ (by decide)
        have qh7_98 : h7.1 66 58 = h6.1 66 58 := by rw [eh7]; exact mm_pf_ne _ _ (by decide)
        have qh7_99 : h7.1 66 59 = h6.1 66 59 := by rw [eh7]; exact mm_pf_ne _ _ (by decide)
        have qh7_100 : h7.1 66 61 = h6.1 66 61 := by rw [eh7]; exact mm_pf_ne _ _ (by decide)
        have qh7_101 : h7.1 66 62 = h6.1 66 62 := by rw [eh7]; exact mm_pf_ne _ _ (by decide)
        have qh7_102 : h7.1 66 65 = h6.1 66 65 := by rw [eh7]; exact mm_pf_ne _ _ (by decide)
        have qh7_103 : h7.1 66 67 = h6.1 66 67 := by rw [eh7]; exact mm_pf_ne _ _ (by decide)
        have qh7_104 : h7.1 66 68 = h6.1 66 68 := by rw [eh7]; exact mm_pf_ne _ _ (by decide)
        have qh7_105 : h7.1 66 69 = h6.1 66 69 := by rw [eh7]; exact mm_pf_ne _ _ (by decide)
        have qh7_106 : h7.1 66 70 = h6.1 66 70 := by rw [eh7]; exact mm_pf_ne _ _ (by decide)
        have qh7_107 : h7.1 66 71 = h6.1 66 71 := by rw [eh7]; exact mm_pf_ne _ _ (by decide)
        refine mm_aload_n C (mm_dec dk_X12_rules 43 rfl) rfl ?_
        refine mm_sipush C (mm_dec dk_X12_rules 44 rfl) ⟨by decide, by decide⟩ ?_
        refine mm_iload_n C (mm_dec dk_X12_rules 45 rfl) rfl ?_
        refine mm_imul C (mm_dec dk_X12_rules 46 rfl) ⟨by omega, by omega⟩ ?_
        refine mm_puti C fl_X12_401 (mm_dec dk_X12_rules 47 rfl) rfl rfl rfl (Or.inl ⟨rfl, rfl⟩) ?_
        have i8 : mm_inv (mm_pf h7 66 69 (1200 * s64_0)) := mm_inv_pf i7 (show 0 ≤ (1200 * s64_0) ∧ (1200 * s64_0) ≤ 2400 from ⟨by omega, by omega⟩) (by decide)
        have f8 : mm_fr [(66, 0), (66, 56), (66, 57), (66, 58), (66, 59), (66, 60), (66, 61), (66, 62), (66, 63), (66, 64), (66, 65), (66, 66), (66, 67), (66, 68), (66, 69), (66, 70), (66, 71)] [102, 103, 104, 105, 106, 107, 108, 109] h (mm_pf h7 66 69 (1200 * s64_0)) := mm_fr_pf f7 (by decide)
        obtain ⟨h8, eh8⟩ : ∃ z, z = mm_pf h7 66 69 (1200 * s64_0) := ⟨_, rfl⟩
        rw [← eh8] at i8 f8 ⊢
        have qh8 : h8.1 66 69 = (1200 * s64_0) := by rw [eh8]; exact mm_pf_same _ _ _ _
        have qh8_108 : h8.1 66 0 = h7.1 66 0 := by rw [eh8]; exact mm_pf_ne _ _ (by decide)
        have qh8_109 : h8.1 66 56 = h7.1 66 56 := by rw [eh8]; exact mm_pf_ne _ _ (by decide)
        have qh8_110 : h8.1 66 57 = h7.1 66 57 := by rw [eh8]; exact mm_pf_ne _ _ (by decide)
        have qh8_111 : h8.1 66 58 = h7.1 66 58 := by rw [eh8]; exact mm_pf_ne _ _ (by decide)
        have qh8_112 : h8.1 66 59 = h7.1 66 59 := by rw [eh8]; exact mm_pf_ne _ _ (by decide)
        have qh8_113 : h8.1 66 60 = h7.1 66 60 := by rw [eh8]; exact mm_pf_ne _ _ (by decide)
        have qh8_114 : h8.1 66 61 = h7.1 66 61 := by rw [eh8]; exact mm_pf_ne _ _ (by decide)
        have qh8_115 : h8.1 66 62 = h7.1 66 62 := by rw [eh8]; exact mm_pf_ne _ _ (by decide)
        have qh8_116 : h8.1 66 65 = h7.1 66 65 := by rw [eh8]; exact mm_pf_ne _ _ (by decide)
        have qh8_117 : h8.1 66 67 = h7.1 66 67 := by rw [eh8]; exact mm_pf_ne _ _ (by decide)
        have qh8_118 : h8.1 66 68 = h7.1 66 68 := by rw [eh8]; exact mm_pf_ne _ _ (by decide)
        have qh8_119 : h8.1 66 70 = h7.1 66 70 := by rw [eh8]; exact mm_pf_ne _ _ (by decide)
        have qh8_120 : h8.1 66 71 = h7.1 66 71 := by rw [eh8]; exact mm_pf_ne _ _ (by decide)
        refine mm_aload_n C (mm_dec dk_X12_rules 48 rfl) rfl ?_
        refine mm_getr (t := 103) C fl_X12_120 (mm_dec dk_X12_rules 49 rfl) rfl rfl (mm_ref i8 rfl) ?_
        refine mm_iload_n C (mm_dec dk_X12_rules 50 rfl) rfl ?_
        refine mm_iconst C (mm_dec dk_X12_rules 51 rfl) ⟨by decide, by decide⟩ ?_
        refine mm_iast C (mm_dec dk_X12_rules 52 rfl) rfl (by omega) (by omega) ?_
        have i9 : mm_inv (mm_pa h8 103 s64_0 0) := mm_inv_pa i8 (show 0 ≤ 0 ∧ 0 ≤ 20 from ⟨by omega, by omega⟩)
        have f9 : mm_fr [(66, 0), (66, 56), (66, 57), (66, 58), (66, 59), (66, 60), (66, 61), (66, 62), (66, 63), (66, 64), (66, 65), (66, 66), (66, 67), (66, 68), (66, 69), (66, 70), (66, 71)] [102, 103, 104, 105, 106, 107, 108, 109] h (mm_pa h8 103 s64_0 0) := mm_fr_pa f8 (by decide)
        obtain ⟨h9, eh9⟩ : ∃ z, z = mm_pa h8 103 s64_0 0 := ⟨_, rfl⟩
        rw [← eh9] at i9 f9 ⊢
        have qh9_121 : h9.1 66 0 = h8.1 66 0 := by rw [eh9]; rfl
        have qh9_122 : h9.1 66 56 = h8.1 66 56 := by rw [eh9]; rfl
        have qh9_123 : h9.1 66 57 = h8.1 66 57 := by rw [eh9]; rfl
        have qh9_124 : h9.1 66 58 = h8.1 66 58 := by rw [eh9]; rfl
        have qh9_125 : h9.1 66 59 = h8.1 66 59 := by rw [eh9]; rfl
        have qh9_126 : h9.1 66 60 = h8.1 66 60 := by rw [eh9]; rfl
        have qh9_127 : h9.1 66 61 = h8.1 66 61 := by rw [eh9]; rfl
        have qh9_128 : h9.1 66 62 = h8.1 66 62 := by rw [eh9]; rfl
        have qh9_129 : h9.1 66 65 = h8.1 66 65 := by rw [eh9]; rfl
        have qh9_130 : h9.1 66 67 = h8.1 66 67 := by rw [eh9]; rfl
        have qh9_131 : h9.1 66 68 = h8.1 66 68 := by rw [eh9]; rfl
        have qh9_132 : h9.1 66 69 = h8.1 66 69 := by rw [eh9]; rfl
        have qh9_133 : h9.1 66 70 = h8.1 66 70 := by rw [eh9]; rfl
        have qh9_134 : h9.1 66 71 = h8.1 66 71 := by rw [eh9]; rfl
        refine mm_aload_n C (mm_dec dk_X12_rules 53 rfl) rfl ?_
        refine mm_getr (t := 102) C fl_X12_117 (mm_dec dk_X12_rules 54 rfl) rfl rfl (mm_ref i9 rfl) ?_
        refine mm_iconst C (mm_dec dk_X12_rules 55 rfl) ⟨by decide, by decide⟩ ?_
        refine mm_iload_n C (mm_dec dk_X12_rules 56 rfl) rfl ?_
        refine mm_imul C (mm_dec dk_X12_rules 57 rfl) ⟨by omega, by omega⟩ ?_
        refine mm_sipush C (mm_dec dk_X12_rules 58 rfl) ⟨by decide, by decide⟩ ?_
        refine mm_iast C (mm_dec dk_X12_rules 59 rfl) rfl (by omega) (by omega) ?_
        have i10 : mm_inv (mm_pa h9 102 (3 * s64_0) 3600) := mm_inv_pa i9 (show -2147483648 ≤ 3600 ∧ 3600 ≤ 2147483647 from ⟨by omega, by omega⟩)
        have f10 : mm_fr [(66, 0), (66, 56), (66, 57), (66, 58), (66, 59), (66, 60), (66, 61), (66, 62), (66, 63), (66, 64), (66, 65), (66, 66), (66, 67), (66, 68), (66, 69), (66, 70), (66, 71)] [102, 103, 104, 105, 106, 107, 108, 109] h (mm_pa h9 102 (3 * s64_0) 3600) := mm_fr_pa f9 (by decide)
        obtain ⟨h10, eh10⟩ : ∃ z, z = mm_pa h9 102 (3 * s64_0) 3600 := ⟨_, rfl⟩
        rw [← eh10] at i10 f10 ⊢
        have qh10_135 : h10.1 66 0 = h9.1 66 0 := by rw [eh10]; rfl
        have qh10_136 : h10.1 66 56 = h9.1 66 56 := by rw [eh10]; rfl
        have qh10_137 : h10.1 66 57 = h9.1 66 57 := by rw [eh10]; rfl
        have qh10_138 : h10.1 66 58 = h9.1 66 58 := by rw [eh10]; rfl
        have qh10_139 : h10.1 66 59 = h9.1 66 59 := by rw [eh10]; rfl
        have qh10_140 : h10.1 66 60 = h9.1 66 60 := by rw [eh10]; rfl
        have qh10_141 : h10.1 66 61 = h9.1 66 61 := by rw [eh10]; rfl
        have qh10_142 : h10.1 66 62 = h9.1 66 62 := by rw [eh10]; rfl
        have qh10_143 : h10.1 66 65 = h9.1 66 65 := by rw [eh10]; rfl
        have qh10_144 : h10.1 66 67 = h9.1 66 67 := by rw [eh10]; rfl
        have qh10_145 : h10.1 66 68 = h9.1 66 68 := by rw [eh10]; rfl
        have qh10_146 : h10.1 66 69 = h9.1 66 69 := by rw [eh10]; rfl
        have qh10_147 : h10.1 66 70 = h9.1 66 70 := by rw [eh10]; rfl
        have qh10_148 : h10.1 66 71 = h9.1 66 71 := by rw [eh10]; rfl
        refine mm_aload_n C (mm_dec dk_X12_rules 60 rfl) rfl ?_
        refine mm_getr (t := 102) C fl_X12_117 (mm_dec dk_X12_rules 61 rfl) rfl rfl (mm_ref i10 rfl) ?_
        refine mm_iconst C (mm_dec dk_X12_rules 62 rfl) ⟨by decide, by decide⟩ ?_
        refine mm_iload_n C (mm_dec dk_X12_rules 63 rfl) rfl ?_
        refine mm_imul C (mm_dec dk_X12_rules 64 rfl) ⟨by omega, by omega⟩ ?_
        refine mm_iconst C (mm_dec dk_X12_rules 65 rfl) ⟨by decide, by decide⟩ ?_
        refine mm_iadd C (mm_dec dk_X12_rules 66 rfl) ⟨by omega, by omega⟩ ?_
        refine mm_bipush C (mm_dec dk_X12_rules 67 rfl) ⟨by decide, by decide⟩ ?_
        refine mm_iast C (mm_dec dk_X12_rules 68 rfl) rfl (by omega) (by omega) ?_
        have i11 : mm_inv (mm_pa h10 102 ((3 * s64_0) + 1) 60) := mm_inv_pa i10 (show -2147483648 ≤ 60 ∧ 60 ≤ 2147483647 from ⟨by omega, by omega⟩)
        have f11 : mm_fr [(66, 0), (66, 56), (66, 57), (66, 58), (66, 59), (66, 60), (66, 61), (66, 62), (66, 63), (66, 64), (66, 65), (66, 66), (66, 67), (66, 68), (66, 69), (66, 70), (66, 71)] [102, 103, 104, 105, 106, 107, 108, 109] h (mm_pa h10 102 ((3 * s64_0) + 1) 60) := mm_fr_pa f10 (by decide)
        obtain ⟨h11, eh11⟩ : ∃ z, z = mm_pa h10 102 ((3 * s64_0) + 1) 60 := ⟨_, rfl⟩
        rw [← eh11] at i11 f11 ⊢
        have qh11_149 : h11.1 66 0 = h10.1 66 0 := by rw [eh11]; rfl
        have qh11_150 : h11.1 66 56 = h10.1 66 56 := by rw [eh11]; rfl
        have qh11_151 : h11.1 66 57 = h10.1 66 57 := by rw [eh11]; rfl
        have qh11_152 : h11.1 66 58 = h10.1 66 58 := by rw [eh11]; rfl
        have qh11_153 : h11.1 66 59 = h10.1 66 59 := by rw [eh11]; rfl
        have qh11_154 : h11.1 66 60 = h10.1 66 60 := by rw [eh11]; rfl
        have qh11_155 : h11.1 66 61 = h10.1 66 61 := by rw [eh11]; rfl
        have qh11_156 : h11.1 66 62 = h10.1 66 62 := by rw [eh11]; rfl
        have qh11_157 : h11.1 66 65 = h10.1 66 65 := by rw [eh11]; rfl
        have qh11_158 : h11.1 66 67 = h10.1 66 67 := by rw [eh11]; rfl
        have qh11_159 : h11.1 66 68 = h10.1 66 68 := by rw [eh11]; rfl
        have qh11_160 : h11.1 66 69 = h10.1 66 69 := by rw [eh11]; rfl
        have qh11_161 : h11.1 66 70 = h10.1 66 70 := by rw [eh11]; rfl
        have qh11_162 : h11.1 66 71 = h10.1 66 71 := by rw [eh11]; rfl
        refine mm_aload_n C (mm_dec dk_X12_rules 69 rfl) rfl ?_
        refine mm_getr (t := 102) C fl_X12_117 (mm_dec dk_X12_rules 70 rfl) rfl rfl (mm_ref i11 rfl) ?_
        refine mm_iconst C (mm_dec dk_X12_rules 71 rfl) ⟨by decide, by decide⟩ ?_
        refine mm_iload_n C (mm_dec dk_X12_rules 72 rfl) rfl ?_
        refine mm_imul C (mm_dec dk_X12_rules 73 rfl) ⟨by omega, by omega⟩ ?_
        refine mm_iconst C (mm_dec dk_X12_rules 74 rfl) ⟨by decide, by decide⟩ ?_
        refine mm_iadd C (mm_dec dk_X12_rules 75 rfl) ⟨by omega, by omega⟩ ?_
        refine mm_sipush C (mm_dec dk_X12_rules 76 rfl) ⟨by decide, by decide⟩ ?_
        refine mm_iast C (mm_dec dk_X12_rules 77 rfl) rfl (by omega) (by omega) ?_
        have i12 : mm_inv (mm_pa h11 102 ((3 * s64_0) + 2) 900) := mm_inv_pa i11 (show -2147483648 ≤ 900 ∧ 900 ≤ 2147483647 from ⟨by omega, by omega⟩)
        have f12 : mm_fr [(66, 0), (66, 56), (66, 57), (66, 58), (66, 59), (66, 60), (66, 61), (66, 62), (66, 63), (66, 64), (66, 65), (66, 66), (66, 67), (66, 68), (66, 69), (66, 70), (66, 71)] [102, 103, 104, 105, 106, 107, 108, 109] h (mm_pa h11 102 ((3 * s64_0) + 2) 900) := mm_fr_pa f11 (by decide)
        obtain ⟨h12, eh12⟩ : ∃ z, z = mm_pa h11 102 ((3 * s64_0) + 2) 900 := ⟨_, rfl⟩
        rw [← eh12] at i12 f12 ⊢
        have qh12_163 : h12.1 66 0 = h11.1 66 0 := by rw [eh12]; rfl
        have qh12_164 : h12.1 66 56 = h11.1 66 56 := by rw [eh12]; rfl
        have qh12_165 : h12.1 66 57 = h11.1 66 57 := by rw [eh12]; rfl
        have qh12_166 : h12.1 66 58 = h11.1 66 58 := by rw [eh12]; rfl
        have qh12_167 : h12.1 66 59 = h11.1 66 59 := by rw [eh12]; rfl
        have qh12_168 : h12.1 66 60 = h11.1 66 60 := by rw [eh12]; rfl
        have qh12_169 : h12.1 66 61 = h11.1 66 61 := by rw [eh12]; rfl
        have qh12_170 : h12.1 66 62 = h11.1 66 62 := by rw [eh12]; rfl
        have qh12_171 : h12.1 66 65 = h11.1 66 65 := by rw [eh12]; rfl
        have qh12_172 : h12.1 66 67 = h11.1 66 67 := by rw [eh12]; rfl
        have qh12_173 : h12.1 66 68 = h11.1 66 68 := by rw [eh12]; rfl
        have qh12_174 : h12.1 66 69 = h11.1 66 69 := by rw [eh12]; rfl
        have qh12_175 : h12.1 66 70 = h11.1 66 70 := by rw [eh12]; rfl
        have qh12_176 : h12.1 66 71 = h11.1 66 71 := by rw [eh12]; rfl
        have zbk : mm_bk h h12 s64_0 := by rw [eh12]; refine mm_bk_pa ?_ (by decide); rw [eh11]; refine mm_bk_pa ?_ (by decide); rw [eh10]; refine mm_bk_pa ?_ (by decide); rw [eh9]; refine mm_bk_103 ?_; rw [eh8]; refine mm_bk_pf ?_; rw [eh7]; refine mm_bk_pf ?_; rw [eh6]; refine mm_bk_pf ?_; rw [eh5]; refine mm_bk_pf ?_; rw [eh4]; refine mm_bk_pf ?_; rw [eh3]; refine mm_bk_pf ?_; exact mm_bk_tr (by rw [eh1]; exact mm_bk_pf mm_bk_rf) (mm_bk_fr g24c (by decide))
        have z3 : h12.2.1 103 s64_0 = 0 := by rw [eh12, mm_pa_o 103 102 (by decide), eh11, mm_pa_o 103 102 (by decide), eh10, mm_pa_o 103 102 (by decide), eh9]; exact mm_pa_same _ _ _ _
        refine mm_aload_n C (mm_dec dk_X12_rules 78 rfl) rfl ?_
        have J131 : ∀ (n : Nat) (h131_ : mH) (i131_ : mm_inv h131_) (f131_ : mm_fr [(66, 0), (66, 56), (66, 57), (66, 58), (66, 59), (66, 60), (66, 61), (66, 62), (66, 63), (66, 64), (66, 65), (66, 66), (66, 67), (66, 68), (66, 69), (66, 70), (66, 71)] [102, 103, 104, 105, 106, 107, 108, 109] h h131_) (w131_0 : mm_rn h12 h131_ s64_0) (w131_1 : h131_.1 66 67 = h.1 66 67) (w131_2 : h131_.1 66 68 = h.1 66 68) (w131_3 : h131_.1 66 56 = 0) (w131_4 : (0 ≤ p1 ∧ p1 ≤ h.1 66 56)) (w131_5 : h131_.1 66 0 = 0) (w131_6 : mm_R9 (h.2.1 101) p1 s64_0 h h131_) (w131_7 : mm_R9J (h.2.1 101) p1 s64_0 h131_), (2 * (500 - h131_.1 66 62) + (if h131_.1 66 57 = 0 then 1 else 0) : Int) < n → mm_W x 0 0 131 [mR 66, mU, mI s64_0] [] h131_ := by
          intro n
          induction n with
          | zero =>
            intro h131_ i131_ f131_ w131_0 w131_1 w131_2 w131_3 w131_4 w131_5 w131_6 w131_7 hm
            have g177 : -2147483648 ≤ h131_.1 66 57 ∧ h131_.1 66 57 ≤ 2147483647 := i131_.1 66 57
            have g178 : 0 ≤ h131_.1 66 69 ∧ h131_.1 66 69 ≤ 2400 := i131_.1 66 69
            have g179 : 0 ≤ h131_.1 66 70 ∧ h131_.1 66 70 ≤ 520 := i131_.1 66 70
            have g180 : 0 ≤ h131_.1 66 62 ∧ h131_.1 66 62 ≤ 500 := i131_.1 66 62
            have g181 : 0 ≤ h131_.1 66 60 ∧ h131_.1 66 60 ≤ 500 := i131_.1 66 60
            have g182 : -2147483648 ≤ h131_.1 66 61 ∧ h131_.1 66 61 ≤ 2147483647 := i131_.1 66 61
            have g183 : 0 ≤ h131_.1 66 71 ∧ h131_.1 66 71 ≤ 6 := i131_.1 66 71
            have g184 : 0 ≤ h131_.1 66 67 ∧ h131_.1 66 67 ≤ 1 := i131_.1 66 67
            have g185 : 0 ≤ h131_.1 66 68 ∧ h131_.1 66 68 ≤ 1 := i131_.1 66 68
            have g186 : 0 ≤ h131_.1 66 56 ∧ h131_.1 66 56 ≤ 500 := i131_.1 66 56
            have g187 : -2147483648 ≤ h131_.1 66 0 ∧ h131_.1 66 0 ≤ 2147483647 := i131_.1 66 0
            have g188 : -2147483648 ≤ h131_.1 66 58 ∧ h131_.1 66 58 ≤ 2147483647 := i131_.1 66 58
            have g189 : 0 ≤ h131_.1 66 59 ∧ h131_.1 66 59 ≤ 500 := i131_.1 66 59
            have g190 : -2147483648 ≤ h131_.1 66 65 ∧ h131_.1 66 65 ≤ 2147483647 := i131_.1 66 65
            exfalso; omega
          | succ n ih131 =>
            intro h131_ i131_ f131_ w131_0 w131_1 w131_2 w131_3 w131_4 w131_5 w131_6 w131_7 hm131
            have g191 : -2147483648 ≤ h131_.1 66 57 ∧ h131_.1 66 57 ≤ 2147483647 := i131_.1 66 57
            have g192 : 0 ≤ h131_.1 66 69 ∧ h131_.1 66 69 ≤ 2400 := i131_.1 66 69
            have g193 : 0 ≤ h131_.1 66 70 ∧ h131_.1 66 70 ≤ 520 := i131_.1 66 70
            have g194 : 0 ≤ h131_.1 66 62 ∧ h131_.1 66 62 ≤ 500 := i131_.1 66 62
            have g195 : 0 ≤ h131_.1 66 60 ∧ h131_.1 66 60 ≤ 500 := i131_.1 66 60
            have g196 : -2147483648 ≤ h131_.1 66 61 ∧ h131_.1 66 61 ≤ 2147483647 := i131_.1 66 61
            have g197 : 0 ≤ h131_.1 66 71 ∧ h131_.1 66 71 ≤ 6 := i131_.1 66 71
            have g198 : 0 ≤ h131_.1 66 67 ∧ h131_.1 66 67 ≤ 1 := i131_.1 66 67
            have g199 : 0 ≤ h131_.1 66 68 ∧ h131_.1 66 68 ≤ 1 := i131_.1 66 68
            have g200 : 0 ≤ h131_.1 66 56 ∧ h131_.1 66 56 ≤ 500 := i131_.1 66 56
            have g201 : -2147483648 ≤ h131_.1 66 0 ∧ h131_.1 66 0 ≤ 2147483647 := i131_.1 66 0
            have g202 : -2147483648 ≤ h131_.1 66 58 ∧ h131_.1 66 58 ≤ 2147483647 := i131_.1 66 58
            have g203 : 0 ≤ h131_.1 66 59 ∧ h131_.1 66 59 ≤ 500 := i131_.1 66 59
            have g204 : -2147483648 ≤ h131_.1 66 65 ∧ h131_.1 66 65 ≤ 2147483647 := i131_.1 66 65
            have zt := w131_0.2.2.1
            have zu := w131_0.2.2.2.1
            have zv := w131_0.2.2.2.2
            have tf131 := mm_cY_h w131_6.1
            refine mm_aload_n C (mm_dec dk_X12_rules 80 rfl) rfl ?_
            refine mm_cVi (rest := []) C1 ev_X12_413 (mm_dec dk_X12_rules 81 rfl) (c_X12_isGood x.2.1 hl (d - 1) (by omega) h131_ i131_ ) rfl rfl (Nat.le_of_ble_eq_true rfl) ⟨by decide, by decide⟩ rfl (fun r132 h132c hp132 => ?_) (fun _ _ q => q.elim)
            obtain ⟨z132, y132⟩ := hp132
            rw [z132]
            have J153 : ∀ (w153_0 : (h131_.1 66 57 ≠ 0 ∨ h131_.1 66 61 = 0)), mm_W x 0 0 153 [mR 66, mU, mI s64_0] [] h131_ := by
              intro w153_0
              refine mm_aload_n C (mm_dec dk_X12_rules 90 rfl) rfl ?_
              refine mm_cVi (rest := []) C1 ev_X12_413 (mm_dec dk_X12_rules 91 rfl) (c_X12_isGood x.2.1 hl (d - 1) (by omega) h131_ i131_ ) rfl rfl (Nat.le_of_ble_eq_true rfl) ⟨by decide, by decide⟩ rfl (fun r154 h154c hp154 => ?_) (fun _ _ q => q.elim)
              obtain ⟨z154, y154⟩ := hp154
              rw [z154]
              refine mm_if_ne (tgt := 165) C (mm_dec dk_X12_rules 92 rfl) (by decide) (fun c157 => ?_) (fun c157 => ?_)
              · skip
                refine mm_aload_n C (mm_dec dk_X12_rules 96 rfl) rfl ?_
                refine mm_iconst C (mm_dec dk_X12_rules 97 rfl) ⟨by decide, by decide⟩ ?_
                refine mm_puti C fl_X12_240 (mm_dec dk_X12_rules 98 rfl) rfl rfl rfl (Or.inr ⟨rfl, rfl, by omega⟩) ?_
                have i13 : mm_inv (mm_pf h131_ 66 67 1) := mm_inv_pf i131_ (show 0 ≤ 1 ∧ 1 ≤ 1 from ⟨by omega, by omega⟩) (by decide)
                have f13 : mm_fr [(66, 0), (66, 56), (66, 57), (66, 58), (66, 59), (66, 60), (66, 61), (66, 62), (66, 63), (66, 64), (66, 65), (66, 66), (66, 67), (66, 68), (66, 69), (66, 70), (66, 71)] [102, 103, 104, 105, 106, 107, 108, 109] h (mm_pf h131_ 66 67 1) := mm_fr_pf f131_ (by decide)
                obtain ⟨h13, eh13⟩ : ∃ z, z = mm_pf h131_ 66 67 1 := ⟨_, rfl⟩
                rw [← eh13] at i13 f13 ⊢
                have qh13 : h13.1 66 67 = 1 := by rw [eh13]; exact mm_pf_same _ _ _ _
                have qh13_221 : h13.1 66 0 = h131_.1 66 0 := by rw [eh13]; exact mm_pf_ne _ _ (by decide)
                have qh13_222 : h13.1 66 56 = h131_.1 66 56 := by rw [eh13]; exact mm_pf_ne _ _ (by decide)
                have qh13_223 : h13.1 66 57 = h131_.1 66 57 := by rw [eh13]; exact mm_pf_ne _ _ (by decide)
                have qh13_224 : h13.1 66 58 = h131_.1 66 58 := by rw [eh13]; exact mm_pf_ne _ _ (by decide)
                have qh13_225 : h13.1 66 59 = h131_.1 66 59 := by rw [eh13]; exact mm_pf_ne _ _ (by decide)
                have qh13_226 : h13.1 66 60 = h131_.1 66 60 := by rw [eh13]; exact mm_pf_ne _ _ (by decide)
                have qh13_227 : h13.1 66 61 = h131_.1 66 61 := by rw [eh13]; exact mm_pf_ne _ _ (by decide)
                have qh13_228 : h13.1 66 62 = h131_.1 66 62 := by rw [eh13]; exact mm_pf_ne _ _ (by decide)
                have qh13_229 : h13.1 66 65 = h131_.1 66 65 := by rw [eh13]; exact mm_pf_ne _ _ (by decide)
                have qh13_230 : h13.1 66 68 = h131_.1 66 68 := by rw [eh13]; exact mm_pf_ne _ _ (by decide)
                have qh13_231 : h13.1 66 69 = h131_.1 66 69 := by rw [eh13]; exact mm_pf_ne _ _ (by decide)
                have qh13_232 : h13.1 66 70 = h131_.1 66 70 := by rw [eh13]; exact mm_pf_ne _ _ (by decide)
                have qh13_233 : h13.1 66 71 = h131_.1 66 71 := by rw [eh13]; exact mm_pf_ne _ _ (by decide)
                refine mm_aload_n C (mm_dec dk_X12_rules 99 rfl) rfl ?_
                refine mm_iload_n C (mm_dec dk_X12_rules 100 rfl) rfl ?_
                refine mm_puti C fl_X12_454 (mm_dec dk_X12_rules 101 rfl) rfl rfl rfl (Or.inl ⟨rfl, rfl⟩) ?_
                have i14 : mm_inv (mm_pf h13 66 68 s64_0) := mm_inv_pf i13 (show 0 ≤ s64_0 ∧ s64_0 ≤ 1 from ⟨by omega, by omega⟩) (by decide)
                have f14 : mm_fr [(66, 0), (66, 56), (66, 57), (66, 58), (66, 59), (66, 60), (66, 61), (66, 62), (66, 63), (66, 64), (66, 65), (66, 66), (66, 67), (66, 68), (66, 69), (66, 70), (66, 71)] [102, 103, 104, 105, 106, 107, 108, 109] h (mm_pf h13 66 68 s64_0) := mm_fr_pf f13 (by decide)
                obtain ⟨h14, eh14⟩ : ∃ z, z = mm_pf h13 66 68 s64_0 := ⟨_, rfl⟩
                rw [← eh14] at i14 f14 ⊢
                have qh14 : h14.1 66 68 = s64_0 := by rw [eh14]; exact mm_pf_same _ _ _ _
                have qh14_234 : h14.1 66 0 = h13.1 66 0 := by rw [eh14]; exact mm_pf_ne _ _ (by decide)
                have qh14_235 : h14.1 66 56 = h13.1 66 56 := by rw [eh14]; exact mm_pf_ne _ _ (by decide)
                have qh14_236 : h14.1 66 57 = h13.1 66 57 := by rw [eh14]; exact mm_pf_ne _ _ (by decide)
                have qh14_237 : h14.1 66 58 = h13.1 66 58 := by rw [eh14]; exact mm_pf_ne _ _ (by decide)
                have qh14_238 : h14.1 66 59 = h13.1 66 59 := by rw [eh14]; exact mm_pf_ne _ _ (by decide)
                have qh14_239 : h14.1 66 60 = h13.1 66 60 := by rw [eh14]; exact mm_pf_ne _ _ (by decide)
                have qh14_240 : h14.1 66 61 = h13.1 66 61 := by rw [eh14]; exact mm_pf_ne _ _ (by decide)
                have qh14_241 : h14.1 66 62 = h13.1 66 62 := by rw [eh14]; exact mm_pf_ne _ _ (by decide)
                have qh14_242 : h14.1 66 65 = h13.1 66 65 := by rw [eh14]; exact mm_pf_ne _ _ (by decide)
                have qh14_243 : h14.1 66 67 = h13.1 66 67 := by rw [eh14]; exact mm_pf_ne _ _ (by decide)
                have qh14_244 : h14.1 66 69 = h13.1 66 69 := by rw [eh14]; exact mm_pf_ne _ _ (by decide)
                have qh14_245 : h14.1 66 70 = h13.1 66 70 := by rw [eh14]; exact mm_pf_ne _ _ (by decide)
                have qh14_246 : h14.1 66 71 = h13.1 66 71 := by rw [eh14]; exact mm_pf_ne _ _ (by decide)
                refine mm_iconst C (mm_dec dk_X12_rules 102 rfl) ⟨by decide, by decide⟩ ?_
                exact mm_iret C T (mm_dec dk_X12_rules 103 rfl) (by decide : 0 ≤ 0) (by decide : 0 ≤ 0) ⟨_, rfl, ⟨⟨by omega, by omega⟩, i14, f14, by first | exact mm_RO_fr t0 f14 (by decide) | exact mm_RO_new w131_0 (by omega) (by omega) eh13 eh14 | exact mm_RO_bk i0 t0 (mm_bk_tr zbk w131_0.1) (by omega) (by omega) (by omega) | exact mm_RO_fr (mm_RO_fr (wf := [(66, 0)]) (wa := []) (h2 := h1) t0 (by rw [eh1]; exact mm_fr_pf mm_fr_rf (by decide)) (by decide)) g24c (by decide), by omega, by first | exact Or.inr ⟨by omega, by omega, rfl, by omega, fun w a b => mm_pr_sm (fun j => (g24c.2 102 (by decide) j).trans (mm_sm_pf 102 eh1 j)) (by omega) (by omega)⟩ | exact Or.inl ⟨by omega, by omega, Or.inr ⟨by omega, by have z := w131_6.2.2.2.2 (by omega); exact z, fun w a b => mm_pr_old w131_6.2.2.1 (by omega) (by omega) (by omega) ⟨a, b⟩⟩⟩ | exact Or.inl ⟨by omega, by omega, Or.inl ⟨rfl, by have z := (w131_6.2.2.2.1 (by omega)).1; omega, _, mm_R9_end w131_6 (by omega) (by have zz := mm_hd9x tf131; omega), fun w a b => (mm_pr_new (by omega) ⟨a, b⟩).trans (by rw [show h14.1 66 68 = s64_0 by omega, mm_PY_eq (h := h131_) (fun j => by rw [eh14, eh13]; rfl)])⟩⟩, by first | exact Or.inr ⟨by omega, fun w R => mm_ruY_sm R (by omega) (by omega) (fun j => (g24c.2 103 (by decide) j).trans (mm_sm_pf 103 eh1 j)) (fun j => (g24c.2 104 (by decide) j).trans (mm_sm_pf 104 eh1 j)) (fun j => (g24c.2 105 (by decide) j).trans (mm_sm_pf 105 eh1 j)) (fun j => (g24c.2 106 (by decide) j).trans (mm_sm_pf 106 eh1 j)) (fun j => (g24c.2 107 (by decide) j).trans (mm_sm_pf 107 eh1 j))⟩ | exact Or.inl ⟨by omega, Or.inr ⟨by omega, fun w R => mm_ruY_bk R (mm_bk_tr zbk w131_0.1) (by omega) (by omega) (by omega) (show 0 ≤ h.1 66 68 ∧ h.1 66 68 ≤ 1 from i0.1 66 68) (show 0 ≤ h.2.1 103 (h.1 66 68) ∧ h.2.1 103 (h.1 66 68) ≤ 20 from i0.2.1 103 _)⟩⟩ | exact Or.inl ⟨by omega, Or.inl ⟨rfl, mm_R9J_end w131_6 w131_7 (by omega) (by have zz := mm_hd9x tf131; omega) (by omega) (by omega) (fun j => (mm_sm_pf 107 eh14 j).trans (mm_sm_pf 107 eh13 j)) ((mm_sm_pf 103 eh14 _).trans (mm_sm_pf 103 eh13 _)) (fun j _ _ => ⟨(mm_sm_pf 104 eh14 j).trans (mm_sm_pf 104 eh13 j), (mm_sm_pf 105 eh14 j).trans (mm_sm_pf 105 eh13 j), (mm_sm_pf 106 eh14 j).trans (mm_sm_pf 106 eh13 j)⟩) (by have z5 := w131_0.2.2.2.2 (by omega); have z6 := z5.1; omega)⟩⟩⟩⟩
              · skip
                refine mm_aload_n C (mm_dec dk_X12_rules 93 rfl) rfl ?_
                refine mm_geti C fl_X12_398 (mm_dec dk_X12_rules 94 rfl) rfl rfl (Or.inl rfl) ?_
                exact mm_iret C T (mm_dec dk_X12_rules 95 rfl) (by decide : 0 ≤ 0) (by decide : 0 ≤ 0) ⟨_, rfl, ⟨⟨by omega, by omega⟩, i131_, f131_, by first | exact mm_RO_fr t0 f131_ (by decide) | exact mm_RO_new w131_0 (by omega) (by omega) eh13 eh14 | exact mm_RO_bk i0 t0 (mm_bk_tr zbk w131_0.1) (by omega) (by omega) (by omega) | exact mm_RO_fr (mm_RO_fr (wf := [(66, 0)]) (wa := []) (h2 := h1) t0 (by rw [eh1]; exact mm_fr_pf mm_fr_rf (by decide)) (by decide)) g24c (by decide), by omega, by first | exact Or.inr ⟨by omega, by omega, rfl, by omega, fun w a b => mm_pr_sm (fun j => (g24c.2 102 (by decide) j).trans (mm_sm_pf 102 eh1 j)) (by omega) (by omega)⟩ | exact Or.inl ⟨by omega, by omega, Or.inr ⟨by omega, by have z := w131_6.2.2.2.2 (by omega); exact z, fun w a b => mm_pr_old w131_6.2.2.1 (by omega) (by omega) (by omega) ⟨a, b⟩⟩⟩ | exact Or.inl ⟨by omega, by omega, Or.inl ⟨rfl, by have z := (w131_6.2.2.2.1 (by omega)).1; omega, _, mm_R9_end w131_6 (by omega) (by have zz := mm_hd9x tf131; omega), fun w a b => (mm_pr_new (by omega) ⟨a, b⟩).trans (by rw [show h131_.1 66 68 = s64_0 by omega, mm_PY_eq (h := h131_) (fun j => by rw [eh14, eh13]; rfl)])⟩⟩, by first | exact Or.inr ⟨by omega, fun w R => mm_ruY_sm R (by omega) (by omega) (fun j => (g24c.2 103 (by decide) j).trans (mm_sm_pf 103 eh1 j)) (fun j => (g24c.2 104 (by decide) j).trans (mm_sm_pf 104 eh1 j)) (fun j => (g24c.2 105 (by decide) j).trans (mm_sm_pf 105 eh1 j)) (fun j => (g24c.2 106 (by decide) j).trans (mm_sm_pf 106 eh1 j)) (fun j => (g24c.2 107 (by decide) j).trans (mm_sm_pf 107 eh1 j))⟩ | exact Or.inl ⟨by omega, Or.inr ⟨by omega, fun w R => mm_ruY_bk R (mm_bk_tr zbk w131_0.1) (by omega) (by omega) (by omega) (show 0 ≤ h.1 66 68 ∧ h.1 66 68 ≤ 1 from i0.1 66 68) (show 0 ≤ h.2.1 103 (h.1 66 68) ∧ h.2.1 103 (h.1 66 68) ≤ 20 from i0.2.1 103 _)⟩⟩ | exact Or.inl ⟨by omega, Or.inl ⟨rfl, mm_R9J_end w131_6 w131_7 (by omega) (by have zz := mm_hd9x tf131; omega) (by omega) (by omega) (fun j => (mm_sm_pf 107 eh14 j).trans (mm_sm_pf 107 eh13 j)) ((mm_sm_pf 103 eh14 _).trans (mm_sm_pf 103 eh13 _)) (fun j _ _ => ⟨(mm_sm_pf 104 eh14 j).trans (mm_sm_pf 104 eh13 j), (mm_sm_pf 105 eh14 j).trans (mm_sm_pf 105 eh13 j), (mm_sm_pf 106 eh14 j).trans (mm_sm_pf 106 eh13 j)⟩) (by have z5 := w131_0.2.2.2.2 (by omega); have z6 := z5.1; omega)⟩⟩⟩⟩
            refine mm_if_eq (tgt := 153) C (mm_dec dk_X12_rules 82 rfl) (by decide) (fun c135 => ?_) (fun c135 => ?_)
            · skip
              exact J153 (by omega)
            · skip
              refine mm_aload_n C (mm_dec dk_X12_rules 83 rfl) rfl ?_
              refine mm_geti C fl_X12_378 (mm_dec dk_X12_rules 84 rfl) rfl rfl (Or.inl rfl) ?_
              refine mm_if_eq (tgt := 153) C (mm_dec dk_X12_rules 85 rfl) (by decide) (fun c142 => ?_) (fun c142 => ?_)
              · skip
                exact J153 (by omega)
              · skip
                refine mm_aload_n C (mm_dec dk_X12_rules 86 rfl) rfl ?_
                refine mm_iload_n C (mm_dec dk_X12_rules 87 rfl) rfl ?_
                refine mm_cVv (rest := []) C1 ev_X12_457 (mm_dec dk_X12_rules 88 rfl) (c_X12_clause_q x.2.1 hl (d - 1) (by omega) h131_ i131_ s64_0 ⟨by omega, by omega⟩ (by first | exact w131_6.1 | exact w131_0.2.1 | omega | exact (zv (by omega)).1 | exact (zv (by omega)).2) (by first | exact w131_6.1 | exact w131_0.2.1 | omega | exact (zv (by omega)).1 | exact (zv (by omega)).2) (by first | exact w131_6.1 | exact w131_0.2.1 | omega | exact (zv (by omega)).1 | exact (zv (by omega)).2) (by first | exact w131_6.1 | exact w131_0.2.1 | omega | exact (zv (by omega)).1 | exact (zv (by omega)).2) (by first | exact w131_6.1 | exact w131_0.2.1 | omega | exact (zv (by omega)).1 | exact (zv (by omega)).2) (by first | exact w131_6.1 | exact w131_0.2.1 | omega | exact (zv (by omega)).1 | exact (zv (by omega)).2) (by first | exact w131_6.1 | exact w131_0.2.1 | omega | exact (zv (by omega)).1 | exact (zv (by omega)).2)) rfl rfl (Nat.le_of_ble_eq_true rfl) ⟨by decide, by decide⟩ rfl (fun h147c hp147 => ?_) (fun _ _ q => q.elim)
                obtain ⟨i147c, g147c, y147_0, y147_1, y147_2, y147_3, y147_4⟩ := hp147
                have f147c : mm_fr [(66, 0), (66, 56), (66, 57), (66, 58), (66, 59), (66, 60), (66, 61), (66, 62), (66, 63), (66, 64), (66, 65), (66, 66), (66, 67), (66, 68), (66, 69), (66, 70), (66, 71)] [102, 103, 104, 105, 106, 107, 108, 109] h h147c := mm_fr_tr f131_ g147c (by decide +kernel)
                have q147c_248 : h147c.1 66 0 = h131_.1 66 0 := g147c.1 66 0 (by decide)
                have q147c_249 : h147c.1 66 56 = h131_.1 66 56 := g147c.1 66 56 (by decide)
                have q147c_250 : h147c.1 66 59 = h131_.1 66 59 := g147c.1 66 59 (by decide)
                have q147c_251 : h147c.1 66 67 = h131_.1 66 67 := g147c.1 66 67 (by decide)
                have q147c_252 : h147c.1 66 68 = h131_.1 66 68 := g147c.1 66 68 (by decide)
                have g253 : -2147483648 ≤ (h147c.1 66 57) ∧ (h147c.1 66 57) ≤ 2147483647 := i147c.1 66 57
                have g254 : 0 ≤ (h147c.1 66 69) ∧ (h147c.1 66 69) ≤ 2400 := i147c.1 66 69
                have g255 : 0 ≤ (h147c.1 66 70) ∧ (h147c.1 66 70) ≤ 520 := i147c.1 66 70
                have g256 : 0 ≤ (h147c.1 66 62) ∧ (h147c.1 66 62) ≤ 500 := i147c.1 66 62
                have g257 : 0 ≤ (h147c.1 66 60) ∧ (h147c.1 66 60) ≤ 500 := i147c.1 66 60
                have g258 : -2147483648 ≤ (h147c.1 66 61) ∧ (h147c.1 66 61) ≤ 2147483647 := i147c.1 66 61
                have g259 : 0 ≤ (h147c.1 66 71) ∧ (h147c.1 66 71) ≤ 6 := i147c.1 66 71
                have g260 : -2147483648 ≤ (h147c.1 66 58) ∧ (h147c.1 66 58) ≤ 2147483647 := i147c.1 66 58
                have g261 : -2147483648 ≤ (h147c.1 66 65) ∧ (h147c.1 66 65) ≤ 2147483647 := i147c.1 66 65
                have zw := y147_0.2.2.1
                refine mm_goto (tgt := 131) C (mm_dec dk_X12_rules 89 rfl) (by decide) ?_
                exact ih131 h147c i147c f147c (by first | exact mm_rn_tr w131_0 y147_0 | exact mm_rn_init g128c (by omega) z3 y128_1 y128_2 (by omega)) (by omega) (by omega) (by omega) (by omega) (by omega) (by first | exact mm_R9_s w131_6 (by omega) y147_2 (fun q => by omega) | exact mm_R9_0 y128_3 ⟨fun j => f128c.2 101 (by decide) j, by omega⟩ (fun j w => by rw [g128c.2 102 (by decide), eh12, mm_pa_j 102 (by omega), eh11, mm_pa_j 102 (by omega), eh10, mm_pa_j 102 (by omega)]; exact (mm_sm_pa 102 eh9 (by decide) j).trans ((mm_sm_pf 102 eh8 j).trans ((mm_sm_pf 102 eh7 j).trans ((mm_sm_pf 102 eh6 j).trans ((mm_sm_pf 102 eh5 j).trans ((mm_sm_pf 102 eh4 j).trans ((mm_sm_pf 102 eh3 j).trans ((g24c.2 102 (by decide) j).trans (mm_sm_pf 102 eh1 j))))))))) (by omega) (by omega) (by rw [y128_4]; unfold mm_UY; rw [show h12.1 66 59 = p1 by omega, show h12.1 66 60 = 0 by omega, show h12.2.1 101 = h.2.1 101 from funext (f12.2 101 (by decide))]) ((g128c.2 103 (by decide) _).trans z3) ((g128c.2 102 (by decide) _).trans (by rw [eh12, mm_pa_j 102 (by omega), eh11, mm_pa_j 102 (by omega), eh10]; exact mm_pa_same _ _ _ _)) ((g128c.2 102 (by decide) _).trans (by rw [eh12, mm_pa_j 102 (by omega), eh11]; exact mm_pa_same _ _ _ _)) ((g128c.2 102 (by decide) _).trans (by rw [eh12]; exact mm_pa_same _ _ _ _))) (by first | exact mm_R9J_s w131_6 w131_7 (by omega) y147_2 y147_4 y147_0.2.2.2.1 | exact mm_R9J_0 (by rw [y128_4]; unfold mm_UY; rw [show h12.1 66 59 = p1 by omega, show h12.1 66 60 = 0 by omega, show h12.2.1 101 = h.2.1 101 from funext (f12.2 101 (by decide))]) ((g128c.2 103 (by decide) _).trans z3) (mm_PY_P0 ((g128c.2 102 (by decide) _).trans (by rw [eh12, mm_pa_j 102 (by omega), eh11, mm_pa_j 102 (by omega), eh10]; exact mm_pa_same _ _ _ _)) ((g128c.2 102 (by decide) _).trans (by rw [eh12, mm_pa_j 102 (by omega), eh11]; exact mm_pa_same _ _ _ _)) ((g128c.2 102 (by decide) _).trans (by rw [eh12]; exact mm_pa_same _ _ _ _))) (by omega)) (by omega)
        refine mm_cVv (rest := []) C1 ev_X12_423 (mm_dec dk_X12_rules 79 rfl) (c_X12_goes_q x.2.1 hl (d - 1) (by omega) h12 i12 ) rfl rfl (Nat.le_of_ble_eq_true rfl) ⟨by decide, by decide⟩ rfl (fun h128c hp128 => ?_) (fun _ _ q => q.elim)
        obtain ⟨i128c, g128c, y128_0, y128_1, y128_2, y128_3, y128_4⟩ := hp128
        have f128c : mm_fr [(66, 0), (66, 56), (66, 57), (66, 58), (66, 59), (66, 60), (66, 61), (66, 62), (66, 63), (66, 64), (66, 65), (66, 66), (66, 67), (66, 68), (66, 69), (66, 70), (66, 71)] [102, 103, 104, 105, 106, 107, 108, 109] h h128c := mm_fr_tr f12 g128c (by decide +kernel)
        have q128c_263 : h128c.1 66 0 = h12.1 66 0 := g128c.1 66 0 (by decide)
        have q128c_264 : h128c.1 66 56 = h12.1 66 56 := g128c.1 66 56 (by decide)
        have q128c_265 : h128c.1 66 57 = h12.1 66 57 := g128c.1 66 57 (by decide)
        have q128c_266 : h128c.1 66 58 = h12.1 66 58 := g128c.1 66 58 (by decide)
        have q128c_267 : h128c.1 66 59 = h12.1 66 59 := g128c.1 66 59 (by decide)
        have q128c_268 : h128c.1 66 67 = h12.1 66 67 := g128c.1 66 67 (by decide)
        have q128c_269 : h128c.1 66 68 = h12.1 66 68 := g128c.1 66 68 (by decide)
        have q128c_270 : h128c.1 66 69 = h12.1 66 69 := g128c.1 66 69 (by decide)
        have q128c_271 : h128c.1 66 70 = h12.1 66 70 := g128c.1 66 70 (by decide)
        have q128c_272 : h128c.1 66 71 = h12.1 66 71 := g128c.1 66 71 (by decide)
        have g273 : 0 ≤ (h128c.1 66 62) ∧ (h128c.1 66 62) ≤ 500 := i128c.1 66 62
        have g274 : 0 ≤ (h128c.1 66 60) ∧ (h128c.1 66 60) ≤ 500 := i128c.1 66 60
        have g275 : -2147483648 ≤ (h128c.1 66 61) ∧ (h128c.1 66 61) ≤ 2147483647 := i128c.1 66 61
        have g276 : -2147483648 ≤ (h128c.1 66 65) ∧ (h128c.1 66 65) ≤ 2147483647 := i128c.1 66 65
        refine mm_fgt 1 ?_
        exact J131 (((2 * (500 - h128c.1 66 62) + (if h128c.1 66 57 = 0 then 1 else 0)) : Int) + 1).toNat h128c i128c f128c (by first | exact mm_rn_tr w131_0 y147_0 | exact mm_rn_init g128c (by omega) z3 y128_1 y128_2 (by omega)) (by omega) (by omega) (by omega) (by omega) (by omega) (by first | exact mm_R9_s w131_6 (by omega) y147_2 (fun q => by omega) | exact mm_R9_0 y128_3 ⟨fun j => f128c.2 101 (by decide) j, by omega⟩ (fun j w => by rw [g128c.2 102 (by decide), eh12, mm_pa_j 102 (by omega), eh11, mm_pa_j 102 (by omega), eh10, mm_pa_j 102 (by omega)]; exact (mm_sm_pa 102 eh9 (by decide) j).trans ((mm_sm_pf 102 eh8 j).trans ((mm_sm_pf 102 eh7 j).trans ((mm_sm_pf 102 eh6 j).trans ((mm_sm_pf 102 eh5 j).trans ((mm_sm_pf 102 eh4 j).trans ((mm_sm_pf 102 eh3 j).trans ((g24c.2 102 (by decide) j).trans (mm_sm_pf 102 eh1 j))))))))) (by omega) (by omega) (by rw [y128_4]; unfold mm_UY; rw [show h12.1 66 59 = p1 by omega, show h12.1 66 60 = 0 by omega, show h12.2.1 101 = h.2.1 101 from funext (f12.2 101 (by decide))]) ((g128c.2 103 (by decide) _).trans z3) ((g128c.2 102 (by decide) _).trans (by rw [eh12, mm_pa_j 102 (by omega), eh11, mm_pa_j 102 (by omega), eh10]; exact mm_pa_same _ _ _ _)) ((g128c.2 102 (by decide) _).trans (by rw [eh12, mm_pa_j 102 (by omega), eh11]; exact mm_pa_same _ _ _ _)) ((g128c.2 102 (by decide) _).trans (by rw [eh12]; exact mm_pa_same _ _ _ _))) (by first | exact mm_R9J_s w131_6 w131_7 (by omega) y147_2 y147_4 y147_0.2.2.2.1 | exact mm_R9J_0 (by rw [y128_4]; unfold mm_UY; rw [show h12.1 66 59 = p1 by omega, show h12.1 66 60 = 0 by omega, show h12.2.1 101 = h.2.1 101 from funext (f12.2 101 (by decide))]) ((g128c.2 103 (by decide) _).trans z3) (mm_PY_P0 ((g128c.2 102 (by decide) _).trans (by rw [eh12, mm_pa_j 102 (by omega), eh11, mm_pa_j 102 (by omega), eh10]; exact mm_pa_same _ _ _ _)) ((g128c.2 102 (by decide) _).trans (by rw [eh12, mm_pa_j 102 (by omega), eh11]; exact mm_pa_same _ _ _ _)) ((g128c.2 102 (by decide) _).trans (by rw [eh12]; exact mm_pa_same _ _ _ _))) (by omega)) (by omega)
      refine mm_if_eq (tgt := 63) C (mm_dec dk_X12_rules 29 rfl) (by decide) (fun c51 => ?_) (fun c51 => ?_)
      · skip
        refine mm_iconst C (mm_dec dk_X12_rules 35 rfl) ⟨by decide, by decide⟩ ?_
        exact J64 0 ⟨by omega, by omega⟩ (by omega) (by omega) (by omega) (by omega)
      · skip
        refine mm_iconst C (mm_dec dk_X12_rules 30 rfl) ⟨by decide, by decide⟩ ?_
        refine mm_aload_n C (mm_dec dk_X12_rules 31 rfl) rfl ?_
        refine mm_geti C fl_X12_454 (mm_dec dk_X12_rules 32 rfl) rfl rfl (Or.inl rfl) ?_
        refine mm_isub C (mm_dec dk_X12_rules 33 rfl) ⟨by omega, by omega⟩ ?_
        refine mm_goto (tgt := 64) C (mm_dec dk_X12_rules 34 rfl) (by decide) ?_
        exact J64 (1 - (h5.1 66 68)) ⟨by omega, by omega⟩ (by omega) (by omega) (by omega) (by omega)
    · skip
      refine mm_iconst C (mm_dec dk_X12_rules 16 rfl) ⟨by decide, by decide⟩ ?_
      exact mm_iret C T (mm_dec dk_X12_rules 17 rfl) (by decide : 0 ≤ 0) (by decide : 0 ≤ 0) ⟨_, rfl, ⟨⟨by omega, by omega⟩, i24c, f24c, by first | exact mm_RO_fr t0 f24c (by decide) | exact mm_RO_new w131_0 (by omega) (by omega) eh13 eh14 | exact mm_RO_bk i0 t0 (mm_bk_tr zbk w131_0.1) (by omega) (by omega) (by omega) | exact mm_RO_fr (mm_RO_fr (wf := [(66, 0)]) (wa := []) (h2 := h1) t0 (by rw [eh1]; exact mm_fr_pf mm_fr_rf (by decide)) (by decide)) g24c (by decide), by omega, by first | exact Or.inr ⟨by omega, by omega, rfl, by omega, fun w a b => mm_pr_sm (fun j => (g24c.2 102 (by decide) j).trans (mm_sm_pf 102 eh1 j)) (by omega) (by omega)⟩ | exact Or.inl ⟨by omega, by omega, Or.inr ⟨by omega, by have z := w131_6.2.2.2.2 (by omega); exact z, fun w a b => mm_pr_old w131_6.2.2.1 (by omega) (by omega) (by omega) ⟨a, b⟩⟩⟩ | exact Or.inl ⟨by omega, by omega, Or.inl ⟨rfl, by have z := (w131_6.2.2.2.1 (by omega)).1; omega, _, mm_R9_end w131_6 (by omega) (by have zz := mm_hd9x tf131; omega), fun w a b => (mm_pr_new (by omega) ⟨a, b⟩).trans (by rw [show h24c.1 66 68 = s64_0 by omega, mm_PY_eq (h := h131_) (fun j => by rw [eh14, eh13]; rfl)])⟩⟩, by first | exact Or.inr ⟨by omega, fun w R => mm_ruY_sm R (by omega) (by omega) (fun j => (g24c.2 103 (by decide) j).trans (mm_sm_pf 103 eh1 j)) (fun j => (g24c.2 104 (by decide) j).trans (mm_sm_pf 104 eh1 j)) (fun j => (g24c.2 105 (by decide) j).trans (mm_sm_pf 105 eh1 j)) (fun j => (g24c.2 106 (by decide) j).trans (mm_sm_pf 106 eh1 j)) (fun j => (g24c.2 107 (by decide) j).trans (mm_sm_pf 107 eh1 j))⟩ | exact Or.inl ⟨by omega, Or.inr ⟨by omega, fun w R => mm_ruY_bk R (mm_bk_tr zbk w131_0.1) (by omega) (by omega) (by omega) (show 0 ≤ h.1 66 68 ∧ h.1 66 68 ≤ 1 from i0.1 66 68) (show 0 ≤ h.2.1 103 (h.1 66 68) ∧ h.2.1 103 (h.1 66 68) ≤ 20 from i0.2.1 103 _)⟩⟩ | exact Or.inl ⟨by omega, Or.inl ⟨rfl, mm_R9J_end w131_6 w131_7 (by omega) (by have zz := mm_hd9x tf131; omega) (by omega) (by omega) (fun j => (mm_sm_pf 107 eh14 j).trans (mm_sm_pf 107 eh13 j)) ((mm_sm_pf 103 eh14 _).trans (mm_sm_pf 103 eh13 _)) (fun j _ _ => ⟨(mm_sm_pf 104 eh14 j).trans (mm_sm_pf 104 eh13 j), (mm_sm_pf 105 eh14 j).trans (mm_sm_pf 105 eh13 j), (mm_sm_pf 106 eh14 j).trans (mm_sm_pf 106 eh13 j)⟩) (by have z5 := w131_0.2.2.2.2 (by omega); have z6 := z5.1; omega)⟩⟩⟩⟩
  have J22 : ∀ (w22_0 : (p1 < 0 ∨ h.1 66 56 < p1)) (w22_1 : h1.1 66 56 = h.1 66 56) (w22_2 : h1.1 66 0 = 0), mm_W x 0 0 22 [mR 66, mI p1, mU] [mR 66] h1 := by
    intro w22_0 w22_1 w22_2
    refine mm_iconst C (mm_dec dk_X12_rules 12 rfl) ⟨by decide, by decide⟩ ?_
    exact J23 0 ⟨by omega, by omega⟩ (by omega) (by omega) (by omega) (Or.inl rfl)
  refine mm_if_lt (tgt := 22) C (mm_dec dk_X12_rules 5 rfl) (by decide) (fun c7 => ?_) (fun c7 => ?_)
  · skip
    exact J22 (by omega) (by omega) (by omega)
  · skip
    refine mm_iload_n C (mm_dec dk_X12_rules 6 rfl) rfl ?_
    refine mm_aload_n C (mm_dec dk_X12_rules 7 rfl) rfl ?_
    refine mm_geti C fl_X12_350 (mm_dec dk_X12_rules 8 rfl) rfl rfl (Or.inl rfl) ?_
    refine mm_icmp_gt (tgt := 22) C (mm_dec dk_X12_rules 9 rfl) (by decide) (fun c15 => ?_) (fun c15 => ?_)
    · skip
      exact J22 (by omega) (by omega) (by omega)
    · skip
      refine mm_iconst C (mm_dec dk_X12_rules 10 rfl) ⟨by decide, by decide⟩ ?_
      refine mm_goto (tgt := 23) C (mm_dec dk_X12_rules 11 rfl) (by decide) ?_
      exact J23 1 ⟨by omega, by omega⟩ (by omega) (by omega) (by omega) (Or.inr (⟨by omega, by omega, rfl⟩))
