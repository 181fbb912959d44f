set_option maxRecDepth 100000 in
set_option maxHeartbeats 4000000 in
theorem c_X12_ofTeam_q (l : Launch) (hl : l.stackTraces = false) (d : Nat) (hd : 7 ≤ d) (h : mH) (i0 : mm_inv h) (p1 : Int) (p2 : Int) (p3 : Int) (t0 : mm_RO h) : mm_Met l d yX12_ofTeam cX12_ofTeam 8 (some .int) [mR 66, mI p1, mI p2, mI p3] h (mm_pi fun r h2 => (-2147483648 ≤ r ∧ r ≤ 2147483647) ∧ mm_inv h2 ∧ mm_fr [(66, 0), (66, 39), (66, 48), (66, 52), (66, 53), (66, 54), (66, 87), (66, 88), (66, 89)] [91, 98, 99, 100, 110, 111] h h2 ∧ (((0 ≤ p1 ∧ p1 < h.1 66 24 ∧ 0 ≤ p2 ∧ p2 ≤ 1) ∧ (0 ≤ p3 ∧ p3 ≤ h.1 66 41) ∧ h2.1 66 0 = 0) ∨ ((p1 < 0 ∨ h.1 66 24 ≤ p1 ∨ p2 < 0 ∨ 1 < p2) ∧ h2.1 66 0 = 1 ∧ r = 0) ∨ ((0 ≤ p1 ∧ p1 < h.1 66 24 ∧ 0 ≤ p2 ∧ p2 ≤ 1) ∧ (p3 < 0 ∨ h.1 66 41 < p3) ∧ h2.1 66 0 = 2 ∧ r = 0)) ∧ (h2.1 66 0 = 0 → mm_oY9 h p1 p2 p3 r)) mm_nx 0 0 := by
  refine mm_ofW (ls := [mR 66, mI p1, mI p2, mI p3, mU, mU, mU, mU]) hl (by decide) rfl (Nat.le_of_ble_eq_true rfl) ?_
  intro x hxl C T hnm htb
  subst hxl
  have C1 := mm_OK_le (d' := d - 1 + 1) (by omega) C
  refine mm_rng (fun hr _ => ?_)
  have ap1 : -2147483648 ≤ p1 ∧ p1 < 2147483648 := mm_ok_at hr (i := 1) rfl
  have ap2 : -2147483648 ≤ p2 ∧ p2 < 2147483648 := mm_ok_at hr (i := 2) rfl
  have ap3 : -2147483648 ≤ p3 ∧ p3 < 2147483648 := mm_ok_at hr (i := 3) rfl
  have f0 : mm_fr [(66, 0), (66, 39), (66, 48), (66, 52), (66, 53), (66, 54), (66, 87), (66, 88), (66, 89)] [91, 98, 99, 100, 110, 111] h h := mm_fr_rf
  have g1 : 0 ≤ h.1 66 24 ∧ h.1 66 24 ≤ 10 := i0.1 66 24
  have g2 : 0 ≤ h.1 66 41 ∧ h.1 66 41 ≤ 99999 := i0.1 66 41
  have g3 : -2147483648 ≤ h.1 66 52 ∧ h.1 66 52 ≤ 2147483647 := i0.1 66 52
  have g4 : -2147483648 ≤ h.1 66 53 ∧ h.1 66 53 ≤ 2147483647 := i0.1 66 53
  have g5 : -2147483648 ≤ h.1 66 54 ∧ h.1 66 54 ≤ 2147483647 := i0.1 66 54
  have g6 : -2147483648 ≤ h.1 66 87 ∧ h.1 66 87 ≤ 2147483647 := i0.1 66 87
  have g7 : 0 ≤ h.1 66 88 ∧ h.1 66 88 ≤ 1 := i0.1 66 88
  have g8 : -2147483648 ≤ h.1 66 0 ∧ h.1 66 0 ≤ 2147483647 := i0.1 66 0
  have g9 : 0 ≤ h.1 66 89 ∧ h.1 66 89 ≤ 1 := i0.1 66 89
  have zn24 : 0 ≤ h.1 66 24 ∧ h.1 66 24 ≤ 10 := i0.1 66 24
  refine mm_aload_n C (mm_dec dk_X12_ofTeam 0 rfl) rfl ?_
  refine mm_iconst C (mm_dec dk_X12_ofTeam 1 rfl) ⟨by decide, by decide⟩ ?_
  refine mm_puti C fl_X12_188 (mm_dec dk_X12_ofTeam 2 rfl) rfl rfl rfl (Or.inl ⟨rfl, rfl⟩) ?_
  have i1 : mm_inv (mm_pf h 66 0 0) := mm_inv_pf i0 (show -2147483648 ≤ 0 ∧ 0 ≤ 2147483647 from ⟨by omega, by omega⟩) (by decide)
  have f1 : mm_fr [(66, 0), (66, 39), (66, 48), (66, 52), (66, 53), (66, 54), (66, 87), (66, 88), (66, 89)] [91, 98, 99, 100, 110, 111] h (mm_pf h 66 0 0) := mm_fr_pf f0 (by decide)
  obtain ⟨h1, eh1⟩ : ∃ z, z = mm_pf h 66 0 0 := ⟨_, rfl⟩
  rw [← eh1] at i1 f1 ⊢
  have qh1 : h1.1 66 0 = 0 := by rw [eh1]; exact mm_pf_same _ _ _ _
  have qh1_10 : h1.1 66 24 = h.1 66 24 := by rw [eh1]; exact mm_pf_ne _ _ (by decide)
  have qh1_11 : h1.1 66 41 = h.1 66 41 := by rw [eh1]; exact mm_pf_ne _ _ (by decide)
  have qh1_12 : h1.1 66 52 = h.1 66 52 := by rw [eh1]; exact mm_pf_ne _ _ (by decide)
  have qh1_13 : h1.1 66 53 = h.1 66 53 := by rw [eh1]; exact mm_pf_ne _ _ (by decide)
  have qh1_14 : h1.1 66 54 = h.1 66 54 := by rw [eh1]; exact mm_pf_ne _ _ (by decide)
  have qh1_15 : h1.1 66 87 = h.1 66 87 := by rw [eh1]; exact mm_pf_ne _ _ (by decide)
  have qh1_16 : h1.1 66 88 = h.1 66 88 := by rw [eh1]; exact mm_pf_ne _ _ (by decide)
  have qh1_17 : h1.1 66 89 = h.1 66 89 := by rw [eh1]; exact mm_pf_ne _ _ (by decide)
  refine mm_aload_n C (mm_dec dk_X12_ofTeam 3 rfl) rfl ?_
  refine mm_iload_n C (mm_dec dk_X12_ofTeam 4 rfl) rfl ?_
  have J32 : ∀ (s32_1 : Int) (bs32_1 : 0 ≤ s32_1 ∧ s32_1 ≤ 1) (w32_0 : ((s32_1 = 1 ∧ (0 ≤ p1 ∧ p1 < h.1 66 24 ∧ 0 ≤ p2 ∧ p2 ≤ 1)) ∨ (s32_1 = 0 ∧ (p1 < 0 ∨ h.1 66 24 ≤ p1 ∨ p2 < 0 ∨ 1 < p2)))) (w32_1 : h1.1 66 0 = 0) (vs32_1 : (s32_1 = 0) ∨ (0 ≤ p1 ∧ p1 < (h1.1 66 24) ∧ s32_1 = 1)), mm_W x 0 0 32 [mR 66, mI p1, mI p2, mI p3, mU, mU, mU, mU] [mI s32_1, mR 66] h1 := by
    intro s32_1 bs32_1 w32_0 w32_1 vs32_1
    refine mm_iconst C (mm_dec dk_X12_ofTeam 18 rfl) ⟨by decide, by decide⟩ ?_
    refine mm_cVi (rest := []) C1 ev_X12_251 (mm_dec dk_X12_ofTeam 19 rfl) (c_X12_right_q x.2.1 hl (d - 1) (by omega) h1 i1 s32_1 1 ⟨by omega, by omega⟩ (by omega)) rfl rfl (Nat.le_of_ble_eq_true rfl) ⟨by decide, by decide⟩ rfl (fun r33 h33c hp33 => ?_) (fun _ _ q => q.elim)
    obtain ⟨b33, i33c, g33c, y33_0⟩ := hp33
    have f33c : mm_fr [(66, 0), (66, 39), (66, 48), (66, 52), (66, 53), (66, 54), (66, 87), (66, 88), (66, 89)] [91, 98, 99, 100, 110, 111] h h33c := mm_fr_tr f1 g33c (by decide +kernel)
    have q33c_19 : h33c.1 66 24 = h1.1 66 24 := g33c.1 66 24 (by decide)
    have q33c_20 : h33c.1 66 41 = h1.1 66 41 := g33c.1 66 41 (by decide)
    have q33c_21 : h33c.1 66 52 = h1.1 66 52 := g33c.1 66 52 (by decide)
    have q33c_22 : h33c.1 66 53 = h1.1 66 53 := g33c.1 66 53 (by decide)
    have q33c_23 : h33c.1 66 54 = h1.1 66 54 := g33c.1 66 54 (by decide)
    have q33c_24 : h33c.1 66 87 = h1.1 66 87 := g33c.1 66 87 (by decide)
    have q33c_25 : h33c.1 66 88 = h1.1 66 88 := g33c.1 66 88 (by decide)
    have q33c_26 : h33c.1 66 89 = h1.1 66 89 := g33c.1 66 89 (by decide)
    have g27 : -2147483648 ≤ (h33c.1 66 0) ∧ (h33c.1 66 0) ≤ 2147483647 := i33c.1 66 0
    have J47 : ∀ (h47_ : mH) (i47_ : mm_inv h47_) (f47_ : mm_fr [(66, 0), (66, 39), (66, 48), (66, 52), (66, 53), (66, 54), (66, 87), (66, 88), (66, 89)] [91, 98, 99, 100, 110, 111] h h47_) (w47_0 : (((p1 < 0 ∨ h.1 66 24 ≤ p1 ∨ p2 < 0 ∨ 1 < p2) ∧ h47_.1 66 0 = 1) ∨ ((0 ≤ p1 ∧ p1 < h.1 66 24 ∧ 0 ≤ p2 ∧ p2 ≤ 1) ∧ (p3 < 0 ∨ h.1 66 41 < p3) ∧ h47_.1 66 0 = 2))), mm_W x 0 0 47 [mU, mU, mU, mU, mU, mU, mU, mU] [] h47_ := by
      intro h47_ i47_ f47_ w47_0
      have g28 : 0 ≤ h47_.1 66 24 ∧ h47_.1 66 24 ≤ 10 := i47_.1 66 24
      have g29 : 0 ≤ h47_.1 66 41 ∧ h47_.1 66 41 ≤ 99999 := i47_.1 66 41
      have g30 : -2147483648 ≤ h47_.1 66 52 ∧ h47_.1 66 52 ≤ 2147483647 := i47_.1 66 52
      have g31 : -2147483648 ≤ h47_.1 66 53 ∧ h47_.1 66 53 ≤ 2147483647 := i47_.1 66 53
      have g32 : -2147483648 ≤ h47_.1 66 54 ∧ h47_.1 66 54 ≤ 2147483647 := i47_.1 66 54
      have g33 : -2147483648 ≤ h47_.1 66 87 ∧ h47_.1 66 87 ≤ 2147483647 := i47_.1 66 87
      have g34 : 0 ≤ h47_.1 66 88 ∧ h47_.1 66 88 ≤ 1 := i47_.1 66 88
      have g35 : -2147483648 ≤ h47_.1 66 0 ∧ h47_.1 66 0 ≤ 2147483647 := i47_.1 66 0
      have g36 : 0 ≤ h47_.1 66 89 ∧ h47_.1 66 89 ≤ 1 := i47_.1 66 89
      have g37 : h47_.1 66 24 = h.1 66 24 := f47_.1 66 24 (by decide)
      have g38 : h47_.1 66 41 = h.1 66 41 := f47_.1 66 41 (by decide)
      refine mm_iconst C (mm_dec dk_X12_ofTeam 25 rfl) ⟨by decide, by decide⟩ ?_
      exact mm_iret C T (mm_dec dk_X12_ofTeam 26 rfl) (by decide : 0 ≤ 0) (by decide : 0 ≤ 0) ⟨_, rfl, ⟨⟨by omega, by omega⟩, i47_, f47_, by omega, by first | exact fun q => absurd q (by omega) | exact fun _ => ⟨_, _, zU, by omega⟩ | exact fun _ => ⟨_, _, zU, Or.inr (Or.inr ⟨by omega, by omega, (by rw [show h.1 66 24 = x85_6 by omega]; exact w85_0)⟩)⟩⟩⟩
    refine mm_if_eq (tgt := 47) C (mm_dec dk_X12_ofTeam 20 rfl) (by decide) (fun c36 => ?_) (fun c36 => ?_)
    · skip
      refine mm_fgt 0 ?_
      refine mm_fgt 1 ?_
      refine mm_fgt 2 ?_
      refine mm_fgt 3 ?_
      exact J47 h33c i33c f33c (by omega)
    · skip
      refine mm_aload_n C (mm_dec dk_X12_ofTeam 21 rfl) rfl ?_
      refine mm_iload_n C (mm_dec dk_X12_ofTeam 22 rfl) rfl ?_
      refine mm_cVi (rest := []) C1 ev_X12_499 (mm_dec dk_X12_ofTeam 23 rfl) (c_X12_isSecond_q x.2.1 hl (d - 1) (by omega) h33c i33c p3) rfl rfl (Nat.le_of_ble_eq_true rfl) ⟨by decide, by decide⟩ rfl (fun r41 h41c hp41 => ?_) (fun _ _ q => q.elim)
      obtain ⟨b41, i41c, g41c, y41_0, y41_1⟩ := hp41
      have f41c : mm_fr [(66, 0), (66, 39), (66, 48), (66, 52), (66, 53), (66, 54), (66, 87), (66, 88), (66, 89)] [91, 98, 99, 100, 110, 111] h h41c := mm_fr_tr f33c g41c (by decide +kernel)
      have q41c_40 : h41c.1 66 24 = h33c.1 66 24 := g41c.1 66 24 (by decide)
      have q41c_41 : h41c.1 66 41 = h33c.1 66 41 := g41c.1 66 41 (by decide)
      have q41c_42 : h41c.1 66 52 = h33c.1 66 52 := g41c.1 66 52 (by decide)
      have q41c_43 : h41c.1 66 53 = h33c.1 66 53 := g41c.1 66 53 (by decide)
      have q41c_44 : h41c.1 66 54 = h33c.1 66 54 := g41c.1 66 54 (by decide)
      have q41c_45 : h41c.1 66 87 = h33c.1 66 87 := g41c.1 66 87 (by decide)
      have q41c_46 : h41c.1 66 88 = h33c.1 66 88 := g41c.1 66 88 (by decide)
      have q41c_47 : h41c.1 66 89 = h33c.1 66 89 := g41c.1 66 89 (by decide)
      have g48 : -2147483648 ≤ (h41c.1 66 0) ∧ (h41c.1 66 0) ≤ 2147483647 := i41c.1 66 0
      refine mm_if_ne (tgt := 49) C (mm_dec dk_X12_ofTeam 24 rfl) (by decide) (fun c44 => ?_) (fun c44 => ?_)
      · skip
        refine mm_aload_n C (mm_dec dk_X12_ofTeam 27 rfl) rfl ?_
        refine mm_iload_n C (mm_dec dk_X12_ofTeam 28 rfl) rfl ?_
        refine mm_iload_n C (mm_dec dk_X12_ofTeam 29 rfl) rfl ?_
        refine mm_cVi (rest := []) C1 ev_X12_508 (mm_dec dk_X12_ofTeam 30 rfl) (c_X12_timeOf_q x.2.1 hl (d - 1) (by omega) h41c i41c p1 p3 ⟨by omega, by omega⟩ (by first | exact mm_RO_fr t0 f41c (by decide) | omega)) rfl rfl (Nat.le_of_ble_eq_true rfl) ⟨by decide, by decide⟩ rfl (fun r52 h52c hp52 => ?_) (fun _ _ q => q.elim)
        obtain ⟨b52, i52c, g52c, y52_0⟩ := hp52
        have f52c : mm_fr [(66, 0), (66, 39), (66, 48), (66, 52), (66, 53), (66, 54), (66, 87), (66, 88), (66, 89)] [91, 98, 99, 100, 110, 111] h h52c := mm_fr_tr f41c g52c (by decide +kernel)
        have q52c_50 : h52c.1 66 0 = h41c.1 66 0 := g52c.1 66 0 (by decide)
        have q52c_51 : h52c.1 66 24 = h41c.1 66 24 := g52c.1 66 24 (by decide)
        have q52c_52 : h52c.1 66 41 = h41c.1 66 41 := g52c.1 66 41 (by decide)
        have g53 : -2147483648 ≤ (h52c.1 66 52) ∧ (h52c.1 66 52) ≤ 2147483647 := i52c.1 66 52
        have g54 : -2147483648 ≤ (h52c.1 66 53) ∧ (h52c.1 66 53) ≤ 2147483647 := i52c.1 66 53
        have g55 : -2147483648 ≤ (h52c.1 66 54) ∧ (h52c.1 66 54) ≤ 2147483647 := i52c.1 66 54
        have g56 : -2147483648 ≤ (h52c.1 66 87) ∧ (h52c.1 66 87) ≤ 2147483647 := i52c.1 66 87
        have g57 : 0 ≤ (h52c.1 66 88) ∧ (h52c.1 66 88) ≤ 1 := i52c.1 66 88
        have g58 : 0 ≤ (h52c.1 66 89) ∧ (h52c.1 66 89) ≤ 1 := i52c.1 66 89
        have zU : mm_UY9 h p1 p3 (h52c.1 66 89) r52 := mm_UY9_fr y52_0 (mm_k2_fr f41c (by decide)) (f41c.2 79 (by decide)) (f41c.2 80 (by decide)) (f41c.2 82 (by decide)) (f41c.2 83 (by decide)) (f41c.2 84 (by decide)) (f41c.2 85 (by decide)) (f41c.2 86 (by decide)) (f41c.2 87 (by decide)) (f41c.2 88 (by decide)) (f41c.2 89 (by decide)) (f41c.2 90 (by decide)) (f41c.2 94 (by decide)) (f41c.2 95 (by decide)) (f41c.2 112 (by decide)) (f41c.2 113 (by decide)) (f41c.2 114 (by decide)) (f41c.2 115 (by decide)) (f41c.2 116 (by decide)) (f41c.2 102 (by decide)) (f41c.2 103 (by decide)) (f41c.2 104 (by decide)) (f41c.2 105 (by decide)) (f41c.2 106 (by decide)) (f41c.2 107 (by decide)) (f41c.1 66 40 (by decide)) (f41c.1 66 82 (by decide)) (f41c.1 66 67 (by decide)) (f41c.1 66 68 (by decide))
        refine mm_istoreL (ls2 := [mR 66, mI p1, mI p2, mI p3, mI r52, mU, mU, mU]) C (mm_dec dk_X12_ofTeam 31 rfl) (by decide) rfl ?_
        refine mm_iload_n C (mm_dec dk_X12_ofTeam 32 rfl) rfl ?_
        have J68 : ∀ (w68_0 : (p2 = 0 ∨ h52c.1 66 89 = 0)), mm_W x 0 0 68 [mU, mU, mI p2, mU, mI r52, mU, mU, mU] [] h52c := by
          intro w68_0
          refine mm_iload_n C (mm_dec dk_X12_ofTeam 37 rfl) rfl ?_
          have J78 : ∀ (s78_0 : Int) (bs78_0 : -2147483648 ≤ s78_0 ∧ s78_0 ≤ 2147483647) (w78_0 : ((p2 = 0 ∧ s78_0 = r52) ∨ (p2 ≠ 0 ∧ h52c.1 66 89 = 0 ∧ s78_0 = -1))), mm_W x 0 0 78 [mU, mU, mU, mU, mU, mU, mU, mU] [mI s78_0] h52c := by
            intro s78_0 bs78_0 w78_0
            exact mm_iret C T (mm_dec dk_X12_ofTeam 42 rfl) (by decide : 0 ≤ 0) (by decide : 0 ≤ 0) ⟨_, rfl, ⟨⟨by omega, by omega⟩, i52c, f52c, by omega, by first | exact fun q => absurd q (by omega) | exact fun _ => ⟨_, _, zU, by omega⟩ | exact fun _ => ⟨_, _, zU, Or.inr (Or.inr ⟨by omega, by omega, (by rw [show h.1 66 24 = x85_6 by omega]; exact w85_0)⟩)⟩⟩⟩
          refine mm_if_ne (tgt := 77) C (mm_dec dk_X12_ofTeam 38 rfl) (by decide) (fun c69 => ?_) (fun c69 => ?_)
          · skip
            refine mm_iconst C (mm_dec dk_X12_ofTeam 41 rfl) ⟨by decide, by decide⟩ ?_
            refine mm_fgt 2 ?_
            refine mm_fgt 4 ?_
            exact J78 (-1) ⟨by omega, by omega⟩ (by omega)
          · skip
            refine mm_iload C (mm_dec dk_X12_ofTeam 39 rfl) rfl ?_
            refine mm_goto (tgt := 78) C (mm_dec dk_X12_ofTeam 40 rfl) (by decide) ?_
            refine mm_fgt 2 ?_
            refine mm_fgt 4 ?_
            exact J78 r52 ⟨by omega, by omega⟩ (by omega)
        refine mm_if_eq (tgt := 68) C (mm_dec dk_X12_ofTeam 33 rfl) (by decide) (fun c58 => ?_) (fun c58 => ?_)
        · skip
          refine mm_fgt 0 ?_
          refine mm_fgt 1 ?_
          refine mm_fgt 3 ?_
          exact J68 (by omega)
        · skip
          refine mm_aload_n C (mm_dec dk_X12_ofTeam 34 rfl) rfl ?_
          refine mm_geti C fl_X12_505 (mm_dec dk_X12_ofTeam 35 rfl) rfl rfl (Or.inr rfl) ?_
          refine mm_if_ne (tgt := 79) C (mm_dec dk_X12_ofTeam 36 rfl) (by decide) (fun c65 => ?_) (fun c65 => ?_)
          · skip
            refine mm_iconst C (mm_dec dk_X12_ofTeam 43 rfl) ⟨by decide, by decide⟩ ?_
            refine mm_istoreL (ls2 := [mR 66, mI p1, mI p2, mI p3, mI r52, mI 1, mU, mU]) C (mm_dec dk_X12_ofTeam 44 rfl) (by decide) rfl ?_
            refine mm_iconst C (mm_dec dk_X12_ofTeam 45 rfl) ⟨by decide, by decide⟩ ?_
            have J85 : ∀ (n : Nat) (x85_5 : Int) (bx85_5 : 1 ≤ x85_5 ∧ x85_5 ≤ 11) (x85_6 : Int) (bx85_6 : 0 ≤ x85_6 ∧ x85_6 ≤ 10) (h85_ : mH) (i85_ : mm_inv h85_) (f85_ : mm_fr [(66, 0), (66, 39), (66, 48), (66, 52), (66, 53), (66, 54), (66, 87), (66, 88), (66, 89)] [91, 98, 99, 100, 110, 111] h h85_) (w85_0 : mm_QY9 h p1 p3 r52 (x85_6).toNat x85_5) (w85_1 : x85_6 ≤ h.1 66 24) (w85_2 : h85_.1 66 0 = 0), (10 - x85_6 : Int) < n → mm_W x 0 0 85 [mR 66, mI p1, mU, mI p3, mI r52, mI x85_5, mI x85_6, mU] [] h85_ := by
              intro n
              induction n with
              | zero =>
                intro x85_5 bx85_5 x85_6 bx85_6 h85_ i85_ f85_ w85_0 w85_1 w85_2 hm
                have g59 : 0 ≤ h85_.1 66 24 ∧ h85_.1 66 24 ≤ 10 := i85_.1 66 24
                have g60 : 0 ≤ h85_.1 66 41 ∧ h85_.1 66 41 ≤ 99999 := i85_.1 66 41
                have g61 : -2147483648 ≤ h85_.1 66 52 ∧ h85_.1 66 52 ≤ 2147483647 := i85_.1 66 52
                have g62 : -2147483648 ≤ h85_.1 66 53 ∧ h85_.1 66 53 ≤ 2147483647 := i85_.1 66 53
                have g63 : -2147483648 ≤ h85_.1 66 54 ∧ h85_.1 66 54 ≤ 2147483647 := i85_.1 66 54
                have g64 : -2147483648 ≤ h85_.1 66 87 ∧ h85_.1 66 87 ≤ 2147483647 := i85_.1 66 87
                have g65 : 0 ≤ h85_.1 66 88 ∧ h85_.1 66 88 ≤ 1 := i85_.1 66 88
                have g66 : -2147483648 ≤ h85_.1 66 0 ∧ h85_.1 66 0 ≤ 2147483647 := i85_.1 66 0
                have g67 : 0 ≤ h85_.1 66 89 ∧ h85_.1 66 89 ≤ 1 := i85_.1 66 89
                exfalso; omega
              | succ n ih85 =>
                intro x85_5 bx85_5 x85_6 bx85_6 h85_ i85_ f85_ w85_0 w85_1 w85_2 hm85
                clear qh1_12 qh1_13 qh1_14 qh1_15 qh1_16 qh1_17 q33c_21 q33c_22 q33c_23 q33c_24 q33c_25 q33c_26 g27 q41c_42 q41c_43 q41c_44 q41c_45 q41c_46 q41c_47 g48 q52c_50 g53 g54 g55 g56 g57
                have g68 : 0 ≤ h85_.1 66 24 ∧ h85_.1 66 24 ≤ 10 := i85_.1 66 24
                have g69 : 0 ≤ h85_.1 66 41 ∧ h85_.1 66 41 ≤ 99999 := i85_.1 66 41
                have g70 : -2147483648 ≤ h85_.1 66 52 ∧ h85_.1 66 52 ≤ 2147483647 := i85_.1 66 52
                have g71 : -2147483648 ≤ h85_.1 66 53 ∧ h85_.1 66 53 ≤ 2147483647 := i85_.1 66 53
                have g72 : -2147483648 ≤ h85_.1 66 54 ∧ h85_.1 66 54 ≤ 2147483647 := i85_.1 66 54
                have g73 : -2147483648 ≤ h85_.1 66 87 ∧ h85_.1 66 87 ≤ 2147483647 := i85_.1 66 87
                have g74 : 0 ≤ h85_.1 66 88 ∧ h85_.1 66 88 ≤ 1 := i85_.1 66 88
                have g75 : -2147483648 ≤ h85_.1 66 0 ∧ h85_.1 66 0 ≤ 2147483647 := i85_.1 66 0
                have g76 : 0 ≤ h85_.1 66 89 ∧ h85_.1 66 89 ≤ 1 := i85_.1 66 89
                have g77 : h85_.1 66 24 = h.1 66 24 := f85_.1 66 24 (by decide)
                have g78 : h85_.1 66 41 = h.1 66 41 := f85_.1 66 41 (by decide)
                have zr85 := mm_QY9_rg _ _ w85_0
                have z85 : ∀ j, h85_.2.1 85 j = h.2.1 85 j := fun j => f85_.2 85 (by decide) j
                have z90 : ∀ j, h85_.2.1 90 j = h.2.1 90 j := fun j => f85_.2 90 (by decide) j
                have zca : h85_.2.1 85 (h85_.2.1 90 (3 * x85_6)) = h.2.1 85 (h.2.1 90 (3 * x85_6)) := by rw [z85, z90]
                have zw3 : mm_w (3 * p1) = 3 * p1 := mm_w_id ⟨by omega, by omega⟩
                have zcb : h85_.2.1 85 (h85_.2.1 90 (mm_w (3 * p1))) = h.2.1 85 (h.2.1 90 (3 * p1)) := by rw [zw3, z85, z90]
                have zq24 : h85_.1 66 24 = h.1 66 24 := f85_.1 66 24 (by decide)
                refine mm_iload C (mm_dec dk_X12_ofTeam 47 rfl) rfl ?_
                refine mm_aload_n C (mm_dec dk_X12_ofTeam 48 rfl) rfl ?_
                refine mm_geti C fl_X12_225 (mm_dec dk_X12_ofTeam 49 rfl) rfl rfl (Or.inl rfl) ?_
                refine mm_icmp_ge (tgt := 159) C (mm_dec dk_X12_ofTeam 50 rfl) (by decide) (fun c91 => ?_) (fun c91 => ?_)
                · skip
                  refine mm_iload C (mm_dec dk_X12_ofTeam 85 rfl) rfl ?_
                  exact mm_iret C T (mm_dec dk_X12_ofTeam 86 rfl) (by decide : 0 ≤ 0) (by decide : 0 ≤ 0) ⟨_, rfl, ⟨⟨by omega, by omega⟩, i85_, f85_, by omega, by first | exact fun q => absurd q (by omega) | exact fun _ => ⟨_, _, zU, by omega⟩ | exact fun _ => ⟨_, _, zU, Or.inr (Or.inr ⟨by omega, by omega, (by rw [show h.1 66 24 = x85_6 by omega]; exact w85_0)⟩)⟩⟩⟩
                · skip
                  refine mm_aload_n C (mm_dec dk_X12_ofTeam 51 rfl) rfl ?_
                  refine mm_getr (t := 85) C fl_X12_66 (mm_dec dk_X12_ofTeam 52 rfl) rfl rfl (mm_ref i85_ rfl) ?_
                  refine mm_aload_n C (mm_dec dk_X12_ofTeam 53 rfl) rfl ?_
                  refine mm_getr (t := 90) C fl_X12_81 (mm_dec dk_X12_ofTeam 54 rfl) rfl rfl (mm_ref i85_ rfl) ?_
                  refine mm_iconst C (mm_dec dk_X12_ofTeam 55 rfl) ⟨by decide, by decide⟩ ?_
                  refine mm_iload C (mm_dec dk_X12_ofTeam 56 rfl) rfl ?_
                  refine mm_imul C (mm_dec dk_X12_ofTeam 57 rfl) ⟨by omega, by omega⟩ ?_
                  refine mm_iald C (mm_dec dk_X12_ofTeam 58 rfl) rfl (by omega) (by omega) ?_
                  have g79 : 0 ≤ (h85_.2.1 90 (3 * x85_6)) ∧ (h85_.2.1 90 (3 * x85_6)) ≤ 39 := i85_.2.1 90 (3 * x85_6)
                  refine mm_iald C (mm_dec dk_X12_ofTeam 59 rfl) rfl (by omega) (by omega) ?_
                  have g80 : 0 ≤ (h85_.2.1 85 (h85_.2.1 90 (3 * x85_6))) ∧ (h85_.2.1 85 (h85_.2.1 90 (3 * x85_6))) ≤ 7 := i85_.2.1 85 (h85_.2.1 90 (3 * x85_6))
                  refine mm_aload_n C (mm_dec dk_X12_ofTeam 60 rfl) rfl ?_
                  refine mm_getr (t := 85) C fl_X12_66 (mm_dec dk_X12_ofTeam 61 rfl) rfl rfl (mm_ref i85_ rfl) ?_
                  refine mm_aload_n C (mm_dec dk_X12_ofTeam 62 rfl) rfl ?_
                  refine mm_getr (t := 90) C fl_X12_81 (mm_dec dk_X12_ofTeam 63 rfl) rfl rfl (mm_ref i85_ rfl) ?_
                  refine mm_iconst C (mm_dec dk_X12_ofTeam 64 rfl) ⟨by decide, by decide⟩ ?_
                  refine mm_iload_n C (mm_dec dk_X12_ofTeam 65 rfl) rfl ?_
                  refine mm_imulw C (mm_dec dk_X12_ofTeam 66 rfl) ?_
                  have g81 : -2147483648 ≤ (mm_w (3 * p1)) ∧ (mm_w (3 * p1)) < 2147483648 := mm_w_rg _
                  refine mm_iald C (mm_dec dk_X12_ofTeam 67 rfl) rfl (by omega) (by omega) ?_
                  have g82 : 0 ≤ (h85_.2.1 90 (mm_w (3 * p1))) ∧ (h85_.2.1 90 (mm_w (3 * p1))) ≤ 39 := i85_.2.1 90 (mm_w (3 * p1))
                  refine mm_iald C (mm_dec dk_X12_ofTeam 68 rfl) rfl (by omega) (by omega) ?_
                  have g83 : 0 ≤ (h85_.2.1 85 (h85_.2.1 90 (mm_w (3 * p1)))) ∧ (h85_.2.1 85 (h85_.2.1 90 (mm_w (3 * p1)))) ≤ 7 := i85_.2.1 85 (h85_.2.1 90 (mm_w (3 * p1)))
                  have J153 : ∀ (x153_5 : Int) (bx153_5 : 1 ≤ x153_5 ∧ x153_5 ≤ 11) (h153_ : mH) (i153_ : mm_inv h153_) (f153_ : mm_fr [(66, 0), (66, 39), (66, 48), (66, 52), (66, 53), (66, 54), (66, 87), (66, 88), (66, 89)] [91, 98, 99, 100, 110, 111] h h153_) (w153_0 : mm_QY9 h p1 p3 r52 (x85_6 + 1).toNat x153_5) (w153_1 : h153_.1 66 0 = 0), mm_W x 0 0 153 [mR 66, mI p1, mU, mI p3, mI r52, mI x153_5, mI x85_6, mU] [] h153_ := by
                    intro x153_5 bx153_5 h153_ i153_ f153_ w153_0 w153_1
                    have g84 : 0 ≤ h153_.1 66 24 ∧ h153_.1 66 24 ≤ 10 := i153_.1 66 24
                    have g85 : 0 ≤ h153_.1 66 41 ∧ h153_.1 66 41 ≤ 99999 := i153_.1 66 41
                    have g86 : -2147483648 ≤ h153_.1 66 52 ∧ h153_.1 66 52 ≤ 2147483647 := i153_.1 66 52
                    have g87 : -2147483648 ≤ h153_.1 66 53 ∧ h153_.1 66 53 ≤ 2147483647 := i153_.1 66 53
                    have g88 : -2147483648 ≤ h153_.1 66 54 ∧ h153_.1 66 54 ≤ 2147483647 := i153_.1 66 54
                    have g89 : -2147483648 ≤ h153_.1 66 87 ∧ h153_.1 66 87 ≤ 2147483647 := i153_.1 66 87
                    have g90 : 0 ≤ h153_.1 66 88 ∧ h153_.1 66 88 ≤ 1 := i153_.1 66 88
                    have g91 : -2147483648 ≤ h153_.1 66 0 ∧ h153_.1 66 0 ≤ 2147483647 := i153_.1 66 0
                    have g92 : 0 ≤ h153_.1 66 89 ∧ h153_.1 66 89 ≤ 1 := i153_.1 66 89
                    have g93 : h153_.1 66 24 = h.1 66 24 := f153_.1 66 24 (by decide)
                    have g94 : h153_.1 66 41 = h.1 66 41 := f153_.1 66 41 (by decide)
                    refine mm_iincL (ls2 := [mR 66, mI p1, mU, mI p3, mI r52, mI x153_5, mI (x85_6 + 1), mU]) C (mm_dec dk_X12_ofTeam 83 rfl) rfl (by decide) ⟨by omega, by omega⟩ rfl ?_
                    refine mm_goto (tgt := 85) C (mm_dec dk_X12_ofTeam 84 rfl) (by decide) ?_
                    exact ih85 x153_5 ⟨by omega, by omega⟩ (x85_6 + 1) ⟨by omega, by omega⟩ h153_ i153_ f153_ (by first | exact w153_0 | exact (show (1 : Int) = 1 from rfl)) (by omega) (by omega) (by omega)
                  refine mm_icmp_eq (tgt := 127) C (mm_dec dk_X12_ofTeam 69 rfl) (by decide) (fun c121 => ?_) (fun c121 => ?_)
                  · skip
                    refine mm_aload_n C (mm_dec dk_X12_ofTeam 71 rfl) rfl ?_
                    refine mm_iload C (mm_dec dk_X12_ofTeam 72 rfl) rfl ?_
                    refine mm_iload_n C (mm_dec dk_X12_ofTeam 73 rfl) rfl ?_
                    refine mm_cVi (rest := []) C1 ev_X12_508 (mm_dec dk_X12_ofTeam 74 rfl) (c_X12_timeOf_q x.2.1 hl (d - 1) (by omega) h85_ i85_ x85_6 p3 ⟨by omega, by omega⟩ (by first | exact mm_RO_fr t0 f85_ (by decide) | omega)) rfl rfl (Nat.le_of_ble_eq_true rfl) ⟨by decide, by decide⟩ rfl (fun r131 h131c hp131 => ?_) (fun _ _ q => q.elim)
                    obtain ⟨b131, i131c, g131c, y131_0⟩ := hp131
                    have f131c : mm_fr [(66, 0), (66, 39), (66, 48), (66, 52), (66, 53), (66, 54), (66, 87), (66, 88), (66, 89)] [91, 98, 99, 100, 110, 111] h h131c := mm_fr_tr f85_ g131c (by decide +kernel)
                    have q131c_96 : h131c.1 66 0 = h85_.1 66 0 := g131c.1 66 0 (by decide)
                    have q131c_97 : h131c.1 66 24 = h85_.1 66 24 := g131c.1 66 24 (by decide)
                    have q131c_98 : h131c.1 66 41 = h85_.1 66 41 := g131c.1 66 41 (by decide)
                    have g99 : -2147483648 ≤ (h131c.1 66 52) ∧ (h131c.1 66 52) ≤ 2147483647 := i131c.1 66 52
                    have g100 : -2147483648 ≤ (h131c.1 66 53) ∧ (h131c.1 66 53) ≤ 2147483647 := i131c.1 66 53
                    have g101 : -2147483648 ≤ (h131c.1 66 54) ∧ (h131c.1 66 54) ≤ 2147483647 := i131c.1 66 54
                    have g102 : -2147483648 ≤ (h131c.1 66 87) ∧ (h131c.1 66 87) ≤ 2147483647 := i131c.1 66 87
                    have g103 : 0 ≤ (h131c.1 66 88) ∧ (h131c.1 66 88) ≤ 1 := i131c.1 66 88
                    have g104 : 0 ≤ (h131c.1 66 89) ∧ (h131c.1 66 89) ≤ 1 := i131c.1 66 89
                    have zU2 : mm_UY9 h x85_6 p3 (h131c.1 66 89) r131 := mm_UY9_fr y131_0 (mm_k2_fr f85_ (by decide)) (f85_.2 79 (by decide)) (f85_.2 80 (by decide)) (f85_.2 82 (by decide)) (f85_.2 83 (by decide)) (f85_.2 84 (by decide)) (f85_.2 85 (by decide)) (f85_.2 86 (by decide)) (f85_.2 87 (by decide)) (f85_.2 88 (by decide)) (f85_.2 89 (by decide)) (f85_.2 90 (by decide)) (f85_.2 94 (by decide)) (f85_.2 95 (by decide)) (f85_.2 112 (by decide)) (f85_.2 113 (by decide)) (f85_.2 114 (by decide)) (f85_.2 115 (by decide)) (f85_.2 116 (by decide)) (f85_.2 102 (by decide)) (f85_.2 103 (by decide)) (f85_.2 104 (by decide)) (f85_.2 105 (by decide)) (f85_.2 106 (by decide)) (f85_.2 107 (by decide)) (f85_.1 66 40 (by decide)) (f85_.1 66 82 (by decide)) (f85_.1 66 67 (by decide)) (f85_.1 66 68 (by decide))
                    refine mm_istoreL (ls2 := [mR 66, mI p1, mU, mI p3, mI r52, mI x85_5, mI x85_6, mI r131]) C (mm_dec dk_X12_ofTeam 75 rfl) (by decide) rfl ?_
                    refine mm_aload_n C (mm_dec dk_X12_ofTeam 76 rfl) rfl ?_
                    refine mm_geti C fl_X12_505 (mm_dec dk_X12_ofTeam 77 rfl) rfl rfl (Or.inr rfl) ?_
                    refine mm_if_eq (tgt := 153) C (mm_dec dk_X12_ofTeam 78 rfl) (by decide) (fun c140 => ?_) (fun c140 => ?_)
                    · skip
                      refine mm_fgt 7 ?_
                      exact J153 x85_5 ⟨by omega, by omega⟩ h131c i131c f131c (by first | exact mm_QY9_n w85_0 (by omega) (by omega) | exact mm_QY9_y w85_0 (by omega) (by omega) zU2 ⟨by omega, by omega⟩ | exact mm_QY9_w w85_0 (by omega) (by omega) zU2 (by omega)) (by omega)
                    · skip
                      refine mm_iload C (mm_dec dk_X12_ofTeam 79 rfl) rfl ?_
                      refine mm_iload C (mm_dec dk_X12_ofTeam 80 rfl) rfl ?_
                      refine mm_icmp_ge (tgt := 153) C (mm_dec dk_X12_ofTeam 81 rfl) (by decide) (fun c147 => ?_) (fun c147 => ?_)
                      · skip
                        refine mm_fgt 7 ?_
                        exact J153 x85_5 ⟨by omega, by omega⟩ h131c i131c f131c (by first | exact mm_QY9_n w85_0 (by omega) (by omega) | exact mm_QY9_y w85_0 (by omega) (by omega) zU2 ⟨by omega, by omega⟩ | exact mm_QY9_w w85_0 (by omega) (by omega) zU2 (by omega)) (by omega)
                      · skip
                        refine mm_iincL (ls2 := [mR 66, mI p1, mU, mI p3, mI r52, mI (x85_5 + 1), mI x85_6, mI r131]) C (mm_dec dk_X12_ofTeam 82 rfl) rfl (by decide) ⟨by omega, by omega⟩ rfl ?_
                        refine mm_fgt 7 ?_
                        exact J153 (x85_5 + 1) ⟨by omega, by omega⟩ h131c i131c f131c (by first | exact mm_QY9_n w85_0 (by omega) (by omega) | exact mm_QY9_y w85_0 (by omega) (by omega) zU2 ⟨by omega, by omega⟩ | exact mm_QY9_w w85_0 (by omega) (by omega) zU2 (by omega)) (by omega)
                  · skip
                    refine mm_goto (tgt := 153) C (mm_dec dk_X12_ofTeam 70 rfl) (by decide) ?_
                    exact J153 x85_5 ⟨by omega, by omega⟩ h85_ i85_ f85_ (by first | exact mm_QY9_n w85_0 (by omega) (by omega) | exact mm_QY9_y w85_0 (by omega) (by omega) zU2 ⟨by omega, by omega⟩ | exact mm_QY9_w w85_0 (by omega) (by omega) zU2 (by omega)) (by omega)
            refine mm_istoreL (ls2 := [mR 66, mI p1, mI p2, mI p3, mI r52, mI 1, mI 0, mU]) C (mm_dec dk_X12_ofTeam 46 rfl) (by decide) rfl ?_
            refine mm_fgt 2 ?_
            exact J85 (((10 - 0) : Int) + 1).toNat 1 ⟨by omega, by omega⟩ 0 ⟨by omega, by omega⟩ h52c i52c f52c (by first | exact w153_0 | exact (show (1 : Int) = 1 from rfl)) (by omega) (by omega) (by omega)
          · skip
            refine mm_fgt 0 ?_
            refine mm_fgt 1 ?_
            refine mm_fgt 3 ?_
            exact J68 (by omega)
      · skip
        refine mm_fgt 0 ?_
        refine mm_fgt 1 ?_
        refine mm_fgt 2 ?_
        refine mm_fgt 3 ?_
        exact J47 h41c i41c f41c (by omega)
  have J31 : ∀ (w31_0 : (p1 < 0 ∨ h.1 66 24 ≤ p1 ∨ p2 < 0 ∨ 1 < p2)) (w31_1 : h1.1 66 0 = 0), mm_W x 0 0 31 [mR 66, mI p1, mI p2, mI p3, mU, mU, mU, mU] [mR 66] h1 := by
    intro w31_0 w31_1
    refine mm_iconst C (mm_dec dk_X12_ofTeam 17 rfl) ⟨by decide, by decide⟩ ?_
    exact J32 0 ⟨by omega, by omega⟩ (by omega) (by omega) (Or.inl rfl)
  refine mm_if_lt (tgt := 31) C (mm_dec dk_X12_ofTeam 5 rfl) (by decide) (fun c7 => ?_) (fun c7 => ?_)
  · skip
    exact J31 (by omega) (by omega)
  · skip
    refine mm_iload_n C (mm_dec dk_X12_ofTeam 6 rfl) rfl ?_
    refine mm_aload_n C (mm_dec dk_X12_ofTeam 7 rfl) rfl ?_
    refine mm_geti C fl_X12_225 (mm_dec dk_X12_ofTeam 8 rfl) rfl rfl (Or.inl rfl) ?_
    refine mm_icmp_ge (tgt := 31) C (mm_dec dk_X12_ofTeam 9 rfl) (by decide) (fun c15 => ?_) (fun c15 => ?_)
    · skip
      exact J31 (by omega) (by omega)
    · skip
      refine mm_iload_n C (mm_dec dk_X12_ofTeam 10 rfl) rfl ?_
      have J27 : ∀ (w27_0 : (0 ≤ p1 ∧ p1 < h.1 66 24 ∧ 0 ≤ p2 ∧ p2 ≤ 1)) (w27_1 : h1.1 66 0 = 0), mm_W x 0 0 27 [mR 66, mI p1, mI p2, mI p3, mU, mU, mU, mU] [mR 66] h1 := by
        intro w27_0 w27_1
        refine mm_iconst C (mm_dec dk_X12_ofTeam 15 rfl) ⟨by decide, by decide⟩ ?_
        refine mm_goto (tgt := 32) C (mm_dec dk_X12_ofTeam 16 rfl) (by decide) ?_
        exact J32 1 ⟨by omega, by omega⟩ (by omega) (by omega) (Or.inr (⟨by omega, by omega, rfl⟩))
      refine mm_if_eq (tgt := 27) C (mm_dec dk_X12_ofTeam 11 rfl) (by decide) (fun c19 => ?_) (fun c19 => ?_)
      · skip
        exact J27 (by omega) (by omega)
      · skip
        refine mm_iload_n C (mm_dec dk_X12_ofTeam 12 rfl) rfl ?_
        refine mm_iconst C (mm_dec dk_X12_ofTeam 13 rfl) ⟨by decide, by decide⟩ ?_
        refine mm_icmp_ne (tgt := 31) C (mm_dec dk_X12_ofTeam 14 rfl) (by decide) (fun c24 => ?_) (fun c24 => ?_)
        · skip
          exact J31 (by omega) (by omega)
        · skip
          exact J27 (by omega) (by omega)
/-! ===== both sides know the same ===== -/
theorem mm_w_u (x : Int) : ∃ q, mm_w x = x + 4294967296 * q := by
  unfold mm_w Int.bmod
  simp only
  split
  · exact ⟨-(x / 4294967296), by omega⟩
  · exact ⟨-(x / 4294967296) - 1, by omega⟩
theorem mm_w_eq {x y q : Int} (e : x = y + 4294967296 * q) : mm_w x = mm_w y := by
  obtain ⟨a, ha⟩ := mm_w_u x
  obtain ⟨b, hb⟩ := mm_w_u y
  have rx := mm_w_rg x
  have ry := mm_w_rg y
  unfold mm_i32 at rx ry
  omega
theorem mm_x1_cp {v p p' : Int → Int} {c : Int} {S : List Int} (e : ∀ j, 0 ≤ j → j ≤ 2 → p' j = p j) : mm_x1 v p' c S = mm_x1 v p c S := by
  unfold mm_x1
  by_cases q1 : c < 100000
  · rw [if_pos q1, if_pos q1]
  · by_cases q2 : c < 100007
    · rw [if_neg q1, if_pos q2, if_neg q1, if_pos q2]
    · by_cases q3 : c < 100010
      · rw [if_neg q1, if_neg q2, if_pos q3, if_neg q1, if_neg q2, if_pos q3, e (c - 100007) (by omega) (by omega)]
      · rw [if_neg q1, if_neg q2, if_neg q3, if_neg q1, if_neg q2, if_neg q3]
theorem mm_xs_cp {v p p' : Int → Int} (e : ∀ j, 0 ≤ j → j ≤ 2 → p' j = p j) : ∀ (A S : List Int), mm_xs v p' A S = mm_xs v p A S
  | [], _ => rfl
  | c :: A, S => by
    show mm_xs v p' A (mm_x1 v p' c S) = mm_xs v p A (mm_x1 v p c S)
    rw [mm_x1_cp e, mm_xs_cp e A]
theorem mm_cls_cp {v p p' : Int → Int} (e : ∀ j, 0 ≤ j → j ≤ 2 → p' j = p j) : ∀ (L : List mm_C3) (y : Int × Int), mm_cls v p' L y = mm_cls v p L y
  | [], _ => rfl
  | q :: L, y => by
    show mm_cls v p' L (mm_clr v p' q y) = mm_cls v p L (mm_clr v p q y)
    have z : mm_clr v p' q y = mm_clr v p q y := by
      unfold mm_clr mm_cw9 mm_ev9
      rw [mm_xs_cp e, mm_xs_cp e]
    rw [z, mm_cls_cp e L]
/-- protests alike -/
def mm_pt9 (h : mH) : Prop := ∃ c, 0 ≤ c ∧ h.1 66 91 = h.1 30 13 + c ∧ 0 ≤ h.1 30 13 ∧ ∀ i, 0 ≤ i → i < h.1 30 12 → h.2.1 112 i = h.2.1 37 i ∧ (h.2.1 40 i ≠ -1 → h.2.1 114 i = h.2.1 38 i ∧ h.2.1 115 i = h.2.1 39 i ∧ h.2.1 116 i = h.2.1 41 i + c ∧ 0 ≤ h.2.1 41 i ∧ h.2.1 41 i < h.1 30 13 ∧ 0 ≤ h.2.1 38 i ∧ h.2.1 38 i ≤ 2)
def mm_JD (h : mH) : Prop := mm_RW h ∧ mm_ab8 h ∧ mm_eq h 31 92 (h.1 30 6 - 1) ∧ mm_eq h 32 93 (h.1 30 6 - 1) ∧ mm_eq h 35 96 (h.1 30 6 - 1) ∧ mm_eq h 36 97 (h.1 30 6 - 1) ∧ mm_eq h 34 95 (h.1 30 6 - 1) ∧ mm_ep8 h ∧ mm_eq h 17 83 (h.1 14 8 - 1) ∧ h.1 66 40 = h.1 30 6 ∧ mm_eq h 24 86 (h.1 22 8 - 1) ∧ mm_eq h 16 79 (h.1 14 7 - 1) ∧ mm_pw9 h ∧ mm_cJ h ∧ mm_pt9 h ∧ mm_eq h 40 113 (h.1 30 12 - 1) ∧ h.1 66 82 = h.1 30 12
theorem mm_J_eq {h b : mH} {p k s f mi wr sc pe ou s' f' : Int} (D : mm_JD h) (p0 : 0 ≤ p ∧ p < h.1 22 8) (X : mm_FX h p k s f mi wr sc pe ou) (Y : mm_AY h b p k s' f') : s' = s ∧ f' = f ∧ b.1 66 52 = mi ∧ b.1 66 53 = wr ∧ b.1 66 54 = sc ∧ b.1 66 87 = pe ∧ b.1 66 88 = ou := by
  obtain ⟨R, A8, a, bb, d, g, eA, eU, e17, hev, e24, e16, pw, cJ, _⟩ := D
  obtain ⟨X1, X2, ⟨K, Q, m, X3, X4, X5, X6⟩, X7⟩ := X
  obtain ⟨Y1, Y2, Y3, Y4, Y5, Y6, _, Y8⟩ := Y
  have c := mm_RW_c R p0.1 p0.2
  have n0 : 0 ≤ h.1 30 6 := (R.1.1 30 6).1
  have eP : ∀ kd r e, 0 ≤ e → e < h.1 30 6 → (mm_k1 h kd r k e ↔ mm_k2 h kd r k e) := fun kd r e x y => mm_kk a bb d g rfl rfl x y
  have eA' : ∀ e, 0 ≤ e → e < h.1 30 6 → h.2.1 95 e = h.2.1 34 e := fun e x y => (eA e x (by omega)).symm
  have eU' : ∀ e, 0 ≤ e → e < h.1 30 6 → h.2.1 31 e = 1 → h.2.1 94 e = h.2.1 33 e := fun e x y z => (eU e x (by omega) z).symm
  have ef : h.2.1 17 (h.2.1 23 p) ≠ 0 ↔ h.2.1 83 (h.2.1 85 p) ≠ 0 := by rw [e17 (h.2.1 23 p) c.2.2.1 c.2.2.2.1, c.1]
  have enX : mm_nY h p = mm_nX h p := c.2.2.2.2.1
  have ew : ∀ j, 0 ≤ j → j < mm_nX h p → mm_rY h p j = mm_rX h p j := fun j x y => (mm_RW_r R p0.1 p0.2 j x y).1.symm
  have nX0 : 0 ≤ mm_nX h p := (R.1.2.1 19 _).1
  have es := mm_sXY X1 Y1 (mm_ab8_aa A8) p0 hev eA' eP
  have eff : f' = f := mm_tm8_un X2 Y2 hev (eP 2 p) eA'
  subst es eff
  obtain ⟨em, eQ, eK⟩ := mm_jj8_eq X3 Y3 ef enX (by rw [hev]) nX0 ew (fun e a b => eP 1 p e a (by omega)) (fun e a b => eA' e a (by omega)) (fun e a b z => eU' e a (by omega) z.1)
  have emi : b.1 66 52 = mi := by
    rcases X4 with ⟨x, y⟩ | ⟨x, y⟩ <;> rcases Y4 with ⟨x', y'⟩ | ⟨x', y'⟩
    · omega
    · exact absurd x' (ef.mp x)
    · exact absurd x (ef.mpr x')
    · rw [y', y, enX]
      exact mm_uk9_cg _ (fun j j0 j1 => (eK j j0 (by omega)).1)
  have ewr : b.1 66 53 = wr := by
    rw [hev, enX] at Y5
    have z := mm_wr8_cg (P := mm_k1 h 1 p k) (w := mm_rX h p) (U := h.2.1 33) (m := (mm_nX h p).toNat) (fun j j0 j1 => ew j j0 (by omega)) (h.1 30 6).toNat (b.1 66 53) (fun e a b => eP 1 p e a (by omega)) (fun e a b z => eU' e a (by omega) z.1) Y5
    rw [X5]
    exact mm_so8_wr _ _ _ _ X3.1 z
  have esc : b.1 66 54 = sc := by
    rw [Y6, X6, enX]
    refine mm_sc9_cg _ (fun j j0 j1 => (eK j j0 (by omega)).1) (fun j j0 j1 => ?_)
    have z := mm_RW_r R p0.1 p0.2 j j0 (by omega)
    rw [← z.1]
    exact (e16 _ (by omega) (by omega)).symm
  have epo : (b.1 66 87, b.1 66 88) = (pe, ou) := by
    obtain ⟨L, C, ru⟩ := cJ
    have z := Y8 L C.1 (mm_lL9_of C.1 ru (R.1.2.1 103 _).1 (R.1.1 66 68).1)
    rw [z, X7, mm_cd_tells C]
    unfold mm_yV9
    rw [emi, ewr, esc, enX, ← e24 p p0.1 (by omega), show (if h.2.1 83 (h.2.1 85 p) ≠ 0 then (1 : Int) else 0) = (if h.2.1 17 (h.2.1 23 p) ≠ 0 then (1 : Int) else 0) from by
      by_cases q : h.2.1 17 (h.2.1 23 p) ≠ 0
      · rw [if_pos q, if_pos (ef.mp q)]
      · rw [if_neg q, if_neg (fun z => q (ef.mpr z))]]
    exact mm_cls_cp (fun j a b => (pw j a b).1.symm) _ _
  exact ⟨rfl, rfl, emi, ewr, esc, congrArg Prod.fst epo, congrArg Prod.snd epo⟩
theorem mm_JD_pt {h : mH} (D : mm_JD h) : ∃ c, ∀ i, 0 ≤ i → i < ((h.1 30 12).toNat : Int) → h.2.1 112 i = h.2.1 37 i ∧ h.2.1 113 i = h.2.1 40 i ∧ (h.2.1 40 i ≠ -1 → h.2.1 114 i = h.2.1 38 i ∧ h.2.1 115 i = h.2.1 39 i ∧ h.2.1 116 i = h.2.1 41 i + c ∧ 0 ≤ h.2.1 41 i ∧ 0 ≤ h.2.1 38 i ∧ h.2.1 38 i ≤ 2) := by
  obtain ⟨_, _, _, _, _, _, _, _, _, _, _, _, _, _, ⟨c, _, _, _, pt⟩, e40, e82⟩ := D
  refine ⟨c, fun i a b => ?_⟩
  have z := pt i a (by omega)
  refine ⟨z.1, (e40 i a (by omega)).symm, fun q => ?_⟩
  have y := z.2 q
  exact ⟨y.1, y.2.1, y.2.2.1, y.2.2.2.1, y.2.2.2.2.2.1, y.2.2.2.2.2.2⟩
theorem mm_a_eq {h : mH} (D : mm_JD h) (p k : Int) : mm_aY9 h p k = mm_aX9 h p k := by
  obtain ⟨c, z⟩ := mm_JD_pt D
  obtain ⟨_, _, _, _, _, _, _, _, _, _, _, _, _, _, _, _, e82⟩ := D
  unfold mm_aY9 mm_aX9
  rw [e82]
  exact mm_ad9_eq _ (fun i a b => ⟨(z i a b).1, (z i a b).2.1, fun q => ⟨((z i a b).2.2 q).1, ((z i a b).2.2 q).2.1⟩⟩)
theorem mm_v_eq {h : mH} (D : mm_JD h) (p k : Int) : mm_vY9 h p k = mm_vX9 h p k ∧ 0 ≤ mm_vX9 h p k ∧ mm_vX9 h p k ≤ 2 := by
  obtain ⟨c, z⟩ := mm_JD_pt D
  obtain ⟨_, _, _, _, _, _, _, _, _, _, _, _, _, _, _, _, e82⟩ := D
  unfold mm_vY9 mm_vX9
  rw [e82]
  rcases mm_ve9_eq (a := h.2.1 37) (d := h.2.1 40) (v := h.2.1 38) (t := h.2.1 41) (a' := h.2.1 112) (d' := h.2.1 113) (v' := h.2.1 114) (t' := h.2.1 116) (r := p) (k := k) (c := c) (h.1 30 12).toNat (fun i a b => ⟨(z i a b).1, (z i a b).2.1, fun q => ⟨((z i a b).2.2 q).1, ((z i a b).2.2 q).2.2.1, ((z i a b).2.2 q).2.2.2.1⟩⟩) with ⟨x, y⟩ | ⟨x0, x1, u, y⟩
  · rw [if_pos x, y]
    exact ⟨rfl, by decide, by decide⟩
  · have w := (z _ x0 x1).2.2 u.2.1
    rw [if_neg (by omega), y]
    exact ⟨w.1, w.2.2.2.2.1, w.2.2.2.2.2⟩
theorem mm_S_eq {h : mH} {p k s s' : Int} (D : mm_JD h) (p0 : 0 ≤ p ∧ p < h.1 22 8) (X : mm_sX8 h p k s) (Y : mm_sY8 h p k s') : s' = s := by
  obtain ⟨R, A8, a, bb, d, g, eA, _, _, hev, _⟩ := D
  exact mm_sXY X Y (mm_ab8_aa A8) p0 hev (fun e x y => (eA e x (by omega)).symm) (fun kd r e x y => mm_kk a bb d g rfl rfl x y)
theorem mm_F_eq {h : mH} {p k f f' : Int} (D : mm_JD h) (X : mm_tm8 (h.2.1 34) (mm_k1 h 2 p k) (h.1 30 6) f) (Y : mm_fY9 h p k f') : f' = f := by
  obtain ⟨R, A8, a, bb, d, g, eA, _, _, hev, _⟩ := D
  exact mm_tm8_un X Y hev (fun e x y => mm_kk a bb d g rfl rfl x y) (fun e x y => (eA e x (by omega)).symm)
theorem mm_Z_eq {h b b' : mH} {p k st : Int} (D : mm_JD h) (p0 : 0 ≤ p ∧ p < h.1 22 8) (X : mm_LX h b p k) (Z : mm_ZY9 h b' p k st) : st = b.1 46 5 ∧ (st = 4 → b'.1 66 54 = b.2.1 47 3 ∧ b'.1 66 87 = b.1 46 8 ∧ b'.2.1 110 2 = b.2.1 47 2 ∧ b.1 46 6 ≠ -1 ∧ b.1 46 7 ≠ -1) := by
  obtain ⟨⟨F, ru, ad, sta⟩, _⟩ := X
  obtain ⟨s, S, Z⟩ := Z
  have es := mm_S_eq D p0 F.1 S
  subst es
  have v := mm_v_eq D p k
  rcases Z with ⟨z1, z2⟩ | ⟨z1, z2, f, T, Z⟩
  · refine ⟨?_, fun q => by omega⟩
    rw [sta, z2]
    unfold mm_sa9
    rw [if_pos z1]
  · have ef := mm_F_eq D F.2.1 T
    subst ef
    rcases Z with ⟨z3, z4⟩ | ⟨z3, z4, ⟨s', f', A⟩, z5⟩
    · refine ⟨?_, fun q => by omega⟩
      rw [sta, z4]
      unfold mm_sa9
      rw [if_neg (by omega), if_pos z3]
    · have e := mm_J_eq D p0 F A
      obtain ⟨e1, e2, e3, e4, e5, e6, e7⟩ := e
      refine ⟨?_, fun q => ⟨e5, e6, ?_, z1, z3⟩⟩
      · rw [sta, z5, v.1, e7, e3]
        unfold mm_sa9 mm_sb9
        (repeat' split) <;> omega
      · rw [A.2.2.2.2.2.2.1, e1, e2, ru]
theorem mm_tz_eq {fr sc ru pe ad : Int} : mm_tz9 fr sc ru pe ad = mm_to9 fr sc ru pe ad := by
  unfold mm_tz9 mm_to9
  obtain ⟨a, ha⟩ := mm_w_u (sc - pe)
  obtain ⟨c, hc⟩ := mm_w_u (pe + ad)
  obtain ⟨d, hd⟩ := mm_w_u (ru + pe)
  by_cases q : fr ≠ 0
  · rw [if_pos q, if_pos q]
    exact mm_w_eq (q := a + c) (by omega)
  · rw [if_neg q, if_neg q]
    exact mm_w_eq (q := d - c) (by omega)
theorem mm_fr_eq {h : mH} {p : Int} (D : mm_JD h) (p0 : 0 ≤ p ∧ p < h.1 22 8) : h.2.1 83 (h.2.1 85 p) = h.2.1 17 (h.2.1 23 p) := by
  obtain ⟨R, _, _, _, _, _, _, _, e17, _⟩ := D
  have c := mm_RW_c R p0.1 p0.2
  rw [e17 (h.2.1 23 p) c.2.2.1 c.2.2.2.1, c.1]
theorem mm_T_eq {h b : mH} {p k r : Int} (D : mm_JD h) (p0 : 0 ≤ p ∧ p < h.1 22 8) (X : mm_LX h b p k) (T : mm_TY9 h p k r) : r = b.1 46 10 := by
  obtain ⟨b', st, Z, T⟩ := T
  have z := mm_Z_eq D p0 X Z
  rcases T with ⟨t1, t2⟩ | ⟨t1, t2⟩
  · rcases X.2 with ⟨x1, x2⟩ | ⟨x1, x2⟩
    · omega
    · omega
  · rcases X.2 with ⟨x1, x2⟩ | ⟨x1, x2⟩
    · omega
    · have y := z.2 t1
      rw [t2, x2, mm_fr_eq D p0, y.1, y.2.1, y.2.2.1, mm_a_eq D, mm_tz_eq, X.1.2.2.1]
theorem mm_B_eq {h b : mH} {p o k own run : Int} {y : Prop} (D : mm_JD h) (p0 : 0 ≤ o ∧ o < h.1 22 8) (fe : h.2.1 83 (h.2.1 85 p) = h.2.1 17 (h.2.1 23 p)) (X : mm_LX h b o k) (s4 : b.1 46 5 = 4) (n6 : b.1 46 6 ≠ -1) (n7 : b.1 46 7 ≠ -1) (B : mm_bY9 h (h.2.1 83 (h.2.1 85 p)) own run o k y) : mm_bX9 (h.2.1 17 (h.2.1 23 p)) own run b ↔ y := by
  obtain ⟨to, T, B⟩ := B
  have et := mm_T_eq D p0 X T
  rw [fe] at B
  unfold mm_bX9
  rcases B with ⟨f, i⟩ | ⟨f, ne, i⟩ | ⟨f, e, s, g, S, F, i⟩
  · rw [i]
    constructor
    · rintro ⟨_, ⟨q, _⟩ | ⟨_, q⟩⟩
      · exact absurd f q
      · omega
    · intro q
      exact ⟨s4, Or.inr ⟨f, by omega⟩⟩
  · rw [i]
    constructor
    · rintro ⟨_, ⟨_, q | ⟨q, _⟩⟩ | ⟨q, _⟩⟩
      · omega
      · omega
      · exact absurd q f
    · intro q
      exact ⟨s4, Or.inl ⟨f, Or.inl (by omega)⟩⟩
  · rw [i]
    have es := mm_S_eq D p0 X.1.1.1 S
    have eg := mm_F_eq D X.1.1.2.1 F
    have er : b.2.1 47 2 = mm_w (g - s) := by
      rw [X.1.2.1, es, eg]
      unfold mm_rn9
      rw [if_neg (by omega)]
    rw [← er]
    constructor
    · rintro ⟨_, ⟨_, q | ⟨_, q⟩⟩ | ⟨q, _⟩⟩
      · omega
      · exact q
      · exact absurd q f
    · intro q
      exact ⟨s4, Or.inl ⟨f, Or.inr ⟨by omega, q⟩⟩⟩
theorem mm_P_eq {h : mH} {p k own run : Int} (D : mm_JD h) (p0 : 0 ≤ p ∧ p < h.1 22 8) : ∀ (i : Nat) (n n' : Int), (i : Int) ≤ h.1 22 8 → mm_PZ9 h p k own run i n → mm_PY9 h p k own run i n' → n = n'
  | 0, n, n', _, X, Y => by
    have a : n = 1 := X
    have b : n' = 1 := Y
    omega
  | i + 1, n, n', hi, X, Y => by
    have ih := mm_P_eq (k := k) (own := own) (run := run) D p0 i
    have io : 0 ≤ (i : Int) ∧ (i : Int) < h.1 22 8 := ⟨by omega, by omega⟩
    have c1 := (mm_RW_c D.1 io.1 io.2).1
    have c2 := (mm_RW_c D.1 p0.1 p0.2).1
    have fe := mm_fr_eq D p0
    rcases X with ⟨x, X⟩ | ⟨x1, x2, b, L, X⟩ <;> rcases Y with ⟨y, Y⟩ | ⟨y1, y2, b', st, Z, Y⟩
    · exact ih n n' (by omega) X Y
    · omega
    · omega
    · have z := mm_Z_eq D io L Z
      rcases Y with ⟨q, Y⟩ | ⟨q, Y⟩
      · rcases X with ⟨B, X⟩ | ⟨_, X⟩
        · have := B.1; omega
        · exact ih n n' (by omega) X Y
      · have w := z.2 q
        rcases Y with ⟨B', Y⟩ | ⟨B', Y⟩ <;> have e := mm_B_eq D io fe L (by omega) w.2.2.2.1 w.2.2.2.2 B'
        · rcases X with ⟨_, X⟩ | ⟨B, X⟩
          · have := ih _ _ (by omega) X Y; omega
          · exact absurd (e.mpr trivial) B
        · rcases X with ⟨B, X⟩ | ⟨_, X⟩
          · exact (e.mp B).elim
          · exact ih n n' (by omega) X Y
theorem mm_pl_eq {h : mH} {p k r r' : Int} (D : mm_JD h) (p0 : 0 ≤ p ∧ p < h.1 22 8) (X : mm_pX9 h p k r) (Y : mm_plY9 h p k r') : r = r' := by
  obtain ⟨b, L, X⟩ := X
  obtain ⟨b', st, Z, Y⟩ := Y
  have z := mm_Z_eq D p0 L Z
  rcases X with ⟨x1, x2⟩ | ⟨x1, X⟩ <;> rcases Y with ⟨y1, y2⟩ | ⟨y1, own, s, f, T, S, F, Y⟩
  · omega
  · omega
  · omega
  · have w := z.2 y1
    have et := mm_T_eq D p0 L T
    have es := mm_S_eq D p0 L.1.1.1 S
    have ef := mm_F_eq D L.1.1.2.1 F
    have er : b.2.1 47 2 = mm_w (f - s) := by
      rw [L.1.2.1, es, ef]
      unfold mm_rn9
      rw [if_neg (by omega)]
    rw [← et, er] at X
    rw [← D.1.rs] at Y
    have n22 := (D.1.1.1 22 8)
    exact mm_P_eq D p0 _ _ _ (by have : 0 ≤ h.1 22 8 := n22.1; omega) X Y
theorem mm_judged_law {h : mH} {p w k r r' : Int} (D : mm_JD h) (p0 : 0 ≤ p ∧ p < h.1 22 8) (X : mm_jX9 h p w k r) (Y : mm_jY9 h p w k r') : r = r' := by
  rcases X with ⟨x1, X⟩ | ⟨x1, x2, b, L, X⟩
  · rcases Y with ⟨y, _⟩ | ⟨y, _⟩ | ⟨y, _⟩ | ⟨y, _⟩ | ⟨_, Y⟩ | ⟨_, y, _⟩
    · omega
    · omega
    · omega
    · omega
    · exact mm_pl_eq D p0 X Y
    · omega
  · rcases Y with ⟨y, b', Z⟩ | ⟨y, S⟩ | ⟨y, F⟩ | ⟨y, T⟩ | ⟨y, _⟩ | ⟨y1, y2, b', s, f, A, Y⟩
    · have z := (mm_Z_eq D p0 L Z).1
      omega
    · have z := mm_S_eq D p0 L.1.1.1 S
      omega
    · have z := mm_F_eq D L.1.1.2.1 F
      omega
    · have z := mm_T_eq D p0 L T
      omega
    · omega
    · obtain ⟨_, _, e3, e4, e5, e6, _⟩ := mm_J_eq D p0 L.1.1 A
      omega
/-! teams -/
def mm_tm9 (h : mH) : Prop := ∀ j, 0 ≤ j → j < 3 * h.1 22 9 → h.2.1 90 j = h.2.1 29 j ∧ 0 ≤ h.2.1 29 j ∧ h.2.1 29 j < h.1 22 8
theorem mm_tX9_g {h : mH} {t k : Int} : ∀ (n : Nat) (s f : Int), mm_tX9 h t k n s f → ∀ i : Nat, i < n → ∃ b, mm_LX h b (h.2.1 29 (t * 3 + i)) k ∧ b.1 46 5 = 4
  | 0, _, _, _, i, hi => absurd hi (Nat.not_lt_zero _)
  | n + 1, s, f, ⟨b, s0, f0, w, L, e, _⟩, i, hi => by
    by_cases q : i = n
    · rw [q]; exact ⟨b, L, e⟩
    · exact mm_tX9_g n s0 f0 w i (by omega)
theorem mm_tY9_g {h : mH} {t k : Int} : ∀ (n : Nat) (s : Int), mm_tY9 h t k n s → ∀ i : Nat, i < n → ∃ b st, mm_ZY9 h b (h.2.1 90 (3 * t + i)) k st ∧ st = 4
  | 0, _, _, i, hi => absurd hi (Nat.not_lt_zero _)
  | n + 1, s, ⟨b, st, s0, w, Z, e, _⟩, i, hi => by
    by_cases q : i = n
    · rw [q]; exact ⟨b, st, Z, e⟩
    · exact mm_tY9_g n s0 w i (by omega)
theorem mm_tt_eq {h : mH} {t k : Int} (D : mm_JD h) (tm : mm_tm9 h) (t0 : 0 ≤ t ∧ t < h.1 22 9) : ∀ (i : Nat) (s f s' : Int), i ≤ 3 → mm_tX9 h t k i s f → mm_tY9 h t k i s' → (i = 0 ∧ s = 0 ∧ s' = 0) ∨ (1 ≤ i ∧ ∃ st q, mm_sX8 h (h.2.1 29 (t * 3 + 0)) k st ∧ s = s' - st + 4294967296 * q ∧ mm_tm8 (h.2.1 34) (mm_k1 h 2 (h.2.1 29 (t * 3 + (i : Int) - 1)) k) (h.1 30 6) f)
  | 0, s, f, s', _, X, Y => Or.inl ⟨rfl, X, Y⟩
  | i + 1, s, f, s', hi, ⟨b, s0, f0, X, L, e4, ef, es⟩, ⟨b', st, s0', Y, Z, _, es'⟩ => by
    have m := tm (t * 3 + i) (by omega) (by omega)
    rw [show 3 * t + (i : Int) = t * 3 + i by omega, m.1] at Z es'
    have z := mm_Z_eq D m.2 L Z
    have w := z.2 (by omega)
    have ea := mm_a_eq D (h.2.1 29 (t * 3 + i)) k
    have ad := L.1.2.2.1
    rw [ea, ← ad, w.2.1] at es'
    obtain ⟨u, hu⟩ := mm_w_u (b.1 46 8 + b.1 46 9)
    obtain ⟨u', hu'⟩ := mm_w_u (s0' + mm_w (b.1 46 8 + b.1 46 9))
    obtain ⟨u2, hu2⟩ := mm_w_u (s0 + mm_w (b.1 46 8 + b.1 46 9))
    refine Or.inr ⟨by omega, ?_⟩
    have F := L.1.1.2.1
    rw [← ef] at F
    rw [show t * 3 + ((i + 1 : Nat) : Int) - 1 = t * 3 + i by omega]
    rcases mm_tt_eq D tm t0 i s0 f0 s0' (by omega) X Y with ⟨a, c, d⟩ | ⟨a, st0, q, S, e, _⟩
    · rw [if_pos a] at es
      obtain ⟨u3, hu3⟩ := mm_w_u (mm_w (s0 + mm_w (b.1 46 8 + b.1 46 9)) - b.1 46 6)
      refine ⟨b.1 46 6, u3 + u2 - u', ?_, by omega, F⟩
      have S := L.1.1.1
      rw [a] at S
      exact S
    · rw [if_neg (by omega)] at es
      exact ⟨st0, q + u2 - u', S, by omega, F⟩
theorem mm_TU_eq {h : mH} {t k r T x v : Int} (D : mm_JD h) (tm : mm_tm9 h) (t0 : 0 ≤ t ∧ t < h.1 22 9) (X : mm_TZ9 h t k r T) (Y : mm_UY9 h t k x v) : x = r ∧ (r = 1 → v = T) ∧ (r = 0 → v = -100000) ∧ (r = 0 ∨ r = 1) := by
  have mem : ∀ i : Nat, i < 3 → h.2.1 90 (3 * t + i) = h.2.1 29 (t * 3 + i) ∧ 0 ≤ h.2.1 29 (t * 3 + i) ∧ h.2.1 29 (t * 3 + i) < h.1 22 8 := fun i hi => by
    have z := tm (t * 3 + i) (by omega) (by omega)
    rw [show 3 * t + (i : Int) = t * 3 + i by omega]
    exact z
  rcases X with ⟨x1, s, f, X, eT⟩ | ⟨x1, i, s, f, b, hi, X, L, n4⟩ <;> rcases Y with ⟨y1, s', f', st, Y, F, S, ev⟩ | ⟨y1, ev, j, s', b', st, hj, Y, Z, m4⟩
  · refine ⟨by omega, fun _ => ?_, fun q => by omega, Or.inr x1⟩
    rcases mm_tt_eq D tm t0 3 s f s' (by decide) X Y with ⟨a, _⟩ | ⟨_, st0, q, S0, e, F0⟩
    · exact absurd a (by decide)
    · have m2 := mem 2 (by decide)
      have m0 := mem 0 (by decide)
      have e2 : h.2.1 90 (3 * t + 2) = h.2.1 29 (t * 3 + ((3 : Nat) : Int) - 1) := m2.1.trans (by rw [show t * 3 + ((2 : Nat) : Int) = t * 3 + ((3 : Nat) : Int) - 1 by omega])
      have e0 : h.2.1 90 (3 * t) = h.2.1 29 (t * 3 + 0) := by
        have z := m0.1
        rw [show 3 * t + ((0 : Nat) : Int) = 3 * t by omega] at z
        exact z
      rw [e2] at F
      rw [e0] at S
      have ef := mm_F_eq D F0 F
      have es := mm_S_eq D m0.2 S0 S
      rw [ev, eT, ef, es]
      obtain ⟨u, hu⟩ := mm_w_u (s' + f)
      exact mm_w_eq (q := u - q) (by omega)
  · obtain ⟨b, L, e4⟩ := mm_tX9_g 3 s f X j hj
    have m := mem j hj
    rw [m.1] at Z
    have z := (mm_Z_eq D m.2 L Z).1
    omega
  · obtain ⟨b', st', Z, e4⟩ := mm_tY9_g 3 s' Y i hi
    have m := mem i hi
    rw [m.1] at Z
    have z := (mm_Z_eq D m.2 L Z).1
    omega
  · exact ⟨by omega, fun q => by omega, fun _ => ev, Or.inl x1⟩
theorem mm_Q_eq {h : mH} {t k own : Int} (D : mm_JD h) (tm : mm_tm9 h) (t0 : 0 ≤ t ∧ t < h.1 22 9) (O : mm_TZ9 h t k 1 own) : ∀ (i : Nat) (n n' : Int), (i : Int) ≤ h.1 22 9 → mm_QZ9 h t k own i n → mm_QY9 h t k own i n' → n = n'
  | 0, n, n', _, X, Y => by
    have a : n = 1 := X
    have b : n' = 1 := Y
    omega
  | i + 1, n, n', hi, X, Y => by
    have ih := mm_Q_eq D tm t0 O i
    have mi := tm ((i : Int) * 3 + 0) (by omega) (by omega)
    have mt := tm (t * 3 + 0) (by omega) (by omega)
    have ci : h.2.1 85 (h.2.1 90 (3 * (i : Int))) = h.2.1 23 (h.2.1 29 ((i : Int) * 3 + 0)) := by
      rw [show 3 * (i : Int) = (i : Int) * 3 + 0 by omega, mi.1]
      exact (mm_RW_c D.1 mi.2.1 mi.2.2).1.symm
    have ct : h.2.1 85 (h.2.1 90 (3 * t)) = h.2.1 23 (h.2.1 29 (t * 3 + 0)) := by
      rw [show 3 * t = t * 3 + 0 by omega, mt.1]
      exact (mm_RW_c D.1 mt.2.1 mt.2.2).1.symm
    unfold mm_QY9 at Y
    rw [ci, ct] at Y
    rcases Y with ⟨y, Y⟩ | ⟨y, x, v, U, Y⟩
    · rcases X with ⟨_, X⟩ | ⟨_, q, _⟩
      · exact ih n n' (by omega) X Y
      · exact absurd q y
    · rcases X with ⟨q, X⟩ | ⟨_, _, r, T, Z, X⟩
      · rcases q with q | q
        · rw [q] at U
          have z := mm_TU_eq D tm t0 O U
          have := z.2.1 rfl
          rcases Y with ⟨_, l, _⟩ | ⟨_, Y⟩
          · omega
          · exact ih n n' (by omega) X Y
        · exact absurd y q
      · have z := mm_TU_eq D tm ⟨by omega, by omega⟩ Z U
        rcases X with ⟨x1, x2, X⟩ | ⟨x1, X⟩ <;> rcases Y with ⟨y1, y2, Y⟩ | ⟨y1, Y⟩
        · have := ih _ _ (by omega) X Y; omega
        · have := z.2.1 x1; omega
        · have := z.2.1 (by omega); omega
        · exact ih n n' (by omega) X Y
theorem mm_ofTeam_law {h : mH} {t w k r r' : Int} (D : mm_JD h) (tm : mm_tm9 h) (et : h.1 66 24 = h.1 22 9) (t0 : 0 ≤ t ∧ t < h.1 22 9) (X : mm_oX9 h t w k r) (Y : mm_oY9 h t w k r') : r = r' := by
  obtain ⟨x, own, U, Y⟩ := Y
  rcases X with ⟨w1, X⟩ | ⟨w0, z, T, Z, X⟩
  · rcases X with ⟨T, Z, e⟩ | ⟨T, Z, Q⟩
    · have q := mm_TU_eq D tm t0 Z U
      rcases Y with ⟨y, _⟩ | ⟨_, _, y⟩ | ⟨_, y, _⟩ <;> omega
    · have q := mm_TU_eq D tm t0 Z U
      have eo := q.2.1 rfl
      rcases Y with ⟨y, _⟩ | ⟨_, y, _⟩ | ⟨_, _, Y⟩
      · omega
      · omega
      · rw [eo, et] at Y
        exact mm_Q_eq D tm t0 Z _ _ _ (by omega) Q Y
  · have q := mm_TU_eq D tm t0 Z U
    rcases Y with ⟨_, y⟩ | ⟨y, _⟩ | ⟨y, _⟩
    · rcases X with ⟨x1, x2⟩ | ⟨x1, x2⟩
      · have := q.2.1 x1; omega
      · have := q.2.2.1 x1; omega
    · omega
    · omega
/-! ===== the law: protests, teams ===== -/
theorem mm_pt9_sm {h h2 : mH} (P : mm_pt9 h) (e37 : ∀ j, h2.2.1 37 j = h.2.1 37 j) (e38 : ∀ j, h2.2.1 38 j = h.2.1 38 j) (e39 : ∀ j, h2.2.1 39 j = h.2.1 39 j) (e40 : ∀ j, h2.2.1 40 j = h.2.1 40 j) (e41 : ∀ j, h2.2.1 41 j = h.2.1 41 j) (e112 : ∀ j, h2.2.1 112 j = h.2.1 112 j) (e114 : ∀ j, h2.2.1 114 j = h.2.1 114 j) (e115 : ∀ j, h2.2.1 115 j = h.2.1 115 j) (e116 : ∀ j, h2.2.1 116 j = h.2.1 116 j) (n : h2.1 30 12 = h.1 30 12) (m : h2.1 30 13 = h.1 30 13) (l : h2.1 66 91 = h.1 66 91) : mm_pt9 h2 := by
  obtain ⟨c, c0, e, m0, p⟩ := P
  refine ⟨c, c0, by omega, by omega, fun i a b => ?_⟩
  rw [e37, e38, e39, e40, e41, e112, e114, e115, e116, m]
  exact p i a (by omega)
theorem mm_pt9_nil {h : mH} (n : h.1 30 12 = 0) (m : h.1 30 13 = 0) (b : 0 ≤ h.1 66 91) : mm_pt9 h := ⟨h.1 66 91, b, by omega, by omega, fun i x y => by omega⟩
theorem mm_pt9_protest {h h1 h2 : mH} {p f f' : Int} (P : mm_pt9 h) (u37 : mm_up h h1 37 (h.1 30 12) p f) (u40 : mm_up h h1 40 (h.1 30 12) (-1) f) (w : mm_up h1 h2 112 (h.1 30 12) p f') (s : f = f') (e112 : ∀ j, h1.2.1 112 j = h.2.1 112 j) (e37 : ∀ j, h2.2.1 37 j = h1.2.1 37 j) (e40 : ∀ j, h2.2.1 40 j = h1.2.1 40 j) (e38 : ∀ j, h2.2.1 38 j = h.2.1 38 j) (e39 : ∀ j, h2.2.1 39 j = h.2.1 39 j) (e41 : ∀ j, h2.2.1 41 j = h.2.1 41 j) (e114 : ∀ j, h2.2.1 114 j = h.2.1 114 j) (e115 : ∀ j, h2.2.1 115 j = h.2.1 115 j) (e116 : ∀ j, h2.2.1 116 j = h.2.1 116 j) (n : (f = 1 ∧ h2.1 30 12 = h.1 30 12 + 1) ∨ (f = 0 ∧ h2.1 30 12 = h.1 30 12)) (m : h2.1 30 13 = h.1 30 13) (l : h2.1 66 91 = h.1 66 91) : mm_pt9 h2 := by
  obtain ⟨c, c0, e, m0, q⟩ := P
  subst s
  refine ⟨c, c0, by omega, by omega, fun i a b => ?_⟩
  have x1 := u37 i
  have x2 := u40 i
  have x3 := w i
  rw [e37, e40, e38, e39, e41, e114, e115, e116, m, x3, x1, x2, e112]
  by_cases z : i = h.1 30 12 ∧ f = 1
  · rw [if_pos z, if_pos z, if_pos z]
    exact ⟨rfl, fun y => absurd rfl y⟩
  · rw [if_neg z, if_neg z, if_neg z]
    exact q i a (by omega)
theorem mm_pt9_decide {h h1 h2 : mH} {p v g t f f' : Int} (P : mm_pt9 h) (u40 : mm_up h h1 40 p t f) (u38 : mm_up h h1 38 p v f) (u39 : mm_up h h1 39 p g f) (u41 : mm_up h h1 41 p (h.1 30 13) f) (w114 : mm_up h1 h2 114 p v f') (w115 : mm_up h1 h2 115 p g f') (w116 : mm_up h1 h2 116 p (h1.1 66 91) f') (s : f = 1 ↔ f' = 1) (hv : f = 1 → 0 ≤ v ∧ v ≤ 2) (e114 : ∀ j, h1.2.1 114 j = h.2.1 114 j) (e115 : ∀ j, h1.2.1 115 j = h.2.1 115 j) (e116 : ∀ j, h1.2.1 116 j = h.2.1 116 j) (e40 : ∀ j, h2.2.1 40 j = h1.2.1 40 j) (e38 : ∀ j, h2.2.1 38 j = h1.2.1 38 j) (e39 : ∀ j, h2.2.1 39 j = h1.2.1 39 j) (e41 : ∀ j, h2.2.1 41 j = h1.2.1 41 j) (e37 : ∀ j, h2.2.1 37 j = h.2.1 37 j) (e112 : ∀ j, h2.2.1 112 j = h.2.1 112 j) (n : h2.1 30 12 = h.1 30 12) (m : (f = 1 ∧ h2.1 30 13 = h.1 30 13 + 1 ∧ h2.1 66 91 = h.1 66 91 + 1) ∨ (f ≠ 1 ∧ h2.1 30 13 = h.1 30 13 ∧ h2.1 66 91 = h.1 66 91)) (l : h1.1 66 91 = h.1 66 91) : mm_pt9 h2 := by
  obtain ⟨c, c0, e, m0, q⟩ := P
  refine ⟨c, c0, by omega, by omega, fun i a b => ?_⟩
  have y := q i a (by omega)
  have sf : (i = p ∧ f' = 1) ↔ (i = p ∧ f = 1) := by rw [s]
  rw [e37, e112, e40, e38, e39, e41, w114 i, w115 i, w116 i, u40 i, u38 i, u39 i, u41 i, e114, e115, e116]
  refine ⟨y.1, ?_⟩
  by_cases z : i = p ∧ f = 1
  · rw [if_pos z, if_pos z, if_pos z, if_pos z, if_pos (sf.mpr z), if_pos (sf.mpr z), if_pos (sf.mpr z)]
    intro _
    have := hv z.2
    exact ⟨rfl, rfl, by omega, by omega, by omega, this.1, this.2⟩
  · rw [if_neg z, if_neg z, if_neg z, if_neg z, if_neg (fun x => z (sf.mp x)), if_neg (fun x => z (sf.mp x)), if_neg (fun x => z (sf.mp x))]
    intro t0
    have x := y.2 t0
    exact ⟨x.1, x.2.1, x.2.2.1, x.2.2.2.1, by omega, x.2.2.2.2.2⟩
theorem mm_tm9_sm {h h2 : mH} (T : mm_tm9 h) (e29 : ∀ j, h2.2.1 29 j = h.2.1 29 j) (e90 : ∀ j, h2.2.1 90 j = h.2.1 90 j) (n : h2.1 22 9 = h.1 22 9) (m : h.1 22 8 ≤ h2.1 22 8) : mm_tm9 h2 := fun j a b => by
  have z := T j a (by omega)
  rw [e29, e90]
  exact ⟨z.1, z.2.1, by omega⟩
theorem mm_tm9_nil {h : mH} (n : h.1 22 9 = 0) : mm_tm9 h := fun j a b => by omega
theorem mm_tm9_team {h h1 h2 : mH} {a b c t t' f f' : Int} (T : mm_tm9 h) (u : mm_ud h h1 a b c t f) (e : ∀ j, h2.2.1 29 j = h1.2.1 29 j) (w : mm_uc h1 h2 a b c t' f') (e90 : ∀ j, h1.2.1 90 j = h.2.1 90 j) (hf : f = 1 ↔ f' = 1) (et : t' = t) (ht : t = h.1 22 9) (t0 : 0 ≤ t) (hu : (f = 1 ∧ h2.1 22 9 = h.1 22 9 + 1) ∨ (f ≠ 1 ∧ h2.1 22 9 = h.1 22 9)) (g : f = 1 → 0 ≤ a ∧ a < h.1 22 8 ∧ 0 ≤ b ∧ b < h.1 22 8 ∧ 0 ≤ c ∧ c < h.1 22 8) (m : h2.1 22 8 = h.1 22 8) : mm_tm9 h2 := fun j j0 j1 => by
  subst et
  rw [e, u j, w j, e90]
  by_cases q : f = 1
  · have q' := hf.mp q
    have gg := g q
    by_cases z3 : j = 3 * t' + 2
    · rw [if_pos (⟨q', z3⟩ : f' = 1 ∧ j = 3 * t' + 2), if_pos (⟨q, z3⟩ : f = 1 ∧ j = 3 * t' + 2)]; exact ⟨rfl, by omega, by omega⟩
    · rw [if_neg (fun (w : f' = 1 ∧ j = 3 * t' + 2) => z3 w.2), if_neg (fun (w : f = 1 ∧ j = 3 * t' + 2) => z3 w.2)]
      by_cases z2 : j = 3 * t' + 1
      · rw [if_pos (⟨q', z2⟩ : f' = 1 ∧ j = 3 * t' + 1), if_pos (⟨q, z2⟩ : f = 1 ∧ j = 3 * t' + 1)]; exact ⟨rfl, by omega, by omega⟩
      · rw [if_neg (fun (w : f' = 1 ∧ j = 3 * t' + 1) => z2 w.2), if_neg (fun (w : f = 1 ∧ j = 3 * t' + 1) => z2 w.2)]
        by_cases z1 : j = 3 * t'
        · rw [if_pos (⟨q', z1⟩ : f' = 1 ∧ j = 3 * t'), if_pos (⟨q, z1⟩ : f = 1 ∧ j = 3 * t')]; exact ⟨rfl, by omega, by omega⟩
        · rw [if_neg (fun (w : f' = 1 ∧ j = 3 * t') => z1 w.2), if_neg (fun (w : f = 1 ∧ j = 3 * t') => z1 w.2)]
          have z := T j j0 (by omega)
          exact ⟨z.1, z.2.1, by omega⟩
  · have q' : f' ≠ 1 := fun x => q (hf.mpr x)
    rw [if_neg (fun (w : f' = 1 ∧ j = 3 * t' + 2) => q' w.1), if_neg (fun (w : f' = 1 ∧ j = 3 * t' + 1) => q' w.1), if_neg (fun (w : f' = 1 ∧ j = 3 * t') => q' w.1), if_neg (fun (w : f = 1 ∧ j = 3 * t' + 2) => q w.1), if_neg (fun (w : f = 1 ∧ j = 3 * t' + 1) => q w.1), if_neg (fun (w : f = 1 ∧ j = 3 * t') => q w.1)]
    have z := T j j0 (by omega)
    exact ⟨z.1, z.2.1, by omega⟩
theorem mm_RCj_pa {h hc : mH} {n r : Int} (X : mm_RCj h hc n r) : mm_RCj h (mm_pa hc 124 0 r) n ((mm_pa hc 124 0 r).2.1 124 0) := by
  rw [mm_pa_same]
  rcases X with ⟨a, L, c, d⟩ | ⟨a, b, c⟩
  · exact Or.inl ⟨a, L, mm_cdj_cp c rfl (fun j _ _ => mm_pa_o 43 124 (by decide) j), d⟩
  · exact Or.inr ⟨a, b, fun j => (mm_pa_o 43 124 (by decide) j).trans (c j)⟩
theorem mm_cJ_keep {h h1 h2 : mH} (C : mm_cJ h) (e42 : h2.1 42 3 = h.1 42 3) (e43 : ∀ j, h2.2.1 43 j = h.2.1 43 j) (u1 : ∀ w, mm_ruY h w → mm_ruY h1 w) (u : ∀ w, mm_ruY h1 w → mm_ruY h2 w) : mm_cJ h2 := by
  obtain ⟨L, a, b⟩ := C
  exact ⟨L, mm_cdj_cp a e42 (fun j _ _ => e43 j), u _ (u1 _ b)⟩
