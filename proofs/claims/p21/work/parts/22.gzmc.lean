set_option maxRecDepth 100000 in
set_option maxHeartbeats 4000000 in
theorem c_X12_judged_q (l : Launch) (hl : l.stackTraces = false) (d : Nat) (hd : 8 ≤ d) (h : mH) (i0 : mm_inv h) (p1 : Int) (p2 : Int) (p3 : Int) (t0 : mm_RO h) : mm_Met l d yX12_judged cX12_judged 4 (some .int) [mR 66, mI p1, mI p2, mI p3] h (mm_pi fun r h2 => (-2147483648 ≤ r ∧ r ≤ 2147483647) ∧ mm_inv h2 ∧ mm_fr [(66, 0), (66, 39), (66, 48), (66, 52), (66, 53), (66, 54), (66, 87), (66, 88)] [91, 98, 99, 100, 110, 111] h h2 ∧ (((0 ≤ p1 ∧ p1 < h.1 66 23) ∧ (0 ≤ p2 ∧ p2 ≤ 8) ∧ (0 ≤ p3 ∧ p3 ≤ h.1 66 41) ∧ h2.1 66 0 = 0) ∨ (((p1 < 0 ∨ h.1 66 23 ≤ p1) ∨ ((0 ≤ p1 ∧ p1 < h.1 66 23) ∧ (p2 < 0 ∨ 8 < p2))) ∧ h2.1 66 0 = 1 ∧ r = 0) ∨ ((0 ≤ p1 ∧ p1 < h.1 66 23) ∧ (0 ≤ p2 ∧ p2 ≤ 8) ∧ (p3 < 0 ∨ h.1 66 41 < p3) ∧ h2.1 66 0 = 2 ∧ r = 0)) ∧ (h2.1 66 0 = 0 → mm_jY9 h p1 p2 p3 r)) mm_nx 0 0 := by
  refine mm_ofW (ls := [mR 66, mI p1, mI p2, mI p3]) hl (by decide) rfl (Nat.le_of_ble_eq_true rfl) ?_
  intro x hxl C T hnm htb
  subst hxl
  have C1 := mm_OK_le (d' := d - 1 + 1) (by omega) C
  have C8 := mm_OK_le (d' := d - 8 + 8) (by omega) C
  refine mm_rng (fun hr _ => ?_)
  have ap1 : -2147483648 ≤ p1 ∧ p1 < 2147483648 := mm_ok_at hr (i := 1) rfl
  have ap2 : -2147483648 ≤ p2 ∧ p2 < 2147483648 := mm_ok_at hr (i := 2) rfl
  have ap3 : -2147483648 ≤ p3 ∧ p3 < 2147483648 := mm_ok_at hr (i := 3) rfl
  have f0 : mm_fr [(66, 0), (66, 39), (66, 48), (66, 52), (66, 53), (66, 54), (66, 87), (66, 88)] [91, 98, 99, 100, 110, 111] h h := mm_fr_rf
  have g1 : 0 ≤ h.1 66 23 ∧ h.1 66 23 ≤ 40 := i0.1 66 23
  have g2 : 0 ≤ h.1 66 41 ∧ h.1 66 41 ≤ 99999 := i0.1 66 41
  have g3 : -2147483648 ≤ h.1 66 52 ∧ h.1 66 52 ≤ 2147483647 := i0.1 66 52
  have g4 : -2147483648 ≤ h.1 66 53 ∧ h.1 66 53 ≤ 2147483647 := i0.1 66 53
  have g5 : -2147483648 ≤ h.1 66 54 ∧ h.1 66 54 ≤ 2147483647 := i0.1 66 54
  have g6 : -2147483648 ≤ h.1 66 87 ∧ h.1 66 87 ≤ 2147483647 := i0.1 66 87
  have g7 : 0 ≤ h.1 66 88 ∧ h.1 66 88 ≤ 1 := i0.1 66 88
  have g8 : -2147483648 ≤ h.1 66 0 ∧ h.1 66 0 ≤ 2147483647 := i0.1 66 0
  refine mm_aload_n C (mm_dec dk_X12_judged 0 rfl) rfl ?_
  refine mm_iload_n C (mm_dec dk_X12_judged 1 rfl) rfl ?_
  refine mm_cVi (rest := []) C1 ev_X12_308 (mm_dec dk_X12_judged 2 rfl) (c_X12_isRunner_q x.2.1 hl (d - 1) (by omega) h i0 p1) rfl rfl (Nat.le_of_ble_eq_true rfl) ⟨by decide, by decide⟩ rfl (fun r2 h2c hp2 => ?_) (fun _ _ q => q.elim)
  obtain ⟨b2, i2c, g2c, y2_0, y2_1⟩ := hp2
  have f2c : mm_fr [(66, 0), (66, 39), (66, 48), (66, 52), (66, 53), (66, 54), (66, 87), (66, 88)] [91, 98, 99, 100, 110, 111] h h2c := mm_fr_tr f0 g2c (by decide +kernel)
  have q2c_10 : h2c.1 66 23 = h.1 66 23 := g2c.1 66 23 (by decide)
  have q2c_11 : h2c.1 66 41 = h.1 66 41 := g2c.1 66 41 (by decide)
  have q2c_12 : h2c.1 66 52 = h.1 66 52 := g2c.1 66 52 (by decide)
  have q2c_13 : h2c.1 66 53 = h.1 66 53 := g2c.1 66 53 (by decide)
  have q2c_14 : h2c.1 66 54 = h.1 66 54 := g2c.1 66 54 (by decide)
  have q2c_15 : h2c.1 66 87 = h.1 66 87 := g2c.1 66 87 (by decide)
  have q2c_16 : h2c.1 66 88 = h.1 66 88 := g2c.1 66 88 (by decide)
  have g17 : -2147483648 ≤ (h2c.1 66 0) ∧ (h2c.1 66 0) ≤ 2147483647 := i2c.1 66 0
  have J39 : ∀ (h39_ : mH) (i39_ : mm_inv h39_) (f39_ : mm_fr [(66, 0), (66, 39), (66, 48), (66, 52), (66, 53), (66, 54), (66, 87), (66, 88)] [91, 98, 99, 100, 110, 111] h h39_) (w39_0 : (((p1 < 0 ∨ h.1 66 23 ≤ p1) ∧ h39_.1 66 0 = 1) ∨ ((0 ≤ p1 ∧ p1 < h.1 66 23) ∧ (p2 < 0 ∨ 8 < p2) ∧ h39_.1 66 0 = 1) ∨ ((0 ≤ p1 ∧ p1 < h.1 66 23) ∧ (0 ≤ p2 ∧ p2 ≤ 8) ∧ (p3 < 0 ∨ h.1 66 41 < p3) ∧ h39_.1 66 0 = 2))), mm_W x 0 0 39 [mU, mU, mU, mU] [] h39_ := by
    intro h39_ i39_ f39_ w39_0
    have g18 : 0 ≤ h39_.1 66 23 ∧ h39_.1 66 23 ≤ 40 := i39_.1 66 23
    have g19 : 0 ≤ h39_.1 66 41 ∧ h39_.1 66 41 ≤ 99999 := i39_.1 66 41
    have g20 : -2147483648 ≤ h39_.1 66 52 ∧ h39_.1 66 52 ≤ 2147483647 := i39_.1 66 52
    have g21 : -2147483648 ≤ h39_.1 66 53 ∧ h39_.1 66 53 ≤ 2147483647 := i39_.1 66 53
    have g22 : -2147483648 ≤ h39_.1 66 54 ∧ h39_.1 66 54 ≤ 2147483647 := i39_.1 66 54
    have g23 : -2147483648 ≤ h39_.1 66 87 ∧ h39_.1 66 87 ≤ 2147483647 := i39_.1 66 87
    have g24 : 0 ≤ h39_.1 66 88 ∧ h39_.1 66 88 ≤ 1 := i39_.1 66 88
    have g25 : -2147483648 ≤ h39_.1 66 0 ∧ h39_.1 66 0 ≤ 2147483647 := i39_.1 66 0
    have g26 : h39_.1 66 23 = h.1 66 23 := f39_.1 66 23 (by decide)
    have g27 : h39_.1 66 41 = h.1 66 41 := f39_.1 66 41 (by decide)
    refine mm_iconst C (mm_dec dk_X12_judged 20 rfl) ⟨by decide, by decide⟩ ?_
    exact mm_iret C T (mm_dec dk_X12_judged 21 rfl) (by decide : 0 ≤ 0) (by decide : 0 ≤ 0) ⟨_, rfl, ⟨⟨by omega, by omega⟩, i39_, f39_, by omega, by first | exact fun q => absurd q (by omega) | exact fun _ => Or.inl ⟨by omega, _, zZ⟩ | exact fun _ => Or.inr (Or.inl ⟨by omega, zZ⟩) | exact fun _ => Or.inr (Or.inr (Or.inl ⟨by omega, zZ⟩)) | exact fun _ => Or.inr (Or.inr (Or.inr (Or.inl ⟨by omega, zZ⟩))) | exact fun _ => Or.inr (Or.inr (Or.inr (Or.inr (Or.inl ⟨by omega, zZ⟩)))) | exact fun _ => Or.inr (Or.inr (Or.inr (Or.inr (Or.inr ⟨by omega, by omega, h130c, zs9, zf9, zZ, w173_0⟩))))⟩⟩
  refine mm_if_eq (tgt := 39) C (mm_dec dk_X12_judged 3 rfl) (by decide) (fun c5 => ?_) (fun c5 => ?_)
  · skip
    refine mm_fgt 0 ?_
    refine mm_fgt 1 ?_
    refine mm_fgt 2 ?_
    refine mm_fgt 3 ?_
    exact J39 h2c i2c f2c (by omega)
  · skip
    refine mm_aload_n C (mm_dec dk_X12_judged 4 rfl) rfl ?_
    refine mm_iload_n C (mm_dec dk_X12_judged 5 rfl) rfl ?_
    have J24 : ∀ (s24_1 : Int) (bs24_1 : 0 ≤ s24_1 ∧ s24_1 ≤ 1) (w24_0 : ((s24_1 = 1 ∧ (0 ≤ p2 ∧ p2 ≤ 8)) ∨ (s24_1 = 0 ∧ (p2 < 0 ∨ 8 < p2)))) (vs24_1 : (s24_1 = 0) ∨ (0 ≤ p2 ∧ p2 ≤ 8 ∧ s24_1 = 1)), mm_W x 0 0 24 [mR 66, mI p1, mI p2, mI p3] [mI s24_1, mR 66] h2c := by
      intro s24_1 bs24_1 w24_0 vs24_1
      refine mm_iconst C (mm_dec dk_X12_judged 13 rfl) ⟨by decide, by decide⟩ ?_
      refine mm_cVi (rest := []) C1 ev_X12_251 (mm_dec dk_X12_judged 14 rfl) (c_X12_right_q x.2.1 hl (d - 1) (by omega) h2c i2c s24_1 1 ⟨by omega, by omega⟩ (by omega)) rfl rfl (Nat.le_of_ble_eq_true rfl) ⟨by decide, by decide⟩ rfl (fun r25 h25c hp25 => ?_) (fun _ _ q => q.elim)
      obtain ⟨b25, i25c, g25c, y25_0⟩ := hp25
      have f25c : mm_fr [(66, 0), (66, 39), (66, 48), (66, 52), (66, 53), (66, 54), (66, 87), (66, 88)] [91, 98, 99, 100, 110, 111] h h25c := mm_fr_tr f2c g25c (by decide +kernel)
      have q25c_29 : h25c.1 66 23 = h2c.1 66 23 := g25c.1 66 23 (by decide)
      have q25c_30 : h25c.1 66 41 = h2c.1 66 41 := g25c.1 66 41 (by decide)
      have q25c_31 : h25c.1 66 52 = h2c.1 66 52 := g25c.1 66 52 (by decide)
      have q25c_32 : h25c.1 66 53 = h2c.1 66 53 := g25c.1 66 53 (by decide)
      have q25c_33 : h25c.1 66 54 = h2c.1 66 54 := g25c.1 66 54 (by decide)
      have q25c_34 : h25c.1 66 87 = h2c.1 66 87 := g25c.1 66 87 (by decide)
      have q25c_35 : h25c.1 66 88 = h2c.1 66 88 := g25c.1 66 88 (by decide)
      have g36 : -2147483648 ≤ (h25c.1 66 0) ∧ (h25c.1 66 0) ≤ 2147483647 := i25c.1 66 0
      refine mm_if_eq (tgt := 39) C (mm_dec dk_X12_judged 15 rfl) (by decide) (fun c28 => ?_) (fun c28 => ?_)
      · skip
        refine mm_fgt 0 ?_
        refine mm_fgt 1 ?_
        refine mm_fgt 2 ?_
        refine mm_fgt 3 ?_
        exact J39 h25c i25c f25c (by omega)
      · skip
        refine mm_aload_n C (mm_dec dk_X12_judged 16 rfl) rfl ?_
        refine mm_iload_n C (mm_dec dk_X12_judged 17 rfl) rfl ?_
        refine mm_cVi (rest := []) C1 ev_X12_499 (mm_dec dk_X12_judged 18 rfl) (c_X12_isSecond_q x.2.1 hl (d - 1) (by omega) h25c i25c p3) rfl rfl (Nat.le_of_ble_eq_true rfl) ⟨by decide, by decide⟩ rfl (fun r33 h33c hp33 => ?_) (fun _ _ q => q.elim)
        obtain ⟨b33, i33c, g33c, y33_0, y33_1⟩ := hp33
        have f33c : mm_fr [(66, 0), (66, 39), (66, 48), (66, 52), (66, 53), (66, 54), (66, 87), (66, 88)] [91, 98, 99, 100, 110, 111] h h33c := mm_fr_tr f25c g33c (by decide +kernel)
        have q33c_38 : h33c.1 66 23 = h25c.1 66 23 := g33c.1 66 23 (by decide)
        have q33c_39 : h33c.1 66 41 = h25c.1 66 41 := g33c.1 66 41 (by decide)
        have q33c_40 : h33c.1 66 52 = h25c.1 66 52 := g33c.1 66 52 (by decide)
        have q33c_41 : h33c.1 66 53 = h25c.1 66 53 := g33c.1 66 53 (by decide)
        have q33c_42 : h33c.1 66 54 = h25c.1 66 54 := g33c.1 66 54 (by decide)
        have q33c_43 : h33c.1 66 87 = h25c.1 66 87 := g33c.1 66 87 (by decide)
        have q33c_44 : h33c.1 66 88 = h25c.1 66 88 := g33c.1 66 88 (by decide)
        have g45 : -2147483648 ≤ (h33c.1 66 0) ∧ (h33c.1 66 0) ≤ 2147483647 := i33c.1 66 0
        refine mm_if_ne (tgt := 41) C (mm_dec dk_X12_judged 19 rfl) (by decide) (fun c36 => ?_) (fun c36 => ?_)
        · skip
          refine mm_iload_n C (mm_dec dk_X12_judged 22 rfl) rfl ?_
          refine mm_table (t0 := 127) [92, 99, 106, 127, 127, 127, 127, 113, 120] C (mm_dec dk_X12_judged 23 rfl) (by decide) (by decide) (by decide +kernel) (fun c42 => ?_) (fun k42 hk42 c42 => ?_)
          · skip
            refine mm_aload_n C (mm_dec dk_X12_judged 49 rfl) rfl ?_
            refine mm_iload_n C (mm_dec dk_X12_judged 50 rfl) rfl ?_
            refine mm_iload_n C (mm_dec dk_X12_judged 51 rfl) rfl ?_
            refine mm_cVv (rest := []) C1 ev_X12_487 (mm_dec dk_X12_judged 52 rfl) (c_X12_asks_q x.2.1 hl (d - 1) (by omega) h33c i33c p1 p3 ⟨by omega, by omega⟩ (by first | exact mm_RO_fr t0 f33c (by decide) | omega)) rfl rfl (Nat.le_of_ble_eq_true rfl) ⟨by decide, by decide⟩ rfl (fun h130c hp130 => ?_) (fun _ _ q => q.elim)
            obtain ⟨i130c, g130c, y130_0⟩ := hp130
            have f130c : mm_fr [(66, 0), (66, 39), (66, 48), (66, 52), (66, 53), (66, 54), (66, 87), (66, 88)] [91, 98, 99, 100, 110, 111] h h130c := mm_fr_tr f33c g130c (by decide +kernel)
            have q130c_47 : h130c.1 66 0 = h33c.1 66 0 := g130c.1 66 0 (by decide)
            have q130c_48 : h130c.1 66 23 = h33c.1 66 23 := g130c.1 66 23 (by decide)
            have q130c_49 : h130c.1 66 41 = h33c.1 66 41 := g130c.1 66 41 (by decide)
            have g50 : -2147483648 ≤ (h130c.1 66 52) ∧ (h130c.1 66 52) ≤ 2147483647 := i130c.1 66 52
            have g51 : -2147483648 ≤ (h130c.1 66 53) ∧ (h130c.1 66 53) ≤ 2147483647 := i130c.1 66 53
            have g52 : -2147483648 ≤ (h130c.1 66 54) ∧ (h130c.1 66 54) ≤ 2147483647 := i130c.1 66 54
            have g53 : -2147483648 ≤ (h130c.1 66 87) ∧ (h130c.1 66 87) ≤ 2147483647 := i130c.1 66 87
            have g54 : 0 ≤ (h130c.1 66 88) ∧ (h130c.1 66 88) ≤ 1 := i130c.1 66 88
            obtain ⟨zs9, zf9, zA9⟩ := y130_0
            have zZ : mm_AY h h130c p1 p3 zs9 zf9 := mm_AY_fr zA9 (mm_k2_fr f33c (by decide)) (f33c.2 79 (by decide)) (f33c.2 80 (by decide)) (f33c.2 82 (by decide)) (f33c.2 83 (by decide)) (f33c.2 84 (by decide)) (f33c.2 85 (by decide)) (f33c.2 86 (by decide)) (f33c.2 87 (by decide)) (f33c.2 88 (by decide)) (f33c.2 89 (by decide)) (f33c.2 90 (by decide)) (f33c.2 94 (by decide)) (f33c.2 95 (by decide)) (f33c.2 112 (by decide)) (f33c.2 113 (by decide)) (f33c.2 114 (by decide)) (f33c.2 115 (by decide)) (f33c.2 116 (by decide)) (f33c.2 102 (by decide)) (f33c.2 103 (by decide)) (f33c.2 104 (by decide)) (f33c.2 105 (by decide)) (f33c.2 106 (by decide)) (f33c.2 107 (by decide)) (f33c.1 66 40 (by decide)) (f33c.1 66 82 (by decide)) (f33c.1 66 67 (by decide)) (f33c.1 66 68 (by decide))
            refine mm_iload_n C (mm_dec dk_X12_judged 53 rfl) rfl ?_
            refine mm_iconst C (mm_dec dk_X12_judged 54 rfl) ⟨by decide, by decide⟩ ?_
            have J173 : ∀ (s173_0 : Int) (bs173_0 : -2147483648 ≤ s173_0 ∧ s173_0 ≤ 2147483647) (w173_0 : ((p2 = 3 ∧ s173_0 = h130c.1 66 52) ∨ (p2 = 4 ∧ s173_0 = h130c.1 66 53) ∨ (p2 = 5 ∧ s173_0 = h130c.1 66 54) ∨ (p2 = 6 ∧ s173_0 = h130c.1 66 87))), mm_W x 0 0 173 [mU, mU, mU, mU] [mI s173_0] h130c := by
              intro s173_0 bs173_0 w173_0
              exact mm_iret C T (mm_dec dk_X12_judged 73 rfl) (by decide : 0 ≤ 0) (by decide : 0 ≤ 0) ⟨_, rfl, ⟨⟨by omega, by omega⟩, i130c, f130c, by omega, by first | exact fun q => absurd q (by omega) | exact fun _ => Or.inl ⟨by omega, _, zZ⟩ | exact fun _ => Or.inr (Or.inl ⟨by omega, zZ⟩) | exact fun _ => Or.inr (Or.inr (Or.inl ⟨by omega, zZ⟩)) | exact fun _ => Or.inr (Or.inr (Or.inr (Or.inl ⟨by omega, zZ⟩))) | exact fun _ => Or.inr (Or.inr (Or.inr (Or.inr (Or.inl ⟨by omega, zZ⟩)))) | exact fun _ => Or.inr (Or.inr (Or.inr (Or.inr (Or.inr ⟨by omega, by omega, h130c, zs9, zf9, zZ, w173_0⟩))))⟩⟩
            refine mm_icmp_ne (tgt := 145) C (mm_dec dk_X12_judged 55 rfl) (by decide) (fun c135 => ?_) (fun c135 => ?_)
            · skip
              refine mm_iload_n C (mm_dec dk_X12_judged 59 rfl) rfl ?_
              refine mm_iconst C (mm_dec dk_X12_judged 60 rfl) ⟨by decide, by decide⟩ ?_
              refine mm_icmp_ne (tgt := 157) C (mm_dec dk_X12_judged 61 rfl) (by decide) (fun c147 => ?_) (fun c147 => ?_)
              · skip
                refine mm_iload_n C (mm_dec dk_X12_judged 65 rfl) rfl ?_
                refine mm_iconst C (mm_dec dk_X12_judged 66 rfl) ⟨by decide, by decide⟩ ?_
                refine mm_icmp_ne (tgt := 169) C (mm_dec dk_X12_judged 67 rfl) (by decide) (fun c159 => ?_) (fun c159 => ?_)
                · skip
                  refine mm_aload_n C (mm_dec dk_X12_judged 71 rfl) rfl ?_
                  refine mm_geti C fl_X12_475 (mm_dec dk_X12_judged 72 rfl) rfl rfl (Or.inl rfl) ?_
                  refine mm_fgt 0 ?_
                  refine mm_fgt 1 ?_
                  refine mm_fgt 2 ?_
                  refine mm_fgt 3 ?_
                  exact J173 (h130c.1 66 87) ⟨by omega, by omega⟩ (by omega)
                · skip
                  refine mm_aload_n C (mm_dec dk_X12_judged 68 rfl) rfl ?_
                  refine mm_geti C fl_X12_347 (mm_dec dk_X12_judged 69 rfl) rfl rfl (Or.inl rfl) ?_
                  refine mm_goto (tgt := 173) C (mm_dec dk_X12_judged 70 rfl) (by decide) ?_
                  refine mm_fgt 0 ?_
                  refine mm_fgt 1 ?_
                  refine mm_fgt 2 ?_
                  refine mm_fgt 3 ?_
                  exact J173 (h130c.1 66 54) ⟨by omega, by omega⟩ (by omega)
              · skip
                refine mm_aload_n C (mm_dec dk_X12_judged 62 rfl) rfl ?_
                refine mm_geti C fl_X12_332 (mm_dec dk_X12_judged 63 rfl) rfl rfl (Or.inl rfl) ?_
                refine mm_goto (tgt := 173) C (mm_dec dk_X12_judged 64 rfl) (by decide) ?_
                refine mm_fgt 0 ?_
                refine mm_fgt 1 ?_
                refine mm_fgt 2 ?_
                refine mm_fgt 3 ?_
                exact J173 (h130c.1 66 53) ⟨by omega, by omega⟩ (by omega)
            · skip
              refine mm_aload_n C (mm_dec dk_X12_judged 56 rfl) rfl ?_
              refine mm_geti C fl_X12_341 (mm_dec dk_X12_judged 57 rfl) rfl rfl (Or.inl rfl) ?_
              refine mm_goto (tgt := 173) C (mm_dec dk_X12_judged 58 rfl) (by decide) ?_
              refine mm_fgt 0 ?_
              refine mm_fgt 1 ?_
              refine mm_fgt 2 ?_
              refine mm_fgt 3 ?_
              exact J173 (h130c.1 66 52) ⟨by omega, by omega⟩ (by omega)
          · have hq42 : k42 < 9 := hk42
            rcases (by omega : k42 = 0 ∨ k42 = 1 ∨ k42 = 2 ∨ k42 = 3 ∨ k42 = 4 ∨ k42 = 5 ∨ k42 = 6 ∨ k42 = 7 ∨ k42 = 8) with rfl | rfl | rfl | rfl | rfl | rfl | rfl | rfl | rfl
            · show mm_W x 0 0 92 _ _ _
              refine mm_aload_n C (mm_dec dk_X12_judged 24 rfl) rfl ?_
              refine mm_iload_n C (mm_dec dk_X12_judged 25 rfl) rfl ?_
              refine mm_iload_n C (mm_dec dk_X12_judged 26 rfl) rfl ?_
              refine mm_cVi (rest := []) C1 ev_X12_490 (mm_dec dk_X12_judged 27 rfl) (c_X12_stateOf_q x.2.1 hl (d - 1) (by omega) h33c i33c p1 p3 ⟨by omega, by omega⟩ (by first | exact mm_RO_fr t0 f33c (by decide) | omega)) rfl rfl (Nat.le_of_ble_eq_true rfl) ⟨by decide, by decide⟩ rfl (fun r95 h95c hp95 => ?_) (fun _ _ q => q.elim)
              obtain ⟨b95, i95c, g95c, y95_0⟩ := hp95
              have f95c : mm_fr [(66, 0), (66, 39), (66, 48), (66, 52), (66, 53), (66, 54), (66, 87), (66, 88)] [91, 98, 99, 100, 110, 111] h h95c := mm_fr_tr f33c g95c (by decide +kernel)
              have q95c_56 : h95c.1 66 0 = h33c.1 66 0 := g95c.1 66 0 (by decide)
              have q95c_57 : h95c.1 66 23 = h33c.1 66 23 := g95c.1 66 23 (by decide)
              have q95c_58 : h95c.1 66 41 = h33c.1 66 41 := g95c.1 66 41 (by decide)
              have g59 : -2147483648 ≤ (h95c.1 66 52) ∧ (h95c.1 66 52) ≤ 2147483647 := i95c.1 66 52
              have g60 : -2147483648 ≤ (h95c.1 66 53) ∧ (h95c.1 66 53) ≤ 2147483647 := i95c.1 66 53
              have g61 : -2147483648 ≤ (h95c.1 66 54) ∧ (h95c.1 66 54) ≤ 2147483647 := i95c.1 66 54
              have g62 : -2147483648 ≤ (h95c.1 66 87) ∧ (h95c.1 66 87) ≤ 2147483647 := i95c.1 66 87
              have g63 : 0 ≤ (h95c.1 66 88) ∧ (h95c.1 66 88) ≤ 1 := i95c.1 66 88
              have zZ : mm_ZY9 h h95c p1 p3 r95 := mm_ZY9_fr y95_0 (mm_k2_fr f33c (by decide)) (f33c.2 79 (by decide)) (f33c.2 80 (by decide)) (f33c.2 82 (by decide)) (f33c.2 83 (by decide)) (f33c.2 84 (by decide)) (f33c.2 85 (by decide)) (f33c.2 86 (by decide)) (f33c.2 87 (by decide)) (f33c.2 88 (by decide)) (f33c.2 89 (by decide)) (f33c.2 90 (by decide)) (f33c.2 94 (by decide)) (f33c.2 95 (by decide)) (f33c.2 112 (by decide)) (f33c.2 113 (by decide)) (f33c.2 114 (by decide)) (f33c.2 115 (by decide)) (f33c.2 116 (by decide)) (f33c.2 102 (by decide)) (f33c.2 103 (by decide)) (f33c.2 104 (by decide)) (f33c.2 105 (by decide)) (f33c.2 106 (by decide)) (f33c.2 107 (by decide)) (f33c.1 66 40 (by decide)) (f33c.1 66 82 (by decide)) (f33c.1 66 67 (by decide)) (f33c.1 66 68 (by decide))
              exact mm_iret C T (mm_dec dk_X12_judged 28 rfl) (by decide : 0 ≤ 0) (by decide : 0 ≤ 0) ⟨_, rfl, ⟨⟨by omega, by omega⟩, i95c, f95c, by omega, by first | exact fun q => absurd q (by omega) | exact fun _ => Or.inl ⟨by omega, _, zZ⟩ | exact fun _ => Or.inr (Or.inl ⟨by omega, zZ⟩) | exact fun _ => Or.inr (Or.inr (Or.inl ⟨by omega, zZ⟩)) | exact fun _ => Or.inr (Or.inr (Or.inr (Or.inl ⟨by omega, zZ⟩))) | exact fun _ => Or.inr (Or.inr (Or.inr (Or.inr (Or.inl ⟨by omega, zZ⟩)))) | exact fun _ => Or.inr (Or.inr (Or.inr (Or.inr (Or.inr ⟨by omega, by omega, h130c, zs9, zf9, zZ, w173_0⟩))))⟩⟩
            · show mm_W x 0 0 99 _ _ _
              refine mm_aload_n C (mm_dec dk_X12_judged 29 rfl) rfl ?_
              refine mm_iload_n C (mm_dec dk_X12_judged 30 rfl) rfl ?_
              refine mm_iload_n C (mm_dec dk_X12_judged 31 rfl) rfl ?_
              refine mm_cVi (rest := []) C1 ev_X12_472 (mm_dec dk_X12_judged 32 rfl) (c_X12_startOf_q x.2.1 hl (d - 1) (by omega) h33c i33c p1 p3 ⟨by omega, by omega⟩) rfl rfl (Nat.le_of_ble_eq_true rfl) ⟨by decide, by decide⟩ rfl (fun r102 h102c hp102 => ?_) (fun _ _ q => q.elim)
              obtain ⟨b102, z102, y102_0⟩ := hp102
              rw [z102]
              have zZ : mm_sY8 h p1 p3 r102 := mm_sY8_fr y102_0 (mm_k2_fr f33c (by decide)) (f33c.2 88 (by decide)) (f33c.2 89 (by decide)) (f33c.2 90 (by decide)) (f33c.2 95 (by decide)) (f33c.1 66 40 (by decide))
              exact mm_iret C T (mm_dec dk_X12_judged 33 rfl) (by decide : 0 ≤ 0) (by decide : 0 ≤ 0) ⟨_, rfl, ⟨⟨by omega, by omega⟩, i33c, f33c, by omega, by first | exact fun q => absurd q (by omega) | exact fun _ => Or.inl ⟨by omega, _, zZ⟩ | exact fun _ => Or.inr (Or.inl ⟨by omega, zZ⟩) | exact fun _ => Or.inr (Or.inr (Or.inl ⟨by omega, zZ⟩)) | exact fun _ => Or.inr (Or.inr (Or.inr (Or.inl ⟨by omega, zZ⟩))) | exact fun _ => Or.inr (Or.inr (Or.inr (Or.inr (Or.inl ⟨by omega, zZ⟩)))) | exact fun _ => Or.inr (Or.inr (Or.inr (Or.inr (Or.inr ⟨by omega, by omega, h130c, zs9, zf9, zZ, w173_0⟩))))⟩⟩
            · show mm_W x 0 0 106 _ _ _
              refine mm_aload_n C (mm_dec dk_X12_judged 34 rfl) rfl ?_
              refine mm_iload_n C (mm_dec dk_X12_judged 35 rfl) rfl ?_
              refine mm_iload_n C (mm_dec dk_X12_judged 36 rfl) rfl ?_
              refine mm_cVi (rest := []) C1 ev_X12_326 (mm_dec dk_X12_judged 37 rfl) (c_X12_finishOf_q x.2.1 hl (d - 1) (by omega) h33c i33c p1 p3 ⟨by omega, by omega⟩) rfl rfl (Nat.le_of_ble_eq_true rfl) ⟨by decide, by decide⟩ rfl (fun r109 h109c hp109 => ?_) (fun _ _ q => q.elim)
              obtain ⟨b109, z109, y109_0⟩ := hp109
              rw [z109]
              have zZ : mm_fY9 h p1 p3 r109 := mm_fY9_fr y109_0 (mm_k2_fr f33c (by decide)) (f33c.2 95 (by decide)) (f33c.1 66 40 (by decide))
              exact mm_iret C T (mm_dec dk_X12_judged 38 rfl) (by decide : 0 ≤ 0) (by decide : 0 ≤ 0) ⟨_, rfl, ⟨⟨by omega, by omega⟩, i33c, f33c, by omega, by first | exact fun q => absurd q (by omega) | exact fun _ => Or.inl ⟨by omega, _, zZ⟩ | exact fun _ => Or.inr (Or.inl ⟨by omega, zZ⟩) | exact fun _ => Or.inr (Or.inr (Or.inl ⟨by omega, zZ⟩)) | exact fun _ => Or.inr (Or.inr (Or.inr (Or.inl ⟨by omega, zZ⟩))) | exact fun _ => Or.inr (Or.inr (Or.inr (Or.inr (Or.inl ⟨by omega, zZ⟩)))) | exact fun _ => Or.inr (Or.inr (Or.inr (Or.inr (Or.inr ⟨by omega, by omega, h130c, zs9, zf9, zZ, w173_0⟩))))⟩⟩
            · show mm_W x 0 0 127 _ _ _
              refine mm_aload_n C (mm_dec dk_X12_judged 49 rfl) rfl ?_
              refine mm_iload_n C (mm_dec dk_X12_judged 50 rfl) rfl ?_
              refine mm_iload_n C (mm_dec dk_X12_judged 51 rfl) rfl ?_
              refine mm_cVv (rest := []) C1 ev_X12_487 (mm_dec dk_X12_judged 52 rfl) (c_X12_asks_q x.2.1 hl (d - 1) (by omega) h33c i33c p1 p3 ⟨by omega, by omega⟩ (by first | exact mm_RO_fr t0 f33c (by decide) | omega)) rfl rfl (Nat.le_of_ble_eq_true rfl) ⟨by decide, by decide⟩ rfl (fun h130c hp130 => ?_) (fun _ _ q => q.elim)
              obtain ⟨i130c, g130c, y130_0⟩ := hp130
              have f130c : mm_fr [(66, 0), (66, 39), (66, 48), (66, 52), (66, 53), (66, 54), (66, 87), (66, 88)] [91, 98, 99, 100, 110, 111] h h130c := mm_fr_tr f33c g130c (by decide +kernel)
              have q130c_67 : h130c.1 66 0 = h33c.1 66 0 := g130c.1 66 0 (by decide)
              have q130c_68 : h130c.1 66 23 = h33c.1 66 23 := g130c.1 66 23 (by decide)
              have q130c_69 : h130c.1 66 41 = h33c.1 66 41 := g130c.1 66 41 (by decide)
              have g70 : -2147483648 ≤ (h130c.1 66 52) ∧ (h130c.1 66 52) ≤ 2147483647 := i130c.1 66 52
              have g71 : -2147483648 ≤ (h130c.1 66 53) ∧ (h130c.1 66 53) ≤ 2147483647 := i130c.1 66 53
              have g72 : -2147483648 ≤ (h130c.1 66 54) ∧ (h130c.1 66 54) ≤ 2147483647 := i130c.1 66 54
              have g73 : -2147483648 ≤ (h130c.1 66 87) ∧ (h130c.1 66 87) ≤ 2147483647 := i130c.1 66 87
              have g74 : 0 ≤ (h130c.1 66 88) ∧ (h130c.1 66 88) ≤ 1 := i130c.1 66 88
              obtain ⟨zs9, zf9, zA9⟩ := y130_0
              have zZ : mm_AY h h130c p1 p3 zs9 zf9 := mm_AY_fr zA9 (mm_k2_fr f33c (by decide)) (f33c.2 79 (by decide)) (f33c.2 80 (by decide)) (f33c.2 82 (by decide)) (f33c.2 83 (by decide)) (f33c.2 84 (by decide)) (f33c.2 85 (by decide)) (f33c.2 86 (by decide)) (f33c.2 87 (by decide)) (f33c.2 88 (by decide)) (f33c.2 89 (by decide)) (f33c.2 90 (by decide)) (f33c.2 94 (by decide)) (f33c.2 95 (by decide)) (f33c.2 112 (by decide)) (f33c.2 113 (by decide)) (f33c.2 114 (by decide)) (f33c.2 115 (by decide)) (f33c.2 116 (by decide)) (f33c.2 102 (by decide)) (f33c.2 103 (by decide)) (f33c.2 104 (by decide)) (f33c.2 105 (by decide)) (f33c.2 106 (by decide)) (f33c.2 107 (by decide)) (f33c.1 66 40 (by decide)) (f33c.1 66 82 (by decide)) (f33c.1 66 67 (by decide)) (f33c.1 66 68 (by decide))
              refine mm_iload_n C (mm_dec dk_X12_judged 53 rfl) rfl ?_
              refine mm_iconst C (mm_dec dk_X12_judged 54 rfl) ⟨by decide, by decide⟩ ?_
              have J173 : ∀ (s173_0 : Int) (bs173_0 : -2147483648 ≤ s173_0 ∧ s173_0 ≤ 2147483647) (w173_0 : ((p2 = 3 ∧ s173_0 = h130c.1 66 52) ∨ (p2 = 4 ∧ s173_0 = h130c.1 66 53) ∨ (p2 = 5 ∧ s173_0 = h130c.1 66 54) ∨ (p2 = 6 ∧ s173_0 = h130c.1 66 87))), mm_W x 0 0 173 [mU, mU, mU, mU] [mI s173_0] h130c := by
                intro s173_0 bs173_0 w173_0
                exact mm_iret C T (mm_dec dk_X12_judged 73 rfl) (by decide : 0 ≤ 0) (by decide : 0 ≤ 0) ⟨_, rfl, ⟨⟨by omega, by omega⟩, i130c, f130c, by omega, by first | exact fun q => absurd q (by omega) | exact fun _ => Or.inl ⟨by omega, _, zZ⟩ | exact fun _ => Or.inr (Or.inl ⟨by omega, zZ⟩) | exact fun _ => Or.inr (Or.inr (Or.inl ⟨by omega, zZ⟩)) | exact fun _ => Or.inr (Or.inr (Or.inr (Or.inl ⟨by omega, zZ⟩))) | exact fun _ => Or.inr (Or.inr (Or.inr (Or.inr (Or.inl ⟨by omega, zZ⟩)))) | exact fun _ => Or.inr (Or.inr (Or.inr (Or.inr (Or.inr ⟨by omega, by omega, h130c, zs9, zf9, zZ, w173_0⟩))))⟩⟩
              refine mm_icmp_ne (tgt := 145) C (mm_dec dk_X12_judged 55 rfl) (by decide) (fun c135 => ?_) (fun c135 => ?_)
              · skip
                exfalso; omega
              · skip
                refine mm_aload_n C (mm_dec dk_X12_judged 56 rfl) rfl ?_
                refine mm_geti C fl_X12_341 (mm_dec dk_X12_judged 57 rfl) rfl rfl (Or.inl rfl) ?_
                refine mm_goto (tgt := 173) C (mm_dec dk_X12_judged 58 rfl) (by decide) ?_
                refine mm_fgt 0 ?_
                refine mm_fgt 1 ?_
                refine mm_fgt 2 ?_
                refine mm_fgt 3 ?_
                exact J173 (h130c.1 66 52) ⟨by omega, by omega⟩ (by omega)
            · show mm_W x 0 0 127 _ _ _
              refine mm_aload_n C (mm_dec dk_X12_judged 49 rfl) rfl ?_
              refine mm_iload_n C (mm_dec dk_X12_judged 50 rfl) rfl ?_
              refine mm_iload_n C (mm_dec dk_X12_judged 51 rfl) rfl ?_
              refine mm_cVv (rest := []) C1 ev_X12_487 (mm_dec dk_X12_judged 52 rfl) (c_X12_asks_q x.2.1 hl (d - 1) (by omega) h33c i33c p1 p3 ⟨by omega, by omega⟩ (by first | exact mm_RO_fr t0 f33c (by decide) | omega)) rfl rfl (Nat.le_of_ble_eq_true rfl) ⟨by decide, by decide⟩ rfl (fun h130c hp130 => ?_) (fun _ _ q => q.elim)
              obtain ⟨i130c, g130c, y130_0⟩ := hp130
              have f130c : mm_fr [(66, 0), (66, 39), (66, 48), (66, 52), (66, 53), (66, 54), (66, 87), (66, 88)] [91, 98, 99, 100, 110, 111] h h130c := mm_fr_tr f33c g130c (by decide +kernel)
              have q130c_76 : h130c.1 66 0 = h33c.1 66 0 := g130c.1 66 0 (by decide)
              have q130c_77 : h130c.1 66 23 = h33c.1 66 23 := g130c.1 66 23 (by decide)
              have q130c_78 : h130c.1 66 41 = h33c.1 66 41 := g130c.1 66 41 (by decide)
              have g79 : -2147483648 ≤ (h130c.1 66 52) ∧ (h130c.1 66 52) ≤ 2147483647 := i130c.1 66 52
              have g80 : -2147483648 ≤ (h130c.1 66 53) ∧ (h130c.1 66 53) ≤ 2147483647 := i130c.1 66 53
              have g81 : -2147483648 ≤ (h130c.1 66 54) ∧ (h130c.1 66 54) ≤ 2147483647 := i130c.1 66 54
              have g82 : -2147483648 ≤ (h130c.1 66 87) ∧ (h130c.1 66 87) ≤ 2147483647 := i130c.1 66 87
              have g83 : 0 ≤ (h130c.1 66 88) ∧ (h130c.1 66 88) ≤ 1 := i130c.1 66 88
              obtain ⟨zs9, zf9, zA9⟩ := y130_0
              have zZ : mm_AY h h130c p1 p3 zs9 zf9 := mm_AY_fr zA9 (mm_k2_fr f33c (by decide)) (f33c.2 79 (by decide)) (f33c.2 80 (by decide)) (f33c.2 82 (by decide)) (f33c.2 83 (by decide)) (f33c.2 84 (by decide)) (f33c.2 85 (by decide)) (f33c.2 86 (by decide)) (f33c.2 87 (by decide)) (f33c.2 88 (by decide)) (f33c.2 89 (by decide)) (f33c.2 90 (by decide)) (f33c.2 94 (by decide)) (f33c.2 95 (by decide)) (f33c.2 112 (by decide)) (f33c.2 113 (by decide)) (f33c.2 114 (by decide)) (f33c.2 115 (by decide)) (f33c.2 116 (by decide)) (f33c.2 102 (by decide)) (f33c.2 103 (by decide)) (f33c.2 104 (by decide)) (f33c.2 105 (by decide)) (f33c.2 106 (by decide)) (f33c.2 107 (by decide)) (f33c.1 66 40 (by decide)) (f33c.1 66 82 (by decide)) (f33c.1 66 67 (by decide)) (f33c.1 66 68 (by decide))
              refine mm_iload_n C (mm_dec dk_X12_judged 53 rfl) rfl ?_
              refine mm_iconst C (mm_dec dk_X12_judged 54 rfl) ⟨by decide, by decide⟩ ?_
              have J173 : ∀ (s173_0 : Int) (bs173_0 : -2147483648 ≤ s173_0 ∧ s173_0 ≤ 2147483647) (w173_0 : ((p2 = 3 ∧ s173_0 = h130c.1 66 52) ∨ (p2 = 4 ∧ s173_0 = h130c.1 66 53) ∨ (p2 = 5 ∧ s173_0 = h130c.1 66 54) ∨ (p2 = 6 ∧ s173_0 = h130c.1 66 87))), mm_W x 0 0 173 [mU, mU, mU, mU] [mI s173_0] h130c := by
                intro s173_0 bs173_0 w173_0
                exact mm_iret C T (mm_dec dk_X12_judged 73 rfl) (by decide : 0 ≤ 0) (by decide : 0 ≤ 0) ⟨_, rfl, ⟨⟨by omega, by omega⟩, i130c, f130c, by omega, by first | exact fun q => absurd q (by omega) | exact fun _ => Or.inl ⟨by omega, _, zZ⟩ | exact fun _ => Or.inr (Or.inl ⟨by omega, zZ⟩) | exact fun _ => Or.inr (Or.inr (Or.inl ⟨by omega, zZ⟩)) | exact fun _ => Or.inr (Or.inr (Or.inr (Or.inl ⟨by omega, zZ⟩))) | exact fun _ => Or.inr (Or.inr (Or.inr (Or.inr (Or.inl ⟨by omega, zZ⟩)))) | exact fun _ => Or.inr (Or.inr (Or.inr (Or.inr (Or.inr ⟨by omega, by omega, h130c, zs9, zf9, zZ, w173_0⟩))))⟩⟩
              refine mm_icmp_ne (tgt := 145) C (mm_dec dk_X12_judged 55 rfl) (by decide) (fun c135 => ?_) (fun c135 => ?_)
              · skip
                refine mm_iload_n C (mm_dec dk_X12_judged 59 rfl) rfl ?_
                refine mm_iconst C (mm_dec dk_X12_judged 60 rfl) ⟨by decide, by decide⟩ ?_
                refine mm_icmp_ne (tgt := 157) C (mm_dec dk_X12_judged 61 rfl) (by decide) (fun c147 => ?_) (fun c147 => ?_)
                · skip
                  exfalso; omega
                · skip
                  refine mm_aload_n C (mm_dec dk_X12_judged 62 rfl) rfl ?_
                  refine mm_geti C fl_X12_332 (mm_dec dk_X12_judged 63 rfl) rfl rfl (Or.inl rfl) ?_
                  refine mm_goto (tgt := 173) C (mm_dec dk_X12_judged 64 rfl) (by decide) ?_
                  refine mm_fgt 0 ?_
                  refine mm_fgt 1 ?_
                  refine mm_fgt 2 ?_
                  refine mm_fgt 3 ?_
                  exact J173 (h130c.1 66 53) ⟨by omega, by omega⟩ (by omega)
              · skip
                exfalso; omega
            · show mm_W x 0 0 127 _ _ _
              refine mm_aload_n C (mm_dec dk_X12_judged 49 rfl) rfl ?_
              refine mm_iload_n C (mm_dec dk_X12_judged 50 rfl) rfl ?_
              refine mm_iload_n C (mm_dec dk_X12_judged 51 rfl) rfl ?_
              refine mm_cVv (rest := []) C1 ev_X12_487 (mm_dec dk_X12_judged 52 rfl) (c_X12_asks_q x.2.1 hl (d - 1) (by omega) h33c i33c p1 p3 ⟨by omega, by omega⟩ (by first | exact mm_RO_fr t0 f33c (by decide) | omega)) rfl rfl (Nat.le_of_ble_eq_true rfl) ⟨by decide, by decide⟩ rfl (fun h130c hp130 => ?_) (fun _ _ q => q.elim)
              obtain ⟨i130c, g130c, y130_0⟩ := hp130
              have f130c : mm_fr [(66, 0), (66, 39), (66, 48), (66, 52), (66, 53), (66, 54), (66, 87), (66, 88)] [91, 98, 99, 100, 110, 111] h h130c := mm_fr_tr f33c g130c (by decide +kernel)
              have q130c_85 : h130c.1 66 0 = h33c.1 66 0 := g130c.1 66 0 (by decide)
              have q130c_86 : h130c.1 66 23 = h33c.1 66 23 := g130c.1 66 23 (by decide)
              have q130c_87 : h130c.1 66 41 = h33c.1 66 41 := g130c.1 66 41 (by decide)
              have g88 : -2147483648 ≤ (h130c.1 66 52) ∧ (h130c.1 66 52) ≤ 2147483647 := i130c.1 66 52
              have g89 : -2147483648 ≤ (h130c.1 66 53) ∧ (h130c.1 66 53) ≤ 2147483647 := i130c.1 66 53
              have g90 : -2147483648 ≤ (h130c.1 66 54) ∧ (h130c.1 66 54) ≤ 2147483647 := i130c.1 66 54
              have g91 : -2147483648 ≤ (h130c.1 66 87) ∧ (h130c.1 66 87) ≤ 2147483647 := i130c.1 66 87
              have g92 : 0 ≤ (h130c.1 66 88) ∧ (h130c.1 66 88) ≤ 1 := i130c.1 66 88
              obtain ⟨zs9, zf9, zA9⟩ := y130_0
              have zZ : mm_AY h h130c p1 p3 zs9 zf9 := mm_AY_fr zA9 (mm_k2_fr f33c (by decide)) (f33c.2 79 (by decide)) (f33c.2 80 (by decide)) (f33c.2 82 (by decide)) (f33c.2 83 (by decide)) (f33c.2 84 (by decide)) (f33c.2 85 (by decide)) (f33c.2 86 (by decide)) (f33c.2 87 (by decide)) (f33c.2 88 (by decide)) (f33c.2 89 (by decide)) (f33c.2 90 (by decide)) (f33c.2 94 (by decide)) (f33c.2 95 (by decide)) (f33c.2 112 (by decide)) (f33c.2 113 (by decide)) (f33c.2 114 (by decide)) (f33c.2 115 (by decide)) (f33c.2 116 (by decide)) (f33c.2 102 (by decide)) (f33c.2 103 (by decide)) (f33c.2 104 (by decide)) (f33c.2 105 (by decide)) (f33c.2 106 (by decide)) (f33c.2 107 (by decide)) (f33c.1 66 40 (by decide)) (f33c.1 66 82 (by decide)) (f33c.1 66 67 (by decide)) (f33c.1 66 68 (by decide))
              refine mm_iload_n C (mm_dec dk_X12_judged 53 rfl) rfl ?_
              refine mm_iconst C (mm_dec dk_X12_judged 54 rfl) ⟨by decide, by decide⟩ ?_
              have J173 : ∀ (s173_0 : Int) (bs173_0 : -2147483648 ≤ s173_0 ∧ s173_0 ≤ 2147483647) (w173_0 : ((p2 = 3 ∧ s173_0 = h130c.1 66 52) ∨ (p2 = 4 ∧ s173_0 = h130c.1 66 53) ∨ (p2 = 5 ∧ s173_0 = h130c.1 66 54) ∨ (p2 = 6 ∧ s173_0 = h130c.1 66 87))), mm_W x 0 0 173 [mU, mU, mU, mU] [mI s173_0] h130c := by
                intro s173_0 bs173_0 w173_0
                exact mm_iret C T (mm_dec dk_X12_judged 73 rfl) (by decide : 0 ≤ 0) (by decide : 0 ≤ 0) ⟨_, rfl, ⟨⟨by omega, by omega⟩, i130c, f130c, by omega, by first | exact fun q => absurd q (by omega) | exact fun _ => Or.inl ⟨by omega, _, zZ⟩ | exact fun _ => Or.inr (Or.inl ⟨by omega, zZ⟩) | exact fun _ => Or.inr (Or.inr (Or.inl ⟨by omega, zZ⟩)) | exact fun _ => Or.inr (Or.inr (Or.inr (Or.inl ⟨by omega, zZ⟩))) | exact fun _ => Or.inr (Or.inr (Or.inr (Or.inr (Or.inl ⟨by omega, zZ⟩)))) | exact fun _ => Or.inr (Or.inr (Or.inr (Or.inr (Or.inr ⟨by omega, by omega, h130c, zs9, zf9, zZ, w173_0⟩))))⟩⟩
              refine mm_icmp_ne (tgt := 145) C (mm_dec dk_X12_judged 55 rfl) (by decide) (fun c135 => ?_) (fun c135 => ?_)
              · skip
                refine mm_iload_n C (mm_dec dk_X12_judged 59 rfl) rfl ?_
                refine mm_iconst C (mm_dec dk_X12_judged 60 rfl) ⟨by decide, by decide⟩ ?_
                refine mm_icmp_ne (tgt := 157) C (mm_dec dk_X12_judged 61 rfl) (by decide) (fun c147 => ?_) (fun c147 => ?_)
                · skip
                  refine mm_iload_n C (mm_dec dk_X12_judged 65 rfl) rfl ?_
                  refine mm_iconst C (mm_dec dk_X12_judged 66 rfl) ⟨by decide, by decide⟩ ?_
                  refine mm_icmp_ne (tgt := 169) C (mm_dec dk_X12_judged 67 rfl) (by decide) (fun c159 => ?_) (fun c159 => ?_)
                  · skip
                    exfalso; omega
                  · skip
                    refine mm_aload_n C (mm_dec dk_X12_judged 68 rfl) rfl ?_
                    refine mm_geti C fl_X12_347 (mm_dec dk_X12_judged 69 rfl) rfl rfl (Or.inl rfl) ?_
                    refine mm_goto (tgt := 173) C (mm_dec dk_X12_judged 70 rfl) (by decide) ?_
                    refine mm_fgt 0 ?_
                    refine mm_fgt 1 ?_
                    refine mm_fgt 2 ?_
                    refine mm_fgt 3 ?_
                    exact J173 (h130c.1 66 54) ⟨by omega, by omega⟩ (by omega)
                · skip
                  exfalso; omega
              · skip
                exfalso; omega
            · show mm_W x 0 0 127 _ _ _
              refine mm_aload_n C (mm_dec dk_X12_judged 49 rfl) rfl ?_
              refine mm_iload_n C (mm_dec dk_X12_judged 50 rfl) rfl ?_
              refine mm_iload_n C (mm_dec dk_X12_judged 51 rfl) rfl ?_
              refine mm_cVv (rest := []) C1 ev_X12_487 (mm_dec dk_X12_judged 52 rfl) (c_X12_asks_q x.2.1 hl (d - 1) (by omega) h33c i33c p1 p3 ⟨by omega, by omega⟩ (by first | exact mm_RO_fr t0 f33c (by decide) | omega)) rfl rfl (Nat.le_of_ble_eq_true rfl) ⟨by decide, by decide⟩ rfl (fun h130c hp130 => ?_) (fun _ _ q => q.elim)
              obtain ⟨i130c, g130c, y130_0⟩ := hp130
              have f130c : mm_fr [(66, 0), (66, 39), (66, 48), (66, 52), (66, 53), (66, 54), (66, 87), (66, 88)] [91, 98, 99, 100, 110, 111] h h130c := mm_fr_tr f33c g130c (by decide +kernel)
              have q130c_94 : h130c.1 66 0 = h33c.1 66 0 := g130c.1 66 0 (by decide)
              have q130c_95 : h130c.1 66 23 = h33c.1 66 23 := g130c.1 66 23 (by decide)
              have q130c_96 : h130c.1 66 41 = h33c.1 66 41 := g130c.1 66 41 (by decide)
              have g97 : -2147483648 ≤ (h130c.1 66 52) ∧ (h130c.1 66 52) ≤ 2147483647 := i130c.1 66 52
              have g98 : -2147483648 ≤ (h130c.1 66 53) ∧ (h130c.1 66 53) ≤ 2147483647 := i130c.1 66 53
              have g99 : -2147483648 ≤ (h130c.1 66 54) ∧ (h130c.1 66 54) ≤ 2147483647 := i130c.1 66 54
              have g100 : -2147483648 ≤ (h130c.1 66 87) ∧ (h130c.1 66 87) ≤ 2147483647 := i130c.1 66 87
              have g101 : 0 ≤ (h130c.1 66 88) ∧ (h130c.1 66 88) ≤ 1 := i130c.1 66 88
              obtain ⟨zs9, zf9, zA9⟩ := y130_0
              have zZ : mm_AY h h130c p1 p3 zs9 zf9 := mm_AY_fr zA9 (mm_k2_fr f33c (by decide)) (f33c.2 79 (by decide)) (f33c.2 80 (by decide)) (f33c.2 82 (by decide)) (f33c.2 83 (by decide)) (f33c.2 84 (by decide)) (f33c.2 85 (by decide)) (f33c.2 86 (by decide)) (f33c.2 87 (by decide)) (f33c.2 88 (by decide)) (f33c.2 89 (by decide)) (f33c.2 90 (by decide)) (f33c.2 94 (by decide)) (f33c.2 95 (by decide)) (f33c.2 112 (by decide)) (f33c.2 113 (by decide)) (f33c.2 114 (by decide)) (f33c.2 115 (by decide)) (f33c.2 116 (by decide)) (f33c.2 102 (by decide)) (f33c.2 103 (by decide)) (f33c.2 104 (by decide)) (f33c.2 105 (by decide)) (f33c.2 106 (by decide)) (f33c.2 107 (by decide)) (f33c.1 66 40 (by decide)) (f33c.1 66 82 (by decide)) (f33c.1 66 67 (by decide)) (f33c.1 66 68 (by decide))
              refine mm_iload_n C (mm_dec dk_X12_judged 53 rfl) rfl ?_
              refine mm_iconst C (mm_dec dk_X12_judged 54 rfl) ⟨by decide, by decide⟩ ?_
              have J173 : ∀ (s173_0 : Int) (bs173_0 : -2147483648 ≤ s173_0 ∧ s173_0 ≤ 2147483647) (w173_0 : ((p2 = 3 ∧ s173_0 = h130c.1 66 52) ∨ (p2 = 4 ∧ s173_0 = h130c.1 66 53) ∨ (p2 = 5 ∧ s173_0 = h130c.1 66 54) ∨ (p2 = 6 ∧ s173_0 = h130c.1 66 87))), mm_W x 0 0 173 [mU, mU, mU, mU] [mI s173_0] h130c := by
                intro s173_0 bs173_0 w173_0
                exact mm_iret C T (mm_dec dk_X12_judged 73 rfl) (by decide : 0 ≤ 0) (by decide : 0 ≤ 0) ⟨_, rfl, ⟨⟨by omega, by omega⟩, i130c, f130c, by omega, by first | exact fun q => absurd q (by omega) | exact fun _ => Or.inl ⟨by omega, _, zZ⟩ | exact fun _ => Or.inr (Or.inl ⟨by omega, zZ⟩) | exact fun _ => Or.inr (Or.inr (Or.inl ⟨by omega, zZ⟩)) | exact fun _ => Or.inr (Or.inr (Or.inr (Or.inl ⟨by omega, zZ⟩))) | exact fun _ => Or.inr (Or.inr (Or.inr (Or.inr (Or.inl ⟨by omega, zZ⟩)))) | exact fun _ => Or.inr (Or.inr (Or.inr (Or.inr (Or.inr ⟨by omega, by omega, h130c, zs9, zf9, zZ, w173_0⟩))))⟩⟩
              refine mm_icmp_ne (tgt := 145) C (mm_dec dk_X12_judged 55 rfl) (by decide) (fun c135 => ?_) (fun c135 => ?_)
              · skip
                refine mm_iload_n C (mm_dec dk_X12_judged 59 rfl) rfl ?_
                refine mm_iconst C (mm_dec dk_X12_judged 60 rfl) ⟨by decide, by decide⟩ ?_
                refine mm_icmp_ne (tgt := 157) C (mm_dec dk_X12_judged 61 rfl) (by decide) (fun c147 => ?_) (fun c147 => ?_)
                · skip
                  refine mm_iload_n C (mm_dec dk_X12_judged 65 rfl) rfl ?_
                  refine mm_iconst C (mm_dec dk_X12_judged 66 rfl) ⟨by decide, by decide⟩ ?_
                  refine mm_icmp_ne (tgt := 169) C (mm_dec dk_X12_judged 67 rfl) (by decide) (fun c159 => ?_) (fun c159 => ?_)
                  · skip
                    refine mm_aload_n C (mm_dec dk_X12_judged 71 rfl) rfl ?_
                    refine mm_geti C fl_X12_475 (mm_dec dk_X12_judged 72 rfl) rfl rfl (Or.inl rfl) ?_
                    refine mm_fgt 0 ?_
                    refine mm_fgt 1 ?_
                    refine mm_fgt 2 ?_
                    refine mm_fgt 3 ?_
                    exact J173 (h130c.1 66 87) ⟨by omega, by omega⟩ (by omega)
                  · skip
                    exfalso; omega
                · skip
                  exfalso; omega
              · skip
                exfalso; omega
            · show mm_W x 0 0 113 _ _ _
              refine mm_aload_n C (mm_dec dk_X12_judged 39 rfl) rfl ?_
              refine mm_iload_n C (mm_dec dk_X12_judged 40 rfl) rfl ?_
              refine mm_iload_n C (mm_dec dk_X12_judged 41 rfl) rfl ?_
              refine mm_cVi (rest := []) C1 ev_X12_496 (mm_dec dk_X12_judged 42 rfl) (c_X12_totalOf_q x.2.1 hl (d - 1) (by omega) h33c i33c p1 p3 ⟨by omega, by omega⟩ (by first | exact mm_RO_fr t0 f33c (by decide) | omega)) rfl rfl (Nat.le_of_ble_eq_true rfl) ⟨by decide, by decide⟩ rfl (fun r116 h116c hp116 => ?_) (fun _ _ q => q.elim)
              obtain ⟨b116, i116c, g116c, y116_0⟩ := hp116
              have f116c : mm_fr [(66, 0), (66, 39), (66, 48), (66, 52), (66, 53), (66, 54), (66, 87), (66, 88)] [91, 98, 99, 100, 110, 111] h h116c := mm_fr_tr f33c g116c (by decide +kernel)
              have q116c_103 : h116c.1 66 0 = h33c.1 66 0 := g116c.1 66 0 (by decide)
              have q116c_104 : h116c.1 66 23 = h33c.1 66 23 := g116c.1 66 23 (by decide)
              have q116c_105 : h116c.1 66 41 = h33c.1 66 41 := g116c.1 66 41 (by decide)
              have g106 : -2147483648 ≤ (h116c.1 66 52) ∧ (h116c.1 66 52) ≤ 2147483647 := i116c.1 66 52
              have g107 : -2147483648 ≤ (h116c.1 66 53) ∧ (h116c.1 66 53) ≤ 2147483647 := i116c.1 66 53
              have g108 : -2147483648 ≤ (h116c.1 66 54) ∧ (h116c.1 66 54) ≤ 2147483647 := i116c.1 66 54
              have g109 : -2147483648 ≤ (h116c.1 66 87) ∧ (h116c.1 66 87) ≤ 2147483647 := i116c.1 66 87
              have g110 : 0 ≤ (h116c.1 66 88) ∧ (h116c.1 66 88) ≤ 1 := i116c.1 66 88
              have zZ : mm_TY9 h p1 p3 r116 := mm_TY9_fr y116_0 (mm_k2_fr f33c (by decide)) (f33c.2 79 (by decide)) (f33c.2 80 (by decide)) (f33c.2 82 (by decide)) (f33c.2 83 (by decide)) (f33c.2 84 (by decide)) (f33c.2 85 (by decide)) (f33c.2 86 (by decide)) (f33c.2 87 (by decide)) (f33c.2 88 (by decide)) (f33c.2 89 (by decide)) (f33c.2 90 (by decide)) (f33c.2 94 (by decide)) (f33c.2 95 (by decide)) (f33c.2 112 (by decide)) (f33c.2 113 (by decide)) (f33c.2 114 (by decide)) (f33c.2 115 (by decide)) (f33c.2 116 (by decide)) (f33c.2 102 (by decide)) (f33c.2 103 (by decide)) (f33c.2 104 (by decide)) (f33c.2 105 (by decide)) (f33c.2 106 (by decide)) (f33c.2 107 (by decide)) (f33c.1 66 40 (by decide)) (f33c.1 66 82 (by decide)) (f33c.1 66 67 (by decide)) (f33c.1 66 68 (by decide))
              exact mm_iret C T (mm_dec dk_X12_judged 43 rfl) (by decide : 0 ≤ 0) (by decide : 0 ≤ 0) ⟨_, rfl, ⟨⟨by omega, by omega⟩, i116c, f116c, by omega, by first | exact fun q => absurd q (by omega) | exact fun _ => Or.inl ⟨by omega, _, zZ⟩ | exact fun _ => Or.inr (Or.inl ⟨by omega, zZ⟩) | exact fun _ => Or.inr (Or.inr (Or.inl ⟨by omega, zZ⟩)) | exact fun _ => Or.inr (Or.inr (Or.inr (Or.inl ⟨by omega, zZ⟩))) | exact fun _ => Or.inr (Or.inr (Or.inr (Or.inr (Or.inl ⟨by omega, zZ⟩)))) | exact fun _ => Or.inr (Or.inr (Or.inr (Or.inr (Or.inr ⟨by omega, by omega, h130c, zs9, zf9, zZ, w173_0⟩))))⟩⟩
            · show mm_W x 0 0 120 _ _ _
              refine mm_aload_n C (mm_dec dk_X12_judged 44 rfl) rfl ?_
              refine mm_iload_n C (mm_dec dk_X12_judged 45 rfl) rfl ?_
              refine mm_iload_n C (mm_dec dk_X12_judged 46 rfl) rfl ?_
              refine mm_cVi (rest := []) C1 ev_X12_502 (mm_dec dk_X12_judged 47 rfl) (c_X12_placeOf_q x.2.1 hl (d - 1) (by omega) h33c i33c p1 p3 ⟨by omega, by omega⟩ (by first | exact mm_RO_fr t0 f33c (by decide) | omega)) rfl rfl (Nat.le_of_ble_eq_true rfl) ⟨by decide, by decide⟩ rfl (fun r123 h123c hp123 => ?_) (fun _ _ q => q.elim)
              obtain ⟨b123, i123c, g123c, y123_0⟩ := hp123
              have f123c : mm_fr [(66, 0), (66, 39), (66, 48), (66, 52), (66, 53), (66, 54), (66, 87), (66, 88)] [91, 98, 99, 100, 110, 111] h h123c := mm_fr_tr f33c g123c (by decide +kernel)
              have q123c_112 : h123c.1 66 0 = h33c.1 66 0 := g123c.1 66 0 (by decide)
              have q123c_113 : h123c.1 66 23 = h33c.1 66 23 := g123c.1 66 23 (by decide)
              have q123c_114 : h123c.1 66 41 = h33c.1 66 41 := g123c.1 66 41 (by decide)
              have g115 : -2147483648 ≤ (h123c.1 66 52) ∧ (h123c.1 66 52) ≤ 2147483647 := i123c.1 66 52
              have g116 : -2147483648 ≤ (h123c.1 66 53) ∧ (h123c.1 66 53) ≤ 2147483647 := i123c.1 66 53
              have g117 : -2147483648 ≤ (h123c.1 66 54) ∧ (h123c.1 66 54) ≤ 2147483647 := i123c.1 66 54
              have g118 : -2147483648 ≤ (h123c.1 66 87) ∧ (h123c.1 66 87) ≤ 2147483647 := i123c.1 66 87
              have g119 : 0 ≤ (h123c.1 66 88) ∧ (h123c.1 66 88) ≤ 1 := i123c.1 66 88
              have zZ : mm_plY9 h p1 p3 r123 := mm_plY9_fr y123_0 (mm_k2_fr f33c (by decide)) (f33c.2 79 (by decide)) (f33c.2 80 (by decide)) (f33c.2 82 (by decide)) (f33c.2 83 (by decide)) (f33c.2 84 (by decide)) (f33c.2 85 (by decide)) (f33c.2 86 (by decide)) (f33c.2 87 (by decide)) (f33c.2 88 (by decide)) (f33c.2 89 (by decide)) (f33c.2 90 (by decide)) (f33c.2 94 (by decide)) (f33c.2 95 (by decide)) (f33c.2 112 (by decide)) (f33c.2 113 (by decide)) (f33c.2 114 (by decide)) (f33c.2 115 (by decide)) (f33c.2 116 (by decide)) (f33c.2 102 (by decide)) (f33c.2 103 (by decide)) (f33c.2 104 (by decide)) (f33c.2 105 (by decide)) (f33c.2 106 (by decide)) (f33c.2 107 (by decide)) (f33c.1 66 40 (by decide)) (f33c.1 66 82 (by decide)) (f33c.1 66 67 (by decide)) (f33c.1 66 68 (by decide)) (f33c.1 66 23 (by decide))
              exact mm_iret C T (mm_dec dk_X12_judged 48 rfl) (by decide : 0 ≤ 0) (by decide : 0 ≤ 0) ⟨_, rfl, ⟨⟨by omega, by omega⟩, i123c, f123c, by omega, by first | exact fun q => absurd q (by omega) | exact fun _ => Or.inl ⟨by omega, _, zZ⟩ | exact fun _ => Or.inr (Or.inl ⟨by omega, zZ⟩) | exact fun _ => Or.inr (Or.inr (Or.inl ⟨by omega, zZ⟩)) | exact fun _ => Or.inr (Or.inr (Or.inr (Or.inl ⟨by omega, zZ⟩))) | exact fun _ => Or.inr (Or.inr (Or.inr (Or.inr (Or.inl ⟨by omega, zZ⟩)))) | exact fun _ => Or.inr (Or.inr (Or.inr (Or.inr (Or.inr ⟨by omega, by omega, h130c, zs9, zf9, zZ, w173_0⟩))))⟩⟩
        · skip
          refine mm_fgt 0 ?_
          refine mm_fgt 1 ?_
          refine mm_fgt 2 ?_
          refine mm_fgt 3 ?_
          exact J39 h33c i33c f33c (by omega)
    have J23 : ∀ (w23_0 : (p2 < 0 ∨ 8 < p2)), mm_W x 0 0 23 [mR 66, mI p1, mI p2, mI p3] [mR 66] h2c := by
      intro w23_0
      refine mm_iconst C (mm_dec dk_X12_judged 12 rfl) ⟨by decide, by decide⟩ ?_
      exact J24 0 ⟨by omega, by omega⟩ (by omega) (Or.inl rfl)
    refine mm_if_lt (tgt := 23) C (mm_dec dk_X12_judged 6 rfl) (by decide) (fun c10 => ?_) (fun c10 => ?_)
    · skip
      exact J23 (by omega)
    · skip
      refine mm_iload_n C (mm_dec dk_X12_judged 7 rfl) rfl ?_
      refine mm_bipush C (mm_dec dk_X12_judged 8 rfl) ⟨by decide, by decide⟩ ?_
      refine mm_icmp_gt (tgt := 23) C (mm_dec dk_X12_judged 9 rfl) (by decide) (fun c16 => ?_) (fun c16 => ?_)
      · skip
        exact J23 (by omega)
      · skip
        refine mm_iconst C (mm_dec dk_X12_judged 10 rfl) ⟨by decide, by decide⟩ ?_
        refine mm_goto (tgt := 24) C (mm_dec dk_X12_judged 11 rfl) (by decide) ?_
        exact J24 1 ⟨by omega, by omega⟩ (by omega) (Or.inr (⟨by omega, by omega, rfl⟩))
