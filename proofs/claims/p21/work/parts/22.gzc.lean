set_option maxRecDepth 100000 in
set_option maxHeartbeats 4000000 in
theorem c_X12_draw_q (l : Launch) (hl : l.stackTraces = false) (d : Nat) (hd : 2 ≤ d) (h : mH) (i0 : mm_inv h) (p1 : Int) (p2 : Int) (p4 : Int) : mm_Met l d yX12_draw cX12_draw 11 (some .int) [mR 66, mI p1, mL p2, mI p4] h (mm_pi fun r h2 => (-1 ≤ r ∧ r ≤ 40) ∧ mm_inv h2 ∧ mm_fr [(66, 0), (66, 40)] [92, 93, 94, 95, 96, 97, 117, 118, 119] h h2 ∧ ((0 ≤ p1 ∧ p1 < h.1 66 22 ∧ h2.1 66 0 = 0 ∧ ((r = -1 ∧ h2.1 66 40 = h.1 66 40) ∨ (0 ≤ r ∧ r ≤ 40 ∧ h2.1 66 40 = h.1 66 40 + r))) ∨ ((p1 < 0 ∨ h.1 66 22 ≤ p1) ∧ h2.1 66 0 = 1 ∧ r = 0 ∧ mm_ke9 h h2)) ∧ (h2.1 66 0 = 0 → (0 ≤ mm_pr h 1 → mm_pr h 1 ≤ 99999 → mm_dy9 h h2 p1 p2 p4 r)) ∧ (h2.1 66 0 = 0 → mm_dy8 h h2 p4 r) ∧ (h2.1 66 0 ≠ 0 → (∀ j, h2.2.1 94 j = h.2.1 94 j) ∧ ∀ j, h2.2.1 95 j = h.2.1 95 j)) mm_nx 0 0 := by
  refine mm_ofW (ls := [mR 66, mI p1, mL p2, mU, mI p4, mU, mU, mU, mU, mU, mU]) hl (by decide) rfl (Nat.le_of_ble_eq_true rfl) ?_
  intro x hxl C T hnm htb
  subst hxl
  have C1 := mm_OK_le (d' := d - 1 + 1) (by omega) C
  refine mm_rng (fun hr _ => ?_)
  have ap1 : -2147483648 ≤ p1 ∧ p1 < 2147483648 := mm_ok_at hr (i := 1) rfl
  have ap2 : -9223372036854775808 ≤ p2 ∧ p2 < 9223372036854775808 := mm_ok_at hr (i := 2) rfl
  have ap4 : -2147483648 ≤ p4 ∧ p4 < 2147483648 := mm_ok_at hr (i := 4) rfl
  have f0 : mm_fr [(66, 0), (66, 40)] [92, 93, 94, 95, 96, 97, 117, 118, 119] h h := mm_fr_rf
  have g1 : 0 ≤ h.1 66 40 ∧ h.1 66 40 ≤ 500 := i0.1 66 40
  have g2 : 0 ≤ h.1 66 41 ∧ h.1 66 41 ≤ 99999 := i0.1 66 41
  have g3 : 0 ≤ h.1 66 23 ∧ h.1 66 23 ≤ 40 := i0.1 66 23
  have g4 : -2147483648 ≤ h.1 66 0 ∧ h.1 66 0 ≤ 2147483647 := i0.1 66 0
  have g5 : 0 ≤ h.1 66 22 ∧ h.1 66 22 ≤ 8 := i0.1 66 22
  refine mm_aload_n C (mm_dec dk_X12_draw 0 rfl) rfl ?_
  refine mm_iload_n C (mm_dec dk_X12_draw 1 rfl) rfl ?_
  refine mm_cVi (rest := []) C1 ev_X12_288 (mm_dec dk_X12_draw 2 rfl) (c_X12_isCourse_q x.2.1 hl (d - 1) (by omega) h i0 p1) rfl rfl (Nat.le_of_ble_eq_true rfl) ⟨by decide, by decide⟩ rfl (fun r2 h2c hp2 => ?_) (fun _ _ q => q.elim)
  obtain ⟨b2, i2c, g2c, y2_0, y2_1⟩ := hp2
  have f2c : mm_fr [(66, 0), (66, 40)] [92, 93, 94, 95, 96, 97, 117, 118, 119] h h2c := mm_fr_tr f0 g2c (by decide +kernel)
  have q2c_7 : h2c.1 66 22 = h.1 66 22 := g2c.1 66 22 (by decide)
  have q2c_8 : h2c.1 66 23 = h.1 66 23 := g2c.1 66 23 (by decide)
  have q2c_9 : h2c.1 66 40 = h.1 66 40 := g2c.1 66 40 (by decide)
  have q2c_10 : h2c.1 66 41 = h.1 66 41 := g2c.1 66 41 (by decide)
  have g11 : -2147483648 ≤ (h2c.1 66 0) ∧ (h2c.1 66 0) ≤ 2147483647 := i2c.1 66 0
  refine mm_if_ne (tgt := 10) C (mm_dec dk_X12_draw 3 rfl) (by decide) (fun c5 => ?_) (fun c5 => ?_)
  · skip
    have zgood : 0 ≤ p1 ∧ p1 < h.1 66 22 ∧ h2c.1 66 0 = 0 := by omega
    clear y2_0 y2_1
    refine mm_iload C (mm_dec dk_X12_draw 6 rfl) rfl ?_
    refine mm_aload_n C (mm_dec dk_X12_draw 7 rfl) rfl ?_
    refine mm_geti C fl_X12_234 (mm_dec dk_X12_draw 8 rfl) rfl rfl (Or.inl rfl) ?_
    have J27 : ∀ (w27_0 : (p4 < h.1 66 41 ∨ 99999 < p4)), mm_W x 0 0 27 [mU, mU, mU, mU, mU, mU, mU, mU, mU, mU, mU] [] h2c := by
      intro w27_0
      refine mm_iconst C (mm_dec dk_X12_draw 13 rfl) ⟨by decide, by decide⟩ ?_
      exact mm_iret C T (mm_dec dk_X12_draw 14 rfl) (by decide : 0 ≤ 0) (by decide : 0 ≤ 0) ⟨_, rfl, ⟨⟨by omega, by omega⟩, i2c, f2c, by first | exact Or.inr ⟨zbad.1, zbad.2.2, rfl, (mm_ke9_fr mm_ke9_rf g2c (by decide))⟩ | exact Or.inl ⟨zgood.1, zgood.2.1, by omega, by omega⟩, by first | exact fun q => absurd (zbad.2.2.symm.trans q) (by decide) | exact fun _ _ _ => mm_dy9_out w27_0 (mm_ke9_fr mm_ke9_rf g2c (by decide)) | exact fun _ a b => mm_dy9_no zG9 w59_5 (by omega) (by omega) (w285_0 a b) w169_2 | exact fun _ a b => mm_dy9_ok zG9 w59_5 zb6 zE9 w169_4 ze169 w293_4 (by omega) (by omega) (by omega) (by omega) (by omega) (by rw [← zgb a b]; have z8 := mm_hq9x w269_0; omega) (by intro c x y; rw [w169_4]; exact ((mm_hq9x zCF).resolve_left (by omega)) c x y) w169_2.2.1 (by rw [show x59_5 = x293_9 by omega]; exact w293_7) (by rw [show x59_5 = x293_9 by omega]; exact w293_8) (by rw [show x59_5 = x293_9 by omega]; exact w293_9), by first | exact fun q => absurd (zbad.2.2.symm.trans q) (by decide) | exact fun _ => mm_dy8_no (fun j => g2c.2 94 (by decide) j) (fun j => g2c.2 95 (by decide) j) | exact fun _ => mm_dy8_no w169_7 w169_8 | exact fun _ => (by rw [show x59_5 = x293_9 by omega]; exact ⟨w293_11, w293_12⟩), by first | exact fun _ => ⟨fun j => g2c.2 94 (by decide) j, fun j => g2c.2 95 (by decide) j⟩ | exact fun q => absurd (by omega) q⟩⟩
    refine mm_icmp_lt (tgt := 27) C (mm_dec dk_X12_draw 9 rfl) (by decide) (fun c16 => ?_) (fun c16 => ?_)
    · skip
      refine mm_fgt 0 ?_
      refine mm_fgt 1 ?_
      refine mm_fgt 2 ?_
      refine mm_fgt 4 ?_
      exact J27 (by omega)
    · skip
      refine mm_iload C (mm_dec dk_X12_draw 10 rfl) rfl ?_
      refine mm_ldcw (z := 99999) C (mm_dec dk_X12_draw 11 rfl) kc_X12_314 (by decide) ?_
      refine mm_icmp_le (tgt := 29) C (mm_dec dk_X12_draw 12 rfl) (by decide) (fun c24 => ?_) (fun c24 => ?_)
      · skip
        refine mm_iconst C (mm_dec dk_X12_draw 15 rfl) ⟨by decide, by decide⟩ ?_
        refine mm_istoreL (ls2 := [mR 66, mI p1, mL p2, mU, mI p4, mI 0, mU, mU, mU, mU, mU]) C (mm_dec dk_X12_draw 16 rfl) (by decide) rfl ?_
        refine mm_iconst C (mm_dec dk_X12_draw 17 rfl) ⟨by decide, by decide⟩ ?_
        have J35 : ∀ (n : Nat) (x35_6 : Int) (bx35_6 : 0 ≤ x35_6 ∧ x35_6 ≤ 10) (h35_ : mH) (i35_ : mm_inv h35_) (f35_ : mm_fr [(66, 0), (66, 40)] [92, 93, 94, 95, 96, 97, 117, 118, 119] h h35_) (w35_0 : ∀ c, 0 ≤ c → c < x35_6 → h35_.2.1 118 c = 0) (w35_1 : mm_ke9 h h35_) (w35_2 : h35_.1 66 0 = 0) (w35_3 : ∀ j, h35_.2.1 94 j = h.2.1 94 j) (w35_4 : ∀ j, h35_.2.1 95 j = h.2.1 95 j), (10 - x35_6 : Int) < n → mm_W x 0 0 35 [mR 66, mI p1, mL p2, mU, mI p4, mI 0, mI x35_6, mU, mU, mU, mU] [] h35_ := by
          intro n
          induction n with
          | zero =>
            intro x35_6 bx35_6 h35_ i35_ f35_ w35_0 w35_1 w35_2 w35_3 w35_4 hm
            have g12 : 0 ≤ h35_.1 66 40 ∧ h35_.1 66 40 ≤ 500 := i35_.1 66 40
            have g13 : 0 ≤ h35_.1 66 41 ∧ h35_.1 66 41 ≤ 99999 := i35_.1 66 41
            have g14 : 0 ≤ h35_.1 66 23 ∧ h35_.1 66 23 ≤ 40 := i35_.1 66 23
            have g15 : -2147483648 ≤ h35_.1 66 0 ∧ h35_.1 66 0 ≤ 2147483647 := i35_.1 66 0
            have g16 : 0 ≤ h35_.1 66 22 ∧ h35_.1 66 22 ≤ 8 := i35_.1 66 22
            exfalso; omega
          | succ n ih35 =>
            intro x35_6 bx35_6 h35_ i35_ f35_ w35_0 w35_1 w35_2 w35_3 w35_4 hm35
            have g17 : 0 ≤ h35_.1 66 40 ∧ h35_.1 66 40 ≤ 500 := i35_.1 66 40
            have g18 : 0 ≤ h35_.1 66 41 ∧ h35_.1 66 41 ≤ 99999 := i35_.1 66 41
            have g19 : 0 ≤ h35_.1 66 23 ∧ h35_.1 66 23 ≤ 40 := i35_.1 66 23
            have g20 : -2147483648 ≤ h35_.1 66 0 ∧ h35_.1 66 0 ≤ 2147483647 := i35_.1 66 0
            have g21 : 0 ≤ h35_.1 66 22 ∧ h35_.1 66 22 ≤ 8 := i35_.1 66 22
            have g22 : h35_.1 66 41 = h.1 66 41 := f35_.1 66 41 (by decide)
            have g23 : h35_.1 66 23 = h.1 66 23 := f35_.1 66 23 (by decide)
            have g24 : h35_.1 66 22 = h.1 66 22 := f35_.1 66 22 (by decide)
            refine mm_iload C (mm_dec dk_X12_draw 19 rfl) rfl ?_
            refine mm_bipush C (mm_dec dk_X12_draw 20 rfl) ⟨by decide, by decide⟩ ?_
            refine mm_icmp_ge (tgt := 56) C (mm_dec dk_X12_draw 21 rfl) (by decide) (fun c39 => ?_) (fun c39 => ?_)
            · skip
              have zd0 : mm_dw h35_ 0 0 := mm_dw_nil (fun c a b => w35_0 c a (by omega))
              refine mm_iconst C (mm_dec dk_X12_draw 29 rfl) ⟨by decide, by decide⟩ ?_
              have J59 : ∀ (n : Nat) (x59_5 : Int) (bx59_5 : 0 ≤ x59_5 ∧ x59_5 ≤ 40) (x59_6 : Int) (bx59_6 : 0 ≤ x59_6 ∧ x59_6 ≤ 40) (h59_ : mH) (i59_ : mm_inv h59_) (f59_ : mm_fr [(66, 0), (66, 40)] [92, 93, 94, 95, 96, 97, 117, 118, 119] h h59_) (w59_0 : mm_dw h59_ x59_5 x59_5) (w59_1 : mm_lt h59_ x59_5 x59_6) (w59_2 : x59_5 ≤ x59_6) (w59_3 : mm_ke9 h h59_) (w59_4 : mm_gh (mm_Q2 h p1 (h.1 66 41)) (h59_.2.1 117) (x59_6).toNat x59_5) (w59_5 : ∀ c, 0 ≤ c → c < 10 → h59_.2.1 118 c = mm_lk (h.2.1 86) (h59_.2.1 117) (x59_5).toNat c) (w59_6 : ∀ r, 0 ≤ r → r < x59_6 → h59_.2.1 119 r = 0) (w59_7 : x59_6 ≤ h.1 66 23) (w59_8 : h59_.1 66 0 = 0) (w59_9 : ∀ j, h59_.2.1 94 j = h.2.1 94 j) (w59_10 : ∀ j, h59_.2.1 95 j = h.2.1 95 j), (40 - x59_6 : Int) < n → mm_W x 0 0 59 [mR 66, mI p1, mL p2, mU, mI p4, mI x59_5, mI x59_6, mU, mU, mU, mU] [] h59_ := by
                intro n
                induction n with
                | zero =>
                  intro x59_5 bx59_5 x59_6 bx59_6 h59_ i59_ f59_ w59_0 w59_1 w59_2 w59_3 w59_4 w59_5 w59_6 w59_7 w59_8 w59_9 w59_10 hm
                  have g25 : 0 ≤ h59_.1 66 40 ∧ h59_.1 66 40 ≤ 500 := i59_.1 66 40
                  have g26 : 0 ≤ h59_.1 66 41 ∧ h59_.1 66 41 ≤ 99999 := i59_.1 66 41
                  have g27 : 0 ≤ h59_.1 66 23 ∧ h59_.1 66 23 ≤ 40 := i59_.1 66 23
                  have g28 : -2147483648 ≤ h59_.1 66 0 ∧ h59_.1 66 0 ≤ 2147483647 := i59_.1 66 0
                  have g29 : 0 ≤ h59_.1 66 22 ∧ h59_.1 66 22 ≤ 8 := i59_.1 66 22
                  exfalso; omega
                | succ n ih59 =>
                  intro x59_5 bx59_5 x59_6 bx59_6 h59_ i59_ f59_ w59_0 w59_1 w59_2 w59_3 w59_4 w59_5 w59_6 w59_7 w59_8 w59_9 w59_10 hm59
                  have g30 : 0 ≤ h59_.1 66 40 ∧ h59_.1 66 40 ≤ 500 := i59_.1 66 40
                  have g31 : 0 ≤ h59_.1 66 41 ∧ h59_.1 66 41 ≤ 99999 := i59_.1 66 41
                  have g32 : 0 ≤ h59_.1 66 23 ∧ h59_.1 66 23 ≤ 40 := i59_.1 66 23
                  have g33 : -2147483648 ≤ h59_.1 66 0 ∧ h59_.1 66 0 ≤ 2147483647 := i59_.1 66 0
                  have g34 : 0 ≤ h59_.1 66 22 ∧ h59_.1 66 22 ≤ 8 := i59_.1 66 22
                  have g35 : h59_.1 66 41 = h.1 66 41 := f59_.1 66 41 (by decide)
                  have g36 : h59_.1 66 23 = h.1 66 23 := f59_.1 66 23 (by decide)
                  have g37 : h59_.1 66 22 = h.1 66 22 := f59_.1 66 22 (by decide)
                  have zk9 : mm_k2 h59_ = mm_k2 h := mm_ke9_k2 w59_3
                  have ze9 : h59_.1 66 40 = h.1 66 40 := w59_3.2.2.2.2
                  have zn41 : h59_.1 66 41 = h.1 66 41 := f59_.1 66 41 (by decide)
                  have z85 : h59_.2.1 85 x59_6 = h.2.1 85 x59_6 := f59_.2 85 (by decide) _
                  have z88 : h59_.2.1 88 x59_6 = h.2.1 88 x59_6 := f59_.2 88 (by decide) _
                  have z89 : h59_.2.1 89 x59_6 = h.2.1 89 x59_6 := f59_.2 89 (by decide) _
                  have zc86 : 0 ≤ h.2.1 86 x59_6 ∧ h.2.1 86 x59_6 ≤ 9 := i0.2.1 86 _
                  have zrg := mm_gh_rg _ _ w59_4
                  refine mm_iload C (mm_dec dk_X12_draw 31 rfl) rfl ?_
                  refine mm_aload_n C (mm_dec dk_X12_draw 32 rfl) rfl ?_
                  refine mm_geti C fl_X12_222 (mm_dec dk_X12_draw 33 rfl) rfl rfl (Or.inl rfl) ?_
                  refine mm_icmp_ge (tgt := 160) C (mm_dec dk_X12_draw 34 rfl) (by decide) (fun c65 => ?_) (fun c65 => ?_)
                  · skip
                    refine mm_lload_n C (mm_dec dk_X12_draw 85 rfl) rfl ?_
                    refine mm_lstoreL (ls2 := [mR 66, mI p1, mL p2, mU, mI p4, mI x59_5, mL p2, mU, mU, mU, mU]) C (mm_dec dk_X12_draw 86 rfl) (by decide) rfl ?_
                    refine mm_iload C (mm_dec dk_X12_draw 87 rfl) rfl ?_
                    refine mm_iconst C (mm_dec dk_X12_draw 88 rfl) ⟨by decide, by decide⟩ ?_
                    refine mm_isub C (mm_dec dk_X12_draw 89 rfl) ⟨by omega, by omega⟩ ?_
                    have J169 : ∀ (n : Nat) (x169_6 : Int) (bx169_6 : -9223372036854775808 ≤ x169_6 ∧ x169_6 < 9223372036854775808) (x169_8 : Int) (bx169_8 : -1 ≤ x169_8 ∧ x169_8 ≤ 39) (h169_ : mH) (i169_ : mm_inv h169_) (f169_ : mm_fr [(66, 0), (66, 40)] [92, 93, 94, 95, 96, 97, 117, 118, 119] h h169_) (w169_0 : mm_dw h169_ x59_5 x59_5) (w169_1 : x169_8 + 1 ≤ x59_5) (w169_2 : mm_ke9 h h169_) (w169_3 : mm_sh9 (x169_8).toNat x169_6 (h169_.2.1 117) = mm_sh9 (x59_5 - 1).toNat p2 (h59_.2.1 117)) (w169_4 : ∀ j, h169_.2.1 118 j = h59_.2.1 118 j) (w169_5 : ∀ j, h169_.2.1 119 j = h59_.2.1 119 j) (w169_6 : h169_.1 66 0 = 0) (w169_7 : ∀ j, h169_.2.1 94 j = h.2.1 94 j) (w169_8 : ∀ j, h169_.2.1 95 j = h.2.1 95 j), (x169_8 - (-1) : Int) < n → mm_W x 0 0 169 [mR 66, mU, mU, mU, mI p4, mI x59_5, mL x169_6, mU, mI x169_8, mU, mU] [] h169_ := by
                      intro n
                      induction n with
                      | zero =>
                        intro x169_6 bx169_6 x169_8 bx169_8 h169_ i169_ f169_ w169_0 w169_1 w169_2 w169_3 w169_4 w169_5 w169_6 w169_7 w169_8 hm
                        have g38 : 0 ≤ h169_.1 66 40 ∧ h169_.1 66 40 ≤ 500 := i169_.1 66 40
                        have g39 : 0 ≤ h169_.1 66 41 ∧ h169_.1 66 41 ≤ 99999 := i169_.1 66 41
                        have g40 : 0 ≤ h169_.1 66 23 ∧ h169_.1 66 23 ≤ 40 := i169_.1 66 23
                        have g41 : -2147483648 ≤ h169_.1 66 0 ∧ h169_.1 66 0 ≤ 2147483647 := i169_.1 66 0
                        have g42 : 0 ≤ h169_.1 66 22 ∧ h169_.1 66 22 ≤ 8 := i169_.1 66 22
                        exfalso; omega
                      | succ n ih169 =>
                        intro x169_6 bx169_6 x169_8 bx169_8 h169_ i169_ f169_ w169_0 w169_1 w169_2 w169_3 w169_4 w169_5 w169_6 w169_7 w169_8 hm169
                        have g43 : 0 ≤ h169_.1 66 40 ∧ h169_.1 66 40 ≤ 500 := i169_.1 66 40
                        have g44 : 0 ≤ h169_.1 66 41 ∧ h169_.1 66 41 ≤ 99999 := i169_.1 66 41
                        have g45 : 0 ≤ h169_.1 66 23 ∧ h169_.1 66 23 ≤ 40 := i169_.1 66 23
                        have g46 : -2147483648 ≤ h169_.1 66 0 ∧ h169_.1 66 0 ≤ 2147483647 := i169_.1 66 0
                        have g47 : 0 ≤ h169_.1 66 22 ∧ h169_.1 66 22 ≤ 8 := i169_.1 66 22
                        have g48 : h169_.1 66 41 = h.1 66 41 := f169_.1 66 41 (by decide)
                        have g49 : h169_.1 66 23 = h.1 66 23 := f169_.1 66 23 (by decide)
                        have g50 : h169_.1 66 22 = h.1 66 22 := f169_.1 66 22 (by decide)
                        refine mm_iload C (mm_dec dk_X12_draw 91 rfl) rfl ?_
                        refine mm_iconst C (mm_dec dk_X12_draw 92 rfl) ⟨by decide, by decide⟩ ?_
                        refine mm_icmp_lt (tgt := 239) C (mm_dec dk_X12_draw 93 rfl) (by decide) (fun c172 => ?_) (fun c172 => ?_)
                        · skip
                          have zG9 : mm_gh (mm_Q2 h p1 (h.1 66 41)) (h59_.2.1 117) (h.1 66 23).toNat x59_5 := by rw [show (h.1 66 23).toNat = (x59_6).toNat by omega]; exact w59_4
                          have zE9 : h169_.2.1 117 = mm_sh9 (x59_5 - 1).toNat p2 (h59_.2.1 117) := by rw [← w169_3, show (x169_8).toNat = 0 by omega]; rfl
                          have zJ9 := mm_sh9_ij zG9 (by omega) zE9
                          have zJ := zJ9.1
                          have zpr : mm_pr h169_ 1 = mm_pr h 1 := mm_pr_sm (f169_.2 102 (by decide)) (f169_.1 66 67 (by decide)) (f169_.1 66 68 (by decide))
                          have zb6 : ∀ j, h169_.2.1 86 j = h.2.1 86 j := f169_.2 86 (by decide)
                          have z119 : ∀ k, 0 ≤ k → k < x59_5 → h169_.2.1 119 (h169_.2.1 117 k) = 0 := fun k a b => by rw [w169_5]; have z := zJ9.2 k a b; exact w59_6 _ z.1 (by omega)
                          have ze169 : h169_.1 66 40 = h.1 66 40 := w169_2.2.2.2.2
                          refine mm_aload_n C (mm_dec dk_X12_draw 130 rfl) rfl ?_
                          refine mm_iconst C (mm_dec dk_X12_draw 131 rfl) ⟨by decide, by decide⟩ ?_
                          refine mm_iload C (mm_dec dk_X12_draw 132 rfl) rfl ?_
                          refine mm_cVi (rest := []) C1 ev_X12_518 (mm_dec dk_X12_draw 133 rfl) (c_X12_canFollow_x x.2.1 hl (d - 1) (by omega) h169_ i169_ (-1) x59_5 ⟨by omega, by omega⟩) rfl rfl (Nat.le_of_ble_eq_true rfl) ⟨by decide, by decide⟩ rfl (fun r243 h243c hp243 => ?_) (fun _ _ q => q.elim)
                          obtain ⟨b243, z243, y243_0, y243_1⟩ := hp243
                          rw [z243]
                          have J285 : ∀ (w285_0 : (0 ≤ mm_pr h 1 → mm_pr h 1 ≤ 99999 → (500 < h.1 66 40 + x59_5 ∨ 99999 < p4 + (x59_5 - 1) * mm_pr h 1 ∨ ¬ mm_cf9 (h59_.2.1 118) x59_5))), mm_W x 0 0 285 [mU, mU, mU, mU, mU, mU, mU, mU, mU, mU, mU] [] h169_ := by
                            intro w285_0
                            have g52 : 0 ≤ h169_.1 66 40 ∧ h169_.1 66 40 ≤ 500 := i169_.1 66 40
                            have g53 : 0 ≤ h169_.1 66 41 ∧ h169_.1 66 41 ≤ 99999 := i169_.1 66 41
                            have g54 : 0 ≤ h169_.1 66 23 ∧ h169_.1 66 23 ≤ 40 := i169_.1 66 23
                            have g55 : -2147483648 ≤ h169_.1 66 0 ∧ h169_.1 66 0 ≤ 2147483647 := i169_.1 66 0
                            have g56 : 0 ≤ h169_.1 66 22 ∧ h169_.1 66 22 ≤ 8 := i169_.1 66 22
                            refine mm_iconst C (mm_dec dk_X12_draw 156 rfl) ⟨by decide, by decide⟩ ?_
                            exact mm_iret C T (mm_dec dk_X12_draw 157 rfl) (by decide : 0 ≤ 0) (by decide : 0 ≤ 0) ⟨_, rfl, ⟨⟨by omega, by omega⟩, i169_, f169_, by first | exact Or.inr ⟨zbad.1, zbad.2.2, rfl, (mm_ke9_fr mm_ke9_rf g2c (by decide))⟩ | exact Or.inl ⟨zgood.1, zgood.2.1, by omega, by omega⟩, by first | exact fun q => absurd (zbad.2.2.symm.trans q) (by decide) | exact fun _ _ _ => mm_dy9_out w27_0 (mm_ke9_fr mm_ke9_rf g2c (by decide)) | exact fun _ a b => mm_dy9_no zG9 w59_5 (by omega) (by omega) (w285_0 a b) w169_2 | exact fun _ a b => mm_dy9_ok zG9 w59_5 zb6 zE9 w169_4 ze169 w293_4 (by omega) (by omega) (by omega) (by omega) (by omega) (by rw [← zgb a b]; have z8 := mm_hq9x w269_0; omega) (by intro c x y; rw [w169_4]; exact ((mm_hq9x zCF).resolve_left (by omega)) c x y) w169_2.2.1 (by rw [show x59_5 = x293_9 by omega]; exact w293_7) (by rw [show x59_5 = x293_9 by omega]; exact w293_8) (by rw [show x59_5 = x293_9 by omega]; exact w293_9), by first | exact fun q => absurd (zbad.2.2.symm.trans q) (by decide) | exact fun _ => mm_dy8_no (fun j => g2c.2 94 (by decide) j) (fun j => g2c.2 95 (by decide) j) | exact fun _ => mm_dy8_no w169_7 w169_8 | exact fun _ => (by rw [show x59_5 = x293_9 by omega]; exact ⟨w293_11, w293_12⟩), by first | exact fun _ => ⟨fun j => g2c.2 94 (by decide) j, fun j => g2c.2 95 (by decide) j⟩ | exact fun q => absurd (by omega) q⟩⟩
                          have zCF : mm_hq9 (r243 = 0 ∨ mm_cf9 (h59_.2.1 118) x59_5) := y243_0.imp id (fun q c a b => by rw [← w169_4]; exact q c a b)
                          have zCN : mm_hq9 (r243 = 1 ∨ ¬ mm_cf9 (h59_.2.1 118) x59_5) := y243_1.imp id (fun q z => q (fun c a b => by rw [w169_4]; exact z c a b))
                          refine mm_if_eq (tgt := 285) C (mm_dec dk_X12_draw 134 rfl) (by decide) (fun c246 => ?_) (fun c246 => ?_)
                          · skip
                            refine mm_fgt 0 ?_
                            refine mm_fgt 4 ?_
                            refine mm_fgt 5 ?_
                            refine mm_fgt 6 ?_
                            refine mm_fgt 8 ?_
                            exact J285 (by first | exact fun _ _ => Or.inl (by have z9 := c282; omega) | exact fun a b => Or.inr (Or.inl (by rw [← zgb a b]; have z9 := c269; have z8 := mm_hq9x w269_0; omega)) | exact fun _ _ => Or.inr (Or.inr ((mm_hq9x zCN).resolve_left (fun z => absurd (z.symm.trans c246) (by decide)))))
                          · skip
                            refine mm_iload C (mm_dec dk_X12_draw 135 rfl) rfl ?_
                            refine mm_i2l C (mm_dec dk_X12_draw 136 rfl) ?_
                            refine mm_iload C (mm_dec dk_X12_draw 137 rfl) rfl ?_
                            refine mm_i2l C (mm_dec dk_X12_draw 138 rfl) ?_
                            refine mm_lconst (z := 1) C (mm_dec dk_X12_draw 139 rfl) rfl ?_
                            refine mm_lsub C (mm_dec dk_X12_draw 140 rfl) ?_
                            have g57 : -9223372036854775808 ≤ (mm_vlsub x59_5 1) ∧ (mm_vlsub x59_5 1) < 9223372036854775808 := mm_rng64 _
                            obtain ⟨y57, ey57⟩ : ∃ z, z = (mm_vlsub x59_5 1) := ⟨_, rfl⟩
                            rw [← ey57] at g57 ⊢
                            skip
                            refine mm_aload_n C (mm_dec dk_X12_draw 141 rfl) rfl ?_
                            refine mm_iconst C (mm_dec dk_X12_draw 142 rfl) ⟨by decide, by decide⟩ ?_
                            refine mm_cVi (rest := [mL y57, mL p4]) C1 ev_X12_460 (mm_dec dk_X12_draw 143 rfl) (c_X12_paramOf_q x.2.1 hl (d - 1) (by omega) h169_ i169_ 1 ⟨by omega, by omega⟩) rfl rfl (Nat.le_of_ble_eq_true rfl) ⟨by decide, by decide⟩ rfl (fun r259 h259c hp259 => ?_) (fun _ _ q => q.elim)
                            obtain ⟨b259, z259, y259_0⟩ := hp259
                            rw [z259]
                            refine mm_i2l C (mm_dec dk_X12_draw 144 rfl) ?_
                            refine mm_lmul C (mm_dec dk_X12_draw 145 rfl) ?_
                            have g59 : -9223372036854775808 ≤ (mm_vlmul y57 r259) ∧ (mm_vlmul y57 r259) < 9223372036854775808 := mm_rng64 _
                            obtain ⟨y59, ey59⟩ : ∃ z, z = (mm_vlmul y57 r259) := ⟨_, rfl⟩
                            rw [← ey59] at g59 ⊢
                            skip
                            refine mm_ladd C (mm_dec dk_X12_draw 146 rfl) ?_
                            have g60 : -9223372036854775808 ≤ (mm_vladd p4 y59) ∧ (mm_vladd p4 y59) < 9223372036854775808 := mm_rng64 _
                            obtain ⟨y60, ey60⟩ : ∃ z, z = (mm_vladd p4 y59) := ⟨_, rfl⟩
                            rw [← ey60] at g60 ⊢
                            skip
                            have zga : 0 ≤ mm_pr h 1 → mm_pr h 1 ≤ 99999 → y60 = p4 + (x59_5 - 1) * mm_pr h 1 := fun a b => by rw [ey60, ey59, ey57, mm_lsub_id ⟨by omega, by omega⟩ ⟨by omega, by omega⟩, show r259 = mm_pr h 1 by rw [← zpr]; exact y259_0]; have zm := mm_mulb (n := x59_5) (g := mm_pr h 1) ⟨by omega, by omega⟩ ⟨a, b⟩; rw [mm_lmul_id ⟨by omega, by omega⟩ ⟨by omega, by omega⟩ ⟨by omega, by omega⟩]; exact mm_ladd_id ⟨by omega, by omega⟩ ⟨by omega, by omega⟩
                            have zgb : mm_hq9 (0 ≤ mm_pr h 1 → mm_pr h 1 ≤ 99999 → y60 = p4 + (x59_5 - 1) * mm_pr h 1) := zga
                            clear zga
                            refine mm_ldc2 (z := 99999) C (mm_dec dk_X12_draw 147 rfl) kc_X12_521 (by decide) ?_
                            have J269 : ∀ (s269_0 : Int) (bs269_0 : -1 ≤ s269_0 ∧ s269_0 ≤ 1) (w269_0 : mm_hq9 ((s269_0 = 1 ∧ 99999 < y60) ∨ (s269_0 ≤ 0 ∧ y60 ≤ 99999))) (vs269_0 : (y60 < 99999 ∧ s269_0 = -1) ∨ (y60 = 99999 ∧ s269_0 = 0) ∨ (99999 < y60 ∧ s269_0 = 1)), mm_W x 0 0 269 [mR 66, mU, mU, mU, mI p4, mI x59_5, mU, mU, mU, mU, mU] [mI s269_0] h169_ := by
                              intro s269_0 bs269_0 w269_0 vs269_0
                              have g61 : 0 ≤ h169_.1 66 40 ∧ h169_.1 66 40 ≤ 500 := i169_.1 66 40
                              have g62 : 0 ≤ h169_.1 66 41 ∧ h169_.1 66 41 ≤ 99999 := i169_.1 66 41
                              have g63 : 0 ≤ h169_.1 66 23 ∧ h169_.1 66 23 ≤ 40 := i169_.1 66 23
                              have g64 : -2147483648 ≤ h169_.1 66 0 ∧ h169_.1 66 0 ≤ 2147483647 := i169_.1 66 0
                              have g65 : 0 ≤ h169_.1 66 22 ∧ h169_.1 66 22 ≤ 8 := i169_.1 66 22
                              refine mm_if_gt (tgt := 285) C (mm_dec dk_X12_draw 149 rfl) (by decide) (fun c269 => ?_) (fun c269 => ?_)
                              · skip
                                refine mm_fgt 0 ?_
                                refine mm_fgt 4 ?_
                                refine mm_fgt 5 ?_
                                exact J285 (by first | exact fun _ _ => Or.inl (by have z9 := c282; omega) | exact fun a b => Or.inr (Or.inl (by rw [← zgb a b]; have z9 := c269; have z8 := mm_hq9x w269_0; omega)) | exact fun _ _ => Or.inr (Or.inr ((mm_hq9x zCN).resolve_left (fun z => absurd (z.symm.trans c246) (by decide)))))
                              · skip
                                refine mm_aload_n C (mm_dec dk_X12_draw 150 rfl) rfl ?_
                                refine mm_geti C fl_X12_228 (mm_dec dk_X12_draw 151 rfl) rfl rfl (Or.inl rfl) ?_
                                refine mm_iload C (mm_dec dk_X12_draw 152 rfl) rfl ?_
                                refine mm_iadd C (mm_dec dk_X12_draw 153 rfl) ⟨by omega, by omega⟩ ?_
                                refine mm_sipush C (mm_dec dk_X12_draw 154 rfl) ⟨by decide, by decide⟩ ?_
                                refine mm_icmp_le (tgt := 287) C (mm_dec dk_X12_draw 155 rfl) (by decide) (fun c282 => ?_) (fun c282 => ?_)
                                · skip
                                  refine mm_iconst C (mm_dec dk_X12_draw 158 rfl) ⟨by decide, by decide⟩ ?_
                                  refine mm_istoreL (ls2 := [mR 66, mU, mU, mU, mI p4, mI x59_5, mU, mU, mI (-1), mU, mU]) C (mm_dec dk_X12_draw 159 rfl) (by decide) rfl ?_
                                  refine mm_iconst C (mm_dec dk_X12_draw 160 rfl) ⟨by decide, by decide⟩ ?_
                                  have J293 : ∀ (n : Nat) (x293_8 : Int) (bx293_8 : -1 ≤ x293_8 ∧ x293_8 ≤ 9) (x293_9 : Int) (bx293_9 : 0 ≤ x293_9 ∧ x293_9 ≤ 40) (h293_ : mH) (i293_ : mm_inv h293_) (f293_ : mm_fr [(66, 0), (66, 40)] [92, 93, 94, 95, 96, 97, 117, 118, 119] h h293_) (w293_0 : mm_dw h293_ x59_5 (x59_5 - x293_9)) (w293_1 : mm_fo1 h293_ x293_8 (x59_5 - x293_9) 10) (w293_2 : h293_.1 66 40 + x59_5 - x293_9 ≤ 500) (w293_3 : x293_9 ≤ x59_5) (w293_4 : mm_bt9 h169_ h293_ x59_5 x293_9 x293_8) (w293_5 : h293_.1 66 40 = h.1 66 40 + x293_9) (w293_6 : ∀ j, h293_.2.1 117 j = h169_.2.1 117 j) (w293_7 : mm_tp h h293_ 92 (h.1 66 40) (h.1 66 40 + x293_9) (fun _ => 0)) (w293_8 : mm_tp h h293_ 96 (h.1 66 40) (h.1 66 40 + x293_9) (fun _ => h.1 66 41)) (w293_9 : mm_tp h h293_ 97 (h.1 66 40) (h.1 66 40 + x293_9) (fun _ => -1)) (w293_10 : h293_.1 66 0 = 0) (w293_11 : mm_tp h h293_ 94 (h.1 66 40) (h.1 66 40 + x293_9) (fun _ => 0)) (w293_12 : mm_tp h h293_ 95 (h.1 66 40) (h.1 66 40 + x293_9) (fun j => mm_w (p4 + mm_w ((j - h.1 66 40) * mm_pr h 1)))), (40 - x293_9 : Int) < n → mm_W x 0 0 293 [mR 66, mU, mU, mU, mI p4, mI x59_5, mU, mU, mI x293_8, mI x293_9, mU] [] h293_ := by
                                    intro n
                                    induction n with
                                    | zero =>
                                      intro x293_8 bx293_8 x293_9 bx293_9 h293_ i293_ f293_ w293_0 w293_1 w293_2 w293_3 w293_4 w293_5 w293_6 w293_7 w293_8 w293_9 w293_10 w293_11 w293_12 hm
                                      have g66 : 0 ≤ h293_.1 66 40 ∧ h293_.1 66 40 ≤ 500 := i293_.1 66 40
                                      have g67 : 0 ≤ h293_.1 66 41 ∧ h293_.1 66 41 ≤ 99999 := i293_.1 66 41
                                      have g68 : 0 ≤ h293_.1 66 23 ∧ h293_.1 66 23 ≤ 40 := i293_.1 66 23
                                      have g69 : -2147483648 ≤ h293_.1 66 0 ∧ h293_.1 66 0 ≤ 2147483647 := i293_.1 66 0
                                      have g70 : 0 ≤ h293_.1 66 22 ∧ h293_.1 66 22 ≤ 8 := i293_.1 66 22
                                      exfalso; omega
                                    | succ n ih293 =>
                                      intro x293_8 bx293_8 x293_9 bx293_9 h293_ i293_ f293_ w293_0 w293_1 w293_2 w293_3 w293_4 w293_5 w293_6 w293_7 w293_8 w293_9 w293_10 w293_11 w293_12 hm293
                                      have g71 : 0 ≤ h293_.1 66 40 ∧ h293_.1 66 40 ≤ 500 := i293_.1 66 40
                                      have g72 : 0 ≤ h293_.1 66 41 ∧ h293_.1 66 41 ≤ 99999 := i293_.1 66 41
                                      have g73 : 0 ≤ h293_.1 66 23 ∧ h293_.1 66 23 ≤ 40 := i293_.1 66 23
                                      have g74 : -2147483648 ≤ h293_.1 66 0 ∧ h293_.1 66 0 ≤ 2147483647 := i293_.1 66 0
                                      have g75 : 0 ≤ h293_.1 66 22 ∧ h293_.1 66 22 ≤ 8 := i293_.1 66 22
                                      have g76 : h293_.1 66 41 = h.1 66 41 := f293_.1 66 41 (by decide)
                                      have g77 : h293_.1 66 23 = h.1 66 23 := f293_.1 66 23 (by decide)
                                      have g78 : h293_.1 66 22 = h.1 66 22 := f293_.1 66 22 (by decide)
                                      clear y243_0 y243_1
                                      refine mm_iload C (mm_dec dk_X12_draw 162 rfl) rfl ?_
                                      refine mm_iload C (mm_dec dk_X12_draw 163 rfl) rfl ?_
                                      refine mm_icmp_ge (tgt := 394) C (mm_dec dk_X12_draw 164 rfl) (by decide) (fun c297 => ?_) (fun c297 => ?_)
                                      · skip
                                        refine mm_iload C (mm_dec dk_X12_draw 219 rfl) rfl ?_
                                        exact mm_iret C T (mm_dec dk_X12_draw 220 rfl) (by decide : 0 ≤ 0) (by decide : 0 ≤ 0) ⟨_, rfl, ⟨⟨by omega, by omega⟩, i293_, f293_, by first | exact Or.inr ⟨zbad.1, zbad.2.2, rfl, (mm_ke9_fr mm_ke9_rf g2c (by decide))⟩ | exact Or.inl ⟨zgood.1, zgood.2.1, by omega, by omega⟩, by first | exact fun q => absurd (zbad.2.2.symm.trans q) (by decide) | exact fun _ _ _ => mm_dy9_out w27_0 (mm_ke9_fr mm_ke9_rf g2c (by decide)) | exact fun _ a b => mm_dy9_no zG9 w59_5 (by omega) (by omega) (w285_0 a b) w169_2 | exact fun _ a b => mm_dy9_ok zG9 w59_5 zb6 zE9 w169_4 ze169 w293_4 (by omega) (by omega) (by omega) (by omega) (by omega) (by rw [← zgb a b]; have z8 := mm_hq9x w269_0; omega) (by intro c x y; rw [w169_4]; exact ((mm_hq9x zCF).resolve_left (by omega)) c x y) w169_2.2.1 (by rw [show x59_5 = x293_9 by omega]; exact w293_7) (by rw [show x59_5 = x293_9 by omega]; exact w293_8) (by rw [show x59_5 = x293_9 by omega]; exact w293_9), by first | exact fun q => absurd (zbad.2.2.symm.trans q) (by decide) | exact fun _ => mm_dy8_no (fun j => g2c.2 94 (by decide) j) (fun j => g2c.2 95 (by decide) j) | exact fun _ => mm_dy8_no w169_7 w169_8 | exact fun _ => (by rw [show x59_5 = x293_9 by omega]; exact ⟨w293_11, w293_12⟩), by first | exact fun _ => ⟨fun j => g2c.2 94 (by decide) j, fun j => g2c.2 95 (by decide) j⟩ | exact fun q => absurd (by omega) q⟩⟩
                                      · skip
                                        obtain ⟨zk0, zk1, zk2, zk3⟩ := mm_ex_next w293_0 w293_1 (by omega)
                                        refine mm_iconst C (mm_dec dk_X12_draw 165 rfl) ⟨by decide, by decide⟩ ?_
                                        have J303 : ∀ (n : Nat) (x303_10 : Int) (bx303_10 : 0 ≤ x303_10 ∧ x303_10 ≤ 39) (h303_ : mH) (i303_ : mm_inv h303_) (f303_ : mm_fr [(66, 0), (66, 40)] [92, 93, 94, 95, 96, 97, 117, 118, 119] h h303_) (w303_0 : mm_dw h303_ x59_5 (x59_5 - x293_9)) (w303_1 : ∃ k, x303_10 ≤ k ∧ k < x59_5 ∧ mm_nxt h303_ k x293_8 (x59_5 - x293_9)) (w303_2 : h303_.1 66 40 + x59_5 - x293_9 ≤ 500) (w303_3 : mm_bt9 h169_ h303_ x59_5 x293_9 x293_8) (w303_4 : h303_.1 66 40 = h.1 66 40 + x293_9) (w303_5 : ∀ j, h303_.2.1 117 j = h169_.2.1 117 j) (w303_6 : mm_tp h h303_ 92 (h.1 66 40) (h.1 66 40 + x293_9) (fun _ => 0)) (w303_7 : mm_tp h h303_ 96 (h.1 66 40) (h.1 66 40 + x293_9) (fun _ => h.1 66 41)) (w303_8 : mm_tp h h303_ 97 (h.1 66 40) (h.1 66 40 + x293_9) (fun _ => -1)) (w303_9 : h303_.1 66 0 = 0) (w303_10 : ∀ j, 0 ≤ j → j < x303_10 → ¬ mm_nxt h303_ j x293_8 (x59_5 - x293_9)) (w303_11 : mm_tp h h303_ 94 (h.1 66 40) (h.1 66 40 + x293_9) (fun _ => 0)) (w303_12 : mm_tp h h303_ 95 (h.1 66 40) (h.1 66 40 + x293_9) (fun j => mm_w (p4 + mm_w ((j - h.1 66 40) * mm_pr h 1)))), (39 - x303_10 : Int) < n → mm_W x 0 0 303 [mR 66, mU, mU, mU, mI p4, mI x59_5, mU, mU, mI x293_8, mI x293_9, mI x303_10] [] h303_ := by
                                          intro n
                                          induction n with
                                          | zero =>
                                            intro x303_10 bx303_10 h303_ i303_ f303_ w303_0 w303_1 w303_2 w303_3 w303_4 w303_5 w303_6 w303_7 w303_8 w303_9 w303_10 w303_11 w303_12 hm
                                            have g79 : 0 ≤ h303_.1 66 40 ∧ h303_.1 66 40 ≤ 500 := i303_.1 66 40
                                            have g80 : 0 ≤ h303_.1 66 41 ∧ h303_.1 66 41 ≤ 99999 := i303_.1 66 41
                                            have g81 : 0 ≤ h303_.1 66 23 ∧ h303_.1 66 23 ≤ 40 := i303_.1 66 23
                                            have g82 : -2147483648 ≤ h303_.1 66 0 ∧ h303_.1 66 0 ≤ 2147483647 := i303_.1 66 0
                                            have g83 : 0 ≤ h303_.1 66 22 ∧ h303_.1 66 22 ≤ 8 := i303_.1 66 22
                                            exfalso; omega
                                          | succ n ih303 =>
                                            intro x303_10 bx303_10 h303_ i303_ f303_ w303_0 w303_1 w303_2 w303_3 w303_4 w303_5 w303_6 w303_7 w303_8 w303_9 w303_10 w303_11 w303_12 hm303
                                            have g84 : 0 ≤ h303_.1 66 40 ∧ h303_.1 66 40 ≤ 500 := i303_.1 66 40
                                            have g85 : 0 ≤ h303_.1 66 41 ∧ h303_.1 66 41 ≤ 99999 := i303_.1 66 41
                                            have g86 : 0 ≤ h303_.1 66 23 ∧ h303_.1 66 23 ≤ 40 := i303_.1 66 23
                                            have g87 : -2147483648 ≤ h303_.1 66 0 ∧ h303_.1 66 0 ≤ 2147483647 := i303_.1 66 0
                                            have g88 : 0 ≤ h303_.1 66 22 ∧ h303_.1 66 22 ≤ 8 := i303_.1 66 22
                                            have g89 : h303_.1 66 41 = h.1 66 41 := f303_.1 66 41 (by decide)
                                            have g90 : h303_.1 66 23 = h.1 66 23 := f303_.1 66 23 (by decide)
                                            have g91 : h303_.1 66 22 = h.1 66 22 := f303_.1 66 22 (by decide)
                                            obtain ⟨ze, ze1, ze2, ze3⟩ := w303_1
                                            refine mm_aload_n C (mm_dec dk_X12_draw 167 rfl) rfl ?_
                                            refine mm_iload C (mm_dec dk_X12_draw 168 rfl) rfl ?_
                                            refine mm_iload C (mm_dec dk_X12_draw 169 rfl) rfl ?_
                                            refine mm_iload C (mm_dec dk_X12_draw 170 rfl) rfl ?_
                                            refine mm_iload C (mm_dec dk_X12_draw 171 rfl) rfl ?_
                                            refine mm_isub C (mm_dec dk_X12_draw 172 rfl) ⟨by omega, by omega⟩ ?_
                                            refine mm_cVi (rest := []) C1 ev_X12_523 (mm_dec dk_X12_draw 173 rfl) (c_X12_isNext_x x.2.1 hl (d - 1) (by omega) h303_ i303_ x303_10 x293_8 (x59_5 - x293_9) ⟨by omega, by omega⟩ ⟨by omega, by omega⟩ (by exact mm_dw_rg w303_0)) rfl rfl (Nat.le_of_ble_eq_true rfl) ⟨by decide, by decide⟩ rfl (fun r313 h313c hp313 => ?_) (fun _ _ q => q.elim)
                                            obtain ⟨b313, i313c, g313c, y313_0, y313_1, y313_2⟩ := hp313
                                            have f313c : mm_fr [(66, 0), (66, 40)] [92, 93, 94, 95, 96, 97, 117, 118, 119] h h313c := mm_fr_tr f303_ g313c (by decide +kernel)
                                            have q313c_93 : h313c.1 66 0 = h303_.1 66 0 := g313c.1 66 0 (by decide)
                                            have q313c_94 : h313c.1 66 22 = h303_.1 66 22 := g313c.1 66 22 (by decide)
                                            have q313c_95 : h313c.1 66 23 = h303_.1 66 23 := g313c.1 66 23 (by decide)
                                            have q313c_96 : h313c.1 66 40 = h303_.1 66 40 := g313c.1 66 40 (by decide)
                                            have q313c_97 : h313c.1 66 41 = h303_.1 66 41 := g313c.1 66 41 (by decide)
                                            have zw := mm_dw_fr w303_0 g313c (by decide) y313_0
                                            have zx := mm_nxt_eq ze3 g313c (by decide) y313_0
                                            have zu6 : ∀ j, 0 ≤ h303_.2.1 86 j := fun j => (i303_.2.1 86 j).1
                                            have zNX : ∀ j, mm_nxt h313c j x293_8 (x59_5 - x293_9) ↔ mm_nxt h303_ j x293_8 (x59_5 - x293_9) := fun j => mm_nxt_cg zu6 (fun j => g313c.2 117 (by decide) j) (fun j => g313c.2 119 (by decide) j) (fun j => g313c.2 86 (by decide) j) y313_0
                                            refine mm_if_ne (tgt := 325) C (mm_dec dk_X12_draw 174 rfl) (by decide) (fun c316 => ?_) (fun c316 => ?_)
                                            · skip
                                              have zt := mm_nxt_eq (y313_1.resolve_left (by omega)) g313c (by decide) y313_0
                                              have zF : ∀ j, 0 ≤ j → j < x303_10 → ¬ mm_nxt h313c j x293_8 (x59_5 - x293_9) := fun j a b q => w303_10 j a b ((zNX j).mp q)
                                              clear y313_1 y313_2
                                              refine mm_aload_n C (mm_dec dk_X12_draw 177 rfl) rfl ?_
                                              refine mm_getr (t := 119) C fl_X12_168 (mm_dec dk_X12_draw 178 rfl) rfl rfl (mm_ref i313c rfl) ?_
                                              refine mm_aload_n C (mm_dec dk_X12_draw 179 rfl) rfl ?_
                                              refine mm_getr (t := 117) C fl_X12_162 (mm_dec dk_X12_draw 180 rfl) rfl rfl (mm_ref i313c rfl) ?_
                                              refine mm_iload C (mm_dec dk_X12_draw 181 rfl) rfl ?_
                                              refine mm_iald C (mm_dec dk_X12_draw 182 rfl) rfl (by omega) (by omega) ?_
                                              have g98 : 0 ≤ (h313c.2.1 117 x303_10) ∧ (h313c.2.1 117 x303_10) ≤ 39 := i313c.2.1 117 x303_10
                                              refine mm_iconst C (mm_dec dk_X12_draw 183 rfl) ⟨by decide, by decide⟩ ?_
                                              refine mm_zast C (mm_dec dk_X12_draw 184 rfl) rfl (by omega) (by omega) (by omega) ?_
                                              have i3 : mm_inv (mm_pa h313c 119 (h313c.2.1 117 x303_10) 1) := mm_inv_pa i313c (show 0 ≤ 1 ∧ 1 ≤ 1 from ⟨by omega, by omega⟩)
                                              have f3 : mm_fr [(66, 0), (66, 40)] [92, 93, 94, 95, 96, 97, 117, 118, 119] h (mm_pa h313c 119 (h313c.2.1 117 x303_10) 1) := mm_fr_pa f313c (by decide)
                                              obtain ⟨h3, eh3⟩ : ∃ z, z = mm_pa h313c 119 (h313c.2.1 117 x303_10) 1 := ⟨_, rfl⟩
                                              rw [← eh3] at i3 f3 ⊢
                                              have qh3_99 : h3.1 66 0 = h313c.1 66 0 := by rw [eh3]; rfl
                                              have qh3_100 : h3.1 66 22 = h313c.1 66 22 := by rw [eh3]; rfl
                                              have qh3_101 : h3.1 66 23 = h313c.1 66 23 := by rw [eh3]; rfl
                                              have qh3_102 : h3.1 66 40 = h313c.1 66 40 := by rw [eh3]; rfl
                                              have qh3_103 : h3.1 66 41 = h313c.1 66 41 := by rw [eh3]; rfl
                                              refine mm_aload_n C (mm_dec dk_X12_draw 185 rfl) rfl ?_
                                              refine mm_getr (t := 86) C fl_X12_69 (mm_dec dk_X12_draw 186 rfl) rfl rfl (mm_ref i3 rfl) ?_
                                              refine mm_aload_n C (mm_dec dk_X12_draw 187 rfl) rfl ?_
                                              refine mm_getr (t := 117) C fl_X12_162 (mm_dec dk_X12_draw 188 rfl) rfl rfl (mm_ref i3 rfl) ?_
                                              refine mm_iload C (mm_dec dk_X12_draw 189 rfl) rfl ?_
                                              refine mm_iald C (mm_dec dk_X12_draw 190 rfl) rfl (by omega) (by omega) ?_
                                              have g104 : 0 ≤ (h3.2.1 117 x303_10) ∧ (h3.2.1 117 x303_10) ≤ 39 := i3.2.1 117 x303_10
                                              refine mm_iald C (mm_dec dk_X12_draw 191 rfl) rfl (by omega) (by omega) ?_
                                              have g105 : 0 ≤ (h3.2.1 86 (h3.2.1 117 x303_10)) ∧ (h3.2.1 86 (h3.2.1 117 x303_10)) ≤ 9 := i3.2.1 86 (h3.2.1 117 x303_10)
                                              refine mm_istoreL (ls2 := [mR 66, mU, mU, mU, mI p4, mI x59_5, mU, mU, mI (h3.2.1 86 (h3.2.1 117 x303_10)), mI x293_9, mI x303_10]) C (mm_dec dk_X12_draw 192 rfl) (by decide) rfl ?_
                                              refine mm_aload_n C (mm_dec dk_X12_draw 193 rfl) rfl ?_
                                              refine mm_getr (t := 118) C fl_X12_165 (mm_dec dk_X12_draw 194 rfl) rfl rfl (mm_ref i3 rfl) ?_
                                              refine mm_iload C (mm_dec dk_X12_draw 195 rfl) rfl ?_
                                              refine mm_dup2 C (mm_dec dk_X12_draw 196 rfl) (show (0 : Nat) ≠ 1 by decide) (show (2 : Nat) ≠ 1 by decide) ?_
                                              refine mm_iald C (mm_dec dk_X12_draw 197 rfl) rfl (by omega) (by omega) ?_
                                              have g106 : -2147483648 ≤ (h3.2.1 118 (h3.2.1 86 (h3.2.1 117 x303_10))) ∧ (h3.2.1 118 (h3.2.1 86 (h3.2.1 117 x303_10))) ≤ 2147483647 := i3.2.1 118 (h3.2.1 86 (h3.2.1 117 x303_10))
                                              refine mm_iconst C (mm_dec dk_X12_draw 198 rfl) ⟨by decide, by decide⟩ ?_
                                              refine mm_isubw C (mm_dec dk_X12_draw 199 rfl) ?_
                                              have g107 : -2147483648 ≤ (mm_w ((h3.2.1 118 (h3.2.1 86 (h3.2.1 117 x303_10))) - 1)) ∧ (mm_w ((h3.2.1 118 (h3.2.1 86 (h3.2.1 117 x303_10))) - 1)) < 2147483648 := mm_w_rg _
                                              refine mm_iast C (mm_dec dk_X12_draw 200 rfl) rfl (by omega) (by omega) ?_
                                              have i4 : mm_inv (mm_pa h3 118 (h3.2.1 86 (h3.2.1 117 x303_10)) (mm_w ((h3.2.1 118 (h3.2.1 86 (h3.2.1 117 x303_10))) - 1))) := mm_inv_pa i3 (show -2147483648 ≤ (mm_w ((h3.2.1 118 (h3.2.1 86 (h3.2.1 117 x303_10))) - 1)) ∧ (mm_w ((h3.2.1 118 (h3.2.1 86 (h3.2.1 117 x303_10))) - 1)) ≤ 2147483647 from ⟨by omega, by omega⟩)
                                              have f4 : mm_fr [(66, 0), (66, 40)] [92, 93, 94, 95, 96, 97, 117, 118, 119] h (mm_pa h3 118 (h3.2.1 86 (h3.2.1 117 x303_10)) (mm_w ((h3.2.1 118 (h3.2.1 86 (h3.2.1 117 x303_10))) - 1))) := mm_fr_pa f3 (by decide)
                                              obtain ⟨h4, eh4⟩ : ∃ z, z = mm_pa h3 118 (h3.2.1 86 (h3.2.1 117 x303_10)) (mm_w ((h3.2.1 118 (h3.2.1 86 (h3.2.1 117 x303_10))) - 1)) := ⟨_, rfl⟩
                                              rw [← eh4] at i4 f4 ⊢
                                              have qh4_108 : h4.1 66 0 = h3.1 66 0 := by rw [eh4]; rfl
                                              have qh4_109 : h4.1 66 22 = h3.1 66 22 := by rw [eh4]; rfl
                                              have qh4_110 : h4.1 66 23 = h3.1 66 23 := by rw [eh4]; rfl
                                              have qh4_111 : h4.1 66 40 = h3.1 66 40 := by rw [eh4]; rfl
                                              have qh4_112 : h4.1 66 41 = h3.1 66 41 := by rw [eh4]; rfl
                                              have zq : h3.2.1 86 (h3.2.1 117 x303_10) = h313c.2.1 86 (h313c.2.1 117 x303_10) := by rw [eh3, mm_pa_o 86 119 (by decide), mm_pa_o 117 119 (by decide)]
                                              have zg : (0 : Int) ≤ h3.2.1 86 (h3.2.1 117 x303_10) ∧ h3.2.1 86 (h3.2.1 117 x303_10) ≤ 9 := i3.2.1 86 _
                                              have zr := mm_dw_rg zw (h3.2.1 86 (h3.2.1 117 x303_10)) (by omega) (by omega)
                                              have zs : ∀ c, h3.2.1 118 c = h313c.2.1 118 c := fun c => by rw [eh3, mm_pa_o 118 119 (by decide)]
                                              have zT := mm_dw_take (h2 := h4) i313c zw ⟨by omega, by omega⟩ zt eh3 zq (by rw [eh4, zs, mm_w_id ⟨by omega, by omega⟩])
                                              have zv9 : mm_w (h3.2.1 118 (h3.2.1 86 (h3.2.1 117 x303_10)) - 1) = h313c.2.1 118 (h3.2.1 86 (h3.2.1 117 x303_10)) - 1 := by rw [zs]; exact mm_w_id ⟨by omega, by omega⟩
                                              refine mm_aload_n C (mm_dec dk_X12_draw 201 rfl) rfl ?_
                                              refine mm_iconst C (mm_dec dk_X12_draw 202 rfl) ⟨by decide, by decide⟩ ?_
                                              refine mm_aload_n C (mm_dec dk_X12_draw 203 rfl) rfl ?_
                                              refine mm_getr (t := 117) C fl_X12_162 (mm_dec dk_X12_draw 204 rfl) rfl rfl (mm_ref i4 rfl) ?_
                                              refine mm_iload C (mm_dec dk_X12_draw 205 rfl) rfl ?_
                                              refine mm_iald C (mm_dec dk_X12_draw 206 rfl) rfl (by omega) (by omega) ?_
                                              have g113 : 0 ≤ (h4.2.1 117 x303_10) ∧ (h4.2.1 117 x303_10) ≤ 39 := i4.2.1 117 x303_10
                                              refine mm_iconst C (mm_dec dk_X12_draw 207 rfl) ⟨by decide, by decide⟩ ?_
                                              refine mm_iload C (mm_dec dk_X12_draw 208 rfl) rfl ?_
                                              refine mm_iload C (mm_dec dk_X12_draw 209 rfl) rfl ?_
                                              refine mm_aload_n C (mm_dec dk_X12_draw 210 rfl) rfl ?_
                                              refine mm_iconst C (mm_dec dk_X12_draw 211 rfl) ⟨by decide, by decide⟩ ?_
                                              refine mm_cVi (rest := [mI x293_9, mI p4, mI 0, mI (h4.2.1 117 x303_10), mI 0, mR 66]) C1 ev_X12_460 (mm_dec dk_X12_draw 212 rfl) (c_X12_paramOf_q x.2.1 hl (d - 1) (by omega) h4 i4 1 ⟨by omega, by omega⟩) rfl rfl (Nat.le_of_ble_eq_true rfl) ⟨by decide, by decide⟩ rfl (fun r379 h379c hp379 => ?_) (fun _ _ q => q.elim)
                                              obtain ⟨b379, z379, y379_0⟩ := hp379
                                              rw [z379]
                                              have zg8 : r379 = mm_pr h 1 := y379_0.trans (mm_pr_sm (fun j => (mm_sm_pa 102 eh4 (by decide) j).trans ((mm_sm_pa 102 eh3 (by decide) j).trans ((g313c.2 102 (by decide) j).trans (f303_.2 102 (by decide) j)))) (by rw [eh4, eh3]; exact (g313c.1 66 67 (by decide)).trans (f303_.1 66 67 (by decide))) (by rw [eh4, eh3]; exact (g313c.1 66 68 (by decide)).trans (f303_.1 66 68 (by decide))))
                                              refine mm_imulw C (mm_dec dk_X12_draw 213 rfl) ?_
                                              have g115 : -2147483648 ≤ (mm_w (x293_9 * r379)) ∧ (mm_w (x293_9 * r379)) < 2147483648 := mm_w_rg _
                                              refine mm_iaddw C (mm_dec dk_X12_draw 214 rfl) ?_
                                              have g116 : -2147483648 ≤ (mm_w (p4 + (mm_w (x293_9 * r379)))) ∧ (mm_w (p4 + (mm_w (x293_9 * r379)))) < 2147483648 := mm_w_rg _
                                              refine mm_cVi (rest := []) C1 ev_X12_315 (mm_dec dk_X12_draw 215 rfl) (c_X12_tells_q x.2.1 hl (d - 1) (by omega) h4 i4 0 (h4.2.1 117 x303_10) 0 (mm_w (p4 + (mm_w (x293_9 * r379)))) ⟨by omega, by omega⟩ (by omega)) rfl rfl (Nat.le_of_ble_eq_true rfl) ⟨by decide, by decide⟩ rfl (fun r384 h384c hp384 => ?_) (fun _ _ q => q.elim)
                                              obtain ⟨b384, i384c, g384c, y384_0, y384_1, y384_2, y384_3, y384_4, y384_5, y384_6, y384_7⟩ := hp384
                                              have f384c : mm_fr [(66, 0), (66, 40)] [92, 93, 94, 95, 96, 97, 117, 118, 119] h h384c := mm_fr_tr f4 g384c (by decide +kernel)
                                              have q384c_118 : h384c.1 66 0 = h4.1 66 0 := g384c.1 66 0 (by decide)
                                              have q384c_119 : h384c.1 66 22 = h4.1 66 22 := g384c.1 66 22 (by decide)
                                              have q384c_120 : h384c.1 66 23 = h4.1 66 23 := g384c.1 66 23 (by decide)
                                              have q384c_121 : h384c.1 66 41 = h4.1 66 41 := g384c.1 66 41 (by decide)
                                              have g122 : 0 ≤ (h384c.1 66 40) ∧ (h384c.1 66 40) ≤ 500 := i384c.1 66 40
                                              refine mm_pop C (mm_dec dk_X12_draw 216 rfl) (show (0 : Nat) ≠ 1 by decide) ?_
                                              have zU := mm_dw_fr zT.1 g384c (by decide) (fun c => g384c.2 118 (by decide) c)
                                              have zV := mm_fo1_eq (fun c => g384c.2 118 (by decide) c) zT.2
                                              refine mm_iincL (ls2 := [mR 66, mU, mU, mU, mI p4, mI x59_5, mU, mU, mI (h3.2.1 86 (h3.2.1 117 x303_10)), mI (x293_9 + 1), mI x303_10]) C (mm_dec dk_X12_draw 217 rfl) rfl (by decide) ⟨by omega, by omega⟩ rfl ?_
                                              refine mm_goto (tgt := 293) C (mm_dec dk_X12_draw 218 rfl) (by decide) ?_
                                              refine mm_fgt 10 ?_
                                              exact ih293 (h3.2.1 86 (h3.2.1 117 x303_10)) ⟨by omega, by omega⟩ (x293_9 + 1) ⟨by omega, by omega⟩ h384c i384c f384c (by first | (rw [show x59_5 - (x293_9 + 1) = x59_5 - x293_9 - 1 by omega]; exact zU) | (rw [show x59_5 - 0 = x59_5 by omega]; exact w169_0)) (by first | (rw [show x59_5 - (x293_9 + 1) = x59_5 - x293_9 - 1 by omega]; exact zV) | (rw [show x59_5 - 0 = x59_5 by omega]; exact y243_0.resolve_left (by omega))) (by omega) (by omega) (by first | exact mm_bt9_0 z119 | exact mm_bt9_s (mm_bt9_sm w303_3 (fun j => g313c.2 119 (by decide) j) y313_0 (fun j => g313c.2 93 (by decide) j)) (fun j => (g313c.2 117 (by decide) j).trans (w303_5 j)) (fun j => (g313c.2 86 (by decide) j).trans ((f303_.2 86 (by decide) j).trans (zb6 j).symm)) zJ (fun j => i169_.2.1 86 j) (by omega) (by omega) (by omega) zt zF eh3 zq eh4 zv9 (by omega) (mm_up_cg y384_3 (by rw [eh4, eh3]; rfl) (by rw [eh4, mm_pa_o 117 118 (by decide), eh3, mm_pa_o 117 119 (by decide)])) (g384c.2 119 (by decide)) (g384c.2 118 (by decide))) (by omega) (by first | exact fun _ => rfl | exact fun j => (g384c.2 117 (by decide) j).trans ((mm_sm_pa 117 eh4 (by decide) j).trans ((mm_sm_pa 117 eh3 (by decide) j).trans ((fun j => (g313c.2 117 (by decide) j).trans (w303_5 j)) j)))) (by first | exact w303_6 | exact mm_tp_0 (w169_2.1) (by omega) | exact mm_tp_u (mm_tp_tr (fun _ => rfl) w303_6 (fun j => (mm_sm_pa 92 eh4 (by decide) j).trans ((mm_sm_pa 92 eh3 (by decide) j).trans (g313c.2 92 (by decide) j)))) y384_2 (by rw [eh4, eh3]; show h313c.1 66 40 = _; omega) (by omega) rfl (by omega)) (by first | exact w303_7 | exact mm_tp_0 (w169_2.2.2.1) (by omega) | exact mm_tp_u (mm_tp_tr (fun _ => rfl) w303_7 (fun j => (mm_sm_pa 96 eh4 (by decide) j).trans ((mm_sm_pa 96 eh3 (by decide) j).trans (g313c.2 96 (by decide) j)))) y384_4 (by rw [eh4, eh3]; show h313c.1 66 40 = _; omega) (by omega) (by rw [eh4, eh3]; exact (g313c.1 66 41 (by decide)).trans (f303_.1 66 41 (by decide))) (by omega)) (by first | exact w303_8 | exact mm_tp_0 (w169_2.2.2.2.1) (by omega) | exact mm_tp_u (mm_tp_tr (fun _ => rfl) w303_8 (fun j => (mm_sm_pa 97 eh4 (by decide) j).trans ((mm_sm_pa 97 eh3 (by decide) j).trans (g313c.2 97 (by decide) j)))) y384_5 (by rw [eh4, eh3]; show h313c.1 66 40 = _; omega) (by omega) rfl (by omega)) (by omega) (by first | exact w303_11 | exact mm_tp_0 w169_7 (by omega) | exact mm_tp_u (mm_tp_tr (fun _ => rfl) w303_11 (fun j => (mm_sm_pa 94 eh4 (by decide) j).trans ((mm_sm_pa 94 eh3 (by decide) j).trans (g313c.2 94 (by decide) j)))) y384_6 (by rw [eh4, eh3]; show h313c.1 66 40 = _; omega) (by omega) rfl (by omega)) (by first | exact w303_12 | exact mm_tp_0 w169_8 (by omega) | exact mm_tp_u (mm_tp_tr (fun _ => rfl) w303_12 (fun j => (mm_sm_pa 95 eh4 (by decide) j).trans ((mm_sm_pa 95 eh3 (by decide) j).trans (g313c.2 95 (by decide) j)))) y384_7 (by rw [eh4, eh3]; show h313c.1 66 40 = _; omega) (by omega) (by show _ = mm_w (p4 + mm_w ((h.1 66 40 + x293_9 - h.1 66 40) * mm_pr h 1)); rw [show h.1 66 40 + x293_9 - h.1 66 40 = x293_9 by omega, zg8]) (by omega)) (by omega)
                                            · skip
                                              have zn : ze ≠ x303_10 := fun q => (y313_2.resolve_left (by omega)) (by rw [← q]; exact ze3)
                                              have zy2 : mm_hq9 (r313 = 1 ∨ ¬ mm_nxt h303_ x303_10 x293_8 (x59_5 - x293_9)) := y313_2
                                              clear y313_1 y313_2
                                              refine mm_iincL (ls2 := [mR 66, mU, mU, mU, mI p4, mI x59_5, mU, mU, mI x293_8, mI x293_9, mI (x303_10 + 1)]) C (mm_dec dk_X12_draw 175 rfl) rfl (by decide) ⟨by omega, by omega⟩ rfl ?_
                                              refine mm_goto (tgt := 303) C (mm_dec dk_X12_draw 176 rfl) (by decide) ?_
                                              exact ih303 (x303_10 + 1) ⟨by omega, by omega⟩ h313c i313c f313c (by first | exact zw | exact w293_0) (by first | exact ⟨ze, by omega, ze2, zx⟩ | exact ⟨zk0, zk1, zk2, zk3⟩) (by omega) (by first | exact w293_4 | exact mm_bt9_sm w303_3 (fun j => g313c.2 119 (by decide) j) y313_0 (fun j => g313c.2 93 (by decide) j)) (by omega) (by first | exact w293_6 | exact (fun j => (g313c.2 117 (by decide) j).trans (w303_5 j))) (by first | exact w293_7 | exact mm_tp_tr (fun _ => rfl) w303_6 (fun j => g313c.2 92 (by decide) j)) (by first | exact w293_8 | exact mm_tp_tr (fun _ => rfl) w303_7 (fun j => g313c.2 96 (by decide) j)) (by first | exact w293_9 | exact mm_tp_tr (fun _ => rfl) w303_8 (fun j => g313c.2 97 (by decide) j)) (by omega) (by first | exact fun j a b q => (by by_cases w : j = x303_10; (rw [w] at q; exact ((mm_hq9x zy2).resolve_left (fun z => absurd (z.symm.trans c316) (by decide))) ((zNX x303_10).mp q)); exact w303_10 j a (by omega) ((zNX j).mp q)) | exact fun j a b => absurd b (by omega)) (by first | exact w293_11 | exact mm_tp_tr (fun _ => rfl) w303_11 (fun j => g313c.2 94 (by decide) j)) (by first | exact w293_12 | exact mm_tp_tr (fun _ => rfl) w303_12 (fun j => g313c.2 95 (by decide) j)) (by omega)
                                        refine mm_istoreL (ls2 := [mR 66, mU, mU, mU, mI p4, mI x59_5, mU, mU, mI x293_8, mI x293_9, mI 0]) C (mm_dec dk_X12_draw 166 rfl) (by decide) rfl ?_
                                        exact J303 (((39 - 0) : Int) + 1).toNat 0 ⟨by omega, by omega⟩ h293_ i293_ f293_ (by first | exact zw | exact w293_0) (by first | exact ⟨ze, by omega, ze2, zx⟩ | exact ⟨zk0, zk1, zk2, zk3⟩) (by omega) (by first | exact w293_4 | exact mm_bt9_sm w303_3 (fun j => g313c.2 119 (by decide) j) y313_0 (fun j => g313c.2 93 (by decide) j)) (by omega) (by first | exact w293_6 | exact (fun j => (g313c.2 117 (by decide) j).trans (w303_5 j))) (by first | exact w293_7 | exact mm_tp_tr (fun _ => rfl) w303_6 (fun j => g313c.2 92 (by decide) j)) (by first | exact w293_8 | exact mm_tp_tr (fun _ => rfl) w303_7 (fun j => g313c.2 96 (by decide) j)) (by first | exact w293_9 | exact mm_tp_tr (fun _ => rfl) w303_8 (fun j => g313c.2 97 (by decide) j)) (by omega) (by first | exact fun j a b q => (by by_cases w : j = x303_10; (rw [w] at q; exact ((mm_hq9x zy2).resolve_left (fun z => absurd (z.symm.trans c316) (by decide))) ((zNX x303_10).mp q)); exact w303_10 j a (by omega) ((zNX j).mp q)) | exact fun j a b => absurd b (by omega)) (by first | exact w293_11 | exact mm_tp_tr (fun _ => rfl) w303_11 (fun j => g313c.2 94 (by decide) j)) (by first | exact w293_12 | exact mm_tp_tr (fun _ => rfl) w303_12 (fun j => g313c.2 95 (by decide) j)) (by omega)
                                  refine mm_istoreL (ls2 := [mR 66, mU, mU, mU, mI p4, mI x59_5, mU, mU, mI (-1), mI 0, mU]) C (mm_dec dk_X12_draw 161 rfl) (by decide) rfl ?_
                                  exact J293 (((40 - 0) : Int) + 1).toNat (-1) ⟨by omega, by omega⟩ 0 ⟨by omega, by omega⟩ h169_ i169_ f169_ (by first | (rw [show x59_5 - (x293_9 + 1) = x59_5 - x293_9 - 1 by omega]; exact zU) | (rw [show x59_5 - 0 = x59_5 by omega]; exact w169_0)) (by first | (rw [show x59_5 - (x293_9 + 1) = x59_5 - x293_9 - 1 by omega]; exact zV) | (rw [show x59_5 - 0 = x59_5 by omega]; exact y243_0.resolve_left (by omega))) (by omega) (by omega) (by first | exact mm_bt9_0 z119 | exact mm_bt9_s (mm_bt9_sm w303_3 (fun j => g313c.2 119 (by decide) j) y313_0 (fun j => g313c.2 93 (by decide) j)) (fun j => (g313c.2 117 (by decide) j).trans (w303_5 j)) (fun j => (g313c.2 86 (by decide) j).trans ((f303_.2 86 (by decide) j).trans (zb6 j).symm)) zJ (fun j => i169_.2.1 86 j) (by omega) (by omega) (by omega) zt zF eh3 zq eh4 zv9 (by omega) (mm_up_cg y384_3 (by rw [eh4, eh3]; rfl) (by rw [eh4, mm_pa_o 117 118 (by decide), eh3, mm_pa_o 117 119 (by decide)])) (g384c.2 119 (by decide)) (g384c.2 118 (by decide))) (by omega) (by first | exact fun _ => rfl | exact fun j => (g384c.2 117 (by decide) j).trans ((mm_sm_pa 117 eh4 (by decide) j).trans ((mm_sm_pa 117 eh3 (by decide) j).trans ((fun j => (g313c.2 117 (by decide) j).trans (w303_5 j)) j)))) (by first | exact w303_6 | exact mm_tp_0 (w169_2.1) (by omega) | exact mm_tp_u (mm_tp_tr (fun _ => rfl) w303_6 (fun j => (mm_sm_pa 92 eh4 (by decide) j).trans ((mm_sm_pa 92 eh3 (by decide) j).trans (g313c.2 92 (by decide) j)))) y384_2 (by rw [eh4, eh3]; show h313c.1 66 40 = _; omega) (by omega) rfl (by omega)) (by first | exact w303_7 | exact mm_tp_0 (w169_2.2.2.1) (by omega) | exact mm_tp_u (mm_tp_tr (fun _ => rfl) w303_7 (fun j => (mm_sm_pa 96 eh4 (by decide) j).trans ((mm_sm_pa 96 eh3 (by decide) j).trans (g313c.2 96 (by decide) j)))) y384_4 (by rw [eh4, eh3]; show h313c.1 66 40 = _; omega) (by omega) (by rw [eh4, eh3]; exact (g313c.1 66 41 (by decide)).trans (f303_.1 66 41 (by decide))) (by omega)) (by first | exact w303_8 | exact mm_tp_0 (w169_2.2.2.2.1) (by omega) | exact mm_tp_u (mm_tp_tr (fun _ => rfl) w303_8 (fun j => (mm_sm_pa 97 eh4 (by decide) j).trans ((mm_sm_pa 97 eh3 (by decide) j).trans (g313c.2 97 (by decide) j)))) y384_5 (by rw [eh4, eh3]; show h313c.1 66 40 = _; omega) (by omega) rfl (by omega)) (by omega) (by first | exact w303_11 | exact mm_tp_0 w169_7 (by omega) | exact mm_tp_u (mm_tp_tr (fun _ => rfl) w303_11 (fun j => (mm_sm_pa 94 eh4 (by decide) j).trans ((mm_sm_pa 94 eh3 (by decide) j).trans (g313c.2 94 (by decide) j)))) y384_6 (by rw [eh4, eh3]; show h313c.1 66 40 = _; omega) (by omega) rfl (by omega)) (by first | exact w303_12 | exact mm_tp_0 w169_8 (by omega) | exact mm_tp_u (mm_tp_tr (fun _ => rfl) w303_12 (fun j => (mm_sm_pa 95 eh4 (by decide) j).trans ((mm_sm_pa 95 eh3 (by decide) j).trans (g313c.2 95 (by decide) j)))) y384_7 (by rw [eh4, eh3]; show h313c.1 66 40 = _; omega) (by omega) (by show _ = mm_w (p4 + mm_w ((h.1 66 40 + x293_9 - h.1 66 40) * mm_pr h 1)); rw [show h.1 66 40 + x293_9 - h.1 66 40 = x293_9 by omega, zg8]) (by omega)) (by omega)
                                · skip
                                  refine mm_fgt 0 ?_
                                  refine mm_fgt 4 ?_
                                  refine mm_fgt 5 ?_
                                  exact J285 (by first | exact fun _ _ => Or.inl (by have z9 := c282; omega) | exact fun a b => Or.inr (Or.inl (by rw [← zgb a b]; have z9 := c269; have z8 := mm_hq9x w269_0; omega)) | exact fun _ _ => Or.inr (Or.inr ((mm_hq9x zCN).resolve_left (fun z => absurd (z.symm.trans c246) (by decide)))))
                            refine mm_lcmp C (mm_dec dk_X12_draw 148 rfl) (fun c268 => ?_) (fun c268 => ?_) (fun c268 => ?_)
                            · skip
                              refine mm_fgt 6 ?_
                              refine mm_fgt 8 ?_
                              exact J269 1 ⟨by omega, by omega⟩ (by exact (show _ ∨ _ by omega)) (Or.inr (Or.inr (⟨by omega, rfl⟩)))
                            · skip
                              refine mm_fgt 6 ?_
                              refine mm_fgt 8 ?_
                              exact J269 0 ⟨by omega, by omega⟩ (by exact (show _ ∨ _ by omega)) (Or.inr (Or.inl ⟨by omega, rfl⟩))
                            · skip
                              refine mm_fgt 6 ?_
                              refine mm_fgt 8 ?_
                              exact J269 (-1) ⟨by omega, by omega⟩ (by exact (show _ ∨ _ by omega)) (Or.inl ⟨by omega, rfl⟩)
                        · skip
                          refine mm_lload C (mm_dec dk_X12_draw 94 rfl) rfl ?_
                          refine mm_ldc2 (z := 6364136223846793005) C (mm_dec dk_X12_draw 95 rfl) kc_X12_514 (by decide) ?_
                          refine mm_lmul C (mm_dec dk_X12_draw 96 rfl) ?_
                          have g123 : -9223372036854775808 ≤ (mm_vlmul x169_6 6364136223846793005) ∧ (mm_vlmul x169_6 6364136223846793005) < 9223372036854775808 := mm_rng64 _
                          obtain ⟨y123, ey123⟩ : ∃ z, z = (mm_vlmul x169_6 6364136223846793005) := ⟨_, rfl⟩
                          rw [← ey123] at g123 ⊢
                          skip
                          refine mm_ldc2 (z := 1442695040888963407) C (mm_dec dk_X12_draw 97 rfl) kc_X12_516 (by decide) ?_
                          refine mm_ladd C (mm_dec dk_X12_draw 98 rfl) ?_
                          have g124 : -9223372036854775808 ≤ (mm_vladd y123 1442695040888963407) ∧ (mm_vladd y123 1442695040888963407) < 9223372036854775808 := mm_rng64 _
                          obtain ⟨y124, ey124⟩ : ∃ z, z = (mm_vladd y123 1442695040888963407) := ⟨_, rfl⟩
                          rw [← ey124] at g124 ⊢
                          skip
                          refine mm_lstoreL (ls2 := [mR 66, mU, mU, mU, mI p4, mI x59_5, mL y124, mU, mI x169_8, mU, mU]) C (mm_dec dk_X12_draw 99 rfl) (by decide) rfl ?_
                          refine mm_lload C (mm_dec dk_X12_draw 100 rfl) rfl ?_
                          refine mm_bipush C (mm_dec dk_X12_draw 101 rfl) ⟨by decide, by decide⟩ ?_
                          refine mm_lushr C (mm_dec dk_X12_draw 102 rfl) ?_
                          have g125 : -9223372036854775808 ≤ (mm_vlushr y124 33) ∧ (mm_vlushr y124 33) < 9223372036854775808 := mm_rng64 _
                          refine mm_iload C (mm_dec dk_X12_draw 103 rfl) rfl ?_
                          refine mm_iconst C (mm_dec dk_X12_draw 104 rfl) ⟨by decide, by decide⟩ ?_
                          refine mm_iadd C (mm_dec dk_X12_draw 105 rfl) ⟨by omega, by omega⟩ ?_
                          refine mm_i2l C (mm_dec dk_X12_draw 106 rfl) ?_
                          refine mm_lrem C (mm_dec dk_X12_draw 107 rfl) (by omega) ?_
                          have g126 : -9223372036854775808 ≤ (mm_vlrem (mm_vlushr y124 33) (x169_8 + 1)) ∧ (mm_vlrem (mm_vlushr y124 33) (x169_8 + 1)) < 9223372036854775808 := mm_rng64 _
                          refine mm_l2i C (mm_dec dk_X12_draw 108 rfl) ?_
                          have g127 : 0 ≤ (mm_vl2i (mm_vlrem (mm_vlushr y124 33) (x169_8 + 1))) ∧ (mm_vl2i (mm_vlrem (mm_vlushr y124 33) (x169_8 + 1))) < (x169_8 + 1) := mm_lot ⟨by omega, by omega⟩
                          obtain ⟨y127, ey127⟩ : ∃ z, z = (mm_vl2i (mm_vlrem (mm_vlushr y124 33) (x169_8 + 1))) := ⟨_, rfl⟩
                          rw [← ey127] at g127 ⊢
                          skip
                          refine mm_istoreL (ls2 := [mR 66, mU, mU, mU, mI p4, mI x59_5, mL y124, mU, mI x169_8, mI y127, mU]) C (mm_dec dk_X12_draw 109 rfl) (by decide) rfl ?_
                          refine mm_aload_n C (mm_dec dk_X12_draw 110 rfl) rfl ?_
                          refine mm_getr (t := 117) C fl_X12_162 (mm_dec dk_X12_draw 111 rfl) rfl rfl (mm_ref i169_ rfl) ?_
                          refine mm_iload C (mm_dec dk_X12_draw 112 rfl) rfl ?_
                          refine mm_iald C (mm_dec dk_X12_draw 113 rfl) rfl (by omega) (by omega) ?_
                          have g128 : 0 ≤ (h169_.2.1 117 x169_8) ∧ (h169_.2.1 117 x169_8) ≤ 39 := i169_.2.1 117 x169_8
                          refine mm_istoreL (ls2 := [mR 66, mU, mU, mU, mI p4, mI x59_5, mL y124, mU, mI x169_8, mI y127, mI (h169_.2.1 117 x169_8)]) C (mm_dec dk_X12_draw 114 rfl) (by decide) rfl ?_
                          refine mm_aload_n C (mm_dec dk_X12_draw 115 rfl) rfl ?_
                          refine mm_getr (t := 117) C fl_X12_162 (mm_dec dk_X12_draw 116 rfl) rfl rfl (mm_ref i169_ rfl) ?_
                          refine mm_iload C (mm_dec dk_X12_draw 117 rfl) rfl ?_
                          refine mm_aload_n C (mm_dec dk_X12_draw 118 rfl) rfl ?_
                          refine mm_getr (t := 117) C fl_X12_162 (mm_dec dk_X12_draw 119 rfl) rfl rfl (mm_ref i169_ rfl) ?_
                          refine mm_iload C (mm_dec dk_X12_draw 120 rfl) rfl ?_
                          refine mm_iald C (mm_dec dk_X12_draw 121 rfl) rfl (by omega) (by omega) ?_
                          have g129 : 0 ≤ (h169_.2.1 117 y127) ∧ (h169_.2.1 117 y127) ≤ 39 := i169_.2.1 117 y127
                          refine mm_iast C (mm_dec dk_X12_draw 122 rfl) rfl (by omega) (by omega) ?_
                          have i6 : mm_inv (mm_pa h169_ 117 x169_8 (h169_.2.1 117 y127)) := mm_inv_pa i169_ (show 0 ≤ (h169_.2.1 117 y127) ∧ (h169_.2.1 117 y127) ≤ 39 from ⟨by omega, by omega⟩)
                          have f6 : mm_fr [(66, 0), (66, 40)] [92, 93, 94, 95, 96, 97, 117, 118, 119] h (mm_pa h169_ 117 x169_8 (h169_.2.1 117 y127)) := mm_fr_pa f169_ (by decide)
                          obtain ⟨h6, eh6⟩ : ∃ z, z = mm_pa h169_ 117 x169_8 (h169_.2.1 117 y127) := ⟨_, rfl⟩
                          rw [← eh6] at i6 f6 ⊢
                          have qh6_130 : h6.1 66 0 = h169_.1 66 0 := by rw [eh6]; rfl
                          have qh6_131 : h6.1 66 22 = h169_.1 66 22 := by rw [eh6]; rfl
                          have qh6_132 : h6.1 66 23 = h169_.1 66 23 := by rw [eh6]; rfl
                          have qh6_133 : h6.1 66 40 = h169_.1 66 40 := by rw [eh6]; rfl
                          have qh6_134 : h6.1 66 41 = h169_.1 66 41 := by rw [eh6]; rfl
                          refine mm_aload_n C (mm_dec dk_X12_draw 123 rfl) rfl ?_
                          refine mm_getr (t := 117) C fl_X12_162 (mm_dec dk_X12_draw 124 rfl) rfl rfl (mm_ref i6 rfl) ?_
                          refine mm_iload C (mm_dec dk_X12_draw 125 rfl) rfl ?_
                          refine mm_iload C (mm_dec dk_X12_draw 126 rfl) rfl ?_
                          refine mm_iast C (mm_dec dk_X12_draw 127 rfl) rfl (by omega) (by omega) ?_
                          have i7 : mm_inv (mm_pa h6 117 y127 (h169_.2.1 117 x169_8)) := mm_inv_pa i6 (show 0 ≤ (h169_.2.1 117 x169_8) ∧ (h169_.2.1 117 x169_8) ≤ 39 from ⟨by omega, by omega⟩)
                          have f7 : mm_fr [(66, 0), (66, 40)] [92, 93, 94, 95, 96, 97, 117, 118, 119] h (mm_pa h6 117 y127 (h169_.2.1 117 x169_8)) := mm_fr_pa f6 (by decide)
                          obtain ⟨h7, eh7⟩ : ∃ z, z = mm_pa h6 117 y127 (h169_.2.1 117 x169_8) := ⟨_, rfl⟩
                          rw [← eh7] at i7 f7 ⊢
                          have qh7_135 : h7.1 66 0 = h6.1 66 0 := by rw [eh7]; rfl
                          have qh7_136 : h7.1 66 22 = h6.1 66 22 := by rw [eh7]; rfl
                          have qh7_137 : h7.1 66 23 = h6.1 66 23 := by rw [eh7]; rfl
                          have qh7_138 : h7.1 66 40 = h6.1 66 40 := by rw [eh7]; rfl
                          have qh7_139 : h7.1 66 41 = h6.1 66 41 := by rw [eh7]; rfl
                          have zS := mm_dw_swap w169_0 (i := x169_8) (j := y127) ⟨by omega, by omega⟩ ⟨by omega, by omega⟩ eh6 eh7
                          refine mm_iincL (ls2 := [mR 66, mU, mU, mU, mI p4, mI x59_5, mL y124, mU, mI (x169_8 + (-1)), mI y127, mI (h169_.2.1 117 x169_8)]) C (mm_dec dk_X12_draw 128 rfl) rfl (by decide) ⟨by omega, by omega⟩ rfl ?_
                          refine mm_goto (tgt := 169) C (mm_dec dk_X12_draw 129 rfl) (by decide) ?_
                          refine mm_fgt 9 ?_
                          refine mm_fgt 10 ?_
                          exact ih169 y124 (by first | assumption | exact ⟨by omega, by omega⟩) (x169_8 + (-1)) ⟨by omega, by omega⟩ h7 i7 f7 (by first | exact w59_0 | exact zS) (by omega) (by first | exact w59_3 | exact mm_ke9_pa (mm_ke9_pa w169_2 eh6 (by decide)) eh7 (by decide)) (by first | exact (mm_sh9_s ey123 ey124 ey127 (by omega) (by omega) eh6 eh7).trans w169_3 | exact Eq.refl _) (by first | exact fun _ => rfl | exact fun j => (mm_sm_pa 118 eh7 (by decide) j).trans ((mm_sm_pa 118 eh6 (by decide) j).trans (w169_4 j))) (by first | exact fun _ => rfl | exact fun j => (mm_sm_pa 119 eh7 (by decide) j).trans ((mm_sm_pa 119 eh6 (by decide) j).trans (w169_5 j))) (by omega) (by first | exact w59_9 | exact fun j => (mm_sm_pa 94 eh7 (by decide) j).trans ((mm_sm_pa 94 eh6 (by decide) j).trans (w169_7 j))) (by first | exact w59_10 | exact fun j => (mm_sm_pa 95 eh7 (by decide) j).trans ((mm_sm_pa 95 eh6 (by decide) j).trans (w169_8 j))) (by omega)
                    refine mm_istoreL (ls2 := [mR 66, mI p1, mL p2, mU, mI p4, mI x59_5, mL p2, mU, mI (x59_5 - 1), mU, mU]) C (mm_dec dk_X12_draw 90 rfl) (by decide) rfl ?_
                    refine mm_fgt 1 ?_
                    refine mm_fgt 2 ?_
                    exact J169 ((((x59_5 - 1) - (-1)) : Int) + 1).toNat p2 (by first | assumption | exact ⟨by omega, by omega⟩) (x59_5 - 1) ⟨by omega, by omega⟩ h59_ i59_ f59_ (by first | exact w59_0 | exact zS) (by omega) (by first | exact w59_3 | exact mm_ke9_pa (mm_ke9_pa w169_2 eh6 (by decide)) eh7 (by decide)) (by first | exact (mm_sh9_s ey123 ey124 ey127 (by omega) (by omega) eh6 eh7).trans w169_3 | exact Eq.refl _) (by first | exact fun _ => rfl | exact fun j => (mm_sm_pa 118 eh7 (by decide) j).trans ((mm_sm_pa 118 eh6 (by decide) j).trans (w169_4 j))) (by first | exact fun _ => rfl | exact fun j => (mm_sm_pa 119 eh7 (by decide) j).trans ((mm_sm_pa 119 eh6 (by decide) j).trans (w169_5 j))) (by omega) (by first | exact w59_9 | exact fun j => (mm_sm_pa 94 eh7 (by decide) j).trans ((mm_sm_pa 94 eh6 (by decide) j).trans (w169_7 j))) (by first | exact w59_10 | exact fun j => (mm_sm_pa 95 eh7 (by decide) j).trans ((mm_sm_pa 95 eh6 (by decide) j).trans (w169_8 j))) (by omega)
                  · skip
                    refine mm_aload_n C (mm_dec dk_X12_draw 35 rfl) rfl ?_
                    refine mm_getr (t := 119) C fl_X12_168 (mm_dec dk_X12_draw 36 rfl) rfl rfl (mm_ref i59_ rfl) ?_
                    refine mm_iload C (mm_dec dk_X12_draw 37 rfl) rfl ?_
                    refine mm_iconst C (mm_dec dk_X12_draw 38 rfl) ⟨by decide, by decide⟩ ?_
                    refine mm_zast C (mm_dec dk_X12_draw 39 rfl) rfl (by omega) (by omega) (by omega) ?_
                    have i8 : mm_inv (mm_pa h59_ 119 x59_6 0) := mm_inv_pa i59_ (show 0 ≤ 0 ∧ 0 ≤ 1 from ⟨by omega, by omega⟩)
                    have f8 : mm_fr [(66, 0), (66, 40)] [92, 93, 94, 95, 96, 97, 117, 118, 119] h (mm_pa h59_ 119 x59_6 0) := mm_fr_pa f59_ (by decide)
                    obtain ⟨h8, eh8⟩ : ∃ z, z = mm_pa h59_ 119 x59_6 0 := ⟨_, rfl⟩
                    rw [← eh8] at i8 f8 ⊢
                    have qh8_140 : h8.1 66 0 = h59_.1 66 0 := by rw [eh8]; rfl
                    have qh8_141 : h8.1 66 22 = h59_.1 66 22 := by rw [eh8]; rfl
                    have qh8_142 : h8.1 66 23 = h59_.1 66 23 := by rw [eh8]; rfl
                    have qh8_143 : h8.1 66 40 = h59_.1 66 40 := by rw [eh8]; rfl
                    have qh8_144 : h8.1 66 41 = h59_.1 66 41 := by rw [eh8]; rfl
                    have zk := mm_dw_clr w59_0 w59_1 eh8
                    have y85t : h8.2.1 85 x59_6 = h59_.2.1 85 x59_6 := mm_sm_pa 85 eh8 (by decide) _
                    have y88t : h8.2.1 88 x59_6 = h59_.2.1 88 x59_6 := mm_sm_pa 88 eh8 (by decide) _
                    have y89t : h8.2.1 89 x59_6 = h59_.2.1 89 x59_6 := mm_sm_pa 89 eh8 (by decide) _
                    refine mm_aload_n C (mm_dec dk_X12_draw 40 rfl) rfl ?_
                    refine mm_getr (t := 85) C fl_X12_66 (mm_dec dk_X12_draw 41 rfl) rfl rfl (mm_ref i8 rfl) ?_
                    refine mm_iload C (mm_dec dk_X12_draw 42 rfl) rfl ?_
                    refine mm_iald C (mm_dec dk_X12_draw 43 rfl) rfl (by omega) (by omega) ?_
                    have g145 : 0 ≤ (h8.2.1 85 x59_6) ∧ (h8.2.1 85 x59_6) ≤ 7 := i8.2.1 85 x59_6
                    refine mm_iload_n C (mm_dec dk_X12_draw 44 rfl) rfl ?_
                    have J154 : ∀ (x154_5 : Int) (bx154_5 : 0 ≤ x154_5 ∧ x154_5 ≤ 40) (h154_ : mH) (i154_ : mm_inv h154_) (f154_ : mm_fr [(66, 0), (66, 40)] [92, 93, 94, 95, 96, 97, 117, 118, 119] h h154_) (w154_0 : mm_dw h154_ x154_5 x154_5) (w154_1 : mm_lt h154_ x154_5 (x59_6 + 1)) (w154_2 : x154_5 ≤ x59_6 + 1) (w154_3 : mm_ke9 h h154_) (w154_4 : mm_gh (mm_Q2 h p1 (h.1 66 41)) (h154_.2.1 117) (x59_6 + 1).toNat x154_5) (w154_5 : ∀ c, 0 ≤ c → c < 10 → h154_.2.1 118 c = mm_lk (h.2.1 86) (h154_.2.1 117) (x154_5).toNat c) (w154_6 : ∀ r, 0 ≤ r → r < x59_6 + 1 → h154_.2.1 119 r = 0) (w154_7 : x59_6 + 1 ≤ h.1 66 23) (w154_8 : h154_.1 66 0 = 0) (w154_9 : ∀ j, h154_.2.1 94 j = h.2.1 94 j) (w154_10 : ∀ j, h154_.2.1 95 j = h.2.1 95 j), mm_W x 0 0 154 [mR 66, mI p1, mL p2, mU, mI p4, mI x154_5, mI x59_6, mU, mU, mU, mU] [] h154_ := by
                      intro x154_5 bx154_5 h154_ i154_ f154_ w154_0 w154_1 w154_2 w154_3 w154_4 w154_5 w154_6 w154_7 w154_8 w154_9 w154_10
                      have g146 : 0 ≤ h154_.1 66 40 ∧ h154_.1 66 40 ≤ 500 := i154_.1 66 40
                      have g147 : 0 ≤ h154_.1 66 41 ∧ h154_.1 66 41 ≤ 99999 := i154_.1 66 41
                      have g148 : 0 ≤ h154_.1 66 23 ∧ h154_.1 66 23 ≤ 40 := i154_.1 66 23
                      have g149 : -2147483648 ≤ h154_.1 66 0 ∧ h154_.1 66 0 ≤ 2147483647 := i154_.1 66 0
                      have g150 : 0 ≤ h154_.1 66 22 ∧ h154_.1 66 22 ≤ 8 := i154_.1 66 22
                      have g151 : h154_.1 66 41 = h.1 66 41 := f154_.1 66 41 (by decide)
                      have g152 : h154_.1 66 23 = h.1 66 23 := f154_.1 66 23 (by decide)
                      have g153 : h154_.1 66 22 = h.1 66 22 := f154_.1 66 22 (by decide)
                      refine mm_iincL (ls2 := [mR 66, mI p1, mL p2, mU, mI p4, mI x154_5, mI (x59_6 + 1), mU, mU, mU, mU]) C (mm_dec dk_X12_draw 83 rfl) rfl (by decide) ⟨by omega, by omega⟩ rfl ?_
                      refine mm_goto (tgt := 59) C (mm_dec dk_X12_draw 84 rfl) (by decide) ?_
                      exact ih59 x154_5 ⟨by omega, by omega⟩ (x59_6 + 1) ⟨by omega, by omega⟩ h154_ i154_ f154_ (by first | exact w154_0 | exact zd0) (by first | exact w154_1 | exact (fun k a b => absurd b (by omega))) (by omega) (by first | exact w154_3 | exact w35_1) (by first | exact w154_4 | exact Eq.refl (0 : Int)) (by first | exact w154_5 | exact fun c a b => (w35_0 c a (by omega)).trans rfl) (by first | exact w154_6 | exact fun r a b => absurd b (by omega)) (by omega) (by omega) (by first | exact w154_9 | exact w35_3) (by first | exact w154_10 | exact w35_4) (by omega)
                    refine mm_icmp_ne (tgt := 154) C (mm_dec dk_X12_draw 45 rfl) (by decide) (fun c84 => ?_) (fun c84 => ?_)
                    · skip
                      exact J154 x59_5 ⟨by omega, by omega⟩ h8 i8 f8 (by first | exact zk.1 | exact zA.1) (by first | exact (fun k a b => by have := zk.2.1 k a b; omega) | exact zA.2) (by omega) (by first | exact (mm_ke9_pa w59_3 eh8 (by decide)) | exact (mm_ke9_pa (mm_ke9_pa (mm_ke9_pa w59_3 eh8 (by decide)) eh9 (by decide)) eh10 (by decide))) (by first | exact (mm_gb_n w59_4 w59_5 w59_6 (by omega) (fun q => c84 (y85t.trans (z85.trans q.1))) eh8).1 | exact (mm_gb_n w59_4 w59_5 w59_6 (by omega) (fun q => by have q0 := c105; have q1 := q.2.1; omega) eh8).1 | exact (mm_gb_n w59_4 w59_5 w59_6 (by omega) (fun q => ((mm_hq9x zl8).resolve_left (fun z => c120 z.1)).2 q.2.2) eh8).1 | exact (mm_gb_y w59_4 w59_5 w59_6 ⟨by omega, by omega⟩ ⟨by omega, by omega, ((mm_hq9x zl8).resolve_right (fun z => z.1 c120)).2⟩ (f59_.2 86 (by decide) _) zc86 eh8 eh9 eh10 rfl).1) (by first | exact (mm_gb_n w59_4 w59_5 w59_6 (by omega) (fun q => c84 (y85t.trans (z85.trans q.1))) eh8).2.1 | exact (mm_gb_n w59_4 w59_5 w59_6 (by omega) (fun q => by have q0 := c105; have q1 := q.2.1; omega) eh8).2.1 | exact (mm_gb_n w59_4 w59_5 w59_6 (by omega) (fun q => ((mm_hq9x zl8).resolve_left (fun z => c120 z.1)).2 q.2.2) eh8).2.1 | exact (mm_gb_y w59_4 w59_5 w59_6 ⟨by omega, by omega⟩ ⟨by omega, by omega, ((mm_hq9x zl8).resolve_right (fun z => z.1 c120)).2⟩ (f59_.2 86 (by decide) _) zc86 eh8 eh9 eh10 rfl).2.1) (by first | exact (mm_gb_n w59_4 w59_5 w59_6 (by omega) (fun q => c84 (y85t.trans (z85.trans q.1))) eh8).2.2 | exact (mm_gb_n w59_4 w59_5 w59_6 (by omega) (fun q => by have q0 := c105; have q1 := q.2.1; omega) eh8).2.2 | exact (mm_gb_n w59_4 w59_5 w59_6 (by omega) (fun q => ((mm_hq9x zl8).resolve_left (fun z => c120 z.1)).2 q.2.2) eh8).2.2 | exact (mm_gb_y w59_4 w59_5 w59_6 ⟨by omega, by omega⟩ ⟨by omega, by omega, ((mm_hq9x zl8).resolve_right (fun z => z.1 c120)).2⟩ (f59_.2 86 (by decide) _) zc86 eh8 eh9 eh10 rfl).2.2) (by omega) (by omega) (by first | exact fun j => (mm_sm_pa 94 eh8 (by decide) j).trans (w59_9 j) | exact fun j => (mm_sm_pa 94 eh10 (by decide) j).trans ((mm_sm_pa 94 eh9 (by decide) j).trans ((mm_sm_pa 94 eh8 (by decide) j).trans (w59_9 j)))) (by first | exact fun j => (mm_sm_pa 95 eh8 (by decide) j).trans (w59_10 j) | exact fun j => (mm_sm_pa 95 eh10 (by decide) j).trans ((mm_sm_pa 95 eh9 (by decide) j).trans ((mm_sm_pa 95 eh8 (by decide) j).trans (w59_10 j))))
                    · skip
                      refine mm_aload_n C (mm_dec dk_X12_draw 46 rfl) rfl ?_
                      refine mm_getr (t := 88) C fl_X12_75 (mm_dec dk_X12_draw 47 rfl) rfl rfl (mm_ref i8 rfl) ?_
                      refine mm_iload C (mm_dec dk_X12_draw 48 rfl) rfl ?_
                      refine mm_iald C (mm_dec dk_X12_draw 49 rfl) rfl (by omega) (by omega) ?_
                      have g154 : -1 ≤ (h8.2.1 88 x59_6) ∧ (h8.2.1 88 x59_6) ≤ 9 := i8.2.1 88 x59_6
                      refine mm_iconst C (mm_dec dk_X12_draw 50 rfl) ⟨by decide, by decide⟩ ?_
                      have J108 : ∀ (w108_0 : (h.2.1 88 x59_6 = -1 ∨ h.2.1 89 x59_6 ≤ 0)), mm_W x 0 0 108 [mR 66, mI p1, mL p2, mU, mI p4, mI x59_5, mI x59_6, mU, mU, mU, mU] [] h8 := by
                        intro w108_0
                        refine mm_aload_n C (mm_dec dk_X12_draw 57 rfl) rfl ?_
                        refine mm_iconst C (mm_dec dk_X12_draw 58 rfl) ⟨by decide, by decide⟩ ?_
                        refine mm_iload C (mm_dec dk_X12_draw 59 rfl) rfl ?_
                        refine mm_aload_n C (mm_dec dk_X12_draw 60 rfl) rfl ?_
                        refine mm_geti C fl_X12_234 (mm_dec dk_X12_draw 61 rfl) rfl rfl (Or.inl rfl) ?_
                        refine mm_cVi (rest := []) C1 ev_X12_322 (mm_dec dk_X12_draw 62 rfl) (c_X12_latest_q x.2.1 hl (d - 1) (by omega) h8 i8 0 x59_6 (h8.1 66 41)) rfl rfl (Nat.le_of_ble_eq_true rfl) ⟨by decide, by decide⟩ rfl (fun r116 h116c hp116 => ?_) (fun _ _ q => q.elim)
                        obtain ⟨b116, z116, y116_0⟩ := hp116
                        rw [z116]
                        have zl9 := mm_lat_no y116_0
                        rw [show mm_k2 h8 = mm_k2 h from mm_ke9_k2 (mm_ke9_pa w59_3 eh8 (by decide)), show h8.1 66 40 = h.1 66 40 from (mm_ke9_pa w59_3 eh8 (by decide)).2.2.2.2, show h8.1 66 41 = h.1 66 41 from by rw [eh8]; exact zn41] at zl9
                        have zl8 : mm_hq9 _ := zl9
                        clear y116_0 zl9
                        refine mm_iconst C (mm_dec dk_X12_draw 63 rfl) ⟨by decide, by decide⟩ ?_
                        refine mm_icmp_eq (tgt := 126) C (mm_dec dk_X12_draw 64 rfl) (by decide) (fun c120 => ?_) (fun c120 => ?_)
                        · skip
                          refine mm_aload_n C (mm_dec dk_X12_draw 66 rfl) rfl ?_
                          refine mm_getr (t := 117) C fl_X12_162 (mm_dec dk_X12_draw 67 rfl) rfl rfl (mm_ref i8 rfl) ?_
                          refine mm_iload C (mm_dec dk_X12_draw 68 rfl) rfl ?_
                          refine mm_iload C (mm_dec dk_X12_draw 69 rfl) rfl ?_
                          refine mm_iast C (mm_dec dk_X12_draw 70 rfl) rfl (by omega) (by omega) ?_
                          have i9 : mm_inv (mm_pa h8 117 x59_5 x59_6) := mm_inv_pa i8 (show 0 ≤ x59_6 ∧ x59_6 ≤ 39 from ⟨by omega, by omega⟩)
                          have f9 : mm_fr [(66, 0), (66, 40)] [92, 93, 94, 95, 96, 97, 117, 118, 119] h (mm_pa h8 117 x59_5 x59_6) := mm_fr_pa f8 (by decide)
                          obtain ⟨h9, eh9⟩ : ∃ z, z = mm_pa h8 117 x59_5 x59_6 := ⟨_, rfl⟩
                          rw [← eh9] at i9 f9 ⊢
                          have qh9_156 : h9.1 66 0 = h8.1 66 0 := by rw [eh9]; rfl
                          have qh9_157 : h9.1 66 22 = h8.1 66 22 := by rw [eh9]; rfl
                          have qh9_158 : h9.1 66 23 = h8.1 66 23 := by rw [eh9]; rfl
                          have qh9_159 : h9.1 66 40 = h8.1 66 40 := by rw [eh9]; rfl
                          have qh9_160 : h9.1 66 41 = h8.1 66 41 := by rw [eh9]; rfl
                          refine mm_aload_n C (mm_dec dk_X12_draw 71 rfl) rfl ?_
                          refine mm_getr (t := 118) C fl_X12_165 (mm_dec dk_X12_draw 72 rfl) rfl rfl (mm_ref i9 rfl) ?_
                          refine mm_aload_n C (mm_dec dk_X12_draw 73 rfl) rfl ?_
                          refine mm_getr (t := 86) C fl_X12_69 (mm_dec dk_X12_draw 74 rfl) rfl rfl (mm_ref i9 rfl) ?_
                          refine mm_iload C (mm_dec dk_X12_draw 75 rfl) rfl ?_
                          refine mm_iald C (mm_dec dk_X12_draw 76 rfl) rfl (by omega) (by omega) ?_
                          have g161 : 0 ≤ (h9.2.1 86 x59_6) ∧ (h9.2.1 86 x59_6) ≤ 9 := i9.2.1 86 x59_6
                          refine mm_dup2 C (mm_dec dk_X12_draw 77 rfl) (show (0 : Nat) ≠ 1 by decide) (show (2 : Nat) ≠ 1 by decide) ?_
                          refine mm_iald C (mm_dec dk_X12_draw 78 rfl) rfl (by omega) (by omega) ?_
                          have g162 : -2147483648 ≤ (h9.2.1 118 (h9.2.1 86 x59_6)) ∧ (h9.2.1 118 (h9.2.1 86 x59_6)) ≤ 2147483647 := i9.2.1 118 (h9.2.1 86 x59_6)
                          refine mm_iconst C (mm_dec dk_X12_draw 79 rfl) ⟨by decide, by decide⟩ ?_
                          refine mm_iaddw C (mm_dec dk_X12_draw 80 rfl) ?_
                          have g163 : -2147483648 ≤ (mm_w ((h9.2.1 118 (h9.2.1 86 x59_6)) + 1)) ∧ (mm_w ((h9.2.1 118 (h9.2.1 86 x59_6)) + 1)) < 2147483648 := mm_w_rg _
                          refine mm_iast C (mm_dec dk_X12_draw 81 rfl) rfl (by omega) (by omega) ?_
                          have i10 : mm_inv (mm_pa h9 118 (h9.2.1 86 x59_6) (mm_w ((h9.2.1 118 (h9.2.1 86 x59_6)) + 1))) := mm_inv_pa i9 (show -2147483648 ≤ (mm_w ((h9.2.1 118 (h9.2.1 86 x59_6)) + 1)) ∧ (mm_w ((h9.2.1 118 (h9.2.1 86 x59_6)) + 1)) ≤ 2147483647 from ⟨by omega, by omega⟩)
                          have f10 : mm_fr [(66, 0), (66, 40)] [92, 93, 94, 95, 96, 97, 117, 118, 119] h (mm_pa h9 118 (h9.2.1 86 x59_6) (mm_w ((h9.2.1 118 (h9.2.1 86 x59_6)) + 1))) := mm_fr_pa f9 (by decide)
                          obtain ⟨h10, eh10⟩ : ∃ z, z = mm_pa h9 118 (h9.2.1 86 x59_6) (mm_w ((h9.2.1 118 (h9.2.1 86 x59_6)) + 1)) := ⟨_, rfl⟩
                          rw [← eh10] at i10 f10 ⊢
                          have qh10_164 : h10.1 66 0 = h9.1 66 0 := by rw [eh10]; rfl
                          have qh10_165 : h10.1 66 22 = h9.1 66 22 := by rw [eh10]; rfl
                          have qh10_166 : h10.1 66 23 = h9.1 66 23 := by rw [eh10]; rfl
                          have qh10_167 : h10.1 66 40 = h9.1 66 40 := by rw [eh10]; rfl
                          have qh10_168 : h10.1 66 41 = h9.1 66 41 := by rw [eh10]; rfl
                          have zq : h9.2.1 86 x59_6 = h8.2.1 86 x59_6 := by rw [eh9, mm_pa_o 86 117 (by decide)]
                          have zg : (0 : Int) ≤ h9.2.1 86 x59_6 ∧ h9.2.1 86 x59_6 ≤ 9 := i9.2.1 86 _
                          have zr := mm_dw_rg zk.1 (h9.2.1 86 x59_6) (by omega) (by omega)
                          have zs : ∀ c, h9.2.1 118 c = h8.2.1 118 c := fun c => by rw [eh9, mm_pa_o 118 117 (by decide)]
                          have zA := mm_dw_add (h2 := h10) (c0 := h9.2.1 86 x59_6) zk.1 zk.2.1 zk.2.2 (by omega) (by omega) (by omega) eh9 zq (by omega) (by omega) (by rw [eh10, zs, mm_w_id ⟨by omega, by omega⟩])
                          refine mm_iincL (ls2 := [mR 66, mI p1, mL p2, mU, mI p4, mI (x59_5 + 1), mI x59_6, mU, mU, mU, mU]) C (mm_dec dk_X12_draw 82 rfl) rfl (by decide) ⟨by omega, by omega⟩ rfl ?_
                          exact J154 (x59_5 + 1) ⟨by omega, by omega⟩ h10 i10 f10 (by first | exact zk.1 | exact zA.1) (by first | exact (fun k a b => by have := zk.2.1 k a b; omega) | exact zA.2) (by omega) (by first | exact (mm_ke9_pa w59_3 eh8 (by decide)) | exact (mm_ke9_pa (mm_ke9_pa (mm_ke9_pa w59_3 eh8 (by decide)) eh9 (by decide)) eh10 (by decide))) (by first | exact (mm_gb_n w59_4 w59_5 w59_6 (by omega) (fun q => c84 (y85t.trans (z85.trans q.1))) eh8).1 | exact (mm_gb_n w59_4 w59_5 w59_6 (by omega) (fun q => by have q0 := c105; have q1 := q.2.1; omega) eh8).1 | exact (mm_gb_n w59_4 w59_5 w59_6 (by omega) (fun q => ((mm_hq9x zl8).resolve_left (fun z => c120 z.1)).2 q.2.2) eh8).1 | exact (mm_gb_y w59_4 w59_5 w59_6 ⟨by omega, by omega⟩ ⟨by omega, by omega, ((mm_hq9x zl8).resolve_right (fun z => z.1 c120)).2⟩ (f59_.2 86 (by decide) _) zc86 eh8 eh9 eh10 rfl).1) (by first | exact (mm_gb_n w59_4 w59_5 w59_6 (by omega) (fun q => c84 (y85t.trans (z85.trans q.1))) eh8).2.1 | exact (mm_gb_n w59_4 w59_5 w59_6 (by omega) (fun q => by have q0 := c105; have q1 := q.2.1; omega) eh8).2.1 | exact (mm_gb_n w59_4 w59_5 w59_6 (by omega) (fun q => ((mm_hq9x zl8).resolve_left (fun z => c120 z.1)).2 q.2.2) eh8).2.1 | exact (mm_gb_y w59_4 w59_5 w59_6 ⟨by omega, by omega⟩ ⟨by omega, by omega, ((mm_hq9x zl8).resolve_right (fun z => z.1 c120)).2⟩ (f59_.2 86 (by decide) _) zc86 eh8 eh9 eh10 rfl).2.1) (by first | exact (mm_gb_n w59_4 w59_5 w59_6 (by omega) (fun q => c84 (y85t.trans (z85.trans q.1))) eh8).2.2 | exact (mm_gb_n w59_4 w59_5 w59_6 (by omega) (fun q => by have q0 := c105; have q1 := q.2.1; omega) eh8).2.2 | exact (mm_gb_n w59_4 w59_5 w59_6 (by omega) (fun q => ((mm_hq9x zl8).resolve_left (fun z => c120 z.1)).2 q.2.2) eh8).2.2 | exact (mm_gb_y w59_4 w59_5 w59_6 ⟨by omega, by omega⟩ ⟨by omega, by omega, ((mm_hq9x zl8).resolve_right (fun z => z.1 c120)).2⟩ (f59_.2 86 (by decide) _) zc86 eh8 eh9 eh10 rfl).2.2) (by omega) (by omega) (by first | exact fun j => (mm_sm_pa 94 eh8 (by decide) j).trans (w59_9 j) | exact fun j => (mm_sm_pa 94 eh10 (by decide) j).trans ((mm_sm_pa 94 eh9 (by decide) j).trans ((mm_sm_pa 94 eh8 (by decide) j).trans (w59_9 j)))) (by first | exact fun j => (mm_sm_pa 95 eh8 (by decide) j).trans (w59_10 j) | exact fun j => (mm_sm_pa 95 eh10 (by decide) j).trans ((mm_sm_pa 95 eh9 (by decide) j).trans ((mm_sm_pa 95 eh8 (by decide) j).trans (w59_10 j))))
                        · skip
                          refine mm_goto (tgt := 154) C (mm_dec dk_X12_draw 65 rfl) (by decide) ?_
                          exact J154 x59_5 ⟨by omega, by omega⟩ h8 i8 f8 (by first | exact zk.1 | exact zA.1) (by first | exact (fun k a b => by have := zk.2.1 k a b; omega) | exact zA.2) (by omega) (by first | exact (mm_ke9_pa w59_3 eh8 (by decide)) | exact (mm_ke9_pa (mm_ke9_pa (mm_ke9_pa w59_3 eh8 (by decide)) eh9 (by decide)) eh10 (by decide))) (by first | exact (mm_gb_n w59_4 w59_5 w59_6 (by omega) (fun q => c84 (y85t.trans (z85.trans q.1))) eh8).1 | exact (mm_gb_n w59_4 w59_5 w59_6 (by omega) (fun q => by have q0 := c105; have q1 := q.2.1; omega) eh8).1 | exact (mm_gb_n w59_4 w59_5 w59_6 (by omega) (fun q => ((mm_hq9x zl8).resolve_left (fun z => c120 z.1)).2 q.2.2) eh8).1 | exact (mm_gb_y w59_4 w59_5 w59_6 ⟨by omega, by omega⟩ ⟨by omega, by omega, ((mm_hq9x zl8).resolve_right (fun z => z.1 c120)).2⟩ (f59_.2 86 (by decide) _) zc86 eh8 eh9 eh10 rfl).1) (by first | exact (mm_gb_n w59_4 w59_5 w59_6 (by omega) (fun q => c84 (y85t.trans (z85.trans q.1))) eh8).2.1 | exact (mm_gb_n w59_4 w59_5 w59_6 (by omega) (fun q => by have q0 := c105; have q1 := q.2.1; omega) eh8).2.1 | exact (mm_gb_n w59_4 w59_5 w59_6 (by omega) (fun q => ((mm_hq9x zl8).resolve_left (fun z => c120 z.1)).2 q.2.2) eh8).2.1 | exact (mm_gb_y w59_4 w59_5 w59_6 ⟨by omega, by omega⟩ ⟨by omega, by omega, ((mm_hq9x zl8).resolve_right (fun z => z.1 c120)).2⟩ (f59_.2 86 (by decide) _) zc86 eh8 eh9 eh10 rfl).2.1) (by first | exact (mm_gb_n w59_4 w59_5 w59_6 (by omega) (fun q => c84 (y85t.trans (z85.trans q.1))) eh8).2.2 | exact (mm_gb_n w59_4 w59_5 w59_6 (by omega) (fun q => by have q0 := c105; have q1 := q.2.1; omega) eh8).2.2 | exact (mm_gb_n w59_4 w59_5 w59_6 (by omega) (fun q => ((mm_hq9x zl8).resolve_left (fun z => c120 z.1)).2 q.2.2) eh8).2.2 | exact (mm_gb_y w59_4 w59_5 w59_6 ⟨by omega, by omega⟩ ⟨by omega, by omega, ((mm_hq9x zl8).resolve_right (fun z => z.1 c120)).2⟩ (f59_.2 86 (by decide) _) zc86 eh8 eh9 eh10 rfl).2.2) (by omega) (by omega) (by first | exact fun j => (mm_sm_pa 94 eh8 (by decide) j).trans (w59_9 j) | exact fun j => (mm_sm_pa 94 eh10 (by decide) j).trans ((mm_sm_pa 94 eh9 (by decide) j).trans ((mm_sm_pa 94 eh8 (by decide) j).trans (w59_9 j)))) (by first | exact fun j => (mm_sm_pa 95 eh8 (by decide) j).trans (w59_10 j) | exact fun j => (mm_sm_pa 95 eh10 (by decide) j).trans ((mm_sm_pa 95 eh9 (by decide) j).trans ((mm_sm_pa 95 eh8 (by decide) j).trans (w59_10 j))))
                      refine mm_icmp_eq (tgt := 108) C (mm_dec dk_X12_draw 51 rfl) (by decide) (fun c95 => ?_) (fun c95 => ?_)
                      · skip
                        exact J108 (by omega)
                      · skip
                        refine mm_aload_n C (mm_dec dk_X12_draw 52 rfl) rfl ?_
                        refine mm_getr (t := 89) C fl_X12_78 (mm_dec dk_X12_draw 53 rfl) rfl rfl (mm_ref i8 rfl) ?_
                        refine mm_iload C (mm_dec dk_X12_draw 54 rfl) rfl ?_
                        refine mm_iald C (mm_dec dk_X12_draw 55 rfl) rfl (by omega) (by omega) ?_
                        have g169 : 0 ≤ (h8.2.1 89 x59_6) ∧ (h8.2.1 89 x59_6) ≤ 2 := i8.2.1 89 x59_6
                        refine mm_if_gt (tgt := 154) C (mm_dec dk_X12_draw 56 rfl) (by decide) (fun c105 => ?_) (fun c105 => ?_)
                        · skip
                          exact J154 x59_5 ⟨by omega, by omega⟩ h8 i8 f8 (by first | exact zk.1 | exact zA.1) (by first | exact (fun k a b => by have := zk.2.1 k a b; omega) | exact zA.2) (by omega) (by first | exact (mm_ke9_pa w59_3 eh8 (by decide)) | exact (mm_ke9_pa (mm_ke9_pa (mm_ke9_pa w59_3 eh8 (by decide)) eh9 (by decide)) eh10 (by decide))) (by first | exact (mm_gb_n w59_4 w59_5 w59_6 (by omega) (fun q => c84 (y85t.trans (z85.trans q.1))) eh8).1 | exact (mm_gb_n w59_4 w59_5 w59_6 (by omega) (fun q => by have q0 := c105; have q1 := q.2.1; omega) eh8).1 | exact (mm_gb_n w59_4 w59_5 w59_6 (by omega) (fun q => ((mm_hq9x zl8).resolve_left (fun z => c120 z.1)).2 q.2.2) eh8).1 | exact (mm_gb_y w59_4 w59_5 w59_6 ⟨by omega, by omega⟩ ⟨by omega, by omega, ((mm_hq9x zl8).resolve_right (fun z => z.1 c120)).2⟩ (f59_.2 86 (by decide) _) zc86 eh8 eh9 eh10 rfl).1) (by first | exact (mm_gb_n w59_4 w59_5 w59_6 (by omega) (fun q => c84 (y85t.trans (z85.trans q.1))) eh8).2.1 | exact (mm_gb_n w59_4 w59_5 w59_6 (by omega) (fun q => by have q0 := c105; have q1 := q.2.1; omega) eh8).2.1 | exact (mm_gb_n w59_4 w59_5 w59_6 (by omega) (fun q => ((mm_hq9x zl8).resolve_left (fun z => c120 z.1)).2 q.2.2) eh8).2.1 | exact (mm_gb_y w59_4 w59_5 w59_6 ⟨by omega, by omega⟩ ⟨by omega, by omega, ((mm_hq9x zl8).resolve_right (fun z => z.1 c120)).2⟩ (f59_.2 86 (by decide) _) zc86 eh8 eh9 eh10 rfl).2.1) (by first | exact (mm_gb_n w59_4 w59_5 w59_6 (by omega) (fun q => c84 (y85t.trans (z85.trans q.1))) eh8).2.2 | exact (mm_gb_n w59_4 w59_5 w59_6 (by omega) (fun q => by have q0 := c105; have q1 := q.2.1; omega) eh8).2.2 | exact (mm_gb_n w59_4 w59_5 w59_6 (by omega) (fun q => ((mm_hq9x zl8).resolve_left (fun z => c120 z.1)).2 q.2.2) eh8).2.2 | exact (mm_gb_y w59_4 w59_5 w59_6 ⟨by omega, by omega⟩ ⟨by omega, by omega, ((mm_hq9x zl8).resolve_right (fun z => z.1 c120)).2⟩ (f59_.2 86 (by decide) _) zc86 eh8 eh9 eh10 rfl).2.2) (by omega) (by omega) (by first | exact fun j => (mm_sm_pa 94 eh8 (by decide) j).trans (w59_9 j) | exact fun j => (mm_sm_pa 94 eh10 (by decide) j).trans ((mm_sm_pa 94 eh9 (by decide) j).trans ((mm_sm_pa 94 eh8 (by decide) j).trans (w59_9 j)))) (by first | exact fun j => (mm_sm_pa 95 eh8 (by decide) j).trans (w59_10 j) | exact fun j => (mm_sm_pa 95 eh10 (by decide) j).trans ((mm_sm_pa 95 eh9 (by decide) j).trans ((mm_sm_pa 95 eh8 (by decide) j).trans (w59_10 j))))
                        · skip
                          exact J108 (by omega)
              refine mm_istoreL (ls2 := [mR 66, mI p1, mL p2, mU, mI p4, mI 0, mI 0, mU, mU, mU, mU]) C (mm_dec dk_X12_draw 30 rfl) (by decide) rfl ?_
              exact J59 (((40 - 0) : Int) + 1).toNat 0 ⟨by omega, by omega⟩ 0 ⟨by omega, by omega⟩ h35_ i35_ f35_ (by first | exact w154_0 | exact zd0) (by first | exact w154_1 | exact (fun k a b => absurd b (by omega))) (by omega) (by first | exact w154_3 | exact w35_1) (by first | exact w154_4 | exact Eq.refl (0 : Int)) (by first | exact w154_5 | exact fun c a b => (w35_0 c a (by omega)).trans rfl) (by first | exact w154_6 | exact fun r a b => absurd b (by omega)) (by omega) (by omega) (by first | exact w154_9 | exact w35_3) (by first | exact w154_10 | exact w35_4) (by omega)
            · skip
              refine mm_aload_n C (mm_dec dk_X12_draw 22 rfl) rfl ?_
              refine mm_getr (t := 118) C fl_X12_165 (mm_dec dk_X12_draw 23 rfl) rfl rfl (mm_ref i35_ rfl) ?_
              refine mm_iload C (mm_dec dk_X12_draw 24 rfl) rfl ?_
              refine mm_iconst C (mm_dec dk_X12_draw 25 rfl) ⟨by decide, by decide⟩ ?_
              refine mm_iast C (mm_dec dk_X12_draw 26 rfl) rfl (by omega) (by omega) ?_
              have i11 : mm_inv (mm_pa h35_ 118 x35_6 0) := mm_inv_pa i35_ (show -2147483648 ≤ 0 ∧ 0 ≤ 2147483647 from ⟨by omega, by omega⟩)
              have f11 : mm_fr [(66, 0), (66, 40)] [92, 93, 94, 95, 96, 97, 117, 118, 119] h (mm_pa h35_ 118 x35_6 0) := mm_fr_pa f35_ (by decide)
              obtain ⟨h11, eh11⟩ : ∃ z, z = mm_pa h35_ 118 x35_6 0 := ⟨_, rfl⟩
              rw [← eh11] at i11 f11 ⊢
              have qh11_170 : h11.1 66 0 = h35_.1 66 0 := by rw [eh11]; rfl
              have qh11_171 : h11.1 66 22 = h35_.1 66 22 := by rw [eh11]; rfl
              have qh11_172 : h11.1 66 23 = h35_.1 66 23 := by rw [eh11]; rfl
              have qh11_173 : h11.1 66 40 = h35_.1 66 40 := by rw [eh11]; rfl
              have qh11_174 : h11.1 66 41 = h35_.1 66 41 := by rw [eh11]; rfl
              have zz : ∀ c, 0 ≤ c → c < x35_6 + 1 → h11.2.1 118 c = 0 := fun c a b => by rw [eh11]; by_cases q : c = x35_6; (rw [q]; exact mm_pa_same _ _ _ _); (rw [mm_pa_j 118 q]; exact w35_0 c a (by omega))
              refine mm_iincL (ls2 := [mR 66, mI p1, mL p2, mU, mI p4, mI 0, mI (x35_6 + 1), mU, mU, mU, mU]) C (mm_dec dk_X12_draw 27 rfl) rfl (by decide) ⟨by omega, by omega⟩ rfl ?_
              refine mm_goto (tgt := 35) C (mm_dec dk_X12_draw 28 rfl) (by decide) ?_
              exact ih35 (x35_6 + 1) ⟨by omega, by omega⟩ h11 i11 f11 (by first | exact (fun c a b => absurd b (by omega)) | exact zz) (by first | exact (mm_ke9_pa w35_1 eh11 (by decide)) | exact (mm_ke9_fr mm_ke9_rf g2c (by decide))) (by omega) (by first | exact fun j => (mm_sm_pa 94 eh11 (by decide) j).trans (w35_3 j) | exact fun j => g2c.2 94 (by decide) j) (by first | exact fun j => (mm_sm_pa 95 eh11 (by decide) j).trans (w35_4 j) | exact fun j => g2c.2 95 (by decide) j) (by omega)
        refine mm_istoreL (ls2 := [mR 66, mI p1, mL p2, mU, mI p4, mI 0, mI 0, mU, mU, mU, mU]) C (mm_dec dk_X12_draw 18 rfl) (by decide) rfl ?_
        exact J35 (((10 - 0) : Int) + 1).toNat 0 ⟨by omega, by omega⟩ h2c i2c f2c (by first | exact (fun c a b => absurd b (by omega)) | exact zz) (by first | exact (mm_ke9_pa w35_1 eh11 (by decide)) | exact (mm_ke9_fr mm_ke9_rf g2c (by decide))) (by omega) (by first | exact fun j => (mm_sm_pa 94 eh11 (by decide) j).trans (w35_3 j) | exact fun j => g2c.2 94 (by decide) j) (by first | exact fun j => (mm_sm_pa 95 eh11 (by decide) j).trans (w35_4 j) | exact fun j => g2c.2 95 (by decide) j) (by omega)
      · skip
        refine mm_fgt 0 ?_
        refine mm_fgt 1 ?_
        refine mm_fgt 2 ?_
        refine mm_fgt 4 ?_
        exact J27 (by omega)
  · skip
    have zbad := y2_0.resolve_left (fun z => by have z1 := z.2.2.1; omega)
    clear y2_0 y2_1
    refine mm_iconst C (mm_dec dk_X12_draw 4 rfl) ⟨by decide, by decide⟩ ?_
    exact mm_iret C T (mm_dec dk_X12_draw 5 rfl) (by decide : 0 ≤ 0) (by decide : 0 ≤ 0) ⟨_, rfl, ⟨⟨by omega, by omega⟩, i2c, f2c, by first | exact Or.inr ⟨zbad.1, zbad.2.2, rfl, (mm_ke9_fr mm_ke9_rf g2c (by decide))⟩ | exact Or.inl ⟨zgood.1, zgood.2.1, by omega, by omega⟩, by first | exact fun q => absurd (zbad.2.2.symm.trans q) (by decide) | exact fun _ _ _ => mm_dy9_out w27_0 (mm_ke9_fr mm_ke9_rf g2c (by decide)) | exact fun _ a b => mm_dy9_no zG9 w59_5 (by omega) (by omega) (w285_0 a b) w169_2 | exact fun _ a b => mm_dy9_ok zG9 w59_5 zb6 zE9 w169_4 ze169 w293_4 (by omega) (by omega) (by omega) (by omega) (by omega) (by rw [← zgb a b]; have z8 := mm_hq9x w269_0; omega) (by intro c x y; rw [w169_4]; exact ((mm_hq9x zCF).resolve_left (by omega)) c x y) w169_2.2.1 (by rw [show x59_5 = x293_9 by omega]; exact w293_7) (by rw [show x59_5 = x293_9 by omega]; exact w293_8) (by rw [show x59_5 = x293_9 by omega]; exact w293_9), by first | exact fun q => absurd (zbad.2.2.symm.trans q) (by decide) | exact fun _ => mm_dy8_no (fun j => g2c.2 94 (by decide) j) (fun j => g2c.2 95 (by decide) j) | exact fun _ => mm_dy8_no w169_7 w169_8 | exact fun _ => (by rw [show x59_5 = x293_9 by omega]; exact ⟨w293_11, w293_12⟩), by first | exact fun _ => ⟨fun j => g2c.2 94 (by decide) j, fun j => g2c.2 95 (by decide) j⟩ | exact fun q => absurd (by omega) q⟩⟩
