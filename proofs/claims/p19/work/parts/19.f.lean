set_option maxRecDepth 100000 in
set_option maxHeartbeats 4000000 in
theorem c_X12_worth (l : Launch) (hl : l.stackTraces = false) (d : Nat) (hd : 1 ≤ d) (h : mH) (i0 : mm_inv h) (p1 : Int) (bp1 : 0 ≤ p1 ∧ p1 ≤ 2399) (t0 : ∃ f, mm_ok (mm_cd h) f p1 0) : mm_Met l d yX12_worth cX12_worth 6 (some .int) [mR 66, mI p1] h (mm_pi fun r h2 => (-2147483648 ≤ r ∧ r ≤ 2147483647) ∧ mm_inv h2 ∧ mm_fr [] [111] h h2) mm_nx 0 0 := by
  refine mm_ofW (ls := [mR 66, mI p1, mU, mU, mU, mU]) hl (by decide) rfl (Nat.le_of_ble_eq_true rfl) ?_
  intro x hxl C T hnm htb
  subst hxl
  have C1 := mm_OK_le (d' := d - 1 + 1) (by omega) C
  refine mm_rng (fun hr _ => ?_)
  have ap1 : -2147483648 ≤ p1 ∧ p1 < 2147483648 := mm_ok_at hr (i := 1) rfl
  have f0 : mm_fr [] [111] h h := mm_fr_rf
  refine mm_iconst C (mm_dec dk_X12_worth 0 rfl) ⟨by decide, by decide⟩ ?_
  refine mm_istore_nL (ls2 := [mR 66, mI p1, mI 0, mU, mU, mU]) C (mm_dec dk_X12_worth 1 rfl) (by decide) rfl ?_
  refine mm_iload_n C (mm_dec dk_X12_worth 2 rfl) rfl ?_
  have J4 : ∀ (n : Nat) (x4_2 : Int) (bx4_2 : 0 ≤ x4_2 ∧ x4_2 ≤ 520) (x4_3 : Int) (bx4_3 : 0 ≤ x4_3 ∧ x4_3 ≤ 2399) (h4_ : mH) (i4_ : mm_inv h4_) (f4_ : mm_fr [] [111] h h4_) (w4_0 : ∃ f, mm_ok (mm_cd h) f x4_3 x4_2), (2399 - x4_3 : Int) < n → mm_W x 0 0 4 [mR 66, mU, mI x4_2, mI x4_3, mU, mU] [] h4_ := by
    intro n
    induction n with
    | zero =>
      intro x4_2 bx4_2 x4_3 bx4_3 h4_ i4_ f4_ w4_0 hm
      exfalso; omega
    | succ n ih4 =>
      intro x4_2 bx4_2 x4_3 bx4_3 h4_ i4_ f4_ w4_0 hm4
      obtain ⟨zf, zo⟩ := w4_0
      have zr := mm_ok_rg zo
      have zk : h4_.2.1 107 x4_3 = h.2.1 107 x4_3 := f4_.2 107 (by decide) _
      refine mm_aload_n C (mm_dec dk_X12_worth 4 rfl) rfl ?_
      refine mm_getr (t := 107) C fl_X12_132 (mm_dec dk_X12_worth 5 rfl) rfl rfl (mm_ref i4_ rfl) ?_
      refine mm_iload_n C (mm_dec dk_X12_worth 6 rfl) rfl ?_
      refine mm_iald C (mm_dec dk_X12_worth 7 rfl) rfl (by omega) (by omega) ?_
      have g1 : -2147483648 ≤ (h4_.2.1 107 x4_3) ∧ (h4_.2.1 107 x4_3) ≤ 2147483647 := i4_.2.1 107 x4_3
      refine mm_if_eq (tgt := 158) C (mm_dec dk_X12_worth 8 rfl) (by decide) (fun c10 => ?_) (fun c10 => ?_)
      · skip
        refine mm_aload_n C (mm_dec dk_X12_worth 89 rfl) rfl ?_
        refine mm_getr (t := 111) C fl_X12_144 (mm_dec dk_X12_worth 90 rfl) rfl rfl (mm_ref i4_ rfl) ?_
        refine mm_iconst C (mm_dec dk_X12_worth 91 rfl) ⟨by decide, by decide⟩ ?_
        refine mm_iald C (mm_dec dk_X12_worth 92 rfl) rfl (by omega) (by omega) ?_
        have g2 : -2147483648 ≤ (h4_.2.1 111 0) ∧ (h4_.2.1 111 0) ≤ 2147483647 := i4_.2.1 111 0
        exact mm_iret C T (mm_dec dk_X12_worth 93 rfl) (by decide : 0 ≤ 0) (by decide : 0 ≤ 0) ⟨_, rfl, ⟨⟨by omega, by omega⟩, i4_, f4_⟩⟩
      · skip
        refine mm_aload_n C (mm_dec dk_X12_worth 9 rfl) rfl ?_
        refine mm_getr (t := 107) C fl_X12_132 (mm_dec dk_X12_worth 10 rfl) rfl rfl (mm_ref i4_ rfl) ?_
        refine mm_iload_n C (mm_dec dk_X12_worth 11 rfl) rfl ?_
        refine mm_iald C (mm_dec dk_X12_worth 12 rfl) rfl (by omega) (by omega) ?_
        refine mm_istoreL (ls2 := [mR 66, mU, mI x4_2, mI x4_3, mI (h4_.2.1 107 x4_3), mU]) C (mm_dec dk_X12_worth 13 rfl) (by decide) rfl ?_
        refine mm_iincL (ls2 := [mR 66, mU, mI x4_2, mI (x4_3 + 1), mI (h4_.2.1 107 x4_3), mU]) C (mm_dec dk_X12_worth 14 rfl) rfl (by decide) ⟨by omega, by omega⟩ rfl ?_
        refine mm_iload C (mm_dec dk_X12_worth 15 rfl) rfl ?_
        refine mm_iconst C (mm_dec dk_X12_worth 16 rfl) ⟨by decide, by decide⟩ ?_
        have J155 : ∀ (x155_2 : Int) (bx155_2 : 0 ≤ x155_2 ∧ x155_2 ≤ 520) (x155_3 : Int) (bx155_3 : 0 ≤ x155_3 ∧ x155_3 ≤ 2399) (h155_ : mH) (i155_ : mm_inv h155_) (f155_ : mm_fr [] [111] h h155_) (w155_0 : ∃ f, mm_ok (mm_cd h) f x155_3 x155_2) (w155_1 : x4_3 + 1 ≤ x155_3), mm_W x 0 0 155 [mR 66, mU, mI x155_2, mI x155_3, mU, mU] [] h155_ := by
          intro x155_2 bx155_2 x155_3 bx155_3 h155_ i155_ f155_ w155_0 w155_1
          refine mm_goto (tgt := 4) C (mm_dec dk_X12_worth 88 rfl) (by decide) ?_
          exact ih4 x155_2 ⟨by omega, by omega⟩ x155_3 ⟨by omega, by omega⟩ h155_ i155_ f155_ (by first | exact t0 | exact w155_0) (by omega)
        have J92 : ∀ (w92_0 : ((h4_.2.1 107 x4_3) < 1 ∨ 3 < (h4_.2.1 107 x4_3))), mm_W x 0 0 92 [mR 66, mU, mI x4_2, mI (x4_3 + 1), mI (h4_.2.1 107 x4_3), mU] [] h4_ := by
          intro w92_0
          refine mm_iload C (mm_dec dk_X12_worth 49 rfl) rfl ?_
          refine mm_iconst C (mm_dec dk_X12_worth 50 rfl) ⟨by decide, by decide⟩ ?_
          refine mm_icmp_ne (tgt := 125) C (mm_dec dk_X12_worth 51 rfl) (by decide) (fun c95 => ?_) (fun c95 => ?_)
          · skip
            obtain ⟨zp1, zf2, zo2⟩ := mm_ok_bin zo (by omega)
            have zr2 := mm_ok_rg zo2
            refine mm_iincL (ls2 := [mR 66, mU, mI (x4_2 + (-1)), mI (x4_3 + 1), mI (h4_.2.1 107 x4_3), mU]) C (mm_dec dk_X12_worth 69 rfl) rfl (by decide) ⟨by omega, by omega⟩ rfl ?_
            refine mm_aload_n C (mm_dec dk_X12_worth 70 rfl) rfl ?_
            refine mm_getr (t := 111) C fl_X12_144 (mm_dec dk_X12_worth 71 rfl) rfl rfl (mm_ref i4_ rfl) ?_
            refine mm_iload_n C (mm_dec dk_X12_worth 72 rfl) rfl ?_
            refine mm_iconst C (mm_dec dk_X12_worth 73 rfl) ⟨by decide, by decide⟩ ?_
            refine mm_isub C (mm_dec dk_X12_worth 74 rfl) ⟨by omega, by omega⟩ ?_
            refine mm_iload C (mm_dec dk_X12_worth 75 rfl) rfl ?_
            refine mm_aload_n C (mm_dec dk_X12_worth 76 rfl) rfl ?_
            refine mm_getr (t := 111) C fl_X12_144 (mm_dec dk_X12_worth 77 rfl) rfl rfl (mm_ref i4_ rfl) ?_
            refine mm_iload_n C (mm_dec dk_X12_worth 78 rfl) rfl ?_
            refine mm_iconst C (mm_dec dk_X12_worth 79 rfl) ⟨by decide, by decide⟩ ?_
            refine mm_isub C (mm_dec dk_X12_worth 80 rfl) ⟨by omega, by omega⟩ ?_
            refine mm_iald C (mm_dec dk_X12_worth 81 rfl) rfl (by omega) (by omega) ?_
            have g3 : -2147483648 ≤ (h4_.2.1 111 ((x4_2 + (-1)) - 1)) ∧ (h4_.2.1 111 ((x4_2 + (-1)) - 1)) ≤ 2147483647 := i4_.2.1 111 ((x4_2 + (-1)) - 1)
            refine mm_aload_n C (mm_dec dk_X12_worth 82 rfl) rfl ?_
            refine mm_getr (t := 111) C fl_X12_144 (mm_dec dk_X12_worth 83 rfl) rfl rfl (mm_ref i4_ rfl) ?_
            refine mm_iload_n C (mm_dec dk_X12_worth 84 rfl) rfl ?_
            refine mm_iald C (mm_dec dk_X12_worth 85 rfl) rfl (by omega) (by omega) ?_
            have g4 : -2147483648 ≤ (h4_.2.1 111 (x4_2 + (-1))) ∧ (h4_.2.1 111 (x4_2 + (-1))) ≤ 2147483647 := i4_.2.1 111 (x4_2 + (-1))
            refine mm_cSi (rest := [mI ((x4_2 + (-1)) - 1), mR 111]) C1 es_X12_463 (mm_dec dk_X12_worth 86 rfl) (c_X12_works x.2.1 hl (d - 1) (by omega) h4_ i4_ (h4_.2.1 107 x4_3) (h4_.2.1 111 ((x4_2 + (-1)) - 1)) (h4_.2.1 111 (x4_2 + (-1)))) rfl (Nat.le_of_ble_eq_true rfl) ⟨by decide, by decide⟩ rfl (fun r151 h151c hp151 => ?_) (fun _ _ q => q.elim)
            obtain ⟨b151, z151⟩ := hp151
            rw [z151]
            refine mm_iast C (mm_dec dk_X12_worth 87 rfl) rfl (by omega) (by omega) ?_
            have i1 : mm_inv (mm_pa h4_ 111 ((x4_2 + (-1)) - 1) r151) := mm_inv_pa i4_ (show -2147483648 ≤ r151 ∧ r151 ≤ 2147483647 from ⟨by omega, by omega⟩)
            have f1 : mm_fr [] [111] h (mm_pa h4_ 111 ((x4_2 + (-1)) - 1) r151) := mm_fr_pa f4_ (by decide)
            obtain ⟨h1, eh1⟩ : ∃ z, z = mm_pa h4_ 111 ((x4_2 + (-1)) - 1) r151 := ⟨_, rfl⟩
            rw [← eh1] at i1 f1 ⊢
            refine mm_fgt 4 ?_
            exact J155 (x4_2 + (-1)) ⟨by omega, by omega⟩ (x4_3 + 1) ⟨by omega, by omega⟩ h1 i1 f1 (by first | exact ⟨_, zo2⟩ | (rw [show x4_3 + 1 + 1 = x4_3 + 2 by omega]; exact ⟨_, zo2⟩)) (by omega)
          · skip
            obtain ⟨zp1, zf2, zo2⟩ := mm_ok_no zo (by omega)
            have zr2 := mm_ok_rg zo2
            refine mm_aload_n C (mm_dec dk_X12_worth 52 rfl) rfl ?_
            refine mm_getr (t := 111) C fl_X12_144 (mm_dec dk_X12_worth 53 rfl) rfl rfl (mm_ref i4_ rfl) ?_
            refine mm_iload_n C (mm_dec dk_X12_worth 54 rfl) rfl ?_
            refine mm_iconst C (mm_dec dk_X12_worth 55 rfl) ⟨by decide, by decide⟩ ?_
            refine mm_isub C (mm_dec dk_X12_worth 56 rfl) ⟨by omega, by omega⟩ ?_
            refine mm_aload_n C (mm_dec dk_X12_worth 57 rfl) rfl ?_
            refine mm_getr (t := 111) C fl_X12_144 (mm_dec dk_X12_worth 58 rfl) rfl rfl (mm_ref i4_ rfl) ?_
            refine mm_iload_n C (mm_dec dk_X12_worth 59 rfl) rfl ?_
            refine mm_iconst C (mm_dec dk_X12_worth 60 rfl) ⟨by decide, by decide⟩ ?_
            refine mm_isub C (mm_dec dk_X12_worth 61 rfl) ⟨by omega, by omega⟩ ?_
            refine mm_iald C (mm_dec dk_X12_worth 62 rfl) rfl (by omega) (by omega) ?_
            have g6 : -2147483648 ≤ (h4_.2.1 111 (x4_2 - 1)) ∧ (h4_.2.1 111 (x4_2 - 1)) ≤ 2147483647 := i4_.2.1 111 (x4_2 - 1)
            have J121 : ∀ (s121_2 : Int) (bs121_2 : 0 ≤ s121_2 ∧ s121_2 ≤ 1) (vs121_2 : ((h4_.2.1 111 (x4_2 - 1)) ≠ 0 ∧ s121_2 = 0) ∨ ((h4_.2.1 111 (x4_2 - 1)) = 0 ∧ s121_2 = 1)), mm_W x 0 0 121 [mR 66, mU, mI x4_2, mI (x4_3 + 1), mU, mU] [mI s121_2, mI (x4_2 - 1), mR 111] h4_ := by
              intro s121_2 bs121_2 vs121_2
              refine mm_iast C (mm_dec dk_X12_worth 67 rfl) rfl (by omega) (by omega) ?_
              have i2 : mm_inv (mm_pa h4_ 111 (x4_2 - 1) s121_2) := mm_inv_pa i4_ (show -2147483648 ≤ s121_2 ∧ s121_2 ≤ 2147483647 from ⟨by omega, by omega⟩)
              have f2 : mm_fr [] [111] h (mm_pa h4_ 111 (x4_2 - 1) s121_2) := mm_fr_pa f4_ (by decide)
              obtain ⟨h2, eh2⟩ : ∃ z, z = mm_pa h4_ 111 (x4_2 - 1) s121_2 := ⟨_, rfl⟩
              rw [← eh2] at i2 f2 ⊢
              refine mm_goto (tgt := 155) C (mm_dec dk_X12_worth 68 rfl) (by decide) ?_
              exact J155 x4_2 ⟨by omega, by omega⟩ (x4_3 + 1) ⟨by omega, by omega⟩ h2 i2 f2 (by first | exact ⟨_, zo2⟩ | (rw [show x4_3 + 1 + 1 = x4_3 + 2 by omega]; exact ⟨_, zo2⟩)) (by omega)
            refine mm_if_ne (tgt := 120) C (mm_dec dk_X12_worth 63 rfl) (by decide) (fun c113 => ?_) (fun c113 => ?_)
            · skip
              refine mm_iconst C (mm_dec dk_X12_worth 66 rfl) ⟨by decide, by decide⟩ ?_
              refine mm_fgt 4 ?_
              exact J121 0 ⟨by omega, by omega⟩ (Or.inl ⟨by omega, rfl⟩)
            · skip
              refine mm_iconst C (mm_dec dk_X12_worth 64 rfl) ⟨by decide, by decide⟩ ?_
              refine mm_goto (tgt := 121) C (mm_dec dk_X12_worth 65 rfl) (by decide) ?_
              refine mm_fgt 4 ?_
              exact J121 1 ⟨by omega, by omega⟩ (Or.inr (⟨by omega, rfl⟩))
        refine mm_icmp_lt (tgt := 92) C (mm_dec dk_X12_worth 17 rfl) (by decide) (fun c27 => ?_) (fun c27 => ?_)
        · skip
          exact J92 (by omega)
        · skip
          refine mm_iload C (mm_dec dk_X12_worth 18 rfl) rfl ?_
          refine mm_iconst C (mm_dec dk_X12_worth 19 rfl) ⟨by decide, by decide⟩ ?_
          refine mm_icmp_gt (tgt := 92) C (mm_dec dk_X12_worth 20 rfl) (by decide) (fun c33 => ?_) (fun c33 => ?_)
          · skip
            exact J92 (by omega)
          · skip
            obtain ⟨zp1, zp2, zp3, zp4, zf2, zo2⟩ := mm_ok_push zo (by omega) (by omega)
            have zr2 := mm_ok_rg zo2
            have zk2 : h4_.2.1 107 (x4_3 + 1) = h.2.1 107 (x4_3 + 1) := f4_.2 107 (by decide) _
            refine mm_aload_n C (mm_dec dk_X12_worth 21 rfl) rfl ?_
            refine mm_getr (t := 107) C fl_X12_132 (mm_dec dk_X12_worth 22 rfl) rfl rfl (mm_ref i4_ rfl) ?_
            refine mm_iload_n C (mm_dec dk_X12_worth 23 rfl) rfl ?_
            refine mm_iald C (mm_dec dk_X12_worth 24 rfl) rfl (by omega) (by omega) ?_
            have g7 : -2147483648 ≤ (h4_.2.1 107 (x4_3 + 1)) ∧ (h4_.2.1 107 (x4_3 + 1)) ≤ 2147483647 := i4_.2.1 107 (x4_3 + 1)
            refine mm_istoreL (ls2 := [mR 66, mU, mI x4_2, mI (x4_3 + 1), mI (h4_.2.1 107 x4_3), mI (h4_.2.1 107 (x4_3 + 1))]) C (mm_dec dk_X12_worth 25 rfl) (by decide) rfl ?_
            refine mm_iincL (ls2 := [mR 66, mU, mI x4_2, mI ((x4_3 + 1) + 1), mI (h4_.2.1 107 x4_3), mI (h4_.2.1 107 (x4_3 + 1))]) C (mm_dec dk_X12_worth 26 rfl) rfl (by decide) ⟨by omega, by omega⟩ rfl ?_
            refine mm_aload_n C (mm_dec dk_X12_worth 27 rfl) rfl ?_
            refine mm_getr (t := 111) C fl_X12_144 (mm_dec dk_X12_worth 28 rfl) rfl rfl (mm_ref i4_ rfl) ?_
            refine mm_iload_n C (mm_dec dk_X12_worth 29 rfl) rfl ?_
            refine mm_iload C (mm_dec dk_X12_worth 30 rfl) rfl ?_
            refine mm_iconst C (mm_dec dk_X12_worth 31 rfl) ⟨by decide, by decide⟩ ?_
            have J85 : ∀ (s85_2 : Int) (bs85_2 : -2147483648 ≤ s85_2 ∧ s85_2 ≤ 2147483647), mm_W x 0 0 85 [mR 66, mU, mI x4_2, mI ((x4_3 + 1) + 1), mU, mU] [mI s85_2, mI x4_2, mR 111] h4_ := by
              intro s85_2 bs85_2
              refine mm_iast C (mm_dec dk_X12_worth 46 rfl) rfl (by omega) (by omega) ?_
              have i3 : mm_inv (mm_pa h4_ 111 x4_2 s85_2) := mm_inv_pa i4_ (show -2147483648 ≤ s85_2 ∧ s85_2 ≤ 2147483647 from ⟨by omega, by omega⟩)
              have f3 : mm_fr [] [111] h (mm_pa h4_ 111 x4_2 s85_2) := mm_fr_pa f4_ (by decide)
              obtain ⟨h3, eh3⟩ : ∃ z, z = mm_pa h4_ 111 x4_2 s85_2 := ⟨_, rfl⟩
              rw [← eh3] at i3 f3 ⊢
              refine mm_iincL (ls2 := [mR 66, mU, mI (x4_2 + 1), mI ((x4_3 + 1) + 1), mU, mU]) C (mm_dec dk_X12_worth 47 rfl) rfl (by decide) ⟨by omega, by omega⟩ rfl ?_
              refine mm_goto (tgt := 155) C (mm_dec dk_X12_worth 48 rfl) (by decide) ?_
              exact J155 (x4_2 + 1) ⟨by omega, by omega⟩ ((x4_3 + 1) + 1) ⟨by omega, by omega⟩ h3 i3 f3 (by first | exact ⟨_, zo2⟩ | (rw [show x4_3 + 1 + 1 = x4_3 + 2 by omega]; exact ⟨_, zo2⟩)) (by omega)
            refine mm_icmp_ne (tgt := 63) C (mm_dec dk_X12_worth 32 rfl) (by decide) (fun c55 => ?_) (fun c55 => ?_)
            · skip
              refine mm_iload C (mm_dec dk_X12_worth 35 rfl) rfl ?_
              refine mm_iconst C (mm_dec dk_X12_worth 36 rfl) ⟨by decide, by decide⟩ ?_
              refine mm_icmp_ne (tgt := 79) C (mm_dec dk_X12_worth 37 rfl) (by decide) (fun c66 => ?_) (fun c66 => ?_)
              · skip
                refine mm_aload_n C (mm_dec dk_X12_worth 43 rfl) rfl ?_
                refine mm_iload C (mm_dec dk_X12_worth 44 rfl) rfl ?_
                refine mm_cVi (rest := [mI x4_2, mR 111]) C1 ev_X12_460 (mm_dec dk_X12_worth 45 rfl) (c_X12_paramOf x.2.1 hl (d - 1) (by omega) h4_ i4_ (h4_.2.1 107 (x4_3 + 1)) ⟨by omega, by omega⟩) rfl rfl (Nat.le_of_ble_eq_true rfl) ⟨by decide, by decide⟩ rfl (fun r82 h82c hp82 => ?_) (fun _ _ q => q.elim)
                obtain ⟨z82, y82⟩ := hp82
                rw [z82]
                have g9 : 0 ≤ (h4_.1 66 67) ∧ (h4_.1 66 67) ≤ 1 := i4_.1 66 67
                have g10 : -2147483648 ≤ (h4_.2.1 102 ((3 * (h4_.1 66 68)) + (h4_.2.1 107 (x4_3 + 1)))) ∧ (h4_.2.1 102 ((3 * (h4_.1 66 68)) + (h4_.2.1 107 (x4_3 + 1)))) ≤ 2147483647 := i4_.2.1 102 ((3 * (h4_.1 66 68)) + (h4_.2.1 107 (x4_3 + 1)))
                have g11 : 0 ≤ (h4_.1 66 68) ∧ (h4_.1 66 68) ≤ 1 := i4_.1 66 68
                refine mm_fgt 4 ?_
                refine mm_fgt 5 ?_
                exact J85 r82 ⟨by omega, by omega⟩
              · skip
                refine mm_aload_n C (mm_dec dk_X12_worth 38 rfl) rfl ?_
                refine mm_getr (t := 110) C fl_X12_141 (mm_dec dk_X12_worth 39 rfl) rfl rfl (mm_ref i4_ rfl) ?_
                refine mm_iload C (mm_dec dk_X12_worth 40 rfl) rfl ?_
                refine mm_iald C (mm_dec dk_X12_worth 41 rfl) rfl (by omega) (by omega) ?_
                have g12 : -2147483648 ≤ (h4_.2.1 110 (h4_.2.1 107 (x4_3 + 1))) ∧ (h4_.2.1 110 (h4_.2.1 107 (x4_3 + 1))) ≤ 2147483647 := i4_.2.1 110 (h4_.2.1 107 (x4_3 + 1))
                refine mm_goto (tgt := 85) C (mm_dec dk_X12_worth 42 rfl) (by decide) ?_
                refine mm_fgt 4 ?_
                refine mm_fgt 5 ?_
                exact J85 (h4_.2.1 110 (h4_.2.1 107 (x4_3 + 1))) ⟨by omega, by omega⟩
            · skip
              refine mm_iload C (mm_dec dk_X12_worth 33 rfl) rfl ?_
              refine mm_goto (tgt := 85) C (mm_dec dk_X12_worth 34 rfl) (by decide) ?_
              refine mm_fgt 4 ?_
              refine mm_fgt 5 ?_
              exact J85 (h4_.2.1 107 (x4_3 + 1)) ⟨by omega, by omega⟩
  refine mm_istore_nL (ls2 := [mR 66, mI p1, mI 0, mI p1, mU, mU]) C (mm_dec dk_X12_worth 3 rfl) (by decide) rfl ?_
  refine mm_fgt 1 ?_
  exact J4 (((2399 - p1) : Int) + 1).toNat 0 ⟨by omega, by omega⟩ p1 ⟨by omega, by omega⟩ h i0 f0 (by first | exact t0 | exact w155_0) (by omega)
set_option maxRecDepth 100000 in
set_option maxHeartbeats 4000000 in
theorem c_X12_clauseWorth (l : Launch) (hl : l.stackTraces = false) (d : Nat) (hd : 2 ≤ d) (h : mH) (i0 : mm_inv h) (p1 : Int) (bp1 : 0 ≤ p1 ∧ p1 ≤ 39) (t0 : (∃ f, mm_ok (mm_cd h) f (h.2.1 105 p1) 0) ∧ (h.2.1 106 p1 = -1 ∨ ∃ f, mm_ok (mm_cd h) f (h.2.1 106 p1) 0)) : mm_Met l d yX12_clauseWorth cX12_clauseWorth 2 (some .int) [mR 66, mI p1] h (mm_pi fun r h2 => (-2147483648 ≤ r ∧ r ≤ 2147483647) ∧ mm_inv h2 ∧ mm_fr [] [111] h h2) mm_nx 0 0 := by
  refine mm_ofW (ls := [mR 66, mI p1]) hl (by decide) rfl (Nat.le_of_ble_eq_true rfl) ?_
  intro x hxl C T hnm htb
  subst hxl
  have C1 := mm_OK_le (d' := d - 1 + 1) (by omega) C
  refine mm_rng (fun hr _ => ?_)
  have ap1 : -2147483648 ≤ p1 ∧ p1 < 2147483648 := mm_ok_at hr (i := 1) rfl
  have f0 : mm_fr [] [111] h h := mm_fr_rf
  refine mm_aload_n C (mm_dec dk_X12_clauseWorth 0 rfl) rfl ?_
  refine mm_getr (t := 106) C fl_X12_129 (mm_dec dk_X12_clauseWorth 1 rfl) rfl rfl (mm_ref i0 rfl) ?_
  refine mm_iload_n C (mm_dec dk_X12_clauseWorth 2 rfl) rfl ?_
  refine mm_iald C (mm_dec dk_X12_clauseWorth 3 rfl) rfl (by omega) (by omega) ?_
  have g1 : -1 ≤ (h.2.1 106 p1) ∧ (h.2.1 106 p1) ≤ 2399 := i0.2.1 106 p1
  refine mm_iconst C (mm_dec dk_X12_clauseWorth 4 rfl) ⟨by decide, by decide⟩ ?_
  have J37 : ∀ (s37_0 : Int) (bs37_0 : -2147483648 ≤ s37_0 ∧ s37_0 ≤ 2147483647) (h37_ : mH) (i37_ : mm_inv h37_) (f37_ : mm_fr [] [111] h h37_), mm_W x 0 0 37 [mU, mU] [mI s37_0] h37_ := by
    intro s37_0 bs37_0 h37_ i37_ f37_
    exact mm_iret C T (mm_dec dk_X12_clauseWorth 21 rfl) (by decide : 0 ≤ 0) (by decide : 0 ≤ 0) ⟨_, rfl, ⟨⟨by omega, by omega⟩, i37_, f37_⟩⟩
  have J27 : ∀ (h27_ : mH) (i27_ : mm_inv h27_) (f27_ : mm_fr [] [111] h h27_), mm_W x 0 0 27 [mR 66, mI p1] [] h27_ := by
    intro h27_ i27_ f27_
    refine mm_aload_n C (mm_dec dk_X12_clauseWorth 15 rfl) rfl ?_
    refine mm_aload_n C (mm_dec dk_X12_clauseWorth 16 rfl) rfl ?_
    refine mm_getr (t := 105) C fl_X12_126 (mm_dec dk_X12_clauseWorth 17 rfl) rfl rfl (mm_ref i27_ rfl) ?_
    refine mm_iload_n C (mm_dec dk_X12_clauseWorth 18 rfl) rfl ?_
    refine mm_iald C (mm_dec dk_X12_clauseWorth 19 rfl) rfl (by omega) (by omega) ?_
    have g2 : 0 ≤ (h27_.2.1 105 p1) ∧ (h27_.2.1 105 p1) ≤ 2399 := i27_.2.1 105 p1
    refine mm_cVi (rest := []) C1 ev_X12_466 (mm_dec dk_X12_clauseWorth 20 rfl) (c_X12_worth x.2.1 hl (d - 1) (by omega) h27_ i27_ (h27_.2.1 105 p1) ⟨by omega, by omega⟩ (by exact mm_okx_fr t0.1 f27_ (by decide))) rfl rfl (Nat.le_of_ble_eq_true rfl) ⟨by decide, by decide⟩ rfl (fun r34 h34c hp34 => ?_) (fun _ _ q => q.elim)
    obtain ⟨b34, i34c, g34c⟩ := hp34
    have f34c : mm_fr [] [111] h h34c := mm_fr_tr f27_ g34c (by decide +kernel)
    refine mm_fgt 0 ?_
    refine mm_fgt 1 ?_
    exact J37 r34 ⟨by omega, by omega⟩ h34c i34c f34c
  refine mm_icmp_eq (tgt := 27) C (mm_dec dk_X12_clauseWorth 5 rfl) (by decide) (fun c7 => ?_) (fun c7 => ?_)
  · skip
    exact J27 h i0 f0
  · skip
    refine mm_aload_n C (mm_dec dk_X12_clauseWorth 6 rfl) rfl ?_
    refine mm_aload_n C (mm_dec dk_X12_clauseWorth 7 rfl) rfl ?_
    refine mm_getr (t := 106) C fl_X12_129 (mm_dec dk_X12_clauseWorth 8 rfl) rfl rfl (mm_ref i0 rfl) ?_
    refine mm_iload_n C (mm_dec dk_X12_clauseWorth 9 rfl) rfl ?_
    refine mm_iald C (mm_dec dk_X12_clauseWorth 10 rfl) rfl (by omega) (by omega) ?_
    refine mm_cVi (rest := []) C1 ev_X12_466 (mm_dec dk_X12_clauseWorth 11 rfl) (c_X12_worth x.2.1 hl (d - 1) (by omega) h i0 (h.2.1 106 p1) ⟨by omega, by omega⟩ (by exact t0.2.resolve_left (by omega))) rfl rfl (Nat.le_of_ble_eq_true rfl) ⟨by decide, by decide⟩ rfl (fun r17 h17c hp17 => ?_) (fun _ _ q => q.elim)
    obtain ⟨b17, i17c, g17c⟩ := hp17
    have f17c : mm_fr [] [111] h h17c := mm_fr_tr f0 g17c (by decide +kernel)
    refine mm_if_eq (tgt := 27) C (mm_dec dk_X12_clauseWorth 12 rfl) (by decide) (fun c20 => ?_) (fun c20 => ?_)
    · skip
      exact J27 h17c i17c f17c
    · skip
      refine mm_iconst C (mm_dec dk_X12_clauseWorth 13 rfl) ⟨by decide, by decide⟩ ?_
      refine mm_goto (tgt := 37) C (mm_dec dk_X12_clauseWorth 14 rfl) (by decide) ?_
      refine mm_fgt 0 ?_
      refine mm_fgt 1 ?_
      exact J37 0 ⟨by omega, by omega⟩ h17c i17c f17c
set_option maxRecDepth 100000 in
set_option maxHeartbeats 4000000 in
theorem c_X12_asks (l : Launch) (hl : l.stackTraces = false) (d : Nat) (hd : 4 ≤ d) (h : mH) (i0 : mm_inv h) (p1 : Int) (p2 : Int) (bp1 : 0 ≤ p1 ∧ p1 ≤ 39) (t0 : mm_RO h) : mm_Met l d yX12_asks cX12_asks 8 none [mR 66, mI p1, mI p2] h (mm_pv fun h2 => mm_inv h2 ∧ mm_fr [(66, 39), (66, 48), (66, 52), (66, 53), (66, 54), (66, 87), (66, 88)] [91, 98, 99, 100, 110, 111] h h2) mm_nx 0 0 := by
  refine mm_ofW (ls := [mR 66, mI p1, mI p2, mU, mU, mU, mU, mU]) hl (by decide) rfl (Nat.le_of_ble_eq_true rfl) ?_
  intro x hxl C T hnm htb
  subst hxl
  have C1 := mm_OK_le (d' := d - 1 + 1) (by omega) C
  refine mm_rng (fun hr _ => ?_)
  have ap1 : -2147483648 ≤ p1 ∧ p1 < 2147483648 := mm_ok_at hr (i := 1) rfl
  have ap2 : -2147483648 ≤ p2 ∧ p2 < 2147483648 := mm_ok_at hr (i := 2) rfl
  have f0 : mm_fr [(66, 39), (66, 48), (66, 52), (66, 53), (66, 54), (66, 87), (66, 88)] [91, 98, 99, 100, 110, 111] h h := mm_fr_rf
  refine mm_aload_n C (mm_dec dk_X12_asks 0 rfl) rfl ?_
  refine mm_iload_n C (mm_dec dk_X12_asks 1 rfl) rfl ?_
  refine mm_iload_n C (mm_dec dk_X12_asks 2 rfl) rfl ?_
  refine mm_cVv (rest := []) C1 ev_X12_469 (mm_dec dk_X12_asks 3 rfl) (c_X12_judges x.2.1 hl (d - 1) (by omega) h i0 p1 p2 ⟨by omega, by omega⟩) rfl rfl (Nat.le_of_ble_eq_true rfl) ⟨by decide, by decide⟩ rfl (fun h3c hp3 => ?_) (fun _ _ q => q.elim)
  obtain ⟨i3c, g3c⟩ := hp3
  have f3c : mm_fr [(66, 39), (66, 48), (66, 52), (66, 53), (66, 54), (66, 87), (66, 88)] [91, 98, 99, 100, 110, 111] h h3c := mm_fr_tr f0 g3c (by decide +kernel)
  refine mm_aload_n C (mm_dec dk_X12_asks 4 rfl) rfl ?_
  refine mm_iload_n C (mm_dec dk_X12_asks 5 rfl) rfl ?_
  refine mm_iload_n C (mm_dec dk_X12_asks 6 rfl) rfl ?_
  refine mm_cVi (rest := []) C1 ev_X12_472 (mm_dec dk_X12_asks 7 rfl) (c_X12_startOf x.2.1 hl (d - 1) (by omega) h3c i3c p1 p2 ⟨by omega, by omega⟩) rfl rfl (Nat.le_of_ble_eq_true rfl) ⟨by decide, by decide⟩ rfl (fun r9 h9c hp9 => ?_) (fun _ _ q => q.elim)
  obtain ⟨b9, z9⟩ := hp9
  rw [z9]
  refine mm_istore_nL (ls2 := [mR 66, mI p1, mI p2, mI r9, mU, mU, mU, mU]) C (mm_dec dk_X12_asks 8 rfl) (by decide) rfl ?_
  refine mm_aload_n C (mm_dec dk_X12_asks 9 rfl) rfl ?_
  refine mm_iload_n C (mm_dec dk_X12_asks 10 rfl) rfl ?_
  refine mm_iload_n C (mm_dec dk_X12_asks 11 rfl) rfl ?_
  refine mm_cVi (rest := []) C1 ev_X12_326 (mm_dec dk_X12_asks 12 rfl) (c_X12_finishOf x.2.1 hl (d - 1) (by omega) h3c i3c p1 p2 ⟨by omega, by omega⟩) rfl rfl (Nat.le_of_ble_eq_true rfl) ⟨by decide, by decide⟩ rfl (fun r16 h16c hp16 => ?_) (fun _ _ q => q.elim)
  obtain ⟨b16, z16⟩ := hp16
  rw [z16]
  refine mm_istoreL (ls2 := [mR 66, mI p1, mI p2, mI r9, mI r16, mU, mU, mU]) C (mm_dec dk_X12_asks 13 rfl) (by decide) rfl ?_
  refine mm_aload_n C (mm_dec dk_X12_asks 14 rfl) rfl ?_
  refine mm_getr (t := 110) C fl_X12_141 (mm_dec dk_X12_asks 15 rfl) rfl rfl (mm_ref i3c rfl) ?_
  refine mm_iconst C (mm_dec dk_X12_asks 16 rfl) ⟨by decide, by decide⟩ ?_
  refine mm_aload_n C (mm_dec dk_X12_asks 17 rfl) rfl ?_
  refine mm_geti C fl_X12_341 (mm_dec dk_X12_asks 18 rfl) rfl rfl (Or.inl rfl) ?_
  have g4 : -2147483648 ≤ (h3c.1 66 52) ∧ (h3c.1 66 52) ≤ 2147483647 := i3c.1 66 52
  refine mm_iast C (mm_dec dk_X12_asks 19 rfl) rfl (by omega) (by omega) ?_
  have i2 : mm_inv (mm_pa h3c 110 0 (h3c.1 66 52)) := mm_inv_pa i3c (show -2147483648 ≤ (h3c.1 66 52) ∧ (h3c.1 66 52) ≤ 2147483647 from ⟨by omega, by omega⟩)
  have f2 : mm_fr [(66, 39), (66, 48), (66, 52), (66, 53), (66, 54), (66, 87), (66, 88)] [91, 98, 99, 100, 110, 111] h (mm_pa h3c 110 0 (h3c.1 66 52)) := mm_fr_pa f3c (by decide)
  obtain ⟨h2, eh2⟩ : ∃ z, z = mm_pa h3c 110 0 (h3c.1 66 52) := ⟨_, rfl⟩
  rw [← eh2] at i2 f2 ⊢
  have qh2_5 : h2.1 66 52 = h3c.1 66 52 := by rw [eh2]; rfl
  refine mm_aload_n C (mm_dec dk_X12_asks 20 rfl) rfl ?_
  refine mm_getr (t := 110) C fl_X12_141 (mm_dec dk_X12_asks 21 rfl) rfl rfl (mm_ref i2 rfl) ?_
  refine mm_iconst C (mm_dec dk_X12_asks 22 rfl) ⟨by decide, by decide⟩ ?_
  refine mm_aload_n C (mm_dec dk_X12_asks 23 rfl) rfl ?_
  refine mm_geti C fl_X12_332 (mm_dec dk_X12_asks 24 rfl) rfl rfl (Or.inl rfl) ?_
  have g6 : -2147483648 ≤ (h2.1 66 53) ∧ (h2.1 66 53) ≤ 2147483647 := i2.1 66 53
  refine mm_iast C (mm_dec dk_X12_asks 25 rfl) rfl (by omega) (by omega) ?_
  have i3 : mm_inv (mm_pa h2 110 1 (h2.1 66 53)) := mm_inv_pa i2 (show -2147483648 ≤ (h2.1 66 53) ∧ (h2.1 66 53) ≤ 2147483647 from ⟨by omega, by omega⟩)
  have f3 : mm_fr [(66, 39), (66, 48), (66, 52), (66, 53), (66, 54), (66, 87), (66, 88)] [91, 98, 99, 100, 110, 111] h (mm_pa h2 110 1 (h2.1 66 53)) := mm_fr_pa f2 (by decide)
  obtain ⟨h3, eh3⟩ : ∃ z, z = mm_pa h2 110 1 (h2.1 66 53) := ⟨_, rfl⟩
  rw [← eh3] at i3 f3 ⊢
  have qh3_7 : h3.1 66 52 = h2.1 66 52 := by rw [eh3]; rfl
  have qh3_8 : h3.1 66 53 = h2.1 66 53 := by rw [eh3]; rfl
  refine mm_aload_n C (mm_dec dk_X12_asks 26 rfl) rfl ?_
  refine mm_getr (t := 110) C fl_X12_141 (mm_dec dk_X12_asks 27 rfl) rfl rfl (mm_ref i3 rfl) ?_
  refine mm_iconst C (mm_dec dk_X12_asks 28 rfl) ⟨by decide, by decide⟩ ?_
  refine mm_iload_n C (mm_dec dk_X12_asks 29 rfl) rfl ?_
  refine mm_iconst C (mm_dec dk_X12_asks 30 rfl) ⟨by decide, by decide⟩ ?_
  have J65 : ∀ (s65_2 : Int) (bs65_2 : -2147483648 ≤ s65_2 ∧ s65_2 ≤ 2147483647), mm_W x 0 0 65 [mR 66, mI p1, mU, mU, mU, mU, mU, mU] [mI s65_2, mI 2, mR 110] h3 := by
    intro s65_2 bs65_2
    refine mm_iast C (mm_dec dk_X12_asks 40 rfl) rfl (by omega) (by omega) ?_
    have i4 : mm_inv (mm_pa h3 110 2 s65_2) := mm_inv_pa i3 (show -2147483648 ≤ s65_2 ∧ s65_2 ≤ 2147483647 from ⟨by omega, by omega⟩)
    have f4 : mm_fr [(66, 39), (66, 48), (66, 52), (66, 53), (66, 54), (66, 87), (66, 88)] [91, 98, 99, 100, 110, 111] h (mm_pa h3 110 2 s65_2) := mm_fr_pa f3 (by decide)
    obtain ⟨h4, eh4⟩ : ∃ z, z = mm_pa h3 110 2 s65_2 := ⟨_, rfl⟩
    rw [← eh4] at i4 f4 ⊢
    have qh4_9 : h4.1 66 52 = h3.1 66 52 := by rw [eh4]; rfl
    have qh4_10 : h4.1 66 53 = h3.1 66 53 := by rw [eh4]; rfl
    refine mm_aload_n C (mm_dec dk_X12_asks 41 rfl) rfl ?_
    refine mm_getr (t := 110) C fl_X12_141 (mm_dec dk_X12_asks 42 rfl) rfl rfl (mm_ref i4 rfl) ?_
    refine mm_iconst C (mm_dec dk_X12_asks 43 rfl) ⟨by decide, by decide⟩ ?_
    refine mm_aload_n C (mm_dec dk_X12_asks 44 rfl) rfl ?_
    refine mm_geti C fl_X12_347 (mm_dec dk_X12_asks 45 rfl) rfl rfl (Or.inl rfl) ?_
    have g11 : -2147483648 ≤ (h4.1 66 54) ∧ (h4.1 66 54) ≤ 2147483647 := i4.1 66 54
    refine mm_iast C (mm_dec dk_X12_asks 46 rfl) rfl (by omega) (by omega) ?_
    have i5 : mm_inv (mm_pa h4 110 3 (h4.1 66 54)) := mm_inv_pa i4 (show -2147483648 ≤ (h4.1 66 54) ∧ (h4.1 66 54) ≤ 2147483647 from ⟨by omega, by omega⟩)
    have f5 : mm_fr [(66, 39), (66, 48), (66, 52), (66, 53), (66, 54), (66, 87), (66, 88)] [91, 98, 99, 100, 110, 111] h (mm_pa h4 110 3 (h4.1 66 54)) := mm_fr_pa f4 (by decide)
    obtain ⟨h5, eh5⟩ : ∃ z, z = mm_pa h4 110 3 (h4.1 66 54) := ⟨_, rfl⟩
    rw [← eh5] at i5 f5 ⊢
    have qh5_12 : h5.1 66 52 = h4.1 66 52 := by rw [eh5]; rfl
    have qh5_13 : h5.1 66 53 = h4.1 66 53 := by rw [eh5]; rfl
    have qh5_14 : h5.1 66 54 = h4.1 66 54 := by rw [eh5]; rfl
    refine mm_aload_n C (mm_dec dk_X12_asks 47 rfl) rfl ?_
    refine mm_getr (t := 110) C fl_X12_141 (mm_dec dk_X12_asks 48 rfl) rfl rfl (mm_ref i5 rfl) ?_
    refine mm_iconst C (mm_dec dk_X12_asks 49 rfl) ⟨by decide, by decide⟩ ?_
    refine mm_aload_n C (mm_dec dk_X12_asks 50 rfl) rfl ?_
    refine mm_geti C fl_X12_296 (mm_dec dk_X12_asks 51 rfl) rfl rfl (Or.inl rfl) ?_
    have g15 : 0 ≤ (h5.1 66 39) ∧ (h5.1 66 39) ≤ 12 := i5.1 66 39
    refine mm_iast C (mm_dec dk_X12_asks 52 rfl) rfl (by omega) (by omega) ?_
    have i6 : mm_inv (mm_pa h5 110 4 (h5.1 66 39)) := mm_inv_pa i5 (show -2147483648 ≤ (h5.1 66 39) ∧ (h5.1 66 39) ≤ 2147483647 from ⟨by omega, by omega⟩)
    have f6 : mm_fr [(66, 39), (66, 48), (66, 52), (66, 53), (66, 54), (66, 87), (66, 88)] [91, 98, 99, 100, 110, 111] h (mm_pa h5 110 4 (h5.1 66 39)) := mm_fr_pa f5 (by decide)
    obtain ⟨h6, eh6⟩ : ∃ z, z = mm_pa h5 110 4 (h5.1 66 39) := ⟨_, rfl⟩
    rw [← eh6] at i6 f6 ⊢
    have qh6_16 : h6.1 66 39 = h5.1 66 39 := by rw [eh6]; rfl
    have qh6_17 : h6.1 66 52 = h5.1 66 52 := by rw [eh6]; rfl
    have qh6_18 : h6.1 66 53 = h5.1 66 53 := by rw [eh6]; rfl
    have qh6_19 : h6.1 66 54 = h5.1 66 54 := by rw [eh6]; rfl
    refine mm_aload_n C (mm_dec dk_X12_asks 53 rfl) rfl ?_
    refine mm_getr (t := 110) C fl_X12_141 (mm_dec dk_X12_asks 54 rfl) rfl rfl (mm_ref i6 rfl) ?_
    refine mm_iconst C (mm_dec dk_X12_asks 55 rfl) ⟨by decide, by decide⟩ ?_
    refine mm_aload_n C (mm_dec dk_X12_asks 56 rfl) rfl ?_
    refine mm_getr (t := 86) C fl_X12_69 (mm_dec dk_X12_asks 57 rfl) rfl rfl (mm_ref i6 rfl) ?_
    refine mm_iload_n C (mm_dec dk_X12_asks 58 rfl) rfl ?_
    refine mm_iald C (mm_dec dk_X12_asks 59 rfl) rfl (by omega) (by omega) ?_
    have g20 : 0 ≤ (h6.2.1 86 p1) ∧ (h6.2.1 86 p1) ≤ 9 := i6.2.1 86 p1
    refine mm_iast C (mm_dec dk_X12_asks 60 rfl) rfl (by omega) (by omega) ?_
    have i7 : mm_inv (mm_pa h6 110 5 (h6.2.1 86 p1)) := mm_inv_pa i6 (show -2147483648 ≤ (h6.2.1 86 p1) ∧ (h6.2.1 86 p1) ≤ 2147483647 from ⟨by omega, by omega⟩)
    have f7 : mm_fr [(66, 39), (66, 48), (66, 52), (66, 53), (66, 54), (66, 87), (66, 88)] [91, 98, 99, 100, 110, 111] h (mm_pa h6 110 5 (h6.2.1 86 p1)) := mm_fr_pa f6 (by decide)
    obtain ⟨h7, eh7⟩ : ∃ z, z = mm_pa h6 110 5 (h6.2.1 86 p1) := ⟨_, rfl⟩
    rw [← eh7] at i7 f7 ⊢
    have qh7_21 : h7.1 66 39 = h6.1 66 39 := by rw [eh7]; rfl
    have qh7_22 : h7.1 66 52 = h6.1 66 52 := by rw [eh7]; rfl
    have qh7_23 : h7.1 66 53 = h6.1 66 53 := by rw [eh7]; rfl
    have qh7_24 : h7.1 66 54 = h6.1 66 54 := by rw [eh7]; rfl
    refine mm_aload_n C (mm_dec dk_X12_asks 61 rfl) rfl ?_
    refine mm_getr (t := 110) C fl_X12_141 (mm_dec dk_X12_asks 62 rfl) rfl rfl (mm_ref i7 rfl) ?_
    refine mm_bipush C (mm_dec dk_X12_asks 63 rfl) ⟨by decide, by decide⟩ ?_
    refine mm_aload_n C (mm_dec dk_X12_asks 64 rfl) rfl ?_
    refine mm_getr (t := 83) C fl_X12_60 (mm_dec dk_X12_asks 65 rfl) rfl rfl (mm_ref i7 rfl) ?_
    refine mm_aload_n C (mm_dec dk_X12_asks 66 rfl) rfl ?_
    refine mm_getr (t := 85) C fl_X12_66 (mm_dec dk_X12_asks 67 rfl) rfl rfl (mm_ref i7 rfl) ?_
    refine mm_iload_n C (mm_dec dk_X12_asks 68 rfl) rfl ?_
    refine mm_iald C (mm_dec dk_X12_asks 69 rfl) rfl (by omega) (by omega) ?_
    have g25 : 0 ≤ (h7.2.1 85 p1) ∧ (h7.2.1 85 p1) ≤ 7 := i7.2.1 85 p1
    refine mm_zald C (mm_dec dk_X12_asks 70 rfl) rfl (by omega) (by omega) ?_
    have g26 : 0 ≤ (h7.2.1 83 (h7.2.1 85 p1)) ∧ (h7.2.1 83 (h7.2.1 85 p1)) ≤ 1 := i7.2.1 83 (h7.2.1 85 p1)
    have J123 : ∀ (s123_2 : Int) (bs123_2 : 0 ≤ s123_2 ∧ s123_2 ≤ 1) (vs123_2 : ((h7.2.1 83 (h7.2.1 85 p1)) = 0 ∧ s123_2 = 0) ∨ ((h7.2.1 83 (h7.2.1 85 p1)) ≠ 0 ∧ s123_2 = 1)), mm_W x 0 0 123 [mR 66, mU, mU, mU, mU, mU, mU, mU] [mI s123_2, mI 6, mR 110] h7 := by
      intro s123_2 bs123_2 vs123_2
      refine mm_iast C (mm_dec dk_X12_asks 75 rfl) rfl (by omega) (by omega) ?_
      have i8 : mm_inv (mm_pa h7 110 6 s123_2) := mm_inv_pa i7 (show -2147483648 ≤ s123_2 ∧ s123_2 ≤ 2147483647 from ⟨by omega, by omega⟩)
      have f8 : mm_fr [(66, 39), (66, 48), (66, 52), (66, 53), (66, 54), (66, 87), (66, 88)] [91, 98, 99, 100, 110, 111] h (mm_pa h7 110 6 s123_2) := mm_fr_pa f7 (by decide)
      obtain ⟨h8, eh8⟩ : ∃ z, z = mm_pa h7 110 6 s123_2 := ⟨_, rfl⟩
      rw [← eh8] at i8 f8 ⊢
      have qh8_27 : h8.1 66 39 = h7.1 66 39 := by rw [eh8]; rfl
      have qh8_28 : h8.1 66 52 = h7.1 66 52 := by rw [eh8]; rfl
      have qh8_29 : h8.1 66 53 = h7.1 66 53 := by rw [eh8]; rfl
      have qh8_30 : h8.1 66 54 = h7.1 66 54 := by rw [eh8]; rfl
      refine mm_aload_n C (mm_dec dk_X12_asks 76 rfl) rfl ?_
      refine mm_iconst C (mm_dec dk_X12_asks 77 rfl) ⟨by decide, by decide⟩ ?_
      refine mm_puti C fl_X12_475 (mm_dec dk_X12_asks 78 rfl) rfl rfl rfl (Or.inl ⟨rfl, rfl⟩) ?_
      have i9 : mm_inv (mm_pf h8 66 87 0) := mm_inv_pf i8 (show -2147483648 ≤ 0 ∧ 0 ≤ 2147483647 from ⟨by omega, by omega⟩) (by decide)
      have f9 : mm_fr [(66, 39), (66, 48), (66, 52), (66, 53), (66, 54), (66, 87), (66, 88)] [91, 98, 99, 100, 110, 111] h (mm_pf h8 66 87 0) := mm_fr_pf f8 (by decide)
      obtain ⟨h9, eh9⟩ : ∃ z, z = mm_pf h8 66 87 0 := ⟨_, rfl⟩
      rw [← eh9] at i9 f9 ⊢
      have qh9 : h9.1 66 87 = 0 := by rw [eh9]; exact mm_pf_same _ _ _ _
      have qh9_31 : h9.1 66 39 = h8.1 66 39 := by rw [eh9]; exact mm_pf_ne _ _ (by decide)
      have qh9_32 : h9.1 66 52 = h8.1 66 52 := by rw [eh9]; exact mm_pf_ne _ _ (by decide)
      have qh9_33 : h9.1 66 53 = h8.1 66 53 := by rw [eh9]; exact mm_pf_ne _ _ (by decide)
      have qh9_34 : h9.1 66 54 = h8.1 66 54 := by rw [eh9]; exact mm_pf_ne _ _ (by decide)
      refine mm_aload_n C (mm_dec dk_X12_asks 79 rfl) rfl ?_
      refine mm_iconst C (mm_dec dk_X12_asks 80 rfl) ⟨by decide, by decide⟩ ?_
      refine mm_puti C fl_X12_478 (mm_dec dk_X12_asks 81 rfl) rfl rfl rfl (Or.inr ⟨rfl, rfl, by omega⟩) ?_
      have i10 : mm_inv (mm_pf h9 66 88 0) := mm_inv_pf i9 (show 0 ≤ 0 ∧ 0 ≤ 1 from ⟨by omega, by omega⟩) (by decide)
      have f10 : mm_fr [(66, 39), (66, 48), (66, 52), (66, 53), (66, 54), (66, 87), (66, 88)] [91, 98, 99, 100, 110, 111] h (mm_pf h9 66 88 0) := mm_fr_pf f9 (by decide)
      obtain ⟨h10, eh10⟩ : ∃ z, z = mm_pf h9 66 88 0 := ⟨_, rfl⟩
      rw [← eh10] at i10 f10 ⊢
      have qh10 : h10.1 66 88 = 0 := by rw [eh10]; exact mm_pf_same _ _ _ _
      have qh10_35 : h10.1 66 39 = h9.1 66 39 := by rw [eh10]; exact mm_pf_ne _ _ (by decide)
      have qh10_36 : h10.1 66 52 = h9.1 66 52 := by rw [eh10]; exact mm_pf_ne _ _ (by decide)
      have qh10_37 : h10.1 66 53 = h9.1 66 53 := by rw [eh10]; exact mm_pf_ne _ _ (by decide)
      have qh10_38 : h10.1 66 54 = h9.1 66 54 := by rw [eh10]; exact mm_pf_ne _ _ (by decide)
      have qh10_39 : h10.1 66 87 = h9.1 66 87 := by rw [eh10]; exact mm_pf_ne _ _ (by decide)
      refine mm_iconst C (mm_dec dk_X12_asks 82 rfl) ⟨by decide, by decide⟩ ?_
      have J137 : ∀ (n : Nat) (x137_5 : Int) (bx137_5 : 0 ≤ x137_5 ∧ x137_5 ≤ 20) (h137_ : mH) (i137_ : mm_inv h137_) (f137_ : mm_fr [(66, 39), (66, 48), (66, 52), (66, 53), (66, 54), (66, 87), (66, 88)] [91, 98, 99, 100, 110, 111] h h137_), (20 - x137_5 : Int) < n → mm_W x 0 0 137 [mR 66, mU, mU, mU, mU, mI x137_5, mU, mU] [] h137_ := by
        intro n
        induction n with
        | zero =>
          intro x137_5 bx137_5 h137_ i137_ f137_ hm
          exfalso; omega
        | succ n ih137 =>
          intro x137_5 bx137_5 h137_ i137_ f137_ hm137
          refine mm_aload_n C (mm_dec dk_X12_asks 84 rfl) rfl ?_
          refine mm_geti C fl_X12_240 (mm_dec dk_X12_asks 85 rfl) rfl rfl (Or.inr rfl) ?_
          have g40 : 0 ≤ (h137_.1 66 67) ∧ (h137_.1 66 67) ≤ 1 := i137_.1 66 67
          have J271 : mm_W x 0 0 271 [mU, mU, mU, mU, mU, mU, mU, mU] [] h137_ := by
            exact mm_vret C T (mm_dec dk_X12_asks 146 rfl) (by decide : 0 ≤ 0) (by decide : 0 ≤ 0) ⟨rfl, ⟨i137_, f137_⟩⟩
          refine mm_if_eq (tgt := 271) C (mm_dec dk_X12_asks 86 rfl) (by decide) (fun c141 => ?_) (fun c141 => ?_)
          · skip
            refine mm_fgt 0 ?_
            refine mm_fgt 5 ?_
            exact J271
          · skip
            refine mm_iload C (mm_dec dk_X12_asks 87 rfl) rfl ?_
            refine mm_aload_n C (mm_dec dk_X12_asks 88 rfl) rfl ?_
            refine mm_getr (t := 103) C fl_X12_120 (mm_dec dk_X12_asks 89 rfl) rfl rfl (mm_ref i137_ rfl) ?_
            refine mm_aload_n C (mm_dec dk_X12_asks 90 rfl) rfl ?_
            refine mm_geti C fl_X12_454 (mm_dec dk_X12_asks 91 rfl) rfl rfl (Or.inl rfl) ?_
            have g41 : 0 ≤ (h137_.1 66 68) ∧ (h137_.1 66 68) ≤ 1 := i137_.1 66 68
            refine mm_iald C (mm_dec dk_X12_asks 92 rfl) rfl (by omega) (by omega) ?_
            have g42 : 0 ≤ (h137_.2.1 103 (h137_.1 66 68)) ∧ (h137_.2.1 103 (h137_.1 66 68)) ≤ 20 := i137_.2.1 103 (h137_.1 66 68)
            refine mm_icmp_ge (tgt := 271) C (mm_dec dk_X12_asks 93 rfl) (by decide) (fun c155 => ?_) (fun c155 => ?_)
            · skip
              refine mm_fgt 0 ?_
              refine mm_fgt 5 ?_
              exact J271
            · skip
              refine mm_bipush C (mm_dec dk_X12_asks 94 rfl) ⟨by decide, by decide⟩ ?_
              refine mm_aload_n C (mm_dec dk_X12_asks 95 rfl) rfl ?_
              refine mm_geti C fl_X12_454 (mm_dec dk_X12_asks 96 rfl) rfl rfl (Or.inl rfl) ?_
              refine mm_imul C (mm_dec dk_X12_asks 97 rfl) ⟨by omega, by omega⟩ ?_
              refine mm_iload C (mm_dec dk_X12_asks 98 rfl) rfl ?_
              refine mm_iadd C (mm_dec dk_X12_asks 99 rfl) ⟨by omega, by omega⟩ ?_
              refine mm_istoreL (ls2 := [mR 66, mU, mU, mU, mU, mI x137_5, mI ((20 * (h137_.1 66 68)) + x137_5), mU]) C (mm_dec dk_X12_asks 100 rfl) (by decide) rfl ?_
              refine mm_aload_n C (mm_dec dk_X12_asks 101 rfl) rfl ?_
              refine mm_getr (t := 104) C fl_X12_123 (mm_dec dk_X12_asks 102 rfl) rfl rfl (mm_ref i137_ rfl) ?_
              refine mm_iload C (mm_dec dk_X12_asks 103 rfl) rfl ?_
              refine mm_iald C (mm_dec dk_X12_asks 104 rfl) rfl (by omega) (by omega) ?_
              have g43 : -2147483648 ≤ (h137_.2.1 104 ((20 * (h137_.1 66 68)) + x137_5)) ∧ (h137_.2.1 104 ((20 * (h137_.1 66 68)) + x137_5)) ≤ 2147483647 := i137_.2.1 104 ((20 * (h137_.1 66 68)) + x137_5)
              refine mm_iconst C (mm_dec dk_X12_asks 105 rfl) ⟨by decide, by decide⟩ ?_
              have J265 : ∀ (h265_ : mH) (i265_ : mm_inv h265_) (f265_ : mm_fr [(66, 39), (66, 48), (66, 52), (66, 53), (66, 54), (66, 87), (66, 88)] [91, 98, 99, 100, 110, 111] h h265_), mm_W x 0 0 265 [mR 66, mU, mU, mU, mU, mI x137_5, mU, mU] [] h265_ := by
                intro h265_ i265_ f265_
                refine mm_iincL (ls2 := [mR 66, mU, mU, mU, mU, mI (x137_5 + 1), mU, mU]) C (mm_dec dk_X12_asks 144 rfl) rfl (by decide) ⟨by omega, by omega⟩ rfl ?_
                refine mm_goto (tgt := 137) C (mm_dec dk_X12_asks 145 rfl) (by decide) ?_
                exact ih137 (x137_5 + 1) ⟨by omega, by omega⟩ h265_ i265_ f265_ (by omega)
              refine mm_icmp_ne (tgt := 184) C (mm_dec dk_X12_asks 106 rfl) (by decide) (fun c178 => ?_) (fun c178 => ?_)
              · skip
                refine mm_aload_n C (mm_dec dk_X12_asks 108 rfl) rfl ?_
                refine mm_iload C (mm_dec dk_X12_asks 109 rfl) rfl ?_
                refine mm_cVi (rest := []) C1 ev_X12_481 (mm_dec dk_X12_asks 110 rfl) (c_X12_clauseWorth x.2.1 hl (d - 1) (by omega) h137_ i137_ ((20 * (h137_.1 66 68)) + x137_5) ⟨by omega, by omega⟩ (by exact mm_RO_use (mm_RO_fr t0 f137_ (by decide)) (by omega) (by omega) (by omega) (by omega))) rfl rfl (Nat.le_of_ble_eq_true rfl) ⟨by decide, by decide⟩ rfl (fun r187 h187c hp187 => ?_) (fun _ _ q => q.elim)
                obtain ⟨b187, i187c, g187c⟩ := hp187
                have f187c : mm_fr [(66, 39), (66, 48), (66, 52), (66, 53), (66, 54), (66, 87), (66, 88)] [91, 98, 99, 100, 110, 111] h h187c := mm_fr_tr f137_ g187c (by decide +kernel)
                have q187c_45 : h187c.1 66 67 = h137_.1 66 67 := g187c.1 66 67 (by decide)
                have q187c_46 : h187c.1 66 68 = h137_.1 66 68 := g187c.1 66 68 (by decide)
                refine mm_istoreL (ls2 := [mR 66, mU, mU, mU, mU, mI x137_5, mI ((20 * (h137_.1 66 68)) + x137_5), mI r187]) C (mm_dec dk_X12_asks 111 rfl) (by decide) rfl ?_
                refine mm_aload_n C (mm_dec dk_X12_asks 112 rfl) rfl ?_
                refine mm_getr (t := 104) C fl_X12_123 (mm_dec dk_X12_asks 113 rfl) rfl rfl (mm_ref i187c rfl) ?_
                refine mm_iload C (mm_dec dk_X12_asks 114 rfl) rfl ?_
                refine mm_iald C (mm_dec dk_X12_asks 115 rfl) rfl (by omega) (by omega) ?_
                have g47 : -2147483648 ≤ (h187c.2.1 104 ((20 * (h137_.1 66 68)) + x137_5)) ∧ (h187c.2.1 104 ((20 * (h137_.1 66 68)) + x137_5)) ≤ 2147483647 := i187c.2.1 104 ((20 * (h137_.1 66 68)) + x137_5)
                refine mm_if_ne (tgt := 244) C (mm_dec dk_X12_asks 116 rfl) (by decide) (fun c199 => ?_) (fun c199 => ?_)
                · skip
                  refine mm_aload_n C (mm_dec dk_X12_asks 134 rfl) rfl ?_
                  refine mm_aload_n C (mm_dec dk_X12_asks 135 rfl) rfl ?_
                  refine mm_geti C fl_X12_478 (mm_dec dk_X12_asks 136 rfl) rfl rfl (Or.inr rfl) ?_
                  have g48 : 0 ≤ (h187c.1 66 88) ∧ (h187c.1 66 88) ≤ 1 := i187c.1 66 88
                  have J262 : ∀ (s262_1 : Int) (bs262_1 : 0 ≤ s262_1 ∧ s262_1 ≤ 1) (vs262_1 : ((h187c.1 66 88) = 0 ∧ r187 = 0 ∧ s262_1 = 0) ∨ (s262_1 = 1)), mm_W x 0 0 262 [mR 66, mU, mU, mU, mU, mI x137_5, mU, mU] [mI s262_1, mR 66] h187c := by
                    intro s262_1 bs262_1 vs262_1
                    refine mm_puti C fl_X12_478 (mm_dec dk_X12_asks 143 rfl) rfl rfl rfl (Or.inr ⟨rfl, rfl, by omega⟩) ?_
                    have i12 : mm_inv (mm_pf h187c 66 88 s262_1) := mm_inv_pf i187c (show 0 ≤ s262_1 ∧ s262_1 ≤ 1 from ⟨by omega, by omega⟩) (by decide)
                    have f12 : mm_fr [(66, 39), (66, 48), (66, 52), (66, 53), (66, 54), (66, 87), (66, 88)] [91, 98, 99, 100, 110, 111] h (mm_pf h187c 66 88 s262_1) := mm_fr_pf f187c (by decide)
                    obtain ⟨h12, eh12⟩ : ∃ z, z = mm_pf h187c 66 88 s262_1 := ⟨_, rfl⟩
                    rw [← eh12] at i12 f12 ⊢
                    have qh12 : h12.1 66 88 = s262_1 := by rw [eh12]; exact mm_pf_same _ _ _ _
                    have qh12_49 : h12.1 66 67 = h187c.1 66 67 := by rw [eh12]; exact mm_pf_ne _ _ (by decide)
                    have qh12_50 : h12.1 66 68 = h187c.1 66 68 := by rw [eh12]; exact mm_pf_ne _ _ (by decide)
                    exact J265 h12 i12 f12
                  have J257 : mm_W x 0 0 257 [mR 66, mU, mU, mU, mU, mI x137_5, mU, mU] [mR 66] h187c := by
                    refine mm_iconst C (mm_dec dk_X12_asks 140 rfl) ⟨by decide, by decide⟩ ?_
                    refine mm_goto (tgt := 262) C (mm_dec dk_X12_asks 141 rfl) (by decide) ?_
                    exact J262 1 ⟨by omega, by omega⟩ (Or.inr (rfl))
                  refine mm_if_ne (tgt := 257) C (mm_dec dk_X12_asks 137 rfl) (by decide) (fun c249 => ?_) (fun c249 => ?_)
                  · skip
                    refine mm_fgt 6 ?_
                    refine mm_fgt 7 ?_
                    exact J257
                  · skip
                    refine mm_iload C (mm_dec dk_X12_asks 138 rfl) rfl ?_
                    refine mm_if_eq (tgt := 261) C (mm_dec dk_X12_asks 139 rfl) (by decide) (fun c254 => ?_) (fun c254 => ?_)
                    · skip
                      refine mm_iconst C (mm_dec dk_X12_asks 142 rfl) ⟨by decide, by decide⟩ ?_
                      refine mm_fgt 6 ?_
                      refine mm_fgt 7 ?_
                      exact J262 0 ⟨by omega, by omega⟩ (Or.inl ⟨by omega, by omega, rfl⟩)
                    · skip
                      refine mm_fgt 6 ?_
                      refine mm_fgt 7 ?_
                      exact J257
                · skip
                  refine mm_aload_n C (mm_dec dk_X12_asks 117 rfl) rfl ?_
                  refine mm_dup C (mm_dec dk_X12_asks 118 rfl) (show (2 : Nat) ≠ 1 by decide) ?_
                  refine mm_geti C fl_X12_475 (mm_dec dk_X12_asks 119 rfl) rfl rfl (Or.inl rfl) ?_
                  have g51 : -2147483648 ≤ (h187c.1 66 87) ∧ (h187c.1 66 87) ≤ 2147483647 := i187c.1 66 87
                  refine mm_iload C (mm_dec dk_X12_asks 120 rfl) rfl ?_
                  refine mm_sipush C (mm_dec dk_X12_asks 121 rfl) ⟨by decide, by decide⟩ ?_
                  have J237 : ∀ (s237_2 : Int) (bs237_2 : -9999 ≤ s237_2 ∧ s237_2 ≤ 9999), mm_W x 0 0 237 [mR 66, mU, mU, mU, mU, mI x137_5, mU, mU] [mI s237_2, mI (h187c.1 66 87), mR 66] h187c := by
                    intro s237_2 bs237_2
                    refine mm_iaddw C (mm_dec dk_X12_asks 131 rfl) ?_
                    have g52 : -2147483648 ≤ (mm_w ((h187c.1 66 87) + s237_2)) ∧ (mm_w ((h187c.1 66 87) + s237_2)) < 2147483648 := mm_w_rg _
                    refine mm_puti C fl_X12_475 (mm_dec dk_X12_asks 132 rfl) rfl rfl rfl (Or.inl ⟨rfl, rfl⟩) ?_
                    have i13 : mm_inv (mm_pf h187c 66 87 (mm_w ((h187c.1 66 87) + s237_2))) := mm_inv_pf i187c (show -2147483648 ≤ (mm_w ((h187c.1 66 87) + s237_2)) ∧ (mm_w ((h187c.1 66 87) + s237_2)) ≤ 2147483647 from ⟨by omega, by omega⟩) (by decide)
                    have f13 : mm_fr [(66, 39), (66, 48), (66, 52), (66, 53), (66, 54), (66, 87), (66, 88)] [91, 98, 99, 100, 110, 111] h (mm_pf h187c 66 87 (mm_w ((h187c.1 66 87) + s237_2))) := mm_fr_pf f187c (by decide)
                    obtain ⟨h13, eh13⟩ : ∃ z, z = mm_pf h187c 66 87 (mm_w ((h187c.1 66 87) + s237_2)) := ⟨_, rfl⟩
                    rw [← eh13] at i13 f13 ⊢
                    have qh13 : h13.1 66 87 = (mm_w ((h187c.1 66 87) + s237_2)) := by rw [eh13]; exact mm_pf_same _ _ _ _
                    have qh13_53 : h13.1 66 67 = h187c.1 66 67 := by rw [eh13]; exact mm_pf_ne _ _ (by decide)
                    have qh13_54 : h13.1 66 68 = h187c.1 66 68 := by rw [eh13]; exact mm_pf_ne _ _ (by decide)
                    refine mm_goto (tgt := 265) C (mm_dec dk_X12_asks 133 rfl) (by decide) ?_
                    exact J265 h13 i13 f13
                  refine mm_icmp_ge (tgt := 221) C (mm_dec dk_X12_asks 122 rfl) (by decide) (fun c212 => ?_) (fun c212 => ?_)
                  · skip
                    refine mm_iload C (mm_dec dk_X12_asks 125 rfl) rfl ?_
                    refine mm_sipush C (mm_dec dk_X12_asks 126 rfl) ⟨by decide, by decide⟩ ?_
                    refine mm_icmp_le (tgt := 235) C (mm_dec dk_X12_asks 127 rfl) (by decide) (fun c226 => ?_) (fun c226 => ?_)
                    · skip
                      refine mm_iload C (mm_dec dk_X12_asks 130 rfl) rfl ?_
                      refine mm_fgt 6 ?_
                      refine mm_fgt 7 ?_
                      exact J237 r187 ⟨by omega, by omega⟩
                    · skip
                      refine mm_sipush C (mm_dec dk_X12_asks 128 rfl) ⟨by decide, by decide⟩ ?_
                      refine mm_goto (tgt := 237) C (mm_dec dk_X12_asks 129 rfl) (by decide) ?_
                      refine mm_fgt 6 ?_
                      refine mm_fgt 7 ?_
                      exact J237 9999 ⟨by omega, by omega⟩
                  · skip
                    refine mm_sipush C (mm_dec dk_X12_asks 123 rfl) ⟨by decide, by decide⟩ ?_
                    refine mm_goto (tgt := 237) C (mm_dec dk_X12_asks 124 rfl) (by decide) ?_
                    refine mm_fgt 6 ?_
                    refine mm_fgt 7 ?_
                    exact J237 (-9999) ⟨by omega, by omega⟩
              · skip
                refine mm_goto (tgt := 265) C (mm_dec dk_X12_asks 107 rfl) (by decide) ?_
                refine mm_fgt 6 ?_
                exact J265 h137_ i137_ f137_
      refine mm_istoreL (ls2 := [mR 66, mU, mU, mU, mU, mI 0, mU, mU]) C (mm_dec dk_X12_asks 83 rfl) (by decide) rfl ?_
      exact J137 (((20 - 0) : Int) + 1).toNat 0 ⟨by omega, by omega⟩ h10 i10 f10 (by omega)
    refine mm_if_eq (tgt := 122) C (mm_dec dk_X12_asks 71 rfl) (by decide) (fun c115 => ?_) (fun c115 => ?_)
    · skip
      refine mm_iconst C (mm_dec dk_X12_asks 74 rfl) ⟨by decide, by decide⟩ ?_
      refine mm_fgt 1 ?_
      exact J123 0 ⟨by omega, by omega⟩ (Or.inl ⟨by omega, rfl⟩)
    · skip
      refine mm_iconst C (mm_dec dk_X12_asks 72 rfl) ⟨by decide, by decide⟩ ?_
      refine mm_goto (tgt := 123) C (mm_dec dk_X12_asks 73 rfl) (by decide) ?_
      refine mm_fgt 1 ?_
      exact J123 1 ⟨by omega, by omega⟩ (Or.inr (⟨by omega, rfl⟩))
  have J57 : mm_W x 0 0 57 [mR 66, mI p1, mU, mU, mU, mU, mU, mU] [mI 2, mR 110] h3 := by
    refine mm_iconst C (mm_dec dk_X12_asks 35 rfl) ⟨by decide, by decide⟩ ?_
    refine mm_goto (tgt := 65) C (mm_dec dk_X12_asks 36 rfl) (by decide) ?_
    exact J65 0 ⟨by omega, by omega⟩
  refine mm_icmp_eq (tgt := 57) C (mm_dec dk_X12_asks 31 rfl) (by decide) (fun c48 => ?_) (fun c48 => ?_)
  · skip
    refine mm_fgt 2 ?_
    refine mm_fgt 3 ?_
    refine mm_fgt 4 ?_
    exact J57
  · skip
    refine mm_iload C (mm_dec dk_X12_asks 32 rfl) rfl ?_
    refine mm_iconst C (mm_dec dk_X12_asks 33 rfl) ⟨by decide, by decide⟩ ?_
    refine mm_icmp_ne (tgt := 61) C (mm_dec dk_X12_asks 34 rfl) (by decide) (fun c54 => ?_) (fun c54 => ?_)
    · skip
      refine mm_iload C (mm_dec dk_X12_asks 37 rfl) rfl ?_
      refine mm_iload_n C (mm_dec dk_X12_asks 38 rfl) rfl ?_
      refine mm_isubw C (mm_dec dk_X12_asks 39 rfl) ?_
      have g55 : -2147483648 ≤ (mm_w (r16 - r9)) ∧ (mm_w (r16 - r9)) < 2147483648 := mm_w_rg _
      refine mm_fgt 2 ?_
      refine mm_fgt 3 ?_
      refine mm_fgt 4 ?_
      exact J65 (mm_w (r16 - r9)) ⟨by omega, by omega⟩
    · skip
      refine mm_fgt 2 ?_
      refine mm_fgt 3 ?_
      refine mm_fgt 4 ?_
      exact J57
set_option maxRecDepth 100000 in
set_option maxHeartbeats 4000000 in
theorem c_X12_stateOf (l : Launch) (hl : l.stackTraces = false) (d : Nat) (hd : 5 ≤ d) (h : mH) (i0 : mm_inv h) (p1 : Int) (p2 : Int) (bp1 : 0 ≤ p1 ∧ p1 ≤ 39) (t0 : mm_RO h) : mm_Met l d yX12_stateOf cX12_stateOf 6 (some .int) [mR 66, mI p1, mI p2] h (mm_pi fun r h2 => (0 ≤ r ∧ r ≤ 4) ∧ mm_inv h2 ∧ mm_fr [(66, 39), (66, 48), (66, 52), (66, 53), (66, 54), (66, 87), (66, 88)] [91, 98, 99, 100, 110, 111] h h2) mm_nx 0 0 := by
  refine mm_ofW (ls := [mR 66, mI p1, mI p2, mU, mU, mU]) hl (by decide) rfl (Nat.le_of_ble_eq_true rfl) ?_
  intro x hxl C T hnm htb
  subst hxl
  have C1 := mm_OK_le (d' := d - 1 + 1) (by omega) C
  refine mm_rng (fun hr _ => ?_)
  have ap1 : -2147483648 ≤ p1 ∧ p1 < 2147483648 := mm_ok_at hr (i := 1) rfl
  have ap2 : -2147483648 ≤ p2 ∧ p2 < 2147483648 := mm_ok_at hr (i := 2) rfl
  have f0 : mm_fr [(66, 39), (66, 48), (66, 52), (66, 53), (66, 54), (66, 87), (66, 88)] [91, 98, 99, 100, 110, 111] h h := mm_fr_rf
  refine mm_aload_n C (mm_dec dk_X12_stateOf 0 rfl) rfl ?_
  refine mm_iload_n C (mm_dec dk_X12_stateOf 1 rfl) rfl ?_
  refine mm_iload_n C (mm_dec dk_X12_stateOf 2 rfl) rfl ?_
  refine mm_cVi (rest := []) C1 ev_X12_472 (mm_dec dk_X12_stateOf 3 rfl) (c_X12_startOf x.2.1 hl (d - 1) (by omega) h i0 p1 p2 ⟨by omega, by omega⟩) rfl rfl (Nat.le_of_ble_eq_true rfl) ⟨by decide, by decide⟩ rfl (fun r3 h3c hp3 => ?_) (fun _ _ q => q.elim)
  obtain ⟨b3, z3⟩ := hp3
  rw [z3]
  refine mm_istore_nL (ls2 := [mR 66, mI p1, mI p2, mI r3, mU, mU]) C (mm_dec dk_X12_stateOf 4 rfl) (by decide) rfl ?_
  refine mm_iload_n C (mm_dec dk_X12_stateOf 5 rfl) rfl ?_
  refine mm_iconst C (mm_dec dk_X12_stateOf 6 rfl) ⟨by decide, by decide⟩ ?_
  have J17 : mm_W x 0 0 17 [mU, mU, mU, mU, mU, mU] [] h := by
    refine mm_iconst C (mm_dec dk_X12_stateOf 11 rfl) ⟨by decide, by decide⟩ ?_
    exact mm_iret C T (mm_dec dk_X12_stateOf 12 rfl) (by decide : 0 ≤ 0) (by decide : 0 ≤ 0) ⟨_, rfl, ⟨⟨by omega, by omega⟩, i0, f0⟩⟩
  refine mm_icmp_eq (tgt := 17) C (mm_dec dk_X12_stateOf 7 rfl) (by decide) (fun c9 => ?_) (fun c9 => ?_)
  · skip
    refine mm_fgt 0 ?_
    refine mm_fgt 1 ?_
    refine mm_fgt 2 ?_
    refine mm_fgt 3 ?_
    exact J17
  · skip
    refine mm_iload_n C (mm_dec dk_X12_stateOf 8 rfl) rfl ?_
    refine mm_iload_n C (mm_dec dk_X12_stateOf 9 rfl) rfl ?_
    refine mm_icmp_le (tgt := 19) C (mm_dec dk_X12_stateOf 10 rfl) (by decide) (fun c14 => ?_) (fun c14 => ?_)
    · skip
      refine mm_aload_n C (mm_dec dk_X12_stateOf 13 rfl) rfl ?_
      refine mm_iload_n C (mm_dec dk_X12_stateOf 14 rfl) rfl ?_
      refine mm_iload_n C (mm_dec dk_X12_stateOf 15 rfl) rfl ?_
      refine mm_cVi (rest := []) C1 ev_X12_326 (mm_dec dk_X12_stateOf 16 rfl) (c_X12_finishOf x.2.1 hl (d - 1) (by omega) h i0 p1 p2 ⟨by omega, by omega⟩) rfl rfl (Nat.le_of_ble_eq_true rfl) ⟨by decide, by decide⟩ rfl (fun r22 h22c hp22 => ?_) (fun _ _ q => q.elim)
      obtain ⟨b22, z22⟩ := hp22
      rw [z22]
      refine mm_istoreL (ls2 := [mR 66, mI p1, mI p2, mI r3, mI r22, mU]) C (mm_dec dk_X12_stateOf 17 rfl) (by decide) rfl ?_
      refine mm_iload C (mm_dec dk_X12_stateOf 18 rfl) rfl ?_
      refine mm_iconst C (mm_dec dk_X12_stateOf 19 rfl) ⟨by decide, by decide⟩ ?_
      have J39 : mm_W x 0 0 39 [mU, mU, mU, mU, mU, mU] [] h := by
        refine mm_iconst C (mm_dec dk_X12_stateOf 24 rfl) ⟨by decide, by decide⟩ ?_
        exact mm_iret C T (mm_dec dk_X12_stateOf 25 rfl) (by decide : 0 ≤ 0) (by decide : 0 ≤ 0) ⟨_, rfl, ⟨⟨by omega, by omega⟩, i0, f0⟩⟩
      refine mm_icmp_eq (tgt := 39) C (mm_dec dk_X12_stateOf 20 rfl) (by decide) (fun c30 => ?_) (fun c30 => ?_)
      · skip
        refine mm_fgt 0 ?_
        refine mm_fgt 1 ?_
        refine mm_fgt 2 ?_
        refine mm_fgt 3 ?_
        refine mm_fgt 4 ?_
        exact J39
      · skip
        refine mm_iload C (mm_dec dk_X12_stateOf 21 rfl) rfl ?_
        refine mm_iload_n C (mm_dec dk_X12_stateOf 22 rfl) rfl ?_
        refine mm_icmp_ge (tgt := 41) C (mm_dec dk_X12_stateOf 23 rfl) (by decide) (fun c36 => ?_) (fun c36 => ?_)
        · skip
          refine mm_aload_n C (mm_dec dk_X12_stateOf 26 rfl) rfl ?_
          refine mm_iload_n C (mm_dec dk_X12_stateOf 27 rfl) rfl ?_
          refine mm_iload_n C (mm_dec dk_X12_stateOf 28 rfl) rfl ?_
          refine mm_cVi (rest := []) C1 ev_X12_484 (mm_dec dk_X12_stateOf 29 rfl) (c_X12_protested x.2.1 hl (d - 1) (by omega) h i0 p1 p2) rfl rfl (Nat.le_of_ble_eq_true rfl) ⟨by decide, by decide⟩ rfl (fun r44 h44c hp44 => ?_) (fun _ _ q => q.elim)
          obtain ⟨b44, z44⟩ := hp44
          rw [z44]
          refine mm_istoreL (ls2 := [mR 66, mI p1, mI p2, mI r3, mI r22, mI r44]) C (mm_dec dk_X12_stateOf 30 rfl) (by decide) rfl ?_
          refine mm_aload_n C (mm_dec dk_X12_stateOf 31 rfl) rfl ?_
          refine mm_iload_n C (mm_dec dk_X12_stateOf 32 rfl) rfl ?_
          refine mm_iload_n C (mm_dec dk_X12_stateOf 33 rfl) rfl ?_
          refine mm_cVv (rest := []) C1 ev_X12_487 (mm_dec dk_X12_stateOf 34 rfl) (c_X12_asks x.2.1 hl (d - 1) (by omega) h i0 p1 p2 ⟨by omega, by omega⟩ (by exact mm_RO_fr t0 f0 (by decide))) rfl rfl (Nat.le_of_ble_eq_true rfl) ⟨by decide, by decide⟩ rfl (fun h52c hp52 => ?_) (fun _ _ q => q.elim)
          obtain ⟨i52c, g52c⟩ := hp52
          have f52c : mm_fr [(66, 39), (66, 48), (66, 52), (66, 53), (66, 54), (66, 87), (66, 88)] [91, 98, 99, 100, 110, 111] h h52c := mm_fr_tr f0 g52c (by decide +kernel)
          refine mm_iload C (mm_dec dk_X12_stateOf 35 rfl) rfl ?_
          refine mm_iconst C (mm_dec dk_X12_stateOf 36 rfl) ⟨by decide, by decide⟩ ?_
          have J73 : mm_W x 0 0 73 [mU, mU, mU, mU, mU, mU] [] h52c := by
            refine mm_iconst C (mm_dec dk_X12_stateOf 43 rfl) ⟨by decide, by decide⟩ ?_
            exact mm_iret C T (mm_dec dk_X12_stateOf 44 rfl) (by decide : 0 ≤ 0) (by decide : 0 ≤ 0) ⟨_, rfl, ⟨⟨by omega, by omega⟩, i52c, f52c⟩⟩
          refine mm_icmp_eq (tgt := 73) C (mm_dec dk_X12_stateOf 37 rfl) (by decide) (fun c58 => ?_) (fun c58 => ?_)
          · skip
            refine mm_fgt 0 ?_
            refine mm_fgt 1 ?_
            refine mm_fgt 2 ?_
            refine mm_fgt 3 ?_
            refine mm_fgt 4 ?_
            refine mm_fgt 5 ?_
            exact J73
          · skip
            refine mm_iload C (mm_dec dk_X12_stateOf 38 rfl) rfl ?_
            have J75 : mm_W x 0 0 75 [mR 66, mU, mU, mU, mU, mI r44] [] h52c := by
              refine mm_iload C (mm_dec dk_X12_stateOf 45 rfl) rfl ?_
              have J92 : ∀ (s92_0 : Int) (bs92_0 : 3 ≤ s92_0 ∧ s92_0 ≤ 4) (vs92_0 : (r44 = 0 ∧ 0 < (h52c.1 66 52) ∧ s92_0 = 3) ∨ (s92_0 = 4)), mm_W x 0 0 92 [mU, mU, mU, mU, mU, mU] [mI s92_0] h52c := by
                intro s92_0 bs92_0 vs92_0
                exact mm_iret C T (mm_dec dk_X12_stateOf 53 rfl) (by decide : 0 ≤ 0) (by decide : 0 ≤ 0) ⟨_, rfl, ⟨⟨by omega, by omega⟩, i52c, f52c⟩⟩
              have J91 : mm_W x 0 0 91 [mU, mU, mU, mU, mU, mU] [] h52c := by
                refine mm_iconst C (mm_dec dk_X12_stateOf 52 rfl) ⟨by decide, by decide⟩ ?_
                exact J92 4 ⟨by omega, by omega⟩ (Or.inr (rfl))
              refine mm_if_ne (tgt := 91) C (mm_dec dk_X12_stateOf 46 rfl) (by decide) (fun c77 => ?_) (fun c77 => ?_)
              · skip
                refine mm_fgt 0 ?_
                refine mm_fgt 5 ?_
                exact J91
              · skip
                refine mm_aload_n C (mm_dec dk_X12_stateOf 47 rfl) rfl ?_
                refine mm_geti C fl_X12_341 (mm_dec dk_X12_stateOf 48 rfl) rfl rfl (Or.inl rfl) ?_
                have g5 : -2147483648 ≤ (h52c.1 66 52) ∧ (h52c.1 66 52) ≤ 2147483647 := i52c.1 66 52
                refine mm_if_le (tgt := 91) C (mm_dec dk_X12_stateOf 49 rfl) (by decide) (fun c84 => ?_) (fun c84 => ?_)
                · skip
                  refine mm_fgt 0 ?_
                  refine mm_fgt 5 ?_
                  exact J91
                · skip
                  refine mm_iconst C (mm_dec dk_X12_stateOf 50 rfl) ⟨by decide, by decide⟩ ?_
                  refine mm_goto (tgt := 92) C (mm_dec dk_X12_stateOf 51 rfl) (by decide) ?_
                  refine mm_fgt 0 ?_
                  refine mm_fgt 5 ?_
                  exact J92 3 ⟨by omega, by omega⟩ (Or.inl ⟨by omega, by omega, rfl⟩)
            refine mm_if_ne (tgt := 75) C (mm_dec dk_X12_stateOf 39 rfl) (by decide) (fun c63 => ?_) (fun c63 => ?_)
            · skip
              refine mm_fgt 1 ?_
              refine mm_fgt 2 ?_
              refine mm_fgt 3 ?_
              refine mm_fgt 4 ?_
              exact J75
            · skip
              refine mm_aload_n C (mm_dec dk_X12_stateOf 40 rfl) rfl ?_
              refine mm_geti C fl_X12_478 (mm_dec dk_X12_stateOf 41 rfl) rfl rfl (Or.inr rfl) ?_
              have g6 : 0 ≤ (h52c.1 66 88) ∧ (h52c.1 66 88) ≤ 1 := i52c.1 66 88
              refine mm_if_eq (tgt := 75) C (mm_dec dk_X12_stateOf 42 rfl) (by decide) (fun c70 => ?_) (fun c70 => ?_)
              · skip
                refine mm_fgt 1 ?_
                refine mm_fgt 2 ?_
                refine mm_fgt 3 ?_
                refine mm_fgt 4 ?_
                exact J75
              · skip
                refine mm_fgt 0 ?_
                refine mm_fgt 1 ?_
                refine mm_fgt 2 ?_
                refine mm_fgt 3 ?_
                refine mm_fgt 4 ?_
                refine mm_fgt 5 ?_
                exact J73
        · skip
          refine mm_fgt 0 ?_
          refine mm_fgt 1 ?_
          refine mm_fgt 2 ?_
          refine mm_fgt 3 ?_
          refine mm_fgt 4 ?_
          exact J39
    · skip
      refine mm_fgt 0 ?_
      refine mm_fgt 1 ?_
      refine mm_fgt 2 ?_
      refine mm_fgt 3 ?_
      exact J17
set_option maxRecDepth 100000 in
set_option maxHeartbeats 4000000 in
theorem c_X12_totalOf (l : Launch) (hl : l.stackTraces = false) (d : Nat) (hd : 6 ≤ d) (h : mH) (i0 : mm_inv h) (p1 : Int) (p2 : Int) (bp1 : 0 ≤ p1 ∧ p1 ≤ 39) (t0 : mm_RO h) : mm_Met l d yX12_totalOf cX12_totalOf 3 (some .int) [mR 66, mI p1, mI p2] h (mm_pi fun r h2 => (-2147483648 ≤ r ∧ r ≤ 2147483647) ∧ mm_inv h2 ∧ mm_fr [(66, 39), (66, 48), (66, 52), (66, 53), (66, 54), (66, 87), (66, 88)] [91, 98, 99, 100, 110, 111] h h2) mm_nx 0 0 := by
  refine mm_ofW (ls := [mR 66, mI p1, mI p2]) hl (by decide) rfl (Nat.le_of_ble_eq_true rfl) ?_
  intro x hxl C T hnm htb
  subst hxl
  have C1 := mm_OK_le (d' := d - 1 + 1) (by omega) C
  refine mm_rng (fun hr _ => ?_)
  have ap1 : -2147483648 ≤ p1 ∧ p1 < 2147483648 := mm_ok_at hr (i := 1) rfl
  have ap2 : -2147483648 ≤ p2 ∧ p2 < 2147483648 := mm_ok_at hr (i := 2) rfl
  have f0 : mm_fr [(66, 39), (66, 48), (66, 52), (66, 53), (66, 54), (66, 87), (66, 88)] [91, 98, 99, 100, 110, 111] h h := mm_fr_rf
  refine mm_aload_n C (mm_dec dk_X12_totalOf 0 rfl) rfl ?_
  refine mm_iload_n C (mm_dec dk_X12_totalOf 1 rfl) rfl ?_
  refine mm_iload_n C (mm_dec dk_X12_totalOf 2 rfl) rfl ?_
  refine mm_cVi (rest := []) C1 ev_X12_490 (mm_dec dk_X12_totalOf 3 rfl) (c_X12_stateOf x.2.1 hl (d - 1) (by omega) h i0 p1 p2 ⟨by omega, by omega⟩ (by exact mm_RO_fr t0 f0 (by decide))) rfl rfl (Nat.le_of_ble_eq_true rfl) ⟨by decide, by decide⟩ rfl (fun r3 h3c hp3 => ?_) (fun _ _ q => q.elim)
  obtain ⟨b3, i3c, g3c⟩ := hp3
  have f3c : mm_fr [(66, 39), (66, 48), (66, 52), (66, 53), (66, 54), (66, 87), (66, 88)] [91, 98, 99, 100, 110, 111] h h3c := mm_fr_tr f0 g3c (by decide +kernel)
  refine mm_iconst C (mm_dec dk_X12_totalOf 4 rfl) ⟨by decide, by decide⟩ ?_
  refine mm_icmp_eq (tgt := 14) C (mm_dec dk_X12_totalOf 5 rfl) (by decide) (fun c7 => ?_) (fun c7 => ?_)
  · skip
    refine mm_aload_n C (mm_dec dk_X12_totalOf 8 rfl) rfl ?_
    refine mm_getr (t := 83) C fl_X12_60 (mm_dec dk_X12_totalOf 9 rfl) rfl rfl (mm_ref i3c rfl) ?_
    refine mm_aload_n C (mm_dec dk_X12_totalOf 10 rfl) rfl ?_
    refine mm_getr (t := 85) C fl_X12_66 (mm_dec dk_X12_totalOf 11 rfl) rfl rfl (mm_ref i3c rfl) ?_
    refine mm_iload_n C (mm_dec dk_X12_totalOf 12 rfl) rfl ?_
    refine mm_iald C (mm_dec dk_X12_totalOf 13 rfl) rfl (by omega) (by omega) ?_
    have g2 : 0 ≤ (h3c.2.1 85 p1) ∧ (h3c.2.1 85 p1) ≤ 7 := i3c.2.1 85 p1
    refine mm_zald C (mm_dec dk_X12_totalOf 14 rfl) rfl (by omega) (by omega) ?_
    have g3 : 0 ≤ (h3c.2.1 83 (h3c.2.1 85 p1)) ∧ (h3c.2.1 83 (h3c.2.1 85 p1)) ≤ 1 := i3c.2.1 83 (h3c.2.1 85 p1)
    have J65 : ∀ (s65_0 : Int) (bs65_0 : -2147483648 ≤ s65_0 ∧ s65_0 ≤ 2147483647), mm_W x 0 0 65 [mU, mU, mU] [mI s65_0] h3c := by
      intro s65_0 bs65_0
      exact mm_iret C T (mm_dec dk_X12_totalOf 39 rfl) (by decide : 0 ≤ 0) (by decide : 0 ≤ 0) ⟨_, rfl, ⟨⟨by omega, by omega⟩, i3c, f3c⟩⟩
    refine mm_if_eq (tgt := 47) C (mm_dec dk_X12_totalOf 15 rfl) (by decide) (fun c25 => ?_) (fun c25 => ?_)
    · skip
      refine mm_aload_n C (mm_dec dk_X12_totalOf 27 rfl) rfl ?_
      refine mm_getr (t := 110) C fl_X12_141 (mm_dec dk_X12_totalOf 28 rfl) rfl rfl (mm_ref i3c rfl) ?_
      refine mm_iconst C (mm_dec dk_X12_totalOf 29 rfl) ⟨by decide, by decide⟩ ?_
      refine mm_iald C (mm_dec dk_X12_totalOf 30 rfl) rfl (by omega) (by omega) ?_
      have g4 : -2147483648 ≤ (h3c.2.1 110 2) ∧ (h3c.2.1 110 2) ≤ 2147483647 := i3c.2.1 110 2
      refine mm_aload_n C (mm_dec dk_X12_totalOf 31 rfl) rfl ?_
      refine mm_geti C fl_X12_475 (mm_dec dk_X12_totalOf 32 rfl) rfl rfl (Or.inl rfl) ?_
      have g5 : -2147483648 ≤ (h3c.1 66 87) ∧ (h3c.1 66 87) ≤ 2147483647 := i3c.1 66 87
      refine mm_iaddw C (mm_dec dk_X12_totalOf 33 rfl) ?_
      have g6 : -2147483648 ≤ (mm_w ((h3c.2.1 110 2) + (h3c.1 66 87))) ∧ (mm_w ((h3c.2.1 110 2) + (h3c.1 66 87))) < 2147483648 := mm_w_rg _
      refine mm_aload_n C (mm_dec dk_X12_totalOf 34 rfl) rfl ?_
      refine mm_iload_n C (mm_dec dk_X12_totalOf 35 rfl) rfl ?_
      refine mm_iload_n C (mm_dec dk_X12_totalOf 36 rfl) rfl ?_
      refine mm_cVi (rest := [mI (mm_w ((h3c.2.1 110 2) + (h3c.1 66 87)))]) C1 ev_X12_493 (mm_dec dk_X12_totalOf 37 rfl) (c_X12_added x.2.1 hl (d - 1) (by omega) h3c i3c p1 p2) rfl rfl (Nat.le_of_ble_eq_true rfl) ⟨by decide, by decide⟩ rfl (fun r61 h61c hp61 => ?_) (fun _ _ q => q.elim)
      obtain ⟨b61, z61⟩ := hp61
      rw [z61]
      refine mm_iaddw C (mm_dec dk_X12_totalOf 38 rfl) ?_
      have g8 : -2147483648 ≤ (mm_w ((mm_w ((h3c.2.1 110 2) + (h3c.1 66 87))) + r61)) ∧ (mm_w ((mm_w ((h3c.2.1 110 2) + (h3c.1 66 87))) + r61)) < 2147483648 := mm_w_rg _
      refine mm_fgt 0 ?_
      refine mm_fgt 1 ?_
      refine mm_fgt 2 ?_
      exact J65 (mm_w ((mm_w ((h3c.2.1 110 2) + (h3c.1 66 87))) + r61)) ⟨by omega, by omega⟩
    · skip
      refine mm_aload_n C (mm_dec dk_X12_totalOf 16 rfl) rfl ?_
      refine mm_geti C fl_X12_347 (mm_dec dk_X12_totalOf 17 rfl) rfl rfl (Or.inl rfl) ?_
      have g9 : -2147483648 ≤ (h3c.1 66 54) ∧ (h3c.1 66 54) ≤ 2147483647 := i3c.1 66 54
      refine mm_aload_n C (mm_dec dk_X12_totalOf 18 rfl) rfl ?_
      refine mm_geti C fl_X12_475 (mm_dec dk_X12_totalOf 19 rfl) rfl rfl (Or.inl rfl) ?_
      have g10 : -2147483648 ≤ (h3c.1 66 87) ∧ (h3c.1 66 87) ≤ 2147483647 := i3c.1 66 87
      refine mm_isubw C (mm_dec dk_X12_totalOf 20 rfl) ?_
      have g11 : -2147483648 ≤ (mm_w ((h3c.1 66 54) - (h3c.1 66 87))) ∧ (mm_w ((h3c.1 66 54) - (h3c.1 66 87))) < 2147483648 := mm_w_rg _
      refine mm_aload_n C (mm_dec dk_X12_totalOf 21 rfl) rfl ?_
      refine mm_iload_n C (mm_dec dk_X12_totalOf 22 rfl) rfl ?_
      refine mm_iload_n C (mm_dec dk_X12_totalOf 23 rfl) rfl ?_
      refine mm_cVi (rest := [mI (mm_w ((h3c.1 66 54) - (h3c.1 66 87)))]) C1 ev_X12_493 (mm_dec dk_X12_totalOf 24 rfl) (c_X12_added x.2.1 hl (d - 1) (by omega) h3c i3c p1 p2) rfl rfl (Nat.le_of_ble_eq_true rfl) ⟨by decide, by decide⟩ rfl (fun r40 h40c hp40 => ?_) (fun _ _ q => q.elim)
      obtain ⟨b40, z40⟩ := hp40
      rw [z40]
      refine mm_isubw C (mm_dec dk_X12_totalOf 25 rfl) ?_
      have g13 : -2147483648 ≤ (mm_w ((mm_w ((h3c.1 66 54) - (h3c.1 66 87))) - r40)) ∧ (mm_w ((mm_w ((h3c.1 66 54) - (h3c.1 66 87))) - r40)) < 2147483648 := mm_w_rg _
      refine mm_goto (tgt := 65) C (mm_dec dk_X12_totalOf 26 rfl) (by decide) ?_
      refine mm_fgt 0 ?_
      refine mm_fgt 1 ?_
      refine mm_fgt 2 ?_
      exact J65 (mm_w ((mm_w ((h3c.1 66 54) - (h3c.1 66 87))) - r40)) ⟨by omega, by omega⟩
  · skip
    refine mm_ldcw (z := -100000) C (mm_dec dk_X12_totalOf 6 rfl) kc_X12_295 (by decide) ?_
    exact mm_iret C T (mm_dec dk_X12_totalOf 7 rfl) (by decide : 0 ≤ 0) (by decide : 0 ≤ 0) ⟨_, rfl, ⟨⟨by omega, by omega⟩, i3c, f3c⟩⟩
set_option maxRecDepth 100000 in
set_option maxHeartbeats 4000000 in
theorem c_X12_placeOf (l : Launch) (hl : l.stackTraces = false) (d : Nat) (hd : 7 ≤ d) (h : mH) (i0 : mm_inv h) (p1 : Int) (p2 : Int) (bp1 : 0 ≤ p1 ∧ p1 ≤ 39) (t0 : mm_RO h) : mm_Met l d yX12_placeOf cX12_placeOf 9 (some .int) [mR 66, mI p1, mI p2] h (mm_pi fun r h2 => (-2147483648 ≤ r ∧ r ≤ 2147483647) ∧ mm_inv h2 ∧ mm_fr [(66, 39), (66, 48), (66, 52), (66, 53), (66, 54), (66, 87), (66, 88)] [91, 98, 99, 100, 110, 111] h h2) mm_nx 0 0 := by
  refine mm_ofW (ls := [mR 66, mI p1, mI p2, mU, mU, mU, mU, mU, mU]) hl (by decide) rfl (Nat.le_of_ble_eq_true rfl) ?_
  intro x hxl C T hnm htb
  subst hxl
  have C1 := mm_OK_le (d' := d - 1 + 1) (by omega) C
  refine mm_rng (fun hr _ => ?_)
  have ap1 : -2147483648 ≤ p1 ∧ p1 < 2147483648 := mm_ok_at hr (i := 1) rfl
  have ap2 : -2147483648 ≤ p2 ∧ p2 < 2147483648 := mm_ok_at hr (i := 2) rfl
  have f0 : mm_fr [(66, 39), (66, 48), (66, 52), (66, 53), (66, 54), (66, 87), (66, 88)] [91, 98, 99, 100, 110, 111] h h := mm_fr_rf
  refine mm_aload_n C (mm_dec dk_X12_placeOf 0 rfl) rfl ?_
  refine mm_iload_n C (mm_dec dk_X12_placeOf 1 rfl) rfl ?_
  refine mm_iload_n C (mm_dec dk_X12_placeOf 2 rfl) rfl ?_
  refine mm_cVi (rest := []) C1 ev_X12_490 (mm_dec dk_X12_placeOf 3 rfl) (c_X12_stateOf x.2.1 hl (d - 1) (by omega) h i0 p1 p2 ⟨by omega, by omega⟩ (by exact mm_RO_fr t0 f0 (by decide))) rfl rfl (Nat.le_of_ble_eq_true rfl) ⟨by decide, by decide⟩ rfl (fun r3 h3c hp3 => ?_) (fun _ _ q => q.elim)
  obtain ⟨b3, i3c, g3c⟩ := hp3
  have f3c : mm_fr [(66, 39), (66, 48), (66, 52), (66, 53), (66, 54), (66, 87), (66, 88)] [91, 98, 99, 100, 110, 111] h h3c := mm_fr_tr f0 g3c (by decide +kernel)
  refine mm_iconst C (mm_dec dk_X12_placeOf 4 rfl) ⟨by decide, by decide⟩ ?_
  refine mm_icmp_eq (tgt := 12) C (mm_dec dk_X12_placeOf 5 rfl) (by decide) (fun c7 => ?_) (fun c7 => ?_)
  · skip
    refine mm_aload_n C (mm_dec dk_X12_placeOf 8 rfl) rfl ?_
    refine mm_iload_n C (mm_dec dk_X12_placeOf 9 rfl) rfl ?_
    refine mm_iload_n C (mm_dec dk_X12_placeOf 10 rfl) rfl ?_
    refine mm_cVi (rest := []) C1 ev_X12_496 (mm_dec dk_X12_placeOf 11 rfl) (c_X12_totalOf x.2.1 hl (d - 1) (by omega) h3c i3c p1 p2 ⟨by omega, by omega⟩ (by exact mm_RO_fr t0 f3c (by decide))) rfl rfl (Nat.le_of_ble_eq_true rfl) ⟨by decide, by decide⟩ rfl (fun r15 h15c hp15 => ?_) (fun _ _ q => q.elim)
    obtain ⟨b15, i15c, g15c⟩ := hp15
    have f15c : mm_fr [(66, 39), (66, 48), (66, 52), (66, 53), (66, 54), (66, 87), (66, 88)] [91, 98, 99, 100, 110, 111] h h15c := mm_fr_tr f3c g15c (by decide +kernel)
    refine mm_istore_nL (ls2 := [mR 66, mI p1, mI p2, mI r15, mU, mU, mU, mU, mU]) C (mm_dec dk_X12_placeOf 12 rfl) (by decide) rfl ?_
    refine mm_aload_n C (mm_dec dk_X12_placeOf 13 rfl) rfl ?_
    refine mm_iload_n C (mm_dec dk_X12_placeOf 14 rfl) rfl ?_
    refine mm_iload_n C (mm_dec dk_X12_placeOf 15 rfl) rfl ?_
    refine mm_cVi (rest := []) C1 ev_X12_326 (mm_dec dk_X12_placeOf 16 rfl) (c_X12_finishOf x.2.1 hl (d - 1) (by omega) h15c i15c p1 p2 ⟨by omega, by omega⟩) rfl rfl (Nat.le_of_ble_eq_true rfl) ⟨by decide, by decide⟩ rfl (fun r22 h22c hp22 => ?_) (fun _ _ q => q.elim)
    obtain ⟨b22, z22⟩ := hp22
    rw [z22]
    refine mm_aload_n C (mm_dec dk_X12_placeOf 17 rfl) rfl ?_
    refine mm_iload_n C (mm_dec dk_X12_placeOf 18 rfl) rfl ?_
    refine mm_iload_n C (mm_dec dk_X12_placeOf 19 rfl) rfl ?_
    refine mm_cVi (rest := [mI r22]) C1 ev_X12_472 (mm_dec dk_X12_placeOf 20 rfl) (c_X12_startOf x.2.1 hl (d - 1) (by omega) h15c i15c p1 p2 ⟨by omega, by omega⟩) rfl rfl (Nat.le_of_ble_eq_true rfl) ⟨by decide, by decide⟩ rfl (fun r28 h28c hp28 => ?_) (fun _ _ q => q.elim)
    obtain ⟨b28, z28⟩ := hp28
    rw [z28]
    refine mm_isubw C (mm_dec dk_X12_placeOf 21 rfl) ?_
    have g5 : -2147483648 ≤ (mm_w (r22 - r28)) ∧ (mm_w (r22 - r28)) < 2147483648 := mm_w_rg _
    refine mm_istoreL (ls2 := [mR 66, mI p1, mI p2, mI r15, mI (mm_w (r22 - r28)), mU, mU, mU, mU]) C (mm_dec dk_X12_placeOf 22 rfl) (by decide) rfl ?_
    refine mm_iconst C (mm_dec dk_X12_placeOf 23 rfl) ⟨by decide, by decide⟩ ?_
    refine mm_istoreL (ls2 := [mR 66, mI p1, mI p2, mI r15, mI (mm_w (r22 - r28)), mI 1, mU, mU, mU]) C (mm_dec dk_X12_placeOf 24 rfl) (by decide) rfl ?_
    refine mm_iconst C (mm_dec dk_X12_placeOf 25 rfl) ⟨by decide, by decide⟩ ?_
    have J40 : ∀ (n : Nat) (x40_5 : Int) (bx40_5 : -2147483648 ≤ x40_5 ∧ x40_5 ≤ 2147483647) (x40_6 : Int) (bx40_6 : 0 ≤ x40_6 ∧ x40_6 ≤ 40) (h40_ : mH) (i40_ : mm_inv h40_) (f40_ : mm_fr [(66, 39), (66, 48), (66, 52), (66, 53), (66, 54), (66, 87), (66, 88)] [91, 98, 99, 100, 110, 111] h h40_), (40 - x40_6 : Int) < n → mm_W x 0 0 40 [mR 66, mI p1, mI p2, mI r15, mI (mm_w (r22 - r28)), mI x40_5, mI x40_6, mU, mU] [] h40_ := by
      intro n
      induction n with
      | zero =>
        intro x40_5 bx40_5 x40_6 bx40_6 h40_ i40_ f40_ hm
        exfalso; omega
      | succ n ih40 =>
        intro x40_5 bx40_5 x40_6 bx40_6 h40_ i40_ f40_ hm40
        refine mm_iload C (mm_dec dk_X12_placeOf 27 rfl) rfl ?_
        refine mm_aload_n C (mm_dec dk_X12_placeOf 28 rfl) rfl ?_
        refine mm_geti C fl_X12_222 (mm_dec dk_X12_placeOf 29 rfl) rfl rfl (Or.inl rfl) ?_
        have g6 : 0 ≤ (h40_.1 66 23) ∧ (h40_.1 66 23) ≤ 40 := i40_.1 66 23
        refine mm_icmp_ge (tgt := 175) C (mm_dec dk_X12_placeOf 30 rfl) (by decide) (fun c46 => ?_) (fun c46 => ?_)
        · skip
          refine mm_iload C (mm_dec dk_X12_placeOf 96 rfl) rfl ?_
          exact mm_iret C T (mm_dec dk_X12_placeOf 97 rfl) (by decide : 0 ≤ 0) (by decide : 0 ≤ 0) ⟨_, rfl, ⟨⟨by omega, by omega⟩, i40_, f40_⟩⟩
        · skip
          refine mm_iload C (mm_dec dk_X12_placeOf 31 rfl) rfl ?_
          refine mm_iload_n C (mm_dec dk_X12_placeOf 32 rfl) rfl ?_
          have J169 : ∀ (x169_5 : Int) (bx169_5 : -2147483648 ≤ x169_5 ∧ x169_5 ≤ 2147483647) (h169_ : mH) (i169_ : mm_inv h169_) (f169_ : mm_fr [(66, 39), (66, 48), (66, 52), (66, 53), (66, 54), (66, 87), (66, 88)] [91, 98, 99, 100, 110, 111] h h169_), mm_W x 0 0 169 [mR 66, mI p1, mI p2, mI r15, mI (mm_w (r22 - r28)), mI x169_5, mI x40_6, mU, mU] [] h169_ := by
            intro x169_5 bx169_5 h169_ i169_ f169_
            refine mm_iincL (ls2 := [mR 66, mI p1, mI p2, mI r15, mI (mm_w (r22 - r28)), mI x169_5, mI (x40_6 + 1), mU, mU]) C (mm_dec dk_X12_placeOf 94 rfl) rfl (by decide) ⟨by omega, by omega⟩ rfl ?_
            refine mm_goto (tgt := 40) C (mm_dec dk_X12_placeOf 95 rfl) (by decide) ?_
            exact ih40 x169_5 ⟨by omega, by omega⟩ (x40_6 + 1) ⟨by omega, by omega⟩ h169_ i169_ f169_ (by omega)
          refine mm_icmp_eq (tgt := 169) C (mm_dec dk_X12_placeOf 33 rfl) (by decide) (fun c52 => ?_) (fun c52 => ?_)
          · skip
            exact J169 x40_5 ⟨by omega, by omega⟩ h40_ i40_ f40_
          · skip
            refine mm_aload_n C (mm_dec dk_X12_placeOf 34 rfl) rfl ?_
            refine mm_getr (t := 85) C fl_X12_66 (mm_dec dk_X12_placeOf 35 rfl) rfl rfl (mm_ref i40_ rfl) ?_
            refine mm_iload C (mm_dec dk_X12_placeOf 36 rfl) rfl ?_
            refine mm_iald C (mm_dec dk_X12_placeOf 37 rfl) rfl (by omega) (by omega) ?_
            have g7 : 0 ≤ (h40_.2.1 85 x40_6) ∧ (h40_.2.1 85 x40_6) ≤ 7 := i40_.2.1 85 x40_6
            refine mm_aload_n C (mm_dec dk_X12_placeOf 38 rfl) rfl ?_
            refine mm_getr (t := 85) C fl_X12_66 (mm_dec dk_X12_placeOf 39 rfl) rfl rfl (mm_ref i40_ rfl) ?_
            refine mm_iload_n C (mm_dec dk_X12_placeOf 40 rfl) rfl ?_
            refine mm_iald C (mm_dec dk_X12_placeOf 41 rfl) rfl (by omega) (by omega) ?_
            have g8 : 0 ≤ (h40_.2.1 85 p1) ∧ (h40_.2.1 85 p1) ≤ 7 := i40_.2.1 85 p1
            refine mm_icmp_ne (tgt := 169) C (mm_dec dk_X12_placeOf 42 rfl) (by decide) (fun c68 => ?_) (fun c68 => ?_)
            · skip
              exact J169 x40_5 ⟨by omega, by omega⟩ h40_ i40_ f40_
            · skip
              refine mm_aload_n C (mm_dec dk_X12_placeOf 43 rfl) rfl ?_
              refine mm_iload C (mm_dec dk_X12_placeOf 44 rfl) rfl ?_
              refine mm_iload_n C (mm_dec dk_X12_placeOf 45 rfl) rfl ?_
              refine mm_cVi (rest := []) C1 ev_X12_490 (mm_dec dk_X12_placeOf 46 rfl) (c_X12_stateOf x.2.1 hl (d - 1) (by omega) h40_ i40_ x40_6 p2 ⟨by omega, by omega⟩ (by exact mm_RO_fr t0 f40_ (by decide))) rfl rfl (Nat.le_of_ble_eq_true rfl) ⟨by decide, by decide⟩ rfl (fun r75 h75c hp75 => ?_) (fun _ _ q => q.elim)
              obtain ⟨b75, i75c, g75c⟩ := hp75
              have f75c : mm_fr [(66, 39), (66, 48), (66, 52), (66, 53), (66, 54), (66, 87), (66, 88)] [91, 98, 99, 100, 110, 111] h h75c := mm_fr_tr f40_ g75c (by decide +kernel)
              have q75c_10 : h75c.1 66 23 = h40_.1 66 23 := g75c.1 66 23 (by decide)
              refine mm_iconst C (mm_dec dk_X12_placeOf 47 rfl) ⟨by decide, by decide⟩ ?_
              refine mm_icmp_eq (tgt := 85) C (mm_dec dk_X12_placeOf 48 rfl) (by decide) (fun c79 => ?_) (fun c79 => ?_)
              · skip
                refine mm_aload_n C (mm_dec dk_X12_placeOf 50 rfl) rfl ?_
                refine mm_iload C (mm_dec dk_X12_placeOf 51 rfl) rfl ?_
                refine mm_iload_n C (mm_dec dk_X12_placeOf 52 rfl) rfl ?_
                refine mm_cVi (rest := []) C1 ev_X12_496 (mm_dec dk_X12_placeOf 53 rfl) (c_X12_totalOf x.2.1 hl (d - 1) (by omega) h75c i75c x40_6 p2 ⟨by omega, by omega⟩ (by exact mm_RO_fr t0 f75c (by decide))) rfl rfl (Nat.le_of_ble_eq_true rfl) ⟨by decide, by decide⟩ rfl (fun r89 h89c hp89 => ?_) (fun _ _ q => q.elim)
                obtain ⟨b89, i89c, g89c⟩ := hp89
                have f89c : mm_fr [(66, 39), (66, 48), (66, 52), (66, 53), (66, 54), (66, 87), (66, 88)] [91, 98, 99, 100, 110, 111] h h89c := mm_fr_tr f75c g89c (by decide +kernel)
                have q89c_12 : h89c.1 66 23 = h75c.1 66 23 := g89c.1 66 23 (by decide)
                refine mm_istoreL (ls2 := [mR 66, mI p1, mI p2, mI r15, mI (mm_w (r22 - r28)), mI x40_5, mI x40_6, mI r89, mU]) C (mm_dec dk_X12_placeOf 54 rfl) (by decide) rfl ?_
                refine mm_aload_n C (mm_dec dk_X12_placeOf 55 rfl) rfl ?_
                refine mm_getr (t := 83) C fl_X12_60 (mm_dec dk_X12_placeOf 56 rfl) rfl rfl (mm_ref i89c rfl) ?_
                refine mm_aload_n C (mm_dec dk_X12_placeOf 57 rfl) rfl ?_
                refine mm_getr (t := 85) C fl_X12_66 (mm_dec dk_X12_placeOf 58 rfl) rfl rfl (mm_ref i89c rfl) ?_
                refine mm_iload_n C (mm_dec dk_X12_placeOf 59 rfl) rfl ?_
                refine mm_iald C (mm_dec dk_X12_placeOf 60 rfl) rfl (by omega) (by omega) ?_
                have g13 : 0 ≤ (h89c.2.1 85 p1) ∧ (h89c.2.1 85 p1) ≤ 7 := i89c.2.1 85 p1
                refine mm_zald C (mm_dec dk_X12_placeOf 61 rfl) rfl (by omega) (by omega) ?_
                have g14 : 0 ≤ (h89c.2.1 83 (h89c.2.1 85 p1)) ∧ (h89c.2.1 83 (h89c.2.1 85 p1)) ≤ 1 := i89c.2.1 83 (h89c.2.1 85 p1)
                have J159 : ∀ (s159_0 : Int) (bs159_0 : 0 ≤ s159_0 ∧ s159_0 ≤ 1), mm_W x 0 0 159 [mR 66, mI p1, mI p2, mI r15, mI (mm_w (r22 - r28)), mI x40_5, mI x40_6, mU, mU] [mI s159_0] h89c := by
                  intro s159_0 bs159_0
                  refine mm_istoreL (ls2 := [mR 66, mI p1, mI p2, mI r15, mI (mm_w (r22 - r28)), mI x40_5, mI x40_6, mU, mI s159_0]) C (mm_dec dk_X12_placeOf 90 rfl) (by decide) rfl ?_
                  refine mm_iload C (mm_dec dk_X12_placeOf 91 rfl) rfl ?_
                  refine mm_if_eq (tgt := 169) C (mm_dec dk_X12_placeOf 92 rfl) (by decide) (fun c163 => ?_) (fun c163 => ?_)
                  · skip
                    refine mm_fgt 8 ?_
                    exact J169 x40_5 ⟨by omega, by omega⟩ h89c i89c f89c
                  · skip
                    refine mm_iincwL (ls2 := [mR 66, mI p1, mI p2, mI r15, mI (mm_w (r22 - r28)), mI (mm_w (x40_5 + 1)), mI x40_6, mU, mI s159_0]) C (mm_dec dk_X12_placeOf 93 rfl) rfl (by decide) rfl ?_
                    have g15 : -2147483648 ≤ (mm_w (x40_5 + 1)) ∧ (mm_w (x40_5 + 1)) < 2147483648 := mm_w_rg _
                    refine mm_fgt 8 ?_
                    exact J169 (mm_w (x40_5 + 1)) ⟨by omega, by omega⟩ h89c i89c f89c
                refine mm_if_eq (tgt := 148) C (mm_dec dk_X12_placeOf 62 rfl) (by decide) (fun c105 => ?_) (fun c105 => ?_)
                · skip
                  refine mm_iload C (mm_dec dk_X12_placeOf 84 rfl) rfl ?_
                  refine mm_iload_n C (mm_dec dk_X12_placeOf 85 rfl) rfl ?_
                  refine mm_icmp_ge (tgt := 158) C (mm_dec dk_X12_placeOf 86 rfl) (by decide) (fun c151 => ?_) (fun c151 => ?_)
                  · skip
                    refine mm_iconst C (mm_dec dk_X12_placeOf 89 rfl) ⟨by decide, by decide⟩ ?_
                    refine mm_fgt 7 ?_
                    exact J159 0 ⟨by omega, by omega⟩
                  · skip
                    refine mm_iconst C (mm_dec dk_X12_placeOf 87 rfl) ⟨by decide, by decide⟩ ?_
                    refine mm_goto (tgt := 159) C (mm_dec dk_X12_placeOf 88 rfl) (by decide) ?_
                    refine mm_fgt 7 ?_
                    exact J159 1 ⟨by omega, by omega⟩
                · skip
                  refine mm_iload C (mm_dec dk_X12_placeOf 63 rfl) rfl ?_
                  refine mm_iload_n C (mm_dec dk_X12_placeOf 64 rfl) rfl ?_
                  have J140 : mm_W x 0 0 140 [mR 66, mI p1, mI p2, mI r15, mI (mm_w (r22 - r28)), mI x40_5, mI x40_6, mU, mU] [] h89c := by
                    refine mm_iconst C (mm_dec dk_X12_placeOf 80 rfl) ⟨by decide, by decide⟩ ?_
                    refine mm_goto (tgt := 159) C (mm_dec dk_X12_placeOf 81 rfl) (by decide) ?_
                    exact J159 1 ⟨by omega, by omega⟩
                  refine mm_icmp_gt (tgt := 140) C (mm_dec dk_X12_placeOf 65 rfl) (by decide) (fun c111 => ?_) (fun c111 => ?_)
                  · skip
                    refine mm_fgt 7 ?_
                    exact J140
                  · skip
                    refine mm_iload C (mm_dec dk_X12_placeOf 66 rfl) rfl ?_
                    refine mm_iload_n C (mm_dec dk_X12_placeOf 67 rfl) rfl ?_
                    have J144 : mm_W x 0 0 144 [mR 66, mI p1, mI p2, mI r15, mI (mm_w (r22 - r28)), mI x40_5, mI x40_6, mU, mU] [] h89c := by
                      refine mm_iconst C (mm_dec dk_X12_placeOf 82 rfl) ⟨by decide, by decide⟩ ?_
                      refine mm_goto (tgt := 159) C (mm_dec dk_X12_placeOf 83 rfl) (by decide) ?_
                      exact J159 0 ⟨by omega, by omega⟩
                    refine mm_icmp_ne (tgt := 144) C (mm_dec dk_X12_placeOf 68 rfl) (by decide) (fun c117 => ?_) (fun c117 => ?_)
                    · skip
                      refine mm_fgt 7 ?_
                      exact J144
                    · skip
                      refine mm_aload_n C (mm_dec dk_X12_placeOf 69 rfl) rfl ?_
                      refine mm_iload C (mm_dec dk_X12_placeOf 70 rfl) rfl ?_
                      refine mm_iload_n C (mm_dec dk_X12_placeOf 71 rfl) rfl ?_
                      refine mm_cVi (rest := []) C1 ev_X12_326 (mm_dec dk_X12_placeOf 72 rfl) (c_X12_finishOf x.2.1 hl (d - 1) (by omega) h89c i89c x40_6 p2 ⟨by omega, by omega⟩) rfl rfl (Nat.le_of_ble_eq_true rfl) ⟨by decide, by decide⟩ rfl (fun r124 h124c hp124 => ?_) (fun _ _ q => q.elim)
                      obtain ⟨b124, z124⟩ := hp124
                      rw [z124]
                      refine mm_aload_n C (mm_dec dk_X12_placeOf 73 rfl) rfl ?_
                      refine mm_iload C (mm_dec dk_X12_placeOf 74 rfl) rfl ?_
                      refine mm_iload_n C (mm_dec dk_X12_placeOf 75 rfl) rfl ?_
                      refine mm_cVi (rest := [mI r124]) C1 ev_X12_472 (mm_dec dk_X12_placeOf 76 rfl) (c_X12_startOf x.2.1 hl (d - 1) (by omega) h89c i89c x40_6 p2 ⟨by omega, by omega⟩) rfl rfl (Nat.le_of_ble_eq_true rfl) ⟨by decide, by decide⟩ rfl (fun r131 h131c hp131 => ?_) (fun _ _ q => q.elim)
                      obtain ⟨b131, z131⟩ := hp131
                      rw [z131]
                      refine mm_isubw C (mm_dec dk_X12_placeOf 77 rfl) ?_
                      have g18 : -2147483648 ≤ (mm_w (r124 - r131)) ∧ (mm_w (r124 - r131)) < 2147483648 := mm_w_rg _
                      refine mm_iload C (mm_dec dk_X12_placeOf 78 rfl) rfl ?_
                      refine mm_icmp_ge (tgt := 144) C (mm_dec dk_X12_placeOf 79 rfl) (by decide) (fun c137 => ?_) (fun c137 => ?_)
                      · skip
                        refine mm_fgt 7 ?_
                        exact J144
                      · skip
                        refine mm_fgt 7 ?_
                        exact J140
              · skip
                refine mm_goto (tgt := 169) C (mm_dec dk_X12_placeOf 49 rfl) (by decide) ?_
                exact J169 x40_5 ⟨by omega, by omega⟩ h75c i75c f75c
    refine mm_istoreL (ls2 := [mR 66, mI p1, mI p2, mI r15, mI (mm_w (r22 - r28)), mI 1, mI 0, mU, mU]) C (mm_dec dk_X12_placeOf 26 rfl) (by decide) rfl ?_
    exact J40 (((40 - 0) : Int) + 1).toNat 1 ⟨by omega, by omega⟩ 0 ⟨by omega, by omega⟩ h15c i15c f15c (by omega)
  · skip
    refine mm_iconst C (mm_dec dk_X12_placeOf 6 rfl) ⟨by decide, by decide⟩ ?_
    exact mm_iret C T (mm_dec dk_X12_placeOf 7 rfl) (by decide : 0 ≤ 0) (by decide : 0 ≤ 0) ⟨_, rfl, ⟨⟨by omega, by omega⟩, i3c, f3c⟩⟩
set_option maxRecDepth 100000 in
set_option maxHeartbeats 4000000 in
theorem c_X12_judged (l : Launch) (hl : l.stackTraces = false) (d : Nat) (hd : 8 ≤ d) (h : mH) (i0 : mm_inv h) (p1 : Int) (p2 : Int) (p3 : Int) (t0 : mm_RO h) : mm_Met l d yX12_judged cX12_judged 4 (some .int) [mR 66, mI p1, mI p2, mI p3] h (mm_pi fun r h2 => (-2147483648 ≤ r ∧ r ≤ 2147483647) ∧ mm_inv h2 ∧ mm_fr [(66, 0), (66, 39), (66, 48), (66, 52), (66, 53), (66, 54), (66, 87), (66, 88)] [91, 98, 99, 100, 110, 111] h h2) mm_nx 0 0 := by
  refine mm_ofW (ls := [mR 66, mI p1, mI p2, mI p3]) hl (by decide) rfl (Nat.le_of_ble_eq_true rfl) ?_
  intro x hxl C T hnm htb
  subst hxl
  have C1 := mm_OK_le (d' := d - 1 + 1) (by omega) C
  have C8 := mm_OK_le (d' := d - 8 + 8) (by omega) C
  refine mm_rng (fun hr _ => ?_)
  have ap1 : -2147483648 ≤ p1 ∧ p1 < 2147483648 := mm_ok_at hr (i := 1) rfl
  have ap2 : -2147483648 ≤ p2 ∧ p2 < 2147483648 := mm_ok_at hr (i := 2) rfl
  have ap3 : -2147483648 ≤ p3 ∧ p3 < 2147483648 := mm_ok_at hr (i := 3) rfl
  have f0 : mm_fr [(66, 0), (66, 39), (66, 48), (66, 52), (66, 53), (66, 54), (66, 87), (66, 88)] [91, 98, 99, 100, 110, 111] h h := mm_fr_rf
  have g1 : 0 ≤ h.1 66 23 ∧ h.1 66 23 ≤ 40 := i0.1 66 23
  have g2 : 0 ≤ h.1 66 41 ∧ h.1 66 41 ≤ 99999 := i0.1 66 41
  refine mm_aload_n C (mm_dec dk_X12_judged 0 rfl) rfl ?_
  refine mm_iload_n C (mm_dec dk_X12_judged 1 rfl) rfl ?_
  refine mm_cVi (rest := []) C1 ev_X12_308 (mm_dec dk_X12_judged 2 rfl) (c_X12_isRunner x.2.1 hl (d - 1) (by omega) h i0 p1) rfl rfl (Nat.le_of_ble_eq_true rfl) ⟨by decide, by decide⟩ rfl (fun r2 h2c hp2 => ?_) (fun _ _ q => q.elim)
  obtain ⟨b2, i2c, g2c, y2_0⟩ := hp2
  have f2c : mm_fr [(66, 0), (66, 39), (66, 48), (66, 52), (66, 53), (66, 54), (66, 87), (66, 88)] [91, 98, 99, 100, 110, 111] h h2c := mm_fr_tr f0 g2c (by decide +kernel)
  have q2c_4 : h2c.1 66 23 = h.1 66 23 := g2c.1 66 23 (by decide)
  have q2c_5 : h2c.1 66 41 = h.1 66 41 := g2c.1 66 41 (by decide)
  have J39 : ∀ (h39_ : mH) (i39_ : mm_inv h39_) (f39_ : mm_fr [(66, 0), (66, 39), (66, 48), (66, 52), (66, 53), (66, 54), (66, 87), (66, 88)] [91, 98, 99, 100, 110, 111] h h39_), mm_W x 0 0 39 [mU, mU, mU, mU] [] h39_ := by
    intro h39_ i39_ f39_
    have g6 : 0 ≤ h39_.1 66 23 ∧ h39_.1 66 23 ≤ 40 := i39_.1 66 23
    have g7 : 0 ≤ h39_.1 66 41 ∧ h39_.1 66 41 ≤ 99999 := i39_.1 66 41
    have g8 : h39_.1 66 23 = h.1 66 23 := f39_.1 66 23 (by decide)
    have g9 : h39_.1 66 41 = h.1 66 41 := f39_.1 66 41 (by decide)
    refine mm_iconst C (mm_dec dk_X12_judged 20 rfl) ⟨by decide, by decide⟩ ?_
    exact mm_iret C T (mm_dec dk_X12_judged 21 rfl) (by decide : 0 ≤ 0) (by decide : 0 ≤ 0) ⟨_, rfl, ⟨⟨by omega, by omega⟩, i39_, f39_⟩⟩
  refine mm_if_eq (tgt := 39) C (mm_dec dk_X12_judged 3 rfl) (by decide) (fun c5 => ?_) (fun c5 => ?_)
  · skip
    refine mm_fgt 0 ?_
    refine mm_fgt 1 ?_
    refine mm_fgt 2 ?_
    refine mm_fgt 3 ?_
    exact J39 h2c i2c f2c
  · skip
    refine mm_aload_n C (mm_dec dk_X12_judged 4 rfl) rfl ?_
    refine mm_iload_n C (mm_dec dk_X12_judged 5 rfl) rfl ?_
    have J24 : ∀ (s24_1 : Int) (bs24_1 : 0 ≤ s24_1 ∧ s24_1 ≤ 1) (vs24_1 : (s24_1 = 0) ∨ (0 ≤ p2 ∧ p2 ≤ 8 ∧ s24_1 = 1)), mm_W x 0 0 24 [mR 66, mI p1, mI p2, mI p3] [mI s24_1, mR 66] h2c := by
      intro s24_1 bs24_1 vs24_1
      refine mm_iconst C (mm_dec dk_X12_judged 13 rfl) ⟨by decide, by decide⟩ ?_
      refine mm_cVi (rest := []) C1 ev_X12_251 (mm_dec dk_X12_judged 14 rfl) (c_X12_right x.2.1 hl (d - 1) (by omega) h2c i2c s24_1 1 ⟨by omega, by omega⟩ (by omega)) rfl rfl (Nat.le_of_ble_eq_true rfl) ⟨by decide, by decide⟩ rfl (fun r25 h25c hp25 => ?_) (fun _ _ q => q.elim)
      obtain ⟨b25, i25c, g25c, y25_0⟩ := hp25
      have f25c : mm_fr [(66, 0), (66, 39), (66, 48), (66, 52), (66, 53), (66, 54), (66, 87), (66, 88)] [91, 98, 99, 100, 110, 111] h h25c := mm_fr_tr f2c g25c (by decide +kernel)
      have q25c_11 : h25c.1 66 23 = h2c.1 66 23 := g25c.1 66 23 (by decide)
      have q25c_12 : h25c.1 66 41 = h2c.1 66 41 := g25c.1 66 41 (by decide)
      refine mm_if_eq (tgt := 39) C (mm_dec dk_X12_judged 15 rfl) (by decide) (fun c28 => ?_) (fun c28 => ?_)
      · skip
        refine mm_fgt 0 ?_
        refine mm_fgt 1 ?_
        refine mm_fgt 2 ?_
        refine mm_fgt 3 ?_
        exact J39 h25c i25c f25c
      · skip
        refine mm_aload_n C (mm_dec dk_X12_judged 16 rfl) rfl ?_
        refine mm_iload_n C (mm_dec dk_X12_judged 17 rfl) rfl ?_
        refine mm_cVi (rest := []) C1 ev_X12_499 (mm_dec dk_X12_judged 18 rfl) (c_X12_isSecond x.2.1 hl (d - 1) (by omega) h25c i25c p3) rfl rfl (Nat.le_of_ble_eq_true rfl) ⟨by decide, by decide⟩ rfl (fun r33 h33c hp33 => ?_) (fun _ _ q => q.elim)
        obtain ⟨b33, i33c, g33c, y33_0⟩ := hp33
        have f33c : mm_fr [(66, 0), (66, 39), (66, 48), (66, 52), (66, 53), (66, 54), (66, 87), (66, 88)] [91, 98, 99, 100, 110, 111] h h33c := mm_fr_tr f25c g33c (by decide +kernel)
        have q33c_14 : h33c.1 66 23 = h25c.1 66 23 := g33c.1 66 23 (by decide)
        have q33c_15 : h33c.1 66 41 = h25c.1 66 41 := g33c.1 66 41 (by decide)
        refine mm_if_ne (tgt := 41) C (mm_dec dk_X12_judged 19 rfl) (by decide) (fun c36 => ?_) (fun c36 => ?_)
        · skip
          refine mm_iload_n C (mm_dec dk_X12_judged 22 rfl) rfl ?_
          refine mm_table (t0 := 127) [92, 99, 106, 127, 127, 127, 127, 113, 120] C (mm_dec dk_X12_judged 23 rfl) (by decide) (by decide) (by decide +kernel) (fun c42 => ?_) (fun k42 hk42 c42 => ?_)
          · skip
            refine mm_aload_n C (mm_dec dk_X12_judged 49 rfl) rfl ?_
            refine mm_iload_n C (mm_dec dk_X12_judged 50 rfl) rfl ?_
            refine mm_iload_n C (mm_dec dk_X12_judged 51 rfl) rfl ?_
            refine mm_cVv (rest := []) C1 ev_X12_487 (mm_dec dk_X12_judged 52 rfl) (c_X12_asks x.2.1 hl (d - 1) (by omega) h33c i33c p1 p3 ⟨by omega, by omega⟩ (by exact mm_RO_fr t0 f33c (by decide))) rfl rfl (Nat.le_of_ble_eq_true rfl) ⟨by decide, by decide⟩ rfl (fun h130c hp130 => ?_) (fun _ _ q => q.elim)
            obtain ⟨i130c, g130c⟩ := hp130
            have f130c : mm_fr [(66, 0), (66, 39), (66, 48), (66, 52), (66, 53), (66, 54), (66, 87), (66, 88)] [91, 98, 99, 100, 110, 111] h h130c := mm_fr_tr f33c g130c (by decide +kernel)
            have q130c_17 : h130c.1 66 23 = h33c.1 66 23 := g130c.1 66 23 (by decide)
            have q130c_18 : h130c.1 66 41 = h33c.1 66 41 := g130c.1 66 41 (by decide)
            refine mm_iload_n C (mm_dec dk_X12_judged 53 rfl) rfl ?_
            refine mm_iconst C (mm_dec dk_X12_judged 54 rfl) ⟨by decide, by decide⟩ ?_
            have J173 : ∀ (s173_0 : Int) (bs173_0 : -2147483648 ≤ s173_0 ∧ s173_0 ≤ 2147483647), mm_W x 0 0 173 [mU, mU, mU, mU] [mI s173_0] h130c := by
              intro s173_0 bs173_0
              exact mm_iret C T (mm_dec dk_X12_judged 73 rfl) (by decide : 0 ≤ 0) (by decide : 0 ≤ 0) ⟨_, rfl, ⟨⟨by omega, by omega⟩, i130c, f130c⟩⟩
            refine mm_icmp_ne (tgt := 145) C (mm_dec dk_X12_judged 55 rfl) (by decide) (fun c135 => ?_) (fun c135 => ?_)
            · skip
              refine mm_iload_n C (mm_dec dk_X12_judged 59 rfl) rfl ?_
              refine mm_iconst C (mm_dec dk_X12_judged 60 rfl) ⟨by decide, by decide⟩ ?_
              refine mm_icmp_ne (tgt := 157) C (mm_dec dk_X12_judged 61 rfl) (by decide) (fun c147 => ?_) (fun c147 => ?_)
              · skip
                refine mm_iload_n C (mm_dec dk_X12_judged 65 rfl) rfl ?_
                refine mm_iconst C (mm_dec dk_X12_judged 66 rfl) ⟨by decide, by decide⟩ ?_
                refine mm_icmp_ne (tgt := 169) C (mm_dec dk_X12_judged 67 rfl) (by decide) (fun c159 => ?_) (fun c159 => ?_)
                · skip
                  refine mm_aload_n C (mm_dec dk_X12_judged 71 rfl) rfl ?_
                  refine mm_geti C fl_X12_475 (mm_dec dk_X12_judged 72 rfl) rfl rfl (Or.inl rfl) ?_
                  have g19 : -2147483648 ≤ (h130c.1 66 87) ∧ (h130c.1 66 87) ≤ 2147483647 := i130c.1 66 87
                  refine mm_fgt 0 ?_
                  refine mm_fgt 1 ?_
                  refine mm_fgt 2 ?_
                  refine mm_fgt 3 ?_
                  exact J173 (h130c.1 66 87) ⟨by omega, by omega⟩
                · skip
                  refine mm_aload_n C (mm_dec dk_X12_judged 68 rfl) rfl ?_
                  refine mm_geti C fl_X12_347 (mm_dec dk_X12_judged 69 rfl) rfl rfl (Or.inl rfl) ?_
                  have g20 : -2147483648 ≤ (h130c.1 66 54) ∧ (h130c.1 66 54) ≤ 2147483647 := i130c.1 66 54
                  refine mm_goto (tgt := 173) C (mm_dec dk_X12_judged 70 rfl) (by decide) ?_
                  refine mm_fgt 0 ?_
                  refine mm_fgt 1 ?_
                  refine mm_fgt 2 ?_
                  refine mm_fgt 3 ?_
                  exact J173 (h130c.1 66 54) ⟨by omega, by omega⟩
              · skip
                refine mm_aload_n C (mm_dec dk_X12_judged 62 rfl) rfl ?_
                refine mm_geti C fl_X12_332 (mm_dec dk_X12_judged 63 rfl) rfl rfl (Or.inl rfl) ?_
                have g21 : -2147483648 ≤ (h130c.1 66 53) ∧ (h130c.1 66 53) ≤ 2147483647 := i130c.1 66 53
                refine mm_goto (tgt := 173) C (mm_dec dk_X12_judged 64 rfl) (by decide) ?_
                refine mm_fgt 0 ?_
                refine mm_fgt 1 ?_
                refine mm_fgt 2 ?_
                refine mm_fgt 3 ?_
                exact J173 (h130c.1 66 53) ⟨by omega, by omega⟩
            · skip
              refine mm_aload_n C (mm_dec dk_X12_judged 56 rfl) rfl ?_
              refine mm_geti C fl_X12_341 (mm_dec dk_X12_judged 57 rfl) rfl rfl (Or.inl rfl) ?_
              have g22 : -2147483648 ≤ (h130c.1 66 52) ∧ (h130c.1 66 52) ≤ 2147483647 := i130c.1 66 52
              refine mm_goto (tgt := 173) C (mm_dec dk_X12_judged 58 rfl) (by decide) ?_
              refine mm_fgt 0 ?_
              refine mm_fgt 1 ?_
              refine mm_fgt 2 ?_
              refine mm_fgt 3 ?_
              exact J173 (h130c.1 66 52) ⟨by omega, by omega⟩
          · have hq42 : k42 < 9 := hk42
            rcases (by omega : k42 = 0 ∨ k42 = 1 ∨ k42 = 2 ∨ k42 = 3 ∨ k42 = 4 ∨ k42 = 5 ∨ k42 = 6 ∨ k42 = 7 ∨ k42 = 8) with rfl | rfl | rfl | rfl | rfl | rfl | rfl | rfl | rfl
            · show mm_W x 0 0 92 _ _ _
              refine mm_aload_n C (mm_dec dk_X12_judged 24 rfl) rfl ?_
              refine mm_iload_n C (mm_dec dk_X12_judged 25 rfl) rfl ?_
              refine mm_iload_n C (mm_dec dk_X12_judged 26 rfl) rfl ?_
              refine mm_cVi (rest := []) C1 ev_X12_490 (mm_dec dk_X12_judged 27 rfl) (c_X12_stateOf x.2.1 hl (d - 1) (by omega) h33c i33c p1 p3 ⟨by omega, by omega⟩ (by exact mm_RO_fr t0 f33c (by decide))) rfl rfl (Nat.le_of_ble_eq_true rfl) ⟨by decide, by decide⟩ rfl (fun r95 h95c hp95 => ?_) (fun _ _ q => q.elim)
              obtain ⟨b95, i95c, g95c⟩ := hp95
              have f95c : mm_fr [(66, 0), (66, 39), (66, 48), (66, 52), (66, 53), (66, 54), (66, 87), (66, 88)] [91, 98, 99, 100, 110, 111] h h95c := mm_fr_tr f33c g95c (by decide +kernel)
              have q95c_24 : h95c.1 66 23 = h33c.1 66 23 := g95c.1 66 23 (by decide)
              have q95c_25 : h95c.1 66 41 = h33c.1 66 41 := g95c.1 66 41 (by decide)
              exact mm_iret C T (mm_dec dk_X12_judged 28 rfl) (by decide : 0 ≤ 0) (by decide : 0 ≤ 0) ⟨_, rfl, ⟨⟨by omega, by omega⟩, i95c, f95c⟩⟩
            · show mm_W x 0 0 99 _ _ _
              refine mm_aload_n C (mm_dec dk_X12_judged 29 rfl) rfl ?_
              refine mm_iload_n C (mm_dec dk_X12_judged 30 rfl) rfl ?_
              refine mm_iload_n C (mm_dec dk_X12_judged 31 rfl) rfl ?_
              refine mm_cVi (rest := []) C1 ev_X12_472 (mm_dec dk_X12_judged 32 rfl) (c_X12_startOf x.2.1 hl (d - 1) (by omega) h33c i33c p1 p3 ⟨by omega, by omega⟩) rfl rfl (Nat.le_of_ble_eq_true rfl) ⟨by decide, by decide⟩ rfl (fun r102 h102c hp102 => ?_) (fun _ _ q => q.elim)
              obtain ⟨b102, z102⟩ := hp102
              rw [z102]
              exact mm_iret C T (mm_dec dk_X12_judged 33 rfl) (by decide : 0 ≤ 0) (by decide : 0 ≤ 0) ⟨_, rfl, ⟨⟨by omega, by omega⟩, i33c, f33c⟩⟩
            · show mm_W x 0 0 106 _ _ _
              refine mm_aload_n C (mm_dec dk_X12_judged 34 rfl) rfl ?_
              refine mm_iload_n C (mm_dec dk_X12_judged 35 rfl) rfl ?_
              refine mm_iload_n C (mm_dec dk_X12_judged 36 rfl) rfl ?_
              refine mm_cVi (rest := []) C1 ev_X12_326 (mm_dec dk_X12_judged 37 rfl) (c_X12_finishOf x.2.1 hl (d - 1) (by omega) h33c i33c p1 p3 ⟨by omega, by omega⟩) rfl rfl (Nat.le_of_ble_eq_true rfl) ⟨by decide, by decide⟩ rfl (fun r109 h109c hp109 => ?_) (fun _ _ q => q.elim)
              obtain ⟨b109, z109⟩ := hp109
              rw [z109]
              exact mm_iret C T (mm_dec dk_X12_judged 38 rfl) (by decide : 0 ≤ 0) (by decide : 0 ≤ 0) ⟨_, rfl, ⟨⟨by omega, by omega⟩, i33c, f33c⟩⟩
            · show mm_W x 0 0 127 _ _ _
              refine mm_aload_n C (mm_dec dk_X12_judged 49 rfl) rfl ?_
              refine mm_iload_n C (mm_dec dk_X12_judged 50 rfl) rfl ?_
              refine mm_iload_n C (mm_dec dk_X12_judged 51 rfl) rfl ?_
              refine mm_cVv (rest := []) C1 ev_X12_487 (mm_dec dk_X12_judged 52 rfl) (c_X12_asks x.2.1 hl (d - 1) (by omega) h33c i33c p1 p3 ⟨by omega, by omega⟩ (by exact mm_RO_fr t0 f33c (by decide))) rfl rfl (Nat.le_of_ble_eq_true rfl) ⟨by decide, by decide⟩ rfl (fun h130c hp130 => ?_) (fun _ _ q => q.elim)
              obtain ⟨i130c, g130c⟩ := hp130
              have f130c : mm_fr [(66, 0), (66, 39), (66, 48), (66, 52), (66, 53), (66, 54), (66, 87), (66, 88)] [91, 98, 99, 100, 110, 111] h h130c := mm_fr_tr f33c g130c (by decide +kernel)
              have q130c_29 : h130c.1 66 23 = h33c.1 66 23 := g130c.1 66 23 (by decide)
              have q130c_30 : h130c.1 66 41 = h33c.1 66 41 := g130c.1 66 41 (by decide)
              refine mm_iload_n C (mm_dec dk_X12_judged 53 rfl) rfl ?_
              refine mm_iconst C (mm_dec dk_X12_judged 54 rfl) ⟨by decide, by decide⟩ ?_
              have J173 : ∀ (s173_0 : Int) (bs173_0 : -2147483648 ≤ s173_0 ∧ s173_0 ≤ 2147483647), mm_W x 0 0 173 [mU, mU, mU, mU] [mI s173_0] h130c := by
                intro s173_0 bs173_0
                exact mm_iret C T (mm_dec dk_X12_judged 73 rfl) (by decide : 0 ≤ 0) (by decide : 0 ≤ 0) ⟨_, rfl, ⟨⟨by omega, by omega⟩, i130c, f130c⟩⟩
              refine mm_icmp_ne (tgt := 145) C (mm_dec dk_X12_judged 55 rfl) (by decide) (fun c135 => ?_) (fun c135 => ?_)
              · skip
                exfalso; omega
              · skip
                refine mm_aload_n C (mm_dec dk_X12_judged 56 rfl) rfl ?_
                refine mm_geti C fl_X12_341 (mm_dec dk_X12_judged 57 rfl) rfl rfl (Or.inl rfl) ?_
                have g31 : -2147483648 ≤ (h130c.1 66 52) ∧ (h130c.1 66 52) ≤ 2147483647 := i130c.1 66 52
                refine mm_goto (tgt := 173) C (mm_dec dk_X12_judged 58 rfl) (by decide) ?_
                refine mm_fgt 0 ?_
                refine mm_fgt 1 ?_
                refine mm_fgt 2 ?_
                refine mm_fgt 3 ?_
                exact J173 (h130c.1 66 52) ⟨by omega, by omega⟩
            · show mm_W x 0 0 127 _ _ _
              refine mm_aload_n C (mm_dec dk_X12_judged 49 rfl) rfl ?_
              refine mm_iload_n C (mm_dec dk_X12_judged 50 rfl) rfl ?_
              refine mm_iload_n C (mm_dec dk_X12_judged 51 rfl) rfl ?_
              refine mm_cVv (rest := []) C1 ev_X12_487 (mm_dec dk_X12_judged 52 rfl) (c_X12_asks x.2.1 hl (d - 1) (by omega) h33c i33c p1 p3 ⟨by omega, by omega⟩ (by exact mm_RO_fr t0 f33c (by decide))) rfl rfl (Nat.le_of_ble_eq_true rfl) ⟨by decide, by decide⟩ rfl (fun h130c hp130 => ?_) (fun _ _ q => q.elim)
              obtain ⟨i130c, g130c⟩ := hp130
              have f130c : mm_fr [(66, 0), (66, 39), (66, 48), (66, 52), (66, 53), (66, 54), (66, 87), (66, 88)] [91, 98, 99, 100, 110, 111] h h130c := mm_fr_tr f33c g130c (by decide +kernel)
              have q130c_33 : h130c.1 66 23 = h33c.1 66 23 := g130c.1 66 23 (by decide)
              have q130c_34 : h130c.1 66 41 = h33c.1 66 41 := g130c.1 66 41 (by decide)
              refine mm_iload_n C (mm_dec dk_X12_judged 53 rfl) rfl ?_
              refine mm_iconst C (mm_dec dk_X12_judged 54 rfl) ⟨by decide, by decide⟩ ?_
              have J173 : ∀ (s173_0 : Int) (bs173_0 : -2147483648 ≤ s173_0 ∧ s173_0 ≤ 2147483647), mm_W x 0 0 173 [mU, mU, mU, mU] [mI s173_0] h130c := by
                intro s173_0 bs173_0
                exact mm_iret C T (mm_dec dk_X12_judged 73 rfl) (by decide : 0 ≤ 0) (by decide : 0 ≤ 0) ⟨_, rfl, ⟨⟨by omega, by omega⟩, i130c, f130c⟩⟩
              refine mm_icmp_ne (tgt := 145) C (mm_dec dk_X12_judged 55 rfl) (by decide) (fun c135 => ?_) (fun c135 => ?_)
              · skip
                refine mm_iload_n C (mm_dec dk_X12_judged 59 rfl) rfl ?_
                refine mm_iconst C (mm_dec dk_X12_judged 60 rfl) ⟨by decide, by decide⟩ ?_
                refine mm_icmp_ne (tgt := 157) C (mm_dec dk_X12_judged 61 rfl) (by decide) (fun c147 => ?_) (fun c147 => ?_)
                · skip
                  exfalso; omega
                · skip
                  refine mm_aload_n C (mm_dec dk_X12_judged 62 rfl) rfl ?_
                  refine mm_geti C fl_X12_332 (mm_dec dk_X12_judged 63 rfl) rfl rfl (Or.inl rfl) ?_
                  have g35 : -2147483648 ≤ (h130c.1 66 53) ∧ (h130c.1 66 53) ≤ 2147483647 := i130c.1 66 53
                  refine mm_goto (tgt := 173) C (mm_dec dk_X12_judged 64 rfl) (by decide) ?_
                  refine mm_fgt 0 ?_
                  refine mm_fgt 1 ?_
                  refine mm_fgt 2 ?_
                  refine mm_fgt 3 ?_
                  exact J173 (h130c.1 66 53) ⟨by omega, by omega⟩
              · skip
                exfalso; omega
            · show mm_W x 0 0 127 _ _ _
              refine mm_aload_n C (mm_dec dk_X12_judged 49 rfl) rfl ?_
              refine mm_iload_n C (mm_dec dk_X12_judged 50 rfl) rfl ?_
              refine mm_iload_n C (mm_dec dk_X12_judged 51 rfl) rfl ?_
              refine mm_cVv (rest := []) C1 ev_X12_487 (mm_dec dk_X12_judged 52 rfl) (c_X12_asks x.2.1 hl (d - 1) (by omega) h33c i33c p1 p3 ⟨by omega, by omega⟩ (by exact mm_RO_fr t0 f33c (by decide))) rfl rfl (Nat.le_of_ble_eq_true rfl) ⟨by decide, by decide⟩ rfl (fun h130c hp130 => ?_) (fun _ _ q => q.elim)
              obtain ⟨i130c, g130c⟩ := hp130
              have f130c : mm_fr [(66, 0), (66, 39), (66, 48), (66, 52), (66, 53), (66, 54), (66, 87), (66, 88)] [91, 98, 99, 100, 110, 111] h h130c := mm_fr_tr f33c g130c (by decide +kernel)
              have q130c_37 : h130c.1 66 23 = h33c.1 66 23 := g130c.1 66 23 (by decide)
              have q130c_38 : h130c.1 66 41 = h33c.1 66 41 := g130c.1 66 41 (by decide)
              refine mm_iload_n C (mm_dec dk_X12_judged 53 rfl) rfl ?_
              refine mm_iconst C (mm_dec dk_X12_judged 54 rfl) ⟨by decide, by decide⟩ ?_
              have J173 : ∀ (s173_0 : Int) (bs173_0 : -2147483648 ≤ s173_0 ∧ s173_0 ≤ 2147483647), mm_W x 0 0 173 [mU, mU, mU, mU] [mI s173_0] h130c := by
                intro s173_0 bs173_0
                exact mm_iret C T (mm_dec dk_X12_judged 73 rfl) (by decide : 0 ≤ 0) (by decide : 0 ≤ 0) ⟨_, rfl, ⟨⟨by omega, by omega⟩, i130c, f130c⟩⟩
              refine mm_icmp_ne (tgt := 145) C (mm_dec dk_X12_judged 55 rfl) (by decide) (fun c135 => ?_) (fun c135 => ?_)
              · skip
                refine mm_iload_n C (mm_dec dk_X12_judged 59 rfl) rfl ?_
                refine mm_iconst C (mm_dec dk_X12_judged 60 rfl) ⟨by decide, by decide⟩ ?_
                refine mm_icmp_ne (tgt := 157) C (mm_dec dk_X12_judged 61 rfl) (by decide) (fun c147 => ?_) (fun c147 => ?_)
                · skip
                  refine mm_iload_n C (mm_dec dk_X12_judged 65 rfl) rfl ?_
                  refine mm_iconst C (mm_dec dk_X12_judged 66 rfl) ⟨by decide, by decide⟩ ?_
                  refine mm_icmp_ne (tgt := 169) C (mm_dec dk_X12_judged 67 rfl) (by decide) (fun c159 => ?_) (fun c159 => ?_)
                  · skip
                    exfalso; omega
                  · skip
                    refine mm_aload_n C (mm_dec dk_X12_judged 68 rfl) rfl ?_
                    refine mm_geti C fl_X12_347 (mm_dec dk_X12_judged 69 rfl) rfl rfl (Or.inl rfl) ?_
                    have g39 : -2147483648 ≤ (h130c.1 66 54) ∧ (h130c.1 66 54) ≤ 2147483647 := i130c.1 66 54
                    refine mm_goto (tgt := 173) C (mm_dec dk_X12_judged 70 rfl) (by decide) ?_
                    refine mm_fgt 0 ?_
                    refine mm_fgt 1 ?_
                    refine mm_fgt 2 ?_
                    refine mm_fgt 3 ?_
                    exact J173 (h130c.1 66 54) ⟨by omega, by omega⟩
                · skip
                  exfalso; omega
              · skip
                exfalso; omega
            · show mm_W x 0 0 127 _ _ _
              refine mm_aload_n C (mm_dec dk_X12_judged 49 rfl) rfl ?_
              refine mm_iload_n C (mm_dec dk_X12_judged 50 rfl) rfl ?_
              refine mm_iload_n C (mm_dec dk_X12_judged 51 rfl) rfl ?_
              refine mm_cVv (rest := []) C1 ev_X12_487 (mm_dec dk_X12_judged 52 rfl) (c_X12_asks x.2.1 hl (d - 1) (by omega) h33c i33c p1 p3 ⟨by omega, by omega⟩ (by exact mm_RO_fr t0 f33c (by decide))) rfl rfl (Nat.le_of_ble_eq_true rfl) ⟨by decide, by decide⟩ rfl (fun h130c hp130 => ?_) (fun _ _ q => q.elim)
              obtain ⟨i130c, g130c⟩ := hp130
              have f130c : mm_fr [(66, 0), (66, 39), (66, 48), (66, 52), (66, 53), (66, 54), (66, 87), (66, 88)] [91, 98, 99, 100, 110, 111] h h130c := mm_fr_tr f33c g130c (by decide +kernel)
              have q130c_41 : h130c.1 66 23 = h33c.1 66 23 := g130c.1 66 23 (by decide)
              have q130c_42 : h130c.1 66 41 = h33c.1 66 41 := g130c.1 66 41 (by decide)
              refine mm_iload_n C (mm_dec dk_X12_judged 53 rfl) rfl ?_
              refine mm_iconst C (mm_dec dk_X12_judged 54 rfl) ⟨by decide, by decide⟩ ?_
              have J173 : ∀ (s173_0 : Int) (bs173_0 : -2147483648 ≤ s173_0 ∧ s173_0 ≤ 2147483647), mm_W x 0 0 173 [mU, mU, mU, mU] [mI s173_0] h130c := by
                intro s173_0 bs173_0
                exact mm_iret C T (mm_dec dk_X12_judged 73 rfl) (by decide : 0 ≤ 0) (by decide : 0 ≤ 0) ⟨_, rfl, ⟨⟨by omega, by omega⟩, i130c, f130c⟩⟩
              refine mm_icmp_ne (tgt := 145) C (mm_dec dk_X12_judged 55 rfl) (by decide) (fun c135 => ?_) (fun c135 => ?_)
              · skip
                refine mm_iload_n C (mm_dec dk_X12_judged 59 rfl) rfl ?_
                refine mm_iconst C (mm_dec dk_X12_judged 60 rfl) ⟨by decide, by decide⟩ ?_
                refine mm_icmp_ne (tgt := 157) C (mm_dec dk_X12_judged 61 rfl) (by decide) (fun c147 => ?_) (fun c147 => ?_)
                · skip
                  refine mm_iload_n C (mm_dec dk_X12_judged 65 rfl) rfl ?_
                  refine mm_iconst C (mm_dec dk_X12_judged 66 rfl) ⟨by decide, by decide⟩ ?_
                  refine mm_icmp_ne (tgt := 169) C (mm_dec dk_X12_judged 67 rfl) (by decide) (fun c159 => ?_) (fun c159 => ?_)
                  · skip
                    refine mm_aload_n C (mm_dec dk_X12_judged 71 rfl) rfl ?_
                    refine mm_geti C fl_X12_475 (mm_dec dk_X12_judged 72 rfl) rfl rfl (Or.inl rfl) ?_
                    have g43 : -2147483648 ≤ (h130c.1 66 87) ∧ (h130c.1 66 87) ≤ 2147483647 := i130c.1 66 87
                    refine mm_fgt 0 ?_
                    refine mm_fgt 1 ?_
                    refine mm_fgt 2 ?_
                    refine mm_fgt 3 ?_
                    exact J173 (h130c.1 66 87) ⟨by omega, by omega⟩
                  · skip
                    exfalso; omega
                · skip
                  exfalso; omega
              · skip
                exfalso; omega
            · show mm_W x 0 0 113 _ _ _
              refine mm_aload_n C (mm_dec dk_X12_judged 39 rfl) rfl ?_
              refine mm_iload_n C (mm_dec dk_X12_judged 40 rfl) rfl ?_
              refine mm_iload_n C (mm_dec dk_X12_judged 41 rfl) rfl ?_
              refine mm_cVi (rest := []) C1 ev_X12_496 (mm_dec dk_X12_judged 42 rfl) (c_X12_totalOf x.2.1 hl (d - 1) (by omega) h33c i33c p1 p3 ⟨by omega, by omega⟩ (by exact mm_RO_fr t0 f33c (by decide))) rfl rfl (Nat.le_of_ble_eq_true rfl) ⟨by decide, by decide⟩ rfl (fun r116 h116c hp116 => ?_) (fun _ _ q => q.elim)
              obtain ⟨b116, i116c, g116c⟩ := hp116
              have f116c : mm_fr [(66, 0), (66, 39), (66, 48), (66, 52), (66, 53), (66, 54), (66, 87), (66, 88)] [91, 98, 99, 100, 110, 111] h h116c := mm_fr_tr f33c g116c (by decide +kernel)
              have q116c_45 : h116c.1 66 23 = h33c.1 66 23 := g116c.1 66 23 (by decide)
              have q116c_46 : h116c.1 66 41 = h33c.1 66 41 := g116c.1 66 41 (by decide)
              exact mm_iret C T (mm_dec dk_X12_judged 43 rfl) (by decide : 0 ≤ 0) (by decide : 0 ≤ 0) ⟨_, rfl, ⟨⟨by omega, by omega⟩, i116c, f116c⟩⟩
            · show mm_W x 0 0 120 _ _ _
              refine mm_aload_n C (mm_dec dk_X12_judged 44 rfl) rfl ?_
              refine mm_iload_n C (mm_dec dk_X12_judged 45 rfl) rfl ?_
              refine mm_iload_n C (mm_dec dk_X12_judged 46 rfl) rfl ?_
              refine mm_cVi (rest := []) C1 ev_X12_502 (mm_dec dk_X12_judged 47 rfl) (c_X12_placeOf x.2.1 hl (d - 1) (by omega) h33c i33c p1 p3 ⟨by omega, by omega⟩ (by exact mm_RO_fr t0 f33c (by decide))) rfl rfl (Nat.le_of_ble_eq_true rfl) ⟨by decide, by decide⟩ rfl (fun r123 h123c hp123 => ?_) (fun _ _ q => q.elim)
              obtain ⟨b123, i123c, g123c⟩ := hp123
              have f123c : mm_fr [(66, 0), (66, 39), (66, 48), (66, 52), (66, 53), (66, 54), (66, 87), (66, 88)] [91, 98, 99, 100, 110, 111] h h123c := mm_fr_tr f33c g123c (by decide +kernel)
              have q123c_48 : h123c.1 66 23 = h33c.1 66 23 := g123c.1 66 23 (by decide)
              have q123c_49 : h123c.1 66 41 = h33c.1 66 41 := g123c.1 66 41 (by decide)
              exact mm_iret C T (mm_dec dk_X12_judged 48 rfl) (by decide : 0 ≤ 0) (by decide : 0 ≤ 0) ⟨_, rfl, ⟨⟨by omega, by omega⟩, i123c, f123c⟩⟩
        · skip
          refine mm_fgt 0 ?_
          refine mm_fgt 1 ?_
          refine mm_fgt 2 ?_
          refine mm_fgt 3 ?_
          exact J39 h33c i33c f33c
    have J23 : mm_W x 0 0 23 [mR 66, mI p1, mI p2, mI p3] [mR 66] h2c := by
      refine mm_iconst C (mm_dec dk_X12_judged 12 rfl) ⟨by decide, by decide⟩ ?_
      exact J24 0 ⟨by omega, by omega⟩ (Or.inl rfl)
    refine mm_if_lt (tgt := 23) C (mm_dec dk_X12_judged 6 rfl) (by decide) (fun c10 => ?_) (fun c10 => ?_)
    · skip
      exact J23
    · skip
      refine mm_iload_n C (mm_dec dk_X12_judged 7 rfl) rfl ?_
      refine mm_bipush C (mm_dec dk_X12_judged 8 rfl) ⟨by decide, by decide⟩ ?_
      refine mm_icmp_gt (tgt := 23) C (mm_dec dk_X12_judged 9 rfl) (by decide) (fun c16 => ?_) (fun c16 => ?_)
      · skip
        exact J23
      · skip
        refine mm_iconst C (mm_dec dk_X12_judged 10 rfl) ⟨by decide, by decide⟩ ?_
        refine mm_goto (tgt := 24) C (mm_dec dk_X12_judged 11 rfl) (by decide) ?_
        exact J24 1 ⟨by omega, by omega⟩ (Or.inr (⟨by omega, by omega, rfl⟩))
set_option maxRecDepth 100000 in
set_option maxHeartbeats 4000000 in
theorem c_X12_timeOf (l : Launch) (hl : l.stackTraces = false) (d : Nat) (hd : 6 ≤ d) (h : mH) (i0 : mm_inv h) (p1 : Int) (p2 : Int) (bp1 : 0 ≤ p1 ∧ p1 ≤ 9) (t0 : mm_RO h) : mm_Met l d yX12_timeOf cX12_timeOf 6 (some .int) [mR 66, mI p1, mI p2] h (mm_pi fun r h2 => (-2147483648 ≤ r ∧ r ≤ 2147483647) ∧ mm_inv h2 ∧ mm_fr [(66, 39), (66, 48), (66, 52), (66, 53), (66, 54), (66, 87), (66, 88), (66, 89)] [91, 98, 99, 100, 110, 111] h h2) mm_nx 0 0 := by
  refine mm_ofW (ls := [mR 66, mI p1, mI p2, mU, mU, mU]) hl (by decide) rfl (Nat.le_of_ble_eq_true rfl) ?_
  intro x hxl C T hnm htb
  subst hxl
  have C1 := mm_OK_le (d' := d - 1 + 1) (by omega) C
  refine mm_rng (fun hr _ => ?_)
  have ap1 : -2147483648 ≤ p1 ∧ p1 < 2147483648 := mm_ok_at hr (i := 1) rfl
  have ap2 : -2147483648 ≤ p2 ∧ p2 < 2147483648 := mm_ok_at hr (i := 2) rfl
  have f0 : mm_fr [(66, 39), (66, 48), (66, 52), (66, 53), (66, 54), (66, 87), (66, 88), (66, 89)] [91, 98, 99, 100, 110, 111] h h := mm_fr_rf
  refine mm_iconst C (mm_dec dk_X12_timeOf 0 rfl) ⟨by decide, by decide⟩ ?_
  refine mm_istore_nL (ls2 := [mR 66, mI p1, mI p2, mI 0, mU, mU]) C (mm_dec dk_X12_timeOf 1 rfl) (by decide) rfl ?_
  refine mm_aload_n C (mm_dec dk_X12_timeOf 2 rfl) rfl ?_
  refine mm_iconst C (mm_dec dk_X12_timeOf 3 rfl) ⟨by decide, by decide⟩ ?_
  refine mm_puti C fl_X12_505 (mm_dec dk_X12_timeOf 4 rfl) rfl rfl rfl (Or.inr ⟨rfl, rfl, by omega⟩) ?_
  have i1 : mm_inv (mm_pf h 66 89 1) := mm_inv_pf i0 (show 0 ≤ 1 ∧ 1 ≤ 1 from ⟨by omega, by omega⟩) (by decide)
  have f1 : mm_fr [(66, 39), (66, 48), (66, 52), (66, 53), (66, 54), (66, 87), (66, 88), (66, 89)] [91, 98, 99, 100, 110, 111] h (mm_pf h 66 89 1) := mm_fr_pf f0 (by decide)
  obtain ⟨h1, eh1⟩ : ∃ z, z = mm_pf h 66 89 1 := ⟨_, rfl⟩
  rw [← eh1] at i1 f1 ⊢
  have qh1 : h1.1 66 89 = 1 := by rw [eh1]; exact mm_pf_same _ _ _ _
  refine mm_iconst C (mm_dec dk_X12_timeOf 5 rfl) ⟨by decide, by decide⟩ ?_
  have J10 : ∀ (n : Nat) (x10_3 : Int) (bx10_3 : -2147483648 ≤ x10_3 ∧ x10_3 ≤ 2147483647) (x10_4 : Int) (bx10_4 : 0 ≤ x10_4 ∧ x10_4 ≤ 3) (h10_ : mH) (i10_ : mm_inv h10_) (f10_ : mm_fr [(66, 39), (66, 48), (66, 52), (66, 53), (66, 54), (66, 87), (66, 88), (66, 89)] [91, 98, 99, 100, 110, 111] h h10_), (3 - x10_4 : Int) < n → mm_W x 0 0 10 [mR 66, mI p1, mI p2, mI x10_3, mI x10_4, mU] [] h10_ := by
    intro n
    induction n with
    | zero =>
      intro x10_3 bx10_3 x10_4 bx10_4 h10_ i10_ f10_ hm
      exfalso; omega
    | succ n ih10 =>
      intro x10_3 bx10_3 x10_4 bx10_4 h10_ i10_ f10_ hm10
      refine mm_iload C (mm_dec dk_X12_timeOf 7 rfl) rfl ?_
      refine mm_iconst C (mm_dec dk_X12_timeOf 8 rfl) ⟨by decide, by decide⟩ ?_
      refine mm_icmp_ge (tgt := 81) C (mm_dec dk_X12_timeOf 9 rfl) (by decide) (fun c13 => ?_) (fun c13 => ?_)
      · skip
        refine mm_iload_n C (mm_dec dk_X12_timeOf 47 rfl) rfl ?_
        refine mm_aload_n C (mm_dec dk_X12_timeOf 48 rfl) rfl ?_
        refine mm_aload_n C (mm_dec dk_X12_timeOf 49 rfl) rfl ?_
        refine mm_getr (t := 90) C fl_X12_81 (mm_dec dk_X12_timeOf 50 rfl) rfl rfl (mm_ref i10_ rfl) ?_
        refine mm_iconst C (mm_dec dk_X12_timeOf 51 rfl) ⟨by decide, by decide⟩ ?_
        refine mm_iload_n C (mm_dec dk_X12_timeOf 52 rfl) rfl ?_
        refine mm_imul C (mm_dec dk_X12_timeOf 53 rfl) ⟨by omega, by omega⟩ ?_
        refine mm_iconst C (mm_dec dk_X12_timeOf 54 rfl) ⟨by decide, by decide⟩ ?_
        refine mm_iadd C (mm_dec dk_X12_timeOf 55 rfl) ⟨by omega, by omega⟩ ?_
        refine mm_iald C (mm_dec dk_X12_timeOf 56 rfl) rfl (by omega) (by omega) ?_
        have g1 : 0 ≤ (h10_.2.1 90 ((3 * p1) + 2)) ∧ (h10_.2.1 90 ((3 * p1) + 2)) ≤ 39 := i10_.2.1 90 ((3 * p1) + 2)
        refine mm_iload_n C (mm_dec dk_X12_timeOf 57 rfl) rfl ?_
        refine mm_cVi (rest := [mI x10_3]) C1 ev_X12_326 (mm_dec dk_X12_timeOf 58 rfl) (c_X12_finishOf x.2.1 hl (d - 1) (by omega) h10_ i10_ (h10_.2.1 90 ((3 * p1) + 2)) p2 ⟨by omega, by omega⟩) rfl rfl (Nat.le_of_ble_eq_true rfl) ⟨by decide, by decide⟩ rfl (fun r94 h94c hp94 => ?_) (fun _ _ q => q.elim)
        obtain ⟨b94, z94⟩ := hp94
        rw [z94]
        refine mm_iaddw C (mm_dec dk_X12_timeOf 59 rfl) ?_
        have g3 : -2147483648 ≤ (mm_w (x10_3 + r94)) ∧ (mm_w (x10_3 + r94)) < 2147483648 := mm_w_rg _
        refine mm_aload_n C (mm_dec dk_X12_timeOf 60 rfl) rfl ?_
        refine mm_aload_n C (mm_dec dk_X12_timeOf 61 rfl) rfl ?_
        refine mm_getr (t := 90) C fl_X12_81 (mm_dec dk_X12_timeOf 62 rfl) rfl rfl (mm_ref i10_ rfl) ?_
        refine mm_iconst C (mm_dec dk_X12_timeOf 63 rfl) ⟨by decide, by decide⟩ ?_
        refine mm_iload_n C (mm_dec dk_X12_timeOf 64 rfl) rfl ?_
        refine mm_imul C (mm_dec dk_X12_timeOf 65 rfl) ⟨by omega, by omega⟩ ?_
        refine mm_iald C (mm_dec dk_X12_timeOf 66 rfl) rfl (by omega) (by omega) ?_
        have g4 : 0 ≤ (h10_.2.1 90 (3 * p1)) ∧ (h10_.2.1 90 (3 * p1)) ≤ 39 := i10_.2.1 90 (3 * p1)
        refine mm_iload_n C (mm_dec dk_X12_timeOf 67 rfl) rfl ?_
        refine mm_cVi (rest := [mI (mm_w (x10_3 + r94))]) C1 ev_X12_472 (mm_dec dk_X12_timeOf 68 rfl) (c_X12_startOf x.2.1 hl (d - 1) (by omega) h10_ i10_ (h10_.2.1 90 (3 * p1)) p2 ⟨by omega, by omega⟩) rfl rfl (Nat.le_of_ble_eq_true rfl) ⟨by decide, by decide⟩ rfl (fun r108 h108c hp108 => ?_) (fun _ _ q => q.elim)
        obtain ⟨b108, z108⟩ := hp108
        rw [z108]
        refine mm_isubw C (mm_dec dk_X12_timeOf 69 rfl) ?_
        have g6 : -2147483648 ≤ (mm_w ((mm_w (x10_3 + r94)) - r108)) ∧ (mm_w ((mm_w (x10_3 + r94)) - r108)) < 2147483648 := mm_w_rg _
        exact mm_iret C T (mm_dec dk_X12_timeOf 70 rfl) (by decide : 0 ≤ 0) (by decide : 0 ≤ 0) ⟨_, rfl, ⟨⟨by omega, by omega⟩, i10_, f10_⟩⟩
      · skip
        refine mm_aload_n C (mm_dec dk_X12_timeOf 10 rfl) rfl ?_
        refine mm_getr (t := 90) C fl_X12_81 (mm_dec dk_X12_timeOf 11 rfl) rfl rfl (mm_ref i10_ rfl) ?_
        refine mm_iconst C (mm_dec dk_X12_timeOf 12 rfl) ⟨by decide, by decide⟩ ?_
        refine mm_iload_n C (mm_dec dk_X12_timeOf 13 rfl) rfl ?_
        refine mm_imul C (mm_dec dk_X12_timeOf 14 rfl) ⟨by omega, by omega⟩ ?_
        refine mm_iload C (mm_dec dk_X12_timeOf 15 rfl) rfl ?_
        refine mm_iadd C (mm_dec dk_X12_timeOf 16 rfl) ⟨by omega, by omega⟩ ?_
        refine mm_iald C (mm_dec dk_X12_timeOf 17 rfl) rfl (by omega) (by omega) ?_
        have g7 : 0 ≤ (h10_.2.1 90 ((3 * p1) + x10_4)) ∧ (h10_.2.1 90 ((3 * p1) + x10_4)) ≤ 39 := i10_.2.1 90 ((3 * p1) + x10_4)
        refine mm_istoreL (ls2 := [mR 66, mI p1, mI p2, mI x10_3, mI x10_4, mI (h10_.2.1 90 ((3 * p1) + x10_4))]) C (mm_dec dk_X12_timeOf 18 rfl) (by decide) rfl ?_
        refine mm_aload_n C (mm_dec dk_X12_timeOf 19 rfl) rfl ?_
        refine mm_aload_n C (mm_dec dk_X12_timeOf 20 rfl) rfl ?_
        refine mm_iload C (mm_dec dk_X12_timeOf 21 rfl) rfl ?_
        refine mm_iload_n C (mm_dec dk_X12_timeOf 22 rfl) rfl ?_
        refine mm_cVi (rest := [mR 66]) C1 ev_X12_490 (mm_dec dk_X12_timeOf 23 rfl) (c_X12_stateOf x.2.1 hl (d - 1) (by omega) h10_ i10_ (h10_.2.1 90 ((3 * p1) + x10_4)) p2 ⟨by omega, by omega⟩ (by exact mm_RO_fr t0 f10_ (by decide))) rfl rfl (Nat.le_of_ble_eq_true rfl) ⟨by decide, by decide⟩ rfl (fun r34 h34c hp34 => ?_) (fun _ _ q => q.elim)
        obtain ⟨b34, i34c, g34c⟩ := hp34
        have f34c : mm_fr [(66, 39), (66, 48), (66, 52), (66, 53), (66, 54), (66, 87), (66, 88), (66, 89)] [91, 98, 99, 100, 110, 111] h h34c := mm_fr_tr f10_ g34c (by decide +kernel)
        refine mm_iconst C (mm_dec dk_X12_timeOf 24 rfl) ⟨by decide, by decide⟩ ?_
        have J46 : ∀ (s46_1 : Int) (bs46_1 : 0 ≤ s46_1 ∧ s46_1 ≤ 1) (vs46_1 : (r34 ≠ 4 ∧ s46_1 = 0) ∨ (r34 = 4 ∧ s46_1 = 1)), mm_W x 0 0 46 [mR 66, mI p1, mI p2, mI x10_3, mI x10_4, mI (h10_.2.1 90 ((3 * p1) + x10_4))] [mI s46_1, mR 66] h34c := by
          intro s46_1 bs46_1 vs46_1
          refine mm_puti C fl_X12_505 (mm_dec dk_X12_timeOf 29 rfl) rfl rfl rfl (Or.inr ⟨rfl, rfl, by omega⟩) ?_
          have i3 : mm_inv (mm_pf h34c 66 89 s46_1) := mm_inv_pf i34c (show 0 ≤ s46_1 ∧ s46_1 ≤ 1 from ⟨by omega, by omega⟩) (by decide)
          have f3 : mm_fr [(66, 39), (66, 48), (66, 52), (66, 53), (66, 54), (66, 87), (66, 88), (66, 89)] [91, 98, 99, 100, 110, 111] h (mm_pf h34c 66 89 s46_1) := mm_fr_pf f34c (by decide)
          obtain ⟨h3, eh3⟩ : ∃ z, z = mm_pf h34c 66 89 s46_1 := ⟨_, rfl⟩
          rw [← eh3] at i3 f3 ⊢
          have qh3 : h3.1 66 89 = s46_1 := by rw [eh3]; exact mm_pf_same _ _ _ _
          refine mm_aload_n C (mm_dec dk_X12_timeOf 30 rfl) rfl ?_
          refine mm_geti C fl_X12_505 (mm_dec dk_X12_timeOf 31 rfl) rfl rfl (Or.inr rfl) ?_
          refine mm_if_ne (tgt := 60) C (mm_dec dk_X12_timeOf 32 rfl) (by decide) (fun c53 => ?_) (fun c53 => ?_)
          · skip
            refine mm_iload_n C (mm_dec dk_X12_timeOf 35 rfl) rfl ?_
            refine mm_aload_n C (mm_dec dk_X12_timeOf 36 rfl) rfl ?_
            refine mm_geti C fl_X12_475 (mm_dec dk_X12_timeOf 37 rfl) rfl rfl (Or.inl rfl) ?_
            have g9 : -2147483648 ≤ (h3.1 66 87) ∧ (h3.1 66 87) ≤ 2147483647 := i3.1 66 87
            refine mm_aload_n C (mm_dec dk_X12_timeOf 38 rfl) rfl ?_
            refine mm_iload C (mm_dec dk_X12_timeOf 39 rfl) rfl ?_
            refine mm_iload_n C (mm_dec dk_X12_timeOf 40 rfl) rfl ?_
            refine mm_cVi (rest := [mI (h3.1 66 87), mI x10_3]) C1 ev_X12_493 (mm_dec dk_X12_timeOf 41 rfl) (c_X12_added x.2.1 hl (d - 1) (by omega) h3 i3 (h10_.2.1 90 ((3 * p1) + x10_4)) p2) rfl rfl (Nat.le_of_ble_eq_true rfl) ⟨by decide, by decide⟩ rfl (fun r69 h69c hp69 => ?_) (fun _ _ q => q.elim)
            obtain ⟨b69, z69⟩ := hp69
            rw [z69]
            refine mm_iaddw C (mm_dec dk_X12_timeOf 42 rfl) ?_
            have g11 : -2147483648 ≤ (mm_w ((h3.1 66 87) + r69)) ∧ (mm_w ((h3.1 66 87) + r69)) < 2147483648 := mm_w_rg _
            refine mm_iaddw C (mm_dec dk_X12_timeOf 43 rfl) ?_
            have g12 : -2147483648 ≤ (mm_w (x10_3 + (mm_w ((h3.1 66 87) + r69)))) ∧ (mm_w (x10_3 + (mm_w ((h3.1 66 87) + r69)))) < 2147483648 := mm_w_rg _
            refine mm_istore_nL (ls2 := [mR 66, mI p1, mI p2, mI (mm_w (x10_3 + (mm_w ((h3.1 66 87) + r69)))), mI x10_4, mI (h10_.2.1 90 ((3 * p1) + x10_4))]) C (mm_dec dk_X12_timeOf 44 rfl) (by decide) rfl ?_
            refine mm_iincL (ls2 := [mR 66, mI p1, mI p2, mI (mm_w (x10_3 + (mm_w ((h3.1 66 87) + r69)))), mI (x10_4 + 1), mI (h10_.2.1 90 ((3 * p1) + x10_4))]) C (mm_dec dk_X12_timeOf 45 rfl) rfl (by decide) ⟨by omega, by omega⟩ rfl ?_
            refine mm_goto (tgt := 10) C (mm_dec dk_X12_timeOf 46 rfl) (by decide) ?_
            refine mm_fgt 5 ?_
            exact ih10 (mm_w (x10_3 + (mm_w ((h3.1 66 87) + r69)))) ⟨by omega, by omega⟩ (x10_4 + 1) ⟨by omega, by omega⟩ h3 i3 f3 (by omega)
          · skip
            refine mm_ldcw (z := -100000) C (mm_dec dk_X12_timeOf 33 rfl) kc_X12_295 (by decide) ?_
            exact mm_iret C T (mm_dec dk_X12_timeOf 34 rfl) (by decide : 0 ≤ 0) (by decide : 0 ≤ 0) ⟨_, rfl, ⟨⟨by omega, by omega⟩, i3, f3⟩⟩
        refine mm_icmp_ne (tgt := 45) C (mm_dec dk_X12_timeOf 25 rfl) (by decide) (fun c38 => ?_) (fun c38 => ?_)
        · skip
          refine mm_iconst C (mm_dec dk_X12_timeOf 28 rfl) ⟨by decide, by decide⟩ ?_
          exact J46 0 ⟨by omega, by omega⟩ (Or.inl ⟨by omega, rfl⟩)
        · skip
          refine mm_iconst C (mm_dec dk_X12_timeOf 26 rfl) ⟨by decide, by decide⟩ ?_
          refine mm_goto (tgt := 46) C (mm_dec dk_X12_timeOf 27 rfl) (by decide) ?_
          exact J46 1 ⟨by omega, by omega⟩ (Or.inr (⟨by omega, rfl⟩))
  refine mm_istoreL (ls2 := [mR 66, mI p1, mI p2, mI 0, mI 0, mU]) C (mm_dec dk_X12_timeOf 6 rfl) (by decide) rfl ?_
  exact J10 (((3 - 0) : Int) + 1).toNat 0 ⟨by omega, by omega⟩ 0 ⟨by omega, by omega⟩ h1 i1 f1 (by omega)
set_option maxRecDepth 100000 in
set_option maxHeartbeats 4000000 in
theorem c_X12_ofTeam (l : Launch) (hl : l.stackTraces = false) (d : Nat) (hd : 7 ≤ d) (h : mH) (i0 : mm_inv h) (p1 : Int) (p2 : Int) (p3 : Int) (t0 : mm_RO h) : mm_Met l d yX12_ofTeam cX12_ofTeam 8 (some .int) [mR 66, mI p1, mI p2, mI p3] h (mm_pi fun r h2 => (-2147483648 ≤ r ∧ r ≤ 2147483647) ∧ mm_inv h2 ∧ mm_fr [(66, 0), (66, 39), (66, 48), (66, 52), (66, 53), (66, 54), (66, 87), (66, 88), (66, 89)] [91, 98, 99, 100, 110, 111] h h2) mm_nx 0 0 := by
  refine mm_ofW (ls := [mR 66, mI p1, mI p2, mI p3, mU, mU, mU, mU]) hl (by decide) rfl (Nat.le_of_ble_eq_true rfl) ?_
  intro x hxl C T hnm htb
  subst hxl
  have C1 := mm_OK_le (d' := d - 1 + 1) (by omega) C
  refine mm_rng (fun hr _ => ?_)
  have ap1 : -2147483648 ≤ p1 ∧ p1 < 2147483648 := mm_ok_at hr (i := 1) rfl
  have ap2 : -2147483648 ≤ p2 ∧ p2 < 2147483648 := mm_ok_at hr (i := 2) rfl
  have ap3 : -2147483648 ≤ p3 ∧ p3 < 2147483648 := mm_ok_at hr (i := 3) rfl
  have f0 : mm_fr [(66, 0), (66, 39), (66, 48), (66, 52), (66, 53), (66, 54), (66, 87), (66, 88), (66, 89)] [91, 98, 99, 100, 110, 111] h h := mm_fr_rf
  have g1 : 0 ≤ h.1 66 24 ∧ h.1 66 24 ≤ 10 := i0.1 66 24
  have g2 : 0 ≤ h.1 66 41 ∧ h.1 66 41 ≤ 99999 := i0.1 66 41
  refine mm_aload_n C (mm_dec dk_X12_ofTeam 0 rfl) rfl ?_
  refine mm_iconst C (mm_dec dk_X12_ofTeam 1 rfl) ⟨by decide, by decide⟩ ?_
  refine mm_puti C fl_X12_188 (mm_dec dk_X12_ofTeam 2 rfl) rfl rfl rfl (Or.inl ⟨rfl, rfl⟩) ?_
  have i1 : mm_inv (mm_pf h 66 0 0) := mm_inv_pf i0 (show -2147483648 ≤ 0 ∧ 0 ≤ 2147483647 from ⟨by omega, by omega⟩) (by decide)
  have f1 : mm_fr [(66, 0), (66, 39), (66, 48), (66, 52), (66, 53), (66, 54), (66, 87), (66, 88), (66, 89)] [91, 98, 99, 100, 110, 111] h (mm_pf h 66 0 0) := mm_fr_pf f0 (by decide)
  obtain ⟨h1, eh1⟩ : ∃ z, z = mm_pf h 66 0 0 := ⟨_, rfl⟩
  rw [← eh1] at i1 f1 ⊢
  have qh1 : h1.1 66 0 = 0 := by rw [eh1]; exact mm_pf_same _ _ _ _
  have qh1_3 : h1.1 66 24 = h.1 66 24 := by rw [eh1]; exact mm_pf_ne _ _ (by decide)
  have qh1_4 : h1.1 66 41 = h.1 66 41 := by rw [eh1]; exact mm_pf_ne _ _ (by decide)
  refine mm_aload_n C (mm_dec dk_X12_ofTeam 3 rfl) rfl ?_
  refine mm_iload_n C (mm_dec dk_X12_ofTeam 4 rfl) rfl ?_
  have J32 : ∀ (s32_1 : Int) (bs32_1 : 0 ≤ s32_1 ∧ s32_1 ≤ 1) (vs32_1 : (s32_1 = 0) ∨ (0 ≤ p1 ∧ p1 < (h1.1 66 24) ∧ s32_1 = 1)), mm_W x 0 0 32 [mR 66, mI p1, mI p2, mI p3, mU, mU, mU, mU] [mI s32_1, mR 66] h1 := by
    intro s32_1 bs32_1 vs32_1
    refine mm_iconst C (mm_dec dk_X12_ofTeam 18 rfl) ⟨by decide, by decide⟩ ?_
    refine mm_cVi (rest := []) C1 ev_X12_251 (mm_dec dk_X12_ofTeam 19 rfl) (c_X12_right x.2.1 hl (d - 1) (by omega) h1 i1 s32_1 1 ⟨by omega, by omega⟩ (by omega)) rfl rfl (Nat.le_of_ble_eq_true rfl) ⟨by decide, by decide⟩ rfl (fun r33 h33c hp33 => ?_) (fun _ _ q => q.elim)
    obtain ⟨b33, i33c, g33c, y33_0⟩ := hp33
    have f33c : mm_fr [(66, 0), (66, 39), (66, 48), (66, 52), (66, 53), (66, 54), (66, 87), (66, 88), (66, 89)] [91, 98, 99, 100, 110, 111] h h33c := mm_fr_tr f1 g33c (by decide +kernel)
    have q33c_6 : h33c.1 66 24 = h1.1 66 24 := g33c.1 66 24 (by decide)
    have q33c_7 : h33c.1 66 41 = h1.1 66 41 := g33c.1 66 41 (by decide)
    have J47 : ∀ (h47_ : mH) (i47_ : mm_inv h47_) (f47_ : mm_fr [(66, 0), (66, 39), (66, 48), (66, 52), (66, 53), (66, 54), (66, 87), (66, 88), (66, 89)] [91, 98, 99, 100, 110, 111] h h47_), mm_W x 0 0 47 [mU, mU, mU, mU, mU, mU, mU, mU] [] h47_ := by
      intro h47_ i47_ f47_
      have g8 : 0 ≤ h47_.1 66 24 ∧ h47_.1 66 24 ≤ 10 := i47_.1 66 24
      have g9 : 0 ≤ h47_.1 66 41 ∧ h47_.1 66 41 ≤ 99999 := i47_.1 66 41
      have g10 : h47_.1 66 24 = h.1 66 24 := f47_.1 66 24 (by decide)
      have g11 : h47_.1 66 41 = h.1 66 41 := f47_.1 66 41 (by decide)
      refine mm_iconst C (mm_dec dk_X12_ofTeam 25 rfl) ⟨by decide, by decide⟩ ?_
      exact mm_iret C T (mm_dec dk_X12_ofTeam 26 rfl) (by decide : 0 ≤ 0) (by decide : 0 ≤ 0) ⟨_, rfl, ⟨⟨by omega, by omega⟩, i47_, f47_⟩⟩
    refine mm_if_eq (tgt := 47) C (mm_dec dk_X12_ofTeam 20 rfl) (by decide) (fun c36 => ?_) (fun c36 => ?_)
    · skip
      refine mm_fgt 0 ?_
      refine mm_fgt 1 ?_
      refine mm_fgt 2 ?_
      refine mm_fgt 3 ?_
      exact J47 h33c i33c f33c
    · skip
      refine mm_aload_n C (mm_dec dk_X12_ofTeam 21 rfl) rfl ?_
      refine mm_iload_n C (mm_dec dk_X12_ofTeam 22 rfl) rfl ?_
      refine mm_cVi (rest := []) C1 ev_X12_499 (mm_dec dk_X12_ofTeam 23 rfl) (c_X12_isSecond x.2.1 hl (d - 1) (by omega) h33c i33c p3) rfl rfl (Nat.le_of_ble_eq_true rfl) ⟨by decide, by decide⟩ rfl (fun r41 h41c hp41 => ?_) (fun _ _ q => q.elim)
      obtain ⟨b41, i41c, g41c, y41_0⟩ := hp41
      have f41c : mm_fr [(66, 0), (66, 39), (66, 48), (66, 52), (66, 53), (66, 54), (66, 87), (66, 88), (66, 89)] [91, 98, 99, 100, 110, 111] h h41c := mm_fr_tr f33c g41c (by decide +kernel)
      have q41c_13 : h41c.1 66 24 = h33c.1 66 24 := g41c.1 66 24 (by decide)
      have q41c_14 : h41c.1 66 41 = h33c.1 66 41 := g41c.1 66 41 (by decide)
      refine mm_if_ne (tgt := 49) C (mm_dec dk_X12_ofTeam 24 rfl) (by decide) (fun c44 => ?_) (fun c44 => ?_)
      · skip
        refine mm_aload_n C (mm_dec dk_X12_ofTeam 27 rfl) rfl ?_
        refine mm_iload_n C (mm_dec dk_X12_ofTeam 28 rfl) rfl ?_
        refine mm_iload_n C (mm_dec dk_X12_ofTeam 29 rfl) rfl ?_
        refine mm_cVi (rest := []) C1 ev_X12_508 (mm_dec dk_X12_ofTeam 30 rfl) (c_X12_timeOf x.2.1 hl (d - 1) (by omega) h41c i41c p1 p3 ⟨by omega, by omega⟩ (by exact mm_RO_fr t0 f41c (by decide))) rfl rfl (Nat.le_of_ble_eq_true rfl) ⟨by decide, by decide⟩ rfl (fun r52 h52c hp52 => ?_) (fun _ _ q => q.elim)
        obtain ⟨b52, i52c, g52c⟩ := hp52
        have f52c : mm_fr [(66, 0), (66, 39), (66, 48), (66, 52), (66, 53), (66, 54), (66, 87), (66, 88), (66, 89)] [91, 98, 99, 100, 110, 111] h h52c := mm_fr_tr f41c g52c (by decide +kernel)
        have q52c_16 : h52c.1 66 24 = h41c.1 66 24 := g52c.1 66 24 (by decide)
        have q52c_17 : h52c.1 66 41 = h41c.1 66 41 := g52c.1 66 41 (by decide)
        refine mm_istoreL (ls2 := [mR 66, mI p1, mI p2, mI p3, mI r52, mU, mU, mU]) C (mm_dec dk_X12_ofTeam 31 rfl) (by decide) rfl ?_
        refine mm_iload_n C (mm_dec dk_X12_ofTeam 32 rfl) rfl ?_
        have J68 : mm_W x 0 0 68 [mU, mU, mI p2, mU, mI r52, mU, mU, mU] [] h52c := by
          refine mm_iload_n C (mm_dec dk_X12_ofTeam 37 rfl) rfl ?_
          have J78 : ∀ (s78_0 : Int) (bs78_0 : -2147483648 ≤ s78_0 ∧ s78_0 ≤ 2147483647), mm_W x 0 0 78 [mU, mU, mU, mU, mU, mU, mU, mU] [mI s78_0] h52c := by
            intro s78_0 bs78_0
            exact mm_iret C T (mm_dec dk_X12_ofTeam 42 rfl) (by decide : 0 ≤ 0) (by decide : 0 ≤ 0) ⟨_, rfl, ⟨⟨by omega, by omega⟩, i52c, f52c⟩⟩
          refine mm_if_ne (tgt := 77) C (mm_dec dk_X12_ofTeam 38 rfl) (by decide) (fun c69 => ?_) (fun c69 => ?_)
          · skip
            refine mm_iconst C (mm_dec dk_X12_ofTeam 41 rfl) ⟨by decide, by decide⟩ ?_
            refine mm_fgt 2 ?_
            refine mm_fgt 4 ?_
            exact J78 (-1) ⟨by omega, by omega⟩
          · skip
            refine mm_iload C (mm_dec dk_X12_ofTeam 39 rfl) rfl ?_
            refine mm_goto (tgt := 78) C (mm_dec dk_X12_ofTeam 40 rfl) (by decide) ?_
            refine mm_fgt 2 ?_
            refine mm_fgt 4 ?_
            exact J78 r52 ⟨by omega, by omega⟩
        refine mm_if_eq (tgt := 68) C (mm_dec dk_X12_ofTeam 33 rfl) (by decide) (fun c58 => ?_) (fun c58 => ?_)
        · skip
          refine mm_fgt 0 ?_
          refine mm_fgt 1 ?_
          refine mm_fgt 3 ?_
          exact J68
        · skip
          refine mm_aload_n C (mm_dec dk_X12_ofTeam 34 rfl) rfl ?_
          refine mm_geti C fl_X12_505 (mm_dec dk_X12_ofTeam 35 rfl) rfl rfl (Or.inr rfl) ?_
          have g18 : 0 ≤ (h52c.1 66 89) ∧ (h52c.1 66 89) ≤ 1 := i52c.1 66 89
          refine mm_if_ne (tgt := 79) C (mm_dec dk_X12_ofTeam 36 rfl) (by decide) (fun c65 => ?_) (fun c65 => ?_)
          · skip
            refine mm_iconst C (mm_dec dk_X12_ofTeam 43 rfl) ⟨by decide, by decide⟩ ?_
            refine mm_istoreL (ls2 := [mR 66, mI p1, mI p2, mI p3, mI r52, mI 1, mU, mU]) C (mm_dec dk_X12_ofTeam 44 rfl) (by decide) rfl ?_
            refine mm_iconst C (mm_dec dk_X12_ofTeam 45 rfl) ⟨by decide, by decide⟩ ?_
            have J85 : ∀ (n : Nat) (x85_5 : Int) (bx85_5 : -2147483648 ≤ x85_5 ∧ x85_5 ≤ 2147483647) (x85_6 : Int) (bx85_6 : 0 ≤ x85_6 ∧ x85_6 ≤ 10) (h85_ : mH) (i85_ : mm_inv h85_) (f85_ : mm_fr [(66, 0), (66, 39), (66, 48), (66, 52), (66, 53), (66, 54), (66, 87), (66, 88), (66, 89)] [91, 98, 99, 100, 110, 111] h h85_), (10 - x85_6 : Int) < n → mm_W x 0 0 85 [mR 66, mI p1, mU, mI p3, mI r52, mI x85_5, mI x85_6, mU] [] h85_ := by
              intro n
              induction n with
              | zero =>
                intro x85_5 bx85_5 x85_6 bx85_6 h85_ i85_ f85_ hm
                have g19 : 0 ≤ h85_.1 66 24 ∧ h85_.1 66 24 ≤ 10 := i85_.1 66 24
                have g20 : 0 ≤ h85_.1 66 41 ∧ h85_.1 66 41 ≤ 99999 := i85_.1 66 41
                exfalso; omega
              | succ n ih85 =>
                intro x85_5 bx85_5 x85_6 bx85_6 h85_ i85_ f85_ hm85
                have g21 : 0 ≤ h85_.1 66 24 ∧ h85_.1 66 24 ≤ 10 := i85_.1 66 24
                have g22 : 0 ≤ h85_.1 66 41 ∧ h85_.1 66 41 ≤ 99999 := i85_.1 66 41
                have g23 : h85_.1 66 24 = h.1 66 24 := f85_.1 66 24 (by decide)
                have g24 : h85_.1 66 41 = h.1 66 41 := f85_.1 66 41 (by decide)
                refine mm_iload C (mm_dec dk_X12_ofTeam 47 rfl) rfl ?_
                refine mm_aload_n C (mm_dec dk_X12_ofTeam 48 rfl) rfl ?_
                refine mm_geti C fl_X12_225 (mm_dec dk_X12_ofTeam 49 rfl) rfl rfl (Or.inl rfl) ?_
                refine mm_icmp_ge (tgt := 159) C (mm_dec dk_X12_ofTeam 50 rfl) (by decide) (fun c91 => ?_) (fun c91 => ?_)
                · skip
                  refine mm_iload C (mm_dec dk_X12_ofTeam 85 rfl) rfl ?_
                  exact mm_iret C T (mm_dec dk_X12_ofTeam 86 rfl) (by decide : 0 ≤ 0) (by decide : 0 ≤ 0) ⟨_, rfl, ⟨⟨by omega, by omega⟩, i85_, f85_⟩⟩
                · skip
                  refine mm_aload_n C (mm_dec dk_X12_ofTeam 51 rfl) rfl ?_
                  refine mm_getr (t := 85) C fl_X12_66 (mm_dec dk_X12_ofTeam 52 rfl) rfl rfl (mm_ref i85_ rfl) ?_
                  refine mm_aload_n C (mm_dec dk_X12_ofTeam 53 rfl) rfl ?_
                  refine mm_getr (t := 90) C fl_X12_81 (mm_dec dk_X12_ofTeam 54 rfl) rfl rfl (mm_ref i85_ rfl) ?_
                  refine mm_iconst C (mm_dec dk_X12_ofTeam 55 rfl) ⟨by decide, by decide⟩ ?_
                  refine mm_iload C (mm_dec dk_X12_ofTeam 56 rfl) rfl ?_
                  refine mm_imul C (mm_dec dk_X12_ofTeam 57 rfl) ⟨by omega, by omega⟩ ?_
                  refine mm_iald C (mm_dec dk_X12_ofTeam 58 rfl) rfl (by omega) (by omega) ?_
                  have g25 : 0 ≤ (h85_.2.1 90 (3 * x85_6)) ∧ (h85_.2.1 90 (3 * x85_6)) ≤ 39 := i85_.2.1 90 (3 * x85_6)
                  refine mm_iald C (mm_dec dk_X12_ofTeam 59 rfl) rfl (by omega) (by omega) ?_
                  have g26 : 0 ≤ (h85_.2.1 85 (h85_.2.1 90 (3 * x85_6))) ∧ (h85_.2.1 85 (h85_.2.1 90 (3 * x85_6))) ≤ 7 := i85_.2.1 85 (h85_.2.1 90 (3 * x85_6))
                  refine mm_aload_n C (mm_dec dk_X12_ofTeam 60 rfl) rfl ?_
                  refine mm_getr (t := 85) C fl_X12_66 (mm_dec dk_X12_ofTeam 61 rfl) rfl rfl (mm_ref i85_ rfl) ?_
                  refine mm_aload_n C (mm_dec dk_X12_ofTeam 62 rfl) rfl ?_
                  refine mm_getr (t := 90) C fl_X12_81 (mm_dec dk_X12_ofTeam 63 rfl) rfl rfl (mm_ref i85_ rfl) ?_
                  refine mm_iconst C (mm_dec dk_X12_ofTeam 64 rfl) ⟨by decide, by decide⟩ ?_
                  refine mm_iload_n C (mm_dec dk_X12_ofTeam 65 rfl) rfl ?_
                  refine mm_imul C (mm_dec dk_X12_ofTeam 66 rfl) ⟨by omega, by omega⟩ ?_
                  refine mm_iald C (mm_dec dk_X12_ofTeam 67 rfl) rfl (by omega) (by omega) ?_
                  have g27 : 0 ≤ (h85_.2.1 90 (3 * p1)) ∧ (h85_.2.1 90 (3 * p1)) ≤ 39 := i85_.2.1 90 (3 * p1)
                  refine mm_iald C (mm_dec dk_X12_ofTeam 68 rfl) rfl (by omega) (by omega) ?_
                  have g28 : 0 ≤ (h85_.2.1 85 (h85_.2.1 90 (3 * p1))) ∧ (h85_.2.1 85 (h85_.2.1 90 (3 * p1))) ≤ 7 := i85_.2.1 85 (h85_.2.1 90 (3 * p1))
                  have J153 : ∀ (x153_5 : Int) (bx153_5 : -2147483648 ≤ x153_5 ∧ x153_5 ≤ 2147483647) (h153_ : mH) (i153_ : mm_inv h153_) (f153_ : mm_fr [(66, 0), (66, 39), (66, 48), (66, 52), (66, 53), (66, 54), (66, 87), (66, 88), (66, 89)] [91, 98, 99, 100, 110, 111] h h153_), mm_W x 0 0 153 [mR 66, mI p1, mU, mI p3, mI r52, mI x153_5, mI x85_6, mU] [] h153_ := by
                    intro x153_5 bx153_5 h153_ i153_ f153_
                    have g29 : 0 ≤ h153_.1 66 24 ∧ h153_.1 66 24 ≤ 10 := i153_.1 66 24
                    have g30 : 0 ≤ h153_.1 66 41 ∧ h153_.1 66 41 ≤ 99999 := i153_.1 66 41
                    have g31 : h153_.1 66 24 = h.1 66 24 := f153_.1 66 24 (by decide)
                    have g32 : h153_.1 66 41 = h.1 66 41 := f153_.1 66 41 (by decide)
                    refine mm_iincL (ls2 := [mR 66, mI p1, mU, mI p3, mI r52, mI x153_5, mI (x85_6 + 1), mU]) C (mm_dec dk_X12_ofTeam 83 rfl) rfl (by decide) ⟨by omega, by omega⟩ rfl ?_
                    refine mm_goto (tgt := 85) C (mm_dec dk_X12_ofTeam 84 rfl) (by decide) ?_
                    exact ih85 x153_5 ⟨by omega, by omega⟩ (x85_6 + 1) ⟨by omega, by omega⟩ h153_ i153_ f153_ (by omega)
                  refine mm_icmp_eq (tgt := 127) C (mm_dec dk_X12_ofTeam 69 rfl) (by decide) (fun c121 => ?_) (fun c121 => ?_)
                  · skip
                    refine mm_aload_n C (mm_dec dk_X12_ofTeam 71 rfl) rfl ?_
                    refine mm_iload C (mm_dec dk_X12_ofTeam 72 rfl) rfl ?_
                    refine mm_iload_n C (mm_dec dk_X12_ofTeam 73 rfl) rfl ?_
                    refine mm_cVi (rest := []) C1 ev_X12_508 (mm_dec dk_X12_ofTeam 74 rfl) (c_X12_timeOf x.2.1 hl (d - 1) (by omega) h85_ i85_ x85_6 p3 ⟨by omega, by omega⟩ (by exact mm_RO_fr t0 f85_ (by decide))) rfl rfl (Nat.le_of_ble_eq_true rfl) ⟨by decide, by decide⟩ rfl (fun r131 h131c hp131 => ?_) (fun _ _ q => q.elim)
                    obtain ⟨b131, i131c, g131c⟩ := hp131
                    have f131c : mm_fr [(66, 0), (66, 39), (66, 48), (66, 52), (66, 53), (66, 54), (66, 87), (66, 88), (66, 89)] [91, 98, 99, 100, 110, 111] h h131c := mm_fr_tr f85_ g131c (by decide +kernel)
                    have q131c_34 : h131c.1 66 24 = h85_.1 66 24 := g131c.1 66 24 (by decide)
                    have q131c_35 : h131c.1 66 41 = h85_.1 66 41 := g131c.1 66 41 (by decide)
                    refine mm_istoreL (ls2 := [mR 66, mI p1, mU, mI p3, mI r52, mI x85_5, mI x85_6, mI r131]) C (mm_dec dk_X12_ofTeam 75 rfl) (by decide) rfl ?_
                    refine mm_aload_n C (mm_dec dk_X12_ofTeam 76 rfl) rfl ?_
                    refine mm_geti C fl_X12_505 (mm_dec dk_X12_ofTeam 77 rfl) rfl rfl (Or.inr rfl) ?_
                    have g36 : 0 ≤ (h131c.1 66 89) ∧ (h131c.1 66 89) ≤ 1 := i131c.1 66 89
                    refine mm_if_eq (tgt := 153) C (mm_dec dk_X12_ofTeam 78 rfl) (by decide) (fun c140 => ?_) (fun c140 => ?_)
                    · skip
                      refine mm_fgt 7 ?_
                      exact J153 x85_5 ⟨by omega, by omega⟩ h131c i131c f131c
                    · skip
                      refine mm_iload C (mm_dec dk_X12_ofTeam 79 rfl) rfl ?_
                      refine mm_iload C (mm_dec dk_X12_ofTeam 80 rfl) rfl ?_
                      refine mm_icmp_ge (tgt := 153) C (mm_dec dk_X12_ofTeam 81 rfl) (by decide) (fun c147 => ?_) (fun c147 => ?_)
                      · skip
                        refine mm_fgt 7 ?_
                        exact J153 x85_5 ⟨by omega, by omega⟩ h131c i131c f131c
                      · skip
                        refine mm_iincwL (ls2 := [mR 66, mI p1, mU, mI p3, mI r52, mI (mm_w (x85_5 + 1)), mI x85_6, mI r131]) C (mm_dec dk_X12_ofTeam 82 rfl) rfl (by decide) rfl ?_
                        have g37 : -2147483648 ≤ (mm_w (x85_5 + 1)) ∧ (mm_w (x85_5 + 1)) < 2147483648 := mm_w_rg _
                        refine mm_fgt 7 ?_
                        exact J153 (mm_w (x85_5 + 1)) ⟨by omega, by omega⟩ h131c i131c f131c
                  · skip
                    refine mm_goto (tgt := 153) C (mm_dec dk_X12_ofTeam 70 rfl) (by decide) ?_
                    exact J153 x85_5 ⟨by omega, by omega⟩ h85_ i85_ f85_
            refine mm_istoreL (ls2 := [mR 66, mI p1, mI p2, mI p3, mI r52, mI 1, mI 0, mU]) C (mm_dec dk_X12_ofTeam 46 rfl) (by decide) rfl ?_
            refine mm_fgt 2 ?_
            exact J85 (((10 - 0) : Int) + 1).toNat 1 ⟨by omega, by omega⟩ 0 ⟨by omega, by omega⟩ h52c i52c f52c (by omega)
          · skip
            refine mm_fgt 0 ?_
            refine mm_fgt 1 ?_
            refine mm_fgt 3 ?_
            exact J68
      · skip
        refine mm_fgt 0 ?_
        refine mm_fgt 1 ?_
        refine mm_fgt 2 ?_
        refine mm_fgt 3 ?_
        exact J47 h41c i41c f41c
  have J31 : mm_W x 0 0 31 [mR 66, mI p1, mI p2, mI p3, mU, mU, mU, mU] [mR 66] h1 := by
    refine mm_iconst C (mm_dec dk_X12_ofTeam 17 rfl) ⟨by decide, by decide⟩ ?_
    exact J32 0 ⟨by omega, by omega⟩ (Or.inl rfl)
  refine mm_if_lt (tgt := 31) C (mm_dec dk_X12_ofTeam 5 rfl) (by decide) (fun c7 => ?_) (fun c7 => ?_)
  · skip
    exact J31
  · skip
    refine mm_iload_n C (mm_dec dk_X12_ofTeam 6 rfl) rfl ?_
    refine mm_aload_n C (mm_dec dk_X12_ofTeam 7 rfl) rfl ?_
    refine mm_geti C fl_X12_225 (mm_dec dk_X12_ofTeam 8 rfl) rfl rfl (Or.inl rfl) ?_
    refine mm_icmp_ge (tgt := 31) C (mm_dec dk_X12_ofTeam 9 rfl) (by decide) (fun c15 => ?_) (fun c15 => ?_)
    · skip
      exact J31
    · skip
      refine mm_iload_n C (mm_dec dk_X12_ofTeam 10 rfl) rfl ?_
      have J27 : mm_W x 0 0 27 [mR 66, mI p1, mI p2, mI p3, mU, mU, mU, mU] [mR 66] h1 := by
        refine mm_iconst C (mm_dec dk_X12_ofTeam 15 rfl) ⟨by decide, by decide⟩ ?_
        refine mm_goto (tgt := 32) C (mm_dec dk_X12_ofTeam 16 rfl) (by decide) ?_
        exact J32 1 ⟨by omega, by omega⟩ (Or.inr (⟨by omega, by omega, rfl⟩))
      refine mm_if_eq (tgt := 27) C (mm_dec dk_X12_ofTeam 11 rfl) (by decide) (fun c19 => ?_) (fun c19 => ?_)
      · skip
        exact J27
      · skip
        refine mm_iload_n C (mm_dec dk_X12_ofTeam 12 rfl) rfl ?_
        refine mm_iconst C (mm_dec dk_X12_ofTeam 13 rfl) ⟨by decide, by decide⟩ ?_
        refine mm_icmp_ne (tgt := 31) C (mm_dec dk_X12_ofTeam 14 rfl) (by decide) (fun c24 => ?_) (fun c24 => ?_)
        · skip
          exact J31
        · skip
          exact J27
