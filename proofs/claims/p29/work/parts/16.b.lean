set_option maxRecDepth 100000 in
set_option maxHeartbeats 4000000 in
theorem c_X3_shuffle (l : Launch) (hl : l.stackTraces = false) (d : Nat) (hd : 0 ≤ d) (h : mH) (i0 : mm_inv h) (p1 : Int) : mm_Met l d yX3_shuffle cX3_shuffle 8 none [mR 54, mL p1] h (mm_pv fun h2 => mm_inv h2 ∧ mm_fr [] [55] h h2) mm_nx 0 0 := by
  refine mm_ofW (ls := [mR 54, mL p1, mU, mU, mU, mU, mU, mU]) hl (by decide) rfl (Nat.le_of_ble_eq_true rfl) ?_
  intro x hxl C T hnm htb
  subst hxl
  refine mm_rng (fun hr _ => ?_)
  have ap1 : -9223372036854775808 ≤ p1 ∧ p1 < 9223372036854775808 := mm_ok_at hr (i := 1) rfl
  have f0 : mm_fr [] [55] h h := mm_fr_rf
  refine mm_lload_n C (mm_dec dk_X3_shuffle 0 rfl) rfl ?_
  refine mm_lstore_nL (ls2 := [mR 54, mL p1, mU, mL p1, mU, mU, mU, mU]) C (mm_dec dk_X3_shuffle 1 rfl) (by decide) rfl ?_
  refine mm_aload_n C (mm_dec dk_X3_shuffle 2 rfl) rfl ?_
  refine mm_geti C fl_X3_21 (mm_dec dk_X3_shuffle 3 rfl) rfl rfl (Or.inl rfl) ?_
  have g1 : 0 ≤ (h.1 54 5) ∧ (h.1 54 5) ≤ 40 := i0.1 54 5
  refine mm_iconst C (mm_dec dk_X3_shuffle 4 rfl) ⟨by decide, by decide⟩ ?_
  refine mm_isub C (mm_dec dk_X3_shuffle 5 rfl) ⟨by omega, by omega⟩ ?_
  have J10 : ∀ (n : Nat) (x10_3 : Int) (bx10_3 : -9223372036854775808 ≤ x10_3 ∧ x10_3 < 9223372036854775808) (x10_5 : Int) (bx10_5 : -1 ≤ x10_5 ∧ x10_5 ≤ 39) (h10_ : mH) (i10_ : mm_inv h10_) (f10_ : mm_fr [] [55] h h10_), (x10_5 - (-1) : Int) < n → mm_W x 0 0 10 [mR 54, mU, mU, mL x10_3, mU, mI x10_5, mU, mU] [] h10_ := by
    intro n
    induction n with
    | zero =>
      intro x10_3 bx10_3 x10_5 bx10_5 h10_ i10_ f10_ hm
      exfalso; omega
    | succ n ih10 =>
      intro x10_3 bx10_3 x10_5 bx10_5 h10_ i10_ f10_ hm10
      refine mm_iload C (mm_dec dk_X3_shuffle 7 rfl) rfl ?_
      refine mm_iconst C (mm_dec dk_X3_shuffle 8 rfl) ⟨by decide, by decide⟩ ?_
      refine mm_icmp_lt (tgt := 77) C (mm_dec dk_X3_shuffle 9 rfl) (by decide) (fun c13 => ?_) (fun c13 => ?_)
      · skip
        exact mm_vret C T (mm_dec dk_X3_shuffle 46 rfl) (by decide : 0 ≤ 0) (by decide : 0 ≤ 0) ⟨rfl, ⟨i10_, f10_⟩⟩
      · skip
        refine mm_lload_n C (mm_dec dk_X3_shuffle 10 rfl) rfl ?_
        refine mm_ldc2 (z := 6364136223846793005) C (mm_dec dk_X3_shuffle 11 rfl) kc_X3_68 (by decide) ?_
        refine mm_lmul C (mm_dec dk_X3_shuffle 12 rfl) ?_
        have g2 : -9223372036854775808 ≤ (mm_vlmul x10_3 6364136223846793005) ∧ (mm_vlmul x10_3 6364136223846793005) < 9223372036854775808 := mm_rng64 _
        obtain ⟨y2, ey2⟩ : ∃ z, z = (mm_vlmul x10_3 6364136223846793005) := ⟨_, rfl⟩
        rw [← ey2] at g2 ⊢
        clear ey2
        refine mm_ldc2 (z := 1442695040888963407) C (mm_dec dk_X3_shuffle 13 rfl) kc_X3_70 (by decide) ?_
        refine mm_ladd C (mm_dec dk_X3_shuffle 14 rfl) ?_
        have g3 : -9223372036854775808 ≤ (mm_vladd y2 1442695040888963407) ∧ (mm_vladd y2 1442695040888963407) < 9223372036854775808 := mm_rng64 _
        obtain ⟨y3, ey3⟩ : ∃ z, z = (mm_vladd y2 1442695040888963407) := ⟨_, rfl⟩
        rw [← ey3] at g3 ⊢
        clear ey3
        refine mm_lstore_nL (ls2 := [mR 54, mU, mU, mL y3, mU, mI x10_5, mU, mU]) C (mm_dec dk_X3_shuffle 15 rfl) (by decide) rfl ?_
        refine mm_lload_n C (mm_dec dk_X3_shuffle 16 rfl) rfl ?_
        refine mm_bipush C (mm_dec dk_X3_shuffle 17 rfl) ⟨by decide, by decide⟩ ?_
        refine mm_lushr C (mm_dec dk_X3_shuffle 18 rfl) ?_
        have g4 : -9223372036854775808 ≤ (mm_vlushr y3 33) ∧ (mm_vlushr y3 33) < 9223372036854775808 := mm_rng64 _
        refine mm_iload C (mm_dec dk_X3_shuffle 19 rfl) rfl ?_
        refine mm_iconst C (mm_dec dk_X3_shuffle 20 rfl) ⟨by decide, by decide⟩ ?_
        refine mm_iadd C (mm_dec dk_X3_shuffle 21 rfl) ⟨by omega, by omega⟩ ?_
        refine mm_i2l C (mm_dec dk_X3_shuffle 22 rfl) ?_
        refine mm_lrem C (mm_dec dk_X3_shuffle 23 rfl) (by omega) ?_
        have g5 : -9223372036854775808 ≤ (mm_vlrem (mm_vlushr y3 33) (x10_5 + 1)) ∧ (mm_vlrem (mm_vlushr y3 33) (x10_5 + 1)) < 9223372036854775808 := mm_rng64 _
        refine mm_l2i C (mm_dec dk_X3_shuffle 24 rfl) ?_
        have g6 : 0 ≤ (mm_vl2i (mm_vlrem (mm_vlushr y3 33) (x10_5 + 1))) ∧ (mm_vl2i (mm_vlrem (mm_vlushr y3 33) (x10_5 + 1))) < (x10_5 + 1) := mm_lot ⟨by omega, by omega⟩
        obtain ⟨y6, ey6⟩ : ∃ z, z = (mm_vl2i (mm_vlrem (mm_vlushr y3 33) (x10_5 + 1))) := ⟨_, rfl⟩
        rw [← ey6] at g6 ⊢
        clear ey6
        refine mm_istoreL (ls2 := [mR 54, mU, mU, mL y3, mU, mI x10_5, mI y6, mU]) C (mm_dec dk_X3_shuffle 25 rfl) (by decide) rfl ?_
        refine mm_aload_n C (mm_dec dk_X3_shuffle 26 rfl) rfl ?_
        refine mm_getr (t := 55) C fl_X3_9 (mm_dec dk_X3_shuffle 27 rfl) rfl rfl (mm_ref i10_ rfl) ?_
        refine mm_iload C (mm_dec dk_X3_shuffle 28 rfl) rfl ?_
        refine mm_iald C (mm_dec dk_X3_shuffle 29 rfl) rfl (by omega) (by omega) ?_
        have g7 : -1 ≤ (h10_.2.1 55 x10_5) ∧ (h10_.2.1 55 x10_5) ≤ 39 := i10_.2.1 55 x10_5
        refine mm_istoreL (ls2 := [mR 54, mU, mU, mL y3, mU, mI x10_5, mI y6, mI (h10_.2.1 55 x10_5)]) C (mm_dec dk_X3_shuffle 30 rfl) (by decide) rfl ?_
        refine mm_aload_n C (mm_dec dk_X3_shuffle 31 rfl) rfl ?_
        refine mm_getr (t := 55) C fl_X3_9 (mm_dec dk_X3_shuffle 32 rfl) rfl rfl (mm_ref i10_ rfl) ?_
        refine mm_iload C (mm_dec dk_X3_shuffle 33 rfl) rfl ?_
        refine mm_aload_n C (mm_dec dk_X3_shuffle 34 rfl) rfl ?_
        refine mm_getr (t := 55) C fl_X3_9 (mm_dec dk_X3_shuffle 35 rfl) rfl rfl (mm_ref i10_ rfl) ?_
        refine mm_iload C (mm_dec dk_X3_shuffle 36 rfl) rfl ?_
        refine mm_iald C (mm_dec dk_X3_shuffle 37 rfl) rfl (by omega) (by omega) ?_
        have g8 : -1 ≤ (h10_.2.1 55 y6) ∧ (h10_.2.1 55 y6) ≤ 39 := i10_.2.1 55 y6
        refine mm_iast C (mm_dec dk_X3_shuffle 38 rfl) rfl (by omega) (by omega) ?_
        have i1 : mm_inv (mm_pa h10_ 55 x10_5 (h10_.2.1 55 y6)) := mm_inv_pa i10_ (show -1 ≤ (h10_.2.1 55 y6) ∧ (h10_.2.1 55 y6) ≤ 39 from ⟨by omega, by omega⟩)
        have f1 : mm_fr [] [55] h (mm_pa h10_ 55 x10_5 (h10_.2.1 55 y6)) := mm_fr_pa f10_ (by decide)
        obtain ⟨h1, eh1⟩ : ∃ z, z = mm_pa h10_ 55 x10_5 (h10_.2.1 55 y6) := ⟨_, rfl⟩
        rw [← eh1] at i1 f1 ⊢
        refine mm_aload_n C (mm_dec dk_X3_shuffle 39 rfl) rfl ?_
        refine mm_getr (t := 55) C fl_X3_9 (mm_dec dk_X3_shuffle 40 rfl) rfl rfl (mm_ref i1 rfl) ?_
        refine mm_iload C (mm_dec dk_X3_shuffle 41 rfl) rfl ?_
        refine mm_iload C (mm_dec dk_X3_shuffle 42 rfl) rfl ?_
        refine mm_iast C (mm_dec dk_X3_shuffle 43 rfl) rfl (by omega) (by omega) ?_
        have i2 : mm_inv (mm_pa h1 55 y6 (h10_.2.1 55 x10_5)) := mm_inv_pa i1 (show -1 ≤ (h10_.2.1 55 x10_5) ∧ (h10_.2.1 55 x10_5) ≤ 39 from ⟨by omega, by omega⟩)
        have f2 : mm_fr [] [55] h (mm_pa h1 55 y6 (h10_.2.1 55 x10_5)) := mm_fr_pa f1 (by decide)
        obtain ⟨h2, eh2⟩ : ∃ z, z = mm_pa h1 55 y6 (h10_.2.1 55 x10_5) := ⟨_, rfl⟩
        rw [← eh2] at i2 f2 ⊢
        refine mm_iincL (ls2 := [mR 54, mU, mU, mL y3, mU, mI (x10_5 + (-1)), mI y6, mI (h10_.2.1 55 x10_5)]) C (mm_dec dk_X3_shuffle 44 rfl) rfl (by decide) ⟨by omega, by omega⟩ rfl ?_
        refine mm_goto (tgt := 10) C (mm_dec dk_X3_shuffle 45 rfl) (by decide) ?_
        refine mm_fgt 6 ?_
        refine mm_fgt 7 ?_
        exact ih10 y3 ⟨by omega, by omega⟩ (x10_5 + (-1)) ⟨by omega, by omega⟩ h2 i2 f2 (by omega)
  refine mm_istoreL (ls2 := [mR 54, mL p1, mU, mL p1, mU, mI ((h.1 54 5) - 1), mU, mU]) C (mm_dec dk_X3_shuffle 6 rfl) (by decide) rfl ?_
  refine mm_fgt 1 ?_
  exact J10 (((((h.1 54 5) - 1) - (-1)) : Int) + 1).toNat p1 ⟨by omega, by omega⟩ ((h.1 54 5) - 1) ⟨by omega, by omega⟩ h i0 f0 (by omega)
set_option maxRecDepth 100000 in
set_option maxHeartbeats 4000000 in
theorem c_X3_arrange (l : Launch) (hl : l.stackTraces = false) (d : Nat) (hd : 2 ≤ d) (h : mH) (i0 : mm_inv h) (p1 : Int) : mm_Met l d yX3_arrange cX3_arrange 6 (some .boolean) [mR 54, mL p1] h (mm_pi fun r h2 => (0 ≤ r ∧ r ≤ 1) ∧ mm_inv h2 ∧ mm_fr [] [55, 56, 57] h h2) mm_nx 0 0 := by
  refine mm_ofW (ls := [mR 54, mL p1, mU, mU, mU, mU]) hl (by decide) rfl (Nat.le_of_ble_eq_true rfl) ?_
  intro x hxl C T hnm htb
  subst hxl
  have C1 := mm_OK_le (d' := d - 1 + 1) (by omega) C
  refine mm_rng (fun hr _ => ?_)
  have ap1 : -9223372036854775808 ≤ p1 ∧ p1 < 9223372036854775808 := mm_ok_at hr (i := 1) rfl
  have f0 : mm_fr [] [55, 56, 57] h h := mm_fr_rf
  refine mm_aload_n C (mm_dec dk_X3_arrange 0 rfl) rfl ?_
  refine mm_lload_n C (mm_dec dk_X3_arrange 1 rfl) rfl ?_
  refine mm_cVv (rest := []) C1 ev_X3_60 (mm_dec dk_X3_arrange 2 rfl) (c_X3_shuffle x.2.1 hl (d - 1) (by omega) h i0 p1) rfl rfl (Nat.le_of_ble_eq_true rfl) ⟨by decide, by decide⟩ rfl (fun h2c hp2 => ?_) (fun _ _ q => q.elim)
  obtain ⟨i2c, g2c⟩ := hp2
  have f2c : mm_fr [] [55, 56, 57] h h2c := mm_fr_tr f0 g2c (by decide +kernel)
  refine mm_iconst C (mm_dec dk_X3_arrange 3 rfl) ⟨by decide, by decide⟩ ?_
  refine mm_istore_nL (ls2 := [mR 54, mL p1, mU, mI (-1), mU, mU]) C (mm_dec dk_X3_arrange 4 rfl) (by decide) rfl ?_
  refine mm_iconst C (mm_dec dk_X3_arrange 5 rfl) ⟨by decide, by decide⟩ ?_
  have J10 : ∀ (n : Nat) (x10_3 : Int) (bx10_3 : -1 ≤ x10_3 ∧ x10_3 ≤ 9) (x10_4 : Int) (bx10_4 : 0 ≤ x10_4 ∧ x10_4 ≤ 40) (h10_ : mH) (i10_ : mm_inv h10_) (f10_ : mm_fr [] [55, 56, 57] h h10_), (40 - x10_4 : Int) < n → mm_W x 0 0 10 [mR 54, mU, mU, mI x10_3, mI x10_4, mU] [] h10_ := by
    intro n
    induction n with
    | zero =>
      intro x10_3 bx10_3 x10_4 bx10_4 h10_ i10_ f10_ hm
      exfalso; omega
    | succ n ih10 =>
      intro x10_3 bx10_3 x10_4 bx10_4 h10_ i10_ f10_ hm10
      refine mm_iload C (mm_dec dk_X3_arrange 7 rfl) rfl ?_
      refine mm_aload_n C (mm_dec dk_X3_arrange 8 rfl) rfl ?_
      refine mm_geti C fl_X3_21 (mm_dec dk_X3_arrange 9 rfl) rfl rfl (Or.inl rfl) ?_
      have g2 : 0 ≤ (h10_.1 54 5) ∧ (h10_.1 54 5) ≤ 40 := i10_.1 54 5
      refine mm_icmp_ge (tgt := 96) C (mm_dec dk_X3_arrange 10 rfl) (by decide) (fun c16 => ?_) (fun c16 => ?_)
      · skip
        refine mm_iconst C (mm_dec dk_X3_arrange 57 rfl) ⟨by decide, by decide⟩ ?_
        exact mm_zret C T (mm_dec dk_X3_arrange 58 rfl) (by decide : 0 ≤ 0) (by decide : 0 ≤ 0) (by omega) ⟨_, rfl, ⟨⟨by omega, by omega⟩, i10_, f10_⟩⟩
      · skip
        refine mm_aload_n C (mm_dec dk_X3_arrange 11 rfl) rfl ?_
        refine mm_iload_n C (mm_dec dk_X3_arrange 12 rfl) rfl ?_
        refine mm_aload_n C (mm_dec dk_X3_arrange 13 rfl) rfl ?_
        refine mm_geti C fl_X3_21 (mm_dec dk_X3_arrange 14 rfl) rfl rfl (Or.inl rfl) ?_
        refine mm_iload C (mm_dec dk_X3_arrange 15 rfl) rfl ?_
        refine mm_isub C (mm_dec dk_X3_arrange 16 rfl) ⟨by omega, by omega⟩ ?_
        refine mm_iconst C (mm_dec dk_X3_arrange 17 rfl) ⟨by decide, by decide⟩ ?_
        refine mm_isub C (mm_dec dk_X3_arrange 18 rfl) ⟨by omega, by omega⟩ ?_
        refine mm_cVi (rest := []) C1 ev_X3_64 (mm_dec dk_X3_arrange 19 rfl) (c_X3_nextAfter x.2.1 hl (d - 1) (by omega) h10_ i10_ x10_3 (((h10_.1 54 5) - x10_4) - 1)) rfl rfl (Nat.le_of_ble_eq_true rfl) ⟨by decide, by decide⟩ rfl (fun r30 h30c hp30 => ?_) (fun _ _ q => q.elim)
        obtain ⟨b30, z30, y30_0⟩ := hp30
        rw [z30]
        refine mm_istoreL (ls2 := [mR 54, mU, mU, mI x10_3, mI x10_4, mI r30]) C (mm_dec dk_X3_arrange 20 rfl) (by decide) rfl ?_
        refine mm_iload C (mm_dec dk_X3_arrange 21 rfl) rfl ?_
        refine mm_iconst C (mm_dec dk_X3_arrange 22 rfl) ⟨by decide, by decide⟩ ?_
        refine mm_icmp_ne (tgt := 43) C (mm_dec dk_X3_arrange 23 rfl) (by decide) (fun c38 => ?_) (fun c38 => ?_)
        · skip
          refine mm_aload_n C (mm_dec dk_X3_arrange 26 rfl) rfl ?_
          refine mm_getr (t := 56) C fl_X3_15 (mm_dec dk_X3_arrange 27 rfl) rfl rfl (mm_ref i10_ rfl) ?_
          refine mm_iload C (mm_dec dk_X3_arrange 28 rfl) rfl ?_
          refine mm_aload_n C (mm_dec dk_X3_arrange 29 rfl) rfl ?_
          refine mm_getr (t := 55) C fl_X3_9 (mm_dec dk_X3_arrange 30 rfl) rfl rfl (mm_ref i10_ rfl) ?_
          refine mm_iload C (mm_dec dk_X3_arrange 31 rfl) rfl ?_
          refine mm_iald C (mm_dec dk_X3_arrange 32 rfl) rfl (by omega) (by omega) ?_
          have g4 : -1 ≤ (h10_.2.1 55 r30) ∧ (h10_.2.1 55 r30) ≤ 39 := i10_.2.1 55 r30
          refine mm_iast C (mm_dec dk_X3_arrange 33 rfl) rfl (by omega) (by omega) ?_
          have i2 : mm_inv (mm_pa h10_ 56 x10_4 (h10_.2.1 55 r30)) := mm_inv_pa i10_ (show 0 ≤ (h10_.2.1 55 r30) ∧ (h10_.2.1 55 r30) ≤ 39 from ⟨by omega, by omega⟩)
          have f2 : mm_fr [] [55, 56, 57] h (mm_pa h10_ 56 x10_4 (h10_.2.1 55 r30)) := mm_fr_pa f10_ (by decide)
          obtain ⟨h2, eh2⟩ : ∃ z, z = mm_pa h10_ 56 x10_4 (h10_.2.1 55 r30) := ⟨_, rfl⟩
          rw [← eh2] at i2 f2 ⊢
          have qh2_5 : h2.1 54 5 = h10_.1 54 5 := by rw [eh2]; rfl
          refine mm_aload_n C (mm_dec dk_X3_arrange 34 rfl) rfl ?_
          refine mm_getr (t := 55) C fl_X3_9 (mm_dec dk_X3_arrange 35 rfl) rfl rfl (mm_ref i2 rfl) ?_
          refine mm_iload C (mm_dec dk_X3_arrange 36 rfl) rfl ?_
          refine mm_iconst C (mm_dec dk_X3_arrange 37 rfl) ⟨by decide, by decide⟩ ?_
          refine mm_iast C (mm_dec dk_X3_arrange 38 rfl) rfl (by omega) (by omega) ?_
          have i3 : mm_inv (mm_pa h2 55 r30 (-1)) := mm_inv_pa i2 (show -1 ≤ (-1) ∧ (-1) ≤ 39 from ⟨by omega, by omega⟩)
          have f3 : mm_fr [] [55, 56, 57] h (mm_pa h2 55 r30 (-1)) := mm_fr_pa f2 (by decide)
          obtain ⟨h3, eh3⟩ : ∃ z, z = mm_pa h2 55 r30 (-1) := ⟨_, rfl⟩
          rw [← eh3] at i3 f3 ⊢
          have qh3_6 : h3.1 54 5 = h2.1 54 5 := by rw [eh3]; rfl
          refine mm_aload_n C (mm_dec dk_X3_arrange 39 rfl) rfl ?_
          refine mm_getr (t := 22) C fl_X3_25 (mm_dec dk_X3_arrange 40 rfl) rfl rfl (mm_ref i3 rfl) ?_
          refine mm_aload_n C (mm_dec dk_X3_arrange 41 rfl) rfl ?_
          refine mm_getr (t := 56) C fl_X3_15 (mm_dec dk_X3_arrange 42 rfl) rfl rfl (mm_ref i3 rfl) ?_
          refine mm_iload C (mm_dec dk_X3_arrange 43 rfl) rfl ?_
          refine mm_iald C (mm_dec dk_X3_arrange 44 rfl) rfl (by omega) (by omega) ?_
          have g7 : 0 ≤ (h3.2.1 56 x10_4) ∧ (h3.2.1 56 x10_4) ≤ 39 := i3.2.1 56 x10_4
          refine mm_cVi (rest := []) C1 ev_X3_57 (mm_dec dk_X3_arrange 45 rfl) (c_X9_clubOf x.2.1 hl (d - 1) (by omega) h3 i3 (h3.2.1 56 x10_4) ⟨by omega, by omega⟩) rfl rfl (Nat.le_of_ble_eq_true rfl) ⟨by decide, by decide⟩ rfl (fun r76 h76c hp76 => ?_) (fun _ _ q => q.elim)
          obtain ⟨z76, y76⟩ := hp76
          rw [z76, y76]
          have g9 : 0 ≤ (h3.2.1 24 (h3.2.1 56 x10_4)) ∧ (h3.2.1 24 (h3.2.1 56 x10_4)) ≤ 9 := i3.2.1 24 (h3.2.1 56 x10_4)
          refine mm_istore_nL (ls2 := [mR 54, mU, mU, mI (h3.2.1 24 (h3.2.1 56 x10_4)), mI x10_4, mI r30]) C (mm_dec dk_X3_arrange 46 rfl) (by decide) rfl ?_
          refine mm_aload_n C (mm_dec dk_X3_arrange 47 rfl) rfl ?_
          refine mm_getr (t := 57) C fl_X3_18 (mm_dec dk_X3_arrange 48 rfl) rfl rfl (mm_ref i3 rfl) ?_
          refine mm_iload_n C (mm_dec dk_X3_arrange 49 rfl) rfl ?_
          refine mm_dup2 C (mm_dec dk_X3_arrange 50 rfl) (show (0 : Nat) ≠ 1 by decide) (show (2 : Nat) ≠ 1 by decide) ?_
          refine mm_iald C (mm_dec dk_X3_arrange 51 rfl) rfl (by omega) (by omega) ?_
          have g10 : -2147483648 ≤ (h3.2.1 57 (h3.2.1 24 (h3.2.1 56 x10_4))) ∧ (h3.2.1 57 (h3.2.1 24 (h3.2.1 56 x10_4))) ≤ 2147483647 := i3.2.1 57 (h3.2.1 24 (h3.2.1 56 x10_4))
          refine mm_iconst C (mm_dec dk_X3_arrange 52 rfl) ⟨by decide, by decide⟩ ?_
          refine mm_isubw C (mm_dec dk_X3_arrange 53 rfl) ?_
          have g11 : -2147483648 ≤ (mm_w ((h3.2.1 57 (h3.2.1 24 (h3.2.1 56 x10_4))) - 1)) ∧ (mm_w ((h3.2.1 57 (h3.2.1 24 (h3.2.1 56 x10_4))) - 1)) < 2147483648 := mm_w_rg _
          refine mm_iast C (mm_dec dk_X3_arrange 54 rfl) rfl (by omega) (by omega) ?_
          have i4 : mm_inv (mm_pa h3 57 (h3.2.1 24 (h3.2.1 56 x10_4)) (mm_w ((h3.2.1 57 (h3.2.1 24 (h3.2.1 56 x10_4))) - 1))) := mm_inv_pa i3 (show -2147483648 ≤ (mm_w ((h3.2.1 57 (h3.2.1 24 (h3.2.1 56 x10_4))) - 1)) ∧ (mm_w ((h3.2.1 57 (h3.2.1 24 (h3.2.1 56 x10_4))) - 1)) ≤ 2147483647 from ⟨by omega, by omega⟩)
          have f4 : mm_fr [] [55, 56, 57] h (mm_pa h3 57 (h3.2.1 24 (h3.2.1 56 x10_4)) (mm_w ((h3.2.1 57 (h3.2.1 24 (h3.2.1 56 x10_4))) - 1))) := mm_fr_pa f3 (by decide)
          obtain ⟨h4, eh4⟩ : ∃ z, z = mm_pa h3 57 (h3.2.1 24 (h3.2.1 56 x10_4)) (mm_w ((h3.2.1 57 (h3.2.1 24 (h3.2.1 56 x10_4))) - 1)) := ⟨_, rfl⟩
          rw [← eh4] at i4 f4 ⊢
          have qh4_12 : h4.1 54 5 = h3.1 54 5 := by rw [eh4]; rfl
          refine mm_iincL (ls2 := [mR 54, mU, mU, mI (h3.2.1 24 (h3.2.1 56 x10_4)), mI (x10_4 + 1), mI r30]) C (mm_dec dk_X3_arrange 55 rfl) rfl (by decide) ⟨by omega, by omega⟩ rfl ?_
          refine mm_goto (tgt := 10) C (mm_dec dk_X3_arrange 56 rfl) (by decide) ?_
          refine mm_fgt 5 ?_
          exact ih10 (h3.2.1 24 (h3.2.1 56 x10_4)) ⟨by omega, by omega⟩ (x10_4 + 1) ⟨by omega, by omega⟩ h4 i4 f4 (by omega)
        · skip
          refine mm_iconst C (mm_dec dk_X3_arrange 24 rfl) ⟨by decide, by decide⟩ ?_
          exact mm_zret C T (mm_dec dk_X3_arrange 25 rfl) (by decide : 0 ≤ 0) (by decide : 0 ≤ 0) (by omega) ⟨_, rfl, ⟨⟨by omega, by omega⟩, i10_, f10_⟩⟩
  refine mm_istoreL (ls2 := [mR 54, mL p1, mU, mI (-1), mI 0, mU]) C (mm_dec dk_X3_arrange 6 rfl) (by decide) rfl ?_
  refine mm_fgt 1 ?_
  exact J10 (((40 - 0) : Int) + 1).toNat (-1) ⟨by omega, by omega⟩ 0 ⟨by omega, by omega⟩ h2c i2c f2c (by omega)
set_option maxRecDepth 100000 in
set_option maxHeartbeats 4000000 in
theorem c_X11_draw (l : Launch) (hl : l.stackTraces = false) (d : Nat) (hd : 9 ≤ d) (h : mH) (i0 : mm_inv h) (p1 : Int) (p2 : Int) (p4 : Int) : mm_Met l d yX11_draw cX11_draw 8 (some .int) [mR 0, mI p1, mL p2, mI p4] h (mm_pi fun r h2 => (-1 ≤ r ∧ r ≤ 40) ∧ mm_inv h2 ∧ mm_fr [(30, 6), (54, 5)] [31, 32, 33, 34, 35, 36, 55, 56, 57] h h2) (mm_xp h) 1 6 := by
  refine mm_ofW (ls := [mR 0, mI p1, mL p2, mU, mI p4, mU, mU, mU]) hl (by decide) rfl (Nat.le_of_ble_eq_true rfl) ?_
  intro x hxl C T hnm htb
  subst hxl
  have C1 := mm_OK_le (d' := d - 1 + 1) (by omega) C
  have C8 := mm_OK_le (d' := d - 8 + 8) (by omega) C
  refine mm_rng (fun hr _ => ?_)
  have ap1 : -2147483648 ≤ p1 ∧ p1 < 2147483648 := mm_ok_at hr (i := 1) rfl
  have ap2 : -9223372036854775808 ≤ p2 ∧ p2 < 9223372036854775808 := mm_ok_at hr (i := 2) rfl
  have ap4 : -2147483648 ≤ p4 ∧ p4 < 2147483648 := mm_ok_at hr (i := 4) rfl
  have f0 : mm_fr [(30, 6), (54, 5)] [31, 32, 33, 34, 35, 36, 55, 56, 57] h h := mm_fr_rf
  have g1 : 0 ≤ h.1 30 6 ∧ h.1 30 6 ≤ 500 := i0.1 30 6
  refine mm_aload_n C (mm_dec dk_X11_draw 0 rfl) rfl ?_
  refine mm_iload_n C (mm_dec dk_X11_draw 1 rfl) rfl ?_
  refine mm_cVv (rest := []) C1 ev_X11_207 (mm_dec dk_X11_draw 2 rfl) (c_X11_needCourse x.2.1 hl (d - 1) (by omega) h i0 p1) rfl rfl (Nat.le_of_ble_eq_true rfl) ⟨by decide, by decide⟩ rfl (fun h2c hp2 => ?_) (fun E hx q => mm_out C T htb (by decide) (by decide) (by rcases q with ⟨q1, q2⟩ | ⟨q1, q2⟩ <;> first | exact Or.inl ⟨q1, q2⟩ | exact Or.inr ⟨q1, q2⟩))
  obtain ⟨z2, k2_0, k2_1⟩ := hp2
  rw [z2]
  have g3 : 0 ≤ (h.1 14 8) ∧ (h.1 14 8) ≤ 8 := i0.1 14 8
  refine mm_iload C (mm_dec dk_X11_draw 3 rfl) rfl ?_
  refine mm_aload_n C (mm_dec dk_X11_draw 4 rfl) rfl ?_
  refine mm_geti C fl_X11_102 (mm_dec dk_X11_draw 5 rfl) rfl rfl (Or.inl rfl) ?_
  have g4 : 0 ≤ (h.1 0 13) ∧ (h.1 0 13) ≤ 99999 := i0.1 0 13
  refine mm_ldcw (z := 99999) C (mm_dec dk_X11_draw 6 rfl) kc_X11_260 (by decide) ?_
  refine mm_cSi (rest := []) C1 es_X11_130 (mm_dec dk_X11_draw 7 rfl) (c_X11_within x.2.1 hl (d - 1) (by omega) h i0 p4 (h.1 0 13) 99999) rfl (Nat.le_of_ble_eq_true rfl) ⟨by decide, by decide⟩ rfl (fun r14 h14c hp14 => ?_) (fun _ _ q => q.elim)
  obtain ⟨z14, y14⟩ := hp14
  rw [z14]
  refine mm_if_ne (tgt := 22) C (mm_dec dk_X11_draw 8 rfl) (by decide) (fun c17 => ?_) (fun c17 => ?_)
  · skip
    refine mm_aload_n C (mm_dec dk_X11_draw 11 rfl) rfl ?_
    refine mm_getr (t := 54) C fl_X11_69 (mm_dec dk_X11_draw 12 rfl) rfl rfl (mm_ref i0 rfl) ?_
    refine mm_iload_n C (mm_dec dk_X11_draw 13 rfl) rfl ?_
    refine mm_aload_n C (mm_dec dk_X11_draw 14 rfl) rfl ?_
    refine mm_geti C fl_X11_102 (mm_dec dk_X11_draw 15 rfl) rfl rfl (Or.inl rfl) ?_
    refine mm_cVi (rest := []) C1 ev_X11_345 (mm_dec dk_X11_draw 16 rfl) (c_X3_gather x.2.1 hl (d - 1) (by omega) h i0 p1 (h.1 0 13) ⟨by omega, by omega⟩) rfl rfl (Nat.le_of_ble_eq_true rfl) ⟨by decide, by decide⟩ rfl (fun r31 h31c hp31 => ?_) (fun _ _ q => q.elim)
    obtain ⟨b31, i31c, g31c⟩ := hp31
    have f31c : mm_fr [(30, 6), (54, 5)] [31, 32, 33, 34, 35, 36, 55, 56, 57] h h31c := mm_fr_tr f0 g31c (by decide +kernel)
    have q31c_7 : h31c.1 0 13 = h.1 0 13 := g31c.1 0 13 (by decide)
    have q31c_8 : h31c.1 14 8 = h.1 14 8 := g31c.1 14 8 (by decide)
    have q31c_9 : h31c.1 30 6 = h.1 30 6 := g31c.1 30 6 (by decide)
    refine mm_istoreL (ls2 := [mR 0, mI p1, mL p2, mU, mI p4, mI r31, mU, mU]) C (mm_dec dk_X11_draw 17 rfl) (by decide) rfl ?_
    refine mm_aload_n C (mm_dec dk_X11_draw 18 rfl) rfl ?_
    refine mm_getr (t := 42) C fl_X11_51 (mm_dec dk_X11_draw 19 rfl) rfl rfl (mm_ref i31c rfl) ?_
    refine mm_iconst C (mm_dec dk_X11_draw 20 rfl) ⟨by decide, by decide⟩ ?_
    refine mm_cVi (rest := []) C1 ev_X11_333 (mm_dec dk_X11_draw 21 rfl) (c_X8_param x.2.1 hl (d - 1) (by omega) h31c i31c 1 ⟨by omega, by omega⟩) rfl rfl (Nat.le_of_ble_eq_true rfl) ⟨by decide, by decide⟩ rfl (fun r41 h41c hp41 => ?_) (fun _ _ q => q.elim)
    obtain ⟨z41, y41⟩ := hp41
    rw [z41, y41]
    have g11 : -2147483648 ≤ (h31c.2.1 44 1) ∧ (h31c.2.1 44 1) ≤ 2147483647 := i31c.2.1 44 1
    refine mm_istoreL (ls2 := [mR 0, mI p1, mL p2, mU, mI p4, mI r31, mI (h31c.2.1 44 1), mU]) C (mm_dec dk_X11_draw 22 rfl) (by decide) rfl ?_
    refine mm_iload C (mm_dec dk_X11_draw 23 rfl) rfl ?_
    refine mm_sipush C (mm_dec dk_X11_draw 24 rfl) ⟨by decide, by decide⟩ ?_
    refine mm_aload_n C (mm_dec dk_X11_draw 25 rfl) rfl ?_
    refine mm_getr (t := 30) C fl_X11_44 (mm_dec dk_X11_draw 26 rfl) rfl rfl (mm_ref i31c rfl) ?_
    refine mm_cVi (rest := [mI 500, mI r31]) C1 ev_X11_268 (mm_dec dk_X11_draw 27 rfl) (c_X6_events x.2.1 hl (d - 1) (by omega) h31c i31c ) rfl rfl (Nat.le_of_ble_eq_true rfl) ⟨by decide, by decide⟩ rfl (fun r55 h55c hp55 => ?_) (fun _ _ q => q.elim)
    obtain ⟨z55, y55⟩ := hp55
    rw [z55, y55]
    refine mm_isub C (mm_dec dk_X11_draw 28 rfl) ⟨by omega, by omega⟩ ?_
    have J78 : mm_W x 1 6 78 [mU, mU, mU, mU, mU, mU, mU, mU] [] h31c := by
      refine mm_iconst C (mm_dec dk_X11_draw 39 rfl) ⟨by decide, by decide⟩ ?_
      exact mm_iret C T (mm_dec dk_X11_draw 40 rfl) (by decide : 1 ≤ 1) (by decide : 6 ≤ 6) ⟨_, rfl, ⟨⟨by omega, by omega⟩, i31c, f31c⟩⟩
    refine mm_icmp_gt (tgt := 78) C (mm_dec dk_X11_draw 29 rfl) (by decide) (fun c59 => ?_) (fun c59 => ?_)
    · skip
      refine mm_fgt 0 ?_
      refine mm_fgt 1 ?_
      refine mm_fgt 2 ?_
      refine mm_fgt 4 ?_
      refine mm_fgt 5 ?_
      refine mm_fgt 6 ?_
      exact J78
    · skip
      refine mm_iload C (mm_dec dk_X11_draw 30 rfl) rfl ?_
      refine mm_iload C (mm_dec dk_X11_draw 31 rfl) rfl ?_
      refine mm_iconst C (mm_dec dk_X11_draw 32 rfl) ⟨by decide, by decide⟩ ?_
      refine mm_isub C (mm_dec dk_X11_draw 33 rfl) ⟨by omega, by omega⟩ ?_
      refine mm_iload C (mm_dec dk_X11_draw 34 rfl) rfl ?_
      refine mm_imulw C (mm_dec dk_X11_draw 35 rfl) ?_
      have g13 : -2147483648 ≤ (mm_w ((r31 - 1) * (h31c.2.1 44 1))) ∧ (mm_w ((r31 - 1) * (h31c.2.1 44 1))) < 2147483648 := mm_w_rg _
      refine mm_iaddw C (mm_dec dk_X11_draw 36 rfl) ?_
      have g14 : -2147483648 ≤ (mm_w (p4 + (mm_w ((r31 - 1) * (h31c.2.1 44 1))))) ∧ (mm_w (p4 + (mm_w ((r31 - 1) * (h31c.2.1 44 1))))) < 2147483648 := mm_w_rg _
      refine mm_ldcw (z := 99999) C (mm_dec dk_X11_draw 37 rfl) kc_X11_260 (by decide) ?_
      refine mm_icmp_le (tgt := 80) C (mm_dec dk_X11_draw 38 rfl) (by decide) (fun c75 => ?_) (fun c75 => ?_)
      · skip
        refine mm_aload_n C (mm_dec dk_X11_draw 41 rfl) rfl ?_
        refine mm_getr (t := 54) C fl_X11_69 (mm_dec dk_X11_draw 42 rfl) rfl rfl (mm_ref i31c rfl) ?_
        refine mm_lload_n C (mm_dec dk_X11_draw 43 rfl) rfl ?_
        refine mm_cVi (rest := []) C1 ev_X11_348 (mm_dec dk_X11_draw 44 rfl) (c_X3_arrange x.2.1 hl (d - 1) (by omega) h31c i31c p2) rfl rfl (Nat.le_of_ble_eq_true rfl) ⟨by decide, by decide⟩ rfl (fun r85 h85c hp85 => ?_) (fun _ _ q => q.elim)
        obtain ⟨b85, i85c, g85c⟩ := hp85
        have f85c : mm_fr [(30, 6), (54, 5)] [31, 32, 33, 34, 35, 36, 55, 56, 57] h h85c := mm_fr_tr f31c g85c (by decide +kernel)
        have q85c_16 : h85c.1 0 13 = h31c.1 0 13 := g85c.1 0 13 (by decide)
        have q85c_17 : h85c.1 14 8 = h31c.1 14 8 := g85c.1 14 8 (by decide)
        have q85c_18 : h85c.1 30 6 = h31c.1 30 6 := g85c.1 30 6 (by decide)
        refine mm_if_ne (tgt := 93) C (mm_dec dk_X11_draw 45 rfl) (by decide) (fun c88 => ?_) (fun c88 => ?_)
        · skip
          refine mm_iconst C (mm_dec dk_X11_draw 48 rfl) ⟨by decide, by decide⟩ ?_
          have J96 : ∀ (n : Nat) (x96_7 : Int) (bx96_7 : 0 ≤ x96_7 ∧ x96_7 ≤ 40) (h96_ : mH) (i96_ : mm_inv h96_) (f96_ : mm_fr [(30, 6), (54, 5)] [31, 32, 33, 34, 35, 36, 55, 56, 57] h h96_) (w96_0 : h96_.1 30 6 + r31 - x96_7 ≤ 500), (40 - x96_7 : Int) < n → mm_W x 1 6 96 [mR 0, mU, mU, mU, mI p4, mI r31, mI (h31c.2.1 44 1), mI x96_7] [] h96_ := by
            intro n
            induction n with
            | zero =>
              intro x96_7 bx96_7 h96_ i96_ f96_ w96_0 hm
              have g19 : 0 ≤ h96_.1 30 6 ∧ h96_.1 30 6 ≤ 500 := i96_.1 30 6
              exfalso; omega
            | succ n ih96 =>
              intro x96_7 bx96_7 h96_ i96_ f96_ w96_0 hm96
              have g20 : 0 ≤ h96_.1 30 6 ∧ h96_.1 30 6 ≤ 500 := i96_.1 30 6
              refine mm_iload C (mm_dec dk_X11_draw 50 rfl) rfl ?_
              refine mm_iload C (mm_dec dk_X11_draw 51 rfl) rfl ?_
              refine mm_icmp_ge (tgt := 140) C (mm_dec dk_X11_draw 52 rfl) (by decide) (fun c100 => ?_) (fun c100 => ?_)
              · skip
                refine mm_iload C (mm_dec dk_X11_draw 72 rfl) rfl ?_
                exact mm_iret C T (mm_dec dk_X11_draw 73 rfl) (by decide : 1 ≤ 1) (by decide : 6 ≤ 6) ⟨_, rfl, ⟨⟨by omega, by omega⟩, i96_, f96_⟩⟩
              · skip
                refine mm_aload_n C (mm_dec dk_X11_draw 53 rfl) rfl ?_
                refine mm_getr (t := 30) C fl_X11_44 (mm_dec dk_X11_draw 54 rfl) rfl rfl (mm_ref i96_ rfl) ?_
                refine mm_iconst C (mm_dec dk_X11_draw 55 rfl) ⟨by decide, by decide⟩ ?_
                refine mm_aload_n C (mm_dec dk_X11_draw 56 rfl) rfl ?_
                refine mm_getr (t := 54) C fl_X11_69 (mm_dec dk_X11_draw 57 rfl) rfl rfl (mm_ref i96_ rfl) ?_
                refine mm_iload C (mm_dec dk_X11_draw 58 rfl) rfl ?_
                refine mm_cVi (rest := [mI 0, mR 30]) C1 ev_X11_352 (mm_dec dk_X11_draw 59 rfl) (c_X3_drawn x.2.1 hl (d - 1) (by omega) h96_ i96_ x96_7 ⟨by omega, by omega⟩) rfl rfl (Nat.le_of_ble_eq_true rfl) ⟨by decide, by decide⟩ rfl (fun r114 h114c hp114 => ?_) (fun _ _ q => q.elim)
                obtain ⟨z114, y114⟩ := hp114
                rw [z114, y114]
                have g22 : 0 ≤ (h96_.2.1 56 x96_7) ∧ (h96_.2.1 56 x96_7) ≤ 39 := i96_.2.1 56 x96_7
                refine mm_iconst C (mm_dec dk_X11_draw 60 rfl) ⟨by decide, by decide⟩ ?_
                refine mm_iload C (mm_dec dk_X11_draw 61 rfl) rfl ?_
                refine mm_iload C (mm_dec dk_X11_draw 62 rfl) rfl ?_
                refine mm_iload C (mm_dec dk_X11_draw 63 rfl) rfl ?_
                refine mm_imulw C (mm_dec dk_X11_draw 64 rfl) ?_
                have g23 : -2147483648 ≤ (mm_w (x96_7 * (h31c.2.1 44 1))) ∧ (mm_w (x96_7 * (h31c.2.1 44 1))) < 2147483648 := mm_w_rg _
                refine mm_iaddw C (mm_dec dk_X11_draw 65 rfl) ?_
                have g24 : -2147483648 ≤ (mm_w (p4 + (mm_w (x96_7 * (h31c.2.1 44 1))))) ∧ (mm_w (p4 + (mm_w (x96_7 * (h31c.2.1 44 1))))) < 2147483648 := mm_w_rg _
                refine mm_aload_n C (mm_dec dk_X11_draw 66 rfl) rfl ?_
                refine mm_geti C fl_X11_102 (mm_dec dk_X11_draw 67 rfl) rfl rfl (Or.inl rfl) ?_
                have g25 : 0 ≤ (h96_.1 0 13) ∧ (h96_.1 0 13) ≤ 99999 := i96_.1 0 13
                refine mm_cVi (rest := []) C1 ev_X11_271 (mm_dec dk_X11_draw 68 rfl) (c_X6_tell x.2.1 hl (d - 1) (by omega) h96_ i96_ 0 (h96_.2.1 56 x96_7) (-1) (mm_w (p4 + (mm_w (x96_7 * (h31c.2.1 44 1))))) (h96_.1 0 13) ⟨by omega, by omega⟩ (by omega)) rfl rfl (Nat.le_of_ble_eq_true rfl) ⟨by decide, by decide⟩ rfl (fun r130 h130c hp130 => ?_) (fun _ _ q => q.elim)
                obtain ⟨b130, i130c, g130c, y130_0⟩ := hp130
                have f130c : mm_fr [(30, 6), (54, 5)] [31, 32, 33, 34, 35, 36, 55, 56, 57] h h130c := mm_fr_tr f96_ g130c (by decide +kernel)
                have q130c_27 : h130c.1 0 13 = h96_.1 0 13 := g130c.1 0 13 (by decide)
                have g28 : 0 ≤ (h130c.1 30 6) ∧ (h130c.1 30 6) ≤ 500 := i130c.1 30 6
                refine mm_pop C (mm_dec dk_X11_draw 69 rfl) (show (0 : Nat) ≠ 1 by decide) ?_
                refine mm_iincL (ls2 := [mR 0, mU, mU, mU, mI p4, mI r31, mI (h31c.2.1 44 1), mI (x96_7 + 1)]) C (mm_dec dk_X11_draw 70 rfl) rfl (by decide) ⟨by omega, by omega⟩ rfl ?_
                refine mm_goto (tgt := 96) C (mm_dec dk_X11_draw 71 rfl) (by decide) ?_
                exact ih96 (x96_7 + 1) ⟨by omega, by omega⟩ h130c i130c f130c (by omega) (by omega)
          refine mm_istoreL (ls2 := [mR 0, mI p1, mL p2, mU, mI p4, mI r31, mI (h31c.2.1 44 1), mI 0]) C (mm_dec dk_X11_draw 49 rfl) (by decide) rfl ?_
          refine mm_fgt 1 ?_
          refine mm_fgt 2 ?_
          exact J96 (((40 - 0) : Int) + 1).toNat 0 ⟨by omega, by omega⟩ h85c i85c f85c (by omega) (by omega)
        · skip
          refine mm_iconst C (mm_dec dk_X11_draw 46 rfl) ⟨by decide, by decide⟩ ?_
          exact mm_iret C T (mm_dec dk_X11_draw 47 rfl) (by decide : 1 ≤ 1) (by decide : 6 ≤ 6) ⟨_, rfl, ⟨⟨by omega, by omega⟩, i85c, f85c⟩⟩
      · skip
        refine mm_fgt 0 ?_
        refine mm_fgt 1 ?_
        refine mm_fgt 2 ?_
        refine mm_fgt 4 ?_
        refine mm_fgt 5 ?_
        refine mm_fgt 6 ?_
        exact J78
  · skip
    refine mm_iconst C (mm_dec dk_X11_draw 9 rfl) ⟨by decide, by decide⟩ ?_
    exact mm_iret C T (mm_dec dk_X11_draw 10 rfl) (by decide : 1 ≤ 1) (by decide : 6 ≤ 6) ⟨_, rfl, ⟨⟨by omega, by omega⟩, i0, f0⟩⟩
set_option maxRecDepth 100000 in
set_option maxHeartbeats 4000000 in
theorem c_X10_keepLeast (l : Launch) (hl : l.stackTraces = false) (d : Nat) (hd : 4 ≤ d) (h : mH) (i0 : mm_inv h) (p1 : Int) (p2 : Int) (bp1 : 0 ≤ p1 ∧ p1 ≤ 399) (bp2 : 0 ≤ p2 ∧ p2 ≤ 399) : mm_Met l d yX10_keepLeast cX10_keepLeast 6 (some .int) [mR 7, mI p1, mI p2] h (mm_pi fun r h2 => (-2147483648 ≤ r ∧ r ≤ 2147483647) ∧ mm_inv h2 ∧ mm_fr [(7, 7), (7, 8), (7, 9)] [8, 9, 10, 11, 13] h h2) mm_nx 0 0 := by
  refine mm_ofW (ls := [mR 7, mI p1, mI p2, mU, mU, mU]) hl (by decide) rfl (Nat.le_of_ble_eq_true rfl) ?_
  intro x hxl C T hnm htb
  subst hxl
  have C1 := mm_OK_le (d' := d - 1 + 1) (by omega) C
  refine mm_rng (fun hr _ => ?_)
  have ap1 : -2147483648 ≤ p1 ∧ p1 < 2147483648 := mm_ok_at hr (i := 1) rfl
  have ap2 : -2147483648 ≤ p2 ∧ p2 < 2147483648 := mm_ok_at hr (i := 2) rfl
  have f0 : mm_fr [(7, 7), (7, 8), (7, 9)] [8, 9, 10, 11, 13] h h := mm_fr_rf
  refine mm_aload_n C (mm_dec dk_X10_keepLeast 0 rfl) rfl ?_
  refine mm_iload_n C (mm_dec dk_X10_keepLeast 1 rfl) rfl ?_
  refine mm_iload_n C (mm_dec dk_X10_keepLeast 2 rfl) rfl ?_
  refine mm_cVv (rest := []) C1 ev_X10_52 (mm_dec dk_X10_keepLeast 3 rfl) (c_X10_measure x.2.1 hl (d - 1) (by omega) h i0 p2 p1 ⟨by omega, by omega⟩ ⟨by omega, by omega⟩) rfl rfl (Nat.le_of_ble_eq_true rfl) ⟨by decide, by decide⟩ rfl (fun h3c hp3 => ?_) (fun _ _ q => q.elim)
  obtain ⟨i3c, g3c⟩ := hp3
  have f3c : mm_fr [(7, 7), (7, 8), (7, 9)] [8, 9, 10, 11, 13] h h3c := mm_fr_tr f0 g3c (by decide +kernel)
  refine mm_aload_n C (mm_dec dk_X10_keepLeast 4 rfl) rfl ?_
  refine mm_getr (t := 8) C fl_X10_9 (mm_dec dk_X10_keepLeast 5 rfl) rfl rfl (mm_ref i3c rfl) ?_
  refine mm_iload_n C (mm_dec dk_X10_keepLeast 6 rfl) rfl ?_
  refine mm_iald C (mm_dec dk_X10_keepLeast 7 rfl) rfl (by omega) (by omega) ?_
  have g2 : -2147483648 ≤ (h3c.2.1 8 p1) ∧ (h3c.2.1 8 p1) ≤ 2147483647 := i3c.2.1 8 p1
  refine mm_ldc (z := 2000000000) C (mm_dec dk_X10_keepLeast 8 rfl) kc_X10_56 (by decide) ?_
  refine mm_icmp_ne (tgt := 19) C (mm_dec dk_X10_keepLeast 9 rfl) (by decide) (fun c14 => ?_) (fun c14 => ?_)
  · skip
    refine mm_iload_n C (mm_dec dk_X10_keepLeast 12 rfl) rfl ?_
    refine mm_istore_nL (ls2 := [mR 7, mI p1, mI p2, mI p1, mU, mU]) C (mm_dec dk_X10_keepLeast 13 rfl) (by decide) rfl ?_
    refine mm_iconst C (mm_dec dk_X10_keepLeast 14 rfl) ⟨by decide, by decide⟩ ?_
    have J24 : ∀ (n : Nat) (x24_3 : Int) (bx24_3 : 0 ≤ x24_3 ∧ x24_3 ≤ 399) (x24_4 : Int) (bx24_4 : 0 ≤ x24_4 ∧ x24_4 ≤ 400) (h24_ : mH) (i24_ : mm_inv h24_) (f24_ : mm_fr [(7, 7), (7, 8), (7, 9)] [8, 9, 10, 11, 13] h h24_), (400 - x24_4 : Int) < n → mm_W x 0 0 24 [mR 7, mI p1, mI p2, mI x24_3, mI x24_4, mU] [] h24_ := by
      intro n
      induction n with
      | zero =>
        intro x24_3 bx24_3 x24_4 bx24_4 h24_ i24_ f24_ hm
        exfalso; omega
      | succ n ih24 =>
        intro x24_3 bx24_3 x24_4 bx24_4 h24_ i24_ f24_ hm24
        refine mm_iload C (mm_dec dk_X10_keepLeast 16 rfl) rfl ?_
        refine mm_sipush C (mm_dec dk_X10_keepLeast 17 rfl) ⟨by decide, by decide⟩ ?_
        have J79 : mm_W x 0 0 79 [mR 7, mI p1, mU, mU, mI x24_4, mU] [] h24_ := by
          refine mm_aload_n C (mm_dec dk_X10_keepLeast 43 rfl) rfl ?_
          refine mm_iload C (mm_dec dk_X10_keepLeast 44 rfl) rfl ?_
          refine mm_puti C fl_X10_38 (mm_dec dk_X10_keepLeast 45 rfl) rfl rfl rfl (Or.inl ⟨rfl, rfl⟩) ?_
          have i2 : mm_inv (mm_pf h24_ 7 9 x24_4) := mm_inv_pf i24_ (show -1 ≤ x24_4 ∧ x24_4 ≤ 400 from ⟨by omega, by omega⟩) (by decide)
          have f2 : mm_fr [(7, 7), (7, 8), (7, 9)] [8, 9, 10, 11, 13] h (mm_pf h24_ 7 9 x24_4) := mm_fr_pf f24_ (by decide)
          obtain ⟨h2, eh2⟩ : ∃ z, z = mm_pf h24_ 7 9 x24_4 := ⟨_, rfl⟩
          rw [← eh2] at i2 f2 ⊢
          have qh2 : h2.1 7 9 = x24_4 := by rw [eh2]; exact mm_pf_same _ _ _ _
          refine mm_aload_n C (mm_dec dk_X10_keepLeast 46 rfl) rfl ?_
          refine mm_iload_n C (mm_dec dk_X10_keepLeast 47 rfl) rfl ?_
          refine mm_cVi (rest := []) C1 ev_X10_67 (mm_dec dk_X10_keepLeast 48 rfl) (c_X10_secondsFrom x.2.1 hl (d - 1) (by omega) h2 i2 p1 ⟨by omega, by omega⟩) rfl rfl (Nat.le_of_ble_eq_true rfl) ⟨by decide, by decide⟩ rfl (fun r87 h87c hp87 => ?_) (fun _ _ q => q.elim)
          obtain ⟨z87, y87⟩ := hp87
          rw [z87]
          have g4 : -2147483648 ≤ (h2.2.1 8 p1) ∧ (h2.2.1 8 p1) ≤ 2147483647 := i2.2.1 8 p1
          have g5 : -2147483648 ≤ (mm_w (Int.tdiv (h2.2.1 8 p1) 512)) ∧ (mm_w (Int.tdiv (h2.2.1 8 p1) 512)) < 2147483648 := mm_w_rg _
          exact mm_iret C T (mm_dec dk_X10_keepLeast 49 rfl) (by decide : 0 ≤ 0) (by decide : 0 ≤ 0) ⟨_, rfl, ⟨⟨by omega, by omega⟩, i2, f2⟩⟩
        refine mm_icmp_ge (tgt := 79) C (mm_dec dk_X10_keepLeast 18 rfl) (by decide) (fun c29 => ?_) (fun c29 => ?_)
        · skip
          refine mm_fgt 2 ?_
          refine mm_fgt 3 ?_
          exact J79
        · skip
          refine mm_iload_n C (mm_dec dk_X10_keepLeast 19 rfl) rfl ?_
          refine mm_iload_n C (mm_dec dk_X10_keepLeast 20 rfl) rfl ?_
          refine mm_icmp_eq (tgt := 79) C (mm_dec dk_X10_keepLeast 21 rfl) (by decide) (fun c34 => ?_) (fun c34 => ?_)
          · skip
            refine mm_fgt 2 ?_
            refine mm_fgt 3 ?_
            exact J79
          · skip
            refine mm_aload_n C (mm_dec dk_X10_keepLeast 22 rfl) rfl ?_
            refine mm_iload_n C (mm_dec dk_X10_keepLeast 23 rfl) rfl ?_
            refine mm_cVi (rest := []) C1 ev_X10_57 (mm_dec dk_X10_keepLeast 24 rfl) (c_X10_firstLeastMove x.2.1 hl (d - 1) (by omega) h24_ i24_ x24_3 ⟨by omega, by omega⟩) rfl rfl (Nat.le_of_ble_eq_true rfl) ⟨by decide, by decide⟩ rfl (fun r39 h39c hp39 => ?_) (fun _ _ q => q.elim)
            obtain ⟨b39, z39, y39_0⟩ := hp39
            rw [z39]
            refine mm_istoreL (ls2 := [mR 7, mI p1, mI p2, mI x24_3, mI x24_4, mI r39]) C (mm_dec dk_X10_keepLeast 25 rfl) (by decide) rfl ?_
            refine mm_iload C (mm_dec dk_X10_keepLeast 26 rfl) rfl ?_
            refine mm_iconst C (mm_dec dk_X10_keepLeast 27 rfl) ⟨by decide, by decide⟩ ?_
            refine mm_icmp_ne (tgt := 53) C (mm_dec dk_X10_keepLeast 28 rfl) (by decide) (fun c47 => ?_) (fun c47 => ?_)
            · skip
              refine mm_aload_n C (mm_dec dk_X10_keepLeast 30 rfl) rfl ?_
              refine mm_getr (t := 13) C fl_X10_28 (mm_dec dk_X10_keepLeast 31 rfl) rfl rfl (mm_ref i24_ rfl) ?_
              refine mm_iload C (mm_dec dk_X10_keepLeast 32 rfl) rfl ?_
              refine mm_iload C (mm_dec dk_X10_keepLeast 33 rfl) rfl ?_
              refine mm_iast C (mm_dec dk_X10_keepLeast 34 rfl) rfl (by omega) (by omega) ?_
              have i3 : mm_inv (mm_pa h24_ 13 x24_4 r39) := mm_inv_pa i24_ (show -2147483648 ≤ r39 ∧ r39 ≤ 2147483647 from ⟨by omega, by omega⟩)
              have f3 : mm_fr [(7, 7), (7, 8), (7, 9)] [8, 9, 10, 11, 13] h (mm_pa h24_ 13 x24_4 r39) := mm_fr_pa f24_ (by decide)
              obtain ⟨h3, eh3⟩ : ∃ z, z = mm_pa h24_ 13 x24_4 r39 := ⟨_, rfl⟩
              rw [← eh3] at i3 f3 ⊢
              refine mm_iincL (ls2 := [mR 7, mI p1, mI p2, mI x24_3, mI (x24_4 + 1), mI r39]) C (mm_dec dk_X10_keepLeast 35 rfl) rfl (by decide) ⟨by omega, by omega⟩ rfl ?_
              refine mm_aload_n C (mm_dec dk_X10_keepLeast 36 rfl) rfl ?_
              refine mm_getr (t := 1) C fl_X10_48 (mm_dec dk_X10_keepLeast 37 rfl) rfl rfl (mm_ref i3 rfl) ?_
              refine mm_iload_n C (mm_dec dk_X10_keepLeast 38 rfl) rfl ?_
              refine mm_iload C (mm_dec dk_X10_keepLeast 39 rfl) rfl ?_
              refine mm_cVi (rest := []) C1 ev_X10_61 (mm_dec dk_X10_keepLeast 40 rfl) (c_X5_beside x.2.1 hl (d - 1) (by omega) h3 i3 x24_3 r39 ⟨by omega, by omega⟩) rfl rfl (Nat.le_of_ble_eq_true rfl) ⟨by decide, by decide⟩ rfl (fun r72 h72c hp72 => ?_) (fun _ _ q => q.elim)
              obtain ⟨b72, z72, y72_0⟩ := hp72
              rw [z72]
              have zz : mm_bes h3 x24_3 r39 = mm_bes h24_ x24_3 r39 := by rw [eh3]; exact mm_bes_fr rfl rfl (fun _ => mm_pa_ne _ _ (fun q => absurd q.1 (by decide))) (fun _ => mm_pa_ne _ _ (fun q => absurd q.1 (by decide)))
              refine mm_istore_nL (ls2 := [mR 7, mI p1, mI p2, mI r72, mI (x24_4 + 1), mI r39]) C (mm_dec dk_X10_keepLeast 41 rfl) (by decide) rfl ?_
              refine mm_goto (tgt := 24) C (mm_dec dk_X10_keepLeast 42 rfl) (by decide) ?_
              refine mm_fgt 5 ?_
              exact ih24 r72 ⟨by omega, by omega⟩ (x24_4 + 1) ⟨by omega, by omega⟩ h3 i3 f3 (by omega)
            · skip
              refine mm_goto (tgt := 79) C (mm_dec dk_X10_keepLeast 29 rfl) (by decide) ?_
              refine mm_fgt 2 ?_
              refine mm_fgt 3 ?_
              refine mm_fgt 5 ?_
              exact J79
    refine mm_istoreL (ls2 := [mR 7, mI p1, mI p2, mI p1, mI 0, mU]) C (mm_dec dk_X10_keepLeast 15 rfl) (by decide) rfl ?_
    exact J24 (((400 - 0) : Int) + 1).toNat p1 ⟨by omega, by omega⟩ 0 ⟨by omega, by omega⟩ h3c i3c f3c (by omega)
  · skip
    refine mm_iconst C (mm_dec dk_X10_keepLeast 10 rfl) ⟨by decide, by decide⟩ ?_
    exact mm_iret C T (mm_dec dk_X10_keepLeast 11 rfl) (by decide : 0 ≤ 0) (by decide : 0 ≤ 0) ⟨_, rfl, ⟨⟨by omega, by omega⟩, i3c, f3c⟩⟩
set_option maxRecDepth 100000 in
set_option maxHeartbeats 4000000 in
theorem c_X11_way (l : Launch) (hl : l.stackTraces = false) (d : Nat) (hd : 9 ≤ d) (h : mH) (i0 : mm_inv h) (p1 : Int) (p2 : Int) (p3 : Int) (p4 : Int) : mm_Met l d yX11_way cX11_way 7 (some .int) [mR 0, mI p1, mI p2, mI p3, mI p4] h (mm_pi fun r h2 => (-2147483648 ≤ r ∧ r ≤ 2147483647) ∧ mm_inv h2 ∧ mm_fr [(7, 7), (7, 8), (7, 9)] [8, 9, 10, 11, 13] h h2) (mm_xp h) 2 12 := by
  refine mm_ofW (ls := [mR 0, mI p1, mI p2, mI p3, mI p4, mU, mU]) hl (by decide) rfl (Nat.le_of_ble_eq_true rfl) ?_
  intro x hxl C T hnm htb
  subst hxl
  have C1 := mm_OK_le (d' := d - 1 + 1) (by omega) C
  have C8 := mm_OK_le (d' := d - 8 + 8) (by omega) C
  refine mm_rng (fun hr _ => ?_)
  have ap1 : -2147483648 ≤ p1 ∧ p1 < 2147483648 := mm_ok_at hr (i := 1) rfl
  have ap2 : -2147483648 ≤ p2 ∧ p2 < 2147483648 := mm_ok_at hr (i := 2) rfl
  have ap3 : -2147483648 ≤ p3 ∧ p3 < 2147483648 := mm_ok_at hr (i := 3) rfl
  have ap4 : -2147483648 ≤ p4 ∧ p4 < 2147483648 := mm_ok_at hr (i := 4) rfl
  have f0 : mm_fr [(7, 7), (7, 8), (7, 9)] [8, 9, 10, 11, 13] h h := mm_fr_rf
  refine mm_aload_n C (mm_dec dk_X11_way 0 rfl) rfl ?_
  refine mm_iload_n C (mm_dec dk_X11_way 1 rfl) rfl ?_
  refine mm_iload_n C (mm_dec dk_X11_way 2 rfl) rfl ?_
  refine mm_cVi (rest := []) C1 ev_X11_122 (mm_dec dk_X11_way 3 rfl) (c_X11_needCell x.2.1 hl (d - 1) (by omega) h i0 p1 p2) rfl rfl (Nat.le_of_ble_eq_true rfl) ⟨by decide, by decide⟩ rfl (fun r3 h3c hp3 => ?_) (fun E hx q => mm_out C T htb (by decide) (by decide) (by rcases q with ⟨q1, q2⟩ | ⟨q1, q2⟩ <;> first | exact Or.inl ⟨q1, q2⟩ | exact Or.inr ⟨q1, q2⟩))
  obtain ⟨z3, k3_0, k3_1, k3_2, k3_3, k3_4, y3⟩ := hp3
  rw [z3, y3]
  have g2 : 1 ≤ (h.1 1 5) ∧ (h.1 1 5) ≤ 20 := i0.1 1 5
  have g3 : 1 ≤ (h.1 1 6) ∧ (h.1 1 6) ≤ 20 := i0.1 1 6
  refine mm_istoreL (ls2 := [mR 0, mI p1, mI p2, mI p3, mI p4, mI ((p2 * 20) + p1), mU]) C (mm_dec dk_X11_way 4 rfl) (by decide) rfl ?_
  refine mm_aload_n C (mm_dec dk_X11_way 5 rfl) rfl ?_
  refine mm_iload_n C (mm_dec dk_X11_way 6 rfl) rfl ?_
  refine mm_iload C (mm_dec dk_X11_way 7 rfl) rfl ?_
  refine mm_cVi (rest := []) C1 ev_X11_122 (mm_dec dk_X11_way 8 rfl) (c_X11_needCell x.2.1 hl (d - 1) (by omega) h i0 p3 p4) rfl rfl (Nat.le_of_ble_eq_true rfl) ⟨by decide, by decide⟩ rfl (fun r12 h12c hp12 => ?_) (fun E hx q => mm_out C T htb (by decide) (by decide) (by rcases q with ⟨q1, q2⟩ | ⟨q1, q2⟩ <;> first | exact Or.inl ⟨q1, q2⟩ | exact Or.inr ⟨q1, q2⟩))
  obtain ⟨z12, k12_0, k12_1, k12_2, k12_3, k12_4, y12⟩ := hp12
  rw [z12, y12]
  refine mm_istoreL (ls2 := [mR 0, mI p1, mI p2, mI p3, mI p4, mI ((p2 * 20) + p1), mI ((p4 * 20) + p3)]) C (mm_dec dk_X11_way 9 rfl) (by decide) rfl ?_
  refine mm_aload_n C (mm_dec dk_X11_way 10 rfl) rfl ?_
  refine mm_getr (t := 7) C fl_X11_21 (mm_dec dk_X11_way 11 rfl) rfl rfl (mm_ref i0 rfl) ?_
  refine mm_iload C (mm_dec dk_X11_way 12 rfl) rfl ?_
  refine mm_iload C (mm_dec dk_X11_way 13 rfl) rfl ?_
  refine mm_cVi (rest := []) C1 ev_X11_172 (mm_dec dk_X11_way 14 rfl) (c_X10_keepLeast x.2.1 hl (d - 1) (by omega) h i0 ((p2 * 20) + p1) ((p4 * 20) + p3) ⟨by omega, by omega⟩ ⟨by omega, by omega⟩) rfl rfl (Nat.le_of_ble_eq_true rfl) ⟨by decide, by decide⟩ rfl (fun r25 h25c hp25 => ?_) (fun _ _ q => q.elim)
  obtain ⟨b25, i25c, g25c⟩ := hp25
  have f25c : mm_fr [(7, 7), (7, 8), (7, 9)] [8, 9, 10, 11, 13] h h25c := mm_fr_tr f0 g25c (by decide +kernel)
  have q25c_6 : h25c.1 1 5 = h.1 1 5 := g25c.1 1 5 (by decide)
  have q25c_7 : h25c.1 1 6 = h.1 1 6 := g25c.1 1 6 (by decide)
  exact mm_iret C T (mm_dec dk_X11_way 15 rfl) (by decide : 2 ≤ 2) (by decide : 12 ≤ 12) ⟨_, rfl, ⟨⟨by omega, by omega⟩, i25c, f25c⟩⟩
set_option maxRecDepth 100000 in
set_option maxHeartbeats 4000000 in
theorem c_X11_fillStops (l : Launch) (hl : l.stackTraces = false) (d : Nat) (hd : 2 ≤ d) (h : mH) (i0 : mm_inv h) (p1 : Int) (bp1 : 0 ≤ p1 ∧ p1 ≤ 39) : mm_Met l d yX11_fillStops cX11_fillStops 4 (some .int) [mR 0, mI p1] h (mm_pi fun r h2 => (0 ≤ r ∧ r ≤ 12) ∧ mm_inv h2 ∧ mm_fr [] [61] h h2) mm_nx 0 0 := by
  refine mm_ofW (ls := [mR 0, mI p1, mU, mU]) hl (by decide) rfl (Nat.le_of_ble_eq_true rfl) ?_
  intro x hxl C T hnm htb
  subst hxl
  have C1 := mm_OK_le (d' := d - 1 + 1) (by omega) C
  refine mm_rng (fun hr _ => ?_)
  have ap1 : -2147483648 ≤ p1 ∧ p1 < 2147483648 := mm_ok_at hr (i := 1) rfl
  have f0 : mm_fr [] [61] h h := mm_fr_rf
  refine mm_aload_n C (mm_dec dk_X11_fillStops 0 rfl) rfl ?_
  refine mm_getr (t := 22) C fl_X11_37 (mm_dec dk_X11_fillStops 1 rfl) rfl rfl (mm_ref i0 rfl) ?_
  refine mm_iload_n C (mm_dec dk_X11_fillStops 2 rfl) rfl ?_
  refine mm_aload_n C (mm_dec dk_X11_fillStops 3 rfl) rfl ?_
  refine mm_getr (t := 61) C fl_X11_82 (mm_dec dk_X11_fillStops 4 rfl) rfl rfl (mm_ref i0 rfl) ?_
  refine mm_cVi (rest := []) C1 ev_X11_247 (mm_dec dk_X11_fillStops 5 rfl) (c_X9_fillPosts_61 x.2.1 hl (d - 1) (by omega) h i0 p1 ⟨by omega, by omega⟩) rfl rfl (Nat.le_of_ble_eq_true rfl) ⟨by decide, by decide⟩ rfl (fun r9 h9c hp9 => ?_) (fun _ _ q => q.elim)
  obtain ⟨b9, i9c, g9c, y9_0⟩ := hp9
  have f9c : mm_fr [] [61] h h9c := mm_fr_tr f0 g9c (by decide +kernel)
  refine mm_istore_nL (ls2 := [mR 0, mI p1, mI r9, mU]) C (mm_dec dk_X11_fillStops 6 rfl) (by decide) rfl ?_
  refine mm_iconst C (mm_dec dk_X11_fillStops 7 rfl) ⟨by decide, by decide⟩ ?_
  have J15 : ∀ (n : Nat) (x15_3 : Int) (bx15_3 : 0 ≤ x15_3 ∧ x15_3 ≤ 12) (h15_ : mH) (i15_ : mm_inv h15_) (f15_ : mm_fr [] [61] h h15_) (w15_0 : mm_rb h15_ 61 x15_3 r9 0 19), (12 - x15_3 : Int) < n → mm_W x 0 0 15 [mR 0, mU, mI r9, mI x15_3] [] h15_ := by
    intro n
    induction n with
    | zero =>
      intro x15_3 bx15_3 h15_ i15_ f15_ w15_0 hm
      exfalso; omega
    | succ n ih15 =>
      intro x15_3 bx15_3 h15_ i15_ f15_ w15_0 hm15
      refine mm_iload_n C (mm_dec dk_X11_fillStops 9 rfl) rfl ?_
      refine mm_iload_n C (mm_dec dk_X11_fillStops 10 rfl) rfl ?_
      refine mm_icmp_ge (tgt := 45) C (mm_dec dk_X11_fillStops 11 rfl) (by decide) (fun c17 => ?_) (fun c17 => ?_)
      · skip
        refine mm_iload_n C (mm_dec dk_X11_fillStops 25 rfl) rfl ?_
        exact mm_iret C T (mm_dec dk_X11_fillStops 26 rfl) (by decide : 0 ≤ 0) (by decide : 0 ≤ 0) ⟨_, rfl, ⟨⟨by omega, by omega⟩, i15_, f15_⟩⟩
      · skip
        refine mm_aload_n C (mm_dec dk_X11_fillStops 12 rfl) rfl ?_
        refine mm_getr (t := 61) C fl_X11_82 (mm_dec dk_X11_fillStops 13 rfl) rfl rfl (mm_ref i15_ rfl) ?_
        refine mm_iload_n C (mm_dec dk_X11_fillStops 14 rfl) rfl ?_
        refine mm_aload_n C (mm_dec dk_X11_fillStops 15 rfl) rfl ?_
        refine mm_getr (t := 14) C fl_X11_28 (mm_dec dk_X11_fillStops 16 rfl) rfl rfl (mm_ref i15_ rfl) ?_
        refine mm_aload_n C (mm_dec dk_X11_fillStops 17 rfl) rfl ?_
        refine mm_getr (t := 61) C fl_X11_82 (mm_dec dk_X11_fillStops 18 rfl) rfl rfl (mm_ref i15_ rfl) ?_
        refine mm_iload_n C (mm_dec dk_X11_fillStops 19 rfl) rfl ?_
        refine mm_iald C (mm_dec dk_X11_fillStops 20 rfl) rfl (by omega) (by omega) ?_
        have g2 : 0 ≤ (h15_.2.1 61 x15_3) ∧ (h15_.2.1 61 x15_3) ≤ 399 := i15_.2.1 61 x15_3
        have zz := w15_0 x15_3 (by omega) (by omega)
        refine mm_cVi (rest := [mI x15_3, mR 61]) C1 ev_X11_392 (mm_dec dk_X11_fillStops 21 rfl) (c_X2_cellOf x.2.1 hl (d - 1) (by omega) h15_ i15_ (h15_.2.1 61 x15_3) ⟨by omega, by omega⟩) rfl rfl (Nat.le_of_ble_eq_true rfl) ⟨by decide, by decide⟩ rfl (fun r35 h35c hp35 => ?_) (fun _ _ q => q.elim)
        obtain ⟨z35, y35⟩ := hp35
        rw [z35, y35]
        have g4 : 0 ≤ (h15_.2.1 15 (h15_.2.1 61 x15_3)) ∧ (h15_.2.1 15 (h15_.2.1 61 x15_3)) ≤ 399 := i15_.2.1 15 (h15_.2.1 61 x15_3)
        refine mm_iast C (mm_dec dk_X11_fillStops 22 rfl) rfl (by omega) (by omega) ?_
        have i2 : mm_inv (mm_pa h15_ 61 x15_3 (h15_.2.1 15 (h15_.2.1 61 x15_3))) := mm_inv_pa i15_ (show 0 ≤ (h15_.2.1 15 (h15_.2.1 61 x15_3)) ∧ (h15_.2.1 15 (h15_.2.1 61 x15_3)) ≤ 399 from ⟨by omega, by omega⟩)
        have f2 : mm_fr [] [61] h (mm_pa h15_ 61 x15_3 (h15_.2.1 15 (h15_.2.1 61 x15_3))) := mm_fr_pa f15_ (by decide)
        obtain ⟨h2, eh2⟩ : ∃ z, z = mm_pa h15_ 61 x15_3 (h15_.2.1 15 (h15_.2.1 61 x15_3)) := ⟨_, rfl⟩
        rw [← eh2] at i2 f2 ⊢
        refine mm_iincL (ls2 := [mR 0, mU, mI r9, mI (x15_3 + 1)]) C (mm_dec dk_X11_fillStops 23 rfl) rfl (by decide) ⟨by omega, by omega⟩ rfl ?_
        refine mm_goto (tgt := 15) C (mm_dec dk_X11_fillStops 24 rfl) (by decide) ?_
        exact ih15 (x15_3 + 1) ⟨by omega, by omega⟩ h2 i2 f2 (by first | exact y9_0 | (rw [eh2]; exact mm_rb_rest w15_0)) (by omega)
  refine mm_istore_nL (ls2 := [mR 0, mI p1, mI r9, mI 0]) C (mm_dec dk_X11_fillStops 8 rfl) (by decide) rfl ?_
  refine mm_fgt 1 ?_
  exact J15 (((12 - 0) : Int) + 1).toNat 0 ⟨by omega, by omega⟩ h9c i9c f9c (by first | exact y9_0 | (rw [eh9c]; exact mm_rb_rest w15_0)) (by omega)
set_option maxRecDepth 100000 in
set_option maxHeartbeats 4000000 in
theorem c_X11_lengthOf (l : Launch) (hl : l.stackTraces = false) (d : Nat) (hd : 5 ≤ d) (h : mH) (i0 : mm_inv h) (p1 : Int) (bp1 : 0 ≤ p1 ∧ p1 ≤ 39) : mm_Met l d yX11_lengthOf cX11_lengthOf 3 (some .int) [mR 0, mI p1] h (mm_pi fun r h2 => (-2147483648 ≤ r ∧ r ≤ 2147483647) ∧ mm_inv h2 ∧ mm_fr [(7, 7), (7, 8)] [8, 9, 10, 11, 61] h h2) mm_nx 0 0 := by
  refine mm_ofW (ls := [mR 0, mI p1, mU]) hl (by decide) rfl (Nat.le_of_ble_eq_true rfl) ?_
  intro x hxl C T hnm htb
  subst hxl
  have C1 := mm_OK_le (d' := d - 1 + 1) (by omega) C
  refine mm_rng (fun hr _ => ?_)
  have ap1 : -2147483648 ≤ p1 ∧ p1 < 2147483648 := mm_ok_at hr (i := 1) rfl
  have f0 : mm_fr [(7, 7), (7, 8)] [8, 9, 10, 11, 61] h h := mm_fr_rf
  refine mm_aload_n C (mm_dec dk_X11_lengthOf 0 rfl) rfl ?_
  refine mm_iload_n C (mm_dec dk_X11_lengthOf 1 rfl) rfl ?_
  refine mm_cVi (rest := []) C1 ev_X11_371 (mm_dec dk_X11_lengthOf 2 rfl) (c_X11_fillStops x.2.1 hl (d - 1) (by omega) h i0 p1 ⟨by omega, by omega⟩) rfl rfl (Nat.le_of_ble_eq_true rfl) ⟨by decide, by decide⟩ rfl (fun r2 h2c hp2 => ?_) (fun _ _ q => q.elim)
  obtain ⟨b2, i2c, g2c⟩ := hp2
  have f2c : mm_fr [(7, 7), (7, 8)] [8, 9, 10, 11, 61] h h2c := mm_fr_tr f0 g2c (by decide +kernel)
  refine mm_istore_nL (ls2 := [mR 0, mI p1, mI r2]) C (mm_dec dk_X11_lengthOf 3 rfl) (by decide) rfl ?_
  refine mm_aload_n C (mm_dec dk_X11_lengthOf 4 rfl) rfl ?_
  refine mm_getr (t := 7) C fl_X11_21 (mm_dec dk_X11_lengthOf 5 rfl) rfl rfl (mm_ref i2c rfl) ?_
  refine mm_aload_n C (mm_dec dk_X11_lengthOf 6 rfl) rfl ?_
  refine mm_getr (t := 61) C fl_X11_82 (mm_dec dk_X11_lengthOf 7 rfl) rfl rfl (mm_ref i2c rfl) ?_
  refine mm_iload_n C (mm_dec dk_X11_lengthOf 8 rfl) rfl ?_
  refine mm_cVi (rest := []) C1 ev_X11_398 (mm_dec dk_X11_lengthOf 9 rfl) (c_X10_through_61 x.2.1 hl (d - 1) (by omega) h2c i2c r2 ⟨by omega, by omega⟩) rfl rfl (Nat.le_of_ble_eq_true rfl) ⟨by decide, by decide⟩ rfl (fun r15 h15c hp15 => ?_) (fun _ _ q => q.elim)
  obtain ⟨b15, i15c, g15c⟩ := hp15
  have f15c : mm_fr [(7, 7), (7, 8)] [8, 9, 10, 11, 61] h h15c := mm_fr_tr f2c g15c (by decide +kernel)
  exact mm_iret C T (mm_dec dk_X11_lengthOf 10 rfl) (by decide : 0 ≤ 0) (by decide : 0 ≤ 0) ⟨_, rfl, ⟨⟨by omega, by omega⟩, i15c, f15c⟩⟩
set_option maxRecDepth 100000 in
set_option maxHeartbeats 4000000 in
theorem c_X11_row (l : Launch) (hl : l.stackTraces = false) (d : Nat) (hd : 9 ≤ d) (h : mH) (i0 : mm_inv h) (p1 : Int) (p2 : Int) : mm_Met l d yX11_row cX11_row 3 (some .int) [mR 0, mI p1, mI p2] h (mm_pi fun r h2 => (-2147483648 ≤ r ∧ r ≤ 2147483647) ∧ mm_inv h2 ∧ mm_fr [(7, 7), (7, 8)] [8, 9, 10, 11, 61] h h2) (mm_xp h) 2 12 := by
  refine mm_ofW (ls := [mR 0, mI p1, mI p2]) hl (by decide) rfl (Nat.le_of_ble_eq_true rfl) ?_
  intro x hxl C T hnm htb
  subst hxl
  have C1 := mm_OK_le (d' := d - 1 + 1) (by omega) C
  have C8 := mm_OK_le (d' := d - 8 + 8) (by omega) C
  refine mm_rng (fun hr _ => ?_)
  have ap1 : -2147483648 ≤ p1 ∧ p1 < 2147483648 := mm_ok_at hr (i := 1) rfl
  have ap2 : -2147483648 ≤ p2 ∧ p2 < 2147483648 := mm_ok_at hr (i := 2) rfl
  have f0 : mm_fr [(7, 7), (7, 8)] [8, 9, 10, 11, 61] h h := mm_fr_rf
  refine mm_aload_n C (mm_dec dk_X11_row 0 rfl) rfl ?_
  refine mm_iload_n C (mm_dec dk_X11_row 1 rfl) rfl ?_
  refine mm_cVv (rest := []) C1 ev_X11_235 (mm_dec dk_X11_row 2 rfl) (c_X11_needRunner x.2.1 hl (d - 1) (by omega) h i0 p1) rfl rfl (Nat.le_of_ble_eq_true rfl) ⟨by decide, by decide⟩ rfl (fun h2c hp2 => ?_) (fun E hx q => mm_out C T htb (by decide) (by decide) (by rcases q with ⟨q1, q2⟩ | ⟨q1, q2⟩ <;> first | exact Or.inl ⟨q1, q2⟩ | exact Or.inr ⟨q1, q2⟩))
  obtain ⟨z2, k2_0, k2_1⟩ := hp2
  rw [z2]
  have g2 : 0 ≤ (h.1 22 8) ∧ (h.1 22 8) ≤ 40 := i0.1 22 8
  refine mm_iload_n C (mm_dec dk_X11_row 3 rfl) rfl ?_
  refine mm_iconst C (mm_dec dk_X11_row 4 rfl) ⟨by decide, by decide⟩ ?_
  refine mm_icmp_ne (tgt := 19) C (mm_dec dk_X11_row 5 rfl) (by decide) (fun c7 => ?_) (fun c7 => ?_)
  · skip
    refine mm_iload_n C (mm_dec dk_X11_row 11 rfl) rfl ?_
    refine mm_bipush C (mm_dec dk_X11_row 12 rfl) ⟨by decide, by decide⟩ ?_
    refine mm_icmp_ne (tgt := 31) C (mm_dec dk_X11_row 13 rfl) (by decide) (fun c22 => ?_) (fun c22 => ?_)
    · skip
      refine mm_aload_n C (mm_dec dk_X11_row 18 rfl) rfl ?_
      refine mm_iload_n C (mm_dec dk_X11_row 19 rfl) rfl ?_
      refine mm_iload_n C (mm_dec dk_X11_row 20 rfl) rfl ?_
      refine mm_cVv (rest := []) C1 ev_X11_244 (mm_dec dk_X11_row 21 rfl) (c_X11_needPlace x.2.1 hl (d - 1) (by omega) h i0 p1 p2 ⟨by omega, by omega⟩) rfl rfl (Nat.le_of_ble_eq_true rfl) ⟨by decide, by decide⟩ rfl (fun h34c hp34 => ?_) (fun E hx q => mm_out C T htb (by decide) (by decide) (by rcases q with ⟨q1, q2⟩ | ⟨q1, q2⟩ <;> first | exact Or.inl ⟨q1, q2⟩ | exact Or.inr ⟨q1, q2⟩))
      obtain ⟨z34, k34_0, k34_1⟩ := hp34
      rw [z34]
      have g4 : 0 ≤ (h.2.1 19 (h.2.1 23 p1)) ∧ (h.2.1 19 (h.2.1 23 p1)) ≤ 12 := i0.2.1 19 (h.2.1 23 p1)
      have g5 : 0 ≤ (h.2.1 23 p1) ∧ (h.2.1 23 p1) ≤ 7 := i0.2.1 23 p1
      refine mm_aload_n C (mm_dec dk_X11_row 22 rfl) rfl ?_
      refine mm_getr (t := 22) C fl_X11_37 (mm_dec dk_X11_row 23 rfl) rfl rfl (mm_ref i0 rfl) ?_
      refine mm_iload_n C (mm_dec dk_X11_row 24 rfl) rfl ?_
      refine mm_aload_n C (mm_dec dk_X11_row 25 rfl) rfl ?_
      refine mm_getr (t := 61) C fl_X11_82 (mm_dec dk_X11_row 26 rfl) rfl rfl (mm_ref i0 rfl) ?_
      refine mm_cVi (rest := []) C1 ev_X11_247 (mm_dec dk_X11_row 27 rfl) (c_X9_fillPosts_61 x.2.1 hl (d - 1) (by omega) h i0 p1 ⟨by omega, by omega⟩) rfl rfl (Nat.le_of_ble_eq_true rfl) ⟨by decide, by decide⟩ rfl (fun r46 h46c hp46 => ?_) (fun _ _ q => q.elim)
      obtain ⟨b46, i46c, g46c, y46_0⟩ := hp46
      have f46c : mm_fr [(7, 7), (7, 8)] [8, 9, 10, 11, 61] h h46c := mm_fr_tr f0 g46c (by decide +kernel)
      have q46c_7 : h46c.1 22 8 = h.1 22 8 := g46c.1 22 8 (by decide)
      refine mm_pop C (mm_dec dk_X11_row 28 rfl) (show (0 : Nat) ≠ 1 by decide) ?_
      refine mm_aload_n C (mm_dec dk_X11_row 29 rfl) rfl ?_
      refine mm_getr (t := 61) C fl_X11_82 (mm_dec dk_X11_row 30 rfl) rfl rfl (mm_ref i46c rfl) ?_
      refine mm_iload_n C (mm_dec dk_X11_row 31 rfl) rfl ?_
      refine mm_iald C (mm_dec dk_X11_row 32 rfl) rfl (by omega) (by omega) ?_
      have g8 : 0 ≤ (h46c.2.1 61 p2) ∧ (h46c.2.1 61 p2) ≤ 399 := i46c.2.1 61 p2
      exact mm_iret C T (mm_dec dk_X11_row 33 rfl) (by decide : 2 ≤ 2) (by decide : 12 ≤ 12) ⟨_, rfl, ⟨⟨by omega, by omega⟩, i46c, f46c⟩⟩
    · skip
      refine mm_aload_n C (mm_dec dk_X11_row 14 rfl) rfl ?_
      refine mm_iload_n C (mm_dec dk_X11_row 15 rfl) rfl ?_
      refine mm_cVi (rest := []) C1 ev_X11_241 (mm_dec dk_X11_row 16 rfl) (c_X11_lengthOf x.2.1 hl (d - 1) (by omega) h i0 p1 ⟨by omega, by omega⟩) rfl rfl (Nat.le_of_ble_eq_true rfl) ⟨by decide, by decide⟩ rfl (fun r27 h27c hp27 => ?_) (fun _ _ q => q.elim)
      obtain ⟨b27, i27c, g27c⟩ := hp27
      have f27c : mm_fr [(7, 7), (7, 8)] [8, 9, 10, 11, 61] h h27c := mm_fr_tr f0 g27c (by decide +kernel)
      have q27c_10 : h27c.1 22 8 = h.1 22 8 := g27c.1 22 8 (by decide)
      exact mm_iret C T (mm_dec dk_X11_row 17 rfl) (by decide : 1 ≤ 2) (by decide : 6 ≤ 12) ⟨_, rfl, ⟨⟨by omega, by omega⟩, i27c, f27c⟩⟩
  · skip
    refine mm_aload_n C (mm_dec dk_X11_row 6 rfl) rfl ?_
    refine mm_getr (t := 22) C fl_X11_37 (mm_dec dk_X11_row 7 rfl) rfl rfl (mm_ref i0 rfl) ?_
    refine mm_iload_n C (mm_dec dk_X11_row 8 rfl) rfl ?_
    refine mm_cVi (rest := []) C1 ev_X11_238 (mm_dec dk_X11_row 9 rfl) (c_X9_rowSize x.2.1 hl (d - 1) (by omega) h i0 p1 ⟨by omega, by omega⟩) rfl rfl (Nat.le_of_ble_eq_true rfl) ⟨by decide, by decide⟩ rfl (fun r15 h15c hp15 => ?_) (fun _ _ q => q.elim)
    obtain ⟨z15, y15⟩ := hp15
    rw [z15, y15]
    have g12 : 0 ≤ (h.2.1 19 (h.2.1 23 p1)) ∧ (h.2.1 19 (h.2.1 23 p1)) ≤ 12 := i0.2.1 19 (h.2.1 23 p1)
    have g13 : 0 ≤ (h.2.1 23 p1) ∧ (h.2.1 23 p1) ≤ 7 := i0.2.1 23 p1
    exact mm_iret C T (mm_dec dk_X11_row 10 rfl) (by decide : 1 ≤ 2) (by decide : 6 ≤ 12) ⟨_, rfl, ⟨⟨by omega, by omega⟩, i0, f0⟩⟩
set_option maxRecDepth 100000 in
set_option maxHeartbeats 4000000 in
theorem c_X11_lost (l : Launch) (hl : l.stackTraces = false) (d : Nat) (hd : 9 ≤ d) (h : mH) (i0 : mm_inv h) (p1 : Int) : mm_Met l d yX11_lost cX11_lost 4 (some .int) [mR 0, mI p1] h (mm_pi fun r h2 => (-2147483648 ≤ r ∧ r ≤ 2147483647) ∧ mm_inv h2 ∧ mm_fr [(7, 7), (7, 8)] [8, 9, 10, 11, 61] h h2) (mm_xp h) 1 6 := by
  refine mm_ofW (ls := [mR 0, mI p1, mU, mU]) hl (by decide) rfl (Nat.le_of_ble_eq_true rfl) ?_
  intro x hxl C T hnm htb
  subst hxl
  have C1 := mm_OK_le (d' := d - 1 + 1) (by omega) C
  have C8 := mm_OK_le (d' := d - 8 + 8) (by omega) C
  refine mm_rng (fun hr _ => ?_)
  have ap1 : -2147483648 ≤ p1 ∧ p1 < 2147483648 := mm_ok_at hr (i := 1) rfl
  have f0 : mm_fr [(7, 7), (7, 8)] [8, 9, 10, 11, 61] h h := mm_fr_rf
  refine mm_aload_n C (mm_dec dk_X11_lost 0 rfl) rfl ?_
  refine mm_iload_n C (mm_dec dk_X11_lost 1 rfl) rfl ?_
  refine mm_cVv (rest := []) C1 ev_X11_235 (mm_dec dk_X11_lost 2 rfl) (c_X11_needRunner x.2.1 hl (d - 1) (by omega) h i0 p1) rfl rfl (Nat.le_of_ble_eq_true rfl) ⟨by decide, by decide⟩ rfl (fun h2c hp2 => ?_) (fun E hx q => mm_out C T htb (by decide) (by decide) (by rcases q with ⟨q1, q2⟩ | ⟨q1, q2⟩ <;> first | exact Or.inl ⟨q1, q2⟩ | exact Or.inr ⟨q1, q2⟩))
  obtain ⟨z2, k2_0, k2_1⟩ := hp2
  rw [z2]
  have g2 : 0 ≤ (h.1 22 8) ∧ (h.1 22 8) ≤ 40 := i0.1 22 8
  refine mm_aload_n C (mm_dec dk_X11_lost 3 rfl) rfl ?_
  refine mm_getr (t := 22) C fl_X11_37 (mm_dec dk_X11_lost 4 rfl) rfl rfl (mm_ref i0 rfl) ?_
  refine mm_iload_n C (mm_dec dk_X11_lost 5 rfl) rfl ?_
  refine mm_cVi (rest := []) C1 ev_X11_387 (mm_dec dk_X11_lost 6 rfl) (c_X9_trackSeconds x.2.1 hl (d - 1) (by omega) h i0 p1 ⟨by omega, by omega⟩) rfl rfl (Nat.le_of_ble_eq_true rfl) ⟨by decide, by decide⟩ rfl (fun r10 h10c hp10 => ?_) (fun _ _ q => q.elim)
  obtain ⟨z10, y10⟩ := hp10
  rw [z10, y10]
  have g4 : -2147483648 ≤ (h.2.1 26 p1) ∧ (h.2.1 26 p1) ≤ 2147483647 := i0.2.1 26 p1
  refine mm_istore_nL (ls2 := [mR 0, mI p1, mI (h.2.1 26 p1), mU]) C (mm_dec dk_X11_lost 7 rfl) (by decide) rfl ?_
  refine mm_iload_n C (mm_dec dk_X11_lost 8 rfl) rfl ?_
  refine mm_iconst C (mm_dec dk_X11_lost 9 rfl) ⟨by decide, by decide⟩ ?_
  refine mm_icmp_ne (tgt := 23) C (mm_dec dk_X11_lost 10 rfl) (by decide) (fun c16 => ?_) (fun c16 => ?_)
  · skip
    refine mm_aload_n C (mm_dec dk_X11_lost 13 rfl) rfl ?_
    refine mm_iload_n C (mm_dec dk_X11_lost 14 rfl) rfl ?_
    refine mm_cVi (rest := []) C1 ev_X11_241 (mm_dec dk_X11_lost 15 rfl) (c_X11_lengthOf x.2.1 hl (d - 1) (by omega) h i0 p1 ⟨by omega, by omega⟩) rfl rfl (Nat.le_of_ble_eq_true rfl) ⟨by decide, by decide⟩ rfl (fun r25 h25c hp25 => ?_) (fun _ _ q => q.elim)
    obtain ⟨b25, i25c, g25c⟩ := hp25
    have f25c : mm_fr [(7, 7), (7, 8)] [8, 9, 10, 11, 61] h h25c := mm_fr_tr f0 g25c (by decide +kernel)
    have q25c_6 : h25c.1 22 8 = h.1 22 8 := g25c.1 22 8 (by decide)
    refine mm_istore_nL (ls2 := [mR 0, mI p1, mI (h.2.1 26 p1), mI r25]) C (mm_dec dk_X11_lost 16 rfl) (by decide) rfl ?_
    refine mm_iload_n C (mm_dec dk_X11_lost 17 rfl) rfl ?_
    refine mm_iconst C (mm_dec dk_X11_lost 18 rfl) ⟨by decide, by decide⟩ ?_
    have J43 : ∀ (s43_0 : Int) (bs43_0 : -2147483648 ≤ s43_0 ∧ s43_0 ≤ 2147483647), mm_W x 1 6 43 [mU, mU, mU, mU] [mI s43_0] h25c := by
      intro s43_0 bs43_0
      exact mm_iret C T (mm_dec dk_X11_lost 25 rfl) (by decide : 1 ≤ 1) (by decide : 6 ≤ 6) ⟨_, rfl, ⟨⟨by omega, by omega⟩, i25c, f25c⟩⟩
    refine mm_icmp_ne (tgt := 40) C (mm_dec dk_X11_lost 19 rfl) (by decide) (fun c31 => ?_) (fun c31 => ?_)
    · skip
      refine mm_iload_n C (mm_dec dk_X11_lost 22 rfl) rfl ?_
      refine mm_iload_n C (mm_dec dk_X11_lost 23 rfl) rfl ?_
      refine mm_isubw C (mm_dec dk_X11_lost 24 rfl) ?_
      have g7 : -2147483648 ≤ (mm_w ((h.2.1 26 p1) - r25)) ∧ (mm_w ((h.2.1 26 p1) - r25)) < 2147483648 := mm_w_rg _
      refine mm_fgt 0 ?_
      refine mm_fgt 1 ?_
      refine mm_fgt 2 ?_
      refine mm_fgt 3 ?_
      exact J43 (mm_w ((h.2.1 26 p1) - r25)) ⟨by omega, by omega⟩
    · skip
      refine mm_ldcw (z := -100000) C (mm_dec dk_X11_lost 20 rfl) kc_X11_308 (by decide) ?_
      refine mm_goto (tgt := 43) C (mm_dec dk_X11_lost 21 rfl) (by decide) ?_
      refine mm_fgt 0 ?_
      refine mm_fgt 1 ?_
      refine mm_fgt 2 ?_
      refine mm_fgt 3 ?_
      exact J43 (-100000) ⟨by omega, by omega⟩
  · skip
    refine mm_ldcw (z := -100000) C (mm_dec dk_X11_lost 11 rfl) kc_X11_308 (by decide) ?_
    exact mm_iret C T (mm_dec dk_X11_lost 12 rfl) (by decide : 1 ≤ 1) (by decide : 6 ≤ 6) ⟨_, rfl, ⟨⟨by omega, by omega⟩, i0, f0⟩⟩
set_option maxRecDepth 100000 in
set_option maxHeartbeats 4000000 in
theorem c_X11_track (l : Launch) (hl : l.stackTraces = false) (d : Nat) (hd : 9 ≤ d) (h : mH) (i0 : mm_inv h) (p1 : Int) (p2 : Int) : mm_Met l d yX11_track cX11_track 5 (some .int) [mR 0, mI p1, mI p2] h (mm_pi fun r h2 => (-2147483648 ≤ r ∧ r ≤ 2147483647) ∧ mm_inv h2 ∧ mm_fr [(0, 12), (0, 14), (7, 10), (7, 11)] [26, 61] h h2) (mm_xp h) 2 12 := by
  refine mm_ofW (ls := [mR 0, mI p1, mI p2, mU, mU]) hl (by decide) rfl (Nat.le_of_ble_eq_true rfl) ?_
  intro x hxl C T hnm htb
  subst hxl
  have C1 := mm_OK_le (d' := d - 1 + 1) (by omega) C
  have C8 := mm_OK_le (d' := d - 8 + 8) (by omega) C
  refine mm_rng (fun hr _ => ?_)
  have ap1 : -2147483648 ≤ p1 ∧ p1 < 2147483648 := mm_ok_at hr (i := 1) rfl
  have ap2 : -2147483648 ≤ p2 ∧ p2 < 2147483648 := mm_ok_at hr (i := 2) rfl
  have f0 : mm_fr [(0, 12), (0, 14), (7, 10), (7, 11)] [26, 61] h h := mm_fr_rf
  refine mm_aload_n C (mm_dec dk_X11_track 0 rfl) rfl ?_
  refine mm_iload_n C (mm_dec dk_X11_track 1 rfl) rfl ?_
  refine mm_cVv (rest := []) C1 ev_X11_235 (mm_dec dk_X11_track 2 rfl) (c_X11_needRunner x.2.1 hl (d - 1) (by omega) h i0 p1) rfl rfl (Nat.le_of_ble_eq_true rfl) ⟨by decide, by decide⟩ rfl (fun h2c hp2 => ?_) (fun E hx q => mm_out C T htb (by decide) (by decide) (by rcases q with ⟨q1, q2⟩ | ⟨q1, q2⟩ <;> first | exact Or.inl ⟨q1, q2⟩ | exact Or.inr ⟨q1, q2⟩))
  obtain ⟨z2, k2_0, k2_1⟩ := hp2
  rw [z2]
  have g2 : 0 ≤ (h.1 22 8) ∧ (h.1 22 8) ≤ 40 := i0.1 22 8
  refine mm_aload_n C (mm_dec dk_X11_track 3 rfl) rfl ?_
  refine mm_iload_n C (mm_dec dk_X11_track 4 rfl) rfl ?_
  refine mm_cVv (rest := []) C1 ev_X11_312 (mm_dec dk_X11_track 5 rfl) (c_X11_needBytes x.2.1 hl (d - 1) (by omega) h i0 p2) rfl rfl (Nat.le_of_ble_eq_true rfl) ⟨by decide, by decide⟩ rfl (fun h7c hp7 => ?_) (fun E hx q => mm_out C T htb (by decide) (by decide) (by rcases q with ⟨q1, q2⟩ | ⟨q1, q2⟩ <;> first | exact Or.inl ⟨q1, q2⟩ | exact Or.inr ⟨q1, q2⟩))
  obtain ⟨z7, k7_0, k7_1⟩ := hp7
  rw [z7]
  have g4 : 0 ≤ (h.1 0 12) ∧ (h.1 0 12) ≤ 500 := i0.1 0 12
  refine mm_aload_n C (mm_dec dk_X11_track 6 rfl) rfl ?_
  refine mm_iload_n C (mm_dec dk_X11_track 7 rfl) rfl ?_
  refine mm_cVi (rest := []) C1 ev_X11_371 (mm_dec dk_X11_track 8 rfl) (c_X11_fillStops x.2.1 hl (d - 1) (by omega) h i0 p1 ⟨by omega, by omega⟩) rfl rfl (Nat.le_of_ble_eq_true rfl) ⟨by decide, by decide⟩ rfl (fun r12 h12c hp12 => ?_) (fun _ _ q => q.elim)
  obtain ⟨b12, i12c, g12c⟩ := hp12
  have f12c : mm_fr [(0, 12), (0, 14), (7, 10), (7, 11)] [26, 61] h h12c := mm_fr_tr f0 g12c (by decide +kernel)
  have q12c_6 : h12c.1 0 12 = h.1 0 12 := g12c.1 0 12 (by decide)
  have q12c_7 : h12c.1 22 8 = h.1 22 8 := g12c.1 22 8 (by decide)
  refine mm_istore_nL (ls2 := [mR 0, mI p1, mI p2, mI r12, mU]) C (mm_dec dk_X11_track 9 rfl) (by decide) rfl ?_
  refine mm_aload_n C (mm_dec dk_X11_track 10 rfl) rfl ?_
  refine mm_getr (t := 7) C fl_X11_21 (mm_dec dk_X11_track 11 rfl) rfl rfl (mm_ref i12c rfl) ?_
  refine mm_aload_n C (mm_dec dk_X11_track 12 rfl) rfl ?_
  refine mm_getr (t := 62) C fl_X11_86 (mm_dec dk_X11_track 13 rfl) rfl rfl (mm_ref i12c rfl) ?_
  refine mm_iload_n C (mm_dec dk_X11_track 14 rfl) rfl ?_
  refine mm_aload_n C (mm_dec dk_X11_track 15 rfl) rfl ?_
  refine mm_getr (t := 61) C fl_X11_82 (mm_dec dk_X11_track 16 rfl) rfl rfl (mm_ref i12c rfl) ?_
  refine mm_iload_n C (mm_dec dk_X11_track 17 rfl) rfl ?_
  refine mm_cVi (rest := []) C1 ev_X11_374 (mm_dec dk_X11_track 18 rfl) (c_X10_walk_62_61 x.2.1 hl (d - 1) (by omega) h12c i12c p2 r12 ⟨by omega, by omega⟩ ⟨by omega, by omega⟩) rfl rfl (Nat.le_of_ble_eq_true rfl) ⟨by decide, by decide⟩ rfl (fun r30 h30c hp30 => ?_) (fun _ _ q => q.elim)
  obtain ⟨b30, i30c, g30c⟩ := hp30
  have f30c : mm_fr [(0, 12), (0, 14), (7, 10), (7, 11)] [26, 61] h h30c := mm_fr_tr f12c g30c (by decide +kernel)
  have q30c_9 : h30c.1 0 12 = h12c.1 0 12 := g30c.1 0 12 (by decide)
  have q30c_10 : h30c.1 22 8 = h12c.1 22 8 := g30c.1 22 8 (by decide)
  refine mm_istoreL (ls2 := [mR 0, mI p1, mI p2, mI r12, mI r30]) C (mm_dec dk_X11_track 19 rfl) (by decide) rfl ?_
  refine mm_aload_n C (mm_dec dk_X11_track 20 rfl) rfl ?_
  refine mm_iconst C (mm_dec dk_X11_track 21 rfl) ⟨by decide, by decide⟩ ?_
  refine mm_puti C fl_X11_98 (mm_dec dk_X11_track 22 rfl) rfl rfl rfl (Or.inl ⟨rfl, rfl⟩) ?_
  have i3 : mm_inv (mm_pf h30c 0 12 0) := mm_inv_pf i30c (show 0 ≤ 0 ∧ 0 ≤ 500 from ⟨by omega, by omega⟩) (by decide)
  have f3 : mm_fr [(0, 12), (0, 14), (7, 10), (7, 11)] [26, 61] h (mm_pf h30c 0 12 0) := mm_fr_pf f30c (by decide)
  obtain ⟨h3, eh3⟩ : ∃ z, z = mm_pf h30c 0 12 0 := ⟨_, rfl⟩
  rw [← eh3] at i3 f3 ⊢
  have qh3 : h3.1 0 12 = 0 := by rw [eh3]; exact mm_pf_same _ _ _ _
  have qh3_11 : h3.1 22 8 = h30c.1 22 8 := by rw [eh3]; exact mm_pf_ne _ _ (by decide)
  refine mm_aload_n C (mm_dec dk_X11_track 23 rfl) rfl ?_
  refine mm_aload_n C (mm_dec dk_X11_track 24 rfl) rfl ?_
  refine mm_getr (t := 7) C fl_X11_21 (mm_dec dk_X11_track 25 rfl) rfl rfl (mm_ref i3 rfl) ?_
  refine mm_cVi (rest := [mR 0]) C1 ev_X11_378 (mm_dec dk_X11_track 26 rfl) (c_X10_walkFaultAt x.2.1 hl (d - 1) (by omega) h3 i3 ) rfl rfl (Nat.le_of_ble_eq_true rfl) ⟨by decide, by decide⟩ rfl (fun r45 h45c hp45 => ?_) (fun _ _ q => q.elim)
  obtain ⟨z45, y45⟩ := hp45
  rw [z45, y45]
  have g13 : -2147483648 ≤ (h3.1 7 10) ∧ (h3.1 7 10) ≤ 2147483647 := i3.1 7 10
  refine mm_puti C fl_X11_105 (mm_dec dk_X11_track 27 rfl) rfl rfl rfl (Or.inl ⟨rfl, rfl⟩) ?_
  have i4 : mm_inv (mm_pf h3 0 14 (h3.1 7 10)) := mm_inv_pf i3 (show -2147483648 ≤ (h3.1 7 10) ∧ (h3.1 7 10) ≤ 2147483647 from ⟨by omega, by omega⟩) (by decide)
  have f4 : mm_fr [(0, 12), (0, 14), (7, 10), (7, 11)] [26, 61] h (mm_pf h3 0 14 (h3.1 7 10)) := mm_fr_pf f3 (by decide)
  obtain ⟨h4, eh4⟩ : ∃ z, z = mm_pf h3 0 14 (h3.1 7 10) := ⟨_, rfl⟩
  rw [← eh4] at i4 f4 ⊢
  have qh4 : h4.1 0 14 = (h3.1 7 10) := by rw [eh4]; exact mm_pf_same _ _ _ _
  have qh4_14 : h4.1 0 12 = h3.1 0 12 := by rw [eh4]; exact mm_pf_ne _ _ (by decide)
  have qh4_15 : h4.1 7 10 = h3.1 7 10 := by rw [eh4]; exact mm_pf_ne _ _ (by decide)
  have qh4_16 : h4.1 22 8 = h3.1 22 8 := by rw [eh4]; exact mm_pf_ne _ _ (by decide)
  refine mm_aload_n C (mm_dec dk_X11_track 28 rfl) rfl ?_
  refine mm_geti C fl_X11_105 (mm_dec dk_X11_track 29 rfl) rfl rfl (Or.inl rfl) ?_
  refine mm_iconst C (mm_dec dk_X11_track 30 rfl) ⟨by decide, by decide⟩ ?_
  have J83 : ∀ (h83_ : mH) (i83_ : mm_inv h83_) (f83_ : mm_fr [(0, 12), (0, 14), (7, 10), (7, 11)] [26, 61] h h83_), mm_W x 2 12 83 [mU, mU, mU, mU, mI r30] [] h83_ := by
    intro h83_ i83_ f83_
    refine mm_iload C (mm_dec dk_X11_track 43 rfl) rfl ?_
    exact mm_iret C T (mm_dec dk_X11_track 44 rfl) (by decide : 2 ≤ 2) (by decide : 12 ≤ 12) ⟨_, rfl, ⟨⟨by omega, by omega⟩, i83_, f83_⟩⟩
  refine mm_icmp_ne (tgt := 83) C (mm_dec dk_X11_track 31 rfl) (by decide) (fun c56 => ?_) (fun c56 => ?_)
  · skip
    refine mm_fgt 0 ?_
    refine mm_fgt 1 ?_
    refine mm_fgt 2 ?_
    refine mm_fgt 3 ?_
    exact J83 h4 i4 f4
  · skip
    refine mm_aload_n C (mm_dec dk_X11_track 32 rfl) rfl ?_
    refine mm_getr (t := 22) C fl_X11_37 (mm_dec dk_X11_track 33 rfl) rfl rfl (mm_ref i4 rfl) ?_
    refine mm_iload_n C (mm_dec dk_X11_track 34 rfl) rfl ?_
    refine mm_aload_n C (mm_dec dk_X11_track 35 rfl) rfl ?_
    refine mm_getr (t := 7) C fl_X11_21 (mm_dec dk_X11_track 36 rfl) rfl rfl (mm_ref i4 rfl) ?_
    refine mm_cVi (rest := [mI p1, mR 22]) C1 ev_X11_381 (mm_dec dk_X11_track 37 rfl) (c_X10_walkCameBy x.2.1 hl (d - 1) (by omega) h4 i4 ) rfl rfl (Nat.le_of_ble_eq_true rfl) ⟨by decide, by decide⟩ rfl (fun r68 h68c hp68 => ?_) (fun _ _ q => q.elim)
    obtain ⟨z68, y68⟩ := hp68
    rw [z68, y68]
    have g18 : 0 ≤ (h4.1 7 11) ∧ (h4.1 7 11) ≤ 1 := i4.1 7 11
    have J80 : ∀ (s80_2 : Int) (bs80_2 : -2147483648 ≤ s80_2 ∧ s80_2 ≤ 2147483647), mm_W x 2 12 80 [mU, mU, mU, mU, mI r30] [mI s80_2, mI p1, mR 22] h4 := by
      intro s80_2 bs80_2
      refine mm_cVv (rest := []) C1 ev_X11_384 (mm_dec dk_X11_track 42 rfl) (c_X9_keepTrack x.2.1 hl (d - 1) (by omega) h4 i4 p1 s80_2 ⟨by omega, by omega⟩) rfl rfl (Nat.le_of_ble_eq_true rfl) ⟨by decide, by decide⟩ rfl (fun h80c hp80 => ?_) (fun _ _ q => q.elim)
      obtain ⟨i80c, g80c⟩ := hp80
      have f80c : mm_fr [(0, 12), (0, 14), (7, 10), (7, 11)] [26, 61] h h80c := mm_fr_tr f4 g80c (by decide +kernel)
      have q80c_20 : h80c.1 0 12 = h4.1 0 12 := g80c.1 0 12 (by decide)
      have q80c_21 : h80c.1 0 14 = h4.1 0 14 := g80c.1 0 14 (by decide)
      have q80c_22 : h80c.1 7 10 = h4.1 7 10 := g80c.1 7 10 (by decide)
      have q80c_23 : h80c.1 7 11 = h4.1 7 11 := g80c.1 7 11 (by decide)
      have q80c_24 : h80c.1 22 8 = h4.1 22 8 := g80c.1 22 8 (by decide)
      exact J83 h80c i80c f80c
    refine mm_if_eq (tgt := 79) C (mm_dec dk_X11_track 38 rfl) (by decide) (fun c71 => ?_) (fun c71 => ?_)
    · skip
      refine mm_iconst C (mm_dec dk_X11_track 41 rfl) ⟨by decide, by decide⟩ ?_
      refine mm_fgt 0 ?_
      refine mm_fgt 1 ?_
      refine mm_fgt 2 ?_
      refine mm_fgt 3 ?_
      exact J80 (-1) ⟨by omega, by omega⟩
    · skip
      refine mm_iload C (mm_dec dk_X11_track 39 rfl) rfl ?_
      refine mm_goto (tgt := 80) C (mm_dec dk_X11_track 40 rfl) (by decide) ?_
      refine mm_fgt 0 ?_
      refine mm_fgt 1 ?_
      refine mm_fgt 2 ?_
      refine mm_fgt 3 ?_
      exact J80 r30 ⟨by omega, by omega⟩

