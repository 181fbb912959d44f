set_option maxRecDepth 100000 in
set_option maxHeartbeats 4000000 in
theorem c_X12_spelled_q (l : Launch) (hl : l.stackTraces = false) (d : Nat) (hd : 0 ≤ d) (h : mH) (i0 : mm_inv h) (p0 : Int) (p1 : Int) (p2 : Int) (p3 : Int) (p4 : Int) (p5 : Int) (p6 : Int) (bp0 : 97 ≤ p0 ∧ p0 ≤ 122) (bp1 : 0 ≤ p1 ∧ p1 ≤ 122) (bp2 : 0 ≤ p2 ∧ p2 ≤ 122) (bp3 : 0 ≤ p3 ∧ p3 ≤ 122) (bp4 : 0 ≤ p4 ∧ p4 ≤ 122) (bp5 : 0 ≤ p5 ∧ p5 ≤ 122) (bp6 : 0 ≤ p6 ∧ p6 ≤ 122) (t0 : 97 ≤ p0 ∧ p0 ≤ 122) (t1 : (p1 = 0 ∨ (97 ≤ p1 ∧ p1 ≤ 122))) (t2 : (p2 = 0 ∨ (97 ≤ p2 ∧ p2 ≤ 122))) (t3 : (p3 = 0 ∨ (97 ≤ p3 ∧ p3 ≤ 122))) (t4 : (p4 = 0 ∨ (97 ≤ p4 ∧ p4 ≤ 122))) (t5 : (p5 = 0 ∨ (97 ≤ p5 ∧ p5 ≤ 122))) (t6 : (p6 = 0 ∨ (97 ≤ p6 ∧ p6 ≤ 122))) : mm_Met l d yX12_spelled cX12_spelled 9 (some .long) [mI p0, mI p1, mI p2, mI p3, mI p4, mI p5, mI p6] h (mm_pl fun r h2 => h2 = h ∧ r = mm_s1 (mm_s1 (mm_s1 (mm_s1 (mm_s1 (mm_s1 (p0 - 96) p1) p2) p3) p4) p5) p6) mm_nx 0 0 := by
  refine mm_ofW (ls := [mI p0, mI p1, mI p2, mI p3, mI p4, mI p5, mI p6, mU, mU]) hl (by decide) rfl (Nat.le_of_ble_eq_true rfl) ?_
  intro x hxl C T hnm htb
  subst hxl
  refine mm_rng (fun hr _ => ?_)
  have ap0 : -2147483648 ≤ p0 ∧ p0 < 2147483648 := mm_ok_at hr (i := 0) rfl
  have ap1 : -2147483648 ≤ p1 ∧ p1 < 2147483648 := mm_ok_at hr (i := 1) rfl
  have ap2 : -2147483648 ≤ p2 ∧ p2 < 2147483648 := mm_ok_at hr (i := 2) rfl
  have ap3 : -2147483648 ≤ p3 ∧ p3 < 2147483648 := mm_ok_at hr (i := 3) rfl
  have ap4 : -2147483648 ≤ p4 ∧ p4 < 2147483648 := mm_ok_at hr (i := 4) rfl
  have ap5 : -2147483648 ≤ p5 ∧ p5 < 2147483648 := mm_ok_at hr (i := 5) rfl
  have ap6 : -2147483648 ≤ p6 ∧ p6 < 2147483648 := mm_ok_at hr (i := 6) rfl
  have f0 : mm_fr [] [] h h := mm_fr_rf
  have v0 : 0 ≤ p0 - 96 ∧ p0 - 96 < 32 := by omega
  have v1 := mm_s1_rg v0 t1
  have v2 := mm_s1_rg v1 t2
  have v3 := mm_s1_rg v2 t3
  have v4 := mm_s1_rg v3 t4
  have v5 := mm_s1_rg v4 t5
  refine mm_iload_n C (mm_dec dk_X12_spelled 0 rfl) rfl ?_
  refine mm_bipush C (mm_dec dk_X12_spelled 1 rfl) ⟨by decide, by decide⟩ ?_
  refine mm_isub C (mm_dec dk_X12_spelled 2 rfl) ⟨by omega, by omega⟩ ?_
  refine mm_i2l C (mm_dec dk_X12_spelled 3 rfl) ?_
  refine mm_lstoreL (ls2 := [mI p0, mI p1, mI p2, mI p3, mI p4, mI p5, mI p6, mL (p0 - 96), mU]) C (mm_dec dk_X12_spelled 4 rfl) (by decide) rfl ?_
  refine mm_iload_n C (mm_dec dk_X12_spelled 5 rfl) rfl ?_
  have J23 : ∀ (x23_7 : Int) (bx23_7 : -9223372036854775808 ≤ x23_7 ∧ x23_7 < 9223372036854775808) (w23_0 : x23_7 = mm_s1 (p0 - 96) p1), mm_W x 0 0 23 [mU, mU, mI p2, mI p3, mI p4, mI p5, mI p6, mL x23_7, mU] [] h := by
    intro x23_7 bx23_7 w23_0
    refine mm_iload_n C (mm_dec dk_X12_spelled 16 rfl) rfl ?_
    have J39 : ∀ (x39_7 : Int) (bx39_7 : -9223372036854775808 ≤ x39_7 ∧ x39_7 < 9223372036854775808) (w39_0 : x39_7 = mm_s1 (mm_s1 (p0 - 96) p1) p2), mm_W x 0 0 39 [mU, mU, mU, mI p3, mI p4, mI p5, mI p6, mL x39_7, mU] [] h := by
      intro x39_7 bx39_7 w39_0
      refine mm_iload_n C (mm_dec dk_X12_spelled 27 rfl) rfl ?_
      have J55 : ∀ (x55_7 : Int) (bx55_7 : -9223372036854775808 ≤ x55_7 ∧ x55_7 < 9223372036854775808) (w55_0 : x55_7 = mm_s1 (mm_s1 (mm_s1 (p0 - 96) p1) p2) p3), mm_W x 0 0 55 [mU, mU, mU, mU, mI p4, mI p5, mI p6, mL x55_7, mU] [] h := by
        intro x55_7 bx55_7 w55_0
        refine mm_iload C (mm_dec dk_X12_spelled 38 rfl) rfl ?_
        have J73 : ∀ (x73_7 : Int) (bx73_7 : -9223372036854775808 ≤ x73_7 ∧ x73_7 < 9223372036854775808) (w73_0 : x73_7 = mm_s1 (mm_s1 (mm_s1 (mm_s1 (p0 - 96) p1) p2) p3) p4), mm_W x 0 0 73 [mU, mU, mU, mU, mU, mI p5, mI p6, mL x73_7, mU] [] h := by
          intro x73_7 bx73_7 w73_0
          refine mm_iload C (mm_dec dk_X12_spelled 49 rfl) rfl ?_
          have J91 : ∀ (x91_7 : Int) (bx91_7 : -9223372036854775808 ≤ x91_7 ∧ x91_7 < 9223372036854775808) (w91_0 : x91_7 = mm_s1 (mm_s1 (mm_s1 (mm_s1 (mm_s1 (p0 - 96) p1) p2) p3) p4) p5), mm_W x 0 0 91 [mU, mU, mU, mU, mU, mU, mI p6, mL x91_7, mU] [] h := by
            intro x91_7 bx91_7 w91_0
            refine mm_iload C (mm_dec dk_X12_spelled 60 rfl) rfl ?_
            have J109 : ∀ (x109_7 : Int) (bx109_7 : -9223372036854775808 ≤ x109_7 ∧ x109_7 < 9223372036854775808) (w109_0 : x109_7 = mm_s1 (mm_s1 (mm_s1 (mm_s1 (mm_s1 (mm_s1 (p0 - 96) p1) p2) p3) p4) p5) p6), mm_W x 0 0 109 [mU, mU, mU, mU, mU, mU, mU, mL x109_7, mU] [] h := by
              intro x109_7 bx109_7 w109_0
              refine mm_lload C (mm_dec dk_X12_spelled 71 rfl) rfl ?_
              exact mm_lret C T (mm_dec dk_X12_spelled 72 rfl) (by decide : 0 ≤ 0) (by decide : 0 ≤ 0) ⟨_, rfl, ⟨rfl, by exact w109_0⟩⟩
            refine mm_if_eq (tgt := 109) C (mm_dec dk_X12_spelled 61 rfl) (by decide) (fun c93 => ?_) (fun c93 => ?_)
            · skip
              refine mm_fgt 6 ?_
              exact J109 x91_7 ⟨by omega, by omega⟩ (by first | exact mm_s1_y w91_0 (by omega) t6 (by omega) (by assumption) (by assumption) | exact mm_s1_n w91_0 (by omega))
            · skip
              refine mm_lload C (mm_dec dk_X12_spelled 62 rfl) rfl ?_
              refine mm_iconst C (mm_dec dk_X12_spelled 63 rfl) ⟨by decide, by decide⟩ ?_
              refine mm_lshl C (mm_dec dk_X12_spelled 64 rfl) ?_
              have g1 : -9223372036854775808 ≤ (mm_vlshl x91_7 5) ∧ (mm_vlshl x91_7 5) < 9223372036854775808 := mm_rng64 _
              obtain ⟨y1, ey1⟩ : ∃ z, z = (mm_vlshl x91_7 5) := ⟨_, rfl⟩
              rw [← ey1] at g1 ⊢
              skip
              refine mm_iload C (mm_dec dk_X12_spelled 65 rfl) rfl ?_
              refine mm_bipush C (mm_dec dk_X12_spelled 66 rfl) ⟨by decide, by decide⟩ ?_
              refine mm_isub C (mm_dec dk_X12_spelled 67 rfl) ⟨by omega, by omega⟩ ?_
              refine mm_i2l C (mm_dec dk_X12_spelled 68 rfl) ?_
              refine mm_lor C (mm_dec dk_X12_spelled 69 rfl) ?_
              have g2 : -9223372036854775808 ≤ (mm_vlor y1 (p6 - 96)) ∧ (mm_vlor y1 (p6 - 96)) < 9223372036854775808 := mm_rng64 _
              obtain ⟨y2, ey2⟩ : ∃ z, z = (mm_vlor y1 (p6 - 96)) := ⟨_, rfl⟩
              rw [← ey2] at g2 ⊢
              skip
              refine mm_lstoreL (ls2 := [mU, mU, mU, mU, mU, mU, mI p6, mL y2, mU]) C (mm_dec dk_X12_spelled 70 rfl) (by decide) rfl ?_
              refine mm_fgt 6 ?_
              exact J109 y2 ⟨by omega, by omega⟩ (by first | exact mm_s1_y w91_0 (by omega) t6 (by omega) (by assumption) (by assumption) | exact mm_s1_n w91_0 (by omega))
          refine mm_if_eq (tgt := 91) C (mm_dec dk_X12_spelled 50 rfl) (by decide) (fun c75 => ?_) (fun c75 => ?_)
          · skip
            refine mm_fgt 5 ?_
            exact J91 x73_7 ⟨by omega, by omega⟩ (by first | exact mm_s1_y w73_0 (by omega) t5 (by omega) (by assumption) (by assumption) | exact mm_s1_n w73_0 (by omega))
          · skip
            refine mm_lload C (mm_dec dk_X12_spelled 51 rfl) rfl ?_
            refine mm_iconst C (mm_dec dk_X12_spelled 52 rfl) ⟨by decide, by decide⟩ ?_
            refine mm_lshl C (mm_dec dk_X12_spelled 53 rfl) ?_
            have g3 : -9223372036854775808 ≤ (mm_vlshl x73_7 5) ∧ (mm_vlshl x73_7 5) < 9223372036854775808 := mm_rng64 _
            obtain ⟨y3, ey3⟩ : ∃ z, z = (mm_vlshl x73_7 5) := ⟨_, rfl⟩
            rw [← ey3] at g3 ⊢
            skip
            refine mm_iload C (mm_dec dk_X12_spelled 54 rfl) rfl ?_
            refine mm_bipush C (mm_dec dk_X12_spelled 55 rfl) ⟨by decide, by decide⟩ ?_
            refine mm_isub C (mm_dec dk_X12_spelled 56 rfl) ⟨by omega, by omega⟩ ?_
            refine mm_i2l C (mm_dec dk_X12_spelled 57 rfl) ?_
            refine mm_lor C (mm_dec dk_X12_spelled 58 rfl) ?_
            have g4 : -9223372036854775808 ≤ (mm_vlor y3 (p5 - 96)) ∧ (mm_vlor y3 (p5 - 96)) < 9223372036854775808 := mm_rng64 _
            obtain ⟨y4, ey4⟩ : ∃ z, z = (mm_vlor y3 (p5 - 96)) := ⟨_, rfl⟩
            rw [← ey4] at g4 ⊢
            skip
            refine mm_lstoreL (ls2 := [mU, mU, mU, mU, mU, mI p5, mI p6, mL y4, mU]) C (mm_dec dk_X12_spelled 59 rfl) (by decide) rfl ?_
            refine mm_fgt 5 ?_
            exact J91 y4 ⟨by omega, by omega⟩ (by first | exact mm_s1_y w73_0 (by omega) t5 (by omega) (by assumption) (by assumption) | exact mm_s1_n w73_0 (by omega))
        refine mm_if_eq (tgt := 73) C (mm_dec dk_X12_spelled 39 rfl) (by decide) (fun c57 => ?_) (fun c57 => ?_)
        · skip
          refine mm_fgt 4 ?_
          exact J73 x55_7 ⟨by omega, by omega⟩ (by first | exact mm_s1_y w55_0 (by omega) t4 (by omega) (by assumption) (by assumption) | exact mm_s1_n w55_0 (by omega))
        · skip
          refine mm_lload C (mm_dec dk_X12_spelled 40 rfl) rfl ?_
          refine mm_iconst C (mm_dec dk_X12_spelled 41 rfl) ⟨by decide, by decide⟩ ?_
          refine mm_lshl C (mm_dec dk_X12_spelled 42 rfl) ?_
          have g5 : -9223372036854775808 ≤ (mm_vlshl x55_7 5) ∧ (mm_vlshl x55_7 5) < 9223372036854775808 := mm_rng64 _
          obtain ⟨y5, ey5⟩ : ∃ z, z = (mm_vlshl x55_7 5) := ⟨_, rfl⟩
          rw [← ey5] at g5 ⊢
          skip
          refine mm_iload C (mm_dec dk_X12_spelled 43 rfl) rfl ?_
          refine mm_bipush C (mm_dec dk_X12_spelled 44 rfl) ⟨by decide, by decide⟩ ?_
          refine mm_isub C (mm_dec dk_X12_spelled 45 rfl) ⟨by omega, by omega⟩ ?_
          refine mm_i2l C (mm_dec dk_X12_spelled 46 rfl) ?_
          refine mm_lor C (mm_dec dk_X12_spelled 47 rfl) ?_
          have g6 : -9223372036854775808 ≤ (mm_vlor y5 (p4 - 96)) ∧ (mm_vlor y5 (p4 - 96)) < 9223372036854775808 := mm_rng64 _
          obtain ⟨y6, ey6⟩ : ∃ z, z = (mm_vlor y5 (p4 - 96)) := ⟨_, rfl⟩
          rw [← ey6] at g6 ⊢
          skip
          refine mm_lstoreL (ls2 := [mU, mU, mU, mU, mI p4, mI p5, mI p6, mL y6, mU]) C (mm_dec dk_X12_spelled 48 rfl) (by decide) rfl ?_
          refine mm_fgt 4 ?_
          exact J73 y6 ⟨by omega, by omega⟩ (by first | exact mm_s1_y w55_0 (by omega) t4 (by omega) (by assumption) (by assumption) | exact mm_s1_n w55_0 (by omega))
      refine mm_if_eq (tgt := 55) C (mm_dec dk_X12_spelled 28 rfl) (by decide) (fun c40 => ?_) (fun c40 => ?_)
      · skip
        refine mm_fgt 3 ?_
        exact J55 x39_7 ⟨by omega, by omega⟩ (by first | exact mm_s1_y w39_0 (by omega) t3 (by omega) (by assumption) (by assumption) | exact mm_s1_n w39_0 (by omega))
      · skip
        refine mm_lload C (mm_dec dk_X12_spelled 29 rfl) rfl ?_
        refine mm_iconst C (mm_dec dk_X12_spelled 30 rfl) ⟨by decide, by decide⟩ ?_
        refine mm_lshl C (mm_dec dk_X12_spelled 31 rfl) ?_
        have g7 : -9223372036854775808 ≤ (mm_vlshl x39_7 5) ∧ (mm_vlshl x39_7 5) < 9223372036854775808 := mm_rng64 _
        obtain ⟨y7, ey7⟩ : ∃ z, z = (mm_vlshl x39_7 5) := ⟨_, rfl⟩
        rw [← ey7] at g7 ⊢
        skip
        refine mm_iload_n C (mm_dec dk_X12_spelled 32 rfl) rfl ?_
        refine mm_bipush C (mm_dec dk_X12_spelled 33 rfl) ⟨by decide, by decide⟩ ?_
        refine mm_isub C (mm_dec dk_X12_spelled 34 rfl) ⟨by omega, by omega⟩ ?_
        refine mm_i2l C (mm_dec dk_X12_spelled 35 rfl) ?_
        refine mm_lor C (mm_dec dk_X12_spelled 36 rfl) ?_
        have g8 : -9223372036854775808 ≤ (mm_vlor y7 (p3 - 96)) ∧ (mm_vlor y7 (p3 - 96)) < 9223372036854775808 := mm_rng64 _
        obtain ⟨y8, ey8⟩ : ∃ z, z = (mm_vlor y7 (p3 - 96)) := ⟨_, rfl⟩
        rw [← ey8] at g8 ⊢
        skip
        refine mm_lstoreL (ls2 := [mU, mU, mU, mI p3, mI p4, mI p5, mI p6, mL y8, mU]) C (mm_dec dk_X12_spelled 37 rfl) (by decide) rfl ?_
        refine mm_fgt 3 ?_
        exact J55 y8 ⟨by omega, by omega⟩ (by first | exact mm_s1_y w39_0 (by omega) t3 (by omega) (by assumption) (by assumption) | exact mm_s1_n w39_0 (by omega))
    refine mm_if_eq (tgt := 39) C (mm_dec dk_X12_spelled 17 rfl) (by decide) (fun c24 => ?_) (fun c24 => ?_)
    · skip
      refine mm_fgt 2 ?_
      exact J39 x23_7 ⟨by omega, by omega⟩ (by first | exact mm_s1_y w23_0 (by omega) t2 (by omega) (by assumption) (by assumption) | exact mm_s1_n w23_0 (by omega))
    · skip
      refine mm_lload C (mm_dec dk_X12_spelled 18 rfl) rfl ?_
      refine mm_iconst C (mm_dec dk_X12_spelled 19 rfl) ⟨by decide, by decide⟩ ?_
      refine mm_lshl C (mm_dec dk_X12_spelled 20 rfl) ?_
      have g9 : -9223372036854775808 ≤ (mm_vlshl x23_7 5) ∧ (mm_vlshl x23_7 5) < 9223372036854775808 := mm_rng64 _
      obtain ⟨y9, ey9⟩ : ∃ z, z = (mm_vlshl x23_7 5) := ⟨_, rfl⟩
      rw [← ey9] at g9 ⊢
      skip
      refine mm_iload_n C (mm_dec dk_X12_spelled 21 rfl) rfl ?_
      refine mm_bipush C (mm_dec dk_X12_spelled 22 rfl) ⟨by decide, by decide⟩ ?_
      refine mm_isub C (mm_dec dk_X12_spelled 23 rfl) ⟨by omega, by omega⟩ ?_
      refine mm_i2l C (mm_dec dk_X12_spelled 24 rfl) ?_
      refine mm_lor C (mm_dec dk_X12_spelled 25 rfl) ?_
      have g10 : -9223372036854775808 ≤ (mm_vlor y9 (p2 - 96)) ∧ (mm_vlor y9 (p2 - 96)) < 9223372036854775808 := mm_rng64 _
      obtain ⟨y10, ey10⟩ : ∃ z, z = (mm_vlor y9 (p2 - 96)) := ⟨_, rfl⟩
      rw [← ey10] at g10 ⊢
      skip
      refine mm_lstoreL (ls2 := [mU, mU, mI p2, mI p3, mI p4, mI p5, mI p6, mL y10, mU]) C (mm_dec dk_X12_spelled 26 rfl) (by decide) rfl ?_
      refine mm_fgt 2 ?_
      exact J39 y10 ⟨by omega, by omega⟩ (by first | exact mm_s1_y w23_0 (by omega) t2 (by omega) (by assumption) (by assumption) | exact mm_s1_n w23_0 (by omega))
  refine mm_if_eq (tgt := 23) C (mm_dec dk_X12_spelled 6 rfl) (by decide) (fun c8 => ?_) (fun c8 => ?_)
  · skip
    refine mm_fgt 0 ?_
    refine mm_fgt 1 ?_
    exact J23 (p0 - 96) ⟨by omega, by omega⟩ (by first | exact mm_s1_y rfl (by omega) t1 (by omega) (by assumption) (by assumption) | exact mm_s1_n rfl (by omega))
  · skip
    refine mm_lload C (mm_dec dk_X12_spelled 7 rfl) rfl ?_
    refine mm_iconst C (mm_dec dk_X12_spelled 8 rfl) ⟨by decide, by decide⟩ ?_
    refine mm_lshl C (mm_dec dk_X12_spelled 9 rfl) ?_
    have g11 : -9223372036854775808 ≤ (mm_vlshl (p0 - 96) 5) ∧ (mm_vlshl (p0 - 96) 5) < 9223372036854775808 := mm_rng64 _
    obtain ⟨y11, ey11⟩ : ∃ z, z = (mm_vlshl (p0 - 96) 5) := ⟨_, rfl⟩
    rw [← ey11] at g11 ⊢
    skip
    refine mm_iload_n C (mm_dec dk_X12_spelled 10 rfl) rfl ?_
    refine mm_bipush C (mm_dec dk_X12_spelled 11 rfl) ⟨by decide, by decide⟩ ?_
    refine mm_isub C (mm_dec dk_X12_spelled 12 rfl) ⟨by omega, by omega⟩ ?_
    refine mm_i2l C (mm_dec dk_X12_spelled 13 rfl) ?_
    refine mm_lor C (mm_dec dk_X12_spelled 14 rfl) ?_
    have g12 : -9223372036854775808 ≤ (mm_vlor y11 (p1 - 96)) ∧ (mm_vlor y11 (p1 - 96)) < 9223372036854775808 := mm_rng64 _
    obtain ⟨y12, ey12⟩ : ∃ z, z = (mm_vlor y11 (p1 - 96)) := ⟨_, rfl⟩
    rw [← ey12] at g12 ⊢
    skip
    refine mm_lstoreL (ls2 := [mI p0, mI p1, mI p2, mI p3, mI p4, mI p5, mI p6, mL y12, mU]) C (mm_dec dk_X12_spelled 15 rfl) (by decide) rfl ?_
    refine mm_fgt 0 ?_
    refine mm_fgt 1 ?_
    exact J23 y12 ⟨by omega, by omega⟩ (by first | exact mm_s1_y rfl (by omega) t1 (by omega) (by assumption) (by assumption) | exact mm_s1_n rfl (by omega))
set_option maxRecDepth 100000 in
set_option maxHeartbeats 4000000 in
theorem c_X12_known_q (l : Launch) (hl : l.stackTraces = false) (d : Nat) (hd : 1 ≤ d) (h : mH) (i0 : mm_inv h) (p0 : Int) (bp0 : 0 ≤ p0 ∧ p0 ≤ 16) : mm_Met l d yX12_known cX12_known 1 (some .long) [mI p0] h (mm_pl fun r h2 => h2 = h ∧ r = mm_ky p0) mm_nx 0 0 := by
  refine mm_ofW (ls := [mI p0]) hl (by decide) rfl (Nat.le_of_ble_eq_true rfl) ?_
  intro x hxl C T hnm htb
  subst hxl
  have C1 := mm_OK_le (d' := d - 1 + 1) (by omega) C
  refine mm_rng (fun hr _ => ?_)
  have ap0 : -2147483648 ≤ p0 ∧ p0 < 2147483648 := mm_ok_at hr (i := 0) rfl
  have f0 : mm_fr [] [] h h := mm_fr_rf
  refine mm_iload_n C (mm_dec dk_X12_known 0 rfl) rfl ?_
  refine mm_table (t0 := 325) [80, 98, 112, 129, 143, 157, 170, 184, 200, 214, 231, 248, 264, 278, 294, 310] C (mm_dec dk_X12_known 1 rfl) (by decide) (by decide) (by decide +kernel) (fun c1 => ?_) (fun k1 hk1 c1 => ?_)
  · skip
    refine mm_bipush C (mm_dec dk_X12_known 146 rfl) ⟨by decide, by decide⟩ ?_
    refine mm_bipush C (mm_dec dk_X12_known 147 rfl) ⟨by decide, by decide⟩ ?_
    refine mm_bipush C (mm_dec dk_X12_known 148 rfl) ⟨by decide, by decide⟩ ?_
    refine mm_bipush C (mm_dec dk_X12_known 149 rfl) ⟨by decide, by decide⟩ ?_
    refine mm_iconst C (mm_dec dk_X12_known 150 rfl) ⟨by decide, by decide⟩ ?_
    refine mm_iconst C (mm_dec dk_X12_known 151 rfl) ⟨by decide, by decide⟩ ?_
    refine mm_iconst C (mm_dec dk_X12_known 152 rfl) ⟨by decide, by decide⟩ ?_
    refine mm_cSl (rest := []) C1 es_X12_390 (mm_dec dk_X12_known 153 rfl) (c_X12_spelled_q x.2.1 hl (d - 1) (by omega) h i0 102 114 101 101 0 0 0 ⟨by omega, by omega⟩ ⟨by omega, by omega⟩ ⟨by omega, by omega⟩ ⟨by omega, by omega⟩ ⟨by omega, by omega⟩ ⟨by omega, by omega⟩ ⟨by omega, by omega⟩ (by omega) (by omega) (by omega) (by omega) (by omega) (by omega) (by omega)) rfl (Nat.le_of_ble_eq_true rfl) ⟨by decide, by decide⟩ rfl (fun r336 h336c hp336 => ?_) (fun _ _ q => q.elim)
    obtain ⟨z336, y336_0⟩ := hp336
    rw [z336]
    refine mm_rng (fun _ ho => ?_)
    have b336 : -9223372036854775808 ≤ r336 ∧ r336 < 9223372036854775808 := mm_ok_hd ho
    exact mm_lret C T (mm_dec dk_X12_known 154 rfl) (by decide : 0 ≤ 0) (by decide : 0 ≤ 0) ⟨_, rfl, ⟨rfl, by first | (rw [show p0 = 0 by omega]; exact y94_0.trans (by decide +kernel)) | (rw [show p0 = 1 by omega]; exact y108_0.trans (by decide +kernel)) | (rw [show p0 = 2 by omega]; exact y125_0.trans (by decide +kernel)) | (rw [show p0 = 3 by omega]; exact y139_0.trans (by decide +kernel)) | (rw [show p0 = 4 by omega]; exact y153_0.trans (by decide +kernel)) | (rw [show p0 = 5 by omega]; exact y166_0.trans (by decide +kernel)) | (rw [show p0 = 6 by omega]; exact y180_0.trans (by decide +kernel)) | (rw [show p0 = 7 by omega]; exact y196_0.trans (by decide +kernel)) | (rw [show p0 = 8 by omega]; exact y210_0.trans (by decide +kernel)) | (rw [show p0 = 9 by omega]; exact y227_0.trans (by decide +kernel)) | (rw [show p0 = 10 by omega]; exact y244_0.trans (by decide +kernel)) | (rw [show p0 = 11 by omega]; exact y260_0.trans (by decide +kernel)) | (rw [show p0 = 12 by omega]; exact y274_0.trans (by decide +kernel)) | (rw [show p0 = 13 by omega]; exact y290_0.trans (by decide +kernel)) | (rw [show p0 = 14 by omega]; exact y306_0.trans (by decide +kernel)) | (rw [show p0 = 15 by omega]; exact y321_0.trans (by decide +kernel)) | (rw [show p0 = 16 by omega]; exact y336_0.trans (by decide +kernel))⟩⟩
  · have hq1 : k1 < 16 := hk1
    rcases (by omega : k1 = 0 ∨ k1 = 1 ∨ k1 = 2 ∨ k1 = 3 ∨ k1 = 4 ∨ k1 = 5 ∨ k1 = 6 ∨ k1 = 7 ∨ k1 = 8 ∨ k1 = 9 ∨ k1 = 10 ∨ k1 = 11 ∨ k1 = 12 ∨ k1 = 13 ∨ k1 = 14 ∨ k1 = 15) with rfl | rfl | rfl | rfl | rfl | rfl | rfl | rfl | rfl | rfl | rfl | rfl | rfl | rfl | rfl | rfl
    · show mm_W x 0 0 80 _ _ _
      refine mm_bipush C (mm_dec dk_X12_known 2 rfl) ⟨by decide, by decide⟩ ?_
      refine mm_bipush C (mm_dec dk_X12_known 3 rfl) ⟨by decide, by decide⟩ ?_
      refine mm_bipush C (mm_dec dk_X12_known 4 rfl) ⟨by decide, by decide⟩ ?_
      refine mm_bipush C (mm_dec dk_X12_known 5 rfl) ⟨by decide, by decide⟩ ?_
      refine mm_bipush C (mm_dec dk_X12_known 6 rfl) ⟨by decide, by decide⟩ ?_
      refine mm_bipush C (mm_dec dk_X12_known 7 rfl) ⟨by decide, by decide⟩ ?_
      refine mm_bipush C (mm_dec dk_X12_known 8 rfl) ⟨by decide, by decide⟩ ?_
      refine mm_cSl (rest := []) C1 es_X12_390 (mm_dec dk_X12_known 9 rfl) (c_X12_spelled_q x.2.1 hl (d - 1) (by omega) h i0 112 101 110 97 108 116 121 ⟨by omega, by omega⟩ ⟨by omega, by omega⟩ ⟨by omega, by omega⟩ ⟨by omega, by omega⟩ ⟨by omega, by omega⟩ ⟨by omega, by omega⟩ ⟨by omega, by omega⟩ (by omega) (by omega) (by omega) (by omega) (by omega) (by omega) (by omega)) rfl (Nat.le_of_ble_eq_true rfl) ⟨by decide, by decide⟩ rfl (fun r94 h94c hp94 => ?_) (fun _ _ q => q.elim)
      obtain ⟨z94, y94_0⟩ := hp94
      rw [z94]
      refine mm_rng (fun _ ho => ?_)
      have b94 : -9223372036854775808 ≤ r94 ∧ r94 < 9223372036854775808 := mm_ok_hd ho
      exact mm_lret C T (mm_dec dk_X12_known 10 rfl) (by decide : 0 ≤ 0) (by decide : 0 ≤ 0) ⟨_, rfl, ⟨rfl, by first | (rw [show p0 = 0 by omega]; exact y94_0.trans (by decide +kernel)) | (rw [show p0 = 1 by omega]; exact y108_0.trans (by decide +kernel)) | (rw [show p0 = 2 by omega]; exact y125_0.trans (by decide +kernel)) | (rw [show p0 = 3 by omega]; exact y139_0.trans (by decide +kernel)) | (rw [show p0 = 4 by omega]; exact y153_0.trans (by decide +kernel)) | (rw [show p0 = 5 by omega]; exact y166_0.trans (by decide +kernel)) | (rw [show p0 = 6 by omega]; exact y180_0.trans (by decide +kernel)) | (rw [show p0 = 7 by omega]; exact y196_0.trans (by decide +kernel)) | (rw [show p0 = 8 by omega]; exact y210_0.trans (by decide +kernel)) | (rw [show p0 = 9 by omega]; exact y227_0.trans (by decide +kernel)) | (rw [show p0 = 10 by omega]; exact y244_0.trans (by decide +kernel)) | (rw [show p0 = 11 by omega]; exact y260_0.trans (by decide +kernel)) | (rw [show p0 = 12 by omega]; exact y274_0.trans (by decide +kernel)) | (rw [show p0 = 13 by omega]; exact y290_0.trans (by decide +kernel)) | (rw [show p0 = 14 by omega]; exact y306_0.trans (by decide +kernel)) | (rw [show p0 = 15 by omega]; exact y321_0.trans (by decide +kernel)) | (rw [show p0 = 16 by omega]; exact y336_0.trans (by decide +kernel))⟩⟩
    · show mm_W x 0 0 98 _ _ _
      refine mm_bipush C (mm_dec dk_X12_known 11 rfl) ⟨by decide, by decide⟩ ?_
      refine mm_bipush C (mm_dec dk_X12_known 12 rfl) ⟨by decide, by decide⟩ ?_
      refine mm_bipush C (mm_dec dk_X12_known 13 rfl) ⟨by decide, by decide⟩ ?_
      refine mm_iconst C (mm_dec dk_X12_known 14 rfl) ⟨by decide, by decide⟩ ?_
      refine mm_iconst C (mm_dec dk_X12_known 15 rfl) ⟨by decide, by decide⟩ ?_
      refine mm_iconst C (mm_dec dk_X12_known 16 rfl) ⟨by decide, by decide⟩ ?_
      refine mm_iconst C (mm_dec dk_X12_known 17 rfl) ⟨by decide, by decide⟩ ?_
      refine mm_cSl (rest := []) C1 es_X12_390 (mm_dec dk_X12_known 18 rfl) (c_X12_spelled_q x.2.1 hl (d - 1) (by omega) h i0 111 117 116 0 0 0 0 ⟨by omega, by omega⟩ ⟨by omega, by omega⟩ ⟨by omega, by omega⟩ ⟨by omega, by omega⟩ ⟨by omega, by omega⟩ ⟨by omega, by omega⟩ ⟨by omega, by omega⟩ (by omega) (by omega) (by omega) (by omega) (by omega) (by omega) (by omega)) rfl (Nat.le_of_ble_eq_true rfl) ⟨by decide, by decide⟩ rfl (fun r108 h108c hp108 => ?_) (fun _ _ q => q.elim)
      obtain ⟨z108, y108_0⟩ := hp108
      rw [z108]
      refine mm_rng (fun _ ho => ?_)
      have b108 : -9223372036854775808 ≤ r108 ∧ r108 < 9223372036854775808 := mm_ok_hd ho
      exact mm_lret C T (mm_dec dk_X12_known 19 rfl) (by decide : 0 ≤ 0) (by decide : 0 ≤ 0) ⟨_, rfl, ⟨rfl, by first | (rw [show p0 = 0 by omega]; exact y94_0.trans (by decide +kernel)) | (rw [show p0 = 1 by omega]; exact y108_0.trans (by decide +kernel)) | (rw [show p0 = 2 by omega]; exact y125_0.trans (by decide +kernel)) | (rw [show p0 = 3 by omega]; exact y139_0.trans (by decide +kernel)) | (rw [show p0 = 4 by omega]; exact y153_0.trans (by decide +kernel)) | (rw [show p0 = 5 by omega]; exact y166_0.trans (by decide +kernel)) | (rw [show p0 = 6 by omega]; exact y180_0.trans (by decide +kernel)) | (rw [show p0 = 7 by omega]; exact y196_0.trans (by decide +kernel)) | (rw [show p0 = 8 by omega]; exact y210_0.trans (by decide +kernel)) | (rw [show p0 = 9 by omega]; exact y227_0.trans (by decide +kernel)) | (rw [show p0 = 10 by omega]; exact y244_0.trans (by decide +kernel)) | (rw [show p0 = 11 by omega]; exact y260_0.trans (by decide +kernel)) | (rw [show p0 = 12 by omega]; exact y274_0.trans (by decide +kernel)) | (rw [show p0 = 13 by omega]; exact y290_0.trans (by decide +kernel)) | (rw [show p0 = 14 by omega]; exact y306_0.trans (by decide +kernel)) | (rw [show p0 = 15 by omega]; exact y321_0.trans (by decide +kernel)) | (rw [show p0 = 16 by omega]; exact y336_0.trans (by decide +kernel))⟩⟩
    · show mm_W x 0 0 112 _ _ _
      refine mm_bipush C (mm_dec dk_X12_known 20 rfl) ⟨by decide, by decide⟩ ?_
      refine mm_bipush C (mm_dec dk_X12_known 21 rfl) ⟨by decide, by decide⟩ ?_
      refine mm_bipush C (mm_dec dk_X12_known 22 rfl) ⟨by decide, by decide⟩ ?_
      refine mm_bipush C (mm_dec dk_X12_known 23 rfl) ⟨by decide, by decide⟩ ?_
      refine mm_bipush C (mm_dec dk_X12_known 24 rfl) ⟨by decide, by decide⟩ ?_
      refine mm_bipush C (mm_dec dk_X12_known 25 rfl) ⟨by decide, by decide⟩ ?_
      refine mm_iconst C (mm_dec dk_X12_known 26 rfl) ⟨by decide, by decide⟩ ?_
      refine mm_cSl (rest := []) C1 es_X12_390 (mm_dec dk_X12_known 27 rfl) (c_X12_spelled_q x.2.1 hl (d - 1) (by omega) h i0 117 110 108 101 115 115 0 ⟨by omega, by omega⟩ ⟨by omega, by omega⟩ ⟨by omega, by omega⟩ ⟨by omega, by omega⟩ ⟨by omega, by omega⟩ ⟨by omega, by omega⟩ ⟨by omega, by omega⟩ (by omega) (by omega) (by omega) (by omega) (by omega) (by omega) (by omega)) rfl (Nat.le_of_ble_eq_true rfl) ⟨by decide, by decide⟩ rfl (fun r125 h125c hp125 => ?_) (fun _ _ q => q.elim)
      obtain ⟨z125, y125_0⟩ := hp125
      rw [z125]
      refine mm_rng (fun _ ho => ?_)
      have b125 : -9223372036854775808 ≤ r125 ∧ r125 < 9223372036854775808 := mm_ok_hd ho
      exact mm_lret C T (mm_dec dk_X12_known 28 rfl) (by decide : 0 ≤ 0) (by decide : 0 ≤ 0) ⟨_, rfl, ⟨rfl, by first | (rw [show p0 = 0 by omega]; exact y94_0.trans (by decide +kernel)) | (rw [show p0 = 1 by omega]; exact y108_0.trans (by decide +kernel)) | (rw [show p0 = 2 by omega]; exact y125_0.trans (by decide +kernel)) | (rw [show p0 = 3 by omega]; exact y139_0.trans (by decide +kernel)) | (rw [show p0 = 4 by omega]; exact y153_0.trans (by decide +kernel)) | (rw [show p0 = 5 by omega]; exact y166_0.trans (by decide +kernel)) | (rw [show p0 = 6 by omega]; exact y180_0.trans (by decide +kernel)) | (rw [show p0 = 7 by omega]; exact y196_0.trans (by decide +kernel)) | (rw [show p0 = 8 by omega]; exact y210_0.trans (by decide +kernel)) | (rw [show p0 = 9 by omega]; exact y227_0.trans (by decide +kernel)) | (rw [show p0 = 10 by omega]; exact y244_0.trans (by decide +kernel)) | (rw [show p0 = 11 by omega]; exact y260_0.trans (by decide +kernel)) | (rw [show p0 = 12 by omega]; exact y274_0.trans (by decide +kernel)) | (rw [show p0 = 13 by omega]; exact y290_0.trans (by decide +kernel)) | (rw [show p0 = 14 by omega]; exact y306_0.trans (by decide +kernel)) | (rw [show p0 = 15 by omega]; exact y321_0.trans (by decide +kernel)) | (rw [show p0 = 16 by omega]; exact y336_0.trans (by decide +kernel))⟩⟩
    · show mm_W x 0 0 129 _ _ _
      refine mm_bipush C (mm_dec dk_X12_known 29 rfl) ⟨by decide, by decide⟩ ?_
      refine mm_bipush C (mm_dec dk_X12_known 30 rfl) ⟨by decide, by decide⟩ ?_
      refine mm_bipush C (mm_dec dk_X12_known 31 rfl) ⟨by decide, by decide⟩ ?_
      refine mm_iconst C (mm_dec dk_X12_known 32 rfl) ⟨by decide, by decide⟩ ?_
      refine mm_iconst C (mm_dec dk_X12_known 33 rfl) ⟨by decide, by decide⟩ ?_
      refine mm_iconst C (mm_dec dk_X12_known 34 rfl) ⟨by decide, by decide⟩ ?_
      refine mm_iconst C (mm_dec dk_X12_known 35 rfl) ⟨by decide, by decide⟩ ?_
      refine mm_cSl (rest := []) C1 es_X12_390 (mm_dec dk_X12_known 36 rfl) (c_X12_spelled_q x.2.1 hl (d - 1) (by omega) h i0 115 101 116 0 0 0 0 ⟨by omega, by omega⟩ ⟨by omega, by omega⟩ ⟨by omega, by omega⟩ ⟨by omega, by omega⟩ ⟨by omega, by omega⟩ ⟨by omega, by omega⟩ ⟨by omega, by omega⟩ (by omega) (by omega) (by omega) (by omega) (by omega) (by omega) (by omega)) rfl (Nat.le_of_ble_eq_true rfl) ⟨by decide, by decide⟩ rfl (fun r139 h139c hp139 => ?_) (fun _ _ q => q.elim)
      obtain ⟨z139, y139_0⟩ := hp139
      rw [z139]
      refine mm_rng (fun _ ho => ?_)
      have b139 : -9223372036854775808 ≤ r139 ∧ r139 < 9223372036854775808 := mm_ok_hd ho
      exact mm_lret C T (mm_dec dk_X12_known 37 rfl) (by decide : 0 ≤ 0) (by decide : 0 ≤ 0) ⟨_, rfl, ⟨rfl, by first | (rw [show p0 = 0 by omega]; exact y94_0.trans (by decide +kernel)) | (rw [show p0 = 1 by omega]; exact y108_0.trans (by decide +kernel)) | (rw [show p0 = 2 by omega]; exact y125_0.trans (by decide +kernel)) | (rw [show p0 = 3 by omega]; exact y139_0.trans (by decide +kernel)) | (rw [show p0 = 4 by omega]; exact y153_0.trans (by decide +kernel)) | (rw [show p0 = 5 by omega]; exact y166_0.trans (by decide +kernel)) | (rw [show p0 = 6 by omega]; exact y180_0.trans (by decide +kernel)) | (rw [show p0 = 7 by omega]; exact y196_0.trans (by decide +kernel)) | (rw [show p0 = 8 by omega]; exact y210_0.trans (by decide +kernel)) | (rw [show p0 = 9 by omega]; exact y227_0.trans (by decide +kernel)) | (rw [show p0 = 10 by omega]; exact y244_0.trans (by decide +kernel)) | (rw [show p0 = 11 by omega]; exact y260_0.trans (by decide +kernel)) | (rw [show p0 = 12 by omega]; exact y274_0.trans (by decide +kernel)) | (rw [show p0 = 13 by omega]; exact y290_0.trans (by decide +kernel)) | (rw [show p0 = 14 by omega]; exact y306_0.trans (by decide +kernel)) | (rw [show p0 = 15 by omega]; exact y321_0.trans (by decide +kernel)) | (rw [show p0 = 16 by omega]; exact y336_0.trans (by decide +kernel))⟩⟩
    · show mm_W x 0 0 143 _ _ _
      refine mm_bipush C (mm_dec dk_X12_known 38 rfl) ⟨by decide, by decide⟩ ?_
      refine mm_bipush C (mm_dec dk_X12_known 39 rfl) ⟨by decide, by decide⟩ ?_
      refine mm_bipush C (mm_dec dk_X12_known 40 rfl) ⟨by decide, by decide⟩ ?_
      refine mm_iconst C (mm_dec dk_X12_known 41 rfl) ⟨by decide, by decide⟩ ?_
      refine mm_iconst C (mm_dec dk_X12_known 42 rfl) ⟨by decide, by decide⟩ ?_
      refine mm_iconst C (mm_dec dk_X12_known 43 rfl) ⟨by decide, by decide⟩ ?_
      refine mm_iconst C (mm_dec dk_X12_known 44 rfl) ⟨by decide, by decide⟩ ?_
      refine mm_cSl (rest := []) C1 es_X12_390 (mm_dec dk_X12_known 45 rfl) (c_X12_spelled_q x.2.1 hl (d - 1) (by omega) h i0 97 110 100 0 0 0 0 ⟨by omega, by omega⟩ ⟨by omega, by omega⟩ ⟨by omega, by omega⟩ ⟨by omega, by omega⟩ ⟨by omega, by omega⟩ ⟨by omega, by omega⟩ ⟨by omega, by omega⟩ (by omega) (by omega) (by omega) (by omega) (by omega) (by omega) (by omega)) rfl (Nat.le_of_ble_eq_true rfl) ⟨by decide, by decide⟩ rfl (fun r153 h153c hp153 => ?_) (fun _ _ q => q.elim)
      obtain ⟨z153, y153_0⟩ := hp153
      rw [z153]
      refine mm_rng (fun _ ho => ?_)
      have b153 : -9223372036854775808 ≤ r153 ∧ r153 < 9223372036854775808 := mm_ok_hd ho
      exact mm_lret C T (mm_dec dk_X12_known 46 rfl) (by decide : 0 ≤ 0) (by decide : 0 ≤ 0) ⟨_, rfl, ⟨rfl, by first | (rw [show p0 = 0 by omega]; exact y94_0.trans (by decide +kernel)) | (rw [show p0 = 1 by omega]; exact y108_0.trans (by decide +kernel)) | (rw [show p0 = 2 by omega]; exact y125_0.trans (by decide +kernel)) | (rw [show p0 = 3 by omega]; exact y139_0.trans (by decide +kernel)) | (rw [show p0 = 4 by omega]; exact y153_0.trans (by decide +kernel)) | (rw [show p0 = 5 by omega]; exact y166_0.trans (by decide +kernel)) | (rw [show p0 = 6 by omega]; exact y180_0.trans (by decide +kernel)) | (rw [show p0 = 7 by omega]; exact y196_0.trans (by decide +kernel)) | (rw [show p0 = 8 by omega]; exact y210_0.trans (by decide +kernel)) | (rw [show p0 = 9 by omega]; exact y227_0.trans (by decide +kernel)) | (rw [show p0 = 10 by omega]; exact y244_0.trans (by decide +kernel)) | (rw [show p0 = 11 by omega]; exact y260_0.trans (by decide +kernel)) | (rw [show p0 = 12 by omega]; exact y274_0.trans (by decide +kernel)) | (rw [show p0 = 13 by omega]; exact y290_0.trans (by decide +kernel)) | (rw [show p0 = 14 by omega]; exact y306_0.trans (by decide +kernel)) | (rw [show p0 = 15 by omega]; exact y321_0.trans (by decide +kernel)) | (rw [show p0 = 16 by omega]; exact y336_0.trans (by decide +kernel))⟩⟩
    · show mm_W x 0 0 157 _ _ _
      refine mm_bipush C (mm_dec dk_X12_known 47 rfl) ⟨by decide, by decide⟩ ?_
      refine mm_bipush C (mm_dec dk_X12_known 48 rfl) ⟨by decide, by decide⟩ ?_
      refine mm_iconst C (mm_dec dk_X12_known 49 rfl) ⟨by decide, by decide⟩ ?_
      refine mm_iconst C (mm_dec dk_X12_known 50 rfl) ⟨by decide, by decide⟩ ?_
      refine mm_iconst C (mm_dec dk_X12_known 51 rfl) ⟨by decide, by decide⟩ ?_
      refine mm_iconst C (mm_dec dk_X12_known 52 rfl) ⟨by decide, by decide⟩ ?_
      refine mm_iconst C (mm_dec dk_X12_known 53 rfl) ⟨by decide, by decide⟩ ?_
      refine mm_cSl (rest := []) C1 es_X12_390 (mm_dec dk_X12_known 54 rfl) (c_X12_spelled_q x.2.1 hl (d - 1) (by omega) h i0 111 114 0 0 0 0 0 ⟨by omega, by omega⟩ ⟨by omega, by omega⟩ ⟨by omega, by omega⟩ ⟨by omega, by omega⟩ ⟨by omega, by omega⟩ ⟨by omega, by omega⟩ ⟨by omega, by omega⟩ (by omega) (by omega) (by omega) (by omega) (by omega) (by omega) (by omega)) rfl (Nat.le_of_ble_eq_true rfl) ⟨by decide, by decide⟩ rfl (fun r166 h166c hp166 => ?_) (fun _ _ q => q.elim)
      obtain ⟨z166, y166_0⟩ := hp166
      rw [z166]
      refine mm_rng (fun _ ho => ?_)
      have b166 : -9223372036854775808 ≤ r166 ∧ r166 < 9223372036854775808 := mm_ok_hd ho
      exact mm_lret C T (mm_dec dk_X12_known 55 rfl) (by decide : 0 ≤ 0) (by decide : 0 ≤ 0) ⟨_, rfl, ⟨rfl, by first | (rw [show p0 = 0 by omega]; exact y94_0.trans (by decide +kernel)) | (rw [show p0 = 1 by omega]; exact y108_0.trans (by decide +kernel)) | (rw [show p0 = 2 by omega]; exact y125_0.trans (by decide +kernel)) | (rw [show p0 = 3 by omega]; exact y139_0.trans (by decide +kernel)) | (rw [show p0 = 4 by omega]; exact y153_0.trans (by decide +kernel)) | (rw [show p0 = 5 by omega]; exact y166_0.trans (by decide +kernel)) | (rw [show p0 = 6 by omega]; exact y180_0.trans (by decide +kernel)) | (rw [show p0 = 7 by omega]; exact y196_0.trans (by decide +kernel)) | (rw [show p0 = 8 by omega]; exact y210_0.trans (by decide +kernel)) | (rw [show p0 = 9 by omega]; exact y227_0.trans (by decide +kernel)) | (rw [show p0 = 10 by omega]; exact y244_0.trans (by decide +kernel)) | (rw [show p0 = 11 by omega]; exact y260_0.trans (by decide +kernel)) | (rw [show p0 = 12 by omega]; exact y274_0.trans (by decide +kernel)) | (rw [show p0 = 13 by omega]; exact y290_0.trans (by decide +kernel)) | (rw [show p0 = 14 by omega]; exact y306_0.trans (by decide +kernel)) | (rw [show p0 = 15 by omega]; exact y321_0.trans (by decide +kernel)) | (rw [show p0 = 16 by omega]; exact y336_0.trans (by decide +kernel))⟩⟩
    · show mm_W x 0 0 170 _ _ _
      refine mm_bipush C (mm_dec dk_X12_known 56 rfl) ⟨by decide, by decide⟩ ?_
      refine mm_bipush C (mm_dec dk_X12_known 57 rfl) ⟨by decide, by decide⟩ ?_
      refine mm_bipush C (mm_dec dk_X12_known 58 rfl) ⟨by decide, by decide⟩ ?_
      refine mm_iconst C (mm_dec dk_X12_known 59 rfl) ⟨by decide, by decide⟩ ?_
      refine mm_iconst C (mm_dec dk_X12_known 60 rfl) ⟨by decide, by decide⟩ ?_
      refine mm_iconst C (mm_dec dk_X12_known 61 rfl) ⟨by decide, by decide⟩ ?_
      refine mm_iconst C (mm_dec dk_X12_known 62 rfl) ⟨by decide, by decide⟩ ?_
      refine mm_cSl (rest := []) C1 es_X12_390 (mm_dec dk_X12_known 63 rfl) (c_X12_spelled_q x.2.1 hl (d - 1) (by omega) h i0 110 111 116 0 0 0 0 ⟨by omega, by omega⟩ ⟨by omega, by omega⟩ ⟨by omega, by omega⟩ ⟨by omega, by omega⟩ ⟨by omega, by omega⟩ ⟨by omega, by omega⟩ ⟨by omega, by omega⟩ (by omega) (by omega) (by omega) (by omega) (by omega) (by omega) (by omega)) rfl (Nat.le_of_ble_eq_true rfl) ⟨by decide, by decide⟩ rfl (fun r180 h180c hp180 => ?_) (fun _ _ q => q.elim)
      obtain ⟨z180, y180_0⟩ := hp180
      rw [z180]
      refine mm_rng (fun _ ho => ?_)
      have b180 : -9223372036854775808 ≤ r180 ∧ r180 < 9223372036854775808 := mm_ok_hd ho
      exact mm_lret C T (mm_dec dk_X12_known 64 rfl) (by decide : 0 ≤ 0) (by decide : 0 ≤ 0) ⟨_, rfl, ⟨rfl, by first | (rw [show p0 = 0 by omega]; exact y94_0.trans (by decide +kernel)) | (rw [show p0 = 1 by omega]; exact y108_0.trans (by decide +kernel)) | (rw [show p0 = 2 by omega]; exact y125_0.trans (by decide +kernel)) | (rw [show p0 = 3 by omega]; exact y139_0.trans (by decide +kernel)) | (rw [show p0 = 4 by omega]; exact y153_0.trans (by decide +kernel)) | (rw [show p0 = 5 by omega]; exact y166_0.trans (by decide +kernel)) | (rw [show p0 = 6 by omega]; exact y180_0.trans (by decide +kernel)) | (rw [show p0 = 7 by omega]; exact y196_0.trans (by decide +kernel)) | (rw [show p0 = 8 by omega]; exact y210_0.trans (by decide +kernel)) | (rw [show p0 = 9 by omega]; exact y227_0.trans (by decide +kernel)) | (rw [show p0 = 10 by omega]; exact y244_0.trans (by decide +kernel)) | (rw [show p0 = 11 by omega]; exact y260_0.trans (by decide +kernel)) | (rw [show p0 = 12 by omega]; exact y274_0.trans (by decide +kernel)) | (rw [show p0 = 13 by omega]; exact y290_0.trans (by decide +kernel)) | (rw [show p0 = 14 by omega]; exact y306_0.trans (by decide +kernel)) | (rw [show p0 = 15 by omega]; exact y321_0.trans (by decide +kernel)) | (rw [show p0 = 16 by omega]; exact y336_0.trans (by decide +kernel))⟩⟩
    · show mm_W x 0 0 184 _ _ _
      refine mm_bipush C (mm_dec dk_X12_known 65 rfl) ⟨by decide, by decide⟩ ?_
      refine mm_bipush C (mm_dec dk_X12_known 66 rfl) ⟨by decide, by decide⟩ ?_
      refine mm_bipush C (mm_dec dk_X12_known 67 rfl) ⟨by decide, by decide⟩ ?_
      refine mm_bipush C (mm_dec dk_X12_known 68 rfl) ⟨by decide, by decide⟩ ?_
      refine mm_bipush C (mm_dec dk_X12_known 69 rfl) ⟨by decide, by decide⟩ ?_
      refine mm_iconst C (mm_dec dk_X12_known 70 rfl) ⟨by decide, by decide⟩ ?_
      refine mm_iconst C (mm_dec dk_X12_known 71 rfl) ⟨by decide, by decide⟩ ?_
      refine mm_cSl (rest := []) C1 es_X12_390 (mm_dec dk_X12_known 72 rfl) (c_X12_spelled_q x.2.1 hl (d - 1) (by omega) h i0 108 105 109 105 116 0 0 ⟨by omega, by omega⟩ ⟨by omega, by omega⟩ ⟨by omega, by omega⟩ ⟨by omega, by omega⟩ ⟨by omega, by omega⟩ ⟨by omega, by omega⟩ ⟨by omega, by omega⟩ (by omega) (by omega) (by omega) (by omega) (by omega) (by omega) (by omega)) rfl (Nat.le_of_ble_eq_true rfl) ⟨by decide, by decide⟩ rfl (fun r196 h196c hp196 => ?_) (fun _ _ q => q.elim)
      obtain ⟨z196, y196_0⟩ := hp196
      rw [z196]
      refine mm_rng (fun _ ho => ?_)
      have b196 : -9223372036854775808 ≤ r196 ∧ r196 < 9223372036854775808 := mm_ok_hd ho
      exact mm_lret C T (mm_dec dk_X12_known 73 rfl) (by decide : 0 ≤ 0) (by decide : 0 ≤ 0) ⟨_, rfl, ⟨rfl, by first | (rw [show p0 = 0 by omega]; exact y94_0.trans (by decide +kernel)) | (rw [show p0 = 1 by omega]; exact y108_0.trans (by decide +kernel)) | (rw [show p0 = 2 by omega]; exact y125_0.trans (by decide +kernel)) | (rw [show p0 = 3 by omega]; exact y139_0.trans (by decide +kernel)) | (rw [show p0 = 4 by omega]; exact y153_0.trans (by decide +kernel)) | (rw [show p0 = 5 by omega]; exact y166_0.trans (by decide +kernel)) | (rw [show p0 = 6 by omega]; exact y180_0.trans (by decide +kernel)) | (rw [show p0 = 7 by omega]; exact y196_0.trans (by decide +kernel)) | (rw [show p0 = 8 by omega]; exact y210_0.trans (by decide +kernel)) | (rw [show p0 = 9 by omega]; exact y227_0.trans (by decide +kernel)) | (rw [show p0 = 10 by omega]; exact y244_0.trans (by decide +kernel)) | (rw [show p0 = 11 by omega]; exact y260_0.trans (by decide +kernel)) | (rw [show p0 = 12 by omega]; exact y274_0.trans (by decide +kernel)) | (rw [show p0 = 13 by omega]; exact y290_0.trans (by decide +kernel)) | (rw [show p0 = 14 by omega]; exact y306_0.trans (by decide +kernel)) | (rw [show p0 = 15 by omega]; exact y321_0.trans (by decide +kernel)) | (rw [show p0 = 16 by omega]; exact y336_0.trans (by decide +kernel))⟩⟩
    · show mm_W x 0 0 200 _ _ _
      refine mm_bipush C (mm_dec dk_X12_known 74 rfl) ⟨by decide, by decide⟩ ?_
      refine mm_bipush C (mm_dec dk_X12_known 75 rfl) ⟨by decide, by decide⟩ ?_
      refine mm_bipush C (mm_dec dk_X12_known 76 rfl) ⟨by decide, by decide⟩ ?_
      refine mm_iconst C (mm_dec dk_X12_known 77 rfl) ⟨by decide, by decide⟩ ?_
      refine mm_iconst C (mm_dec dk_X12_known 78 rfl) ⟨by decide, by decide⟩ ?_
      refine mm_iconst C (mm_dec dk_X12_known 79 rfl) ⟨by decide, by decide⟩ ?_
      refine mm_iconst C (mm_dec dk_X12_known 80 rfl) ⟨by decide, by decide⟩ ?_
      refine mm_cSl (rest := []) C1 es_X12_390 (mm_dec dk_X12_known 81 rfl) (c_X12_spelled_q x.2.1 hl (d - 1) (by omega) h i0 103 97 112 0 0 0 0 ⟨by omega, by omega⟩ ⟨by omega, by omega⟩ ⟨by omega, by omega⟩ ⟨by omega, by omega⟩ ⟨by omega, by omega⟩ ⟨by omega, by omega⟩ ⟨by omega, by omega⟩ (by omega) (by omega) (by omega) (by omega) (by omega) (by omega) (by omega)) rfl (Nat.le_of_ble_eq_true rfl) ⟨by decide, by decide⟩ rfl (fun r210 h210c hp210 => ?_) (fun _ _ q => q.elim)
      obtain ⟨z210, y210_0⟩ := hp210
      rw [z210]
      refine mm_rng (fun _ ho => ?_)
      have b210 : -9223372036854775808 ≤ r210 ∧ r210 < 9223372036854775808 := mm_ok_hd ho
      exact mm_lret C T (mm_dec dk_X12_known 82 rfl) (by decide : 0 ≤ 0) (by decide : 0 ≤ 0) ⟨_, rfl, ⟨rfl, by first | (rw [show p0 = 0 by omega]; exact y94_0.trans (by decide +kernel)) | (rw [show p0 = 1 by omega]; exact y108_0.trans (by decide +kernel)) | (rw [show p0 = 2 by omega]; exact y125_0.trans (by decide +kernel)) | (rw [show p0 = 3 by omega]; exact y139_0.trans (by decide +kernel)) | (rw [show p0 = 4 by omega]; exact y153_0.trans (by decide +kernel)) | (rw [show p0 = 5 by omega]; exact y166_0.trans (by decide +kernel)) | (rw [show p0 = 6 by omega]; exact y180_0.trans (by decide +kernel)) | (rw [show p0 = 7 by omega]; exact y196_0.trans (by decide +kernel)) | (rw [show p0 = 8 by omega]; exact y210_0.trans (by decide +kernel)) | (rw [show p0 = 9 by omega]; exact y227_0.trans (by decide +kernel)) | (rw [show p0 = 10 by omega]; exact y244_0.trans (by decide +kernel)) | (rw [show p0 = 11 by omega]; exact y260_0.trans (by decide +kernel)) | (rw [show p0 = 12 by omega]; exact y274_0.trans (by decide +kernel)) | (rw [show p0 = 13 by omega]; exact y290_0.trans (by decide +kernel)) | (rw [show p0 = 14 by omega]; exact y306_0.trans (by decide +kernel)) | (rw [show p0 = 15 by omega]; exact y321_0.trans (by decide +kernel)) | (rw [show p0 = 16 by omega]; exact y336_0.trans (by decide +kernel))⟩⟩
    · show mm_W x 0 0 214 _ _ _
      refine mm_bipush C (mm_dec dk_X12_known 83 rfl) ⟨by decide, by decide⟩ ?_
      refine mm_bipush C (mm_dec dk_X12_known 84 rfl) ⟨by decide, by decide⟩ ?_
      refine mm_bipush C (mm_dec dk_X12_known 85 rfl) ⟨by decide, by decide⟩ ?_
      refine mm_bipush C (mm_dec dk_X12_known 86 rfl) ⟨by decide, by decide⟩ ?_
      refine mm_bipush C (mm_dec dk_X12_known 87 rfl) ⟨by decide, by decide⟩ ?_
      refine mm_bipush C (mm_dec dk_X12_known 88 rfl) ⟨by decide, by decide⟩ ?_
      refine mm_iconst C (mm_dec dk_X12_known 89 rfl) ⟨by decide, by decide⟩ ?_
      refine mm_cSl (rest := []) C1 es_X12_390 (mm_dec dk_X12_known 90 rfl) (c_X12_spelled_q x.2.1 hl (d - 1) (by omega) h i0 119 105 110 100 111 119 0 ⟨by omega, by omega⟩ ⟨by omega, by omega⟩ ⟨by omega, by omega⟩ ⟨by omega, by omega⟩ ⟨by omega, by omega⟩ ⟨by omega, by omega⟩ ⟨by omega, by omega⟩ (by omega) (by omega) (by omega) (by omega) (by omega) (by omega) (by omega)) rfl (Nat.le_of_ble_eq_true rfl) ⟨by decide, by decide⟩ rfl (fun r227 h227c hp227 => ?_) (fun _ _ q => q.elim)
      obtain ⟨z227, y227_0⟩ := hp227
      rw [z227]
      refine mm_rng (fun _ ho => ?_)
      have b227 : -9223372036854775808 ≤ r227 ∧ r227 < 9223372036854775808 := mm_ok_hd ho
      exact mm_lret C T (mm_dec dk_X12_known 91 rfl) (by decide : 0 ≤ 0) (by decide : 0 ≤ 0) ⟨_, rfl, ⟨rfl, by first | (rw [show p0 = 0 by omega]; exact y94_0.trans (by decide +kernel)) | (rw [show p0 = 1 by omega]; exact y108_0.trans (by decide +kernel)) | (rw [show p0 = 2 by omega]; exact y125_0.trans (by decide +kernel)) | (rw [show p0 = 3 by omega]; exact y139_0.trans (by decide +kernel)) | (rw [show p0 = 4 by omega]; exact y153_0.trans (by decide +kernel)) | (rw [show p0 = 5 by omega]; exact y166_0.trans (by decide +kernel)) | (rw [show p0 = 6 by omega]; exact y180_0.trans (by decide +kernel)) | (rw [show p0 = 7 by omega]; exact y196_0.trans (by decide +kernel)) | (rw [show p0 = 8 by omega]; exact y210_0.trans (by decide +kernel)) | (rw [show p0 = 9 by omega]; exact y227_0.trans (by decide +kernel)) | (rw [show p0 = 10 by omega]; exact y244_0.trans (by decide +kernel)) | (rw [show p0 = 11 by omega]; exact y260_0.trans (by decide +kernel)) | (rw [show p0 = 12 by omega]; exact y274_0.trans (by decide +kernel)) | (rw [show p0 = 13 by omega]; exact y290_0.trans (by decide +kernel)) | (rw [show p0 = 14 by omega]; exact y306_0.trans (by decide +kernel)) | (rw [show p0 = 15 by omega]; exact y321_0.trans (by decide +kernel)) | (rw [show p0 = 16 by omega]; exact y336_0.trans (by decide +kernel))⟩⟩
    · show mm_W x 0 0 231 _ _ _
      refine mm_bipush C (mm_dec dk_X12_known 92 rfl) ⟨by decide, by decide⟩ ?_
      refine mm_bipush C (mm_dec dk_X12_known 93 rfl) ⟨by decide, by decide⟩ ?_
      refine mm_bipush C (mm_dec dk_X12_known 94 rfl) ⟨by decide, by decide⟩ ?_
      refine mm_bipush C (mm_dec dk_X12_known 95 rfl) ⟨by decide, by decide⟩ ?_
      refine mm_bipush C (mm_dec dk_X12_known 96 rfl) ⟨by decide, by decide⟩ ?_
      refine mm_bipush C (mm_dec dk_X12_known 97 rfl) ⟨by decide, by decide⟩ ?_
      refine mm_iconst C (mm_dec dk_X12_known 98 rfl) ⟨by decide, by decide⟩ ?_
      refine mm_cSl (rest := []) C1 es_X12_390 (mm_dec dk_X12_known 99 rfl) (c_X12_spelled_q x.2.1 hl (d - 1) (by omega) h i0 109 105 115 115 101 100 0 ⟨by omega, by omega⟩ ⟨by omega, by omega⟩ ⟨by omega, by omega⟩ ⟨by omega, by omega⟩ ⟨by omega, by omega⟩ ⟨by omega, by omega⟩ ⟨by omega, by omega⟩ (by omega) (by omega) (by omega) (by omega) (by omega) (by omega) (by omega)) rfl (Nat.le_of_ble_eq_true rfl) ⟨by decide, by decide⟩ rfl (fun r244 h244c hp244 => ?_) (fun _ _ q => q.elim)
      obtain ⟨z244, y244_0⟩ := hp244
      rw [z244]
      refine mm_rng (fun _ ho => ?_)
      have b244 : -9223372036854775808 ≤ r244 ∧ r244 < 9223372036854775808 := mm_ok_hd ho
      exact mm_lret C T (mm_dec dk_X12_known 100 rfl) (by decide : 0 ≤ 0) (by decide : 0 ≤ 0) ⟨_, rfl, ⟨rfl, by first | (rw [show p0 = 0 by omega]; exact y94_0.trans (by decide +kernel)) | (rw [show p0 = 1 by omega]; exact y108_0.trans (by decide +kernel)) | (rw [show p0 = 2 by omega]; exact y125_0.trans (by decide +kernel)) | (rw [show p0 = 3 by omega]; exact y139_0.trans (by decide +kernel)) | (rw [show p0 = 4 by omega]; exact y153_0.trans (by decide +kernel)) | (rw [show p0 = 5 by omega]; exact y166_0.trans (by decide +kernel)) | (rw [show p0 = 6 by omega]; exact y180_0.trans (by decide +kernel)) | (rw [show p0 = 7 by omega]; exact y196_0.trans (by decide +kernel)) | (rw [show p0 = 8 by omega]; exact y210_0.trans (by decide +kernel)) | (rw [show p0 = 9 by omega]; exact y227_0.trans (by decide +kernel)) | (rw [show p0 = 10 by omega]; exact y244_0.trans (by decide +kernel)) | (rw [show p0 = 11 by omega]; exact y260_0.trans (by decide +kernel)) | (rw [show p0 = 12 by omega]; exact y274_0.trans (by decide +kernel)) | (rw [show p0 = 13 by omega]; exact y290_0.trans (by decide +kernel)) | (rw [show p0 = 14 by omega]; exact y306_0.trans (by decide +kernel)) | (rw [show p0 = 15 by omega]; exact y321_0.trans (by decide +kernel)) | (rw [show p0 = 16 by omega]; exact y336_0.trans (by decide +kernel))⟩⟩
    · show mm_W x 0 0 248 _ _ _
      refine mm_bipush C (mm_dec dk_X12_known 101 rfl) ⟨by decide, by decide⟩ ?_
      refine mm_bipush C (mm_dec dk_X12_known 102 rfl) ⟨by decide, by decide⟩ ?_
      refine mm_bipush C (mm_dec dk_X12_known 103 rfl) ⟨by decide, by decide⟩ ?_
      refine mm_bipush C (mm_dec dk_X12_known 104 rfl) ⟨by decide, by decide⟩ ?_
      refine mm_bipush C (mm_dec dk_X12_known 105 rfl) ⟨by decide, by decide⟩ ?_
      refine mm_iconst C (mm_dec dk_X12_known 106 rfl) ⟨by decide, by decide⟩ ?_
      refine mm_iconst C (mm_dec dk_X12_known 107 rfl) ⟨by decide, by decide⟩ ?_
      refine mm_cSl (rest := []) C1 es_X12_390 (mm_dec dk_X12_known 108 rfl) (c_X12_spelled_q x.2.1 hl (d - 1) (by omega) h i0 119 114 111 110 103 0 0 ⟨by omega, by omega⟩ ⟨by omega, by omega⟩ ⟨by omega, by omega⟩ ⟨by omega, by omega⟩ ⟨by omega, by omega⟩ ⟨by omega, by omega⟩ ⟨by omega, by omega⟩ (by omega) (by omega) (by omega) (by omega) (by omega) (by omega) (by omega)) rfl (Nat.le_of_ble_eq_true rfl) ⟨by decide, by decide⟩ rfl (fun r260 h260c hp260 => ?_) (fun _ _ q => q.elim)
      obtain ⟨z260, y260_0⟩ := hp260
      rw [z260]
      refine mm_rng (fun _ ho => ?_)
      have b260 : -9223372036854775808 ≤ r260 ∧ r260 < 9223372036854775808 := mm_ok_hd ho
      exact mm_lret C T (mm_dec dk_X12_known 109 rfl) (by decide : 0 ≤ 0) (by decide : 0 ≤ 0) ⟨_, rfl, ⟨rfl, by first | (rw [show p0 = 0 by omega]; exact y94_0.trans (by decide +kernel)) | (rw [show p0 = 1 by omega]; exact y108_0.trans (by decide +kernel)) | (rw [show p0 = 2 by omega]; exact y125_0.trans (by decide +kernel)) | (rw [show p0 = 3 by omega]; exact y139_0.trans (by decide +kernel)) | (rw [show p0 = 4 by omega]; exact y153_0.trans (by decide +kernel)) | (rw [show p0 = 5 by omega]; exact y166_0.trans (by decide +kernel)) | (rw [show p0 = 6 by omega]; exact y180_0.trans (by decide +kernel)) | (rw [show p0 = 7 by omega]; exact y196_0.trans (by decide +kernel)) | (rw [show p0 = 8 by omega]; exact y210_0.trans (by decide +kernel)) | (rw [show p0 = 9 by omega]; exact y227_0.trans (by decide +kernel)) | (rw [show p0 = 10 by omega]; exact y244_0.trans (by decide +kernel)) | (rw [show p0 = 11 by omega]; exact y260_0.trans (by decide +kernel)) | (rw [show p0 = 12 by omega]; exact y274_0.trans (by decide +kernel)) | (rw [show p0 = 13 by omega]; exact y290_0.trans (by decide +kernel)) | (rw [show p0 = 14 by omega]; exact y306_0.trans (by decide +kernel)) | (rw [show p0 = 15 by omega]; exact y321_0.trans (by decide +kernel)) | (rw [show p0 = 16 by omega]; exact y336_0.trans (by decide +kernel))⟩⟩
    · show mm_W x 0 0 264 _ _ _
      refine mm_bipush C (mm_dec dk_X12_known 110 rfl) ⟨by decide, by decide⟩ ?_
      refine mm_bipush C (mm_dec dk_X12_known 111 rfl) ⟨by decide, by decide⟩ ?_
      refine mm_bipush C (mm_dec dk_X12_known 112 rfl) ⟨by decide, by decide⟩ ?_
      refine mm_iconst C (mm_dec dk_X12_known 113 rfl) ⟨by decide, by decide⟩ ?_
      refine mm_iconst C (mm_dec dk_X12_known 114 rfl) ⟨by decide, by decide⟩ ?_
      refine mm_iconst C (mm_dec dk_X12_known 115 rfl) ⟨by decide, by decide⟩ ?_
      refine mm_iconst C (mm_dec dk_X12_known 116 rfl) ⟨by decide, by decide⟩ ?_
      refine mm_cSl (rest := []) C1 es_X12_390 (mm_dec dk_X12_known 117 rfl) (c_X12_spelled_q x.2.1 hl (d - 1) (by omega) h i0 114 117 110 0 0 0 0 ⟨by omega, by omega⟩ ⟨by omega, by omega⟩ ⟨by omega, by omega⟩ ⟨by omega, by omega⟩ ⟨by omega, by omega⟩ ⟨by omega, by omega⟩ ⟨by omega, by omega⟩ (by omega) (by omega) (by omega) (by omega) (by omega) (by omega) (by omega)) rfl (Nat.le_of_ble_eq_true rfl) ⟨by decide, by decide⟩ rfl (fun r274 h274c hp274 => ?_) (fun _ _ q => q.elim)
      obtain ⟨z274, y274_0⟩ := hp274
      rw [z274]
      refine mm_rng (fun _ ho => ?_)
      have b274 : -9223372036854775808 ≤ r274 ∧ r274 < 9223372036854775808 := mm_ok_hd ho
      exact mm_lret C T (mm_dec dk_X12_known 118 rfl) (by decide : 0 ≤ 0) (by decide : 0 ≤ 0) ⟨_, rfl, ⟨rfl, by first | (rw [show p0 = 0 by omega]; exact y94_0.trans (by decide +kernel)) | (rw [show p0 = 1 by omega]; exact y108_0.trans (by decide +kernel)) | (rw [show p0 = 2 by omega]; exact y125_0.trans (by decide +kernel)) | (rw [show p0 = 3 by omega]; exact y139_0.trans (by decide +kernel)) | (rw [show p0 = 4 by omega]; exact y153_0.trans (by decide +kernel)) | (rw [show p0 = 5 by omega]; exact y166_0.trans (by decide +kernel)) | (rw [show p0 = 6 by omega]; exact y180_0.trans (by decide +kernel)) | (rw [show p0 = 7 by omega]; exact y196_0.trans (by decide +kernel)) | (rw [show p0 = 8 by omega]; exact y210_0.trans (by decide +kernel)) | (rw [show p0 = 9 by omega]; exact y227_0.trans (by decide +kernel)) | (rw [show p0 = 10 by omega]; exact y244_0.trans (by decide +kernel)) | (rw [show p0 = 11 by omega]; exact y260_0.trans (by decide +kernel)) | (rw [show p0 = 12 by omega]; exact y274_0.trans (by decide +kernel)) | (rw [show p0 = 13 by omega]; exact y290_0.trans (by decide +kernel)) | (rw [show p0 = 14 by omega]; exact y306_0.trans (by decide +kernel)) | (rw [show p0 = 15 by omega]; exact y321_0.trans (by decide +kernel)) | (rw [show p0 = 16 by omega]; exact y336_0.trans (by decide +kernel))⟩⟩
    · show mm_W x 0 0 278 _ _ _
      refine mm_bipush C (mm_dec dk_X12_known 119 rfl) ⟨by decide, by decide⟩ ?_
      refine mm_bipush C (mm_dec dk_X12_known 120 rfl) ⟨by decide, by decide⟩ ?_
      refine mm_bipush C (mm_dec dk_X12_known 121 rfl) ⟨by decide, by decide⟩ ?_
      refine mm_bipush C (mm_dec dk_X12_known 122 rfl) ⟨by decide, by decide⟩ ?_
      refine mm_bipush C (mm_dec dk_X12_known 123 rfl) ⟨by decide, by decide⟩ ?_
      refine mm_iconst C (mm_dec dk_X12_known 124 rfl) ⟨by decide, by decide⟩ ?_
      refine mm_iconst C (mm_dec dk_X12_known 125 rfl) ⟨by decide, by decide⟩ ?_
      refine mm_cSl (rest := []) C1 es_X12_390 (mm_dec dk_X12_known 126 rfl) (c_X12_spelled_q x.2.1 hl (d - 1) (by omega) h i0 115 99 111 114 101 0 0 ⟨by omega, by omega⟩ ⟨by omega, by omega⟩ ⟨by omega, by omega⟩ ⟨by omega, by omega⟩ ⟨by omega, by omega⟩ ⟨by omega, by omega⟩ ⟨by omega, by omega⟩ (by omega) (by omega) (by omega) (by omega) (by omega) (by omega) (by omega)) rfl (Nat.le_of_ble_eq_true rfl) ⟨by decide, by decide⟩ rfl (fun r290 h290c hp290 => ?_) (fun _ _ q => q.elim)
      obtain ⟨z290, y290_0⟩ := hp290
      rw [z290]
      refine mm_rng (fun _ ho => ?_)
      have b290 : -9223372036854775808 ≤ r290 ∧ r290 < 9223372036854775808 := mm_ok_hd ho
      exact mm_lret C T (mm_dec dk_X12_known 127 rfl) (by decide : 0 ≤ 0) (by decide : 0 ≤ 0) ⟨_, rfl, ⟨rfl, by first | (rw [show p0 = 0 by omega]; exact y94_0.trans (by decide +kernel)) | (rw [show p0 = 1 by omega]; exact y108_0.trans (by decide +kernel)) | (rw [show p0 = 2 by omega]; exact y125_0.trans (by decide +kernel)) | (rw [show p0 = 3 by omega]; exact y139_0.trans (by decide +kernel)) | (rw [show p0 = 4 by omega]; exact y153_0.trans (by decide +kernel)) | (rw [show p0 = 5 by omega]; exact y166_0.trans (by decide +kernel)) | (rw [show p0 = 6 by omega]; exact y180_0.trans (by decide +kernel)) | (rw [show p0 = 7 by omega]; exact y196_0.trans (by decide +kernel)) | (rw [show p0 = 8 by omega]; exact y210_0.trans (by decide +kernel)) | (rw [show p0 = 9 by omega]; exact y227_0.trans (by decide +kernel)) | (rw [show p0 = 10 by omega]; exact y244_0.trans (by decide +kernel)) | (rw [show p0 = 11 by omega]; exact y260_0.trans (by decide +kernel)) | (rw [show p0 = 12 by omega]; exact y274_0.trans (by decide +kernel)) | (rw [show p0 = 13 by omega]; exact y290_0.trans (by decide +kernel)) | (rw [show p0 = 14 by omega]; exact y306_0.trans (by decide +kernel)) | (rw [show p0 = 15 by omega]; exact y321_0.trans (by decide +kernel)) | (rw [show p0 = 16 by omega]; exact y336_0.trans (by decide +kernel))⟩⟩
    · show mm_W x 0 0 294 _ _ _
      refine mm_bipush C (mm_dec dk_X12_known 128 rfl) ⟨by decide, by decide⟩ ?_
      refine mm_bipush C (mm_dec dk_X12_known 129 rfl) ⟨by decide, by decide⟩ ?_
      refine mm_bipush C (mm_dec dk_X12_known 130 rfl) ⟨by decide, by decide⟩ ?_
      refine mm_bipush C (mm_dec dk_X12_known 131 rfl) ⟨by decide, by decide⟩ ?_
      refine mm_bipush C (mm_dec dk_X12_known 132 rfl) ⟨by decide, by decide⟩ ?_
      refine mm_iconst C (mm_dec dk_X12_known 133 rfl) ⟨by decide, by decide⟩ ?_
      refine mm_iconst C (mm_dec dk_X12_known 134 rfl) ⟨by decide, by decide⟩ ?_
      refine mm_cSl (rest := []) C1 es_X12_390 (mm_dec dk_X12_known 135 rfl) (c_X12_spelled_q x.2.1 hl (d - 1) (by omega) h i0 112 111 115 116 115 0 0 ⟨by omega, by omega⟩ ⟨by omega, by omega⟩ ⟨by omega, by omega⟩ ⟨by omega, by omega⟩ ⟨by omega, by omega⟩ ⟨by omega, by omega⟩ ⟨by omega, by omega⟩ (by omega) (by omega) (by omega) (by omega) (by omega) (by omega) (by omega)) rfl (Nat.le_of_ble_eq_true rfl) ⟨by decide, by decide⟩ rfl (fun r306 h306c hp306 => ?_) (fun _ _ q => q.elim)
      obtain ⟨z306, y306_0⟩ := hp306
      rw [z306]
      refine mm_rng (fun _ ho => ?_)
      have b306 : -9223372036854775808 ≤ r306 ∧ r306 < 9223372036854775808 := mm_ok_hd ho
      exact mm_lret C T (mm_dec dk_X12_known 136 rfl) (by decide : 0 ≤ 0) (by decide : 0 ≤ 0) ⟨_, rfl, ⟨rfl, by first | (rw [show p0 = 0 by omega]; exact y94_0.trans (by decide +kernel)) | (rw [show p0 = 1 by omega]; exact y108_0.trans (by decide +kernel)) | (rw [show p0 = 2 by omega]; exact y125_0.trans (by decide +kernel)) | (rw [show p0 = 3 by omega]; exact y139_0.trans (by decide +kernel)) | (rw [show p0 = 4 by omega]; exact y153_0.trans (by decide +kernel)) | (rw [show p0 = 5 by omega]; exact y166_0.trans (by decide +kernel)) | (rw [show p0 = 6 by omega]; exact y180_0.trans (by decide +kernel)) | (rw [show p0 = 7 by omega]; exact y196_0.trans (by decide +kernel)) | (rw [show p0 = 8 by omega]; exact y210_0.trans (by decide +kernel)) | (rw [show p0 = 9 by omega]; exact y227_0.trans (by decide +kernel)) | (rw [show p0 = 10 by omega]; exact y244_0.trans (by decide +kernel)) | (rw [show p0 = 11 by omega]; exact y260_0.trans (by decide +kernel)) | (rw [show p0 = 12 by omega]; exact y274_0.trans (by decide +kernel)) | (rw [show p0 = 13 by omega]; exact y290_0.trans (by decide +kernel)) | (rw [show p0 = 14 by omega]; exact y306_0.trans (by decide +kernel)) | (rw [show p0 = 15 by omega]; exact y321_0.trans (by decide +kernel)) | (rw [show p0 = 16 by omega]; exact y336_0.trans (by decide +kernel))⟩⟩
    · show mm_W x 0 0 310 _ _ _
      refine mm_bipush C (mm_dec dk_X12_known 137 rfl) ⟨by decide, by decide⟩ ?_
      refine mm_bipush C (mm_dec dk_X12_known 138 rfl) ⟨by decide, by decide⟩ ?_
      refine mm_bipush C (mm_dec dk_X12_known 139 rfl) ⟨by decide, by decide⟩ ?_
      refine mm_bipush C (mm_dec dk_X12_known 140 rfl) ⟨by decide, by decide⟩ ?_
      refine mm_iconst C (mm_dec dk_X12_known 141 rfl) ⟨by decide, by decide⟩ ?_
      refine mm_iconst C (mm_dec dk_X12_known 142 rfl) ⟨by decide, by decide⟩ ?_
      refine mm_iconst C (mm_dec dk_X12_known 143 rfl) ⟨by decide, by decide⟩ ?_
      refine mm_cSl (rest := []) C1 es_X12_390 (mm_dec dk_X12_known 144 rfl) (c_X12_spelled_q x.2.1 hl (d - 1) (by omega) h i0 99 108 117 98 0 0 0 ⟨by omega, by omega⟩ ⟨by omega, by omega⟩ ⟨by omega, by omega⟩ ⟨by omega, by omega⟩ ⟨by omega, by omega⟩ ⟨by omega, by omega⟩ ⟨by omega, by omega⟩ (by omega) (by omega) (by omega) (by omega) (by omega) (by omega) (by omega)) rfl (Nat.le_of_ble_eq_true rfl) ⟨by decide, by decide⟩ rfl (fun r321 h321c hp321 => ?_) (fun _ _ q => q.elim)
      obtain ⟨z321, y321_0⟩ := hp321
      rw [z321]
      refine mm_rng (fun _ ho => ?_)
      have b321 : -9223372036854775808 ≤ r321 ∧ r321 < 9223372036854775808 := mm_ok_hd ho
      exact mm_lret C T (mm_dec dk_X12_known 145 rfl) (by decide : 0 ≤ 0) (by decide : 0 ≤ 0) ⟨_, rfl, ⟨rfl, by first | (rw [show p0 = 0 by omega]; exact y94_0.trans (by decide +kernel)) | (rw [show p0 = 1 by omega]; exact y108_0.trans (by decide +kernel)) | (rw [show p0 = 2 by omega]; exact y125_0.trans (by decide +kernel)) | (rw [show p0 = 3 by omega]; exact y139_0.trans (by decide +kernel)) | (rw [show p0 = 4 by omega]; exact y153_0.trans (by decide +kernel)) | (rw [show p0 = 5 by omega]; exact y166_0.trans (by decide +kernel)) | (rw [show p0 = 6 by omega]; exact y180_0.trans (by decide +kernel)) | (rw [show p0 = 7 by omega]; exact y196_0.trans (by decide +kernel)) | (rw [show p0 = 8 by omega]; exact y210_0.trans (by decide +kernel)) | (rw [show p0 = 9 by omega]; exact y227_0.trans (by decide +kernel)) | (rw [show p0 = 10 by omega]; exact y244_0.trans (by decide +kernel)) | (rw [show p0 = 11 by omega]; exact y260_0.trans (by decide +kernel)) | (rw [show p0 = 12 by omega]; exact y274_0.trans (by decide +kernel)) | (rw [show p0 = 13 by omega]; exact y290_0.trans (by decide +kernel)) | (rw [show p0 = 14 by omega]; exact y306_0.trans (by decide +kernel)) | (rw [show p0 = 15 by omega]; exact y321_0.trans (by decide +kernel)) | (rw [show p0 = 16 by omega]; exact y336_0.trans (by decide +kernel))⟩⟩
set_option maxRecDepth 100000 in
set_option maxHeartbeats 20000000 in
theorem c_X12_goes_q (l : Launch) (hl : l.stackTraces = false) (d : Nat) (hd : 1 ≤ d) (h : mH) (i0 : mm_inv h) : mm_Met l d yX12_goes cX12_goes 2 none [mR 66] h (mm_pv fun h2 => mm_inv h2 ∧ mm_fr [(66, 60), (66, 61), (66, 62), (66, 63), (66, 64), (66, 65), (66, 66)] [] h h2 ∧ h.1 66 60 ≤ h2.1 66 62 ∧ h2.1 66 62 ≤ h2.1 66 60 ∧ (h2.1 66 61 = 0 ∨ h2.1 66 62 < h2.1 66 60) ∧ mm_aY h2 ∧ h2.1 66 62 = mm_skp (mm_UY h) (h.1 66 59) (h.1 66 60)) mm_nx 0 0 := by
  refine mm_ofW (ls := [mR 66, mU]) hl (by decide) rfl (Nat.le_of_ble_eq_true rfl) ?_
  intro x hxl C T hnm htb
  subst hxl
  have C1 := mm_OK_le (d' := d - 1 + 1) (by omega) C
  have f0 : mm_fr [(66, 60), (66, 61), (66, 62), (66, 63), (66, 64), (66, 65), (66, 66)] [] h h := mm_fr_rf
  have g1 : 0 ≤ h.1 66 60 ∧ h.1 66 60 ≤ 500 := i0.1 66 60
  have g2 : 0 ≤ h.1 66 59 ∧ h.1 66 59 ≤ 500 := i0.1 66 59
  have g3 : 0 ≤ h.1 66 62 ∧ h.1 66 62 ≤ 500 := i0.1 66 62
  have g4 : -2147483648 ≤ h.1 66 61 ∧ h.1 66 61 ≤ 2147483647 := i0.1 66 61
  have g5 : -2147483648 ≤ h.1 66 64 ∧ h.1 66 64 ≤ 2147483647 := i0.1 66 64
  have g6 : -2147483648 ≤ h.1 66 65 ∧ h.1 66 65 ≤ 2147483647 := i0.1 66 65
  have g7 : -2147483648 ≤ h.1 66 63 ∧ h.1 66 63 ≤ 2147483647 := i0.1 66 63
  have g8 : -9223372036854775808 ≤ h.1 66 66 ∧ h.1 66 66 ≤ 9223372036854775807 := i0.1 66 66
  have J0 : ∀ (n : Nat) (h0_ : mH) (i0_ : mm_inv h0_) (f0_ : mm_fr [(66, 60), (66, 61), (66, 62), (66, 63), (66, 64), (66, 65), (66, 66)] [] h h0_) (w0_0 : h.1 66 60 ≤ h0_.1 66 60) (w0_1 : mm_skp (mm_UY h) (h.1 66 59) (h0_.1 66 60) = mm_skp (mm_UY h) (h.1 66 59) (h.1 66 60)), (500 - h0_.1 66 60 : Int) < n → mm_W x 0 0 0 [mR 66, mU] [] h0_ := by
    intro n
    induction n with
    | zero =>
      intro h0_ i0_ f0_ w0_0 w0_1 hm
      have g9 : 0 ≤ h0_.1 66 60 ∧ h0_.1 66 60 ≤ 500 := i0_.1 66 60
      have g10 : 0 ≤ h0_.1 66 59 ∧ h0_.1 66 59 ≤ 500 := i0_.1 66 59
      have g11 : 0 ≤ h0_.1 66 62 ∧ h0_.1 66 62 ≤ 500 := i0_.1 66 62
      have g12 : -2147483648 ≤ h0_.1 66 61 ∧ h0_.1 66 61 ≤ 2147483647 := i0_.1 66 61
      have g13 : -2147483648 ≤ h0_.1 66 64 ∧ h0_.1 66 64 ≤ 2147483647 := i0_.1 66 64
      have g14 : -2147483648 ≤ h0_.1 66 65 ∧ h0_.1 66 65 ≤ 2147483647 := i0_.1 66 65
      have g15 : -2147483648 ≤ h0_.1 66 63 ∧ h0_.1 66 63 ≤ 2147483647 := i0_.1 66 63
      have g16 : -9223372036854775808 ≤ h0_.1 66 66 ∧ h0_.1 66 66 ≤ 9223372036854775807 := i0_.1 66 66
      exfalso; omega
    | succ n ih0 =>
      intro h0_ i0_ f0_ w0_0 w0_1 hm0
      have g17 : 0 ≤ h0_.1 66 60 ∧ h0_.1 66 60 ≤ 500 := i0_.1 66 60
      have g18 : 0 ≤ h0_.1 66 59 ∧ h0_.1 66 59 ≤ 500 := i0_.1 66 59
      have g19 : 0 ≤ h0_.1 66 62 ∧ h0_.1 66 62 ≤ 500 := i0_.1 66 62
      have g20 : -2147483648 ≤ h0_.1 66 61 ∧ h0_.1 66 61 ≤ 2147483647 := i0_.1 66 61
      have g21 : -2147483648 ≤ h0_.1 66 64 ∧ h0_.1 66 64 ≤ 2147483647 := i0_.1 66 64
      have g22 : -2147483648 ≤ h0_.1 66 65 ∧ h0_.1 66 65 ≤ 2147483647 := i0_.1 66 65
      have g23 : -2147483648 ≤ h0_.1 66 63 ∧ h0_.1 66 63 ≤ 2147483647 := i0_.1 66 63
      have g24 : -9223372036854775808 ≤ h0_.1 66 66 ∧ h0_.1 66 66 ≤ 9223372036854775807 := i0_.1 66 66
      have g25 : h0_.1 66 59 = h.1 66 59 := f0_.1 66 59 (by decide)
      refine mm_aload_n C (mm_dec dk_X12_goes 0 rfl) rfl ?_
      refine mm_geti C fl_X12_359 (mm_dec dk_X12_goes 1 rfl) rfl rfl (Or.inl rfl) ?_
      refine mm_aload_n C (mm_dec dk_X12_goes 2 rfl) rfl ?_
      refine mm_geti C fl_X12_356 (mm_dec dk_X12_goes 3 rfl) rfl rfl (Or.inl rfl) ?_
      have J50 : ∀ (w50_0 : h0_.1 66 60 = mm_skp (mm_UY h) (h.1 66 59) (h.1 66 60)), mm_W x 0 0 50 [mR 66, mU] [] h0_ := by
        intro w50_0
        have g26 : 0 ≤ h0_.1 66 60 ∧ h0_.1 66 60 ≤ 500 := i0_.1 66 60
        have g27 : 0 ≤ h0_.1 66 59 ∧ h0_.1 66 59 ≤ 500 := i0_.1 66 59
        have g28 : 0 ≤ h0_.1 66 62 ∧ h0_.1 66 62 ≤ 500 := i0_.1 66 62
        have g29 : -2147483648 ≤ h0_.1 66 61 ∧ h0_.1 66 61 ≤ 2147483647 := i0_.1 66 61
        have g30 : -2147483648 ≤ h0_.1 66 64 ∧ h0_.1 66 64 ≤ 2147483647 := i0_.1 66 64
        have g31 : -2147483648 ≤ h0_.1 66 65 ∧ h0_.1 66 65 ≤ 2147483647 := i0_.1 66 65
        have g32 : -2147483648 ≤ h0_.1 66 63 ∧ h0_.1 66 63 ≤ 2147483647 := i0_.1 66 63
        have g33 : -9223372036854775808 ≤ h0_.1 66 66 ∧ h0_.1 66 66 ≤ 9223372036854775807 := i0_.1 66 66
        refine mm_aload_n C (mm_dec dk_X12_goes 24 rfl) rfl ?_
        refine mm_aload_n C (mm_dec dk_X12_goes 25 rfl) rfl ?_
        refine mm_geti C fl_X12_359 (mm_dec dk_X12_goes 26 rfl) rfl rfl (Or.inl rfl) ?_
        refine mm_puti C fl_X12_365 (mm_dec dk_X12_goes 27 rfl) rfl rfl rfl (Or.inl ⟨rfl, rfl⟩) ?_
        have i1 : mm_inv (mm_pf h0_ 66 62 (h0_.1 66 60)) := mm_inv_pf i0_ (show 0 ≤ (h0_.1 66 60) ∧ (h0_.1 66 60) ≤ 500 from ⟨by omega, by omega⟩) (by decide)
        have f1 : mm_fr [(66, 60), (66, 61), (66, 62), (66, 63), (66, 64), (66, 65), (66, 66)] [] h (mm_pf h0_ 66 62 (h0_.1 66 60)) := mm_fr_pf f0_ (by decide)
        obtain ⟨h1, eh1⟩ : ∃ z, z = mm_pf h0_ 66 62 (h0_.1 66 60) := ⟨_, rfl⟩
        rw [← eh1] at i1 f1 ⊢
        have qh1 : h1.1 66 62 = (h0_.1 66 60) := by rw [eh1]; exact mm_pf_same _ _ _ _
        have qh1_34 : h1.1 66 59 = h0_.1 66 59 := by rw [eh1]; exact mm_pf_ne _ _ (by decide)
        have qh1_35 : h1.1 66 60 = h0_.1 66 60 := by rw [eh1]; exact mm_pf_ne _ _ (by decide)
        have qh1_36 : h1.1 66 61 = h0_.1 66 61 := by rw [eh1]; exact mm_pf_ne _ _ (by decide)
        have qh1_37 : h1.1 66 63 = h0_.1 66 63 := by rw [eh1]; exact mm_pf_ne _ _ (by decide)
        have qh1_38 : h1.1 66 64 = h0_.1 66 64 := by rw [eh1]; exact mm_pf_ne _ _ (by decide)
        have qh1_39 : h1.1 66 65 = h0_.1 66 65 := by rw [eh1]; exact mm_pf_ne _ _ (by decide)
        have qh1_40 : h1.1 66 66 = h0_.1 66 66 := by rw [eh1]; exact mm_pf_ne _ _ (by decide)
        refine mm_aload_n C (mm_dec dk_X12_goes 28 rfl) rfl ?_
        refine mm_lconst (z := 0) C (mm_dec dk_X12_goes 29 rfl) rfl ?_
        refine mm_putl C fl_X12_368 (mm_dec dk_X12_goes 30 rfl) rfl rfl rfl rfl ?_
        have i2 : mm_inv (mm_pf h1 66 66 0) := mm_inv_pf i1 (show -9223372036854775808 ≤ 0 ∧ 0 ≤ 9223372036854775807 from ⟨by omega, by omega⟩) (by decide)
        have f2 : mm_fr [(66, 60), (66, 61), (66, 62), (66, 63), (66, 64), (66, 65), (66, 66)] [] h (mm_pf h1 66 66 0) := mm_fr_pf f1 (by decide)
        obtain ⟨h2, eh2⟩ : ∃ z, z = mm_pf h1 66 66 0 := ⟨_, rfl⟩
        rw [← eh2] at i2 f2 ⊢
        have qh2 : h2.1 66 66 = 0 := by rw [eh2]; exact mm_pf_same _ _ _ _
        have qh2_41 : h2.1 66 59 = h1.1 66 59 := by rw [eh2]; exact mm_pf_ne _ _ (by decide)
        have qh2_42 : h2.1 66 60 = h1.1 66 60 := by rw [eh2]; exact mm_pf_ne _ _ (by decide)
        have qh2_43 : h2.1 66 61 = h1.1 66 61 := by rw [eh2]; exact mm_pf_ne _ _ (by decide)
        have qh2_44 : h2.1 66 62 = h1.1 66 62 := by rw [eh2]; exact mm_pf_ne _ _ (by decide)
        have qh2_45 : h2.1 66 63 = h1.1 66 63 := by rw [eh2]; exact mm_pf_ne _ _ (by decide)
        have qh2_46 : h2.1 66 64 = h1.1 66 64 := by rw [eh2]; exact mm_pf_ne _ _ (by decide)
        have qh2_47 : h2.1 66 65 = h1.1 66 65 := by rw [eh2]; exact mm_pf_ne _ _ (by decide)
        refine mm_aload_n C (mm_dec dk_X12_goes 31 rfl) rfl ?_
        refine mm_iconst C (mm_dec dk_X12_goes 32 rfl) ⟨by decide, by decide⟩ ?_
        refine mm_puti C fl_X12_372 (mm_dec dk_X12_goes 33 rfl) rfl rfl rfl (Or.inl ⟨rfl, rfl⟩) ?_
        have i3 : mm_inv (mm_pf h2 66 64 0) := mm_inv_pf i2 (show -2147483648 ≤ 0 ∧ 0 ≤ 2147483647 from ⟨by omega, by omega⟩) (by decide)
        have f3 : mm_fr [(66, 60), (66, 61), (66, 62), (66, 63), (66, 64), (66, 65), (66, 66)] [] h (mm_pf h2 66 64 0) := mm_fr_pf f2 (by decide)
        obtain ⟨h3, eh3⟩ : ∃ z, z = mm_pf h2 66 64 0 := ⟨_, rfl⟩
        rw [← eh3] at i3 f3 ⊢
        have qh3 : h3.1 66 64 = 0 := by rw [eh3]; exact mm_pf_same _ _ _ _
        have qh3_48 : h3.1 66 59 = h2.1 66 59 := by rw [eh3]; exact mm_pf_ne _ _ (by decide)
        have qh3_49 : h3.1 66 60 = h2.1 66 60 := by rw [eh3]; exact mm_pf_ne _ _ (by decide)
        have qh3_50 : h3.1 66 61 = h2.1 66 61 := by rw [eh3]; exact mm_pf_ne _ _ (by decide)
        have qh3_51 : h3.1 66 62 = h2.1 66 62 := by rw [eh3]; exact mm_pf_ne _ _ (by decide)
        have qh3_52 : h3.1 66 63 = h2.1 66 63 := by rw [eh3]; exact mm_pf_ne _ _ (by decide)
        have qh3_53 : h3.1 66 65 = h2.1 66 65 := by rw [eh3]; exact mm_pf_ne _ _ (by decide)
        have qh3_54 : h3.1 66 66 = h2.1 66 66 := by rw [eh3]; exact mm_pf_ne _ _ (by decide)
        refine mm_aload_n C (mm_dec dk_X12_goes 34 rfl) rfl ?_
        refine mm_aload_n C (mm_dec dk_X12_goes 35 rfl) rfl ?_
        refine mm_geti C fl_X12_359 (mm_dec dk_X12_goes 36 rfl) rfl rfl (Or.inl rfl) ?_
        refine mm_cVi (rest := []) C1 ev_X12_362 (mm_dec dk_X12_goes 37 rfl) (c_X12_byteAt x.2.1 hl (d - 1) (by omega) h3 i3 (h3.1 66 60) ⟨by omega, by omega⟩) rfl rfl (Nat.le_of_ble_eq_true rfl) ⟨by decide, by decide⟩ rfl (fun r73 h73c hp73 => ?_) (fun _ _ q => q.elim)
        obtain ⟨z73, y73⟩ := hp73
        rw [z73]
        have g56 : -2147483648 ≤ (h3.2.1 101 (h3.1 66 60)) ∧ (h3.2.1 101 (h3.1 66 60)) ≤ 2147483647 := i3.2.1 101 (h3.1 66 60)
        refine mm_istore_nL (ls2 := [mR 66, mI r73]) C (mm_dec dk_X12_goes 38 rfl) (by decide) rfl ?_
        refine mm_aload_n C (mm_dec dk_X12_goes 39 rfl) rfl ?_
        refine mm_iload_n C (mm_dec dk_X12_goes 40 rfl) rfl ?_
        refine mm_puti C fl_X12_375 (mm_dec dk_X12_goes 41 rfl) rfl rfl rfl (Or.inl ⟨rfl, rfl⟩) ?_
        have i4 : mm_inv (mm_pf h3 66 65 r73) := mm_inv_pf i3 (show -2147483648 ≤ r73 ∧ r73 ≤ 2147483647 from ⟨by omega, by omega⟩) (by decide)
        have f4 : mm_fr [(66, 60), (66, 61), (66, 62), (66, 63), (66, 64), (66, 65), (66, 66)] [] h (mm_pf h3 66 65 r73) := mm_fr_pf f3 (by decide)
        obtain ⟨h4, eh4⟩ : ∃ z, z = mm_pf h3 66 65 r73 := ⟨_, rfl⟩
        rw [← eh4] at i4 f4 ⊢
        have qh4 : h4.1 66 65 = r73 := by rw [eh4]; exact mm_pf_same _ _ _ _
        have qh4_57 : h4.1 66 59 = h3.1 66 59 := by rw [eh4]; exact mm_pf_ne _ _ (by decide)
        have qh4_58 : h4.1 66 60 = h3.1 66 60 := by rw [eh4]; exact mm_pf_ne _ _ (by decide)
        have qh4_59 : h4.1 66 61 = h3.1 66 61 := by rw [eh4]; exact mm_pf_ne _ _ (by decide)
        have qh4_60 : h4.1 66 62 = h3.1 66 62 := by rw [eh4]; exact mm_pf_ne _ _ (by decide)
        have qh4_61 : h4.1 66 63 = h3.1 66 63 := by rw [eh4]; exact mm_pf_ne _ _ (by decide)
        have qh4_62 : h4.1 66 64 = h3.1 66 64 := by rw [eh4]; exact mm_pf_ne _ _ (by decide)
        have qh4_63 : h4.1 66 66 = h3.1 66 66 := by rw [eh4]; exact mm_pf_ne _ _ (by decide)
        have zz : h4.2.1 101 (h4.1 66 60) = h3.2.1 101 (h3.1 66 60) := by rw [eh4]; rfl
        refine mm_aload_n C (mm_dec dk_X12_goes 42 rfl) rfl ?_
        refine mm_geti C fl_X12_359 (mm_dec dk_X12_goes 43 rfl) rfl rfl (Or.inl rfl) ?_
        refine mm_aload_n C (mm_dec dk_X12_goes 44 rfl) rfl ?_
        refine mm_geti C fl_X12_356 (mm_dec dk_X12_goes 45 rfl) rfl rfl (Or.inl rfl) ?_
        have J331 : ∀ (h331_ : mH) (i331_ : mm_inv h331_) (f331_ : mm_fr [(66, 60), (66, 61), (66, 62), (66, 63), (66, 64), (66, 65), (66, 66)] [] h h331_) (w331_0 : h.1 66 60 ≤ h331_.1 66 62) (w331_1 : h331_.1 66 62 ≤ h331_.1 66 60) (w331_2 : (h331_.1 66 61 = 0 ∨ h331_.1 66 62 < h331_.1 66 60)) (w331_3 : h331_.1 66 62 = mm_skp (mm_UY h) (h.1 66 59) (h.1 66 60)) (w331_4 : mm_aY0 (mm_UY h) (h.1 66 59) h331_), mm_W x 0 0 331 [mR 66, mU] [] h331_ := by
          intro h331_ i331_ f331_ w331_0 w331_1 w331_2 w331_3 w331_4
          have g64 : 0 ≤ h331_.1 66 60 ∧ h331_.1 66 60 ≤ 500 := i331_.1 66 60
          have g65 : 0 ≤ h331_.1 66 59 ∧ h331_.1 66 59 ≤ 500 := i331_.1 66 59
          have g66 : 0 ≤ h331_.1 66 62 ∧ h331_.1 66 62 ≤ 500 := i331_.1 66 62
          have g67 : -2147483648 ≤ h331_.1 66 61 ∧ h331_.1 66 61 ≤ 2147483647 := i331_.1 66 61
          have g68 : -2147483648 ≤ h331_.1 66 64 ∧ h331_.1 66 64 ≤ 2147483647 := i331_.1 66 64
          have g69 : -2147483648 ≤ h331_.1 66 65 ∧ h331_.1 66 65 ≤ 2147483647 := i331_.1 66 65
          have g70 : -2147483648 ≤ h331_.1 66 63 ∧ h331_.1 66 63 ≤ 2147483647 := i331_.1 66 63
          have g71 : -9223372036854775808 ≤ h331_.1 66 66 ∧ h331_.1 66 66 ≤ 9223372036854775807 := i331_.1 66 66
          have g72 : h331_.1 66 59 = h.1 66 59 := f331_.1 66 59 (by decide)
          refine mm_aload_n C (mm_dec dk_X12_goes 170 rfl) rfl ?_
          refine mm_aload_n C (mm_dec dk_X12_goes 171 rfl) rfl ?_
          refine mm_geti C fl_X12_359 (mm_dec dk_X12_goes 172 rfl) rfl rfl (Or.inl rfl) ?_
          refine mm_aload_n C (mm_dec dk_X12_goes 173 rfl) rfl ?_
          refine mm_geti C fl_X12_365 (mm_dec dk_X12_goes 174 rfl) rfl rfl (Or.inl rfl) ?_
          refine mm_isub C (mm_dec dk_X12_goes 175 rfl) ⟨by omega, by omega⟩ ?_
          refine mm_puti C fl_X12_387 (mm_dec dk_X12_goes 176 rfl) rfl rfl rfl (Or.inl ⟨rfl, rfl⟩) ?_
          have i5 : mm_inv (mm_pf h331_ 66 63 ((h331_.1 66 60) - (h331_.1 66 62))) := mm_inv_pf i331_ (show -2147483648 ≤ ((h331_.1 66 60) - (h331_.1 66 62)) ∧ ((h331_.1 66 60) - (h331_.1 66 62)) ≤ 2147483647 from ⟨by omega, by omega⟩) (by decide)
          have f5 : mm_fr [(66, 60), (66, 61), (66, 62), (66, 63), (66, 64), (66, 65), (66, 66)] [] h (mm_pf h331_ 66 63 ((h331_.1 66 60) - (h331_.1 66 62))) := mm_fr_pf f331_ (by decide)
          obtain ⟨h5, eh5⟩ : ∃ z, z = mm_pf h331_ 66 63 ((h331_.1 66 60) - (h331_.1 66 62)) := ⟨_, rfl⟩
          rw [← eh5] at i5 f5 ⊢
          have qh5 : h5.1 66 63 = ((h331_.1 66 60) - (h331_.1 66 62)) := by rw [eh5]; exact mm_pf_same _ _ _ _
          have qh5_73 : h5.1 66 59 = h331_.1 66 59 := by rw [eh5]; exact mm_pf_ne _ _ (by decide)
          have qh5_74 : h5.1 66 60 = h331_.1 66 60 := by rw [eh5]; exact mm_pf_ne _ _ (by decide)
          have qh5_75 : h5.1 66 61 = h331_.1 66 61 := by rw [eh5]; exact mm_pf_ne _ _ (by decide)
          have qh5_76 : h5.1 66 62 = h331_.1 66 62 := by rw [eh5]; exact mm_pf_ne _ _ (by decide)
          have qh5_77 : h5.1 66 64 = h331_.1 66 64 := by rw [eh5]; exact mm_pf_ne _ _ (by decide)
          have qh5_78 : h5.1 66 65 = h331_.1 66 65 := by rw [eh5]; exact mm_pf_ne _ _ (by decide)
          have qh5_79 : h5.1 66 66 = h331_.1 66 66 := by rw [eh5]; exact mm_pf_ne _ _ (by decide)
          exact mm_vret C T (mm_dec dk_X12_goes 177 rfl) (by decide : 0 ≤ 0) (by decide : 0 ≤ 0) ⟨rfl, ⟨i5, f5, by omega, by omega, by omega, by exact mm_aY_of (h1 := h331_) (mm_TYy_fr f5 (by decide)) w331_4 (by omega) (by omega) (by omega) (by omega) (by omega) (by omega) (by omega), by omega⟩⟩
        refine mm_icmp_lt (tgt := 101) C (mm_dec dk_X12_goes 46 rfl) (by decide) (fun c90 => ?_) (fun c90 => ?_)
        · skip
          have zu2 : mm_UY h (h4.1 66 60) = r73 := by (have e : mm_UY h (h4.1 66 60) = h4.2.1 101 (h4.1 66 60) := (mm_tr_in (by omega) (by omega)).trans (f4.2 101 (by decide) _).symm); omega
          have zK := mm_kd_f r73
          refine mm_iload_n C (mm_dec dk_X12_goes 51 rfl) rfl ?_
          refine mm_cSi (rest := []) C1 es_X12_381 (mm_dec dk_X12_goes 52 rfl) (c_X12_isLetter x.2.1 hl (d - 1) (by omega) h4 i4 r73) rfl (Nat.le_of_ble_eq_true rfl) ⟨by decide, by decide⟩ rfl (fun r102 h102c hp102 => ?_) (fun _ _ q => q.elim)
          obtain ⟨z102, y102⟩ := hp102
          rw [z102]
          have J108 : ∀ (n : Nat) (h108_ : mH) (i108_ : mm_inv h108_) (f108_ : mm_fr [(66, 60), (66, 61), (66, 62), (66, 63), (66, 64), (66, 65), (66, 66)] [] h h108_) (w108_0 : h.1 66 60 ≤ h108_.1 66 62) (w108_1 : h108_.1 66 62 ≤ h108_.1 66 60) (w108_2 : (h108_.1 66 62 < h108_.1 66 60 ∨ (97 ≤ h108_.2.1 101 (h108_.1 66 60) ∧ h108_.2.1 101 (h108_.1 66 60) ≤ 122 ∧ h108_.1 66 60 < h108_.1 66 59))) (w108_3 : h108_.1 66 62 = mm_skp (mm_UY h) (h.1 66 59) (h.1 66 60)) (w108_4 : h108_.1 66 62 < h.1 66 59) (w108_5 : mm_kd (mm_UY h (h108_.1 66 62)) = 2) (w108_6 : mm_runw (mm_UY h) (h.1 66 59) 2 (h108_.1 66 60) = mm_runw (mm_UY h) (h.1 66 59) 2 (h108_.1 66 62 + 1)) (w108_7 : (h108_.1 66 60 - h108_.1 66 62 ≤ 9 → h108_.1 66 66 = mm_cde (fun i => mm_UY h (h108_.1 66 62 + i)) (h108_.1 66 60 - h108_.1 66 62).toNat)) (w108_8 : (∀ j, h108_.1 66 62 ≤ j → j < h108_.1 66 60 → mm_kd (mm_UY h j) = 2)) (w108_9 : h108_.1 66 62 ≤ h108_.1 66 60), (500 - h108_.1 66 60 : Int) < n → mm_W x 0 0 108 [mR 66, mU] [] h108_ := by
            intro n
            induction n with
            | zero =>
              intro h108_ i108_ f108_ w108_0 w108_1 w108_2 w108_3 w108_4 w108_5 w108_6 w108_7 w108_8 w108_9 hm
              have g81 : 0 ≤ h108_.1 66 60 ∧ h108_.1 66 60 ≤ 500 := i108_.1 66 60
              have g82 : 0 ≤ h108_.1 66 59 ∧ h108_.1 66 59 ≤ 500 := i108_.1 66 59
              have g83 : 0 ≤ h108_.1 66 62 ∧ h108_.1 66 62 ≤ 500 := i108_.1 66 62
              have g84 : -2147483648 ≤ h108_.1 66 61 ∧ h108_.1 66 61 ≤ 2147483647 := i108_.1 66 61
              have g85 : -2147483648 ≤ h108_.1 66 64 ∧ h108_.1 66 64 ≤ 2147483647 := i108_.1 66 64
              have g86 : -2147483648 ≤ h108_.1 66 65 ∧ h108_.1 66 65 ≤ 2147483647 := i108_.1 66 65
              have g87 : -2147483648 ≤ h108_.1 66 63 ∧ h108_.1 66 63 ≤ 2147483647 := i108_.1 66 63
              have g88 : -9223372036854775808 ≤ h108_.1 66 66 ∧ h108_.1 66 66 ≤ 9223372036854775807 := i108_.1 66 66
              exfalso; omega
            | succ n ih108 =>
              intro h108_ i108_ f108_ w108_0 w108_1 w108_2 w108_3 w108_4 w108_5 w108_6 w108_7 w108_8 w108_9 hm108
              have g89 : 0 ≤ h108_.1 66 60 ∧ h108_.1 66 60 ≤ 500 := i108_.1 66 60
              have g90 : 0 ≤ h108_.1 66 59 ∧ h108_.1 66 59 ≤ 500 := i108_.1 66 59
              have g91 : 0 ≤ h108_.1 66 62 ∧ h108_.1 66 62 ≤ 500 := i108_.1 66 62
              have g92 : -2147483648 ≤ h108_.1 66 61 ∧ h108_.1 66 61 ≤ 2147483647 := i108_.1 66 61
              have g93 : -2147483648 ≤ h108_.1 66 64 ∧ h108_.1 66 64 ≤ 2147483647 := i108_.1 66 64
              have g94 : -2147483648 ≤ h108_.1 66 65 ∧ h108_.1 66 65 ≤ 2147483647 := i108_.1 66 65
              have g95 : -2147483648 ≤ h108_.1 66 63 ∧ h108_.1 66 63 ≤ 2147483647 := i108_.1 66 63
              have g96 : -9223372036854775808 ≤ h108_.1 66 66 ∧ h108_.1 66 66 ≤ 9223372036854775807 := i108_.1 66 66
              have g97 : h108_.1 66 59 = h.1 66 59 := f108_.1 66 59 (by decide)
              have zv : h108_.1 66 60 < h.1 66 59 → mm_UY h (h108_.1 66 60) = h108_.2.1 101 (h108_.1 66 60) := fun q => (mm_tr_in (by omega) (by omega)).trans (f108_.2 101 (by decide) _).symm
              refine mm_aload_n C (mm_dec dk_X12_goes 54 rfl) rfl ?_
              refine mm_aload_n C (mm_dec dk_X12_goes 55 rfl) rfl ?_
              refine mm_geti C fl_X12_359 (mm_dec dk_X12_goes 56 rfl) rfl rfl (Or.inl rfl) ?_
              refine mm_cVi (rest := []) C1 ev_X12_362 (mm_dec dk_X12_goes 57 rfl) (c_X12_byteAt x.2.1 hl (d - 1) (by omega) h108_ i108_ (h108_.1 66 60) ⟨by omega, by omega⟩) rfl rfl (Nat.le_of_ble_eq_true rfl) ⟨by decide, by decide⟩ rfl (fun r113 h113c hp113 => ?_) (fun _ _ q => q.elim)
              obtain ⟨z113, y113⟩ := hp113
              rw [z113]
              have g99 : -2147483648 ≤ (h108_.2.1 101 (h108_.1 66 60)) ∧ (h108_.2.1 101 (h108_.1 66 60)) ≤ 2147483647 := i108_.2.1 101 (h108_.1 66 60)
              refine mm_cSi (rest := []) C1 es_X12_381 (mm_dec dk_X12_goes 58 rfl) (c_X12_isLetter x.2.1 hl (d - 1) (by omega) h108_ i108_ r113) rfl (Nat.le_of_ble_eq_true rfl) ⟨by decide, by decide⟩ rfl (fun r116 h116c hp116 => ?_) (fun _ _ q => q.elim)
              obtain ⟨z116, y116⟩ := hp116
              rw [z116]
              refine mm_if_eq (tgt := 172) C (mm_dec dk_X12_goes 59 rfl) (by decide) (fun c119 => ?_) (fun c119 => ?_)
              · skip
                refine mm_aload_n C (mm_dec dk_X12_goes 88 rfl) rfl ?_
                refine mm_iconst C (mm_dec dk_X12_goes 89 rfl) ⟨by decide, by decide⟩ ?_
                refine mm_puti C fl_X12_378 (mm_dec dk_X12_goes 90 rfl) rfl rfl rfl (Or.inl ⟨rfl, rfl⟩) ?_
                have i6 : mm_inv (mm_pf h108_ 66 61 1) := mm_inv_pf i108_ (show -2147483648 ≤ 1 ∧ 1 ≤ 2147483647 from ⟨by omega, by omega⟩) (by decide)
                have f6 : mm_fr [(66, 60), (66, 61), (66, 62), (66, 63), (66, 64), (66, 65), (66, 66)] [] h (mm_pf h108_ 66 61 1) := mm_fr_pf f108_ (by decide)
                obtain ⟨h6, eh6⟩ : ∃ z, z = mm_pf h108_ 66 61 1 := ⟨_, rfl⟩
                rw [← eh6] at i6 f6 ⊢
                have qh6 : h6.1 66 61 = 1 := by rw [eh6]; exact mm_pf_same _ _ _ _
                have qh6_101 : h6.1 66 59 = h108_.1 66 59 := by rw [eh6]; exact mm_pf_ne _ _ (by decide)
                have qh6_102 : h6.1 66 60 = h108_.1 66 60 := by rw [eh6]; exact mm_pf_ne _ _ (by decide)
                have qh6_103 : h6.1 66 62 = h108_.1 66 62 := by rw [eh6]; exact mm_pf_ne _ _ (by decide)
                have qh6_104 : h6.1 66 63 = h108_.1 66 63 := by rw [eh6]; exact mm_pf_ne _ _ (by decide)
                have qh6_105 : h6.1 66 64 = h108_.1 66 64 := by rw [eh6]; exact mm_pf_ne _ _ (by decide)
                have qh6_106 : h6.1 66 65 = h108_.1 66 65 := by rw [eh6]; exact mm_pf_ne _ _ (by decide)
                have qh6_107 : h6.1 66 66 = h108_.1 66 66 := by rw [eh6]; exact mm_pf_ne _ _ (by decide)
                refine mm_goto (tgt := 331) C (mm_dec dk_X12_goes 91 rfl) (by decide) ?_
                exact J331 h6 i6 f6 (by omega) (by omega) (by omega) (by omega) (by first | exact mm_aY0_end (by omega) (by omega) (by omega) | exact mm_aY0_let (by omega) (by rw [show h6.1 66 62 = h108_.1 66 62 by omega]; exact w108_5) (by omega) (by rw [show h6.1 66 60 = h108_.1 66 60 by omega, show h6.1 66 62 = h108_.1 66 62 by omega]; exact w108_6) (by rw [show h6.1 66 60 = h108_.1 66 60 by omega]; by_cases q : h.1 66 59 ≤ h108_.1 66 60; exact Or.inl q; exact Or.inr (by have e := zv (by omega); have e2 := mm_kd_f (mm_UY h (h108_.1 66 60)); omega)) (by rw [show h6.1 66 60 = h108_.1 66 60 by omega, show h6.1 66 62 = h108_.1 66 62 by omega, show h6.1 66 66 = h108_.1 66 66 by omega]; exact w108_7) | exact mm_aY0_dig (by omega) (by rw [show h6.1 66 62 = h187_.1 66 62 by omega]; exact w187_5) (by omega) (by rw [show h6.1 66 60 = h187_.1 66 60 by omega, show h6.1 66 62 = h187_.1 66 62 by omega]; exact w187_6) (by rw [show h6.1 66 60 = h187_.1 66 60 by omega]; by_cases q : h.1 66 59 ≤ h187_.1 66 60; exact Or.inl q; exact Or.inr (by have e := zv (by omega); have e2 := mm_kd_f (mm_UY h (h187_.1 66 60)); omega)) (by rw [show h6.1 66 60 = h187_.1 66 60 by omega, show h6.1 66 62 = h187_.1 66 62 by omega, show h6.1 66 64 = h187_.1 66 64 by omega]; exact w187_7) | exact mm_aY0_sgn (by omega) (by rw [show h6.1 66 62 = h6.1 66 60 - 1 by omega]; rw [show h6.1 66 60 - 1 = h4.1 66 60 by omega, zu2]; omega) (by omega) (by rw [show h6.1 66 62 = h4.1 66 60 by omega, zu2]; omega))
              · skip
                have zr : mm_UY h (h108_.1 66 60) = r113 := by (have e := zv (by omega)); omega
                have zy : mm_kd (mm_UY h (h108_.1 66 60)) = 2 := by rw [zr]; exact if_pos (by omega)
                refine mm_aload_n C (mm_dec dk_X12_goes 60 rfl) rfl ?_
                refine mm_geti C fl_X12_359 (mm_dec dk_X12_goes 61 rfl) rfl rfl (Or.inl rfl) ?_
                refine mm_aload_n C (mm_dec dk_X12_goes 62 rfl) rfl ?_
                refine mm_geti C fl_X12_365 (mm_dec dk_X12_goes 63 rfl) rfl rfl (Or.inl rfl) ?_
                refine mm_isub C (mm_dec dk_X12_goes 64 rfl) ⟨by omega, by omega⟩ ?_
                refine mm_bipush C (mm_dec dk_X12_goes 65 rfl) ⟨by decide, by decide⟩ ?_
                have J159 : ∀ (h159_ : mH) (i159_ : mm_inv h159_) (f159_ : mm_fr [(66, 60), (66, 61), (66, 62), (66, 63), (66, 64), (66, 65), (66, 66)] [] h h159_) (w159_0 : h159_.1 66 60 = h108_.1 66 60) (w159_1 : h.1 66 60 ≤ h159_.1 66 62) (w159_2 : h159_.1 66 62 ≤ h159_.1 66 60) (w159_3 : h159_.1 66 60 < h159_.1 66 59) (w159_4 : h159_.1 66 62 = mm_skp (mm_UY h) (h.1 66 59) (h.1 66 60)) (w159_5 : h159_.1 66 62 < h.1 66 59) (w159_6 : mm_kd (mm_UY h (h159_.1 66 62)) = 2) (w159_7 : h159_.1 66 62 = h108_.1 66 62) (w159_8 : ((h108_.1 66 60 + 1) - h159_.1 66 62 ≤ 9 → h159_.1 66 66 = mm_cde (fun i => mm_UY h (h159_.1 66 62 + i)) ((h108_.1 66 60 + 1) - h159_.1 66 62).toNat)), mm_W x 0 0 159 [mR 66, mU] [] h159_ := by
                  intro h159_ i159_ f159_ w159_0 w159_1 w159_2 w159_3 w159_4 w159_5 w159_6 w159_7 w159_8
                  have g108 : 0 ≤ h159_.1 66 60 ∧ h159_.1 66 60 ≤ 500 := i159_.1 66 60
                  have g109 : 0 ≤ h159_.1 66 59 ∧ h159_.1 66 59 ≤ 500 := i159_.1 66 59
                  have g110 : 0 ≤ h159_.1 66 62 ∧ h159_.1 66 62 ≤ 500 := i159_.1 66 62
                  have g111 : -2147483648 ≤ h159_.1 66 61 ∧ h159_.1 66 61 ≤ 2147483647 := i159_.1 66 61
                  have g112 : -2147483648 ≤ h159_.1 66 64 ∧ h159_.1 66 64 ≤ 2147483647 := i159_.1 66 64
                  have g113 : -2147483648 ≤ h159_.1 66 65 ∧ h159_.1 66 65 ≤ 2147483647 := i159_.1 66 65
                  have g114 : -2147483648 ≤ h159_.1 66 63 ∧ h159_.1 66 63 ≤ 2147483647 := i159_.1 66 63
                  have g115 : -9223372036854775808 ≤ h159_.1 66 66 ∧ h159_.1 66 66 ≤ 9223372036854775807 := i159_.1 66 66
                  have g116 : h159_.1 66 59 = h.1 66 59 := f159_.1 66 59 (by decide)
                  refine mm_aload_n C (mm_dec dk_X12_goes 81 rfl) rfl ?_
                  refine mm_dup C (mm_dec dk_X12_goes 82 rfl) (show (2 : Nat) ≠ 1 by decide) ?_
                  refine mm_geti C fl_X12_359 (mm_dec dk_X12_goes 83 rfl) rfl rfl (Or.inl rfl) ?_
                  refine mm_iconst C (mm_dec dk_X12_goes 84 rfl) ⟨by decide, by decide⟩ ?_
                  refine mm_iadd C (mm_dec dk_X12_goes 85 rfl) ⟨by omega, by omega⟩ ?_
                  refine mm_puti C fl_X12_359 (mm_dec dk_X12_goes 86 rfl) rfl rfl rfl (Or.inl ⟨rfl, rfl⟩) ?_
                  have i7 : mm_inv (mm_pf h159_ 66 60 ((h159_.1 66 60) + 1)) := mm_inv_pf i159_ (show 0 ≤ ((h159_.1 66 60) + 1) ∧ ((h159_.1 66 60) + 1) ≤ 500 from ⟨by omega, by omega⟩) (by decide)
                  have f7 : mm_fr [(66, 60), (66, 61), (66, 62), (66, 63), (66, 64), (66, 65), (66, 66)] [] h (mm_pf h159_ 66 60 ((h159_.1 66 60) + 1)) := mm_fr_pf f159_ (by decide)
                  obtain ⟨h7, eh7⟩ : ∃ z, z = mm_pf h159_ 66 60 ((h159_.1 66 60) + 1) := ⟨_, rfl⟩
                  rw [← eh7] at i7 f7 ⊢
                  have qh7 : h7.1 66 60 = ((h159_.1 66 60) + 1) := by rw [eh7]; exact mm_pf_same _ _ _ _
                  have qh7_117 : h7.1 66 59 = h159_.1 66 59 := by rw [eh7]; exact mm_pf_ne _ _ (by decide)
                  have qh7_118 : h7.1 66 61 = h159_.1 66 61 := by rw [eh7]; exact mm_pf_ne _ _ (by decide)
                  have qh7_119 : h7.1 66 62 = h159_.1 66 62 := by rw [eh7]; exact mm_pf_ne _ _ (by decide)
                  have qh7_120 : h7.1 66 63 = h159_.1 66 63 := by rw [eh7]; exact mm_pf_ne _ _ (by decide)
                  have qh7_121 : h7.1 66 64 = h159_.1 66 64 := by rw [eh7]; exact mm_pf_ne _ _ (by decide)
                  have qh7_122 : h7.1 66 65 = h159_.1 66 65 := by rw [eh7]; exact mm_pf_ne _ _ (by decide)
                  have qh7_123 : h7.1 66 66 = h159_.1 66 66 := by rw [eh7]; exact mm_pf_ne _ _ (by decide)
                  refine mm_goto (tgt := 108) C (mm_dec dk_X12_goes 87 rfl) (by decide) ?_
                  exact ih108 h7 i7 f7 (by omega) (by omega) (by omega) (by omega) (by omega) (by first | (rw [show h7.1 66 62 = h108_.1 66 62 by omega]; exact w108_5) | (rw [show h7.1 66 62 = h7.1 66 60 by omega, zu2]; exact if_pos (by omega))) (by first | (rw [show h7.1 66 60 = h108_.1 66 60 + 1 by omega, show h7.1 66 62 = h108_.1 66 62 by omega]; exact (mm_runw_s (by omega) zy).symm.trans w108_6) | (rw [show h7.1 66 62 = h7.1 66 60 by omega]; exact mm_runw_s (by omega) (by rw [zu2]; exact if_pos (by omega)))) (by first | (rw [show h7.1 66 60 = h108_.1 66 60 + 1 by omega, show h7.1 66 66 = h159_.1 66 66 by omega, show h7.1 66 62 = h159_.1 66 62 by omega]; exact w159_8) | exact fun _ => (by rw [show (h7.1 66 60 - h7.1 66 62).toNat = 0 by omega]; show _ = (0 : Int); omega)) (by first | exact fun j a b => (by by_cases e : j = h108_.1 66 60; (rw [e]; exact zy); exact w108_8 j (by omega) (by omega)) | exact fun j a b => absurd b (by omega)) (by omega) (by omega)
                refine mm_icmp_ge (tgt := 159) C (mm_dec dk_X12_goes 66 rfl) (by decide) (fun c133 => ?_) (fun c133 => ?_)
                · skip
                  exact J159 h108_ i108_ f108_ (by omega) (by omega) (by omega) (by omega) (by omega) (by omega) (by (rw [show h108_.1 66 62 = h108_.1 66 62 by omega]; exact w108_5)) (by omega) (by first | exact fun q => absurd q (by omega) | exact fun q => (by rw [show h108_.1 66 62 = h108_.1 66 62 by omega]; exact mm_cde_s (by omega) (w108_7 (by omega)) (by rw [zr]; omega)))
                · skip
                  refine mm_aload_n C (mm_dec dk_X12_goes 67 rfl) rfl ?_
                  refine mm_aload_n C (mm_dec dk_X12_goes 68 rfl) rfl ?_
                  refine mm_getl C fl_X12_368 (mm_dec dk_X12_goes 69 rfl) rfl rfl ?_
                  refine mm_iconst C (mm_dec dk_X12_goes 70 rfl) ⟨by decide, by decide⟩ ?_
                  refine mm_lshl C (mm_dec dk_X12_goes 71 rfl) ?_
                  have g124 : -9223372036854775808 ≤ (mm_vlshl (h108_.1 66 66) 5) ∧ (mm_vlshl (h108_.1 66 66) 5) < 9223372036854775808 := mm_rng64 _
                  obtain ⟨y124, ey124⟩ : ∃ z, z = (mm_vlshl (h108_.1 66 66) 5) := ⟨_, rfl⟩
                  rw [← ey124] at g124 ⊢
                  skip
                  refine mm_aload_n C (mm_dec dk_X12_goes 72 rfl) rfl ?_
                  refine mm_aload_n C (mm_dec dk_X12_goes 73 rfl) rfl ?_
                  refine mm_geti C fl_X12_359 (mm_dec dk_X12_goes 74 rfl) rfl rfl (Or.inl rfl) ?_
                  refine mm_cVi (rest := [mL y124, mR 66]) C1 ev_X12_362 (mm_dec dk_X12_goes 75 rfl) (c_X12_byteAt x.2.1 hl (d - 1) (by omega) h108_ i108_ (h108_.1 66 60) ⟨by omega, by omega⟩) rfl rfl (Nat.le_of_ble_eq_true rfl) ⟨by decide, by decide⟩ rfl (fun r148 h148c hp148 => ?_) (fun _ _ q => q.elim)
                  obtain ⟨z148, y148⟩ := hp148
                  rw [z148]
                  refine mm_bipush C (mm_dec dk_X12_goes 76 rfl) ⟨by decide, by decide⟩ ?_
                  refine mm_isubw C (mm_dec dk_X12_goes 77 rfl) ?_
                  have g126 : -2147483648 ≤ (mm_w (r148 - 96)) ∧ (mm_w (r148 - 96)) < 2147483648 := mm_w_rg _
                  refine mm_i2l C (mm_dec dk_X12_goes 78 rfl) ?_
                  refine mm_lor C (mm_dec dk_X12_goes 79 rfl) ?_
                  have g127 : -9223372036854775808 ≤ (mm_vlor y124 (mm_w (r148 - 96))) ∧ (mm_vlor y124 (mm_w (r148 - 96))) < 9223372036854775808 := mm_rng64 _
                  obtain ⟨y127, ey127⟩ : ∃ z, z = (mm_vlor y124 (mm_w (r148 - 96))) := ⟨_, rfl⟩
                  rw [← ey127] at g127 ⊢
                  skip
                  have zwb := mm_cde_b (p := h108_.1 66 60) (a := h108_.1 66 62) (by omega) (by omega) w108_8 (w108_7 (by omega))
                  have zm : mm_w (r148 - 96) = r148 - 96 := mm_w_id ⟨by omega, by omega⟩
                  have zw : y127 = 32 * h108_.1 66 66 + mm_w (r148 - 96) := mm_lor5 (d := mm_w (r148 - 96)) zwb (by omega) (by assumption) (by assumption)
                  refine mm_putl C fl_X12_368 (mm_dec dk_X12_goes 80 rfl) rfl rfl rfl rfl ?_
                  have i8 : mm_inv (mm_pf h108_ 66 66 y127) := mm_inv_pf i108_ (show -9223372036854775808 ≤ y127 ∧ y127 ≤ 9223372036854775807 from ⟨by omega, by omega⟩) (by decide)
                  have f8 : mm_fr [(66, 60), (66, 61), (66, 62), (66, 63), (66, 64), (66, 65), (66, 66)] [] h (mm_pf h108_ 66 66 y127) := mm_fr_pf f108_ (by decide)
                  obtain ⟨h8, eh8⟩ : ∃ z, z = mm_pf h108_ 66 66 y127 := ⟨_, rfl⟩
                  rw [← eh8] at i8 f8 ⊢
                  have qh8 : h8.1 66 66 = y127 := by rw [eh8]; exact mm_pf_same _ _ _ _
                  have qh8_128 : h8.1 66 59 = h108_.1 66 59 := by rw [eh8]; exact mm_pf_ne _ _ (by decide)
                  have qh8_129 : h8.1 66 60 = h108_.1 66 60 := by rw [eh8]; exact mm_pf_ne _ _ (by decide)
                  have qh8_130 : h8.1 66 61 = h108_.1 66 61 := by rw [eh8]; exact mm_pf_ne _ _ (by decide)
                  have qh8_131 : h8.1 66 62 = h108_.1 66 62 := by rw [eh8]; exact mm_pf_ne _ _ (by decide)
                  have qh8_132 : h8.1 66 63 = h108_.1 66 63 := by rw [eh8]; exact mm_pf_ne _ _ (by decide)
                  have qh8_133 : h8.1 66 64 = h108_.1 66 64 := by rw [eh8]; exact mm_pf_ne _ _ (by decide)
                  have qh8_134 : h8.1 66 65 = h108_.1 66 65 := by rw [eh8]; exact mm_pf_ne _ _ (by decide)
                  exact J159 h8 i8 f8 (by omega) (by omega) (by omega) (by omega) (by omega) (by omega) (by (rw [show h8.1 66 62 = h108_.1 66 62 by omega]; exact w108_5)) (by omega) (by first | exact fun q => absurd q (by omega) | exact fun q => (by rw [show h8.1 66 62 = h108_.1 66 62 by omega]; exact mm_cde_s (by omega) (w108_7 (by omega)) (by rw [zr]; omega)))
          refine mm_if_eq (tgt := 180) C (mm_dec dk_X12_goes 53 rfl) (by decide) (fun c105 => ?_) (fun c105 => ?_)
          · skip
            have zk0 := zK
            refine mm_iload_n C (mm_dec dk_X12_goes 92 rfl) rfl ?_
            refine mm_cSi (rest := []) C1 es_X12_384 (mm_dec dk_X12_goes 93 rfl) (c_X12_isDigit x.2.1 hl (d - 1) (by omega) h4 i4 r73) rfl (Nat.le_of_ble_eq_true rfl) ⟨by decide, by decide⟩ rfl (fun r181 h181c hp181 => ?_) (fun _ _ q => q.elim)
            obtain ⟨z181, y181⟩ := hp181
            rw [z181]
            have J187 : ∀ (n : Nat) (h187_ : mH) (i187_ : mm_inv h187_) (f187_ : mm_fr [(66, 60), (66, 61), (66, 62), (66, 63), (66, 64), (66, 65), (66, 66)] [] h h187_) (w187_0 : h.1 66 60 ≤ h187_.1 66 62) (w187_1 : h187_.1 66 62 ≤ h187_.1 66 60) (w187_2 : (h187_.1 66 62 < h187_.1 66 60 ∨ (48 ≤ h187_.2.1 101 (h187_.1 66 60) ∧ h187_.2.1 101 (h187_.1 66 60) ≤ 57 ∧ h187_.1 66 60 < h187_.1 66 59))) (w187_3 : h187_.1 66 62 = mm_skp (mm_UY h) (h.1 66 59) (h.1 66 60)) (w187_4 : h187_.1 66 62 < h.1 66 59) (w187_5 : mm_kd (mm_UY h (h187_.1 66 62)) = 3) (w187_6 : mm_runw (mm_UY h) (h.1 66 59) 3 (h187_.1 66 60) = mm_runw (mm_UY h) (h.1 66 59) 3 (h187_.1 66 62 + 1)) (w187_7 : (h187_.1 66 60 - h187_.1 66 62 ≤ 5 → h187_.1 66 64 = mm_nv (mm_UY h) (h187_.1 66 62) (h187_.1 66 60 - h187_.1 66 62).toNat)) (w187_8 : (h187_.1 66 60 = h187_.1 66 62 ∧ h187_.1 66 64 = 0) ∨ (h187_.1 66 60 = h187_.1 66 62 + 1 ∧ 0 ≤ h187_.1 66 64 ∧ h187_.1 66 64 ≤ 9) ∨ (h187_.1 66 60 = h187_.1 66 62 + 2 ∧ 0 ≤ h187_.1 66 64 ∧ h187_.1 66 64 ≤ 99) ∨ (h187_.1 66 60 = h187_.1 66 62 + 3 ∧ 0 ≤ h187_.1 66 64 ∧ h187_.1 66 64 ≤ 999) ∨ (h187_.1 66 60 = h187_.1 66 62 + 4 ∧ 0 ≤ h187_.1 66 64 ∧ h187_.1 66 64 ≤ 9999) ∨ (h187_.1 66 62 + 5 ≤ h187_.1 66 60)), (500 - h187_.1 66 60 : Int) < n → mm_W x 0 0 187 [mR 66, mU] [] h187_ := by
              intro n
              induction n with
              | zero =>
                intro h187_ i187_ f187_ w187_0 w187_1 w187_2 w187_3 w187_4 w187_5 w187_6 w187_7 w187_8 hm
                have g136 : 0 ≤ h187_.1 66 60 ∧ h187_.1 66 60 ≤ 500 := i187_.1 66 60
                have g137 : 0 ≤ h187_.1 66 59 ∧ h187_.1 66 59 ≤ 500 := i187_.1 66 59
                have g138 : 0 ≤ h187_.1 66 62 ∧ h187_.1 66 62 ≤ 500 := i187_.1 66 62
                have g139 : -2147483648 ≤ h187_.1 66 61 ∧ h187_.1 66 61 ≤ 2147483647 := i187_.1 66 61
                have g140 : -2147483648 ≤ h187_.1 66 64 ∧ h187_.1 66 64 ≤ 2147483647 := i187_.1 66 64
                have g141 : -2147483648 ≤ h187_.1 66 65 ∧ h187_.1 66 65 ≤ 2147483647 := i187_.1 66 65
                have g142 : -2147483648 ≤ h187_.1 66 63 ∧ h187_.1 66 63 ≤ 2147483647 := i187_.1 66 63
                have g143 : -9223372036854775808 ≤ h187_.1 66 66 ∧ h187_.1 66 66 ≤ 9223372036854775807 := i187_.1 66 66
                exfalso; omega
              | succ n ih187 =>
                intro h187_ i187_ f187_ w187_0 w187_1 w187_2 w187_3 w187_4 w187_5 w187_6 w187_7 w187_8 hm187
                have g144 : 0 ≤ h187_.1 66 60 ∧ h187_.1 66 60 ≤ 500 := i187_.1 66 60
                have g145 : 0 ≤ h187_.1 66 59 ∧ h187_.1 66 59 ≤ 500 := i187_.1 66 59
                have g146 : 0 ≤ h187_.1 66 62 ∧ h187_.1 66 62 ≤ 500 := i187_.1 66 62
                have g147 : -2147483648 ≤ h187_.1 66 61 ∧ h187_.1 66 61 ≤ 2147483647 := i187_.1 66 61
                have g148 : -2147483648 ≤ h187_.1 66 64 ∧ h187_.1 66 64 ≤ 2147483647 := i187_.1 66 64
                have g149 : -2147483648 ≤ h187_.1 66 65 ∧ h187_.1 66 65 ≤ 2147483647 := i187_.1 66 65
                have g150 : -2147483648 ≤ h187_.1 66 63 ∧ h187_.1 66 63 ≤ 2147483647 := i187_.1 66 63
                have g151 : -9223372036854775808 ≤ h187_.1 66 66 ∧ h187_.1 66 66 ≤ 9223372036854775807 := i187_.1 66 66
                have g152 : h187_.1 66 59 = h.1 66 59 := f187_.1 66 59 (by decide)
                have zv : h187_.1 66 60 < h.1 66 59 → mm_UY h (h187_.1 66 60) = h187_.2.1 101 (h187_.1 66 60) := fun q => (mm_tr_in (by omega) (by omega)).trans (f187_.2 101 (by decide) _).symm
                refine mm_aload_n C (mm_dec dk_X12_goes 95 rfl) rfl ?_
                refine mm_aload_n C (mm_dec dk_X12_goes 96 rfl) rfl ?_
                refine mm_geti C fl_X12_359 (mm_dec dk_X12_goes 97 rfl) rfl rfl (Or.inl rfl) ?_
                refine mm_cVi (rest := []) C1 ev_X12_362 (mm_dec dk_X12_goes 98 rfl) (c_X12_byteAt x.2.1 hl (d - 1) (by omega) h187_ i187_ (h187_.1 66 60) ⟨by omega, by omega⟩) rfl rfl (Nat.le_of_ble_eq_true rfl) ⟨by decide, by decide⟩ rfl (fun r192 h192c hp192 => ?_) (fun _ _ q => q.elim)
                obtain ⟨z192, y192⟩ := hp192
                rw [z192]
                have g154 : -2147483648 ≤ (h187_.2.1 101 (h187_.1 66 60)) ∧ (h187_.2.1 101 (h187_.1 66 60)) ≤ 2147483647 := i187_.2.1 101 (h187_.1 66 60)
                refine mm_cSi (rest := []) C1 es_X12_384 (mm_dec dk_X12_goes 99 rfl) (c_X12_isDigit x.2.1 hl (d - 1) (by omega) h187_ i187_ r192) rfl (Nat.le_of_ble_eq_true rfl) ⟨by decide, by decide⟩ rfl (fun r195 h195c hp195 => ?_) (fun _ _ q => q.elim)
                obtain ⟨z195, y195⟩ := hp195
                rw [z195]
                refine mm_if_eq (tgt := 250) C (mm_dec dk_X12_goes 100 rfl) (by decide) (fun c198 => ?_) (fun c198 => ?_)
                · skip
                  refine mm_aload_n C (mm_dec dk_X12_goes 128 rfl) rfl ?_
                  refine mm_iconst C (mm_dec dk_X12_goes 129 rfl) ⟨by decide, by decide⟩ ?_
                  refine mm_puti C fl_X12_378 (mm_dec dk_X12_goes 130 rfl) rfl rfl rfl (Or.inl ⟨rfl, rfl⟩) ?_
                  have i9 : mm_inv (mm_pf h187_ 66 61 2) := mm_inv_pf i187_ (show -2147483648 ≤ 2 ∧ 2 ≤ 2147483647 from ⟨by omega, by omega⟩) (by decide)
                  have f9 : mm_fr [(66, 60), (66, 61), (66, 62), (66, 63), (66, 64), (66, 65), (66, 66)] [] h (mm_pf h187_ 66 61 2) := mm_fr_pf f187_ (by decide)
                  obtain ⟨h9, eh9⟩ : ∃ z, z = mm_pf h187_ 66 61 2 := ⟨_, rfl⟩
                  rw [← eh9] at i9 f9 ⊢
                  have qh9 : h9.1 66 61 = 2 := by rw [eh9]; exact mm_pf_same _ _ _ _
                  have qh9_156 : h9.1 66 59 = h187_.1 66 59 := by rw [eh9]; exact mm_pf_ne _ _ (by decide)
                  have qh9_157 : h9.1 66 60 = h187_.1 66 60 := by rw [eh9]; exact mm_pf_ne _ _ (by decide)
                  have qh9_158 : h9.1 66 62 = h187_.1 66 62 := by rw [eh9]; exact mm_pf_ne _ _ (by decide)
                  have qh9_159 : h9.1 66 63 = h187_.1 66 63 := by rw [eh9]; exact mm_pf_ne _ _ (by decide)
                  have qh9_160 : h9.1 66 64 = h187_.1 66 64 := by rw [eh9]; exact mm_pf_ne _ _ (by decide)
                  have qh9_161 : h9.1 66 65 = h187_.1 66 65 := by rw [eh9]; exact mm_pf_ne _ _ (by decide)
                  have qh9_162 : h9.1 66 66 = h187_.1 66 66 := by rw [eh9]; exact mm_pf_ne _ _ (by decide)
                  refine mm_goto (tgt := 331) C (mm_dec dk_X12_goes 131 rfl) (by decide) ?_
                  exact J331 h9 i9 f9 (by omega) (by omega) (by omega) (by omega) (by first | exact mm_aY0_end (by omega) (by omega) (by omega) | exact mm_aY0_let (by omega) (by rw [show h9.1 66 62 = h108_.1 66 62 by omega]; exact w108_5) (by omega) (by rw [show h9.1 66 60 = h108_.1 66 60 by omega, show h9.1 66 62 = h108_.1 66 62 by omega]; exact w108_6) (by rw [show h9.1 66 60 = h108_.1 66 60 by omega]; by_cases q : h.1 66 59 ≤ h108_.1 66 60; exact Or.inl q; exact Or.inr (by have e := zv (by omega); have e2 := mm_kd_f (mm_UY h (h108_.1 66 60)); omega)) (by rw [show h9.1 66 60 = h108_.1 66 60 by omega, show h9.1 66 62 = h108_.1 66 62 by omega, show h9.1 66 66 = h108_.1 66 66 by omega]; exact w108_7) | exact mm_aY0_dig (by omega) (by rw [show h9.1 66 62 = h187_.1 66 62 by omega]; exact w187_5) (by omega) (by rw [show h9.1 66 60 = h187_.1 66 60 by omega, show h9.1 66 62 = h187_.1 66 62 by omega]; exact w187_6) (by rw [show h9.1 66 60 = h187_.1 66 60 by omega]; by_cases q : h.1 66 59 ≤ h187_.1 66 60; exact Or.inl q; exact Or.inr (by have e := zv (by omega); have e2 := mm_kd_f (mm_UY h (h187_.1 66 60)); omega)) (by rw [show h9.1 66 60 = h187_.1 66 60 by omega, show h9.1 66 62 = h187_.1 66 62 by omega, show h9.1 66 64 = h187_.1 66 64 by omega]; exact w187_7) | exact mm_aY0_sgn (by omega) (by rw [show h9.1 66 62 = h9.1 66 60 - 1 by omega]; rw [show h9.1 66 60 - 1 = h4.1 66 60 by omega, zu2]; omega) (by omega) (by rw [show h9.1 66 62 = h4.1 66 60 by omega, zu2]; omega))
                · skip
                  have zr : mm_UY h (h187_.1 66 60) = r192 := by (have e := zv (by omega)); omega
                  have zy : mm_kd (mm_UY h (h187_.1 66 60)) = 3 := by rw [zr]; unfold mm_kd; rw [if_neg (by omega), if_pos (by omega)]
                  refine mm_aload_n C (mm_dec dk_X12_goes 101 rfl) rfl ?_
                  refine mm_geti C fl_X12_359 (mm_dec dk_X12_goes 102 rfl) rfl rfl (Or.inl rfl) ?_
                  refine mm_aload_n C (mm_dec dk_X12_goes 103 rfl) rfl ?_
                  refine mm_geti C fl_X12_365 (mm_dec dk_X12_goes 104 rfl) rfl rfl (Or.inl rfl) ?_
                  refine mm_isub C (mm_dec dk_X12_goes 105 rfl) ⟨by omega, by omega⟩ ?_
                  refine mm_iconst C (mm_dec dk_X12_goes 106 rfl) ⟨by decide, by decide⟩ ?_
                  have J237 : ∀ (h237_ : mH) (i237_ : mm_inv h237_) (f237_ : mm_fr [(66, 60), (66, 61), (66, 62), (66, 63), (66, 64), (66, 65), (66, 66)] [] h h237_) (w237_0 : h237_.1 66 60 = h187_.1 66 60) (w237_1 : h.1 66 60 ≤ h237_.1 66 62) (w237_2 : h237_.1 66 62 ≤ h237_.1 66 60) (w237_3 : h237_.1 66 60 < h237_.1 66 59) (w237_4 : h237_.1 66 62 = mm_skp (mm_UY h) (h.1 66 59) (h.1 66 60)) (w237_5 : h237_.1 66 62 < h.1 66 59) (w237_6 : mm_kd (mm_UY h (h237_.1 66 62)) = 3) (w237_7 : h237_.1 66 62 = h187_.1 66 62) (w237_8 : ((h187_.1 66 60 + 1) - h237_.1 66 62 ≤ 5 → h237_.1 66 64 = mm_nv (mm_UY h) (h237_.1 66 62) ((h187_.1 66 60 + 1) - h237_.1 66 62).toNat)) (w237_9 : ((h187_.1 66 60 + 1) = h237_.1 66 62 ∧ h237_.1 66 64 = 0) ∨ ((h187_.1 66 60 + 1) = h237_.1 66 62 + 1 ∧ 0 ≤ h237_.1 66 64 ∧ h237_.1 66 64 ≤ 9) ∨ ((h187_.1 66 60 + 1) = h237_.1 66 62 + 2 ∧ 0 ≤ h237_.1 66 64 ∧ h237_.1 66 64 ≤ 99) ∨ ((h187_.1 66 60 + 1) = h237_.1 66 62 + 3 ∧ 0 ≤ h237_.1 66 64 ∧ h237_.1 66 64 ≤ 999) ∨ ((h187_.1 66 60 + 1) = h237_.1 66 62 + 4 ∧ 0 ≤ h237_.1 66 64 ∧ h237_.1 66 64 ≤ 9999) ∨ (h237_.1 66 62 + 5 ≤ (h187_.1 66 60 + 1))), mm_W x 0 0 237 [mR 66, mU] [] h237_ := by
                    intro h237_ i237_ f237_ w237_0 w237_1 w237_2 w237_3 w237_4 w237_5 w237_6 w237_7 w237_8 w237_9
                    have g163 : 0 ≤ h237_.1 66 60 ∧ h237_.1 66 60 ≤ 500 := i237_.1 66 60
                    have g164 : 0 ≤ h237_.1 66 59 ∧ h237_.1 66 59 ≤ 500 := i237_.1 66 59
                    have g165 : 0 ≤ h237_.1 66 62 ∧ h237_.1 66 62 ≤ 500 := i237_.1 66 62
                    have g166 : -2147483648 ≤ h237_.1 66 61 ∧ h237_.1 66 61 ≤ 2147483647 := i237_.1 66 61
                    have g167 : -2147483648 ≤ h237_.1 66 64 ∧ h237_.1 66 64 ≤ 2147483647 := i237_.1 66 64
                    have g168 : -2147483648 ≤ h237_.1 66 65 ∧ h237_.1 66 65 ≤ 2147483647 := i237_.1 66 65
                    have g169 : -2147483648 ≤ h237_.1 66 63 ∧ h237_.1 66 63 ≤ 2147483647 := i237_.1 66 63
                    have g170 : -9223372036854775808 ≤ h237_.1 66 66 ∧ h237_.1 66 66 ≤ 9223372036854775807 := i237_.1 66 66
                    have g171 : h237_.1 66 59 = h.1 66 59 := f237_.1 66 59 (by decide)
                    refine mm_aload_n C (mm_dec dk_X12_goes 121 rfl) rfl ?_
                    refine mm_dup C (mm_dec dk_X12_goes 122 rfl) (show (2 : Nat) ≠ 1 by decide) ?_
                    refine mm_geti C fl_X12_359 (mm_dec dk_X12_goes 123 rfl) rfl rfl (Or.inl rfl) ?_
                    refine mm_iconst C (mm_dec dk_X12_goes 124 rfl) ⟨by decide, by decide⟩ ?_
                    refine mm_iadd C (mm_dec dk_X12_goes 125 rfl) ⟨by omega, by omega⟩ ?_
                    refine mm_puti C fl_X12_359 (mm_dec dk_X12_goes 126 rfl) rfl rfl rfl (Or.inl ⟨rfl, rfl⟩) ?_
                    have i10 : mm_inv (mm_pf h237_ 66 60 ((h237_.1 66 60) + 1)) := mm_inv_pf i237_ (show 0 ≤ ((h237_.1 66 60) + 1) ∧ ((h237_.1 66 60) + 1) ≤ 500 from ⟨by omega, by omega⟩) (by decide)
                    have f10 : mm_fr [(66, 60), (66, 61), (66, 62), (66, 63), (66, 64), (66, 65), (66, 66)] [] h (mm_pf h237_ 66 60 ((h237_.1 66 60) + 1)) := mm_fr_pf f237_ (by decide)
                    obtain ⟨h10, eh10⟩ : ∃ z, z = mm_pf h237_ 66 60 ((h237_.1 66 60) + 1) := ⟨_, rfl⟩
                    rw [← eh10] at i10 f10 ⊢
                    have qh10 : h10.1 66 60 = ((h237_.1 66 60) + 1) := by rw [eh10]; exact mm_pf_same _ _ _ _
                    have qh10_172 : h10.1 66 59 = h237_.1 66 59 := by rw [eh10]; exact mm_pf_ne _ _ (by decide)
                    have qh10_173 : h10.1 66 61 = h237_.1 66 61 := by rw [eh10]; exact mm_pf_ne _ _ (by decide)
                    have qh10_174 : h10.1 66 62 = h237_.1 66 62 := by rw [eh10]; exact mm_pf_ne _ _ (by decide)
                    have qh10_175 : h10.1 66 63 = h237_.1 66 63 := by rw [eh10]; exact mm_pf_ne _ _ (by decide)
                    have qh10_176 : h10.1 66 64 = h237_.1 66 64 := by rw [eh10]; exact mm_pf_ne _ _ (by decide)
                    have qh10_177 : h10.1 66 65 = h237_.1 66 65 := by rw [eh10]; exact mm_pf_ne _ _ (by decide)
                    have qh10_178 : h10.1 66 66 = h237_.1 66 66 := by rw [eh10]; exact mm_pf_ne _ _ (by decide)
                    refine mm_goto (tgt := 187) C (mm_dec dk_X12_goes 127 rfl) (by decide) ?_
                    exact ih187 h10 i10 f10 (by omega) (by omega) (by omega) (by omega) (by omega) (by first | (rw [show h10.1 66 62 = h187_.1 66 62 by omega]; exact w187_5) | (rw [show h10.1 66 62 = h10.1 66 60 by omega, zu2]; unfold mm_kd; rw [if_neg (by omega), if_pos (by omega)])) (by first | (rw [show h10.1 66 60 = h187_.1 66 60 + 1 by omega, show h10.1 66 62 = h187_.1 66 62 by omega]; exact (mm_runw_s (by omega) zy).symm.trans w187_6) | (rw [show h10.1 66 62 = h10.1 66 60 by omega]; exact mm_runw_s (by omega) (by rw [zu2]; unfold mm_kd; rw [if_neg (by omega), if_pos (by omega)]))) (by first | (rw [show h10.1 66 60 = h187_.1 66 60 + 1 by omega, show h10.1 66 64 = h237_.1 66 64 by omega, show h10.1 66 62 = h237_.1 66 62 by omega]; exact w237_8) | exact fun _ => (by rw [show (h10.1 66 60 - h10.1 66 62).toNat = 0 by omega]; show _ = (0 : Int); omega)) (by omega) (by omega)
                  refine mm_icmp_ge (tgt := 237) C (mm_dec dk_X12_goes 107 rfl) (by decide) (fun c211 => ?_) (fun c211 => ?_)
                  · skip
                    exact J237 h187_ i187_ f187_ (by omega) (by omega) (by omega) (by omega) (by omega) (by omega) (by (rw [show h187_.1 66 62 = h187_.1 66 62 by omega]; exact w187_5)) (by omega) (by first | exact fun q => absurd q (by omega) | exact fun q => (by rw [show h187_.1 66 62 = h187_.1 66 62 by omega, mm_nv_s (by omega), ← w187_7 (by omega), zr]; omega)) (by omega)
                  · skip
                    refine mm_aload_n C (mm_dec dk_X12_goes 108 rfl) rfl ?_
                    refine mm_bipush C (mm_dec dk_X12_goes 109 rfl) ⟨by decide, by decide⟩ ?_
                    refine mm_aload_n C (mm_dec dk_X12_goes 110 rfl) rfl ?_
                    refine mm_geti C fl_X12_372 (mm_dec dk_X12_goes 111 rfl) rfl rfl (Or.inl rfl) ?_
                    refine mm_imulw C (mm_dec dk_X12_goes 112 rfl) ?_
                    have g179 : -2147483648 ≤ (mm_w (10 * (h187_.1 66 64))) ∧ (mm_w (10 * (h187_.1 66 64))) < 2147483648 := mm_w_rg _
                    refine mm_aload_n C (mm_dec dk_X12_goes 113 rfl) rfl ?_
                    refine mm_aload_n C (mm_dec dk_X12_goes 114 rfl) rfl ?_
                    refine mm_geti C fl_X12_359 (mm_dec dk_X12_goes 115 rfl) rfl rfl (Or.inl rfl) ?_
                    refine mm_cVi (rest := [mI (mm_w (10 * (h187_.1 66 64))), mR 66]) C1 ev_X12_362 (mm_dec dk_X12_goes 116 rfl) (c_X12_byteAt x.2.1 hl (d - 1) (by omega) h187_ i187_ (h187_.1 66 60) ⟨by omega, by omega⟩) rfl rfl (Nat.le_of_ble_eq_true rfl) ⟨by decide, by decide⟩ rfl (fun r227 h227c hp227 => ?_) (fun _ _ q => q.elim)
                    obtain ⟨z227, y227⟩ := hp227
                    rw [z227]
                    refine mm_iaddw C (mm_dec dk_X12_goes 117 rfl) ?_
                    have g181 : -2147483648 ≤ (mm_w ((mm_w (10 * (h187_.1 66 64))) + r227)) ∧ (mm_w ((mm_w (10 * (h187_.1 66 64))) + r227)) < 2147483648 := mm_w_rg _
                    refine mm_bipush C (mm_dec dk_X12_goes 118 rfl) ⟨by decide, by decide⟩ ?_
                    refine mm_isubw C (mm_dec dk_X12_goes 119 rfl) ?_
                    have g182 : -2147483648 ≤ (mm_w ((mm_w ((mm_w (10 * (h187_.1 66 64))) + r227)) - 48)) ∧ (mm_w ((mm_w ((mm_w (10 * (h187_.1 66 64))) + r227)) - 48)) < 2147483648 := mm_w_rg _
                    have zn : (mm_w ((mm_w ((mm_w (10 * (h187_.1 66 64))) + r227)) - 48)) = h187_.1 66 64 * 10 + r227 - 48 := mm_ndig ⟨by omega, by omega⟩ ⟨by omega, by omega⟩
                    refine mm_puti C fl_X12_372 (mm_dec dk_X12_goes 120 rfl) rfl rfl rfl (Or.inl ⟨rfl, rfl⟩) ?_
                    have i11 : mm_inv (mm_pf h187_ 66 64 (mm_w ((mm_w ((mm_w (10 * (h187_.1 66 64))) + r227)) - 48))) := mm_inv_pf i187_ (show -2147483648 ≤ (mm_w ((mm_w ((mm_w (10 * (h187_.1 66 64))) + r227)) - 48)) ∧ (mm_w ((mm_w ((mm_w (10 * (h187_.1 66 64))) + r227)) - 48)) ≤ 2147483647 from ⟨by omega, by omega⟩) (by decide)
                    have f11 : mm_fr [(66, 60), (66, 61), (66, 62), (66, 63), (66, 64), (66, 65), (66, 66)] [] h (mm_pf h187_ 66 64 (mm_w ((mm_w ((mm_w (10 * (h187_.1 66 64))) + r227)) - 48))) := mm_fr_pf f187_ (by decide)
                    obtain ⟨h11, eh11⟩ : ∃ z, z = mm_pf h187_ 66 64 (mm_w ((mm_w ((mm_w (10 * (h187_.1 66 64))) + r227)) - 48)) := ⟨_, rfl⟩
                    rw [← eh11] at i11 f11 ⊢
                    have qh11 : h11.1 66 64 = (mm_w ((mm_w ((mm_w (10 * (h187_.1 66 64))) + r227)) - 48)) := by rw [eh11]; exact mm_pf_same _ _ _ _
                    have qh11_183 : h11.1 66 59 = h187_.1 66 59 := by rw [eh11]; exact mm_pf_ne _ _ (by decide)
                    have qh11_184 : h11.1 66 60 = h187_.1 66 60 := by rw [eh11]; exact mm_pf_ne _ _ (by decide)
                    have qh11_185 : h11.1 66 61 = h187_.1 66 61 := by rw [eh11]; exact mm_pf_ne _ _ (by decide)
                    have qh11_186 : h11.1 66 62 = h187_.1 66 62 := by rw [eh11]; exact mm_pf_ne _ _ (by decide)
                    have qh11_187 : h11.1 66 63 = h187_.1 66 63 := by rw [eh11]; exact mm_pf_ne _ _ (by decide)
                    have qh11_188 : h11.1 66 65 = h187_.1 66 65 := by rw [eh11]; exact mm_pf_ne _ _ (by decide)
                    have qh11_189 : h11.1 66 66 = h187_.1 66 66 := by rw [eh11]; exact mm_pf_ne _ _ (by decide)
                    exact J237 h11 i11 f11 (by omega) (by omega) (by omega) (by omega) (by omega) (by omega) (by (rw [show h11.1 66 62 = h187_.1 66 62 by omega]; exact w187_5)) (by omega) (by first | exact fun q => absurd q (by omega) | exact fun q => (by rw [show h11.1 66 62 = h187_.1 66 62 by omega, mm_nv_s (by omega), ← w187_7 (by omega), zr]; omega)) (by omega)
            refine mm_if_eq (tgt := 258) C (mm_dec dk_X12_goes 94 rfl) (by decide) (fun c184 => ?_) (fun c184 => ?_)
            · skip
              refine mm_aload_n C (mm_dec dk_X12_goes 132 rfl) rfl ?_
              refine mm_dup C (mm_dec dk_X12_goes 133 rfl) (show (2 : Nat) ≠ 1 by decide) ?_
              refine mm_geti C fl_X12_359 (mm_dec dk_X12_goes 134 rfl) rfl rfl (Or.inl rfl) ?_
              refine mm_iconst C (mm_dec dk_X12_goes 135 rfl) ⟨by decide, by decide⟩ ?_
              refine mm_iadd C (mm_dec dk_X12_goes 136 rfl) ⟨by omega, by omega⟩ ?_
              refine mm_puti C fl_X12_359 (mm_dec dk_X12_goes 137 rfl) rfl rfl rfl (Or.inl ⟨rfl, rfl⟩) ?_
              have i12 : mm_inv (mm_pf h4 66 60 ((h4.1 66 60) + 1)) := mm_inv_pf i4 (show 0 ≤ ((h4.1 66 60) + 1) ∧ ((h4.1 66 60) + 1) ≤ 500 from ⟨by omega, by omega⟩) (by decide)
              have f12 : mm_fr [(66, 60), (66, 61), (66, 62), (66, 63), (66, 64), (66, 65), (66, 66)] [] h (mm_pf h4 66 60 ((h4.1 66 60) + 1)) := mm_fr_pf f4 (by decide)
              obtain ⟨h12, eh12⟩ : ∃ z, z = mm_pf h4 66 60 ((h4.1 66 60) + 1) := ⟨_, rfl⟩
              rw [← eh12] at i12 f12 ⊢
              have qh12 : h12.1 66 60 = ((h4.1 66 60) + 1) := by rw [eh12]; exact mm_pf_same _ _ _ _
              have qh12_190 : h12.1 66 59 = h4.1 66 59 := by rw [eh12]; exact mm_pf_ne _ _ (by decide)
              have qh12_191 : h12.1 66 61 = h4.1 66 61 := by rw [eh12]; exact mm_pf_ne _ _ (by decide)
              have qh12_192 : h12.1 66 62 = h4.1 66 62 := by rw [eh12]; exact mm_pf_ne _ _ (by decide)
              have qh12_193 : h12.1 66 63 = h4.1 66 63 := by rw [eh12]; exact mm_pf_ne _ _ (by decide)
              have qh12_194 : h12.1 66 64 = h4.1 66 64 := by rw [eh12]; exact mm_pf_ne _ _ (by decide)
              have qh12_195 : h12.1 66 65 = h4.1 66 65 := by rw [eh12]; exact mm_pf_ne _ _ (by decide)
              have qh12_196 : h12.1 66 66 = h4.1 66 66 := by rw [eh12]; exact mm_pf_ne _ _ (by decide)
              refine mm_aload_n C (mm_dec dk_X12_goes 138 rfl) rfl ?_
              refine mm_iload_n C (mm_dec dk_X12_goes 139 rfl) rfl ?_
              refine mm_bipush C (mm_dec dk_X12_goes 140 rfl) ⟨by decide, by decide⟩ ?_
              have J328 : ∀ (s328_1 : Int) (bs328_1 : 3 ≤ s328_1 ∧ s328_1 ≤ 4) (w328_0 : ((s328_1 = 3 ∧ mm_kd r73 = 4) ∨ (s328_1 = 4 ∧ mm_kd r73 = 1))) (vs328_1 : (s328_1 = 3) ∨ (r73 ≠ 59 ∧ r73 ≠ 40 ∧ r73 ≠ 41 ∧ r73 ≠ 43 ∧ r73 ≠ 45 ∧ r73 ≠ 42 ∧ r73 ≠ 47 ∧ r73 ≠ 60 ∧ r73 ≠ 61 ∧ s328_1 = 4)), mm_W x 0 0 328 [mR 66, mU] [mI s328_1, mR 66] h12 := by
                intro s328_1 bs328_1 w328_0 vs328_1
                refine mm_puti C fl_X12_378 (mm_dec dk_X12_goes 169 rfl) rfl rfl rfl (Or.inl ⟨rfl, rfl⟩) ?_
                have i13 : mm_inv (mm_pf h12 66 61 s328_1) := mm_inv_pf i12 (show -2147483648 ≤ s328_1 ∧ s328_1 ≤ 2147483647 from ⟨by omega, by omega⟩) (by decide)
                have f13 : mm_fr [(66, 60), (66, 61), (66, 62), (66, 63), (66, 64), (66, 65), (66, 66)] [] h (mm_pf h12 66 61 s328_1) := mm_fr_pf f12 (by decide)
                obtain ⟨h13, eh13⟩ : ∃ z, z = mm_pf h12 66 61 s328_1 := ⟨_, rfl⟩
                rw [← eh13] at i13 f13 ⊢
                have qh13 : h13.1 66 61 = s328_1 := by rw [eh13]; exact mm_pf_same _ _ _ _
                have qh13_197 : h13.1 66 59 = h12.1 66 59 := by rw [eh13]; exact mm_pf_ne _ _ (by decide)
                have qh13_198 : h13.1 66 60 = h12.1 66 60 := by rw [eh13]; exact mm_pf_ne _ _ (by decide)
                have qh13_199 : h13.1 66 62 = h12.1 66 62 := by rw [eh13]; exact mm_pf_ne _ _ (by decide)
                have qh13_200 : h13.1 66 63 = h12.1 66 63 := by rw [eh13]; exact mm_pf_ne _ _ (by decide)
                have qh13_201 : h13.1 66 64 = h12.1 66 64 := by rw [eh13]; exact mm_pf_ne _ _ (by decide)
                have qh13_202 : h13.1 66 65 = h12.1 66 65 := by rw [eh13]; exact mm_pf_ne _ _ (by decide)
                have qh13_203 : h13.1 66 66 = h12.1 66 66 := by rw [eh13]; exact mm_pf_ne _ _ (by decide)
                exact J331 h13 i13 f13 (by omega) (by omega) (by omega) (by omega) (by first | exact mm_aY0_end (by omega) (by omega) (by omega) | exact mm_aY0_let (by omega) (by rw [show h13.1 66 62 = h108_.1 66 62 by omega]; exact w108_5) (by omega) (by rw [show h13.1 66 60 = h108_.1 66 60 by omega, show h13.1 66 62 = h108_.1 66 62 by omega]; exact w108_6) (by rw [show h13.1 66 60 = h108_.1 66 60 by omega]; by_cases q : h.1 66 59 ≤ h108_.1 66 60; exact Or.inl q; exact Or.inr (by have e := zv (by omega); have e2 := mm_kd_f (mm_UY h (h108_.1 66 60)); omega)) (by rw [show h13.1 66 60 = h108_.1 66 60 by omega, show h13.1 66 62 = h108_.1 66 62 by omega, show h13.1 66 66 = h108_.1 66 66 by omega]; exact w108_7) | exact mm_aY0_dig (by omega) (by rw [show h13.1 66 62 = h187_.1 66 62 by omega]; exact w187_5) (by omega) (by rw [show h13.1 66 60 = h187_.1 66 60 by omega, show h13.1 66 62 = h187_.1 66 62 by omega]; exact w187_6) (by rw [show h13.1 66 60 = h187_.1 66 60 by omega]; by_cases q : h.1 66 59 ≤ h187_.1 66 60; exact Or.inl q; exact Or.inr (by have e := zv (by omega); have e2 := mm_kd_f (mm_UY h (h187_.1 66 60)); omega)) (by rw [show h13.1 66 60 = h187_.1 66 60 by omega, show h13.1 66 62 = h187_.1 66 62 by omega, show h13.1 66 64 = h187_.1 66 64 by omega]; exact w187_7) | exact mm_aY0_sgn (by omega) (by rw [show h13.1 66 62 = h13.1 66 60 - 1 by omega]; rw [show h13.1 66 60 - 1 = h4.1 66 60 by omega, zu2]; omega) (by omega) (by rw [show h13.1 66 62 = h4.1 66 60 by omega, zu2]; omega))
              have J323 : ∀ (w323_0 : (r73 = 59 ∨ r73 = 40 ∨ r73 = 41 ∨ r73 = 43 ∨ r73 = 45 ∨ r73 = 42 ∨ r73 = 47 ∨ r73 = 60 ∨ r73 = 61)), mm_W x 0 0 323 [mR 66, mU] [mR 66] h12 := by
                intro w323_0
                refine mm_iconst C (mm_dec dk_X12_goes 166 rfl) ⟨by decide, by decide⟩ ?_
                refine mm_goto (tgt := 328) C (mm_dec dk_X12_goes 167 rfl) (by decide) ?_
                exact J328 3 ⟨by omega, by omega⟩ (by have zK := mm_kd_f r73; omega) (Or.inl rfl)
              refine mm_icmp_eq (tgt := 323) C (mm_dec dk_X12_goes 141 rfl) (by decide) (fun c272 => ?_) (fun c272 => ?_)
              · skip
                refine mm_fgt 1 ?_
                exact J323 (by omega)
              · skip
                refine mm_iload_n C (mm_dec dk_X12_goes 142 rfl) rfl ?_
                refine mm_bipush C (mm_dec dk_X12_goes 143 rfl) ⟨by decide, by decide⟩ ?_
                refine mm_icmp_eq (tgt := 323) C (mm_dec dk_X12_goes 144 rfl) (by decide) (fun c278 => ?_) (fun c278 => ?_)
                · skip
                  refine mm_fgt 1 ?_
                  exact J323 (by omega)
                · skip
                  refine mm_iload_n C (mm_dec dk_X12_goes 145 rfl) rfl ?_
                  refine mm_bipush C (mm_dec dk_X12_goes 146 rfl) ⟨by decide, by decide⟩ ?_
                  refine mm_icmp_eq (tgt := 323) C (mm_dec dk_X12_goes 147 rfl) (by decide) (fun c284 => ?_) (fun c284 => ?_)
                  · skip
                    refine mm_fgt 1 ?_
                    exact J323 (by omega)
                  · skip
                    refine mm_iload_n C (mm_dec dk_X12_goes 148 rfl) rfl ?_
                    refine mm_bipush C (mm_dec dk_X12_goes 149 rfl) ⟨by decide, by decide⟩ ?_
                    refine mm_icmp_eq (tgt := 323) C (mm_dec dk_X12_goes 150 rfl) (by decide) (fun c290 => ?_) (fun c290 => ?_)
                    · skip
                      refine mm_fgt 1 ?_
                      exact J323 (by omega)
                    · skip
                      refine mm_iload_n C (mm_dec dk_X12_goes 151 rfl) rfl ?_
                      refine mm_bipush C (mm_dec dk_X12_goes 152 rfl) ⟨by decide, by decide⟩ ?_
                      refine mm_icmp_eq (tgt := 323) C (mm_dec dk_X12_goes 153 rfl) (by decide) (fun c296 => ?_) (fun c296 => ?_)
                      · skip
                        refine mm_fgt 1 ?_
                        exact J323 (by omega)
                      · skip
                        refine mm_iload_n C (mm_dec dk_X12_goes 154 rfl) rfl ?_
                        refine mm_bipush C (mm_dec dk_X12_goes 155 rfl) ⟨by decide, by decide⟩ ?_
                        refine mm_icmp_eq (tgt := 323) C (mm_dec dk_X12_goes 156 rfl) (by decide) (fun c302 => ?_) (fun c302 => ?_)
                        · skip
                          refine mm_fgt 1 ?_
                          exact J323 (by omega)
                        · skip
                          refine mm_iload_n C (mm_dec dk_X12_goes 157 rfl) rfl ?_
                          refine mm_bipush C (mm_dec dk_X12_goes 158 rfl) ⟨by decide, by decide⟩ ?_
                          refine mm_icmp_eq (tgt := 323) C (mm_dec dk_X12_goes 159 rfl) (by decide) (fun c308 => ?_) (fun c308 => ?_)
                          · skip
                            refine mm_fgt 1 ?_
                            exact J323 (by omega)
                          · skip
                            refine mm_iload_n C (mm_dec dk_X12_goes 160 rfl) rfl ?_
                            refine mm_bipush C (mm_dec dk_X12_goes 161 rfl) ⟨by decide, by decide⟩ ?_
                            refine mm_icmp_eq (tgt := 323) C (mm_dec dk_X12_goes 162 rfl) (by decide) (fun c314 => ?_) (fun c314 => ?_)
                            · skip
                              refine mm_fgt 1 ?_
                              exact J323 (by omega)
                            · skip
                              refine mm_iload_n C (mm_dec dk_X12_goes 163 rfl) rfl ?_
                              refine mm_bipush C (mm_dec dk_X12_goes 164 rfl) ⟨by decide, by decide⟩ ?_
                              refine mm_icmp_ne (tgt := 327) C (mm_dec dk_X12_goes 165 rfl) (by decide) (fun c320 => ?_) (fun c320 => ?_)
                              · skip
                                refine mm_iconst C (mm_dec dk_X12_goes 168 rfl) ⟨by decide, by decide⟩ ?_
                                refine mm_fgt 1 ?_
                                exact J328 4 ⟨by omega, by omega⟩ (by have zK := mm_kd_f r73; omega) (Or.inr (⟨by omega, by omega, by omega, by omega, by omega, by omega, by omega, by omega, by omega, rfl⟩))
                              · skip
                                refine mm_fgt 1 ?_
                                exact J323 (by omega)
            · skip
              refine mm_fgt 1 ?_
              exact J187 (((500 - h4.1 66 60) : Int) + 1).toNat h4 i4 f4 (by omega) (by omega) (by omega) (by omega) (by omega) (by first | (rw [show h4.1 66 62 = h187_.1 66 62 by omega]; exact w187_5) | (rw [show h4.1 66 62 = h4.1 66 60 by omega, zu2]; unfold mm_kd; rw [if_neg (by omega), if_pos (by omega)])) (by first | (rw [show h4.1 66 60 = h187_.1 66 60 + 1 by omega, show h4.1 66 62 = h187_.1 66 62 by omega]; exact (mm_runw_s (by omega) zy).symm.trans w187_6) | (rw [show h4.1 66 62 = h4.1 66 60 by omega]; exact mm_runw_s (by omega) (by rw [zu2]; unfold mm_kd; rw [if_neg (by omega), if_pos (by omega)]))) (by first | (rw [show h4.1 66 60 = h187_.1 66 60 + 1 by omega, show h4.1 66 64 = h237_.1 66 64 by omega, show h4.1 66 62 = h237_.1 66 62 by omega]; exact w237_8) | exact fun _ => (by rw [show (h4.1 66 60 - h4.1 66 62).toNat = 0 by omega]; show _ = (0 : Int); omega)) (by omega) (by omega)
          · skip
            refine mm_fgt 1 ?_
            exact J108 (((500 - h4.1 66 60) : Int) + 1).toNat h4 i4 f4 (by omega) (by omega) (by omega) (by omega) (by omega) (by first | (rw [show h4.1 66 62 = h108_.1 66 62 by omega]; exact w108_5) | (rw [show h4.1 66 62 = h4.1 66 60 by omega, zu2]; exact if_pos (by omega))) (by first | (rw [show h4.1 66 60 = h108_.1 66 60 + 1 by omega, show h4.1 66 62 = h108_.1 66 62 by omega]; exact (mm_runw_s (by omega) zy).symm.trans w108_6) | (rw [show h4.1 66 62 = h4.1 66 60 by omega]; exact mm_runw_s (by omega) (by rw [zu2]; exact if_pos (by omega)))) (by first | (rw [show h4.1 66 60 = h108_.1 66 60 + 1 by omega, show h4.1 66 66 = h159_.1 66 66 by omega, show h4.1 66 62 = h159_.1 66 62 by omega]; exact w159_8) | exact fun _ => (by rw [show (h4.1 66 60 - h4.1 66 62).toNat = 0 by omega]; show _ = (0 : Int); omega)) (by first | exact fun j a b => (by by_cases e : j = h108_.1 66 60; (rw [e]; exact zy); exact w108_8 j (by omega) (by omega)) | exact fun j a b => absurd b (by omega)) (by omega) (by omega)
        · skip
          refine mm_aload_n C (mm_dec dk_X12_goes 47 rfl) rfl ?_
          refine mm_iconst C (mm_dec dk_X12_goes 48 rfl) ⟨by decide, by decide⟩ ?_
          refine mm_puti C fl_X12_378 (mm_dec dk_X12_goes 49 rfl) rfl rfl rfl (Or.inl ⟨rfl, rfl⟩) ?_
          have i14 : mm_inv (mm_pf h4 66 61 0) := mm_inv_pf i4 (show -2147483648 ≤ 0 ∧ 0 ≤ 2147483647 from ⟨by omega, by omega⟩) (by decide)
          have f14 : mm_fr [(66, 60), (66, 61), (66, 62), (66, 63), (66, 64), (66, 65), (66, 66)] [] h (mm_pf h4 66 61 0) := mm_fr_pf f4 (by decide)
          obtain ⟨h14, eh14⟩ : ∃ z, z = mm_pf h4 66 61 0 := ⟨_, rfl⟩
          rw [← eh14] at i14 f14 ⊢
          have qh14 : h14.1 66 61 = 0 := by rw [eh14]; exact mm_pf_same _ _ _ _
          have qh14_204 : h14.1 66 59 = h4.1 66 59 := by rw [eh14]; exact mm_pf_ne _ _ (by decide)
          have qh14_205 : h14.1 66 60 = h4.1 66 60 := by rw [eh14]; exact mm_pf_ne _ _ (by decide)
          have qh14_206 : h14.1 66 62 = h4.1 66 62 := by rw [eh14]; exact mm_pf_ne _ _ (by decide)
          have qh14_207 : h14.1 66 63 = h4.1 66 63 := by rw [eh14]; exact mm_pf_ne _ _ (by decide)
          have qh14_208 : h14.1 66 64 = h4.1 66 64 := by rw [eh14]; exact mm_pf_ne _ _ (by decide)
          have qh14_209 : h14.1 66 65 = h4.1 66 65 := by rw [eh14]; exact mm_pf_ne _ _ (by decide)
          have qh14_210 : h14.1 66 66 = h4.1 66 66 := by rw [eh14]; exact mm_pf_ne _ _ (by decide)
          refine mm_goto (tgt := 331) C (mm_dec dk_X12_goes 50 rfl) (by decide) ?_
          refine mm_fgt 1 ?_
          exact J331 h14 i14 f14 (by omega) (by omega) (by omega) (by omega) (by first | exact mm_aY0_end (by omega) (by omega) (by omega) | exact mm_aY0_let (by omega) (by rw [show h14.1 66 62 = h108_.1 66 62 by omega]; exact w108_5) (by omega) (by rw [show h14.1 66 60 = h108_.1 66 60 by omega, show h14.1 66 62 = h108_.1 66 62 by omega]; exact w108_6) (by rw [show h14.1 66 60 = h108_.1 66 60 by omega]; by_cases q : h.1 66 59 ≤ h108_.1 66 60; exact Or.inl q; exact Or.inr (by have e := zv (by omega); have e2 := mm_kd_f (mm_UY h (h108_.1 66 60)); omega)) (by rw [show h14.1 66 60 = h108_.1 66 60 by omega, show h14.1 66 62 = h108_.1 66 62 by omega, show h14.1 66 66 = h108_.1 66 66 by omega]; exact w108_7) | exact mm_aY0_dig (by omega) (by rw [show h14.1 66 62 = h187_.1 66 62 by omega]; exact w187_5) (by omega) (by rw [show h14.1 66 60 = h187_.1 66 60 by omega, show h14.1 66 62 = h187_.1 66 62 by omega]; exact w187_6) (by rw [show h14.1 66 60 = h187_.1 66 60 by omega]; by_cases q : h.1 66 59 ≤ h187_.1 66 60; exact Or.inl q; exact Or.inr (by have e := zv (by omega); have e2 := mm_kd_f (mm_UY h (h187_.1 66 60)); omega)) (by rw [show h14.1 66 60 = h187_.1 66 60 by omega, show h14.1 66 62 = h187_.1 66 62 by omega, show h14.1 66 64 = h187_.1 66 64 by omega]; exact w187_7) | exact mm_aY0_sgn (by omega) (by rw [show h14.1 66 62 = h14.1 66 60 - 1 by omega]; rw [show h14.1 66 60 - 1 = h4.1 66 60 by omega, zu2]; omega) (by omega) (by rw [show h14.1 66 62 = h4.1 66 60 by omega, zu2]; omega))
      refine mm_icmp_ge (tgt := 50) C (mm_dec dk_X12_goes 4 rfl) (by decide) (fun c8 => ?_) (fun c8 => ?_)
      · skip
        exact J50 (by first | exact (mm_skp_e (Or.inl (by omega))).symm.trans w0_1 | exact (mm_skp_e (Or.inr ⟨by omega, by omega⟩)).symm.trans w0_1)
      · skip
        have zu : mm_UY h (h0_.1 66 60) = h0_.2.1 101 (h0_.1 66 60) := (mm_tr_in (by omega) (by omega)).trans (f0_.2 101 (by decide) _).symm
        refine mm_aload_n C (mm_dec dk_X12_goes 5 rfl) rfl ?_
        refine mm_aload_n C (mm_dec dk_X12_goes 6 rfl) rfl ?_
        refine mm_geti C fl_X12_359 (mm_dec dk_X12_goes 7 rfl) rfl rfl (Or.inl rfl) ?_
        refine mm_cVi (rest := []) C1 ev_X12_362 (mm_dec dk_X12_goes 8 rfl) (c_X12_byteAt x.2.1 hl (d - 1) (by omega) h0_ i0_ (h0_.1 66 60) ⟨by omega, by omega⟩) rfl rfl (Nat.le_of_ble_eq_true rfl) ⟨by decide, by decide⟩ rfl (fun r16 h16c hp16 => ?_) (fun _ _ q => q.elim)
        obtain ⟨z16, y16⟩ := hp16
        rw [z16]
        have g212 : -2147483648 ≤ (h0_.2.1 101 (h0_.1 66 60)) ∧ (h0_.2.1 101 (h0_.1 66 60)) ≤ 2147483647 := i0_.2.1 101 (h0_.1 66 60)
        refine mm_bipush C (mm_dec dk_X12_goes 9 rfl) ⟨by decide, by decide⟩ ?_
        have J37 : ∀ (w37_0 : (mm_UY h (h0_.1 66 60) = 32 ∨ mm_UY h (h0_.1 66 60) = 10)), mm_W x 0 0 37 [mR 66, mU] [] h0_ := by
          intro w37_0
          have g213 : 0 ≤ h0_.1 66 60 ∧ h0_.1 66 60 ≤ 500 := i0_.1 66 60
          have g214 : 0 ≤ h0_.1 66 59 ∧ h0_.1 66 59 ≤ 500 := i0_.1 66 59
          have g215 : 0 ≤ h0_.1 66 62 ∧ h0_.1 66 62 ≤ 500 := i0_.1 66 62
          have g216 : -2147483648 ≤ h0_.1 66 61 ∧ h0_.1 66 61 ≤ 2147483647 := i0_.1 66 61
          have g217 : -2147483648 ≤ h0_.1 66 64 ∧ h0_.1 66 64 ≤ 2147483647 := i0_.1 66 64
          have g218 : -2147483648 ≤ h0_.1 66 65 ∧ h0_.1 66 65 ≤ 2147483647 := i0_.1 66 65
          have g219 : -2147483648 ≤ h0_.1 66 63 ∧ h0_.1 66 63 ≤ 2147483647 := i0_.1 66 63
          have g220 : -9223372036854775808 ≤ h0_.1 66 66 ∧ h0_.1 66 66 ≤ 9223372036854775807 := i0_.1 66 66
          refine mm_aload_n C (mm_dec dk_X12_goes 17 rfl) rfl ?_
          refine mm_dup C (mm_dec dk_X12_goes 18 rfl) (show (2 : Nat) ≠ 1 by decide) ?_
          refine mm_geti C fl_X12_359 (mm_dec dk_X12_goes 19 rfl) rfl rfl (Or.inl rfl) ?_
          refine mm_iconst C (mm_dec dk_X12_goes 20 rfl) ⟨by decide, by decide⟩ ?_
          refine mm_iadd C (mm_dec dk_X12_goes 21 rfl) ⟨by omega, by omega⟩ ?_
          refine mm_puti C fl_X12_359 (mm_dec dk_X12_goes 22 rfl) rfl rfl rfl (Or.inl ⟨rfl, rfl⟩) ?_
          have i15 : mm_inv (mm_pf h0_ 66 60 ((h0_.1 66 60) + 1)) := mm_inv_pf i0_ (show 0 ≤ ((h0_.1 66 60) + 1) ∧ ((h0_.1 66 60) + 1) ≤ 500 from ⟨by omega, by omega⟩) (by decide)
          have f15 : mm_fr [(66, 60), (66, 61), (66, 62), (66, 63), (66, 64), (66, 65), (66, 66)] [] h (mm_pf h0_ 66 60 ((h0_.1 66 60) + 1)) := mm_fr_pf f0_ (by decide)
          obtain ⟨h15, eh15⟩ : ∃ z, z = mm_pf h0_ 66 60 ((h0_.1 66 60) + 1) := ⟨_, rfl⟩
          rw [← eh15] at i15 f15 ⊢
          have qh15 : h15.1 66 60 = ((h0_.1 66 60) + 1) := by rw [eh15]; exact mm_pf_same _ _ _ _
          have qh15_221 : h15.1 66 59 = h0_.1 66 59 := by rw [eh15]; exact mm_pf_ne _ _ (by decide)
          have qh15_222 : h15.1 66 61 = h0_.1 66 61 := by rw [eh15]; exact mm_pf_ne _ _ (by decide)
          have qh15_223 : h15.1 66 62 = h0_.1 66 62 := by rw [eh15]; exact mm_pf_ne _ _ (by decide)
          have qh15_224 : h15.1 66 63 = h0_.1 66 63 := by rw [eh15]; exact mm_pf_ne _ _ (by decide)
          have qh15_225 : h15.1 66 64 = h0_.1 66 64 := by rw [eh15]; exact mm_pf_ne _ _ (by decide)
          have qh15_226 : h15.1 66 65 = h0_.1 66 65 := by rw [eh15]; exact mm_pf_ne _ _ (by decide)
          have qh15_227 : h15.1 66 66 = h0_.1 66 66 := by rw [eh15]; exact mm_pf_ne _ _ (by decide)
          refine mm_goto (tgt := 0) C (mm_dec dk_X12_goes 23 rfl) (by decide) ?_
          exact ih0 h15 i15 f15 (by omega) (by first | (rw [show h15.1 66 60 = h0_.1 66 60 + 1 by omega]; exact (mm_skp_s (by omega) w37_0).symm.trans w0_1) | rfl) (by omega)
        refine mm_icmp_eq (tgt := 37) C (mm_dec dk_X12_goes 10 rfl) (by decide) (fun c21 => ?_) (fun c21 => ?_)
        · skip
          exact J37 (by omega)
        · skip
          refine mm_aload_n C (mm_dec dk_X12_goes 11 rfl) rfl ?_
          refine mm_aload_n C (mm_dec dk_X12_goes 12 rfl) rfl ?_
          refine mm_geti C fl_X12_359 (mm_dec dk_X12_goes 13 rfl) rfl rfl (Or.inl rfl) ?_
          refine mm_cVi (rest := []) C1 ev_X12_362 (mm_dec dk_X12_goes 14 rfl) (c_X12_byteAt x.2.1 hl (d - 1) (by omega) h0_ i0_ (h0_.1 66 60) ⟨by omega, by omega⟩) rfl rfl (Nat.le_of_ble_eq_true rfl) ⟨by decide, by decide⟩ rfl (fun r29 h29c hp29 => ?_) (fun _ _ q => q.elim)
          obtain ⟨z29, y29⟩ := hp29
          rw [z29]
          refine mm_bipush C (mm_dec dk_X12_goes 15 rfl) ⟨by decide, by decide⟩ ?_
          refine mm_icmp_ne (tgt := 50) C (mm_dec dk_X12_goes 16 rfl) (by decide) (fun c34 => ?_) (fun c34 => ?_)
          · skip
            exact J50 (by first | exact (mm_skp_e (Or.inl (by omega))).symm.trans w0_1 | exact (mm_skp_e (Or.inr ⟨by omega, by omega⟩)).symm.trans w0_1)
          · skip
            exact J37 (by omega)
  exact J0 (((500 - h.1 66 60) : Int) + 1).toNat h i0 f0 (by omega) (by first | (rw [show h.1 66 60 = h0_.1 66 60 + 1 by omega]; exact (mm_skp_s (by omega) w37_0).symm.trans w0_1) | rfl) (by omega)
set_option maxRecDepth 100000 in
set_option maxHeartbeats 4000000 in
theorem c_X12_knownWord_q (l : Launch) (hl : l.stackTraces = false) (d : Nat) (hd : 2 ≤ d) (h : mH) (i0 : mm_inv h) (t0 : mm_aY h) : mm_Met l d yX12_knownWord cX12_knownWord 2 (some .int) [mR 66] h (mm_pi fun r h2 => (-1 ≤ r ∧ r ≤ 16) ∧ h2 = h ∧ (r = -1 ∨ h.1 66 61 = 1) ∧ mm_kw9 r (mm_cY h)) mm_nx 0 0 := by
  refine mm_ofW (ls := [mR 66, mU]) hl (by decide) rfl (Nat.le_of_ble_eq_true rfl) ?_
  intro x hxl C T hnm htb
  subst hxl
  have C1 := mm_OK_le (d' := d - 1 + 1) (by omega) C
  have f0 : mm_fr [] [] h h := mm_fr_rf
  have g1 : -2147483648 ≤ h.1 66 61 ∧ h.1 66 61 ≤ 2147483647 := i0.1 66 61
  have g2 : -2147483648 ≤ h.1 66 63 ∧ h.1 66 63 ≤ 2147483647 := i0.1 66 63
  have g3 : -9223372036854775808 ≤ h.1 66 66 ∧ h.1 66 66 ≤ 9223372036854775807 := i0.1 66 66
  have tS := t0.1
  have tT : h.1 66 61 = 1 → mm_tkk (mm_UY h) (h.1 66 59) (h.1 66 62) = 2 := fun q => by unfold mm_so at tS; omega
  have tL := t0.2.2.1
  have tE := t0.2.1
  have tW := t0.2.2.2.2.2
  have tf := mm_cY_h t0
  refine mm_aload_n C (mm_dec dk_X12_knownWord 0 rfl) rfl ?_
  refine mm_geti C fl_X12_378 (mm_dec dk_X12_knownWord 1 rfl) rfl rfl (Or.inl rfl) ?_
  refine mm_iconst C (mm_dec dk_X12_knownWord 2 rfl) ⟨by decide, by decide⟩ ?_
  have J17 : ∀ (w17_0 : (h.1 66 61 ≠ 1 ∨ 8 < h.1 66 63)), mm_W x 0 0 17 [mU, mU] [] h := by
    intro w17_0
    have g4 : -2147483648 ≤ h.1 66 61 ∧ h.1 66 61 ≤ 2147483647 := i0.1 66 61
    have g5 : -2147483648 ≤ h.1 66 63 ∧ h.1 66 63 ≤ 2147483647 := i0.1 66 63
    have g6 : -9223372036854775808 ≤ h.1 66 66 ∧ h.1 66 66 ≤ 9223372036854775807 := i0.1 66 66
    refine mm_iconst C (mm_dec dk_X12_knownWord 8 rfl) ⟨by decide, by decide⟩ ?_
    exact mm_iret C T (mm_dec dk_X12_knownWord 9 rfl) (by decide : 0 ≤ 0) (by decide : 0 ≤ 0) ⟨_, rfl, ⟨⟨by omega, by omega⟩, rfl, by omega, by first | (rcases w17_0 with q | q; (exact mm_kw9_no (by have zz := mm_hd9x tf; omega)); (by_cases q2 : h.1 66 61 = 1; exact mm_kw_long (tT q2) (by omega); exact mm_kw9_no (by have zz := mm_hd9x tf; omega))) | exact mm_kw_hit (tT (by omega)) ⟨by omega, by omega⟩ (by rw [← tE]; exact tE ▸ (mm_kw_at (tT (by omega)) (by omega) (by rw [← tE]; exact tW (by omega) (by omega)) ⟨by omega, by omega⟩).mp zr.symm) | exact mm_kw_none (tT (by omega)) (fun k a b m => w21_0 k a (by omega) ((mm_kw_at (tT (by omega)) (by omega) (by rw [← tE]; exact tW (by omega) (by omega)) ⟨a, b⟩).mpr m).symm)⟩⟩
  refine mm_icmp_ne (tgt := 17) C (mm_dec dk_X12_knownWord 3 rfl) (by decide) (fun c5 => ?_) (fun c5 => ?_)
  · skip
    refine mm_fgt 0 ?_
    exact J17 (by omega)
  · skip
    refine mm_aload_n C (mm_dec dk_X12_knownWord 4 rfl) rfl ?_
    refine mm_geti C fl_X12_387 (mm_dec dk_X12_knownWord 5 rfl) rfl rfl (Or.inl rfl) ?_
    refine mm_bipush C (mm_dec dk_X12_knownWord 6 rfl) ⟨by decide, by decide⟩ ?_
    refine mm_icmp_le (tgt := 19) C (mm_dec dk_X12_knownWord 7 rfl) (by decide) (fun c14 => ?_) (fun c14 => ?_)
    · skip
      refine mm_iconst C (mm_dec dk_X12_knownWord 10 rfl) ⟨by decide, by decide⟩ ?_
      have J21 : ∀ (n : Nat) (x21_1 : Int) (bx21_1 : 0 ≤ x21_1 ∧ x21_1 ≤ 19) (w21_0 : (∀ j, 0 ≤ j → j < x21_1 → h.1 66 66 ≠ mm_ky j)), (19 - x21_1 : Int) < n → mm_W x 0 0 21 [mR 66, mI x21_1] [] h := by
        intro n
        induction n with
        | zero =>
          intro x21_1 bx21_1 w21_0 hm
          have g7 : -2147483648 ≤ h.1 66 61 ∧ h.1 66 61 ≤ 2147483647 := i0.1 66 61
          have g8 : -2147483648 ≤ h.1 66 63 ∧ h.1 66 63 ≤ 2147483647 := i0.1 66 63
          have g9 : -9223372036854775808 ≤ h.1 66 66 ∧ h.1 66 66 ≤ 9223372036854775807 := i0.1 66 66
          exfalso; omega
        | succ n ih21 =>
          intro x21_1 bx21_1 w21_0 hm21
          have g10 : -2147483648 ≤ h.1 66 61 ∧ h.1 66 61 ≤ 2147483647 := i0.1 66 61
          have g11 : -2147483648 ≤ h.1 66 63 ∧ h.1 66 63 ≤ 2147483647 := i0.1 66 63
          have g12 : -9223372036854775808 ≤ h.1 66 66 ∧ h.1 66 66 ≤ 9223372036854775807 := i0.1 66 66
          refine mm_iload_n C (mm_dec dk_X12_knownWord 12 rfl) rfl ?_
          refine mm_bipush C (mm_dec dk_X12_knownWord 13 rfl) ⟨by decide, by decide⟩ ?_
          refine mm_icmp_ge (tgt := 47) C (mm_dec dk_X12_knownWord 14 rfl) (by decide) (fun c24 => ?_) (fun c24 => ?_)
          · skip
            refine mm_iconst C (mm_dec dk_X12_knownWord 25 rfl) ⟨by decide, by decide⟩ ?_
            exact mm_iret C T (mm_dec dk_X12_knownWord 26 rfl) (by decide : 0 ≤ 0) (by decide : 0 ≤ 0) ⟨_, rfl, ⟨⟨by omega, by omega⟩, rfl, by omega, by first | (rcases w17_0 with q | q; (exact mm_kw9_no (by have zz := mm_hd9x tf; omega)); (by_cases q2 : h.1 66 61 = 1; exact mm_kw_long (tT q2) (by omega); exact mm_kw9_no (by have zz := mm_hd9x tf; omega))) | exact mm_kw_hit (tT (by omega)) ⟨by omega, by omega⟩ (by rw [← tE]; exact tE ▸ (mm_kw_at (tT (by omega)) (by omega) (by rw [← tE]; exact tW (by omega) (by omega)) ⟨by omega, by omega⟩).mp zr.symm) | exact mm_kw_none (tT (by omega)) (fun k a b m => w21_0 k a (by omega) ((mm_kw_at (tT (by omega)) (by omega) (by rw [← tE]; exact tW (by omega) (by omega)) ⟨a, b⟩).mpr m).symm)⟩⟩
          · skip
            refine mm_iload_n C (mm_dec dk_X12_knownWord 15 rfl) rfl ?_
            refine mm_cSl (rest := []) C1 es_X12_394 (mm_dec dk_X12_knownWord 16 rfl) (c_X12_known_q x.2.1 hl (d - 1) (by omega) h i0 x21_1 ⟨by omega, by omega⟩) rfl (Nat.le_of_ble_eq_true rfl) ⟨by decide, by decide⟩ rfl (fun r28 h28c hp28 => ?_) (fun _ _ q => q.elim)
            obtain ⟨z28, y28_0⟩ := hp28
            rw [z28]
            refine mm_rng (fun _ ho => ?_)
            have b28 : -9223372036854775808 ≤ r28 ∧ r28 < 9223372036854775808 := mm_ok_hd ho
            refine mm_aload_n C (mm_dec dk_X12_knownWord 17 rfl) rfl ?_
            refine mm_getl C fl_X12_368 (mm_dec dk_X12_knownWord 18 rfl) rfl rfl ?_
            refine mm_lcmp C (mm_dec dk_X12_knownWord 19 rfl) (fun c35 => ?_) (fun c35 => ?_) (fun c35 => ?_)
            · skip
              refine mm_if_ne (tgt := 41) C (mm_dec dk_X12_knownWord 20 rfl) (by decide) (fun c36 => ?_) (fun c36 => ?_)
              · skip
                have zr : h.1 66 66 ≠ mm_ky x21_1 := by have q := y28_0; omega
                refine mm_iincL (ls2 := [mR 66, mI (x21_1 + 1)]) C (mm_dec dk_X12_knownWord 23 rfl) rfl (by decide) ⟨by omega, by omega⟩ rfl ?_
                refine mm_goto (tgt := 21) C (mm_dec dk_X12_knownWord 24 rfl) (by decide) ?_
                exact ih21 (x21_1 + 1) ⟨by omega, by omega⟩ (by first | exact fun j a b => absurd b (by omega) | exact fun j a b => (by by_cases e : j = x21_1; (rw [e]; exact zr); exact w21_0 j a (by omega))) (by omega)
              · skip
                exfalso; omega
            · skip
              refine mm_if_ne (tgt := 41) C (mm_dec dk_X12_knownWord 20 rfl) (by decide) (fun c36 => ?_) (fun c36 => ?_)
              · skip
                exfalso; omega
              · skip
                have zr : h.1 66 66 = mm_ky x21_1 := by have q := y28_0; omega
                refine mm_iload_n C (mm_dec dk_X12_knownWord 21 rfl) rfl ?_
                exact mm_iret C T (mm_dec dk_X12_knownWord 22 rfl) (by decide : 0 ≤ 0) (by decide : 0 ≤ 0) ⟨_, rfl, ⟨⟨by omega, by omega⟩, rfl, by omega, by first | (rcases w17_0 with q | q; (exact mm_kw9_no (by have zz := mm_hd9x tf; omega)); (by_cases q2 : h.1 66 61 = 1; exact mm_kw_long (tT q2) (by omega); exact mm_kw9_no (by have zz := mm_hd9x tf; omega))) | exact mm_kw_hit (tT (by omega)) ⟨by omega, by omega⟩ (by rw [← tE]; exact tE ▸ (mm_kw_at (tT (by omega)) (by omega) (by rw [← tE]; exact tW (by omega) (by omega)) ⟨by omega, by omega⟩).mp zr.symm) | exact mm_kw_none (tT (by omega)) (fun k a b m => w21_0 k a (by omega) ((mm_kw_at (tT (by omega)) (by omega) (by rw [← tE]; exact tW (by omega) (by omega)) ⟨a, b⟩).mpr m).symm)⟩⟩
            · skip
              refine mm_if_ne (tgt := 41) C (mm_dec dk_X12_knownWord 20 rfl) (by decide) (fun c36 => ?_) (fun c36 => ?_)
              · skip
                have zr : h.1 66 66 ≠ mm_ky x21_1 := by have q := y28_0; omega
                refine mm_iincL (ls2 := [mR 66, mI (x21_1 + 1)]) C (mm_dec dk_X12_knownWord 23 rfl) rfl (by decide) ⟨by omega, by omega⟩ rfl ?_
                refine mm_goto (tgt := 21) C (mm_dec dk_X12_knownWord 24 rfl) (by decide) ?_
                exact ih21 (x21_1 + 1) ⟨by omega, by omega⟩ (by first | exact fun j a b => absurd b (by omega) | exact fun j a b => (by by_cases e : j = x21_1; (rw [e]; exact zr); exact w21_0 j a (by omega))) (by omega)
              · skip
                exfalso; omega
      refine mm_istore_nL (ls2 := [mR 66, mI 0]) C (mm_dec dk_X12_knownWord 11 rfl) (by decide) rfl ?_
      exact J21 (((19 - 0) : Int) + 1).toNat 0 ⟨by omega, by omega⟩ (by first | exact fun j a b => absurd b (by omega) | exact fun j a b => (by by_cases e : j = x21_1; (rw [e]; exact zr); exact w21_0 j a (by omega))) (by omega)
    · skip
      refine mm_fgt 0 ?_
      exact J17 (by omega)
set_option maxRecDepth 100000 in
set_option maxHeartbeats 4000000 in
theorem c_X12_wrong_q (l : Launch) (hl : l.stackTraces = false) (d : Nat) (hd : 0 ≤ d) (h : mH) (i0 : mm_inv h) (p1 : Int) (u0 : p1 ≠ 0) : mm_Met l d yX12_wrong cX12_wrong 2 none [mR 66, mI p1] h (mm_pv fun h2 => mm_inv h2 ∧ mm_fr [(66, 57), (66, 58)] [] h h2 ∧ h2.1 66 57 ≠ 0 ∧ ((h.1 66 57 = 0 ∧ h2.1 66 57 = p1 ∧ h2.1 66 58 = h.1 66 62) ∨ (h.1 66 57 ≠ 0 ∧ h2.1 66 57 = h.1 66 57 ∧ h2.1 66 58 = h.1 66 58))) mm_nx 0 0 := by
  refine mm_ofW (ls := [mR 66, mI p1]) hl (by decide) rfl (Nat.le_of_ble_eq_true rfl) ?_
  intro x hxl C T hnm htb
  subst hxl
  refine mm_rng (fun hr _ => ?_)
  have ap1 : -2147483648 ≤ p1 ∧ p1 < 2147483648 := mm_ok_at hr (i := 1) rfl
  have f0 : mm_fr [(66, 57), (66, 58)] [] h h := mm_fr_rf
  have g1 : -2147483648 ≤ h.1 66 57 ∧ h.1 66 57 ≤ 2147483647 := i0.1 66 57
  have g2 : -2147483648 ≤ h.1 66 58 ∧ h.1 66 58 ≤ 2147483647 := i0.1 66 58
  have g3 : 0 ≤ h.1 66 62 ∧ h.1 66 62 ≤ 500 := i0.1 66 62
  refine mm_aload_n C (mm_dec dk_X12_wrong 0 rfl) rfl ?_
  refine mm_geti C fl_X12_398 (mm_dec dk_X12_wrong 1 rfl) rfl rfl (Or.inl rfl) ?_
  refine mm_if_eq (tgt := 8) C (mm_dec dk_X12_wrong 2 rfl) (by decide) (fun c4 => ?_) (fun c4 => ?_)
  · skip
    refine mm_aload_n C (mm_dec dk_X12_wrong 4 rfl) rfl ?_
    refine mm_iload_n C (mm_dec dk_X12_wrong 5 rfl) rfl ?_
    refine mm_puti C fl_X12_398 (mm_dec dk_X12_wrong 6 rfl) rfl rfl rfl (Or.inl ⟨rfl, rfl⟩) ?_
    have i1 : mm_inv (mm_pf h 66 57 p1) := mm_inv_pf i0 (show -2147483648 ≤ p1 ∧ p1 ≤ 2147483647 from ⟨by omega, by omega⟩) (by decide)
    have f1 : mm_fr [(66, 57), (66, 58)] [] h (mm_pf h 66 57 p1) := mm_fr_pf f0 (by decide)
    obtain ⟨h1, eh1⟩ : ∃ z, z = mm_pf h 66 57 p1 := ⟨_, rfl⟩
    rw [← eh1] at i1 f1 ⊢
    have qh1 : h1.1 66 57 = p1 := by rw [eh1]; exact mm_pf_same _ _ _ _
    have qh1_4 : h1.1 66 58 = h.1 66 58 := by rw [eh1]; exact mm_pf_ne _ _ (by decide)
    have qh1_5 : h1.1 66 62 = h.1 66 62 := by rw [eh1]; exact mm_pf_ne _ _ (by decide)
    refine mm_aload_n C (mm_dec dk_X12_wrong 7 rfl) rfl ?_
    refine mm_aload_n C (mm_dec dk_X12_wrong 8 rfl) rfl ?_
    refine mm_geti C fl_X12_365 (mm_dec dk_X12_wrong 9 rfl) rfl rfl (Or.inl rfl) ?_
    refine mm_puti C fl_X12_237 (mm_dec dk_X12_wrong 10 rfl) rfl rfl rfl (Or.inl ⟨rfl, rfl⟩) ?_
    have i2 : mm_inv (mm_pf h1 66 58 (h1.1 66 62)) := mm_inv_pf i1 (show -2147483648 ≤ (h1.1 66 62) ∧ (h1.1 66 62) ≤ 2147483647 from ⟨by omega, by omega⟩) (by decide)
    have f2 : mm_fr [(66, 57), (66, 58)] [] h (mm_pf h1 66 58 (h1.1 66 62)) := mm_fr_pf f1 (by decide)
    obtain ⟨h2, eh2⟩ : ∃ z, z = mm_pf h1 66 58 (h1.1 66 62) := ⟨_, rfl⟩
    rw [← eh2] at i2 f2 ⊢
    have qh2 : h2.1 66 58 = (h1.1 66 62) := by rw [eh2]; exact mm_pf_same _ _ _ _
    have qh2_6 : h2.1 66 57 = h1.1 66 57 := by rw [eh2]; exact mm_pf_ne _ _ (by decide)
    have qh2_7 : h2.1 66 62 = h1.1 66 62 := by rw [eh2]; exact mm_pf_ne _ _ (by decide)
    exact mm_vret C T (mm_dec dk_X12_wrong 11 rfl) (by decide : 0 ≤ 0) (by decide : 0 ≤ 0) ⟨rfl, ⟨i2, f2, by omega, by omega⟩⟩
  · skip
    exact mm_vret C T (mm_dec dk_X12_wrong 3 rfl) (by decide : 0 ≤ 0) (by decide : 0 ≤ 0) ⟨rfl, ⟨i0, f0, by omega, by omega⟩⟩
set_option maxRecDepth 100000 in
set_option maxHeartbeats 4000000 in
theorem c_X12_begins_q (l : Launch) (hl : l.stackTraces = false) (d : Nat) (hd : 1 ≤ d) (h : mH) (i0 : mm_inv h) (t0 : mm_aY h) : mm_Met l d yX12_begins cX12_begins 1 none [mR 66] h (mm_pv fun h2 => mm_inv h2 ∧ mm_fr [(66, 57), (66, 58), (66, 71)] [109] h h2 ∧ (h2.1 66 57 = 0 → h.1 66 57 = 0 ∧ h2.1 66 71 = h.1 66 71 + 1) ∧ mm_bg h h2) mm_nx 0 0 := by
  refine mm_ofW (ls := [mR 66]) hl (by decide) rfl (Nat.le_of_ble_eq_true rfl) ?_
  intro x hxl C T hnm htb
  subst hxl
  have C1 := mm_OK_le (d' := d - 1 + 1) (by omega) C
  have f0 : mm_fr [(66, 57), (66, 58), (66, 71)] [109] h h := mm_fr_rf
  have g1 : -2147483648 ≤ h.1 66 57 ∧ h.1 66 57 ≤ 2147483647 := i0.1 66 57
  have g2 : -2147483648 ≤ h.1 66 58 ∧ h.1 66 58 ≤ 2147483647 := i0.1 66 58
  have g3 : 0 ≤ h.1 66 71 ∧ h.1 66 71 ≤ 6 := i0.1 66 71
  have g4 : 0 ≤ h.1 66 62 ∧ h.1 66 62 ≤ 500 := i0.1 66 62
  have tf := mm_cY_h t0
  refine mm_aload_n C (mm_dec dk_X12_begins 0 rfl) rfl ?_
  refine mm_geti C fl_X12_426 (mm_dec dk_X12_begins 1 rfl) rfl rfl (Or.inl rfl) ?_
  refine mm_bipush C (mm_dec dk_X12_begins 2 rfl) ⟨by decide, by decide⟩ ?_
  refine mm_icmp_ge (tgt := 30) C (mm_dec dk_X12_begins 3 rfl) (by decide) (fun c6 => ?_) (fun c6 => ?_)
  · skip
    refine mm_aload_n C (mm_dec dk_X12_begins 17 rfl) rfl ?_
    refine mm_aload_n C (mm_dec dk_X12_begins 18 rfl) rfl ?_
    refine mm_geti C fl_X12_378 (mm_dec dk_X12_begins 19 rfl) rfl rfl (Or.inl rfl) ?_
    have g5 : -2147483648 ≤ (h.1 66 61) ∧ (h.1 66 61) ≤ 2147483647 := i0.1 66 61
    refine mm_iconst C (mm_dec dk_X12_begins 20 rfl) ⟨by decide, by decide⟩ ?_
    have J61 : ∀ (s61_1 : Int) (bs61_1 : 1 ≤ s61_1 ∧ s61_1 ≤ 2) (w61_0 : ((s61_1 = 2 ∧ (mm_cY h ≤ 19 ∨ mm_cY h = 140)) ∨ (s61_1 = 1 ∧ ¬ (mm_cY h ≤ 19 ∨ mm_cY h = 140)))) (vs61_1 : ((h.1 66 61) ≠ 2 ∧ (h.1 66 61) ≠ 1 ∧ s61_1 = 1) ∨ (s61_1 = 2)), mm_W x 0 0 61 [mU] [mI s61_1, mR 66] h := by
      intro s61_1 bs61_1 w61_0 vs61_1
      have g6 : -2147483648 ≤ h.1 66 57 ∧ h.1 66 57 ≤ 2147483647 := i0.1 66 57
      have g7 : -2147483648 ≤ h.1 66 58 ∧ h.1 66 58 ≤ 2147483647 := i0.1 66 58
      have g8 : 0 ≤ h.1 66 71 ∧ h.1 66 71 ≤ 6 := i0.1 66 71
      have g9 : 0 ≤ h.1 66 62 ∧ h.1 66 62 ≤ 500 := i0.1 66 62
      refine mm_cVv (rest := []) C1 ev_X12_417 (mm_dec dk_X12_begins 33 rfl) (c_X12_wrong_q x.2.1 hl (d - 1) (by omega) h i0 s61_1 (by omega)) rfl rfl (Nat.le_of_ble_eq_true rfl) ⟨by decide, by decide⟩ rfl (fun h61c hp61 => ?_) (fun _ _ q => q.elim)
      obtain ⟨i61c, g61c, y61_0, y61_1⟩ := hp61
      have f61c : mm_fr [(66, 57), (66, 58), (66, 71)] [109] h h61c := mm_fr_tr f0 g61c (by decide +kernel)
      have q61c_11 : h61c.1 66 61 = h.1 66 61 := g61c.1 66 61 (by decide)
      have q61c_12 : h61c.1 66 62 = h.1 66 62 := g61c.1 66 62 (by decide)
      have q61c_13 : h61c.1 66 71 = h.1 66 71 := g61c.1 66 71 (by decide)
      have g14 : -2147483648 ≤ (h61c.1 66 57) ∧ (h61c.1 66 57) ≤ 2147483647 := i61c.1 66 57
      have g15 : -2147483648 ≤ (h61c.1 66 58) ∧ (h61c.1 66 58) ≤ 2147483647 := i61c.1 66 58
      exact mm_vret C T (mm_dec dk_X12_begins 34 rfl) (by decide : 0 ≤ 0) (by decide : 0 ≤ 0) ⟨rfl, ⟨i61c, f61c, by omega, by first | exact ⟨mm_eY_tr (mm_eY_pf eh2 (by decide)) (mm_eY_pa eh3 (by decide)), Or.inl ⟨by omega, by omega, ⟨by omega, by omega⟩, mm_up_pav (fun _ => (by rw [eh2]; rfl)) eh3 (fun _ => rfl) (by omega) rfl rfl⟩⟩ | exact ⟨mm_eY_fr g61c (by decide), Or.inr ⟨by omega, by omega, fun q => ⟨by omega, by rcases w61_0 with ⟨u, w⟩ | ⟨u, w⟩; (rw [if_pos w]; omega); (rw [if_neg w]; omega)⟩⟩⟩⟩⟩
    have J56 : ∀ (w56_0 : (mm_cY h ≤ 19 ∨ mm_cY h = 140)), mm_W x 0 0 56 [mU] [mR 66] h := by
      intro w56_0
      have g16 : -2147483648 ≤ h.1 66 57 ∧ h.1 66 57 ≤ 2147483647 := i0.1 66 57
      have g17 : -2147483648 ≤ h.1 66 58 ∧ h.1 66 58 ≤ 2147483647 := i0.1 66 58
      have g18 : 0 ≤ h.1 66 71 ∧ h.1 66 71 ≤ 6 := i0.1 66 71
      have g19 : 0 ≤ h.1 66 62 ∧ h.1 66 62 ≤ 500 := i0.1 66 62
      refine mm_iconst C (mm_dec dk_X12_begins 30 rfl) ⟨by decide, by decide⟩ ?_
      refine mm_goto (tgt := 61) C (mm_dec dk_X12_begins 31 rfl) (by decide) ?_
      exact J61 2 ⟨by omega, by omega⟩ (by have zz := mm_hd9x tf; omega) (Or.inr (rfl))
    refine mm_icmp_eq (tgt := 56) C (mm_dec dk_X12_begins 21 rfl) (by decide) (fun c36 => ?_) (fun c36 => ?_)
    · skip
      refine mm_fgt 0 ?_
      exact J56 (by have zz := mm_hd9x tf; omega)
    · skip
      refine mm_aload_n C (mm_dec dk_X12_begins 22 rfl) rfl ?_
      refine mm_geti C fl_X12_378 (mm_dec dk_X12_begins 23 rfl) rfl rfl (Or.inl rfl) ?_
      refine mm_iconst C (mm_dec dk_X12_begins 24 rfl) ⟨by decide, by decide⟩ ?_
      refine mm_icmp_eq (tgt := 56) C (mm_dec dk_X12_begins 25 rfl) (by decide) (fun c44 => ?_) (fun c44 => ?_)
      · skip
        refine mm_fgt 0 ?_
        exact J56 (by have zz := mm_hd9x tf; omega)
      · skip
        refine mm_aload_n C (mm_dec dk_X12_begins 26 rfl) rfl ?_
        refine mm_bipush C (mm_dec dk_X12_begins 27 rfl) ⟨by decide, by decide⟩ ?_
        refine mm_cVi (rest := [mR 66]) C1 ev_X12_429 (mm_dec dk_X12_begins 28 rfl) (c_X12_isSign x.2.1 hl (d - 1) (by omega) h i0 40) rfl rfl (Nat.le_of_ble_eq_true rfl) ⟨by decide, by decide⟩ rfl (fun r50 h50c hp50 => ?_) (fun _ _ q => q.elim)
        obtain ⟨z50, y50⟩ := hp50
        rw [z50]
        have g21 : -2147483648 ≤ (h.1 66 65) ∧ (h.1 66 65) ≤ 2147483647 := i0.1 66 65
        refine mm_if_eq (tgt := 60) C (mm_dec dk_X12_begins 29 rfl) (by decide) (fun c53 => ?_) (fun c53 => ?_)
        · skip
          refine mm_iconst C (mm_dec dk_X12_begins 32 rfl) ⟨by decide, by decide⟩ ?_
          refine mm_fgt 0 ?_
          exact J61 1 ⟨by omega, by omega⟩ (by have zz := mm_hd9x tf; omega) (Or.inl ⟨by omega, by omega, rfl⟩)
        · skip
          refine mm_fgt 0 ?_
          exact J56 (by have zz := mm_hd9x tf; omega)
  · skip
    refine mm_aload_n C (mm_dec dk_X12_begins 4 rfl) rfl ?_
    refine mm_dup C (mm_dec dk_X12_begins 5 rfl) (show (2 : Nat) ≠ 1 by decide) ?_
    refine mm_geti C fl_X12_426 (mm_dec dk_X12_begins 6 rfl) rfl rfl (Or.inl rfl) ?_
    refine mm_iconst C (mm_dec dk_X12_begins 7 rfl) ⟨by decide, by decide⟩ ?_
    refine mm_iadd C (mm_dec dk_X12_begins 8 rfl) ⟨by omega, by omega⟩ ?_
    refine mm_puti C fl_X12_426 (mm_dec dk_X12_begins 9 rfl) rfl rfl rfl (Or.inl ⟨rfl, rfl⟩) ?_
    have i2 : mm_inv (mm_pf h 66 71 ((h.1 66 71) + 1)) := mm_inv_pf i0 (show 0 ≤ ((h.1 66 71) + 1) ∧ ((h.1 66 71) + 1) ≤ 6 from ⟨by omega, by omega⟩) (by decide)
    have f2 : mm_fr [(66, 57), (66, 58), (66, 71)] [109] h (mm_pf h 66 71 ((h.1 66 71) + 1)) := mm_fr_pf f0 (by decide)
    obtain ⟨h2, eh2⟩ : ∃ z, z = mm_pf h 66 71 ((h.1 66 71) + 1) := ⟨_, rfl⟩
    rw [← eh2] at i2 f2 ⊢
    have qh2 : h2.1 66 71 = ((h.1 66 71) + 1) := by rw [eh2]; exact mm_pf_same _ _ _ _
    have qh2_22 : h2.1 66 57 = h.1 66 57 := by rw [eh2]; exact mm_pf_ne _ _ (by decide)
    have qh2_23 : h2.1 66 58 = h.1 66 58 := by rw [eh2]; exact mm_pf_ne _ _ (by decide)
    have qh2_24 : h2.1 66 62 = h.1 66 62 := by rw [eh2]; exact mm_pf_ne _ _ (by decide)
    refine mm_aload_n C (mm_dec dk_X12_begins 10 rfl) rfl ?_
    refine mm_getr (t := 109) C fl_X12_138 (mm_dec dk_X12_begins 11 rfl) rfl rfl (mm_ref i2 rfl) ?_
    refine mm_aload_n C (mm_dec dk_X12_begins 12 rfl) rfl ?_
    refine mm_geti C fl_X12_426 (mm_dec dk_X12_begins 13 rfl) rfl rfl (Or.inl rfl) ?_
    refine mm_iconst C (mm_dec dk_X12_begins 14 rfl) ⟨by decide, by decide⟩ ?_
    refine mm_zast C (mm_dec dk_X12_begins 15 rfl) rfl (by omega) (by omega) (by omega) ?_
    have i3 : mm_inv (mm_pa h2 109 (h2.1 66 71) 0) := mm_inv_pa i2 (show 0 ≤ 0 ∧ 0 ≤ 1 from ⟨by omega, by omega⟩)
    have f3 : mm_fr [(66, 57), (66, 58), (66, 71)] [109] h (mm_pa h2 109 (h2.1 66 71) 0) := mm_fr_pa f2 (by decide)
    obtain ⟨h3, eh3⟩ : ∃ z, z = mm_pa h2 109 (h2.1 66 71) 0 := ⟨_, rfl⟩
    rw [← eh3] at i3 f3 ⊢
    have qh3_25 : h3.1 66 57 = h2.1 66 57 := by rw [eh3]; rfl
    have qh3_26 : h3.1 66 58 = h2.1 66 58 := by rw [eh3]; rfl
    have qh3_27 : h3.1 66 62 = h2.1 66 62 := by rw [eh3]; rfl
    have qh3_28 : h3.1 66 71 = h2.1 66 71 := by rw [eh3]; rfl
    exact mm_vret C T (mm_dec dk_X12_begins 16 rfl) (by decide : 0 ≤ 0) (by decide : 0 ≤ 0) ⟨rfl, ⟨i3, f3, by omega, by first | exact ⟨mm_eY_tr (mm_eY_pf eh2 (by decide)) (mm_eY_pa eh3 (by decide)), Or.inl ⟨by omega, by omega, ⟨by omega, by omega⟩, mm_up_pav (fun _ => (by rw [eh2]; rfl)) eh3 (fun _ => rfl) (by omega) rfl rfl⟩⟩ | exact ⟨mm_eY_fr g61c (by decide), Or.inr ⟨by omega, by omega, fun q => ⟨by omega, by rcases w61_0 with ⟨u, w⟩ | ⟨u, w⟩; (rw [if_pos w]; omega); (rw [if_neg w]; omega)⟩⟩⟩⟩⟩
set_option maxRecDepth 100000 in
set_option maxHeartbeats 4000000 in
theorem c_X12_part_q (l : Launch) (hl : l.stackTraces = false) (d : Nat) (hd : 3 ≤ d) (h : mH) (i0 : mm_inv h) (t0 : mm_tok h) (t1 : h.1 66 69 ≤ 2397) (t2 : h.1 66 70 ≤ 519) (t3 : mm_aY h) : mm_Met l d yX12_part cX12_part 2 none [mR 66] h (mm_pv fun h2 => mm_inv h2 ∧ mm_fr [(66, 57), (66, 58), (66, 60), (66, 61), (66, 62), (66, 63), (66, 64), (66, 65), (66, 66), (66, 69)] [107] h h2 ∧ mm_pt h h2 ∧ mm_pY9 h h2 ∧ (h2.1 66 57 ≠ 0 ∨ (h.1 66 57 = 0 ∧ h2.1 66 58 = h.1 66 58))) mm_nx 0 0 := by
  refine mm_ofW (ls := [mR 66, mU]) hl (by decide) rfl (Nat.le_of_ble_eq_true rfl) ?_
  intro x hxl C T hnm htb
  subst hxl
  have C1 := mm_OK_le (d' := d - 1 + 1) (by omega) C
  have f0 : mm_fr [(66, 57), (66, 58), (66, 60), (66, 61), (66, 62), (66, 63), (66, 64), (66, 65), (66, 66), (66, 69)] [107] h h := mm_fr_rf
  have g1 : -2147483648 ≤ h.1 66 57 ∧ h.1 66 57 ≤ 2147483647 := i0.1 66 57
  have g2 : 0 ≤ h.1 66 69 ∧ h.1 66 69 ≤ 2400 := i0.1 66 69
  have g3 : 0 ≤ h.1 66 70 ∧ h.1 66 70 ≤ 520 := i0.1 66 70
  have g4 : 0 ≤ h.1 66 62 ∧ h.1 66 62 ≤ 500 := i0.1 66 62
  have g5 : 0 ≤ h.1 66 60 ∧ h.1 66 60 ≤ 500 := i0.1 66 60
  have g6 : -2147483648 ≤ h.1 66 61 ∧ h.1 66 61 ≤ 2147483647 := i0.1 66 61
  have g7 : 0 ≤ h.1 66 71 ∧ h.1 66 71 ≤ 6 := i0.1 66 71
  have g8 : -2147483648 ≤ h.1 66 58 ∧ h.1 66 58 ≤ 2147483647 := i0.1 66 58
  have g9 : -2147483648 ≤ h.1 66 63 ∧ h.1 66 63 ≤ 2147483647 := i0.1 66 63
  have g10 : -2147483648 ≤ h.1 66 65 ∧ h.1 66 65 ≤ 2147483647 := i0.1 66 65
  have tf := mm_cY_h t3
  refine mm_aload_n C (mm_dec dk_X12_part 0 rfl) rfl ?_
  refine mm_cVi (rest := []) C1 ev_X12_413 (mm_dec dk_X12_part 1 rfl) (c_X12_isGood x.2.1 hl (d - 1) (by omega) h i0 ) rfl rfl (Nat.le_of_ble_eq_true rfl) ⟨by decide, by decide⟩ rfl (fun r1 h1c hp1 => ?_) (fun _ _ q => q.elim)
  obtain ⟨z1, y1⟩ := hp1
  rw [z1]
  refine mm_if_ne (tgt := 8) C (mm_dec dk_X12_part 2 rfl) (by decide) (fun c4 => ?_) (fun c4 => ?_)
  · skip
    refine mm_aload_n C (mm_dec dk_X12_part 4 rfl) rfl ?_
    refine mm_geti C fl_X12_378 (mm_dec dk_X12_part 5 rfl) rfl rfl (Or.inl rfl) ?_
    refine mm_iconst C (mm_dec dk_X12_part 6 rfl) ⟨by decide, by decide⟩ ?_
    have J113 : ∀ (h113_ : mH) (i113_ : mm_inv h113_) (f113_ : mm_fr [(66, 57), (66, 58), (66, 60), (66, 61), (66, 62), (66, 63), (66, 64), (66, 65), (66, 66), (66, 69)] [107] h h113_) (w113_0 : mm_p1 h h113_) (w113_1 : mm_eY h h113_) (w113_2 : ((h113_.1 66 57 = 0 ∧ (mm_cY h = 18 ∨ (7 ≤ mm_cY h ∧ mm_cY h ≤ 16))) ∨ (h113_.1 66 58 = h.1 66 62 ∧ ((mm_cY h = 19 ∧ h113_.1 66 57 = 2) ∨ (mm_cY h ≤ 6 ∧ h113_.1 66 57 = 3) ∨ (mm_cY h = 17 ∧ h113_.1 66 57 = 3) ∨ (20 ≤ mm_cY h ∧ h113_.1 66 57 = 1))))) (w113_3 : (h113_.1 66 57 ≠ 0 ∨ (h.1 66 57 = 0 ∧ h113_.1 66 58 = h.1 66 58))), mm_W x 0 0 113 [mR 66, mU] [] h113_ := by
      intro h113_ i113_ f113_ w113_0 w113_1 w113_2 w113_3
      have g12 : -2147483648 ≤ h113_.1 66 57 ∧ h113_.1 66 57 ≤ 2147483647 := i113_.1 66 57
      have g13 : 0 ≤ h113_.1 66 69 ∧ h113_.1 66 69 ≤ 2400 := i113_.1 66 69
      have g14 : 0 ≤ h113_.1 66 70 ∧ h113_.1 66 70 ≤ 520 := i113_.1 66 70
      have g15 : 0 ≤ h113_.1 66 62 ∧ h113_.1 66 62 ≤ 500 := i113_.1 66 62
      have g16 : 0 ≤ h113_.1 66 60 ∧ h113_.1 66 60 ≤ 500 := i113_.1 66 60
      have g17 : -2147483648 ≤ h113_.1 66 61 ∧ h113_.1 66 61 ≤ 2147483647 := i113_.1 66 61
      have g18 : 0 ≤ h113_.1 66 71 ∧ h113_.1 66 71 ≤ 6 := i113_.1 66 71
      have g19 : -2147483648 ≤ h113_.1 66 58 ∧ h113_.1 66 58 ≤ 2147483647 := i113_.1 66 58
      have g20 : -2147483648 ≤ h113_.1 66 63 ∧ h113_.1 66 63 ≤ 2147483647 := i113_.1 66 63
      have g21 : -2147483648 ≤ h113_.1 66 65 ∧ h113_.1 66 65 ≤ 2147483647 := i113_.1 66 65
      have g22 : h113_.1 66 70 = h.1 66 70 := f113_.1 66 70 (by decide)
      have g23 : h113_.1 66 71 = h.1 66 71 := f113_.1 66 71 (by decide)
      refine mm_aload_n C (mm_dec dk_X12_part 60 rfl) rfl ?_
      refine mm_cVi (rest := []) C1 ev_X12_413 (mm_dec dk_X12_part 61 rfl) (c_X12_isGood x.2.1 hl (d - 1) (by omega) h113_ i113_ ) rfl rfl (Nat.le_of_ble_eq_true rfl) ⟨by decide, by decide⟩ rfl (fun r114 h114c hp114 => ?_) (fun _ _ q => q.elim)
      obtain ⟨z114, y114⟩ := hp114
      rw [z114]
      have J124 : ∀ (h124_ : mH) (i124_ : mm_inv h124_) (f124_ : mm_fr [(66, 57), (66, 58), (66, 60), (66, 61), (66, 62), (66, 63), (66, 64), (66, 65), (66, 66), (66, 69)] [107] h h124_) (w124_0 : mm_pt h h124_) (w124_1 : mm_pY9 h h124_) (w124_2 : (h124_.1 66 57 ≠ 0 ∨ (h.1 66 57 = 0 ∧ h124_.1 66 58 = h.1 66 58))), mm_W x 0 0 124 [mU, mU] [] h124_ := by
        intro h124_ i124_ f124_ w124_0 w124_1 w124_2
        have g25 : -2147483648 ≤ h124_.1 66 57 ∧ h124_.1 66 57 ≤ 2147483647 := i124_.1 66 57
        have g26 : 0 ≤ h124_.1 66 69 ∧ h124_.1 66 69 ≤ 2400 := i124_.1 66 69
        have g27 : 0 ≤ h124_.1 66 70 ∧ h124_.1 66 70 ≤ 520 := i124_.1 66 70
        have g28 : 0 ≤ h124_.1 66 62 ∧ h124_.1 66 62 ≤ 500 := i124_.1 66 62
        have g29 : 0 ≤ h124_.1 66 60 ∧ h124_.1 66 60 ≤ 500 := i124_.1 66 60
        have g30 : -2147483648 ≤ h124_.1 66 61 ∧ h124_.1 66 61 ≤ 2147483647 := i124_.1 66 61
        have g31 : 0 ≤ h124_.1 66 71 ∧ h124_.1 66 71 ≤ 6 := i124_.1 66 71
        have g32 : -2147483648 ≤ h124_.1 66 58 ∧ h124_.1 66 58 ≤ 2147483647 := i124_.1 66 58
        have g33 : -2147483648 ≤ h124_.1 66 63 ∧ h124_.1 66 63 ≤ 2147483647 := i124_.1 66 63
        have g34 : -2147483648 ≤ h124_.1 66 65 ∧ h124_.1 66 65 ≤ 2147483647 := i124_.1 66 65
        have g35 : h124_.1 66 70 = h.1 66 70 := f124_.1 66 70 (by decide)
        have g36 : h124_.1 66 71 = h.1 66 71 := f124_.1 66 71 (by decide)
        exact mm_vret C T (mm_dec dk_X12_part 65 rfl) (by decide : 0 ≤ 0) (by decide : 0 ≤ 0) ⟨rfl, ⟨i124_, f124_, by first | exact w124_0 | exact mm_pt_rf (by omega) t0, by first | exact w124_1 | exact ⟨mm_TYy_rf, t3, Or.inl ⟨by omega, rfl, rfl⟩⟩, by omega⟩⟩
      refine mm_if_eq (tgt := 124) C (mm_dec dk_X12_part 62 rfl) (by decide) (fun c117 => ?_) (fun c117 => ?_)
      · skip
        refine mm_fgt 0 ?_
        exact J124 h113_ i113_ f113_ (by first | exact mm_pt_no w113_0 (by omega) t0 | exact mm_pt_go w113_0 (by omega) (by omega) t0 g121c y121_0 y121_1 y121_2) (by first | (have zs := mm_st9_e w113_1 (mm_st9_of (mm_eY_a w113_1 t3) y121_3 y121_4 g121c (by decide)); exact ⟨zs.1, zs.2.1, Or.inr (Or.inl ⟨by omega, by omega, by omega, zs.2.2⟩)⟩) | exact ⟨w113_1.1, mm_eY_a w113_1 t3, Or.inr (Or.inr ⟨by omega, by omega, by omega⟩)⟩) (by omega)
      · skip
        refine mm_aload_n C (mm_dec dk_X12_part 63 rfl) rfl ?_
        refine mm_cVv (rest := []) C1 ev_X12_423 (mm_dec dk_X12_part 64 rfl) (c_X12_goes_q x.2.1 hl (d - 1) (by omega) h113_ i113_ ) rfl rfl (Nat.le_of_ble_eq_true rfl) ⟨by decide, by decide⟩ rfl (fun h121c hp121 => ?_) (fun _ _ q => q.elim)
        obtain ⟨i121c, g121c, y121_0, y121_1, y121_2, y121_3, y121_4⟩ := hp121
        have f121c : mm_fr [(66, 57), (66, 58), (66, 60), (66, 61), (66, 62), (66, 63), (66, 64), (66, 65), (66, 66), (66, 69)] [107] h h121c := mm_fr_tr f113_ g121c (by decide +kernel)
        have q121c_38 : h121c.1 66 57 = h113_.1 66 57 := g121c.1 66 57 (by decide)
        have q121c_39 : h121c.1 66 58 = h113_.1 66 58 := g121c.1 66 58 (by decide)
        have q121c_40 : h121c.1 66 69 = h113_.1 66 69 := g121c.1 66 69 (by decide)
        have q121c_41 : h121c.1 66 70 = h113_.1 66 70 := g121c.1 66 70 (by decide)
        have q121c_42 : h121c.1 66 71 = h113_.1 66 71 := g121c.1 66 71 (by decide)
        have g43 : 0 ≤ (h121c.1 66 62) ∧ (h121c.1 66 62) ≤ 500 := i121c.1 66 62
        have g44 : 0 ≤ (h121c.1 66 60) ∧ (h121c.1 66 60) ≤ 500 := i121c.1 66 60
        have g45 : -2147483648 ≤ (h121c.1 66 61) ∧ (h121c.1 66 61) ≤ 2147483647 := i121c.1 66 61
        have g46 : -2147483648 ≤ (h121c.1 66 63) ∧ (h121c.1 66 63) ≤ 2147483647 := i121c.1 66 63
        have g47 : -2147483648 ≤ (h121c.1 66 65) ∧ (h121c.1 66 65) ≤ 2147483647 := i121c.1 66 65
        refine mm_fgt 0 ?_
        exact J124 h121c i121c f121c (by first | exact mm_pt_no w113_0 (by omega) t0 | exact mm_pt_go w113_0 (by omega) (by omega) t0 g121c y121_0 y121_1 y121_2) (by first | (have zs := mm_st9_e w113_1 (mm_st9_of (mm_eY_a w113_1 t3) y121_3 y121_4 g121c (by decide)); exact ⟨zs.1, zs.2.1, Or.inr (Or.inl ⟨by omega, by omega, by omega, zs.2.2⟩)⟩) | exact ⟨w113_1.1, mm_eY_a w113_1 t3, Or.inr (Or.inr ⟨by omega, by omega, by omega⟩)⟩) (by omega)
    refine mm_icmp_ne (tgt := 45) C (mm_dec dk_X12_part 7 rfl) (by decide) (fun c13 => ?_) (fun c13 => ?_)
    · skip
      refine mm_aload_n C (mm_dec dk_X12_part 23 rfl) rfl ?_
      refine mm_geti C fl_X12_378 (mm_dec dk_X12_part 24 rfl) rfl rfl (Or.inl rfl) ?_
      refine mm_iconst C (mm_dec dk_X12_part 25 rfl) ⟨by decide, by decide⟩ ?_
      refine mm_icmp_ne (tgt := 108) C (mm_dec dk_X12_part 26 rfl) (by decide) (fun c50 => ?_) (fun c50 => ?_)
      · skip
        refine mm_aload_n C (mm_dec dk_X12_part 57 rfl) rfl ?_
        refine mm_iconst C (mm_dec dk_X12_part 58 rfl) ⟨by decide, by decide⟩ ?_
        refine mm_cVv (rest := []) C1 ev_X12_417 (mm_dec dk_X12_part 59 rfl) (c_X12_wrong_q x.2.1 hl (d - 1) (by omega) h i0 1 (by omega)) rfl rfl (Nat.le_of_ble_eq_true rfl) ⟨by decide, by decide⟩ rfl (fun h110c hp110 => ?_) (fun _ _ q => q.elim)
        obtain ⟨i110c, g110c, y110_0, y110_1⟩ := hp110
        have f110c : mm_fr [(66, 57), (66, 58), (66, 60), (66, 61), (66, 62), (66, 63), (66, 64), (66, 65), (66, 66), (66, 69)] [107] h h110c := mm_fr_tr f0 g110c (by decide +kernel)
        have q110c_49 : h110c.1 66 60 = h.1 66 60 := g110c.1 66 60 (by decide)
        have q110c_50 : h110c.1 66 61 = h.1 66 61 := g110c.1 66 61 (by decide)
        have q110c_51 : h110c.1 66 62 = h.1 66 62 := g110c.1 66 62 (by decide)
        have q110c_52 : h110c.1 66 63 = h.1 66 63 := g110c.1 66 63 (by decide)
        have q110c_53 : h110c.1 66 65 = h.1 66 65 := g110c.1 66 65 (by decide)
        have q110c_54 : h110c.1 66 69 = h.1 66 69 := g110c.1 66 69 (by decide)
        have q110c_55 : h110c.1 66 70 = h.1 66 70 := g110c.1 66 70 (by decide)
        have q110c_56 : h110c.1 66 71 = h.1 66 71 := g110c.1 66 71 (by decide)
        have g57 : -2147483648 ≤ (h110c.1 66 57) ∧ (h110c.1 66 57) ≤ 2147483647 := i110c.1 66 57
        have g58 : -2147483648 ≤ (h110c.1 66 58) ∧ (h110c.1 66 58) ≤ 2147483647 := i110c.1 66 58
        exact J113 h110c i110c f110c (by first | exact mm_p1_of i0 w29_0 y31_0 y31_1 g31c y39_0 y39_1 g39c (by omega) (by decide) (fun _ => ⟨fun q => absurd q (by decide), fun q => absurd q (by decide)⟩) (by omega) (by omega) | exact mm_p1_of i0 w69_0 y81_0 y81_1 g81c y102_0 y102_1 g102c (by omega) ⟨by omega, by omega⟩ (fun z => ⟨fun q => ⟨by omega, by omega⟩, fun q => ⟨by omega, by omega⟩⟩) (by omega) (by omega) | exact mm_p1_bad (mm_sm_fr g110c (by decide)) y110_0) (by first | exact mm_eY_fr g110c (by decide) | exact mm_eY_tr w29_1 (mm_eY_tr (mm_eY_fr g31c (by decide)) (mm_eY_fr g39c (by decide))) | exact mm_eY_tr w69_2 (mm_eY_tr (mm_eY_fr g81c (by decide)) (mm_eY_fr g102c (by decide)))) (by first | (have zk := mm_kw9_x y54_1; have zz := mm_hd9x tf; omega) | (have zz := mm_hd9x tf; omega)) (by omega)
      · skip
        refine mm_aload_n C (mm_dec dk_X12_part 27 rfl) rfl ?_
        refine mm_cVi (rest := []) C1 ev_X12_419 (mm_dec dk_X12_part 28 rfl) (c_X12_knownWord_q x.2.1 hl (d - 1) (by omega) h i0 (by first | exact t3 | omega)) rfl rfl (Nat.le_of_ble_eq_true rfl) ⟨by decide, by decide⟩ rfl (fun r54 h54c hp54 => ?_) (fun _ _ q => q.elim)
        obtain ⟨b54, z54, y54_0, y54_1⟩ := hp54
        rw [z54]
        refine mm_istore_nL (ls2 := [mR 66, mI r54]) C (mm_dec dk_X12_part 29 rfl) (by decide) rfl ?_
        refine mm_iload_n C (mm_dec dk_X12_part 30 rfl) rfl ?_
        refine mm_bipush C (mm_dec dk_X12_part 31 rfl) ⟨by decide, by decide⟩ ?_
        have J69 : ∀ (h69_ : mH) (i69_ : mm_inv h69_) (f69_ : mm_fr [(66, 57), (66, 58), (66, 60), (66, 61), (66, 62), (66, 63), (66, 64), (66, 65), (66, 66), (66, 69)] [107] h h69_) (w69_0 : mm_sm h h69_) (w69_1 : (h69_.1 66 57 ≠ 0 ∨ 7 ≤ r54)) (w69_2 : mm_eY h h69_) (w69_3 : ((h69_.1 66 57 = 0 ∧ 7 ≤ r54 ∧ h69_.1 66 58 = h.1 66 58) ∨ (h69_.1 66 57 = 3 ∧ h69_.1 66 58 = h.1 66 62 ∧ r54 < 7))), mm_W x 0 0 69 [mR 66, mI r54] [] h69_ := by
          intro h69_ i69_ f69_ w69_0 w69_1 w69_2 w69_3
          have g60 : -2147483648 ≤ h69_.1 66 57 ∧ h69_.1 66 57 ≤ 2147483647 := i69_.1 66 57
          have g61 : 0 ≤ h69_.1 66 69 ∧ h69_.1 66 69 ≤ 2400 := i69_.1 66 69
          have g62 : 0 ≤ h69_.1 66 70 ∧ h69_.1 66 70 ≤ 520 := i69_.1 66 70
          have g63 : 0 ≤ h69_.1 66 62 ∧ h69_.1 66 62 ≤ 500 := i69_.1 66 62
          have g64 : 0 ≤ h69_.1 66 60 ∧ h69_.1 66 60 ≤ 500 := i69_.1 66 60
          have g65 : -2147483648 ≤ h69_.1 66 61 ∧ h69_.1 66 61 ≤ 2147483647 := i69_.1 66 61
          have g66 : 0 ≤ h69_.1 66 71 ∧ h69_.1 66 71 ≤ 6 := i69_.1 66 71
          have g67 : -2147483648 ≤ h69_.1 66 58 ∧ h69_.1 66 58 ≤ 2147483647 := i69_.1 66 58
          have g68 : -2147483648 ≤ h69_.1 66 63 ∧ h69_.1 66 63 ≤ 2147483647 := i69_.1 66 63
          have g69 : -2147483648 ≤ h69_.1 66 65 ∧ h69_.1 66 65 ≤ 2147483647 := i69_.1 66 65
          have g70 : h69_.1 66 70 = h.1 66 70 := f69_.1 66 70 (by decide)
          have g71 : h69_.1 66 71 = h.1 66 71 := f69_.1 66 71 (by decide)
          have za := w69_0.1
          have zb := w69_0.2.1
          refine mm_aload_n C (mm_dec dk_X12_part 36 rfl) rfl ?_
          refine mm_iload_n C (mm_dec dk_X12_part 37 rfl) rfl ?_
          refine mm_bipush C (mm_dec dk_X12_part 38 rfl) ⟨by decide, by decide⟩ ?_
          have J81 : ∀ (s81_1 : Int) (bs81_1 : 2 ≤ s81_1 ∧ s81_1 ≤ 3) (vs81_1 : (10 ≤ r54 ∧ s81_1 = 2) ∨ (r54 < 10 ∧ s81_1 = 3)), mm_W x 0 0 81 [mR 66, mI r54] [mI s81_1, mR 66] h69_ := by
            intro s81_1 bs81_1 vs81_1
            have g72 : -2147483648 ≤ h69_.1 66 57 ∧ h69_.1 66 57 ≤ 2147483647 := i69_.1 66 57
            have g73 : 0 ≤ h69_.1 66 69 ∧ h69_.1 66 69 ≤ 2400 := i69_.1 66 69
            have g74 : 0 ≤ h69_.1 66 70 ∧ h69_.1 66 70 ≤ 520 := i69_.1 66 70
            have g75 : 0 ≤ h69_.1 66 62 ∧ h69_.1 66 62 ≤ 500 := i69_.1 66 62
            have g76 : 0 ≤ h69_.1 66 60 ∧ h69_.1 66 60 ≤ 500 := i69_.1 66 60
            have g77 : -2147483648 ≤ h69_.1 66 61 ∧ h69_.1 66 61 ≤ 2147483647 := i69_.1 66 61
            have g78 : 0 ≤ h69_.1 66 71 ∧ h69_.1 66 71 ≤ 6 := i69_.1 66 71
            have g79 : -2147483648 ≤ h69_.1 66 58 ∧ h69_.1 66 58 ≤ 2147483647 := i69_.1 66 58
            have g80 : -2147483648 ≤ h69_.1 66 63 ∧ h69_.1 66 63 ≤ 2147483647 := i69_.1 66 63
            have g81 : -2147483648 ≤ h69_.1 66 65 ∧ h69_.1 66 65 ≤ 2147483647 := i69_.1 66 65
            refine mm_cVv (rest := []) C1 ev_X12_410 (mm_dec dk_X12_part 43 rfl) (c_X12_puts_x x.2.1 hl (d - 1) (by omega) h69_ i69_ s81_1 (by omega)) rfl rfl (Nat.le_of_ble_eq_true rfl) ⟨by decide, by decide⟩ rfl (fun h81c hp81 => ?_) (fun _ _ q => q.elim)
            obtain ⟨i81c, g81c, y81_0, y81_1⟩ := hp81
            have f81c : mm_fr [(66, 57), (66, 58), (66, 60), (66, 61), (66, 62), (66, 63), (66, 64), (66, 65), (66, 66), (66, 69)] [107] h h81c := mm_fr_tr f69_ g81c (by decide +kernel)
            have q81c_83 : h81c.1 66 57 = h69_.1 66 57 := g81c.1 66 57 (by decide)
            have q81c_84 : h81c.1 66 58 = h69_.1 66 58 := g81c.1 66 58 (by decide)
            have q81c_85 : h81c.1 66 60 = h69_.1 66 60 := g81c.1 66 60 (by decide)
            have q81c_86 : h81c.1 66 61 = h69_.1 66 61 := g81c.1 66 61 (by decide)
            have q81c_87 : h81c.1 66 62 = h69_.1 66 62 := g81c.1 66 62 (by decide)
            have q81c_88 : h81c.1 66 63 = h69_.1 66 63 := g81c.1 66 63 (by decide)
            have q81c_89 : h81c.1 66 65 = h69_.1 66 65 := g81c.1 66 65 (by decide)
            have q81c_90 : h81c.1 66 70 = h69_.1 66 70 := g81c.1 66 70 (by decide)
            have q81c_91 : h81c.1 66 71 = h69_.1 66 71 := g81c.1 66 71 (by decide)
            have g92 : 0 ≤ (h81c.1 66 69) ∧ (h81c.1 66 69) ≤ 2400 := i81c.1 66 69
            refine mm_aload_n C (mm_dec dk_X12_part 44 rfl) rfl ?_
            refine mm_iload_n C (mm_dec dk_X12_part 45 rfl) rfl ?_
            refine mm_bipush C (mm_dec dk_X12_part 46 rfl) ⟨by decide, by decide⟩ ?_
            have J102 : ∀ (s102_1 : Int) (bs102_1 : -8 ≤ s102_1 ∧ s102_1 ≤ 6) (w102_0 : ((r54 < 10 ∧ s102_1 = r54 - 7) ∨ (10 ≤ r54 ∧ s102_1 = r54 - 10))), mm_W x 0 0 102 [mR 66, mU] [mI s102_1, mR 66] h81c := by
              intro s102_1 bs102_1 w102_0
              refine mm_cVv (rest := []) C1 ev_X12_410 (mm_dec dk_X12_part 55 rfl) (c_X12_puts_x x.2.1 hl (d - 1) (by omega) h81c i81c s102_1 (by omega)) rfl rfl (Nat.le_of_ble_eq_true rfl) ⟨by decide, by decide⟩ rfl (fun h102c hp102 => ?_) (fun _ _ q => q.elim)
              obtain ⟨i102c, g102c, y102_0, y102_1⟩ := hp102
              have f102c : mm_fr [(66, 57), (66, 58), (66, 60), (66, 61), (66, 62), (66, 63), (66, 64), (66, 65), (66, 66), (66, 69)] [107] h h102c := mm_fr_tr f81c g102c (by decide +kernel)
              have q102c_94 : h102c.1 66 57 = h81c.1 66 57 := g102c.1 66 57 (by decide)
              have q102c_95 : h102c.1 66 58 = h81c.1 66 58 := g102c.1 66 58 (by decide)
              have q102c_96 : h102c.1 66 60 = h81c.1 66 60 := g102c.1 66 60 (by decide)
              have q102c_97 : h102c.1 66 61 = h81c.1 66 61 := g102c.1 66 61 (by decide)
              have q102c_98 : h102c.1 66 62 = h81c.1 66 62 := g102c.1 66 62 (by decide)
              have q102c_99 : h102c.1 66 63 = h81c.1 66 63 := g102c.1 66 63 (by decide)
              have q102c_100 : h102c.1 66 65 = h81c.1 66 65 := g102c.1 66 65 (by decide)
              have q102c_101 : h102c.1 66 70 = h81c.1 66 70 := g102c.1 66 70 (by decide)
              have q102c_102 : h102c.1 66 71 = h81c.1 66 71 := g102c.1 66 71 (by decide)
              have g103 : 0 ≤ (h102c.1 66 69) ∧ (h102c.1 66 69) ≤ 2400 := i102c.1 66 69
              refine mm_goto (tgt := 113) C (mm_dec dk_X12_part 56 rfl) (by decide) ?_
              exact J113 h102c i102c f102c (by first | exact mm_p1_of i0 w29_0 y31_0 y31_1 g31c y39_0 y39_1 g39c (by omega) (by decide) (fun _ => ⟨fun q => absurd q (by decide), fun q => absurd q (by decide)⟩) (by omega) (by omega) | exact mm_p1_of i0 w69_0 y81_0 y81_1 g81c y102_0 y102_1 g102c (by omega) ⟨by omega, by omega⟩ (fun z => ⟨fun q => ⟨by omega, by omega⟩, fun q => ⟨by omega, by omega⟩⟩) (by omega) (by omega) | exact mm_p1_bad (mm_sm_fr g110c (by decide)) y110_0) (by first | exact mm_eY_fr g110c (by decide) | exact mm_eY_tr w29_1 (mm_eY_tr (mm_eY_fr g31c (by decide)) (mm_eY_fr g39c (by decide))) | exact mm_eY_tr w69_2 (mm_eY_tr (mm_eY_fr g81c (by decide)) (mm_eY_fr g102c (by decide)))) (by first | (have zk := mm_kw9_x y54_1; have zz := mm_hd9x tf; omega) | (have zz := mm_hd9x tf; omega)) (by omega)
            refine mm_icmp_ge (tgt := 98) C (mm_dec dk_X12_part 47 rfl) (by decide) (fun c88 => ?_) (fun c88 => ?_)
            · skip
              refine mm_iload_n C (mm_dec dk_X12_part 52 rfl) rfl ?_
              refine mm_bipush C (mm_dec dk_X12_part 53 rfl) ⟨by decide, by decide⟩ ?_
              refine mm_isub C (mm_dec dk_X12_part 54 rfl) ⟨by omega, by omega⟩ ?_
              refine mm_fgt 1 ?_
              exact J102 (r54 - 10) ⟨by omega, by omega⟩ (by omega)
            · skip
              refine mm_iload_n C (mm_dec dk_X12_part 48 rfl) rfl ?_
              refine mm_bipush C (mm_dec dk_X12_part 49 rfl) ⟨by decide, by decide⟩ ?_
              refine mm_isub C (mm_dec dk_X12_part 50 rfl) ⟨by omega, by omega⟩ ?_
              refine mm_goto (tgt := 102) C (mm_dec dk_X12_part 51 rfl) (by decide) ?_
              refine mm_fgt 1 ?_
              exact J102 (r54 - 7) ⟨by omega, by omega⟩ (by omega)
          refine mm_icmp_ge (tgt := 80) C (mm_dec dk_X12_part 39 rfl) (by decide) (fun c73 => ?_) (fun c73 => ?_)
          · skip
            refine mm_iconst C (mm_dec dk_X12_part 42 rfl) ⟨by decide, by decide⟩ ?_
            exact J81 2 ⟨by omega, by omega⟩ (Or.inl ⟨by omega, rfl⟩)
          · skip
            refine mm_iconst C (mm_dec dk_X12_part 40 rfl) ⟨by decide, by decide⟩ ?_
            refine mm_goto (tgt := 81) C (mm_dec dk_X12_part 41 rfl) (by decide) ?_
            exact J81 3 ⟨by omega, by omega⟩ (Or.inr (⟨by omega, rfl⟩))
        refine mm_icmp_ge (tgt := 69) C (mm_dec dk_X12_part 32 rfl) (by decide) (fun c61 => ?_) (fun c61 => ?_)
        · skip
          exact J69 h i0 f0 (by first | exact mm_sm_rf | exact mm_sm_fr g66c (by decide)) (by omega) (by first | exact mm_eY_rf | exact mm_eY_fr g66c (by decide)) (by omega)
        · skip
          refine mm_aload_n C (mm_dec dk_X12_part 33 rfl) rfl ?_
          refine mm_iconst C (mm_dec dk_X12_part 34 rfl) ⟨by decide, by decide⟩ ?_
          refine mm_cVv (rest := []) C1 ev_X12_417 (mm_dec dk_X12_part 35 rfl) (c_X12_wrong_q x.2.1 hl (d - 1) (by omega) h i0 3 (by omega)) rfl rfl (Nat.le_of_ble_eq_true rfl) ⟨by decide, by decide⟩ rfl (fun h66c hp66 => ?_) (fun _ _ q => q.elim)
          obtain ⟨i66c, g66c, y66_0, y66_1⟩ := hp66
          have f66c : mm_fr [(66, 57), (66, 58), (66, 60), (66, 61), (66, 62), (66, 63), (66, 64), (66, 65), (66, 66), (66, 69)] [107] h h66c := mm_fr_tr f0 g66c (by decide +kernel)
          have q66c_105 : h66c.1 66 60 = h.1 66 60 := g66c.1 66 60 (by decide)
          have q66c_106 : h66c.1 66 61 = h.1 66 61 := g66c.1 66 61 (by decide)
          have q66c_107 : h66c.1 66 62 = h.1 66 62 := g66c.1 66 62 (by decide)
          have q66c_108 : h66c.1 66 63 = h.1 66 63 := g66c.1 66 63 (by decide)
          have q66c_109 : h66c.1 66 65 = h.1 66 65 := g66c.1 66 65 (by decide)
          have q66c_110 : h66c.1 66 69 = h.1 66 69 := g66c.1 66 69 (by decide)
          have q66c_111 : h66c.1 66 70 = h.1 66 70 := g66c.1 66 70 (by decide)
          have q66c_112 : h66c.1 66 71 = h.1 66 71 := g66c.1 66 71 (by decide)
          have g113 : -2147483648 ≤ (h66c.1 66 57) ∧ (h66c.1 66 57) ≤ 2147483647 := i66c.1 66 57
          have g114 : -2147483648 ≤ (h66c.1 66 58) ∧ (h66c.1 66 58) ≤ 2147483647 := i66c.1 66 58
          exact J69 h66c i66c f66c (by first | exact mm_sm_rf | exact mm_sm_fr g66c (by decide)) (by omega) (by first | exact mm_eY_rf | exact mm_eY_fr g66c (by decide)) (by omega)
    · skip
      refine mm_aload_n C (mm_dec dk_X12_part 8 rfl) rfl ?_
      refine mm_geti C fl_X12_387 (mm_dec dk_X12_part 9 rfl) rfl rfl (Or.inl rfl) ?_
      refine mm_iconst C (mm_dec dk_X12_part 10 rfl) ⟨by decide, by decide⟩ ?_
      have J29 : ∀ (h29_ : mH) (i29_ : mm_inv h29_) (f29_ : mm_fr [(66, 57), (66, 58), (66, 60), (66, 61), (66, 62), (66, 63), (66, 64), (66, 65), (66, 66), (66, 69)] [107] h h29_) (w29_0 : mm_sm h h29_) (w29_1 : mm_eY h h29_) (w29_2 : ((h29_.1 66 57 = 0 ∧ h.1 66 63 ≤ 5 ∧ h29_.1 66 58 = h.1 66 58) ∨ (h29_.1 66 57 = 2 ∧ h29_.1 66 58 = h.1 66 62 ∧ 5 < h.1 66 63))), mm_W x 0 0 29 [mR 66, mU] [] h29_ := by
        intro h29_ i29_ f29_ w29_0 w29_1 w29_2
        have g115 : -2147483648 ≤ h29_.1 66 57 ∧ h29_.1 66 57 ≤ 2147483647 := i29_.1 66 57
        have g116 : 0 ≤ h29_.1 66 69 ∧ h29_.1 66 69 ≤ 2400 := i29_.1 66 69
        have g117 : 0 ≤ h29_.1 66 70 ∧ h29_.1 66 70 ≤ 520 := i29_.1 66 70
        have g118 : 0 ≤ h29_.1 66 62 ∧ h29_.1 66 62 ≤ 500 := i29_.1 66 62
        have g119 : 0 ≤ h29_.1 66 60 ∧ h29_.1 66 60 ≤ 500 := i29_.1 66 60
        have g120 : -2147483648 ≤ h29_.1 66 61 ∧ h29_.1 66 61 ≤ 2147483647 := i29_.1 66 61
        have g121 : 0 ≤ h29_.1 66 71 ∧ h29_.1 66 71 ≤ 6 := i29_.1 66 71
        have g122 : -2147483648 ≤ h29_.1 66 58 ∧ h29_.1 66 58 ≤ 2147483647 := i29_.1 66 58
        have g123 : -2147483648 ≤ h29_.1 66 63 ∧ h29_.1 66 63 ≤ 2147483647 := i29_.1 66 63
        have g124 : -2147483648 ≤ h29_.1 66 65 ∧ h29_.1 66 65 ≤ 2147483647 := i29_.1 66 65
        have g125 : h29_.1 66 70 = h.1 66 70 := f29_.1 66 70 (by decide)
        have g126 : h29_.1 66 71 = h.1 66 71 := f29_.1 66 71 (by decide)
        have za := w29_0.1
        have zb := w29_0.2.1
        refine mm_aload_n C (mm_dec dk_X12_part 15 rfl) rfl ?_
        refine mm_iconst C (mm_dec dk_X12_part 16 rfl) ⟨by decide, by decide⟩ ?_
        refine mm_cVv (rest := []) C1 ev_X12_410 (mm_dec dk_X12_part 17 rfl) (c_X12_puts_x x.2.1 hl (d - 1) (by omega) h29_ i29_ 1 (by omega)) rfl rfl (Nat.le_of_ble_eq_true rfl) ⟨by decide, by decide⟩ rfl (fun h31c hp31 => ?_) (fun _ _ q => q.elim)
        obtain ⟨i31c, g31c, y31_0, y31_1⟩ := hp31
        have f31c : mm_fr [(66, 57), (66, 58), (66, 60), (66, 61), (66, 62), (66, 63), (66, 64), (66, 65), (66, 66), (66, 69)] [107] h h31c := mm_fr_tr f29_ g31c (by decide +kernel)
        have q31c_128 : h31c.1 66 57 = h29_.1 66 57 := g31c.1 66 57 (by decide)
        have q31c_129 : h31c.1 66 58 = h29_.1 66 58 := g31c.1 66 58 (by decide)
        have q31c_130 : h31c.1 66 60 = h29_.1 66 60 := g31c.1 66 60 (by decide)
        have q31c_131 : h31c.1 66 61 = h29_.1 66 61 := g31c.1 66 61 (by decide)
        have q31c_132 : h31c.1 66 62 = h29_.1 66 62 := g31c.1 66 62 (by decide)
        have q31c_133 : h31c.1 66 63 = h29_.1 66 63 := g31c.1 66 63 (by decide)
        have q31c_134 : h31c.1 66 65 = h29_.1 66 65 := g31c.1 66 65 (by decide)
        have q31c_135 : h31c.1 66 70 = h29_.1 66 70 := g31c.1 66 70 (by decide)
        have q31c_136 : h31c.1 66 71 = h29_.1 66 71 := g31c.1 66 71 (by decide)
        have g137 : 0 ≤ (h31c.1 66 69) ∧ (h31c.1 66 69) ≤ 2400 := i31c.1 66 69
        refine mm_aload_n C (mm_dec dk_X12_part 18 rfl) rfl ?_
        refine mm_aload_n C (mm_dec dk_X12_part 19 rfl) rfl ?_
        refine mm_geti C fl_X12_372 (mm_dec dk_X12_part 20 rfl) rfl rfl (Or.inl rfl) ?_
        have g138 : -2147483648 ≤ (h31c.1 66 64) ∧ (h31c.1 66 64) ≤ 2147483647 := i31c.1 66 64
        refine mm_cVv (rest := []) C1 ev_X12_410 (mm_dec dk_X12_part 21 rfl) (c_X12_puts_x x.2.1 hl (d - 1) (by omega) h31c i31c (h31c.1 66 64) (by omega)) rfl rfl (Nat.le_of_ble_eq_true rfl) ⟨by decide, by decide⟩ rfl (fun h39c hp39 => ?_) (fun _ _ q => q.elim)
        obtain ⟨i39c, g39c, y39_0, y39_1⟩ := hp39
        have f39c : mm_fr [(66, 57), (66, 58), (66, 60), (66, 61), (66, 62), (66, 63), (66, 64), (66, 65), (66, 66), (66, 69)] [107] h h39c := mm_fr_tr f31c g39c (by decide +kernel)
        have q39c_140 : h39c.1 66 57 = h31c.1 66 57 := g39c.1 66 57 (by decide)
        have q39c_141 : h39c.1 66 58 = h31c.1 66 58 := g39c.1 66 58 (by decide)
        have q39c_142 : h39c.1 66 60 = h31c.1 66 60 := g39c.1 66 60 (by decide)
        have q39c_143 : h39c.1 66 61 = h31c.1 66 61 := g39c.1 66 61 (by decide)
        have q39c_144 : h39c.1 66 62 = h31c.1 66 62 := g39c.1 66 62 (by decide)
        have q39c_145 : h39c.1 66 63 = h31c.1 66 63 := g39c.1 66 63 (by decide)
        have q39c_146 : h39c.1 66 64 = h31c.1 66 64 := g39c.1 66 64 (by decide)
        have q39c_147 : h39c.1 66 65 = h31c.1 66 65 := g39c.1 66 65 (by decide)
        have q39c_148 : h39c.1 66 70 = h31c.1 66 70 := g39c.1 66 70 (by decide)
        have q39c_149 : h39c.1 66 71 = h31c.1 66 71 := g39c.1 66 71 (by decide)
        have g150 : 0 ≤ (h39c.1 66 69) ∧ (h39c.1 66 69) ≤ 2400 := i39c.1 66 69
        refine mm_goto (tgt := 113) C (mm_dec dk_X12_part 22 rfl) (by decide) ?_
        exact J113 h39c i39c f39c (by first | exact mm_p1_of i0 w29_0 y31_0 y31_1 g31c y39_0 y39_1 g39c (by omega) (by decide) (fun _ => ⟨fun q => absurd q (by decide), fun q => absurd q (by decide)⟩) (by omega) (by omega) | exact mm_p1_of i0 w69_0 y81_0 y81_1 g81c y102_0 y102_1 g102c (by omega) ⟨by omega, by omega⟩ (fun z => ⟨fun q => ⟨by omega, by omega⟩, fun q => ⟨by omega, by omega⟩⟩) (by omega) (by omega) | exact mm_p1_bad (mm_sm_fr g110c (by decide)) y110_0) (by first | exact mm_eY_fr g110c (by decide) | exact mm_eY_tr w29_1 (mm_eY_tr (mm_eY_fr g31c (by decide)) (mm_eY_fr g39c (by decide))) | exact mm_eY_tr w69_2 (mm_eY_tr (mm_eY_fr g81c (by decide)) (mm_eY_fr g102c (by decide)))) (by first | (have zk := mm_kw9_x y54_1; have zz := mm_hd9x tf; omega) | (have zz := mm_hd9x tf; omega)) (by omega)
      refine mm_icmp_le (tgt := 29) C (mm_dec dk_X12_part 11 rfl) (by decide) (fun c21 => ?_) (fun c21 => ?_)
      · skip
        exact J29 h i0 f0 (by first | exact mm_sm_rf | exact mm_sm_fr g26c (by decide)) (by first | exact mm_eY_rf | exact mm_eY_fr g26c (by decide)) (by omega)
      · skip
        refine mm_aload_n C (mm_dec dk_X12_part 12 rfl) rfl ?_
        refine mm_iconst C (mm_dec dk_X12_part 13 rfl) ⟨by decide, by decide⟩ ?_
        refine mm_cVv (rest := []) C1 ev_X12_417 (mm_dec dk_X12_part 14 rfl) (c_X12_wrong_q x.2.1 hl (d - 1) (by omega) h i0 2 (by omega)) rfl rfl (Nat.le_of_ble_eq_true rfl) ⟨by decide, by decide⟩ rfl (fun h26c hp26 => ?_) (fun _ _ q => q.elim)
        obtain ⟨i26c, g26c, y26_0, y26_1⟩ := hp26
        have f26c : mm_fr [(66, 57), (66, 58), (66, 60), (66, 61), (66, 62), (66, 63), (66, 64), (66, 65), (66, 66), (66, 69)] [107] h h26c := mm_fr_tr f0 g26c (by decide +kernel)
        have q26c_152 : h26c.1 66 60 = h.1 66 60 := g26c.1 66 60 (by decide)
        have q26c_153 : h26c.1 66 61 = h.1 66 61 := g26c.1 66 61 (by decide)
        have q26c_154 : h26c.1 66 62 = h.1 66 62 := g26c.1 66 62 (by decide)
        have q26c_155 : h26c.1 66 63 = h.1 66 63 := g26c.1 66 63 (by decide)
        have q26c_156 : h26c.1 66 65 = h.1 66 65 := g26c.1 66 65 (by decide)
        have q26c_157 : h26c.1 66 69 = h.1 66 69 := g26c.1 66 69 (by decide)
        have q26c_158 : h26c.1 66 70 = h.1 66 70 := g26c.1 66 70 (by decide)
        have q26c_159 : h26c.1 66 71 = h.1 66 71 := g26c.1 66 71 (by decide)
        have g160 : -2147483648 ≤ (h26c.1 66 57) ∧ (h26c.1 66 57) ≤ 2147483647 := i26c.1 66 57
        have g161 : -2147483648 ≤ (h26c.1 66 58) ∧ (h26c.1 66 58) ≤ 2147483647 := i26c.1 66 58
        exact J29 h26c i26c f26c (by first | exact mm_sm_rf | exact mm_sm_fr g26c (by decide)) (by first | exact mm_eY_rf | exact mm_eY_fr g26c (by decide)) (by omega)
  · skip
    exact mm_vret C T (mm_dec dk_X12_part 3 rfl) (by decide : 0 ≤ 0) (by decide : 0 ≤ 0) ⟨rfl, ⟨i0, f0, by first | exact w124_0 | exact mm_pt_rf (by omega) t0, by first | exact w124_1 | exact ⟨mm_TYy_rf, t3, Or.inl ⟨by omega, rfl, rfl⟩⟩, by omega⟩⟩
set_option maxRecDepth 100000 in
set_option maxHeartbeats 4000000 in
theorem c_X12_operand_q (l : Launch) (hl : l.stackTraces = false) (d : Nat) (hd : 4 ≤ d) (h : mH) (i0 : mm_inv h) (p1 : Int) (bp1 : 0 ≤ p1 ∧ p1 ≤ 1) (t0 : mm_tok h) (t1 : (h.1 66 57 = 0 → (mm_O h : Int) + 1 = h.1 66 71)) (t2 : h.1 66 69 + h.1 66 70 + 1000 ≤ 2397 + 2 * h.1 66 62) (t3 : h.1 66 70 ≤ h.1 66 62) (t4 : mm_aY h) : mm_Met l d yX12_operand cX12_operand 5 none [mR 66, mI p1] h (mm_pv fun h2 => mm_inv h2 ∧ mm_fr [(66, 57), (66, 58), (66, 60), (66, 61), (66, 62), (66, 63), (66, 64), (66, 65), (66, 66), (66, 69), (66, 70), (66, 71)] [107, 108, 109] h h2 ∧ mm_op h h2 ∧ mm_O9 (1 - p1) h h2 (mm_W9 (1 - p1) h h2 2 0) ∧ (h2.1 66 57 ≠ 0 ∨ (h.1 66 57 = 0 ∧ h2.1 66 58 = h.1 66 58))) mm_nx 0 0 := by
  refine mm_ofW (ls := [mR 66, mI p1, mU, mU, mU]) hl (by decide) rfl (Nat.le_of_ble_eq_true rfl) ?_
  intro x hxl C T hnm htb
  subst hxl
  have C1 := mm_OK_le (d' := d - 1 + 1) (by omega) C
  refine mm_rng (fun hr _ => ?_)
  have ap1 : -2147483648 ≤ p1 ∧ p1 < 2147483648 := mm_ok_at hr (i := 1) rfl
  have f0 : mm_fr [(66, 57), (66, 58), (66, 60), (66, 61), (66, 62), (66, 63), (66, 64), (66, 65), (66, 66), (66, 69), (66, 70), (66, 71)] [107, 108, 109] h h := mm_fr_rf
  have g1 : -2147483648 ≤ h.1 66 57 ∧ h.1 66 57 ≤ 2147483647 := i0.1 66 57
  have g2 : 0 ≤ h.1 66 69 ∧ h.1 66 69 ≤ 2400 := i0.1 66 69
  have g3 : 0 ≤ h.1 66 70 ∧ h.1 66 70 ≤ 520 := i0.1 66 70
  have g4 : 0 ≤ h.1 66 62 ∧ h.1 66 62 ≤ 500 := i0.1 66 62
  have g5 : 0 ≤ h.1 66 60 ∧ h.1 66 60 ≤ 500 := i0.1 66 60
  have g6 : -2147483648 ≤ h.1 66 61 ∧ h.1 66 61 ≤ 2147483647 := i0.1 66 61
  have g7 : 0 ≤ h.1 66 71 ∧ h.1 66 71 ≤ 6 := i0.1 66 71
  have g8 : -2147483648 ≤ h.1 66 58 ∧ h.1 66 58 ≤ 2147483647 := i0.1 66 58
  refine mm_iload_n C (mm_dec dk_X12_operand 0 rfl) rfl ?_
  refine mm_istore_nL (ls2 := [mR 66, mI p1, mI p1, mU, mU]) C (mm_dec dk_X12_operand 1 rfl) (by decide) rfl ?_
  refine mm_iconst C (mm_dec dk_X12_operand 2 rfl) ⟨by decide, by decide⟩ ?_
  have J4 : ∀ (n : Nat) (x4_2 : Int) (bx4_2 : 0 ≤ x4_2 ∧ x4_2 ≤ 1) (x4_3 : Int) (bx4_3 : 0 ≤ x4_3 ∧ x4_3 ≤ 1) (h4_ : mH) (i4_ : mm_inv h4_) (f4_ : mm_fr [(66, 57), (66, 58), (66, 60), (66, 61), (66, 62), (66, 63), (66, 64), (66, 65), (66, 66), (66, 69), (66, 70), (66, 71)] [107, 108, 109] h h4_) (w4_0 : mm_o1 h h4_) (w4_1 : mm_I4 (1 - p1) h h4_ x4_2 x4_3) (w4_2 : (h4_.1 66 57 ≠ 0 ∨ (h.1 66 57 = 0 ∧ h4_.1 66 58 = h.1 66 58))), (2 * (500 - h4_.1 66 62) + x4_3 : Int) < n → mm_W x 0 0 4 [mR 66, mU, mI x4_2, mI x4_3, mU] [] h4_ := by
    intro n
    induction n with
    | zero =>
      intro x4_2 bx4_2 x4_3 bx4_3 h4_ i4_ f4_ w4_0 w4_1 w4_2 hm
      have g9 : -2147483648 ≤ h4_.1 66 57 ∧ h4_.1 66 57 ≤ 2147483647 := i4_.1 66 57
      have g10 : 0 ≤ h4_.1 66 69 ∧ h4_.1 66 69 ≤ 2400 := i4_.1 66 69
      have g11 : 0 ≤ h4_.1 66 70 ∧ h4_.1 66 70 ≤ 520 := i4_.1 66 70
      have g12 : 0 ≤ h4_.1 66 62 ∧ h4_.1 66 62 ≤ 500 := i4_.1 66 62
      have g13 : 0 ≤ h4_.1 66 60 ∧ h4_.1 66 60 ≤ 500 := i4_.1 66 60
      have g14 : -2147483648 ≤ h4_.1 66 61 ∧ h4_.1 66 61 ≤ 2147483647 := i4_.1 66 61
      have g15 : 0 ≤ h4_.1 66 71 ∧ h4_.1 66 71 ≤ 6 := i4_.1 66 71
      have g16 : -2147483648 ≤ h4_.1 66 58 ∧ h4_.1 66 58 ≤ 2147483647 := i4_.1 66 58
      exfalso; omega
    | succ n ih4 =>
      intro x4_2 bx4_2 x4_3 bx4_3 h4_ i4_ f4_ w4_0 w4_1 w4_2 hm4
      have g17 : -2147483648 ≤ h4_.1 66 57 ∧ h4_.1 66 57 ≤ 2147483647 := i4_.1 66 57
      have g18 : 0 ≤ h4_.1 66 69 ∧ h4_.1 66 69 ≤ 2400 := i4_.1 66 69
      have g19 : 0 ≤ h4_.1 66 70 ∧ h4_.1 66 70 ≤ 520 := i4_.1 66 70
      have g20 : 0 ≤ h4_.1 66 62 ∧ h4_.1 66 62 ≤ 500 := i4_.1 66 62
      have g21 : 0 ≤ h4_.1 66 60 ∧ h4_.1 66 60 ≤ 500 := i4_.1 66 60
      have g22 : -2147483648 ≤ h4_.1 66 61 ∧ h4_.1 66 61 ≤ 2147483647 := i4_.1 66 61
      have g23 : 0 ≤ h4_.1 66 71 ∧ h4_.1 66 71 ≤ 6 := i4_.1 66 71
      have g24 : -2147483648 ≤ h4_.1 66 58 ∧ h4_.1 66 58 ≤ 2147483647 := i4_.1 66 58
      refine mm_iload_n C (mm_dec dk_X12_operand 4 rfl) rfl ?_
      have J120 : ∀ (w120_0 : (x4_3 = 0 ∨ h4_.1 66 57 ≠ 0)), mm_W x 0 0 120 [mR 66, mU, mU, mU, mU] [] h4_ := by
        intro w120_0
        have g25 : -2147483648 ≤ h4_.1 66 57 ∧ h4_.1 66 57 ≤ 2147483647 := i4_.1 66 57
        have g26 : 0 ≤ h4_.1 66 69 ∧ h4_.1 66 69 ≤ 2400 := i4_.1 66 69
        have g27 : 0 ≤ h4_.1 66 70 ∧ h4_.1 66 70 ≤ 520 := i4_.1 66 70
        have g28 : 0 ≤ h4_.1 66 62 ∧ h4_.1 66 62 ≤ 500 := i4_.1 66 62
        have g29 : 0 ≤ h4_.1 66 60 ∧ h4_.1 66 60 ≤ 500 := i4_.1 66 60
        have g30 : -2147483648 ≤ h4_.1 66 61 ∧ h4_.1 66 61 ≤ 2147483647 := i4_.1 66 61
        have g31 : 0 ≤ h4_.1 66 71 ∧ h4_.1 66 71 ≤ 6 := i4_.1 66 71
        have g32 : -2147483648 ≤ h4_.1 66 58 ∧ h4_.1 66 58 ≤ 2147483647 := i4_.1 66 58
        have zt := w4_0.1.2.2.1
        have zw := w4_0.1.2.2.2.2.2
        refine mm_aload_n C (mm_dec dk_X12_operand 60 rfl) rfl ?_
        refine mm_cVv (rest := []) C1 ev_X12_438 (mm_dec dk_X12_operand 61 rfl) (c_X12_part_q x.2.1 hl (d - 1) (by omega) h4_ i4_ (by first | exact w4_1.2.1 | exact w4_0.2.1 | omega) (by first | exact w4_1.2.1 | exact w4_0.2.1 | omega) (by first | exact w4_1.2.1 | exact w4_0.2.1 | omega) (by first | exact w4_1.2.1 | exact w4_0.2.1 | omega)) rfl rfl (Nat.le_of_ble_eq_true rfl) ⟨by decide, by decide⟩ rfl (fun h121c hp121 => ?_) (fun _ _ q => q.elim)
        obtain ⟨i121c, g121c, y121_0, y121_1, y121_2⟩ := hp121
        have f121c : mm_fr [(66, 57), (66, 58), (66, 60), (66, 61), (66, 62), (66, 63), (66, 64), (66, 65), (66, 66), (66, 69), (66, 70), (66, 71)] [107, 108, 109] h h121c := mm_fr_tr f4_ g121c (by decide +kernel)
        have q121c_34 : h121c.1 66 70 = h4_.1 66 70 := g121c.1 66 70 (by decide)
        have q121c_35 : h121c.1 66 71 = h4_.1 66 71 := g121c.1 66 71 (by decide)
        have g36 : -2147483648 ≤ (h121c.1 66 57) ∧ (h121c.1 66 57) ≤ 2147483647 := i121c.1 66 57
        have g37 : 0 ≤ (h121c.1 66 69) ∧ (h121c.1 66 69) ≤ 2400 := i121c.1 66 69
        have g38 : 0 ≤ (h121c.1 66 62) ∧ (h121c.1 66 62) ≤ 500 := i121c.1 66 62
        have g39 : 0 ≤ (h121c.1 66 60) ∧ (h121c.1 66 60) ≤ 500 := i121c.1 66 60
        have g40 : -2147483648 ≤ (h121c.1 66 61) ∧ (h121c.1 66 61) ≤ 2147483647 := i121c.1 66 61
        have g41 : -2147483648 ≤ (h121c.1 66 58) ∧ (h121c.1 66 58) ≤ 2147483647 := i121c.1 66 58
        exact mm_vret C T (mm_dec dk_X12_operand 62 rfl) (by decide : 0 ≤ 0) (by decide : 0 ≤ 0) ⟨rfl, ⟨i121c, f121c, by exact mm_op_of w4_0 y121_0 (g121c.1 66 70 (by decide)) (g121c.1 66 71 (by decide)) (fun j => g121c.2 108 (by decide) j), by exact mm_O9_part w4_1 w120_0 y121_1 (mm_kY_eq (g121c.2 109 (by decide)) (g121c.1 66 71 (by decide))), by omega⟩⟩
      refine mm_if_eq (tgt := 120) C (mm_dec dk_X12_operand 5 rfl) (by decide) (fun c5 => ?_) (fun c5 => ?_)
      · skip
        refine mm_fgt 2 ?_
        refine mm_fgt 3 ?_
        exact J120 (by omega)
      · skip
        refine mm_aload_n C (mm_dec dk_X12_operand 6 rfl) rfl ?_
        refine mm_cVi (rest := []) C1 ev_X12_413 (mm_dec dk_X12_operand 7 rfl) (c_X12_isGood x.2.1 hl (d - 1) (by omega) h4_ i4_ ) rfl rfl (Nat.le_of_ble_eq_true rfl) ⟨by decide, by decide⟩ rfl (fun r9 h9c hp9 => ?_) (fun _ _ q => q.elim)
        obtain ⟨z9, y9⟩ := hp9
        rw [z9]
        refine mm_if_eq (tgt := 120) C (mm_dec dk_X12_operand 8 rfl) (by decide) (fun c12 => ?_) (fun c12 => ?_)
        · skip
          refine mm_fgt 2 ?_
          refine mm_fgt 3 ?_
          exact J120 (by omega)
        · skip
          refine mm_iconst C (mm_dec dk_X12_operand 9 rfl) ⟨by decide, by decide⟩ ?_
          have J18 : ∀ (n : Nat) (x18_4 : Int) (bx18_4 : 0 ≤ x18_4 ∧ x18_4 ≤ 7) (h18_ : mH) (i18_ : mm_inv h18_) (f18_ : mm_fr [(66, 57), (66, 58), (66, 60), (66, 61), (66, 62), (66, 63), (66, 64), (66, 65), (66, 66), (66, 69), (66, 70), (66, 71)] [107, 108, 109] h h18_) (w18_0 : mm_o1 h h18_) (w18_1 : h4_.1 66 62 ≤ h18_.1 66 62) (w18_2 : (x18_4 ≤ 6 ∨ h18_.1 66 57 ≠ 0)) (w18_3 : mm_I8 (1 - p1) h h18_ x4_2 x18_4) (w18_4 : (h18_.1 66 57 ≠ 0 ∨ (h.1 66 57 = 0 ∧ h18_.1 66 58 = h.1 66 58))), (7 - x18_4 : Int) < n → mm_W x 0 0 18 [mR 66, mU, mI x4_2, mU, mI x18_4] [] h18_ := by
            intro n
            induction n with
            | zero =>
              intro x18_4 bx18_4 h18_ i18_ f18_ w18_0 w18_1 w18_2 w18_3 w18_4 hm
              have g43 : -2147483648 ≤ h18_.1 66 57 ∧ h18_.1 66 57 ≤ 2147483647 := i18_.1 66 57
              have g44 : 0 ≤ h18_.1 66 69 ∧ h18_.1 66 69 ≤ 2400 := i18_.1 66 69
              have g45 : 0 ≤ h18_.1 66 70 ∧ h18_.1 66 70 ≤ 520 := i18_.1 66 70
              have g46 : 0 ≤ h18_.1 66 62 ∧ h18_.1 66 62 ≤ 500 := i18_.1 66 62
              have g47 : 0 ≤ h18_.1 66 60 ∧ h18_.1 66 60 ≤ 500 := i18_.1 66 60
              have g48 : -2147483648 ≤ h18_.1 66 61 ∧ h18_.1 66 61 ≤ 2147483647 := i18_.1 66 61
              have g49 : 0 ≤ h18_.1 66 71 ∧ h18_.1 66 71 ≤ 6 := i18_.1 66 71
              have g50 : -2147483648 ≤ h18_.1 66 58 ∧ h18_.1 66 58 ≤ 2147483647 := i18_.1 66 58
              exfalso; omega
            | succ n ih18 =>
              intro x18_4 bx18_4 h18_ i18_ f18_ w18_0 w18_1 w18_2 w18_3 w18_4 hm18
              have g51 : -2147483648 ≤ h18_.1 66 57 ∧ h18_.1 66 57 ≤ 2147483647 := i18_.1 66 57
              have g52 : 0 ≤ h18_.1 66 69 ∧ h18_.1 66 69 ≤ 2400 := i18_.1 66 69
              have g53 : 0 ≤ h18_.1 66 70 ∧ h18_.1 66 70 ≤ 520 := i18_.1 66 70
              have g54 : 0 ≤ h18_.1 66 62 ∧ h18_.1 66 62 ≤ 500 := i18_.1 66 62
              have g55 : 0 ≤ h18_.1 66 60 ∧ h18_.1 66 60 ≤ 500 := i18_.1 66 60
              have g56 : -2147483648 ≤ h18_.1 66 61 ∧ h18_.1 66 61 ≤ 2147483647 := i18_.1 66 61
              have g57 : 0 ≤ h18_.1 66 71 ∧ h18_.1 66 71 ≤ 6 := i18_.1 66 71
              have g58 : -2147483648 ≤ h18_.1 66 58 ∧ h18_.1 66 58 ≤ 2147483647 := i18_.1 66 58
              have tf18 := mm_cY_h w18_3.2.1
              refine mm_aload_n C (mm_dec dk_X12_operand 11 rfl) rfl ?_
              refine mm_cVi (rest := []) C1 ev_X12_413 (mm_dec dk_X12_operand 12 rfl) (c_X12_isGood x.2.1 hl (d - 1) (by omega) h18_ i18_ ) rfl rfl (Nat.le_of_ble_eq_true rfl) ⟨by decide, by decide⟩ rfl (fun r19 h19c hp19 => ?_) (fun _ _ q => q.elim)
              obtain ⟨z19, y19⟩ := hp19
              rw [z19]
              have J75 : ∀ (w75_0 : (h18_.1 66 57 ≠ 0 ∨ x4_2 = 0 ∨ mm_cY h18_ ≠ 6)), mm_W x 0 0 75 [mR 66, mU, mI x4_2, mU, mU] [] h18_ := by
                intro w75_0
                have g60 : -2147483648 ≤ h18_.1 66 57 ∧ h18_.1 66 57 ≤ 2147483647 := i18_.1 66 57
                have g61 : 0 ≤ h18_.1 66 69 ∧ h18_.1 66 69 ≤ 2400 := i18_.1 66 69
                have g62 : 0 ≤ h18_.1 66 70 ∧ h18_.1 66 70 ≤ 520 := i18_.1 66 70
                have g63 : 0 ≤ h18_.1 66 62 ∧ h18_.1 66 62 ≤ 500 := i18_.1 66 62
                have g64 : 0 ≤ h18_.1 66 60 ∧ h18_.1 66 60 ≤ 500 := i18_.1 66 60
                have g65 : -2147483648 ≤ h18_.1 66 61 ∧ h18_.1 66 61 ≤ 2147483647 := i18_.1 66 61
                have g66 : 0 ≤ h18_.1 66 71 ∧ h18_.1 66 71 ≤ 6 := i18_.1 66 71
                have g67 : -2147483648 ≤ h18_.1 66 58 ∧ h18_.1 66 58 ≤ 2147483647 := i18_.1 66 58
                refine mm_aload_n C (mm_dec dk_X12_operand 37 rfl) rfl ?_
                refine mm_cVi (rest := []) C1 ev_X12_413 (mm_dec dk_X12_operand 38 rfl) (c_X12_isGood x.2.1 hl (d - 1) (by omega) h18_ i18_ ) rfl rfl (Nat.le_of_ble_eq_true rfl) ⟨by decide, by decide⟩ rfl (fun r76 h76c hp76 => ?_) (fun _ _ q => q.elim)
                obtain ⟨z76, y76⟩ := hp76
                rw [z76]
                have J96 : ∀ (s96_0 : Int) (bs96_0 : 0 ≤ s96_0 ∧ s96_0 ≤ 1) (w96_0 : (s96_0 = 0 ∨ (h18_.1 66 57 = 0 ∧ h18_.1 66 61 = 3))) (w96_1 : ((s96_0 = 1 ∧ h18_.1 66 57 = 0 ∧ mm_cY h18_ = 140) ∨ (s96_0 = 0 ∧ (h18_.1 66 57 ≠ 0 ∨ mm_cY h18_ ≠ 140)))) (vs96_0 : (s96_0 = 0) ∨ (r76 ≠ 0 ∧ s96_0 = 1)), mm_W x 0 0 96 [mR 66, mU, mI x4_2, mU, mU] [mI s96_0] h18_ := by
                  intro s96_0 bs96_0 w96_0 w96_1 vs96_0
                  have g69 : -2147483648 ≤ h18_.1 66 57 ∧ h18_.1 66 57 ≤ 2147483647 := i18_.1 66 57
                  have g70 : 0 ≤ h18_.1 66 69 ∧ h18_.1 66 69 ≤ 2400 := i18_.1 66 69
                  have g71 : 0 ≤ h18_.1 66 70 ∧ h18_.1 66 70 ≤ 520 := i18_.1 66 70
                  have g72 : 0 ≤ h18_.1 66 62 ∧ h18_.1 66 62 ≤ 500 := i18_.1 66 62
                  have g73 : 0 ≤ h18_.1 66 60 ∧ h18_.1 66 60 ≤ 500 := i18_.1 66 60
                  have g74 : -2147483648 ≤ h18_.1 66 61 ∧ h18_.1 66 61 ≤ 2147483647 := i18_.1 66 61
                  have g75 : 0 ≤ h18_.1 66 71 ∧ h18_.1 66 71 ≤ 6 := i18_.1 66 71
                  have g76 : -2147483648 ≤ h18_.1 66 58 ∧ h18_.1 66 58 ≤ 2147483647 := i18_.1 66 58
                  refine mm_istore_nL (ls2 := [mR 66, mU, mI x4_2, mI s96_0, mU]) C (mm_dec dk_X12_operand 47 rfl) (by decide) rfl ?_
                  refine mm_iload_n C (mm_dec dk_X12_operand 48 rfl) rfl ?_
                  have J117 : ∀ (x117_2 : Int) (bx117_2 : 0 ≤ x117_2 ∧ x117_2 ≤ 1) (h117_ : mH) (i117_ : mm_inv h117_) (f117_ : mm_fr [(66, 57), (66, 58), (66, 60), (66, 61), (66, 62), (66, 63), (66, 64), (66, 65), (66, 66), (66, 69), (66, 70), (66, 71)] [107, 108, 109] h h117_) (w117_0 : mm_o1 h h117_) (w117_1 : (s96_0 = 0 ∨ h4_.1 66 62 + 1 ≤ h117_.1 66 62)) (w117_2 : h4_.1 66 62 ≤ h117_.1 66 62) (w117_3 : mm_I4 (1 - p1) h h117_ x117_2 s96_0) (w117_4 : (h117_.1 66 57 ≠ 0 ∨ (h.1 66 57 = 0 ∧ h117_.1 66 58 = h.1 66 58))), mm_W x 0 0 117 [mR 66, mU, mI x117_2, mI s96_0, mU] [] h117_ := by
                    intro x117_2 bx117_2 h117_ i117_ f117_ w117_0 w117_1 w117_2 w117_3 w117_4
                    have g77 : -2147483648 ≤ h117_.1 66 57 ∧ h117_.1 66 57 ≤ 2147483647 := i117_.1 66 57
                    have g78 : 0 ≤ h117_.1 66 69 ∧ h117_.1 66 69 ≤ 2400 := i117_.1 66 69
                    have g79 : 0 ≤ h117_.1 66 70 ∧ h117_.1 66 70 ≤ 520 := i117_.1 66 70
                    have g80 : 0 ≤ h117_.1 66 62 ∧ h117_.1 66 62 ≤ 500 := i117_.1 66 62
                    have g81 : 0 ≤ h117_.1 66 60 ∧ h117_.1 66 60 ≤ 500 := i117_.1 66 60
                    have g82 : -2147483648 ≤ h117_.1 66 61 ∧ h117_.1 66 61 ≤ 2147483647 := i117_.1 66 61
                    have g83 : 0 ≤ h117_.1 66 71 ∧ h117_.1 66 71 ≤ 6 := i117_.1 66 71
                    have g84 : -2147483648 ≤ h117_.1 66 58 ∧ h117_.1 66 58 ≤ 2147483647 := i117_.1 66 58
                    refine mm_goto (tgt := 4) C (mm_dec dk_X12_operand 59 rfl) (by decide) ?_
                    exact ih4 x117_2 ⟨by omega, by omega⟩ s96_0 ⟨by omega, by omega⟩ h117_ i117_ f117_ (by first | exact mm_o1_rf t0 t1 | exact w117_0) (by first | exact mm_I4_0 t4 rfl | exact w117_3) (by omega) (by omega)
                  refine mm_if_eq (tgt := 117) C (mm_dec dk_X12_operand 49 rfl) (by decide) (fun c98 => ?_) (fun c98 => ?_)
                  · skip
                    exact J117 x4_2 ⟨by omega, by omega⟩ h18_ i18_ f18_ (by first | exact w18_0 | exact zo.1) (by omega) (by omega) (by first | exact mm_I4_open w18_3 (by omega) (by omega) (by omega) zs8 ⟨by omega, by omega⟩ zk8 (by omega) y112_1 (by omega) | (rw [show s96_0 = 0 by omega]; exact mm_I4_end w18_3 (by omega) (by omega))) (by first | omega | (have zb := (y112_1).2; rcases zb with ⟨zb1, zb2, zb3, zb4⟩ | ⟨zb1, zb2, zb3⟩; (have zb5 := zb3.1; have zb6 := zb3.2; omega); (have zb7 := zb3 (by omega); have zb8 := zb7.2; split at zb8 <;> omega)))
                  · skip
                    have zw := w18_0.1.2.2.2.2.2
                    have zt := w18_0.1.2.2.1
                    refine mm_aload_n C (mm_dec dk_X12_operand 50 rfl) rfl ?_
                    refine mm_bipush C (mm_dec dk_X12_operand 51 rfl) ⟨by decide, by decide⟩ ?_
                    refine mm_cVv (rest := []) C1 ev_X12_432 (mm_dec dk_X12_operand 52 rfl) (c_X12_waitsFor_x x.2.1 hl (d - 1) (by omega) h18_ i18_ 13 (by omega)) rfl rfl (Nat.le_of_ble_eq_true rfl) ⟨by decide, by decide⟩ rfl (fun h104c hp104 => ?_) (fun _ _ q => q.elim)
                    obtain ⟨i104c, g104c, y104_0, y104_1⟩ := hp104
                    have f104c : mm_fr [(66, 57), (66, 58), (66, 60), (66, 61), (66, 62), (66, 63), (66, 64), (66, 65), (66, 66), (66, 69), (66, 70), (66, 71)] [107, 108, 109] h h104c := mm_fr_tr f18_ g104c (by decide +kernel)
                    have q104c_86 : h104c.1 66 57 = h18_.1 66 57 := g104c.1 66 57 (by decide)
                    have q104c_87 : h104c.1 66 58 = h18_.1 66 58 := g104c.1 66 58 (by decide)
                    have q104c_88 : h104c.1 66 60 = h18_.1 66 60 := g104c.1 66 60 (by decide)
                    have q104c_89 : h104c.1 66 61 = h18_.1 66 61 := g104c.1 66 61 (by decide)
                    have q104c_90 : h104c.1 66 62 = h18_.1 66 62 := g104c.1 66 62 (by decide)
                    have q104c_91 : h104c.1 66 69 = h18_.1 66 69 := g104c.1 66 69 (by decide)
                    have q104c_92 : h104c.1 66 71 = h18_.1 66 71 := g104c.1 66 71 (by decide)
                    have g93 : 0 ≤ (h104c.1 66 70) ∧ (h104c.1 66 70) ≤ 520 := i104c.1 66 70
                    refine mm_aload_n C (mm_dec dk_X12_operand 53 rfl) rfl ?_
                    refine mm_cVv (rest := []) C1 ev_X12_423 (mm_dec dk_X12_operand 54 rfl) (c_X12_goes_q x.2.1 hl (d - 1) (by omega) h104c i104c ) rfl rfl (Nat.le_of_ble_eq_true rfl) ⟨by decide, by decide⟩ rfl (fun h108c hp108 => ?_) (fun _ _ q => q.elim)
                    obtain ⟨i108c, g108c, y108_0, y108_1, y108_2, y108_3, y108_4⟩ := hp108
                    have f108c : mm_fr [(66, 57), (66, 58), (66, 60), (66, 61), (66, 62), (66, 63), (66, 64), (66, 65), (66, 66), (66, 69), (66, 70), (66, 71)] [107, 108, 109] h h108c := mm_fr_tr f104c g108c (by decide +kernel)
                    have q108c_95 : h108c.1 66 57 = h104c.1 66 57 := g108c.1 66 57 (by decide)
                    have q108c_96 : h108c.1 66 58 = h104c.1 66 58 := g108c.1 66 58 (by decide)
                    have q108c_97 : h108c.1 66 69 = h104c.1 66 69 := g108c.1 66 69 (by decide)
                    have q108c_98 : h108c.1 66 70 = h104c.1 66 70 := g108c.1 66 70 (by decide)
                    have q108c_99 : h108c.1 66 71 = h104c.1 66 71 := g108c.1 66 71 (by decide)
                    have g100 : 0 ≤ (h108c.1 66 62) ∧ (h108c.1 66 62) ≤ 500 := i108c.1 66 62
                    have g101 : 0 ≤ (h108c.1 66 60) ∧ (h108c.1 66 60) ≤ 500 := i108c.1 66 60
                    have g102 : -2147483648 ≤ (h108c.1 66 61) ∧ (h108c.1 66 61) ≤ 2147483647 := i108c.1 66 61
                    refine mm_aload_n C (mm_dec dk_X12_operand 55 rfl) rfl ?_
                    have zs8 := mm_st9_e (mm_eY_fr g104c (by decide)) (mm_st9_of (mm_eY_a (mm_eY_fr g104c (by decide)) w18_3.2.1) y108_3 y108_4 g108c (by decide))
                    have zk8 : mm_kY h108c = mm_kY h18_ := mm_kY_eq (fun j => (g108c.2 109 (by decide) j).trans (g104c.2 109 (by decide) j)) (by omega)
                    refine mm_cVv (rest := []) C1 ev_X12_435 (mm_dec dk_X12_operand 56 rfl) (c_X12_begins_q x.2.1 hl (d - 1) (by omega) h108c i108c (by first | exact y108_3 | omega)) rfl rfl (Nat.le_of_ble_eq_true rfl) ⟨by decide, by decide⟩ rfl (fun h112c hp112 => ?_) (fun _ _ q => q.elim)
                    obtain ⟨i112c, g112c, y112_0, y112_1⟩ := hp112
                    have f112c : mm_fr [(66, 57), (66, 58), (66, 60), (66, 61), (66, 62), (66, 63), (66, 64), (66, 65), (66, 66), (66, 69), (66, 70), (66, 71)] [107, 108, 109] h h112c := mm_fr_tr f108c g112c (by decide +kernel)
                    have q112c_104 : h112c.1 66 60 = h108c.1 66 60 := g112c.1 66 60 (by decide)
                    have q112c_105 : h112c.1 66 61 = h108c.1 66 61 := g112c.1 66 61 (by decide)
                    have q112c_106 : h112c.1 66 62 = h108c.1 66 62 := g112c.1 66 62 (by decide)
                    have q112c_107 : h112c.1 66 69 = h108c.1 66 69 := g112c.1 66 69 (by decide)
                    have q112c_108 : h112c.1 66 70 = h108c.1 66 70 := g112c.1 66 70 (by decide)
                    have g109 : -2147483648 ≤ (h112c.1 66 57) ∧ (h112c.1 66 57) ≤ 2147483647 := i112c.1 66 57
                    have g110 : 0 ≤ (h112c.1 66 71) ∧ (h112c.1 66 71) ≤ 6 := i112c.1 66 71
                    have g111 : -2147483648 ≤ (h112c.1 66 58) ∧ (h112c.1 66 58) ≤ 2147483647 := i112c.1 66 58
                    have zo := mm_o1_open w18_0 i18_ (by omega) y104_0 y104_1 g104c g108c y108_0 y108_1 y108_2 g112c y112_0
                    have zp := zo.2
                    refine mm_iconst C (mm_dec dk_X12_operand 57 rfl) ⟨by decide, by decide⟩ ?_
                    refine mm_istore_nL (ls2 := [mR 66, mU, mI 1, mI s96_0, mU]) C (mm_dec dk_X12_operand 58 rfl) (by decide) rfl ?_
                    exact J117 1 ⟨by omega, by omega⟩ h112c i112c f112c (by first | exact w18_0 | exact zo.1) (by omega) (by omega) (by first | exact mm_I4_open w18_3 (by omega) (by omega) (by omega) zs8 ⟨by omega, by omega⟩ zk8 (by omega) y112_1 (by omega) | (rw [show s96_0 = 0 by omega]; exact mm_I4_end w18_3 (by omega) (by omega))) (by first | omega | (have zb := (y112_1).2; rcases zb with ⟨zb1, zb2, zb3, zb4⟩ | ⟨zb1, zb2, zb3⟩; (have zb5 := zb3.1; have zb6 := zb3.2; omega); (have zb7 := zb3 (by omega); have zb8 := zb7.2; split at zb8 <;> omega)))
                have J95 : ∀ (w95_0 : (h18_.1 66 57 ≠ 0 ∨ mm_cY h18_ ≠ 140)), mm_W x 0 0 95 [mR 66, mU, mI x4_2, mU, mU] [] h18_ := by
                  intro w95_0
                  have g112 : -2147483648 ≤ h18_.1 66 57 ∧ h18_.1 66 57 ≤ 2147483647 := i18_.1 66 57
                  have g113 : 0 ≤ h18_.1 66 69 ∧ h18_.1 66 69 ≤ 2400 := i18_.1 66 69
                  have g114 : 0 ≤ h18_.1 66 70 ∧ h18_.1 66 70 ≤ 520 := i18_.1 66 70
                  have g115 : 0 ≤ h18_.1 66 62 ∧ h18_.1 66 62 ≤ 500 := i18_.1 66 62
                  have g116 : 0 ≤ h18_.1 66 60 ∧ h18_.1 66 60 ≤ 500 := i18_.1 66 60
                  have g117 : -2147483648 ≤ h18_.1 66 61 ∧ h18_.1 66 61 ≤ 2147483647 := i18_.1 66 61
                  have g118 : 0 ≤ h18_.1 66 71 ∧ h18_.1 66 71 ≤ 6 := i18_.1 66 71
                  have g119 : -2147483648 ≤ h18_.1 66 58 ∧ h18_.1 66 58 ≤ 2147483647 := i18_.1 66 58
                  refine mm_iconst C (mm_dec dk_X12_operand 46 rfl) ⟨by decide, by decide⟩ ?_
                  exact J96 0 ⟨by omega, by omega⟩ (by omega) (by first | omega | (have zz := mm_hd9x tf18; omega)) (Or.inl rfl)
                refine mm_if_eq (tgt := 95) C (mm_dec dk_X12_operand 39 rfl) (by decide) (fun c79 => ?_) (fun c79 => ?_)
                · skip
                  exact J95 (by first | omega | (have zz := mm_hd9x tf18; omega))
                · skip
                  refine mm_aload_n C (mm_dec dk_X12_operand 40 rfl) rfl ?_
                  refine mm_bipush C (mm_dec dk_X12_operand 41 rfl) ⟨by decide, by decide⟩ ?_
                  refine mm_cVi (rest := []) C1 ev_X12_429 (mm_dec dk_X12_operand 42 rfl) (c_X12_isSign x.2.1 hl (d - 1) (by omega) h18_ i18_ 40) rfl rfl (Nat.le_of_ble_eq_true rfl) ⟨by decide, by decide⟩ rfl (fun r85 h85c hp85 => ?_) (fun _ _ q => q.elim)
                  obtain ⟨z85, y85⟩ := hp85
                  rw [z85]
                  have g121 : -2147483648 ≤ (h18_.1 66 65) ∧ (h18_.1 66 65) ≤ 2147483647 := i18_.1 66 65
                  refine mm_if_eq (tgt := 95) C (mm_dec dk_X12_operand 43 rfl) (by decide) (fun c88 => ?_) (fun c88 => ?_)
                  · skip
                    exact J95 (by first | omega | (have zz := mm_hd9x tf18; omega))
                  · skip
                    refine mm_iconst C (mm_dec dk_X12_operand 44 rfl) ⟨by decide, by decide⟩ ?_
                    refine mm_goto (tgt := 96) C (mm_dec dk_X12_operand 45 rfl) (by decide) ?_
                    exact J96 1 ⟨by omega, by omega⟩ (by omega) (by first | omega | (have zz := mm_hd9x tf18; omega)) (Or.inr (⟨by omega, rfl⟩))
              refine mm_if_eq (tgt := 75) C (mm_dec dk_X12_operand 13 rfl) (by decide) (fun c22 => ?_) (fun c22 => ?_)
              · skip
                refine mm_fgt 4 ?_
                exact J75 (by first | omega | (have zk := mm_kw9_x y30_1; omega))
              · skip
                refine mm_iload_n C (mm_dec dk_X12_operand 14 rfl) rfl ?_
                refine mm_if_eq (tgt := 75) C (mm_dec dk_X12_operand 15 rfl) (by decide) (fun c26 => ?_) (fun c26 => ?_)
                · skip
                  refine mm_fgt 4 ?_
                  exact J75 (by first | omega | (have zk := mm_kw9_x y30_1; omega))
                · skip
                  refine mm_aload_n C (mm_dec dk_X12_operand 16 rfl) rfl ?_
                  refine mm_cVi (rest := []) C1 ev_X12_419 (mm_dec dk_X12_operand 17 rfl) (c_X12_knownWord_q x.2.1 hl (d - 1) (by omega) h18_ i18_ (by first | exact w18_3.2.1 | omega)) rfl rfl (Nat.le_of_ble_eq_true rfl) ⟨by decide, by decide⟩ rfl (fun r30 h30c hp30 => ?_) (fun _ _ q => q.elim)
                  obtain ⟨b30, z30, y30_0, y30_1⟩ := hp30
                  rw [z30]
                  refine mm_bipush C (mm_dec dk_X12_operand 18 rfl) ⟨by decide, by decide⟩ ?_
                  refine mm_icmp_ne (tgt := 75) C (mm_dec dk_X12_operand 19 rfl) (by decide) (fun c35 => ?_) (fun c35 => ?_)
                  · skip
                    refine mm_fgt 4 ?_
                    exact J75 (by first | omega | (have zk := mm_kw9_x y30_1; omega))
                  · skip
                    have zc6 : mm_cY h18_ = 6 := by have zk := mm_kw9_x y30_1; omega
                    refine mm_iload C (mm_dec dk_X12_operand 20 rfl) rfl ?_
                    refine mm_bipush C (mm_dec dk_X12_operand 21 rfl) ⟨by decide, by decide⟩ ?_
                    have J50 : ∀ (h50_ : mH) (i50_ : mm_inv h50_) (f50_ : mm_fr [(66, 57), (66, 58), (66, 60), (66, 61), (66, 62), (66, 63), (66, 64), (66, 65), (66, 66), (66, 69), (66, 70), (66, 71)] [107, 108, 109] h h50_) (w50_0 : mm_sm h18_ h50_) (w50_1 : (h50_.1 66 57 = 0 → h18_.1 66 57 = 0 ∧ x18_4 ≠ 6)) (w50_2 : mm_eY h18_ h50_) (w50_3 : ((h50_.1 66 57 = 0 ∧ h50_.1 66 58 = h18_.1 66 58 ∧ x18_4 ≠ 6) ∨ (h50_.1 66 57 = 2 ∧ h50_.1 66 58 = h18_.1 66 62 ∧ x18_4 = 6))) (w50_4 : ∀ j, h50_.2.1 109 j = h18_.2.1 109 j) (w50_5 : h50_.1 66 71 = h18_.1 66 71), mm_W x 0 0 50 [mR 66, mU, mI x4_2, mU, mI x18_4] [] h50_ := by
                      intro h50_ i50_ f50_ w50_0 w50_1 w50_2 w50_3 w50_4 w50_5
                      have g123 : -2147483648 ≤ h50_.1 66 57 ∧ h50_.1 66 57 ≤ 2147483647 := i50_.1 66 57
                      have g124 : 0 ≤ h50_.1 66 69 ∧ h50_.1 66 69 ≤ 2400 := i50_.1 66 69
                      have g125 : 0 ≤ h50_.1 66 70 ∧ h50_.1 66 70 ≤ 520 := i50_.1 66 70
                      have g126 : 0 ≤ h50_.1 66 62 ∧ h50_.1 66 62 ≤ 500 := i50_.1 66 62
                      have g127 : 0 ≤ h50_.1 66 60 ∧ h50_.1 66 60 ≤ 500 := i50_.1 66 60
                      have g128 : -2147483648 ≤ h50_.1 66 61 ∧ h50_.1 66 61 ≤ 2147483647 := i50_.1 66 61
                      have g129 : 0 ≤ h50_.1 66 71 ∧ h50_.1 66 71 ≤ 6 := i50_.1 66 71
                      have g130 : -2147483648 ≤ h50_.1 66 58 ∧ h50_.1 66 58 ≤ 2147483647 := i50_.1 66 58
                      have z62 := w50_0.2.2.1
                      refine mm_iincL (ls2 := [mR 66, mU, mI x4_2, mU, mI (x18_4 + 1)]) C (mm_dec dk_X12_operand 26 rfl) rfl (by decide) ⟨by omega, by omega⟩ rfl ?_
                      refine mm_aload_n C (mm_dec dk_X12_operand 27 rfl) rfl ?_
                      refine mm_cVi (rest := []) C1 ev_X12_413 (mm_dec dk_X12_operand 28 rfl) (c_X12_isGood x.2.1 hl (d - 1) (by omega) h50_ i50_ ) rfl rfl (Nat.le_of_ble_eq_true rfl) ⟨by decide, by decide⟩ rfl (fun r54 h54c hp54 => ?_) (fun _ _ q => q.elim)
                      obtain ⟨z54, y54⟩ := hp54
                      rw [z54]
                      refine mm_if_ne (tgt := 63) C (mm_dec dk_X12_operand 29 rfl) (by decide) (fun c57 => ?_) (fun c57 => ?_)
                      · skip
                        have zs := w50_0.2.2.2.2.1
                        have z70 := w50_0.2.1
                        have z62 := w50_0.2.2.1
                        have z69 := w50_0.1
                        have zw := w18_0.1.2.2.2.2.2
                        have zt := w18_0.1.2.2.1
                        refine mm_aload_n C (mm_dec dk_X12_operand 31 rfl) rfl ?_
                        refine mm_iconst C (mm_dec dk_X12_operand 32 rfl) ⟨by decide, by decide⟩ ?_
                        refine mm_cVv (rest := []) C1 ev_X12_432 (mm_dec dk_X12_operand 33 rfl) (c_X12_waitsFor_x x.2.1 hl (d - 1) (by omega) h50_ i50_ 4 (by omega)) rfl rfl (Nat.le_of_ble_eq_true rfl) ⟨by decide, by decide⟩ rfl (fun h65c hp65 => ?_) (fun _ _ q => q.elim)
                        obtain ⟨i65c, g65c, y65_0, y65_1⟩ := hp65
                        have f65c : mm_fr [(66, 57), (66, 58), (66, 60), (66, 61), (66, 62), (66, 63), (66, 64), (66, 65), (66, 66), (66, 69), (66, 70), (66, 71)] [107, 108, 109] h h65c := mm_fr_tr f50_ g65c (by decide +kernel)
                        have q65c_133 : h65c.1 66 57 = h50_.1 66 57 := g65c.1 66 57 (by decide)
                        have q65c_134 : h65c.1 66 58 = h50_.1 66 58 := g65c.1 66 58 (by decide)
                        have q65c_135 : h65c.1 66 60 = h50_.1 66 60 := g65c.1 66 60 (by decide)
                        have q65c_136 : h65c.1 66 61 = h50_.1 66 61 := g65c.1 66 61 (by decide)
                        have q65c_137 : h65c.1 66 62 = h50_.1 66 62 := g65c.1 66 62 (by decide)
                        have q65c_138 : h65c.1 66 69 = h50_.1 66 69 := g65c.1 66 69 (by decide)
                        have q65c_139 : h65c.1 66 71 = h50_.1 66 71 := g65c.1 66 71 (by decide)
                        have g140 : 0 ≤ (h65c.1 66 70) ∧ (h65c.1 66 70) ≤ 520 := i65c.1 66 70
                        refine mm_aload_n C (mm_dec dk_X12_operand 34 rfl) rfl ?_
                        refine mm_cVv (rest := []) C1 ev_X12_423 (mm_dec dk_X12_operand 35 rfl) (c_X12_goes_q x.2.1 hl (d - 1) (by omega) h65c i65c ) rfl rfl (Nat.le_of_ble_eq_true rfl) ⟨by decide, by decide⟩ rfl (fun h69c hp69 => ?_) (fun _ _ q => q.elim)
                        obtain ⟨i69c, g69c, y69_0, y69_1, y69_2, y69_3, y69_4⟩ := hp69
                        have f69c : mm_fr [(66, 57), (66, 58), (66, 60), (66, 61), (66, 62), (66, 63), (66, 64), (66, 65), (66, 66), (66, 69), (66, 70), (66, 71)] [107, 108, 109] h h69c := mm_fr_tr f65c g69c (by decide +kernel)
                        have q69c_142 : h69c.1 66 57 = h65c.1 66 57 := g69c.1 66 57 (by decide)
                        have q69c_143 : h69c.1 66 58 = h65c.1 66 58 := g69c.1 66 58 (by decide)
                        have q69c_144 : h69c.1 66 69 = h65c.1 66 69 := g69c.1 66 69 (by decide)
                        have q69c_145 : h69c.1 66 70 = h65c.1 66 70 := g69c.1 66 70 (by decide)
                        have q69c_146 : h69c.1 66 71 = h65c.1 66 71 := g69c.1 66 71 (by decide)
                        have g147 : 0 ≤ (h69c.1 66 62) ∧ (h69c.1 66 62) ≤ 500 := i69c.1 66 62
                        have g148 : 0 ≤ (h69c.1 66 60) ∧ (h69c.1 66 60) ≤ 500 := i69c.1 66 60
                        have g149 : -2147483648 ≤ (h69c.1 66 61) ∧ (h69c.1 66 61) ≤ 2147483647 := i69c.1 66 61
                        have zo := mm_o1_not (mm_o1_sm w18_0 w50_0 (by omega)) i50_ (by omega) y65_0 y65_1 g65c g69c y69_0 y69_1 y69_2
                        have zp := zo.2
                        have zs9 := mm_st9_e (mm_eY_tr w50_2 (mm_eY_fr g65c (by decide))) (mm_st9_of (mm_eY_a (mm_eY_tr w50_2 (mm_eY_fr g65c (by decide))) w18_3.2.1) y69_3 y69_4 g69c (by decide))
                        have zky : mm_kY h69c = mm_kY h18_ := mm_kY_eq (fun j => (g69c.2 109 (by decide) j).trans ((g65c.2 109 (by decide) j).trans (w50_4 j))) (by omega)
                        refine mm_goto (tgt := 18) C (mm_dec dk_X12_operand 36 rfl) (by decide) ?_
                        exact ih18 (x18_4 + 1) ⟨by omega, by omega⟩ h69c i69c f69c (by first | exact w4_0 | exact zo.1 | exact mm_o1_sm w18_0 w50_0 (by omega)) (by omega) (by omega) (by first | exact mm_I8_4 w4_1 (by omega) | exact mm_I8_s w18_3 (by omega) (by omega) (by omega) zc6 zs9 ⟨by omega, by omega⟩ zky | exact mm_I8_bad w18_3 (by omega) (by omega) (by omega) zc6 w50_2 (by omega) (by omega)) (by omega) (by omega)
                      · skip
                        refine mm_goto (tgt := 18) C (mm_dec dk_X12_operand 30 rfl) (by decide) ?_
                        exact ih18 (x18_4 + 1) ⟨by omega, by omega⟩ h50_ i50_ f50_ (by first | exact w4_0 | exact zo.1 | exact mm_o1_sm w18_0 w50_0 (by omega)) (by omega) (by omega) (by first | exact mm_I8_4 w4_1 (by omega) | exact mm_I8_s w18_3 (by omega) (by omega) (by omega) zc6 zs9 ⟨by omega, by omega⟩ zky | exact mm_I8_bad w18_3 (by omega) (by omega) (by omega) zc6 w50_2 (by omega) (by omega)) (by omega) (by omega)
                    refine mm_icmp_ne (tgt := 50) C (mm_dec dk_X12_operand 22 rfl) (by decide) (fun c42 => ?_) (fun c42 => ?_)
                    · skip
                      exact J50 h18_ i18_ f18_ (by first | exact mm_sm_rf | exact mm_sm_fr g47c (by decide)) (by omega) (by first | exact mm_eY_rf | exact mm_eY_fr g47c (by decide)) (by omega) (by first | exact fun _ => rfl | exact g47c.2 109 (by decide)) (by omega)
                    · skip
                      refine mm_aload_n C (mm_dec dk_X12_operand 23 rfl) rfl ?_
                      refine mm_iconst C (mm_dec dk_X12_operand 24 rfl) ⟨by decide, by decide⟩ ?_
                      refine mm_cVv (rest := []) C1 ev_X12_417 (mm_dec dk_X12_operand 25 rfl) (c_X12_wrong_q x.2.1 hl (d - 1) (by omega) h18_ i18_ 2 (by omega)) rfl rfl (Nat.le_of_ble_eq_true rfl) ⟨by decide, by decide⟩ rfl (fun h47c hp47 => ?_) (fun _ _ q => q.elim)
                      obtain ⟨i47c, g47c, y47_0, y47_1⟩ := hp47
                      have f47c : mm_fr [(66, 57), (66, 58), (66, 60), (66, 61), (66, 62), (66, 63), (66, 64), (66, 65), (66, 66), (66, 69), (66, 70), (66, 71)] [107, 108, 109] h h47c := mm_fr_tr f18_ g47c (by decide +kernel)
                      have q47c_151 : h47c.1 66 60 = h18_.1 66 60 := g47c.1 66 60 (by decide)
                      have q47c_152 : h47c.1 66 61 = h18_.1 66 61 := g47c.1 66 61 (by decide)
                      have q47c_153 : h47c.1 66 62 = h18_.1 66 62 := g47c.1 66 62 (by decide)
                      have q47c_154 : h47c.1 66 69 = h18_.1 66 69 := g47c.1 66 69 (by decide)
                      have q47c_155 : h47c.1 66 70 = h18_.1 66 70 := g47c.1 66 70 (by decide)
                      have q47c_156 : h47c.1 66 71 = h18_.1 66 71 := g47c.1 66 71 (by decide)
                      have g157 : -2147483648 ≤ (h47c.1 66 57) ∧ (h47c.1 66 57) ≤ 2147483647 := i47c.1 66 57
                      have g158 : -2147483648 ≤ (h47c.1 66 58) ∧ (h47c.1 66 58) ≤ 2147483647 := i47c.1 66 58
                      exact J50 h47c i47c f47c (by first | exact mm_sm_rf | exact mm_sm_fr g47c (by decide)) (by omega) (by first | exact mm_eY_rf | exact mm_eY_fr g47c (by decide)) (by omega) (by first | exact fun _ => rfl | exact g47c.2 109 (by decide)) (by omega)
          refine mm_istoreL (ls2 := [mR 66, mU, mI x4_2, mI x4_3, mI 0]) C (mm_dec dk_X12_operand 10 rfl) (by decide) rfl ?_
          refine mm_fgt 3 ?_
          exact J18 (((7 - 0) : Int) + 1).toNat 0 ⟨by omega, by omega⟩ h4_ i4_ f4_ (by first | exact w4_0 | exact zo.1 | exact mm_o1_sm w18_0 w50_0 (by omega)) (by omega) (by omega) (by first | exact mm_I8_4 w4_1 (by omega) | exact mm_I8_s w18_3 (by omega) (by omega) (by omega) zc6 zs9 ⟨by omega, by omega⟩ zky | exact mm_I8_bad w18_3 (by omega) (by omega) (by omega) zc6 w50_2 (by omega) (by omega)) (by omega) (by omega)
  refine mm_istore_nL (ls2 := [mR 66, mI p1, mI p1, mI 1, mU]) C (mm_dec dk_X12_operand 3 rfl) (by decide) rfl ?_
  refine mm_fgt 1 ?_
  exact J4 (((2 * (500 - h.1 66 62) + 1) : Int) + 1).toNat p1 ⟨by omega, by omega⟩ 1 ⟨by omega, by omega⟩ h i0 f0 (by first | exact mm_o1_rf t0 t1 | exact w117_0) (by first | exact mm_I4_0 t4 rfl | exact w117_3) (by omega) (by omega)
set_option maxRecDepth 100000 in
set_option maxHeartbeats 40000000 in
theorem c_X12_expression_q (l : Launch) (hl : l.stackTraces = false) (d : Nat) (hd : 5 ≤ d) (h : mH) (i0 : mm_inv h) (t0 : mm_tok h) (t1 : h.1 66 69 ≤ 1397 + 2 * h.1 66 62) (t2 : mm_aY h) : mm_Met l d yX12_expression cX12_expression 4 (some .int) [mR 66] h (mm_pi fun r h2 => (0 ≤ r ∧ r ≤ 2400) ∧ mm_inv h2 ∧ mm_fr [(66, 57), (66, 58), (66, 60), (66, 61), (66, 62), (66, 63), (66, 64), (66, 65), (66, 66), (66, 69), (66, 70), (66, 71)] [107, 108, 109] h h2 ∧ mm_ex h h2 ∧ r = h.1 66 69 ∧ (h.1 66 57 = 0 → mm_X9 h h2) ∧ (h2.1 66 57 ≠ 0 ∨ (h.1 66 57 = 0 ∧ h2.1 66 58 = h.1 66 58))) mm_nx 0 0 := by
  refine mm_ofW (ls := [mR 66, mU, mU, mU]) hl (by decide) rfl (Nat.le_of_ble_eq_true rfl) ?_
  intro x hxl C T hnm htb
  subst hxl
  have C1 := mm_OK_le (d' := d - 1 + 1) (by omega) C
  have f0 : mm_fr [(66, 57), (66, 58), (66, 60), (66, 61), (66, 62), (66, 63), (66, 64), (66, 65), (66, 66), (66, 69), (66, 70), (66, 71)] [107, 108, 109] h h := mm_fr_rf
  have g1 : -2147483648 ≤ h.1 66 57 ∧ h.1 66 57 ≤ 2147483647 := i0.1 66 57
  have g2 : 0 ≤ h.1 66 69 ∧ h.1 66 69 ≤ 2400 := i0.1 66 69
  have g3 : 0 ≤ h.1 66 70 ∧ h.1 66 70 ≤ 520 := i0.1 66 70
  have g4 : 0 ≤ h.1 66 62 ∧ h.1 66 62 ≤ 500 := i0.1 66 62
  have g5 : 0 ≤ h.1 66 60 ∧ h.1 66 60 ≤ 500 := i0.1 66 60
  have g6 : -2147483648 ≤ h.1 66 61 ∧ h.1 66 61 ≤ 2147483647 := i0.1 66 61
  have g7 : 0 ≤ h.1 66 71 ∧ h.1 66 71 ≤ 6 := i0.1 66 71
  have g8 : -2147483648 ≤ h.1 66 58 ∧ h.1 66 58 ≤ 2147483647 := i0.1 66 58
  have g9 : -2147483648 ≤ h.1 66 65 ∧ h.1 66 65 ≤ 2147483647 := i0.1 66 65
  refine mm_aload_n C (mm_dec dk_X12_expression 0 rfl) rfl ?_
  refine mm_geti C fl_X12_401 (mm_dec dk_X12_expression 1 rfl) rfl rfl (Or.inl rfl) ?_
  refine mm_istore_nL (ls2 := [mR 66, mI (h.1 66 69), mU, mU]) C (mm_dec dk_X12_expression 2 rfl) (by decide) rfl ?_
  refine mm_aload_n C (mm_dec dk_X12_expression 3 rfl) rfl ?_
  refine mm_cVi (rest := []) C1 ev_X12_413 (mm_dec dk_X12_expression 4 rfl) (c_X12_isGood x.2.1 hl (d - 1) (by omega) h i0 ) rfl rfl (Nat.le_of_ble_eq_true rfl) ⟨by decide, by decide⟩ rfl (fun r6 h6c hp6 => ?_) (fun _ _ q => q.elim)
  obtain ⟨z6, y6⟩ := hp6
  rw [z6]
  refine mm_if_ne (tgt := 14) C (mm_dec dk_X12_expression 5 rfl) (by decide) (fun c9 => ?_) (fun c9 => ?_)
  · skip
    refine mm_aload_n C (mm_dec dk_X12_expression 8 rfl) rfl ?_
    refine mm_iconst C (mm_dec dk_X12_expression 9 rfl) ⟨by decide, by decide⟩ ?_
    refine mm_puti C fl_X12_404 (mm_dec dk_X12_expression 10 rfl) rfl rfl rfl (Or.inl ⟨rfl, rfl⟩) ?_
    have i1 : mm_inv (mm_pf h 66 70 0) := mm_inv_pf i0 (show 0 ≤ 0 ∧ 0 ≤ 520 from ⟨by omega, by omega⟩) (by decide)
    have f1 : mm_fr [(66, 57), (66, 58), (66, 60), (66, 61), (66, 62), (66, 63), (66, 64), (66, 65), (66, 66), (66, 69), (66, 70), (66, 71)] [107, 108, 109] h (mm_pf h 66 70 0) := mm_fr_pf f0 (by decide)
    obtain ⟨h1, eh1⟩ : ∃ z, z = mm_pf h 66 70 0 := ⟨_, rfl⟩
    rw [← eh1] at i1 f1 ⊢
    have qh1 : h1.1 66 70 = 0 := by rw [eh1]; exact mm_pf_same _ _ _ _
    have qh1_11 : h1.1 66 57 = h.1 66 57 := by rw [eh1]; exact mm_pf_ne _ _ (by decide)
    have qh1_12 : h1.1 66 58 = h.1 66 58 := by rw [eh1]; exact mm_pf_ne _ _ (by decide)
    have qh1_13 : h1.1 66 60 = h.1 66 60 := by rw [eh1]; exact mm_pf_ne _ _ (by decide)
    have qh1_14 : h1.1 66 61 = h.1 66 61 := by rw [eh1]; exact mm_pf_ne _ _ (by decide)
    have qh1_15 : h1.1 66 62 = h.1 66 62 := by rw [eh1]; exact mm_pf_ne _ _ (by decide)
    have qh1_16 : h1.1 66 65 = h.1 66 65 := by rw [eh1]; exact mm_pf_ne _ _ (by decide)
    have qh1_17 : h1.1 66 69 = h.1 66 69 := by rw [eh1]; exact mm_pf_ne _ _ (by decide)
    have qh1_18 : h1.1 66 71 = h.1 66 71 := by rw [eh1]; exact mm_pf_ne _ _ (by decide)
    refine mm_aload_n C (mm_dec dk_X12_expression 11 rfl) rfl ?_
    refine mm_iconst C (mm_dec dk_X12_expression 12 rfl) ⟨by decide, by decide⟩ ?_
    refine mm_puti C fl_X12_426 (mm_dec dk_X12_expression 13 rfl) rfl rfl rfl (Or.inl ⟨rfl, rfl⟩) ?_
    have i2 : mm_inv (mm_pf h1 66 71 0) := mm_inv_pf i1 (show 0 ≤ 0 ∧ 0 ≤ 6 from ⟨by omega, by omega⟩) (by decide)
    have f2 : mm_fr [(66, 57), (66, 58), (66, 60), (66, 61), (66, 62), (66, 63), (66, 64), (66, 65), (66, 66), (66, 69), (66, 70), (66, 71)] [107, 108, 109] h (mm_pf h1 66 71 0) := mm_fr_pf f1 (by decide)
    obtain ⟨h2, eh2⟩ : ∃ z, z = mm_pf h1 66 71 0 := ⟨_, rfl⟩
    rw [← eh2] at i2 f2 ⊢
    have qh2 : h2.1 66 71 = 0 := by rw [eh2]; exact mm_pf_same _ _ _ _
    have qh2_19 : h2.1 66 57 = h1.1 66 57 := by rw [eh2]; exact mm_pf_ne _ _ (by decide)
    have qh2_20 : h2.1 66 58 = h1.1 66 58 := by rw [eh2]; exact mm_pf_ne _ _ (by decide)
    have qh2_21 : h2.1 66 60 = h1.1 66 60 := by rw [eh2]; exact mm_pf_ne _ _ (by decide)
    have qh2_22 : h2.1 66 61 = h1.1 66 61 := by rw [eh2]; exact mm_pf_ne _ _ (by decide)
    have qh2_23 : h2.1 66 62 = h1.1 66 62 := by rw [eh2]; exact mm_pf_ne _ _ (by decide)
    have qh2_24 : h2.1 66 65 = h1.1 66 65 := by rw [eh2]; exact mm_pf_ne _ _ (by decide)
    have qh2_25 : h2.1 66 69 = h1.1 66 69 := by rw [eh2]; exact mm_pf_ne _ _ (by decide)
    have qh2_26 : h2.1 66 70 = h1.1 66 70 := by rw [eh2]; exact mm_pf_ne _ _ (by decide)
    have zE0 := mm_eY_tr (mm_eY_pf eh1 (by decide)) (mm_eY_pf eh2 (by decide))
    refine mm_aload_n C (mm_dec dk_X12_expression 14 rfl) rfl ?_
    refine mm_cVv (rest := []) C1 ev_X12_435 (mm_dec dk_X12_expression 15 rfl) (c_X12_begins_q x.2.1 hl (d - 1) (by omega) h2 i2 (by first | exact mm_eY_a zE0 t2 | omega)) rfl rfl (Nat.le_of_ble_eq_true rfl) ⟨by decide, by decide⟩ rfl (fun h25c hp25 => ?_) (fun _ _ q => q.elim)
    obtain ⟨i25c, g25c, y25_0, y25_1⟩ := hp25
    have f25c : mm_fr [(66, 57), (66, 58), (66, 60), (66, 61), (66, 62), (66, 63), (66, 64), (66, 65), (66, 66), (66, 69), (66, 70), (66, 71)] [107, 108, 109] h h25c := mm_fr_tr f2 g25c (by decide +kernel)
    have q25c_28 : h25c.1 66 60 = h2.1 66 60 := g25c.1 66 60 (by decide)
    have q25c_29 : h25c.1 66 61 = h2.1 66 61 := g25c.1 66 61 (by decide)
    have q25c_30 : h25c.1 66 62 = h2.1 66 62 := g25c.1 66 62 (by decide)
    have q25c_31 : h25c.1 66 65 = h2.1 66 65 := g25c.1 66 65 (by decide)
    have q25c_32 : h25c.1 66 69 = h2.1 66 69 := g25c.1 66 69 (by decide)
    have q25c_33 : h25c.1 66 70 = h2.1 66 70 := g25c.1 66 70 (by decide)
    have g34 : -2147483648 ≤ (h25c.1 66 57) ∧ (h25c.1 66 57) ≤ 2147483647 := i25c.1 66 57
    have g35 : 0 ≤ (h25c.1 66 71) ∧ (h25c.1 66 71) ≤ 6 := i25c.1 66 71
    have g36 : -2147483648 ≤ (h25c.1 66 58) ∧ (h25c.1 66 58) ≤ 2147483647 := i25c.1 66 58
    have zI := mm_e_init eh1 eh2 g25c y25_0 t0
    have zi1 := zI.2.2.2.2.1
    have zi2 := zI.2.2.2.2.2.1
    have zi3 := zI.2.2.2.2.2.2
    refine mm_aload_n C (mm_dec dk_X12_expression 16 rfl) rfl ?_
    refine mm_iconst C (mm_dec dk_X12_expression 17 rfl) ⟨by decide, by decide⟩ ?_
    refine mm_cVv (rest := []) C1 ev_X12_441 (mm_dec dk_X12_expression 18 rfl) (c_X12_operand_q x.2.1 hl (d - 1) (by omega) h25c i25c 1 ⟨by omega, by omega⟩ (by first | exact mm_eY_a ((y25_1).1) (mm_eY_a zE0 t2) | exact zI.1 | exact zI.2.1 | omega) (by first | exact mm_eY_a ((y25_1).1) (mm_eY_a zE0 t2) | exact zI.1 | exact zI.2.1 | omega) (by first | exact mm_eY_a ((y25_1).1) (mm_eY_a zE0 t2) | exact zI.1 | exact zI.2.1 | omega) (by first | exact mm_eY_a ((y25_1).1) (mm_eY_a zE0 t2) | exact zI.1 | exact zI.2.1 | omega) (by first | exact mm_eY_a ((y25_1).1) (mm_eY_a zE0 t2) | exact zI.1 | exact zI.2.1 | omega)) rfl rfl (Nat.le_of_ble_eq_true rfl) ⟨by decide, by decide⟩ rfl (fun h30c hp30 => ?_) (fun _ _ q => q.elim)
    obtain ⟨i30c, g30c, y30_0, y30_1, y30_2⟩ := hp30
    have f30c : mm_fr [(66, 57), (66, 58), (66, 60), (66, 61), (66, 62), (66, 63), (66, 64), (66, 65), (66, 66), (66, 69), (66, 70), (66, 71)] [107, 108, 109] h h30c := mm_fr_tr f25c g30c (by decide +kernel)
    have g38 : -2147483648 ≤ (h30c.1 66 57) ∧ (h30c.1 66 57) ≤ 2147483647 := i30c.1 66 57
    have g39 : 0 ≤ (h30c.1 66 69) ∧ (h30c.1 66 69) ≤ 2400 := i30c.1 66 69
    have g40 : 0 ≤ (h30c.1 66 70) ∧ (h30c.1 66 70) ≤ 520 := i30c.1 66 70
    have g41 : 0 ≤ (h30c.1 66 62) ∧ (h30c.1 66 62) ≤ 500 := i30c.1 66 62
    have g42 : 0 ≤ (h30c.1 66 60) ∧ (h30c.1 66 60) ≤ 500 := i30c.1 66 60
    have g43 : -2147483648 ≤ (h30c.1 66 61) ∧ (h30c.1 66 61) ≤ 2147483647 := i30c.1 66 61
    have g44 : 0 ≤ (h30c.1 66 71) ∧ (h30c.1 66 71) ≤ 6 := i30c.1 66 71
    have g45 : -2147483648 ≤ (h30c.1 66 58) ∧ (h30c.1 66 58) ≤ 2147483647 := i30c.1 66 58
    have g46 : -2147483648 ≤ (h30c.1 66 65) ∧ (h30c.1 66 65) ≤ 2147483647 := i30c.1 66 65
    refine mm_iconst C (mm_dec dk_X12_expression 19 rfl) ⟨by decide, by decide⟩ ?_
    have J35 : ∀ (n : Nat) (x35_2 : Int) (bx35_2 : 0 ≤ x35_2 ∧ x35_2 ≤ 1) (h35_ : mH) (i35_ : mm_inv h35_) (f35_ : mm_fr [(66, 57), (66, 58), (66, 60), (66, 61), (66, 62), (66, 63), (66, 64), (66, 65), (66, 66), (66, 69), (66, 70), (66, 71)] [107, 108, 109] h h35_) (w35_0 : mm_e1 h1 (h.1 66 69) (h.1 66 62) h35_) (w35_1 : mm_I35 h h35_ x35_2) (w35_2 : (h35_.1 66 57 ≠ 0 ∨ (h.1 66 57 = 0 ∧ h35_.1 66 58 = h.1 66 58))), (2 * (500 - h35_.1 66 62) + x35_2 : Int) < n → mm_W x 0 0 35 [mR 66, mI (h.1 66 69), mI x35_2, mU] [] h35_ := by
      intro n
      induction n with
      | zero =>
        intro x35_2 bx35_2 h35_ i35_ f35_ w35_0 w35_1 w35_2 hm
        have g47 : -2147483648 ≤ h35_.1 66 57 ∧ h35_.1 66 57 ≤ 2147483647 := i35_.1 66 57
        have g48 : 0 ≤ h35_.1 66 69 ∧ h35_.1 66 69 ≤ 2400 := i35_.1 66 69
        have g49 : 0 ≤ h35_.1 66 70 ∧ h35_.1 66 70 ≤ 520 := i35_.1 66 70
        have g50 : 0 ≤ h35_.1 66 62 ∧ h35_.1 66 62 ≤ 500 := i35_.1 66 62
        have g51 : 0 ≤ h35_.1 66 60 ∧ h35_.1 66 60 ≤ 500 := i35_.1 66 60
        have g52 : -2147483648 ≤ h35_.1 66 61 ∧ h35_.1 66 61 ≤ 2147483647 := i35_.1 66 61
        have g53 : 0 ≤ h35_.1 66 71 ∧ h35_.1 66 71 ≤ 6 := i35_.1 66 71
        have g54 : -2147483648 ≤ h35_.1 66 58 ∧ h35_.1 66 58 ≤ 2147483647 := i35_.1 66 58
        have g55 : -2147483648 ≤ h35_.1 66 65 ∧ h35_.1 66 65 ≤ 2147483647 := i35_.1 66 65
        exfalso; omega
      | succ n ih35 =>
        intro x35_2 bx35_2 h35_ i35_ f35_ w35_0 w35_1 w35_2 hm35
        have g56 : -2147483648 ≤ h35_.1 66 57 ∧ h35_.1 66 57 ≤ 2147483647 := i35_.1 66 57
        have g57 : 0 ≤ h35_.1 66 69 ∧ h35_.1 66 69 ≤ 2400 := i35_.1 66 69
        have g58 : 0 ≤ h35_.1 66 70 ∧ h35_.1 66 70 ≤ 520 := i35_.1 66 70
        have g59 : 0 ≤ h35_.1 66 62 ∧ h35_.1 66 62 ≤ 500 := i35_.1 66 62
        have g60 : 0 ≤ h35_.1 66 60 ∧ h35_.1 66 60 ≤ 500 := i35_.1 66 60
        have g61 : -2147483648 ≤ h35_.1 66 61 ∧ h35_.1 66 61 ≤ 2147483647 := i35_.1 66 61
        have g62 : 0 ≤ h35_.1 66 71 ∧ h35_.1 66 71 ≤ 6 := i35_.1 66 71
        have g63 : -2147483648 ≤ h35_.1 66 58 ∧ h35_.1 66 58 ≤ 2147483647 := i35_.1 66 58
        have g64 : -2147483648 ≤ h35_.1 66 65 ∧ h35_.1 66 65 ≤ 2147483647 := i35_.1 66 65
        have zm := w35_0.1.1.2.2.2.1
        have zt := w35_0.1.1.2.2.1
        have zu := w35_0.1.1.2.2.2.2.2
        have tf35 := mm_cY_h w35_1.2.1
        refine mm_iload_n C (mm_dec dk_X12_expression 21 rfl) rfl ?_
        have J354 : ∀ (w354_0 : (x35_2 = 0 ∨ h35_.1 66 57 ≠ 0)), mm_W x 0 0 354 [mR 66, mI (h.1 66 69), mU, mU] [] h35_ := by
          intro w354_0
          have g65 : -2147483648 ≤ h35_.1 66 57 ∧ h35_.1 66 57 ≤ 2147483647 := i35_.1 66 57
          have g66 : 0 ≤ h35_.1 66 69 ∧ h35_.1 66 69 ≤ 2400 := i35_.1 66 69
          have g67 : 0 ≤ h35_.1 66 70 ∧ h35_.1 66 70 ≤ 520 := i35_.1 66 70
          have g68 : 0 ≤ h35_.1 66 62 ∧ h35_.1 66 62 ≤ 500 := i35_.1 66 62
          have g69 : 0 ≤ h35_.1 66 60 ∧ h35_.1 66 60 ≤ 500 := i35_.1 66 60
          have g70 : -2147483648 ≤ h35_.1 66 61 ∧ h35_.1 66 61 ≤ 2147483647 := i35_.1 66 61
          have g71 : 0 ≤ h35_.1 66 71 ∧ h35_.1 66 71 ≤ 6 := i35_.1 66 71
          have g72 : -2147483648 ≤ h35_.1 66 58 ∧ h35_.1 66 58 ≤ 2147483647 := i35_.1 66 58
          have g73 : -2147483648 ≤ h35_.1 66 65 ∧ h35_.1 66 65 ≤ 2147483647 := i35_.1 66 65
          refine mm_aload_n C (mm_dec dk_X12_expression 182 rfl) rfl ?_
          refine mm_cVi (rest := []) C1 ev_X12_413 (mm_dec dk_X12_expression 183 rfl) (c_X12_isGood x.2.1 hl (d - 1) (by omega) h35_ i35_ ) rfl rfl (Nat.le_of_ble_eq_true rfl) ⟨by decide, by decide⟩ rfl (fun r355 h355c hp355 => ?_) (fun _ _ q => q.elim)
          obtain ⟨z355, y355⟩ := hp355
          rw [z355]
          have J374 : ∀ (h374_ : mH) (i374_ : mm_inv h374_) (f374_ : mm_fr [(66, 57), (66, 58), (66, 60), (66, 61), (66, 62), (66, 63), (66, 64), (66, 65), (66, 66), (66, 69), (66, 70), (66, 71)] [107, 108, 109] h h374_) (w374_0 : mm_sm h35_ h374_) (w374_1 : (h374_.1 66 57 = 0 → h35_.1 66 57 = 0)) (w374_2 : mm_eY h35_ h374_) (w374_3 : ((h35_.1 66 57 = 0 ∧ 1 < h35_.1 66 71 ∧ h374_.1 66 57 = 1 ∧ h374_.1 66 58 = h35_.1 66 62) ∨ ((h35_.1 66 57 ≠ 0 ∨ h35_.1 66 71 ≤ 1) ∧ h374_.1 66 57 = h35_.1 66 57 ∧ h374_.1 66 58 = h35_.1 66 58))), mm_W x 0 0 374 [mR 66, mI (h.1 66 69), mU, mU] [] h374_ := by
            intro h374_ i374_ f374_ w374_0 w374_1 w374_2 w374_3
            have g75 : -2147483648 ≤ h374_.1 66 57 ∧ h374_.1 66 57 ≤ 2147483647 := i374_.1 66 57
            have g76 : 0 ≤ h374_.1 66 69 ∧ h374_.1 66 69 ≤ 2400 := i374_.1 66 69
            have g77 : 0 ≤ h374_.1 66 70 ∧ h374_.1 66 70 ≤ 520 := i374_.1 66 70
            have g78 : 0 ≤ h374_.1 66 62 ∧ h374_.1 66 62 ≤ 500 := i374_.1 66 62
            have g79 : 0 ≤ h374_.1 66 60 ∧ h374_.1 66 60 ≤ 500 := i374_.1 66 60
            have g80 : -2147483648 ≤ h374_.1 66 61 ∧ h374_.1 66 61 ≤ 2147483647 := i374_.1 66 61
            have g81 : 0 ≤ h374_.1 66 71 ∧ h374_.1 66 71 ≤ 6 := i374_.1 66 71
            have g82 : -2147483648 ≤ h374_.1 66 58 ∧ h374_.1 66 58 ≤ 2147483647 := i374_.1 66 58
            have g83 : -2147483648 ≤ h374_.1 66 65 ∧ h374_.1 66 65 ≤ 2147483647 := i374_.1 66 65
            have zs1 := w374_0.1
            have zs2 := w374_0.2.1
            have zs3 := w374_0.2.2.1
            refine mm_aload_n C (mm_dec dk_X12_expression 192 rfl) rfl ?_
            refine mm_iconst C (mm_dec dk_X12_expression 193 rfl) ⟨by decide, by decide⟩ ?_
            refine mm_cVv (rest := []) C1 ev_X12_445 (mm_dec dk_X12_expression 194 rfl) (c_X12_drops x.2.1 hl (d - 1) (by omega) h374_ i374_ 0 (by omega) (by omega)) rfl rfl (Nat.le_of_ble_eq_true rfl) ⟨by decide, by decide⟩ rfl (fun h376c hp376 => ?_) (fun _ _ q => q.elim)
            obtain ⟨i376c, g376c, y376_0, y376_1⟩ := hp376
            have f376c : mm_fr [(66, 57), (66, 58), (66, 60), (66, 61), (66, 62), (66, 63), (66, 64), (66, 65), (66, 66), (66, 69), (66, 70), (66, 71)] [107, 108, 109] h h376c := mm_fr_tr f374_ g376c (by decide +kernel)
            have q376c_85 : h376c.1 66 57 = h374_.1 66 57 := g376c.1 66 57 (by decide)
            have q376c_86 : h376c.1 66 58 = h374_.1 66 58 := g376c.1 66 58 (by decide)
            have q376c_87 : h376c.1 66 60 = h374_.1 66 60 := g376c.1 66 60 (by decide)
            have q376c_88 : h376c.1 66 61 = h374_.1 66 61 := g376c.1 66 61 (by decide)
            have q376c_89 : h376c.1 66 62 = h374_.1 66 62 := g376c.1 66 62 (by decide)
            have q376c_90 : h376c.1 66 65 = h374_.1 66 65 := g376c.1 66 65 (by decide)
            have q376c_91 : h376c.1 66 71 = h374_.1 66 71 := g376c.1 66 71 (by decide)
            have g92 : 0 ≤ (h376c.1 66 69) ∧ (h376c.1 66 69) ≤ 2400 := i376c.1 66 69
            have g93 : 0 ≤ (h376c.1 66 70) ∧ (h376c.1 66 70) ≤ 520 := i376c.1 66 70
            have zd1 := y376_0.1.2.2.2.2.2
            have zd2 := y376_0.2.1
            have zd3 := y376_0.2.2.2.2
            refine mm_aload_n C (mm_dec dk_X12_expression 195 rfl) rfl ?_
            refine mm_iconst C (mm_dec dk_X12_expression 196 rfl) ⟨by decide, by decide⟩ ?_
            refine mm_cVv (rest := []) C1 ev_X12_410 (mm_dec dk_X12_expression 197 rfl) (c_X12_puts_x x.2.1 hl (d - 1) (by omega) h376c i376c 0 (by omega)) rfl rfl (Nat.le_of_ble_eq_true rfl) ⟨by decide, by decide⟩ rfl (fun h381c hp381 => ?_) (fun _ _ q => q.elim)
            obtain ⟨i381c, g381c, y381_0, y381_1⟩ := hp381
            have f381c : mm_fr [(66, 57), (66, 58), (66, 60), (66, 61), (66, 62), (66, 63), (66, 64), (66, 65), (66, 66), (66, 69), (66, 70), (66, 71)] [107, 108, 109] h h381c := mm_fr_tr f376c g381c (by decide +kernel)
            have q381c_95 : h381c.1 66 57 = h376c.1 66 57 := g381c.1 66 57 (by decide)
            have q381c_96 : h381c.1 66 58 = h376c.1 66 58 := g381c.1 66 58 (by decide)
            have q381c_97 : h381c.1 66 60 = h376c.1 66 60 := g381c.1 66 60 (by decide)
            have q381c_98 : h381c.1 66 61 = h376c.1 66 61 := g381c.1 66 61 (by decide)
            have q381c_99 : h381c.1 66 62 = h376c.1 66 62 := g381c.1 66 62 (by decide)
            have q381c_100 : h381c.1 66 65 = h376c.1 66 65 := g381c.1 66 65 (by decide)
            have q381c_101 : h381c.1 66 70 = h376c.1 66 70 := g381c.1 66 70 (by decide)
            have q381c_102 : h381c.1 66 71 = h376c.1 66 71 := g381c.1 66 71 (by decide)
            have g103 : 0 ≤ (h381c.1 66 69) ∧ (h381c.1 66 69) ≤ 2400 := i381c.1 66 69
            refine mm_iload_n C (mm_dec dk_X12_expression 198 rfl) rfl ?_
            exact mm_iret C T (mm_dec dk_X12_expression 199 rfl) (by decide : 0 ≤ 0) (by decide : 0 ≤ 0) ⟨_, rfl, ⟨⟨by omega, by omega⟩, i381c, f381c, by first | exact mm_ex_rf (by omega) t0 | exact mm_ex_of eh1 w35_0 w374_0 w374_1 i376c y376_0 g376c (by omega) (by omega) y381_0 y381_1 g381c, by rfl, by first | exact fun q => absurd q (by omega) | exact fun _ => mm_X9_end w35_1 w354_0 w374_2 w374_3 (mm_eY_tr (mm_eY_fr g376c (by decide)) (mm_eY_fr g381c (by decide))) ⟨by omega, by omega⟩, by omega⟩⟩
          refine mm_if_eq (tgt := 374) C (mm_dec dk_X12_expression 184 rfl) (by decide) (fun c358 => ?_) (fun c358 => ?_)
          · skip
            exact J374 h35_ i35_ f35_ (by first | exact mm_sm_rf | exact mm_sm_fr g371c (by decide)) (by omega) (by first | exact mm_eY_rf | exact mm_eY_fr g371c (by decide)) (by omega)
          · skip
            refine mm_aload_n C (mm_dec dk_X12_expression 185 rfl) rfl ?_
            refine mm_geti C fl_X12_426 (mm_dec dk_X12_expression 186 rfl) rfl rfl (Or.inl rfl) ?_
            refine mm_iconst C (mm_dec dk_X12_expression 187 rfl) ⟨by decide, by decide⟩ ?_
            refine mm_icmp_le (tgt := 374) C (mm_dec dk_X12_expression 188 rfl) (by decide) (fun c366 => ?_) (fun c366 => ?_)
            · skip
              exact J374 h35_ i35_ f35_ (by first | exact mm_sm_rf | exact mm_sm_fr g371c (by decide)) (by omega) (by first | exact mm_eY_rf | exact mm_eY_fr g371c (by decide)) (by omega)
            · skip
              refine mm_aload_n C (mm_dec dk_X12_expression 189 rfl) rfl ?_
              refine mm_iconst C (mm_dec dk_X12_expression 190 rfl) ⟨by decide, by decide⟩ ?_
              refine mm_cVv (rest := []) C1 ev_X12_417 (mm_dec dk_X12_expression 191 rfl) (c_X12_wrong_q x.2.1 hl (d - 1) (by omega) h35_ i35_ 1 (by omega)) rfl rfl (Nat.le_of_ble_eq_true rfl) ⟨by decide, by decide⟩ rfl (fun h371c hp371 => ?_) (fun _ _ q => q.elim)
              obtain ⟨i371c, g371c, y371_0, y371_1⟩ := hp371
              have f371c : mm_fr [(66, 57), (66, 58), (66, 60), (66, 61), (66, 62), (66, 63), (66, 64), (66, 65), (66, 66), (66, 69), (66, 70), (66, 71)] [107, 108, 109] h h371c := mm_fr_tr f35_ g371c (by decide +kernel)
              have q371c_105 : h371c.1 66 60 = h35_.1 66 60 := g371c.1 66 60 (by decide)
              have q371c_106 : h371c.1 66 61 = h35_.1 66 61 := g371c.1 66 61 (by decide)
              have q371c_107 : h371c.1 66 62 = h35_.1 66 62 := g371c.1 66 62 (by decide)
              have q371c_108 : h371c.1 66 65 = h35_.1 66 65 := g371c.1 66 65 (by decide)
              have q371c_109 : h371c.1 66 69 = h35_.1 66 69 := g371c.1 66 69 (by decide)
              have q371c_110 : h371c.1 66 70 = h35_.1 66 70 := g371c.1 66 70 (by decide)
              have q371c_111 : h371c.1 66 71 = h35_.1 66 71 := g371c.1 66 71 (by decide)
              have g112 : -2147483648 ≤ (h371c.1 66 57) ∧ (h371c.1 66 57) ≤ 2147483647 := i371c.1 66 57
              have g113 : -2147483648 ≤ (h371c.1 66 58) ∧ (h371c.1 66 58) ≤ 2147483647 := i371c.1 66 58
              exact J374 h371c i371c f371c (by first | exact mm_sm_rf | exact mm_sm_fr g371c (by decide)) (by omega) (by first | exact mm_eY_rf | exact mm_eY_fr g371c (by decide)) (by omega)
        refine mm_if_eq (tgt := 354) C (mm_dec dk_X12_expression 22 rfl) (by decide) (fun c36 => ?_) (fun c36 => ?_)
        · skip
          refine mm_fgt 2 ?_
          exact J354 (by omega)
        · skip
          refine mm_aload_n C (mm_dec dk_X12_expression 23 rfl) rfl ?_
          refine mm_cVi (rest := []) C1 ev_X12_413 (mm_dec dk_X12_expression 24 rfl) (c_X12_isGood x.2.1 hl (d - 1) (by omega) h35_ i35_ ) rfl rfl (Nat.le_of_ble_eq_true rfl) ⟨by decide, by decide⟩ rfl (fun r40 h40c hp40 => ?_) (fun _ _ q => q.elim)
          obtain ⟨z40, y40⟩ := hp40
          rw [z40]
          refine mm_if_eq (tgt := 354) C (mm_dec dk_X12_expression 25 rfl) (by decide) (fun c43 => ?_) (fun c43 => ?_)
          · skip
            refine mm_fgt 2 ?_
            exact J354 (by omega)
          · skip
            have zI1 : mm_I35 h h35_ 1 := by rw [← show x35_2 = 1 by omega]; exact w35_1
            have zdd := (zI1.2.2.2 (by omega)).1
            have zq8 : h.1 66 57 = 0 ∧ h35_.1 66 58 = h.1 66 58 := by omega
            clear w35_2
            refine mm_aload_n C (mm_dec dk_X12_expression 26 rfl) rfl ?_
            refine mm_cVi (rest := []) C1 ev_X12_419 (mm_dec dk_X12_expression 27 rfl) (c_X12_knownWord_q x.2.1 hl (d - 1) (by omega) h35_ i35_ (by first | exact w35_1.2.1 | omega)) rfl rfl (Nat.le_of_ble_eq_true rfl) ⟨by decide, by decide⟩ rfl (fun r47 h47c hp47 => ?_) (fun _ _ q => q.elim)
            obtain ⟨b47, z47, y47_0, y47_1⟩ := hp47
            rw [z47]
            refine mm_istore_nL (ls2 := [mR 66, mI (h.1 66 69), mI x35_2, mI r47]) C (mm_dec dk_X12_expression 28 rfl) (by decide) rfl ?_
            refine mm_iload_n C (mm_dec dk_X12_expression 29 rfl) rfl ?_
            refine mm_iconst C (mm_dec dk_X12_expression 30 rfl) ⟨by decide, by decide⟩ ?_
            have J351 : ∀ (x351_2 : Int) (bx351_2 : 0 ≤ x351_2 ∧ x351_2 ≤ 1) (h351_ : mH) (i351_ : mm_inv h351_) (f351_ : mm_fr [(66, 57), (66, 58), (66, 60), (66, 61), (66, 62), (66, 63), (66, 64), (66, 65), (66, 66), (66, 69), (66, 70), (66, 71)] [107, 108, 109] h h351_) (w351_0 : mm_e1 h1 (h.1 66 69) (h.1 66 62) h351_) (w351_1 : (x351_2 = 0 ∨ h35_.1 66 62 + 1 ≤ h351_.1 66 62)) (w351_2 : h35_.1 66 62 ≤ h351_.1 66 62) (w351_3 : mm_I35 h h351_ x351_2) (w351_4 : (h351_.1 66 57 ≠ 0 ∨ (h.1 66 57 = 0 ∧ h351_.1 66 58 = h.1 66 58))), mm_W x 0 0 351 [mR 66, mI (h.1 66 69), mI x351_2, mU] [] h351_ := by
              intro x351_2 bx351_2 h351_ i351_ f351_ w351_0 w351_1 w351_2 w351_3 w351_4
              have g116 : -2147483648 ≤ h351_.1 66 57 ∧ h351_.1 66 57 ≤ 2147483647 := i351_.1 66 57
              have g117 : 0 ≤ h351_.1 66 69 ∧ h351_.1 66 69 ≤ 2400 := i351_.1 66 69
              have g118 : 0 ≤ h351_.1 66 70 ∧ h351_.1 66 70 ≤ 520 := i351_.1 66 70
              have g119 : 0 ≤ h351_.1 66 62 ∧ h351_.1 66 62 ≤ 500 := i351_.1 66 62
              have g120 : 0 ≤ h351_.1 66 60 ∧ h351_.1 66 60 ≤ 500 := i351_.1 66 60
              have g121 : -2147483648 ≤ h351_.1 66 61 ∧ h351_.1 66 61 ≤ 2147483647 := i351_.1 66 61
              have g122 : 0 ≤ h351_.1 66 71 ∧ h351_.1 66 71 ≤ 6 := i351_.1 66 71
              have g123 : -2147483648 ≤ h351_.1 66 58 ∧ h351_.1 66 58 ≤ 2147483647 := i351_.1 66 58
              have g124 : -2147483648 ≤ h351_.1 66 65 ∧ h351_.1 66 65 ≤ 2147483647 := i351_.1 66 65
              refine mm_goto (tgt := 35) C (mm_dec dk_X12_expression 181 rfl) (by decide) ?_
              exact ih35 x351_2 ⟨by omega, by omega⟩ h351_ i351_ f351_ (by first | exact w351_0 | exact mm_e_start eh1 eh2 g25c y25_0 t0 y30_0) (by first | exact w351_3 | exact mm_I35_0 (by omega) zE0 ⟨by omega, by omega⟩ (by omega) y25_1 y30_1 (fun q => by have z9 := (y30_0.2.2.1 q).2; omega) rfl) (by first | omega | (have zb := (y25_1).2; rcases zb with ⟨zb1, zb2, zb3, zb4⟩ | ⟨zb1, zb2, zb3⟩; (have zb5 := zb3.1; have zb6 := zb3.2; omega); omega)) (by omega)
            have J61 : ∀ (w61_0 : (r47 = 4 ∨ r47 = 5)), mm_W x 0 0 61 [mR 66, mI (h.1 66 69), mI x35_2, mI r47] [] h35_ := by
              intro w61_0
              have g125 : -2147483648 ≤ h35_.1 66 57 ∧ h35_.1 66 57 ≤ 2147483647 := i35_.1 66 57
              have g126 : 0 ≤ h35_.1 66 69 ∧ h35_.1 66 69 ≤ 2400 := i35_.1 66 69
              have g127 : 0 ≤ h35_.1 66 70 ∧ h35_.1 66 70 ≤ 520 := i35_.1 66 70
              have g128 : 0 ≤ h35_.1 66 62 ∧ h35_.1 66 62 ≤ 500 := i35_.1 66 62
              have g129 : 0 ≤ h35_.1 66 60 ∧ h35_.1 66 60 ≤ 500 := i35_.1 66 60
              have g130 : -2147483648 ≤ h35_.1 66 61 ∧ h35_.1 66 61 ≤ 2147483647 := i35_.1 66 61
              have g131 : 0 ≤ h35_.1 66 71 ∧ h35_.1 66 71 ≤ 6 := i35_.1 66 71
              have g132 : -2147483648 ≤ h35_.1 66 58 ∧ h35_.1 66 58 ≤ 2147483647 := i35_.1 66 58
              have g133 : -2147483648 ≤ h35_.1 66 65 ∧ h35_.1 66 65 ≤ 2147483647 := i35_.1 66 65
              have zca : mm_cY h35_ = 4 ∨ mm_cY h35_ = 5 := by have zk := mm_kw9_x y47_1; omega
              refine mm_aload_n C (mm_dec dk_X12_expression 35 rfl) rfl ?_
              refine mm_iload_n C (mm_dec dk_X12_expression 36 rfl) rfl ?_
              refine mm_iconst C (mm_dec dk_X12_expression 37 rfl) ⟨by decide, by decide⟩ ?_
              have J72 : ∀ (s72_1 : Int) (bs72_1 : 1 ≤ s72_1 ∧ s72_1 ≤ 2) (vs72_1 : (r47 ≠ 4 ∧ s72_1 = 1) ∨ (r47 = 4 ∧ s72_1 = 2)), mm_W x 0 0 72 [mR 66, mI (h.1 66 69), mI x35_2, mI r47] [mI s72_1, mR 66] h35_ := by
                intro s72_1 bs72_1 vs72_1
                have g134 : -2147483648 ≤ h35_.1 66 57 ∧ h35_.1 66 57 ≤ 2147483647 := i35_.1 66 57
                have g135 : 0 ≤ h35_.1 66 69 ∧ h35_.1 66 69 ≤ 2400 := i35_.1 66 69
                have g136 : 0 ≤ h35_.1 66 70 ∧ h35_.1 66 70 ≤ 520 := i35_.1 66 70
                have g137 : 0 ≤ h35_.1 66 62 ∧ h35_.1 66 62 ≤ 500 := i35_.1 66 62
                have g138 : 0 ≤ h35_.1 66 60 ∧ h35_.1 66 60 ≤ 500 := i35_.1 66 60
                have g139 : -2147483648 ≤ h35_.1 66 61 ∧ h35_.1 66 61 ≤ 2147483647 := i35_.1 66 61
                have g140 : 0 ≤ h35_.1 66 71 ∧ h35_.1 66 71 ≤ 6 := i35_.1 66 71
                have g141 : -2147483648 ≤ h35_.1 66 58 ∧ h35_.1 66 58 ≤ 2147483647 := i35_.1 66 58
                have g142 : -2147483648 ≤ h35_.1 66 65 ∧ h35_.1 66 65 ≤ 2147483647 := i35_.1 66 65
                refine mm_cVv (rest := []) C1 ev_X12_445 (mm_dec dk_X12_expression 42 rfl) (c_X12_drops x.2.1 hl (d - 1) (by omega) h35_ i35_ s72_1 (by omega) (by omega)) rfl rfl (Nat.le_of_ble_eq_true rfl) ⟨by decide, by decide⟩ rfl (fun h72c hp72 => ?_) (fun _ _ q => q.elim)
                obtain ⟨i72c, g72c, y72_0, y72_1⟩ := hp72
                have f72c : mm_fr [(66, 57), (66, 58), (66, 60), (66, 61), (66, 62), (66, 63), (66, 64), (66, 65), (66, 66), (66, 69), (66, 70), (66, 71)] [107, 108, 109] h h72c := mm_fr_tr f35_ g72c (by decide +kernel)
                have q72c_144 : h72c.1 66 57 = h35_.1 66 57 := g72c.1 66 57 (by decide)
                have q72c_145 : h72c.1 66 58 = h35_.1 66 58 := g72c.1 66 58 (by decide)
                have q72c_146 : h72c.1 66 60 = h35_.1 66 60 := g72c.1 66 60 (by decide)
                have q72c_147 : h72c.1 66 61 = h35_.1 66 61 := g72c.1 66 61 (by decide)
                have q72c_148 : h72c.1 66 62 = h35_.1 66 62 := g72c.1 66 62 (by decide)
                have q72c_149 : h72c.1 66 65 = h35_.1 66 65 := g72c.1 66 65 (by decide)
                have q72c_150 : h72c.1 66 71 = h35_.1 66 71 := g72c.1 66 71 (by decide)
                have g151 : 0 ≤ (h72c.1 66 69) ∧ (h72c.1 66 69) ≤ 2400 := i72c.1 66 69
                have g152 : 0 ≤ (h72c.1 66 70) ∧ (h72c.1 66 70) ≤ 520 := i72c.1 66 70
                have zd1 := y72_0.1.2.2.2.2.2
                have zd2 := y72_0.2.1
                clear y72_1
                refine mm_aload_n C (mm_dec dk_X12_expression 43 rfl) rfl ?_
                refine mm_iload_n C (mm_dec dk_X12_expression 44 rfl) rfl ?_
                refine mm_iconst C (mm_dec dk_X12_expression 45 rfl) ⟨by decide, by decide⟩ ?_
                have J87 : ∀ (s87_1 : Int) (bs87_1 : 5 ≤ s87_1 ∧ s87_1 ≤ 6) (vs87_1 : (r47 = 4 ∧ s87_1 = 5) ∨ (r47 ≠ 4 ∧ s87_1 = 6)), mm_W x 0 0 87 [mR 66, mI (h.1 66 69), mI x35_2, mU] [mI s87_1, mR 66] h72c := by
                  intro s87_1 bs87_1 vs87_1
                  refine mm_cVv (rest := []) C1 ev_X12_432 (mm_dec dk_X12_expression 50 rfl) (c_X12_waitsFor_x x.2.1 hl (d - 1) (by omega) h72c i72c s87_1 (by omega)) rfl rfl (Nat.le_of_ble_eq_true rfl) ⟨by decide, by decide⟩ rfl (fun h87c hp87 => ?_) (fun _ _ q => q.elim)
                  obtain ⟨i87c, g87c, y87_0, y87_1⟩ := hp87
                  have f87c : mm_fr [(66, 57), (66, 58), (66, 60), (66, 61), (66, 62), (66, 63), (66, 64), (66, 65), (66, 66), (66, 69), (66, 70), (66, 71)] [107, 108, 109] h h87c := mm_fr_tr f72c g87c (by decide +kernel)
                  have q87c_154 : h87c.1 66 57 = h72c.1 66 57 := g87c.1 66 57 (by decide)
                  have q87c_155 : h87c.1 66 58 = h72c.1 66 58 := g87c.1 66 58 (by decide)
                  have q87c_156 : h87c.1 66 60 = h72c.1 66 60 := g87c.1 66 60 (by decide)
                  have q87c_157 : h87c.1 66 61 = h72c.1 66 61 := g87c.1 66 61 (by decide)
                  have q87c_158 : h87c.1 66 62 = h72c.1 66 62 := g87c.1 66 62 (by decide)
                  have q87c_159 : h87c.1 66 65 = h72c.1 66 65 := g87c.1 66 65 (by decide)
                  have q87c_160 : h87c.1 66 69 = h72c.1 66 69 := g87c.1 66 69 (by decide)
                  have q87c_161 : h87c.1 66 71 = h72c.1 66 71 := g87c.1 66 71 (by decide)
                  have g162 : 0 ≤ (h87c.1 66 70) ∧ (h87c.1 66 70) ≤ 520 := i87c.1 66 70
                  refine mm_aload_n C (mm_dec dk_X12_expression 51 rfl) rfl ?_
                  refine mm_getr (t := 109) C fl_X12_138 (mm_dec dk_X12_expression 52 rfl) rfl rfl (mm_ref i87c rfl) ?_
                  refine mm_aload_n C (mm_dec dk_X12_expression 53 rfl) rfl ?_
                  refine mm_geti C fl_X12_426 (mm_dec dk_X12_expression 54 rfl) rfl rfl (Or.inl rfl) ?_
                  refine mm_iconst C (mm_dec dk_X12_expression 55 rfl) ⟨by decide, by decide⟩ ?_
                  refine mm_zast C (mm_dec dk_X12_expression 56 rfl) rfl (by omega) (by omega) (by omega) ?_
                  have i10 : mm_inv (mm_pa h87c 109 (h87c.1 66 71) 0) := mm_inv_pa i87c (show 0 ≤ 0 ∧ 0 ≤ 1 from ⟨by omega, by omega⟩)
                  have f10 : mm_fr [(66, 57), (66, 58), (66, 60), (66, 61), (66, 62), (66, 63), (66, 64), (66, 65), (66, 66), (66, 69), (66, 70), (66, 71)] [107, 108, 109] h (mm_pa h87c 109 (h87c.1 66 71) 0) := mm_fr_pa f87c (by decide)
                  obtain ⟨h10, eh10⟩ : ∃ z, z = mm_pa h87c 109 (h87c.1 66 71) 0 := ⟨_, rfl⟩
                  rw [← eh10] at i10 f10 ⊢
                  have qh10_163 : h10.1 66 57 = h87c.1 66 57 := by rw [eh10]; rfl
                  have qh10_164 : h10.1 66 58 = h87c.1 66 58 := by rw [eh10]; rfl
                  have qh10_165 : h10.1 66 60 = h87c.1 66 60 := by rw [eh10]; rfl
                  have qh10_166 : h10.1 66 61 = h87c.1 66 61 := by rw [eh10]; rfl
                  have qh10_167 : h10.1 66 62 = h87c.1 66 62 := by rw [eh10]; rfl
                  have qh10_168 : h10.1 66 65 = h87c.1 66 65 := by rw [eh10]; rfl
                  have qh10_169 : h10.1 66 69 = h87c.1 66 69 := by rw [eh10]; rfl
                  have qh10_170 : h10.1 66 70 = h87c.1 66 70 := by rw [eh10]; rfl
                  have qh10_171 : h10.1 66 71 = h87c.1 66 71 := by rw [eh10]; rfl
                  refine mm_aload_n C (mm_dec dk_X12_expression 57 rfl) rfl ?_
                  refine mm_cVv (rest := []) C1 ev_X12_423 (mm_dec dk_X12_expression 58 rfl) (c_X12_goes_q x.2.1 hl (d - 1) (by omega) h10 i10 ) rfl rfl (Nat.le_of_ble_eq_true rfl) ⟨by decide, by decide⟩ rfl (fun h101c hp101 => ?_) (fun _ _ q => q.elim)
                  obtain ⟨i101c, g101c, y101_0, y101_1, y101_2, y101_3, y101_4⟩ := hp101
                  have f101c : mm_fr [(66, 57), (66, 58), (66, 60), (66, 61), (66, 62), (66, 63), (66, 64), (66, 65), (66, 66), (66, 69), (66, 70), (66, 71)] [107, 108, 109] h h101c := mm_fr_tr f10 g101c (by decide +kernel)
                  have q101c_173 : h101c.1 66 57 = h10.1 66 57 := g101c.1 66 57 (by decide)
                  have q101c_174 : h101c.1 66 58 = h10.1 66 58 := g101c.1 66 58 (by decide)
                  have q101c_175 : h101c.1 66 69 = h10.1 66 69 := g101c.1 66 69 (by decide)
                  have q101c_176 : h101c.1 66 70 = h10.1 66 70 := g101c.1 66 70 (by decide)
                  have q101c_177 : h101c.1 66 71 = h10.1 66 71 := g101c.1 66 71 (by decide)
                  have g178 : 0 ≤ (h101c.1 66 62) ∧ (h101c.1 66 62) ≤ 500 := i101c.1 66 62
                  have g179 : 0 ≤ (h101c.1 66 60) ∧ (h101c.1 66 60) ≤ 500 := i101c.1 66 60
                  have g180 : -2147483648 ≤ (h101c.1 66 61) ∧ (h101c.1 66 61) ≤ 2147483647 := i101c.1 66 61
                  have g181 : -2147483648 ≤ (h101c.1 66 65) ∧ (h101c.1 66 65) ≤ 2147483647 := i101c.1 66 65
                  have zE := mm_e_op w35_0 i72c (by omega) (by omega) y72_0 g72c ⟨by omega, by omega⟩ y87_0 y87_1 g87c ⟨by rw [eh10]; rfl, fun o ho => by rw [eh10]; exact funext fun j => mm_pa_ne _ _ (fun w => ho w.1)⟩ g101c y101_0 y101_1 y101_2
                  have zb := zE.1.2.2.1
                  have zw := zE.1.2.2.2.2.2
                  have zl := zE.2.2.2.2.1
                  have ze9 := mm_eY_tr (mm_eY_tr (mm_eY_fr g72c (by decide)) (mm_eY_fr g87c (by decide))) (mm_eY_pa eh10 (by decide))
                  have zs9 := mm_st9_of (mm_eY_a ze9 w35_1.2.1) y101_3 y101_4 g101c (by decide)
                  have zu9 : mm_up h35_ h10 109 (h35_.1 66 71) 0 1 := mm_up_pav (fun j => (g87c.2 109 (by decide) j).trans (g72c.2 109 (by decide) j)) eh10 (fun _ => rfl) (by omega) rfl rfl
                  refine mm_aload_n C (mm_dec dk_X12_expression 59 rfl) rfl ?_
                  refine mm_iconst C (mm_dec dk_X12_expression 60 rfl) ⟨by decide, by decide⟩ ?_
                  refine mm_cVv (rest := []) C1 ev_X12_441 (mm_dec dk_X12_expression 61 rfl) (c_X12_operand_q x.2.1 hl (d - 1) (by omega) h101c i101c 1 ⟨by omega, by omega⟩ (by first | exact y101_3 | exact zE.2.1 | exact fun _ => zE.2.2.2.1 | omega) (by first | exact y101_3 | exact zE.2.1 | exact fun _ => zE.2.2.2.1 | omega) (by first | exact y101_3 | exact zE.2.1 | exact fun _ => zE.2.2.2.1 | omega) (by first | exact y101_3 | exact zE.2.1 | exact fun _ => zE.2.2.2.1 | omega) (by first | exact y101_3 | exact zE.2.1 | exact fun _ => zE.2.2.2.1 | omega)) rfl rfl (Nat.le_of_ble_eq_true rfl) ⟨by decide, by decide⟩ rfl (fun h106c hp106 => ?_) (fun _ _ q => q.elim)
                  obtain ⟨i106c, g106c, y106_0, y106_1, y106_2⟩ := hp106
                  have f106c : mm_fr [(66, 57), (66, 58), (66, 60), (66, 61), (66, 62), (66, 63), (66, 64), (66, 65), (66, 66), (66, 69), (66, 70), (66, 71)] [107, 108, 109] h h106c := mm_fr_tr f101c g106c (by decide +kernel)
                  have g183 : -2147483648 ≤ (h106c.1 66 57) ∧ (h106c.1 66 57) ≤ 2147483647 := i106c.1 66 57
                  have g184 : 0 ≤ (h106c.1 66 69) ∧ (h106c.1 66 69) ≤ 2400 := i106c.1 66 69
                  have g185 : 0 ≤ (h106c.1 66 70) ∧ (h106c.1 66 70) ≤ 520 := i106c.1 66 70
                  have g186 : 0 ≤ (h106c.1 66 62) ∧ (h106c.1 66 62) ≤ 500 := i106c.1 66 62
                  have g187 : 0 ≤ (h106c.1 66 60) ∧ (h106c.1 66 60) ≤ 500 := i106c.1 66 60
                  have g188 : -2147483648 ≤ (h106c.1 66 61) ∧ (h106c.1 66 61) ≤ 2147483647 := i106c.1 66 61
                  have g189 : 0 ≤ (h106c.1 66 71) ∧ (h106c.1 66 71) ≤ 6 := i106c.1 66 71
                  have g190 : -2147483648 ≤ (h106c.1 66 58) ∧ (h106c.1 66 58) ≤ 2147483647 := i106c.1 66 58
                  have g191 : -2147483648 ≤ (h106c.1 66 65) ∧ (h106c.1 66 65) ≤ 2147483647 := i106c.1 66 65
                  have zF := mm_e_put (p := h.1 66 62) zE y106_0 (by omega)
                  have zG := zF.2
                  refine mm_goto (tgt := 351) C (mm_dec dk_X12_expression 62 rfl) (by decide) ?_
                  exact J351 x35_2 ⟨by omega, by omega⟩ h106c i106c f106c (by first | exact zF.1 | exact w35_0) (by omega) (by omega) (by first | exact mm_I35_op zI1 (by omega) ze9 ⟨by omega, by omega⟩ zs9 ⟨by omega, by omega⟩ (mm_kY_eq (g101c.2 109 (by decide)) (g101c.1 66 71 (by decide))) (fun i r P => mm_st_and zca zu9 (by omega) zdd) y106_1 (fun q => by have z9 := (y106_0.2.2.1 q).2; omega) (by omega) | exact mm_I35_op zI1 (by omega) ze9 ⟨by omega, by omega⟩ zs9 ⟨by omega, by omega⟩ (mm_kY_eq (g178c.2 109 (by decide)) (g178c.1 66 71 (by decide))) (fun i r P => mm_st_lt w130_1 (by omega) zu9 (by omega) zdd) y183_1 (fun q => by have z9 := (y183_0.2.2.1 q).2; omega) (by omega) | exact mm_I35_op zI1 (by omega) ze9 ⟨by omega, by omega⟩ zs9 ⟨by omega, by omega⟩ (mm_kY_eq (g233c.2 109 (by decide)) (g233c.1 66 71 (by decide))) (fun i r P => mm_st_op (by omega) zk9 zdd) y238_1 (fun q => by have z9 := (y238_0.2.2.1 q).2; omega) (by omega) | exact mm_I35_op zI1 (by omega) ze9 ⟨by omega, by omega⟩ zs9 ⟨by omega, by omega⟩ (mm_kY_eq (g289c.2 109 (by decide)) (g289c.1 66 71 (by decide))) (fun i r P => mm_st_op (by omega) zk9 zdd) y294_1 (fun q => by have z9 := (y294_0.2.2.1 q).2; omega) (by omega) | exact mm_I35_close zI1 (by omega) zc41 ze9 ⟨by omega, by omega⟩ z109 (by omega) (by omega) zs9 ⟨by omega, by omega⟩ (mm_kY_eq (g343c.2 109 (by decide)) (g343c.1 66 71 (by decide))) (by omega) (by omega) | exact mm_I35_out zI1 (fun _ => ⟨w349_0, w349_1⟩)) (by omega)
                refine mm_icmp_ne (tgt := 85) C (mm_dec dk_X12_expression 46 rfl) (by decide) (fun c78 => ?_) (fun c78 => ?_)
                · skip
                  refine mm_bipush C (mm_dec dk_X12_expression 49 rfl) ⟨by decide, by decide⟩ ?_
                  refine mm_fgt 3 ?_
                  exact J87 6 ⟨by omega, by omega⟩ (Or.inr (⟨by omega, rfl⟩))
                · skip
                  refine mm_iconst C (mm_dec dk_X12_expression 47 rfl) ⟨by decide, by decide⟩ ?_
                  refine mm_goto (tgt := 87) C (mm_dec dk_X12_expression 48 rfl) (by decide) ?_
                  refine mm_fgt 3 ?_
                  exact J87 5 ⟨by omega, by omega⟩ (Or.inl ⟨by omega, rfl⟩)
              refine mm_icmp_ne (tgt := 71) C (mm_dec dk_X12_expression 38 rfl) (by decide) (fun c64 => ?_) (fun c64 => ?_)
              · skip
                refine mm_iconst C (mm_dec dk_X12_expression 41 rfl) ⟨by decide, by decide⟩ ?_
                exact J72 1 ⟨by omega, by omega⟩ (Or.inl ⟨by omega, rfl⟩)
              · skip
                refine mm_iconst C (mm_dec dk_X12_expression 39 rfl) ⟨by decide, by decide⟩ ?_
                refine mm_goto (tgt := 72) C (mm_dec dk_X12_expression 40 rfl) (by decide) ?_
                exact J72 2 ⟨by omega, by omega⟩ (Or.inr (⟨by omega, rfl⟩))
            refine mm_icmp_eq (tgt := 61) C (mm_dec dk_X12_expression 31 rfl) (by decide) (fun c53 => ?_) (fun c53 => ?_)
            · skip
              exact J61 (by omega)
            · skip
              refine mm_iload_n C (mm_dec dk_X12_expression 32 rfl) rfl ?_
              refine mm_iconst C (mm_dec dk_X12_expression 33 rfl) ⟨by decide, by decide⟩ ?_
              refine mm_icmp_ne (tgt := 112) C (mm_dec dk_X12_expression 34 rfl) (by decide) (fun c58 => ?_) (fun c58 => ?_)
              · skip
                have zcn : mm_hq9 (mm_cY h35_ ≠ 4 ∧ mm_cY h35_ ≠ 5) := (show mm_cY h35_ ≠ 4 ∧ mm_cY h35_ ≠ 5 by have zk := mm_kw9_x y47_1; omega)
                refine mm_aload_n C (mm_dec dk_X12_expression 63 rfl) rfl ?_
                refine mm_bipush C (mm_dec dk_X12_expression 64 rfl) ⟨by decide, by decide⟩ ?_
                refine mm_cVi (rest := []) C1 ev_X12_429 (mm_dec dk_X12_expression 65 rfl) (c_X12_isSign x.2.1 hl (d - 1) (by omega) h35_ i35_ 60) rfl rfl (Nat.le_of_ble_eq_true rfl) ⟨by decide, by decide⟩ rfl (fun r115 h115c hp115 => ?_) (fun _ _ q => q.elim)
                obtain ⟨z115, y115⟩ := hp115
                rw [z115]
                have J189 : ∀ (w189_0 : mm_hq9 (h35_.2.1 109 (h35_.1 66 71) ≠ 0 ∨ (mm_cY h35_ ≠ 160 ∧ mm_cY h35_ ≠ 161))), mm_W x 0 0 189 [mR 66, mI (h.1 66 69), mI x35_2, mU] [] h35_ := by
                  intro w189_0
                  have g193 : -2147483648 ≤ h35_.1 66 57 ∧ h35_.1 66 57 ≤ 2147483647 := i35_.1 66 57
                  have g194 : 0 ≤ h35_.1 66 69 ∧ h35_.1 66 69 ≤ 2400 := i35_.1 66 69
                  have g195 : 0 ≤ h35_.1 66 70 ∧ h35_.1 66 70 ≤ 520 := i35_.1 66 70
                  have g196 : 0 ≤ h35_.1 66 62 ∧ h35_.1 66 62 ≤ 500 := i35_.1 66 62
                  have g197 : 0 ≤ h35_.1 66 60 ∧ h35_.1 66 60 ≤ 500 := i35_.1 66 60
                  have g198 : -2147483648 ≤ h35_.1 66 61 ∧ h35_.1 66 61 ≤ 2147483647 := i35_.1 66 61
                  have g199 : 0 ≤ h35_.1 66 71 ∧ h35_.1 66 71 ≤ 6 := i35_.1 66 71
                  have g200 : -2147483648 ≤ h35_.1 66 58 ∧ h35_.1 66 58 ≤ 2147483647 := i35_.1 66 58
                  have g201 : -2147483648 ≤ h35_.1 66 65 ∧ h35_.1 66 65 ≤ 2147483647 := i35_.1 66 65
                  refine mm_aload_n C (mm_dec dk_X12_expression 101 rfl) rfl ?_
                  refine mm_bipush C (mm_dec dk_X12_expression 102 rfl) ⟨by decide, by decide⟩ ?_
                  refine mm_cVi (rest := []) C1 ev_X12_429 (mm_dec dk_X12_expression 103 rfl) (c_X12_isSign x.2.1 hl (d - 1) (by omega) h35_ i35_ 43) rfl rfl (Nat.le_of_ble_eq_true rfl) ⟨by decide, by decide⟩ rfl (fun r192 h192c hp192 => ?_) (fun _ _ q => q.elim)
                  obtain ⟨z192, y192⟩ := hp192
                  rw [z192]
                  have J207 : ∀ (w207_0 : h35_.1 66 61 = 3) (w207_1 : (mm_cY h35_ = 143 ∨ mm_cY h35_ = 145)), mm_W x 0 0 207 [mR 66, mI (h.1 66 69), mI x35_2, mU] [] h35_ := by
                    intro w207_0 w207_1
                    have g203 : -2147483648 ≤ h35_.1 66 57 ∧ h35_.1 66 57 ≤ 2147483647 := i35_.1 66 57
                    have g204 : 0 ≤ h35_.1 66 69 ∧ h35_.1 66 69 ≤ 2400 := i35_.1 66 69
                    have g205 : 0 ≤ h35_.1 66 70 ∧ h35_.1 66 70 ≤ 520 := i35_.1 66 70
                    have g206 : 0 ≤ h35_.1 66 62 ∧ h35_.1 66 62 ≤ 500 := i35_.1 66 62
                    have g207 : 0 ≤ h35_.1 66 60 ∧ h35_.1 66 60 ≤ 500 := i35_.1 66 60
                    have g208 : -2147483648 ≤ h35_.1 66 61 ∧ h35_.1 66 61 ≤ 2147483647 := i35_.1 66 61
                    have g209 : 0 ≤ h35_.1 66 71 ∧ h35_.1 66 71 ≤ 6 := i35_.1 66 71
                    have g210 : -2147483648 ≤ h35_.1 66 58 ∧ h35_.1 66 58 ≤ 2147483647 := i35_.1 66 58
                    have g211 : -2147483648 ≤ h35_.1 66 65 ∧ h35_.1 66 65 ≤ 2147483647 := i35_.1 66 65
                    refine mm_aload_n C (mm_dec dk_X12_expression 109 rfl) rfl ?_
                    refine mm_iconst C (mm_dec dk_X12_expression 110 rfl) ⟨by decide, by decide⟩ ?_
                    refine mm_cVv (rest := []) C1 ev_X12_445 (mm_dec dk_X12_expression 111 rfl) (c_X12_drops x.2.1 hl (d - 1) (by omega) h35_ i35_ 5 (by omega) (by omega)) rfl rfl (Nat.le_of_ble_eq_true rfl) ⟨by decide, by decide⟩ rfl (fun h209c hp209 => ?_) (fun _ _ q => q.elim)
                    obtain ⟨i209c, g209c, y209_0, y209_1⟩ := hp209
                    have f209c : mm_fr [(66, 57), (66, 58), (66, 60), (66, 61), (66, 62), (66, 63), (66, 64), (66, 65), (66, 66), (66, 69), (66, 70), (66, 71)] [107, 108, 109] h h209c := mm_fr_tr f35_ g209c (by decide +kernel)
                    have q209c_213 : h209c.1 66 57 = h35_.1 66 57 := g209c.1 66 57 (by decide)
                    have q209c_214 : h209c.1 66 58 = h35_.1 66 58 := g209c.1 66 58 (by decide)
                    have q209c_215 : h209c.1 66 60 = h35_.1 66 60 := g209c.1 66 60 (by decide)
                    have q209c_216 : h209c.1 66 61 = h35_.1 66 61 := g209c.1 66 61 (by decide)
                    have q209c_217 : h209c.1 66 62 = h35_.1 66 62 := g209c.1 66 62 (by decide)
                    have q209c_218 : h209c.1 66 65 = h35_.1 66 65 := g209c.1 66 65 (by decide)
                    have q209c_219 : h209c.1 66 71 = h35_.1 66 71 := g209c.1 66 71 (by decide)
                    have g220 : 0 ≤ (h209c.1 66 69) ∧ (h209c.1 66 69) ≤ 2400 := i209c.1 66 69
                    have g221 : 0 ≤ (h209c.1 66 70) ∧ (h209c.1 66 70) ≤ 520 := i209c.1 66 70
                    have zd1 := y209_0.1.2.2.2.2.2
                    have zd2 := y209_0.2.1
                    clear y209_1
                    refine mm_aload_n C (mm_dec dk_X12_expression 112 rfl) rfl ?_
                    refine mm_aload_n C (mm_dec dk_X12_expression 113 rfl) rfl ?_
                    refine mm_bipush C (mm_dec dk_X12_expression 114 rfl) ⟨by decide, by decide⟩ ?_
                    refine mm_cVi (rest := [mR 66]) C1 ev_X12_429 (mm_dec dk_X12_expression 115 rfl) (c_X12_isSign x.2.1 hl (d - 1) (by omega) h209c i209c 43) rfl rfl (Nat.le_of_ble_eq_true rfl) ⟨by decide, by decide⟩ rfl (fun r216 h216c hp216 => ?_) (fun _ _ q => q.elim)
                    obtain ⟨z216, y216⟩ := hp216
                    rw [z216]
                    have J229 : ∀ (s229_1 : Int) (bs229_1 : 9 ≤ s229_1 ∧ s229_1 ≤ 10) (vs229_1 : (r216 ≠ 0 ∧ s229_1 = 9) ∨ (r216 = 0 ∧ s229_1 = 10)), mm_W x 0 0 229 [mR 66, mI (h.1 66 69), mI x35_2, mU] [mI s229_1, mR 66] h209c := by
                      intro s229_1 bs229_1 vs229_1
                      refine mm_cVv (rest := []) C1 ev_X12_432 (mm_dec dk_X12_expression 120 rfl) (c_X12_waitsFor_x x.2.1 hl (d - 1) (by omega) h209c i209c s229_1 (by omega)) rfl rfl (Nat.le_of_ble_eq_true rfl) ⟨by decide, by decide⟩ rfl (fun h229c hp229 => ?_) (fun _ _ q => q.elim)
                      obtain ⟨i229c, g229c, y229_0, y229_1⟩ := hp229
                      have f229c : mm_fr [(66, 57), (66, 58), (66, 60), (66, 61), (66, 62), (66, 63), (66, 64), (66, 65), (66, 66), (66, 69), (66, 70), (66, 71)] [107, 108, 109] h h229c := mm_fr_tr f209c g229c (by decide +kernel)
                      have q229c_224 : h229c.1 66 57 = h209c.1 66 57 := g229c.1 66 57 (by decide)
                      have q229c_225 : h229c.1 66 58 = h209c.1 66 58 := g229c.1 66 58 (by decide)
                      have q229c_226 : h229c.1 66 60 = h209c.1 66 60 := g229c.1 66 60 (by decide)
                      have q229c_227 : h229c.1 66 61 = h209c.1 66 61 := g229c.1 66 61 (by decide)
                      have q229c_228 : h229c.1 66 62 = h209c.1 66 62 := g229c.1 66 62 (by decide)
                      have q229c_229 : h229c.1 66 65 = h209c.1 66 65 := g229c.1 66 65 (by decide)
                      have q229c_230 : h229c.1 66 69 = h209c.1 66 69 := g229c.1 66 69 (by decide)
                      have q229c_231 : h229c.1 66 71 = h209c.1 66 71 := g229c.1 66 71 (by decide)
                      have g232 : 0 ≤ (h229c.1 66 70) ∧ (h229c.1 66 70) ≤ 520 := i229c.1 66 70
                      clear vs229_1
                      refine mm_aload_n C (mm_dec dk_X12_expression 121 rfl) rfl ?_
                      refine mm_cVv (rest := []) C1 ev_X12_423 (mm_dec dk_X12_expression 122 rfl) (c_X12_goes_q x.2.1 hl (d - 1) (by omega) h229c i229c ) rfl rfl (Nat.le_of_ble_eq_true rfl) ⟨by decide, by decide⟩ rfl (fun h233c hp233 => ?_) (fun _ _ q => q.elim)
                      obtain ⟨i233c, g233c, y233_0, y233_1, y233_2, y233_3, y233_4⟩ := hp233
                      have f233c : mm_fr [(66, 57), (66, 58), (66, 60), (66, 61), (66, 62), (66, 63), (66, 64), (66, 65), (66, 66), (66, 69), (66, 70), (66, 71)] [107, 108, 109] h h233c := mm_fr_tr f229c g233c (by decide +kernel)
                      have q233c_234 : h233c.1 66 57 = h229c.1 66 57 := g233c.1 66 57 (by decide)
                      have q233c_235 : h233c.1 66 58 = h229c.1 66 58 := g233c.1 66 58 (by decide)
                      have q233c_236 : h233c.1 66 69 = h229c.1 66 69 := g233c.1 66 69 (by decide)
                      have q233c_237 : h233c.1 66 70 = h229c.1 66 70 := g233c.1 66 70 (by decide)
                      have q233c_238 : h233c.1 66 71 = h229c.1 66 71 := g233c.1 66 71 (by decide)
                      have g239 : 0 ≤ (h233c.1 66 62) ∧ (h233c.1 66 62) ≤ 500 := i233c.1 66 62
                      have g240 : 0 ≤ (h233c.1 66 60) ∧ (h233c.1 66 60) ≤ 500 := i233c.1 66 60
                      have g241 : -2147483648 ≤ (h233c.1 66 61) ∧ (h233c.1 66 61) ≤ 2147483647 := i233c.1 66 61
                      have g242 : -2147483648 ≤ (h233c.1 66 65) ∧ (h233c.1 66 65) ≤ 2147483647 := i233c.1 66 65
                      have zE := mm_e_op w35_0 i209c (by omega) (by omega) y209_0 g209c ⟨by omega, by omega⟩ y229_0 y229_1 g229c ⟨rfl, fun _ _ => rfl⟩ g233c y233_0 y233_1 y233_2
                      have zb := zE.1.2.2.1
                      have zw := zE.1.2.2.2.2.2
                      have zl := zE.2.2.2.2.1
                      have ze9 := mm_eY_tr (mm_eY_fr g209c (by decide)) (mm_eY_fr g229c (by decide))
                      have zs9 := mm_st9_of (mm_eY_a ze9 w35_1.2.1) y233_3 y233_4 g233c (by decide)
                      have zk9 : mm_kY h229c = mm_kY h35_ := mm_kY_eq (fun j => (g229c.2 109 (by decide) j).trans (g209c.2 109 (by decide) j)) (by omega)
                      refine mm_aload_n C (mm_dec dk_X12_expression 123 rfl) rfl ?_
                      refine mm_iconst C (mm_dec dk_X12_expression 124 rfl) ⟨by decide, by decide⟩ ?_
                      refine mm_cVv (rest := []) C1 ev_X12_441 (mm_dec dk_X12_expression 125 rfl) (c_X12_operand_q x.2.1 hl (d - 1) (by omega) h233c i233c 0 ⟨by omega, by omega⟩ (by first | exact y233_3 | exact zE.2.1 | exact fun _ => zE.2.2.2.1 | omega) (by first | exact y233_3 | exact zE.2.1 | exact fun _ => zE.2.2.2.1 | omega) (by first | exact y233_3 | exact zE.2.1 | exact fun _ => zE.2.2.2.1 | omega) (by first | exact y233_3 | exact zE.2.1 | exact fun _ => zE.2.2.2.1 | omega) (by first | exact y233_3 | exact zE.2.1 | exact fun _ => zE.2.2.2.1 | omega)) rfl rfl (Nat.le_of_ble_eq_true rfl) ⟨by decide, by decide⟩ rfl (fun h238c hp238 => ?_) (fun _ _ q => q.elim)
                      obtain ⟨i238c, g238c, y238_0, y238_1, y238_2⟩ := hp238
                      have f238c : mm_fr [(66, 57), (66, 58), (66, 60), (66, 61), (66, 62), (66, 63), (66, 64), (66, 65), (66, 66), (66, 69), (66, 70), (66, 71)] [107, 108, 109] h h238c := mm_fr_tr f233c g238c (by decide +kernel)
                      have g244 : -2147483648 ≤ (h238c.1 66 57) ∧ (h238c.1 66 57) ≤ 2147483647 := i238c.1 66 57
                      have g245 : 0 ≤ (h238c.1 66 69) ∧ (h238c.1 66 69) ≤ 2400 := i238c.1 66 69
                      have g246 : 0 ≤ (h238c.1 66 70) ∧ (h238c.1 66 70) ≤ 520 := i238c.1 66 70
                      have g247 : 0 ≤ (h238c.1 66 62) ∧ (h238c.1 66 62) ≤ 500 := i238c.1 66 62
                      have g248 : 0 ≤ (h238c.1 66 60) ∧ (h238c.1 66 60) ≤ 500 := i238c.1 66 60
                      have g249 : -2147483648 ≤ (h238c.1 66 61) ∧ (h238c.1 66 61) ≤ 2147483647 := i238c.1 66 61
                      have g250 : 0 ≤ (h238c.1 66 71) ∧ (h238c.1 66 71) ≤ 6 := i238c.1 66 71
                      have g251 : -2147483648 ≤ (h238c.1 66 58) ∧ (h238c.1 66 58) ≤ 2147483647 := i238c.1 66 58
                      have g252 : -2147483648 ≤ (h238c.1 66 65) ∧ (h238c.1 66 65) ≤ 2147483647 := i238c.1 66 65
                      have zF := mm_e_put (p := h.1 66 62) zE y238_0 (by omega)
                      have zG := zF.2
                      refine mm_goto (tgt := 351) C (mm_dec dk_X12_expression 126 rfl) (by decide) ?_
                      exact J351 x35_2 ⟨by omega, by omega⟩ h238c i238c f238c (by first | exact zF.1 | exact w35_0) (by omega) (by omega) (by first | exact mm_I35_op zI1 (by omega) ze9 ⟨by omega, by omega⟩ zs9 ⟨by omega, by omega⟩ (mm_kY_eq (g101c.2 109 (by decide)) (g101c.1 66 71 (by decide))) (fun i r P => mm_st_and zca zu9 (by omega) zdd) y106_1 (fun q => by have z9 := (y106_0.2.2.1 q).2; omega) (by omega) | exact mm_I35_op zI1 (by omega) ze9 ⟨by omega, by omega⟩ zs9 ⟨by omega, by omega⟩ (mm_kY_eq (g178c.2 109 (by decide)) (g178c.1 66 71 (by decide))) (fun i r P => mm_st_lt w130_1 (by omega) zu9 (by omega) zdd) y183_1 (fun q => by have z9 := (y183_0.2.2.1 q).2; omega) (by omega) | exact mm_I35_op zI1 (by omega) ze9 ⟨by omega, by omega⟩ zs9 ⟨by omega, by omega⟩ (mm_kY_eq (g233c.2 109 (by decide)) (g233c.1 66 71 (by decide))) (fun i r P => mm_st_op (by omega) zk9 zdd) y238_1 (fun q => by have z9 := (y238_0.2.2.1 q).2; omega) (by omega) | exact mm_I35_op zI1 (by omega) ze9 ⟨by omega, by omega⟩ zs9 ⟨by omega, by omega⟩ (mm_kY_eq (g289c.2 109 (by decide)) (g289c.1 66 71 (by decide))) (fun i r P => mm_st_op (by omega) zk9 zdd) y294_1 (fun q => by have z9 := (y294_0.2.2.1 q).2; omega) (by omega) | exact mm_I35_close zI1 (by omega) zc41 ze9 ⟨by omega, by omega⟩ z109 (by omega) (by omega) zs9 ⟨by omega, by omega⟩ (mm_kY_eq (g343c.2 109 (by decide)) (g343c.1 66 71 (by decide))) (by omega) (by omega) | exact mm_I35_out zI1 (fun _ => ⟨w349_0, w349_1⟩)) (by omega)
                    clear y216
                    refine mm_if_eq (tgt := 227) C (mm_dec dk_X12_expression 116 rfl) (by decide) (fun c219 => ?_) (fun c219 => ?_)
                    · skip
                      refine mm_bipush C (mm_dec dk_X12_expression 119 rfl) ⟨by decide, by decide⟩ ?_
                      exact J229 10 ⟨by omega, by omega⟩ (Or.inr (⟨by omega, rfl⟩))
                    · skip
                      refine mm_bipush C (mm_dec dk_X12_expression 117 rfl) ⟨by decide, by decide⟩ ?_
                      refine mm_goto (tgt := 229) C (mm_dec dk_X12_expression 118 rfl) (by decide) ?_
                      exact J229 9 ⟨by omega, by omega⟩ (Or.inl ⟨by omega, rfl⟩)
                  have hs192 : mm_hs9 h35_ r192 143 := mm_sgn9 tf35 (by decide) (by decide) y192
                  clear y192
                  refine mm_if_ne (tgt := 207) C (mm_dec dk_X12_expression 104 rfl) (by decide) (fun c195 => ?_) (fun c195 => ?_)
                  · skip
                    exact J207 (by first | exact (mm_hs9_y hs192 c195).1 | exact (mm_hs9_y hs201 c204).1) (by first | exact Or.inl (mm_hs9_y hs192 c195).2 | exact Or.inr (mm_hs9_y hs201 c204).2)
                  · skip
                    refine mm_aload_n C (mm_dec dk_X12_expression 105 rfl) rfl ?_
                    refine mm_bipush C (mm_dec dk_X12_expression 106 rfl) ⟨by decide, by decide⟩ ?_
                    refine mm_cVi (rest := []) C1 ev_X12_429 (mm_dec dk_X12_expression 107 rfl) (c_X12_isSign x.2.1 hl (d - 1) (by omega) h35_ i35_ 45) rfl rfl (Nat.le_of_ble_eq_true rfl) ⟨by decide, by decide⟩ rfl (fun r201 h201c hp201 => ?_) (fun _ _ q => q.elim)
                    obtain ⟨z201, y201⟩ := hp201
                    rw [z201]
                    have hs201 : mm_hs9 h35_ r201 145 := mm_sgn9 tf35 (by decide) (by decide) y201
                    clear y201
                    refine mm_if_eq (tgt := 244) C (mm_dec dk_X12_expression 108 rfl) (by decide) (fun c204 => ?_) (fun c204 => ?_)
                    · skip
                      refine mm_aload_n C (mm_dec dk_X12_expression 127 rfl) rfl ?_
                      refine mm_bipush C (mm_dec dk_X12_expression 128 rfl) ⟨by decide, by decide⟩ ?_
                      refine mm_cVi (rest := []) C1 ev_X12_429 (mm_dec dk_X12_expression 129 rfl) (c_X12_isSign x.2.1 hl (d - 1) (by omega) h35_ i35_ 42) rfl rfl (Nat.le_of_ble_eq_true rfl) ⟨by decide, by decide⟩ rfl (fun r247 h247c hp247 => ?_) (fun _ _ q => q.elim)
                      obtain ⟨z247, y247⟩ := hp247
                      rw [z247]
                      have J262 : ∀ (w262_0 : h35_.1 66 61 = 3) (w262_1 : (mm_cY h35_ = 142 ∨ mm_cY h35_ = 147)), mm_W x 0 0 262 [mR 66, mI (h.1 66 69), mI x35_2, mU] [] h35_ := by
                        intro w262_0 w262_1
                        have g255 : -2147483648 ≤ h35_.1 66 57 ∧ h35_.1 66 57 ≤ 2147483647 := i35_.1 66 57
                        have g256 : 0 ≤ h35_.1 66 69 ∧ h35_.1 66 69 ≤ 2400 := i35_.1 66 69
                        have g257 : 0 ≤ h35_.1 66 70 ∧ h35_.1 66 70 ≤ 520 := i35_.1 66 70
                        have g258 : 0 ≤ h35_.1 66 62 ∧ h35_.1 66 62 ≤ 500 := i35_.1 66 62
                        have g259 : 0 ≤ h35_.1 66 60 ∧ h35_.1 66 60 ≤ 500 := i35_.1 66 60
                        have g260 : -2147483648 ≤ h35_.1 66 61 ∧ h35_.1 66 61 ≤ 2147483647 := i35_.1 66 61
                        have g261 : 0 ≤ h35_.1 66 71 ∧ h35_.1 66 71 ≤ 6 := i35_.1 66 71
                        have g262 : -2147483648 ≤ h35_.1 66 58 ∧ h35_.1 66 58 ≤ 2147483647 := i35_.1 66 58
                        have g263 : -2147483648 ≤ h35_.1 66 65 ∧ h35_.1 66 65 ≤ 2147483647 := i35_.1 66 65
                        refine mm_aload_n C (mm_dec dk_X12_expression 135 rfl) rfl ?_
                        refine mm_bipush C (mm_dec dk_X12_expression 136 rfl) ⟨by decide, by decide⟩ ?_
                        refine mm_cVv (rest := []) C1 ev_X12_445 (mm_dec dk_X12_expression 137 rfl) (c_X12_drops x.2.1 hl (d - 1) (by omega) h35_ i35_ 6 (by omega) (by omega)) rfl rfl (Nat.le_of_ble_eq_true rfl) ⟨by decide, by decide⟩ rfl (fun h265c hp265 => ?_) (fun _ _ q => q.elim)
                        obtain ⟨i265c, g265c, y265_0, y265_1⟩ := hp265
                        have f265c : mm_fr [(66, 57), (66, 58), (66, 60), (66, 61), (66, 62), (66, 63), (66, 64), (66, 65), (66, 66), (66, 69), (66, 70), (66, 71)] [107, 108, 109] h h265c := mm_fr_tr f35_ g265c (by decide +kernel)
                        have q265c_265 : h265c.1 66 57 = h35_.1 66 57 := g265c.1 66 57 (by decide)
                        have q265c_266 : h265c.1 66 58 = h35_.1 66 58 := g265c.1 66 58 (by decide)
                        have q265c_267 : h265c.1 66 60 = h35_.1 66 60 := g265c.1 66 60 (by decide)
                        have q265c_268 : h265c.1 66 61 = h35_.1 66 61 := g265c.1 66 61 (by decide)
                        have q265c_269 : h265c.1 66 62 = h35_.1 66 62 := g265c.1 66 62 (by decide)
                        have q265c_270 : h265c.1 66 65 = h35_.1 66 65 := g265c.1 66 65 (by decide)
                        have q265c_271 : h265c.1 66 71 = h35_.1 66 71 := g265c.1 66 71 (by decide)
                        have g272 : 0 ≤ (h265c.1 66 69) ∧ (h265c.1 66 69) ≤ 2400 := i265c.1 66 69
                        have g273 : 0 ≤ (h265c.1 66 70) ∧ (h265c.1 66 70) ≤ 520 := i265c.1 66 70
                        have zd1 := y265_0.1.2.2.2.2.2
                        have zd2 := y265_0.2.1
                        clear y265_1
                        refine mm_aload_n C (mm_dec dk_X12_expression 138 rfl) rfl ?_
                        refine mm_aload_n C (mm_dec dk_X12_expression 139 rfl) rfl ?_
                        refine mm_bipush C (mm_dec dk_X12_expression 140 rfl) ⟨by decide, by decide⟩ ?_
                        refine mm_cVi (rest := [mR 66]) C1 ev_X12_429 (mm_dec dk_X12_expression 141 rfl) (c_X12_isSign x.2.1 hl (d - 1) (by omega) h265c i265c 42) rfl rfl (Nat.le_of_ble_eq_true rfl) ⟨by decide, by decide⟩ rfl (fun r272 h272c hp272 => ?_) (fun _ _ q => q.elim)
                        obtain ⟨z272, y272⟩ := hp272
                        rw [z272]
                        have J285 : ∀ (s285_1 : Int) (bs285_1 : 11 ≤ s285_1 ∧ s285_1 ≤ 12) (vs285_1 : (r272 ≠ 0 ∧ s285_1 = 11) ∨ (r272 = 0 ∧ s285_1 = 12)), mm_W x 0 0 285 [mR 66, mI (h.1 66 69), mI x35_2, mU] [mI s285_1, mR 66] h265c := by
                          intro s285_1 bs285_1 vs285_1
                          refine mm_cVv (rest := []) C1 ev_X12_432 (mm_dec dk_X12_expression 146 rfl) (c_X12_waitsFor_x x.2.1 hl (d - 1) (by omega) h265c i265c s285_1 (by omega)) rfl rfl (Nat.le_of_ble_eq_true rfl) ⟨by decide, by decide⟩ rfl (fun h285c hp285 => ?_) (fun _ _ q => q.elim)
                          obtain ⟨i285c, g285c, y285_0, y285_1⟩ := hp285
                          have f285c : mm_fr [(66, 57), (66, 58), (66, 60), (66, 61), (66, 62), (66, 63), (66, 64), (66, 65), (66, 66), (66, 69), (66, 70), (66, 71)] [107, 108, 109] h h285c := mm_fr_tr f265c g285c (by decide +kernel)
                          have q285c_276 : h285c.1 66 57 = h265c.1 66 57 := g285c.1 66 57 (by decide)
                          have q285c_277 : h285c.1 66 58 = h265c.1 66 58 := g285c.1 66 58 (by decide)
                          have q285c_278 : h285c.1 66 60 = h265c.1 66 60 := g285c.1 66 60 (by decide)
                          have q285c_279 : h285c.1 66 61 = h265c.1 66 61 := g285c.1 66 61 (by decide)
                          have q285c_280 : h285c.1 66 62 = h265c.1 66 62 := g285c.1 66 62 (by decide)
                          have q285c_281 : h285c.1 66 65 = h265c.1 66 65 := g285c.1 66 65 (by decide)
                          have q285c_282 : h285c.1 66 69 = h265c.1 66 69 := g285c.1 66 69 (by decide)
                          have q285c_283 : h285c.1 66 71 = h265c.1 66 71 := g285c.1 66 71 (by decide)
                          have g284 : 0 ≤ (h285c.1 66 70) ∧ (h285c.1 66 70) ≤ 520 := i285c.1 66 70
                          clear vs285_1
                          refine mm_aload_n C (mm_dec dk_X12_expression 147 rfl) rfl ?_
                          refine mm_cVv (rest := []) C1 ev_X12_423 (mm_dec dk_X12_expression 148 rfl) (c_X12_goes_q x.2.1 hl (d - 1) (by omega) h285c i285c ) rfl rfl (Nat.le_of_ble_eq_true rfl) ⟨by decide, by decide⟩ rfl (fun h289c hp289 => ?_) (fun _ _ q => q.elim)
                          obtain ⟨i289c, g289c, y289_0, y289_1, y289_2, y289_3, y289_4⟩ := hp289
                          have f289c : mm_fr [(66, 57), (66, 58), (66, 60), (66, 61), (66, 62), (66, 63), (66, 64), (66, 65), (66, 66), (66, 69), (66, 70), (66, 71)] [107, 108, 109] h h289c := mm_fr_tr f285c g289c (by decide +kernel)
                          have q289c_286 : h289c.1 66 57 = h285c.1 66 57 := g289c.1 66 57 (by decide)
                          have q289c_287 : h289c.1 66 58 = h285c.1 66 58 := g289c.1 66 58 (by decide)
                          have q289c_288 : h289c.1 66 69 = h285c.1 66 69 := g289c.1 66 69 (by decide)
                          have q289c_289 : h289c.1 66 70 = h285c.1 66 70 := g289c.1 66 70 (by decide)
                          have q289c_290 : h289c.1 66 71 = h285c.1 66 71 := g289c.1 66 71 (by decide)
                          have g291 : 0 ≤ (h289c.1 66 62) ∧ (h289c.1 66 62) ≤ 500 := i289c.1 66 62
                          have g292 : 0 ≤ (h289c.1 66 60) ∧ (h289c.1 66 60) ≤ 500 := i289c.1 66 60
                          have g293 : -2147483648 ≤ (h289c.1 66 61) ∧ (h289c.1 66 61) ≤ 2147483647 := i289c.1 66 61
                          have g294 : -2147483648 ≤ (h289c.1 66 65) ∧ (h289c.1 66 65) ≤ 2147483647 := i289c.1 66 65
                          have zE := mm_e_op w35_0 i265c (by omega) (by omega) y265_0 g265c ⟨by omega, by omega⟩ y285_0 y285_1 g285c ⟨rfl, fun _ _ => rfl⟩ g289c y289_0 y289_1 y289_2
                          have zb := zE.1.2.2.1
                          have zw := zE.1.2.2.2.2.2
                          have zl := zE.2.2.2.2.1
                          have ze9 := mm_eY_tr (mm_eY_fr g265c (by decide)) (mm_eY_fr g285c (by decide))
                          have zs9 := mm_st9_of (mm_eY_a ze9 w35_1.2.1) y289_3 y289_4 g289c (by decide)
                          have zk9 : mm_kY h285c = mm_kY h35_ := mm_kY_eq (fun j => (g285c.2 109 (by decide) j).trans (g265c.2 109 (by decide) j)) (by omega)
                          refine mm_aload_n C (mm_dec dk_X12_expression 149 rfl) rfl ?_
                          refine mm_iconst C (mm_dec dk_X12_expression 150 rfl) ⟨by decide, by decide⟩ ?_
                          refine mm_cVv (rest := []) C1 ev_X12_441 (mm_dec dk_X12_expression 151 rfl) (c_X12_operand_q x.2.1 hl (d - 1) (by omega) h289c i289c 0 ⟨by omega, by omega⟩ (by first | exact y289_3 | exact zE.2.1 | exact fun _ => zE.2.2.2.1 | omega) (by first | exact y289_3 | exact zE.2.1 | exact fun _ => zE.2.2.2.1 | omega) (by first | exact y289_3 | exact zE.2.1 | exact fun _ => zE.2.2.2.1 | omega) (by first | exact y289_3 | exact zE.2.1 | exact fun _ => zE.2.2.2.1 | omega) (by first | exact y289_3 | exact zE.2.1 | exact fun _ => zE.2.2.2.1 | omega)) rfl rfl (Nat.le_of_ble_eq_true rfl) ⟨by decide, by decide⟩ rfl (fun h294c hp294 => ?_) (fun _ _ q => q.elim)
                          obtain ⟨i294c, g294c, y294_0, y294_1, y294_2⟩ := hp294
                          have f294c : mm_fr [(66, 57), (66, 58), (66, 60), (66, 61), (66, 62), (66, 63), (66, 64), (66, 65), (66, 66), (66, 69), (66, 70), (66, 71)] [107, 108, 109] h h294c := mm_fr_tr f289c g294c (by decide +kernel)
                          have g296 : -2147483648 ≤ (h294c.1 66 57) ∧ (h294c.1 66 57) ≤ 2147483647 := i294c.1 66 57
                          have g297 : 0 ≤ (h294c.1 66 69) ∧ (h294c.1 66 69) ≤ 2400 := i294c.1 66 69
                          have g298 : 0 ≤ (h294c.1 66 70) ∧ (h294c.1 66 70) ≤ 520 := i294c.1 66 70
                          have g299 : 0 ≤ (h294c.1 66 62) ∧ (h294c.1 66 62) ≤ 500 := i294c.1 66 62
                          have g300 : 0 ≤ (h294c.1 66 60) ∧ (h294c.1 66 60) ≤ 500 := i294c.1 66 60
                          have g301 : -2147483648 ≤ (h294c.1 66 61) ∧ (h294c.1 66 61) ≤ 2147483647 := i294c.1 66 61
                          have g302 : 0 ≤ (h294c.1 66 71) ∧ (h294c.1 66 71) ≤ 6 := i294c.1 66 71
                          have g303 : -2147483648 ≤ (h294c.1 66 58) ∧ (h294c.1 66 58) ≤ 2147483647 := i294c.1 66 58
                          have g304 : -2147483648 ≤ (h294c.1 66 65) ∧ (h294c.1 66 65) ≤ 2147483647 := i294c.1 66 65
                          have zF := mm_e_put (p := h.1 66 62) zE y294_0 (by omega)
                          have zG := zF.2
                          refine mm_goto (tgt := 351) C (mm_dec dk_X12_expression 152 rfl) (by decide) ?_
                          exact J351 x35_2 ⟨by omega, by omega⟩ h294c i294c f294c (by first | exact zF.1 | exact w35_0) (by omega) (by omega) (by first | exact mm_I35_op zI1 (by omega) ze9 ⟨by omega, by omega⟩ zs9 ⟨by omega, by omega⟩ (mm_kY_eq (g101c.2 109 (by decide)) (g101c.1 66 71 (by decide))) (fun i r P => mm_st_and zca zu9 (by omega) zdd) y106_1 (fun q => by have z9 := (y106_0.2.2.1 q).2; omega) (by omega) | exact mm_I35_op zI1 (by omega) ze9 ⟨by omega, by omega⟩ zs9 ⟨by omega, by omega⟩ (mm_kY_eq (g178c.2 109 (by decide)) (g178c.1 66 71 (by decide))) (fun i r P => mm_st_lt w130_1 (by omega) zu9 (by omega) zdd) y183_1 (fun q => by have z9 := (y183_0.2.2.1 q).2; omega) (by omega) | exact mm_I35_op zI1 (by omega) ze9 ⟨by omega, by omega⟩ zs9 ⟨by omega, by omega⟩ (mm_kY_eq (g233c.2 109 (by decide)) (g233c.1 66 71 (by decide))) (fun i r P => mm_st_op (by omega) zk9 zdd) y238_1 (fun q => by have z9 := (y238_0.2.2.1 q).2; omega) (by omega) | exact mm_I35_op zI1 (by omega) ze9 ⟨by omega, by omega⟩ zs9 ⟨by omega, by omega⟩ (mm_kY_eq (g289c.2 109 (by decide)) (g289c.1 66 71 (by decide))) (fun i r P => mm_st_op (by omega) zk9 zdd) y294_1 (fun q => by have z9 := (y294_0.2.2.1 q).2; omega) (by omega) | exact mm_I35_close zI1 (by omega) zc41 ze9 ⟨by omega, by omega⟩ z109 (by omega) (by omega) zs9 ⟨by omega, by omega⟩ (mm_kY_eq (g343c.2 109 (by decide)) (g343c.1 66 71 (by decide))) (by omega) (by omega) | exact mm_I35_out zI1 (fun _ => ⟨w349_0, w349_1⟩)) (by omega)
                        clear y272
                        refine mm_if_eq (tgt := 283) C (mm_dec dk_X12_expression 142 rfl) (by decide) (fun c275 => ?_) (fun c275 => ?_)
                        · skip
                          refine mm_bipush C (mm_dec dk_X12_expression 145 rfl) ⟨by decide, by decide⟩ ?_
                          exact J285 12 ⟨by omega, by omega⟩ (Or.inr (⟨by omega, rfl⟩))
                        · skip
                          refine mm_bipush C (mm_dec dk_X12_expression 143 rfl) ⟨by decide, by decide⟩ ?_
                          refine mm_goto (tgt := 285) C (mm_dec dk_X12_expression 144 rfl) (by decide) ?_
                          exact J285 11 ⟨by omega, by omega⟩ (Or.inl ⟨by omega, rfl⟩)
                      have hs247 : mm_hs9 h35_ r247 142 := mm_sgn9 tf35 (by decide) (by decide) y247
                      clear y247
                      refine mm_if_ne (tgt := 262) C (mm_dec dk_X12_expression 130 rfl) (by decide) (fun c250 => ?_) (fun c250 => ?_)
                      · skip
                        exact J262 (by first | exact (mm_hs9_y hs247 c250).1 | exact (mm_hs9_y hs256 c259).1) (by first | exact Or.inl (mm_hs9_y hs247 c250).2 | exact Or.inr (mm_hs9_y hs256 c259).2)
                      · skip
                        refine mm_aload_n C (mm_dec dk_X12_expression 131 rfl) rfl ?_
                        refine mm_bipush C (mm_dec dk_X12_expression 132 rfl) ⟨by decide, by decide⟩ ?_
                        refine mm_cVi (rest := []) C1 ev_X12_429 (mm_dec dk_X12_expression 133 rfl) (c_X12_isSign x.2.1 hl (d - 1) (by omega) h35_ i35_ 47) rfl rfl (Nat.le_of_ble_eq_true rfl) ⟨by decide, by decide⟩ rfl (fun r256 h256c hp256 => ?_) (fun _ _ q => q.elim)
                        obtain ⟨z256, y256⟩ := hp256
                        rw [z256]
                        have hs256 : mm_hs9 h35_ r256 147 := mm_sgn9 tf35 (by decide) (by decide) y256
                        clear y256
                        refine mm_if_eq (tgt := 300) C (mm_dec dk_X12_expression 134 rfl) (by decide) (fun c259 => ?_) (fun c259 => ?_)
                        · skip
                          refine mm_aload_n C (mm_dec dk_X12_expression 153 rfl) rfl ?_
                          refine mm_bipush C (mm_dec dk_X12_expression 154 rfl) ⟨by decide, by decide⟩ ?_
                          refine mm_cVi (rest := []) C1 ev_X12_429 (mm_dec dk_X12_expression 155 rfl) (c_X12_isSign x.2.1 hl (d - 1) (by omega) h35_ i35_ 41) rfl rfl (Nat.le_of_ble_eq_true rfl) ⟨by decide, by decide⟩ rfl (fun r303 h303c hp303 => ?_) (fun _ _ q => q.elim)
                          obtain ⟨z303, y303⟩ := hp303
                          rw [z303]
                          have J349 : ∀ (w349_0 : mm_nF (mm_cY h35_) (h35_.2.1 109 (h35_.1 66 71))) (w349_1 : (mm_cY h35_ ≠ 141 ∨ h35_.1 66 71 ≤ 1)), mm_W x 0 0 349 [mR 66, mI (h.1 66 69), mU, mU] [] h35_ := by
                            intro w349_0 w349_1
                            have g307 : -2147483648 ≤ h35_.1 66 57 ∧ h35_.1 66 57 ≤ 2147483647 := i35_.1 66 57
                            have g308 : 0 ≤ h35_.1 66 69 ∧ h35_.1 66 69 ≤ 2400 := i35_.1 66 69
                            have g309 : 0 ≤ h35_.1 66 70 ∧ h35_.1 66 70 ≤ 520 := i35_.1 66 70
                            have g310 : 0 ≤ h35_.1 66 62 ∧ h35_.1 66 62 ≤ 500 := i35_.1 66 62
                            have g311 : 0 ≤ h35_.1 66 60 ∧ h35_.1 66 60 ≤ 500 := i35_.1 66 60
                            have g312 : -2147483648 ≤ h35_.1 66 61 ∧ h35_.1 66 61 ≤ 2147483647 := i35_.1 66 61
                            have g313 : 0 ≤ h35_.1 66 71 ∧ h35_.1 66 71 ≤ 6 := i35_.1 66 71
                            have g314 : -2147483648 ≤ h35_.1 66 58 ∧ h35_.1 66 58 ≤ 2147483647 := i35_.1 66 58
                            have g315 : -2147483648 ≤ h35_.1 66 65 ∧ h35_.1 66 65 ≤ 2147483647 := i35_.1 66 65
                            refine mm_iconst C (mm_dec dk_X12_expression 179 rfl) ⟨by decide, by decide⟩ ?_
                            refine mm_istore_nL (ls2 := [mR 66, mI (h.1 66 69), mI 0, mU]) C (mm_dec dk_X12_expression 180 rfl) (by decide) rfl ?_
                            exact J351 0 ⟨by omega, by omega⟩ h35_ i35_ f35_ (by first | exact zF.1 | exact w35_0) (by omega) (by omega) (by first | exact mm_I35_op zI1 (by omega) ze9 ⟨by omega, by omega⟩ zs9 ⟨by omega, by omega⟩ (mm_kY_eq (g101c.2 109 (by decide)) (g101c.1 66 71 (by decide))) (fun i r P => mm_st_and zca zu9 (by omega) zdd) y106_1 (fun q => by have z9 := (y106_0.2.2.1 q).2; omega) (by omega) | exact mm_I35_op zI1 (by omega) ze9 ⟨by omega, by omega⟩ zs9 ⟨by omega, by omega⟩ (mm_kY_eq (g178c.2 109 (by decide)) (g178c.1 66 71 (by decide))) (fun i r P => mm_st_lt w130_1 (by omega) zu9 (by omega) zdd) y183_1 (fun q => by have z9 := (y183_0.2.2.1 q).2; omega) (by omega) | exact mm_I35_op zI1 (by omega) ze9 ⟨by omega, by omega⟩ zs9 ⟨by omega, by omega⟩ (mm_kY_eq (g233c.2 109 (by decide)) (g233c.1 66 71 (by decide))) (fun i r P => mm_st_op (by omega) zk9 zdd) y238_1 (fun q => by have z9 := (y238_0.2.2.1 q).2; omega) (by omega) | exact mm_I35_op zI1 (by omega) ze9 ⟨by omega, by omega⟩ zs9 ⟨by omega, by omega⟩ (mm_kY_eq (g289c.2 109 (by decide)) (g289c.1 66 71 (by decide))) (fun i r P => mm_st_op (by omega) zk9 zdd) y294_1 (fun q => by have z9 := (y294_0.2.2.1 q).2; omega) (by omega) | exact mm_I35_close zI1 (by omega) zc41 ze9 ⟨by omega, by omega⟩ z109 (by omega) (by omega) zs9 ⟨by omega, by omega⟩ (mm_kY_eq (g343c.2 109 (by decide)) (g343c.1 66 71 (by decide))) (by omega) (by omega) | exact mm_I35_out zI1 (fun _ => ⟨w349_0, w349_1⟩)) (by omega)
                          have hs303 : mm_hs9 h35_ r303 141 := mm_sgn9 tf35 (by decide) (by decide) y303
                          clear y303
                          refine mm_if_eq (tgt := 349) C (mm_dec dk_X12_expression 156 rfl) (by decide) (fun c306 => ?_) (fun c306 => ?_)
                          · skip
                            refine mm_fgt 2 ?_
                            exact J349 (by (unfold mm_nF; exact ⟨(mm_hq9x zcn).1, (mm_hq9x zcn).2, mm_hs9_n hs192 c195, mm_hs9_n hs201 c204, mm_hs9_n hs247 c250, mm_hs9_n hs256 c259, mm_hq9x w189_0⟩)) (by first | exact Or.inl (mm_hs9_n hs303 c306) | exact Or.inr c314)
                          · skip
                            have zs3 : h35_.1 66 61 = 3 := (mm_hs9_y hs303 c306).1
                            have zc41 : mm_cY h35_ = 141 := (mm_hs9_y hs303 c306).2
                            refine mm_aload_n C (mm_dec dk_X12_expression 157 rfl) rfl ?_
                            refine mm_geti C fl_X12_426 (mm_dec dk_X12_expression 158 rfl) rfl rfl (Or.inl rfl) ?_
                            refine mm_iconst C (mm_dec dk_X12_expression 159 rfl) ⟨by decide, by decide⟩ ?_
                            refine mm_icmp_le (tgt := 349) C (mm_dec dk_X12_expression 160 rfl) (by decide) (fun c314 => ?_) (fun c314 => ?_)
                            · skip
                              refine mm_fgt 2 ?_
                              exact J349 (by (unfold mm_nF; exact ⟨(mm_hq9x zcn).1, (mm_hq9x zcn).2, mm_hs9_n hs192 c195, mm_hs9_n hs201 c204, mm_hs9_n hs247 c250, mm_hs9_n hs256 c259, mm_hq9x w189_0⟩)) (by first | exact Or.inl (mm_hs9_n hs303 c306) | exact Or.inr c314)
                            · skip
                              refine mm_aload_n C (mm_dec dk_X12_expression 161 rfl) rfl ?_
                              refine mm_iconst C (mm_dec dk_X12_expression 162 rfl) ⟨by decide, by decide⟩ ?_
                              refine mm_cVv (rest := []) C1 ev_X12_445 (mm_dec dk_X12_expression 163 rfl) (c_X12_drops x.2.1 hl (d - 1) (by omega) h35_ i35_ 0 (by omega) (by omega)) rfl rfl (Nat.le_of_ble_eq_true rfl) ⟨by decide, by decide⟩ rfl (fun h319c hp319 => ?_) (fun _ _ q => q.elim)
                              obtain ⟨i319c, g319c, y319_0, y319_1⟩ := hp319
                              have f319c : mm_fr [(66, 57), (66, 58), (66, 60), (66, 61), (66, 62), (66, 63), (66, 64), (66, 65), (66, 66), (66, 69), (66, 70), (66, 71)] [107, 108, 109] h h319c := mm_fr_tr f35_ g319c (by decide +kernel)
                              have q319c_317 : h319c.1 66 57 = h35_.1 66 57 := g319c.1 66 57 (by decide)
                              have q319c_318 : h319c.1 66 58 = h35_.1 66 58 := g319c.1 66 58 (by decide)
                              have q319c_319 : h319c.1 66 60 = h35_.1 66 60 := g319c.1 66 60 (by decide)
                              have q319c_320 : h319c.1 66 61 = h35_.1 66 61 := g319c.1 66 61 (by decide)
                              have q319c_321 : h319c.1 66 62 = h35_.1 66 62 := g319c.1 66 62 (by decide)
                              have q319c_322 : h319c.1 66 65 = h35_.1 66 65 := g319c.1 66 65 (by decide)
                              have q319c_323 : h319c.1 66 71 = h35_.1 66 71 := g319c.1 66 71 (by decide)
                              have g324 : 0 ≤ (h319c.1 66 69) ∧ (h319c.1 66 69) ≤ 2400 := i319c.1 66 69
                              have g325 : 0 ≤ (h319c.1 66 70) ∧ (h319c.1 66 70) ≤ 520 := i319c.1 66 70
                              have zC := mm_e_close w35_0 i35_ i319c (by omega) (by omega) (by omega) y319_0 g319c (y319_1.resolve_left (by omega))
                              refine mm_aload_n C (mm_dec dk_X12_expression 164 rfl) rfl ?_
                              refine mm_dup C (mm_dec dk_X12_expression 165 rfl) (show (2 : Nat) ≠ 1 by decide) ?_
                              refine mm_geti C fl_X12_404 (mm_dec dk_X12_expression 166 rfl) rfl rfl (Or.inl rfl) ?_
                              refine mm_iconst C (mm_dec dk_X12_expression 167 rfl) ⟨by decide, by decide⟩ ?_
                              refine mm_isub C (mm_dec dk_X12_expression 168 rfl) ⟨by omega, by omega⟩ ?_
                              refine mm_puti C fl_X12_404 (mm_dec dk_X12_expression 169 rfl) rfl rfl rfl (Or.inl ⟨rfl, rfl⟩) ?_
                              have i22 : mm_inv (mm_pf h319c 66 70 ((h319c.1 66 70) - 1)) := mm_inv_pf i319c (show 0 ≤ ((h319c.1 66 70) - 1) ∧ ((h319c.1 66 70) - 1) ≤ 520 from ⟨by omega, by omega⟩) (by decide)
                              have f22 : mm_fr [(66, 57), (66, 58), (66, 60), (66, 61), (66, 62), (66, 63), (66, 64), (66, 65), (66, 66), (66, 69), (66, 70), (66, 71)] [107, 108, 109] h (mm_pf h319c 66 70 ((h319c.1 66 70) - 1)) := mm_fr_pf f319c (by decide)
                              obtain ⟨h22, eh22⟩ : ∃ z, z = mm_pf h319c 66 70 ((h319c.1 66 70) - 1) := ⟨_, rfl⟩
                              rw [← eh22] at i22 f22 ⊢
                              have qh22 : h22.1 66 70 = ((h319c.1 66 70) - 1) := by rw [eh22]; exact mm_pf_same _ _ _ _
                              have qh22_326 : h22.1 66 57 = h319c.1 66 57 := by rw [eh22]; exact mm_pf_ne _ _ (by decide)
                              have qh22_327 : h22.1 66 58 = h319c.1 66 58 := by rw [eh22]; exact mm_pf_ne _ _ (by decide)
                              have qh22_328 : h22.1 66 60 = h319c.1 66 60 := by rw [eh22]; exact mm_pf_ne _ _ (by decide)
                              have qh22_329 : h22.1 66 61 = h319c.1 66 61 := by rw [eh22]; exact mm_pf_ne _ _ (by decide)
                              have qh22_330 : h22.1 66 62 = h319c.1 66 62 := by rw [eh22]; exact mm_pf_ne _ _ (by decide)
                              have qh22_331 : h22.1 66 65 = h319c.1 66 65 := by rw [eh22]; exact mm_pf_ne _ _ (by decide)
                              have qh22_332 : h22.1 66 69 = h319c.1 66 69 := by rw [eh22]; exact mm_pf_ne _ _ (by decide)
                              have qh22_333 : h22.1 66 71 = h319c.1 66 71 := by rw [eh22]; exact mm_pf_ne _ _ (by decide)
                              refine mm_aload_n C (mm_dec dk_X12_expression 170 rfl) rfl ?_
                              refine mm_dup C (mm_dec dk_X12_expression 171 rfl) (show (2 : Nat) ≠ 1 by decide) ?_
                              refine mm_geti C fl_X12_426 (mm_dec dk_X12_expression 172 rfl) rfl rfl (Or.inl rfl) ?_
                              refine mm_iconst C (mm_dec dk_X12_expression 173 rfl) ⟨by decide, by decide⟩ ?_
                              refine mm_isub C (mm_dec dk_X12_expression 174 rfl) ⟨by omega, by omega⟩ ?_
                              refine mm_puti C fl_X12_426 (mm_dec dk_X12_expression 175 rfl) rfl rfl rfl (Or.inl ⟨rfl, rfl⟩) ?_
                              have i23 : mm_inv (mm_pf h22 66 71 ((h22.1 66 71) - 1)) := mm_inv_pf i22 (show 0 ≤ ((h22.1 66 71) - 1) ∧ ((h22.1 66 71) - 1) ≤ 6 from ⟨by omega, by omega⟩) (by decide)
                              have f23 : mm_fr [(66, 57), (66, 58), (66, 60), (66, 61), (66, 62), (66, 63), (66, 64), (66, 65), (66, 66), (66, 69), (66, 70), (66, 71)] [107, 108, 109] h (mm_pf h22 66 71 ((h22.1 66 71) - 1)) := mm_fr_pf f22 (by decide)
                              obtain ⟨h23, eh23⟩ : ∃ z, z = mm_pf h22 66 71 ((h22.1 66 71) - 1) := ⟨_, rfl⟩
                              rw [← eh23] at i23 f23 ⊢
                              have qh23 : h23.1 66 71 = ((h22.1 66 71) - 1) := by rw [eh23]; exact mm_pf_same _ _ _ _
                              have qh23_334 : h23.1 66 57 = h22.1 66 57 := by rw [eh23]; exact mm_pf_ne _ _ (by decide)
                              have qh23_335 : h23.1 66 58 = h22.1 66 58 := by rw [eh23]; exact mm_pf_ne _ _ (by decide)
                              have qh23_336 : h23.1 66 60 = h22.1 66 60 := by rw [eh23]; exact mm_pf_ne _ _ (by decide)
                              have qh23_337 : h23.1 66 61 = h22.1 66 61 := by rw [eh23]; exact mm_pf_ne _ _ (by decide)
                              have qh23_338 : h23.1 66 62 = h22.1 66 62 := by rw [eh23]; exact mm_pf_ne _ _ (by decide)
                              have qh23_339 : h23.1 66 65 = h22.1 66 65 := by rw [eh23]; exact mm_pf_ne _ _ (by decide)
                              have qh23_340 : h23.1 66 69 = h22.1 66 69 := by rw [eh23]; exact mm_pf_ne _ _ (by decide)
                              have qh23_341 : h23.1 66 70 = h22.1 66 70 := by rw [eh23]; exact mm_pf_ne _ _ (by decide)
                              refine mm_aload_n C (mm_dec dk_X12_expression 176 rfl) rfl ?_
                              refine mm_cVv (rest := []) C1 ev_X12_423 (mm_dec dk_X12_expression 177 rfl) (c_X12_goes_q x.2.1 hl (d - 1) (by omega) h23 i23 ) rfl rfl (Nat.le_of_ble_eq_true rfl) ⟨by decide, by decide⟩ rfl (fun h343c hp343 => ?_) (fun _ _ q => q.elim)
                              obtain ⟨i343c, g343c, y343_0, y343_1, y343_2, y343_3, y343_4⟩ := hp343
                              have f343c : mm_fr [(66, 57), (66, 58), (66, 60), (66, 61), (66, 62), (66, 63), (66, 64), (66, 65), (66, 66), (66, 69), (66, 70), (66, 71)] [107, 108, 109] h h343c := mm_fr_tr f23 g343c (by decide +kernel)
                              have q343c_343 : h343c.1 66 57 = h23.1 66 57 := g343c.1 66 57 (by decide)
                              have q343c_344 : h343c.1 66 58 = h23.1 66 58 := g343c.1 66 58 (by decide)
                              have q343c_345 : h343c.1 66 69 = h23.1 66 69 := g343c.1 66 69 (by decide)
                              have q343c_346 : h343c.1 66 70 = h23.1 66 70 := g343c.1 66 70 (by decide)
                              have q343c_347 : h343c.1 66 71 = h23.1 66 71 := g343c.1 66 71 (by decide)
                              have g348 : 0 ≤ (h343c.1 66 62) ∧ (h343c.1 66 62) ≤ 500 := i343c.1 66 62
                              have g349 : 0 ≤ (h343c.1 66 60) ∧ (h343c.1 66 60) ≤ 500 := i343c.1 66 60
                              have g350 : -2147483648 ≤ (h343c.1 66 61) ∧ (h343c.1 66 61) ≤ 2147483647 := i343c.1 66 61
                              have g351 : -2147483648 ≤ (h343c.1 66 65) ∧ (h343c.1 66 65) ≤ 2147483647 := i343c.1 66 65
                              have zF := mm_e_shut w35_0 i319c (by omega) (by omega) y319_0 g319c (y319_1.resolve_left (by omega)) zC eh22 eh23 g343c y343_0 y343_1 y343_2
                              have zG := zF.2
                              have ze9 := mm_eY_tr (mm_eY_fr g319c (by decide)) (mm_eY_tr (mm_eY_pf eh22 (by decide)) (mm_eY_pf eh23 (by decide)))
                              have zs9 := mm_st9_of (mm_eY_a ze9 w35_1.2.1) y343_3 y343_4 g343c (by decide)
                              have z109 : ∀ j, h23.2.1 109 j = h35_.2.1 109 j := fun j => by rw [eh23, eh22]; exact g319c.2 109 (by decide) j
                              refine mm_goto (tgt := 351) C (mm_dec dk_X12_expression 178 rfl) (by decide) ?_
                              exact J351 x35_2 ⟨by omega, by omega⟩ h343c i343c f343c (by first | exact zF.1 | exact w35_0) (by omega) (by omega) (by first | exact mm_I35_op zI1 (by omega) ze9 ⟨by omega, by omega⟩ zs9 ⟨by omega, by omega⟩ (mm_kY_eq (g101c.2 109 (by decide)) (g101c.1 66 71 (by decide))) (fun i r P => mm_st_and zca zu9 (by omega) zdd) y106_1 (fun q => by have z9 := (y106_0.2.2.1 q).2; omega) (by omega) | exact mm_I35_op zI1 (by omega) ze9 ⟨by omega, by omega⟩ zs9 ⟨by omega, by omega⟩ (mm_kY_eq (g178c.2 109 (by decide)) (g178c.1 66 71 (by decide))) (fun i r P => mm_st_lt w130_1 (by omega) zu9 (by omega) zdd) y183_1 (fun q => by have z9 := (y183_0.2.2.1 q).2; omega) (by omega) | exact mm_I35_op zI1 (by omega) ze9 ⟨by omega, by omega⟩ zs9 ⟨by omega, by omega⟩ (mm_kY_eq (g233c.2 109 (by decide)) (g233c.1 66 71 (by decide))) (fun i r P => mm_st_op (by omega) zk9 zdd) y238_1 (fun q => by have z9 := (y238_0.2.2.1 q).2; omega) (by omega) | exact mm_I35_op zI1 (by omega) ze9 ⟨by omega, by omega⟩ zs9 ⟨by omega, by omega⟩ (mm_kY_eq (g289c.2 109 (by decide)) (g289c.1 66 71 (by decide))) (fun i r P => mm_st_op (by omega) zk9 zdd) y294_1 (fun q => by have z9 := (y294_0.2.2.1 q).2; omega) (by omega) | exact mm_I35_close zI1 (by omega) zc41 ze9 ⟨by omega, by omega⟩ z109 (by omega) (by omega) zs9 ⟨by omega, by omega⟩ (mm_kY_eq (g343c.2 109 (by decide)) (g343c.1 66 71 (by decide))) (by omega) (by omega) | exact mm_I35_out zI1 (fun _ => ⟨w349_0, w349_1⟩)) (by omega)
                        · skip
                          exact J262 (by first | exact (mm_hs9_y hs247 c250).1 | exact (mm_hs9_y hs256 c259).1) (by first | exact Or.inl (mm_hs9_y hs247 c250).2 | exact Or.inr (mm_hs9_y hs256 c259).2)
                    · skip
                      exact J207 (by first | exact (mm_hs9_y hs192 c195).1 | exact (mm_hs9_y hs201 c204).1) (by first | exact Or.inl (mm_hs9_y hs192 c195).2 | exact Or.inr (mm_hs9_y hs201 c204).2)
                have J130 : ∀ (w130_0 : h35_.1 66 61 = 3) (w130_1 : (mm_cY h35_ = 160 ∨ mm_cY h35_ = 161)), mm_W x 0 0 130 [mR 66, mI (h.1 66 69), mI x35_2, mU] [] h35_ := by
                  intro w130_0 w130_1
                  have g352 : -2147483648 ≤ h35_.1 66 57 ∧ h35_.1 66 57 ≤ 2147483647 := i35_.1 66 57
                  have g353 : 0 ≤ h35_.1 66 69 ∧ h35_.1 66 69 ≤ 2400 := i35_.1 66 69
                  have g354 : 0 ≤ h35_.1 66 70 ∧ h35_.1 66 70 ≤ 520 := i35_.1 66 70
                  have g355 : 0 ≤ h35_.1 66 62 ∧ h35_.1 66 62 ≤ 500 := i35_.1 66 62
                  have g356 : 0 ≤ h35_.1 66 60 ∧ h35_.1 66 60 ≤ 500 := i35_.1 66 60
                  have g357 : -2147483648 ≤ h35_.1 66 61 ∧ h35_.1 66 61 ≤ 2147483647 := i35_.1 66 61
                  have g358 : 0 ≤ h35_.1 66 71 ∧ h35_.1 66 71 ≤ 6 := i35_.1 66 71
                  have g359 : -2147483648 ≤ h35_.1 66 58 ∧ h35_.1 66 58 ≤ 2147483647 := i35_.1 66 58
                  have g360 : -2147483648 ≤ h35_.1 66 65 ∧ h35_.1 66 65 ≤ 2147483647 := i35_.1 66 65
                  refine mm_aload_n C (mm_dec dk_X12_expression 71 rfl) rfl ?_
                  refine mm_getr (t := 109) C fl_X12_138 (mm_dec dk_X12_expression 72 rfl) rfl rfl (mm_ref i35_ rfl) ?_
                  refine mm_aload_n C (mm_dec dk_X12_expression 73 rfl) rfl ?_
                  refine mm_geti C fl_X12_426 (mm_dec dk_X12_expression 74 rfl) rfl rfl (Or.inl rfl) ?_
                  refine mm_zald C (mm_dec dk_X12_expression 75 rfl) rfl (by omega) (by omega) ?_
                  have g361 : 0 ≤ (h35_.2.1 109 (h35_.1 66 71)) ∧ (h35_.2.1 109 (h35_.1 66 71)) ≤ 1 := i35_.2.1 109 (h35_.1 66 71)
                  refine mm_if_ne (tgt := 189) C (mm_dec dk_X12_expression 76 rfl) (by decide) (fun c139 => ?_) (fun c139 => ?_)
                  · skip
                    exact J189 (by first | exact (show _ ∨ _ from Or.inl c139) | exact (show _ ∨ _ from Or.inr ⟨mm_hs9_n hs115 c118, mm_hs9_n hs124 c127⟩))
                  · skip
                    refine mm_aload_n C (mm_dec dk_X12_expression 77 rfl) rfl ?_
                    refine mm_iconst C (mm_dec dk_X12_expression 78 rfl) ⟨by decide, by decide⟩ ?_
                    refine mm_cVv (rest := []) C1 ev_X12_445 (mm_dec dk_X12_expression 79 rfl) (c_X12_drops x.2.1 hl (d - 1) (by omega) h35_ i35_ 4 (by omega) (by omega)) rfl rfl (Nat.le_of_ble_eq_true rfl) ⟨by decide, by decide⟩ rfl (fun h144c hp144 => ?_) (fun _ _ q => q.elim)
                    obtain ⟨i144c, g144c, y144_0, y144_1⟩ := hp144
                    have f144c : mm_fr [(66, 57), (66, 58), (66, 60), (66, 61), (66, 62), (66, 63), (66, 64), (66, 65), (66, 66), (66, 69), (66, 70), (66, 71)] [107, 108, 109] h h144c := mm_fr_tr f35_ g144c (by decide +kernel)
                    have q144c_363 : h144c.1 66 57 = h35_.1 66 57 := g144c.1 66 57 (by decide)
                    have q144c_364 : h144c.1 66 58 = h35_.1 66 58 := g144c.1 66 58 (by decide)
                    have q144c_365 : h144c.1 66 60 = h35_.1 66 60 := g144c.1 66 60 (by decide)
                    have q144c_366 : h144c.1 66 61 = h35_.1 66 61 := g144c.1 66 61 (by decide)
                    have q144c_367 : h144c.1 66 62 = h35_.1 66 62 := g144c.1 66 62 (by decide)
                    have q144c_368 : h144c.1 66 65 = h35_.1 66 65 := g144c.1 66 65 (by decide)
                    have q144c_369 : h144c.1 66 71 = h35_.1 66 71 := g144c.1 66 71 (by decide)
                    have g370 : 0 ≤ (h144c.1 66 69) ∧ (h144c.1 66 69) ≤ 2400 := i144c.1 66 69
                    have g371 : 0 ≤ (h144c.1 66 70) ∧ (h144c.1 66 70) ≤ 520 := i144c.1 66 70
                    have zd1 := y144_0.1.2.2.2.2.2
                    have zd2 := y144_0.2.1
                    clear y144_1
                    refine mm_aload_n C (mm_dec dk_X12_expression 80 rfl) rfl ?_
                    refine mm_aload_n C (mm_dec dk_X12_expression 81 rfl) rfl ?_
                    refine mm_bipush C (mm_dec dk_X12_expression 82 rfl) ⟨by decide, by decide⟩ ?_
                    refine mm_cVi (rest := [mR 66]) C1 ev_X12_429 (mm_dec dk_X12_expression 83 rfl) (c_X12_isSign x.2.1 hl (d - 1) (by omega) h144c i144c 60) rfl rfl (Nat.le_of_ble_eq_true rfl) ⟨by decide, by decide⟩ rfl (fun r151 h151c hp151 => ?_) (fun _ _ q => q.elim)
                    obtain ⟨z151, y151⟩ := hp151
                    rw [z151]
                    have J164 : ∀ (s164_1 : Int) (bs164_1 : 7 ≤ s164_1 ∧ s164_1 ≤ 8) (vs164_1 : (r151 ≠ 0 ∧ s164_1 = 7) ∨ (r151 = 0 ∧ s164_1 = 8)), mm_W x 0 0 164 [mR 66, mI (h.1 66 69), mI x35_2, mU] [mI s164_1, mR 66] h144c := by
                      intro s164_1 bs164_1 vs164_1
                      refine mm_cVv (rest := []) C1 ev_X12_432 (mm_dec dk_X12_expression 88 rfl) (c_X12_waitsFor_x x.2.1 hl (d - 1) (by omega) h144c i144c s164_1 (by omega)) rfl rfl (Nat.le_of_ble_eq_true rfl) ⟨by decide, by decide⟩ rfl (fun h164c hp164 => ?_) (fun _ _ q => q.elim)
                      obtain ⟨i164c, g164c, y164_0, y164_1⟩ := hp164
                      have f164c : mm_fr [(66, 57), (66, 58), (66, 60), (66, 61), (66, 62), (66, 63), (66, 64), (66, 65), (66, 66), (66, 69), (66, 70), (66, 71)] [107, 108, 109] h h164c := mm_fr_tr f144c g164c (by decide +kernel)
                      have q164c_374 : h164c.1 66 57 = h144c.1 66 57 := g164c.1 66 57 (by decide)
                      have q164c_375 : h164c.1 66 58 = h144c.1 66 58 := g164c.1 66 58 (by decide)
                      have q164c_376 : h164c.1 66 60 = h144c.1 66 60 := g164c.1 66 60 (by decide)
                      have q164c_377 : h164c.1 66 61 = h144c.1 66 61 := g164c.1 66 61 (by decide)
                      have q164c_378 : h164c.1 66 62 = h144c.1 66 62 := g164c.1 66 62 (by decide)
                      have q164c_379 : h164c.1 66 65 = h144c.1 66 65 := g164c.1 66 65 (by decide)
                      have q164c_380 : h164c.1 66 69 = h144c.1 66 69 := g164c.1 66 69 (by decide)
                      have q164c_381 : h164c.1 66 71 = h144c.1 66 71 := g164c.1 66 71 (by decide)
                      have g382 : 0 ≤ (h164c.1 66 70) ∧ (h164c.1 66 70) ≤ 520 := i164c.1 66 70
                      clear vs164_1
                      refine mm_aload_n C (mm_dec dk_X12_expression 89 rfl) rfl ?_
                      refine mm_getr (t := 109) C fl_X12_138 (mm_dec dk_X12_expression 90 rfl) rfl rfl (mm_ref i164c rfl) ?_
                      refine mm_aload_n C (mm_dec dk_X12_expression 91 rfl) rfl ?_
                      refine mm_geti C fl_X12_426 (mm_dec dk_X12_expression 92 rfl) rfl rfl (Or.inl rfl) ?_
                      refine mm_iconst C (mm_dec dk_X12_expression 93 rfl) ⟨by decide, by decide⟩ ?_
                      refine mm_zast C (mm_dec dk_X12_expression 94 rfl) rfl (by omega) (by omega) (by omega) ?_
                      have i27 : mm_inv (mm_pa h164c 109 (h164c.1 66 71) 1) := mm_inv_pa i164c (show 0 ≤ 1 ∧ 1 ≤ 1 from ⟨by omega, by omega⟩)
                      have f27 : mm_fr [(66, 57), (66, 58), (66, 60), (66, 61), (66, 62), (66, 63), (66, 64), (66, 65), (66, 66), (66, 69), (66, 70), (66, 71)] [107, 108, 109] h (mm_pa h164c 109 (h164c.1 66 71) 1) := mm_fr_pa f164c (by decide)
                      obtain ⟨h27, eh27⟩ : ∃ z, z = mm_pa h164c 109 (h164c.1 66 71) 1 := ⟨_, rfl⟩
                      rw [← eh27] at i27 f27 ⊢
                      have qh27_383 : h27.1 66 57 = h164c.1 66 57 := by rw [eh27]; rfl
                      have qh27_384 : h27.1 66 58 = h164c.1 66 58 := by rw [eh27]; rfl
                      have qh27_385 : h27.1 66 60 = h164c.1 66 60 := by rw [eh27]; rfl
                      have qh27_386 : h27.1 66 61 = h164c.1 66 61 := by rw [eh27]; rfl
                      have qh27_387 : h27.1 66 62 = h164c.1 66 62 := by rw [eh27]; rfl
                      have qh27_388 : h27.1 66 65 = h164c.1 66 65 := by rw [eh27]; rfl
                      have qh27_389 : h27.1 66 69 = h164c.1 66 69 := by rw [eh27]; rfl
                      have qh27_390 : h27.1 66 70 = h164c.1 66 70 := by rw [eh27]; rfl
                      have qh27_391 : h27.1 66 71 = h164c.1 66 71 := by rw [eh27]; rfl
                      refine mm_aload_n C (mm_dec dk_X12_expression 95 rfl) rfl ?_
                      refine mm_cVv (rest := []) C1 ev_X12_423 (mm_dec dk_X12_expression 96 rfl) (c_X12_goes_q x.2.1 hl (d - 1) (by omega) h27 i27 ) rfl rfl (Nat.le_of_ble_eq_true rfl) ⟨by decide, by decide⟩ rfl (fun h178c hp178 => ?_) (fun _ _ q => q.elim)
                      obtain ⟨i178c, g178c, y178_0, y178_1, y178_2, y178_3, y178_4⟩ := hp178
                      have f178c : mm_fr [(66, 57), (66, 58), (66, 60), (66, 61), (66, 62), (66, 63), (66, 64), (66, 65), (66, 66), (66, 69), (66, 70), (66, 71)] [107, 108, 109] h h178c := mm_fr_tr f27 g178c (by decide +kernel)
                      have q178c_393 : h178c.1 66 57 = h27.1 66 57 := g178c.1 66 57 (by decide)
                      have q178c_394 : h178c.1 66 58 = h27.1 66 58 := g178c.1 66 58 (by decide)
                      have q178c_395 : h178c.1 66 69 = h27.1 66 69 := g178c.1 66 69 (by decide)
                      have q178c_396 : h178c.1 66 70 = h27.1 66 70 := g178c.1 66 70 (by decide)
                      have q178c_397 : h178c.1 66 71 = h27.1 66 71 := g178c.1 66 71 (by decide)
                      have g398 : 0 ≤ (h178c.1 66 62) ∧ (h178c.1 66 62) ≤ 500 := i178c.1 66 62
                      have g399 : 0 ≤ (h178c.1 66 60) ∧ (h178c.1 66 60) ≤ 500 := i178c.1 66 60
                      have g400 : -2147483648 ≤ (h178c.1 66 61) ∧ (h178c.1 66 61) ≤ 2147483647 := i178c.1 66 61
                      have g401 : -2147483648 ≤ (h178c.1 66 65) ∧ (h178c.1 66 65) ≤ 2147483647 := i178c.1 66 65
                      have zE := mm_e_op w35_0 i144c (by omega) (by omega) y144_0 g144c ⟨by omega, by omega⟩ y164_0 y164_1 g164c ⟨by rw [eh27]; rfl, fun o ho => by rw [eh27]; exact funext fun j => mm_pa_ne _ _ (fun w => ho w.1)⟩ g178c y178_0 y178_1 y178_2
                      have zb := zE.1.2.2.1
                      have zw := zE.1.2.2.2.2.2
                      have zl := zE.2.2.2.2.1
                      have ze9 := mm_eY_tr (mm_eY_tr (mm_eY_fr g144c (by decide)) (mm_eY_fr g164c (by decide))) (mm_eY_pa eh27 (by decide))
                      have zs9 := mm_st9_of (mm_eY_a ze9 w35_1.2.1) y178_3 y178_4 g178c (by decide)
                      have zu9 : mm_up h35_ h27 109 (h35_.1 66 71) 1 1 := mm_up_pav (fun j => (g164c.2 109 (by decide) j).trans (g144c.2 109 (by decide) j)) eh27 (fun _ => rfl) (by omega) rfl rfl
                      refine mm_aload_n C (mm_dec dk_X12_expression 97 rfl) rfl ?_
                      refine mm_iconst C (mm_dec dk_X12_expression 98 rfl) ⟨by decide, by decide⟩ ?_
                      refine mm_cVv (rest := []) C1 ev_X12_441 (mm_dec dk_X12_expression 99 rfl) (c_X12_operand_q x.2.1 hl (d - 1) (by omega) h178c i178c 0 ⟨by omega, by omega⟩ (by first | exact y178_3 | exact zE.2.1 | exact fun _ => zE.2.2.2.1 | omega) (by first | exact y178_3 | exact zE.2.1 | exact fun _ => zE.2.2.2.1 | omega) (by first | exact y178_3 | exact zE.2.1 | exact fun _ => zE.2.2.2.1 | omega) (by first | exact y178_3 | exact zE.2.1 | exact fun _ => zE.2.2.2.1 | omega) (by first | exact y178_3 | exact zE.2.1 | exact fun _ => zE.2.2.2.1 | omega)) rfl rfl (Nat.le_of_ble_eq_true rfl) ⟨by decide, by decide⟩ rfl (fun h183c hp183 => ?_) (fun _ _ q => q.elim)
                      obtain ⟨i183c, g183c, y183_0, y183_1, y183_2⟩ := hp183
                      have f183c : mm_fr [(66, 57), (66, 58), (66, 60), (66, 61), (66, 62), (66, 63), (66, 64), (66, 65), (66, 66), (66, 69), (66, 70), (66, 71)] [107, 108, 109] h h183c := mm_fr_tr f178c g183c (by decide +kernel)
                      have g403 : -2147483648 ≤ (h183c.1 66 57) ∧ (h183c.1 66 57) ≤ 2147483647 := i183c.1 66 57
                      have g404 : 0 ≤ (h183c.1 66 69) ∧ (h183c.1 66 69) ≤ 2400 := i183c.1 66 69
                      have g405 : 0 ≤ (h183c.1 66 70) ∧ (h183c.1 66 70) ≤ 520 := i183c.1 66 70
                      have g406 : 0 ≤ (h183c.1 66 62) ∧ (h183c.1 66 62) ≤ 500 := i183c.1 66 62
                      have g407 : 0 ≤ (h183c.1 66 60) ∧ (h183c.1 66 60) ≤ 500 := i183c.1 66 60
                      have g408 : -2147483648 ≤ (h183c.1 66 61) ∧ (h183c.1 66 61) ≤ 2147483647 := i183c.1 66 61
                      have g409 : 0 ≤ (h183c.1 66 71) ∧ (h183c.1 66 71) ≤ 6 := i183c.1 66 71
                      have g410 : -2147483648 ≤ (h183c.1 66 58) ∧ (h183c.1 66 58) ≤ 2147483647 := i183c.1 66 58
                      have g411 : -2147483648 ≤ (h183c.1 66 65) ∧ (h183c.1 66 65) ≤ 2147483647 := i183c.1 66 65
                      have zF := mm_e_put (p := h.1 66 62) zE y183_0 (by omega)
                      have zG := zF.2
                      refine mm_goto (tgt := 351) C (mm_dec dk_X12_expression 100 rfl) (by decide) ?_
                      exact J351 x35_2 ⟨by omega, by omega⟩ h183c i183c f183c (by first | exact zF.1 | exact w35_0) (by omega) (by omega) (by first | exact mm_I35_op zI1 (by omega) ze9 ⟨by omega, by omega⟩ zs9 ⟨by omega, by omega⟩ (mm_kY_eq (g101c.2 109 (by decide)) (g101c.1 66 71 (by decide))) (fun i r P => mm_st_and zca zu9 (by omega) zdd) y106_1 (fun q => by have z9 := (y106_0.2.2.1 q).2; omega) (by omega) | exact mm_I35_op zI1 (by omega) ze9 ⟨by omega, by omega⟩ zs9 ⟨by omega, by omega⟩ (mm_kY_eq (g178c.2 109 (by decide)) (g178c.1 66 71 (by decide))) (fun i r P => mm_st_lt w130_1 (by omega) zu9 (by omega) zdd) y183_1 (fun q => by have z9 := (y183_0.2.2.1 q).2; omega) (by omega) | exact mm_I35_op zI1 (by omega) ze9 ⟨by omega, by omega⟩ zs9 ⟨by omega, by omega⟩ (mm_kY_eq (g233c.2 109 (by decide)) (g233c.1 66 71 (by decide))) (fun i r P => mm_st_op (by omega) zk9 zdd) y238_1 (fun q => by have z9 := (y238_0.2.2.1 q).2; omega) (by omega) | exact mm_I35_op zI1 (by omega) ze9 ⟨by omega, by omega⟩ zs9 ⟨by omega, by omega⟩ (mm_kY_eq (g289c.2 109 (by decide)) (g289c.1 66 71 (by decide))) (fun i r P => mm_st_op (by omega) zk9 zdd) y294_1 (fun q => by have z9 := (y294_0.2.2.1 q).2; omega) (by omega) | exact mm_I35_close zI1 (by omega) zc41 ze9 ⟨by omega, by omega⟩ z109 (by omega) (by omega) zs9 ⟨by omega, by omega⟩ (mm_kY_eq (g343c.2 109 (by decide)) (g343c.1 66 71 (by decide))) (by omega) (by omega) | exact mm_I35_out zI1 (fun _ => ⟨w349_0, w349_1⟩)) (by omega)
                    clear y151
                    refine mm_if_eq (tgt := 162) C (mm_dec dk_X12_expression 84 rfl) (by decide) (fun c154 => ?_) (fun c154 => ?_)
                    · skip
                      refine mm_bipush C (mm_dec dk_X12_expression 87 rfl) ⟨by decide, by decide⟩ ?_
                      exact J164 8 ⟨by omega, by omega⟩ (Or.inr (⟨by omega, rfl⟩))
                    · skip
                      refine mm_bipush C (mm_dec dk_X12_expression 85 rfl) ⟨by decide, by decide⟩ ?_
                      refine mm_goto (tgt := 164) C (mm_dec dk_X12_expression 86 rfl) (by decide) ?_
                      exact J164 7 ⟨by omega, by omega⟩ (Or.inl ⟨by omega, rfl⟩)
                have hs115 : mm_hs9 h35_ r115 160 := mm_sgn9 tf35 (by decide) (by decide) y115
                clear y115
                refine mm_if_ne (tgt := 130) C (mm_dec dk_X12_expression 66 rfl) (by decide) (fun c118 => ?_) (fun c118 => ?_)
                · skip
                  refine mm_fgt 3 ?_
                  exact J130 (by first | exact (mm_hs9_y hs115 c118).1 | exact (mm_hs9_y hs124 c127).1) (by first | exact Or.inl (mm_hs9_y hs115 c118).2 | exact Or.inr (mm_hs9_y hs124 c127).2)
                · skip
                  refine mm_aload_n C (mm_dec dk_X12_expression 67 rfl) rfl ?_
                  refine mm_bipush C (mm_dec dk_X12_expression 68 rfl) ⟨by decide, by decide⟩ ?_
                  refine mm_cVi (rest := []) C1 ev_X12_429 (mm_dec dk_X12_expression 69 rfl) (c_X12_isSign x.2.1 hl (d - 1) (by omega) h35_ i35_ 61) rfl rfl (Nat.le_of_ble_eq_true rfl) ⟨by decide, by decide⟩ rfl (fun r124 h124c hp124 => ?_) (fun _ _ q => q.elim)
                  obtain ⟨z124, y124⟩ := hp124
                  rw [z124]
                  have hs124 : mm_hs9 h35_ r124 161 := mm_sgn9 tf35 (by decide) (by decide) y124
                  clear y124
                  refine mm_if_eq (tgt := 189) C (mm_dec dk_X12_expression 70 rfl) (by decide) (fun c127 => ?_) (fun c127 => ?_)
                  · skip
                    refine mm_fgt 3 ?_
                    exact J189 (by first | exact (show _ ∨ _ from Or.inl c139) | exact (show _ ∨ _ from Or.inr ⟨mm_hs9_n hs115 c118, mm_hs9_n hs124 c127⟩))
                  · skip
                    refine mm_fgt 3 ?_
                    exact J130 (by first | exact (mm_hs9_y hs115 c118).1 | exact (mm_hs9_y hs124 c127).1) (by first | exact Or.inl (mm_hs9_y hs115 c118).2 | exact Or.inr (mm_hs9_y hs124 c127).2)
              · skip
                exact J61 (by omega)
    refine mm_istore_nL (ls2 := [mR 66, mI (h.1 66 69), mI 1, mU]) C (mm_dec dk_X12_expression 20 rfl) (by decide) rfl ?_
    exact J35 (((2 * (500 - h30c.1 66 62) + 1) : Int) + 1).toNat 1 ⟨by omega, by omega⟩ h30c i30c f30c (by first | exact w351_0 | exact mm_e_start eh1 eh2 g25c y25_0 t0 y30_0) (by first | exact w351_3 | exact mm_I35_0 (by omega) zE0 ⟨by omega, by omega⟩ (by omega) y25_1 y30_1 (fun q => by have z9 := (y30_0.2.2.1 q).2; omega) rfl) (by first | omega | (have zb := (y25_1).2; rcases zb with ⟨zb1, zb2, zb3, zb4⟩ | ⟨zb1, zb2, zb3⟩; (have zb5 := zb3.1; have zb6 := zb3.2; omega); omega)) (by omega)
  · skip
    refine mm_iload_n C (mm_dec dk_X12_expression 6 rfl) rfl ?_
    exact mm_iret C T (mm_dec dk_X12_expression 7 rfl) (by decide : 0 ≤ 0) (by decide : 0 ≤ 0) ⟨_, rfl, ⟨⟨by omega, by omega⟩, i0, f0, by first | exact mm_ex_rf (by omega) t0 | exact mm_ex_of eh1 w35_0 w374_0 w374_1 i376c y376_0 g376c (by omega) (by omega) y381_0 y381_1 g381c, by rfl, by first | exact fun q => absurd q (by omega) | exact fun _ => mm_X9_end w35_1 w354_0 w374_2 w374_3 (mm_eY_tr (mm_eY_fr g376c (by decide)) (mm_eY_fr g381c (by decide))) ⟨by omega, by omega⟩, by omega⟩⟩
set_option maxRecDepth 100000 in
set_option maxHeartbeats 4000000 in
theorem c_X12_sets_q (l : Launch) (hl : l.stackTraces = false) (d : Nat) (hd : 3 ≤ d) (h : mH) (i0 : mm_inv h) (p1 : Int) (bp1 : 0 ≤ p1 ∧ p1 ≤ 1) (t0 : mm_tok h) (t1 : h.1 66 57 = 0) (t2 : mm_aY h) : mm_Met l d yX12_sets cX12_sets 3 none [mR 66, mI p1] h (mm_pv fun h2 => mm_inv h2 ∧ mm_fr [(66, 57), (66, 58), (66, 60), (66, 61), (66, 62), (66, 63), (66, 64), (66, 65), (66, 66)] [102] h h2 ∧ mm_tok h2 ∧ h.1 66 62 ≤ h2.1 66 62 ∧ mm_D9 11 p1 h h2 ∧ (h2.1 66 57 ≠ 0 ∨ (h.1 66 57 = 0 ∧ h2.1 66 58 = h.1 66 58))) mm_nx 0 0 := by
  refine mm_ofW (ls := [mR 66, mI p1, mU]) hl (by decide) rfl (Nat.le_of_ble_eq_true rfl) ?_
  intro x hxl C T hnm htb
  subst hxl
  have C1 := mm_OK_le (d' := d - 1 + 1) (by omega) C
  refine mm_rng (fun hr _ => ?_)
  have ap1 : -2147483648 ≤ p1 ∧ p1 < 2147483648 := mm_ok_at hr (i := 1) rfl
  have f0 : mm_fr [(66, 57), (66, 58), (66, 60), (66, 61), (66, 62), (66, 63), (66, 64), (66, 65), (66, 66)] [102] h h := mm_fr_rf
  have g1 : -2147483648 ≤ h.1 66 57 ∧ h.1 66 57 ≤ 2147483647 := i0.1 66 57
  have g2 : 0 ≤ h.1 66 69 ∧ h.1 66 69 ≤ 2400 := i0.1 66 69
  have g3 : 0 ≤ h.1 66 70 ∧ h.1 66 70 ≤ 520 := i0.1 66 70
  have g4 : 0 ≤ h.1 66 62 ∧ h.1 66 62 ≤ 500 := i0.1 66 62
  have g5 : 0 ≤ h.1 66 60 ∧ h.1 66 60 ≤ 500 := i0.1 66 60
  have g6 : -2147483648 ≤ h.1 66 61 ∧ h.1 66 61 ≤ 2147483647 := i0.1 66 61
  have g7 : 0 ≤ h.1 66 71 ∧ h.1 66 71 ≤ 6 := i0.1 66 71
  have g8 : -2147483648 ≤ h.1 66 58 ∧ h.1 66 58 ≤ 2147483647 := i0.1 66 58
  have g9 : -2147483648 ≤ h.1 66 63 ∧ h.1 66 63 ≤ 2147483647 := i0.1 66 63
  have g10 : -2147483648 ≤ h.1 66 65 ∧ h.1 66 65 ≤ 2147483647 := i0.1 66 65
  have g11 : -2147483648 ≤ h.1 66 64 ∧ h.1 66 64 ≤ 2147483647 := i0.1 66 64
  have zt := t0.1
  have zu := t0.2
  have tf := mm_cY_h t2
  refine mm_aload_n C (mm_dec dk_X12_sets 0 rfl) rfl ?_
  refine mm_cVi (rest := []) C1 ev_X12_419 (mm_dec dk_X12_sets 1 rfl) (c_X12_knownWord_q x.2.1 hl (d - 1) (by omega) h i0 (by first | exact t2 | omega)) rfl rfl (Nat.le_of_ble_eq_true rfl) ⟨by decide, by decide⟩ rfl (fun r1 h1c hp1 => ?_) (fun _ _ q => q.elim)
  obtain ⟨b1, z1, y1_0, y1_1⟩ := hp1
  rw [z1]
  refine mm_istore_nL (ls2 := [mR 66, mI p1, mI r1]) C (mm_dec dk_X12_sets 2 rfl) (by decide) rfl ?_
  refine mm_aload_n C (mm_dec dk_X12_sets 3 rfl) rfl ?_
  refine mm_geti C fl_X12_378 (mm_dec dk_X12_sets 4 rfl) rfl rfl (Or.inl rfl) ?_
  refine mm_iconst C (mm_dec dk_X12_sets 5 rfl) ⟨by decide, by decide⟩ ?_
  have J38 : ∀ (h38_ : mH) (i38_ : mm_inv h38_) (f38_ : mm_fr [(66, 57), (66, 58), (66, 60), (66, 61), (66, 62), (66, 63), (66, 64), (66, 65), (66, 66)] [102] h h38_) (w38_0 : mm_sm h h38_) (w38_1 : (h38_.1 66 57 = 0 → h38_.1 66 61 = 1 ∧ 7 ≤ r1 ∧ r1 ≤ 9)) (w38_2 : mm_eY h h38_) (w38_3 : ((h38_.1 66 57 = 0 ∧ h38_.1 66 58 = h.1 66 58 ∧ 7 ≤ mm_cY h ∧ mm_cY h ≤ 9 ∧ r1 = mm_cY h) ∨ (h38_.1 66 58 = h.1 66 62 ∧ ((18 ≤ mm_cY h ∧ h38_.1 66 57 = 1) ∨ (mm_cY h ≤ 17 ∧ ¬ (7 ≤ mm_cY h ∧ mm_cY h ≤ 9) ∧ h38_.1 66 57 = 3))))) (w38_4 : ∀ j, h38_.2.1 102 j = h.2.1 102 j), mm_W x 0 0 38 [mR 66, mI p1, mI r1] [] h38_ := by
    intro h38_ i38_ f38_ w38_0 w38_1 w38_2 w38_3 w38_4
    have g13 : -2147483648 ≤ h38_.1 66 57 ∧ h38_.1 66 57 ≤ 2147483647 := i38_.1 66 57
    have g14 : 0 ≤ h38_.1 66 69 ∧ h38_.1 66 69 ≤ 2400 := i38_.1 66 69
    have g15 : 0 ≤ h38_.1 66 70 ∧ h38_.1 66 70 ≤ 520 := i38_.1 66 70
    have g16 : 0 ≤ h38_.1 66 62 ∧ h38_.1 66 62 ≤ 500 := i38_.1 66 62
    have g17 : 0 ≤ h38_.1 66 60 ∧ h38_.1 66 60 ≤ 500 := i38_.1 66 60
    have g18 : -2147483648 ≤ h38_.1 66 61 ∧ h38_.1 66 61 ≤ 2147483647 := i38_.1 66 61
    have g19 : 0 ≤ h38_.1 66 71 ∧ h38_.1 66 71 ≤ 6 := i38_.1 66 71
    have g20 : -2147483648 ≤ h38_.1 66 58 ∧ h38_.1 66 58 ≤ 2147483647 := i38_.1 66 58
    have g21 : -2147483648 ≤ h38_.1 66 63 ∧ h38_.1 66 63 ≤ 2147483647 := i38_.1 66 63
    have g22 : -2147483648 ≤ h38_.1 66 65 ∧ h38_.1 66 65 ≤ 2147483647 := i38_.1 66 65
    have g23 : -2147483648 ≤ h38_.1 66 64 ∧ h38_.1 66 64 ≤ 2147483647 := i38_.1 66 64
    have g24 : h38_.1 66 69 = h.1 66 69 := f38_.1 66 69 (by decide)
    have g25 : h38_.1 66 70 = h.1 66 70 := f38_.1 66 70 (by decide)
    have g26 : h38_.1 66 71 = h.1 66 71 := f38_.1 66 71 (by decide)
    have za := w38_0.2.2.1
    have zb := w38_0.2.2.2.1
    have zc := w38_0.2.2.2.2.1
    refine mm_aload_n C (mm_dec dk_X12_sets 20 rfl) rfl ?_
    refine mm_cVi (rest := []) C1 ev_X12_413 (mm_dec dk_X12_sets 21 rfl) (c_X12_isGood x.2.1 hl (d - 1) (by omega) h38_ i38_ ) rfl rfl (Nat.le_of_ble_eq_true rfl) ⟨by decide, by decide⟩ rfl (fun r39 h39c hp39 => ?_) (fun _ _ q => q.elim)
    obtain ⟨z39, y39⟩ := hp39
    rw [z39]
    refine mm_if_ne (tgt := 46) C (mm_dec dk_X12_sets 22 rfl) (by decide) (fun c42 => ?_) (fun c42 => ?_)
    · skip
      refine mm_aload_n C (mm_dec dk_X12_sets 24 rfl) rfl ?_
      refine mm_cVv (rest := []) C1 ev_X12_423 (mm_dec dk_X12_sets 25 rfl) (c_X12_goes_q x.2.1 hl (d - 1) (by omega) h38_ i38_ ) rfl rfl (Nat.le_of_ble_eq_true rfl) ⟨by decide, by decide⟩ rfl (fun h47c hp47 => ?_) (fun _ _ q => q.elim)
      obtain ⟨i47c, g47c, y47_0, y47_1, y47_2, y47_3, y47_4⟩ := hp47
      have f47c : mm_fr [(66, 57), (66, 58), (66, 60), (66, 61), (66, 62), (66, 63), (66, 64), (66, 65), (66, 66)] [102] h h47c := mm_fr_tr f38_ g47c (by decide +kernel)
      have q47c_29 : h47c.1 66 57 = h38_.1 66 57 := g47c.1 66 57 (by decide)
      have q47c_30 : h47c.1 66 58 = h38_.1 66 58 := g47c.1 66 58 (by decide)
      have q47c_31 : h47c.1 66 69 = h38_.1 66 69 := g47c.1 66 69 (by decide)
      have q47c_32 : h47c.1 66 70 = h38_.1 66 70 := g47c.1 66 70 (by decide)
      have q47c_33 : h47c.1 66 71 = h38_.1 66 71 := g47c.1 66 71 (by decide)
      have g34 : 0 ≤ (h47c.1 66 62) ∧ (h47c.1 66 62) ≤ 500 := i47c.1 66 62
      have g35 : 0 ≤ (h47c.1 66 60) ∧ (h47c.1 66 60) ≤ 500 := i47c.1 66 60
      have g36 : -2147483648 ≤ (h47c.1 66 61) ∧ (h47c.1 66 61) ≤ 2147483647 := i47c.1 66 61
      have g37 : -2147483648 ≤ (h47c.1 66 63) ∧ (h47c.1 66 63) ≤ 2147483647 := i47c.1 66 63
      have g38 : -2147483648 ≤ (h47c.1 66 65) ∧ (h47c.1 66 65) ≤ 2147483647 := i47c.1 66 65
      have g39 : -2147483648 ≤ (h47c.1 66 64) ∧ (h47c.1 66 64) ≤ 2147483647 := i47c.1 66 64
      have zs9 := mm_st9_e w38_2 (mm_st9_of (mm_eY_a w38_2 t2) y47_3 y47_4 g47c (by decide))
      have tg := mm_cY_h y47_3
      have zc9 : 7 ≤ mm_cY h ∧ mm_cY h ≤ 9 := by omega
      have z102 : ∀ j, h47c.2.1 102 j = h.2.1 102 j := fun j => (g47c.2 102 (by decide) j).trans (w38_4 j)
      refine mm_aload_n C (mm_dec dk_X12_sets 26 rfl) rfl ?_
      refine mm_geti C fl_X12_378 (mm_dec dk_X12_sets 27 rfl) rfl rfl (Or.inl rfl) ?_
      refine mm_iconst C (mm_dec dk_X12_sets 28 rfl) ⟨by decide, by decide⟩ ?_
      have J79 : ∀ (h79_ : mH) (i79_ : mm_inv h79_) (f79_ : mm_fr [(66, 57), (66, 58), (66, 60), (66, 61), (66, 62), (66, 63), (66, 64), (66, 65), (66, 66)] [102] h h79_) (w79_0 : mm_sm h47c h79_) (w79_1 : mm_eY h47c h79_) (w79_2 : ((h79_.1 66 57 = 0 ∧ h79_.1 66 58 = h.1 66 58 ∧ mm_cY h47c = 18 ∧ h47c.1 66 61 = 2 ∧ h47c.1 66 63 ≤ 5) ∨ (h79_.1 66 58 = h47c.1 66 62 ∧ ((mm_cY h47c = 19 ∧ h79_.1 66 57 = 2) ∨ (mm_cY h47c ≠ 18 ∧ mm_cY h47c ≠ 19 ∧ h79_.1 66 57 = 1))))) (w79_3 : ∀ j, h79_.2.1 102 j = h47c.2.1 102 j), mm_W x 0 0 79 [mR 66, mI p1, mI r1] [] h79_ := by
        intro h79_ i79_ f79_ w79_0 w79_1 w79_2 w79_3
        have g40 : -2147483648 ≤ h79_.1 66 57 ∧ h79_.1 66 57 ≤ 2147483647 := i79_.1 66 57
        have g41 : 0 ≤ h79_.1 66 69 ∧ h79_.1 66 69 ≤ 2400 := i79_.1 66 69
        have g42 : 0 ≤ h79_.1 66 70 ∧ h79_.1 66 70 ≤ 520 := i79_.1 66 70
        have g43 : 0 ≤ h79_.1 66 62 ∧ h79_.1 66 62 ≤ 500 := i79_.1 66 62
        have g44 : 0 ≤ h79_.1 66 60 ∧ h79_.1 66 60 ≤ 500 := i79_.1 66 60
        have g45 : -2147483648 ≤ h79_.1 66 61 ∧ h79_.1 66 61 ≤ 2147483647 := i79_.1 66 61
        have g46 : 0 ≤ h79_.1 66 71 ∧ h79_.1 66 71 ≤ 6 := i79_.1 66 71
        have g47 : -2147483648 ≤ h79_.1 66 58 ∧ h79_.1 66 58 ≤ 2147483647 := i79_.1 66 58
        have g48 : -2147483648 ≤ h79_.1 66 63 ∧ h79_.1 66 63 ≤ 2147483647 := i79_.1 66 63
        have g49 : -2147483648 ≤ h79_.1 66 65 ∧ h79_.1 66 65 ≤ 2147483647 := i79_.1 66 65
        have g50 : -2147483648 ≤ h79_.1 66 64 ∧ h79_.1 66 64 ≤ 2147483647 := i79_.1 66 64
        have g51 : h79_.1 66 69 = h.1 66 69 := f79_.1 66 69 (by decide)
        have g52 : h79_.1 66 70 = h.1 66 70 := f79_.1 66 70 (by decide)
        have g53 : h79_.1 66 71 = h.1 66 71 := f79_.1 66 71 (by decide)
        have zd := w79_0.2.2.1
        have ze := w79_0.2.2.2.1
        have zf := w79_0.2.2.2.2.1
        refine mm_aload_n C (mm_dec dk_X12_sets 41 rfl) rfl ?_
        refine mm_cVi (rest := []) C1 ev_X12_413 (mm_dec dk_X12_sets 42 rfl) (c_X12_isGood x.2.1 hl (d - 1) (by omega) h79_ i79_ ) rfl rfl (Nat.le_of_ble_eq_true rfl) ⟨by decide, by decide⟩ rfl (fun r80 h80c hp80 => ?_) (fun _ _ q => q.elim)
        obtain ⟨z80, y80⟩ := hp80
        rw [z80]
        refine mm_if_ne (tgt := 87) C (mm_dec dk_X12_sets 43 rfl) (by decide) (fun c83 => ?_) (fun c83 => ?_)
        · skip
          refine mm_aload_n C (mm_dec dk_X12_sets 45 rfl) rfl ?_
          refine mm_getr (t := 102) C fl_X12_117 (mm_dec dk_X12_sets 46 rfl) rfl rfl (mm_ref i79_ rfl) ?_
          refine mm_iconst C (mm_dec dk_X12_sets 47 rfl) ⟨by decide, by decide⟩ ?_
          refine mm_iload_n C (mm_dec dk_X12_sets 48 rfl) rfl ?_
          refine mm_imul C (mm_dec dk_X12_sets 49 rfl) ⟨by omega, by omega⟩ ?_
          refine mm_iload_n C (mm_dec dk_X12_sets 50 rfl) rfl ?_
          refine mm_iadd C (mm_dec dk_X12_sets 51 rfl) ⟨by omega, by omega⟩ ?_
          refine mm_bipush C (mm_dec dk_X12_sets 52 rfl) ⟨by decide, by decide⟩ ?_
          refine mm_isub C (mm_dec dk_X12_sets 53 rfl) ⟨by omega, by omega⟩ ?_
          refine mm_aload_n C (mm_dec dk_X12_sets 54 rfl) rfl ?_
          refine mm_geti C fl_X12_372 (mm_dec dk_X12_sets 55 rfl) rfl rfl (Or.inl rfl) ?_
          refine mm_iast C (mm_dec dk_X12_sets 56 rfl) rfl (by omega) (by omega) ?_
          have i2 : mm_inv (mm_pa h79_ 102 (((3 * p1) + r1) - 7) (h79_.1 66 64)) := mm_inv_pa i79_ (show -2147483648 ≤ (h79_.1 66 64) ∧ (h79_.1 66 64) ≤ 2147483647 from ⟨by omega, by omega⟩)
          have f2 : mm_fr [(66, 57), (66, 58), (66, 60), (66, 61), (66, 62), (66, 63), (66, 64), (66, 65), (66, 66)] [102] h (mm_pa h79_ 102 (((3 * p1) + r1) - 7) (h79_.1 66 64)) := mm_fr_pa f79_ (by decide)
          obtain ⟨h2, eh2⟩ : ∃ z, z = mm_pa h79_ 102 (((3 * p1) + r1) - 7) (h79_.1 66 64) := ⟨_, rfl⟩
          rw [← eh2] at i2 f2 ⊢
          have qh2_55 : h2.1 66 57 = h79_.1 66 57 := by rw [eh2]; rfl
          have qh2_56 : h2.1 66 58 = h79_.1 66 58 := by rw [eh2]; rfl
          have qh2_57 : h2.1 66 60 = h79_.1 66 60 := by rw [eh2]; rfl
          have qh2_58 : h2.1 66 61 = h79_.1 66 61 := by rw [eh2]; rfl
          have qh2_59 : h2.1 66 62 = h79_.1 66 62 := by rw [eh2]; rfl
          have qh2_60 : h2.1 66 63 = h79_.1 66 63 := by rw [eh2]; rfl
          have qh2_61 : h2.1 66 64 = h79_.1 66 64 := by rw [eh2]; rfl
          have qh2_62 : h2.1 66 65 = h79_.1 66 65 := by rw [eh2]; rfl
          have qh2_63 : h2.1 66 69 = h79_.1 66 69 := by rw [eh2]; rfl
          have qh2_64 : h2.1 66 70 = h79_.1 66 70 := by rw [eh2]; rfl
          have qh2_65 : h2.1 66 71 = h79_.1 66 71 := by rw [eh2]; rfl
          refine mm_aload_n C (mm_dec dk_X12_sets 57 rfl) rfl ?_
          refine mm_cVv (rest := []) C1 ev_X12_423 (mm_dec dk_X12_sets 58 rfl) (c_X12_goes_q x.2.1 hl (d - 1) (by omega) h2 i2 ) rfl rfl (Nat.le_of_ble_eq_true rfl) ⟨by decide, by decide⟩ rfl (fun h105c hp105 => ?_) (fun _ _ q => q.elim)
          obtain ⟨i105c, g105c, y105_0, y105_1, y105_2, y105_3, y105_4⟩ := hp105
          have f105c : mm_fr [(66, 57), (66, 58), (66, 60), (66, 61), (66, 62), (66, 63), (66, 64), (66, 65), (66, 66)] [102] h h105c := mm_fr_tr f2 g105c (by decide +kernel)
          have q105c_67 : h105c.1 66 57 = h2.1 66 57 := g105c.1 66 57 (by decide)
          have q105c_68 : h105c.1 66 58 = h2.1 66 58 := g105c.1 66 58 (by decide)
          have q105c_69 : h105c.1 66 69 = h2.1 66 69 := g105c.1 66 69 (by decide)
          have q105c_70 : h105c.1 66 70 = h2.1 66 70 := g105c.1 66 70 (by decide)
          have q105c_71 : h105c.1 66 71 = h2.1 66 71 := g105c.1 66 71 (by decide)
          have g72 : 0 ≤ (h105c.1 66 62) ∧ (h105c.1 66 62) ≤ 500 := i105c.1 66 62
          have g73 : 0 ≤ (h105c.1 66 60) ∧ (h105c.1 66 60) ≤ 500 := i105c.1 66 60
          have g74 : -2147483648 ≤ (h105c.1 66 61) ∧ (h105c.1 66 61) ≤ 2147483647 := i105c.1 66 61
          have g75 : -2147483648 ≤ (h105c.1 66 63) ∧ (h105c.1 66 63) ≤ 2147483647 := i105c.1 66 63
          have g76 : -2147483648 ≤ (h105c.1 66 65) ∧ (h105c.1 66 65) ≤ 2147483647 := i105c.1 66 65
          have g77 : -2147483648 ≤ (h105c.1 66 64) ∧ (h105c.1 66 64) ≤ 2147483647 := i105c.1 66 64
          exact mm_vret C T (mm_dec dk_X12_sets 59 rfl) (by decide : 0 ≤ 0) (by decide : 0 ≤ 0) ⟨rfl, ⟨i105c, f105c, by unfold mm_tok; omega, by omega, by first | exact mm_D9_1 t2 w38_2 (mm_ot_rf w38_4) (by omega) (by omega) | exact mm_D9_2 zc9 zs9 w79_1 (mm_ot_rf (fun j => (w79_3 j).trans (z102 j))) (by omega) (by omega) | exact mm_D9_3 zc9 zs9 (by omega) (by omega) (mm_eY_tr w79_1 (mm_eY_pa eh2 (by decide))) z102 (mm_up_pav w79_3 eh2 (fun _ => rfl) (by omega) rfl rfl) (((mm_eY_a w79_1 y47_3).2.2.2.2.1 (by have e1 := w79_1.2.2.1; omega) (by have e3 := w79_1.2.2.2.2.1; omega)).trans (mm_eY_tv w79_1)) (mm_st9_of (mm_eY_a (mm_eY_tr w79_1 (mm_eY_pa eh2 (by decide))) y47_3) y105_3 y105_4 g105c (by decide)) (g105c.2 102 (by decide)), by omega⟩⟩
        · skip
          exact mm_vret C T (mm_dec dk_X12_sets 44 rfl) (by decide : 0 ≤ 0) (by decide : 0 ≤ 0) ⟨rfl, ⟨i79_, f79_, by unfold mm_tok; omega, by omega, by first | exact mm_D9_1 t2 w38_2 (mm_ot_rf w38_4) (by omega) (by omega) | exact mm_D9_2 zc9 zs9 w79_1 (mm_ot_rf (fun j => (w79_3 j).trans (z102 j))) (by omega) (by omega) | exact mm_D9_3 zc9 zs9 (by omega) (by omega) (mm_eY_tr w79_1 (mm_eY_pa eh2 (by decide))) z102 (mm_up_pav w79_3 eh2 (fun _ => rfl) (by omega) rfl rfl) (((mm_eY_a w79_1 y47_3).2.2.2.2.1 (by have e1 := w79_1.2.2.1; omega) (by have e3 := w79_1.2.2.2.2.1; omega)).trans (mm_eY_tv w79_1)) (mm_st9_of (mm_eY_a (mm_eY_tr w79_1 (mm_eY_pa eh2 (by decide))) y47_3) y105_3 y105_4 g105c (by decide)) (g105c.2 102 (by decide)), by omega⟩⟩
      refine mm_icmp_eq (tgt := 66) C (mm_dec dk_X12_sets 29 rfl) (by decide) (fun c55 => ?_) (fun c55 => ?_)
      · skip
        refine mm_aload_n C (mm_dec dk_X12_sets 34 rfl) rfl ?_
        refine mm_geti C fl_X12_387 (mm_dec dk_X12_sets 35 rfl) rfl rfl (Or.inl rfl) ?_
        refine mm_iconst C (mm_dec dk_X12_sets 36 rfl) ⟨by decide, by decide⟩ ?_
        refine mm_icmp_le (tgt := 79) C (mm_dec dk_X12_sets 37 rfl) (by decide) (fun c71 => ?_) (fun c71 => ?_)
        · skip
          exact J79 h47c i47c f47c (by first | exact mm_sm_rf | exact mm_sm_fr g60c (by decide) | exact mm_sm_fr g76c (by decide)) (by first | exact mm_eY_rf | exact mm_eY_fr g60c (by decide) | exact mm_eY_fr g76c (by decide)) (by have zz := mm_hd9x tg; omega) (by first | exact fun _ => rfl | exact g60c.2 102 (by decide) | exact g76c.2 102 (by decide))
        · skip
          refine mm_aload_n C (mm_dec dk_X12_sets 38 rfl) rfl ?_
          refine mm_iconst C (mm_dec dk_X12_sets 39 rfl) ⟨by decide, by decide⟩ ?_
          refine mm_cVv (rest := []) C1 ev_X12_417 (mm_dec dk_X12_sets 40 rfl) (c_X12_wrong_q x.2.1 hl (d - 1) (by omega) h47c i47c 2 (by omega)) rfl rfl (Nat.le_of_ble_eq_true rfl) ⟨by decide, by decide⟩ rfl (fun h76c hp76 => ?_) (fun _ _ q => q.elim)
          obtain ⟨i76c, g76c, y76_0, y76_1⟩ := hp76
          have f76c : mm_fr [(66, 57), (66, 58), (66, 60), (66, 61), (66, 62), (66, 63), (66, 64), (66, 65), (66, 66)] [102] h h76c := mm_fr_tr f47c g76c (by decide +kernel)
          have q76c_79 : h76c.1 66 60 = h47c.1 66 60 := g76c.1 66 60 (by decide)
          have q76c_80 : h76c.1 66 61 = h47c.1 66 61 := g76c.1 66 61 (by decide)
          have q76c_81 : h76c.1 66 62 = h47c.1 66 62 := g76c.1 66 62 (by decide)
          have q76c_82 : h76c.1 66 63 = h47c.1 66 63 := g76c.1 66 63 (by decide)
          have q76c_83 : h76c.1 66 64 = h47c.1 66 64 := g76c.1 66 64 (by decide)
          have q76c_84 : h76c.1 66 65 = h47c.1 66 65 := g76c.1 66 65 (by decide)
          have q76c_85 : h76c.1 66 69 = h47c.1 66 69 := g76c.1 66 69 (by decide)
          have q76c_86 : h76c.1 66 70 = h47c.1 66 70 := g76c.1 66 70 (by decide)
          have q76c_87 : h76c.1 66 71 = h47c.1 66 71 := g76c.1 66 71 (by decide)
          have g88 : -2147483648 ≤ (h76c.1 66 57) ∧ (h76c.1 66 57) ≤ 2147483647 := i76c.1 66 57
          have g89 : -2147483648 ≤ (h76c.1 66 58) ∧ (h76c.1 66 58) ≤ 2147483647 := i76c.1 66 58
          exact J79 h76c i76c f76c (by first | exact mm_sm_rf | exact mm_sm_fr g60c (by decide) | exact mm_sm_fr g76c (by decide)) (by first | exact mm_eY_rf | exact mm_eY_fr g60c (by decide) | exact mm_eY_fr g76c (by decide)) (by have zz := mm_hd9x tg; omega) (by first | exact fun _ => rfl | exact g60c.2 102 (by decide) | exact g76c.2 102 (by decide))
      · skip
        refine mm_aload_n C (mm_dec dk_X12_sets 30 rfl) rfl ?_
        refine mm_iconst C (mm_dec dk_X12_sets 31 rfl) ⟨by decide, by decide⟩ ?_
        refine mm_cVv (rest := []) C1 ev_X12_417 (mm_dec dk_X12_sets 32 rfl) (c_X12_wrong_q x.2.1 hl (d - 1) (by omega) h47c i47c 1 (by omega)) rfl rfl (Nat.le_of_ble_eq_true rfl) ⟨by decide, by decide⟩ rfl (fun h60c hp60 => ?_) (fun _ _ q => q.elim)
        obtain ⟨i60c, g60c, y60_0, y60_1⟩ := hp60
        have f60c : mm_fr [(66, 57), (66, 58), (66, 60), (66, 61), (66, 62), (66, 63), (66, 64), (66, 65), (66, 66)] [102] h h60c := mm_fr_tr f47c g60c (by decide +kernel)
        have q60c_91 : h60c.1 66 60 = h47c.1 66 60 := g60c.1 66 60 (by decide)
        have q60c_92 : h60c.1 66 61 = h47c.1 66 61 := g60c.1 66 61 (by decide)
        have q60c_93 : h60c.1 66 62 = h47c.1 66 62 := g60c.1 66 62 (by decide)
        have q60c_94 : h60c.1 66 63 = h47c.1 66 63 := g60c.1 66 63 (by decide)
        have q60c_95 : h60c.1 66 64 = h47c.1 66 64 := g60c.1 66 64 (by decide)
        have q60c_96 : h60c.1 66 65 = h47c.1 66 65 := g60c.1 66 65 (by decide)
        have q60c_97 : h60c.1 66 69 = h47c.1 66 69 := g60c.1 66 69 (by decide)
        have q60c_98 : h60c.1 66 70 = h47c.1 66 70 := g60c.1 66 70 (by decide)
        have q60c_99 : h60c.1 66 71 = h47c.1 66 71 := g60c.1 66 71 (by decide)
        have g100 : -2147483648 ≤ (h60c.1 66 57) ∧ (h60c.1 66 57) ≤ 2147483647 := i60c.1 66 57
        have g101 : -2147483648 ≤ (h60c.1 66 58) ∧ (h60c.1 66 58) ≤ 2147483647 := i60c.1 66 58
        refine mm_goto (tgt := 79) C (mm_dec dk_X12_sets 33 rfl) (by decide) ?_
        exact J79 h60c i60c f60c (by first | exact mm_sm_rf | exact mm_sm_fr g60c (by decide) | exact mm_sm_fr g76c (by decide)) (by first | exact mm_eY_rf | exact mm_eY_fr g60c (by decide) | exact mm_eY_fr g76c (by decide)) (by have zz := mm_hd9x tg; omega) (by first | exact fun _ => rfl | exact g60c.2 102 (by decide) | exact g76c.2 102 (by decide))
    · skip
      exact mm_vret C T (mm_dec dk_X12_sets 23 rfl) (by decide : 0 ≤ 0) (by decide : 0 ≤ 0) ⟨rfl, ⟨i38_, f38_, by unfold mm_tok; omega, by omega, by first | exact mm_D9_1 t2 w38_2 (mm_ot_rf w38_4) (by omega) (by omega) | exact mm_D9_2 zc9 zs9 w79_1 (mm_ot_rf (fun j => (w79_3 j).trans (z102 j))) (by omega) (by omega) | exact mm_D9_3 zc9 zs9 (by omega) (by omega) (mm_eY_tr w79_1 (mm_eY_pa eh2 (by decide))) z102 (mm_up_pav w79_3 eh2 (fun _ => rfl) (by omega) rfl rfl) (((mm_eY_a w79_1 y47_3).2.2.2.2.1 (by have e1 := w79_1.2.2.1; omega) (by have e3 := w79_1.2.2.2.2.1; omega)).trans (mm_eY_tv w79_1)) (mm_st9_of (mm_eY_a (mm_eY_tr w79_1 (mm_eY_pa eh2 (by decide))) y47_3) y105_3 y105_4 g105c (by decide)) (g105c.2 102 (by decide)), by omega⟩⟩
  refine mm_icmp_eq (tgt := 21) C (mm_dec dk_X12_sets 6 rfl) (by decide) (fun c10 => ?_) (fun c10 => ?_)
  · skip
    refine mm_iload_n C (mm_dec dk_X12_sets 11 rfl) rfl ?_
    refine mm_bipush C (mm_dec dk_X12_sets 12 rfl) ⟨by decide, by decide⟩ ?_
    have J33 : ∀ (w33_0 : mm_cY h ≤ 17) (w33_1 : ¬ (7 ≤ mm_cY h ∧ mm_cY h ≤ 9)), mm_W x 0 0 33 [mR 66, mI p1, mI r1] [] h := by
      intro w33_0 w33_1
      have g102 : -2147483648 ≤ h.1 66 57 ∧ h.1 66 57 ≤ 2147483647 := i0.1 66 57
      have g103 : 0 ≤ h.1 66 69 ∧ h.1 66 69 ≤ 2400 := i0.1 66 69
      have g104 : 0 ≤ h.1 66 70 ∧ h.1 66 70 ≤ 520 := i0.1 66 70
      have g105 : 0 ≤ h.1 66 62 ∧ h.1 66 62 ≤ 500 := i0.1 66 62
      have g106 : 0 ≤ h.1 66 60 ∧ h.1 66 60 ≤ 500 := i0.1 66 60
      have g107 : -2147483648 ≤ h.1 66 61 ∧ h.1 66 61 ≤ 2147483647 := i0.1 66 61
      have g108 : 0 ≤ h.1 66 71 ∧ h.1 66 71 ≤ 6 := i0.1 66 71
      have g109 : -2147483648 ≤ h.1 66 58 ∧ h.1 66 58 ≤ 2147483647 := i0.1 66 58
      have g110 : -2147483648 ≤ h.1 66 63 ∧ h.1 66 63 ≤ 2147483647 := i0.1 66 63
      have g111 : -2147483648 ≤ h.1 66 65 ∧ h.1 66 65 ≤ 2147483647 := i0.1 66 65
      have g112 : -2147483648 ≤ h.1 66 64 ∧ h.1 66 64 ≤ 2147483647 := i0.1 66 64
      refine mm_aload_n C (mm_dec dk_X12_sets 17 rfl) rfl ?_
      refine mm_iconst C (mm_dec dk_X12_sets 18 rfl) ⟨by decide, by decide⟩ ?_
      refine mm_cVv (rest := []) C1 ev_X12_417 (mm_dec dk_X12_sets 19 rfl) (c_X12_wrong_q x.2.1 hl (d - 1) (by omega) h i0 3 (by omega)) rfl rfl (Nat.le_of_ble_eq_true rfl) ⟨by decide, by decide⟩ rfl (fun h35c hp35 => ?_) (fun _ _ q => q.elim)
      obtain ⟨i35c, g35c, y35_0, y35_1⟩ := hp35
      have f35c : mm_fr [(66, 57), (66, 58), (66, 60), (66, 61), (66, 62), (66, 63), (66, 64), (66, 65), (66, 66)] [102] h h35c := mm_fr_tr f0 g35c (by decide +kernel)
      have q35c_114 : h35c.1 66 60 = h.1 66 60 := g35c.1 66 60 (by decide)
      have q35c_115 : h35c.1 66 61 = h.1 66 61 := g35c.1 66 61 (by decide)
      have q35c_116 : h35c.1 66 62 = h.1 66 62 := g35c.1 66 62 (by decide)
      have q35c_117 : h35c.1 66 63 = h.1 66 63 := g35c.1 66 63 (by decide)
      have q35c_118 : h35c.1 66 64 = h.1 66 64 := g35c.1 66 64 (by decide)
      have q35c_119 : h35c.1 66 65 = h.1 66 65 := g35c.1 66 65 (by decide)
      have q35c_120 : h35c.1 66 69 = h.1 66 69 := g35c.1 66 69 (by decide)
      have q35c_121 : h35c.1 66 70 = h.1 66 70 := g35c.1 66 70 (by decide)
      have q35c_122 : h35c.1 66 71 = h.1 66 71 := g35c.1 66 71 (by decide)
      have g123 : -2147483648 ≤ (h35c.1 66 57) ∧ (h35c.1 66 57) ≤ 2147483647 := i35c.1 66 57
      have g124 : -2147483648 ≤ (h35c.1 66 58) ∧ (h35c.1 66 58) ≤ 2147483647 := i35c.1 66 58
      exact J38 h35c i35c f35c (by first | exact mm_sm_rf | exact mm_sm_fr g15c (by decide) | exact mm_sm_fr g35c (by decide)) (by omega) (by first | exact mm_eY_rf | exact mm_eY_fr g15c (by decide) | exact mm_eY_fr g35c (by decide)) (by first | (have zk := mm_kw9_x y1_1; have zz := mm_hd9x tf; omega) | (have zz := mm_hd9x tf; omega)) (by first | exact fun _ => rfl | exact g15c.2 102 (by decide) | exact g35c.2 102 (by decide))
    refine mm_icmp_lt (tgt := 33) C (mm_dec dk_X12_sets 13 rfl) (by decide) (fun c24 => ?_) (fun c24 => ?_)
    · skip
      exact J33 (by have zk := mm_kw9_x y1_1; have zz := mm_hd9x tf; omega) (by have zk := mm_kw9_x y1_1; have zz := mm_hd9x tf; omega)
    · skip
      refine mm_iload_n C (mm_dec dk_X12_sets 14 rfl) rfl ?_
      refine mm_bipush C (mm_dec dk_X12_sets 15 rfl) ⟨by decide, by decide⟩ ?_
      refine mm_icmp_lt (tgt := 38) C (mm_dec dk_X12_sets 16 rfl) (by decide) (fun c30 => ?_) (fun c30 => ?_)
      · skip
        exact J38 h i0 f0 (by first | exact mm_sm_rf | exact mm_sm_fr g15c (by decide) | exact mm_sm_fr g35c (by decide)) (by omega) (by first | exact mm_eY_rf | exact mm_eY_fr g15c (by decide) | exact mm_eY_fr g35c (by decide)) (by first | (have zk := mm_kw9_x y1_1; have zz := mm_hd9x tf; omega) | (have zz := mm_hd9x tf; omega)) (by first | exact fun _ => rfl | exact g15c.2 102 (by decide) | exact g35c.2 102 (by decide))
      · skip
        exact J33 (by have zk := mm_kw9_x y1_1; have zz := mm_hd9x tf; omega) (by have zk := mm_kw9_x y1_1; have zz := mm_hd9x tf; omega)
  · skip
    refine mm_aload_n C (mm_dec dk_X12_sets 7 rfl) rfl ?_
    refine mm_iconst C (mm_dec dk_X12_sets 8 rfl) ⟨by decide, by decide⟩ ?_
    refine mm_cVv (rest := []) C1 ev_X12_417 (mm_dec dk_X12_sets 9 rfl) (c_X12_wrong_q x.2.1 hl (d - 1) (by omega) h i0 1 (by omega)) rfl rfl (Nat.le_of_ble_eq_true rfl) ⟨by decide, by decide⟩ rfl (fun h15c hp15 => ?_) (fun _ _ q => q.elim)
    obtain ⟨i15c, g15c, y15_0, y15_1⟩ := hp15
    have f15c : mm_fr [(66, 57), (66, 58), (66, 60), (66, 61), (66, 62), (66, 63), (66, 64), (66, 65), (66, 66)] [102] h h15c := mm_fr_tr f0 g15c (by decide +kernel)
    have q15c_126 : h15c.1 66 60 = h.1 66 60 := g15c.1 66 60 (by decide)
    have q15c_127 : h15c.1 66 61 = h.1 66 61 := g15c.1 66 61 (by decide)
    have q15c_128 : h15c.1 66 62 = h.1 66 62 := g15c.1 66 62 (by decide)
    have q15c_129 : h15c.1 66 63 = h.1 66 63 := g15c.1 66 63 (by decide)
    have q15c_130 : h15c.1 66 64 = h.1 66 64 := g15c.1 66 64 (by decide)
    have q15c_131 : h15c.1 66 65 = h.1 66 65 := g15c.1 66 65 (by decide)
    have q15c_132 : h15c.1 66 69 = h.1 66 69 := g15c.1 66 69 (by decide)
    have q15c_133 : h15c.1 66 70 = h.1 66 70 := g15c.1 66 70 (by decide)
    have q15c_134 : h15c.1 66 71 = h.1 66 71 := g15c.1 66 71 (by decide)
    have g135 : -2147483648 ≤ (h15c.1 66 57) ∧ (h15c.1 66 57) ≤ 2147483647 := i15c.1 66 57
    have g136 : -2147483648 ≤ (h15c.1 66 58) ∧ (h15c.1 66 58) ≤ 2147483647 := i15c.1 66 58
    refine mm_goto (tgt := 38) C (mm_dec dk_X12_sets 10 rfl) (by decide) ?_
    exact J38 h15c i15c f15c (by first | exact mm_sm_rf | exact mm_sm_fr g15c (by decide) | exact mm_sm_fr g35c (by decide)) (by omega) (by first | exact mm_eY_rf | exact mm_eY_fr g15c (by decide) | exact mm_eY_fr g35c (by decide)) (by first | (have zk := mm_kw9_x y1_1; have zz := mm_hd9x tf; omega) | (have zz := mm_hd9x tf; omega)) (by first | exact fun _ => rfl | exact g15c.2 102 (by decide) | exact g35c.2 102 (by decide))
set_option maxRecDepth 100000 in
set_option maxHeartbeats 4000000 in
theorem c_X12_clause_q (l : Launch) (hl : l.stackTraces = false) (d : Nat) (hd : 6 ≤ d) (h : mH) (i0 : mm_inv h) (p1 : Int) (bp1 : 0 ≤ p1 ∧ p1 ≤ 1) (t0 : mm_tok h) (t1 : h.1 66 57 = 0) (t2 : h.1 66 61 ≠ 0) (t3 : 1200 * p1 ≤ h.1 66 69) (t4 : h.1 66 69 ≤ 1200 * p1 + 2 * h.1 66 62) (t5 : mm_cg h p1 (h.1 66 69)) (t6 : mm_aY h) : mm_Met l d yX12_clause cX12_clause 4 none [mR 66, mI p1] h (mm_pv fun h2 => mm_inv h2 ∧ mm_fr [(66, 57), (66, 58), (66, 60), (66, 61), (66, 62), (66, 63), (66, 64), (66, 65), (66, 66), (66, 69), (66, 70), (66, 71)] [102, 103, 104, 105, 106, 107, 108, 109] h h2 ∧ mm_rl h h2 p1 ∧ (h2.1 66 57 = 0 → h.1 66 62 + 1 ≤ h2.1 66 62) ∧ mm_C9 p1 h h2 ∧ (h2.1 66 57 ≠ 0 ∨ (h.1 66 57 = 0 ∧ h2.1 66 58 = h.1 66 58))) mm_nx 0 0 := by
  refine mm_ofW (ls := [mR 66, mI p1, mU, mU]) hl (by decide) rfl (Nat.le_of_ble_eq_true rfl) ?_
  intro x hxl C T hnm htb
  subst hxl
  have C1 := mm_OK_le (d' := d - 1 + 1) (by omega) C
  refine mm_rng (fun hr _ => ?_)
  have ap1 : -2147483648 ≤ p1 ∧ p1 < 2147483648 := mm_ok_at hr (i := 1) rfl
  have f0 : mm_fr [(66, 57), (66, 58), (66, 60), (66, 61), (66, 62), (66, 63), (66, 64), (66, 65), (66, 66), (66, 69), (66, 70), (66, 71)] [102, 103, 104, 105, 106, 107, 108, 109] h h := mm_fr_rf
  have g1 : -2147483648 ≤ h.1 66 57 ∧ h.1 66 57 ≤ 2147483647 := i0.1 66 57
  have g2 : 0 ≤ h.1 66 69 ∧ h.1 66 69 ≤ 2400 := i0.1 66 69
  have g3 : 0 ≤ h.1 66 70 ∧ h.1 66 70 ≤ 520 := i0.1 66 70
  have g4 : 0 ≤ h.1 66 62 ∧ h.1 66 62 ≤ 500 := i0.1 66 62
  have g5 : 0 ≤ h.1 66 60 ∧ h.1 66 60 ≤ 500 := i0.1 66 60
  have g6 : -2147483648 ≤ h.1 66 61 ∧ h.1 66 61 ≤ 2147483647 := i0.1 66 61
  have g7 : 0 ≤ h.1 66 71 ∧ h.1 66 71 ≤ 6 := i0.1 66 71
  have g8 : -2147483648 ≤ h.1 66 58 ∧ h.1 66 58 ≤ 2147483647 := i0.1 66 58
  have g9 : -2147483648 ≤ h.1 66 63 ∧ h.1 66 63 ≤ 2147483647 := i0.1 66 63
  have g10 : -2147483648 ≤ h.1 66 65 ∧ h.1 66 65 ≤ 2147483647 := i0.1 66 65
  have tf := mm_cY_h t6
  refine mm_aload_n C (mm_dec dk_X12_clause 0 rfl) rfl ?_
  refine mm_cVi (rest := []) C1 ev_X12_419 (mm_dec dk_X12_clause 1 rfl) (c_X12_knownWord_q x.2.1 hl (d - 1) (by omega) h i0 (by first | exact t6 | omega)) rfl rfl (Nat.le_of_ble_eq_true rfl) ⟨by decide, by decide⟩ rfl (fun r1 h1c hp1 => ?_) (fun _ _ q => q.elim)
  obtain ⟨b1, z1, y1_0, y1_1⟩ := hp1
  rw [z1]
  refine mm_istore_nL (ls2 := [mR 66, mI p1, mI r1, mU]) C (mm_dec dk_X12_clause 2 rfl) (by decide) rfl ?_
  refine mm_iload_n C (mm_dec dk_X12_clause 3 rfl) rfl ?_
  have J24 : ∀ (h24_ : mH) (i24_ : mm_inv h24_) (f24_ : mm_fr [(66, 57), (66, 58), (66, 60), (66, 61), (66, 62), (66, 63), (66, 64), (66, 65), (66, 66), (66, 69), (66, 70), (66, 71)] [102, 103, 104, 105, 106, 107, 108, 109] h h24_) (w24_0 : mm_fr [(66, 57), (66, 58)] [] h h24_) (w24_1 : (h24_.1 66 57 = 0 → (r1 = 0 ∨ r1 = 1 ∨ r1 = 3))) (w24_2 : mm_eY h h24_) (w24_3 : ((h24_.1 66 57 = 0 ∧ h24_.1 66 58 = h.1 66 58 ∧ 0 ≤ mm_cY h ∧ mm_cY h ≤ 2) ∨ (h24_.1 66 57 = 1 ∧ h24_.1 66 58 = h.1 66 62 ∧ ¬ (0 ≤ mm_cY h ∧ mm_cY h ≤ 2)))), mm_W x 0 0 24 [mR 66, mI p1, mI r1, mU] [] h24_ := by
    intro h24_ i24_ f24_ w24_0 w24_1 w24_2 w24_3
    have g12 : -2147483648 ≤ h24_.1 66 57 ∧ h24_.1 66 57 ≤ 2147483647 := i24_.1 66 57
    have g13 : 0 ≤ h24_.1 66 69 ∧ h24_.1 66 69 ≤ 2400 := i24_.1 66 69
    have g14 : 0 ≤ h24_.1 66 70 ∧ h24_.1 66 70 ≤ 520 := i24_.1 66 70
    have g15 : 0 ≤ h24_.1 66 62 ∧ h24_.1 66 62 ≤ 500 := i24_.1 66 62
    have g16 : 0 ≤ h24_.1 66 60 ∧ h24_.1 66 60 ≤ 500 := i24_.1 66 60
    have g17 : -2147483648 ≤ h24_.1 66 61 ∧ h24_.1 66 61 ≤ 2147483647 := i24_.1 66 61
    have g18 : 0 ≤ h24_.1 66 71 ∧ h24_.1 66 71 ≤ 6 := i24_.1 66 71
    have g19 : -2147483648 ≤ h24_.1 66 58 ∧ h24_.1 66 58 ≤ 2147483647 := i24_.1 66 58
    have g20 : -2147483648 ≤ h24_.1 66 63 ∧ h24_.1 66 63 ≤ 2147483647 := i24_.1 66 63
    have g21 : -2147483648 ≤ h24_.1 66 65 ∧ h24_.1 66 65 ≤ 2147483647 := i24_.1 66 65
    have z62 : h24_.1 66 62 = h.1 66 62 := w24_2.2.2.2.1
    have z24 : h24_.2.1 103 p1 = h.2.1 103 p1 := w24_0.2 103 (by decide) _
    refine mm_aload_n C (mm_dec dk_X12_clause 14 rfl) rfl ?_
    refine mm_getr (t := 103) C fl_X12_120 (mm_dec dk_X12_clause 15 rfl) rfl rfl (mm_ref i24_ rfl) ?_
    refine mm_iload_n C (mm_dec dk_X12_clause 16 rfl) rfl ?_
    refine mm_iald C (mm_dec dk_X12_clause 17 rfl) rfl (by omega) (by omega) ?_
    have g22 : 0 ≤ (h24_.2.1 103 p1) ∧ (h24_.2.1 103 p1) ≤ 20 := i24_.2.1 103 p1
    refine mm_bipush C (mm_dec dk_X12_clause 18 rfl) ⟨by decide, by decide⟩ ?_
    have J40 : ∀ (h40_ : mH) (i40_ : mm_inv h40_) (f40_ : mm_fr [(66, 57), (66, 58), (66, 60), (66, 61), (66, 62), (66, 63), (66, 64), (66, 65), (66, 66), (66, 69), (66, 70), (66, 71)] [102, 103, 104, 105, 106, 107, 108, 109] h h40_) (w40_0 : mm_fr [(66, 57), (66, 58)] [] h h40_) (w40_1 : (h40_.1 66 57 = 0 → (r1 = 0 ∨ r1 = 1 ∨ r1 = 3) ∧ h40_.2.1 103 p1 ≤ 19)) (w40_2 : mm_eY h h40_) (w40_3 : ((h40_.1 66 57 = 0 ∧ h40_.1 66 58 = h.1 66 58 ∧ 0 ≤ mm_cY h ∧ mm_cY h ≤ 2 ∧ h.2.1 103 p1 ≤ 19) ∨ (h40_.1 66 58 = h.1 66 62 ∧ ((¬ (0 ≤ mm_cY h ∧ mm_cY h ≤ 2) ∧ h40_.1 66 57 = 1) ∨ ((0 ≤ mm_cY h ∧ mm_cY h ≤ 2) ∧ 20 ≤ h.2.1 103 p1 ∧ h40_.1 66 57 = 2))))), mm_W x 0 0 40 [mR 66, mI p1, mI r1, mU] [] h40_ := by
      intro h40_ i40_ f40_ w40_0 w40_1 w40_2 w40_3
      have g23 : -2147483648 ≤ h40_.1 66 57 ∧ h40_.1 66 57 ≤ 2147483647 := i40_.1 66 57
      have g24 : 0 ≤ h40_.1 66 69 ∧ h40_.1 66 69 ≤ 2400 := i40_.1 66 69
      have g25 : 0 ≤ h40_.1 66 70 ∧ h40_.1 66 70 ≤ 520 := i40_.1 66 70
      have g26 : 0 ≤ h40_.1 66 62 ∧ h40_.1 66 62 ≤ 500 := i40_.1 66 62
      have g27 : 0 ≤ h40_.1 66 60 ∧ h40_.1 66 60 ≤ 500 := i40_.1 66 60
      have g28 : -2147483648 ≤ h40_.1 66 61 ∧ h40_.1 66 61 ≤ 2147483647 := i40_.1 66 61
      have g29 : 0 ≤ h40_.1 66 71 ∧ h40_.1 66 71 ≤ 6 := i40_.1 66 71
      have g30 : -2147483648 ≤ h40_.1 66 58 ∧ h40_.1 66 58 ≤ 2147483647 := i40_.1 66 58
      have g31 : -2147483648 ≤ h40_.1 66 63 ∧ h40_.1 66 63 ≤ 2147483647 := i40_.1 66 63
      have g32 : -2147483648 ≤ h40_.1 66 65 ∧ h40_.1 66 65 ≤ 2147483647 := i40_.1 66 65
      have z62b : h40_.1 66 62 = h.1 66 62 := w40_2.2.2.2.1
      have z40 : h40_.2.1 103 p1 = h.2.1 103 p1 := w40_0.2 103 (by decide) _
      refine mm_aload_n C (mm_dec dk_X12_clause 23 rfl) rfl ?_
      refine mm_cVi (rest := []) C1 ev_X12_413 (mm_dec dk_X12_clause 24 rfl) (c_X12_isGood x.2.1 hl (d - 1) (by omega) h40_ i40_ ) rfl rfl (Nat.le_of_ble_eq_true rfl) ⟨by decide, by decide⟩ rfl (fun r41 h41c hp41 => ?_) (fun _ _ q => q.elim)
      obtain ⟨z41, y41⟩ := hp41
      rw [z41]
      refine mm_if_ne (tgt := 48) C (mm_dec dk_X12_clause 25 rfl) (by decide) (fun c44 => ?_) (fun c44 => ?_)
      · skip
        refine mm_bipush C (mm_dec dk_X12_clause 27 rfl) ⟨by decide, by decide⟩ ?_
        refine mm_iload_n C (mm_dec dk_X12_clause 28 rfl) rfl ?_
        refine mm_imul C (mm_dec dk_X12_clause 29 rfl) ⟨by omega, by omega⟩ ?_
        refine mm_aload_n C (mm_dec dk_X12_clause 30 rfl) rfl ?_
        refine mm_getr (t := 103) C fl_X12_120 (mm_dec dk_X12_clause 31 rfl) rfl rfl (mm_ref i40_ rfl) ?_
        refine mm_iload_n C (mm_dec dk_X12_clause 32 rfl) rfl ?_
        refine mm_iald C (mm_dec dk_X12_clause 33 rfl) rfl (by omega) (by omega) ?_
        have g34 : 0 ≤ (h40_.2.1 103 p1) ∧ (h40_.2.1 103 p1) ≤ 20 := i40_.2.1 103 p1
        refine mm_iadd C (mm_dec dk_X12_clause 34 rfl) ⟨by omega, by omega⟩ ?_
        refine mm_istore_nL (ls2 := [mR 66, mI p1, mI r1, mI ((20 * p1) + (h40_.2.1 103 p1))]) C (mm_dec dk_X12_clause 35 rfl) (by decide) rfl ?_
        refine mm_aload_n C (mm_dec dk_X12_clause 36 rfl) rfl ?_
        refine mm_getr (t := 103) C fl_X12_120 (mm_dec dk_X12_clause 37 rfl) rfl rfl (mm_ref i40_ rfl) ?_
        refine mm_iload_n C (mm_dec dk_X12_clause 38 rfl) rfl ?_
        refine mm_dup2 C (mm_dec dk_X12_clause 39 rfl) (show (0 : Nat) ≠ 1 by decide) (show (2 : Nat) ≠ 1 by decide) ?_
        refine mm_iald C (mm_dec dk_X12_clause 40 rfl) rfl (by omega) (by omega) ?_
        refine mm_iconst C (mm_dec dk_X12_clause 41 rfl) ⟨by decide, by decide⟩ ?_
        refine mm_iadd C (mm_dec dk_X12_clause 42 rfl) ⟨by omega, by omega⟩ ?_
        refine mm_iast C (mm_dec dk_X12_clause 43 rfl) rfl (by omega) (by omega) ?_
        have i1 : mm_inv (mm_pa h40_ 103 p1 ((h40_.2.1 103 p1) + 1)) := mm_inv_pa i40_ (show 0 ≤ ((h40_.2.1 103 p1) + 1) ∧ ((h40_.2.1 103 p1) + 1) ≤ 20 from ⟨by omega, by omega⟩)
        have f1 : mm_fr [(66, 57), (66, 58), (66, 60), (66, 61), (66, 62), (66, 63), (66, 64), (66, 65), (66, 66), (66, 69), (66, 70), (66, 71)] [102, 103, 104, 105, 106, 107, 108, 109] h (mm_pa h40_ 103 p1 ((h40_.2.1 103 p1) + 1)) := mm_fr_pa f40_ (by decide)
        obtain ⟨h1, eh1⟩ : ∃ z, z = mm_pa h40_ 103 p1 ((h40_.2.1 103 p1) + 1) := ⟨_, rfl⟩
        rw [← eh1] at i1 f1 ⊢
        have qh1_35 : h1.1 66 57 = h40_.1 66 57 := by rw [eh1]; rfl
        have qh1_36 : h1.1 66 58 = h40_.1 66 58 := by rw [eh1]; rfl
        have qh1_37 : h1.1 66 60 = h40_.1 66 60 := by rw [eh1]; rfl
        have qh1_38 : h1.1 66 61 = h40_.1 66 61 := by rw [eh1]; rfl
        have qh1_39 : h1.1 66 62 = h40_.1 66 62 := by rw [eh1]; rfl
        have qh1_40 : h1.1 66 63 = h40_.1 66 63 := by rw [eh1]; rfl
        have qh1_41 : h1.1 66 65 = h40_.1 66 65 := by rw [eh1]; rfl
        have qh1_42 : h1.1 66 69 = h40_.1 66 69 := by rw [eh1]; rfl
        have qh1_43 : h1.1 66 70 = h40_.1 66 70 := by rw [eh1]; rfl
        have qh1_44 : h1.1 66 71 = h40_.1 66 71 := by rw [eh1]; rfl
        refine mm_aload_n C (mm_dec dk_X12_clause 44 rfl) rfl ?_
        refine mm_getr (t := 104) C fl_X12_123 (mm_dec dk_X12_clause 45 rfl) rfl rfl (mm_ref i1 rfl) ?_
        refine mm_iload_n C (mm_dec dk_X12_clause 46 rfl) rfl ?_
        refine mm_iload_n C (mm_dec dk_X12_clause 47 rfl) rfl ?_
        refine mm_iast C (mm_dec dk_X12_clause 48 rfl) rfl (by omega) (by omega) ?_
        have i2 : mm_inv (mm_pa h1 104 ((20 * p1) + (h40_.2.1 103 p1)) r1) := mm_inv_pa i1 (show -2147483648 ≤ r1 ∧ r1 ≤ 2147483647 from ⟨by omega, by omega⟩)
        have f2 : mm_fr [(66, 57), (66, 58), (66, 60), (66, 61), (66, 62), (66, 63), (66, 64), (66, 65), (66, 66), (66, 69), (66, 70), (66, 71)] [102, 103, 104, 105, 106, 107, 108, 109] h (mm_pa h1 104 ((20 * p1) + (h40_.2.1 103 p1)) r1) := mm_fr_pa f1 (by decide)
        obtain ⟨h2, eh2⟩ : ∃ z, z = mm_pa h1 104 ((20 * p1) + (h40_.2.1 103 p1)) r1 := ⟨_, rfl⟩
        rw [← eh2] at i2 f2 ⊢
        have qh2_45 : h2.1 66 57 = h1.1 66 57 := by rw [eh2]; rfl
        have qh2_46 : h2.1 66 58 = h1.1 66 58 := by rw [eh2]; rfl
        have qh2_47 : h2.1 66 60 = h1.1 66 60 := by rw [eh2]; rfl
        have qh2_48 : h2.1 66 61 = h1.1 66 61 := by rw [eh2]; rfl
        have qh2_49 : h2.1 66 62 = h1.1 66 62 := by rw [eh2]; rfl
        have qh2_50 : h2.1 66 63 = h1.1 66 63 := by rw [eh2]; rfl
        have qh2_51 : h2.1 66 65 = h1.1 66 65 := by rw [eh2]; rfl
        have qh2_52 : h2.1 66 69 = h1.1 66 69 := by rw [eh2]; rfl
        have qh2_53 : h2.1 66 70 = h1.1 66 70 := by rw [eh2]; rfl
        have qh2_54 : h2.1 66 71 = h1.1 66 71 := by rw [eh2]; rfl
        refine mm_aload_n C (mm_dec dk_X12_clause 49 rfl) rfl ?_
        refine mm_cVv (rest := []) C1 ev_X12_423 (mm_dec dk_X12_clause 50 rfl) (c_X12_goes_q x.2.1 hl (d - 1) (by omega) h2 i2 ) rfl rfl (Nat.le_of_ble_eq_true rfl) ⟨by decide, by decide⟩ rfl (fun h78c hp78 => ?_) (fun _ _ q => q.elim)
        obtain ⟨i78c, g78c, y78_0, y78_1, y78_2, y78_3, y78_4⟩ := hp78
        have f78c : mm_fr [(66, 57), (66, 58), (66, 60), (66, 61), (66, 62), (66, 63), (66, 64), (66, 65), (66, 66), (66, 69), (66, 70), (66, 71)] [102, 103, 104, 105, 106, 107, 108, 109] h h78c := mm_fr_tr f2 g78c (by decide +kernel)
        have q78c_56 : h78c.1 66 57 = h2.1 66 57 := g78c.1 66 57 (by decide)
        have q78c_57 : h78c.1 66 58 = h2.1 66 58 := g78c.1 66 58 (by decide)
        have q78c_58 : h78c.1 66 69 = h2.1 66 69 := g78c.1 66 69 (by decide)
        have q78c_59 : h78c.1 66 70 = h2.1 66 70 := g78c.1 66 70 (by decide)
        have q78c_60 : h78c.1 66 71 = h2.1 66 71 := g78c.1 66 71 (by decide)
        have g61 : 0 ≤ (h78c.1 66 62) ∧ (h78c.1 66 62) ≤ 500 := i78c.1 66 62
        have g62 : 0 ≤ (h78c.1 66 60) ∧ (h78c.1 66 60) ≤ 500 := i78c.1 66 60
        have g63 : -2147483648 ≤ (h78c.1 66 61) ∧ (h78c.1 66 61) ≤ 2147483647 := i78c.1 66 61
        have g64 : -2147483648 ≤ (h78c.1 66 63) ∧ (h78c.1 66 63) ≤ 2147483647 := i78c.1 66 63
        have g65 : -2147483648 ≤ (h78c.1 66 65) ∧ (h78c.1 66 65) ≤ 2147483647 := i78c.1 66 65
        have zK := mm_cl_open i40_ t0 (by omega) t5 w40_0 (by omega) (by omega) eh1 eh2 g78c y78_0 y78_1 y78_2
        have zk1 := zK.2.2.1
        have zk2 := zK.2.2.2.1
        have zs9 := mm_st9_e (mm_eY_tr w40_2 (mm_eY_tr (mm_eY_pa eh1 (by decide)) (mm_eY_pa eh2 (by decide)))) (mm_st9_of (mm_eY_a (mm_eY_tr w40_2 (mm_eY_tr (mm_eY_pa eh1 (by decide)) (mm_eY_pa eh2 (by decide)))) t6) y78_3 y78_4 g78c (by decide))
        have z102 : ∀ j, h78c.2.1 102 j = h.2.1 102 j := fun j => (g78c.2 102 (by decide) j).trans ((mm_sm_pa 102 eh2 (by decide) j).trans ((mm_sm_pa 102 eh1 (by decide) j).trans (w40_0.2 102 (by decide) j)))
        have z103 : h78c.2.1 103 p1 = h.2.1 103 p1 + 1 := (g78c.2 103 (by decide) _).trans ((mm_sm_pa 103 eh2 (by decide) p1).trans (by rw [eh1, mm_pa_same]; omega))
        refine mm_iload_n C (mm_dec dk_X12_clause 51 rfl) rfl ?_
        refine mm_iconst C (mm_dec dk_X12_clause 52 rfl) ⟨by decide, by decide⟩ ?_
        have J140 : ∀ (h140_ : mH) (i140_ : mm_inv h140_) (f140_ : mm_fr [(66, 57), (66, 58), (66, 60), (66, 61), (66, 62), (66, 63), (66, 64), (66, 65), (66, 66), (66, 69), (66, 70), (66, 71)] [102, 103, 104, 105, 106, 107, 108, 109] h h140_) (w140_0 : mm_rl h h140_ p1) (w140_1 : (h140_.1 66 57 = 0 → h.1 66 62 + 1 ≤ h140_.1 66 62)) (w140_2 : mm_B9 p1 h h140_) (w140_3 : (h140_.1 66 57 ≠ 0 ∨ (h.1 66 57 = 0 ∧ h140_.1 66 58 = h.1 66 58))), mm_W x 0 0 140 [mR 66, mU, mU, mU] [] h140_ := by
          intro h140_ i140_ f140_ w140_0 w140_1 w140_2 w140_3
          have g66 : -2147483648 ≤ h140_.1 66 57 ∧ h140_.1 66 57 ≤ 2147483647 := i140_.1 66 57
          have g67 : 0 ≤ h140_.1 66 69 ∧ h140_.1 66 69 ≤ 2400 := i140_.1 66 69
          have g68 : 0 ≤ h140_.1 66 70 ∧ h140_.1 66 70 ≤ 520 := i140_.1 66 70
          have g69 : 0 ≤ h140_.1 66 62 ∧ h140_.1 66 62 ≤ 500 := i140_.1 66 62
          have g70 : 0 ≤ h140_.1 66 60 ∧ h140_.1 66 60 ≤ 500 := i140_.1 66 60
          have g71 : -2147483648 ≤ h140_.1 66 61 ∧ h140_.1 66 61 ≤ 2147483647 := i140_.1 66 61
          have g72 : 0 ≤ h140_.1 66 71 ∧ h140_.1 66 71 ≤ 6 := i140_.1 66 71
          have g73 : -2147483648 ≤ h140_.1 66 58 ∧ h140_.1 66 58 ≤ 2147483647 := i140_.1 66 58
          have g74 : -2147483648 ≤ h140_.1 66 63 ∧ h140_.1 66 63 ≤ 2147483647 := i140_.1 66 63
          have g75 : -2147483648 ≤ h140_.1 66 65 ∧ h140_.1 66 65 ≤ 2147483647 := i140_.1 66 65
          have zq1 := w140_0.2.1.1
          have tfB := mm_cY_h w140_2.2.1
          refine mm_aload_n C (mm_dec dk_X12_clause 84 rfl) rfl ?_
          refine mm_cVi (rest := []) C1 ev_X12_413 (mm_dec dk_X12_clause 85 rfl) (c_X12_isGood x.2.1 hl (d - 1) (by omega) h140_ i140_ ) rfl rfl (Nat.le_of_ble_eq_true rfl) ⟨by decide, by decide⟩ rfl (fun r141 h141c hp141 => ?_) (fun _ _ q => q.elim)
          obtain ⟨z141, y141⟩ := hp141
          rw [z141]
          refine mm_if_ne (tgt := 148) C (mm_dec dk_X12_clause 86 rfl) (by decide) (fun c144 => ?_) (fun c144 => ?_)
          · skip
            refine mm_aload_n C (mm_dec dk_X12_clause 88 rfl) rfl ?_
            refine mm_bipush C (mm_dec dk_X12_clause 89 rfl) ⟨by decide, by decide⟩ ?_
            refine mm_cVi (rest := []) C1 ev_X12_429 (mm_dec dk_X12_clause 90 rfl) (c_X12_isSign x.2.1 hl (d - 1) (by omega) h140_ i140_ 59) rfl rfl (Nat.le_of_ble_eq_true rfl) ⟨by decide, by decide⟩ rfl (fun r151 h151c hp151 => ?_) (fun _ _ q => q.elim)
            obtain ⟨z151, y151⟩ := hp151
            rw [z151]
            have J169 : ∀ (h169_ : mH) (i169_ : mm_inv h169_) (f169_ : mm_fr [(66, 57), (66, 58), (66, 60), (66, 61), (66, 62), (66, 63), (66, 64), (66, 65), (66, 66), (66, 69), (66, 70), (66, 71)] [102, 103, 104, 105, 106, 107, 108, 109] h h169_) (w169_0 : mm_rl h h169_ p1) (w169_1 : (h169_.1 66 57 = 0 → h.1 66 62 + 1 ≤ h169_.1 66 62)) (w169_2 : mm_C9 p1 h h169_) (w169_3 : (h169_.1 66 57 ≠ 0 ∨ (h.1 66 57 = 0 ∧ h169_.1 66 58 = h.1 66 58))), mm_W x 0 0 169 [mU, mU, mU, mU] [] h169_ := by
              intro h169_ i169_ f169_ w169_0 w169_1 w169_2 w169_3
              have g78 : -2147483648 ≤ h169_.1 66 57 ∧ h169_.1 66 57 ≤ 2147483647 := i169_.1 66 57
              have g79 : 0 ≤ h169_.1 66 69 ∧ h169_.1 66 69 ≤ 2400 := i169_.1 66 69
              have g80 : 0 ≤ h169_.1 66 70 ∧ h169_.1 66 70 ≤ 520 := i169_.1 66 70
              have g81 : 0 ≤ h169_.1 66 62 ∧ h169_.1 66 62 ≤ 500 := i169_.1 66 62
              have g82 : 0 ≤ h169_.1 66 60 ∧ h169_.1 66 60 ≤ 500 := i169_.1 66 60
              have g83 : -2147483648 ≤ h169_.1 66 61 ∧ h169_.1 66 61 ≤ 2147483647 := i169_.1 66 61
              have g84 : 0 ≤ h169_.1 66 71 ∧ h169_.1 66 71 ≤ 6 := i169_.1 66 71
              have g85 : -2147483648 ≤ h169_.1 66 58 ∧ h169_.1 66 58 ≤ 2147483647 := i169_.1 66 58
              have g86 : -2147483648 ≤ h169_.1 66 63 ∧ h169_.1 66 63 ≤ 2147483647 := i169_.1 66 63
              have g87 : -2147483648 ≤ h169_.1 66 65 ∧ h169_.1 66 65 ≤ 2147483647 := i169_.1 66 65
              exact mm_vret C T (mm_dec dk_X12_clause 98 rfl) (by decide : 0 ≤ 0) (by decide : 0 ≤ 0) ⟨rfl, ⟨i169_, f169_, by first | exact w169_0 | exact w140_0 | exact mm_rl_bad w40_0 (by omega) t0 (by omega) (by omega), by omega, by first | exact w169_2 | exact mm_C9_B w140_2 (by omega) rfl | exact mm_C9_no t6 (by have zz := mm_hd9x tf; omega) w40_2 (w40_0.2 102 (by decide)) (by omega) (by omega) (by omega), by omega⟩⟩
            refine mm_if_eq (tgt := 164) C (mm_dec dk_X12_clause 91 rfl) (by decide) (fun c154 => ?_) (fun c154 => ?_)
            · skip
              refine mm_aload_n C (mm_dec dk_X12_clause 95 rfl) rfl ?_
              refine mm_iconst C (mm_dec dk_X12_clause 96 rfl) ⟨by decide, by decide⟩ ?_
              refine mm_cVv (rest := []) C1 ev_X12_417 (mm_dec dk_X12_clause 97 rfl) (c_X12_wrong_q x.2.1 hl (d - 1) (by omega) h140_ i140_ 1 (by omega)) rfl rfl (Nat.le_of_ble_eq_true rfl) ⟨by decide, by decide⟩ rfl (fun h166c hp166 => ?_) (fun _ _ q => q.elim)
              obtain ⟨i166c, g166c, y166_0, y166_1⟩ := hp166
              have f166c : mm_fr [(66, 57), (66, 58), (66, 60), (66, 61), (66, 62), (66, 63), (66, 64), (66, 65), (66, 66), (66, 69), (66, 70), (66, 71)] [102, 103, 104, 105, 106, 107, 108, 109] h h166c := mm_fr_tr f140_ g166c (by decide +kernel)
              have q166c_89 : h166c.1 66 60 = h140_.1 66 60 := g166c.1 66 60 (by decide)
              have q166c_90 : h166c.1 66 61 = h140_.1 66 61 := g166c.1 66 61 (by decide)
              have q166c_91 : h166c.1 66 62 = h140_.1 66 62 := g166c.1 66 62 (by decide)
              have q166c_92 : h166c.1 66 63 = h140_.1 66 63 := g166c.1 66 63 (by decide)
              have q166c_93 : h166c.1 66 65 = h140_.1 66 65 := g166c.1 66 65 (by decide)
              have q166c_94 : h166c.1 66 69 = h140_.1 66 69 := g166c.1 66 69 (by decide)
              have q166c_95 : h166c.1 66 70 = h140_.1 66 70 := g166c.1 66 70 (by decide)
              have q166c_96 : h166c.1 66 71 = h140_.1 66 71 := g166c.1 66 71 (by decide)
              have g97 : -2147483648 ≤ (h166c.1 66 57) ∧ (h166c.1 66 57) ≤ 2147483647 := i166c.1 66 57
              have g98 : -2147483648 ≤ (h166c.1 66 58) ∧ (h166c.1 66 58) ≤ 2147483647 := i166c.1 66 58
              refine mm_fgt 0 ?_
              exact J169 h166c i166c f166c (by first | exact mm_rl_go w140_0 g158c y158_0 y158_1 y158_2 | exact mm_rl_no w140_0 g166c y166_0) (by first | omega) (by first | exact mm_C9_sc w140_2 (by omega) (by have zz := mm_hd9x tfB; omega) (mm_st9_of w140_2.2.1 y158_3 y158_4 g158c (by decide)) ⟨by omega, by omega⟩ (g158c.2 102 (by decide)) (g158c.2 103 (by decide) _) | exact mm_C9_ns w140_2 (by omega) (by have zz := mm_hd9x tfB; omega) (mm_eY_fr g166c (by decide)) (g166c.2 102 (by decide)) (by omega) (by omega)) (by omega)
            · skip
              refine mm_aload_n C (mm_dec dk_X12_clause 92 rfl) rfl ?_
              refine mm_cVv (rest := []) C1 ev_X12_423 (mm_dec dk_X12_clause 93 rfl) (c_X12_goes_q x.2.1 hl (d - 1) (by omega) h140_ i140_ ) rfl rfl (Nat.le_of_ble_eq_true rfl) ⟨by decide, by decide⟩ rfl (fun h158c hp158 => ?_) (fun _ _ q => q.elim)
              obtain ⟨i158c, g158c, y158_0, y158_1, y158_2, y158_3, y158_4⟩ := hp158
              have f158c : mm_fr [(66, 57), (66, 58), (66, 60), (66, 61), (66, 62), (66, 63), (66, 64), (66, 65), (66, 66), (66, 69), (66, 70), (66, 71)] [102, 103, 104, 105, 106, 107, 108, 109] h h158c := mm_fr_tr f140_ g158c (by decide +kernel)
              have q158c_100 : h158c.1 66 57 = h140_.1 66 57 := g158c.1 66 57 (by decide)
              have q158c_101 : h158c.1 66 58 = h140_.1 66 58 := g158c.1 66 58 (by decide)
              have q158c_102 : h158c.1 66 69 = h140_.1 66 69 := g158c.1 66 69 (by decide)
              have q158c_103 : h158c.1 66 70 = h140_.1 66 70 := g158c.1 66 70 (by decide)
              have q158c_104 : h158c.1 66 71 = h140_.1 66 71 := g158c.1 66 71 (by decide)
              have g105 : 0 ≤ (h158c.1 66 62) ∧ (h158c.1 66 62) ≤ 500 := i158c.1 66 62
              have g106 : 0 ≤ (h158c.1 66 60) ∧ (h158c.1 66 60) ≤ 500 := i158c.1 66 60
              have g107 : -2147483648 ≤ (h158c.1 66 61) ∧ (h158c.1 66 61) ≤ 2147483647 := i158c.1 66 61
              have g108 : -2147483648 ≤ (h158c.1 66 63) ∧ (h158c.1 66 63) ≤ 2147483647 := i158c.1 66 63
              have g109 : -2147483648 ≤ (h158c.1 66 65) ∧ (h158c.1 66 65) ≤ 2147483647 := i158c.1 66 65
              refine mm_goto (tgt := 169) C (mm_dec dk_X12_clause 94 rfl) (by decide) ?_
              refine mm_fgt 0 ?_
              exact J169 h158c i158c f158c (by first | exact mm_rl_go w140_0 g158c y158_0 y158_1 y158_2 | exact mm_rl_no w140_0 g166c y166_0) (by first | omega) (by first | exact mm_C9_sc w140_2 (by omega) (by have zz := mm_hd9x tfB; omega) (mm_st9_of w140_2.2.1 y158_3 y158_4 g158c (by decide)) ⟨by omega, by omega⟩ (g158c.2 102 (by decide)) (g158c.2 103 (by decide) _) | exact mm_C9_ns w140_2 (by omega) (by have zz := mm_hd9x tfB; omega) (mm_eY_fr g166c (by decide)) (g166c.2 102 (by decide)) (by omega) (by omega)) (by omega)
          · skip
            exact mm_vret C T (mm_dec dk_X12_clause 87 rfl) (by decide : 0 ≤ 0) (by decide : 0 ≤ 0) ⟨rfl, ⟨i140_, f140_, by first | exact w169_0 | exact w140_0 | exact mm_rl_bad w40_0 (by omega) t0 (by omega) (by omega), by omega, by first | exact w169_2 | exact mm_C9_B w140_2 (by omega) rfl | exact mm_C9_no t6 (by have zz := mm_hd9x tf; omega) w40_2 (w40_0.2 102 (by decide)) (by omega) (by omega) (by omega), by omega⟩⟩
        refine mm_icmp_ne (tgt := 94) C (mm_dec dk_X12_clause 53 rfl) (by decide) (fun c83 => ?_) (fun c83 => ?_)
        · skip
          refine mm_aload_n C (mm_dec dk_X12_clause 58 rfl) rfl ?_
          refine mm_getr (t := 105) C fl_X12_126 (mm_dec dk_X12_clause 59 rfl) rfl rfl (mm_ref i78c rfl) ?_
          refine mm_iload_n C (mm_dec dk_X12_clause 60 rfl) rfl ?_
          refine mm_aload_n C (mm_dec dk_X12_clause 61 rfl) rfl ?_
          refine mm_cVi (rest := [mI ((20 * p1) + (h40_.2.1 103 p1)), mR 105]) C1 ev_X12_451 (mm_dec dk_X12_clause 62 rfl) (c_X12_expression_q x.2.1 hl (d - 1) (by omega) h78c i78c (by first | exact y78_3 | exact zK.2.1 | omega) (by first | exact y78_3 | exact zK.2.1 | omega) (by first | exact y78_3 | exact zK.2.1 | omega)) rfl rfl (Nat.le_of_ble_eq_true rfl) ⟨by decide, by decide⟩ rfl (fun r100 h100c hp100 => ?_) (fun _ _ q => q.elim)
          obtain ⟨b100, i100c, g100c, y100_0, y100_1, y100_2, y100_3⟩ := hp100
          have f100c : mm_fr [(66, 57), (66, 58), (66, 60), (66, 61), (66, 62), (66, 63), (66, 64), (66, 65), (66, 66), (66, 69), (66, 70), (66, 71)] [102, 103, 104, 105, 106, 107, 108, 109] h h100c := mm_fr_tr f78c g100c (by decide +kernel)
          have g111 : -2147483648 ≤ (h100c.1 66 57) ∧ (h100c.1 66 57) ≤ 2147483647 := i100c.1 66 57
          have g112 : 0 ≤ (h100c.1 66 69) ∧ (h100c.1 66 69) ≤ 2400 := i100c.1 66 69
          have g113 : 0 ≤ (h100c.1 66 70) ∧ (h100c.1 66 70) ≤ 520 := i100c.1 66 70
          have g114 : 0 ≤ (h100c.1 66 62) ∧ (h100c.1 66 62) ≤ 500 := i100c.1 66 62
          have g115 : 0 ≤ (h100c.1 66 60) ∧ (h100c.1 66 60) ≤ 500 := i100c.1 66 60
          have g116 : -2147483648 ≤ (h100c.1 66 61) ∧ (h100c.1 66 61) ≤ 2147483647 := i100c.1 66 61
          have g117 : 0 ≤ (h100c.1 66 71) ∧ (h100c.1 66 71) ≤ 6 := i100c.1 66 71
          have g118 : -2147483648 ≤ (h100c.1 66 58) ∧ (h100c.1 66 58) ≤ 2147483647 := i100c.1 66 58
          have g119 : -2147483648 ≤ (h100c.1 66 63) ∧ (h100c.1 66 63) ≤ 2147483647 := i100c.1 66 63
          have g120 : -2147483648 ≤ (h100c.1 66 65) ∧ (h100c.1 66 65) ≤ 2147483647 := i100c.1 66 65
          refine mm_iast C (mm_dec dk_X12_clause 63 rfl) rfl (by omega) (by omega) ?_
          have i7 : mm_inv (mm_pa h100c 105 ((20 * p1) + (h40_.2.1 103 p1)) r100) := mm_inv_pa i100c (show 0 ≤ r100 ∧ r100 ≤ 2399 from ⟨by omega, by omega⟩)
          have f7 : mm_fr [(66, 57), (66, 58), (66, 60), (66, 61), (66, 62), (66, 63), (66, 64), (66, 65), (66, 66), (66, 69), (66, 70), (66, 71)] [102, 103, 104, 105, 106, 107, 108, 109] h (mm_pa h100c 105 ((20 * p1) + (h40_.2.1 103 p1)) r100) := mm_fr_pa f100c (by decide)
          obtain ⟨h7, eh7⟩ : ∃ z, z = mm_pa h100c 105 ((20 * p1) + (h40_.2.1 103 p1)) r100 := ⟨_, rfl⟩
          rw [← eh7] at i7 f7 ⊢
          have qh7_121 : h7.1 66 57 = h100c.1 66 57 := by rw [eh7]; rfl
          have qh7_122 : h7.1 66 58 = h100c.1 66 58 := by rw [eh7]; rfl
          have qh7_123 : h7.1 66 60 = h100c.1 66 60 := by rw [eh7]; rfl
          have qh7_124 : h7.1 66 61 = h100c.1 66 61 := by rw [eh7]; rfl
          have qh7_125 : h7.1 66 62 = h100c.1 66 62 := by rw [eh7]; rfl
          have qh7_126 : h7.1 66 63 = h100c.1 66 63 := by rw [eh7]; rfl
          have qh7_127 : h7.1 66 65 = h100c.1 66 65 := by rw [eh7]; rfl
          have qh7_128 : h7.1 66 69 = h100c.1 66 69 := by rw [eh7]; rfl
          have qh7_129 : h7.1 66 70 = h100c.1 66 70 := by rw [eh7]; rfl
          have qh7_130 : h7.1 66 71 = h100c.1 66 71 := by rw [eh7]; rfl
          refine mm_aload_n C (mm_dec dk_X12_clause 64 rfl) rfl ?_
          refine mm_getr (t := 106) C fl_X12_129 (mm_dec dk_X12_clause 65 rfl) rfl rfl (mm_ref i7 rfl) ?_
          refine mm_iload_n C (mm_dec dk_X12_clause 66 rfl) rfl ?_
          refine mm_iconst C (mm_dec dk_X12_clause 67 rfl) ⟨by decide, by decide⟩ ?_
          refine mm_iast C (mm_dec dk_X12_clause 68 rfl) rfl (by omega) (by omega) ?_
          have i8 : mm_inv (mm_pa h7 106 ((20 * p1) + (h40_.2.1 103 p1)) (-1)) := mm_inv_pa i7 (show -1 ≤ (-1) ∧ (-1) ≤ 2399 from ⟨by omega, by omega⟩)
          have f8 : mm_fr [(66, 57), (66, 58), (66, 60), (66, 61), (66, 62), (66, 63), (66, 64), (66, 65), (66, 66), (66, 69), (66, 70), (66, 71)] [102, 103, 104, 105, 106, 107, 108, 109] h (mm_pa h7 106 ((20 * p1) + (h40_.2.1 103 p1)) (-1)) := mm_fr_pa f7 (by decide)
          obtain ⟨h8, eh8⟩ : ∃ z, z = mm_pa h7 106 ((20 * p1) + (h40_.2.1 103 p1)) (-1) := ⟨_, rfl⟩
          rw [← eh8] at i8 f8 ⊢
          have qh8_131 : h8.1 66 57 = h7.1 66 57 := by rw [eh8]; rfl
          have qh8_132 : h8.1 66 58 = h7.1 66 58 := by rw [eh8]; rfl
          have qh8_133 : h8.1 66 60 = h7.1 66 60 := by rw [eh8]; rfl
          have qh8_134 : h8.1 66 61 = h7.1 66 61 := by rw [eh8]; rfl
          have qh8_135 : h8.1 66 62 = h7.1 66 62 := by rw [eh8]; rfl
          have qh8_136 : h8.1 66 63 = h7.1 66 63 := by rw [eh8]; rfl
          have qh8_137 : h8.1 66 65 = h7.1 66 65 := by rw [eh8]; rfl
          have qh8_138 : h8.1 66 69 = h7.1 66 69 := by rw [eh8]; rfl
          have qh8_139 : h8.1 66 70 = h7.1 66 70 := by rw [eh8]; rfl
          have qh8_140 : h8.1 66 71 = h7.1 66 71 := by rw [eh8]; rfl
          have zM := mm_cl_e1 zK y100_0 g100c (by rw [eh7, y100_1]) eh8 (by omega) (by omega) (by omega)
          have zm1 := zM.2.1
          have zX := y100_2 (by omega)
          have zA := mm_A9_1 (b := p1) (by have zk := mm_kw9_x y1_1; omega) (by omega) zs9 z102 zX (g100c.2 102 (by decide)) (mm_eY_tr (mm_eY_pa eh7 (by decide)) (mm_eY_pa eh8 (by decide))) ⟨by omega, by omega⟩ (fun j => (mm_sm_pa 102 eh8 (by decide) j).trans (mm_sm_pa 102 eh7 (by decide) j)) ((mm_sm_pa 103 eh8 (by decide) _).trans ((mm_sm_pa 103 eh7 (by decide) _).trans ((g100c.2 103 (by decide) _).trans z103)))
          refine mm_aload_n C (mm_dec dk_X12_clause 69 rfl) rfl ?_
          refine mm_cVi (rest := []) C1 ev_X12_413 (mm_dec dk_X12_clause 70 rfl) (c_X12_isGood x.2.1 hl (d - 1) (by omega) h8 i8 ) rfl rfl (Nat.le_of_ble_eq_true rfl) ⟨by decide, by decide⟩ rfl (fun r112 h112c hp112 => ?_) (fun _ _ q => q.elim)
          obtain ⟨z112, y112⟩ := hp112
          rw [z112]
          refine mm_if_eq (tgt := 140) C (mm_dec dk_X12_clause 71 rfl) (by decide) (fun c115 => ?_) (fun c115 => ?_)
          · skip
            refine mm_fgt 1 ?_
            refine mm_fgt 2 ?_
            refine mm_fgt 3 ?_
            exact J140 h8 i8 f8 (by first | exact zM.1 | exact mm_cl_set zK (by omega) g88c (by decide) y88_0 (by omega) (by omega) (by omega) | exact (mm_cl_e2 zM (by omega) g127c y127_0 (by omega) y136_0 g136c (by rw [eh11, y136_1]) (by omega)).1) (by first | omega | exact fun z => (zm1 z).2.2.2 | exact fun _ => (mm_cl_e2 zM (by omega) g127c y127_0 (by omega) y136_0 g136c (by rw [eh11, y136_1]) (by omega)).2) (by first | exact mm_B9_set (by have zk := mm_kw9_x y1_1; omega) (by omega) zs9 z102 y88_2 ((g88c.2 103 (by decide) _).trans z103) | exact mm_B9_A zA (Or.inr (Or.inl (by omega))) | exact mm_B9_A zA (Or.inr (Or.inr (by have zk := mm_kw9_x y119_1; omega))) | exact mm_B9_A (mm_A9_2 zA (by omega) (by have zk := mm_kw9_x y119_1; omega) zsu (g127c.2 102 (by decide)) (y136_2 (by omega)) (g136c.2 102 (by decide)) (mm_eY_pa eh11 (by decide)) ⟨by omega, by omega⟩ (fun j => mm_sm_pa 102 eh11 (by decide) j) ((mm_sm_pa 103 eh11 (by decide) _).trans ((g136c.2 103 (by decide) _).trans (g127c.2 103 (by decide) _)))) (Or.inl rfl)) (by omega)
          · skip
            refine mm_aload_n C (mm_dec dk_X12_clause 72 rfl) rfl ?_
            refine mm_cVi (rest := []) C1 ev_X12_419 (mm_dec dk_X12_clause 73 rfl) (c_X12_knownWord_q x.2.1 hl (d - 1) (by omega) h8 i8 (by first | exact zA.2.1 | omega)) rfl rfl (Nat.le_of_ble_eq_true rfl) ⟨by decide, by decide⟩ rfl (fun r119 h119c hp119 => ?_) (fun _ _ q => q.elim)
            obtain ⟨b119, z119, y119_0, y119_1⟩ := hp119
            rw [z119]
            refine mm_iconst C (mm_dec dk_X12_clause 74 rfl) ⟨by decide, by decide⟩ ?_
            refine mm_icmp_ne (tgt := 140) C (mm_dec dk_X12_clause 75 rfl) (by decide) (fun c123 => ?_) (fun c123 => ?_)
            · skip
              refine mm_fgt 1 ?_
              refine mm_fgt 2 ?_
              refine mm_fgt 3 ?_
              exact J140 h8 i8 f8 (by first | exact zM.1 | exact mm_cl_set zK (by omega) g88c (by decide) y88_0 (by omega) (by omega) (by omega) | exact (mm_cl_e2 zM (by omega) g127c y127_0 (by omega) y136_0 g136c (by rw [eh11, y136_1]) (by omega)).1) (by first | omega | exact fun z => (zm1 z).2.2.2 | exact fun _ => (mm_cl_e2 zM (by omega) g127c y127_0 (by omega) y136_0 g136c (by rw [eh11, y136_1]) (by omega)).2) (by first | exact mm_B9_set (by have zk := mm_kw9_x y1_1; omega) (by omega) zs9 z102 y88_2 ((g88c.2 103 (by decide) _).trans z103) | exact mm_B9_A zA (Or.inr (Or.inl (by omega))) | exact mm_B9_A zA (Or.inr (Or.inr (by have zk := mm_kw9_x y119_1; omega))) | exact mm_B9_A (mm_A9_2 zA (by omega) (by have zk := mm_kw9_x y119_1; omega) zsu (g127c.2 102 (by decide)) (y136_2 (by omega)) (g136c.2 102 (by decide)) (mm_eY_pa eh11 (by decide)) ⟨by omega, by omega⟩ (fun j => mm_sm_pa 102 eh11 (by decide) j) ((mm_sm_pa 103 eh11 (by decide) _).trans ((g136c.2 103 (by decide) _).trans (g127c.2 103 (by decide) _)))) (Or.inl rfl)) (by omega)
            · skip
              refine mm_aload_n C (mm_dec dk_X12_clause 76 rfl) rfl ?_
              refine mm_cVv (rest := []) C1 ev_X12_423 (mm_dec dk_X12_clause 77 rfl) (c_X12_goes_q x.2.1 hl (d - 1) (by omega) h8 i8 ) rfl rfl (Nat.le_of_ble_eq_true rfl) ⟨by decide, by decide⟩ rfl (fun h127c hp127 => ?_) (fun _ _ q => q.elim)
              obtain ⟨i127c, g127c, y127_0, y127_1, y127_2, y127_3, y127_4⟩ := hp127
              have f127c : mm_fr [(66, 57), (66, 58), (66, 60), (66, 61), (66, 62), (66, 63), (66, 64), (66, 65), (66, 66), (66, 69), (66, 70), (66, 71)] [102, 103, 104, 105, 106, 107, 108, 109] h h127c := mm_fr_tr f8 g127c (by decide +kernel)
              have q127c_144 : h127c.1 66 57 = h8.1 66 57 := g127c.1 66 57 (by decide)
              have q127c_145 : h127c.1 66 58 = h8.1 66 58 := g127c.1 66 58 (by decide)
              have q127c_146 : h127c.1 66 69 = h8.1 66 69 := g127c.1 66 69 (by decide)
              have q127c_147 : h127c.1 66 70 = h8.1 66 70 := g127c.1 66 70 (by decide)
              have q127c_148 : h127c.1 66 71 = h8.1 66 71 := g127c.1 66 71 (by decide)
              have g149 : 0 ≤ (h127c.1 66 62) ∧ (h127c.1 66 62) ≤ 500 := i127c.1 66 62
              have g150 : 0 ≤ (h127c.1 66 60) ∧ (h127c.1 66 60) ≤ 500 := i127c.1 66 60
              have g151 : -2147483648 ≤ (h127c.1 66 61) ∧ (h127c.1 66 61) ≤ 2147483647 := i127c.1 66 61
              have g152 : -2147483648 ≤ (h127c.1 66 63) ∧ (h127c.1 66 63) ≤ 2147483647 := i127c.1 66 63
              have g153 : -2147483648 ≤ (h127c.1 66 65) ∧ (h127c.1 66 65) ≤ 2147483647 := i127c.1 66 65
              have zm2 := zM.1.2.1.1
              have zm3 := zM.1.2.2.2.2.1
              have zm5 := zm1 (by omega)
              have zm4 := zm5.1
              have zm6 := zM.1.2.2.2.1
              have zsu := mm_st9_of zA.2.1 y127_3 y127_4 g127c (by decide)
              refine mm_aload_n C (mm_dec dk_X12_clause 78 rfl) rfl ?_
              refine mm_getr (t := 106) C fl_X12_129 (mm_dec dk_X12_clause 79 rfl) rfl rfl (mm_ref i127c rfl) ?_
              refine mm_iload_n C (mm_dec dk_X12_clause 80 rfl) rfl ?_
              refine mm_aload_n C (mm_dec dk_X12_clause 81 rfl) rfl ?_
              refine mm_cVi (rest := [mI ((20 * p1) + (h40_.2.1 103 p1)), mR 106]) C1 ev_X12_451 (mm_dec dk_X12_clause 82 rfl) (c_X12_expression_q x.2.1 hl (d - 1) (by omega) h127c i127c (by first | exact y127_3 | exact ⟨y127_1, y127_2⟩ | omega) (by first | exact y127_3 | exact ⟨y127_1, y127_2⟩ | omega) (by first | exact y127_3 | exact ⟨y127_1, y127_2⟩ | omega)) rfl rfl (Nat.le_of_ble_eq_true rfl) ⟨by decide, by decide⟩ rfl (fun r136 h136c hp136 => ?_) (fun _ _ q => q.elim)
              obtain ⟨b136, i136c, g136c, y136_0, y136_1, y136_2, y136_3⟩ := hp136
              have f136c : mm_fr [(66, 57), (66, 58), (66, 60), (66, 61), (66, 62), (66, 63), (66, 64), (66, 65), (66, 66), (66, 69), (66, 70), (66, 71)] [102, 103, 104, 105, 106, 107, 108, 109] h h136c := mm_fr_tr f127c g136c (by decide +kernel)
              have g155 : -2147483648 ≤ (h136c.1 66 57) ∧ (h136c.1 66 57) ≤ 2147483647 := i136c.1 66 57
              have g156 : 0 ≤ (h136c.1 66 69) ∧ (h136c.1 66 69) ≤ 2400 := i136c.1 66 69
              have g157 : 0 ≤ (h136c.1 66 70) ∧ (h136c.1 66 70) ≤ 520 := i136c.1 66 70
              have g158 : 0 ≤ (h136c.1 66 62) ∧ (h136c.1 66 62) ≤ 500 := i136c.1 66 62
              have g159 : 0 ≤ (h136c.1 66 60) ∧ (h136c.1 66 60) ≤ 500 := i136c.1 66 60
              have g160 : -2147483648 ≤ (h136c.1 66 61) ∧ (h136c.1 66 61) ≤ 2147483647 := i136c.1 66 61
              have g161 : 0 ≤ (h136c.1 66 71) ∧ (h136c.1 66 71) ≤ 6 := i136c.1 66 71
              have g162 : -2147483648 ≤ (h136c.1 66 58) ∧ (h136c.1 66 58) ≤ 2147483647 := i136c.1 66 58
              have g163 : -2147483648 ≤ (h136c.1 66 63) ∧ (h136c.1 66 63) ≤ 2147483647 := i136c.1 66 63
              have g164 : -2147483648 ≤ (h136c.1 66 65) ∧ (h136c.1 66 65) ≤ 2147483647 := i136c.1 66 65
              refine mm_iast C (mm_dec dk_X12_clause 83 rfl) rfl (by omega) (by omega) ?_
              have i11 : mm_inv (mm_pa h136c 106 ((20 * p1) + (h40_.2.1 103 p1)) r136) := mm_inv_pa i136c (show -1 ≤ r136 ∧ r136 ≤ 2399 from ⟨by omega, by omega⟩)
              have f11 : mm_fr [(66, 57), (66, 58), (66, 60), (66, 61), (66, 62), (66, 63), (66, 64), (66, 65), (66, 66), (66, 69), (66, 70), (66, 71)] [102, 103, 104, 105, 106, 107, 108, 109] h (mm_pa h136c 106 ((20 * p1) + (h40_.2.1 103 p1)) r136) := mm_fr_pa f136c (by decide)
              obtain ⟨h11, eh11⟩ : ∃ z, z = mm_pa h136c 106 ((20 * p1) + (h40_.2.1 103 p1)) r136 := ⟨_, rfl⟩
              rw [← eh11] at i11 f11 ⊢
              have qh11_165 : h11.1 66 57 = h136c.1 66 57 := by rw [eh11]; rfl
              have qh11_166 : h11.1 66 58 = h136c.1 66 58 := by rw [eh11]; rfl
              have qh11_167 : h11.1 66 60 = h136c.1 66 60 := by rw [eh11]; rfl
              have qh11_168 : h11.1 66 61 = h136c.1 66 61 := by rw [eh11]; rfl
              have qh11_169 : h11.1 66 62 = h136c.1 66 62 := by rw [eh11]; rfl
              have qh11_170 : h11.1 66 63 = h136c.1 66 63 := by rw [eh11]; rfl
              have qh11_171 : h11.1 66 65 = h136c.1 66 65 := by rw [eh11]; rfl
              have qh11_172 : h11.1 66 69 = h136c.1 66 69 := by rw [eh11]; rfl
              have qh11_173 : h11.1 66 70 = h136c.1 66 70 := by rw [eh11]; rfl
              have qh11_174 : h11.1 66 71 = h136c.1 66 71 := by rw [eh11]; rfl
              refine mm_fgt 1 ?_
              refine mm_fgt 2 ?_
              refine mm_fgt 3 ?_
              exact J140 h11 i11 f11 (by first | exact zM.1 | exact mm_cl_set zK (by omega) g88c (by decide) y88_0 (by omega) (by omega) (by omega) | exact (mm_cl_e2 zM (by omega) g127c y127_0 (by omega) y136_0 g136c (by rw [eh11, y136_1]) (by omega)).1) (by first | omega | exact fun z => (zm1 z).2.2.2 | exact fun _ => (mm_cl_e2 zM (by omega) g127c y127_0 (by omega) y136_0 g136c (by rw [eh11, y136_1]) (by omega)).2) (by first | exact mm_B9_set (by have zk := mm_kw9_x y1_1; omega) (by omega) zs9 z102 y88_2 ((g88c.2 103 (by decide) _).trans z103) | exact mm_B9_A zA (Or.inr (Or.inl (by omega))) | exact mm_B9_A zA (Or.inr (Or.inr (by have zk := mm_kw9_x y119_1; omega))) | exact mm_B9_A (mm_A9_2 zA (by omega) (by have zk := mm_kw9_x y119_1; omega) zsu (g127c.2 102 (by decide)) (y136_2 (by omega)) (g136c.2 102 (by decide)) (mm_eY_pa eh11 (by decide)) ⟨by omega, by omega⟩ (fun j => mm_sm_pa 102 eh11 (by decide) j) ((mm_sm_pa 103 eh11 (by decide) _).trans ((g136c.2 103 (by decide) _).trans (g127c.2 103 (by decide) _)))) (Or.inl rfl)) (by omega)
        · skip
          refine mm_aload_n C (mm_dec dk_X12_clause 54 rfl) rfl ?_
          refine mm_iload_n C (mm_dec dk_X12_clause 55 rfl) rfl ?_
          refine mm_cVv (rest := []) C1 ev_X12_448 (mm_dec dk_X12_clause 56 rfl) (c_X12_sets_q x.2.1 hl (d - 1) (by omega) h78c i78c p1 ⟨by omega, by omega⟩ (by first | exact y78_3 | exact zK.2.1 | omega) (by first | exact y78_3 | exact zK.2.1 | omega) (by first | exact y78_3 | exact zK.2.1 | omega)) rfl rfl (Nat.le_of_ble_eq_true rfl) ⟨by decide, by decide⟩ rfl (fun h88c hp88 => ?_) (fun _ _ q => q.elim)
          obtain ⟨i88c, g88c, y88_0, y88_1, y88_2, y88_3⟩ := hp88
          have f88c : mm_fr [(66, 57), (66, 58), (66, 60), (66, 61), (66, 62), (66, 63), (66, 64), (66, 65), (66, 66), (66, 69), (66, 70), (66, 71)] [102, 103, 104, 105, 106, 107, 108, 109] h h88c := mm_fr_tr f78c g88c (by decide +kernel)
          have q88c_176 : h88c.1 66 69 = h78c.1 66 69 := g88c.1 66 69 (by decide)
          have q88c_177 : h88c.1 66 70 = h78c.1 66 70 := g88c.1 66 70 (by decide)
          have q88c_178 : h88c.1 66 71 = h78c.1 66 71 := g88c.1 66 71 (by decide)
          have g179 : -2147483648 ≤ (h88c.1 66 57) ∧ (h88c.1 66 57) ≤ 2147483647 := i88c.1 66 57
          have g180 : 0 ≤ (h88c.1 66 62) ∧ (h88c.1 66 62) ≤ 500 := i88c.1 66 62
          have g181 : 0 ≤ (h88c.1 66 60) ∧ (h88c.1 66 60) ≤ 500 := i88c.1 66 60
          have g182 : -2147483648 ≤ (h88c.1 66 61) ∧ (h88c.1 66 61) ≤ 2147483647 := i88c.1 66 61
          have g183 : -2147483648 ≤ (h88c.1 66 58) ∧ (h88c.1 66 58) ≤ 2147483647 := i88c.1 66 58
          have g184 : -2147483648 ≤ (h88c.1 66 63) ∧ (h88c.1 66 63) ≤ 2147483647 := i88c.1 66 63
          have g185 : -2147483648 ≤ (h88c.1 66 65) ∧ (h88c.1 66 65) ≤ 2147483647 := i88c.1 66 65
          refine mm_goto (tgt := 140) C (mm_dec dk_X12_clause 57 rfl) (by decide) ?_
          refine mm_fgt 1 ?_
          refine mm_fgt 2 ?_
          refine mm_fgt 3 ?_
          exact J140 h88c i88c f88c (by first | exact zM.1 | exact mm_cl_set zK (by omega) g88c (by decide) y88_0 (by omega) (by omega) (by omega) | exact (mm_cl_e2 zM (by omega) g127c y127_0 (by omega) y136_0 g136c (by rw [eh11, y136_1]) (by omega)).1) (by first | omega | exact fun z => (zm1 z).2.2.2 | exact fun _ => (mm_cl_e2 zM (by omega) g127c y127_0 (by omega) y136_0 g136c (by rw [eh11, y136_1]) (by omega)).2) (by first | exact mm_B9_set (by have zk := mm_kw9_x y1_1; omega) (by omega) zs9 z102 y88_2 ((g88c.2 103 (by decide) _).trans z103) | exact mm_B9_A zA (Or.inr (Or.inl (by omega))) | exact mm_B9_A zA (Or.inr (Or.inr (by have zk := mm_kw9_x y119_1; omega))) | exact mm_B9_A (mm_A9_2 zA (by omega) (by have zk := mm_kw9_x y119_1; omega) zsu (g127c.2 102 (by decide)) (y136_2 (by omega)) (g136c.2 102 (by decide)) (mm_eY_pa eh11 (by decide)) ⟨by omega, by omega⟩ (fun j => mm_sm_pa 102 eh11 (by decide) j) ((mm_sm_pa 103 eh11 (by decide) _).trans ((g136c.2 103 (by decide) _).trans (g127c.2 103 (by decide) _)))) (Or.inl rfl)) (by omega)
      · skip
        exact mm_vret C T (mm_dec dk_X12_clause 26 rfl) (by decide : 0 ≤ 0) (by decide : 0 ≤ 0) ⟨rfl, ⟨i40_, f40_, by first | exact w169_0 | exact w140_0 | exact mm_rl_bad w40_0 (by omega) t0 (by omega) (by omega), by omega, by first | exact w169_2 | exact mm_C9_B w140_2 (by omega) rfl | exact mm_C9_no t6 (by have zz := mm_hd9x tf; omega) w40_2 (w40_0.2 102 (by decide)) (by omega) (by omega) (by omega), by omega⟩⟩
    refine mm_icmp_ne (tgt := 40) C (mm_dec dk_X12_clause 19 rfl) (by decide) (fun c32 => ?_) (fun c32 => ?_)
    · skip
      exact J40 h24_ i24_ f24_ (by first | exact w24_0 | exact mm_fr_tr w24_0 g37c (by decide +kernel)) (by omega) (by first | exact mm_eY_tr w24_2 (mm_eY_fr g37c (by decide)) | exact w24_2) (by omega)
    · skip
      refine mm_aload_n C (mm_dec dk_X12_clause 20 rfl) rfl ?_
      refine mm_iconst C (mm_dec dk_X12_clause 21 rfl) ⟨by decide, by decide⟩ ?_
      refine mm_cVv (rest := []) C1 ev_X12_417 (mm_dec dk_X12_clause 22 rfl) (c_X12_wrong_q x.2.1 hl (d - 1) (by omega) h24_ i24_ 2 (by omega)) rfl rfl (Nat.le_of_ble_eq_true rfl) ⟨by decide, by decide⟩ rfl (fun h37c hp37 => ?_) (fun _ _ q => q.elim)
      obtain ⟨i37c, g37c, y37_0, y37_1⟩ := hp37
      have f37c : mm_fr [(66, 57), (66, 58), (66, 60), (66, 61), (66, 62), (66, 63), (66, 64), (66, 65), (66, 66), (66, 69), (66, 70), (66, 71)] [102, 103, 104, 105, 106, 107, 108, 109] h h37c := mm_fr_tr f24_ g37c (by decide +kernel)
      have q37c_187 : h37c.1 66 60 = h24_.1 66 60 := g37c.1 66 60 (by decide)
      have q37c_188 : h37c.1 66 61 = h24_.1 66 61 := g37c.1 66 61 (by decide)
      have q37c_189 : h37c.1 66 62 = h24_.1 66 62 := g37c.1 66 62 (by decide)
      have q37c_190 : h37c.1 66 63 = h24_.1 66 63 := g37c.1 66 63 (by decide)
      have q37c_191 : h37c.1 66 65 = h24_.1 66 65 := g37c.1 66 65 (by decide)
      have q37c_192 : h37c.1 66 69 = h24_.1 66 69 := g37c.1 66 69 (by decide)
      have q37c_193 : h37c.1 66 70 = h24_.1 66 70 := g37c.1 66 70 (by decide)
      have q37c_194 : h37c.1 66 71 = h24_.1 66 71 := g37c.1 66 71 (by decide)
      have g195 : -2147483648 ≤ (h37c.1 66 57) ∧ (h37c.1 66 57) ≤ 2147483647 := i37c.1 66 57
      have g196 : -2147483648 ≤ (h37c.1 66 58) ∧ (h37c.1 66 58) ≤ 2147483647 := i37c.1 66 58
      exact J40 h37c i37c f37c (by first | exact w24_0 | exact mm_fr_tr w24_0 g37c (by decide +kernel)) (by omega) (by first | exact mm_eY_tr w24_2 (mm_eY_fr g37c (by decide)) | exact w24_2) (by omega)
  refine mm_if_eq (tgt := 24) C (mm_dec dk_X12_clause 4 rfl) (by decide) (fun c6 => ?_) (fun c6 => ?_)
  · skip
    exact J24 h i0 f0 (by first | exact mm_fr_rf | exact g21c) (by omega) (by first | exact mm_eY_rf | exact mm_eY_fr g21c (by decide)) (by first | (have zk := mm_kw9_x y1_1; omega))
  · skip
    refine mm_iload_n C (mm_dec dk_X12_clause 5 rfl) rfl ?_
    refine mm_iconst C (mm_dec dk_X12_clause 6 rfl) ⟨by decide, by decide⟩ ?_
    refine mm_icmp_eq (tgt := 24) C (mm_dec dk_X12_clause 7 rfl) (by decide) (fun c11 => ?_) (fun c11 => ?_)
    · skip
      exact J24 h i0 f0 (by first | exact mm_fr_rf | exact g21c) (by omega) (by first | exact mm_eY_rf | exact mm_eY_fr g21c (by decide)) (by first | (have zk := mm_kw9_x y1_1; omega))
    · skip
      refine mm_iload_n C (mm_dec dk_X12_clause 8 rfl) rfl ?_
      refine mm_iconst C (mm_dec dk_X12_clause 9 rfl) ⟨by decide, by decide⟩ ?_
      refine mm_icmp_eq (tgt := 24) C (mm_dec dk_X12_clause 10 rfl) (by decide) (fun c16 => ?_) (fun c16 => ?_)
      · skip
        exact J24 h i0 f0 (by first | exact mm_fr_rf | exact g21c) (by omega) (by first | exact mm_eY_rf | exact mm_eY_fr g21c (by decide)) (by first | (have zk := mm_kw9_x y1_1; omega))
      · skip
        refine mm_aload_n C (mm_dec dk_X12_clause 11 rfl) rfl ?_
        refine mm_iconst C (mm_dec dk_X12_clause 12 rfl) ⟨by decide, by decide⟩ ?_
        refine mm_cVv (rest := []) C1 ev_X12_417 (mm_dec dk_X12_clause 13 rfl) (c_X12_wrong_q x.2.1 hl (d - 1) (by omega) h i0 1 (by omega)) rfl rfl (Nat.le_of_ble_eq_true rfl) ⟨by decide, by decide⟩ rfl (fun h21c hp21 => ?_) (fun _ _ q => q.elim)
        obtain ⟨i21c, g21c, y21_0, y21_1⟩ := hp21
        have f21c : mm_fr [(66, 57), (66, 58), (66, 60), (66, 61), (66, 62), (66, 63), (66, 64), (66, 65), (66, 66), (66, 69), (66, 70), (66, 71)] [102, 103, 104, 105, 106, 107, 108, 109] h h21c := mm_fr_tr f0 g21c (by decide +kernel)
        have q21c_198 : h21c.1 66 60 = h.1 66 60 := g21c.1 66 60 (by decide)
        have q21c_199 : h21c.1 66 61 = h.1 66 61 := g21c.1 66 61 (by decide)
        have q21c_200 : h21c.1 66 62 = h.1 66 62 := g21c.1 66 62 (by decide)
        have q21c_201 : h21c.1 66 63 = h.1 66 63 := g21c.1 66 63 (by decide)
        have q21c_202 : h21c.1 66 65 = h.1 66 65 := g21c.1 66 65 (by decide)
        have q21c_203 : h21c.1 66 69 = h.1 66 69 := g21c.1 66 69 (by decide)
        have q21c_204 : h21c.1 66 70 = h.1 66 70 := g21c.1 66 70 (by decide)
        have q21c_205 : h21c.1 66 71 = h.1 66 71 := g21c.1 66 71 (by decide)
        have g206 : -2147483648 ≤ (h21c.1 66 57) ∧ (h21c.1 66 57) ≤ 2147483647 := i21c.1 66 57
        have g207 : -2147483648 ≤ (h21c.1 66 58) ∧ (h21c.1 66 58) ≤ 2147483647 := i21c.1 66 58
        exact J24 h21c i21c f21c (by first | exact mm_fr_rf | exact g21c) (by omega) (by first | exact mm_eY_rf | exact mm_eY_fr g21c (by decide)) (by first | (have zk := mm_kw9_x y1_1; omega))
set_option maxRecDepth 100000 in
set_option maxHeartbeats 4000000 in
theorem c_X12_rules_q (l : Launch) (hl : l.stackTraces = false) (d : Nat) (hd : 7 ≤ d) (h : mH) (i0 : mm_inv h) (p1 : Int) (t0 : mm_RO h) : mm_Met l d yX12_rules cX12_rules 3 (some .int) [mR 66, mI p1] h (mm_pi fun r h2 => (-2147483648 ≤ r ∧ r ≤ 2147483647) ∧ mm_inv h2 ∧ mm_fr [(66, 0), (66, 56), (66, 57), (66, 58), (66, 59), (66, 60), (66, 61), (66, 62), (66, 63), (66, 64), (66, 65), (66, 66), (66, 67), (66, 68), (66, 69), (66, 70), (66, 71)] [102, 103, 104, 105, 106, 107, 108, 109] h h2 ∧ mm_RO h2 ∧ ((0 ≤ p1 ∧ p1 ≤ h.1 66 56 ∧ h2.1 66 56 = 0) ∨ ((p1 < 0 ∨ h.1 66 56 < p1) ∧ h2.1 66 56 = h.1 66 56)) ∧ (((0 ≤ p1 ∧ p1 ≤ h.1 66 56) ∧ h2.1 66 0 = 0 ∧ ((r = 0 ∧ h2.1 66 58 = -1 ∧ ∃ P, mm_RDo (h.2.1 101) p1 P ∧ ∀ w, 0 ≤ w → w ≤ 2 → mm_pr h2 w = P w) ∨ (r ≠ 0 ∧ mm_RDf (h.2.1 101) p1 (h2.1 66 58) r ∧ (∀ w, 0 ≤ w → w ≤ 2 → mm_pr h2 w = mm_pr h w)))) ∨ ((p1 < 0 ∨ h.1 66 56 < p1) ∧ h2.1 66 0 = 1 ∧ r = 0 ∧ h2.1 66 58 = h.1 66 58 ∧ (∀ w, 0 ≤ w → w ≤ 2 → mm_pr h2 w = mm_pr h w)))) mm_nx 0 0 := by
  refine mm_ofW (ls := [mR 66, mI p1, mU]) hl (by decide) rfl (Nat.le_of_ble_eq_true rfl) ?_
  intro x hxl C T hnm htb
  subst hxl
  have C1 := mm_OK_le (d' := d - 1 + 1) (by omega) C
  refine mm_rng (fun hr _ => ?_)
  have ap1 : -2147483648 ≤ p1 ∧ p1 < 2147483648 := mm_ok_at hr (i := 1) rfl
  have f0 : mm_fr [(66, 0), (66, 56), (66, 57), (66, 58), (66, 59), (66, 60), (66, 61), (66, 62), (66, 63), (66, 64), (66, 65), (66, 66), (66, 67), (66, 68), (66, 69), (66, 70), (66, 71)] [102, 103, 104, 105, 106, 107, 108, 109] h h := mm_fr_rf
  have g1 : -2147483648 ≤ h.1 66 57 ∧ h.1 66 57 ≤ 2147483647 := i0.1 66 57
  have g2 : 0 ≤ h.1 66 69 ∧ h.1 66 69 ≤ 2400 := i0.1 66 69
  have g3 : 0 ≤ h.1 66 70 ∧ h.1 66 70 ≤ 520 := i0.1 66 70
  have g4 : 0 ≤ h.1 66 62 ∧ h.1 66 62 ≤ 500 := i0.1 66 62
  have g5 : 0 ≤ h.1 66 60 ∧ h.1 66 60 ≤ 500 := i0.1 66 60
  have g6 : -2147483648 ≤ h.1 66 61 ∧ h.1 66 61 ≤ 2147483647 := i0.1 66 61
  have g7 : 0 ≤ h.1 66 71 ∧ h.1 66 71 ≤ 6 := i0.1 66 71
  have g8 : 0 ≤ h.1 66 67 ∧ h.1 66 67 ≤ 1 := i0.1 66 67
  have g9 : 0 ≤ h.1 66 68 ∧ h.1 66 68 ≤ 1 := i0.1 66 68
  have g10 : 0 ≤ h.1 66 56 ∧ h.1 66 56 ≤ 500 := i0.1 66 56
  have g11 : -2147483648 ≤ h.1 66 0 ∧ h.1 66 0 ≤ 2147483647 := i0.1 66 0
  have g12 : -2147483648 ≤ h.1 66 58 ∧ h.1 66 58 ≤ 2147483647 := i0.1 66 58
  have g13 : 0 ≤ h.1 66 59 ∧ h.1 66 59 ≤ 500 := i0.1 66 59
  have g14 : -2147483648 ≤ h.1 66 65 ∧ h.1 66 65 ≤ 2147483647 := i0.1 66 65
  refine mm_aload_n C (mm_dec dk_X12_rules 0 rfl) rfl ?_
  refine mm_iconst C (mm_dec dk_X12_rules 1 rfl) ⟨by decide, by decide⟩ ?_
  refine mm_puti C fl_X12_188 (mm_dec dk_X12_rules 2 rfl) rfl rfl rfl (Or.inl ⟨rfl, rfl⟩) ?_
  have i1 : mm_inv (mm_pf h 66 0 0) := mm_inv_pf i0 (show -2147483648 ≤ 0 ∧ 0 ≤ 2147483647 from ⟨by omega, by omega⟩) (by decide)
  have f1 : mm_fr [(66, 0), (66, 56), (66, 57), (66, 58), (66, 59), (66, 60), (66, 61), (66, 62), (66, 63), (66, 64), (66, 65), (66, 66), (66, 67), (66, 68), (66, 69), (66, 70), (66, 71)] [102, 103, 104, 105, 106, 107, 108, 109] h (mm_pf h 66 0 0) := mm_fr_pf f0 (by decide)
  obtain ⟨h1, eh1⟩ : ∃ z, z = mm_pf h 66 0 0 := ⟨_, rfl⟩
  rw [← eh1] at i1 f1 ⊢
  have qh1 : h1.1 66 0 = 0 := by rw [eh1]; exact mm_pf_same _ _ _ _
  have qh1_15 : h1.1 66 56 = h.1 66 56 := by rw [eh1]; exact mm_pf_ne _ _ (by decide)
  have qh1_16 : h1.1 66 57 = h.1 66 57 := by rw [eh1]; exact mm_pf_ne _ _ (by decide)
  have qh1_17 : h1.1 66 58 = h.1 66 58 := by rw [eh1]; exact mm_pf_ne _ _ (by decide)
  have qh1_18 : h1.1 66 59 = h.1 66 59 := by rw [eh1]; exact mm_pf_ne _ _ (by decide)
  have qh1_19 : h1.1 66 60 = h.1 66 60 := by rw [eh1]; exact mm_pf_ne _ _ (by decide)
  have qh1_20 : h1.1 66 61 = h.1 66 61 := by rw [eh1]; exact mm_pf_ne _ _ (by decide)
  have qh1_21 : h1.1 66 62 = h.1 66 62 := by rw [eh1]; exact mm_pf_ne _ _ (by decide)
  have qh1_22 : h1.1 66 65 = h.1 66 65 := by rw [eh1]; exact mm_pf_ne _ _ (by decide)
  have qh1_23 : h1.1 66 67 = h.1 66 67 := by rw [eh1]; exact mm_pf_ne _ _ (by decide)
  have qh1_24 : h1.1 66 68 = h.1 66 68 := by rw [eh1]; exact mm_pf_ne _ _ (by decide)
  have qh1_25 : h1.1 66 69 = h.1 66 69 := by rw [eh1]; exact mm_pf_ne _ _ (by decide)
  have qh1_26 : h1.1 66 70 = h.1 66 70 := by rw [eh1]; exact mm_pf_ne _ _ (by decide)
  have qh1_27 : h1.1 66 71 = h.1 66 71 := by rw [eh1]; exact mm_pf_ne _ _ (by decide)
  refine mm_aload_n C (mm_dec dk_X12_rules 3 rfl) rfl ?_
  refine mm_iload_n C (mm_dec dk_X12_rules 4 rfl) rfl ?_
  have J23 : ∀ (s23_1 : Int) (bs23_1 : 0 ≤ s23_1 ∧ s23_1 ≤ 1) (w23_0 : ((s23_1 = 1 ∧ 0 ≤ p1 ∧ p1 ≤ h.1 66 56) ∨ (s23_1 = 0 ∧ (p1 < 0 ∨ h.1 66 56 < p1)))) (w23_1 : h1.1 66 56 = h.1 66 56) (w23_2 : h1.1 66 0 = 0) (vs23_1 : (s23_1 = 0) ∨ (0 ≤ p1 ∧ p1 ≤ (h1.1 66 56) ∧ s23_1 = 1)), mm_W x 0 0 23 [mR 66, mI p1, mU] [mI s23_1, mR 66] h1 := by
    intro s23_1 bs23_1 w23_0 w23_1 w23_2 vs23_1
    refine mm_iconst C (mm_dec dk_X12_rules 13 rfl) ⟨by decide, by decide⟩ ?_
    refine mm_cVi (rest := []) C1 ev_X12_251 (mm_dec dk_X12_rules 14 rfl) (c_X12_right_q x.2.1 hl (d - 1) (by omega) h1 i1 s23_1 1 ⟨by omega, by omega⟩ (by omega)) rfl rfl (Nat.le_of_ble_eq_true rfl) ⟨by decide, by decide⟩ rfl (fun r24 h24c hp24 => ?_) (fun _ _ q => q.elim)
    obtain ⟨b24, i24c, g24c, y24_0⟩ := hp24
    have f24c : mm_fr [(66, 0), (66, 56), (66, 57), (66, 58), (66, 59), (66, 60), (66, 61), (66, 62), (66, 63), (66, 64), (66, 65), (66, 66), (66, 67), (66, 68), (66, 69), (66, 70), (66, 71)] [102, 103, 104, 105, 106, 107, 108, 109] h h24c := mm_fr_tr f1 g24c (by decide +kernel)
    have q24c_29 : h24c.1 66 56 = h1.1 66 56 := g24c.1 66 56 (by decide)
    have q24c_30 : h24c.1 66 57 = h1.1 66 57 := g24c.1 66 57 (by decide)
    have q24c_31 : h24c.1 66 58 = h1.1 66 58 := g24c.1 66 58 (by decide)
    have q24c_32 : h24c.1 66 59 = h1.1 66 59 := g24c.1 66 59 (by decide)
    have q24c_33 : h24c.1 66 60 = h1.1 66 60 := g24c.1 66 60 (by decide)
    have q24c_34 : h24c.1 66 61 = h1.1 66 61 := g24c.1 66 61 (by decide)
    have q24c_35 : h24c.1 66 62 = h1.1 66 62 := g24c.1 66 62 (by decide)
    have q24c_36 : h24c.1 66 65 = h1.1 66 65 := g24c.1 66 65 (by decide)
    have q24c_37 : h24c.1 66 67 = h1.1 66 67 := g24c.1 66 67 (by decide)
    have q24c_38 : h24c.1 66 68 = h1.1 66 68 := g24c.1 66 68 (by decide)
    have q24c_39 : h24c.1 66 69 = h1.1 66 69 := g24c.1 66 69 (by decide)
    have q24c_40 : h24c.1 66 70 = h1.1 66 70 := g24c.1 66 70 (by decide)
    have q24c_41 : h24c.1 66 71 = h1.1 66 71 := g24c.1 66 71 (by decide)
    have g42 : -2147483648 ≤ (h24c.1 66 0) ∧ (h24c.1 66 0) ≤ 2147483647 := i24c.1 66 0
    refine mm_if_ne (tgt := 32) C (mm_dec dk_X12_rules 15 rfl) (by decide) (fun c27 => ?_) (fun c27 => ?_)
    · skip
      refine mm_aload_n C (mm_dec dk_X12_rules 18 rfl) rfl ?_
      refine mm_iconst C (mm_dec dk_X12_rules 19 rfl) ⟨by decide, by decide⟩ ?_
      refine mm_puti C fl_X12_350 (mm_dec dk_X12_rules 20 rfl) rfl rfl rfl (Or.inl ⟨rfl, rfl⟩) ?_
      have i3 : mm_inv (mm_pf h24c 66 56 0) := mm_inv_pf i24c (show 0 ≤ 0 ∧ 0 ≤ 500 from ⟨by omega, by omega⟩) (by decide)
      have f3 : mm_fr [(66, 0), (66, 56), (66, 57), (66, 58), (66, 59), (66, 60), (66, 61), (66, 62), (66, 63), (66, 64), (66, 65), (66, 66), (66, 67), (66, 68), (66, 69), (66, 70), (66, 71)] [102, 103, 104, 105, 106, 107, 108, 109] h (mm_pf h24c 66 56 0) := mm_fr_pf f24c (by decide)
      obtain ⟨h3, eh3⟩ : ∃ z, z = mm_pf h24c 66 56 0 := ⟨_, rfl⟩
      rw [← eh3] at i3 f3 ⊢
      have qh3 : h3.1 66 56 = 0 := by rw [eh3]; exact mm_pf_same _ _ _ _
      have qh3_43 : h3.1 66 0 = h24c.1 66 0 := by rw [eh3]; exact mm_pf_ne _ _ (by decide)
      have qh3_44 : h3.1 66 57 = h24c.1 66 57 := by rw [eh3]; exact mm_pf_ne _ _ (by decide)
      have qh3_45 : h3.1 66 58 = h24c.1 66 58 := by rw [eh3]; exact mm_pf_ne _ _ (by decide)
      have qh3_46 : h3.1 66 59 = h24c.1 66 59 := by rw [eh3]; exact mm_pf_ne _ _ (by decide)
      have qh3_47 : h3.1 66 60 = h24c.1 66 60 := by rw [eh3]; exact mm_pf_ne _ _ (by decide)
      have qh3_48 : h3.1 66 61 = h24c.1 66 61 := by rw [eh3]; exact mm_pf_ne _ _ (by decide)
      have qh3_49 : h3.1 66 62 = h24c.1 66 62 := by rw [eh3]; exact mm_pf_ne _ _ (by decide)
      have qh3_50 : h3.1 66 65 = h24c.1 66 65 := by rw [eh3]; exact mm_pf_ne _ _ (by decide)
      have qh3_51 : h3.1 66 67 = h24c.1 66 67 := by rw [eh3]; exact mm_pf_ne _ _ (by decide)
      have qh3_52 : h3.1 66 68 = h24c.1 66 68 := by rw [eh3]; exact mm_pf_ne _ _ (by decide)
      have qh3_53 : h3.1 66 69 = h24c.1 66 69 := by rw [eh3]; exact mm_pf_ne _ _ (by decide)
      have qh3_54 : h3.1 66 70 = h24c.1 66 70 := by rw [eh3]; exact mm_pf_ne _ _ (by decide)
      have qh3_55 : h3.1 66 71 = h24c.1 66 71 := by rw [eh3]; exact mm_pf_ne _ _ (by decide)
      refine mm_aload_n C (mm_dec dk_X12_rules 21 rfl) rfl ?_
      refine mm_iconst C (mm_dec dk_X12_rules 22 rfl) ⟨by decide, by decide⟩ ?_
      refine mm_puti C fl_X12_237 (mm_dec dk_X12_rules 23 rfl) rfl rfl rfl (Or.inl ⟨rfl, rfl⟩) ?_
      have i4 : mm_inv (mm_pf h3 66 58 (-1)) := mm_inv_pf i3 (show -2147483648 ≤ (-1) ∧ (-1) ≤ 2147483647 from ⟨by omega, by omega⟩) (by decide)
      have f4 : mm_fr [(66, 0), (66, 56), (66, 57), (66, 58), (66, 59), (66, 60), (66, 61), (66, 62), (66, 63), (66, 64), (66, 65), (66, 66), (66, 67), (66, 68), (66, 69), (66, 70), (66, 71)] [102, 103, 104, 105, 106, 107, 108, 109] h (mm_pf h3 66 58 (-1)) := mm_fr_pf f3 (by decide)
      obtain ⟨h4, eh4⟩ : ∃ z, z = mm_pf h3 66 58 (-1) := ⟨_, rfl⟩
      rw [← eh4] at i4 f4 ⊢
      have qh4 : h4.1 66 58 = (-1) := by rw [eh4]; exact mm_pf_same _ _ _ _
      have qh4_56 : h4.1 66 0 = h3.1 66 0 := by rw [eh4]; exact mm_pf_ne _ _ (by decide)
      have qh4_57 : h4.1 66 56 = h3.1 66 56 := by rw [eh4]; exact mm_pf_ne _ _ (by decide)
      have qh4_58 : h4.1 66 57 = h3.1 66 57 := by rw [eh4]; exact mm_pf_ne _ _ (by decide)
      have qh4_59 : h4.1 66 59 = h3.1 66 59 := by rw [eh4]; exact mm_pf_ne _ _ (by decide)
      have qh4_60 : h4.1 66 60 = h3.1 66 60 := by rw [eh4]; exact mm_pf_ne _ _ (by decide)
      have qh4_61 : h4.1 66 61 = h3.1 66 61 := by rw [eh4]; exact mm_pf_ne _ _ (by decide)
      have qh4_62 : h4.1 66 62 = h3.1 66 62 := by rw [eh4]; exact mm_pf_ne _ _ (by decide)
      have qh4_63 : h4.1 66 65 = h3.1 66 65 := by rw [eh4]; exact mm_pf_ne _ _ (by decide)
      have qh4_64 : h4.1 66 67 = h3.1 66 67 := by rw [eh4]; exact mm_pf_ne _ _ (by decide)
      have qh4_65 : h4.1 66 68 = h3.1 66 68 := by rw [eh4]; exact mm_pf_ne _ _ (by decide)
      have qh4_66 : h4.1 66 69 = h3.1 66 69 := by rw [eh4]; exact mm_pf_ne _ _ (by decide)
      have qh4_67 : h4.1 66 70 = h3.1 66 70 := by rw [eh4]; exact mm_pf_ne _ _ (by decide)
      have qh4_68 : h4.1 66 71 = h3.1 66 71 := by rw [eh4]; exact mm_pf_ne _ _ (by decide)
      refine mm_aload_n C (mm_dec dk_X12_rules 24 rfl) rfl ?_
      refine mm_iconst C (mm_dec dk_X12_rules 25 rfl) ⟨by decide, by decide⟩ ?_
      refine mm_puti C fl_X12_398 (mm_dec dk_X12_rules 26 rfl) rfl rfl rfl (Or.inl ⟨rfl, rfl⟩) ?_
      have i5 : mm_inv (mm_pf h4 66 57 0) := mm_inv_pf i4 (show -2147483648 ≤ 0 ∧ 0 ≤ 2147483647 from ⟨by omega, by omega⟩) (by decide)
      have f5 : mm_fr [(66, 0), (66, 56), (66, 57), (66, 58), (66, 59), (66, 60), (66, 61), (66, 62), (66, 63), (66, 64), (66, 65), (66, 66), (66, 67), (66, 68), (66, 69), (66, 70), (66, 71)] [102, 103, 104, 105, 106, 107, 108, 109] h (mm_pf h4 66 57 0) := mm_fr_pf f4 (by decide)
      obtain ⟨h5, eh5⟩ : ∃ z, z = mm_pf h4 66 57 0 := ⟨_, rfl⟩
      rw [← eh5] at i5 f5 ⊢
      have qh5 : h5.1 66 57 = 0 := by rw [eh5]; exact mm_pf_same _ _ _ _
      have qh5_69 : h5.1 66 0 = h4.1 66 0 := by rw [eh5]; exact mm_pf_ne _ _ (by decide)
      have qh5_70 : h5.1 66 56 = h4.1 66 56 := by rw [eh5]; exact mm_pf_ne _ _ (by decide)
      have qh5_71 : h5.1 66 58 = h4.1 66 58 := by rw [eh5]; exact mm_pf_ne _ _ (by decide)
      have qh5_72 : h5.1 66 59 = h4.1 66 59 := by rw [eh5]; exact mm_pf_ne _ _ (by decide)
      have qh5_73 : h5.1 66 60 = h4.1 66 60 := by rw [eh5]; exact mm_pf_ne _ _ (by decide)
      have qh5_74 : h5.1 66 61 = h4.1 66 61 := by rw [eh5]; exact mm_pf_ne _ _ (by decide)
      have qh5_75 : h5.1 66 62 = h4.1 66 62 := by rw [eh5]; exact mm_pf_ne _ _ (by decide)
      have qh5_76 : h5.1 66 65 = h4.1 66 65 := by rw [eh5]; exact mm_pf_ne _ _ (by decide)
      have qh5_77 : h5.1 66 67 = h4.1 66 67 := by rw [eh5]; exact mm_pf_ne _ _ (by decide)
      have qh5_78 : h5.1 66 68 = h4.1 66 68 := by rw [eh5]; exact mm_pf_ne _ _ (by decide)
      have qh5_79 : h5.1 66 69 = h4.1 66 69 := by rw [eh5]; exact mm_pf_ne _ _ (by decide)
      have qh5_80 : h5.1 66 70 = h4.1 66 70 := by rw [eh5]; exact mm_pf_ne _ _ (by decide)
      have qh5_81 : h5.1 66 71 = h4.1 66 71 := by rw [eh5]; exact mm_pf_ne _ _ (by decide)
      refine mm_aload_n C (mm_dec dk_X12_rules 27 rfl) rfl ?_
      refine mm_geti C fl_X12_240 (mm_dec dk_X12_rules 28 rfl) rfl rfl (Or.inr rfl) ?_
      have J64 : ∀ (s64_0 : Int) (bs64_0 : 0 ≤ s64_0 ∧ s64_0 ≤ 1) (w64_0 : (h5.1 66 67 = 0 ∨ s64_0 = 1 - h5.1 66 68)) (w64_1 : h5.1 66 56 = 0) (w64_2 : (0 ≤ p1 ∧ p1 ≤ h.1 66 56)) (w64_3 : h5.1 66 0 = 0), mm_W x 0 0 64 [mR 66, mI p1, mU] [mI s64_0] h5 := by
        intro s64_0 bs64_0 w64_0 w64_1 w64_2 w64_3
        refine mm_istore_nL (ls2 := [mR 66, mI p1, mI s64_0]) C (mm_dec dk_X12_rules 36 rfl) (by decide) rfl ?_
        refine mm_aload_n C (mm_dec dk_X12_rules 37 rfl) rfl ?_
        refine mm_iload_n C (mm_dec dk_X12_rules 38 rfl) rfl ?_
        refine mm_puti C fl_X12_356 (mm_dec dk_X12_rules 39 rfl) rfl rfl rfl (Or.inl ⟨rfl, rfl⟩) ?_
        have i6 : mm_inv (mm_pf h5 66 59 p1) := mm_inv_pf i5 (show 0 ≤ p1 ∧ p1 ≤ 500 from ⟨by omega, by omega⟩) (by decide)
        have f6 : mm_fr [(66, 0), (66, 56), (66, 57), (66, 58), (66, 59), (66, 60), (66, 61), (66, 62), (66, 63), (66, 64), (66, 65), (66, 66), (66, 67), (66, 68), (66, 69), (66, 70), (66, 71)] [102, 103, 104, 105, 106, 107, 108, 109] h (mm_pf h5 66 59 p1) := mm_fr_pf f5 (by decide)
        obtain ⟨h6, eh6⟩ : ∃ z, z = mm_pf h5 66 59 p1 := ⟨_, rfl⟩
        rw [← eh6] at i6 f6 ⊢
        have qh6 : h6.1 66 59 = p1 := by rw [eh6]; exact mm_pf_same _ _ _ _
        have qh6_82 : h6.1 66 0 = h5.1 66 0 := by rw [eh6]; exact mm_pf_ne _ _ (by decide)
        have qh6_83 : h6.1 66 56 = h5.1 66 56 := by rw [eh6]; exact mm_pf_ne _ _ (by decide)
        have qh6_84 : h6.1 66 57 = h5.1 66 57 := by rw [eh6]; exact mm_pf_ne _ _ (by decide)
        have qh6_85 : h6.1 66 58 = h5.1 66 58 := by rw [eh6]; exact mm_pf_ne _ _ (by decide)
        have qh6_86 : h6.1 66 60 = h5.1 66 60 := by rw [eh6]; exact mm_pf_ne _ _ (by decide)
        have qh6_87 : h6.1 66 61 = h5.1 66 61 := by rw [eh6]; exact mm_pf_ne _ _ (by decide)
        have qh6_88 : h6.1 66 62 = h5.1 66 62 := by rw [eh6]; exact mm_pf_ne _ _ (by decide)
        have qh6_89 : h6.1 66 65 = h5.1 66 65 := by rw [eh6]; exact mm_pf_ne _ _ (by decide)
        have qh6_90 : h6.1 66 67 = h5.1 66 67 := by rw [eh6]; exact mm_pf_ne _ _ (by decide)
        have qh6_91 : h6.1 66 68 = h5.1 66 68 := by rw [eh6]; exact mm_pf_ne _ _ (by decide)
        have qh6_92 : h6.1 66 69 = h5.1 66 69 := by rw [eh6]; exact mm_pf_ne _ _ (by decide)
        have qh6_93 : h6.1 66 70 = h5.1 66 70 := by rw [eh6]; exact mm_pf_ne _ _ (by decide)
        have qh6_94 : h6.1 66 71 = h5.1 66 71 := by rw [eh6]; exact mm_pf_ne _ _ (by decide)
        refine mm_aload_n C (mm_dec dk_X12_rules 40 rfl) rfl ?_
        refine mm_iconst C (mm_dec dk_X12_rules 41 rfl) ⟨by decide, by decide⟩ ?_
        refine mm_puti C fl_X12_359 (mm_dec dk_X12_rules 42 rfl) rfl rfl rfl (Or.inl ⟨rfl, rfl⟩) ?_
        have i7 : mm_inv (mm_pf h6 66 60 0) := mm_inv_pf i6 (show 0 ≤ 0 ∧ 0 ≤ 500 from ⟨by omega, by omega⟩) (by decide)
        have f7 : mm_fr [(66, 0), (66, 56), (66, 57), (66, 58), (66, 59), (66, 60), (66, 61), (66, 62), (66, 63), (66, 64), (66, 65), (66, 66), (66, 67), (66, 68), (66, 69), (66, 70), (66, 71)] [102, 103, 104, 105, 106, 107, 108, 109] h (mm_pf h6 66 60 0) := mm_fr_pf f6 (by decide)
        obtain ⟨h7, eh7⟩ : ∃ z, z = mm_pf h6 66 60 0 := ⟨_, rfl⟩
        rw [← eh7] at i7 f7 ⊢
        have qh7 : h7.1 66 60 = 0 := by rw [eh7]; exact mm_pf_same _ _ _ _
        have qh7_95 : h7.1 66 0 = h6.1 66 0 := by rw [eh7]; exact mm_pf_ne _ _ (by decide)
        have qh7_96 : h7.1 66 56 = h6.1 66 56 := by rw [eh7]; exact mm_pf_ne _ _ (by decide)
        have qh7_97 : h7.1 66 57 = h6.1 66 57 := by rw [eh7]; exact mm_pf_ne _ _ (by decide)
        have qh7_98 : h7.1 66 58 = h6.1 66 58 := by rw [eh7]; exact mm_pf_ne _ _ (by decide)
        have qh7_99 : h7.1 66 59 = h6.1 66 59 := by rw [eh7]; exact mm_pf_ne _ _ (by decide)
        have qh7_100 : h7.1 66 61 = h6.1 66 61 := by rw [eh7]; exact mm_pf_ne _ _ (by decide)
        have qh7_101 : h7.1 66 62 = h6.1 66 62 := by rw [eh7]; exact mm_pf_ne _ _ (by decide)
        have qh7_102 : h7.1 66 65 = h6.1 66 65 := by rw [eh7]; exact mm_pf_ne _ _ (by decide)
        have qh7_103 : h7.1 66 67 = h6.1 66 67 := by rw [eh7]; exact mm_pf_ne _ _ (by decide)
        have qh7_104 : h7.1 66 68 = h6.1 66 68 := by rw [eh7]; exact mm_pf_ne _ _ (by decide)
        have qh7_105 : h7.1 66 69 = h6.1 66 69 := by rw [eh7]; exact mm_pf_ne _ _ (by decide)
        have qh7_106 : h7.1 66 70 = h6.1 66 70 := by rw [eh7]; exact mm_pf_ne _ _ (by decide)
        have qh7_107 : h7.1 66 71 = h6.1 66 71 := by rw [eh7]; exact mm_pf_ne _ _ (by decide)
        refine mm_aload_n C (mm_dec dk_X12_rules 43 rfl) rfl ?_
        refine mm_sipush C (mm_dec dk_X12_rules 44 rfl) ⟨by decide, by decide⟩ ?_
        refine mm_iload_n C (mm_dec dk_X12_rules 45 rfl) rfl ?_
        refine mm_imul C (mm_dec dk_X12_rules 46 rfl) ⟨by omega, by omega⟩ ?_
        refine mm_puti C fl_X12_401 (mm_dec dk_X12_rules 47 rfl) rfl rfl rfl (Or.inl ⟨rfl, rfl⟩) ?_
        have i8 : mm_inv (mm_pf h7 66 69 (1200 * s64_0)) := mm_inv_pf i7 (show 0 ≤ (1200 * s64_0) ∧ (1200 * s64_0) ≤ 2400 from ⟨by omega, by omega⟩) (by decide)
        have f8 : mm_fr [(66, 0), (66, 56), (66, 57), (66, 58), (66, 59), (66, 60), (66, 61), (66, 62), (66, 63), (66, 64), (66, 65), (66, 66), (66, 67), (66, 68), (66, 69), (66, 70), (66, 71)] [102, 103, 104, 105, 106, 107, 108, 109] h (mm_pf h7 66 69 (1200 * s64_0)) := mm_fr_pf f7 (by decide)
        obtain ⟨h8, eh8⟩ : ∃ z, z = mm_pf h7 66 69 (1200 * s64_0) := ⟨_, rfl⟩
        rw [← eh8] at i8 f8 ⊢
        have qh8 : h8.1 66 69 = (1200 * s64_0) := by rw [eh8]; exact mm_pf_same _ _ _ _
        have qh8_108 : h8.1 66 0 = h7.1 66 0 := by rw [eh8]; exact mm_pf_ne _ _ (by decide)
        have qh8_109 : h8.1 66 56 = h7.1 66 56 := by rw [eh8]; exact mm_pf_ne _ _ (by decide)
        have qh8_110 : h8.1 66 57 = h7.1 66 57 := by rw [eh8]; exact mm_pf_ne _ _ (by decide)
        have qh8_111 : h8.1 66 58 = h7.1 66 58 := by rw [eh8]; exact mm_pf_ne _ _ (by decide)
        have qh8_112 : h8.1 66 59 = h7.1 66 59 := by rw [eh8]; exact mm_pf_ne _ _ (by decide)
        have qh8_113 : h8.1 66 60 = h7.1 66 60 := by rw [eh8]; exact mm_pf_ne _ _ (by decide)
        have qh8_114 : h8.1 66 61 = h7.1 66 61 := by rw [eh8]; exact mm_pf_ne _ _ (by decide)
        have qh8_115 : h8.1 66 62 = h7.1 66 62 := by rw [eh8]; exact mm_pf_ne _ _ (by decide)
        have qh8_116 : h8.1 66 65 = h7.1 66 65 := by rw [eh8]; exact mm_pf_ne _ _ (by decide)
        have qh8_117 : h8.1 66 67 = h7.1 66 67 := by rw [eh8]; exact mm_pf_ne _ _ (by decide)
        have qh8_118 : h8.1 66 68 = h7.1 66 68 := by rw [eh8]; exact mm_pf_ne _ _ (by decide)
        have qh8_119 : h8.1 66 70 = h7.1 66 70 := by rw [eh8]; exact mm_pf_ne _ _ (by decide)
        have qh8_120 : h8.1 66 71 = h7.1 66 71 := by rw [eh8]; exact mm_pf_ne _ _ (by decide)
        refine mm_aload_n C (mm_dec dk_X12_rules 48 rfl) rfl ?_
        refine mm_getr (t := 103) C fl_X12_120 (mm_dec dk_X12_rules 49 rfl) rfl rfl (mm_ref i8 rfl) ?_
        refine mm_iload_n C (mm_dec dk_X12_rules 50 rfl) rfl ?_
        refine mm_iconst C (mm_dec dk_X12_rules 51 rfl) ⟨by decide, by decide⟩ ?_
        refine mm_iast C (mm_dec dk_X12_rules 52 rfl) rfl (by omega) (by omega) ?_
        have i9 : mm_inv (mm_pa h8 103 s64_0 0) := mm_inv_pa i8 (show 0 ≤ 0 ∧ 0 ≤ 20 from ⟨by omega, by omega⟩)
        have f9 : mm_fr [(66, 0), (66, 56), (66, 57), (66, 58), (66, 59), (66, 60), (66, 61), (66, 62), (66, 63), (66, 64), (66, 65), (66, 66), (66, 67), (66, 68), (66, 69), (66, 70), (66, 71)] [102, 103, 104, 105, 106, 107, 108, 109] h (mm_pa h8 103 s64_0 0) := mm_fr_pa f8 (by decide)
        obtain ⟨h9, eh9⟩ : ∃ z, z = mm_pa h8 103 s64_0 0 := ⟨_, rfl⟩
        rw [← eh9] at i9 f9 ⊢
        have qh9_121 : h9.1 66 0 = h8.1 66 0 := by rw [eh9]; rfl
        have qh9_122 : h9.1 66 56 = h8.1 66 56 := by rw [eh9]; rfl
        have qh9_123 : h9.1 66 57 = h8.1 66 57 := by rw [eh9]; rfl
        have qh9_124 : h9.1 66 58 = h8.1 66 58 := by rw [eh9]; rfl
        have qh9_125 : h9.1 66 59 = h8.1 66 59 := by rw [eh9]; rfl
        have qh9_126 : h9.1 66 60 = h8.1 66 60 := by rw [eh9]; rfl
        have qh9_127 : h9.1 66 61 = h8.1 66 61 := by rw [eh9]; rfl
        have qh9_128 : h9.1 66 62 = h8.1 66 62 := by rw [eh9]; rfl
        have qh9_129 : h9.1 66 65 = h8.1 66 65 := by rw [eh9]; rfl
        have qh9_130 : h9.1 66 67 = h8.1 66 67 := by rw [eh9]; rfl
        have qh9_131 : h9.1 66 68 = h8.1 66 68 := by rw [eh9]; rfl
        have qh9_132 : h9.1 66 69 = h8.1 66 69 := by rw [eh9]; rfl
        have qh9_133 : h9.1 66 70 = h8.1 66 70 := by rw [eh9]; rfl
        have qh9_134 : h9.1 66 71 = h8.1 66 71 := by rw [eh9]; rfl
        refine mm_aload_n C (mm_dec dk_X12_rules 53 rfl) rfl ?_
        refine mm_getr (t := 102) C fl_X12_117 (mm_dec dk_X12_rules 54 rfl) rfl rfl (mm_ref i9 rfl) ?_
        refine mm_iconst C (mm_dec dk_X12_rules 55 rfl) ⟨by decide, by decide⟩ ?_
        refine mm_iload_n C (mm_dec dk_X12_rules 56 rfl) rfl ?_
        refine mm_imul C (mm_dec dk_X12_rules 57 rfl) ⟨by omega, by omega⟩ ?_
        refine mm_sipush C (mm_dec dk_X12_rules 58 rfl) ⟨by decide, by decide⟩ ?_
        refine mm_iast C (mm_dec dk_X12_rules 59 rfl) rfl (by omega) (by omega) ?_
        have i10 : mm_inv (mm_pa h9 102 (3 * s64_0) 3600) := mm_inv_pa i9 (show -2147483648 ≤ 3600 ∧ 3600 ≤ 2147483647 from ⟨by omega, by omega⟩)
        have f10 : mm_fr [(66, 0), (66, 56), (66, 57), (66, 58), (66, 59), (66, 60), (66, 61), (66, 62), (66, 63), (66, 64), (66, 65), (66, 66), (66, 67), (66, 68), (66, 69), (66, 70), (66, 71)] [102, 103, 104, 105, 106, 107, 108, 109] h (mm_pa h9 102 (3 * s64_0) 3600) := mm_fr_pa f9 (by decide)
        obtain ⟨h10, eh10⟩ : ∃ z, z = mm_pa h9 102 (3 * s64_0) 3600 := ⟨_, rfl⟩
        rw [← eh10] at i10 f10 ⊢
        have qh10_135 : h10.1 66 0 = h9.1 66 0 := by rw [eh10]; rfl
        have qh10_136 : h10.1 66 56 = h9.1 66 56 := by rw [eh10]; rfl
        have qh10_137 : h10.1 66 57 = h9.1 66 57 := by rw [eh10]; rfl
        have qh10_138 : h10.1 66 58 = h9.1 66 58 := by rw [eh10]; rfl
        have qh10_139 : h10.1 66 59 = h9.1 66 59 := by rw [eh10]; rfl
        have qh10_140 : h10.1 66 60 = h9.1 66 60 := by rw [eh10]; rfl
        have qh10_141 : h10.1 66 61 = h9.1 66 61 := by rw [eh10]; rfl
        have qh10_142 : h10.1 66 62 = h9.1 66 62 := by rw [eh10]; rfl
        have qh10_143 : h10.1 66 65 = h9.1 66 65 := by rw [eh10]; rfl
        have qh10_144 : h10.1 66 67 = h9.1 66 67 := by rw [eh10]; rfl
        have qh10_145 : h10.1 66 68 = h9.1 66 68 := by rw [eh10]; rfl
        have qh10_146 : h10.1 66 69 = h9.1 66 69 := by rw [eh10]; rfl
        have qh10_147 : h10.1 66 70 = h9.1 66 70 := by rw [eh10]; rfl
        have qh10_148 : h10.1 66 71 = h9.1 66 71 := by rw [eh10]; rfl
        refine mm_aload_n C (mm_dec dk_X12_rules 60 rfl) rfl ?_
        refine mm_getr (t := 102) C fl_X12_117 (mm_dec dk_X12_rules 61 rfl) rfl rfl (mm_ref i10 rfl) ?_
        refine mm_iconst C (mm_dec dk_X12_rules 62 rfl) ⟨by decide, by decide⟩ ?_
        refine mm_iload_n C (mm_dec dk_X12_rules 63 rfl) rfl ?_
        refine mm_imul C (mm_dec dk_X12_rules 64 rfl) ⟨by omega, by omega⟩ ?_
        refine mm_iconst C (mm_dec dk_X12_rules 65 rfl) ⟨by decide, by decide⟩ ?_
        refine mm_iadd C (mm_dec dk_X12_rules 66 rfl) ⟨by omega, by omega⟩ ?_
        refine mm_bipush C (mm_dec dk_X12_rules 67 rfl) ⟨by decide, by decide⟩ ?_
        refine mm_iast C (mm_dec dk_X12_rules 68 rfl) rfl (by omega) (by omega) ?_
        have i11 : mm_inv (mm_pa h10 102 ((3 * s64_0) + 1) 60) := mm_inv_pa i10 (show -2147483648 ≤ 60 ∧ 60 ≤ 2147483647 from ⟨by omega, by omega⟩)
        have f11 : mm_fr [(66, 0), (66, 56), (66, 57), (66, 58), (66, 59), (66, 60), (66, 61), (66, 62), (66, 63), (66, 64), (66, 65), (66, 66), (66, 67), (66, 68), (66, 69), (66, 70), (66, 71)] [102, 103, 104, 105, 106, 107, 108, 109] h (mm_pa h10 102 ((3 * s64_0) + 1) 60) := mm_fr_pa f10 (by decide)
        obtain ⟨h11, eh11⟩ : ∃ z, z = mm_pa h10 102 ((3 * s64_0) + 1) 60 := ⟨_, rfl⟩
        rw [← eh11] at i11 f11 ⊢
        have qh11_149 : h11.1 66 0 = h10.1 66 0 := by rw [eh11]; rfl
        have qh11_150 : h11.1 66 56 = h10.1 66 56 := by rw [eh11]; rfl
        have qh11_151 : h11.1 66 57 = h10.1 66 57 := by rw [eh11]; rfl
        have qh11_152 : h11.1 66 58 = h10.1 66 58 := by rw [eh11]; rfl
        have qh11_153 : h11.1 66 59 = h10.1 66 59 := by rw [eh11]; rfl
        have qh11_154 : h11.1 66 60 = h10.1 66 60 := by rw [eh11]; rfl
        have qh11_155 : h11.1 66 61 = h10.1 66 61 := by rw [eh11]; rfl
        have qh11_156 : h11.1 66 62 = h10.1 66 62 := by rw [eh11]; rfl
        have qh11_157 : h11.1 66 65 = h10.1 66 65 := by rw [eh11]; rfl
        have qh11_158 : h11.1 66 67 = h10.1 66 67 := by rw [eh11]; rfl
        have qh11_159 : h11.1 66 68 = h10.1 66 68 := by rw [eh11]; rfl
        have qh11_160 : h11.1 66 69 = h10.1 66 69 := by rw [eh11]; rfl
        have qh11_161 : h11.1 66 70 = h10.1 66 70 := by rw [eh11]; rfl
        have qh11_162 : h11.1 66 71 = h10.1 66 71 := by rw [eh11]; rfl
        refine mm_aload_n C (mm_dec dk_X12_rules 69 rfl) rfl ?_
        refine mm_getr (t := 102) C fl_X12_117 (mm_dec dk_X12_rules 70 rfl) rfl rfl (mm_ref i11 rfl) ?_
        refine mm_iconst C (mm_dec dk_X12_rules 71 rfl) ⟨by decide, by decide⟩ ?_
        refine mm_iload_n C (mm_dec dk_X12_rules 72 rfl) rfl ?_
        refine mm_imul C (mm_dec dk_X12_rules 73 rfl) ⟨by omega, by omega⟩ ?_
        refine mm_iconst C (mm_dec dk_X12_rules 74 rfl) ⟨by decide, by decide⟩ ?_
        refine mm_iadd C (mm_dec dk_X12_rules 75 rfl) ⟨by omega, by omega⟩ ?_
        refine mm_sipush C (mm_dec dk_X12_rules 76 rfl) ⟨by decide, by decide⟩ ?_
        refine mm_iast C (mm_dec dk_X12_rules 77 rfl) rfl (by omega) (by omega) ?_
        have i12 : mm_inv (mm_pa h11 102 ((3 * s64_0) + 2) 900) := mm_inv_pa i11 (show -2147483648 ≤ 900 ∧ 900 ≤ 2147483647 from ⟨by omega, by omega⟩)
        have f12 : mm_fr [(66, 0), (66, 56), (66, 57), (66, 58), (66, 59), (66, 60), (66, 61), (66, 62), (66, 63), (66, 64), (66, 65), (66, 66), (66, 67), (66, 68), (66, 69), (66, 70), (66, 71)] [102, 103, 104, 105, 106, 107, 108, 109] h (mm_pa h11 102 ((3 * s64_0) + 2) 900) := mm_fr_pa f11 (by decide)
        obtain ⟨h12, eh12⟩ : ∃ z, z = mm_pa h11 102 ((3 * s64_0) + 2) 900 := ⟨_, rfl⟩
        rw [← eh12] at i12 f12 ⊢
        have qh12_163 : h12.1 66 0 = h11.1 66 0 := by rw [eh12]; rfl
        have qh12_164 : h12.1 66 56 = h11.1 66 56 := by rw [eh12]; rfl
        have qh12_165 : h12.1 66 57 = h11.1 66 57 := by rw [eh12]; rfl
        have qh12_166 : h12.1 66 58 = h11.1 66 58 := by rw [eh12]; rfl
        have qh12_167 : h12.1 66 59 = h11.1 66 59 := by rw [eh12]; rfl
        have qh12_168 : h12.1 66 60 = h11.1 66 60 := by rw [eh12]; rfl
        have qh12_169 : h12.1 66 61 = h11.1 66 61 := by rw [eh12]; rfl
        have qh12_170 : h12.1 66 62 = h11.1 66 62 := by rw [eh12]; rfl
        have qh12_171 : h12.1 66 65 = h11.1 66 65 := by rw [eh12]; rfl
        have qh12_172 : h12.1 66 67 = h11.1 66 67 := by rw [eh12]; rfl
        have qh12_173 : h12.1 66 68 = h11.1 66 68 := by rw [eh12]; rfl
        have qh12_174 : h12.1 66 69 = h11.1 66 69 := by rw [eh12]; rfl
        have qh12_175 : h12.1 66 70 = h11.1 66 70 := by rw [eh12]; rfl
        have qh12_176 : h12.1 66 71 = h11.1 66 71 := by rw [eh12]; rfl
        have zbk : mm_bk h h12 s64_0 := by rw [eh12]; refine mm_bk_pa ?_ (by decide); rw [eh11]; refine mm_bk_pa ?_ (by decide); rw [eh10]; refine mm_bk_pa ?_ (by decide); rw [eh9]; refine mm_bk_103 ?_; rw [eh8]; refine mm_bk_pf ?_; rw [eh7]; refine mm_bk_pf ?_; rw [eh6]; refine mm_bk_pf ?_; rw [eh5]; refine mm_bk_pf ?_; rw [eh4]; refine mm_bk_pf ?_; rw [eh3]; refine mm_bk_pf ?_; exact mm_bk_tr (by rw [eh1]; exact mm_bk_pf mm_bk_rf) (mm_bk_fr g24c (by decide))
        have z3 : h12.2.1 103 s64_0 = 0 := by rw [eh12, mm_pa_o 103 102 (by decide), eh11, mm_pa_o 103 102 (by decide), eh10, mm_pa_o 103 102 (by decide), eh9]; exact mm_pa_same _ _ _ _
        refine mm_aload_n C (mm_dec dk_X12_rules 78 rfl) rfl ?_
        have J131 : ∀ (n : Nat) (h131_ : mH) (i131_ : mm_inv h131_) (f131_ : mm_fr [(66, 0), (66, 56), (66, 57), (66, 58), (66, 59), (66, 60), (66, 61), (66, 62), (66, 63), (66, 64), (66, 65), (66, 66), (66, 67), (66, 68), (66, 69), (66, 70), (66, 71)] [102, 103, 104, 105, 106, 107, 108, 109] h h131_) (w131_0 : mm_rn h12 h131_ s64_0) (w131_1 : h131_.1 66 67 = h.1 66 67) (w131_2 : h131_.1 66 68 = h.1 66 68) (w131_3 : h131_.1 66 56 = 0) (w131_4 : (0 ≤ p1 ∧ p1 ≤ h.1 66 56)) (w131_5 : h131_.1 66 0 = 0) (w131_6 : mm_R9 (h.2.1 101) p1 s64_0 h h131_), (2 * (500 - h131_.1 66 62) + (if h131_.1 66 57 = 0 then 1 else 0) : Int) < n → mm_W x 0 0 131 [mR 66, mU, mI s64_0] [] h131_ := by
          intro n
          induction n with
          | zero =>
            intro h131_ i131_ f131_ w131_0 w131_1 w131_2 w131_3 w131_4 w131_5 w131_6 hm
            have g177 : -2147483648 ≤ h131_.1 66 57 ∧ h131_.1 66 57 ≤ 2147483647 := i131_.1 66 57
            have g178 : 0 ≤ h131_.1 66 69 ∧ h131_.1 66 69 ≤ 2400 := i131_.1 66 69
            have g179 : 0 ≤ h131_.1 66 70 ∧ h131_.1 66 70 ≤ 520 := i131_.1 66 70
            have g180 : 0 ≤ h131_.1 66 62 ∧ h131_.1 66 62 ≤ 500 := i131_.1 66 62
            have g181 : 0 ≤ h131_.1 66 60 ∧ h131_.1 66 60 ≤ 500 := i131_.1 66 60
            have g182 : -2147483648 ≤ h131_.1 66 61 ∧ h131_.1 66 61 ≤ 2147483647 := i131_.1 66 61
            have g183 : 0 ≤ h131_.1 66 71 ∧ h131_.1 66 71 ≤ 6 := i131_.1 66 71
            have g184 : 0 ≤ h131_.1 66 67 ∧ h131_.1 66 67 ≤ 1 := i131_.1 66 67
            have g185 : 0 ≤ h131_.1 66 68 ∧ h131_.1 66 68 ≤ 1 := i131_.1 66 68
            have g186 : 0 ≤ h131_.1 66 56 ∧ h131_.1 66 56 ≤ 500 := i131_.1 66 56
            have g187 : -2147483648 ≤ h131_.1 66 0 ∧ h131_.1 66 0 ≤ 2147483647 := i131_.1 66 0
            have g188 : -2147483648 ≤ h131_.1 66 58 ∧ h131_.1 66 58 ≤ 2147483647 := i131_.1 66 58
            have g189 : 0 ≤ h131_.1 66 59 ∧ h131_.1 66 59 ≤ 500 := i131_.1 66 59
            have g190 : -2147483648 ≤ h131_.1 66 65 ∧ h131_.1 66 65 ≤ 2147483647 := i131_.1 66 65
            exfalso; omega
          | succ n ih131 =>
            intro h131_ i131_ f131_ w131_0 w131_1 w131_2 w131_3 w131_4 w131_5 w131_6 hm131
            have g191 : -2147483648 ≤ h131_.1 66 57 ∧ h131_.1 66 57 ≤ 2147483647 := i131_.1 66 57
            have g192 : 0 ≤ h131_.1 66 69 ∧ h131_.1 66 69 ≤ 2400 := i131_.1 66 69
            have g193 : 0 ≤ h131_.1 66 70 ∧ h131_.1 66 70 ≤ 520 := i131_.1 66 70
            have g194 : 0 ≤ h131_.1 66 62 ∧ h131_.1 66 62 ≤ 500 := i131_.1 66 62
            have g195 : 0 ≤ h131_.1 66 60 ∧ h131_.1 66 60 ≤ 500 := i131_.1 66 60
            have g196 : -2147483648 ≤ h131_.1 66 61 ∧ h131_.1 66 61 ≤ 2147483647 := i131_.1 66 61
            have g197 : 0 ≤ h131_.1 66 71 ∧ h131_.1 66 71 ≤ 6 := i131_.1 66 71
            have g198 : 0 ≤ h131_.1 66 67 ∧ h131_.1 66 67 ≤ 1 := i131_.1 66 67
            have g199 : 0 ≤ h131_.1 66 68 ∧ h131_.1 66 68 ≤ 1 := i131_.1 66 68
            have g200 : 0 ≤ h131_.1 66 56 ∧ h131_.1 66 56 ≤ 500 := i131_.1 66 56
            have g201 : -2147483648 ≤ h131_.1 66 0 ∧ h131_.1 66 0 ≤ 2147483647 := i131_.1 66 0
            have g202 : -2147483648 ≤ h131_.1 66 58 ∧ h131_.1 66 58 ≤ 2147483647 := i131_.1 66 58
            have g203 : 0 ≤ h131_.1 66 59 ∧ h131_.1 66 59 ≤ 500 := i131_.1 66 59
            have g204 : -2147483648 ≤ h131_.1 66 65 ∧ h131_.1 66 65 ≤ 2147483647 := i131_.1 66 65
            have zt := w131_0.2.2.1
            have zu := w131_0.2.2.2.1
            have zv := w131_0.2.2.2.2
            have tf131 := mm_cY_h w131_6.1
            refine mm_aload_n C (mm_dec dk_X12_rules 80 rfl) rfl ?_
            refine mm_cVi (rest := []) C1 ev_X12_413 (mm_dec dk_X12_rules 81 rfl) (c_X12_isGood x.2.1 hl (d - 1) (by omega) h131_ i131_ ) rfl rfl (Nat.le_of_ble_eq_true rfl) ⟨by decide, by decide⟩ rfl (fun r132 h132c hp132 => ?_) (fun _ _ q => q.elim)
            obtain ⟨z132, y132⟩ := hp132
            rw [z132]
            have J153 : ∀ (w153_0 : (h131_.1 66 57 ≠ 0 ∨ h131_.1 66 61 = 0)), mm_W x 0 0 153 [mR 66, mU, mI s64_0] [] h131_ := by
              intro w153_0
              have g206 : -2147483648 ≤ h131_.1 66 57 ∧ h131_.1 66 57 ≤ 2147483647 := i131_.1 66 57
              have g207 : 0 ≤ h131_.1 66 69 ∧ h131_.1 66 69 ≤ 2400 := i131_.1 66 69
              have g208 : 0 ≤ h131_.1 66 70 ∧ h131_.1 66 70 ≤ 520 := i131_.1 66 70
              have g209 : 0 ≤ h131_.1 66 62 ∧ h131_.1 66 62 ≤ 500 := i131_.1 66 62
              have g210 : 0 ≤ h131_.1 66 60 ∧ h131_.1 66 60 ≤ 500 := i131_.1 66 60
              have g211 : -2147483648 ≤ h131_.1 66 61 ∧ h131_.1 66 61 ≤ 2147483647 := i131_.1 66 61
              have g212 : 0 ≤ h131_.1 66 71 ∧ h131_.1 66 71 ≤ 6 := i131_.1 66 71
              have g213 : 0 ≤ h131_.1 66 67 ∧ h131_.1 66 67 ≤ 1 := i131_.1 66 67
              have g214 : 0 ≤ h131_.1 66 68 ∧ h131_.1 66 68 ≤ 1 := i131_.1 66 68
              have g215 : 0 ≤ h131_.1 66 56 ∧ h131_.1 66 56 ≤ 500 := i131_.1 66 56
              have g216 : -2147483648 ≤ h131_.1 66 0 ∧ h131_.1 66 0 ≤ 2147483647 := i131_.1 66 0
              have g217 : -2147483648 ≤ h131_.1 66 58 ∧ h131_.1 66 58 ≤ 2147483647 := i131_.1 66 58
              have g218 : 0 ≤ h131_.1 66 59 ∧ h131_.1 66 59 ≤ 500 := i131_.1 66 59
              have g219 : -2147483648 ≤ h131_.1 66 65 ∧ h131_.1 66 65 ≤ 2147483647 := i131_.1 66 65
              refine mm_aload_n C (mm_dec dk_X12_rules 90 rfl) rfl ?_
              refine mm_cVi (rest := []) C1 ev_X12_413 (mm_dec dk_X12_rules 91 rfl) (c_X12_isGood x.2.1 hl (d - 1) (by omega) h131_ i131_ ) rfl rfl (Nat.le_of_ble_eq_true rfl) ⟨by decide, by decide⟩ rfl (fun r154 h154c hp154 => ?_) (fun _ _ q => q.elim)
              obtain ⟨z154, y154⟩ := hp154
              rw [z154]
              refine mm_if_ne (tgt := 165) C (mm_dec dk_X12_rules 92 rfl) (by decide) (fun c157 => ?_) (fun c157 => ?_)
              · skip
                refine mm_aload_n C (mm_dec dk_X12_rules 96 rfl) rfl ?_
                refine mm_iconst C (mm_dec dk_X12_rules 97 rfl) ⟨by decide, by decide⟩ ?_
                refine mm_puti C fl_X12_240 (mm_dec dk_X12_rules 98 rfl) rfl rfl rfl (Or.inr ⟨rfl, rfl, by omega⟩) ?_
                have i13 : mm_inv (mm_pf h131_ 66 67 1) := mm_inv_pf i131_ (show 0 ≤ 1 ∧ 1 ≤ 1 from ⟨by omega, by omega⟩) (by decide)
                have f13 : mm_fr [(66, 0), (66, 56), (66, 57), (66, 58), (66, 59), (66, 60), (66, 61), (66, 62), (66, 63), (66, 64), (66, 65), (66, 66), (66, 67), (66, 68), (66, 69), (66, 70), (66, 71)] [102, 103, 104, 105, 106, 107, 108, 109] h (mm_pf h131_ 66 67 1) := mm_fr_pf f131_ (by decide)
                obtain ⟨h13, eh13⟩ : ∃ z, z = mm_pf h131_ 66 67 1 := ⟨_, rfl⟩
                rw [← eh13] at i13 f13 ⊢
                have qh13 : h13.1 66 67 = 1 := by rw [eh13]; exact mm_pf_same _ _ _ _
                have qh13_221 : h13.1 66 0 = h131_.1 66 0 := by rw [eh13]; exact mm_pf_ne _ _ (by decide)
                have qh13_222 : h13.1 66 56 = h131_.1 66 56 := by rw [eh13]; exact mm_pf_ne _ _ (by decide)
                have qh13_223 : h13.1 66 57 = h131_.1 66 57 := by rw [eh13]; exact mm_pf_ne _ _ (by decide)
                have qh13_224 : h13.1 66 58 = h131_.1 66 58 := by rw [eh13]; exact mm_pf_ne _ _ (by decide)
                have qh13_225 : h13.1 66 59 = h131_.1 66 59 := by rw [eh13]; exact mm_pf_ne _ _ (by decide)
                have qh13_226 : h13.1 66 60 = h131_.1 66 60 := by rw [eh13]; exact mm_pf_ne _ _ (by decide)
                have qh13_227 : h13.1 66 61 = h131_.1 66 61 := by rw [eh13]; exact mm_pf_ne _ _ (by decide)
                have qh13_228 : h13.1 66 62 = h131_.1 66 62 := by rw [eh13]; exact mm_pf_ne _ _ (by decide)
                have qh13_229 : h13.1 66 65 = h131_.1 66 65 := by rw [eh13]; exact mm_pf_ne _ _ (by decide)
                have qh13_230 : h13.1 66 68 = h131_.1 66 68 := by rw [eh13]; exact mm_pf_ne _ _ (by decide)
                have qh13_231 : h13.1 66 69 = h131_.1 66 69 := by rw [eh13]; exact mm_pf_ne _ _ (by decide)
                have qh13_232 : h13.1 66 70 = h131_.1 66 70 := by rw [eh13]; exact mm_pf_ne _ _ (by decide)
                have qh13_233 : h13.1 66 71 = h131_.1 66 71 := by rw [eh13]; exact mm_pf_ne _ _ (by decide)
                refine mm_aload_n C (mm_dec dk_X12_rules 99 rfl) rfl ?_
                refine mm_iload_n C (mm_dec dk_X12_rules 100 rfl) rfl ?_
                refine mm_puti C fl_X12_454 (mm_dec dk_X12_rules 101 rfl) rfl rfl rfl (Or.inl ⟨rfl, rfl⟩) ?_
                have i14 : mm_inv (mm_pf h13 66 68 s64_0) := mm_inv_pf i13 (show 0 ≤ s64_0 ∧ s64_0 ≤ 1 from ⟨by omega, by omega⟩) (by decide)
                have f14 : mm_fr [(66, 0), (66, 56), (66, 57), (66, 58), (66, 59), (66, 60), (66, 61), (66, 62), (66, 63), (66, 64), (66, 65), (66, 66), (66, 67), (66, 68), (66, 69), (66, 70), (66, 71)] [102, 103, 104, 105, 106, 107, 108, 109] h (mm_pf h13 66 68 s64_0) := mm_fr_pf f13 (by decide)
                obtain ⟨h14, eh14⟩ : ∃ z, z = mm_pf h13 66 68 s64_0 := ⟨_, rfl⟩
                rw [← eh14] at i14 f14 ⊢
                have qh14 : h14.1 66 68 = s64_0 := by rw [eh14]; exact mm_pf_same _ _ _ _
                have qh14_234 : h14.1 66 0 = h13.1 66 0 := by rw [eh14]; exact mm_pf_ne _ _ (by decide)
                have qh14_235 : h14.1 66 56 = h13.1 66 56 := by rw [eh14]; exact mm_pf_ne _ _ (by decide)
                have qh14_236 : h14.1 66 57 = h13.1 66 57 := by rw [eh14]; exact mm_pf_ne _ _ (by decide)
                have qh14_237 : h14.1 66 58 = h13.1 66 58 := by rw [eh14]; exact mm_pf_ne _ _ (by decide)
                have qh14_238 : h14.1 66 59 = h13.1 66 59 := by rw [eh14]; exact mm_pf_ne _ _ (by decide)
                have qh14_239 : h14.1 66 60 = h13.1 66 60 := by rw [eh14]; exact mm_pf_ne _ _ (by decide)
                have qh14_240 : h14.1 66 61 = h13.1 66 61 := by rw [eh14]; exact mm_pf_ne _ _ (by decide)
                have qh14_241 : h14.1 66 62 = h13.1 66 62 := by rw [eh14]; exact mm_pf_ne _ _ (by decide)
                have qh14_242 : h14.1 66 65 = h13.1 66 65 := by rw [eh14]; exact mm_pf_ne _ _ (by decide)
                have qh14_243 : h14.1 66 67 = h13.1 66 67 := by rw [eh14]; exact mm_pf_ne _ _ (by decide)
                have qh14_244 : h14.1 66 69 = h13.1 66 69 := by rw [eh14]; exact mm_pf_ne _ _ (by decide)
                have qh14_245 : h14.1 66 70 = h13.1 66 70 := by rw [eh14]; exact mm_pf_ne _ _ (by decide)
                have qh14_246 : h14.1 66 71 = h13.1 66 71 := by rw [eh14]; exact mm_pf_ne _ _ (by decide)
                refine mm_iconst C (mm_dec dk_X12_rules 102 rfl) ⟨by decide, by decide⟩ ?_
                exact mm_iret C T (mm_dec dk_X12_rules 103 rfl) (by decide : 0 ≤ 0) (by decide : 0 ≤ 0) ⟨_, rfl, ⟨⟨by omega, by omega⟩, i14, f14, by first | exact mm_RO_fr t0 f14 (by decide) | exact mm_RO_new w131_0 (by omega) (by omega) eh13 eh14 | exact mm_RO_bk i0 t0 (mm_bk_tr zbk w131_0.1) (by omega) (by omega) (by omega) | exact mm_RO_fr (mm_RO_fr (wf := [(66, 0)]) (wa := []) (h2 := h1) t0 (by rw [eh1]; exact mm_fr_pf mm_fr_rf (by decide)) (by decide)) g24c (by decide), by omega, by first | exact Or.inr ⟨by omega, by omega, rfl, by omega, fun w a b => mm_pr_sm (fun j => (g24c.2 102 (by decide) j).trans (mm_sm_pf 102 eh1 j)) (by omega) (by omega)⟩ | exact Or.inl ⟨by omega, by omega, Or.inr ⟨by omega, by have z := w131_6.2.2.2.2 (by omega); exact z, fun w a b => mm_pr_old w131_6.2.2.1 (by omega) (by omega) (by omega) ⟨a, b⟩⟩⟩ | exact Or.inl ⟨by omega, by omega, Or.inl ⟨rfl, by have z := (w131_6.2.2.2.1 (by omega)).1; omega, _, mm_R9_end w131_6 (by omega) (by have zz := mm_hd9x tf131; omega), fun w a b => (mm_pr_new (by omega) ⟨a, b⟩).trans (by rw [show h14.1 66 68 = s64_0 by omega, mm_PY_eq (h := h131_) (fun j => by rw [eh14, eh13]; rfl)])⟩⟩⟩⟩
              · skip
                refine mm_aload_n C (mm_dec dk_X12_rules 93 rfl) rfl ?_
                refine mm_geti C fl_X12_398 (mm_dec dk_X12_rules 94 rfl) rfl rfl (Or.inl rfl) ?_
                exact mm_iret C T (mm_dec dk_X12_rules 95 rfl) (by decide : 0 ≤ 0) (by decide : 0 ≤ 0) ⟨_, rfl, ⟨⟨by omega, by omega⟩, i131_, f131_, by first | exact mm_RO_fr t0 f131_ (by decide) | exact mm_RO_new w131_0 (by omega) (by omega) eh13 eh14 | exact mm_RO_bk i0 t0 (mm_bk_tr zbk w131_0.1) (by omega) (by omega) (by omega) | exact mm_RO_fr (mm_RO_fr (wf := [(66, 0)]) (wa := []) (h2 := h1) t0 (by rw [eh1]; exact mm_fr_pf mm_fr_rf (by decide)) (by decide)) g24c (by decide), by omega, by first | exact Or.inr ⟨by omega, by omega, rfl, by omega, fun w a b => mm_pr_sm (fun j => (g24c.2 102 (by decide) j).trans (mm_sm_pf 102 eh1 j)) (by omega) (by omega)⟩ | exact Or.inl ⟨by omega, by omega, Or.inr ⟨by omega, by have z := w131_6.2.2.2.2 (by omega); exact z, fun w a b => mm_pr_old w131_6.2.2.1 (by omega) (by omega) (by omega) ⟨a, b⟩⟩⟩ | exact Or.inl ⟨by omega, by omega, Or.inl ⟨rfl, by have z := (w131_6.2.2.2.1 (by omega)).1; omega, _, mm_R9_end w131_6 (by omega) (by have zz := mm_hd9x tf131; omega), fun w a b => (mm_pr_new (by omega) ⟨a, b⟩).trans (by rw [show h131_.1 66 68 = s64_0 by omega, mm_PY_eq (h := h131_) (fun j => by rw [eh14, eh13]; rfl)])⟩⟩⟩⟩
            refine mm_if_eq (tgt := 153) C (mm_dec dk_X12_rules 82 rfl) (by decide) (fun c135 => ?_) (fun c135 => ?_)
            · skip
              exact J153 (by omega)
            · skip
              refine mm_aload_n C (mm_dec dk_X12_rules 83 rfl) rfl ?_
              refine mm_geti C fl_X12_378 (mm_dec dk_X12_rules 84 rfl) rfl rfl (Or.inl rfl) ?_
              refine mm_if_eq (tgt := 153) C (mm_dec dk_X12_rules 85 rfl) (by decide) (fun c142 => ?_) (fun c142 => ?_)
              · skip
                exact J153 (by omega)
              · skip
                refine mm_aload_n C (mm_dec dk_X12_rules 86 rfl) rfl ?_
                refine mm_iload_n C (mm_dec dk_X12_rules 87 rfl) rfl ?_
                refine mm_cVv (rest := []) C1 ev_X12_457 (mm_dec dk_X12_rules 88 rfl) (c_X12_clause_q x.2.1 hl (d - 1) (by omega) h131_ i131_ s64_0 ⟨by omega, by omega⟩ (by first | exact w131_6.1 | exact w131_0.2.1 | omega | exact (zv (by omega)).1 | exact (zv (by omega)).2) (by first | exact w131_6.1 | exact w131_0.2.1 | omega | exact (zv (by omega)).1 | exact (zv (by omega)).2) (by first | exact w131_6.1 | exact w131_0.2.1 | omega | exact (zv (by omega)).1 | exact (zv (by omega)).2) (by first | exact w131_6.1 | exact w131_0.2.1 | omega | exact (zv (by omega)).1 | exact (zv (by omega)).2) (by first | exact w131_6.1 | exact w131_0.2.1 | omega | exact (zv (by omega)).1 | exact (zv (by omega)).2) (by first | exact w131_6.1 | exact w131_0.2.1 | omega | exact (zv (by omega)).1 | exact (zv (by omega)).2) (by first | exact w131_6.1 | exact w131_0.2.1 | omega | exact (zv (by omega)).1 | exact (zv (by omega)).2)) rfl rfl (Nat.le_of_ble_eq_true rfl) ⟨by decide, by decide⟩ rfl (fun h147c hp147 => ?_) (fun _ _ q => q.elim)
                obtain ⟨i147c, g147c, y147_0, y147_1, y147_2, y147_3⟩ := hp147
                have f147c : mm_fr [(66, 0), (66, 56), (66, 57), (66, 58), (66, 59), (66, 60), (66, 61), (66, 62), (66, 63), (66, 64), (66, 65), (66, 66), (66, 67), (66, 68), (66, 69), (66, 70), (66, 71)] [102, 103, 104, 105, 106, 107, 108, 109] h h147c := mm_fr_tr f131_ g147c (by decide +kernel)
                have q147c_248 : h147c.1 66 0 = h131_.1 66 0 := g147c.1 66 0 (by decide)
                have q147c_249 : h147c.1 66 56 = h131_.1 66 56 := g147c.1 66 56 (by decide)
                have q147c_250 : h147c.1 66 59 = h131_.1 66 59 := g147c.1 66 59 (by decide)
                have q147c_251 : h147c.1 66 67 = h131_.1 66 67 := g147c.1 66 67 (by decide)
                have q147c_252 : h147c.1 66 68 = h131_.1 66 68 := g147c.1 66 68 (by decide)
                have g253 : -2147483648 ≤ (h147c.1 66 57) ∧ (h147c.1 66 57) ≤ 2147483647 := i147c.1 66 57
                have g254 : 0 ≤ (h147c.1 66 69) ∧ (h147c.1 66 69) ≤ 2400 := i147c.1 66 69
                have g255 : 0 ≤ (h147c.1 66 70) ∧ (h147c.1 66 70) ≤ 520 := i147c.1 66 70
                have g256 : 0 ≤ (h147c.1 66 62) ∧ (h147c.1 66 62) ≤ 500 := i147c.1 66 62
                have g257 : 0 ≤ (h147c.1 66 60) ∧ (h147c.1 66 60) ≤ 500 := i147c.1 66 60
                have g258 : -2147483648 ≤ (h147c.1 66 61) ∧ (h147c.1 66 61) ≤ 2147483647 := i147c.1 66 61
                have g259 : 0 ≤ (h147c.1 66 71) ∧ (h147c.1 66 71) ≤ 6 := i147c.1 66 71
                have g260 : -2147483648 ≤ (h147c.1 66 58) ∧ (h147c.1 66 58) ≤ 2147483647 := i147c.1 66 58
                have g261 : -2147483648 ≤ (h147c.1 66 65) ∧ (h147c.1 66 65) ≤ 2147483647 := i147c.1 66 65
                have zw := y147_0.2.2.1
                refine mm_goto (tgt := 131) C (mm_dec dk_X12_rules 89 rfl) (by decide) ?_
                exact ih131 h147c i147c f147c (by first | exact mm_rn_tr w131_0 y147_0 | exact mm_rn_init g128c (by omega) z3 y128_1 y128_2 (by omega)) (by omega) (by omega) (by omega) (by omega) (by omega) (by first | exact mm_R9_s w131_6 (by omega) y147_2 (fun q => by omega) | exact mm_R9_0 y128_3 ⟨fun j => f128c.2 101 (by decide) j, by omega⟩ (fun j w => by rw [g128c.2 102 (by decide), eh12, mm_pa_j 102 (by omega), eh11, mm_pa_j 102 (by omega), eh10, mm_pa_j 102 (by omega)]; exact (mm_sm_pa 102 eh9 (by decide) j).trans ((mm_sm_pf 102 eh8 j).trans ((mm_sm_pf 102 eh7 j).trans ((mm_sm_pf 102 eh6 j).trans ((mm_sm_pf 102 eh5 j).trans ((mm_sm_pf 102 eh4 j).trans ((mm_sm_pf 102 eh3 j).trans ((g24c.2 102 (by decide) j).trans (mm_sm_pf 102 eh1 j))))))))) (by omega) (by omega) (by rw [y128_4]; unfold mm_UY; rw [show h12.1 66 59 = p1 by omega, show h12.1 66 60 = 0 by omega, show h12.2.1 101 = h.2.1 101 from funext (f12.2 101 (by decide))]) ((g128c.2 103 (by decide) _).trans z3) ((g128c.2 102 (by decide) _).trans (by rw [eh12, mm_pa_j 102 (by omega), eh11, mm_pa_j 102 (by omega), eh10]; exact mm_pa_same _ _ _ _)) ((g128c.2 102 (by decide) _).trans (by rw [eh12, mm_pa_j 102 (by omega), eh11]; exact mm_pa_same _ _ _ _)) ((g128c.2 102 (by decide) _).trans (by rw [eh12]; exact mm_pa_same _ _ _ _))) (by omega)
        refine mm_cVv (rest := []) C1 ev_X12_423 (mm_dec dk_X12_rules 79 rfl) (c_X12_goes_q x.2.1 hl (d - 1) (by omega) h12 i12 ) rfl rfl (Nat.le_of_ble_eq_true rfl) ⟨by decide, by decide⟩ rfl (fun h128c hp128 => ?_) (fun _ _ q => q.elim)
        obtain ⟨i128c, g128c, y128_0, y128_1, y128_2, y128_3, y128_4⟩ := hp128
        have f128c : mm_fr [(66, 0), (66, 56), (66, 57), (66, 58), (66, 59), (66, 60), (66, 61), (66, 62), (66, 63), (66, 64), (66, 65), (66, 66), (66, 67), (66, 68), (66, 69), (66, 70), (66, 71)] [102, 103, 104, 105, 106, 107, 108, 109] h h128c := mm_fr_tr f12 g128c (by decide +kernel)
        have q128c_263 : h128c.1 66 0 = h12.1 66 0 := g128c.1 66 0 (by decide)
        have q128c_264 : h128c.1 66 56 = h12.1 66 56 := g128c.1 66 56 (by decide)
        have q128c_265 : h128c.1 66 57 = h12.1 66 57 := g128c.1 66 57 (by decide)
        have q128c_266 : h128c.1 66 58 = h12.1 66 58 := g128c.1 66 58 (by decide)
        have q128c_267 : h128c.1 66 59 = h12.1 66 59 := g128c.1 66 59 (by decide)
        have q128c_268 : h128c.1 66 67 = h12.1 66 67 := g128c.1 66 67 (by decide)
        have q128c_269 : h128c.1 66 68 = h12.1 66 68 := g128c.1 66 68 (by decide)
        have q128c_270 : h128c.1 66 69 = h12.1 66 69 := g128c.1 66 69 (by decide)
        have q128c_271 : h128c.1 66 70 = h12.1 66 70 := g128c.1 66 70 (by decide)
        have q128c_272 : h128c.1 66 71 = h12.1 66 71 := g128c.1 66 71 (by decide)
        have g273 : 0 ≤ (h128c.1 66 62) ∧ (h128c.1 66 62) ≤ 500 := i128c.1 66 62
        have g274 : 0 ≤ (h128c.1 66 60) ∧ (h128c.1 66 60) ≤ 500 := i128c.1 66 60
        have g275 : -2147483648 ≤ (h128c.1 66 61) ∧ (h128c.1 66 61) ≤ 2147483647 := i128c.1 66 61
        have g276 : -2147483648 ≤ (h128c.1 66 65) ∧ (h128c.1 66 65) ≤ 2147483647 := i128c.1 66 65
        refine mm_fgt 1 ?_
        exact J131 (((2 * (500 - h128c.1 66 62) + (if h128c.1 66 57 = 0 then 1 else 0)) : Int) + 1).toNat h128c i128c f128c (by first | exact mm_rn_tr w131_0 y147_0 | exact mm_rn_init g128c (by omega) z3 y128_1 y128_2 (by omega)) (by omega) (by omega) (by omega) (by omega) (by omega) (by first | exact mm_R9_s w131_6 (by omega) y147_2 (fun q => by omega) | exact mm_R9_0 y128_3 ⟨fun j => f128c.2 101 (by decide) j, by omega⟩ (fun j w => by rw [g128c.2 102 (by decide), eh12, mm_pa_j 102 (by omega), eh11, mm_pa_j 102 (by omega), eh10, mm_pa_j 102 (by omega)]; exact (mm_sm_pa 102 eh9 (by decide) j).trans ((mm_sm_pf 102 eh8 j).trans ((mm_sm_pf 102 eh7 j).trans ((mm_sm_pf 102 eh6 j).trans ((mm_sm_pf 102 eh5 j).trans ((mm_sm_pf 102 eh4 j).trans ((mm_sm_pf 102 eh3 j).trans ((g24c.2 102 (by decide) j).trans (mm_sm_pf 102 eh1 j))))))))) (by omega) (by omega) (by rw [y128_4]; unfold mm_UY; rw [show h12.1 66 59 = p1 by omega, show h12.1 66 60 = 0 by omega, show h12.2.1 101 = h.2.1 101 from funext (f12.2 101 (by decide))]) ((g128c.2 103 (by decide) _).trans z3) ((g128c.2 102 (by decide) _).trans (by rw [eh12, mm_pa_j 102 (by omega), eh11, mm_pa_j 102 (by omega), eh10]; exact mm_pa_same _ _ _ _)) ((g128c.2 102 (by decide) _).trans (by rw [eh12, mm_pa_j 102 (by omega), eh11]; exact mm_pa_same _ _ _ _)) ((g128c.2 102 (by decide) _).trans (by rw [eh12]; exact mm_pa_same _ _ _ _))) (by omega)
      refine mm_if_eq (tgt := 63) C (mm_dec dk_X12_rules 29 rfl) (by decide) (fun c51 => ?_) (fun c51 => ?_)
      · skip
        refine mm_iconst C (mm_dec dk_X12_rules 35 rfl) ⟨by decide, by decide⟩ ?_
        exact J64 0 ⟨by omega, by omega⟩ (by omega) (by omega) (by omega) (by omega)
      · skip
        refine mm_iconst C (mm_dec dk_X12_rules 30 rfl) ⟨by decide, by decide⟩ ?_
        refine mm_aload_n C (mm_dec dk_X12_rules 31 rfl) rfl ?_
        refine mm_geti C fl_X12_454 (mm_dec dk_X12_rules 32 rfl) rfl rfl (Or.inl rfl) ?_
        refine mm_isub C (mm_dec dk_X12_rules 33 rfl) ⟨by omega, by omega⟩ ?_
        refine mm_goto (tgt := 64) C (mm_dec dk_X12_rules 34 rfl) (by decide) ?_
        exact J64 (1 - (h5.1 66 68)) ⟨by omega, by omega⟩ (by omega) (by omega) (by omega) (by omega)
    · skip
      refine mm_iconst C (mm_dec dk_X12_rules 16 rfl) ⟨by decide, by decide⟩ ?_
      exact mm_iret C T (mm_dec dk_X12_rules 17 rfl) (by decide : 0 ≤ 0) (by decide : 0 ≤ 0) ⟨_, rfl, ⟨⟨by omega, by omega⟩, i24c, f24c, by first | exact mm_RO_fr t0 f24c (by decide) | exact mm_RO_new w131_0 (by omega) (by omega) eh13 eh14 | exact mm_RO_bk i0 t0 (mm_bk_tr zbk w131_0.1) (by omega) (by omega) (by omega) | exact mm_RO_fr (mm_RO_fr (wf := [(66, 0)]) (wa := []) (h2 := h1) t0 (by rw [eh1]; exact mm_fr_pf mm_fr_rf (by decide)) (by decide)) g24c (by decide), by omega, by first | exact Or.inr ⟨by omega, by omega, rfl, by omega, fun w a b => mm_pr_sm (fun j => (g24c.2 102 (by decide) j).trans (mm_sm_pf 102 eh1 j)) (by omega) (by omega)⟩ | exact Or.inl ⟨by omega, by omega, Or.inr ⟨by omega, by have z := w131_6.2.2.2.2 (by omega); exact z, fun w a b => mm_pr_old w131_6.2.2.1 (by omega) (by omega) (by omega) ⟨a, b⟩⟩⟩ | exact Or.inl ⟨by omega, by omega, Or.inl ⟨rfl, by have z := (w131_6.2.2.2.1 (by omega)).1; omega, _, mm_R9_end w131_6 (by omega) (by have zz := mm_hd9x tf131; omega), fun w a b => (mm_pr_new (by omega) ⟨a, b⟩).trans (by rw [show h24c.1 66 68 = s64_0 by omega, mm_PY_eq (h := h131_) (fun j => by rw [eh14, eh13]; rfl)])⟩⟩⟩⟩
  have J22 : ∀ (w22_0 : (p1 < 0 ∨ h.1 66 56 < p1)) (w22_1 : h1.1 66 56 = h.1 66 56) (w22_2 : h1.1 66 0 = 0), mm_W x 0 0 22 [mR 66, mI p1, mU] [mR 66] h1 := by
    intro w22_0 w22_1 w22_2
    refine mm_iconst C (mm_dec dk_X12_rules 12 rfl) ⟨by decide, by decide⟩ ?_
    exact J23 0 ⟨by omega, by omega⟩ (by omega) (by omega) (by omega) (Or.inl rfl)
  refine mm_if_lt (tgt := 22) C (mm_dec dk_X12_rules 5 rfl) (by decide) (fun c7 => ?_) (fun c7 => ?_)
  · skip
    exact J22 (by omega) (by omega) (by omega)
  · skip
    refine mm_iload_n C (mm_dec dk_X12_rules 6 rfl) rfl ?_
    refine mm_aload_n C (mm_dec dk_X12_rules 7 rfl) rfl ?_
    refine mm_geti C fl_X12_350 (mm_dec dk_X12_rules 8 rfl) rfl rfl (Or.inl rfl) ?_
    refine mm_icmp_gt (tgt := 22) C (mm_dec dk_X12_rules 9 rfl) (by decide) (fun c15 => ?_) (fun c15 => ?_)
    · skip
      exact J22 (by omega) (by omega) (by omega)
    · skip
      refine mm_iconst C (mm_dec dk_X12_rules 10 rfl) ⟨by decide, by decide⟩ ?_
      refine mm_goto (tgt := 23) C (mm_dec dk_X12_rules 11 rfl) (by decide) ?_
      exact J23 1 ⟨by omega, by omega⟩ (by omega) (by omega) (by omega) (Or.inr (⟨by omega, by omega, rfl⟩))
set_option maxRecDepth 100000 in
set_option maxHeartbeats 4000000 in
theorem c_X11_rules_q (l : Launch) (hl : l.stackTraces = false) (d : Nat) (hd : 50 ≤ d) (h : mH) (i0 : mm_inv h) (p1 : Int) : mm_Met l d yX11_rules cX11_rules 3 (some .int) [mR 0, mI p1] h (mm_pi fun r h2 => (-2147483648 ≤ r ∧ r ≤ 2147483647) ∧ mm_inv h2 ∧ mm_fr [(0, 12), (0, 14), (42, 3), (63, 3), (63, 4), (63, 5), (63, 6), (63, 7), (63, 8), (63, 9), (63, 10)] [43, 44, 64, 65] h h2 ∧ (0 ≤ p1 ∧ p1 ≤ h.1 0 12 ∧ h2.1 0 12 = 0) ∧ mm_RC h h2 p1 r (h2.1 0 14)) (fun E h' => mm_xi h E h' ∧ (p1 < 0 ∨ h.1 0 12 < p1)) 1 6 := by
  refine mm_ofW (ls := [mR 0, mI p1, mU]) hl (by decide) rfl (Nat.le_of_ble_eq_true rfl) ?_
  intro x hxl C T hnm htb
  subst hxl
  have C1 := mm_OK_le (d' := d - 1 + 1) (by omega) C
  have C8 := mm_OK_le (d' := d - 8 + 8) (by omega) C
  refine mm_rng (fun hr _ => ?_)
  have ap1 : -2147483648 ≤ p1 ∧ p1 < 2147483648 := mm_ok_at hr (i := 1) rfl
  have f0 : mm_fr [(0, 12), (0, 14), (42, 3), (63, 3), (63, 4), (63, 5), (63, 6), (63, 7), (63, 8), (63, 9), (63, 10)] [43, 44, 64, 65] h h := mm_fr_rf
  have g1 : 0 ≤ h.1 0 12 ∧ h.1 0 12 ≤ 500 := i0.1 0 12
  have g2 : -2147483648 ≤ h.1 0 14 ∧ h.1 0 14 ≤ 2147483647 := i0.1 0 14
  have g3 : -2147483648 ≤ h.1 63 9 ∧ h.1 63 9 ≤ 2147483647 := i0.1 63 9
  have g4 : -2147483648 ≤ h.1 63 10 ∧ h.1 63 10 ≤ 2147483647 := i0.1 63 10
  refine mm_aload_n C (mm_dec dk_X11_rules 0 rfl) rfl ?_
  refine mm_iload_n C (mm_dec dk_X11_rules 1 rfl) rfl ?_
  refine mm_cVv (rest := []) C1 ev_X11_312 (mm_dec dk_X11_rules 2 rfl) (c_X11_needBytes_q x.2.1 hl (d - 1) (by omega) h i0 p1) rfl rfl (Nat.le_of_ble_eq_true rfl) ⟨by decide, by decide⟩ rfl (fun h2c hp2 => ?_) (fun E hx q => mm_out C T htb (by decide) (by decide) (by obtain ⟨q1, q2⟩ := q; exact ⟨q1, by omega⟩))
  obtain ⟨z2, k2_0, k2_1⟩ := hp2
  rw [z2]
  refine mm_aload_n C (mm_dec dk_X11_rules 3 rfl) rfl ?_
  refine mm_getr (t := 63) C fl_X11_94 (mm_dec dk_X11_rules 4 rfl) rfl rfl (mm_ref i0 rfl) ?_
  refine mm_iload_n C (mm_dec dk_X11_rules 5 rfl) rfl ?_
  refine mm_cVi (rest := []) C1 ev_X11_315 (mm_dec dk_X11_rules 6 rfl) (c_X7_read_q x.2.1 hl (d - 1) (by omega) h i0 p1 ⟨by omega, by omega⟩) rfl rfl (Nat.le_of_ble_eq_true rfl) ⟨by decide, by decide⟩ rfl (fun r10 h10c hp10 => ?_) (fun _ _ q => q.elim)
  obtain ⟨b10, i10c, g10c, y10_0, y10_1⟩ := hp10
  have f10c : mm_fr [(0, 12), (0, 14), (42, 3), (63, 3), (63, 4), (63, 5), (63, 6), (63, 7), (63, 8), (63, 9), (63, 10)] [43, 44, 64, 65] h h10c := mm_fr_tr f0 g10c (by decide +kernel)
  have q10c_7 : h10c.1 0 12 = h.1 0 12 := g10c.1 0 12 (by decide)
  have q10c_8 : h10c.1 0 14 = h.1 0 14 := g10c.1 0 14 (by decide)
  have g9 : -2147483648 ≤ (h10c.1 63 9) ∧ (h10c.1 63 9) ≤ 2147483647 := i10c.1 63 9
  have g10 : -2147483648 ≤ (h10c.1 63 10) ∧ (h10c.1 63 10) ≤ 2147483647 := i10c.1 63 10
  have z44 : ∀ w, h10c.2.1 44 w = h.2.1 44 w := fun w => g10c.2 44 (by decide) w
  refine mm_istore_nL (ls2 := [mR 0, mI p1, mI r10]) C (mm_dec dk_X11_rules 7 rfl) (by decide) rfl ?_
  refine mm_aload_n C (mm_dec dk_X11_rules 8 rfl) rfl ?_
  refine mm_iconst C (mm_dec dk_X11_rules 9 rfl) ⟨by decide, by decide⟩ ?_
  refine mm_puti C fl_X11_98 (mm_dec dk_X11_rules 10 rfl) rfl rfl rfl (Or.inl ⟨rfl, rfl⟩) ?_
  have i2 : mm_inv (mm_pf h10c 0 12 0) := mm_inv_pf i10c (show 0 ≤ 0 ∧ 0 ≤ 500 from ⟨by omega, by omega⟩) (by decide)
  have f2 : mm_fr [(0, 12), (0, 14), (42, 3), (63, 3), (63, 4), (63, 5), (63, 6), (63, 7), (63, 8), (63, 9), (63, 10)] [43, 44, 64, 65] h (mm_pf h10c 0 12 0) := mm_fr_pf f10c (by decide)
  obtain ⟨h2, eh2⟩ : ∃ z, z = mm_pf h10c 0 12 0 := ⟨_, rfl⟩
  rw [← eh2] at i2 f2 ⊢
  have qh2 : h2.1 0 12 = 0 := by rw [eh2]; exact mm_pf_same _ _ _ _
  have qh2_11 : h2.1 0 14 = h10c.1 0 14 := by rw [eh2]; exact mm_pf_ne _ _ (by decide)
  have qh2_12 : h2.1 63 9 = h10c.1 63 9 := by rw [eh2]; exact mm_pf_ne _ _ (by decide)
  have qh2_13 : h2.1 63 10 = h10c.1 63 10 := by rw [eh2]; exact mm_pf_ne _ _ (by decide)
  refine mm_aload_n C (mm_dec dk_X11_rules 11 rfl) rfl ?_
  refine mm_aload_n C (mm_dec dk_X11_rules 12 rfl) rfl ?_
  refine mm_getr (t := 63) C fl_X11_94 (mm_dec dk_X11_rules 13 rfl) rfl rfl (mm_ref i2 rfl) ?_
  refine mm_cVi (rest := [mR 0]) C1 ev_X11_318 (mm_dec dk_X11_rules 14 rfl) (c_X7_faultAt x.2.1 hl (d - 1) (by omega) h2 i2 ) rfl rfl (Nat.le_of_ble_eq_true rfl) ⟨by decide, by decide⟩ rfl (fun r24 h24c hp24 => ?_) (fun _ _ q => q.elim)
  obtain ⟨z24, y24⟩ := hp24
  rw [z24, y24]
  refine mm_puti C fl_X11_105 (mm_dec dk_X11_rules 15 rfl) rfl rfl rfl (Or.inl ⟨rfl, rfl⟩) ?_
  have i3 : mm_inv (mm_pf h2 0 14 (h2.1 63 10)) := mm_inv_pf i2 (show -2147483648 ≤ (h2.1 63 10) ∧ (h2.1 63 10) ≤ 2147483647 from ⟨by omega, by omega⟩) (by decide)
  have f3 : mm_fr [(0, 12), (0, 14), (42, 3), (63, 3), (63, 4), (63, 5), (63, 6), (63, 7), (63, 8), (63, 9), (63, 10)] [43, 44, 64, 65] h (mm_pf h2 0 14 (h2.1 63 10)) := mm_fr_pf f2 (by decide)
  obtain ⟨h3, eh3⟩ : ∃ z, z = mm_pf h2 0 14 (h2.1 63 10) := ⟨_, rfl⟩
  rw [← eh3] at i3 f3 ⊢
  have qh3 : h3.1 0 14 = (h2.1 63 10) := by rw [eh3]; exact mm_pf_same _ _ _ _
  have qh3_15 : h3.1 0 12 = h2.1 0 12 := by rw [eh3]; exact mm_pf_ne _ _ (by decide)
  have qh3_16 : h3.1 63 9 = h2.1 63 9 := by rw [eh3]; exact mm_pf_ne _ _ (by decide)
  have qh3_17 : h3.1 63 10 = h2.1 63 10 := by rw [eh3]; exact mm_pf_ne _ _ (by decide)
  refine mm_iload_n C (mm_dec dk_X11_rules 16 rfl) rfl ?_
  have J45 : ∀ (h45_ : mH) (i45_ : mm_inv h45_) (f45_ : mm_fr [(0, 12), (0, 14), (42, 3), (63, 3), (63, 4), (63, 5), (63, 6), (63, 7), (63, 8), (63, 9), (63, 10)] [43, 44, 64, 65] h h45_) (w45_0 : h45_.1 0 12 = 0) (w45_1 : mm_RC h h45_ p1 r10 (h45_.1 0 14)), mm_W x 1 6 45 [mU, mU, mI r10] [] h45_ := by
    intro h45_ i45_ f45_ w45_0 w45_1
    have g18 : 0 ≤ h45_.1 0 12 ∧ h45_.1 0 12 ≤ 500 := i45_.1 0 12
    have g19 : -2147483648 ≤ h45_.1 0 14 ∧ h45_.1 0 14 ≤ 2147483647 := i45_.1 0 14
    have g20 : -2147483648 ≤ h45_.1 63 9 ∧ h45_.1 63 9 ≤ 2147483647 := i45_.1 63 9
    have g21 : -2147483648 ≤ h45_.1 63 10 ∧ h45_.1 63 10 ≤ 2147483647 := i45_.1 63 10
    refine mm_iload_n C (mm_dec dk_X11_rules 23 rfl) rfl ?_
    exact mm_iret C T (mm_dec dk_X11_rules 24 rfl) (by decide : 1 ≤ 1) (by decide : 6 ≤ 6) ⟨_, rfl, ⟨⟨by omega, by omega⟩, i45_, f45_, by omega, by exact w45_1⟩⟩
  refine mm_if_ne (tgt := 45) C (mm_dec dk_X11_rules 17 rfl) (by decide) (fun c31 => ?_) (fun c31 => ?_)
  · skip
    refine mm_fgt 0 ?_
    refine mm_fgt 1 ?_
    exact J45 h3 i3 f3 (by omega) (by first | (have z := y10_1.resolve_left (fun q => by have := q.1; omega); exact Or.inr ⟨by omega, (by rw [show h3.1 0 14 = h10c.1 63 10 by omega, y10_0]; exact z.2), fun w => (mm_sm_pf 44 eh3 w).trans ((mm_sm_pf 44 eh2 w).trans (z44 w))⟩) | (have z := y10_1.resolve_right (fun q => by have := q.1; omega); exact Or.inl ⟨by omega, by (have z1 := z.2.1; omega), mm_PX h10c, z.2.2, fun w a b => (y42_0 w a b).trans ((mm_sm_pf 65 eh3 w).trans ((mm_sm_pf 65 eh2 w).trans (if_pos ⟨a, b⟩).symm))⟩))
  · skip
    refine mm_aload_n C (mm_dec dk_X11_rules 18 rfl) rfl ?_
    refine mm_getr (t := 42) C fl_X11_51 (mm_dec dk_X11_rules 19 rfl) rfl rfl (mm_ref i3 rfl) ?_
    refine mm_aload_n C (mm_dec dk_X11_rules 20 rfl) rfl ?_
    refine mm_getr (t := 63) C fl_X11_94 (mm_dec dk_X11_rules 21 rfl) rfl rfl (mm_ref i3 rfl) ?_
    refine mm_cVv (rest := []) C1 ev_X11_320 (mm_dec dk_X11_rules 22 rfl) (c_X8_adopt_63_q x.2.1 hl (d - 1) (by omega) h3 i3 ) rfl rfl (Nat.le_of_ble_eq_true rfl) ⟨by decide, by decide⟩ rfl (fun h42c hp42 => ?_) (fun _ _ q => q.elim)
    obtain ⟨i42c, g42c, y42_0⟩ := hp42
    have f42c : mm_fr [(0, 12), (0, 14), (42, 3), (63, 3), (63, 4), (63, 5), (63, 6), (63, 7), (63, 8), (63, 9), (63, 10)] [43, 44, 64, 65] h h42c := mm_fr_tr f3 g42c (by decide +kernel)
    have q42c_23 : h42c.1 0 12 = h3.1 0 12 := g42c.1 0 12 (by decide)
    have q42c_24 : h42c.1 0 14 = h3.1 0 14 := g42c.1 0 14 (by decide)
    have q42c_25 : h42c.1 63 9 = h3.1 63 9 := g42c.1 63 9 (by decide)
    have q42c_26 : h42c.1 63 10 = h3.1 63 10 := g42c.1 63 10 (by decide)
    refine mm_fgt 0 ?_
    refine mm_fgt 1 ?_
    exact J45 h42c i42c f42c (by omega) (by first | (have z := y10_1.resolve_left (fun q => by have := q.1; omega); exact Or.inr ⟨by omega, (by rw [show h42c.1 0 14 = h10c.1 63 10 by omega, y10_0]; exact z.2), fun w => (mm_sm_pf 44 eh3 w).trans ((mm_sm_pf 44 eh2 w).trans (z44 w))⟩) | (have z := y10_1.resolve_right (fun q => by have := q.1; omega); exact Or.inl ⟨by omega, by (have z1 := z.2.1; omega), mm_PX h10c, z.2.2, fun w a b => (y42_0 w a b).trans ((mm_sm_pf 65 eh3 w).trans ((mm_sm_pf 65 eh2 w).trans (if_pos ⟨a, b⟩).symm))⟩))
