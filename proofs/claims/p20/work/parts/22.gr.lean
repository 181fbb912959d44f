set_option maxRecDepth 100000 in
set_option maxHeartbeats 4000000 in
theorem c_X12_spelled_q (l : Launch) (hl : l.stackTraces = false) (d : Nat) (hd : 0 ≤ d) (h : mH) (i0 : mm_inv h) (p0 : Int) (p1 : Int) (p2 : Int) (p3 : Int) (p4 : Int) (p5 : Int) (p6 : Int) (bp0 : 97 ≤ p0 ∧ p0 ≤ 122) (bp1 : 0 ≤ p1 ∧ p1 ≤ 122) (bp2 : 0 ≤ p2 ∧ p2 ≤ 122) (bp3 : 0 ≤ p3 ∧ p3 ≤ 122) (bp4 : 0 ≤ p4 ∧ p4 ≤ 122) (bp5 : 0 ≤ p5 ∧ p5 ≤ 122) (bp6 : 0 ≤ p6 ∧ p6 ≤ 122) (t0 : 97 ≤ p0 ∧ p0 ≤ 122) (t1 : (p1 = 0 ∨ (97 ≤ p1 ∧ p1 ≤ 122))) (t2 : (p2 = 0 ∨ (97 ≤ p2 ∧ p2 ≤ 122))) (t3 : (p3 = 0 ∨ (97 ≤ p3 ∧ p3 ≤ 122))) (t4 : (p4 = 0 ∨ (97 ≤ p4 ∧ p4 ≤ 122))) (t5 : (p5 = 0 ∨ (97 ≤ p5 ∧ p5 ≤ 122))) (t6 : (p6 = 0 ∨ (97 ≤ p6 ∧ p6 ≤ 122))) : mm_Met l d yX12_spelled cX12_spelled 9 (some .long) [mI p0, mI p1, mI p2, mI p3, mI p4, mI p5, mI p6] h (mm_pl fun r h2 => h2 = h ∧ r = mm_s1 (mm_s1 (mm_s1 (mm_s1 (mm_s1 (mm_s1 (p0 - 96) p1) p2) p3) p4) p5) p6) mm_nx 0 0 := by
  refine mm_ofW (ls := [mI p0, mI p1, mI p2, mI p3, mI p4, mI p5, mI p6, mU, mU]) hl (by decide) rfl (Nat.le_of_ble_eq_true rfl) ?_
  intro x hxl C T hnm htb
  subst hxl
  refine mm_rng (fun hr _ => ?_)
  have ap0 : -2147483648 ≤ p0 ∧ p0 < 2147483648 := mm_ok_at hr (i := 0) rfl
  have ap1 : -2147483648 ≤ p1 ∧ p1 < 2147483648 := mm_ok_at hr (i := 1) rfl
  have ap2 : -2147483648 ≤ p2 ∧ p2 < 2147483648 := mm_ok_at hr (i := 2) rfl
  have ap3 : -2147483648 ≤ p3 ∧ p3 < 2147483648 := mm_ok_at hr (i := 3) rfl
  have ap4 : -2147483648 ≤ p4 ∧ p4 < 2147483648 := mm_ok_at hr (i := 4) rfl
  have ap5 : -2147483648 ≤ p5 ∧ p5 < 2147483648 := mm_ok_at hr (i := 5) rfl
  have ap6 : -2147483648 ≤ p6 ∧ p6 < 2147483648 := mm_ok_at hr (i := 6) rfl
  have f0 : mm_fr [] [] h h := mm_fr_rf
  have v0 : 0 ≤ p0 - 96 ∧ p0 - 96 < 32 := by omega
  have v1 := mm_s1_rg v0 t1
  have v2 := mm_s1_rg v1 t2
  have v3 := mm_s1_rg v2 t3
  have v4 := mm_s1_rg v3 t4
  have v5 := mm_s1_rg v4 t5
  refine mm_iload_n C (mm_dec dk_X12_spelled 0 rfl) rfl ?_
  refine mm_bipush C (mm_dec dk_X12_spelled 1 rfl) ⟨by decide, by decide⟩ ?_
  refine mm_isub C (mm_dec dk_X12_spelled 2 rfl) ⟨by omega, by omega⟩ ?_
  refine mm_i2l C (mm_dec dk_X12_spelled 3 rfl) ?_
  refine mm_lstoreL (ls2 := [mI p0, mI p1, mI p2, mI p3, mI p4, mI p5, mI p6, mL (p0 - 96), mU]) C (mm_dec dk_X12_spelled 4 rfl) (by decide) rfl ?_
  refine mm_iload_n C (mm_dec dk_X12_spelled 5 rfl) rfl ?_
  have J23 : ∀ (x23_7 : Int) (bx23_7 : -9223372036854775808 ≤ x23_7 ∧ x23_7 < 9223372036854775808) (w23_0 : x23_7 = mm_s1 (p0 - 96) p1), mm_W x 0 0 23 [mU, mU, mI p2, mI p3, mI p4, mI p5, mI p6, mL x23_7, mU] [] h := by
    intro x23_7 bx23_7 w23_0
    refine mm_iload_n C (mm_dec dk_X12_spelled 16 rfl) rfl ?_
    have J39 : ∀ (x39_7 : Int) (bx39_7 : -9223372036854775808 ≤ x39_7 ∧ x39_7 < 9223372036854775808) (w39_0 : x39_7 = mm_s1 (mm_s1 (p0 - 96) p1) p2), mm_W x 0 0 39 [mU, mU, mU, mI p3, mI p4, mI p5, mI p6, mL x39_7, mU] [] h := by
      intro x39_7 bx39_7 w39_0
      refine mm_iload_n C (mm_dec dk_X12_spelled 27 rfl) rfl ?_
      have J55 : ∀ (x55_7 : Int) (bx55_7 : -9223372036854775808 ≤ x55_7 ∧ x55_7 < 9223372036854775808) (w55_0 : x55_7 = mm_s1 (mm_s1 (mm_s1 (p0 - 96) p1) p2) p3), mm_W x 0 0 55 [mU, mU, mU, mU, mI p4, mI p5, mI p6, mL x55_7, mU] [] h := by
        intro x55_7 bx55_7 w55_0
        refine mm_iload C (mm_dec dk_X12_spelled 38 rfl) rfl ?_
        have J73 : ∀ (x73_7 : Int) (bx73_7 : -9223372036854775808 ≤ x73_7 ∧ x73_7 < 9223372036854775808) (w73_0 : x73_7 = mm_s1 (mm_s1 (mm_s1 (mm_s1 (p0 - 96) p1) p2) p3) p4), mm_W x 0 0 73 [mU, mU, mU, mU, mU, mI p5, mI p6, mL x73_7, mU] [] h := by
          intro x73_7 bx73_7 w73_0
          refine mm_iload C (mm_dec dk_X12_spelled 49 rfl) rfl ?_
          have J91 : ∀ (x91_7 : Int) (bx91_7 : -9223372036854775808 ≤ x91_7 ∧ x91_7 < 9223372036854775808) (w91_0 : x91_7 = mm_s1 (mm_s1 (mm_s1 (mm_s1 (mm_s1 (p0 - 96) p1) p2) p3) p4) p5), mm_W x 0 0 91 [mU, mU, mU, mU, mU, mU, mI p6, mL x91_7, mU] [] h := by
            intro x91_7 bx91_7 w91_0
            refine mm_iload C (mm_dec dk_X12_spelled 60 rfl) rfl ?_
            have J109 : ∀ (x109_7 : Int) (bx109_7 : -9223372036854775808 ≤ x109_7 ∧ x109_7 < 9223372036854775808) (w109_0 : x109_7 = mm_s1 (mm_s1 (mm_s1 (mm_s1 (mm_s1 (mm_s1 (p0 - 96) p1) p2) p3) p4) p5) p6), mm_W x 0 0 109 [mU, mU, mU, mU, mU, mU, mU, mL x109_7, mU] [] h := by
              intro x109_7 bx109_7 w109_0
              refine mm_lload C (mm_dec dk_X12_spelled 71 rfl) rfl ?_
              exact mm_lret C T (mm_dec dk_X12_spelled 72 rfl) (by decide : 0 ≤ 0) (by decide : 0 ≤ 0) ⟨_, rfl, ⟨rfl, by exact w109_0⟩⟩
            refine mm_if_eq (tgt := 109) C (mm_dec dk_X12_spelled 61 rfl) (by decide) (fun c93 => ?_) (fun c93 => ?_)
            · skip
              refine mm_fgt 6 ?_
              exact J109 x91_7 (by first | assumption | exact ⟨by omega, by omega⟩) (by first | exact mm_s1_y w91_0 (by omega) t6 (by omega) (by assumption) (by assumption) | exact mm_s1_n w91_0 (by omega))
            · skip
              refine mm_lload C (mm_dec dk_X12_spelled 62 rfl) rfl ?_
              refine mm_iconst C (mm_dec dk_X12_spelled 63 rfl) ⟨by decide, by decide⟩ ?_
              refine mm_lshl C (mm_dec dk_X12_spelled 64 rfl) ?_
              have g1 : -9223372036854775808 ≤ (mm_vlshl x91_7 5) ∧ (mm_vlshl x91_7 5) < 9223372036854775808 := mm_rng64 _
              obtain ⟨y1, ey1⟩ : ∃ z, z = (mm_vlshl x91_7 5) := ⟨_, rfl⟩
              rw [← ey1] at g1 ⊢
              skip
              refine mm_iload C (mm_dec dk_X12_spelled 65 rfl) rfl ?_
              refine mm_bipush C (mm_dec dk_X12_spelled 66 rfl) ⟨by decide, by decide⟩ ?_
              refine mm_isub C (mm_dec dk_X12_spelled 67 rfl) ⟨by omega, by omega⟩ ?_
              refine mm_i2l C (mm_dec dk_X12_spelled 68 rfl) ?_
              refine mm_lor C (mm_dec dk_X12_spelled 69 rfl) ?_
              have g2 : -9223372036854775808 ≤ (mm_vlor y1 (p6 - 96)) ∧ (mm_vlor y1 (p6 - 96)) < 9223372036854775808 := mm_rng64 _
              obtain ⟨y2, ey2⟩ : ∃ z, z = (mm_vlor y1 (p6 - 96)) := ⟨_, rfl⟩
              rw [← ey2] at g2 ⊢
              skip
              refine mm_lstoreL (ls2 := [mU, mU, mU, mU, mU, mU, mI p6, mL y2, mU]) C (mm_dec dk_X12_spelled 70 rfl) (by decide) rfl ?_
              refine mm_fgt 6 ?_
              exact J109 y2 (by first | assumption | exact ⟨by omega, by omega⟩) (by first | exact mm_s1_y w91_0 (by omega) t6 (by omega) (by assumption) (by assumption) | exact mm_s1_n w91_0 (by omega))
          refine mm_if_eq (tgt := 91) C (mm_dec dk_X12_spelled 50 rfl) (by decide) (fun c75 => ?_) (fun c75 => ?_)
          · skip
            refine mm_fgt 5 ?_
            exact J91 x73_7 (by first | assumption | exact ⟨by omega, by omega⟩) (by first | exact mm_s1_y w73_0 (by omega) t5 (by omega) (by assumption) (by assumption) | exact mm_s1_n w73_0 (by omega))
          · skip
            refine mm_lload C (mm_dec dk_X12_spelled 51 rfl) rfl ?_
            refine mm_iconst C (mm_dec dk_X12_spelled 52 rfl) ⟨by decide, by decide⟩ ?_
            refine mm_lshl C (mm_dec dk_X12_spelled 53 rfl) ?_
            have g3 : -9223372036854775808 ≤ (mm_vlshl x73_7 5) ∧ (mm_vlshl x73_7 5) < 9223372036854775808 := mm_rng64 _
            obtain ⟨y3, ey3⟩ : ∃ z, z = (mm_vlshl x73_7 5) := ⟨_, rfl⟩
            rw [← ey3] at g3 ⊢
            skip
            refine mm_iload C (mm_dec dk_X12_spelled 54 rfl) rfl ?_
            refine mm_bipush C (mm_dec dk_X12_spelled 55 rfl) ⟨by decide, by decide⟩ ?_
            refine mm_isub C (mm_dec dk_X12_spelled 56 rfl) ⟨by omega, by omega⟩ ?_
            refine mm_i2l C (mm_dec dk_X12_spelled 57 rfl) ?_
            refine mm_lor C (mm_dec dk_X12_spelled 58 rfl) ?_
            have g4 : -9223372036854775808 ≤ (mm_vlor y3 (p5 - 96)) ∧ (mm_vlor y3 (p5 - 96)) < 9223372036854775808 := mm_rng64 _
            obtain ⟨y4, ey4⟩ : ∃ z, z = (mm_vlor y3 (p5 - 96)) := ⟨_, rfl⟩
            rw [← ey4] at g4 ⊢
            skip
            refine mm_lstoreL (ls2 := [mU, mU, mU, mU, mU, mI p5, mI p6, mL y4, mU]) C (mm_dec dk_X12_spelled 59 rfl) (by decide) rfl ?_
            refine mm_fgt 5 ?_
            exact J91 y4 (by first | assumption | exact ⟨by omega, by omega⟩) (by first | exact mm_s1_y w73_0 (by omega) t5 (by omega) (by assumption) (by assumption) | exact mm_s1_n w73_0 (by omega))
        refine mm_if_eq (tgt := 73) C (mm_dec dk_X12_spelled 39 rfl) (by decide) (fun c57 => ?_) (fun c57 => ?_)
        · skip
          refine mm_fgt 4 ?_
          exact J73 x55_7 (by first | assumption | exact ⟨by omega, by omega⟩) (by first | exact mm_s1_y w55_0 (by omega) t4 (by omega) (by assumption) (by assumption) | exact mm_s1_n w55_0 (by omega))
        · skip
          refine mm_lload C (mm_dec dk_X12_spelled 40 rfl) rfl ?_
          refine mm_iconst C (mm_dec dk_X12_spelled 41 rfl) ⟨by decide, by decide⟩ ?_
          refine mm_lshl C (mm_dec dk_X12_spelled 42 rfl) ?_
          have g5 : -9223372036854775808 ≤ (mm_vlshl x55_7 5) ∧ (mm_vlshl x55_7 5) < 9223372036854775808 := mm_rng64 _
          obtain ⟨y5, ey5⟩ : ∃ z, z = (mm_vlshl x55_7 5) := ⟨_, rfl⟩
          rw [← ey5] at g5 ⊢
          skip
          refine mm_iload C (mm_dec dk_X12_spelled 43 rfl) rfl ?_
          refine mm_bipush C (mm_dec dk_X12_spelled 44 rfl) ⟨by decide, by decide⟩ ?_
          refine mm_isub C (mm_dec dk_X12_spelled 45 rfl) ⟨by omega, by omega⟩ ?_
          refine mm_i2l C (mm_dec dk_X12_spelled 46 rfl) ?_
          refine mm_lor C (mm_dec dk_X12_spelled 47 rfl) ?_
          have g6 : -9223372036854775808 ≤ (mm_vlor y5 (p4 - 96)) ∧ (mm_vlor y5 (p4 - 96)) < 9223372036854775808 := mm_rng64 _
          obtain ⟨y6, ey6⟩ : ∃ z, z = (mm_vlor y5 (p4 - 96)) := ⟨_, rfl⟩
          rw [← ey6] at g6 ⊢
          skip
          refine mm_lstoreL (ls2 := [mU, mU, mU, mU, mI p4, mI p5, mI p6, mL y6, mU]) C (mm_dec dk_X12_spelled 48 rfl) (by decide) rfl ?_
          refine mm_fgt 4 ?_
          exact J73 y6 (by first | assumption | exact ⟨by omega, by omega⟩) (by first | exact mm_s1_y w55_0 (by omega) t4 (by omega) (by assumption) (by assumption) | exact mm_s1_n w55_0 (by omega))
      refine mm_if_eq (tgt := 55) C (mm_dec dk_X12_spelled 28 rfl) (by decide) (fun c40 => ?_) (fun c40 => ?_)
      · skip
        refine mm_fgt 3 ?_
        exact J55 x39_7 (by first | assumption | exact ⟨by omega, by omega⟩) (by first | exact mm_s1_y w39_0 (by omega) t3 (by omega) (by assumption) (by assumption) | exact mm_s1_n w39_0 (by omega))
      · skip
        refine mm_lload C (mm_dec dk_X12_spelled 29 rfl) rfl ?_
        refine mm_iconst C (mm_dec dk_X12_spelled 30 rfl) ⟨by decide, by decide⟩ ?_
        refine mm_lshl C (mm_dec dk_X12_spelled 31 rfl) ?_
        have g7 : -9223372036854775808 ≤ (mm_vlshl x39_7 5) ∧ (mm_vlshl x39_7 5) < 9223372036854775808 := mm_rng64 _
        obtain ⟨y7, ey7⟩ : ∃ z, z = (mm_vlshl x39_7 5) := ⟨_, rfl⟩
        rw [← ey7] at g7 ⊢
        skip
        refine mm_iload_n C (mm_dec dk_X12_spelled 32 rfl) rfl ?_
        refine mm_bipush C (mm_dec dk_X12_spelled 33 rfl) ⟨by decide, by decide⟩ ?_
        refine mm_isub C (mm_dec dk_X12_spelled 34 rfl) ⟨by omega, by omega⟩ ?_
        refine mm_i2l C (mm_dec dk_X12_spelled 35 rfl) ?_
        refine mm_lor C (mm_dec dk_X12_spelled 36 rfl) ?_
        have g8 : -9223372036854775808 ≤ (mm_vlor y7 (p3 - 96)) ∧ (mm_vlor y7 (p3 - 96)) < 9223372036854775808 := mm_rng64 _
        obtain ⟨y8, ey8⟩ : ∃ z, z = (mm_vlor y7 (p3 - 96)) := ⟨_, rfl⟩
        rw [← ey8] at g8 ⊢
        skip
        refine mm_lstoreL (ls2 := [mU, mU, mU, mI p3, mI p4, mI p5, mI p6, mL y8, mU]) C (mm_dec dk_X12_spelled 37 rfl) (by decide) rfl ?_
        refine mm_fgt 3 ?_
        exact J55 y8 (by first | assumption | exact ⟨by omega, by omega⟩) (by first | exact mm_s1_y w39_0 (by omega) t3 (by omega) (by assumption) (by assumption) | exact mm_s1_n w39_0 (by omega))
    refine mm_if_eq (tgt := 39) C (mm_dec dk_X12_spelled 17 rfl) (by decide) (fun c24 => ?_) (fun c24 => ?_)
    · skip
      refine mm_fgt 2 ?_
      exact J39 x23_7 (by first | assumption | exact ⟨by omega, by omega⟩) (by first | exact mm_s1_y w23_0 (by omega) t2 (by omega) (by assumption) (by assumption) | exact mm_s1_n w23_0 (by omega))
    · skip
      refine mm_lload C (mm_dec dk_X12_spelled 18 rfl) rfl ?_
      refine mm_iconst C (mm_dec dk_X12_spelled 19 rfl) ⟨by decide, by decide⟩ ?_
      refine mm_lshl C (mm_dec dk_X12_spelled 20 rfl) ?_
      have g9 : -9223372036854775808 ≤ (mm_vlshl x23_7 5) ∧ (mm_vlshl x23_7 5) < 9223372036854775808 := mm_rng64 _
      obtain ⟨y9, ey9⟩ : ∃ z, z = (mm_vlshl x23_7 5) := ⟨_, rfl⟩
      rw [← ey9] at g9 ⊢
      skip
      refine mm_iload_n C (mm_dec dk_X12_spelled 21 rfl) rfl ?_
      refine mm_bipush C (mm_dec dk_X12_spelled 22 rfl) ⟨by decide, by decide⟩ ?_
      refine mm_isub C (mm_dec dk_X12_spelled 23 rfl) ⟨by omega, by omega⟩ ?_
      refine mm_i2l C (mm_dec dk_X12_spelled 24 rfl) ?_
      refine mm_lor C (mm_dec dk_X12_spelled 25 rfl) ?_
      have g10 : -9223372036854775808 ≤ (mm_vlor y9 (p2 - 96)) ∧ (mm_vlor y9 (p2 - 96)) < 9223372036854775808 := mm_rng64 _
      obtain ⟨y10, ey10⟩ : ∃ z, z = (mm_vlor y9 (p2 - 96)) := ⟨_, rfl⟩
      rw [← ey10] at g10 ⊢
      skip
      refine mm_lstoreL (ls2 := [mU, mU, mI p2, mI p3, mI p4, mI p5, mI p6, mL y10, mU]) C (mm_dec dk_X12_spelled 26 rfl) (by decide) rfl ?_
      refine mm_fgt 2 ?_
      exact J39 y10 (by first | assumption | exact ⟨by omega, by omega⟩) (by first | exact mm_s1_y w23_0 (by omega) t2 (by omega) (by assumption) (by assumption) | exact mm_s1_n w23_0 (by omega))
  refine mm_if_eq (tgt := 23) C (mm_dec dk_X12_spelled 6 rfl) (by decide) (fun c8 => ?_) (fun c8 => ?_)
  · skip
    refine mm_fgt 0 ?_
    refine mm_fgt 1 ?_
    exact J23 (p0 - 96) (by first | assumption | exact ⟨by omega, by omega⟩) (by first | exact mm_s1_y rfl (by omega) t1 (by omega) (by assumption) (by assumption) | exact mm_s1_n rfl (by omega))
  · skip
    refine mm_lload C (mm_dec dk_X12_spelled 7 rfl) rfl ?_
    refine mm_iconst C (mm_dec dk_X12_spelled 8 rfl) ⟨by decide, by decide⟩ ?_
    refine mm_lshl C (mm_dec dk_X12_spelled 9 rfl) ?_
    have g11 : -9223372036854775808 ≤ (mm_vlshl (p0 - 96) 5) ∧ (mm_vlshl (p0 - 96) 5) < 9223372036854775808 := mm_rng64 _
    obtain ⟨y11, ey11⟩ : ∃ z, z = (mm_vlshl (p0 - 96) 5) := ⟨_, rfl⟩
    rw [← ey11] at g11 ⊢
    skip
    refine mm_iload_n C (mm_dec dk_X12_spelled 10 rfl) rfl ?_
    refine mm_bipush C (mm_dec dk_X12_spelled 11 rfl) ⟨by decide, by decide⟩ ?_
    refine mm_isub C (mm_dec dk_X12_spelled 12 rfl) ⟨by omega, by omega⟩ ?_
    refine mm_i2l C (mm_dec dk_X12_spelled 13 rfl) ?_
    refine mm_lor C (mm_dec dk_X12_spelled 14 rfl) ?_
    have g12 : -9223372036854775808 ≤ (mm_vlor y11 (p1 - 96)) ∧ (mm_vlor y11 (p1 - 96)) < 9223372036854775808 := mm_rng64 _
    obtain ⟨y12, ey12⟩ : ∃ z, z = (mm_vlor y11 (p1 - 96)) := ⟨_, rfl⟩
    rw [← ey12] at g12 ⊢
    skip
    refine mm_lstoreL (ls2 := [mI p0, mI p1, mI p2, mI p3, mI p4, mI p5, mI p6, mL y12, mU]) C (mm_dec dk_X12_spelled 15 rfl) (by decide) rfl ?_
    refine mm_fgt 0 ?_
    refine mm_fgt 1 ?_
    exact J23 y12 (by first | assumption | exact ⟨by omega, by omega⟩) (by first | exact mm_s1_y rfl (by omega) t1 (by omega) (by assumption) (by assumption) | exact mm_s1_n rfl (by omega))
set_option maxRecDepth 100000 in
set_option maxHeartbeats 4000000 in
theorem c_X12_known_q (l : Launch) (hl : l.stackTraces = false) (d : Nat) (hd : 1 ≤ d) (h : mH) (i0 : mm_inv h) (p0 : Int) (bp0 : 0 ≤ p0 ∧ p0 ≤ 16) : mm_Met l d yX12_known cX12_known 1 (some .long) [mI p0] h (mm_pl fun r h2 => h2 = h ∧ r = mm_ky p0) mm_nx 0 0 := by
  refine mm_ofW (ls := [mI p0]) hl (by decide) rfl (Nat.le_of_ble_eq_true rfl) ?_
  intro x hxl C T hnm htb
  subst hxl
  have C1 := mm_OK_le (d' := d - 1 + 1) (by omega) C
  refine mm_rng (fun hr _ => ?_)
  have ap0 : -2147483648 ≤ p0 ∧ p0 < 2147483648 := mm_ok_at hr (i := 0) rfl
  have f0 : mm_fr [] [] h h := mm_fr_rf
  refine mm_iload_n C (mm_dec dk_X12_known 0 rfl) rfl ?_
  refine mm_table (t0 := 325) [80, 98, 112, 129, 143, 157, 170, 184, 200, 214, 231, 248, 264, 278, 294, 310] C (mm_dec dk_X12_known 1 rfl) (by decide) (by decide) (by decide +kernel) (fun c1 => ?_) (fun k1 hk1 c1 => ?_)
  · skip
    refine mm_bipush C (mm_dec dk_X12_known 146 rfl) ⟨by decide, by decide⟩ ?_
    refine mm_bipush C (mm_dec dk_X12_known 147 rfl) ⟨by decide, by decide⟩ ?_
    refine mm_bipush C (mm_dec dk_X12_known 148 rfl) ⟨by decide, by decide⟩ ?_
    refine mm_bipush C (mm_dec dk_X12_known 149 rfl) ⟨by decide, by decide⟩ ?_
    refine mm_iconst C (mm_dec dk_X12_known 150 rfl) ⟨by decide, by decide⟩ ?_
    refine mm_iconst C (mm_dec dk_X12_known 151 rfl) ⟨by decide, by decide⟩ ?_
    refine mm_iconst C (mm_dec dk_X12_known 152 rfl) ⟨by decide, by decide⟩ ?_
    refine mm_cSl (rest := []) C1 es_X12_390 (mm_dec dk_X12_known 153 rfl) (c_X12_spelled_q x.2.1 hl (d - 1) (by omega) h i0 102 114 101 101 0 0 0 ⟨by omega, by omega⟩ ⟨by omega, by omega⟩ ⟨by omega, by omega⟩ ⟨by omega, by omega⟩ ⟨by omega, by omega⟩ ⟨by omega, by omega⟩ ⟨by omega, by omega⟩ (by omega) (by omega) (by omega) (by omega) (by omega) (by omega) (by omega)) rfl (Nat.le_of_ble_eq_true rfl) ⟨by decide, by decide⟩ rfl (fun r336 h336c hp336 => ?_) (fun _ _ q => q.elim)
    obtain ⟨z336, y336_0⟩ := hp336
    rw [z336]
    refine mm_rng (fun _ ho => ?_)
    have b336 : -9223372036854775808 ≤ r336 ∧ r336 < 9223372036854775808 := mm_ok_hd ho
    exact mm_lret C T (mm_dec dk_X12_known 154 rfl) (by decide : 0 ≤ 0) (by decide : 0 ≤ 0) ⟨_, rfl, ⟨rfl, by first | (rw [show p0 = 0 by omega]; exact y94_0.trans (by decide +kernel)) | (rw [show p0 = 1 by omega]; exact y108_0.trans (by decide +kernel)) | (rw [show p0 = 2 by omega]; exact y125_0.trans (by decide +kernel)) | (rw [show p0 = 3 by omega]; exact y139_0.trans (by decide +kernel)) | (rw [show p0 = 4 by omega]; exact y153_0.trans (by decide +kernel)) | (rw [show p0 = 5 by omega]; exact y166_0.trans (by decide +kernel)) | (rw [show p0 = 6 by omega]; exact y180_0.trans (by decide +kernel)) | (rw [show p0 = 7 by omega]; exact y196_0.trans (by decide +kernel)) | (rw [show p0 = 8 by omega]; exact y210_0.trans (by decide +kernel)) | (rw [show p0 = 9 by omega]; exact y227_0.trans (by decide +kernel)) | (rw [show p0 = 10 by omega]; exact y244_0.trans (by decide +kernel)) | (rw [show p0 = 11 by omega]; exact y260_0.trans (by decide +kernel)) | (rw [show p0 = 12 by omega]; exact y274_0.trans (by decide +kernel)) | (rw [show p0 = 13 by omega]; exact y290_0.trans (by decide +kernel)) | (rw [show p0 = 14 by omega]; exact y306_0.trans (by decide +kernel)) | (rw [show p0 = 15 by omega]; exact y321_0.trans (by decide +kernel)) | (rw [show p0 = 16 by omega]; exact y336_0.trans (by decide +kernel))⟩⟩
  · have hq1 : k1 < 16 := hk1
    rcases (by omega : k1 = 0 ∨ k1 = 1 ∨ k1 = 2 ∨ k1 = 3 ∨ k1 = 4 ∨ k1 = 5 ∨ k1 = 6 ∨ k1 = 7 ∨ k1 = 8 ∨ k1 = 9 ∨ k1 = 10 ∨ k1 = 11 ∨ k1 = 12 ∨ k1 = 13 ∨ k1 = 14 ∨ k1 = 15) with rfl | rfl | rfl | rfl | rfl | rfl | rfl | rfl | rfl | rfl | rfl | rfl | rfl | rfl | rfl | rfl
    · show mm_W x 0 0 80 _ _ _
      refine mm_bipush C (mm_dec dk_X12_known 2 rfl) ⟨by decide, by decide⟩ ?_
      refine mm_bipush C (mm_dec dk_X12_known 3 rfl) ⟨by decide, by decide⟩ ?_
      refine mm_bipush C (mm_dec dk_X12_known 4 rfl) ⟨by decide, by decide⟩ ?_
      refine mm_bipush C (mm_dec dk_X12_known 5 rfl) ⟨by decide, by decide⟩ ?_
      refine mm_bipush C (mm_dec dk_X12_known 6 rfl) ⟨by decide, by decide⟩ ?_
      refine mm_bipush C (mm_dec dk_X12_known 7 rfl) ⟨by decide, by decide⟩ ?_
      refine mm_bipush C (mm_dec dk_X12_known 8 rfl) ⟨by decide, by decide⟩ ?_
      refine mm_cSl (rest := []) C1 es_X12_390 (mm_dec dk_X12_known 9 rfl) (c_X12_spelled_q x.2.1 hl (d - 1) (by omega) h i0 112 101 110 97 108 116 121 ⟨by omega, by omega⟩ ⟨by omega, by omega⟩ ⟨by omega, by omega⟩ ⟨by omega, by omega⟩ ⟨by omega, by omega⟩ ⟨by omega, by omega⟩ ⟨by omega, by omega⟩ (by omega) (by omega) (by omega) (by omega) (by omega) (by omega) (by omega)) rfl (Nat.le_of_ble_eq_true rfl) ⟨by decide, by decide⟩ rfl (fun r94 h94c hp94 => ?_) (fun _ _ q => q.elim)
      obtain ⟨z94, y94_0⟩ := hp94
      rw [z94]
      refine mm_rng (fun _ ho => ?_)
      have b94 : -9223372036854775808 ≤ r94 ∧ r94 < 9223372036854775808 := mm_ok_hd ho
      exact mm_lret C T (mm_dec dk_X12_known 10 rfl) (by decide : 0 ≤ 0) (by decide : 0 ≤ 0) ⟨_, rfl, ⟨rfl, by first | (rw [show p0 = 0 by omega]; exact y94_0.trans (by decide +kernel)) | (rw [show p0 = 1 by omega]; exact y108_0.trans (by decide +kernel)) | (rw [show p0 = 2 by omega]; exact y125_0.trans (by decide +kernel)) | (rw [show p0 = 3 by omega]; exact y139_0.trans (by decide +kernel)) | (rw [show p0 = 4 by omega]; exact y153_0.trans (by decide +kernel)) | (rw [show p0 = 5 by omega]; exact y166_0.trans (by decide +kernel)) | (rw [show p0 = 6 by omega]; exact y180_0.trans (by decide +kernel)) | (rw [show p0 = 7 by omega]; exact y196_0.trans (by decide +kernel)) | (rw [show p0 = 8 by omega]; exact y210_0.trans (by decide +kernel)) | (rw [show p0 = 9 by omega]; exact y227_0.trans (by decide +kernel)) | (rw [show p0 = 10 by omega]; exact y244_0.trans (by decide +kernel)) | (rw [show p0 = 11 by omega]; exact y260_0.trans (by decide +kernel)) | (rw [show p0 = 12 by omega]; exact y274_0.trans (by decide +kernel)) | (rw [show p0 = 13 by omega]; exact y290_0.trans (by decide +kernel)) | (rw [show p0 = 14 by omega]; exact y306_0.trans (by decide +kernel)) | (rw [show p0 = 15 by omega]; exact y321_0.trans (by decide +kernel)) | (rw [show p0 = 16 by omega]; exact y336_0.trans (by decide +kernel))⟩⟩
    · show mm_W x 0 0 98 _ _ _
      refine mm_bipush C (mm_dec dk_X12_known 11 rfl) ⟨by decide, by decide⟩ ?_
      refine mm_bipush C (mm_dec dk_X12_known 12 rfl) ⟨by decide, by decide⟩ ?_
      refine mm_bipush C (mm_dec dk_X12_known 13 rfl) ⟨by decide, by decide⟩ ?_
      refine mm_iconst C (mm_dec dk_X12_known 14 rfl) ⟨by decide, by decide⟩ ?_
      refine mm_iconst C (mm_dec dk_X12_known 15 rfl) ⟨by decide, by decide⟩ ?_
      refine mm_iconst C (mm_dec dk_X12_known 16 rfl) ⟨by decide, by decide⟩ ?_
      refine mm_iconst C (mm_dec dk_X12_known 17 rfl) ⟨by decide, by decide⟩ ?_
      refine mm_cSl (rest := []) C1 es_X12_390 (mm_dec dk_X12_known 18 rfl) (c_X12_spelled_q x.2.1 hl (d - 1) (by omega) h i0 111 117 116 0 0 0 0 ⟨by omega, by omega⟩ ⟨by omega, by omega⟩ ⟨by omega, by omega⟩ ⟨by omega, by omega⟩ ⟨by omega, by omega⟩ ⟨by omega, by omega⟩ ⟨by omega, by omega⟩ (by omega) (by omega) (by omega) (by omega) (by omega) (by omega) (by omega)) rfl (Nat.le_of_ble_eq_true rfl) ⟨by decide, by decide⟩ rfl (fun r108 h108c hp108 => ?_) (fun _ _ q => q.elim)
      obtain ⟨z108, y108_0⟩ := hp108
      rw [z108]
      refine mm_rng (fun _ ho => ?_)
      have b108 : -9223372036854775808 ≤ r108 ∧ r108 < 9223372036854775808 := mm_ok_hd ho
      exact mm_lret C T (mm_dec dk_X12_known 19 rfl) (by decide : 0 ≤ 0) (by decide : 0 ≤ 0) ⟨_, rfl, ⟨rfl, by first | (rw [show p0 = 0 by omega]; exact y94_0.trans (by decide +kernel)) | (rw [show p0 = 1 by omega]; exact y108_0.trans (by decide +kernel)) | (rw [show p0 = 2 by omega]; exact y125_0.trans (by decide +kernel)) | (rw [show p0 = 3 by omega]; exact y139_0.trans (by decide +kernel)) | (rw [show p0 = 4 by omega]; exact y153_0.trans (by decide +kernel)) | (rw [show p0 = 5 by omega]; exact y166_0.trans (by decide +kernel)) | (rw [show p0 = 6 by omega]; exact y180_0.trans (by decide +kernel)) | (rw [show p0 = 7 by omega]; exact y196_0.trans (by decide +kernel)) | (rw [show p0 = 8 by omega]; exact y210_0.trans (by decide +kernel)) | (rw [show p0 = 9 by omega]; exact y227_0.trans (by decide +kernel)) | (rw [show p0 = 10 by omega]; exact y244_0.trans (by decide +kernel)) | (rw [show p0 = 11 by omega]; exact y260_0.trans (by decide +kernel)) | (rw [show p0 = 12 by omega]; exact y274_0.trans (by decide +kernel)) | (rw [show p0 = 13 by omega]; exact y290_0.trans (by decide +kernel)) | (rw [show p0 = 14 by omega]; exact y306_0.trans (by decide +kernel)) | (rw [show p0 = 15 by omega]; exact y321_0.trans (by decide +kernel)) | (rw [show p0 = 16 by omega]; exact y336_0.trans (by decide +kernel))⟩⟩
    · show mm_W x 0 0 112 _ _ _
      refine mm_bipush C (mm_dec dk_X12_known 20 rfl) ⟨by decide, by decide⟩ ?_
      refine mm_bipush C (mm_dec dk_X12_known 21 rfl) ⟨by decide, by decide⟩ ?_
      refine mm_bipush C (mm_dec dk_X12_known 22 rfl) ⟨by decide, by decide⟩ ?_
      refine mm_bipush C (mm_dec dk_X12_known 23 rfl) ⟨by decide, by decide⟩ ?_
      refine mm_bipush C (mm_dec dk_X12_known 24 rfl) ⟨by decide, by decide⟩ ?_
      refine mm_bipush C (mm_dec dk_X12_known 25 rfl) ⟨by decide, by decide⟩ ?_
      refine mm_iconst C (mm_dec dk_X12_known 26 rfl) ⟨by decide, by decide⟩ ?_
      refine mm_cSl (rest := []) C1 es_X12_390 (mm_dec dk_X12_known 27 rfl) (c_X12_spelled_q x.2.1 hl (d - 1) (by omega) h i0 117 110 108 101 115 115 0 ⟨by omega, by omega⟩ ⟨by omega, by omega⟩ ⟨by omega, by omega⟩ ⟨by omega, by omega⟩ ⟨by omega, by omega⟩ ⟨by omega, by omega⟩ ⟨by omega, by omega⟩ (by omega) (by omega) (by omega) (by omega) (by omega) (by omega) (by omega)) rfl (Nat.le_of_ble_eq_true rfl) ⟨by decide, by decide⟩ rfl (fun r125 h125c hp125 => ?_) (fun _ _ q => q.elim)
      obtain ⟨z125, y125_0⟩ := hp125
      rw [z125]
      refine mm_rng (fun _ ho => ?_)
      have b125 : -9223372036854775808 ≤ r125 ∧ r125 < 9223372036854775808 := mm_ok_hd ho
      exact mm_lret C T (mm_dec dk_X12_known 28 rfl) (by decide : 0 ≤ 0) (by decide : 0 ≤ 0) ⟨_, rfl, ⟨rfl, by first | (rw [show p0 = 0 by omega]; exact y94_0.trans (by decide +kernel)) | (rw [show p0 = 1 by omega]; exact y108_0.trans (by decide +kernel)) | (rw [show p0 = 2 by omega]; exact y125_0.trans (by decide +kernel)) | (rw [show p0 = 3 by omega]; exact y139_0.trans (by decide +kernel)) | (rw [show p0 = 4 by omega]; exact y153_0.trans (by decide +kernel)) | (rw [show p0 = 5 by omega]; exact y166_0.trans (by decide +kernel)) | (rw [show p0 = 6 by omega]; exact y180_0.trans (by decide +kernel)) | (rw [show p0 = 7 by omega]; exact y196_0.trans (by decide +kernel)) | (rw [show p0 = 8 by omega]; exact y210_0.trans (by decide +kernel)) | (rw [show p0 = 9 by omega]; exact y227_0.trans (by decide +kernel)) | (rw [show p0 = 10 by omega]; exact y244_0.trans (by decide +kernel)) | (rw [show p0 = 11 by omega]; exact y260_0.trans (by decide +kernel)) | (rw [show p0 = 12 by omega]; exact y274_0.trans (by decide +kernel)) | (rw [show p0 = 13 by omega]; exact y290_0.trans (by decide +kernel)) | (rw [show p0 = 14 by omega]; exact y306_0.trans (by decide +kernel)) | (rw [show p0 = 15 by omega]; exact y321_0.trans (by decide +kernel)) | (rw [show p0 = 16 by omega]; exact y336_0.trans (by decide +kernel))⟩⟩
    · show mm_W x 0 0 129 _ _ _
      refine mm_bipush C (mm_dec dk_X12_known 29 rfl) ⟨by decide, by decide⟩ ?_
      refine mm_bipush C (mm_dec dk_X12_known 30 rfl) ⟨by decide, by decide⟩ ?_
      refine mm_bipush C (mm_dec dk_X12_known 31 rfl) ⟨by decide, by decide⟩ ?_
      refine mm_iconst C (mm_dec dk_X12_known 32 rfl) ⟨by decide, by decide⟩ ?_
      refine mm_iconst C (mm_dec dk_X12_known 33 rfl) ⟨by decide, by decide⟩ ?_
      refine mm_iconst C (mm_dec dk_X12_known 34 rfl) ⟨by decide, by decide⟩ ?_
      refine mm_iconst C (mm_dec dk_X12_known 35 rfl) ⟨by decide, by decide⟩ ?_
      refine mm_cSl (rest := []) C1 es_X12_390 (mm_dec dk_X12_known 36 rfl) (c_X12_spelled_q x.2.1 hl (d - 1) (by omega) h i0 115 101 116 0 0 0 0 ⟨by omega, by omega⟩ ⟨by omega, by omega⟩ ⟨by omega, by omega⟩ ⟨by omega, by omega⟩ ⟨by omega, by omega⟩ ⟨by omega, by omega⟩ ⟨by omega, by omega⟩ (by omega) (by omega) (by omega) (by omega) (by omega) (by omega) (by omega)) rfl (Nat.le_of_ble_eq_true rfl) ⟨by decide, by decide⟩ rfl (fun r139 h139c hp139 => ?_) (fun _ _ q => q.elim)
      obtain ⟨z139, y139_0⟩ := hp139
      rw [z139]
      refine mm_rng (fun _ ho => ?_)
      have b139 : -9223372036854775808 ≤ r139 ∧ r139 < 9223372036854775808 := mm_ok_hd ho
      exact mm_lret C T (mm_dec dk_X12_known 37 rfl) (by decide : 0 ≤ 0) (by decide : 0 ≤ 0) ⟨_, rfl, ⟨rfl, by first | (rw [show p0 = 0 by omega]; exact y94_0.trans (by decide +kernel)) | (rw [show p0 = 1 by omega]; exact y108_0.trans (by decide +kernel)) | (rw [show p0 = 2 by omega]; exact y125_0.trans (by decide +kernel)) | (rw [show p0 = 3 by omega]; exact y139_0.trans (by decide +kernel)) | (rw [show p0 = 4 by omega]; exact y153_0.trans (by decide +kernel)) | (rw [show p0 = 5 by omega]; exact y166_0.trans (by decide +kernel)) | (rw [show p0 = 6 by omega]; exact y180_0.trans (by decide +kernel)) | (rw [show p0 = 7 by omega]; exact y196_0.trans (by decide +kernel)) | (rw [show p0 = 8 by omega]; exact y210_0.trans (by decide +kernel)) | (rw [show p0 = 9 by omega]; exact y227_0.trans (by decide +kernel)) | (rw [show p0 = 10 by omega]; exact y244_0.trans (by decide +kernel)) | (rw [show p0 = 11 by omega]; exact y260_0.trans (by decide +kernel)) | (rw [show p0 = 12 by omega]; exact y274_0.trans (by decide +kernel)) | (rw [show p0 = 13 by omega]; exact y290_0.trans (by decide +kernel)) | (rw [show p0 = 14 by omega]; exact y306_0.trans (by decide +kernel)) | (rw [show p0 = 15 by omega]; exact y321_0.trans (by decide +kernel)) | (rw [show p0 = 16 by omega]; exact y336_0.trans (by decide +kernel))⟩⟩
    · show mm_W x 0 0 143 _ _ _
      refine mm_bipush C (mm_dec dk_X12_known 38 rfl) ⟨by decide, by decide⟩ ?_
      refine mm_bipush C (mm_dec dk_X12_known 39 rfl) ⟨by decide, by decide⟩ ?_
      refine mm_bipush C (mm_dec dk_X12_known 40 rfl) ⟨by decide, by decide⟩ ?_
      refine mm_iconst C (mm_dec dk_X12_known 41 rfl) ⟨by decide, by decide⟩ ?_
      refine mm_iconst C (mm_dec dk_X12_known 42 rfl) ⟨by decide, by decide⟩ ?_
      refine mm_iconst C (mm_dec dk_X12_known 43 rfl) ⟨by decide, by decide⟩ ?_
      refine mm_iconst C (mm_dec dk_X12_known 44 rfl) ⟨by decide, by decide⟩ ?_
      refine mm_cSl (rest := []) C1 es_X12_390 (mm_dec dk_X12_known 45 rfl) (c_X12_spelled_q x.2.1 hl (d - 1) (by omega) h i0 97 110 100 0 0 0 0 ⟨by omega, by omega⟩ ⟨by omega, by omega⟩ ⟨by omega, by omega⟩ ⟨by omega, by omega⟩ ⟨by omega, by omega⟩ ⟨by omega, by omega⟩ ⟨by omega, by omega⟩ (by omega) (by omega) (by omega) (by omega) (by omega) (by omega) (by omega)) rfl (Nat.le_of_ble_eq_true rfl) ⟨by decide, by decide⟩ rfl (fun r153 h153c hp153 => ?_) (fun _ _ q => q.elim)
      obtain ⟨z153, y153_0⟩ := hp153
      rw [z153]
      refine mm_rng (fun _ ho => ?_)
      have b153 : -9223372036854775808 ≤ r153 ∧ r153 < 9223372036854775808 := mm_ok_hd ho
      exact mm_lret C T (mm_dec dk_X12_known 46 rfl) (by decide : 0 ≤ 0) (by decide : 0 ≤ 0) ⟨_, rfl, ⟨rfl, by first | (rw [show p0 = 0 by omega]; exact y94_0.trans (by decide +kernel)) | (rw [show p0 = 1 by omega]; exact y108_0.trans (by decide +kernel)) | (rw [show p0 = 2 by omega]; exact y125_0.trans (by decide +kernel)) | (rw [show p0 = 3 by omega]; exact y139_0.trans (by decide +kernel)) | (rw [show p0 = 4 by omega]; exact y153_0.trans (by decide +kernel)) | (rw [show p0 = 5 by omega]; exact y166_0.trans (by decide +kernel)) | (rw [show p0 = 6 by omega]; exact y180_0.trans (by decide +kernel)) | (rw [show p0 = 7 by omega]; exact y196_0.trans (by decide +kernel)) | (rw [show p0 = 8 by omega]; exact y210_0.trans (by decide +kernel)) | (rw [show p0 = 9 by omega]; exact y227_0.trans (by decide +kernel)) | (rw [show p0 = 10 by omega]; exact y244_0.trans (by decide +kernel)) | (rw [show p0 = 11 by omega]; exact y260_0.trans (by decide +kernel)) | (rw [show p0 = 12 by omega]; exact y274_0.trans (by decide +kernel)) | (rw [show p0 = 13 by omega]; exact y290_0.trans (by decide +kernel)) | (rw [show p0 = 14 by omega]; exact y306_0.trans (by decide +kernel)) | (rw [show p0 = 15 by omega]; exact y321_0.trans (by decide +kernel)) | (rw [show p0 = 16 by omega]; exact y336_0.trans (by decide +kernel))⟩⟩
    · show mm_W x 0 0 157 _ _ _
      refine mm_bipush C (mm_dec dk_X12_known 47 rfl) ⟨by decide, by decide⟩ ?_
      refine mm_bipush C (mm_dec dk_X12_known 48 rfl) ⟨by decide, by decide⟩ ?_
      refine mm_iconst C (mm_dec dk_X12_known 49 rfl) ⟨by decide, by decide⟩ ?_
      refine mm_iconst C (mm_dec dk_X12_known 50 rfl) ⟨by decide, by decide⟩ ?_
      refine mm_iconst C (mm_dec dk_X12_known 51 rfl) ⟨by decide, by decide⟩ ?_
      refine mm_iconst C (mm_dec dk_X12_known 52 rfl) ⟨by decide, by decide⟩ ?_
      refine mm_iconst C (mm_dec dk_X12_known 53 rfl) ⟨by decide, by decide⟩ ?_
      refine mm_cSl (rest := []) C1 es_X12_390 (mm_dec dk_X12_known 54 rfl) (c_X12_spelled_q x.2.1 hl (d - 1) (by omega) h i0 111 114 0 0 0 0 0 ⟨by omega, by omega⟩ ⟨by omega, by omega⟩ ⟨by omega, by omega⟩ ⟨by omega, by omega⟩ ⟨by omega, by omega⟩ ⟨by omega, by omega⟩ ⟨by omega, by omega⟩ (by omega) (by omega) (by omega) (by omega) (by omega) (by omega) (by omega)) rfl (Nat.le_of_ble_eq_true rfl) ⟨by decide, by decide⟩ rfl (fun r166 h166c hp166 => ?_) (fun _ _ q => q.elim)
      obtain ⟨z166, y166_0⟩ := hp166
      rw [z166]
      refine mm_rng (fun _ ho => ?_)
      have b166 : -9223372036854775808 ≤ r166 ∧ r166 < 9223372036854775808 := mm_ok_hd ho
      exact mm_lret C T (mm_dec dk_X12_known 55 rfl) (by decide : 0 ≤ 0) (by decide : 0 ≤ 0) ⟨_, rfl, ⟨rfl, by first | (rw [show p0 = 0 by omega]; exact y94_0.trans (by decide +kernel)) | (rw [show p0 = 1 by omega]; exact y108_0.trans (by decide +kernel)) | (rw [show p0 = 2 by omega]; exact y125_0.trans (by decide +kernel)) | (rw [show p0 = 3 by omega]; exact y139_0.trans (by decide +kernel)) | (rw [show p0 = 4 by omega]; exact y153_0.trans (by decide +kernel)) | (rw [show p0 = 5 by omega]; exact y166_0.trans (by decide +kernel)) | (rw [show p0 = 6 by omega]; exact y180_0.trans (by decide +kernel)) | (rw [show p0 = 7 by omega]; exact y196_0.trans (by decide +kernel)) | (rw [show p0 = 8 by omega]; exact y210_0.trans (by decide +kernel)) | (rw [show p0 = 9 by omega]; exact y227_0.trans (by decide +kernel)) | (rw [show p0 = 10 by omega]; exact y244_0.trans (by decide +kernel)) | (rw [show p0 = 11 by omega]; exact y260_0.trans (by decide +kernel)) | (rw [show p0 = 12 by omega]; exact y274_0.trans (by decide +kernel)) | (rw [show p0 = 13 by omega]; exact y290_0.trans (by decide +kernel)) | (rw [show p0 = 14 by omega]; exact y306_0.trans (by decide +kernel)) | (rw [show p0 = 15 by omega]; exact y321_0.trans (by decide +kernel)) | (rw [show p0 = 16 by omega]; exact y336_0.trans (by decide +kernel))⟩⟩
    · show mm_W x 0 0 170 _ _ _
      refine mm_bipush C (mm_dec dk_X12_known 56 rfl) ⟨by decide, by decide⟩ ?_
      refine mm_bipush C (mm_dec dk_X12_known 57 rfl) ⟨by decide, by decide⟩ ?_
      refine mm_bipush C (mm_dec dk_X12_known 58 rfl) ⟨by decide, by decide⟩ ?_
      refine mm_iconst C (mm_dec dk_X12_known 59 rfl) ⟨by decide, by decide⟩ ?_
      refine mm_iconst C (mm_dec dk_X12_known 60 rfl) ⟨by decide, by decide⟩ ?_
      refine mm_iconst C (mm_dec dk_X12_known 61 rfl) ⟨by decide, by decide⟩ ?_
      refine mm_iconst C (mm_dec dk_X12_known 62 rfl) ⟨by decide, by decide⟩ ?_
      refine mm_cSl (rest := []) C1 es_X12_390 (mm_dec dk_X12_known 63 rfl) (c_X12_spelled_q x.2.1 hl (d - 1) (by omega) h i0 110 111 116 0 0 0 0 ⟨by omega, by omega⟩ ⟨by omega, by omega⟩ ⟨by omega, by omega⟩ ⟨by omega, by omega⟩ ⟨by omega, by omega⟩ ⟨by omega, by omega⟩ ⟨by omega, by omega⟩ (by omega) (by omega) (by omega) (by omega) (by omega) (by omega) (by omega)) rfl (Nat.le_of_ble_eq_true rfl) ⟨by decide, by decide⟩ rfl (fun r180 h180c hp180 => ?_) (fun _ _ q => q.elim)
      obtain ⟨z180, y180_0⟩ := hp180
      rw [z180]
      refine mm_rng (fun _ ho => ?_)
      have b180 : -9223372036854775808 ≤ r180 ∧ r180 < 9223372036854775808 := mm_ok_hd ho
      exact mm_lret C T (mm_dec dk_X12_known 64 rfl) (by decide : 0 ≤ 0) (by decide : 0 ≤ 0) ⟨_, rfl, ⟨rfl, by first | (rw [show p0 = 0 by omega]; exact y94_0.trans (by decide +kernel)) | (rw [show p0 = 1 by omega]; exact y108_0.trans (by decide +kernel)) | (rw [show p0 = 2 by omega]; exact y125_0.trans (by decide +kernel)) | (rw [show p0 = 3 by omega]; exact y139_0.trans (by decide +kernel)) | (rw [show p0 = 4 by omega]; exact y153_0.trans (by decide +kernel)) | (rw [show p0 = 5 by omega]; exact y166_0.trans (by decide +kernel)) | (rw [show p0 = 6 by omega]; exact y180_0.trans (by decide +kernel)) | (rw [show p0 = 7 by omega]; exact y196_0.trans (by decide +kernel)) | (rw [show p0 = 8 by omega]; exact y210_0.trans (by decide +kernel)) | (rw [show p0 = 9 by omega]; exact y227_0.trans (by decide +kernel)) | (rw [show p0 = 10 by omega]; exact y244_0.trans (by decide +kernel)) | (rw [show p0 = 11 by omega]; exact y260_0.trans (by decide +kernel)) | (rw [show p0 = 12 by omega]; exact y274_0.trans (by decide +kernel)) | (rw [show p0 = 13 by omega]; exact y290_0.trans (by decide +kernel)) | (rw [show p0 = 14 by omega]; exact y306_0.trans (by decide +kernel)) | (rw [show p0 = 15 by omega]; exact y321_0.trans (by decide +kernel)) | (rw [show p0 = 16 by omega]; exact y336_0.trans (by decide +kernel))⟩⟩
    · show mm_W x 0 0 184 _ _ _
      refine mm_bipush C (mm_dec dk_X12_known 65 rfl) ⟨by decide, by decide⟩ ?_
      refine mm_bipush C (mm_dec dk_X12_known 66 rfl) ⟨by decide, by decide⟩ ?_
      refine mm_bipush C (mm_dec dk_X12_known 67 rfl) ⟨by decide, by decide⟩ ?_
      refine mm_bipush C (mm_dec dk_X12_known 68 rfl) ⟨by decide, by decide⟩ ?_
      refine mm_bipush C (mm_dec dk_X12_known 69 rfl) ⟨by decide, by decide⟩ ?_
      refine mm_iconst C (mm_dec dk_X12_known 70 rfl) ⟨by decide, by decide⟩ ?_
      refine mm_iconst C (mm_dec dk_X12_known 71 rfl) ⟨by decide, by decide⟩ ?_
      refine mm_cSl (rest := []) C1 es_X12_390 (mm_dec dk_X12_known 72 rfl) (c_X12_spelled_q x.2.1 hl (d - 1) (by omega) h i0 108 105 109 105 116 0 0 ⟨by omega, by omega⟩ ⟨by omega, by omega⟩ ⟨by omega, by omega⟩ ⟨by omega, by omega⟩ ⟨by omega, by omega⟩ ⟨by omega, by omega⟩ ⟨by omega, by omega⟩ (by omega) (by omega) (by omega) (by omega) (by omega) (by omega) (by omega)) rfl (Nat.le_of_ble_eq_true rfl) ⟨by decide, by decide⟩ rfl (fun r196 h196c hp196 => ?_) (fun _ _ q => q.elim)
      obtain ⟨z196, y196_0⟩ := hp196
      rw [z196]
      refine mm_rng (fun _ ho => ?_)
      have b196 : -9223372036854775808 ≤ r196 ∧ r196 < 9223372036854775808 := mm_ok_hd ho
      exact mm_lret C T (mm_dec dk_X12_known 73 rfl) (by decide : 0 ≤ 0) (by decide : 0 ≤ 0) ⟨_, rfl, ⟨rfl, by first | (rw [show p0 = 0 by omega]; exact y94_0.trans (by decide +kernel)) | (rw [show p0 = 1 by omega]; exact y108_0.trans (by decide +kernel)) | (rw [show p0 = 2 by omega]; exact y125_0.trans (by decide +kernel)) | (rw [show p0 = 3 by omega]; exact y139_0.trans (by decide +kernel)) | (rw [show p0 = 4 by omega]; exact y153_0.trans (by decide +kernel)) | (rw [show p0 = 5 by omega]; exact y166_0.trans (by decide +kernel)) | (rw [show p0 = 6 by omega]; exact y180_0.trans (by decide +kernel)) | (rw [show p0 = 7 by omega]; exact y196_0.trans (by decide +kernel)) | (rw [show p0 = 8 by omega]; exact y210_0.trans (by decide +kernel)) | (rw [show p0 = 9 by omega]; exact y227_0.trans (by decide +kernel)) | (rw [show p0 = 10 by omega]; exact y244_0.trans (by decide +kernel)) | (rw [show p0 = 11 by omega]; exact y260_0.trans (by decide +kernel)) | (rw [show p0 = 12 by omega]; exact y274_0.trans (by decide +kernel)) | (rw [show p0 = 13 by omega]; exact y290_0.trans (by decide +kernel)) | (rw [show p0 = 14 by omega]; exact y306_0.trans (by decide +kernel)) | (rw [show p0 = 15 by omega]; exact y321_0.trans (by decide +kernel)) | (rw [show p0 = 16 by omega]; exact y336_0.trans (by decide +kernel))⟩⟩
    · show mm_W x 0 0 200 _ _ _
      refine mm_bipush C (mm_dec dk_X12_known 74 rfl) ⟨by decide, by decide⟩ ?_
      refine mm_bipush C (mm_dec dk_X12_known 75 rfl) ⟨by decide, by decide⟩ ?_
      refine mm_bipush C (mm_dec dk_X12_known 76 rfl) ⟨by decide, by decide⟩ ?_
      refine mm_iconst C (mm_dec dk_X12_known 77 rfl) ⟨by decide, by decide⟩ ?_
      refine mm_iconst C (mm_dec dk_X12_known 78 rfl) ⟨by decide, by decide⟩ ?_
      refine mm_iconst C (mm_dec dk_X12_known 79 rfl) ⟨by decide, by decide⟩ ?_
      refine mm_iconst C (mm_dec dk_X12_known 80 rfl) ⟨by decide, by decide⟩ ?_
      refine mm_cSl (rest := []) C1 es_X12_390 (mm_dec dk_X12_known 81 rfl) (c_X12_spelled_q x.2.1 hl (d - 1) (by omega) h i0 103 97 112 0 0 0 0 ⟨by omega, by omega⟩ ⟨by omega, by omega⟩ ⟨by omega, by omega⟩ ⟨by omega, by omega⟩ ⟨by omega, by omega⟩ ⟨by omega, by omega⟩ ⟨by omega, by omega⟩ (by omega) (by omega) (by omega) (by omega) (by omega) (by omega) (by omega)) rfl (Nat.le_of_ble_eq_true rfl) ⟨by decide, by decide⟩ rfl (fun r210 h210c hp210 => ?_) (fun _ _ q => q.elim)
      obtain ⟨z210, y210_0⟩ := hp210
      rw [z210]
      refine mm_rng (fun _ ho => ?_)
      have b210 : -9223372036854775808 ≤ r210 ∧ r210 < 9223372036854775808 := mm_ok_hd ho
      exact mm_lret C T (mm_dec dk_X12_known 82 rfl) (by decide : 0 ≤ 0) (by decide : 0 ≤ 0) ⟨_, rfl, ⟨rfl, by first | (rw [show p0 = 0 by omega]; exact y94_0.trans (by decide +kernel)) | (rw [show p0 = 1 by omega]; exact y108_0.trans (by decide +kernel)) | (rw [show p0 = 2 by omega]; exact y125_0.trans (by decide +kernel)) | (rw [show p0 = 3 by omega]; exact y139_0.trans (by decide +kernel)) | (rw [show p0 = 4 by omega]; exact y153_0.trans (by decide +kernel)) | (rw [show p0 = 5 by omega]; exact y166_0.trans (by decide +kernel)) | (rw [show p0 = 6 by omega]; exact y180_0.trans (by decide +kernel)) | (rw [show p0 = 7 by omega]; exact y196_0.trans (by decide +kernel)) | (rw [show p0 = 8 by omega]; exact y210_0.trans (by decide +kernel)) | (rw [show p0 = 9 by omega]; exact y227_0.trans (by decide +kernel)) | (rw [show p0 = 10 by omega]; exact y244_0.trans (by decide +kernel)) | (rw [show p0 = 11 by omega]; exact y260_0.trans (by decide +kernel)) | (rw [show p0 = 12 by omega]; exact y274_0.trans (by decide +kernel)) | (rw [show p0 = 13 by omega]; exact y290_0.trans (by decide +kernel)) | (rw [show p0 = 14 by omega]; exact y306_0.trans (by decide +kernel)) | (rw [show p0 = 15 by omega]; exact y321_0.trans (by decide +kernel)) | (rw [show p0 = 16 by omega]; exact y336_0.trans (by decide +kernel))⟩⟩
    · show mm_W x 0 0 214 _ _ _
      refine mm_bipush C (mm_dec dk_X12_known 83 rfl) ⟨by decide, by decide⟩ ?_
      refine mm_bipush C (mm_dec dk_X12_known 84 rfl) ⟨by decide, by decide⟩ ?_
      refine mm_bipush C (mm_dec dk_X12_known 85 rfl) ⟨by decide, by decide⟩ ?_
      refine mm_bipush C (mm_dec dk_X12_known 86 rfl) ⟨by decide, by decide⟩ ?_
      refine mm_bipush C (mm_dec dk_X12_known 87 rfl) ⟨by decide, by decide⟩ ?_
      refine mm_bipush C (mm_dec dk_X12_known 88 rfl) ⟨by decide, by decide⟩ ?_
      refine mm_iconst C (mm_dec dk_X12_known 89 rfl) ⟨by decide, by decide⟩ ?_
      refine mm_cSl (rest := []) C1 es_X12_390 (mm_dec dk_X12_known 90 rfl) (c_X12_spelled_q x.2.1 hl (d - 1) (by omega) h i0 119 105 110 100 111 119 0 ⟨by omega, by omega⟩ ⟨by omega, by omega⟩ ⟨by omega, by omega⟩ ⟨by omega, by omega⟩ ⟨by omega, by omega⟩ ⟨by omega, by omega⟩ ⟨by omega, by omega⟩ (by omega) (by omega) (by omega) (by omega) (by omega) (by omega) (by omega)) rfl (Nat.le_of_ble_eq_true rfl) ⟨by decide, by decide⟩ rfl (fun r227 h227c hp227 => ?_) (fun _ _ q => q.elim)
      obtain ⟨z227, y227_0⟩ := hp227
      rw [z227]
      refine mm_rng (fun _ ho => ?_)
      have b227 : -9223372036854775808 ≤ r227 ∧ r227 < 9223372036854775808 := mm_ok_hd ho
      exact mm_lret C T (mm_dec dk_X12_known 91 rfl) (by decide : 0 ≤ 0) (by decide : 0 ≤ 0) ⟨_, rfl, ⟨rfl, by first | (rw [show p0 = 0 by omega]; exact y94_0.trans (by decide +kernel)) | (rw [show p0 = 1 by omega]; exact y108_0.trans (by decide +kernel)) | (rw [show p0 = 2 by omega]; exact y125_0.trans (by decide +kernel)) | (rw [show p0 = 3 by omega]; exact y139_0.trans (by decide +kernel)) | (rw [show p0 = 4 by omega]; exact y153_0.trans (by decide +kernel)) | (rw [show p0 = 5 by omega]; exact y166_0.trans (by decide +kernel)) | (rw [show p0 = 6 by omega]; exact y180_0.trans (by decide +kernel)) | (rw [show p0 = 7 by omega]; exact y196_0.trans (by decide +kernel)) | (rw [show p0 = 8 by omega]; exact y210_0.trans (by decide +kernel)) | (rw [show p0 = 9 by omega]; exact y227_0.trans (by decide +kernel)) | (rw [show p0 = 10 by omega]; exact y244_0.trans (by decide +kernel)) | (rw [show p0 = 11 by omega]; exact y260_0.trans (by decide +kernel)) | (rw [show p0 = 12 by omega]; exact y274_0.trans (by decide +kernel)) | (rw [show p0 = 13 by omega]; exact y290_0.trans (by decide +kernel)) | (rw [show p0 = 14 by omega]; exact y306_0.trans (by decide +kernel)) | (rw [show p0 = 15 by omega]; exact y321_0.trans (by decide +kernel)) | (rw [show p0 = 16 by omega]; exact y336_0.trans (by decide +kernel))⟩⟩
    · show mm_W x 0 0 231 _ _ _
      refine mm_bipush C (mm_dec dk_X12_known 92 rfl) ⟨by decide, by decide⟩ ?_
      refine mm_bipush C (mm_dec dk_X12_known 93 rfl) ⟨by decide, by decide⟩ ?_
      refine mm_bipush C (mm_dec dk_X12_known 94 rfl) ⟨by decide, by decide⟩ ?_
      refine mm_bipush C (mm_dec dk_X12_known 95 rfl) ⟨by decide, by decide⟩ ?_
      refine mm_bipush C (mm_dec dk_X12_known 96 rfl) ⟨by decide, by decide⟩ ?_
      refine mm_bipush C (mm_dec dk_X12_known 97 rfl) ⟨by decide, by decide⟩ ?_
      refine mm_iconst C (mm_dec dk_X12_known 98 rfl) ⟨by decide, by decide⟩ ?_
      refine mm_cSl (rest := []) C1 es_X12_390 (mm_dec dk_X12_known 99 rfl) (c_X12_spelled_q x.2.1 hl (d - 1) (by omega) h i0 109 105 115 115 101 100 0 ⟨by omega, by omega⟩ ⟨by omega, by omega⟩ ⟨by omega, by omega⟩ ⟨by omega, by omega⟩ ⟨by omega, by omega⟩ ⟨by omega, by omega⟩ ⟨by omega, by omega⟩ (by omega) (by omega) (by omega) (by omega) (by omega) (by omega) (by omega)) rfl (Nat.le_of_ble_eq_true rfl) ⟨by decide, by decide⟩ rfl (fun r244 h244c hp244 => ?_) (fun _ _ q => q.elim)
      obtain ⟨z244, y244_0⟩ := hp244
      rw [z244]
      refine mm_rng (fun _ ho => ?_)
      have b244 : -9223372036854775808 ≤ r244 ∧ r244 < 9223372036854775808 := mm_ok_hd ho
      exact mm_lret C T (mm_dec dk_X12_known 100 rfl) (by decide : 0 ≤ 0) (by decide : 0 ≤ 0) ⟨_, rfl, ⟨rfl, by first | (rw [show p0 = 0 by omega]; exact y94_0.trans (by decide +kernel)) | (rw [show p0 = 1 by omega]; exact y108_0.trans (by decide +kernel)) | (rw [show p0 = 2 by omega]; exact y125_0.trans (by decide +kernel)) | (rw [show p0 = 3 by omega]; exact y139_0.trans (by decide +kernel)) | (rw [show p0 = 4 by omega]; exact y153_0.trans (by decide +kernel)) | (rw [show p0 = 5 by omega]; exact y166_0.trans (by decide +kernel)) | (rw [show p0 = 6 by omega]; exact y180_0.trans (by decide +kernel)) | (rw [show p0 = 7 by omega]; exact y196_0.trans (by decide +kernel)) | (rw [show p0 = 8 by omega]; exact y210_0.trans (by decide +kernel)) | (rw [show p0 = 9 by omega]; exact y227_0.trans (by decide +kernel)) | (rw [show p0 = 10 by omega]; exact y244_0.trans (by decide +kernel)) | (rw [show p0 = 11 by omega]; exact y260_0.trans (by decide +kernel)) | (rw [show p0 = 12 by omega]; exact y274_0.trans (by decide +kernel)) | (rw [show p0 = 13 by omega]; exact y290_0.trans (by decide +kernel)) | (rw [show p0 = 14 by omega]; exact y306_0.trans (by decide +kernel)) | (rw [show p0 = 15 by omega]; exact y321_0.trans (by decide +kernel)) | (rw [show p0 = 16 by omega]; exact y336_0.trans (by decide +kernel))⟩⟩
    · show mm_W x 0 0 248 _ _ _
      refine mm_bipush C (mm_dec dk_X12_known 101 rfl) ⟨by decide, by decide⟩ ?_
      refine mm_bipush C (mm_dec dk_X12_known 102 rfl) ⟨by decide, by decide⟩ ?_
      refine mm_bipush C (mm_dec dk_X12_known 103 rfl) ⟨by decide, by decide⟩ ?_
      refine mm_bipush C (mm_dec dk_X12_known 104 rfl) ⟨by decide, by decide⟩ ?_
      refine mm_bipush C (mm_dec dk_X12_known 105 rfl) ⟨by decide, by decide⟩ ?_
      refine mm_iconst C (mm_dec dk_X12_known 106 rfl) ⟨by decide, by decide⟩ ?_
      refine mm_iconst C (mm_dec dk_X12_known 107 rfl) ⟨by decide, by decide⟩ ?_
      refine mm_cSl (rest := []) C1 es_X12_390 (mm_dec dk_X12_known 108 rfl) (c_X12_spelled_q x.2.1 hl (d - 1) (by omega) h i0 119 114 111 110 103 0 0 ⟨by omega, by omega⟩ ⟨by omega, by omega⟩ ⟨by omega, by omega⟩ ⟨by omega, by omega⟩ ⟨by omega, by omega⟩ ⟨by omega, by omega⟩ ⟨by omega, by omega⟩ (by omega) (by omega) (by omega) (by omega) (by omega) (by omega) (by omega)) rfl (Nat.le_of_ble_eq_true rfl) ⟨by decide, by decide⟩ rfl (fun r260 h260c hp260 => ?_) (fun _ _ q => q.elim)
      obtain ⟨z260, y260_0⟩ := hp260
      rw [z260]
      refine mm_rng (fun _ ho => ?_)
      have b260 : -9223372036854775808 ≤ r260 ∧ r260 < 9223372036854775808 := mm_ok_hd ho
      exact mm_lret C T (mm_dec dk_X12_known 109 rfl) (by decide : 0 ≤ 0) (by decide : 0 ≤ 0) ⟨_, rfl, ⟨rfl, by first | (rw [show p0 = 0 by omega]; exact y94_0.trans (by decide +kernel)) | (rw [show p0 = 1 by omega]; exact y108_0.trans (by decide +kernel)) | (rw [show p0 = 2 by omega]; exact y125_0.trans (by decide +kernel)) | (rw [show p0 = 3 by omega]; exact y139_0.trans (by decide +kernel)) | (rw [show p0 = 4 by omega]; exact y153_0.trans (by decide +kernel)) | (rw [show p0 = 5 by omega]; exact y166_0.trans (by decide +kernel)) | (rw [show p0 = 6 by omega]; exact y180_0.trans (by decide +kernel)) | (rw [show p0 = 7 by omega]; exact y196_0.trans (by decide +kernel)) | (rw [show p0 = 8 by omega]; exact y210_0.trans (by decide +kernel)) | (rw [show p0 = 9 by omega]; exact y227_0.trans (by decide +kernel)) | (rw [show p0 = 10 by omega]; exact y244_0.trans (by decide +kernel)) | (rw [show p0 = 11 by omega]; exact y260_0.trans (by decide +kernel)) | (rw [show p0 = 12 by omega]; exact y274_0.trans (by decide +kernel)) | (rw [show p0 = 13 by omega]; exact y290_0.trans (by decide +kernel)) | (rw [show p0 = 14 by omega]; exact y306_0.trans (by decide +kernel)) | (rw [show p0 = 15 by omega]; exact y321_0.trans (by decide +kernel)) | (rw [show p0 = 16 by omega]; exact y336_0.trans (by decide +kernel))⟩⟩
    · show mm_W x 0 0 264 _ _ _
      refine mm_bipush C (mm_dec dk_X12_known 110 rfl) ⟨by decide, by decide⟩ ?_
      refine mm_bipush C (mm_dec dk_X12_known 111 rfl) ⟨by decide, by decide⟩ ?_
      refine mm_bipush C (mm_dec dk_X12_known 112 rfl) ⟨by decide, by decide⟩ ?_
      refine mm_iconst C (mm_dec dk_X12_known 113 rfl) ⟨by decide, by decide⟩ ?_
      refine mm_iconst C (mm_dec dk_X12_known 114 rfl) ⟨by decide, by decide⟩ ?_
      refine mm_iconst C (mm_dec dk_X12_known 115 rfl) ⟨by decide, by decide⟩ ?_
      refine mm_iconst C (mm_dec dk_X12_known 116 rfl) ⟨by decide, by decide⟩ ?_
      refine mm_cSl (rest := []) C1 es_X12_390 (mm_dec dk_X12_known 117 rfl) (c_X12_spelled_q x.2.1 hl (d - 1) (by omega) h i0 114 117 110 0 0 0 0 ⟨by omega, by omega⟩ ⟨by omega, by omega⟩ ⟨by omega, by omega⟩ ⟨by omega, by omega⟩ ⟨by omega, by omega⟩ ⟨by omega, by omega⟩ ⟨by omega, by omega⟩ (by omega) (by omega) (by omega) (by omega) (by omega) (by omega) (by omega)) rfl (Nat.le_of_ble_eq_true rfl) ⟨by decide, by decide⟩ rfl (fun r274 h274c hp274 => ?_) (fun _ _ q => q.elim)
      obtain ⟨z274, y274_0⟩ := hp274
      rw [z274]
      refine mm_rng (fun _ ho => ?_)
      have b274 : -9223372036854775808 ≤ r274 ∧ r274 < 9223372036854775808 := mm_ok_hd ho
      exact mm_lret C T (mm_dec dk_X12_known 118 rfl) (by decide : 0 ≤ 0) (by decide : 0 ≤ 0) ⟨_, rfl, ⟨rfl, by first | (rw [show p0 = 0 by omega]; exact y94_0.trans (by decide +kernel)) | (rw [show p0 = 1 by omega]; exact y108_0.trans (by decide +kernel)) | (rw [show p0 = 2 by omega]; exact y125_0.trans (by decide +kernel)) | (rw [show p0 = 3 by omega]; exact y139_0.trans (by decide +kernel)) | (rw [show p0 = 4 by omega]; exact y153_0.trans (by decide +kernel)) | (rw [show p0 = 5 by omega]; exact y166_0.trans (by decide +kernel)) | (rw [show p0 = 6 by omega]; exact y180_0.trans (by decide +kernel)) | (rw [show p0 = 7 by omega]; exact y196_0.trans (by decide +kernel)) | (rw [show p0 = 8 by omega]; exact y210_0.trans (by decide +kernel)) | (rw [show p0 = 9 by omega]; exact y227_0.trans (by decide +kernel)) | (rw [show p0 = 10 by omega]; exact y244_0.trans (by decide +kernel)) | (rw [show p0 = 11 by omega]; exact y260_0.trans (by decide +kernel)) | (rw [show p0 = 12 by omega]; exact y274_0.trans (by decide +kernel)) | (rw [show p0 = 13 by omega]; exact y290_0.trans (by decide +kernel)) | (rw [show p0 = 14 by omega]; exact y306_0.trans (by decide +kernel)) | (rw [show p0 = 15 by omega]; exact y321_0.trans (by decide +kernel)) | (rw [show p0 = 16 by omega]; exact y336_0.trans (by decide +kernel))⟩⟩
    · show mm_W x 0 0 278 _ _ _
      refine mm_bipush C (mm_dec dk_X12_known 119 rfl) ⟨by decide, by decide⟩ ?_
      refine mm_bipush C (mm_dec dk_X12_known 120 rfl) ⟨by decide, by decide⟩ ?_
      refine mm_bipush C (mm_dec dk_X12_known 121 rfl) ⟨by decide, by decide⟩ ?_
      refine mm_bipush C (mm_dec dk_X12_known 122 rfl) ⟨by decide, by decide⟩ ?_
      refine mm_bipush C (mm_dec dk_X12_known 123 rfl) ⟨by decide, by decide⟩ ?_
      refine mm_iconst C (mm_dec dk_X12_known 124 rfl) ⟨by decide, by decide⟩ ?_
      refine mm_iconst C (mm_dec dk_X12_known 125 rfl) ⟨by decide, by decide⟩ ?_
      refine mm_cSl (rest := []) C1 es_X12_390 (mm_dec dk_X12_known 126 rfl) (c_X12_spelled_q x.2.1 hl (d - 1) (by omega) h i0 115 99 111 114 101 0 0 ⟨by omega, by omega⟩ ⟨by omega, by omega⟩ ⟨by omega, by omega⟩ ⟨by omega, by omega⟩ ⟨by omega, by omega⟩ ⟨by omega, by omega⟩ ⟨by omega, by omega⟩ (by omega) (by omega) (by omega) (by omega) (by omega) (by omega) (by omega)) rfl (Nat.le_of_ble_eq_true rfl) ⟨by decide, by decide⟩ rfl (fun r290 h290c hp290 => ?_) (fun _ _ q => q.elim)
      obtain ⟨z290, y290_0⟩ := hp290
      rw [z290]
      refine mm_rng (fun _ ho => ?_)
      have b290 : -9223372036854775808 ≤ r290 ∧ r290 < 9223372036854775808 := mm_ok_hd ho
      exact mm_lret C T (mm_dec dk_X12_known 127 rfl) (by decide : 0 ≤ 0) (by decide : 0 ≤ 0) ⟨_, rfl, ⟨rfl, by first | (rw [show p0 = 0 by omega]; exact y94_0.trans (by decide +kernel)) | (rw [show p0 = 1 by omega]; exact y108_0.trans (by decide +kernel)) | (rw [show p0 = 2 by omega]; exact y125_0.trans (by decide +kernel)) | (rw [show p0 = 3 by omega]; exact y139_0.trans (by decide +kernel)) | (rw [show p0 = 4 by omega]; exact y153_0.trans (by decide +kernel)) | (rw [show p0 = 5 by omega]; exact y166_0.trans (by decide +kernel)) | (rw [show p0 = 6 by omega]; exact y180_0.trans (by decide +kernel)) | (rw [show p0 = 7 by omega]; exact y196_0.trans (by decide +kernel)) | (rw [show p0 = 8 by omega]; exact y210_0.trans (by decide +kernel)) | (rw [show p0 = 9 by omega]; exact y227_0.trans (by decide +kernel)) | (rw [show p0 = 10 by omega]; exact y244_0.trans (by decide +kernel)) | (rw [show p0 = 11 by omega]; exact y260_0.trans (by decide +kernel)) | (rw [show p0 = 12 by omega]; exact y274_0.trans (by decide +kernel)) | (rw [show p0 = 13 by omega]; exact y290_0.trans (by decide +kernel)) | (rw [show p0 = 14 by omega]; exact y306_0.trans (by decide +kernel)) | (rw [show p0 = 15 by omega]; exact y321_0.trans (by decide +kernel)) | (rw [show p0 = 16 by omega]; exact y336_0.trans (by decide +kernel))⟩⟩
    · show mm_W x 0 0 294 _ _ _
      refine mm_bipush C (mm_dec dk_X12_known 128 rfl) ⟨by decide, by decide⟩ ?_
      refine mm_bipush C (mm_dec dk_X12_known 129 rfl) ⟨by decide, by decide⟩ ?_
      refine mm_bipush C (mm_dec dk_X12_known 130 rfl) ⟨by decide, by decide⟩ ?_
      refine mm_bipush C (mm_dec dk_X12_known 131 rfl) ⟨by decide, by decide⟩ ?_
      refine mm_bipush C (mm_dec dk_X12_known 132 rfl) ⟨by decide, by decide⟩ ?_
      refine mm_iconst C (mm_dec dk_X12_known 133 rfl) ⟨by decide, by decide⟩ ?_
      refine mm_iconst C (mm_dec dk_X12_known 134 rfl) ⟨by decide, by decide⟩ ?_
      refine mm_cSl (rest := []) C1 es_X12_390 (mm_dec dk_X12_known 135 rfl) (c_X12_spelled_q x.2.1 hl (d - 1) (by omega) h i0 112 111 115 116 115 0 0 ⟨by omega, by omega⟩ ⟨by omega, by omega⟩ ⟨by omega, by omega⟩ ⟨by omega, by omega⟩ ⟨by omega, by omega⟩ ⟨by omega, by omega⟩ ⟨by omega, by omega⟩ (by omega) (by omega) (by omega) (by omega) (by omega) (by omega) (by omega)) rfl (Nat.le_of_ble_eq_true rfl) ⟨by decide, by decide⟩ rfl (fun r306 h306c hp306 => ?_) (fun _ _ q => q.elim)
      obtain ⟨z306, y306_0⟩ := hp306
      rw [z306]
      refine mm_rng (fun _ ho => ?_)
      have b306 : -9223372036854775808 ≤ r306 ∧ r306 < 9223372036854775808 := mm_ok_hd ho
      exact mm_lret C T (mm_dec dk_X12_known 136 rfl) (by decide : 0 ≤ 0) (by decide : 0 ≤ 0) ⟨_, rfl, ⟨rfl, by first | (rw [show p0 = 0 by omega]; exact y94_0.trans (by decide +kernel)) | (rw [show p0 = 1 by omega]; exact y108_0.trans (by decide +kernel)) | (rw [show p0 = 2 by omega]; exact y125_0.trans (by decide +kernel)) | (rw [show p0 = 3 by omega]; exact y139_0.trans (by decide +kernel)) | (rw [show p0 = 4 by omega]; exact y153_0.trans (by decide +kernel)) | (rw [show p0 = 5 by omega]; exact y166_0.trans (by decide +kernel)) | (rw [show p0 = 6 by omega]; exact y180_0.trans (by decide +kernel)) | (rw [show p0 = 7 by omega]; exact y196_0.trans (by decide +kernel)) | (rw [show p0 = 8 by omega]; exact y210_0.trans (by decide +kernel)) | (rw [show p0 = 9 by omega]; exact y227_0.trans (by decide +kernel)) | (rw [show p0 = 10 by omega]; exact y244_0.trans (by decide +kernel)) | (rw [show p0 = 11 by omega]; exact y260_0.trans (by decide +kernel)) | (rw [show p0 = 12 by omega]; exact y274_0.trans (by decide +kernel)) | (rw [show p0 = 13 by omega]; exact y290_0.trans (by decide +kernel)) | (rw [show p0 = 14 by omega]; exact y306_0.trans (by decide +kernel)) | (rw [show p0 = 15 by omega]; exact y321_0.trans (by decide +kernel)) | (rw [show p0 = 16 by omega]; exact y336_0.trans (by decide +kernel))⟩⟩
    · show mm_W x 0 0 310 _ _ _
      refine mm_bipush C (mm_dec dk_X12_known 137 rfl) ⟨by decide, by decide⟩ ?_
      refine mm_bipush C (mm_dec dk_X12_known 138 rfl) ⟨by decide, by decide⟩ ?_
      refine mm_bipush C (mm_dec dk_X12_known 139 rfl) ⟨by decide, by decide⟩ ?_
      refine mm_bipush C (mm_dec dk_X12_known 140 rfl) ⟨by decide, by decide⟩ ?_
      refine mm_iconst C (mm_dec dk_X12_known 141 rfl) ⟨by decide, by decide⟩ ?_
      refine mm_iconst C (mm_dec dk_X12_known 142 rfl) ⟨by decide, by decide⟩ ?_
      refine mm_iconst C (mm_dec dk_X12_known 143 rfl) ⟨by decide, by decide⟩ ?_
      refine mm_cSl (rest := []) C1 es_X12_390 (mm_dec dk_X12_known 144 rfl) (c_X12_spelled_q x.2.1 hl (d - 1) (by omega) h i0 99 108 117 98 0 0 0 ⟨by omega, by omega⟩ ⟨by omega, by omega⟩ ⟨by omega, by omega⟩ ⟨by omega, by omega⟩ ⟨by omega, by omega⟩ ⟨by omega, by omega⟩ ⟨by omega, by omega⟩ (by omega) (by omega) (by omega) (by omega) (by omega) (by omega) (by omega)) rfl (Nat.le_of_ble_eq_true rfl) ⟨by decide, by decide⟩ rfl (fun r321 h321c hp321 => ?_) (fun _ _ q => q.elim)
      obtain ⟨z321, y321_0⟩ := hp321
      rw [z321]
      refine mm_rng (fun _ ho => ?_)
      have b321 : -9223372036854775808 ≤ r321 ∧ r321 < 9223372036854775808 := mm_ok_hd ho
      exact mm_lret C T (mm_dec dk_X12_known 145 rfl) (by decide : 0 ≤ 0) (by decide : 0 ≤ 0) ⟨_, rfl, ⟨rfl, by first | (rw [show p0 = 0 by omega]; exact y94_0.trans (by decide +kernel)) | (rw [show p0 = 1 by omega]; exact y108_0.trans (by decide +kernel)) | (rw [show p0 = 2 by omega]; exact y125_0.trans (by decide +kernel)) | (rw [show p0 = 3 by omega]; exact y139_0.trans (by decide +kernel)) | (rw [show p0 = 4 by omega]; exact y153_0.trans (by decide +kernel)) | (rw [show p0 = 5 by omega]; exact y166_0.trans (by decide +kernel)) | (rw [show p0 = 6 by omega]; exact y180_0.trans (by decide +kernel)) | (rw [show p0 = 7 by omega]; exact y196_0.trans (by decide +kernel)) | (rw [show p0 = 8 by omega]; exact y210_0.trans (by decide +kernel)) | (rw [show p0 = 9 by omega]; exact y227_0.trans (by decide +kernel)) | (rw [show p0 = 10 by omega]; exact y244_0.trans (by decide +kernel)) | (rw [show p0 = 11 by omega]; exact y260_0.trans (by decide +kernel)) | (rw [show p0 = 12 by omega]; exact y274_0.trans (by decide +kernel)) | (rw [show p0 = 13 by omega]; exact y290_0.trans (by decide +kernel)) | (rw [show p0 = 14 by omega]; exact y306_0.trans (by decide +kernel)) | (rw [show p0 = 15 by omega]; exact y321_0.trans (by decide +kernel)) | (rw [show p0 = 16 by omega]; exact y336_0.trans (by decide +kernel))⟩⟩
set_option maxRecDepth 100000 in
set_option maxHeartbeats 20000000 in
theorem c_X12_goes_q (l : Launch) (hl : l.stackTraces = false) (d : Nat) (hd : 1 ≤ d) (h : mH) (i0 : mm_inv h) : mm_Met l d yX12_goes cX12_goes 2 none [mR 66] h (mm_pv fun h2 => mm_inv h2 ∧ mm_fr [(66, 60), (66, 61), (66, 62), (66, 63), (66, 64), (66, 65), (66, 66)] [] h h2 ∧ h.1 66 60 ≤ h2.1 66 62 ∧ h2.1 66 62 ≤ h2.1 66 60 ∧ (h2.1 66 61 = 0 ∨ h2.1 66 62 < h2.1 66 60) ∧ mm_aY h2 ∧ h2.1 66 62 = mm_skp (mm_UY h) (h.1 66 59) (h.1 66 60)) mm_nx 0 0 := by
  refine mm_ofW (ls := [mR 66, mU]) hl (by decide) rfl (Nat.le_of_ble_eq_true rfl) ?_
  intro x hxl C T hnm htb
  subst hxl
  have C1 := mm_OK_le (d' := d - 1 + 1) (by omega) C
  have f0 : mm_fr [(66, 60), (66, 61), (66, 62), (66, 63), (66, 64), (66, 65), (66, 66)] [] h h := mm_fr_rf
  have g1 : 0 ≤ h.1 66 60 ∧ h.1 66 60 ≤ 500 := i0.1 66 60
  have g2 : 0 ≤ h.1 66 59 ∧ h.1 66 59 ≤ 500 := i0.1 66 59
  have g3 : 0 ≤ h.1 66 62 ∧ h.1 66 62 ≤ 500 := i0.1 66 62
  have g4 : -2147483648 ≤ h.1 66 61 ∧ h.1 66 61 ≤ 2147483647 := i0.1 66 61
  have g5 : -2147483648 ≤ h.1 66 64 ∧ h.1 66 64 ≤ 2147483647 := i0.1 66 64
  have g6 : -2147483648 ≤ h.1 66 65 ∧ h.1 66 65 ≤ 2147483647 := i0.1 66 65
  have g7 : -2147483648 ≤ h.1 66 63 ∧ h.1 66 63 ≤ 2147483647 := i0.1 66 63
  have g8 : -9223372036854775808 ≤ h.1 66 66 ∧ h.1 66 66 ≤ 9223372036854775807 := i0.1 66 66
  have J0 : ∀ (n : Nat) (h0_ : mH) (i0_ : mm_inv h0_) (f0_ : mm_fr [(66, 60), (66, 61), (66, 62), (66, 63), (66, 64), (66, 65), (66, 66)] [] h h0_) (w0_0 : h.1 66 60 ≤ h0_.1 66 60) (w0_1 : mm_skp (mm_UY h) (h.1 66 59) (h0_.1 66 60) = mm_skp (mm_UY h) (h.1 66 59) (h.1 66 60)), (500 - h0_.1 66 60 : Int) < n → mm_W x 0 0 0 [mR 66, mU] [] h0_ := by
    intro n
    induction n with
    | zero =>
      intro h0_ i0_ f0_ w0_0 w0_1 hm
      have g9 : 0 ≤ h0_.1 66 60 ∧ h0_.1 66 60 ≤ 500 := i0_.1 66 60
      have g10 : 0 ≤ h0_.1 66 59 ∧ h0_.1 66 59 ≤ 500 := i0_.1 66 59
      have g11 : 0 ≤ h0_.1 66 62 ∧ h0_.1 66 62 ≤ 500 := i0_.1 66 62
      have g12 : -2147483648 ≤ h0_.1 66 61 ∧ h0_.1 66 61 ≤ 2147483647 := i0_.1 66 61
      have g13 : -2147483648 ≤ h0_.1 66 64 ∧ h0_.1 66 64 ≤ 2147483647 := i0_.1 66 64
      have g14 : -2147483648 ≤ h0_.1 66 65 ∧ h0_.1 66 65 ≤ 2147483647 := i0_.1 66 65
      have g15 : -2147483648 ≤ h0_.1 66 63 ∧ h0_.1 66 63 ≤ 2147483647 := i0_.1 66 63
      have g16 : -9223372036854775808 ≤ h0_.1 66 66 ∧ h0_.1 66 66 ≤ 9223372036854775807 := i0_.1 66 66
      exfalso; omega
    | succ n ih0 =>
      intro h0_ i0_ f0_ w0_0 w0_1 hm0
      have g17 : 0 ≤ h0_.1 66 60 ∧ h0_.1 66 60 ≤ 500 := i0_.1 66 60
      have g18 : 0 ≤ h0_.1 66 59 ∧ h0_.1 66 59 ≤ 500 := i0_.1 66 59
      have g19 : 0 ≤ h0_.1 66 62 ∧ h0_.1 66 62 ≤ 500 := i0_.1 66 62
      have g20 : -2147483648 ≤ h0_.1 66 61 ∧ h0_.1 66 61 ≤ 2147483647 := i0_.1 66 61
      have g21 : -2147483648 ≤ h0_.1 66 64 ∧ h0_.1 66 64 ≤ 2147483647 := i0_.1 66 64
      have g22 : -2147483648 ≤ h0_.1 66 65 ∧ h0_.1 66 65 ≤ 2147483647 := i0_.1 66 65
      have g23 : -2147483648 ≤ h0_.1 66 63 ∧ h0_.1 66 63 ≤ 2147483647 := i0_.1 66 63
      have g24 : -9223372036854775808 ≤ h0_.1 66 66 ∧ h0_.1 66 66 ≤ 9223372036854775807 := i0_.1 66 66
      have g25 : h0_.1 66 59 = h.1 66 59 := f0_.1 66 59 (by decide)
      refine mm_aload_n C (mm_dec dk_X12_goes 0 rfl) rfl ?_
      refine mm_geti C fl_X12_359 (mm_dec dk_X12_goes 1 rfl) rfl rfl (Or.inl rfl) ?_
      refine mm_aload_n C (mm_dec dk_X12_goes 2 rfl) rfl ?_
      refine mm_geti C fl_X12_356 (mm_dec dk_X12_goes 3 rfl) rfl rfl (Or.inl rfl) ?_
      have J50 : ∀ (w50_0 : h0_.1 66 60 = mm_skp (mm_UY h) (h.1 66 59) (h.1 66 60)), mm_W x 0 0 50 [mR 66, mU] [] h0_ := by
        intro w50_0
        have g26 : 0 ≤ h0_.1 66 60 ∧ h0_.1 66 60 ≤ 500 := i0_.1 66 60
        have g27 : 0 ≤ h0_.1 66 59 ∧ h0_.1 66 59 ≤ 500 := i0_.1 66 59
        have g28 : 0 ≤ h0_.1 66 62 ∧ h0_.1 66 62 ≤ 500 := i0_.1 66 62
        have g29 : -2147483648 ≤ h0_.1 66 61 ∧ h0_.1 66 61 ≤ 2147483647 := i0_.1 66 61
        have g30 : -2147483648 ≤ h0_.1 66 64 ∧ h0_.1 66 64 ≤ 2147483647 := i0_.1 66 64
        have g31 : -2147483648 ≤ h0_.1 66 65 ∧ h0_.1 66 65 ≤ 2147483647 := i0_.1 66 65
        have g32 : -2147483648 ≤ h0_.1 66 63 ∧ h0_.1 66 63 ≤ 2147483647 := i0_.1 66 63
        have g33 : -9223372036854775808 ≤ h0_.1 66 66 ∧ h0_.1 66 66 ≤ 9223372036854775807 := i0_.1 66 66
        refine mm_aload_n C (mm_dec dk_X12_goes 24 rfl) rfl ?_
        refine mm_aload_n C (mm_dec dk_X12_goes 25 rfl) rfl ?_
        refine mm_geti C fl_X12_359 (mm_dec dk_X12_goes 26 rfl) rfl rfl (Or.inl rfl) ?_
        refine mm_puti C fl_X12_365 (mm_dec dk_X12_goes 27 rfl) rfl rfl rfl (Or.inl ⟨rfl, rfl⟩) ?_
        have i1 : mm_inv (mm_pf h0_ 66 62 (h0_.1 66 60)) := mm_inv_pf i0_ (show 0 ≤ (h0_.1 66 60) ∧ (h0_.1 66 60) ≤ 500 from ⟨by omega, by omega⟩) (by decide)
        have f1 : mm_fr [(66, 60), (66, 61), (66, 62), (66, 63), (66, 64), (66, 65), (66, 66)] [] h (mm_pf h0_ 66 62 (h0_.1 66 60)) := mm_fr_pf f0_ (by decide)
        obtain ⟨h1, eh1⟩ : ∃ z, z = mm_pf h0_ 66 62 (h0_.1 66 60) := ⟨_, rfl⟩
        rw [← eh1] at i1 f1 ⊢
        have qh1 : h1.1 66 62 = (h0_.1 66 60) := by rw [eh1]; exact mm_pf_same _ _ _ _
        have qh1_34 : h1.1 66 59 = h0_.1 66 59 := by rw [eh1]; exact mm_pf_ne _ _ (by decide)
        have qh1_35 : h1.1 66 60 = h0_.1 66 60 := by rw [eh1]; exact mm_pf_ne _ _ (by decide)
        have qh1_36 : h1.1 66 61 = h0_.1 66 61 := by rw [eh1]; exact mm_pf_ne _ _ (by decide)
        have qh1_37 : h1.1 66 63 = h0_.1 66 63 := by rw [eh1]; exact mm_pf_ne _ _ (by decide)
        have qh1_38 : h1.1 66 64 = h0_.1 66 64 := by rw [eh1]; exact mm_pf_ne _ _ (by decide)
        have qh1_39 : h1.1 66 65 = h0_.1 66 65 := by rw [eh1]; exact mm_pf_ne _ _ (by decide)
        have qh1_40 : h1.1 66 66 = h0_.1 66 66 := by rw [eh1]; exact mm_pf_ne _ _ (by decide)
        refine mm_aload_n C (mm_dec dk_X12_goes 28 rfl) rfl ?_
        refine mm_lconst (z := 0) C (mm_dec dk_X12_goes 29 rfl) rfl ?_
        refine mm_putl C fl_X12_368 (mm_dec dk_X12_goes 30 rfl) rfl rfl rfl rfl ?_
        have i2 : mm_inv (mm_pf h1 66 66 0) := mm_inv_pf i1 (show -9223372036854775808 ≤ 0 ∧ 0 ≤ 9223372036854775807 from ⟨by omega, by omega⟩) (by decide)
        have f2 : mm_fr [(66, 60), (66, 61), (66, 62), (66, 63), (66, 64), (66, 65), (66, 66)] [] h (mm_pf h1 66 66 0) := mm_fr_pf f1 (by decide)
        obtain ⟨h2, eh2⟩ : ∃ z, z = mm_pf h1 66 66 0 := ⟨_, rfl⟩
        rw [← eh2] at i2 f2 ⊢
        have qh2 : h2.1 66 66 = 0 := by rw [eh2]; exact mm_pf_same _ _ _ _
        have qh2_41 : h2.1 66 59 = h1.1 66 59 := by rw [eh2]; exact mm_pf_ne _ _ (by decide)
        have qh2_42 : h2.1 66 60 = h1.1 66 60 := by rw [eh2]; exact mm_pf_ne _ _ (by decide)
        have qh2_43 : h2.1 66 61 = h1.1 66 61 := by rw [eh2]; exact mm_pf_ne _ _ (by decide)
        have qh2_44 : h2.1 66 62 = h1.1 66 62 := by rw [eh2]; exact mm_pf_ne _ _ (by decide)
        have qh2_45 : h2.1 66 63 = h1.1 66 63 := by rw [eh2]; exact mm_pf_ne _ _ (by decide)
        have qh2_46 : h2.1 66 64 = h1.1 66 64 := by rw [eh2]; exact mm_pf_ne _ _ (by decide)
        have qh2_47 : h2.1 66 65 = h1.1 66 65 := by rw [eh2]; exact mm_pf_ne _ _ (by decide)
        refine mm_aload_n C (mm_dec dk_X12_goes 31 rfl) rfl ?_
        refine mm_iconst C (mm_dec dk_X12_goes 32 rfl) ⟨by decide, by decide⟩ ?_
        refine mm_puti C fl_X12_372 (mm_dec dk_X12_goes 33 rfl) rfl rfl rfl (Or.inl ⟨rfl, rfl⟩) ?_
        have i3 : mm_inv (mm_pf h2 66 64 0) := mm_inv_pf i2 (show -2147483648 ≤ 0 ∧ 0 ≤ 2147483647 from ⟨by omega, by omega⟩) (by decide)
        have f3 : mm_fr [(66, 60), (66, 61), (66, 62), (66, 63), (66, 64), (66, 65), (66, 66)] [] h (mm_pf h2 66 64 0) := mm_fr_pf f2 (by decide)
        obtain ⟨h3, eh3⟩ : ∃ z, z = mm_pf h2 66 64 0 := ⟨_, rfl⟩
        rw [← eh3] at i3 f3 ⊢
        have qh3 : h3.1 66 64 = 0 := by rw [eh3]; exact mm_pf_same _ _ _ _
        have qh3_48 : h3.1 66 59 = h2.1 66 59 := by rw [eh3]; exact mm_pf_ne _ _ (by decide)
        have qh3_49 : h3.1 66 60 = h2.1 66 60 := by rw [eh3]; exact mm_pf_ne _ _ (by decide)
        have qh3_50 : h3.1 66 61 = h2.1 66 61 := by rw [eh3]; exact mm_pf_ne _ _ (by decide)
        have qh3_51 : h3.1 66 62 = h2.1 66 62 := by rw [eh3]; exact mm_pf_ne _ _ (by decide)
        have qh3_52 : h3.1 66 63 = h2.1 66 63 := by rw [eh3]; exact mm_pf_ne _ _ (by decide)
        have qh3_53 : h3.1 66 65 = h2.1 66 65 := by rw [eh3]; exact mm_pf_ne _ _ (by decide)
        have qh3_54 : h3.1 66 66 = h2.1 66 66 := by rw [eh3]; exact mm_pf_ne _ _ (by decide)
        refine mm_aload_n C (mm_dec dk_X12_goes 34 rfl) rfl ?_
        refine mm_aload_n C (mm_dec dk_X12_goes 35 rfl) rfl ?_
        refine mm_geti C fl_X12_359 (mm_dec dk_X12_goes 36 rfl) rfl rfl (Or.inl rfl) ?_
        refine mm_cVi (rest := []) C1 ev_X12_362 (mm_dec dk_X12_goes 37 rfl) (c_X12_byteAt x.2.1 hl (d - 1) (by omega) h3 i3 (h3.1 66 60) ⟨by omega, by omega⟩) rfl rfl (Nat.le_of_ble_eq_true rfl) ⟨by decide, by decide⟩ rfl (fun r73 h73c hp73 => ?_) (fun _ _ q => q.elim)
        obtain ⟨z73, y73⟩ := hp73
        rw [z73]
        have g56 : -2147483648 ≤ (h3.2.1 101 (h3.1 66 60)) ∧ (h3.2.1 101 (h3.1 66 60)) ≤ 2147483647 := i3.2.1 101 (h3.1 66 60)
        refine mm_istore_nL (ls2 := [mR 66, mI r73]) C (mm_dec dk_X12_goes 38 rfl) (by decide) rfl ?_
        refine mm_aload_n C (mm_dec dk_X12_goes 39 rfl) rfl ?_
        refine mm_iload_n C (mm_dec dk_X12_goes 40 rfl) rfl ?_
        refine mm_puti C fl_X12_375 (mm_dec dk_X12_goes 41 rfl) rfl rfl rfl (Or.inl ⟨rfl, rfl⟩) ?_
        have i4 : mm_inv (mm_pf h3 66 65 r73) := mm_inv_pf i3 (show -2147483648 ≤ r73 ∧ r73 ≤ 2147483647 from ⟨by omega, by omega⟩) (by decide)
        have f4 : mm_fr [(66, 60), (66, 61), (66, 62), (66, 63), (66, 64), (66, 65), (66, 66)] [] h (mm_pf h3 66 65 r73) := mm_fr_pf f3 (by decide)
        obtain ⟨h4, eh4⟩ : ∃ z, z = mm_pf h3 66 65 r73 := ⟨_, rfl⟩
        rw [← eh4] at i4 f4 ⊢
        have qh4 : h4.1 66 65 = r73 := by rw [eh4]; exact mm_pf_same _ _ _ _
        have qh4_57 : h4.1 66 59 = h3.1 66 59 := by rw [eh4]; exact mm_pf_ne _ _ (by decide)
        have qh4_58 : h4.1 66 60 = h3.1 66 60 := by rw [eh4]; exact mm_pf_ne _ _ (by decide)
        have qh4_59 : h4.1 66 61 = h3.1 66 61 := by rw [eh4]; exact mm_pf_ne _ _ (by decide)
        have qh4_60 : h4.1 66 62 = h3.1 66 62 := by rw [eh4]; exact mm_pf_ne _ _ (by decide)
        have qh4_61 : h4.1 66 63 = h3.1 66 63 := by rw [eh4]; exact mm_pf_ne _ _ (by decide)
        have qh4_62 : h4.1 66 64 = h3.1 66 64 := by rw [eh4]; exact mm_pf_ne _ _ (by decide)
        have qh4_63 : h4.1 66 66 = h3.1 66 66 := by rw [eh4]; exact mm_pf_ne _ _ (by decide)
        have zz : h4.2.1 101 (h4.1 66 60) = h3.2.1 101 (h3.1 66 60) := by rw [eh4]; rfl
        refine mm_aload_n C (mm_dec dk_X12_goes 42 rfl) rfl ?_
        refine mm_geti C fl_X12_359 (mm_dec dk_X12_goes 43 rfl) rfl rfl (Or.inl rfl) ?_
        refine mm_aload_n C (mm_dec dk_X12_goes 44 rfl) rfl ?_
        refine mm_geti C fl_X12_356 (mm_dec dk_X12_goes 45 rfl) rfl rfl (Or.inl rfl) ?_
        have J331 : ∀ (h331_ : mH) (i331_ : mm_inv h331_) (f331_ : mm_fr [(66, 60), (66, 61), (66, 62), (66, 63), (66, 64), (66, 65), (66, 66)] [] h h331_) (w331_0 : h.1 66 60 ≤ h331_.1 66 62) (w331_1 : h331_.1 66 62 ≤ h331_.1 66 60) (w331_2 : (h331_.1 66 61 = 0 ∨ h331_.1 66 62 < h331_.1 66 60)) (w331_3 : h331_.1 66 62 = mm_skp (mm_UY h) (h.1 66 59) (h.1 66 60)) (w331_4 : mm_aY0 (mm_UY h) (h.1 66 59) h331_), mm_W x 0 0 331 [mR 66, mU] [] h331_ := by
          intro h331_ i331_ f331_ w331_0 w331_1 w331_2 w331_3 w331_4
          have g64 : 0 ≤ h331_.1 66 60 ∧ h331_.1 66 60 ≤ 500 := i331_.1 66 60
          have g65 : 0 ≤ h331_.1 66 59 ∧ h331_.1 66 59 ≤ 500 := i331_.1 66 59
          have g66 : 0 ≤ h331_.1 66 62 ∧ h331_.1 66 62 ≤ 500 := i331_.1 66 62
          have g67 : -2147483648 ≤ h331_.1 66 61 ∧ h331_.1 66 61 ≤ 2147483647 := i331_.1 66 61
          have g68 : -2147483648 ≤ h331_.1 66 64 ∧ h331_.1 66 64 ≤ 2147483647 := i331_.1 66 64
          have g69 : -2147483648 ≤ h331_.1 66 65 ∧ h331_.1 66 65 ≤ 2147483647 := i331_.1 66 65
          have g70 : -2147483648 ≤ h331_.1 66 63 ∧ h331_.1 66 63 ≤ 2147483647 := i331_.1 66 63
          have g71 : -9223372036854775808 ≤ h331_.1 66 66 ∧ h331_.1 66 66 ≤ 9223372036854775807 := i331_.1 66 66
          have g72 : h331_.1 66 59 = h.1 66 59 := f331_.1 66 59 (by decide)
          refine mm_aload_n C (mm_dec dk_X12_goes 170 rfl) rfl ?_
          refine mm_aload_n C (mm_dec dk_X12_goes 171 rfl) rfl ?_
          refine mm_geti C fl_X12_359 (mm_dec dk_X12_goes 172 rfl) rfl rfl (Or.inl rfl) ?_
          refine mm_aload_n C (mm_dec dk_X12_goes 173 rfl) rfl ?_
          refine mm_geti C fl_X12_365 (mm_dec dk_X12_goes 174 rfl) rfl rfl (Or.inl rfl) ?_
          refine mm_isub C (mm_dec dk_X12_goes 175 rfl) ⟨by omega, by omega⟩ ?_
          refine mm_puti C fl_X12_387 (mm_dec dk_X12_goes 176 rfl) rfl rfl rfl (Or.inl ⟨rfl, rfl⟩) ?_
          have i5 : mm_inv (mm_pf h331_ 66 63 ((h331_.1 66 60) - (h331_.1 66 62))) := mm_inv_pf i331_ (show -2147483648 ≤ ((h331_.1 66 60) - (h331_.1 66 62)) ∧ ((h331_.1 66 60) - (h331_.1 66 62)) ≤ 2147483647 from ⟨by omega, by omega⟩) (by decide)
          have f5 : mm_fr [(66, 60), (66, 61), (66, 62), (66, 63), (66, 64), (66, 65), (66, 66)] [] h (mm_pf h331_ 66 63 ((h331_.1 66 60) - (h331_.1 66 62))) := mm_fr_pf f331_ (by decide)
          obtain ⟨h5, eh5⟩ : ∃ z, z = mm_pf h331_ 66 63 ((h331_.1 66 60) - (h331_.1 66 62)) := ⟨_, rfl⟩
          rw [← eh5] at i5 f5 ⊢
          have qh5 : h5.1 66 63 = ((h331_.1 66 60) - (h331_.1 66 62)) := by rw [eh5]; exact mm_pf_same _ _ _ _
          have qh5_73 : h5.1 66 59 = h331_.1 66 59 := by rw [eh5]; exact mm_pf_ne _ _ (by decide)
          have qh5_74 : h5.1 66 60 = h331_.1 66 60 := by rw [eh5]; exact mm_pf_ne _ _ (by decide)
          have qh5_75 : h5.1 66 61 = h331_.1 66 61 := by rw [eh5]; exact mm_pf_ne _ _ (by decide)
          have qh5_76 : h5.1 66 62 = h331_.1 66 62 := by rw [eh5]; exact mm_pf_ne _ _ (by decide)
          have qh5_77 : h5.1 66 64 = h331_.1 66 64 := by rw [eh5]; exact mm_pf_ne _ _ (by decide)
          have qh5_78 : h5.1 66 65 = h331_.1 66 65 := by rw [eh5]; exact mm_pf_ne _ _ (by decide)
          have qh5_79 : h5.1 66 66 = h331_.1 66 66 := by rw [eh5]; exact mm_pf_ne _ _ (by decide)
          exact mm_vret C T (mm_dec dk_X12_goes 177 rfl) (by decide : 0 ≤ 0) (by decide : 0 ≤ 0) ⟨rfl, ⟨i5, f5, by omega, by omega, by omega, by exact mm_aY_of (h1 := h331_) (mm_TYy_fr f5 (by decide)) w331_4 (by omega) (by omega) (by omega) (by omega) (by omega) (by omega) (by omega), by omega⟩⟩
        refine mm_icmp_lt (tgt := 101) C (mm_dec dk_X12_goes 46 rfl) (by decide) (fun c90 => ?_) (fun c90 => ?_)
        · skip
          have zu2 : mm_UY h (h4.1 66 60) = r73 := by (have e : mm_UY h (h4.1 66 60) = h4.2.1 101 (h4.1 66 60) := (mm_tr_in (by omega) (by omega)).trans (f4.2 101 (by decide) _).symm); omega
          have zK := mm_kd_f r73
          refine mm_iload_n C (mm_dec dk_X12_goes 51 rfl) rfl ?_
          refine mm_cSi (rest := []) C1 es_X12_381 (mm_dec dk_X12_goes 52 rfl) (c_X12_isLetter x.2.1 hl (d - 1) (by omega) h4 i4 r73) rfl (Nat.le_of_ble_eq_true rfl) ⟨by decide, by decide⟩ rfl (fun r102 h102c hp102 => ?_) (fun _ _ q => q.elim)
          obtain ⟨z102, y102⟩ := hp102
          rw [z102]
          have J108 : ∀ (n : Nat) (h108_ : mH) (i108_ : mm_inv h108_) (f108_ : mm_fr [(66, 60), (66, 61), (66, 62), (66, 63), (66, 64), (66, 65), (66, 66)] [] h h108_) (w108_0 : h.1 66 60 ≤ h108_.1 66 62) (w108_1 : h108_.1 66 62 ≤ h108_.1 66 60) (w108_2 : (h108_.1 66 62 < h108_.1 66 60 ∨ (97 ≤ h108_.2.1 101 (h108_.1 66 60) ∧ h108_.2.1 101 (h108_.1 66 60) ≤ 122 ∧ h108_.1 66 60 < h108_.1 66 59))) (w108_3 : h108_.1 66 62 = mm_skp (mm_UY h) (h.1 66 59) (h.1 66 60)) (w108_4 : h108_.1 66 62 < h.1 66 59) (w108_5 : mm_kd (mm_UY h (h108_.1 66 62)) = 2) (w108_6 : mm_runw (mm_UY h) (h.1 66 59) 2 (h108_.1 66 60) = mm_runw (mm_UY h) (h.1 66 59) 2 (h108_.1 66 62 + 1)) (w108_7 : (h108_.1 66 60 - h108_.1 66 62 ≤ 9 → h108_.1 66 66 = mm_cde (fun i => mm_UY h (h108_.1 66 62 + i)) (h108_.1 66 60 - h108_.1 66 62).toNat)) (w108_8 : (∀ j, h108_.1 66 62 ≤ j → j < h108_.1 66 60 → mm_kd (mm_UY h j) = 2)) (w108_9 : h108_.1 66 62 ≤ h108_.1 66 60), (500 - h108_.1 66 60 : Int) < n → mm_W x 0 0 108 [mR 66, mU] [] h108_ := by
            intro n
            induction n with
            | zero =>
              intro h108_ i108_ f108_ w108_0 w108_1 w108_2 w108_3 w108_4 w108_5 w108_6 w108_7 w108_8 w108_9 hm
              have g81 : 0 ≤ h108_.1 66 60 ∧ h108_.1 66 60 ≤ 500 := i108_.1 66 60
              have g82 : 0 ≤ h108_.1 66 59 ∧ h108_.1 66 59 ≤ 500 := i108_.1 66 59
              have g83 : 0 ≤ h108_.1 66 62 ∧ h108_.1 66 62 ≤ 500 := i108_.1 66 62
              have g84 : -2147483648 ≤ h108_.1 66 61 ∧ h108_.1 66 61 ≤ 2147483647 := i108_.1 66 61
              have g85 : -2147483648 ≤ h108_.1 66 64 ∧ h108_.1 66 64 ≤ 2147483647 := i108_.1 66 64
              have g86 : -2147483648 ≤ h108_.1 66 65 ∧ h108_.1 66 65 ≤ 2147483647 := i108_.1 66 65
              have g87 : -2147483648 ≤ h108_.1 66 63 ∧ h108_.1 66 63 ≤ 2147483647 := i108_.1 66 63
              have g88 : -9223372036854775808 ≤ h108_.1 66 66 ∧ h108_.1 66 66 ≤ 9223372036854775807 := i108_.1 66 66
              exfalso; omega
            | succ n ih108 =>
              intro h108_ i108_ f108_ w108_0 w108_1 w108_2 w108_3 w108_4 w108_5 w108_6 w108_7 w108_8 w108_9 hm108
              have g89 : 0 ≤ h108_.1 66 60 ∧ h108_.1 66 60 ≤ 500 := i108_.1 66 60
              have g90 : 0 ≤ h108_.1 66 59 ∧ h108_.1 66 59 ≤ 500 := i108_.1 66 59
              have g91 : 0 ≤ h108_.1 66 62 ∧ h108_.1 66 62 ≤ 500 := i108_.1 66 62
              have g92 : -2147483648 ≤ h108_.1 66 61 ∧ h108_.1 66 61 ≤ 2147483647 := i108_.1 66 61
              have g93 : -2147483648 ≤ h108_.1 66 64 ∧ h108_.1 66 64 ≤ 2147483647 := i108_.1 66 64
              have g94 : -2147483648 ≤ h108_.1 66 65 ∧ h108_.1 66 65 ≤ 2147483647 := i108_.1 66 65
              have g95 : -2147483648 ≤ h108_.1 66 63 ∧ h108_.1 66 63 ≤ 2147483647 := i108_.1 66 63
              have g96 : -9223372036854775808 ≤ h108_.1 66 66 ∧ h108_.1 66 66 ≤ 9223372036854775807 := i108_.1 66 66
              have g97 : h108_.1 66 59 = h.1 66 59 := f108_.1 66 59 (by decide)
              have zv : h108_.1 66 60 < h.1 66 59 → mm_UY h (h108_.1 66 60) = h108_.2.1 101 (h108_.1 66 60) := fun q => (mm_tr_in (by omega) (by omega)).trans (f108_.2 101 (by decide) _).symm
              refine mm_aload_n C (mm_dec dk_X12_goes 54 rfl) rfl ?_
              refine mm_aload_n C (mm_dec dk_X12_goes 55 rfl) rfl ?_
              refine mm_geti C fl_X12_359 (mm_dec dk_X12_goes 56 rfl) rfl rfl (Or.inl rfl) ?_
              refine mm_cVi (rest := []) C1 ev_X12_362 (mm_dec dk_X12_goes 57 rfl) (c_X12_byteAt x.2.1 hl (d - 1) (by omega) h108_ i108_ (h108_.1 66 60) ⟨by omega, by omega⟩) rfl rfl (Nat.le_of_ble_eq_true rfl) ⟨by decide, by decide⟩ rfl (fun r113 h113c hp113 => ?_) (fun _ _ q => q.elim)
              obtain ⟨z113, y113⟩ := hp113
              rw [z113]
              have g99 : -2147483648 ≤ (h108_.2.1 101 (h108_.1 66 60)) ∧ (h108_.2.1 101 (h108_.1 66 60)) ≤ 2147483647 := i108_.2.1 101 (h108_.1 66 60)
              refine mm_cSi (rest := []) C1 es_X12_381 (mm_dec dk_X12_goes 58 rfl) (c_X12_isLetter x.2.1 hl (d - 1) (by omega) h108_ i108_ r113) rfl (Nat.le_of_ble_eq_true rfl) ⟨by decide, by decide⟩ rfl (fun r116 h116c hp116 => ?_) (fun _ _ q => q.elim)
              obtain ⟨z116, y116⟩ := hp116
              rw [z116]
              refine mm_if_eq (tgt := 172) C (mm_dec dk_X12_goes 59 rfl) (by decide) (fun c119 => ?_) (fun c119 => ?_)
              · skip
                refine mm_aload_n C (mm_dec dk_X12_goes 88 rfl) rfl ?_
                refine mm_iconst C (mm_dec dk_X12_goes 89 rfl) ⟨by decide, by decide⟩ ?_
                refine mm_puti C fl_X12_378 (mm_dec dk_X12_goes 90 rfl) rfl rfl rfl (Or.inl ⟨rfl, rfl⟩) ?_
                have i6 : mm_inv (mm_pf h108_ 66 61 1) := mm_inv_pf i108_ (show -2147483648 ≤ 1 ∧ 1 ≤ 2147483647 from ⟨by omega, by omega⟩) (by decide)
                have f6 : mm_fr [(66, 60), (66, 61), (66, 62), (66, 63), (66, 64), (66, 65), (66, 66)] [] h (mm_pf h108_ 66 61 1) := mm_fr_pf f108_ (by decide)
                obtain ⟨h6, eh6⟩ : ∃ z, z = mm_pf h108_ 66 61 1 := ⟨_, rfl⟩
                rw [← eh6] at i6 f6 ⊢
                have qh6 : h6.1 66 61 = 1 := by rw [eh6]; exact mm_pf_same _ _ _ _
                have qh6_101 : h6.1 66 59 = h108_.1 66 59 := by rw [eh6]; exact mm_pf_ne _ _ (by decide)
                have qh6_102 : h6.1 66 60 = h108_.1 66 60 := by rw [eh6]; exact mm_pf_ne _ _ (by decide)
                have qh6_103 : h6.1 66 62 = h108_.1 66 62 := by rw [eh6]; exact mm_pf_ne _ _ (by decide)
                have qh6_104 : h6.1 66 63 = h108_.1 66 63 := by rw [eh6]; exact mm_pf_ne _ _ (by decide)
                have qh6_105 : h6.1 66 64 = h108_.1 66 64 := by rw [eh6]; exact mm_pf_ne _ _ (by decide)
                have qh6_106 : h6.1 66 65 = h108_.1 66 65 := by rw [eh6]; exact mm_pf_ne _ _ (by decide)
                have qh6_107 : h6.1 66 66 = h108_.1 66 66 := by rw [eh6]; exact mm_pf_ne _ _ (by decide)
                refine mm_goto (tgt := 331) C (mm_dec dk_X12_goes 91 rfl) (by decide) ?_
                exact J331 h6 i6 f6 (by omega) (by omega) (by omega) (by omega) (by first | exact mm_aY0_end (by omega) (by omega) (by omega) | exact mm_aY0_let (by omega) (by rw [show h6.1 66 62 = h108_.1 66 62 by omega]; exact w108_5) (by omega) (by rw [show h6.1 66 60 = h108_.1 66 60 by omega, show h6.1 66 62 = h108_.1 66 62 by omega]; exact w108_6) (by rw [show h6.1 66 60 = h108_.1 66 60 by omega]; by_cases q : h.1 66 59 ≤ h108_.1 66 60; exact Or.inl q; exact Or.inr (by have e := zv (by omega); have e2 := mm_kd_f (mm_UY h (h108_.1 66 60)); omega)) (by rw [show h6.1 66 60 = h108_.1 66 60 by omega, show h6.1 66 62 = h108_.1 66 62 by omega, show h6.1 66 66 = h108_.1 66 66 by omega]; exact w108_7) | exact mm_aY0_dig (by omega) (by rw [show h6.1 66 62 = h187_.1 66 62 by omega]; exact w187_5) (by omega) (by rw [show h6.1 66 60 = h187_.1 66 60 by omega, show h6.1 66 62 = h187_.1 66 62 by omega]; exact w187_6) (by rw [show h6.1 66 60 = h187_.1 66 60 by omega]; by_cases q : h.1 66 59 ≤ h187_.1 66 60; exact Or.inl q; exact Or.inr (by have e := zv (by omega); have e2 := mm_kd_f (mm_UY h (h187_.1 66 60)); omega)) (by rw [show h6.1 66 60 = h187_.1 66 60 by omega, show h6.1 66 62 = h187_.1 66 62 by omega, show h6.1 66 64 = h187_.1 66 64 by omega]; exact w187_7) | exact mm_aY0_sgn (by omega) (by rw [show h6.1 66 62 = h6.1 66 60 - 1 by omega]; rw [show h6.1 66 60 - 1 = h4.1 66 60 by omega, zu2]; omega) (by omega) (by rw [show h6.1 66 62 = h4.1 66 60 by omega, zu2]; omega))
              · skip
                have zr : mm_UY h (h108_.1 66 60) = r113 := by (have e := zv (by omega)); omega
                have zy : mm_kd (mm_UY h (h108_.1 66 60)) = 2 := by rw [zr]; exact if_pos (by omega)
                refine mm_aload_n C (mm_dec dk_X12_goes 60 rfl) rfl ?_
                refine mm_geti C fl_X12_359 (mm_dec dk_X12_goes 61 rfl) rfl rfl (Or.inl rfl) ?_
                refine mm_aload_n C (mm_dec dk_X12_goes 62 rfl) rfl ?_
                refine mm_geti C fl_X12_365 (mm_dec dk_X12_goes 63 rfl) rfl rfl (Or.inl rfl) ?_
                refine mm_isub C (mm_dec dk_X12_goes 64 rfl) ⟨by omega, by omega⟩ ?_
                refine mm_bipush C (mm_dec dk_X12_goes 65 rfl) ⟨by decide, by decide⟩ ?_
                have J159 : ∀ (h159_ : mH) (i159_ : mm_inv h159_) (f159_ : mm_fr [(66, 60), (66, 61), (66, 62), (66, 63), (66, 64), (66, 65), (66, 66)] [] h h159_) (w159_0 : h159_.1 66 60 = h108_.1 66 60) (w159_1 : h.1 66 60 ≤ h159_.1 66 62) (w159_2 : h159_.1 66 62 ≤ h159_.1 66 60) (w159_3 : h159_.1 66 60 < h159_.1 66 59) (w159_4 : h159_.1 66 62 = mm_skp (mm_UY h) (h.1 66 59) (h.1 66 60)) (w159_5 : h159_.1 66 62 < h.1 66 59) (w159_6 : mm_kd (mm_UY h (h159_.1 66 62)) = 2) (w159_7 : h159_.1 66 62 = h108_.1 66 62) (w159_8 : ((h108_.1 66 60 + 1) - h159_.1 66 62 ≤ 9 → h159_.1 66 66 = mm_cde (fun i => mm_UY h (h159_.1 66 62 + i)) ((h108_.1 66 60 + 1) - h159_.1 66 62).toNat)), mm_W x 0 0 159 [mR 66, mU] [] h159_ := by
                  intro h159_ i159_ f159_ w159_0 w159_1 w159_2 w159_3 w159_4 w159_5 w159_6 w159_7 w159_8
                  have g108 : 0 ≤ h159_.1 66 60 ∧ h159_.1 66 60 ≤ 500 := i159_.1 66 60
                  have g109 : 0 ≤ h159_.1 66 59 ∧ h159_.1 66 59 ≤ 500 := i159_.1 66 59
                  have g110 : 0 ≤ h159_.1 66 62 ∧ h159_.1 66 62 ≤ 500 := i159_.1 66 62
                  have g111 : -2147483648 ≤ h159_.1 66 61 ∧ h159_.1 66 61 ≤ 2147483647 := i159_.1 66 61
                  have g112 : -2147483648 ≤ h159_.1 66 64 ∧ h159_.1 66 64 ≤ 2147483647 := i159_.1 66 64
                  have g113 : -2147483648 ≤ h159_.1 66 65 ∧ h159_.1 66 65 ≤ 2147483647 := i159_.1 66 65
                  have g114 : -2147483648 ≤ h159_.1 66 63 ∧ h159_.1 66 63 ≤ 2147483647 := i159_.1 66 63
                  have g115 : -9223372036854775808 ≤ h159_.1 66 66 ∧ h159_.1 66 66 ≤ 9223372036854775807 := i159_.1 66 66
                  have g116 : h159_.1 66 59 = h.1 66 59 := f159_.1 66 59 (by decide)
                  refine mm_aload_n C (mm_dec dk_X12_goes 81 rfl) rfl ?_
                  refine mm_dup C (mm_dec dk_X12_goes 82 rfl) (show (2 : Nat) ≠ 1 by decide) ?_
                  refine mm_geti C fl_X12_359 (mm_dec dk_X12_goes 83 rfl) rfl rfl (Or.inl rfl) ?_
                  refine mm_iconst C (mm_dec dk_X12_goes 84 rfl) ⟨by decide, by decide⟩ ?_
                  refine mm_iadd C (mm_dec dk_X12_goes 85 rfl) ⟨by omega, by omega⟩ ?_
                  refine mm_puti C fl_X12_359 (mm_dec dk_X12_goes 86 rfl) rfl rfl rfl (Or.inl ⟨rfl, rfl⟩) ?_
                  have i7 : mm_inv (mm_pf h159_ 66 60 ((h159_.1 66 60) + 1)) := mm_inv_pf i159_ (show 0 ≤ ((h159_.1 66 60) + 1) ∧ ((h159_.1 66 60) + 1) ≤ 500 from ⟨by omega, by omega⟩) (by decide)
                  have f7 : mm_fr [(66, 60), (66, 61), (66, 62), (66, 63), (66, 64), (66, 65), (66, 66)] [] h (mm_pf h159_ 66 60 ((h159_.1 66 60) + 1)) := mm_fr_pf f159_ (by decide)
                  obtain ⟨h7, eh7⟩ : ∃ z, z = mm_pf h159_ 66 60 ((h159_.1 66 60) + 1) := ⟨_, rfl⟩
                  rw [← eh7] at i7 f7 ⊢
                  have qh7 : h7.1 66 60 = ((h159_.1 66 60) + 1) := by rw [eh7]; exact mm_pf_same _ _ _ _
                  have qh7_117 : h7.1 66 59 = h159_.1 66 59 := by rw [eh7]; exact mm_pf_ne _ _ (by decide)
                  have qh7_118 : h7.1 66 61 = h159_.1 66 61 := by rw [eh7]; exact mm_pf_ne _ _ (by decide)
                  have qh7_119 : h7.1 66 62 = h159_.1 66 62 := by rw [eh7]; exact mm_pf_ne _ _ (by decide)
                  have qh7_120 : h7.1 66 63 = h159_.1 66 63 := by rw [eh7]; exact mm_pf_ne _ _ (by decide)
                  have qh7_121 : h7.1 66 64 = h159_.1 66 64 := by rw [eh7]; exact mm_pf_ne _ _ (by decide)
                  have qh7_122 : h7.1 66 65 = h159_.1 66 65 := by rw [eh7]; exact mm_pf_ne _ _ (by decide)
                  have qh7_123 : h7.1 66 66 = h159_.1 66 66 := by rw [eh7]; exact mm_pf_ne _ _ (by decide)
                  refine mm_goto (tgt := 108) C (mm_dec dk_X12_goes 87 rfl) (by decide) ?_
                  exact ih108 h7 i7 f7 (by omega) (by omega) (by omega) (by omega) (by omega) (by first | (rw [show h7.1 66 62 = h108_.1 66 62 by omega]; exact w108_5) | (rw [show h7.1 66 62 = h7.1 66 60 by omega, zu2]; exact if_pos (by omega))) (by first | (rw [show h7.1 66 60 = h108_.1 66 60 + 1 by omega, show h7.1 66 62 = h108_.1 66 62 by omega]; exact (mm_runw_s (by omega) zy).symm.trans w108_6) | (rw [show h7.1 66 62 = h7.1 66 60 by omega]; exact mm_runw_s (by omega) (by rw [zu2]; exact if_pos (by omega)))) (by first | (rw [show h7.1 66 60 = h108_.1 66 60 + 1 by omega, show h7.1 66 66 = h159_.1 66 66 by omega, show h7.1 66 62 = h159_.1 66 62 by omega]; exact w159_8) | exact fun _ => (by rw [show (h7.1 66 60 - h7.1 66 62).toNat = 0 by omega]; show _ = (0 : Int); omega)) (by first | exact fun j a b => (by by_cases e : j = h108_.1 66 60; (rw [e]; exact zy); exact w108_8 j (by omega) (by omega)) | exact fun j a b => absurd b (by omega)) (by omega) (by omega)
                refine mm_icmp_ge (tgt := 159) C (mm_dec dk_X12_goes 66 rfl) (by decide) (fun c133 => ?_) (fun c133 => ?_)
                · skip
                  exact J159 h108_ i108_ f108_ (by omega) (by omega) (by omega) (by omega) (by omega) (by omega) (by (rw [show h108_.1 66 62 = h108_.1 66 62 by omega]; exact w108_5)) (by omega) (by first | exact fun q => absurd q (by omega) | exact fun q => (by rw [show h108_.1 66 62 = h108_.1 66 62 by omega]; exact mm_cde_s (by omega) (w108_7 (by omega)) (by rw [zr]; omega)))
                · skip
                  refine mm_aload_n C (mm_dec dk_X12_goes 67 rfl) rfl ?_
                  refine mm_aload_n C (mm_dec dk_X12_goes 68 rfl) rfl ?_
                  refine mm_getl C fl_X12_368 (mm_dec dk_X12_goes 69 rfl) rfl rfl ?_
                  refine mm_iconst C (mm_dec dk_X12_goes 70 rfl) ⟨by decide, by decide⟩ ?_
                  refine mm_lshl C (mm_dec dk_X12_goes 71 rfl) ?_
                  have g124 : -9223372036854775808 ≤ (mm_vlshl (h108_.1 66 66) 5) ∧ (mm_vlshl (h108_.1 66 66) 5) < 9223372036854775808 := mm_rng64 _
                  obtain ⟨y124, ey124⟩ : ∃ z, z = (mm_vlshl (h108_.1 66 66) 5) := ⟨_, rfl⟩
                  rw [← ey124] at g124 ⊢
                  skip
                  refine mm_aload_n C (mm_dec dk_X12_goes 72 rfl) rfl ?_
                  refine mm_aload_n C (mm_dec dk_X12_goes 73 rfl) rfl ?_
                  refine mm_geti C fl_X12_359 (mm_dec dk_X12_goes 74 rfl) rfl rfl (Or.inl rfl) ?_
                  refine mm_cVi (rest := [mL y124, mR 66]) C1 ev_X12_362 (mm_dec dk_X12_goes 75 rfl) (c_X12_byteAt x.2.1 hl (d - 1) (by omega) h108_ i108_ (h108_.1 66 60) ⟨by omega, by omega⟩) rfl rfl (Nat.le_of_ble_eq_true rfl) ⟨by decide, by decide⟩ rfl (fun r148 h148c hp148 => ?_) (fun _ _ q => q.elim)
                  obtain ⟨z148, y148⟩ := hp148
                  rw [z148]
                  refine mm_bipush C (mm_dec dk_X12_goes 76 rfl) ⟨by decide, by decide⟩ ?_
                  refine mm_isubw C (mm_dec dk_X12_goes 77 rfl) ?_
                  have g126 : -2147483648 ≤ (mm_w (r148 - 96)) ∧ (mm_w (r148 - 96)) < 2147483648 := mm_w_rg _
                  refine mm_i2l C (mm_dec dk_X12_goes 78 rfl) ?_
                  refine mm_lor C (mm_dec dk_X12_goes 79 rfl) ?_
                  have g127 : -9223372036854775808 ≤ (mm_vlor y124 (mm_w (r148 - 96))) ∧ (mm_vlor y124 (mm_w (r148 - 96))) < 9223372036854775808 := mm_rng64 _
                  obtain ⟨y127, ey127⟩ : ∃ z, z = (mm_vlor y124 (mm_w (r148 - 96))) := ⟨_, rfl⟩
                  rw [← ey127] at g127 ⊢
                  skip
                  have zwb := mm_cde_b (p := h108_.1 66 60) (a := h108_.1 66 62) (by omega) (by omega) w108_8 (w108_7 (by omega))
                  have zm : mm_w (r148 - 96) = r148 - 96 := mm_w_id ⟨by omega, by omega⟩
                  have zw : y127 = 32 * h108_.1 66 66 + mm_w (r148 - 96) := mm_lor5 (d := mm_w (r148 - 96)) zwb (by omega) (by assumption) (by assumption)
                  refine mm_putl C fl_X12_368 (mm_dec dk_X12_goes 80 rfl) rfl rfl rfl rfl ?_
                  have i8 : mm_inv (mm_pf h108_ 66 66 y127) := mm_inv_pf i108_ (show -9223372036854775808 ≤ y127 ∧ y127 ≤ 9223372036854775807 from ⟨by omega, by omega⟩) (by decide)
                  have f8 : mm_fr [(66, 60), (66, 61), (66, 62), (66, 63), (66, 64), (66, 65), (66, 66)] [] h (mm_pf h108_ 66 66 y127) := mm_fr_pf f108_ (by decide)
                  obtain ⟨h8, eh8⟩ : ∃ z, z = mm_pf h108_ 66 66 y127 := ⟨_, rfl⟩
                  rw [← eh8] at i8 f8 ⊢
                  have qh8 : h8.1 66 66 = y127 := by rw [eh8]; exact mm_pf_same _ _ _ _
                  have qh8_128 : h8.1 66 59 = h108_.1 66 59 := by rw [eh8]; exact mm_pf_ne _ _ (by decide)
                  have qh8_129 : h8.1 66 60 = h108_.1 66 60 := by rw [eh8]; exact mm_pf_ne _ _ (by decide)
                  have qh8_130 : h8.1 66 61 = h108_.1 66 61 := by rw [eh8]; exact mm_pf_ne _ _ (by decide)
                  have qh8_131 : h8.1 66 62 = h108_.1 66 62 := by rw [eh8]; exact mm_pf_ne _ _ (by decide)
                  have qh8_132 : h8.1 66 63 = h108_.1 66 63 := by rw [eh8]; exact mm_pf_ne _ _ (by decide)
                  have qh8_133 : h8.1 66 64 = h108_.1 66 64 := by rw [eh8]; exact mm_pf_ne _ _ (by decide)
                  have qh8_134 : h8.1 66 65 = h108_.1 66 65 := by rw [eh8]; exact mm_pf_ne _ _ (by decide)
                  exact J159 h8 i8 f8 (by omega) (by omega) (by omega) (by omega) (by omega) (by omega) (by (rw [show h8.1 66 62 = h108_.1 66 62 by omega]; exact w108_5)) (by omega) (by first | exact fun q => absurd q (by omega) | exact fun q => (by rw [show h8.1 66 62 = h108_.1 66 62 by omega]; exact mm_cde_s (by omega) (w108_7 (by omega)) (by rw [zr]; omega)))
          refine mm_if_eq (tgt := 180) C (mm_dec dk_X12_goes 53 rfl) (by decide) (fun c105 => ?_) (fun c105 => ?_)
          · skip
            have zk0 := zK
            refine mm_iload_n C (mm_dec dk_X12_goes 92 rfl) rfl ?_
            refine mm_cSi (rest := []) C1 es_X12_384 (mm_dec dk_X12_goes 93 rfl) (c_X12_isDigit x.2.1 hl (d - 1) (by omega) h4 i4 r73) rfl (Nat.le_of_ble_eq_true rfl) ⟨by decide, by decide⟩ rfl (fun r181 h181c hp181 => ?_) (fun _ _ q => q.elim)
            obtain ⟨z181, y181⟩ := hp181
            rw [z181]
            have J187 : ∀ (n : Nat) (h187_ : mH) (i187_ : mm_inv h187_) (f187_ : mm_fr [(66, 60), (66, 61), (66, 62), (66, 63), (66, 64), (66, 65), (66, 66)] [] h h187_) (w187_0 : h.1 66 60 ≤ h187_.1 66 62) (w187_1 : h187_.1 66 62 ≤ h187_.1 66 60) (w187_2 : (h187_.1 66 62 < h187_.1 66 60 ∨ (48 ≤ h187_.2.1 101 (h187_.1 66 60) ∧ h187_.2.1 101 (h187_.1 66 60) ≤ 57 ∧ h187_.1 66 60 < h187_.1 66 59))) (w187_3 : h187_.1 66 62 = mm_skp (mm_UY h) (h.1 66 59) (h.1 66 60)) (w187_4 : h187_.1 66 62 < h.1 66 59) (w187_5 : mm_kd (mm_UY h (h187_.1 66 62)) = 3) (w187_6 : mm_runw (mm_UY h) (h.1 66 59) 3 (h187_.1 66 60) = mm_runw (mm_UY h) (h.1 66 59) 3 (h187_.1 66 62 + 1)) (w187_7 : (h187_.1 66 60 - h187_.1 66 62 ≤ 5 → h187_.1 66 64 = mm_nv (mm_UY h) (h187_.1 66 62) (h187_.1 66 60 - h187_.1 66 62).toNat)) (w187_8 : (h187_.1 66 60 = h187_.1 66 62 ∧ h187_.1 66 64 = 0) ∨ (h187_.1 66 60 = h187_.1 66 62 + 1 ∧ 0 ≤ h187_.1 66 64 ∧ h187_.1 66 64 ≤ 9) ∨ (h187_.1 66 60 = h187_.1 66 62 + 2 ∧ 0 ≤ h187_.1 66 64 ∧ h187_.1 66 64 ≤ 99) ∨ (h187_.1 66 60 = h187_.1 66 62 + 3 ∧ 0 ≤ h187_.1 66 64 ∧ h187_.1 66 64 ≤ 999) ∨ (h187_.1 66 60 = h187_.1 66 62 + 4 ∧ 0 ≤ h187_.1 66 64 ∧ h187_.1 66 64 ≤ 9999) ∨ (h187_.1 66 62 + 5 ≤ h187_.1 66 60)), (500 - h187_.1 66 60 : Int) < n → mm_W x 0 0 187 [mR 66, mU] [] h187_ := by
              intro n
              induction n with
              | zero =>
                intro h187_ i187_ f187_ w187_0 w187_1 w187_2 w187_3 w187_4 w187_5 w187_6 w187_7 w187_8 hm
                have g136 : 0 ≤ h187_.1 66 60 ∧ h187_.1 66 60 ≤ 500 := i187_.1 66 60
                have g137 : 0 ≤ h187_.1 66 59 ∧ h187_.1 66 59 ≤ 500 := i187_.1 66 59
                have g138 : 0 ≤ h187_.1 66 62 ∧ h187_.1 66 62 ≤ 500 := i187_.1 66 62
                have g139 : -2147483648 ≤ h187_.1 66 61 ∧ h187_.1 66 61 ≤ 2147483647 := i187_.1 66 61
                have g140 : -2147483648 ≤ h187_.1 66 64 ∧ h187_.1 66 64 ≤ 2147483647 := i187_.1 66 64
                have g141 : -2147483648 ≤ h187_.1 66 65 ∧ h187_.1 66 65 ≤ 2147483647 := i187_.1 66 65
                have g142 : -2147483648 ≤ h187_.1 66 63 ∧ h187_.1 66 63 ≤ 2147483647 := i187_.1 66 63
                have g143 : -9223372036854775808 ≤ h187_.1 66 66 ∧ h187_.1 66 66 ≤ 9223372036854775807 := i187_.1 66 66
                exfalso; omega
              | succ n ih187 =>
                intro h187_ i187_ f187_ w187_0 w187_1 w187_2 w187_3 w187_4 w187_5 w187_6 w187_7 w187_8 hm187
                have g144 : 0 ≤ h187_.1 66 60 ∧ h187_.1 66 60 ≤ 500 := i187_.1 66 60
                have g145 : 0 ≤ h187_.1 66 59 ∧ h187_.1 66 59 ≤ 500 := i187_.1 66 59
                have g146 : 0 ≤ h187_.1 66 62 ∧ h187_.1 66 62 ≤ 500 := i187_.1 66 62
                have g147 : -2147483648 ≤ h187_.1 66 61 ∧ h187_.1 66 61 ≤ 2147483647 := i187_.1 66 61
                have g148 : -2147483648 ≤ h187_.1 66 64 ∧ h187_.1 66 64 ≤ 2147483647 := i187_.1 66 64
                have g149 : -2147483648 ≤ h187_.1 66 65 ∧ h187_.1 66 65 ≤ 2147483647 := i187_.1 66 65
                have g150 : -2147483648 ≤ h187_.1 66 63 ∧ h187_.1 66 63 ≤ 2147483647 := i187_.1 66 63
                have g151 : -9223372036854775808 ≤ h187_.1 66 66 ∧ h187_.1 66 66 ≤ 9223372036854775807 := i187_.1 66 66
                have g152 : h187_.1 66 59 = h.1 66 59 := f187_.1 66 59 (by decide)
                have zv : h187_.1 66 60 < h.1 66 59 → mm_UY h (h187_.1 66 60) = h187_.2.1 101 (h187_.1 66 60) := fun q => (mm_tr_in (by omega) (by omega)).trans (f187_.2 101 (by decide) _).symm
                refine mm_aload_n C (mm_dec dk_X12_goes 95 rfl) rfl ?_
                refine mm_aload_n C (mm_dec dk_X12_goes 96 rfl) rfl ?_
                refine mm_geti C fl_X12_359 (mm_dec dk_X12_goes 97 rfl) rfl rfl (Or.inl rfl) ?_
                refine mm_cVi (rest := []) C1 ev_X12_362 (mm_dec dk_X12_goes 98 rfl) (c_X12_byteAt x.2.1 hl (d - 1) (by omega) h187_ i187_ (h187_.1 66 60) ⟨by omega, by omega⟩) rfl rfl (Nat.le_of_ble_eq_true rfl) ⟨by decide, by decide⟩ rfl (fun r192 h192c hp192 => ?_) (fun _ _ q => q.elim)
                obtain ⟨z192, y192⟩ := hp192
                rw [z192]
                have g154 : -2147483648 ≤ (h187_.2.1 101 (h187_.1 66 60)) ∧ (h187_.2.1 101 (h187_.1 66 60)) ≤ 2147483647 := i187_.2.1 101 (h187_.1 66 60)
                refine mm_cSi (rest := []) C1 es_X12_384 (mm_dec dk_X12_goes 99 rfl) (c_X12_isDigit x.2.1 hl (d - 1) (by omega) h187_ i187_ r192) rfl (Nat.le_of_ble_eq_true rfl) ⟨by decide, by decide⟩ rfl (fun r195 h195c hp195 => ?_) (fun _ _ q => q.elim)
                obtain ⟨z195, y195⟩ := hp195
                rw [z195]
                refine mm_if_eq (tgt := 250) C (mm_dec dk_X12_goes 100 rfl) (by decide) (fun c198 => ?_) (fun c198 => ?_)
                · skip
                  refine mm_aload_n C (mm_dec dk_X12_goes 128 rfl) rfl ?_
                  refine mm_iconst C (mm_dec dk_X12_goes 129 rfl) ⟨by decide, by decide⟩ ?_
                  refine mm_puti C fl_X12_378 (mm_dec dk_X12_goes 130 rfl) rfl rfl rfl (Or.inl ⟨rfl, rfl⟩) ?_
                  have i9 : mm_inv (mm_pf h187_ 66 61 2) := mm_inv_pf i187_ (show -2147483648 ≤ 2 ∧ 2 ≤ 2147483647 from ⟨by omega, by omega⟩) (by decide)
                  have f9 : mm_fr [(66, 60), (66, 61), (66, 62), (66, 63), (66, 64), (66, 65), (66, 66)] [] h (mm_pf h187_ 66 61 2) := mm_fr_pf f187_ (by decide)
                  obtain ⟨h9, eh9⟩ : ∃ z, z = mm_pf h187_ 66 61 2 := ⟨_, rfl⟩
                  rw [← eh9] at i9 f9 ⊢
                  have qh9 : h9.1 66 61 = 2 := by rw [eh9]; exact mm_pf_same _ _ _ _
                  have qh9_156 : h9.1 66 59 = h187_.1 66 59 := by rw [eh9]; exact mm_pf_ne _ _ (by decide)
                  have qh9_157 : h9.1 66 60 = h187_.1 66 60 := by rw [eh9]; exact mm_pf_ne _ _ (by decide)
                  have qh9_158 : h9.1 66 62 = h187_.1 66 62 := by rw [eh9]; exact mm_pf_ne _ _ (by decide)
                  have qh9_159 : h9.1 66 63 = h187_.1 66 63 := by rw [eh9]; exact mm_pf_ne _ _ (by decide)
                  have qh9_160 : h9.1 66 64 = h187_.1 66 64 := by rw [eh9]; exact mm_pf_ne _ _ (by decide)
                  have qh9_161 : h9.1 66 65 = h187_.1 66 65 := by rw [eh9]; exact mm_pf_ne _ _ (by decide)
                  have qh9_162 : h9.1 66 66 = h187_.1 66 66 := by rw [eh9]; exact mm_pf_ne _ _ (by decide)
                  refine mm_goto (tgt := 331) C (mm_dec dk_X12_goes 131 rfl) (by decide) ?_
                  exact J331 h9 i9 f9 (by omega) (by omega) (by omega) (by omega) (by first | exact mm_aY0_end (by omega) (by omega) (by omega) | exact mm_aY0_let (by omega) (by rw [show h9.1 66 62 = h108_.1 66 62 by omega]; exact w108_5) (by omega) (by rw [show h9.1 66 60 = h108_.1 66 60 by omega, show h9.1 66 62 = h108_.1 66 62 by omega]; exact w108_6) (by rw [show h9.1 66 60 = h108_.1 66 60 by omega]; by_cases q : h.1 66 59 ≤ h108_.1 66 60; exact Or.inl q; exact Or.inr (by have e := zv (by omega); have e2 := mm_kd_f (mm_UY h (h108_.1 66 60)); omega)) (by rw [show h9.1 66 60 = h108_.1 66 60 by omega, show h9.1 66 62 = h108_.1 66 62 by omega, show h9.1 66 66 = h108_.1 66 66 by omega]; exact w108_7) | exact mm_aY0_dig (by omega) (by rw [show h9.1 66 62 = h187_.1 66 62 by omega]; exact w187_5) (by omega) (by rw [show h9.1 66 60 = h187_.1 66 60 by omega, show h9.1 66 62 = h187_.1 66 62 by omega]; exact w187_6) (by rw [show h9.1 66 60 = h187_.1 66 60 by omega]; by_cases q : h.1 66 59 ≤ h187_.1 66 60; exact Or.inl q; exact Or.inr (by have e := zv (by omega); have e2 := mm_kd_f (mm_UY h (h187_.1 66 60)); omega)) (by rw [show h9.1 66 60 = h187_.1 66 60 by omega, show h9.1 66 62 = h187_.1 66 62 by omega, show h9.1 66 64 = h187_.1 66 64 by omega]; exact w187_7) | exact mm_aY0_sgn (by omega) (by rw [show h9.1 66 62 = h9.1 66 60 - 1 by omega]; rw [show h9.1 66 60 - 1 = h4.1 66 60 by omega, zu2]; omega) (by omega) (by rw [show h9.1 66 62 = h4.1 66 60 by omega, zu2]; omega))
                · skip
                  have zr : mm_UY h (h187_.1 66 60) = r192 := by (have e := zv (by omega)); omega
                  have zy : mm_kd (mm_UY h (h187_.1 66 60)) = 3 := by rw [zr]; unfold mm_kd; rw [if_neg (by omega), if_pos (by omega)]
                  refine mm_aload_n C (mm_dec dk_X12_goes 101 rfl) rfl ?_
                  refine mm_geti C fl_X12_359 (mm_dec dk_X12_goes 102 rfl) rfl rfl (Or.inl rfl) ?_
                  refine mm_aload_n C (mm_dec dk_X12_goes 103 rfl) rfl ?_
                  refine mm_geti C fl_X12_365 (mm_dec dk_X12_goes 104 rfl) rfl rfl (Or.inl rfl) ?_
                  refine mm_isub C (mm_dec dk_X12_goes 105 rfl) ⟨by omega, by omega⟩ ?_
                  refine mm_iconst C (mm_dec dk_X12_goes 106 rfl) ⟨by decide, by decide⟩ ?_
                  have J237 : ∀ (h237_ : mH) (i237_ : mm_inv h237_) (f237_ : mm_fr [(66, 60), (66, 61), (66, 62), (66, 63), (66, 64), (66, 65), (66, 66)] [] h h237_) (w237_0 : h237_.1 66 60 = h187_.1 66 60) (w237_1 : h.1 66 60 ≤ h237_.1 66 62) (w237_2 : h237_.1 66 62 ≤ h237_.1 66 60) (w237_3 : h237_.1 66 60 < h237_.1 66 59) (w237_4 : h237_.1 66 62 = mm_skp (mm_UY h) (h.1 66 59) (h.1 66 60)) (w237_5 : h237_.1 66 62 < h.1 66 59) (w237_6 : mm_kd (mm_UY h (h237_.1 66 62)) = 3) (w237_7 : h237_.1 66 62 = h187_.1 66 62) (w237_8 : ((h187_.1 66 60 + 1) - h237_.1 66 62 ≤ 5 → h237_.1 66 64 = mm_nv (mm_UY h) (h237_.1 66 62) ((h187_.1 66 60 + 1) - h237_.1 66 62).toNat)) (w237_9 : ((h187_.1 66 60 + 1) = h237_.1 66 62 ∧ h237_.1 66 64 = 0) ∨ ((h187_.1 66 60 + 1) = h237_.1 66 62 + 1 ∧ 0 ≤ h237_.1 66 64 ∧ h237_.1 66 64 ≤ 9) ∨ ((h187_.1 66 60 + 1) = h237_.1 66 62 + 2 ∧ 0 ≤ h237_.1 66 64 ∧ h237_.1 66 64 ≤ 99) ∨ ((h187_.1 66 60 + 1) = h237_.1 66 62 + 3 ∧ 0 ≤ h237_.1 66 64 ∧ h237_.1 66 64 ≤ 999) ∨ ((h187_.1 66 60 + 1) = h237_.1 66 62 + 4 ∧ 0 ≤ h237_.1 66 64 ∧ h237_.1 66 64 ≤ 9999) ∨ (h237_.1 66 62 + 5 ≤ (h187_.1 66 60 + 1))), mm_W x 0 0 237 [mR 66, mU] [] h237_ := by
                    intro h237_ i237_ f237_ w237_0 w237_1 w237_2 w237_3 w237_4 w237_5 w237_6 w237_7 w237_8 w237_9
                    have g163 : 0 ≤ h237_.1 66 60 ∧ h237_.1 66 60 ≤ 500 := i237_.1 66 60
                    have g164 : 0 ≤ h237_.1 66 59 ∧ h237_.1 66 59 ≤ 500 := i237_.1 66 59
                    have g165 : 0 ≤ h237_.1 66 62 ∧ h237_.1 66 62 ≤ 500 := i237_.1 66 62
                    have g166 : -2147483648 ≤ h237_.1 66 61 ∧ h237_.1 66 61 ≤ 2147483647 := i237_.1 66 61
                    have g167 : -2147483648 ≤ h237_.1 66 64 ∧ h237_.1 66 64 ≤ 2147483647 := i237_.1 66 64
                    have g168 : -2147483648 ≤ h237_.1 66 65 ∧ h237_.1 66 65 ≤ 2147483647 := i237_.1 66 65
                    have g169 : -2147483648 ≤ h237_.1 66 63 ∧ h237_.1 66 63 ≤ 2147483647 := i237_.1 66 63
                    have g170 : -9223372036854775808 ≤ h237_.1 66 66 ∧ h237_.1 66 66 ≤ 9223372036854775807 := i237_.1 66 66
                    have g171 : h237_.1 66 59 = h.1 66 59 := f237_.1 66 59 (by decide)
                    refine mm_aload_n C (mm_dec dk_X12_goes 121 rfl) rfl ?_
                    refine mm_dup C (mm_dec dk_X12_goes 122 rfl) (show (2 : Nat) ≠ 1 by decide) ?_
                    refine mm_geti C fl_X12_359 (mm_dec dk_X12_goes 123 rfl) rfl rfl (Or.inl rfl) ?_
                    refine mm_iconst C (mm_dec dk_X12_goes 124 rfl) ⟨by decide, by decide⟩ ?_
                    refine mm_iadd C (mm_dec dk_X12_goes 125 rfl) ⟨by omega, by omega⟩ ?_
                    refine mm_puti C fl_X12_359 (mm_dec dk_X12_goes 126 rfl) rfl rfl rfl (Or.inl ⟨rfl, rfl⟩) ?_
                    have i10 : mm_inv (mm_pf h237_ 66 60 ((h237_.1 66 60) + 1)) := mm_inv_pf i237_ (show 0 ≤ ((h237_.1 66 60) + 1) ∧ ((h237_.1 66 60) + 1) ≤ 500 from ⟨by omega, by omega⟩) (by decide)
                    have f10 : mm_fr [(66, 60), (66, 61), (66, 62), (66, 63), (66, 64), (66, 65), (66, 66)] [] h (mm_pf h237_ 66 60 ((h237_.1 66 60) + 1)) := mm_fr_pf f237_ (by decide)
                    obtain ⟨h10, eh10⟩ : ∃ z, z = mm_pf h237_ 66 60 ((h237_.1 66 60) + 1) := ⟨_, rfl⟩
                    rw [← eh10] at i10 f10 ⊢
                    have qh10 : h10.1 66 60 = ((h237_.1 66 60) + 1) := by rw [eh10]; exact mm_pf_same _ _ _ _
                    have qh10_172 : h10.1 66 59 = h237_.1 66 59 := by rw [eh10]; exact mm_pf_ne _ _ (by decide)
                    have qh10_173 : h10.1 66 61 = h237_.1 66 61 := by rw [eh10]; exact mm_pf_ne _ _ (by decide)
                    have qh10_174 : h10.1 66 62 = h237_.1 66 62 := by rw [eh10]; exact mm_pf_ne _ _ (by decide)
                    have qh10_175 : h10.1 66 63 = h237_.1 66 63 := by rw [eh10]; exact mm_pf_ne _ _ (by decide)
                    have qh10_176 : h10.1 66 64 = h237_.1 66 64 := by rw [eh10]; exact mm_pf_ne _ _ (by decide)
                    have qh10_177 : h10.1 66 65 = h237_.1 66 65 := by rw [eh10]; exact mm_pf_ne _ _ (by decide)
                    have qh10_178 : h10.1 66 66 = h237_.1 66 66 := by rw [eh10]; exact mm_pf_ne _ _ (by decide)
                    refine mm_goto (tgt := 187) C (mm_dec dk_X12_goes 127 rfl) (by decide) ?_
                    exact ih187 h10 i10 f10 (by omega) (by omega) (by omega) (by omega) (by omega) (by first | (rw [show h10.1 66 62 = h187_.1 66 62 by omega]; exact w187_5) | (rw [show h10.1 66 62 = h10.1 66 60 by omega, zu2]; unfold mm_kd; rw [if_neg (by omega), if_pos (by omega)])) (by first | (rw [show h10.1 66 60 = h187_.1 66 60 + 1 by omega, show h10.1 66 62 = h187_.1 66 62 by omega]; exact (mm_runw_s (by omega) zy).symm.trans w187_6) | (rw [show h10.1 66 62 = h10.1 66 60 by omega]; exact mm_runw_s (by omega) (by rw [zu2]; unfold mm_kd; rw [if_neg (by omega), if_pos (by omega)]))) (by first | (rw [show h10.1 66 60 = h187_.1 66 60 + 1 by omega, show h10.1 66 64 = h237_.1 66 64 by omega, show h10.1 66 62 = h237_.1 66 62 by omega]; exact w237_8) | exact fun _ => (by rw [show (h10.1 66 60 - h10.1 66 62).toNat = 0 by omega]; show _ = (0 : Int); omega)) (by omega) (by omega)
                  refine mm_icmp_ge (tgt := 237) C (mm_dec dk_X12_goes 107 rfl) (by decide) (fun c211 => ?_) (fun c211 => ?_)
                  · skip
                    exact J237 h187_ i187_ f187_ (by omega) (by omega) (by omega) (by omega) (by omega) (by omega) (by (rw [show h187_.1 66 62 = h187_.1 66 62 by omega]; exact w187_5)) (by omega) (by first | exact fun q => absurd q (by omega) | exact fun q => (by rw [show h187_.1 66 62 = h187_.1 66 62 by omega, mm_nv_s (by omega), ← w187_7 (by omega), zr]; omega)) (by omega)
                  · skip
                    refine mm_aload_n C (mm_dec dk_X12_goes 108 rfl) rfl ?_
                    refine mm_bipush C (mm_dec dk_X12_goes 109 rfl) ⟨by decide, by decide⟩ ?_
                    refine mm_aload_n C (mm_dec dk_X12_goes 110 rfl) rfl ?_
                    refine mm_geti C fl_X12_372 (mm_dec dk_X12_goes 111 rfl) rfl rfl (Or.inl rfl) ?_
                    refine mm_imulw C (mm_dec dk_X12_goes 112 rfl) ?_
                    have g179 : -2147483648 ≤ (mm_w (10 * (h187_.1 66 64))) ∧ (mm_w (10 * (h187_.1 66 64))) < 2147483648 := mm_w_rg _
                    refine mm_aload_n C (mm_dec dk_X12_goes 113 rfl) rfl ?_
                    refine mm_aload_n C (mm_dec dk_X12_goes 114 rfl) rfl ?_
                    refine mm_geti C fl_X12_359 (mm_dec dk_X12_goes 115 rfl) rfl rfl (Or.inl rfl) ?_
                    refine mm_cVi (rest := [mI (mm_w (10 * (h187_.1 66 64))), mR 66]) C1 ev_X12_362 (mm_dec dk_X12_goes 116 rfl) (c_X12_byteAt x.2.1 hl (d - 1) (by omega) h187_ i187_ (h187_.1 66 60) ⟨by omega, by omega⟩) rfl rfl (Nat.le_of_ble_eq_true rfl) ⟨by decide, by decide⟩ rfl (fun r227 h227c hp227 => ?_) (fun _ _ q => q.elim)
                    obtain ⟨z227, y227⟩ := hp227
                    rw [z227]
                    refine mm_iaddw C (mm_dec dk_X12_goes 117 rfl) ?_
                    have g181 : -2147483648 ≤ (mm_w ((mm_w (10 * (h187_.1 66 64))) + r227)) ∧ (mm_w ((mm_w (10 * (h187_.1 66 64))) + r227)) < 2147483648 := mm_w_rg _
                    refine mm_bipush C (mm_dec dk_X12_goes 118 rfl) ⟨by decide, by decide⟩ ?_
                    refine mm_isubw C (mm_dec dk_X12_goes 119 rfl) ?_
                    have g182 : -2147483648 ≤ (mm_w ((mm_w ((mm_w (10 * (h187_.1 66 64))) + r227)) - 48)) ∧ (mm_w ((mm_w ((mm_w (10 * (h187_.1 66 64))) + r227)) - 48)) < 2147483648 := mm_w_rg _
                    have zn : (mm_w ((mm_w ((mm_w (10 * (h187_.1 66 64))) + r227)) - 48)) = h187_.1 66 64 * 10 + r227 - 48 := mm_ndig ⟨by omega, by omega⟩ ⟨by omega, by omega⟩
                    refine mm_puti C fl_X12_372 (mm_dec dk_X12_goes 120 rfl) rfl rfl rfl (Or.inl ⟨rfl, rfl⟩) ?_
                    have i11 : mm_inv (mm_pf h187_ 66 64 (mm_w ((mm_w ((mm_w (10 * (h187_.1 66 64))) + r227)) - 48))) := mm_inv_pf i187_ (show -2147483648 ≤ (mm_w ((mm_w ((mm_w (10 * (h187_.1 66 64))) + r227)) - 48)) ∧ (mm_w ((mm_w ((mm_w (10 * (h187_.1 66 64))) + r227)) - 48)) ≤ 2147483647 from ⟨by omega, by omega⟩) (by decide)
                    have f11 : mm_fr [(66, 60), (66, 61), (66, 62), (66, 63), (66, 64), (66, 65), (66, 66)] [] h (mm_pf h187_ 66 64 (mm_w ((mm_w ((mm_w (10 * (h187_.1 66 64))) + r227)) - 48))) := mm_fr_pf f187_ (by decide)
                    obtain ⟨h11, eh11⟩ : ∃ z, z = mm_pf h187_ 66 64 (mm_w ((mm_w ((mm_w (10 * (h187_.1 66 64))) + r227)) - 48)) := ⟨_, rfl⟩
                    rw [← eh11] at i11 f11 ⊢
                    have qh11 : h11.1 66 64 = (mm_w ((mm_w ((mm_w (10 * (h187_.1 66 64))) + r227)) - 48)) := by rw [eh11]; exact mm_pf_same _ _ _ _
                    have qh11_183 : h11.1 66 59 = h187_.1 66 59 := by rw [eh11]; exact mm_pf_ne _ _ (by decide)
                    have qh11_184 : h11.1 66 60 = h187_.1 66 60 := by rw [eh11]; exact mm_pf_ne _ _ (by decide)
                    have qh11_185 : h11.1 66 61 = h187_.1 66 61 := by rw [eh11]; exact mm_pf_ne _ _ (by decide)
                    have qh11_186 : h11.1 66 62 = h187_.1 66 62 := by rw [eh11]; exact mm_pf_ne _ _ (by decide)
                    have qh11_187 : h11.1 66 63 = h187_.1 66 63 := by rw [eh11]; exact mm_pf_ne _ _ (by decide)
                    have qh11_188 : h11.1 66 65 = h187_.1 66 65 := by rw [eh11]; exact mm_pf_ne _ _ (by decide)
                    have qh11_189 : h11.1 66 66 = h187_.1 66 66 := by rw [eh11]; exact mm_pf_ne _ _ (by decide)
                    exact J237 h11 i11 f11 (by omega) (by omega) (by omega) (by omega) (by omega) (by omega) (by (rw [show h11.1 66 62 = h187_.1 66 62 by omega]; exact w187_5)) (by omega) (by first | exact fun q => absurd q (by omega) | exact fun q => (by rw [show h11.1 66 62 = h187_.1 66 62 by omega, mm_nv_s (by omega), ← w187_7 (by omega), zr]; omega)) (by omega)
            refine mm_if_eq (tgt := 258) C (mm_dec dk_X12_goes 94 rfl) (by decide) (fun c184 => ?_) (fun c184 => ?_)
            · skip
              refine mm_aload_n C (mm_dec dk_X12_goes 132 rfl) rfl ?_
              refine mm_dup C (mm_dec dk_X12_goes 133 rfl) (show (2 : Nat) ≠ 1 by decide) ?_
              refine mm_geti C fl_X12_359 (mm_dec dk_X12_goes 134 rfl) rfl rfl (Or.inl rfl) ?_
              refine mm_iconst C (mm_dec dk_X12_goes 135 rfl) ⟨by decide, by decide⟩ ?_
              refine mm_iadd C (mm_dec dk_X12_goes 136 rfl) ⟨by omega, by omega⟩ ?_
              refine mm_puti C fl_X12_359 (mm_dec dk_X12_goes 137 rfl) rfl rfl rfl (Or.inl ⟨rfl, rfl⟩) ?_
              have i12 : mm_inv (mm_pf h4 66 60 ((h4.1 66 60) + 1)) := mm_inv_pf i4 (show 0 ≤ ((h4.1 66 60) + 1) ∧ ((h4.1 66 60) + 1) ≤ 500 from ⟨by omega, by omega⟩) (by decide)
              have f12 : mm_fr [(66, 60), (66, 61), (66, 62), (66, 63), (66, 64), (66, 65), (66, 66)] [] h (mm_pf h4 66 60 ((h4.1 66 60) + 1)) := mm_fr_pf f4 (by decide)
              obtain ⟨h12, eh12⟩ : ∃ z, z = mm_pf h4 66 60 ((h4.1 66 60) + 1) := ⟨_, rfl⟩
              rw [← eh12] at i12 f12 ⊢
              have qh12 : h12.1 66 60 = ((h4.1 66 60) + 1) := by rw [eh12]; exact mm_pf_same _ _ _ _
              have qh12_190 : h12.1 66 59 = h4.1 66 59 := by rw [eh12]; exact mm_pf_ne _ _ (by decide)
              have qh12_191 : h12.1 66 61 = h4.1 66 61 := by rw [eh12]; exact mm_pf_ne _ _ (by decide)
              have qh12_192 : h12.1 66 62 = h4.1 66 62 := by rw [eh12]; exact mm_pf_ne _ _ (by decide)
              have qh12_193 : h12.1 66 63 = h4.1 66 63 := by rw [eh12]; exact mm_pf_ne _ _ (by decide)
              have qh12_194 : h12.1 66 64 = h4.1 66 64 := by rw [eh12]; exact mm_pf_ne _ _ (by decide)
              have qh12_195 : h12.1 66 65 = h4.1 66 65 := by rw [eh12]; exact mm_pf_ne _ _ (by decide)
              have qh12_196 : h12.1 66 66 = h4.1 66 66 := by rw [eh12]; exact mm_pf_ne _ _ (by decide)
              refine mm_aload_n C (mm_dec dk_X12_goes 138 rfl) rfl ?_
              refine mm_iload_n C (mm_dec dk_X12_goes 139 rfl) rfl ?_
              refine mm_bipush C (mm_dec dk_X12_goes 140 rfl) ⟨by decide, by decide⟩ ?_
              have J328 : ∀ (s328_1 : Int) (bs328_1 : 3 ≤ s328_1 ∧ s328_1 ≤ 4) (w328_0 : ((s328_1 = 3 ∧ mm_kd r73 = 4) ∨ (s328_1 = 4 ∧ mm_kd r73 = 1))) (vs328_1 : (s328_1 = 3) ∨ (r73 ≠ 59 ∧ r73 ≠ 40 ∧ r73 ≠ 41 ∧ r73 ≠ 43 ∧ r73 ≠ 45 ∧ r73 ≠ 42 ∧ r73 ≠ 47 ∧ r73 ≠ 60 ∧ r73 ≠ 61 ∧ s328_1 = 4)), mm_W x 0 0 328 [mR 66, mU] [mI s328_1, mR 66] h12 := by
                intro s328_1 bs328_1 w328_0 vs328_1
                refine mm_puti C fl_X12_378 (mm_dec dk_X12_goes 169 rfl) rfl rfl rfl (Or.inl ⟨rfl, rfl⟩) ?_
                have i13 : mm_inv (mm_pf h12 66 61 s328_1) := mm_inv_pf i12 (show -2147483648 ≤ s328_1 ∧ s328_1 ≤ 2147483647 from ⟨by omega, by omega⟩) (by decide)
                have f13 : mm_fr [(66, 60), (66, 61), (66, 62), (66, 63), (66, 64), (66, 65), (66, 66)] [] h (mm_pf h12 66 61 s328_1) := mm_fr_pf f12 (by decide)
                obtain ⟨h13, eh13⟩ : ∃ z, z = mm_pf h12 66 61 s328_1 := ⟨_, rfl⟩
                rw [← eh13] at i13 f13 ⊢
                have qh13 : h13.1 66 61 = s328_1 := by rw [eh13]; exact mm_pf_same _ _ _ _
                have qh13_197 : h13.1 66 59 = h12.1 66 59 := by rw [eh13]; exact mm_pf_ne _ _ (by decide)
                have qh13_198 : h13.1 66 60 = h12.1 66 60 := by rw [eh13]; exact mm_pf_ne _ _ (by decide)
                have qh13_199 : h13.1 66 62 = h12.1 66 62 := by rw [eh13]; exact mm_pf_ne _ _ (by decide)
                have qh13_200 : h13.1 66 63 = h12.1 66 63 := by rw [eh13]; exact mm_pf_ne _ _ (by decide)
                have qh13_201 : h13.1 66 64 = h12.1 66 64 := by rw [eh13]; exact mm_pf_ne _ _ (by decide)
                have qh13_202 : h13.1 66 65 = h12.1 66 65 := by rw [eh13]; exact mm_pf_ne _ _ (by decide)
                have qh13_203 : h13.1 66 66 = h12.1 66 66 := by rw [eh13]; exact mm_pf_ne _ _ (by decide)
                exact J331 h13 i13 f13 (by omega) (by omega) (by omega) (by omega) (by first | exact mm_aY0_end (by omega) (by omega) (by omega) | exact mm_aY0_let (by omega) (by rw [show h13.1 66 62 = h108_.1 66 62 by omega]; exact w108_5) (by omega) (by rw [show h13.1 66 60 = h108_.1 66 60 by omega, show h13.1 66 62 = h108_.1 66 62 by omega]; exact w108_6) (by rw [show h13.1 66 60 = h108_.1 66 60 by omega]; by_cases q : h.1 66 59 ≤ h108_.1 66 60; exact Or.inl q; exact Or.inr (by have e := zv (by omega); have e2 := mm_kd_f (mm_UY h (h108_.1 66 60)); omega)) (by rw [show h13.1 66 60 = h108_.1 66 60 by omega, show h13.1 66 62 = h108_.1 66 62 by omega, show h13.1 66 66 = h108_.1 66 66 by omega]; exact w108_7) | exact mm_aY0_dig (by omega) (by rw [show h13.1 66 62 = h187_.1 66 62 by omega]; exact w187_5) (by omega) (by rw [show h13.1 66 60 = h187_.1 66 60 by omega, show h13.1 66 62 = h187_.1 66 62 by omega]; exact w187_6) (by rw [show h13.1 66 60 = h187_.1 66 60 by omega]; by_cases q : h.1 66 59 ≤ h187_.1 66 60; exact Or.inl q; exact Or.inr (by have e := zv (by omega); have e2 := mm_kd_f (mm_UY h (h187_.1 66 60)); omega)) (by rw [show h13.1 66 60 = h187_.1 66 60 by omega, show h13.1 66 62 = h187_.1 66 62 by omega, show h13.1 66 64 = h187_.1 66 64 by omega]; exact w187_7) | exact mm_aY0_sgn (by omega) (by rw [show h13.1 66 62 = h13.1 66 60 - 1 by omega]; rw [show h13.1 66 60 - 1 = h4.1 66 60 by omega, zu2]; omega) (by omega) (by rw [show h13.1 66 62 = h4.1 66 60 by omega, zu2]; omega))
              have J323 : ∀ (w323_0 : (r73 = 59 ∨ r73 = 40 ∨ r73 = 41 ∨ r73 = 43 ∨ r73 = 45 ∨ r73 = 42 ∨ r73 = 47 ∨ r73 = 60 ∨ r73 = 61)), mm_W x 0 0 323 [mR 66, mU] [mR 66] h12 := by
                intro w323_0
                refine mm_iconst C (mm_dec dk_X12_goes 166 rfl) ⟨by decide, by decide⟩ ?_
                refine mm_goto (tgt := 328) C (mm_dec dk_X12_goes 167 rfl) (by decide) ?_
                exact J328 3 ⟨by omega, by omega⟩ (by have zK := mm_kd_f r73; omega) (Or.inl rfl)
              refine mm_icmp_eq (tgt := 323) C (mm_dec dk_X12_goes 141 rfl) (by decide) (fun c272 => ?_) (fun c272 => ?_)
              · skip
                refine mm_fgt 1 ?_
                exact J323 (by omega)
              · skip
                refine mm_iload_n C (mm_dec dk_X12_goes 142 rfl) rfl ?_
                refine mm_bipush C (mm_dec dk_X12_goes 143 rfl) ⟨by decide, by decide⟩ ?_
                refine mm_icmp_eq (tgt := 323) C (mm_dec dk_X12_goes 144 rfl) (by decide) (fun c278 => ?_) (fun c278 => ?_)
                · skip
                  refine mm_fgt 1 ?_
                  exact J323 (by omega)
                · skip
                  refine mm_iload_n C (mm_dec dk_X12_goes 145 rfl) rfl ?_
                  refine mm_bipush C (mm_dec dk_X12_goes 146 rfl) ⟨by decide, by decide⟩ ?_
                  refine mm_icmp_eq (tgt := 323) C (mm_dec dk_X12_goes 147 rfl) (by decide) (fun c284 => ?_) (fun c284 => ?_)
                  · skip
                    refine mm_fgt 1 ?_
                    exact J323 (by omega)
                  · skip
                    refine mm_iload_n C (mm_dec dk_X12_goes 148 rfl) rfl ?_
                    refine mm_bipush C (mm_dec dk_X12_goes 149 rfl) ⟨by decide, by decide⟩ ?_
                    refine mm_icmp_eq (tgt := 323) C (mm_dec dk_X12_goes 150 rfl) (by decide) (fun c290 => ?_) (fun c290 => ?_)
                    · skip
                      refine mm_fgt 1 ?_
                      exact J323 (by omega)
                    · skip
                      refine mm_iload_n C (mm_dec dk_X12_goes 151 rfl) rfl ?_
                      refine mm_bipush C (mm_dec dk_X12_goes 152 rfl) ⟨by decide, by decide⟩ ?_
                      refine mm_icmp_eq (tgt := 323) C (mm_dec dk_X12_goes 153 rfl) (by decide) (fun c296 => ?_) (fun c296 => ?_)
                      · skip
                        refine mm_fgt 1 ?_
                        exact J323 (by omega)
                      · skip
                        refine mm_iload_n C (mm_dec dk_X12_goes 154 rfl) rfl ?_
                        refine mm_bipush C (mm_dec dk_X12_goes 155 rfl) ⟨by decide, by decide⟩ ?_
                        refine mm_icmp_eq (tgt := 323) C (mm_dec dk_X12_goes 156 rfl) (by decide) (fun c302 => ?_) (fun c302 => ?_)
                        · skip
                          refine mm_fgt 1 ?_
                          exact J323 (by omega)
                        · skip
                          refine mm_iload_n C (mm_dec dk_X12_goes 157 rfl) rfl ?_
                          refine mm_bipush C (mm_dec dk_X12_goes 158 rfl) ⟨by decide, by decide⟩ ?_
                          refine mm_icmp_eq (tgt := 323) C (mm_dec dk_X12_goes 159 rfl) (by decide) (fun c308 => ?_) (fun c308 => ?_)
                          · skip
                            refine mm_fgt 1 ?_
                            exact J323 (by omega)
                          · skip
                            refine mm_iload_n C (mm_dec dk_X12_goes 160 rfl) rfl ?_
                            refine mm_bipush C (mm_dec dk_X12_goes 161 rfl) ⟨by decide, by decide⟩ ?_
                            refine mm_icmp_eq (tgt := 323) C (mm_dec dk_X12_goes 162 rfl) (by decide) (fun c314 => ?_) (fun c314 => ?_)
                            · skip
                              refine mm_fgt 1 ?_
                              exact J323 (by omega)
                            · skip
                              refine mm_iload_n C (mm_dec dk_X12_goes 163 rfl) rfl ?_
                              refine mm_bipush C (mm_dec dk_X12_goes 164 rfl) ⟨by decide, by decide⟩ ?_
                              refine mm_icmp_ne (tgt := 327) C (mm_dec dk_X12_goes 165 rfl) (by decide) (fun c320 => ?_) (fun c320 => ?_)
                              · skip
                                refine mm_iconst C (mm_dec dk_X12_goes 168 rfl) ⟨by decide, by decide⟩ ?_
                                refine mm_fgt 1 ?_
                                exact J328 4 ⟨by omega, by omega⟩ (by have zK := mm_kd_f r73; omega) (Or.inr (⟨by omega, by omega, by omega, by omega, by omega, by omega, by omega, by omega, by omega, rfl⟩))
                              · skip
                                refine mm_fgt 1 ?_
                                exact J323 (by omega)
            · skip
              refine mm_fgt 1 ?_
              exact J187 (((500 - h4.1 66 60) : Int) + 1).toNat h4 i4 f4 (by omega) (by omega) (by omega) (by omega) (by omega) (by first | (rw [show h4.1 66 62 = h187_.1 66 62 by omega]; exact w187_5) | (rw [show h4.1 66 62 = h4.1 66 60 by omega, zu2]; unfold mm_kd; rw [if_neg (by omega), if_pos (by omega)])) (by first | (rw [show h4.1 66 60 = h187_.1 66 60 + 1 by omega, show h4.1 66 62 = h187_.1 66 62 by omega]; exact (mm_runw_s (by omega) zy).symm.trans w187_6) | (rw [show h4.1 66 62 = h4.1 66 60 by omega]; exact mm_runw_s (by omega) (by rw [zu2]; unfold mm_kd; rw [if_neg (by omega), if_pos (by omega)]))) (by first | (rw [show h4.1 66 60 = h187_.1 66 60 + 1 by omega, show h4.1 66 64 = h237_.1 66 64 by omega, show h4.1 66 62 = h237_.1 66 62 by omega]; exact w237_8) | exact fun _ => (by rw [show (h4.1 66 60 - h4.1 66 62).toNat = 0 by omega]; show _ = (0 : Int); omega)) (by omega) (by omega)
          · skip
            refine mm_fgt 1 ?_
            exact J108 (((500 - h4.1 66 60) : Int) + 1).toNat h4 i4 f4 (by omega) (by omega) (by omega) (by omega) (by omega) (by first | (rw [show h4.1 66 62 = h108_.1 66 62 by omega]; exact w108_5) | (rw [show h4.1 66 62 = h4.1 66 60 by omega, zu2]; exact if_pos (by omega))) (by first | (rw [show h4.1 66 60 = h108_.1 66 60 + 1 by omega, show h4.1 66 62 = h108_.1 66 62 by omega]; exact (mm_runw_s (by omega) zy).symm.trans w108_6) | (rw [show h4.1 66 62 = h4.1 66 60 by omega]; exact mm_runw_s (by omega) (by rw [zu2]; exact if_pos (by omega)))) (by first | (rw [show h4.1 66 60 = h108_.1 66 60 + 1 by omega, show h4.1 66 66 = h159_.1 66 66 by omega, show h4.1 66 62 = h159_.1 66 62 by omega]; exact w159_8) | exact fun _ => (by rw [show (h4.1 66 60 - h4.1 66 62).toNat = 0 by omega]; show _ = (0 : Int); omega)) (by first | exact fun j a b => (by by_cases e : j = h108_.1 66 60; (rw [e]; exact zy); exact w108_8 j (by omega) (by omega)) | exact fun j a b => absurd b (by omega)) (by omega) (by omega)
        · skip
          refine mm_aload_n C (mm_dec dk_X12_goes 47 rfl) rfl ?_
          refine mm_iconst C (mm_dec dk_X12_goes 48 rfl) ⟨by decide, by decide⟩ ?_
          refine mm_puti C fl_X12_378 (mm_dec dk_X12_goes 49 rfl) rfl rfl rfl (Or.inl ⟨rfl, rfl⟩) ?_
          have i14 : mm_inv (mm_pf h4 66 61 0) := mm_inv_pf i4 (show -2147483648 ≤ 0 ∧ 0 ≤ 2147483647 from ⟨by omega, by omega⟩) (by decide)
          have f14 : mm_fr [(66, 60), (66, 61), (66, 62), (66, 63), (66, 64), (66, 65), (66, 66)] [] h (mm_pf h4 66 61 0) := mm_fr_pf f4 (by decide)
          obtain ⟨h14, eh14⟩ : ∃ z, z = mm_pf h4 66 61 0 := ⟨_, rfl⟩
          rw [← eh14] at i14 f14 ⊢
          have qh14 : h14.1 66 61 = 0 := by rw [eh14]; exact mm_pf_same _ _ _ _
          have qh14_204 : h14.1 66 59 = h4.1 66 59 := by rw [eh14]; exact mm_pf_ne _ _ (by decide)
          have qh14_205 : h14.1 66 60 = h4.1 66 60 := by rw [eh14]; exact mm_pf_ne _ _ (by decide)
          have qh14_206 : h14.1 66 62 = h4.1 66 62 := by rw [eh14]; exact mm_pf_ne _ _ (by decide)
          have qh14_207 : h14.1 66 63 = h4.1 66 63 := by rw [eh14]; exact mm_pf_ne _ _ (by decide)
          have qh14_208 : h14.1 66 64 = h4.1 66 64 := by rw [eh14]; exact mm_pf_ne _ _ (by decide)
          have qh14_209 : h14.1 66 65 = h4.1 66 65 := by rw [eh14]; exact mm_pf_ne _ _ (by decide)
          have qh14_210 : h14.1 66 66 = h4.1 66 66 := by rw [eh14]; exact mm_pf_ne _ _ (by decide)
          refine mm_goto (tgt := 331) C (mm_dec dk_X12_goes 50 rfl) (by decide) ?_
          refine mm_fgt 1 ?_
          exact J331 h14 i14 f14 (by omega) (by omega) (by omega) (by omega) (by first | exact mm_aY0_end (by omega) (by omega) (by omega) | exact mm_aY0_let (by omega) (by rw [show h14.1 66 62 = h108_.1 66 62 by omega]; exact w108_5) (by omega) (by rw [show h14.1 66 60 = h108_.1 66 60 by omega, show h14.1 66 62 = h108_.1 66 62 by omega]; exact w108_6) (by rw [show h14.1 66 60 = h108_.1 66 60 by omega]; by_cases q : h.1 66 59 ≤ h108_.1 66 60; exact Or.inl q; exact Or.inr (by have e := zv (by omega); have e2 := mm_kd_f (mm_UY h (h108_.1 66 60)); omega)) (by rw [show h14.1 66 60 = h108_.1 66 60 by omega, show h14.1 66 62 = h108_.1 66 62 by omega, show h14.1 66 66 = h108_.1 66 66 by omega]; exact w108_7) | exact mm_aY0_dig (by omega) (by rw [show h14.1 66 62 = h187_.1 66 62 by omega]; exact w187_5) (by omega) (by rw [show h14.1 66 60 = h187_.1 66 60 by omega, show h14.1 66 62 = h187_.1 66 62 by omega]; exact w187_6) (by rw [show h14.1 66 60 = h187_.1 66 60 by omega]; by_cases q : h.1 66 59 ≤ h187_.1 66 60; exact Or.inl q; exact Or.inr (by have e := zv (by omega); have e2 := mm_kd_f (mm_UY h (h187_.1 66 60)); omega)) (by rw [show h14.1 66 60 = h187_.1 66 60 by omega, show h14.1 66 62 = h187_.1 66 62 by omega, show h14.1 66 64 = h187_.1 66 64 by omega]; exact w187_7) | exact mm_aY0_sgn (by omega) (by rw [show h14.1 66 62 = h14.1 66 60 - 1 by omega]; rw [show h14.1 66 60 - 1 = h4.1 66 60 by omega, zu2]; omega) (by omega) (by rw [show h14.1 66 62 = h4.1 66 60 by omega, zu2]; omega))
      refine mm_icmp_ge (tgt := 50) C (mm_dec dk_X12_goes 4 rfl) (by decide) (fun c8 => ?_) (fun c8 => ?_)
      · skip
        exact J50 (by first | exact (mm_skp_e (Or.inl (by omega))).symm.trans w0_1 | exact (mm_skp_e (Or.inr ⟨by omega, by omega⟩)).symm.trans w0_1)
      · skip
        have zu : mm_UY h (h0_.1 66 60) = h0_.2.1 101 (h0_.1 66 60) := (mm_tr_in (by omega) (by omega)).trans (f0_.2 101 (by decide) _).symm
        refine mm_aload_n C (mm_dec dk_X12_goes 5 rfl) rfl ?_
        refine mm_aload_n C (mm_dec dk_X12_goes 6 rfl) rfl ?_
        refine mm_geti C fl_X12_359 (mm_dec dk_X12_goes 7 rfl) rfl rfl (Or.inl rfl) ?_
        refine mm_cVi (rest := []) C1 ev_X12_362 (mm_dec dk_X12_goes 8 rfl) (c_X12_byteAt x.2.1 hl (d - 1) (by omega) h0_ i0_ (h0_.1 66 60) ⟨by omega, by omega⟩) rfl rfl (Nat.le_of_ble_eq_true rfl) ⟨by decide, by decide⟩ rfl (fun r16 h16c hp16 => ?_) (fun _ _ q => q.elim)
        obtain ⟨z16, y16⟩ := hp16
        rw [z16]
        have g212 : -2147483648 ≤ (h0_.2.1 101 (h0_.1 66 60)) ∧ (h0_.2.1 101 (h0_.1 66 60)) ≤ 2147483647 := i0_.2.1 101 (h0_.1 66 60)
        refine mm_bipush C (mm_dec dk_X12_goes 9 rfl) ⟨by decide, by decide⟩ ?_
        have J37 : ∀ (w37_0 : (mm_UY h (h0_.1 66 60) = 32 ∨ mm_UY h (h0_.1 66 60) = 10)), mm_W x 0 0 37 [mR 66, mU] [] h0_ := by
          intro w37_0
          have g213 : 0 ≤ h0_.1 66 60 ∧ h0_.1 66 60 ≤ 500 := i0_.1 66 60
          have g214 : 0 ≤ h0_.1 66 59 ∧ h0_.1 66 59 ≤ 500 := i0_.1 66 59
          have g215 : 0 ≤ h0_.1 66 62 ∧ h0_.1 66 62 ≤ 500 := i0_.1 66 62
          have g216 : -2147483648 ≤ h0_.1 66 61 ∧ h0_.1 66 61 ≤ 2147483647 := i0_.1 66 61
          have g217 : -2147483648 ≤ h0_.1 66 64 ∧ h0_.1 66 64 ≤ 2147483647 := i0_.1 66 64
          have g218 : -2147483648 ≤ h0_.1 66 65 ∧ h0_.1 66 65 ≤ 2147483647 := i0_.1 66 65
          have g219 : -2147483648 ≤ h0_.1 66 63 ∧ h0_.1 66 63 ≤ 2147483647 := i0_.1 66 63
          have g220 : -9223372036854775808 ≤ h0_.1 66 66 ∧ h0_.1 66 66 ≤ 9223372036854775807 := i0_.1 66 66
          refine mm_aload_n C (mm_dec dk_X12_goes 17 rfl) rfl ?_
          refine mm_dup C (mm_dec dk_X12_goes 18 rfl) (show (2 : Nat) ≠ 1 by decide) ?_
          refine mm_geti C fl_X12_359 (mm_dec dk_X12_goes 19 rfl) rfl rfl (Or.inl rfl) ?_
          refine mm_iconst C (mm_dec dk_X12_goes 20 rfl) ⟨by decide, by decide⟩ ?_
          refine mm_iadd C (mm_dec dk_X12_goes 21 rfl) ⟨by omega, by omega⟩ ?_
          refine mm_puti C fl_X12_359 (mm_dec dk_X12_goes 22 rfl) rfl rfl rfl (Or.inl ⟨rfl, rfl⟩) ?_
          have i15 : mm_inv (mm_pf h0_ 66 60 ((h0_.1 66 60) + 1)) := mm_inv_pf i0_ (show 0 ≤ ((h0_.1 66 60) + 1) ∧ ((h0_.1 66 60) + 1) ≤ 500 from ⟨by omega, by omega⟩) (by decide)
          have f15 : mm_fr [(66, 60), (66, 61), (66, 62), (66, 63), (66, 64), (66, 65), (66, 66)] [] h (mm_pf h0_ 66 60 ((h0_.1 66 60) + 1)) := mm_fr_pf f0_ (by decide)
          obtain ⟨h15, eh15⟩ : ∃ z, z = mm_pf h0_ 66 60 ((h0_.1 66 60) + 1) := ⟨_, rfl⟩
          rw [← eh15] at i15 f15 ⊢
          have qh15 : h15.1 66 60 = ((h0_.1 66 60) + 1) := by rw [eh15]; exact mm_pf_same _ _ _ _
          have qh15_221 : h15.1 66 59 = h0_.1 66 59 := by rw [eh15]; exact mm_pf_ne _ _ (by decide)
          have qh15_222 : h15.1 66 61 = h0_.1 66 61 := by rw [eh15]; exact mm_pf_ne _ _ (by decide)
          have qh15_223 : h15.1 66 62 = h0_.1 66 62 := by rw [eh15]; exact mm_pf_ne _ _ (by decide)
          have qh15_224 : h15.1 66 63 = h0_.1 66 63 := by rw [eh15]; exact mm_pf_ne _ _ (by decide)
          have qh15_225 : h15.1 66 64 = h0_.1 66 64 := by rw [eh15]; exact mm_pf_ne _ _ (by decide)
          have qh15_226 : h15.1 66 65 = h0_.1 66 65 := by rw [eh15]; exact mm_pf_ne _ _ (by decide)
          have qh15_227 : h15.1 66 66 = h0_.1 66 66 := by rw [eh15]; exact mm_pf_ne _ _ (by decide)
          refine mm_goto (tgt := 0) C (mm_dec dk_X12_goes 23 rfl) (by decide) ?_
          exact ih0 h15 i15 f15 (by omega) (by first | (rw [show h15.1 66 60 = h0_.1 66 60 + 1 by omega]; exact (mm_skp_s (by omega) w37_0).symm.trans w0_1) | rfl) (by omega)
        refine mm_icmp_eq (tgt := 37) C (mm_dec dk_X12_goes 10 rfl) (by decide) (fun c21 => ?_) (fun c21 => ?_)
        · skip
          exact J37 (by omega)
        · skip
          refine mm_aload_n C (mm_dec dk_X12_goes 11 rfl) rfl ?_
          refine mm_aload_n C (mm_dec dk_X12_goes 12 rfl) rfl ?_
          refine mm_geti C fl_X12_359 (mm_dec dk_X12_goes 13 rfl) rfl rfl (Or.inl rfl) ?_
          refine mm_cVi (rest := []) C1 ev_X12_362 (mm_dec dk_X12_goes 14 rfl) (c_X12_byteAt x.2.1 hl (d - 1) (by omega) h0_ i0_ (h0_.1 66 60) ⟨by omega, by omega⟩) rfl rfl (Nat.le_of_ble_eq_true rfl) ⟨by decide, by decide⟩ rfl (fun r29 h29c hp29 => ?_) (fun _ _ q => q.elim)
          obtain ⟨z29, y29⟩ := hp29
          rw [z29]
          refine mm_bipush C (mm_dec dk_X12_goes 15 rfl) ⟨by decide, by decide⟩ ?_
          refine mm_icmp_ne (tgt := 50) C (mm_dec dk_X12_goes 16 rfl) (by decide) (fun c34 => ?_) (fun c34 => ?_)
          · skip
            exact J50 (by first | exact (mm_skp_e (Or.inl (by omega))).symm.trans w0_1 | exact (mm_skp_e (Or.inr ⟨by omega, by omega⟩)).symm.trans w0_1)
          · skip
            exact J37 (by omega)
  exact J0 (((500 - h.1 66 60) : Int) + 1).toNat h i0 f0 (by omega) (by first | (rw [show h.1 66 60 = h0_.1 66 60 + 1 by omega]; exact (mm_skp_s (by omega) w37_0).symm.trans w0_1) | rfl) (by omega)
