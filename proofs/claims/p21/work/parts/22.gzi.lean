set_option maxRecDepth 100000 in
set_option maxHeartbeats 4000000 in
theorem c_X12_works_q (l : Launch) (hl : l.stackTraces = false) (d : Nat) (hd : 0 ≤ d) (h : mH) (i0 : mm_inv h) (p0 : Int) (p1 : Int) (p2 : Int) : mm_Met l d yX12_works cX12_works 3 (some .int) [mI p0, mI p1, mI p2] h (mm_pi fun r h2 => (-2147483648 ≤ r ∧ r ≤ 2147483647) ∧ h2 = h ∧ r = mm_wk9 p0 p1 p2) mm_nx 0 0 := by
  refine mm_ofW (ls := [mI p0, mI p1, mI p2]) hl (by decide) rfl (Nat.le_of_ble_eq_true rfl) ?_
  intro x hxl C T hnm htb
  subst hxl
  refine mm_rng (fun hr _ => ?_)
  have ap0 : -2147483648 ≤ p0 ∧ p0 < 2147483648 := mm_ok_at hr (i := 0) rfl
  have ap1 : -2147483648 ≤ p1 ∧ p1 < 2147483648 := mm_ok_at hr (i := 1) rfl
  have ap2 : -2147483648 ≤ p2 ∧ p2 < 2147483648 := mm_ok_at hr (i := 2) rfl
  have f0 : mm_fr [] [] h h := mm_fr_rf
  refine mm_iload_n C (mm_dec dk_X12_works 0 rfl) rfl ?_
  refine mm_table (t0 := 106) [44, 58, 72, 83, 94, 98, 102] C (mm_dec dk_X12_works 1 rfl) (by decide) (by decide) (by decide +kernel) (fun c1 => ?_) (fun k1 hk1 c1 => ?_)
  · skip
    refine mm_iload_n C (mm_dec dk_X12_works 44 rfl) rfl ?_
    have J117 : ∀ (s117_0 : Int) (bs117_0 : -2147483648 ≤ s117_0 ∧ s117_0 ≤ 2147483647) (w117_0 : (p0 < 5 ∨ 11 < p0)) (w117_1 : ((p2 = 0 ∧ s117_0 = 0) ∨ (p2 ≠ 0 ∧ s117_0 = mm_w (Int.tdiv p1 p2)))), mm_W x 0 0 117 [mU, mU, mU] [mI s117_0] h := by
      intro s117_0 bs117_0 w117_0 w117_1
      exact mm_iret C T (mm_dec dk_X12_works 51 rfl) (by decide : 0 ≤ 0) (by decide : 0 ≤ 0) ⟨_, rfl, ⟨⟨by omega, by omega⟩, rfl, by (unfold mm_wk9; (repeat' split) <;> omega)⟩⟩
    refine mm_if_ne (tgt := 114) C (mm_dec dk_X12_works 45 rfl) (by decide) (fun c107 => ?_) (fun c107 => ?_)
    · skip
      refine mm_iload_n C (mm_dec dk_X12_works 48 rfl) rfl ?_
      refine mm_iload_n C (mm_dec dk_X12_works 49 rfl) rfl ?_
      refine mm_idivw C (mm_dec dk_X12_works 50 rfl) (by omega) ?_
      have g2 : -2147483648 ≤ (mm_w (Int.tdiv p1 p2)) ∧ (mm_w (Int.tdiv p1 p2)) < 2147483648 := mm_w_rg _
      refine mm_fgt 0 ?_
      refine mm_fgt 1 ?_
      refine mm_fgt 2 ?_
      exact J117 (mm_w (Int.tdiv p1 p2)) ⟨by omega, by omega⟩ (by omega) (by omega)
    · skip
      refine mm_iconst C (mm_dec dk_X12_works 46 rfl) ⟨by decide, by decide⟩ ?_
      refine mm_goto (tgt := 117) C (mm_dec dk_X12_works 47 rfl) (by decide) ?_
      refine mm_fgt 0 ?_
      refine mm_fgt 1 ?_
      refine mm_fgt 2 ?_
      exact J117 0 ⟨by omega, by omega⟩ (by omega) (by omega)
  · have hq1 : k1 < 7 := hk1
    rcases (by omega : k1 = 0 ∨ k1 = 1 ∨ k1 = 2 ∨ k1 = 3 ∨ k1 = 4 ∨ k1 = 5 ∨ k1 = 6) with rfl | rfl | rfl | rfl | rfl | rfl | rfl
    · show mm_W x 0 0 44 _ _ _
      refine mm_iload_n C (mm_dec dk_X12_works 2 rfl) rfl ?_
      have J57 : ∀ (s57_0 : Int) (bs57_0 : 0 ≤ s57_0 ∧ s57_0 ≤ 1) (w57_0 : p0 = 5) (w57_1 : ((p1 ≠ 0 ∧ p2 ≠ 0 ∧ s57_0 = 1) ∨ (¬ (p1 ≠ 0 ∧ p2 ≠ 0) ∧ s57_0 = 0))) (vs57_0 : (s57_0 = 0) ∨ (p1 ≠ 0 ∧ p2 ≠ 0 ∧ s57_0 = 1)), mm_W x 0 0 57 [mU, mU, mU] [mI s57_0] h := by
        intro s57_0 bs57_0 w57_0 w57_1 vs57_0
        exact mm_iret C T (mm_dec dk_X12_works 9 rfl) (by decide : 0 ≤ 0) (by decide : 0 ≤ 0) ⟨_, rfl, ⟨⟨by omega, by omega⟩, rfl, by (unfold mm_wk9; (repeat' split) <;> omega)⟩⟩
      have J56 : ∀ (w56_0 : p0 = 5) (w56_1 : (p1 = 0 ∨ p2 = 0)), mm_W x 0 0 56 [mU, mU, mU] [] h := by
        intro w56_0 w56_1
        refine mm_iconst C (mm_dec dk_X12_works 8 rfl) ⟨by decide, by decide⟩ ?_
        exact J57 0 ⟨by omega, by omega⟩ (by omega) (by omega) (Or.inl rfl)
      refine mm_if_eq (tgt := 56) C (mm_dec dk_X12_works 3 rfl) (by decide) (fun c45 => ?_) (fun c45 => ?_)
      · skip
        refine mm_fgt 0 ?_
        refine mm_fgt 1 ?_
        refine mm_fgt 2 ?_
        exact J56 (by omega) (by omega)
      · skip
        refine mm_iload_n C (mm_dec dk_X12_works 4 rfl) rfl ?_
        refine mm_if_eq (tgt := 56) C (mm_dec dk_X12_works 5 rfl) (by decide) (fun c49 => ?_) (fun c49 => ?_)
        · skip
          refine mm_fgt 0 ?_
          refine mm_fgt 1 ?_
          refine mm_fgt 2 ?_
          exact J56 (by omega) (by omega)
        · skip
          refine mm_iconst C (mm_dec dk_X12_works 6 rfl) ⟨by decide, by decide⟩ ?_
          refine mm_goto (tgt := 57) C (mm_dec dk_X12_works 7 rfl) (by decide) ?_
          refine mm_fgt 0 ?_
          refine mm_fgt 1 ?_
          refine mm_fgt 2 ?_
          exact J57 1 ⟨by omega, by omega⟩ (by omega) (by omega) (Or.inr (⟨by omega, by omega, rfl⟩))
    · show mm_W x 0 0 58 _ _ _
      refine mm_iload_n C (mm_dec dk_X12_works 10 rfl) rfl ?_
      have J71 : ∀ (s71_0 : Int) (bs71_0 : 0 ≤ s71_0 ∧ s71_0 ≤ 1) (w71_0 : p0 = 6) (w71_1 : ((p1 ≠ 0 ∨ p2 ≠ 0 ∧ s71_0 = 1) ∨ (¬ (p1 ≠ 0 ∨ p2 ≠ 0) ∧ s71_0 = 0))) (vs71_0 : (p1 = 0 ∧ p2 = 0 ∧ s71_0 = 0) ∨ (s71_0 = 1)), mm_W x 0 0 71 [mU, mU, mU] [mI s71_0] h := by
        intro s71_0 bs71_0 w71_0 w71_1 vs71_0
        exact mm_iret C T (mm_dec dk_X12_works 17 rfl) (by decide : 0 ≤ 0) (by decide : 0 ≤ 0) ⟨_, rfl, ⟨⟨by omega, by omega⟩, rfl, by (unfold mm_wk9; (repeat' split) <;> omega)⟩⟩
      have J66 : ∀ (w66_0 : p0 = 6) (w66_1 : (p1 ≠ 0 ∨ p2 ≠ 0)), mm_W x 0 0 66 [mU, mU, mU] [] h := by
        intro w66_0 w66_1
        refine mm_iconst C (mm_dec dk_X12_works 14 rfl) ⟨by decide, by decide⟩ ?_
        refine mm_goto (tgt := 71) C (mm_dec dk_X12_works 15 rfl) (by decide) ?_
        exact J71 1 ⟨by omega, by omega⟩ (by omega) (by omega) (Or.inr (rfl))
      refine mm_if_ne (tgt := 66) C (mm_dec dk_X12_works 11 rfl) (by decide) (fun c59 => ?_) (fun c59 => ?_)
      · skip
        refine mm_fgt 0 ?_
        refine mm_fgt 1 ?_
        refine mm_fgt 2 ?_
        exact J66 (by omega) (by omega)
      · skip
        refine mm_iload_n C (mm_dec dk_X12_works 12 rfl) rfl ?_
        refine mm_if_eq (tgt := 70) C (mm_dec dk_X12_works 13 rfl) (by decide) (fun c63 => ?_) (fun c63 => ?_)
        · skip
          refine mm_iconst C (mm_dec dk_X12_works 16 rfl) ⟨by decide, by decide⟩ ?_
          refine mm_fgt 0 ?_
          refine mm_fgt 1 ?_
          refine mm_fgt 2 ?_
          exact J71 0 ⟨by omega, by omega⟩ (by omega) (by omega) (Or.inl ⟨by omega, by omega, rfl⟩)
        · skip
          refine mm_fgt 0 ?_
          refine mm_fgt 1 ?_
          refine mm_fgt 2 ?_
          exact J66 (by omega) (by omega)
    · show mm_W x 0 0 72 _ _ _
      refine mm_iload_n C (mm_dec dk_X12_works 18 rfl) rfl ?_
      refine mm_iload_n C (mm_dec dk_X12_works 19 rfl) rfl ?_
      have J82 : ∀ (s82_0 : Int) (bs82_0 : 0 ≤ s82_0 ∧ s82_0 ≤ 1) (w82_0 : p0 = 7) (w82_1 : ((p1 < p2 ∧ s82_0 = 1) ∨ (¬ (p1 < p2) ∧ s82_0 = 0))) (vs82_0 : (p2 ≤ p1 ∧ s82_0 = 0) ∨ (p1 < p2 ∧ s82_0 = 1)), mm_W x 0 0 82 [mU, mU, mU] [mI s82_0] h := by
        intro s82_0 bs82_0 w82_0 w82_1 vs82_0
        exact mm_iret C T (mm_dec dk_X12_works 24 rfl) (by decide : 0 ≤ 0) (by decide : 0 ≤ 0) ⟨_, rfl, ⟨⟨by omega, by omega⟩, rfl, by (unfold mm_wk9; (repeat' split) <;> omega)⟩⟩
      refine mm_icmp_ge (tgt := 81) C (mm_dec dk_X12_works 20 rfl) (by decide) (fun c74 => ?_) (fun c74 => ?_)
      · skip
        refine mm_iconst C (mm_dec dk_X12_works 23 rfl) ⟨by decide, by decide⟩ ?_
        refine mm_fgt 0 ?_
        refine mm_fgt 1 ?_
        refine mm_fgt 2 ?_
        exact J82 0 ⟨by omega, by omega⟩ (by omega) (by omega) (Or.inl ⟨by omega, rfl⟩)
      · skip
        refine mm_iconst C (mm_dec dk_X12_works 21 rfl) ⟨by decide, by decide⟩ ?_
        refine mm_goto (tgt := 82) C (mm_dec dk_X12_works 22 rfl) (by decide) ?_
        refine mm_fgt 0 ?_
        refine mm_fgt 1 ?_
        refine mm_fgt 2 ?_
        exact J82 1 ⟨by omega, by omega⟩ (by omega) (by omega) (Or.inr (⟨by omega, rfl⟩))
    · show mm_W x 0 0 83 _ _ _
      refine mm_iload_n C (mm_dec dk_X12_works 25 rfl) rfl ?_
      refine mm_iload_n C (mm_dec dk_X12_works 26 rfl) rfl ?_
      have J93 : ∀ (s93_0 : Int) (bs93_0 : 0 ≤ s93_0 ∧ s93_0 ≤ 1) (w93_0 : p0 = 8) (w93_1 : ((p1 = p2 ∧ s93_0 = 1) ∨ (¬ (p1 = p2) ∧ s93_0 = 0))) (vs93_0 : (p1 ≠ p2 ∧ s93_0 = 0) ∨ (p1 = p2 ∧ s93_0 = 1)), mm_W x 0 0 93 [mU, mU, mU] [mI s93_0] h := by
        intro s93_0 bs93_0 w93_0 w93_1 vs93_0
        exact mm_iret C T (mm_dec dk_X12_works 31 rfl) (by decide : 0 ≤ 0) (by decide : 0 ≤ 0) ⟨_, rfl, ⟨⟨by omega, by omega⟩, rfl, by (unfold mm_wk9; (repeat' split) <;> omega)⟩⟩
      refine mm_icmp_ne (tgt := 92) C (mm_dec dk_X12_works 27 rfl) (by decide) (fun c85 => ?_) (fun c85 => ?_)
      · skip
        refine mm_iconst C (mm_dec dk_X12_works 30 rfl) ⟨by decide, by decide⟩ ?_
        refine mm_fgt 0 ?_
        refine mm_fgt 1 ?_
        refine mm_fgt 2 ?_
        exact J93 0 ⟨by omega, by omega⟩ (by omega) (by omega) (Or.inl ⟨by omega, rfl⟩)
      · skip
        refine mm_iconst C (mm_dec dk_X12_works 28 rfl) ⟨by decide, by decide⟩ ?_
        refine mm_goto (tgt := 93) C (mm_dec dk_X12_works 29 rfl) (by decide) ?_
        refine mm_fgt 0 ?_
        refine mm_fgt 1 ?_
        refine mm_fgt 2 ?_
        exact J93 1 ⟨by omega, by omega⟩ (by omega) (by omega) (Or.inr (⟨by omega, rfl⟩))
    · show mm_W x 0 0 94 _ _ _
      refine mm_iload_n C (mm_dec dk_X12_works 32 rfl) rfl ?_
      refine mm_iload_n C (mm_dec dk_X12_works 33 rfl) rfl ?_
      refine mm_iaddw C (mm_dec dk_X12_works 34 rfl) ?_
      have g3 : -2147483648 ≤ (mm_w (p1 + p2)) ∧ (mm_w (p1 + p2)) < 2147483648 := mm_w_rg _
      exact mm_iret C T (mm_dec dk_X12_works 35 rfl) (by decide : 0 ≤ 0) (by decide : 0 ≤ 0) ⟨_, rfl, ⟨⟨by omega, by omega⟩, rfl, by (unfold mm_wk9; (repeat' split) <;> omega)⟩⟩
    · show mm_W x 0 0 98 _ _ _
      refine mm_iload_n C (mm_dec dk_X12_works 36 rfl) rfl ?_
      refine mm_iload_n C (mm_dec dk_X12_works 37 rfl) rfl ?_
      refine mm_isubw C (mm_dec dk_X12_works 38 rfl) ?_
      have g4 : -2147483648 ≤ (mm_w (p1 - p2)) ∧ (mm_w (p1 - p2)) < 2147483648 := mm_w_rg _
      exact mm_iret C T (mm_dec dk_X12_works 39 rfl) (by decide : 0 ≤ 0) (by decide : 0 ≤ 0) ⟨_, rfl, ⟨⟨by omega, by omega⟩, rfl, by (unfold mm_wk9; (repeat' split) <;> omega)⟩⟩
    · show mm_W x 0 0 102 _ _ _
      refine mm_iload_n C (mm_dec dk_X12_works 40 rfl) rfl ?_
      refine mm_iload_n C (mm_dec dk_X12_works 41 rfl) rfl ?_
      refine mm_imulw C (mm_dec dk_X12_works 42 rfl) ?_
      have g5 : -2147483648 ≤ (mm_w (p1 * p2)) ∧ (mm_w (p1 * p2)) < 2147483648 := mm_w_rg _
      exact mm_iret C T (mm_dec dk_X12_works 43 rfl) (by decide : 0 ≤ 0) (by decide : 0 ≤ 0) ⟨_, rfl, ⟨⟨by omega, by omega⟩, rfl, by (unfold mm_wk9; (repeat' split) <;> omega)⟩⟩
set_option maxRecDepth 100000 in
set_option maxHeartbeats 4000000 in
theorem c_X12_worth_q (l : Launch) (hl : l.stackTraces = false) (d : Nat) (hd : 1 ≤ d) (h : mH) (i0 : mm_inv h) (p1 : Int) (bp1 : 0 ≤ p1 ∧ p1 ≤ 2399) (t0 : ∃ f, mm_ok (mm_cd h) f p1 0) : mm_Met l d yX12_worth cX12_worth 6 (some .int) [mR 66, mI p1] h (mm_pi fun r h2 => (-2147483648 ≤ r ∧ r ≤ 2147483647) ∧ mm_inv h2 ∧ mm_fr [] [111] h h2 ∧ ∀ A, mm_exj 31 A → mm_at9 (h.2.1 107) p1 (A.flatMap mm_en ++ [0]) → r = mm_ev9 (h.2.1 110) (mm_pr h) A) mm_nx 0 0 := by
  refine mm_ofW (ls := [mR 66, mI p1, mU, mU, mU, mU]) hl (by decide) rfl (Nat.le_of_ble_eq_true rfl) ?_
  intro x hxl C T hnm htb
  subst hxl
  have C1 := mm_OK_le (d' := d - 1 + 1) (by omega) C
  refine mm_rng (fun hr _ => ?_)
  have ap1 : -2147483648 ≤ p1 ∧ p1 < 2147483648 := mm_ok_at hr (i := 1) rfl
  have f0 : mm_fr [] [111] h h := mm_fr_rf
  refine mm_iconst C (mm_dec dk_X12_worth 0 rfl) ⟨by decide, by decide⟩ ?_
  refine mm_istore_nL (ls2 := [mR 66, mI p1, mI 0, mU, mU, mU]) C (mm_dec dk_X12_worth 1 rfl) (by decide) rfl ?_
  refine mm_iload_n C (mm_dec dk_X12_worth 2 rfl) rfl ?_
  have J4 : ∀ (n : Nat) (x4_2 : Int) (bx4_2 : 0 ≤ x4_2 ∧ x4_2 ≤ 520) (x4_3 : Int) (bx4_3 : 0 ≤ x4_3 ∧ x4_3 ≤ 2399) (h4_ : mH) (i4_ : mm_inv h4_) (f4_ : mm_fr [] [111] h h4_) (w4_0 : ∃ f, mm_ok (mm_cd h) f x4_3 x4_2) (w4_1 : (∀ A, mm_exj 31 A → mm_at9 (h.2.1 107) p1 (A.flatMap mm_en ++ [0]) → mm_WR h h4_ A x4_3 x4_2)), (2399 - x4_3 : Int) < n → mm_W x 0 0 4 [mR 66, mU, mI x4_2, mI x4_3, mU, mU] [] h4_ := by
    intro n
    induction n with
    | zero =>
      intro x4_2 bx4_2 x4_3 bx4_3 h4_ i4_ f4_ w4_0 w4_1 hm
      exfalso; omega
    | succ n ih4 =>
      intro x4_2 bx4_2 x4_3 bx4_3 h4_ i4_ f4_ w4_0 w4_1 hm4
      obtain ⟨zf, zo⟩ := w4_0
      have zr := mm_ok_rg zo
      have zk : h4_.2.1 107 x4_3 = h.2.1 107 x4_3 := f4_.2 107 (by decide) _
      refine mm_aload_n C (mm_dec dk_X12_worth 4 rfl) rfl ?_
      refine mm_getr (t := 107) C fl_X12_132 (mm_dec dk_X12_worth 5 rfl) rfl rfl (mm_ref i4_ rfl) ?_
      refine mm_iload_n C (mm_dec dk_X12_worth 6 rfl) rfl ?_
      refine mm_iald C (mm_dec dk_X12_worth 7 rfl) rfl (by omega) (by omega) ?_
      have g1 : -2147483648 ≤ (h4_.2.1 107 x4_3) ∧ (h4_.2.1 107 x4_3) ≤ 2147483647 := i4_.2.1 107 x4_3
      refine mm_if_eq (tgt := 158) C (mm_dec dk_X12_worth 8 rfl) (by decide) (fun c10 => ?_) (fun c10 => ?_)
      · skip
        refine mm_aload_n C (mm_dec dk_X12_worth 89 rfl) rfl ?_
        refine mm_getr (t := 111) C fl_X12_144 (mm_dec dk_X12_worth 90 rfl) rfl rfl (mm_ref i4_ rfl) ?_
        refine mm_iconst C (mm_dec dk_X12_worth 91 rfl) ⟨by decide, by decide⟩ ?_
        refine mm_iald C (mm_dec dk_X12_worth 92 rfl) rfl (by omega) (by omega) ?_
        have g2 : -2147483648 ≤ (h4_.2.1 111 0) ∧ (h4_.2.1 111 0) ≤ 2147483647 := i4_.2.1 111 0
        exact mm_iret C T (mm_dec dk_X12_worth 93 rfl) (by decide : 0 ≤ 0) (by decide : 0 ≤ 0) ⟨_, rfl, ⟨⟨by omega, by omega⟩, i4_, f4_, by exact fun A e l => mm_WR_e (w4_1 A e l) e (by omega)⟩⟩
      · skip
        refine mm_aload_n C (mm_dec dk_X12_worth 9 rfl) rfl ?_
        refine mm_getr (t := 107) C fl_X12_132 (mm_dec dk_X12_worth 10 rfl) rfl rfl (mm_ref i4_ rfl) ?_
        refine mm_iload_n C (mm_dec dk_X12_worth 11 rfl) rfl ?_
        refine mm_iald C (mm_dec dk_X12_worth 12 rfl) rfl (by omega) (by omega) ?_
        refine mm_istoreL (ls2 := [mR 66, mU, mI x4_2, mI x4_3, mI (h4_.2.1 107 x4_3), mU]) C (mm_dec dk_X12_worth 13 rfl) (by decide) rfl ?_
        refine mm_iincL (ls2 := [mR 66, mU, mI x4_2, mI (x4_3 + 1), mI (h4_.2.1 107 x4_3), mU]) C (mm_dec dk_X12_worth 14 rfl) rfl (by decide) ⟨by omega, by omega⟩ rfl ?_
        refine mm_iload C (mm_dec dk_X12_worth 15 rfl) rfl ?_
        refine mm_iconst C (mm_dec dk_X12_worth 16 rfl) ⟨by decide, by decide⟩ ?_
        have J155 : ∀ (x155_2 : Int) (bx155_2 : 0 ≤ x155_2 ∧ x155_2 ≤ 520) (x155_3 : Int) (bx155_3 : 0 ≤ x155_3 ∧ x155_3 ≤ 2399) (h155_ : mH) (i155_ : mm_inv h155_) (f155_ : mm_fr [] [111] h h155_) (w155_0 : ∃ f, mm_ok (mm_cd h) f x155_3 x155_2) (w155_1 : x4_3 + 1 ≤ x155_3) (w155_2 : (∀ A, mm_exj 31 A → mm_at9 (h.2.1 107) p1 (A.flatMap mm_en ++ [0]) → mm_WR h h155_ A x155_3 x155_2)), mm_W x 0 0 155 [mR 66, mU, mI x155_2, mI x155_3, mU, mU] [] h155_ := by
          intro x155_2 bx155_2 x155_3 bx155_3 h155_ i155_ f155_ w155_0 w155_1 w155_2
          refine mm_goto (tgt := 4) C (mm_dec dk_X12_worth 88 rfl) (by decide) ?_
          exact ih4 x155_2 ⟨by omega, by omega⟩ x155_3 ⟨by omega, by omega⟩ h155_ i155_ f155_ (by first | exact t0 | exact w155_0) (by first | exact w155_2 | exact fun A e l => mm_WR_0 e l) (by omega)
        have J92 : ∀ (w92_0 : ((h4_.2.1 107 x4_3) < 1 ∨ 3 < (h4_.2.1 107 x4_3))), mm_W x 0 0 92 [mR 66, mU, mI x4_2, mI (x4_3 + 1), mI (h4_.2.1 107 x4_3), mU] [] h4_ := by
          intro w92_0
          refine mm_iload C (mm_dec dk_X12_worth 49 rfl) rfl ?_
          refine mm_iconst C (mm_dec dk_X12_worth 50 rfl) ⟨by decide, by decide⟩ ?_
          refine mm_icmp_ne (tgt := 125) C (mm_dec dk_X12_worth 51 rfl) (by decide) (fun c95 => ?_) (fun c95 => ?_)
          · skip
            obtain ⟨zp1, zf2, zo2⟩ := mm_ok_bin zo (by omega)
            have zr2 := mm_ok_rg zo2
            refine mm_iincL (ls2 := [mR 66, mU, mI (x4_2 + (-1)), mI (x4_3 + 1), mI (h4_.2.1 107 x4_3), mU]) C (mm_dec dk_X12_worth 69 rfl) rfl (by decide) ⟨by omega, by omega⟩ rfl ?_
            refine mm_aload_n C (mm_dec dk_X12_worth 70 rfl) rfl ?_
            refine mm_getr (t := 111) C fl_X12_144 (mm_dec dk_X12_worth 71 rfl) rfl rfl (mm_ref i4_ rfl) ?_
            refine mm_iload_n C (mm_dec dk_X12_worth 72 rfl) rfl ?_
            refine mm_iconst C (mm_dec dk_X12_worth 73 rfl) ⟨by decide, by decide⟩ ?_
            refine mm_isub C (mm_dec dk_X12_worth 74 rfl) ⟨by omega, by omega⟩ ?_
            refine mm_iload C (mm_dec dk_X12_worth 75 rfl) rfl ?_
            refine mm_aload_n C (mm_dec dk_X12_worth 76 rfl) rfl ?_
            refine mm_getr (t := 111) C fl_X12_144 (mm_dec dk_X12_worth 77 rfl) rfl rfl (mm_ref i4_ rfl) ?_
            refine mm_iload_n C (mm_dec dk_X12_worth 78 rfl) rfl ?_
            refine mm_iconst C (mm_dec dk_X12_worth 79 rfl) ⟨by decide, by decide⟩ ?_
            refine mm_isub C (mm_dec dk_X12_worth 80 rfl) ⟨by omega, by omega⟩ ?_
            refine mm_iald C (mm_dec dk_X12_worth 81 rfl) rfl (by omega) (by omega) ?_
            have g3 : -2147483648 ≤ (h4_.2.1 111 ((x4_2 + (-1)) - 1)) ∧ (h4_.2.1 111 ((x4_2 + (-1)) - 1)) ≤ 2147483647 := i4_.2.1 111 ((x4_2 + (-1)) - 1)
            refine mm_aload_n C (mm_dec dk_X12_worth 82 rfl) rfl ?_
            refine mm_getr (t := 111) C fl_X12_144 (mm_dec dk_X12_worth 83 rfl) rfl rfl (mm_ref i4_ rfl) ?_
            refine mm_iload_n C (mm_dec dk_X12_worth 84 rfl) rfl ?_
            refine mm_iald C (mm_dec dk_X12_worth 85 rfl) rfl (by omega) (by omega) ?_
            have g4 : -2147483648 ≤ (h4_.2.1 111 (x4_2 + (-1))) ∧ (h4_.2.1 111 (x4_2 + (-1))) ≤ 2147483647 := i4_.2.1 111 (x4_2 + (-1))
            refine mm_cSi (rest := [mI ((x4_2 + (-1)) - 1), mR 111]) C1 es_X12_463 (mm_dec dk_X12_worth 86 rfl) (c_X12_works_q x.2.1 hl (d - 1) (by omega) h4_ i4_ (h4_.2.1 107 x4_3) (h4_.2.1 111 ((x4_2 + (-1)) - 1)) (h4_.2.1 111 (x4_2 + (-1)))) rfl (Nat.le_of_ble_eq_true rfl) ⟨by decide, by decide⟩ rfl (fun r151 h151c hp151 => ?_) (fun _ _ q => q.elim)
            obtain ⟨b151, z151, y151_0⟩ := hp151
            rw [z151]
            refine mm_iast C (mm_dec dk_X12_worth 87 rfl) rfl (by omega) (by omega) ?_
            have i1 : mm_inv (mm_pa h4_ 111 ((x4_2 + (-1)) - 1) r151) := mm_inv_pa i4_ (show -2147483648 ≤ r151 ∧ r151 ≤ 2147483647 from ⟨by omega, by omega⟩)
            have f1 : mm_fr [] [111] h (mm_pa h4_ 111 ((x4_2 + (-1)) - 1) r151) := mm_fr_pa f4_ (by decide)
            obtain ⟨h1, eh1⟩ : ∃ z, z = mm_pa h4_ 111 ((x4_2 + (-1)) - 1) r151 := ⟨_, rfl⟩
            rw [← eh1] at i1 f1 ⊢
            refine mm_fgt 4 ?_
            exact J155 (x4_2 + (-1)) ⟨by omega, by omega⟩ (x4_3 + 1) ⟨by omega, by omega⟩ h1 i1 f1 (by first | exact ⟨_, zo2⟩ | (rw [show x4_3 + 1 + 1 = x4_3 + 2 by omega]; exact ⟨_, zo2⟩)) (by omega) (by first | exact fun A e l => mm_WR_pu (w4_1 A e l) ⟨by omega, by omega⟩ (by omega) (mm_up_pa (fun _ => rfl) eh1 (fun _ => rfl) rfl rfl) w85_0 | exact fun A e l => mm_WR_pu (w4_1 A e l) ⟨by omega, by omega⟩ (by omega) (mm_up_pa (fun _ => rfl) eh2 (fun _ => rfl) rfl rfl) w85_0 | exact fun A e l => mm_WR_pu (w4_1 A e l) ⟨by omega, by omega⟩ (by omega) (mm_up_pa (fun _ => rfl) eh3 (fun _ => rfl) rfl rfl) w85_0 | exact fun A e l => mm_WR_no (w4_1 A e l) (by omega) (by omega) (mm_up_pa (fun _ => rfl) eh1 (fun _ => rfl) rfl rfl) w121_0 | exact fun A e l => mm_WR_no (w4_1 A e l) (by omega) (by omega) (mm_up_pa (fun _ => rfl) eh2 (fun _ => rfl) rfl rfl) w121_0 | exact fun A e l => mm_WR_no (w4_1 A e l) (by omega) (by omega) (mm_up_pa (fun _ => rfl) eh3 (fun _ => rfl) rfl rfl) w121_0 | exact fun A e l => mm_WR_bi2 (w4_1 A e l) zk (by omega) (by omega) (by omega) (by omega) (mm_up_pa (fun _ => rfl) eh1 (fun _ => rfl) rfl rfl) y151_0 (by omega) (by omega) (by omega) | exact fun A e l => mm_WR_bi2 (w4_1 A e l) zk (by omega) (by omega) (by omega) (by omega) (mm_up_pa (fun _ => rfl) eh2 (fun _ => rfl) rfl rfl) y151_0 (by omega) (by omega) (by omega) | exact fun A e l => mm_WR_bi2 (w4_1 A e l) zk (by omega) (by omega) (by omega) (by omega) (mm_up_pa (fun _ => rfl) eh3 (fun _ => rfl) rfl rfl) y151_0 (by omega) (by omega) (by omega))
          · skip
            obtain ⟨zp1, zf2, zo2⟩ := mm_ok_no zo (by omega)
            have zr2 := mm_ok_rg zo2
            refine mm_aload_n C (mm_dec dk_X12_worth 52 rfl) rfl ?_
            refine mm_getr (t := 111) C fl_X12_144 (mm_dec dk_X12_worth 53 rfl) rfl rfl (mm_ref i4_ rfl) ?_
            refine mm_iload_n C (mm_dec dk_X12_worth 54 rfl) rfl ?_
            refine mm_iconst C (mm_dec dk_X12_worth 55 rfl) ⟨by decide, by decide⟩ ?_
            refine mm_isub C (mm_dec dk_X12_worth 56 rfl) ⟨by omega, by omega⟩ ?_
            refine mm_aload_n C (mm_dec dk_X12_worth 57 rfl) rfl ?_
            refine mm_getr (t := 111) C fl_X12_144 (mm_dec dk_X12_worth 58 rfl) rfl rfl (mm_ref i4_ rfl) ?_
            refine mm_iload_n C (mm_dec dk_X12_worth 59 rfl) rfl ?_
            refine mm_iconst C (mm_dec dk_X12_worth 60 rfl) ⟨by decide, by decide⟩ ?_
            refine mm_isub C (mm_dec dk_X12_worth 61 rfl) ⟨by omega, by omega⟩ ?_
            refine mm_iald C (mm_dec dk_X12_worth 62 rfl) rfl (by omega) (by omega) ?_
            have g6 : -2147483648 ≤ (h4_.2.1 111 (x4_2 - 1)) ∧ (h4_.2.1 111 (x4_2 - 1)) ≤ 2147483647 := i4_.2.1 111 (x4_2 - 1)
            have J121 : ∀ (s121_2 : Int) (bs121_2 : 0 ≤ s121_2 ∧ s121_2 ≤ 1) (w121_0 : s121_2 = (if h4_.2.1 111 (x4_2 - 1) = 0 then 1 else 0)) (vs121_2 : ((h4_.2.1 111 (x4_2 - 1)) ≠ 0 ∧ s121_2 = 0) ∨ ((h4_.2.1 111 (x4_2 - 1)) = 0 ∧ s121_2 = 1)), mm_W x 0 0 121 [mR 66, mU, mI x4_2, mI (x4_3 + 1), mU, mU] [mI s121_2, mI (x4_2 - 1), mR 111] h4_ := by
              intro s121_2 bs121_2 w121_0 vs121_2
              refine mm_iast C (mm_dec dk_X12_worth 67 rfl) rfl (by omega) (by omega) ?_
              have i2 : mm_inv (mm_pa h4_ 111 (x4_2 - 1) s121_2) := mm_inv_pa i4_ (show -2147483648 ≤ s121_2 ∧ s121_2 ≤ 2147483647 from ⟨by omega, by omega⟩)
              have f2 : mm_fr [] [111] h (mm_pa h4_ 111 (x4_2 - 1) s121_2) := mm_fr_pa f4_ (by decide)
              obtain ⟨h2, eh2⟩ : ∃ z, z = mm_pa h4_ 111 (x4_2 - 1) s121_2 := ⟨_, rfl⟩
              rw [← eh2] at i2 f2 ⊢
              refine mm_goto (tgt := 155) C (mm_dec dk_X12_worth 68 rfl) (by decide) ?_
              exact J155 x4_2 ⟨by omega, by omega⟩ (x4_3 + 1) ⟨by omega, by omega⟩ h2 i2 f2 (by first | exact ⟨_, zo2⟩ | (rw [show x4_3 + 1 + 1 = x4_3 + 2 by omega]; exact ⟨_, zo2⟩)) (by omega) (by first | exact fun A e l => mm_WR_pu (w4_1 A e l) ⟨by omega, by omega⟩ (by omega) (mm_up_pa (fun _ => rfl) eh1 (fun _ => rfl) rfl rfl) w85_0 | exact fun A e l => mm_WR_pu (w4_1 A e l) ⟨by omega, by omega⟩ (by omega) (mm_up_pa (fun _ => rfl) eh2 (fun _ => rfl) rfl rfl) w85_0 | exact fun A e l => mm_WR_pu (w4_1 A e l) ⟨by omega, by omega⟩ (by omega) (mm_up_pa (fun _ => rfl) eh3 (fun _ => rfl) rfl rfl) w85_0 | exact fun A e l => mm_WR_no (w4_1 A e l) (by omega) (by omega) (mm_up_pa (fun _ => rfl) eh1 (fun _ => rfl) rfl rfl) w121_0 | exact fun A e l => mm_WR_no (w4_1 A e l) (by omega) (by omega) (mm_up_pa (fun _ => rfl) eh2 (fun _ => rfl) rfl rfl) w121_0 | exact fun A e l => mm_WR_no (w4_1 A e l) (by omega) (by omega) (mm_up_pa (fun _ => rfl) eh3 (fun _ => rfl) rfl rfl) w121_0 | exact fun A e l => mm_WR_bi2 (w4_1 A e l) zk (by omega) (by omega) (by omega) (by omega) (mm_up_pa (fun _ => rfl) eh1 (fun _ => rfl) rfl rfl) y151_0 (by omega) (by omega) (by omega) | exact fun A e l => mm_WR_bi2 (w4_1 A e l) zk (by omega) (by omega) (by omega) (by omega) (mm_up_pa (fun _ => rfl) eh2 (fun _ => rfl) rfl rfl) y151_0 (by omega) (by omega) (by omega) | exact fun A e l => mm_WR_bi2 (w4_1 A e l) zk (by omega) (by omega) (by omega) (by omega) (mm_up_pa (fun _ => rfl) eh3 (fun _ => rfl) rfl rfl) y151_0 (by omega) (by omega) (by omega))
            refine mm_if_ne (tgt := 120) C (mm_dec dk_X12_worth 63 rfl) (by decide) (fun c113 => ?_) (fun c113 => ?_)
            · skip
              refine mm_iconst C (mm_dec dk_X12_worth 66 rfl) ⟨by decide, by decide⟩ ?_
              refine mm_fgt 4 ?_
              exact J121 0 ⟨by omega, by omega⟩ (by first | exact (if_pos (by omega)).symm | exact (if_neg (by omega)).symm) (Or.inl ⟨by omega, rfl⟩)
            · skip
              refine mm_iconst C (mm_dec dk_X12_worth 64 rfl) ⟨by decide, by decide⟩ ?_
              refine mm_goto (tgt := 121) C (mm_dec dk_X12_worth 65 rfl) (by decide) ?_
              refine mm_fgt 4 ?_
              exact J121 1 ⟨by omega, by omega⟩ (by first | exact (if_pos (by omega)).symm | exact (if_neg (by omega)).symm) (Or.inr (⟨by omega, rfl⟩))
        refine mm_icmp_lt (tgt := 92) C (mm_dec dk_X12_worth 17 rfl) (by decide) (fun c27 => ?_) (fun c27 => ?_)
        · skip
          exact J92 (by omega)
        · skip
          refine mm_iload C (mm_dec dk_X12_worth 18 rfl) rfl ?_
          refine mm_iconst C (mm_dec dk_X12_worth 19 rfl) ⟨by decide, by decide⟩ ?_
          refine mm_icmp_gt (tgt := 92) C (mm_dec dk_X12_worth 20 rfl) (by decide) (fun c33 => ?_) (fun c33 => ?_)
          · skip
            exact J92 (by omega)
          · skip
            obtain ⟨zp1, zp2, zp3, zp4, zf2, zo2⟩ := mm_ok_push zo (by omega) (by omega)
            have zr2 := mm_ok_rg zo2
            have zk2 : h4_.2.1 107 (x4_3 + 1) = h.2.1 107 (x4_3 + 1) := f4_.2 107 (by decide) _
            refine mm_aload_n C (mm_dec dk_X12_worth 21 rfl) rfl ?_
            refine mm_getr (t := 107) C fl_X12_132 (mm_dec dk_X12_worth 22 rfl) rfl rfl (mm_ref i4_ rfl) ?_
            refine mm_iload_n C (mm_dec dk_X12_worth 23 rfl) rfl ?_
            refine mm_iald C (mm_dec dk_X12_worth 24 rfl) rfl (by omega) (by omega) ?_
            have g7 : -2147483648 ≤ (h4_.2.1 107 (x4_3 + 1)) ∧ (h4_.2.1 107 (x4_3 + 1)) ≤ 2147483647 := i4_.2.1 107 (x4_3 + 1)
            refine mm_istoreL (ls2 := [mR 66, mU, mI x4_2, mI (x4_3 + 1), mI (h4_.2.1 107 x4_3), mI (h4_.2.1 107 (x4_3 + 1))]) C (mm_dec dk_X12_worth 25 rfl) (by decide) rfl ?_
            refine mm_iincL (ls2 := [mR 66, mU, mI x4_2, mI ((x4_3 + 1) + 1), mI (h4_.2.1 107 x4_3), mI (h4_.2.1 107 (x4_3 + 1))]) C (mm_dec dk_X12_worth 26 rfl) rfl (by decide) ⟨by omega, by omega⟩ rfl ?_
            refine mm_aload_n C (mm_dec dk_X12_worth 27 rfl) rfl ?_
            refine mm_getr (t := 111) C fl_X12_144 (mm_dec dk_X12_worth 28 rfl) rfl rfl (mm_ref i4_ rfl) ?_
            refine mm_iload_n C (mm_dec dk_X12_worth 29 rfl) rfl ?_
            refine mm_iload C (mm_dec dk_X12_worth 30 rfl) rfl ?_
            refine mm_iconst C (mm_dec dk_X12_worth 31 rfl) ⟨by decide, by decide⟩ ?_
            have J85 : ∀ (s85_2 : Int) (bs85_2 : -2147483648 ≤ s85_2 ∧ s85_2 ≤ 2147483647) (w85_0 : s85_2 = mm_wx9 h x4_3), mm_W x 0 0 85 [mR 66, mU, mI x4_2, mI ((x4_3 + 1) + 1), mU, mU] [mI s85_2, mI x4_2, mR 111] h4_ := by
              intro s85_2 bs85_2 w85_0
              refine mm_iast C (mm_dec dk_X12_worth 46 rfl) rfl (by omega) (by omega) ?_
              have i3 : mm_inv (mm_pa h4_ 111 x4_2 s85_2) := mm_inv_pa i4_ (show -2147483648 ≤ s85_2 ∧ s85_2 ≤ 2147483647 from ⟨by omega, by omega⟩)
              have f3 : mm_fr [] [111] h (mm_pa h4_ 111 x4_2 s85_2) := mm_fr_pa f4_ (by decide)
              obtain ⟨h3, eh3⟩ : ∃ z, z = mm_pa h4_ 111 x4_2 s85_2 := ⟨_, rfl⟩
              rw [← eh3] at i3 f3 ⊢
              refine mm_iincL (ls2 := [mR 66, mU, mI (x4_2 + 1), mI ((x4_3 + 1) + 1), mU, mU]) C (mm_dec dk_X12_worth 47 rfl) rfl (by decide) ⟨by omega, by omega⟩ rfl ?_
              refine mm_goto (tgt := 155) C (mm_dec dk_X12_worth 48 rfl) (by decide) ?_
              exact J155 (x4_2 + 1) ⟨by omega, by omega⟩ ((x4_3 + 1) + 1) ⟨by omega, by omega⟩ h3 i3 f3 (by first | exact ⟨_, zo2⟩ | (rw [show x4_3 + 1 + 1 = x4_3 + 2 by omega]; exact ⟨_, zo2⟩)) (by omega) (by first | exact fun A e l => mm_WR_pu (w4_1 A e l) ⟨by omega, by omega⟩ (by omega) (mm_up_pa (fun _ => rfl) eh1 (fun _ => rfl) rfl rfl) w85_0 | exact fun A e l => mm_WR_pu (w4_1 A e l) ⟨by omega, by omega⟩ (by omega) (mm_up_pa (fun _ => rfl) eh2 (fun _ => rfl) rfl rfl) w85_0 | exact fun A e l => mm_WR_pu (w4_1 A e l) ⟨by omega, by omega⟩ (by omega) (mm_up_pa (fun _ => rfl) eh3 (fun _ => rfl) rfl rfl) w85_0 | exact fun A e l => mm_WR_no (w4_1 A e l) (by omega) (by omega) (mm_up_pa (fun _ => rfl) eh1 (fun _ => rfl) rfl rfl) w121_0 | exact fun A e l => mm_WR_no (w4_1 A e l) (by omega) (by omega) (mm_up_pa (fun _ => rfl) eh2 (fun _ => rfl) rfl rfl) w121_0 | exact fun A e l => mm_WR_no (w4_1 A e l) (by omega) (by omega) (mm_up_pa (fun _ => rfl) eh3 (fun _ => rfl) rfl rfl) w121_0 | exact fun A e l => mm_WR_bi2 (w4_1 A e l) zk (by omega) (by omega) (by omega) (by omega) (mm_up_pa (fun _ => rfl) eh1 (fun _ => rfl) rfl rfl) y151_0 (by omega) (by omega) (by omega) | exact fun A e l => mm_WR_bi2 (w4_1 A e l) zk (by omega) (by omega) (by omega) (by omega) (mm_up_pa (fun _ => rfl) eh2 (fun _ => rfl) rfl rfl) y151_0 (by omega) (by omega) (by omega) | exact fun A e l => mm_WR_bi2 (w4_1 A e l) zk (by omega) (by omega) (by omega) (by omega) (mm_up_pa (fun _ => rfl) eh3 (fun _ => rfl) rfl rfl) y151_0 (by omega) (by omega) (by omega))
            refine mm_icmp_ne (tgt := 63) C (mm_dec dk_X12_worth 32 rfl) (by decide) (fun c55 => ?_) (fun c55 => ?_)
            · skip
              refine mm_iload C (mm_dec dk_X12_worth 35 rfl) rfl ?_
              refine mm_iconst C (mm_dec dk_X12_worth 36 rfl) ⟨by decide, by decide⟩ ?_
              refine mm_icmp_ne (tgt := 79) C (mm_dec dk_X12_worth 37 rfl) (by decide) (fun c66 => ?_) (fun c66 => ?_)
              · skip
                refine mm_aload_n C (mm_dec dk_X12_worth 43 rfl) rfl ?_
                refine mm_iload C (mm_dec dk_X12_worth 44 rfl) rfl ?_
                refine mm_cVi (rest := [mI x4_2, mR 111]) C1 ev_X12_460 (mm_dec dk_X12_worth 45 rfl) (c_X12_paramOf_q x.2.1 hl (d - 1) (by omega) h4_ i4_ (h4_.2.1 107 (x4_3 + 1)) ⟨by omega, by omega⟩) rfl rfl (Nat.le_of_ble_eq_true rfl) ⟨by decide, by decide⟩ rfl (fun r82 h82c hp82 => ?_) (fun _ _ q => q.elim)
                obtain ⟨b82, z82, y82_0⟩ := hp82
                rw [z82]
                refine mm_fgt 4 ?_
                refine mm_fgt 5 ?_
                exact J85 r82 ⟨by omega, by omega⟩ (by first | exact (show _ = h.2.1 107 (x4_3 + 1) by omega).trans (if_pos (by omega)).symm | exact ((f4_.2 110 (by decide) _).trans (congrArg (h.2.1 110) zk2)).trans (mm_wx_2 (by omega)).symm | exact y82_0.trans ((mm_pr_sm (f4_.2 102 (by decide)) (f4_.1 66 67 (by decide)) (f4_.1 66 68 (by decide))).trans ((congrArg (mm_pr h) zk2).trans (mm_wx_3 (by omega)).symm)))
              · skip
                refine mm_aload_n C (mm_dec dk_X12_worth 38 rfl) rfl ?_
                refine mm_getr (t := 110) C fl_X12_141 (mm_dec dk_X12_worth 39 rfl) rfl rfl (mm_ref i4_ rfl) ?_
                refine mm_iload C (mm_dec dk_X12_worth 40 rfl) rfl ?_
                refine mm_iald C (mm_dec dk_X12_worth 41 rfl) rfl (by omega) (by omega) ?_
                have g9 : -2147483648 ≤ (h4_.2.1 110 (h4_.2.1 107 (x4_3 + 1))) ∧ (h4_.2.1 110 (h4_.2.1 107 (x4_3 + 1))) ≤ 2147483647 := i4_.2.1 110 (h4_.2.1 107 (x4_3 + 1))
                refine mm_goto (tgt := 85) C (mm_dec dk_X12_worth 42 rfl) (by decide) ?_
                refine mm_fgt 4 ?_
                refine mm_fgt 5 ?_
                exact J85 (h4_.2.1 110 (h4_.2.1 107 (x4_3 + 1))) ⟨by omega, by omega⟩ (by first | exact (show _ = h.2.1 107 (x4_3 + 1) by omega).trans (if_pos (by omega)).symm | exact ((f4_.2 110 (by decide) _).trans (congrArg (h.2.1 110) zk2)).trans (mm_wx_2 (by omega)).symm | exact y82_0.trans ((mm_pr_sm (f4_.2 102 (by decide)) (f4_.1 66 67 (by decide)) (f4_.1 66 68 (by decide))).trans ((congrArg (mm_pr h) zk2).trans (mm_wx_3 (by omega)).symm)))
            · skip
              refine mm_iload C (mm_dec dk_X12_worth 33 rfl) rfl ?_
              refine mm_goto (tgt := 85) C (mm_dec dk_X12_worth 34 rfl) (by decide) ?_
              refine mm_fgt 4 ?_
              refine mm_fgt 5 ?_
              exact J85 (h4_.2.1 107 (x4_3 + 1)) ⟨by omega, by omega⟩ (by first | exact (show _ = h.2.1 107 (x4_3 + 1) by omega).trans (if_pos (by omega)).symm | exact ((f4_.2 110 (by decide) _).trans (congrArg (h.2.1 110) zk2)).trans (mm_wx_2 (by omega)).symm | exact y82_0.trans ((mm_pr_sm (f4_.2 102 (by decide)) (f4_.1 66 67 (by decide)) (f4_.1 66 68 (by decide))).trans ((congrArg (mm_pr h) zk2).trans (mm_wx_3 (by omega)).symm)))
  refine mm_istore_nL (ls2 := [mR 66, mI p1, mI 0, mI p1, mU, mU]) C (mm_dec dk_X12_worth 3 rfl) (by decide) rfl ?_
  refine mm_fgt 1 ?_
  exact J4 (((2399 - p1) : Int) + 1).toNat 0 ⟨by omega, by omega⟩ p1 ⟨by omega, by omega⟩ h i0 f0 (by first | exact t0 | exact w155_0) (by first | exact w155_2 | exact fun A e l => mm_WR_0 e l) (by omega)
set_option maxRecDepth 100000 in
set_option maxHeartbeats 4000000 in
theorem c_X12_clauseWorth_q (l : Launch) (hl : l.stackTraces = false) (d : Nat) (hd : 2 ≤ d) (h : mH) (i0 : mm_inv h) (p1 : Int) (bp1 : 0 ≤ p1 ∧ p1 ≤ 39) (t0 : (∃ f, mm_ok (mm_cd h) f (h.2.1 105 p1) 0) ∧ (h.2.1 106 p1 = -1 ∨ ∃ f, mm_ok (mm_cd h) f (h.2.1 106 p1) 0)) : mm_Met l d yX12_clauseWorth cX12_clauseWorth 2 (some .int) [mR 66, mI p1] h (mm_pi fun r h2 => (-2147483648 ≤ r ∧ r ≤ 2147483647) ∧ mm_inv h2 ∧ mm_fr [] [111] h h2 ∧ (∀ q, mm_wc9 q → q.1 ≠ 2 → mm_lq9 h p1 q → r = mm_cw9 (h.2.1 110) (mm_pr h) q)) mm_nx 0 0 := by
  refine mm_ofW (ls := [mR 66, mI p1]) hl (by decide) rfl (Nat.le_of_ble_eq_true rfl) ?_
  intro x hxl C T hnm htb
  subst hxl
  have C1 := mm_OK_le (d' := d - 1 + 1) (by omega) C
  refine mm_rng (fun hr _ => ?_)
  have ap1 : -2147483648 ≤ p1 ∧ p1 < 2147483648 := mm_ok_at hr (i := 1) rfl
  have f0 : mm_fr [] [111] h h := mm_fr_rf
  refine mm_aload_n C (mm_dec dk_X12_clauseWorth 0 rfl) rfl ?_
  refine mm_getr (t := 106) C fl_X12_129 (mm_dec dk_X12_clauseWorth 1 rfl) rfl rfl (mm_ref i0 rfl) ?_
  refine mm_iload_n C (mm_dec dk_X12_clauseWorth 2 rfl) rfl ?_
  refine mm_iald C (mm_dec dk_X12_clauseWorth 3 rfl) rfl (by omega) (by omega) ?_
  have g1 : -1 ≤ (h.2.1 106 p1) ∧ (h.2.1 106 p1) ≤ 2399 := i0.2.1 106 p1
  refine mm_iconst C (mm_dec dk_X12_clauseWorth 4 rfl) ⟨by decide, by decide⟩ ?_
  have J37 : ∀ (s37_0 : Int) (bs37_0 : -2147483648 ≤ s37_0 ∧ s37_0 ≤ 2147483647) (h37_ : mH) (i37_ : mm_inv h37_) (f37_ : mm_fr [] [111] h h37_) (w37_0 : (∀ q, mm_wc9 q → q.1 ≠ 2 → mm_lq9 h p1 q → s37_0 = mm_cw9 (h.2.1 110) (mm_pr h) q)), mm_W x 0 0 37 [mU, mU] [mI s37_0] h37_ := by
    intro s37_0 bs37_0 h37_ i37_ f37_ w37_0
    exact mm_iret C T (mm_dec dk_X12_clauseWorth 21 rfl) (by decide : 0 ≤ 0) (by decide : 0 ≤ 0) ⟨_, rfl, ⟨⟨by omega, by omega⟩, i37_, f37_, by exact w37_0⟩⟩
  have J27 : ∀ (h27_ : mH) (i27_ : mm_inv h27_) (f27_ : mm_fr [] [111] h h27_) (w27_0 : (∀ q, mm_wc9 q → q.1 ≠ 2 → mm_lq9 h p1 q → q.2.2 = [] ∨ mm_ev9 (h.2.1 110) (mm_pr h) q.2.2 = 0)), mm_W x 0 0 27 [mR 66, mI p1] [] h27_ := by
    intro h27_ i27_ f27_ w27_0
    refine mm_aload_n C (mm_dec dk_X12_clauseWorth 15 rfl) rfl ?_
    refine mm_aload_n C (mm_dec dk_X12_clauseWorth 16 rfl) rfl ?_
    refine mm_getr (t := 105) C fl_X12_126 (mm_dec dk_X12_clauseWorth 17 rfl) rfl rfl (mm_ref i27_ rfl) ?_
    refine mm_iload_n C (mm_dec dk_X12_clauseWorth 18 rfl) rfl ?_
    refine mm_iald C (mm_dec dk_X12_clauseWorth 19 rfl) rfl (by omega) (by omega) ?_
    have g2 : 0 ≤ (h27_.2.1 105 p1) ∧ (h27_.2.1 105 p1) ≤ 2399 := i27_.2.1 105 p1
    refine mm_cVi (rest := []) C1 ev_X12_466 (mm_dec dk_X12_clauseWorth 20 rfl) (c_X12_worth_q x.2.1 hl (d - 1) (by omega) h27_ i27_ (h27_.2.1 105 p1) ⟨by omega, by omega⟩ (by exact mm_okx_fr t0.1 f27_ (by decide))) rfl rfl (Nat.le_of_ble_eq_true rfl) ⟨by decide, by decide⟩ rfl (fun r34 h34c hp34 => ?_) (fun _ _ q => q.elim)
    obtain ⟨b34, i34c, g34c, y34_0⟩ := hp34
    have f34c : mm_fr [] [111] h h34c := mm_fr_tr f27_ g34c (by decide +kernel)
    refine mm_fgt 0 ?_
    refine mm_fgt 1 ?_
    exact J37 r34 ⟨by omega, by omega⟩ h34c i34c f34c (by first | exact fun q w n l => mm_cw_0 (mm_lq_u y17_0 w n l (by omega)).1 (fun z => absurd ((mm_lq_u y17_0 w n l (by omega)).2.trans z) (by omega)) | exact fun q w n l => mm_cw_1 (w27_0 q w n l) (mm_lq_c y34_0 w n l f27_))
  refine mm_icmp_eq (tgt := 27) C (mm_dec dk_X12_clauseWorth 5 rfl) (by decide) (fun c7 => ?_) (fun c7 => ?_)
  · skip
    exact J27 h i0 f0 (by first | exact fun q w n l => Or.inl (mm_lq_n l (by omega)) | exact fun q w n l => Or.inr ((mm_lq_u y17_0 w n l (by omega)).2.symm.trans (by omega)))
  · skip
    refine mm_aload_n C (mm_dec dk_X12_clauseWorth 6 rfl) rfl ?_
    refine mm_aload_n C (mm_dec dk_X12_clauseWorth 7 rfl) rfl ?_
    refine mm_getr (t := 106) C fl_X12_129 (mm_dec dk_X12_clauseWorth 8 rfl) rfl rfl (mm_ref i0 rfl) ?_
    refine mm_iload_n C (mm_dec dk_X12_clauseWorth 9 rfl) rfl ?_
    refine mm_iald C (mm_dec dk_X12_clauseWorth 10 rfl) rfl (by omega) (by omega) ?_
    refine mm_cVi (rest := []) C1 ev_X12_466 (mm_dec dk_X12_clauseWorth 11 rfl) (c_X12_worth_q x.2.1 hl (d - 1) (by omega) h i0 (h.2.1 106 p1) ⟨by omega, by omega⟩ (by exact t0.2.resolve_left (by omega))) rfl rfl (Nat.le_of_ble_eq_true rfl) ⟨by decide, by decide⟩ rfl (fun r17 h17c hp17 => ?_) (fun _ _ q => q.elim)
    obtain ⟨b17, i17c, g17c, y17_0⟩ := hp17
    have f17c : mm_fr [] [111] h h17c := mm_fr_tr f0 g17c (by decide +kernel)
    refine mm_if_eq (tgt := 27) C (mm_dec dk_X12_clauseWorth 12 rfl) (by decide) (fun c20 => ?_) (fun c20 => ?_)
    · skip
      exact J27 h17c i17c f17c (by first | exact fun q w n l => Or.inl (mm_lq_n l (by omega)) | exact fun q w n l => Or.inr ((mm_lq_u y17_0 w n l (by omega)).2.symm.trans (by omega)))
    · skip
      refine mm_iconst C (mm_dec dk_X12_clauseWorth 13 rfl) ⟨by decide, by decide⟩ ?_
      refine mm_goto (tgt := 37) C (mm_dec dk_X12_clauseWorth 14 rfl) (by decide) ?_
      refine mm_fgt 0 ?_
      refine mm_fgt 1 ?_
      exact J37 0 ⟨by omega, by omega⟩ h17c i17c f17c (by first | exact fun q w n l => mm_cw_0 (mm_lq_u y17_0 w n l (by omega)).1 (fun z => absurd ((mm_lq_u y17_0 w n l (by omega)).2.trans z) (by omega)) | exact fun q w n l => mm_cw_1 (w27_0 q w n l) (mm_lq_c y34_0 w n l f27_))
