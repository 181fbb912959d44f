set_option maxRecDepth 100000 in
set_option maxHeartbeats 4000000 in
theorem c_X12_stateOf_q (l : Launch) (hl : l.stackTraces = false) (d : Nat) (hd : 5 ≤ d) (h : mH) (i0 : mm_inv h) (p1 : Int) (p2 : Int) (bp1 : 0 ≤ p1 ∧ p1 ≤ 39) (t0 : mm_RO h) : mm_Met l d yX12_stateOf cX12_stateOf 6 (some .int) [mR 66, mI p1, mI p2] h (mm_pi fun r h2 => (0 ≤ r ∧ r ≤ 4) ∧ mm_inv h2 ∧ mm_fr [(66, 39), (66, 48), (66, 52), (66, 53), (66, 54), (66, 87), (66, 88)] [91, 98, 99, 100, 110, 111] h h2 ∧ mm_ZY9 h h2 p1 p2 r) mm_nx 0 0 := by
  refine mm_ofW (ls := [mR 66, mI p1, mI p2, mU, mU, mU]) hl (by decide) rfl (Nat.le_of_ble_eq_true rfl) ?_
  intro x hxl C T hnm htb
  subst hxl
  have C1 := mm_OK_le (d' := d - 1 + 1) (by omega) C
  refine mm_rng (fun hr _ => ?_)
  have ap1 : -2147483648 ≤ p1 ∧ p1 < 2147483648 := mm_ok_at hr (i := 1) rfl
  have ap2 : -2147483648 ≤ p2 ∧ p2 < 2147483648 := mm_ok_at hr (i := 2) rfl
  have f0 : mm_fr [(66, 39), (66, 48), (66, 52), (66, 53), (66, 54), (66, 87), (66, 88)] [91, 98, 99, 100, 110, 111] h h := mm_fr_rf
  have g1 : -2147483648 ≤ h.1 66 52 ∧ h.1 66 52 ≤ 2147483647 := i0.1 66 52
  have g2 : -2147483648 ≤ h.1 66 53 ∧ h.1 66 53 ≤ 2147483647 := i0.1 66 53
  have g3 : -2147483648 ≤ h.1 66 54 ∧ h.1 66 54 ≤ 2147483647 := i0.1 66 54
  have g4 : -2147483648 ≤ h.1 66 87 ∧ h.1 66 87 ≤ 2147483647 := i0.1 66 87
  have g5 : 0 ≤ h.1 66 88 ∧ h.1 66 88 ≤ 1 := i0.1 66 88
  refine mm_aload_n C (mm_dec dk_X12_stateOf 0 rfl) rfl ?_
  refine mm_iload_n C (mm_dec dk_X12_stateOf 1 rfl) rfl ?_
  refine mm_iload_n C (mm_dec dk_X12_stateOf 2 rfl) rfl ?_
  refine mm_cVi (rest := []) C1 ev_X12_472 (mm_dec dk_X12_stateOf 3 rfl) (c_X12_startOf_q x.2.1 hl (d - 1) (by omega) h i0 p1 p2 ⟨by omega, by omega⟩) rfl rfl (Nat.le_of_ble_eq_true rfl) ⟨by decide, by decide⟩ rfl (fun r3 h3c hp3 => ?_) (fun _ _ q => q.elim)
  obtain ⟨b3, z3, y3_0⟩ := hp3
  rw [z3]
  refine mm_istore_nL (ls2 := [mR 66, mI p1, mI p2, mI r3, mU, mU]) C (mm_dec dk_X12_stateOf 4 rfl) (by decide) rfl ?_
  refine mm_iload_n C (mm_dec dk_X12_stateOf 5 rfl) rfl ?_
  refine mm_iconst C (mm_dec dk_X12_stateOf 6 rfl) ⟨by decide, by decide⟩ ?_
  have J17 : ∀ (w17_0 : (r3 = -1 ∨ p2 < r3)), mm_W x 0 0 17 [mU, mU, mU, mU, mU, mU] [] h := by
    intro w17_0
    have g7 : -2147483648 ≤ h.1 66 52 ∧ h.1 66 52 ≤ 2147483647 := i0.1 66 52
    have g8 : -2147483648 ≤ h.1 66 53 ∧ h.1 66 53 ≤ 2147483647 := i0.1 66 53
    have g9 : -2147483648 ≤ h.1 66 54 ∧ h.1 66 54 ≤ 2147483647 := i0.1 66 54
    have g10 : -2147483648 ≤ h.1 66 87 ∧ h.1 66 87 ≤ 2147483647 := i0.1 66 87
    have g11 : 0 ≤ h.1 66 88 ∧ h.1 66 88 ≤ 1 := i0.1 66 88
    refine mm_iconst C (mm_dec dk_X12_stateOf 11 rfl) ⟨by decide, by decide⟩ ?_
    exact mm_iret C T (mm_dec dk_X12_stateOf 12 rfl) (by decide : 0 ≤ 0) (by decide : 0 ≤ 0) ⟨_, rfl, ⟨⟨by omega, by omega⟩, i0, f0, by first | exact ⟨r3, y3_0, Or.inl ⟨w17_0, rfl⟩⟩ | exact ⟨r3, y3_0, Or.inr ⟨by omega, by omega, r22, y22_0, Or.inl ⟨w39_0, rfl⟩⟩⟩ | exact ⟨r3, y3_0, Or.inr ⟨by omega, by omega, r22, y22_0, Or.inr ⟨by omega, by omega, y52_0, (by rw [← zV]; exact w92_0)⟩⟩⟩ | exact ⟨r3, y3_0, Or.inr ⟨by omega, by omega, r22, y22_0, Or.inr ⟨by omega, by omega, y52_0, (by rw [← zV]; unfold mm_sb9; (repeat' split) <;> omega)⟩⟩⟩⟩⟩
  refine mm_icmp_eq (tgt := 17) C (mm_dec dk_X12_stateOf 7 rfl) (by decide) (fun c9 => ?_) (fun c9 => ?_)
  · skip
    refine mm_fgt 0 ?_
    refine mm_fgt 1 ?_
    refine mm_fgt 2 ?_
    refine mm_fgt 3 ?_
    exact J17 (by omega)
  · skip
    refine mm_iload_n C (mm_dec dk_X12_stateOf 8 rfl) rfl ?_
    refine mm_iload_n C (mm_dec dk_X12_stateOf 9 rfl) rfl ?_
    refine mm_icmp_le (tgt := 19) C (mm_dec dk_X12_stateOf 10 rfl) (by decide) (fun c14 => ?_) (fun c14 => ?_)
    · skip
      refine mm_aload_n C (mm_dec dk_X12_stateOf 13 rfl) rfl ?_
      refine mm_iload_n C (mm_dec dk_X12_stateOf 14 rfl) rfl ?_
      refine mm_iload_n C (mm_dec dk_X12_stateOf 15 rfl) rfl ?_
      refine mm_cVi (rest := []) C1 ev_X12_326 (mm_dec dk_X12_stateOf 16 rfl) (c_X12_finishOf_q x.2.1 hl (d - 1) (by omega) h i0 p1 p2 ⟨by omega, by omega⟩) rfl rfl (Nat.le_of_ble_eq_true rfl) ⟨by decide, by decide⟩ rfl (fun r22 h22c hp22 => ?_) (fun _ _ q => q.elim)
      obtain ⟨b22, z22, y22_0⟩ := hp22
      rw [z22]
      refine mm_istoreL (ls2 := [mR 66, mI p1, mI p2, mI r3, mI r22, mU]) C (mm_dec dk_X12_stateOf 17 rfl) (by decide) rfl ?_
      refine mm_iload C (mm_dec dk_X12_stateOf 18 rfl) rfl ?_
      refine mm_iconst C (mm_dec dk_X12_stateOf 19 rfl) ⟨by decide, by decide⟩ ?_
      have J39 : ∀ (w39_0 : (r22 = -1 ∨ r22 < r3)), mm_W x 0 0 39 [mU, mU, mU, mU, mU, mU] [] h := by
        intro w39_0
        have g13 : -2147483648 ≤ h.1 66 52 ∧ h.1 66 52 ≤ 2147483647 := i0.1 66 52
        have g14 : -2147483648 ≤ h.1 66 53 ∧ h.1 66 53 ≤ 2147483647 := i0.1 66 53
        have g15 : -2147483648 ≤ h.1 66 54 ∧ h.1 66 54 ≤ 2147483647 := i0.1 66 54
        have g17 : 0 ≤ h.1 66 88 ∧ h.1 66 88 ≤ 1 := i0.1 66 88
        refine mm_iconst C (mm_dec dk_X12_stateOf 24 rfl) ⟨by decide, by decide⟩ ?_
        exact mm_iret C T (mm_dec dk_X12_stateOf 25 rfl) (by decide : 0 ≤ 0) (by decide : 0 ≤ 0) ⟨_, rfl, ⟨⟨by omega, by omega⟩, i0, f0, by first | exact ⟨r3, y3_0, Or.inl ⟨w17_0, rfl⟩⟩ | exact ⟨r3, y3_0, Or.inr ⟨by omega, by omega, r22, y22_0, Or.inl ⟨w39_0, rfl⟩⟩⟩ | exact ⟨r3, y3_0, Or.inr ⟨by omega, by omega, r22, y22_0, Or.inr ⟨by omega, by omega, y52_0, (by rw [← zV]; exact w92_0)⟩⟩⟩ | exact ⟨r3, y3_0, Or.inr ⟨by omega, by omega, r22, y22_0, Or.inr ⟨by omega, by omega, y52_0, (by rw [← zV]; unfold mm_sb9; (repeat' split) <;> omega)⟩⟩⟩⟩⟩
      refine mm_icmp_eq (tgt := 39) C (mm_dec dk_X12_stateOf 20 rfl) (by decide) (fun c30 => ?_) (fun c30 => ?_)
      · skip
        refine mm_fgt 0 ?_
        refine mm_fgt 1 ?_
        refine mm_fgt 2 ?_
        refine mm_fgt 3 ?_
        refine mm_fgt 4 ?_
        exact J39 (by omega)
      · skip
        refine mm_iload C (mm_dec dk_X12_stateOf 21 rfl) rfl ?_
        refine mm_iload_n C (mm_dec dk_X12_stateOf 22 rfl) rfl ?_
        refine mm_icmp_ge (tgt := 41) C (mm_dec dk_X12_stateOf 23 rfl) (by decide) (fun c36 => ?_) (fun c36 => ?_)
        · skip
          refine mm_aload_n C (mm_dec dk_X12_stateOf 26 rfl) rfl ?_
          refine mm_iload_n C (mm_dec dk_X12_stateOf 27 rfl) rfl ?_
          refine mm_iload_n C (mm_dec dk_X12_stateOf 28 rfl) rfl ?_
          refine mm_cVi (rest := []) C1 ev_X12_484 (mm_dec dk_X12_stateOf 29 rfl) (c_X12_protested_q x.2.1 hl (d - 1) (by omega) h i0 p1 p2) rfl rfl (Nat.le_of_ble_eq_true rfl) ⟨by decide, by decide⟩ rfl (fun r44 h44c hp44 => ?_) (fun _ _ q => q.elim)
          obtain ⟨b44, z44, y44_0⟩ := hp44
          rw [z44]
          have zV : r44 = mm_vY9 h p1 p2 := y44_0
          refine mm_istoreL (ls2 := [mR 66, mI p1, mI p2, mI r3, mI r22, mI r44]) C (mm_dec dk_X12_stateOf 30 rfl) (by decide) rfl ?_
          refine mm_aload_n C (mm_dec dk_X12_stateOf 31 rfl) rfl ?_
          refine mm_iload_n C (mm_dec dk_X12_stateOf 32 rfl) rfl ?_
          refine mm_iload_n C (mm_dec dk_X12_stateOf 33 rfl) rfl ?_
          refine mm_cVv (rest := []) C1 ev_X12_487 (mm_dec dk_X12_stateOf 34 rfl) (c_X12_asks_q x.2.1 hl (d - 1) (by omega) h i0 p1 p2 ⟨by omega, by omega⟩ (by omega)) rfl rfl (Nat.le_of_ble_eq_true rfl) ⟨by decide, by decide⟩ rfl (fun h52c hp52 => ?_) (fun _ _ q => q.elim)
          obtain ⟨i52c, g52c, y52_0⟩ := hp52
          have f52c : mm_fr [(66, 39), (66, 48), (66, 52), (66, 53), (66, 54), (66, 87), (66, 88)] [91, 98, 99, 100, 110, 111] h h52c := mm_fr_tr f0 g52c (by decide +kernel)
          have g20 : -2147483648 ≤ (h52c.1 66 52) ∧ (h52c.1 66 52) ≤ 2147483647 := i52c.1 66 52
          have g21 : -2147483648 ≤ (h52c.1 66 53) ∧ (h52c.1 66 53) ≤ 2147483647 := i52c.1 66 53
          have g22 : -2147483648 ≤ (h52c.1 66 54) ∧ (h52c.1 66 54) ≤ 2147483647 := i52c.1 66 54
          have g23 : -2147483648 ≤ (h52c.1 66 87) ∧ (h52c.1 66 87) ≤ 2147483647 := i52c.1 66 87
          have g24 : 0 ≤ (h52c.1 66 88) ∧ (h52c.1 66 88) ≤ 1 := i52c.1 66 88
          refine mm_iload C (mm_dec dk_X12_stateOf 35 rfl) rfl ?_
          refine mm_iconst C (mm_dec dk_X12_stateOf 36 rfl) ⟨by decide, by decide⟩ ?_
          have J73 : ∀ (w73_0 : (r44 = 2 ∨ (r44 = 0 ∧ h52c.1 66 88 ≠ 0))), mm_W x 0 0 73 [mU, mU, mU, mU, mU, mU] [] h52c := by
            intro w73_0
            refine mm_iconst C (mm_dec dk_X12_stateOf 43 rfl) ⟨by decide, by decide⟩ ?_
            exact mm_iret C T (mm_dec dk_X12_stateOf 44 rfl) (by decide : 0 ≤ 0) (by decide : 0 ≤ 0) ⟨_, rfl, ⟨⟨by omega, by omega⟩, i52c, f52c, by first | exact ⟨r3, y3_0, Or.inl ⟨w17_0, rfl⟩⟩ | exact ⟨r3, y3_0, Or.inr ⟨by omega, by omega, r22, y22_0, Or.inl ⟨w39_0, rfl⟩⟩⟩ | exact ⟨r3, y3_0, Or.inr ⟨by omega, by omega, r22, y22_0, Or.inr ⟨by omega, by omega, y52_0, (by rw [← zV]; exact w92_0)⟩⟩⟩ | exact ⟨r3, y3_0, Or.inr ⟨by omega, by omega, r22, y22_0, Or.inr ⟨by omega, by omega, y52_0, (by rw [← zV]; unfold mm_sb9; (repeat' split) <;> omega)⟩⟩⟩⟩⟩
          refine mm_icmp_eq (tgt := 73) C (mm_dec dk_X12_stateOf 37 rfl) (by decide) (fun c58 => ?_) (fun c58 => ?_)
          · skip
            refine mm_fgt 0 ?_
            refine mm_fgt 1 ?_
            refine mm_fgt 2 ?_
            refine mm_fgt 3 ?_
            refine mm_fgt 4 ?_
            refine mm_fgt 5 ?_
            exact J73 (by omega)
          · skip
            refine mm_iload C (mm_dec dk_X12_stateOf 38 rfl) rfl ?_
            have J75 : ∀ (w75_0 : (r44 ≠ 2 ∧ (r44 ≠ 0 ∨ h52c.1 66 88 = 0))), mm_W x 0 0 75 [mR 66, mU, mU, mU, mU, mI r44] [] h52c := by
              intro w75_0
              refine mm_iload C (mm_dec dk_X12_stateOf 45 rfl) rfl ?_
              have J92 : ∀ (s92_0 : Int) (bs92_0 : 3 ≤ s92_0 ∧ s92_0 ≤ 4) (w92_0 : s92_0 = mm_sb9 r44 (h52c.1 66 88) (h52c.1 66 52)) (vs92_0 : (r44 = 0 ∧ 0 < (h52c.1 66 52) ∧ s92_0 = 3) ∨ (s92_0 = 4)), mm_W x 0 0 92 [mU, mU, mU, mU, mU, mU] [mI s92_0] h52c := by
                intro s92_0 bs92_0 w92_0 vs92_0
                exact mm_iret C T (mm_dec dk_X12_stateOf 53 rfl) (by decide : 0 ≤ 0) (by decide : 0 ≤ 0) ⟨_, rfl, ⟨⟨by omega, by omega⟩, i52c, f52c, by first | exact ⟨r3, y3_0, Or.inl ⟨w17_0, rfl⟩⟩ | exact ⟨r3, y3_0, Or.inr ⟨by omega, by omega, r22, y22_0, Or.inl ⟨w39_0, rfl⟩⟩⟩ | exact ⟨r3, y3_0, Or.inr ⟨by omega, by omega, r22, y22_0, Or.inr ⟨by omega, by omega, y52_0, (by rw [← zV]; exact w92_0)⟩⟩⟩ | exact ⟨r3, y3_0, Or.inr ⟨by omega, by omega, r22, y22_0, Or.inr ⟨by omega, by omega, y52_0, (by rw [← zV]; unfold mm_sb9; (repeat' split) <;> omega)⟩⟩⟩⟩⟩
              have J91 : ∀ (w91_0 : (r44 ≠ 0 ∨ h52c.1 66 52 ≤ 0)), mm_W x 0 0 91 [mU, mU, mU, mU, mU, mU] [] h52c := by
                intro w91_0
                refine mm_iconst C (mm_dec dk_X12_stateOf 52 rfl) ⟨by decide, by decide⟩ ?_
                exact J92 4 ⟨by omega, by omega⟩ (by (unfold mm_sb9; (repeat' split) <;> omega)) (Or.inr (rfl))
              refine mm_if_ne (tgt := 91) C (mm_dec dk_X12_stateOf 46 rfl) (by decide) (fun c77 => ?_) (fun c77 => ?_)
              · skip
                refine mm_fgt 0 ?_
                refine mm_fgt 5 ?_
                exact J91 (by omega)
              · skip
                refine mm_aload_n C (mm_dec dk_X12_stateOf 47 rfl) rfl ?_
                refine mm_geti C fl_X12_341 (mm_dec dk_X12_stateOf 48 rfl) rfl rfl (Or.inl rfl) ?_
                refine mm_if_le (tgt := 91) C (mm_dec dk_X12_stateOf 49 rfl) (by decide) (fun c84 => ?_) (fun c84 => ?_)
                · skip
                  refine mm_fgt 0 ?_
                  refine mm_fgt 5 ?_
                  exact J91 (by omega)
                · skip
                  refine mm_iconst C (mm_dec dk_X12_stateOf 50 rfl) ⟨by decide, by decide⟩ ?_
                  refine mm_goto (tgt := 92) C (mm_dec dk_X12_stateOf 51 rfl) (by decide) ?_
                  refine mm_fgt 0 ?_
                  refine mm_fgt 5 ?_
                  exact J92 3 ⟨by omega, by omega⟩ (by (unfold mm_sb9; (repeat' split) <;> omega)) (Or.inl ⟨by omega, by omega, rfl⟩)
            refine mm_if_ne (tgt := 75) C (mm_dec dk_X12_stateOf 39 rfl) (by decide) (fun c63 => ?_) (fun c63 => ?_)
            · skip
              refine mm_fgt 1 ?_
              refine mm_fgt 2 ?_
              refine mm_fgt 3 ?_
              refine mm_fgt 4 ?_
              exact J75 (by omega)
            · skip
              refine mm_aload_n C (mm_dec dk_X12_stateOf 40 rfl) rfl ?_
              refine mm_geti C fl_X12_478 (mm_dec dk_X12_stateOf 41 rfl) rfl rfl (Or.inr rfl) ?_
              refine mm_if_eq (tgt := 75) C (mm_dec dk_X12_stateOf 42 rfl) (by decide) (fun c70 => ?_) (fun c70 => ?_)
              · skip
                refine mm_fgt 1 ?_
                refine mm_fgt 2 ?_
                refine mm_fgt 3 ?_
                refine mm_fgt 4 ?_
                exact J75 (by omega)
              · skip
                refine mm_fgt 0 ?_
                refine mm_fgt 1 ?_
                refine mm_fgt 2 ?_
                refine mm_fgt 3 ?_
                refine mm_fgt 4 ?_
                refine mm_fgt 5 ?_
                exact J73 (by omega)
        · skip
          refine mm_fgt 0 ?_
          refine mm_fgt 1 ?_
          refine mm_fgt 2 ?_
          refine mm_fgt 3 ?_
          refine mm_fgt 4 ?_
          exact J39 (by omega)
    · skip
      refine mm_fgt 0 ?_
      refine mm_fgt 1 ?_
      refine mm_fgt 2 ?_
      refine mm_fgt 3 ?_
      exact J17 (by omega)
set_option maxRecDepth 100000 in
set_option maxHeartbeats 4000000 in
theorem c_X12_totalOf_q (l : Launch) (hl : l.stackTraces = false) (d : Nat) (hd : 6 ≤ d) (h : mH) (i0 : mm_inv h) (p1 : Int) (p2 : Int) (bp1 : 0 ≤ p1 ∧ p1 ≤ 39) (t0 : mm_RO h) : mm_Met l d yX12_totalOf cX12_totalOf 3 (some .int) [mR 66, mI p1, mI p2] h (mm_pi fun r h2 => (-2147483648 ≤ r ∧ r ≤ 2147483647) ∧ mm_inv h2 ∧ mm_fr [(66, 39), (66, 48), (66, 52), (66, 53), (66, 54), (66, 87), (66, 88)] [91, 98, 99, 100, 110, 111] h h2 ∧ mm_TY9 h p1 p2 r) mm_nx 0 0 := by
  refine mm_ofW (ls := [mR 66, mI p1, mI p2]) hl (by decide) rfl (Nat.le_of_ble_eq_true rfl) ?_
  intro x hxl C T hnm htb
  subst hxl
  have C1 := mm_OK_le (d' := d - 1 + 1) (by omega) C
  refine mm_rng (fun hr _ => ?_)
  have ap1 : -2147483648 ≤ p1 ∧ p1 < 2147483648 := mm_ok_at hr (i := 1) rfl
  have ap2 : -2147483648 ≤ p2 ∧ p2 < 2147483648 := mm_ok_at hr (i := 2) rfl
  have f0 : mm_fr [(66, 39), (66, 48), (66, 52), (66, 53), (66, 54), (66, 87), (66, 88)] [91, 98, 99, 100, 110, 111] h h := mm_fr_rf
  have g1 : -2147483648 ≤ h.1 66 52 ∧ h.1 66 52 ≤ 2147483647 := i0.1 66 52
  have g2 : -2147483648 ≤ h.1 66 53 ∧ h.1 66 53 ≤ 2147483647 := i0.1 66 53
  have g3 : -2147483648 ≤ h.1 66 54 ∧ h.1 66 54 ≤ 2147483647 := i0.1 66 54
  have g4 : -2147483648 ≤ h.1 66 87 ∧ h.1 66 87 ≤ 2147483647 := i0.1 66 87
  have g5 : 0 ≤ h.1 66 88 ∧ h.1 66 88 ≤ 1 := i0.1 66 88
  refine mm_aload_n C (mm_dec dk_X12_totalOf 0 rfl) rfl ?_
  refine mm_iload_n C (mm_dec dk_X12_totalOf 1 rfl) rfl ?_
  refine mm_iload_n C (mm_dec dk_X12_totalOf 2 rfl) rfl ?_
  refine mm_cVi (rest := []) C1 ev_X12_490 (mm_dec dk_X12_totalOf 3 rfl) (c_X12_stateOf_q x.2.1 hl (d - 1) (by omega) h i0 p1 p2 ⟨by omega, by omega⟩ (by omega)) rfl rfl (Nat.le_of_ble_eq_true rfl) ⟨by decide, by decide⟩ rfl (fun r3 h3c hp3 => ?_) (fun _ _ q => q.elim)
  obtain ⟨b3, i3c, g3c, y3_0⟩ := hp3
  have f3c : mm_fr [(66, 39), (66, 48), (66, 52), (66, 53), (66, 54), (66, 87), (66, 88)] [91, 98, 99, 100, 110, 111] h h3c := mm_fr_tr f0 g3c (by decide +kernel)
  have g7 : -2147483648 ≤ (h3c.1 66 52) ∧ (h3c.1 66 52) ≤ 2147483647 := i3c.1 66 52
  have g8 : -2147483648 ≤ (h3c.1 66 53) ∧ (h3c.1 66 53) ≤ 2147483647 := i3c.1 66 53
  have g9 : -2147483648 ≤ (h3c.1 66 54) ∧ (h3c.1 66 54) ≤ 2147483647 := i3c.1 66 54
  have g10 : -2147483648 ≤ (h3c.1 66 87) ∧ (h3c.1 66 87) ≤ 2147483647 := i3c.1 66 87
  have g11 : 0 ≤ (h3c.1 66 88) ∧ (h3c.1 66 88) ≤ 1 := i3c.1 66 88
  refine mm_iconst C (mm_dec dk_X12_totalOf 4 rfl) ⟨by decide, by decide⟩ ?_
  refine mm_icmp_eq (tgt := 14) C (mm_dec dk_X12_totalOf 5 rfl) (by decide) (fun c7 => ?_) (fun c7 => ?_)
  · skip
    refine mm_aload_n C (mm_dec dk_X12_totalOf 8 rfl) rfl ?_
    have zfr : h3c.2.1 83 (h3c.2.1 85 p1) = h.2.1 83 (h.2.1 85 p1) := by rw [f3c.2 83 (by decide), f3c.2 85 (by decide)]
    refine mm_getr (t := 83) C fl_X12_60 (mm_dec dk_X12_totalOf 9 rfl) rfl rfl (mm_ref i3c rfl) ?_
    refine mm_aload_n C (mm_dec dk_X12_totalOf 10 rfl) rfl ?_
    refine mm_getr (t := 85) C fl_X12_66 (mm_dec dk_X12_totalOf 11 rfl) rfl rfl (mm_ref i3c rfl) ?_
    refine mm_iload_n C (mm_dec dk_X12_totalOf 12 rfl) rfl ?_
    refine mm_iald C (mm_dec dk_X12_totalOf 13 rfl) rfl (by omega) (by omega) ?_
    have g12 : 0 ≤ (h3c.2.1 85 p1) ∧ (h3c.2.1 85 p1) ≤ 7 := i3c.2.1 85 p1
    refine mm_zald C (mm_dec dk_X12_totalOf 14 rfl) rfl (by omega) (by omega) ?_
    have g13 : 0 ≤ (h3c.2.1 83 (h3c.2.1 85 p1)) ∧ (h3c.2.1 83 (h3c.2.1 85 p1)) ≤ 1 := i3c.2.1 83 (h3c.2.1 85 p1)
    have J65 : ∀ (s65_0 : Int) (bs65_0 : -2147483648 ≤ s65_0 ∧ s65_0 ≤ 2147483647) (w65_0 : s65_0 = mm_tz9 (h.2.1 83 (h.2.1 85 p1)) (h3c.1 66 54) (h3c.2.1 110 2) (h3c.1 66 87) (mm_aY9 h p1 p2)), mm_W x 0 0 65 [mU, mU, mU] [mI s65_0] h3c := by
      intro s65_0 bs65_0 w65_0
      exact mm_iret C T (mm_dec dk_X12_totalOf 39 rfl) (by decide : 0 ≤ 0) (by decide : 0 ≤ 0) ⟨_, rfl, ⟨⟨by omega, by omega⟩, i3c, f3c, by first | exact ⟨h3c, r3, y3_0, Or.inl ⟨by omega, rfl⟩⟩ | exact ⟨h3c, r3, y3_0, Or.inr ⟨by omega, w65_0⟩⟩⟩⟩
    refine mm_if_eq (tgt := 47) C (mm_dec dk_X12_totalOf 15 rfl) (by decide) (fun c25 => ?_) (fun c25 => ?_)
    · skip
      refine mm_aload_n C (mm_dec dk_X12_totalOf 27 rfl) rfl ?_
      refine mm_getr (t := 110) C fl_X12_141 (mm_dec dk_X12_totalOf 28 rfl) rfl rfl (mm_ref i3c rfl) ?_
      refine mm_iconst C (mm_dec dk_X12_totalOf 29 rfl) ⟨by decide, by decide⟩ ?_
      refine mm_iald C (mm_dec dk_X12_totalOf 30 rfl) rfl (by omega) (by omega) ?_
      have g14 : -2147483648 ≤ (h3c.2.1 110 2) ∧ (h3c.2.1 110 2) ≤ 2147483647 := i3c.2.1 110 2
      refine mm_aload_n C (mm_dec dk_X12_totalOf 31 rfl) rfl ?_
      refine mm_geti C fl_X12_475 (mm_dec dk_X12_totalOf 32 rfl) rfl rfl (Or.inl rfl) ?_
      refine mm_iaddw C (mm_dec dk_X12_totalOf 33 rfl) ?_
      have g15 : -2147483648 ≤ (mm_w ((h3c.2.1 110 2) + (h3c.1 66 87))) ∧ (mm_w ((h3c.2.1 110 2) + (h3c.1 66 87))) < 2147483648 := mm_w_rg _
      refine mm_aload_n C (mm_dec dk_X12_totalOf 34 rfl) rfl ?_
      refine mm_iload_n C (mm_dec dk_X12_totalOf 35 rfl) rfl ?_
      refine mm_iload_n C (mm_dec dk_X12_totalOf 36 rfl) rfl ?_
      refine mm_cVi (rest := [mI (mm_w ((h3c.2.1 110 2) + (h3c.1 66 87)))]) C1 ev_X12_493 (mm_dec dk_X12_totalOf 37 rfl) (c_X12_added_q x.2.1 hl (d - 1) (by omega) h3c i3c p1 p2) rfl rfl (Nat.le_of_ble_eq_true rfl) ⟨by decide, by decide⟩ rfl (fun r61 h61c hp61 => ?_) (fun _ _ q => q.elim)
      obtain ⟨b61, z61, y61_0⟩ := hp61
      rw [z61]
      have zA : r61 = mm_aY9 h p1 p2 := mm_aY9_fr y61_0 (f3c.2 112 (by decide)) (f3c.2 113 (by decide)) (f3c.2 114 (by decide)) (f3c.2 115 (by decide)) (f3c.1 66 82 (by decide))
      refine mm_iaddw C (mm_dec dk_X12_totalOf 38 rfl) ?_
      have g17 : -2147483648 ≤ (mm_w ((mm_w ((h3c.2.1 110 2) + (h3c.1 66 87))) + r61)) ∧ (mm_w ((mm_w ((h3c.2.1 110 2) + (h3c.1 66 87))) + r61)) < 2147483648 := mm_w_rg _
      refine mm_fgt 0 ?_
      refine mm_fgt 1 ?_
      refine mm_fgt 2 ?_
      exact J65 (mm_w ((mm_w ((h3c.2.1 110 2) + (h3c.1 66 87))) + r61)) ⟨by omega, by omega⟩ (by first | exact (by rw [← zA]; exact (if_pos (by omega)).symm) | exact (by rw [← zA]; exact (if_neg (by omega)).symm))
    · skip
      refine mm_aload_n C (mm_dec dk_X12_totalOf 16 rfl) rfl ?_
      refine mm_geti C fl_X12_347 (mm_dec dk_X12_totalOf 17 rfl) rfl rfl (Or.inl rfl) ?_
      refine mm_aload_n C (mm_dec dk_X12_totalOf 18 rfl) rfl ?_
      refine mm_geti C fl_X12_475 (mm_dec dk_X12_totalOf 19 rfl) rfl rfl (Or.inl rfl) ?_
      refine mm_isubw C (mm_dec dk_X12_totalOf 20 rfl) ?_
      have g18 : -2147483648 ≤ (mm_w ((h3c.1 66 54) - (h3c.1 66 87))) ∧ (mm_w ((h3c.1 66 54) - (h3c.1 66 87))) < 2147483648 := mm_w_rg _
      refine mm_aload_n C (mm_dec dk_X12_totalOf 21 rfl) rfl ?_
      refine mm_iload_n C (mm_dec dk_X12_totalOf 22 rfl) rfl ?_
      refine mm_iload_n C (mm_dec dk_X12_totalOf 23 rfl) rfl ?_
      refine mm_cVi (rest := [mI (mm_w ((h3c.1 66 54) - (h3c.1 66 87)))]) C1 ev_X12_493 (mm_dec dk_X12_totalOf 24 rfl) (c_X12_added_q x.2.1 hl (d - 1) (by omega) h3c i3c p1 p2) rfl rfl (Nat.le_of_ble_eq_true rfl) ⟨by decide, by decide⟩ rfl (fun r40 h40c hp40 => ?_) (fun _ _ q => q.elim)
      obtain ⟨b40, z40, y40_0⟩ := hp40
      rw [z40]
      have zA : r40 = mm_aY9 h p1 p2 := mm_aY9_fr y40_0 (f3c.2 112 (by decide)) (f3c.2 113 (by decide)) (f3c.2 114 (by decide)) (f3c.2 115 (by decide)) (f3c.1 66 82 (by decide))
      refine mm_isubw C (mm_dec dk_X12_totalOf 25 rfl) ?_
      have g20 : -2147483648 ≤ (mm_w ((mm_w ((h3c.1 66 54) - (h3c.1 66 87))) - r40)) ∧ (mm_w ((mm_w ((h3c.1 66 54) - (h3c.1 66 87))) - r40)) < 2147483648 := mm_w_rg _
      refine mm_goto (tgt := 65) C (mm_dec dk_X12_totalOf 26 rfl) (by decide) ?_
      refine mm_fgt 0 ?_
      refine mm_fgt 1 ?_
      refine mm_fgt 2 ?_
      exact J65 (mm_w ((mm_w ((h3c.1 66 54) - (h3c.1 66 87))) - r40)) ⟨by omega, by omega⟩ (by first | exact (by rw [← zA]; exact (if_pos (by omega)).symm) | exact (by rw [← zA]; exact (if_neg (by omega)).symm))
  · skip
    refine mm_ldcw (z := -100000) C (mm_dec dk_X12_totalOf 6 rfl) kc_X12_295 (by decide) ?_
    exact mm_iret C T (mm_dec dk_X12_totalOf 7 rfl) (by decide : 0 ≤ 0) (by decide : 0 ≤ 0) ⟨_, rfl, ⟨⟨by omega, by omega⟩, i3c, f3c, by first | exact ⟨h3c, r3, y3_0, Or.inl ⟨by omega, rfl⟩⟩ | exact ⟨h3c, r3, y3_0, Or.inr ⟨by omega, w65_0⟩⟩⟩⟩
