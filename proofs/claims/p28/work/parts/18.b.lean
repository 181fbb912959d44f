set_option maxRecDepth 100000 in
set_option maxHeartbeats 4000000 in
theorem c_X12_leads_x (l : Launch) (hl : l.stackTraces = false) (d : Nat) (hd : 0 ≤ d) (h : mH) (i0 : mm_inv h) (p1 : Int) (p2 : Int) (bp1 : 0 ≤ p1 ∧ p1 ≤ 399) : mm_Met l d yX12_leads cX12_leads 7 (some .int) [mR 66, mI p1, mI p2] h (mm_pi fun r h2 => (-1 ≤ r ∧ r ≤ 399) ∧ h2 = h ∧ r = mm_lea h p1 p2) mm_nx 0 0 := by
  refine mm_ofW (ls := [mR 66, mI p1, mI p2, mU, mU, mU, mU]) hl (by decide) rfl (Nat.le_of_ble_eq_true rfl) ?_
  intro x hxl C T hnm htb
  subst hxl
  refine mm_rng (fun hr _ => ?_)
  have ap1 : -2147483648 ≤ p1 ∧ p1 < 2147483648 := mm_ok_at hr (i := 1) rfl
  have ap2 : -2147483648 ≤ p2 ∧ p2 < 2147483648 := mm_ok_at hr (i := 2) rfl
  have f0 : mm_fr [] [] h h := mm_fr_rf
  refine mm_iload_n C (mm_dec dk_X12_leads 0 rfl) rfl ?_
  refine mm_bipush C (mm_dec dk_X12_leads 1 rfl) ⟨by decide, by decide⟩ ?_
  refine mm_irem C (mm_dec dk_X12_leads 2 rfl) (by omega) (by omega) ?_
  refine mm_iload_n C (mm_dec dk_X12_leads 3 rfl) rfl ?_
  refine mm_iconst C (mm_dec dk_X12_leads 4 rfl) ⟨by decide, by decide⟩ ?_
  refine mm_icmp_ne (tgt := 13) C (mm_dec dk_X12_leads 5 rfl) (by decide) (fun c6 => ?_) (fun c6 => ?_)
  · skip
    refine mm_iload_n C (mm_dec dk_X12_leads 8 rfl) rfl ?_
    refine mm_iconst C (mm_dec dk_X12_leads 9 rfl) ⟨by decide, by decide⟩ ?_
    refine mm_icmp_ne (tgt := 22) C (mm_dec dk_X12_leads 10 rfl) (by decide) (fun c15 => ?_) (fun c15 => ?_)
    · skip
      refine mm_iconst C (mm_dec dk_X12_leads 13 rfl) ⟨by decide, by decide⟩ ?_
      refine mm_iadd C (mm_dec dk_X12_leads 14 rfl) ⟨by omega, by omega⟩ ?_
      refine mm_istore_nL (ls2 := [mR 66, mI p1, mI p2, mI ((p1 % 20) + 0), mU, mU, mU]) C (mm_dec dk_X12_leads 15 rfl) (by decide) rfl ?_
      refine mm_iload_n C (mm_dec dk_X12_leads 16 rfl) rfl ?_
      refine mm_bipush C (mm_dec dk_X12_leads 17 rfl) ⟨by decide, by decide⟩ ?_
      refine mm_idiv C (mm_dec dk_X12_leads 18 rfl) ⟨by omega, by omega⟩ (by omega) ?_
      refine mm_iload_n C (mm_dec dk_X12_leads 19 rfl) rfl ?_
      refine mm_iconst C (mm_dec dk_X12_leads 20 rfl) ⟨by decide, by decide⟩ ?_
      refine mm_icmp_ne (tgt := 38) C (mm_dec dk_X12_leads 21 rfl) (by decide) (fun c31 => ?_) (fun c31 => ?_)
      · skip
        refine mm_iload_n C (mm_dec dk_X12_leads 24 rfl) rfl ?_
        refine mm_if_ne (tgt := 46) C (mm_dec dk_X12_leads 25 rfl) (by decide) (fun c39 => ?_) (fun c39 => ?_)
        · skip
          refine mm_iconst C (mm_dec dk_X12_leads 28 rfl) ⟨by decide, by decide⟩ ?_
          refine mm_iadd C (mm_dec dk_X12_leads 29 rfl) ⟨by omega, by omega⟩ ?_
          refine mm_istoreL (ls2 := [mR 66, mI p1, mI p2, mI ((p1 % 20) + 0), mI ((p1 / 20) + 0), mU, mU]) C (mm_dec dk_X12_leads 30 rfl) (by decide) rfl ?_
          refine mm_iload_n C (mm_dec dk_X12_leads 31 rfl) rfl ?_
          refine mm_if_lt (tgt := 76) C (mm_dec dk_X12_leads 32 rfl) (by decide) (fun c51 => ?_) (fun c51 => ?_)
          · skip
            exfalso; omega
          · skip
            refine mm_iload C (mm_dec dk_X12_leads 33 rfl) rfl ?_
            refine mm_if_lt (tgt := 76) C (mm_dec dk_X12_leads 34 rfl) (by decide) (fun c56 => ?_) (fun c56 => ?_)
            · skip
              exfalso; omega
            · skip
              refine mm_iload_n C (mm_dec dk_X12_leads 35 rfl) rfl ?_
              refine mm_aload_n C (mm_dec dk_X12_leads 36 rfl) rfl ?_
              refine mm_geti C fl_X12_192 (mm_dec dk_X12_leads 37 rfl) rfl rfl (Or.inl rfl) ?_
              have g1 : 1 ≤ (h.1 66 1) ∧ (h.1 66 1) ≤ 20 := i0.1 66 1
              refine mm_icmp_ge (tgt := 76) C (mm_dec dk_X12_leads 38 rfl) (by decide) (fun c64 => ?_) (fun c64 => ?_)
              · skip
                refine mm_iconst C (mm_dec dk_X12_leads 43 rfl) ⟨by decide, by decide⟩ ?_
                exact mm_iret C T (mm_dec dk_X12_leads 44 rfl) (by decide : 0 ≤ 0) (by decide : 0 ≤ 0) ⟨_, rfl, ⟨⟨by omega, by omega⟩, rfl, by unfold mm_lea mm_lea1; (repeat' split) <;> omega⟩⟩
              · skip
                refine mm_iload C (mm_dec dk_X12_leads 39 rfl) rfl ?_
                refine mm_aload_n C (mm_dec dk_X12_leads 40 rfl) rfl ?_
                refine mm_geti C fl_X12_195 (mm_dec dk_X12_leads 41 rfl) rfl rfl (Or.inl rfl) ?_
                have g2 : 1 ≤ (h.1 66 2) ∧ (h.1 66 2) ≤ 20 := i0.1 66 2
                refine mm_icmp_lt (tgt := 78) C (mm_dec dk_X12_leads 42 rfl) (by decide) (fun c73 => ?_) (fun c73 => ?_)
                · skip
                  refine mm_bipush C (mm_dec dk_X12_leads 45 rfl) ⟨by decide, by decide⟩ ?_
                  refine mm_iload C (mm_dec dk_X12_leads 46 rfl) rfl ?_
                  refine mm_imul C (mm_dec dk_X12_leads 47 rfl) ⟨by omega, by omega⟩ ?_
                  refine mm_iload_n C (mm_dec dk_X12_leads 48 rfl) rfl ?_
                  refine mm_iadd C (mm_dec dk_X12_leads 49 rfl) ⟨by omega, by omega⟩ ?_
                  refine mm_istoreL (ls2 := [mR 66, mI p1, mI p2, mI ((p1 % 20) + 0), mI ((p1 / 20) + 0), mI ((20 * ((p1 / 20) + 0)) + ((p1 % 20) + 0)), mU]) C (mm_dec dk_X12_leads 50 rfl) (by decide) rfl ?_
                  refine mm_iload_n C (mm_dec dk_X12_leads 51 rfl) rfl ?_
                  refine mm_iconst C (mm_dec dk_X12_leads 52 rfl) ⟨by decide, by decide⟩ ?_
                  refine mm_icmp_ne (tgt := 101) C (mm_dec dk_X12_leads 53 rfl) (by decide) (fun c89 => ?_) (fun c89 => ?_)
                  · skip
                    refine mm_iload_n C (mm_dec dk_X12_leads 59 rfl) rfl ?_
                    refine mm_iconst C (mm_dec dk_X12_leads 60 rfl) ⟨by decide, by decide⟩ ?_
                    refine mm_icmp_ne (tgt := 116) C (mm_dec dk_X12_leads 61 rfl) (by decide) (fun c103 => ?_) (fun c103 => ?_)
                    · skip
                      refine mm_iload_n C (mm_dec dk_X12_leads 67 rfl) rfl ?_
                      refine mm_iconst C (mm_dec dk_X12_leads 68 rfl) ⟨by decide, by decide⟩ ?_
                      refine mm_icmp_ne (tgt := 130) C (mm_dec dk_X12_leads 69 rfl) (by decide) (fun c118 => ?_) (fun c118 => ?_)
                      · skip
                        refine mm_aload_n C (mm_dec dk_X12_leads 75 rfl) rfl ?_
                        refine mm_getr (t := 71) C fl_X12_23 (mm_dec dk_X12_leads 76 rfl) rfl rfl (mm_ref i0 rfl) ?_
                        refine mm_iload C (mm_dec dk_X12_leads 77 rfl) rfl ?_
                        refine mm_zald C (mm_dec dk_X12_leads 78 rfl) rfl (by omega) (by omega) ?_
                        have g3 : 0 ≤ (h.2.1 71 ((20 * ((p1 / 20) + 0)) + ((p1 % 20) + 0))) ∧ (h.2.1 71 ((20 * ((p1 / 20) + 0)) + ((p1 % 20) + 0))) ≤ 1 := i0.2.1 71 ((20 * ((p1 / 20) + 0)) + ((p1 % 20) + 0))
                        refine mm_istoreL (ls2 := [mR 66, mI p1, mI p2, mI ((p1 % 20) + 0), mI ((p1 / 20) + 0), mI ((20 * ((p1 / 20) + 0)) + ((p1 % 20) + 0)), mI (h.2.1 71 ((20 * ((p1 / 20) + 0)) + ((p1 % 20) + 0)))]) C (mm_dec dk_X12_leads 79 rfl) (by decide) rfl ?_
                        refine mm_iload C (mm_dec dk_X12_leads 80 rfl) rfl ?_
                        refine mm_if_ne (tgt := 159) C (mm_dec dk_X12_leads 81 rfl) (by decide) (fun c141 => ?_) (fun c141 => ?_)
                        · skip
                          refine mm_iconst C (mm_dec dk_X12_leads 90 rfl) ⟨by decide, by decide⟩ ?_
                          refine mm_goto (tgt := 165) C (mm_dec dk_X12_leads 91 rfl) (by decide) ?_
                          exact mm_iret C T (mm_dec dk_X12_leads 93 rfl) (by decide : 0 ≤ 0) (by decide : 0 ≤ 0) ⟨_, rfl, ⟨⟨by omega, by omega⟩, rfl, by unfold mm_lea mm_lea1; (repeat' split) <;> omega⟩⟩
                        · skip
                          refine mm_aload_n C (mm_dec dk_X12_leads 82 rfl) rfl ?_
                          refine mm_getr (t := 69) C fl_X12_16 (mm_dec dk_X12_leads 83 rfl) rfl rfl (mm_ref i0 rfl) ?_
                          refine mm_aload_n C (mm_dec dk_X12_leads 84 rfl) rfl ?_
                          refine mm_getr (t := 67) C fl_X12_7 (mm_dec dk_X12_leads 85 rfl) rfl rfl (mm_ref i0 rfl) ?_
                          refine mm_iload C (mm_dec dk_X12_leads 86 rfl) rfl ?_
                          refine mm_iald C (mm_dec dk_X12_leads 87 rfl) rfl (by omega) (by omega) ?_
                          have g4 : 0 ≤ (h.2.1 67 ((20 * ((p1 / 20) + 0)) + ((p1 % 20) + 0))) ∧ (h.2.1 67 ((20 * ((p1 / 20) + 0)) + ((p1 % 20) + 0))) ≤ 7 := i0.2.1 67 ((20 * ((p1 / 20) + 0)) + ((p1 % 20) + 0))
                          refine mm_iald C (mm_dec dk_X12_leads 88 rfl) rfl (by omega) (by omega) ?_
                          have g5 : 0 ≤ (h.2.1 69 (h.2.1 67 ((20 * ((p1 / 20) + 0)) + ((p1 % 20) + 0)))) ∧ (h.2.1 69 (h.2.1 67 ((20 * ((p1 / 20) + 0)) + ((p1 % 20) + 0)))) ≤ 99 := i0.2.1 69 (h.2.1 67 ((20 * ((p1 / 20) + 0)) + ((p1 % 20) + 0)))
                          refine mm_if_ne (tgt := 163) C (mm_dec dk_X12_leads 89 rfl) (by decide) (fun c156 => ?_) (fun c156 => ?_)
                          · skip
                            refine mm_iload C (mm_dec dk_X12_leads 92 rfl) rfl ?_
                            exact mm_iret C T (mm_dec dk_X12_leads 93 rfl) (by decide : 0 ≤ 0) (by decide : 0 ≤ 0) ⟨_, rfl, ⟨⟨by omega, by omega⟩, rfl, by unfold mm_lea mm_lea1; (repeat' split) <;> omega⟩⟩
                          · skip
                            refine mm_iconst C (mm_dec dk_X12_leads 90 rfl) ⟨by decide, by decide⟩ ?_
                            refine mm_goto (tgt := 165) C (mm_dec dk_X12_leads 91 rfl) (by decide) ?_
                            exact mm_iret C T (mm_dec dk_X12_leads 93 rfl) (by decide : 0 ≤ 0) (by decide : 0 ≤ 0) ⟨_, rfl, ⟨⟨by omega, by omega⟩, rfl, by unfold mm_lea mm_lea1; (repeat' split) <;> omega⟩⟩
                      · skip
                        refine mm_aload_n C (mm_dec dk_X12_leads 70 rfl) rfl ?_
                        refine mm_getr (t := 71) C fl_X12_23 (mm_dec dk_X12_leads 71 rfl) rfl rfl (mm_ref i0 rfl) ?_
                        refine mm_iload_n C (mm_dec dk_X12_leads 72 rfl) rfl ?_
                        refine mm_zald C (mm_dec dk_X12_leads 73 rfl) rfl (by omega) (by omega) ?_
                        have g6 : 0 ≤ (h.2.1 71 p1) ∧ (h.2.1 71 p1) ≤ 1 := i0.2.1 71 p1
                        refine mm_goto (tgt := 137) C (mm_dec dk_X12_leads 74 rfl) (by decide) ?_
                        refine mm_istoreL (ls2 := [mR 66, mI p1, mI p2, mI ((p1 % 20) + 0), mI ((p1 / 20) + 0), mI ((20 * ((p1 / 20) + 0)) + ((p1 % 20) + 0)), mI (h.2.1 71 p1)]) C (mm_dec dk_X12_leads 79 rfl) (by decide) rfl ?_
                        refine mm_iload C (mm_dec dk_X12_leads 80 rfl) rfl ?_
                        refine mm_if_ne (tgt := 159) C (mm_dec dk_X12_leads 81 rfl) (by decide) (fun c141 => ?_) (fun c141 => ?_)
                        · skip
                          refine mm_iconst C (mm_dec dk_X12_leads 90 rfl) ⟨by decide, by decide⟩ ?_
                          refine mm_goto (tgt := 165) C (mm_dec dk_X12_leads 91 rfl) (by decide) ?_
                          exact mm_iret C T (mm_dec dk_X12_leads 93 rfl) (by decide : 0 ≤ 0) (by decide : 0 ≤ 0) ⟨_, rfl, ⟨⟨by omega, by omega⟩, rfl, by unfold mm_lea mm_lea1; (repeat' split) <;> omega⟩⟩
                        · skip
                          refine mm_aload_n C (mm_dec dk_X12_leads 82 rfl) rfl ?_
                          refine mm_getr (t := 69) C fl_X12_16 (mm_dec dk_X12_leads 83 rfl) rfl rfl (mm_ref i0 rfl) ?_
                          refine mm_aload_n C (mm_dec dk_X12_leads 84 rfl) rfl ?_
                          refine mm_getr (t := 67) C fl_X12_7 (mm_dec dk_X12_leads 85 rfl) rfl rfl (mm_ref i0 rfl) ?_
                          refine mm_iload C (mm_dec dk_X12_leads 86 rfl) rfl ?_
                          refine mm_iald C (mm_dec dk_X12_leads 87 rfl) rfl (by omega) (by omega) ?_
                          have g7 : 0 ≤ (h.2.1 67 ((20 * ((p1 / 20) + 0)) + ((p1 % 20) + 0))) ∧ (h.2.1 67 ((20 * ((p1 / 20) + 0)) + ((p1 % 20) + 0))) ≤ 7 := i0.2.1 67 ((20 * ((p1 / 20) + 0)) + ((p1 % 20) + 0))
                          refine mm_iald C (mm_dec dk_X12_leads 88 rfl) rfl (by omega) (by omega) ?_
                          have g8 : 0 ≤ (h.2.1 69 (h.2.1 67 ((20 * ((p1 / 20) + 0)) + ((p1 % 20) + 0)))) ∧ (h.2.1 69 (h.2.1 67 ((20 * ((p1 / 20) + 0)) + ((p1 % 20) + 0)))) ≤ 99 := i0.2.1 69 (h.2.1 67 ((20 * ((p1 / 20) + 0)) + ((p1 % 20) + 0)))
                          refine mm_if_ne (tgt := 163) C (mm_dec dk_X12_leads 89 rfl) (by decide) (fun c156 => ?_) (fun c156 => ?_)
                          · skip
                            refine mm_iload C (mm_dec dk_X12_leads 92 rfl) rfl ?_
                            exact mm_iret C T (mm_dec dk_X12_leads 93 rfl) (by decide : 0 ≤ 0) (by decide : 0 ≤ 0) ⟨_, rfl, ⟨⟨by omega, by omega⟩, rfl, by unfold mm_lea mm_lea1; (repeat' split) <;> omega⟩⟩
                          · skip
                            refine mm_iconst C (mm_dec dk_X12_leads 90 rfl) ⟨by decide, by decide⟩ ?_
                            refine mm_goto (tgt := 165) C (mm_dec dk_X12_leads 91 rfl) (by decide) ?_
                            exact mm_iret C T (mm_dec dk_X12_leads 93 rfl) (by decide : 0 ≤ 0) (by decide : 0 ≤ 0) ⟨_, rfl, ⟨⟨by omega, by omega⟩, rfl, by unfold mm_lea mm_lea1; (repeat' split) <;> omega⟩⟩
                    · skip
                      refine mm_aload_n C (mm_dec dk_X12_leads 62 rfl) rfl ?_
                      refine mm_getr (t := 70) C fl_X12_19 (mm_dec dk_X12_leads 63 rfl) rfl rfl (mm_ref i0 rfl) ?_
                      refine mm_iload C (mm_dec dk_X12_leads 64 rfl) rfl ?_
                      refine mm_zald C (mm_dec dk_X12_leads 65 rfl) rfl (by omega) (by omega) ?_
                      have g9 : 0 ≤ (h.2.1 70 ((20 * ((p1 / 20) + 0)) + ((p1 % 20) + 0))) ∧ (h.2.1 70 ((20 * ((p1 / 20) + 0)) + ((p1 % 20) + 0))) ≤ 1 := i0.2.1 70 ((20 * ((p1 / 20) + 0)) + ((p1 % 20) + 0))
                      refine mm_goto (tgt := 137) C (mm_dec dk_X12_leads 66 rfl) (by decide) ?_
                      refine mm_istoreL (ls2 := [mR 66, mI p1, mI p2, mI ((p1 % 20) + 0), mI ((p1 / 20) + 0), mI ((20 * ((p1 / 20) + 0)) + ((p1 % 20) + 0)), mI (h.2.1 70 ((20 * ((p1 / 20) + 0)) + ((p1 % 20) + 0)))]) C (mm_dec dk_X12_leads 79 rfl) (by decide) rfl ?_
                      refine mm_iload C (mm_dec dk_X12_leads 80 rfl) rfl ?_
                      refine mm_if_ne (tgt := 159) C (mm_dec dk_X12_leads 81 rfl) (by decide) (fun c141 => ?_) (fun c141 => ?_)
                      · skip
                        refine mm_iconst C (mm_dec dk_X12_leads 90 rfl) ⟨by decide, by decide⟩ ?_
                        refine mm_goto (tgt := 165) C (mm_dec dk_X12_leads 91 rfl) (by decide) ?_
                        exact mm_iret C T (mm_dec dk_X12_leads 93 rfl) (by decide : 0 ≤ 0) (by decide : 0 ≤ 0) ⟨_, rfl, ⟨⟨by omega, by omega⟩, rfl, by unfold mm_lea mm_lea1; (repeat' split) <;> omega⟩⟩
                      · skip
                        refine mm_aload_n C (mm_dec dk_X12_leads 82 rfl) rfl ?_
                        refine mm_getr (t := 69) C fl_X12_16 (mm_dec dk_X12_leads 83 rfl) rfl rfl (mm_ref i0 rfl) ?_
                        refine mm_aload_n C (mm_dec dk_X12_leads 84 rfl) rfl ?_
                        refine mm_getr (t := 67) C fl_X12_7 (mm_dec dk_X12_leads 85 rfl) rfl rfl (mm_ref i0 rfl) ?_
                        refine mm_iload C (mm_dec dk_X12_leads 86 rfl) rfl ?_
                        refine mm_iald C (mm_dec dk_X12_leads 87 rfl) rfl (by omega) (by omega) ?_
                        have g10 : 0 ≤ (h.2.1 67 ((20 * ((p1 / 20) + 0)) + ((p1 % 20) + 0))) ∧ (h.2.1 67 ((20 * ((p1 / 20) + 0)) + ((p1 % 20) + 0))) ≤ 7 := i0.2.1 67 ((20 * ((p1 / 20) + 0)) + ((p1 % 20) + 0))
                        refine mm_iald C (mm_dec dk_X12_leads 88 rfl) rfl (by omega) (by omega) ?_
                        have g11 : 0 ≤ (h.2.1 69 (h.2.1 67 ((20 * ((p1 / 20) + 0)) + ((p1 % 20) + 0)))) ∧ (h.2.1 69 (h.2.1 67 ((20 * ((p1 / 20) + 0)) + ((p1 % 20) + 0)))) ≤ 99 := i0.2.1 69 (h.2.1 67 ((20 * ((p1 / 20) + 0)) + ((p1 % 20) + 0)))
                        refine mm_if_ne (tgt := 163) C (mm_dec dk_X12_leads 89 rfl) (by decide) (fun c156 => ?_) (fun c156 => ?_)
                        · skip
                          refine mm_iload C (mm_dec dk_X12_leads 92 rfl) rfl ?_
                          exact mm_iret C T (mm_dec dk_X12_leads 93 rfl) (by decide : 0 ≤ 0) (by decide : 0 ≤ 0) ⟨_, rfl, ⟨⟨by omega, by omega⟩, rfl, by unfold mm_lea mm_lea1; (repeat' split) <;> omega⟩⟩
                        · skip
                          refine mm_iconst C (mm_dec dk_X12_leads 90 rfl) ⟨by decide, by decide⟩ ?_
                          refine mm_goto (tgt := 165) C (mm_dec dk_X12_leads 91 rfl) (by decide) ?_
                          exact mm_iret C T (mm_dec dk_X12_leads 93 rfl) (by decide : 0 ≤ 0) (by decide : 0 ≤ 0) ⟨_, rfl, ⟨⟨by omega, by omega⟩, rfl, by unfold mm_lea mm_lea1; (repeat' split) <;> omega⟩⟩
                  · skip
                    refine mm_aload_n C (mm_dec dk_X12_leads 54 rfl) rfl ?_
                    refine mm_getr (t := 70) C fl_X12_19 (mm_dec dk_X12_leads 55 rfl) rfl rfl (mm_ref i0 rfl) ?_
                    refine mm_iload_n C (mm_dec dk_X12_leads 56 rfl) rfl ?_
                    refine mm_zald C (mm_dec dk_X12_leads 57 rfl) rfl (by omega) (by omega) ?_
                    have g12 : 0 ≤ (h.2.1 70 p1) ∧ (h.2.1 70 p1) ≤ 1 := i0.2.1 70 p1
                    refine mm_goto (tgt := 137) C (mm_dec dk_X12_leads 58 rfl) (by decide) ?_
                    refine mm_istoreL (ls2 := [mR 66, mI p1, mI p2, mI ((p1 % 20) + 0), mI ((p1 / 20) + 0), mI ((20 * ((p1 / 20) + 0)) + ((p1 % 20) + 0)), mI (h.2.1 70 p1)]) C (mm_dec dk_X12_leads 79 rfl) (by decide) rfl ?_
                    refine mm_iload C (mm_dec dk_X12_leads 80 rfl) rfl ?_
                    refine mm_if_ne (tgt := 159) C (mm_dec dk_X12_leads 81 rfl) (by decide) (fun c141 => ?_) (fun c141 => ?_)
                    · skip
                      refine mm_iconst C (mm_dec dk_X12_leads 90 rfl) ⟨by decide, by decide⟩ ?_
                      refine mm_goto (tgt := 165) C (mm_dec dk_X12_leads 91 rfl) (by decide) ?_
                      exact mm_iret C T (mm_dec dk_X12_leads 93 rfl) (by decide : 0 ≤ 0) (by decide : 0 ≤ 0) ⟨_, rfl, ⟨⟨by omega, by omega⟩, rfl, by unfold mm_lea mm_lea1; (repeat' split) <;> omega⟩⟩
                    · skip
                      refine mm_aload_n C (mm_dec dk_X12_leads 82 rfl) rfl ?_
                      refine mm_getr (t := 69) C fl_X12_16 (mm_dec dk_X12_leads 83 rfl) rfl rfl (mm_ref i0 rfl) ?_
                      refine mm_aload_n C (mm_dec dk_X12_leads 84 rfl) rfl ?_
                      refine mm_getr (t := 67) C fl_X12_7 (mm_dec dk_X12_leads 85 rfl) rfl rfl (mm_ref i0 rfl) ?_
                      refine mm_iload C (mm_dec dk_X12_leads 86 rfl) rfl ?_
                      refine mm_iald C (mm_dec dk_X12_leads 87 rfl) rfl (by omega) (by omega) ?_
                      have g13 : 0 ≤ (h.2.1 67 ((20 * ((p1 / 20) + 0)) + ((p1 % 20) + 0))) ∧ (h.2.1 67 ((20 * ((p1 / 20) + 0)) + ((p1 % 20) + 0))) ≤ 7 := i0.2.1 67 ((20 * ((p1 / 20) + 0)) + ((p1 % 20) + 0))
                      refine mm_iald C (mm_dec dk_X12_leads 88 rfl) rfl (by omega) (by omega) ?_
                      have g14 : 0 ≤ (h.2.1 69 (h.2.1 67 ((20 * ((p1 / 20) + 0)) + ((p1 % 20) + 0)))) ∧ (h.2.1 69 (h.2.1 67 ((20 * ((p1 / 20) + 0)) + ((p1 % 20) + 0)))) ≤ 99 := i0.2.1 69 (h.2.1 67 ((20 * ((p1 / 20) + 0)) + ((p1 % 20) + 0)))
                      refine mm_if_ne (tgt := 163) C (mm_dec dk_X12_leads 89 rfl) (by decide) (fun c156 => ?_) (fun c156 => ?_)
                      · skip
                        refine mm_iload C (mm_dec dk_X12_leads 92 rfl) rfl ?_
                        exact mm_iret C T (mm_dec dk_X12_leads 93 rfl) (by decide : 0 ≤ 0) (by decide : 0 ≤ 0) ⟨_, rfl, ⟨⟨by omega, by omega⟩, rfl, by unfold mm_lea mm_lea1; (repeat' split) <;> omega⟩⟩
                      · skip
                        refine mm_iconst C (mm_dec dk_X12_leads 90 rfl) ⟨by decide, by decide⟩ ?_
                        refine mm_goto (tgt := 165) C (mm_dec dk_X12_leads 91 rfl) (by decide) ?_
                        exact mm_iret C T (mm_dec dk_X12_leads 93 rfl) (by decide : 0 ≤ 0) (by decide : 0 ≤ 0) ⟨_, rfl, ⟨⟨by omega, by omega⟩, rfl, by unfold mm_lea mm_lea1; (repeat' split) <;> omega⟩⟩
                · skip
                  refine mm_iconst C (mm_dec dk_X12_leads 43 rfl) ⟨by decide, by decide⟩ ?_
                  exact mm_iret C T (mm_dec dk_X12_leads 44 rfl) (by decide : 0 ≤ 0) (by decide : 0 ≤ 0) ⟨_, rfl, ⟨⟨by omega, by omega⟩, rfl, by unfold mm_lea mm_lea1; (repeat' split) <;> omega⟩⟩
        · skip
          refine mm_iconst C (mm_dec dk_X12_leads 26 rfl) ⟨by decide, by decide⟩ ?_
          refine mm_goto (tgt := 47) C (mm_dec dk_X12_leads 27 rfl) (by decide) ?_
          refine mm_iadd C (mm_dec dk_X12_leads 29 rfl) ⟨by omega, by omega⟩ ?_
          refine mm_istoreL (ls2 := [mR 66, mI p1, mI p2, mI ((p1 % 20) + 0), mI ((p1 / 20) + (-1)), mU, mU]) C (mm_dec dk_X12_leads 30 rfl) (by decide) rfl ?_
          refine mm_iload_n C (mm_dec dk_X12_leads 31 rfl) rfl ?_
          refine mm_if_lt (tgt := 76) C (mm_dec dk_X12_leads 32 rfl) (by decide) (fun c51 => ?_) (fun c51 => ?_)
          · skip
            exfalso; omega
          · skip
            refine mm_iload C (mm_dec dk_X12_leads 33 rfl) rfl ?_
            refine mm_if_lt (tgt := 76) C (mm_dec dk_X12_leads 34 rfl) (by decide) (fun c56 => ?_) (fun c56 => ?_)
            · skip
              refine mm_iconst C (mm_dec dk_X12_leads 43 rfl) ⟨by decide, by decide⟩ ?_
              exact mm_iret C T (mm_dec dk_X12_leads 44 rfl) (by decide : 0 ≤ 0) (by decide : 0 ≤ 0) ⟨_, rfl, ⟨⟨by omega, by omega⟩, rfl, by unfold mm_lea mm_lea1; (repeat' split) <;> omega⟩⟩
            · skip
              refine mm_iload_n C (mm_dec dk_X12_leads 35 rfl) rfl ?_
              refine mm_aload_n C (mm_dec dk_X12_leads 36 rfl) rfl ?_
              refine mm_geti C fl_X12_192 (mm_dec dk_X12_leads 37 rfl) rfl rfl (Or.inl rfl) ?_
              have g15 : 1 ≤ (h.1 66 1) ∧ (h.1 66 1) ≤ 20 := i0.1 66 1
              refine mm_icmp_ge (tgt := 76) C (mm_dec dk_X12_leads 38 rfl) (by decide) (fun c64 => ?_) (fun c64 => ?_)
              · skip
                refine mm_iconst C (mm_dec dk_X12_leads 43 rfl) ⟨by decide, by decide⟩ ?_
                exact mm_iret C T (mm_dec dk_X12_leads 44 rfl) (by decide : 0 ≤ 0) (by decide : 0 ≤ 0) ⟨_, rfl, ⟨⟨by omega, by omega⟩, rfl, by unfold mm_lea mm_lea1; (repeat' split) <;> omega⟩⟩
              · skip
                refine mm_iload C (mm_dec dk_X12_leads 39 rfl) rfl ?_
                refine mm_aload_n C (mm_dec dk_X12_leads 40 rfl) rfl ?_
                refine mm_geti C fl_X12_195 (mm_dec dk_X12_leads 41 rfl) rfl rfl (Or.inl rfl) ?_
                have g16 : 1 ≤ (h.1 66 2) ∧ (h.1 66 2) ≤ 20 := i0.1 66 2
                refine mm_icmp_lt (tgt := 78) C (mm_dec dk_X12_leads 42 rfl) (by decide) (fun c73 => ?_) (fun c73 => ?_)
                · skip
                  refine mm_bipush C (mm_dec dk_X12_leads 45 rfl) ⟨by decide, by decide⟩ ?_
                  refine mm_iload C (mm_dec dk_X12_leads 46 rfl) rfl ?_
                  refine mm_imul C (mm_dec dk_X12_leads 47 rfl) ⟨by omega, by omega⟩ ?_
                  refine mm_iload_n C (mm_dec dk_X12_leads 48 rfl) rfl ?_
                  refine mm_iadd C (mm_dec dk_X12_leads 49 rfl) ⟨by omega, by omega⟩ ?_
                  refine mm_istoreL (ls2 := [mR 66, mI p1, mI p2, mI ((p1 % 20) + 0), mI ((p1 / 20) + (-1)), mI ((20 * ((p1 / 20) + (-1))) + ((p1 % 20) + 0)), mU]) C (mm_dec dk_X12_leads 50 rfl) (by decide) rfl ?_
                  refine mm_iload_n C (mm_dec dk_X12_leads 51 rfl) rfl ?_
                  refine mm_iconst C (mm_dec dk_X12_leads 52 rfl) ⟨by decide, by decide⟩ ?_
                  refine mm_icmp_ne (tgt := 101) C (mm_dec dk_X12_leads 53 rfl) (by decide) (fun c89 => ?_) (fun c89 => ?_)
                  · skip
                    refine mm_iload_n C (mm_dec dk_X12_leads 59 rfl) rfl ?_
                    refine mm_iconst C (mm_dec dk_X12_leads 60 rfl) ⟨by decide, by decide⟩ ?_
                    refine mm_icmp_ne (tgt := 116) C (mm_dec dk_X12_leads 61 rfl) (by decide) (fun c103 => ?_) (fun c103 => ?_)
                    · skip
                      refine mm_iload_n C (mm_dec dk_X12_leads 67 rfl) rfl ?_
                      refine mm_iconst C (mm_dec dk_X12_leads 68 rfl) ⟨by decide, by decide⟩ ?_
                      refine mm_icmp_ne (tgt := 130) C (mm_dec dk_X12_leads 69 rfl) (by decide) (fun c118 => ?_) (fun c118 => ?_)
                      · skip
                        refine mm_aload_n C (mm_dec dk_X12_leads 75 rfl) rfl ?_
                        refine mm_getr (t := 71) C fl_X12_23 (mm_dec dk_X12_leads 76 rfl) rfl rfl (mm_ref i0 rfl) ?_
                        refine mm_iload C (mm_dec dk_X12_leads 77 rfl) rfl ?_
                        refine mm_zald C (mm_dec dk_X12_leads 78 rfl) rfl (by omega) (by omega) ?_
                        have g17 : 0 ≤ (h.2.1 71 ((20 * ((p1 / 20) + (-1))) + ((p1 % 20) + 0))) ∧ (h.2.1 71 ((20 * ((p1 / 20) + (-1))) + ((p1 % 20) + 0))) ≤ 1 := i0.2.1 71 ((20 * ((p1 / 20) + (-1))) + ((p1 % 20) + 0))
                        refine mm_istoreL (ls2 := [mR 66, mI p1, mI p2, mI ((p1 % 20) + 0), mI ((p1 / 20) + (-1)), mI ((20 * ((p1 / 20) + (-1))) + ((p1 % 20) + 0)), mI (h.2.1 71 ((20 * ((p1 / 20) + (-1))) + ((p1 % 20) + 0)))]) C (mm_dec dk_X12_leads 79 rfl) (by decide) rfl ?_
                        refine mm_iload C (mm_dec dk_X12_leads 80 rfl) rfl ?_
                        refine mm_if_ne (tgt := 159) C (mm_dec dk_X12_leads 81 rfl) (by decide) (fun c141 => ?_) (fun c141 => ?_)
                        · skip
                          refine mm_iconst C (mm_dec dk_X12_leads 90 rfl) ⟨by decide, by decide⟩ ?_
                          refine mm_goto (tgt := 165) C (mm_dec dk_X12_leads 91 rfl) (by decide) ?_
                          exact mm_iret C T (mm_dec dk_X12_leads 93 rfl) (by decide : 0 ≤ 0) (by decide : 0 ≤ 0) ⟨_, rfl, ⟨⟨by omega, by omega⟩, rfl, by unfold mm_lea mm_lea1; (repeat' split) <;> omega⟩⟩
                        · skip
                          refine mm_aload_n C (mm_dec dk_X12_leads 82 rfl) rfl ?_
                          refine mm_getr (t := 69) C fl_X12_16 (mm_dec dk_X12_leads 83 rfl) rfl rfl (mm_ref i0 rfl) ?_
                          refine mm_aload_n C (mm_dec dk_X12_leads 84 rfl) rfl ?_
                          refine mm_getr (t := 67) C fl_X12_7 (mm_dec dk_X12_leads 85 rfl) rfl rfl (mm_ref i0 rfl) ?_
                          refine mm_iload C (mm_dec dk_X12_leads 86 rfl) rfl ?_
                          refine mm_iald C (mm_dec dk_X12_leads 87 rfl) rfl (by omega) (by omega) ?_
                          have g18 : 0 ≤ (h.2.1 67 ((20 * ((p1 / 20) + (-1))) + ((p1 % 20) + 0))) ∧ (h.2.1 67 ((20 * ((p1 / 20) + (-1))) + ((p1 % 20) + 0))) ≤ 7 := i0.2.1 67 ((20 * ((p1 / 20) + (-1))) + ((p1 % 20) + 0))
                          refine mm_iald C (mm_dec dk_X12_leads 88 rfl) rfl (by omega) (by omega) ?_
                          have g19 : 0 ≤ (h.2.1 69 (h.2.1 67 ((20 * ((p1 / 20) + (-1))) + ((p1 % 20) + 0)))) ∧ (h.2.1 69 (h.2.1 67 ((20 * ((p1 / 20) + (-1))) + ((p1 % 20) + 0)))) ≤ 99 := i0.2.1 69 (h.2.1 67 ((20 * ((p1 / 20) + (-1))) + ((p1 % 20) + 0)))
                          refine mm_if_ne (tgt := 163) C (mm_dec dk_X12_leads 89 rfl) (by decide) (fun c156 => ?_) (fun c156 => ?_)
                          · skip
                            refine mm_iload C (mm_dec dk_X12_leads 92 rfl) rfl ?_
                            exact mm_iret C T (mm_dec dk_X12_leads 93 rfl) (by decide : 0 ≤ 0) (by decide : 0 ≤ 0) ⟨_, rfl, ⟨⟨by omega, by omega⟩, rfl, by unfold mm_lea mm_lea1; (repeat' split) <;> omega⟩⟩
                          · skip
                            refine mm_iconst C (mm_dec dk_X12_leads 90 rfl) ⟨by decide, by decide⟩ ?_
                            refine mm_goto (tgt := 165) C (mm_dec dk_X12_leads 91 rfl) (by decide) ?_
                            exact mm_iret C T (mm_dec dk_X12_leads 93 rfl) (by decide : 0 ≤ 0) (by decide : 0 ≤ 0) ⟨_, rfl, ⟨⟨by omega, by omega⟩, rfl, by unfold mm_lea mm_lea1; (repeat' split) <;> omega⟩⟩
                      · skip
                        exfalso; omega
                    · skip
                      exfalso; omega
                  · skip
                    exfalso; omega
                · skip
                  refine mm_iconst C (mm_dec dk_X12_leads 43 rfl) ⟨by decide, by decide⟩ ?_
                  exact mm_iret C T (mm_dec dk_X12_leads 44 rfl) (by decide : 0 ≤ 0) (by decide : 0 ≤ 0) ⟨_, rfl, ⟨⟨by omega, by omega⟩, rfl, by unfold mm_lea mm_lea1; (repeat' split) <;> omega⟩⟩
      · skip
        refine mm_iconst C (mm_dec dk_X12_leads 22 rfl) ⟨by decide, by decide⟩ ?_
        refine mm_goto (tgt := 47) C (mm_dec dk_X12_leads 23 rfl) (by decide) ?_
        refine mm_iadd C (mm_dec dk_X12_leads 29 rfl) ⟨by omega, by omega⟩ ?_
        refine mm_istoreL (ls2 := [mR 66, mI p1, mI p2, mI ((p1 % 20) + 0), mI ((p1 / 20) + 1), mU, mU]) C (mm_dec dk_X12_leads 30 rfl) (by decide) rfl ?_
        refine mm_iload_n C (mm_dec dk_X12_leads 31 rfl) rfl ?_
        refine mm_if_lt (tgt := 76) C (mm_dec dk_X12_leads 32 rfl) (by decide) (fun c51 => ?_) (fun c51 => ?_)
        · skip
          exfalso; omega
        · skip
          refine mm_iload C (mm_dec dk_X12_leads 33 rfl) rfl ?_
          refine mm_if_lt (tgt := 76) C (mm_dec dk_X12_leads 34 rfl) (by decide) (fun c56 => ?_) (fun c56 => ?_)
          · skip
            exfalso; omega
          · skip
            refine mm_iload_n C (mm_dec dk_X12_leads 35 rfl) rfl ?_
            refine mm_aload_n C (mm_dec dk_X12_leads 36 rfl) rfl ?_
            refine mm_geti C fl_X12_192 (mm_dec dk_X12_leads 37 rfl) rfl rfl (Or.inl rfl) ?_
            have g20 : 1 ≤ (h.1 66 1) ∧ (h.1 66 1) ≤ 20 := i0.1 66 1
            refine mm_icmp_ge (tgt := 76) C (mm_dec dk_X12_leads 38 rfl) (by decide) (fun c64 => ?_) (fun c64 => ?_)
            · skip
              refine mm_iconst C (mm_dec dk_X12_leads 43 rfl) ⟨by decide, by decide⟩ ?_
              exact mm_iret C T (mm_dec dk_X12_leads 44 rfl) (by decide : 0 ≤ 0) (by decide : 0 ≤ 0) ⟨_, rfl, ⟨⟨by omega, by omega⟩, rfl, by unfold mm_lea mm_lea1; (repeat' split) <;> omega⟩⟩
            · skip
              refine mm_iload C (mm_dec dk_X12_leads 39 rfl) rfl ?_
              refine mm_aload_n C (mm_dec dk_X12_leads 40 rfl) rfl ?_
              refine mm_geti C fl_X12_195 (mm_dec dk_X12_leads 41 rfl) rfl rfl (Or.inl rfl) ?_
              have g21 : 1 ≤ (h.1 66 2) ∧ (h.1 66 2) ≤ 20 := i0.1 66 2
              refine mm_icmp_lt (tgt := 78) C (mm_dec dk_X12_leads 42 rfl) (by decide) (fun c73 => ?_) (fun c73 => ?_)
              · skip
                refine mm_bipush C (mm_dec dk_X12_leads 45 rfl) ⟨by decide, by decide⟩ ?_
                refine mm_iload C (mm_dec dk_X12_leads 46 rfl) rfl ?_
                refine mm_imul C (mm_dec dk_X12_leads 47 rfl) ⟨by omega, by omega⟩ ?_
                refine mm_iload_n C (mm_dec dk_X12_leads 48 rfl) rfl ?_
                refine mm_iadd C (mm_dec dk_X12_leads 49 rfl) ⟨by omega, by omega⟩ ?_
                refine mm_istoreL (ls2 := [mR 66, mI p1, mI p2, mI ((p1 % 20) + 0), mI ((p1 / 20) + 1), mI ((20 * ((p1 / 20) + 1)) + ((p1 % 20) + 0)), mU]) C (mm_dec dk_X12_leads 50 rfl) (by decide) rfl ?_
                refine mm_iload_n C (mm_dec dk_X12_leads 51 rfl) rfl ?_
                refine mm_iconst C (mm_dec dk_X12_leads 52 rfl) ⟨by decide, by decide⟩ ?_
                refine mm_icmp_ne (tgt := 101) C (mm_dec dk_X12_leads 53 rfl) (by decide) (fun c89 => ?_) (fun c89 => ?_)
                · skip
                  refine mm_iload_n C (mm_dec dk_X12_leads 59 rfl) rfl ?_
                  refine mm_iconst C (mm_dec dk_X12_leads 60 rfl) ⟨by decide, by decide⟩ ?_
                  refine mm_icmp_ne (tgt := 116) C (mm_dec dk_X12_leads 61 rfl) (by decide) (fun c103 => ?_) (fun c103 => ?_)
                  · skip
                    refine mm_iload_n C (mm_dec dk_X12_leads 67 rfl) rfl ?_
                    refine mm_iconst C (mm_dec dk_X12_leads 68 rfl) ⟨by decide, by decide⟩ ?_
                    refine mm_icmp_ne (tgt := 130) C (mm_dec dk_X12_leads 69 rfl) (by decide) (fun c118 => ?_) (fun c118 => ?_)
                    · skip
                      exfalso; omega
                    · skip
                      refine mm_aload_n C (mm_dec dk_X12_leads 70 rfl) rfl ?_
                      refine mm_getr (t := 71) C fl_X12_23 (mm_dec dk_X12_leads 71 rfl) rfl rfl (mm_ref i0 rfl) ?_
                      refine mm_iload_n C (mm_dec dk_X12_leads 72 rfl) rfl ?_
                      refine mm_zald C (mm_dec dk_X12_leads 73 rfl) rfl (by omega) (by omega) ?_
                      have g22 : 0 ≤ (h.2.1 71 p1) ∧ (h.2.1 71 p1) ≤ 1 := i0.2.1 71 p1
                      refine mm_goto (tgt := 137) C (mm_dec dk_X12_leads 74 rfl) (by decide) ?_
                      refine mm_istoreL (ls2 := [mR 66, mI p1, mI p2, mI ((p1 % 20) + 0), mI ((p1 / 20) + 1), mI ((20 * ((p1 / 20) + 1)) + ((p1 % 20) + 0)), mI (h.2.1 71 p1)]) C (mm_dec dk_X12_leads 79 rfl) (by decide) rfl ?_
                      refine mm_iload C (mm_dec dk_X12_leads 80 rfl) rfl ?_
                      refine mm_if_ne (tgt := 159) C (mm_dec dk_X12_leads 81 rfl) (by decide) (fun c141 => ?_) (fun c141 => ?_)
                      · skip
                        refine mm_iconst C (mm_dec dk_X12_leads 90 rfl) ⟨by decide, by decide⟩ ?_
                        refine mm_goto (tgt := 165) C (mm_dec dk_X12_leads 91 rfl) (by decide) ?_
                        exact mm_iret C T (mm_dec dk_X12_leads 93 rfl) (by decide : 0 ≤ 0) (by decide : 0 ≤ 0) ⟨_, rfl, ⟨⟨by omega, by omega⟩, rfl, by unfold mm_lea mm_lea1; (repeat' split) <;> omega⟩⟩
                      · skip
                        refine mm_aload_n C (mm_dec dk_X12_leads 82 rfl) rfl ?_
                        refine mm_getr (t := 69) C fl_X12_16 (mm_dec dk_X12_leads 83 rfl) rfl rfl (mm_ref i0 rfl) ?_
                        refine mm_aload_n C (mm_dec dk_X12_leads 84 rfl) rfl ?_
                        refine mm_getr (t := 67) C fl_X12_7 (mm_dec dk_X12_leads 85 rfl) rfl rfl (mm_ref i0 rfl) ?_
                        refine mm_iload C (mm_dec dk_X12_leads 86 rfl) rfl ?_
                        refine mm_iald C (mm_dec dk_X12_leads 87 rfl) rfl (by omega) (by omega) ?_
                        have g23 : 0 ≤ (h.2.1 67 ((20 * ((p1 / 20) + 1)) + ((p1 % 20) + 0))) ∧ (h.2.1 67 ((20 * ((p1 / 20) + 1)) + ((p1 % 20) + 0))) ≤ 7 := i0.2.1 67 ((20 * ((p1 / 20) + 1)) + ((p1 % 20) + 0))
                        refine mm_iald C (mm_dec dk_X12_leads 88 rfl) rfl (by omega) (by omega) ?_
                        have g24 : 0 ≤ (h.2.1 69 (h.2.1 67 ((20 * ((p1 / 20) + 1)) + ((p1 % 20) + 0)))) ∧ (h.2.1 69 (h.2.1 67 ((20 * ((p1 / 20) + 1)) + ((p1 % 20) + 0)))) ≤ 99 := i0.2.1 69 (h.2.1 67 ((20 * ((p1 / 20) + 1)) + ((p1 % 20) + 0)))
                        refine mm_if_ne (tgt := 163) C (mm_dec dk_X12_leads 89 rfl) (by decide) (fun c156 => ?_) (fun c156 => ?_)
                        · skip
                          refine mm_iload C (mm_dec dk_X12_leads 92 rfl) rfl ?_
                          exact mm_iret C T (mm_dec dk_X12_leads 93 rfl) (by decide : 0 ≤ 0) (by decide : 0 ≤ 0) ⟨_, rfl, ⟨⟨by omega, by omega⟩, rfl, by unfold mm_lea mm_lea1; (repeat' split) <;> omega⟩⟩
                        · skip
                          refine mm_iconst C (mm_dec dk_X12_leads 90 rfl) ⟨by decide, by decide⟩ ?_
                          refine mm_goto (tgt := 165) C (mm_dec dk_X12_leads 91 rfl) (by decide) ?_
                          exact mm_iret C T (mm_dec dk_X12_leads 93 rfl) (by decide : 0 ≤ 0) (by decide : 0 ≤ 0) ⟨_, rfl, ⟨⟨by omega, by omega⟩, rfl, by unfold mm_lea mm_lea1; (repeat' split) <;> omega⟩⟩
                  · skip
                    exfalso; omega
                · skip
                  exfalso; omega
              · skip
                refine mm_iconst C (mm_dec dk_X12_leads 43 rfl) ⟨by decide, by decide⟩ ?_
                exact mm_iret C T (mm_dec dk_X12_leads 44 rfl) (by decide : 0 ≤ 0) (by decide : 0 ≤ 0) ⟨_, rfl, ⟨⟨by omega, by omega⟩, rfl, by unfold mm_lea mm_lea1; (repeat' split) <;> omega⟩⟩
    · skip
      refine mm_iconst C (mm_dec dk_X12_leads 11 rfl) ⟨by decide, by decide⟩ ?_
      refine mm_goto (tgt := 23) C (mm_dec dk_X12_leads 12 rfl) (by decide) ?_
      refine mm_iadd C (mm_dec dk_X12_leads 14 rfl) ⟨by omega, by omega⟩ ?_
      refine mm_istore_nL (ls2 := [mR 66, mI p1, mI p2, mI ((p1 % 20) + (-1)), mU, mU, mU]) C (mm_dec dk_X12_leads 15 rfl) (by decide) rfl ?_
      refine mm_iload_n C (mm_dec dk_X12_leads 16 rfl) rfl ?_
      refine mm_bipush C (mm_dec dk_X12_leads 17 rfl) ⟨by decide, by decide⟩ ?_
      refine mm_idiv C (mm_dec dk_X12_leads 18 rfl) ⟨by omega, by omega⟩ (by omega) ?_
      refine mm_iload_n C (mm_dec dk_X12_leads 19 rfl) rfl ?_
      refine mm_iconst C (mm_dec dk_X12_leads 20 rfl) ⟨by decide, by decide⟩ ?_
      refine mm_icmp_ne (tgt := 38) C (mm_dec dk_X12_leads 21 rfl) (by decide) (fun c31 => ?_) (fun c31 => ?_)
      · skip
        refine mm_iload_n C (mm_dec dk_X12_leads 24 rfl) rfl ?_
        refine mm_if_ne (tgt := 46) C (mm_dec dk_X12_leads 25 rfl) (by decide) (fun c39 => ?_) (fun c39 => ?_)
        · skip
          refine mm_iconst C (mm_dec dk_X12_leads 28 rfl) ⟨by decide, by decide⟩ ?_
          refine mm_iadd C (mm_dec dk_X12_leads 29 rfl) ⟨by omega, by omega⟩ ?_
          refine mm_istoreL (ls2 := [mR 66, mI p1, mI p2, mI ((p1 % 20) + (-1)), mI ((p1 / 20) + 0), mU, mU]) C (mm_dec dk_X12_leads 30 rfl) (by decide) rfl ?_
          refine mm_iload_n C (mm_dec dk_X12_leads 31 rfl) rfl ?_
          refine mm_if_lt (tgt := 76) C (mm_dec dk_X12_leads 32 rfl) (by decide) (fun c51 => ?_) (fun c51 => ?_)
          · skip
            refine mm_iconst C (mm_dec dk_X12_leads 43 rfl) ⟨by decide, by decide⟩ ?_
            exact mm_iret C T (mm_dec dk_X12_leads 44 rfl) (by decide : 0 ≤ 0) (by decide : 0 ≤ 0) ⟨_, rfl, ⟨⟨by omega, by omega⟩, rfl, by unfold mm_lea mm_lea1; (repeat' split) <;> omega⟩⟩
          · skip
            refine mm_iload C (mm_dec dk_X12_leads 33 rfl) rfl ?_
            refine mm_if_lt (tgt := 76) C (mm_dec dk_X12_leads 34 rfl) (by decide) (fun c56 => ?_) (fun c56 => ?_)
            · skip
              exfalso; omega
            · skip
              refine mm_iload_n C (mm_dec dk_X12_leads 35 rfl) rfl ?_
              refine mm_aload_n C (mm_dec dk_X12_leads 36 rfl) rfl ?_
              refine mm_geti C fl_X12_192 (mm_dec dk_X12_leads 37 rfl) rfl rfl (Or.inl rfl) ?_
              have g25 : 1 ≤ (h.1 66 1) ∧ (h.1 66 1) ≤ 20 := i0.1 66 1
              refine mm_icmp_ge (tgt := 76) C (mm_dec dk_X12_leads 38 rfl) (by decide) (fun c64 => ?_) (fun c64 => ?_)
              · skip
                refine mm_iconst C (mm_dec dk_X12_leads 43 rfl) ⟨by decide, by decide⟩ ?_
                exact mm_iret C T (mm_dec dk_X12_leads 44 rfl) (by decide : 0 ≤ 0) (by decide : 0 ≤ 0) ⟨_, rfl, ⟨⟨by omega, by omega⟩, rfl, by unfold mm_lea mm_lea1; (repeat' split) <;> omega⟩⟩
              · skip
                refine mm_iload C (mm_dec dk_X12_leads 39 rfl) rfl ?_
                refine mm_aload_n C (mm_dec dk_X12_leads 40 rfl) rfl ?_
                refine mm_geti C fl_X12_195 (mm_dec dk_X12_leads 41 rfl) rfl rfl (Or.inl rfl) ?_
                have g26 : 1 ≤ (h.1 66 2) ∧ (h.1 66 2) ≤ 20 := i0.1 66 2
                refine mm_icmp_lt (tgt := 78) C (mm_dec dk_X12_leads 42 rfl) (by decide) (fun c73 => ?_) (fun c73 => ?_)
                · skip
                  refine mm_bipush C (mm_dec dk_X12_leads 45 rfl) ⟨by decide, by decide⟩ ?_
                  refine mm_iload C (mm_dec dk_X12_leads 46 rfl) rfl ?_
                  refine mm_imul C (mm_dec dk_X12_leads 47 rfl) ⟨by omega, by omega⟩ ?_
                  refine mm_iload_n C (mm_dec dk_X12_leads 48 rfl) rfl ?_
                  refine mm_iadd C (mm_dec dk_X12_leads 49 rfl) ⟨by omega, by omega⟩ ?_
                  refine mm_istoreL (ls2 := [mR 66, mI p1, mI p2, mI ((p1 % 20) + (-1)), mI ((p1 / 20) + 0), mI ((20 * ((p1 / 20) + 0)) + ((p1 % 20) + (-1))), mU]) C (mm_dec dk_X12_leads 50 rfl) (by decide) rfl ?_
                  refine mm_iload_n C (mm_dec dk_X12_leads 51 rfl) rfl ?_
                  refine mm_iconst C (mm_dec dk_X12_leads 52 rfl) ⟨by decide, by decide⟩ ?_
                  refine mm_icmp_ne (tgt := 101) C (mm_dec dk_X12_leads 53 rfl) (by decide) (fun c89 => ?_) (fun c89 => ?_)
                  · skip
                    refine mm_iload_n C (mm_dec dk_X12_leads 59 rfl) rfl ?_
                    refine mm_iconst C (mm_dec dk_X12_leads 60 rfl) ⟨by decide, by decide⟩ ?_
                    refine mm_icmp_ne (tgt := 116) C (mm_dec dk_X12_leads 61 rfl) (by decide) (fun c103 => ?_) (fun c103 => ?_)
                    · skip
                      exfalso; omega
                    · skip
                      refine mm_aload_n C (mm_dec dk_X12_leads 62 rfl) rfl ?_
                      refine mm_getr (t := 70) C fl_X12_19 (mm_dec dk_X12_leads 63 rfl) rfl rfl (mm_ref i0 rfl) ?_
                      refine mm_iload C (mm_dec dk_X12_leads 64 rfl) rfl ?_
                      refine mm_zald C (mm_dec dk_X12_leads 65 rfl) rfl (by omega) (by omega) ?_
                      have g27 : 0 ≤ (h.2.1 70 ((20 * ((p1 / 20) + 0)) + ((p1 % 20) + (-1)))) ∧ (h.2.1 70 ((20 * ((p1 / 20) + 0)) + ((p1 % 20) + (-1)))) ≤ 1 := i0.2.1 70 ((20 * ((p1 / 20) + 0)) + ((p1 % 20) + (-1)))
                      refine mm_goto (tgt := 137) C (mm_dec dk_X12_leads 66 rfl) (by decide) ?_
                      refine mm_istoreL (ls2 := [mR 66, mI p1, mI p2, mI ((p1 % 20) + (-1)), mI ((p1 / 20) + 0), mI ((20 * ((p1 / 20) + 0)) + ((p1 % 20) + (-1))), mI (h.2.1 70 ((20 * ((p1 / 20) + 0)) + ((p1 % 20) + (-1))))]) C (mm_dec dk_X12_leads 79 rfl) (by decide) rfl ?_
                      refine mm_iload C (mm_dec dk_X12_leads 80 rfl) rfl ?_
                      refine mm_if_ne (tgt := 159) C (mm_dec dk_X12_leads 81 rfl) (by decide) (fun c141 => ?_) (fun c141 => ?_)
                      · skip
                        refine mm_iconst C (mm_dec dk_X12_leads 90 rfl) ⟨by decide, by decide⟩ ?_
                        refine mm_goto (tgt := 165) C (mm_dec dk_X12_leads 91 rfl) (by decide) ?_
                        exact mm_iret C T (mm_dec dk_X12_leads 93 rfl) (by decide : 0 ≤ 0) (by decide : 0 ≤ 0) ⟨_, rfl, ⟨⟨by omega, by omega⟩, rfl, by unfold mm_lea mm_lea1; (repeat' split) <;> omega⟩⟩
                      · skip
                        refine mm_aload_n C (mm_dec dk_X12_leads 82 rfl) rfl ?_
                        refine mm_getr (t := 69) C fl_X12_16 (mm_dec dk_X12_leads 83 rfl) rfl rfl (mm_ref i0 rfl) ?_
                        refine mm_aload_n C (mm_dec dk_X12_leads 84 rfl) rfl ?_
                        refine mm_getr (t := 67) C fl_X12_7 (mm_dec dk_X12_leads 85 rfl) rfl rfl (mm_ref i0 rfl) ?_
                        refine mm_iload C (mm_dec dk_X12_leads 86 rfl) rfl ?_
                        refine mm_iald C (mm_dec dk_X12_leads 87 rfl) rfl (by omega) (by omega) ?_
                        have g28 : 0 ≤ (h.2.1 67 ((20 * ((p1 / 20) + 0)) + ((p1 % 20) + (-1)))) ∧ (h.2.1 67 ((20 * ((p1 / 20) + 0)) + ((p1 % 20) + (-1)))) ≤ 7 := i0.2.1 67 ((20 * ((p1 / 20) + 0)) + ((p1 % 20) + (-1)))
                        refine mm_iald C (mm_dec dk_X12_leads 88 rfl) rfl (by omega) (by omega) ?_
                        have g29 : 0 ≤ (h.2.1 69 (h.2.1 67 ((20 * ((p1 / 20) + 0)) + ((p1 % 20) + (-1))))) ∧ (h.2.1 69 (h.2.1 67 ((20 * ((p1 / 20) + 0)) + ((p1 % 20) + (-1))))) ≤ 99 := i0.2.1 69 (h.2.1 67 ((20 * ((p1 / 20) + 0)) + ((p1 % 20) + (-1))))
                        refine mm_if_ne (tgt := 163) C (mm_dec dk_X12_leads 89 rfl) (by decide) (fun c156 => ?_) (fun c156 => ?_)
                        · skip
                          refine mm_iload C (mm_dec dk_X12_leads 92 rfl) rfl ?_
                          exact mm_iret C T (mm_dec dk_X12_leads 93 rfl) (by decide : 0 ≤ 0) (by decide : 0 ≤ 0) ⟨_, rfl, ⟨⟨by omega, by omega⟩, rfl, by unfold mm_lea mm_lea1; (repeat' split) <;> omega⟩⟩
                        · skip
                          refine mm_iconst C (mm_dec dk_X12_leads 90 rfl) ⟨by decide, by decide⟩ ?_
                          refine mm_goto (tgt := 165) C (mm_dec dk_X12_leads 91 rfl) (by decide) ?_
                          exact mm_iret C T (mm_dec dk_X12_leads 93 rfl) (by decide : 0 ≤ 0) (by decide : 0 ≤ 0) ⟨_, rfl, ⟨⟨by omega, by omega⟩, rfl, by unfold mm_lea mm_lea1; (repeat' split) <;> omega⟩⟩
                  · skip
                    exfalso; omega
                · skip
                  refine mm_iconst C (mm_dec dk_X12_leads 43 rfl) ⟨by decide, by decide⟩ ?_
                  exact mm_iret C T (mm_dec dk_X12_leads 44 rfl) (by decide : 0 ≤ 0) (by decide : 0 ≤ 0) ⟨_, rfl, ⟨⟨by omega, by omega⟩, rfl, by unfold mm_lea mm_lea1; (repeat' split) <;> omega⟩⟩
        · skip
          exfalso; omega
      · skip
        exfalso; omega
  · skip
    refine mm_iconst C (mm_dec dk_X12_leads 6 rfl) ⟨by decide, by decide⟩ ?_
    refine mm_goto (tgt := 23) C (mm_dec dk_X12_leads 7 rfl) (by decide) ?_
    refine mm_iadd C (mm_dec dk_X12_leads 14 rfl) ⟨by omega, by omega⟩ ?_
    refine mm_istore_nL (ls2 := [mR 66, mI p1, mI p2, mI ((p1 % 20) + 1), mU, mU, mU]) C (mm_dec dk_X12_leads 15 rfl) (by decide) rfl ?_
    refine mm_iload_n C (mm_dec dk_X12_leads 16 rfl) rfl ?_
    refine mm_bipush C (mm_dec dk_X12_leads 17 rfl) ⟨by decide, by decide⟩ ?_
    refine mm_idiv C (mm_dec dk_X12_leads 18 rfl) ⟨by omega, by omega⟩ (by omega) ?_
    refine mm_iload_n C (mm_dec dk_X12_leads 19 rfl) rfl ?_
    refine mm_iconst C (mm_dec dk_X12_leads 20 rfl) ⟨by decide, by decide⟩ ?_
    refine mm_icmp_ne (tgt := 38) C (mm_dec dk_X12_leads 21 rfl) (by decide) (fun c31 => ?_) (fun c31 => ?_)
    · skip
      refine mm_iload_n C (mm_dec dk_X12_leads 24 rfl) rfl ?_
      refine mm_if_ne (tgt := 46) C (mm_dec dk_X12_leads 25 rfl) (by decide) (fun c39 => ?_) (fun c39 => ?_)
      · skip
        refine mm_iconst C (mm_dec dk_X12_leads 28 rfl) ⟨by decide, by decide⟩ ?_
        refine mm_iadd C (mm_dec dk_X12_leads 29 rfl) ⟨by omega, by omega⟩ ?_
        refine mm_istoreL (ls2 := [mR 66, mI p1, mI p2, mI ((p1 % 20) + 1), mI ((p1 / 20) + 0), mU, mU]) C (mm_dec dk_X12_leads 30 rfl) (by decide) rfl ?_
        refine mm_iload_n C (mm_dec dk_X12_leads 31 rfl) rfl ?_
        refine mm_if_lt (tgt := 76) C (mm_dec dk_X12_leads 32 rfl) (by decide) (fun c51 => ?_) (fun c51 => ?_)
        · skip
          exfalso; omega
        · skip
          refine mm_iload C (mm_dec dk_X12_leads 33 rfl) rfl ?_
          refine mm_if_lt (tgt := 76) C (mm_dec dk_X12_leads 34 rfl) (by decide) (fun c56 => ?_) (fun c56 => ?_)
          · skip
            exfalso; omega
          · skip
            refine mm_iload_n C (mm_dec dk_X12_leads 35 rfl) rfl ?_
            refine mm_aload_n C (mm_dec dk_X12_leads 36 rfl) rfl ?_
            refine mm_geti C fl_X12_192 (mm_dec dk_X12_leads 37 rfl) rfl rfl (Or.inl rfl) ?_
            have g30 : 1 ≤ (h.1 66 1) ∧ (h.1 66 1) ≤ 20 := i0.1 66 1
            refine mm_icmp_ge (tgt := 76) C (mm_dec dk_X12_leads 38 rfl) (by decide) (fun c64 => ?_) (fun c64 => ?_)
            · skip
              refine mm_iconst C (mm_dec dk_X12_leads 43 rfl) ⟨by decide, by decide⟩ ?_
              exact mm_iret C T (mm_dec dk_X12_leads 44 rfl) (by decide : 0 ≤ 0) (by decide : 0 ≤ 0) ⟨_, rfl, ⟨⟨by omega, by omega⟩, rfl, by unfold mm_lea mm_lea1; (repeat' split) <;> omega⟩⟩
            · skip
              refine mm_iload C (mm_dec dk_X12_leads 39 rfl) rfl ?_
              refine mm_aload_n C (mm_dec dk_X12_leads 40 rfl) rfl ?_
              refine mm_geti C fl_X12_195 (mm_dec dk_X12_leads 41 rfl) rfl rfl (Or.inl rfl) ?_
              have g31 : 1 ≤ (h.1 66 2) ∧ (h.1 66 2) ≤ 20 := i0.1 66 2
              refine mm_icmp_lt (tgt := 78) C (mm_dec dk_X12_leads 42 rfl) (by decide) (fun c73 => ?_) (fun c73 => ?_)
              · skip
                refine mm_bipush C (mm_dec dk_X12_leads 45 rfl) ⟨by decide, by decide⟩ ?_
                refine mm_iload C (mm_dec dk_X12_leads 46 rfl) rfl ?_
                refine mm_imul C (mm_dec dk_X12_leads 47 rfl) ⟨by omega, by omega⟩ ?_
                refine mm_iload_n C (mm_dec dk_X12_leads 48 rfl) rfl ?_
                refine mm_iadd C (mm_dec dk_X12_leads 49 rfl) ⟨by omega, by omega⟩ ?_
                refine mm_istoreL (ls2 := [mR 66, mI p1, mI p2, mI ((p1 % 20) + 1), mI ((p1 / 20) + 0), mI ((20 * ((p1 / 20) + 0)) + ((p1 % 20) + 1)), mU]) C (mm_dec dk_X12_leads 50 rfl) (by decide) rfl ?_
                refine mm_iload_n C (mm_dec dk_X12_leads 51 rfl) rfl ?_
                refine mm_iconst C (mm_dec dk_X12_leads 52 rfl) ⟨by decide, by decide⟩ ?_
                refine mm_icmp_ne (tgt := 101) C (mm_dec dk_X12_leads 53 rfl) (by decide) (fun c89 => ?_) (fun c89 => ?_)
                · skip
                  exfalso; omega
                · skip
                  refine mm_aload_n C (mm_dec dk_X12_leads 54 rfl) rfl ?_
                  refine mm_getr (t := 70) C fl_X12_19 (mm_dec dk_X12_leads 55 rfl) rfl rfl (mm_ref i0 rfl) ?_
                  refine mm_iload_n C (mm_dec dk_X12_leads 56 rfl) rfl ?_
                  refine mm_zald C (mm_dec dk_X12_leads 57 rfl) rfl (by omega) (by omega) ?_
                  have g32 : 0 ≤ (h.2.1 70 p1) ∧ (h.2.1 70 p1) ≤ 1 := i0.2.1 70 p1
                  refine mm_goto (tgt := 137) C (mm_dec dk_X12_leads 58 rfl) (by decide) ?_
                  refine mm_istoreL (ls2 := [mR 66, mI p1, mI p2, mI ((p1 % 20) + 1), mI ((p1 / 20) + 0), mI ((20 * ((p1 / 20) + 0)) + ((p1 % 20) + 1)), mI (h.2.1 70 p1)]) C (mm_dec dk_X12_leads 79 rfl) (by decide) rfl ?_
                  refine mm_iload C (mm_dec dk_X12_leads 80 rfl) rfl ?_
                  refine mm_if_ne (tgt := 159) C (mm_dec dk_X12_leads 81 rfl) (by decide) (fun c141 => ?_) (fun c141 => ?_)
                  · skip
                    refine mm_iconst C (mm_dec dk_X12_leads 90 rfl) ⟨by decide, by decide⟩ ?_
                    refine mm_goto (tgt := 165) C (mm_dec dk_X12_leads 91 rfl) (by decide) ?_
                    exact mm_iret C T (mm_dec dk_X12_leads 93 rfl) (by decide : 0 ≤ 0) (by decide : 0 ≤ 0) ⟨_, rfl, ⟨⟨by omega, by omega⟩, rfl, by unfold mm_lea mm_lea1; (repeat' split) <;> omega⟩⟩
                  · skip
                    refine mm_aload_n C (mm_dec dk_X12_leads 82 rfl) rfl ?_
                    refine mm_getr (t := 69) C fl_X12_16 (mm_dec dk_X12_leads 83 rfl) rfl rfl (mm_ref i0 rfl) ?_
                    refine mm_aload_n C (mm_dec dk_X12_leads 84 rfl) rfl ?_
                    refine mm_getr (t := 67) C fl_X12_7 (mm_dec dk_X12_leads 85 rfl) rfl rfl (mm_ref i0 rfl) ?_
                    refine mm_iload C (mm_dec dk_X12_leads 86 rfl) rfl ?_
                    refine mm_iald C (mm_dec dk_X12_leads 87 rfl) rfl (by omega) (by omega) ?_
                    have g33 : 0 ≤ (h.2.1 67 ((20 * ((p1 / 20) + 0)) + ((p1 % 20) + 1))) ∧ (h.2.1 67 ((20 * ((p1 / 20) + 0)) + ((p1 % 20) + 1))) ≤ 7 := i0.2.1 67 ((20 * ((p1 / 20) + 0)) + ((p1 % 20) + 1))
                    refine mm_iald C (mm_dec dk_X12_leads 88 rfl) rfl (by omega) (by omega) ?_
                    have g34 : 0 ≤ (h.2.1 69 (h.2.1 67 ((20 * ((p1 / 20) + 0)) + ((p1 % 20) + 1)))) ∧ (h.2.1 69 (h.2.1 67 ((20 * ((p1 / 20) + 0)) + ((p1 % 20) + 1)))) ≤ 99 := i0.2.1 69 (h.2.1 67 ((20 * ((p1 / 20) + 0)) + ((p1 % 20) + 1)))
                    refine mm_if_ne (tgt := 163) C (mm_dec dk_X12_leads 89 rfl) (by decide) (fun c156 => ?_) (fun c156 => ?_)
                    · skip
                      refine mm_iload C (mm_dec dk_X12_leads 92 rfl) rfl ?_
                      exact mm_iret C T (mm_dec dk_X12_leads 93 rfl) (by decide : 0 ≤ 0) (by decide : 0 ≤ 0) ⟨_, rfl, ⟨⟨by omega, by omega⟩, rfl, by unfold mm_lea mm_lea1; (repeat' split) <;> omega⟩⟩
                    · skip
                      refine mm_iconst C (mm_dec dk_X12_leads 90 rfl) ⟨by decide, by decide⟩ ?_
                      refine mm_goto (tgt := 165) C (mm_dec dk_X12_leads 91 rfl) (by decide) ?_
                      exact mm_iret C T (mm_dec dk_X12_leads 93 rfl) (by decide : 0 ≤ 0) (by decide : 0 ≤ 0) ⟨_, rfl, ⟨⟨by omega, by omega⟩, rfl, by unfold mm_lea mm_lea1; (repeat' split) <;> omega⟩⟩
              · skip
                refine mm_iconst C (mm_dec dk_X12_leads 43 rfl) ⟨by decide, by decide⟩ ?_
                exact mm_iret C T (mm_dec dk_X12_leads 44 rfl) (by decide : 0 ≤ 0) (by decide : 0 ≤ 0) ⟨_, rfl, ⟨⟨by omega, by omega⟩, rfl, by unfold mm_lea mm_lea1; (repeat' split) <;> omega⟩⟩
      · skip
        exfalso; omega
    · skip
      exfalso; omega
set_option maxRecDepth 100000 in
set_option maxHeartbeats 4000000 in
theorem c_X12_seconds_x (l : Launch) (hl : l.stackTraces = false) (d : Nat) (hd : 0 ≤ d) (h : mH) (i0 : mm_inv h) (p1 : Int) (p2 : Int) (bp1 : 0 ≤ p1 ∧ p1 ≤ 399) (bp2 : 0 ≤ p2 ∧ p2 ≤ 399) : mm_Met l d yX12_seconds cX12_seconds 4 (some .int) [mR 66, mI p1, mI p2] h (mm_pi fun r h2 => (0 ≤ r ∧ r ≤ 990) ∧ h2 = h ∧ r = mm_sec h p1 p2) mm_nx 0 0 := by
  refine mm_ofW (ls := [mR 66, mI p1, mI p2, mU]) hl (by decide) rfl (Nat.le_of_ble_eq_true rfl) ?_
  intro x hxl C T hnm htb
  subst hxl
  refine mm_rng (fun hr _ => ?_)
  have ap1 : -2147483648 ≤ p1 ∧ p1 < 2147483648 := mm_ok_at hr (i := 1) rfl
  have ap2 : -2147483648 ≤ p2 ∧ p2 < 2147483648 := mm_ok_at hr (i := 2) rfl
  have f0 : mm_fr [] [] h h := mm_fr_rf
  refine mm_aload_n C (mm_dec dk_X12_seconds 0 rfl) rfl ?_
  refine mm_getr (t := 68) C fl_X12_13 (mm_dec dk_X12_seconds 1 rfl) rfl rfl (mm_ref i0 rfl) ?_
  refine mm_iload_n C (mm_dec dk_X12_seconds 2 rfl) rfl ?_
  refine mm_iald C (mm_dec dk_X12_seconds 3 rfl) rfl (by omega) (by omega) ?_
  have g1 : 0 ≤ (h.2.1 68 p2) ∧ (h.2.1 68 p2) ≤ 99 := i0.2.1 68 p2
  refine mm_aload_n C (mm_dec dk_X12_seconds 4 rfl) rfl ?_
  refine mm_getr (t := 68) C fl_X12_13 (mm_dec dk_X12_seconds 5 rfl) rfl rfl (mm_ref i0 rfl) ?_
  refine mm_iload_n C (mm_dec dk_X12_seconds 6 rfl) rfl ?_
  refine mm_iald C (mm_dec dk_X12_seconds 7 rfl) rfl (by omega) (by omega) ?_
  have g2 : 0 ≤ (h.2.1 68 p1) ∧ (h.2.1 68 p1) ≤ 99 := i0.2.1 68 p1
  refine mm_isub C (mm_dec dk_X12_seconds 8 rfl) ⟨by omega, by omega⟩ ?_
  refine mm_istore_nL (ls2 := [mR 66, mI p1, mI p2, mI ((h.2.1 68 p2) - (h.2.1 68 p1))]) C (mm_dec dk_X12_seconds 9 rfl) (by decide) rfl ?_
  refine mm_aload_n C (mm_dec dk_X12_seconds 10 rfl) rfl ?_
  refine mm_getr (t := 69) C fl_X12_16 (mm_dec dk_X12_seconds 11 rfl) rfl rfl (mm_ref i0 rfl) ?_
  refine mm_aload_n C (mm_dec dk_X12_seconds 12 rfl) rfl ?_
  refine mm_getr (t := 67) C fl_X12_7 (mm_dec dk_X12_seconds 13 rfl) rfl rfl (mm_ref i0 rfl) ?_
  refine mm_iload_n C (mm_dec dk_X12_seconds 14 rfl) rfl ?_
  refine mm_iald C (mm_dec dk_X12_seconds 15 rfl) rfl (by omega) (by omega) ?_
  have g3 : 0 ≤ (h.2.1 67 p2) ∧ (h.2.1 67 p2) ≤ 7 := i0.2.1 67 p2
  refine mm_iald C (mm_dec dk_X12_seconds 16 rfl) rfl (by omega) (by omega) ?_
  have g4 : 0 ≤ (h.2.1 69 (h.2.1 67 p2)) ∧ (h.2.1 69 (h.2.1 67 p2)) ≤ 99 := i0.2.1 69 (h.2.1 67 p2)
  refine mm_iload_n C (mm_dec dk_X12_seconds 17 rfl) rfl ?_
  refine mm_if_le (tgt := 38) C (mm_dec dk_X12_seconds 18 rfl) (by decide) (fun c26 => ?_) (fun c26 => ?_)
  · skip
    refine mm_iconst C (mm_dec dk_X12_seconds 24 rfl) ⟨by decide, by decide⟩ ?_
    refine mm_iadd C (mm_dec dk_X12_seconds 25 rfl) ⟨by omega, by omega⟩ ?_
    exact mm_iret C T (mm_dec dk_X12_seconds 26 rfl) (by decide : 0 ≤ 0) (by decide : 0 ≤ 0) ⟨_, rfl, ⟨⟨by omega, by omega⟩, rfl, by unfold mm_sec; (repeat' split) <;> omega⟩⟩
  · skip
    refine mm_aload_n C (mm_dec dk_X12_seconds 19 rfl) rfl ?_
    refine mm_geti C fl_X12_198 (mm_dec dk_X12_seconds 20 rfl) rfl rfl (Or.inl rfl) ?_
    have g5 : 0 ≤ (h.1 66 3) ∧ (h.1 66 3) ≤ 9 := i0.1 66 3
    refine mm_iload_n C (mm_dec dk_X12_seconds 21 rfl) rfl ?_
    have g6 : 0 ≤ (h.1 66 3) * ((h.2.1 68 p2) - (h.2.1 68 p1)) ∧ (h.1 66 3) * ((h.2.1 68 p2) - (h.2.1 68 p1)) ≤ 9 * 99 := mm_mul_rg ⟨by omega, by omega⟩ ⟨by omega, by omega⟩
    refine mm_imul C (mm_dec dk_X12_seconds 22 rfl) ⟨by omega, by omega⟩ ?_
    refine mm_goto (tgt := 39) C (mm_dec dk_X12_seconds 23 rfl) (by decide) ?_
    refine mm_iadd C (mm_dec dk_X12_seconds 25 rfl) ⟨by omega, by omega⟩ ?_
    exact mm_iret C T (mm_dec dk_X12_seconds 26 rfl) (by decide : 0 ≤ 0) (by decide : 0 ≤ 0) ⟨_, rfl, ⟨⟨by omega, by omega⟩, rfl, by unfold mm_sec; (repeat' split) <;> omega⟩⟩
set_option maxRecDepth 100000 in
set_option maxHeartbeats 4000000 in
theorem c_X12_firstMove_x (l : Launch) (hl : l.stackTraces = false) (d : Nat) (hd : 1 ≤ d) (h : mH) (i0 : mm_inv h) (p1 : Int) (bp1 : 0 ≤ p1 ∧ p1 ≤ 399) : mm_Met l d yX12_firstMove cX12_firstMove 4 (some .int) [mR 66, mI p1] h (mm_pi fun r h2 => (-1 ≤ r ∧ r ≤ 3) ∧ h2 = h ∧ ((0 ≤ r ∧ mm_fm h p1 r) ∨ (r = -1 ∧ ∀ m, 0 ≤ m → m < 4 → ¬ mm_fm h p1 m))) mm_nx 0 0 := by
  refine mm_ofW (ls := [mR 66, mI p1, mU, mU]) hl (by decide) rfl (Nat.le_of_ble_eq_true rfl) ?_
  intro x hxl C T hnm htb
  subst hxl
  have C1 := mm_OK_le (d' := d - 1 + 1) (by omega) C
  refine mm_rng (fun hr _ => ?_)
  have ap1 : -2147483648 ≤ p1 ∧ p1 < 2147483648 := mm_ok_at hr (i := 1) rfl
  have f0 : mm_fr [] [] h h := mm_fr_rf
  refine mm_iconst C (mm_dec dk_X12_firstMove 0 rfl) ⟨by decide, by decide⟩ ?_
  have J2 : ∀ (n : Nat) (x2_2 : Int) (bx2_2 : 0 ≤ x2_2 ∧ x2_2 ≤ 4) (w2_0 : ∀ m, 0 ≤ m → m < x2_2 → ¬ mm_fm h p1 m), (4 - x2_2 : Int) < n → mm_W x 0 0 2 [mR 66, mI p1, mI x2_2, mU] [] h := by
    intro n
    induction n with
    | zero =>
      intro x2_2 bx2_2 w2_0 hm
      exfalso; omega
    | succ n ih2 =>
      intro x2_2 bx2_2 w2_0 hm2
      refine mm_iload_n C (mm_dec dk_X12_firstMove 2 rfl) rfl ?_
      refine mm_iconst C (mm_dec dk_X12_firstMove 3 rfl) ⟨by decide, by decide⟩ ?_
      refine mm_icmp_ge (tgt := 66) C (mm_dec dk_X12_firstMove 4 rfl) (by decide) (fun c4 => ?_) (fun c4 => ?_)
      · skip
        refine mm_iconst C (mm_dec dk_X12_firstMove 42 rfl) ⟨by decide, by decide⟩ ?_
        exact mm_iret C T (mm_dec dk_X12_firstMove 43 rfl) (by decide : 0 ≤ 0) (by decide : 0 ≤ 0) ⟨_, rfl, ⟨⟨by omega, by omega⟩, rfl, by first | exact Or.inl ⟨by omega, by unfold mm_fm; rw [← y10_0, ← y28_0]; exact ⟨by omega, by omega, by omega⟩⟩ | exact Or.inr ⟨rfl, fun m a b => w2_0 m a (by omega)⟩⟩⟩
      · skip
        refine mm_aload_n C (mm_dec dk_X12_firstMove 5 rfl) rfl ?_
        refine mm_iload_n C (mm_dec dk_X12_firstMove 6 rfl) rfl ?_
        refine mm_iload_n C (mm_dec dk_X12_firstMove 7 rfl) rfl ?_
        refine mm_cVi (rest := []) C1 ev_X12_271 (mm_dec dk_X12_firstMove 8 rfl) (c_X12_leads_x x.2.1 hl (d - 1) (by omega) h i0 p1 x2_2 ⟨by omega, by omega⟩) rfl rfl (Nat.le_of_ble_eq_true rfl) ⟨by decide, by decide⟩ rfl (fun r10 h10c hp10 => ?_) (fun _ _ q => q.elim)
        obtain ⟨b10, z10, y10_0⟩ := hp10
        rw [z10]
        refine mm_istore_nL (ls2 := [mR 66, mI p1, mI x2_2, mI r10]) C (mm_dec dk_X12_firstMove 9 rfl) (by decide) rfl ?_
        refine mm_iload_n C (mm_dec dk_X12_firstMove 10 rfl) rfl ?_
        refine mm_iconst C (mm_dec dk_X12_firstMove 11 rfl) ⟨by decide, by decide⟩ ?_
        have J60 : ∀ (w60_0 : ∀ m, 0 ≤ m → m < x2_2 + 1 → ¬ mm_fm h p1 m), mm_W x 0 0 60 [mR 66, mI p1, mI x2_2, mU] [] h := by
          intro w60_0
          refine mm_iincL (ls2 := [mR 66, mI p1, mI (x2_2 + 1), mU]) C (mm_dec dk_X12_firstMove 40 rfl) rfl (by decide) ⟨by omega, by omega⟩ rfl ?_
          refine mm_goto (tgt := 2) C (mm_dec dk_X12_firstMove 41 rfl) (by decide) ?_
          exact ih2 (x2_2 + 1) ⟨by omega, by omega⟩ (by first | exact (fun m a b => absurd b (by omega)) | exact w60_0) (by omega)
        refine mm_icmp_eq (tgt := 60) C (mm_dec dk_X12_firstMove 12 rfl) (by decide) (fun c16 => ?_) (fun c16 => ?_)
        · skip
          refine mm_fgt 3 ?_
          exact J60 (by first | exact mm_fm_step w2_0 (fun q => by have q1 := q.1; rw [← y10_0] at q1; omega) | exact mm_fm_step w2_0 (fun q => by have q2 := q.2.1; have q3 := q.2.2; rw [← y10_0] at q2 q3; rw [← y28_0] at q2; omega))
        · skip
          refine mm_aload_n C (mm_dec dk_X12_firstMove 13 rfl) rfl ?_
          refine mm_getr (t := 72) C fl_X12_26 (mm_dec dk_X12_firstMove 14 rfl) rfl rfl (mm_ref i0 rfl) ?_
          refine mm_iload_n C (mm_dec dk_X12_firstMove 15 rfl) rfl ?_
          refine mm_iald C (mm_dec dk_X12_firstMove 16 rfl) rfl (by omega) (by omega) ?_
          have g2 : 0 ≤ (h.2.1 72 r10) ∧ (h.2.1 72 r10) ≤ 1000000000 := i0.2.1 72 r10
          refine mm_aload_n C (mm_dec dk_X12_firstMove 17 rfl) rfl ?_
          refine mm_iload_n C (mm_dec dk_X12_firstMove 18 rfl) rfl ?_
          refine mm_iload_n C (mm_dec dk_X12_firstMove 19 rfl) rfl ?_
          refine mm_cVi (rest := [mI (h.2.1 72 r10)]) C1 ev_X12_275 (mm_dec dk_X12_firstMove 20 rfl) (c_X12_seconds_x x.2.1 hl (d - 1) (by omega) h i0 p1 r10 ⟨by omega, by omega⟩ ⟨by omega, by omega⟩) rfl rfl (Nat.le_of_ble_eq_true rfl) ⟨by decide, by decide⟩ rfl (fun r28 h28c hp28 => ?_) (fun _ _ q => q.elim)
          obtain ⟨b28, z28, y28_0⟩ := hp28
          rw [z28]
          refine mm_iadd C (mm_dec dk_X12_firstMove 21 rfl) ⟨by omega, by omega⟩ ?_
          refine mm_aload_n C (mm_dec dk_X12_firstMove 22 rfl) rfl ?_
          refine mm_getr (t := 72) C fl_X12_26 (mm_dec dk_X12_firstMove 23 rfl) rfl rfl (mm_ref i0 rfl) ?_
          refine mm_iload_n C (mm_dec dk_X12_firstMove 24 rfl) rfl ?_
          refine mm_iald C (mm_dec dk_X12_firstMove 25 rfl) rfl (by omega) (by omega) ?_
          have g4 : 0 ≤ (h.2.1 72 p1) ∧ (h.2.1 72 p1) ≤ 1000000000 := i0.2.1 72 p1
          refine mm_icmp_ne (tgt := 60) C (mm_dec dk_X12_firstMove 26 rfl) (by decide) (fun c38 => ?_) (fun c38 => ?_)
          · skip
            refine mm_fgt 3 ?_
            exact J60 (by first | exact mm_fm_step w2_0 (fun q => by have q1 := q.1; rw [← y10_0] at q1; omega) | exact mm_fm_step w2_0 (fun q => by have q2 := q.2.1; have q3 := q.2.2; rw [← y10_0] at q2 q3; rw [← y28_0] at q2; omega))
          · skip
            refine mm_aload_n C (mm_dec dk_X12_firstMove 27 rfl) rfl ?_
            refine mm_getr (t := 73) C fl_X12_29 (mm_dec dk_X12_firstMove 28 rfl) rfl rfl (mm_ref i0 rfl) ?_
            refine mm_iload_n C (mm_dec dk_X12_firstMove 29 rfl) rfl ?_
            refine mm_iald C (mm_dec dk_X12_firstMove 30 rfl) rfl (by omega) (by omega) ?_
            have g5 : 0 ≤ (h.2.1 73 r10) ∧ (h.2.1 73 r10) ≤ 400 := i0.2.1 73 r10
            refine mm_iconst C (mm_dec dk_X12_firstMove 31 rfl) ⟨by decide, by decide⟩ ?_
            refine mm_iadd C (mm_dec dk_X12_firstMove 32 rfl) ⟨by omega, by omega⟩ ?_
            refine mm_aload_n C (mm_dec dk_X12_firstMove 33 rfl) rfl ?_
            refine mm_getr (t := 73) C fl_X12_29 (mm_dec dk_X12_firstMove 34 rfl) rfl rfl (mm_ref i0 rfl) ?_
            refine mm_iload_n C (mm_dec dk_X12_firstMove 35 rfl) rfl ?_
            refine mm_iald C (mm_dec dk_X12_firstMove 36 rfl) rfl (by omega) (by omega) ?_
            have g6 : 0 ≤ (h.2.1 73 p1) ∧ (h.2.1 73 p1) ≤ 400 := i0.2.1 73 p1
            refine mm_icmp_ne (tgt := 60) C (mm_dec dk_X12_firstMove 37 rfl) (by decide) (fun c55 => ?_) (fun c55 => ?_)
            · skip
              refine mm_fgt 3 ?_
              exact J60 (by first | exact mm_fm_step w2_0 (fun q => by have q1 := q.1; rw [← y10_0] at q1; omega) | exact mm_fm_step w2_0 (fun q => by have q2 := q.2.1; have q3 := q.2.2; rw [← y10_0] at q2 q3; rw [← y28_0] at q2; omega))
            · skip
              refine mm_iload_n C (mm_dec dk_X12_firstMove 38 rfl) rfl ?_
              exact mm_iret C T (mm_dec dk_X12_firstMove 39 rfl) (by decide : 0 ≤ 0) (by decide : 0 ≤ 0) ⟨_, rfl, ⟨⟨by omega, by omega⟩, rfl, by first | exact Or.inl ⟨by omega, by unfold mm_fm; rw [← y10_0, ← y28_0]; exact ⟨by omega, by omega, by omega⟩⟩ | exact Or.inr ⟨rfl, fun m a b => w2_0 m a (by omega)⟩⟩⟩
  refine mm_istore_nL (ls2 := [mR 66, mI p1, mI 0, mU]) C (mm_dec dk_X12_firstMove 1 rfl) (by decide) rfl ?_
  exact J2 (((4 - 0) : Int) + 1).toNat 0 ⟨by omega, by omega⟩ (by first | exact (fun m a b => absurd b (by omega)) | exact w60_0) (by omega)
set_option maxRecDepth 100000 in
set_option maxHeartbeats 4000000 in
theorem c_X12_comes (l : Launch) (hl : l.stackTraces = false) (d : Nat) (hd : 1 ≤ d) (h : mH) (i0 : mm_inv h) (p1 : Int) (p2 : Int) (bp1 : 0 ≤ p1 ∧ p1 ≤ 399) (t0 : h.2.1 73 p1 ≤ 399) : mm_Met l d yX12_comes cX12_comes 8 none [mR 66, mI p1, mI p2] h (mm_pv fun h2 => mm_inv h2 ∧ mm_fr [] [72, 73] h h2 ∧ mm_come h h2 p1) mm_nx 0 0 := by
  refine mm_ofW (ls := [mR 66, mI p1, mI p2, mU, mU, mU, mU, mU]) hl (by decide) rfl (Nat.le_of_ble_eq_true rfl) ?_
  intro x hxl C T hnm htb
  subst hxl
  have C1 := mm_OK_le (d' := d - 1 + 1) (by omega) C
  refine mm_rng (fun hr _ => ?_)
  have ap1 : -2147483648 ≤ p1 ∧ p1 < 2147483648 := mm_ok_at hr (i := 1) rfl
  have ap2 : -2147483648 ≤ p2 ∧ p2 < 2147483648 := mm_ok_at hr (i := 2) rfl
  have f0 : mm_fr [] [72, 73] h h := mm_fr_rf
  refine mm_iconst C (mm_dec dk_X12_comes 0 rfl) ⟨by decide, by decide⟩ ?_
  have J2 : ∀ (n : Nat) (x2_3 : Int) (bx2_3 : 0 ≤ x2_3 ∧ x2_3 ≤ 4) (h2_ : mH) (i2_ : mm_inv h2_) (f2_ : mm_fr [] [72, 73] h h2_) (w2_0 : mm_come h h2_ p1), (4 - x2_3 : Int) < n → mm_W x 0 0 2 [mR 66, mI p1, mI p2, mI x2_3, mU, mU, mU, mU] [] h2_ := by
    intro n
    induction n with
    | zero =>
      intro x2_3 bx2_3 h2_ i2_ f2_ w2_0 hm
      exfalso; omega
    | succ n ih2 =>
      intro x2_3 bx2_3 h2_ i2_ f2_ w2_0 hm2
      refine mm_iload_n C (mm_dec dk_X12_comes 2 rfl) rfl ?_
      refine mm_iconst C (mm_dec dk_X12_comes 3 rfl) ⟨by decide, by decide⟩ ?_
      refine mm_icmp_ge (tgt := 212) C (mm_dec dk_X12_comes 4 rfl) (by decide) (fun c4 => ?_) (fun c4 => ?_)
      · skip
        exact mm_vret C T (mm_dec dk_X12_comes 119 rfl) (by decide : 0 ≤ 0) (by decide : 0 ≤ 0) ⟨rfl, ⟨i2_, f2_, by exact w2_0⟩⟩
      · skip
        refine mm_iload_n C (mm_dec dk_X12_comes 5 rfl) rfl ?_
        refine mm_bipush C (mm_dec dk_X12_comes 6 rfl) ⟨by decide, by decide⟩ ?_
        refine mm_irem C (mm_dec dk_X12_comes 7 rfl) (by omega) (by omega) ?_
        refine mm_iload_n C (mm_dec dk_X12_comes 8 rfl) rfl ?_
        refine mm_iconst C (mm_dec dk_X12_comes 9 rfl) ⟨by decide, by decide⟩ ?_
        have J30 : ∀ (s30_1 : Int) (bs30_1 : -1 ≤ s30_1 ∧ s30_1 ≤ 1) (vs30_1 : (x2_3 ≠ 1 ∧ x2_3 = 3 ∧ s30_1 = -1) ∨ (x2_3 ≠ 1 ∧ x2_3 ≠ 3 ∧ s30_1 = 0) ∨ (x2_3 = 1 ∧ s30_1 = 1)), mm_W x 0 0 30 [mR 66, mI p1, mI p2, mI x2_3, mU, mU, mU, mU] [mI s30_1, mI (p1 % 20)] h2_ := by
          intro s30_1 bs30_1 vs30_1
          refine mm_isub C (mm_dec dk_X12_comes 19 rfl) ⟨by omega, by omega⟩ ?_
          refine mm_istoreL (ls2 := [mR 66, mI p1, mI p2, mI x2_3, mI ((p1 % 20) - s30_1), mU, mU, mU]) C (mm_dec dk_X12_comes 20 rfl) (by decide) rfl ?_
          refine mm_iload_n C (mm_dec dk_X12_comes 21 rfl) rfl ?_
          refine mm_bipush C (mm_dec dk_X12_comes 22 rfl) ⟨by decide, by decide⟩ ?_
          refine mm_idiv C (mm_dec dk_X12_comes 23 rfl) ⟨by omega, by omega⟩ (by omega) ?_
          refine mm_iload_n C (mm_dec dk_X12_comes 24 rfl) rfl ?_
          refine mm_iconst C (mm_dec dk_X12_comes 25 rfl) ⟨by decide, by decide⟩ ?_
          have J55 : ∀ (s55_1 : Int) (bs55_1 : -1 ≤ s55_1 ∧ s55_1 ≤ 1) (vs55_1 : (x2_3 ≠ 2 ∧ x2_3 = 0 ∧ s55_1 = -1) ∨ (x2_3 ≠ 2 ∧ x2_3 ≠ 0 ∧ s55_1 = 0) ∨ (x2_3 = 2 ∧ s55_1 = 1)), mm_W x 0 0 55 [mR 66, mI p1, mI p2, mI x2_3, mI ((p1 % 20) - s30_1), mU, mU, mU] [mI s55_1, mI (p1 / 20)] h2_ := by
            intro s55_1 bs55_1 vs55_1
            refine mm_isub C (mm_dec dk_X12_comes 34 rfl) ⟨by omega, by omega⟩ ?_
            refine mm_istoreL (ls2 := [mR 66, mI p1, mI p2, mI x2_3, mI ((p1 % 20) - s30_1), mI ((p1 / 20) - s55_1), mU, mU]) C (mm_dec dk_X12_comes 35 rfl) (by decide) rfl ?_
            refine mm_iload_n C (mm_dec dk_X12_comes 36 rfl) rfl ?_
            refine mm_iload_n C (mm_dec dk_X12_comes 37 rfl) rfl ?_
            have J206 : ∀ (h206_ : mH) (i206_ : mm_inv h206_) (f206_ : mm_fr [] [72, 73] h h206_) (w206_0 : mm_come h h206_ p1), mm_W x 0 0 206 [mR 66, mI p1, mI p2, mI x2_3, mU, mU, mU, mU] [] h206_ := by
              intro h206_ i206_ f206_ w206_0
              refine mm_iincL (ls2 := [mR 66, mI p1, mI p2, mI (x2_3 + 1), mU, mU, mU, mU]) C (mm_dec dk_X12_comes 117 rfl) rfl (by decide) ⟨by omega, by omega⟩ rfl ?_
              refine mm_goto (tgt := 2) C (mm_dec dk_X12_comes 118 rfl) (by decide) ?_
              exact ih2 (x2_3 + 1) ⟨by omega, by omega⟩ h206_ i206_ f206_ (by first | exact mm_come_rf | exact w206_0) (by omega)
            refine mm_icmp_ne (tgt := 206) C (mm_dec dk_X12_comes 38 rfl) (by decide) (fun c60 => ?_) (fun c60 => ?_)
            · skip
              refine mm_fgt 4 ?_
              refine mm_fgt 5 ?_
              exact J206 h2_ i2_ f2_ (by first | exact w2_0 | (rw [eh2, eh1]; rw [eh1] at zz; exact mm_come_put w2_0 (m := x2_3) ⟨by omega, by omega⟩ ⟨by omega, by omega⟩ zl zs (by omega) (by omega) (by omega)))
            · skip
              refine mm_iload C (mm_dec dk_X12_comes 39 rfl) rfl ?_
              refine mm_if_lt (tgt := 206) C (mm_dec dk_X12_comes 40 rfl) (by decide) (fun c65 => ?_) (fun c65 => ?_)
              · skip
                refine mm_fgt 4 ?_
                refine mm_fgt 5 ?_
                exact J206 h2_ i2_ f2_ (by first | exact w2_0 | (rw [eh2, eh1]; rw [eh1] at zz; exact mm_come_put w2_0 (m := x2_3) ⟨by omega, by omega⟩ ⟨by omega, by omega⟩ zl zs (by omega) (by omega) (by omega)))
              · skip
                refine mm_iload C (mm_dec dk_X12_comes 41 rfl) rfl ?_
                refine mm_if_lt (tgt := 206) C (mm_dec dk_X12_comes 42 rfl) (by decide) (fun c70 => ?_) (fun c70 => ?_)
                · skip
                  refine mm_fgt 4 ?_
                  refine mm_fgt 5 ?_
                  exact J206 h2_ i2_ f2_ (by first | exact w2_0 | (rw [eh2, eh1]; rw [eh1] at zz; exact mm_come_put w2_0 (m := x2_3) ⟨by omega, by omega⟩ ⟨by omega, by omega⟩ zl zs (by omega) (by omega) (by omega)))
                · skip
                  refine mm_iload C (mm_dec dk_X12_comes 43 rfl) rfl ?_
                  refine mm_aload_n C (mm_dec dk_X12_comes 44 rfl) rfl ?_
                  refine mm_geti C fl_X12_192 (mm_dec dk_X12_comes 45 rfl) rfl rfl (Or.inl rfl) ?_
                  have g1 : 1 ≤ (h2_.1 66 1) ∧ (h2_.1 66 1) ≤ 20 := i2_.1 66 1
                  refine mm_icmp_ge (tgt := 206) C (mm_dec dk_X12_comes 46 rfl) (by decide) (fun c79 => ?_) (fun c79 => ?_)
                  · skip
                    refine mm_fgt 4 ?_
                    refine mm_fgt 5 ?_
                    exact J206 h2_ i2_ f2_ (by first | exact w2_0 | (rw [eh2, eh1]; rw [eh1] at zz; exact mm_come_put w2_0 (m := x2_3) ⟨by omega, by omega⟩ ⟨by omega, by omega⟩ zl zs (by omega) (by omega) (by omega)))
                  · skip
                    refine mm_iload C (mm_dec dk_X12_comes 47 rfl) rfl ?_
                    refine mm_aload_n C (mm_dec dk_X12_comes 48 rfl) rfl ?_
                    refine mm_geti C fl_X12_195 (mm_dec dk_X12_comes 49 rfl) rfl rfl (Or.inl rfl) ?_
                    have g2 : 1 ≤ (h2_.1 66 2) ∧ (h2_.1 66 2) ≤ 20 := i2_.1 66 2
                    refine mm_icmp_ge (tgt := 206) C (mm_dec dk_X12_comes 50 rfl) (by decide) (fun c88 => ?_) (fun c88 => ?_)
                    · skip
                      refine mm_fgt 4 ?_
                      refine mm_fgt 5 ?_
                      exact J206 h2_ i2_ f2_ (by first | exact w2_0 | (rw [eh2, eh1]; rw [eh1] at zz; exact mm_come_put w2_0 (m := x2_3) ⟨by omega, by omega⟩ ⟨by omega, by omega⟩ zl zs (by omega) (by omega) (by omega)))
                    · skip
                      refine mm_aload_n C (mm_dec dk_X12_comes 51 rfl) rfl ?_
                      refine mm_bipush C (mm_dec dk_X12_comes 52 rfl) ⟨by decide, by decide⟩ ?_
                      refine mm_iload C (mm_dec dk_X12_comes 53 rfl) rfl ?_
                      refine mm_imul C (mm_dec dk_X12_comes 54 rfl) ⟨by omega, by omega⟩ ?_
                      refine mm_iload C (mm_dec dk_X12_comes 55 rfl) rfl ?_
                      refine mm_iadd C (mm_dec dk_X12_comes 56 rfl) ⟨by omega, by omega⟩ ?_
                      refine mm_iload_n C (mm_dec dk_X12_comes 57 rfl) rfl ?_
                      refine mm_cVi (rest := []) C1 ev_X12_271 (mm_dec dk_X12_comes 58 rfl) (c_X12_leads_x x.2.1 hl (d - 1) (by omega) h2_ i2_ ((20 * ((p1 / 20) - s55_1)) + ((p1 % 20) - s30_1)) x2_3 ⟨by omega, by omega⟩) rfl rfl (Nat.le_of_ble_eq_true rfl) ⟨by decide, by decide⟩ rfl (fun r101 h101c hp101 => ?_) (fun _ _ q => q.elim)
                      obtain ⟨b101, z101, y101_0⟩ := hp101
                      rw [z101]
                      refine mm_iload_n C (mm_dec dk_X12_comes 59 rfl) rfl ?_
                      refine mm_icmp_eq (tgt := 111) C (mm_dec dk_X12_comes 60 rfl) (by decide) (fun c105 => ?_) (fun c105 => ?_)
                      · skip
                        refine mm_bipush C (mm_dec dk_X12_comes 62 rfl) ⟨by decide, by decide⟩ ?_
                        refine mm_iload C (mm_dec dk_X12_comes 63 rfl) rfl ?_
                        refine mm_imul C (mm_dec dk_X12_comes 64 rfl) ⟨by omega, by omega⟩ ?_
                        refine mm_iload C (mm_dec dk_X12_comes 65 rfl) rfl ?_
                        refine mm_iadd C (mm_dec dk_X12_comes 66 rfl) ⟨by omega, by omega⟩ ?_
                        refine mm_istoreL (ls2 := [mR 66, mI p1, mI p2, mI x2_3, mI ((p1 % 20) - s30_1), mI ((p1 / 20) - s55_1), mI ((20 * ((p1 / 20) - s55_1)) + ((p1 % 20) - s30_1)), mU]) C (mm_dec dk_X12_comes 67 rfl) (by decide) rfl ?_
                        refine mm_aload_n C (mm_dec dk_X12_comes 68 rfl) rfl ?_
                        refine mm_getr (t := 72) C fl_X12_26 (mm_dec dk_X12_comes 69 rfl) rfl rfl (mm_ref i2_ rfl) ?_
                        refine mm_iload_n C (mm_dec dk_X12_comes 70 rfl) rfl ?_
                        refine mm_iald C (mm_dec dk_X12_comes 71 rfl) rfl (by omega) (by omega) ?_
                        have g4 : 0 ≤ (h2_.2.1 72 p1) ∧ (h2_.2.1 72 p1) ≤ 1000000000 := i2_.2.1 72 p1
                        refine mm_aload_n C (mm_dec dk_X12_comes 72 rfl) rfl ?_
                        refine mm_iload C (mm_dec dk_X12_comes 73 rfl) rfl ?_
                        refine mm_iload_n C (mm_dec dk_X12_comes 74 rfl) rfl ?_
                        refine mm_cVi (rest := [mI (h2_.2.1 72 p1)]) C1 ev_X12_275 (mm_dec dk_X12_comes 75 rfl) (c_X12_seconds_x x.2.1 hl (d - 1) (by omega) h2_ i2_ ((20 * ((p1 / 20) - s55_1)) + ((p1 % 20) - s30_1)) p1 ⟨by omega, by omega⟩ ⟨by omega, by omega⟩) rfl rfl (Nat.le_of_ble_eq_true rfl) ⟨by decide, by decide⟩ rfl (fun r131 h131c hp131 => ?_) (fun _ _ q => q.elim)
                        obtain ⟨b131, z131, y131_0⟩ := hp131
                        rw [z131]
                        refine mm_iadd C (mm_dec dk_X12_comes 76 rfl) ⟨by omega, by omega⟩ ?_
                        refine mm_istoreL (ls2 := [mR 66, mI p1, mI p2, mI x2_3, mI ((p1 % 20) - s30_1), mI ((p1 / 20) - s55_1), mI ((20 * ((p1 / 20) - s55_1)) + ((p1 % 20) - s30_1)), mI ((h2_.2.1 72 p1) + r131)]) C (mm_dec dk_X12_comes 77 rfl) (by decide) rfl ?_
                        refine mm_iload C (mm_dec dk_X12_comes 78 rfl) rfl ?_
                        refine mm_aload_n C (mm_dec dk_X12_comes 79 rfl) rfl ?_
                        refine mm_getr (t := 72) C fl_X12_26 (mm_dec dk_X12_comes 80 rfl) rfl rfl (mm_ref i2_ rfl) ?_
                        refine mm_iload C (mm_dec dk_X12_comes 81 rfl) rfl ?_
                        refine mm_iald C (mm_dec dk_X12_comes 82 rfl) rfl (by omega) (by omega) ?_
                        have g6 : 0 ≤ (h2_.2.1 72 ((20 * ((p1 / 20) - s55_1)) + ((p1 % 20) - s30_1))) ∧ (h2_.2.1 72 ((20 * ((p1 / 20) - s55_1)) + ((p1 % 20) - s30_1))) ≤ 1000000000 := i2_.2.1 72 ((20 * ((p1 / 20) - s55_1)) + ((p1 % 20) - s30_1))
                        refine mm_icmp_gt (tgt := 206) C (mm_dec dk_X12_comes 83 rfl) (by decide) (fun c146 => ?_) (fun c146 => ?_)
                        · skip
                          refine mm_fgt 4 ?_
                          refine mm_fgt 5 ?_
                          refine mm_fgt 6 ?_
                          refine mm_fgt 7 ?_
                          exact J206 h2_ i2_ f2_ (by first | exact w2_0 | (rw [eh2, eh1]; rw [eh1] at zz; exact mm_come_put w2_0 (m := x2_3) ⟨by omega, by omega⟩ ⟨by omega, by omega⟩ zl zs (by omega) (by omega) (by omega)))
                        · skip
                          refine mm_iload C (mm_dec dk_X12_comes 84 rfl) rfl ?_
                          refine mm_aload_n C (mm_dec dk_X12_comes 85 rfl) rfl ?_
                          refine mm_getr (t := 72) C fl_X12_26 (mm_dec dk_X12_comes 86 rfl) rfl rfl (mm_ref i2_ rfl) ?_
                          refine mm_iload C (mm_dec dk_X12_comes 87 rfl) rfl ?_
                          refine mm_iald C (mm_dec dk_X12_comes 88 rfl) rfl (by omega) (by omega) ?_
                          have J182 : ∀ (w182_0 : ((h2_.2.1 72 p1) + r131) ≤ h2_.2.1 72 ((20 * ((p1 / 20) - s55_1)) + ((p1 % 20) - s30_1))), mm_W x 0 0 182 [mR 66, mI p1, mI p2, mI x2_3, mU, mU, mI ((20 * ((p1 / 20) - s55_1)) + ((p1 % 20) - s30_1)), mI ((h2_.2.1 72 p1) + r131)] [] h2_ := by
                            intro w182_0
                            have zl : mm_lea h ((20 * ((p1 / 20) - s55_1)) + ((p1 % 20) - s30_1)) x2_3 = p1 := by rw [← mm_lea_fr (mm_lnd_fr f2_ (by decide))]; omega
                            have zs : ((h2_.2.1 72 p1) + r131) = h.2.1 72 p1 + mm_sec h ((20 * ((p1 / 20) - s55_1)) + ((p1 % 20) - s30_1)) p1 := by rw [← mm_sec_fr (mm_lnd_fr f2_ (by decide)), ← w2_0.1.1]; omega
                            refine mm_aload_n C (mm_dec dk_X12_comes 102 rfl) rfl ?_
                            refine mm_getr (t := 72) C fl_X12_26 (mm_dec dk_X12_comes 103 rfl) rfl rfl (mm_ref i2_ rfl) ?_
                            refine mm_iload C (mm_dec dk_X12_comes 104 rfl) rfl ?_
                            refine mm_iload C (mm_dec dk_X12_comes 105 rfl) rfl ?_
                            refine mm_iast C (mm_dec dk_X12_comes 106 rfl) rfl (by omega) (by omega) ?_
                            have i1 : mm_inv (mm_pa h2_ 72 ((20 * ((p1 / 20) - s55_1)) + ((p1 % 20) - s30_1)) ((h2_.2.1 72 p1) + r131)) := mm_inv_pa i2_ (show 0 ≤ ((h2_.2.1 72 p1) + r131) ∧ ((h2_.2.1 72 p1) + r131) ≤ 1000000000 from ⟨by omega, by omega⟩)
                            have f1 : mm_fr [] [72, 73] h (mm_pa h2_ 72 ((20 * ((p1 / 20) - s55_1)) + ((p1 % 20) - s30_1)) ((h2_.2.1 72 p1) + r131)) := mm_fr_pa f2_ (by decide)
                            obtain ⟨h1, eh1⟩ : ∃ z, z = mm_pa h2_ 72 ((20 * ((p1 / 20) - s55_1)) + ((p1 % 20) - s30_1)) ((h2_.2.1 72 p1) + r131) := ⟨_, rfl⟩
                            rw [← eh1] at i1 f1 ⊢
                            have qh1_7 : h1.1 66 1 = h2_.1 66 1 := by rw [eh1]; rfl
                            have qh1_8 : h1.1 66 2 = h2_.1 66 2 := by rw [eh1]; rfl
                            refine mm_aload_n C (mm_dec dk_X12_comes 107 rfl) rfl ?_
                            refine mm_getr (t := 73) C fl_X12_29 (mm_dec dk_X12_comes 108 rfl) rfl rfl (mm_ref i1 rfl) ?_
                            refine mm_iload C (mm_dec dk_X12_comes 109 rfl) rfl ?_
                            refine mm_aload_n C (mm_dec dk_X12_comes 110 rfl) rfl ?_
                            refine mm_getr (t := 73) C fl_X12_29 (mm_dec dk_X12_comes 111 rfl) rfl rfl (mm_ref i1 rfl) ?_
                            refine mm_iload_n C (mm_dec dk_X12_comes 112 rfl) rfl ?_
                            refine mm_iald C (mm_dec dk_X12_comes 113 rfl) rfl (by omega) (by omega) ?_
                            have g9 : 0 ≤ (h1.2.1 73 p1) ∧ (h1.2.1 73 p1) ≤ 400 := i1.2.1 73 p1
                            have zz : h1.2.1 73 p1 = h2_.2.1 73 p1 := by rw [eh1]; exact mm_pa_ne _ _ (fun w => absurd w.1 (by decide))
                            have zc := w2_0.1.2
                            refine mm_iconst C (mm_dec dk_X12_comes 114 rfl) ⟨by decide, by decide⟩ ?_
                            refine mm_iadd C (mm_dec dk_X12_comes 115 rfl) ⟨by omega, by omega⟩ ?_
                            refine mm_iast C (mm_dec dk_X12_comes 116 rfl) rfl (by omega) (by omega) ?_
                            have i2 : mm_inv (mm_pa h1 73 ((20 * ((p1 / 20) - s55_1)) + ((p1 % 20) - s30_1)) ((h1.2.1 73 p1) + 1)) := mm_inv_pa i1 (show 0 ≤ ((h1.2.1 73 p1) + 1) ∧ ((h1.2.1 73 p1) + 1) ≤ 400 from ⟨by omega, by omega⟩)
                            have f2 : mm_fr [] [72, 73] h (mm_pa h1 73 ((20 * ((p1 / 20) - s55_1)) + ((p1 % 20) - s30_1)) ((h1.2.1 73 p1) + 1)) := mm_fr_pa f1 (by decide)
                            obtain ⟨h2, eh2⟩ : ∃ z, z = mm_pa h1 73 ((20 * ((p1 / 20) - s55_1)) + ((p1 % 20) - s30_1)) ((h1.2.1 73 p1) + 1) := ⟨_, rfl⟩
                            rw [← eh2] at i2 f2 ⊢
                            have qh2_10 : h2.1 66 1 = h1.1 66 1 := by rw [eh2]; rfl
                            have qh2_11 : h2.1 66 2 = h1.1 66 2 := by rw [eh2]; rfl
                            refine mm_fgt 6 ?_
                            refine mm_fgt 7 ?_
                            exact J206 h2 i2 f2 (by first | exact w2_0 | (rw [eh2, eh1]; rw [eh1] at zz; exact mm_come_put w2_0 (m := x2_3) ⟨by omega, by omega⟩ ⟨by omega, by omega⟩ zl zs (by omega) (by omega) (by omega)))
                          refine mm_icmp_ne (tgt := 182) C (mm_dec dk_X12_comes 89 rfl) (by decide) (fun c158 => ?_) (fun c158 => ?_)
                          · skip
                            refine mm_fgt 4 ?_
                            refine mm_fgt 5 ?_
                            exact J182 (by omega)
                          · skip
                            refine mm_aload_n C (mm_dec dk_X12_comes 90 rfl) rfl ?_
                            refine mm_getr (t := 73) C fl_X12_29 (mm_dec dk_X12_comes 91 rfl) rfl rfl (mm_ref i2_ rfl) ?_
                            refine mm_iload_n C (mm_dec dk_X12_comes 92 rfl) rfl ?_
                            refine mm_iald C (mm_dec dk_X12_comes 93 rfl) rfl (by omega) (by omega) ?_
                            have g12 : 0 ≤ (h2_.2.1 73 p1) ∧ (h2_.2.1 73 p1) ≤ 400 := i2_.2.1 73 p1
                            refine mm_iconst C (mm_dec dk_X12_comes 94 rfl) ⟨by decide, by decide⟩ ?_
                            refine mm_iadd C (mm_dec dk_X12_comes 95 rfl) ⟨by omega, by omega⟩ ?_
                            refine mm_aload_n C (mm_dec dk_X12_comes 96 rfl) rfl ?_
                            refine mm_getr (t := 73) C fl_X12_29 (mm_dec dk_X12_comes 97 rfl) rfl rfl (mm_ref i2_ rfl) ?_
                            refine mm_iload C (mm_dec dk_X12_comes 98 rfl) rfl ?_
                            refine mm_iald C (mm_dec dk_X12_comes 99 rfl) rfl (by omega) (by omega) ?_
                            have g13 : 0 ≤ (h2_.2.1 73 ((20 * ((p1 / 20) - s55_1)) + ((p1 % 20) - s30_1))) ∧ (h2_.2.1 73 ((20 * ((p1 / 20) - s55_1)) + ((p1 % 20) - s30_1))) ≤ 400 := i2_.2.1 73 ((20 * ((p1 / 20) - s55_1)) + ((p1 % 20) - s30_1))
                            refine mm_icmp_lt (tgt := 182) C (mm_dec dk_X12_comes 100 rfl) (by decide) (fun c176 => ?_) (fun c176 => ?_)
                            · skip
                              refine mm_fgt 4 ?_
                              refine mm_fgt 5 ?_
                              exact J182 (by omega)
                            · skip
                              refine mm_goto (tgt := 206) C (mm_dec dk_X12_comes 101 rfl) (by decide) ?_
                              refine mm_fgt 4 ?_
                              refine mm_fgt 5 ?_
                              refine mm_fgt 6 ?_
                              refine mm_fgt 7 ?_
                              exact J206 h2_ i2_ f2_ (by first | exact w2_0 | (rw [eh2, eh1]; rw [eh1] at zz; exact mm_come_put w2_0 (m := x2_3) ⟨by omega, by omega⟩ ⟨by omega, by omega⟩ zl zs (by omega) (by omega) (by omega)))
                      · skip
                        refine mm_goto (tgt := 206) C (mm_dec dk_X12_comes 61 rfl) (by decide) ?_
                        refine mm_fgt 4 ?_
                        refine mm_fgt 5 ?_
                        exact J206 h2_ i2_ f2_ (by first | exact w2_0 | (rw [eh2, eh1]; rw [eh1] at zz; exact mm_come_put w2_0 (m := x2_3) ⟨by omega, by omega⟩ ⟨by omega, by omega⟩ zl zs (by omega) (by omega) (by omega)))
          refine mm_icmp_ne (tgt := 46) C (mm_dec dk_X12_comes 26 rfl) (by decide) (fun c39 => ?_) (fun c39 => ?_)
          · skip
            refine mm_iload_n C (mm_dec dk_X12_comes 29 rfl) rfl ?_
            refine mm_if_ne (tgt := 54) C (mm_dec dk_X12_comes 30 rfl) (by decide) (fun c47 => ?_) (fun c47 => ?_)
            · skip
              refine mm_iconst C (mm_dec dk_X12_comes 33 rfl) ⟨by decide, by decide⟩ ?_
              exact J55 0 ⟨by omega, by omega⟩ (Or.inr (Or.inl ⟨by omega, by omega, rfl⟩))
            · skip
              refine mm_iconst C (mm_dec dk_X12_comes 31 rfl) ⟨by decide, by decide⟩ ?_
              refine mm_goto (tgt := 55) C (mm_dec dk_X12_comes 32 rfl) (by decide) ?_
              exact J55 (-1) ⟨by omega, by omega⟩ (Or.inl ⟨by omega, by omega, rfl⟩)
          · skip
            refine mm_iconst C (mm_dec dk_X12_comes 27 rfl) ⟨by decide, by decide⟩ ?_
            refine mm_goto (tgt := 55) C (mm_dec dk_X12_comes 28 rfl) (by decide) ?_
            exact J55 1 ⟨by omega, by omega⟩ (Or.inr (Or.inr (⟨by omega, rfl⟩)))
        refine mm_icmp_ne (tgt := 20) C (mm_dec dk_X12_comes 10 rfl) (by decide) (fun c13 => ?_) (fun c13 => ?_)
        · skip
          refine mm_iload_n C (mm_dec dk_X12_comes 13 rfl) rfl ?_
          refine mm_iconst C (mm_dec dk_X12_comes 14 rfl) ⟨by decide, by decide⟩ ?_
          refine mm_icmp_ne (tgt := 29) C (mm_dec dk_X12_comes 15 rfl) (by decide) (fun c22 => ?_) (fun c22 => ?_)
          · skip
            refine mm_iconst C (mm_dec dk_X12_comes 18 rfl) ⟨by decide, by decide⟩ ?_
            exact J30 0 ⟨by omega, by omega⟩ (Or.inr (Or.inl ⟨by omega, by omega, rfl⟩))
          · skip
            refine mm_iconst C (mm_dec dk_X12_comes 16 rfl) ⟨by decide, by decide⟩ ?_
            refine mm_goto (tgt := 30) C (mm_dec dk_X12_comes 17 rfl) (by decide) ?_
            exact J30 (-1) ⟨by omega, by omega⟩ (Or.inl ⟨by omega, by omega, rfl⟩)
        · skip
          refine mm_iconst C (mm_dec dk_X12_comes 11 rfl) ⟨by decide, by decide⟩ ?_
          refine mm_goto (tgt := 30) C (mm_dec dk_X12_comes 12 rfl) (by decide) ?_
          exact J30 1 ⟨by omega, by omega⟩ (Or.inr (Or.inr (⟨by omega, rfl⟩)))
  refine mm_istore_nL (ls2 := [mR 66, mI p1, mI p2, mI 0, mU, mU, mU, mU]) C (mm_dec dk_X12_comes 1 rfl) (by decide) rfl ?_
  exact J2 (((4 - 0) : Int) + 1).toNat 0 ⟨by omega, by omega⟩ h i0 f0 (by first | exact mm_come_rf | exact w206_0) (by omega)
