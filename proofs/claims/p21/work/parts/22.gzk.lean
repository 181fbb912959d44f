set_option maxRecDepth 100000 in
set_option maxHeartbeats 4000000 in
theorem c_X12_protested_q (l : Launch) (hl : l.stackTraces = false) (d : Nat) (hd : 0 ≤ d) (h : mH) (i0 : mm_inv h) (p1 : Int) (p2 : Int) : mm_Met l d yX12_protested cX12_protested 6 (some .int) [mR 66, mI p1, mI p2] h (mm_pi fun r h2 => (-2147483648 ≤ r ∧ r ≤ 2147483647) ∧ h2 = h ∧ r = (if mm_vb9 (h.2.1 112) (h.2.1 113) (h.2.1 114) (h.2.1 116) p1 p2 (h.1 66 82).toNat = -1 then 0 else h.2.1 114 (mm_vb9 (h.2.1 112) (h.2.1 113) (h.2.1 114) (h.2.1 116) p1 p2 (h.1 66 82).toNat))) mm_nx 0 0 := by
  refine mm_ofW (ls := [mR 66, mI p1, mI p2, mU, mU, mU]) hl (by decide) rfl (Nat.le_of_ble_eq_true rfl) ?_
  intro x hxl C T hnm htb
  subst hxl
  refine mm_rng (fun hr _ => ?_)
  have ap1 : -2147483648 ≤ p1 ∧ p1 < 2147483648 := mm_ok_at hr (i := 1) rfl
  have ap2 : -2147483648 ≤ p2 ∧ p2 < 2147483648 := mm_ok_at hr (i := 2) rfl
  have f0 : mm_fr [] [] h h := mm_fr_rf
  have zp82 : 0 ≤ h.1 66 82 ∧ h.1 66 82 ≤ 40 := i0.1 66 82
  refine mm_iconst C (mm_dec dk_X12_protested 0 rfl) ⟨by decide, by decide⟩ ?_
  refine mm_istore_nL (ls2 := [mR 66, mI p1, mI p2, mI (-1), mU, mU]) C (mm_dec dk_X12_protested 1 rfl) (by decide) rfl ?_
  refine mm_iconst C (mm_dec dk_X12_protested 2 rfl) ⟨by decide, by decide⟩ ?_
  have J5 : ∀ (n : Nat) (x5_3 : Int) (bx5_3 : -1 ≤ x5_3 ∧ x5_3 ≤ 39) (x5_4 : Int) (bx5_4 : 0 ≤ x5_4 ∧ x5_4 ≤ 40) (w5_0 : x5_3 = mm_vb9 (h.2.1 112) (h.2.1 113) (h.2.1 114) (h.2.1 116) p1 p2 (x5_4).toNat) (w5_1 : x5_4 ≤ h.1 66 82), (40 - x5_4 : Int) < n → mm_W x 0 0 5 [mR 66, mI p1, mI p2, mI x5_3, mI x5_4, mU] [] h := by
    intro n
    induction n with
    | zero =>
      intro x5_3 bx5_3 x5_4 bx5_4 w5_0 w5_1 hm
      exfalso; omega
    | succ n ih5 =>
      intro x5_3 bx5_3 x5_4 bx5_4 w5_0 w5_1 hm5
      refine mm_iload C (mm_dec dk_X12_protested 4 rfl) rfl ?_
      refine mm_aload_n C (mm_dec dk_X12_protested 5 rfl) rfl ?_
      refine mm_geti C fl_X12_231 (mm_dec dk_X12_protested 6 rfl) rfl rfl (Or.inl rfl) ?_
      have g1 : 0 ≤ (h.1 66 82) ∧ (h.1 66 82) ≤ 40 := i0.1 66 82
      refine mm_icmp_ge (tgt := 99) C (mm_dec dk_X12_protested 7 rfl) (by decide) (fun c11 => ?_) (fun c11 => ?_)
      · skip
        refine mm_iload_n C (mm_dec dk_X12_protested 53 rfl) rfl ?_
        refine mm_iconst C (mm_dec dk_X12_protested 54 rfl) ⟨by decide, by decide⟩ ?_
        have J114 : ∀ (s114_0 : Int) (bs114_0 : -2147483648 ≤ s114_0 ∧ s114_0 ≤ 2147483647) (w114_0 : (x5_3 = -1 ∧ s114_0 = 0 ∨ x5_3 ≠ -1 ∧ s114_0 = h.2.1 114 x5_3)), mm_W x 0 0 114 [mU, mU, mU, mU, mU, mU] [mI s114_0] h := by
          intro s114_0 bs114_0 w114_0
          exact mm_iret C T (mm_dec dk_X12_protested 62 rfl) (by decide : 0 ≤ 0) (by decide : 0 ≤ 0) ⟨_, rfl, ⟨⟨by omega, by omega⟩, rfl, by (rw [show h.1 66 82 = x5_4 by omega, ← w5_0]; split <;> omega)⟩⟩
        refine mm_icmp_ne (tgt := 108) C (mm_dec dk_X12_protested 55 rfl) (by decide) (fun c101 => ?_) (fun c101 => ?_)
        · skip
          refine mm_aload_n C (mm_dec dk_X12_protested 58 rfl) rfl ?_
          refine mm_getr (t := 114) C fl_X12_153 (mm_dec dk_X12_protested 59 rfl) rfl rfl (mm_ref i0 rfl) ?_
          refine mm_iload_n C (mm_dec dk_X12_protested 60 rfl) rfl ?_
          refine mm_iald C (mm_dec dk_X12_protested 61 rfl) rfl (by omega) (by omega) ?_
          have g2 : -2147483648 ≤ (h.2.1 114 x5_3) ∧ (h.2.1 114 x5_3) ≤ 2147483647 := i0.2.1 114 x5_3
          refine mm_fgt 0 ?_
          refine mm_fgt 1 ?_
          refine mm_fgt 2 ?_
          refine mm_fgt 3 ?_
          refine mm_fgt 4 ?_
          exact J114 (h.2.1 114 x5_3) ⟨by omega, by omega⟩ (by omega)
        · skip
          refine mm_iconst C (mm_dec dk_X12_protested 56 rfl) ⟨by decide, by decide⟩ ?_
          refine mm_goto (tgt := 114) C (mm_dec dk_X12_protested 57 rfl) (by decide) ?_
          refine mm_fgt 0 ?_
          refine mm_fgt 1 ?_
          refine mm_fgt 2 ?_
          refine mm_fgt 3 ?_
          refine mm_fgt 4 ?_
          exact J114 0 ⟨by omega, by omega⟩ (by omega)
      · skip
        refine mm_aload_n C (mm_dec dk_X12_protested 8 rfl) rfl ?_
        refine mm_getr (t := 112) C fl_X12_147 (mm_dec dk_X12_protested 9 rfl) rfl rfl (mm_ref i0 rfl) ?_
        refine mm_iload C (mm_dec dk_X12_protested 10 rfl) rfl ?_
        refine mm_iald C (mm_dec dk_X12_protested 11 rfl) rfl (by omega) (by omega) ?_
        have g3 : -2147483648 ≤ (h.2.1 112 x5_4) ∧ (h.2.1 112 x5_4) ≤ 2147483647 := i0.2.1 112 x5_4
        refine mm_iload_n C (mm_dec dk_X12_protested 12 rfl) rfl ?_
        have J62 : ∀ (s62_0 : Int) (bs62_0 : 0 ≤ s62_0 ∧ s62_0 ≤ 1) (w62_0 : ((s62_0 = 1 ∧ mm_uh9 (h.2.1 112) (h.2.1 113) (h.2.1 114) p1 p2 x5_4) ∨ (s62_0 = 0 ∧ ¬ mm_uh9 (h.2.1 112) (h.2.1 113) (h.2.1 114) p1 p2 x5_4))) (vs62_0 : (s62_0 = 0) ∨ ((h.2.1 112 x5_4) = p1 ∧ (h.2.1 113 x5_4) ≠ (-1) ∧ (h.2.1 113 x5_4) ≤ p2 ∧ (h.2.1 114 x5_4) ≠ 0 ∧ s62_0 = 1)), mm_W x 0 0 62 [mR 66, mI p1, mI p2, mI x5_3, mI x5_4, mU] [mI s62_0] h := by
          intro s62_0 bs62_0 w62_0 vs62_0
          refine mm_istoreL (ls2 := [mR 66, mI p1, mI p2, mI x5_3, mI x5_4, mI s62_0]) C (mm_dec dk_X12_protested 34 rfl) (by decide) rfl ?_
          refine mm_iload C (mm_dec dk_X12_protested 35 rfl) rfl ?_
          have J93 : ∀ (x93_3 : Int) (bx93_3 : -1 ≤ x93_3 ∧ x93_3 ≤ 39) (w93_0 : x93_3 = mm_vb9 (h.2.1 112) (h.2.1 113) (h.2.1 114) (h.2.1 116) p1 p2 (x5_4 + 1).toNat), mm_W x 0 0 93 [mR 66, mI p1, mI p2, mI x93_3, mI x5_4, mU] [] h := by
            intro x93_3 bx93_3 w93_0
            refine mm_iincL (ls2 := [mR 66, mI p1, mI p2, mI x93_3, mI (x5_4 + 1), mU]) C (mm_dec dk_X12_protested 51 rfl) rfl (by decide) ⟨by omega, by omega⟩ rfl ?_
            refine mm_goto (tgt := 5) C (mm_dec dk_X12_protested 52 rfl) (by decide) ?_
            exact ih5 x93_3 ⟨by omega, by omega⟩ (x5_4 + 1) ⟨by omega, by omega⟩ (by first | rfl | exact w93_0) (by omega) (by omega)
          refine mm_if_eq (tgt := 93) C (mm_dec dk_X12_protested 36 rfl) (by decide) (fun c66 => ?_) (fun c66 => ?_)
          · skip
            refine mm_fgt 5 ?_
            exact J93 x5_3 ⟨by omega, by omega⟩ (by first | exact mm_vb9_y w5_0 (by omega) w90_1 w90_0 | exact mm_vb9_n w5_0 (by omega) (Or.inl (by exact (w62_0.resolve_left (fun z => by have z1 := z.1; omega)).2)) | exact mm_vb9_n w5_0 (by omega) (Or.inr ⟨by omega, by omega⟩))
          · skip
            refine mm_iload_n C (mm_dec dk_X12_protested 37 rfl) rfl ?_
            refine mm_iconst C (mm_dec dk_X12_protested 38 rfl) ⟨by decide, by decide⟩ ?_
            have J90 : ∀ (w90_0 : (x5_3 = -1 ∨ h.2.1 116 x5_3 < h.2.1 116 x5_4)) (w90_1 : mm_uh9 (h.2.1 112) (h.2.1 113) (h.2.1 114) p1 p2 x5_4), mm_W x 0 0 90 [mR 66, mI p1, mI p2, mU, mI x5_4, mU] [] h := by
              intro w90_0 w90_1
              refine mm_iload C (mm_dec dk_X12_protested 49 rfl) rfl ?_
              refine mm_istore_nL (ls2 := [mR 66, mI p1, mI p2, mI x5_4, mI x5_4, mU]) C (mm_dec dk_X12_protested 50 rfl) (by decide) rfl ?_
              exact J93 x5_4 ⟨by omega, by omega⟩ (by first | exact mm_vb9_y w5_0 (by omega) w90_1 w90_0 | exact mm_vb9_n w5_0 (by omega) (Or.inl (by exact (w62_0.resolve_left (fun z => by have z1 := z.1; omega)).2)) | exact mm_vb9_n w5_0 (by omega) (Or.inr ⟨by omega, by omega⟩))
            refine mm_icmp_eq (tgt := 90) C (mm_dec dk_X12_protested 39 rfl) (by decide) (fun c71 => ?_) (fun c71 => ?_)
            · skip
              refine mm_fgt 3 ?_
              refine mm_fgt 5 ?_
              exact J90 (by omega) (by exact (by exact (w62_0.resolve_right (fun z => by have z1 := z.1; omega)).2))
            · skip
              refine mm_aload_n C (mm_dec dk_X12_protested 40 rfl) rfl ?_
              refine mm_getr (t := 116) C fl_X12_159 (mm_dec dk_X12_protested 41 rfl) rfl rfl (mm_ref i0 rfl) ?_
              refine mm_iload C (mm_dec dk_X12_protested 42 rfl) rfl ?_
              refine mm_iald C (mm_dec dk_X12_protested 43 rfl) rfl (by omega) (by omega) ?_
              have g4 : -2147483648 ≤ (h.2.1 116 x5_4) ∧ (h.2.1 116 x5_4) ≤ 2147483647 := i0.2.1 116 x5_4
              refine mm_aload_n C (mm_dec dk_X12_protested 44 rfl) rfl ?_
              refine mm_getr (t := 116) C fl_X12_159 (mm_dec dk_X12_protested 45 rfl) rfl rfl (mm_ref i0 rfl) ?_
              refine mm_iload_n C (mm_dec dk_X12_protested 46 rfl) rfl ?_
              refine mm_iald C (mm_dec dk_X12_protested 47 rfl) rfl (by omega) (by omega) ?_
              have g5 : -2147483648 ≤ (h.2.1 116 x5_3) ∧ (h.2.1 116 x5_3) ≤ 2147483647 := i0.2.1 116 x5_3
              refine mm_icmp_le (tgt := 93) C (mm_dec dk_X12_protested 48 rfl) (by decide) (fun c87 => ?_) (fun c87 => ?_)
              · skip
                refine mm_fgt 5 ?_
                exact J93 x5_3 ⟨by omega, by omega⟩ (by first | exact mm_vb9_y w5_0 (by omega) w90_1 w90_0 | exact mm_vb9_n w5_0 (by omega) (Or.inl (by exact (w62_0.resolve_left (fun z => by have z1 := z.1; omega)).2)) | exact mm_vb9_n w5_0 (by omega) (Or.inr ⟨by omega, by omega⟩))
              · skip
                refine mm_fgt 3 ?_
                refine mm_fgt 5 ?_
                exact J90 (by omega) (by exact (by exact (w62_0.resolve_right (fun z => by have z1 := z.1; omega)).2))
        have J61 : ∀ (w61_0 : ¬ mm_uh9 (h.2.1 112) (h.2.1 113) (h.2.1 114) p1 p2 x5_4), mm_W x 0 0 61 [mR 66, mI p1, mI p2, mI x5_3, mI x5_4, mU] [] h := by
          intro w61_0
          refine mm_iconst C (mm_dec dk_X12_protested 33 rfl) ⟨by decide, by decide⟩ ?_
          exact J62 0 ⟨by omega, by omega⟩ (by first | exact Or.inl ⟨rfl, by omega, by omega, by omega, by omega⟩ | exact Or.inr ⟨rfl, w61_0⟩) (Or.inl rfl)
        refine mm_icmp_ne (tgt := 61) C (mm_dec dk_X12_protested 13 rfl) (by decide) (fun c22 => ?_) (fun c22 => ?_)
        · skip
          exact J61 (by exact fun q => by have q1 := q.1; have q2 := q.2.1; have q3 := q.2.2.1; have q4 := q.2.2.2; omega)
        · skip
          refine mm_aload_n C (mm_dec dk_X12_protested 14 rfl) rfl ?_
          refine mm_getr (t := 113) C fl_X12_150 (mm_dec dk_X12_protested 15 rfl) rfl rfl (mm_ref i0 rfl) ?_
          refine mm_iload C (mm_dec dk_X12_protested 16 rfl) rfl ?_
          refine mm_iald C (mm_dec dk_X12_protested 17 rfl) rfl (by omega) (by omega) ?_
          have g6 : -2147483648 ≤ (h.2.1 113 x5_4) ∧ (h.2.1 113 x5_4) ≤ 2147483647 := i0.2.1 113 x5_4
          refine mm_iconst C (mm_dec dk_X12_protested 18 rfl) ⟨by decide, by decide⟩ ?_
          refine mm_icmp_eq (tgt := 61) C (mm_dec dk_X12_protested 19 rfl) (by decide) (fun c33 => ?_) (fun c33 => ?_)
          · skip
            exact J61 (by exact fun q => by have q1 := q.1; have q2 := q.2.1; have q3 := q.2.2.1; have q4 := q.2.2.2; omega)
          · skip
            refine mm_aload_n C (mm_dec dk_X12_protested 20 rfl) rfl ?_
            refine mm_getr (t := 113) C fl_X12_150 (mm_dec dk_X12_protested 21 rfl) rfl rfl (mm_ref i0 rfl) ?_
            refine mm_iload C (mm_dec dk_X12_protested 22 rfl) rfl ?_
            refine mm_iald C (mm_dec dk_X12_protested 23 rfl) rfl (by omega) (by omega) ?_
            refine mm_iload_n C (mm_dec dk_X12_protested 24 rfl) rfl ?_
            refine mm_icmp_gt (tgt := 61) C (mm_dec dk_X12_protested 25 rfl) (by decide) (fun c44 => ?_) (fun c44 => ?_)
            · skip
              exact J61 (by exact fun q => by have q1 := q.1; have q2 := q.2.1; have q3 := q.2.2.1; have q4 := q.2.2.2; omega)
            · skip
              refine mm_aload_n C (mm_dec dk_X12_protested 26 rfl) rfl ?_
              refine mm_getr (t := 114) C fl_X12_153 (mm_dec dk_X12_protested 27 rfl) rfl rfl (mm_ref i0 rfl) ?_
              refine mm_iload C (mm_dec dk_X12_protested 28 rfl) rfl ?_
              refine mm_iald C (mm_dec dk_X12_protested 29 rfl) rfl (by omega) (by omega) ?_
              have g7 : -2147483648 ≤ (h.2.1 114 x5_4) ∧ (h.2.1 114 x5_4) ≤ 2147483647 := i0.2.1 114 x5_4
              refine mm_if_eq (tgt := 61) C (mm_dec dk_X12_protested 30 rfl) (by decide) (fun c54 => ?_) (fun c54 => ?_)
              · skip
                exact J61 (by exact fun q => by have q1 := q.1; have q2 := q.2.1; have q3 := q.2.2.1; have q4 := q.2.2.2; omega)
              · skip
                refine mm_iconst C (mm_dec dk_X12_protested 31 rfl) ⟨by decide, by decide⟩ ?_
                refine mm_goto (tgt := 62) C (mm_dec dk_X12_protested 32 rfl) (by decide) ?_
                exact J62 1 ⟨by omega, by omega⟩ (by first | exact Or.inl ⟨rfl, by omega, by omega, by omega, by omega⟩ | exact Or.inr ⟨rfl, w61_0⟩) (Or.inr (⟨by omega, by omega, by omega, by omega, rfl⟩))
  refine mm_istoreL (ls2 := [mR 66, mI p1, mI p2, mI (-1), mI 0, mU]) C (mm_dec dk_X12_protested 3 rfl) (by decide) rfl ?_
  exact J5 (((40 - 0) : Int) + 1).toNat (-1) ⟨by omega, by omega⟩ 0 ⟨by omega, by omega⟩ (by first | rfl | exact w93_0) (by omega) (by omega)
set_option maxRecDepth 100000 in
set_option maxHeartbeats 4000000 in
theorem c_X12_added_q (l : Launch) (hl : l.stackTraces = false) (d : Nat) (hd : 0 ≤ d) (h : mH) (i0 : mm_inv h) (p1 : Int) (p2 : Int) : mm_Met l d yX12_added cX12_added 5 (some .int) [mR 66, mI p1, mI p2] h (mm_pi fun r h2 => (-2147483648 ≤ r ∧ r ≤ 2147483647) ∧ h2 = h ∧ r = mm_ad9 (h.2.1 112) (h.2.1 113) (h.2.1 114) (h.2.1 115) p1 p2 (h.1 66 82).toNat) mm_nx 0 0 := by
  refine mm_ofW (ls := [mR 66, mI p1, mI p2, mU, mU]) hl (by decide) rfl (Nat.le_of_ble_eq_true rfl) ?_
  intro x hxl C T hnm htb
  subst hxl
  refine mm_rng (fun hr _ => ?_)
  have ap1 : -2147483648 ≤ p1 ∧ p1 < 2147483648 := mm_ok_at hr (i := 1) rfl
  have ap2 : -2147483648 ≤ p2 ∧ p2 < 2147483648 := mm_ok_at hr (i := 2) rfl
  have f0 : mm_fr [] [] h h := mm_fr_rf
  have zp82 : 0 ≤ h.1 66 82 ∧ h.1 66 82 ≤ 40 := i0.1 66 82
  refine mm_iconst C (mm_dec dk_X12_added 0 rfl) ⟨by decide, by decide⟩ ?_
  refine mm_istore_nL (ls2 := [mR 66, mI p1, mI p2, mI 0, mU]) C (mm_dec dk_X12_added 1 rfl) (by decide) rfl ?_
  refine mm_iconst C (mm_dec dk_X12_added 2 rfl) ⟨by decide, by decide⟩ ?_
  have J5 : ∀ (n : Nat) (x5_3 : Int) (bx5_3 : -2147483648 ≤ x5_3 ∧ x5_3 ≤ 2147483647) (x5_4 : Int) (bx5_4 : 0 ≤ x5_4 ∧ x5_4 ≤ 40) (w5_0 : x5_3 = mm_ad9 (h.2.1 112) (h.2.1 113) (h.2.1 114) (h.2.1 115) p1 p2 (x5_4).toNat) (w5_1 : x5_4 ≤ h.1 66 82), (40 - x5_4 : Int) < n → mm_W x 0 0 5 [mR 66, mI p1, mI p2, mI x5_3, mI x5_4] [] h := by
    intro n
    induction n with
    | zero =>
      intro x5_3 bx5_3 x5_4 bx5_4 w5_0 w5_1 hm
      exfalso; omega
    | succ n ih5 =>
      intro x5_3 bx5_3 x5_4 bx5_4 w5_0 w5_1 hm5
      refine mm_iload C (mm_dec dk_X12_added 4 rfl) rfl ?_
      refine mm_aload_n C (mm_dec dk_X12_added 5 rfl) rfl ?_
      refine mm_geti C fl_X12_231 (mm_dec dk_X12_added 6 rfl) rfl rfl (Or.inl rfl) ?_
      have g1 : 0 ≤ (h.1 66 82) ∧ (h.1 66 82) ≤ 40 := i0.1 66 82
      refine mm_icmp_ge (tgt := 73) C (mm_dec dk_X12_added 7 rfl) (by decide) (fun c11 => ?_) (fun c11 => ?_)
      · skip
        refine mm_iload_n C (mm_dec dk_X12_added 40 rfl) rfl ?_
        exact mm_iret C T (mm_dec dk_X12_added 41 rfl) (by decide : 0 ≤ 0) (by decide : 0 ≤ 0) ⟨_, rfl, ⟨⟨by omega, by omega⟩, rfl, by (rw [show h.1 66 82 = x5_4 by omega]; exact w5_0)⟩⟩
      · skip
        refine mm_aload_n C (mm_dec dk_X12_added 8 rfl) rfl ?_
        refine mm_getr (t := 112) C fl_X12_147 (mm_dec dk_X12_added 9 rfl) rfl rfl (mm_ref i0 rfl) ?_
        refine mm_iload C (mm_dec dk_X12_added 10 rfl) rfl ?_
        refine mm_iald C (mm_dec dk_X12_added 11 rfl) rfl (by omega) (by omega) ?_
        have g2 : -2147483648 ≤ (h.2.1 112 x5_4) ∧ (h.2.1 112 x5_4) ≤ 2147483647 := i0.2.1 112 x5_4
        refine mm_iload_n C (mm_dec dk_X12_added 12 rfl) rfl ?_
        have J67 : ∀ (x67_3 : Int) (bx67_3 : -2147483648 ≤ x67_3 ∧ x67_3 ≤ 2147483647) (w67_0 : x67_3 = mm_ad9 (h.2.1 112) (h.2.1 113) (h.2.1 114) (h.2.1 115) p1 p2 (x5_4 + 1).toNat), mm_W x 0 0 67 [mR 66, mI p1, mI p2, mI x67_3, mI x5_4] [] h := by
          intro x67_3 bx67_3 w67_0
          refine mm_iincL (ls2 := [mR 66, mI p1, mI p2, mI x67_3, mI (x5_4 + 1)]) C (mm_dec dk_X12_added 38 rfl) rfl (by decide) ⟨by omega, by omega⟩ rfl ?_
          refine mm_goto (tgt := 5) C (mm_dec dk_X12_added 39 rfl) (by decide) ?_
          exact ih5 x67_3 ⟨by omega, by omega⟩ (x5_4 + 1) ⟨by omega, by omega⟩ (by first | rfl | exact w67_0) (by omega) (by omega)
        refine mm_icmp_ne (tgt := 67) C (mm_dec dk_X12_added 13 rfl) (by decide) (fun c22 => ?_) (fun c22 => ?_)
        · skip
          exact J67 x5_3 ⟨by omega, by omega⟩ (by first | exact mm_ad9_y w5_0 (by omega) ⟨by omega, by omega, by omega, by omega⟩ | exact mm_ad9_n w5_0 (by omega) (fun q => by have q1 := q.1; have q2 := q.2.1; have q3 := q.2.2.1; have q4 := q.2.2.2; omega))
        · skip
          refine mm_aload_n C (mm_dec dk_X12_added 14 rfl) rfl ?_
          refine mm_getr (t := 113) C fl_X12_150 (mm_dec dk_X12_added 15 rfl) rfl rfl (mm_ref i0 rfl) ?_
          refine mm_iload C (mm_dec dk_X12_added 16 rfl) rfl ?_
          refine mm_iald C (mm_dec dk_X12_added 17 rfl) rfl (by omega) (by omega) ?_
          have g3 : -2147483648 ≤ (h.2.1 113 x5_4) ∧ (h.2.1 113 x5_4) ≤ 2147483647 := i0.2.1 113 x5_4
          refine mm_iconst C (mm_dec dk_X12_added 18 rfl) ⟨by decide, by decide⟩ ?_
          refine mm_icmp_eq (tgt := 67) C (mm_dec dk_X12_added 19 rfl) (by decide) (fun c33 => ?_) (fun c33 => ?_)
          · skip
            exact J67 x5_3 ⟨by omega, by omega⟩ (by first | exact mm_ad9_y w5_0 (by omega) ⟨by omega, by omega, by omega, by omega⟩ | exact mm_ad9_n w5_0 (by omega) (fun q => by have q1 := q.1; have q2 := q.2.1; have q3 := q.2.2.1; have q4 := q.2.2.2; omega))
          · skip
            refine mm_aload_n C (mm_dec dk_X12_added 20 rfl) rfl ?_
            refine mm_getr (t := 113) C fl_X12_150 (mm_dec dk_X12_added 21 rfl) rfl rfl (mm_ref i0 rfl) ?_
            refine mm_iload C (mm_dec dk_X12_added 22 rfl) rfl ?_
            refine mm_iald C (mm_dec dk_X12_added 23 rfl) rfl (by omega) (by omega) ?_
            refine mm_iload_n C (mm_dec dk_X12_added 24 rfl) rfl ?_
            refine mm_icmp_gt (tgt := 67) C (mm_dec dk_X12_added 25 rfl) (by decide) (fun c44 => ?_) (fun c44 => ?_)
            · skip
              exact J67 x5_3 ⟨by omega, by omega⟩ (by first | exact mm_ad9_y w5_0 (by omega) ⟨by omega, by omega, by omega, by omega⟩ | exact mm_ad9_n w5_0 (by omega) (fun q => by have q1 := q.1; have q2 := q.2.1; have q3 := q.2.2.1; have q4 := q.2.2.2; omega))
            · skip
              refine mm_aload_n C (mm_dec dk_X12_added 26 rfl) rfl ?_
              refine mm_getr (t := 114) C fl_X12_153 (mm_dec dk_X12_added 27 rfl) rfl rfl (mm_ref i0 rfl) ?_
              refine mm_iload C (mm_dec dk_X12_added 28 rfl) rfl ?_
              refine mm_iald C (mm_dec dk_X12_added 29 rfl) rfl (by omega) (by omega) ?_
              have g4 : -2147483648 ≤ (h.2.1 114 x5_4) ∧ (h.2.1 114 x5_4) ≤ 2147483647 := i0.2.1 114 x5_4
              refine mm_if_eq (tgt := 67) C (mm_dec dk_X12_added 30 rfl) (by decide) (fun c54 => ?_) (fun c54 => ?_)
              · skip
                exact J67 x5_3 ⟨by omega, by omega⟩ (by first | exact mm_ad9_y w5_0 (by omega) ⟨by omega, by omega, by omega, by omega⟩ | exact mm_ad9_n w5_0 (by omega) (fun q => by have q1 := q.1; have q2 := q.2.1; have q3 := q.2.2.1; have q4 := q.2.2.2; omega))
              · skip
                refine mm_iload_n C (mm_dec dk_X12_added 31 rfl) rfl ?_
                refine mm_aload_n C (mm_dec dk_X12_added 32 rfl) rfl ?_
                refine mm_getr (t := 115) C fl_X12_156 (mm_dec dk_X12_added 33 rfl) rfl rfl (mm_ref i0 rfl) ?_
                refine mm_iload C (mm_dec dk_X12_added 34 rfl) rfl ?_
                refine mm_iald C (mm_dec dk_X12_added 35 rfl) rfl (by omega) (by omega) ?_
                have g5 : -2147483648 ≤ (h.2.1 115 x5_4) ∧ (h.2.1 115 x5_4) ≤ 2147483647 := i0.2.1 115 x5_4
                refine mm_iaddw C (mm_dec dk_X12_added 36 rfl) ?_
                have g6 : -2147483648 ≤ (mm_w (x5_3 + (h.2.1 115 x5_4))) ∧ (mm_w (x5_3 + (h.2.1 115 x5_4))) < 2147483648 := mm_w_rg _
                refine mm_istore_nL (ls2 := [mR 66, mI p1, mI p2, mI (mm_w (x5_3 + (h.2.1 115 x5_4))), mI x5_4]) C (mm_dec dk_X12_added 37 rfl) (by decide) rfl ?_
                exact J67 (mm_w (x5_3 + (h.2.1 115 x5_4))) ⟨by omega, by omega⟩ (by first | exact mm_ad9_y w5_0 (by omega) ⟨by omega, by omega, by omega, by omega⟩ | exact mm_ad9_n w5_0 (by omega) (fun q => by have q1 := q.1; have q2 := q.2.1; have q3 := q.2.2.1; have q4 := q.2.2.2; omega))
  refine mm_istoreL (ls2 := [mR 66, mI p1, mI p2, mI 0, mI 0]) C (mm_dec dk_X12_added 3 rfl) (by decide) rfl ?_
  exact J5 (((40 - 0) : Int) + 1).toNat 0 ⟨by omega, by omega⟩ 0 ⟨by omega, by omega⟩ (by first | rfl | exact w67_0) (by omega) (by omega)
