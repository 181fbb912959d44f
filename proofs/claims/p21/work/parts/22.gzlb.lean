set_option maxRecDepth 100000 in
set_option maxHeartbeats 4000000 in
theorem c_X4_placeOf_q (l : Launch) (hl : l.stackTraces = false) (d : Nat) (hd : 4 ≤ d) (h : mH) (i0 : mm_inv h) (p1 : Int) (p2 : Int) (bp1 : 0 ≤ p1 ∧ p1 ≤ 39) : mm_Met l d yX4_placeOf cX4_placeOf 8 (some .int) [mR 46, mI p1, mI p2] h (mm_pi fun r h2 => (-1 ≤ r ∧ r ≤ 41) ∧ mm_inv h2 ∧ mm_fr [(42, 4), (42, 5), (42, 6), (46, 5), (46, 6), (46, 7), (46, 8), (46, 9), (46, 10), (48, 8), (48, 9)] [45, 47, 49, 50, 51, 52, 53] h h2 ∧ mm_pX9 h p1 p2 r) mm_nx 0 0 := by
  refine mm_ofW (ls := [mR 46, mI p1, mI p2, mU, mU, mU, mU, mU]) hl (by decide) rfl (Nat.le_of_ble_eq_true rfl) ?_
  intro x hxl C T hnm htb
  subst hxl
  have C1 := mm_OK_le (d' := d - 1 + 1) (by omega) C
  refine mm_rng (fun hr _ => ?_)
  have ap1 : -2147483648 ≤ p1 ∧ p1 < 2147483648 := mm_ok_at hr (i := 1) rfl
  have ap2 : -2147483648 ≤ p2 ∧ p2 < 2147483648 := mm_ok_at hr (i := 2) rfl
  have f0 : mm_fr [(42, 4), (42, 5), (42, 6), (46, 5), (46, 6), (46, 7), (46, 8), (46, 9), (46, 10), (48, 8), (48, 9)] [45, 47, 49, 50, 51, 52, 53] h h := mm_fr_rf
  have g1 : -2147483648 ≤ h.1 46 5 ∧ h.1 46 5 ≤ 2147483647 := i0.1 46 5
  have g2 : -2147483648 ≤ h.1 46 6 ∧ h.1 46 6 ≤ 2147483647 := i0.1 46 6
  have g3 : -2147483648 ≤ h.1 46 7 ∧ h.1 46 7 ≤ 2147483647 := i0.1 46 7
  have g4 : -2147483648 ≤ h.1 46 8 ∧ h.1 46 8 ≤ 2147483647 := i0.1 46 8
  have g5 : -2147483648 ≤ h.1 46 9 ∧ h.1 46 9 ≤ 2147483647 := i0.1 46 9
  have g6 : -2147483648 ≤ h.1 46 10 ∧ h.1 46 10 ≤ 2147483647 := i0.1 46 10
  have g7 : -2147483648 ≤ h.1 42 5 ∧ h.1 42 5 ≤ 2147483647 := i0.1 42 5
  have g8 : 0 ≤ h.1 42 6 ∧ h.1 42 6 ≤ 1 := i0.1 42 6
  have g9 : 0 ≤ h.1 48 8 ∧ h.1 48 8 ≤ 12 := i0.1 48 8
  have g10 : 0 ≤ h.1 48 9 ∧ h.1 48 9 ≤ 500 := i0.1 48 9
  have g11 : 0 ≤ h.1 22 8 ∧ h.1 22 8 ≤ 40 := i0.1 22 8
  have zn22 : 0 ≤ h.1 22 8 ∧ h.1 22 8 ≤ 40 := i0.1 22 8
  refine mm_aload_n C (mm_dec dk_X4_placeOf 0 rfl) rfl ?_
  refine mm_iload_n C (mm_dec dk_X4_placeOf 1 rfl) rfl ?_
  refine mm_iload_n C (mm_dec dk_X4_placeOf 2 rfl) rfl ?_
  refine mm_cVv (rest := []) C1 ev_X4_109 (mm_dec dk_X4_placeOf 3 rfl) (c_X4_look_q x.2.1 hl (d - 1) (by omega) h i0 p1 p2 ⟨by omega, by omega⟩) rfl rfl (Nat.le_of_ble_eq_true rfl) ⟨by decide, by decide⟩ rfl (fun h3c hp3 => ?_) (fun _ _ q => q.elim)
  obtain ⟨i3c, g3c, y3_0⟩ := hp3
  have f3c : mm_fr [(42, 4), (42, 5), (42, 6), (46, 5), (46, 6), (46, 7), (46, 8), (46, 9), (46, 10), (48, 8), (48, 9)] [45, 47, 49, 50, 51, 52, 53] h h3c := mm_fr_tr f0 g3c (by decide +kernel)
  have q3c_13 : h3c.1 22 8 = h.1 22 8 := g3c.1 22 8 (by decide)
  have g14 : -2147483648 ≤ (h3c.1 46 5) ∧ (h3c.1 46 5) ≤ 2147483647 := i3c.1 46 5
  have g15 : -2147483648 ≤ (h3c.1 46 6) ∧ (h3c.1 46 6) ≤ 2147483647 := i3c.1 46 6
  have g16 : -2147483648 ≤ (h3c.1 46 7) ∧ (h3c.1 46 7) ≤ 2147483647 := i3c.1 46 7
  have g17 : -2147483648 ≤ (h3c.1 46 8) ∧ (h3c.1 46 8) ≤ 2147483647 := i3c.1 46 8
  have g18 : -2147483648 ≤ (h3c.1 46 9) ∧ (h3c.1 46 9) ≤ 2147483647 := i3c.1 46 9
  have g19 : -2147483648 ≤ (h3c.1 46 10) ∧ (h3c.1 46 10) ≤ 2147483647 := i3c.1 46 10
  have g20 : -2147483648 ≤ (h3c.1 42 5) ∧ (h3c.1 42 5) ≤ 2147483647 := i3c.1 42 5
  have g21 : 0 ≤ (h3c.1 42 6) ∧ (h3c.1 42 6) ≤ 1 := i3c.1 42 6
  have g22 : 0 ≤ (h3c.1 48 8) ∧ (h3c.1 48 8) ≤ 12 := i3c.1 48 8
  have g23 : 0 ≤ (h3c.1 48 9) ∧ (h3c.1 48 9) ≤ 500 := i3c.1 48 9
  refine mm_aload_n C (mm_dec dk_X4_placeOf 4 rfl) rfl ?_
  have z17c : h3c.2.1 17 (h3c.2.1 23 p1) = h.2.1 17 (h.2.1 23 p1) := by rw [f3c.2 17 (by decide), f3c.2 23 (by decide)]
  have z22c : h3c.1 22 8 = h.1 22 8 := f3c.1 22 8 (by decide)
  refine mm_geti C fl_X4_15 (mm_dec dk_X4_placeOf 5 rfl) rfl rfl (Or.inl rfl) ?_
  refine mm_iconst C (mm_dec dk_X4_placeOf 6 rfl) ⟨by decide, by decide⟩ ?_
  refine mm_icmp_eq (tgt := 16) C (mm_dec dk_X4_placeOf 7 rfl) (by decide) (fun c11 => ?_) (fun c11 => ?_)
  · skip
    refine mm_aload_n C (mm_dec dk_X4_placeOf 10 rfl) rfl ?_
    refine mm_geti C fl_X4_32 (mm_dec dk_X4_placeOf 11 rfl) rfl rfl (Or.inl rfl) ?_
    refine mm_istore_nL (ls2 := [mR 46, mI p1, mI p2, mI (h3c.1 46 10), mU, mU, mU, mU]) C (mm_dec dk_X4_placeOf 12 rfl) (by decide) rfl ?_
    refine mm_aload_n C (mm_dec dk_X4_placeOf 13 rfl) rfl ?_
    refine mm_getr (t := 47) C fl_X4_9 (mm_dec dk_X4_placeOf 14 rfl) rfl rfl (mm_ref i3c rfl) ?_
    refine mm_iconst C (mm_dec dk_X4_placeOf 15 rfl) ⟨by decide, by decide⟩ ?_
    refine mm_iald C (mm_dec dk_X4_placeOf 16 rfl) rfl (by omega) (by omega) ?_
    have g24 : -2147483648 ≤ (h3c.2.1 47 2) ∧ (h3c.2.1 47 2) ≤ 2147483647 := i3c.2.1 47 2
    refine mm_istoreL (ls2 := [mR 46, mI p1, mI p2, mI (h3c.1 46 10), mI (h3c.2.1 47 2), mU, mU, mU]) C (mm_dec dk_X4_placeOf 17 rfl) (by decide) rfl ?_
    refine mm_aload_n C (mm_dec dk_X4_placeOf 18 rfl) rfl ?_
    refine mm_getr (t := 22) C fl_X4_38 (mm_dec dk_X4_placeOf 19 rfl) rfl rfl (mm_ref i3c rfl) ?_
    refine mm_iload_n C (mm_dec dk_X4_placeOf 20 rfl) rfl ?_
    refine mm_cVi (rest := []) C1 ev_X4_99 (mm_dec dk_X4_placeOf 21 rfl) (c_X9_runsFree x.2.1 hl (d - 1) (by omega) h3c i3c p1 ⟨by omega, by omega⟩) rfl rfl (Nat.le_of_ble_eq_true rfl) ⟨by decide, by decide⟩ rfl (fun r34 h34c hp34 => ?_) (fun _ _ q => q.elim)
    obtain ⟨z34, y34⟩ := hp34
    rw [z34, y34]
    have g26 : 0 ≤ (h3c.2.1 17 (h3c.2.1 23 p1)) ∧ (h3c.2.1 17 (h3c.2.1 23 p1)) ≤ 1 := i3c.2.1 17 (h3c.2.1 23 p1)
    have g27 : 0 ≤ (h3c.2.1 23 p1) ∧ (h3c.2.1 23 p1) ≤ 7 := i3c.2.1 23 p1
    refine mm_istoreL (ls2 := [mR 46, mI p1, mI p2, mI (h3c.1 46 10), mI (h3c.2.1 47 2), mI (h3c.2.1 17 (h3c.2.1 23 p1)), mU, mU]) C (mm_dec dk_X4_placeOf 22 rfl) (by decide) rfl ?_
    refine mm_iconst C (mm_dec dk_X4_placeOf 23 rfl) ⟨by decide, by decide⟩ ?_
    refine mm_istoreL (ls2 := [mR 46, mI p1, mI p2, mI (h3c.1 46 10), mI (h3c.2.1 47 2), mI (h3c.2.1 17 (h3c.2.1 23 p1)), mI 1, mU]) C (mm_dec dk_X4_placeOf 24 rfl) (by decide) rfl ?_
    refine mm_iconst C (mm_dec dk_X4_placeOf 25 rfl) ⟨by decide, by decide⟩ ?_
    have J45 : ∀ (n : Nat) (x45_6 : Int) (bx45_6 : 1 ≤ x45_6 ∧ x45_6 ≤ 41) (x45_7 : Int) (bx45_7 : 0 ≤ x45_7 ∧ x45_7 ≤ 40) (h45_ : mH) (i45_ : mm_inv h45_) (f45_ : mm_fr [(42, 4), (42, 5), (42, 6), (46, 5), (46, 6), (46, 7), (46, 8), (46, 9), (46, 10), (48, 8), (48, 9)] [45, 47, 49, 50, 51, 52, 53] h h45_) (w45_0 : mm_PZ9 h p1 p2 (h3c.1 46 10) (h3c.2.1 47 2) (x45_7).toNat x45_6) (w45_1 : x45_7 ≤ h.1 22 8) (w45_2 : (h3c.1 46 10) = h3c.1 46 10) (w45_3 : (h3c.2.1 47 2) = h3c.2.1 47 2) (w45_4 : (h3c.2.1 17 (h3c.2.1 23 p1)) = h.2.1 17 (h.2.1 23 p1)), (40 - x45_7 : Int) < n → mm_W x 0 0 45 [mR 46, mI p1, mI p2, mI (h3c.1 46 10), mI (h3c.2.1 47 2), mI (h3c.2.1 17 (h3c.2.1 23 p1)), mI x45_6, mI x45_7] [] h45_ := by
      intro n
      induction n with
      | zero =>
        intro x45_6 bx45_6 x45_7 bx45_7 h45_ i45_ f45_ w45_0 w45_1 w45_2 w45_3 w45_4 hm
        have g28 : -2147483648 ≤ h45_.1 46 5 ∧ h45_.1 46 5 ≤ 2147483647 := i45_.1 46 5
        have g29 : -2147483648 ≤ h45_.1 46 6 ∧ h45_.1 46 6 ≤ 2147483647 := i45_.1 46 6
        have g30 : -2147483648 ≤ h45_.1 46 7 ∧ h45_.1 46 7 ≤ 2147483647 := i45_.1 46 7
        have g31 : -2147483648 ≤ h45_.1 46 8 ∧ h45_.1 46 8 ≤ 2147483647 := i45_.1 46 8
        have g32 : -2147483648 ≤ h45_.1 46 9 ∧ h45_.1 46 9 ≤ 2147483647 := i45_.1 46 9
        have g33 : -2147483648 ≤ h45_.1 46 10 ∧ h45_.1 46 10 ≤ 2147483647 := i45_.1 46 10
        have g34 : -2147483648 ≤ h45_.1 42 5 ∧ h45_.1 42 5 ≤ 2147483647 := i45_.1 42 5
        have g35 : 0 ≤ h45_.1 42 6 ∧ h45_.1 42 6 ≤ 1 := i45_.1 42 6
        have g36 : 0 ≤ h45_.1 48 8 ∧ h45_.1 48 8 ≤ 12 := i45_.1 48 8
        have g37 : 0 ≤ h45_.1 48 9 ∧ h45_.1 48 9 ≤ 500 := i45_.1 48 9
        have g38 : 0 ≤ h45_.1 22 8 ∧ h45_.1 22 8 ≤ 40 := i45_.1 22 8
        exfalso; omega
      | succ n ih45 =>
        intro x45_6 bx45_6 x45_7 bx45_7 h45_ i45_ f45_ w45_0 w45_1 w45_2 w45_3 w45_4 hm45
        have g39 : -2147483648 ≤ h45_.1 46 5 ∧ h45_.1 46 5 ≤ 2147483647 := i45_.1 46 5
        have g40 : -2147483648 ≤ h45_.1 46 6 ∧ h45_.1 46 6 ≤ 2147483647 := i45_.1 46 6
        have g41 : -2147483648 ≤ h45_.1 46 7 ∧ h45_.1 46 7 ≤ 2147483647 := i45_.1 46 7
        have g42 : -2147483648 ≤ h45_.1 46 8 ∧ h45_.1 46 8 ≤ 2147483647 := i45_.1 46 8
        have g43 : -2147483648 ≤ h45_.1 46 9 ∧ h45_.1 46 9 ≤ 2147483647 := i45_.1 46 9
        have g44 : -2147483648 ≤ h45_.1 46 10 ∧ h45_.1 46 10 ≤ 2147483647 := i45_.1 46 10
        have g45 : -2147483648 ≤ h45_.1 42 5 ∧ h45_.1 42 5 ≤ 2147483647 := i45_.1 42 5
        have g46 : 0 ≤ h45_.1 42 6 ∧ h45_.1 42 6 ≤ 1 := i45_.1 42 6
        have g47 : 0 ≤ h45_.1 48 8 ∧ h45_.1 48 8 ≤ 12 := i45_.1 48 8
        have g48 : 0 ≤ h45_.1 48 9 ∧ h45_.1 48 9 ≤ 500 := i45_.1 48 9
        have g49 : 0 ≤ h45_.1 22 8 ∧ h45_.1 22 8 ≤ 40 := i45_.1 22 8
        have g50 : h45_.1 22 8 = h.1 22 8 := f45_.1 22 8 (by decide)
        have zr45 := mm_PZ9_rg _ _ w45_0
        have z23 : ∀ j, h45_.2.1 23 j = h.2.1 23 j := fun j => f45_.2 23 (by decide) j
        have z23a := z23 x45_7
        have z23b := z23 p1
        refine mm_iload C (mm_dec dk_X4_placeOf 27 rfl) rfl ?_
        refine mm_aload_n C (mm_dec dk_X4_placeOf 28 rfl) rfl ?_
        refine mm_getr (t := 22) C fl_X4_38 (mm_dec dk_X4_placeOf 29 rfl) rfl rfl (mm_ref i45_ rfl) ?_
        refine mm_cVi (rest := [mI x45_7]) C1 ev_X4_112 (mm_dec dk_X4_placeOf 30 rfl) (c_X9_size x.2.1 hl (d - 1) (by omega) h45_ i45_ ) rfl rfl (Nat.le_of_ble_eq_true rfl) ⟨by decide, by decide⟩ rfl (fun r51 h51c hp51 => ?_) (fun _ _ q => q.elim)
        obtain ⟨z51, y51⟩ := hp51
        rw [z51, y51]
        refine mm_icmp_ge (tgt := 136) C (mm_dec dk_X4_placeOf 31 rfl) (by decide) (fun c54 => ?_) (fun c54 => ?_)
        · skip
          refine mm_iload C (mm_dec dk_X4_placeOf 68 rfl) rfl ?_
          exact mm_iret C T (mm_dec dk_X4_placeOf 69 rfl) (by decide : 0 ≤ 0) (by decide : 0 ≤ 0) ⟨_, rfl, ⟨⟨by omega, by omega⟩, i45_, f45_, by first | exact ⟨h3c, y3_0, Or.inl ⟨by omega, rfl⟩⟩ | exact ⟨h3c, y3_0, Or.inr ⟨by omega, by rw [show h.1 22 8 = x45_7 by omega]; exact w45_0⟩⟩⟩⟩
        · skip
          refine mm_iload C (mm_dec dk_X4_placeOf 32 rfl) rfl ?_
          refine mm_iload_n C (mm_dec dk_X4_placeOf 33 rfl) rfl ?_
          have J130 : ∀ (x130_6 : Int) (bx130_6 : 1 ≤ x130_6 ∧ x130_6 ≤ 41) (h130_ : mH) (i130_ : mm_inv h130_) (f130_ : mm_fr [(42, 4), (42, 5), (42, 6), (46, 5), (46, 6), (46, 7), (46, 8), (46, 9), (46, 10), (48, 8), (48, 9)] [45, 47, 49, 50, 51, 52, 53] h h130_) (w130_0 : mm_PZ9 h p1 p2 (h3c.1 46 10) (h3c.2.1 47 2) (x45_7 + 1).toNat x130_6), mm_W x 0 0 130 [mR 46, mI p1, mI p2, mI (h3c.1 46 10), mI (h3c.2.1 47 2), mI (h3c.2.1 17 (h3c.2.1 23 p1)), mI x130_6, mI x45_7] [] h130_ := by
            intro x130_6 bx130_6 h130_ i130_ f130_ w130_0
            have g52 : -2147483648 ≤ h130_.1 46 5 ∧ h130_.1 46 5 ≤ 2147483647 := i130_.1 46 5
            have g53 : -2147483648 ≤ h130_.1 46 6 ∧ h130_.1 46 6 ≤ 2147483647 := i130_.1 46 6
            have g54 : -2147483648 ≤ h130_.1 46 7 ∧ h130_.1 46 7 ≤ 2147483647 := i130_.1 46 7
            have g55 : -2147483648 ≤ h130_.1 46 8 ∧ h130_.1 46 8 ≤ 2147483647 := i130_.1 46 8
            have g56 : -2147483648 ≤ h130_.1 46 9 ∧ h130_.1 46 9 ≤ 2147483647 := i130_.1 46 9
            have g57 : -2147483648 ≤ h130_.1 46 10 ∧ h130_.1 46 10 ≤ 2147483647 := i130_.1 46 10
            have g58 : -2147483648 ≤ h130_.1 42 5 ∧ h130_.1 42 5 ≤ 2147483647 := i130_.1 42 5
            have g59 : 0 ≤ h130_.1 42 6 ∧ h130_.1 42 6 ≤ 1 := i130_.1 42 6
            have g60 : 0 ≤ h130_.1 48 8 ∧ h130_.1 48 8 ≤ 12 := i130_.1 48 8
            have g61 : 0 ≤ h130_.1 48 9 ∧ h130_.1 48 9 ≤ 500 := i130_.1 48 9
            have g62 : 0 ≤ h130_.1 22 8 ∧ h130_.1 22 8 ≤ 40 := i130_.1 22 8
            have g63 : h130_.1 22 8 = h.1 22 8 := f130_.1 22 8 (by decide)
            refine mm_iincL (ls2 := [mR 46, mI p1, mI p2, mI (h3c.1 46 10), mI (h3c.2.1 47 2), mI (h3c.2.1 17 (h3c.2.1 23 p1)), mI x130_6, mI (x45_7 + 1)]) C (mm_dec dk_X4_placeOf 66 rfl) rfl (by decide) ⟨by omega, by omega⟩ rfl ?_
            refine mm_goto (tgt := 45) C (mm_dec dk_X4_placeOf 67 rfl) (by decide) ?_
            exact ih45 x130_6 ⟨by omega, by omega⟩ (x45_7 + 1) ⟨by omega, by omega⟩ h130_ i130_ f130_ (by first | exact w130_0 | exact (show (1 : Int) = 1 from rfl)) (by omega) (by omega) (by omega) (by omega) (by omega)
          refine mm_icmp_eq (tgt := 130) C (mm_dec dk_X4_placeOf 34 rfl) (by decide) (fun c60 => ?_) (fun c60 => ?_)
          · skip
            exact J130 x45_6 ⟨by omega, by omega⟩ h45_ i45_ f45_ (by first | exact mm_PZ9_n w45_0 (by omega) (by omega) | exact mm_PZ9_y w45_0 (by omega) w127_2 w127_3 w127_1 w127_0 | exact mm_PZ9_w w45_0 (by omega) (by omega) (by omega) zL (fun z => by have z1 := z.1; have z2 := z.2; omega))
          · skip
            refine mm_aload_n C (mm_dec dk_X4_placeOf 35 rfl) rfl ?_
            refine mm_getr (t := 22) C fl_X4_38 (mm_dec dk_X4_placeOf 36 rfl) rfl rfl (mm_ref i45_ rfl) ?_
            refine mm_iload C (mm_dec dk_X4_placeOf 37 rfl) rfl ?_
            refine mm_cVi (rest := []) C1 ev_X4_115 (mm_dec dk_X4_placeOf 38 rfl) (c_X9_courseOf x.2.1 hl (d - 1) (by omega) h45_ i45_ x45_7 ⟨by omega, by omega⟩) rfl rfl (Nat.le_of_ble_eq_true rfl) ⟨by decide, by decide⟩ rfl (fun r69 h69c hp69 => ?_) (fun _ _ q => q.elim)
            obtain ⟨z69, y69⟩ := hp69
            rw [z69, y69]
            have g65 : 0 ≤ (h45_.2.1 23 x45_7) ∧ (h45_.2.1 23 x45_7) ≤ 7 := i45_.2.1 23 x45_7
            refine mm_aload_n C (mm_dec dk_X4_placeOf 39 rfl) rfl ?_
            refine mm_getr (t := 22) C fl_X4_38 (mm_dec dk_X4_placeOf 40 rfl) rfl rfl (mm_ref i45_ rfl) ?_
            refine mm_iload_n C (mm_dec dk_X4_placeOf 41 rfl) rfl ?_
            refine mm_cVi (rest := [mI (h45_.2.1 23 x45_7)]) C1 ev_X4_115 (mm_dec dk_X4_placeOf 42 rfl) (c_X9_courseOf x.2.1 hl (d - 1) (by omega) h45_ i45_ p1 ⟨by omega, by omega⟩) rfl rfl (Nat.le_of_ble_eq_true rfl) ⟨by decide, by decide⟩ rfl (fun r77 h77c hp77 => ?_) (fun _ _ q => q.elim)
            obtain ⟨z77, y77⟩ := hp77
            rw [z77, y77]
            have g67 : 0 ≤ (h45_.2.1 23 p1) ∧ (h45_.2.1 23 p1) ≤ 7 := i45_.2.1 23 p1
            refine mm_icmp_eq (tgt := 86) C (mm_dec dk_X4_placeOf 43 rfl) (by decide) (fun c80 => ?_) (fun c80 => ?_)
            · skip
              refine mm_aload_n C (mm_dec dk_X4_placeOf 45 rfl) rfl ?_
              refine mm_iload C (mm_dec dk_X4_placeOf 46 rfl) rfl ?_
              refine mm_iload_n C (mm_dec dk_X4_placeOf 47 rfl) rfl ?_
              refine mm_cVv (rest := []) C1 ev_X4_109 (mm_dec dk_X4_placeOf 48 rfl) (c_X4_look_q x.2.1 hl (d - 1) (by omega) h45_ i45_ x45_7 p2 ⟨by omega, by omega⟩) rfl rfl (Nat.le_of_ble_eq_true rfl) ⟨by decide, by decide⟩ rfl (fun h90c hp90 => ?_) (fun _ _ q => q.elim)
              obtain ⟨i90c, g90c, y90_0⟩ := hp90
              have f90c : mm_fr [(42, 4), (42, 5), (42, 6), (46, 5), (46, 6), (46, 7), (46, 8), (46, 9), (46, 10), (48, 8), (48, 9)] [45, 47, 49, 50, 51, 52, 53] h h90c := mm_fr_tr f45_ g90c (by decide +kernel)
              have q90c_69 : h90c.1 22 8 = h45_.1 22 8 := g90c.1 22 8 (by decide)
              have g70 : -2147483648 ≤ (h90c.1 46 5) ∧ (h90c.1 46 5) ≤ 2147483647 := i90c.1 46 5
              have g71 : -2147483648 ≤ (h90c.1 46 6) ∧ (h90c.1 46 6) ≤ 2147483647 := i90c.1 46 6
              have g72 : -2147483648 ≤ (h90c.1 46 7) ∧ (h90c.1 46 7) ≤ 2147483647 := i90c.1 46 7
              have g73 : -2147483648 ≤ (h90c.1 46 8) ∧ (h90c.1 46 8) ≤ 2147483647 := i90c.1 46 8
              have g74 : -2147483648 ≤ (h90c.1 46 9) ∧ (h90c.1 46 9) ≤ 2147483647 := i90c.1 46 9
              have g75 : -2147483648 ≤ (h90c.1 46 10) ∧ (h90c.1 46 10) ≤ 2147483647 := i90c.1 46 10
              have g76 : -2147483648 ≤ (h90c.1 42 5) ∧ (h90c.1 42 5) ≤ 2147483647 := i90c.1 42 5
              have g77 : 0 ≤ (h90c.1 42 6) ∧ (h90c.1 42 6) ≤ 1 := i90c.1 42 6
              have g78 : 0 ≤ (h90c.1 48 8) ∧ (h90c.1 48 8) ≤ 12 := i90c.1 48 8
              have g79 : 0 ≤ (h90c.1 48 9) ∧ (h90c.1 48 9) ≤ 500 := i90c.1 48 9
              refine mm_aload_n C (mm_dec dk_X4_placeOf 49 rfl) rfl ?_
              have zL := mm_LX_fr y90_0 (mm_k1_fr f45_ (by decide)) (f45_.2 16 (by decide)) (f45_.2 17 (by decide)) (f45_.2 19 (by decide)) (f45_.2 21 (by decide)) (f45_.2 23 (by decide)) (f45_.2 24 (by decide)) (f45_.2 25 (by decide)) (f45_.2 27 (by decide)) (f45_.2 33 (by decide)) (f45_.2 34 (by decide)) (f45_.2 37 (by decide)) (f45_.2 38 (by decide)) (f45_.2 39 (by decide)) (f45_.2 40 (by decide)) (f45_.2 41 (by decide)) (f45_.2 43 (by decide)) (f45_.2 44 (by decide)) (f45_.1 30 6 (by decide)) (f45_.1 30 12 (by decide)) (f45_.1 42 3 (by decide))
              refine mm_geti C fl_X4_15 (mm_dec dk_X4_placeOf 50 rfl) rfl rfl (Or.inl rfl) ?_
              refine mm_iconst C (mm_dec dk_X4_placeOf 51 rfl) ⟨by decide, by decide⟩ ?_
              refine mm_icmp_ne (tgt := 130) C (mm_dec dk_X4_placeOf 52 rfl) (by decide) (fun c98 => ?_) (fun c98 => ?_)
              · skip
                exact J130 x45_6 ⟨by omega, by omega⟩ h90c i90c f90c (by first | exact mm_PZ9_n w45_0 (by omega) (by omega) | exact mm_PZ9_y w45_0 (by omega) w127_2 w127_3 w127_1 w127_0 | exact mm_PZ9_w w45_0 (by omega) (by omega) (by omega) zL (fun z => by have z1 := z.1; have z2 := z.2; omega))
              · skip
                refine mm_iload C (mm_dec dk_X4_placeOf 53 rfl) rfl ?_
                have J127 : ∀ (w127_0 : mm_bX9 (h.2.1 17 (h.2.1 23 p1)) (h3c.1 46 10) (h3c.2.1 47 2) h90c) (w127_1 : mm_LX h h90c x45_7 p2) (w127_2 : x45_7 ≠ p1) (w127_3 : h.2.1 23 x45_7 = h.2.1 23 p1), mm_W x 0 0 127 [mR 46, mI p1, mI p2, mI (h3c.1 46 10), mI (h3c.2.1 47 2), mI (h3c.2.1 17 (h3c.2.1 23 p1)), mI x45_6, mI x45_7] [] h90c := by
                  intro w127_0 w127_1 w127_2 w127_3
                  refine mm_iincL (ls2 := [mR 46, mI p1, mI p2, mI (h3c.1 46 10), mI (h3c.2.1 47 2), mI (h3c.2.1 17 (h3c.2.1 23 p1)), mI (x45_6 + 1), mI x45_7]) C (mm_dec dk_X4_placeOf 65 rfl) rfl (by decide) ⟨by omega, by omega⟩ rfl ?_
                  exact J130 (x45_6 + 1) ⟨by omega, by omega⟩ h90c i90c f90c (by first | exact mm_PZ9_n w45_0 (by omega) (by omega) | exact mm_PZ9_y w45_0 (by omega) w127_2 w127_3 w127_1 w127_0 | exact mm_PZ9_w w45_0 (by omega) (by omega) (by omega) zL (fun z => by have z1 := z.1; have z2 := z.2; omega))
                refine mm_if_eq (tgt := 119) C (mm_dec dk_X4_placeOf 54 rfl) (by decide) (fun c103 => ?_) (fun c103 => ?_)
                · skip
                  refine mm_aload_n C (mm_dec dk_X4_placeOf 61 rfl) rfl ?_
                  refine mm_geti C fl_X4_32 (mm_dec dk_X4_placeOf 62 rfl) rfl rfl (Or.inl rfl) ?_
                  refine mm_iload_n C (mm_dec dk_X4_placeOf 63 rfl) rfl ?_
                  refine mm_icmp_ge (tgt := 130) C (mm_dec dk_X4_placeOf 64 rfl) (by decide) (fun c124 => ?_) (fun c124 => ?_)
                  · skip
                    exact J130 x45_6 ⟨by omega, by omega⟩ h90c i90c f90c (by first | exact mm_PZ9_n w45_0 (by omega) (by omega) | exact mm_PZ9_y w45_0 (by omega) w127_2 w127_3 w127_1 w127_0 | exact mm_PZ9_w w45_0 (by omega) (by omega) (by omega) zL (fun z => by have z1 := z.1; have z2 := z.2; omega))
                  · skip
                    exact J127 (by first | exact ⟨by omega, Or.inl ⟨by omega, by have z := y110_0; omega⟩⟩ | exact ⟨by omega, Or.inr ⟨by omega, by omega⟩⟩) (by exact zL) (by omega) (by omega)
                · skip
                  refine mm_aload_n C (mm_dec dk_X4_placeOf 55 rfl) rfl ?_
                  refine mm_iload_n C (mm_dec dk_X4_placeOf 56 rfl) rfl ?_
                  refine mm_iload C (mm_dec dk_X4_placeOf 57 rfl) rfl ?_
                  refine mm_cVi (rest := []) C1 ev_X4_118 (mm_dec dk_X4_placeOf 58 rfl) (c_X4_isBetterFree_q x.2.1 hl (d - 1) (by omega) h90c i90c (h3c.1 46 10) (h3c.2.1 47 2)) rfl rfl (Nat.le_of_ble_eq_true rfl) ⟨by decide, by decide⟩ rfl (fun r110 h110c hp110 => ?_) (fun _ _ q => q.elim)
                  obtain ⟨b110, z110, y110_0⟩ := hp110
                  rw [z110]
                  refine mm_if_eq (tgt := 130) C (mm_dec dk_X4_placeOf 59 rfl) (by decide) (fun c113 => ?_) (fun c113 => ?_)
                  · skip
                    exact J130 x45_6 ⟨by omega, by omega⟩ h90c i90c f90c (by first | exact mm_PZ9_n w45_0 (by omega) (by omega) | exact mm_PZ9_y w45_0 (by omega) w127_2 w127_3 w127_1 w127_0 | exact mm_PZ9_w w45_0 (by omega) (by omega) (by omega) zL (fun z => by have z1 := z.1; have z2 := z.2; omega))
                  · skip
                    refine mm_goto (tgt := 127) C (mm_dec dk_X4_placeOf 60 rfl) (by decide) ?_
                    exact J127 (by first | exact ⟨by omega, Or.inl ⟨by omega, by have z := y110_0; omega⟩⟩ | exact ⟨by omega, Or.inr ⟨by omega, by omega⟩⟩) (by exact zL) (by omega) (by omega)
            · skip
              refine mm_goto (tgt := 130) C (mm_dec dk_X4_placeOf 44 rfl) (by decide) ?_
              exact J130 x45_6 ⟨by omega, by omega⟩ h45_ i45_ f45_ (by first | exact mm_PZ9_n w45_0 (by omega) (by omega) | exact mm_PZ9_y w45_0 (by omega) w127_2 w127_3 w127_1 w127_0 | exact mm_PZ9_w w45_0 (by omega) (by omega) (by omega) zL (fun z => by have z1 := z.1; have z2 := z.2; omega))
    refine mm_istoreL (ls2 := [mR 46, mI p1, mI p2, mI (h3c.1 46 10), mI (h3c.2.1 47 2), mI (h3c.2.1 17 (h3c.2.1 23 p1)), mI 1, mI 0]) C (mm_dec dk_X4_placeOf 26 rfl) (by decide) rfl ?_
    exact J45 (((40 - 0) : Int) + 1).toNat 1 ⟨by omega, by omega⟩ 0 ⟨by omega, by omega⟩ h3c i3c f3c (by first | exact w130_0 | exact (show (1 : Int) = 1 from rfl)) (by omega) (by omega) (by omega) (by omega) (by omega)
  · skip
    refine mm_iconst C (mm_dec dk_X4_placeOf 8 rfl) ⟨by decide, by decide⟩ ?_
    exact mm_iret C T (mm_dec dk_X4_placeOf 9 rfl) (by decide : 0 ≤ 0) (by decide : 0 ≤ 0) ⟨_, rfl, ⟨⟨by omega, by omega⟩, i3c, f3c, by first | exact ⟨h3c, y3_0, Or.inl ⟨by omega, rfl⟩⟩ | exact ⟨h3c, y3_0, Or.inr ⟨by omega, by rw [show h.1 22 8 = x45_7 by omega]; exact w45_0⟩⟩⟩⟩
set_option maxRecDepth 100000 in
set_option maxHeartbeats 4000000 in
theorem c_X4_lookAtTeam_q (l : Launch) (hl : l.stackTraces = false) (d : Nat) (hd : 4 ≤ d) (h : mH) (i0 : mm_inv h) (p1 : Int) (p2 : Int) (bp1 : 0 ≤ p1 ∧ p1 ≤ 9) : mm_Met l d yX4_lookAtTeam cX4_lookAtTeam 5 (some .boolean) [mR 46, mI p1, mI p2] h (mm_pi fun r h2 => (0 ≤ r ∧ r ≤ 1) ∧ mm_inv h2 ∧ mm_fr [(42, 4), (42, 5), (42, 6), (46, 5), (46, 6), (46, 7), (46, 8), (46, 9), (46, 10), (46, 11), (48, 8), (48, 9)] [45, 47, 49, 50, 51, 52, 53] h h2 ∧ mm_TZ9 h p1 p2 r (h2.1 46 11)) mm_nx 0 0 := by
  refine mm_ofW (ls := [mR 46, mI p1, mI p2, mU, mU]) hl (by decide) rfl (Nat.le_of_ble_eq_true rfl) ?_
  intro x hxl C T hnm htb
  subst hxl
  have C1 := mm_OK_le (d' := d - 1 + 1) (by omega) C
  refine mm_rng (fun hr _ => ?_)
  have ap1 : -2147483648 ≤ p1 ∧ p1 < 2147483648 := mm_ok_at hr (i := 1) rfl
  have ap2 : -2147483648 ≤ p2 ∧ p2 < 2147483648 := mm_ok_at hr (i := 2) rfl
  have f0 : mm_fr [(42, 4), (42, 5), (42, 6), (46, 5), (46, 6), (46, 7), (46, 8), (46, 9), (46, 10), (46, 11), (48, 8), (48, 9)] [45, 47, 49, 50, 51, 52, 53] h h := mm_fr_rf
  have g1 : -2147483648 ≤ h.1 46 5 ∧ h.1 46 5 ≤ 2147483647 := i0.1 46 5
  have g2 : -2147483648 ≤ h.1 46 6 ∧ h.1 46 6 ≤ 2147483647 := i0.1 46 6
  have g3 : -2147483648 ≤ h.1 46 7 ∧ h.1 46 7 ≤ 2147483647 := i0.1 46 7
  have g4 : -2147483648 ≤ h.1 46 8 ∧ h.1 46 8 ≤ 2147483647 := i0.1 46 8
  have g5 : -2147483648 ≤ h.1 46 9 ∧ h.1 46 9 ≤ 2147483647 := i0.1 46 9
  have g6 : -2147483648 ≤ h.1 46 10 ∧ h.1 46 10 ≤ 2147483647 := i0.1 46 10
  have g7 : -2147483648 ≤ h.1 42 5 ∧ h.1 42 5 ≤ 2147483647 := i0.1 42 5
  have g8 : 0 ≤ h.1 42 6 ∧ h.1 42 6 ≤ 1 := i0.1 42 6
  have g9 : 0 ≤ h.1 48 8 ∧ h.1 48 8 ≤ 12 := i0.1 48 8
  have g10 : 0 ≤ h.1 48 9 ∧ h.1 48 9 ≤ 500 := i0.1 48 9
  have g11 : -2147483648 ≤ h.1 46 11 ∧ h.1 46 11 ≤ 2147483647 := i0.1 46 11
  refine mm_iconst C (mm_dec dk_X4_lookAtTeam 0 rfl) ⟨by decide, by decide⟩ ?_
  refine mm_istore_nL (ls2 := [mR 46, mI p1, mI p2, mI 0, mU]) C (mm_dec dk_X4_lookAtTeam 1 rfl) (by decide) rfl ?_
  refine mm_iconst C (mm_dec dk_X4_lookAtTeam 2 rfl) ⟨by decide, by decide⟩ ?_
  have J5 : ∀ (n : Nat) (x5_3 : Int) (bx5_3 : -2147483648 ≤ x5_3 ∧ x5_3 ≤ 2147483647) (x5_4 : Int) (bx5_4 : 0 ≤ x5_4 ∧ x5_4 ≤ 3) (h5_ : mH) (i5_ : mm_inv h5_) (f5_ : mm_fr [(42, 4), (42, 5), (42, 6), (46, 5), (46, 6), (46, 7), (46, 8), (46, 9), (46, 10), (46, 11), (48, 8), (48, 9)] [45, 47, 49, 50, 51, 52, 53] h h5_) (w5_0 : ∃ f, mm_tX9 h p1 p2 (x5_4).toNat x5_3 f ∧ (x5_4 ≤ 0 ∨ f = h5_.1 46 7)), (3 - x5_4 : Int) < n → mm_W x 0 0 5 [mR 46, mI p1, mI p2, mI x5_3, mI x5_4] [] h5_ := by
    intro n
    induction n with
    | zero =>
      intro x5_3 bx5_3 x5_4 bx5_4 h5_ i5_ f5_ w5_0 hm
      have g12 : -2147483648 ≤ h5_.1 46 5 ∧ h5_.1 46 5 ≤ 2147483647 := i5_.1 46 5
      have g13 : -2147483648 ≤ h5_.1 46 6 ∧ h5_.1 46 6 ≤ 2147483647 := i5_.1 46 6
      have g14 : -2147483648 ≤ h5_.1 46 7 ∧ h5_.1 46 7 ≤ 2147483647 := i5_.1 46 7
      have g15 : -2147483648 ≤ h5_.1 46 8 ∧ h5_.1 46 8 ≤ 2147483647 := i5_.1 46 8
      have g16 : -2147483648 ≤ h5_.1 46 9 ∧ h5_.1 46 9 ≤ 2147483647 := i5_.1 46 9
      have g17 : -2147483648 ≤ h5_.1 46 10 ∧ h5_.1 46 10 ≤ 2147483647 := i5_.1 46 10
      have g18 : -2147483648 ≤ h5_.1 42 5 ∧ h5_.1 42 5 ≤ 2147483647 := i5_.1 42 5
      have g19 : 0 ≤ h5_.1 42 6 ∧ h5_.1 42 6 ≤ 1 := i5_.1 42 6
      have g20 : 0 ≤ h5_.1 48 8 ∧ h5_.1 48 8 ≤ 12 := i5_.1 48 8
      have g21 : 0 ≤ h5_.1 48 9 ∧ h5_.1 48 9 ≤ 500 := i5_.1 48 9
      have g22 : -2147483648 ≤ h5_.1 46 11 ∧ h5_.1 46 11 ≤ 2147483647 := i5_.1 46 11
      exfalso; omega
    | succ n ih5 =>
      intro x5_3 bx5_3 x5_4 bx5_4 h5_ i5_ f5_ w5_0 hm5
      have g23 : -2147483648 ≤ h5_.1 46 5 ∧ h5_.1 46 5 ≤ 2147483647 := i5_.1 46 5
      have g24 : -2147483648 ≤ h5_.1 46 6 ∧ h5_.1 46 6 ≤ 2147483647 := i5_.1 46 6
      have g25 : -2147483648 ≤ h5_.1 46 7 ∧ h5_.1 46 7 ≤ 2147483647 := i5_.1 46 7
      have g26 : -2147483648 ≤ h5_.1 46 8 ∧ h5_.1 46 8 ≤ 2147483647 := i5_.1 46 8
      have g27 : -2147483648 ≤ h5_.1 46 9 ∧ h5_.1 46 9 ≤ 2147483647 := i5_.1 46 9
      have g28 : -2147483648 ≤ h5_.1 46 10 ∧ h5_.1 46 10 ≤ 2147483647 := i5_.1 46 10
      have g29 : -2147483648 ≤ h5_.1 42 5 ∧ h5_.1 42 5 ≤ 2147483647 := i5_.1 42 5
      have g30 : 0 ≤ h5_.1 42 6 ∧ h5_.1 42 6 ≤ 1 := i5_.1 42 6
      have g31 : 0 ≤ h5_.1 48 8 ∧ h5_.1 48 8 ≤ 12 := i5_.1 48 8
      have g32 : 0 ≤ h5_.1 48 9 ∧ h5_.1 48 9 ≤ 500 := i5_.1 48 9
      have g33 : -2147483648 ≤ h5_.1 46 11 ∧ h5_.1 46 11 ≤ 2147483647 := i5_.1 46 11
      obtain ⟨zf, zt, ze⟩ := w5_0
      have z29 : ∀ j, h5_.2.1 29 j = h.2.1 29 j := fun j => f5_.2 29 (by decide) j
      refine mm_iload C (mm_dec dk_X4_lookAtTeam 4 rfl) rfl ?_
      refine mm_iconst C (mm_dec dk_X4_lookAtTeam 5 rfl) ⟨by decide, by decide⟩ ?_
      refine mm_icmp_ge (tgt := 66) C (mm_dec dk_X4_lookAtTeam 6 rfl) (by decide) (fun c8 => ?_) (fun c8 => ?_)
      · skip
        refine mm_aload_n C (mm_dec dk_X4_lookAtTeam 38 rfl) rfl ?_
        refine mm_iload_n C (mm_dec dk_X4_lookAtTeam 39 rfl) rfl ?_
        refine mm_aload_n C (mm_dec dk_X4_lookAtTeam 40 rfl) rfl ?_
        refine mm_geti C fl_X4_22 (mm_dec dk_X4_lookAtTeam 41 rfl) rfl rfl (Or.inl rfl) ?_
        refine mm_iaddw C (mm_dec dk_X4_lookAtTeam 42 rfl) ?_
        have g34 : -2147483648 ≤ (mm_w (x5_3 + (h5_.1 46 7))) ∧ (mm_w (x5_3 + (h5_.1 46 7))) < 2147483648 := mm_w_rg _
        refine mm_puti C fl_X4_35 (mm_dec dk_X4_lookAtTeam 43 rfl) rfl rfl rfl (Or.inl ⟨rfl, rfl⟩) ?_
        have i1 : mm_inv (mm_pf h5_ 46 11 (mm_w (x5_3 + (h5_.1 46 7)))) := mm_inv_pf i5_ (show -2147483648 ≤ (mm_w (x5_3 + (h5_.1 46 7))) ∧ (mm_w (x5_3 + (h5_.1 46 7))) ≤ 2147483647 from ⟨by omega, by omega⟩) (by decide)
        have f1 : mm_fr [(42, 4), (42, 5), (42, 6), (46, 5), (46, 6), (46, 7), (46, 8), (46, 9), (46, 10), (46, 11), (48, 8), (48, 9)] [45, 47, 49, 50, 51, 52, 53] h (mm_pf h5_ 46 11 (mm_w (x5_3 + (h5_.1 46 7)))) := mm_fr_pf f5_ (by decide)
        obtain ⟨h1, eh1⟩ : ∃ z, z = mm_pf h5_ 46 11 (mm_w (x5_3 + (h5_.1 46 7))) := ⟨_, rfl⟩
        rw [← eh1] at i1 f1 ⊢
        have qh1 : h1.1 46 11 = (mm_w (x5_3 + (h5_.1 46 7))) := by rw [eh1]; exact mm_pf_same _ _ _ _
        have qh1_35 : h1.1 42 5 = h5_.1 42 5 := by rw [eh1]; exact mm_pf_ne _ _ (by decide)
        have qh1_36 : h1.1 42 6 = h5_.1 42 6 := by rw [eh1]; exact mm_pf_ne _ _ (by decide)
        have qh1_37 : h1.1 46 5 = h5_.1 46 5 := by rw [eh1]; exact mm_pf_ne _ _ (by decide)
        have qh1_38 : h1.1 46 6 = h5_.1 46 6 := by rw [eh1]; exact mm_pf_ne _ _ (by decide)
        have qh1_39 : h1.1 46 7 = h5_.1 46 7 := by rw [eh1]; exact mm_pf_ne _ _ (by decide)
        have qh1_40 : h1.1 46 8 = h5_.1 46 8 := by rw [eh1]; exact mm_pf_ne _ _ (by decide)
        have qh1_41 : h1.1 46 9 = h5_.1 46 9 := by rw [eh1]; exact mm_pf_ne _ _ (by decide)
        have qh1_42 : h1.1 46 10 = h5_.1 46 10 := by rw [eh1]; exact mm_pf_ne _ _ (by decide)
        have qh1_43 : h1.1 48 8 = h5_.1 48 8 := by rw [eh1]; exact mm_pf_ne _ _ (by decide)
        have qh1_44 : h1.1 48 9 = h5_.1 48 9 := by rw [eh1]; exact mm_pf_ne _ _ (by decide)
        refine mm_iconst C (mm_dec dk_X4_lookAtTeam 44 rfl) ⟨by decide, by decide⟩ ?_
        exact mm_zret C T (mm_dec dk_X4_lookAtTeam 45 rfl) (by decide : 0 ≤ 0) (by decide : 0 ≤ 0) (by omega) ⟨_, rfl, ⟨⟨by omega, by omega⟩, i1, f1, by first | exact Or.inr ⟨rfl, x5_4.toNat, _, _, h23c, by omega, zt, by rw [Int.toNat_of_nonneg (by omega), ← z29]; exact zL, by omega⟩ | exact Or.inl ⟨rfl, _, _, (by rw [show (3 : Nat) = x5_4.toNat by omega]; exact zt), by rw [ze.resolve_left (by omega)]; omega⟩⟩⟩
      · skip
        refine mm_aload_n C (mm_dec dk_X4_lookAtTeam 7 rfl) rfl ?_
        refine mm_aload_n C (mm_dec dk_X4_lookAtTeam 8 rfl) rfl ?_
        refine mm_getr (t := 22) C fl_X4_38 (mm_dec dk_X4_lookAtTeam 9 rfl) rfl rfl (mm_ref i5_ rfl) ?_
        refine mm_iload_n C (mm_dec dk_X4_lookAtTeam 10 rfl) rfl ?_
        refine mm_iload C (mm_dec dk_X4_lookAtTeam 11 rfl) rfl ?_
        refine mm_cVi (rest := [mR 46]) C1 ev_X4_122 (mm_dec dk_X4_lookAtTeam 12 rfl) (c_X9_member x.2.1 hl (d - 1) (by omega) h5_ i5_ p1 x5_4 ⟨by omega, by omega⟩ ⟨by omega, by omega⟩) rfl rfl (Nat.le_of_ble_eq_true rfl) ⟨by decide, by decide⟩ rfl (fun r19 h19c hp19 => ?_) (fun _ _ q => q.elim)
        obtain ⟨z19, y19⟩ := hp19
        rw [z19, y19]
        have g46 : 0 ≤ (h5_.2.1 29 ((p1 * 3) + x5_4)) ∧ (h5_.2.1 29 ((p1 * 3) + x5_4)) ≤ 39 := i5_.2.1 29 ((p1 * 3) + x5_4)
        refine mm_iload_n C (mm_dec dk_X4_lookAtTeam 13 rfl) rfl ?_
        refine mm_cVv (rest := []) C1 ev_X4_109 (mm_dec dk_X4_lookAtTeam 14 rfl) (c_X4_look_q x.2.1 hl (d - 1) (by omega) h5_ i5_ (h5_.2.1 29 ((p1 * 3) + x5_4)) p2 ⟨by omega, by omega⟩) rfl rfl (Nat.le_of_ble_eq_true rfl) ⟨by decide, by decide⟩ rfl (fun h23c hp23 => ?_) (fun _ _ q => q.elim)
        obtain ⟨i23c, g23c, y23_0⟩ := hp23
        have f23c : mm_fr [(42, 4), (42, 5), (42, 6), (46, 5), (46, 6), (46, 7), (46, 8), (46, 9), (46, 10), (46, 11), (48, 8), (48, 9)] [45, 47, 49, 50, 51, 52, 53] h h23c := mm_fr_tr f5_ g23c (by decide +kernel)
        have q23c_48 : h23c.1 46 11 = h5_.1 46 11 := g23c.1 46 11 (by decide)
        have g49 : -2147483648 ≤ (h23c.1 46 5) ∧ (h23c.1 46 5) ≤ 2147483647 := i23c.1 46 5
        have g50 : -2147483648 ≤ (h23c.1 46 6) ∧ (h23c.1 46 6) ≤ 2147483647 := i23c.1 46 6
        have g51 : -2147483648 ≤ (h23c.1 46 7) ∧ (h23c.1 46 7) ≤ 2147483647 := i23c.1 46 7
        have g52 : -2147483648 ≤ (h23c.1 46 8) ∧ (h23c.1 46 8) ≤ 2147483647 := i23c.1 46 8
        have g53 : -2147483648 ≤ (h23c.1 46 9) ∧ (h23c.1 46 9) ≤ 2147483647 := i23c.1 46 9
        have g54 : -2147483648 ≤ (h23c.1 46 10) ∧ (h23c.1 46 10) ≤ 2147483647 := i23c.1 46 10
        have g55 : -2147483648 ≤ (h23c.1 42 5) ∧ (h23c.1 42 5) ≤ 2147483647 := i23c.1 42 5
        have g56 : 0 ≤ (h23c.1 42 6) ∧ (h23c.1 42 6) ≤ 1 := i23c.1 42 6
        have g57 : 0 ≤ (h23c.1 48 8) ∧ (h23c.1 48 8) ≤ 12 := i23c.1 48 8
        have g58 : 0 ≤ (h23c.1 48 9) ∧ (h23c.1 48 9) ≤ 500 := i23c.1 48 9
        refine mm_aload_n C (mm_dec dk_X4_lookAtTeam 15 rfl) rfl ?_
        have zL := mm_LX_fr y23_0 (mm_k1_fr f5_ (by decide)) (f5_.2 16 (by decide)) (f5_.2 17 (by decide)) (f5_.2 19 (by decide)) (f5_.2 21 (by decide)) (f5_.2 23 (by decide)) (f5_.2 24 (by decide)) (f5_.2 25 (by decide)) (f5_.2 27 (by decide)) (f5_.2 33 (by decide)) (f5_.2 34 (by decide)) (f5_.2 37 (by decide)) (f5_.2 38 (by decide)) (f5_.2 39 (by decide)) (f5_.2 40 (by decide)) (f5_.2 41 (by decide)) (f5_.2 43 (by decide)) (f5_.2 44 (by decide)) (f5_.1 30 6 (by decide)) (f5_.1 30 12 (by decide)) (f5_.1 42 3 (by decide))
        refine mm_geti C fl_X4_15 (mm_dec dk_X4_lookAtTeam 16 rfl) rfl rfl (Or.inl rfl) ?_
        refine mm_iconst C (mm_dec dk_X4_lookAtTeam 17 rfl) ⟨by decide, by decide⟩ ?_
        refine mm_icmp_eq (tgt := 36) C (mm_dec dk_X4_lookAtTeam 18 rfl) (by decide) (fun c31 => ?_) (fun c31 => ?_)
        · skip
          refine mm_iload_n C (mm_dec dk_X4_lookAtTeam 21 rfl) rfl ?_
          refine mm_aload_n C (mm_dec dk_X4_lookAtTeam 22 rfl) rfl ?_
          refine mm_geti C fl_X4_25 (mm_dec dk_X4_lookAtTeam 23 rfl) rfl rfl (Or.inl rfl) ?_
          refine mm_aload_n C (mm_dec dk_X4_lookAtTeam 24 rfl) rfl ?_
          refine mm_geti C fl_X4_28 (mm_dec dk_X4_lookAtTeam 25 rfl) rfl rfl (Or.inl rfl) ?_
          refine mm_iaddw C (mm_dec dk_X4_lookAtTeam 26 rfl) ?_
          have g59 : -2147483648 ≤ (mm_w ((h23c.1 46 8) + (h23c.1 46 9))) ∧ (mm_w ((h23c.1 46 8) + (h23c.1 46 9))) < 2147483648 := mm_w_rg _
          refine mm_iaddw C (mm_dec dk_X4_lookAtTeam 27 rfl) ?_
          have g60 : -2147483648 ≤ (mm_w (x5_3 + (mm_w ((h23c.1 46 8) + (h23c.1 46 9))))) ∧ (mm_w (x5_3 + (mm_w ((h23c.1 46 8) + (h23c.1 46 9))))) < 2147483648 := mm_w_rg _
          refine mm_istore_nL (ls2 := [mR 46, mI p1, mI p2, mI (mm_w (x5_3 + (mm_w ((h23c.1 46 8) + (h23c.1 46 9))))), mI x5_4]) C (mm_dec dk_X4_lookAtTeam 28 rfl) (by decide) rfl ?_
          refine mm_iload C (mm_dec dk_X4_lookAtTeam 29 rfl) rfl ?_
          have J60 : ∀ (x60_3 : Int) (bx60_3 : -2147483648 ≤ x60_3 ∧ x60_3 ≤ 2147483647) (w60_0 : mm_tX9 h p1 p2 ((x5_4 + 1)).toNat x60_3 (h23c.1 46 7)), mm_W x 0 0 60 [mR 46, mI p1, mI p2, mI x60_3, mI x5_4] [] h23c := by
            intro x60_3 bx60_3 w60_0
            refine mm_iincL (ls2 := [mR 46, mI p1, mI p2, mI x60_3, mI (x5_4 + 1)]) C (mm_dec dk_X4_lookAtTeam 36 rfl) rfl (by decide) ⟨by omega, by omega⟩ rfl ?_
            refine mm_goto (tgt := 5) C (mm_dec dk_X4_lookAtTeam 37 rfl) (by decide) ?_
            exact ih5 x60_3 ⟨by omega, by omega⟩ (x5_4 + 1) ⟨by omega, by omega⟩ h23c i23c f23c (by first | exact ⟨0, rfl, Or.inl (by omega)⟩ | exact ⟨_, w60_0, Or.inr rfl⟩) (by omega)
          refine mm_if_ne (tgt := 60) C (mm_dec dk_X4_lookAtTeam 30 rfl) (by decide) (fun c50 => ?_) (fun c50 => ?_)
          · skip
            exact J60 (mm_w (x5_3 + (mm_w ((h23c.1 46 8) + (h23c.1 46 9))))) ⟨by omega, by omega⟩ (by first | exact mm_tX9_s zt (by omega) zL (z29 _) (by omega) (if_pos (by omega)).symm | exact mm_tX9_s zt (by omega) zL (z29 _) (by omega) (if_neg (by omega)).symm)
          · skip
            refine mm_iload_n C (mm_dec dk_X4_lookAtTeam 31 rfl) rfl ?_
            refine mm_aload_n C (mm_dec dk_X4_lookAtTeam 32 rfl) rfl ?_
            refine mm_geti C fl_X4_19 (mm_dec dk_X4_lookAtTeam 33 rfl) rfl rfl (Or.inl rfl) ?_
            refine mm_isubw C (mm_dec dk_X4_lookAtTeam 34 rfl) ?_
            have g61 : -2147483648 ≤ (mm_w ((mm_w (x5_3 + (mm_w ((h23c.1 46 8) + (h23c.1 46 9))))) - (h23c.1 46 6))) ∧ (mm_w ((mm_w (x5_3 + (mm_w ((h23c.1 46 8) + (h23c.1 46 9))))) - (h23c.1 46 6))) < 2147483648 := mm_w_rg _
            refine mm_istore_nL (ls2 := [mR 46, mI p1, mI p2, mI (mm_w ((mm_w (x5_3 + (mm_w ((h23c.1 46 8) + (h23c.1 46 9))))) - (h23c.1 46 6))), mI x5_4]) C (mm_dec dk_X4_lookAtTeam 35 rfl) (by decide) rfl ?_
            exact J60 (mm_w ((mm_w (x5_3 + (mm_w ((h23c.1 46 8) + (h23c.1 46 9))))) - (h23c.1 46 6))) ⟨by omega, by omega⟩ (by first | exact mm_tX9_s zt (by omega) zL (z29 _) (by omega) (if_pos (by omega)).symm | exact mm_tX9_s zt (by omega) zL (z29 _) (by omega) (if_neg (by omega)).symm)
        · skip
          refine mm_iconst C (mm_dec dk_X4_lookAtTeam 19 rfl) ⟨by decide, by decide⟩ ?_
          exact mm_zret C T (mm_dec dk_X4_lookAtTeam 20 rfl) (by decide : 0 ≤ 0) (by decide : 0 ≤ 0) (by omega) ⟨_, rfl, ⟨⟨by omega, by omega⟩, i23c, f23c, by first | exact Or.inr ⟨rfl, x5_4.toNat, _, _, h23c, by omega, zt, by rw [Int.toNat_of_nonneg (by omega), ← z29]; exact zL, by omega⟩ | exact Or.inl ⟨rfl, _, _, (by rw [show (3 : Nat) = x5_4.toNat by omega]; exact zt), by rw [ze.resolve_left (by omega)]; omega⟩⟩⟩
  refine mm_istoreL (ls2 := [mR 46, mI p1, mI p2, mI 0, mI 0]) C (mm_dec dk_X4_lookAtTeam 3 rfl) (by decide) rfl ?_
  exact J5 (((3 - 0) : Int) + 1).toNat 0 ⟨by omega, by omega⟩ 0 ⟨by omega, by omega⟩ h i0 f0 (by first | exact ⟨0, rfl, Or.inl (by omega)⟩ | exact ⟨_, w60_0, Or.inr rfl⟩) (by omega)
set_option maxRecDepth 100000 in
set_option maxHeartbeats 4000000 in
theorem c_X4_placeOfTeam_q (l : Launch) (hl : l.stackTraces = false) (d : Nat) (hd : 5 ≤ d) (h : mH) (i0 : mm_inv h) (p1 : Int) (p2 : Int) (bp1 : 0 ≤ p1 ∧ p1 ≤ 9) : mm_Met l d yX4_placeOfTeam cX4_placeOfTeam 6 (some .int) [mR 46, mI p1, mI p2] h (mm_pi fun r h2 => (-1 ≤ r ∧ r ≤ 11) ∧ mm_inv h2 ∧ mm_fr [(42, 4), (42, 5), (42, 6), (46, 5), (46, 6), (46, 7), (46, 8), (46, 9), (46, 10), (46, 11), (48, 8), (48, 9)] [45, 47, 49, 50, 51, 52, 53] h h2 ∧ mm_qX9 h p1 p2 r) mm_nx 0 0 := by
  refine mm_ofW (ls := [mR 46, mI p1, mI p2, mU, mU, mU]) hl (by decide) rfl (Nat.le_of_ble_eq_true rfl) ?_
  intro x hxl C T hnm htb
  subst hxl
  have C1 := mm_OK_le (d' := d - 1 + 1) (by omega) C
  refine mm_rng (fun hr _ => ?_)
  have ap1 : -2147483648 ≤ p1 ∧ p1 < 2147483648 := mm_ok_at hr (i := 1) rfl
  have ap2 : -2147483648 ≤ p2 ∧ p2 < 2147483648 := mm_ok_at hr (i := 2) rfl
  have f0 : mm_fr [(42, 4), (42, 5), (42, 6), (46, 5), (46, 6), (46, 7), (46, 8), (46, 9), (46, 10), (46, 11), (48, 8), (48, 9)] [45, 47, 49, 50, 51, 52, 53] h h := mm_fr_rf
  have g1 : -2147483648 ≤ h.1 46 5 ∧ h.1 46 5 ≤ 2147483647 := i0.1 46 5
  have g2 : -2147483648 ≤ h.1 46 6 ∧ h.1 46 6 ≤ 2147483647 := i0.1 46 6
  have g3 : -2147483648 ≤ h.1 46 7 ∧ h.1 46 7 ≤ 2147483647 := i0.1 46 7
  have g4 : -2147483648 ≤ h.1 46 8 ∧ h.1 46 8 ≤ 2147483647 := i0.1 46 8
  have g5 : -2147483648 ≤ h.1 46 9 ∧ h.1 46 9 ≤ 2147483647 := i0.1 46 9
  have g6 : -2147483648 ≤ h.1 46 10 ∧ h.1 46 10 ≤ 2147483647 := i0.1 46 10
  have g7 : -2147483648 ≤ h.1 42 5 ∧ h.1 42 5 ≤ 2147483647 := i0.1 42 5
  have g8 : 0 ≤ h.1 42 6 ∧ h.1 42 6 ≤ 1 := i0.1 42 6
  have g9 : 0 ≤ h.1 48 8 ∧ h.1 48 8 ≤ 12 := i0.1 48 8
  have g10 : 0 ≤ h.1 48 9 ∧ h.1 48 9 ≤ 500 := i0.1 48 9
  have g11 : -2147483648 ≤ h.1 46 11 ∧ h.1 46 11 ≤ 2147483647 := i0.1 46 11
  have g12 : 0 ≤ h.1 22 9 ∧ h.1 22 9 ≤ 10 := i0.1 22 9
  have zn22 : 0 ≤ h.1 22 9 ∧ h.1 22 9 ≤ 10 := i0.1 22 9
  refine mm_aload_n C (mm_dec dk_X4_placeOfTeam 0 rfl) rfl ?_
  refine mm_iload_n C (mm_dec dk_X4_placeOfTeam 1 rfl) rfl ?_
  refine mm_iload_n C (mm_dec dk_X4_placeOfTeam 2 rfl) rfl ?_
  refine mm_cVi (rest := []) C1 ev_X4_125 (mm_dec dk_X4_placeOfTeam 3 rfl) (c_X4_lookAtTeam_q x.2.1 hl (d - 1) (by omega) h i0 p1 p2 ⟨by omega, by omega⟩) rfl rfl (Nat.le_of_ble_eq_true rfl) ⟨by decide, by decide⟩ rfl (fun r3 h3c hp3 => ?_) (fun _ _ q => q.elim)
  obtain ⟨b3, i3c, g3c, y3_0⟩ := hp3
  have f3c : mm_fr [(42, 4), (42, 5), (42, 6), (46, 5), (46, 6), (46, 7), (46, 8), (46, 9), (46, 10), (46, 11), (48, 8), (48, 9)] [45, 47, 49, 50, 51, 52, 53] h h3c := mm_fr_tr f0 g3c (by decide +kernel)
  have q3c_14 : h3c.1 22 9 = h.1 22 9 := g3c.1 22 9 (by decide)
  have g15 : -2147483648 ≤ (h3c.1 46 5) ∧ (h3c.1 46 5) ≤ 2147483647 := i3c.1 46 5
  have g16 : -2147483648 ≤ (h3c.1 46 6) ∧ (h3c.1 46 6) ≤ 2147483647 := i3c.1 46 6
  have g17 : -2147483648 ≤ (h3c.1 46 7) ∧ (h3c.1 46 7) ≤ 2147483647 := i3c.1 46 7
  have g18 : -2147483648 ≤ (h3c.1 46 8) ∧ (h3c.1 46 8) ≤ 2147483647 := i3c.1 46 8
  have g19 : -2147483648 ≤ (h3c.1 46 9) ∧ (h3c.1 46 9) ≤ 2147483647 := i3c.1 46 9
  have g20 : -2147483648 ≤ (h3c.1 46 10) ∧ (h3c.1 46 10) ≤ 2147483647 := i3c.1 46 10
  have g21 : -2147483648 ≤ (h3c.1 42 5) ∧ (h3c.1 42 5) ≤ 2147483647 := i3c.1 42 5
  have g22 : 0 ≤ (h3c.1 42 6) ∧ (h3c.1 42 6) ≤ 1 := i3c.1 42 6
  have g23 : 0 ≤ (h3c.1 48 8) ∧ (h3c.1 48 8) ≤ 12 := i3c.1 48 8
  have g24 : 0 ≤ (h3c.1 48 9) ∧ (h3c.1 48 9) ≤ 500 := i3c.1 48 9
  have g25 : -2147483648 ≤ (h3c.1 46 11) ∧ (h3c.1 46 11) ≤ 2147483647 := i3c.1 46 11
  have z22c : h3c.1 22 9 = h.1 22 9 := f3c.1 22 9 (by decide)
  refine mm_if_ne (tgt := 11) C (mm_dec dk_X4_placeOfTeam 4 rfl) (by decide) (fun c6 => ?_) (fun c6 => ?_)
  · skip
    refine mm_aload_n C (mm_dec dk_X4_placeOfTeam 7 rfl) rfl ?_
    refine mm_geti C fl_X4_35 (mm_dec dk_X4_placeOfTeam 8 rfl) rfl rfl (Or.inl rfl) ?_
    refine mm_istore_nL (ls2 := [mR 46, mI p1, mI p2, mI (h3c.1 46 11), mU, mU]) C (mm_dec dk_X4_placeOfTeam 9 rfl) (by decide) rfl ?_
    refine mm_iconst C (mm_dec dk_X4_placeOfTeam 10 rfl) ⟨by decide, by decide⟩ ?_
    refine mm_istoreL (ls2 := [mR 46, mI p1, mI p2, mI (h3c.1 46 11), mI 1, mU]) C (mm_dec dk_X4_placeOfTeam 11 rfl) (by decide) rfl ?_
    refine mm_iconst C (mm_dec dk_X4_placeOfTeam 12 rfl) ⟨by decide, by decide⟩ ?_
    have J22 : ∀ (n : Nat) (x22_4 : Int) (bx22_4 : 1 ≤ x22_4 ∧ x22_4 ≤ 11) (x22_5 : Int) (bx22_5 : 0 ≤ x22_5 ∧ x22_5 ≤ 10) (h22_ : mH) (i22_ : mm_inv h22_) (f22_ : mm_fr [(42, 4), (42, 5), (42, 6), (46, 5), (46, 6), (46, 7), (46, 8), (46, 9), (46, 10), (46, 11), (48, 8), (48, 9)] [45, 47, 49, 50, 51, 52, 53] h h22_) (w22_0 : mm_QZ9 h p1 p2 (h3c.1 46 11) (x22_5).toNat x22_4) (w22_1 : x22_5 ≤ h.1 22 9) (w22_2 : (h3c.1 46 11) = h3c.1 46 11), (10 - x22_5 : Int) < n → mm_W x 0 0 22 [mR 46, mI p1, mI p2, mI (h3c.1 46 11), mI x22_4, mI x22_5] [] h22_ := by
      intro n
      induction n with
      | zero =>
        intro x22_4 bx22_4 x22_5 bx22_5 h22_ i22_ f22_ w22_0 w22_1 w22_2 hm
        have g26 : -2147483648 ≤ h22_.1 46 5 ∧ h22_.1 46 5 ≤ 2147483647 := i22_.1 46 5
        have g27 : -2147483648 ≤ h22_.1 46 6 ∧ h22_.1 46 6 ≤ 2147483647 := i22_.1 46 6
        have g28 : -2147483648 ≤ h22_.1 46 7 ∧ h22_.1 46 7 ≤ 2147483647 := i22_.1 46 7
        have g29 : -2147483648 ≤ h22_.1 46 8 ∧ h22_.1 46 8 ≤ 2147483647 := i22_.1 46 8
        have g30 : -2147483648 ≤ h22_.1 46 9 ∧ h22_.1 46 9 ≤ 2147483647 := i22_.1 46 9
        have g31 : -2147483648 ≤ h22_.1 46 10 ∧ h22_.1 46 10 ≤ 2147483647 := i22_.1 46 10
        have g32 : -2147483648 ≤ h22_.1 42 5 ∧ h22_.1 42 5 ≤ 2147483647 := i22_.1 42 5
        have g33 : 0 ≤ h22_.1 42 6 ∧ h22_.1 42 6 ≤ 1 := i22_.1 42 6
        have g34 : 0 ≤ h22_.1 48 8 ∧ h22_.1 48 8 ≤ 12 := i22_.1 48 8
        have g35 : 0 ≤ h22_.1 48 9 ∧ h22_.1 48 9 ≤ 500 := i22_.1 48 9
        have g36 : -2147483648 ≤ h22_.1 46 11 ∧ h22_.1 46 11 ≤ 2147483647 := i22_.1 46 11
        have g37 : 0 ≤ h22_.1 22 9 ∧ h22_.1 22 9 ≤ 10 := i22_.1 22 9
        exfalso; omega
      | succ n ih22 =>
        intro x22_4 bx22_4 x22_5 bx22_5 h22_ i22_ f22_ w22_0 w22_1 w22_2 hm22
        have g38 : -2147483648 ≤ h22_.1 46 5 ∧ h22_.1 46 5 ≤ 2147483647 := i22_.1 46 5
        have g39 : -2147483648 ≤ h22_.1 46 6 ∧ h22_.1 46 6 ≤ 2147483647 := i22_.1 46 6
        have g40 : -2147483648 ≤ h22_.1 46 7 ∧ h22_.1 46 7 ≤ 2147483647 := i22_.1 46 7
        have g41 : -2147483648 ≤ h22_.1 46 8 ∧ h22_.1 46 8 ≤ 2147483647 := i22_.1 46 8
        have g42 : -2147483648 ≤ h22_.1 46 9 ∧ h22_.1 46 9 ≤ 2147483647 := i22_.1 46 9
        have g43 : -2147483648 ≤ h22_.1 46 10 ∧ h22_.1 46 10 ≤ 2147483647 := i22_.1 46 10
        have g44 : -2147483648 ≤ h22_.1 42 5 ∧ h22_.1 42 5 ≤ 2147483647 := i22_.1 42 5
        have g45 : 0 ≤ h22_.1 42 6 ∧ h22_.1 42 6 ≤ 1 := i22_.1 42 6
        have g46 : 0 ≤ h22_.1 48 8 ∧ h22_.1 48 8 ≤ 12 := i22_.1 48 8
        have g47 : 0 ≤ h22_.1 48 9 ∧ h22_.1 48 9 ≤ 500 := i22_.1 48 9
        have g48 : -2147483648 ≤ h22_.1 46 11 ∧ h22_.1 46 11 ≤ 2147483647 := i22_.1 46 11
        have g49 : 0 ≤ h22_.1 22 9 ∧ h22_.1 22 9 ≤ 10 := i22_.1 22 9
        have g50 : h22_.1 22 9 = h.1 22 9 := f22_.1 22 9 (by decide)
        have zr22 := mm_QZ9_rg _ _ w22_0
        have z23 : ∀ j, h22_.2.1 23 j = h.2.1 23 j := fun j => f22_.2 23 (by decide) j
        have z29 : ∀ j, h22_.2.1 29 j = h.2.1 29 j := fun j => f22_.2 29 (by decide) j
        have z22d : h22_.1 22 9 = h.1 22 9 := f22_.1 22 9 (by decide)
        have zca : h22_.2.1 23 (h22_.2.1 29 ((x22_5 * 3) + 0)) = h.2.1 23 (h.2.1 29 ((x22_5 * 3) + 0)) := by rw [z23, z29]
        have zcb : h22_.2.1 23 (h22_.2.1 29 ((p1 * 3) + 0)) = h.2.1 23 (h.2.1 29 ((p1 * 3) + 0)) := by rw [z23, z29]
        refine mm_iload C (mm_dec dk_X4_placeOfTeam 14 rfl) rfl ?_
        refine mm_aload_n C (mm_dec dk_X4_placeOfTeam 15 rfl) rfl ?_
        refine mm_getr (t := 22) C fl_X4_38 (mm_dec dk_X4_placeOfTeam 16 rfl) rfl rfl (mm_ref i22_ rfl) ?_
        refine mm_cVi (rest := [mI x22_5]) C1 ev_X4_128 (mm_dec dk_X4_placeOfTeam 17 rfl) (c_X9_teams x.2.1 hl (d - 1) (by omega) h22_ i22_ ) rfl rfl (Nat.le_of_ble_eq_true rfl) ⟨by decide, by decide⟩ rfl (fun r28 h28c hp28 => ?_) (fun _ _ q => q.elim)
        obtain ⟨z28, y28⟩ := hp28
        rw [z28, y28]
        refine mm_icmp_ge (tgt := 87) C (mm_dec dk_X4_placeOfTeam 18 rfl) (by decide) (fun c31 => ?_) (fun c31 => ?_)
        · skip
          refine mm_iload C (mm_dec dk_X4_placeOfTeam 43 rfl) rfl ?_
          exact mm_iret C T (mm_dec dk_X4_placeOfTeam 44 rfl) (by decide : 0 ≤ 0) (by decide : 0 ≤ 0) ⟨_, rfl, ⟨⟨by omega, by omega⟩, i22_, f22_, by first | exact Or.inl ⟨_, (by rw [show (0 : Int) = r3 by omega]; exact y3_0), rfl⟩ | exact Or.inr ⟨_, (by rw [show (1 : Int) = r3 by omega]; exact y3_0), (by rw [show h.1 22 9 = x22_5 by omega]; exact w22_0)⟩⟩⟩
        · skip
          refine mm_iload C (mm_dec dk_X4_placeOfTeam 19 rfl) rfl ?_
          refine mm_iload_n C (mm_dec dk_X4_placeOfTeam 20 rfl) rfl ?_
          have J81 : ∀ (x81_4 : Int) (bx81_4 : 1 ≤ x81_4 ∧ x81_4 ≤ 11) (h81_ : mH) (i81_ : mm_inv h81_) (f81_ : mm_fr [(42, 4), (42, 5), (42, 6), (46, 5), (46, 6), (46, 7), (46, 8), (46, 9), (46, 10), (46, 11), (48, 8), (48, 9)] [45, 47, 49, 50, 51, 52, 53] h h81_) (w81_0 : mm_QZ9 h p1 p2 (h3c.1 46 11) (x22_5 + 1).toNat x81_4), mm_W x 0 0 81 [mR 46, mI p1, mI p2, mI (h3c.1 46 11), mI x81_4, mI x22_5] [] h81_ := by
            intro x81_4 bx81_4 h81_ i81_ f81_ w81_0
            have g52 : -2147483648 ≤ h81_.1 46 5 ∧ h81_.1 46 5 ≤ 2147483647 := i81_.1 46 5
            have g53 : -2147483648 ≤ h81_.1 46 6 ∧ h81_.1 46 6 ≤ 2147483647 := i81_.1 46 6
            have g54 : -2147483648 ≤ h81_.1 46 7 ∧ h81_.1 46 7 ≤ 2147483647 := i81_.1 46 7
            have g55 : -2147483648 ≤ h81_.1 46 8 ∧ h81_.1 46 8 ≤ 2147483647 := i81_.1 46 8
            have g56 : -2147483648 ≤ h81_.1 46 9 ∧ h81_.1 46 9 ≤ 2147483647 := i81_.1 46 9
            have g57 : -2147483648 ≤ h81_.1 46 10 ∧ h81_.1 46 10 ≤ 2147483647 := i81_.1 46 10
            have g58 : -2147483648 ≤ h81_.1 42 5 ∧ h81_.1 42 5 ≤ 2147483647 := i81_.1 42 5
            have g59 : 0 ≤ h81_.1 42 6 ∧ h81_.1 42 6 ≤ 1 := i81_.1 42 6
            have g60 : 0 ≤ h81_.1 48 8 ∧ h81_.1 48 8 ≤ 12 := i81_.1 48 8
            have g61 : 0 ≤ h81_.1 48 9 ∧ h81_.1 48 9 ≤ 500 := i81_.1 48 9
            have g62 : -2147483648 ≤ h81_.1 46 11 ∧ h81_.1 46 11 ≤ 2147483647 := i81_.1 46 11
            have g63 : 0 ≤ h81_.1 22 9 ∧ h81_.1 22 9 ≤ 10 := i81_.1 22 9
            have g64 : h81_.1 22 9 = h.1 22 9 := f81_.1 22 9 (by decide)
            refine mm_iincL (ls2 := [mR 46, mI p1, mI p2, mI (h3c.1 46 11), mI x81_4, mI (x22_5 + 1)]) C (mm_dec dk_X4_placeOfTeam 41 rfl) rfl (by decide) ⟨by omega, by omega⟩ rfl ?_
            refine mm_goto (tgt := 22) C (mm_dec dk_X4_placeOfTeam 42 rfl) (by decide) ?_
            exact ih22 x81_4 ⟨by omega, by omega⟩ (x22_5 + 1) ⟨by omega, by omega⟩ h81_ i81_ f81_ (by first | exact w81_0 | exact (show (1 : Int) = 1 from rfl)) (by omega) (by omega) (by omega)
          refine mm_icmp_eq (tgt := 81) C (mm_dec dk_X4_placeOfTeam 21 rfl) (by decide) (fun c37 => ?_) (fun c37 => ?_)
          · skip
            exact J81 x22_4 ⟨by omega, by omega⟩ h22_ i22_ f22_ (by first | exact mm_QZ9_n w22_0 (by omega) (by omega) | exact mm_QZ9_y w22_0 (by omega) (by omega) (by omega) zT ⟨by omega, by omega⟩ | exact mm_QZ9_w w22_0 (by omega) (by omega) (by omega) zT (by omega))
          · skip
            refine mm_aload_n C (mm_dec dk_X4_placeOfTeam 22 rfl) rfl ?_
            refine mm_getr (t := 22) C fl_X4_38 (mm_dec dk_X4_placeOfTeam 23 rfl) rfl rfl (mm_ref i22_ rfl) ?_
            refine mm_iload C (mm_dec dk_X4_placeOfTeam 24 rfl) rfl ?_
            refine mm_cVi (rest := []) C1 ev_X4_131 (mm_dec dk_X4_placeOfTeam 25 rfl) (c_X9_courseOfTeam x.2.1 hl (d - 1) (by omega) h22_ i22_ x22_5 ⟨by omega, by omega⟩) rfl rfl (Nat.le_of_ble_eq_true rfl) ⟨by decide, by decide⟩ rfl (fun r46 h46c hp46 => ?_) (fun _ _ q => q.elim)
            obtain ⟨z46, y46⟩ := hp46
            rw [z46, y46]
            have g66 : 0 ≤ (h22_.2.1 23 (h22_.2.1 29 ((x22_5 * 3) + 0))) ∧ (h22_.2.1 23 (h22_.2.1 29 ((x22_5 * 3) + 0))) ≤ 7 := i22_.2.1 23 (h22_.2.1 29 ((x22_5 * 3) + 0))
            have g67 : 0 ≤ (h22_.2.1 29 ((x22_5 * 3) + 0)) ∧ (h22_.2.1 29 ((x22_5 * 3) + 0)) ≤ 39 := i22_.2.1 29 ((x22_5 * 3) + 0)
            refine mm_aload_n C (mm_dec dk_X4_placeOfTeam 26 rfl) rfl ?_
            refine mm_getr (t := 22) C fl_X4_38 (mm_dec dk_X4_placeOfTeam 27 rfl) rfl rfl (mm_ref i22_ rfl) ?_
            refine mm_iload_n C (mm_dec dk_X4_placeOfTeam 28 rfl) rfl ?_
            refine mm_cVi (rest := [mI (h22_.2.1 23 (h22_.2.1 29 ((x22_5 * 3) + 0)))]) C1 ev_X4_131 (mm_dec dk_X4_placeOfTeam 29 rfl) (c_X9_courseOfTeam x.2.1 hl (d - 1) (by omega) h22_ i22_ p1 ⟨by omega, by omega⟩) rfl rfl (Nat.le_of_ble_eq_true rfl) ⟨by decide, by decide⟩ rfl (fun r54 h54c hp54 => ?_) (fun _ _ q => q.elim)
            obtain ⟨z54, y54⟩ := hp54
            rw [z54, y54]
            have g69 : 0 ≤ (h22_.2.1 23 (h22_.2.1 29 ((p1 * 3) + 0))) ∧ (h22_.2.1 23 (h22_.2.1 29 ((p1 * 3) + 0))) ≤ 7 := i22_.2.1 23 (h22_.2.1 29 ((p1 * 3) + 0))
            have g70 : 0 ≤ (h22_.2.1 29 ((p1 * 3) + 0)) ∧ (h22_.2.1 29 ((p1 * 3) + 0)) ≤ 39 := i22_.2.1 29 ((p1 * 3) + 0)
            refine mm_icmp_ne (tgt := 81) C (mm_dec dk_X4_placeOfTeam 30 rfl) (by decide) (fun c57 => ?_) (fun c57 => ?_)
            · skip
              exact J81 x22_4 ⟨by omega, by omega⟩ h22_ i22_ f22_ (by first | exact mm_QZ9_n w22_0 (by omega) (by omega) | exact mm_QZ9_y w22_0 (by omega) (by omega) (by omega) zT ⟨by omega, by omega⟩ | exact mm_QZ9_w w22_0 (by omega) (by omega) (by omega) zT (by omega))
            · skip
              refine mm_aload_n C (mm_dec dk_X4_placeOfTeam 31 rfl) rfl ?_
              refine mm_iload C (mm_dec dk_X4_placeOfTeam 32 rfl) rfl ?_
              refine mm_iload_n C (mm_dec dk_X4_placeOfTeam 33 rfl) rfl ?_
              refine mm_cVi (rest := []) C1 ev_X4_125 (mm_dec dk_X4_placeOfTeam 34 rfl) (c_X4_lookAtTeam_q x.2.1 hl (d - 1) (by omega) h22_ i22_ x22_5 p2 ⟨by omega, by omega⟩) rfl rfl (Nat.le_of_ble_eq_true rfl) ⟨by decide, by decide⟩ rfl (fun r64 h64c hp64 => ?_) (fun _ _ q => q.elim)
              obtain ⟨b64, i64c, g64c, y64_0⟩ := hp64
              have f64c : mm_fr [(42, 4), (42, 5), (42, 6), (46, 5), (46, 6), (46, 7), (46, 8), (46, 9), (46, 10), (46, 11), (48, 8), (48, 9)] [45, 47, 49, 50, 51, 52, 53] h h64c := mm_fr_tr f22_ g64c (by decide +kernel)
              have q64c_72 : h64c.1 22 9 = h22_.1 22 9 := g64c.1 22 9 (by decide)
              have g73 : -2147483648 ≤ (h64c.1 46 5) ∧ (h64c.1 46 5) ≤ 2147483647 := i64c.1 46 5
              have g74 : -2147483648 ≤ (h64c.1 46 6) ∧ (h64c.1 46 6) ≤ 2147483647 := i64c.1 46 6
              have g75 : -2147483648 ≤ (h64c.1 46 7) ∧ (h64c.1 46 7) ≤ 2147483647 := i64c.1 46 7
              have g76 : -2147483648 ≤ (h64c.1 46 8) ∧ (h64c.1 46 8) ≤ 2147483647 := i64c.1 46 8
              have g77 : -2147483648 ≤ (h64c.1 46 9) ∧ (h64c.1 46 9) ≤ 2147483647 := i64c.1 46 9
              have g78 : -2147483648 ≤ (h64c.1 46 10) ∧ (h64c.1 46 10) ≤ 2147483647 := i64c.1 46 10
              have g79 : -2147483648 ≤ (h64c.1 42 5) ∧ (h64c.1 42 5) ≤ 2147483647 := i64c.1 42 5
              have g80 : 0 ≤ (h64c.1 42 6) ∧ (h64c.1 42 6) ≤ 1 := i64c.1 42 6
              have g81 : 0 ≤ (h64c.1 48 8) ∧ (h64c.1 48 8) ≤ 12 := i64c.1 48 8
              have g82 : 0 ≤ (h64c.1 48 9) ∧ (h64c.1 48 9) ≤ 500 := i64c.1 48 9
              have g83 : -2147483648 ≤ (h64c.1 46 11) ∧ (h64c.1 46 11) ≤ 2147483647 := i64c.1 46 11
              have zT := mm_TZ9_fr y64_0 (mm_k1_fr f22_ (by decide)) (f22_.2 16 (by decide)) (f22_.2 17 (by decide)) (f22_.2 19 (by decide)) (f22_.2 21 (by decide)) (f22_.2 23 (by decide)) (f22_.2 24 (by decide)) (f22_.2 25 (by decide)) (f22_.2 27 (by decide)) (f22_.2 33 (by decide)) (f22_.2 34 (by decide)) (f22_.2 37 (by decide)) (f22_.2 38 (by decide)) (f22_.2 39 (by decide)) (f22_.2 40 (by decide)) (f22_.2 41 (by decide)) (f22_.2 43 (by decide)) (f22_.2 44 (by decide)) (f22_.1 30 6 (by decide)) (f22_.1 30 12 (by decide)) (f22_.1 42 3 (by decide)) (f22_.2 29 (by decide))
              refine mm_if_eq (tgt := 81) C (mm_dec dk_X4_placeOfTeam 35 rfl) (by decide) (fun c67 => ?_) (fun c67 => ?_)
              · skip
                exact J81 x22_4 ⟨by omega, by omega⟩ h64c i64c f64c (by first | exact mm_QZ9_n w22_0 (by omega) (by omega) | exact mm_QZ9_y w22_0 (by omega) (by omega) (by omega) zT ⟨by omega, by omega⟩ | exact mm_QZ9_w w22_0 (by omega) (by omega) (by omega) zT (by omega))
              · skip
                refine mm_aload_n C (mm_dec dk_X4_placeOfTeam 36 rfl) rfl ?_
                refine mm_geti C fl_X4_35 (mm_dec dk_X4_placeOfTeam 37 rfl) rfl rfl (Or.inl rfl) ?_
                refine mm_iload_n C (mm_dec dk_X4_placeOfTeam 38 rfl) rfl ?_
                refine mm_icmp_ge (tgt := 81) C (mm_dec dk_X4_placeOfTeam 39 rfl) (by decide) (fun c75 => ?_) (fun c75 => ?_)
                · skip
                  exact J81 x22_4 ⟨by omega, by omega⟩ h64c i64c f64c (by first | exact mm_QZ9_n w22_0 (by omega) (by omega) | exact mm_QZ9_y w22_0 (by omega) (by omega) (by omega) zT ⟨by omega, by omega⟩ | exact mm_QZ9_w w22_0 (by omega) (by omega) (by omega) zT (by omega))
                · skip
                  refine mm_iincL (ls2 := [mR 46, mI p1, mI p2, mI (h3c.1 46 11), mI (x22_4 + 1), mI x22_5]) C (mm_dec dk_X4_placeOfTeam 40 rfl) rfl (by decide) ⟨by omega, by omega⟩ rfl ?_
                  exact J81 (x22_4 + 1) ⟨by omega, by omega⟩ h64c i64c f64c (by first | exact mm_QZ9_n w22_0 (by omega) (by omega) | exact mm_QZ9_y w22_0 (by omega) (by omega) (by omega) zT ⟨by omega, by omega⟩ | exact mm_QZ9_w w22_0 (by omega) (by omega) (by omega) zT (by omega))
    refine mm_istoreL (ls2 := [mR 46, mI p1, mI p2, mI (h3c.1 46 11), mI 1, mI 0]) C (mm_dec dk_X4_placeOfTeam 13 rfl) (by decide) rfl ?_
    exact J22 (((10 - 0) : Int) + 1).toNat 1 ⟨by omega, by omega⟩ 0 ⟨by omega, by omega⟩ h3c i3c f3c (by first | exact w81_0 | exact (show (1 : Int) = 1 from rfl)) (by omega) (by omega) (by omega)
  · skip
    refine mm_iconst C (mm_dec dk_X4_placeOfTeam 5 rfl) ⟨by decide, by decide⟩ ?_
    exact mm_iret C T (mm_dec dk_X4_placeOfTeam 6 rfl) (by decide : 0 ≤ 0) (by decide : 0 ≤ 0) ⟨_, rfl, ⟨⟨by omega, by omega⟩, i3c, f3c, by first | exact Or.inl ⟨_, (by rw [show (0 : Int) = r3 by omega]; exact y3_0), rfl⟩ | exact Or.inr ⟨_, (by rw [show (1 : Int) = r3 by omega]; exact y3_0), (by rw [show h.1 22 9 = x22_5 by omega]; exact w22_0)⟩⟩⟩
set_option maxRecDepth 100000 in
set_option maxHeartbeats 4000000 in
theorem c_X11_judged_q (l : Launch) (hl : l.stackTraces = false) (d : Nat) (hd : 9 ≤ d) (h : mH) (i0 : mm_inv h) (p1 : Int) (p2 : Int) (p3 : Int) : mm_Met l d yX11_judged cX11_judged 4 (some .int) [mR 0, mI p1, mI p2, mI p3] h (mm_pi fun r h2 => (-2147483648 ≤ r ∧ r ≤ 2147483647) ∧ mm_inv h2 ∧ mm_fr [(42, 4), (42, 5), (42, 6), (46, 5), (46, 6), (46, 7), (46, 8), (46, 9), (46, 10), (48, 8), (48, 9)] [45, 47, 49, 50, 51, 52, 53] h h2 ∧ ((0 ≤ p1 ∧ p1 < h.1 22 8) ∧ (0 ≤ p2 ∧ p2 ≤ 8) ∧ (0 ≤ p3 ∧ p3 ≤ h.1 0 13)) ∧ mm_jX9 h p1 p2 p3 r) (fun E h' => (mm_xn h E h' ∧ ((p1 < 0 ∨ h.1 22 8 ≤ p1) ∨ (p2 < 0 ∨ 8 < p2))) ∨ (mm_xi h E h' ∧ ((0 ≤ p1 ∧ p1 < h.1 22 8) ∧ (0 ≤ p2 ∧ p2 ≤ 8) ∧ (p3 < 0 ∨ h.1 0 13 < p3)))) 2 12 := by
  refine mm_ofW (ls := [mR 0, mI p1, mI p2, mI p3]) hl (by decide) rfl (Nat.le_of_ble_eq_true rfl) ?_
  intro x hxl C T hnm htb
  subst hxl
  have C1 := mm_OK_le (d' := d - 1 + 1) (by omega) C
  have C8 := mm_OK_le (d' := d - 8 + 8) (by omega) C
  refine mm_rng (fun hr _ => ?_)
  have ap1 : -2147483648 ≤ p1 ∧ p1 < 2147483648 := mm_ok_at hr (i := 1) rfl
  have ap2 : -2147483648 ≤ p2 ∧ p2 < 2147483648 := mm_ok_at hr (i := 2) rfl
  have ap3 : -2147483648 ≤ p3 ∧ p3 < 2147483648 := mm_ok_at hr (i := 3) rfl
  have f0 : mm_fr [(42, 4), (42, 5), (42, 6), (46, 5), (46, 6), (46, 7), (46, 8), (46, 9), (46, 10), (48, 8), (48, 9)] [45, 47, 49, 50, 51, 52, 53] h h := mm_fr_rf
  refine mm_aload_n C (mm_dec dk_X11_judged 0 rfl) rfl ?_
  refine mm_iload_n C (mm_dec dk_X11_judged 1 rfl) rfl ?_
  refine mm_cVv (rest := []) C1 ev_X11_235 (mm_dec dk_X11_judged 2 rfl) (c_X11_needRunner_q x.2.1 hl (d - 1) (by omega) h i0 p1) rfl rfl (Nat.le_of_ble_eq_true rfl) ⟨by decide, by decide⟩ rfl (fun h2c hp2 => ?_) (fun E hx q => mm_out C T htb (by decide) (by decide) (by obtain ⟨q1, q2⟩ := q; exact Or.inl ⟨q1, by omega⟩))
  obtain ⟨z2, k2_0, k2_1⟩ := hp2
  rw [z2]
  have g2 : 0 ≤ (h.1 22 8) ∧ (h.1 22 8) ≤ 40 := i0.1 22 8
  refine mm_iload_n C (mm_dec dk_X11_judged 3 rfl) rfl ?_
  refine mm_iconst C (mm_dec dk_X11_judged 4 rfl) ⟨by decide, by decide⟩ ?_
  refine mm_bipush C (mm_dec dk_X11_judged 5 rfl) ⟨by decide, by decide⟩ ?_
  refine mm_cSi (rest := []) C1 es_X11_130 (mm_dec dk_X11_judged 6 rfl) (c_X11_within x.2.1 hl (d - 1) (by omega) h i0 p2 0 8) rfl (Nat.le_of_ble_eq_true rfl) ⟨by decide, by decide⟩ rfl (fun r9 h9c hp9 => ?_) (fun _ _ q => q.elim)
  obtain ⟨z9, y9⟩ := hp9
  rw [z9]
  refine mm_if_ne (tgt := 26) C (mm_dec dk_X11_judged 7 rfl) (by decide) (fun c12 => ?_) (fun c12 => ?_)
  · skip
    refine mm_aload_n C (mm_dec dk_X11_judged 13 rfl) rfl ?_
    refine mm_iload_n C (mm_dec dk_X11_judged 14 rfl) rfl ?_
    refine mm_cVv (rest := []) C1 ev_X11_282 (mm_dec dk_X11_judged 15 rfl) (c_X11_needSecond_q x.2.1 hl (d - 1) (by omega) h i0 p3) rfl rfl (Nat.le_of_ble_eq_true rfl) ⟨by decide, by decide⟩ rfl (fun h28c hp28 => ?_) (fun E hx q => mm_out C T htb (by decide) (by decide) (by obtain ⟨q1, q2⟩ := q; exact Or.inr ⟨q1, by omega⟩))
    obtain ⟨z28, k28_0, k28_1⟩ := hp28
    rw [z28]
    have g5 : 0 ≤ (h.1 0 13) ∧ (h.1 0 13) ≤ 99999 := i0.1 0 13
    refine mm_iload_n C (mm_dec dk_X11_judged 16 rfl) rfl ?_
    refine mm_bipush C (mm_dec dk_X11_judged 17 rfl) ⟨by decide, by decide⟩ ?_
    refine mm_icmp_ne (tgt := 47) C (mm_dec dk_X11_judged 18 rfl) (by decide) (fun c34 => ?_) (fun c34 => ?_)
    · skip
      refine mm_aload_n C (mm_dec dk_X11_judged 25 rfl) rfl ?_
      refine mm_getr (t := 46) C fl_X11_60 (mm_dec dk_X11_judged 26 rfl) rfl rfl (mm_ref i0 rfl) ?_
      refine mm_iload_n C (mm_dec dk_X11_judged 27 rfl) rfl ?_
      refine mm_iload_n C (mm_dec dk_X11_judged 28 rfl) rfl ?_
      refine mm_cVv (rest := []) C1 ev_X11_288 (mm_dec dk_X11_judged 29 rfl) (c_X4_look_q x.2.1 hl (d - 1) (by omega) h i0 p1 p3 ⟨by omega, by omega⟩) rfl rfl (Nat.le_of_ble_eq_true rfl) ⟨by decide, by decide⟩ rfl (fun h53c hp53 => ?_) (fun _ _ q => q.elim)
      obtain ⟨i53c, g53c, y53_0⟩ := hp53
      have f53c : mm_fr [(42, 4), (42, 5), (42, 6), (46, 5), (46, 6), (46, 7), (46, 8), (46, 9), (46, 10), (48, 8), (48, 9)] [45, 47, 49, 50, 51, 52, 53] h h53c := mm_fr_tr f0 g53c (by decide +kernel)
      have q53c_7 : h53c.1 0 13 = h.1 0 13 := g53c.1 0 13 (by decide)
      have q53c_8 : h53c.1 22 8 = h.1 22 8 := g53c.1 22 8 (by decide)
      refine mm_aload_n C (mm_dec dk_X11_judged 30 rfl) rfl ?_
      refine mm_getr (t := 46) C fl_X11_60 (mm_dec dk_X11_judged 31 rfl) rfl rfl (mm_ref i53c rfl) ?_
      refine mm_iload_n C (mm_dec dk_X11_judged 32 rfl) rfl ?_
      refine mm_cVi (rest := []) C1 ev_X11_291 (mm_dec dk_X11_judged 33 rfl) (c_X4_answer_q x.2.1 hl (d - 1) (by omega) h53c i53c p2) rfl rfl (Nat.le_of_ble_eq_true rfl) ⟨by decide, by decide⟩ rfl (fun r61 h61c hp61 => ?_) (fun _ _ q => q.elim)
      obtain ⟨b61, z61, y61_0⟩ := hp61
      rw [z61]
      exact mm_iret C T (mm_dec dk_X11_judged 34 rfl) (by decide : 2 ≤ 2) (by decide : 12 ≤ 12) ⟨_, rfl, ⟨⟨by omega, by omega⟩, i53c, f53c, by omega, by first | exact Or.inl ⟨by omega, y43_0⟩ | exact Or.inr ⟨by omega, by omega, _, y53_0, y61_0⟩⟩⟩
    · skip
      refine mm_aload_n C (mm_dec dk_X11_judged 19 rfl) rfl ?_
      refine mm_getr (t := 46) C fl_X11_60 (mm_dec dk_X11_judged 20 rfl) rfl rfl (mm_ref i0 rfl) ?_
      refine mm_iload_n C (mm_dec dk_X11_judged 21 rfl) rfl ?_
      refine mm_iload_n C (mm_dec dk_X11_judged 22 rfl) rfl ?_
      refine mm_cVi (rest := []) C1 ev_X11_285 (mm_dec dk_X11_judged 23 rfl) (c_X4_placeOf_q x.2.1 hl (d - 1) (by omega) h i0 p1 p3 ⟨by omega, by omega⟩) rfl rfl (Nat.le_of_ble_eq_true rfl) ⟨by decide, by decide⟩ rfl (fun r43 h43c hp43 => ?_) (fun _ _ q => q.elim)
      obtain ⟨b43, i43c, g43c, y43_0⟩ := hp43
      have f43c : mm_fr [(42, 4), (42, 5), (42, 6), (46, 5), (46, 6), (46, 7), (46, 8), (46, 9), (46, 10), (48, 8), (48, 9)] [45, 47, 49, 50, 51, 52, 53] h h43c := mm_fr_tr f0 g43c (by decide +kernel)
      have q43c_11 : h43c.1 0 13 = h.1 0 13 := g43c.1 0 13 (by decide)
      have q43c_12 : h43c.1 22 8 = h.1 22 8 := g43c.1 22 8 (by decide)
      exact mm_iret C T (mm_dec dk_X11_judged 24 rfl) (by decide : 2 ≤ 2) (by decide : 12 ≤ 12) ⟨_, rfl, ⟨⟨by omega, by omega⟩, i43c, f43c, by omega, by first | exact Or.inl ⟨by omega, y43_0⟩ | exact Or.inr ⟨by omega, by omega, _, y53_0, y61_0⟩⟩⟩
  · skip
    exact mm_throwXW C8 T htb th_nse (i := 11) rfl (mm_dec dk_X11_judged 8 rfl) (mm_dec dk_X11_judged 9 rfl) (mm_dec dk_X11_judged 10 rfl) (mm_dec dk_X11_judged 11 rfl) (mm_dec dk_X11_judged 12 rfl) (Nat.le_of_ble_eq_true rfl) ⟨by decide, by decide⟩ ⟨by decide, by decide⟩ (Or.inl ⟨⟨rfl, rfl⟩, by omega⟩)
set_option maxRecDepth 100000 in
set_option maxHeartbeats 4000000 in
theorem c_X11_ofTeam_q (l : Launch) (hl : l.stackTraces = false) (d : Nat) (hd : 9 ≤ d) (h : mH) (i0 : mm_inv h) (p1 : Int) (p2 : Int) (p3 : Int) : mm_Met l d yX11_ofTeam cX11_ofTeam 4 (some .int) [mR 0, mI p1, mI p2, mI p3] h (mm_pi fun r h2 => (-2147483648 ≤ r ∧ r ≤ 2147483647) ∧ mm_inv h2 ∧ mm_fr [(42, 4), (42, 5), (42, 6), (46, 5), (46, 6), (46, 7), (46, 8), (46, 9), (46, 10), (46, 11), (48, 8), (48, 9)] [45, 47, 49, 50, 51, 52, 53] h h2 ∧ ((0 ≤ p1 ∧ p1 < h.1 22 9) ∧ (0 ≤ p2 ∧ p2 ≤ 1) ∧ (0 ≤ p3 ∧ p3 ≤ h.1 0 13)) ∧ mm_oX9 h p1 p2 p3 r) (fun E h' => (mm_xn h E h' ∧ ((p1 < 0 ∨ h.1 22 9 ≤ p1) ∨ (p2 < 0 ∨ 1 < p2))) ∨ (mm_xi h E h' ∧ ((0 ≤ p1 ∧ p1 < h.1 22 9) ∧ (0 ≤ p2 ∧ p2 ≤ 1) ∧ (p3 < 0 ∨ h.1 0 13 < p3)))) 1 6 := by
  refine mm_ofW (ls := [mR 0, mI p1, mI p2, mI p3]) hl (by decide) rfl (Nat.le_of_ble_eq_true rfl) ?_
  intro x hxl C T hnm htb
  subst hxl
  have C1 := mm_OK_le (d' := d - 1 + 1) (by omega) C
  have C8 := mm_OK_le (d' := d - 8 + 8) (by omega) C
  refine mm_rng (fun hr _ => ?_)
  have ap1 : -2147483648 ≤ p1 ∧ p1 < 2147483648 := mm_ok_at hr (i := 1) rfl
  have ap2 : -2147483648 ≤ p2 ∧ p2 < 2147483648 := mm_ok_at hr (i := 2) rfl
  have ap3 : -2147483648 ≤ p3 ∧ p3 < 2147483648 := mm_ok_at hr (i := 3) rfl
  have f0 : mm_fr [(42, 4), (42, 5), (42, 6), (46, 5), (46, 6), (46, 7), (46, 8), (46, 9), (46, 10), (46, 11), (48, 8), (48, 9)] [45, 47, 49, 50, 51, 52, 53] h h := mm_fr_rf
  have g1 : -2147483648 ≤ h.1 46 11 ∧ h.1 46 11 ≤ 2147483647 := i0.1 46 11
  have g2 : 0 ≤ h.1 22 9 ∧ h.1 22 9 ≤ 10 := i0.1 22 9
  refine mm_iload_n C (mm_dec dk_X11_ofTeam 0 rfl) rfl ?_
  have J15 : ∀ (w15_0 : (p1 < 0 ∨ h.1 22 9 ≤ p1)), mm_W x 0 0 15 [mU, mU, mU, mU] [] h := by
    intro w15_0
    have g3 : -2147483648 ≤ h.1 46 11 ∧ h.1 46 11 ≤ 2147483647 := i0.1 46 11
    have g4 : 0 ≤ h.1 22 9 ∧ h.1 22 9 ≤ 10 := i0.1 22 9
    exact mm_throwXW C8 T htb th_nse (i := 13) rfl (mm_dec dk_X11_ofTeam 7 rfl) (mm_dec dk_X11_ofTeam 8 rfl) (mm_dec dk_X11_ofTeam 9 rfl) (mm_dec dk_X11_ofTeam 10 rfl) (mm_dec dk_X11_ofTeam 11 rfl) (Nat.le_of_ble_eq_true rfl) ⟨by decide, by decide⟩ ⟨by decide, by decide⟩ (Or.inl ⟨⟨rfl, rfl⟩, by omega⟩)
  refine mm_if_lt (tgt := 15) C (mm_dec dk_X11_ofTeam 1 rfl) (by decide) (fun c1 => ?_) (fun c1 => ?_)
  · skip
    refine mm_fgt 0 ?_
    refine mm_fgt 1 ?_
    refine mm_fgt 2 ?_
    refine mm_fgt 3 ?_
    exact J15 (by omega)
  · skip
    refine mm_iload_n C (mm_dec dk_X11_ofTeam 2 rfl) rfl ?_
    refine mm_aload_n C (mm_dec dk_X11_ofTeam 3 rfl) rfl ?_
    refine mm_getr (t := 22) C fl_X11_37 (mm_dec dk_X11_ofTeam 4 rfl) rfl rfl (mm_ref i0 rfl) ?_
    refine mm_cVi (rest := [mI p1]) C1 ev_X11_251 (mm_dec dk_X11_ofTeam 5 rfl) (c_X9_teams x.2.1 hl (d - 1) (by omega) h i0 ) rfl rfl (Nat.le_of_ble_eq_true rfl) ⟨by decide, by decide⟩ rfl (fun r9 h9c hp9 => ?_) (fun _ _ q => q.elim)
    obtain ⟨z9, y9⟩ := hp9
    rw [z9, y9]
    refine mm_icmp_lt (tgt := 26) C (mm_dec dk_X11_ofTeam 6 rfl) (by decide) (fun c12 => ?_) (fun c12 => ?_)
    · skip
      refine mm_iload_n C (mm_dec dk_X11_ofTeam 12 rfl) rfl ?_
      refine mm_iconst C (mm_dec dk_X11_ofTeam 13 rfl) ⟨by decide, by decide⟩ ?_
      refine mm_iconst C (mm_dec dk_X11_ofTeam 14 rfl) ⟨by decide, by decide⟩ ?_
      refine mm_cSi (rest := []) C1 es_X11_130 (mm_dec dk_X11_ofTeam 15 rfl) (c_X11_within x.2.1 hl (d - 1) (by omega) h i0 p2 0 1) rfl (Nat.le_of_ble_eq_true rfl) ⟨by decide, by decide⟩ rfl (fun r29 h29c hp29 => ?_) (fun _ _ q => q.elim)
      obtain ⟨z29, y29⟩ := hp29
      rw [z29]
      refine mm_if_ne (tgt := 46) C (mm_dec dk_X11_ofTeam 16 rfl) (by decide) (fun c32 => ?_) (fun c32 => ?_)
      · skip
        refine mm_aload_n C (mm_dec dk_X11_ofTeam 22 rfl) rfl ?_
        refine mm_iload_n C (mm_dec dk_X11_ofTeam 23 rfl) rfl ?_
        refine mm_cVv (rest := []) C1 ev_X11_282 (mm_dec dk_X11_ofTeam 24 rfl) (c_X11_needSecond_q x.2.1 hl (d - 1) (by omega) h i0 p3) rfl rfl (Nat.le_of_ble_eq_true rfl) ⟨by decide, by decide⟩ rfl (fun h48c hp48 => ?_) (fun E hx q => mm_out C T htb (by decide) (by decide) (by obtain ⟨q1, q2⟩ := q; exact Or.inr ⟨q1, by omega⟩))
        obtain ⟨z48, k48_0, k48_1⟩ := hp48
        rw [z48]
        have g8 : 0 ≤ (h.1 0 13) ∧ (h.1 0 13) ≤ 99999 := i0.1 0 13
        refine mm_iload_n C (mm_dec dk_X11_ofTeam 25 rfl) rfl ?_
        refine mm_iconst C (mm_dec dk_X11_ofTeam 26 rfl) ⟨by decide, by decide⟩ ?_
        refine mm_icmp_ne (tgt := 66) C (mm_dec dk_X11_ofTeam 27 rfl) (by decide) (fun c53 => ?_) (fun c53 => ?_)
        · skip
          refine mm_aload_n C (mm_dec dk_X11_ofTeam 34 rfl) rfl ?_
          refine mm_getr (t := 46) C fl_X11_60 (mm_dec dk_X11_ofTeam 35 rfl) rfl rfl (mm_ref i0 rfl) ?_
          refine mm_iload_n C (mm_dec dk_X11_ofTeam 36 rfl) rfl ?_
          refine mm_iload_n C (mm_dec dk_X11_ofTeam 37 rfl) rfl ?_
          refine mm_cVi (rest := []) C1 ev_X11_302 (mm_dec dk_X11_ofTeam 38 rfl) (c_X4_lookAtTeam_q x.2.1 hl (d - 1) (by omega) h i0 p1 p3 ⟨by omega, by omega⟩) rfl rfl (Nat.le_of_ble_eq_true rfl) ⟨by decide, by decide⟩ rfl (fun r72 h72c hp72 => ?_) (fun _ _ q => q.elim)
          obtain ⟨b72, i72c, g72c, y72_0⟩ := hp72
          have f72c : mm_fr [(42, 4), (42, 5), (42, 6), (46, 5), (46, 6), (46, 7), (46, 8), (46, 9), (46, 10), (46, 11), (48, 8), (48, 9)] [45, 47, 49, 50, 51, 52, 53] h h72c := mm_fr_tr f0 g72c (by decide +kernel)
          have q72c_10 : h72c.1 0 13 = h.1 0 13 := g72c.1 0 13 (by decide)
          have q72c_11 : h72c.1 22 9 = h.1 22 9 := g72c.1 22 9 (by decide)
          have g12 : -2147483648 ≤ (h72c.1 46 11) ∧ (h72c.1 46 11) ≤ 2147483647 := i72c.1 46 11
          have J91 : ∀ (s91_0 : Int) (bs91_0 : -2147483648 ≤ s91_0 ∧ s91_0 ≤ 2147483647) (w91_0 : ((r72 = 1 ∧ s91_0 = h72c.1 46 11) ∨ (r72 = 0 ∧ s91_0 = -100000))), mm_W x 1 6 91 [mU, mU, mU, mU] [mI s91_0] h72c := by
            intro s91_0 bs91_0 w91_0
            exact mm_iret C T (mm_dec dk_X11_ofTeam 45 rfl) (by decide : 1 ≤ 1) (by decide : 6 ≤ 6) ⟨_, rfl, ⟨⟨by omega, by omega⟩, i72c, f72c, by omega, by first | exact Or.inl ⟨by omega, y62_0⟩ | exact Or.inr ⟨by omega, r72, _, y72_0, w91_0⟩⟩⟩
          refine mm_if_eq (tgt := 88) C (mm_dec dk_X11_ofTeam 39 rfl) (by decide) (fun c75 => ?_) (fun c75 => ?_)
          · skip
            refine mm_ldcw (z := -100000) C (mm_dec dk_X11_ofTeam 44 rfl) kc_X11_308 (by decide) ?_
            refine mm_fgt 0 ?_
            refine mm_fgt 1 ?_
            refine mm_fgt 2 ?_
            refine mm_fgt 3 ?_
            exact J91 (-100000) ⟨by omega, by omega⟩ (by omega)
          · skip
            refine mm_aload_n C (mm_dec dk_X11_ofTeam 40 rfl) rfl ?_
            refine mm_getr (t := 46) C fl_X11_60 (mm_dec dk_X11_ofTeam 41 rfl) rfl rfl (mm_ref i72c rfl) ?_
            refine mm_cVi (rest := []) C1 ev_X11_305 (mm_dec dk_X11_ofTeam 42 rfl) (c_X4_teamTime x.2.1 hl (d - 1) (by omega) h72c i72c ) rfl rfl (Nat.le_of_ble_eq_true rfl) ⟨by decide, by decide⟩ rfl (fun r82 h82c hp82 => ?_) (fun _ _ q => q.elim)
            obtain ⟨z82, y82⟩ := hp82
            rw [z82, y82]
            refine mm_goto (tgt := 91) C (mm_dec dk_X11_ofTeam 43 rfl) (by decide) ?_
            refine mm_fgt 0 ?_
            refine mm_fgt 1 ?_
            refine mm_fgt 2 ?_
            refine mm_fgt 3 ?_
            exact J91 (h72c.1 46 11) ⟨by omega, by omega⟩ (by omega)
        · skip
          refine mm_aload_n C (mm_dec dk_X11_ofTeam 28 rfl) rfl ?_
          refine mm_getr (t := 46) C fl_X11_60 (mm_dec dk_X11_ofTeam 29 rfl) rfl rfl (mm_ref i0 rfl) ?_
          refine mm_iload_n C (mm_dec dk_X11_ofTeam 30 rfl) rfl ?_
          refine mm_iload_n C (mm_dec dk_X11_ofTeam 31 rfl) rfl ?_
          refine mm_cVi (rest := []) C1 ev_X11_299 (mm_dec dk_X11_ofTeam 32 rfl) (c_X4_placeOfTeam_q x.2.1 hl (d - 1) (by omega) h i0 p1 p3 ⟨by omega, by omega⟩) rfl rfl (Nat.le_of_ble_eq_true rfl) ⟨by decide, by decide⟩ rfl (fun r62 h62c hp62 => ?_) (fun _ _ q => q.elim)
          obtain ⟨b62, i62c, g62c, y62_0⟩ := hp62
          have f62c : mm_fr [(42, 4), (42, 5), (42, 6), (46, 5), (46, 6), (46, 7), (46, 8), (46, 9), (46, 10), (46, 11), (48, 8), (48, 9)] [45, 47, 49, 50, 51, 52, 53] h h62c := mm_fr_tr f0 g62c (by decide +kernel)
          have q62c_15 : h62c.1 0 13 = h.1 0 13 := g62c.1 0 13 (by decide)
          have q62c_16 : h62c.1 22 9 = h.1 22 9 := g62c.1 22 9 (by decide)
          have g17 : -2147483648 ≤ (h62c.1 46 11) ∧ (h62c.1 46 11) ≤ 2147483647 := i62c.1 46 11
          exact mm_iret C T (mm_dec dk_X11_ofTeam 33 rfl) (by decide : 1 ≤ 1) (by decide : 6 ≤ 6) ⟨_, rfl, ⟨⟨by omega, by omega⟩, i62c, f62c, by omega, by first | exact Or.inl ⟨by omega, y62_0⟩ | exact Or.inr ⟨by omega, r72, _, y72_0, w91_0⟩⟩⟩
      · skip
        exact mm_throwXW C8 T htb th_nse (i := 11) rfl (mm_dec dk_X11_ofTeam 17 rfl) (mm_dec dk_X11_ofTeam 18 rfl) (mm_dec dk_X11_ofTeam 19 rfl) (mm_dec dk_X11_ofTeam 20 rfl) (mm_dec dk_X11_ofTeam 21 rfl) (Nat.le_of_ble_eq_true rfl) ⟨by decide, by decide⟩ ⟨by decide, by decide⟩ (Or.inl ⟨⟨rfl, rfl⟩, by omega⟩)
    · skip
      refine mm_fgt 0 ?_
      refine mm_fgt 1 ?_
      refine mm_fgt 2 ?_
      refine mm_fgt 3 ?_
      exact J15 (by omega)
