def mm_xn (h : mH) : String → mH → Prop := fun E h' => E = "java/util/NoSuchElementException" ∧ h' = h
def mm_xi (h : mH) : String → mH → Prop := fun E h' => E = "java/lang/IllegalArgumentException" ∧ h' = h
set_option maxRecDepth 100000 in
set_option maxHeartbeats 4000000 in
theorem c_X11_takes_e (l : Launch) (hl : l.stackTraces = false) (d : Nat) (hd : 8 ≤ d) (h : mH) (i0 : mm_inv h) (p1 : Int) (p2 : Int) : mm_Met l d yX11_takes cX11_takes 4 (some .boolean) [mR 0, mI p1, mI p2] h (mm_pi fun r h2 => (0 ≤ r ∧ r ≤ 1) ∧ mm_inv h2 ∧ mm_fr [] [6] h h2) (mm_xn h) 1 6 := by
  refine mm_ofW (ls := [mR 0, mI p1, mI p2, mU]) hl (by decide) rfl (Nat.le_of_ble_eq_true rfl) ?_
  intro x hxl C T hnm htb
  subst hxl
  have C1 := mm_OK_le (d' := d - 1 + 1) (by omega) C
  have C8 := mm_OK_le (d' := d - 8 + 8) (by omega) C
  refine mm_rng (fun hr _ => ?_)
  have ap1 : -2147483648 ≤ p1 ∧ p1 < 2147483648 := mm_ok_at hr (i := 1) rfl
  have ap2 : -2147483648 ≤ p2 ∧ p2 < 2147483648 := mm_ok_at hr (i := 2) rfl
  have f0 : mm_fr [] [6] h h := mm_fr_rf
  refine mm_iload_n C (mm_dec dk_X11_takes 0 rfl) rfl ?_
  refine mm_iconst C (mm_dec dk_X11_takes 1 rfl) ⟨by decide, by decide⟩ ?_
  refine mm_bipush C (mm_dec dk_X11_takes 2 rfl) ⟨by decide, by decide⟩ ?_
  refine mm_cSi (rest := []) C1 es_X11_130 (mm_dec dk_X11_takes 3 rfl) (c_X11_within x.2.1 hl (d - 1) (by omega) h i0 p1 0 8) rfl (Nat.le_of_ble_eq_true rfl) ⟨by decide, by decide⟩ rfl (fun r4 h4c hp4 => ?_) (fun _ _ q => q.elim)
  obtain ⟨z4, y4⟩ := hp4
  rw [z4]
  refine mm_if_ne (tgt := 20) C (mm_dec dk_X11_takes 4 rfl) (by decide) (fun c7 => ?_) (fun c7 => ?_)
  · skip
    refine mm_iload_n C (mm_dec dk_X11_takes 10 rfl) rfl ?_
    refine mm_bipush C (mm_dec dk_X11_takes 11 rfl) ⟨by decide, by decide⟩ ?_
    have J33 : ∀ (s33_0 : Int) (bs33_0 : 9 ≤ s33_0 ∧ s33_0 ≤ 99) (vs33_0 : (p1 = 8 ∧ s33_0 = 9) ∨ (p1 ≠ 8 ∧ s33_0 = 99)), mm_W x 0 0 33 [mR 0, mI p1, mI p2, mU] [mI s33_0] h := by
      intro s33_0 bs33_0 vs33_0
      refine mm_istore_nL (ls2 := [mR 0, mI p1, mI p2, mI s33_0]) C (mm_dec dk_X11_takes 16 rfl) (by decide) rfl ?_
      refine mm_aload_n C (mm_dec dk_X11_takes 17 rfl) rfl ?_
      refine mm_cVi (rest := []) C1 ev_X11_126 (mm_dec dk_X11_takes 18 rfl) (c_X11_landIsFixed x.2.1 hl (d - 1) (by omega) h i0 ) rfl rfl (Nat.le_of_ble_eq_true rfl) ⟨by decide, by decide⟩ rfl (fun r35 h35c hp35 => ?_) (fun _ _ q => q.elim)
      obtain ⟨z35, y35⟩ := hp35
      rw [z35]
      have g3 : 0 ≤ (h.1 22 8) ∧ (h.1 22 8) ≤ 40 := i0.1 22 8
      have J50 : mm_W x 0 0 50 [mU, mU, mU, mU] [] h := by
        refine mm_iconst C (mm_dec dk_X11_takes 25 rfl) ⟨by decide, by decide⟩ ?_
        exact mm_zret C T (mm_dec dk_X11_takes 26 rfl) (by decide : 0 ≤ 1) (by decide : 0 ≤ 6) (by omega) ⟨_, rfl, ⟨⟨by omega, by omega⟩, i0, f0⟩⟩
      refine mm_if_ne (tgt := 50) C (mm_dec dk_X11_takes 19 rfl) (by decide) (fun c38 => ?_) (fun c38 => ?_)
      · skip
        refine mm_fgt 0 ?_
        refine mm_fgt 1 ?_
        refine mm_fgt 2 ?_
        refine mm_fgt 3 ?_
        exact J50
      · skip
        refine mm_iload_n C (mm_dec dk_X11_takes 20 rfl) rfl ?_
        refine mm_iconst C (mm_dec dk_X11_takes 21 rfl) ⟨by decide, by decide⟩ ?_
        refine mm_iload_n C (mm_dec dk_X11_takes 22 rfl) rfl ?_
        refine mm_cSi (rest := []) C1 es_X11_130 (mm_dec dk_X11_takes 23 rfl) (c_X11_within x.2.1 hl (d - 1) (by omega) h i0 p2 0 s33_0) rfl (Nat.le_of_ble_eq_true rfl) ⟨by decide, by decide⟩ rfl (fun r44 h44c hp44 => ?_) (fun _ _ q => q.elim)
        obtain ⟨z44, y44⟩ := hp44
        rw [z44]
        refine mm_if_ne (tgt := 52) C (mm_dec dk_X11_takes 24 rfl) (by decide) (fun c47 => ?_) (fun c47 => ?_)
        · skip
          refine mm_iload_n C (mm_dec dk_X11_takes 27 rfl) rfl ?_
          refine mm_bipush C (mm_dec dk_X11_takes 28 rfl) ⟨by decide, by decide⟩ ?_
          have J72 : mm_W x 0 0 72 [mR 0, mI p1, mI p2, mU] [] h := by
            refine mm_aload_n C (mm_dec dk_X11_takes 38 rfl) rfl ?_
            refine mm_getr (t := 1) C fl_X11_12 (mm_dec dk_X11_takes 39 rfl) rfl rfl (mm_ref i0 rfl) ?_
            refine mm_iload_n C (mm_dec dk_X11_takes 40 rfl) rfl ?_
            refine mm_iload_n C (mm_dec dk_X11_takes 41 rfl) rfl ?_
            refine mm_cVv (rest := []) C1 ev_X11_155 (mm_dec dk_X11_takes 42 rfl) (c_X5_price x.2.1 hl (d - 1) (by omega) h i0 p1 p2 ⟨by omega, by omega⟩ ⟨by omega, by omega⟩) rfl rfl (Nat.le_of_ble_eq_true rfl) ⟨by decide, by decide⟩ rfl (fun h78c hp78 => ?_) (fun _ _ q => q.elim)
            obtain ⟨i78c, g78c⟩ := hp78
            have f78c : mm_fr [] [6] h h78c := mm_fr_tr f0 g78c (by decide +kernel)
            have q78c_6 : h78c.1 22 8 = h.1 22 8 := g78c.1 22 8 (by decide)
            refine mm_iconst C (mm_dec dk_X11_takes 43 rfl) ⟨by decide, by decide⟩ ?_
            exact mm_zret C T (mm_dec dk_X11_takes 44 rfl) (by decide : 0 ≤ 1) (by decide : 0 ≤ 6) (by omega) ⟨_, rfl, ⟨⟨by omega, by omega⟩, i78c, f78c⟩⟩
          refine mm_icmp_eq (tgt := 72) C (mm_dec dk_X11_takes 29 rfl) (by decide) (fun c55 => ?_) (fun c55 => ?_)
          · skip
            refine mm_fgt 3 ?_
            exact J72
          · skip
            refine mm_iload_n C (mm_dec dk_X11_takes 30 rfl) rfl ?_
            refine mm_if_ne (tgt := 72) C (mm_dec dk_X11_takes 31 rfl) (by decide) (fun c59 => ?_) (fun c59 => ?_)
            · skip
              refine mm_fgt 3 ?_
              exact J72
            · skip
              refine mm_aload_n C (mm_dec dk_X11_takes 32 rfl) rfl ?_
              refine mm_iload_n C (mm_dec dk_X11_takes 33 rfl) rfl ?_
              refine mm_cVi (rest := []) C1 ev_X11_152 (mm_dec dk_X11_takes 34 rfl) (c_X11_postStandsOn x.2.1 hl (d - 1) (by omega) h i0 p1) rfl rfl (Nat.le_of_ble_eq_true rfl) ⟨by decide, by decide⟩ rfl (fun r64 h64c hp64 => ?_) (fun _ _ q => q.elim)
              obtain ⟨b64, z64⟩ := hp64
              rw [z64]
              refine mm_if_eq (tgt := 72) C (mm_dec dk_X11_takes 35 rfl) (by decide) (fun c67 => ?_) (fun c67 => ?_)
              · skip
                refine mm_fgt 3 ?_
                exact J72
              · skip
                refine mm_iconst C (mm_dec dk_X11_takes 36 rfl) ⟨by decide, by decide⟩ ?_
                exact mm_zret C T (mm_dec dk_X11_takes 37 rfl) (by decide : 0 ≤ 1) (by decide : 0 ≤ 6) (by omega) ⟨_, rfl, ⟨⟨by omega, by omega⟩, i0, f0⟩⟩
        · skip
          refine mm_fgt 0 ?_
          refine mm_fgt 1 ?_
          refine mm_fgt 2 ?_
          refine mm_fgt 3 ?_
          exact J50
    refine mm_icmp_ne (tgt := 31) C (mm_dec dk_X11_takes 12 rfl) (by decide) (fun c23 => ?_) (fun c23 => ?_)
    · skip
      refine mm_bipush C (mm_dec dk_X11_takes 15 rfl) ⟨by decide, by decide⟩ ?_
      exact J33 99 ⟨by omega, by omega⟩ (Or.inr (⟨by omega, rfl⟩))
    · skip
      refine mm_bipush C (mm_dec dk_X11_takes 13 rfl) ⟨by decide, by decide⟩ ?_
      refine mm_goto (tgt := 33) C (mm_dec dk_X11_takes 14 rfl) (by decide) ?_
      exact J33 9 ⟨by omega, by omega⟩ (Or.inl ⟨by omega, rfl⟩)
  · skip
    exact mm_throwX C8 T htb th_nse (i := 1) rfl (mm_dec dk_X11_takes 5 rfl) (mm_dec dk_X11_takes 6 rfl) (mm_dec dk_X11_takes 7 rfl) (mm_dec dk_X11_takes 8 rfl) (mm_dec dk_X11_takes 9 rfl) (Nat.le_of_ble_eq_true rfl) ⟨by decide, by decide⟩ ⟨by decide, by decide⟩ (⟨rfl, rfl⟩)
set_option maxRecDepth 100000 in
set_option maxHeartbeats 4000000 in
theorem c_X11_move_e (l : Launch) (hl : l.stackTraces = false) (d : Nat) (hd : 8 ≤ d) (h : mH) (i0 : mm_inv h) (p1 : Int) : mm_Met l d yX11_move cX11_move 3 (some .int) [mR 0, mI p1] h (mm_pi fun r h2 => h2 = h ∧ (((h.1 7 9) ≠ (-1) ∧ p1 ≠ (-1) ∧ 0 ≤ p1 ∧ p1 < (h.1 7 9) ∧ r = (h.2.1 13 p1)) ∨ ((h.1 7 9) ≠ (-1) ∧ p1 = (-1) ∧ r = (h.1 7 9)))) (mm_xn h) 1 6 := by
  refine mm_ofW (ls := [mR 0, mI p1, mU]) hl (by decide) rfl (Nat.le_of_ble_eq_true rfl) ?_
  intro x hxl C T hnm htb
  subst hxl
  have C1 := mm_OK_le (d' := d - 1 + 1) (by omega) C
  have C8 := mm_OK_le (d' := d - 8 + 8) (by omega) C
  refine mm_rng (fun hr _ => ?_)
  have ap1 : -2147483648 ≤ p1 ∧ p1 < 2147483648 := mm_ok_at hr (i := 1) rfl
  have f0 : mm_fr [] [] h h := mm_fr_rf
  refine mm_aload_n C (mm_dec dk_X11_move 0 rfl) rfl ?_
  refine mm_getr (t := 7) C fl_X11_21 (mm_dec dk_X11_move 1 rfl) rfl rfl (mm_ref i0 rfl) ?_
  refine mm_cVi (rest := []) C1 ev_X11_175 (mm_dec dk_X11_move 2 rfl) (c_X10_keptMoves x.2.1 hl (d - 1) (by omega) h i0 ) rfl rfl (Nat.le_of_ble_eq_true rfl) ⟨by decide, by decide⟩ rfl (fun r4 h4c hp4 => ?_) (fun _ _ q => q.elim)
  obtain ⟨z4, y4⟩ := hp4
  rw [z4, y4]
  have g2 : -1 ≤ (h.1 7 9) ∧ (h.1 7 9) ≤ 400 := i0.1 7 9
  refine mm_istore_nL (ls2 := [mR 0, mI p1, mI (h.1 7 9)]) C (mm_dec dk_X11_move 3 rfl) (by decide) rfl ?_
  refine mm_iload_n C (mm_dec dk_X11_move 4 rfl) rfl ?_
  refine mm_iconst C (mm_dec dk_X11_move 5 rfl) ⟨by decide, by decide⟩ ?_
  refine mm_icmp_ne (tgt := 23) C (mm_dec dk_X11_move 6 rfl) (by decide) (fun c10 => ?_) (fun c10 => ?_)
  · skip
    refine mm_iload_n C (mm_dec dk_X11_move 12 rfl) rfl ?_
    refine mm_iconst C (mm_dec dk_X11_move 13 rfl) ⟨by decide, by decide⟩ ?_
    refine mm_icmp_ne (tgt := 30) C (mm_dec dk_X11_move 14 rfl) (by decide) (fun c25 => ?_) (fun c25 => ?_)
    · skip
      refine mm_iload_n C (mm_dec dk_X11_move 17 rfl) rfl ?_
      refine mm_if_lt (tgt := 39) C (mm_dec dk_X11_move 18 rfl) (by decide) (fun c31 => ?_) (fun c31 => ?_)
      · skip
        exact mm_throwX C8 T htb th_nse (i := 3) rfl (mm_dec dk_X11_move 22 rfl) (mm_dec dk_X11_move 23 rfl) (mm_dec dk_X11_move 24 rfl) (mm_dec dk_X11_move 25 rfl) (mm_dec dk_X11_move 26 rfl) (Nat.le_of_ble_eq_true rfl) ⟨by decide, by decide⟩ ⟨by decide, by decide⟩ (⟨rfl, rfl⟩)
      · skip
        refine mm_iload_n C (mm_dec dk_X11_move 19 rfl) rfl ?_
        refine mm_iload_n C (mm_dec dk_X11_move 20 rfl) rfl ?_
        refine mm_icmp_lt (tgt := 49) C (mm_dec dk_X11_move 21 rfl) (by decide) (fun c36 => ?_) (fun c36 => ?_)
        · skip
          refine mm_aload_n C (mm_dec dk_X11_move 27 rfl) rfl ?_
          refine mm_getr (t := 7) C fl_X11_21 (mm_dec dk_X11_move 28 rfl) rfl rfl (mm_ref i0 rfl) ?_
          refine mm_iload_n C (mm_dec dk_X11_move 29 rfl) rfl ?_
          refine mm_cVi (rest := []) C1 ev_X11_183 (mm_dec dk_X11_move 30 rfl) (c_X10_keptMove x.2.1 hl (d - 1) (by omega) h i0 p1 ⟨by omega, by omega⟩) rfl rfl (Nat.le_of_ble_eq_true rfl) ⟨by decide, by decide⟩ rfl (fun r54 h54c hp54 => ?_) (fun _ _ q => q.elim)
          obtain ⟨z54, y54⟩ := hp54
          rw [z54, y54]
          have g4 : -2147483648 ≤ (h.2.1 13 p1) ∧ (h.2.1 13 p1) ≤ 2147483647 := i0.2.1 13 p1
          exact mm_iret C T (mm_dec dk_X11_move 31 rfl) (by decide : 0 ≤ 1) (by decide : 0 ≤ 6) ⟨_, rfl, ⟨rfl, Or.inl ⟨by omega, by omega, by omega, by omega, rfl⟩⟩⟩
        · skip
          exact mm_throwX C8 T htb th_nse (i := 3) rfl (mm_dec dk_X11_move 22 rfl) (mm_dec dk_X11_move 23 rfl) (mm_dec dk_X11_move 24 rfl) (mm_dec dk_X11_move 25 rfl) (mm_dec dk_X11_move 26 rfl) (Nat.le_of_ble_eq_true rfl) ⟨by decide, by decide⟩ ⟨by decide, by decide⟩ (⟨rfl, rfl⟩)
    · skip
      refine mm_iload_n C (mm_dec dk_X11_move 15 rfl) rfl ?_
      exact mm_iret C T (mm_dec dk_X11_move 16 rfl) (by decide : 0 ≤ 1) (by decide : 0 ≤ 6) ⟨_, rfl, ⟨rfl, Or.inr (⟨by omega, by omega, rfl⟩)⟩⟩
  · skip
    exact mm_throwX C8 T htb th_nse (i := 2) rfl (mm_dec dk_X11_move 7 rfl) (mm_dec dk_X11_move 8 rfl) (mm_dec dk_X11_move 9 rfl) (mm_dec dk_X11_move 10 rfl) (mm_dec dk_X11_move 11 rfl) (Nat.le_of_ble_eq_true rfl) ⟨by decide, by decide⟩ ⟨by decide, by decide⟩ (⟨rfl, rfl⟩)
set_option maxRecDepth 100000 in
set_option maxHeartbeats 4000000 in
theorem c_X11_go_e (l : Launch) (hl : l.stackTraces = false) (d : Nat) (hd : 8 ≤ d) (h : mH) (i0 : mm_inv h) (p1 : Int) : mm_Met l d yX11_go cX11_go 2 (some .int) [mR 0, mI p1] h (mm_pi fun r h2 => (0 ≤ r ∧ r ≤ 99999) ∧ mm_inv h2 ∧ mm_fr [(0, 13)] [] h h2) (mm_xi h) 1 6 := by
  refine mm_ofW (ls := [mR 0, mI p1]) hl (by decide) rfl (Nat.le_of_ble_eq_true rfl) ?_
  intro x hxl C T hnm htb
  subst hxl
  have C1 := mm_OK_le (d' := d - 1 + 1) (by omega) C
  have C8 := mm_OK_le (d' := d - 8 + 8) (by omega) C
  refine mm_rng (fun hr _ => ?_)
  have ap1 : -2147483648 ≤ p1 ∧ p1 < 2147483648 := mm_ok_at hr (i := 1) rfl
  have f0 : mm_fr [(0, 13)] [] h h := mm_fr_rf
  refine mm_iload_n C (mm_dec dk_X11_go 0 rfl) rfl ?_
  have J16 : mm_W x 0 0 16 [mU, mU] [] h := by
    exact mm_throwXW C8 T htb th_iae (i := 8) rfl (mm_dec dk_X11_go 8 rfl) (mm_dec dk_X11_go 9 rfl) (mm_dec dk_X11_go 10 rfl) (mm_dec dk_X11_go 11 rfl) (mm_dec dk_X11_go 12 rfl) (Nat.le_of_ble_eq_true rfl) ⟨by decide, by decide⟩ ⟨by decide, by decide⟩ (⟨rfl, rfl⟩)
  refine mm_if_lt (tgt := 16) C (mm_dec dk_X11_go 1 rfl) (by decide) (fun c1 => ?_) (fun c1 => ?_)
  · skip
    refine mm_fgt 0 ?_
    refine mm_fgt 1 ?_
    exact J16
  · skip
    refine mm_iload_n C (mm_dec dk_X11_go 2 rfl) rfl ?_
    refine mm_ldcw (z := 99999) C (mm_dec dk_X11_go 3 rfl) kc_X11_260 (by decide) ?_
    refine mm_aload_n C (mm_dec dk_X11_go 4 rfl) rfl ?_
    refine mm_geti C fl_X11_102 (mm_dec dk_X11_go 5 rfl) rfl rfl (Or.inl rfl) ?_
    have g1 : 0 ≤ (h.1 0 13) ∧ (h.1 0 13) ≤ 99999 := i0.1 0 13
    refine mm_isub C (mm_dec dk_X11_go 6 rfl) ⟨by omega, by omega⟩ ?_
    refine mm_icmp_le (tgt := 27) C (mm_dec dk_X11_go 7 rfl) (by decide) (fun c13 => ?_) (fun c13 => ?_)
    · skip
      refine mm_aload_n C (mm_dec dk_X11_go 13 rfl) rfl ?_
      refine mm_dup C (mm_dec dk_X11_go 14 rfl) (show (2 : Nat) ≠ 1 by decide) ?_
      refine mm_geti C fl_X11_102 (mm_dec dk_X11_go 15 rfl) rfl rfl (Or.inl rfl) ?_
      refine mm_iload_n C (mm_dec dk_X11_go 16 rfl) rfl ?_
      refine mm_iadd C (mm_dec dk_X11_go 17 rfl) ⟨by omega, by omega⟩ ?_
      refine mm_puti C fl_X11_102 (mm_dec dk_X11_go 18 rfl) rfl rfl rfl (Or.inl ⟨rfl, rfl⟩) ?_
      have i1 : mm_inv (mm_pf h 0 13 ((h.1 0 13) + p1)) := mm_inv_pf i0 (show 0 ≤ ((h.1 0 13) + p1) ∧ ((h.1 0 13) + p1) ≤ 99999 from ⟨by omega, by omega⟩) (by decide)
      have f1 : mm_fr [(0, 13)] [] h (mm_pf h 0 13 ((h.1 0 13) + p1)) := mm_fr_pf f0 (by decide)
      obtain ⟨h1, eh1⟩ : ∃ z, z = mm_pf h 0 13 ((h.1 0 13) + p1) := ⟨_, rfl⟩
      rw [← eh1] at i1 f1 ⊢
      have qh1 : h1.1 0 13 = ((h.1 0 13) + p1) := by rw [eh1]; exact mm_pf_same _ _ _ _
      refine mm_aload_n C (mm_dec dk_X11_go 19 rfl) rfl ?_
      refine mm_geti C fl_X11_102 (mm_dec dk_X11_go 20 rfl) rfl rfl (Or.inl rfl) ?_
      exact mm_iret C T (mm_dec dk_X11_go 21 rfl) (by decide : 0 ≤ 1) (by decide : 0 ≤ 6) ⟨_, rfl, ⟨⟨by omega, by omega⟩, i1, f1⟩⟩
    · skip
      refine mm_fgt 0 ?_
      refine mm_fgt 1 ?_
      exact J16
set_option maxRecDepth 100000 in
set_option maxHeartbeats 4000000 in
theorem c_X11_back_e (l : Launch) (hl : l.stackTraces = false) (d : Nat) (hd : 8 ≤ d) (h : mH) (i0 : mm_inv h) (p1 : Int) : mm_Met l d yX11_back cX11_back 2 (some .boolean) [mR 0, mI p1] h (mm_pi fun r h2 => (0 ≤ r ∧ r ≤ 1) ∧ mm_inv h2 ∧ mm_fr [] [36] h h2) (mm_xn h) 1 6 := by
  refine mm_ofW (ls := [mR 0, mI p1]) hl (by decide) rfl (Nat.le_of_ble_eq_true rfl) ?_
  intro x hxl C T hnm htb
  subst hxl
  have C1 := mm_OK_le (d' := d - 1 + 1) (by omega) C
  have C8 := mm_OK_le (d' := d - 8 + 8) (by omega) C
  refine mm_rng (fun hr _ => ?_)
  have ap1 : -2147483648 ≤ p1 ∧ p1 < 2147483648 := mm_ok_at hr (i := 1) rfl
  have f0 : mm_fr [] [36] h h := mm_fr_rf
  refine mm_iload_n C (mm_dec dk_X11_back 0 rfl) rfl ?_
  have J15 : mm_W x 0 0 15 [mU, mU] [] h := by
    exact mm_throwXW C8 T htb th_nse (i := 10) rfl (mm_dec dk_X11_back 7 rfl) (mm_dec dk_X11_back 8 rfl) (mm_dec dk_X11_back 9 rfl) (mm_dec dk_X11_back 10 rfl) (mm_dec dk_X11_back 11 rfl) (Nat.le_of_ble_eq_true rfl) ⟨by decide, by decide⟩ ⟨by decide, by decide⟩ (⟨rfl, rfl⟩)
  refine mm_if_lt (tgt := 15) C (mm_dec dk_X11_back 1 rfl) (by decide) (fun c1 => ?_) (fun c1 => ?_)
  · skip
    refine mm_fgt 0 ?_
    refine mm_fgt 1 ?_
    exact J15
  · skip
    refine mm_iload_n C (mm_dec dk_X11_back 2 rfl) rfl ?_
    refine mm_aload_n C (mm_dec dk_X11_back 3 rfl) rfl ?_
    refine mm_getr (t := 30) C fl_X11_44 (mm_dec dk_X11_back 4 rfl) rfl rfl (mm_ref i0 rfl) ?_
    refine mm_cVi (rest := [mI p1]) C1 ev_X11_268 (mm_dec dk_X11_back 5 rfl) (c_X6_events x.2.1 hl (d - 1) (by omega) h i0 ) rfl rfl (Nat.le_of_ble_eq_true rfl) ⟨by decide, by decide⟩ rfl (fun r9 h9c hp9 => ?_) (fun _ _ q => q.elim)
    obtain ⟨z9, y9⟩ := hp9
    rw [z9, y9]
    have g2 : 0 ≤ (h.1 30 6) ∧ (h.1 30 6) ≤ 500 := i0.1 30 6
    refine mm_icmp_lt (tgt := 26) C (mm_dec dk_X11_back 6 rfl) (by decide) (fun c12 => ?_) (fun c12 => ?_)
    · skip
      refine mm_aload_n C (mm_dec dk_X11_back 12 rfl) rfl ?_
      refine mm_getr (t := 30) C fl_X11_44 (mm_dec dk_X11_back 13 rfl) rfl rfl (mm_ref i0 rfl) ?_
      refine mm_iload_n C (mm_dec dk_X11_back 14 rfl) rfl ?_
      refine mm_aload_n C (mm_dec dk_X11_back 15 rfl) rfl ?_
      refine mm_geti C fl_X11_102 (mm_dec dk_X11_back 16 rfl) rfl rfl (Or.inl rfl) ?_
      have g3 : 0 ≤ (h.1 0 13) ∧ (h.1 0 13) ≤ 99999 := i0.1 0 13
      refine mm_cVi (rest := []) C1 ev_X11_277 (mm_dec dk_X11_back 17 rfl) (c_X6_takeBack x.2.1 hl (d - 1) (by omega) h i0 p1 (h.1 0 13) ⟨by omega, by omega⟩) rfl rfl (Nat.le_of_ble_eq_true rfl) ⟨by decide, by decide⟩ rfl (fun r35 h35c hp35 => ?_) (fun _ _ q => q.elim)
      obtain ⟨b35, i35c, g35c⟩ := hp35
      have f35c : mm_fr [] [36] h h35c := mm_fr_tr f0 g35c (by decide +kernel)
      have q35c_5 : h35c.1 0 13 = h.1 0 13 := g35c.1 0 13 (by decide)
      have q35c_6 : h35c.1 30 6 = h.1 30 6 := g35c.1 30 6 (by decide)
      exact mm_zret C T (mm_dec dk_X11_back 18 rfl) (by decide : 0 ≤ 1) (by decide : 0 ≤ 6) (by omega) ⟨_, rfl, ⟨⟨by omega, by omega⟩, i35c, f35c⟩⟩
    · skip
      refine mm_fgt 0 ?_
      refine mm_fgt 1 ?_
      exact J15
set_option maxRecDepth 100000 in
set_option maxHeartbeats 4000000 in
theorem c_X11_decide_e (l : Launch) (hl : l.stackTraces = false) (d : Nat) (hd : 8 ≤ d) (h : mH) (i0 : mm_inv h) (p1 : Int) (p2 : Int) (p3 : Int) : mm_Met l d yX11_decide cX11_decide 4 (some .boolean) [mR 0, mI p1, mI p2, mI p3] h (mm_pi fun r h2 => (0 ≤ r ∧ r ≤ 1) ∧ mm_inv h2 ∧ mm_fr [(30, 13)] [38, 39, 40, 41] h h2) (mm_xn h) 1 6 := by
  refine mm_ofW (ls := [mR 0, mI p1, mI p2, mI p3]) hl (by decide) rfl (Nat.le_of_ble_eq_true rfl) ?_
  intro x hxl C T hnm htb
  subst hxl
  have C1 := mm_OK_le (d' := d - 1 + 1) (by omega) C
  have C8 := mm_OK_le (d' := d - 8 + 8) (by omega) C
  refine mm_rng (fun hr _ => ?_)
  have ap1 : -2147483648 ≤ p1 ∧ p1 < 2147483648 := mm_ok_at hr (i := 1) rfl
  have ap2 : -2147483648 ≤ p2 ∧ p2 < 2147483648 := mm_ok_at hr (i := 2) rfl
  have ap3 : -2147483648 ≤ p3 ∧ p3 < 2147483648 := mm_ok_at hr (i := 3) rfl
  have f0 : mm_fr [(30, 13)] [38, 39, 40, 41] h h := mm_fr_rf
  refine mm_iload_n C (mm_dec dk_X11_decide 0 rfl) rfl ?_
  have J15 : mm_W x 0 0 15 [mU, mU, mU, mU] [] h := by
    exact mm_throwXW C8 T htb th_nse (i := 16) rfl (mm_dec dk_X11_decide 7 rfl) (mm_dec dk_X11_decide 8 rfl) (mm_dec dk_X11_decide 9 rfl) (mm_dec dk_X11_decide 10 rfl) (mm_dec dk_X11_decide 11 rfl) (Nat.le_of_ble_eq_true rfl) ⟨by decide, by decide⟩ ⟨by decide, by decide⟩ (⟨rfl, rfl⟩)
  refine mm_if_lt (tgt := 15) C (mm_dec dk_X11_decide 1 rfl) (by decide) (fun c1 => ?_) (fun c1 => ?_)
  · skip
    refine mm_fgt 0 ?_
    refine mm_fgt 1 ?_
    refine mm_fgt 2 ?_
    refine mm_fgt 3 ?_
    exact J15
  · skip
    refine mm_iload_n C (mm_dec dk_X11_decide 2 rfl) rfl ?_
    refine mm_aload_n C (mm_dec dk_X11_decide 3 rfl) rfl ?_
    refine mm_getr (t := 30) C fl_X11_44 (mm_dec dk_X11_decide 4 rfl) rfl rfl (mm_ref i0 rfl) ?_
    refine mm_cVi (rest := [mI p1]) C1 ev_X11_327 (mm_dec dk_X11_decide 5 rfl) (c_X6_protests x.2.1 hl (d - 1) (by omega) h i0 ) rfl rfl (Nat.le_of_ble_eq_true rfl) ⟨by decide, by decide⟩ rfl (fun r9 h9c hp9 => ?_) (fun _ _ q => q.elim)
    obtain ⟨z9, y9⟩ := hp9
    rw [z9, y9]
    have g2 : 0 ≤ (h.1 30 12) ∧ (h.1 30 12) ≤ 40 := i0.1 30 12
    refine mm_icmp_lt (tgt := 26) C (mm_dec dk_X11_decide 6 rfl) (by decide) (fun c12 => ?_) (fun c12 => ?_)
    · skip
      refine mm_iload_n C (mm_dec dk_X11_decide 12 rfl) rfl ?_
      refine mm_iconst C (mm_dec dk_X11_decide 13 rfl) ⟨by decide, by decide⟩ ?_
      refine mm_iconst C (mm_dec dk_X11_decide 14 rfl) ⟨by decide, by decide⟩ ?_
      refine mm_cSi (rest := []) C1 es_X11_130 (mm_dec dk_X11_decide 15 rfl) (c_X11_within x.2.1 hl (d - 1) (by omega) h i0 p2 0 2) rfl (Nat.le_of_ble_eq_true rfl) ⟨by decide, by decide⟩ rfl (fun r29 h29c hp29 => ?_) (fun _ _ q => q.elim)
      obtain ⟨z29, y29⟩ := hp29
      rw [z29]
      have J48 : mm_W x 0 0 48 [mU, mU, mU, mU] [] h := by
        refine mm_iconst C (mm_dec dk_X11_decide 22 rfl) ⟨by decide, by decide⟩ ?_
        exact mm_zret C T (mm_dec dk_X11_decide 23 rfl) (by decide : 0 ≤ 1) (by decide : 0 ≤ 6) (by omega) ⟨_, rfl, ⟨⟨by omega, by omega⟩, i0, f0⟩⟩
      refine mm_if_eq (tgt := 48) C (mm_dec dk_X11_decide 16 rfl) (by decide) (fun c32 => ?_) (fun c32 => ?_)
      · skip
        refine mm_fgt 0 ?_
        refine mm_fgt 1 ?_
        refine mm_fgt 2 ?_
        refine mm_fgt 3 ?_
        exact J48
      · skip
        refine mm_iload_n C (mm_dec dk_X11_decide 17 rfl) rfl ?_
        refine mm_sipush C (mm_dec dk_X11_decide 18 rfl) ⟨by decide, by decide⟩ ?_
        refine mm_sipush C (mm_dec dk_X11_decide 19 rfl) ⟨by decide, by decide⟩ ?_
        refine mm_cSi (rest := []) C1 es_X11_130 (mm_dec dk_X11_decide 20 rfl) (c_X11_within x.2.1 hl (d - 1) (by omega) h i0 p3 (-999) 999) rfl (Nat.le_of_ble_eq_true rfl) ⟨by decide, by decide⟩ rfl (fun r42 h42c hp42 => ?_) (fun _ _ q => q.elim)
        obtain ⟨z42, y42⟩ := hp42
        rw [z42]
        refine mm_if_ne (tgt := 50) C (mm_dec dk_X11_decide 21 rfl) (by decide) (fun c45 => ?_) (fun c45 => ?_)
        · skip
          refine mm_aload_n C (mm_dec dk_X11_decide 24 rfl) rfl ?_
          refine mm_getr (t := 30) C fl_X11_44 (mm_dec dk_X11_decide 25 rfl) rfl rfl (mm_ref i0 rfl) ?_
          refine mm_iload_n C (mm_dec dk_X11_decide 26 rfl) rfl ?_
          refine mm_iload_n C (mm_dec dk_X11_decide 27 rfl) rfl ?_
          refine mm_iload_n C (mm_dec dk_X11_decide 28 rfl) rfl ?_
          refine mm_aload_n C (mm_dec dk_X11_decide 29 rfl) rfl ?_
          refine mm_geti C fl_X11_102 (mm_dec dk_X11_decide 30 rfl) rfl rfl (Or.inl rfl) ?_
          have g5 : 0 ≤ (h.1 0 13) ∧ (h.1 0 13) ≤ 99999 := i0.1 0 13
          refine mm_cVi (rest := []) C1 ev_X11_341 (mm_dec dk_X11_decide 31 rfl) (c_X6_settle x.2.1 hl (d - 1) (by omega) h i0 p1 p2 p3 (h.1 0 13) ⟨by omega, by omega⟩) rfl rfl (Nat.le_of_ble_eq_true rfl) ⟨by decide, by decide⟩ rfl (fun r61 h61c hp61 => ?_) (fun _ _ q => q.elim)
          obtain ⟨b61, i61c, g61c⟩ := hp61
          have f61c : mm_fr [(30, 13)] [38, 39, 40, 41] h h61c := mm_fr_tr f0 g61c (by decide +kernel)
          have q61c_7 : h61c.1 0 13 = h.1 0 13 := g61c.1 0 13 (by decide)
          have q61c_8 : h61c.1 30 12 = h.1 30 12 := g61c.1 30 12 (by decide)
          exact mm_zret C T (mm_dec dk_X11_decide 32 rfl) (by decide : 0 ≤ 1) (by decide : 0 ≤ 6) (by omega) ⟨_, rfl, ⟨⟨by omega, by omega⟩, i61c, f61c⟩⟩
        · skip
          refine mm_fgt 0 ?_
          refine mm_fgt 1 ?_
          refine mm_fgt 2 ?_
          refine mm_fgt 3 ?_
          exact J48
    · skip
      refine mm_fgt 0 ?_
      refine mm_fgt 1 ?_
      refine mm_fgt 2 ?_
      refine mm_fgt 3 ?_
      exact J15
set_option maxRecDepth 100000 in
set_option maxHeartbeats 4000000 in
theorem c_X11_bestOf_e (l : Launch) (hl : l.stackTraces = false) (d : Nat) (hd : 8 ≤ d) (h : mH) (i0 : mm_inv h) (p1 : Int) : mm_Met l d yX11_bestOf cX11_bestOf 2 (some .int) [mR 0, mI p1] h (mm_pi fun r h2 => h2 = h ∧ ((0 ≤ p1 ∧ p1 ≤ 1 ∧ 1 ≠ 0 ∧ (h.1 58 10) ≠ 0 ∧ p1 ≠ 0 ∧ r = (h.1 58 8)) ∨ (0 ≤ p1 ∧ p1 ≤ 1 ∧ 1 ≠ 0 ∧ (h.1 58 10) ≠ 0 ∧ p1 = 0 ∧ r = (h.1 58 9)))) (mm_xn h) 1 6 := by
  refine mm_ofW (ls := [mR 0, mI p1]) hl (by decide) rfl (Nat.le_of_ble_eq_true rfl) ?_
  intro x hxl C T hnm htb
  subst hxl
  have C1 := mm_OK_le (d' := d - 1 + 1) (by omega) C
  have C8 := mm_OK_le (d' := d - 8 + 8) (by omega) C
  refine mm_rng (fun hr _ => ?_)
  have ap1 : -2147483648 ≤ p1 ∧ p1 < 2147483648 := mm_ok_at hr (i := 1) rfl
  have f0 : mm_fr [] [] h h := mm_fr_rf
  refine mm_iload_n C (mm_dec dk_X11_bestOf 0 rfl) rfl ?_
  refine mm_iconst C (mm_dec dk_X11_bestOf 1 rfl) ⟨by decide, by decide⟩ ?_
  refine mm_iconst C (mm_dec dk_X11_bestOf 2 rfl) ⟨by decide, by decide⟩ ?_
  refine mm_cSi (rest := []) C1 es_X11_130 (mm_dec dk_X11_bestOf 3 rfl) (c_X11_within x.2.1 hl (d - 1) (by omega) h i0 p1 0 1) rfl (Nat.le_of_ble_eq_true rfl) ⟨by decide, by decide⟩ rfl (fun r3 h3c hp3 => ?_) (fun _ _ q => q.elim)
  obtain ⟨z3, y3⟩ := hp3
  rw [z3]
  rcases y3 with ⟨k3_0, rfl⟩ | ⟨k3_0, k3_1, rfl⟩ | ⟨k3_0, k3_1, rfl⟩
  · skip
    refine mm_if_eq (tgt := 19) C (mm_dec dk_X11_bestOf 4 rfl) (by decide) (fun c6 => ?_) (fun c6 => ?_)
    · skip
      exact mm_throwXW C8 T htb th_nse (i := 18) rfl (mm_dec dk_X11_bestOf 9 rfl) (mm_dec dk_X11_bestOf 10 rfl) (mm_dec dk_X11_bestOf 11 rfl) (mm_dec dk_X11_bestOf 12 rfl) (mm_dec dk_X11_bestOf 13 rfl) (Nat.le_of_ble_eq_true rfl) ⟨by decide, by decide⟩ ⟨by decide, by decide⟩ (⟨rfl, rfl⟩)
    · skip
      exfalso; omega
  · skip
    refine mm_if_eq (tgt := 19) C (mm_dec dk_X11_bestOf 4 rfl) (by decide) (fun c6 => ?_) (fun c6 => ?_)
    · skip
      exact mm_throwXW C8 T htb th_nse (i := 18) rfl (mm_dec dk_X11_bestOf 9 rfl) (mm_dec dk_X11_bestOf 10 rfl) (mm_dec dk_X11_bestOf 11 rfl) (mm_dec dk_X11_bestOf 12 rfl) (mm_dec dk_X11_bestOf 13 rfl) (Nat.le_of_ble_eq_true rfl) ⟨by decide, by decide⟩ ⟨by decide, by decide⟩ (⟨rfl, rfl⟩)
    · skip
      exfalso; omega
  · skip
    refine mm_if_eq (tgt := 19) C (mm_dec dk_X11_bestOf 4 rfl) (by decide) (fun c6 => ?_) (fun c6 => ?_)
    · skip
      exfalso; omega
    · skip
      refine mm_aload_n C (mm_dec dk_X11_bestOf 5 rfl) rfl ?_
      refine mm_getr (t := 58) C fl_X11_78 (mm_dec dk_X11_bestOf 6 rfl) rfl rfl (mm_ref i0 rfl) ?_
      refine mm_cVi (rest := []) C1 ev_X11_360 (mm_dec dk_X11_bestOf 7 rfl) (c_X0_isKept x.2.1 hl (d - 1) (by omega) h i0 ) rfl rfl (Nat.le_of_ble_eq_true rfl) ⟨by decide, by decide⟩ rfl (fun r13 h13c hp13 => ?_) (fun _ _ q => q.elim)
      obtain ⟨z13, y13⟩ := hp13
      rw [z13, y13]
      have g3 : 0 ≤ (h.1 58 10) ∧ (h.1 58 10) ≤ 1 := i0.1 58 10
      refine mm_if_ne (tgt := 30) C (mm_dec dk_X11_bestOf 8 rfl) (by decide) (fun c16 => ?_) (fun c16 => ?_)
      · skip
        refine mm_iload_n C (mm_dec dk_X11_bestOf 14 rfl) rfl ?_
        refine mm_if_ne (tgt := 44) C (mm_dec dk_X11_bestOf 15 rfl) (by decide) (fun c31 => ?_) (fun c31 => ?_)
        · skip
          refine mm_aload_n C (mm_dec dk_X11_bestOf 20 rfl) rfl ?_
          refine mm_getr (t := 58) C fl_X11_78 (mm_dec dk_X11_bestOf 21 rfl) rfl rfl (mm_ref i0 rfl) ?_
          refine mm_cVi (rest := []) C1 ev_X11_368 (mm_dec dk_X11_bestOf 22 rfl) (c_X0_keptSeconds x.2.1 hl (d - 1) (by omega) h i0 ) rfl rfl (Nat.le_of_ble_eq_true rfl) ⟨by decide, by decide⟩ rfl (fun r48 h48c hp48 => ?_) (fun _ _ q => q.elim)
          obtain ⟨z48, y48⟩ := hp48
          rw [z48, y48]
          have g5 : -2147483648 ≤ (h.1 58 8) ∧ (h.1 58 8) ≤ 2147483647 := i0.1 58 8
          exact mm_iret C T (mm_dec dk_X11_bestOf 23 rfl) (by decide : 0 ≤ 1) (by decide : 0 ≤ 6) ⟨_, rfl, ⟨rfl, Or.inl ⟨by omega, by omega, by omega, by omega, by omega, rfl⟩⟩⟩
        · skip
          refine mm_aload_n C (mm_dec dk_X11_bestOf 16 rfl) rfl ?_
          refine mm_getr (t := 58) C fl_X11_78 (mm_dec dk_X11_bestOf 17 rfl) rfl rfl (mm_ref i0 rfl) ?_
          refine mm_cVi (rest := []) C1 ev_X11_365 (mm_dec dk_X11_bestOf 18 rfl) (c_X0_keptSet x.2.1 hl (d - 1) (by omega) h i0 ) rfl rfl (Nat.le_of_ble_eq_true rfl) ⟨by decide, by decide⟩ rfl (fun r38 h38c hp38 => ?_) (fun _ _ q => q.elim)
          obtain ⟨z38, y38⟩ := hp38
          rw [z38, y38]
          have g7 : -2147483648 ≤ (h.1 58 9) ∧ (h.1 58 9) ≤ 2147483647 := i0.1 58 9
          refine mm_goto (tgt := 51) C (mm_dec dk_X11_bestOf 19 rfl) (by decide) ?_
          exact mm_iret C T (mm_dec dk_X11_bestOf 23 rfl) (by decide : 0 ≤ 1) (by decide : 0 ≤ 6) ⟨_, rfl, ⟨rfl, Or.inr (⟨by omega, by omega, by omega, by omega, by omega, rfl⟩)⟩⟩
      · skip
        exact mm_throwXW C8 T htb th_nse (i := 18) rfl (mm_dec dk_X11_bestOf 9 rfl) (mm_dec dk_X11_bestOf 10 rfl) (mm_dec dk_X11_bestOf 11 rfl) (mm_dec dk_X11_bestOf 12 rfl) (mm_dec dk_X11_bestOf 13 rfl) (Nat.le_of_ble_eq_true rfl) ⟨by decide, by decide⟩ ⟨by decide, by decide⟩ (⟨rfl, rfl⟩)
set_option maxRecDepth 100000 in
set_option maxHeartbeats 4000000 in
theorem c_X11_count_e (l : Launch) (hl : l.stackTraces = false) (d : Nat) (hd : 8 ≤ d) (h : mH) (i0 : mm_inv h) (p1 : Int) : mm_Met l d yX11_count cX11_count 2 (some .int) [mR 0, mI p1] h (mm_pi fun r h2 => (-2147483648 ≤ r ∧ r ≤ 2147483647) ∧ h2 = h) (mm_xn h) 1 6 := by
  refine mm_ofW (ls := [mR 0, mI p1]) hl (by decide) rfl (Nat.le_of_ble_eq_true rfl) ?_
  intro x hxl C T hnm htb
  subst hxl
  have C1 := mm_OK_le (d' := d - 1 + 1) (by omega) C
  have C8 := mm_OK_le (d' := d - 8 + 8) (by omega) C
  refine mm_rng (fun hr _ => ?_)
  have ap1 : -2147483648 ≤ p1 ∧ p1 < 2147483648 := mm_ok_at hr (i := 1) rfl
  have f0 : mm_fr [] [] h h := mm_fr_rf
  refine mm_iload_n C (mm_dec dk_X11_count 0 rfl) rfl ?_
  refine mm_table (t0 := 145) [60, 65, 73, 81, 89, 97, 105, 113, 118, 127, 136] C (mm_dec dk_X11_count 1 rfl) (by decide) (by decide) (by decide +kernel) (fun c1 => ?_) (fun k1 hk1 c1 => ?_)
  · skip
    exact mm_throwXW C8 T htb th_nse (i := 19) rfl (mm_dec dk_X11_count 47 rfl) (mm_dec dk_X11_count 48 rfl) (mm_dec dk_X11_count 49 rfl) (mm_dec dk_X11_count 50 rfl) (mm_dec dk_X11_count 51 rfl) (Nat.le_of_ble_eq_true rfl) ⟨by decide, by decide⟩ ⟨by decide, by decide⟩ (⟨rfl, rfl⟩)
  · have hq1 : k1 < 11 := hk1
    rcases (by omega : k1 = 0 ∨ k1 = 1 ∨ k1 = 2 ∨ k1 = 3 ∨ k1 = 4 ∨ k1 = 5 ∨ k1 = 6 ∨ k1 = 7 ∨ k1 = 8 ∨ k1 = 9 ∨ k1 = 10) with rfl | rfl | rfl | rfl | rfl | rfl | rfl | rfl | rfl | rfl | rfl
    · show mm_W x 0 0 60 _ _ _
      refine mm_aload_n C (mm_dec dk_X11_count 2 rfl) rfl ?_
      refine mm_geti C fl_X11_102 (mm_dec dk_X11_count 3 rfl) rfl rfl (Or.inl rfl) ?_
      have g1 : 0 ≤ (h.1 0 13) ∧ (h.1 0 13) ≤ 99999 := i0.1 0 13
      exact mm_iret C T (mm_dec dk_X11_count 4 rfl) (by decide : 0 ≤ 1) (by decide : 0 ≤ 6) ⟨_, rfl, ⟨⟨by omega, by omega⟩, rfl⟩⟩
    · show mm_W x 0 0 65 _ _ _
      refine mm_aload_n C (mm_dec dk_X11_count 5 rfl) rfl ?_
      refine mm_getr (t := 14) C fl_X11_28 (mm_dec dk_X11_count 6 rfl) rfl rfl (mm_ref i0 rfl) ?_
      refine mm_cVi (rest := []) C1 ev_X11_191 (mm_dec dk_X11_count 7 rfl) (c_X2_posts x.2.1 hl (d - 1) (by omega) h i0 ) rfl rfl (Nat.le_of_ble_eq_true rfl) ⟨by decide, by decide⟩ rfl (fun r69 h69c hp69 => ?_) (fun _ _ q => q.elim)
      obtain ⟨z69, y69⟩ := hp69
      rw [z69, y69]
      have g3 : 0 ≤ (h.1 14 7) ∧ (h.1 14 7) ≤ 20 := i0.1 14 7
      exact mm_iret C T (mm_dec dk_X11_count 8 rfl) (by decide : 0 ≤ 1) (by decide : 0 ≤ 6) ⟨_, rfl, ⟨⟨by omega, by omega⟩, rfl⟩⟩
    · show mm_W x 0 0 73 _ _ _
      refine mm_aload_n C (mm_dec dk_X11_count 9 rfl) rfl ?_
      refine mm_getr (t := 14) C fl_X11_28 (mm_dec dk_X11_count 10 rfl) rfl rfl (mm_ref i0 rfl) ?_
      refine mm_cVi (rest := []) C1 ev_X11_200 (mm_dec dk_X11_count 11 rfl) (c_X2_size x.2.1 hl (d - 1) (by omega) h i0 ) rfl rfl (Nat.le_of_ble_eq_true rfl) ⟨by decide, by decide⟩ rfl (fun r77 h77c hp77 => ?_) (fun _ _ q => q.elim)
      obtain ⟨z77, y77⟩ := hp77
      rw [z77, y77]
      have g5 : 0 ≤ (h.1 14 8) ∧ (h.1 14 8) ≤ 8 := i0.1 14 8
      exact mm_iret C T (mm_dec dk_X11_count 12 rfl) (by decide : 0 ≤ 1) (by decide : 0 ≤ 6) ⟨_, rfl, ⟨⟨by omega, by omega⟩, rfl⟩⟩
    · show mm_W x 0 0 81 _ _ _
      refine mm_aload_n C (mm_dec dk_X11_count 13 rfl) rfl ?_
      refine mm_getr (t := 22) C fl_X11_37 (mm_dec dk_X11_count 14 rfl) rfl rfl (mm_ref i0 rfl) ?_
      refine mm_cVi (rest := []) C1 ev_X11_230 (mm_dec dk_X11_count 15 rfl) (c_X9_size x.2.1 hl (d - 1) (by omega) h i0 ) rfl rfl (Nat.le_of_ble_eq_true rfl) ⟨by decide, by decide⟩ rfl (fun r85 h85c hp85 => ?_) (fun _ _ q => q.elim)
      obtain ⟨z85, y85⟩ := hp85
      rw [z85, y85]
      have g7 : 0 ≤ (h.1 22 8) ∧ (h.1 22 8) ≤ 40 := i0.1 22 8
      exact mm_iret C T (mm_dec dk_X11_count 16 rfl) (by decide : 0 ≤ 1) (by decide : 0 ≤ 6) ⟨_, rfl, ⟨⟨by omega, by omega⟩, rfl⟩⟩
    · show mm_W x 0 0 89 _ _ _
      refine mm_aload_n C (mm_dec dk_X11_count 17 rfl) rfl ?_
      refine mm_getr (t := 22) C fl_X11_37 (mm_dec dk_X11_count 18 rfl) rfl rfl (mm_ref i0 rfl) ?_
      refine mm_cVi (rest := []) C1 ev_X11_251 (mm_dec dk_X11_count 19 rfl) (c_X9_teams x.2.1 hl (d - 1) (by omega) h i0 ) rfl rfl (Nat.le_of_ble_eq_true rfl) ⟨by decide, by decide⟩ rfl (fun r93 h93c hp93 => ?_) (fun _ _ q => q.elim)
      obtain ⟨z93, y93⟩ := hp93
      rw [z93, y93]
      have g9 : 0 ≤ (h.1 22 9) ∧ (h.1 22 9) ≤ 10 := i0.1 22 9
      exact mm_iret C T (mm_dec dk_X11_count 20 rfl) (by decide : 0 ≤ 1) (by decide : 0 ≤ 6) ⟨_, rfl, ⟨⟨by omega, by omega⟩, rfl⟩⟩
    · show mm_W x 0 0 97 _ _ _
      refine mm_aload_n C (mm_dec dk_X11_count 21 rfl) rfl ?_
      refine mm_getr (t := 30) C fl_X11_44 (mm_dec dk_X11_count 22 rfl) rfl rfl (mm_ref i0 rfl) ?_
      refine mm_cVi (rest := []) C1 ev_X11_268 (mm_dec dk_X11_count 23 rfl) (c_X6_events x.2.1 hl (d - 1) (by omega) h i0 ) rfl rfl (Nat.le_of_ble_eq_true rfl) ⟨by decide, by decide⟩ rfl (fun r101 h101c hp101 => ?_) (fun _ _ q => q.elim)
      obtain ⟨z101, y101⟩ := hp101
      rw [z101, y101]
      have g11 : 0 ≤ (h.1 30 6) ∧ (h.1 30 6) ≤ 500 := i0.1 30 6
      exact mm_iret C T (mm_dec dk_X11_count 24 rfl) (by decide : 0 ≤ 1) (by decide : 0 ≤ 6) ⟨_, rfl, ⟨⟨by omega, by omega⟩, rfl⟩⟩
    · show mm_W x 0 0 105 _ _ _
      refine mm_aload_n C (mm_dec dk_X11_count 25 rfl) rfl ?_
      refine mm_getr (t := 30) C fl_X11_44 (mm_dec dk_X11_count 26 rfl) rfl rfl (mm_ref i0 rfl) ?_
      refine mm_cVi (rest := []) C1 ev_X11_327 (mm_dec dk_X11_count 27 rfl) (c_X6_protests x.2.1 hl (d - 1) (by omega) h i0 ) rfl rfl (Nat.le_of_ble_eq_true rfl) ⟨by decide, by decide⟩ rfl (fun r109 h109c hp109 => ?_) (fun _ _ q => q.elim)
      obtain ⟨z109, y109⟩ := hp109
      rw [z109, y109]
      have g13 : 0 ≤ (h.1 30 12) ∧ (h.1 30 12) ≤ 40 := i0.1 30 12
      exact mm_iret C T (mm_dec dk_X11_count 28 rfl) (by decide : 0 ≤ 1) (by decide : 0 ≤ 6) ⟨_, rfl, ⟨⟨by omega, by omega⟩, rfl⟩⟩
    · show mm_W x 0 0 113 _ _ _
      refine mm_aload_n C (mm_dec dk_X11_count 29 rfl) rfl ?_
      refine mm_geti C fl_X11_98 (mm_dec dk_X11_count 30 rfl) rfl rfl (Or.inl rfl) ?_
      have g14 : 0 ≤ (h.1 0 12) ∧ (h.1 0 12) ≤ 500 := i0.1 0 12
      exact mm_iret C T (mm_dec dk_X11_count 31 rfl) (by decide : 0 ≤ 1) (by decide : 0 ≤ 6) ⟨_, rfl, ⟨⟨by omega, by omega⟩, rfl⟩⟩
    · show mm_W x 0 0 118 _ _ _
      refine mm_aload_n C (mm_dec dk_X11_count 32 rfl) rfl ?_
      refine mm_getr (t := 42) C fl_X11_51 (mm_dec dk_X11_count 33 rfl) rfl rfl (mm_ref i0 rfl) ?_
      refine mm_iconst C (mm_dec dk_X11_count 34 rfl) ⟨by decide, by decide⟩ ?_
      refine mm_cVi (rest := []) C1 ev_X11_333 (mm_dec dk_X11_count 35 rfl) (c_X8_param x.2.1 hl (d - 1) (by omega) h i0 0 ⟨by omega, by omega⟩) rfl rfl (Nat.le_of_ble_eq_true rfl) ⟨by decide, by decide⟩ rfl (fun r123 h123c hp123 => ?_) (fun _ _ q => q.elim)
      obtain ⟨z123, y123⟩ := hp123
      rw [z123, y123]
      have g16 : -2147483648 ≤ (h.2.1 44 0) ∧ (h.2.1 44 0) ≤ 2147483647 := i0.2.1 44 0
      exact mm_iret C T (mm_dec dk_X11_count 36 rfl) (by decide : 0 ≤ 1) (by decide : 0 ≤ 6) ⟨_, rfl, ⟨⟨by omega, by omega⟩, rfl⟩⟩
    · show mm_W x 0 0 127 _ _ _
      refine mm_aload_n C (mm_dec dk_X11_count 37 rfl) rfl ?_
      refine mm_getr (t := 42) C fl_X11_51 (mm_dec dk_X11_count 38 rfl) rfl rfl (mm_ref i0 rfl) ?_
      refine mm_iconst C (mm_dec dk_X11_count 39 rfl) ⟨by decide, by decide⟩ ?_
      refine mm_cVi (rest := []) C1 ev_X11_333 (mm_dec dk_X11_count 40 rfl) (c_X8_param x.2.1 hl (d - 1) (by omega) h i0 1 ⟨by omega, by omega⟩) rfl rfl (Nat.le_of_ble_eq_true rfl) ⟨by decide, by decide⟩ rfl (fun r132 h132c hp132 => ?_) (fun _ _ q => q.elim)
      obtain ⟨z132, y132⟩ := hp132
      rw [z132, y132]
      have g18 : -2147483648 ≤ (h.2.1 44 1) ∧ (h.2.1 44 1) ≤ 2147483647 := i0.2.1 44 1
      exact mm_iret C T (mm_dec dk_X11_count 41 rfl) (by decide : 0 ≤ 1) (by decide : 0 ≤ 6) ⟨_, rfl, ⟨⟨by omega, by omega⟩, rfl⟩⟩
    · show mm_W x 0 0 136 _ _ _
      refine mm_aload_n C (mm_dec dk_X11_count 42 rfl) rfl ?_
      refine mm_getr (t := 42) C fl_X11_51 (mm_dec dk_X11_count 43 rfl) rfl rfl (mm_ref i0 rfl) ?_
      refine mm_iconst C (mm_dec dk_X11_count 44 rfl) ⟨by decide, by decide⟩ ?_
      refine mm_cVi (rest := []) C1 ev_X11_333 (mm_dec dk_X11_count 45 rfl) (c_X8_param x.2.1 hl (d - 1) (by omega) h i0 2 ⟨by omega, by omega⟩) rfl rfl (Nat.le_of_ble_eq_true rfl) ⟨by decide, by decide⟩ rfl (fun r141 h141c hp141 => ?_) (fun _ _ q => q.elim)
      obtain ⟨z141, y141⟩ := hp141
      rw [z141, y141]
      have g20 : -2147483648 ≤ (h.2.1 44 2) ∧ (h.2.1 44 2) ≤ 2147483647 := i0.2.1 44 2
      exact mm_iret C T (mm_dec dk_X11_count 46 rfl) (by decide : 0 ≤ 1) (by decide : 0 ≤ 6) ⟨_, rfl, ⟨⟨by omega, by omega⟩, rfl⟩⟩
set_option maxRecDepth 100000 in
set_option maxHeartbeats 4000000 in
theorem c_X11_needCell_e (l : Launch) (hl : l.stackTraces = false) (d : Nat) (hd : 8 ≤ d) (h : mH) (i0 : mm_inv h) (p1 : Int) (p2 : Int) : mm_Met l d yX11_needCell cX11_needCell 3 (some .int) [mR 0, mI p1, mI p2] h (mm_pi fun r h2 => h2 = h ∧ ((0 ≤ p1 ∧ p1 < (h.1 1 5) ∧ 0 ≤ p2 ∧ p2 < (h.1 1 6) ∧ 1 ≠ 0 ∧ r = ((p2 * 20) + p1)))) (mm_xn h) 1 6 := by
  refine mm_ofW (ls := [mR 0, mI p1, mI p2]) hl (by decide) rfl (Nat.le_of_ble_eq_true rfl) ?_
  intro x hxl C T hnm htb
  subst hxl
  have C1 := mm_OK_le (d' := d - 1 + 1) (by omega) C
  have C8 := mm_OK_le (d' := d - 8 + 8) (by omega) C
  refine mm_rng (fun hr _ => ?_)
  have ap1 : -2147483648 ≤ p1 ∧ p1 < 2147483648 := mm_ok_at hr (i := 1) rfl
  have ap2 : -2147483648 ≤ p2 ∧ p2 < 2147483648 := mm_ok_at hr (i := 2) rfl
  have f0 : mm_fr [] [] h h := mm_fr_rf
  refine mm_aload_n C (mm_dec dk_X11_needCell 0 rfl) rfl ?_
  refine mm_getr (t := 1) C fl_X11_12 (mm_dec dk_X11_needCell 1 rfl) rfl rfl (mm_ref i0 rfl) ?_
  refine mm_iload_n C (mm_dec dk_X11_needCell 2 rfl) rfl ?_
  refine mm_iload_n C (mm_dec dk_X11_needCell 3 rfl) rfl ?_
  refine mm_cVi (rest := []) C1 ev_X11_158 (mm_dec dk_X11_needCell 4 rfl) (c_X5_holds x.2.1 hl (d - 1) (by omega) h i0 p1 p2) rfl rfl (Nat.le_of_ble_eq_true rfl) ⟨by decide, by decide⟩ rfl (fun r6 h6c hp6 => ?_) (fun _ _ q => q.elim)
  obtain ⟨z6, y6⟩ := hp6
  rw [z6]
  rcases y6 with ⟨k6_0, rfl⟩ | ⟨k6_0, k6_1, rfl⟩ | ⟨k6_0, k6_1, k6_2, rfl⟩ | ⟨k6_0, k6_1, k6_2, k6_3, rfl⟩ | ⟨k6_0, k6_1, k6_2, k6_3, rfl⟩
  · skip
    refine mm_if_ne (tgt := 23) C (mm_dec dk_X11_needCell 5 rfl) (by decide) (fun c9 => ?_) (fun c9 => ?_)
    · skip
      exfalso; omega
    · skip
      exact mm_throwXW C8 T htb th_nse (i := 0) rfl (mm_dec dk_X11_needCell 6 rfl) (mm_dec dk_X11_needCell 7 rfl) (mm_dec dk_X11_needCell 8 rfl) (mm_dec dk_X11_needCell 9 rfl) (mm_dec dk_X11_needCell 10 rfl) (Nat.le_of_ble_eq_true rfl) ⟨by decide, by decide⟩ ⟨by decide, by decide⟩ (⟨rfl, rfl⟩)
  · skip
    have g2 : 1 ≤ (h.1 1 5) ∧ (h.1 1 5) ≤ 20 := i0.1 1 5
    refine mm_if_ne (tgt := 23) C (mm_dec dk_X11_needCell 5 rfl) (by decide) (fun c9 => ?_) (fun c9 => ?_)
    · skip
      exfalso; omega
    · skip
      exact mm_throwXW C8 T htb th_nse (i := 0) rfl (mm_dec dk_X11_needCell 6 rfl) (mm_dec dk_X11_needCell 7 rfl) (mm_dec dk_X11_needCell 8 rfl) (mm_dec dk_X11_needCell 9 rfl) (mm_dec dk_X11_needCell 10 rfl) (Nat.le_of_ble_eq_true rfl) ⟨by decide, by decide⟩ ⟨by decide, by decide⟩ (⟨rfl, rfl⟩)
  · skip
    have g3 : 1 ≤ (h.1 1 5) ∧ (h.1 1 5) ≤ 20 := i0.1 1 5
    refine mm_if_ne (tgt := 23) C (mm_dec dk_X11_needCell 5 rfl) (by decide) (fun c9 => ?_) (fun c9 => ?_)
    · skip
      exfalso; omega
    · skip
      exact mm_throwXW C8 T htb th_nse (i := 0) rfl (mm_dec dk_X11_needCell 6 rfl) (mm_dec dk_X11_needCell 7 rfl) (mm_dec dk_X11_needCell 8 rfl) (mm_dec dk_X11_needCell 9 rfl) (mm_dec dk_X11_needCell 10 rfl) (Nat.le_of_ble_eq_true rfl) ⟨by decide, by decide⟩ ⟨by decide, by decide⟩ (⟨rfl, rfl⟩)
  · skip
    have g4 : 1 ≤ (h.1 1 5) ∧ (h.1 1 5) ≤ 20 := i0.1 1 5
    have g5 : 1 ≤ (h.1 1 6) ∧ (h.1 1 6) ≤ 20 := i0.1 1 6
    refine mm_if_ne (tgt := 23) C (mm_dec dk_X11_needCell 5 rfl) (by decide) (fun c9 => ?_) (fun c9 => ?_)
    · skip
      exfalso; omega
    · skip
      exact mm_throwXW C8 T htb th_nse (i := 0) rfl (mm_dec dk_X11_needCell 6 rfl) (mm_dec dk_X11_needCell 7 rfl) (mm_dec dk_X11_needCell 8 rfl) (mm_dec dk_X11_needCell 9 rfl) (mm_dec dk_X11_needCell 10 rfl) (Nat.le_of_ble_eq_true rfl) ⟨by decide, by decide⟩ ⟨by decide, by decide⟩ (⟨rfl, rfl⟩)
  · skip
    have g6 : 1 ≤ (h.1 1 5) ∧ (h.1 1 5) ≤ 20 := i0.1 1 5
    have g7 : 1 ≤ (h.1 1 6) ∧ (h.1 1 6) ≤ 20 := i0.1 1 6
    refine mm_if_ne (tgt := 23) C (mm_dec dk_X11_needCell 5 rfl) (by decide) (fun c9 => ?_) (fun c9 => ?_)
    · skip
      refine mm_iload_n C (mm_dec dk_X11_needCell 11 rfl) rfl ?_
      refine mm_bipush C (mm_dec dk_X11_needCell 12 rfl) ⟨by decide, by decide⟩ ?_
      refine mm_imul C (mm_dec dk_X11_needCell 13 rfl) ⟨by omega, by omega⟩ ?_
      refine mm_iload_n C (mm_dec dk_X11_needCell 14 rfl) rfl ?_
      refine mm_iadd C (mm_dec dk_X11_needCell 15 rfl) ⟨by omega, by omega⟩ ?_
      exact mm_iret C T (mm_dec dk_X11_needCell 16 rfl) (by decide : 0 ≤ 1) (by decide : 0 ≤ 6) ⟨_, rfl, ⟨rfl, ⟨by omega, by omega, by omega, by omega, by omega, rfl⟩⟩⟩
    · skip
      exfalso; omega
set_option maxRecDepth 100000 in
set_option maxHeartbeats 4000000 in
theorem c_X11_needCourse_e (l : Launch) (hl : l.stackTraces = false) (d : Nat) (hd : 8 ≤ d) (h : mH) (i0 : mm_inv h) (p1 : Int) : mm_Met l d yX11_needCourse cX11_needCourse 2 none [mR 0, mI p1] h (mm_pv fun h2 => h2 = h ∧ 0 ≤ p1 ∧ p1 < (h.1 14 8)) (mm_xn h) 1 6 := by
  refine mm_ofW (ls := [mR 0, mI p1]) hl (by decide) rfl (Nat.le_of_ble_eq_true rfl) ?_
  intro x hxl C T hnm htb
  subst hxl
  have C1 := mm_OK_le (d' := d - 1 + 1) (by omega) C
  have C8 := mm_OK_le (d' := d - 8 + 8) (by omega) C
  refine mm_rng (fun hr _ => ?_)
  have ap1 : -2147483648 ≤ p1 ∧ p1 < 2147483648 := mm_ok_at hr (i := 1) rfl
  have f0 : mm_fr [] [] h h := mm_fr_rf
  refine mm_iload_n C (mm_dec dk_X11_needCourse 0 rfl) rfl ?_
  refine mm_if_lt (tgt := 15) C (mm_dec dk_X11_needCourse 1 rfl) (by decide) (fun c1 => ?_) (fun c1 => ?_)
  · skip
    exact mm_throwXW C8 T htb th_nse (i := 4) rfl (mm_dec dk_X11_needCourse 7 rfl) (mm_dec dk_X11_needCourse 8 rfl) (mm_dec dk_X11_needCourse 9 rfl) (mm_dec dk_X11_needCourse 10 rfl) (mm_dec dk_X11_needCourse 11 rfl) (Nat.le_of_ble_eq_true rfl) ⟨by decide, by decide⟩ ⟨by decide, by decide⟩ (⟨rfl, rfl⟩)
  · skip
    refine mm_iload_n C (mm_dec dk_X11_needCourse 2 rfl) rfl ?_
    refine mm_aload_n C (mm_dec dk_X11_needCourse 3 rfl) rfl ?_
    refine mm_getr (t := 14) C fl_X11_28 (mm_dec dk_X11_needCourse 4 rfl) rfl rfl (mm_ref i0 rfl) ?_
    refine mm_cVi (rest := [mI p1]) C1 ev_X11_200 (mm_dec dk_X11_needCourse 5 rfl) (c_X2_size x.2.1 hl (d - 1) (by omega) h i0 ) rfl rfl (Nat.le_of_ble_eq_true rfl) ⟨by decide, by decide⟩ rfl (fun r9 h9c hp9 => ?_) (fun _ _ q => q.elim)
    obtain ⟨z9, y9⟩ := hp9
    rw [z9, y9]
    have g2 : 0 ≤ (h.1 14 8) ∧ (h.1 14 8) ≤ 8 := i0.1 14 8
    refine mm_icmp_lt (tgt := 26) C (mm_dec dk_X11_needCourse 6 rfl) (by decide) (fun c12 => ?_) (fun c12 => ?_)
    · skip
      exact mm_vret C T (mm_dec dk_X11_needCourse 12 rfl) (by decide : 0 ≤ 1) (by decide : 0 ≤ 6) ⟨rfl, ⟨rfl, by omega, by omega⟩⟩
    · skip
      exact mm_throwXW C8 T htb th_nse (i := 4) rfl (mm_dec dk_X11_needCourse 7 rfl) (mm_dec dk_X11_needCourse 8 rfl) (mm_dec dk_X11_needCourse 9 rfl) (mm_dec dk_X11_needCourse 10 rfl) (mm_dec dk_X11_needCourse 11 rfl) (Nat.le_of_ble_eq_true rfl) ⟨by decide, by decide⟩ ⟨by decide, by decide⟩ (⟨rfl, rfl⟩)
set_option maxRecDepth 100000 in
set_option maxHeartbeats 4000000 in
theorem c_X11_needPost_e (l : Launch) (hl : l.stackTraces = false) (d : Nat) (hd : 8 ≤ d) (h : mH) (i0 : mm_inv h) (p1 : Int) : mm_Met l d yX11_needPost cX11_needPost 2 none [mR 0, mI p1] h (mm_pv fun h2 => h2 = h ∧ 0 ≤ p1 ∧ p1 < (h.1 14 7)) (mm_xn h) 1 6 := by
  refine mm_ofW (ls := [mR 0, mI p1]) hl (by decide) rfl (Nat.le_of_ble_eq_true rfl) ?_
  intro x hxl C T hnm htb
  subst hxl
  have C1 := mm_OK_le (d' := d - 1 + 1) (by omega) C
  have C8 := mm_OK_le (d' := d - 8 + 8) (by omega) C
  refine mm_rng (fun hr _ => ?_)
  have ap1 : -2147483648 ≤ p1 ∧ p1 < 2147483648 := mm_ok_at hr (i := 1) rfl
  have f0 : mm_fr [] [] h h := mm_fr_rf
  refine mm_iload_n C (mm_dec dk_X11_needPost 0 rfl) rfl ?_
  refine mm_if_lt (tgt := 15) C (mm_dec dk_X11_needPost 1 rfl) (by decide) (fun c1 => ?_) (fun c1 => ?_)
  · skip
    exact mm_throwXW C8 T htb th_nse (i := 5) rfl (mm_dec dk_X11_needPost 7 rfl) (mm_dec dk_X11_needPost 8 rfl) (mm_dec dk_X11_needPost 9 rfl) (mm_dec dk_X11_needPost 10 rfl) (mm_dec dk_X11_needPost 11 rfl) (Nat.le_of_ble_eq_true rfl) ⟨by decide, by decide⟩ ⟨by decide, by decide⟩ (⟨rfl, rfl⟩)
  · skip
    refine mm_iload_n C (mm_dec dk_X11_needPost 2 rfl) rfl ?_
    refine mm_aload_n C (mm_dec dk_X11_needPost 3 rfl) rfl ?_
    refine mm_getr (t := 14) C fl_X11_28 (mm_dec dk_X11_needPost 4 rfl) rfl rfl (mm_ref i0 rfl) ?_
    refine mm_cVi (rest := [mI p1]) C1 ev_X11_191 (mm_dec dk_X11_needPost 5 rfl) (c_X2_posts x.2.1 hl (d - 1) (by omega) h i0 ) rfl rfl (Nat.le_of_ble_eq_true rfl) ⟨by decide, by decide⟩ rfl (fun r9 h9c hp9 => ?_) (fun _ _ q => q.elim)
    obtain ⟨z9, y9⟩ := hp9
    rw [z9, y9]
    have g2 : 0 ≤ (h.1 14 7) ∧ (h.1 14 7) ≤ 20 := i0.1 14 7
    refine mm_icmp_lt (tgt := 26) C (mm_dec dk_X11_needPost 6 rfl) (by decide) (fun c12 => ?_) (fun c12 => ?_)
    · skip
      exact mm_vret C T (mm_dec dk_X11_needPost 12 rfl) (by decide : 0 ≤ 1) (by decide : 0 ≤ 6) ⟨rfl, ⟨rfl, by omega, by omega⟩⟩
    · skip
      exact mm_throwXW C8 T htb th_nse (i := 5) rfl (mm_dec dk_X11_needPost 7 rfl) (mm_dec dk_X11_needPost 8 rfl) (mm_dec dk_X11_needPost 9 rfl) (mm_dec dk_X11_needPost 10 rfl) (mm_dec dk_X11_needPost 11 rfl) (Nat.le_of_ble_eq_true rfl) ⟨by decide, by decide⟩ ⟨by decide, by decide⟩ (⟨rfl, rfl⟩)
set_option maxRecDepth 100000 in
set_option maxHeartbeats 4000000 in
theorem c_X11_needRunner_e (l : Launch) (hl : l.stackTraces = false) (d : Nat) (hd : 8 ≤ d) (h : mH) (i0 : mm_inv h) (p1 : Int) : mm_Met l d yX11_needRunner cX11_needRunner 2 none [mR 0, mI p1] h (mm_pv fun h2 => h2 = h ∧ 0 ≤ p1 ∧ p1 < (h.1 22 8)) (mm_xn h) 1 6 := by
  refine mm_ofW (ls := [mR 0, mI p1]) hl (by decide) rfl (Nat.le_of_ble_eq_true rfl) ?_
  intro x hxl C T hnm htb
  subst hxl
  have C1 := mm_OK_le (d' := d - 1 + 1) (by omega) C
  have C8 := mm_OK_le (d' := d - 8 + 8) (by omega) C
  refine mm_rng (fun hr _ => ?_)
  have ap1 : -2147483648 ≤ p1 ∧ p1 < 2147483648 := mm_ok_at hr (i := 1) rfl
  have f0 : mm_fr [] [] h h := mm_fr_rf
  refine mm_iload_n C (mm_dec dk_X11_needRunner 0 rfl) rfl ?_
  refine mm_if_lt (tgt := 15) C (mm_dec dk_X11_needRunner 1 rfl) (by decide) (fun c1 => ?_) (fun c1 => ?_)
  · skip
    exact mm_throwXW C8 T htb th_nse (i := 6) rfl (mm_dec dk_X11_needRunner 7 rfl) (mm_dec dk_X11_needRunner 8 rfl) (mm_dec dk_X11_needRunner 9 rfl) (mm_dec dk_X11_needRunner 10 rfl) (mm_dec dk_X11_needRunner 11 rfl) (Nat.le_of_ble_eq_true rfl) ⟨by decide, by decide⟩ ⟨by decide, by decide⟩ (⟨rfl, rfl⟩)
  · skip
    refine mm_iload_n C (mm_dec dk_X11_needRunner 2 rfl) rfl ?_
    refine mm_aload_n C (mm_dec dk_X11_needRunner 3 rfl) rfl ?_
    refine mm_getr (t := 22) C fl_X11_37 (mm_dec dk_X11_needRunner 4 rfl) rfl rfl (mm_ref i0 rfl) ?_
    refine mm_cVi (rest := [mI p1]) C1 ev_X11_230 (mm_dec dk_X11_needRunner 5 rfl) (c_X9_size x.2.1 hl (d - 1) (by omega) h i0 ) rfl rfl (Nat.le_of_ble_eq_true rfl) ⟨by decide, by decide⟩ rfl (fun r9 h9c hp9 => ?_) (fun _ _ q => q.elim)
    obtain ⟨z9, y9⟩ := hp9
    rw [z9, y9]
    have g2 : 0 ≤ (h.1 22 8) ∧ (h.1 22 8) ≤ 40 := i0.1 22 8
    refine mm_icmp_lt (tgt := 26) C (mm_dec dk_X11_needRunner 6 rfl) (by decide) (fun c12 => ?_) (fun c12 => ?_)
    · skip
      exact mm_vret C T (mm_dec dk_X11_needRunner 12 rfl) (by decide : 0 ≤ 1) (by decide : 0 ≤ 6) ⟨rfl, ⟨rfl, by omega, by omega⟩⟩
    · skip
      exact mm_throwXW C8 T htb th_nse (i := 6) rfl (mm_dec dk_X11_needRunner 7 rfl) (mm_dec dk_X11_needRunner 8 rfl) (mm_dec dk_X11_needRunner 9 rfl) (mm_dec dk_X11_needRunner 10 rfl) (mm_dec dk_X11_needRunner 11 rfl) (Nat.le_of_ble_eq_true rfl) ⟨by decide, by decide⟩ ⟨by decide, by decide⟩ (⟨rfl, rfl⟩)
set_option maxRecDepth 100000 in
set_option maxHeartbeats 4000000 in
theorem c_X11_needPlace_e (l : Launch) (hl : l.stackTraces = false) (d : Nat) (hd : 8 ≤ d) (h : mH) (i0 : mm_inv h) (p1 : Int) (p2 : Int) (bp1 : 0 ≤ p1 ∧ p1 ≤ 39) : mm_Met l d yX11_needPlace cX11_needPlace 3 none [mR 0, mI p1, mI p2] h (mm_pv fun h2 => h2 = h ∧ 0 ≤ p2 ∧ p2 < (h.2.1 19 (h.2.1 23 p1))) (mm_xn h) 1 6 := by
  refine mm_ofW (ls := [mR 0, mI p1, mI p2]) hl (by decide) rfl (Nat.le_of_ble_eq_true rfl) ?_
  intro x hxl C T hnm htb
  subst hxl
  have C1 := mm_OK_le (d' := d - 1 + 1) (by omega) C
  have C8 := mm_OK_le (d' := d - 8 + 8) (by omega) C
  refine mm_rng (fun hr _ => ?_)
  have ap1 : -2147483648 ≤ p1 ∧ p1 < 2147483648 := mm_ok_at hr (i := 1) rfl
  have ap2 : -2147483648 ≤ p2 ∧ p2 < 2147483648 := mm_ok_at hr (i := 2) rfl
  have f0 : mm_fr [] [] h h := mm_fr_rf
  refine mm_iload_n C (mm_dec dk_X11_needPlace 0 rfl) rfl ?_
  refine mm_if_lt (tgt := 16) C (mm_dec dk_X11_needPlace 1 rfl) (by decide) (fun c1 => ?_) (fun c1 => ?_)
  · skip
    exact mm_throwXW C8 T htb th_nse (i := 7) rfl (mm_dec dk_X11_needPlace 8 rfl) (mm_dec dk_X11_needPlace 9 rfl) (mm_dec dk_X11_needPlace 10 rfl) (mm_dec dk_X11_needPlace 11 rfl) (mm_dec dk_X11_needPlace 12 rfl) (Nat.le_of_ble_eq_true rfl) ⟨by decide, by decide⟩ ⟨by decide, by decide⟩ (⟨rfl, rfl⟩)
  · skip
    refine mm_iload_n C (mm_dec dk_X11_needPlace 2 rfl) rfl ?_
    refine mm_aload_n C (mm_dec dk_X11_needPlace 3 rfl) rfl ?_
    refine mm_getr (t := 22) C fl_X11_37 (mm_dec dk_X11_needPlace 4 rfl) rfl rfl (mm_ref i0 rfl) ?_
    refine mm_iload_n C (mm_dec dk_X11_needPlace 5 rfl) rfl ?_
    refine mm_cVi (rest := [mI p2]) C1 ev_X11_238 (mm_dec dk_X11_needPlace 6 rfl) (c_X9_rowSize x.2.1 hl (d - 1) (by omega) h i0 p1 ⟨by omega, by omega⟩) rfl rfl (Nat.le_of_ble_eq_true rfl) ⟨by decide, by decide⟩ rfl (fun r10 h10c hp10 => ?_) (fun _ _ q => q.elim)
    obtain ⟨z10, y10⟩ := hp10
    rw [z10, y10]
    have g2 : 0 ≤ (h.2.1 19 (h.2.1 23 p1)) ∧ (h.2.1 19 (h.2.1 23 p1)) ≤ 12 := i0.2.1 19 (h.2.1 23 p1)
    have g3 : 0 ≤ (h.2.1 23 p1) ∧ (h.2.1 23 p1) ≤ 7 := i0.2.1 23 p1
    refine mm_icmp_lt (tgt := 27) C (mm_dec dk_X11_needPlace 7 rfl) (by decide) (fun c13 => ?_) (fun c13 => ?_)
    · skip
      exact mm_vret C T (mm_dec dk_X11_needPlace 13 rfl) (by decide : 0 ≤ 1) (by decide : 0 ≤ 6) ⟨rfl, ⟨rfl, by omega, by omega⟩⟩
    · skip
      exact mm_throwXW C8 T htb th_nse (i := 7) rfl (mm_dec dk_X11_needPlace 8 rfl) (mm_dec dk_X11_needPlace 9 rfl) (mm_dec dk_X11_needPlace 10 rfl) (mm_dec dk_X11_needPlace 11 rfl) (mm_dec dk_X11_needPlace 12 rfl) (Nat.le_of_ble_eq_true rfl) ⟨by decide, by decide⟩ ⟨by decide, by decide⟩ (⟨rfl, rfl⟩)
set_option maxRecDepth 100000 in
set_option maxHeartbeats 4000000 in
theorem c_X11_needSecond_e (l : Launch) (hl : l.stackTraces = false) (d : Nat) (hd : 8 ≤ d) (h : mH) (i0 : mm_inv h) (p1 : Int) : mm_Met l d yX11_needSecond cX11_needSecond 2 none [mR 0, mI p1] h (mm_pv fun h2 => h2 = h ∧ 0 ≤ p1 ∧ p1 ≤ (h.1 0 13)) (mm_xi h) 1 6 := by
  refine mm_ofW (ls := [mR 0, mI p1]) hl (by decide) rfl (Nat.le_of_ble_eq_true rfl) ?_
  intro x hxl C T hnm htb
  subst hxl
  have C1 := mm_OK_le (d' := d - 1 + 1) (by omega) C
  have C8 := mm_OK_le (d' := d - 8 + 8) (by omega) C
  refine mm_rng (fun hr _ => ?_)
  have ap1 : -2147483648 ≤ p1 ∧ p1 < 2147483648 := mm_ok_at hr (i := 1) rfl
  have f0 : mm_fr [] [] h h := mm_fr_rf
  refine mm_iload_n C (mm_dec dk_X11_needSecond 0 rfl) rfl ?_
  refine mm_if_lt (tgt := 12) C (mm_dec dk_X11_needSecond 1 rfl) (by decide) (fun c1 => ?_) (fun c1 => ?_)
  · skip
    exact mm_throwXW C8 T htb th_iae (i := 12) rfl (mm_dec dk_X11_needSecond 6 rfl) (mm_dec dk_X11_needSecond 7 rfl) (mm_dec dk_X11_needSecond 8 rfl) (mm_dec dk_X11_needSecond 9 rfl) (mm_dec dk_X11_needSecond 10 rfl) (Nat.le_of_ble_eq_true rfl) ⟨by decide, by decide⟩ ⟨by decide, by decide⟩ (⟨rfl, rfl⟩)
  · skip
    refine mm_iload_n C (mm_dec dk_X11_needSecond 2 rfl) rfl ?_
    refine mm_aload_n C (mm_dec dk_X11_needSecond 3 rfl) rfl ?_
    refine mm_geti C fl_X11_102 (mm_dec dk_X11_needSecond 4 rfl) rfl rfl (Or.inl rfl) ?_
    have g1 : 0 ≤ (h.1 0 13) ∧ (h.1 0 13) ≤ 99999 := i0.1 0 13
    refine mm_icmp_le (tgt := 23) C (mm_dec dk_X11_needSecond 5 rfl) (by decide) (fun c9 => ?_) (fun c9 => ?_)
    · skip
      exact mm_vret C T (mm_dec dk_X11_needSecond 11 rfl) (by decide : 0 ≤ 1) (by decide : 0 ≤ 6) ⟨rfl, ⟨rfl, by omega, by omega⟩⟩
    · skip
      exact mm_throwXW C8 T htb th_iae (i := 12) rfl (mm_dec dk_X11_needSecond 6 rfl) (mm_dec dk_X11_needSecond 7 rfl) (mm_dec dk_X11_needSecond 8 rfl) (mm_dec dk_X11_needSecond 9 rfl) (mm_dec dk_X11_needSecond 10 rfl) (Nat.le_of_ble_eq_true rfl) ⟨by decide, by decide⟩ ⟨by decide, by decide⟩ (⟨rfl, rfl⟩)
set_option maxRecDepth 100000 in
set_option maxHeartbeats 4000000 in
theorem c_X11_needBytes_e (l : Launch) (hl : l.stackTraces = false) (d : Nat) (hd : 8 ≤ d) (h : mH) (i0 : mm_inv h) (p1 : Int) : mm_Met l d yX11_needBytes cX11_needBytes 2 none [mR 0, mI p1] h (mm_pv fun h2 => h2 = h ∧ 0 ≤ p1 ∧ p1 ≤ (h.1 0 12)) (mm_xi h) 1 6 := by
  refine mm_ofW (ls := [mR 0, mI p1]) hl (by decide) rfl (Nat.le_of_ble_eq_true rfl) ?_
  intro x hxl C T hnm htb
  subst hxl
  have C1 := mm_OK_le (d' := d - 1 + 1) (by omega) C
  have C8 := mm_OK_le (d' := d - 8 + 8) (by omega) C
  refine mm_rng (fun hr _ => ?_)
  have ap1 : -2147483648 ≤ p1 ∧ p1 < 2147483648 := mm_ok_at hr (i := 1) rfl
  have f0 : mm_fr [] [] h h := mm_fr_rf
  refine mm_iload_n C (mm_dec dk_X11_needBytes 0 rfl) rfl ?_
  refine mm_if_lt (tgt := 12) C (mm_dec dk_X11_needBytes 1 rfl) (by decide) (fun c1 => ?_) (fun c1 => ?_)
  · skip
    exact mm_throwXW C8 T htb th_iae (i := 14) rfl (mm_dec dk_X11_needBytes 6 rfl) (mm_dec dk_X11_needBytes 7 rfl) (mm_dec dk_X11_needBytes 8 rfl) (mm_dec dk_X11_needBytes 9 rfl) (mm_dec dk_X11_needBytes 10 rfl) (Nat.le_of_ble_eq_true rfl) ⟨by decide, by decide⟩ ⟨by decide, by decide⟩ (⟨rfl, rfl⟩)
  · skip
    refine mm_iload_n C (mm_dec dk_X11_needBytes 2 rfl) rfl ?_
    refine mm_aload_n C (mm_dec dk_X11_needBytes 3 rfl) rfl ?_
    refine mm_geti C fl_X11_98 (mm_dec dk_X11_needBytes 4 rfl) rfl rfl (Or.inl rfl) ?_
    have g1 : 0 ≤ (h.1 0 12) ∧ (h.1 0 12) ≤ 500 := i0.1 0 12
    refine mm_icmp_le (tgt := 23) C (mm_dec dk_X11_needBytes 5 rfl) (by decide) (fun c9 => ?_) (fun c9 => ?_)
    · skip
      exact mm_vret C T (mm_dec dk_X11_needBytes 11 rfl) (by decide : 0 ≤ 1) (by decide : 0 ≤ 6) ⟨rfl, ⟨rfl, by omega, by omega⟩⟩
    · skip
      exact mm_throwXW C8 T htb th_iae (i := 14) rfl (mm_dec dk_X11_needBytes 6 rfl) (mm_dec dk_X11_needBytes 7 rfl) (mm_dec dk_X11_needBytes 8 rfl) (mm_dec dk_X11_needBytes 9 rfl) (mm_dec dk_X11_needBytes 10 rfl) (Nat.le_of_ble_eq_true rfl) ⟨by decide, by decide⟩ ⟨by decide, by decide⟩ (⟨rfl, rfl⟩)
set_option maxRecDepth 100000 in
set_option maxHeartbeats 4000000 in
theorem c_X11_cell_e (l : Launch) (hl : l.stackTraces = false) (d : Nat) (hd : 9 ≤ d) (h : mH) (i0 : mm_inv h) (p1 : Int) (p2 : Int) (p3 : Int) (p4 : Int) : mm_Met l d yX11_cell cX11_cell 6 (some .boolean) [mR 0, mI p1, mI p2, mI p3, mI p4] h (mm_pi fun r h2 => (0 ≤ r ∧ r ≤ 1) ∧ mm_inv h2 ∧ mm_fr [] [2, 3] h h2) (mm_xn h) 1 6 := by
  refine mm_ofW (ls := [mR 0, mI p1, mI p2, mI p3, mI p4, mU]) hl (by decide) rfl (Nat.le_of_ble_eq_true rfl) ?_
  intro x hxl C T hnm htb
  subst hxl
  have C1 := mm_OK_le (d' := d - 1 + 1) (by omega) C
  have C8 := mm_OK_le (d' := d - 8 + 8) (by omega) C
  refine mm_rng (fun hr _ => ?_)
  have ap1 : -2147483648 ≤ p1 ∧ p1 < 2147483648 := mm_ok_at hr (i := 1) rfl
  have ap2 : -2147483648 ≤ p2 ∧ p2 < 2147483648 := mm_ok_at hr (i := 2) rfl
  have ap3 : -2147483648 ≤ p3 ∧ p3 < 2147483648 := mm_ok_at hr (i := 3) rfl
  have ap4 : -2147483648 ≤ p4 ∧ p4 < 2147483648 := mm_ok_at hr (i := 4) rfl
  have f0 : mm_fr [] [2, 3] h h := mm_fr_rf
  refine mm_aload_n C (mm_dec dk_X11_cell 0 rfl) rfl ?_
  refine mm_iload_n C (mm_dec dk_X11_cell 1 rfl) rfl ?_
  refine mm_iload_n C (mm_dec dk_X11_cell 2 rfl) rfl ?_
  refine mm_cVi (rest := []) C1 ev_X11_122 (mm_dec dk_X11_cell 3 rfl) (c_X11_needCell_e x.2.1 hl (d - 1) (by omega) h i0 p1 p2) rfl rfl (Nat.le_of_ble_eq_true rfl) ⟨by decide, by decide⟩ rfl (fun r3 h3c hp3 => ?_) (fun E hx q => mm_out C T htb (by decide) (by decide) (by exact q))
  obtain ⟨z3, k3_0, k3_1, k3_2, k3_3, k3_4, y3⟩ := hp3
  rw [z3, y3]
  have g2 : 1 ≤ (h.1 1 5) ∧ (h.1 1 5) ≤ 20 := i0.1 1 5
  have g3 : 1 ≤ (h.1 1 6) ∧ (h.1 1 6) ≤ 20 := i0.1 1 6
  refine mm_istoreL (ls2 := [mR 0, mI p1, mI p2, mI p3, mI p4, mI ((p2 * 20) + p1)]) C (mm_dec dk_X11_cell 4 rfl) (by decide) rfl ?_
  refine mm_aload_n C (mm_dec dk_X11_cell 5 rfl) rfl ?_
  refine mm_cVi (rest := []) C1 ev_X11_126 (mm_dec dk_X11_cell 6 rfl) (c_X11_landIsFixed x.2.1 hl (d - 1) (by omega) h i0 ) rfl rfl (Nat.le_of_ble_eq_true rfl) ⟨by decide, by decide⟩ rfl (fun r9 h9c hp9 => ?_) (fun _ _ q => q.elim)
  obtain ⟨z9, y9⟩ := hp9
  rw [z9]
  have g5 : 0 ≤ (h.1 22 8) ∧ (h.1 22 8) ≤ 40 := i0.1 22 8
  have J36 : mm_W x 1 6 36 [mU, mU, mU, mU, mU, mU] [] h := by
    refine mm_iconst C (mm_dec dk_X11_cell 18 rfl) ⟨by decide, by decide⟩ ?_
    exact mm_zret C T (mm_dec dk_X11_cell 19 rfl) (by decide : 1 ≤ 1) (by decide : 6 ≤ 6) (by omega) ⟨_, rfl, ⟨⟨by omega, by omega⟩, i0, f0⟩⟩
  refine mm_if_ne (tgt := 36) C (mm_dec dk_X11_cell 7 rfl) (by decide) (fun c12 => ?_) (fun c12 => ?_)
  · skip
    refine mm_fgt 0 ?_
    refine mm_fgt 1 ?_
    refine mm_fgt 2 ?_
    refine mm_fgt 3 ?_
    refine mm_fgt 4 ?_
    refine mm_fgt 5 ?_
    exact J36
  · skip
    refine mm_iload_n C (mm_dec dk_X11_cell 8 rfl) rfl ?_
    refine mm_iconst C (mm_dec dk_X11_cell 9 rfl) ⟨by decide, by decide⟩ ?_
    refine mm_bipush C (mm_dec dk_X11_cell 10 rfl) ⟨by decide, by decide⟩ ?_
    refine mm_cSi (rest := []) C1 es_X11_130 (mm_dec dk_X11_cell 11 rfl) (c_X11_within x.2.1 hl (d - 1) (by omega) h i0 p3 0 7) rfl (Nat.le_of_ble_eq_true rfl) ⟨by decide, by decide⟩ rfl (fun r19 h19c hp19 => ?_) (fun _ _ q => q.elim)
    obtain ⟨z19, y19⟩ := hp19
    rw [z19]
    refine mm_if_eq (tgt := 36) C (mm_dec dk_X11_cell 12 rfl) (by decide) (fun c22 => ?_) (fun c22 => ?_)
    · skip
      refine mm_fgt 0 ?_
      refine mm_fgt 1 ?_
      refine mm_fgt 2 ?_
      refine mm_fgt 3 ?_
      refine mm_fgt 4 ?_
      refine mm_fgt 5 ?_
      exact J36
    · skip
      refine mm_iload C (mm_dec dk_X11_cell 13 rfl) rfl ?_
      refine mm_iconst C (mm_dec dk_X11_cell 14 rfl) ⟨by decide, by decide⟩ ?_
      refine mm_bipush C (mm_dec dk_X11_cell 15 rfl) ⟨by decide, by decide⟩ ?_
      refine mm_cSi (rest := []) C1 es_X11_130 (mm_dec dk_X11_cell 16 rfl) (c_X11_within x.2.1 hl (d - 1) (by omega) h i0 p4 0 99) rfl (Nat.le_of_ble_eq_true rfl) ⟨by decide, by decide⟩ rfl (fun r30 h30c hp30 => ?_) (fun _ _ q => q.elim)
      obtain ⟨z30, y30⟩ := hp30
      rw [z30]
      refine mm_if_ne (tgt := 38) C (mm_dec dk_X11_cell 17 rfl) (by decide) (fun c33 => ?_) (fun c33 => ?_)
      · skip
        refine mm_aload_n C (mm_dec dk_X11_cell 20 rfl) rfl ?_
        refine mm_getr (t := 1) C fl_X11_12 (mm_dec dk_X11_cell 21 rfl) rfl rfl (mm_ref i0 rfl) ?_
        refine mm_iload_n C (mm_dec dk_X11_cell 22 rfl) rfl ?_
        refine mm_cVi (rest := []) C1 ev_X11_134 (mm_dec dk_X11_cell 23 rfl) (c_X5_letsIn x.2.1 hl (d - 1) (by omega) h i0 p3 ⟨by omega, by omega⟩) rfl rfl (Nat.le_of_ble_eq_true rfl) ⟨by decide, by decide⟩ rfl (fun r43 h43c hp43 => ?_) (fun _ _ q => q.elim)
        obtain ⟨z43, y43⟩ := hp43
        rw [z43]
        have g9 : 0 ≤ (h.2.1 6 p3) ∧ (h.2.1 6 p3) ≤ 99 := i0.2.1 6 p3
        have J63 : mm_W x 1 6 63 [mR 0, mU, mU, mI p3, mI p4, mI ((p2 * 20) + p1)] [] h := by
          refine mm_aload_n C (mm_dec dk_X11_cell 32 rfl) rfl ?_
          refine mm_getr (t := 1) C fl_X11_12 (mm_dec dk_X11_cell 33 rfl) rfl rfl (mm_ref i0 rfl) ?_
          refine mm_iload C (mm_dec dk_X11_cell 34 rfl) rfl ?_
          refine mm_iload_n C (mm_dec dk_X11_cell 35 rfl) rfl ?_
          refine mm_iload C (mm_dec dk_X11_cell 36 rfl) rfl ?_
          refine mm_cVv (rest := []) C1 ev_X11_141 (mm_dec dk_X11_cell 37 rfl) (c_X5_shape x.2.1 hl (d - 1) (by omega) h i0 ((p2 * 20) + p1) p3 p4 ⟨by omega, by omega⟩ ⟨by omega, by omega⟩ ⟨by omega, by omega⟩) rfl rfl (Nat.le_of_ble_eq_true rfl) ⟨by decide, by decide⟩ rfl (fun h72c hp72 => ?_) (fun _ _ q => q.elim)
          obtain ⟨i72c, g72c⟩ := hp72
          have f72c : mm_fr [] [2, 3] h h72c := mm_fr_tr f0 g72c (by decide +kernel)
          have q72c_11 : h72c.1 1 5 = h.1 1 5 := g72c.1 1 5 (by decide)
          have q72c_12 : h72c.1 1 6 = h.1 1 6 := g72c.1 1 6 (by decide)
          have q72c_13 : h72c.1 22 8 = h.1 22 8 := g72c.1 22 8 (by decide)
          refine mm_iconst C (mm_dec dk_X11_cell 38 rfl) ⟨by decide, by decide⟩ ?_
          exact mm_zret C T (mm_dec dk_X11_cell 39 rfl) (by decide : 1 ≤ 1) (by decide : 6 ≤ 6) (by omega) ⟨_, rfl, ⟨⟨by omega, by omega⟩, i72c, f72c⟩⟩
        refine mm_if_ne (tgt := 63) C (mm_dec dk_X11_cell 24 rfl) (by decide) (fun c46 => ?_) (fun c46 => ?_)
        · skip
          refine mm_fgt 1 ?_
          refine mm_fgt 2 ?_
          exact J63
        · skip
          refine mm_aload_n C (mm_dec dk_X11_cell 25 rfl) rfl ?_
          refine mm_getr (t := 14) C fl_X11_28 (mm_dec dk_X11_cell 26 rfl) rfl rfl (mm_ref i0 rfl) ?_
          refine mm_iload C (mm_dec dk_X11_cell 27 rfl) rfl ?_
          refine mm_cVi (rest := []) C1 ev_X11_138 (mm_dec dk_X11_cell 28 rfl) (c_X2_postStandsAt x.2.1 hl (d - 1) (by omega) h i0 ((p2 * 20) + p1) ⟨by omega, by omega⟩) rfl rfl (Nat.le_of_ble_eq_true rfl) ⟨by decide, by decide⟩ rfl (fun r55 h55c hp55 => ?_) (fun _ _ q => q.elim)
          obtain ⟨b55, z55⟩ := hp55
          rw [z55]
          refine mm_if_eq (tgt := 63) C (mm_dec dk_X11_cell 29 rfl) (by decide) (fun c58 => ?_) (fun c58 => ?_)
          · skip
            refine mm_fgt 1 ?_
            refine mm_fgt 2 ?_
            exact J63
          · skip
            refine mm_iconst C (mm_dec dk_X11_cell 30 rfl) ⟨by decide, by decide⟩ ?_
            exact mm_zret C T (mm_dec dk_X11_cell 31 rfl) (by decide : 1 ≤ 1) (by decide : 6 ≤ 6) (by omega) ⟨_, rfl, ⟨⟨by omega, by omega⟩, i0, f0⟩⟩
      · skip
        refine mm_fgt 0 ?_
        refine mm_fgt 1 ?_
        refine mm_fgt 2 ?_
        refine mm_fgt 3 ?_
        refine mm_fgt 4 ?_
        refine mm_fgt 5 ?_
        exact J36
set_option maxRecDepth 100000 in
set_option maxHeartbeats 4000000 in
theorem c_X11_wall_e (l : Launch) (hl : l.stackTraces = false) (d : Nat) (hd : 9 ≤ d) (h : mH) (i0 : mm_inv h) (p1 : Int) (p2 : Int) (p3 : Int) (p4 : Int) (bp4 : 0 ≤ p4 ∧ p4 ≤ 1) : mm_Met l d yX11_wall cX11_wall 6 (some .boolean) [mR 0, mI p1, mI p2, mI p3, mI p4] h (mm_pi fun r h2 => (0 ≤ r ∧ r ≤ 1) ∧ mm_inv h2 ∧ mm_fr [] [4, 5] h h2) (mm_xn h) 1 6 := by
  refine mm_ofW (ls := [mR 0, mI p1, mI p2, mI p3, mI p4, mU]) hl (by decide) rfl (Nat.le_of_ble_eq_true rfl) ?_
  intro x hxl C T hnm htb
  subst hxl
  have C1 := mm_OK_le (d' := d - 1 + 1) (by omega) C
  have C8 := mm_OK_le (d' := d - 8 + 8) (by omega) C
  refine mm_rng (fun hr _ => ?_)
  have ap1 : -2147483648 ≤ p1 ∧ p1 < 2147483648 := mm_ok_at hr (i := 1) rfl
  have ap2 : -2147483648 ≤ p2 ∧ p2 < 2147483648 := mm_ok_at hr (i := 2) rfl
  have ap3 : -2147483648 ≤ p3 ∧ p3 < 2147483648 := mm_ok_at hr (i := 3) rfl
  have ap4 : -2147483648 ≤ p4 ∧ p4 < 2147483648 := mm_ok_at hr (i := 4) rfl
  have f0 : mm_fr [] [4, 5] h h := mm_fr_rf
  refine mm_aload_n C (mm_dec dk_X11_wall 0 rfl) rfl ?_
  refine mm_iload_n C (mm_dec dk_X11_wall 1 rfl) rfl ?_
  refine mm_iload_n C (mm_dec dk_X11_wall 2 rfl) rfl ?_
  refine mm_cVi (rest := []) C1 ev_X11_122 (mm_dec dk_X11_wall 3 rfl) (c_X11_needCell_e x.2.1 hl (d - 1) (by omega) h i0 p1 p2) rfl rfl (Nat.le_of_ble_eq_true rfl) ⟨by decide, by decide⟩ rfl (fun r3 h3c hp3 => ?_) (fun E hx q => mm_out C T htb (by decide) (by decide) (by exact q))
  obtain ⟨z3, k3_0, k3_1, k3_2, k3_3, k3_4, y3⟩ := hp3
  rw [z3, y3]
  have g2 : 1 ≤ (h.1 1 5) ∧ (h.1 1 5) ≤ 20 := i0.1 1 5
  have g3 : 1 ≤ (h.1 1 6) ∧ (h.1 1 6) ≤ 20 := i0.1 1 6
  refine mm_istoreL (ls2 := [mR 0, mI p1, mI p2, mI p3, mI p4, mI ((p2 * 20) + p1)]) C (mm_dec dk_X11_wall 4 rfl) (by decide) rfl ?_
  refine mm_aload_n C (mm_dec dk_X11_wall 5 rfl) rfl ?_
  refine mm_cVi (rest := []) C1 ev_X11_126 (mm_dec dk_X11_wall 6 rfl) (c_X11_landIsFixed x.2.1 hl (d - 1) (by omega) h i0 ) rfl rfl (Nat.le_of_ble_eq_true rfl) ⟨by decide, by decide⟩ rfl (fun r9 h9c hp9 => ?_) (fun _ _ q => q.elim)
  obtain ⟨z9, y9⟩ := hp9
  rw [z9]
  have g5 : 0 ≤ (h.1 22 8) ∧ (h.1 22 8) ≤ 40 := i0.1 22 8
  have J25 : mm_W x 1 6 25 [mU, mU, mU, mU, mU, mU] [] h := by
    refine mm_iconst C (mm_dec dk_X11_wall 14 rfl) ⟨by decide, by decide⟩ ?_
    exact mm_zret C T (mm_dec dk_X11_wall 15 rfl) (by decide : 1 ≤ 1) (by decide : 6 ≤ 6) (by omega) ⟨_, rfl, ⟨⟨by omega, by omega⟩, i0, f0⟩⟩
  refine mm_if_ne (tgt := 25) C (mm_dec dk_X11_wall 7 rfl) (by decide) (fun c12 => ?_) (fun c12 => ?_)
  · skip
    refine mm_fgt 0 ?_
    refine mm_fgt 1 ?_
    refine mm_fgt 2 ?_
    refine mm_fgt 3 ?_
    refine mm_fgt 4 ?_
    refine mm_fgt 5 ?_
    exact J25
  · skip
    refine mm_iload_n C (mm_dec dk_X11_wall 8 rfl) rfl ?_
    refine mm_iconst C (mm_dec dk_X11_wall 9 rfl) ⟨by decide, by decide⟩ ?_
    have J27 : mm_W x 1 6 27 [mR 0, mI p1, mI p2, mI p3, mI p4, mI ((p2 * 20) + p1)] [] h := by
      refine mm_aload_n C (mm_dec dk_X11_wall 16 rfl) rfl ?_
      refine mm_getr (t := 1) C fl_X11_12 (mm_dec dk_X11_wall 17 rfl) rfl rfl (mm_ref i0 rfl) ?_
      refine mm_iload_n C (mm_dec dk_X11_wall 18 rfl) rfl ?_
      refine mm_iconst C (mm_dec dk_X11_wall 19 rfl) ⟨by decide, by decide⟩ ?_
      have J43 : ∀ (s43_1 : Int) (bs43_1 : 0 ≤ s43_1 ∧ s43_1 ≤ 20), mm_W x 1 6 43 [mR 0, mU, mI p2, mI p3, mI p4, mI ((p2 * 20) + p1)] [mI s43_1, mR 1] h := by
        intro s43_1 bs43_1
        refine mm_iload_n C (mm_dec dk_X11_wall 26 rfl) rfl ?_
        refine mm_iconst C (mm_dec dk_X11_wall 27 rfl) ⟨by decide, by decide⟩ ?_
        have J55 : ∀ (s55_2 : Int) (bs55_2 : 0 ≤ s55_2 ∧ s55_2 ≤ 20), mm_W x 1 6 55 [mR 0, mU, mU, mI p3, mI p4, mI ((p2 * 20) + p1)] [mI s55_2, mI s43_1, mR 1] h := by
          intro s55_2 bs55_2
          refine mm_cVi (rest := []) C1 ev_X11_158 (mm_dec dk_X11_wall 34 rfl) (c_X5_holds x.2.1 hl (d - 1) (by omega) h i0 s43_1 s55_2) rfl rfl (Nat.le_of_ble_eq_true rfl) ⟨by decide, by decide⟩ rfl (fun r55 h55c hp55 => ?_) (fun _ _ q => q.elim)
          obtain ⟨z55, y55⟩ := hp55
          rw [z55]
          refine mm_if_ne (tgt := 63) C (mm_dec dk_X11_wall 35 rfl) (by decide) (fun c58 => ?_) (fun c58 => ?_)
          · skip
            refine mm_aload_n C (mm_dec dk_X11_wall 38 rfl) rfl ?_
            refine mm_getr (t := 1) C fl_X11_12 (mm_dec dk_X11_wall 39 rfl) rfl rfl (mm_ref i0 rfl) ?_
            refine mm_iload C (mm_dec dk_X11_wall 40 rfl) rfl ?_
            refine mm_iload_n C (mm_dec dk_X11_wall 41 rfl) rfl ?_
            refine mm_iload C (mm_dec dk_X11_wall 42 rfl) rfl ?_
            refine mm_cVv (rest := []) C1 ev_X11_162 (mm_dec dk_X11_wall 43 rfl) (c_X5_build x.2.1 hl (d - 1) (by omega) h i0 ((p2 * 20) + p1) p3 p4 ⟨by omega, by omega⟩ ⟨by omega, by omega⟩) rfl rfl (Nat.le_of_ble_eq_true rfl) ⟨by decide, by decide⟩ rfl (fun h72c hp72 => ?_) (fun _ _ q => q.elim)
            obtain ⟨i72c, g72c⟩ := hp72
            have f72c : mm_fr [] [4, 5] h h72c := mm_fr_tr f0 g72c (by decide +kernel)
            have q72c_8 : h72c.1 1 5 = h.1 1 5 := g72c.1 1 5 (by decide)
            have q72c_9 : h72c.1 1 6 = h.1 1 6 := g72c.1 1 6 (by decide)
            have q72c_10 : h72c.1 22 8 = h.1 22 8 := g72c.1 22 8 (by decide)
            refine mm_iconst C (mm_dec dk_X11_wall 44 rfl) ⟨by decide, by decide⟩ ?_
            exact mm_zret C T (mm_dec dk_X11_wall 45 rfl) (by decide : 1 ≤ 1) (by decide : 6 ≤ 6) (by omega) ⟨_, rfl, ⟨⟨by omega, by omega⟩, i72c, f72c⟩⟩
          · skip
            refine mm_iconst C (mm_dec dk_X11_wall 36 rfl) ⟨by decide, by decide⟩ ?_
            exact mm_zret C T (mm_dec dk_X11_wall 37 rfl) (by decide : 1 ≤ 1) (by decide : 6 ≤ 6) (by omega) ⟨_, rfl, ⟨⟨by omega, by omega⟩, i0, f0⟩⟩
        refine mm_icmp_ne (tgt := 54) C (mm_dec dk_X11_wall 28 rfl) (by decide) (fun c45 => ?_) (fun c45 => ?_)
        · skip
          refine mm_iload_n C (mm_dec dk_X11_wall 33 rfl) rfl ?_
          refine mm_fgt 2 ?_
          exact J55 p2 ⟨by omega, by omega⟩
        · skip
          refine mm_iload_n C (mm_dec dk_X11_wall 29 rfl) rfl ?_
          refine mm_iconst C (mm_dec dk_X11_wall 30 rfl) ⟨by decide, by decide⟩ ?_
          refine mm_iadd C (mm_dec dk_X11_wall 31 rfl) ⟨by omega, by omega⟩ ?_
          refine mm_goto (tgt := 55) C (mm_dec dk_X11_wall 32 rfl) (by decide) ?_
          refine mm_fgt 2 ?_
          exact J55 (p2 + 1) ⟨by omega, by omega⟩
      refine mm_icmp_ne (tgt := 42) C (mm_dec dk_X11_wall 20 rfl) (by decide) (fun c33 => ?_) (fun c33 => ?_)
      · skip
        refine mm_iload_n C (mm_dec dk_X11_wall 25 rfl) rfl ?_
        refine mm_fgt 1 ?_
        exact J43 p1 ⟨by omega, by omega⟩
      · skip
        refine mm_iload_n C (mm_dec dk_X11_wall 21 rfl) rfl ?_
        refine mm_iconst C (mm_dec dk_X11_wall 22 rfl) ⟨by decide, by decide⟩ ?_
        refine mm_iadd C (mm_dec dk_X11_wall 23 rfl) ⟨by omega, by omega⟩ ?_
        refine mm_goto (tgt := 43) C (mm_dec dk_X11_wall 24 rfl) (by decide) ?_
        refine mm_fgt 1 ?_
        exact J43 (p1 + 1) ⟨by omega, by omega⟩
    refine mm_icmp_eq (tgt := 27) C (mm_dec dk_X11_wall 10 rfl) (by decide) (fun c17 => ?_) (fun c17 => ?_)
    · skip
      exact J27
    · skip
      refine mm_iload_n C (mm_dec dk_X11_wall 11 rfl) rfl ?_
      refine mm_iconst C (mm_dec dk_X11_wall 12 rfl) ⟨by decide, by decide⟩ ?_
      refine mm_icmp_eq (tgt := 27) C (mm_dec dk_X11_wall 13 rfl) (by decide) (fun c22 => ?_) (fun c22 => ?_)
      · skip
        exact J27
      · skip
        refine mm_fgt 0 ?_
        refine mm_fgt 1 ?_
        refine mm_fgt 2 ?_
        refine mm_fgt 3 ?_
        refine mm_fgt 4 ?_
        refine mm_fgt 5 ?_
        exact J25
set_option maxRecDepth 100000 in
set_option maxHeartbeats 4000000 in
theorem c_X11_gates_e (l : Launch) (hl : l.stackTraces = false) (d : Nat) (hd : 9 ≤ d) (h : mH) (i0 : mm_inv h) (p1 : Int) (p2 : Int) (p3 : Int) (p4 : Int) : mm_Met l d yX11_gates cX11_gates 7 (some .boolean) [mR 0, mI p1, mI p2, mI p3, mI p4] h (mm_pi fun r h2 => (0 ≤ r ∧ r ≤ 1) ∧ mm_inv h2 ∧ mm_fr [(1, 7), (1, 8)] [] h h2) (mm_xn h) 2 12 := by
  refine mm_ofW (ls := [mR 0, mI p1, mI p2, mI p3, mI p4, mU, mU]) hl (by decide) rfl (Nat.le_of_ble_eq_true rfl) ?_
  intro x hxl C T hnm htb
  subst hxl
  have C1 := mm_OK_le (d' := d - 1 + 1) (by omega) C
  have C8 := mm_OK_le (d' := d - 8 + 8) (by omega) C
  refine mm_rng (fun hr _ => ?_)
  have ap1 : -2147483648 ≤ p1 ∧ p1 < 2147483648 := mm_ok_at hr (i := 1) rfl
  have ap2 : -2147483648 ≤ p2 ∧ p2 < 2147483648 := mm_ok_at hr (i := 2) rfl
  have ap3 : -2147483648 ≤ p3 ∧ p3 < 2147483648 := mm_ok_at hr (i := 3) rfl
  have ap4 : -2147483648 ≤ p4 ∧ p4 < 2147483648 := mm_ok_at hr (i := 4) rfl
  have f0 : mm_fr [(1, 7), (1, 8)] [] h h := mm_fr_rf
  refine mm_aload_n C (mm_dec dk_X11_gates 0 rfl) rfl ?_
  refine mm_iload_n C (mm_dec dk_X11_gates 1 rfl) rfl ?_
  refine mm_iload_n C (mm_dec dk_X11_gates 2 rfl) rfl ?_
  refine mm_cVi (rest := []) C1 ev_X11_122 (mm_dec dk_X11_gates 3 rfl) (c_X11_needCell_e x.2.1 hl (d - 1) (by omega) h i0 p1 p2) rfl rfl (Nat.le_of_ble_eq_true rfl) ⟨by decide, by decide⟩ rfl (fun r3 h3c hp3 => ?_) (fun E hx q => mm_out C T htb (by decide) (by decide) (by exact q))
  obtain ⟨z3, k3_0, k3_1, k3_2, k3_3, k3_4, y3⟩ := hp3
  rw [z3, y3]
  have g2 : 1 ≤ (h.1 1 5) ∧ (h.1 1 5) ≤ 20 := i0.1 1 5
  have g3 : 1 ≤ (h.1 1 6) ∧ (h.1 1 6) ≤ 20 := i0.1 1 6
  refine mm_istoreL (ls2 := [mR 0, mI p1, mI p2, mI p3, mI p4, mI ((p2 * 20) + p1), mU]) C (mm_dec dk_X11_gates 4 rfl) (by decide) rfl ?_
  refine mm_aload_n C (mm_dec dk_X11_gates 5 rfl) rfl ?_
  refine mm_iload_n C (mm_dec dk_X11_gates 6 rfl) rfl ?_
  refine mm_iload C (mm_dec dk_X11_gates 7 rfl) rfl ?_
  refine mm_cVi (rest := []) C1 ev_X11_122 (mm_dec dk_X11_gates 8 rfl) (c_X11_needCell_e x.2.1 hl (d - 1) (by omega) h i0 p3 p4) rfl rfl (Nat.le_of_ble_eq_true rfl) ⟨by decide, by decide⟩ rfl (fun r12 h12c hp12 => ?_) (fun E hx q => mm_out C T htb (by decide) (by decide) (by exact q))
  obtain ⟨z12, k12_0, k12_1, k12_2, k12_3, k12_4, y12⟩ := hp12
  rw [z12, y12]
  refine mm_istoreL (ls2 := [mR 0, mI p1, mI p2, mI p3, mI p4, mI ((p2 * 20) + p1), mI ((p4 * 20) + p3)]) C (mm_dec dk_X11_gates 9 rfl) (by decide) rfl ?_
  refine mm_aload_n C (mm_dec dk_X11_gates 10 rfl) rfl ?_
  refine mm_cVi (rest := []) C1 ev_X11_126 (mm_dec dk_X11_gates 11 rfl) (c_X11_landIsFixed x.2.1 hl (d - 1) (by omega) h i0 ) rfl rfl (Nat.le_of_ble_eq_true rfl) ⟨by decide, by decide⟩ rfl (fun r18 h18c hp18 => ?_) (fun _ _ q => q.elim)
  obtain ⟨z18, y18⟩ := hp18
  rw [z18]
  have g6 : 0 ≤ (h.1 22 8) ∧ (h.1 22 8) ≤ 40 := i0.1 22 8
  refine mm_if_eq (tgt := 26) C (mm_dec dk_X11_gates 12 rfl) (by decide) (fun c21 => ?_) (fun c21 => ?_)
  · skip
    refine mm_aload_n C (mm_dec dk_X11_gates 15 rfl) rfl ?_
    refine mm_getr (t := 1) C fl_X11_12 (mm_dec dk_X11_gates 16 rfl) rfl rfl (mm_ref i0 rfl) ?_
    refine mm_iload C (mm_dec dk_X11_gates 17 rfl) rfl ?_
    refine mm_puti C fl_X11_166 (mm_dec dk_X11_gates 18 rfl) rfl rfl rfl (Or.inl ⟨rfl, rfl⟩) ?_
    have i1 : mm_inv (mm_pf h 1 7 ((p2 * 20) + p1)) := mm_inv_pf i0 (show 0 ≤ ((p2 * 20) + p1) ∧ ((p2 * 20) + p1) ≤ 399 from ⟨by omega, by omega⟩) (by decide)
    have f1 : mm_fr [(1, 7), (1, 8)] [] h (mm_pf h 1 7 ((p2 * 20) + p1)) := mm_fr_pf f0 (by decide)
    obtain ⟨h1, eh1⟩ : ∃ z, z = mm_pf h 1 7 ((p2 * 20) + p1) := ⟨_, rfl⟩
    rw [← eh1] at i1 f1 ⊢
    have qh1 : h1.1 1 7 = ((p2 * 20) + p1) := by rw [eh1]; exact mm_pf_same _ _ _ _
    have qh1_7 : h1.1 1 5 = h.1 1 5 := by rw [eh1]; exact mm_pf_ne _ _ (by decide)
    have qh1_8 : h1.1 1 6 = h.1 1 6 := by rw [eh1]; exact mm_pf_ne _ _ (by decide)
    have qh1_9 : h1.1 22 8 = h.1 22 8 := by rw [eh1]; exact mm_pf_ne _ _ (by decide)
    refine mm_aload_n C (mm_dec dk_X11_gates 19 rfl) rfl ?_
    refine mm_getr (t := 1) C fl_X11_12 (mm_dec dk_X11_gates 20 rfl) rfl rfl (mm_ref i1 rfl) ?_
    refine mm_iload C (mm_dec dk_X11_gates 21 rfl) rfl ?_
    refine mm_puti C fl_X11_169 (mm_dec dk_X11_gates 22 rfl) rfl rfl rfl (Or.inl ⟨rfl, rfl⟩) ?_
    have i2 : mm_inv (mm_pf h1 1 8 ((p4 * 20) + p3)) := mm_inv_pf i1 (show 0 ≤ ((p4 * 20) + p3) ∧ ((p4 * 20) + p3) ≤ 399 from ⟨by omega, by omega⟩) (by decide)
    have f2 : mm_fr [(1, 7), (1, 8)] [] h (mm_pf h1 1 8 ((p4 * 20) + p3)) := mm_fr_pf f1 (by decide)
    obtain ⟨h2, eh2⟩ : ∃ z, z = mm_pf h1 1 8 ((p4 * 20) + p3) := ⟨_, rfl⟩
    rw [← eh2] at i2 f2 ⊢
    have qh2 : h2.1 1 8 = ((p4 * 20) + p3) := by rw [eh2]; exact mm_pf_same _ _ _ _
    have qh2_10 : h2.1 1 5 = h1.1 1 5 := by rw [eh2]; exact mm_pf_ne _ _ (by decide)
    have qh2_11 : h2.1 1 6 = h1.1 1 6 := by rw [eh2]; exact mm_pf_ne _ _ (by decide)
    have qh2_12 : h2.1 1 7 = h1.1 1 7 := by rw [eh2]; exact mm_pf_ne _ _ (by decide)
    have qh2_13 : h2.1 22 8 = h1.1 22 8 := by rw [eh2]; exact mm_pf_ne _ _ (by decide)
    refine mm_iconst C (mm_dec dk_X11_gates 23 rfl) ⟨by decide, by decide⟩ ?_
    exact mm_zret C T (mm_dec dk_X11_gates 24 rfl) (by decide : 2 ≤ 2) (by decide : 12 ≤ 12) (by omega) ⟨_, rfl, ⟨⟨by omega, by omega⟩, i2, f2⟩⟩
  · skip
    refine mm_iconst C (mm_dec dk_X11_gates 13 rfl) ⟨by decide, by decide⟩ ?_
    exact mm_zret C T (mm_dec dk_X11_gates 14 rfl) (by decide : 2 ≤ 2) (by decide : 12 ≤ 12) (by omega) ⟨_, rfl, ⟨⟨by omega, by omega⟩, i0, f0⟩⟩
set_option maxRecDepth 100000 in
set_option maxHeartbeats 4000000 in
theorem c_X11_way_e (l : Launch) (hl : l.stackTraces = false) (d : Nat) (hd : 9 ≤ d) (h : mH) (i0 : mm_inv h) (p1 : Int) (p2 : Int) (p3 : Int) (p4 : Int) : mm_Met l d yX11_way cX11_way 7 (some .int) [mR 0, mI p1, mI p2, mI p3, mI p4] h (mm_pi fun r h2 => (-2147483648 ≤ r ∧ r ≤ 2147483647) ∧ mm_inv h2 ∧ mm_fr [(7, 7), (7, 8), (7, 9)] [8, 9, 10, 11, 13] h h2) (mm_xn h) 2 12 := by
  refine mm_ofW (ls := [mR 0, mI p1, mI p2, mI p3, mI p4, mU, mU]) hl (by decide) rfl (Nat.le_of_ble_eq_true rfl) ?_
  intro x hxl C T hnm htb
  subst hxl
  have C1 := mm_OK_le (d' := d - 1 + 1) (by omega) C
  have C8 := mm_OK_le (d' := d - 8 + 8) (by omega) C
  refine mm_rng (fun hr _ => ?_)
  have ap1 : -2147483648 ≤ p1 ∧ p1 < 2147483648 := mm_ok_at hr (i := 1) rfl
  have ap2 : -2147483648 ≤ p2 ∧ p2 < 2147483648 := mm_ok_at hr (i := 2) rfl
  have ap3 : -2147483648 ≤ p3 ∧ p3 < 2147483648 := mm_ok_at hr (i := 3) rfl
  have ap4 : -2147483648 ≤ p4 ∧ p4 < 2147483648 := mm_ok_at hr (i := 4) rfl
  have f0 : mm_fr [(7, 7), (7, 8), (7, 9)] [8, 9, 10, 11, 13] h h := mm_fr_rf
  refine mm_aload_n C (mm_dec dk_X11_way 0 rfl) rfl ?_
  refine mm_iload_n C (mm_dec dk_X11_way 1 rfl) rfl ?_
  refine mm_iload_n C (mm_dec dk_X11_way 2 rfl) rfl ?_
  refine mm_cVi (rest := []) C1 ev_X11_122 (mm_dec dk_X11_way 3 rfl) (c_X11_needCell_e x.2.1 hl (d - 1) (by omega) h i0 p1 p2) rfl rfl (Nat.le_of_ble_eq_true rfl) ⟨by decide, by decide⟩ rfl (fun r3 h3c hp3 => ?_) (fun E hx q => mm_out C T htb (by decide) (by decide) (by exact q))
  obtain ⟨z3, k3_0, k3_1, k3_2, k3_3, k3_4, y3⟩ := hp3
  rw [z3, y3]
  have g2 : 1 ≤ (h.1 1 5) ∧ (h.1 1 5) ≤ 20 := i0.1 1 5
  have g3 : 1 ≤ (h.1 1 6) ∧ (h.1 1 6) ≤ 20 := i0.1 1 6
  refine mm_istoreL (ls2 := [mR 0, mI p1, mI p2, mI p3, mI p4, mI ((p2 * 20) + p1), mU]) C (mm_dec dk_X11_way 4 rfl) (by decide) rfl ?_
  refine mm_aload_n C (mm_dec dk_X11_way 5 rfl) rfl ?_
  refine mm_iload_n C (mm_dec dk_X11_way 6 rfl) rfl ?_
  refine mm_iload C (mm_dec dk_X11_way 7 rfl) rfl ?_
  refine mm_cVi (rest := []) C1 ev_X11_122 (mm_dec dk_X11_way 8 rfl) (c_X11_needCell_e x.2.1 hl (d - 1) (by omega) h i0 p3 p4) rfl rfl (Nat.le_of_ble_eq_true rfl) ⟨by decide, by decide⟩ rfl (fun r12 h12c hp12 => ?_) (fun E hx q => mm_out C T htb (by decide) (by decide) (by exact q))
  obtain ⟨z12, k12_0, k12_1, k12_2, k12_3, k12_4, y12⟩ := hp12
  rw [z12, y12]
  refine mm_istoreL (ls2 := [mR 0, mI p1, mI p2, mI p3, mI p4, mI ((p2 * 20) + p1), mI ((p4 * 20) + p3)]) C (mm_dec dk_X11_way 9 rfl) (by decide) rfl ?_
  refine mm_aload_n C (mm_dec dk_X11_way 10 rfl) rfl ?_
  refine mm_getr (t := 7) C fl_X11_21 (mm_dec dk_X11_way 11 rfl) rfl rfl (mm_ref i0 rfl) ?_
  refine mm_iload C (mm_dec dk_X11_way 12 rfl) rfl ?_
  refine mm_iload C (mm_dec dk_X11_way 13 rfl) rfl ?_
  refine mm_cVi (rest := []) C1 ev_X11_172 (mm_dec dk_X11_way 14 rfl) (c_X10_keepLeast x.2.1 hl (d - 1) (by omega) h i0 ((p2 * 20) + p1) ((p4 * 20) + p3) ⟨by omega, by omega⟩ ⟨by omega, by omega⟩) rfl rfl (Nat.le_of_ble_eq_true rfl) ⟨by decide, by decide⟩ rfl (fun r25 h25c hp25 => ?_) (fun _ _ q => q.elim)
  obtain ⟨b25, i25c, g25c⟩ := hp25
  have f25c : mm_fr [(7, 7), (7, 8), (7, 9)] [8, 9, 10, 11, 13] h h25c := mm_fr_tr f0 g25c (by decide +kernel)
  have q25c_6 : h25c.1 1 5 = h.1 1 5 := g25c.1 1 5 (by decide)
  have q25c_7 : h25c.1 1 6 = h.1 1 6 := g25c.1 1 6 (by decide)
  exact mm_iret C T (mm_dec dk_X11_way 15 rfl) (by decide : 2 ≤ 2) (by decide : 12 ≤ 12) ⟨_, rfl, ⟨⟨by omega, by omega⟩, i25c, f25c⟩⟩
set_option maxRecDepth 100000 in
set_option maxHeartbeats 4000000 in
theorem c_X11_many_e (l : Launch) (hl : l.stackTraces = false) (d : Nat) (hd : 9 ≤ d) (h : mH) (i0 : mm_inv h) (p1 : Int) (p2 : Int) (p3 : Int) (p4 : Int) : mm_Met l d yX11_many cX11_many 7 (some .long) [mR 0, mI p1, mI p2, mI p3, mI p4] h (mm_pl fun r h2 => mm_inv h2 ∧ mm_fr [(7, 7), (7, 8)] [8, 9, 10, 11, 12] h h2) (mm_xn h) 2 12 := by
  refine mm_ofW (ls := [mR 0, mI p1, mI p2, mI p3, mI p4, mU, mU]) hl (by decide) rfl (Nat.le_of_ble_eq_true rfl) ?_
  intro x hxl C T hnm htb
  subst hxl
  have C1 := mm_OK_le (d' := d - 1 + 1) (by omega) C
  have C8 := mm_OK_le (d' := d - 8 + 8) (by omega) C
  refine mm_rng (fun hr _ => ?_)
  have ap1 : -2147483648 ≤ p1 ∧ p1 < 2147483648 := mm_ok_at hr (i := 1) rfl
  have ap2 : -2147483648 ≤ p2 ∧ p2 < 2147483648 := mm_ok_at hr (i := 2) rfl
  have ap3 : -2147483648 ≤ p3 ∧ p3 < 2147483648 := mm_ok_at hr (i := 3) rfl
  have ap4 : -2147483648 ≤ p4 ∧ p4 < 2147483648 := mm_ok_at hr (i := 4) rfl
  have f0 : mm_fr [(7, 7), (7, 8)] [8, 9, 10, 11, 12] h h := mm_fr_rf
  refine mm_aload_n C (mm_dec dk_X11_many 0 rfl) rfl ?_
  refine mm_iload_n C (mm_dec dk_X11_many 1 rfl) rfl ?_
  refine mm_iload_n C (mm_dec dk_X11_many 2 rfl) rfl ?_
  refine mm_cVi (rest := []) C1 ev_X11_122 (mm_dec dk_X11_many 3 rfl) (c_X11_needCell_e x.2.1 hl (d - 1) (by omega) h i0 p1 p2) rfl rfl (Nat.le_of_ble_eq_true rfl) ⟨by decide, by decide⟩ rfl (fun r3 h3c hp3 => ?_) (fun E hx q => mm_out C T htb (by decide) (by decide) (by exact q))
  obtain ⟨z3, k3_0, k3_1, k3_2, k3_3, k3_4, y3⟩ := hp3
  rw [z3, y3]
  have g2 : 1 ≤ (h.1 1 5) ∧ (h.1 1 5) ≤ 20 := i0.1 1 5
  have g3 : 1 ≤ (h.1 1 6) ∧ (h.1 1 6) ≤ 20 := i0.1 1 6
  refine mm_istoreL (ls2 := [mR 0, mI p1, mI p2, mI p3, mI p4, mI ((p2 * 20) + p1), mU]) C (mm_dec dk_X11_many 4 rfl) (by decide) rfl ?_
  refine mm_aload_n C (mm_dec dk_X11_many 5 rfl) rfl ?_
  refine mm_iload_n C (mm_dec dk_X11_many 6 rfl) rfl ?_
  refine mm_iload C (mm_dec dk_X11_many 7 rfl) rfl ?_
  refine mm_cVi (rest := []) C1 ev_X11_122 (mm_dec dk_X11_many 8 rfl) (c_X11_needCell_e x.2.1 hl (d - 1) (by omega) h i0 p3 p4) rfl rfl (Nat.le_of_ble_eq_true rfl) ⟨by decide, by decide⟩ rfl (fun r12 h12c hp12 => ?_) (fun E hx q => mm_out C T htb (by decide) (by decide) (by exact q))
  obtain ⟨z12, k12_0, k12_1, k12_2, k12_3, k12_4, y12⟩ := hp12
  rw [z12, y12]
  refine mm_istoreL (ls2 := [mR 0, mI p1, mI p2, mI p3, mI p4, mI ((p2 * 20) + p1), mI ((p4 * 20) + p3)]) C (mm_dec dk_X11_many 9 rfl) (by decide) rfl ?_
  refine mm_aload_n C (mm_dec dk_X11_many 10 rfl) rfl ?_
  refine mm_getr (t := 7) C fl_X11_21 (mm_dec dk_X11_many 11 rfl) rfl rfl (mm_ref i0 rfl) ?_
  refine mm_iload C (mm_dec dk_X11_many 12 rfl) rfl ?_
  refine mm_iload C (mm_dec dk_X11_many 13 rfl) rfl ?_
  refine mm_cVl (rest := []) C1 ev_X11_187 (mm_dec dk_X11_many 14 rfl) (c_X10_howMany x.2.1 hl (d - 1) (by omega) h i0 ((p2 * 20) + p1) ((p4 * 20) + p3) ⟨by omega, by omega⟩ ⟨by omega, by omega⟩) rfl rfl (Nat.le_of_ble_eq_true rfl) ⟨by decide, by decide⟩ rfl (fun r25 h25c hp25 => ?_) (fun _ _ q => q.elim)
  obtain ⟨i25c, g25c⟩ := hp25
  have f25c : mm_fr [(7, 7), (7, 8)] [8, 9, 10, 11, 12] h h25c := mm_fr_tr f0 g25c (by decide +kernel)
  have q25c_6 : h25c.1 1 5 = h.1 1 5 := g25c.1 1 5 (by decide)
  have q25c_7 : h25c.1 1 6 = h.1 1 6 := g25c.1 1 6 (by decide)
  refine mm_rng (fun _ ho => ?_)
  have b25 : -9223372036854775808 ≤ r25 ∧ r25 < 9223372036854775808 := mm_ok_hd ho
  exact mm_lret C T (mm_dec dk_X11_many 15 rfl) (by decide : 2 ≤ 2) (by decide : 12 ≤ 12) ⟨_, rfl, ⟨i25c, f25c⟩⟩
set_option maxRecDepth 100000 in
set_option maxHeartbeats 4000000 in
theorem c_X11_post_e (l : Launch) (hl : l.stackTraces = false) (d : Nat) (hd : 9 ≤ d) (h : mH) (i0 : mm_inv h) (p1 : Int) (p2 : Int) (p3 : Int) : mm_Met l d yX11_post cX11_post 5 (some .int) [mR 0, mI p1, mI p2, mI p3] h (mm_pi fun r h2 => (-1 ≤ r ∧ r ≤ 19) ∧ mm_inv h2 ∧ mm_fr [(14, 7)] [15, 16] h h2) (mm_xn h) 1 6 := by
  refine mm_ofW (ls := [mR 0, mI p1, mI p2, mI p3, mU]) hl (by decide) rfl (Nat.le_of_ble_eq_true rfl) ?_
  intro x hxl C T hnm htb
  subst hxl
  have C1 := mm_OK_le (d' := d - 1 + 1) (by omega) C
  have C8 := mm_OK_le (d' := d - 8 + 8) (by omega) C
  refine mm_rng (fun hr _ => ?_)
  have ap1 : -2147483648 ≤ p1 ∧ p1 < 2147483648 := mm_ok_at hr (i := 1) rfl
  have ap2 : -2147483648 ≤ p2 ∧ p2 < 2147483648 := mm_ok_at hr (i := 2) rfl
  have ap3 : -2147483648 ≤ p3 ∧ p3 < 2147483648 := mm_ok_at hr (i := 3) rfl
  have f0 : mm_fr [(14, 7)] [15, 16] h h := mm_fr_rf
  refine mm_aload_n C (mm_dec dk_X11_post 0 rfl) rfl ?_
  refine mm_iload_n C (mm_dec dk_X11_post 1 rfl) rfl ?_
  refine mm_iload_n C (mm_dec dk_X11_post 2 rfl) rfl ?_
  refine mm_cVi (rest := []) C1 ev_X11_122 (mm_dec dk_X11_post 3 rfl) (c_X11_needCell_e x.2.1 hl (d - 1) (by omega) h i0 p1 p2) rfl rfl (Nat.le_of_ble_eq_true rfl) ⟨by decide, by decide⟩ rfl (fun r3 h3c hp3 => ?_) (fun E hx q => mm_out C T htb (by decide) (by decide) (by exact q))
  obtain ⟨z3, k3_0, k3_1, k3_2, k3_3, k3_4, y3⟩ := hp3
  rw [z3, y3]
  have g2 : 1 ≤ (h.1 1 5) ∧ (h.1 1 5) ≤ 20 := i0.1 1 5
  have g3 : 1 ≤ (h.1 1 6) ∧ (h.1 1 6) ≤ 20 := i0.1 1 6
  refine mm_istoreL (ls2 := [mR 0, mI p1, mI p2, mI p3, mI ((p2 * 20) + p1)]) C (mm_dec dk_X11_post 4 rfl) (by decide) rfl ?_
  refine mm_aload_n C (mm_dec dk_X11_post 5 rfl) rfl ?_
  refine mm_getr (t := 14) C fl_X11_28 (mm_dec dk_X11_post 6 rfl) rfl rfl (mm_ref i0 rfl) ?_
  refine mm_cVi (rest := []) C1 ev_X11_191 (mm_dec dk_X11_post 7 rfl) (c_X2_posts x.2.1 hl (d - 1) (by omega) h i0 ) rfl rfl (Nat.le_of_ble_eq_true rfl) ⟨by decide, by decide⟩ rfl (fun r12 h12c hp12 => ?_) (fun _ _ q => q.elim)
  obtain ⟨z12, y12⟩ := hp12
  rw [z12, y12]
  have g5 : 0 ≤ (h.1 14 7) ∧ (h.1 14 7) ≤ 20 := i0.1 14 7
  refine mm_bipush C (mm_dec dk_X11_post 8 rfl) ⟨by decide, by decide⟩ ?_
  have J42 : mm_W x 1 6 42 [mU, mU, mU, mU, mU] [] h := by
    refine mm_iconst C (mm_dec dk_X11_post 20 rfl) ⟨by decide, by decide⟩ ?_
    exact mm_iret C T (mm_dec dk_X11_post 21 rfl) (by decide : 1 ≤ 1) (by decide : 6 ≤ 6) ⟨_, rfl, ⟨⟨by omega, by omega⟩, i0, f0⟩⟩
  refine mm_icmp_ge (tgt := 42) C (mm_dec dk_X11_post 9 rfl) (by decide) (fun c17 => ?_) (fun c17 => ?_)
  · skip
    refine mm_fgt 0 ?_
    refine mm_fgt 1 ?_
    refine mm_fgt 2 ?_
    refine mm_fgt 3 ?_
    refine mm_fgt 4 ?_
    exact J42
  · skip
    refine mm_iload_n C (mm_dec dk_X11_post 10 rfl) rfl ?_
    refine mm_iconst C (mm_dec dk_X11_post 11 rfl) ⟨by decide, by decide⟩ ?_
    refine mm_bipush C (mm_dec dk_X11_post 12 rfl) ⟨by decide, by decide⟩ ?_
    refine mm_cSi (rest := []) C1 es_X11_130 (mm_dec dk_X11_post 13 rfl) (c_X11_within x.2.1 hl (d - 1) (by omega) h i0 p3 0 99) rfl (Nat.le_of_ble_eq_true rfl) ⟨by decide, by decide⟩ rfl (fun r24 h24c hp24 => ?_) (fun _ _ q => q.elim)
    obtain ⟨z24, y24⟩ := hp24
    rw [z24]
    refine mm_if_eq (tgt := 42) C (mm_dec dk_X11_post 14 rfl) (by decide) (fun c27 => ?_) (fun c27 => ?_)
    · skip
      refine mm_fgt 0 ?_
      refine mm_fgt 1 ?_
      refine mm_fgt 2 ?_
      refine mm_fgt 3 ?_
      refine mm_fgt 4 ?_
      exact J42
    · skip
      refine mm_aload_n C (mm_dec dk_X11_post 15 rfl) rfl ?_
      refine mm_getr (t := 1) C fl_X11_12 (mm_dec dk_X11_post 16 rfl) rfl rfl (mm_ref i0 rfl) ?_
      refine mm_iload C (mm_dec dk_X11_post 17 rfl) rfl ?_
      refine mm_cVi (rest := []) C1 ev_X11_194 (mm_dec dk_X11_post 18 rfl) (c_X5_canEnter x.2.1 hl (d - 1) (by omega) h i0 ((p2 * 20) + p1) ⟨by omega, by omega⟩) rfl rfl (Nat.le_of_ble_eq_true rfl) ⟨by decide, by decide⟩ rfl (fun r36 h36c hp36 => ?_) (fun _ _ q => q.elim)
      obtain ⟨z36, y36⟩ := hp36
      rw [z36]
      have g8 : 0 ≤ (h.2.1 6 (h.2.1 2 ((p2 * 20) + p1))) ∧ (h.2.1 6 (h.2.1 2 ((p2 * 20) + p1))) ≤ 99 := i0.2.1 6 (h.2.1 2 ((p2 * 20) + p1))
      have g9 : 0 ≤ (h.2.1 2 ((p2 * 20) + p1)) ∧ (h.2.1 2 ((p2 * 20) + p1)) ≤ 7 := i0.2.1 2 ((p2 * 20) + p1)
      refine mm_if_ne (tgt := 44) C (mm_dec dk_X11_post 19 rfl) (by decide) (fun c39 => ?_) (fun c39 => ?_)
      · skip
        refine mm_aload_n C (mm_dec dk_X11_post 22 rfl) rfl ?_
        refine mm_getr (t := 14) C fl_X11_28 (mm_dec dk_X11_post 23 rfl) rfl rfl (mm_ref i0 rfl) ?_
        refine mm_iload C (mm_dec dk_X11_post 24 rfl) rfl ?_
        refine mm_iload_n C (mm_dec dk_X11_post 25 rfl) rfl ?_
        refine mm_cVi (rest := []) C1 ev_X11_197 (mm_dec dk_X11_post 26 rfl) (c_X2_setPost x.2.1 hl (d - 1) (by omega) h i0 ((p2 * 20) + p1) p3 ⟨by omega, by omega⟩ ⟨by omega, by omega⟩ (by omega)) rfl rfl (Nat.le_of_ble_eq_true rfl) ⟨by decide, by decide⟩ rfl (fun r51 h51c hp51 => ?_) (fun _ _ q => q.elim)
        obtain ⟨b51, i51c, g51c⟩ := hp51
        have f51c : mm_fr [(14, 7)] [15, 16] h h51c := mm_fr_tr f0 g51c (by decide +kernel)
        have q51c_11 : h51c.1 1 5 = h.1 1 5 := g51c.1 1 5 (by decide)
        have q51c_12 : h51c.1 1 6 = h.1 1 6 := g51c.1 1 6 (by decide)
        exact mm_iret C T (mm_dec dk_X11_post 27 rfl) (by decide : 1 ≤ 1) (by decide : 6 ≤ 6) ⟨_, rfl, ⟨⟨by omega, by omega⟩, i51c, f51c⟩⟩
      · skip
        refine mm_fgt 0 ?_
        refine mm_fgt 1 ?_
        refine mm_fgt 2 ?_
        refine mm_fgt 3 ?_
        refine mm_fgt 4 ?_
        exact J42
set_option maxRecDepth 100000 in
set_option maxHeartbeats 4000000 in
theorem c_X11_add_e (l : Launch) (hl : l.stackTraces = false) (d : Nat) (hd : 9 ≤ d) (h : mH) (i0 : mm_inv h) (p1 : Int) (p2 : Int) (p3 : Int) (p4 : Int) : mm_Met l d yX11_add cX11_add 5 (some .int) [mR 0, mI p1, mI p2, mI p3, mI p4] h (mm_pi fun r h2 => (-1 ≤ r ∧ r ≤ 12) ∧ mm_inv h2 ∧ mm_fr [] [19, 20, 21] h h2) (mm_xn h) 4 24 := by
  refine mm_ofW (ls := [mR 0, mI p1, mI p2, mI p3, mI p4]) hl (by decide) rfl (Nat.le_of_ble_eq_true rfl) ?_
  intro x hxl C T hnm htb
  subst hxl
  have C1 := mm_OK_le (d' := d - 1 + 1) (by omega) C
  have C8 := mm_OK_le (d' := d - 8 + 8) (by omega) C
  refine mm_rng (fun hr _ => ?_)
  have ap1 : -2147483648 ≤ p1 ∧ p1 < 2147483648 := mm_ok_at hr (i := 1) rfl
  have ap2 : -2147483648 ≤ p2 ∧ p2 < 2147483648 := mm_ok_at hr (i := 2) rfl
  have ap3 : -2147483648 ≤ p3 ∧ p3 < 2147483648 := mm_ok_at hr (i := 3) rfl
  have ap4 : -2147483648 ≤ p4 ∧ p4 < 2147483648 := mm_ok_at hr (i := 4) rfl
  have f0 : mm_fr [] [19, 20, 21] h h := mm_fr_rf
  refine mm_aload_n C (mm_dec dk_X11_add 0 rfl) rfl ?_
  refine mm_iload_n C (mm_dec dk_X11_add 1 rfl) rfl ?_
  refine mm_cVv (rest := []) C1 ev_X11_207 (mm_dec dk_X11_add 2 rfl) (c_X11_needCourse_e x.2.1 hl (d - 1) (by omega) h i0 p1) rfl rfl (Nat.le_of_ble_eq_true rfl) ⟨by decide, by decide⟩ rfl (fun h2c hp2 => ?_) (fun E hx q => mm_out C T htb (by decide) (by decide) (by exact q))
  obtain ⟨z2, k2_0, k2_1⟩ := hp2
  rw [z2]
  have g2 : 0 ≤ (h.1 14 8) ∧ (h.1 14 8) ≤ 8 := i0.1 14 8
  refine mm_aload_n C (mm_dec dk_X11_add 3 rfl) rfl ?_
  refine mm_iload_n C (mm_dec dk_X11_add 4 rfl) rfl ?_
  refine mm_cVv (rest := []) C1 ev_X11_211 (mm_dec dk_X11_add 5 rfl) (c_X11_needPost_e x.2.1 hl (d - 1) (by omega) h i0 p2) rfl rfl (Nat.le_of_ble_eq_true rfl) ⟨by decide, by decide⟩ rfl (fun h7c hp7 => ?_) (fun E hx q => mm_out C T htb (by decide) (by decide) (by exact q))
  obtain ⟨z7, k7_0, k7_1⟩ := hp7
  rw [z7]
  have g4 : 0 ≤ (h.1 14 7) ∧ (h.1 14 7) ≤ 20 := i0.1 14 7
  refine mm_aload_n C (mm_dec dk_X11_add 6 rfl) rfl ?_
  refine mm_iload_n C (mm_dec dk_X11_add 7 rfl) rfl ?_
  refine mm_cVv (rest := []) C1 ev_X11_211 (mm_dec dk_X11_add 8 rfl) (c_X11_needPost_e x.2.1 hl (d - 1) (by omega) h i0 p3) rfl rfl (Nat.le_of_ble_eq_true rfl) ⟨by decide, by decide⟩ rfl (fun h12c hp12 => ?_) (fun E hx q => mm_out C T htb (by decide) (by decide) (by exact q))
  obtain ⟨z12, k12_0, k12_1⟩ := hp12
  rw [z12]
  refine mm_aload_n C (mm_dec dk_X11_add 9 rfl) rfl ?_
  refine mm_iload C (mm_dec dk_X11_add 10 rfl) rfl ?_
  refine mm_cVv (rest := []) C1 ev_X11_211 (mm_dec dk_X11_add 11 rfl) (c_X11_needPost_e x.2.1 hl (d - 1) (by omega) h i0 p4) rfl rfl (Nat.le_of_ble_eq_true rfl) ⟨by decide, by decide⟩ rfl (fun h18c hp18 => ?_) (fun E hx q => mm_out C T htb (by decide) (by decide) (by exact q))
  obtain ⟨z18, k18_0, k18_1⟩ := hp18
  rw [z18]
  refine mm_aload_n C (mm_dec dk_X11_add 12 rfl) rfl ?_
  refine mm_getr (t := 14) C fl_X11_28 (mm_dec dk_X11_add 13 rfl) rfl rfl (mm_ref i0 rfl) ?_
  refine mm_iload_n C (mm_dec dk_X11_add 14 rfl) rfl ?_
  refine mm_cVi (rest := []) C1 ev_X11_214 (mm_dec dk_X11_add 15 rfl) (c_X2_elements x.2.1 hl (d - 1) (by omega) h i0 p1 ⟨by omega, by omega⟩) rfl rfl (Nat.le_of_ble_eq_true rfl) ⟨by decide, by decide⟩ rfl (fun r26 h26c hp26 => ?_) (fun _ _ q => q.elim)
  obtain ⟨z26, y26⟩ := hp26
  rw [z26, y26]
  have g8 : 0 ≤ (h.2.1 19 p1) ∧ (h.2.1 19 p1) ≤ 12 := i0.2.1 19 p1
  refine mm_bipush C (mm_dec dk_X11_add 16 rfl) ⟨by decide, by decide⟩ ?_
  have J45 : mm_W x 4 24 45 [mU, mU, mU, mU, mU] [] h := by
    refine mm_iconst C (mm_dec dk_X11_add 23 rfl) ⟨by decide, by decide⟩ ?_
    exact mm_iret C T (mm_dec dk_X11_add 24 rfl) (by decide : 4 ≤ 4) (by decide : 24 ≤ 24) ⟨_, rfl, ⟨⟨by omega, by omega⟩, i0, f0⟩⟩
  refine mm_icmp_ge (tgt := 45) C (mm_dec dk_X11_add 17 rfl) (by decide) (fun c31 => ?_) (fun c31 => ?_)
  · skip
    refine mm_fgt 0 ?_
    refine mm_fgt 1 ?_
    refine mm_fgt 2 ?_
    refine mm_fgt 3 ?_
    refine mm_fgt 4 ?_
    exact J45
  · skip
    refine mm_aload_n C (mm_dec dk_X11_add 18 rfl) rfl ?_
    refine mm_getr (t := 14) C fl_X11_28 (mm_dec dk_X11_add 19 rfl) rfl rfl (mm_ref i0 rfl) ?_
    refine mm_iload_n C (mm_dec dk_X11_add 20 rfl) rfl ?_
    refine mm_cVi (rest := []) C1 ev_X11_217 (mm_dec dk_X11_add 21 rfl) (c_X2_isTaken x.2.1 hl (d - 1) (by omega) h i0 p1 ⟨by omega, by omega⟩) rfl rfl (Nat.le_of_ble_eq_true rfl) ⟨by decide, by decide⟩ rfl (fun r39 h39c hp39 => ?_) (fun _ _ q => q.elim)
    obtain ⟨z39, y39⟩ := hp39
    rw [z39, y39]
    have g10 : 0 ≤ (h.2.1 18 p1) ∧ (h.2.1 18 p1) ≤ 1 := i0.2.1 18 p1
    refine mm_if_eq (tgt := 47) C (mm_dec dk_X11_add 22 rfl) (by decide) (fun c42 => ?_) (fun c42 => ?_)
    · skip
      refine mm_iload_n C (mm_dec dk_X11_add 25 rfl) rfl ?_
      refine mm_iload_n C (mm_dec dk_X11_add 26 rfl) rfl ?_
      have J77 : mm_W x 4 24 77 [mR 0, mI p1, mI p2, mI p3, mI p4] [] h := by
        refine mm_aload_n C (mm_dec dk_X11_add 41 rfl) rfl ?_
        refine mm_getr (t := 14) C fl_X11_28 (mm_dec dk_X11_add 42 rfl) rfl rfl (mm_ref i0 rfl) ?_
        refine mm_iload_n C (mm_dec dk_X11_add 43 rfl) rfl ?_
        refine mm_iload_n C (mm_dec dk_X11_add 44 rfl) rfl ?_
        refine mm_iload_n C (mm_dec dk_X11_add 45 rfl) rfl ?_
        refine mm_iload C (mm_dec dk_X11_add 46 rfl) rfl ?_
        refine mm_cVi (rest := []) C1 ev_X11_226 (mm_dec dk_X11_add 47 rfl) (c_X2_lengthen x.2.1 hl (d - 1) (by omega) h i0 p1 p2 p3 p4 ⟨by omega, by omega⟩ ⟨by omega, by omega⟩ ⟨by omega, by omega⟩ ⟨by omega, by omega⟩ (by omega)) rfl rfl (Nat.le_of_ble_eq_true rfl) ⟨by decide, by decide⟩ rfl (fun r86 h86c hp86 => ?_) (fun _ _ q => q.elim)
        obtain ⟨b86, i86c, g86c⟩ := hp86
        have f86c : mm_fr [] [19, 20, 21] h h86c := mm_fr_tr f0 g86c (by decide +kernel)
        have q86c_12 : h86c.1 14 7 = h.1 14 7 := g86c.1 14 7 (by decide)
        have q86c_13 : h86c.1 14 8 = h.1 14 8 := g86c.1 14 8 (by decide)
        exact mm_iret C T (mm_dec dk_X11_add 48 rfl) (by decide : 4 ≤ 4) (by decide : 24 ≤ 24) ⟨_, rfl, ⟨⟨by omega, by omega⟩, i86c, f86c⟩⟩
      refine mm_icmp_eq (tgt := 77) C (mm_dec dk_X11_add 27 rfl) (by decide) (fun c49 => ?_) (fun c49 => ?_)
      · skip
        exact J77
      · skip
        refine mm_aload_n C (mm_dec dk_X11_add 28 rfl) rfl ?_
        refine mm_getr (t := 14) C fl_X11_28 (mm_dec dk_X11_add 29 rfl) rfl rfl (mm_ref i0 rfl) ?_
        refine mm_iload_n C (mm_dec dk_X11_add 30 rfl) rfl ?_
        refine mm_cVi (rest := []) C1 ev_X11_220 (mm_dec dk_X11_add 31 rfl) (c_X2_isFree x.2.1 hl (d - 1) (by omega) h i0 p1 ⟨by omega, by omega⟩) rfl rfl (Nat.le_of_ble_eq_true rfl) ⟨by decide, by decide⟩ rfl (fun r57 h57c hp57 => ?_) (fun _ _ q => q.elim)
        obtain ⟨z57, y57⟩ := hp57
        rw [z57, y57]
        have g15 : 0 ≤ (h.2.1 17 p1) ∧ (h.2.1 17 p1) ≤ 1 := i0.2.1 17 p1
        have J75 : mm_W x 4 24 75 [mU, mU, mU, mU, mU] [] h := by
          refine mm_iconst C (mm_dec dk_X11_add 39 rfl) ⟨by decide, by decide⟩ ?_
          exact mm_iret C T (mm_dec dk_X11_add 40 rfl) (by decide : 4 ≤ 4) (by decide : 24 ≤ 24) ⟨_, rfl, ⟨⟨by omega, by omega⟩, i0, f0⟩⟩
        refine mm_if_ne (tgt := 75) C (mm_dec dk_X11_add 32 rfl) (by decide) (fun c60 => ?_) (fun c60 => ?_)
        · skip
          refine mm_fgt 0 ?_
          refine mm_fgt 1 ?_
          refine mm_fgt 2 ?_
          refine mm_fgt 3 ?_
          refine mm_fgt 4 ?_
          exact J75
        · skip
          refine mm_aload_n C (mm_dec dk_X11_add 33 rfl) rfl ?_
          refine mm_getr (t := 14) C fl_X11_28 (mm_dec dk_X11_add 34 rfl) rfl rfl (mm_ref i0 rfl) ?_
          refine mm_iload_n C (mm_dec dk_X11_add 35 rfl) rfl ?_
          refine mm_cVi (rest := []) C1 ev_X11_223 (mm_dec dk_X11_add 36 rfl) (c_X2_forks x.2.1 hl (d - 1) (by omega) h i0 p1 ⟨by omega, by omega⟩) rfl rfl (Nat.le_of_ble_eq_true rfl) ⟨by decide, by decide⟩ rfl (fun r68 h68c hp68 => ?_) (fun _ _ q => q.elim)
          obtain ⟨z68, y68⟩ := hp68
          rw [z68, y68]
          have g17 : -2147483648 ≤ (h.2.1 20 p1) ∧ (h.2.1 20 p1) ≤ 2147483647 := i0.2.1 20 p1
          refine mm_iconst C (mm_dec dk_X11_add 37 rfl) ⟨by decide, by decide⟩ ?_
          refine mm_icmp_lt (tgt := 77) C (mm_dec dk_X11_add 38 rfl) (by decide) (fun c72 => ?_) (fun c72 => ?_)
          · skip
            exact J77
          · skip
            refine mm_fgt 0 ?_
            refine mm_fgt 1 ?_
            refine mm_fgt 2 ?_
            refine mm_fgt 3 ?_
            refine mm_fgt 4 ?_
            exact J75
    · skip
      refine mm_fgt 0 ?_
      refine mm_fgt 1 ?_
      refine mm_fgt 2 ?_
      refine mm_fgt 3 ?_
      refine mm_fgt 4 ?_
      exact J45
set_option maxRecDepth 100000 in
set_option maxHeartbeats 4000000 in
theorem c_X11_runner_e (l : Launch) (hl : l.stackTraces = false) (d : Nat) (hd : 9 ≤ d) (h : mH) (i0 : mm_inv h) (p1 : Int) (p2 : Int) (p3 : Int) : mm_Met l d yX11_runner cX11_runner 4 (some .int) [mR 0, mI p1, mI p2, mI p3] h (mm_pi fun r h2 => (-1 ≤ r ∧ r ≤ 39) ∧ mm_inv h2 ∧ mm_fr [(22, 8)] [18, 23, 24, 25, 26, 27, 28] h h2) (mm_xn h) 1 6 := by
  refine mm_ofW (ls := [mR 0, mI p1, mI p2, mI p3]) hl (by decide) rfl (Nat.le_of_ble_eq_true rfl) ?_
  intro x hxl C T hnm htb
  subst hxl
  have C1 := mm_OK_le (d' := d - 1 + 1) (by omega) C
  have C8 := mm_OK_le (d' := d - 8 + 8) (by omega) C
  refine mm_rng (fun hr _ => ?_)
  have ap1 : -2147483648 ≤ p1 ∧ p1 < 2147483648 := mm_ok_at hr (i := 1) rfl
  have ap2 : -2147483648 ≤ p2 ∧ p2 < 2147483648 := mm_ok_at hr (i := 2) rfl
  have ap3 : -2147483648 ≤ p3 ∧ p3 < 2147483648 := mm_ok_at hr (i := 3) rfl
  have f0 : mm_fr [(22, 8)] [18, 23, 24, 25, 26, 27, 28] h h := mm_fr_rf
  refine mm_aload_n C (mm_dec dk_X11_runner 0 rfl) rfl ?_
  refine mm_iload_n C (mm_dec dk_X11_runner 1 rfl) rfl ?_
  refine mm_cVv (rest := []) C1 ev_X11_207 (mm_dec dk_X11_runner 2 rfl) (c_X11_needCourse_e x.2.1 hl (d - 1) (by omega) h i0 p1) rfl rfl (Nat.le_of_ble_eq_true rfl) ⟨by decide, by decide⟩ rfl (fun h2c hp2 => ?_) (fun E hx q => mm_out C T htb (by decide) (by decide) (by exact q))
  obtain ⟨z2, k2_0, k2_1⟩ := hp2
  rw [z2]
  have g2 : 0 ≤ (h.1 14 8) ∧ (h.1 14 8) ≤ 8 := i0.1 14 8
  refine mm_aload_n C (mm_dec dk_X11_runner 3 rfl) rfl ?_
  refine mm_getr (t := 22) C fl_X11_37 (mm_dec dk_X11_runner 4 rfl) rfl rfl (mm_ref i0 rfl) ?_
  refine mm_cVi (rest := []) C1 ev_X11_230 (mm_dec dk_X11_runner 5 rfl) (c_X9_size x.2.1 hl (d - 1) (by omega) h i0 ) rfl rfl (Nat.le_of_ble_eq_true rfl) ⟨by decide, by decide⟩ rfl (fun r9 h9c hp9 => ?_) (fun _ _ q => q.elim)
  obtain ⟨z9, y9⟩ := hp9
  rw [z9, y9]
  have g4 : 0 ≤ (h.1 22 8) ∧ (h.1 22 8) ≤ 40 := i0.1 22 8
  refine mm_bipush C (mm_dec dk_X11_runner 6 rfl) ⟨by decide, by decide⟩ ?_
  have J37 : mm_W x 1 6 37 [mU, mU, mU, mU] [] h := by
    refine mm_iconst C (mm_dec dk_X11_runner 18 rfl) ⟨by decide, by decide⟩ ?_
    exact mm_iret C T (mm_dec dk_X11_runner 19 rfl) (by decide : 1 ≤ 1) (by decide : 6 ≤ 6) ⟨_, rfl, ⟨⟨by omega, by omega⟩, i0, f0⟩⟩
  refine mm_icmp_ge (tgt := 37) C (mm_dec dk_X11_runner 7 rfl) (by decide) (fun c14 => ?_) (fun c14 => ?_)
  · skip
    refine mm_fgt 0 ?_
    refine mm_fgt 1 ?_
    refine mm_fgt 2 ?_
    refine mm_fgt 3 ?_
    exact J37
  · skip
    refine mm_iload_n C (mm_dec dk_X11_runner 8 rfl) rfl ?_
    refine mm_iconst C (mm_dec dk_X11_runner 9 rfl) ⟨by decide, by decide⟩ ?_
    refine mm_bipush C (mm_dec dk_X11_runner 10 rfl) ⟨by decide, by decide⟩ ?_
    refine mm_cSi (rest := []) C1 es_X11_130 (mm_dec dk_X11_runner 11 rfl) (c_X11_within x.2.1 hl (d - 1) (by omega) h i0 p2 0 9) rfl (Nat.le_of_ble_eq_true rfl) ⟨by decide, by decide⟩ rfl (fun r21 h21c hp21 => ?_) (fun _ _ q => q.elim)
    obtain ⟨z21, y21⟩ := hp21
    rw [z21]
    refine mm_if_eq (tgt := 37) C (mm_dec dk_X11_runner 12 rfl) (by decide) (fun c24 => ?_) (fun c24 => ?_)
    · skip
      refine mm_fgt 0 ?_
      refine mm_fgt 1 ?_
      refine mm_fgt 2 ?_
      refine mm_fgt 3 ?_
      exact J37
    · skip
      refine mm_iload_n C (mm_dec dk_X11_runner 13 rfl) rfl ?_
      refine mm_iconst C (mm_dec dk_X11_runner 14 rfl) ⟨by decide, by decide⟩ ?_
      refine mm_bipush C (mm_dec dk_X11_runner 15 rfl) ⟨by decide, by decide⟩ ?_
      refine mm_cSi (rest := []) C1 es_X11_130 (mm_dec dk_X11_runner 16 rfl) (c_X11_within x.2.1 hl (d - 1) (by omega) h i0 p3 0 80) rfl (Nat.le_of_ble_eq_true rfl) ⟨by decide, by decide⟩ rfl (fun r31 h31c hp31 => ?_) (fun _ _ q => q.elim)
      obtain ⟨z31, y31⟩ := hp31
      rw [z31]
      refine mm_if_ne (tgt := 39) C (mm_dec dk_X11_runner 17 rfl) (by decide) (fun c34 => ?_) (fun c34 => ?_)
      · skip
        refine mm_aload_n C (mm_dec dk_X11_runner 20 rfl) rfl ?_
        refine mm_getr (t := 22) C fl_X11_37 (mm_dec dk_X11_runner 21 rfl) rfl rfl (mm_ref i0 rfl) ?_
        refine mm_iload_n C (mm_dec dk_X11_runner 22 rfl) rfl ?_
        refine mm_iload_n C (mm_dec dk_X11_runner 23 rfl) rfl ?_
        refine mm_iload_n C (mm_dec dk_X11_runner 24 rfl) rfl ?_
        refine mm_cVi (rest := []) C1 ev_X11_231 (mm_dec dk_X11_runner 25 rfl) (c_X9_enter x.2.1 hl (d - 1) (by omega) h i0 p1 p2 p3 ⟨by omega, by omega⟩ ⟨by omega, by omega⟩ ⟨by omega, by omega⟩ (by omega)) rfl rfl (Nat.le_of_ble_eq_true rfl) ⟨by decide, by decide⟩ rfl (fun r46 h46c hp46 => ?_) (fun _ _ q => q.elim)
        obtain ⟨b46, i46c, g46c⟩ := hp46
        have f46c : mm_fr [(22, 8)] [18, 23, 24, 25, 26, 27, 28] h h46c := mm_fr_tr f0 g46c (by decide +kernel)
        have q46c_8 : h46c.1 14 8 = h.1 14 8 := g46c.1 14 8 (by decide)
        exact mm_iret C T (mm_dec dk_X11_runner 26 rfl) (by decide : 1 ≤ 1) (by decide : 6 ≤ 6) ⟨_, rfl, ⟨⟨by omega, by omega⟩, i46c, f46c⟩⟩
      · skip
        refine mm_fgt 0 ?_
        refine mm_fgt 1 ?_
        refine mm_fgt 2 ?_
        refine mm_fgt 3 ?_
        exact J37
set_option maxRecDepth 100000 in
set_option maxHeartbeats 4000000 in
theorem c_X11_row_e (l : Launch) (hl : l.stackTraces = false) (d : Nat) (hd : 9 ≤ d) (h : mH) (i0 : mm_inv h) (p1 : Int) (p2 : Int) : mm_Met l d yX11_row cX11_row 3 (some .int) [mR 0, mI p1, mI p2] h (mm_pi fun r h2 => (-2147483648 ≤ r ∧ r ≤ 2147483647) ∧ mm_inv h2 ∧ mm_fr [(7, 7), (7, 8)] [8, 9, 10, 11, 61] h h2) (mm_xn h) 2 12 := by
  refine mm_ofW (ls := [mR 0, mI p1, mI p2]) hl (by decide) rfl (Nat.le_of_ble_eq_true rfl) ?_
  intro x hxl C T hnm htb
  subst hxl
  have C1 := mm_OK_le (d' := d - 1 + 1) (by omega) C
  have C8 := mm_OK_le (d' := d - 8 + 8) (by omega) C
  refine mm_rng (fun hr _ => ?_)
  have ap1 : -2147483648 ≤ p1 ∧ p1 < 2147483648 := mm_ok_at hr (i := 1) rfl
  have ap2 : -2147483648 ≤ p2 ∧ p2 < 2147483648 := mm_ok_at hr (i := 2) rfl
  have f0 : mm_fr [(7, 7), (7, 8)] [8, 9, 10, 11, 61] h h := mm_fr_rf
  refine mm_aload_n C (mm_dec dk_X11_row 0 rfl) rfl ?_
  refine mm_iload_n C (mm_dec dk_X11_row 1 rfl) rfl ?_
  refine mm_cVv (rest := []) C1 ev_X11_235 (mm_dec dk_X11_row 2 rfl) (c_X11_needRunner_e x.2.1 hl (d - 1) (by omega) h i0 p1) rfl rfl (Nat.le_of_ble_eq_true rfl) ⟨by decide, by decide⟩ rfl (fun h2c hp2 => ?_) (fun E hx q => mm_out C T htb (by decide) (by decide) (by exact q))
  obtain ⟨z2, k2_0, k2_1⟩ := hp2
  rw [z2]
  have g2 : 0 ≤ (h.1 22 8) ∧ (h.1 22 8) ≤ 40 := i0.1 22 8
  refine mm_iload_n C (mm_dec dk_X11_row 3 rfl) rfl ?_
  refine mm_iconst C (mm_dec dk_X11_row 4 rfl) ⟨by decide, by decide⟩ ?_
  refine mm_icmp_ne (tgt := 19) C (mm_dec dk_X11_row 5 rfl) (by decide) (fun c7 => ?_) (fun c7 => ?_)
  · skip
    refine mm_iload_n C (mm_dec dk_X11_row 11 rfl) rfl ?_
    refine mm_bipush C (mm_dec dk_X11_row 12 rfl) ⟨by decide, by decide⟩ ?_
    refine mm_icmp_ne (tgt := 31) C (mm_dec dk_X11_row 13 rfl) (by decide) (fun c22 => ?_) (fun c22 => ?_)
    · skip
      refine mm_aload_n C (mm_dec dk_X11_row 18 rfl) rfl ?_
      refine mm_iload_n C (mm_dec dk_X11_row 19 rfl) rfl ?_
      refine mm_iload_n C (mm_dec dk_X11_row 20 rfl) rfl ?_
      refine mm_cVv (rest := []) C1 ev_X11_244 (mm_dec dk_X11_row 21 rfl) (c_X11_needPlace_e x.2.1 hl (d - 1) (by omega) h i0 p1 p2 ⟨by omega, by omega⟩) rfl rfl (Nat.le_of_ble_eq_true rfl) ⟨by decide, by decide⟩ rfl (fun h34c hp34 => ?_) (fun E hx q => mm_out C T htb (by decide) (by decide) (by exact q))
      obtain ⟨z34, k34_0, k34_1⟩ := hp34
      rw [z34]
      have g4 : 0 ≤ (h.2.1 19 (h.2.1 23 p1)) ∧ (h.2.1 19 (h.2.1 23 p1)) ≤ 12 := i0.2.1 19 (h.2.1 23 p1)
      have g5 : 0 ≤ (h.2.1 23 p1) ∧ (h.2.1 23 p1) ≤ 7 := i0.2.1 23 p1
      refine mm_aload_n C (mm_dec dk_X11_row 22 rfl) rfl ?_
      refine mm_getr (t := 22) C fl_X11_37 (mm_dec dk_X11_row 23 rfl) rfl rfl (mm_ref i0 rfl) ?_
      refine mm_iload_n C (mm_dec dk_X11_row 24 rfl) rfl ?_
      refine mm_aload_n C (mm_dec dk_X11_row 25 rfl) rfl ?_
      refine mm_getr (t := 61) C fl_X11_82 (mm_dec dk_X11_row 26 rfl) rfl rfl (mm_ref i0 rfl) ?_
      refine mm_cVi (rest := []) C1 ev_X11_247 (mm_dec dk_X11_row 27 rfl) (c_X9_fillPosts_61 x.2.1 hl (d - 1) (by omega) h i0 p1 ⟨by omega, by omega⟩) rfl rfl (Nat.le_of_ble_eq_true rfl) ⟨by decide, by decide⟩ rfl (fun r46 h46c hp46 => ?_) (fun _ _ q => q.elim)
      obtain ⟨b46, i46c, g46c, y46_0⟩ := hp46
      have f46c : mm_fr [(7, 7), (7, 8)] [8, 9, 10, 11, 61] h h46c := mm_fr_tr f0 g46c (by decide +kernel)
      have q46c_7 : h46c.1 22 8 = h.1 22 8 := g46c.1 22 8 (by decide)
      refine mm_pop C (mm_dec dk_X11_row 28 rfl) (show (0 : Nat) ≠ 1 by decide) ?_
      refine mm_aload_n C (mm_dec dk_X11_row 29 rfl) rfl ?_
      refine mm_getr (t := 61) C fl_X11_82 (mm_dec dk_X11_row 30 rfl) rfl rfl (mm_ref i46c rfl) ?_
      refine mm_iload_n C (mm_dec dk_X11_row 31 rfl) rfl ?_
      refine mm_iald C (mm_dec dk_X11_row 32 rfl) rfl (by omega) (by omega) ?_
      have g8 : 0 ≤ (h46c.2.1 61 p2) ∧ (h46c.2.1 61 p2) ≤ 399 := i46c.2.1 61 p2
      exact mm_iret C T (mm_dec dk_X11_row 33 rfl) (by decide : 2 ≤ 2) (by decide : 12 ≤ 12) ⟨_, rfl, ⟨⟨by omega, by omega⟩, i46c, f46c⟩⟩
    · skip
      refine mm_aload_n C (mm_dec dk_X11_row 14 rfl) rfl ?_
      refine mm_iload_n C (mm_dec dk_X11_row 15 rfl) rfl ?_
      refine mm_cVi (rest := []) C1 ev_X11_241 (mm_dec dk_X11_row 16 rfl) (c_X11_lengthOf x.2.1 hl (d - 1) (by omega) h i0 p1 ⟨by omega, by omega⟩) rfl rfl (Nat.le_of_ble_eq_true rfl) ⟨by decide, by decide⟩ rfl (fun r27 h27c hp27 => ?_) (fun _ _ q => q.elim)
      obtain ⟨b27, i27c, g27c⟩ := hp27
      have f27c : mm_fr [(7, 7), (7, 8)] [8, 9, 10, 11, 61] h h27c := mm_fr_tr f0 g27c (by decide +kernel)
      have q27c_10 : h27c.1 22 8 = h.1 22 8 := g27c.1 22 8 (by decide)
      exact mm_iret C T (mm_dec dk_X11_row 17 rfl) (by decide : 1 ≤ 2) (by decide : 6 ≤ 12) ⟨_, rfl, ⟨⟨by omega, by omega⟩, i27c, f27c⟩⟩
  · skip
    refine mm_aload_n C (mm_dec dk_X11_row 6 rfl) rfl ?_
    refine mm_getr (t := 22) C fl_X11_37 (mm_dec dk_X11_row 7 rfl) rfl rfl (mm_ref i0 rfl) ?_
    refine mm_iload_n C (mm_dec dk_X11_row 8 rfl) rfl ?_
    refine mm_cVi (rest := []) C1 ev_X11_238 (mm_dec dk_X11_row 9 rfl) (c_X9_rowSize x.2.1 hl (d - 1) (by omega) h i0 p1 ⟨by omega, by omega⟩) rfl rfl (Nat.le_of_ble_eq_true rfl) ⟨by decide, by decide⟩ rfl (fun r15 h15c hp15 => ?_) (fun _ _ q => q.elim)
    obtain ⟨z15, y15⟩ := hp15
    rw [z15, y15]
    have g12 : 0 ≤ (h.2.1 19 (h.2.1 23 p1)) ∧ (h.2.1 19 (h.2.1 23 p1)) ≤ 12 := i0.2.1 19 (h.2.1 23 p1)
    have g13 : 0 ≤ (h.2.1 23 p1) ∧ (h.2.1 23 p1) ≤ 7 := i0.2.1 23 p1
    exact mm_iret C T (mm_dec dk_X11_row 10 rfl) (by decide : 1 ≤ 2) (by decide : 6 ≤ 12) ⟨_, rfl, ⟨⟨by omega, by omega⟩, i0, f0⟩⟩
set_option maxRecDepth 100000 in
set_option maxHeartbeats 4000000 in
theorem c_X11_team_e (l : Launch) (hl : l.stackTraces = false) (d : Nat) (hd : 9 ≤ d) (h : mH) (i0 : mm_inv h) (p1 : Int) (p2 : Int) (p3 : Int) : mm_Met l d yX11_team cX11_team 4 (some .int) [mR 0, mI p1, mI p2, mI p3] h (mm_pi fun r h2 => (-1 ≤ r ∧ r ≤ 9) ∧ mm_inv h2 ∧ mm_fr [(22, 9)] [27, 28, 29] h h2) (mm_xn h) 3 18 := by
  refine mm_ofW (ls := [mR 0, mI p1, mI p2, mI p3]) hl (by decide) rfl (Nat.le_of_ble_eq_true rfl) ?_
  intro x hxl C T hnm htb
  subst hxl
  have C1 := mm_OK_le (d' := d - 1 + 1) (by omega) C
  have C8 := mm_OK_le (d' := d - 8 + 8) (by omega) C
  refine mm_rng (fun hr _ => ?_)
  have ap1 : -2147483648 ≤ p1 ∧ p1 < 2147483648 := mm_ok_at hr (i := 1) rfl
  have ap2 : -2147483648 ≤ p2 ∧ p2 < 2147483648 := mm_ok_at hr (i := 2) rfl
  have ap3 : -2147483648 ≤ p3 ∧ p3 < 2147483648 := mm_ok_at hr (i := 3) rfl
  have f0 : mm_fr [(22, 9)] [27, 28, 29] h h := mm_fr_rf
  refine mm_aload_n C (mm_dec dk_X11_team 0 rfl) rfl ?_
  refine mm_iload_n C (mm_dec dk_X11_team 1 rfl) rfl ?_
  refine mm_cVv (rest := []) C1 ev_X11_235 (mm_dec dk_X11_team 2 rfl) (c_X11_needRunner_e x.2.1 hl (d - 1) (by omega) h i0 p1) rfl rfl (Nat.le_of_ble_eq_true rfl) ⟨by decide, by decide⟩ rfl (fun h2c hp2 => ?_) (fun E hx q => mm_out C T htb (by decide) (by decide) (by exact q))
  obtain ⟨z2, k2_0, k2_1⟩ := hp2
  rw [z2]
  have g2 : 0 ≤ (h.1 22 8) ∧ (h.1 22 8) ≤ 40 := i0.1 22 8
  refine mm_aload_n C (mm_dec dk_X11_team 3 rfl) rfl ?_
  refine mm_iload_n C (mm_dec dk_X11_team 4 rfl) rfl ?_
  refine mm_cVv (rest := []) C1 ev_X11_235 (mm_dec dk_X11_team 5 rfl) (c_X11_needRunner_e x.2.1 hl (d - 1) (by omega) h i0 p2) rfl rfl (Nat.le_of_ble_eq_true rfl) ⟨by decide, by decide⟩ rfl (fun h7c hp7 => ?_) (fun E hx q => mm_out C T htb (by decide) (by decide) (by exact q))
  obtain ⟨z7, k7_0, k7_1⟩ := hp7
  rw [z7]
  refine mm_aload_n C (mm_dec dk_X11_team 6 rfl) rfl ?_
  refine mm_iload_n C (mm_dec dk_X11_team 7 rfl) rfl ?_
  refine mm_cVv (rest := []) C1 ev_X11_235 (mm_dec dk_X11_team 8 rfl) (c_X11_needRunner_e x.2.1 hl (d - 1) (by omega) h i0 p3) rfl rfl (Nat.le_of_ble_eq_true rfl) ⟨by decide, by decide⟩ rfl (fun h12c hp12 => ?_) (fun E hx q => mm_out C T htb (by decide) (by decide) (by exact q))
  obtain ⟨z12, k12_0, k12_1⟩ := hp12
  rw [z12]
  refine mm_aload_n C (mm_dec dk_X11_team 9 rfl) rfl ?_
  refine mm_getr (t := 22) C fl_X11_37 (mm_dec dk_X11_team 10 rfl) rfl rfl (mm_ref i0 rfl) ?_
  refine mm_cVi (rest := []) C1 ev_X11_251 (mm_dec dk_X11_team 11 rfl) (c_X9_teams x.2.1 hl (d - 1) (by omega) h i0 ) rfl rfl (Nat.le_of_ble_eq_true rfl) ⟨by decide, by decide⟩ rfl (fun r19 h19c hp19 => ?_) (fun _ _ q => q.elim)
  obtain ⟨z19, y19⟩ := hp19
  rw [z19, y19]
  have g6 : 0 ≤ (h.1 22 9) ∧ (h.1 22 9) ≤ 10 := i0.1 22 9
  refine mm_bipush C (mm_dec dk_X11_team 12 rfl) ⟨by decide, by decide⟩ ?_
  have J40 : mm_W x 3 18 40 [mU, mU, mU, mU] [] h := by
    refine mm_iconst C (mm_dec dk_X11_team 21 rfl) ⟨by decide, by decide⟩ ?_
    exact mm_iret C T (mm_dec dk_X11_team 22 rfl) (by decide : 3 ≤ 3) (by decide : 18 ≤ 18) ⟨_, rfl, ⟨⟨by omega, by omega⟩, i0, f0⟩⟩
  refine mm_icmp_ge (tgt := 40) C (mm_dec dk_X11_team 13 rfl) (by decide) (fun c24 => ?_) (fun c24 => ?_)
  · skip
    refine mm_fgt 0 ?_
    refine mm_fgt 1 ?_
    refine mm_fgt 2 ?_
    refine mm_fgt 3 ?_
    exact J40
  · skip
    refine mm_aload_n C (mm_dec dk_X11_team 14 rfl) rfl ?_
    refine mm_getr (t := 22) C fl_X11_37 (mm_dec dk_X11_team 15 rfl) rfl rfl (mm_ref i0 rfl) ?_
    refine mm_iload_n C (mm_dec dk_X11_team 16 rfl) rfl ?_
    refine mm_iload_n C (mm_dec dk_X11_team 17 rfl) rfl ?_
    refine mm_iload_n C (mm_dec dk_X11_team 18 rfl) rfl ?_
    refine mm_cVi (rest := []) C1 ev_X11_254 (mm_dec dk_X11_team 19 rfl) (c_X9_canBeTeam x.2.1 hl (d - 1) (by omega) h i0 p1 p2 p3 ⟨by omega, by omega⟩ ⟨by omega, by omega⟩ ⟨by omega, by omega⟩) rfl rfl (Nat.le_of_ble_eq_true rfl) ⟨by decide, by decide⟩ rfl (fun r34 h34c hp34 => ?_) (fun _ _ q => q.elim)
    obtain ⟨b34, z34⟩ := hp34
    rw [z34]
    refine mm_if_ne (tgt := 42) C (mm_dec dk_X11_team 20 rfl) (by decide) (fun c37 => ?_) (fun c37 => ?_)
    · skip
      refine mm_aload_n C (mm_dec dk_X11_team 23 rfl) rfl ?_
      refine mm_getr (t := 22) C fl_X11_37 (mm_dec dk_X11_team 24 rfl) rfl rfl (mm_ref i0 rfl) ?_
      refine mm_iload_n C (mm_dec dk_X11_team 25 rfl) rfl ?_
      refine mm_iload_n C (mm_dec dk_X11_team 26 rfl) rfl ?_
      refine mm_iload_n C (mm_dec dk_X11_team 27 rfl) rfl ?_
      refine mm_cVi (rest := []) C1 ev_X11_257 (mm_dec dk_X11_team 28 rfl) (c_X9_join x.2.1 hl (d - 1) (by omega) h i0 p1 p2 p3 ⟨by omega, by omega⟩ ⟨by omega, by omega⟩ ⟨by omega, by omega⟩ (by omega)) rfl rfl (Nat.le_of_ble_eq_true rfl) ⟨by decide, by decide⟩ rfl (fun r49 h49c hp49 => ?_) (fun _ _ q => q.elim)
      obtain ⟨b49, i49c, g49c⟩ := hp49
      have f49c : mm_fr [(22, 9)] [27, 28, 29] h h49c := mm_fr_tr f0 g49c (by decide +kernel)
      have q49c_9 : h49c.1 22 8 = h.1 22 8 := g49c.1 22 8 (by decide)
      exact mm_iret C T (mm_dec dk_X11_team 29 rfl) (by decide : 3 ≤ 3) (by decide : 18 ≤ 18) ⟨_, rfl, ⟨⟨by omega, by omega⟩, i49c, f49c⟩⟩
    · skip
      refine mm_fgt 0 ?_
      refine mm_fgt 1 ?_
      refine mm_fgt 2 ?_
      refine mm_fgt 3 ?_
      exact J40
set_option maxRecDepth 100000 in
set_option maxHeartbeats 4000000 in
theorem c_X11_event_e (l : Launch) (hl : l.stackTraces = false) (d : Nat) (hd : 9 ≤ d) (h : mH) (i0 : mm_inv h) (p1 : Int) (p2 : Int) (p3 : Int) (p4 : Int) : mm_Met l d yX11_event cX11_event 6 (some .int) [mR 0, mI p1, mI p2, mI p3, mI p4] h (mm_pi fun r h2 => (-1 ≤ r ∧ r ≤ 499) ∧ mm_inv h2 ∧ mm_fr [(30, 6)] [31, 32, 33, 34, 35, 36] h h2) (mm_xn h) 2 12 := by
  refine mm_ofW (ls := [mR 0, mI p1, mI p2, mI p3, mI p4, mU]) hl (by decide) rfl (Nat.le_of_ble_eq_true rfl) ?_
  intro x hxl C T hnm htb
  subst hxl
  have C1 := mm_OK_le (d' := d - 1 + 1) (by omega) C
  have C8 := mm_OK_le (d' := d - 8 + 8) (by omega) C
  refine mm_rng (fun hr _ => ?_)
  have ap1 : -2147483648 ≤ p1 ∧ p1 < 2147483648 := mm_ok_at hr (i := 1) rfl
  have ap2 : -2147483648 ≤ p2 ∧ p2 < 2147483648 := mm_ok_at hr (i := 2) rfl
  have ap3 : -2147483648 ≤ p3 ∧ p3 < 2147483648 := mm_ok_at hr (i := 3) rfl
  have ap4 : -2147483648 ≤ p4 ∧ p4 < 2147483648 := mm_ok_at hr (i := 4) rfl
  have f0 : mm_fr [(30, 6)] [31, 32, 33, 34, 35, 36] h h := mm_fr_rf
  refine mm_iload_n C (mm_dec dk_X11_event 0 rfl) rfl ?_
  refine mm_iconst C (mm_dec dk_X11_event 1 rfl) ⟨by decide, by decide⟩ ?_
  refine mm_iconst C (mm_dec dk_X11_event 2 rfl) ⟨by decide, by decide⟩ ?_
  refine mm_cSi (rest := []) C1 es_X11_130 (mm_dec dk_X11_event 3 rfl) (c_X11_within x.2.1 hl (d - 1) (by omega) h i0 p1 0 2) rfl (Nat.le_of_ble_eq_true rfl) ⟨by decide, by decide⟩ rfl (fun r3 h3c hp3 => ?_) (fun _ _ q => q.elim)
  obtain ⟨z3, y3⟩ := hp3
  rw [z3]
  refine mm_if_ne (tgt := 20) C (mm_dec dk_X11_event 4 rfl) (by decide) (fun c6 => ?_) (fun c6 => ?_)
  · skip
    refine mm_aload_n C (mm_dec dk_X11_event 10 rfl) rfl ?_
    refine mm_iload_n C (mm_dec dk_X11_event 11 rfl) rfl ?_
    refine mm_cVv (rest := []) C1 ev_X11_235 (mm_dec dk_X11_event 12 rfl) (c_X11_needRunner_e x.2.1 hl (d - 1) (by omega) h i0 p2) rfl rfl (Nat.le_of_ble_eq_true rfl) ⟨by decide, by decide⟩ rfl (fun h22c hp22 => ?_) (fun E hx q => mm_out C T htb (by decide) (by decide) (by exact q))
    obtain ⟨z22, k22_0, k22_1⟩ := hp22
    rw [z22]
    have g3 : 0 ≤ (h.1 22 8) ∧ (h.1 22 8) ≤ 40 := i0.1 22 8
    refine mm_iload_n C (mm_dec dk_X11_event 13 rfl) rfl ?_
    refine mm_iconst C (mm_dec dk_X11_event 14 rfl) ⟨by decide, by decide⟩ ?_
    have J35 : mm_W x 2 12 35 [mR 0, mI p1, mI p2, mI p3, mI p4, mU] [] h := by
      refine mm_iload_n C (mm_dec dk_X11_event 19 rfl) rfl ?_
      have J49 : ∀ (s49_0 : Int) (bs49_0 : 0 ≤ s49_0 ∧ s49_0 ≤ 99999), mm_W x 2 12 49 [mR 0, mI p1, mI p2, mI p3, mI p4, mU] [mI s49_0] h := by
        intro s49_0 bs49_0
        refine mm_istoreL (ls2 := [mR 0, mI p1, mI p2, mI p3, mI p4, mI s49_0]) C (mm_dec dk_X11_event 25 rfl) (by decide) rfl ?_
        refine mm_aload_n C (mm_dec dk_X11_event 26 rfl) rfl ?_
        refine mm_getr (t := 30) C fl_X11_44 (mm_dec dk_X11_event 27 rfl) rfl rfl (mm_ref i0 rfl) ?_
        refine mm_cVi (rest := []) C1 ev_X11_268 (mm_dec dk_X11_event 28 rfl) (c_X6_events x.2.1 hl (d - 1) (by omega) h i0 ) rfl rfl (Nat.le_of_ble_eq_true rfl) ⟨by decide, by decide⟩ rfl (fun r55 h55c hp55 => ?_) (fun _ _ q => q.elim)
        obtain ⟨z55, y55⟩ := hp55
        rw [z55, y55]
        have g5 : 0 ≤ (h.1 30 6) ∧ (h.1 30 6) ≤ 500 := i0.1 30 6
        refine mm_sipush C (mm_dec dk_X11_event 29 rfl) ⟨by decide, by decide⟩ ?_
        have J75 : mm_W x 2 12 75 [mU, mU, mU, mU, mU, mU] [] h := by
          refine mm_iconst C (mm_dec dk_X11_event 36 rfl) ⟨by decide, by decide⟩ ?_
          exact mm_iret C T (mm_dec dk_X11_event 37 rfl) (by decide : 2 ≤ 2) (by decide : 12 ≤ 12) ⟨_, rfl, ⟨⟨by omega, by omega⟩, i0, f0⟩⟩
        refine mm_icmp_ge (tgt := 75) C (mm_dec dk_X11_event 30 rfl) (by decide) (fun c61 => ?_) (fun c61 => ?_)
        · skip
          refine mm_fgt 0 ?_
          refine mm_fgt 1 ?_
          refine mm_fgt 2 ?_
          refine mm_fgt 3 ?_
          refine mm_fgt 4 ?_
          refine mm_fgt 5 ?_
          exact J75
        · skip
          refine mm_iload C (mm_dec dk_X11_event 31 rfl) rfl ?_
          refine mm_iconst C (mm_dec dk_X11_event 32 rfl) ⟨by decide, by decide⟩ ?_
          refine mm_iload C (mm_dec dk_X11_event 33 rfl) rfl ?_
          refine mm_cSi (rest := []) C1 es_X11_130 (mm_dec dk_X11_event 34 rfl) (c_X11_within x.2.1 hl (d - 1) (by omega) h i0 p4 0 s49_0) rfl (Nat.le_of_ble_eq_true rfl) ⟨by decide, by decide⟩ rfl (fun r69 h69c hp69 => ?_) (fun _ _ q => q.elim)
          obtain ⟨z69, y69⟩ := hp69
          rw [z69]
          refine mm_if_ne (tgt := 77) C (mm_dec dk_X11_event 35 rfl) (by decide) (fun c72 => ?_) (fun c72 => ?_)
          · skip
            refine mm_aload_n C (mm_dec dk_X11_event 38 rfl) rfl ?_
            refine mm_getr (t := 30) C fl_X11_44 (mm_dec dk_X11_event 39 rfl) rfl rfl (mm_ref i0 rfl) ?_
            refine mm_iload_n C (mm_dec dk_X11_event 40 rfl) rfl ?_
            refine mm_iload_n C (mm_dec dk_X11_event 41 rfl) rfl ?_
            refine mm_iload_n C (mm_dec dk_X11_event 42 rfl) rfl ?_
            refine mm_iload C (mm_dec dk_X11_event 43 rfl) rfl ?_
            refine mm_aload_n C (mm_dec dk_X11_event 44 rfl) rfl ?_
            refine mm_geti C fl_X11_102 (mm_dec dk_X11_event 45 rfl) rfl rfl (Or.inl rfl) ?_
            have g7 : 0 ≤ (h.1 0 13) ∧ (h.1 0 13) ≤ 99999 := i0.1 0 13
            refine mm_cVi (rest := []) C1 ev_X11_271 (mm_dec dk_X11_event 46 rfl) (c_X6_tell x.2.1 hl (d - 1) (by omega) h i0 p1 p2 p3 p4 (h.1 0 13) ⟨by omega, by omega⟩ (by omega)) rfl rfl (Nat.le_of_ble_eq_true rfl) ⟨by decide, by decide⟩ rfl (fun r90 h90c hp90 => ?_) (fun _ _ q => q.elim)
            obtain ⟨b90, i90c, g90c, y90_0⟩ := hp90
            have f90c : mm_fr [(30, 6)] [31, 32, 33, 34, 35, 36] h h90c := mm_fr_tr f0 g90c (by decide +kernel)
            have q90c_9 : h90c.1 0 13 = h.1 0 13 := g90c.1 0 13 (by decide)
            have q90c_10 : h90c.1 22 8 = h.1 22 8 := g90c.1 22 8 (by decide)
            exact mm_iret C T (mm_dec dk_X11_event 47 rfl) (by decide : 2 ≤ 2) (by decide : 12 ≤ 12) ⟨_, rfl, ⟨⟨by omega, by omega⟩, i90c, f90c⟩⟩
          · skip
            refine mm_fgt 0 ?_
            refine mm_fgt 1 ?_
            refine mm_fgt 2 ?_
            refine mm_fgt 3 ?_
            refine mm_fgt 4 ?_
            refine mm_fgt 5 ?_
            exact J75
      refine mm_if_ne (tgt := 45) C (mm_dec dk_X11_event 20 rfl) (by decide) (fun c36 => ?_) (fun c36 => ?_)
      · skip
        refine mm_aload_n C (mm_dec dk_X11_event 23 rfl) rfl ?_
        refine mm_geti C fl_X11_102 (mm_dec dk_X11_event 24 rfl) rfl rfl (Or.inl rfl) ?_
        have g11 : 0 ≤ (h.1 0 13) ∧ (h.1 0 13) ≤ 99999 := i0.1 0 13
        exact J49 (h.1 0 13) ⟨by omega, by omega⟩
      · skip
        refine mm_ldcw (z := 99999) C (mm_dec dk_X11_event 21 rfl) kc_X11_260 (by decide) ?_
        refine mm_goto (tgt := 49) C (mm_dec dk_X11_event 22 rfl) (by decide) ?_
        exact J49 99999 ⟨by omega, by omega⟩
    refine mm_icmp_ne (tgt := 35) C (mm_dec dk_X11_event 15 rfl) (by decide) (fun c27 => ?_) (fun c27 => ?_)
    · skip
      refine mm_widen (k := 2) (n := 12) (by decide) (by decide) ?_
      exact J35
    · skip
      refine mm_aload_n C (mm_dec dk_X11_event 16 rfl) rfl ?_
      refine mm_iload_n C (mm_dec dk_X11_event 17 rfl) rfl ?_
      refine mm_cVv (rest := []) C1 ev_X11_211 (mm_dec dk_X11_event 18 rfl) (c_X11_needPost_e x.2.1 hl (d - 1) (by omega) h i0 p3) rfl rfl (Nat.le_of_ble_eq_true rfl) ⟨by decide, by decide⟩ rfl (fun h32c hp32 => ?_) (fun E hx q => mm_out C T htb (by decide) (by decide) (by exact q))
      obtain ⟨z32, k32_0, k32_1⟩ := hp32
      rw [z32]
      have g13 : 0 ≤ (h.1 14 7) ∧ (h.1 14 7) ≤ 20 := i0.1 14 7
      exact J35
  · skip
    exact mm_throwXW C8 T htb th_nse (i := 9) rfl (mm_dec dk_X11_event 5 rfl) (mm_dec dk_X11_event 6 rfl) (mm_dec dk_X11_event 7 rfl) (mm_dec dk_X11_event 8 rfl) (mm_dec dk_X11_event 9 rfl) (Nat.le_of_ble_eq_true rfl) ⟨by decide, by decide⟩ ⟨by decide, by decide⟩ (⟨rfl, rfl⟩)
set_option maxRecDepth 100000 in
set_option maxHeartbeats 4000000 in
theorem c_X11_judged_e (l : Launch) (hl : l.stackTraces = false) (d : Nat) (hd : 9 ≤ d) (h : mH) (i0 : mm_inv h) (p1 : Int) (p2 : Int) (p3 : Int) : mm_Met l d yX11_judged cX11_judged 4 (some .int) [mR 0, mI p1, mI p2, mI p3] h (mm_pi fun r h2 => (-2147483648 ≤ r ∧ r ≤ 2147483647) ∧ mm_inv h2 ∧ mm_fr [(42, 4), (42, 5), (42, 6), (46, 5), (46, 6), (46, 7), (46, 8), (46, 9), (46, 10), (48, 8), (48, 9)] [45, 47, 49, 50, 51, 52, 53] h h2) (mm_xp h) 2 12 := by
  refine mm_ofW (ls := [mR 0, mI p1, mI p2, mI p3]) hl (by decide) rfl (Nat.le_of_ble_eq_true rfl) ?_
  intro x hxl C T hnm htb
  subst hxl
  have C1 := mm_OK_le (d' := d - 1 + 1) (by omega) C
  have C8 := mm_OK_le (d' := d - 8 + 8) (by omega) C
  refine mm_rng (fun hr _ => ?_)
  have ap1 : -2147483648 ≤ p1 ∧ p1 < 2147483648 := mm_ok_at hr (i := 1) rfl
  have ap2 : -2147483648 ≤ p2 ∧ p2 < 2147483648 := mm_ok_at hr (i := 2) rfl
  have ap3 : -2147483648 ≤ p3 ∧ p3 < 2147483648 := mm_ok_at hr (i := 3) rfl
  have f0 : mm_fr [(42, 4), (42, 5), (42, 6), (46, 5), (46, 6), (46, 7), (46, 8), (46, 9), (46, 10), (48, 8), (48, 9)] [45, 47, 49, 50, 51, 52, 53] h h := mm_fr_rf
  refine mm_aload_n C (mm_dec dk_X11_judged 0 rfl) rfl ?_
  refine mm_iload_n C (mm_dec dk_X11_judged 1 rfl) rfl ?_
  refine mm_cVv (rest := []) C1 ev_X11_235 (mm_dec dk_X11_judged 2 rfl) (c_X11_needRunner_e x.2.1 hl (d - 1) (by omega) h i0 p1) rfl rfl (Nat.le_of_ble_eq_true rfl) ⟨by decide, by decide⟩ rfl (fun h2c hp2 => ?_) (fun E hx q => mm_out C T htb (by decide) (by decide) (by exact Or.inl q))
  obtain ⟨z2, k2_0, k2_1⟩ := hp2
  rw [z2]
  have g2 : 0 ≤ (h.1 22 8) ∧ (h.1 22 8) ≤ 40 := i0.1 22 8
  refine mm_iload_n C (mm_dec dk_X11_judged 3 rfl) rfl ?_
  refine mm_iconst C (mm_dec dk_X11_judged 4 rfl) ⟨by decide, by decide⟩ ?_
  refine mm_bipush C (mm_dec dk_X11_judged 5 rfl) ⟨by decide, by decide⟩ ?_
  refine mm_cSi (rest := []) C1 es_X11_130 (mm_dec dk_X11_judged 6 rfl) (c_X11_within x.2.1 hl (d - 1) (by omega) h i0 p2 0 8) rfl (Nat.le_of_ble_eq_true rfl) ⟨by decide, by decide⟩ rfl (fun r9 h9c hp9 => ?_) (fun _ _ q => q.elim)
  obtain ⟨z9, y9⟩ := hp9
  rw [z9]
  refine mm_if_ne (tgt := 26) C (mm_dec dk_X11_judged 7 rfl) (by decide) (fun c12 => ?_) (fun c12 => ?_)
  · skip
    refine mm_aload_n C (mm_dec dk_X11_judged 13 rfl) rfl ?_
    refine mm_iload_n C (mm_dec dk_X11_judged 14 rfl) rfl ?_
    refine mm_cVv (rest := []) C1 ev_X11_282 (mm_dec dk_X11_judged 15 rfl) (c_X11_needSecond_e x.2.1 hl (d - 1) (by omega) h i0 p3) rfl rfl (Nat.le_of_ble_eq_true rfl) ⟨by decide, by decide⟩ rfl (fun h28c hp28 => ?_) (fun E hx q => mm_out C T htb (by decide) (by decide) (by exact Or.inr q))
    obtain ⟨z28, k28_0, k28_1⟩ := hp28
    rw [z28]
    have g5 : 0 ≤ (h.1 0 13) ∧ (h.1 0 13) ≤ 99999 := i0.1 0 13
    refine mm_iload_n C (mm_dec dk_X11_judged 16 rfl) rfl ?_
    refine mm_bipush C (mm_dec dk_X11_judged 17 rfl) ⟨by decide, by decide⟩ ?_
    refine mm_icmp_ne (tgt := 47) C (mm_dec dk_X11_judged 18 rfl) (by decide) (fun c34 => ?_) (fun c34 => ?_)
    · skip
      refine mm_aload_n C (mm_dec dk_X11_judged 25 rfl) rfl ?_
      refine mm_getr (t := 46) C fl_X11_60 (mm_dec dk_X11_judged 26 rfl) rfl rfl (mm_ref i0 rfl) ?_
      refine mm_iload_n C (mm_dec dk_X11_judged 27 rfl) rfl ?_
      refine mm_iload_n C (mm_dec dk_X11_judged 28 rfl) rfl ?_
      refine mm_cVv (rest := []) C1 ev_X11_288 (mm_dec dk_X11_judged 29 rfl) (c_X4_look x.2.1 hl (d - 1) (by omega) h i0 p1 p3 ⟨by omega, by omega⟩) rfl rfl (Nat.le_of_ble_eq_true rfl) ⟨by decide, by decide⟩ rfl (fun h53c hp53 => ?_) (fun _ _ q => q.elim)
      obtain ⟨i53c, g53c⟩ := hp53
      have f53c : mm_fr [(42, 4), (42, 5), (42, 6), (46, 5), (46, 6), (46, 7), (46, 8), (46, 9), (46, 10), (48, 8), (48, 9)] [45, 47, 49, 50, 51, 52, 53] h h53c := mm_fr_tr f0 g53c (by decide +kernel)
      have q53c_7 : h53c.1 0 13 = h.1 0 13 := g53c.1 0 13 (by decide)
      have q53c_8 : h53c.1 22 8 = h.1 22 8 := g53c.1 22 8 (by decide)
      refine mm_aload_n C (mm_dec dk_X11_judged 30 rfl) rfl ?_
      refine mm_getr (t := 46) C fl_X11_60 (mm_dec dk_X11_judged 31 rfl) rfl rfl (mm_ref i53c rfl) ?_
      refine mm_iload_n C (mm_dec dk_X11_judged 32 rfl) rfl ?_
      refine mm_cVi (rest := []) C1 ev_X11_291 (mm_dec dk_X11_judged 33 rfl) (c_X4_answer x.2.1 hl (d - 1) (by omega) h53c i53c p2) rfl rfl (Nat.le_of_ble_eq_true rfl) ⟨by decide, by decide⟩ rfl (fun r61 h61c hp61 => ?_) (fun _ _ q => q.elim)
      obtain ⟨z61, y61⟩ := hp61
      rw [z61]
      have g10 : -2147483648 ≤ (h53c.1 46 10) ∧ (h53c.1 46 10) ≤ 2147483647 := i53c.1 46 10
      have g11 : -2147483648 ≤ (h53c.1 46 5) ∧ (h53c.1 46 5) ≤ 2147483647 := i53c.1 46 5
      have g12 : -2147483648 ≤ (h53c.1 46 6) ∧ (h53c.1 46 6) ≤ 2147483647 := i53c.1 46 6
      have g13 : -2147483648 ≤ (h53c.1 46 7) ∧ (h53c.1 46 7) ≤ 2147483647 := i53c.1 46 7
      have g14 : -2147483648 ≤ (h53c.2.1 47 0) ∧ (h53c.2.1 47 0) ≤ 2147483647 := i53c.2.1 47 0
      have g15 : -2147483648 ≤ (h53c.2.1 47 1) ∧ (h53c.2.1 47 1) ≤ 2147483647 := i53c.2.1 47 1
      have g16 : -2147483648 ≤ (h53c.2.1 47 3) ∧ (h53c.2.1 47 3) ≤ 2147483647 := i53c.2.1 47 3
      have g17 : -2147483648 ≤ (h53c.1 46 8) ∧ (h53c.1 46 8) ≤ 2147483647 := i53c.1 46 8
      exact mm_iret C T (mm_dec dk_X11_judged 34 rfl) (by decide : 2 ≤ 2) (by decide : 12 ≤ 12) ⟨_, rfl, ⟨⟨by omega, by omega⟩, i53c, f53c⟩⟩
    · skip
      refine mm_aload_n C (mm_dec dk_X11_judged 19 rfl) rfl ?_
      refine mm_getr (t := 46) C fl_X11_60 (mm_dec dk_X11_judged 20 rfl) rfl rfl (mm_ref i0 rfl) ?_
      refine mm_iload_n C (mm_dec dk_X11_judged 21 rfl) rfl ?_
      refine mm_iload_n C (mm_dec dk_X11_judged 22 rfl) rfl ?_
      refine mm_cVi (rest := []) C1 ev_X11_285 (mm_dec dk_X11_judged 23 rfl) (c_X4_placeOf x.2.1 hl (d - 1) (by omega) h i0 p1 p3 ⟨by omega, by omega⟩) rfl rfl (Nat.le_of_ble_eq_true rfl) ⟨by decide, by decide⟩ rfl (fun r43 h43c hp43 => ?_) (fun _ _ q => q.elim)
      obtain ⟨b43, i43c, g43c⟩ := hp43
      have f43c : mm_fr [(42, 4), (42, 5), (42, 6), (46, 5), (46, 6), (46, 7), (46, 8), (46, 9), (46, 10), (48, 8), (48, 9)] [45, 47, 49, 50, 51, 52, 53] h h43c := mm_fr_tr f0 g43c (by decide +kernel)
      have q43c_19 : h43c.1 0 13 = h.1 0 13 := g43c.1 0 13 (by decide)
      have q43c_20 : h43c.1 22 8 = h.1 22 8 := g43c.1 22 8 (by decide)
      exact mm_iret C T (mm_dec dk_X11_judged 24 rfl) (by decide : 2 ≤ 2) (by decide : 12 ≤ 12) ⟨_, rfl, ⟨⟨by omega, by omega⟩, i43c, f43c⟩⟩
  · skip
    exact mm_throwXW C8 T htb th_nse (i := 11) rfl (mm_dec dk_X11_judged 8 rfl) (mm_dec dk_X11_judged 9 rfl) (mm_dec dk_X11_judged 10 rfl) (mm_dec dk_X11_judged 11 rfl) (mm_dec dk_X11_judged 12 rfl) (Nat.le_of_ble_eq_true rfl) ⟨by decide, by decide⟩ ⟨by decide, by decide⟩ (Or.inl ⟨rfl, rfl⟩)
set_option maxRecDepth 100000 in
set_option maxHeartbeats 4000000 in
theorem c_X11_split_e (l : Launch) (hl : l.stackTraces = false) (d : Nat) (hd : 9 ≤ d) (h : mH) (i0 : mm_inv h) (p1 : Int) (p2 : Int) (p3 : Int) : mm_Met l d yX11_split cX11_split 4 (some .int) [mR 0, mI p1, mI p2, mI p3] h (mm_pi fun r h2 => (-2147483648 ≤ r ∧ r ≤ 2147483647) ∧ mm_inv h2 ∧ mm_fr [(48, 8), (48, 9)] [49, 50, 51, 52, 53] h h2) (mm_xp h) 3 18 := by
  refine mm_ofW (ls := [mR 0, mI p1, mI p2, mI p3]) hl (by decide) rfl (Nat.le_of_ble_eq_true rfl) ?_
  intro x hxl C T hnm htb
  subst hxl
  have C1 := mm_OK_le (d' := d - 1 + 1) (by omega) C
  have C8 := mm_OK_le (d' := d - 8 + 8) (by omega) C
  refine mm_rng (fun hr _ => ?_)
  have ap1 : -2147483648 ≤ p1 ∧ p1 < 2147483648 := mm_ok_at hr (i := 1) rfl
  have ap2 : -2147483648 ≤ p2 ∧ p2 < 2147483648 := mm_ok_at hr (i := 2) rfl
  have ap3 : -2147483648 ≤ p3 ∧ p3 < 2147483648 := mm_ok_at hr (i := 3) rfl
  have f0 : mm_fr [(48, 8), (48, 9)] [49, 50, 51, 52, 53] h h := mm_fr_rf
  refine mm_aload_n C (mm_dec dk_X11_split 0 rfl) rfl ?_
  refine mm_iload_n C (mm_dec dk_X11_split 1 rfl) rfl ?_
  refine mm_cVv (rest := []) C1 ev_X11_235 (mm_dec dk_X11_split 2 rfl) (c_X11_needRunner_e x.2.1 hl (d - 1) (by omega) h i0 p1) rfl rfl (Nat.le_of_ble_eq_true rfl) ⟨by decide, by decide⟩ rfl (fun h2c hp2 => ?_) (fun E hx q => mm_out C T htb (by decide) (by decide) (by exact Or.inl q))
  obtain ⟨z2, k2_0, k2_1⟩ := hp2
  rw [z2]
  have g2 : 0 ≤ (h.1 22 8) ∧ (h.1 22 8) ≤ 40 := i0.1 22 8
  refine mm_aload_n C (mm_dec dk_X11_split 3 rfl) rfl ?_
  refine mm_iload_n C (mm_dec dk_X11_split 4 rfl) rfl ?_
  refine mm_iload_n C (mm_dec dk_X11_split 5 rfl) rfl ?_
  refine mm_cVv (rest := []) C1 ev_X11_244 (mm_dec dk_X11_split 6 rfl) (c_X11_needPlace_e x.2.1 hl (d - 1) (by omega) h i0 p1 p2 ⟨by omega, by omega⟩) rfl rfl (Nat.le_of_ble_eq_true rfl) ⟨by decide, by decide⟩ rfl (fun h8c hp8 => ?_) (fun E hx q => mm_out C T htb (by decide) (by decide) (by exact Or.inl q))
  obtain ⟨z8, k8_0, k8_1⟩ := hp8
  rw [z8]
  have g4 : 0 ≤ (h.2.1 19 (h.2.1 23 p1)) ∧ (h.2.1 19 (h.2.1 23 p1)) ≤ 12 := i0.2.1 19 (h.2.1 23 p1)
  have g5 : 0 ≤ (h.2.1 23 p1) ∧ (h.2.1 23 p1) ≤ 7 := i0.2.1 23 p1
  refine mm_aload_n C (mm_dec dk_X11_split 7 rfl) rfl ?_
  refine mm_iload_n C (mm_dec dk_X11_split 8 rfl) rfl ?_
  refine mm_cVv (rest := []) C1 ev_X11_282 (mm_dec dk_X11_split 9 rfl) (c_X11_needSecond_e x.2.1 hl (d - 1) (by omega) h i0 p3) rfl rfl (Nat.le_of_ble_eq_true rfl) ⟨by decide, by decide⟩ rfl (fun h13c hp13 => ?_) (fun E hx q => mm_out C T htb (by decide) (by decide) (by exact Or.inr q))
  obtain ⟨z13, k13_0, k13_1⟩ := hp13
  rw [z13]
  have g7 : 0 ≤ (h.1 0 13) ∧ (h.1 0 13) ≤ 99999 := i0.1 0 13
  refine mm_aload_n C (mm_dec dk_X11_split 10 rfl) rfl ?_
  refine mm_getr (t := 46) C fl_X11_60 (mm_dec dk_X11_split 11 rfl) rfl rfl (mm_ref i0 rfl) ?_
  refine mm_iload_n C (mm_dec dk_X11_split 12 rfl) rfl ?_
  refine mm_iload_n C (mm_dec dk_X11_split 13 rfl) rfl ?_
  refine mm_iload_n C (mm_dec dk_X11_split 14 rfl) rfl ?_
  refine mm_cVi (rest := []) C1 ev_X11_294 (mm_dec dk_X11_split 15 rfl) (c_X4_splitOf x.2.1 hl (d - 1) (by omega) h i0 p1 p2 p3 ⟨by omega, by omega⟩ ⟨by omega, by omega⟩) rfl rfl (Nat.le_of_ble_eq_true rfl) ⟨by decide, by decide⟩ rfl (fun r23 h23c hp23 => ?_) (fun _ _ q => q.elim)
  obtain ⟨b23, i23c, g23c⟩ := hp23
  have f23c : mm_fr [(48, 8), (48, 9)] [49, 50, 51, 52, 53] h h23c := mm_fr_tr f0 g23c (by decide +kernel)
  have q23c_9 : h23c.1 0 13 = h.1 0 13 := g23c.1 0 13 (by decide)
  have q23c_10 : h23c.1 22 8 = h.1 22 8 := g23c.1 22 8 (by decide)
  exact mm_iret C T (mm_dec dk_X11_split 16 rfl) (by decide : 3 ≤ 3) (by decide : 18 ≤ 18) ⟨_, rfl, ⟨⟨by omega, by omega⟩, i23c, f23c⟩⟩
set_option maxRecDepth 100000 in
set_option maxHeartbeats 4000000 in
theorem c_X11_ofTeam_e (l : Launch) (hl : l.stackTraces = false) (d : Nat) (hd : 9 ≤ d) (h : mH) (i0 : mm_inv h) (p1 : Int) (p2 : Int) (p3 : Int) : mm_Met l d yX11_ofTeam cX11_ofTeam 4 (some .int) [mR 0, mI p1, mI p2, mI p3] h (mm_pi fun r h2 => (-2147483648 ≤ r ∧ r ≤ 2147483647) ∧ mm_inv h2 ∧ mm_fr [(42, 4), (42, 5), (42, 6), (46, 5), (46, 6), (46, 7), (46, 8), (46, 9), (46, 10), (46, 11), (48, 8), (48, 9)] [45, 47, 49, 50, 51, 52, 53] h h2) (mm_xp h) 1 6 := by
  refine mm_ofW (ls := [mR 0, mI p1, mI p2, mI p3]) hl (by decide) rfl (Nat.le_of_ble_eq_true rfl) ?_
  intro x hxl C T hnm htb
  subst hxl
  have C1 := mm_OK_le (d' := d - 1 + 1) (by omega) C
  have C8 := mm_OK_le (d' := d - 8 + 8) (by omega) C
  refine mm_rng (fun hr _ => ?_)
  have ap1 : -2147483648 ≤ p1 ∧ p1 < 2147483648 := mm_ok_at hr (i := 1) rfl
  have ap2 : -2147483648 ≤ p2 ∧ p2 < 2147483648 := mm_ok_at hr (i := 2) rfl
  have ap3 : -2147483648 ≤ p3 ∧ p3 < 2147483648 := mm_ok_at hr (i := 3) rfl
  have f0 : mm_fr [(42, 4), (42, 5), (42, 6), (46, 5), (46, 6), (46, 7), (46, 8), (46, 9), (46, 10), (46, 11), (48, 8), (48, 9)] [45, 47, 49, 50, 51, 52, 53] h h := mm_fr_rf
  refine mm_iload_n C (mm_dec dk_X11_ofTeam 0 rfl) rfl ?_
  have J15 : mm_W x 0 0 15 [mU, mU, mU, mU] [] h := by
    exact mm_throwXW C8 T htb th_nse (i := 13) rfl (mm_dec dk_X11_ofTeam 7 rfl) (mm_dec dk_X11_ofTeam 8 rfl) (mm_dec dk_X11_ofTeam 9 rfl) (mm_dec dk_X11_ofTeam 10 rfl) (mm_dec dk_X11_ofTeam 11 rfl) (Nat.le_of_ble_eq_true rfl) ⟨by decide, by decide⟩ ⟨by decide, by decide⟩ (Or.inl ⟨rfl, rfl⟩)
  refine mm_if_lt (tgt := 15) C (mm_dec dk_X11_ofTeam 1 rfl) (by decide) (fun c1 => ?_) (fun c1 => ?_)
  · skip
    refine mm_fgt 0 ?_
    refine mm_fgt 1 ?_
    refine mm_fgt 2 ?_
    refine mm_fgt 3 ?_
    exact J15
  · skip
    refine mm_iload_n C (mm_dec dk_X11_ofTeam 2 rfl) rfl ?_
    refine mm_aload_n C (mm_dec dk_X11_ofTeam 3 rfl) rfl ?_
    refine mm_getr (t := 22) C fl_X11_37 (mm_dec dk_X11_ofTeam 4 rfl) rfl rfl (mm_ref i0 rfl) ?_
    refine mm_cVi (rest := [mI p1]) C1 ev_X11_251 (mm_dec dk_X11_ofTeam 5 rfl) (c_X9_teams x.2.1 hl (d - 1) (by omega) h i0 ) rfl rfl (Nat.le_of_ble_eq_true rfl) ⟨by decide, by decide⟩ rfl (fun r9 h9c hp9 => ?_) (fun _ _ q => q.elim)
    obtain ⟨z9, y9⟩ := hp9
    rw [z9, y9]
    have g2 : 0 ≤ (h.1 22 9) ∧ (h.1 22 9) ≤ 10 := i0.1 22 9
    refine mm_icmp_lt (tgt := 26) C (mm_dec dk_X11_ofTeam 6 rfl) (by decide) (fun c12 => ?_) (fun c12 => ?_)
    · skip
      refine mm_iload_n C (mm_dec dk_X11_ofTeam 12 rfl) rfl ?_
      refine mm_iconst C (mm_dec dk_X11_ofTeam 13 rfl) ⟨by decide, by decide⟩ ?_
      refine mm_iconst C (mm_dec dk_X11_ofTeam 14 rfl) ⟨by decide, by decide⟩ ?_
      refine mm_cSi (rest := []) C1 es_X11_130 (mm_dec dk_X11_ofTeam 15 rfl) (c_X11_within x.2.1 hl (d - 1) (by omega) h i0 p2 0 1) rfl (Nat.le_of_ble_eq_true rfl) ⟨by decide, by decide⟩ rfl (fun r29 h29c hp29 => ?_) (fun _ _ q => q.elim)
      obtain ⟨z29, y29⟩ := hp29
      rw [z29]
      refine mm_if_ne (tgt := 46) C (mm_dec dk_X11_ofTeam 16 rfl) (by decide) (fun c32 => ?_) (fun c32 => ?_)
      · skip
        refine mm_aload_n C (mm_dec dk_X11_ofTeam 22 rfl) rfl ?_
        refine mm_iload_n C (mm_dec dk_X11_ofTeam 23 rfl) rfl ?_
        refine mm_cVv (rest := []) C1 ev_X11_282 (mm_dec dk_X11_ofTeam 24 rfl) (c_X11_needSecond_e x.2.1 hl (d - 1) (by omega) h i0 p3) rfl rfl (Nat.le_of_ble_eq_true rfl) ⟨by decide, by decide⟩ rfl (fun h48c hp48 => ?_) (fun E hx q => mm_out C T htb (by decide) (by decide) (by exact Or.inr q))
        obtain ⟨z48, k48_0, k48_1⟩ := hp48
        rw [z48]
        have g5 : 0 ≤ (h.1 0 13) ∧ (h.1 0 13) ≤ 99999 := i0.1 0 13
        refine mm_iload_n C (mm_dec dk_X11_ofTeam 25 rfl) rfl ?_
        refine mm_iconst C (mm_dec dk_X11_ofTeam 26 rfl) ⟨by decide, by decide⟩ ?_
        refine mm_icmp_ne (tgt := 66) C (mm_dec dk_X11_ofTeam 27 rfl) (by decide) (fun c53 => ?_) (fun c53 => ?_)
        · skip
          refine mm_aload_n C (mm_dec dk_X11_ofTeam 34 rfl) rfl ?_
          refine mm_getr (t := 46) C fl_X11_60 (mm_dec dk_X11_ofTeam 35 rfl) rfl rfl (mm_ref i0 rfl) ?_
          refine mm_iload_n C (mm_dec dk_X11_ofTeam 36 rfl) rfl ?_
          refine mm_iload_n C (mm_dec dk_X11_ofTeam 37 rfl) rfl ?_
          refine mm_cVi (rest := []) C1 ev_X11_302 (mm_dec dk_X11_ofTeam 38 rfl) (c_X4_lookAtTeam x.2.1 hl (d - 1) (by omega) h i0 p1 p3 ⟨by omega, by omega⟩) rfl rfl (Nat.le_of_ble_eq_true rfl) ⟨by decide, by decide⟩ rfl (fun r72 h72c hp72 => ?_) (fun _ _ q => q.elim)
          obtain ⟨b72, i72c, g72c⟩ := hp72
          have f72c : mm_fr [(42, 4), (42, 5), (42, 6), (46, 5), (46, 6), (46, 7), (46, 8), (46, 9), (46, 10), (46, 11), (48, 8), (48, 9)] [45, 47, 49, 50, 51, 52, 53] h h72c := mm_fr_tr f0 g72c (by decide +kernel)
          have q72c_7 : h72c.1 0 13 = h.1 0 13 := g72c.1 0 13 (by decide)
          have q72c_8 : h72c.1 22 9 = h.1 22 9 := g72c.1 22 9 (by decide)
          have J91 : ∀ (s91_0 : Int) (bs91_0 : -2147483648 ≤ s91_0 ∧ s91_0 ≤ 2147483647), mm_W x 1 6 91 [mU, mU, mU, mU] [mI s91_0] h72c := by
            intro s91_0 bs91_0
            exact mm_iret C T (mm_dec dk_X11_ofTeam 45 rfl) (by decide : 1 ≤ 1) (by decide : 6 ≤ 6) ⟨_, rfl, ⟨⟨by omega, by omega⟩, i72c, f72c⟩⟩
          refine mm_if_eq (tgt := 88) C (mm_dec dk_X11_ofTeam 39 rfl) (by decide) (fun c75 => ?_) (fun c75 => ?_)
          · skip
            refine mm_ldcw (z := -100000) C (mm_dec dk_X11_ofTeam 44 rfl) kc_X11_308 (by decide) ?_
            refine mm_fgt 0 ?_
            refine mm_fgt 1 ?_
            refine mm_fgt 2 ?_
            refine mm_fgt 3 ?_
            exact J91 (-100000) ⟨by omega, by omega⟩
          · skip
            refine mm_aload_n C (mm_dec dk_X11_ofTeam 40 rfl) rfl ?_
            refine mm_getr (t := 46) C fl_X11_60 (mm_dec dk_X11_ofTeam 41 rfl) rfl rfl (mm_ref i72c rfl) ?_
            refine mm_cVi (rest := []) C1 ev_X11_305 (mm_dec dk_X11_ofTeam 42 rfl) (c_X4_teamTime x.2.1 hl (d - 1) (by omega) h72c i72c ) rfl rfl (Nat.le_of_ble_eq_true rfl) ⟨by decide, by decide⟩ rfl (fun r82 h82c hp82 => ?_) (fun _ _ q => q.elim)
            obtain ⟨z82, y82⟩ := hp82
            rw [z82, y82]
            have g10 : -2147483648 ≤ (h72c.1 46 11) ∧ (h72c.1 46 11) ≤ 2147483647 := i72c.1 46 11
            refine mm_goto (tgt := 91) C (mm_dec dk_X11_ofTeam 43 rfl) (by decide) ?_
            refine mm_fgt 0 ?_
            refine mm_fgt 1 ?_
            refine mm_fgt 2 ?_
            refine mm_fgt 3 ?_
            exact J91 (h72c.1 46 11) ⟨by omega, by omega⟩
        · skip
          refine mm_aload_n C (mm_dec dk_X11_ofTeam 28 rfl) rfl ?_
          refine mm_getr (t := 46) C fl_X11_60 (mm_dec dk_X11_ofTeam 29 rfl) rfl rfl (mm_ref i0 rfl) ?_
          refine mm_iload_n C (mm_dec dk_X11_ofTeam 30 rfl) rfl ?_
          refine mm_iload_n C (mm_dec dk_X11_ofTeam 31 rfl) rfl ?_
          refine mm_cVi (rest := []) C1 ev_X11_299 (mm_dec dk_X11_ofTeam 32 rfl) (c_X4_placeOfTeam x.2.1 hl (d - 1) (by omega) h i0 p1 p3 ⟨by omega, by omega⟩) rfl rfl (Nat.le_of_ble_eq_true rfl) ⟨by decide, by decide⟩ rfl (fun r62 h62c hp62 => ?_) (fun _ _ q => q.elim)
          obtain ⟨b62, i62c, g62c⟩ := hp62
          have f62c : mm_fr [(42, 4), (42, 5), (42, 6), (46, 5), (46, 6), (46, 7), (46, 8), (46, 9), (46, 10), (46, 11), (48, 8), (48, 9)] [45, 47, 49, 50, 51, 52, 53] h h62c := mm_fr_tr f0 g62c (by decide +kernel)
          have q62c_12 : h62c.1 0 13 = h.1 0 13 := g62c.1 0 13 (by decide)
          have q62c_13 : h62c.1 22 9 = h.1 22 9 := g62c.1 22 9 (by decide)
          exact mm_iret C T (mm_dec dk_X11_ofTeam 33 rfl) (by decide : 1 ≤ 1) (by decide : 6 ≤ 6) ⟨_, rfl, ⟨⟨by omega, by omega⟩, i62c, f62c⟩⟩
      · skip
        exact mm_throwXW C8 T htb th_nse (i := 11) rfl (mm_dec dk_X11_ofTeam 17 rfl) (mm_dec dk_X11_ofTeam 18 rfl) (mm_dec dk_X11_ofTeam 19 rfl) (mm_dec dk_X11_ofTeam 20 rfl) (mm_dec dk_X11_ofTeam 21 rfl) (Nat.le_of_ble_eq_true rfl) ⟨by decide, by decide⟩ ⟨by decide, by decide⟩ (Or.inl ⟨rfl, rfl⟩)
    · skip
      refine mm_fgt 0 ?_
      refine mm_fgt 1 ?_
      refine mm_fgt 2 ?_
      refine mm_fgt 3 ?_
      exact J15
set_option maxRecDepth 100000 in
set_option maxHeartbeats 4000000 in
theorem c_X11_rules_e (l : Launch) (hl : l.stackTraces = false) (d : Nat) (hd : 50 ≤ d) (h : mH) (i0 : mm_inv h) (p1 : Int) : mm_Met l d yX11_rules cX11_rules 3 (some .int) [mR 0, mI p1] h (mm_pi fun r h2 => (-2147483648 ≤ r ∧ r ≤ 2147483647) ∧ mm_inv h2 ∧ mm_fr [(0, 12), (0, 14), (42, 3), (63, 3), (63, 4), (63, 5), (63, 6), (63, 7), (63, 8), (63, 9), (63, 10)] [43, 44, 64, 65] h h2) (mm_xi h) 1 6 := by
  refine mm_ofW (ls := [mR 0, mI p1, mU]) hl (by decide) rfl (Nat.le_of_ble_eq_true rfl) ?_
  intro x hxl C T hnm htb
  subst hxl
  have C1 := mm_OK_le (d' := d - 1 + 1) (by omega) C
  have C8 := mm_OK_le (d' := d - 8 + 8) (by omega) C
  refine mm_rng (fun hr _ => ?_)
  have ap1 : -2147483648 ≤ p1 ∧ p1 < 2147483648 := mm_ok_at hr (i := 1) rfl
  have f0 : mm_fr [(0, 12), (0, 14), (42, 3), (63, 3), (63, 4), (63, 5), (63, 6), (63, 7), (63, 8), (63, 9), (63, 10)] [43, 44, 64, 65] h h := mm_fr_rf
  refine mm_aload_n C (mm_dec dk_X11_rules 0 rfl) rfl ?_
  refine mm_iload_n C (mm_dec dk_X11_rules 1 rfl) rfl ?_
  refine mm_cVv (rest := []) C1 ev_X11_312 (mm_dec dk_X11_rules 2 rfl) (c_X11_needBytes_e x.2.1 hl (d - 1) (by omega) h i0 p1) rfl rfl (Nat.le_of_ble_eq_true rfl) ⟨by decide, by decide⟩ rfl (fun h2c hp2 => ?_) (fun E hx q => mm_out C T htb (by decide) (by decide) (by exact q))
  obtain ⟨z2, k2_0, k2_1⟩ := hp2
  rw [z2]
  have g2 : 0 ≤ (h.1 0 12) ∧ (h.1 0 12) ≤ 500 := i0.1 0 12
  refine mm_aload_n C (mm_dec dk_X11_rules 3 rfl) rfl ?_
  refine mm_getr (t := 63) C fl_X11_94 (mm_dec dk_X11_rules 4 rfl) rfl rfl (mm_ref i0 rfl) ?_
  refine mm_iload_n C (mm_dec dk_X11_rules 5 rfl) rfl ?_
  refine mm_cVi (rest := []) C1 ev_X11_315 (mm_dec dk_X11_rules 6 rfl) (c_X7_read x.2.1 hl (d - 1) (by omega) h i0 p1 ⟨by omega, by omega⟩) rfl rfl (Nat.le_of_ble_eq_true rfl) ⟨by decide, by decide⟩ rfl (fun r10 h10c hp10 => ?_) (fun _ _ q => q.elim)
  obtain ⟨b10, i10c, g10c⟩ := hp10
  have f10c : mm_fr [(0, 12), (0, 14), (42, 3), (63, 3), (63, 4), (63, 5), (63, 6), (63, 7), (63, 8), (63, 9), (63, 10)] [43, 44, 64, 65] h h10c := mm_fr_tr f0 g10c (by decide +kernel)
  have q10c_4 : h10c.1 0 12 = h.1 0 12 := g10c.1 0 12 (by decide)
  refine mm_istore_nL (ls2 := [mR 0, mI p1, mI r10]) C (mm_dec dk_X11_rules 7 rfl) (by decide) rfl ?_
  refine mm_aload_n C (mm_dec dk_X11_rules 8 rfl) rfl ?_
  refine mm_iconst C (mm_dec dk_X11_rules 9 rfl) ⟨by decide, by decide⟩ ?_
  refine mm_puti C fl_X11_98 (mm_dec dk_X11_rules 10 rfl) rfl rfl rfl (Or.inl ⟨rfl, rfl⟩) ?_
  have i2 : mm_inv (mm_pf h10c 0 12 0) := mm_inv_pf i10c (show 0 ≤ 0 ∧ 0 ≤ 500 from ⟨by omega, by omega⟩) (by decide)
  have f2 : mm_fr [(0, 12), (0, 14), (42, 3), (63, 3), (63, 4), (63, 5), (63, 6), (63, 7), (63, 8), (63, 9), (63, 10)] [43, 44, 64, 65] h (mm_pf h10c 0 12 0) := mm_fr_pf f10c (by decide)
  obtain ⟨h2, eh2⟩ : ∃ z, z = mm_pf h10c 0 12 0 := ⟨_, rfl⟩
  rw [← eh2] at i2 f2 ⊢
  have qh2 : h2.1 0 12 = 0 := by rw [eh2]; exact mm_pf_same _ _ _ _
  refine mm_aload_n C (mm_dec dk_X11_rules 11 rfl) rfl ?_
  refine mm_aload_n C (mm_dec dk_X11_rules 12 rfl) rfl ?_
  refine mm_getr (t := 63) C fl_X11_94 (mm_dec dk_X11_rules 13 rfl) rfl rfl (mm_ref i2 rfl) ?_
  refine mm_cVi (rest := [mR 0]) C1 ev_X11_318 (mm_dec dk_X11_rules 14 rfl) (c_X7_faultAt x.2.1 hl (d - 1) (by omega) h2 i2 ) rfl rfl (Nat.le_of_ble_eq_true rfl) ⟨by decide, by decide⟩ rfl (fun r24 h24c hp24 => ?_) (fun _ _ q => q.elim)
  obtain ⟨z24, y24⟩ := hp24
  rw [z24, y24]
  have g6 : -2147483648 ≤ (h2.1 63 10) ∧ (h2.1 63 10) ≤ 2147483647 := i2.1 63 10
  refine mm_puti C fl_X11_105 (mm_dec dk_X11_rules 15 rfl) rfl rfl rfl (Or.inl ⟨rfl, rfl⟩) ?_
  have i3 : mm_inv (mm_pf h2 0 14 (h2.1 63 10)) := mm_inv_pf i2 (show -2147483648 ≤ (h2.1 63 10) ∧ (h2.1 63 10) ≤ 2147483647 from ⟨by omega, by omega⟩) (by decide)
  have f3 : mm_fr [(0, 12), (0, 14), (42, 3), (63, 3), (63, 4), (63, 5), (63, 6), (63, 7), (63, 8), (63, 9), (63, 10)] [43, 44, 64, 65] h (mm_pf h2 0 14 (h2.1 63 10)) := mm_fr_pf f2 (by decide)
  obtain ⟨h3, eh3⟩ : ∃ z, z = mm_pf h2 0 14 (h2.1 63 10) := ⟨_, rfl⟩
  rw [← eh3] at i3 f3 ⊢
  have qh3 : h3.1 0 14 = (h2.1 63 10) := by rw [eh3]; exact mm_pf_same _ _ _ _
  have qh3_7 : h3.1 0 12 = h2.1 0 12 := by rw [eh3]; exact mm_pf_ne _ _ (by decide)
  have qh3_8 : h3.1 63 10 = h2.1 63 10 := by rw [eh3]; exact mm_pf_ne _ _ (by decide)
  refine mm_iload_n C (mm_dec dk_X11_rules 16 rfl) rfl ?_
  have J45 : ∀ (h45_ : mH) (i45_ : mm_inv h45_) (f45_ : mm_fr [(0, 12), (0, 14), (42, 3), (63, 3), (63, 4), (63, 5), (63, 6), (63, 7), (63, 8), (63, 9), (63, 10)] [43, 44, 64, 65] h h45_), mm_W x 1 6 45 [mU, mU, mI r10] [] h45_ := by
    intro h45_ i45_ f45_
    refine mm_iload_n C (mm_dec dk_X11_rules 23 rfl) rfl ?_
    exact mm_iret C T (mm_dec dk_X11_rules 24 rfl) (by decide : 1 ≤ 1) (by decide : 6 ≤ 6) ⟨_, rfl, ⟨⟨by omega, by omega⟩, i45_, f45_⟩⟩
  refine mm_if_ne (tgt := 45) C (mm_dec dk_X11_rules 17 rfl) (by decide) (fun c31 => ?_) (fun c31 => ?_)
  · skip
    refine mm_fgt 0 ?_
    refine mm_fgt 1 ?_
    exact J45 h3 i3 f3
  · skip
    refine mm_aload_n C (mm_dec dk_X11_rules 18 rfl) rfl ?_
    refine mm_getr (t := 42) C fl_X11_51 (mm_dec dk_X11_rules 19 rfl) rfl rfl (mm_ref i3 rfl) ?_
    refine mm_aload_n C (mm_dec dk_X11_rules 20 rfl) rfl ?_
    refine mm_getr (t := 63) C fl_X11_94 (mm_dec dk_X11_rules 21 rfl) rfl rfl (mm_ref i3 rfl) ?_
    refine mm_cVv (rest := []) C1 ev_X11_320 (mm_dec dk_X11_rules 22 rfl) (c_X8_adopt_63 x.2.1 hl (d - 1) (by omega) h3 i3 ) rfl rfl (Nat.le_of_ble_eq_true rfl) ⟨by decide, by decide⟩ rfl (fun h42c hp42 => ?_) (fun _ _ q => q.elim)
    obtain ⟨i42c, g42c⟩ := hp42
    have f42c : mm_fr [(0, 12), (0, 14), (42, 3), (63, 3), (63, 4), (63, 5), (63, 6), (63, 7), (63, 8), (63, 9), (63, 10)] [43, 44, 64, 65] h h42c := mm_fr_tr f3 g42c (by decide +kernel)
    have q42c_10 : h42c.1 0 12 = h3.1 0 12 := g42c.1 0 12 (by decide)
    have q42c_11 : h42c.1 0 14 = h3.1 0 14 := g42c.1 0 14 (by decide)
    have q42c_12 : h42c.1 63 10 = h3.1 63 10 := g42c.1 63 10 (by decide)
    refine mm_fgt 0 ?_
    refine mm_fgt 1 ?_
    exact J45 h42c i42c f42c
set_option maxRecDepth 100000 in
set_option maxHeartbeats 4000000 in
theorem c_X11_protest_e (l : Launch) (hl : l.stackTraces = false) (d : Nat) (hd : 9 ≤ d) (h : mH) (i0 : mm_inv h) (p1 : Int) : mm_Met l d yX11_protest cX11_protest 3 (some .int) [mR 0, mI p1] h (mm_pi fun r h2 => (-1 ≤ r ∧ r ≤ 39) ∧ mm_inv h2 ∧ mm_fr [(30, 12)] [37, 40] h h2) (mm_xn h) 1 6 := by
  refine mm_ofW (ls := [mR 0, mI p1, mU]) hl (by decide) rfl (Nat.le_of_ble_eq_true rfl) ?_
  intro x hxl C T hnm htb
  subst hxl
  have C1 := mm_OK_le (d' := d - 1 + 1) (by omega) C
  have C8 := mm_OK_le (d' := d - 8 + 8) (by omega) C
  refine mm_rng (fun hr _ => ?_)
  have ap1 : -2147483648 ≤ p1 ∧ p1 < 2147483648 := mm_ok_at hr (i := 1) rfl
  have f0 : mm_fr [(30, 12)] [37, 40] h h := mm_fr_rf
  refine mm_aload_n C (mm_dec dk_X11_protest 0 rfl) rfl ?_
  refine mm_iload_n C (mm_dec dk_X11_protest 1 rfl) rfl ?_
  refine mm_cVv (rest := []) C1 ev_X11_235 (mm_dec dk_X11_protest 2 rfl) (c_X11_needRunner_e x.2.1 hl (d - 1) (by omega) h i0 p1) rfl rfl (Nat.le_of_ble_eq_true rfl) ⟨by decide, by decide⟩ rfl (fun h2c hp2 => ?_) (fun E hx q => mm_out C T htb (by decide) (by decide) (by exact q))
  obtain ⟨z2, k2_0, k2_1⟩ := hp2
  rw [z2]
  have g2 : 0 ≤ (h.1 22 8) ∧ (h.1 22 8) ≤ 40 := i0.1 22 8
  refine mm_aload_n C (mm_dec dk_X11_protest 3 rfl) rfl ?_
  refine mm_getr (t := 30) C fl_X11_44 (mm_dec dk_X11_protest 4 rfl) rfl rfl (mm_ref i0 rfl) ?_
  refine mm_iconst C (mm_dec dk_X11_protest 5 rfl) ⟨by decide, by decide⟩ ?_
  refine mm_iload_n C (mm_dec dk_X11_protest 6 rfl) rfl ?_
  refine mm_aload_n C (mm_dec dk_X11_protest 7 rfl) rfl ?_
  refine mm_geti C fl_X11_102 (mm_dec dk_X11_protest 8 rfl) rfl rfl (Or.inl rfl) ?_
  have g3 : 0 ≤ (h.1 0 13) ∧ (h.1 0 13) ≤ 99999 := i0.1 0 13
  refine mm_cVi (rest := []) C1 ev_X11_324 (mm_dec dk_X11_protest 9 rfl) (c_X6_latest x.2.1 hl (d - 1) (by omega) h i0 2 p1 (h.1 0 13) ⟨by omega, by omega⟩) rfl rfl (Nat.le_of_ble_eq_true rfl) ⟨by decide, by decide⟩ rfl (fun r15 h15c hp15 => ?_) (fun _ _ q => q.elim)
  obtain ⟨b15, z15⟩ := hp15
  rw [z15]
  refine mm_istore_nL (ls2 := [mR 0, mI p1, mI r15]) C (mm_dec dk_X11_protest 10 rfl) (by decide) rfl ?_
  refine mm_aload_n C (mm_dec dk_X11_protest 11 rfl) rfl ?_
  refine mm_getr (t := 30) C fl_X11_44 (mm_dec dk_X11_protest 12 rfl) rfl rfl (mm_ref i0 rfl) ?_
  refine mm_cVi (rest := []) C1 ev_X11_327 (mm_dec dk_X11_protest 13 rfl) (c_X6_protests x.2.1 hl (d - 1) (by omega) h i0 ) rfl rfl (Nat.le_of_ble_eq_true rfl) ⟨by decide, by decide⟩ rfl (fun r23 h23c hp23 => ?_) (fun _ _ q => q.elim)
  obtain ⟨z23, y23⟩ := hp23
  rw [z23, y23]
  have g6 : 0 ≤ (h.1 30 12) ∧ (h.1 30 12) ≤ 40 := i0.1 30 12
  refine mm_bipush C (mm_dec dk_X11_protest 14 rfl) ⟨by decide, by decide⟩ ?_
  have J36 : mm_W x 1 6 36 [mU, mU, mU] [] h := by
    refine mm_iconst C (mm_dec dk_X11_protest 19 rfl) ⟨by decide, by decide⟩ ?_
    exact mm_iret C T (mm_dec dk_X11_protest 20 rfl) (by decide : 1 ≤ 1) (by decide : 6 ≤ 6) ⟨_, rfl, ⟨⟨by omega, by omega⟩, i0, f0⟩⟩
  refine mm_icmp_ge (tgt := 36) C (mm_dec dk_X11_protest 15 rfl) (by decide) (fun c28 => ?_) (fun c28 => ?_)
  · skip
    refine mm_fgt 0 ?_
    refine mm_fgt 1 ?_
    refine mm_fgt 2 ?_
    exact J36
  · skip
    refine mm_iload_n C (mm_dec dk_X11_protest 16 rfl) rfl ?_
    refine mm_iconst C (mm_dec dk_X11_protest 17 rfl) ⟨by decide, by decide⟩ ?_
    refine mm_icmp_ne (tgt := 38) C (mm_dec dk_X11_protest 18 rfl) (by decide) (fun c33 => ?_) (fun c33 => ?_)
    · skip
      refine mm_aload_n C (mm_dec dk_X11_protest 21 rfl) rfl ?_
      refine mm_geti C fl_X11_102 (mm_dec dk_X11_protest 22 rfl) rfl rfl (Or.inl rfl) ?_
      refine mm_aload_n C (mm_dec dk_X11_protest 23 rfl) rfl ?_
      refine mm_getr (t := 30) C fl_X11_44 (mm_dec dk_X11_protest 24 rfl) rfl rfl (mm_ref i0 rfl) ?_
      refine mm_iload_n C (mm_dec dk_X11_protest 25 rfl) rfl ?_
      refine mm_cVi (rest := [mI (h.1 0 13)]) C1 ev_X11_330 (mm_dec dk_X11_protest 26 rfl) (c_X6_toldAt x.2.1 hl (d - 1) (by omega) h i0 r15 ⟨by omega, by omega⟩) rfl rfl (Nat.le_of_ble_eq_true rfl) ⟨by decide, by decide⟩ rfl (fun r47 h47c hp47 => ?_) (fun _ _ q => q.elim)
      obtain ⟨z47, y47⟩ := hp47
      rw [z47, y47]
      have g8 : -2147483648 ≤ (h.2.1 35 r15) ∧ (h.2.1 35 r15) ≤ 2147483647 := i0.2.1 35 r15
      refine mm_isubw C (mm_dec dk_X11_protest 27 rfl) ?_
      have g9 : -2147483648 ≤ (mm_w ((h.1 0 13) - (h.2.1 35 r15))) ∧ (mm_w ((h.1 0 13) - (h.2.1 35 r15))) < 2147483648 := mm_w_rg _
      refine mm_aload_n C (mm_dec dk_X11_protest 28 rfl) rfl ?_
      refine mm_getr (t := 42) C fl_X11_51 (mm_dec dk_X11_protest 29 rfl) rfl rfl (mm_ref i0 rfl) ?_
      refine mm_iconst C (mm_dec dk_X11_protest 30 rfl) ⟨by decide, by decide⟩ ?_
      refine mm_cVi (rest := [mI (mm_w ((h.1 0 13) - (h.2.1 35 r15)))]) C1 ev_X11_333 (mm_dec dk_X11_protest 31 rfl) (c_X8_param x.2.1 hl (d - 1) (by omega) h i0 2 ⟨by omega, by omega⟩) rfl rfl (Nat.le_of_ble_eq_true rfl) ⟨by decide, by decide⟩ rfl (fun r56 h56c hp56 => ?_) (fun _ _ q => q.elim)
      obtain ⟨z56, y56⟩ := hp56
      rw [z56, y56]
      have g11 : -2147483648 ≤ (h.2.1 44 2) ∧ (h.2.1 44 2) ≤ 2147483647 := i0.2.1 44 2
      refine mm_icmp_le (tgt := 64) C (mm_dec dk_X11_protest 32 rfl) (by decide) (fun c59 => ?_) (fun c59 => ?_)
      · skip
        refine mm_aload_n C (mm_dec dk_X11_protest 35 rfl) rfl ?_
        refine mm_getr (t := 30) C fl_X11_44 (mm_dec dk_X11_protest 36 rfl) rfl rfl (mm_ref i0 rfl) ?_
        refine mm_iload_n C (mm_dec dk_X11_protest 37 rfl) rfl ?_
        refine mm_cVi (rest := []) C1 ev_X11_336 (mm_dec dk_X11_protest 38 rfl) (c_X6_accuse x.2.1 hl (d - 1) (by omega) h i0 p1 ⟨by omega, by omega⟩ (by omega)) rfl rfl (Nat.le_of_ble_eq_true rfl) ⟨by decide, by decide⟩ rfl (fun r69 h69c hp69 => ?_) (fun _ _ q => q.elim)
        obtain ⟨b69, i69c, g69c⟩ := hp69
        have f69c : mm_fr [(30, 12)] [37, 40] h h69c := mm_fr_tr f0 g69c (by decide +kernel)
        have q69c_13 : h69c.1 0 13 = h.1 0 13 := g69c.1 0 13 (by decide)
        have q69c_14 : h69c.1 22 8 = h.1 22 8 := g69c.1 22 8 (by decide)
        exact mm_iret C T (mm_dec dk_X11_protest 39 rfl) (by decide : 1 ≤ 1) (by decide : 6 ≤ 6) ⟨_, rfl, ⟨⟨by omega, by omega⟩, i69c, f69c⟩⟩
      · skip
        refine mm_iconst C (mm_dec dk_X11_protest 33 rfl) ⟨by decide, by decide⟩ ?_
        exact mm_iret C T (mm_dec dk_X11_protest 34 rfl) (by decide : 1 ≤ 1) (by decide : 6 ≤ 6) ⟨_, rfl, ⟨⟨by omega, by omega⟩, i0, f0⟩⟩
    · skip
      refine mm_fgt 0 ?_
      refine mm_fgt 1 ?_
      refine mm_fgt 2 ?_
      exact J36
set_option maxRecDepth 100000 in
set_option maxHeartbeats 4000000 in
theorem c_X11_draw_e (l : Launch) (hl : l.stackTraces = false) (d : Nat) (hd : 9 ≤ d) (h : mH) (i0 : mm_inv h) (p1 : Int) (p2 : Int) (p4 : Int) : mm_Met l d yX11_draw cX11_draw 8 (some .int) [mR 0, mI p1, mL p2, mI p4] h (mm_pi fun r h2 => (-1 ≤ r ∧ r ≤ 40) ∧ mm_inv h2 ∧ mm_fr [(30, 6), (54, 5)] [31, 32, 33, 34, 35, 36, 55, 56, 57] h h2) (mm_xn h) 1 6 := by
  refine mm_ofW (ls := [mR 0, mI p1, mL p2, mU, mI p4, mU, mU, mU]) hl (by decide) rfl (Nat.le_of_ble_eq_true rfl) ?_
  intro x hxl C T hnm htb
  subst hxl
  have C1 := mm_OK_le (d' := d - 1 + 1) (by omega) C
  have C8 := mm_OK_le (d' := d - 8 + 8) (by omega) C
  refine mm_rng (fun hr _ => ?_)
  have ap1 : -2147483648 ≤ p1 ∧ p1 < 2147483648 := mm_ok_at hr (i := 1) rfl
  have ap2 : -9223372036854775808 ≤ p2 ∧ p2 < 9223372036854775808 := mm_ok_at hr (i := 2) rfl
  have ap4 : -2147483648 ≤ p4 ∧ p4 < 2147483648 := mm_ok_at hr (i := 4) rfl
  have f0 : mm_fr [(30, 6), (54, 5)] [31, 32, 33, 34, 35, 36, 55, 56, 57] h h := mm_fr_rf
  have g1 : 0 ≤ h.1 30 6 ∧ h.1 30 6 ≤ 500 := i0.1 30 6
  refine mm_aload_n C (mm_dec dk_X11_draw 0 rfl) rfl ?_
  refine mm_iload_n C (mm_dec dk_X11_draw 1 rfl) rfl ?_
  refine mm_cVv (rest := []) C1 ev_X11_207 (mm_dec dk_X11_draw 2 rfl) (c_X11_needCourse_e x.2.1 hl (d - 1) (by omega) h i0 p1) rfl rfl (Nat.le_of_ble_eq_true rfl) ⟨by decide, by decide⟩ rfl (fun h2c hp2 => ?_) (fun E hx q => mm_out C T htb (by decide) (by decide) (by exact q))
  obtain ⟨z2, k2_0, k2_1⟩ := hp2
  rw [z2]
  have g3 : 0 ≤ (h.1 14 8) ∧ (h.1 14 8) ≤ 8 := i0.1 14 8
  refine mm_iload C (mm_dec dk_X11_draw 3 rfl) rfl ?_
  refine mm_aload_n C (mm_dec dk_X11_draw 4 rfl) rfl ?_
  refine mm_geti C fl_X11_102 (mm_dec dk_X11_draw 5 rfl) rfl rfl (Or.inl rfl) ?_
  have g4 : 0 ≤ (h.1 0 13) ∧ (h.1 0 13) ≤ 99999 := i0.1 0 13
  refine mm_ldcw (z := 99999) C (mm_dec dk_X11_draw 6 rfl) kc_X11_260 (by decide) ?_
  refine mm_cSi (rest := []) C1 es_X11_130 (mm_dec dk_X11_draw 7 rfl) (c_X11_within x.2.1 hl (d - 1) (by omega) h i0 p4 (h.1 0 13) 99999) rfl (Nat.le_of_ble_eq_true rfl) ⟨by decide, by decide⟩ rfl (fun r14 h14c hp14 => ?_) (fun _ _ q => q.elim)
  obtain ⟨z14, y14⟩ := hp14
  rw [z14]
  refine mm_if_ne (tgt := 22) C (mm_dec dk_X11_draw 8 rfl) (by decide) (fun c17 => ?_) (fun c17 => ?_)
  · skip
    refine mm_aload_n C (mm_dec dk_X11_draw 11 rfl) rfl ?_
    refine mm_getr (t := 54) C fl_X11_69 (mm_dec dk_X11_draw 12 rfl) rfl rfl (mm_ref i0 rfl) ?_
    refine mm_iload_n C (mm_dec dk_X11_draw 13 rfl) rfl ?_
    refine mm_aload_n C (mm_dec dk_X11_draw 14 rfl) rfl ?_
    refine mm_geti C fl_X11_102 (mm_dec dk_X11_draw 15 rfl) rfl rfl (Or.inl rfl) ?_
    refine mm_cVi (rest := []) C1 ev_X11_345 (mm_dec dk_X11_draw 16 rfl) (c_X3_gather x.2.1 hl (d - 1) (by omega) h i0 p1 (h.1 0 13) ⟨by omega, by omega⟩) rfl rfl (Nat.le_of_ble_eq_true rfl) ⟨by decide, by decide⟩ rfl (fun r31 h31c hp31 => ?_) (fun _ _ q => q.elim)
    obtain ⟨b31, i31c, g31c⟩ := hp31
    have f31c : mm_fr [(30, 6), (54, 5)] [31, 32, 33, 34, 35, 36, 55, 56, 57] h h31c := mm_fr_tr f0 g31c (by decide +kernel)
    have q31c_7 : h31c.1 0 13 = h.1 0 13 := g31c.1 0 13 (by decide)
    have q31c_8 : h31c.1 14 8 = h.1 14 8 := g31c.1 14 8 (by decide)
    have q31c_9 : h31c.1 30 6 = h.1 30 6 := g31c.1 30 6 (by decide)
    refine mm_istoreL (ls2 := [mR 0, mI p1, mL p2, mU, mI p4, mI r31, mU, mU]) C (mm_dec dk_X11_draw 17 rfl) (by decide) rfl ?_
    refine mm_aload_n C (mm_dec dk_X11_draw 18 rfl) rfl ?_
    refine mm_getr (t := 42) C fl_X11_51 (mm_dec dk_X11_draw 19 rfl) rfl rfl (mm_ref i31c rfl) ?_
    refine mm_iconst C (mm_dec dk_X11_draw 20 rfl) ⟨by decide, by decide⟩ ?_
    refine mm_cVi (rest := []) C1 ev_X11_333 (mm_dec dk_X11_draw 21 rfl) (c_X8_param x.2.1 hl (d - 1) (by omega) h31c i31c 1 ⟨by omega, by omega⟩) rfl rfl (Nat.le_of_ble_eq_true rfl) ⟨by decide, by decide⟩ rfl (fun r41 h41c hp41 => ?_) (fun _ _ q => q.elim)
    obtain ⟨z41, y41⟩ := hp41
    rw [z41, y41]
    have g11 : -2147483648 ≤ (h31c.2.1 44 1) ∧ (h31c.2.1 44 1) ≤ 2147483647 := i31c.2.1 44 1
    refine mm_istoreL (ls2 := [mR 0, mI p1, mL p2, mU, mI p4, mI r31, mI (h31c.2.1 44 1), mU]) C (mm_dec dk_X11_draw 22 rfl) (by decide) rfl ?_
    refine mm_iload C (mm_dec dk_X11_draw 23 rfl) rfl ?_
    refine mm_sipush C (mm_dec dk_X11_draw 24 rfl) ⟨by decide, by decide⟩ ?_
    refine mm_aload_n C (mm_dec dk_X11_draw 25 rfl) rfl ?_
    refine mm_getr (t := 30) C fl_X11_44 (mm_dec dk_X11_draw 26 rfl) rfl rfl (mm_ref i31c rfl) ?_
    refine mm_cVi (rest := [mI 500, mI r31]) C1 ev_X11_268 (mm_dec dk_X11_draw 27 rfl) (c_X6_events x.2.1 hl (d - 1) (by omega) h31c i31c ) rfl rfl (Nat.le_of_ble_eq_true rfl) ⟨by decide, by decide⟩ rfl (fun r55 h55c hp55 => ?_) (fun _ _ q => q.elim)
    obtain ⟨z55, y55⟩ := hp55
    rw [z55, y55]
    refine mm_isub C (mm_dec dk_X11_draw 28 rfl) ⟨by omega, by omega⟩ ?_
    have J78 : mm_W x 1 6 78 [mU, mU, mU, mU, mU, mU, mU, mU] [] h31c := by
      refine mm_iconst C (mm_dec dk_X11_draw 39 rfl) ⟨by decide, by decide⟩ ?_
      exact mm_iret C T (mm_dec dk_X11_draw 40 rfl) (by decide : 1 ≤ 1) (by decide : 6 ≤ 6) ⟨_, rfl, ⟨⟨by omega, by omega⟩, i31c, f31c⟩⟩
    refine mm_icmp_gt (tgt := 78) C (mm_dec dk_X11_draw 29 rfl) (by decide) (fun c59 => ?_) (fun c59 => ?_)
    · skip
      refine mm_fgt 0 ?_
      refine mm_fgt 1 ?_
      refine mm_fgt 2 ?_
      refine mm_fgt 4 ?_
      refine mm_fgt 5 ?_
      refine mm_fgt 6 ?_
      exact J78
    · skip
      refine mm_iload C (mm_dec dk_X11_draw 30 rfl) rfl ?_
      refine mm_iload C (mm_dec dk_X11_draw 31 rfl) rfl ?_
      refine mm_iconst C (mm_dec dk_X11_draw 32 rfl) ⟨by decide, by decide⟩ ?_
      refine mm_isub C (mm_dec dk_X11_draw 33 rfl) ⟨by omega, by omega⟩ ?_
      refine mm_iload C (mm_dec dk_X11_draw 34 rfl) rfl ?_
      refine mm_imulw C (mm_dec dk_X11_draw 35 rfl) ?_
      have g13 : -2147483648 ≤ (mm_w ((r31 - 1) * (h31c.2.1 44 1))) ∧ (mm_w ((r31 - 1) * (h31c.2.1 44 1))) < 2147483648 := mm_w_rg _
      refine mm_iaddw C (mm_dec dk_X11_draw 36 rfl) ?_
      have g14 : -2147483648 ≤ (mm_w (p4 + (mm_w ((r31 - 1) * (h31c.2.1 44 1))))) ∧ (mm_w (p4 + (mm_w ((r31 - 1) * (h31c.2.1 44 1))))) < 2147483648 := mm_w_rg _
      refine mm_ldcw (z := 99999) C (mm_dec dk_X11_draw 37 rfl) kc_X11_260 (by decide) ?_
      refine mm_icmp_le (tgt := 80) C (mm_dec dk_X11_draw 38 rfl) (by decide) (fun c75 => ?_) (fun c75 => ?_)
      · skip
        refine mm_aload_n C (mm_dec dk_X11_draw 41 rfl) rfl ?_
        refine mm_getr (t := 54) C fl_X11_69 (mm_dec dk_X11_draw 42 rfl) rfl rfl (mm_ref i31c rfl) ?_
        refine mm_lload_n C (mm_dec dk_X11_draw 43 rfl) rfl ?_
        refine mm_cVi (rest := []) C1 ev_X11_348 (mm_dec dk_X11_draw 44 rfl) (c_X3_arrange x.2.1 hl (d - 1) (by omega) h31c i31c p2) rfl rfl (Nat.le_of_ble_eq_true rfl) ⟨by decide, by decide⟩ rfl (fun r85 h85c hp85 => ?_) (fun _ _ q => q.elim)
        obtain ⟨b85, i85c, g85c⟩ := hp85
        have f85c : mm_fr [(30, 6), (54, 5)] [31, 32, 33, 34, 35, 36, 55, 56, 57] h h85c := mm_fr_tr f31c g85c (by decide +kernel)
        have q85c_16 : h85c.1 0 13 = h31c.1 0 13 := g85c.1 0 13 (by decide)
        have q85c_17 : h85c.1 14 8 = h31c.1 14 8 := g85c.1 14 8 (by decide)
        have q85c_18 : h85c.1 30 6 = h31c.1 30 6 := g85c.1 30 6 (by decide)
        refine mm_if_ne (tgt := 93) C (mm_dec dk_X11_draw 45 rfl) (by decide) (fun c88 => ?_) (fun c88 => ?_)
        · skip
          refine mm_iconst C (mm_dec dk_X11_draw 48 rfl) ⟨by decide, by decide⟩ ?_
          have J96 : ∀ (n : Nat) (x96_7 : Int) (bx96_7 : 0 ≤ x96_7 ∧ x96_7 ≤ 40) (h96_ : mH) (i96_ : mm_inv h96_) (f96_ : mm_fr [(30, 6), (54, 5)] [31, 32, 33, 34, 35, 36, 55, 56, 57] h h96_) (w96_0 : h96_.1 30 6 + r31 - x96_7 ≤ 500), (40 - x96_7 : Int) < n → mm_W x 1 6 96 [mR 0, mU, mU, mU, mI p4, mI r31, mI (h31c.2.1 44 1), mI x96_7] [] h96_ := by
            intro n
            induction n with
            | zero =>
              intro x96_7 bx96_7 h96_ i96_ f96_ w96_0 hm
              have g19 : 0 ≤ h96_.1 30 6 ∧ h96_.1 30 6 ≤ 500 := i96_.1 30 6
              exfalso; omega
            | succ n ih96 =>
              intro x96_7 bx96_7 h96_ i96_ f96_ w96_0 hm96
              have g20 : 0 ≤ h96_.1 30 6 ∧ h96_.1 30 6 ≤ 500 := i96_.1 30 6
              refine mm_iload C (mm_dec dk_X11_draw 50 rfl) rfl ?_
              refine mm_iload C (mm_dec dk_X11_draw 51 rfl) rfl ?_
              refine mm_icmp_ge (tgt := 140) C (mm_dec dk_X11_draw 52 rfl) (by decide) (fun c100 => ?_) (fun c100 => ?_)
              · skip
                refine mm_iload C (mm_dec dk_X11_draw 72 rfl) rfl ?_
                exact mm_iret C T (mm_dec dk_X11_draw 73 rfl) (by decide : 1 ≤ 1) (by decide : 6 ≤ 6) ⟨_, rfl, ⟨⟨by omega, by omega⟩, i96_, f96_⟩⟩
              · skip
                refine mm_aload_n C (mm_dec dk_X11_draw 53 rfl) rfl ?_
                refine mm_getr (t := 30) C fl_X11_44 (mm_dec dk_X11_draw 54 rfl) rfl rfl (mm_ref i96_ rfl) ?_
                refine mm_iconst C (mm_dec dk_X11_draw 55 rfl) ⟨by decide, by decide⟩ ?_
                refine mm_aload_n C (mm_dec dk_X11_draw 56 rfl) rfl ?_
                refine mm_getr (t := 54) C fl_X11_69 (mm_dec dk_X11_draw 57 rfl) rfl rfl (mm_ref i96_ rfl) ?_
                refine mm_iload C (mm_dec dk_X11_draw 58 rfl) rfl ?_
                refine mm_cVi (rest := [mI 0, mR 30]) C1 ev_X11_352 (mm_dec dk_X11_draw 59 rfl) (c_X3_drawn x.2.1 hl (d - 1) (by omega) h96_ i96_ x96_7 ⟨by omega, by omega⟩) rfl rfl (Nat.le_of_ble_eq_true rfl) ⟨by decide, by decide⟩ rfl (fun r114 h114c hp114 => ?_) (fun _ _ q => q.elim)
                obtain ⟨z114, y114⟩ := hp114
                rw [z114, y114]
                have g22 : 0 ≤ (h96_.2.1 56 x96_7) ∧ (h96_.2.1 56 x96_7) ≤ 39 := i96_.2.1 56 x96_7
                refine mm_iconst C (mm_dec dk_X11_draw 60 rfl) ⟨by decide, by decide⟩ ?_
                refine mm_iload C (mm_dec dk_X11_draw 61 rfl) rfl ?_
                refine mm_iload C (mm_dec dk_X11_draw 62 rfl) rfl ?_
                refine mm_iload C (mm_dec dk_X11_draw 63 rfl) rfl ?_
                refine mm_imulw C (mm_dec dk_X11_draw 64 rfl) ?_
                have g23 : -2147483648 ≤ (mm_w (x96_7 * (h31c.2.1 44 1))) ∧ (mm_w (x96_7 * (h31c.2.1 44 1))) < 2147483648 := mm_w_rg _
                refine mm_iaddw C (mm_dec dk_X11_draw 65 rfl) ?_
                have g24 : -2147483648 ≤ (mm_w (p4 + (mm_w (x96_7 * (h31c.2.1 44 1))))) ∧ (mm_w (p4 + (mm_w (x96_7 * (h31c.2.1 44 1))))) < 2147483648 := mm_w_rg _
                refine mm_aload_n C (mm_dec dk_X11_draw 66 rfl) rfl ?_
                refine mm_geti C fl_X11_102 (mm_dec dk_X11_draw 67 rfl) rfl rfl (Or.inl rfl) ?_
                have g25 : 0 ≤ (h96_.1 0 13) ∧ (h96_.1 0 13) ≤ 99999 := i96_.1 0 13
                refine mm_cVi (rest := []) C1 ev_X11_271 (mm_dec dk_X11_draw 68 rfl) (c_X6_tell x.2.1 hl (d - 1) (by omega) h96_ i96_ 0 (h96_.2.1 56 x96_7) (-1) (mm_w (p4 + (mm_w (x96_7 * (h31c.2.1 44 1))))) (h96_.1 0 13) ⟨by omega, by omega⟩ (by omega)) rfl rfl (Nat.le_of_ble_eq_true rfl) ⟨by decide, by decide⟩ rfl (fun r130 h130c hp130 => ?_) (fun _ _ q => q.elim)
                obtain ⟨b130, i130c, g130c, y130_0⟩ := hp130
                have f130c : mm_fr [(30, 6), (54, 5)] [31, 32, 33, 34, 35, 36, 55, 56, 57] h h130c := mm_fr_tr f96_ g130c (by decide +kernel)
                have q130c_27 : h130c.1 0 13 = h96_.1 0 13 := g130c.1 0 13 (by decide)
                have g28 : 0 ≤ (h130c.1 30 6) ∧ (h130c.1 30 6) ≤ 500 := i130c.1 30 6
                refine mm_pop C (mm_dec dk_X11_draw 69 rfl) (show (0 : Nat) ≠ 1 by decide) ?_
                refine mm_iincL (ls2 := [mR 0, mU, mU, mU, mI p4, mI r31, mI (h31c.2.1 44 1), mI (x96_7 + 1)]) C (mm_dec dk_X11_draw 70 rfl) rfl (by decide) ⟨by omega, by omega⟩ rfl ?_
                refine mm_goto (tgt := 96) C (mm_dec dk_X11_draw 71 rfl) (by decide) ?_
                exact ih96 (x96_7 + 1) ⟨by omega, by omega⟩ h130c i130c f130c (by omega) (by omega)
          refine mm_istoreL (ls2 := [mR 0, mI p1, mL p2, mU, mI p4, mI r31, mI (h31c.2.1 44 1), mI 0]) C (mm_dec dk_X11_draw 49 rfl) (by decide) rfl ?_
          refine mm_fgt 1 ?_
          refine mm_fgt 2 ?_
          exact J96 (((40 - 0) : Int) + 1).toNat 0 ⟨by omega, by omega⟩ h85c i85c f85c (by omega) (by omega)
        · skip
          refine mm_iconst C (mm_dec dk_X11_draw 46 rfl) ⟨by decide, by decide⟩ ?_
          exact mm_iret C T (mm_dec dk_X11_draw 47 rfl) (by decide : 1 ≤ 1) (by decide : 6 ≤ 6) ⟨_, rfl, ⟨⟨by omega, by omega⟩, i85c, f85c⟩⟩
      · skip
        refine mm_fgt 0 ?_
        refine mm_fgt 1 ?_
        refine mm_fgt 2 ?_
        refine mm_fgt 4 ?_
        refine mm_fgt 5 ?_
        refine mm_fgt 6 ?_
        exact J78
  · skip
    refine mm_iconst C (mm_dec dk_X11_draw 9 rfl) ⟨by decide, by decide⟩ ?_
    exact mm_iret C T (mm_dec dk_X11_draw 10 rfl) (by decide : 1 ≤ 1) (by decide : 6 ≤ 6) ⟨_, rfl, ⟨⟨by omega, by omega⟩, i0, f0⟩⟩
set_option maxRecDepth 100000 in
set_option maxHeartbeats 4000000 in
theorem c_X11_best_e (l : Launch) (hl : l.stackTraces = false) (d : Nat) (hd : 9 ≤ d) (h : mH) (i0 : mm_inv h) (p1 : Int) (p2 : Int) : mm_Met l d yX11_best cX11_best 3 (some .int) [mR 0, mI p1, mI p2] h (mm_pi fun r h2 => (-2147483648 ≤ r ∧ r ≤ 2147483647) ∧ mm_inv h2 ∧ mm_fr [(7, 7), (7, 8), (58, 5), (58, 6), (58, 7), (58, 8), (58, 9), (58, 10)] [8, 9, 10, 11, 59, 60, 125] h h2) (mm_xp h) 2 49158 := by
  refine mm_ofW (ls := [mR 0, mI p1, mI p2]) hl (by decide) rfl (Nat.le_of_ble_eq_true rfl) ?_
  intro x hxl C T hnm htb
  subst hxl
  have C1 := mm_OK_le (d' := d - 1 + 1) (by omega) C
  have C8 := mm_OK_le (d' := d - 8 + 8) (by omega) C
  refine mm_rng (fun hr _ => ?_)
  have ap1 : -2147483648 ≤ p1 ∧ p1 < 2147483648 := mm_ok_at hr (i := 1) rfl
  have ap2 : -2147483648 ≤ p2 ∧ p2 < 2147483648 := mm_ok_at hr (i := 2) rfl
  have f0 : mm_fr [(7, 7), (7, 8), (58, 5), (58, 6), (58, 7), (58, 8), (58, 9), (58, 10)] [8, 9, 10, 11, 59, 60, 125] h h := mm_fr_rf
  refine mm_aload_n C (mm_dec dk_X11_best 0 rfl) rfl ?_
  refine mm_iload_n C (mm_dec dk_X11_best 1 rfl) rfl ?_
  refine mm_cVv (rest := []) C1 ev_X11_207 (mm_dec dk_X11_best 2 rfl) (c_X11_needCourse_e x.2.1 hl (d - 1) (by omega) h i0 p1) rfl rfl (Nat.le_of_ble_eq_true rfl) ⟨by decide, by decide⟩ rfl (fun h2c hp2 => ?_) (fun E hx q => mm_out C T htb (by decide) (by decide) (by exact Or.inl q))
  obtain ⟨z2, k2_0, k2_1⟩ := hp2
  rw [z2]
  have g2 : 0 ≤ (h.1 14 8) ∧ (h.1 14 8) ≤ 8 := i0.1 14 8
  refine mm_iload_n C (mm_dec dk_X11_best 3 rfl) rfl ?_
  refine mm_if_ge (tgt := 20) C (mm_dec dk_X11_best 4 rfl) (by decide) (fun c6 => ?_) (fun c6 => ?_)
  · skip
    refine mm_aload_n C (mm_dec dk_X11_best 10 rfl) rfl ?_
    refine mm_getr (t := 14) C fl_X11_28 (mm_dec dk_X11_best 11 rfl) rfl rfl (mm_ref i0 rfl) ?_
    refine mm_iload_n C (mm_dec dk_X11_best 12 rfl) rfl ?_
    refine mm_cVi (rest := []) C1 ev_X11_220 (mm_dec dk_X11_best 13 rfl) (c_X2_isFree x.2.1 hl (d - 1) (by omega) h i0 p1 ⟨by omega, by omega⟩) rfl rfl (Nat.le_of_ble_eq_true rfl) ⟨by decide, by decide⟩ rfl (fun r25 h25c hp25 => ?_) (fun _ _ q => q.elim)
    obtain ⟨z25, y25⟩ := hp25
    rw [z25, y25]
    have g4 : 0 ≤ (h.2.1 17 p1) ∧ (h.2.1 17 p1) ≤ 1 := i0.2.1 17 p1
    refine mm_if_ne (tgt := 33) C (mm_dec dk_X11_best 14 rfl) (by decide) (fun c28 => ?_) (fun c28 => ?_)
    · skip
      refine mm_aload_n C (mm_dec dk_X11_best 17 rfl) rfl ?_
      refine mm_getr (t := 58) C fl_X11_78 (mm_dec dk_X11_best 18 rfl) rfl rfl (mm_ref i0 rfl) ?_
      refine mm_iload_n C (mm_dec dk_X11_best 19 rfl) rfl ?_
      refine mm_iload_n C (mm_dec dk_X11_best 20 rfl) rfl ?_
      refine mm_cVi (rest := []) C1 ev_X11_357 (mm_dec dk_X11_best 21 rfl) (c_X0_search x.2.1 hl (d - 1) (by omega) h i0 p1 p2 ⟨by omega, by omega⟩) rfl rfl (Nat.le_of_ble_eq_true rfl) ⟨by decide, by decide⟩ rfl (fun r39 h39c hp39 => ?_) (fun _ _ q => q.elim)
      obtain ⟨b39, i39c, g39c⟩ := hp39
      have f39c : mm_fr [(7, 7), (7, 8), (58, 5), (58, 6), (58, 7), (58, 8), (58, 9), (58, 10)] [8, 9, 10, 11, 59, 60, 125] h h39c := mm_fr_tr f0 g39c (by decide +kernel)
      have q39c_6 : h39c.1 14 8 = h.1 14 8 := g39c.1 14 8 (by decide)
      exact mm_iret C T (mm_dec dk_X11_best 22 rfl) (by decide : 2 ≤ 2) (by decide : 49158 ≤ 49158) ⟨_, rfl, ⟨⟨by omega, by omega⟩, i39c, f39c⟩⟩
    · skip
      refine mm_iconst C (mm_dec dk_X11_best 15 rfl) ⟨by decide, by decide⟩ ?_
      exact mm_iret C T (mm_dec dk_X11_best 16 rfl) (by decide : 1 ≤ 2) (by decide : 6 ≤ 49158) ⟨_, rfl, ⟨⟨by omega, by omega⟩, i0, f0⟩⟩
  · skip
    exact mm_throwXW C8 T htb th_iae (i := 17) rfl (mm_dec dk_X11_best 5 rfl) (mm_dec dk_X11_best 6 rfl) (mm_dec dk_X11_best 7 rfl) (mm_dec dk_X11_best 8 rfl) (mm_dec dk_X11_best 9 rfl) (Nat.le_of_ble_eq_true rfl) ⟨by decide, by decide⟩ ⟨by decide, by decide⟩ (Or.inr ⟨rfl, rfl⟩)
set_option maxRecDepth 100000 in
set_option maxHeartbeats 4000000 in
theorem c_X11_track_e (l : Launch) (hl : l.stackTraces = false) (d : Nat) (hd : 9 ≤ d) (h : mH) (i0 : mm_inv h) (p1 : Int) (p2 : Int) : mm_Met l d yX11_track cX11_track 5 (some .int) [mR 0, mI p1, mI p2] h (mm_pi fun r h2 => (-2147483648 ≤ r ∧ r ≤ 2147483647) ∧ mm_inv h2 ∧ mm_fr [(0, 12), (0, 14), (7, 10), (7, 11)] [26, 61] h h2) (mm_xp h) 2 12 := by
  refine mm_ofW (ls := [mR 0, mI p1, mI p2, mU, mU]) hl (by decide) rfl (Nat.le_of_ble_eq_true rfl) ?_
  intro x hxl C T hnm htb
  subst hxl
  have C1 := mm_OK_le (d' := d - 1 + 1) (by omega) C
  have C8 := mm_OK_le (d' := d - 8 + 8) (by omega) C
  refine mm_rng (fun hr _ => ?_)
  have ap1 : -2147483648 ≤ p1 ∧ p1 < 2147483648 := mm_ok_at hr (i := 1) rfl
  have ap2 : -2147483648 ≤ p2 ∧ p2 < 2147483648 := mm_ok_at hr (i := 2) rfl
  have f0 : mm_fr [(0, 12), (0, 14), (7, 10), (7, 11)] [26, 61] h h := mm_fr_rf
  refine mm_aload_n C (mm_dec dk_X11_track 0 rfl) rfl ?_
  refine mm_iload_n C (mm_dec dk_X11_track 1 rfl) rfl ?_
  refine mm_cVv (rest := []) C1 ev_X11_235 (mm_dec dk_X11_track 2 rfl) (c_X11_needRunner_e x.2.1 hl (d - 1) (by omega) h i0 p1) rfl rfl (Nat.le_of_ble_eq_true rfl) ⟨by decide, by decide⟩ rfl (fun h2c hp2 => ?_) (fun E hx q => mm_out C T htb (by decide) (by decide) (by exact Or.inl q))
  obtain ⟨z2, k2_0, k2_1⟩ := hp2
  rw [z2]
  have g2 : 0 ≤ (h.1 22 8) ∧ (h.1 22 8) ≤ 40 := i0.1 22 8
  refine mm_aload_n C (mm_dec dk_X11_track 3 rfl) rfl ?_
  refine mm_iload_n C (mm_dec dk_X11_track 4 rfl) rfl ?_
  refine mm_cVv (rest := []) C1 ev_X11_312 (mm_dec dk_X11_track 5 rfl) (c_X11_needBytes_e x.2.1 hl (d - 1) (by omega) h i0 p2) rfl rfl (Nat.le_of_ble_eq_true rfl) ⟨by decide, by decide⟩ rfl (fun h7c hp7 => ?_) (fun E hx q => mm_out C T htb (by decide) (by decide) (by exact Or.inr q))
  obtain ⟨z7, k7_0, k7_1⟩ := hp7
  rw [z7]
  have g4 : 0 ≤ (h.1 0 12) ∧ (h.1 0 12) ≤ 500 := i0.1 0 12
  refine mm_aload_n C (mm_dec dk_X11_track 6 rfl) rfl ?_
  refine mm_iload_n C (mm_dec dk_X11_track 7 rfl) rfl ?_
  refine mm_cVi (rest := []) C1 ev_X11_371 (mm_dec dk_X11_track 8 rfl) (c_X11_fillStops x.2.1 hl (d - 1) (by omega) h i0 p1 ⟨by omega, by omega⟩) rfl rfl (Nat.le_of_ble_eq_true rfl) ⟨by decide, by decide⟩ rfl (fun r12 h12c hp12 => ?_) (fun _ _ q => q.elim)
  obtain ⟨b12, i12c, g12c⟩ := hp12
  have f12c : mm_fr [(0, 12), (0, 14), (7, 10), (7, 11)] [26, 61] h h12c := mm_fr_tr f0 g12c (by decide +kernel)
  have q12c_6 : h12c.1 0 12 = h.1 0 12 := g12c.1 0 12 (by decide)
  have q12c_7 : h12c.1 22 8 = h.1 22 8 := g12c.1 22 8 (by decide)
  refine mm_istore_nL (ls2 := [mR 0, mI p1, mI p2, mI r12, mU]) C (mm_dec dk_X11_track 9 rfl) (by decide) rfl ?_
  refine mm_aload_n C (mm_dec dk_X11_track 10 rfl) rfl ?_
  refine mm_getr (t := 7) C fl_X11_21 (mm_dec dk_X11_track 11 rfl) rfl rfl (mm_ref i12c rfl) ?_
  refine mm_aload_n C (mm_dec dk_X11_track 12 rfl) rfl ?_
  refine mm_getr (t := 62) C fl_X11_86 (mm_dec dk_X11_track 13 rfl) rfl rfl (mm_ref i12c rfl) ?_
  refine mm_iload_n C (mm_dec dk_X11_track 14 rfl) rfl ?_
  refine mm_aload_n C (mm_dec dk_X11_track 15 rfl) rfl ?_
  refine mm_getr (t := 61) C fl_X11_82 (mm_dec dk_X11_track 16 rfl) rfl rfl (mm_ref i12c rfl) ?_
  refine mm_iload_n C (mm_dec dk_X11_track 17 rfl) rfl ?_
  refine mm_cVi (rest := []) C1 ev_X11_374 (mm_dec dk_X11_track 18 rfl) (c_X10_walk_62_61 x.2.1 hl (d - 1) (by omega) h12c i12c p2 r12 ⟨by omega, by omega⟩ ⟨by omega, by omega⟩) rfl rfl (Nat.le_of_ble_eq_true rfl) ⟨by decide, by decide⟩ rfl (fun r30 h30c hp30 => ?_) (fun _ _ q => q.elim)
  obtain ⟨b30, i30c, g30c⟩ := hp30
  have f30c : mm_fr [(0, 12), (0, 14), (7, 10), (7, 11)] [26, 61] h h30c := mm_fr_tr f12c g30c (by decide +kernel)
  have q30c_9 : h30c.1 0 12 = h12c.1 0 12 := g30c.1 0 12 (by decide)
  have q30c_10 : h30c.1 22 8 = h12c.1 22 8 := g30c.1 22 8 (by decide)
  refine mm_istoreL (ls2 := [mR 0, mI p1, mI p2, mI r12, mI r30]) C (mm_dec dk_X11_track 19 rfl) (by decide) rfl ?_
  refine mm_aload_n C (mm_dec dk_X11_track 20 rfl) rfl ?_
  refine mm_iconst C (mm_dec dk_X11_track 21 rfl) ⟨by decide, by decide⟩ ?_
  refine mm_puti C fl_X11_98 (mm_dec dk_X11_track 22 rfl) rfl rfl rfl (Or.inl ⟨rfl, rfl⟩) ?_
  have i3 : mm_inv (mm_pf h30c 0 12 0) := mm_inv_pf i30c (show 0 ≤ 0 ∧ 0 ≤ 500 from ⟨by omega, by omega⟩) (by decide)
  have f3 : mm_fr [(0, 12), (0, 14), (7, 10), (7, 11)] [26, 61] h (mm_pf h30c 0 12 0) := mm_fr_pf f30c (by decide)
  obtain ⟨h3, eh3⟩ : ∃ z, z = mm_pf h30c 0 12 0 := ⟨_, rfl⟩
  rw [← eh3] at i3 f3 ⊢
  have qh3 : h3.1 0 12 = 0 := by rw [eh3]; exact mm_pf_same _ _ _ _
  have qh3_11 : h3.1 22 8 = h30c.1 22 8 := by rw [eh3]; exact mm_pf_ne _ _ (by decide)
  refine mm_aload_n C (mm_dec dk_X11_track 23 rfl) rfl ?_
  refine mm_aload_n C (mm_dec dk_X11_track 24 rfl) rfl ?_
  refine mm_getr (t := 7) C fl_X11_21 (mm_dec dk_X11_track 25 rfl) rfl rfl (mm_ref i3 rfl) ?_
  refine mm_cVi (rest := [mR 0]) C1 ev_X11_378 (mm_dec dk_X11_track 26 rfl) (c_X10_walkFaultAt x.2.1 hl (d - 1) (by omega) h3 i3 ) rfl rfl (Nat.le_of_ble_eq_true rfl) ⟨by decide, by decide⟩ rfl (fun r45 h45c hp45 => ?_) (fun _ _ q => q.elim)
  obtain ⟨z45, y45⟩ := hp45
  rw [z45, y45]
  have g13 : -2147483648 ≤ (h3.1 7 10) ∧ (h3.1 7 10) ≤ 2147483647 := i3.1 7 10
  refine mm_puti C fl_X11_105 (mm_dec dk_X11_track 27 rfl) rfl rfl rfl (Or.inl ⟨rfl, rfl⟩) ?_
  have i4 : mm_inv (mm_pf h3 0 14 (h3.1 7 10)) := mm_inv_pf i3 (show -2147483648 ≤ (h3.1 7 10) ∧ (h3.1 7 10) ≤ 2147483647 from ⟨by omega, by omega⟩) (by decide)
  have f4 : mm_fr [(0, 12), (0, 14), (7, 10), (7, 11)] [26, 61] h (mm_pf h3 0 14 (h3.1 7 10)) := mm_fr_pf f3 (by decide)
  obtain ⟨h4, eh4⟩ : ∃ z, z = mm_pf h3 0 14 (h3.1 7 10) := ⟨_, rfl⟩
  rw [← eh4] at i4 f4 ⊢
  have qh4 : h4.1 0 14 = (h3.1 7 10) := by rw [eh4]; exact mm_pf_same _ _ _ _
  have qh4_14 : h4.1 0 12 = h3.1 0 12 := by rw [eh4]; exact mm_pf_ne _ _ (by decide)
  have qh4_15 : h4.1 7 10 = h3.1 7 10 := by rw [eh4]; exact mm_pf_ne _ _ (by decide)
  have qh4_16 : h4.1 22 8 = h3.1 22 8 := by rw [eh4]; exact mm_pf_ne _ _ (by decide)
  refine mm_aload_n C (mm_dec dk_X11_track 28 rfl) rfl ?_
  refine mm_geti C fl_X11_105 (mm_dec dk_X11_track 29 rfl) rfl rfl (Or.inl rfl) ?_
  refine mm_iconst C (mm_dec dk_X11_track 30 rfl) ⟨by decide, by decide⟩ ?_
  have J83 : ∀ (h83_ : mH) (i83_ : mm_inv h83_) (f83_ : mm_fr [(0, 12), (0, 14), (7, 10), (7, 11)] [26, 61] h h83_), mm_W x 2 12 83 [mU, mU, mU, mU, mI r30] [] h83_ := by
    intro h83_ i83_ f83_
    refine mm_iload C (mm_dec dk_X11_track 43 rfl) rfl ?_
    exact mm_iret C T (mm_dec dk_X11_track 44 rfl) (by decide : 2 ≤ 2) (by decide : 12 ≤ 12) ⟨_, rfl, ⟨⟨by omega, by omega⟩, i83_, f83_⟩⟩
  refine mm_icmp_ne (tgt := 83) C (mm_dec dk_X11_track 31 rfl) (by decide) (fun c56 => ?_) (fun c56 => ?_)
  · skip
    refine mm_fgt 0 ?_
    refine mm_fgt 1 ?_
    refine mm_fgt 2 ?_
    refine mm_fgt 3 ?_
    exact J83 h4 i4 f4
  · skip
    refine mm_aload_n C (mm_dec dk_X11_track 32 rfl) rfl ?_
    refine mm_getr (t := 22) C fl_X11_37 (mm_dec dk_X11_track 33 rfl) rfl rfl (mm_ref i4 rfl) ?_
    refine mm_iload_n C (mm_dec dk_X11_track 34 rfl) rfl ?_
    refine mm_aload_n C (mm_dec dk_X11_track 35 rfl) rfl ?_
    refine mm_getr (t := 7) C fl_X11_21 (mm_dec dk_X11_track 36 rfl) rfl rfl (mm_ref i4 rfl) ?_
    refine mm_cVi (rest := [mI p1, mR 22]) C1 ev_X11_381 (mm_dec dk_X11_track 37 rfl) (c_X10_walkCameBy x.2.1 hl (d - 1) (by omega) h4 i4 ) rfl rfl (Nat.le_of_ble_eq_true rfl) ⟨by decide, by decide⟩ rfl (fun r68 h68c hp68 => ?_) (fun _ _ q => q.elim)
    obtain ⟨z68, y68⟩ := hp68
    rw [z68, y68]
    have g18 : 0 ≤ (h4.1 7 11) ∧ (h4.1 7 11) ≤ 1 := i4.1 7 11
    have J80 : ∀ (s80_2 : Int) (bs80_2 : -2147483648 ≤ s80_2 ∧ s80_2 ≤ 2147483647), mm_W x 2 12 80 [mU, mU, mU, mU, mI r30] [mI s80_2, mI p1, mR 22] h4 := by
      intro s80_2 bs80_2
      refine mm_cVv (rest := []) C1 ev_X11_384 (mm_dec dk_X11_track 42 rfl) (c_X9_keepTrack x.2.1 hl (d - 1) (by omega) h4 i4 p1 s80_2 ⟨by omega, by omega⟩) rfl rfl (Nat.le_of_ble_eq_true rfl) ⟨by decide, by decide⟩ rfl (fun h80c hp80 => ?_) (fun _ _ q => q.elim)
      obtain ⟨i80c, g80c⟩ := hp80
      have f80c : mm_fr [(0, 12), (0, 14), (7, 10), (7, 11)] [26, 61] h h80c := mm_fr_tr f4 g80c (by decide +kernel)
      have q80c_20 : h80c.1 0 12 = h4.1 0 12 := g80c.1 0 12 (by decide)
      have q80c_21 : h80c.1 0 14 = h4.1 0 14 := g80c.1 0 14 (by decide)
      have q80c_22 : h80c.1 7 10 = h4.1 7 10 := g80c.1 7 10 (by decide)
      have q80c_23 : h80c.1 7 11 = h4.1 7 11 := g80c.1 7 11 (by decide)
      have q80c_24 : h80c.1 22 8 = h4.1 22 8 := g80c.1 22 8 (by decide)
      exact J83 h80c i80c f80c
    refine mm_if_eq (tgt := 79) C (mm_dec dk_X11_track 38 rfl) (by decide) (fun c71 => ?_) (fun c71 => ?_)
    · skip
      refine mm_iconst C (mm_dec dk_X11_track 41 rfl) ⟨by decide, by decide⟩ ?_
      refine mm_fgt 0 ?_
      refine mm_fgt 1 ?_
      refine mm_fgt 2 ?_
      refine mm_fgt 3 ?_
      exact J80 (-1) ⟨by omega, by omega⟩
    · skip
      refine mm_iload C (mm_dec dk_X11_track 39 rfl) rfl ?_
      refine mm_goto (tgt := 80) C (mm_dec dk_X11_track 40 rfl) (by decide) ?_
      refine mm_fgt 0 ?_
      refine mm_fgt 1 ?_
      refine mm_fgt 2 ?_
      refine mm_fgt 3 ?_
      exact J80 r30 ⟨by omega, by omega⟩
set_option maxRecDepth 100000 in
set_option maxHeartbeats 4000000 in
theorem c_X11_lost_e (l : Launch) (hl : l.stackTraces = false) (d : Nat) (hd : 9 ≤ d) (h : mH) (i0 : mm_inv h) (p1 : Int) : mm_Met l d yX11_lost cX11_lost 4 (some .int) [mR 0, mI p1] h (mm_pi fun r h2 => (-2147483648 ≤ r ∧ r ≤ 2147483647) ∧ mm_inv h2 ∧ mm_fr [(7, 7), (7, 8)] [8, 9, 10, 11, 61] h h2) (mm_xn h) 1 6 := by
  refine mm_ofW (ls := [mR 0, mI p1, mU, mU]) hl (by decide) rfl (Nat.le_of_ble_eq_true rfl) ?_
  intro x hxl C T hnm htb
  subst hxl
  have C1 := mm_OK_le (d' := d - 1 + 1) (by omega) C
  have C8 := mm_OK_le (d' := d - 8 + 8) (by omega) C
  refine mm_rng (fun hr _ => ?_)
  have ap1 : -2147483648 ≤ p1 ∧ p1 < 2147483648 := mm_ok_at hr (i := 1) rfl
  have f0 : mm_fr [(7, 7), (7, 8)] [8, 9, 10, 11, 61] h h := mm_fr_rf
  refine mm_aload_n C (mm_dec dk_X11_lost 0 rfl) rfl ?_
  refine mm_iload_n C (mm_dec dk_X11_lost 1 rfl) rfl ?_
  refine mm_cVv (rest := []) C1 ev_X11_235 (mm_dec dk_X11_lost 2 rfl) (c_X11_needRunner_e x.2.1 hl (d - 1) (by omega) h i0 p1) rfl rfl (Nat.le_of_ble_eq_true rfl) ⟨by decide, by decide⟩ rfl (fun h2c hp2 => ?_) (fun E hx q => mm_out C T htb (by decide) (by decide) (by exact q))
  obtain ⟨z2, k2_0, k2_1⟩ := hp2
  rw [z2]
  have g2 : 0 ≤ (h.1 22 8) ∧ (h.1 22 8) ≤ 40 := i0.1 22 8
  refine mm_aload_n C (mm_dec dk_X11_lost 3 rfl) rfl ?_
  refine mm_getr (t := 22) C fl_X11_37 (mm_dec dk_X11_lost 4 rfl) rfl rfl (mm_ref i0 rfl) ?_
  refine mm_iload_n C (mm_dec dk_X11_lost 5 rfl) rfl ?_
  refine mm_cVi (rest := []) C1 ev_X11_387 (mm_dec dk_X11_lost 6 rfl) (c_X9_trackSeconds x.2.1 hl (d - 1) (by omega) h i0 p1 ⟨by omega, by omega⟩) rfl rfl (Nat.le_of_ble_eq_true rfl) ⟨by decide, by decide⟩ rfl (fun r10 h10c hp10 => ?_) (fun _ _ q => q.elim)
  obtain ⟨z10, y10⟩ := hp10
  rw [z10, y10]
  have g4 : -2147483648 ≤ (h.2.1 26 p1) ∧ (h.2.1 26 p1) ≤ 2147483647 := i0.2.1 26 p1
  refine mm_istore_nL (ls2 := [mR 0, mI p1, mI (h.2.1 26 p1), mU]) C (mm_dec dk_X11_lost 7 rfl) (by decide) rfl ?_
  refine mm_iload_n C (mm_dec dk_X11_lost 8 rfl) rfl ?_
  refine mm_iconst C (mm_dec dk_X11_lost 9 rfl) ⟨by decide, by decide⟩ ?_
  refine mm_icmp_ne (tgt := 23) C (mm_dec dk_X11_lost 10 rfl) (by decide) (fun c16 => ?_) (fun c16 => ?_)
  · skip
    refine mm_aload_n C (mm_dec dk_X11_lost 13 rfl) rfl ?_
    refine mm_iload_n C (mm_dec dk_X11_lost 14 rfl) rfl ?_
    refine mm_cVi (rest := []) C1 ev_X11_241 (mm_dec dk_X11_lost 15 rfl) (c_X11_lengthOf x.2.1 hl (d - 1) (by omega) h i0 p1 ⟨by omega, by omega⟩) rfl rfl (Nat.le_of_ble_eq_true rfl) ⟨by decide, by decide⟩ rfl (fun r25 h25c hp25 => ?_) (fun _ _ q => q.elim)
    obtain ⟨b25, i25c, g25c⟩ := hp25
    have f25c : mm_fr [(7, 7), (7, 8)] [8, 9, 10, 11, 61] h h25c := mm_fr_tr f0 g25c (by decide +kernel)
    have q25c_6 : h25c.1 22 8 = h.1 22 8 := g25c.1 22 8 (by decide)
    refine mm_istore_nL (ls2 := [mR 0, mI p1, mI (h.2.1 26 p1), mI r25]) C (mm_dec dk_X11_lost 16 rfl) (by decide) rfl ?_
    refine mm_iload_n C (mm_dec dk_X11_lost 17 rfl) rfl ?_
    refine mm_iconst C (mm_dec dk_X11_lost 18 rfl) ⟨by decide, by decide⟩ ?_
    have J43 : ∀ (s43_0 : Int) (bs43_0 : -2147483648 ≤ s43_0 ∧ s43_0 ≤ 2147483647), mm_W x 1 6 43 [mU, mU, mU, mU] [mI s43_0] h25c := by
      intro s43_0 bs43_0
      exact mm_iret C T (mm_dec dk_X11_lost 25 rfl) (by decide : 1 ≤ 1) (by decide : 6 ≤ 6) ⟨_, rfl, ⟨⟨by omega, by omega⟩, i25c, f25c⟩⟩
    refine mm_icmp_ne (tgt := 40) C (mm_dec dk_X11_lost 19 rfl) (by decide) (fun c31 => ?_) (fun c31 => ?_)
    · skip
      refine mm_iload_n C (mm_dec dk_X11_lost 22 rfl) rfl ?_
      refine mm_iload_n C (mm_dec dk_X11_lost 23 rfl) rfl ?_
      refine mm_isubw C (mm_dec dk_X11_lost 24 rfl) ?_
      have g7 : -2147483648 ≤ (mm_w ((h.2.1 26 p1) - r25)) ∧ (mm_w ((h.2.1 26 p1) - r25)) < 2147483648 := mm_w_rg _
      refine mm_fgt 0 ?_
      refine mm_fgt 1 ?_
      refine mm_fgt 2 ?_
      refine mm_fgt 3 ?_
      exact J43 (mm_w ((h.2.1 26 p1) - r25)) ⟨by omega, by omega⟩
    · skip
      refine mm_ldcw (z := -100000) C (mm_dec dk_X11_lost 20 rfl) kc_X11_308 (by decide) ?_
      refine mm_goto (tgt := 43) C (mm_dec dk_X11_lost 21 rfl) (by decide) ?_
      refine mm_fgt 0 ?_
      refine mm_fgt 1 ?_
      refine mm_fgt 2 ?_
      refine mm_fgt 3 ?_
      exact J43 (-100000) ⟨by omega, by omega⟩
  · skip
    refine mm_ldcw (z := -100000) C (mm_dec dk_X11_lost 11 rfl) kc_X11_308 (by decide) ?_
    exact mm_iret C T (mm_dec dk_X11_lost 12 rfl) (by decide : 1 ≤ 1) (by decide : 6 ≤ 6) ⟨_, rfl, ⟨⟨by omega, by omega⟩, i0, f0⟩⟩
set_option maxRecDepth 100000 in
set_option maxHeartbeats 4000000 in
theorem c_X11_best_te (l : Launch) (hl : l.stackTraces = false) (d : Nat) (hd : 9 ≤ d) (h : mH) (i0 : mm_inv h) (p1 : Int) (p2 : Int) (t0 : h.1 58 5 = 1) : mm_Met l d yX11_best cX11_best 3 (some .int) [mR 0, mI p1, mI p2] h (mm_pi fun r h2 => (-2147483648 ≤ r ∧ r ≤ 2147483647) ∧ mm_inv h2 ∧ mm_fr [(7, 7), (7, 8), (58, 6), (58, 7), (58, 8), (58, 9), (58, 10)] [8, 9, 10, 11, 59, 60, 125] h h2) (mm_xp h) 2 12 := by
  refine mm_ofW (ls := [mR 0, mI p1, mI p2]) hl (by decide) rfl (Nat.le_of_ble_eq_true rfl) ?_
  intro x hxl C T hnm htb
  subst hxl
  have C1 := mm_OK_le (d' := d - 1 + 1) (by omega) C
  have C8 := mm_OK_le (d' := d - 8 + 8) (by omega) C
  refine mm_rng (fun hr _ => ?_)
  have ap1 : -2147483648 ≤ p1 ∧ p1 < 2147483648 := mm_ok_at hr (i := 1) rfl
  have ap2 : -2147483648 ≤ p2 ∧ p2 < 2147483648 := mm_ok_at hr (i := 2) rfl
  have f0 : mm_fr [(7, 7), (7, 8), (58, 6), (58, 7), (58, 8), (58, 9), (58, 10)] [8, 9, 10, 11, 59, 60, 125] h h := mm_fr_rf
  refine mm_aload_n C (mm_dec dk_X11_best 0 rfl) rfl ?_
  refine mm_iload_n C (mm_dec dk_X11_best 1 rfl) rfl ?_
  refine mm_cVv (rest := []) C1 ev_X11_207 (mm_dec dk_X11_best 2 rfl) (c_X11_needCourse_e x.2.1 hl (d - 1) (by omega) h i0 p1) rfl rfl (Nat.le_of_ble_eq_true rfl) ⟨by decide, by decide⟩ rfl (fun h2c hp2 => ?_) (fun E hx q => mm_out C T htb (by decide) (by decide) (by exact Or.inl q))
  obtain ⟨z2, k2_0, k2_1⟩ := hp2
  rw [z2]
  have g2 : 0 ≤ (h.1 14 8) ∧ (h.1 14 8) ≤ 8 := i0.1 14 8
  refine mm_iload_n C (mm_dec dk_X11_best 3 rfl) rfl ?_
  refine mm_if_ge (tgt := 20) C (mm_dec dk_X11_best 4 rfl) (by decide) (fun c6 => ?_) (fun c6 => ?_)
  · skip
    refine mm_aload_n C (mm_dec dk_X11_best 10 rfl) rfl ?_
    refine mm_getr (t := 14) C fl_X11_28 (mm_dec dk_X11_best 11 rfl) rfl rfl (mm_ref i0 rfl) ?_
    refine mm_iload_n C (mm_dec dk_X11_best 12 rfl) rfl ?_
    refine mm_cVi (rest := []) C1 ev_X11_220 (mm_dec dk_X11_best 13 rfl) (c_X2_isFree x.2.1 hl (d - 1) (by omega) h i0 p1 ⟨by omega, by omega⟩) rfl rfl (Nat.le_of_ble_eq_true rfl) ⟨by decide, by decide⟩ rfl (fun r25 h25c hp25 => ?_) (fun _ _ q => q.elim)
    obtain ⟨z25, y25⟩ := hp25
    rw [z25, y25]
    have g4 : 0 ≤ (h.2.1 17 p1) ∧ (h.2.1 17 p1) ≤ 1 := i0.2.1 17 p1
    refine mm_if_ne (tgt := 33) C (mm_dec dk_X11_best 14 rfl) (by decide) (fun c28 => ?_) (fun c28 => ?_)
    · skip
      refine mm_aload_n C (mm_dec dk_X11_best 17 rfl) rfl ?_
      refine mm_getr (t := 58) C fl_X11_78 (mm_dec dk_X11_best 18 rfl) rfl rfl (mm_ref i0 rfl) ?_
      refine mm_iload_n C (mm_dec dk_X11_best 19 rfl) rfl ?_
      refine mm_iload_n C (mm_dec dk_X11_best 20 rfl) rfl ?_
      refine mm_cVi (rest := []) C1 ev_X11_357 (mm_dec dk_X11_best 21 rfl) (c_X0_search_t x.2.1 hl (d - 1) (by omega) h i0 p1 p2 ⟨by omega, by omega⟩ (by omega)) rfl rfl (Nat.le_of_ble_eq_true rfl) ⟨by decide, by decide⟩ rfl (fun r39 h39c hp39 => ?_) (fun _ _ q => q.elim)
      obtain ⟨b39, i39c, g39c⟩ := hp39
      have f39c : mm_fr [(7, 7), (7, 8), (58, 6), (58, 7), (58, 8), (58, 9), (58, 10)] [8, 9, 10, 11, 59, 60, 125] h h39c := mm_fr_tr f0 g39c (by decide +kernel)
      have q39c_6 : h39c.1 14 8 = h.1 14 8 := g39c.1 14 8 (by decide)
      exact mm_iret C T (mm_dec dk_X11_best 22 rfl) (by decide : 1 ≤ 2) (by decide : 6 ≤ 12) ⟨_, rfl, ⟨⟨by omega, by omega⟩, i39c, f39c⟩⟩
    · skip
      refine mm_iconst C (mm_dec dk_X11_best 15 rfl) ⟨by decide, by decide⟩ ?_
      exact mm_iret C T (mm_dec dk_X11_best 16 rfl) (by decide : 1 ≤ 2) (by decide : 6 ≤ 12) ⟨_, rfl, ⟨⟨by omega, by omega⟩, i0, f0⟩⟩
  · skip
    exact mm_throwXW C8 T htb th_iae (i := 17) rfl (mm_dec dk_X11_best 5 rfl) (mm_dec dk_X11_best 6 rfl) (mm_dec dk_X11_best 7 rfl) (mm_dec dk_X11_best 8 rfl) (mm_dec dk_X11_best 9 rfl) (Nat.le_of_ble_eq_true rfl) ⟨by decide, by decide⟩ ⟨by decide, by decide⟩ (Or.inr ⟨rfl, rfl⟩)
