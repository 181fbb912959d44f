set_option maxRecDepth 100000 in
set_option maxHeartbeats 4000000 in
theorem c_J7_fill_53178_57_q (l : Launch) (hl : l.stackTraces = false) (d : Nat) (hd : 0 ≤ d) (h : mH) (i0 : mm_inv h) (p1 : Int) : mm_Met l d yJ7_fill_53178 cJ7_fill_53178 4 none [mR 57, mI p1] h (mm_pv fun h2 => mm_inv h2 ∧ mm_fr [] [57] h h2 ∧ mm_al h2 57 9 p1) mm_nx 0 0 := by
  refine mm_ofW (ls := [mR 57, mI p1, mU, mU]) hl (by decide) rfl (Nat.le_of_ble_eq_true rfl) ?_
  intro x hxl C T hnm htb
  subst hxl
  refine mm_rng (fun hr _ => ?_)
  have ap1 : -2147483648 ≤ p1 ∧ p1 < 2147483648 := mm_ok_at hr (i := 1) rfl
  have f0 : mm_fr [] [57] h h := mm_fr_rf
  refine mm_iconst C (mm_dec dk_J7_fill_53178 0 rfl) ⟨by decide, by decide⟩ ?_
  refine mm_istore_nL (ls2 := [mR 57, mI p1, mI 0, mU]) C (mm_dec dk_J7_fill_53178 1 rfl) (by decide) rfl ?_
  refine mm_aload_n C (mm_dec dk_J7_fill_53178 2 rfl) rfl ?_
  refine mm_alenz (z := 10) C (mm_dec dk_J7_fill_53178 3 rfl) rfl (by decide) (by decide) rfl ?_
  have J5 : ∀ (n : Nat) (x5_2 : Int) (bx5_2 : 0 ≤ x5_2 ∧ x5_2 ≤ 10) (x5_3 : Int) (bx5_3 : 10 ≤ x5_3 ∧ x5_3 ≤ 10) (h5_ : mH) (i5_ : mm_inv h5_) (f5_ : mm_fr [] [57] h h5_) (w5_0 : mm_al h5_ 57 (x5_2 - 1) p1), (10 - x5_2 : Int) < n → mm_W x 0 0 5 [mR 57, mI p1, mI x5_2, mI x5_3] [] h5_ := by
    intro n
    induction n with
    | zero =>
      intro x5_2 bx5_2 x5_3 bx5_3 h5_ i5_ f5_ w5_0 hm
      exfalso; omega
    | succ n ih5 =>
      intro x5_2 bx5_2 x5_3 bx5_3 h5_ i5_ f5_ w5_0 hm5
      refine mm_iload_n C (mm_dec dk_J7_fill_53178 5 rfl) rfl ?_
      refine mm_iload_n C (mm_dec dk_J7_fill_53178 6 rfl) rfl ?_
      refine mm_icmp_ge (tgt := 20) C (mm_dec dk_J7_fill_53178 7 rfl) (by decide) (fun c7 => ?_) (fun c7 => ?_)
      · skip
        exact mm_vret C T (mm_dec dk_J7_fill_53178 14 rfl) (by decide : 0 ≤ 0) (by decide : 0 ≤ 0) ⟨rfl, ⟨i5_, f5_, by exact mm_al_le w5_0 (by omega)⟩⟩
      · skip
        refine mm_aload_n C (mm_dec dk_J7_fill_53178 8 rfl) rfl ?_
        refine mm_iload_n C (mm_dec dk_J7_fill_53178 9 rfl) rfl ?_
        refine mm_iload_n C (mm_dec dk_J7_fill_53178 10 rfl) rfl ?_
        refine mm_iast C (mm_dec dk_J7_fill_53178 11 rfl) rfl (by omega) (by omega) ?_
        have i1 : mm_inv (mm_pa h5_ 57 x5_2 p1) := mm_inv_pa i5_ (show -2147483648 ≤ p1 ∧ p1 ≤ 2147483647 from ⟨by omega, by omega⟩)
        have f1 : mm_fr [] [57] h (mm_pa h5_ 57 x5_2 p1) := mm_fr_pa f5_ (by decide)
        obtain ⟨h1, eh1⟩ : ∃ z, z = mm_pa h5_ 57 x5_2 p1 := ⟨_, rfl⟩
        rw [← eh1] at i1 f1 ⊢
        refine mm_iincL (ls2 := [mR 57, mI p1, mI (x5_2 + 1), mI x5_3]) C (mm_dec dk_J7_fill_53178 12 rfl) rfl (by decide) ⟨by omega, by omega⟩ rfl ?_
        refine mm_goto (tgt := 5) C (mm_dec dk_J7_fill_53178 13 rfl) (by decide) ?_
        exact ih5 (x5_2 + 1) ⟨by omega, by omega⟩ x5_3 ⟨by omega, by omega⟩ h1 i1 f1 (by first | exact mm_al_nil (by omega) | (rw [show x5_2 + 1 - 1 = x5_2 by omega]; exact mm_al_put w5_0 eh1)) (by omega)
  refine mm_istore_nL (ls2 := [mR 57, mI p1, mI 0, mI 10]) C (mm_dec dk_J7_fill_53178 4 rfl) (by decide) rfl ?_
  exact J5 (((10 - 0) : Int) + 1).toNat 0 ⟨by omega, by omega⟩ 10 ⟨by omega, by omega⟩ h i0 f0 (by first | exact mm_al_nil (by omega) | (rw [show x5_2 + 1 - 1 = x5_2 by omega]; exact mm_al_put w5_0 eh)) (by omega)
set_option maxRecDepth 100000 in
set_option maxHeartbeats 4000000 in
theorem c_X3_gather_q (l : Launch) (hl : l.stackTraces = false) (d : Nat) (hd : 2 ≤ d) (h : mH) (i0 : mm_inv h) (p1 : Int) (p2 : Int) (bp1 : 0 ≤ p1 ∧ p1 ≤ 7) : mm_Met l d yX3_gather cX3_gather 4 (some .int) [mR 54, mI p1, mI p2] h (mm_pi fun r h2 => (0 ≤ r ∧ r ≤ 40) ∧ mm_inv h2 ∧ mm_fr [(54, 5)] [55, 57] h h2 ∧ r = h2.1 54 5 ∧ mm_gh (mm_Q1 h p1 p2) (h2.2.1 55) (h.1 22 8).toNat (h2.1 54 5) ∧ ∀ c, 0 ≤ c → c < 10 → h2.2.1 57 c = mm_lk (h.2.1 24) (h2.2.1 55) (h2.1 54 5).toNat c) mm_nx 0 0 := by
  refine mm_ofW (ls := [mR 54, mI p1, mI p2, mU]) hl (by decide) rfl (Nat.le_of_ble_eq_true rfl) ?_
  intro x hxl C T hnm htb
  subst hxl
  have C1 := mm_OK_le (d' := d - 1 + 1) (by omega) C
  refine mm_rng (fun hr _ => ?_)
  have ap1 : -2147483648 ≤ p1 ∧ p1 < 2147483648 := mm_ok_at hr (i := 1) rfl
  have ap2 : -2147483648 ≤ p2 ∧ p2 < 2147483648 := mm_ok_at hr (i := 2) rfl
  have f0 : mm_fr [(54, 5)] [55, 57] h h := mm_fr_rf
  have g1 : 0 ≤ h.1 54 5 ∧ h.1 54 5 ≤ 40 := i0.1 54 5
  have g2 : 0 ≤ h.1 30 6 ∧ h.1 30 6 ≤ 500 := i0.1 30 6
  have g3 : 0 ≤ h.1 22 8 ∧ h.1 22 8 ≤ 40 := i0.1 22 8
  refine mm_aload_n C (mm_dec dk_X3_gather 0 rfl) rfl ?_
  refine mm_iconst C (mm_dec dk_X3_gather 1 rfl) ⟨by decide, by decide⟩ ?_
  refine mm_puti C fl_X3_21 (mm_dec dk_X3_gather 2 rfl) rfl rfl rfl (Or.inl ⟨rfl, rfl⟩) ?_
  have i1 : mm_inv (mm_pf h 54 5 0) := mm_inv_pf i0 (show 0 ≤ 0 ∧ 0 ≤ 40 from ⟨by omega, by omega⟩) (by decide)
  have f1 : mm_fr [(54, 5)] [55, 57] h (mm_pf h 54 5 0) := mm_fr_pf f0 (by decide)
  obtain ⟨h1, eh1⟩ : ∃ z, z = mm_pf h 54 5 0 := ⟨_, rfl⟩
  rw [← eh1] at i1 f1 ⊢
  have qh1 : h1.1 54 5 = 0 := by rw [eh1]; exact mm_pf_same _ _ _ _
  have qh1_4 : h1.1 22 8 = h.1 22 8 := by rw [eh1]; exact mm_pf_ne _ _ (by decide)
  have qh1_5 : h1.1 30 6 = h.1 30 6 := by rw [eh1]; exact mm_pf_ne _ _ (by decide)
  refine mm_aload_n C (mm_dec dk_X3_gather 3 rfl) rfl ?_
  refine mm_getr (t := 57) C fl_X3_18 (mm_dec dk_X3_gather 4 rfl) rfl rfl (mm_ref i1 rfl) ?_
  refine mm_iconst C (mm_dec dk_X3_gather 5 rfl) ⟨by decide, by decide⟩ ?_
  refine mm_cSv (rest := []) C1 es_X3_33 (mm_dec dk_X3_gather 6 rfl) (c_J7_fill_53178_57_q x.2.1 hl (d - 1) (by omega) h1 i1 0) rfl (Nat.le_of_ble_eq_true rfl) ⟨by decide, by decide⟩ rfl (fun h10c hp10 => ?_) (fun _ _ q => q.elim)
  obtain ⟨i10c, g10c, y10_0⟩ := hp10
  have f10c : mm_fr [(54, 5)] [55, 57] h h10c := mm_fr_tr f1 g10c (by decide +kernel)
  have q10c_7 : h10c.1 22 8 = h1.1 22 8 := g10c.1 22 8 (by decide)
  have q10c_8 : h10c.1 30 6 = h1.1 30 6 := g10c.1 30 6 (by decide)
  have q10c_9 : h10c.1 54 5 = h1.1 54 5 := g10c.1 54 5 (by decide)
  refine mm_iconst C (mm_dec dk_X3_gather 7 rfl) ⟨by decide, by decide⟩ ?_
  have J15 : ∀ (n : Nat) (x15_3 : Int) (bx15_3 : 0 ≤ x15_3 ∧ x15_3 ≤ 40) (h15_ : mH) (i15_ : mm_inv h15_) (f15_ : mm_fr [(54, 5)] [55, 57] h h15_) (w15_0 : h15_.1 54 5 ≤ x15_3) (w15_1 : mm_gh (mm_Q1 h p1 p2) (h15_.2.1 55) (x15_3).toNat (h15_.1 54 5)) (w15_2 : ∀ c, 0 ≤ c → c < 10 → h15_.2.1 57 c = mm_lk (h.2.1 24) (h15_.2.1 55) (h15_.1 54 5).toNat c) (w15_3 : x15_3 ≤ h.1 22 8), (40 - x15_3 : Int) < n → mm_W x 0 0 15 [mR 54, mI p1, mI p2, mI x15_3] [] h15_ := by
    intro n
    induction n with
    | zero =>
      intro x15_3 bx15_3 h15_ i15_ f15_ w15_0 w15_1 w15_2 w15_3 hm
      have g10 : 0 ≤ h15_.1 54 5 ∧ h15_.1 54 5 ≤ 40 := i15_.1 54 5
      have g11 : 0 ≤ h15_.1 30 6 ∧ h15_.1 30 6 ≤ 500 := i15_.1 30 6
      have g12 : 0 ≤ h15_.1 22 8 ∧ h15_.1 22 8 ≤ 40 := i15_.1 22 8
      exfalso; omega
    | succ n ih15 =>
      intro x15_3 bx15_3 h15_ i15_ f15_ w15_0 w15_1 w15_2 w15_3 hm15
      have g13 : 0 ≤ h15_.1 54 5 ∧ h15_.1 54 5 ≤ 40 := i15_.1 54 5
      have g14 : 0 ≤ h15_.1 30 6 ∧ h15_.1 30 6 ≤ 500 := i15_.1 30 6
      have g15 : 0 ≤ h15_.1 22 8 ∧ h15_.1 22 8 ≤ 40 := i15_.1 22 8
      have g16 : h15_.1 30 6 = h.1 30 6 := f15_.1 30 6 (by decide)
      have g17 : h15_.1 22 8 = h.1 22 8 := f15_.1 22 8 (by decide)
      have zk9 : mm_k1 h15_ = mm_k1 h := mm_k1_fr f15_ (by decide)
      have ze9 : h15_.1 30 6 = h.1 30 6 := f15_.1 30 6 (by decide)
      have z23 : h15_.2.1 23 x15_3 = h.2.1 23 x15_3 := f15_.2 23 (by decide) _
      have z27 : h15_.2.1 27 x15_3 = h.2.1 27 x15_3 := f15_.2 27 (by decide) _
      refine mm_iload_n C (mm_dec dk_X3_gather 9 rfl) rfl ?_
      refine mm_aload_n C (mm_dec dk_X3_gather 10 rfl) rfl ?_
      refine mm_getr (t := 22) C fl_X3_25 (mm_dec dk_X3_gather 11 rfl) rfl rfl (mm_ref i15_ rfl) ?_
      refine mm_cVi (rest := [mI x15_3]) C1 ev_X3_39 (mm_dec dk_X3_gather 12 rfl) (c_X9_size x.2.1 hl (d - 1) (by omega) h15_ i15_ ) rfl rfl (Nat.le_of_ble_eq_true rfl) ⟨by decide, by decide⟩ rfl (fun r20 h20c hp20 => ?_) (fun _ _ q => q.elim)
      obtain ⟨z20, y20⟩ := hp20
      rw [z20, y20]
      refine mm_icmp_ge (tgt := 107) C (mm_dec dk_X3_gather 13 rfl) (by decide) (fun c23 => ?_) (fun c23 => ?_)
      · skip
        refine mm_aload_n C (mm_dec dk_X3_gather 59 rfl) rfl ?_
        refine mm_geti C fl_X3_21 (mm_dec dk_X3_gather 60 rfl) rfl rfl (Or.inl rfl) ?_
        exact mm_iret C T (mm_dec dk_X3_gather 61 rfl) (by decide : 0 ≤ 0) (by decide : 0 ≤ 0) ⟨_, rfl, ⟨⟨by omega, by omega⟩, i15_, f15_, by omega, by (rw [show (h.1 22 8).toNat = (x15_3).toNat by omega]; exact w15_1), by exact w15_2⟩⟩
      · skip
        refine mm_aload_n C (mm_dec dk_X3_gather 14 rfl) rfl ?_
        refine mm_getr (t := 22) C fl_X3_25 (mm_dec dk_X3_gather 15 rfl) rfl rfl (mm_ref i15_ rfl) ?_
        refine mm_iload_n C (mm_dec dk_X3_gather 16 rfl) rfl ?_
        refine mm_cVi (rest := []) C1 ev_X3_44 (mm_dec dk_X3_gather 17 rfl) (c_X9_courseOf x.2.1 hl (d - 1) (by omega) h15_ i15_ x15_3 ⟨by omega, by omega⟩) rfl rfl (Nat.le_of_ble_eq_true rfl) ⟨by decide, by decide⟩ rfl (fun r31 h31c hp31 => ?_) (fun _ _ q => q.elim)
        obtain ⟨z31, y31⟩ := hp31
        rw [z31, y31]
        have g20 : 0 ≤ (h15_.2.1 23 x15_3) ∧ (h15_.2.1 23 x15_3) ≤ 7 := i15_.2.1 23 x15_3
        refine mm_iload_n C (mm_dec dk_X3_gather 18 rfl) rfl ?_
        have J101 : ∀ (h101_ : mH) (i101_ : mm_inv h101_) (f101_ : mm_fr [(54, 5)] [55, 57] h h101_) (w101_0 : h101_.1 54 5 ≤ x15_3 + 1) (w101_1 : mm_gh (mm_Q1 h p1 p2) (h101_.2.1 55) (x15_3 + 1).toNat (h101_.1 54 5)) (w101_2 : ∀ c, 0 ≤ c → c < 10 → h101_.2.1 57 c = mm_lk (h.2.1 24) (h101_.2.1 55) (h101_.1 54 5).toNat c), mm_W x 0 0 101 [mR 54, mI p1, mI p2, mI x15_3] [] h101_ := by
          intro h101_ i101_ f101_ w101_0 w101_1 w101_2
          have g21 : 0 ≤ h101_.1 54 5 ∧ h101_.1 54 5 ≤ 40 := i101_.1 54 5
          have g22 : 0 ≤ h101_.1 30 6 ∧ h101_.1 30 6 ≤ 500 := i101_.1 30 6
          have g23 : 0 ≤ h101_.1 22 8 ∧ h101_.1 22 8 ≤ 40 := i101_.1 22 8
          have g24 : h101_.1 30 6 = h.1 30 6 := f101_.1 30 6 (by decide)
          have g25 : h101_.1 22 8 = h.1 22 8 := f101_.1 22 8 (by decide)
          refine mm_iincL (ls2 := [mR 54, mI p1, mI p2, mI (x15_3 + 1)]) C (mm_dec dk_X3_gather 57 rfl) rfl (by decide) ⟨by omega, by omega⟩ rfl ?_
          refine mm_goto (tgt := 15) C (mm_dec dk_X3_gather 58 rfl) (by decide) ?_
          exact ih15 (x15_3 + 1) ⟨by omega, by omega⟩ h101_ i101_ f101_ (by omega) (by first | exact w101_1 | (rw [show h10c.1 54 5 = 0 by omega]; exact rfl)) (by first | exact w101_2 | exact fun c a b => (y10_0 c a (by omega)).trans (by rw [show h10c.1 54 5 = 0 by omega]; rfl)) (by omega) (by omega)
        refine mm_icmp_ne (tgt := 101) C (mm_dec dk_X3_gather 19 rfl) (by decide) (fun c35 => ?_) (fun c35 => ?_)
        · skip
          exact J101 h15_ i15_ f15_ (by omega) (by first | exact mm_gh_n w15_1 (by omega) (fun q => by have q1 := q.1; omega) (fun _ => rfl) | exact mm_gh_n w15_1 (by omega) (fun q => by have q1 := q.2.1; omega) (fun _ => rfl) | exact mm_gh_n w15_1 (by omega) (fun q => (zl9.resolve_left (fun z => by have z1 := z.1; omega)).2 q.2.2) (fun _ => rfl) | exact (mm_ga_y w15_1 w15_2 ⟨by omega, by omega⟩ ⟨by omega, by omega, (zl9.resolve_right (fun z => by have z1 := z.1; omega)).2⟩ (f15_.2 24 (by decide) _) eh3 eh4 eh5 (by first | omega | exact i4.2.1 24 _)).1) (by first | exact w15_2 | exact w15_2 | exact w15_2 | exact (mm_ga_y w15_1 w15_2 ⟨by omega, by omega⟩ ⟨by omega, by omega, (zl9.resolve_right (fun z => by have z1 := z.1; omega)).2⟩ (f15_.2 24 (by decide) _) eh3 eh4 eh5 (by first | omega | exact i4.2.1 24 _)).2)
        · skip
          refine mm_aload_n C (mm_dec dk_X3_gather 20 rfl) rfl ?_
          refine mm_getr (t := 22) C fl_X3_25 (mm_dec dk_X3_gather 21 rfl) rfl rfl (mm_ref i15_ rfl) ?_
          refine mm_iload_n C (mm_dec dk_X3_gather 22 rfl) rfl ?_
          refine mm_cVi (rest := []) C1 ev_X3_48 (mm_dec dk_X3_gather 23 rfl) (c_X9_aheadOf x.2.1 hl (d - 1) (by omega) h15_ i15_ x15_3 ⟨by omega, by omega⟩) rfl rfl (Nat.le_of_ble_eq_true rfl) ⟨by decide, by decide⟩ rfl (fun r43 h43c hp43 => ?_) (fun _ _ q => q.elim)
          obtain ⟨z43, y43⟩ := hp43
          rw [z43, y43]
          have g27 : -1 ≤ (h15_.2.1 27 x15_3) ∧ (h15_.2.1 27 x15_3) ≤ 39 := i15_.2.1 27 x15_3
          refine mm_iconst C (mm_dec dk_X3_gather 24 rfl) ⟨by decide, by decide⟩ ?_
          refine mm_icmp_ne (tgt := 101) C (mm_dec dk_X3_gather 25 rfl) (by decide) (fun c47 => ?_) (fun c47 => ?_)
          · skip
            exact J101 h15_ i15_ f15_ (by omega) (by first | exact mm_gh_n w15_1 (by omega) (fun q => by have q1 := q.1; omega) (fun _ => rfl) | exact mm_gh_n w15_1 (by omega) (fun q => by have q1 := q.2.1; omega) (fun _ => rfl) | exact mm_gh_n w15_1 (by omega) (fun q => (zl9.resolve_left (fun z => by have z1 := z.1; omega)).2 q.2.2) (fun _ => rfl) | exact (mm_ga_y w15_1 w15_2 ⟨by omega, by omega⟩ ⟨by omega, by omega, (zl9.resolve_right (fun z => by have z1 := z.1; omega)).2⟩ (f15_.2 24 (by decide) _) eh3 eh4 eh5 (by first | omega | exact i4.2.1 24 _)).1) (by first | exact w15_2 | exact w15_2 | exact w15_2 | exact (mm_ga_y w15_1 w15_2 ⟨by omega, by omega⟩ ⟨by omega, by omega, (zl9.resolve_right (fun z => by have z1 := z.1; omega)).2⟩ (f15_.2 24 (by decide) _) eh3 eh4 eh5 (by first | omega | exact i4.2.1 24 _)).2)
          · skip
            refine mm_aload_n C (mm_dec dk_X3_gather 26 rfl) rfl ?_
            refine mm_getr (t := 30) C fl_X3_29 (mm_dec dk_X3_gather 27 rfl) rfl rfl (mm_ref i15_ rfl) ?_
            refine mm_iconst C (mm_dec dk_X3_gather 28 rfl) ⟨by decide, by decide⟩ ?_
            refine mm_iload_n C (mm_dec dk_X3_gather 29 rfl) rfl ?_
            refine mm_iload_n C (mm_dec dk_X3_gather 30 rfl) rfl ?_
            refine mm_cVi (rest := []) C1 ev_X3_51 (mm_dec dk_X3_gather 31 rfl) (c_X6_latest_q x.2.1 hl (d - 1) (by omega) h15_ i15_ 0 x15_3 p2 ⟨by omega, by omega⟩) rfl rfl (Nat.le_of_ble_eq_true rfl) ⟨by decide, by decide⟩ rfl (fun r57 h57c hp57 => ?_) (fun _ _ q => q.elim)
            obtain ⟨b57, z57, y57_0⟩ := hp57
            rw [z57]
            have zl9 := mm_lat_no y57_0
            rw [zk9, ze9] at zl9
            refine mm_iconst C (mm_dec dk_X3_gather 32 rfl) ⟨by decide, by decide⟩ ?_
            refine mm_icmp_ne (tgt := 101) C (mm_dec dk_X3_gather 33 rfl) (by decide) (fun c61 => ?_) (fun c61 => ?_)
            · skip
              exact J101 h15_ i15_ f15_ (by omega) (by first | exact mm_gh_n w15_1 (by omega) (fun q => by have q1 := q.1; omega) (fun _ => rfl) | exact mm_gh_n w15_1 (by omega) (fun q => by have q1 := q.2.1; omega) (fun _ => rfl) | exact mm_gh_n w15_1 (by omega) (fun q => (zl9.resolve_left (fun z => by have z1 := z.1; omega)).2 q.2.2) (fun _ => rfl) | exact (mm_ga_y w15_1 w15_2 ⟨by omega, by omega⟩ ⟨by omega, by omega, (zl9.resolve_right (fun z => by have z1 := z.1; omega)).2⟩ (f15_.2 24 (by decide) _) eh3 eh4 eh5 (by first | omega | exact i4.2.1 24 _)).1) (by first | exact w15_2 | exact w15_2 | exact w15_2 | exact (mm_ga_y w15_1 w15_2 ⟨by omega, by omega⟩ ⟨by omega, by omega, (zl9.resolve_right (fun z => by have z1 := z.1; omega)).2⟩ (f15_.2 24 (by decide) _) eh3 eh4 eh5 (by first | omega | exact i4.2.1 24 _)).2)
            · skip
              refine mm_aload_n C (mm_dec dk_X3_gather 34 rfl) rfl ?_
              refine mm_getr (t := 55) C fl_X3_9 (mm_dec dk_X3_gather 35 rfl) rfl rfl (mm_ref i15_ rfl) ?_
              refine mm_aload_n C (mm_dec dk_X3_gather 36 rfl) rfl ?_
              refine mm_geti C fl_X3_21 (mm_dec dk_X3_gather 37 rfl) rfl rfl (Or.inl rfl) ?_
              refine mm_iload_n C (mm_dec dk_X3_gather 38 rfl) rfl ?_
              refine mm_iast C (mm_dec dk_X3_gather 39 rfl) rfl (by omega) (by omega) ?_
              have i3 : mm_inv (mm_pa h15_ 55 (h15_.1 54 5) x15_3) := mm_inv_pa i15_ (show -1 ≤ x15_3 ∧ x15_3 ≤ 39 from ⟨by omega, by omega⟩)
              have f3 : mm_fr [(54, 5)] [55, 57] h (mm_pa h15_ 55 (h15_.1 54 5) x15_3) := mm_fr_pa f15_ (by decide)
              obtain ⟨h3, eh3⟩ : ∃ z, z = mm_pa h15_ 55 (h15_.1 54 5) x15_3 := ⟨_, rfl⟩
              rw [← eh3] at i3 f3 ⊢
              have qh3_29 : h3.1 22 8 = h15_.1 22 8 := by rw [eh3]; rfl
              have qh3_30 : h3.1 30 6 = h15_.1 30 6 := by rw [eh3]; rfl
              have qh3_31 : h3.1 54 5 = h15_.1 54 5 := by rw [eh3]; rfl
              refine mm_aload_n C (mm_dec dk_X3_gather 40 rfl) rfl ?_
              refine mm_dup C (mm_dec dk_X3_gather 41 rfl) (show (2 : Nat) ≠ 1 by decide) ?_
              refine mm_geti C fl_X3_21 (mm_dec dk_X3_gather 42 rfl) rfl rfl (Or.inl rfl) ?_
              refine mm_iconst C (mm_dec dk_X3_gather 43 rfl) ⟨by decide, by decide⟩ ?_
              refine mm_iadd C (mm_dec dk_X3_gather 44 rfl) ⟨by omega, by omega⟩ ?_
              refine mm_puti C fl_X3_21 (mm_dec dk_X3_gather 45 rfl) rfl rfl rfl (Or.inl ⟨rfl, rfl⟩) ?_
              have i4 : mm_inv (mm_pf h3 54 5 ((h3.1 54 5) + 1)) := mm_inv_pf i3 (show 0 ≤ ((h3.1 54 5) + 1) ∧ ((h3.1 54 5) + 1) ≤ 40 from ⟨by omega, by omega⟩) (by decide)
              have f4 : mm_fr [(54, 5)] [55, 57] h (mm_pf h3 54 5 ((h3.1 54 5) + 1)) := mm_fr_pf f3 (by decide)
              obtain ⟨h4, eh4⟩ : ∃ z, z = mm_pf h3 54 5 ((h3.1 54 5) + 1) := ⟨_, rfl⟩
              rw [← eh4] at i4 f4 ⊢
              have qh4 : h4.1 54 5 = ((h3.1 54 5) + 1) := by rw [eh4]; exact mm_pf_same _ _ _ _
              have qh4_32 : h4.1 22 8 = h3.1 22 8 := by rw [eh4]; exact mm_pf_ne _ _ (by decide)
              have qh4_33 : h4.1 30 6 = h3.1 30 6 := by rw [eh4]; exact mm_pf_ne _ _ (by decide)
              refine mm_aload_n C (mm_dec dk_X3_gather 46 rfl) rfl ?_
              refine mm_getr (t := 57) C fl_X3_18 (mm_dec dk_X3_gather 47 rfl) rfl rfl (mm_ref i4 rfl) ?_
              refine mm_aload_n C (mm_dec dk_X3_gather 48 rfl) rfl ?_
              refine mm_getr (t := 22) C fl_X3_25 (mm_dec dk_X3_gather 49 rfl) rfl rfl (mm_ref i4 rfl) ?_
              refine mm_iload_n C (mm_dec dk_X3_gather 50 rfl) rfl ?_
              refine mm_cVi (rest := [mR 57]) C1 ev_X3_57 (mm_dec dk_X3_gather 51 rfl) (c_X9_clubOf x.2.1 hl (d - 1) (by omega) h4 i4 x15_3 ⟨by omega, by omega⟩) rfl rfl (Nat.le_of_ble_eq_true rfl) ⟨by decide, by decide⟩ rfl (fun r93 h93c hp93 => ?_) (fun _ _ q => q.elim)
              obtain ⟨z93, y93⟩ := hp93
              rw [z93, y93]
              have g35 : 0 ≤ (h4.2.1 24 x15_3) ∧ (h4.2.1 24 x15_3) ≤ 9 := i4.2.1 24 x15_3
              refine mm_dup2 C (mm_dec dk_X3_gather 52 rfl) (show (0 : Nat) ≠ 1 by decide) (show (2 : Nat) ≠ 1 by decide) ?_
              refine mm_iald C (mm_dec dk_X3_gather 53 rfl) rfl (by omega) (by omega) ?_
              have g36 : -2147483648 ≤ (h4.2.1 57 (h4.2.1 24 x15_3)) ∧ (h4.2.1 57 (h4.2.1 24 x15_3)) ≤ 2147483647 := i4.2.1 57 (h4.2.1 24 x15_3)
              refine mm_iconst C (mm_dec dk_X3_gather 54 rfl) ⟨by decide, by decide⟩ ?_
              refine mm_iaddw C (mm_dec dk_X3_gather 55 rfl) ?_
              have g37 : -2147483648 ≤ (mm_w ((h4.2.1 57 (h4.2.1 24 x15_3)) + 1)) ∧ (mm_w ((h4.2.1 57 (h4.2.1 24 x15_3)) + 1)) < 2147483648 := mm_w_rg _
              refine mm_iast C (mm_dec dk_X3_gather 56 rfl) rfl (by omega) (by omega) ?_
              have i5 : mm_inv (mm_pa h4 57 (h4.2.1 24 x15_3) (mm_w ((h4.2.1 57 (h4.2.1 24 x15_3)) + 1))) := mm_inv_pa i4 (show -2147483648 ≤ (mm_w ((h4.2.1 57 (h4.2.1 24 x15_3)) + 1)) ∧ (mm_w ((h4.2.1 57 (h4.2.1 24 x15_3)) + 1)) ≤ 2147483647 from ⟨by omega, by omega⟩)
              have f5 : mm_fr [(54, 5)] [55, 57] h (mm_pa h4 57 (h4.2.1 24 x15_3) (mm_w ((h4.2.1 57 (h4.2.1 24 x15_3)) + 1))) := mm_fr_pa f4 (by decide)
              obtain ⟨h5, eh5⟩ : ∃ z, z = mm_pa h4 57 (h4.2.1 24 x15_3) (mm_w ((h4.2.1 57 (h4.2.1 24 x15_3)) + 1)) := ⟨_, rfl⟩
              rw [← eh5] at i5 f5 ⊢
              have qh5_38 : h5.1 22 8 = h4.1 22 8 := by rw [eh5]; rfl
              have qh5_39 : h5.1 30 6 = h4.1 30 6 := by rw [eh5]; rfl
              have qh5_40 : h5.1 54 5 = h4.1 54 5 := by rw [eh5]; rfl
              exact J101 h5 i5 f5 (by omega) (by first | exact mm_gh_n w15_1 (by omega) (fun q => by have q1 := q.1; omega) (fun _ => rfl) | exact mm_gh_n w15_1 (by omega) (fun q => by have q1 := q.2.1; omega) (fun _ => rfl) | exact mm_gh_n w15_1 (by omega) (fun q => (zl9.resolve_left (fun z => by have z1 := z.1; omega)).2 q.2.2) (fun _ => rfl) | exact (mm_ga_y w15_1 w15_2 ⟨by omega, by omega⟩ ⟨by omega, by omega, (zl9.resolve_right (fun z => by have z1 := z.1; omega)).2⟩ (f15_.2 24 (by decide) _) eh3 eh4 eh5 (by first | omega | exact i4.2.1 24 _)).1) (by first | exact w15_2 | exact w15_2 | exact w15_2 | exact (mm_ga_y w15_1 w15_2 ⟨by omega, by omega⟩ ⟨by omega, by omega, (zl9.resolve_right (fun z => by have z1 := z.1; omega)).2⟩ (f15_.2 24 (by decide) _) eh3 eh4 eh5 (by first | omega | exact i4.2.1 24 _)).2)
  refine mm_istore_nL (ls2 := [mR 54, mI p1, mI p2, mI 0]) C (mm_dec dk_X3_gather 8 rfl) (by decide) rfl ?_
  exact J15 (((40 - 0) : Int) + 1).toNat 0 ⟨by omega, by omega⟩ h10c i10c f10c (by omega) (by first | exact w101_1 | (rw [show h10c.1 54 5 = 0 by omega]; exact rfl)) (by first | exact w101_2 | exact fun c a b => (y10_0 c a (by omega)).trans (by rw [show h10c.1 54 5 = 0 by omega]; rfl)) (by omega) (by omega)
set_option maxRecDepth 100000 in
set_option maxHeartbeats 4000000 in
theorem c_X3_restCanFollow_q (l : Launch) (hl : l.stackTraces = false) (d : Nat) (hd : 0 ≤ d) (h : mH) (i0 : mm_inv h) (p1 : Int) (p2 : Int) (bp2 : 0 ≤ p2 ∧ p2 ≤ 40) (t0 : mm_lg9 h 100) : mm_Met l d yX3_restCanFollow cX3_restCanFollow 4 (some .boolean) [mR 54, mI p1, mI p2] h (mm_pi fun r h2 => (0 ≤ r ∧ r ≤ 1) ∧ h2 = h ∧ ((r = 1 ∧ mm_rf (h.2.1 57) p1 p2) ∨ (r = 0 ∧ ¬ mm_rf (h.2.1 57) p1 p2))) mm_nx 0 0 := by
  refine mm_ofW (ls := [mR 54, mI p1, mI p2, mU]) hl (by decide) rfl (Nat.le_of_ble_eq_true rfl) ?_
  intro x hxl C T hnm htb
  subst hxl
  refine mm_rng (fun hr _ => ?_)
  have ap1 : -2147483648 ≤ p1 ∧ p1 < 2147483648 := mm_ok_at hr (i := 1) rfl
  have ap2 : -2147483648 ≤ p2 ∧ p2 < 2147483648 := mm_ok_at hr (i := 2) rfl
  have f0 : mm_fr [] [] h h := mm_fr_rf
  refine mm_iconst C (mm_dec dk_X3_restCanFollow 0 rfl) ⟨by decide, by decide⟩ ?_
  have J2 : ∀ (n : Nat) (x2_3 : Int) (bx2_3 : 0 ≤ x2_3 ∧ x2_3 ≤ 10) (w2_0 : ∀ d, 0 ≤ d → d < x2_3 → (d = p1 → h.2.1 57 d - 1 ≤ p2 / 2) ∧ (d ≠ p1 → h.2.1 57 d ≤ (p2 + 1) / 2)), (10 - x2_3 : Int) < n → mm_W x 0 0 2 [mR 54, mI p1, mI p2, mI x2_3] [] h := by
    intro n
    induction n with
    | zero =>
      intro x2_3 bx2_3 w2_0 hm
      exfalso; omega
    | succ n ih2 =>
      intro x2_3 bx2_3 w2_0 hm2
      refine mm_iload_n C (mm_dec dk_X3_restCanFollow 2 rfl) rfl ?_
      refine mm_bipush C (mm_dec dk_X3_restCanFollow 3 rfl) ⟨by decide, by decide⟩ ?_
      refine mm_icmp_ge (tgt := 52) C (mm_dec dk_X3_restCanFollow 4 rfl) (by decide) (fun c5 => ?_) (fun c5 => ?_)
      · skip
        refine mm_iconst C (mm_dec dk_X3_restCanFollow 33 rfl) ⟨by decide, by decide⟩ ?_
        exact mm_zret C T (mm_dec dk_X3_restCanFollow 34 rfl) (by decide : 0 ≤ 0) (by decide : 0 ≤ 0) (by omega) ⟨_, rfl, ⟨⟨by omega, by omega⟩, rfl, by first | exact Or.inl ⟨rfl, fun d a b => w2_0 d a (by omega)⟩ | exact Or.inr ⟨rfl, w44_0⟩⟩⟩
      · skip
        have zl9 := t0 x2_3 (by omega) (by omega)
        have zw9 : mm_w (h.2.1 57 x2_3 - 1) = h.2.1 57 x2_3 - 1 := mm_w_id ⟨by omega, by omega⟩
        refine mm_iload_n C (mm_dec dk_X3_restCanFollow 5 rfl) rfl ?_
        refine mm_iload_n C (mm_dec dk_X3_restCanFollow 6 rfl) rfl ?_
        have J46 : ∀ (w46_0 : (x2_3 = p1 → h.2.1 57 x2_3 - 1 ≤ p2 / 2) ∧ (x2_3 ≠ p1 → h.2.1 57 x2_3 ≤ (p2 + 1) / 2)), mm_W x 0 0 46 [mR 54, mI p1, mI p2, mI x2_3] [] h := by
          intro w46_0
          refine mm_iincL (ls2 := [mR 54, mI p1, mI p2, mI (x2_3 + 1)]) C (mm_dec dk_X3_restCanFollow 31 rfl) rfl (by decide) ⟨by omega, by omega⟩ rfl ?_
          refine mm_goto (tgt := 2) C (mm_dec dk_X3_restCanFollow 32 rfl) (by decide) ?_
          exact ih2 (x2_3 + 1) ⟨by omega, by omega⟩ (by first | exact fun d a b => absurd b (by omega) | exact fun d a b => (by by_cases q : d = x2_3; (rw [q]; exact w46_0); exact w2_0 d a (by omega))) (by omega)
        have J44 : ∀ (w44_0 : ¬ mm_rf (h.2.1 57) p1 p2), mm_W x 0 0 44 [mU, mU, mU, mU] [] h := by
          intro w44_0
          refine mm_iconst C (mm_dec dk_X3_restCanFollow 29 rfl) ⟨by decide, by decide⟩ ?_
          exact mm_zret C T (mm_dec dk_X3_restCanFollow 30 rfl) (by decide : 0 ≤ 0) (by decide : 0 ≤ 0) (by omega) ⟨_, rfl, ⟨⟨by omega, by omega⟩, rfl, by first | exact Or.inl ⟨rfl, fun d a b => w2_0 d a (by omega)⟩ | exact Or.inr ⟨rfl, w44_0⟩⟩⟩
        refine mm_icmp_ne (tgt := 30) C (mm_dec dk_X3_restCanFollow 7 rfl) (by decide) (fun c10 => ?_) (fun c10 => ?_)
        · skip
          refine mm_aload_n C (mm_dec dk_X3_restCanFollow 19 rfl) rfl ?_
          refine mm_getr (t := 57) C fl_X3_18 (mm_dec dk_X3_restCanFollow 20 rfl) rfl rfl (mm_ref i0 rfl) ?_
          refine mm_iload_n C (mm_dec dk_X3_restCanFollow 21 rfl) rfl ?_
          refine mm_iald C (mm_dec dk_X3_restCanFollow 22 rfl) rfl (by omega) (by omega) ?_
          have g1 : -2147483648 ≤ (h.2.1 57 x2_3) ∧ (h.2.1 57 x2_3) ≤ 2147483647 := i0.2.1 57 x2_3
          refine mm_iload_n C (mm_dec dk_X3_restCanFollow 23 rfl) rfl ?_
          refine mm_iconst C (mm_dec dk_X3_restCanFollow 24 rfl) ⟨by decide, by decide⟩ ?_
          refine mm_iadd C (mm_dec dk_X3_restCanFollow 25 rfl) ⟨by omega, by omega⟩ ?_
          refine mm_iconst C (mm_dec dk_X3_restCanFollow 26 rfl) ⟨by decide, by decide⟩ ?_
          refine mm_idiv C (mm_dec dk_X3_restCanFollow 27 rfl) ⟨by omega, by omega⟩ (by omega) ?_
          refine mm_icmp_le (tgt := 46) C (mm_dec dk_X3_restCanFollow 28 rfl) (by decide) (fun c41 => ?_) (fun c41 => ?_)
          · skip
            exact J46 (by omega)
          · skip
            refine mm_fgt 0 ?_
            refine mm_fgt 1 ?_
            refine mm_fgt 2 ?_
            refine mm_fgt 3 ?_
            exact J44 (by exact fun q => by have q1 := q x2_3 (by omega) (by omega); omega)
        · skip
          refine mm_aload_n C (mm_dec dk_X3_restCanFollow 8 rfl) rfl ?_
          refine mm_getr (t := 57) C fl_X3_18 (mm_dec dk_X3_restCanFollow 9 rfl) rfl rfl (mm_ref i0 rfl) ?_
          refine mm_iload_n C (mm_dec dk_X3_restCanFollow 10 rfl) rfl ?_
          refine mm_iald C (mm_dec dk_X3_restCanFollow 11 rfl) rfl (by omega) (by omega) ?_
          have g2 : -2147483648 ≤ (h.2.1 57 x2_3) ∧ (h.2.1 57 x2_3) ≤ 2147483647 := i0.2.1 57 x2_3
          refine mm_iconst C (mm_dec dk_X3_restCanFollow 12 rfl) ⟨by decide, by decide⟩ ?_
          refine mm_isubw C (mm_dec dk_X3_restCanFollow 13 rfl) ?_
          have g3 : -2147483648 ≤ (mm_w ((h.2.1 57 x2_3) - 1)) ∧ (mm_w ((h.2.1 57 x2_3) - 1)) < 2147483648 := mm_w_rg _
          refine mm_iload_n C (mm_dec dk_X3_restCanFollow 14 rfl) rfl ?_
          refine mm_iconst C (mm_dec dk_X3_restCanFollow 15 rfl) ⟨by decide, by decide⟩ ?_
          refine mm_idiv C (mm_dec dk_X3_restCanFollow 16 rfl) ⟨by omega, by omega⟩ (by omega) ?_
          refine mm_icmp_le (tgt := 46) C (mm_dec dk_X3_restCanFollow 17 rfl) (by decide) (fun c24 => ?_) (fun c24 => ?_)
          · skip
            exact J46 (by omega)
          · skip
            refine mm_goto (tgt := 44) C (mm_dec dk_X3_restCanFollow 18 rfl) (by decide) ?_
            refine mm_fgt 0 ?_
            refine mm_fgt 1 ?_
            refine mm_fgt 2 ?_
            refine mm_fgt 3 ?_
            exact J44 (by exact fun q => by have q1 := q x2_3 (by omega) (by omega); omega)
  refine mm_istore_nL (ls2 := [mR 54, mI p1, mI p2, mI 0]) C (mm_dec dk_X3_restCanFollow 1 rfl) (by decide) rfl ?_
  exact J2 (((10 - 0) : Int) + 1).toNat 0 ⟨by omega, by omega⟩ (by first | exact fun d a b => absurd b (by omega) | exact fun d a b => (by by_cases q : d = x2_3; (rw [q]; exact w46_0); exact w2_0 d a (by omega))) (by omega)
set_option maxRecDepth 100000 in
set_option maxHeartbeats 4000000 in
theorem c_X3_nextAfter_q (l : Launch) (hl : l.stackTraces = false) (d : Nat) (hd : 1 ≤ d) (h : mH) (i0 : mm_inv h) (p1 : Int) (p2 : Int) (bp2 : 0 ≤ p2 ∧ p2 ≤ 40) (t0 : mm_lg9 h 100) : mm_Met l d yX3_nextAfter cX3_nextAfter 4 (some .int) [mR 54, mI p1, mI p2] h (mm_pi fun r h2 => (-1 ≤ r ∧ r ≤ 39) ∧ h2 = h ∧ (r = -1 ∨ h.2.1 55 r ≠ -1) ∧ ((r = -1 ∧ ∀ k, 0 ≤ k → k < h.1 54 5 → ¬ mm_pk h p1 p2 k) ∨ (r ≠ -1 ∧ mm_fs9 (mm_pk h p1 p2) (h.1 54 5) r))) mm_nx 0 0 := by
  refine mm_ofW (ls := [mR 54, mI p1, mI p2, mU]) hl (by decide) rfl (Nat.le_of_ble_eq_true rfl) ?_
  intro x hxl C T hnm htb
  subst hxl
  have C1 := mm_OK_le (d' := d - 1 + 1) (by omega) C
  refine mm_rng (fun hr _ => ?_)
  have ap1 : -2147483648 ≤ p1 ∧ p1 < 2147483648 := mm_ok_at hr (i := 1) rfl
  have ap2 : -2147483648 ≤ p2 ∧ p2 < 2147483648 := mm_ok_at hr (i := 2) rfl
  have f0 : mm_fr [] [] h h := mm_fr_rf
  have g1 : 0 ≤ h.1 54 5 ∧ h.1 54 5 ≤ 40 := i0.1 54 5
  refine mm_iconst C (mm_dec dk_X3_nextAfter 0 rfl) ⟨by decide, by decide⟩ ?_
  have J2 : ∀ (n : Nat) (x2_3 : Int) (bx2_3 : 0 ≤ x2_3 ∧ x2_3 ≤ 40) (w2_0 : ∀ k, 0 ≤ k → k < x2_3 → ¬ mm_pk h p1 p2 k), (40 - x2_3 : Int) < n → mm_W x 0 0 2 [mR 54, mI p1, mI p2, mI x2_3] [] h := by
    intro n
    induction n with
    | zero =>
      intro x2_3 bx2_3 w2_0 hm
      have g2 : 0 ≤ h.1 54 5 ∧ h.1 54 5 ≤ 40 := i0.1 54 5
      exfalso; omega
    | succ n ih2 =>
      intro x2_3 bx2_3 w2_0 hm2
      have g3 : 0 ≤ h.1 54 5 ∧ h.1 54 5 ≤ 40 := i0.1 54 5
      refine mm_iload_n C (mm_dec dk_X3_nextAfter 2 rfl) rfl ?_
      refine mm_aload_n C (mm_dec dk_X3_nextAfter 3 rfl) rfl ?_
      refine mm_geti C fl_X3_21 (mm_dec dk_X3_nextAfter 4 rfl) rfl rfl (Or.inl rfl) ?_
      refine mm_icmp_ge (tgt := 66) C (mm_dec dk_X3_nextAfter 5 rfl) (by decide) (fun c7 => ?_) (fun c7 => ?_)
      · skip
        refine mm_iconst C (mm_dec dk_X3_nextAfter 36 rfl) ⟨by decide, by decide⟩ ?_
        exact mm_iret C T (mm_dec dk_X3_nextAfter 37 rfl) (by decide : 0 ≤ 0) (by decide : 0 ≤ 0) ⟨_, rfl, ⟨⟨by omega, by omega⟩, rfl, by omega, by first | exact Or.inr ⟨by omega, by omega, by omega, ⟨by omega, by omega, (y52_0.resolve_right (fun z => by have z1 := z.1; omega)).2⟩, w2_0⟩ | exact Or.inl ⟨rfl, fun k a b => w2_0 k a (by omega)⟩⟩⟩
      · skip
        refine mm_aload_n C (mm_dec dk_X3_nextAfter 6 rfl) rfl ?_
        refine mm_getr (t := 55) C fl_X3_9 (mm_dec dk_X3_nextAfter 7 rfl) rfl rfl (mm_ref i0 rfl) ?_
        refine mm_iload_n C (mm_dec dk_X3_nextAfter 8 rfl) rfl ?_
        refine mm_iald C (mm_dec dk_X3_nextAfter 9 rfl) rfl (by omega) (by omega) ?_
        have g4 : -1 ≤ (h.2.1 55 x2_3) ∧ (h.2.1 55 x2_3) ≤ 39 := i0.2.1 55 x2_3
        refine mm_iconst C (mm_dec dk_X3_nextAfter 10 rfl) ⟨by decide, by decide⟩ ?_
        have J60 : ∀ (w60_0 : ¬ mm_pk h p1 p2 x2_3), mm_W x 0 0 60 [mR 54, mI p1, mI p2, mI x2_3] [] h := by
          intro w60_0
          have g5 : 0 ≤ h.1 54 5 ∧ h.1 54 5 ≤ 40 := i0.1 54 5
          refine mm_iincL (ls2 := [mR 54, mI p1, mI p2, mI (x2_3 + 1)]) C (mm_dec dk_X3_nextAfter 34 rfl) rfl (by decide) ⟨by omega, by omega⟩ rfl ?_
          refine mm_goto (tgt := 2) C (mm_dec dk_X3_nextAfter 35 rfl) (by decide) ?_
          exact ih2 (x2_3 + 1) ⟨by omega, by omega⟩ (by first | exact fun k a b => absurd b (by omega) | exact fun k a b => (by by_cases q : k = x2_3; (rw [q]; exact w60_0); exact w2_0 k a (by omega))) (by omega)
        refine mm_icmp_eq (tgt := 60) C (mm_dec dk_X3_nextAfter 11 rfl) (by decide) (fun c17 => ?_) (fun c17 => ?_)
        · skip
          exact J60 (by first | exact fun q => (by have q1 := q.1; omega) | exact fun q => (by have q1 := q.2.1; omega) | exact fun q => (y52_0.resolve_left (fun z => by have z1 := z.1; omega)).2 q.2.2)
        · skip
          refine mm_aload_n C (mm_dec dk_X3_nextAfter 12 rfl) rfl ?_
          refine mm_getr (t := 22) C fl_X3_25 (mm_dec dk_X3_nextAfter 13 rfl) rfl rfl (mm_ref i0 rfl) ?_
          refine mm_aload_n C (mm_dec dk_X3_nextAfter 14 rfl) rfl ?_
          refine mm_getr (t := 55) C fl_X3_9 (mm_dec dk_X3_nextAfter 15 rfl) rfl rfl (mm_ref i0 rfl) ?_
          refine mm_iload_n C (mm_dec dk_X3_nextAfter 16 rfl) rfl ?_
          refine mm_iald C (mm_dec dk_X3_nextAfter 17 rfl) rfl (by omega) (by omega) ?_
          refine mm_cVi (rest := []) C1 ev_X3_57 (mm_dec dk_X3_nextAfter 18 rfl) (c_X9_clubOf x.2.1 hl (d - 1) (by omega) h i0 (h.2.1 55 x2_3) ⟨by omega, by omega⟩) rfl rfl (Nat.le_of_ble_eq_true rfl) ⟨by decide, by decide⟩ rfl (fun r30 h30c hp30 => ?_) (fun _ _ q => q.elim)
          obtain ⟨z30, y30⟩ := hp30
          rw [z30, y30]
          have g7 : 0 ≤ (h.2.1 24 (h.2.1 55 x2_3)) ∧ (h.2.1 24 (h.2.1 55 x2_3)) ≤ 9 := i0.2.1 24 (h.2.1 55 x2_3)
          refine mm_iload_n C (mm_dec dk_X3_nextAfter 19 rfl) rfl ?_
          refine mm_icmp_eq (tgt := 60) C (mm_dec dk_X3_nextAfter 20 rfl) (by decide) (fun c34 => ?_) (fun c34 => ?_)
          · skip
            exact J60 (by first | exact fun q => (by have q1 := q.1; omega) | exact fun q => (by have q1 := q.2.1; omega) | exact fun q => (y52_0.resolve_left (fun z => by have z1 := z.1; omega)).2 q.2.2)
          · skip
            refine mm_aload_n C (mm_dec dk_X3_nextAfter 21 rfl) rfl ?_
            refine mm_aload_n C (mm_dec dk_X3_nextAfter 22 rfl) rfl ?_
            refine mm_getr (t := 22) C fl_X3_25 (mm_dec dk_X3_nextAfter 23 rfl) rfl rfl (mm_ref i0 rfl) ?_
            refine mm_aload_n C (mm_dec dk_X3_nextAfter 24 rfl) rfl ?_
            refine mm_getr (t := 55) C fl_X3_9 (mm_dec dk_X3_nextAfter 25 rfl) rfl rfl (mm_ref i0 rfl) ?_
            refine mm_iload_n C (mm_dec dk_X3_nextAfter 26 rfl) rfl ?_
            refine mm_iald C (mm_dec dk_X3_nextAfter 27 rfl) rfl (by omega) (by omega) ?_
            refine mm_cVi (rest := [mR 54]) C1 ev_X3_57 (mm_dec dk_X3_nextAfter 28 rfl) (c_X9_clubOf x.2.1 hl (d - 1) (by omega) h i0 (h.2.1 55 x2_3) ⟨by omega, by omega⟩) rfl rfl (Nat.le_of_ble_eq_true rfl) ⟨by decide, by decide⟩ rfl (fun r48 h48c hp48 => ?_) (fun _ _ q => q.elim)
            obtain ⟨z48, y48⟩ := hp48
            rw [z48, y48]
            refine mm_iload_n C (mm_dec dk_X3_nextAfter 29 rfl) rfl ?_
            refine mm_cVi (rest := []) C1 ev_X3_72 (mm_dec dk_X3_nextAfter 30 rfl) (c_X3_restCanFollow_q x.2.1 hl (d - 1) (by omega) h i0 (h.2.1 24 (h.2.1 55 x2_3)) p2 ⟨by omega, by omega⟩ (by exact t0)) rfl rfl (Nat.le_of_ble_eq_true rfl) ⟨by decide, by decide⟩ rfl (fun r52 h52c hp52 => ?_) (fun _ _ q => q.elim)
            obtain ⟨b52, z52, y52_0⟩ := hp52
            rw [z52]
            refine mm_if_eq (tgt := 60) C (mm_dec dk_X3_nextAfter 31 rfl) (by decide) (fun c55 => ?_) (fun c55 => ?_)
            · skip
              exact J60 (by first | exact fun q => (by have q1 := q.1; omega) | exact fun q => (by have q1 := q.2.1; omega) | exact fun q => (y52_0.resolve_left (fun z => by have z1 := z.1; omega)).2 q.2.2)
            · skip
              refine mm_iload_n C (mm_dec dk_X3_nextAfter 32 rfl) rfl ?_
              exact mm_iret C T (mm_dec dk_X3_nextAfter 33 rfl) (by decide : 0 ≤ 0) (by decide : 0 ≤ 0) ⟨_, rfl, ⟨⟨by omega, by omega⟩, rfl, by omega, by first | exact Or.inr ⟨by omega, by omega, by omega, ⟨by omega, by omega, (y52_0.resolve_right (fun z => by have z1 := z.1; omega)).2⟩, w2_0⟩ | exact Or.inl ⟨rfl, fun k a b => w2_0 k a (by omega)⟩⟩⟩
  refine mm_istore_nL (ls2 := [mR 54, mI p1, mI p2, mI 0]) C (mm_dec dk_X3_nextAfter 1 rfl) (by decide) rfl ?_
  exact J2 (((40 - 0) : Int) + 1).toNat 0 ⟨by omega, by omega⟩ (by first | exact fun k a b => absurd b (by omega) | exact fun k a b => (by by_cases q : k = x2_3; (rw [q]; exact w60_0); exact w2_0 k a (by omega))) (by omega)
set_option maxRecDepth 100000 in
set_option maxHeartbeats 4000000 in
theorem c_X3_shuffle_q (l : Launch) (hl : l.stackTraces = false) (d : Nat) (hd : 0 ≤ d) (h : mH) (i0 : mm_inv h) (p1 : Int) : mm_Met l d yX3_shuffle cX3_shuffle 8 none [mR 54, mL p1] h (mm_pv fun h2 => mm_inv h2 ∧ mm_fr [] [55] h h2 ∧ h2.2.1 55 = mm_sh9 (h.1 54 5 - 1).toNat p1 (h.2.1 55)) mm_nx 0 0 := by
  refine mm_ofW (ls := [mR 54, mL p1, mU, mU, mU, mU, mU, mU]) hl (by decide) rfl (Nat.le_of_ble_eq_true rfl) ?_
  intro x hxl C T hnm htb
  subst hxl
  refine mm_rng (fun hr _ => ?_)
  have ap1 : -9223372036854775808 ≤ p1 ∧ p1 < 9223372036854775808 := mm_ok_at hr (i := 1) rfl
  have f0 : mm_fr [] [55] h h := mm_fr_rf
  refine mm_lload_n C (mm_dec dk_X3_shuffle 0 rfl) rfl ?_
  refine mm_lstore_nL (ls2 := [mR 54, mL p1, mU, mL p1, mU, mU, mU, mU]) C (mm_dec dk_X3_shuffle 1 rfl) (by decide) rfl ?_
  refine mm_aload_n C (mm_dec dk_X3_shuffle 2 rfl) rfl ?_
  refine mm_geti C fl_X3_21 (mm_dec dk_X3_shuffle 3 rfl) rfl rfl (Or.inl rfl) ?_
  have g1 : 0 ≤ (h.1 54 5) ∧ (h.1 54 5) ≤ 40 := i0.1 54 5
  refine mm_iconst C (mm_dec dk_X3_shuffle 4 rfl) ⟨by decide, by decide⟩ ?_
  refine mm_isub C (mm_dec dk_X3_shuffle 5 rfl) ⟨by omega, by omega⟩ ?_
  have J10 : ∀ (n : Nat) (x10_3 : Int) (bx10_3 : -9223372036854775808 ≤ x10_3 ∧ x10_3 < 9223372036854775808) (x10_5 : Int) (bx10_5 : -1 ≤ x10_5 ∧ x10_5 ≤ 39) (h10_ : mH) (i10_ : mm_inv h10_) (f10_ : mm_fr [] [55] h h10_) (w10_0 : mm_sh9 (x10_5).toNat x10_3 (h10_.2.1 55) = mm_sh9 (h.1 54 5 - 1).toNat p1 (h.2.1 55)), (x10_5 - (-1) : Int) < n → mm_W x 0 0 10 [mR 54, mU, mU, mL x10_3, mU, mI x10_5, mU, mU] [] h10_ := by
    intro n
    induction n with
    | zero =>
      intro x10_3 bx10_3 x10_5 bx10_5 h10_ i10_ f10_ w10_0 hm
      exfalso; omega
    | succ n ih10 =>
      intro x10_3 bx10_3 x10_5 bx10_5 h10_ i10_ f10_ w10_0 hm10
      refine mm_iload C (mm_dec dk_X3_shuffle 7 rfl) rfl ?_
      refine mm_iconst C (mm_dec dk_X3_shuffle 8 rfl) ⟨by decide, by decide⟩ ?_
      refine mm_icmp_lt (tgt := 77) C (mm_dec dk_X3_shuffle 9 rfl) (by decide) (fun c13 => ?_) (fun c13 => ?_)
      · skip
        exact mm_vret C T (mm_dec dk_X3_shuffle 46 rfl) (by decide : 0 ≤ 0) (by decide : 0 ≤ 0) ⟨rfl, ⟨i10_, f10_, by (rw [← w10_0, show (x10_5).toNat = 0 by omega]; rfl)⟩⟩
      · skip
        refine mm_lload_n C (mm_dec dk_X3_shuffle 10 rfl) rfl ?_
        refine mm_ldc2 (z := 6364136223846793005) C (mm_dec dk_X3_shuffle 11 rfl) kc_X3_68 (by decide) ?_
        refine mm_lmul C (mm_dec dk_X3_shuffle 12 rfl) ?_
        have g2 : -9223372036854775808 ≤ (mm_vlmul x10_3 6364136223846793005) ∧ (mm_vlmul x10_3 6364136223846793005) < 9223372036854775808 := mm_rng64 _
        obtain ⟨y2, ey2⟩ : ∃ z, z = (mm_vlmul x10_3 6364136223846793005) := ⟨_, rfl⟩
        rw [← ey2] at g2 ⊢
        skip
        refine mm_ldc2 (z := 1442695040888963407) C (mm_dec dk_X3_shuffle 13 rfl) kc_X3_70 (by decide) ?_
        refine mm_ladd C (mm_dec dk_X3_shuffle 14 rfl) ?_
        have g3 : -9223372036854775808 ≤ (mm_vladd y2 1442695040888963407) ∧ (mm_vladd y2 1442695040888963407) < 9223372036854775808 := mm_rng64 _
        obtain ⟨y3, ey3⟩ : ∃ z, z = (mm_vladd y2 1442695040888963407) := ⟨_, rfl⟩
        rw [← ey3] at g3 ⊢
        skip
        refine mm_lstore_nL (ls2 := [mR 54, mU, mU, mL y3, mU, mI x10_5, mU, mU]) C (mm_dec dk_X3_shuffle 15 rfl) (by decide) rfl ?_
        refine mm_lload_n C (mm_dec dk_X3_shuffle 16 rfl) rfl ?_
        refine mm_bipush C (mm_dec dk_X3_shuffle 17 rfl) ⟨by decide, by decide⟩ ?_
        refine mm_lushr C (mm_dec dk_X3_shuffle 18 rfl) ?_
        have g4 : -9223372036854775808 ≤ (mm_vlushr y3 33) ∧ (mm_vlushr y3 33) < 9223372036854775808 := mm_rng64 _
        refine mm_iload C (mm_dec dk_X3_shuffle 19 rfl) rfl ?_
        refine mm_iconst C (mm_dec dk_X3_shuffle 20 rfl) ⟨by decide, by decide⟩ ?_
        refine mm_iadd C (mm_dec dk_X3_shuffle 21 rfl) ⟨by omega, by omega⟩ ?_
        refine mm_i2l C (mm_dec dk_X3_shuffle 22 rfl) ?_
        refine mm_lrem C (mm_dec dk_X3_shuffle 23 rfl) (by omega) ?_
        have g5 : -9223372036854775808 ≤ (mm_vlrem (mm_vlushr y3 33) (x10_5 + 1)) ∧ (mm_vlrem (mm_vlushr y3 33) (x10_5 + 1)) < 9223372036854775808 := mm_rng64 _
        refine mm_l2i C (mm_dec dk_X3_shuffle 24 rfl) ?_
        have g6 : 0 ≤ (mm_vl2i (mm_vlrem (mm_vlushr y3 33) (x10_5 + 1))) ∧ (mm_vl2i (mm_vlrem (mm_vlushr y3 33) (x10_5 + 1))) < (x10_5 + 1) := mm_lot ⟨by omega, by omega⟩
        obtain ⟨y6, ey6⟩ : ∃ z, z = (mm_vl2i (mm_vlrem (mm_vlushr y3 33) (x10_5 + 1))) := ⟨_, rfl⟩
        rw [← ey6] at g6 ⊢
        skip
        refine mm_istoreL (ls2 := [mR 54, mU, mU, mL y3, mU, mI x10_5, mI y6, mU]) C (mm_dec dk_X3_shuffle 25 rfl) (by decide) rfl ?_
        refine mm_aload_n C (mm_dec dk_X3_shuffle 26 rfl) rfl ?_
        refine mm_getr (t := 55) C fl_X3_9 (mm_dec dk_X3_shuffle 27 rfl) rfl rfl (mm_ref i10_ rfl) ?_
        refine mm_iload C (mm_dec dk_X3_shuffle 28 rfl) rfl ?_
        refine mm_iald C (mm_dec dk_X3_shuffle 29 rfl) rfl (by omega) (by omega) ?_
        have g7 : -1 ≤ (h10_.2.1 55 x10_5) ∧ (h10_.2.1 55 x10_5) ≤ 39 := i10_.2.1 55 x10_5
        refine mm_istoreL (ls2 := [mR 54, mU, mU, mL y3, mU, mI x10_5, mI y6, mI (h10_.2.1 55 x10_5)]) C (mm_dec dk_X3_shuffle 30 rfl) (by decide) rfl ?_
        refine mm_aload_n C (mm_dec dk_X3_shuffle 31 rfl) rfl ?_
        refine mm_getr (t := 55) C fl_X3_9 (mm_dec dk_X3_shuffle 32 rfl) rfl rfl (mm_ref i10_ rfl) ?_
        refine mm_iload C (mm_dec dk_X3_shuffle 33 rfl) rfl ?_
        refine mm_aload_n C (mm_dec dk_X3_shuffle 34 rfl) rfl ?_
        refine mm_getr (t := 55) C fl_X3_9 (mm_dec dk_X3_shuffle 35 rfl) rfl rfl (mm_ref i10_ rfl) ?_
        refine mm_iload C (mm_dec dk_X3_shuffle 36 rfl) rfl ?_
        refine mm_iald C (mm_dec dk_X3_shuffle 37 rfl) rfl (by omega) (by omega) ?_
        have g8 : -1 ≤ (h10_.2.1 55 y6) ∧ (h10_.2.1 55 y6) ≤ 39 := i10_.2.1 55 y6
        refine mm_iast C (mm_dec dk_X3_shuffle 38 rfl) rfl (by omega) (by omega) ?_
        have i1 : mm_inv (mm_pa h10_ 55 x10_5 (h10_.2.1 55 y6)) := mm_inv_pa i10_ (show -1 ≤ (h10_.2.1 55 y6) ∧ (h10_.2.1 55 y6) ≤ 39 from ⟨by omega, by omega⟩)
        have f1 : mm_fr [] [55] h (mm_pa h10_ 55 x10_5 (h10_.2.1 55 y6)) := mm_fr_pa f10_ (by decide)
        obtain ⟨h1, eh1⟩ : ∃ z, z = mm_pa h10_ 55 x10_5 (h10_.2.1 55 y6) := ⟨_, rfl⟩
        rw [← eh1] at i1 f1 ⊢
        refine mm_aload_n C (mm_dec dk_X3_shuffle 39 rfl) rfl ?_
        refine mm_getr (t := 55) C fl_X3_9 (mm_dec dk_X3_shuffle 40 rfl) rfl rfl (mm_ref i1 rfl) ?_
        refine mm_iload C (mm_dec dk_X3_shuffle 41 rfl) rfl ?_
        refine mm_iload C (mm_dec dk_X3_shuffle 42 rfl) rfl ?_
        refine mm_iast C (mm_dec dk_X3_shuffle 43 rfl) rfl (by omega) (by omega) ?_
        have i2 : mm_inv (mm_pa h1 55 y6 (h10_.2.1 55 x10_5)) := mm_inv_pa i1 (show -1 ≤ (h10_.2.1 55 x10_5) ∧ (h10_.2.1 55 x10_5) ≤ 39 from ⟨by omega, by omega⟩)
        have f2 : mm_fr [] [55] h (mm_pa h1 55 y6 (h10_.2.1 55 x10_5)) := mm_fr_pa f1 (by decide)
        obtain ⟨h2, eh2⟩ : ∃ z, z = mm_pa h1 55 y6 (h10_.2.1 55 x10_5) := ⟨_, rfl⟩
        rw [← eh2] at i2 f2 ⊢
        refine mm_iincL (ls2 := [mR 54, mU, mU, mL y3, mU, mI (x10_5 + (-1)), mI y6, mI (h10_.2.1 55 x10_5)]) C (mm_dec dk_X3_shuffle 44 rfl) rfl (by decide) ⟨by omega, by omega⟩ rfl ?_
        refine mm_goto (tgt := 10) C (mm_dec dk_X3_shuffle 45 rfl) (by decide) ?_
        refine mm_fgt 6 ?_
        refine mm_fgt 7 ?_
        exact ih10 y3 (by first | assumption | exact ⟨by omega, by omega⟩) (x10_5 + (-1)) ⟨by omega, by omega⟩ h2 i2 f2 (by first | exact (mm_sh9_s ey2 ey3 ey6 (by omega) (by omega) eh1 eh2).trans w10_0 | exact Eq.refl _) (by omega)
  refine mm_istoreL (ls2 := [mR 54, mL p1, mU, mL p1, mU, mI ((h.1 54 5) - 1), mU, mU]) C (mm_dec dk_X3_shuffle 6 rfl) (by decide) rfl ?_
  refine mm_fgt 1 ?_
  exact J10 (((((h.1 54 5) - 1) - (-1)) : Int) + 1).toNat p1 (by first | assumption | exact ⟨by omega, by omega⟩) ((h.1 54 5) - 1) ⟨by omega, by omega⟩ h i0 f0 (by first | exact (mm_sh9_s ey2 ey3 ey6 (by omega) (by omega) eh1 eh2).trans w10_0 | exact Eq.refl _) (by omega)
set_option maxRecDepth 100000 in
set_option maxHeartbeats 4000000 in
theorem c_X3_arrange_q (l : Launch) (hl : l.stackTraces = false) (d : Nat) (hd : 2 ≤ d) (h : mH) (i0 : mm_inv h) (p1 : Int) (t0 : mm_nn9 h) (t1 : mm_lg9 h 40) : mm_Met l d yX3_arrange cX3_arrange 6 (some .boolean) [mR 54, mL p1] h (mm_pi fun r h2 => (0 ≤ r ∧ r ≤ 1) ∧ mm_inv h2 ∧ mm_fr [] [55, 56, 57] h h2 ∧ mm_aW (h.2.1 24) (mm_sh9 (h.1 54 5 - 1).toNat p1 (h.2.1 55)) (h.2.1 57) (h.1 54 5) r (h2.2.1 56)) mm_nx 0 0 := by
  refine mm_ofW (ls := [mR 54, mL p1, mU, mU, mU, mU]) hl (by decide) rfl (Nat.le_of_ble_eq_true rfl) ?_
  intro x hxl C T hnm htb
  subst hxl
  have C1 := mm_OK_le (d' := d - 1 + 1) (by omega) C
  refine mm_rng (fun hr _ => ?_)
  have ap1 : -9223372036854775808 ≤ p1 ∧ p1 < 9223372036854775808 := mm_ok_at hr (i := 1) rfl
  have f0 : mm_fr [] [55, 56, 57] h h := mm_fr_rf
  have g1 : 0 ≤ h.1 54 5 ∧ h.1 54 5 ≤ 40 := i0.1 54 5
  refine mm_aload_n C (mm_dec dk_X3_arrange 0 rfl) rfl ?_
  refine mm_lload_n C (mm_dec dk_X3_arrange 1 rfl) rfl ?_
  refine mm_cVv (rest := []) C1 ev_X3_60 (mm_dec dk_X3_arrange 2 rfl) (c_X3_shuffle_q x.2.1 hl (d - 1) (by omega) h i0 p1) rfl rfl (Nat.le_of_ble_eq_true rfl) ⟨by decide, by decide⟩ rfl (fun h2c hp2 => ?_) (fun _ _ q => q.elim)
  obtain ⟨i2c, g2c, y2_0⟩ := hp2
  have f2c : mm_fr [] [55, 56, 57] h h2c := mm_fr_tr f0 g2c (by decide +kernel)
  have q2c_3 : h2c.1 54 5 = h.1 54 5 := g2c.1 54 5 (by decide)
  have zN : mm_nn9 h2c := mm_nn9_sh t0 ⟨by omega, by omega⟩ (g2c.1 54 5 (by decide)) y2_0
  have zL : mm_lg9 h2c 40 := fun c a b => by rw [g2c.2 57 (by decide)]; exact t1 c a b
  have z5 : h2c.1 54 5 = h.1 54 5 := g2c.1 54 5 (by decide)
  refine mm_iconst C (mm_dec dk_X3_arrange 3 rfl) ⟨by decide, by decide⟩ ?_
  refine mm_istore_nL (ls2 := [mR 54, mL p1, mU, mI (-1), mU, mU]) C (mm_dec dk_X3_arrange 4 rfl) (by decide) rfl ?_
  refine mm_iconst C (mm_dec dk_X3_arrange 5 rfl) ⟨by decide, by decide⟩ ?_
  have J10 : ∀ (n : Nat) (x10_3 : Int) (bx10_3 : -1 ≤ x10_3 ∧ x10_3 ≤ 9) (x10_4 : Int) (bx10_4 : 0 ≤ x10_4 ∧ x10_4 ≤ 40) (h10_ : mH) (i10_ : mm_inv h10_) (f10_ : mm_fr [] [55, 56, 57] h h10_) (w10_0 : mm_ag h2c h10_ x10_4 x10_3) (w10_1 : x10_4 ≤ h.1 54 5), (40 - x10_4 : Int) < n → mm_W x 0 0 10 [mR 54, mU, mU, mI x10_3, mI x10_4, mU] [] h10_ := by
    intro n
    induction n with
    | zero =>
      intro x10_3 bx10_3 x10_4 bx10_4 h10_ i10_ f10_ w10_0 w10_1 hm
      have g4 : 0 ≤ h10_.1 54 5 ∧ h10_.1 54 5 ≤ 40 := i10_.1 54 5
      exfalso; omega
    | succ n ih10 =>
      intro x10_3 bx10_3 x10_4 bx10_4 h10_ i10_ f10_ w10_0 w10_1 hm10
      have g5 : 0 ≤ h10_.1 54 5 ∧ h10_.1 54 5 ≤ 40 := i10_.1 54 5
      have g6 : h10_.1 54 5 = h.1 54 5 := f10_.1 54 5 (by decide)
      have zr24 : ∀ j, h10_.2.1 24 j = h2c.2.1 24 j := fun j => (f10_.2 24 (by decide) j).trans (f2c.2 24 (by decide) j).symm
      have zlg : mm_lg9 h10_ 100 := fun c a b => by have z := mm_ag_lg w10_0 zL (by omega) c a b; omega
      refine mm_iload C (mm_dec dk_X3_arrange 7 rfl) rfl ?_
      refine mm_aload_n C (mm_dec dk_X3_arrange 8 rfl) rfl ?_
      refine mm_geti C fl_X3_21 (mm_dec dk_X3_arrange 9 rfl) rfl rfl (Or.inl rfl) ?_
      refine mm_icmp_ge (tgt := 96) C (mm_dec dk_X3_arrange 10 rfl) (by decide) (fun c16 => ?_) (fun c16 => ?_)
      · skip
        refine mm_iconst C (mm_dec dk_X3_arrange 57 rfl) ⟨by decide, by decide⟩ ?_
        exact mm_zret C T (mm_dec dk_X3_arrange 58 rfl) (by decide : 0 ≤ 0) (by decide : 0 ≤ 0) (by omega) ⟨_, rfl, ⟨⟨by omega, by omega⟩, i10_, f10_, by first | exact mm_aW_1 w10_0 (g2c.2 24 (by decide)) y2_0 (g2c.2 57 (by decide)) z5 (by omega) | exact mm_aW_0 w10_0 zr24 (g2c.2 24 (by decide)) y2_0 (g2c.2 57 (by decide)) z5 (by omega) (by omega) (by omega) (y30_1.resolve_right (fun z => by have z1 := z.1; omega)).2 (by omega)⟩⟩
      · skip
        refine mm_aload_n C (mm_dec dk_X3_arrange 11 rfl) rfl ?_
        refine mm_iload_n C (mm_dec dk_X3_arrange 12 rfl) rfl ?_
        refine mm_aload_n C (mm_dec dk_X3_arrange 13 rfl) rfl ?_
        refine mm_geti C fl_X3_21 (mm_dec dk_X3_arrange 14 rfl) rfl rfl (Or.inl rfl) ?_
        refine mm_iload C (mm_dec dk_X3_arrange 15 rfl) rfl ?_
        refine mm_isub C (mm_dec dk_X3_arrange 16 rfl) ⟨by omega, by omega⟩ ?_
        refine mm_iconst C (mm_dec dk_X3_arrange 17 rfl) ⟨by decide, by decide⟩ ?_
        refine mm_isub C (mm_dec dk_X3_arrange 18 rfl) ⟨by omega, by omega⟩ ?_
        refine mm_cVi (rest := []) C1 ev_X3_64 (mm_dec dk_X3_arrange 19 rfl) (c_X3_nextAfter_q x.2.1 hl (d - 1) (by omega) h10_ i10_ x10_3 (((h10_.1 54 5) - x10_4) - 1) ⟨by omega, by omega⟩ (by exact zlg)) rfl rfl (Nat.le_of_ble_eq_true rfl) ⟨by decide, by decide⟩ rfl (fun r30 h30c hp30 => ?_) (fun _ _ q => q.elim)
        obtain ⟨b30, z30, y30_0, y30_1⟩ := hp30
        rw [z30]
        refine mm_istoreL (ls2 := [mR 54, mU, mU, mI x10_3, mI x10_4, mI r30]) C (mm_dec dk_X3_arrange 20 rfl) (by decide) rfl ?_
        refine mm_iload C (mm_dec dk_X3_arrange 21 rfl) rfl ?_
        refine mm_iconst C (mm_dec dk_X3_arrange 22 rfl) ⟨by decide, by decide⟩ ?_
        refine mm_icmp_ne (tgt := 43) C (mm_dec dk_X3_arrange 23 rfl) (by decide) (fun c38 => ?_) (fun c38 => ?_)
        · skip
          refine mm_aload_n C (mm_dec dk_X3_arrange 26 rfl) rfl ?_
          refine mm_getr (t := 56) C fl_X3_15 (mm_dec dk_X3_arrange 27 rfl) rfl rfl (mm_ref i10_ rfl) ?_
          refine mm_iload C (mm_dec dk_X3_arrange 28 rfl) rfl ?_
          refine mm_aload_n C (mm_dec dk_X3_arrange 29 rfl) rfl ?_
          refine mm_getr (t := 55) C fl_X3_9 (mm_dec dk_X3_arrange 30 rfl) rfl rfl (mm_ref i10_ rfl) ?_
          refine mm_iload C (mm_dec dk_X3_arrange 31 rfl) rfl ?_
          refine mm_iald C (mm_dec dk_X3_arrange 32 rfl) rfl (by omega) (by omega) ?_
          have g8 : -1 ≤ (h10_.2.1 55 r30) ∧ (h10_.2.1 55 r30) ≤ 39 := i10_.2.1 55 r30
          refine mm_iast C (mm_dec dk_X3_arrange 33 rfl) rfl (by omega) (by omega) ?_
          have i2 : mm_inv (mm_pa h10_ 56 x10_4 (h10_.2.1 55 r30)) := mm_inv_pa i10_ (show 0 ≤ (h10_.2.1 55 r30) ∧ (h10_.2.1 55 r30) ≤ 39 from ⟨by omega, by omega⟩)
          have f2 : mm_fr [] [55, 56, 57] h (mm_pa h10_ 56 x10_4 (h10_.2.1 55 r30)) := mm_fr_pa f10_ (by decide)
          obtain ⟨h2, eh2⟩ : ∃ z, z = mm_pa h10_ 56 x10_4 (h10_.2.1 55 r30) := ⟨_, rfl⟩
          rw [← eh2] at i2 f2 ⊢
          have qh2_9 : h2.1 54 5 = h10_.1 54 5 := by rw [eh2]; rfl
          refine mm_aload_n C (mm_dec dk_X3_arrange 34 rfl) rfl ?_
          refine mm_getr (t := 55) C fl_X3_9 (mm_dec dk_X3_arrange 35 rfl) rfl rfl (mm_ref i2 rfl) ?_
          refine mm_iload C (mm_dec dk_X3_arrange 36 rfl) rfl ?_
          refine mm_iconst C (mm_dec dk_X3_arrange 37 rfl) ⟨by decide, by decide⟩ ?_
          refine mm_iast C (mm_dec dk_X3_arrange 38 rfl) rfl (by omega) (by omega) ?_
          have i3 : mm_inv (mm_pa h2 55 r30 (-1)) := mm_inv_pa i2 (show -1 ≤ (-1) ∧ (-1) ≤ 39 from ⟨by omega, by omega⟩)
          have f3 : mm_fr [] [55, 56, 57] h (mm_pa h2 55 r30 (-1)) := mm_fr_pa f2 (by decide)
          obtain ⟨h3, eh3⟩ : ∃ z, z = mm_pa h2 55 r30 (-1) := ⟨_, rfl⟩
          rw [← eh3] at i3 f3 ⊢
          have qh3_10 : h3.1 54 5 = h2.1 54 5 := by rw [eh3]; rfl
          refine mm_aload_n C (mm_dec dk_X3_arrange 39 rfl) rfl ?_
          refine mm_getr (t := 22) C fl_X3_25 (mm_dec dk_X3_arrange 40 rfl) rfl rfl (mm_ref i3 rfl) ?_
          refine mm_aload_n C (mm_dec dk_X3_arrange 41 rfl) rfl ?_
          refine mm_getr (t := 56) C fl_X3_15 (mm_dec dk_X3_arrange 42 rfl) rfl rfl (mm_ref i3 rfl) ?_
          refine mm_iload C (mm_dec dk_X3_arrange 43 rfl) rfl ?_
          refine mm_iald C (mm_dec dk_X3_arrange 44 rfl) rfl (by omega) (by omega) ?_
          have g11 : 0 ≤ (h3.2.1 56 x10_4) ∧ (h3.2.1 56 x10_4) ≤ 39 := i3.2.1 56 x10_4
          refine mm_cVi (rest := []) C1 ev_X3_57 (mm_dec dk_X3_arrange 45 rfl) (c_X9_clubOf x.2.1 hl (d - 1) (by omega) h3 i3 (h3.2.1 56 x10_4) ⟨by omega, by omega⟩) rfl rfl (Nat.le_of_ble_eq_true rfl) ⟨by decide, by decide⟩ rfl (fun r76 h76c hp76 => ?_) (fun _ _ q => q.elim)
          obtain ⟨z76, y76⟩ := hp76
          rw [z76, y76]
          have g13 : 0 ≤ (h3.2.1 24 (h3.2.1 56 x10_4)) ∧ (h3.2.1 24 (h3.2.1 56 x10_4)) ≤ 9 := i3.2.1 24 (h3.2.1 56 x10_4)
          refine mm_istore_nL (ls2 := [mR 54, mU, mU, mI (h3.2.1 24 (h3.2.1 56 x10_4)), mI x10_4, mI r30]) C (mm_dec dk_X3_arrange 46 rfl) (by decide) rfl ?_
          refine mm_aload_n C (mm_dec dk_X3_arrange 47 rfl) rfl ?_
          refine mm_getr (t := 57) C fl_X3_18 (mm_dec dk_X3_arrange 48 rfl) rfl rfl (mm_ref i3 rfl) ?_
          refine mm_iload_n C (mm_dec dk_X3_arrange 49 rfl) rfl ?_
          refine mm_dup2 C (mm_dec dk_X3_arrange 50 rfl) (show (0 : Nat) ≠ 1 by decide) (show (2 : Nat) ≠ 1 by decide) ?_
          refine mm_iald C (mm_dec dk_X3_arrange 51 rfl) rfl (by omega) (by omega) ?_
          have g14 : -2147483648 ≤ (h3.2.1 57 (h3.2.1 24 (h3.2.1 56 x10_4))) ∧ (h3.2.1 57 (h3.2.1 24 (h3.2.1 56 x10_4))) ≤ 2147483647 := i3.2.1 57 (h3.2.1 24 (h3.2.1 56 x10_4))
          refine mm_iconst C (mm_dec dk_X3_arrange 52 rfl) ⟨by decide, by decide⟩ ?_
          refine mm_isubw C (mm_dec dk_X3_arrange 53 rfl) ?_
          have g15 : -2147483648 ≤ (mm_w ((h3.2.1 57 (h3.2.1 24 (h3.2.1 56 x10_4))) - 1)) ∧ (mm_w ((h3.2.1 57 (h3.2.1 24 (h3.2.1 56 x10_4))) - 1)) < 2147483648 := mm_w_rg _
          refine mm_iast C (mm_dec dk_X3_arrange 54 rfl) rfl (by omega) (by omega) ?_
          have i4 : mm_inv (mm_pa h3 57 (h3.2.1 24 (h3.2.1 56 x10_4)) (mm_w ((h3.2.1 57 (h3.2.1 24 (h3.2.1 56 x10_4))) - 1))) := mm_inv_pa i3 (show -2147483648 ≤ (mm_w ((h3.2.1 57 (h3.2.1 24 (h3.2.1 56 x10_4))) - 1)) ∧ (mm_w ((h3.2.1 57 (h3.2.1 24 (h3.2.1 56 x10_4))) - 1)) ≤ 2147483647 from ⟨by omega, by omega⟩)
          have f4 : mm_fr [] [55, 56, 57] h (mm_pa h3 57 (h3.2.1 24 (h3.2.1 56 x10_4)) (mm_w ((h3.2.1 57 (h3.2.1 24 (h3.2.1 56 x10_4))) - 1))) := mm_fr_pa f3 (by decide)
          obtain ⟨h4, eh4⟩ : ∃ z, z = mm_pa h3 57 (h3.2.1 24 (h3.2.1 56 x10_4)) (mm_w ((h3.2.1 57 (h3.2.1 24 (h3.2.1 56 x10_4))) - 1)) := ⟨_, rfl⟩
          rw [← eh4] at i4 f4 ⊢
          have qh4_16 : h4.1 54 5 = h3.1 54 5 := by rw [eh4]; rfl
          refine mm_iincL (ls2 := [mR 54, mU, mU, mI (h3.2.1 24 (h3.2.1 56 x10_4)), mI (x10_4 + 1), mI r30]) C (mm_dec dk_X3_arrange 55 rfl) rfl (by decide) ⟨by omega, by omega⟩ rfl ?_
          refine mm_goto (tgt := 10) C (mm_dec dk_X3_arrange 56 rfl) (by decide) ?_
          refine mm_fgt 5 ?_
          exact ih10 (h3.2.1 24 (h3.2.1 56 x10_4)) ⟨by omega, by omega⟩ (x10_4 + 1) ⟨by omega, by omega⟩ h4 i4 f4 (by first | exact mm_ag_0 zN | exact mm_ag_s2 w10_0 zr24 (by omega) (y30_1.resolve_left (fun z => by have z1 := z.1; omega)).2 (by omega) (by omega) eh2 eh3 rfl (i3.2.1 24 _) zlg eh4 rfl) (by omega) (by omega)
        · skip
          refine mm_iconst C (mm_dec dk_X3_arrange 24 rfl) ⟨by decide, by decide⟩ ?_
          exact mm_zret C T (mm_dec dk_X3_arrange 25 rfl) (by decide : 0 ≤ 0) (by decide : 0 ≤ 0) (by omega) ⟨_, rfl, ⟨⟨by omega, by omega⟩, i10_, f10_, by first | exact mm_aW_1 w10_0 (g2c.2 24 (by decide)) y2_0 (g2c.2 57 (by decide)) z5 (by omega) | exact mm_aW_0 w10_0 zr24 (g2c.2 24 (by decide)) y2_0 (g2c.2 57 (by decide)) z5 (by omega) (by omega) (by omega) (y30_1.resolve_right (fun z => by have z1 := z.1; omega)).2 (by omega)⟩⟩
  refine mm_istoreL (ls2 := [mR 54, mL p1, mU, mI (-1), mI 0, mU]) C (mm_dec dk_X3_arrange 6 rfl) (by decide) rfl ?_
  refine mm_fgt 1 ?_
  exact J10 (((40 - 0) : Int) + 1).toNat (-1) ⟨by omega, by omega⟩ 0 ⟨by omega, by omega⟩ h2c i2c f2c (by first | exact mm_ag_0 zN | exact mm_ag_s2 w10_0 zr24 (by omega) (y30_1.resolve_left (fun z => by have z1 := z.1; omega)).2 (by omega) (by omega) eh2 eh3 rfl (i3.2.1 24 _) zlg eh4 rfl) (by omega) (by omega)
set_option maxRecDepth 100000 in
set_option maxHeartbeats 4000000 in
theorem c_X11_draw_q (l : Launch) (hl : l.stackTraces = false) (d : Nat) (hd : 9 ≤ d) (h : mH) (i0 : mm_inv h) (p1 : Int) (p2 : Int) (p4 : Int) : mm_Met l d yX11_draw cX11_draw 8 (some .int) [mR 0, mI p1, mL p2, mI p4] h (mm_pi fun r h2 => (-1 ≤ r ∧ r ≤ 40) ∧ mm_inv h2 ∧ mm_fr [(30, 6), (54, 5)] [31, 32, 33, 34, 35, 36, 55, 56, 57] h h2 ∧ (0 ≤ p1 ∧ p1 < h.1 14 8) ∧ ((r = -1 ∧ h2.1 30 6 = h.1 30 6) ∨ (0 ≤ r ∧ r ≤ 40 ∧ h2.1 30 6 = h.1 30 6 + r)) ∧ (0 ≤ h.2.1 44 1 → h.2.1 44 1 ≤ 99999 → mm_dx9 h h2 p1 p2 p4 r) ∧ mm_dx8 h h2 p4 r) (fun E h' => mm_xn h E h' ∧ (p1 < 0 ∨ h.1 14 8 ≤ p1)) 1 6 := by
  refine mm_ofW (ls := [mR 0, mI p1, mL p2, mU, mI p4, mU, mU, mU]) hl (by decide) rfl (Nat.le_of_ble_eq_true rfl) ?_
  intro x hxl C T hnm htb
  subst hxl
  have C1 := mm_OK_le (d' := d - 1 + 1) (by omega) C
  have C8 := mm_OK_le (d' := d - 8 + 8) (by omega) C
  refine mm_rng (fun hr _ => ?_)
  have ap1 : -2147483648 ≤ p1 ∧ p1 < 2147483648 := mm_ok_at hr (i := 1) rfl
  have ap2 : -9223372036854775808 ≤ p2 ∧ p2 < 9223372036854775808 := mm_ok_at hr (i := 2) rfl
  have ap4 : -2147483648 ≤ p4 ∧ p4 < 2147483648 := mm_ok_at hr (i := 4) rfl
  have f0 : mm_fr [(30, 6), (54, 5)] [31, 32, 33, 34, 35, 36, 55, 56, 57] h h := mm_fr_rf
  have g1 : 0 ≤ h.1 30 6 ∧ h.1 30 6 ≤ 500 := i0.1 30 6
  have g2 : 0 ≤ h.1 14 8 ∧ h.1 14 8 ≤ 8 := i0.1 14 8
  have g3 : 0 ≤ h.1 0 13 ∧ h.1 0 13 ≤ 99999 := i0.1 0 13
  have g4 : 0 ≤ h.1 54 5 ∧ h.1 54 5 ≤ 40 := i0.1 54 5
  refine mm_aload_n C (mm_dec dk_X11_draw 0 rfl) rfl ?_
  refine mm_iload_n C (mm_dec dk_X11_draw 1 rfl) rfl ?_
  refine mm_cVv (rest := []) C1 ev_X11_207 (mm_dec dk_X11_draw 2 rfl) (c_X11_needCourse_q x.2.1 hl (d - 1) (by omega) h i0 p1) rfl rfl (Nat.le_of_ble_eq_true rfl) ⟨by decide, by decide⟩ rfl (fun h2c hp2 => ?_) (fun E hx q => mm_out C T htb (by decide) (by decide) (by obtain ⟨q1, q2⟩ := q; exact ⟨q1, by omega⟩))
  obtain ⟨z2, k2_0, k2_1⟩ := hp2
  rw [z2]
  refine mm_iload C (mm_dec dk_X11_draw 3 rfl) rfl ?_
  refine mm_aload_n C (mm_dec dk_X11_draw 4 rfl) rfl ?_
  refine mm_geti C fl_X11_102 (mm_dec dk_X11_draw 5 rfl) rfl rfl (Or.inl rfl) ?_
  refine mm_ldcw (z := 99999) C (mm_dec dk_X11_draw 6 rfl) kc_X11_260 (by decide) ?_
  refine mm_cSi (rest := []) C1 es_X11_130 (mm_dec dk_X11_draw 7 rfl) (c_X11_within x.2.1 hl (d - 1) (by omega) h i0 p4 (h.1 0 13) 99999) rfl (Nat.le_of_ble_eq_true rfl) ⟨by decide, by decide⟩ rfl (fun r14 h14c hp14 => ?_) (fun _ _ q => q.elim)
  obtain ⟨z14, y14⟩ := hp14
  rw [z14]
  refine mm_if_ne (tgt := 22) C (mm_dec dk_X11_draw 8 rfl) (by decide) (fun c17 => ?_) (fun c17 => ?_)
  · skip
    refine mm_aload_n C (mm_dec dk_X11_draw 11 rfl) rfl ?_
    refine mm_getr (t := 54) C fl_X11_69 (mm_dec dk_X11_draw 12 rfl) rfl rfl (mm_ref i0 rfl) ?_
    refine mm_iload_n C (mm_dec dk_X11_draw 13 rfl) rfl ?_
    refine mm_aload_n C (mm_dec dk_X11_draw 14 rfl) rfl ?_
    refine mm_geti C fl_X11_102 (mm_dec dk_X11_draw 15 rfl) rfl rfl (Or.inl rfl) ?_
    refine mm_cVi (rest := []) C1 ev_X11_345 (mm_dec dk_X11_draw 16 rfl) (c_X3_gather_q x.2.1 hl (d - 1) (by omega) h i0 p1 (h.1 0 13) ⟨by omega, by omega⟩) rfl rfl (Nat.le_of_ble_eq_true rfl) ⟨by decide, by decide⟩ rfl (fun r31 h31c hp31 => ?_) (fun _ _ q => q.elim)
    obtain ⟨b31, i31c, g31c, y31_0, y31_1, y31_2⟩ := hp31
    have f31c : mm_fr [(30, 6), (54, 5)] [31, 32, 33, 34, 35, 36, 55, 56, 57] h h31c := mm_fr_tr f0 g31c (by decide +kernel)
    have q31c_8 : h31c.1 0 13 = h.1 0 13 := g31c.1 0 13 (by decide)
    have q31c_9 : h31c.1 14 8 = h.1 14 8 := g31c.1 14 8 (by decide)
    have q31c_10 : h31c.1 30 6 = h.1 30 6 := g31c.1 30 6 (by decide)
    have g11 : 0 ≤ (h31c.1 54 5) ∧ (h31c.1 54 5) ≤ 40 := i31c.1 54 5
    have zg9 : h31c.2.1 44 1 = h.2.1 44 1 := g31c.2 44 (by decide) 1
    have zG9 := y31_1
    have zn9 := mm_gh_rg _ _ zG9
    refine mm_istoreL (ls2 := [mR 0, mI p1, mL p2, mU, mI p4, mI r31, mU, mU]) C (mm_dec dk_X11_draw 17 rfl) (by decide) rfl ?_
    refine mm_aload_n C (mm_dec dk_X11_draw 18 rfl) rfl ?_
    refine mm_getr (t := 42) C fl_X11_51 (mm_dec dk_X11_draw 19 rfl) rfl rfl (mm_ref i31c rfl) ?_
    refine mm_iconst C (mm_dec dk_X11_draw 20 rfl) ⟨by decide, by decide⟩ ?_
    refine mm_cVi (rest := []) C1 ev_X11_333 (mm_dec dk_X11_draw 21 rfl) (c_X8_param x.2.1 hl (d - 1) (by omega) h31c i31c 1 ⟨by omega, by omega⟩) rfl rfl (Nat.le_of_ble_eq_true rfl) ⟨by decide, by decide⟩ rfl (fun r41 h41c hp41 => ?_) (fun _ _ q => q.elim)
    obtain ⟨z41, y41⟩ := hp41
    rw [z41, y41]
    have g13 : -2147483648 ≤ (h31c.2.1 44 1) ∧ (h31c.2.1 44 1) ≤ 2147483647 := i31c.2.1 44 1
    refine mm_istoreL (ls2 := [mR 0, mI p1, mL p2, mU, mI p4, mI r31, mI (h31c.2.1 44 1), mU]) C (mm_dec dk_X11_draw 22 rfl) (by decide) rfl ?_
    refine mm_iload C (mm_dec dk_X11_draw 23 rfl) rfl ?_
    refine mm_sipush C (mm_dec dk_X11_draw 24 rfl) ⟨by decide, by decide⟩ ?_
    refine mm_aload_n C (mm_dec dk_X11_draw 25 rfl) rfl ?_
    refine mm_getr (t := 30) C fl_X11_44 (mm_dec dk_X11_draw 26 rfl) rfl rfl (mm_ref i31c rfl) ?_
    refine mm_cVi (rest := [mI 500, mI r31]) C1 ev_X11_268 (mm_dec dk_X11_draw 27 rfl) (c_X6_events x.2.1 hl (d - 1) (by omega) h31c i31c ) rfl rfl (Nat.le_of_ble_eq_true rfl) ⟨by decide, by decide⟩ rfl (fun r55 h55c hp55 => ?_) (fun _ _ q => q.elim)
    obtain ⟨z55, y55⟩ := hp55
    rw [z55, y55]
    refine mm_isub C (mm_dec dk_X11_draw 28 rfl) ⟨by omega, by omega⟩ ?_
    have J78 : ∀ (w78_0 : (0 ≤ h.2.1 44 1 → h.2.1 44 1 ≤ 99999 → (500 < h.1 30 6 + h31c.1 54 5 ∨ 99999 < p4 + (h31c.1 54 5 - 1) * h.2.1 44 1))), mm_W x 1 6 78 [mU, mU, mU, mU, mU, mU, mU, mU] [] h31c := by
      intro w78_0
      refine mm_iconst C (mm_dec dk_X11_draw 39 rfl) ⟨by decide, by decide⟩ ?_
      exact mm_iret C T (mm_dec dk_X11_draw 40 rfl) (by decide : 1 ≤ 1) (by decide : 6 ≤ 6) ⟨_, rfl, ⟨⟨by omega, by omega⟩, i31c, f31c, by omega, by omega, by first | exact fun _ _ => mm_dx9_out (by omega) (fun _ _ _ => rfl) | exact fun a b => mm_dx9_no zG9 (by omega) (by omega) (w78_0 a b) (fun o w j => by rcases w with rfl | rfl | rfl | rfl <;> exact g31c.2 _ (by decide) j) | exact fun a b => mm_dx9_st zG9 y31_2 (g31c.2 24 (by decide)) zA9 (by omega) (by omega) (by omega) (by omega) (by rw [show h31c.1 54 5 = r31 by omega, ← mm_gap (n := r31) (g := h.2.1 44 1) (f := p4) ⟨by omega, by omega⟩ ⟨a, b⟩ ⟨by omega, by omega⟩, ← zg9]; omega) (fun o w j => by rcases w with rfl | rfl | rfl | rfl <;> exact (g85c.2 _ (by decide) j).trans (g31c.2 _ (by decide) j)) | exact fun a b => mm_dx9_ok zG9 y31_2 (g31c.2 24 (by decide)) zA9 (by omega) (by omega) (by omega) (by omega) (by omega) (by rw [← mm_gap (n := r31) (g := h.2.1 44 1) (f := p4) ⟨by omega, by omega⟩ ⟨a, b⟩ ⟨by omega, by omega⟩, ← zg9]; omega) (by omega) w96_4 w96_5 w96_6 w96_7, by first | exact mm_dx8_no (fun _ => rfl) (fun _ => rfl) | exact mm_dx8_no (fun j => g31c.2 33 (by decide) j) (fun j => g31c.2 34 (by decide) j) | exact mm_dx8_no (fun j => (g85c.2 33 (by decide) j).trans (g31c.2 33 (by decide) j)) (fun j => (g85c.2 34 (by decide) j).trans (g31c.2 34 (by decide) j)) | (rw [show r31 = x96_7 by omega]; exact ⟨w96_8, w96_9⟩)⟩⟩
    refine mm_icmp_gt (tgt := 78) C (mm_dec dk_X11_draw 29 rfl) (by decide) (fun c59 => ?_) (fun c59 => ?_)
    · skip
      refine mm_fgt 0 ?_
      refine mm_fgt 1 ?_
      refine mm_fgt 2 ?_
      refine mm_fgt 4 ?_
      refine mm_fgt 5 ?_
      refine mm_fgt 6 ?_
      exact J78 (by first | exact fun a b => Or.inl (by omega) | exact fun a b => Or.inr (by rw [show h31c.1 54 5 = r31 by omega, ← mm_gap (n := r31) (g := h.2.1 44 1) (f := p4) ⟨by omega, by omega⟩ ⟨a, b⟩ ⟨by omega, by omega⟩, ← zg9]; omega))
    · skip
      refine mm_iload C (mm_dec dk_X11_draw 30 rfl) rfl ?_
      refine mm_iload C (mm_dec dk_X11_draw 31 rfl) rfl ?_
      refine mm_iconst C (mm_dec dk_X11_draw 32 rfl) ⟨by decide, by decide⟩ ?_
      refine mm_isub C (mm_dec dk_X11_draw 33 rfl) ⟨by omega, by omega⟩ ?_
      refine mm_iload C (mm_dec dk_X11_draw 34 rfl) rfl ?_
      refine mm_imulw C (mm_dec dk_X11_draw 35 rfl) ?_
      have g15 : -2147483648 ≤ (mm_w ((r31 - 1) * (h31c.2.1 44 1))) ∧ (mm_w ((r31 - 1) * (h31c.2.1 44 1))) < 2147483648 := mm_w_rg _
      refine mm_iaddw C (mm_dec dk_X11_draw 36 rfl) ?_
      have g16 : -2147483648 ≤ (mm_w (p4 + (mm_w ((r31 - 1) * (h31c.2.1 44 1))))) ∧ (mm_w (p4 + (mm_w ((r31 - 1) * (h31c.2.1 44 1))))) < 2147483648 := mm_w_rg _
      refine mm_ldcw (z := 99999) C (mm_dec dk_X11_draw 37 rfl) kc_X11_260 (by decide) ?_
      refine mm_icmp_le (tgt := 80) C (mm_dec dk_X11_draw 38 rfl) (by decide) (fun c75 => ?_) (fun c75 => ?_)
      · skip
        refine mm_aload_n C (mm_dec dk_X11_draw 41 rfl) rfl ?_
        refine mm_getr (t := 54) C fl_X11_69 (mm_dec dk_X11_draw 42 rfl) rfl rfl (mm_ref i31c rfl) ?_
        refine mm_lload_n C (mm_dec dk_X11_draw 43 rfl) rfl ?_
        refine mm_cVi (rest := []) C1 ev_X11_348 (mm_dec dk_X11_draw 44 rfl) (c_X3_arrange_q x.2.1 hl (d - 1) (by omega) h31c i31c p2 (by first | exact fun k a b => ((zn9.2.2 k a b).1) | exact fun c a b => (by rw [y31_2 c a b]; have z := mm_lk_rg (h.2.1 24) (h31c.2.1 55) (h31c.1 54 5).toNat c; omega)) (by first | exact fun k a b => ((zn9.2.2 k a b).1) | exact fun c a b => (by rw [y31_2 c a b]; have z := mm_lk_rg (h.2.1 24) (h31c.2.1 55) (h31c.1 54 5).toNat c; omega))) rfl rfl (Nat.le_of_ble_eq_true rfl) ⟨by decide, by decide⟩ rfl (fun r85 h85c hp85 => ?_) (fun _ _ q => q.elim)
        obtain ⟨b85, i85c, g85c, y85_0⟩ := hp85
        have f85c : mm_fr [(30, 6), (54, 5)] [31, 32, 33, 34, 35, 36, 55, 56, 57] h h85c := mm_fr_tr f31c g85c (by decide +kernel)
        have q85c_18 : h85c.1 0 13 = h31c.1 0 13 := g85c.1 0 13 (by decide)
        have q85c_19 : h85c.1 14 8 = h31c.1 14 8 := g85c.1 14 8 (by decide)
        have q85c_20 : h85c.1 30 6 = h31c.1 30 6 := g85c.1 30 6 (by decide)
        have q85c_21 : h85c.1 54 5 = h31c.1 54 5 := g85c.1 54 5 (by decide)
        have zA9 := y85_0
        refine mm_if_ne (tgt := 93) C (mm_dec dk_X11_draw 45 rfl) (by decide) (fun c88 => ?_) (fun c88 => ?_)
        · skip
          refine mm_iconst C (mm_dec dk_X11_draw 48 rfl) ⟨by decide, by decide⟩ ?_
          have J96 : ∀ (n : Nat) (x96_7 : Int) (bx96_7 : 0 ≤ x96_7 ∧ x96_7 ≤ 40) (h96_ : mH) (i96_ : mm_inv h96_) (f96_ : mm_fr [(30, 6), (54, 5)] [31, 32, 33, 34, 35, 36, 55, 56, 57] h h96_) (w96_0 : h96_.1 30 6 + r31 - x96_7 ≤ 500) (w96_1 : h96_.1 30 6 = h.1 30 6 + x96_7) (w96_2 : x96_7 ≤ r31) (w96_3 : ∀ j, h96_.2.1 56 j = h85c.2.1 56 j) (w96_4 : mm_tp h h96_ 31 (h.1 30 6) (h.1 30 6 + x96_7) (fun _ => 0)) (w96_5 : mm_tp h h96_ 32 (h.1 30 6) (h.1 30 6 + x96_7) (fun j => h85c.2.1 56 (j - h.1 30 6))) (w96_6 : mm_tp h h96_ 35 (h.1 30 6) (h.1 30 6 + x96_7) (fun _ => h.1 0 13)) (w96_7 : mm_tp h h96_ 36 (h.1 30 6) (h.1 30 6 + x96_7) (fun _ => -1)) (w96_8 : mm_tp h h96_ 33 (h.1 30 6) (h.1 30 6 + x96_7) (fun _ => -1)) (w96_9 : mm_tp h h96_ 34 (h.1 30 6) (h.1 30 6 + x96_7) (fun j => mm_w (p4 + mm_w ((j - h.1 30 6) * h.2.1 44 1)))), (40 - x96_7 : Int) < n → mm_W x 1 6 96 [mR 0, mU, mU, mU, mI p4, mI r31, mI (h31c.2.1 44 1), mI x96_7] [] h96_ := by
            intro n
            induction n with
            | zero =>
              intro x96_7 bx96_7 h96_ i96_ f96_ w96_0 w96_1 w96_2 w96_3 w96_4 w96_5 w96_6 w96_7 w96_8 w96_9 hm
              have g22 : 0 ≤ h96_.1 30 6 ∧ h96_.1 30 6 ≤ 500 := i96_.1 30 6
              have g23 : 0 ≤ h96_.1 14 8 ∧ h96_.1 14 8 ≤ 8 := i96_.1 14 8
              have g24 : 0 ≤ h96_.1 0 13 ∧ h96_.1 0 13 ≤ 99999 := i96_.1 0 13
              have g25 : 0 ≤ h96_.1 54 5 ∧ h96_.1 54 5 ≤ 40 := i96_.1 54 5
              exfalso; omega
            | succ n ih96 =>
              intro x96_7 bx96_7 h96_ i96_ f96_ w96_0 w96_1 w96_2 w96_3 w96_4 w96_5 w96_6 w96_7 w96_8 w96_9 hm96
              have g26 : 0 ≤ h96_.1 30 6 ∧ h96_.1 30 6 ≤ 500 := i96_.1 30 6
              have g27 : 0 ≤ h96_.1 14 8 ∧ h96_.1 14 8 ≤ 8 := i96_.1 14 8
              have g28 : 0 ≤ h96_.1 0 13 ∧ h96_.1 0 13 ≤ 99999 := i96_.1 0 13
              have g29 : 0 ≤ h96_.1 54 5 ∧ h96_.1 54 5 ≤ 40 := i96_.1 54 5
              have g30 : h96_.1 14 8 = h.1 14 8 := f96_.1 14 8 (by decide)
              have g31 : h96_.1 0 13 = h.1 0 13 := f96_.1 0 13 (by decide)
              have z13 : h96_.1 0 13 = h.1 0 13 := f96_.1 0 13 (by decide)
              refine mm_iload C (mm_dec dk_X11_draw 50 rfl) rfl ?_
              refine mm_iload C (mm_dec dk_X11_draw 51 rfl) rfl ?_
              refine mm_icmp_ge (tgt := 140) C (mm_dec dk_X11_draw 52 rfl) (by decide) (fun c100 => ?_) (fun c100 => ?_)
              · skip
                refine mm_iload C (mm_dec dk_X11_draw 72 rfl) rfl ?_
                exact mm_iret C T (mm_dec dk_X11_draw 73 rfl) (by decide : 1 ≤ 1) (by decide : 6 ≤ 6) ⟨_, rfl, ⟨⟨by omega, by omega⟩, i96_, f96_, by omega, by omega, by first | exact fun _ _ => mm_dx9_out (by omega) (fun _ _ _ => rfl) | exact fun a b => mm_dx9_no zG9 (by omega) (by omega) (w78_0 a b) (fun o w j => by rcases w with rfl | rfl | rfl | rfl <;> exact g31c.2 _ (by decide) j) | exact fun a b => mm_dx9_st zG9 y31_2 (g31c.2 24 (by decide)) zA9 (by omega) (by omega) (by omega) (by omega) (by rw [show h31c.1 54 5 = r31 by omega, ← mm_gap (n := r31) (g := h.2.1 44 1) (f := p4) ⟨by omega, by omega⟩ ⟨a, b⟩ ⟨by omega, by omega⟩, ← zg9]; omega) (fun o w j => by rcases w with rfl | rfl | rfl | rfl <;> exact (g85c.2 _ (by decide) j).trans (g31c.2 _ (by decide) j)) | exact fun a b => mm_dx9_ok zG9 y31_2 (g31c.2 24 (by decide)) zA9 (by omega) (by omega) (by omega) (by omega) (by omega) (by rw [← mm_gap (n := r31) (g := h.2.1 44 1) (f := p4) ⟨by omega, by omega⟩ ⟨a, b⟩ ⟨by omega, by omega⟩, ← zg9]; omega) (by omega) w96_4 w96_5 w96_6 w96_7, by first | exact mm_dx8_no (fun _ => rfl) (fun _ => rfl) | exact mm_dx8_no (fun j => g31c.2 33 (by decide) j) (fun j => g31c.2 34 (by decide) j) | exact mm_dx8_no (fun j => (g85c.2 33 (by decide) j).trans (g31c.2 33 (by decide) j)) (fun j => (g85c.2 34 (by decide) j).trans (g31c.2 34 (by decide) j)) | (rw [show r31 = x96_7 by omega]; exact ⟨w96_8, w96_9⟩)⟩⟩
              · skip
                refine mm_aload_n C (mm_dec dk_X11_draw 53 rfl) rfl ?_
                refine mm_getr (t := 30) C fl_X11_44 (mm_dec dk_X11_draw 54 rfl) rfl rfl (mm_ref i96_ rfl) ?_
                refine mm_iconst C (mm_dec dk_X11_draw 55 rfl) ⟨by decide, by decide⟩ ?_
                refine mm_aload_n C (mm_dec dk_X11_draw 56 rfl) rfl ?_
                refine mm_getr (t := 54) C fl_X11_69 (mm_dec dk_X11_draw 57 rfl) rfl rfl (mm_ref i96_ rfl) ?_
                refine mm_iload C (mm_dec dk_X11_draw 58 rfl) rfl ?_
                refine mm_cVi (rest := [mI 0, mR 30]) C1 ev_X11_352 (mm_dec dk_X11_draw 59 rfl) (c_X3_drawn x.2.1 hl (d - 1) (by omega) h96_ i96_ x96_7 ⟨by omega, by omega⟩) rfl rfl (Nat.le_of_ble_eq_true rfl) ⟨by decide, by decide⟩ rfl (fun r114 h114c hp114 => ?_) (fun _ _ q => q.elim)
                obtain ⟨z114, y114⟩ := hp114
                rw [z114, y114]
                have g33 : 0 ≤ (h96_.2.1 56 x96_7) ∧ (h96_.2.1 56 x96_7) ≤ 39 := i96_.2.1 56 x96_7
                refine mm_iconst C (mm_dec dk_X11_draw 60 rfl) ⟨by decide, by decide⟩ ?_
                refine mm_iload C (mm_dec dk_X11_draw 61 rfl) rfl ?_
                refine mm_iload C (mm_dec dk_X11_draw 62 rfl) rfl ?_
                refine mm_iload C (mm_dec dk_X11_draw 63 rfl) rfl ?_
                refine mm_imulw C (mm_dec dk_X11_draw 64 rfl) ?_
                have g34 : -2147483648 ≤ (mm_w (x96_7 * (h31c.2.1 44 1))) ∧ (mm_w (x96_7 * (h31c.2.1 44 1))) < 2147483648 := mm_w_rg _
                refine mm_iaddw C (mm_dec dk_X11_draw 65 rfl) ?_
                have g35 : -2147483648 ≤ (mm_w (p4 + (mm_w (x96_7 * (h31c.2.1 44 1))))) ∧ (mm_w (p4 + (mm_w (x96_7 * (h31c.2.1 44 1))))) < 2147483648 := mm_w_rg _
                refine mm_aload_n C (mm_dec dk_X11_draw 66 rfl) rfl ?_
                refine mm_geti C fl_X11_102 (mm_dec dk_X11_draw 67 rfl) rfl rfl (Or.inl rfl) ?_
                refine mm_cVi (rest := []) C1 ev_X11_271 (mm_dec dk_X11_draw 68 rfl) (c_X6_tell_q x.2.1 hl (d - 1) (by omega) h96_ i96_ 0 (h96_.2.1 56 x96_7) (-1) (mm_w (p4 + (mm_w (x96_7 * (h31c.2.1 44 1))))) (h96_.1 0 13) ⟨by omega, by omega⟩ (by omega)) rfl rfl (Nat.le_of_ble_eq_true rfl) ⟨by decide, by decide⟩ rfl (fun r130 h130c hp130 => ?_) (fun _ _ q => q.elim)
                obtain ⟨b130, i130c, g130c, y130_0, y130_1, y130_2, y130_3, y130_4, y130_5, y130_6, y130_7⟩ := hp130
                have f130c : mm_fr [(30, 6), (54, 5)] [31, 32, 33, 34, 35, 36, 55, 56, 57] h h130c := mm_fr_tr f96_ g130c (by decide +kernel)
                have q130c_37 : h130c.1 0 13 = h96_.1 0 13 := g130c.1 0 13 (by decide)
                have q130c_38 : h130c.1 14 8 = h96_.1 14 8 := g130c.1 14 8 (by decide)
                have q130c_39 : h130c.1 54 5 = h96_.1 54 5 := g130c.1 54 5 (by decide)
                have g40 : 0 ≤ (h130c.1 30 6) ∧ (h130c.1 30 6) ≤ 500 := i130c.1 30 6
                refine mm_pop C (mm_dec dk_X11_draw 69 rfl) (show (0 : Nat) ≠ 1 by decide) ?_
                refine mm_iincL (ls2 := [mR 0, mU, mU, mU, mI p4, mI r31, mI (h31c.2.1 44 1), mI (x96_7 + 1)]) C (mm_dec dk_X11_draw 70 rfl) rfl (by decide) ⟨by omega, by omega⟩ rfl ?_
                refine mm_goto (tgt := 96) C (mm_dec dk_X11_draw 71 rfl) (by decide) ?_
                exact ih96 (x96_7 + 1) ⟨by omega, by omega⟩ h130c i130c f130c (by omega) (by omega) (by omega) (by first | exact fun _ => rfl | exact fun j => (g130c.2 56 (by decide) j).trans (w96_3 j)) (by first | exact mm_tp_0 (fun _ => ((g85c.2 31 (by decide) _).trans (g31c.2 31 (by decide) _))) (by omega) | exact mm_tp_u w96_4 y130_2 (by omega) (by omega) rfl (by omega)) (by first | exact mm_tp_0 (fun _ => ((g85c.2 32 (by decide) _).trans (g31c.2 32 (by decide) _))) (by omega) | exact mm_tp_u w96_5 y130_3 (by omega) (by omega) (by show _ = h85c.2.1 56 (h.1 30 6 + x96_7 - h.1 30 6); rw [show h.1 30 6 + x96_7 - h.1 30 6 = x96_7 by omega]; exact w96_3 _) (by omega)) (by first | exact mm_tp_0 (fun _ => ((g85c.2 35 (by decide) _).trans (g31c.2 35 (by decide) _))) (by omega) | exact mm_tp_u w96_6 y130_4 (by omega) (by omega) z13 (by omega)) (by first | exact mm_tp_0 (fun _ => ((g85c.2 36 (by decide) _).trans (g31c.2 36 (by decide) _))) (by omega) | exact mm_tp_u w96_7 y130_5 (by omega) (by omega) rfl (by omega)) (by first | exact mm_tp_0 (fun _ => ((g85c.2 33 (by decide) _).trans (g31c.2 33 (by decide) _))) (by omega) | exact mm_tp_u w96_8 y130_6 (by omega) (by omega) rfl (by omega)) (by first | exact mm_tp_0 (fun _ => ((g85c.2 34 (by decide) _).trans (g31c.2 34 (by decide) _))) (by omega) | exact mm_tp_u w96_9 y130_7 (by omega) (by omega) (by show _ = mm_w (p4 + mm_w ((h.1 30 6 + x96_7 - h.1 30 6) * h.2.1 44 1)); rw [show h.1 30 6 + x96_7 - h.1 30 6 = x96_7 by omega, zg9]) (by omega)) (by omega)
          refine mm_istoreL (ls2 := [mR 0, mI p1, mL p2, mU, mI p4, mI r31, mI (h31c.2.1 44 1), mI 0]) C (mm_dec dk_X11_draw 49 rfl) (by decide) rfl ?_
          refine mm_fgt 1 ?_
          refine mm_fgt 2 ?_
          exact J96 (((40 - 0) : Int) + 1).toNat 0 ⟨by omega, by omega⟩ h85c i85c f85c (by omega) (by omega) (by omega) (by first | exact fun _ => rfl | exact fun j => (g130c.2 56 (by decide) j).trans (w96_3 j)) (by first | exact mm_tp_0 (fun _ => ((g85c.2 31 (by decide) _).trans (g31c.2 31 (by decide) _))) (by omega) | exact mm_tp_u w96_4 y130_2 (by omega) (by omega) rfl (by omega)) (by first | exact mm_tp_0 (fun _ => ((g85c.2 32 (by decide) _).trans (g31c.2 32 (by decide) _))) (by omega) | exact mm_tp_u w96_5 y130_3 (by omega) (by omega) (by show _ = h85c.2.1 56 (h.1 30 6 + x96_7 - h.1 30 6); rw [show h.1 30 6 + x96_7 - h.1 30 6 = x96_7 by omega]; exact w96_3 _) (by omega)) (by first | exact mm_tp_0 (fun _ => ((g85c.2 35 (by decide) _).trans (g31c.2 35 (by decide) _))) (by omega) | exact mm_tp_u w96_6 y130_4 (by omega) (by omega) z13 (by omega)) (by first | exact mm_tp_0 (fun _ => ((g85c.2 36 (by decide) _).trans (g31c.2 36 (by decide) _))) (by omega) | exact mm_tp_u w96_7 y130_5 (by omega) (by omega) rfl (by omega)) (by first | exact mm_tp_0 (fun _ => ((g85c.2 33 (by decide) _).trans (g31c.2 33 (by decide) _))) (by omega) | exact mm_tp_u w96_8 y130_6 (by omega) (by omega) rfl (by omega)) (by first | exact mm_tp_0 (fun _ => ((g85c.2 34 (by decide) _).trans (g31c.2 34 (by decide) _))) (by omega) | exact mm_tp_u w96_9 y130_7 (by omega) (by omega) (by show _ = mm_w (p4 + mm_w ((h.1 30 6 + x96_7 - h.1 30 6) * h.2.1 44 1)); rw [show h.1 30 6 + x96_7 - h.1 30 6 = x96_7 by omega, zg9]) (by omega)) (by omega)
        · skip
          refine mm_iconst C (mm_dec dk_X11_draw 46 rfl) ⟨by decide, by decide⟩ ?_
          exact mm_iret C T (mm_dec dk_X11_draw 47 rfl) (by decide : 1 ≤ 1) (by decide : 6 ≤ 6) ⟨_, rfl, ⟨⟨by omega, by omega⟩, i85c, f85c, by omega, by omega, by first | exact fun _ _ => mm_dx9_out (by omega) (fun _ _ _ => rfl) | exact fun a b => mm_dx9_no zG9 (by omega) (by omega) (w78_0 a b) (fun o w j => by rcases w with rfl | rfl | rfl | rfl <;> exact g31c.2 _ (by decide) j) | exact fun a b => mm_dx9_st zG9 y31_2 (g31c.2 24 (by decide)) zA9 (by omega) (by omega) (by omega) (by omega) (by rw [show h31c.1 54 5 = r31 by omega, ← mm_gap (n := r31) (g := h.2.1 44 1) (f := p4) ⟨by omega, by omega⟩ ⟨a, b⟩ ⟨by omega, by omega⟩, ← zg9]; omega) (fun o w j => by rcases w with rfl | rfl | rfl | rfl <;> exact (g85c.2 _ (by decide) j).trans (g31c.2 _ (by decide) j)) | exact fun a b => mm_dx9_ok zG9 y31_2 (g31c.2 24 (by decide)) zA9 (by omega) (by omega) (by omega) (by omega) (by omega) (by rw [← mm_gap (n := r31) (g := h.2.1 44 1) (f := p4) ⟨by omega, by omega⟩ ⟨a, b⟩ ⟨by omega, by omega⟩, ← zg9]; omega) (by omega) w96_4 w96_5 w96_6 w96_7, by first | exact mm_dx8_no (fun _ => rfl) (fun _ => rfl) | exact mm_dx8_no (fun j => g31c.2 33 (by decide) j) (fun j => g31c.2 34 (by decide) j) | exact mm_dx8_no (fun j => (g85c.2 33 (by decide) j).trans (g31c.2 33 (by decide) j)) (fun j => (g85c.2 34 (by decide) j).trans (g31c.2 34 (by decide) j)) | (rw [show r31 = x96_7 by omega]; exact ⟨w96_8, w96_9⟩)⟩⟩
      · skip
        refine mm_fgt 0 ?_
        refine mm_fgt 1 ?_
        refine mm_fgt 2 ?_
        refine mm_fgt 4 ?_
        refine mm_fgt 5 ?_
        refine mm_fgt 6 ?_
        exact J78 (by first | exact fun a b => Or.inl (by omega) | exact fun a b => Or.inr (by rw [show h31c.1 54 5 = r31 by omega, ← mm_gap (n := r31) (g := h.2.1 44 1) (f := p4) ⟨by omega, by omega⟩ ⟨a, b⟩ ⟨by omega, by omega⟩, ← zg9]; omega))
  · skip
    refine mm_iconst C (mm_dec dk_X11_draw 9 rfl) ⟨by decide, by decide⟩ ?_
    exact mm_iret C T (mm_dec dk_X11_draw 10 rfl) (by decide : 1 ≤ 1) (by decide : 6 ≤ 6) ⟨_, rfl, ⟨⟨by omega, by omega⟩, i0, f0, by omega, by omega, by first | exact fun _ _ => mm_dx9_out (by omega) (fun _ _ _ => rfl) | exact fun a b => mm_dx9_no zG9 (by omega) (by omega) (w78_0 a b) (fun o w j => by rcases w with rfl | rfl | rfl | rfl <;> exact g31c.2 _ (by decide) j) | exact fun a b => mm_dx9_st zG9 y31_2 (g31c.2 24 (by decide)) zA9 (by omega) (by omega) (by omega) (by omega) (by rw [show h31c.1 54 5 = r31 by omega, ← mm_gap (n := r31) (g := h.2.1 44 1) (f := p4) ⟨by omega, by omega⟩ ⟨a, b⟩ ⟨by omega, by omega⟩, ← zg9]; omega) (fun o w j => by rcases w with rfl | rfl | rfl | rfl <;> exact (g85c.2 _ (by decide) j).trans (g31c.2 _ (by decide) j)) | exact fun a b => mm_dx9_ok zG9 y31_2 (g31c.2 24 (by decide)) zA9 (by omega) (by omega) (by omega) (by omega) (by omega) (by rw [← mm_gap (n := r31) (g := h.2.1 44 1) (f := p4) ⟨by omega, by omega⟩ ⟨a, b⟩ ⟨by omega, by omega⟩, ← zg9]; omega) (by omega) w96_4 w96_5 w96_6 w96_7, by first | exact mm_dx8_no (fun _ => rfl) (fun _ => rfl) | exact mm_dx8_no (fun j => g31c.2 33 (by decide) j) (fun j => g31c.2 34 (by decide) j) | exact mm_dx8_no (fun j => (g85c.2 33 (by decide) j).trans (g31c.2 33 (by decide) j)) (fun j => (g85c.2 34 (by decide) j).trans (g31c.2 34 (by decide) j)) | (rw [show r31 = x96_7 by omega]; exact ⟨w96_8, w96_9⟩)⟩⟩
