set_option maxRecDepth 100000 in
set_option maxHeartbeats 4000000 in
theorem c_X12_drops_q (l : Launch) (hl : l.stackTraces = false) (d : Nat) (hd : 1 ≤ d) (h : mH) (i0 : mm_inv h) (p1 : Int) (t0 : h.1 66 69 + h.1 66 70 ≤ 2400) (t1 : h.1 66 70 ≤ 519) : mm_Met l d yX12_drops cX12_drops 2 none [mR 66, mI p1] h (mm_pv fun h2 => mm_inv h2 ∧ mm_fr [(66, 69), (66, 70)] [107] h h2 ∧ mm_dr h h2 ∧ (0 < p1 ∨ h2.1 66 70 = 0 ∨ h2.2.1 108 (h2.1 66 70 - 1) = 13) ∧ mm_DJ p1 h h2) mm_nx 0 0 := by
  refine mm_ofW (ls := [mR 66, mI p1]) hl (by decide) rfl (Nat.le_of_ble_eq_true rfl) ?_
  intro x hxl C T hnm htb
  subst hxl
  have C1 := mm_OK_le (d' := d - 1 + 1) (by omega) C
  refine mm_rng (fun hr _ => ?_)
  have ap1 : -2147483648 ≤ p1 ∧ p1 < 2147483648 := mm_ok_at hr (i := 1) rfl
  have f0 : mm_fr [(66, 69), (66, 70)] [107] h h := mm_fr_rf
  have g1 : 0 ≤ h.1 66 69 ∧ h.1 66 69 ≤ 2400 := i0.1 66 69
  have g2 : 0 ≤ h.1 66 70 ∧ h.1 66 70 ≤ 520 := i0.1 66 70
  have g3 : 0 ≤ h.1 66 62 ∧ h.1 66 62 ≤ 500 := i0.1 66 62
  have g4 : -2147483648 ≤ h.1 66 57 ∧ h.1 66 57 ≤ 2147483647 := i0.1 66 57
  have J0 : ∀ (n : Nat) (h0_ : mH) (i0_ : mm_inv h0_) (f0_ : mm_fr [(66, 69), (66, 70)] [107] h h0_) (w0_0 : mm_dr h h0_) (w0_1 : h0_.1 66 70 ≤ 519) (w0_2 : mm_dJ p1 h h0_), (h0_.1 66 70 : Int) < n → mm_W x 0 0 0 [mR 66, mI p1] [] h0_ := by
    intro n
    induction n with
    | zero =>
      intro h0_ i0_ f0_ w0_0 w0_1 w0_2 hm
      have g5 : 0 ≤ h0_.1 66 69 ∧ h0_.1 66 69 ≤ 2400 := i0_.1 66 69
      have g6 : 0 ≤ h0_.1 66 70 ∧ h0_.1 66 70 ≤ 520 := i0_.1 66 70
      have g7 : 0 ≤ h0_.1 66 62 ∧ h0_.1 66 62 ≤ 500 := i0_.1 66 62
      have g8 : -2147483648 ≤ h0_.1 66 57 ∧ h0_.1 66 57 ≤ 2147483647 := i0_.1 66 57
      exfalso; omega
    | succ n ih0 =>
      intro h0_ i0_ f0_ w0_0 w0_1 w0_2 hm0
      have g9 : 0 ≤ h0_.1 66 69 ∧ h0_.1 66 69 ≤ 2400 := i0_.1 66 69
      have g10 : 0 ≤ h0_.1 66 70 ∧ h0_.1 66 70 ≤ 520 := i0_.1 66 70
      have g11 : 0 ≤ h0_.1 66 62 ∧ h0_.1 66 62 ≤ 500 := i0_.1 66 62
      have g12 : -2147483648 ≤ h0_.1 66 57 ∧ h0_.1 66 57 ≤ 2147483647 := i0_.1 66 57
      have g13 : h0_.1 66 62 = h.1 66 62 := f0_.1 66 62 (by decide)
      have g14 : h0_.1 66 57 = h.1 66 57 := f0_.1 66 57 (by decide)
      refine mm_aload_n C (mm_dec dk_X12_drops 0 rfl) rfl ?_
      refine mm_geti C fl_X12_404 (mm_dec dk_X12_drops 1 rfl) rfl rfl (Or.inl rfl) ?_
      have J67 : ∀ (w67_0 : mm_dr h h0_) (w67_1 : (0 < p1 ∨ h0_.1 66 70 = 0 ∨ h0_.2.1 108 (h0_.1 66 70 - 1) = 13)) (w67_2 : mm_DJ p1 h h0_), mm_W x 0 0 67 [mU, mU] [] h0_ := by
        intro w67_0 w67_1 w67_2
        have g15 : 0 ≤ h0_.1 66 69 ∧ h0_.1 66 69 ≤ 2400 := i0_.1 66 69
        have g16 : 0 ≤ h0_.1 66 70 ∧ h0_.1 66 70 ≤ 520 := i0_.1 66 70
        have g17 : 0 ≤ h0_.1 66 62 ∧ h0_.1 66 62 ≤ 500 := i0_.1 66 62
        have g18 : -2147483648 ≤ h0_.1 66 57 ∧ h0_.1 66 57 ≤ 2147483647 := i0_.1 66 57
        exact mm_vret C T (mm_dec dk_X12_drops 36 rfl) (by decide : 0 ≤ 0) (by decide : 0 ≤ 0) ⟨rfl, ⟨i0_, f0_, by exact w67_0, by exact w67_1, by exact w67_2⟩⟩
      refine mm_if_le (tgt := 67) C (mm_dec dk_X12_drops 2 rfl) (by decide) (fun c4 => ?_) (fun c4 => ?_)
      · skip
        refine mm_fgt 0 ?_
        refine mm_fgt 1 ?_
        exact J67 (by exact w0_0) (by omega) (by exact mm_DJ_of w0_2 (by first | omega | (have zs9 := y34_0; omega)))
      · skip
        have zs := w0_0.2.1
        refine mm_aload_n C (mm_dec dk_X12_drops 3 rfl) rfl ?_
        refine mm_getr (t := 108) C fl_X12_135 (mm_dec dk_X12_drops 4 rfl) rfl rfl (mm_ref i0_ rfl) ?_
        refine mm_aload_n C (mm_dec dk_X12_drops 5 rfl) rfl ?_
        refine mm_geti C fl_X12_404 (mm_dec dk_X12_drops 6 rfl) rfl rfl (Or.inl rfl) ?_
        refine mm_iconst C (mm_dec dk_X12_drops 7 rfl) ⟨by decide, by decide⟩ ?_
        refine mm_isub C (mm_dec dk_X12_drops 8 rfl) ⟨by omega, by omega⟩ ?_
        refine mm_iald C (mm_dec dk_X12_drops 9 rfl) rfl (by omega) (by omega) ?_
        have g19 : -2147483648 ≤ (h0_.2.1 108 ((h0_.1 66 70) - 1)) ∧ (h0_.2.1 108 ((h0_.1 66 70) - 1)) ≤ 2147483647 := i0_.2.1 108 ((h0_.1 66 70) - 1)
        refine mm_bipush C (mm_dec dk_X12_drops 10 rfl) ⟨by decide, by decide⟩ ?_
        refine mm_icmp_eq (tgt := 67) C (mm_dec dk_X12_drops 11 rfl) (by decide) (fun c20 => ?_) (fun c20 => ?_)
        · skip
          refine mm_fgt 0 ?_
          refine mm_fgt 1 ?_
          exact J67 (by exact w0_0) (by omega) (by exact mm_DJ_of w0_2 (by first | omega | (have zs9 := y34_0; omega)))
        · skip
          refine mm_aload_n C (mm_dec dk_X12_drops 12 rfl) rfl ?_
          refine mm_getr (t := 108) C fl_X12_135 (mm_dec dk_X12_drops 13 rfl) rfl rfl (mm_ref i0_ rfl) ?_
          refine mm_aload_n C (mm_dec dk_X12_drops 14 rfl) rfl ?_
          refine mm_geti C fl_X12_404 (mm_dec dk_X12_drops 15 rfl) rfl rfl (Or.inl rfl) ?_
          refine mm_iconst C (mm_dec dk_X12_drops 16 rfl) ⟨by decide, by decide⟩ ?_
          refine mm_isub C (mm_dec dk_X12_drops 17 rfl) ⟨by omega, by omega⟩ ?_
          refine mm_iald C (mm_dec dk_X12_drops 18 rfl) rfl (by omega) (by omega) ?_
          refine mm_cSi (rest := []) C1 es_X12_407 (mm_dec dk_X12_drops 19 rfl) (c_X12_strength_q x.2.1 hl (d - 1) (by omega) h0_ i0_ (h0_.2.1 108 ((h0_.1 66 70) - 1))) rfl (Nat.le_of_ble_eq_true rfl) ⟨by decide, by decide⟩ rfl (fun r34 h34c hp34 => ?_) (fun _ _ q => q.elim)
          obtain ⟨b34, z34, y34_0⟩ := hp34
          rw [z34]
          refine mm_iload_n C (mm_dec dk_X12_drops 20 rfl) rfl ?_
          refine mm_icmp_lt (tgt := 67) C (mm_dec dk_X12_drops 21 rfl) (by decide) (fun c38 => ?_) (fun c38 => ?_)
          · skip
            refine mm_fgt 0 ?_
            refine mm_fgt 1 ?_
            exact J67 (by exact w0_0) (by omega) (by exact mm_DJ_of w0_2 (by first | omega | (have zs9 := y34_0; omega)))
          · skip
            refine mm_aload_n C (mm_dec dk_X12_drops 22 rfl) rfl ?_
            refine mm_dup C (mm_dec dk_X12_drops 23 rfl) (show (2 : Nat) ≠ 1 by decide) ?_
            refine mm_geti C fl_X12_404 (mm_dec dk_X12_drops 24 rfl) rfl rfl (Or.inl rfl) ?_
            refine mm_iconst C (mm_dec dk_X12_drops 25 rfl) ⟨by decide, by decide⟩ ?_
            refine mm_isub C (mm_dec dk_X12_drops 26 rfl) ⟨by omega, by omega⟩ ?_
            refine mm_puti C fl_X12_404 (mm_dec dk_X12_drops 27 rfl) rfl rfl rfl (Or.inl ⟨rfl, rfl⟩) ?_
            have i1 : mm_inv (mm_pf h0_ 66 70 ((h0_.1 66 70) - 1)) := mm_inv_pf i0_ (show 0 ≤ ((h0_.1 66 70) - 1) ∧ ((h0_.1 66 70) - 1) ≤ 520 from ⟨by omega, by omega⟩) (by decide)
            have f1 : mm_fr [(66, 69), (66, 70)] [107] h (mm_pf h0_ 66 70 ((h0_.1 66 70) - 1)) := mm_fr_pf f0_ (by decide)
            obtain ⟨h1, eh1⟩ : ∃ z, z = mm_pf h0_ 66 70 ((h0_.1 66 70) - 1) := ⟨_, rfl⟩
            rw [← eh1] at i1 f1 ⊢
            have qh1 : h1.1 66 70 = ((h0_.1 66 70) - 1) := by rw [eh1]; exact mm_pf_same _ _ _ _
            have qh1_21 : h1.1 66 57 = h0_.1 66 57 := by rw [eh1]; exact mm_pf_ne _ _ (by decide)
            have qh1_22 : h1.1 66 62 = h0_.1 66 62 := by rw [eh1]; exact mm_pf_ne _ _ (by decide)
            have qh1_23 : h1.1 66 69 = h0_.1 66 69 := by rw [eh1]; exact mm_pf_ne _ _ (by decide)
            refine mm_aload_n C (mm_dec dk_X12_drops 28 rfl) rfl ?_
            refine mm_aload_n C (mm_dec dk_X12_drops 29 rfl) rfl ?_
            refine mm_getr (t := 108) C fl_X12_135 (mm_dec dk_X12_drops 30 rfl) rfl rfl (mm_ref i1 rfl) ?_
            refine mm_aload_n C (mm_dec dk_X12_drops 31 rfl) rfl ?_
            refine mm_geti C fl_X12_404 (mm_dec dk_X12_drops 32 rfl) rfl rfl (Or.inl rfl) ?_
            refine mm_iald C (mm_dec dk_X12_drops 33 rfl) rfl (by omega) (by omega) ?_
            have g24 : -2147483648 ≤ (h1.2.1 108 (h1.1 66 70)) ∧ (h1.2.1 108 (h1.1 66 70)) ≤ 2147483647 := i1.2.1 108 (h1.1 66 70)
            refine mm_cVv (rest := []) C1 ev_X12_410 (mm_dec dk_X12_drops 34 rfl) (c_X12_puts_x x.2.1 hl (d - 1) (by omega) h1 i1 (h1.2.1 108 (h1.1 66 70)) (by omega)) rfl rfl (Nat.le_of_ble_eq_true rfl) ⟨by decide, by decide⟩ rfl (fun h61c hp61 => ?_) (fun _ _ q => q.elim)
            obtain ⟨i61c, g61c, y61_0, y61_1⟩ := hp61
            have f61c : mm_fr [(66, 69), (66, 70)] [107] h h61c := mm_fr_tr f1 g61c (by decide +kernel)
            have q61c_26 : h61c.1 66 57 = h1.1 66 57 := g61c.1 66 57 (by decide)
            have q61c_27 : h61c.1 66 62 = h1.1 66 62 := g61c.1 66 62 (by decide)
            have q61c_28 : h61c.1 66 70 = h1.1 66 70 := g61c.1 66 70 (by decide)
            have g29 : 0 ≤ (h61c.1 66 69) ∧ (h61c.1 66 69) ≤ 2400 := i61c.1 66 69
            have zq7 : ∀ j, h61c.2.1 107 j = if j = h0_.1 66 69 then h0_.2.1 108 (h0_.1 66 70 - 1) else h0_.2.1 107 j := fun j => by rw [y61_1 j, qh1, show h1.1 66 69 = h0_.1 66 69 by omega, show h1.2.1 = h0_.2.1 by rw [eh1]; rfl]
            refine mm_goto (tgt := 0) C (mm_dec dk_X12_drops 35 rfl) (by decide) ?_
            exact ih0 h61c i61c f61c (by first | exact mm_dr_rf i0 | exact mm_dr_pop w0_0 i0_ (by omega) (by omega) (by omega) (by omega) zq7 (fun j => by rw [g61c.2 108 (by decide) j, eh1]; rfl) (by omega) (by omega) (by omega) (by omega)) (by omega) (by first | exact mm_dJ_rf | exact mm_dJ_pop w0_2 (by omega) (by omega) (by have zs9 := y34_0; omega) (by omega) (by omega) zq7 (fun j => by rw [g61c.2 108 (by decide) j, eh1]; rfl)) (by omega)
  exact J0 (((h.1 66 70) : Int) + 1).toNat h i0 f0 (by first | exact mm_dr_rf i0 | exact mm_dr_pop w0_0 i0_ (by omega) (by omega) (by omega) (by omega) zq7 (fun j => by rw [g61c.2 108 (by decide) j, eh1]; rfl) (by omega) (by omega) (by omega) (by omega)) (by omega) (by first | exact mm_dJ_rf | exact mm_dJ_pop w0_2 (by omega) (by omega) (by have zs9 := y34_0; omega) (by omega) (by omega) zq7 (fun j => by rw [g61c.2 108 (by decide) j, eh1]; rfl)) (by omega)
set_option maxRecDepth 100000 in
set_option maxHeartbeats 4000000 in
theorem c_X12_part_q (l : Launch) (hl : l.stackTraces = false) (d : Nat) (hd : 3 ≤ d) (h : mH) (i0 : mm_inv h) (t0 : mm_tok h) (t1 : h.1 66 69 ≤ 2397) (t2 : h.1 66 70 ≤ 519) (t3 : mm_aY h) : mm_Met l d yX12_part cX12_part 2 none [mR 66] h (mm_pv fun h2 => mm_inv h2 ∧ mm_fr [(66, 57), (66, 58), (66, 60), (66, 61), (66, 62), (66, 63), (66, 64), (66, 65), (66, 66), (66, 69)] [107] h h2 ∧ mm_pt h h2 ∧ mm_pY9 h h2 ∧ (h2.1 66 57 ≠ 0 ∨ (h.1 66 57 = 0 ∧ h2.1 66 58 = h.1 66 58)) ∧ (h.1 66 57 = 0 → h2.1 66 57 = 0 → mm_pYJ h h2)) mm_nx 0 0 := by
  refine mm_ofW (ls := [mR 66, mU]) hl (by decide) rfl (Nat.le_of_ble_eq_true rfl) ?_
  intro x hxl C T hnm htb
  subst hxl
  have C1 := mm_OK_le (d' := d - 1 + 1) (by omega) C
  have f0 : mm_fr [(66, 57), (66, 58), (66, 60), (66, 61), (66, 62), (66, 63), (66, 64), (66, 65), (66, 66), (66, 69)] [107] h h := mm_fr_rf
  have g1 : -2147483648 ≤ h.1 66 57 ∧ h.1 66 57 ≤ 2147483647 := i0.1 66 57
  have g2 : 0 ≤ h.1 66 69 ∧ h.1 66 69 ≤ 2400 := i0.1 66 69
  have g3 : 0 ≤ h.1 66 70 ∧ h.1 66 70 ≤ 520 := i0.1 66 70
  have g4 : 0 ≤ h.1 66 62 ∧ h.1 66 62 ≤ 500 := i0.1 66 62
  have g5 : 0 ≤ h.1 66 60 ∧ h.1 66 60 ≤ 500 := i0.1 66 60
  have g6 : -2147483648 ≤ h.1 66 61 ∧ h.1 66 61 ≤ 2147483647 := i0.1 66 61
  have g7 : 0 ≤ h.1 66 71 ∧ h.1 66 71 ≤ 6 := i0.1 66 71
  have g8 : -2147483648 ≤ h.1 66 58 ∧ h.1 66 58 ≤ 2147483647 := i0.1 66 58
  have g9 : -2147483648 ≤ h.1 66 63 ∧ h.1 66 63 ≤ 2147483647 := i0.1 66 63
  have g10 : -2147483648 ≤ h.1 66 65 ∧ h.1 66 65 ≤ 2147483647 := i0.1 66 65
  have g11 : -2147483648 ≤ h.1 66 64 ∧ h.1 66 64 ≤ 2147483647 := i0.1 66 64
  have tf := mm_cY_h t3
  refine mm_aload_n C (mm_dec dk_X12_part 0 rfl) rfl ?_
  refine mm_cVi (rest := []) C1 ev_X12_413 (mm_dec dk_X12_part 1 rfl) (c_X12_isGood x.2.1 hl (d - 1) (by omega) h i0 ) rfl rfl (Nat.le_of_ble_eq_true rfl) ⟨by decide, by decide⟩ rfl (fun r1 h1c hp1 => ?_) (fun _ _ q => q.elim)
  obtain ⟨z1, y1⟩ := hp1
  rw [z1]
  refine mm_if_ne (tgt := 8) C (mm_dec dk_X12_part 2 rfl) (by decide) (fun c4 => ?_) (fun c4 => ?_)
  · skip
    refine mm_aload_n C (mm_dec dk_X12_part 4 rfl) rfl ?_
    refine mm_geti C fl_X12_378 (mm_dec dk_X12_part 5 rfl) rfl rfl (Or.inl rfl) ?_
    refine mm_iconst C (mm_dec dk_X12_part 6 rfl) ⟨by decide, by decide⟩ ?_
    have J113 : ∀ (h113_ : mH) (i113_ : mm_inv h113_) (f113_ : mm_fr [(66, 57), (66, 58), (66, 60), (66, 61), (66, 62), (66, 63), (66, 64), (66, 65), (66, 66), (66, 69)] [107] h h113_) (w113_0 : mm_p1 h h113_) (w113_1 : mm_eY h h113_) (w113_2 : ((h113_.1 66 57 = 0 ∧ (mm_cY h = 18 ∨ (7 ≤ mm_cY h ∧ mm_cY h ≤ 16))) ∨ (h113_.1 66 58 = h.1 66 62 ∧ ((mm_cY h = 19 ∧ h113_.1 66 57 = 2) ∨ (mm_cY h ≤ 6 ∧ h113_.1 66 57 = 3) ∨ (mm_cY h = 17 ∧ h113_.1 66 57 = 3) ∨ (20 ≤ mm_cY h ∧ h113_.1 66 57 = 1))))) (w113_3 : (h113_.1 66 57 ≠ 0 ∨ (h.1 66 57 = 0 ∧ h113_.1 66 58 = h.1 66 58))) (w113_4 : (h113_.1 66 57 = 0 → mm_pYJ h h113_)), mm_W x 0 0 113 [mR 66, mU] [] h113_ := by
      intro h113_ i113_ f113_ w113_0 w113_1 w113_2 w113_3 w113_4
      have g13 : -2147483648 ≤ h113_.1 66 57 ∧ h113_.1 66 57 ≤ 2147483647 := i113_.1 66 57
      have g14 : 0 ≤ h113_.1 66 69 ∧ h113_.1 66 69 ≤ 2400 := i113_.1 66 69
      have g15 : 0 ≤ h113_.1 66 70 ∧ h113_.1 66 70 ≤ 520 := i113_.1 66 70
      have g16 : 0 ≤ h113_.1 66 62 ∧ h113_.1 66 62 ≤ 500 := i113_.1 66 62
      have g17 : 0 ≤ h113_.1 66 60 ∧ h113_.1 66 60 ≤ 500 := i113_.1 66 60
      have g18 : -2147483648 ≤ h113_.1 66 61 ∧ h113_.1 66 61 ≤ 2147483647 := i113_.1 66 61
      have g19 : 0 ≤ h113_.1 66 71 ∧ h113_.1 66 71 ≤ 6 := i113_.1 66 71
      have g20 : -2147483648 ≤ h113_.1 66 58 ∧ h113_.1 66 58 ≤ 2147483647 := i113_.1 66 58
      have g21 : -2147483648 ≤ h113_.1 66 63 ∧ h113_.1 66 63 ≤ 2147483647 := i113_.1 66 63
      have g22 : -2147483648 ≤ h113_.1 66 65 ∧ h113_.1 66 65 ≤ 2147483647 := i113_.1 66 65
      have g23 : -2147483648 ≤ h113_.1 66 64 ∧ h113_.1 66 64 ≤ 2147483647 := i113_.1 66 64
      have g24 : h113_.1 66 70 = h.1 66 70 := f113_.1 66 70 (by decide)
      have g25 : h113_.1 66 71 = h.1 66 71 := f113_.1 66 71 (by decide)
      refine mm_aload_n C (mm_dec dk_X12_part 60 rfl) rfl ?_
      refine mm_cVi (rest := []) C1 ev_X12_413 (mm_dec dk_X12_part 61 rfl) (c_X12_isGood x.2.1 hl (d - 1) (by omega) h113_ i113_ ) rfl rfl (Nat.le_of_ble_eq_true rfl) ⟨by decide, by decide⟩ rfl (fun r114 h114c hp114 => ?_) (fun _ _ q => q.elim)
      obtain ⟨z114, y114⟩ := hp114
      rw [z114]
      have J124 : ∀ (h124_ : mH) (i124_ : mm_inv h124_) (f124_ : mm_fr [(66, 57), (66, 58), (66, 60), (66, 61), (66, 62), (66, 63), (66, 64), (66, 65), (66, 66), (66, 69)] [107] h h124_) (w124_0 : mm_pt h h124_) (w124_1 : mm_pY9 h h124_) (w124_2 : (h124_.1 66 57 ≠ 0 ∨ (h.1 66 57 = 0 ∧ h124_.1 66 58 = h.1 66 58))) (w124_3 : (h124_.1 66 57 = 0 → mm_pYJ h h124_)), mm_W x 0 0 124 [mU, mU] [] h124_ := by
        intro h124_ i124_ f124_ w124_0 w124_1 w124_2 w124_3
        have g27 : -2147483648 ≤ h124_.1 66 57 ∧ h124_.1 66 57 ≤ 2147483647 := i124_.1 66 57
        have g28 : 0 ≤ h124_.1 66 69 ∧ h124_.1 66 69 ≤ 2400 := i124_.1 66 69
        have g29 : 0 ≤ h124_.1 66 70 ∧ h124_.1 66 70 ≤ 520 := i124_.1 66 70
        have g30 : 0 ≤ h124_.1 66 62 ∧ h124_.1 66 62 ≤ 500 := i124_.1 66 62
        have g31 : 0 ≤ h124_.1 66 60 ∧ h124_.1 66 60 ≤ 500 := i124_.1 66 60
        have g32 : -2147483648 ≤ h124_.1 66 61 ∧ h124_.1 66 61 ≤ 2147483647 := i124_.1 66 61
        have g33 : 0 ≤ h124_.1 66 71 ∧ h124_.1 66 71 ≤ 6 := i124_.1 66 71
        have g34 : -2147483648 ≤ h124_.1 66 58 ∧ h124_.1 66 58 ≤ 2147483647 := i124_.1 66 58
        have g35 : -2147483648 ≤ h124_.1 66 63 ∧ h124_.1 66 63 ≤ 2147483647 := i124_.1 66 63
        have g36 : -2147483648 ≤ h124_.1 66 65 ∧ h124_.1 66 65 ≤ 2147483647 := i124_.1 66 65
        have g37 : -2147483648 ≤ h124_.1 66 64 ∧ h124_.1 66 64 ≤ 2147483647 := i124_.1 66 64
        have g38 : h124_.1 66 70 = h.1 66 70 := f124_.1 66 70 (by decide)
        have g39 : h124_.1 66 71 = h.1 66 71 := f124_.1 66 71 (by decide)
        exact mm_vret C T (mm_dec dk_X12_part 65 rfl) (by decide : 0 ≤ 0) (by decide : 0 ≤ 0) ⟨rfl, ⟨i124_, f124_, by first | exact w124_0 | exact mm_pt_rf (by omega) t0, by first | exact w124_1 | exact ⟨mm_TYy_rf, t3, Or.inl ⟨by omega, rfl, rfl⟩⟩, by omega, by first | exact fun _ q => w124_3 q | exact fun p _ => absurd p (by omega)⟩⟩
      refine mm_if_eq (tgt := 124) C (mm_dec dk_X12_part 62 rfl) (by decide) (fun c117 => ?_) (fun c117 => ?_)
      · skip
        refine mm_fgt 0 ?_
        exact J124 h113_ i113_ f113_ (by first | exact mm_pt_no w113_0 (by omega) t0 | exact mm_pt_go w113_0 (by omega) (by omega) t0 g121c y121_0 y121_1 y121_2) (by first | (have zs := mm_st9_e w113_1 (mm_st9_of (mm_eY_a w113_1 t3) y121_3 y121_4 g121c (by decide)); exact ⟨zs.1, zs.2.1, Or.inr (Or.inl ⟨by omega, by omega, by omega, zs.2.2⟩)⟩) | exact ⟨w113_1.1, mm_eY_a w113_1 t3, Or.inr (Or.inr ⟨by omega, by omega, by omega⟩)⟩) (by omega) (by first | exact fun q => mm_pYJ_wo (w113_4 (by omega)) (mm_wo_fr g121c (by decide)) | exact w113_4)
      · skip
        refine mm_aload_n C (mm_dec dk_X12_part 63 rfl) rfl ?_
        refine mm_cVv (rest := []) C1 ev_X12_423 (mm_dec dk_X12_part 64 rfl) (c_X12_goes_q x.2.1 hl (d - 1) (by omega) h113_ i113_ ) rfl rfl (Nat.le_of_ble_eq_true rfl) ⟨by decide, by decide⟩ rfl (fun h121c hp121 => ?_) (fun _ _ q => q.elim)
        obtain ⟨i121c, g121c, y121_0, y121_1, y121_2, y121_3, y121_4⟩ := hp121
        have f121c : mm_fr [(66, 57), (66, 58), (66, 60), (66, 61), (66, 62), (66, 63), (66, 64), (66, 65), (66, 66), (66, 69)] [107] h h121c := mm_fr_tr f113_ g121c (by decide +kernel)
        have q121c_41 : h121c.1 66 57 = h113_.1 66 57 := g121c.1 66 57 (by decide)
        have q121c_42 : h121c.1 66 58 = h113_.1 66 58 := g121c.1 66 58 (by decide)
        have q121c_43 : h121c.1 66 69 = h113_.1 66 69 := g121c.1 66 69 (by decide)
        have q121c_44 : h121c.1 66 70 = h113_.1 66 70 := g121c.1 66 70 (by decide)
        have q121c_45 : h121c.1 66 71 = h113_.1 66 71 := g121c.1 66 71 (by decide)
        have g46 : 0 ≤ (h121c.1 66 62) ∧ (h121c.1 66 62) ≤ 500 := i121c.1 66 62
        have g47 : 0 ≤ (h121c.1 66 60) ∧ (h121c.1 66 60) ≤ 500 := i121c.1 66 60
        have g48 : -2147483648 ≤ (h121c.1 66 61) ∧ (h121c.1 66 61) ≤ 2147483647 := i121c.1 66 61
        have g49 : -2147483648 ≤ (h121c.1 66 63) ∧ (h121c.1 66 63) ≤ 2147483647 := i121c.1 66 63
        have g50 : -2147483648 ≤ (h121c.1 66 65) ∧ (h121c.1 66 65) ≤ 2147483647 := i121c.1 66 65
        have g51 : -2147483648 ≤ (h121c.1 66 64) ∧ (h121c.1 66 64) ≤ 2147483647 := i121c.1 66 64
        refine mm_fgt 0 ?_
        exact J124 h121c i121c f121c (by first | exact mm_pt_no w113_0 (by omega) t0 | exact mm_pt_go w113_0 (by omega) (by omega) t0 g121c y121_0 y121_1 y121_2) (by first | (have zs := mm_st9_e w113_1 (mm_st9_of (mm_eY_a w113_1 t3) y121_3 y121_4 g121c (by decide)); exact ⟨zs.1, zs.2.1, Or.inr (Or.inl ⟨by omega, by omega, by omega, zs.2.2⟩)⟩) | exact ⟨w113_1.1, mm_eY_a w113_1 t3, Or.inr (Or.inr ⟨by omega, by omega, by omega⟩)⟩) (by omega) (by first | exact fun q => mm_pYJ_wo (w113_4 (by omega)) (mm_wo_fr g121c (by decide)) | exact w113_4)
    refine mm_icmp_ne (tgt := 45) C (mm_dec dk_X12_part 7 rfl) (by decide) (fun c13 => ?_) (fun c13 => ?_)
    · skip
      refine mm_aload_n C (mm_dec dk_X12_part 23 rfl) rfl ?_
      refine mm_geti C fl_X12_378 (mm_dec dk_X12_part 24 rfl) rfl rfl (Or.inl rfl) ?_
      refine mm_iconst C (mm_dec dk_X12_part 25 rfl) ⟨by decide, by decide⟩ ?_
      refine mm_icmp_ne (tgt := 108) C (mm_dec dk_X12_part 26 rfl) (by decide) (fun c50 => ?_) (fun c50 => ?_)
      · skip
        refine mm_aload_n C (mm_dec dk_X12_part 57 rfl) rfl ?_
        refine mm_iconst C (mm_dec dk_X12_part 58 rfl) ⟨by decide, by decide⟩ ?_
        refine mm_cVv (rest := []) C1 ev_X12_417 (mm_dec dk_X12_part 59 rfl) (c_X12_wrong_q x.2.1 hl (d - 1) (by omega) h i0 1 (by omega)) rfl rfl (Nat.le_of_ble_eq_true rfl) ⟨by decide, by decide⟩ rfl (fun h110c hp110 => ?_) (fun _ _ q => q.elim)
        obtain ⟨i110c, g110c, y110_0, y110_1⟩ := hp110
        have f110c : mm_fr [(66, 57), (66, 58), (66, 60), (66, 61), (66, 62), (66, 63), (66, 64), (66, 65), (66, 66), (66, 69)] [107] h h110c := mm_fr_tr f0 g110c (by decide +kernel)
        have q110c_53 : h110c.1 66 60 = h.1 66 60 := g110c.1 66 60 (by decide)
        have q110c_54 : h110c.1 66 61 = h.1 66 61 := g110c.1 66 61 (by decide)
        have q110c_55 : h110c.1 66 62 = h.1 66 62 := g110c.1 66 62 (by decide)
        have q110c_56 : h110c.1 66 63 = h.1 66 63 := g110c.1 66 63 (by decide)
        have q110c_57 : h110c.1 66 64 = h.1 66 64 := g110c.1 66 64 (by decide)
        have q110c_58 : h110c.1 66 65 = h.1 66 65 := g110c.1 66 65 (by decide)
        have q110c_59 : h110c.1 66 69 = h.1 66 69 := g110c.1 66 69 (by decide)
        have q110c_60 : h110c.1 66 70 = h.1 66 70 := g110c.1 66 70 (by decide)
        have q110c_61 : h110c.1 66 71 = h.1 66 71 := g110c.1 66 71 (by decide)
        have g62 : -2147483648 ≤ (h110c.1 66 57) ∧ (h110c.1 66 57) ≤ 2147483647 := i110c.1 66 57
        have g63 : -2147483648 ≤ (h110c.1 66 58) ∧ (h110c.1 66 58) ≤ 2147483647 := i110c.1 66 58
        exact J113 h110c i110c f110c (by first | exact mm_p1_of i0 w29_0 y31_0 y31_1 g31c y39_0 y39_1 g39c (by omega) (by decide) (fun _ => ⟨fun q => absurd q (by decide), fun q => absurd q (by decide)⟩) (by omega) (by omega) | exact mm_p1_of i0 w69_0 y81_0 y81_1 g81c y102_0 y102_1 g102c (by omega) ⟨by omega, by omega⟩ (fun z => ⟨fun q => ⟨by omega, by omega⟩, fun q => ⟨by omega, by omega⟩⟩) (by omega) (by omega) | exact mm_p1_bad (mm_sm_fr g110c (by decide)) y110_0) (by first | exact mm_eY_fr g110c (by decide) | exact mm_eY_tr w29_1 (mm_eY_tr (mm_eY_fr g31c (by decide)) (mm_eY_fr g39c (by decide))) | exact mm_eY_tr w69_2 (mm_eY_tr (mm_eY_fr g81c (by decide)) (mm_eY_fr g102c (by decide)))) (by first | (have zk := mm_kw9_x y54_1; have zz := mm_hd9x tf; omega) | (have zz := mm_hd9x tf; omega)) (by omega) (by first | exact fun q => absurd q (by omega) | exact fun q9 => mm_pYJ_of (h0 := h29_) ⟨w29_0.1, w29_0.2.1, w29_0.2.2.2.2.2.2.1, w29_0.2.2.2.2.2.2.2⟩ ⟨g31c.1 66 70 (by decide), g31c.2 108 (by decide)⟩ y31_0 y31_1 ⟨g39c.1 66 70 (by decide), g39c.2 108 (by decide)⟩ y39_0 y39_1 (Or.inl ⟨by have zz := mm_hd9x tf; omega, rfl, (by have z8 := t3.2.2.2.2.1 (by omega) (by omega); have z9 := w29_1.2.2.2.2.2.1; omega)⟩) | exact fun q9 => mm_pYJ_of (h0 := h69_) ⟨w69_0.1, w69_0.2.1, w69_0.2.2.2.2.2.2.1, w69_0.2.2.2.2.2.2.2⟩ ⟨g81c.1 66 70 (by decide), g81c.2 108 (by decide)⟩ y81_0 y81_1 ⟨g102c.1 66 70 (by decide), g102c.2 108 (by decide)⟩ y102_0 y102_1 (by have zk := mm_kw9_x y54_1; have zz := mm_hd9x tf; unfold mm_pj9; omega))
      · skip
        refine mm_aload_n C (mm_dec dk_X12_part 27 rfl) rfl ?_
        refine mm_cVi (rest := []) C1 ev_X12_419 (mm_dec dk_X12_part 28 rfl) (c_X12_knownWord_q x.2.1 hl (d - 1) (by omega) h i0 (by first | exact t3 | omega)) rfl rfl (Nat.le_of_ble_eq_true rfl) ⟨by decide, by decide⟩ rfl (fun r54 h54c hp54 => ?_) (fun _ _ q => q.elim)
        obtain ⟨b54, z54, y54_0, y54_1⟩ := hp54
        rw [z54]
        refine mm_istore_nL (ls2 := [mR 66, mI r54]) C (mm_dec dk_X12_part 29 rfl) (by decide) rfl ?_
        refine mm_iload_n C (mm_dec dk_X12_part 30 rfl) rfl ?_
        refine mm_bipush C (mm_dec dk_X12_part 31 rfl) ⟨by decide, by decide⟩ ?_
        have J69 : ∀ (h69_ : mH) (i69_ : mm_inv h69_) (f69_ : mm_fr [(66, 57), (66, 58), (66, 60), (66, 61), (66, 62), (66, 63), (66, 64), (66, 65), (66, 66), (66, 69)] [107] h h69_) (w69_0 : mm_sm h h69_) (w69_1 : (h69_.1 66 57 ≠ 0 ∨ 7 ≤ r54)) (w69_2 : mm_eY h h69_) (w69_3 : ((h69_.1 66 57 = 0 ∧ 7 ≤ r54 ∧ h69_.1 66 58 = h.1 66 58) ∨ (h69_.1 66 57 = 3 ∧ h69_.1 66 58 = h.1 66 62 ∧ r54 < 7))), mm_W x 0 0 69 [mR 66, mI r54] [] h69_ := by
          intro h69_ i69_ f69_ w69_0 w69_1 w69_2 w69_3
          have g65 : -2147483648 ≤ h69_.1 66 57 ∧ h69_.1 66 57 ≤ 2147483647 := i69_.1 66 57
          have g66 : 0 ≤ h69_.1 66 69 ∧ h69_.1 66 69 ≤ 2400 := i69_.1 66 69
          have g67 : 0 ≤ h69_.1 66 70 ∧ h69_.1 66 70 ≤ 520 := i69_.1 66 70
          have g68 : 0 ≤ h69_.1 66 62 ∧ h69_.1 66 62 ≤ 500 := i69_.1 66 62
          have g69 : 0 ≤ h69_.1 66 60 ∧ h69_.1 66 60 ≤ 500 := i69_.1 66 60
          have g70 : -2147483648 ≤ h69_.1 66 61 ∧ h69_.1 66 61 ≤ 2147483647 := i69_.1 66 61
          have g71 : 0 ≤ h69_.1 66 71 ∧ h69_.1 66 71 ≤ 6 := i69_.1 66 71
          have g72 : -2147483648 ≤ h69_.1 66 58 ∧ h69_.1 66 58 ≤ 2147483647 := i69_.1 66 58
          have g73 : -2147483648 ≤ h69_.1 66 63 ∧ h69_.1 66 63 ≤ 2147483647 := i69_.1 66 63
          have g74 : -2147483648 ≤ h69_.1 66 65 ∧ h69_.1 66 65 ≤ 2147483647 := i69_.1 66 65
          have g75 : -2147483648 ≤ h69_.1 66 64 ∧ h69_.1 66 64 ≤ 2147483647 := i69_.1 66 64
          have g76 : h69_.1 66 70 = h.1 66 70 := f69_.1 66 70 (by decide)
          have g77 : h69_.1 66 71 = h.1 66 71 := f69_.1 66 71 (by decide)
          have za := w69_0.1
          have zb := w69_0.2.1
          refine mm_aload_n C (mm_dec dk_X12_part 36 rfl) rfl ?_
          refine mm_iload_n C (mm_dec dk_X12_part 37 rfl) rfl ?_
          refine mm_bipush C (mm_dec dk_X12_part 38 rfl) ⟨by decide, by decide⟩ ?_
          have J81 : ∀ (s81_1 : Int) (bs81_1 : 2 ≤ s81_1 ∧ s81_1 ≤ 3) (w81_0 : ((r54 < 10 ∧ s81_1 = 3) ∨ (10 ≤ r54 ∧ s81_1 = 2))) (vs81_1 : (10 ≤ r54 ∧ s81_1 = 2) ∨ (r54 < 10 ∧ s81_1 = 3)), mm_W x 0 0 81 [mR 66, mI r54] [mI s81_1, mR 66] h69_ := by
            intro s81_1 bs81_1 w81_0 vs81_1
            have g78 : -2147483648 ≤ h69_.1 66 57 ∧ h69_.1 66 57 ≤ 2147483647 := i69_.1 66 57
            have g79 : 0 ≤ h69_.1 66 69 ∧ h69_.1 66 69 ≤ 2400 := i69_.1 66 69
            have g80 : 0 ≤ h69_.1 66 70 ∧ h69_.1 66 70 ≤ 520 := i69_.1 66 70
            have g81 : 0 ≤ h69_.1 66 62 ∧ h69_.1 66 62 ≤ 500 := i69_.1 66 62
            have g82 : 0 ≤ h69_.1 66 60 ∧ h69_.1 66 60 ≤ 500 := i69_.1 66 60
            have g83 : -2147483648 ≤ h69_.1 66 61 ∧ h69_.1 66 61 ≤ 2147483647 := i69_.1 66 61
            have g84 : 0 ≤ h69_.1 66 71 ∧ h69_.1 66 71 ≤ 6 := i69_.1 66 71
            have g85 : -2147483648 ≤ h69_.1 66 58 ∧ h69_.1 66 58 ≤ 2147483647 := i69_.1 66 58
            have g86 : -2147483648 ≤ h69_.1 66 63 ∧ h69_.1 66 63 ≤ 2147483647 := i69_.1 66 63
            have g87 : -2147483648 ≤ h69_.1 66 65 ∧ h69_.1 66 65 ≤ 2147483647 := i69_.1 66 65
            have g88 : -2147483648 ≤ h69_.1 66 64 ∧ h69_.1 66 64 ≤ 2147483647 := i69_.1 66 64
            refine mm_cVv (rest := []) C1 ev_X12_410 (mm_dec dk_X12_part 43 rfl) (c_X12_puts_x x.2.1 hl (d - 1) (by omega) h69_ i69_ s81_1 (by omega)) rfl rfl (Nat.le_of_ble_eq_true rfl) ⟨by decide, by decide⟩ rfl (fun h81c hp81 => ?_) (fun _ _ q => q.elim)
            obtain ⟨i81c, g81c, y81_0, y81_1⟩ := hp81
            have f81c : mm_fr [(66, 57), (66, 58), (66, 60), (66, 61), (66, 62), (66, 63), (66, 64), (66, 65), (66, 66), (66, 69)] [107] h h81c := mm_fr_tr f69_ g81c (by decide +kernel)
            have q81c_90 : h81c.1 66 57 = h69_.1 66 57 := g81c.1 66 57 (by decide)
            have q81c_91 : h81c.1 66 58 = h69_.1 66 58 := g81c.1 66 58 (by decide)
            have q81c_92 : h81c.1 66 60 = h69_.1 66 60 := g81c.1 66 60 (by decide)
            have q81c_93 : h81c.1 66 61 = h69_.1 66 61 := g81c.1 66 61 (by decide)
            have q81c_94 : h81c.1 66 62 = h69_.1 66 62 := g81c.1 66 62 (by decide)
            have q81c_95 : h81c.1 66 63 = h69_.1 66 63 := g81c.1 66 63 (by decide)
            have q81c_96 : h81c.1 66 64 = h69_.1 66 64 := g81c.1 66 64 (by decide)
            have q81c_97 : h81c.1 66 65 = h69_.1 66 65 := g81c.1 66 65 (by decide)
            have q81c_98 : h81c.1 66 70 = h69_.1 66 70 := g81c.1 66 70 (by decide)
            have q81c_99 : h81c.1 66 71 = h69_.1 66 71 := g81c.1 66 71 (by decide)
            have g100 : 0 ≤ (h81c.1 66 69) ∧ (h81c.1 66 69) ≤ 2400 := i81c.1 66 69
            refine mm_aload_n C (mm_dec dk_X12_part 44 rfl) rfl ?_
            refine mm_iload_n C (mm_dec dk_X12_part 45 rfl) rfl ?_
            refine mm_bipush C (mm_dec dk_X12_part 46 rfl) ⟨by decide, by decide⟩ ?_
            have J102 : ∀ (s102_1 : Int) (bs102_1 : -8 ≤ s102_1 ∧ s102_1 ≤ 6) (w102_0 : ((r54 < 10 ∧ s102_1 = r54 - 7) ∨ (10 ≤ r54 ∧ s102_1 = r54 - 10))), mm_W x 0 0 102 [mR 66, mU] [mI s102_1, mR 66] h81c := by
              intro s102_1 bs102_1 w102_0
              refine mm_cVv (rest := []) C1 ev_X12_410 (mm_dec dk_X12_part 55 rfl) (c_X12_puts_x x.2.1 hl (d - 1) (by omega) h81c i81c s102_1 (by omega)) rfl rfl (Nat.le_of_ble_eq_true rfl) ⟨by decide, by decide⟩ rfl (fun h102c hp102 => ?_) (fun _ _ q => q.elim)
              obtain ⟨i102c, g102c, y102_0, y102_1⟩ := hp102
              have f102c : mm_fr [(66, 57), (66, 58), (66, 60), (66, 61), (66, 62), (66, 63), (66, 64), (66, 65), (66, 66), (66, 69)] [107] h h102c := mm_fr_tr f81c g102c (by decide +kernel)
              have q102c_102 : h102c.1 66 57 = h81c.1 66 57 := g102c.1 66 57 (by decide)
              have q102c_103 : h102c.1 66 58 = h81c.1 66 58 := g102c.1 66 58 (by decide)
              have q102c_104 : h102c.1 66 60 = h81c.1 66 60 := g102c.1 66 60 (by decide)
              have q102c_105 : h102c.1 66 61 = h81c.1 66 61 := g102c.1 66 61 (by decide)
              have q102c_106 : h102c.1 66 62 = h81c.1 66 62 := g102c.1 66 62 (by decide)
              have q102c_107 : h102c.1 66 63 = h81c.1 66 63 := g102c.1 66 63 (by decide)
              have q102c_108 : h102c.1 66 64 = h81c.1 66 64 := g102c.1 66 64 (by decide)
              have q102c_109 : h102c.1 66 65 = h81c.1 66 65 := g102c.1 66 65 (by decide)
              have q102c_110 : h102c.1 66 70 = h81c.1 66 70 := g102c.1 66 70 (by decide)
              have q102c_111 : h102c.1 66 71 = h81c.1 66 71 := g102c.1 66 71 (by decide)
              have g112 : 0 ≤ (h102c.1 66 69) ∧ (h102c.1 66 69) ≤ 2400 := i102c.1 66 69
              refine mm_goto (tgt := 113) C (mm_dec dk_X12_part 56 rfl) (by decide) ?_
              exact J113 h102c i102c f102c (by first | exact mm_p1_of i0 w29_0 y31_0 y31_1 g31c y39_0 y39_1 g39c (by omega) (by decide) (fun _ => ⟨fun q => absurd q (by decide), fun q => absurd q (by decide)⟩) (by omega) (by omega) | exact mm_p1_of i0 w69_0 y81_0 y81_1 g81c y102_0 y102_1 g102c (by omega) ⟨by omega, by omega⟩ (fun z => ⟨fun q => ⟨by omega, by omega⟩, fun q => ⟨by omega, by omega⟩⟩) (by omega) (by omega) | exact mm_p1_bad (mm_sm_fr g110c (by decide)) y110_0) (by first | exact mm_eY_fr g110c (by decide) | exact mm_eY_tr w29_1 (mm_eY_tr (mm_eY_fr g31c (by decide)) (mm_eY_fr g39c (by decide))) | exact mm_eY_tr w69_2 (mm_eY_tr (mm_eY_fr g81c (by decide)) (mm_eY_fr g102c (by decide)))) (by first | (have zk := mm_kw9_x y54_1; have zz := mm_hd9x tf; omega) | (have zz := mm_hd9x tf; omega)) (by omega) (by first | exact fun q => absurd q (by omega) | exact fun q9 => mm_pYJ_of (h0 := h29_) ⟨w29_0.1, w29_0.2.1, w29_0.2.2.2.2.2.2.1, w29_0.2.2.2.2.2.2.2⟩ ⟨g31c.1 66 70 (by decide), g31c.2 108 (by decide)⟩ y31_0 y31_1 ⟨g39c.1 66 70 (by decide), g39c.2 108 (by decide)⟩ y39_0 y39_1 (Or.inl ⟨by have zz := mm_hd9x tf; omega, rfl, (by have z8 := t3.2.2.2.2.1 (by omega) (by omega); have z9 := w29_1.2.2.2.2.2.1; omega)⟩) | exact fun q9 => mm_pYJ_of (h0 := h69_) ⟨w69_0.1, w69_0.2.1, w69_0.2.2.2.2.2.2.1, w69_0.2.2.2.2.2.2.2⟩ ⟨g81c.1 66 70 (by decide), g81c.2 108 (by decide)⟩ y81_0 y81_1 ⟨g102c.1 66 70 (by decide), g102c.2 108 (by decide)⟩ y102_0 y102_1 (by have zk := mm_kw9_x y54_1; have zz := mm_hd9x tf; unfold mm_pj9; omega))
            refine mm_icmp_ge (tgt := 98) C (mm_dec dk_X12_part 47 rfl) (by decide) (fun c88 => ?_) (fun c88 => ?_)
            · skip
              refine mm_iload_n C (mm_dec dk_X12_part 52 rfl) rfl ?_
              refine mm_bipush C (mm_dec dk_X12_part 53 rfl) ⟨by decide, by decide⟩ ?_
              refine mm_isub C (mm_dec dk_X12_part 54 rfl) ⟨by omega, by omega⟩ ?_
              refine mm_fgt 1 ?_
              exact J102 (r54 - 10) ⟨by omega, by omega⟩ (by omega)
            · skip
              refine mm_iload_n C (mm_dec dk_X12_part 48 rfl) rfl ?_
              refine mm_bipush C (mm_dec dk_X12_part 49 rfl) ⟨by decide, by decide⟩ ?_
              refine mm_isub C (mm_dec dk_X12_part 50 rfl) ⟨by omega, by omega⟩ ?_
              refine mm_goto (tgt := 102) C (mm_dec dk_X12_part 51 rfl) (by decide) ?_
              refine mm_fgt 1 ?_
              exact J102 (r54 - 7) ⟨by omega, by omega⟩ (by omega)
          refine mm_icmp_ge (tgt := 80) C (mm_dec dk_X12_part 39 rfl) (by decide) (fun c73 => ?_) (fun c73 => ?_)
          · skip
            refine mm_iconst C (mm_dec dk_X12_part 42 rfl) ⟨by decide, by decide⟩ ?_
            exact J81 2 ⟨by omega, by omega⟩ (by omega) (Or.inl ⟨by omega, rfl⟩)
          · skip
            refine mm_iconst C (mm_dec dk_X12_part 40 rfl) ⟨by decide, by decide⟩ ?_
            refine mm_goto (tgt := 81) C (mm_dec dk_X12_part 41 rfl) (by decide) ?_
            exact J81 3 ⟨by omega, by omega⟩ (by omega) (Or.inr (⟨by omega, rfl⟩))
        refine mm_icmp_ge (tgt := 69) C (mm_dec dk_X12_part 32 rfl) (by decide) (fun c61 => ?_) (fun c61 => ?_)
        · skip
          exact J69 h i0 f0 (by first | exact mm_sm_rf | exact mm_sm_fr g66c (by decide)) (by omega) (by first | exact mm_eY_rf | exact mm_eY_fr g66c (by decide)) (by omega)
        · skip
          refine mm_aload_n C (mm_dec dk_X12_part 33 rfl) rfl ?_
          refine mm_iconst C (mm_dec dk_X12_part 34 rfl) ⟨by decide, by decide⟩ ?_
          refine mm_cVv (rest := []) C1 ev_X12_417 (mm_dec dk_X12_part 35 rfl) (c_X12_wrong_q x.2.1 hl (d - 1) (by omega) h i0 3 (by omega)) rfl rfl (Nat.le_of_ble_eq_true rfl) ⟨by decide, by decide⟩ rfl (fun h66c hp66 => ?_) (fun _ _ q => q.elim)
          obtain ⟨i66c, g66c, y66_0, y66_1⟩ := hp66
          have f66c : mm_fr [(66, 57), (66, 58), (66, 60), (66, 61), (66, 62), (66, 63), (66, 64), (66, 65), (66, 66), (66, 69)] [107] h h66c := mm_fr_tr f0 g66c (by decide +kernel)
          have q66c_114 : h66c.1 66 60 = h.1 66 60 := g66c.1 66 60 (by decide)
          have q66c_115 : h66c.1 66 61 = h.1 66 61 := g66c.1 66 61 (by decide)
          have q66c_116 : h66c.1 66 62 = h.1 66 62 := g66c.1 66 62 (by decide)
          have q66c_117 : h66c.1 66 63 = h.1 66 63 := g66c.1 66 63 (by decide)
          have q66c_118 : h66c.1 66 64 = h.1 66 64 := g66c.1 66 64 (by decide)
          have q66c_119 : h66c.1 66 65 = h.1 66 65 := g66c.1 66 65 (by decide)
          have q66c_120 : h66c.1 66 69 = h.1 66 69 := g66c.1 66 69 (by decide)
          have q66c_121 : h66c.1 66 70 = h.1 66 70 := g66c.1 66 70 (by decide)
          have q66c_122 : h66c.1 66 71 = h.1 66 71 := g66c.1 66 71 (by decide)
          have g123 : -2147483648 ≤ (h66c.1 66 57) ∧ (h66c.1 66 57) ≤ 2147483647 := i66c.1 66 57
          have g124 : -2147483648 ≤ (h66c.1 66 58) ∧ (h66c.1 66 58) ≤ 2147483647 := i66c.1 66 58
          exact J69 h66c i66c f66c (by first | exact mm_sm_rf | exact mm_sm_fr g66c (by decide)) (by omega) (by first | exact mm_eY_rf | exact mm_eY_fr g66c (by decide)) (by omega)
    · skip
      refine mm_aload_n C (mm_dec dk_X12_part 8 rfl) rfl ?_
      refine mm_geti C fl_X12_387 (mm_dec dk_X12_part 9 rfl) rfl rfl (Or.inl rfl) ?_
      refine mm_iconst C (mm_dec dk_X12_part 10 rfl) ⟨by decide, by decide⟩ ?_
      have J29 : ∀ (h29_ : mH) (i29_ : mm_inv h29_) (f29_ : mm_fr [(66, 57), (66, 58), (66, 60), (66, 61), (66, 62), (66, 63), (66, 64), (66, 65), (66, 66), (66, 69)] [107] h h29_) (w29_0 : mm_sm h h29_) (w29_1 : mm_eY h h29_) (w29_2 : ((h29_.1 66 57 = 0 ∧ h.1 66 63 ≤ 5 ∧ h29_.1 66 58 = h.1 66 58) ∨ (h29_.1 66 57 = 2 ∧ h29_.1 66 58 = h.1 66 62 ∧ 5 < h.1 66 63))), mm_W x 0 0 29 [mR 66, mU] [] h29_ := by
        intro h29_ i29_ f29_ w29_0 w29_1 w29_2
        have g125 : -2147483648 ≤ h29_.1 66 57 ∧ h29_.1 66 57 ≤ 2147483647 := i29_.1 66 57
        have g126 : 0 ≤ h29_.1 66 69 ∧ h29_.1 66 69 ≤ 2400 := i29_.1 66 69
        have g127 : 0 ≤ h29_.1 66 70 ∧ h29_.1 66 70 ≤ 520 := i29_.1 66 70
        have g128 : 0 ≤ h29_.1 66 62 ∧ h29_.1 66 62 ≤ 500 := i29_.1 66 62
        have g129 : 0 ≤ h29_.1 66 60 ∧ h29_.1 66 60 ≤ 500 := i29_.1 66 60
        have g130 : -2147483648 ≤ h29_.1 66 61 ∧ h29_.1 66 61 ≤ 2147483647 := i29_.1 66 61
        have g131 : 0 ≤ h29_.1 66 71 ∧ h29_.1 66 71 ≤ 6 := i29_.1 66 71
        have g132 : -2147483648 ≤ h29_.1 66 58 ∧ h29_.1 66 58 ≤ 2147483647 := i29_.1 66 58
        have g133 : -2147483648 ≤ h29_.1 66 63 ∧ h29_.1 66 63 ≤ 2147483647 := i29_.1 66 63
        have g134 : -2147483648 ≤ h29_.1 66 65 ∧ h29_.1 66 65 ≤ 2147483647 := i29_.1 66 65
        have g135 : -2147483648 ≤ h29_.1 66 64 ∧ h29_.1 66 64 ≤ 2147483647 := i29_.1 66 64
        have g136 : h29_.1 66 70 = h.1 66 70 := f29_.1 66 70 (by decide)
        have g137 : h29_.1 66 71 = h.1 66 71 := f29_.1 66 71 (by decide)
        have za := w29_0.1
        have zb := w29_0.2.1
        refine mm_aload_n C (mm_dec dk_X12_part 15 rfl) rfl ?_
        refine mm_iconst C (mm_dec dk_X12_part 16 rfl) ⟨by decide, by decide⟩ ?_
        refine mm_cVv (rest := []) C1 ev_X12_410 (mm_dec dk_X12_part 17 rfl) (c_X12_puts_x x.2.1 hl (d - 1) (by omega) h29_ i29_ 1 (by omega)) rfl rfl (Nat.le_of_ble_eq_true rfl) ⟨by decide, by decide⟩ rfl (fun h31c hp31 => ?_) (fun _ _ q => q.elim)
        obtain ⟨i31c, g31c, y31_0, y31_1⟩ := hp31
        have f31c : mm_fr [(66, 57), (66, 58), (66, 60), (66, 61), (66, 62), (66, 63), (66, 64), (66, 65), (66, 66), (66, 69)] [107] h h31c := mm_fr_tr f29_ g31c (by decide +kernel)
        have q31c_139 : h31c.1 66 57 = h29_.1 66 57 := g31c.1 66 57 (by decide)
        have q31c_140 : h31c.1 66 58 = h29_.1 66 58 := g31c.1 66 58 (by decide)
        have q31c_141 : h31c.1 66 60 = h29_.1 66 60 := g31c.1 66 60 (by decide)
        have q31c_142 : h31c.1 66 61 = h29_.1 66 61 := g31c.1 66 61 (by decide)
        have q31c_143 : h31c.1 66 62 = h29_.1 66 62 := g31c.1 66 62 (by decide)
        have q31c_144 : h31c.1 66 63 = h29_.1 66 63 := g31c.1 66 63 (by decide)
        have q31c_145 : h31c.1 66 64 = h29_.1 66 64 := g31c.1 66 64 (by decide)
        have q31c_146 : h31c.1 66 65 = h29_.1 66 65 := g31c.1 66 65 (by decide)
        have q31c_147 : h31c.1 66 70 = h29_.1 66 70 := g31c.1 66 70 (by decide)
        have q31c_148 : h31c.1 66 71 = h29_.1 66 71 := g31c.1 66 71 (by decide)
        have g149 : 0 ≤ (h31c.1 66 69) ∧ (h31c.1 66 69) ≤ 2400 := i31c.1 66 69
        refine mm_aload_n C (mm_dec dk_X12_part 18 rfl) rfl ?_
        refine mm_aload_n C (mm_dec dk_X12_part 19 rfl) rfl ?_
        refine mm_geti C fl_X12_372 (mm_dec dk_X12_part 20 rfl) rfl rfl (Or.inl rfl) ?_
        refine mm_cVv (rest := []) C1 ev_X12_410 (mm_dec dk_X12_part 21 rfl) (c_X12_puts_x x.2.1 hl (d - 1) (by omega) h31c i31c (h31c.1 66 64) (by omega)) rfl rfl (Nat.le_of_ble_eq_true rfl) ⟨by decide, by decide⟩ rfl (fun h39c hp39 => ?_) (fun _ _ q => q.elim)
        obtain ⟨i39c, g39c, y39_0, y39_1⟩ := hp39
        have f39c : mm_fr [(66, 57), (66, 58), (66, 60), (66, 61), (66, 62), (66, 63), (66, 64), (66, 65), (66, 66), (66, 69)] [107] h h39c := mm_fr_tr f31c g39c (by decide +kernel)
        have q39c_151 : h39c.1 66 57 = h31c.1 66 57 := g39c.1 66 57 (by decide)
        have q39c_152 : h39c.1 66 58 = h31c.1 66 58 := g39c.1 66 58 (by decide)
        have q39c_153 : h39c.1 66 60 = h31c.1 66 60 := g39c.1 66 60 (by decide)
        have q39c_154 : h39c.1 66 61 = h31c.1 66 61 := g39c.1 66 61 (by decide)
        have q39c_155 : h39c.1 66 62 = h31c.1 66 62 := g39c.1 66 62 (by decide)
        have q39c_156 : h39c.1 66 63 = h31c.1 66 63 := g39c.1 66 63 (by decide)
        have q39c_157 : h39c.1 66 64 = h31c.1 66 64 := g39c.1 66 64 (by decide)
        have q39c_158 : h39c.1 66 65 = h31c.1 66 65 := g39c.1 66 65 (by decide)
        have q39c_159 : h39c.1 66 70 = h31c.1 66 70 := g39c.1 66 70 (by decide)
        have q39c_160 : h39c.1 66 71 = h31c.1 66 71 := g39c.1 66 71 (by decide)
        have g161 : 0 ≤ (h39c.1 66 69) ∧ (h39c.1 66 69) ≤ 2400 := i39c.1 66 69
        refine mm_goto (tgt := 113) C (mm_dec dk_X12_part 22 rfl) (by decide) ?_
        exact J113 h39c i39c f39c (by first | exact mm_p1_of i0 w29_0 y31_0 y31_1 g31c y39_0 y39_1 g39c (by omega) (by decide) (fun _ => ⟨fun q => absurd q (by decide), fun q => absurd q (by decide)⟩) (by omega) (by omega) | exact mm_p1_of i0 w69_0 y81_0 y81_1 g81c y102_0 y102_1 g102c (by omega) ⟨by omega, by omega⟩ (fun z => ⟨fun q => ⟨by omega, by omega⟩, fun q => ⟨by omega, by omega⟩⟩) (by omega) (by omega) | exact mm_p1_bad (mm_sm_fr g110c (by decide)) y110_0) (by first | exact mm_eY_fr g110c (by decide) | exact mm_eY_tr w29_1 (mm_eY_tr (mm_eY_fr g31c (by decide)) (mm_eY_fr g39c (by decide))) | exact mm_eY_tr w69_2 (mm_eY_tr (mm_eY_fr g81c (by decide)) (mm_eY_fr g102c (by decide)))) (by first | (have zk := mm_kw9_x y54_1; have zz := mm_hd9x tf; omega) | (have zz := mm_hd9x tf; omega)) (by omega) (by first | exact fun q => absurd q (by omega) | exact fun q9 => mm_pYJ_of (h0 := h29_) ⟨w29_0.1, w29_0.2.1, w29_0.2.2.2.2.2.2.1, w29_0.2.2.2.2.2.2.2⟩ ⟨g31c.1 66 70 (by decide), g31c.2 108 (by decide)⟩ y31_0 y31_1 ⟨g39c.1 66 70 (by decide), g39c.2 108 (by decide)⟩ y39_0 y39_1 (Or.inl ⟨by have zz := mm_hd9x tf; omega, rfl, (by have z8 := t3.2.2.2.2.1 (by omega) (by omega); have z9 := w29_1.2.2.2.2.2.1; omega)⟩) | exact fun q9 => mm_pYJ_of (h0 := h69_) ⟨w69_0.1, w69_0.2.1, w69_0.2.2.2.2.2.2.1, w69_0.2.2.2.2.2.2.2⟩ ⟨g81c.1 66 70 (by decide), g81c.2 108 (by decide)⟩ y81_0 y81_1 ⟨g102c.1 66 70 (by decide), g102c.2 108 (by decide)⟩ y102_0 y102_1 (by have zk := mm_kw9_x y54_1; have zz := mm_hd9x tf; unfold mm_pj9; omega))
      refine mm_icmp_le (tgt := 29) C (mm_dec dk_X12_part 11 rfl) (by decide) (fun c21 => ?_) (fun c21 => ?_)
      · skip
        exact J29 h i0 f0 (by first | exact mm_sm_rf | exact mm_sm_fr g26c (by decide)) (by first | exact mm_eY_rf | exact mm_eY_fr g26c (by decide)) (by omega)
      · skip
        refine mm_aload_n C (mm_dec dk_X12_part 12 rfl) rfl ?_
        refine mm_iconst C (mm_dec dk_X12_part 13 rfl) ⟨by decide, by decide⟩ ?_
        refine mm_cVv (rest := []) C1 ev_X12_417 (mm_dec dk_X12_part 14 rfl) (c_X12_wrong_q x.2.1 hl (d - 1) (by omega) h i0 2 (by omega)) rfl rfl (Nat.le_of_ble_eq_true rfl) ⟨by decide, by decide⟩ rfl (fun h26c hp26 => ?_) (fun _ _ q => q.elim)
        obtain ⟨i26c, g26c, y26_0, y26_1⟩ := hp26
        have f26c : mm_fr [(66, 57), (66, 58), (66, 60), (66, 61), (66, 62), (66, 63), (66, 64), (66, 65), (66, 66), (66, 69)] [107] h h26c := mm_fr_tr f0 g26c (by decide +kernel)
        have q26c_163 : h26c.1 66 60 = h.1 66 60 := g26c.1 66 60 (by decide)
        have q26c_164 : h26c.1 66 61 = h.1 66 61 := g26c.1 66 61 (by decide)
        have q26c_165 : h26c.1 66 62 = h.1 66 62 := g26c.1 66 62 (by decide)
        have q26c_166 : h26c.1 66 63 = h.1 66 63 := g26c.1 66 63 (by decide)
        have q26c_167 : h26c.1 66 64 = h.1 66 64 := g26c.1 66 64 (by decide)
        have q26c_168 : h26c.1 66 65 = h.1 66 65 := g26c.1 66 65 (by decide)
        have q26c_169 : h26c.1 66 69 = h.1 66 69 := g26c.1 66 69 (by decide)
        have q26c_170 : h26c.1 66 70 = h.1 66 70 := g26c.1 66 70 (by decide)
        have q26c_171 : h26c.1 66 71 = h.1 66 71 := g26c.1 66 71 (by decide)
        have g172 : -2147483648 ≤ (h26c.1 66 57) ∧ (h26c.1 66 57) ≤ 2147483647 := i26c.1 66 57
        have g173 : -2147483648 ≤ (h26c.1 66 58) ∧ (h26c.1 66 58) ≤ 2147483647 := i26c.1 66 58
        exact J29 h26c i26c f26c (by first | exact mm_sm_rf | exact mm_sm_fr g26c (by decide)) (by first | exact mm_eY_rf | exact mm_eY_fr g26c (by decide)) (by omega)
  · skip
    exact mm_vret C T (mm_dec dk_X12_part 3 rfl) (by decide : 0 ≤ 0) (by decide : 0 ≤ 0) ⟨rfl, ⟨i0, f0, by first | exact w124_0 | exact mm_pt_rf (by omega) t0, by first | exact w124_1 | exact ⟨mm_TYy_rf, t3, Or.inl ⟨by omega, rfl, rfl⟩⟩, by omega, by first | exact fun _ q => w124_3 q | exact fun p _ => absurd p (by omega)⟩⟩
set_option maxRecDepth 100000 in
set_option maxHeartbeats 4000000 in
theorem c_X12_operand_q (l : Launch) (hl : l.stackTraces = false) (d : Nat) (hd : 4 ≤ d) (h : mH) (i0 : mm_inv h) (p1 : Int) (bp1 : 0 ≤ p1 ∧ p1 ≤ 1) (t0 : mm_tok h) (t1 : (h.1 66 57 = 0 → (mm_O h : Int) + 1 = h.1 66 71)) (t2 : h.1 66 69 + h.1 66 70 + 1000 ≤ 2397 + 2 * h.1 66 62) (t3 : h.1 66 70 ≤ h.1 66 62) (t4 : mm_aY h) : mm_Met l d yX12_operand cX12_operand 5 none [mR 66, mI p1] h (mm_pv fun h2 => mm_inv h2 ∧ mm_fr [(66, 57), (66, 58), (66, 60), (66, 61), (66, 62), (66, 63), (66, 64), (66, 65), (66, 66), (66, 69), (66, 70), (66, 71)] [107, 108, 109] h h2 ∧ mm_op h h2 ∧ mm_O9 (1 - p1) h h2 (mm_W9 (1 - p1) h h2 2 0) ∧ (h2.1 66 57 ≠ 0 ∨ (h.1 66 57 = 0 ∧ h2.1 66 58 = h.1 66 58)) ∧ mm_g0 h h2 (mm_WJ (1 - p1) h h2 2 0)) mm_nx 0 0 := by
  refine mm_ofW (ls := [mR 66, mI p1, mU, mU, mU]) hl (by decide) rfl (Nat.le_of_ble_eq_true rfl) ?_
  intro x hxl C T hnm htb
  subst hxl
  have C1 := mm_OK_le (d' := d - 1 + 1) (by omega) C
  refine mm_rng (fun hr _ => ?_)
  have ap1 : -2147483648 ≤ p1 ∧ p1 < 2147483648 := mm_ok_at hr (i := 1) rfl
  have f0 : mm_fr [(66, 57), (66, 58), (66, 60), (66, 61), (66, 62), (66, 63), (66, 64), (66, 65), (66, 66), (66, 69), (66, 70), (66, 71)] [107, 108, 109] h h := mm_fr_rf
  have g1 : -2147483648 ≤ h.1 66 57 ∧ h.1 66 57 ≤ 2147483647 := i0.1 66 57
  have g2 : 0 ≤ h.1 66 69 ∧ h.1 66 69 ≤ 2400 := i0.1 66 69
  have g3 : 0 ≤ h.1 66 70 ∧ h.1 66 70 ≤ 520 := i0.1 66 70
  have g4 : 0 ≤ h.1 66 62 ∧ h.1 66 62 ≤ 500 := i0.1 66 62
  have g5 : 0 ≤ h.1 66 60 ∧ h.1 66 60 ≤ 500 := i0.1 66 60
  have g6 : -2147483648 ≤ h.1 66 61 ∧ h.1 66 61 ≤ 2147483647 := i0.1 66 61
  have g7 : 0 ≤ h.1 66 71 ∧ h.1 66 71 ≤ 6 := i0.1 66 71
  have g8 : -2147483648 ≤ h.1 66 58 ∧ h.1 66 58 ≤ 2147483647 := i0.1 66 58
  refine mm_iload_n C (mm_dec dk_X12_operand 0 rfl) rfl ?_
  refine mm_istore_nL (ls2 := [mR 66, mI p1, mI p1, mU, mU]) C (mm_dec dk_X12_operand 1 rfl) (by decide) rfl ?_
  refine mm_iconst C (mm_dec dk_X12_operand 2 rfl) ⟨by decide, by decide⟩ ?_
  have J4 : ∀ (n : Nat) (x4_2 : Int) (bx4_2 : 0 ≤ x4_2 ∧ x4_2 ≤ 1) (x4_3 : Int) (bx4_3 : 0 ≤ x4_3 ∧ x4_3 ≤ 1) (h4_ : mH) (i4_ : mm_inv h4_) (f4_ : mm_fr [(66, 57), (66, 58), (66, 60), (66, 61), (66, 62), (66, 63), (66, 64), (66, 65), (66, 66), (66, 69), (66, 70), (66, 71)] [107, 108, 109] h h4_) (w4_0 : mm_o1 h h4_) (w4_1 : mm_I4 (1 - p1) h h4_ x4_2 x4_3) (w4_2 : (h4_.1 66 57 ≠ 0 ∨ (h.1 66 57 = 0 ∧ h4_.1 66 58 = h.1 66 58))) (w4_3 : mm_I4J (1 - p1) h h4_ x4_2 x4_3), (2 * (500 - h4_.1 66 62) + x4_3 : Int) < n → mm_W x 0 0 4 [mR 66, mU, mI x4_2, mI x4_3, mU] [] h4_ := by
    intro n
    induction n with
    | zero =>
      intro x4_2 bx4_2 x4_3 bx4_3 h4_ i4_ f4_ w4_0 w4_1 w4_2 w4_3 hm
      have g9 : -2147483648 ≤ h4_.1 66 57 ∧ h4_.1 66 57 ≤ 2147483647 := i4_.1 66 57
      have g10 : 0 ≤ h4_.1 66 69 ∧ h4_.1 66 69 ≤ 2400 := i4_.1 66 69
      have g11 : 0 ≤ h4_.1 66 70 ∧ h4_.1 66 70 ≤ 520 := i4_.1 66 70
      have g12 : 0 ≤ h4_.1 66 62 ∧ h4_.1 66 62 ≤ 500 := i4_.1 66 62
      have g13 : 0 ≤ h4_.1 66 60 ∧ h4_.1 66 60 ≤ 500 := i4_.1 66 60
      have g14 : -2147483648 ≤ h4_.1 66 61 ∧ h4_.1 66 61 ≤ 2147483647 := i4_.1 66 61
      have g15 : 0 ≤ h4_.1 66 71 ∧ h4_.1 66 71 ≤ 6 := i4_.1 66 71
      have g16 : -2147483648 ≤ h4_.1 66 58 ∧ h4_.1 66 58 ≤ 2147483647 := i4_.1 66 58
      exfalso; omega
    | succ n ih4 =>
      intro x4_2 bx4_2 x4_3 bx4_3 h4_ i4_ f4_ w4_0 w4_1 w4_2 w4_3 hm4
      have g17 : -2147483648 ≤ h4_.1 66 57 ∧ h4_.1 66 57 ≤ 2147483647 := i4_.1 66 57
      have g18 : 0 ≤ h4_.1 66 69 ∧ h4_.1 66 69 ≤ 2400 := i4_.1 66 69
      have g19 : 0 ≤ h4_.1 66 70 ∧ h4_.1 66 70 ≤ 520 := i4_.1 66 70
      have g20 : 0 ≤ h4_.1 66 62 ∧ h4_.1 66 62 ≤ 500 := i4_.1 66 62
      have g21 : 0 ≤ h4_.1 66 60 ∧ h4_.1 66 60 ≤ 500 := i4_.1 66 60
      have g22 : -2147483648 ≤ h4_.1 66 61 ∧ h4_.1 66 61 ≤ 2147483647 := i4_.1 66 61
      have g23 : 0 ≤ h4_.1 66 71 ∧ h4_.1 66 71 ≤ 6 := i4_.1 66 71
      have g24 : -2147483648 ≤ h4_.1 66 58 ∧ h4_.1 66 58 ≤ 2147483647 := i4_.1 66 58
      refine mm_iload_n C (mm_dec dk_X12_operand 4 rfl) rfl ?_
      have J120 : ∀ (w120_0 : (x4_3 = 0 ∨ h4_.1 66 57 ≠ 0)), mm_W x 0 0 120 [mR 66, mU, mU, mU, mU] [] h4_ := by
        intro w120_0
        have g25 : -2147483648 ≤ h4_.1 66 57 ∧ h4_.1 66 57 ≤ 2147483647 := i4_.1 66 57
        have g26 : 0 ≤ h4_.1 66 69 ∧ h4_.1 66 69 ≤ 2400 := i4_.1 66 69
        have g27 : 0 ≤ h4_.1 66 70 ∧ h4_.1 66 70 ≤ 520 := i4_.1 66 70
        have g28 : 0 ≤ h4_.1 66 62 ∧ h4_.1 66 62 ≤ 500 := i4_.1 66 62
        have g29 : 0 ≤ h4_.1 66 60 ∧ h4_.1 66 60 ≤ 500 := i4_.1 66 60
        have g30 : -2147483648 ≤ h4_.1 66 61 ∧ h4_.1 66 61 ≤ 2147483647 := i4_.1 66 61
        have g31 : 0 ≤ h4_.1 66 71 ∧ h4_.1 66 71 ≤ 6 := i4_.1 66 71
        have g32 : -2147483648 ≤ h4_.1 66 58 ∧ h4_.1 66 58 ≤ 2147483647 := i4_.1 66 58
        have zt := w4_0.1.2.2.1
        have zw := w4_0.1.2.2.2.2.2
        refine mm_aload_n C (mm_dec dk_X12_operand 60 rfl) rfl ?_
        refine mm_cVv (rest := []) C1 ev_X12_438 (mm_dec dk_X12_operand 61 rfl) (c_X12_part_q x.2.1 hl (d - 1) (by omega) h4_ i4_ (by first | exact w4_1.2.1 | exact w4_0.2.1 | omega) (by first | exact w4_1.2.1 | exact w4_0.2.1 | omega) (by first | exact w4_1.2.1 | exact w4_0.2.1 | omega) (by first | exact w4_1.2.1 | exact w4_0.2.1 | omega)) rfl rfl (Nat.le_of_ble_eq_true rfl) ⟨by decide, by decide⟩ rfl (fun h121c hp121 => ?_) (fun _ _ q => q.elim)
        obtain ⟨i121c, g121c, y121_0, y121_1, y121_2, y121_3⟩ := hp121
        have f121c : mm_fr [(66, 57), (66, 58), (66, 60), (66, 61), (66, 62), (66, 63), (66, 64), (66, 65), (66, 66), (66, 69), (66, 70), (66, 71)] [107, 108, 109] h h121c := mm_fr_tr f4_ g121c (by decide +kernel)
        have q121c_34 : h121c.1 66 70 = h4_.1 66 70 := g121c.1 66 70 (by decide)
        have q121c_35 : h121c.1 66 71 = h4_.1 66 71 := g121c.1 66 71 (by decide)
        have g36 : -2147483648 ≤ (h121c.1 66 57) ∧ (h121c.1 66 57) ≤ 2147483647 := i121c.1 66 57
        have g37 : 0 ≤ (h121c.1 66 69) ∧ (h121c.1 66 69) ≤ 2400 := i121c.1 66 69
        have g38 : 0 ≤ (h121c.1 66 62) ∧ (h121c.1 66 62) ≤ 500 := i121c.1 66 62
        have g39 : 0 ≤ (h121c.1 66 60) ∧ (h121c.1 66 60) ≤ 500 := i121c.1 66 60
        have g40 : -2147483648 ≤ (h121c.1 66 61) ∧ (h121c.1 66 61) ≤ 2147483647 := i121c.1 66 61
        have g41 : -2147483648 ≤ (h121c.1 66 58) ∧ (h121c.1 66 58) ≤ 2147483647 := i121c.1 66 58
        exact mm_vret C T (mm_dec dk_X12_operand 62 rfl) (by decide : 0 ≤ 0) (by decide : 0 ≤ 0) ⟨rfl, ⟨i121c, f121c, by exact mm_op_of w4_0 y121_0 (g121c.1 66 70 (by decide)) (g121c.1 66 71 (by decide)) (fun j => g121c.2 108 (by decide) j), by exact mm_O9_part w4_1 w120_0 y121_1 (mm_kY_eq (g121c.2 109 (by decide)) (g121c.1 66 71 (by decide))), by omega, by exact mm_WJ_part w4_1 w4_3 w120_0 (fun q => by omega) y121_3 y121_1 (mm_kY_eq (g121c.2 109 (by decide)) (g121c.1 66 71 (by decide)))⟩⟩
      refine mm_if_eq (tgt := 120) C (mm_dec dk_X12_operand 5 rfl) (by decide) (fun c5 => ?_) (fun c5 => ?_)
      · skip
        refine mm_fgt 2 ?_
        refine mm_fgt 3 ?_
        exact J120 (by omega)
      · skip
        refine mm_aload_n C (mm_dec dk_X12_operand 6 rfl) rfl ?_
        refine mm_cVi (rest := []) C1 ev_X12_413 (mm_dec dk_X12_operand 7 rfl) (c_X12_isGood x.2.1 hl (d - 1) (by omega) h4_ i4_ ) rfl rfl (Nat.le_of_ble_eq_true rfl) ⟨by decide, by decide⟩ rfl (fun r9 h9c hp9 => ?_) (fun _ _ q => q.elim)
        obtain ⟨z9, y9⟩ := hp9
        rw [z9]
        refine mm_if_eq (tgt := 120) C (mm_dec dk_X12_operand 8 rfl) (by decide) (fun c12 => ?_) (fun c12 => ?_)
        · skip
          refine mm_fgt 2 ?_
          refine mm_fgt 3 ?_
          exact J120 (by omega)
        · skip
          refine mm_iconst C (mm_dec dk_X12_operand 9 rfl) ⟨by decide, by decide⟩ ?_
          have J18 : ∀ (n : Nat) (x18_4 : Int) (bx18_4 : 0 ≤ x18_4 ∧ x18_4 ≤ 7) (h18_ : mH) (i18_ : mm_inv h18_) (f18_ : mm_fr [(66, 57), (66, 58), (66, 60), (66, 61), (66, 62), (66, 63), (66, 64), (66, 65), (66, 66), (66, 69), (66, 70), (66, 71)] [107, 108, 109] h h18_) (w18_0 : mm_o1 h h18_) (w18_1 : h4_.1 66 62 ≤ h18_.1 66 62) (w18_2 : (x18_4 ≤ 6 ∨ h18_.1 66 57 ≠ 0)) (w18_3 : mm_I8 (1 - p1) h h18_ x4_2 x18_4) (w18_4 : (h18_.1 66 57 ≠ 0 ∨ (h.1 66 57 = 0 ∧ h18_.1 66 58 = h.1 66 58))) (w18_5 : mm_I8J (1 - p1) h h18_ x4_2 x18_4), (7 - x18_4 : Int) < n → mm_W x 0 0 18 [mR 66, mU, mI x4_2, mU, mI x18_4] [] h18_ := by
            intro n
            induction n with
            | zero =>
              intro x18_4 bx18_4 h18_ i18_ f18_ w18_0 w18_1 w18_2 w18_3 w18_4 w18_5 hm
              have g43 : -2147483648 ≤ h18_.1 66 57 ∧ h18_.1 66 57 ≤ 2147483647 := i18_.1 66 57
              have g44 : 0 ≤ h18_.1 66 69 ∧ h18_.1 66 69 ≤ 2400 := i18_.1 66 69
              have g45 : 0 ≤ h18_.1 66 70 ∧ h18_.1 66 70 ≤ 520 := i18_.1 66 70
              have g46 : 0 ≤ h18_.1 66 62 ∧ h18_.1 66 62 ≤ 500 := i18_.1 66 62
              have g47 : 0 ≤ h18_.1 66 60 ∧ h18_.1 66 60 ≤ 500 := i18_.1 66 60
              have g48 : -2147483648 ≤ h18_.1 66 61 ∧ h18_.1 66 61 ≤ 2147483647 := i18_.1 66 61
              have g49 : 0 ≤ h18_.1 66 71 ∧ h18_.1 66 71 ≤ 6 := i18_.1 66 71
              have g50 : -2147483648 ≤ h18_.1 66 58 ∧ h18_.1 66 58 ≤ 2147483647 := i18_.1 66 58
              exfalso; omega
            | succ n ih18 =>
              intro x18_4 bx18_4 h18_ i18_ f18_ w18_0 w18_1 w18_2 w18_3 w18_4 w18_5 hm18
              have g51 : -2147483648 ≤ h18_.1 66 57 ∧ h18_.1 66 57 ≤ 2147483647 := i18_.1 66 57
              have g52 : 0 ≤ h18_.1 66 69 ∧ h18_.1 66 69 ≤ 2400 := i18_.1 66 69
              have g53 : 0 ≤ h18_.1 66 70 ∧ h18_.1 66 70 ≤ 520 := i18_.1 66 70
              have g54 : 0 ≤ h18_.1 66 62 ∧ h18_.1 66 62 ≤ 500 := i18_.1 66 62
              have g55 : 0 ≤ h18_.1 66 60 ∧ h18_.1 66 60 ≤ 500 := i18_.1 66 60
              have g56 : -2147483648 ≤ h18_.1 66 61 ∧ h18_.1 66 61 ≤ 2147483647 := i18_.1 66 61
              have g57 : 0 ≤ h18_.1 66 71 ∧ h18_.1 66 71 ≤ 6 := i18_.1 66 71
              have g58 : -2147483648 ≤ h18_.1 66 58 ∧ h18_.1 66 58 ≤ 2147483647 := i18_.1 66 58
              have tf18 := mm_cY_h w18_3.2.1
              refine mm_aload_n C (mm_dec dk_X12_operand 11 rfl) rfl ?_
              refine mm_cVi (rest := []) C1 ev_X12_413 (mm_dec dk_X12_operand 12 rfl) (c_X12_isGood x.2.1 hl (d - 1) (by omega) h18_ i18_ ) rfl rfl (Nat.le_of_ble_eq_true rfl) ⟨by decide, by decide⟩ rfl (fun r19 h19c hp19 => ?_) (fun _ _ q => q.elim)
              obtain ⟨z19, y19⟩ := hp19
              rw [z19]
              have J75 : ∀ (w75_0 : (h18_.1 66 57 ≠ 0 ∨ x4_2 = 0 ∨ mm_cY h18_ ≠ 6)), mm_W x 0 0 75 [mR 66, mU, mI x4_2, mU, mU] [] h18_ := by
                intro w75_0
                have g60 : -2147483648 ≤ h18_.1 66 57 ∧ h18_.1 66 57 ≤ 2147483647 := i18_.1 66 57
                have g61 : 0 ≤ h18_.1 66 69 ∧ h18_.1 66 69 ≤ 2400 := i18_.1 66 69
                have g62 : 0 ≤ h18_.1 66 70 ∧ h18_.1 66 70 ≤ 520 := i18_.1 66 70
                have g63 : 0 ≤ h18_.1 66 62 ∧ h18_.1 66 62 ≤ 500 := i18_.1 66 62
                have g64 : 0 ≤ h18_.1 66 60 ∧ h18_.1 66 60 ≤ 500 := i18_.1 66 60
                have g65 : -2147483648 ≤ h18_.1 66 61 ∧ h18_.1 66 61 ≤ 2147483647 := i18_.1 66 61
                have g66 : 0 ≤ h18_.1 66 71 ∧ h18_.1 66 71 ≤ 6 := i18_.1 66 71
                have g67 : -2147483648 ≤ h18_.1 66 58 ∧ h18_.1 66 58 ≤ 2147483647 := i18_.1 66 58
                refine mm_aload_n C (mm_dec dk_X12_operand 37 rfl) rfl ?_
                refine mm_cVi (rest := []) C1 ev_X12_413 (mm_dec dk_X12_operand 38 rfl) (c_X12_isGood x.2.1 hl (d - 1) (by omega) h18_ i18_ ) rfl rfl (Nat.le_of_ble_eq_true rfl) ⟨by decide, by decide⟩ rfl (fun r76 h76c hp76 => ?_) (fun _ _ q => q.elim)
                obtain ⟨z76, y76⟩ := hp76
                rw [z76]
                have J96 : ∀ (s96_0 : Int) (bs96_0 : 0 ≤ s96_0 ∧ s96_0 ≤ 1) (w96_0 : (s96_0 = 0 ∨ (h18_.1 66 57 = 0 ∧ h18_.1 66 61 = 3))) (w96_1 : ((s96_0 = 1 ∧ h18_.1 66 57 = 0 ∧ mm_cY h18_ = 140) ∨ (s96_0 = 0 ∧ (h18_.1 66 57 ≠ 0 ∨ mm_cY h18_ ≠ 140)))) (vs96_0 : (s96_0 = 0) ∨ (r76 ≠ 0 ∧ s96_0 = 1)), mm_W x 0 0 96 [mR 66, mU, mI x4_2, mU, mU] [mI s96_0] h18_ := by
                  intro s96_0 bs96_0 w96_0 w96_1 vs96_0
                  have g69 : -2147483648 ≤ h18_.1 66 57 ∧ h18_.1 66 57 ≤ 2147483647 := i18_.1 66 57
                  have g70 : 0 ≤ h18_.1 66 69 ∧ h18_.1 66 69 ≤ 2400 := i18_.1 66 69
                  have g71 : 0 ≤ h18_.1 66 70 ∧ h18_.1 66 70 ≤ 520 := i18_.1 66 70
                  have g72 : 0 ≤ h18_.1 66 62 ∧ h18_.1 66 62 ≤ 500 := i18_.1 66 62
                  have g73 : 0 ≤ h18_.1 66 60 ∧ h18_.1 66 60 ≤ 500 := i18_.1 66 60
                  have g74 : -2147483648 ≤ h18_.1 66 61 ∧ h18_.1 66 61 ≤ 2147483647 := i18_.1 66 61
                  have g75 : 0 ≤ h18_.1 66 71 ∧ h18_.1 66 71 ≤ 6 := i18_.1 66 71
                  have g76 : -2147483648 ≤ h18_.1 66 58 ∧ h18_.1 66 58 ≤ 2147483647 := i18_.1 66 58
                  refine mm_istore_nL (ls2 := [mR 66, mU, mI x4_2, mI s96_0, mU]) C (mm_dec dk_X12_operand 47 rfl) (by decide) rfl ?_
                  refine mm_iload_n C (mm_dec dk_X12_operand 48 rfl) rfl ?_
                  have J117 : ∀ (x117_2 : Int) (bx117_2 : 0 ≤ x117_2 ∧ x117_2 ≤ 1) (h117_ : mH) (i117_ : mm_inv h117_) (f117_ : mm_fr [(66, 57), (66, 58), (66, 60), (66, 61), (66, 62), (66, 63), (66, 64), (66, 65), (66, 66), (66, 69), (66, 70), (66, 71)] [107, 108, 109] h h117_) (w117_0 : mm_o1 h h117_) (w117_1 : (s96_0 = 0 ∨ h4_.1 66 62 + 1 ≤ h117_.1 66 62)) (w117_2 : h4_.1 66 62 ≤ h117_.1 66 62) (w117_3 : mm_I4 (1 - p1) h h117_ x117_2 s96_0) (w117_4 : (h117_.1 66 57 ≠ 0 ∨ (h.1 66 57 = 0 ∧ h117_.1 66 58 = h.1 66 58))) (w117_5 : mm_I4J (1 - p1) h h117_ x117_2 s96_0), mm_W x 0 0 117 [mR 66, mU, mI x117_2, mI s96_0, mU] [] h117_ := by
                    intro x117_2 bx117_2 h117_ i117_ f117_ w117_0 w117_1 w117_2 w117_3 w117_4 w117_5
                    have g77 : -2147483648 ≤ h117_.1 66 57 ∧ h117_.1 66 57 ≤ 2147483647 := i117_.1 66 57
                    have g78 : 0 ≤ h117_.1 66 69 ∧ h117_.1 66 69 ≤ 2400 := i117_.1 66 69
                    have g79 : 0 ≤ h117_.1 66 70 ∧ h117_.1 66 70 ≤ 520 := i117_.1 66 70
                    have g80 : 0 ≤ h117_.1 66 62 ∧ h117_.1 66 62 ≤ 500 := i117_.1 66 62
                    have g81 : 0 ≤ h117_.1 66 60 ∧ h117_.1 66 60 ≤ 500 := i117_.1 66 60
                    have g82 : -2147483648 ≤ h117_.1 66 61 ∧ h117_.1 66 61 ≤ 2147483647 := i117_.1 66 61
                    have g83 : 0 ≤ h117_.1 66 71 ∧ h117_.1 66 71 ≤ 6 := i117_.1 66 71
                    have g84 : -2147483648 ≤ h117_.1 66 58 ∧ h117_.1 66 58 ≤ 2147483647 := i117_.1 66 58
                    refine mm_goto (tgt := 4) C (mm_dec dk_X12_operand 59 rfl) (by decide) ?_
                    exact ih4 x117_2 ⟨by omega, by omega⟩ s96_0 ⟨by omega, by omega⟩ h117_ i117_ f117_ (by first | exact mm_o1_rf t0 t1 | exact w117_0) (by first | exact mm_I4_0 t4 rfl | exact w117_3) (by omega) (by first | exact mm_I4J_0 rfl | exact w117_5) (by omega)
                  refine mm_if_eq (tgt := 117) C (mm_dec dk_X12_operand 49 rfl) (by decide) (fun c98 => ?_) (fun c98 => ?_)
                  · skip
                    exact J117 x4_2 ⟨by omega, by omega⟩ h18_ i18_ f18_ (by first | exact w18_0 | exact zo.1) (by omega) (by omega) (by first | exact mm_I4_open w18_3 (by omega) (by omega) (by omega) zs8 ⟨by omega, by omega⟩ zk8 (by omega) y112_1 (by omega) | (rw [show s96_0 = 0 by omega]; exact mm_I4_end w18_3 (by omega) (by omega))) (by first | omega | (have zb := (y112_1).2; rcases zb with ⟨zb1, zb2, zb3, zb4⟩ | ⟨zb1, zb2, zb3⟩; (have zb5 := zb3.1; have zb6 := zb3.2; omega); (have zb7 := zb3 (by omega); have zb8 := zb7.2; split at zb8 <;> omega))) (by first | exact mm_I4J_open w18_3 w18_5 (by omega) (by omega) (by omega) y104_0 y104_1 (show 0 ≤ h18_.1 66 70 ∧ h18_.1 66 70 ≤ 520 from i18_.1 66 70).1 (g104c.1 66 69 (by decide)) (g104c.2 107 (by decide)) (mm_wo_fr g108c (by decide)) zs8 zk8 (by omega) (by omega) y112_1 (mm_wo_fr g112c (by decide)) (by omega) | (rw [show s96_0 = 0 by omega]; exact mm_I4J_end w18_5 (by omega) (by omega)))
                  · skip
                    have zw := w18_0.1.2.2.2.2.2
                    have zt := w18_0.1.2.2.1
                    refine mm_aload_n C (mm_dec dk_X12_operand 50 rfl) rfl ?_
                    refine mm_bipush C (mm_dec dk_X12_operand 51 rfl) ⟨by decide, by decide⟩ ?_
                    refine mm_cVv (rest := []) C1 ev_X12_432 (mm_dec dk_X12_operand 52 rfl) (c_X12_waitsFor_x x.2.1 hl (d - 1) (by omega) h18_ i18_ 13 (by omega)) rfl rfl (Nat.le_of_ble_eq_true rfl) ⟨by decide, by decide⟩ rfl (fun h104c hp104 => ?_) (fun _ _ q => q.elim)
                    obtain ⟨i104c, g104c, y104_0, y104_1⟩ := hp104
                    have f104c : mm_fr [(66, 57), (66, 58), (66, 60), (66, 61), (66, 62), (66, 63), (66, 64), (66, 65), (66, 66), (66, 69), (66, 70), (66, 71)] [107, 108, 109] h h104c := mm_fr_tr f18_ g104c (by decide +kernel)
                    have q104c_86 : h104c.1 66 57 = h18_.1 66 57 := g104c.1 66 57 (by decide)
                    have q104c_87 : h104c.1 66 58 = h18_.1 66 58 := g104c.1 66 58 (by decide)
                    have q104c_88 : h104c.1 66 60 = h18_.1 66 60 := g104c.1 66 60 (by decide)
                    have q104c_89 : h104c.1 66 61 = h18_.1 66 61 := g104c.1 66 61 (by decide)
                    have q104c_90 : h104c.1 66 62 = h18_.1 66 62 := g104c.1 66 62 (by decide)
                    have q104c_91 : h104c.1 66 69 = h18_.1 66 69 := g104c.1 66 69 (by decide)
                    have q104c_92 : h104c.1 66 71 = h18_.1 66 71 := g104c.1 66 71 (by decide)
                    have g93 : 0 ≤ (h104c.1 66 70) ∧ (h104c.1 66 70) ≤ 520 := i104c.1 66 70
                    refine mm_aload_n C (mm_dec dk_X12_operand 53 rfl) rfl ?_
                    refine mm_cVv (rest := []) C1 ev_X12_423 (mm_dec dk_X12_operand 54 rfl) (c_X12_goes_q x.2.1 hl (d - 1) (by omega) h104c i104c ) rfl rfl (Nat.le_of_ble_eq_true rfl) ⟨by decide, by decide⟩ rfl (fun h108c hp108 => ?_) (fun _ _ q => q.elim)
                    obtain ⟨i108c, g108c, y108_0, y108_1, y108_2, y108_3, y108_4⟩ := hp108
                    have f108c : mm_fr [(66, 57), (66, 58), (66, 60), (66, 61), (66, 62), (66, 63), (66, 64), (66, 65), (66, 66), (66, 69), (66, 70), (66, 71)] [107, 108, 109] h h108c := mm_fr_tr f104c g108c (by decide +kernel)
                    have q108c_95 : h108c.1 66 57 = h104c.1 66 57 := g108c.1 66 57 (by decide)
                    have q108c_96 : h108c.1 66 58 = h104c.1 66 58 := g108c.1 66 58 (by decide)
                    have q108c_97 : h108c.1 66 69 = h104c.1 66 69 := g108c.1 66 69 (by decide)
                    have q108c_98 : h108c.1 66 70 = h104c.1 66 70 := g108c.1 66 70 (by decide)
                    have q108c_99 : h108c.1 66 71 = h104c.1 66 71 := g108c.1 66 71 (by decide)
                    have g100 : 0 ≤ (h108c.1 66 62) ∧ (h108c.1 66 62) ≤ 500 := i108c.1 66 62
                    have g101 : 0 ≤ (h108c.1 66 60) ∧ (h108c.1 66 60) ≤ 500 := i108c.1 66 60
                    have g102 : -2147483648 ≤ (h108c.1 66 61) ∧ (h108c.1 66 61) ≤ 2147483647 := i108c.1 66 61
                    refine mm_aload_n C (mm_dec dk_X12_operand 55 rfl) rfl ?_
                    have zs8 := mm_st9_e (mm_eY_fr g104c (by decide)) (mm_st9_of (mm_eY_a (mm_eY_fr g104c (by decide)) w18_3.2.1) y108_3 y108_4 g108c (by decide))
                    have zk8 : mm_kY h108c = mm_kY h18_ := mm_kY_eq (fun j => (g108c.2 109 (by decide) j).trans (g104c.2 109 (by decide) j)) (by omega)
                    refine mm_cVv (rest := []) C1 ev_X12_435 (mm_dec dk_X12_operand 56 rfl) (c_X12_begins_q x.2.1 hl (d - 1) (by omega) h108c i108c (by first | exact y108_3 | omega)) rfl rfl (Nat.le_of_ble_eq_true rfl) ⟨by decide, by decide⟩ rfl (fun h112c hp112 => ?_) (fun _ _ q => q.elim)
                    obtain ⟨i112c, g112c, y112_0, y112_1⟩ := hp112
                    have f112c : mm_fr [(66, 57), (66, 58), (66, 60), (66, 61), (66, 62), (66, 63), (66, 64), (66, 65), (66, 66), (66, 69), (66, 70), (66, 71)] [107, 108, 109] h h112c := mm_fr_tr f108c g112c (by decide +kernel)
                    have q112c_104 : h112c.1 66 60 = h108c.1 66 60 := g112c.1 66 60 (by decide)
                    have q112c_105 : h112c.1 66 61 = h108c.1 66 61 := g112c.1 66 61 (by decide)
                    have q112c_106 : h112c.1 66 62 = h108c.1 66 62 := g112c.1 66 62 (by decide)
                    have q112c_107 : h112c.1 66 69 = h108c.1 66 69 := g112c.1 66 69 (by decide)
                    have q112c_108 : h112c.1 66 70 = h108c.1 66 70 := g112c.1 66 70 (by decide)
                    have g109 : -2147483648 ≤ (h112c.1 66 57) ∧ (h112c.1 66 57) ≤ 2147483647 := i112c.1 66 57
                    have g110 : 0 ≤ (h112c.1 66 71) ∧ (h112c.1 66 71) ≤ 6 := i112c.1 66 71
                    have g111 : -2147483648 ≤ (h112c.1 66 58) ∧ (h112c.1 66 58) ≤ 2147483647 := i112c.1 66 58
                    have zo := mm_o1_open w18_0 i18_ (by omega) y104_0 y104_1 g104c g108c y108_0 y108_1 y108_2 g112c y112_0
                    have zp := zo.2
                    refine mm_iconst C (mm_dec dk_X12_operand 57 rfl) ⟨by decide, by decide⟩ ?_
                    refine mm_istore_nL (ls2 := [mR 66, mU, mI 1, mI s96_0, mU]) C (mm_dec dk_X12_operand 58 rfl) (by decide) rfl ?_
                    exact J117 1 ⟨by omega, by omega⟩ h112c i112c f112c (by first | exact w18_0 | exact zo.1) (by omega) (by omega) (by first | exact mm_I4_open w18_3 (by omega) (by omega) (by omega) zs8 ⟨by omega, by omega⟩ zk8 (by omega) y112_1 (by omega) | (rw [show s96_0 = 0 by omega]; exact mm_I4_end w18_3 (by omega) (by omega))) (by first | omega | (have zb := (y112_1).2; rcases zb with ⟨zb1, zb2, zb3, zb4⟩ | ⟨zb1, zb2, zb3⟩; (have zb5 := zb3.1; have zb6 := zb3.2; omega); (have zb7 := zb3 (by omega); have zb8 := zb7.2; split at zb8 <;> omega))) (by first | exact mm_I4J_open w18_3 w18_5 (by omega) (by omega) (by omega) y104_0 y104_1 (show 0 ≤ h18_.1 66 70 ∧ h18_.1 66 70 ≤ 520 from i18_.1 66 70).1 (g104c.1 66 69 (by decide)) (g104c.2 107 (by decide)) (mm_wo_fr g108c (by decide)) zs8 zk8 (by omega) (by omega) y112_1 (mm_wo_fr g112c (by decide)) (by omega) | (rw [show s96_0 = 0 by omega]; exact mm_I4J_end w18_5 (by omega) (by omega)))
                have J95 : ∀ (w95_0 : (h18_.1 66 57 ≠ 0 ∨ mm_cY h18_ ≠ 140)), mm_W x 0 0 95 [mR 66, mU, mI x4_2, mU, mU] [] h18_ := by
                  intro w95_0
                  have g112 : -2147483648 ≤ h18_.1 66 57 ∧ h18_.1 66 57 ≤ 2147483647 := i18_.1 66 57
                  have g113 : 0 ≤ h18_.1 66 69 ∧ h18_.1 66 69 ≤ 2400 := i18_.1 66 69
                  have g114 : 0 ≤ h18_.1 66 70 ∧ h18_.1 66 70 ≤ 520 := i18_.1 66 70
                  have g115 : 0 ≤ h18_.1 66 62 ∧ h18_.1 66 62 ≤ 500 := i18_.1 66 62
                  have g116 : 0 ≤ h18_.1 66 60 ∧ h18_.1 66 60 ≤ 500 := i18_.1 66 60
                  have g117 : -2147483648 ≤ h18_.1 66 61 ∧ h18_.1 66 61 ≤ 2147483647 := i18_.1 66 61
                  have g118 : 0 ≤ h18_.1 66 71 ∧ h18_.1 66 71 ≤ 6 := i18_.1 66 71
                  have g119 : -2147483648 ≤ h18_.1 66 58 ∧ h18_.1 66 58 ≤ 2147483647 := i18_.1 66 58
                  refine mm_iconst C (mm_dec dk_X12_operand 46 rfl) ⟨by decide, by decide⟩ ?_
                  exact J96 0 ⟨by omega, by omega⟩ (by omega) (by first | omega | (have zz := mm_hd9x tf18; omega)) (Or.inl rfl)
                refine mm_if_eq (tgt := 95) C (mm_dec dk_X12_operand 39 rfl) (by decide) (fun c79 => ?_) (fun c79 => ?_)
                · skip
                  exact J95 (by first | omega | (have zz := mm_hd9x tf18; omega))
                · skip
                  refine mm_aload_n C (mm_dec dk_X12_operand 40 rfl) rfl ?_
                  refine mm_bipush C (mm_dec dk_X12_operand 41 rfl) ⟨by decide, by decide⟩ ?_
                  refine mm_cVi (rest := []) C1 ev_X12_429 (mm_dec dk_X12_operand 42 rfl) (c_X12_isSign x.2.1 hl (d - 1) (by omega) h18_ i18_ 40) rfl rfl (Nat.le_of_ble_eq_true rfl) ⟨by decide, by decide⟩ rfl (fun r85 h85c hp85 => ?_) (fun _ _ q => q.elim)
                  obtain ⟨z85, y85⟩ := hp85
                  rw [z85]
                  have g121 : -2147483648 ≤ (h18_.1 66 65) ∧ (h18_.1 66 65) ≤ 2147483647 := i18_.1 66 65
                  refine mm_if_eq (tgt := 95) C (mm_dec dk_X12_operand 43 rfl) (by decide) (fun c88 => ?_) (fun c88 => ?_)
                  · skip
                    exact J95 (by first | omega | (have zz := mm_hd9x tf18; omega))
                  · skip
                    refine mm_iconst C (mm_dec dk_X12_operand 44 rfl) ⟨by decide, by decide⟩ ?_
                    refine mm_goto (tgt := 96) C (mm_dec dk_X12_operand 45 rfl) (by decide) ?_
                    exact J96 1 ⟨by omega, by omega⟩ (by omega) (by first | omega | (have zz := mm_hd9x tf18; omega)) (Or.inr (⟨by omega, rfl⟩))
              refine mm_if_eq (tgt := 75) C (mm_dec dk_X12_operand 13 rfl) (by decide) (fun c22 => ?_) (fun c22 => ?_)
              · skip
                refine mm_fgt 4 ?_
                exact J75 (by first | omega | (have zk := mm_kw9_x y30_1; omega))
              · skip
                refine mm_iload_n C (mm_dec dk_X12_operand 14 rfl) rfl ?_
                refine mm_if_eq (tgt := 75) C (mm_dec dk_X12_operand 15 rfl) (by decide) (fun c26 => ?_) (fun c26 => ?_)
                · skip
                  refine mm_fgt 4 ?_
                  exact J75 (by first | omega | (have zk := mm_kw9_x y30_1; omega))
                · skip
                  refine mm_aload_n C (mm_dec dk_X12_operand 16 rfl) rfl ?_
                  refine mm_cVi (rest := []) C1 ev_X12_419 (mm_dec dk_X12_operand 17 rfl) (c_X12_knownWord_q x.2.1 hl (d - 1) (by omega) h18_ i18_ (by first | exact w18_3.2.1 | omega)) rfl rfl (Nat.le_of_ble_eq_true rfl) ⟨by decide, by decide⟩ rfl (fun r30 h30c hp30 => ?_) (fun _ _ q => q.elim)
                  obtain ⟨b30, z30, y30_0, y30_1⟩ := hp30
                  rw [z30]
                  refine mm_bipush C (mm_dec dk_X12_operand 18 rfl) ⟨by decide, by decide⟩ ?_
                  refine mm_icmp_ne (tgt := 75) C (mm_dec dk_X12_operand 19 rfl) (by decide) (fun c35 => ?_) (fun c35 => ?_)
                  · skip
                    refine mm_fgt 4 ?_
                    exact J75 (by first | omega | (have zk := mm_kw9_x y30_1; omega))
                  · skip
                    have zc6 : mm_cY h18_ = 6 := by have zk := mm_kw9_x y30_1; omega
                    refine mm_iload C (mm_dec dk_X12_operand 20 rfl) rfl ?_
                    refine mm_bipush C (mm_dec dk_X12_operand 21 rfl) ⟨by decide, by decide⟩ ?_
                    have J50 : ∀ (h50_ : mH) (i50_ : mm_inv h50_) (f50_ : mm_fr [(66, 57), (66, 58), (66, 60), (66, 61), (66, 62), (66, 63), (66, 64), (66, 65), (66, 66), (66, 69), (66, 70), (66, 71)] [107, 108, 109] h h50_) (w50_0 : mm_sm h18_ h50_) (w50_1 : (h50_.1 66 57 = 0 → h18_.1 66 57 = 0 ∧ x18_4 ≠ 6)) (w50_2 : mm_eY h18_ h50_) (w50_3 : ((h50_.1 66 57 = 0 ∧ h50_.1 66 58 = h18_.1 66 58 ∧ x18_4 ≠ 6) ∨ (h50_.1 66 57 = 2 ∧ h50_.1 66 58 = h18_.1 66 62 ∧ x18_4 = 6))) (w50_4 : ∀ j, h50_.2.1 109 j = h18_.2.1 109 j) (w50_5 : h50_.1 66 71 = h18_.1 66 71), mm_W x 0 0 50 [mR 66, mU, mI x4_2, mU, mI x18_4] [] h50_ := by
                      intro h50_ i50_ f50_ w50_0 w50_1 w50_2 w50_3 w50_4 w50_5
                      have g123 : -2147483648 ≤ h50_.1 66 57 ∧ h50_.1 66 57 ≤ 2147483647 := i50_.1 66 57
                      have g124 : 0 ≤ h50_.1 66 69 ∧ h50_.1 66 69 ≤ 2400 := i50_.1 66 69
                      have g125 : 0 ≤ h50_.1 66 70 ∧ h50_.1 66 70 ≤ 520 := i50_.1 66 70
                      have g126 : 0 ≤ h50_.1 66 62 ∧ h50_.1 66 62 ≤ 500 := i50_.1 66 62
                      have g127 : 0 ≤ h50_.1 66 60 ∧ h50_.1 66 60 ≤ 500 := i50_.1 66 60
                      have g128 : -2147483648 ≤ h50_.1 66 61 ∧ h50_.1 66 61 ≤ 2147483647 := i50_.1 66 61
                      have g129 : 0 ≤ h50_.1 66 71 ∧ h50_.1 66 71 ≤ 6 := i50_.1 66 71
                      have g130 : -2147483648 ≤ h50_.1 66 58 ∧ h50_.1 66 58 ≤ 2147483647 := i50_.1 66 58
                      have z62 := w50_0.2.2.1
                      refine mm_iincL (ls2 := [mR 66, mU, mI x4_2, mU, mI (x18_4 + 1)]) C (mm_dec dk_X12_operand 26 rfl) rfl (by decide) ⟨by omega, by omega⟩ rfl ?_
                      refine mm_aload_n C (mm_dec dk_X12_operand 27 rfl) rfl ?_
                      refine mm_cVi (rest := []) C1 ev_X12_413 (mm_dec dk_X12_operand 28 rfl) (c_X12_isGood x.2.1 hl (d - 1) (by omega) h50_ i50_ ) rfl rfl (Nat.le_of_ble_eq_true rfl) ⟨by decide, by decide⟩ rfl (fun r54 h54c hp54 => ?_) (fun _ _ q => q.elim)
                      obtain ⟨z54, y54⟩ := hp54
                      rw [z54]
                      refine mm_if_ne (tgt := 63) C (mm_dec dk_X12_operand 29 rfl) (by decide) (fun c57 => ?_) (fun c57 => ?_)
                      · skip
                        have zs := w50_0.2.2.2.2.1
                        have z70 := w50_0.2.1
                        have z62 := w50_0.2.2.1
                        have z69 := w50_0.1
                        have zw := w18_0.1.2.2.2.2.2
                        have zt := w18_0.1.2.2.1
                        refine mm_aload_n C (mm_dec dk_X12_operand 31 rfl) rfl ?_
                        refine mm_iconst C (mm_dec dk_X12_operand 32 rfl) ⟨by decide, by decide⟩ ?_
                        refine mm_cVv (rest := []) C1 ev_X12_432 (mm_dec dk_X12_operand 33 rfl) (c_X12_waitsFor_x x.2.1 hl (d - 1) (by omega) h50_ i50_ 4 (by omega)) rfl rfl (Nat.le_of_ble_eq_true rfl) ⟨by decide, by decide⟩ rfl (fun h65c hp65 => ?_) (fun _ _ q => q.elim)
                        obtain ⟨i65c, g65c, y65_0, y65_1⟩ := hp65
                        have f65c : mm_fr [(66, 57), (66, 58), (66, 60), (66, 61), (66, 62), (66, 63), (66, 64), (66, 65), (66, 66), (66, 69), (66, 70), (66, 71)] [107, 108, 109] h h65c := mm_fr_tr f50_ g65c (by decide +kernel)
                        have q65c_133 : h65c.1 66 57 = h50_.1 66 57 := g65c.1 66 57 (by decide)
                        have q65c_134 : h65c.1 66 58 = h50_.1 66 58 := g65c.1 66 58 (by decide)
                        have q65c_135 : h65c.1 66 60 = h50_.1 66 60 := g65c.1 66 60 (by decide)
                        have q65c_136 : h65c.1 66 61 = h50_.1 66 61 := g65c.1 66 61 (by decide)
                        have q65c_137 : h65c.1 66 62 = h50_.1 66 62 := g65c.1 66 62 (by decide)
                        have q65c_138 : h65c.1 66 69 = h50_.1 66 69 := g65c.1 66 69 (by decide)
                        have q65c_139 : h65c.1 66 71 = h50_.1 66 71 := g65c.1 66 71 (by decide)
                        have g140 : 0 ≤ (h65c.1 66 70) ∧ (h65c.1 66 70) ≤ 520 := i65c.1 66 70
                        refine mm_aload_n C (mm_dec dk_X12_operand 34 rfl) rfl ?_
                        refine mm_cVv (rest := []) C1 ev_X12_423 (mm_dec dk_X12_operand 35 rfl) (c_X12_goes_q x.2.1 hl (d - 1) (by omega) h65c i65c ) rfl rfl (Nat.le_of_ble_eq_true rfl) ⟨by decide, by decide⟩ rfl (fun h69c hp69 => ?_) (fun _ _ q => q.elim)
                        obtain ⟨i69c, g69c, y69_0, y69_1, y69_2, y69_3, y69_4⟩ := hp69
                        have f69c : mm_fr [(66, 57), (66, 58), (66, 60), (66, 61), (66, 62), (66, 63), (66, 64), (66, 65), (66, 66), (66, 69), (66, 70), (66, 71)] [107, 108, 109] h h69c := mm_fr_tr f65c g69c (by decide +kernel)
                        have q69c_142 : h69c.1 66 57 = h65c.1 66 57 := g69c.1 66 57 (by decide)
                        have q69c_143 : h69c.1 66 58 = h65c.1 66 58 := g69c.1 66 58 (by decide)
                        have q69c_144 : h69c.1 66 69 = h65c.1 66 69 := g69c.1 66 69 (by decide)
                        have q69c_145 : h69c.1 66 70 = h65c.1 66 70 := g69c.1 66 70 (by decide)
                        have q69c_146 : h69c.1 66 71 = h65c.1 66 71 := g69c.1 66 71 (by decide)
                        have g147 : 0 ≤ (h69c.1 66 62) ∧ (h69c.1 66 62) ≤ 500 := i69c.1 66 62
                        have g148 : 0 ≤ (h69c.1 66 60) ∧ (h69c.1 66 60) ≤ 500 := i69c.1 66 60
                        have g149 : -2147483648 ≤ (h69c.1 66 61) ∧ (h69c.1 66 61) ≤ 2147483647 := i69c.1 66 61
                        have zo := mm_o1_not (mm_o1_sm w18_0 w50_0 (by omega)) i50_ (by omega) y65_0 y65_1 g65c g69c y69_0 y69_1 y69_2
                        have zp := zo.2
                        have zs9 := mm_st9_e (mm_eY_tr w50_2 (mm_eY_fr g65c (by decide))) (mm_st9_of (mm_eY_a (mm_eY_tr w50_2 (mm_eY_fr g65c (by decide))) w18_3.2.1) y69_3 y69_4 g69c (by decide))
                        have zky : mm_kY h69c = mm_kY h18_ := mm_kY_eq (fun j => (g69c.2 109 (by decide) j).trans ((g65c.2 109 (by decide) j).trans (w50_4 j))) (by omega)
                        refine mm_goto (tgt := 18) C (mm_dec dk_X12_operand 36 rfl) (by decide) ?_
                        exact ih18 (x18_4 + 1) ⟨by omega, by omega⟩ h69c i69c f69c (by first | exact w4_0 | exact zo.1 | exact mm_o1_sm w18_0 w50_0 (by omega)) (by omega) (by omega) (by first | exact mm_I8_4 w4_1 (by omega) | exact mm_I8_s w18_3 (by omega) (by omega) (by omega) zc6 zs9 ⟨by omega, by omega⟩ zky | exact mm_I8_bad w18_3 (by omega) (by omega) (by omega) zc6 w50_2 (by omega) (by omega)) (by omega) (by first | exact mm_I8J_4 w4_3 (by omega) | exact mm_I8J_s w18_3 w18_5 (by omega) (by omega) (by omega) zc6 ⟨w50_0.1, w50_0.2.1, w50_0.2.2.2.2.2.2.1, w50_0.2.2.2.2.2.2.2⟩ y65_0 y65_1 (show 0 ≤ h50_.1 66 70 ∧ h50_.1 66 70 ≤ 520 from i50_.1 66 70).1 (g65c.1 66 69 (by decide)) (g65c.2 107 (by decide)) (mm_wo_fr g69c (by decide)) zs9 zky | exact mm_I8J_no (by omega)) (by omega)
                      · skip
                        refine mm_goto (tgt := 18) C (mm_dec dk_X12_operand 30 rfl) (by decide) ?_
                        exact ih18 (x18_4 + 1) ⟨by omega, by omega⟩ h50_ i50_ f50_ (by first | exact w4_0 | exact zo.1 | exact mm_o1_sm w18_0 w50_0 (by omega)) (by omega) (by omega) (by first | exact mm_I8_4 w4_1 (by omega) | exact mm_I8_s w18_3 (by omega) (by omega) (by omega) zc6 zs9 ⟨by omega, by omega⟩ zky | exact mm_I8_bad w18_3 (by omega) (by omega) (by omega) zc6 w50_2 (by omega) (by omega)) (by omega) (by first | exact mm_I8J_4 w4_3 (by omega) | exact mm_I8J_s w18_3 w18_5 (by omega) (by omega) (by omega) zc6 ⟨w50_0.1, w50_0.2.1, w50_0.2.2.2.2.2.2.1, w50_0.2.2.2.2.2.2.2⟩ y65_0 y65_1 (show 0 ≤ h50_.1 66 70 ∧ h50_.1 66 70 ≤ 520 from i50_.1 66 70).1 (g65c.1 66 69 (by decide)) (g65c.2 107 (by decide)) (mm_wo_fr g69c (by decide)) zs9 zky | exact mm_I8J_no (by omega)) (by omega)
                    refine mm_icmp_ne (tgt := 50) C (mm_dec dk_X12_operand 22 rfl) (by decide) (fun c42 => ?_) (fun c42 => ?_)
                    · skip
                      exact J50 h18_ i18_ f18_ (by first | exact mm_sm_rf | exact mm_sm_fr g47c (by decide)) (by omega) (by first | exact mm_eY_rf | exact mm_eY_fr g47c (by decide)) (by omega) (by first | exact fun _ => rfl | exact g47c.2 109 (by decide)) (by omega)
                    · skip
                      refine mm_aload_n C (mm_dec dk_X12_operand 23 rfl) rfl ?_
                      refine mm_iconst C (mm_dec dk_X12_operand 24 rfl) ⟨by decide, by decide⟩ ?_
                      refine mm_cVv (rest := []) C1 ev_X12_417 (mm_dec dk_X12_operand 25 rfl) (c_X12_wrong_q x.2.1 hl (d - 1) (by omega) h18_ i18_ 2 (by omega)) rfl rfl (Nat.le_of_ble_eq_true rfl) ⟨by decide, by decide⟩ rfl (fun h47c hp47 => ?_) (fun _ _ q => q.elim)
                      obtain ⟨i47c, g47c, y47_0, y47_1⟩ := hp47
                      have f47c : mm_fr [(66, 57), (66, 58), (66, 60), (66, 61), (66, 62), (66, 63), (66, 64), (66, 65), (66, 66), (66, 69), (66, 70), (66, 71)] [107, 108, 109] h h47c := mm_fr_tr f18_ g47c (by decide +kernel)
                      have q47c_151 : h47c.1 66 60 = h18_.1 66 60 := g47c.1 66 60 (by decide)
                      have q47c_152 : h47c.1 66 61 = h18_.1 66 61 := g47c.1 66 61 (by decide)
                      have q47c_153 : h47c.1 66 62 = h18_.1 66 62 := g47c.1 66 62 (by decide)
                      have q47c_154 : h47c.1 66 69 = h18_.1 66 69 := g47c.1 66 69 (by decide)
                      have q47c_155 : h47c.1 66 70 = h18_.1 66 70 := g47c.1 66 70 (by decide)
                      have q47c_156 : h47c.1 66 71 = h18_.1 66 71 := g47c.1 66 71 (by decide)
                      have g157 : -2147483648 ≤ (h47c.1 66 57) ∧ (h47c.1 66 57) ≤ 2147483647 := i47c.1 66 57
                      have g158 : -2147483648 ≤ (h47c.1 66 58) ∧ (h47c.1 66 58) ≤ 2147483647 := i47c.1 66 58
                      exact J50 h47c i47c f47c (by first | exact mm_sm_rf | exact mm_sm_fr g47c (by decide)) (by omega) (by first | exact mm_eY_rf | exact mm_eY_fr g47c (by decide)) (by omega) (by first | exact fun _ => rfl | exact g47c.2 109 (by decide)) (by omega)
          refine mm_istoreL (ls2 := [mR 66, mU, mI x4_2, mI x4_3, mI 0]) C (mm_dec dk_X12_operand 10 rfl) (by decide) rfl ?_
          refine mm_fgt 3 ?_
          exact J18 (((7 - 0) : Int) + 1).toNat 0 ⟨by omega, by omega⟩ h4_ i4_ f4_ (by first | exact w4_0 | exact zo.1 | exact mm_o1_sm w18_0 w50_0 (by omega)) (by omega) (by omega) (by first | exact mm_I8_4 w4_1 (by omega) | exact mm_I8_s w18_3 (by omega) (by omega) (by omega) zc6 zs9 ⟨by omega, by omega⟩ zky | exact mm_I8_bad w18_3 (by omega) (by omega) (by omega) zc6 w50_2 (by omega) (by omega)) (by omega) (by first | exact mm_I8J_4 w4_3 (by omega) | exact mm_I8J_s w18_3 w18_5 (by omega) (by omega) (by omega) zc6 ⟨w50_0.1, w50_0.2.1, w50_0.2.2.2.2.2.2.1, w50_0.2.2.2.2.2.2.2⟩ y65_0 y65_1 (show 0 ≤ h50_.1 66 70 ∧ h50_.1 66 70 ≤ 520 from i50_.1 66 70).1 (g65c.1 66 69 (by decide)) (g65c.2 107 (by decide)) (mm_wo_fr g69c (by decide)) zs9 zky | exact mm_I8J_no (by omega)) (by omega)
  refine mm_istore_nL (ls2 := [mR 66, mI p1, mI p1, mI 1, mU]) C (mm_dec dk_X12_operand 3 rfl) (by decide) rfl ?_
  refine mm_fgt 1 ?_
  exact J4 (((2 * (500 - h.1 66 62) + 1) : Int) + 1).toNat p1 ⟨by omega, by omega⟩ 1 ⟨by omega, by omega⟩ h i0 f0 (by first | exact mm_o1_rf t0 t1 | exact w117_0) (by first | exact mm_I4_0 t4 rfl | exact w117_3) (by omega) (by first | exact mm_I4J_0 rfl | exact w117_5) (by omega)
