set_option maxRecDepth 100000 in
set_option maxHeartbeats 4000000 in
theorem c_X12_clause_q (l : Launch) (hl : l.stackTraces = false) (d : Nat) (hd : 6 ≤ d) (h : mH) (i0 : mm_inv h) (p1 : Int) (bp1 : 0 ≤ p1 ∧ p1 ≤ 1) (t0 : mm_tok h) (t1 : h.1 66 57 = 0) (t2 : h.1 66 61 ≠ 0) (t3 : 1200 * p1 ≤ h.1 66 69) (t4 : h.1 66 69 ≤ 1200 * p1 + 2 * h.1 66 62) (t5 : mm_cg h p1 (h.1 66 69)) (t6 : mm_aY h) : mm_Met l d yX12_clause cX12_clause 4 none [mR 66, mI p1] h (mm_pv fun h2 => mm_inv h2 ∧ mm_fr [(66, 57), (66, 58), (66, 60), (66, 61), (66, 62), (66, 63), (66, 64), (66, 65), (66, 66), (66, 69), (66, 70), (66, 71)] [102, 103, 104, 105, 106, 107, 108, 109] h h2 ∧ mm_rl h h2 p1 ∧ (h2.1 66 57 = 0 → h.1 66 62 + 1 ≤ h2.1 66 62) ∧ mm_C9 p1 h h2 ∧ (h2.1 66 57 ≠ 0 ∨ (h.1 66 57 = 0 ∧ h2.1 66 58 = h.1 66 58)) ∧ mm_CJ p1 h h2) mm_nx 0 0 := by
  refine mm_ofW (ls := [mR 66, mI p1, mU, mU]) hl (by decide) rfl (Nat.le_of_ble_eq_true rfl) ?_
  intro x hxl C T hnm htb
  subst hxl
  have C1 := mm_OK_le (d' := d - 1 + 1) (by omega) C
  refine mm_rng (fun hr _ => ?_)
  have ap1 : -2147483648 ≤ p1 ∧ p1 < 2147483648 := mm_ok_at hr (i := 1) rfl
  have f0 : mm_fr [(66, 57), (66, 58), (66, 60), (66, 61), (66, 62), (66, 63), (66, 64), (66, 65), (66, 66), (66, 69), (66, 70), (66, 71)] [102, 103, 104, 105, 106, 107, 108, 109] h h := mm_fr_rf
  have g1 : -2147483648 ≤ h.1 66 57 ∧ h.1 66 57 ≤ 2147483647 := i0.1 66 57
  have g2 : 0 ≤ h.1 66 69 ∧ h.1 66 69 ≤ 2400 := i0.1 66 69
  have g3 : 0 ≤ h.1 66 70 ∧ h.1 66 70 ≤ 520 := i0.1 66 70
  have g4 : 0 ≤ h.1 66 62 ∧ h.1 66 62 ≤ 500 := i0.1 66 62
  have g5 : 0 ≤ h.1 66 60 ∧ h.1 66 60 ≤ 500 := i0.1 66 60
  have g6 : -2147483648 ≤ h.1 66 61 ∧ h.1 66 61 ≤ 2147483647 := i0.1 66 61
  have g7 : 0 ≤ h.1 66 71 ∧ h.1 66 71 ≤ 6 := i0.1 66 71
  have g8 : -2147483648 ≤ h.1 66 58 ∧ h.1 66 58 ≤ 2147483647 := i0.1 66 58
  have g9 : -2147483648 ≤ h.1 66 63 ∧ h.1 66 63 ≤ 2147483647 := i0.1 66 63
  have g10 : -2147483648 ≤ h.1 66 65 ∧ h.1 66 65 ≤ 2147483647 := i0.1 66 65
  have tf := mm_cY_h t6
  refine mm_aload_n C (mm_dec dk_X12_clause 0 rfl) rfl ?_
  refine mm_cVi (rest := []) C1 ev_X12_419 (mm_dec dk_X12_clause 1 rfl) (c_X12_knownWord_q x.2.1 hl (d - 1) (by omega) h i0 (by first | exact t6 | omega)) rfl rfl (Nat.le_of_ble_eq_true rfl) ⟨by decide, by decide⟩ rfl (fun r1 h1c hp1 => ?_) (fun _ _ q => q.elim)
  obtain ⟨b1, z1, y1_0, y1_1⟩ := hp1
  rw [z1]
  refine mm_istore_nL (ls2 := [mR 66, mI p1, mI r1, mU]) C (mm_dec dk_X12_clause 2 rfl) (by decide) rfl ?_
  refine mm_iload_n C (mm_dec dk_X12_clause 3 rfl) rfl ?_
  have J24 : ∀ (h24_ : mH) (i24_ : mm_inv h24_) (f24_ : mm_fr [(66, 57), (66, 58), (66, 60), (66, 61), (66, 62), (66, 63), (66, 64), (66, 65), (66, 66), (66, 69), (66, 70), (66, 71)] [102, 103, 104, 105, 106, 107, 108, 109] h h24_) (w24_0 : mm_fr [(66, 57), (66, 58)] [] h h24_) (w24_1 : (h24_.1 66 57 = 0 → (r1 = 0 ∨ r1 = 1 ∨ r1 = 3))) (w24_2 : mm_eY h h24_) (w24_3 : ((h24_.1 66 57 = 0 ∧ h24_.1 66 58 = h.1 66 58 ∧ 0 ≤ mm_cY h ∧ mm_cY h ≤ 2) ∨ (h24_.1 66 57 = 1 ∧ h24_.1 66 58 = h.1 66 62 ∧ ¬ (0 ≤ mm_cY h ∧ mm_cY h ≤ 2)))), mm_W x 0 0 24 [mR 66, mI p1, mI r1, mU] [] h24_ := by
    intro h24_ i24_ f24_ w24_0 w24_1 w24_2 w24_3
    have g12 : -2147483648 ≤ h24_.1 66 57 ∧ h24_.1 66 57 ≤ 2147483647 := i24_.1 66 57
    have g13 : 0 ≤ h24_.1 66 69 ∧ h24_.1 66 69 ≤ 2400 := i24_.1 66 69
    have g14 : 0 ≤ h24_.1 66 70 ∧ h24_.1 66 70 ≤ 520 := i24_.1 66 70
    have g15 : 0 ≤ h24_.1 66 62 ∧ h24_.1 66 62 ≤ 500 := i24_.1 66 62
    have g16 : 0 ≤ h24_.1 66 60 ∧ h24_.1 66 60 ≤ 500 := i24_.1 66 60
    have g17 : -2147483648 ≤ h24_.1 66 61 ∧ h24_.1 66 61 ≤ 2147483647 := i24_.1 66 61
    have g18 : 0 ≤ h24_.1 66 71 ∧ h24_.1 66 71 ≤ 6 := i24_.1 66 71
    have g19 : -2147483648 ≤ h24_.1 66 58 ∧ h24_.1 66 58 ≤ 2147483647 := i24_.1 66 58
    have g20 : -2147483648 ≤ h24_.1 66 63 ∧ h24_.1 66 63 ≤ 2147483647 := i24_.1 66 63
    have g21 : -2147483648 ≤ h24_.1 66 65 ∧ h24_.1 66 65 ≤ 2147483647 := i24_.1 66 65
    have z62 : h24_.1 66 62 = h.1 66 62 := w24_2.2.2.2.1
    have z24 : h24_.2.1 103 p1 = h.2.1 103 p1 := w24_0.2 103 (by decide) _
    refine mm_aload_n C (mm_dec dk_X12_clause 14 rfl) rfl ?_
    refine mm_getr (t := 103) C fl_X12_120 (mm_dec dk_X12_clause 15 rfl) rfl rfl (mm_ref i24_ rfl) ?_
    refine mm_iload_n C (mm_dec dk_X12_clause 16 rfl) rfl ?_
    refine mm_iald C (mm_dec dk_X12_clause 17 rfl) rfl (by omega) (by omega) ?_
    have g22 : 0 ≤ (h24_.2.1 103 p1) ∧ (h24_.2.1 103 p1) ≤ 20 := i24_.2.1 103 p1
    refine mm_bipush C (mm_dec dk_X12_clause 18 rfl) ⟨by decide, by decide⟩ ?_
    have J40 : ∀ (h40_ : mH) (i40_ : mm_inv h40_) (f40_ : mm_fr [(66, 57), (66, 58), (66, 60), (66, 61), (66, 62), (66, 63), (66, 64), (66, 65), (66, 66), (66, 69), (66, 70), (66, 71)] [102, 103, 104, 105, 106, 107, 108, 109] h h40_) (w40_0 : mm_fr [(66, 57), (66, 58)] [] h h40_) (w40_1 : (h40_.1 66 57 = 0 → (r1 = 0 ∨ r1 = 1 ∨ r1 = 3) ∧ h40_.2.1 103 p1 ≤ 19)) (w40_2 : mm_eY h h40_) (w40_3 : ((h40_.1 66 57 = 0 ∧ h40_.1 66 58 = h.1 66 58 ∧ 0 ≤ mm_cY h ∧ mm_cY h ≤ 2 ∧ h.2.1 103 p1 ≤ 19) ∨ (h40_.1 66 58 = h.1 66 62 ∧ ((¬ (0 ≤ mm_cY h ∧ mm_cY h ≤ 2) ∧ h40_.1 66 57 = 1) ∨ ((0 ≤ mm_cY h ∧ mm_cY h ≤ 2) ∧ 20 ≤ h.2.1 103 p1 ∧ h40_.1 66 57 = 2))))), mm_W x 0 0 40 [mR 66, mI p1, mI r1, mU] [] h40_ := by
      intro h40_ i40_ f40_ w40_0 w40_1 w40_2 w40_3
      have g23 : -2147483648 ≤ h40_.1 66 57 ∧ h40_.1 66 57 ≤ 2147483647 := i40_.1 66 57
      have g24 : 0 ≤ h40_.1 66 69 ∧ h40_.1 66 69 ≤ 2400 := i40_.1 66 69
      have g25 : 0 ≤ h40_.1 66 70 ∧ h40_.1 66 70 ≤ 520 := i40_.1 66 70
      have g26 : 0 ≤ h40_.1 66 62 ∧ h40_.1 66 62 ≤ 500 := i40_.1 66 62
      have g27 : 0 ≤ h40_.1 66 60 ∧ h40_.1 66 60 ≤ 500 := i40_.1 66 60
      have g28 : -2147483648 ≤ h40_.1 66 61 ∧ h40_.1 66 61 ≤ 2147483647 := i40_.1 66 61
      have g29 : 0 ≤ h40_.1 66 71 ∧ h40_.1 66 71 ≤ 6 := i40_.1 66 71
      have g30 : -2147483648 ≤ h40_.1 66 58 ∧ h40_.1 66 58 ≤ 2147483647 := i40_.1 66 58
      have g31 : -2147483648 ≤ h40_.1 66 63 ∧ h40_.1 66 63 ≤ 2147483647 := i40_.1 66 63
      have g32 : -2147483648 ≤ h40_.1 66 65 ∧ h40_.1 66 65 ≤ 2147483647 := i40_.1 66 65
      have z62b : h40_.1 66 62 = h.1 66 62 := w40_2.2.2.2.1
      have z40 : h40_.2.1 103 p1 = h.2.1 103 p1 := w40_0.2 103 (by decide) _
      refine mm_aload_n C (mm_dec dk_X12_clause 23 rfl) rfl ?_
      refine mm_cVi (rest := []) C1 ev_X12_413 (mm_dec dk_X12_clause 24 rfl) (c_X12_isGood x.2.1 hl (d - 1) (by omega) h40_ i40_ ) rfl rfl (Nat.le_of_ble_eq_true rfl) ⟨by decide, by decide⟩ rfl (fun r41 h41c hp41 => ?_) (fun _ _ q => q.elim)
      obtain ⟨z41, y41⟩ := hp41
      rw [z41]
      refine mm_if_ne (tgt := 48) C (mm_dec dk_X12_clause 25 rfl) (by decide) (fun c44 => ?_) (fun c44 => ?_)
      · skip
        refine mm_bipush C (mm_dec dk_X12_clause 27 rfl) ⟨by decide, by decide⟩ ?_
        refine mm_iload_n C (mm_dec dk_X12_clause 28 rfl) rfl ?_
        refine mm_imul C (mm_dec dk_X12_clause 29 rfl) ⟨by omega, by omega⟩ ?_
        refine mm_aload_n C (mm_dec dk_X12_clause 30 rfl) rfl ?_
        refine mm_getr (t := 103) C fl_X12_120 (mm_dec dk_X12_clause 31 rfl) rfl rfl (mm_ref i40_ rfl) ?_
        refine mm_iload_n C (mm_dec dk_X12_clause 32 rfl) rfl ?_
        refine mm_iald C (mm_dec dk_X12_clause 33 rfl) rfl (by omega) (by omega) ?_
        have g34 : 0 ≤ (h40_.2.1 103 p1) ∧ (h40_.2.1 103 p1) ≤ 20 := i40_.2.1 103 p1
        refine mm_iadd C (mm_dec dk_X12_clause 34 rfl) ⟨by omega, by omega⟩ ?_
        refine mm_istore_nL (ls2 := [mR 66, mI p1, mI r1, mI ((20 * p1) + (h40_.2.1 103 p1))]) C (mm_dec dk_X12_clause 35 rfl) (by decide) rfl ?_
        refine mm_aload_n C (mm_dec dk_X12_clause 36 rfl) rfl ?_
        refine mm_getr (t := 103) C fl_X12_120 (mm_dec dk_X12_clause 37 rfl) rfl rfl (mm_ref i40_ rfl) ?_
        refine mm_iload_n C (mm_dec dk_X12_clause 38 rfl) rfl ?_
        refine mm_dup2 C (mm_dec dk_X12_clause 39 rfl) (show (0 : Nat) ≠ 1 by decide) (show (2 : Nat) ≠ 1 by decide) ?_
        refine mm_iald C (mm_dec dk_X12_clause 40 rfl) rfl (by omega) (by omega) ?_
        refine mm_iconst C (mm_dec dk_X12_clause 41 rfl) ⟨by decide, by decide⟩ ?_
        refine mm_iadd C (mm_dec dk_X12_clause 42 rfl) ⟨by omega, by omega⟩ ?_
        refine mm_iast C (mm_dec dk_X12_clause 43 rfl) rfl (by omega) (by omega) ?_
        have i1 : mm_inv (mm_pa h40_ 103 p1 ((h40_.2.1 103 p1) + 1)) := mm_inv_pa i40_ (show 0 ≤ ((h40_.2.1 103 p1) + 1) ∧ ((h40_.2.1 103 p1) + 1) ≤ 20 from ⟨by omega, by omega⟩)
        have f1 : mm_fr [(66, 57), (66, 58), (66, 60), (66, 61), (66, 62), (66, 63), (66, 64), (66, 65), (66, 66), (66, 69), (66, 70), (66, 71)] [102, 103, 104, 105, 106, 107, 108, 109] h (mm_pa h40_ 103 p1 ((h40_.2.1 103 p1) + 1)) := mm_fr_pa f40_ (by decide)
        obtain ⟨h1, eh1⟩ : ∃ z, z = mm_pa h40_ 103 p1 ((h40_.2.1 103 p1) + 1) := ⟨_, rfl⟩
        rw [← eh1] at i1 f1 ⊢
        have qh1_35 : h1.1 66 57 = h40_.1 66 57 := by rw [eh1]; rfl
        have qh1_36 : h1.1 66 58 = h40_.1 66 58 := by rw [eh1]; rfl
        have qh1_37 : h1.1 66 60 = h40_.1 66 60 := by rw [eh1]; rfl
        have qh1_38 : h1.1 66 61 = h40_.1 66 61 := by rw [eh1]; rfl
        have qh1_39 : h1.1 66 62 = h40_.1 66 62 := by rw [eh1]; rfl
        have qh1_40 : h1.1 66 63 = h40_.1 66 63 := by rw [eh1]; rfl
        have qh1_41 : h1.1 66 65 = h40_.1 66 65 := by rw [eh1]; rfl
        have qh1_42 : h1.1 66 69 = h40_.1 66 69 := by rw [eh1]; rfl
        have qh1_43 : h1.1 66 70 = h40_.1 66 70 := by rw [eh1]; rfl
        have qh1_44 : h1.1 66 71 = h40_.1 66 71 := by rw [eh1]; rfl
        refine mm_aload_n C (mm_dec dk_X12_clause 44 rfl) rfl ?_
        refine mm_getr (t := 104) C fl_X12_123 (mm_dec dk_X12_clause 45 rfl) rfl rfl (mm_ref i1 rfl) ?_
        refine mm_iload_n C (mm_dec dk_X12_clause 46 rfl) rfl ?_
        refine mm_iload_n C (mm_dec dk_X12_clause 47 rfl) rfl ?_
        refine mm_iast C (mm_dec dk_X12_clause 48 rfl) rfl (by omega) (by omega) ?_
        have i2 : mm_inv (mm_pa h1 104 ((20 * p1) + (h40_.2.1 103 p1)) r1) := mm_inv_pa i1 (show -2147483648 ≤ r1 ∧ r1 ≤ 2147483647 from ⟨by omega, by omega⟩)
        have f2 : mm_fr [(66, 57), (66, 58), (66, 60), (66, 61), (66, 62), (66, 63), (66, 64), (66, 65), (66, 66), (66, 69), (66, 70), (66, 71)] [102, 103, 104, 105, 106, 107, 108, 109] h (mm_pa h1 104 ((20 * p1) + (h40_.2.1 103 p1)) r1) := mm_fr_pa f1 (by decide)
        obtain ⟨h2, eh2⟩ : ∃ z, z = mm_pa h1 104 ((20 * p1) + (h40_.2.1 103 p1)) r1 := ⟨_, rfl⟩
        rw [← eh2] at i2 f2 ⊢
        have qh2_45 : h2.1 66 57 = h1.1 66 57 := by rw [eh2]; rfl
        have qh2_46 : h2.1 66 58 = h1.1 66 58 := by rw [eh2]; rfl
        have qh2_47 : h2.1 66 60 = h1.1 66 60 := by rw [eh2]; rfl
        have qh2_48 : h2.1 66 61 = h1.1 66 61 := by rw [eh2]; rfl
        have qh2_49 : h2.1 66 62 = h1.1 66 62 := by rw [eh2]; rfl
        have qh2_50 : h2.1 66 63 = h1.1 66 63 := by rw [eh2]; rfl
        have qh2_51 : h2.1 66 65 = h1.1 66 65 := by rw [eh2]; rfl
        have qh2_52 : h2.1 66 69 = h1.1 66 69 := by rw [eh2]; rfl
        have qh2_53 : h2.1 66 70 = h1.1 66 70 := by rw [eh2]; rfl
        have qh2_54 : h2.1 66 71 = h1.1 66 71 := by rw [eh2]; rfl
        refine mm_aload_n C (mm_dec dk_X12_clause 49 rfl) rfl ?_
        refine mm_cVv (rest := []) C1 ev_X12_423 (mm_dec dk_X12_clause 50 rfl) (c_X12_goes_q x.2.1 hl (d - 1) (by omega) h2 i2 ) rfl rfl (Nat.le_of_ble_eq_true rfl) ⟨by decide, by decide⟩ rfl (fun h78c hp78 => ?_) (fun _ _ q => q.elim)
        obtain ⟨i78c, g78c, y78_0, y78_1, y78_2, y78_3, y78_4⟩ := hp78
        have f78c : mm_fr [(66, 57), (66, 58), (66, 60), (66, 61), (66, 62), (66, 63), (66, 64), (66, 65), (66, 66), (66, 69), (66, 70), (66, 71)] [102, 103, 104, 105, 106, 107, 108, 109] h h78c := mm_fr_tr f2 g78c (by decide +kernel)
        have q78c_56 : h78c.1 66 57 = h2.1 66 57 := g78c.1 66 57 (by decide)
        have q78c_57 : h78c.1 66 58 = h2.1 66 58 := g78c.1 66 58 (by decide)
        have q78c_58 : h78c.1 66 69 = h2.1 66 69 := g78c.1 66 69 (by decide)
        have q78c_59 : h78c.1 66 70 = h2.1 66 70 := g78c.1 66 70 (by decide)
        have q78c_60 : h78c.1 66 71 = h2.1 66 71 := g78c.1 66 71 (by decide)
        have g61 : 0 ≤ (h78c.1 66 62) ∧ (h78c.1 66 62) ≤ 500 := i78c.1 66 62
        have g62 : 0 ≤ (h78c.1 66 60) ∧ (h78c.1 66 60) ≤ 500 := i78c.1 66 60
        have g63 : -2147483648 ≤ (h78c.1 66 61) ∧ (h78c.1 66 61) ≤ 2147483647 := i78c.1 66 61
        have g64 : -2147483648 ≤ (h78c.1 66 63) ∧ (h78c.1 66 63) ≤ 2147483647 := i78c.1 66 63
        have g65 : -2147483648 ≤ (h78c.1 66 65) ∧ (h78c.1 66 65) ≤ 2147483647 := i78c.1 66 65
        have zK := mm_cl_open i40_ t0 (by omega) t5 w40_0 (by omega) (by omega) eh1 eh2 g78c y78_0 y78_1 y78_2
        have zk1 := zK.2.2.1
        have zk2 := zK.2.2.2.1
        have zs9 := mm_st9_e (mm_eY_tr w40_2 (mm_eY_tr (mm_eY_pa eh1 (by decide)) (mm_eY_pa eh2 (by decide)))) (mm_st9_of (mm_eY_a (mm_eY_tr w40_2 (mm_eY_tr (mm_eY_pa eh1 (by decide)) (mm_eY_pa eh2 (by decide)))) t6) y78_3 y78_4 g78c (by decide))
        have z102 : ∀ j, h78c.2.1 102 j = h.2.1 102 j := fun j => (g78c.2 102 (by decide) j).trans ((mm_sm_pa 102 eh2 (by decide) j).trans ((mm_sm_pa 102 eh1 (by decide) j).trans (w40_0.2 102 (by decide) j)))
        have z103 : h78c.2.1 103 p1 = h.2.1 103 p1 + 1 := (g78c.2 103 (by decide) _).trans ((mm_sm_pa 103 eh2 (by decide) p1).trans (by rw [eh1, mm_pa_same]; omega))
        refine mm_iload_n C (mm_dec dk_X12_clause 51 rfl) rfl ?_
        refine mm_iconst C (mm_dec dk_X12_clause 52 rfl) ⟨by decide, by decide⟩ ?_
        have J140 : ∀ (h140_ : mH) (i140_ : mm_inv h140_) (f140_ : mm_fr [(66, 57), (66, 58), (66, 60), (66, 61), (66, 62), (66, 63), (66, 64), (66, 65), (66, 66), (66, 69), (66, 70), (66, 71)] [102, 103, 104, 105, 106, 107, 108, 109] h h140_) (w140_0 : mm_rl h h140_ p1) (w140_1 : (h140_.1 66 57 = 0 → h.1 66 62 + 1 ≤ h140_.1 66 62)) (w140_2 : mm_B9 p1 h h140_) (w140_3 : (h140_.1 66 57 ≠ 0 ∨ (h.1 66 57 = 0 ∧ h140_.1 66 58 = h.1 66 58))) (w140_4 : mm_BJ p1 h h140_), mm_W x 0 0 140 [mR 66, mU, mU, mU] [] h140_ := by
          intro h140_ i140_ f140_ w140_0 w140_1 w140_2 w140_3 w140_4
          have g66 : -2147483648 ≤ h140_.1 66 57 ∧ h140_.1 66 57 ≤ 2147483647 := i140_.1 66 57
          have g67 : 0 ≤ h140_.1 66 69 ∧ h140_.1 66 69 ≤ 2400 := i140_.1 66 69
          have g68 : 0 ≤ h140_.1 66 70 ∧ h140_.1 66 70 ≤ 520 := i140_.1 66 70
          have g69 : 0 ≤ h140_.1 66 62 ∧ h140_.1 66 62 ≤ 500 := i140_.1 66 62
          have g70 : 0 ≤ h140_.1 66 60 ∧ h140_.1 66 60 ≤ 500 := i140_.1 66 60
          have g71 : -2147483648 ≤ h140_.1 66 61 ∧ h140_.1 66 61 ≤ 2147483647 := i140_.1 66 61
          have g72 : 0 ≤ h140_.1 66 71 ∧ h140_.1 66 71 ≤ 6 := i140_.1 66 71
          have g73 : -2147483648 ≤ h140_.1 66 58 ∧ h140_.1 66 58 ≤ 2147483647 := i140_.1 66 58
          have g74 : -2147483648 ≤ h140_.1 66 63 ∧ h140_.1 66 63 ≤ 2147483647 := i140_.1 66 63
          have g75 : -2147483648 ≤ h140_.1 66 65 ∧ h140_.1 66 65 ≤ 2147483647 := i140_.1 66 65
          have zq1 := w140_0.2.1.1
          have tfB := mm_cY_h w140_2.2.1
          refine mm_aload_n C (mm_dec dk_X12_clause 84 rfl) rfl ?_
          refine mm_cVi (rest := []) C1 ev_X12_413 (mm_dec dk_X12_clause 85 rfl) (c_X12_isGood x.2.1 hl (d - 1) (by omega) h140_ i140_ ) rfl rfl (Nat.le_of_ble_eq_true rfl) ⟨by decide, by decide⟩ rfl (fun r141 h141c hp141 => ?_) (fun _ _ q => q.elim)
          obtain ⟨z141, y141⟩ := hp141
          rw [z141]
          refine mm_if_ne (tgt := 148) C (mm_dec dk_X12_clause 86 rfl) (by decide) (fun c144 => ?_) (fun c144 => ?_)
          · skip
            refine mm_aload_n C (mm_dec dk_X12_clause 88 rfl) rfl ?_
            refine mm_bipush C (mm_dec dk_X12_clause 89 rfl) ⟨by decide, by decide⟩ ?_
            refine mm_cVi (rest := []) C1 ev_X12_429 (mm_dec dk_X12_clause 90 rfl) (c_X12_isSign x.2.1 hl (d - 1) (by omega) h140_ i140_ 59) rfl rfl (Nat.le_of_ble_eq_true rfl) ⟨by decide, by decide⟩ rfl (fun r151 h151c hp151 => ?_) (fun _ _ q => q.elim)
            obtain ⟨z151, y151⟩ := hp151
            rw [z151]
            have J169 : ∀ (h169_ : mH) (i169_ : mm_inv h169_) (f169_ : mm_fr [(66, 57), (66, 58), (66, 60), (66, 61), (66, 62), (66, 63), (66, 64), (66, 65), (66, 66), (66, 69), (66, 70), (66, 71)] [102, 103, 104, 105, 106, 107, 108, 109] h h169_) (w169_0 : mm_rl h h169_ p1) (w169_1 : (h169_.1 66 57 = 0 → h.1 66 62 + 1 ≤ h169_.1 66 62)) (w169_2 : mm_C9 p1 h h169_) (w169_3 : (h169_.1 66 57 ≠ 0 ∨ (h.1 66 57 = 0 ∧ h169_.1 66 58 = h.1 66 58))) (w169_4 : mm_CJ p1 h h169_), mm_W x 0 0 169 [mU, mU, mU, mU] [] h169_ := by
              intro h169_ i169_ f169_ w169_0 w169_1 w169_2 w169_3 w169_4
              have g78 : -2147483648 ≤ h169_.1 66 57 ∧ h169_.1 66 57 ≤ 2147483647 := i169_.1 66 57
              have g79 : 0 ≤ h169_.1 66 69 ∧ h169_.1 66 69 ≤ 2400 := i169_.1 66 69
              have g80 : 0 ≤ h169_.1 66 70 ∧ h169_.1 66 70 ≤ 520 := i169_.1 66 70
              have g81 : 0 ≤ h169_.1 66 62 ∧ h169_.1 66 62 ≤ 500 := i169_.1 66 62
              have g82 : 0 ≤ h169_.1 66 60 ∧ h169_.1 66 60 ≤ 500 := i169_.1 66 60
              have g83 : -2147483648 ≤ h169_.1 66 61 ∧ h169_.1 66 61 ≤ 2147483647 := i169_.1 66 61
              have g84 : 0 ≤ h169_.1 66 71 ∧ h169_.1 66 71 ≤ 6 := i169_.1 66 71
              have g85 : -2147483648 ≤ h169_.1 66 58 ∧ h169_.1 66 58 ≤ 2147483647 := i169_.1 66 58
              have g86 : -2147483648 ≤ h169_.1 66 63 ∧ h169_.1 66 63 ≤ 2147483647 := i169_.1 66 63
              have g87 : -2147483648 ≤ h169_.1 66 65 ∧ h169_.1 66 65 ≤ 2147483647 := i169_.1 66 65
              exact mm_vret C T (mm_dec dk_X12_clause 98 rfl) (by decide : 0 ≤ 0) (by decide : 0 ≤ 0) ⟨rfl, ⟨i169_, f169_, by first | exact w169_0 | exact w140_0 | exact mm_rl_bad w40_0 (by omega) t0 (by omega) (by omega), by omega, by first | exact w169_2 | exact mm_C9_B w140_2 (by omega) rfl | exact mm_C9_no t6 (by have zz := mm_hd9x tf; omega) w40_2 (w40_0.2 102 (by decide)) (by omega) (by omega) (by omega), by omega, by first | exact w169_4 | exact mm_CJ_no (by omega)⟩⟩
            refine mm_if_eq (tgt := 164) C (mm_dec dk_X12_clause 91 rfl) (by decide) (fun c154 => ?_) (fun c154 => ?_)
            · skip
              refine mm_aload_n C (mm_dec dk_X12_clause 95 rfl) rfl ?_
              refine mm_iconst C (mm_dec dk_X12_clause 96 rfl) ⟨by decide, by decide⟩ ?_
              refine mm_cVv (rest := []) C1 ev_X12_417 (mm_dec dk_X12_clause 97 rfl) (c_X12_wrong_q x.2.1 hl (d - 1) (by omega) h140_ i140_ 1 (by omega)) rfl rfl (Nat.le_of_ble_eq_true rfl) ⟨by decide, by decide⟩ rfl (fun h166c hp166 => ?_) (fun _ _ q => q.elim)
              obtain ⟨i166c, g166c, y166_0, y166_1⟩ := hp166
              have f166c : mm_fr [(66, 57), (66, 58), (66, 60), (66, 61), (66, 62), (66, 63), (66, 64), (66, 65), (66, 66), (66, 69), (66, 70), (66, 71)] [102, 103, 104, 105, 106, 107, 108, 109] h h166c := mm_fr_tr f140_ g166c (by decide +kernel)
              have q166c_89 : h166c.1 66 60 = h140_.1 66 60 := g166c.1 66 60 (by decide)
              have q166c_90 : h166c.1 66 61 = h140_.1 66 61 := g166c.1 66 61 (by decide)
              have q166c_91 : h166c.1 66 62 = h140_.1 66 62 := g166c.1 66 62 (by decide)
              have q166c_92 : h166c.1 66 63 = h140_.1 66 63 := g166c.1 66 63 (by decide)
              have q166c_93 : h166c.1 66 65 = h140_.1 66 65 := g166c.1 66 65 (by decide)
              have q166c_94 : h166c.1 66 69 = h140_.1 66 69 := g166c.1 66 69 (by decide)
              have q166c_95 : h166c.1 66 70 = h140_.1 66 70 := g166c.1 66 70 (by decide)
              have q166c_96 : h166c.1 66 71 = h140_.1 66 71 := g166c.1 66 71 (by decide)
              have g97 : -2147483648 ≤ (h166c.1 66 57) ∧ (h166c.1 66 57) ≤ 2147483647 := i166c.1 66 57
              have g98 : -2147483648 ≤ (h166c.1 66 58) ∧ (h166c.1 66 58) ≤ 2147483647 := i166c.1 66 58
              refine mm_fgt 0 ?_
              exact J169 h166c i166c f166c (by first | exact mm_rl_go w140_0 g158c y158_0 y158_1 y158_2 | exact mm_rl_no w140_0 g166c y166_0) (by first | omega) (by first | exact mm_C9_sc w140_2 (by omega) (by have zz := mm_hd9x tfB; omega) (mm_st9_of w140_2.2.1 y158_3 y158_4 g158c (by decide)) ⟨by omega, by omega⟩ (g158c.2 102 (by decide)) (g158c.2 103 (by decide) _) | exact mm_C9_ns w140_2 (by omega) (by have zz := mm_hd9x tfB; omega) (mm_eY_fr g166c (by decide)) (g166c.2 102 (by decide)) (by omega) (by omega)) (by omega) (by first | exact mm_CJ_sc w140_2.1 w140_4 (by omega) (by have zz := mm_hd9x tfB; omega) (mm_st9_of w140_2.2.1 y158_3 y158_4 g158c (by decide)) (g158c.2 102 (by decide)) (mm_wo_fr g158c (by decide)) (g158c.2 103 (by decide) _) (mm_ck9_fr g158c (by decide)) | exact mm_CJ_no (by omega))
            · skip
              refine mm_aload_n C (mm_dec dk_X12_clause 92 rfl) rfl ?_
              refine mm_cVv (rest := []) C1 ev_X12_423 (mm_dec dk_X12_clause 93 rfl) (c_X12_goes_q x.2.1 hl (d - 1) (by omega) h140_ i140_ ) rfl rfl (Nat.le_of_ble_eq_true rfl) ⟨by decide, by decide⟩ rfl (fun h158c hp158 => ?_) (fun _ _ q => q.elim)
              obtain ⟨i158c, g158c, y158_0, y158_1, y158_2, y158_3, y158_4⟩ := hp158
              have f158c : mm_fr [(66, 57), (66, 58), (66, 60), (66, 61), (66, 62), (66, 63), (66, 64), (66, 65), (66, 66), (66, 69), (66, 70), (66, 71)] [102, 103, 104, 105, 106, 107, 108, 109] h h158c := mm_fr_tr f140_ g158c (by decide +kernel)
              have q158c_100 : h158c.1 66 57 = h140_.1 66 57 := g158c.1 66 57 (by decide)
              have q158c_101 : h158c.1 66 58 = h140_.1 66 58 := g158c.1 66 58 (by decide)
              have q158c_102 : h158c.1 66 69 = h140_.1 66 69 := g158c.1 66 69 (by decide)
              have q158c_103 : h158c.1 66 70 = h140_.1 66 70 := g158c.1 66 70 (by decide)
              have q158c_104 : h158c.1 66 71 = h140_.1 66 71 := g158c.1 66 71 (by decide)
              have g105 : 0 ≤ (h158c.1 66 62) ∧ (h158c.1 66 62) ≤ 500 := i158c.1 66 62
              have g106 : 0 ≤ (h158c.1 66 60) ∧ (h158c.1 66 60) ≤ 500 := i158c.1 66 60
              have g107 : -2147483648 ≤ (h158c.1 66 61) ∧ (h158c.1 66 61) ≤ 2147483647 := i158c.1 66 61
              have g108 : -2147483648 ≤ (h158c.1 66 63) ∧ (h158c.1 66 63) ≤ 2147483647 := i158c.1 66 63
              have g109 : -2147483648 ≤ (h158c.1 66 65) ∧ (h158c.1 66 65) ≤ 2147483647 := i158c.1 66 65
              refine mm_goto (tgt := 169) C (mm_dec dk_X12_clause 94 rfl) (by decide) ?_
              refine mm_fgt 0 ?_
              exact J169 h158c i158c f158c (by first | exact mm_rl_go w140_0 g158c y158_0 y158_1 y158_2 | exact mm_rl_no w140_0 g166c y166_0) (by first | omega) (by first | exact mm_C9_sc w140_2 (by omega) (by have zz := mm_hd9x tfB; omega) (mm_st9_of w140_2.2.1 y158_3 y158_4 g158c (by decide)) ⟨by omega, by omega⟩ (g158c.2 102 (by decide)) (g158c.2 103 (by decide) _) | exact mm_C9_ns w140_2 (by omega) (by have zz := mm_hd9x tfB; omega) (mm_eY_fr g166c (by decide)) (g166c.2 102 (by decide)) (by omega) (by omega)) (by omega) (by first | exact mm_CJ_sc w140_2.1 w140_4 (by omega) (by have zz := mm_hd9x tfB; omega) (mm_st9_of w140_2.2.1 y158_3 y158_4 g158c (by decide)) (g158c.2 102 (by decide)) (mm_wo_fr g158c (by decide)) (g158c.2 103 (by decide) _) (mm_ck9_fr g158c (by decide)) | exact mm_CJ_no (by omega))
          · skip
            exact mm_vret C T (mm_dec dk_X12_clause 87 rfl) (by decide : 0 ≤ 0) (by decide : 0 ≤ 0) ⟨rfl, ⟨i140_, f140_, by first | exact w169_0 | exact w140_0 | exact mm_rl_bad w40_0 (by omega) t0 (by omega) (by omega), by omega, by first | exact w169_2 | exact mm_C9_B w140_2 (by omega) rfl | exact mm_C9_no t6 (by have zz := mm_hd9x tf; omega) w40_2 (w40_0.2 102 (by decide)) (by omega) (by omega) (by omega), by omega, by first | exact w169_4 | exact mm_CJ_no (by omega)⟩⟩
        refine mm_icmp_ne (tgt := 94) C (mm_dec dk_X12_clause 53 rfl) (by decide) (fun c83 => ?_) (fun c83 => ?_)
        · skip
          refine mm_aload_n C (mm_dec dk_X12_clause 58 rfl) rfl ?_
          refine mm_getr (t := 105) C fl_X12_126 (mm_dec dk_X12_clause 59 rfl) rfl rfl (mm_ref i78c rfl) ?_
          refine mm_iload_n C (mm_dec dk_X12_clause 60 rfl) rfl ?_
          refine mm_aload_n C (mm_dec dk_X12_clause 61 rfl) rfl ?_
          refine mm_cVi (rest := [mI ((20 * p1) + (h40_.2.1 103 p1)), mR 105]) C1 ev_X12_451 (mm_dec dk_X12_clause 62 rfl) (c_X12_expression_q x.2.1 hl (d - 1) (by omega) h78c i78c (by first | exact y78_3 | exact zK.2.1 | omega) (by first | exact y78_3 | exact zK.2.1 | omega) (by first | exact y78_3 | exact zK.2.1 | omega)) rfl rfl (Nat.le_of_ble_eq_true rfl) ⟨by decide, by decide⟩ rfl (fun r100 h100c hp100 => ?_) (fun _ _ q => q.elim)
          obtain ⟨b100, i100c, g100c, y100_0, y100_1, y100_2, y100_3, y100_4⟩ := hp100
          have f100c : mm_fr [(66, 57), (66, 58), (66, 60), (66, 61), (66, 62), (66, 63), (66, 64), (66, 65), (66, 66), (66, 69), (66, 70), (66, 71)] [102, 103, 104, 105, 106, 107, 108, 109] h h100c := mm_fr_tr f78c g100c (by decide +kernel)
          have g111 : -2147483648 ≤ (h100c.1 66 57) ∧ (h100c.1 66 57) ≤ 2147483647 := i100c.1 66 57
          have g112 : 0 ≤ (h100c.1 66 69) ∧ (h100c.1 66 69) ≤ 2400 := i100c.1 66 69
          have g113 : 0 ≤ (h100c.1 66 70) ∧ (h100c.1 66 70) ≤ 520 := i100c.1 66 70
          have g114 : 0 ≤ (h100c.1 66 62) ∧ (h100c.1 66 62) ≤ 500 := i100c.1 66 62
          have g115 : 0 ≤ (h100c.1 66 60) ∧ (h100c.1 66 60) ≤ 500 := i100c.1 66 60
          have g116 : -2147483648 ≤ (h100c.1 66 61) ∧ (h100c.1 66 61) ≤ 2147483647 := i100c.1 66 61
          have g117 : 0 ≤ (h100c.1 66 71) ∧ (h100c.1 66 71) ≤ 6 := i100c.1 66 71
          have g118 : -2147483648 ≤ (h100c.1 66 58) ∧ (h100c.1 66 58) ≤ 2147483647 := i100c.1 66 58
          have g119 : -2147483648 ≤ (h100c.1 66 63) ∧ (h100c.1 66 63) ≤ 2147483647 := i100c.1 66 63
          have g120 : -2147483648 ≤ (h100c.1 66 65) ∧ (h100c.1 66 65) ≤ 2147483647 := i100c.1 66 65
          refine mm_iast C (mm_dec dk_X12_clause 63 rfl) rfl (by omega) (by omega) ?_
          have i7 : mm_inv (mm_pa h100c 105 ((20 * p1) + (h40_.2.1 103 p1)) r100) := mm_inv_pa i100c (show 0 ≤ r100 ∧ r100 ≤ 2399 from ⟨by omega, by omega⟩)
          have f7 : mm_fr [(66, 57), (66, 58), (66, 60), (66, 61), (66, 62), (66, 63), (66, 64), (66, 65), (66, 66), (66, 69), (66, 70), (66, 71)] [102, 103, 104, 105, 106, 107, 108, 109] h (mm_pa h100c 105 ((20 * p1) + (h40_.2.1 103 p1)) r100) := mm_fr_pa f100c (by decide)
          obtain ⟨h7, eh7⟩ : ∃ z, z = mm_pa h100c 105 ((20 * p1) + (h40_.2.1 103 p1)) r100 := ⟨_, rfl⟩
          rw [← eh7] at i7 f7 ⊢
          have qh7_121 : h7.1 66 57 = h100c.1 66 57 := by rw [eh7]; rfl
          have qh7_122 : h7.1 66 58 = h100c.1 66 58 := by rw [eh7]; rfl
          have qh7_123 : h7.1 66 60 = h100c.1 66 60 := by rw [eh7]; rfl
          have qh7_124 : h7.1 66 61 = h100c.1 66 61 := by rw [eh7]; rfl
          have qh7_125 : h7.1 66 62 = h100c.1 66 62 := by rw [eh7]; rfl
          have qh7_126 : h7.1 66 63 = h100c.1 66 63 := by rw [eh7]; rfl
          have qh7_127 : h7.1 66 65 = h100c.1 66 65 := by rw [eh7]; rfl
          have qh7_128 : h7.1 66 69 = h100c.1 66 69 := by rw [eh7]; rfl
          have qh7_129 : h7.1 66 70 = h100c.1 66 70 := by rw [eh7]; rfl
          have qh7_130 : h7.1 66 71 = h100c.1 66 71 := by rw [eh7]; rfl
          refine mm_aload_n C (mm_dec dk_X12_clause 64 rfl) rfl ?_
          refine mm_getr (t := 106) C fl_X12_129 (mm_dec dk_X12_clause 65 rfl) rfl rfl (mm_ref i7 rfl) ?_
          refine mm_iload_n C (mm_dec dk_X12_clause 66 rfl) rfl ?_
          refine mm_iconst C (mm_dec dk_X12_clause 67 rfl) ⟨by decide, by decide⟩ ?_
          refine mm_iast C (mm_dec dk_X12_clause 68 rfl) rfl (by omega) (by omega) ?_
          have i8 : mm_inv (mm_pa h7 106 ((20 * p1) + (h40_.2.1 103 p1)) (-1)) := mm_inv_pa i7 (show -1 ≤ (-1) ∧ (-1) ≤ 2399 from ⟨by omega, by omega⟩)
          have f8 : mm_fr [(66, 57), (66, 58), (66, 60), (66, 61), (66, 62), (66, 63), (66, 64), (66, 65), (66, 66), (66, 69), (66, 70), (66, 71)] [102, 103, 104, 105, 106, 107, 108, 109] h (mm_pa h7 106 ((20 * p1) + (h40_.2.1 103 p1)) (-1)) := mm_fr_pa f7 (by decide)
          obtain ⟨h8, eh8⟩ : ∃ z, z = mm_pa h7 106 ((20 * p1) + (h40_.2.1 103 p1)) (-1) := ⟨_, rfl⟩
          rw [← eh8] at i8 f8 ⊢
          have qh8_131 : h8.1 66 57 = h7.1 66 57 := by rw [eh8]; rfl
          have qh8_132 : h8.1 66 58 = h7.1 66 58 := by rw [eh8]; rfl
          have qh8_133 : h8.1 66 60 = h7.1 66 60 := by rw [eh8]; rfl
          have qh8_134 : h8.1 66 61 = h7.1 66 61 := by rw [eh8]; rfl
          have qh8_135 : h8.1 66 62 = h7.1 66 62 := by rw [eh8]; rfl
          have qh8_136 : h8.1 66 63 = h7.1 66 63 := by rw [eh8]; rfl
          have qh8_137 : h8.1 66 65 = h7.1 66 65 := by rw [eh8]; rfl
          have qh8_138 : h8.1 66 69 = h7.1 66 69 := by rw [eh8]; rfl
          have qh8_139 : h8.1 66 70 = h7.1 66 70 := by rw [eh8]; rfl
          have qh8_140 : h8.1 66 71 = h7.1 66 71 := by rw [eh8]; rfl
          have zM := mm_cl_e1 zK y100_0 g100c (by rw [eh7, y100_1]) eh8 (by omega) (by omega) (by omega)
          have zm1 := zM.2.1
          have zX := y100_2 (by omega)
          have zA := mm_A9_1 (b := p1) (by have zk := mm_kw9_x y1_1; omega) (by omega) zs9 z102 zX (g100c.2 102 (by decide)) (mm_eY_tr (mm_eY_pa eh7 (by decide)) (mm_eY_pa eh8 (by decide))) ⟨by omega, by omega⟩ (fun j => (mm_sm_pa 102 eh8 (by decide) j).trans (mm_sm_pa 102 eh7 (by decide) j)) ((mm_sm_pa 103 eh8 (by decide) _).trans ((mm_sm_pa 103 eh7 (by decide) _).trans ((g100c.2 103 (by decide) _).trans z103)))
          have zk01 := mm_kw01 y1_1 (by omega)
          have zAJ := mm_AJ_1 (b := p1) (k := r1) zk01.2 (by omega) zs9 z102 (y100_4 (by omega)) (g100c.2 102 (by decide)) (mm_eY_tr (mm_eY_pa eh7 (by decide)) (mm_eY_pa eh8 (by decide))) ⟨by omega, by omega⟩ (fun j => (mm_sm_pa 102 eh8 (by decide) j).trans (mm_sm_pa 102 eh7 (by decide) j)) (by omega) (by omega) (fun j => (g78c.2 107 (by decide) j).trans ((mm_sm_pa 107 eh2 (by decide) j).trans ((mm_sm_pa 107 eh1 (by decide) j).trans (w40_0.2 107 (by decide) j)))) (mm_wo_tr (mm_wo_pa eh7 (by decide)) (mm_wo_pa eh8 (by decide))) (mm_ck9_tr (mm_ck9_tr (mm_ck9_fr w40_0 (by decide)) (mm_ck9_tr (mm_ck9_pa eh1 (Or.inl (by decide))) (mm_ck9_tr (mm_ck9_pa eh2 (Or.inr (by omega))) (mm_ck9_fr g78c (by decide))))) (mm_ck9_tr (mm_ck9_fr g100c (by decide)) (mm_ck9_tr (mm_ck9_pa eh7 (Or.inr (by omega))) (mm_ck9_pa eh8 (Or.inr (by omega)))))) zk01.1.symm ((mm_sm_pa 104 eh8 (by decide) _).trans ((mm_sm_pa 104 eh7 (by decide) _).trans ((g100c.2 104 (by decide) _).trans ((g78c.2 104 (by decide) _).trans (mm_pa_at eh2 (by omega)))))) ((mm_sm_pa 105 eh8 (by decide) _).trans ((mm_pa_at eh7 (by omega)).trans y100_1)) (mm_pa_at eh8 (by omega))
          have zch : mm_hq9 (mm_cY h = 0 ∨ mm_cY h = 1) := zk01.2
          clear zk01
          refine mm_aload_n C (mm_dec dk_X12_clause 69 rfl) rfl ?_
          refine mm_cVi (rest := []) C1 ev_X12_413 (mm_dec dk_X12_clause 70 rfl) (c_X12_isGood x.2.1 hl (d - 1) (by omega) h8 i8 ) rfl rfl (Nat.le_of_ble_eq_true rfl) ⟨by decide, by decide⟩ rfl (fun r112 h112c hp112 => ?_) (fun _ _ q => q.elim)
          obtain ⟨z112, y112⟩ := hp112
          rw [z112]
          refine mm_if_eq (tgt := 140) C (mm_dec dk_X12_clause 71 rfl) (by decide) (fun c115 => ?_) (fun c115 => ?_)
          · skip
            refine mm_fgt 1 ?_
            refine mm_fgt 2 ?_
            refine mm_fgt 3 ?_
            exact J140 h8 i8 f8 (by first | exact zM.1 | exact mm_cl_set zK (by omega) g88c (by decide) y88_0 (by omega) (by omega) (by omega) | exact (mm_cl_e2 zM (by omega) g127c y127_0 (by omega) y136_0 g136c (by rw [eh11, y136_1]) (by omega)).1) (by first | omega | exact fun z => (zm1 z).2.2.2 | exact fun _ => (mm_cl_e2 zM (by omega) g127c y127_0 (by omega) y136_0 g136c (by rw [eh11, y136_1]) (by omega)).2) (by first | exact mm_B9_set (by have zk := mm_kw9_x y1_1; omega) (by omega) zs9 z102 y88_2 ((g88c.2 103 (by decide) _).trans z103) | exact mm_B9_A zA (Or.inr (Or.inl (by omega))) | exact mm_B9_A zA (Or.inr (Or.inr (by have zk := mm_kw9_x y119_1; omega))) | exact mm_B9_A (mm_A9_2 zA (by omega) (by have zk := mm_kw9_x y119_1; omega) zsu (g127c.2 102 (by decide)) (y136_2 (by omega)) (g136c.2 102 (by decide)) (mm_eY_pa eh11 (by decide)) ⟨by omega, by omega⟩ (fun j => mm_sm_pa 102 eh11 (by decide) j) ((mm_sm_pa 103 eh11 (by decide) _).trans ((g136c.2 103 (by decide) _).trans (g127c.2 103 (by decide) _)))) (Or.inl rfl)) (by omega) (by first | exact mm_BJ_set (mm_kwS y1_1 (by assumption)) (by omega) zs9 z102 y88_4 ((g88c.2 103 (by decide) _).trans z103) (show 0 ≤ h.2.1 103 p1 ∧ h.2.1 103 p1 ≤ 20 from i0.2.1 103 p1).1 ((g88c.1 66 69 (by decide)).trans (by omega)) (fun j => (g88c.2 107 (by decide) j).trans ((fun j => (g78c.2 107 (by decide) j).trans ((mm_sm_pa 107 eh2 (by decide) j).trans ((mm_sm_pa 107 eh1 (by decide) j).trans (w40_0.2 107 (by decide) j)))) j)) (mm_ck9_tr (mm_ck9_tr (mm_ck9_fr w40_0 (by decide)) (mm_ck9_tr (mm_ck9_pa eh1 (Or.inl (by decide))) (mm_ck9_tr (mm_ck9_pa eh2 (Or.inr (by omega))) (mm_ck9_fr g78c (by decide))))) (mm_ck9_fr g88c (by decide))) (((g88c.2 104 (by decide) _).trans ((g78c.2 104 (by decide) _).trans (mm_pa_at eh2 (by omega)))).trans (by assumption)) | exact mm_BJ_A zA.1 zAJ (Or.inr (Or.inl (by omega))) zA.2.2.2.1 (show 0 ≤ h.2.1 103 p1 ∧ h.2.1 103 p1 ≤ 20 from i0.2.1 103 p1).1 | exact mm_BJ_A zA.1 zAJ (Or.inr (Or.inr (mm_kwN y119_1 (by assumption)))) zA.2.2.2.1 (show 0 ≤ h.2.1 103 p1 ∧ h.2.1 103 p1 ≤ 20 from i0.2.1 103 p1).1 | exact mm_BJ_A (mm_A9_2 zA (by omega) (mm_kwU y119_1 (by assumption)) zsu (g127c.2 102 (by decide)) (y136_2 (by omega)) (g136c.2 102 (by decide)) (mm_eY_pa eh11 (by decide)) ⟨by omega, by omega⟩ (fun j => mm_sm_pa 102 eh11 (by decide) j) ((mm_sm_pa 103 eh11 (by decide) _).trans ((g136c.2 103 (by decide) _).trans (g127c.2 103 (by decide) _)))).1 (mm_AJ_2 zA.1 zAJ (by omega) (mm_kwU y119_1 (by assumption)) zsu (g127c.2 102 (by decide)) (y136_4 (by omega)) (g136c.2 102 (by decide)) (mm_eY_pa eh11 (by decide)) ⟨by omega, by omega⟩ (fun j => mm_sm_pa 102 eh11 (by decide) j) (by omega) (g127c.1 66 69 (by decide)) (g127c.2 107 (by decide)) (mm_wo_pa eh11 (by decide)) (mm_ck9_tr (mm_ck9_fr g127c (by decide)) (mm_ck9_tr (mm_ck9_fr g136c (by decide)) (mm_ck9_pa eh11 (Or.inr (by omega))))) ((mm_sm_pa 104 eh11 (by decide) _).trans ((g136c.2 104 (by decide) _).trans (g127c.2 104 (by decide) _))) ((mm_sm_pa 105 eh11 (by decide) _).trans ((g136c.2 105 (by decide) _).trans (g127c.2 105 (by decide) _))) ((mm_pa_at eh11 (by omega)).trans y136_1) (by omega) (mm_hq9x zch)) (Or.inl rfl) (mm_A9_2 zA (by omega) (mm_kwU y119_1 (by assumption)) zsu (g127c.2 102 (by decide)) (y136_2 (by omega)) (g136c.2 102 (by decide)) (mm_eY_pa eh11 (by decide)) ⟨by omega, by omega⟩ (fun j => mm_sm_pa 102 eh11 (by decide) j) ((mm_sm_pa 103 eh11 (by decide) _).trans ((g136c.2 103 (by decide) _).trans (g127c.2 103 (by decide) _)))).2.2.2.1 (show 0 ≤ h.2.1 103 p1 ∧ h.2.1 103 p1 ≤ 20 from i0.2.1 103 p1).1)
          · skip
            refine mm_aload_n C (mm_dec dk_X12_clause 72 rfl) rfl ?_
            refine mm_cVi (rest := []) C1 ev_X12_419 (mm_dec dk_X12_clause 73 rfl) (c_X12_knownWord_q x.2.1 hl (d - 1) (by omega) h8 i8 (by first | exact zA.2.1 | omega)) rfl rfl (Nat.le_of_ble_eq_true rfl) ⟨by decide, by decide⟩ rfl (fun r119 h119c hp119 => ?_) (fun _ _ q => q.elim)
            obtain ⟨b119, z119, y119_0, y119_1⟩ := hp119
            rw [z119]
            refine mm_iconst C (mm_dec dk_X12_clause 74 rfl) ⟨by decide, by decide⟩ ?_
            refine mm_icmp_ne (tgt := 140) C (mm_dec dk_X12_clause 75 rfl) (by decide) (fun c123 => ?_) (fun c123 => ?_)
            · skip
              refine mm_fgt 1 ?_
              refine mm_fgt 2 ?_
              refine mm_fgt 3 ?_
              exact J140 h8 i8 f8 (by first | exact zM.1 | exact mm_cl_set zK (by omega) g88c (by decide) y88_0 (by omega) (by omega) (by omega) | exact (mm_cl_e2 zM (by omega) g127c y127_0 (by omega) y136_0 g136c (by rw [eh11, y136_1]) (by omega)).1) (by first | omega | exact fun z => (zm1 z).2.2.2 | exact fun _ => (mm_cl_e2 zM (by omega) g127c y127_0 (by omega) y136_0 g136c (by rw [eh11, y136_1]) (by omega)).2) (by first | exact mm_B9_set (by have zk := mm_kw9_x y1_1; omega) (by omega) zs9 z102 y88_2 ((g88c.2 103 (by decide) _).trans z103) | exact mm_B9_A zA (Or.inr (Or.inl (by omega))) | exact mm_B9_A zA (Or.inr (Or.inr (by have zk := mm_kw9_x y119_1; omega))) | exact mm_B9_A (mm_A9_2 zA (by omega) (by have zk := mm_kw9_x y119_1; omega) zsu (g127c.2 102 (by decide)) (y136_2 (by omega)) (g136c.2 102 (by decide)) (mm_eY_pa eh11 (by decide)) ⟨by omega, by omega⟩ (fun j => mm_sm_pa 102 eh11 (by decide) j) ((mm_sm_pa 103 eh11 (by decide) _).trans ((g136c.2 103 (by decide) _).trans (g127c.2 103 (by decide) _)))) (Or.inl rfl)) (by omega) (by first | exact mm_BJ_set (mm_kwS y1_1 (by assumption)) (by omega) zs9 z102 y88_4 ((g88c.2 103 (by decide) _).trans z103) (show 0 ≤ h.2.1 103 p1 ∧ h.2.1 103 p1 ≤ 20 from i0.2.1 103 p1).1 ((g88c.1 66 69 (by decide)).trans (by omega)) (fun j => (g88c.2 107 (by decide) j).trans ((fun j => (g78c.2 107 (by decide) j).trans ((mm_sm_pa 107 eh2 (by decide) j).trans ((mm_sm_pa 107 eh1 (by decide) j).trans (w40_0.2 107 (by decide) j)))) j)) (mm_ck9_tr (mm_ck9_tr (mm_ck9_fr w40_0 (by decide)) (mm_ck9_tr (mm_ck9_pa eh1 (Or.inl (by decide))) (mm_ck9_tr (mm_ck9_pa eh2 (Or.inr (by omega))) (mm_ck9_fr g78c (by decide))))) (mm_ck9_fr g88c (by decide))) (((g88c.2 104 (by decide) _).trans ((g78c.2 104 (by decide) _).trans (mm_pa_at eh2 (by omega)))).trans (by assumption)) | exact mm_BJ_A zA.1 zAJ (Or.inr (Or.inl (by omega))) zA.2.2.2.1 (show 0 ≤ h.2.1 103 p1 ∧ h.2.1 103 p1 ≤ 20 from i0.2.1 103 p1).1 | exact mm_BJ_A zA.1 zAJ (Or.inr (Or.inr (mm_kwN y119_1 (by assumption)))) zA.2.2.2.1 (show 0 ≤ h.2.1 103 p1 ∧ h.2.1 103 p1 ≤ 20 from i0.2.1 103 p1).1 | exact mm_BJ_A (mm_A9_2 zA (by omega) (mm_kwU y119_1 (by assumption)) zsu (g127c.2 102 (by decide)) (y136_2 (by omega)) (g136c.2 102 (by decide)) (mm_eY_pa eh11 (by decide)) ⟨by omega, by omega⟩ (fun j => mm_sm_pa 102 eh11 (by decide) j) ((mm_sm_pa 103 eh11 (by decide) _).trans ((g136c.2 103 (by decide) _).trans (g127c.2 103 (by decide) _)))).1 (mm_AJ_2 zA.1 zAJ (by omega) (mm_kwU y119_1 (by assumption)) zsu (g127c.2 102 (by decide)) (y136_4 (by omega)) (g136c.2 102 (by decide)) (mm_eY_pa eh11 (by decide)) ⟨by omega, by omega⟩ (fun j => mm_sm_pa 102 eh11 (by decide) j) (by omega) (g127c.1 66 69 (by decide)) (g127c.2 107 (by decide)) (mm_wo_pa eh11 (by decide)) (mm_ck9_tr (mm_ck9_fr g127c (by decide)) (mm_ck9_tr (mm_ck9_fr g136c (by decide)) (mm_ck9_pa eh11 (Or.inr (by omega))))) ((mm_sm_pa 104 eh11 (by decide) _).trans ((g136c.2 104 (by decide) _).trans (g127c.2 104 (by decide) _))) ((mm_sm_pa 105 eh11 (by decide) _).trans ((g136c.2 105 (by decide) _).trans (g127c.2 105 (by decide) _))) ((mm_pa_at eh11 (by omega)).trans y136_1) (by omega) (mm_hq9x zch)) (Or.inl rfl) (mm_A9_2 zA (by omega) (mm_kwU y119_1 (by assumption)) zsu (g127c.2 102 (by decide)) (y136_2 (by omega)) (g136c.2 102 (by decide)) (mm_eY_pa eh11 (by decide)) ⟨by omega, by omega⟩ (fun j => mm_sm_pa 102 eh11 (by decide) j) ((mm_sm_pa 103 eh11 (by decide) _).trans ((g136c.2 103 (by decide) _).trans (g127c.2 103 (by decide) _)))).2.2.2.1 (show 0 ≤ h.2.1 103 p1 ∧ h.2.1 103 p1 ≤ 20 from i0.2.1 103 p1).1)
            · skip
              refine mm_aload_n C (mm_dec dk_X12_clause 76 rfl) rfl ?_
              refine mm_cVv (rest := []) C1 ev_X12_423 (mm_dec dk_X12_clause 77 rfl) (c_X12_goes_q x.2.1 hl (d - 1) (by omega) h8 i8 ) rfl rfl (Nat.le_of_ble_eq_true rfl) ⟨by decide, by decide⟩ rfl (fun h127c hp127 => ?_) (fun _ _ q => q.elim)
              obtain ⟨i127c, g127c, y127_0, y127_1, y127_2, y127_3, y127_4⟩ := hp127
              have f127c : mm_fr [(66, 57), (66, 58), (66, 60), (66, 61), (66, 62), (66, 63), (66, 64), (66, 65), (66, 66), (66, 69), (66, 70), (66, 71)] [102, 103, 104, 105, 106, 107, 108, 109] h h127c := mm_fr_tr f8 g127c (by decide +kernel)
              have q127c_144 : h127c.1 66 57 = h8.1 66 57 := g127c.1 66 57 (by decide)
              have q127c_145 : h127c.1 66 58 = h8.1 66 58 := g127c.1 66 58 (by decide)
              have q127c_146 : h127c.1 66 69 = h8.1 66 69 := g127c.1 66 69 (by decide)
              have q127c_147 : h127c.1 66 70 = h8.1 66 70 := g127c.1 66 70 (by decide)
              have q127c_148 : h127c.1 66 71 = h8.1 66 71 := g127c.1 66 71 (by decide)
              have g149 : 0 ≤ (h127c.1 66 62) ∧ (h127c.1 66 62) ≤ 500 := i127c.1 66 62
              have g150 : 0 ≤ (h127c.1 66 60) ∧ (h127c.1 66 60) ≤ 500 := i127c.1 66 60
              have g151 : -2147483648 ≤ (h127c.1 66 61) ∧ (h127c.1 66 61) ≤ 2147483647 := i127c.1 66 61
              have g152 : -2147483648 ≤ (h127c.1 66 63) ∧ (h127c.1 66 63) ≤ 2147483647 := i127c.1 66 63
              have g153 : -2147483648 ≤ (h127c.1 66 65) ∧ (h127c.1 66 65) ≤ 2147483647 := i127c.1 66 65
              have zm2 := zM.1.2.1.1
              have zm3 := zM.1.2.2.2.2.1
              have zm5 := zm1 (by omega)
              have zm4 := zm5.1
              have zm6 := zM.1.2.2.2.1
              have zsu := mm_st9_of zA.2.1 y127_3 y127_4 g127c (by decide)
              refine mm_aload_n C (mm_dec dk_X12_clause 78 rfl) rfl ?_
              refine mm_getr (t := 106) C fl_X12_129 (mm_dec dk_X12_clause 79 rfl) rfl rfl (mm_ref i127c rfl) ?_
              refine mm_iload_n C (mm_dec dk_X12_clause 80 rfl) rfl ?_
              refine mm_aload_n C (mm_dec dk_X12_clause 81 rfl) rfl ?_
              refine mm_cVi (rest := [mI ((20 * p1) + (h40_.2.1 103 p1)), mR 106]) C1 ev_X12_451 (mm_dec dk_X12_clause 82 rfl) (c_X12_expression_q x.2.1 hl (d - 1) (by omega) h127c i127c (by first | exact y127_3 | exact ⟨y127_1, y127_2⟩ | omega) (by first | exact y127_3 | exact ⟨y127_1, y127_2⟩ | omega) (by first | exact y127_3 | exact ⟨y127_1, y127_2⟩ | omega)) rfl rfl (Nat.le_of_ble_eq_true rfl) ⟨by decide, by decide⟩ rfl (fun r136 h136c hp136 => ?_) (fun _ _ q => q.elim)
              obtain ⟨b136, i136c, g136c, y136_0, y136_1, y136_2, y136_3, y136_4⟩ := hp136
              have f136c : mm_fr [(66, 57), (66, 58), (66, 60), (66, 61), (66, 62), (66, 63), (66, 64), (66, 65), (66, 66), (66, 69), (66, 70), (66, 71)] [102, 103, 104, 105, 106, 107, 108, 109] h h136c := mm_fr_tr f127c g136c (by decide +kernel)
              have g155 : -2147483648 ≤ (h136c.1 66 57) ∧ (h136c.1 66 57) ≤ 2147483647 := i136c.1 66 57
              have g156 : 0 ≤ (h136c.1 66 69) ∧ (h136c.1 66 69) ≤ 2400 := i136c.1 66 69
              have g157 : 0 ≤ (h136c.1 66 70) ∧ (h136c.1 66 70) ≤ 520 := i136c.1 66 70
              have g158 : 0 ≤ (h136c.1 66 62) ∧ (h136c.1 66 62) ≤ 500 := i136c.1 66 62
              have g159 : 0 ≤ (h136c.1 66 60) ∧ (h136c.1 66 60) ≤ 500 := i136c.1 66 60
              have g160 : -2147483648 ≤ (h136c.1 66 61) ∧ (h136c.1 66 61) ≤ 2147483647 := i136c.1 66 61
              have g161 : 0 ≤ (h136c.1 66 71) ∧ (h136c.1 66 71) ≤ 6 := i136c.1 66 71
              have g162 : -2147483648 ≤ (h136c.1 66 58) ∧ (h136c.1 66 58) ≤ 2147483647 := i136c.1 66 58
              have g163 : -2147483648 ≤ (h136c.1 66 63) ∧ (h136c.1 66 63) ≤ 2147483647 := i136c.1 66 63
              have g164 : -2147483648 ≤ (h136c.1 66 65) ∧ (h136c.1 66 65) ≤ 2147483647 := i136c.1 66 65
              refine mm_iast C (mm_dec dk_X12_clause 83 rfl) rfl (by omega) (by omega) ?_
              have i11 : mm_inv (mm_pa h136c 106 ((20 * p1) + (h40_.2.1 103 p1)) r136) := mm_inv_pa i136c (show -1 ≤ r136 ∧ r136 ≤ 2399 from ⟨by omega, by omega⟩)
              have f11 : mm_fr [(66, 57), (66, 58), (66, 60), (66, 61), (66, 62), (66, 63), (66, 64), (66, 65), (66, 66), (66, 69), (66, 70), (66, 71)] [102, 103, 104, 105, 106, 107, 108, 109] h (mm_pa h136c 106 ((20 * p1) + (h40_.2.1 103 p1)) r136) := mm_fr_pa f136c (by decide)
              obtain ⟨h11, eh11⟩ : ∃ z, z = mm_pa h136c 106 ((20 * p1) + (h40_.2.1 103 p1)) r136 := ⟨_, rfl⟩
              rw [← eh11] at i11 f11 ⊢
              have qh11_165 : h11.1 66 57 = h136c.1 66 57 := by rw [eh11]; rfl
              have qh11_166 : h11.1 66 58 = h136c.1 66 58 := by rw [eh11]; rfl
              have qh11_167 : h11.1 66 60 = h136c.1 66 60 := by rw [eh11]; rfl
              have qh11_168 : h11.1 66 61 = h136c.1 66 61 := by rw [eh11]; rfl
              have qh11_169 : h11.1 66 62 = h136c.1 66 62 := by rw [eh11]; rfl
              have qh11_170 : h11.1 66 63 = h136c.1 66 63 := by rw [eh11]; rfl
              have qh11_171 : h11.1 66 65 = h136c.1 66 65 := by rw [eh11]; rfl
              have qh11_172 : h11.1 66 69 = h136c.1 66 69 := by rw [eh11]; rfl
              have qh11_173 : h11.1 66 70 = h136c.1 66 70 := by rw [eh11]; rfl
              have qh11_174 : h11.1 66 71 = h136c.1 66 71 := by rw [eh11]; rfl
              refine mm_fgt 1 ?_
              refine mm_fgt 2 ?_
              refine mm_fgt 3 ?_
              exact J140 h11 i11 f11 (by first | exact zM.1 | exact mm_cl_set zK (by omega) g88c (by decide) y88_0 (by omega) (by omega) (by omega) | exact (mm_cl_e2 zM (by omega) g127c y127_0 (by omega) y136_0 g136c (by rw [eh11, y136_1]) (by omega)).1) (by first | omega | exact fun z => (zm1 z).2.2.2 | exact fun _ => (mm_cl_e2 zM (by omega) g127c y127_0 (by omega) y136_0 g136c (by rw [eh11, y136_1]) (by omega)).2) (by first | exact mm_B9_set (by have zk := mm_kw9_x y1_1; omega) (by omega) zs9 z102 y88_2 ((g88c.2 103 (by decide) _).trans z103) | exact mm_B9_A zA (Or.inr (Or.inl (by omega))) | exact mm_B9_A zA (Or.inr (Or.inr (by have zk := mm_kw9_x y119_1; omega))) | exact mm_B9_A (mm_A9_2 zA (by omega) (by have zk := mm_kw9_x y119_1; omega) zsu (g127c.2 102 (by decide)) (y136_2 (by omega)) (g136c.2 102 (by decide)) (mm_eY_pa eh11 (by decide)) ⟨by omega, by omega⟩ (fun j => mm_sm_pa 102 eh11 (by decide) j) ((mm_sm_pa 103 eh11 (by decide) _).trans ((g136c.2 103 (by decide) _).trans (g127c.2 103 (by decide) _)))) (Or.inl rfl)) (by omega) (by first | exact mm_BJ_set (mm_kwS y1_1 (by assumption)) (by omega) zs9 z102 y88_4 ((g88c.2 103 (by decide) _).trans z103) (show 0 ≤ h.2.1 103 p1 ∧ h.2.1 103 p1 ≤ 20 from i0.2.1 103 p1).1 ((g88c.1 66 69 (by decide)).trans (by omega)) (fun j => (g88c.2 107 (by decide) j).trans ((fun j => (g78c.2 107 (by decide) j).trans ((mm_sm_pa 107 eh2 (by decide) j).trans ((mm_sm_pa 107 eh1 (by decide) j).trans (w40_0.2 107 (by decide) j)))) j)) (mm_ck9_tr (mm_ck9_tr (mm_ck9_fr w40_0 (by decide)) (mm_ck9_tr (mm_ck9_pa eh1 (Or.inl (by decide))) (mm_ck9_tr (mm_ck9_pa eh2 (Or.inr (by omega))) (mm_ck9_fr g78c (by decide))))) (mm_ck9_fr g88c (by decide))) (((g88c.2 104 (by decide) _).trans ((g78c.2 104 (by decide) _).trans (mm_pa_at eh2 (by omega)))).trans (by assumption)) | exact mm_BJ_A zA.1 zAJ (Or.inr (Or.inl (by omega))) zA.2.2.2.1 (show 0 ≤ h.2.1 103 p1 ∧ h.2.1 103 p1 ≤ 20 from i0.2.1 103 p1).1 | exact mm_BJ_A zA.1 zAJ (Or.inr (Or.inr (mm_kwN y119_1 (by assumption)))) zA.2.2.2.1 (show 0 ≤ h.2.1 103 p1 ∧ h.2.1 103 p1 ≤ 20 from i0.2.1 103 p1).1 | exact mm_BJ_A (mm_A9_2 zA (by omega) (mm_kwU y119_1 (by assumption)) zsu (g127c.2 102 (by decide)) (y136_2 (by omega)) (g136c.2 102 (by decide)) (mm_eY_pa eh11 (by decide)) ⟨by omega, by omega⟩ (fun j => mm_sm_pa 102 eh11 (by decide) j) ((mm_sm_pa 103 eh11 (by decide) _).trans ((g136c.2 103 (by decide) _).trans (g127c.2 103 (by decide) _)))).1 (mm_AJ_2 zA.1 zAJ (by omega) (mm_kwU y119_1 (by assumption)) zsu (g127c.2 102 (by decide)) (y136_4 (by omega)) (g136c.2 102 (by decide)) (mm_eY_pa eh11 (by decide)) ⟨by omega, by omega⟩ (fun j => mm_sm_pa 102 eh11 (by decide) j) (by omega) (g127c.1 66 69 (by decide)) (g127c.2 107 (by decide)) (mm_wo_pa eh11 (by decide)) (mm_ck9_tr (mm_ck9_fr g127c (by decide)) (mm_ck9_tr (mm_ck9_fr g136c (by decide)) (mm_ck9_pa eh11 (Or.inr (by omega))))) ((mm_sm_pa 104 eh11 (by decide) _).trans ((g136c.2 104 (by decide) _).trans (g127c.2 104 (by decide) _))) ((mm_sm_pa 105 eh11 (by decide) _).trans ((g136c.2 105 (by decide) _).trans (g127c.2 105 (by decide) _))) ((mm_pa_at eh11 (by omega)).trans y136_1) (by omega) (mm_hq9x zch)) (Or.inl rfl) (mm_A9_2 zA (by omega) (mm_kwU y119_1 (by assumption)) zsu (g127c.2 102 (by decide)) (y136_2 (by omega)) (g136c.2 102 (by decide)) (mm_eY_pa eh11 (by decide)) ⟨by omega, by omega⟩ (fun j => mm_sm_pa 102 eh11 (by decide) j) ((mm_sm_pa 103 eh11 (by decide) _).trans ((g136c.2 103 (by decide) _).trans (g127c.2 103 (by decide) _)))).2.2.2.1 (show 0 ≤ h.2.1 103 p1 ∧ h.2.1 103 p1 ≤ 20 from i0.2.1 103 p1).1)
        · skip
          refine mm_aload_n C (mm_dec dk_X12_clause 54 rfl) rfl ?_
          refine mm_iload_n C (mm_dec dk_X12_clause 55 rfl) rfl ?_
          refine mm_cVv (rest := []) C1 ev_X12_448 (mm_dec dk_X12_clause 56 rfl) (c_X12_sets_q x.2.1 hl (d - 1) (by omega) h78c i78c p1 ⟨by omega, by omega⟩ (by first | exact y78_3 | exact zK.2.1 | omega) (by first | exact y78_3 | exact zK.2.1 | omega) (by first | exact y78_3 | exact zK.2.1 | omega)) rfl rfl (Nat.le_of_ble_eq_true rfl) ⟨by decide, by decide⟩ rfl (fun h88c hp88 => ?_) (fun _ _ q => q.elim)
          obtain ⟨i88c, g88c, y88_0, y88_1, y88_2, y88_3, y88_4⟩ := hp88
          have f88c : mm_fr [(66, 57), (66, 58), (66, 60), (66, 61), (66, 62), (66, 63), (66, 64), (66, 65), (66, 66), (66, 69), (66, 70), (66, 71)] [102, 103, 104, 105, 106, 107, 108, 109] h h88c := mm_fr_tr f78c g88c (by decide +kernel)
          have q88c_176 : h88c.1 66 69 = h78c.1 66 69 := g88c.1 66 69 (by decide)
          have q88c_177 : h88c.1 66 70 = h78c.1 66 70 := g88c.1 66 70 (by decide)
          have q88c_178 : h88c.1 66 71 = h78c.1 66 71 := g88c.1 66 71 (by decide)
          have g179 : -2147483648 ≤ (h88c.1 66 57) ∧ (h88c.1 66 57) ≤ 2147483647 := i88c.1 66 57
          have g180 : 0 ≤ (h88c.1 66 62) ∧ (h88c.1 66 62) ≤ 500 := i88c.1 66 62
          have g181 : 0 ≤ (h88c.1 66 60) ∧ (h88c.1 66 60) ≤ 500 := i88c.1 66 60
          have g182 : -2147483648 ≤ (h88c.1 66 61) ∧ (h88c.1 66 61) ≤ 2147483647 := i88c.1 66 61
          have g183 : -2147483648 ≤ (h88c.1 66 58) ∧ (h88c.1 66 58) ≤ 2147483647 := i88c.1 66 58
          have g184 : -2147483648 ≤ (h88c.1 66 63) ∧ (h88c.1 66 63) ≤ 2147483647 := i88c.1 66 63
          have g185 : -2147483648 ≤ (h88c.1 66 65) ∧ (h88c.1 66 65) ≤ 2147483647 := i88c.1 66 65
          refine mm_goto (tgt := 140) C (mm_dec dk_X12_clause 57 rfl) (by decide) ?_
          refine mm_fgt 1 ?_
          refine mm_fgt 2 ?_
          refine mm_fgt 3 ?_
          exact J140 h88c i88c f88c (by first | exact zM.1 | exact mm_cl_set zK (by omega) g88c (by decide) y88_0 (by omega) (by omega) (by omega) | exact (mm_cl_e2 zM (by omega) g127c y127_0 (by omega) y136_0 g136c (by rw [eh11, y136_1]) (by omega)).1) (by first | omega | exact fun z => (zm1 z).2.2.2 | exact fun _ => (mm_cl_e2 zM (by omega) g127c y127_0 (by omega) y136_0 g136c (by rw [eh11, y136_1]) (by omega)).2) (by first | exact mm_B9_set (by have zk := mm_kw9_x y1_1; omega) (by omega) zs9 z102 y88_2 ((g88c.2 103 (by decide) _).trans z103) | exact mm_B9_A zA (Or.inr (Or.inl (by omega))) | exact mm_B9_A zA (Or.inr (Or.inr (by have zk := mm_kw9_x y119_1; omega))) | exact mm_B9_A (mm_A9_2 zA (by omega) (by have zk := mm_kw9_x y119_1; omega) zsu (g127c.2 102 (by decide)) (y136_2 (by omega)) (g136c.2 102 (by decide)) (mm_eY_pa eh11 (by decide)) ⟨by omega, by omega⟩ (fun j => mm_sm_pa 102 eh11 (by decide) j) ((mm_sm_pa 103 eh11 (by decide) _).trans ((g136c.2 103 (by decide) _).trans (g127c.2 103 (by decide) _)))) (Or.inl rfl)) (by omega) (by first | exact mm_BJ_set (mm_kwS y1_1 (by assumption)) (by omega) zs9 z102 y88_4 ((g88c.2 103 (by decide) _).trans z103) (show 0 ≤ h.2.1 103 p1 ∧ h.2.1 103 p1 ≤ 20 from i0.2.1 103 p1).1 ((g88c.1 66 69 (by decide)).trans (by omega)) (fun j => (g88c.2 107 (by decide) j).trans ((fun j => (g78c.2 107 (by decide) j).trans ((mm_sm_pa 107 eh2 (by decide) j).trans ((mm_sm_pa 107 eh1 (by decide) j).trans (w40_0.2 107 (by decide) j)))) j)) (mm_ck9_tr (mm_ck9_tr (mm_ck9_fr w40_0 (by decide)) (mm_ck9_tr (mm_ck9_pa eh1 (Or.inl (by decide))) (mm_ck9_tr (mm_ck9_pa eh2 (Or.inr (by omega))) (mm_ck9_fr g78c (by decide))))) (mm_ck9_fr g88c (by decide))) (((g88c.2 104 (by decide) _).trans ((g78c.2 104 (by decide) _).trans (mm_pa_at eh2 (by omega)))).trans (by assumption)) | exact mm_BJ_A zA.1 zAJ (Or.inr (Or.inl (by omega))) zA.2.2.2.1 (show 0 ≤ h.2.1 103 p1 ∧ h.2.1 103 p1 ≤ 20 from i0.2.1 103 p1).1 | exact mm_BJ_A zA.1 zAJ (Or.inr (Or.inr (mm_kwN y119_1 (by assumption)))) zA.2.2.2.1 (show 0 ≤ h.2.1 103 p1 ∧ h.2.1 103 p1 ≤ 20 from i0.2.1 103 p1).1 | exact mm_BJ_A (mm_A9_2 zA (by omega) (mm_kwU y119_1 (by assumption)) zsu (g127c.2 102 (by decide)) (y136_2 (by omega)) (g136c.2 102 (by decide)) (mm_eY_pa eh11 (by decide)) ⟨by omega, by omega⟩ (fun j => mm_sm_pa 102 eh11 (by decide) j) ((mm_sm_pa 103 eh11 (by decide) _).trans ((g136c.2 103 (by decide) _).trans (g127c.2 103 (by decide) _)))).1 (mm_AJ_2 zA.1 zAJ (by omega) (mm_kwU y119_1 (by assumption)) zsu (g127c.2 102 (by decide)) (y136_4 (by omega)) (g136c.2 102 (by decide)) (mm_eY_pa eh11 (by decide)) ⟨by omega, by omega⟩ (fun j => mm_sm_pa 102 eh11 (by decide) j) (by omega) (g127c.1 66 69 (by decide)) (g127c.2 107 (by decide)) (mm_wo_pa eh11 (by decide)) (mm_ck9_tr (mm_ck9_fr g127c (by decide)) (mm_ck9_tr (mm_ck9_fr g136c (by decide)) (mm_ck9_pa eh11 (Or.inr (by omega))))) ((mm_sm_pa 104 eh11 (by decide) _).trans ((g136c.2 104 (by decide) _).trans (g127c.2 104 (by decide) _))) ((mm_sm_pa 105 eh11 (by decide) _).trans ((g136c.2 105 (by decide) _).trans (g127c.2 105 (by decide) _))) ((mm_pa_at eh11 (by omega)).trans y136_1) (by omega) (mm_hq9x zch)) (Or.inl rfl) (mm_A9_2 zA (by omega) (mm_kwU y119_1 (by assumption)) zsu (g127c.2 102 (by decide)) (y136_2 (by omega)) (g136c.2 102 (by decide)) (mm_eY_pa eh11 (by decide)) ⟨by omega, by omega⟩ (fun j => mm_sm_pa 102 eh11 (by decide) j) ((mm_sm_pa 103 eh11 (by decide) _).trans ((g136c.2 103 (by decide) _).trans (g127c.2 103 (by decide) _)))).2.2.2.1 (show 0 ≤ h.2.1 103 p1 ∧ h.2.1 103 p1 ≤ 20 from i0.2.1 103 p1).1)
      · skip
        exact mm_vret C T (mm_dec dk_X12_clause 26 rfl) (by decide : 0 ≤ 0) (by decide : 0 ≤ 0) ⟨rfl, ⟨i40_, f40_, by first | exact w169_0 | exact w140_0 | exact mm_rl_bad w40_0 (by omega) t0 (by omega) (by omega), by omega, by first | exact w169_2 | exact mm_C9_B w140_2 (by omega) rfl | exact mm_C9_no t6 (by have zz := mm_hd9x tf; omega) w40_2 (w40_0.2 102 (by decide)) (by omega) (by omega) (by omega), by omega, by first | exact w169_4 | exact mm_CJ_no (by omega)⟩⟩
    refine mm_icmp_ne (tgt := 40) C (mm_dec dk_X12_clause 19 rfl) (by decide) (fun c32 => ?_) (fun c32 => ?_)
    · skip
      exact J40 h24_ i24_ f24_ (by first | exact w24_0 | exact mm_fr_tr w24_0 g37c (by decide +kernel)) (by omega) (by first | exact mm_eY_tr w24_2 (mm_eY_fr g37c (by decide)) | exact w24_2) (by omega)
    · skip
      refine mm_aload_n C (mm_dec dk_X12_clause 20 rfl) rfl ?_
      refine mm_iconst C (mm_dec dk_X12_clause 21 rfl) ⟨by decide, by decide⟩ ?_
      refine mm_cVv (rest := []) C1 ev_X12_417 (mm_dec dk_X12_clause 22 rfl) (c_X12_wrong_q x.2.1 hl (d - 1) (by omega) h24_ i24_ 2 (by omega)) rfl rfl (Nat.le_of_ble_eq_true rfl) ⟨by decide, by decide⟩ rfl (fun h37c hp37 => ?_) (fun _ _ q => q.elim)
      obtain ⟨i37c, g37c, y37_0, y37_1⟩ := hp37
      have f37c : mm_fr [(66, 57), (66, 58), (66, 60), (66, 61), (66, 62), (66, 63), (66, 64), (66, 65), (66, 66), (66, 69), (66, 70), (66, 71)] [102, 103, 104, 105, 106, 107, 108, 109] h h37c := mm_fr_tr f24_ g37c (by decide +kernel)
      have q37c_187 : h37c.1 66 60 = h24_.1 66 60 := g37c.1 66 60 (by decide)
      have q37c_188 : h37c.1 66 61 = h24_.1 66 61 := g37c.1 66 61 (by decide)
      have q37c_189 : h37c.1 66 62 = h24_.1 66 62 := g37c.1 66 62 (by decide)
      have q37c_190 : h37c.1 66 63 = h24_.1 66 63 := g37c.1 66 63 (by decide)
      have q37c_191 : h37c.1 66 65 = h24_.1 66 65 := g37c.1 66 65 (by decide)
      have q37c_192 : h37c.1 66 69 = h24_.1 66 69 := g37c.1 66 69 (by decide)
      have q37c_193 : h37c.1 66 70 = h24_.1 66 70 := g37c.1 66 70 (by decide)
      have q37c_194 : h37c.1 66 71 = h24_.1 66 71 := g37c.1 66 71 (by decide)
      have g195 : -2147483648 ≤ (h37c.1 66 57) ∧ (h37c.1 66 57) ≤ 2147483647 := i37c.1 66 57
      have g196 : -2147483648 ≤ (h37c.1 66 58) ∧ (h37c.1 66 58) ≤ 2147483647 := i37c.1 66 58
      exact J40 h37c i37c f37c (by first | exact w24_0 | exact mm_fr_tr w24_0 g37c (by decide +kernel)) (by omega) (by first | exact mm_eY_tr w24_2 (mm_eY_fr g37c (by decide)) | exact w24_2) (by omega)
  refine mm_if_eq (tgt := 24) C (mm_dec dk_X12_clause 4 rfl) (by decide) (fun c6 => ?_) (fun c6 => ?_)
  · skip
    exact J24 h i0 f0 (by first | exact mm_fr_rf | exact g21c) (by omega) (by first | exact mm_eY_rf | exact mm_eY_fr g21c (by decide)) (by first | (have zk := mm_kw9_x y1_1; omega))
  · skip
    refine mm_iload_n C (mm_dec dk_X12_clause 5 rfl) rfl ?_
    refine mm_iconst C (mm_dec dk_X12_clause 6 rfl) ⟨by decide, by decide⟩ ?_
    refine mm_icmp_eq (tgt := 24) C (mm_dec dk_X12_clause 7 rfl) (by decide) (fun c11 => ?_) (fun c11 => ?_)
    · skip
      exact J24 h i0 f0 (by first | exact mm_fr_rf | exact g21c) (by omega) (by first | exact mm_eY_rf | exact mm_eY_fr g21c (by decide)) (by first | (have zk := mm_kw9_x y1_1; omega))
    · skip
      refine mm_iload_n C (mm_dec dk_X12_clause 8 rfl) rfl ?_
      refine mm_iconst C (mm_dec dk_X12_clause 9 rfl) ⟨by decide, by decide⟩ ?_
      refine mm_icmp_eq (tgt := 24) C (mm_dec dk_X12_clause 10 rfl) (by decide) (fun c16 => ?_) (fun c16 => ?_)
      · skip
        exact J24 h i0 f0 (by first | exact mm_fr_rf | exact g21c) (by omega) (by first | exact mm_eY_rf | exact mm_eY_fr g21c (by decide)) (by first | (have zk := mm_kw9_x y1_1; omega))
      · skip
        refine mm_aload_n C (mm_dec dk_X12_clause 11 rfl) rfl ?_
        refine mm_iconst C (mm_dec dk_X12_clause 12 rfl) ⟨by decide, by decide⟩ ?_
        refine mm_cVv (rest := []) C1 ev_X12_417 (mm_dec dk_X12_clause 13 rfl) (c_X12_wrong_q x.2.1 hl (d - 1) (by omega) h i0 1 (by omega)) rfl rfl (Nat.le_of_ble_eq_true rfl) ⟨by decide, by decide⟩ rfl (fun h21c hp21 => ?_) (fun _ _ q => q.elim)
        obtain ⟨i21c, g21c, y21_0, y21_1⟩ := hp21
        have f21c : mm_fr [(66, 57), (66, 58), (66, 60), (66, 61), (66, 62), (66, 63), (66, 64), (66, 65), (66, 66), (66, 69), (66, 70), (66, 71)] [102, 103, 104, 105, 106, 107, 108, 109] h h21c := mm_fr_tr f0 g21c (by decide +kernel)
        have q21c_198 : h21c.1 66 60 = h.1 66 60 := g21c.1 66 60 (by decide)
        have q21c_199 : h21c.1 66 61 = h.1 66 61 := g21c.1 66 61 (by decide)
        have q21c_200 : h21c.1 66 62 = h.1 66 62 := g21c.1 66 62 (by decide)
        have q21c_201 : h21c.1 66 63 = h.1 66 63 := g21c.1 66 63 (by decide)
        have q21c_202 : h21c.1 66 65 = h.1 66 65 := g21c.1 66 65 (by decide)
        have q21c_203 : h21c.1 66 69 = h.1 66 69 := g21c.1 66 69 (by decide)
        have q21c_204 : h21c.1 66 70 = h.1 66 70 := g21c.1 66 70 (by decide)
        have q21c_205 : h21c.1 66 71 = h.1 66 71 := g21c.1 66 71 (by decide)
        have g206 : -2147483648 ≤ (h21c.1 66 57) ∧ (h21c.1 66 57) ≤ 2147483647 := i21c.1 66 57
        have g207 : -2147483648 ≤ (h21c.1 66 58) ∧ (h21c.1 66 58) ≤ 2147483647 := i21c.1 66 58
        exact J24 h21c i21c f21c (by first | exact mm_fr_rf | exact g21c) (by omega) (by first | exact mm_eY_rf | exact mm_eY_fr g21c (by decide)) (by first | (have zk := mm_kw9_x y1_1; omega))
