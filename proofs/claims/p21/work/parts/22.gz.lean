set_option maxRecDepth 100000 in
set_option maxHeartbeats 4000000 in
theorem c_X6_tell_q (l : Launch) (hl : l.stackTraces = false) (d : Nat) (hd : 0 ≤ d) (h : mH) (i0 : mm_inv h) (p1 : Int) (p2 : Int) (p3 : Int) (p4 : Int) (p5 : Int) (bp2 : 0 ≤ p2 ∧ p2 ≤ 39) (u0 : (h.1 30 6) ≤ 499) : mm_Met l d yX6_tell cX6_tell 6 (some .int) [mR 30, mI p1, mI p2, mI p3, mI p4, mI p5] h (mm_pi fun r h2 => (0 ≤ r ∧ r ≤ 499) ∧ mm_inv h2 ∧ mm_fr [(30, 6)] [31, 32, 33, 34, 35, 36] h h2 ∧ h2.1 30 6 = h.1 30 6 + 1 ∧ r = h.1 30 6 ∧ mm_up h h2 31 (h.1 30 6) p1 1 ∧ mm_up h h2 32 (h.1 30 6) p2 1 ∧ mm_up h h2 35 (h.1 30 6) p5 1 ∧ mm_up h h2 36 (h.1 30 6) (-1) 1 ∧ mm_up h h2 33 (h.1 30 6) p3 1 ∧ mm_up h h2 34 (h.1 30 6) p4 1) mm_nx 0 0 := by
  refine mm_ofW (ls := [mR 30, mI p1, mI p2, mI p3, mI p4, mI p5]) hl (by decide) rfl (Nat.le_of_ble_eq_true rfl) ?_
  intro x hxl C T hnm htb
  subst hxl
  refine mm_rng (fun hr _ => ?_)
  have ap1 : -2147483648 ≤ p1 ∧ p1 < 2147483648 := mm_ok_at hr (i := 1) rfl
  have ap2 : -2147483648 ≤ p2 ∧ p2 < 2147483648 := mm_ok_at hr (i := 2) rfl
  have ap3 : -2147483648 ≤ p3 ∧ p3 < 2147483648 := mm_ok_at hr (i := 3) rfl
  have ap4 : -2147483648 ≤ p4 ∧ p4 < 2147483648 := mm_ok_at hr (i := 4) rfl
  have ap5 : -2147483648 ≤ p5 ∧ p5 < 2147483648 := mm_ok_at hr (i := 5) rfl
  have f0 : mm_fr [(30, 6)] [31, 32, 33, 34, 35, 36] h h := mm_fr_rf
  have g1 : 0 ≤ h.1 30 6 ∧ h.1 30 6 ≤ 500 := i0.1 30 6
  refine mm_aload_n C (mm_dec dk_X6_tell 0 rfl) rfl ?_
  refine mm_getr (t := 31) C fl_X6_9 (mm_dec dk_X6_tell 1 rfl) rfl rfl (mm_ref i0 rfl) ?_
  refine mm_aload_n C (mm_dec dk_X6_tell 2 rfl) rfl ?_
  refine mm_geti C fl_X6_30 (mm_dec dk_X6_tell 3 rfl) rfl rfl (Or.inl rfl) ?_
  refine mm_iload_n C (mm_dec dk_X6_tell 4 rfl) rfl ?_
  refine mm_iast C (mm_dec dk_X6_tell 5 rfl) rfl (by omega) (by omega) ?_
  have i1 : mm_inv (mm_pa h 31 (h.1 30 6) p1) := mm_inv_pa i0 (show -2147483648 ≤ p1 ∧ p1 ≤ 2147483647 from ⟨by omega, by omega⟩)
  have f1 : mm_fr [(30, 6)] [31, 32, 33, 34, 35, 36] h (mm_pa h 31 (h.1 30 6) p1) := mm_fr_pa f0 (by decide)
  obtain ⟨h1, eh1⟩ : ∃ z, z = mm_pa h 31 (h.1 30 6) p1 := ⟨_, rfl⟩
  rw [← eh1] at i1 f1 ⊢
  have qh1_2 : h1.1 30 6 = h.1 30 6 := by rw [eh1]; rfl
  refine mm_aload_n C (mm_dec dk_X6_tell 6 rfl) rfl ?_
  refine mm_getr (t := 32) C fl_X6_15 (mm_dec dk_X6_tell 7 rfl) rfl rfl (mm_ref i1 rfl) ?_
  refine mm_aload_n C (mm_dec dk_X6_tell 8 rfl) rfl ?_
  refine mm_geti C fl_X6_30 (mm_dec dk_X6_tell 9 rfl) rfl rfl (Or.inl rfl) ?_
  refine mm_iload_n C (mm_dec dk_X6_tell 10 rfl) rfl ?_
  refine mm_iast C (mm_dec dk_X6_tell 11 rfl) rfl (by omega) (by omega) ?_
  have i2 : mm_inv (mm_pa h1 32 (h1.1 30 6) p2) := mm_inv_pa i1 (show -2147483648 ≤ p2 ∧ p2 ≤ 2147483647 from ⟨by omega, by omega⟩)
  have f2 : mm_fr [(30, 6)] [31, 32, 33, 34, 35, 36] h (mm_pa h1 32 (h1.1 30 6) p2) := mm_fr_pa f1 (by decide)
  obtain ⟨h2, eh2⟩ : ∃ z, z = mm_pa h1 32 (h1.1 30 6) p2 := ⟨_, rfl⟩
  rw [← eh2] at i2 f2 ⊢
  have qh2_3 : h2.1 30 6 = h1.1 30 6 := by rw [eh2]; rfl
  refine mm_aload_n C (mm_dec dk_X6_tell 12 rfl) rfl ?_
  refine mm_getr (t := 33) C fl_X6_18 (mm_dec dk_X6_tell 13 rfl) rfl rfl (mm_ref i2 rfl) ?_
  refine mm_aload_n C (mm_dec dk_X6_tell 14 rfl) rfl ?_
  refine mm_geti C fl_X6_30 (mm_dec dk_X6_tell 15 rfl) rfl rfl (Or.inl rfl) ?_
  refine mm_iload_n C (mm_dec dk_X6_tell 16 rfl) rfl ?_
  refine mm_iast C (mm_dec dk_X6_tell 17 rfl) rfl (by omega) (by omega) ?_
  have i3 : mm_inv (mm_pa h2 33 (h2.1 30 6) p3) := mm_inv_pa i2 (show -2147483648 ≤ p3 ∧ p3 ≤ 2147483647 from ⟨by omega, by omega⟩)
  have f3 : mm_fr [(30, 6)] [31, 32, 33, 34, 35, 36] h (mm_pa h2 33 (h2.1 30 6) p3) := mm_fr_pa f2 (by decide)
  obtain ⟨h3, eh3⟩ : ∃ z, z = mm_pa h2 33 (h2.1 30 6) p3 := ⟨_, rfl⟩
  rw [← eh3] at i3 f3 ⊢
  have qh3_4 : h3.1 30 6 = h2.1 30 6 := by rw [eh3]; rfl
  refine mm_aload_n C (mm_dec dk_X6_tell 18 rfl) rfl ?_
  refine mm_getr (t := 34) C fl_X6_21 (mm_dec dk_X6_tell 19 rfl) rfl rfl (mm_ref i3 rfl) ?_
  refine mm_aload_n C (mm_dec dk_X6_tell 20 rfl) rfl ?_
  refine mm_geti C fl_X6_30 (mm_dec dk_X6_tell 21 rfl) rfl rfl (Or.inl rfl) ?_
  refine mm_iload C (mm_dec dk_X6_tell 22 rfl) rfl ?_
  refine mm_iast C (mm_dec dk_X6_tell 23 rfl) rfl (by omega) (by omega) ?_
  have i4 : mm_inv (mm_pa h3 34 (h3.1 30 6) p4) := mm_inv_pa i3 (show -2147483648 ≤ p4 ∧ p4 ≤ 2147483647 from ⟨by omega, by omega⟩)
  have f4 : mm_fr [(30, 6)] [31, 32, 33, 34, 35, 36] h (mm_pa h3 34 (h3.1 30 6) p4) := mm_fr_pa f3 (by decide)
  obtain ⟨h4, eh4⟩ : ∃ z, z = mm_pa h3 34 (h3.1 30 6) p4 := ⟨_, rfl⟩
  rw [← eh4] at i4 f4 ⊢
  have qh4_5 : h4.1 30 6 = h3.1 30 6 := by rw [eh4]; rfl
  refine mm_aload_n C (mm_dec dk_X6_tell 24 rfl) rfl ?_
  refine mm_getr (t := 35) C fl_X6_24 (mm_dec dk_X6_tell 25 rfl) rfl rfl (mm_ref i4 rfl) ?_
  refine mm_aload_n C (mm_dec dk_X6_tell 26 rfl) rfl ?_
  refine mm_geti C fl_X6_30 (mm_dec dk_X6_tell 27 rfl) rfl rfl (Or.inl rfl) ?_
  refine mm_iload C (mm_dec dk_X6_tell 28 rfl) rfl ?_
  refine mm_iast C (mm_dec dk_X6_tell 29 rfl) rfl (by omega) (by omega) ?_
  have i5 : mm_inv (mm_pa h4 35 (h4.1 30 6) p5) := mm_inv_pa i4 (show -2147483648 ≤ p5 ∧ p5 ≤ 2147483647 from ⟨by omega, by omega⟩)
  have f5 : mm_fr [(30, 6)] [31, 32, 33, 34, 35, 36] h (mm_pa h4 35 (h4.1 30 6) p5) := mm_fr_pa f4 (by decide)
  obtain ⟨h5, eh5⟩ : ∃ z, z = mm_pa h4 35 (h4.1 30 6) p5 := ⟨_, rfl⟩
  rw [← eh5] at i5 f5 ⊢
  have qh5_6 : h5.1 30 6 = h4.1 30 6 := by rw [eh5]; rfl
  refine mm_aload_n C (mm_dec dk_X6_tell 30 rfl) rfl ?_
  refine mm_getr (t := 36) C fl_X6_27 (mm_dec dk_X6_tell 31 rfl) rfl rfl (mm_ref i5 rfl) ?_
  refine mm_aload_n C (mm_dec dk_X6_tell 32 rfl) rfl ?_
  refine mm_geti C fl_X6_30 (mm_dec dk_X6_tell 33 rfl) rfl rfl (Or.inl rfl) ?_
  refine mm_iconst C (mm_dec dk_X6_tell 34 rfl) ⟨by decide, by decide⟩ ?_
  refine mm_iast C (mm_dec dk_X6_tell 35 rfl) rfl (by omega) (by omega) ?_
  have i6 : mm_inv (mm_pa h5 36 (h5.1 30 6) (-1)) := mm_inv_pa i5 (show -2147483648 ≤ (-1) ∧ (-1) ≤ 2147483647 from ⟨by omega, by omega⟩)
  have f6 : mm_fr [(30, 6)] [31, 32, 33, 34, 35, 36] h (mm_pa h5 36 (h5.1 30 6) (-1)) := mm_fr_pa f5 (by decide)
  obtain ⟨h6, eh6⟩ : ∃ z, z = mm_pa h5 36 (h5.1 30 6) (-1) := ⟨_, rfl⟩
  rw [← eh6] at i6 f6 ⊢
  have qh6_7 : h6.1 30 6 = h5.1 30 6 := by rw [eh6]; rfl
  refine mm_aload_n C (mm_dec dk_X6_tell 36 rfl) rfl ?_
  refine mm_dup C (mm_dec dk_X6_tell 37 rfl) (show (2 : Nat) ≠ 1 by decide) ?_
  refine mm_geti C fl_X6_30 (mm_dec dk_X6_tell 38 rfl) rfl rfl (Or.inl rfl) ?_
  refine mm_iconst C (mm_dec dk_X6_tell 39 rfl) ⟨by decide, by decide⟩ ?_
  refine mm_iadd C (mm_dec dk_X6_tell 40 rfl) ⟨by omega, by omega⟩ ?_
  refine mm_puti C fl_X6_30 (mm_dec dk_X6_tell 41 rfl) rfl rfl rfl (Or.inl ⟨rfl, rfl⟩) ?_
  have i7 : mm_inv (mm_pf h6 30 6 ((h6.1 30 6) + 1)) := mm_inv_pf i6 (show 0 ≤ ((h6.1 30 6) + 1) ∧ ((h6.1 30 6) + 1) ≤ 500 from ⟨by omega, by omega⟩) (by decide)
  have f7 : mm_fr [(30, 6)] [31, 32, 33, 34, 35, 36] h (mm_pf h6 30 6 ((h6.1 30 6) + 1)) := mm_fr_pf f6 (by decide)
  obtain ⟨h7, eh7⟩ : ∃ z, z = mm_pf h6 30 6 ((h6.1 30 6) + 1) := ⟨_, rfl⟩
  rw [← eh7] at i7 f7 ⊢
  have qh7 : h7.1 30 6 = ((h6.1 30 6) + 1) := by rw [eh7]; exact mm_pf_same _ _ _ _
  refine mm_aload_n C (mm_dec dk_X6_tell 42 rfl) rfl ?_
  refine mm_geti C fl_X6_30 (mm_dec dk_X6_tell 43 rfl) rfl rfl (Or.inl rfl) ?_
  refine mm_iconst C (mm_dec dk_X6_tell 44 rfl) ⟨by decide, by decide⟩ ?_
  refine mm_isub C (mm_dec dk_X6_tell 45 rfl) ⟨by omega, by omega⟩ ?_
  exact mm_iret C T (mm_dec dk_X6_tell 46 rfl) (by decide : 0 ≤ 0) (by decide : 0 ≤ 0) ⟨_, rfl, ⟨⟨by omega, by omega⟩, i7, f7, by omega, by omega, by exact mm_up_pav (fun _ => rfl) eh1 (fun _ => ((mm_sm_pf 31 eh7 _).trans ((mm_sm_pa 31 eh6 (by decide) _).trans ((mm_sm_pa 31 eh5 (by decide) _).trans ((mm_sm_pa 31 eh4 (by decide) _).trans ((mm_sm_pa 31 eh3 (by decide) _).trans (mm_sm_pa 31 eh2 (by decide) _))))))) (by omega) (by omega) rfl, by exact mm_up_pav (fun _ => (mm_sm_pa 32 eh1 (by decide) _)) eh2 (fun _ => ((mm_sm_pf 32 eh7 _).trans ((mm_sm_pa 32 eh6 (by decide) _).trans ((mm_sm_pa 32 eh5 (by decide) _).trans ((mm_sm_pa 32 eh4 (by decide) _).trans (mm_sm_pa 32 eh3 (by decide) _)))))) (by omega) (by omega) rfl, by exact mm_up_pav (fun _ => ((mm_sm_pa 35 eh4 (by decide) _).trans ((mm_sm_pa 35 eh3 (by decide) _).trans ((mm_sm_pa 35 eh2 (by decide) _).trans (mm_sm_pa 35 eh1 (by decide) _))))) eh5 (fun _ => ((mm_sm_pf 35 eh7 _).trans (mm_sm_pa 35 eh6 (by decide) _))) (by omega) (by omega) rfl, by exact mm_up_pav (fun _ => ((mm_sm_pa 36 eh5 (by decide) _).trans ((mm_sm_pa 36 eh4 (by decide) _).trans ((mm_sm_pa 36 eh3 (by decide) _).trans ((mm_sm_pa 36 eh2 (by decide) _).trans (mm_sm_pa 36 eh1 (by decide) _)))))) eh6 (fun _ => (mm_sm_pf 36 eh7 _)) (by omega) (by omega) rfl, by exact mm_up_pav (fun _ => ((mm_sm_pa 33 eh2 (by decide) _).trans (mm_sm_pa 33 eh1 (by decide) _))) eh3 (fun _ => ((mm_sm_pf 33 eh7 _).trans ((mm_sm_pa 33 eh6 (by decide) _).trans ((mm_sm_pa 33 eh5 (by decide) _).trans (mm_sm_pa 33 eh4 (by decide) _))))) (by omega) (by omega) rfl, by exact mm_up_pav (fun _ => ((mm_sm_pa 34 eh3 (by decide) _).trans ((mm_sm_pa 34 eh2 (by decide) _).trans (mm_sm_pa 34 eh1 (by decide) _)))) eh4 (fun _ => ((mm_sm_pf 34 eh7 _).trans ((mm_sm_pa 34 eh6 (by decide) _).trans (mm_sm_pa 34 eh5 (by decide) _)))) (by omega) (by omega) rfl⟩⟩
set_option maxRecDepth 100000 in
set_option maxHeartbeats 4000000 in
theorem c_X6_takeBack_q (l : Launch) (hl : l.stackTraces = false) (d : Nat) (hd : 0 ≤ d) (h : mH) (i0 : mm_inv h) (p1 : Int) (p2 : Int) (bp1 : 0 ≤ p1 ∧ p1 ≤ 499) : mm_Met l d yX6_takeBack cX6_takeBack 3 (some .boolean) [mR 30, mI p1, mI p2] h (mm_pi fun r h2 => (0 ≤ r ∧ r ≤ 1) ∧ mm_inv h2 ∧ mm_fr [] [36] h h2 ∧ ((r = 1 ∧ h.2.1 36 p1 = -1) ∨ (r = 0 ∧ h.2.1 36 p1 ≠ -1)) ∧ mm_up h h2 36 p1 p2 r) mm_nx 0 0 := by
  refine mm_ofW (ls := [mR 30, mI p1, mI p2]) hl (by decide) rfl (Nat.le_of_ble_eq_true rfl) ?_
  intro x hxl C T hnm htb
  subst hxl
  refine mm_rng (fun hr _ => ?_)
  have ap1 : -2147483648 ≤ p1 ∧ p1 < 2147483648 := mm_ok_at hr (i := 1) rfl
  have ap2 : -2147483648 ≤ p2 ∧ p2 < 2147483648 := mm_ok_at hr (i := 2) rfl
  have f0 : mm_fr [] [36] h h := mm_fr_rf
  refine mm_aload_n C (mm_dec dk_X6_takeBack 0 rfl) rfl ?_
  refine mm_getr (t := 36) C fl_X6_27 (mm_dec dk_X6_takeBack 1 rfl) rfl rfl (mm_ref i0 rfl) ?_
  refine mm_iload_n C (mm_dec dk_X6_takeBack 2 rfl) rfl ?_
  refine mm_iald C (mm_dec dk_X6_takeBack 3 rfl) rfl (by omega) (by omega) ?_
  have g1 : -2147483648 ≤ (h.2.1 36 p1) ∧ (h.2.1 36 p1) ≤ 2147483647 := i0.2.1 36 p1
  refine mm_iconst C (mm_dec dk_X6_takeBack 4 rfl) ⟨by decide, by decide⟩ ?_
  refine mm_icmp_eq (tgt := 12) C (mm_dec dk_X6_takeBack 5 rfl) (by decide) (fun c7 => ?_) (fun c7 => ?_)
  · skip
    refine mm_aload_n C (mm_dec dk_X6_takeBack 8 rfl) rfl ?_
    refine mm_getr (t := 36) C fl_X6_27 (mm_dec dk_X6_takeBack 9 rfl) rfl rfl (mm_ref i0 rfl) ?_
    refine mm_iload_n C (mm_dec dk_X6_takeBack 10 rfl) rfl ?_
    refine mm_iload_n C (mm_dec dk_X6_takeBack 11 rfl) rfl ?_
    refine mm_iast C (mm_dec dk_X6_takeBack 12 rfl) rfl (by omega) (by omega) ?_
    have i1 : mm_inv (mm_pa h 36 p1 p2) := mm_inv_pa i0 (show -2147483648 ≤ p2 ∧ p2 ≤ 2147483647 from ⟨by omega, by omega⟩)
    have f1 : mm_fr [] [36] h (mm_pa h 36 p1 p2) := mm_fr_pa f0 (by decide)
    obtain ⟨h1, eh1⟩ : ∃ z, z = mm_pa h 36 p1 p2 := ⟨_, rfl⟩
    rw [← eh1] at i1 f1 ⊢
    refine mm_iconst C (mm_dec dk_X6_takeBack 13 rfl) ⟨by decide, by decide⟩ ?_
    exact mm_zret C T (mm_dec dk_X6_takeBack 14 rfl) (by decide : 0 ≤ 0) (by decide : 0 ≤ 0) (by omega) ⟨_, rfl, ⟨⟨by omega, by omega⟩, i1, f1, by omega, by first | exact mm_up_no (by decide) (fun _ => rfl) | exact mm_up_pav (fun _ => rfl) eh1 (fun _ => rfl) (by omega) (by omega) rfl⟩⟩
  · skip
    refine mm_iconst C (mm_dec dk_X6_takeBack 6 rfl) ⟨by decide, by decide⟩ ?_
    exact mm_zret C T (mm_dec dk_X6_takeBack 7 rfl) (by decide : 0 ≤ 0) (by decide : 0 ≤ 0) (by omega) ⟨_, rfl, ⟨⟨by omega, by omega⟩, i0, f0, by omega, by first | exact mm_up_no (by decide) (fun _ => rfl) | exact mm_up_pav (fun _ => rfl) eh1 (fun _ => rfl) (by omega) (by omega) rfl⟩⟩
set_option maxRecDepth 100000 in
set_option maxHeartbeats 4000000 in
theorem c_X6_accuse_q (l : Launch) (hl : l.stackTraces = false) (d : Nat) (hd : 0 ≤ d) (h : mH) (i0 : mm_inv h) (p1 : Int) (bp1 : 0 ≤ p1 ∧ p1 ≤ 39) (u0 : (h.1 30 12) ≤ 39) : mm_Met l d yX6_accuse cX6_accuse 2 (some .int) [mR 30, mI p1] h (mm_pi fun r h2 => (0 ≤ r ∧ r ≤ 39) ∧ mm_inv h2 ∧ mm_fr [(30, 12)] [37, 40] h h2 ∧ h2.1 30 12 = h.1 30 12 + 1 ∧ r = h.1 30 12 ∧ mm_up h h2 40 (h.1 30 12) (-1) 1 ∧ mm_up h h2 37 (h.1 30 12) p1 1) mm_nx 0 0 := by
  refine mm_ofW (ls := [mR 30, mI p1]) hl (by decide) rfl (Nat.le_of_ble_eq_true rfl) ?_
  intro x hxl C T hnm htb
  subst hxl
  refine mm_rng (fun hr _ => ?_)
  have ap1 : -2147483648 ≤ p1 ∧ p1 < 2147483648 := mm_ok_at hr (i := 1) rfl
  have f0 : mm_fr [(30, 12)] [37, 40] h h := mm_fr_rf
  have g1 : 0 ≤ h.1 30 12 ∧ h.1 30 12 ≤ 40 := i0.1 30 12
  refine mm_aload_n C (mm_dec dk_X6_accuse 0 rfl) rfl ?_
  refine mm_getr (t := 37) C fl_X6_34 (mm_dec dk_X6_accuse 1 rfl) rfl rfl (mm_ref i0 rfl) ?_
  refine mm_aload_n C (mm_dec dk_X6_accuse 2 rfl) rfl ?_
  refine mm_geti C fl_X6_49 (mm_dec dk_X6_accuse 3 rfl) rfl rfl (Or.inl rfl) ?_
  refine mm_iload_n C (mm_dec dk_X6_accuse 4 rfl) rfl ?_
  refine mm_iast C (mm_dec dk_X6_accuse 5 rfl) rfl (by omega) (by omega) ?_
  have i1 : mm_inv (mm_pa h 37 (h.1 30 12) p1) := mm_inv_pa i0 (show -2147483648 ≤ p1 ∧ p1 ≤ 2147483647 from ⟨by omega, by omega⟩)
  have f1 : mm_fr [(30, 12)] [37, 40] h (mm_pa h 37 (h.1 30 12) p1) := mm_fr_pa f0 (by decide)
  obtain ⟨h1, eh1⟩ : ∃ z, z = mm_pa h 37 (h.1 30 12) p1 := ⟨_, rfl⟩
  rw [← eh1] at i1 f1 ⊢
  have qh1_2 : h1.1 30 12 = h.1 30 12 := by rw [eh1]; rfl
  refine mm_aload_n C (mm_dec dk_X6_accuse 6 rfl) rfl ?_
  refine mm_getr (t := 40) C fl_X6_43 (mm_dec dk_X6_accuse 7 rfl) rfl rfl (mm_ref i1 rfl) ?_
  refine mm_aload_n C (mm_dec dk_X6_accuse 8 rfl) rfl ?_
  refine mm_geti C fl_X6_49 (mm_dec dk_X6_accuse 9 rfl) rfl rfl (Or.inl rfl) ?_
  refine mm_iconst C (mm_dec dk_X6_accuse 10 rfl) ⟨by decide, by decide⟩ ?_
  refine mm_iast C (mm_dec dk_X6_accuse 11 rfl) rfl (by omega) (by omega) ?_
  have i2 : mm_inv (mm_pa h1 40 (h1.1 30 12) (-1)) := mm_inv_pa i1 (show -2147483648 ≤ (-1) ∧ (-1) ≤ 2147483647 from ⟨by omega, by omega⟩)
  have f2 : mm_fr [(30, 12)] [37, 40] h (mm_pa h1 40 (h1.1 30 12) (-1)) := mm_fr_pa f1 (by decide)
  obtain ⟨h2, eh2⟩ : ∃ z, z = mm_pa h1 40 (h1.1 30 12) (-1) := ⟨_, rfl⟩
  rw [← eh2] at i2 f2 ⊢
  have qh2_3 : h2.1 30 12 = h1.1 30 12 := by rw [eh2]; rfl
  refine mm_aload_n C (mm_dec dk_X6_accuse 12 rfl) rfl ?_
  refine mm_dup C (mm_dec dk_X6_accuse 13 rfl) (show (2 : Nat) ≠ 1 by decide) ?_
  refine mm_geti C fl_X6_49 (mm_dec dk_X6_accuse 14 rfl) rfl rfl (Or.inl rfl) ?_
  refine mm_iconst C (mm_dec dk_X6_accuse 15 rfl) ⟨by decide, by decide⟩ ?_
  refine mm_iadd C (mm_dec dk_X6_accuse 16 rfl) ⟨by omega, by omega⟩ ?_
  refine mm_puti C fl_X6_49 (mm_dec dk_X6_accuse 17 rfl) rfl rfl rfl (Or.inl ⟨rfl, rfl⟩) ?_
  have i3 : mm_inv (mm_pf h2 30 12 ((h2.1 30 12) + 1)) := mm_inv_pf i2 (show 0 ≤ ((h2.1 30 12) + 1) ∧ ((h2.1 30 12) + 1) ≤ 40 from ⟨by omega, by omega⟩) (by decide)
  have f3 : mm_fr [(30, 12)] [37, 40] h (mm_pf h2 30 12 ((h2.1 30 12) + 1)) := mm_fr_pf f2 (by decide)
  obtain ⟨h3, eh3⟩ : ∃ z, z = mm_pf h2 30 12 ((h2.1 30 12) + 1) := ⟨_, rfl⟩
  rw [← eh3] at i3 f3 ⊢
  have qh3 : h3.1 30 12 = ((h2.1 30 12) + 1) := by rw [eh3]; exact mm_pf_same _ _ _ _
  refine mm_aload_n C (mm_dec dk_X6_accuse 18 rfl) rfl ?_
  refine mm_geti C fl_X6_49 (mm_dec dk_X6_accuse 19 rfl) rfl rfl (Or.inl rfl) ?_
  refine mm_iconst C (mm_dec dk_X6_accuse 20 rfl) ⟨by decide, by decide⟩ ?_
  refine mm_isub C (mm_dec dk_X6_accuse 21 rfl) ⟨by omega, by omega⟩ ?_
  exact mm_iret C T (mm_dec dk_X6_accuse 22 rfl) (by decide : 0 ≤ 0) (by decide : 0 ≤ 0) ⟨_, rfl, ⟨⟨by omega, by omega⟩, i3, f3, by omega, by omega, by exact mm_up_pav (fun _ => (mm_sm_pa 40 eh1 (by decide) _)) eh2 (fun _ => (mm_sm_pf 40 eh3 _)) (by omega) (by omega) rfl, by exact mm_up_pav (fun _ => rfl) eh1 (fun _ => ((mm_sm_pf 37 eh3 _).trans (mm_sm_pa 37 eh2 (by decide) _))) (by omega) (by omega) rfl⟩⟩
set_option maxRecDepth 100000 in
set_option maxHeartbeats 4000000 in
theorem c_X6_settle_q (l : Launch) (hl : l.stackTraces = false) (d : Nat) (hd : 0 ≤ d) (h : mH) (i0 : mm_inv h) (p1 : Int) (p2 : Int) (p3 : Int) (p4 : Int) (bp1 : 0 ≤ p1 ∧ p1 ≤ 39) : mm_Met l d yX6_settle cX6_settle 5 (some .boolean) [mR 30, mI p1, mI p2, mI p3, mI p4] h (mm_pi fun r h2 => (0 ≤ r ∧ r ≤ 1) ∧ mm_inv h2 ∧ mm_fr [(30, 13)] [38, 39, 40, 41] h h2 ∧ ((r = 1 ∧ h.2.1 40 p1 = -1) ∨ (r = 0 ∧ h.2.1 40 p1 ≠ -1)) ∧ mm_up h h2 40 p1 p4 r ∧ mm_up h h2 38 p1 p2 r ∧ mm_up h h2 39 p1 p3 r ∧ mm_up h h2 41 p1 (h.1 30 13) r ∧ ((r = 1 ∧ h2.1 30 13 = mm_w (h.1 30 13 + 1)) ∨ (r = 0 ∧ h2.1 30 13 = h.1 30 13))) mm_nx 0 0 := by
  refine mm_ofW (ls := [mR 30, mI p1, mI p2, mI p3, mI p4]) hl (by decide) rfl (Nat.le_of_ble_eq_true rfl) ?_
  intro x hxl C T hnm htb
  subst hxl
  refine mm_rng (fun hr _ => ?_)
  have ap1 : -2147483648 ≤ p1 ∧ p1 < 2147483648 := mm_ok_at hr (i := 1) rfl
  have ap2 : -2147483648 ≤ p2 ∧ p2 < 2147483648 := mm_ok_at hr (i := 2) rfl
  have ap3 : -2147483648 ≤ p3 ∧ p3 < 2147483648 := mm_ok_at hr (i := 3) rfl
  have ap4 : -2147483648 ≤ p4 ∧ p4 < 2147483648 := mm_ok_at hr (i := 4) rfl
  have f0 : mm_fr [(30, 13)] [38, 39, 40, 41] h h := mm_fr_rf
  have g1 : -2147483648 ≤ h.1 30 13 ∧ h.1 30 13 ≤ 2147483647 := i0.1 30 13
  refine mm_aload_n C (mm_dec dk_X6_settle 0 rfl) rfl ?_
  refine mm_getr (t := 40) C fl_X6_43 (mm_dec dk_X6_settle 1 rfl) rfl rfl (mm_ref i0 rfl) ?_
  refine mm_iload_n C (mm_dec dk_X6_settle 2 rfl) rfl ?_
  refine mm_iald C (mm_dec dk_X6_settle 3 rfl) rfl (by omega) (by omega) ?_
  have g2 : -2147483648 ≤ (h.2.1 40 p1) ∧ (h.2.1 40 p1) ≤ 2147483647 := i0.2.1 40 p1
  refine mm_iconst C (mm_dec dk_X6_settle 4 rfl) ⟨by decide, by decide⟩ ?_
  refine mm_icmp_eq (tgt := 12) C (mm_dec dk_X6_settle 5 rfl) (by decide) (fun c7 => ?_) (fun c7 => ?_)
  · skip
    refine mm_aload_n C (mm_dec dk_X6_settle 8 rfl) rfl ?_
    refine mm_getr (t := 38) C fl_X6_37 (mm_dec dk_X6_settle 9 rfl) rfl rfl (mm_ref i0 rfl) ?_
    refine mm_iload_n C (mm_dec dk_X6_settle 10 rfl) rfl ?_
    refine mm_iload_n C (mm_dec dk_X6_settle 11 rfl) rfl ?_
    refine mm_iast C (mm_dec dk_X6_settle 12 rfl) rfl (by omega) (by omega) ?_
    have i1 : mm_inv (mm_pa h 38 p1 p2) := mm_inv_pa i0 (show -2147483648 ≤ p2 ∧ p2 ≤ 2147483647 from ⟨by omega, by omega⟩)
    have f1 : mm_fr [(30, 13)] [38, 39, 40, 41] h (mm_pa h 38 p1 p2) := mm_fr_pa f0 (by decide)
    obtain ⟨h1, eh1⟩ : ∃ z, z = mm_pa h 38 p1 p2 := ⟨_, rfl⟩
    rw [← eh1] at i1 f1 ⊢
    have qh1_3 : h1.1 30 13 = h.1 30 13 := by rw [eh1]; rfl
    refine mm_aload_n C (mm_dec dk_X6_settle 13 rfl) rfl ?_
    refine mm_getr (t := 39) C fl_X6_40 (mm_dec dk_X6_settle 14 rfl) rfl rfl (mm_ref i1 rfl) ?_
    refine mm_iload_n C (mm_dec dk_X6_settle 15 rfl) rfl ?_
    refine mm_iload_n C (mm_dec dk_X6_settle 16 rfl) rfl ?_
    refine mm_iast C (mm_dec dk_X6_settle 17 rfl) rfl (by omega) (by omega) ?_
    have i2 : mm_inv (mm_pa h1 39 p1 p3) := mm_inv_pa i1 (show -2147483648 ≤ p3 ∧ p3 ≤ 2147483647 from ⟨by omega, by omega⟩)
    have f2 : mm_fr [(30, 13)] [38, 39, 40, 41] h (mm_pa h1 39 p1 p3) := mm_fr_pa f1 (by decide)
    obtain ⟨h2, eh2⟩ : ∃ z, z = mm_pa h1 39 p1 p3 := ⟨_, rfl⟩
    rw [← eh2] at i2 f2 ⊢
    have qh2_4 : h2.1 30 13 = h1.1 30 13 := by rw [eh2]; rfl
    refine mm_aload_n C (mm_dec dk_X6_settle 18 rfl) rfl ?_
    refine mm_getr (t := 40) C fl_X6_43 (mm_dec dk_X6_settle 19 rfl) rfl rfl (mm_ref i2 rfl) ?_
    refine mm_iload_n C (mm_dec dk_X6_settle 20 rfl) rfl ?_
    refine mm_iload C (mm_dec dk_X6_settle 21 rfl) rfl ?_
    refine mm_iast C (mm_dec dk_X6_settle 22 rfl) rfl (by omega) (by omega) ?_
    have i3 : mm_inv (mm_pa h2 40 p1 p4) := mm_inv_pa i2 (show -2147483648 ≤ p4 ∧ p4 ≤ 2147483647 from ⟨by omega, by omega⟩)
    have f3 : mm_fr [(30, 13)] [38, 39, 40, 41] h (mm_pa h2 40 p1 p4) := mm_fr_pa f2 (by decide)
    obtain ⟨h3, eh3⟩ : ∃ z, z = mm_pa h2 40 p1 p4 := ⟨_, rfl⟩
    rw [← eh3] at i3 f3 ⊢
    have qh3_5 : h3.1 30 13 = h2.1 30 13 := by rw [eh3]; rfl
    refine mm_aload_n C (mm_dec dk_X6_settle 23 rfl) rfl ?_
    refine mm_getr (t := 41) C fl_X6_46 (mm_dec dk_X6_settle 24 rfl) rfl rfl (mm_ref i3 rfl) ?_
    refine mm_iload_n C (mm_dec dk_X6_settle 25 rfl) rfl ?_
    refine mm_aload_n C (mm_dec dk_X6_settle 26 rfl) rfl ?_
    refine mm_geti C fl_X6_52 (mm_dec dk_X6_settle 27 rfl) rfl rfl (Or.inl rfl) ?_
    refine mm_iast C (mm_dec dk_X6_settle 28 rfl) rfl (by omega) (by omega) ?_
    have i4 : mm_inv (mm_pa h3 41 p1 (h3.1 30 13)) := mm_inv_pa i3 (show -2147483648 ≤ (h3.1 30 13) ∧ (h3.1 30 13) ≤ 2147483647 from ⟨by omega, by omega⟩)
    have f4 : mm_fr [(30, 13)] [38, 39, 40, 41] h (mm_pa h3 41 p1 (h3.1 30 13)) := mm_fr_pa f3 (by decide)
    obtain ⟨h4, eh4⟩ : ∃ z, z = mm_pa h3 41 p1 (h3.1 30 13) := ⟨_, rfl⟩
    rw [← eh4] at i4 f4 ⊢
    have qh4_6 : h4.1 30 13 = h3.1 30 13 := by rw [eh4]; rfl
    refine mm_aload_n C (mm_dec dk_X6_settle 29 rfl) rfl ?_
    refine mm_dup C (mm_dec dk_X6_settle 30 rfl) (show (2 : Nat) ≠ 1 by decide) ?_
    refine mm_geti C fl_X6_52 (mm_dec dk_X6_settle 31 rfl) rfl rfl (Or.inl rfl) ?_
    refine mm_iconst C (mm_dec dk_X6_settle 32 rfl) ⟨by decide, by decide⟩ ?_
    refine mm_iaddw C (mm_dec dk_X6_settle 33 rfl) ?_
    have g7 : -2147483648 ≤ (mm_w ((h4.1 30 13) + 1)) ∧ (mm_w ((h4.1 30 13) + 1)) < 2147483648 := mm_w_rg _
    refine mm_puti C fl_X6_52 (mm_dec dk_X6_settle 34 rfl) rfl rfl rfl (Or.inl ⟨rfl, rfl⟩) ?_
    have i5 : mm_inv (mm_pf h4 30 13 (mm_w ((h4.1 30 13) + 1))) := mm_inv_pf i4 (show -2147483648 ≤ (mm_w ((h4.1 30 13) + 1)) ∧ (mm_w ((h4.1 30 13) + 1)) ≤ 2147483647 from ⟨by omega, by omega⟩) (by decide)
    have f5 : mm_fr [(30, 13)] [38, 39, 40, 41] h (mm_pf h4 30 13 (mm_w ((h4.1 30 13) + 1))) := mm_fr_pf f4 (by decide)
    obtain ⟨h5, eh5⟩ : ∃ z, z = mm_pf h4 30 13 (mm_w ((h4.1 30 13) + 1)) := ⟨_, rfl⟩
    rw [← eh5] at i5 f5 ⊢
    have qh5 : h5.1 30 13 = (mm_w ((h4.1 30 13) + 1)) := by rw [eh5]; exact mm_pf_same _ _ _ _
    refine mm_iconst C (mm_dec dk_X6_settle 35 rfl) ⟨by decide, by decide⟩ ?_
    exact mm_zret C T (mm_dec dk_X6_settle 36 rfl) (by decide : 0 ≤ 0) (by decide : 0 ≤ 0) (by omega) ⟨_, rfl, ⟨⟨by omega, by omega⟩, i5, f5, by omega, by first | exact mm_up_no (by decide) (fun _ => rfl) | exact mm_up_pav (fun _ => ((mm_sm_pa 40 eh2 (by decide) _).trans (mm_sm_pa 40 eh1 (by decide) _))) eh3 (fun _ => ((mm_sm_pf 40 eh5 _).trans (mm_sm_pa 40 eh4 (by decide) _))) (by omega) (by omega) rfl, by first | exact mm_up_no (by decide) (fun _ => rfl) | exact mm_up_pav (fun _ => rfl) eh1 (fun _ => ((mm_sm_pf 38 eh5 _).trans ((mm_sm_pa 38 eh4 (by decide) _).trans ((mm_sm_pa 38 eh3 (by decide) _).trans (mm_sm_pa 38 eh2 (by decide) _))))) (by omega) (by omega) rfl, by first | exact mm_up_no (by decide) (fun _ => rfl) | exact mm_up_pav (fun _ => (mm_sm_pa 39 eh1 (by decide) _)) eh2 (fun _ => ((mm_sm_pf 39 eh5 _).trans ((mm_sm_pa 39 eh4 (by decide) _).trans (mm_sm_pa 39 eh3 (by decide) _)))) (by omega) (by omega) rfl, by first | exact mm_up_no (by decide) (fun _ => rfl) | exact mm_up_pav (fun _ => ((mm_sm_pa 41 eh3 (by decide) _).trans ((mm_sm_pa 41 eh2 (by decide) _).trans (mm_sm_pa 41 eh1 (by decide) _)))) eh4 (fun _ => (mm_sm_pf 41 eh5 _)) (by omega) (by omega) rfl, by first | exact Or.inr ⟨rfl, rfl⟩ | exact Or.inl ⟨rfl, qh5.trans (congrArg mm_w (show _ = h.1 30 13 + 1 by omega))⟩⟩⟩
  · skip
    refine mm_iconst C (mm_dec dk_X6_settle 6 rfl) ⟨by decide, by decide⟩ ?_
    exact mm_zret C T (mm_dec dk_X6_settle 7 rfl) (by decide : 0 ≤ 0) (by decide : 0 ≤ 0) (by omega) ⟨_, rfl, ⟨⟨by omega, by omega⟩, i0, f0, by omega, by first | exact mm_up_no (by decide) (fun _ => rfl) | exact mm_up_pav (fun _ => ((mm_sm_pa 40 eh2 (by decide) _).trans (mm_sm_pa 40 eh1 (by decide) _))) eh3 (fun _ => ((mm_sm_pf 40 eh5 _).trans (mm_sm_pa 40 eh4 (by decide) _))) (by omega) (by omega) rfl, by first | exact mm_up_no (by decide) (fun _ => rfl) | exact mm_up_pav (fun _ => rfl) eh1 (fun _ => ((mm_sm_pf 38 eh5 _).trans ((mm_sm_pa 38 eh4 (by decide) _).trans ((mm_sm_pa 38 eh3 (by decide) _).trans (mm_sm_pa 38 eh2 (by decide) _))))) (by omega) (by omega) rfl, by first | exact mm_up_no (by decide) (fun _ => rfl) | exact mm_up_pav (fun _ => (mm_sm_pa 39 eh1 (by decide) _)) eh2 (fun _ => ((mm_sm_pf 39 eh5 _).trans ((mm_sm_pa 39 eh4 (by decide) _).trans (mm_sm_pa 39 eh3 (by decide) _)))) (by omega) (by omega) rfl, by first | exact mm_up_no (by decide) (fun _ => rfl) | exact mm_up_pav (fun _ => ((mm_sm_pa 41 eh3 (by decide) _).trans ((mm_sm_pa 41 eh2 (by decide) _).trans (mm_sm_pa 41 eh1 (by decide) _)))) eh4 (fun _ => (mm_sm_pf 41 eh5 _)) (by omega) (by omega) rfl, by first | exact Or.inr ⟨rfl, rfl⟩ | exact Or.inl ⟨rfl, qh5.trans (congrArg mm_w (show _ = h.1 30 13 + 1 by omega))⟩⟩⟩
set_option maxRecDepth 100000 in
set_option maxHeartbeats 4000000 in
theorem c_X6_isKnown_q (l : Launch) (hl : l.stackTraces = false) (d : Nat) (hd : 0 ≤ d) (h : mH) (i0 : mm_inv h) (p1 : Int) (p2 : Int) (p3 : Int) (p4 : Int) (bp1 : 0 ≤ p1 ∧ p1 ≤ 499) (bp3 : 0 ≤ p3 ∧ p3 ≤ 39) : mm_Met l d yX6_isKnown cX6_isKnown 5 (some .boolean) [mR 30, mI p1, mI p2, mI p3, mI p4] h (mm_pi fun r h2 => (0 ≤ r ∧ r ≤ 1) ∧ h2 = h ∧ ((r = 1 ∧ mm_k1 h p2 p3 p4 p1) ∨ (r = 0 ∧ ¬ mm_k1 h p2 p3 p4 p1))) mm_nx 0 0 := by
  refine mm_ofW (ls := [mR 30, mI p1, mI p2, mI p3, mI p4]) hl (by decide) rfl (Nat.le_of_ble_eq_true rfl) ?_
  intro x hxl C T hnm htb
  subst hxl
  refine mm_rng (fun hr _ => ?_)
  have ap1 : -2147483648 ≤ p1 ∧ p1 < 2147483648 := mm_ok_at hr (i := 1) rfl
  have ap2 : -2147483648 ≤ p2 ∧ p2 < 2147483648 := mm_ok_at hr (i := 2) rfl
  have ap3 : -2147483648 ≤ p3 ∧ p3 < 2147483648 := mm_ok_at hr (i := 3) rfl
  have ap4 : -2147483648 ≤ p4 ∧ p4 < 2147483648 := mm_ok_at hr (i := 4) rfl
  have f0 : mm_fr [] [] h h := mm_fr_rf
  refine mm_aload_n C (mm_dec dk_X6_isKnown 0 rfl) rfl ?_
  refine mm_getr (t := 31) C fl_X6_9 (mm_dec dk_X6_isKnown 1 rfl) rfl rfl (mm_ref i0 rfl) ?_
  refine mm_iload_n C (mm_dec dk_X6_isKnown 2 rfl) rfl ?_
  refine mm_iald C (mm_dec dk_X6_isKnown 3 rfl) rfl (by omega) (by omega) ?_
  have g1 : -2147483648 ≤ (h.2.1 31 p1) ∧ (h.2.1 31 p1) ≤ 2147483647 := i0.2.1 31 p1
  refine mm_iload_n C (mm_dec dk_X6_isKnown 4 rfl) rfl ?_
  have J57 : ∀ (s57_0 : Int) (bs57_0 : 0 ≤ s57_0 ∧ s57_0 ≤ 1) (w57_0 : ((s57_0 = 1 ∧ mm_k1 h p2 p3 p4 p1) ∨ (s57_0 = 0 ∧ ¬ mm_k1 h p2 p3 p4 p1))) (vs57_0 : (s57_0 = 0) ∨ ((h.2.1 31 p1) = p2 ∧ (h.2.1 32 p1) = p3 ∧ (h.2.1 35 p1) ≤ p4 ∧ s57_0 = 1)), mm_W x 0 0 57 [mU, mU, mU, mU, mU] [mI s57_0] h := by
    intro s57_0 bs57_0 w57_0 vs57_0
    exact mm_zret C T (mm_dec dk_X6_isKnown 33 rfl) (by decide : 0 ≤ 0) (by decide : 0 ≤ 0) (by omega) ⟨_, rfl, ⟨⟨by omega, by omega⟩, rfl, by exact w57_0⟩⟩
  have J56 : ∀ (w56_0 : ¬ mm_k1 h p2 p3 p4 p1), mm_W x 0 0 56 [mU, mU, mU, mU, mU] [] h := by
    intro w56_0
    refine mm_iconst C (mm_dec dk_X6_isKnown 32 rfl) ⟨by decide, by decide⟩ ?_
    exact J57 0 ⟨by omega, by omega⟩ (by first | exact Or.inl ⟨rfl, w52_0⟩ | exact Or.inr ⟨rfl, w56_0⟩) (Or.inl rfl)
  refine mm_icmp_ne (tgt := 56) C (mm_dec dk_X6_isKnown 5 rfl) (by decide) (fun c7 => ?_) (fun c7 => ?_)
  · skip
    refine mm_fgt 0 ?_
    refine mm_fgt 1 ?_
    refine mm_fgt 2 ?_
    refine mm_fgt 3 ?_
    refine mm_fgt 4 ?_
    exact J56 (by exact fun q => by have q1 := q.1; have q2 := q.2.1; have q3 := q.2.2.1; have q4 := q.2.2.2; omega)
  · skip
    refine mm_aload_n C (mm_dec dk_X6_isKnown 6 rfl) rfl ?_
    refine mm_getr (t := 32) C fl_X6_15 (mm_dec dk_X6_isKnown 7 rfl) rfl rfl (mm_ref i0 rfl) ?_
    refine mm_iload_n C (mm_dec dk_X6_isKnown 8 rfl) rfl ?_
    refine mm_iald C (mm_dec dk_X6_isKnown 9 rfl) rfl (by omega) (by omega) ?_
    have g2 : -2147483648 ≤ (h.2.1 32 p1) ∧ (h.2.1 32 p1) ≤ 2147483647 := i0.2.1 32 p1
    refine mm_iload_n C (mm_dec dk_X6_isKnown 10 rfl) rfl ?_
    refine mm_icmp_ne (tgt := 56) C (mm_dec dk_X6_isKnown 11 rfl) (by decide) (fun c17 => ?_) (fun c17 => ?_)
    · skip
      refine mm_fgt 0 ?_
      refine mm_fgt 1 ?_
      refine mm_fgt 2 ?_
      refine mm_fgt 3 ?_
      refine mm_fgt 4 ?_
      exact J56 (by exact fun q => by have q1 := q.1; have q2 := q.2.1; have q3 := q.2.2.1; have q4 := q.2.2.2; omega)
    · skip
      refine mm_aload_n C (mm_dec dk_X6_isKnown 12 rfl) rfl ?_
      refine mm_getr (t := 35) C fl_X6_24 (mm_dec dk_X6_isKnown 13 rfl) rfl rfl (mm_ref i0 rfl) ?_
      refine mm_iload_n C (mm_dec dk_X6_isKnown 14 rfl) rfl ?_
      refine mm_iald C (mm_dec dk_X6_isKnown 15 rfl) rfl (by omega) (by omega) ?_
      have g3 : -2147483648 ≤ (h.2.1 35 p1) ∧ (h.2.1 35 p1) ≤ 2147483647 := i0.2.1 35 p1
      refine mm_iload C (mm_dec dk_X6_isKnown 16 rfl) rfl ?_
      refine mm_icmp_gt (tgt := 56) C (mm_dec dk_X6_isKnown 17 rfl) (by decide) (fun c28 => ?_) (fun c28 => ?_)
      · skip
        refine mm_fgt 0 ?_
        refine mm_fgt 1 ?_
        refine mm_fgt 2 ?_
        refine mm_fgt 3 ?_
        refine mm_fgt 4 ?_
        exact J56 (by exact fun q => by have q1 := q.1; have q2 := q.2.1; have q3 := q.2.2.1; have q4 := q.2.2.2; omega)
      · skip
        refine mm_aload_n C (mm_dec dk_X6_isKnown 18 rfl) rfl ?_
        refine mm_getr (t := 36) C fl_X6_27 (mm_dec dk_X6_isKnown 19 rfl) rfl rfl (mm_ref i0 rfl) ?_
        refine mm_iload_n C (mm_dec dk_X6_isKnown 20 rfl) rfl ?_
        refine mm_iald C (mm_dec dk_X6_isKnown 21 rfl) rfl (by omega) (by omega) ?_
        have g4 : -2147483648 ≤ (h.2.1 36 p1) ∧ (h.2.1 36 p1) ≤ 2147483647 := i0.2.1 36 p1
        refine mm_iconst C (mm_dec dk_X6_isKnown 22 rfl) ⟨by decide, by decide⟩ ?_
        have J52 : ∀ (w52_0 : mm_k1 h p2 p3 p4 p1), mm_W x 0 0 52 [mU, mU, mU, mU, mU] [] h := by
          intro w52_0
          refine mm_iconst C (mm_dec dk_X6_isKnown 30 rfl) ⟨by decide, by decide⟩ ?_
          refine mm_goto (tgt := 57) C (mm_dec dk_X6_isKnown 31 rfl) (by decide) ?_
          exact J57 1 ⟨by omega, by omega⟩ (by first | exact Or.inl ⟨rfl, w52_0⟩ | exact Or.inr ⟨rfl, w56_0⟩) (Or.inr (⟨by omega, by omega, by omega, rfl⟩))
        refine mm_icmp_eq (tgt := 52) C (mm_dec dk_X6_isKnown 23 rfl) (by decide) (fun c38 => ?_) (fun c38 => ?_)
        · skip
          refine mm_fgt 0 ?_
          refine mm_fgt 1 ?_
          refine mm_fgt 2 ?_
          refine mm_fgt 3 ?_
          refine mm_fgt 4 ?_
          exact J52 (by exact ⟨by omega, by omega, by omega, by omega⟩)
        · skip
          refine mm_aload_n C (mm_dec dk_X6_isKnown 24 rfl) rfl ?_
          refine mm_getr (t := 36) C fl_X6_27 (mm_dec dk_X6_isKnown 25 rfl) rfl rfl (mm_ref i0 rfl) ?_
          refine mm_iload_n C (mm_dec dk_X6_isKnown 26 rfl) rfl ?_
          refine mm_iald C (mm_dec dk_X6_isKnown 27 rfl) rfl (by omega) (by omega) ?_
          refine mm_iload C (mm_dec dk_X6_isKnown 28 rfl) rfl ?_
          refine mm_icmp_le (tgt := 56) C (mm_dec dk_X6_isKnown 29 rfl) (by decide) (fun c49 => ?_) (fun c49 => ?_)
          · skip
            refine mm_fgt 0 ?_
            refine mm_fgt 1 ?_
            refine mm_fgt 2 ?_
            refine mm_fgt 3 ?_
            refine mm_fgt 4 ?_
            exact J56 (by exact fun q => by have q1 := q.1; have q2 := q.2.1; have q3 := q.2.2.1; have q4 := q.2.2.2; omega)
          · skip
            refine mm_fgt 0 ?_
            refine mm_fgt 1 ?_
            refine mm_fgt 2 ?_
            refine mm_fgt 3 ?_
            refine mm_fgt 4 ?_
            exact J52 (by exact ⟨by omega, by omega, by omega, by omega⟩)
set_option maxRecDepth 100000 in
set_option maxHeartbeats 4000000 in
theorem c_X6_latest_q (l : Launch) (hl : l.stackTraces = false) (d : Nat) (hd : 1 ≤ d) (h : mH) (i0 : mm_inv h) (p1 : Int) (p2 : Int) (p3 : Int) (bp2 : 0 ≤ p2 ∧ p2 ≤ 39) : mm_Met l d yX6_latest cX6_latest 5 (some .int) [mR 30, mI p1, mI p2, mI p3] h (mm_pi fun r h2 => (-1 ≤ r ∧ r ≤ 499) ∧ h2 = h ∧ mm_lat (mm_k1 h p1 p2 p3) (h.1 30 6) r) mm_nx 0 0 := by
  refine mm_ofW (ls := [mR 30, mI p1, mI p2, mI p3, mU]) hl (by decide) rfl (Nat.le_of_ble_eq_true rfl) ?_
  intro x hxl C T hnm htb
  subst hxl
  have C1 := mm_OK_le (d' := d - 1 + 1) (by omega) C
  refine mm_rng (fun hr _ => ?_)
  have ap1 : -2147483648 ≤ p1 ∧ p1 < 2147483648 := mm_ok_at hr (i := 1) rfl
  have ap2 : -2147483648 ≤ p2 ∧ p2 < 2147483648 := mm_ok_at hr (i := 2) rfl
  have ap3 : -2147483648 ≤ p3 ∧ p3 < 2147483648 := mm_ok_at hr (i := 3) rfl
  have f0 : mm_fr [] [] h h := mm_fr_rf
  have ze0 : 0 ≤ h.1 30 6 ∧ h.1 30 6 ≤ 500 := i0.1 30 6
  refine mm_aload_n C (mm_dec dk_X6_latest 0 rfl) rfl ?_
  refine mm_geti C fl_X6_30 (mm_dec dk_X6_latest 1 rfl) rfl rfl (Or.inl rfl) ?_
  have g1 : 0 ≤ (h.1 30 6) ∧ (h.1 30 6) ≤ 500 := i0.1 30 6
  refine mm_iconst C (mm_dec dk_X6_latest 2 rfl) ⟨by decide, by decide⟩ ?_
  refine mm_isub C (mm_dec dk_X6_latest 3 rfl) ⟨by omega, by omega⟩ ?_
  have J8 : ∀ (n : Nat) (x8_4 : Int) (bx8_4 : -1 ≤ x8_4 ∧ x8_4 ≤ 499) (w8_0 : ∀ e, x8_4 < e → e < h.1 30 6 → ¬ mm_k1 h p1 p2 p3 e) (w8_1 : x8_4 ≤ h.1 30 6 - 1), (x8_4 - (-1) : Int) < n → mm_W x 0 0 8 [mR 30, mI p1, mI p2, mI p3, mI x8_4] [] h := by
    intro n
    induction n with
    | zero =>
      intro x8_4 bx8_4 w8_0 w8_1 hm
      exfalso; omega
    | succ n ih8 =>
      intro x8_4 bx8_4 w8_0 w8_1 hm8
      refine mm_iload C (mm_dec dk_X6_latest 5 rfl) rfl ?_
      refine mm_if_lt (tgt := 34) C (mm_dec dk_X6_latest 6 rfl) (by decide) (fun c10 => ?_) (fun c10 => ?_)
      · skip
        refine mm_iconst C (mm_dec dk_X6_latest 18 rfl) ⟨by decide, by decide⟩ ?_
        exact mm_iret C T (mm_dec dk_X6_latest 19 rfl) (by decide : 0 ≤ 0) (by decide : 0 ≤ 0) ⟨_, rfl, ⟨⟨by omega, by omega⟩, rfl, by first | exact Or.inr ⟨by omega, by omega, (y19_0.resolve_right (fun q => by have q1 := q.1; omega)).2, w8_0⟩ | exact Or.inl ⟨rfl, fun e a b => w8_0 e (by omega) b⟩⟩⟩
      · skip
        refine mm_aload_n C (mm_dec dk_X6_latest 7 rfl) rfl ?_
        refine mm_iload C (mm_dec dk_X6_latest 8 rfl) rfl ?_
        refine mm_iload_n C (mm_dec dk_X6_latest 9 rfl) rfl ?_
        refine mm_iload_n C (mm_dec dk_X6_latest 10 rfl) rfl ?_
        refine mm_iload_n C (mm_dec dk_X6_latest 11 rfl) rfl ?_
        refine mm_cVi (rest := []) C1 ev_X6_55 (mm_dec dk_X6_latest 12 rfl) (c_X6_isKnown_q x.2.1 hl (d - 1) (by omega) h i0 x8_4 p1 p2 p3 ⟨by omega, by omega⟩ ⟨by omega, by omega⟩) rfl rfl (Nat.le_of_ble_eq_true rfl) ⟨by decide, by decide⟩ rfl (fun r19 h19c hp19 => ?_) (fun _ _ q => q.elim)
        obtain ⟨b19, z19, y19_0⟩ := hp19
        rw [z19]
        refine mm_if_eq (tgt := 28) C (mm_dec dk_X6_latest 13 rfl) (by decide) (fun c22 => ?_) (fun c22 => ?_)
        · skip
          refine mm_iincL (ls2 := [mR 30, mI p1, mI p2, mI p3, mI (x8_4 + (-1))]) C (mm_dec dk_X6_latest 16 rfl) rfl (by decide) ⟨by omega, by omega⟩ rfl ?_
          refine mm_goto (tgt := 8) C (mm_dec dk_X6_latest 17 rfl) (by decide) ?_
          exact ih8 (x8_4 + (-1)) ⟨by omega, by omega⟩ (by first | exact fun e a b => by omega | exact mm_lat_dn w8_0 (y19_0.resolve_left (fun q => by have q1 := q.1; omega)).2) (by omega) (by omega)
        · skip
          refine mm_iload C (mm_dec dk_X6_latest 14 rfl) rfl ?_
          exact mm_iret C T (mm_dec dk_X6_latest 15 rfl) (by decide : 0 ≤ 0) (by decide : 0 ≤ 0) ⟨_, rfl, ⟨⟨by omega, by omega⟩, rfl, by first | exact Or.inr ⟨by omega, by omega, (y19_0.resolve_right (fun q => by have q1 := q.1; omega)).2, w8_0⟩ | exact Or.inl ⟨rfl, fun e a b => w8_0 e (by omega) b⟩⟩⟩
  refine mm_istoreL (ls2 := [mR 30, mI p1, mI p2, mI p3, mI ((h.1 30 6) - 1)]) C (mm_dec dk_X6_latest 4 rfl) (by decide) rfl ?_
  exact J8 (((((h.1 30 6) - 1) - (-1)) : Int) + 1).toNat ((h.1 30 6) - 1) ⟨by omega, by omega⟩ (by first | exact fun e a b => by omega | exact mm_lat_dn w8_0 (y19_0.resolve_left (fun q => by have q1 := q.1; omega)).2) (by omega) (by omega)
set_option maxRecDepth 100000 in
set_option maxHeartbeats 4000000 in
theorem c_X11_event_q (l : Launch) (hl : l.stackTraces = false) (d : Nat) (hd : 9 ≤ d) (h : mH) (i0 : mm_inv h) (p1 : Int) (p2 : Int) (p3 : Int) (p4 : Int) : mm_Met l d yX11_event cX11_event 6 (some .int) [mR 0, mI p1, mI p2, mI p3, mI p4] h (mm_pi fun r h2 => (-1 ≤ r ∧ r ≤ 499) ∧ mm_inv h2 ∧ mm_fr [(30, 6)] [31, 32, 33, 34, 35, 36] h h2 ∧ (0 ≤ p1 ∧ p1 ≤ 2 ∧ 0 ≤ p2 ∧ p2 < h.1 22 8 ∧ (p1 ≠ 1 ∨ (0 ≤ p3 ∧ p3 < h.1 14 7))) ∧ (((h.1 30 6 ≤ 499 ∧ 0 ≤ p4 ∧ ((p1 = 0 ∧ p4 ≤ 99999) ∨ (p1 ≠ 0 ∧ p4 ≤ h.1 0 13))) ∧ r = h.1 30 6 ∧ h2.1 30 6 = h.1 30 6 + 1) ∨ ((500 ≤ h.1 30 6 ∨ p4 < 0 ∨ (p1 = 0 ∧ 99999 < p4) ∨ (p1 ≠ 0 ∧ h.1 0 13 < p4)) ∧ r = -1 ∧ h2.1 30 6 = h.1 30 6)) ∧ (∃ f : Int, ((f = 1 ∧ h2.1 30 6 = h.1 30 6 + 1) ∨ (f = 0 ∧ h2.1 30 6 = h.1 30 6)) ∧ mm_up h h2 31 (h.1 30 6) p1 f ∧ mm_up h h2 32 (h.1 30 6) p2 f ∧ mm_up h h2 35 (h.1 30 6) (h.1 0 13) f ∧ mm_up h h2 36 (h.1 30 6) (-1) f ∧ mm_up h h2 33 (h.1 30 6) p3 f ∧ mm_up h h2 34 (h.1 30 6) p4 f)) (fun E h' => mm_xn h E h' ∧ (p1 < 0 ∨ 2 < p1 ∨ p2 < 0 ∨ h.1 22 8 ≤ p2 ∨ (p1 = 1 ∧ (p3 < 0 ∨ h.1 14 7 ≤ p3)))) 2 12 := by
  refine mm_ofW (ls := [mR 0, mI p1, mI p2, mI p3, mI p4, mU]) hl (by decide) rfl (Nat.le_of_ble_eq_true rfl) ?_
  intro x hxl C T hnm htb
  subst hxl
  have C1 := mm_OK_le (d' := d - 1 + 1) (by omega) C
  have C8 := mm_OK_le (d' := d - 8 + 8) (by omega) C
  refine mm_rng (fun hr _ => ?_)
  have ap1 : -2147483648 ≤ p1 ∧ p1 < 2147483648 := mm_ok_at hr (i := 1) rfl
  have ap2 : -2147483648 ≤ p2 ∧ p2 < 2147483648 := mm_ok_at hr (i := 2) rfl
  have ap3 : -2147483648 ≤ p3 ∧ p3 < 2147483648 := mm_ok_at hr (i := 3) rfl
  have ap4 : -2147483648 ≤ p4 ∧ p4 < 2147483648 := mm_ok_at hr (i := 4) rfl
  have f0 : mm_fr [(30, 6)] [31, 32, 33, 34, 35, 36] h h := mm_fr_rf
  have g1 : 0 ≤ h.1 30 6 ∧ h.1 30 6 ≤ 500 := i0.1 30 6
  have g2 : 0 ≤ h.1 22 8 ∧ h.1 22 8 ≤ 40 := i0.1 22 8
  have g3 : 0 ≤ h.1 14 7 ∧ h.1 14 7 ≤ 20 := i0.1 14 7
  have g4 : 0 ≤ h.1 0 13 ∧ h.1 0 13 ≤ 99999 := i0.1 0 13
  refine mm_iload_n C (mm_dec dk_X11_event 0 rfl) rfl ?_
  refine mm_iconst C (mm_dec dk_X11_event 1 rfl) ⟨by decide, by decide⟩ ?_
  refine mm_iconst C (mm_dec dk_X11_event 2 rfl) ⟨by decide, by decide⟩ ?_
  refine mm_cSi (rest := []) C1 es_X11_130 (mm_dec dk_X11_event 3 rfl) (c_X11_within x.2.1 hl (d - 1) (by omega) h i0 p1 0 2) rfl (Nat.le_of_ble_eq_true rfl) ⟨by decide, by decide⟩ rfl (fun r3 h3c hp3 => ?_) (fun _ _ q => q.elim)
  obtain ⟨z3, y3⟩ := hp3
  rw [z3]
  refine mm_if_ne (tgt := 20) C (mm_dec dk_X11_event 4 rfl) (by decide) (fun c6 => ?_) (fun c6 => ?_)
  · skip
    refine mm_aload_n C (mm_dec dk_X11_event 10 rfl) rfl ?_
    refine mm_iload_n C (mm_dec dk_X11_event 11 rfl) rfl ?_
    refine mm_cVv (rest := []) C1 ev_X11_235 (mm_dec dk_X11_event 12 rfl) (c_X11_needRunner_q x.2.1 hl (d - 1) (by omega) h i0 p2) rfl rfl (Nat.le_of_ble_eq_true rfl) ⟨by decide, by decide⟩ rfl (fun h22c hp22 => ?_) (fun E hx q => mm_out C T htb (by decide) (by decide) (by obtain ⟨q1, q2⟩ := q; exact ⟨q1, by omega⟩))
    obtain ⟨z22, k22_0, k22_1⟩ := hp22
    rw [z22]
    refine mm_iload_n C (mm_dec dk_X11_event 13 rfl) rfl ?_
    refine mm_iconst C (mm_dec dk_X11_event 14 rfl) ⟨by decide, by decide⟩ ?_
    have J35 : ∀ (w35_0 : (0 ≤ p1 ∧ p1 ≤ 2 ∧ 0 ≤ p2 ∧ p2 < h.1 22 8 ∧ (p1 ≠ 1 ∨ (0 ≤ p3 ∧ p3 < h.1 14 7)))), mm_W x 2 12 35 [mR 0, mI p1, mI p2, mI p3, mI p4, mU] [] h := by
      intro w35_0
      have g7 : 0 ≤ h.1 30 6 ∧ h.1 30 6 ≤ 500 := i0.1 30 6
      have g8 : 0 ≤ h.1 22 8 ∧ h.1 22 8 ≤ 40 := i0.1 22 8
      have g9 : 0 ≤ h.1 14 7 ∧ h.1 14 7 ≤ 20 := i0.1 14 7
      have g10 : 0 ≤ h.1 0 13 ∧ h.1 0 13 ≤ 99999 := i0.1 0 13
      refine mm_iload_n C (mm_dec dk_X11_event 19 rfl) rfl ?_
      have J49 : ∀ (s49_0 : Int) (bs49_0 : 0 ≤ s49_0 ∧ s49_0 ≤ 99999) (w49_0 : (0 ≤ p1 ∧ p1 ≤ 2 ∧ 0 ≤ p2 ∧ p2 < h.1 22 8 ∧ (p1 ≠ 1 ∨ (0 ≤ p3 ∧ p3 < h.1 14 7)))) (w49_1 : ((p1 = 0 ∧ s49_0 = 99999) ∨ (p1 ≠ 0 ∧ s49_0 = h.1 0 13))), mm_W x 2 12 49 [mR 0, mI p1, mI p2, mI p3, mI p4, mU] [mI s49_0] h := by
        intro s49_0 bs49_0 w49_0 w49_1
        have g11 : 0 ≤ h.1 30 6 ∧ h.1 30 6 ≤ 500 := i0.1 30 6
        have g12 : 0 ≤ h.1 22 8 ∧ h.1 22 8 ≤ 40 := i0.1 22 8
        have g13 : 0 ≤ h.1 14 7 ∧ h.1 14 7 ≤ 20 := i0.1 14 7
        have g14 : 0 ≤ h.1 0 13 ∧ h.1 0 13 ≤ 99999 := i0.1 0 13
        refine mm_istoreL (ls2 := [mR 0, mI p1, mI p2, mI p3, mI p4, mI s49_0]) C (mm_dec dk_X11_event 25 rfl) (by decide) rfl ?_
        refine mm_aload_n C (mm_dec dk_X11_event 26 rfl) rfl ?_
        refine mm_getr (t := 30) C fl_X11_44 (mm_dec dk_X11_event 27 rfl) rfl rfl (mm_ref i0 rfl) ?_
        refine mm_cVi (rest := []) C1 ev_X11_268 (mm_dec dk_X11_event 28 rfl) (c_X6_events x.2.1 hl (d - 1) (by omega) h i0 ) rfl rfl (Nat.le_of_ble_eq_true rfl) ⟨by decide, by decide⟩ rfl (fun r55 h55c hp55 => ?_) (fun _ _ q => q.elim)
        obtain ⟨z55, y55⟩ := hp55
        rw [z55, y55]
        refine mm_sipush C (mm_dec dk_X11_event 29 rfl) ⟨by decide, by decide⟩ ?_
        have J75 : ∀ (w75_0 : (0 ≤ p1 ∧ p1 ≤ 2 ∧ 0 ≤ p2 ∧ p2 < h.1 22 8 ∧ (p1 ≠ 1 ∨ (0 ≤ p3 ∧ p3 < h.1 14 7)))) (w75_1 : (500 ≤ h.1 30 6 ∨ p4 < 0 ∨ (p1 = 0 ∧ 99999 < p4) ∨ (p1 ≠ 0 ∧ h.1 0 13 < p4))), mm_W x 2 12 75 [mU, mU, mU, mU, mU, mU] [] h := by
          intro w75_0 w75_1
          have g16 : 0 ≤ h.1 30 6 ∧ h.1 30 6 ≤ 500 := i0.1 30 6
          have g17 : 0 ≤ h.1 22 8 ∧ h.1 22 8 ≤ 40 := i0.1 22 8
          have g18 : 0 ≤ h.1 14 7 ∧ h.1 14 7 ≤ 20 := i0.1 14 7
          have g19 : 0 ≤ h.1 0 13 ∧ h.1 0 13 ≤ 99999 := i0.1 0 13
          refine mm_iconst C (mm_dec dk_X11_event 36 rfl) ⟨by decide, by decide⟩ ?_
          exact mm_iret C T (mm_dec dk_X11_event 37 rfl) (by decide : 2 ≤ 2) (by decide : 12 ≤ 12) ⟨_, rfl, ⟨⟨by omega, by omega⟩, i0, f0, by omega, by omega, by first | exact ⟨0, Or.inr ⟨rfl, rfl⟩, mm_up_no (by decide) (fun _ => rfl), mm_up_no (by decide) (fun _ => rfl), mm_up_no (by decide) (fun _ => rfl), mm_up_no (by decide) (fun _ => rfl), mm_up_no (by decide) (fun _ => rfl), mm_up_no (by decide) (fun _ => rfl)⟩ | exact ⟨1, Or.inl ⟨rfl, by omega⟩, y90_2, y90_3, y90_4, y90_5, y90_6, y90_7⟩⟩⟩
        refine mm_icmp_ge (tgt := 75) C (mm_dec dk_X11_event 30 rfl) (by decide) (fun c61 => ?_) (fun c61 => ?_)
        · skip
          refine mm_fgt 0 ?_
          refine mm_fgt 1 ?_
          refine mm_fgt 2 ?_
          refine mm_fgt 3 ?_
          refine mm_fgt 4 ?_
          refine mm_fgt 5 ?_
          exact J75 (by omega) (by omega)
        · skip
          refine mm_iload C (mm_dec dk_X11_event 31 rfl) rfl ?_
          refine mm_iconst C (mm_dec dk_X11_event 32 rfl) ⟨by decide, by decide⟩ ?_
          refine mm_iload C (mm_dec dk_X11_event 33 rfl) rfl ?_
          refine mm_cSi (rest := []) C1 es_X11_130 (mm_dec dk_X11_event 34 rfl) (c_X11_within x.2.1 hl (d - 1) (by omega) h i0 p4 0 s49_0) rfl (Nat.le_of_ble_eq_true rfl) ⟨by decide, by decide⟩ rfl (fun r69 h69c hp69 => ?_) (fun _ _ q => q.elim)
          obtain ⟨z69, y69⟩ := hp69
          rw [z69]
          refine mm_if_ne (tgt := 77) C (mm_dec dk_X11_event 35 rfl) (by decide) (fun c72 => ?_) (fun c72 => ?_)
          · skip
            refine mm_aload_n C (mm_dec dk_X11_event 38 rfl) rfl ?_
            refine mm_getr (t := 30) C fl_X11_44 (mm_dec dk_X11_event 39 rfl) rfl rfl (mm_ref i0 rfl) ?_
            refine mm_iload_n C (mm_dec dk_X11_event 40 rfl) rfl ?_
            refine mm_iload_n C (mm_dec dk_X11_event 41 rfl) rfl ?_
            refine mm_iload_n C (mm_dec dk_X11_event 42 rfl) rfl ?_
            refine mm_iload C (mm_dec dk_X11_event 43 rfl) rfl ?_
            refine mm_aload_n C (mm_dec dk_X11_event 44 rfl) rfl ?_
            refine mm_geti C fl_X11_102 (mm_dec dk_X11_event 45 rfl) rfl rfl (Or.inl rfl) ?_
            refine mm_cVi (rest := []) C1 ev_X11_271 (mm_dec dk_X11_event 46 rfl) (c_X6_tell_q x.2.1 hl (d - 1) (by omega) h i0 p1 p2 p3 p4 (h.1 0 13) ⟨by omega, by omega⟩ (by omega)) rfl rfl (Nat.le_of_ble_eq_true rfl) ⟨by decide, by decide⟩ rfl (fun r90 h90c hp90 => ?_) (fun _ _ q => q.elim)
            obtain ⟨b90, i90c, g90c, y90_0, y90_1, y90_2, y90_3, y90_4, y90_5, y90_6, y90_7⟩ := hp90
            have f90c : mm_fr [(30, 6)] [31, 32, 33, 34, 35, 36] h h90c := mm_fr_tr f0 g90c (by decide +kernel)
            have q90c_22 : h90c.1 0 13 = h.1 0 13 := g90c.1 0 13 (by decide)
            have q90c_23 : h90c.1 14 7 = h.1 14 7 := g90c.1 14 7 (by decide)
            have q90c_24 : h90c.1 22 8 = h.1 22 8 := g90c.1 22 8 (by decide)
            have g25 : 0 ≤ (h90c.1 30 6) ∧ (h90c.1 30 6) ≤ 500 := i90c.1 30 6
            exact mm_iret C T (mm_dec dk_X11_event 47 rfl) (by decide : 2 ≤ 2) (by decide : 12 ≤ 12) ⟨_, rfl, ⟨⟨by omega, by omega⟩, i90c, f90c, by omega, by omega, by first | exact ⟨0, Or.inr ⟨rfl, rfl⟩, mm_up_no (by decide) (fun _ => rfl), mm_up_no (by decide) (fun _ => rfl), mm_up_no (by decide) (fun _ => rfl), mm_up_no (by decide) (fun _ => rfl), mm_up_no (by decide) (fun _ => rfl), mm_up_no (by decide) (fun _ => rfl)⟩ | exact ⟨1, Or.inl ⟨rfl, by omega⟩, y90_2, y90_3, y90_4, y90_5, y90_6, y90_7⟩⟩⟩
          · skip
            refine mm_fgt 0 ?_
            refine mm_fgt 1 ?_
            refine mm_fgt 2 ?_
            refine mm_fgt 3 ?_
            refine mm_fgt 4 ?_
            refine mm_fgt 5 ?_
            exact J75 (by omega) (by omega)
      refine mm_if_ne (tgt := 45) C (mm_dec dk_X11_event 20 rfl) (by decide) (fun c36 => ?_) (fun c36 => ?_)
      · skip
        refine mm_aload_n C (mm_dec dk_X11_event 23 rfl) rfl ?_
        refine mm_geti C fl_X11_102 (mm_dec dk_X11_event 24 rfl) rfl rfl (Or.inl rfl) ?_
        exact J49 (h.1 0 13) ⟨by omega, by omega⟩ (by omega) (by omega)
      · skip
        refine mm_ldcw (z := 99999) C (mm_dec dk_X11_event 21 rfl) kc_X11_260 (by decide) ?_
        refine mm_goto (tgt := 49) C (mm_dec dk_X11_event 22 rfl) (by decide) ?_
        exact J49 99999 ⟨by omega, by omega⟩ (by omega) (by omega)
    refine mm_icmp_ne (tgt := 35) C (mm_dec dk_X11_event 15 rfl) (by decide) (fun c27 => ?_) (fun c27 => ?_)
    · skip
      refine mm_widen (k := 2) (n := 12) (by decide) (by decide) ?_
      exact J35 (by omega)
    · skip
      refine mm_aload_n C (mm_dec dk_X11_event 16 rfl) rfl ?_
      refine mm_iload_n C (mm_dec dk_X11_event 17 rfl) rfl ?_
      refine mm_cVv (rest := []) C1 ev_X11_211 (mm_dec dk_X11_event 18 rfl) (c_X11_needPost_q x.2.1 hl (d - 1) (by omega) h i0 p3) rfl rfl (Nat.le_of_ble_eq_true rfl) ⟨by decide, by decide⟩ rfl (fun h32c hp32 => ?_) (fun E hx q => mm_out C T htb (by decide) (by decide) (by obtain ⟨q1, q2⟩ := q; exact ⟨q1, by omega⟩))
      obtain ⟨z32, k32_0, k32_1⟩ := hp32
      rw [z32]
      exact J35 (by omega)
  · skip
    exact mm_throwXW C8 T htb th_nse (i := 9) rfl (mm_dec dk_X11_event 5 rfl) (mm_dec dk_X11_event 6 rfl) (mm_dec dk_X11_event 7 rfl) (mm_dec dk_X11_event 8 rfl) (mm_dec dk_X11_event 9 rfl) (Nat.le_of_ble_eq_true rfl) ⟨by decide, by decide⟩ ⟨by decide, by decide⟩ (⟨⟨rfl, rfl⟩, by omega⟩)
set_option maxRecDepth 100000 in
set_option maxHeartbeats 4000000 in
theorem c_X11_back_q (l : Launch) (hl : l.stackTraces = false) (d : Nat) (hd : 8 ≤ d) (h : mH) (i0 : mm_inv h) (p1 : Int) : mm_Met l d yX11_back cX11_back 2 (some .boolean) [mR 0, mI p1] h (mm_pi fun r h2 => (0 ≤ r ∧ r ≤ 1) ∧ mm_inv h2 ∧ mm_fr [] [36] h h2 ∧ (0 ≤ p1 ∧ p1 < h.1 30 6) ∧ ((r = 1 ∧ h.2.1 36 p1 = -1) ∨ (r = 0 ∧ h.2.1 36 p1 ≠ -1)) ∧ mm_up h h2 36 p1 (h.1 0 13) r) (fun E h' => mm_xn h E h' ∧ (p1 < 0 ∨ h.1 30 6 ≤ p1)) 1 6 := by
  refine mm_ofW (ls := [mR 0, mI p1]) hl (by decide) rfl (Nat.le_of_ble_eq_true rfl) ?_
  intro x hxl C T hnm htb
  subst hxl
  have C1 := mm_OK_le (d' := d - 1 + 1) (by omega) C
  have C8 := mm_OK_le (d' := d - 8 + 8) (by omega) C
  refine mm_rng (fun hr _ => ?_)
  have ap1 : -2147483648 ≤ p1 ∧ p1 < 2147483648 := mm_ok_at hr (i := 1) rfl
  have f0 : mm_fr [] [36] h h := mm_fr_rf
  have g1 : 0 ≤ h.1 30 6 ∧ h.1 30 6 ≤ 500 := i0.1 30 6
  have g2 : 0 ≤ h.1 0 13 ∧ h.1 0 13 ≤ 99999 := i0.1 0 13
  refine mm_iload_n C (mm_dec dk_X11_back 0 rfl) rfl ?_
  have J15 : ∀ (w15_0 : (p1 < 0 ∨ h.1 30 6 ≤ p1)), mm_W x 0 0 15 [mU, mU] [] h := by
    intro w15_0
    have g3 : 0 ≤ h.1 30 6 ∧ h.1 30 6 ≤ 500 := i0.1 30 6
    have g4 : 0 ≤ h.1 0 13 ∧ h.1 0 13 ≤ 99999 := i0.1 0 13
    exact mm_throwXW C8 T htb th_nse (i := 10) rfl (mm_dec dk_X11_back 7 rfl) (mm_dec dk_X11_back 8 rfl) (mm_dec dk_X11_back 9 rfl) (mm_dec dk_X11_back 10 rfl) (mm_dec dk_X11_back 11 rfl) (Nat.le_of_ble_eq_true rfl) ⟨by decide, by decide⟩ ⟨by decide, by decide⟩ (⟨⟨rfl, rfl⟩, by omega⟩)
  refine mm_if_lt (tgt := 15) C (mm_dec dk_X11_back 1 rfl) (by decide) (fun c1 => ?_) (fun c1 => ?_)
  · skip
    refine mm_fgt 0 ?_
    refine mm_fgt 1 ?_
    exact J15 (by omega)
  · skip
    refine mm_iload_n C (mm_dec dk_X11_back 2 rfl) rfl ?_
    refine mm_aload_n C (mm_dec dk_X11_back 3 rfl) rfl ?_
    refine mm_getr (t := 30) C fl_X11_44 (mm_dec dk_X11_back 4 rfl) rfl rfl (mm_ref i0 rfl) ?_
    refine mm_cVi (rest := [mI p1]) C1 ev_X11_268 (mm_dec dk_X11_back 5 rfl) (c_X6_events x.2.1 hl (d - 1) (by omega) h i0 ) rfl rfl (Nat.le_of_ble_eq_true rfl) ⟨by decide, by decide⟩ rfl (fun r9 h9c hp9 => ?_) (fun _ _ q => q.elim)
    obtain ⟨z9, y9⟩ := hp9
    rw [z9, y9]
    refine mm_icmp_lt (tgt := 26) C (mm_dec dk_X11_back 6 rfl) (by decide) (fun c12 => ?_) (fun c12 => ?_)
    · skip
      refine mm_aload_n C (mm_dec dk_X11_back 12 rfl) rfl ?_
      refine mm_getr (t := 30) C fl_X11_44 (mm_dec dk_X11_back 13 rfl) rfl rfl (mm_ref i0 rfl) ?_
      refine mm_iload_n C (mm_dec dk_X11_back 14 rfl) rfl ?_
      refine mm_aload_n C (mm_dec dk_X11_back 15 rfl) rfl ?_
      refine mm_geti C fl_X11_102 (mm_dec dk_X11_back 16 rfl) rfl rfl (Or.inl rfl) ?_
      refine mm_cVi (rest := []) C1 ev_X11_277 (mm_dec dk_X11_back 17 rfl) (c_X6_takeBack_q x.2.1 hl (d - 1) (by omega) h i0 p1 (h.1 0 13) ⟨by omega, by omega⟩) rfl rfl (Nat.le_of_ble_eq_true rfl) ⟨by decide, by decide⟩ rfl (fun r35 h35c hp35 => ?_) (fun _ _ q => q.elim)
      obtain ⟨b35, i35c, g35c, y35_0, y35_1⟩ := hp35
      have f35c : mm_fr [] [36] h h35c := mm_fr_tr f0 g35c (by decide +kernel)
      have q35c_7 : h35c.1 0 13 = h.1 0 13 := g35c.1 0 13 (by decide)
      have q35c_8 : h35c.1 30 6 = h.1 30 6 := g35c.1 30 6 (by decide)
      exact mm_zret C T (mm_dec dk_X11_back 18 rfl) (by decide : 0 ≤ 1) (by decide : 0 ≤ 6) (by omega) ⟨_, rfl, ⟨⟨by omega, by omega⟩, i35c, f35c, by omega, by omega, by exact y35_1⟩⟩
    · skip
      refine mm_fgt 0 ?_
      refine mm_fgt 1 ?_
      exact J15 (by omega)
set_option maxRecDepth 100000 in
set_option maxHeartbeats 4000000 in
theorem c_X11_protest_q (l : Launch) (hl : l.stackTraces = false) (d : Nat) (hd : 9 ≤ d) (h : mH) (i0 : mm_inv h) (p1 : Int) : mm_Met l d yX11_protest cX11_protest 3 (some .int) [mR 0, mI p1] h (mm_pi fun r h2 => (-1 ≤ r ∧ r ≤ 39) ∧ mm_inv h2 ∧ mm_fr [(30, 12)] [37, 40] h h2 ∧ (0 ≤ p1 ∧ p1 < h.1 22 8) ∧ mm_hq9 (∃ e : Int, mm_lat (mm_k1 h 2 p1 (h.1 0 13)) (h.1 30 6) e ∧ (((h.1 30 12 ≤ 39 ∧ e ≠ -1 ∧ (mm_w (h.1 0 13 - h.2.1 35 e)) ≤ h.2.1 44 2) ∧ r = h.1 30 12 ∧ h2.1 30 12 = h.1 30 12 + 1) ∨ ((40 ≤ h.1 30 12 ∨ e = -1 ∨ h.2.1 44 2 < (mm_w (h.1 0 13 - h.2.1 35 e))) ∧ r = -1 ∧ h2.1 30 12 = h.1 30 12))) ∧ (∃ f : Int, ((f = 1 ∧ h2.1 30 12 = h.1 30 12 + 1) ∨ (f = 0 ∧ h2.1 30 12 = h.1 30 12)) ∧ mm_up h h2 40 (h.1 30 12) (-1) f ∧ mm_up h h2 37 (h.1 30 12) p1 f)) (fun E h' => mm_xn h E h' ∧ (p1 < 0 ∨ h.1 22 8 ≤ p1)) 1 6 := by
  refine mm_ofW (ls := [mR 0, mI p1, mU]) hl (by decide) rfl (Nat.le_of_ble_eq_true rfl) ?_
  intro x hxl C T hnm htb
  subst hxl
  have C1 := mm_OK_le (d' := d - 1 + 1) (by omega) C
  have C8 := mm_OK_le (d' := d - 8 + 8) (by omega) C
  refine mm_rng (fun hr _ => ?_)
  have ap1 : -2147483648 ≤ p1 ∧ p1 < 2147483648 := mm_ok_at hr (i := 1) rfl
  have f0 : mm_fr [(30, 12)] [37, 40] h h := mm_fr_rf
  have g1 : 0 ≤ h.1 30 12 ∧ h.1 30 12 ≤ 40 := i0.1 30 12
  have g2 : 0 ≤ h.1 22 8 ∧ h.1 22 8 ≤ 40 := i0.1 22 8
  have g3 : 0 ≤ h.1 0 13 ∧ h.1 0 13 ≤ 99999 := i0.1 0 13
  refine mm_aload_n C (mm_dec dk_X11_protest 0 rfl) rfl ?_
  refine mm_iload_n C (mm_dec dk_X11_protest 1 rfl) rfl ?_
  refine mm_cVv (rest := []) C1 ev_X11_235 (mm_dec dk_X11_protest 2 rfl) (c_X11_needRunner_q x.2.1 hl (d - 1) (by omega) h i0 p1) rfl rfl (Nat.le_of_ble_eq_true rfl) ⟨by decide, by decide⟩ rfl (fun h2c hp2 => ?_) (fun E hx q => mm_out C T htb (by decide) (by decide) (by obtain ⟨q1, q2⟩ := q; exact ⟨q1, by omega⟩))
  obtain ⟨z2, k2_0, k2_1⟩ := hp2
  rw [z2]
  refine mm_aload_n C (mm_dec dk_X11_protest 3 rfl) rfl ?_
  refine mm_getr (t := 30) C fl_X11_44 (mm_dec dk_X11_protest 4 rfl) rfl rfl (mm_ref i0 rfl) ?_
  refine mm_iconst C (mm_dec dk_X11_protest 5 rfl) ⟨by decide, by decide⟩ ?_
  refine mm_iload_n C (mm_dec dk_X11_protest 6 rfl) rfl ?_
  refine mm_aload_n C (mm_dec dk_X11_protest 7 rfl) rfl ?_
  refine mm_geti C fl_X11_102 (mm_dec dk_X11_protest 8 rfl) rfl rfl (Or.inl rfl) ?_
  refine mm_cVi (rest := []) C1 ev_X11_324 (mm_dec dk_X11_protest 9 rfl) (c_X6_latest_q x.2.1 hl (d - 1) (by omega) h i0 2 p1 (h.1 0 13) ⟨by omega, by omega⟩) rfl rfl (Nat.le_of_ble_eq_true rfl) ⟨by decide, by decide⟩ rfl (fun r15 h15c hp15 => ?_) (fun _ _ q => q.elim)
  obtain ⟨b15, z15, y15_0⟩ := hp15
  rw [z15]
  refine mm_istore_nL (ls2 := [mR 0, mI p1, mI r15]) C (mm_dec dk_X11_protest 10 rfl) (by decide) rfl ?_
  refine mm_aload_n C (mm_dec dk_X11_protest 11 rfl) rfl ?_
  refine mm_getr (t := 30) C fl_X11_44 (mm_dec dk_X11_protest 12 rfl) rfl rfl (mm_ref i0 rfl) ?_
  refine mm_cVi (rest := []) C1 ev_X11_327 (mm_dec dk_X11_protest 13 rfl) (c_X6_protests x.2.1 hl (d - 1) (by omega) h i0 ) rfl rfl (Nat.le_of_ble_eq_true rfl) ⟨by decide, by decide⟩ rfl (fun r23 h23c hp23 => ?_) (fun _ _ q => q.elim)
  obtain ⟨z23, y23⟩ := hp23
  rw [z23, y23]
  refine mm_bipush C (mm_dec dk_X11_protest 14 rfl) ⟨by decide, by decide⟩ ?_
  have J36 : ∀ (w36_0 : (40 ≤ h.1 30 12 ∨ r15 = -1)), mm_W x 1 6 36 [mU, mU, mU] [] h := by
    intro w36_0
    have g7 : 0 ≤ h.1 30 12 ∧ h.1 30 12 ≤ 40 := i0.1 30 12
    have g8 : 0 ≤ h.1 22 8 ∧ h.1 22 8 ≤ 40 := i0.1 22 8
    have g9 : 0 ≤ h.1 0 13 ∧ h.1 0 13 ≤ 99999 := i0.1 0 13
    refine mm_iconst C (mm_dec dk_X11_protest 19 rfl) ⟨by decide, by decide⟩ ?_
    exact mm_iret C T (mm_dec dk_X11_protest 20 rfl) (by decide : 1 ≤ 1) (by decide : 6 ≤ 6) ⟨_, rfl, ⟨⟨by omega, by omega⟩, i0, f0, by omega, by exact mm_hq9i ⟨r15, y15_0, by omega⟩, by first | exact ⟨0, Or.inr ⟨rfl, rfl⟩, mm_up_no (by decide) (fun _ => rfl), mm_up_no (by decide) (fun _ => rfl)⟩ | exact ⟨1, Or.inl ⟨rfl, by omega⟩, y69_2, y69_3⟩⟩⟩
  refine mm_icmp_ge (tgt := 36) C (mm_dec dk_X11_protest 15 rfl) (by decide) (fun c28 => ?_) (fun c28 => ?_)
  · skip
    refine mm_fgt 0 ?_
    refine mm_fgt 1 ?_
    refine mm_fgt 2 ?_
    exact J36 (by omega)
  · skip
    refine mm_iload_n C (mm_dec dk_X11_protest 16 rfl) rfl ?_
    refine mm_iconst C (mm_dec dk_X11_protest 17 rfl) ⟨by decide, by decide⟩ ?_
    refine mm_icmp_ne (tgt := 38) C (mm_dec dk_X11_protest 18 rfl) (by decide) (fun c33 => ?_) (fun c33 => ?_)
    · skip
      refine mm_aload_n C (mm_dec dk_X11_protest 21 rfl) rfl ?_
      refine mm_geti C fl_X11_102 (mm_dec dk_X11_protest 22 rfl) rfl rfl (Or.inl rfl) ?_
      refine mm_aload_n C (mm_dec dk_X11_protest 23 rfl) rfl ?_
      refine mm_getr (t := 30) C fl_X11_44 (mm_dec dk_X11_protest 24 rfl) rfl rfl (mm_ref i0 rfl) ?_
      refine mm_iload_n C (mm_dec dk_X11_protest 25 rfl) rfl ?_
      refine mm_cVi (rest := [mI (h.1 0 13)]) C1 ev_X11_330 (mm_dec dk_X11_protest 26 rfl) (c_X6_toldAt x.2.1 hl (d - 1) (by omega) h i0 r15 ⟨by omega, by omega⟩) rfl rfl (Nat.le_of_ble_eq_true rfl) ⟨by decide, by decide⟩ rfl (fun r47 h47c hp47 => ?_) (fun _ _ q => q.elim)
      obtain ⟨z47, y47⟩ := hp47
      rw [z47, y47]
      have g11 : -2147483648 ≤ (h.2.1 35 r15) ∧ (h.2.1 35 r15) ≤ 2147483647 := i0.2.1 35 r15
      refine mm_isubw C (mm_dec dk_X11_protest 27 rfl) ?_
      have g12 : -2147483648 ≤ (mm_w ((h.1 0 13) - (h.2.1 35 r15))) ∧ (mm_w ((h.1 0 13) - (h.2.1 35 r15))) < 2147483648 := mm_w_rg _
      refine mm_aload_n C (mm_dec dk_X11_protest 28 rfl) rfl ?_
      refine mm_getr (t := 42) C fl_X11_51 (mm_dec dk_X11_protest 29 rfl) rfl rfl (mm_ref i0 rfl) ?_
      refine mm_iconst C (mm_dec dk_X11_protest 30 rfl) ⟨by decide, by decide⟩ ?_
      refine mm_cVi (rest := [mI (mm_w ((h.1 0 13) - (h.2.1 35 r15)))]) C1 ev_X11_333 (mm_dec dk_X11_protest 31 rfl) (c_X8_param x.2.1 hl (d - 1) (by omega) h i0 2 ⟨by omega, by omega⟩) rfl rfl (Nat.le_of_ble_eq_true rfl) ⟨by decide, by decide⟩ rfl (fun r56 h56c hp56 => ?_) (fun _ _ q => q.elim)
      obtain ⟨z56, y56⟩ := hp56
      rw [z56, y56]
      have g14 : -2147483648 ≤ (h.2.1 44 2) ∧ (h.2.1 44 2) ≤ 2147483647 := i0.2.1 44 2
      refine mm_icmp_le (tgt := 64) C (mm_dec dk_X11_protest 32 rfl) (by decide) (fun c59 => ?_) (fun c59 => ?_)
      · skip
        refine mm_aload_n C (mm_dec dk_X11_protest 35 rfl) rfl ?_
        refine mm_getr (t := 30) C fl_X11_44 (mm_dec dk_X11_protest 36 rfl) rfl rfl (mm_ref i0 rfl) ?_
        refine mm_iload_n C (mm_dec dk_X11_protest 37 rfl) rfl ?_
        refine mm_cVi (rest := []) C1 ev_X11_336 (mm_dec dk_X11_protest 38 rfl) (c_X6_accuse_q x.2.1 hl (d - 1) (by omega) h i0 p1 ⟨by omega, by omega⟩ (by omega)) rfl rfl (Nat.le_of_ble_eq_true rfl) ⟨by decide, by decide⟩ rfl (fun r69 h69c hp69 => ?_) (fun _ _ q => q.elim)
        obtain ⟨b69, i69c, g69c, y69_0, y69_1, y69_2, y69_3⟩ := hp69
        have f69c : mm_fr [(30, 12)] [37, 40] h h69c := mm_fr_tr f0 g69c (by decide +kernel)
        have q69c_16 : h69c.1 0 13 = h.1 0 13 := g69c.1 0 13 (by decide)
        have q69c_17 : h69c.1 22 8 = h.1 22 8 := g69c.1 22 8 (by decide)
        have g18 : 0 ≤ (h69c.1 30 12) ∧ (h69c.1 30 12) ≤ 40 := i69c.1 30 12
        exact mm_iret C T (mm_dec dk_X11_protest 39 rfl) (by decide : 1 ≤ 1) (by decide : 6 ≤ 6) ⟨_, rfl, ⟨⟨by omega, by omega⟩, i69c, f69c, by omega, by exact mm_hq9i ⟨r15, y15_0, by omega⟩, by first | exact ⟨0, Or.inr ⟨rfl, rfl⟩, mm_up_no (by decide) (fun _ => rfl), mm_up_no (by decide) (fun _ => rfl)⟩ | exact ⟨1, Or.inl ⟨rfl, by omega⟩, y69_2, y69_3⟩⟩⟩
      · skip
        refine mm_iconst C (mm_dec dk_X11_protest 33 rfl) ⟨by decide, by decide⟩ ?_
        exact mm_iret C T (mm_dec dk_X11_protest 34 rfl) (by decide : 1 ≤ 1) (by decide : 6 ≤ 6) ⟨_, rfl, ⟨⟨by omega, by omega⟩, i0, f0, by omega, by exact mm_hq9i ⟨r15, y15_0, by omega⟩, by first | exact ⟨0, Or.inr ⟨rfl, rfl⟩, mm_up_no (by decide) (fun _ => rfl), mm_up_no (by decide) (fun _ => rfl)⟩ | exact ⟨1, Or.inl ⟨rfl, by omega⟩, y69_2, y69_3⟩⟩⟩
    · skip
      refine mm_fgt 0 ?_
      refine mm_fgt 1 ?_
      refine mm_fgt 2 ?_
      exact J36 (by omega)
set_option maxRecDepth 100000 in
set_option maxHeartbeats 4000000 in
theorem c_X11_decide_q (l : Launch) (hl : l.stackTraces = false) (d : Nat) (hd : 8 ≤ d) (h : mH) (i0 : mm_inv h) (p1 : Int) (p2 : Int) (p3 : Int) : mm_Met l d yX11_decide cX11_decide 4 (some .boolean) [mR 0, mI p1, mI p2, mI p3] h (mm_pi fun r h2 => (0 ≤ r ∧ r ≤ 1) ∧ mm_inv h2 ∧ mm_fr [(30, 13)] [38, 39, 40, 41] h h2 ∧ (0 ≤ p1 ∧ p1 < h.1 30 12) ∧ ((r = 1 ∧ (0 ≤ p2 ∧ p2 ≤ 2 ∧ -999 ≤ p3 ∧ p3 ≤ 999) ∧ h.2.1 40 p1 = -1) ∨ (r = 0 ∧ ((p2 < 0 ∨ 2 < p2 ∨ p3 < -999 ∨ 999 < p3) ∨ h.2.1 40 p1 ≠ -1))) ∧ mm_up h h2 40 p1 (h.1 0 13) r ∧ (mm_up h h2 38 p1 p2 r ∧ mm_up h h2 39 p1 p3 r ∧ mm_up h h2 41 p1 (h.1 30 13) r ∧ ((r = 1 ∧ h2.1 30 13 = mm_w (h.1 30 13 + 1)) ∨ (r = 0 ∧ h2.1 30 13 = h.1 30 13)))) (fun E h' => mm_xn h E h' ∧ (p1 < 0 ∨ h.1 30 12 ≤ p1)) 1 6 := by
  refine mm_ofW (ls := [mR 0, mI p1, mI p2, mI p3]) hl (by decide) rfl (Nat.le_of_ble_eq_true rfl) ?_
  intro x hxl C T hnm htb
  subst hxl
  have C1 := mm_OK_le (d' := d - 1 + 1) (by omega) C
  have C8 := mm_OK_le (d' := d - 8 + 8) (by omega) C
  refine mm_rng (fun hr _ => ?_)
  have ap1 : -2147483648 ≤ p1 ∧ p1 < 2147483648 := mm_ok_at hr (i := 1) rfl
  have ap2 : -2147483648 ≤ p2 ∧ p2 < 2147483648 := mm_ok_at hr (i := 2) rfl
  have ap3 : -2147483648 ≤ p3 ∧ p3 < 2147483648 := mm_ok_at hr (i := 3) rfl
  have f0 : mm_fr [(30, 13)] [38, 39, 40, 41] h h := mm_fr_rf
  have g1 : 0 ≤ h.1 30 12 ∧ h.1 30 12 ≤ 40 := i0.1 30 12
  have g2 : 0 ≤ h.1 0 13 ∧ h.1 0 13 ≤ 99999 := i0.1 0 13
  have g3 : -2147483648 ≤ h.1 30 13 ∧ h.1 30 13 ≤ 2147483647 := i0.1 30 13
  refine mm_iload_n C (mm_dec dk_X11_decide 0 rfl) rfl ?_
  have J15 : ∀ (w15_0 : (p1 < 0 ∨ h.1 30 12 ≤ p1)), mm_W x 0 0 15 [mU, mU, mU, mU] [] h := by
    intro w15_0
    have g4 : 0 ≤ h.1 30 12 ∧ h.1 30 12 ≤ 40 := i0.1 30 12
    have g5 : 0 ≤ h.1 0 13 ∧ h.1 0 13 ≤ 99999 := i0.1 0 13
    have g6 : -2147483648 ≤ h.1 30 13 ∧ h.1 30 13 ≤ 2147483647 := i0.1 30 13
    exact mm_throwXW C8 T htb th_nse (i := 16) rfl (mm_dec dk_X11_decide 7 rfl) (mm_dec dk_X11_decide 8 rfl) (mm_dec dk_X11_decide 9 rfl) (mm_dec dk_X11_decide 10 rfl) (mm_dec dk_X11_decide 11 rfl) (Nat.le_of_ble_eq_true rfl) ⟨by decide, by decide⟩ ⟨by decide, by decide⟩ (⟨⟨rfl, rfl⟩, by omega⟩)
  refine mm_if_lt (tgt := 15) C (mm_dec dk_X11_decide 1 rfl) (by decide) (fun c1 => ?_) (fun c1 => ?_)
  · skip
    refine mm_fgt 0 ?_
    refine mm_fgt 1 ?_
    refine mm_fgt 2 ?_
    refine mm_fgt 3 ?_
    exact J15 (by omega)
  · skip
    refine mm_iload_n C (mm_dec dk_X11_decide 2 rfl) rfl ?_
    refine mm_aload_n C (mm_dec dk_X11_decide 3 rfl) rfl ?_
    refine mm_getr (t := 30) C fl_X11_44 (mm_dec dk_X11_decide 4 rfl) rfl rfl (mm_ref i0 rfl) ?_
    refine mm_cVi (rest := [mI p1]) C1 ev_X11_327 (mm_dec dk_X11_decide 5 rfl) (c_X6_protests x.2.1 hl (d - 1) (by omega) h i0 ) rfl rfl (Nat.le_of_ble_eq_true rfl) ⟨by decide, by decide⟩ rfl (fun r9 h9c hp9 => ?_) (fun _ _ q => q.elim)
    obtain ⟨z9, y9⟩ := hp9
    rw [z9, y9]
    refine mm_icmp_lt (tgt := 26) C (mm_dec dk_X11_decide 6 rfl) (by decide) (fun c12 => ?_) (fun c12 => ?_)
    · skip
      refine mm_iload_n C (mm_dec dk_X11_decide 12 rfl) rfl ?_
      refine mm_iconst C (mm_dec dk_X11_decide 13 rfl) ⟨by decide, by decide⟩ ?_
      refine mm_iconst C (mm_dec dk_X11_decide 14 rfl) ⟨by decide, by decide⟩ ?_
      refine mm_cSi (rest := []) C1 es_X11_130 (mm_dec dk_X11_decide 15 rfl) (c_X11_within x.2.1 hl (d - 1) (by omega) h i0 p2 0 2) rfl (Nat.le_of_ble_eq_true rfl) ⟨by decide, by decide⟩ rfl (fun r29 h29c hp29 => ?_) (fun _ _ q => q.elim)
      obtain ⟨z29, y29⟩ := hp29
      rw [z29]
      have J48 : ∀ (w48_0 : (0 ≤ p1 ∧ p1 < h.1 30 12)) (w48_1 : (p2 < 0 ∨ 2 < p2 ∨ p3 < -999 ∨ 999 < p3)), mm_W x 0 0 48 [mU, mU, mU, mU] [] h := by
        intro w48_0 w48_1
        have g9 : 0 ≤ h.1 30 12 ∧ h.1 30 12 ≤ 40 := i0.1 30 12
        have g10 : 0 ≤ h.1 0 13 ∧ h.1 0 13 ≤ 99999 := i0.1 0 13
        have g11 : -2147483648 ≤ h.1 30 13 ∧ h.1 30 13 ≤ 2147483647 := i0.1 30 13
        refine mm_iconst C (mm_dec dk_X11_decide 22 rfl) ⟨by decide, by decide⟩ ?_
        exact mm_zret C T (mm_dec dk_X11_decide 23 rfl) (by decide : 0 ≤ 1) (by decide : 0 ≤ 6) (by omega) ⟨_, rfl, ⟨⟨by omega, by omega⟩, i0, f0, by omega, by omega, by first | exact mm_up_no (by decide) (fun _ => rfl) | exact y61_1, by first | exact ⟨mm_up_no (by decide) (fun _ => rfl), mm_up_no (by decide) (fun _ => rfl), mm_up_no (by decide) (fun _ => rfl), Or.inr ⟨rfl, rfl⟩⟩ | exact ⟨y61_2, y61_3, y61_4, y61_5⟩⟩⟩
      refine mm_if_eq (tgt := 48) C (mm_dec dk_X11_decide 16 rfl) (by decide) (fun c32 => ?_) (fun c32 => ?_)
      · skip
        refine mm_fgt 0 ?_
        refine mm_fgt 1 ?_
        refine mm_fgt 2 ?_
        refine mm_fgt 3 ?_
        exact J48 (by omega) (by omega)
      · skip
        refine mm_iload_n C (mm_dec dk_X11_decide 17 rfl) rfl ?_
        refine mm_sipush C (mm_dec dk_X11_decide 18 rfl) ⟨by decide, by decide⟩ ?_
        refine mm_sipush C (mm_dec dk_X11_decide 19 rfl) ⟨by decide, by decide⟩ ?_
        refine mm_cSi (rest := []) C1 es_X11_130 (mm_dec dk_X11_decide 20 rfl) (c_X11_within x.2.1 hl (d - 1) (by omega) h i0 p3 (-999) 999) rfl (Nat.le_of_ble_eq_true rfl) ⟨by decide, by decide⟩ rfl (fun r42 h42c hp42 => ?_) (fun _ _ q => q.elim)
        obtain ⟨z42, y42⟩ := hp42
        rw [z42]
        refine mm_if_ne (tgt := 50) C (mm_dec dk_X11_decide 21 rfl) (by decide) (fun c45 => ?_) (fun c45 => ?_)
        · skip
          refine mm_aload_n C (mm_dec dk_X11_decide 24 rfl) rfl ?_
          refine mm_getr (t := 30) C fl_X11_44 (mm_dec dk_X11_decide 25 rfl) rfl rfl (mm_ref i0 rfl) ?_
          refine mm_iload_n C (mm_dec dk_X11_decide 26 rfl) rfl ?_
          refine mm_iload_n C (mm_dec dk_X11_decide 27 rfl) rfl ?_
          refine mm_iload_n C (mm_dec dk_X11_decide 28 rfl) rfl ?_
          refine mm_aload_n C (mm_dec dk_X11_decide 29 rfl) rfl ?_
          refine mm_geti C fl_X11_102 (mm_dec dk_X11_decide 30 rfl) rfl rfl (Or.inl rfl) ?_
          refine mm_cVi (rest := []) C1 ev_X11_341 (mm_dec dk_X11_decide 31 rfl) (c_X6_settle_q x.2.1 hl (d - 1) (by omega) h i0 p1 p2 p3 (h.1 0 13) ⟨by omega, by omega⟩) rfl rfl (Nat.le_of_ble_eq_true rfl) ⟨by decide, by decide⟩ rfl (fun r61 h61c hp61 => ?_) (fun _ _ q => q.elim)
          obtain ⟨b61, i61c, g61c, y61_0, y61_1, y61_2, y61_3, y61_4, y61_5⟩ := hp61
          have f61c : mm_fr [(30, 13)] [38, 39, 40, 41] h h61c := mm_fr_tr f0 g61c (by decide +kernel)
          have q61c_14 : h61c.1 0 13 = h.1 0 13 := g61c.1 0 13 (by decide)
          have q61c_15 : h61c.1 30 12 = h.1 30 12 := g61c.1 30 12 (by decide)
          have g16 : -2147483648 ≤ (h61c.1 30 13) ∧ (h61c.1 30 13) ≤ 2147483647 := i61c.1 30 13
          exact mm_zret C T (mm_dec dk_X11_decide 32 rfl) (by decide : 0 ≤ 1) (by decide : 0 ≤ 6) (by omega) ⟨_, rfl, ⟨⟨by omega, by omega⟩, i61c, f61c, by omega, by omega, by first | exact mm_up_no (by decide) (fun _ => rfl) | exact y61_1, by first | exact ⟨mm_up_no (by decide) (fun _ => rfl), mm_up_no (by decide) (fun _ => rfl), mm_up_no (by decide) (fun _ => rfl), Or.inr ⟨rfl, rfl⟩⟩ | exact ⟨y61_2, y61_3, y61_4, y61_5⟩⟩⟩
        · skip
          refine mm_fgt 0 ?_
          refine mm_fgt 1 ?_
          refine mm_fgt 2 ?_
          refine mm_fgt 3 ?_
          exact J48 (by omega) (by omega)
    · skip
      refine mm_fgt 0 ?_
      refine mm_fgt 1 ?_
      refine mm_fgt 2 ?_
      refine mm_fgt 3 ?_
      exact J15 (by omega)
set_option maxRecDepth 100000 in
set_option maxHeartbeats 4000000 in
theorem c_X11_count_q (l : Launch) (hl : l.stackTraces = false) (d : Nat) (hd : 8 ≤ d) (h : mH) (i0 : mm_inv h) (p1 : Int) : mm_Met l d yX11_count cX11_count 2 (some .int) [mR 0, mI p1] h (mm_pi fun r h2 => (-2147483648 ≤ r ∧ r ≤ 2147483647) ∧ h2 = h ∧ (0 ≤ p1 ∧ p1 ≤ 10) ∧ r = mm_ct9 h p1) (fun E h' => mm_xn h E h' ∧ (p1 < 0 ∨ 10 < p1)) 1 6 := by
  refine mm_ofW (ls := [mR 0, mI p1]) hl (by decide) rfl (Nat.le_of_ble_eq_true rfl) ?_
  intro x hxl C T hnm htb
  subst hxl
  have C1 := mm_OK_le (d' := d - 1 + 1) (by omega) C
  have C8 := mm_OK_le (d' := d - 8 + 8) (by omega) C
  refine mm_rng (fun hr _ => ?_)
  have ap1 : -2147483648 ≤ p1 ∧ p1 < 2147483648 := mm_ok_at hr (i := 1) rfl
  have f0 : mm_fr [] [] h h := mm_fr_rf
  refine mm_iload_n C (mm_dec dk_X11_count 0 rfl) rfl ?_
  refine mm_table (t0 := 145) [60, 65, 73, 81, 89, 97, 105, 113, 118, 127, 136] C (mm_dec dk_X11_count 1 rfl) (by decide) (by decide) (by decide +kernel) (fun c1 => ?_) (fun k1 hk1 c1 => ?_)
  · skip
    exact mm_throwXW C8 T htb th_nse (i := 19) rfl (mm_dec dk_X11_count 47 rfl) (mm_dec dk_X11_count 48 rfl) (mm_dec dk_X11_count 49 rfl) (mm_dec dk_X11_count 50 rfl) (mm_dec dk_X11_count 51 rfl) (Nat.le_of_ble_eq_true rfl) ⟨by decide, by decide⟩ ⟨by decide, by decide⟩ (⟨⟨rfl, rfl⟩, by omega⟩)
  · have hq1 : k1 < 11 := hk1
    rcases (by omega : k1 = 0 ∨ k1 = 1 ∨ k1 = 2 ∨ k1 = 3 ∨ k1 = 4 ∨ k1 = 5 ∨ k1 = 6 ∨ k1 = 7 ∨ k1 = 8 ∨ k1 = 9 ∨ k1 = 10) with rfl | rfl | rfl | rfl | rfl | rfl | rfl | rfl | rfl | rfl | rfl
    · show mm_W x 0 0 60 _ _ _
      refine mm_aload_n C (mm_dec dk_X11_count 2 rfl) rfl ?_
      refine mm_geti C fl_X11_102 (mm_dec dk_X11_count 3 rfl) rfl rfl (Or.inl rfl) ?_
      have g1 : 0 ≤ (h.1 0 13) ∧ (h.1 0 13) ≤ 99999 := i0.1 0 13
      exact mm_iret C T (mm_dec dk_X11_count 4 rfl) (by decide : 0 ≤ 1) (by decide : 0 ≤ 6) ⟨_, rfl, ⟨⟨by omega, by omega⟩, rfl, by omega, by (unfold mm_ct9; (repeat' split) <;> omega)⟩⟩
    · show mm_W x 0 0 65 _ _ _
      refine mm_aload_n C (mm_dec dk_X11_count 5 rfl) rfl ?_
      refine mm_getr (t := 14) C fl_X11_28 (mm_dec dk_X11_count 6 rfl) rfl rfl (mm_ref i0 rfl) ?_
      refine mm_cVi (rest := []) C1 ev_X11_191 (mm_dec dk_X11_count 7 rfl) (c_X2_posts x.2.1 hl (d - 1) (by omega) h i0 ) rfl rfl (Nat.le_of_ble_eq_true rfl) ⟨by decide, by decide⟩ rfl (fun r69 h69c hp69 => ?_) (fun _ _ q => q.elim)
      obtain ⟨z69, y69⟩ := hp69
      rw [z69, y69]
      have g3 : 0 ≤ (h.1 14 7) ∧ (h.1 14 7) ≤ 20 := i0.1 14 7
      exact mm_iret C T (mm_dec dk_X11_count 8 rfl) (by decide : 0 ≤ 1) (by decide : 0 ≤ 6) ⟨_, rfl, ⟨⟨by omega, by omega⟩, rfl, by omega, by (unfold mm_ct9; (repeat' split) <;> omega)⟩⟩
    · show mm_W x 0 0 73 _ _ _
      refine mm_aload_n C (mm_dec dk_X11_count 9 rfl) rfl ?_
      refine mm_getr (t := 14) C fl_X11_28 (mm_dec dk_X11_count 10 rfl) rfl rfl (mm_ref i0 rfl) ?_
      refine mm_cVi (rest := []) C1 ev_X11_200 (mm_dec dk_X11_count 11 rfl) (c_X2_size x.2.1 hl (d - 1) (by omega) h i0 ) rfl rfl (Nat.le_of_ble_eq_true rfl) ⟨by decide, by decide⟩ rfl (fun r77 h77c hp77 => ?_) (fun _ _ q => q.elim)
      obtain ⟨z77, y77⟩ := hp77
      rw [z77, y77]
      have g5 : 0 ≤ (h.1 14 8) ∧ (h.1 14 8) ≤ 8 := i0.1 14 8
      exact mm_iret C T (mm_dec dk_X11_count 12 rfl) (by decide : 0 ≤ 1) (by decide : 0 ≤ 6) ⟨_, rfl, ⟨⟨by omega, by omega⟩, rfl, by omega, by (unfold mm_ct9; (repeat' split) <;> omega)⟩⟩
    · show mm_W x 0 0 81 _ _ _
      refine mm_aload_n C (mm_dec dk_X11_count 13 rfl) rfl ?_
      refine mm_getr (t := 22) C fl_X11_37 (mm_dec dk_X11_count 14 rfl) rfl rfl (mm_ref i0 rfl) ?_
      refine mm_cVi (rest := []) C1 ev_X11_230 (mm_dec dk_X11_count 15 rfl) (c_X9_size x.2.1 hl (d - 1) (by omega) h i0 ) rfl rfl (Nat.le_of_ble_eq_true rfl) ⟨by decide, by decide⟩ rfl (fun r85 h85c hp85 => ?_) (fun _ _ q => q.elim)
      obtain ⟨z85, y85⟩ := hp85
      rw [z85, y85]
      have g7 : 0 ≤ (h.1 22 8) ∧ (h.1 22 8) ≤ 40 := i0.1 22 8
      exact mm_iret C T (mm_dec dk_X11_count 16 rfl) (by decide : 0 ≤ 1) (by decide : 0 ≤ 6) ⟨_, rfl, ⟨⟨by omega, by omega⟩, rfl, by omega, by (unfold mm_ct9; (repeat' split) <;> omega)⟩⟩
    · show mm_W x 0 0 89 _ _ _
      refine mm_aload_n C (mm_dec dk_X11_count 17 rfl) rfl ?_
      refine mm_getr (t := 22) C fl_X11_37 (mm_dec dk_X11_count 18 rfl) rfl rfl (mm_ref i0 rfl) ?_
      refine mm_cVi (rest := []) C1 ev_X11_251 (mm_dec dk_X11_count 19 rfl) (c_X9_teams x.2.1 hl (d - 1) (by omega) h i0 ) rfl rfl (Nat.le_of_ble_eq_true rfl) ⟨by decide, by decide⟩ rfl (fun r93 h93c hp93 => ?_) (fun _ _ q => q.elim)
      obtain ⟨z93, y93⟩ := hp93
      rw [z93, y93]
      have g9 : 0 ≤ (h.1 22 9) ∧ (h.1 22 9) ≤ 10 := i0.1 22 9
      exact mm_iret C T (mm_dec dk_X11_count 20 rfl) (by decide : 0 ≤ 1) (by decide : 0 ≤ 6) ⟨_, rfl, ⟨⟨by omega, by omega⟩, rfl, by omega, by (unfold mm_ct9; (repeat' split) <;> omega)⟩⟩
    · show mm_W x 0 0 97 _ _ _
      refine mm_aload_n C (mm_dec dk_X11_count 21 rfl) rfl ?_
      refine mm_getr (t := 30) C fl_X11_44 (mm_dec dk_X11_count 22 rfl) rfl rfl (mm_ref i0 rfl) ?_
      refine mm_cVi (rest := []) C1 ev_X11_268 (mm_dec dk_X11_count 23 rfl) (c_X6_events x.2.1 hl (d - 1) (by omega) h i0 ) rfl rfl (Nat.le_of_ble_eq_true rfl) ⟨by decide, by decide⟩ rfl (fun r101 h101c hp101 => ?_) (fun _ _ q => q.elim)
      obtain ⟨z101, y101⟩ := hp101
      rw [z101, y101]
      have g11 : 0 ≤ (h.1 30 6) ∧ (h.1 30 6) ≤ 500 := i0.1 30 6
      exact mm_iret C T (mm_dec dk_X11_count 24 rfl) (by decide : 0 ≤ 1) (by decide : 0 ≤ 6) ⟨_, rfl, ⟨⟨by omega, by omega⟩, rfl, by omega, by (unfold mm_ct9; (repeat' split) <;> omega)⟩⟩
    · show mm_W x 0 0 105 _ _ _
      refine mm_aload_n C (mm_dec dk_X11_count 25 rfl) rfl ?_
      refine mm_getr (t := 30) C fl_X11_44 (mm_dec dk_X11_count 26 rfl) rfl rfl (mm_ref i0 rfl) ?_
      refine mm_cVi (rest := []) C1 ev_X11_327 (mm_dec dk_X11_count 27 rfl) (c_X6_protests x.2.1 hl (d - 1) (by omega) h i0 ) rfl rfl (Nat.le_of_ble_eq_true rfl) ⟨by decide, by decide⟩ rfl (fun r109 h109c hp109 => ?_) (fun _ _ q => q.elim)
      obtain ⟨z109, y109⟩ := hp109
      rw [z109, y109]
      have g13 : 0 ≤ (h.1 30 12) ∧ (h.1 30 12) ≤ 40 := i0.1 30 12
      exact mm_iret C T (mm_dec dk_X11_count 28 rfl) (by decide : 0 ≤ 1) (by decide : 0 ≤ 6) ⟨_, rfl, ⟨⟨by omega, by omega⟩, rfl, by omega, by (unfold mm_ct9; (repeat' split) <;> omega)⟩⟩
    · show mm_W x 0 0 113 _ _ _
      refine mm_aload_n C (mm_dec dk_X11_count 29 rfl) rfl ?_
      refine mm_geti C fl_X11_98 (mm_dec dk_X11_count 30 rfl) rfl rfl (Or.inl rfl) ?_
      have g14 : 0 ≤ (h.1 0 12) ∧ (h.1 0 12) ≤ 500 := i0.1 0 12
      exact mm_iret C T (mm_dec dk_X11_count 31 rfl) (by decide : 0 ≤ 1) (by decide : 0 ≤ 6) ⟨_, rfl, ⟨⟨by omega, by omega⟩, rfl, by omega, by (unfold mm_ct9; (repeat' split) <;> omega)⟩⟩
    · show mm_W x 0 0 118 _ _ _
      refine mm_aload_n C (mm_dec dk_X11_count 32 rfl) rfl ?_
      refine mm_getr (t := 42) C fl_X11_51 (mm_dec dk_X11_count 33 rfl) rfl rfl (mm_ref i0 rfl) ?_
      refine mm_iconst C (mm_dec dk_X11_count 34 rfl) ⟨by decide, by decide⟩ ?_
      refine mm_cVi (rest := []) C1 ev_X11_333 (mm_dec dk_X11_count 35 rfl) (c_X8_param x.2.1 hl (d - 1) (by omega) h i0 0 ⟨by omega, by omega⟩) rfl rfl (Nat.le_of_ble_eq_true rfl) ⟨by decide, by decide⟩ rfl (fun r123 h123c hp123 => ?_) (fun _ _ q => q.elim)
      obtain ⟨z123, y123⟩ := hp123
      rw [z123, y123]
      have g16 : -2147483648 ≤ (h.2.1 44 0) ∧ (h.2.1 44 0) ≤ 2147483647 := i0.2.1 44 0
      exact mm_iret C T (mm_dec dk_X11_count 36 rfl) (by decide : 0 ≤ 1) (by decide : 0 ≤ 6) ⟨_, rfl, ⟨⟨by omega, by omega⟩, rfl, by omega, by (unfold mm_ct9; (repeat' split) <;> omega)⟩⟩
    · show mm_W x 0 0 127 _ _ _
      refine mm_aload_n C (mm_dec dk_X11_count 37 rfl) rfl ?_
      refine mm_getr (t := 42) C fl_X11_51 (mm_dec dk_X11_count 38 rfl) rfl rfl (mm_ref i0 rfl) ?_
      refine mm_iconst C (mm_dec dk_X11_count 39 rfl) ⟨by decide, by decide⟩ ?_
      refine mm_cVi (rest := []) C1 ev_X11_333 (mm_dec dk_X11_count 40 rfl) (c_X8_param x.2.1 hl (d - 1) (by omega) h i0 1 ⟨by omega, by omega⟩) rfl rfl (Nat.le_of_ble_eq_true rfl) ⟨by decide, by decide⟩ rfl (fun r132 h132c hp132 => ?_) (fun _ _ q => q.elim)
      obtain ⟨z132, y132⟩ := hp132
      rw [z132, y132]
      have g18 : -2147483648 ≤ (h.2.1 44 1) ∧ (h.2.1 44 1) ≤ 2147483647 := i0.2.1 44 1
      exact mm_iret C T (mm_dec dk_X11_count 41 rfl) (by decide : 0 ≤ 1) (by decide : 0 ≤ 6) ⟨_, rfl, ⟨⟨by omega, by omega⟩, rfl, by omega, by (unfold mm_ct9; (repeat' split) <;> omega)⟩⟩
    · show mm_W x 0 0 136 _ _ _
      refine mm_aload_n C (mm_dec dk_X11_count 42 rfl) rfl ?_
      refine mm_getr (t := 42) C fl_X11_51 (mm_dec dk_X11_count 43 rfl) rfl rfl (mm_ref i0 rfl) ?_
      refine mm_iconst C (mm_dec dk_X11_count 44 rfl) ⟨by decide, by decide⟩ ?_
      refine mm_cVi (rest := []) C1 ev_X11_333 (mm_dec dk_X11_count 45 rfl) (c_X8_param x.2.1 hl (d - 1) (by omega) h i0 2 ⟨by omega, by omega⟩) rfl rfl (Nat.le_of_ble_eq_true rfl) ⟨by decide, by decide⟩ rfl (fun r141 h141c hp141 => ?_) (fun _ _ q => q.elim)
      obtain ⟨z141, y141⟩ := hp141
      rw [z141, y141]
      have g20 : -2147483648 ≤ (h.2.1 44 2) ∧ (h.2.1 44 2) ≤ 2147483647 := i0.2.1 44 2
      exact mm_iret C T (mm_dec dk_X11_count 46 rfl) (by decide : 0 ≤ 1) (by decide : 0 ≤ 6) ⟨_, rfl, ⟨⟨by omega, by omega⟩, rfl, by omega, by (unfold mm_ct9; (repeat' split) <;> omega)⟩⟩
