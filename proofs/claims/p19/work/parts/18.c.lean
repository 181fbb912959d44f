set_option maxRecDepth 100000 in
set_option maxHeartbeats 4000000 in
theorem c_X12_way (l : Launch) (hl : l.stackTraces = false) (d : Nat) (hd : 3 ≤ d) (h : mH) (i0 : mm_inv h) (p1 : Int) (p2 : Int) (p3 : Int) (p4 : Int) : mm_Met l d yX12_way cX12_way 9 (some .int) [mR 66, mI p1, mI p2, mI p3, mI p4] h (mm_pi fun r h2 => (-1 ≤ r ∧ r ≤ 1000000000) ∧ mm_inv h2 ∧ mm_fr [(66, 0), (66, 18), (66, 19)] [72, 73, 75, 76, 77] h h2) mm_nx 0 0 := by
  refine mm_ofW (ls := [mR 66, mI p1, mI p2, mI p3, mI p4, mU, mU, mU, mU]) hl (by decide) rfl (Nat.le_of_ble_eq_true rfl) ?_
  intro x hxl C T hnm htb
  subst hxl
  have C1 := mm_OK_le (d' := d - 1 + 1) (by omega) C
  refine mm_rng (fun hr _ => ?_)
  have ap1 : -2147483648 ≤ p1 ∧ p1 < 2147483648 := mm_ok_at hr (i := 1) rfl
  have ap2 : -2147483648 ≤ p2 ∧ p2 < 2147483648 := mm_ok_at hr (i := 2) rfl
  have ap3 : -2147483648 ≤ p3 ∧ p3 < 2147483648 := mm_ok_at hr (i := 3) rfl
  have ap4 : -2147483648 ≤ p4 ∧ p4 < 2147483648 := mm_ok_at hr (i := 4) rfl
  have f0 : mm_fr [(66, 0), (66, 18), (66, 19)] [72, 73, 75, 76, 77] h h := mm_fr_rf
  have g1 : -1 ≤ h.1 66 19 ∧ h.1 66 19 ≤ 400 := i0.1 66 19
  have g2 : 1 ≤ h.1 66 1 ∧ h.1 66 1 ≤ 20 := i0.1 66 1
  have g3 : 1 ≤ h.1 66 2 ∧ h.1 66 2 ≤ 20 := i0.1 66 2
  refine mm_aload_n C (mm_dec dk_X12_way 0 rfl) rfl ?_
  refine mm_iload_n C (mm_dec dk_X12_way 1 rfl) rfl ?_
  refine mm_iload_n C (mm_dec dk_X12_way 2 rfl) rfl ?_
  refine mm_cVi (rest := []) C1 ev_X12_255 (mm_dec dk_X12_way 3 rfl) (c_X12_isCell x.2.1 hl (d - 1) (by omega) h i0 p1 p2) rfl rfl (Nat.le_of_ble_eq_true rfl) ⟨by decide, by decide⟩ rfl (fun r3 h3c hp3 => ?_) (fun _ _ q => q.elim)
  obtain ⟨b3, i3c, g3c, y3_0⟩ := hp3
  have f3c : mm_fr [(66, 0), (66, 18), (66, 19)] [72, 73, 75, 76, 77] h h3c := mm_fr_tr f0 g3c (by decide +kernel)
  have q3c_5 : h3c.1 66 1 = h.1 66 1 := g3c.1 66 1 (by decide)
  have q3c_6 : h3c.1 66 2 = h.1 66 2 := g3c.1 66 2 (by decide)
  have q3c_7 : h3c.1 66 19 = h.1 66 19 := g3c.1 66 19 (by decide)
  have J19 : ∀ (h19_ : mH) (i19_ : mm_inv h19_) (f19_ : mm_fr [(66, 0), (66, 18), (66, 19)] [72, 73, 75, 76, 77] h h19_), mm_W x 0 0 19 [mU, mU, mU, mU, mU, mU, mU, mU, mU] [] h19_ := by
    intro h19_ i19_ f19_
    have g8 : -1 ≤ h19_.1 66 19 ∧ h19_.1 66 19 ≤ 400 := i19_.1 66 19
    have g9 : 1 ≤ h19_.1 66 1 ∧ h19_.1 66 1 ≤ 20 := i19_.1 66 1
    have g10 : 1 ≤ h19_.1 66 2 ∧ h19_.1 66 2 ≤ 20 := i19_.1 66 2
    have g11 : h19_.1 66 1 = h.1 66 1 := f19_.1 66 1 (by decide)
    have g12 : h19_.1 66 2 = h.1 66 2 := f19_.1 66 2 (by decide)
    refine mm_iconst C (mm_dec dk_X12_way 10 rfl) ⟨by decide, by decide⟩ ?_
    exact mm_iret C T (mm_dec dk_X12_way 11 rfl) (by decide : 0 ≤ 0) (by decide : 0 ≤ 0) ⟨_, rfl, ⟨⟨by omega, by omega⟩, i19_, f19_⟩⟩
  refine mm_if_eq (tgt := 19) C (mm_dec dk_X12_way 4 rfl) (by decide) (fun c6 => ?_) (fun c6 => ?_)
  · skip
    refine mm_fgt 0 ?_
    refine mm_fgt 1 ?_
    refine mm_fgt 2 ?_
    refine mm_fgt 3 ?_
    refine mm_fgt 4 ?_
    exact J19 h3c i3c f3c
  · skip
    refine mm_aload_n C (mm_dec dk_X12_way 5 rfl) rfl ?_
    refine mm_iload_n C (mm_dec dk_X12_way 6 rfl) rfl ?_
    refine mm_iload C (mm_dec dk_X12_way 7 rfl) rfl ?_
    refine mm_cVi (rest := []) C1 ev_X12_247 (mm_dec dk_X12_way 8 rfl) (c_X12_inside x.2.1 hl (d - 1) (by omega) h3c i3c p3 p4) rfl rfl (Nat.le_of_ble_eq_true rfl) ⟨by decide, by decide⟩ rfl (fun r13 h13c hp13 => ?_) (fun _ _ q => q.elim)
    obtain ⟨b13, i13c, g13c, y13_0⟩ := hp13
    have f13c : mm_fr [(66, 0), (66, 18), (66, 19)] [72, 73, 75, 76, 77] h h13c := mm_fr_tr f3c g13c (by decide +kernel)
    have q13c_14 : h13c.1 66 1 = h3c.1 66 1 := g13c.1 66 1 (by decide)
    have q13c_15 : h13c.1 66 2 = h3c.1 66 2 := g13c.1 66 2 (by decide)
    have q13c_16 : h13c.1 66 19 = h3c.1 66 19 := g13c.1 66 19 (by decide)
    refine mm_if_ne (tgt := 21) C (mm_dec dk_X12_way 9 rfl) (by decide) (fun c16 => ?_) (fun c16 => ?_)
    · skip
      refine mm_bipush C (mm_dec dk_X12_way 12 rfl) ⟨by decide, by decide⟩ ?_
      refine mm_iload C (mm_dec dk_X12_way 13 rfl) rfl ?_
      refine mm_imul C (mm_dec dk_X12_way 14 rfl) ⟨by omega, by omega⟩ ?_
      refine mm_iload_n C (mm_dec dk_X12_way 15 rfl) rfl ?_
      refine mm_iadd C (mm_dec dk_X12_way 16 rfl) ⟨by omega, by omega⟩ ?_
      refine mm_istoreL (ls2 := [mR 66, mI p1, mI p2, mI p3, mI p4, mI ((20 * p4) + p3), mU, mU, mU]) C (mm_dec dk_X12_way 17 rfl) (by decide) rfl ?_
      refine mm_bipush C (mm_dec dk_X12_way 18 rfl) ⟨by decide, by decide⟩ ?_
      refine mm_iload_n C (mm_dec dk_X12_way 19 rfl) rfl ?_
      refine mm_imul C (mm_dec dk_X12_way 20 rfl) ⟨by omega, by omega⟩ ?_
      refine mm_iload_n C (mm_dec dk_X12_way 21 rfl) rfl ?_
      refine mm_iadd C (mm_dec dk_X12_way 22 rfl) ⟨by omega, by omega⟩ ?_
      refine mm_istoreL (ls2 := [mR 66, mI p1, mI p2, mI p3, mI p4, mI ((20 * p4) + p3), mI ((20 * p2) + p1), mU, mU]) C (mm_dec dk_X12_way 23 rfl) (by decide) rfl ?_
      refine mm_aload_n C (mm_dec dk_X12_way 24 rfl) rfl ?_
      refine mm_iload C (mm_dec dk_X12_way 25 rfl) rfl ?_
      refine mm_cVv (rest := []) C1 ev_X12_280 (mm_dec dk_X12_way 26 rfl) (c_X12_towards x.2.1 hl (d - 1) (by omega) h13c i13c ((20 * p4) + p3) ⟨by omega, by omega⟩) rfl rfl (Nat.le_of_ble_eq_true rfl) ⟨by decide, by decide⟩ rfl (fun h41c hp41 => ?_) (fun _ _ q => q.elim)
      obtain ⟨i41c, g41c, y41_0⟩ := hp41
      have f41c : mm_fr [(66, 0), (66, 18), (66, 19)] [72, 73, 75, 76, 77] h h41c := mm_fr_tr f13c g41c (by decide +kernel)
      have q41c_18 : h41c.1 66 1 = h13c.1 66 1 := g41c.1 66 1 (by decide)
      have q41c_19 : h41c.1 66 2 = h13c.1 66 2 := g41c.1 66 2 (by decide)
      have q41c_20 : h41c.1 66 19 = h13c.1 66 19 := g41c.1 66 19 (by decide)
      refine mm_aload_n C (mm_dec dk_X12_way 27 rfl) rfl ?_
      refine mm_getr (t := 72) C fl_X12_26 (mm_dec dk_X12_way 28 rfl) rfl rfl (mm_ref i41c rfl) ?_
      refine mm_iload C (mm_dec dk_X12_way 29 rfl) rfl ?_
      refine mm_iald C (mm_dec dk_X12_way 30 rfl) rfl (by omega) (by omega) ?_
      have g21 : 0 ≤ (h41c.2.1 72 ((20 * p2) + p1)) ∧ (h41c.2.1 72 ((20 * p2) + p1)) ≤ 1000000000 := i41c.2.1 72 ((20 * p2) + p1)
      refine mm_ldcw (z := 1000000000) C (mm_dec dk_X12_way 31 rfl) kc_X12_258 (by decide) ?_
      refine mm_icmp_ne (tgt := 59) C (mm_dec dk_X12_way 32 rfl) (by decide) (fun c54 => ?_) (fun c54 => ?_)
      · skip
        refine mm_aload_n C (mm_dec dk_X12_way 35 rfl) rfl ?_
        refine mm_iconst C (mm_dec dk_X12_way 36 rfl) ⟨by decide, by decide⟩ ?_
        refine mm_puti C fl_X12_213 (mm_dec dk_X12_way 37 rfl) rfl rfl rfl (Or.inl ⟨rfl, rfl⟩) ?_
        have i4 : mm_inv (mm_pf h41c 66 19 0) := mm_inv_pf i41c (show -1 ≤ 0 ∧ 0 ≤ 400 from ⟨by omega, by omega⟩) (by decide)
        have f4 : mm_fr [(66, 0), (66, 18), (66, 19)] [72, 73, 75, 76, 77] h (mm_pf h41c 66 19 0) := mm_fr_pf f41c (by decide)
        obtain ⟨h4, eh4⟩ : ∃ z, z = mm_pf h41c 66 19 0 := ⟨_, rfl⟩
        rw [← eh4] at i4 f4 ⊢
        have qh4 : h4.1 66 19 = 0 := by rw [eh4]; exact mm_pf_same _ _ _ _
        have qh4_22 : h4.1 66 1 = h41c.1 66 1 := by rw [eh4]; exact mm_pf_ne _ _ (by decide)
        have qh4_23 : h4.1 66 2 = h41c.1 66 2 := by rw [eh4]; exact mm_pf_ne _ _ (by decide)
        have zi : h4.2.1 72 ((20 * p2) + p1) = h41c.2.1 72 ((20 * p2) + p1) := by rw [eh4]; rfl
        have zj : (0 : Int) ≤ h4.2.1 73 ((20 * p2) + p1) ∧ h4.2.1 73 ((20 * p2) + p1) ≤ 400 := i4.2.1 73 _
        refine mm_iload C (mm_dec dk_X12_way 38 rfl) rfl ?_
        have J68 : ∀ (n : Nat) (x68_7 : Int) (bx68_7 : 0 ≤ x68_7 ∧ x68_7 ≤ 399) (h68_ : mH) (i68_ : mm_inv h68_) (f68_ : mm_fr [(66, 0), (66, 18), (66, 19)] [72, 73, 75, 76, 77] h h68_) (w68_0 : ∃ L, mm_dij h68_ ((20 * p4) + p3) L) (w68_1 : h68_.2.1 72 x68_7 < 1000000000) (w68_2 : h68_.1 66 19 + h68_.2.1 73 x68_7 ≤ 400) (w68_3 : 0 ≤ h68_.2.1 73 x68_7) (w68_4 : 0 ≤ h68_.1 66 19), (h68_.2.1 73 x68_7 : Int) < n → mm_W x 0 0 68 [mR 66, mU, mU, mU, mU, mI ((20 * p4) + p3), mI ((20 * p2) + p1), mI x68_7, mU] [] h68_ := by
          intro n
          induction n with
          | zero =>
            intro x68_7 bx68_7 h68_ i68_ f68_ w68_0 w68_1 w68_2 w68_3 w68_4 hm
            have g24 : -1 ≤ h68_.1 66 19 ∧ h68_.1 66 19 ≤ 400 := i68_.1 66 19
            have g25 : 1 ≤ h68_.1 66 1 ∧ h68_.1 66 1 ≤ 20 := i68_.1 66 1
            have g26 : 1 ≤ h68_.1 66 2 ∧ h68_.1 66 2 ≤ 20 := i68_.1 66 2
            exfalso; omega
          | succ n ih68 =>
            intro x68_7 bx68_7 h68_ i68_ f68_ w68_0 w68_1 w68_2 w68_3 w68_4 hm68
            have g27 : -1 ≤ h68_.1 66 19 ∧ h68_.1 66 19 ≤ 400 := i68_.1 66 19
            have g28 : 1 ≤ h68_.1 66 1 ∧ h68_.1 66 1 ≤ 20 := i68_.1 66 1
            have g29 : 1 ≤ h68_.1 66 2 ∧ h68_.1 66 2 ≤ 20 := i68_.1 66 2
            have g30 : h68_.1 66 1 = h.1 66 1 := f68_.1 66 1 (by decide)
            have g31 : h68_.1 66 2 = h.1 66 2 := f68_.1 66 2 (by decide)
            refine mm_iload C (mm_dec dk_X12_way 40 rfl) rfl ?_
            refine mm_iload C (mm_dec dk_X12_way 41 rfl) rfl ?_
            refine mm_icmp_eq (tgt := 117) C (mm_dec dk_X12_way 42 rfl) (by decide) (fun c72 => ?_) (fun c72 => ?_)
            · skip
              refine mm_aload_n C (mm_dec dk_X12_way 65 rfl) rfl ?_
              refine mm_getr (t := 72) C fl_X12_26 (mm_dec dk_X12_way 66 rfl) rfl rfl (mm_ref i68_ rfl) ?_
              refine mm_iload C (mm_dec dk_X12_way 67 rfl) rfl ?_
              refine mm_iald C (mm_dec dk_X12_way 68 rfl) rfl (by omega) (by omega) ?_
              have g32 : 0 ≤ (h68_.2.1 72 ((20 * p2) + p1)) ∧ (h68_.2.1 72 ((20 * p2) + p1)) ≤ 1000000000 := i68_.2.1 72 ((20 * p2) + p1)
              exact mm_iret C T (mm_dec dk_X12_way 69 rfl) (by decide : 0 ≤ 0) (by decide : 0 ≤ 0) ⟨_, rfl, ⟨⟨by omega, by omega⟩, i68_, f68_⟩⟩
            · skip
              refine mm_aload_n C (mm_dec dk_X12_way 43 rfl) rfl ?_
              refine mm_iload C (mm_dec dk_X12_way 44 rfl) rfl ?_
              refine mm_cVi (rest := []) C1 ev_X12_284 (mm_dec dk_X12_way 45 rfl) (c_X12_firstMove_x x.2.1 hl (d - 1) (by omega) h68_ i68_ x68_7 ⟨by omega, by omega⟩) rfl rfl (Nat.le_of_ble_eq_true rfl) ⟨by decide, by decide⟩ rfl (fun r78 h78c hp78 => ?_) (fun _ _ q => q.elim)
              obtain ⟨b78, z78, y78_0⟩ := hp78
              rw [z78]
              obtain ⟨zL, zd⟩ := w68_0
              obtain ⟨zr, zf⟩ := mm_fm_ex zd ⟨by omega, by omega⟩ (by omega) (by omega) y78_0
              have za := zf.1
              have zb := zf.2.1
              have zc := zf.2.2
              have zs := mm_sec_pos i68_ rfl za
              have zg : (0 : Int) ≤ h68_.2.1 73 (mm_lea h68_ x68_7 r78) ∧ h68_.2.1 73 (mm_lea h68_ x68_7 r78) ≤ 400 := i68_.2.1 73 _
              have zh : (0 : Int) ≤ h68_.2.1 72 (mm_lea h68_ x68_7 r78) ∧ h68_.2.1 72 (mm_lea h68_ x68_7 r78) ≤ 1000000000 := i68_.2.1 72 _
              refine mm_istoreL (ls2 := [mR 66, mU, mU, mU, mU, mI ((20 * p4) + p3), mI ((20 * p2) + p1), mI x68_7, mI r78]) C (mm_dec dk_X12_way 46 rfl) (by decide) rfl ?_
              refine mm_aload_n C (mm_dec dk_X12_way 47 rfl) rfl ?_
              refine mm_getr (t := 77) C fl_X12_42 (mm_dec dk_X12_way 48 rfl) rfl rfl (mm_ref i68_ rfl) ?_
              refine mm_aload_n C (mm_dec dk_X12_way 49 rfl) rfl ?_
              refine mm_geti C fl_X12_213 (mm_dec dk_X12_way 50 rfl) rfl rfl (Or.inl rfl) ?_
              refine mm_iload C (mm_dec dk_X12_way 51 rfl) rfl ?_
              refine mm_iast C (mm_dec dk_X12_way 52 rfl) rfl (by omega) (by omega) ?_
              have i5 : mm_inv (mm_pa h68_ 77 (h68_.1 66 19) r78) := mm_inv_pa i68_ (show -2147483648 ≤ r78 ∧ r78 ≤ 2147483647 from ⟨by omega, by omega⟩)
              have f5 : mm_fr [(66, 0), (66, 18), (66, 19)] [72, 73, 75, 76, 77] h (mm_pa h68_ 77 (h68_.1 66 19) r78) := mm_fr_pa f68_ (by decide)
              obtain ⟨h5, eh5⟩ : ∃ z, z = mm_pa h68_ 77 (h68_.1 66 19) r78 := ⟨_, rfl⟩
              rw [← eh5] at i5 f5 ⊢
              have qh5_34 : h5.1 66 1 = h68_.1 66 1 := by rw [eh5]; rfl
              have qh5_35 : h5.1 66 2 = h68_.1 66 2 := by rw [eh5]; rfl
              have qh5_36 : h5.1 66 19 = h68_.1 66 19 := by rw [eh5]; rfl
              refine mm_aload_n C (mm_dec dk_X12_way 53 rfl) rfl ?_
              refine mm_dup C (mm_dec dk_X12_way 54 rfl) (show (2 : Nat) ≠ 1 by decide) ?_
              refine mm_geti C fl_X12_213 (mm_dec dk_X12_way 55 rfl) rfl rfl (Or.inl rfl) ?_
              refine mm_iconst C (mm_dec dk_X12_way 56 rfl) ⟨by decide, by decide⟩ ?_
              refine mm_iadd C (mm_dec dk_X12_way 57 rfl) ⟨by omega, by omega⟩ ?_
              refine mm_puti C fl_X12_213 (mm_dec dk_X12_way 58 rfl) rfl rfl rfl (Or.inl ⟨rfl, rfl⟩) ?_
              have i6 : mm_inv (mm_pf h5 66 19 ((h5.1 66 19) + 1)) := mm_inv_pf i5 (show -1 ≤ ((h5.1 66 19) + 1) ∧ ((h5.1 66 19) + 1) ≤ 400 from ⟨by omega, by omega⟩) (by decide)
              have f6 : mm_fr [(66, 0), (66, 18), (66, 19)] [72, 73, 75, 76, 77] h (mm_pf h5 66 19 ((h5.1 66 19) + 1)) := mm_fr_pf f5 (by decide)
              obtain ⟨h6, eh6⟩ : ∃ z, z = mm_pf h5 66 19 ((h5.1 66 19) + 1) := ⟨_, rfl⟩
              rw [← eh6] at i6 f6 ⊢
              have qh6 : h6.1 66 19 = ((h5.1 66 19) + 1) := by rw [eh6]; exact mm_pf_same _ _ _ _
              have qh6_37 : h6.1 66 1 = h5.1 66 1 := by rw [eh6]; exact mm_pf_ne _ _ (by decide)
              have qh6_38 : h6.1 66 2 = h5.1 66 2 := by rw [eh6]; exact mm_pf_ne _ _ (by decide)
              have zlnd : mm_lnd h68_ h6 := by rw [eh6, eh5]; exact mm_lnd_kept
              refine mm_aload_n C (mm_dec dk_X12_way 59 rfl) rfl ?_
              refine mm_iload C (mm_dec dk_X12_way 60 rfl) rfl ?_
              refine mm_iload C (mm_dec dk_X12_way 61 rfl) rfl ?_
              refine mm_cVi (rest := []) C1 ev_X12_271 (mm_dec dk_X12_way 62 rfl) (c_X12_leads_x x.2.1 hl (d - 1) (by omega) h6 i6 x68_7 r78 ⟨by omega, by omega⟩) rfl rfl (Nat.le_of_ble_eq_true rfl) ⟨by decide, by decide⟩ rfl (fun r109 h109c hp109 => ?_) (fun _ _ q => q.elim)
              obtain ⟨b109, z109, y109_0⟩ := hp109
              rw [z109]
              have zr9 : r109 = mm_lea h68_ x68_7 r78 := by rw [y109_0]; exact mm_lea_fr zlnd _ _
              rw [← zr9] at za zb zc zs zg zh
              have zv : h6.2.1 72 r109 = h68_.2.1 72 r109 := by rw [eh6, eh5]; exact mm_arr_kept 72 (by decide) _
              have zu : h6.2.1 73 r109 = h68_.2.1 73 r109 := by rw [eh6, eh5]; exact mm_arr_kept 73 (by decide) _
              have zt : mm_dij h6 ((20 * p4) + p3) zL := by rw [eh6, eh5]; exact mm_dij_fr zd mm_lnd_kept (mm_arr_kept 72 (by decide)) (mm_arr_kept 73 (by decide)) (mm_arr_kept 76 (by decide))
              refine mm_istoreL (ls2 := [mR 66, mU, mU, mU, mU, mI ((20 * p4) + p3), mI ((20 * p2) + p1), mI r109, mI r78]) C (mm_dec dk_X12_way 63 rfl) (by decide) rfl ?_
              refine mm_goto (tgt := 68) C (mm_dec dk_X12_way 64 rfl) (by decide) ?_
              refine mm_fgt 8 ?_
              exact ih68 r109 ⟨by omega, by omega⟩ h6 i6 f6 (by first | exact ⟨_, zt⟩ | (obtain ⟨L, q⟩ := y41_0; exact ⟨L, by rw [eh6]; exact mm_dij_fr q ⟨mm_pf_ne _ _ (by decide), mm_pf_ne _ _ (by decide), mm_pf_ne _ _ (by decide), fun _ => rfl, fun _ => rfl, fun _ => rfl, fun _ => rfl, fun _ => rfl⟩ (fun _ => rfl) (fun _ => rfl) (fun _ => rfl)⟩)) (by omega) (by omega) (by omega) (by omega) (by omega)
        refine mm_istoreL (ls2 := [mR 66, mI p1, mI p2, mI p3, mI p4, mI ((20 * p4) + p3), mI ((20 * p2) + p1), mI ((20 * p2) + p1), mU]) C (mm_dec dk_X12_way 39 rfl) (by decide) rfl ?_
        refine mm_fgt 1 ?_
        refine mm_fgt 2 ?_
        refine mm_fgt 3 ?_
        refine mm_fgt 4 ?_
        exact J68 (((h4.2.1 73 ((20 * p2) + p1)) : Int) + 1).toNat ((20 * p2) + p1) ⟨by omega, by omega⟩ h4 i4 f4 (by first | exact ⟨_, zt⟩ | (obtain ⟨L, q⟩ := y41_0; exact ⟨L, by rw [eh4]; exact mm_dij_fr q ⟨mm_pf_ne _ _ (by decide), mm_pf_ne _ _ (by decide), mm_pf_ne _ _ (by decide), fun _ => rfl, fun _ => rfl, fun _ => rfl, fun _ => rfl, fun _ => rfl⟩ (fun _ => rfl) (fun _ => rfl) (fun _ => rfl)⟩)) (by omega) (by omega) (by omega) (by omega) (by omega)
      · skip
        refine mm_iconst C (mm_dec dk_X12_way 33 rfl) ⟨by decide, by decide⟩ ?_
        exact mm_iret C T (mm_dec dk_X12_way 34 rfl) (by decide : 0 ≤ 0) (by decide : 0 ≤ 0) ⟨_, rfl, ⟨⟨by omega, by omega⟩, i41c, f41c⟩⟩
    · skip
      refine mm_fgt 0 ?_
      refine mm_fgt 1 ?_
      refine mm_fgt 2 ?_
      refine mm_fgt 3 ?_
      refine mm_fgt 4 ?_
      exact J19 h13c i13c f13c
set_option maxRecDepth 100000 in
set_option maxHeartbeats 4000000 in
theorem c_X12_many (l : Launch) (hl : l.stackTraces = false) (d : Nat) (hd : 3 ≤ d) (h : mH) (i0 : mm_inv h) (p1 : Int) (p2 : Int) (p3 : Int) (p4 : Int) : mm_Met l d yX12_many cX12_many 5 (some .long) [mR 66, mI p1, mI p2, mI p3, mI p4] h (mm_pl fun r h2 => mm_inv h2 ∧ mm_fr [(66, 0), (66, 18)] [72, 73, 75, 76] h h2) mm_nx 0 0 := by
  refine mm_ofW (ls := [mR 66, mI p1, mI p2, mI p3, mI p4]) hl (by decide) rfl (Nat.le_of_ble_eq_true rfl) ?_
  intro x hxl C T hnm htb
  subst hxl
  have C1 := mm_OK_le (d' := d - 1 + 1) (by omega) C
  refine mm_rng (fun hr _ => ?_)
  have ap1 : -2147483648 ≤ p1 ∧ p1 < 2147483648 := mm_ok_at hr (i := 1) rfl
  have ap2 : -2147483648 ≤ p2 ∧ p2 < 2147483648 := mm_ok_at hr (i := 2) rfl
  have ap3 : -2147483648 ≤ p3 ∧ p3 < 2147483648 := mm_ok_at hr (i := 3) rfl
  have ap4 : -2147483648 ≤ p4 ∧ p4 < 2147483648 := mm_ok_at hr (i := 4) rfl
  have f0 : mm_fr [(66, 0), (66, 18)] [72, 73, 75, 76] h h := mm_fr_rf
  have g1 : 1 ≤ h.1 66 1 ∧ h.1 66 1 ≤ 20 := i0.1 66 1
  have g2 : 1 ≤ h.1 66 2 ∧ h.1 66 2 ≤ 20 := i0.1 66 2
  refine mm_aload_n C (mm_dec dk_X12_many 0 rfl) rfl ?_
  refine mm_iload_n C (mm_dec dk_X12_many 1 rfl) rfl ?_
  refine mm_iload_n C (mm_dec dk_X12_many 2 rfl) rfl ?_
  refine mm_cVi (rest := []) C1 ev_X12_255 (mm_dec dk_X12_many 3 rfl) (c_X12_isCell x.2.1 hl (d - 1) (by omega) h i0 p1 p2) rfl rfl (Nat.le_of_ble_eq_true rfl) ⟨by decide, by decide⟩ rfl (fun r3 h3c hp3 => ?_) (fun _ _ q => q.elim)
  obtain ⟨b3, i3c, g3c, y3_0⟩ := hp3
  have f3c : mm_fr [(66, 0), (66, 18)] [72, 73, 75, 76] h h3c := mm_fr_tr f0 g3c (by decide +kernel)
  have q3c_4 : h3c.1 66 1 = h.1 66 1 := g3c.1 66 1 (by decide)
  have q3c_5 : h3c.1 66 2 = h.1 66 2 := g3c.1 66 2 (by decide)
  have J19 : ∀ (h19_ : mH) (i19_ : mm_inv h19_) (f19_ : mm_fr [(66, 0), (66, 18)] [72, 73, 75, 76] h h19_), mm_W x 0 0 19 [mU, mU, mU, mU, mU] [] h19_ := by
    intro h19_ i19_ f19_
    have g6 : 1 ≤ h19_.1 66 1 ∧ h19_.1 66 1 ≤ 20 := i19_.1 66 1
    have g7 : 1 ≤ h19_.1 66 2 ∧ h19_.1 66 2 ≤ 20 := i19_.1 66 2
    have g8 : h19_.1 66 1 = h.1 66 1 := f19_.1 66 1 (by decide)
    have g9 : h19_.1 66 2 = h.1 66 2 := f19_.1 66 2 (by decide)
    refine mm_lconst (z := 0) C (mm_dec dk_X12_many 10 rfl) rfl ?_
    exact mm_lret C T (mm_dec dk_X12_many 11 rfl) (by decide : 0 ≤ 0) (by decide : 0 ≤ 0) ⟨_, rfl, ⟨i19_, f19_⟩⟩
  refine mm_if_eq (tgt := 19) C (mm_dec dk_X12_many 4 rfl) (by decide) (fun c6 => ?_) (fun c6 => ?_)
  · skip
    refine mm_fgt 0 ?_
    refine mm_fgt 1 ?_
    refine mm_fgt 2 ?_
    refine mm_fgt 3 ?_
    refine mm_fgt 4 ?_
    exact J19 h3c i3c f3c
  · skip
    refine mm_aload_n C (mm_dec dk_X12_many 5 rfl) rfl ?_
    refine mm_iload_n C (mm_dec dk_X12_many 6 rfl) rfl ?_
    refine mm_iload C (mm_dec dk_X12_many 7 rfl) rfl ?_
    refine mm_cVi (rest := []) C1 ev_X12_247 (mm_dec dk_X12_many 8 rfl) (c_X12_inside x.2.1 hl (d - 1) (by omega) h3c i3c p3 p4) rfl rfl (Nat.le_of_ble_eq_true rfl) ⟨by decide, by decide⟩ rfl (fun r13 h13c hp13 => ?_) (fun _ _ q => q.elim)
    obtain ⟨b13, i13c, g13c, y13_0⟩ := hp13
    have f13c : mm_fr [(66, 0), (66, 18)] [72, 73, 75, 76] h h13c := mm_fr_tr f3c g13c (by decide +kernel)
    have q13c_11 : h13c.1 66 1 = h3c.1 66 1 := g13c.1 66 1 (by decide)
    have q13c_12 : h13c.1 66 2 = h3c.1 66 2 := g13c.1 66 2 (by decide)
    refine mm_if_ne (tgt := 21) C (mm_dec dk_X12_many 9 rfl) (by decide) (fun c16 => ?_) (fun c16 => ?_)
    · skip
      refine mm_aload_n C (mm_dec dk_X12_many 12 rfl) rfl ?_
      refine mm_bipush C (mm_dec dk_X12_many 13 rfl) ⟨by decide, by decide⟩ ?_
      refine mm_iload C (mm_dec dk_X12_many 14 rfl) rfl ?_
      refine mm_imul C (mm_dec dk_X12_many 15 rfl) ⟨by omega, by omega⟩ ?_
      refine mm_iload_n C (mm_dec dk_X12_many 16 rfl) rfl ?_
      refine mm_iadd C (mm_dec dk_X12_many 17 rfl) ⟨by omega, by omega⟩ ?_
      refine mm_cVv (rest := []) C1 ev_X12_280 (mm_dec dk_X12_many 18 rfl) (c_X12_towards x.2.1 hl (d - 1) (by omega) h13c i13c ((20 * p4) + p3) ⟨by omega, by omega⟩) rfl rfl (Nat.le_of_ble_eq_true rfl) ⟨by decide, by decide⟩ rfl (fun h29c hp29 => ?_) (fun _ _ q => q.elim)
      obtain ⟨i29c, g29c, y29_0⟩ := hp29
      have f29c : mm_fr [(66, 0), (66, 18)] [72, 73, 75, 76] h h29c := mm_fr_tr f13c g29c (by decide +kernel)
      have q29c_14 : h29c.1 66 1 = h13c.1 66 1 := g29c.1 66 1 (by decide)
      have q29c_15 : h29c.1 66 2 = h13c.1 66 2 := g29c.1 66 2 (by decide)
      refine mm_aload_n C (mm_dec dk_X12_many 19 rfl) rfl ?_
      refine mm_getr (t := 72) C fl_X12_26 (mm_dec dk_X12_many 20 rfl) rfl rfl (mm_ref i29c rfl) ?_
      refine mm_bipush C (mm_dec dk_X12_many 21 rfl) ⟨by decide, by decide⟩ ?_
      refine mm_iload_n C (mm_dec dk_X12_many 22 rfl) rfl ?_
      refine mm_imul C (mm_dec dk_X12_many 23 rfl) ⟨by omega, by omega⟩ ?_
      refine mm_iload_n C (mm_dec dk_X12_many 24 rfl) rfl ?_
      refine mm_iadd C (mm_dec dk_X12_many 25 rfl) ⟨by omega, by omega⟩ ?_
      refine mm_iald C (mm_dec dk_X12_many 26 rfl) rfl (by omega) (by omega) ?_
      have g16 : 0 ≤ (h29c.2.1 72 ((20 * p2) + p1)) ∧ (h29c.2.1 72 ((20 * p2) + p1)) ≤ 1000000000 := i29c.2.1 72 ((20 * p2) + p1)
      refine mm_ldcw (z := 1000000000) C (mm_dec dk_X12_many 27 rfl) kc_X12_258 (by decide) ?_
      have J64 : ∀ (s64_0 : Int) (bs64_0 : -9223372036854775808 ≤ s64_0 ∧ s64_0 < 9223372036854775808), mm_W x 0 0 64 [mU, mU, mU, mU, mU] [mL s64_0] h29c := by
        intro s64_0 bs64_0
        exact mm_lret C T (mm_dec dk_X12_many 39 rfl) (by decide : 0 ≤ 0) (by decide : 0 ≤ 0) ⟨_, rfl, ⟨i29c, f29c⟩⟩
      refine mm_icmp_ne (tgt := 53) C (mm_dec dk_X12_many 28 rfl) (by decide) (fun c46 => ?_) (fun c46 => ?_)
      · skip
        refine mm_aload_n C (mm_dec dk_X12_many 31 rfl) rfl ?_
        refine mm_getr (t := 75) C fl_X12_35 (mm_dec dk_X12_many 32 rfl) rfl rfl (mm_ref i29c rfl) ?_
        refine mm_bipush C (mm_dec dk_X12_many 33 rfl) ⟨by decide, by decide⟩ ?_
        refine mm_iload_n C (mm_dec dk_X12_many 34 rfl) rfl ?_
        refine mm_imul C (mm_dec dk_X12_many 35 rfl) ⟨by omega, by omega⟩ ?_
        refine mm_iload_n C (mm_dec dk_X12_many 36 rfl) rfl ?_
        refine mm_iadd C (mm_dec dk_X12_many 37 rfl) ⟨by omega, by omega⟩ ?_
        refine mm_lald C (mm_dec dk_X12_many 38 rfl) rfl (by omega) (by omega) ?_
        have g17 : -9223372036854775808 ≤ (h29c.2.1 75 ((20 * p2) + p1)) ∧ (h29c.2.1 75 ((20 * p2) + p1)) ≤ 9223372036854775807 := i29c.2.1 75 ((20 * p2) + p1)
        refine mm_fgt 0 ?_
        refine mm_fgt 1 ?_
        refine mm_fgt 2 ?_
        refine mm_fgt 3 ?_
        refine mm_fgt 4 ?_
        exact J64 (h29c.2.1 75 ((20 * p2) + p1)) ⟨by omega, by omega⟩
      · skip
        refine mm_lconst (z := 0) C (mm_dec dk_X12_many 29 rfl) rfl ?_
        refine mm_goto (tgt := 64) C (mm_dec dk_X12_many 30 rfl) (by decide) ?_
        refine mm_fgt 0 ?_
        refine mm_fgt 1 ?_
        refine mm_fgt 2 ?_
        refine mm_fgt 3 ?_
        refine mm_fgt 4 ?_
        exact J64 0 ⟨by omega, by omega⟩
    · skip
      refine mm_fgt 0 ?_
      refine mm_fgt 1 ?_
      refine mm_fgt 2 ?_
      refine mm_fgt 3 ?_
      refine mm_fgt 4 ?_
      exact J19 h13c i13c f13c
set_option maxRecDepth 100000 in
set_option maxHeartbeats 4000000 in
theorem c_X12_between (l : Launch) (hl : l.stackTraces = false) (d : Nat) (hd : 3 ≤ d) (h : mH) (i0 : mm_inv h) (p1 : Int) (p2 : Int) (bp1 : 0 ≤ p1 ∧ p1 ≤ 399) (bp2 : 0 ≤ p2 ∧ p2 ≤ 399) : mm_Met l d yX12_between cX12_between 3 (some .int) [mR 66, mI p1, mI p2] h (mm_pi fun r h2 => (-1 ≤ r ∧ r ≤ 999999999) ∧ mm_inv h2 ∧ mm_fr [(66, 18)] [72, 73, 75, 76] h h2) mm_nx 0 0 := by
  refine mm_ofW (ls := [mR 66, mI p1, mI p2]) hl (by decide) rfl (Nat.le_of_ble_eq_true rfl) ?_
  intro x hxl C T hnm htb
  subst hxl
  have C1 := mm_OK_le (d' := d - 1 + 1) (by omega) C
  refine mm_rng (fun hr _ => ?_)
  have ap1 : -2147483648 ≤ p1 ∧ p1 < 2147483648 := mm_ok_at hr (i := 1) rfl
  have ap2 : -2147483648 ≤ p2 ∧ p2 < 2147483648 := mm_ok_at hr (i := 2) rfl
  have f0 : mm_fr [(66, 18)] [72, 73, 75, 76] h h := mm_fr_rf
  refine mm_aload_n C (mm_dec dk_X12_between 0 rfl) rfl ?_
  refine mm_iload_n C (mm_dec dk_X12_between 1 rfl) rfl ?_
  refine mm_cVv (rest := []) C1 ev_X12_280 (mm_dec dk_X12_between 2 rfl) (c_X12_towards x.2.1 hl (d - 1) (by omega) h i0 p2 ⟨by omega, by omega⟩) rfl rfl (Nat.le_of_ble_eq_true rfl) ⟨by decide, by decide⟩ rfl (fun h2c hp2 => ?_) (fun _ _ q => q.elim)
  obtain ⟨i2c, g2c, y2_0⟩ := hp2
  have f2c : mm_fr [(66, 18)] [72, 73, 75, 76] h h2c := mm_fr_tr f0 g2c (by decide +kernel)
  refine mm_aload_n C (mm_dec dk_X12_between 3 rfl) rfl ?_
  refine mm_getr (t := 72) C fl_X12_26 (mm_dec dk_X12_between 4 rfl) rfl rfl (mm_ref i2c rfl) ?_
  refine mm_iload_n C (mm_dec dk_X12_between 5 rfl) rfl ?_
  refine mm_iald C (mm_dec dk_X12_between 6 rfl) rfl (by omega) (by omega) ?_
  have g2 : 0 ≤ (h2c.2.1 72 p1) ∧ (h2c.2.1 72 p1) ≤ 1000000000 := i2c.2.1 72 p1
  refine mm_ldcw (z := 1000000000) C (mm_dec dk_X12_between 7 rfl) kc_X12_258 (by decide) ?_
  have J27 : ∀ (s27_0 : Int) (bs27_0 : -1 ≤ s27_0 ∧ s27_0 ≤ 999999999), mm_W x 0 0 27 [mU, mU, mU] [mI s27_0] h2c := by
    intro s27_0 bs27_0
    exact mm_iret C T (mm_dec dk_X12_between 15 rfl) (by decide : 0 ≤ 0) (by decide : 0 ≤ 0) ⟨_, rfl, ⟨⟨by omega, by omega⟩, i2c, f2c⟩⟩
  refine mm_icmp_ne (tgt := 21) C (mm_dec dk_X12_between 8 rfl) (by decide) (fun c14 => ?_) (fun c14 => ?_)
  · skip
    refine mm_aload_n C (mm_dec dk_X12_between 11 rfl) rfl ?_
    refine mm_getr (t := 72) C fl_X12_26 (mm_dec dk_X12_between 12 rfl) rfl rfl (mm_ref i2c rfl) ?_
    refine mm_iload_n C (mm_dec dk_X12_between 13 rfl) rfl ?_
    refine mm_iald C (mm_dec dk_X12_between 14 rfl) rfl (by omega) (by omega) ?_
    refine mm_fgt 0 ?_
    refine mm_fgt 1 ?_
    refine mm_fgt 2 ?_
    exact J27 (h2c.2.1 72 p1) ⟨by omega, by omega⟩
  · skip
    refine mm_iconst C (mm_dec dk_X12_between 9 rfl) ⟨by decide, by decide⟩ ?_
    refine mm_goto (tgt := 27) C (mm_dec dk_X12_between 10 rfl) (by decide) ?_
    refine mm_fgt 0 ?_
    refine mm_fgt 1 ?_
    refine mm_fgt 2 ?_
    exact J27 (-1) ⟨by omega, by omega⟩
set_option maxRecDepth 100000 in
set_option maxHeartbeats 4000000 in
theorem c_X12_lengthOf (l : Launch) (hl : l.stackTraces = false) (d : Nat) (hd : 4 ≤ d) (h : mH) (i0 : mm_inv h) (p1 : Int) (bp1 : 0 ≤ p1 ∧ p1 ≤ 39) : mm_Met l d yX12_lengthOf cX12_lengthOf 7 (some .int) [mR 66, mI p1] h (mm_pi fun r h2 => (-2147483648 ≤ r ∧ r ≤ 2147483647) ∧ mm_inv h2 ∧ mm_fr [(66, 18), (66, 39)] [72, 73, 75, 76, 91] h h2) mm_nx 0 0 := by
  refine mm_ofW (ls := [mR 66, mI p1, mU, mU, mU, mU, mU]) hl (by decide) rfl (Nat.le_of_ble_eq_true rfl) ?_
  intro x hxl C T hnm htb
  subst hxl
  have C1 := mm_OK_le (d' := d - 1 + 1) (by omega) C
  refine mm_rng (fun hr _ => ?_)
  have ap1 : -2147483648 ≤ p1 ∧ p1 < 2147483648 := mm_ok_at hr (i := 1) rfl
  have f0 : mm_fr [(66, 18), (66, 39)] [72, 73, 75, 76, 91] h h := mm_fr_rf
  refine mm_aload_n C (mm_dec dk_X12_lengthOf 0 rfl) rfl ?_
  refine mm_iload_n C (mm_dec dk_X12_lengthOf 1 rfl) rfl ?_
  refine mm_cVv (rest := []) C1 ev_X12_302 (mm_dec dk_X12_lengthOf 2 rfl) (c_X12_rows x.2.1 hl (d - 1) (by omega) h i0 p1 ⟨by omega, by omega⟩) rfl rfl (Nat.le_of_ble_eq_true rfl) ⟨by decide, by decide⟩ rfl (fun h2c hp2 => ?_) (fun _ _ q => q.elim)
  obtain ⟨i2c, g2c⟩ := hp2
  have f2c : mm_fr [(66, 18), (66, 39)] [72, 73, 75, 76, 91] h h2c := mm_fr_tr f0 g2c (by decide +kernel)
  refine mm_bipush C (mm_dec dk_X12_lengthOf 3 rfl) ⟨by decide, by decide⟩ ?_
  refine mm_aload_n C (mm_dec dk_X12_lengthOf 4 rfl) rfl ?_
  refine mm_geti C fl_X12_204 (mm_dec dk_X12_lengthOf 5 rfl) rfl rfl (Or.inl rfl) ?_
  have g2 : 0 ≤ (h2c.1 66 10) ∧ (h2c.1 66 10) ≤ 19 := i2c.1 66 10
  refine mm_imul C (mm_dec dk_X12_lengthOf 6 rfl) ⟨by omega, by omega⟩ ?_
  refine mm_aload_n C (mm_dec dk_X12_lengthOf 7 rfl) rfl ?_
  refine mm_geti C fl_X12_201 (mm_dec dk_X12_lengthOf 8 rfl) rfl rfl (Or.inl rfl) ?_
  have g3 : 0 ≤ (h2c.1 66 9) ∧ (h2c.1 66 9) ≤ 19 := i2c.1 66 9
  refine mm_iadd C (mm_dec dk_X12_lengthOf 9 rfl) ⟨by omega, by omega⟩ ?_
  refine mm_istore_nL (ls2 := [mR 66, mI p1, mI ((20 * (h2c.1 66 10)) + (h2c.1 66 9)), mU, mU, mU, mU]) C (mm_dec dk_X12_lengthOf 10 rfl) (by decide) rfl ?_
  refine mm_iconst C (mm_dec dk_X12_lengthOf 11 rfl) ⟨by decide, by decide⟩ ?_
  refine mm_istore_nL (ls2 := [mR 66, mI p1, mI ((20 * (h2c.1 66 10)) + (h2c.1 66 9)), mI 0, mU, mU, mU]) C (mm_dec dk_X12_lengthOf 12 rfl) (by decide) rfl ?_
  refine mm_iconst C (mm_dec dk_X12_lengthOf 13 rfl) ⟨by decide, by decide⟩ ?_
  have J23 : ∀ (n : Nat) (x23_2 : Int) (bx23_2 : 0 ≤ x23_2 ∧ x23_2 ≤ 399) (x23_3 : Int) (bx23_3 : -2147483648 ≤ x23_3 ∧ x23_3 ≤ 2147483647) (x23_4 : Int) (bx23_4 : 0 ≤ x23_4 ∧ x23_4 ≤ 13) (h23_ : mH) (i23_ : mm_inv h23_) (f23_ : mm_fr [(66, 18), (66, 39)] [72, 73, 75, 76, 91] h h23_), (13 - x23_4 : Int) < n → mm_W x 0 0 23 [mR 66, mU, mI x23_2, mI x23_3, mI x23_4, mU, mU] [] h23_ := by
    intro n
    induction n with
    | zero =>
      intro x23_2 bx23_2 x23_3 bx23_3 x23_4 bx23_4 h23_ i23_ f23_ hm
      exfalso; omega
    | succ n ih23 =>
      intro x23_2 bx23_2 x23_3 bx23_3 x23_4 bx23_4 h23_ i23_ f23_ hm23
      refine mm_iload C (mm_dec dk_X12_lengthOf 15 rfl) rfl ?_
      refine mm_aload_n C (mm_dec dk_X12_lengthOf 16 rfl) rfl ?_
      refine mm_geti C fl_X12_296 (mm_dec dk_X12_lengthOf 17 rfl) rfl rfl (Or.inl rfl) ?_
      have g4 : 0 ≤ (h23_.1 66 39) ∧ (h23_.1 66 39) ≤ 12 := i23_.1 66 39
      refine mm_icmp_gt (tgt := 101) C (mm_dec dk_X12_lengthOf 18 rfl) (by decide) (fun c29 => ?_) (fun c29 => ?_)
      · skip
        refine mm_iload_n C (mm_dec dk_X12_lengthOf 57 rfl) rfl ?_
        exact mm_iret C T (mm_dec dk_X12_lengthOf 58 rfl) (by decide : 0 ≤ 0) (by decide : 0 ≤ 0) ⟨_, rfl, ⟨⟨by omega, by omega⟩, i23_, f23_⟩⟩
      · skip
        refine mm_iload C (mm_dec dk_X12_lengthOf 19 rfl) rfl ?_
        refine mm_aload_n C (mm_dec dk_X12_lengthOf 20 rfl) rfl ?_
        refine mm_geti C fl_X12_296 (mm_dec dk_X12_lengthOf 21 rfl) rfl rfl (Or.inl rfl) ?_
        have J68 : ∀ (s68_0 : Int) (bs68_0 : 0 ≤ s68_0 ∧ s68_0 ≤ 399), mm_W x 0 0 68 [mR 66, mU, mI x23_2, mI x23_3, mI x23_4, mU, mU] [mI s68_0] h23_ := by
          intro s68_0 bs68_0
          refine mm_istoreL (ls2 := [mR 66, mU, mI x23_2, mI x23_3, mI x23_4, mI s68_0, mU]) C (mm_dec dk_X12_lengthOf 38 rfl) (by decide) rfl ?_
          refine mm_aload_n C (mm_dec dk_X12_lengthOf 39 rfl) rfl ?_
          refine mm_iload_n C (mm_dec dk_X12_lengthOf 40 rfl) rfl ?_
          refine mm_iload C (mm_dec dk_X12_lengthOf 41 rfl) rfl ?_
          refine mm_cVi (rest := []) C1 ev_X12_305 (mm_dec dk_X12_lengthOf 42 rfl) (c_X12_between x.2.1 hl (d - 1) (by omega) h23_ i23_ x23_2 s68_0 ⟨by omega, by omega⟩ ⟨by omega, by omega⟩) rfl rfl (Nat.le_of_ble_eq_true rfl) ⟨by decide, by decide⟩ rfl (fun r74 h74c hp74 => ?_) (fun _ _ q => q.elim)
          obtain ⟨b74, i74c, g74c⟩ := hp74
          have f74c : mm_fr [(66, 18), (66, 39)] [72, 73, 75, 76, 91] h h74c := mm_fr_tr f23_ g74c (by decide +kernel)
          have q74c_6 : h74c.1 66 39 = h23_.1 66 39 := g74c.1 66 39 (by decide)
          refine mm_istoreL (ls2 := [mR 66, mU, mI x23_2, mI x23_3, mI x23_4, mI s68_0, mI r74]) C (mm_dec dk_X12_lengthOf 43 rfl) (by decide) rfl ?_
          refine mm_iload C (mm_dec dk_X12_lengthOf 44 rfl) rfl ?_
          refine mm_iconst C (mm_dec dk_X12_lengthOf 45 rfl) ⟨by decide, by decide⟩ ?_
          refine mm_icmp_ne (tgt := 87) C (mm_dec dk_X12_lengthOf 46 rfl) (by decide) (fun c82 => ?_) (fun c82 => ?_)
          · skip
            refine mm_iload_n C (mm_dec dk_X12_lengthOf 49 rfl) rfl ?_
            refine mm_iload C (mm_dec dk_X12_lengthOf 50 rfl) rfl ?_
            refine mm_iaddw C (mm_dec dk_X12_lengthOf 51 rfl) ?_
            have g7 : -2147483648 ≤ (mm_w (x23_3 + r74)) ∧ (mm_w (x23_3 + r74)) < 2147483648 := mm_w_rg _
            refine mm_istore_nL (ls2 := [mR 66, mU, mI x23_2, mI (mm_w (x23_3 + r74)), mI x23_4, mI s68_0, mI r74]) C (mm_dec dk_X12_lengthOf 52 rfl) (by decide) rfl ?_
            refine mm_iload C (mm_dec dk_X12_lengthOf 53 rfl) rfl ?_
            refine mm_istore_nL (ls2 := [mR 66, mU, mI s68_0, mI (mm_w (x23_3 + r74)), mI x23_4, mI s68_0, mI r74]) C (mm_dec dk_X12_lengthOf 54 rfl) (by decide) rfl ?_
            refine mm_iincL (ls2 := [mR 66, mU, mI s68_0, mI (mm_w (x23_3 + r74)), mI (x23_4 + 1), mI s68_0, mI r74]) C (mm_dec dk_X12_lengthOf 55 rfl) rfl (by decide) ⟨by omega, by omega⟩ rfl ?_
            refine mm_goto (tgt := 23) C (mm_dec dk_X12_lengthOf 56 rfl) (by decide) ?_
            refine mm_fgt 5 ?_
            refine mm_fgt 6 ?_
            exact ih23 s68_0 ⟨by omega, by omega⟩ (mm_w (x23_3 + r74)) ⟨by omega, by omega⟩ (x23_4 + 1) ⟨by omega, by omega⟩ h74c i74c f74c (by omega)
          · skip
            refine mm_iconst C (mm_dec dk_X12_lengthOf 47 rfl) ⟨by decide, by decide⟩ ?_
            exact mm_iret C T (mm_dec dk_X12_lengthOf 48 rfl) (by decide : 0 ≤ 0) (by decide : 0 ≤ 0) ⟨_, rfl, ⟨⟨by omega, by omega⟩, i74c, f74c⟩⟩
        refine mm_icmp_ge (tgt := 56) C (mm_dec dk_X12_lengthOf 22 rfl) (by decide) (fun c38 => ?_) (fun c38 => ?_)
        · skip
          refine mm_bipush C (mm_dec dk_X12_lengthOf 31 rfl) ⟨by decide, by decide⟩ ?_
          refine mm_aload_n C (mm_dec dk_X12_lengthOf 32 rfl) rfl ?_
          refine mm_geti C fl_X12_210 (mm_dec dk_X12_lengthOf 33 rfl) rfl rfl (Or.inl rfl) ?_
          have g8 : 0 ≤ (h23_.1 66 12) ∧ (h23_.1 66 12) ≤ 19 := i23_.1 66 12
          refine mm_imul C (mm_dec dk_X12_lengthOf 34 rfl) ⟨by omega, by omega⟩ ?_
          refine mm_aload_n C (mm_dec dk_X12_lengthOf 35 rfl) rfl ?_
          refine mm_geti C fl_X12_207 (mm_dec dk_X12_lengthOf 36 rfl) rfl rfl (Or.inl rfl) ?_
          have g9 : 0 ≤ (h23_.1 66 11) ∧ (h23_.1 66 11) ≤ 19 := i23_.1 66 11
          refine mm_iadd C (mm_dec dk_X12_lengthOf 37 rfl) ⟨by omega, by omega⟩ ?_
          exact J68 ((20 * (h23_.1 66 12)) + (h23_.1 66 11)) ⟨by omega, by omega⟩
        · skip
          refine mm_aload_n C (mm_dec dk_X12_lengthOf 23 rfl) rfl ?_
          refine mm_getr (t := 78) C fl_X12_45 (mm_dec dk_X12_lengthOf 24 rfl) rfl rfl (mm_ref i23_ rfl) ?_
          refine mm_aload_n C (mm_dec dk_X12_lengthOf 25 rfl) rfl ?_
          refine mm_getr (t := 91) C fl_X12_84 (mm_dec dk_X12_lengthOf 26 rfl) rfl rfl (mm_ref i23_ rfl) ?_
          refine mm_iload C (mm_dec dk_X12_lengthOf 27 rfl) rfl ?_
          refine mm_iald C (mm_dec dk_X12_lengthOf 28 rfl) rfl (by omega) (by omega) ?_
          have g10 : 0 ≤ (h23_.2.1 91 x23_4) ∧ (h23_.2.1 91 x23_4) ≤ 19 := i23_.2.1 91 x23_4
          refine mm_iald C (mm_dec dk_X12_lengthOf 29 rfl) rfl (by omega) (by omega) ?_
          have g11 : 0 ≤ (h23_.2.1 78 (h23_.2.1 91 x23_4)) ∧ (h23_.2.1 78 (h23_.2.1 91 x23_4)) ≤ 399 := i23_.2.1 78 (h23_.2.1 91 x23_4)
          refine mm_goto (tgt := 68) C (mm_dec dk_X12_lengthOf 30 rfl) (by decide) ?_
          exact J68 (h23_.2.1 78 (h23_.2.1 91 x23_4)) ⟨by omega, by omega⟩
  refine mm_istoreL (ls2 := [mR 66, mI p1, mI ((20 * (h2c.1 66 10)) + (h2c.1 66 9)), mI 0, mI 0, mU, mU]) C (mm_dec dk_X12_lengthOf 14 rfl) (by decide) rfl ?_
  refine mm_fgt 1 ?_
  exact J23 (((13 - 0) : Int) + 1).toNat ((20 * (h2c.1 66 10)) + (h2c.1 66 9)) ⟨by omega, by omega⟩ 0 ⟨by omega, by omega⟩ 0 ⟨by omega, by omega⟩ h2c i2c f2c (by omega)
set_option maxRecDepth 100000 in
set_option maxHeartbeats 4000000 in
theorem c_X12_row (l : Launch) (hl : l.stackTraces = false) (d : Nat) (hd : 5 ≤ d) (h : mH) (i0 : mm_inv h) (p1 : Int) (p2 : Int) : mm_Met l d yX12_row cX12_row 3 (some .int) [mR 66, mI p1, mI p2] h (mm_pi fun r h2 => (-2147483648 ≤ r ∧ r ≤ 2147483647) ∧ mm_inv h2 ∧ mm_fr [(66, 0), (66, 18), (66, 39)] [72, 73, 75, 76, 91] h h2) mm_nx 0 0 := by
  refine mm_ofW (ls := [mR 66, mI p1, mI p2]) hl (by decide) rfl (Nat.le_of_ble_eq_true rfl) ?_
  intro x hxl C T hnm htb
  subst hxl
  have C1 := mm_OK_le (d' := d - 1 + 1) (by omega) C
  refine mm_rng (fun hr _ => ?_)
  have ap1 : -2147483648 ≤ p1 ∧ p1 < 2147483648 := mm_ok_at hr (i := 1) rfl
  have ap2 : -2147483648 ≤ p2 ∧ p2 < 2147483648 := mm_ok_at hr (i := 2) rfl
  have f0 : mm_fr [(66, 0), (66, 18), (66, 39)] [72, 73, 75, 76, 91] h h := mm_fr_rf
  have g1 : 0 ≤ h.1 66 39 ∧ h.1 66 39 ≤ 12 := i0.1 66 39
  have g2 : 0 ≤ h.1 66 23 ∧ h.1 66 23 ≤ 40 := i0.1 66 23
  refine mm_aload_n C (mm_dec dk_X12_row 0 rfl) rfl ?_
  refine mm_iload_n C (mm_dec dk_X12_row 1 rfl) rfl ?_
  refine mm_cVi (rest := []) C1 ev_X12_308 (mm_dec dk_X12_row 2 rfl) (c_X12_isRunner x.2.1 hl (d - 1) (by omega) h i0 p1) rfl rfl (Nat.le_of_ble_eq_true rfl) ⟨by decide, by decide⟩ rfl (fun r2 h2c hp2 => ?_) (fun _ _ q => q.elim)
  obtain ⟨b2, i2c, g2c, y2_0⟩ := hp2
  have f2c : mm_fr [(66, 0), (66, 18), (66, 39)] [72, 73, 75, 76, 91] h h2c := mm_fr_tr f0 g2c (by decide +kernel)
  have q2c_4 : h2c.1 66 23 = h.1 66 23 := g2c.1 66 23 (by decide)
  have q2c_5 : h2c.1 66 39 = h.1 66 39 := g2c.1 66 39 (by decide)
  refine mm_if_ne (tgt := 10) C (mm_dec dk_X12_row 3 rfl) (by decide) (fun c5 => ?_) (fun c5 => ?_)
  · skip
    refine mm_aload_n C (mm_dec dk_X12_row 6 rfl) rfl ?_
    refine mm_iload_n C (mm_dec dk_X12_row 7 rfl) rfl ?_
    refine mm_cVv (rest := []) C1 ev_X12_302 (mm_dec dk_X12_row 8 rfl) (c_X12_rows x.2.1 hl (d - 1) (by omega) h2c i2c p1 ⟨by omega, by omega⟩) rfl rfl (Nat.le_of_ble_eq_true rfl) ⟨by decide, by decide⟩ rfl (fun h12c hp12 => ?_) (fun _ _ q => q.elim)
    obtain ⟨i12c, g12c⟩ := hp12
    have f12c : mm_fr [(66, 0), (66, 18), (66, 39)] [72, 73, 75, 76, 91] h h12c := mm_fr_tr f2c g12c (by decide +kernel)
    have q12c_7 : h12c.1 66 23 = h2c.1 66 23 := g12c.1 66 23 (by decide)
    have g8 : 0 ≤ (h12c.1 66 39) ∧ (h12c.1 66 39) ≤ 12 := i12c.1 66 39
    refine mm_aload_n C (mm_dec dk_X12_row 9 rfl) rfl ?_
    refine mm_iload_n C (mm_dec dk_X12_row 10 rfl) rfl ?_
    refine mm_iconst C (mm_dec dk_X12_row 11 rfl) ⟨by decide, by decide⟩ ?_
    have J40 : ∀ (s40_1 : Int) (bs40_1 : 0 ≤ s40_1 ∧ s40_1 ≤ 1) (w40_0 : (s40_1 = 0 ∨ (-1 ≤ p2 ∧ p2 < h12c.1 66 39) ∨ p2 = 100)) (vs40_1 : (p2 ≠ 100 ∧ s40_1 = 0) ∨ (s40_1 = 1)), mm_W x 0 0 40 [mR 66, mI p1, mI p2] [mI s40_1, mR 66] h12c := by
      intro s40_1 bs40_1 w40_0 vs40_1
      refine mm_iconst C (mm_dec dk_X12_row 23 rfl) ⟨by decide, by decide⟩ ?_
      refine mm_cVi (rest := []) C1 ev_X12_251 (mm_dec dk_X12_row 24 rfl) (c_X12_right x.2.1 hl (d - 1) (by omega) h12c i12c s40_1 1 ⟨by omega, by omega⟩ (by omega)) rfl rfl (Nat.le_of_ble_eq_true rfl) ⟨by decide, by decide⟩ rfl (fun r41 h41c hp41 => ?_) (fun _ _ q => q.elim)
      obtain ⟨b41, i41c, g41c, y41_0⟩ := hp41
      have f41c : mm_fr [(66, 0), (66, 18), (66, 39)] [72, 73, 75, 76, 91] h h41c := mm_fr_tr f12c g41c (by decide +kernel)
      have q41c_10 : h41c.1 66 23 = h12c.1 66 23 := g41c.1 66 23 (by decide)
      have q41c_11 : h41c.1 66 39 = h12c.1 66 39 := g41c.1 66 39 (by decide)
      refine mm_if_ne (tgt := 49) C (mm_dec dk_X12_row 25 rfl) (by decide) (fun c44 => ?_) (fun c44 => ?_)
      · skip
        refine mm_iload_n C (mm_dec dk_X12_row 28 rfl) rfl ?_
        refine mm_iconst C (mm_dec dk_X12_row 29 rfl) ⟨by decide, by decide⟩ ?_
        have J81 : ∀ (s81_0 : Int) (bs81_0 : -2147483648 ≤ s81_0 ∧ s81_0 ≤ 2147483647) (h81_ : mH) (i81_ : mm_inv h81_) (f81_ : mm_fr [(66, 0), (66, 18), (66, 39)] [72, 73, 75, 76, 91] h h81_), mm_W x 0 0 81 [mU, mU, mU] [mI s81_0] h81_ := by
          intro s81_0 bs81_0 h81_ i81_ f81_
          have g12 : 0 ≤ h81_.1 66 39 ∧ h81_.1 66 39 ≤ 12 := i81_.1 66 39
          have g13 : 0 ≤ h81_.1 66 23 ∧ h81_.1 66 23 ≤ 40 := i81_.1 66 23
          have g14 : h81_.1 66 23 = h.1 66 23 := f81_.1 66 23 (by decide)
          exact mm_iret C T (mm_dec dk_X12_row 45 rfl) (by decide : 0 ≤ 0) (by decide : 0 ≤ 0) ⟨_, rfl, ⟨⟨by omega, by omega⟩, i81_, f81_⟩⟩
        refine mm_icmp_ne (tgt := 61) C (mm_dec dk_X12_row 30 rfl) (by decide) (fun c51 => ?_) (fun c51 => ?_)
        · skip
          refine mm_iload_n C (mm_dec dk_X12_row 34 rfl) rfl ?_
          refine mm_bipush C (mm_dec dk_X12_row 35 rfl) ⟨by decide, by decide⟩ ?_
          refine mm_icmp_ne (tgt := 75) C (mm_dec dk_X12_row 36 rfl) (by decide) (fun c64 => ?_) (fun c64 => ?_)
          · skip
            refine mm_aload_n C (mm_dec dk_X12_row 41 rfl) rfl ?_
            refine mm_getr (t := 91) C fl_X12_84 (mm_dec dk_X12_row 42 rfl) rfl rfl (mm_ref i41c rfl) ?_
            refine mm_iload_n C (mm_dec dk_X12_row 43 rfl) rfl ?_
            refine mm_iald C (mm_dec dk_X12_row 44 rfl) rfl (by omega) (by omega) ?_
            have g15 : 0 ≤ (h41c.2.1 91 p2) ∧ (h41c.2.1 91 p2) ≤ 19 := i41c.2.1 91 p2
            refine mm_fgt 0 ?_
            refine mm_fgt 1 ?_
            refine mm_fgt 2 ?_
            exact J81 (h41c.2.1 91 p2) ⟨by omega, by omega⟩ h41c i41c f41c
          · skip
            refine mm_aload_n C (mm_dec dk_X12_row 37 rfl) rfl ?_
            refine mm_iload_n C (mm_dec dk_X12_row 38 rfl) rfl ?_
            refine mm_cVi (rest := []) C1 ev_X12_311 (mm_dec dk_X12_row 39 rfl) (c_X12_lengthOf x.2.1 hl (d - 1) (by omega) h41c i41c p1 ⟨by omega, by omega⟩) rfl rfl (Nat.le_of_ble_eq_true rfl) ⟨by decide, by decide⟩ rfl (fun r69 h69c hp69 => ?_) (fun _ _ q => q.elim)
            obtain ⟨b69, i69c, g69c⟩ := hp69
            have f69c : mm_fr [(66, 0), (66, 18), (66, 39)] [72, 73, 75, 76, 91] h h69c := mm_fr_tr f41c g69c (by decide +kernel)
            have q69c_17 : h69c.1 66 23 = h41c.1 66 23 := g69c.1 66 23 (by decide)
            have g18 : 0 ≤ (h69c.1 66 39) ∧ (h69c.1 66 39) ≤ 12 := i69c.1 66 39
            refine mm_goto (tgt := 81) C (mm_dec dk_X12_row 40 rfl) (by decide) ?_
            refine mm_fgt 0 ?_
            refine mm_fgt 1 ?_
            refine mm_fgt 2 ?_
            exact J81 r69 ⟨by omega, by omega⟩ h69c i69c f69c
        · skip
          refine mm_aload_n C (mm_dec dk_X12_row 31 rfl) rfl ?_
          refine mm_geti C fl_X12_296 (mm_dec dk_X12_row 32 rfl) rfl rfl (Or.inl rfl) ?_
          refine mm_goto (tgt := 81) C (mm_dec dk_X12_row 33 rfl) (by decide) ?_
          refine mm_fgt 0 ?_
          refine mm_fgt 1 ?_
          refine mm_fgt 2 ?_
          exact J81 (h41c.1 66 39) ⟨by omega, by omega⟩ h41c i41c f41c
      · skip
        refine mm_iconst C (mm_dec dk_X12_row 26 rfl) ⟨by decide, by decide⟩ ?_
        exact mm_iret C T (mm_dec dk_X12_row 27 rfl) (by decide : 0 ≤ 0) (by decide : 0 ≤ 0) ⟨_, rfl, ⟨⟨by omega, by omega⟩, i41c, f41c⟩⟩
    have J35 : ∀ (w35_0 : ((-1 ≤ p2 ∧ p2 < h12c.1 66 39) ∨ p2 = 100)), mm_W x 0 0 35 [mR 66, mI p1, mI p2] [mR 66] h12c := by
      intro w35_0
      refine mm_iconst C (mm_dec dk_X12_row 20 rfl) ⟨by decide, by decide⟩ ?_
      refine mm_goto (tgt := 40) C (mm_dec dk_X12_row 21 rfl) (by decide) ?_
      exact J40 1 ⟨by omega, by omega⟩ (by omega) (Or.inr (rfl))
    have J29 : mm_W x 0 0 29 [mR 66, mI p1, mI p2] [mR 66] h12c := by
      refine mm_iload_n C (mm_dec dk_X12_row 17 rfl) rfl ?_
      refine mm_bipush C (mm_dec dk_X12_row 18 rfl) ⟨by decide, by decide⟩ ?_
      refine mm_icmp_ne (tgt := 39) C (mm_dec dk_X12_row 19 rfl) (by decide) (fun c32 => ?_) (fun c32 => ?_)
      · skip
        refine mm_iconst C (mm_dec dk_X12_row 22 rfl) ⟨by decide, by decide⟩ ?_
        exact J40 0 ⟨by omega, by omega⟩ (by omega) (Or.inl ⟨by omega, rfl⟩)
      · skip
        exact J35 (by omega)
    refine mm_icmp_lt (tgt := 29) C (mm_dec dk_X12_row 12 rfl) (by decide) (fun c18 => ?_) (fun c18 => ?_)
    · skip
      exact J29
    · skip
      refine mm_iload_n C (mm_dec dk_X12_row 13 rfl) rfl ?_
      refine mm_aload_n C (mm_dec dk_X12_row 14 rfl) rfl ?_
      refine mm_geti C fl_X12_296 (mm_dec dk_X12_row 15 rfl) rfl rfl (Or.inl rfl) ?_
      refine mm_icmp_lt (tgt := 35) C (mm_dec dk_X12_row 16 rfl) (by decide) (fun c26 => ?_) (fun c26 => ?_)
      · skip
        exact J35 (by omega)
      · skip
        exact J29
  · skip
    refine mm_iconst C (mm_dec dk_X12_row 4 rfl) ⟨by decide, by decide⟩ ?_
    exact mm_iret C T (mm_dec dk_X12_row 5 rfl) (by decide : 0 ≤ 0) (by decide : 0 ≤ 0) ⟨_, rfl, ⟨⟨by omega, by omega⟩, i2c, f2c⟩⟩
set_option maxRecDepth 100000 in
set_option maxHeartbeats 4000000 in
theorem c_X12_lost (l : Launch) (hl : l.stackTraces = false) (d : Nat) (hd : 5 ≤ d) (h : mH) (i0 : mm_inv h) (p1 : Int) : mm_Met l d yX12_lost cX12_lost 3 (some .int) [mR 66, mI p1] h (mm_pi fun r h2 => (-2147483648 ≤ r ∧ r ≤ 2147483647) ∧ mm_inv h2 ∧ mm_fr [(66, 0), (66, 18), (66, 39)] [72, 73, 75, 76, 91] h h2) mm_nx 0 0 := by
  refine mm_ofW (ls := [mR 66, mI p1, mU]) hl (by decide) rfl (Nat.le_of_ble_eq_true rfl) ?_
  intro x hxl C T hnm htb
  subst hxl
  have C1 := mm_OK_le (d' := d - 1 + 1) (by omega) C
  refine mm_rng (fun hr _ => ?_)
  have ap1 : -2147483648 ≤ p1 ∧ p1 < 2147483648 := mm_ok_at hr (i := 1) rfl
  have f0 : mm_fr [(66, 0), (66, 18), (66, 39)] [72, 73, 75, 76, 91] h h := mm_fr_rf
  have g1 : 0 ≤ h.1 66 23 ∧ h.1 66 23 ≤ 40 := i0.1 66 23
  refine mm_aload_n C (mm_dec dk_X12_lost 0 rfl) rfl ?_
  refine mm_iload_n C (mm_dec dk_X12_lost 1 rfl) rfl ?_
  refine mm_cVi (rest := []) C1 ev_X12_308 (mm_dec dk_X12_lost 2 rfl) (c_X12_isRunner x.2.1 hl (d - 1) (by omega) h i0 p1) rfl rfl (Nat.le_of_ble_eq_true rfl) ⟨by decide, by decide⟩ rfl (fun r2 h2c hp2 => ?_) (fun _ _ q => q.elim)
  obtain ⟨b2, i2c, g2c, y2_0⟩ := hp2
  have f2c : mm_fr [(66, 0), (66, 18), (66, 39)] [72, 73, 75, 76, 91] h h2c := mm_fr_tr f0 g2c (by decide +kernel)
  have q2c_3 : h2c.1 66 23 = h.1 66 23 := g2c.1 66 23 (by decide)
  refine mm_if_ne (tgt := 10) C (mm_dec dk_X12_lost 3 rfl) (by decide) (fun c5 => ?_) (fun c5 => ?_)
  · skip
    refine mm_aload_n C (mm_dec dk_X12_lost 6 rfl) rfl ?_
    refine mm_getr (t := 122) C fl_X12_178 (mm_dec dk_X12_lost 7 rfl) rfl rfl (mm_ref i2c rfl) ?_
    refine mm_iload_n C (mm_dec dk_X12_lost 8 rfl) rfl ?_
    refine mm_iald C (mm_dec dk_X12_lost 9 rfl) rfl (by omega) (by omega) ?_
    have g4 : -2147483648 ≤ (h2c.2.1 122 p1) ∧ (h2c.2.1 122 p1) ≤ 2147483647 := i2c.2.1 122 p1
    refine mm_ldcw (z := -100000) C (mm_dec dk_X12_lost 10 rfl) kc_X12_295 (by decide) ?_
    have J31 : mm_W x 0 0 31 [mU, mU, mU] [] h2c := by
      refine mm_ldcw (z := -100000) C (mm_dec dk_X12_lost 17 rfl) kc_X12_295 (by decide) ?_
      exact mm_iret C T (mm_dec dk_X12_lost 18 rfl) (by decide : 0 ≤ 0) (by decide : 0 ≤ 0) ⟨_, rfl, ⟨⟨by omega, by omega⟩, i2c, f2c⟩⟩
    refine mm_icmp_eq (tgt := 31) C (mm_dec dk_X12_lost 11 rfl) (by decide) (fun c19 => ?_) (fun c19 => ?_)
    · skip
      refine mm_fgt 0 ?_
      refine mm_fgt 1 ?_
      exact J31
    · skip
      refine mm_aload_n C (mm_dec dk_X12_lost 12 rfl) rfl ?_
      refine mm_getr (t := 123) C fl_X12_181 (mm_dec dk_X12_lost 13 rfl) rfl rfl (mm_ref i2c rfl) ?_
      refine mm_iload_n C (mm_dec dk_X12_lost 14 rfl) rfl ?_
      refine mm_zald C (mm_dec dk_X12_lost 15 rfl) rfl (by omega) (by omega) ?_
      have g5 : 0 ≤ (h2c.2.1 123 p1) ∧ (h2c.2.1 123 p1) ≤ 1 := i2c.2.1 123 p1
      refine mm_if_ne (tgt := 35) C (mm_dec dk_X12_lost 16 rfl) (by decide) (fun c28 => ?_) (fun c28 => ?_)
      · skip
        refine mm_aload_n C (mm_dec dk_X12_lost 19 rfl) rfl ?_
        refine mm_iload_n C (mm_dec dk_X12_lost 20 rfl) rfl ?_
        refine mm_cVi (rest := []) C1 ev_X12_311 (mm_dec dk_X12_lost 21 rfl) (c_X12_lengthOf x.2.1 hl (d - 1) (by omega) h2c i2c p1 ⟨by omega, by omega⟩) rfl rfl (Nat.le_of_ble_eq_true rfl) ⟨by decide, by decide⟩ rfl (fun r37 h37c hp37 => ?_) (fun _ _ q => q.elim)
        obtain ⟨b37, i37c, g37c⟩ := hp37
        have f37c : mm_fr [(66, 0), (66, 18), (66, 39)] [72, 73, 75, 76, 91] h h37c := mm_fr_tr f2c g37c (by decide +kernel)
        have q37c_7 : h37c.1 66 23 = h2c.1 66 23 := g37c.1 66 23 (by decide)
        refine mm_istore_nL (ls2 := [mR 66, mI p1, mI r37]) C (mm_dec dk_X12_lost 22 rfl) (by decide) rfl ?_
        refine mm_iload_n C (mm_dec dk_X12_lost 23 rfl) rfl ?_
        refine mm_iconst C (mm_dec dk_X12_lost 24 rfl) ⟨by decide, by decide⟩ ?_
        have J60 : ∀ (s60_0 : Int) (bs60_0 : -2147483648 ≤ s60_0 ∧ s60_0 ≤ 2147483647), mm_W x 0 0 60 [mU, mU, mU] [mI s60_0] h37c := by
          intro s60_0 bs60_0
          exact mm_iret C T (mm_dec dk_X12_lost 34 rfl) (by decide : 0 ≤ 0) (by decide : 0 ≤ 0) ⟨_, rfl, ⟨⟨by omega, by omega⟩, i37c, f37c⟩⟩
        refine mm_icmp_ne (tgt := 52) C (mm_dec dk_X12_lost 25 rfl) (by decide) (fun c43 => ?_) (fun c43 => ?_)
        · skip
          refine mm_aload_n C (mm_dec dk_X12_lost 28 rfl) rfl ?_
          refine mm_getr (t := 122) C fl_X12_178 (mm_dec dk_X12_lost 29 rfl) rfl rfl (mm_ref i37c rfl) ?_
          refine mm_iload_n C (mm_dec dk_X12_lost 30 rfl) rfl ?_
          refine mm_iald C (mm_dec dk_X12_lost 31 rfl) rfl (by omega) (by omega) ?_
          have g8 : -2147483648 ≤ (h37c.2.1 122 p1) ∧ (h37c.2.1 122 p1) ≤ 2147483647 := i37c.2.1 122 p1
          refine mm_iload_n C (mm_dec dk_X12_lost 32 rfl) rfl ?_
          refine mm_isubw C (mm_dec dk_X12_lost 33 rfl) ?_
          have g9 : -2147483648 ≤ (mm_w ((h37c.2.1 122 p1) - r37)) ∧ (mm_w ((h37c.2.1 122 p1) - r37)) < 2147483648 := mm_w_rg _
          refine mm_fgt 0 ?_
          refine mm_fgt 1 ?_
          refine mm_fgt 2 ?_
          exact J60 (mm_w ((h37c.2.1 122 p1) - r37)) ⟨by omega, by omega⟩
        · skip
          refine mm_ldcw (z := -100000) C (mm_dec dk_X12_lost 26 rfl) kc_X12_295 (by decide) ?_
          refine mm_goto (tgt := 60) C (mm_dec dk_X12_lost 27 rfl) (by decide) ?_
          refine mm_fgt 0 ?_
          refine mm_fgt 1 ?_
          refine mm_fgt 2 ?_
          exact J60 (-100000) ⟨by omega, by omega⟩
      · skip
        refine mm_fgt 0 ?_
        refine mm_fgt 1 ?_
        exact J31
  · skip
    refine mm_iconst C (mm_dec dk_X12_lost 4 rfl) ⟨by decide, by decide⟩ ?_
    exact mm_iret C T (mm_dec dk_X12_lost 5 rfl) (by decide : 0 ≤ 0) (by decide : 0 ≤ 0) ⟨_, rfl, ⟨⟨by omega, by omega⟩, i2c, f2c⟩⟩
set_option maxRecDepth 100000 in
set_option maxHeartbeats 4000000 in
theorem c_X12_best (l : Launch) (hl : l.stackTraces = false) (d : Nat) (hd : 3 ≤ d) (h : mH) (i0 : mm_inv h) (p1 : Int) (p2 : Int) : mm_Met l d yX12_best cX12_best 12 (some .int) [mR 66, mI p1, mI p2] h (mm_pi fun r h2 => (-1 ≤ r ∧ r ≤ 2147483647) ∧ mm_inv h2 ∧ mm_fr [(66, 0), (66, 18), (66, 95), (66, 96), (66, 97)] [72, 73, 75, 76, 120, 121] h h2) mm_nx 0 0 := by
  refine mm_ofW (ls := [mR 66, mI p1, mI p2, mU, mU, mU, mU, mU, mU, mU, mU, mU]) hl (by decide) rfl (Nat.le_of_ble_eq_true rfl) ?_
  intro x hxl C T hnm htb
  subst hxl
  have C1 := mm_OK_le (d' := d - 1 + 1) (by omega) C
  refine mm_rng (fun hr _ => ?_)
  have ap1 : -2147483648 ≤ p1 ∧ p1 < 2147483648 := mm_ok_at hr (i := 1) rfl
  have ap2 : -2147483648 ≤ p2 ∧ p2 < 2147483648 := mm_ok_at hr (i := 2) rfl
  have f0 : mm_fr [(66, 0), (66, 18), (66, 95), (66, 96), (66, 97)] [72, 73, 75, 76, 120, 121] h h := mm_fr_rf
  have g1 : 0 ≤ h.1 66 22 ∧ h.1 66 22 ≤ 8 := i0.1 66 22
  refine mm_aload_n C (mm_dec dk_X12_best 0 rfl) rfl ?_
  refine mm_iload_n C (mm_dec dk_X12_best 1 rfl) rfl ?_
  refine mm_cVi (rest := []) C1 ev_X12_288 (mm_dec dk_X12_best 2 rfl) (c_X12_isCourse x.2.1 hl (d - 1) (by omega) h i0 p1) rfl rfl (Nat.le_of_ble_eq_true rfl) ⟨by decide, by decide⟩ rfl (fun r2 h2c hp2 => ?_) (fun _ _ q => q.elim)
  obtain ⟨b2, i2c, g2c, y2_0⟩ := hp2
  have f2c : mm_fr [(66, 0), (66, 18), (66, 95), (66, 96), (66, 97)] [72, 73, 75, 76, 120, 121] h h2c := mm_fr_tr f0 g2c (by decide +kernel)
  have q2c_3 : h2c.1 66 22 = h.1 66 22 := g2c.1 66 22 (by decide)
  have J25 : ∀ (h25_ : mH) (i25_ : mm_inv h25_) (f25_ : mm_fr [(66, 0), (66, 18), (66, 95), (66, 96), (66, 97)] [72, 73, 75, 76, 120, 121] h h25_), mm_W x 0 0 25 [mU, mU, mU, mU, mU, mU, mU, mU, mU, mU, mU, mU] [] h25_ := by
    intro h25_ i25_ f25_
    have g4 : 0 ≤ h25_.1 66 22 ∧ h25_.1 66 22 ≤ 8 := i25_.1 66 22
    have g5 : h25_.1 66 22 = h.1 66 22 := f25_.1 66 22 (by decide)
    refine mm_iconst C (mm_dec dk_X12_best 13 rfl) ⟨by decide, by decide⟩ ?_
    exact mm_iret C T (mm_dec dk_X12_best 14 rfl) (by decide : 0 ≤ 0) (by decide : 0 ≤ 0) ⟨_, rfl, ⟨⟨by omega, by omega⟩, i25_, f25_⟩⟩
  refine mm_if_eq (tgt := 25) C (mm_dec dk_X12_best 3 rfl) (by decide) (fun c5 => ?_) (fun c5 => ?_)
  · skip
    refine mm_fgt 0 ?_
    refine mm_fgt 1 ?_
    refine mm_fgt 2 ?_
    exact J25 h2c i2c f2c
  · skip
    refine mm_aload_n C (mm_dec dk_X12_best 4 rfl) rfl ?_
    refine mm_iload_n C (mm_dec dk_X12_best 5 rfl) rfl ?_
    have J18 : ∀ (s18_1 : Int) (bs18_1 : 0 ≤ s18_1 ∧ s18_1 ≤ 1) (vs18_1 : (p2 < 0 ∧ s18_1 = 0) ∨ (0 ≤ p2 ∧ s18_1 = 1)), mm_W x 0 0 18 [mR 66, mI p1, mI p2, mU, mU, mU, mU, mU, mU, mU, mU, mU] [mI s18_1, mR 66] h2c := by
      intro s18_1 bs18_1 vs18_1
      refine mm_iconst C (mm_dec dk_X12_best 10 rfl) ⟨by decide, by decide⟩ ?_
      refine mm_cVi (rest := []) C1 ev_X12_251 (mm_dec dk_X12_best 11 rfl) (c_X12_right x.2.1 hl (d - 1) (by omega) h2c i2c s18_1 2 ⟨by omega, by omega⟩ (by omega)) rfl rfl (Nat.le_of_ble_eq_true rfl) ⟨by decide, by decide⟩ rfl (fun r19 h19c hp19 => ?_) (fun _ _ q => q.elim)
      obtain ⟨b19, i19c, g19c, y19_0⟩ := hp19
      have f19c : mm_fr [(66, 0), (66, 18), (66, 95), (66, 96), (66, 97)] [72, 73, 75, 76, 120, 121] h h19c := mm_fr_tr f2c g19c (by decide +kernel)
      have q19c_7 : h19c.1 66 22 = h2c.1 66 22 := g19c.1 66 22 (by decide)
      refine mm_if_ne (tgt := 27) C (mm_dec dk_X12_best 12 rfl) (by decide) (fun c22 => ?_) (fun c22 => ?_)
      · skip
        refine mm_aload_n C (mm_dec dk_X12_best 15 rfl) rfl ?_
        refine mm_getr (t := 83) C fl_X12_60 (mm_dec dk_X12_best 16 rfl) rfl rfl (mm_ref i19c rfl) ?_
        refine mm_iload_n C (mm_dec dk_X12_best 17 rfl) rfl ?_
        refine mm_zald C (mm_dec dk_X12_best 18 rfl) rfl (by omega) (by omega) ?_
        have g8 : 0 ≤ (h19c.2.1 83 p1) ∧ (h19c.2.1 83 p1) ≤ 1 := i19c.2.1 83 p1
        refine mm_if_ne (tgt := 38) C (mm_dec dk_X12_best 19 rfl) (by decide) (fun c33 => ?_) (fun c33 => ?_)
        · skip
          refine mm_aload_n C (mm_dec dk_X12_best 22 rfl) rfl ?_
          refine mm_getr (t := 80) C fl_X12_51 (mm_dec dk_X12_best 23 rfl) rfl rfl (mm_ref i19c rfl) ?_
          refine mm_iload_n C (mm_dec dk_X12_best 24 rfl) rfl ?_
          refine mm_iald C (mm_dec dk_X12_best 25 rfl) rfl (by omega) (by omega) ?_
          have g9 : 0 ≤ (h19c.2.1 80 p1) ∧ (h19c.2.1 80 p1) ≤ 12 := i19c.2.1 80 p1
          refine mm_istore_nL (ls2 := [mR 66, mI p1, mI p2, mI (h19c.2.1 80 p1), mU, mU, mU, mU, mU, mU, mU, mU]) C (mm_dec dk_X12_best 26 rfl) (by decide) rfl ?_
          refine mm_iconst C (mm_dec dk_X12_best 27 rfl) ⟨by decide, by decide⟩ ?_
          have J48 : ∀ (n : Nat) (x48_4 : Int) (bx48_4 : 0 ≤ x48_4 ∧ x48_4 ≤ 19) (h48_ : mH) (i48_ : mm_inv h48_) (f48_ : mm_fr [(66, 0), (66, 18), (66, 95), (66, 96), (66, 97)] [72, 73, 75, 76, 120, 121] h h48_), (19 - x48_4 : Int) < n → mm_W x 0 0 48 [mR 66, mI p1, mI p2, mI (h19c.2.1 80 p1), mI x48_4, mU, mU, mU, mU, mU, mU, mU] [] h48_ := by
            intro n
            induction n with
            | zero =>
              intro x48_4 bx48_4 h48_ i48_ f48_ hm
              have g10 : 0 ≤ h48_.1 66 22 ∧ h48_.1 66 22 ≤ 8 := i48_.1 66 22
              exfalso; omega
            | succ n ih48 =>
              intro x48_4 bx48_4 h48_ i48_ f48_ hm48
              have g11 : 0 ≤ h48_.1 66 22 ∧ h48_.1 66 22 ≤ 8 := i48_.1 66 22
              have g12 : h48_.1 66 22 = h.1 66 22 := f48_.1 66 22 (by decide)
              refine mm_iload C (mm_dec dk_X12_best 29 rfl) rfl ?_
              refine mm_iload_n C (mm_dec dk_X12_best 30 rfl) rfl ?_
              refine mm_iconst C (mm_dec dk_X12_best 31 rfl) ⟨by decide, by decide⟩ ?_
              refine mm_iadd C (mm_dec dk_X12_best 32 rfl) ⟨by omega, by omega⟩ ?_
              refine mm_icmp_ge (tgt := 117) C (mm_dec dk_X12_best 33 rfl) (by decide) (fun c53 => ?_) (fun c53 => ?_)
              · skip
                refine mm_aload_n C (mm_dec dk_X12_best 68 rfl) rfl ?_
                refine mm_getr (t := 120) C fl_X12_171 (mm_dec dk_X12_best 69 rfl) rfl rfl (mm_ref i48_ rfl) ?_
                refine mm_bipush C (mm_dec dk_X12_best 70 rfl) ⟨by decide, by decide⟩ ?_
                refine mm_iload_n C (mm_dec dk_X12_best 71 rfl) rfl ?_
                refine mm_imul C (mm_dec dk_X12_best 72 rfl) ⟨by omega, by omega⟩ ?_
                refine mm_iload_n C (mm_dec dk_X12_best 73 rfl) rfl ?_
                refine mm_iadd C (mm_dec dk_X12_best 74 rfl) ⟨by omega, by omega⟩ ?_
                refine mm_iconst C (mm_dec dk_X12_best 75 rfl) ⟨by decide, by decide⟩ ?_
                refine mm_iadd C (mm_dec dk_X12_best 76 rfl) ⟨by omega, by omega⟩ ?_
                refine mm_iald C (mm_dec dk_X12_best 77 rfl) rfl (by omega) (by omega) ?_
                have g13 : -2147483648 ≤ (h48_.2.1 120 (((14 * (h19c.2.1 80 p1)) + (h19c.2.1 80 p1)) + 1)) ∧ (h48_.2.1 120 (((14 * (h19c.2.1 80 p1)) + (h19c.2.1 80 p1)) + 1)) ≤ 2147483647 := i48_.2.1 120 (((14 * (h19c.2.1 80 p1)) + (h19c.2.1 80 p1)) + 1)
                refine mm_ldcw (z := 1000000000) C (mm_dec dk_X12_best 78 rfl) kc_X12_258 (by decide) ?_
                have J153 : mm_W x 0 0 153 [mU, mU, mU, mU, mU, mU, mU, mU, mU, mU, mU, mU] [] h48_ := by
                  have g14 : 0 ≤ h48_.1 66 22 ∧ h48_.1 66 22 ≤ 8 := i48_.1 66 22
                  refine mm_iconst C (mm_dec dk_X12_best 92 rfl) ⟨by decide, by decide⟩ ?_
                  exact mm_iret C T (mm_dec dk_X12_best 93 rfl) (by decide : 0 ≤ 0) (by decide : 0 ≤ 0) ⟨_, rfl, ⟨⟨by omega, by omega⟩, i48_, f48_⟩⟩
                refine mm_icmp_eq (tgt := 153) C (mm_dec dk_X12_best 79 rfl) (by decide) (fun c133 => ?_) (fun c133 => ?_)
                · skip
                  refine mm_fgt 0 ?_
                  refine mm_fgt 1 ?_
                  refine mm_fgt 2 ?_
                  refine mm_fgt 3 ?_
                  refine mm_fgt 4 ?_
                  exact J153
                · skip
                  refine mm_aload_n C (mm_dec dk_X12_best 80 rfl) rfl ?_
                  refine mm_getr (t := 120) C fl_X12_171 (mm_dec dk_X12_best 81 rfl) rfl rfl (mm_ref i48_ rfl) ?_
                  refine mm_bipush C (mm_dec dk_X12_best 82 rfl) ⟨by decide, by decide⟩ ?_
                  refine mm_iload_n C (mm_dec dk_X12_best 83 rfl) rfl ?_
                  refine mm_imul C (mm_dec dk_X12_best 84 rfl) ⟨by omega, by omega⟩ ?_
                  refine mm_iload_n C (mm_dec dk_X12_best 85 rfl) rfl ?_
                  refine mm_iadd C (mm_dec dk_X12_best 86 rfl) ⟨by omega, by omega⟩ ?_
                  refine mm_iconst C (mm_dec dk_X12_best 87 rfl) ⟨by decide, by decide⟩ ?_
                  refine mm_iadd C (mm_dec dk_X12_best 88 rfl) ⟨by omega, by omega⟩ ?_
                  refine mm_iald C (mm_dec dk_X12_best 89 rfl) rfl (by omega) (by omega) ?_
                  refine mm_iload_n C (mm_dec dk_X12_best 90 rfl) rfl ?_
                  refine mm_icmp_le (tgt := 155) C (mm_dec dk_X12_best 91 rfl) (by decide) (fun c150 => ?_) (fun c150 => ?_)
                  · skip
                    refine mm_iconst C (mm_dec dk_X12_best 94 rfl) ⟨by decide, by decide⟩ ?_
                    refine mm_istoreL (ls2 := [mR 66, mI p1, mI p2, mI (h19c.2.1 80 p1), mI 0, mU, mU, mU, mU, mU, mU, mU]) C (mm_dec dk_X12_best 95 rfl) (by decide) rfl ?_
                    refine mm_iconst C (mm_dec dk_X12_best 96 rfl) ⟨by decide, by decide⟩ ?_
                    refine mm_istoreL (ls2 := [mR 66, mI p1, mI p2, mI (h19c.2.1 80 p1), mI 0, mI 0, mU, mU, mU, mU, mU, mU]) C (mm_dec dk_X12_best 97 rfl) (by decide) rfl ?_
                    refine mm_aload_n C (mm_dec dk_X12_best 98 rfl) rfl ?_
                    refine mm_getr (t := 120) C fl_X12_171 (mm_dec dk_X12_best 99 rfl) rfl rfl (mm_ref i48_ rfl) ?_
                    refine mm_bipush C (mm_dec dk_X12_best 100 rfl) ⟨by decide, by decide⟩ ?_
                    refine mm_iload_n C (mm_dec dk_X12_best 101 rfl) rfl ?_
                    refine mm_imul C (mm_dec dk_X12_best 102 rfl) ⟨by omega, by omega⟩ ?_
                    refine mm_iload_n C (mm_dec dk_X12_best 103 rfl) rfl ?_
                    refine mm_iadd C (mm_dec dk_X12_best 104 rfl) ⟨by omega, by omega⟩ ?_
                    refine mm_iconst C (mm_dec dk_X12_best 105 rfl) ⟨by decide, by decide⟩ ?_
                    refine mm_iadd C (mm_dec dk_X12_best 106 rfl) ⟨by omega, by omega⟩ ?_
                    refine mm_iald C (mm_dec dk_X12_best 107 rfl) rfl (by omega) (by omega) ?_
                    refine mm_istoreL (ls2 := [mR 66, mI p1, mI p2, mI (h19c.2.1 80 p1), mI 0, mI 0, mI (h48_.2.1 120 (((14 * (h19c.2.1 80 p1)) + (h19c.2.1 80 p1)) + 1)), mU, mU, mU, mU, mU]) C (mm_dec dk_X12_best 108 rfl) (by decide) rfl ?_
                    refine mm_iconst C (mm_dec dk_X12_best 109 rfl) ⟨by decide, by decide⟩ ?_
                    have J179 : ∀ (n : Nat) (x179_4 : Int) (bx179_4 : 0 ≤ x179_4 ∧ x179_4 ≤ 2147483647) (x179_5 : Int) (bx179_5 : 0 ≤ x179_5 ∧ x179_5 ≤ 4095) (x179_6 : Int) (bx179_6 : -2147483648 ≤ x179_6 ∧ x179_6 ≤ 2147483647) (x179_7 : Int) (bx179_7 : 1 ≤ x179_7 ∧ x179_7 ≤ 4096) (h179_ : mH) (i179_ : mm_inv h179_) (f179_ : mm_fr [(66, 0), (66, 18), (66, 95), (66, 96), (66, 97)] [72, 73, 75, 76, 120, 121] h h179_), (4096 - x179_7 : Int) < n → mm_W x 0 0 179 [mR 66, mI p1, mI p2, mI (h19c.2.1 80 p1), mI x179_4, mI x179_5, mI x179_6, mI x179_7, mU, mU, mU, mU] [] h179_ := by
                      intro n
                      induction n with
                      | zero =>
                        intro x179_4 bx179_4 x179_5 bx179_5 x179_6 bx179_6 x179_7 bx179_7 h179_ i179_ f179_ hm
                        have g15 : 0 ≤ h179_.1 66 22 ∧ h179_.1 66 22 ≤ 8 := i179_.1 66 22
                        exfalso; omega
                      | succ n ih179 =>
                        intro x179_4 bx179_4 x179_5 bx179_5 x179_6 bx179_6 x179_7 bx179_7 h179_ i179_ f179_ hm179
                        have g16 : 0 ≤ h179_.1 66 22 ∧ h179_.1 66 22 ≤ 8 := i179_.1 66 22
                        have g17 : h179_.1 66 22 = h.1 66 22 := f179_.1 66 22 (by decide)
                        refine mm_iload C (mm_dec dk_X12_best 111 rfl) rfl ?_
                        refine mm_iconst C (mm_dec dk_X12_best 112 rfl) ⟨by decide, by decide⟩ ?_
                        refine mm_iload_n C (mm_dec dk_X12_best 113 rfl) rfl ?_
                        refine mm_ishl C (mm_dec dk_X12_best 114 rfl) ?_
                        have g18 : 1 ≤ (mm_vishl 1 (h19c.2.1 80 p1)) ∧ (mm_vishl 1 (h19c.2.1 80 p1)) ≤ 4096 := mm_shl1 ⟨by omega, by omega⟩
                        refine mm_icmp_ge (tgt := 394) C (mm_dec dk_X12_best 115 rfl) (by decide) (fun c184 => ?_) (fun c184 => ?_)
                        · skip
                          refine mm_aload_n C (mm_dec dk_X12_best 229 rfl) rfl ?_
                          refine mm_iconst C (mm_dec dk_X12_best 230 rfl) ⟨by decide, by decide⟩ ?_
                          refine mm_puti C fl_X12_244 (mm_dec dk_X12_best 231 rfl) rfl rfl rfl (Or.inr ⟨rfl, rfl, by omega⟩) ?_
                          have i3 : mm_inv (mm_pf h179_ 66 95 1) := mm_inv_pf i179_ (show 0 ≤ 1 ∧ 1 ≤ 1 from ⟨by omega, by omega⟩) (by decide)
                          have f3 : mm_fr [(66, 0), (66, 18), (66, 95), (66, 96), (66, 97)] [72, 73, 75, 76, 120, 121] h (mm_pf h179_ 66 95 1) := mm_fr_pf f179_ (by decide)
                          obtain ⟨h3, eh3⟩ : ∃ z, z = mm_pf h179_ 66 95 1 := ⟨_, rfl⟩
                          rw [← eh3] at i3 f3 ⊢
                          have qh3 : h3.1 66 95 = 1 := by rw [eh3]; exact mm_pf_same _ _ _ _
                          have qh3_19 : h3.1 66 22 = h179_.1 66 22 := by rw [eh3]; exact mm_pf_ne _ _ (by decide)
                          refine mm_aload_n C (mm_dec dk_X12_best 232 rfl) rfl ?_
                          refine mm_iload C (mm_dec dk_X12_best 233 rfl) rfl ?_
                          refine mm_puti C fl_X12_533 (mm_dec dk_X12_best 234 rfl) rfl rfl rfl (Or.inl ⟨rfl, rfl⟩) ?_
                          have i4 : mm_inv (mm_pf h3 66 96 x179_5) := mm_inv_pf i3 (show -2147483648 ≤ x179_5 ∧ x179_5 ≤ 2147483647 from ⟨by omega, by omega⟩) (by decide)
                          have f4 : mm_fr [(66, 0), (66, 18), (66, 95), (66, 96), (66, 97)] [72, 73, 75, 76, 120, 121] h (mm_pf h3 66 96 x179_5) := mm_fr_pf f3 (by decide)
                          obtain ⟨h4, eh4⟩ : ∃ z, z = mm_pf h3 66 96 x179_5 := ⟨_, rfl⟩
                          rw [← eh4] at i4 f4 ⊢
                          have qh4 : h4.1 66 96 = x179_5 := by rw [eh4]; exact mm_pf_same _ _ _ _
                          have qh4_20 : h4.1 66 22 = h3.1 66 22 := by rw [eh4]; exact mm_pf_ne _ _ (by decide)
                          have qh4_21 : h4.1 66 95 = h3.1 66 95 := by rw [eh4]; exact mm_pf_ne _ _ (by decide)
                          refine mm_aload_n C (mm_dec dk_X12_best 235 rfl) rfl ?_
                          refine mm_iload C (mm_dec dk_X12_best 236 rfl) rfl ?_
                          refine mm_puti C fl_X12_536 (mm_dec dk_X12_best 237 rfl) rfl rfl rfl (Or.inl ⟨rfl, rfl⟩) ?_
                          have i5 : mm_inv (mm_pf h4 66 97 x179_6) := mm_inv_pf i4 (show -2147483648 ≤ x179_6 ∧ x179_6 ≤ 2147483647 from ⟨by omega, by omega⟩) (by decide)
                          have f5 : mm_fr [(66, 0), (66, 18), (66, 95), (66, 96), (66, 97)] [72, 73, 75, 76, 120, 121] h (mm_pf h4 66 97 x179_6) := mm_fr_pf f4 (by decide)
                          obtain ⟨h5, eh5⟩ : ∃ z, z = mm_pf h4 66 97 x179_6 := ⟨_, rfl⟩
                          rw [← eh5] at i5 f5 ⊢
                          have qh5 : h5.1 66 97 = x179_6 := by rw [eh5]; exact mm_pf_same _ _ _ _
                          have qh5_22 : h5.1 66 22 = h4.1 66 22 := by rw [eh5]; exact mm_pf_ne _ _ (by decide)
                          have qh5_23 : h5.1 66 95 = h4.1 66 95 := by rw [eh5]; exact mm_pf_ne _ _ (by decide)
                          have qh5_24 : h5.1 66 96 = h4.1 66 96 := by rw [eh5]; exact mm_pf_ne _ _ (by decide)
                          refine mm_iload C (mm_dec dk_X12_best 238 rfl) rfl ?_
                          exact mm_iret C T (mm_dec dk_X12_best 239 rfl) (by decide : 0 ≤ 0) (by decide : 0 ≤ 0) ⟨_, rfl, ⟨⟨by omega, by omega⟩, i5, f5⟩⟩
                        · skip
                          refine mm_ldcw (z := 1000000000) C (mm_dec dk_X12_best 116 rfl) kc_X12_258 (by decide) ?_
                          refine mm_istoreL (ls2 := [mR 66, mI p1, mI p2, mI (h19c.2.1 80 p1), mI x179_4, mI x179_5, mI x179_6, mI x179_7, mI 1000000000, mU, mU, mU]) C (mm_dec dk_X12_best 117 rfl) (by decide) rfl ?_
                          refine mm_iconst C (mm_dec dk_X12_best 118 rfl) ⟨by decide, by decide⟩ ?_
                          refine mm_istoreL (ls2 := [mR 66, mI p1, mI p2, mI (h19c.2.1 80 p1), mI x179_4, mI x179_5, mI x179_6, mI x179_7, mI 1000000000, mI 0, mU, mU]) C (mm_dec dk_X12_best 119 rfl) (by decide) rfl ?_
                          refine mm_iconst C (mm_dec dk_X12_best 120 rfl) ⟨by decide, by decide⟩ ?_
                          have J198 : ∀ (n : Nat) (x198_8 : Int) (bx198_8 : -2147483648 ≤ x198_8 ∧ x198_8 ≤ 1000000000) (x198_9 : Int) (bx198_9 : -2147483648 ≤ x198_9 ∧ x198_9 ≤ 2147483647) (x198_10 : Int) (bx198_10 : 0 ≤ x198_10 ∧ x198_10 ≤ 12) (h198_ : mH) (i198_ : mm_inv h198_) (f198_ : mm_fr [(66, 0), (66, 18), (66, 95), (66, 96), (66, 97)] [72, 73, 75, 76, 120, 121] h h198_), (12 - x198_10 : Int) < n → mm_W x 0 0 198 [mR 66, mI p1, mI p2, mI (h19c.2.1 80 p1), mI x179_4, mI x179_5, mI x179_6, mI x179_7, mI x198_8, mI x198_9, mI x198_10, mU] [] h198_ := by
                            intro n
                            induction n with
                            | zero =>
                              intro x198_8 bx198_8 x198_9 bx198_9 x198_10 bx198_10 h198_ i198_ f198_ hm
                              have g25 : 0 ≤ h198_.1 66 22 ∧ h198_.1 66 22 ≤ 8 := i198_.1 66 22
                              exfalso; omega
                            | succ n ih198 =>
                              intro x198_8 bx198_8 x198_9 bx198_9 x198_10 bx198_10 h198_ i198_ f198_ hm198
                              have g26 : 0 ≤ h198_.1 66 22 ∧ h198_.1 66 22 ≤ 8 := i198_.1 66 22
                              have g27 : h198_.1 66 22 = h.1 66 22 := f198_.1 66 22 (by decide)
                              refine mm_iload C (mm_dec dk_X12_best 122 rfl) rfl ?_
                              refine mm_iload_n C (mm_dec dk_X12_best 123 rfl) rfl ?_
                              refine mm_icmp_ge (tgt := 338) C (mm_dec dk_X12_best 124 rfl) (by decide) (fun c201 => ?_) (fun c201 => ?_)
                              · skip
                                refine mm_iload C (mm_dec dk_X12_best 205 rfl) rfl ?_
                                refine mm_iload_n C (mm_dec dk_X12_best 206 rfl) rfl ?_
                                have J388 : ∀ (x388_4 : Int) (bx388_4 : 0 ≤ x388_4 ∧ x388_4 ≤ 2147483647) (x388_5 : Int) (bx388_5 : 0 ≤ x388_5 ∧ x388_5 ≤ 4095) (x388_6 : Int) (bx388_6 : -2147483648 ≤ x388_6 ∧ x388_6 ≤ 2147483647), mm_W x 0 0 388 [mR 66, mI p1, mI p2, mI (h19c.2.1 80 p1), mI x388_4, mI x388_5, mI x388_6, mI x179_7, mU, mU, mU, mU] [] h198_ := by
                                  intro x388_4 bx388_4 x388_5 bx388_5 x388_6 bx388_6
                                  have g28 : 0 ≤ h198_.1 66 22 ∧ h198_.1 66 22 ≤ 8 := i198_.1 66 22
                                  refine mm_iincL (ls2 := [mR 66, mI p1, mI p2, mI (h19c.2.1 80 p1), mI x388_4, mI x388_5, mI x388_6, mI (x179_7 + 1), mU, mU, mU, mU]) C (mm_dec dk_X12_best 227 rfl) rfl (by decide) ⟨by omega, by omega⟩ rfl ?_
                                  refine mm_goto (tgt := 179) C (mm_dec dk_X12_best 228 rfl) (by decide) ?_
                                  exact ih179 x388_4 ⟨by omega, by omega⟩ x388_5 ⟨by omega, by omega⟩ x388_6 ⟨by omega, by omega⟩ (x179_7 + 1) ⟨by omega, by omega⟩ h198_ i198_ f198_ (by omega)
                                refine mm_icmp_gt (tgt := 388) C (mm_dec dk_X12_best 207 rfl) (by decide) (fun c341 => ?_) (fun c341 => ?_)
                                · skip
                                  refine mm_fgt 8 ?_
                                  refine mm_fgt 9 ?_
                                  refine mm_fgt 10 ?_
                                  exact J388 x179_4 ⟨by omega, by omega⟩ x179_5 ⟨by omega, by omega⟩ x179_6 ⟨by omega, by omega⟩
                                · skip
                                  refine mm_iload C (mm_dec dk_X12_best 208 rfl) rfl ?_
                                  refine mm_ldcw (z := 1000000000) C (mm_dec dk_X12_best 209 rfl) kc_X12_258 (by decide) ?_
                                  refine mm_icmp_ge (tgt := 388) C (mm_dec dk_X12_best 210 rfl) (by decide) (fun c349 => ?_) (fun c349 => ?_)
                                  · skip
                                    refine mm_fgt 8 ?_
                                    refine mm_fgt 9 ?_
                                    refine mm_fgt 10 ?_
                                    exact J388 x179_4 ⟨by omega, by omega⟩ x179_5 ⟨by omega, by omega⟩ x179_6 ⟨by omega, by omega⟩
                                  · skip
                                    refine mm_iload C (mm_dec dk_X12_best 211 rfl) rfl ?_
                                    refine mm_iload C (mm_dec dk_X12_best 212 rfl) rfl ?_
                                    refine mm_icmp_lt (tgt := 388) C (mm_dec dk_X12_best 213 rfl) (by decide) (fun c356 => ?_) (fun c356 => ?_)
                                    · skip
                                      refine mm_fgt 8 ?_
                                      refine mm_fgt 9 ?_
                                      refine mm_fgt 10 ?_
                                      exact J388 x179_4 ⟨by omega, by omega⟩ x179_5 ⟨by omega, by omega⟩ x179_6 ⟨by omega, by omega⟩
                                    · skip
                                      refine mm_iload C (mm_dec dk_X12_best 214 rfl) rfl ?_
                                      refine mm_iload C (mm_dec dk_X12_best 215 rfl) rfl ?_
                                      have J376 : mm_W x 0 0 376 [mR 66, mI p1, mI p2, mI (h19c.2.1 80 p1), mU, mU, mU, mI x179_7, mI x198_8, mI x198_9, mU, mU] [] h198_ := by
                                        have g29 : 0 ≤ h198_.1 66 22 ∧ h198_.1 66 22 ≤ 8 := i198_.1 66 22
                                        refine mm_iload C (mm_dec dk_X12_best 221 rfl) rfl ?_
                                        refine mm_istoreL (ls2 := [mR 66, mI p1, mI p2, mI (h19c.2.1 80 p1), mI x198_9, mU, mU, mI x179_7, mI x198_8, mI x198_9, mU, mU]) C (mm_dec dk_X12_best 222 rfl) (by decide) rfl ?_
                                        refine mm_iload C (mm_dec dk_X12_best 223 rfl) rfl ?_
                                        refine mm_istoreL (ls2 := [mR 66, mI p1, mI p2, mI (h19c.2.1 80 p1), mI x198_9, mI x179_7, mU, mI x179_7, mI x198_8, mI x198_9, mU, mU]) C (mm_dec dk_X12_best 224 rfl) (by decide) rfl ?_
                                        refine mm_iload C (mm_dec dk_X12_best 225 rfl) rfl ?_
                                        refine mm_istoreL (ls2 := [mR 66, mI p1, mI p2, mI (h19c.2.1 80 p1), mI x198_9, mI x179_7, mI x198_8, mI x179_7, mI x198_8, mI x198_9, mU, mU]) C (mm_dec dk_X12_best 226 rfl) (by decide) rfl ?_
                                        refine mm_fgt 8 ?_
                                        refine mm_fgt 9 ?_
                                        exact J388 x198_9 ⟨by omega, by omega⟩ x179_7 ⟨by omega, by omega⟩ x198_8 ⟨by omega, by omega⟩
                                      refine mm_icmp_ne (tgt := 376) C (mm_dec dk_X12_best 216 rfl) (by decide) (fun c363 => ?_) (fun c363 => ?_)
                                      · skip
                                        refine mm_fgt 4 ?_
                                        refine mm_fgt 5 ?_
                                        refine mm_fgt 6 ?_
                                        refine mm_fgt 10 ?_
                                        exact J376
                                      · skip
                                        refine mm_iload C (mm_dec dk_X12_best 217 rfl) rfl ?_
                                        refine mm_iload C (mm_dec dk_X12_best 218 rfl) rfl ?_
                                        refine mm_icmp_lt (tgt := 376) C (mm_dec dk_X12_best 219 rfl) (by decide) (fun c370 => ?_) (fun c370 => ?_)
                                        · skip
                                          refine mm_fgt 4 ?_
                                          refine mm_fgt 5 ?_
                                          refine mm_fgt 6 ?_
                                          refine mm_fgt 10 ?_
                                          exact J376
                                        · skip
                                          refine mm_goto (tgt := 388) C (mm_dec dk_X12_best 220 rfl) (by decide) ?_
                                          refine mm_fgt 8 ?_
                                          refine mm_fgt 9 ?_
                                          refine mm_fgt 10 ?_
                                          exact J388 x179_4 ⟨by omega, by omega⟩ x179_5 ⟨by omega, by omega⟩ x179_6 ⟨by omega, by omega⟩
                              · skip
                                refine mm_aload_n C (mm_dec dk_X12_best 125 rfl) rfl ?_
                                refine mm_getr (t := 121) C fl_X12_175 (mm_dec dk_X12_best 126 rfl) rfl rfl (mm_ref i198_ rfl) ?_
                                refine mm_bipush C (mm_dec dk_X12_best 127 rfl) ⟨by decide, by decide⟩ ?_
                                refine mm_iload C (mm_dec dk_X12_best 128 rfl) rfl ?_
                                refine mm_imul C (mm_dec dk_X12_best 129 rfl) ⟨by omega, by omega⟩ ?_
                                refine mm_iload C (mm_dec dk_X12_best 130 rfl) rfl ?_
                                refine mm_iadd C (mm_dec dk_X12_best 131 rfl) ⟨by omega, by omega⟩ ?_
                                refine mm_ldcw (z := 1000000000) C (mm_dec dk_X12_best 132 rfl) kc_X12_258 (by decide) ?_
                                refine mm_iast C (mm_dec dk_X12_best 133 rfl) rfl (by omega) (by omega) ?_
                                have i6 : mm_inv (mm_pa h198_ 121 ((12 * x179_7) + x198_10) 1000000000) := mm_inv_pa i198_ (show -2147483648 ≤ 1000000000 ∧ 1000000000 ≤ 2147483647 from ⟨by omega, by omega⟩)
                                have f6 : mm_fr [(66, 0), (66, 18), (66, 95), (66, 96), (66, 97)] [72, 73, 75, 76, 120, 121] h (mm_pa h198_ 121 ((12 * x179_7) + x198_10) 1000000000) := mm_fr_pa f198_ (by decide)
                                obtain ⟨h6, eh6⟩ : ∃ z, z = mm_pa h198_ 121 ((12 * x179_7) + x198_10) 1000000000 := ⟨_, rfl⟩
                                rw [← eh6] at i6 f6 ⊢
                                have qh6_30 : h6.1 66 22 = h198_.1 66 22 := by rw [eh6]; rfl
                                refine mm_iload C (mm_dec dk_X12_best 134 rfl) rfl ?_
                                refine mm_iload C (mm_dec dk_X12_best 135 rfl) rfl ?_
                                refine mm_ishr C (mm_dec dk_X12_best 136 rfl) ?_
                                have g31 : -2147483648 ≤ (mm_vishr x179_7 x198_10) ∧ (mm_vishr x179_7 x198_10) < 2147483648 := fb_rng _
                                refine mm_iconst C (mm_dec dk_X12_best 137 rfl) ⟨by decide, by decide⟩ ?_
                                refine mm_iand C (mm_dec dk_X12_best 138 rfl) ?_
                                have g33 : 0 ≤ (mm_viand (mm_vishr x179_7 x198_10) 1) ∧ (mm_viand (mm_vishr x179_7 x198_10) 1) ≤ 1 := mm_and_rg2 (by omega) (by omega)
                                have J332 : ∀ (x332_8 : Int) (bx332_8 : -2147483648 ≤ x332_8 ∧ x332_8 ≤ 1000000000) (x332_9 : Int) (bx332_9 : -2147483648 ≤ x332_9 ∧ x332_9 ≤ 2147483647) (h332_ : mH) (i332_ : mm_inv h332_) (f332_ : mm_fr [(66, 0), (66, 18), (66, 95), (66, 96), (66, 97)] [72, 73, 75, 76, 120, 121] h h332_), mm_W x 0 0 332 [mR 66, mI p1, mI p2, mI (h19c.2.1 80 p1), mI x179_4, mI x179_5, mI x179_6, mI x179_7, mI x332_8, mI x332_9, mI x198_10, mU] [] h332_ := by
                                  intro x332_8 bx332_8 x332_9 bx332_9 h332_ i332_ f332_
                                  have g34 : 0 ≤ h332_.1 66 22 ∧ h332_.1 66 22 ≤ 8 := i332_.1 66 22
                                  have g35 : h332_.1 66 22 = h.1 66 22 := f332_.1 66 22 (by decide)
                                  refine mm_iincL (ls2 := [mR 66, mI p1, mI p2, mI (h19c.2.1 80 p1), mI x179_4, mI x179_5, mI x179_6, mI x179_7, mI x332_8, mI x332_9, mI (x198_10 + 1), mU]) C (mm_dec dk_X12_best 203 rfl) rfl (by decide) ⟨by omega, by omega⟩ rfl ?_
                                  refine mm_goto (tgt := 198) C (mm_dec dk_X12_best 204 rfl) (by decide) ?_
                                  exact ih198 x332_8 ⟨by omega, by omega⟩ x332_9 ⟨by omega, by omega⟩ (x198_10 + 1) ⟨by omega, by omega⟩ h332_ i332_ f332_ (by omega)
                                refine mm_if_ne (tgt := 233) C (mm_dec dk_X12_best 139 rfl) (by decide) (fun c227 => ?_) (fun c227 => ?_)
                                · skip
                                  refine mm_iload C (mm_dec dk_X12_best 141 rfl) rfl ?_
                                  refine mm_aload_n C (mm_dec dk_X12_best 142 rfl) rfl ?_
                                  refine mm_getr (t := 79) C fl_X12_48 (mm_dec dk_X12_best 143 rfl) rfl rfl (mm_ref i6 rfl) ?_
                                  refine mm_aload_n C (mm_dec dk_X12_best 144 rfl) rfl ?_
                                  refine mm_getr (t := 82) C fl_X12_57 (mm_dec dk_X12_best 145 rfl) rfl rfl (mm_ref i6 rfl) ?_
                                  refine mm_iconst C (mm_dec dk_X12_best 146 rfl) ⟨by decide, by decide⟩ ?_
                                  refine mm_bipush C (mm_dec dk_X12_best 147 rfl) ⟨by decide, by decide⟩ ?_
                                  refine mm_iload_n C (mm_dec dk_X12_best 148 rfl) rfl ?_
                                  refine mm_imul C (mm_dec dk_X12_best 149 rfl) ⟨by omega, by omega⟩ ?_
                                  refine mm_iload C (mm_dec dk_X12_best 150 rfl) rfl ?_
                                  refine mm_iadd C (mm_dec dk_X12_best 151 rfl) ⟨by omega, by omega⟩ ?_
                                  refine mm_imul C (mm_dec dk_X12_best 152 rfl) ⟨by omega, by omega⟩ ?_
                                  refine mm_iald C (mm_dec dk_X12_best 153 rfl) rfl (by omega) (by omega) ?_
                                  have g36 : 0 ≤ (h6.2.1 82 (3 * ((12 * p1) + x198_10))) ∧ (h6.2.1 82 (3 * ((12 * p1) + x198_10))) ≤ 19 := i6.2.1 82 (3 * ((12 * p1) + x198_10))
                                  refine mm_iald C (mm_dec dk_X12_best 154 rfl) rfl (by omega) (by omega) ?_
                                  have g37 : -2147483648 ≤ (h6.2.1 79 (h6.2.1 82 (3 * ((12 * p1) + x198_10)))) ∧ (h6.2.1 79 (h6.2.1 82 (3 * ((12 * p1) + x198_10)))) ≤ 2147483647 := i6.2.1 79 (h6.2.1 82 (3 * ((12 * p1) + x198_10)))
                                  refine mm_iaddw C (mm_dec dk_X12_best 155 rfl) ?_
                                  have g38 : -2147483648 ≤ (mm_w (x198_9 + (h6.2.1 79 (h6.2.1 82 (3 * ((12 * p1) + x198_10)))))) ∧ (mm_w (x198_9 + (h6.2.1 79 (h6.2.1 82 (3 * ((12 * p1) + x198_10)))))) < 2147483648 := mm_w_rg _
                                  refine mm_istoreL (ls2 := [mR 66, mI p1, mI p2, mI (h19c.2.1 80 p1), mI x179_4, mI x179_5, mI x179_6, mI x179_7, mI x198_8, mI (mm_w (x198_9 + (h6.2.1 79 (h6.2.1 82 (3 * ((12 * p1) + x198_10)))))), mI x198_10, mU]) C (mm_dec dk_X12_best 156 rfl) (by decide) rfl ?_
                                  refine mm_aload_n C (mm_dec dk_X12_best 157 rfl) rfl ?_
                                  refine mm_getr (t := 121) C fl_X12_175 (mm_dec dk_X12_best 158 rfl) rfl rfl (mm_ref i6 rfl) ?_
                                  refine mm_bipush C (mm_dec dk_X12_best 159 rfl) ⟨by decide, by decide⟩ ?_
                                  refine mm_iload C (mm_dec dk_X12_best 160 rfl) rfl ?_
                                  refine mm_imul C (mm_dec dk_X12_best 161 rfl) ⟨by omega, by omega⟩ ?_
                                  refine mm_iload C (mm_dec dk_X12_best 162 rfl) rfl ?_
                                  refine mm_iadd C (mm_dec dk_X12_best 163 rfl) ⟨by omega, by omega⟩ ?_
                                  refine mm_aload_n C (mm_dec dk_X12_best 164 rfl) rfl ?_
                                  refine mm_iload C (mm_dec dk_X12_best 165 rfl) rfl ?_
                                  refine mm_iconst C (mm_dec dk_X12_best 166 rfl) ⟨by decide, by decide⟩ ?_
                                  refine mm_iload C (mm_dec dk_X12_best 167 rfl) rfl ?_
                                  refine mm_ishl C (mm_dec dk_X12_best 168 rfl) ?_
                                  have g39 : 1 ≤ (mm_vishl 1 x198_10) ∧ (mm_vishl 1 x198_10) ≤ 2048 := mm_shl1b ⟨by omega, by omega⟩
                                  refine mm_iconst C (mm_dec dk_X12_best 169 rfl) ⟨by decide, by decide⟩ ?_
                                  refine mm_ixor C (mm_dec dk_X12_best 170 rfl) ?_
                                  have g40 : -2147483648 ≤ (mm_vixor (mm_vishl 1 x198_10) (-1)) ∧ (mm_vixor (mm_vishl 1 x198_10) (-1)) < 2147483648 := fb_rng _
                                  refine mm_iand C (mm_dec dk_X12_best 171 rfl) ?_
                                  have g41 : 0 ≤ (mm_viand x179_7 (mm_vixor (mm_vishl 1 x198_10) (-1))) ∧ (mm_viand x179_7 (mm_vixor (mm_vishl 1 x198_10) (-1))) ≤ x179_7 := mm_and_rg (by omega) (by omega)
                                  refine mm_iload C (mm_dec dk_X12_best 172 rfl) rfl ?_
                                  refine mm_iload_n C (mm_dec dk_X12_best 173 rfl) rfl ?_
                                  refine mm_cVi (rest := [mI ((12 * x179_7) + x198_10), mR 121]) C1 ev_X12_530 (mm_dec dk_X12_best 174 rfl) (c_X12_comesTo x.2.1 hl (d - 1) (by omega) h6 i6 (mm_viand x179_7 (mm_vixor (mm_vishl 1 x198_10) (-1))) x198_10 (h19c.2.1 80 p1) ⟨by omega, by omega⟩ ⟨by omega, by omega⟩ ⟨by omega, by omega⟩) rfl rfl (Nat.le_of_ble_eq_true rfl) ⟨by decide, by decide⟩ rfl (fun r282 h282c hp282 => ?_) (fun _ _ q => q.elim)
                                  obtain ⟨b282, z282⟩ := hp282
                                  rw [z282]
                                  refine mm_iast C (mm_dec dk_X12_best 175 rfl) rfl (by omega) (by omega) ?_
                                  have i7 : mm_inv (mm_pa h6 121 ((12 * x179_7) + x198_10) r282) := mm_inv_pa i6 (show -2147483648 ≤ r282 ∧ r282 ≤ 2147483647 from ⟨by omega, by omega⟩)
                                  have f7 : mm_fr [(66, 0), (66, 18), (66, 95), (66, 96), (66, 97)] [72, 73, 75, 76, 120, 121] h (mm_pa h6 121 ((12 * x179_7) + x198_10) r282) := mm_fr_pa f6 (by decide)
                                  obtain ⟨h7, eh7⟩ : ∃ z, z = mm_pa h6 121 ((12 * x179_7) + x198_10) r282 := ⟨_, rfl⟩
                                  rw [← eh7] at i7 f7 ⊢
                                  have qh7_43 : h7.1 66 22 = h6.1 66 22 := by rw [eh7]; rfl
                                  refine mm_aload_n C (mm_dec dk_X12_best 176 rfl) rfl ?_
                                  refine mm_getr (t := 121) C fl_X12_175 (mm_dec dk_X12_best 177 rfl) rfl rfl (mm_ref i7 rfl) ?_
                                  refine mm_bipush C (mm_dec dk_X12_best 178 rfl) ⟨by decide, by decide⟩ ?_
                                  refine mm_iload C (mm_dec dk_X12_best 179 rfl) rfl ?_
                                  refine mm_imul C (mm_dec dk_X12_best 180 rfl) ⟨by omega, by omega⟩ ?_
                                  refine mm_iload C (mm_dec dk_X12_best 181 rfl) rfl ?_
                                  refine mm_iadd C (mm_dec dk_X12_best 182 rfl) ⟨by omega, by omega⟩ ?_
                                  refine mm_iald C (mm_dec dk_X12_best 183 rfl) rfl (by omega) (by omega) ?_
                                  have g44 : -2147483648 ≤ (h7.2.1 121 ((12 * x179_7) + x198_10)) ∧ (h7.2.1 121 ((12 * x179_7) + x198_10)) ≤ 2147483647 := i7.2.1 121 ((12 * x179_7) + x198_10)
                                  refine mm_aload_n C (mm_dec dk_X12_best 184 rfl) rfl ?_
                                  refine mm_getr (t := 120) C fl_X12_171 (mm_dec dk_X12_best 185 rfl) rfl rfl (mm_ref i7 rfl) ?_
                                  refine mm_bipush C (mm_dec dk_X12_best 186 rfl) ⟨by decide, by decide⟩ ?_
                                  refine mm_iload C (mm_dec dk_X12_best 187 rfl) rfl ?_
                                  refine mm_imul C (mm_dec dk_X12_best 188 rfl) ⟨by omega, by omega⟩ ?_
                                  refine mm_iload_n C (mm_dec dk_X12_best 189 rfl) rfl ?_
                                  refine mm_iadd C (mm_dec dk_X12_best 190 rfl) ⟨by omega, by omega⟩ ?_
                                  refine mm_iconst C (mm_dec dk_X12_best 191 rfl) ⟨by decide, by decide⟩ ?_
                                  refine mm_iadd C (mm_dec dk_X12_best 192 rfl) ⟨by omega, by omega⟩ ?_
                                  refine mm_iald C (mm_dec dk_X12_best 193 rfl) rfl (by omega) (by omega) ?_
                                  have g45 : -2147483648 ≤ (h7.2.1 120 (((14 * x198_10) + (h19c.2.1 80 p1)) + 1)) ∧ (h7.2.1 120 (((14 * x198_10) + (h19c.2.1 80 p1)) + 1)) ≤ 2147483647 := i7.2.1 120 (((14 * x198_10) + (h19c.2.1 80 p1)) + 1)
                                  refine mm_iaddw C (mm_dec dk_X12_best 194 rfl) ?_
                                  have g46 : -2147483648 ≤ (mm_w ((h7.2.1 121 ((12 * x179_7) + x198_10)) + (h7.2.1 120 (((14 * x198_10) + (h19c.2.1 80 p1)) + 1)))) ∧ (mm_w ((h7.2.1 121 ((12 * x179_7) + x198_10)) + (h7.2.1 120 (((14 * x198_10) + (h19c.2.1 80 p1)) + 1)))) < 2147483648 := mm_w_rg _
                                  refine mm_istoreL (ls2 := [mR 66, mI p1, mI p2, mI (h19c.2.1 80 p1), mI x179_4, mI x179_5, mI x179_6, mI x179_7, mI x198_8, mI (mm_w (x198_9 + (h6.2.1 79 (h6.2.1 82 (3 * ((12 * p1) + x198_10)))))), mI x198_10, mI (mm_w ((h7.2.1 121 ((12 * x179_7) + x198_10)) + (h7.2.1 120 (((14 * x198_10) + (h19c.2.1 80 p1)) + 1))))]) C (mm_dec dk_X12_best 195 rfl) (by decide) rfl ?_
                                  refine mm_iload C (mm_dec dk_X12_best 196 rfl) rfl ?_
                                  refine mm_iload C (mm_dec dk_X12_best 197 rfl) rfl ?_
                                  have J330 : ∀ (s330_0 : Int) (bs330_0 : -2147483648 ≤ s330_0 ∧ s330_0 ≤ 1000000000), mm_W x 0 0 330 [mR 66, mI p1, mI p2, mI (h19c.2.1 80 p1), mI x179_4, mI x179_5, mI x179_6, mI x179_7, mU, mI (mm_w (x198_9 + (h6.2.1 79 (h6.2.1 82 (3 * ((12 * p1) + x198_10)))))), mI x198_10, mU] [mI s330_0] h7 := by
                                    intro s330_0 bs330_0
                                    refine mm_istoreL (ls2 := [mR 66, mI p1, mI p2, mI (h19c.2.1 80 p1), mI x179_4, mI x179_5, mI x179_6, mI x179_7, mI s330_0, mI (mm_w (x198_9 + (h6.2.1 79 (h6.2.1 82 (3 * ((12 * p1) + x198_10)))))), mI x198_10, mU]) C (mm_dec dk_X12_best 202 rfl) (by decide) rfl ?_
                                    exact J332 s330_0 ⟨by omega, by omega⟩ (mm_w (x198_9 + (h6.2.1 79 (h6.2.1 82 (3 * ((12 * p1) + x198_10)))))) ⟨by omega, by omega⟩ h7 i7 f7
                                  refine mm_icmp_ge (tgt := 328) C (mm_dec dk_X12_best 198 rfl) (by decide) (fun c320 => ?_) (fun c320 => ?_)
                                  · skip
                                    refine mm_iload C (mm_dec dk_X12_best 201 rfl) rfl ?_
                                    refine mm_fgt 8 ?_
                                    refine mm_fgt 11 ?_
                                    exact J330 x198_8 ⟨by omega, by omega⟩
                                  · skip
                                    refine mm_iload C (mm_dec dk_X12_best 199 rfl) rfl ?_
                                    refine mm_goto (tgt := 330) C (mm_dec dk_X12_best 200 rfl) (by decide) ?_
                                    refine mm_fgt 8 ?_
                                    refine mm_fgt 11 ?_
                                    exact J330 (mm_w ((h7.2.1 121 ((12 * x179_7) + x198_10)) + (h7.2.1 120 (((14 * x198_10) + (h19c.2.1 80 p1)) + 1)))) ⟨by omega, by omega⟩
                                · skip
                                  refine mm_goto (tgt := 332) C (mm_dec dk_X12_best 140 rfl) (by decide) ?_
                                  exact J332 x198_8 ⟨by omega, by omega⟩ x198_9 ⟨by omega, by omega⟩ h6 i6 f6
                          refine mm_istoreL (ls2 := [mR 66, mI p1, mI p2, mI (h19c.2.1 80 p1), mI x179_4, mI x179_5, mI x179_6, mI x179_7, mI 1000000000, mI 0, mI 0, mU]) C (mm_dec dk_X12_best 121 rfl) (by decide) rfl ?_
                          exact J198 (((12 - 0) : Int) + 1).toNat 1000000000 ⟨by omega, by omega⟩ 0 ⟨by omega, by omega⟩ 0 ⟨by omega, by omega⟩ h179_ i179_ f179_ (by omega)
                    refine mm_istoreL (ls2 := [mR 66, mI p1, mI p2, mI (h19c.2.1 80 p1), mI 0, mI 0, mI (h48_.2.1 120 (((14 * (h19c.2.1 80 p1)) + (h19c.2.1 80 p1)) + 1)), mI 1, mU, mU, mU, mU]) C (mm_dec dk_X12_best 110 rfl) (by decide) rfl ?_
                    exact J179 (((4096 - 1) : Int) + 1).toNat 0 ⟨by omega, by omega⟩ 0 ⟨by omega, by omega⟩ (h48_.2.1 120 (((14 * (h19c.2.1 80 p1)) + (h19c.2.1 80 p1)) + 1)) ⟨by omega, by omega⟩ 1 ⟨by omega, by omega⟩ h48_ i48_ f48_ (by omega)
                  · skip
                    refine mm_fgt 0 ?_
                    refine mm_fgt 1 ?_
                    refine mm_fgt 2 ?_
                    refine mm_fgt 3 ?_
                    refine mm_fgt 4 ?_
                    exact J153
              · skip
                refine mm_aload_n C (mm_dec dk_X12_best 34 rfl) rfl ?_
                refine mm_aload_n C (mm_dec dk_X12_best 35 rfl) rfl ?_
                refine mm_iload_n C (mm_dec dk_X12_best 36 rfl) rfl ?_
                refine mm_iload C (mm_dec dk_X12_best 37 rfl) rfl ?_
                refine mm_iload_n C (mm_dec dk_X12_best 38 rfl) rfl ?_
                refine mm_cVi (rest := [mR 66]) C1 ev_X12_527 (mm_dec dk_X12_best 39 rfl) (c_X12_cellOf x.2.1 hl (d - 1) (by omega) h48_ i48_ p1 x48_4 (h19c.2.1 80 p1) ⟨by omega, by omega⟩ ⟨by omega, by omega⟩ ⟨by omega, by omega⟩) rfl rfl (Nat.le_of_ble_eq_true rfl) ⟨by decide, by decide⟩ rfl (fun r62 h62c hp62 => ?_) (fun _ _ q => q.elim)
                obtain ⟨z62, y62⟩ := hp62
                rw [z62]
                have g48 : 0 ≤ (h48_.1 66 12) ∧ (h48_.1 66 12) ≤ 19 := i48_.1 66 12
                have g49 : 0 ≤ (h48_.1 66 11) ∧ (h48_.1 66 11) ≤ 19 := i48_.1 66 11
                have g50 : 0 ≤ (h48_.1 66 10) ∧ (h48_.1 66 10) ≤ 19 := i48_.1 66 10
                have g51 : 0 ≤ (h48_.1 66 9) ∧ (h48_.1 66 9) ≤ 19 := i48_.1 66 9
                have g52 : 0 ≤ (h48_.2.1 78 (h48_.2.1 82 (3 * ((12 * p1) + x48_4)))) ∧ (h48_.2.1 78 (h48_.2.1 82 (3 * ((12 * p1) + x48_4)))) ≤ 399 := i48_.2.1 78 (h48_.2.1 82 (3 * ((12 * p1) + x48_4)))
                have g53 : 0 ≤ (h48_.2.1 82 (3 * ((12 * p1) + x48_4))) ∧ (h48_.2.1 82 (3 * ((12 * p1) + x48_4))) ≤ 19 := i48_.2.1 82 (3 * ((12 * p1) + x48_4))
                refine mm_cVv (rest := []) C1 ev_X12_280 (mm_dec dk_X12_best 40 rfl) (c_X12_towards x.2.1 hl (d - 1) (by omega) h48_ i48_ r62 ⟨by omega, by omega⟩) rfl rfl (Nat.le_of_ble_eq_true rfl) ⟨by decide, by decide⟩ rfl (fun h65c hp65 => ?_) (fun _ _ q => q.elim)
                obtain ⟨i65c, g65c, y65_0⟩ := hp65
                have f65c : mm_fr [(66, 0), (66, 18), (66, 95), (66, 96), (66, 97)] [72, 73, 75, 76, 120, 121] h h65c := mm_fr_tr f48_ g65c (by decide +kernel)
                have q65c_55 : h65c.1 66 9 = h48_.1 66 9 := g65c.1 66 9 (by decide)
                have q65c_56 : h65c.1 66 10 = h48_.1 66 10 := g65c.1 66 10 (by decide)
                have q65c_57 : h65c.1 66 11 = h48_.1 66 11 := g65c.1 66 11 (by decide)
                have q65c_58 : h65c.1 66 12 = h48_.1 66 12 := g65c.1 66 12 (by decide)
                have q65c_59 : h65c.1 66 22 = h48_.1 66 22 := g65c.1 66 22 (by decide)
                refine mm_iconst C (mm_dec dk_X12_best 41 rfl) ⟨by decide, by decide⟩ ?_
                have J71 : ∀ (n : Nat) (x71_5 : Int) (bx71_5 : 0 ≤ x71_5 ∧ x71_5 ≤ 19) (h71_ : mH) (i71_ : mm_inv h71_) (f71_ : mm_fr [(66, 0), (66, 18), (66, 95), (66, 96), (66, 97)] [72, 73, 75, 76, 120, 121] h h71_), (19 - x71_5 : Int) < n → mm_W x 0 0 71 [mR 66, mI p1, mI p2, mI (h19c.2.1 80 p1), mI x48_4, mI x71_5, mU, mU, mU, mU, mU, mU] [] h71_ := by
                  intro n
                  induction n with
                  | zero =>
                    intro x71_5 bx71_5 h71_ i71_ f71_ hm
                    have g60 : 0 ≤ h71_.1 66 22 ∧ h71_.1 66 22 ≤ 8 := i71_.1 66 22
                    exfalso; omega
                  | succ n ih71 =>
                    intro x71_5 bx71_5 h71_ i71_ f71_ hm71
                    have g61 : 0 ≤ h71_.1 66 22 ∧ h71_.1 66 22 ≤ 8 := i71_.1 66 22
                    have g62 : h71_.1 66 22 = h.1 66 22 := f71_.1 66 22 (by decide)
                    refine mm_iload C (mm_dec dk_X12_best 43 rfl) rfl ?_
                    refine mm_iload_n C (mm_dec dk_X12_best 44 rfl) rfl ?_
                    refine mm_iconst C (mm_dec dk_X12_best 45 rfl) ⟨by decide, by decide⟩ ?_
                    refine mm_iadd C (mm_dec dk_X12_best 46 rfl) ⟨by omega, by omega⟩ ?_
                    refine mm_icmp_ge (tgt := 111) C (mm_dec dk_X12_best 47 rfl) (by decide) (fun c76 => ?_) (fun c76 => ?_)
                    · skip
                      refine mm_iincL (ls2 := [mR 66, mI p1, mI p2, mI (h19c.2.1 80 p1), mI (x48_4 + 1), mI x71_5, mU, mU, mU, mU, mU, mU]) C (mm_dec dk_X12_best 66 rfl) rfl (by decide) ⟨by omega, by omega⟩ rfl ?_
                      refine mm_goto (tgt := 48) C (mm_dec dk_X12_best 67 rfl) (by decide) ?_
                      refine mm_fgt 5 ?_
                      exact ih48 (x48_4 + 1) ⟨by omega, by omega⟩ h71_ i71_ f71_ (by omega)
                    · skip
                      refine mm_aload_n C (mm_dec dk_X12_best 48 rfl) rfl ?_
                      refine mm_getr (t := 120) C fl_X12_171 (mm_dec dk_X12_best 49 rfl) rfl rfl (mm_ref i71_ rfl) ?_
                      refine mm_bipush C (mm_dec dk_X12_best 50 rfl) ⟨by decide, by decide⟩ ?_
                      refine mm_iload C (mm_dec dk_X12_best 51 rfl) rfl ?_
                      refine mm_imul C (mm_dec dk_X12_best 52 rfl) ⟨by omega, by omega⟩ ?_
                      refine mm_iload C (mm_dec dk_X12_best 53 rfl) rfl ?_
                      refine mm_iadd C (mm_dec dk_X12_best 54 rfl) ⟨by omega, by omega⟩ ?_
                      refine mm_aload_n C (mm_dec dk_X12_best 55 rfl) rfl ?_
                      refine mm_getr (t := 72) C fl_X12_26 (mm_dec dk_X12_best 56 rfl) rfl rfl (mm_ref i71_ rfl) ?_
                      refine mm_aload_n C (mm_dec dk_X12_best 57 rfl) rfl ?_
                      refine mm_iload_n C (mm_dec dk_X12_best 58 rfl) rfl ?_
                      refine mm_iload C (mm_dec dk_X12_best 59 rfl) rfl ?_
                      refine mm_iload_n C (mm_dec dk_X12_best 60 rfl) rfl ?_
                      refine mm_cVi (rest := [mR 72, mI ((14 * x71_5) + x48_4), mR 120]) C1 ev_X12_527 (mm_dec dk_X12_best 61 rfl) (c_X12_cellOf x.2.1 hl (d - 1) (by omega) h71_ i71_ p1 x71_5 (h19c.2.1 80 p1) ⟨by omega, by omega⟩ ⟨by omega, by omega⟩ ⟨by omega, by omega⟩) rfl rfl (Nat.le_of_ble_eq_true rfl) ⟨by decide, by decide⟩ rfl (fun r100 h100c hp100 => ?_) (fun _ _ q => q.elim)
                      obtain ⟨z100, y100⟩ := hp100
                      rw [z100]
                      have g64 : 0 ≤ (h71_.1 66 12) ∧ (h71_.1 66 12) ≤ 19 := i71_.1 66 12
                      have g65 : 0 ≤ (h71_.1 66 11) ∧ (h71_.1 66 11) ≤ 19 := i71_.1 66 11
                      have g66 : 0 ≤ (h71_.1 66 10) ∧ (h71_.1 66 10) ≤ 19 := i71_.1 66 10
                      have g67 : 0 ≤ (h71_.1 66 9) ∧ (h71_.1 66 9) ≤ 19 := i71_.1 66 9
                      have g68 : 0 ≤ (h71_.2.1 78 (h71_.2.1 82 (3 * ((12 * p1) + x71_5)))) ∧ (h71_.2.1 78 (h71_.2.1 82 (3 * ((12 * p1) + x71_5)))) ≤ 399 := i71_.2.1 78 (h71_.2.1 82 (3 * ((12 * p1) + x71_5)))
                      have g69 : 0 ≤ (h71_.2.1 82 (3 * ((12 * p1) + x71_5))) ∧ (h71_.2.1 82 (3 * ((12 * p1) + x71_5))) ≤ 19 := i71_.2.1 82 (3 * ((12 * p1) + x71_5))
                      refine mm_iald C (mm_dec dk_X12_best 62 rfl) rfl (by omega) (by omega) ?_
                      have g70 : 0 ≤ (h71_.2.1 72 r100) ∧ (h71_.2.1 72 r100) ≤ 1000000000 := i71_.2.1 72 r100
                      refine mm_iast C (mm_dec dk_X12_best 63 rfl) rfl (by omega) (by omega) ?_
                      have i9 : mm_inv (mm_pa h71_ 120 ((14 * x71_5) + x48_4) (h71_.2.1 72 r100)) := mm_inv_pa i71_ (show -2147483648 ≤ (h71_.2.1 72 r100) ∧ (h71_.2.1 72 r100) ≤ 2147483647 from ⟨by omega, by omega⟩)
                      have f9 : mm_fr [(66, 0), (66, 18), (66, 95), (66, 96), (66, 97)] [72, 73, 75, 76, 120, 121] h (mm_pa h71_ 120 ((14 * x71_5) + x48_4) (h71_.2.1 72 r100)) := mm_fr_pa f71_ (by decide)
                      obtain ⟨h9, eh9⟩ : ∃ z, z = mm_pa h71_ 120 ((14 * x71_5) + x48_4) (h71_.2.1 72 r100) := ⟨_, rfl⟩
                      rw [← eh9] at i9 f9 ⊢
                      have qh9_71 : h9.1 66 9 = h71_.1 66 9 := by rw [eh9]; rfl
                      have qh9_72 : h9.1 66 10 = h71_.1 66 10 := by rw [eh9]; rfl
                      have qh9_73 : h9.1 66 11 = h71_.1 66 11 := by rw [eh9]; rfl
                      have qh9_74 : h9.1 66 12 = h71_.1 66 12 := by rw [eh9]; rfl
                      have qh9_75 : h9.1 66 22 = h71_.1 66 22 := by rw [eh9]; rfl
                      refine mm_iincL (ls2 := [mR 66, mI p1, mI p2, mI (h19c.2.1 80 p1), mI x48_4, mI (x71_5 + 1), mU, mU, mU, mU, mU, mU]) C (mm_dec dk_X12_best 64 rfl) rfl (by decide) ⟨by omega, by omega⟩ rfl ?_
                      refine mm_goto (tgt := 71) C (mm_dec dk_X12_best 65 rfl) (by decide) ?_
                      exact ih71 (x71_5 + 1) ⟨by omega, by omega⟩ h9 i9 f9 (by omega)
                refine mm_istoreL (ls2 := [mR 66, mI p1, mI p2, mI (h19c.2.1 80 p1), mI x48_4, mI 0, mU, mU, mU, mU, mU, mU]) C (mm_dec dk_X12_best 42 rfl) (by decide) rfl ?_
                exact J71 (((19 - 0) : Int) + 1).toNat 0 ⟨by omega, by omega⟩ h65c i65c f65c (by omega)
          refine mm_istoreL (ls2 := [mR 66, mI p1, mI p2, mI (h19c.2.1 80 p1), mI 0, mU, mU, mU, mU, mU, mU, mU]) C (mm_dec dk_X12_best 28 rfl) (by decide) rfl ?_
          exact J48 (((19 - 0) : Int) + 1).toNat 0 ⟨by omega, by omega⟩ h19c i19c f19c (by omega)
        · skip
          refine mm_iconst C (mm_dec dk_X12_best 20 rfl) ⟨by decide, by decide⟩ ?_
          exact mm_iret C T (mm_dec dk_X12_best 21 rfl) (by decide : 0 ≤ 0) (by decide : 0 ≤ 0) ⟨_, rfl, ⟨⟨by omega, by omega⟩, i19c, f19c⟩⟩
      · skip
        refine mm_fgt 0 ?_
        refine mm_fgt 1 ?_
        refine mm_fgt 2 ?_
        exact J25 h19c i19c f19c
    refine mm_if_lt (tgt := 17) C (mm_dec dk_X12_best 6 rfl) (by decide) (fun c10 => ?_) (fun c10 => ?_)
    · skip
      refine mm_iconst C (mm_dec dk_X12_best 9 rfl) ⟨by decide, by decide⟩ ?_
      exact J18 0 ⟨by omega, by omega⟩ (Or.inl ⟨by omega, rfl⟩)
    · skip
      refine mm_iconst C (mm_dec dk_X12_best 7 rfl) ⟨by decide, by decide⟩ ?_
      refine mm_goto (tgt := 18) C (mm_dec dk_X12_best 8 rfl) (by decide) ?_
      exact J18 1 ⟨by omega, by omega⟩ (Or.inr (⟨by omega, rfl⟩))
