set_option maxRecDepth 100000 in
set_option maxHeartbeats 4000000 in
theorem c_X12_right (l : Launch) (hl : l.stackTraces = false) (d : Nat) (hd : 0 ≤ d) (h : mH) (i0 : mm_inv h) (p1 : Int) (p2 : Int) (bp1 : 0 ≤ p1 ∧ p1 ≤ 1) (u0 : p2 ≠ 0) : mm_Met l d yX12_right cX12_right 3 (some .boolean) [mR 66, mI p1, mI p2] h (mm_pi fun r h2 => (0 ≤ r ∧ r ≤ 1) ∧ mm_inv h2 ∧ mm_fr [(66, 0)] [] h h2 ∧ (r = 0 ∨ (p1 ≠ 0))) mm_nx 0 0 := by
  refine mm_ofW (ls := [mR 66, mI p1, mI p2]) hl (by decide) rfl (Nat.le_of_ble_eq_true rfl) ?_
  intro x hxl C T hnm htb
  subst hxl
  refine mm_rng (fun hr _ => ?_)
  have ap1 : -2147483648 ≤ p1 ∧ p1 < 2147483648 := mm_ok_at hr (i := 1) rfl
  have ap2 : -2147483648 ≤ p2 ∧ p2 < 2147483648 := mm_ok_at hr (i := 2) rfl
  have f0 : mm_fr [(66, 0)] [] h h := mm_fr_rf
  refine mm_aload_n C (mm_dec dk_X12_right 0 rfl) rfl ?_
  refine mm_geti C fl_X12_188 (mm_dec dk_X12_right 1 rfl) rfl rfl (Or.inl rfl) ?_
  have g1 : -2147483648 ≤ (h.1 66 0) ∧ (h.1 66 0) ≤ 2147483647 := i0.1 66 0
  refine mm_if_ne (tgt := 16) C (mm_dec dk_X12_right 2 rfl) (by decide) (fun c4 => ?_) (fun c4 => ?_)
  · skip
    refine mm_aload_n C (mm_dec dk_X12_right 8 rfl) rfl ?_
    refine mm_geti C fl_X12_188 (mm_dec dk_X12_right 9 rfl) rfl rfl (Or.inl rfl) ?_
    refine mm_if_ne (tgt := 27) C (mm_dec dk_X12_right 10 rfl) (by decide) (fun c20 => ?_) (fun c20 => ?_)
    · skip
      refine mm_iconst C (mm_dec dk_X12_right 13 rfl) ⟨by decide, by decide⟩ ?_
      exact mm_zret C T (mm_dec dk_X12_right 14 rfl) (by decide : 0 ≤ 0) (by decide : 0 ≤ 0) (by omega) ⟨_, rfl, ⟨⟨by omega, by omega⟩, i0, f0, by omega⟩⟩
    · skip
      refine mm_iconst C (mm_dec dk_X12_right 11 rfl) ⟨by decide, by decide⟩ ?_
      refine mm_goto (tgt := 28) C (mm_dec dk_X12_right 12 rfl) (by decide) ?_
      exact mm_zret C T (mm_dec dk_X12_right 14 rfl) (by decide : 0 ≤ 0) (by decide : 0 ≤ 0) (by omega) ⟨_, rfl, ⟨⟨by omega, by omega⟩, i0, f0, by omega⟩⟩
  · skip
    refine mm_iload_n C (mm_dec dk_X12_right 3 rfl) rfl ?_
    refine mm_if_ne (tgt := 16) C (mm_dec dk_X12_right 4 rfl) (by decide) (fun c8 => ?_) (fun c8 => ?_)
    · skip
      refine mm_aload_n C (mm_dec dk_X12_right 8 rfl) rfl ?_
      refine mm_geti C fl_X12_188 (mm_dec dk_X12_right 9 rfl) rfl rfl (Or.inl rfl) ?_
      refine mm_if_ne (tgt := 27) C (mm_dec dk_X12_right 10 rfl) (by decide) (fun c20 => ?_) (fun c20 => ?_)
      · skip
        exfalso; omega
      · skip
        refine mm_iconst C (mm_dec dk_X12_right 11 rfl) ⟨by decide, by decide⟩ ?_
        refine mm_goto (tgt := 28) C (mm_dec dk_X12_right 12 rfl) (by decide) ?_
        exact mm_zret C T (mm_dec dk_X12_right 14 rfl) (by decide : 0 ≤ 0) (by decide : 0 ≤ 0) (by omega) ⟨_, rfl, ⟨⟨by omega, by omega⟩, i0, f0, by omega⟩⟩
    · skip
      refine mm_aload_n C (mm_dec dk_X12_right 5 rfl) rfl ?_
      refine mm_iload_n C (mm_dec dk_X12_right 6 rfl) rfl ?_
      refine mm_puti C fl_X12_188 (mm_dec dk_X12_right 7 rfl) rfl rfl rfl (Or.inl ⟨rfl, rfl⟩) ?_
      have i1 : mm_inv (mm_pf h 66 0 p2) := mm_inv_pf i0 (show -2147483648 ≤ p2 ∧ p2 ≤ 2147483647 from ⟨by omega, by omega⟩) (by decide)
      have f1 : mm_fr [(66, 0)] [] h (mm_pf h 66 0 p2) := mm_fr_pf f0 (by decide)
      obtain ⟨h1, eh1⟩ : ∃ z, z = mm_pf h 66 0 p2 := ⟨_, rfl⟩
      rw [← eh1] at i1 f1 ⊢
      have qh1 : h1.1 66 0 = p2 := by rw [eh1]; exact mm_pf_same _ _ _ _
      refine mm_aload_n C (mm_dec dk_X12_right 8 rfl) rfl ?_
      refine mm_geti C fl_X12_188 (mm_dec dk_X12_right 9 rfl) rfl rfl (Or.inl rfl) ?_
      refine mm_if_ne (tgt := 27) C (mm_dec dk_X12_right 10 rfl) (by decide) (fun c20 => ?_) (fun c20 => ?_)
      · skip
        refine mm_iconst C (mm_dec dk_X12_right 13 rfl) ⟨by decide, by decide⟩ ?_
        exact mm_zret C T (mm_dec dk_X12_right 14 rfl) (by decide : 0 ≤ 0) (by decide : 0 ≤ 0) (by omega) ⟨_, rfl, ⟨⟨by omega, by omega⟩, i1, f1, by omega⟩⟩
      · skip
        refine mm_iconst C (mm_dec dk_X12_right 11 rfl) ⟨by decide, by decide⟩ ?_
        refine mm_goto (tgt := 28) C (mm_dec dk_X12_right 12 rfl) (by decide) ?_
        exact mm_zret C T (mm_dec dk_X12_right 14 rfl) (by decide : 0 ≤ 0) (by decide : 0 ≤ 0) (by omega) ⟨_, rfl, ⟨⟨by omega, by omega⟩, i1, f1, by omega⟩⟩
set_option maxRecDepth 100000 in
set_option maxHeartbeats 4000000 in
theorem c_X12_anew (l : Launch) (hl : l.stackTraces = false) (d : Nat) (hd : 0 ≤ d) (h : mH) (i0 : mm_inv h) (p1 : Int) (p2 : Int) (bp1 : 1 ≤ p1 ∧ p1 ≤ 20) (bp2 : 1 ≤ p2 ∧ p2 ≤ 20) : mm_Met l d yX12_anew cX12_anew 4 none [mR 66, mI p1, mI p2] h (mm_pv fun h2 => mm_inv h2 ∧ mm_fr [(66, 1), (66, 2), (66, 3), (66, 9), (66, 10), (66, 11), (66, 12), (66, 19), (66, 21), (66, 22), (66, 23), (66, 24), (66, 40), (66, 41), (66, 58), (66, 67), (66, 82), (66, 95)] [67, 68, 69, 70, 71] h h2) mm_nx 0 0 := by
  refine mm_ofW (ls := [mR 66, mI p1, mI p2, mU]) hl (by decide) rfl (Nat.le_of_ble_eq_true rfl) ?_
  intro x hxl C T hnm htb
  subst hxl
  refine mm_rng (fun hr _ => ?_)
  have ap1 : -2147483648 ≤ p1 ∧ p1 < 2147483648 := mm_ok_at hr (i := 1) rfl
  have ap2 : -2147483648 ≤ p2 ∧ p2 < 2147483648 := mm_ok_at hr (i := 2) rfl
  have f0 : mm_fr [(66, 1), (66, 2), (66, 3), (66, 9), (66, 10), (66, 11), (66, 12), (66, 19), (66, 21), (66, 22), (66, 23), (66, 24), (66, 40), (66, 41), (66, 58), (66, 67), (66, 82), (66, 95)] [67, 68, 69, 70, 71] h h := mm_fr_rf
  refine mm_aload_n C (mm_dec dk_X12_anew 0 rfl) rfl ?_
  refine mm_iload_n C (mm_dec dk_X12_anew 1 rfl) rfl ?_
  refine mm_puti C fl_X12_192 (mm_dec dk_X12_anew 2 rfl) rfl rfl rfl (Or.inl ⟨rfl, rfl⟩) ?_
  have i1 : mm_inv (mm_pf h 66 1 p1) := mm_inv_pf i0 (show 1 ≤ p1 ∧ p1 ≤ 20 from ⟨by omega, by omega⟩) (by decide)
  have f1 : mm_fr [(66, 1), (66, 2), (66, 3), (66, 9), (66, 10), (66, 11), (66, 12), (66, 19), (66, 21), (66, 22), (66, 23), (66, 24), (66, 40), (66, 41), (66, 58), (66, 67), (66, 82), (66, 95)] [67, 68, 69, 70, 71] h (mm_pf h 66 1 p1) := mm_fr_pf f0 (by decide)
  obtain ⟨h1, eh1⟩ : ∃ z, z = mm_pf h 66 1 p1 := ⟨_, rfl⟩
  rw [← eh1] at i1 f1 ⊢
  have qh1 : h1.1 66 1 = p1 := by rw [eh1]; exact mm_pf_same _ _ _ _
  refine mm_aload_n C (mm_dec dk_X12_anew 3 rfl) rfl ?_
  refine mm_iload_n C (mm_dec dk_X12_anew 4 rfl) rfl ?_
  refine mm_puti C fl_X12_195 (mm_dec dk_X12_anew 5 rfl) rfl rfl rfl (Or.inl ⟨rfl, rfl⟩) ?_
  have i2 : mm_inv (mm_pf h1 66 2 p2) := mm_inv_pf i1 (show 1 ≤ p2 ∧ p2 ≤ 20 from ⟨by omega, by omega⟩) (by decide)
  have f2 : mm_fr [(66, 1), (66, 2), (66, 3), (66, 9), (66, 10), (66, 11), (66, 12), (66, 19), (66, 21), (66, 22), (66, 23), (66, 24), (66, 40), (66, 41), (66, 58), (66, 67), (66, 82), (66, 95)] [67, 68, 69, 70, 71] h (mm_pf h1 66 2 p2) := mm_fr_pf f1 (by decide)
  obtain ⟨h2, eh2⟩ : ∃ z, z = mm_pf h1 66 2 p2 := ⟨_, rfl⟩
  rw [← eh2] at i2 f2 ⊢
  have qh2 : h2.1 66 2 = p2 := by rw [eh2]; exact mm_pf_same _ _ _ _
  have qh2_1 : h2.1 66 1 = h1.1 66 1 := by rw [eh2]; exact mm_pf_ne _ _ (by decide)
  refine mm_aload_n C (mm_dec dk_X12_anew 6 rfl) rfl ?_
  refine mm_iconst C (mm_dec dk_X12_anew 7 rfl) ⟨by decide, by decide⟩ ?_
  refine mm_puti C fl_X12_198 (mm_dec dk_X12_anew 8 rfl) rfl rfl rfl (Or.inl ⟨rfl, rfl⟩) ?_
  have i3 : mm_inv (mm_pf h2 66 3 2) := mm_inv_pf i2 (show 0 ≤ 2 ∧ 2 ≤ 9 from ⟨by omega, by omega⟩) (by decide)
  have f3 : mm_fr [(66, 1), (66, 2), (66, 3), (66, 9), (66, 10), (66, 11), (66, 12), (66, 19), (66, 21), (66, 22), (66, 23), (66, 24), (66, 40), (66, 41), (66, 58), (66, 67), (66, 82), (66, 95)] [67, 68, 69, 70, 71] h (mm_pf h2 66 3 2) := mm_fr_pf f2 (by decide)
  obtain ⟨h3, eh3⟩ : ∃ z, z = mm_pf h2 66 3 2 := ⟨_, rfl⟩
  rw [← eh3] at i3 f3 ⊢
  have qh3 : h3.1 66 3 = 2 := by rw [eh3]; exact mm_pf_same _ _ _ _
  have qh3_2 : h3.1 66 1 = h2.1 66 1 := by rw [eh3]; exact mm_pf_ne _ _ (by decide)
  have qh3_3 : h3.1 66 2 = h2.1 66 2 := by rw [eh3]; exact mm_pf_ne _ _ (by decide)
  refine mm_iconst C (mm_dec dk_X12_anew 9 rfl) ⟨by decide, by decide⟩ ?_
  have J17 : ∀ (n : Nat) (x17_3 : Int) (bx17_3 : 0 ≤ x17_3 ∧ x17_3 ≤ 400) (h17_ : mH) (i17_ : mm_inv h17_) (f17_ : mm_fr [(66, 1), (66, 2), (66, 3), (66, 9), (66, 10), (66, 11), (66, 12), (66, 19), (66, 21), (66, 22), (66, 23), (66, 24), (66, 40), (66, 41), (66, 58), (66, 67), (66, 82), (66, 95)] [67, 68, 69, 70, 71] h h17_), (400 - x17_3 : Int) < n → mm_W x 0 0 17 [mR 66, mU, mU, mI x17_3] [] h17_ := by
    intro n
    induction n with
    | zero =>
      intro x17_3 bx17_3 h17_ i17_ f17_ hm
      exfalso; omega
    | succ n ih17 =>
      intro x17_3 bx17_3 h17_ i17_ f17_ hm17
      refine mm_iload_n C (mm_dec dk_X12_anew 11 rfl) rfl ?_
      refine mm_sipush C (mm_dec dk_X12_anew 12 rfl) ⟨by decide, by decide⟩ ?_
      refine mm_icmp_ge (tgt := 58) C (mm_dec dk_X12_anew 13 rfl) (by decide) (fun c21 => ?_) (fun c21 => ?_)
      · skip
        refine mm_iconst C (mm_dec dk_X12_anew 36 rfl) ⟨by decide, by decide⟩ ?_
        have J60 : ∀ (n : Nat) (x60_3 : Int) (bx60_3 : 0 ≤ x60_3 ∧ x60_3 ≤ 8) (h60_ : mH) (i60_ : mm_inv h60_) (f60_ : mm_fr [(66, 1), (66, 2), (66, 3), (66, 9), (66, 10), (66, 11), (66, 12), (66, 19), (66, 21), (66, 22), (66, 23), (66, 24), (66, 40), (66, 41), (66, 58), (66, 67), (66, 82), (66, 95)] [67, 68, 69, 70, 71] h h60_), (8 - x60_3 : Int) < n → mm_W x 0 0 60 [mR 66, mU, mU, mI x60_3] [] h60_ := by
          intro n
          induction n with
          | zero =>
            intro x60_3 bx60_3 h60_ i60_ f60_ hm
            exfalso; omega
          | succ n ih60 =>
            intro x60_3 bx60_3 h60_ i60_ f60_ hm60
            refine mm_iload_n C (mm_dec dk_X12_anew 38 rfl) rfl ?_
            refine mm_bipush C (mm_dec dk_X12_anew 39 rfl) ⟨by decide, by decide⟩ ?_
            refine mm_icmp_ge (tgt := 79) C (mm_dec dk_X12_anew 40 rfl) (by decide) (fun c63 => ?_) (fun c63 => ?_)
            · skip
              refine mm_aload_n C (mm_dec dk_X12_anew 48 rfl) rfl ?_
              refine mm_iconst C (mm_dec dk_X12_anew 49 rfl) ⟨by decide, by decide⟩ ?_
              refine mm_puti C fl_X12_201 (mm_dec dk_X12_anew 50 rfl) rfl rfl rfl (Or.inl ⟨rfl, rfl⟩) ?_
              have i4 : mm_inv (mm_pf h60_ 66 9 0) := mm_inv_pf i60_ (show 0 ≤ 0 ∧ 0 ≤ 19 from ⟨by omega, by omega⟩) (by decide)
              have f4 : mm_fr [(66, 1), (66, 2), (66, 3), (66, 9), (66, 10), (66, 11), (66, 12), (66, 19), (66, 21), (66, 22), (66, 23), (66, 24), (66, 40), (66, 41), (66, 58), (66, 67), (66, 82), (66, 95)] [67, 68, 69, 70, 71] h (mm_pf h60_ 66 9 0) := mm_fr_pf f60_ (by decide)
              obtain ⟨h4, eh4⟩ : ∃ z, z = mm_pf h60_ 66 9 0 := ⟨_, rfl⟩
              rw [← eh4] at i4 f4 ⊢
              have qh4 : h4.1 66 9 = 0 := by rw [eh4]; exact mm_pf_same _ _ _ _
              refine mm_aload_n C (mm_dec dk_X12_anew 51 rfl) rfl ?_
              refine mm_iconst C (mm_dec dk_X12_anew 52 rfl) ⟨by decide, by decide⟩ ?_
              refine mm_puti C fl_X12_204 (mm_dec dk_X12_anew 53 rfl) rfl rfl rfl (Or.inl ⟨rfl, rfl⟩) ?_
              have i5 : mm_inv (mm_pf h4 66 10 0) := mm_inv_pf i4 (show 0 ≤ 0 ∧ 0 ≤ 19 from ⟨by omega, by omega⟩) (by decide)
              have f5 : mm_fr [(66, 1), (66, 2), (66, 3), (66, 9), (66, 10), (66, 11), (66, 12), (66, 19), (66, 21), (66, 22), (66, 23), (66, 24), (66, 40), (66, 41), (66, 58), (66, 67), (66, 82), (66, 95)] [67, 68, 69, 70, 71] h (mm_pf h4 66 10 0) := mm_fr_pf f4 (by decide)
              obtain ⟨h5, eh5⟩ : ∃ z, z = mm_pf h4 66 10 0 := ⟨_, rfl⟩
              rw [← eh5] at i5 f5 ⊢
              have qh5 : h5.1 66 10 = 0 := by rw [eh5]; exact mm_pf_same _ _ _ _
              have qh5_4 : h5.1 66 9 = h4.1 66 9 := by rw [eh5]; exact mm_pf_ne _ _ (by decide)
              refine mm_aload_n C (mm_dec dk_X12_anew 54 rfl) rfl ?_
              refine mm_iconst C (mm_dec dk_X12_anew 55 rfl) ⟨by decide, by decide⟩ ?_
              refine mm_puti C fl_X12_207 (mm_dec dk_X12_anew 56 rfl) rfl rfl rfl (Or.inl ⟨rfl, rfl⟩) ?_
              have i6 : mm_inv (mm_pf h5 66 11 0) := mm_inv_pf i5 (show 0 ≤ 0 ∧ 0 ≤ 19 from ⟨by omega, by omega⟩) (by decide)
              have f6 : mm_fr [(66, 1), (66, 2), (66, 3), (66, 9), (66, 10), (66, 11), (66, 12), (66, 19), (66, 21), (66, 22), (66, 23), (66, 24), (66, 40), (66, 41), (66, 58), (66, 67), (66, 82), (66, 95)] [67, 68, 69, 70, 71] h (mm_pf h5 66 11 0) := mm_fr_pf f5 (by decide)
              obtain ⟨h6, eh6⟩ : ∃ z, z = mm_pf h5 66 11 0 := ⟨_, rfl⟩
              rw [← eh6] at i6 f6 ⊢
              have qh6 : h6.1 66 11 = 0 := by rw [eh6]; exact mm_pf_same _ _ _ _
              have qh6_5 : h6.1 66 9 = h5.1 66 9 := by rw [eh6]; exact mm_pf_ne _ _ (by decide)
              have qh6_6 : h6.1 66 10 = h5.1 66 10 := by rw [eh6]; exact mm_pf_ne _ _ (by decide)
              refine mm_aload_n C (mm_dec dk_X12_anew 57 rfl) rfl ?_
              refine mm_iconst C (mm_dec dk_X12_anew 58 rfl) ⟨by decide, by decide⟩ ?_
              refine mm_puti C fl_X12_210 (mm_dec dk_X12_anew 59 rfl) rfl rfl rfl (Or.inl ⟨rfl, rfl⟩) ?_
              have i7 : mm_inv (mm_pf h6 66 12 0) := mm_inv_pf i6 (show 0 ≤ 0 ∧ 0 ≤ 19 from ⟨by omega, by omega⟩) (by decide)
              have f7 : mm_fr [(66, 1), (66, 2), (66, 3), (66, 9), (66, 10), (66, 11), (66, 12), (66, 19), (66, 21), (66, 22), (66, 23), (66, 24), (66, 40), (66, 41), (66, 58), (66, 67), (66, 82), (66, 95)] [67, 68, 69, 70, 71] h (mm_pf h6 66 12 0) := mm_fr_pf f6 (by decide)
              obtain ⟨h7, eh7⟩ : ∃ z, z = mm_pf h6 66 12 0 := ⟨_, rfl⟩
              rw [← eh7] at i7 f7 ⊢
              have qh7 : h7.1 66 12 = 0 := by rw [eh7]; exact mm_pf_same _ _ _ _
              have qh7_7 : h7.1 66 9 = h6.1 66 9 := by rw [eh7]; exact mm_pf_ne _ _ (by decide)
              have qh7_8 : h7.1 66 10 = h6.1 66 10 := by rw [eh7]; exact mm_pf_ne _ _ (by decide)
              have qh7_9 : h7.1 66 11 = h6.1 66 11 := by rw [eh7]; exact mm_pf_ne _ _ (by decide)
              refine mm_aload_n C (mm_dec dk_X12_anew 60 rfl) rfl ?_
              refine mm_iconst C (mm_dec dk_X12_anew 61 rfl) ⟨by decide, by decide⟩ ?_
              refine mm_puti C fl_X12_213 (mm_dec dk_X12_anew 62 rfl) rfl rfl rfl (Or.inl ⟨rfl, rfl⟩) ?_
              have i8 : mm_inv (mm_pf h7 66 19 (-1)) := mm_inv_pf i7 (show -1 ≤ (-1) ∧ (-1) ≤ 400 from ⟨by omega, by omega⟩) (by decide)
              have f8 : mm_fr [(66, 1), (66, 2), (66, 3), (66, 9), (66, 10), (66, 11), (66, 12), (66, 19), (66, 21), (66, 22), (66, 23), (66, 24), (66, 40), (66, 41), (66, 58), (66, 67), (66, 82), (66, 95)] [67, 68, 69, 70, 71] h (mm_pf h7 66 19 (-1)) := mm_fr_pf f7 (by decide)
              obtain ⟨h8, eh8⟩ : ∃ z, z = mm_pf h7 66 19 (-1) := ⟨_, rfl⟩
              rw [← eh8] at i8 f8 ⊢
              have qh8 : h8.1 66 19 = (-1) := by rw [eh8]; exact mm_pf_same _ _ _ _
              have qh8_10 : h8.1 66 9 = h7.1 66 9 := by rw [eh8]; exact mm_pf_ne _ _ (by decide)
              have qh8_11 : h8.1 66 10 = h7.1 66 10 := by rw [eh8]; exact mm_pf_ne _ _ (by decide)
              have qh8_12 : h8.1 66 11 = h7.1 66 11 := by rw [eh8]; exact mm_pf_ne _ _ (by decide)
              have qh8_13 : h8.1 66 12 = h7.1 66 12 := by rw [eh8]; exact mm_pf_ne _ _ (by decide)
              refine mm_aload_n C (mm_dec dk_X12_anew 63 rfl) rfl ?_
              refine mm_iconst C (mm_dec dk_X12_anew 64 rfl) ⟨by decide, by decide⟩ ?_
              refine mm_puti C fl_X12_216 (mm_dec dk_X12_anew 65 rfl) rfl rfl rfl (Or.inl ⟨rfl, rfl⟩) ?_
              have i9 : mm_inv (mm_pf h8 66 21 0) := mm_inv_pf i8 (show 0 ≤ 0 ∧ 0 ≤ 20 from ⟨by omega, by omega⟩) (by decide)
              have f9 : mm_fr [(66, 1), (66, 2), (66, 3), (66, 9), (66, 10), (66, 11), (66, 12), (66, 19), (66, 21), (66, 22), (66, 23), (66, 24), (66, 40), (66, 41), (66, 58), (66, 67), (66, 82), (66, 95)] [67, 68, 69, 70, 71] h (mm_pf h8 66 21 0) := mm_fr_pf f8 (by decide)
              obtain ⟨h9, eh9⟩ : ∃ z, z = mm_pf h8 66 21 0 := ⟨_, rfl⟩
              rw [← eh9] at i9 f9 ⊢
              have qh9 : h9.1 66 21 = 0 := by rw [eh9]; exact mm_pf_same _ _ _ _
              have qh9_14 : h9.1 66 9 = h8.1 66 9 := by rw [eh9]; exact mm_pf_ne _ _ (by decide)
              have qh9_15 : h9.1 66 10 = h8.1 66 10 := by rw [eh9]; exact mm_pf_ne _ _ (by decide)
              have qh9_16 : h9.1 66 11 = h8.1 66 11 := by rw [eh9]; exact mm_pf_ne _ _ (by decide)
              have qh9_17 : h9.1 66 12 = h8.1 66 12 := by rw [eh9]; exact mm_pf_ne _ _ (by decide)
              have qh9_18 : h9.1 66 19 = h8.1 66 19 := by rw [eh9]; exact mm_pf_ne _ _ (by decide)
              refine mm_aload_n C (mm_dec dk_X12_anew 66 rfl) rfl ?_
              refine mm_iconst C (mm_dec dk_X12_anew 67 rfl) ⟨by decide, by decide⟩ ?_
              refine mm_puti C fl_X12_219 (mm_dec dk_X12_anew 68 rfl) rfl rfl rfl (Or.inl ⟨rfl, rfl⟩) ?_
              have i10 : mm_inv (mm_pf h9 66 22 0) := mm_inv_pf i9 (show 0 ≤ 0 ∧ 0 ≤ 8 from ⟨by omega, by omega⟩) (by decide)
              have f10 : mm_fr [(66, 1), (66, 2), (66, 3), (66, 9), (66, 10), (66, 11), (66, 12), (66, 19), (66, 21), (66, 22), (66, 23), (66, 24), (66, 40), (66, 41), (66, 58), (66, 67), (66, 82), (66, 95)] [67, 68, 69, 70, 71] h (mm_pf h9 66 22 0) := mm_fr_pf f9 (by decide)
              obtain ⟨h10, eh10⟩ : ∃ z, z = mm_pf h9 66 22 0 := ⟨_, rfl⟩
              rw [← eh10] at i10 f10 ⊢
              have qh10 : h10.1 66 22 = 0 := by rw [eh10]; exact mm_pf_same _ _ _ _
              have qh10_19 : h10.1 66 9 = h9.1 66 9 := by rw [eh10]; exact mm_pf_ne _ _ (by decide)
              have qh10_20 : h10.1 66 10 = h9.1 66 10 := by rw [eh10]; exact mm_pf_ne _ _ (by decide)
              have qh10_21 : h10.1 66 11 = h9.1 66 11 := by rw [eh10]; exact mm_pf_ne _ _ (by decide)
              have qh10_22 : h10.1 66 12 = h9.1 66 12 := by rw [eh10]; exact mm_pf_ne _ _ (by decide)
              have qh10_23 : h10.1 66 19 = h9.1 66 19 := by rw [eh10]; exact mm_pf_ne _ _ (by decide)
              have qh10_24 : h10.1 66 21 = h9.1 66 21 := by rw [eh10]; exact mm_pf_ne _ _ (by decide)
              refine mm_aload_n C (mm_dec dk_X12_anew 69 rfl) rfl ?_
              refine mm_iconst C (mm_dec dk_X12_anew 70 rfl) ⟨by decide, by decide⟩ ?_
              refine mm_puti C fl_X12_222 (mm_dec dk_X12_anew 71 rfl) rfl rfl rfl (Or.inl ⟨rfl, rfl⟩) ?_
              have i11 : mm_inv (mm_pf h10 66 23 0) := mm_inv_pf i10 (show 0 ≤ 0 ∧ 0 ≤ 40 from ⟨by omega, by omega⟩) (by decide)
              have f11 : mm_fr [(66, 1), (66, 2), (66, 3), (66, 9), (66, 10), (66, 11), (66, 12), (66, 19), (66, 21), (66, 22), (66, 23), (66, 24), (66, 40), (66, 41), (66, 58), (66, 67), (66, 82), (66, 95)] [67, 68, 69, 70, 71] h (mm_pf h10 66 23 0) := mm_fr_pf f10 (by decide)
              obtain ⟨h11, eh11⟩ : ∃ z, z = mm_pf h10 66 23 0 := ⟨_, rfl⟩
              rw [← eh11] at i11 f11 ⊢
              have qh11 : h11.1 66 23 = 0 := by rw [eh11]; exact mm_pf_same _ _ _ _
              have qh11_25 : h11.1 66 9 = h10.1 66 9 := by rw [eh11]; exact mm_pf_ne _ _ (by decide)
              have qh11_26 : h11.1 66 10 = h10.1 66 10 := by rw [eh11]; exact mm_pf_ne _ _ (by decide)
              have qh11_27 : h11.1 66 11 = h10.1 66 11 := by rw [eh11]; exact mm_pf_ne _ _ (by decide)
              have qh11_28 : h11.1 66 12 = h10.1 66 12 := by rw [eh11]; exact mm_pf_ne _ _ (by decide)
              have qh11_29 : h11.1 66 19 = h10.1 66 19 := by rw [eh11]; exact mm_pf_ne _ _ (by decide)
              have qh11_30 : h11.1 66 21 = h10.1 66 21 := by rw [eh11]; exact mm_pf_ne _ _ (by decide)
              have qh11_31 : h11.1 66 22 = h10.1 66 22 := by rw [eh11]; exact mm_pf_ne _ _ (by decide)
              refine mm_aload_n C (mm_dec dk_X12_anew 72 rfl) rfl ?_
              refine mm_iconst C (mm_dec dk_X12_anew 73 rfl) ⟨by decide, by decide⟩ ?_
              refine mm_puti C fl_X12_225 (mm_dec dk_X12_anew 74 rfl) rfl rfl rfl (Or.inl ⟨rfl, rfl⟩) ?_
              have i12 : mm_inv (mm_pf h11 66 24 0) := mm_inv_pf i11 (show 0 ≤ 0 ∧ 0 ≤ 10 from ⟨by omega, by omega⟩) (by decide)
              have f12 : mm_fr [(66, 1), (66, 2), (66, 3), (66, 9), (66, 10), (66, 11), (66, 12), (66, 19), (66, 21), (66, 22), (66, 23), (66, 24), (66, 40), (66, 41), (66, 58), (66, 67), (66, 82), (66, 95)] [67, 68, 69, 70, 71] h (mm_pf h11 66 24 0) := mm_fr_pf f11 (by decide)
              obtain ⟨h12, eh12⟩ : ∃ z, z = mm_pf h11 66 24 0 := ⟨_, rfl⟩
              rw [← eh12] at i12 f12 ⊢
              have qh12 : h12.1 66 24 = 0 := by rw [eh12]; exact mm_pf_same _ _ _ _
              have qh12_32 : h12.1 66 9 = h11.1 66 9 := by rw [eh12]; exact mm_pf_ne _ _ (by decide)
              have qh12_33 : h12.1 66 10 = h11.1 66 10 := by rw [eh12]; exact mm_pf_ne _ _ (by decide)
              have qh12_34 : h12.1 66 11 = h11.1 66 11 := by rw [eh12]; exact mm_pf_ne _ _ (by decide)
              have qh12_35 : h12.1 66 12 = h11.1 66 12 := by rw [eh12]; exact mm_pf_ne _ _ (by decide)
              have qh12_36 : h12.1 66 19 = h11.1 66 19 := by rw [eh12]; exact mm_pf_ne _ _ (by decide)
              have qh12_37 : h12.1 66 21 = h11.1 66 21 := by rw [eh12]; exact mm_pf_ne _ _ (by decide)
              have qh12_38 : h12.1 66 22 = h11.1 66 22 := by rw [eh12]; exact mm_pf_ne _ _ (by decide)
              have qh12_39 : h12.1 66 23 = h11.1 66 23 := by rw [eh12]; exact mm_pf_ne _ _ (by decide)
              refine mm_aload_n C (mm_dec dk_X12_anew 75 rfl) rfl ?_
              refine mm_iconst C (mm_dec dk_X12_anew 76 rfl) ⟨by decide, by decide⟩ ?_
              refine mm_puti C fl_X12_228 (mm_dec dk_X12_anew 77 rfl) rfl rfl rfl (Or.inl ⟨rfl, rfl⟩) ?_
              have i13 : mm_inv (mm_pf h12 66 40 0) := mm_inv_pf i12 (show 0 ≤ 0 ∧ 0 ≤ 500 from ⟨by omega, by omega⟩) (by decide)
              have f13 : mm_fr [(66, 1), (66, 2), (66, 3), (66, 9), (66, 10), (66, 11), (66, 12), (66, 19), (66, 21), (66, 22), (66, 23), (66, 24), (66, 40), (66, 41), (66, 58), (66, 67), (66, 82), (66, 95)] [67, 68, 69, 70, 71] h (mm_pf h12 66 40 0) := mm_fr_pf f12 (by decide)
              obtain ⟨h13, eh13⟩ : ∃ z, z = mm_pf h12 66 40 0 := ⟨_, rfl⟩
              rw [← eh13] at i13 f13 ⊢
              have qh13 : h13.1 66 40 = 0 := by rw [eh13]; exact mm_pf_same _ _ _ _
              have qh13_40 : h13.1 66 9 = h12.1 66 9 := by rw [eh13]; exact mm_pf_ne _ _ (by decide)
              have qh13_41 : h13.1 66 10 = h12.1 66 10 := by rw [eh13]; exact mm_pf_ne _ _ (by decide)
              have qh13_42 : h13.1 66 11 = h12.1 66 11 := by rw [eh13]; exact mm_pf_ne _ _ (by decide)
              have qh13_43 : h13.1 66 12 = h12.1 66 12 := by rw [eh13]; exact mm_pf_ne _ _ (by decide)
              have qh13_44 : h13.1 66 19 = h12.1 66 19 := by rw [eh13]; exact mm_pf_ne _ _ (by decide)
              have qh13_45 : h13.1 66 21 = h12.1 66 21 := by rw [eh13]; exact mm_pf_ne _ _ (by decide)
              have qh13_46 : h13.1 66 22 = h12.1 66 22 := by rw [eh13]; exact mm_pf_ne _ _ (by decide)
              have qh13_47 : h13.1 66 23 = h12.1 66 23 := by rw [eh13]; exact mm_pf_ne _ _ (by decide)
              have qh13_48 : h13.1 66 24 = h12.1 66 24 := by rw [eh13]; exact mm_pf_ne _ _ (by decide)
              refine mm_aload_n C (mm_dec dk_X12_anew 78 rfl) rfl ?_
              refine mm_iconst C (mm_dec dk_X12_anew 79 rfl) ⟨by decide, by decide⟩ ?_
              refine mm_puti C fl_X12_231 (mm_dec dk_X12_anew 80 rfl) rfl rfl rfl (Or.inl ⟨rfl, rfl⟩) ?_
              have i14 : mm_inv (mm_pf h13 66 82 0) := mm_inv_pf i13 (show 0 ≤ 0 ∧ 0 ≤ 40 from ⟨by omega, by omega⟩) (by decide)
              have f14 : mm_fr [(66, 1), (66, 2), (66, 3), (66, 9), (66, 10), (66, 11), (66, 12), (66, 19), (66, 21), (66, 22), (66, 23), (66, 24), (66, 40), (66, 41), (66, 58), (66, 67), (66, 82), (66, 95)] [67, 68, 69, 70, 71] h (mm_pf h13 66 82 0) := mm_fr_pf f13 (by decide)
              obtain ⟨h14, eh14⟩ : ∃ z, z = mm_pf h13 66 82 0 := ⟨_, rfl⟩
              rw [← eh14] at i14 f14 ⊢
              have qh14 : h14.1 66 82 = 0 := by rw [eh14]; exact mm_pf_same _ _ _ _
              have qh14_49 : h14.1 66 9 = h13.1 66 9 := by rw [eh14]; exact mm_pf_ne _ _ (by decide)
              have qh14_50 : h14.1 66 10 = h13.1 66 10 := by rw [eh14]; exact mm_pf_ne _ _ (by decide)
              have qh14_51 : h14.1 66 11 = h13.1 66 11 := by rw [eh14]; exact mm_pf_ne _ _ (by decide)
              have qh14_52 : h14.1 66 12 = h13.1 66 12 := by rw [eh14]; exact mm_pf_ne _ _ (by decide)
              have qh14_53 : h14.1 66 19 = h13.1 66 19 := by rw [eh14]; exact mm_pf_ne _ _ (by decide)
              have qh14_54 : h14.1 66 21 = h13.1 66 21 := by rw [eh14]; exact mm_pf_ne _ _ (by decide)
              have qh14_55 : h14.1 66 22 = h13.1 66 22 := by rw [eh14]; exact mm_pf_ne _ _ (by decide)
              have qh14_56 : h14.1 66 23 = h13.1 66 23 := by rw [eh14]; exact mm_pf_ne _ _ (by decide)
              have qh14_57 : h14.1 66 24 = h13.1 66 24 := by rw [eh14]; exact mm_pf_ne _ _ (by decide)
              have qh14_58 : h14.1 66 40 = h13.1 66 40 := by rw [eh14]; exact mm_pf_ne _ _ (by decide)
              refine mm_aload_n C (mm_dec dk_X12_anew 81 rfl) rfl ?_
              refine mm_iconst C (mm_dec dk_X12_anew 82 rfl) ⟨by decide, by decide⟩ ?_
              refine mm_puti C fl_X12_234 (mm_dec dk_X12_anew 83 rfl) rfl rfl rfl (Or.inl ⟨rfl, rfl⟩) ?_
              have i15 : mm_inv (mm_pf h14 66 41 0) := mm_inv_pf i14 (show 0 ≤ 0 ∧ 0 ≤ 99999 from ⟨by omega, by omega⟩) (by decide)
              have f15 : mm_fr [(66, 1), (66, 2), (66, 3), (66, 9), (66, 10), (66, 11), (66, 12), (66, 19), (66, 21), (66, 22), (66, 23), (66, 24), (66, 40), (66, 41), (66, 58), (66, 67), (66, 82), (66, 95)] [67, 68, 69, 70, 71] h (mm_pf h14 66 41 0) := mm_fr_pf f14 (by decide)
              obtain ⟨h15, eh15⟩ : ∃ z, z = mm_pf h14 66 41 0 := ⟨_, rfl⟩
              rw [← eh15] at i15 f15 ⊢
              have qh15 : h15.1 66 41 = 0 := by rw [eh15]; exact mm_pf_same _ _ _ _
              have qh15_59 : h15.1 66 9 = h14.1 66 9 := by rw [eh15]; exact mm_pf_ne _ _ (by decide)
              have qh15_60 : h15.1 66 10 = h14.1 66 10 := by rw [eh15]; exact mm_pf_ne _ _ (by decide)
              have qh15_61 : h15.1 66 11 = h14.1 66 11 := by rw [eh15]; exact mm_pf_ne _ _ (by decide)
              have qh15_62 : h15.1 66 12 = h14.1 66 12 := by rw [eh15]; exact mm_pf_ne _ _ (by decide)
              have qh15_63 : h15.1 66 19 = h14.1 66 19 := by rw [eh15]; exact mm_pf_ne _ _ (by decide)
              have qh15_64 : h15.1 66 21 = h14.1 66 21 := by rw [eh15]; exact mm_pf_ne _ _ (by decide)
              have qh15_65 : h15.1 66 22 = h14.1 66 22 := by rw [eh15]; exact mm_pf_ne _ _ (by decide)
              have qh15_66 : h15.1 66 23 = h14.1 66 23 := by rw [eh15]; exact mm_pf_ne _ _ (by decide)
              have qh15_67 : h15.1 66 24 = h14.1 66 24 := by rw [eh15]; exact mm_pf_ne _ _ (by decide)
              have qh15_68 : h15.1 66 40 = h14.1 66 40 := by rw [eh15]; exact mm_pf_ne _ _ (by decide)
              have qh15_69 : h15.1 66 82 = h14.1 66 82 := by rw [eh15]; exact mm_pf_ne _ _ (by decide)
              refine mm_aload_n C (mm_dec dk_X12_anew 84 rfl) rfl ?_
              refine mm_iconst C (mm_dec dk_X12_anew 85 rfl) ⟨by decide, by decide⟩ ?_
              refine mm_puti C fl_X12_237 (mm_dec dk_X12_anew 86 rfl) rfl rfl rfl (Or.inl ⟨rfl, rfl⟩) ?_
              have i16 : mm_inv (mm_pf h15 66 58 (-1)) := mm_inv_pf i15 (show -2147483648 ≤ (-1) ∧ (-1) ≤ 2147483647 from ⟨by omega, by omega⟩) (by decide)
              have f16 : mm_fr [(66, 1), (66, 2), (66, 3), (66, 9), (66, 10), (66, 11), (66, 12), (66, 19), (66, 21), (66, 22), (66, 23), (66, 24), (66, 40), (66, 41), (66, 58), (66, 67), (66, 82), (66, 95)] [67, 68, 69, 70, 71] h (mm_pf h15 66 58 (-1)) := mm_fr_pf f15 (by decide)
              obtain ⟨h16, eh16⟩ : ∃ z, z = mm_pf h15 66 58 (-1) := ⟨_, rfl⟩
              rw [← eh16] at i16 f16 ⊢
              have qh16 : h16.1 66 58 = (-1) := by rw [eh16]; exact mm_pf_same _ _ _ _
              have qh16_70 : h16.1 66 9 = h15.1 66 9 := by rw [eh16]; exact mm_pf_ne _ _ (by decide)
              have qh16_71 : h16.1 66 10 = h15.1 66 10 := by rw [eh16]; exact mm_pf_ne _ _ (by decide)
              have qh16_72 : h16.1 66 11 = h15.1 66 11 := by rw [eh16]; exact mm_pf_ne _ _ (by decide)
              have qh16_73 : h16.1 66 12 = h15.1 66 12 := by rw [eh16]; exact mm_pf_ne _ _ (by decide)
              have qh16_74 : h16.1 66 19 = h15.1 66 19 := by rw [eh16]; exact mm_pf_ne _ _ (by decide)
              have qh16_75 : h16.1 66 21 = h15.1 66 21 := by rw [eh16]; exact mm_pf_ne _ _ (by decide)
              have qh16_76 : h16.1 66 22 = h15.1 66 22 := by rw [eh16]; exact mm_pf_ne _ _ (by decide)
              have qh16_77 : h16.1 66 23 = h15.1 66 23 := by rw [eh16]; exact mm_pf_ne _ _ (by decide)
              have qh16_78 : h16.1 66 24 = h15.1 66 24 := by rw [eh16]; exact mm_pf_ne _ _ (by decide)
              have qh16_79 : h16.1 66 40 = h15.1 66 40 := by rw [eh16]; exact mm_pf_ne _ _ (by decide)
              have qh16_80 : h16.1 66 41 = h15.1 66 41 := by rw [eh16]; exact mm_pf_ne _ _ (by decide)
              have qh16_81 : h16.1 66 82 = h15.1 66 82 := by rw [eh16]; exact mm_pf_ne _ _ (by decide)
              refine mm_aload_n C (mm_dec dk_X12_anew 87 rfl) rfl ?_
              refine mm_iconst C (mm_dec dk_X12_anew 88 rfl) ⟨by decide, by decide⟩ ?_
              refine mm_puti C fl_X12_240 (mm_dec dk_X12_anew 89 rfl) rfl rfl rfl (Or.inr ⟨rfl, rfl, by omega⟩) ?_
              have i17 : mm_inv (mm_pf h16 66 67 0) := mm_inv_pf i16 (show 0 ≤ 0 ∧ 0 ≤ 1 from ⟨by omega, by omega⟩) (by decide)
              have f17 : mm_fr [(66, 1), (66, 2), (66, 3), (66, 9), (66, 10), (66, 11), (66, 12), (66, 19), (66, 21), (66, 22), (66, 23), (66, 24), (66, 40), (66, 41), (66, 58), (66, 67), (66, 82), (66, 95)] [67, 68, 69, 70, 71] h (mm_pf h16 66 67 0) := mm_fr_pf f16 (by decide)
              obtain ⟨h17, eh17⟩ : ∃ z, z = mm_pf h16 66 67 0 := ⟨_, rfl⟩
              rw [← eh17] at i17 f17 ⊢
              have qh17 : h17.1 66 67 = 0 := by rw [eh17]; exact mm_pf_same _ _ _ _
              have qh17_82 : h17.1 66 9 = h16.1 66 9 := by rw [eh17]; exact mm_pf_ne _ _ (by decide)
              have qh17_83 : h17.1 66 10 = h16.1 66 10 := by rw [eh17]; exact mm_pf_ne _ _ (by decide)
              have qh17_84 : h17.1 66 11 = h16.1 66 11 := by rw [eh17]; exact mm_pf_ne _ _ (by decide)
              have qh17_85 : h17.1 66 12 = h16.1 66 12 := by rw [eh17]; exact mm_pf_ne _ _ (by decide)
              have qh17_86 : h17.1 66 19 = h16.1 66 19 := by rw [eh17]; exact mm_pf_ne _ _ (by decide)
              have qh17_87 : h17.1 66 21 = h16.1 66 21 := by rw [eh17]; exact mm_pf_ne _ _ (by decide)
              have qh17_88 : h17.1 66 22 = h16.1 66 22 := by rw [eh17]; exact mm_pf_ne _ _ (by decide)
              have qh17_89 : h17.1 66 23 = h16.1 66 23 := by rw [eh17]; exact mm_pf_ne _ _ (by decide)
              have qh17_90 : h17.1 66 24 = h16.1 66 24 := by rw [eh17]; exact mm_pf_ne _ _ (by decide)
              have qh17_91 : h17.1 66 40 = h16.1 66 40 := by rw [eh17]; exact mm_pf_ne _ _ (by decide)
              have qh17_92 : h17.1 66 41 = h16.1 66 41 := by rw [eh17]; exact mm_pf_ne _ _ (by decide)
              have qh17_93 : h17.1 66 58 = h16.1 66 58 := by rw [eh17]; exact mm_pf_ne _ _ (by decide)
              have qh17_94 : h17.1 66 82 = h16.1 66 82 := by rw [eh17]; exact mm_pf_ne _ _ (by decide)
              refine mm_aload_n C (mm_dec dk_X12_anew 90 rfl) rfl ?_
              refine mm_iconst C (mm_dec dk_X12_anew 91 rfl) ⟨by decide, by decide⟩ ?_
              refine mm_puti C fl_X12_244 (mm_dec dk_X12_anew 92 rfl) rfl rfl rfl (Or.inr ⟨rfl, rfl, by omega⟩) ?_
              have i18 : mm_inv (mm_pf h17 66 95 0) := mm_inv_pf i17 (show 0 ≤ 0 ∧ 0 ≤ 1 from ⟨by omega, by omega⟩) (by decide)
              have f18 : mm_fr [(66, 1), (66, 2), (66, 3), (66, 9), (66, 10), (66, 11), (66, 12), (66, 19), (66, 21), (66, 22), (66, 23), (66, 24), (66, 40), (66, 41), (66, 58), (66, 67), (66, 82), (66, 95)] [67, 68, 69, 70, 71] h (mm_pf h17 66 95 0) := mm_fr_pf f17 (by decide)
              obtain ⟨h18, eh18⟩ : ∃ z, z = mm_pf h17 66 95 0 := ⟨_, rfl⟩
              rw [← eh18] at i18 f18 ⊢
              have qh18 : h18.1 66 95 = 0 := by rw [eh18]; exact mm_pf_same _ _ _ _
              have qh18_95 : h18.1 66 9 = h17.1 66 9 := by rw [eh18]; exact mm_pf_ne _ _ (by decide)
              have qh18_96 : h18.1 66 10 = h17.1 66 10 := by rw [eh18]; exact mm_pf_ne _ _ (by decide)
              have qh18_97 : h18.1 66 11 = h17.1 66 11 := by rw [eh18]; exact mm_pf_ne _ _ (by decide)
              have qh18_98 : h18.1 66 12 = h17.1 66 12 := by rw [eh18]; exact mm_pf_ne _ _ (by decide)
              have qh18_99 : h18.1 66 19 = h17.1 66 19 := by rw [eh18]; exact mm_pf_ne _ _ (by decide)
              have qh18_100 : h18.1 66 21 = h17.1 66 21 := by rw [eh18]; exact mm_pf_ne _ _ (by decide)
              have qh18_101 : h18.1 66 22 = h17.1 66 22 := by rw [eh18]; exact mm_pf_ne _ _ (by decide)
              have qh18_102 : h18.1 66 23 = h17.1 66 23 := by rw [eh18]; exact mm_pf_ne _ _ (by decide)
              have qh18_103 : h18.1 66 24 = h17.1 66 24 := by rw [eh18]; exact mm_pf_ne _ _ (by decide)
              have qh18_104 : h18.1 66 40 = h17.1 66 40 := by rw [eh18]; exact mm_pf_ne _ _ (by decide)
              have qh18_105 : h18.1 66 41 = h17.1 66 41 := by rw [eh18]; exact mm_pf_ne _ _ (by decide)
              have qh18_106 : h18.1 66 58 = h17.1 66 58 := by rw [eh18]; exact mm_pf_ne _ _ (by decide)
              have qh18_107 : h18.1 66 67 = h17.1 66 67 := by rw [eh18]; exact mm_pf_ne _ _ (by decide)
              have qh18_108 : h18.1 66 82 = h17.1 66 82 := by rw [eh18]; exact mm_pf_ne _ _ (by decide)
              exact mm_vret C T (mm_dec dk_X12_anew 93 rfl) (by decide : 0 ≤ 0) (by decide : 0 ≤ 0) ⟨rfl, ⟨i18, f18⟩⟩
            · skip
              refine mm_aload_n C (mm_dec dk_X12_anew 41 rfl) rfl ?_
              refine mm_getr (t := 69) C fl_X12_16 (mm_dec dk_X12_anew 42 rfl) rfl rfl (mm_ref i60_ rfl) ?_
              refine mm_iload_n C (mm_dec dk_X12_anew 43 rfl) rfl ?_
              refine mm_iconst C (mm_dec dk_X12_anew 44 rfl) ⟨by decide, by decide⟩ ?_
              refine mm_iast C (mm_dec dk_X12_anew 45 rfl) rfl (by omega) (by omega) ?_
              have i19 : mm_inv (mm_pa h60_ 69 x60_3 5) := mm_inv_pa i60_ (show 0 ≤ 5 ∧ 5 ≤ 99 from ⟨by omega, by omega⟩)
              have f19 : mm_fr [(66, 1), (66, 2), (66, 3), (66, 9), (66, 10), (66, 11), (66, 12), (66, 19), (66, 21), (66, 22), (66, 23), (66, 24), (66, 40), (66, 41), (66, 58), (66, 67), (66, 82), (66, 95)] [67, 68, 69, 70, 71] h (mm_pa h60_ 69 x60_3 5) := mm_fr_pa f60_ (by decide)
              obtain ⟨h19, eh19⟩ : ∃ z, z = mm_pa h60_ 69 x60_3 5 := ⟨_, rfl⟩
              rw [← eh19] at i19 f19 ⊢
              refine mm_iincL (ls2 := [mR 66, mU, mU, mI (x60_3 + 1)]) C (mm_dec dk_X12_anew 46 rfl) rfl (by decide) ⟨by omega, by omega⟩ rfl ?_
              refine mm_goto (tgt := 60) C (mm_dec dk_X12_anew 47 rfl) (by decide) ?_
              exact ih60 (x60_3 + 1) ⟨by omega, by omega⟩ h19 i19 f19 (by omega)
        refine mm_istore_nL (ls2 := [mR 66, mU, mU, mI 0]) C (mm_dec dk_X12_anew 37 rfl) (by decide) rfl ?_
        exact J60 (((8 - 0) : Int) + 1).toNat 0 ⟨by omega, by omega⟩ h17_ i17_ f17_ (by omega)
      · skip
        refine mm_aload_n C (mm_dec dk_X12_anew 14 rfl) rfl ?_
        refine mm_getr (t := 67) C fl_X12_7 (mm_dec dk_X12_anew 15 rfl) rfl rfl (mm_ref i17_ rfl) ?_
        refine mm_iload_n C (mm_dec dk_X12_anew 16 rfl) rfl ?_
        refine mm_iconst C (mm_dec dk_X12_anew 17 rfl) ⟨by decide, by decide⟩ ?_
        refine mm_iast C (mm_dec dk_X12_anew 18 rfl) rfl (by omega) (by omega) ?_
        have i20 : mm_inv (mm_pa h17_ 67 x17_3 0) := mm_inv_pa i17_ (show 0 ≤ 0 ∧ 0 ≤ 7 from ⟨by omega, by omega⟩)
        have f20 : mm_fr [(66, 1), (66, 2), (66, 3), (66, 9), (66, 10), (66, 11), (66, 12), (66, 19), (66, 21), (66, 22), (66, 23), (66, 24), (66, 40), (66, 41), (66, 58), (66, 67), (66, 82), (66, 95)] [67, 68, 69, 70, 71] h (mm_pa h17_ 67 x17_3 0) := mm_fr_pa f17_ (by decide)
        obtain ⟨h20, eh20⟩ : ∃ z, z = mm_pa h17_ 67 x17_3 0 := ⟨_, rfl⟩
        rw [← eh20] at i20 f20 ⊢
        refine mm_aload_n C (mm_dec dk_X12_anew 19 rfl) rfl ?_
        refine mm_getr (t := 68) C fl_X12_13 (mm_dec dk_X12_anew 20 rfl) rfl rfl (mm_ref i20 rfl) ?_
        refine mm_iload_n C (mm_dec dk_X12_anew 21 rfl) rfl ?_
        refine mm_iconst C (mm_dec dk_X12_anew 22 rfl) ⟨by decide, by decide⟩ ?_
        refine mm_iast C (mm_dec dk_X12_anew 23 rfl) rfl (by omega) (by omega) ?_
        have i21 : mm_inv (mm_pa h20 68 x17_3 0) := mm_inv_pa i20 (show 0 ≤ 0 ∧ 0 ≤ 99 from ⟨by omega, by omega⟩)
        have f21 : mm_fr [(66, 1), (66, 2), (66, 3), (66, 9), (66, 10), (66, 11), (66, 12), (66, 19), (66, 21), (66, 22), (66, 23), (66, 24), (66, 40), (66, 41), (66, 58), (66, 67), (66, 82), (66, 95)] [67, 68, 69, 70, 71] h (mm_pa h20 68 x17_3 0) := mm_fr_pa f20 (by decide)
        obtain ⟨h21, eh21⟩ : ∃ z, z = mm_pa h20 68 x17_3 0 := ⟨_, rfl⟩
        rw [← eh21] at i21 f21 ⊢
        refine mm_aload_n C (mm_dec dk_X12_anew 24 rfl) rfl ?_
        refine mm_getr (t := 70) C fl_X12_19 (mm_dec dk_X12_anew 25 rfl) rfl rfl (mm_ref i21 rfl) ?_
        refine mm_iload_n C (mm_dec dk_X12_anew 26 rfl) rfl ?_
        refine mm_iconst C (mm_dec dk_X12_anew 27 rfl) ⟨by decide, by decide⟩ ?_
        refine mm_zast C (mm_dec dk_X12_anew 28 rfl) rfl (by omega) (by omega) (by omega) ?_
        have i22 : mm_inv (mm_pa h21 70 x17_3 0) := mm_inv_pa i21 (show 0 ≤ 0 ∧ 0 ≤ 1 from ⟨by omega, by omega⟩)
        have f22 : mm_fr [(66, 1), (66, 2), (66, 3), (66, 9), (66, 10), (66, 11), (66, 12), (66, 19), (66, 21), (66, 22), (66, 23), (66, 24), (66, 40), (66, 41), (66, 58), (66, 67), (66, 82), (66, 95)] [67, 68, 69, 70, 71] h (mm_pa h21 70 x17_3 0) := mm_fr_pa f21 (by decide)
        obtain ⟨h22, eh22⟩ : ∃ z, z = mm_pa h21 70 x17_3 0 := ⟨_, rfl⟩
        rw [← eh22] at i22 f22 ⊢
        refine mm_aload_n C (mm_dec dk_X12_anew 29 rfl) rfl ?_
        refine mm_getr (t := 71) C fl_X12_23 (mm_dec dk_X12_anew 30 rfl) rfl rfl (mm_ref i22 rfl) ?_
        refine mm_iload_n C (mm_dec dk_X12_anew 31 rfl) rfl ?_
        refine mm_iconst C (mm_dec dk_X12_anew 32 rfl) ⟨by decide, by decide⟩ ?_
        refine mm_zast C (mm_dec dk_X12_anew 33 rfl) rfl (by omega) (by omega) (by omega) ?_
        have i23 : mm_inv (mm_pa h22 71 x17_3 0) := mm_inv_pa i22 (show 0 ≤ 0 ∧ 0 ≤ 1 from ⟨by omega, by omega⟩)
        have f23 : mm_fr [(66, 1), (66, 2), (66, 3), (66, 9), (66, 10), (66, 11), (66, 12), (66, 19), (66, 21), (66, 22), (66, 23), (66, 24), (66, 40), (66, 41), (66, 58), (66, 67), (66, 82), (66, 95)] [67, 68, 69, 70, 71] h (mm_pa h22 71 x17_3 0) := mm_fr_pa f22 (by decide)
        obtain ⟨h23, eh23⟩ : ∃ z, z = mm_pa h22 71 x17_3 0 := ⟨_, rfl⟩
        rw [← eh23] at i23 f23 ⊢
        refine mm_iincL (ls2 := [mR 66, mU, mU, mI (x17_3 + 1)]) C (mm_dec dk_X12_anew 34 rfl) rfl (by decide) ⟨by omega, by omega⟩ rfl ?_
        refine mm_goto (tgt := 17) C (mm_dec dk_X12_anew 35 rfl) (by decide) ?_
        exact ih17 (x17_3 + 1) ⟨by omega, by omega⟩ h23 i23 f23 (by omega)
  refine mm_istore_nL (ls2 := [mR 66, mI p1, mI p2, mI 0]) C (mm_dec dk_X12_anew 10 rfl) (by decide) rfl ?_
  refine mm_fgt 1 ?_
  refine mm_fgt 2 ?_
  exact J17 (((400 - 0) : Int) + 1).toNat 0 ⟨by omega, by omega⟩ h3 i3 f3 (by omega)
set_option maxRecDepth 100000 in
set_option maxHeartbeats 4000000 in
theorem c_X12_land (l : Launch) (hl : l.stackTraces = false) (d : Nat) (hd : 1 ≤ d) (h : mH) (i0 : mm_inv h) (p1 : Int) (p2 : Int) : mm_Met l d yX12_land cX12_land 3 (some .boolean) [mR 66, mI p1, mI p2] h (mm_pi fun r h2 => (0 ≤ r ∧ r ≤ 1) ∧ mm_inv h2 ∧ mm_fr [(66, 0), (66, 1), (66, 2), (66, 3), (66, 9), (66, 10), (66, 11), (66, 12), (66, 19), (66, 21), (66, 22), (66, 23), (66, 24), (66, 40), (66, 41), (66, 58), (66, 67), (66, 82), (66, 95)] [67, 68, 69, 70, 71] h h2) mm_nx 0 0 := by
  refine mm_ofW (ls := [mR 66, mI p1, mI p2]) hl (by decide) rfl (Nat.le_of_ble_eq_true rfl) ?_
  intro x hxl C T hnm htb
  subst hxl
  have C1 := mm_OK_le (d' := d - 1 + 1) (by omega) C
  refine mm_rng (fun hr _ => ?_)
  have ap1 : -2147483648 ≤ p1 ∧ p1 < 2147483648 := mm_ok_at hr (i := 1) rfl
  have ap2 : -2147483648 ≤ p2 ∧ p2 < 2147483648 := mm_ok_at hr (i := 2) rfl
  have f0 : mm_fr [(66, 0), (66, 1), (66, 2), (66, 3), (66, 9), (66, 10), (66, 11), (66, 12), (66, 19), (66, 21), (66, 22), (66, 23), (66, 24), (66, 40), (66, 41), (66, 58), (66, 67), (66, 82), (66, 95)] [67, 68, 69, 70, 71] h h := mm_fr_rf
  refine mm_aload_n C (mm_dec dk_X12_land 0 rfl) rfl ?_
  refine mm_iconst C (mm_dec dk_X12_land 1 rfl) ⟨by decide, by decide⟩ ?_
  refine mm_puti C fl_X12_188 (mm_dec dk_X12_land 2 rfl) rfl rfl rfl (Or.inl ⟨rfl, rfl⟩) ?_
  have i1 : mm_inv (mm_pf h 66 0 0) := mm_inv_pf i0 (show -2147483648 ≤ 0 ∧ 0 ≤ 2147483647 from ⟨by omega, by omega⟩) (by decide)
  have f1 : mm_fr [(66, 0), (66, 1), (66, 2), (66, 3), (66, 9), (66, 10), (66, 11), (66, 12), (66, 19), (66, 21), (66, 22), (66, 23), (66, 24), (66, 40), (66, 41), (66, 58), (66, 67), (66, 82), (66, 95)] [67, 68, 69, 70, 71] h (mm_pf h 66 0 0) := mm_fr_pf f0 (by decide)
  obtain ⟨h1, eh1⟩ : ∃ z, z = mm_pf h 66 0 0 := ⟨_, rfl⟩
  rw [← eh1] at i1 f1 ⊢
  have qh1 : h1.1 66 0 = 0 := by rw [eh1]; exact mm_pf_same _ _ _ _
  refine mm_iload_n C (mm_dec dk_X12_land 3 rfl) rfl ?_
  refine mm_iconst C (mm_dec dk_X12_land 4 rfl) ⟨by decide, by decide⟩ ?_
  have J27 : mm_W x 0 0 27 [mU, mU, mU] [] h1 := by
    refine mm_iconst C (mm_dec dk_X12_land 15 rfl) ⟨by decide, by decide⟩ ?_
    exact mm_zret C T (mm_dec dk_X12_land 16 rfl) (by decide : 0 ≤ 0) (by decide : 0 ≤ 0) (by omega) ⟨_, rfl, ⟨⟨by omega, by omega⟩, i1, f1⟩⟩
  refine mm_icmp_lt (tgt := 27) C (mm_dec dk_X12_land 5 rfl) (by decide) (fun c7 => ?_) (fun c7 => ?_)
  · skip
    refine mm_fgt 0 ?_
    refine mm_fgt 1 ?_
    refine mm_fgt 2 ?_
    exact J27
  · skip
    refine mm_iload_n C (mm_dec dk_X12_land 6 rfl) rfl ?_
    refine mm_bipush C (mm_dec dk_X12_land 7 rfl) ⟨by decide, by decide⟩ ?_
    refine mm_icmp_gt (tgt := 27) C (mm_dec dk_X12_land 8 rfl) (by decide) (fun c13 => ?_) (fun c13 => ?_)
    · skip
      refine mm_fgt 0 ?_
      refine mm_fgt 1 ?_
      refine mm_fgt 2 ?_
      exact J27
    · skip
      refine mm_iload_n C (mm_dec dk_X12_land 9 rfl) rfl ?_
      refine mm_iconst C (mm_dec dk_X12_land 10 rfl) ⟨by decide, by decide⟩ ?_
      refine mm_icmp_lt (tgt := 27) C (mm_dec dk_X12_land 11 rfl) (by decide) (fun c18 => ?_) (fun c18 => ?_)
      · skip
        refine mm_fgt 0 ?_
        refine mm_fgt 1 ?_
        refine mm_fgt 2 ?_
        exact J27
      · skip
        refine mm_iload_n C (mm_dec dk_X12_land 12 rfl) rfl ?_
        refine mm_bipush C (mm_dec dk_X12_land 13 rfl) ⟨by decide, by decide⟩ ?_
        refine mm_icmp_le (tgt := 29) C (mm_dec dk_X12_land 14 rfl) (by decide) (fun c24 => ?_) (fun c24 => ?_)
        · skip
          refine mm_aload_n C (mm_dec dk_X12_land 17 rfl) rfl ?_
          refine mm_iload_n C (mm_dec dk_X12_land 18 rfl) rfl ?_
          refine mm_iload_n C (mm_dec dk_X12_land 19 rfl) rfl ?_
          refine mm_cVv (rest := []) C1 ev_X12_184 (mm_dec dk_X12_land 20 rfl) (c_X12_anew x.2.1 hl (d - 1) (by omega) h1 i1 p1 p2 ⟨by omega, by omega⟩ ⟨by omega, by omega⟩) rfl rfl (Nat.le_of_ble_eq_true rfl) ⟨by decide, by decide⟩ rfl (fun h32c hp32 => ?_) (fun _ _ q => q.elim)
          obtain ⟨i32c, g32c⟩ := hp32
          have f32c : mm_fr [(66, 0), (66, 1), (66, 2), (66, 3), (66, 9), (66, 10), (66, 11), (66, 12), (66, 19), (66, 21), (66, 22), (66, 23), (66, 24), (66, 40), (66, 41), (66, 58), (66, 67), (66, 82), (66, 95)] [67, 68, 69, 70, 71] h h32c := mm_fr_tr f1 g32c (by decide +kernel)
          have q32c_2 : h32c.1 66 0 = h1.1 66 0 := g32c.1 66 0 (by decide)
          refine mm_iconst C (mm_dec dk_X12_land 21 rfl) ⟨by decide, by decide⟩ ?_
          exact mm_zret C T (mm_dec dk_X12_land 22 rfl) (by decide : 0 ≤ 0) (by decide : 0 ≤ 0) (by omega) ⟨_, rfl, ⟨⟨by omega, by omega⟩, i32c, f32c⟩⟩
        · skip
          refine mm_fgt 0 ?_
          refine mm_fgt 1 ?_
          refine mm_fgt 2 ?_
          exact J27
set_option maxRecDepth 100000 in
set_option maxHeartbeats 4000000 in
theorem c_X12_inside (l : Launch) (hl : l.stackTraces = false) (d : Nat) (hd : 1 ≤ d) (h : mH) (i0 : mm_inv h) (p1 : Int) (p2 : Int) : mm_Met l d yX12_inside cX12_inside 3 (some .boolean) [mR 66, mI p1, mI p2] h (mm_pi fun r h2 => (0 ≤ r ∧ r ≤ 1) ∧ mm_inv h2 ∧ mm_fr [(66, 0)] [] h h2 ∧ (r = 0 ∨ (0 ≤ p1 ∧ p1 < (h2.1 66 1) ∧ 0 ≤ p2 ∧ p2 < (h2.1 66 2)))) mm_nx 0 0 := by
  refine mm_ofW (ls := [mR 66, mI p1, mI p2]) hl (by decide) rfl (Nat.le_of_ble_eq_true rfl) ?_
  intro x hxl C T hnm htb
  subst hxl
  have C1 := mm_OK_le (d' := d - 1 + 1) (by omega) C
  refine mm_rng (fun hr _ => ?_)
  have ap1 : -2147483648 ≤ p1 ∧ p1 < 2147483648 := mm_ok_at hr (i := 1) rfl
  have ap2 : -2147483648 ≤ p2 ∧ p2 < 2147483648 := mm_ok_at hr (i := 2) rfl
  have f0 : mm_fr [(66, 0)] [] h h := mm_fr_rf
  have g1 : 1 ≤ h.1 66 1 ∧ h.1 66 1 ≤ 20 := i0.1 66 1
  have g2 : 1 ≤ h.1 66 2 ∧ h.1 66 2 ≤ 20 := i0.1 66 2
  refine mm_aload_n C (mm_dec dk_X12_inside 0 rfl) rfl ?_
  refine mm_iload_n C (mm_dec dk_X12_inside 1 rfl) rfl ?_
  refine mm_if_lt (tgt := 29) C (mm_dec dk_X12_inside 2 rfl) (by decide) (fun c2 => ?_) (fun c2 => ?_)
  · skip
    refine mm_iconst C (mm_dec dk_X12_inside 15 rfl) ⟨by decide, by decide⟩ ?_
    refine mm_iconst C (mm_dec dk_X12_inside 16 rfl) ⟨by decide, by decide⟩ ?_
    refine mm_cVi (rest := []) C1 ev_X12_251 (mm_dec dk_X12_inside 17 rfl) (c_X12_right x.2.1 hl (d - 1) (by omega) h i0 0 1 ⟨by omega, by omega⟩ (by omega)) rfl rfl (Nat.le_of_ble_eq_true rfl) ⟨by decide, by decide⟩ rfl (fun r31 h31c hp31 => ?_) (fun _ _ q => q.elim)
    obtain ⟨b31, i31c, g31c, y31_0⟩ := hp31
    have f31c : mm_fr [(66, 0)] [] h h31c := mm_fr_tr f0 g31c (by decide +kernel)
    have q31c_4 : h31c.1 66 1 = h.1 66 1 := g31c.1 66 1 (by decide)
    have q31c_5 : h31c.1 66 2 = h.1 66 2 := g31c.1 66 2 (by decide)
    exact mm_zret C T (mm_dec dk_X12_inside 18 rfl) (by decide : 0 ≤ 0) (by decide : 0 ≤ 0) (by omega) ⟨_, rfl, ⟨⟨by omega, by omega⟩, i31c, f31c, by omega⟩⟩
  · skip
    refine mm_iload_n C (mm_dec dk_X12_inside 3 rfl) rfl ?_
    refine mm_aload_n C (mm_dec dk_X12_inside 4 rfl) rfl ?_
    refine mm_geti C fl_X12_192 (mm_dec dk_X12_inside 5 rfl) rfl rfl (Or.inl rfl) ?_
    refine mm_icmp_ge (tgt := 29) C (mm_dec dk_X12_inside 6 rfl) (by decide) (fun c10 => ?_) (fun c10 => ?_)
    · skip
      refine mm_iconst C (mm_dec dk_X12_inside 15 rfl) ⟨by decide, by decide⟩ ?_
      refine mm_iconst C (mm_dec dk_X12_inside 16 rfl) ⟨by decide, by decide⟩ ?_
      refine mm_cVi (rest := []) C1 ev_X12_251 (mm_dec dk_X12_inside 17 rfl) (c_X12_right x.2.1 hl (d - 1) (by omega) h i0 0 1 ⟨by omega, by omega⟩ (by omega)) rfl rfl (Nat.le_of_ble_eq_true rfl) ⟨by decide, by decide⟩ rfl (fun r31 h31c hp31 => ?_) (fun _ _ q => q.elim)
      obtain ⟨b31, i31c, g31c, y31_0⟩ := hp31
      have f31c : mm_fr [(66, 0)] [] h h31c := mm_fr_tr f0 g31c (by decide +kernel)
      have q31c_7 : h31c.1 66 1 = h.1 66 1 := g31c.1 66 1 (by decide)
      have q31c_8 : h31c.1 66 2 = h.1 66 2 := g31c.1 66 2 (by decide)
      exact mm_zret C T (mm_dec dk_X12_inside 18 rfl) (by decide : 0 ≤ 0) (by decide : 0 ≤ 0) (by omega) ⟨_, rfl, ⟨⟨by omega, by omega⟩, i31c, f31c, by omega⟩⟩
    · skip
      refine mm_iload_n C (mm_dec dk_X12_inside 7 rfl) rfl ?_
      refine mm_if_lt (tgt := 29) C (mm_dec dk_X12_inside 8 rfl) (by decide) (fun c14 => ?_) (fun c14 => ?_)
      · skip
        refine mm_iconst C (mm_dec dk_X12_inside 15 rfl) ⟨by decide, by decide⟩ ?_
        refine mm_iconst C (mm_dec dk_X12_inside 16 rfl) ⟨by decide, by decide⟩ ?_
        refine mm_cVi (rest := []) C1 ev_X12_251 (mm_dec dk_X12_inside 17 rfl) (c_X12_right x.2.1 hl (d - 1) (by omega) h i0 0 1 ⟨by omega, by omega⟩ (by omega)) rfl rfl (Nat.le_of_ble_eq_true rfl) ⟨by decide, by decide⟩ rfl (fun r31 h31c hp31 => ?_) (fun _ _ q => q.elim)
        obtain ⟨b31, i31c, g31c, y31_0⟩ := hp31
        have f31c : mm_fr [(66, 0)] [] h h31c := mm_fr_tr f0 g31c (by decide +kernel)
        have q31c_10 : h31c.1 66 1 = h.1 66 1 := g31c.1 66 1 (by decide)
        have q31c_11 : h31c.1 66 2 = h.1 66 2 := g31c.1 66 2 (by decide)
        exact mm_zret C T (mm_dec dk_X12_inside 18 rfl) (by decide : 0 ≤ 0) (by decide : 0 ≤ 0) (by omega) ⟨_, rfl, ⟨⟨by omega, by omega⟩, i31c, f31c, by omega⟩⟩
      · skip
        refine mm_iload_n C (mm_dec dk_X12_inside 9 rfl) rfl ?_
        refine mm_aload_n C (mm_dec dk_X12_inside 10 rfl) rfl ?_
        refine mm_geti C fl_X12_195 (mm_dec dk_X12_inside 11 rfl) rfl rfl (Or.inl rfl) ?_
        refine mm_icmp_ge (tgt := 29) C (mm_dec dk_X12_inside 12 rfl) (by decide) (fun c22 => ?_) (fun c22 => ?_)
        · skip
          refine mm_iconst C (mm_dec dk_X12_inside 15 rfl) ⟨by decide, by decide⟩ ?_
          refine mm_iconst C (mm_dec dk_X12_inside 16 rfl) ⟨by decide, by decide⟩ ?_
          refine mm_cVi (rest := []) C1 ev_X12_251 (mm_dec dk_X12_inside 17 rfl) (c_X12_right x.2.1 hl (d - 1) (by omega) h i0 0 1 ⟨by omega, by omega⟩ (by omega)) rfl rfl (Nat.le_of_ble_eq_true rfl) ⟨by decide, by decide⟩ rfl (fun r31 h31c hp31 => ?_) (fun _ _ q => q.elim)
          obtain ⟨b31, i31c, g31c, y31_0⟩ := hp31
          have f31c : mm_fr [(66, 0)] [] h h31c := mm_fr_tr f0 g31c (by decide +kernel)
          have q31c_13 : h31c.1 66 1 = h.1 66 1 := g31c.1 66 1 (by decide)
          have q31c_14 : h31c.1 66 2 = h.1 66 2 := g31c.1 66 2 (by decide)
          exact mm_zret C T (mm_dec dk_X12_inside 18 rfl) (by decide : 0 ≤ 0) (by decide : 0 ≤ 0) (by omega) ⟨_, rfl, ⟨⟨by omega, by omega⟩, i31c, f31c, by omega⟩⟩
        · skip
          refine mm_iconst C (mm_dec dk_X12_inside 13 rfl) ⟨by decide, by decide⟩ ?_
          refine mm_goto (tgt := 30) C (mm_dec dk_X12_inside 14 rfl) (by decide) ?_
          refine mm_iconst C (mm_dec dk_X12_inside 16 rfl) ⟨by decide, by decide⟩ ?_
          refine mm_cVi (rest := []) C1 ev_X12_251 (mm_dec dk_X12_inside 17 rfl) (c_X12_right x.2.1 hl (d - 1) (by omega) h i0 1 1 ⟨by omega, by omega⟩ (by omega)) rfl rfl (Nat.le_of_ble_eq_true rfl) ⟨by decide, by decide⟩ rfl (fun r31 h31c hp31 => ?_) (fun _ _ q => q.elim)
          obtain ⟨b31, i31c, g31c, y31_0⟩ := hp31
          have f31c : mm_fr [(66, 0)] [] h h31c := mm_fr_tr f0 g31c (by decide +kernel)
          have q31c_16 : h31c.1 66 1 = h.1 66 1 := g31c.1 66 1 (by decide)
          have q31c_17 : h31c.1 66 2 = h.1 66 2 := g31c.1 66 2 (by decide)
          exact mm_zret C T (mm_dec dk_X12_inside 18 rfl) (by decide : 0 ≤ 0) (by decide : 0 ≤ 0) (by omega) ⟨_, rfl, ⟨⟨by omega, by omega⟩, i31c, f31c, by omega⟩⟩
set_option maxRecDepth 100000 in
set_option maxHeartbeats 4000000 in
theorem c_X12_takes (l : Launch) (hl : l.stackTraces = false) (d : Nat) (hd : 1 ≤ d) (h : mH) (i0 : mm_inv h) (p1 : Int) (p2 : Int) : mm_Met l d yX12_takes cX12_takes 4 (some .boolean) [mR 66, mI p1, mI p2] h (mm_pi fun r h2 => (0 ≤ r ∧ r ≤ 1) ∧ mm_inv h2 ∧ mm_fr [(66, 0), (66, 3)] [69] h h2) mm_nx 0 0 := by
  refine mm_ofW (ls := [mR 66, mI p1, mI p2, mU]) hl (by decide) rfl (Nat.le_of_ble_eq_true rfl) ?_
  intro x hxl C T hnm htb
  subst hxl
  have C1 := mm_OK_le (d' := d - 1 + 1) (by omega) C
  refine mm_rng (fun hr _ => ?_)
  have ap1 : -2147483648 ≤ p1 ∧ p1 < 2147483648 := mm_ok_at hr (i := 1) rfl
  have ap2 : -2147483648 ≤ p2 ∧ p2 < 2147483648 := mm_ok_at hr (i := 2) rfl
  have f0 : mm_fr [(66, 0), (66, 3)] [69] h h := mm_fr_rf
  refine mm_aload_n C (mm_dec dk_X12_takes 0 rfl) rfl ?_
  refine mm_iconst C (mm_dec dk_X12_takes 1 rfl) ⟨by decide, by decide⟩ ?_
  refine mm_puti C fl_X12_188 (mm_dec dk_X12_takes 2 rfl) rfl rfl rfl (Or.inl ⟨rfl, rfl⟩) ?_
  have i1 : mm_inv (mm_pf h 66 0 0) := mm_inv_pf i0 (show -2147483648 ≤ 0 ∧ 0 ≤ 2147483647 from ⟨by omega, by omega⟩) (by decide)
  have f1 : mm_fr [(66, 0), (66, 3)] [69] h (mm_pf h 66 0 0) := mm_fr_pf f0 (by decide)
  obtain ⟨h1, eh1⟩ : ∃ z, z = mm_pf h 66 0 0 := ⟨_, rfl⟩
  rw [← eh1] at i1 f1 ⊢
  have qh1 : h1.1 66 0 = 0 := by rw [eh1]; exact mm_pf_same _ _ _ _
  refine mm_aload_n C (mm_dec dk_X12_takes 3 rfl) rfl ?_
  refine mm_iload_n C (mm_dec dk_X12_takes 4 rfl) rfl ?_
  have J21 : ∀ (s21_1 : Int) (bs21_1 : 0 ≤ s21_1 ∧ s21_1 ≤ 1) (vs21_1 : (s21_1 = 0) ∨ (0 ≤ p1 ∧ p1 ≤ 8 ∧ s21_1 = 1)), mm_W x 0 0 21 [mR 66, mI p1, mI p2, mU] [mI s21_1, mR 66] h1 := by
    intro s21_1 bs21_1 vs21_1
    refine mm_iconst C (mm_dec dk_X12_takes 12 rfl) ⟨by decide, by decide⟩ ?_
    refine mm_cVi (rest := []) C1 ev_X12_251 (mm_dec dk_X12_takes 13 rfl) (c_X12_right x.2.1 hl (d - 1) (by omega) h1 i1 s21_1 1 ⟨by omega, by omega⟩ (by omega)) rfl rfl (Nat.le_of_ble_eq_true rfl) ⟨by decide, by decide⟩ rfl (fun r22 h22c hp22 => ?_) (fun _ _ q => q.elim)
    obtain ⟨b22, i22c, g22c, y22_0⟩ := hp22
    have f22c : mm_fr [(66, 0), (66, 3)] [69] h h22c := mm_fr_tr f1 g22c (by decide +kernel)
    have J56 : mm_W x 0 0 56 [mU, mU, mU, mU] [] h22c := by
      refine mm_iconst C (mm_dec dk_X12_takes 28 rfl) ⟨by decide, by decide⟩ ?_
      exact mm_zret C T (mm_dec dk_X12_takes 29 rfl) (by decide : 0 ≤ 0) (by decide : 0 ≤ 0) (by omega) ⟨_, rfl, ⟨⟨by omega, by omega⟩, i22c, f22c⟩⟩
    refine mm_if_eq (tgt := 56) C (mm_dec dk_X12_takes 14 rfl) (by decide) (fun c25 => ?_) (fun c25 => ?_)
    · skip
      refine mm_fgt 0 ?_
      refine mm_fgt 1 ?_
      refine mm_fgt 2 ?_
      exact J56
    · skip
      refine mm_aload_n C (mm_dec dk_X12_takes 15 rfl) rfl ?_
      refine mm_geti C fl_X12_222 (mm_dec dk_X12_takes 16 rfl) rfl rfl (Or.inl rfl) ?_
      have g2 : 0 ≤ (h22c.1 66 23) ∧ (h22c.1 66 23) ≤ 40 := i22c.1 66 23
      refine mm_if_gt (tgt := 56) C (mm_dec dk_X12_takes 17 rfl) (by decide) (fun c32 => ?_) (fun c32 => ?_)
      · skip
        refine mm_fgt 0 ?_
        refine mm_fgt 1 ?_
        refine mm_fgt 2 ?_
        exact J56
      · skip
        refine mm_iload_n C (mm_dec dk_X12_takes 18 rfl) rfl ?_
        refine mm_if_lt (tgt := 56) C (mm_dec dk_X12_takes 19 rfl) (by decide) (fun c36 => ?_) (fun c36 => ?_)
        · skip
          refine mm_fgt 0 ?_
          refine mm_fgt 1 ?_
          refine mm_fgt 2 ?_
          exact J56
        · skip
          refine mm_iload_n C (mm_dec dk_X12_takes 20 rfl) rfl ?_
          refine mm_iload_n C (mm_dec dk_X12_takes 21 rfl) rfl ?_
          refine mm_bipush C (mm_dec dk_X12_takes 22 rfl) ⟨by decide, by decide⟩ ?_
          have J53 : ∀ (s53_1 : Int) (bs53_1 : 9 ≤ s53_1 ∧ s53_1 ≤ 99) (vs53_1 : (p1 = 8 ∧ s53_1 = 9) ∨ (p1 ≠ 8 ∧ s53_1 = 99)), mm_W x 0 0 53 [mR 66, mI p1, mI p2, mU] [mI s53_1, mI p2] h22c := by
            intro s53_1 bs53_1 vs53_1
            refine mm_icmp_le (tgt := 58) C (mm_dec dk_X12_takes 27 rfl) (by decide) (fun c53 => ?_) (fun c53 => ?_)
            · skip
              refine mm_iload_n C (mm_dec dk_X12_takes 30 rfl) rfl ?_
              refine mm_bipush C (mm_dec dk_X12_takes 31 rfl) ⟨by decide, by decide⟩ ?_
              refine mm_icmp_ne (tgt := 71) C (mm_dec dk_X12_takes 32 rfl) (by decide) (fun c61 => ?_) (fun c61 => ?_)
              · skip
                refine mm_iconst C (mm_dec dk_X12_takes 38 rfl) ⟨by decide, by decide⟩ ?_
                have J73 : ∀ (n : Nat) (x73_3 : Int) (bx73_3 : 0 ≤ x73_3 ∧ x73_3 ≤ 20), (20 - x73_3 : Int) < n → mm_W x 0 0 73 [mR 66, mI p1, mI p2, mI x73_3] [] h22c := by
                  intro n
                  induction n with
                  | zero =>
                    intro x73_3 bx73_3 hm
                    exfalso; omega
                  | succ n ih73 =>
                    intro x73_3 bx73_3 hm73
                    refine mm_iload_n C (mm_dec dk_X12_takes 40 rfl) rfl ?_
                    refine mm_aload_n C (mm_dec dk_X12_takes 41 rfl) rfl ?_
                    refine mm_geti C fl_X12_216 (mm_dec dk_X12_takes 42 rfl) rfl rfl (Or.inl rfl) ?_
                    have g3 : 0 ≤ (h22c.1 66 21) ∧ (h22c.1 66 21) ≤ 20 := i22c.1 66 21
                    refine mm_icmp_ge (tgt := 108) C (mm_dec dk_X12_takes 43 rfl) (by decide) (fun c78 => ?_) (fun c78 => ?_)
                    · skip
                      refine mm_aload_n C (mm_dec dk_X12_takes 59 rfl) rfl ?_
                      refine mm_getr (t := 69) C fl_X12_16 (mm_dec dk_X12_takes 60 rfl) rfl rfl (mm_ref i22c rfl) ?_
                      refine mm_iload_n C (mm_dec dk_X12_takes 61 rfl) rfl ?_
                      refine mm_iload_n C (mm_dec dk_X12_takes 62 rfl) rfl ?_
                      refine mm_iast C (mm_dec dk_X12_takes 63 rfl) rfl (by omega) (by omega) ?_
                      have i3 : mm_inv (mm_pa h22c 69 p1 p2) := mm_inv_pa i22c (show 0 ≤ p2 ∧ p2 ≤ 99 from ⟨by omega, by omega⟩)
                      have f3 : mm_fr [(66, 0), (66, 3)] [69] h (mm_pa h22c 69 p1 p2) := mm_fr_pa f22c (by decide)
                      obtain ⟨h3, eh3⟩ : ∃ z, z = mm_pa h22c 69 p1 p2 := ⟨_, rfl⟩
                      rw [← eh3] at i3 f3 ⊢
                      have qh3_4 : h3.1 66 21 = h22c.1 66 21 := by rw [eh3]; rfl
                      have qh3_5 : h3.1 66 23 = h22c.1 66 23 := by rw [eh3]; rfl
                      refine mm_iconst C (mm_dec dk_X12_takes 64 rfl) ⟨by decide, by decide⟩ ?_
                      exact mm_zret C T (mm_dec dk_X12_takes 65 rfl) (by decide : 0 ≤ 0) (by decide : 0 ≤ 0) (by omega) ⟨_, rfl, ⟨⟨by omega, by omega⟩, i3, f3⟩⟩
                    · skip
                      refine mm_aload_n C (mm_dec dk_X12_takes 44 rfl) rfl ?_
                      refine mm_getr (t := 67) C fl_X12_7 (mm_dec dk_X12_takes 45 rfl) rfl rfl (mm_ref i22c rfl) ?_
                      refine mm_aload_n C (mm_dec dk_X12_takes 46 rfl) rfl ?_
                      refine mm_getr (t := 78) C fl_X12_45 (mm_dec dk_X12_takes 47 rfl) rfl rfl (mm_ref i22c rfl) ?_
                      refine mm_iload_n C (mm_dec dk_X12_takes 48 rfl) rfl ?_
                      refine mm_iald C (mm_dec dk_X12_takes 49 rfl) rfl (by omega) (by omega) ?_
                      have g6 : 0 ≤ (h22c.2.1 78 x73_3) ∧ (h22c.2.1 78 x73_3) ≤ 399 := i22c.2.1 78 x73_3
                      refine mm_iald C (mm_dec dk_X12_takes 50 rfl) rfl (by omega) (by omega) ?_
                      have g7 : 0 ≤ (h22c.2.1 67 (h22c.2.1 78 x73_3)) ∧ (h22c.2.1 67 (h22c.2.1 78 x73_3)) ≤ 7 := i22c.2.1 67 (h22c.2.1 78 x73_3)
                      refine mm_iload_n C (mm_dec dk_X12_takes 51 rfl) rfl ?_
                      have J102 : mm_W x 0 0 102 [mR 66, mI p1, mI p2, mI x73_3] [] h22c := by
                        refine mm_iincL (ls2 := [mR 66, mI p1, mI p2, mI (x73_3 + 1)]) C (mm_dec dk_X12_takes 57 rfl) rfl (by decide) ⟨by omega, by omega⟩ rfl ?_
                        refine mm_goto (tgt := 73) C (mm_dec dk_X12_takes 58 rfl) (by decide) ?_
                        exact ih73 (x73_3 + 1) ⟨by omega, by omega⟩ (by omega)
                      refine mm_icmp_ne (tgt := 102) C (mm_dec dk_X12_takes 52 rfl) (by decide) (fun c93 => ?_) (fun c93 => ?_)
                      · skip
                        exact J102
                      · skip
                        refine mm_iload_n C (mm_dec dk_X12_takes 53 rfl) rfl ?_
                        refine mm_if_ne (tgt := 102) C (mm_dec dk_X12_takes 54 rfl) (by decide) (fun c97 => ?_) (fun c97 => ?_)
                        · skip
                          exact J102
                        · skip
                          refine mm_iconst C (mm_dec dk_X12_takes 55 rfl) ⟨by decide, by decide⟩ ?_
                          exact mm_zret C T (mm_dec dk_X12_takes 56 rfl) (by decide : 0 ≤ 0) (by decide : 0 ≤ 0) (by omega) ⟨_, rfl, ⟨⟨by omega, by omega⟩, i22c, f22c⟩⟩
                refine mm_istore_nL (ls2 := [mR 66, mI p1, mI p2, mI 0]) C (mm_dec dk_X12_takes 39 rfl) (by decide) rfl ?_
                exact J73 (((20 - 0) : Int) + 1).toNat 0 ⟨by omega, by omega⟩ (by omega)
              · skip
                refine mm_aload_n C (mm_dec dk_X12_takes 33 rfl) rfl ?_
                refine mm_iload_n C (mm_dec dk_X12_takes 34 rfl) rfl ?_
                refine mm_puti C fl_X12_198 (mm_dec dk_X12_takes 35 rfl) rfl rfl rfl (Or.inl ⟨rfl, rfl⟩) ?_
                have i4 : mm_inv (mm_pf h22c 66 3 p2) := mm_inv_pf i22c (show 0 ≤ p2 ∧ p2 ≤ 9 from ⟨by omega, by omega⟩) (by decide)
                have f4 : mm_fr [(66, 0), (66, 3)] [69] h (mm_pf h22c 66 3 p2) := mm_fr_pf f22c (by decide)
                obtain ⟨h4, eh4⟩ : ∃ z, z = mm_pf h22c 66 3 p2 := ⟨_, rfl⟩
                rw [← eh4] at i4 f4 ⊢
                have qh4 : h4.1 66 3 = p2 := by rw [eh4]; exact mm_pf_same _ _ _ _
                have qh4_8 : h4.1 66 23 = h22c.1 66 23 := by rw [eh4]; exact mm_pf_ne _ _ (by decide)
                refine mm_iconst C (mm_dec dk_X12_takes 36 rfl) ⟨by decide, by decide⟩ ?_
                exact mm_zret C T (mm_dec dk_X12_takes 37 rfl) (by decide : 0 ≤ 0) (by decide : 0 ≤ 0) (by omega) ⟨_, rfl, ⟨⟨by omega, by omega⟩, i4, f4⟩⟩
            · skip
              refine mm_fgt 0 ?_
              refine mm_fgt 1 ?_
              refine mm_fgt 2 ?_
              exact J56
          refine mm_icmp_ne (tgt := 51) C (mm_dec dk_X12_takes 23 rfl) (by decide) (fun c43 => ?_) (fun c43 => ?_)
          · skip
            refine mm_bipush C (mm_dec dk_X12_takes 26 rfl) ⟨by decide, by decide⟩ ?_
            exact J53 99 ⟨by omega, by omega⟩ (Or.inr (⟨by omega, rfl⟩))
          · skip
            refine mm_bipush C (mm_dec dk_X12_takes 24 rfl) ⟨by decide, by decide⟩ ?_
            refine mm_goto (tgt := 53) C (mm_dec dk_X12_takes 25 rfl) (by decide) ?_
            exact J53 9 ⟨by omega, by omega⟩ (Or.inl ⟨by omega, rfl⟩)
  have J20 : mm_W x 0 0 20 [mR 66, mI p1, mI p2, mU] [mR 66] h1 := by
    refine mm_iconst C (mm_dec dk_X12_takes 11 rfl) ⟨by decide, by decide⟩ ?_
    exact J21 0 ⟨by omega, by omega⟩ (Or.inl rfl)
  refine mm_if_lt (tgt := 20) C (mm_dec dk_X12_takes 5 rfl) (by decide) (fun c7 => ?_) (fun c7 => ?_)
  · skip
    exact J20
  · skip
    refine mm_iload_n C (mm_dec dk_X12_takes 6 rfl) rfl ?_
    refine mm_bipush C (mm_dec dk_X12_takes 7 rfl) ⟨by decide, by decide⟩ ?_
    refine mm_icmp_gt (tgt := 20) C (mm_dec dk_X12_takes 8 rfl) (by decide) (fun c13 => ?_) (fun c13 => ?_)
    · skip
      exact J20
    · skip
      refine mm_iconst C (mm_dec dk_X12_takes 9 rfl) ⟨by decide, by decide⟩ ?_
      refine mm_goto (tgt := 21) C (mm_dec dk_X12_takes 10 rfl) (by decide) ?_
      exact J21 1 ⟨by omega, by omega⟩ (Or.inr (⟨by omega, by omega, rfl⟩))
set_option maxRecDepth 100000 in
set_option maxHeartbeats 4000000 in
theorem c_X12_leads (l : Launch) (hl : l.stackTraces = false) (d : Nat) (hd : 0 ≤ d) (h : mH) (i0 : mm_inv h) (p1 : Int) (p2 : Int) (bp1 : 0 ≤ p1 ∧ p1 ≤ 399) : mm_Met l d yX12_leads cX12_leads 7 (some .int) [mR 66, mI p1, mI p2] h (mm_pi fun r h2 => (-1 ≤ r ∧ r ≤ 399) ∧ h2 = h) mm_nx 0 0 := by
  refine mm_ofW (ls := [mR 66, mI p1, mI p2, mU, mU, mU, mU]) hl (by decide) rfl (Nat.le_of_ble_eq_true rfl) ?_
  intro x hxl C T hnm htb
  subst hxl
  refine mm_rng (fun hr _ => ?_)
  have ap1 : -2147483648 ≤ p1 ∧ p1 < 2147483648 := mm_ok_at hr (i := 1) rfl
  have ap2 : -2147483648 ≤ p2 ∧ p2 < 2147483648 := mm_ok_at hr (i := 2) rfl
  have f0 : mm_fr [] [] h h := mm_fr_rf
  refine mm_iload_n C (mm_dec dk_X12_leads 0 rfl) rfl ?_
  refine mm_bipush C (mm_dec dk_X12_leads 1 rfl) ⟨by decide, by decide⟩ ?_
  refine mm_irem C (mm_dec dk_X12_leads 2 rfl) (by omega) (by omega) ?_
  refine mm_iload_n C (mm_dec dk_X12_leads 3 rfl) rfl ?_
  refine mm_iconst C (mm_dec dk_X12_leads 4 rfl) ⟨by decide, by decide⟩ ?_
  have J23 : ∀ (s23_1 : Int) (bs23_1 : -1 ≤ s23_1 ∧ s23_1 ≤ 1) (vs23_1 : (p2 ≠ 1 ∧ p2 = 3 ∧ s23_1 = -1) ∨ (p2 ≠ 1 ∧ p2 ≠ 3 ∧ s23_1 = 0) ∨ (p2 = 1 ∧ s23_1 = 1)), mm_W x 0 0 23 [mR 66, mI p1, mI p2, mU, mU, mU, mU] [mI s23_1, mI (p1 % 20)] h := by
    intro s23_1 bs23_1 vs23_1
    refine mm_iadd C (mm_dec dk_X12_leads 14 rfl) ⟨by omega, by omega⟩ ?_
    refine mm_istore_nL (ls2 := [mR 66, mI p1, mI p2, mI ((p1 % 20) + s23_1), mU, mU, mU]) C (mm_dec dk_X12_leads 15 rfl) (by decide) rfl ?_
    refine mm_iload_n C (mm_dec dk_X12_leads 16 rfl) rfl ?_
    refine mm_bipush C (mm_dec dk_X12_leads 17 rfl) ⟨by decide, by decide⟩ ?_
    refine mm_idiv C (mm_dec dk_X12_leads 18 rfl) ⟨by omega, by omega⟩ (by omega) ?_
    refine mm_iload_n C (mm_dec dk_X12_leads 19 rfl) rfl ?_
    refine mm_iconst C (mm_dec dk_X12_leads 20 rfl) ⟨by decide, by decide⟩ ?_
    have J47 : ∀ (s47_1 : Int) (bs47_1 : -1 ≤ s47_1 ∧ s47_1 ≤ 1) (vs47_1 : (p2 ≠ 2 ∧ p2 = 0 ∧ s47_1 = -1) ∨ (p2 ≠ 2 ∧ p2 ≠ 0 ∧ s47_1 = 0) ∨ (p2 = 2 ∧ s47_1 = 1)), mm_W x 0 0 47 [mR 66, mI p1, mI p2, mI ((p1 % 20) + s23_1), mU, mU, mU] [mI s47_1, mI (p1 / 20)] h := by
      intro s47_1 bs47_1 vs47_1
      refine mm_iadd C (mm_dec dk_X12_leads 29 rfl) ⟨by omega, by omega⟩ ?_
      refine mm_istoreL (ls2 := [mR 66, mI p1, mI p2, mI ((p1 % 20) + s23_1), mI ((p1 / 20) + s47_1), mU, mU]) C (mm_dec dk_X12_leads 30 rfl) (by decide) rfl ?_
      refine mm_iload_n C (mm_dec dk_X12_leads 31 rfl) rfl ?_
      have J76 : mm_W x 0 0 76 [mU, mU, mU, mU, mU, mU, mU] [] h := by
        refine mm_iconst C (mm_dec dk_X12_leads 43 rfl) ⟨by decide, by decide⟩ ?_
        exact mm_iret C T (mm_dec dk_X12_leads 44 rfl) (by decide : 0 ≤ 0) (by decide : 0 ≤ 0) ⟨_, rfl, ⟨⟨by omega, by omega⟩, rfl⟩⟩
      refine mm_if_lt (tgt := 76) C (mm_dec dk_X12_leads 32 rfl) (by decide) (fun c51 => ?_) (fun c51 => ?_)
      · skip
        refine mm_fgt 0 ?_
        refine mm_fgt 1 ?_
        refine mm_fgt 2 ?_
        refine mm_fgt 3 ?_
        refine mm_fgt 4 ?_
        exact J76
      · skip
        refine mm_iload C (mm_dec dk_X12_leads 33 rfl) rfl ?_
        refine mm_if_lt (tgt := 76) C (mm_dec dk_X12_leads 34 rfl) (by decide) (fun c56 => ?_) (fun c56 => ?_)
        · skip
          refine mm_fgt 0 ?_
          refine mm_fgt 1 ?_
          refine mm_fgt 2 ?_
          refine mm_fgt 3 ?_
          refine mm_fgt 4 ?_
          exact J76
        · skip
          refine mm_iload_n C (mm_dec dk_X12_leads 35 rfl) rfl ?_
          refine mm_aload_n C (mm_dec dk_X12_leads 36 rfl) rfl ?_
          refine mm_geti C fl_X12_192 (mm_dec dk_X12_leads 37 rfl) rfl rfl (Or.inl rfl) ?_
          have g1 : 1 ≤ (h.1 66 1) ∧ (h.1 66 1) ≤ 20 := i0.1 66 1
          refine mm_icmp_ge (tgt := 76) C (mm_dec dk_X12_leads 38 rfl) (by decide) (fun c64 => ?_) (fun c64 => ?_)
          · skip
            refine mm_fgt 0 ?_
            refine mm_fgt 1 ?_
            refine mm_fgt 2 ?_
            refine mm_fgt 3 ?_
            refine mm_fgt 4 ?_
            exact J76
          · skip
            refine mm_iload C (mm_dec dk_X12_leads 39 rfl) rfl ?_
            refine mm_aload_n C (mm_dec dk_X12_leads 40 rfl) rfl ?_
            refine mm_geti C fl_X12_195 (mm_dec dk_X12_leads 41 rfl) rfl rfl (Or.inl rfl) ?_
            have g2 : 1 ≤ (h.1 66 2) ∧ (h.1 66 2) ≤ 20 := i0.1 66 2
            refine mm_icmp_lt (tgt := 78) C (mm_dec dk_X12_leads 42 rfl) (by decide) (fun c73 => ?_) (fun c73 => ?_)
            · skip
              refine mm_bipush C (mm_dec dk_X12_leads 45 rfl) ⟨by decide, by decide⟩ ?_
              refine mm_iload C (mm_dec dk_X12_leads 46 rfl) rfl ?_
              refine mm_imul C (mm_dec dk_X12_leads 47 rfl) ⟨by omega, by omega⟩ ?_
              refine mm_iload_n C (mm_dec dk_X12_leads 48 rfl) rfl ?_
              refine mm_iadd C (mm_dec dk_X12_leads 49 rfl) ⟨by omega, by omega⟩ ?_
              refine mm_istoreL (ls2 := [mR 66, mI p1, mI p2, mI ((p1 % 20) + s23_1), mI ((p1 / 20) + s47_1), mI ((20 * ((p1 / 20) + s47_1)) + ((p1 % 20) + s23_1)), mU]) C (mm_dec dk_X12_leads 50 rfl) (by decide) rfl ?_
              refine mm_iload_n C (mm_dec dk_X12_leads 51 rfl) rfl ?_
              refine mm_iconst C (mm_dec dk_X12_leads 52 rfl) ⟨by decide, by decide⟩ ?_
              have J137 : ∀ (s137_0 : Int) (bs137_0 : 0 ≤ s137_0 ∧ s137_0 ≤ 1), mm_W x 0 0 137 [mR 66, mU, mU, mU, mU, mI ((20 * ((p1 / 20) + s47_1)) + ((p1 % 20) + s23_1)), mU] [mI s137_0] h := by
                intro s137_0 bs137_0
                refine mm_istoreL (ls2 := [mR 66, mU, mU, mU, mU, mI ((20 * ((p1 / 20) + s47_1)) + ((p1 % 20) + s23_1)), mI s137_0]) C (mm_dec dk_X12_leads 79 rfl) (by decide) rfl ?_
                refine mm_iload C (mm_dec dk_X12_leads 80 rfl) rfl ?_
                have J165 : ∀ (s165_0 : Int) (bs165_0 : -1 ≤ s165_0 ∧ s165_0 ≤ 399), mm_W x 0 0 165 [mU, mU, mU, mU, mU, mU, mU] [mI s165_0] h := by
                  intro s165_0 bs165_0
                  exact mm_iret C T (mm_dec dk_X12_leads 93 rfl) (by decide : 0 ≤ 0) (by decide : 0 ≤ 0) ⟨_, rfl, ⟨⟨by omega, by omega⟩, rfl⟩⟩
                have J159 : mm_W x 0 0 159 [mU, mU, mU, mU, mU, mU, mU] [] h := by
                  refine mm_iconst C (mm_dec dk_X12_leads 90 rfl) ⟨by decide, by decide⟩ ?_
                  refine mm_goto (tgt := 165) C (mm_dec dk_X12_leads 91 rfl) (by decide) ?_
                  exact J165 (-1) ⟨by omega, by omega⟩
                refine mm_if_ne (tgt := 159) C (mm_dec dk_X12_leads 81 rfl) (by decide) (fun c141 => ?_) (fun c141 => ?_)
                · skip
                  refine mm_fgt 0 ?_
                  refine mm_fgt 5 ?_
                  refine mm_fgt 6 ?_
                  exact J159
                · skip
                  refine mm_aload_n C (mm_dec dk_X12_leads 82 rfl) rfl ?_
                  refine mm_getr (t := 69) C fl_X12_16 (mm_dec dk_X12_leads 83 rfl) rfl rfl (mm_ref i0 rfl) ?_
                  refine mm_aload_n C (mm_dec dk_X12_leads 84 rfl) rfl ?_
                  refine mm_getr (t := 67) C fl_X12_7 (mm_dec dk_X12_leads 85 rfl) rfl rfl (mm_ref i0 rfl) ?_
                  refine mm_iload C (mm_dec dk_X12_leads 86 rfl) rfl ?_
                  refine mm_iald C (mm_dec dk_X12_leads 87 rfl) rfl (by omega) (by omega) ?_
                  have g3 : 0 ≤ (h.2.1 67 ((20 * ((p1 / 20) + s47_1)) + ((p1 % 20) + s23_1))) ∧ (h.2.1 67 ((20 * ((p1 / 20) + s47_1)) + ((p1 % 20) + s23_1))) ≤ 7 := i0.2.1 67 ((20 * ((p1 / 20) + s47_1)) + ((p1 % 20) + s23_1))
                  refine mm_iald C (mm_dec dk_X12_leads 88 rfl) rfl (by omega) (by omega) ?_
                  have g4 : 0 ≤ (h.2.1 69 (h.2.1 67 ((20 * ((p1 / 20) + s47_1)) + ((p1 % 20) + s23_1)))) ∧ (h.2.1 69 (h.2.1 67 ((20 * ((p1 / 20) + s47_1)) + ((p1 % 20) + s23_1)))) ≤ 99 := i0.2.1 69 (h.2.1 67 ((20 * ((p1 / 20) + s47_1)) + ((p1 % 20) + s23_1)))
                  refine mm_if_ne (tgt := 163) C (mm_dec dk_X12_leads 89 rfl) (by decide) (fun c156 => ?_) (fun c156 => ?_)
                  · skip
                    refine mm_iload C (mm_dec dk_X12_leads 92 rfl) rfl ?_
                    refine mm_fgt 0 ?_
                    refine mm_fgt 5 ?_
                    refine mm_fgt 6 ?_
                    exact J165 ((20 * ((p1 / 20) + s47_1)) + ((p1 % 20) + s23_1)) ⟨by omega, by omega⟩
                  · skip
                    refine mm_fgt 0 ?_
                    refine mm_fgt 5 ?_
                    refine mm_fgt 6 ?_
                    exact J159
              refine mm_icmp_ne (tgt := 101) C (mm_dec dk_X12_leads 53 rfl) (by decide) (fun c89 => ?_) (fun c89 => ?_)
              · skip
                refine mm_iload_n C (mm_dec dk_X12_leads 59 rfl) rfl ?_
                refine mm_iconst C (mm_dec dk_X12_leads 60 rfl) ⟨by decide, by decide⟩ ?_
                refine mm_icmp_ne (tgt := 116) C (mm_dec dk_X12_leads 61 rfl) (by decide) (fun c103 => ?_) (fun c103 => ?_)
                · skip
                  refine mm_iload_n C (mm_dec dk_X12_leads 67 rfl) rfl ?_
                  refine mm_iconst C (mm_dec dk_X12_leads 68 rfl) ⟨by decide, by decide⟩ ?_
                  refine mm_icmp_ne (tgt := 130) C (mm_dec dk_X12_leads 69 rfl) (by decide) (fun c118 => ?_) (fun c118 => ?_)
                  · skip
                    refine mm_aload_n C (mm_dec dk_X12_leads 75 rfl) rfl ?_
                    refine mm_getr (t := 71) C fl_X12_23 (mm_dec dk_X12_leads 76 rfl) rfl rfl (mm_ref i0 rfl) ?_
                    refine mm_iload C (mm_dec dk_X12_leads 77 rfl) rfl ?_
                    refine mm_zald C (mm_dec dk_X12_leads 78 rfl) rfl (by omega) (by omega) ?_
                    have g5 : 0 ≤ (h.2.1 71 ((20 * ((p1 / 20) + s47_1)) + ((p1 % 20) + s23_1))) ∧ (h.2.1 71 ((20 * ((p1 / 20) + s47_1)) + ((p1 % 20) + s23_1))) ≤ 1 := i0.2.1 71 ((20 * ((p1 / 20) + s47_1)) + ((p1 % 20) + s23_1))
                    refine mm_fgt 1 ?_
                    refine mm_fgt 2 ?_
                    refine mm_fgt 3 ?_
                    refine mm_fgt 4 ?_
                    exact J137 (h.2.1 71 ((20 * ((p1 / 20) + s47_1)) + ((p1 % 20) + s23_1))) ⟨by omega, by omega⟩
                  · skip
                    refine mm_aload_n C (mm_dec dk_X12_leads 70 rfl) rfl ?_
                    refine mm_getr (t := 71) C fl_X12_23 (mm_dec dk_X12_leads 71 rfl) rfl rfl (mm_ref i0 rfl) ?_
                    refine mm_iload_n C (mm_dec dk_X12_leads 72 rfl) rfl ?_
                    refine mm_zald C (mm_dec dk_X12_leads 73 rfl) rfl (by omega) (by omega) ?_
                    have g6 : 0 ≤ (h.2.1 71 p1) ∧ (h.2.1 71 p1) ≤ 1 := i0.2.1 71 p1
                    refine mm_goto (tgt := 137) C (mm_dec dk_X12_leads 74 rfl) (by decide) ?_
                    refine mm_fgt 1 ?_
                    refine mm_fgt 2 ?_
                    refine mm_fgt 3 ?_
                    refine mm_fgt 4 ?_
                    exact J137 (h.2.1 71 p1) ⟨by omega, by omega⟩
                · skip
                  refine mm_aload_n C (mm_dec dk_X12_leads 62 rfl) rfl ?_
                  refine mm_getr (t := 70) C fl_X12_19 (mm_dec dk_X12_leads 63 rfl) rfl rfl (mm_ref i0 rfl) ?_
                  refine mm_iload C (mm_dec dk_X12_leads 64 rfl) rfl ?_
                  refine mm_zald C (mm_dec dk_X12_leads 65 rfl) rfl (by omega) (by omega) ?_
                  have g7 : 0 ≤ (h.2.1 70 ((20 * ((p1 / 20) + s47_1)) + ((p1 % 20) + s23_1))) ∧ (h.2.1 70 ((20 * ((p1 / 20) + s47_1)) + ((p1 % 20) + s23_1))) ≤ 1 := i0.2.1 70 ((20 * ((p1 / 20) + s47_1)) + ((p1 % 20) + s23_1))
                  refine mm_goto (tgt := 137) C (mm_dec dk_X12_leads 66 rfl) (by decide) ?_
                  refine mm_fgt 1 ?_
                  refine mm_fgt 2 ?_
                  refine mm_fgt 3 ?_
                  refine mm_fgt 4 ?_
                  exact J137 (h.2.1 70 ((20 * ((p1 / 20) + s47_1)) + ((p1 % 20) + s23_1))) ⟨by omega, by omega⟩
              · skip
                refine mm_aload_n C (mm_dec dk_X12_leads 54 rfl) rfl ?_
                refine mm_getr (t := 70) C fl_X12_19 (mm_dec dk_X12_leads 55 rfl) rfl rfl (mm_ref i0 rfl) ?_
                refine mm_iload_n C (mm_dec dk_X12_leads 56 rfl) rfl ?_
                refine mm_zald C (mm_dec dk_X12_leads 57 rfl) rfl (by omega) (by omega) ?_
                have g8 : 0 ≤ (h.2.1 70 p1) ∧ (h.2.1 70 p1) ≤ 1 := i0.2.1 70 p1
                refine mm_goto (tgt := 137) C (mm_dec dk_X12_leads 58 rfl) (by decide) ?_
                refine mm_fgt 1 ?_
                refine mm_fgt 2 ?_
                refine mm_fgt 3 ?_
                refine mm_fgt 4 ?_
                exact J137 (h.2.1 70 p1) ⟨by omega, by omega⟩
            · skip
              refine mm_fgt 0 ?_
              refine mm_fgt 1 ?_
              refine mm_fgt 2 ?_
              refine mm_fgt 3 ?_
              refine mm_fgt 4 ?_
              exact J76
    refine mm_icmp_ne (tgt := 38) C (mm_dec dk_X12_leads 21 rfl) (by decide) (fun c31 => ?_) (fun c31 => ?_)
    · skip
      refine mm_iload_n C (mm_dec dk_X12_leads 24 rfl) rfl ?_
      refine mm_if_ne (tgt := 46) C (mm_dec dk_X12_leads 25 rfl) (by decide) (fun c39 => ?_) (fun c39 => ?_)
      · skip
        refine mm_iconst C (mm_dec dk_X12_leads 28 rfl) ⟨by decide, by decide⟩ ?_
        exact J47 0 ⟨by omega, by omega⟩ (Or.inr (Or.inl ⟨by omega, by omega, rfl⟩))
      · skip
        refine mm_iconst C (mm_dec dk_X12_leads 26 rfl) ⟨by decide, by decide⟩ ?_
        refine mm_goto (tgt := 47) C (mm_dec dk_X12_leads 27 rfl) (by decide) ?_
        exact J47 (-1) ⟨by omega, by omega⟩ (Or.inl ⟨by omega, by omega, rfl⟩)
    · skip
      refine mm_iconst C (mm_dec dk_X12_leads 22 rfl) ⟨by decide, by decide⟩ ?_
      refine mm_goto (tgt := 47) C (mm_dec dk_X12_leads 23 rfl) (by decide) ?_
      exact J47 1 ⟨by omega, by omega⟩ (Or.inr (Or.inr (⟨by omega, rfl⟩)))
  refine mm_icmp_ne (tgt := 13) C (mm_dec dk_X12_leads 5 rfl) (by decide) (fun c6 => ?_) (fun c6 => ?_)
  · skip
    refine mm_iload_n C (mm_dec dk_X12_leads 8 rfl) rfl ?_
    refine mm_iconst C (mm_dec dk_X12_leads 9 rfl) ⟨by decide, by decide⟩ ?_
    refine mm_icmp_ne (tgt := 22) C (mm_dec dk_X12_leads 10 rfl) (by decide) (fun c15 => ?_) (fun c15 => ?_)
    · skip
      refine mm_iconst C (mm_dec dk_X12_leads 13 rfl) ⟨by decide, by decide⟩ ?_
      exact J23 0 ⟨by omega, by omega⟩ (Or.inr (Or.inl ⟨by omega, by omega, rfl⟩))
    · skip
      refine mm_iconst C (mm_dec dk_X12_leads 11 rfl) ⟨by decide, by decide⟩ ?_
      refine mm_goto (tgt := 23) C (mm_dec dk_X12_leads 12 rfl) (by decide) ?_
      exact J23 (-1) ⟨by omega, by omega⟩ (Or.inl ⟨by omega, by omega, rfl⟩)
  · skip
    refine mm_iconst C (mm_dec dk_X12_leads 6 rfl) ⟨by decide, by decide⟩ ?_
    refine mm_goto (tgt := 23) C (mm_dec dk_X12_leads 7 rfl) (by decide) ?_
    exact J23 1 ⟨by omega, by omega⟩ (Or.inr (Or.inr (⟨by omega, rfl⟩)))
set_option maxRecDepth 100000 in
set_option maxHeartbeats 4000000 in
theorem c_X12_seconds (l : Launch) (hl : l.stackTraces = false) (d : Nat) (hd : 0 ≤ d) (h : mH) (i0 : mm_inv h) (p1 : Int) (p2 : Int) (bp1 : 0 ≤ p1 ∧ p1 ≤ 399) (bp2 : 0 ≤ p2 ∧ p2 ≤ 399) : mm_Met l d yX12_seconds cX12_seconds 4 (some .int) [mR 66, mI p1, mI p2] h (mm_pi fun r h2 => (0 ≤ r ∧ r ≤ 990) ∧ h2 = h) mm_nx 0 0 := by
  refine mm_ofW (ls := [mR 66, mI p1, mI p2, mU]) hl (by decide) rfl (Nat.le_of_ble_eq_true rfl) ?_
  intro x hxl C T hnm htb
  subst hxl
  refine mm_rng (fun hr _ => ?_)
  have ap1 : -2147483648 ≤ p1 ∧ p1 < 2147483648 := mm_ok_at hr (i := 1) rfl
  have ap2 : -2147483648 ≤ p2 ∧ p2 < 2147483648 := mm_ok_at hr (i := 2) rfl
  have f0 : mm_fr [] [] h h := mm_fr_rf
  refine mm_aload_n C (mm_dec dk_X12_seconds 0 rfl) rfl ?_
  refine mm_getr (t := 68) C fl_X12_13 (mm_dec dk_X12_seconds 1 rfl) rfl rfl (mm_ref i0 rfl) ?_
  refine mm_iload_n C (mm_dec dk_X12_seconds 2 rfl) rfl ?_
  refine mm_iald C (mm_dec dk_X12_seconds 3 rfl) rfl (by omega) (by omega) ?_
  have g1 : 0 ≤ (h.2.1 68 p2) ∧ (h.2.1 68 p2) ≤ 99 := i0.2.1 68 p2
  refine mm_aload_n C (mm_dec dk_X12_seconds 4 rfl) rfl ?_
  refine mm_getr (t := 68) C fl_X12_13 (mm_dec dk_X12_seconds 5 rfl) rfl rfl (mm_ref i0 rfl) ?_
  refine mm_iload_n C (mm_dec dk_X12_seconds 6 rfl) rfl ?_
  refine mm_iald C (mm_dec dk_X12_seconds 7 rfl) rfl (by omega) (by omega) ?_
  have g2 : 0 ≤ (h.2.1 68 p1) ∧ (h.2.1 68 p1) ≤ 99 := i0.2.1 68 p1
  refine mm_isub C (mm_dec dk_X12_seconds 8 rfl) ⟨by omega, by omega⟩ ?_
  refine mm_istore_nL (ls2 := [mR 66, mI p1, mI p2, mI ((h.2.1 68 p2) - (h.2.1 68 p1))]) C (mm_dec dk_X12_seconds 9 rfl) (by decide) rfl ?_
  refine mm_aload_n C (mm_dec dk_X12_seconds 10 rfl) rfl ?_
  refine mm_getr (t := 69) C fl_X12_16 (mm_dec dk_X12_seconds 11 rfl) rfl rfl (mm_ref i0 rfl) ?_
  refine mm_aload_n C (mm_dec dk_X12_seconds 12 rfl) rfl ?_
  refine mm_getr (t := 67) C fl_X12_7 (mm_dec dk_X12_seconds 13 rfl) rfl rfl (mm_ref i0 rfl) ?_
  refine mm_iload_n C (mm_dec dk_X12_seconds 14 rfl) rfl ?_
  refine mm_iald C (mm_dec dk_X12_seconds 15 rfl) rfl (by omega) (by omega) ?_
  have g3 : 0 ≤ (h.2.1 67 p2) ∧ (h.2.1 67 p2) ≤ 7 := i0.2.1 67 p2
  refine mm_iald C (mm_dec dk_X12_seconds 16 rfl) rfl (by omega) (by omega) ?_
  have g4 : 0 ≤ (h.2.1 69 (h.2.1 67 p2)) ∧ (h.2.1 69 (h.2.1 67 p2)) ≤ 99 := i0.2.1 69 (h.2.1 67 p2)
  refine mm_iload_n C (mm_dec dk_X12_seconds 17 rfl) rfl ?_
  refine mm_if_le (tgt := 38) C (mm_dec dk_X12_seconds 18 rfl) (by decide) (fun c26 => ?_) (fun c26 => ?_)
  · skip
    refine mm_iconst C (mm_dec dk_X12_seconds 24 rfl) ⟨by decide, by decide⟩ ?_
    refine mm_iadd C (mm_dec dk_X12_seconds 25 rfl) ⟨by omega, by omega⟩ ?_
    exact mm_iret C T (mm_dec dk_X12_seconds 26 rfl) (by decide : 0 ≤ 0) (by decide : 0 ≤ 0) ⟨_, rfl, ⟨⟨by omega, by omega⟩, rfl⟩⟩
  · skip
    refine mm_aload_n C (mm_dec dk_X12_seconds 19 rfl) rfl ?_
    refine mm_geti C fl_X12_198 (mm_dec dk_X12_seconds 20 rfl) rfl rfl (Or.inl rfl) ?_
    have g5 : 0 ≤ (h.1 66 3) ∧ (h.1 66 3) ≤ 9 := i0.1 66 3
    refine mm_iload_n C (mm_dec dk_X12_seconds 21 rfl) rfl ?_
    have g6 : 0 ≤ (h.1 66 3) * ((h.2.1 68 p2) - (h.2.1 68 p1)) ∧ (h.1 66 3) * ((h.2.1 68 p2) - (h.2.1 68 p1)) ≤ 9 * 99 := mm_mul_rg ⟨by omega, by omega⟩ ⟨by omega, by omega⟩
    refine mm_imul C (mm_dec dk_X12_seconds 22 rfl) ⟨by omega, by omega⟩ ?_
    refine mm_goto (tgt := 39) C (mm_dec dk_X12_seconds 23 rfl) (by decide) ?_
    refine mm_iadd C (mm_dec dk_X12_seconds 25 rfl) ⟨by omega, by omega⟩ ?_
    exact mm_iret C T (mm_dec dk_X12_seconds 26 rfl) (by decide : 0 ≤ 0) (by decide : 0 ≤ 0) ⟨_, rfl, ⟨⟨by omega, by omega⟩, rfl⟩⟩
set_option maxRecDepth 100000 in
set_option maxHeartbeats 4000000 in
theorem c_X12_isLess (l : Launch) (hl : l.stackTraces = false) (d : Nat) (hd : 0 ≤ d) (h : mH) (i0 : mm_inv h) (p1 : Int) (p2 : Int) (bp1 : 0 ≤ p1 ∧ p1 ≤ 399) (bp2 : 0 ≤ p2 ∧ p2 ≤ 399) : mm_Met l d yX12_isLess cX12_isLess 3 (some .boolean) [mR 66, mI p1, mI p2] h (mm_pi fun r h2 => h2 = h ∧ (((h.2.1 72 p1) < (h.2.1 72 p2) ∧ r = 1) ∨ ((h.2.1 72 p2) ≤ (h.2.1 72 p1) ∧ (h.2.1 72 p1) ≠ (h.2.1 72 p2) ∧ r = 0) ∨ ((h.2.1 72 p2) ≤ (h.2.1 72 p1) ∧ (h.2.1 72 p1) = (h.2.1 72 p2) ∧ (h.2.1 73 p2) ≤ (h.2.1 73 p1) ∧ r = 0) ∨ ((h.2.1 72 p2) ≤ (h.2.1 72 p1) ∧ (h.2.1 72 p1) = (h.2.1 72 p2) ∧ (h.2.1 73 p1) < (h.2.1 73 p2) ∧ r = 1))) mm_nx 0 0 := by
  refine mm_ofW (ls := [mR 66, mI p1, mI p2]) hl (by decide) rfl (Nat.le_of_ble_eq_true rfl) ?_
  intro x hxl C T hnm htb
  subst hxl
  refine mm_rng (fun hr _ => ?_)
  have ap1 : -2147483648 ≤ p1 ∧ p1 < 2147483648 := mm_ok_at hr (i := 1) rfl
  have ap2 : -2147483648 ≤ p2 ∧ p2 < 2147483648 := mm_ok_at hr (i := 2) rfl
  have f0 : mm_fr [] [] h h := mm_fr_rf
  refine mm_aload_n C (mm_dec dk_X12_isLess 0 rfl) rfl ?_
  refine mm_getr (t := 72) C fl_X12_26 (mm_dec dk_X12_isLess 1 rfl) rfl rfl (mm_ref i0 rfl) ?_
  refine mm_iload_n C (mm_dec dk_X12_isLess 2 rfl) rfl ?_
  refine mm_iald C (mm_dec dk_X12_isLess 3 rfl) rfl (by omega) (by omega) ?_
  have g1 : 0 ≤ (h.2.1 72 p1) ∧ (h.2.1 72 p1) ≤ 1000000000 := i0.2.1 72 p1
  refine mm_aload_n C (mm_dec dk_X12_isLess 4 rfl) rfl ?_
  refine mm_getr (t := 72) C fl_X12_26 (mm_dec dk_X12_isLess 5 rfl) rfl rfl (mm_ref i0 rfl) ?_
  refine mm_iload_n C (mm_dec dk_X12_isLess 6 rfl) rfl ?_
  refine mm_iald C (mm_dec dk_X12_isLess 7 rfl) rfl (by omega) (by omega) ?_
  have g2 : 0 ≤ (h.2.1 72 p2) ∧ (h.2.1 72 p2) ≤ 1000000000 := i0.2.1 72 p2
  refine mm_icmp_lt (tgt := 45) C (mm_dec dk_X12_isLess 8 rfl) (by decide) (fun c12 => ?_) (fun c12 => ?_)
  · skip
    refine mm_iconst C (mm_dec dk_X12_isLess 27 rfl) ⟨by decide, by decide⟩ ?_
    refine mm_goto (tgt := 50) C (mm_dec dk_X12_isLess 28 rfl) (by decide) ?_
    exact mm_zret C T (mm_dec dk_X12_isLess 30 rfl) (by decide : 0 ≤ 0) (by decide : 0 ≤ 0) (by omega) ⟨_, rfl, ⟨rfl, Or.inl ⟨by omega, rfl⟩⟩⟩
  · skip
    refine mm_aload_n C (mm_dec dk_X12_isLess 9 rfl) rfl ?_
    refine mm_getr (t := 72) C fl_X12_26 (mm_dec dk_X12_isLess 10 rfl) rfl rfl (mm_ref i0 rfl) ?_
    refine mm_iload_n C (mm_dec dk_X12_isLess 11 rfl) rfl ?_
    refine mm_iald C (mm_dec dk_X12_isLess 12 rfl) rfl (by omega) (by omega) ?_
    refine mm_aload_n C (mm_dec dk_X12_isLess 13 rfl) rfl ?_
    refine mm_getr (t := 72) C fl_X12_26 (mm_dec dk_X12_isLess 14 rfl) rfl rfl (mm_ref i0 rfl) ?_
    refine mm_iload_n C (mm_dec dk_X12_isLess 15 rfl) rfl ?_
    refine mm_iald C (mm_dec dk_X12_isLess 16 rfl) rfl (by omega) (by omega) ?_
    refine mm_icmp_ne (tgt := 49) C (mm_dec dk_X12_isLess 17 rfl) (by decide) (fun c27 => ?_) (fun c27 => ?_)
    · skip
      refine mm_iconst C (mm_dec dk_X12_isLess 29 rfl) ⟨by decide, by decide⟩ ?_
      exact mm_zret C T (mm_dec dk_X12_isLess 30 rfl) (by decide : 0 ≤ 0) (by decide : 0 ≤ 0) (by omega) ⟨_, rfl, ⟨rfl, Or.inr (Or.inl ⟨by omega, by omega, rfl⟩)⟩⟩
    · skip
      refine mm_aload_n C (mm_dec dk_X12_isLess 18 rfl) rfl ?_
      refine mm_getr (t := 73) C fl_X12_29 (mm_dec dk_X12_isLess 19 rfl) rfl rfl (mm_ref i0 rfl) ?_
      refine mm_iload_n C (mm_dec dk_X12_isLess 20 rfl) rfl ?_
      refine mm_iald C (mm_dec dk_X12_isLess 21 rfl) rfl (by omega) (by omega) ?_
      have g3 : 0 ≤ (h.2.1 73 p1) ∧ (h.2.1 73 p1) ≤ 400 := i0.2.1 73 p1
      refine mm_aload_n C (mm_dec dk_X12_isLess 22 rfl) rfl ?_
      refine mm_getr (t := 73) C fl_X12_29 (mm_dec dk_X12_isLess 23 rfl) rfl rfl (mm_ref i0 rfl) ?_
      refine mm_iload_n C (mm_dec dk_X12_isLess 24 rfl) rfl ?_
      refine mm_iald C (mm_dec dk_X12_isLess 25 rfl) rfl (by omega) (by omega) ?_
      have g4 : 0 ≤ (h.2.1 73 p2) ∧ (h.2.1 73 p2) ≤ 400 := i0.2.1 73 p2
      refine mm_icmp_ge (tgt := 49) C (mm_dec dk_X12_isLess 26 rfl) (by decide) (fun c42 => ?_) (fun c42 => ?_)
      · skip
        refine mm_iconst C (mm_dec dk_X12_isLess 29 rfl) ⟨by decide, by decide⟩ ?_
        exact mm_zret C T (mm_dec dk_X12_isLess 30 rfl) (by decide : 0 ≤ 0) (by decide : 0 ≤ 0) (by omega) ⟨_, rfl, ⟨rfl, Or.inr (Or.inr (Or.inl ⟨by omega, by omega, by omega, rfl⟩))⟩⟩
      · skip
        refine mm_iconst C (mm_dec dk_X12_isLess 27 rfl) ⟨by decide, by decide⟩ ?_
        refine mm_goto (tgt := 50) C (mm_dec dk_X12_isLess 28 rfl) (by decide) ?_
        exact mm_zret C T (mm_dec dk_X12_isLess 30 rfl) (by decide : 0 ≤ 0) (by decide : 0 ≤ 0) (by omega) ⟨_, rfl, ⟨rfl, Or.inr (Or.inr (Or.inr (⟨by omega, by omega, by omega, rfl⟩)))⟩⟩
set_option maxRecDepth 100000 in
set_option maxHeartbeats 4000000 in
theorem c_X12_counts (l : Launch) (hl : l.stackTraces = false) (d : Nat) (hd : 1 ≤ d) (h : mH) (i0 : mm_inv h) (p1 : Int) (p2 : Int) (bp1 : 0 ≤ p1 ∧ p1 ≤ 399) (bp2 : 0 ≤ p2 ∧ p2 ≤ 399) : mm_Met l d yX12_counts cX12_counts 7 none [mR 66, mI p1, mI p2] h (mm_pv fun h2 => mm_inv h2 ∧ mm_fr [] [75] h h2) mm_nx 0 0 := by
  refine mm_ofW (ls := [mR 66, mI p1, mI p2, mU, mU, mU, mU]) hl (by decide) rfl (Nat.le_of_ble_eq_true rfl) ?_
  intro x hxl C T hnm htb
  subst hxl
  have C1 := mm_OK_le (d' := d - 1 + 1) (by omega) C
  refine mm_rng (fun hr _ => ?_)
  have ap1 : -2147483648 ≤ p1 ∧ p1 < 2147483648 := mm_ok_at hr (i := 1) rfl
  have ap2 : -2147483648 ≤ p2 ∧ p2 < 2147483648 := mm_ok_at hr (i := 2) rfl
  have f0 : mm_fr [] [75] h h := mm_fr_rf
  refine mm_iload_n C (mm_dec dk_X12_counts 0 rfl) rfl ?_
  refine mm_iload_n C (mm_dec dk_X12_counts 1 rfl) rfl ?_
  refine mm_icmp_ne (tgt := 6) C (mm_dec dk_X12_counts 2 rfl) (by decide) (fun c2 => ?_) (fun c2 => ?_)
  · skip
    refine mm_lconst (z := 0) C (mm_dec dk_X12_counts 4 rfl) rfl ?_
    refine mm_lstore_nL (ls2 := [mR 66, mI p1, mI p2, mL 0, mU, mU, mU]) C (mm_dec dk_X12_counts 5 rfl) (by decide) rfl ?_
    refine mm_iconst C (mm_dec dk_X12_counts 6 rfl) ⟨by decide, by decide⟩ ?_
    have J11 : ∀ (n : Nat) (x11_3 : Int) (bx11_3 : -9223372036854775808 ≤ x11_3 ∧ x11_3 < 9223372036854775808) (x11_5 : Int) (bx11_5 : 0 ≤ x11_5 ∧ x11_5 ≤ 4), (4 - x11_5 : Int) < n → mm_W x 0 0 11 [mR 66, mI p1, mU, mL x11_3, mU, mI x11_5, mU] [] h := by
      intro n
      induction n with
      | zero =>
        intro x11_3 bx11_3 x11_5 bx11_5 hm
        exfalso; omega
      | succ n ih11 =>
        intro x11_3 bx11_3 x11_5 bx11_5 hm11
        refine mm_iload C (mm_dec dk_X12_counts 8 rfl) rfl ?_
        refine mm_iconst C (mm_dec dk_X12_counts 9 rfl) ⟨by decide, by decide⟩ ?_
        refine mm_icmp_ge (tgt := 95) C (mm_dec dk_X12_counts 10 rfl) (by decide) (fun c14 => ?_) (fun c14 => ?_)
        · skip
          refine mm_aload_n C (mm_dec dk_X12_counts 53 rfl) rfl ?_
          refine mm_getr (t := 75) C fl_X12_35 (mm_dec dk_X12_counts 54 rfl) rfl rfl (mm_ref i0 rfl) ?_
          refine mm_iload_n C (mm_dec dk_X12_counts 55 rfl) rfl ?_
          refine mm_lload_n C (mm_dec dk_X12_counts 56 rfl) rfl ?_
          refine mm_ldc2 (z := 1000000000000) C (mm_dec dk_X12_counts 57 rfl) kc_X12_278 (by decide) ?_
          refine mm_lcmp C (mm_dec dk_X12_counts 58 rfl) (fun c104 => ?_) (fun c104 => ?_) (fun c104 => ?_)
          · skip
            have J115 : ∀ (s115_2 : Int) (bs115_2 : -9223372036854775808 ≤ s115_2 ∧ s115_2 < 9223372036854775808), mm_W x 0 0 115 [mU, mU, mU, mU, mU, mU, mU] [mL s115_2, mI p1, mR 75] h := by
              intro s115_2 bs115_2
              refine mm_last C (mm_dec dk_X12_counts 63 rfl) rfl (by omega) (by omega) ?_
              have i1 : mm_inv (mm_pa h 75 p1 s115_2) := mm_inv_pa i0 (show -9223372036854775808 ≤ s115_2 ∧ s115_2 ≤ 9223372036854775807 from ⟨by omega, by omega⟩)
              have f1 : mm_fr [] [75] h (mm_pa h 75 p1 s115_2) := mm_fr_pa f0 (by decide)
              obtain ⟨h1, eh1⟩ : ∃ z, z = mm_pa h 75 p1 s115_2 := ⟨_, rfl⟩
              rw [← eh1] at i1 f1 ⊢
              exact mm_vret C T (mm_dec dk_X12_counts 64 rfl) (by decide : 0 ≤ 0) (by decide : 0 ≤ 0) ⟨rfl, ⟨i1, f1⟩⟩
            refine mm_if_ge (tgt := 112) C (mm_dec dk_X12_counts 59 rfl) (by decide) (fun c105 => ?_) (fun c105 => ?_)
            · skip
              refine mm_ldc2 (z := 1000000000000) C (mm_dec dk_X12_counts 62 rfl) kc_X12_278 (by decide) ?_
              refine mm_fgt 0 ?_
              refine mm_fgt 1 ?_
              refine mm_fgt 3 ?_
              refine mm_fgt 5 ?_
              exact J115 1000000000000 ⟨by omega, by omega⟩
            · skip
              exfalso; omega
          · skip
            have J115 : ∀ (s115_2 : Int) (bs115_2 : -9223372036854775808 ≤ s115_2 ∧ s115_2 < 9223372036854775808), mm_W x 0 0 115 [mU, mU, mU, mU, mU, mU, mU] [mL s115_2, mI p1, mR 75] h := by
              intro s115_2 bs115_2
              refine mm_last C (mm_dec dk_X12_counts 63 rfl) rfl (by omega) (by omega) ?_
              have i2 : mm_inv (mm_pa h 75 p1 s115_2) := mm_inv_pa i0 (show -9223372036854775808 ≤ s115_2 ∧ s115_2 ≤ 9223372036854775807 from ⟨by omega, by omega⟩)
              have f2 : mm_fr [] [75] h (mm_pa h 75 p1 s115_2) := mm_fr_pa f0 (by decide)
              obtain ⟨h2, eh2⟩ : ∃ z, z = mm_pa h 75 p1 s115_2 := ⟨_, rfl⟩
              rw [← eh2] at i2 f2 ⊢
              exact mm_vret C T (mm_dec dk_X12_counts 64 rfl) (by decide : 0 ≤ 0) (by decide : 0 ≤ 0) ⟨rfl, ⟨i2, f2⟩⟩
            refine mm_if_ge (tgt := 112) C (mm_dec dk_X12_counts 59 rfl) (by decide) (fun c105 => ?_) (fun c105 => ?_)
            · skip
              refine mm_ldc2 (z := 1000000000000) C (mm_dec dk_X12_counts 62 rfl) kc_X12_278 (by decide) ?_
              refine mm_fgt 0 ?_
              refine mm_fgt 1 ?_
              refine mm_fgt 3 ?_
              refine mm_fgt 5 ?_
              exact J115 1000000000000 ⟨by omega, by omega⟩
            · skip
              exfalso; omega
          · skip
            have J115 : ∀ (s115_2 : Int) (bs115_2 : -9223372036854775808 ≤ s115_2 ∧ s115_2 < 9223372036854775808), mm_W x 0 0 115 [mU, mU, mU, mU, mU, mU, mU] [mL s115_2, mI p1, mR 75] h := by
              intro s115_2 bs115_2
              refine mm_last C (mm_dec dk_X12_counts 63 rfl) rfl (by omega) (by omega) ?_
              have i3 : mm_inv (mm_pa h 75 p1 s115_2) := mm_inv_pa i0 (show -9223372036854775808 ≤ s115_2 ∧ s115_2 ≤ 9223372036854775807 from ⟨by omega, by omega⟩)
              have f3 : mm_fr [] [75] h (mm_pa h 75 p1 s115_2) := mm_fr_pa f0 (by decide)
              obtain ⟨h3, eh3⟩ : ∃ z, z = mm_pa h 75 p1 s115_2 := ⟨_, rfl⟩
              rw [← eh3] at i3 f3 ⊢
              exact mm_vret C T (mm_dec dk_X12_counts 64 rfl) (by decide : 0 ≤ 0) (by decide : 0 ≤ 0) ⟨rfl, ⟨i3, f3⟩⟩
            refine mm_if_ge (tgt := 112) C (mm_dec dk_X12_counts 59 rfl) (by decide) (fun c105 => ?_) (fun c105 => ?_)
            · skip
              exfalso; omega
            · skip
              refine mm_lload_n C (mm_dec dk_X12_counts 60 rfl) rfl ?_
              refine mm_goto (tgt := 115) C (mm_dec dk_X12_counts 61 rfl) (by decide) ?_
              refine mm_fgt 0 ?_
              refine mm_fgt 1 ?_
              refine mm_fgt 3 ?_
              refine mm_fgt 5 ?_
              exact J115 x11_3 ⟨by omega, by omega⟩
        · skip
          refine mm_aload_n C (mm_dec dk_X12_counts 11 rfl) rfl ?_
          refine mm_iload_n C (mm_dec dk_X12_counts 12 rfl) rfl ?_
          refine mm_iload C (mm_dec dk_X12_counts 13 rfl) rfl ?_
          refine mm_cVi (rest := []) C1 ev_X12_271 (mm_dec dk_X12_counts 14 rfl) (c_X12_leads x.2.1 hl (d - 1) (by omega) h i0 p1 x11_5 ⟨by omega, by omega⟩) rfl rfl (Nat.le_of_ble_eq_true rfl) ⟨by decide, by decide⟩ rfl (fun r21 h21c hp21 => ?_) (fun _ _ q => q.elim)
          obtain ⟨b21, z21⟩ := hp21
          rw [z21]
          refine mm_istoreL (ls2 := [mR 66, mI p1, mU, mL x11_3, mU, mI x11_5, mI r21]) C (mm_dec dk_X12_counts 15 rfl) (by decide) rfl ?_
          refine mm_iload C (mm_dec dk_X12_counts 16 rfl) rfl ?_
          refine mm_iconst C (mm_dec dk_X12_counts 17 rfl) ⟨by decide, by decide⟩ ?_
          have J89 : ∀ (x89_3 : Int) (bx89_3 : -9223372036854775808 ≤ x89_3 ∧ x89_3 < 9223372036854775808), mm_W x 0 0 89 [mR 66, mI p1, mU, mL x89_3, mU, mI x11_5, mU] [] h := by
            intro x89_3 bx89_3
            refine mm_iincL (ls2 := [mR 66, mI p1, mU, mL x89_3, mU, mI (x11_5 + 1), mU]) C (mm_dec dk_X12_counts 51 rfl) rfl (by decide) ⟨by omega, by omega⟩ rfl ?_
            refine mm_goto (tgt := 11) C (mm_dec dk_X12_counts 52 rfl) (by decide) ?_
            exact ih11 x89_3 ⟨by omega, by omega⟩ (x11_5 + 1) ⟨by omega, by omega⟩ (by omega)
          refine mm_icmp_eq (tgt := 89) C (mm_dec dk_X12_counts 18 rfl) (by decide) (fun c29 => ?_) (fun c29 => ?_)
          · skip
            refine mm_fgt 6 ?_
            exact J89 x11_3 ⟨by omega, by omega⟩
          · skip
            refine mm_aload_n C (mm_dec dk_X12_counts 19 rfl) rfl ?_
            refine mm_getr (t := 72) C fl_X12_26 (mm_dec dk_X12_counts 20 rfl) rfl rfl (mm_ref i0 rfl) ?_
            refine mm_iload C (mm_dec dk_X12_counts 21 rfl) rfl ?_
            refine mm_iald C (mm_dec dk_X12_counts 22 rfl) rfl (by omega) (by omega) ?_
            have g2 : 0 ≤ (h.2.1 72 r21) ∧ (h.2.1 72 r21) ≤ 1000000000 := i0.2.1 72 r21
            refine mm_ldcw (z := 1000000000) C (mm_dec dk_X12_counts 23 rfl) kc_X12_258 (by decide) ?_
            refine mm_icmp_ge (tgt := 89) C (mm_dec dk_X12_counts 24 rfl) (by decide) (fun c42 => ?_) (fun c42 => ?_)
            · skip
              refine mm_fgt 6 ?_
              exact J89 x11_3 ⟨by omega, by omega⟩
            · skip
              refine mm_aload_n C (mm_dec dk_X12_counts 25 rfl) rfl ?_
              refine mm_getr (t := 72) C fl_X12_26 (mm_dec dk_X12_counts 26 rfl) rfl rfl (mm_ref i0 rfl) ?_
              refine mm_iload C (mm_dec dk_X12_counts 27 rfl) rfl ?_
              refine mm_iald C (mm_dec dk_X12_counts 28 rfl) rfl (by omega) (by omega) ?_
              refine mm_aload_n C (mm_dec dk_X12_counts 29 rfl) rfl ?_
              refine mm_iload_n C (mm_dec dk_X12_counts 30 rfl) rfl ?_
              refine mm_iload C (mm_dec dk_X12_counts 31 rfl) rfl ?_
              refine mm_cVi (rest := [mI (h.2.1 72 r21)]) C1 ev_X12_275 (mm_dec dk_X12_counts 32 rfl) (c_X12_seconds x.2.1 hl (d - 1) (by omega) h i0 p1 r21 ⟨by omega, by omega⟩ ⟨by omega, by omega⟩) rfl rfl (Nat.le_of_ble_eq_true rfl) ⟨by decide, by decide⟩ rfl (fun r56 h56c hp56 => ?_) (fun _ _ q => q.elim)
              obtain ⟨b56, z56⟩ := hp56
              rw [z56]
              refine mm_iadd C (mm_dec dk_X12_counts 33 rfl) ⟨by omega, by omega⟩ ?_
              refine mm_aload_n C (mm_dec dk_X12_counts 34 rfl) rfl ?_
              refine mm_getr (t := 72) C fl_X12_26 (mm_dec dk_X12_counts 35 rfl) rfl rfl (mm_ref i0 rfl) ?_
              refine mm_iload_n C (mm_dec dk_X12_counts 36 rfl) rfl ?_
              refine mm_iald C (mm_dec dk_X12_counts 37 rfl) rfl (by omega) (by omega) ?_
              have g4 : 0 ≤ (h.2.1 72 p1) ∧ (h.2.1 72 p1) ≤ 1000000000 := i0.2.1 72 p1
              refine mm_icmp_ne (tgt := 89) C (mm_dec dk_X12_counts 38 rfl) (by decide) (fun c66 => ?_) (fun c66 => ?_)
              · skip
                refine mm_fgt 6 ?_
                exact J89 x11_3 ⟨by omega, by omega⟩
              · skip
                refine mm_aload_n C (mm_dec dk_X12_counts 39 rfl) rfl ?_
                refine mm_getr (t := 76) C fl_X12_39 (mm_dec dk_X12_counts 40 rfl) rfl rfl (mm_ref i0 rfl) ?_
                refine mm_iload C (mm_dec dk_X12_counts 41 rfl) rfl ?_
                refine mm_zald C (mm_dec dk_X12_counts 42 rfl) rfl (by omega) (by omega) ?_
                have g5 : 0 ≤ (h.2.1 76 r21) ∧ (h.2.1 76 r21) ≤ 1 := i0.2.1 76 r21
                refine mm_if_eq (tgt := 89) C (mm_dec dk_X12_counts 43 rfl) (by decide) (fun c76 => ?_) (fun c76 => ?_)
                · skip
                  refine mm_fgt 6 ?_
                  exact J89 x11_3 ⟨by omega, by omega⟩
                · skip
                  refine mm_lload_n C (mm_dec dk_X12_counts 44 rfl) rfl ?_
                  refine mm_aload_n C (mm_dec dk_X12_counts 45 rfl) rfl ?_
                  refine mm_getr (t := 75) C fl_X12_35 (mm_dec dk_X12_counts 46 rfl) rfl rfl (mm_ref i0 rfl) ?_
                  refine mm_iload C (mm_dec dk_X12_counts 47 rfl) rfl ?_
                  refine mm_lald C (mm_dec dk_X12_counts 48 rfl) rfl (by omega) (by omega) ?_
                  have g6 : -9223372036854775808 ≤ (h.2.1 75 r21) ∧ (h.2.1 75 r21) ≤ 9223372036854775807 := i0.2.1 75 r21
                  refine mm_ladd C (mm_dec dk_X12_counts 49 rfl) ?_
                  have g7 : -9223372036854775808 ≤ (mm_vladd x11_3 (h.2.1 75 r21)) ∧ (mm_vladd x11_3 (h.2.1 75 r21)) < 9223372036854775808 := mm_rng64 _
                  obtain ⟨y7, ey7⟩ : ∃ z, z = (mm_vladd x11_3 (h.2.1 75 r21)) := ⟨_, rfl⟩
                  rw [← ey7] at g7 ⊢
                  clear ey7
                  refine mm_lstore_nL (ls2 := [mR 66, mI p1, mU, mL y7, mU, mI x11_5, mI r21]) C (mm_dec dk_X12_counts 50 rfl) (by decide) rfl ?_
                  refine mm_fgt 6 ?_
                  exact J89 y7 ⟨by omega, by omega⟩
    refine mm_istoreL (ls2 := [mR 66, mI p1, mI p2, mL 0, mU, mI 0, mU]) C (mm_dec dk_X12_counts 7 rfl) (by decide) rfl ?_
    refine mm_fgt 2 ?_
    exact J11 (((4 - 0) : Int) + 1).toNat 0 ⟨by omega, by omega⟩ 0 ⟨by omega, by omega⟩ (by omega)
  · skip
    exact mm_vret C T (mm_dec dk_X12_counts 3 rfl) (by decide : 0 ≤ 0) (by decide : 0 ≤ 0) ⟨rfl, ⟨i0, f0⟩⟩
set_option maxRecDepth 100000 in
set_option maxHeartbeats 4000000 in
theorem c_X12_firstMove (l : Launch) (hl : l.stackTraces = false) (d : Nat) (hd : 1 ≤ d) (h : mH) (i0 : mm_inv h) (p1 : Int) (bp1 : 0 ≤ p1 ∧ p1 ≤ 399) : mm_Met l d yX12_firstMove cX12_firstMove 4 (some .int) [mR 66, mI p1] h (mm_pi fun r h2 => (-1 ≤ r ∧ r ≤ 3) ∧ h2 = h) mm_nx 0 0 := by
  refine mm_ofW (ls := [mR 66, mI p1, mU, mU]) hl (by decide) rfl (Nat.le_of_ble_eq_true rfl) ?_
  intro x hxl C T hnm htb
  subst hxl
  have C1 := mm_OK_le (d' := d - 1 + 1) (by omega) C
  refine mm_rng (fun hr _ => ?_)
  have ap1 : -2147483648 ≤ p1 ∧ p1 < 2147483648 := mm_ok_at hr (i := 1) rfl
  have f0 : mm_fr [] [] h h := mm_fr_rf
  refine mm_iconst C (mm_dec dk_X12_firstMove 0 rfl) ⟨by decide, by decide⟩ ?_
  have J2 : ∀ (n : Nat) (x2_2 : Int) (bx2_2 : 0 ≤ x2_2 ∧ x2_2 ≤ 4), (4 - x2_2 : Int) < n → mm_W x 0 0 2 [mR 66, mI p1, mI x2_2, mU] [] h := by
    intro n
    induction n with
    | zero =>
      intro x2_2 bx2_2 hm
      exfalso; omega
    | succ n ih2 =>
      intro x2_2 bx2_2 hm2
      refine mm_iload_n C (mm_dec dk_X12_firstMove 2 rfl) rfl ?_
      refine mm_iconst C (mm_dec dk_X12_firstMove 3 rfl) ⟨by decide, by decide⟩ ?_
      refine mm_icmp_ge (tgt := 66) C (mm_dec dk_X12_firstMove 4 rfl) (by decide) (fun c4 => ?_) (fun c4 => ?_)
      · skip
        refine mm_iconst C (mm_dec dk_X12_firstMove 42 rfl) ⟨by decide, by decide⟩ ?_
        exact mm_iret C T (mm_dec dk_X12_firstMove 43 rfl) (by decide : 0 ≤ 0) (by decide : 0 ≤ 0) ⟨_, rfl, ⟨⟨by omega, by omega⟩, rfl⟩⟩
      · skip
        refine mm_aload_n C (mm_dec dk_X12_firstMove 5 rfl) rfl ?_
        refine mm_iload_n C (mm_dec dk_X12_firstMove 6 rfl) rfl ?_
        refine mm_iload_n C (mm_dec dk_X12_firstMove 7 rfl) rfl ?_
        refine mm_cVi (rest := []) C1 ev_X12_271 (mm_dec dk_X12_firstMove 8 rfl) (c_X12_leads x.2.1 hl (d - 1) (by omega) h i0 p1 x2_2 ⟨by omega, by omega⟩) rfl rfl (Nat.le_of_ble_eq_true rfl) ⟨by decide, by decide⟩ rfl (fun r10 h10c hp10 => ?_) (fun _ _ q => q.elim)
        obtain ⟨b10, z10⟩ := hp10
        rw [z10]
        refine mm_istore_nL (ls2 := [mR 66, mI p1, mI x2_2, mI r10]) C (mm_dec dk_X12_firstMove 9 rfl) (by decide) rfl ?_
        refine mm_iload_n C (mm_dec dk_X12_firstMove 10 rfl) rfl ?_
        refine mm_iconst C (mm_dec dk_X12_firstMove 11 rfl) ⟨by decide, by decide⟩ ?_
        have J60 : mm_W x 0 0 60 [mR 66, mI p1, mI x2_2, mU] [] h := by
          refine mm_iincL (ls2 := [mR 66, mI p1, mI (x2_2 + 1), mU]) C (mm_dec dk_X12_firstMove 40 rfl) rfl (by decide) ⟨by omega, by omega⟩ rfl ?_
          refine mm_goto (tgt := 2) C (mm_dec dk_X12_firstMove 41 rfl) (by decide) ?_
          exact ih2 (x2_2 + 1) ⟨by omega, by omega⟩ (by omega)
        refine mm_icmp_eq (tgt := 60) C (mm_dec dk_X12_firstMove 12 rfl) (by decide) (fun c16 => ?_) (fun c16 => ?_)
        · skip
          refine mm_fgt 3 ?_
          exact J60
        · skip
          refine mm_aload_n C (mm_dec dk_X12_firstMove 13 rfl) rfl ?_
          refine mm_getr (t := 72) C fl_X12_26 (mm_dec dk_X12_firstMove 14 rfl) rfl rfl (mm_ref i0 rfl) ?_
          refine mm_iload_n C (mm_dec dk_X12_firstMove 15 rfl) rfl ?_
          refine mm_iald C (mm_dec dk_X12_firstMove 16 rfl) rfl (by omega) (by omega) ?_
          have g2 : 0 ≤ (h.2.1 72 r10) ∧ (h.2.1 72 r10) ≤ 1000000000 := i0.2.1 72 r10
          refine mm_aload_n C (mm_dec dk_X12_firstMove 17 rfl) rfl ?_
          refine mm_iload_n C (mm_dec dk_X12_firstMove 18 rfl) rfl ?_
          refine mm_iload_n C (mm_dec dk_X12_firstMove 19 rfl) rfl ?_
          refine mm_cVi (rest := [mI (h.2.1 72 r10)]) C1 ev_X12_275 (mm_dec dk_X12_firstMove 20 rfl) (c_X12_seconds x.2.1 hl (d - 1) (by omega) h i0 p1 r10 ⟨by omega, by omega⟩ ⟨by omega, by omega⟩) rfl rfl (Nat.le_of_ble_eq_true rfl) ⟨by decide, by decide⟩ rfl (fun r28 h28c hp28 => ?_) (fun _ _ q => q.elim)
          obtain ⟨b28, z28⟩ := hp28
          rw [z28]
          refine mm_iadd C (mm_dec dk_X12_firstMove 21 rfl) ⟨by omega, by omega⟩ ?_
          refine mm_aload_n C (mm_dec dk_X12_firstMove 22 rfl) rfl ?_
          refine mm_getr (t := 72) C fl_X12_26 (mm_dec dk_X12_firstMove 23 rfl) rfl rfl (mm_ref i0 rfl) ?_
          refine mm_iload_n C (mm_dec dk_X12_firstMove 24 rfl) rfl ?_
          refine mm_iald C (mm_dec dk_X12_firstMove 25 rfl) rfl (by omega) (by omega) ?_
          have g4 : 0 ≤ (h.2.1 72 p1) ∧ (h.2.1 72 p1) ≤ 1000000000 := i0.2.1 72 p1
          refine mm_icmp_ne (tgt := 60) C (mm_dec dk_X12_firstMove 26 rfl) (by decide) (fun c38 => ?_) (fun c38 => ?_)
          · skip
            refine mm_fgt 3 ?_
            exact J60
          · skip
            refine mm_aload_n C (mm_dec dk_X12_firstMove 27 rfl) rfl ?_
            refine mm_getr (t := 73) C fl_X12_29 (mm_dec dk_X12_firstMove 28 rfl) rfl rfl (mm_ref i0 rfl) ?_
            refine mm_iload_n C (mm_dec dk_X12_firstMove 29 rfl) rfl ?_
            refine mm_iald C (mm_dec dk_X12_firstMove 30 rfl) rfl (by omega) (by omega) ?_
            have g5 : 0 ≤ (h.2.1 73 r10) ∧ (h.2.1 73 r10) ≤ 400 := i0.2.1 73 r10
            refine mm_iconst C (mm_dec dk_X12_firstMove 31 rfl) ⟨by decide, by decide⟩ ?_
            refine mm_iadd C (mm_dec dk_X12_firstMove 32 rfl) ⟨by omega, by omega⟩ ?_
            refine mm_aload_n C (mm_dec dk_X12_firstMove 33 rfl) rfl ?_
            refine mm_getr (t := 73) C fl_X12_29 (mm_dec dk_X12_firstMove 34 rfl) rfl rfl (mm_ref i0 rfl) ?_
            refine mm_iload_n C (mm_dec dk_X12_firstMove 35 rfl) rfl ?_
            refine mm_iald C (mm_dec dk_X12_firstMove 36 rfl) rfl (by omega) (by omega) ?_
            have g6 : 0 ≤ (h.2.1 73 p1) ∧ (h.2.1 73 p1) ≤ 400 := i0.2.1 73 p1
            refine mm_icmp_ne (tgt := 60) C (mm_dec dk_X12_firstMove 37 rfl) (by decide) (fun c55 => ?_) (fun c55 => ?_)
            · skip
              refine mm_fgt 3 ?_
              exact J60
            · skip
              refine mm_iload_n C (mm_dec dk_X12_firstMove 38 rfl) rfl ?_
              exact mm_iret C T (mm_dec dk_X12_firstMove 39 rfl) (by decide : 0 ≤ 0) (by decide : 0 ≤ 0) ⟨_, rfl, ⟨⟨by omega, by omega⟩, rfl⟩⟩
  refine mm_istore_nL (ls2 := [mR 66, mI p1, mI 0, mU]) C (mm_dec dk_X12_firstMove 1 rfl) (by decide) rfl ?_
  exact J2 (((4 - 0) : Int) + 1).toNat 0 ⟨by omega, by omega⟩ (by omega)
set_option maxRecDepth 100000 in
set_option maxHeartbeats 4000000 in
theorem c_X12_move (l : Launch) (hl : l.stackTraces = false) (d : Nat) (hd : 1 ≤ d) (h : mH) (i0 : mm_inv h) (p1 : Int) : mm_Met l d yX12_move cX12_move 3 (some .int) [mR 66, mI p1] h (mm_pi fun r h2 => (-2147483648 ≤ r ∧ r ≤ 2147483647) ∧ mm_inv h2 ∧ mm_fr [(66, 0)] [] h h2) mm_nx 0 0 := by
  refine mm_ofW (ls := [mR 66, mI p1, mU]) hl (by decide) rfl (Nat.le_of_ble_eq_true rfl) ?_
  intro x hxl C T hnm htb
  subst hxl
  have C1 := mm_OK_le (d' := d - 1 + 1) (by omega) C
  refine mm_rng (fun hr _ => ?_)
  have ap1 : -2147483648 ≤ p1 ∧ p1 < 2147483648 := mm_ok_at hr (i := 1) rfl
  have f0 : mm_fr [(66, 0)] [] h h := mm_fr_rf
  refine mm_aload_n C (mm_dec dk_X12_move 0 rfl) rfl ?_
  refine mm_iconst C (mm_dec dk_X12_move 1 rfl) ⟨by decide, by decide⟩ ?_
  refine mm_puti C fl_X12_188 (mm_dec dk_X12_move 2 rfl) rfl rfl rfl (Or.inl ⟨rfl, rfl⟩) ?_
  have i1 : mm_inv (mm_pf h 66 0 0) := mm_inv_pf i0 (show -2147483648 ≤ 0 ∧ 0 ≤ 2147483647 from ⟨by omega, by omega⟩) (by decide)
  have f1 : mm_fr [(66, 0)] [] h (mm_pf h 66 0 0) := mm_fr_pf f0 (by decide)
  obtain ⟨h1, eh1⟩ : ∃ z, z = mm_pf h 66 0 0 := ⟨_, rfl⟩
  rw [← eh1] at i1 f1 ⊢
  have qh1 : h1.1 66 0 = 0 := by rw [eh1]; exact mm_pf_same _ _ _ _
  refine mm_aload_n C (mm_dec dk_X12_move 3 rfl) rfl ?_
  refine mm_geti C fl_X12_213 (mm_dec dk_X12_move 4 rfl) rfl rfl (Or.inl rfl) ?_
  have g1 : -1 ≤ (h1.1 66 19) ∧ (h1.1 66 19) ≤ 400 := i1.1 66 19
  refine mm_iconst C (mm_dec dk_X12_move 5 rfl) ⟨by decide, by decide⟩ ?_
  have J21 : ∀ (s21_0 : Int) (bs21_0 : 0 ≤ s21_0 ∧ s21_0 ≤ 400), mm_W x 0 0 21 [mR 66, mI p1, mU] [mI s21_0] h1 := by
    intro s21_0 bs21_0
    refine mm_istore_nL (ls2 := [mR 66, mI p1, mI s21_0]) C (mm_dec dk_X12_move 11 rfl) (by decide) rfl ?_
    refine mm_aload_n C (mm_dec dk_X12_move 12 rfl) rfl ?_
    refine mm_iload_n C (mm_dec dk_X12_move 13 rfl) rfl ?_
    refine mm_iconst C (mm_dec dk_X12_move 14 rfl) ⟨by decide, by decide⟩ ?_
    have J38 : ∀ (s38_1 : Int) (bs38_1 : 0 ≤ s38_1 ∧ s38_1 ≤ 1) (vs38_1 : (s38_1 = 0) ∨ ((-1) ≤ p1 ∧ p1 < s21_0 ∧ s38_1 = 1)), mm_W x 0 0 38 [mR 66, mI p1, mI s21_0] [mI s38_1, mR 66] h1 := by
      intro s38_1 bs38_1 vs38_1
      refine mm_iconst C (mm_dec dk_X12_move 22 rfl) ⟨by decide, by decide⟩ ?_
      refine mm_cVi (rest := []) C1 ev_X12_251 (mm_dec dk_X12_move 23 rfl) (c_X12_right x.2.1 hl (d - 1) (by omega) h1 i1 s38_1 1 ⟨by omega, by omega⟩ (by omega)) rfl rfl (Nat.le_of_ble_eq_true rfl) ⟨by decide, by decide⟩ rfl (fun r39 h39c hp39 => ?_) (fun _ _ q => q.elim)
      obtain ⟨b39, i39c, g39c, y39_0⟩ := hp39
      have f39c : mm_fr [(66, 0)] [] h h39c := mm_fr_tr f1 g39c (by decide +kernel)
      have q39c_3 : h39c.1 66 19 = h1.1 66 19 := g39c.1 66 19 (by decide)
      refine mm_if_ne (tgt := 47) C (mm_dec dk_X12_move 24 rfl) (by decide) (fun c42 => ?_) (fun c42 => ?_)
      · skip
        refine mm_iload_n C (mm_dec dk_X12_move 27 rfl) rfl ?_
        refine mm_iconst C (mm_dec dk_X12_move 28 rfl) ⟨by decide, by decide⟩ ?_
        have J62 : ∀ (s62_0 : Int) (bs62_0 : -2147483648 ≤ s62_0 ∧ s62_0 ≤ 2147483647), mm_W x 0 0 62 [mU, mU, mU] [mI s62_0] h39c := by
          intro s62_0 bs62_0
          exact mm_iret C T (mm_dec dk_X12_move 36 rfl) (by decide : 0 ≤ 0) (by decide : 0 ≤ 0) ⟨_, rfl, ⟨⟨by omega, by omega⟩, i39c, f39c⟩⟩
        refine mm_icmp_ne (tgt := 56) C (mm_dec dk_X12_move 29 rfl) (by decide) (fun c49 => ?_) (fun c49 => ?_)
        · skip
          refine mm_aload_n C (mm_dec dk_X12_move 32 rfl) rfl ?_
          refine mm_getr (t := 77) C fl_X12_42 (mm_dec dk_X12_move 33 rfl) rfl rfl (mm_ref i39c rfl) ?_
          refine mm_iload_n C (mm_dec dk_X12_move 34 rfl) rfl ?_
          refine mm_iald C (mm_dec dk_X12_move 35 rfl) rfl (by omega) (by omega) ?_
          have g4 : -2147483648 ≤ (h39c.2.1 77 p1) ∧ (h39c.2.1 77 p1) ≤ 2147483647 := i39c.2.1 77 p1
          refine mm_fgt 0 ?_
          refine mm_fgt 1 ?_
          refine mm_fgt 2 ?_
          exact J62 (h39c.2.1 77 p1) ⟨by omega, by omega⟩
        · skip
          refine mm_iload_n C (mm_dec dk_X12_move 30 rfl) rfl ?_
          refine mm_goto (tgt := 62) C (mm_dec dk_X12_move 31 rfl) (by decide) ?_
          refine mm_fgt 0 ?_
          refine mm_fgt 1 ?_
          refine mm_fgt 2 ?_
          exact J62 s21_0 ⟨by omega, by omega⟩
      · skip
        refine mm_iconst C (mm_dec dk_X12_move 25 rfl) ⟨by decide, by decide⟩ ?_
        exact mm_iret C T (mm_dec dk_X12_move 26 rfl) (by decide : 0 ≤ 0) (by decide : 0 ≤ 0) ⟨_, rfl, ⟨⟨by omega, by omega⟩, i39c, f39c⟩⟩
    have J37 : mm_W x 0 0 37 [mR 66, mI p1, mI s21_0] [mR 66] h1 := by
      refine mm_iconst C (mm_dec dk_X12_move 21 rfl) ⟨by decide, by decide⟩ ?_
      exact J38 0 ⟨by omega, by omega⟩ (Or.inl rfl)
    refine mm_icmp_lt (tgt := 37) C (mm_dec dk_X12_move 15 rfl) (by decide) (fun c25 => ?_) (fun c25 => ?_)
    · skip
      exact J37
    · skip
      refine mm_iload_n C (mm_dec dk_X12_move 16 rfl) rfl ?_
      refine mm_iload_n C (mm_dec dk_X12_move 17 rfl) rfl ?_
      refine mm_icmp_ge (tgt := 37) C (mm_dec dk_X12_move 18 rfl) (by decide) (fun c30 => ?_) (fun c30 => ?_)
      · skip
        exact J37
      · skip
        refine mm_iconst C (mm_dec dk_X12_move 19 rfl) ⟨by decide, by decide⟩ ?_
        refine mm_goto (tgt := 38) C (mm_dec dk_X12_move 20 rfl) (by decide) ?_
        exact J38 1 ⟨by omega, by omega⟩ (Or.inr (⟨by omega, by omega, rfl⟩))
  refine mm_icmp_ne (tgt := 17) C (mm_dec dk_X12_move 6 rfl) (by decide) (fun c10 => ?_) (fun c10 => ?_)
  · skip
    refine mm_aload_n C (mm_dec dk_X12_move 9 rfl) rfl ?_
    refine mm_geti C fl_X12_213 (mm_dec dk_X12_move 10 rfl) rfl rfl (Or.inl rfl) ?_
    exact J21 (h1.1 66 19) ⟨by omega, by omega⟩
  · skip
    refine mm_iconst C (mm_dec dk_X12_move 7 rfl) ⟨by decide, by decide⟩ ?_
    refine mm_goto (tgt := 21) C (mm_dec dk_X12_move 8 rfl) (by decide) ?_
    exact J21 0 ⟨by omega, by omega⟩
set_option maxRecDepth 100000 in
set_option maxHeartbeats 4000000 in
theorem c_X12_course (l : Launch) (hl : l.stackTraces = false) (d : Nat) (hd : 0 ≤ d) (h : mH) (i0 : mm_inv h) (p1 : Int) (bp1 : 0 ≤ p1 ∧ p1 ≤ 1) : mm_Met l d yX12_course cX12_course 2 (some .int) [mR 66, mI p1] h (mm_pi fun r h2 => (-1 ≤ r ∧ r ≤ 7) ∧ mm_inv h2 ∧ mm_fr [(66, 0), (66, 22)] [80, 81, 83] h h2) mm_nx 0 0 := by
  refine mm_ofW (ls := [mR 66, mI p1]) hl (by decide) rfl (Nat.le_of_ble_eq_true rfl) ?_
  intro x hxl C T hnm htb
  subst hxl
  refine mm_rng (fun hr _ => ?_)
  have ap1 : -2147483648 ≤ p1 ∧ p1 < 2147483648 := mm_ok_at hr (i := 1) rfl
  have f0 : mm_fr [(66, 0), (66, 22)] [80, 81, 83] h h := mm_fr_rf
  refine mm_aload_n C (mm_dec dk_X12_course 0 rfl) rfl ?_
  refine mm_iconst C (mm_dec dk_X12_course 1 rfl) ⟨by decide, by decide⟩ ?_
  refine mm_puti C fl_X12_188 (mm_dec dk_X12_course 2 rfl) rfl rfl rfl (Or.inl ⟨rfl, rfl⟩) ?_
  have i1 : mm_inv (mm_pf h 66 0 0) := mm_inv_pf i0 (show -2147483648 ≤ 0 ∧ 0 ≤ 2147483647 from ⟨by omega, by omega⟩) (by decide)
  have f1 : mm_fr [(66, 0), (66, 22)] [80, 81, 83] h (mm_pf h 66 0 0) := mm_fr_pf f0 (by decide)
  obtain ⟨h1, eh1⟩ : ∃ z, z = mm_pf h 66 0 0 := ⟨_, rfl⟩
  rw [← eh1] at i1 f1 ⊢
  have qh1 : h1.1 66 0 = 0 := by rw [eh1]; exact mm_pf_same _ _ _ _
  refine mm_aload_n C (mm_dec dk_X12_course 3 rfl) rfl ?_
  refine mm_geti C fl_X12_219 (mm_dec dk_X12_course 4 rfl) rfl rfl (Or.inl rfl) ?_
  have g1 : 0 ≤ (h1.1 66 22) ∧ (h1.1 66 22) ≤ 8 := i1.1 66 22
  refine mm_bipush C (mm_dec dk_X12_course 5 rfl) ⟨by decide, by decide⟩ ?_
  refine mm_icmp_ne (tgt := 16) C (mm_dec dk_X12_course 6 rfl) (by decide) (fun c11 => ?_) (fun c11 => ?_)
  · skip
    refine mm_aload_n C (mm_dec dk_X12_course 9 rfl) rfl ?_
    refine mm_getr (t := 83) C fl_X12_60 (mm_dec dk_X12_course 10 rfl) rfl rfl (mm_ref i1 rfl) ?_
    refine mm_aload_n C (mm_dec dk_X12_course 11 rfl) rfl ?_
    refine mm_geti C fl_X12_219 (mm_dec dk_X12_course 12 rfl) rfl rfl (Or.inl rfl) ?_
    refine mm_iload_n C (mm_dec dk_X12_course 13 rfl) rfl ?_
    refine mm_zast C (mm_dec dk_X12_course 14 rfl) rfl (by omega) (by omega) (by omega) ?_
    have i2 : mm_inv (mm_pa h1 83 (h1.1 66 22) p1) := mm_inv_pa i1 (show 0 ≤ p1 ∧ p1 ≤ 1 from ⟨by omega, by omega⟩)
    have f2 : mm_fr [(66, 0), (66, 22)] [80, 81, 83] h (mm_pa h1 83 (h1.1 66 22) p1) := mm_fr_pa f1 (by decide)
    obtain ⟨h2, eh2⟩ : ∃ z, z = mm_pa h1 83 (h1.1 66 22) p1 := ⟨_, rfl⟩
    rw [← eh2] at i2 f2 ⊢
    have qh2_2 : h2.1 66 0 = h1.1 66 0 := by rw [eh2]; rfl
    have qh2_3 : h2.1 66 22 = h1.1 66 22 := by rw [eh2]; rfl
    refine mm_aload_n C (mm_dec dk_X12_course 15 rfl) rfl ?_
    refine mm_getr (t := 80) C fl_X12_51 (mm_dec dk_X12_course 16 rfl) rfl rfl (mm_ref i2 rfl) ?_
    refine mm_aload_n C (mm_dec dk_X12_course 17 rfl) rfl ?_
    refine mm_geti C fl_X12_219 (mm_dec dk_X12_course 18 rfl) rfl rfl (Or.inl rfl) ?_
    refine mm_iconst C (mm_dec dk_X12_course 19 rfl) ⟨by decide, by decide⟩ ?_
    refine mm_iast C (mm_dec dk_X12_course 20 rfl) rfl (by omega) (by omega) ?_
    have i3 : mm_inv (mm_pa h2 80 (h2.1 66 22) 0) := mm_inv_pa i2 (show 0 ≤ 0 ∧ 0 ≤ 12 from ⟨by omega, by omega⟩)
    have f3 : mm_fr [(66, 0), (66, 22)] [80, 81, 83] h (mm_pa h2 80 (h2.1 66 22) 0) := mm_fr_pa f2 (by decide)
    obtain ⟨h3, eh3⟩ : ∃ z, z = mm_pa h2 80 (h2.1 66 22) 0 := ⟨_, rfl⟩
    rw [← eh3] at i3 f3 ⊢
    have qh3_4 : h3.1 66 0 = h2.1 66 0 := by rw [eh3]; rfl
    have qh3_5 : h3.1 66 22 = h2.1 66 22 := by rw [eh3]; rfl
    refine mm_aload_n C (mm_dec dk_X12_course 21 rfl) rfl ?_
    refine mm_getr (t := 81) C fl_X12_54 (mm_dec dk_X12_course 22 rfl) rfl rfl (mm_ref i3 rfl) ?_
    refine mm_aload_n C (mm_dec dk_X12_course 23 rfl) rfl ?_
    refine mm_geti C fl_X12_219 (mm_dec dk_X12_course 24 rfl) rfl rfl (Or.inl rfl) ?_
    refine mm_iconst C (mm_dec dk_X12_course 25 rfl) ⟨by decide, by decide⟩ ?_
    refine mm_iast C (mm_dec dk_X12_course 26 rfl) rfl (by omega) (by omega) ?_
    have i4 : mm_inv (mm_pa h3 81 (h3.1 66 22) 0) := mm_inv_pa i3 (show -2147483648 ≤ 0 ∧ 0 ≤ 2147483647 from ⟨by omega, by omega⟩)
    have f4 : mm_fr [(66, 0), (66, 22)] [80, 81, 83] h (mm_pa h3 81 (h3.1 66 22) 0) := mm_fr_pa f3 (by decide)
    obtain ⟨h4, eh4⟩ : ∃ z, z = mm_pa h3 81 (h3.1 66 22) 0 := ⟨_, rfl⟩
    rw [← eh4] at i4 f4 ⊢
    have qh4_6 : h4.1 66 0 = h3.1 66 0 := by rw [eh4]; rfl
    have qh4_7 : h4.1 66 22 = h3.1 66 22 := by rw [eh4]; rfl
    refine mm_aload_n C (mm_dec dk_X12_course 27 rfl) rfl ?_
    refine mm_dup C (mm_dec dk_X12_course 28 rfl) (show (2 : Nat) ≠ 1 by decide) ?_
    refine mm_geti C fl_X12_219 (mm_dec dk_X12_course 29 rfl) rfl rfl (Or.inl rfl) ?_
    refine mm_iconst C (mm_dec dk_X12_course 30 rfl) ⟨by decide, by decide⟩ ?_
    refine mm_iadd C (mm_dec dk_X12_course 31 rfl) ⟨by omega, by omega⟩ ?_
    refine mm_puti C fl_X12_219 (mm_dec dk_X12_course 32 rfl) rfl rfl rfl (Or.inl ⟨rfl, rfl⟩) ?_
    have i5 : mm_inv (mm_pf h4 66 22 ((h4.1 66 22) + 1)) := mm_inv_pf i4 (show 0 ≤ ((h4.1 66 22) + 1) ∧ ((h4.1 66 22) + 1) ≤ 8 from ⟨by omega, by omega⟩) (by decide)
    have f5 : mm_fr [(66, 0), (66, 22)] [80, 81, 83] h (mm_pf h4 66 22 ((h4.1 66 22) + 1)) := mm_fr_pf f4 (by decide)
    obtain ⟨h5, eh5⟩ : ∃ z, z = mm_pf h4 66 22 ((h4.1 66 22) + 1) := ⟨_, rfl⟩
    rw [← eh5] at i5 f5 ⊢
    have qh5 : h5.1 66 22 = ((h4.1 66 22) + 1) := by rw [eh5]; exact mm_pf_same _ _ _ _
    have qh5_8 : h5.1 66 0 = h4.1 66 0 := by rw [eh5]; exact mm_pf_ne _ _ (by decide)
    refine mm_aload_n C (mm_dec dk_X12_course 33 rfl) rfl ?_
    refine mm_geti C fl_X12_219 (mm_dec dk_X12_course 34 rfl) rfl rfl (Or.inl rfl) ?_
    refine mm_iconst C (mm_dec dk_X12_course 35 rfl) ⟨by decide, by decide⟩ ?_
    refine mm_isub C (mm_dec dk_X12_course 36 rfl) ⟨by omega, by omega⟩ ?_
    exact mm_iret C T (mm_dec dk_X12_course 37 rfl) (by decide : 0 ≤ 0) (by decide : 0 ≤ 0) ⟨_, rfl, ⟨⟨by omega, by omega⟩, i5, f5⟩⟩
  · skip
    refine mm_iconst C (mm_dec dk_X12_course 7 rfl) ⟨by decide, by decide⟩ ?_
    exact mm_iret C T (mm_dec dk_X12_course 8 rfl) (by decide : 0 ≤ 0) (by decide : 0 ≤ 0) ⟨_, rfl, ⟨⟨by omega, by omega⟩, i1, f1⟩⟩
set_option maxRecDepth 100000 in
set_option maxHeartbeats 4000000 in
theorem c_X12_isCourse (l : Launch) (hl : l.stackTraces = false) (d : Nat) (hd : 1 ≤ d) (h : mH) (i0 : mm_inv h) (p1 : Int) : mm_Met l d yX12_isCourse cX12_isCourse 2 (some .boolean) [mR 66, mI p1] h (mm_pi fun r h2 => (0 ≤ r ∧ r ≤ 1) ∧ mm_inv h2 ∧ mm_fr [(66, 0)] [] h h2 ∧ (r = 0 ∨ (0 ≤ p1 ∧ p1 < (h2.1 66 22)))) mm_nx 0 0 := by
  refine mm_ofW (ls := [mR 66, mI p1]) hl (by decide) rfl (Nat.le_of_ble_eq_true rfl) ?_
  intro x hxl C T hnm htb
  subst hxl
  have C1 := mm_OK_le (d' := d - 1 + 1) (by omega) C
  refine mm_rng (fun hr _ => ?_)
  have ap1 : -2147483648 ≤ p1 ∧ p1 < 2147483648 := mm_ok_at hr (i := 1) rfl
  have f0 : mm_fr [(66, 0)] [] h h := mm_fr_rf
  have g1 : 0 ≤ h.1 66 22 ∧ h.1 66 22 ≤ 8 := i0.1 66 22
  refine mm_aload_n C (mm_dec dk_X12_isCourse 0 rfl) rfl ?_
  refine mm_iconst C (mm_dec dk_X12_isCourse 1 rfl) ⟨by decide, by decide⟩ ?_
  refine mm_puti C fl_X12_188 (mm_dec dk_X12_isCourse 2 rfl) rfl rfl rfl (Or.inl ⟨rfl, rfl⟩) ?_
  have i1 : mm_inv (mm_pf h 66 0 0) := mm_inv_pf i0 (show -2147483648 ≤ 0 ∧ 0 ≤ 2147483647 from ⟨by omega, by omega⟩) (by decide)
  have f1 : mm_fr [(66, 0)] [] h (mm_pf h 66 0 0) := mm_fr_pf f0 (by decide)
  obtain ⟨h1, eh1⟩ : ∃ z, z = mm_pf h 66 0 0 := ⟨_, rfl⟩
  rw [← eh1] at i1 f1 ⊢
  have qh1 : h1.1 66 0 = 0 := by rw [eh1]; exact mm_pf_same _ _ _ _
  have qh1_2 : h1.1 66 22 = h.1 66 22 := by rw [eh1]; exact mm_pf_ne _ _ (by decide)
  refine mm_aload_n C (mm_dec dk_X12_isCourse 3 rfl) rfl ?_
  refine mm_iload_n C (mm_dec dk_X12_isCourse 4 rfl) rfl ?_
  refine mm_if_lt (tgt := 22) C (mm_dec dk_X12_isCourse 5 rfl) (by decide) (fun c7 => ?_) (fun c7 => ?_)
  · skip
    refine mm_iconst C (mm_dec dk_X12_isCourse 12 rfl) ⟨by decide, by decide⟩ ?_
    refine mm_iconst C (mm_dec dk_X12_isCourse 13 rfl) ⟨by decide, by decide⟩ ?_
    refine mm_cVi (rest := []) C1 ev_X12_251 (mm_dec dk_X12_isCourse 14 rfl) (c_X12_right x.2.1 hl (d - 1) (by omega) h1 i1 0 1 ⟨by omega, by omega⟩ (by omega)) rfl rfl (Nat.le_of_ble_eq_true rfl) ⟨by decide, by decide⟩ rfl (fun r24 h24c hp24 => ?_) (fun _ _ q => q.elim)
    obtain ⟨b24, i24c, g24c, y24_0⟩ := hp24
    have f24c : mm_fr [(66, 0)] [] h h24c := mm_fr_tr f1 g24c (by decide +kernel)
    have q24c_4 : h24c.1 66 22 = h1.1 66 22 := g24c.1 66 22 (by decide)
    exact mm_zret C T (mm_dec dk_X12_isCourse 15 rfl) (by decide : 0 ≤ 0) (by decide : 0 ≤ 0) (by omega) ⟨_, rfl, ⟨⟨by omega, by omega⟩, i24c, f24c, by omega⟩⟩
  · skip
    refine mm_iload_n C (mm_dec dk_X12_isCourse 6 rfl) rfl ?_
    refine mm_aload_n C (mm_dec dk_X12_isCourse 7 rfl) rfl ?_
    refine mm_geti C fl_X12_219 (mm_dec dk_X12_isCourse 8 rfl) rfl rfl (Or.inl rfl) ?_
    refine mm_icmp_ge (tgt := 22) C (mm_dec dk_X12_isCourse 9 rfl) (by decide) (fun c15 => ?_) (fun c15 => ?_)
    · skip
      refine mm_iconst C (mm_dec dk_X12_isCourse 12 rfl) ⟨by decide, by decide⟩ ?_
      refine mm_iconst C (mm_dec dk_X12_isCourse 13 rfl) ⟨by decide, by decide⟩ ?_
      refine mm_cVi (rest := []) C1 ev_X12_251 (mm_dec dk_X12_isCourse 14 rfl) (c_X12_right x.2.1 hl (d - 1) (by omega) h1 i1 0 1 ⟨by omega, by omega⟩ (by omega)) rfl rfl (Nat.le_of_ble_eq_true rfl) ⟨by decide, by decide⟩ rfl (fun r24 h24c hp24 => ?_) (fun _ _ q => q.elim)
      obtain ⟨b24, i24c, g24c, y24_0⟩ := hp24
      have f24c : mm_fr [(66, 0)] [] h h24c := mm_fr_tr f1 g24c (by decide +kernel)
      have q24c_6 : h24c.1 66 22 = h1.1 66 22 := g24c.1 66 22 (by decide)
      exact mm_zret C T (mm_dec dk_X12_isCourse 15 rfl) (by decide : 0 ≤ 0) (by decide : 0 ≤ 0) (by omega) ⟨_, rfl, ⟨⟨by omega, by omega⟩, i24c, f24c, by omega⟩⟩
    · skip
      refine mm_iconst C (mm_dec dk_X12_isCourse 10 rfl) ⟨by decide, by decide⟩ ?_
      refine mm_goto (tgt := 23) C (mm_dec dk_X12_isCourse 11 rfl) (by decide) ?_
      refine mm_iconst C (mm_dec dk_X12_isCourse 13 rfl) ⟨by decide, by decide⟩ ?_
      refine mm_cVi (rest := []) C1 ev_X12_251 (mm_dec dk_X12_isCourse 14 rfl) (c_X12_right x.2.1 hl (d - 1) (by omega) h1 i1 1 1 ⟨by omega, by omega⟩ (by omega)) rfl rfl (Nat.le_of_ble_eq_true rfl) ⟨by decide, by decide⟩ rfl (fun r24 h24c hp24 => ?_) (fun _ _ q => q.elim)
      obtain ⟨b24, i24c, g24c, y24_0⟩ := hp24
      have f24c : mm_fr [(66, 0)] [] h h24c := mm_fr_tr f1 g24c (by decide +kernel)
      have q24c_8 : h24c.1 66 22 = h1.1 66 22 := g24c.1 66 22 (by decide)
      exact mm_zret C T (mm_dec dk_X12_isCourse 15 rfl) (by decide : 0 ≤ 0) (by decide : 0 ≤ 0) (by omega) ⟨_, rfl, ⟨⟨by omega, by omega⟩, i24c, f24c, by omega⟩⟩
set_option maxRecDepth 100000 in
set_option maxHeartbeats 4000000 in
theorem c_X12_isPost (l : Launch) (hl : l.stackTraces = false) (d : Nat) (hd : 1 ≤ d) (h : mH) (i0 : mm_inv h) (p1 : Int) : mm_Met l d yX12_isPost cX12_isPost 2 (some .boolean) [mR 66, mI p1] h (mm_pi fun r h2 => (0 ≤ r ∧ r ≤ 1) ∧ mm_inv h2 ∧ mm_fr [(66, 0)] [] h h2 ∧ (r = 0 ∨ (0 ≤ p1 ∧ p1 < (h2.1 66 21)))) mm_nx 0 0 := by
  refine mm_ofW (ls := [mR 66, mI p1]) hl (by decide) rfl (Nat.le_of_ble_eq_true rfl) ?_
  intro x hxl C T hnm htb
  subst hxl
  have C1 := mm_OK_le (d' := d - 1 + 1) (by omega) C
  refine mm_rng (fun hr _ => ?_)
  have ap1 : -2147483648 ≤ p1 ∧ p1 < 2147483648 := mm_ok_at hr (i := 1) rfl
  have f0 : mm_fr [(66, 0)] [] h h := mm_fr_rf
  have g1 : 0 ≤ h.1 66 21 ∧ h.1 66 21 ≤ 20 := i0.1 66 21
  refine mm_aload_n C (mm_dec dk_X12_isPost 0 rfl) rfl ?_
  refine mm_iload_n C (mm_dec dk_X12_isPost 1 rfl) rfl ?_
  refine mm_if_lt (tgt := 17) C (mm_dec dk_X12_isPost 2 rfl) (by decide) (fun c2 => ?_) (fun c2 => ?_)
  · skip
    refine mm_iconst C (mm_dec dk_X12_isPost 9 rfl) ⟨by decide, by decide⟩ ?_
    refine mm_iconst C (mm_dec dk_X12_isPost 10 rfl) ⟨by decide, by decide⟩ ?_
    refine mm_cVi (rest := []) C1 ev_X12_251 (mm_dec dk_X12_isPost 11 rfl) (c_X12_right x.2.1 hl (d - 1) (by omega) h i0 0 1 ⟨by omega, by omega⟩ (by omega)) rfl rfl (Nat.le_of_ble_eq_true rfl) ⟨by decide, by decide⟩ rfl (fun r19 h19c hp19 => ?_) (fun _ _ q => q.elim)
    obtain ⟨b19, i19c, g19c, y19_0⟩ := hp19
    have f19c : mm_fr [(66, 0)] [] h h19c := mm_fr_tr f0 g19c (by decide +kernel)
    have q19c_3 : h19c.1 66 21 = h.1 66 21 := g19c.1 66 21 (by decide)
    exact mm_zret C T (mm_dec dk_X12_isPost 12 rfl) (by decide : 0 ≤ 0) (by decide : 0 ≤ 0) (by omega) ⟨_, rfl, ⟨⟨by omega, by omega⟩, i19c, f19c, by omega⟩⟩
  · skip
    refine mm_iload_n C (mm_dec dk_X12_isPost 3 rfl) rfl ?_
    refine mm_aload_n C (mm_dec dk_X12_isPost 4 rfl) rfl ?_
    refine mm_geti C fl_X12_216 (mm_dec dk_X12_isPost 5 rfl) rfl rfl (Or.inl rfl) ?_
    refine mm_icmp_ge (tgt := 17) C (mm_dec dk_X12_isPost 6 rfl) (by decide) (fun c10 => ?_) (fun c10 => ?_)
    · skip
      refine mm_iconst C (mm_dec dk_X12_isPost 9 rfl) ⟨by decide, by decide⟩ ?_
      refine mm_iconst C (mm_dec dk_X12_isPost 10 rfl) ⟨by decide, by decide⟩ ?_
      refine mm_cVi (rest := []) C1 ev_X12_251 (mm_dec dk_X12_isPost 11 rfl) (c_X12_right x.2.1 hl (d - 1) (by omega) h i0 0 1 ⟨by omega, by omega⟩ (by omega)) rfl rfl (Nat.le_of_ble_eq_true rfl) ⟨by decide, by decide⟩ rfl (fun r19 h19c hp19 => ?_) (fun _ _ q => q.elim)
      obtain ⟨b19, i19c, g19c, y19_0⟩ := hp19
      have f19c : mm_fr [(66, 0)] [] h h19c := mm_fr_tr f0 g19c (by decide +kernel)
      have q19c_5 : h19c.1 66 21 = h.1 66 21 := g19c.1 66 21 (by decide)
      exact mm_zret C T (mm_dec dk_X12_isPost 12 rfl) (by decide : 0 ≤ 0) (by decide : 0 ≤ 0) (by omega) ⟨_, rfl, ⟨⟨by omega, by omega⟩, i19c, f19c, by omega⟩⟩
    · skip
      refine mm_iconst C (mm_dec dk_X12_isPost 7 rfl) ⟨by decide, by decide⟩ ?_
      refine mm_goto (tgt := 18) C (mm_dec dk_X12_isPost 8 rfl) (by decide) ?_
      refine mm_iconst C (mm_dec dk_X12_isPost 10 rfl) ⟨by decide, by decide⟩ ?_
      refine mm_cVi (rest := []) C1 ev_X12_251 (mm_dec dk_X12_isPost 11 rfl) (c_X12_right x.2.1 hl (d - 1) (by omega) h i0 1 1 ⟨by omega, by omega⟩ (by omega)) rfl rfl (Nat.le_of_ble_eq_true rfl) ⟨by decide, by decide⟩ rfl (fun r19 h19c hp19 => ?_) (fun _ _ q => q.elim)
      obtain ⟨b19, i19c, g19c, y19_0⟩ := hp19
      have f19c : mm_fr [(66, 0)] [] h h19c := mm_fr_tr f0 g19c (by decide +kernel)
      have q19c_7 : h19c.1 66 21 = h.1 66 21 := g19c.1 66 21 (by decide)
      exact mm_zret C T (mm_dec dk_X12_isPost 12 rfl) (by decide : 0 ≤ 0) (by decide : 0 ≤ 0) (by omega) ⟨_, rfl, ⟨⟨by omega, by omega⟩, i19c, f19c, by omega⟩⟩
set_option maxRecDepth 100000 in
set_option maxHeartbeats 4000000 in
theorem c_X12_add (l : Launch) (hl : l.stackTraces = false) (d : Nat) (hd : 2 ≤ d) (h : mH) (i0 : mm_inv h) (p1 : Int) (p2 : Int) (p3 : Int) (p4 : Int) : mm_Met l d yX12_add cX12_add 7 (some .int) [mR 66, mI p1, mI p2, mI p3, mI p4] h (mm_pi fun r h2 => (-1 ≤ r ∧ r ≤ 12) ∧ mm_inv h2 ∧ mm_fr [(66, 0)] [80, 81, 82, 84] h h2) mm_nx 0 0 := by
  refine mm_ofW (ls := [mR 66, mI p1, mI p2, mI p3, mI p4, mU, mU]) hl (by decide) rfl (Nat.le_of_ble_eq_true rfl) ?_
  intro x hxl C T hnm htb
  subst hxl
  have C1 := mm_OK_le (d' := d - 1 + 1) (by omega) C
  refine mm_rng (fun hr _ => ?_)
  have ap1 : -2147483648 ≤ p1 ∧ p1 < 2147483648 := mm_ok_at hr (i := 1) rfl
  have ap2 : -2147483648 ≤ p2 ∧ p2 < 2147483648 := mm_ok_at hr (i := 2) rfl
  have ap3 : -2147483648 ≤ p3 ∧ p3 < 2147483648 := mm_ok_at hr (i := 3) rfl
  have ap4 : -2147483648 ≤ p4 ∧ p4 < 2147483648 := mm_ok_at hr (i := 4) rfl
  have f0 : mm_fr [(66, 0)] [80, 81, 82, 84] h h := mm_fr_rf
  refine mm_aload_n C (mm_dec dk_X12_add 0 rfl) rfl ?_
  refine mm_iload_n C (mm_dec dk_X12_add 1 rfl) rfl ?_
  refine mm_cVi (rest := []) C1 ev_X12_288 (mm_dec dk_X12_add 2 rfl) (c_X12_isCourse x.2.1 hl (d - 1) (by omega) h i0 p1) rfl rfl (Nat.le_of_ble_eq_true rfl) ⟨by decide, by decide⟩ rfl (fun r2 h2c hp2 => ?_) (fun _ _ q => q.elim)
  obtain ⟨b2, i2c, g2c, y2_0⟩ := hp2
  have f2c : mm_fr [(66, 0)] [80, 81, 82, 84] h h2c := mm_fr_tr f0 g2c (by decide +kernel)
  have q2c_2 : h2c.2.1 80 p1 = h.2.1 80 p1 := g2c.2 80 (by decide) _
  have g3 : 0 ≤ (h2c.1 66 22) ∧ (h2c.1 66 22) ≤ 8 := i2c.1 66 22
  have J33 : ∀ (h33_ : mH) (i33_ : mm_inv h33_) (f33_ : mm_fr [(66, 0)] [80, 81, 82, 84] h h33_), mm_W x 0 0 33 [mU, mU, mU, mU, mU, mU, mU] [] h33_ := by
    intro h33_ i33_ f33_
    refine mm_iconst C (mm_dec dk_X12_add 16 rfl) ⟨by decide, by decide⟩ ?_
    exact mm_iret C T (mm_dec dk_X12_add 17 rfl) (by decide : 0 ≤ 0) (by decide : 0 ≤ 0) ⟨_, rfl, ⟨⟨by omega, by omega⟩, i33_, f33_⟩⟩
  refine mm_if_eq (tgt := 33) C (mm_dec dk_X12_add 3 rfl) (by decide) (fun c5 => ?_) (fun c5 => ?_)
  · skip
    refine mm_fgt 0 ?_
    refine mm_fgt 1 ?_
    refine mm_fgt 2 ?_
    refine mm_fgt 3 ?_
    refine mm_fgt 4 ?_
    exact J33 h2c i2c f2c
  · skip
    refine mm_aload_n C (mm_dec dk_X12_add 4 rfl) rfl ?_
    refine mm_iload_n C (mm_dec dk_X12_add 5 rfl) rfl ?_
    refine mm_cVi (rest := []) C1 ev_X12_292 (mm_dec dk_X12_add 6 rfl) (c_X12_isPost x.2.1 hl (d - 1) (by omega) h2c i2c p2) rfl rfl (Nat.le_of_ble_eq_true rfl) ⟨by decide, by decide⟩ rfl (fun r10 h10c hp10 => ?_) (fun _ _ q => q.elim)
    obtain ⟨b10, i10c, g10c, y10_0⟩ := hp10
    have f10c : mm_fr [(66, 0)] [80, 81, 82, 84] h h10c := mm_fr_tr f2c g10c (by decide +kernel)
    have q10c_5 : h10c.1 66 22 = h2c.1 66 22 := g10c.1 66 22 (by decide)
    have q10c_6 : h10c.2.1 80 p1 = h2c.2.1 80 p1 := g10c.2 80 (by decide) _
    have g7 : 0 ≤ (h10c.1 66 21) ∧ (h10c.1 66 21) ≤ 20 := i10c.1 66 21
    refine mm_if_eq (tgt := 33) C (mm_dec dk_X12_add 7 rfl) (by decide) (fun c13 => ?_) (fun c13 => ?_)
    · skip
      refine mm_fgt 0 ?_
      refine mm_fgt 1 ?_
      refine mm_fgt 2 ?_
      refine mm_fgt 3 ?_
      refine mm_fgt 4 ?_
      exact J33 h10c i10c f10c
    · skip
      refine mm_aload_n C (mm_dec dk_X12_add 8 rfl) rfl ?_
      refine mm_iload_n C (mm_dec dk_X12_add 9 rfl) rfl ?_
      refine mm_cVi (rest := []) C1 ev_X12_292 (mm_dec dk_X12_add 10 rfl) (c_X12_isPost x.2.1 hl (d - 1) (by omega) h10c i10c p3) rfl rfl (Nat.le_of_ble_eq_true rfl) ⟨by decide, by decide⟩ rfl (fun r18 h18c hp18 => ?_) (fun _ _ q => q.elim)
      obtain ⟨b18, i18c, g18c, y18_0⟩ := hp18
      have f18c : mm_fr [(66, 0)] [80, 81, 82, 84] h h18c := mm_fr_tr f10c g18c (by decide +kernel)
      have q18c_9 : h18c.1 66 21 = h10c.1 66 21 := g18c.1 66 21 (by decide)
      have q18c_10 : h18c.1 66 22 = h10c.1 66 22 := g18c.1 66 22 (by decide)
      have q18c_11 : h18c.2.1 80 p1 = h10c.2.1 80 p1 := g18c.2 80 (by decide) _
      refine mm_if_eq (tgt := 33) C (mm_dec dk_X12_add 11 rfl) (by decide) (fun c21 => ?_) (fun c21 => ?_)
      · skip
        refine mm_fgt 0 ?_
        refine mm_fgt 1 ?_
        refine mm_fgt 2 ?_
        refine mm_fgt 3 ?_
        refine mm_fgt 4 ?_
        exact J33 h18c i18c f18c
      · skip
        refine mm_aload_n C (mm_dec dk_X12_add 12 rfl) rfl ?_
        refine mm_iload C (mm_dec dk_X12_add 13 rfl) rfl ?_
        refine mm_cVi (rest := []) C1 ev_X12_292 (mm_dec dk_X12_add 14 rfl) (c_X12_isPost x.2.1 hl (d - 1) (by omega) h18c i18c p4) rfl rfl (Nat.le_of_ble_eq_true rfl) ⟨by decide, by decide⟩ rfl (fun r27 h27c hp27 => ?_) (fun _ _ q => q.elim)
        obtain ⟨b27, i27c, g27c, y27_0⟩ := hp27
        have f27c : mm_fr [(66, 0)] [80, 81, 82, 84] h h27c := mm_fr_tr f18c g27c (by decide +kernel)
        have q27c_13 : h27c.1 66 21 = h18c.1 66 21 := g27c.1 66 21 (by decide)
        have q27c_14 : h27c.1 66 22 = h18c.1 66 22 := g27c.1 66 22 (by decide)
        have q27c_15 : h27c.2.1 80 p1 = h18c.2.1 80 p1 := g27c.2 80 (by decide) _
        refine mm_if_ne (tgt := 35) C (mm_dec dk_X12_add 15 rfl) (by decide) (fun c30 => ?_) (fun c30 => ?_)
        · skip
          refine mm_iload_n C (mm_dec dk_X12_add 18 rfl) rfl ?_
          refine mm_iload_n C (mm_dec dk_X12_add 19 rfl) rfl ?_
          have J45 : ∀ (s45_0 : Int) (bs45_0 : 0 ≤ s45_0 ∧ s45_0 ≤ 1) (vs45_0 : (p2 = p3 ∧ s45_0 = 0) ∨ (p2 ≠ p3 ∧ s45_0 = 1)), mm_W x 0 0 45 [mR 66, mI p1, mI p2, mI p3, mI p4, mU, mU] [mI s45_0] h27c := by
            intro s45_0 bs45_0 vs45_0
            refine mm_istoreL (ls2 := [mR 66, mI p1, mI p2, mI p3, mI p4, mI s45_0, mU]) C (mm_dec dk_X12_add 24 rfl) (by decide) rfl ?_
            refine mm_iconst C (mm_dec dk_X12_add 25 rfl) ⟨by decide, by decide⟩ ?_
            have J50 : ∀ (n : Nat) (x50_6 : Int) (bx50_6 : 0 ≤ x50_6 ∧ x50_6 ≤ 40), (40 - x50_6 : Int) < n → mm_W x 0 0 50 [mR 66, mI p1, mI p2, mI p3, mI p4, mI s45_0, mI x50_6] [] h27c := by
              intro n
              induction n with
              | zero =>
                intro x50_6 bx50_6 hm
                exfalso; omega
              | succ n ih50 =>
                intro x50_6 bx50_6 hm50
                refine mm_iload C (mm_dec dk_X12_add 27 rfl) rfl ?_
                refine mm_aload_n C (mm_dec dk_X12_add 28 rfl) rfl ?_
                refine mm_geti C fl_X12_222 (mm_dec dk_X12_add 29 rfl) rfl rfl (Or.inl rfl) ?_
                have g16 : 0 ≤ (h27c.1 66 23) ∧ (h27c.1 66 23) ≤ 40 := i27c.1 66 23
                refine mm_icmp_ge (tgt := 78) C (mm_dec dk_X12_add 30 rfl) (by decide) (fun c56 => ?_) (fun c56 => ?_)
                · skip
                  refine mm_aload_n C (mm_dec dk_X12_add 41 rfl) rfl ?_
                  refine mm_getr (t := 80) C fl_X12_51 (mm_dec dk_X12_add 42 rfl) rfl rfl (mm_ref i27c rfl) ?_
                  refine mm_iload_n C (mm_dec dk_X12_add 43 rfl) rfl ?_
                  refine mm_iald C (mm_dec dk_X12_add 44 rfl) rfl (by omega) (by omega) ?_
                  have g17 : 0 ≤ (h27c.2.1 80 p1) ∧ (h27c.2.1 80 p1) ≤ 12 := i27c.2.1 80 p1
                  refine mm_bipush C (mm_dec dk_X12_add 45 rfl) ⟨by decide, by decide⟩ ?_
                  have J113 : mm_W x 0 0 113 [mU, mU, mU, mU, mU, mU, mU] [] h27c := by
                    refine mm_iconst C (mm_dec dk_X12_add 60 rfl) ⟨by decide, by decide⟩ ?_
                    exact mm_iret C T (mm_dec dk_X12_add 61 rfl) (by decide : 0 ≤ 0) (by decide : 0 ≤ 0) ⟨_, rfl, ⟨⟨by omega, by omega⟩, i27c, f27c⟩⟩
                  refine mm_icmp_eq (tgt := 113) C (mm_dec dk_X12_add 46 rfl) (by decide) (fun c86 => ?_) (fun c86 => ?_)
                  · skip
                    refine mm_fgt 0 ?_
                    refine mm_fgt 1 ?_
                    refine mm_fgt 2 ?_
                    refine mm_fgt 3 ?_
                    refine mm_fgt 4 ?_
                    refine mm_fgt 5 ?_
                    refine mm_fgt 6 ?_
                    exact J113
                  · skip
                    refine mm_iload C (mm_dec dk_X12_add 47 rfl) rfl ?_
                    have J115 : mm_W x 0 0 115 [mR 66, mI p1, mI p2, mI p3, mI p4, mI s45_0, mU] [] h27c := by
                      refine mm_bipush C (mm_dec dk_X12_add 62 rfl) ⟨by decide, by decide⟩ ?_
                      refine mm_iload_n C (mm_dec dk_X12_add 63 rfl) rfl ?_
                      refine mm_imul C (mm_dec dk_X12_add 64 rfl) ⟨by omega, by omega⟩ ?_
                      refine mm_aload_n C (mm_dec dk_X12_add 65 rfl) rfl ?_
                      refine mm_getr (t := 80) C fl_X12_51 (mm_dec dk_X12_add 66 rfl) rfl rfl (mm_ref i27c rfl) ?_
                      refine mm_iload_n C (mm_dec dk_X12_add 67 rfl) rfl ?_
                      refine mm_iald C (mm_dec dk_X12_add 68 rfl) rfl (by omega) (by omega) ?_
                      refine mm_iadd C (mm_dec dk_X12_add 69 rfl) ⟨by omega, by omega⟩ ?_
                      refine mm_istoreL (ls2 := [mR 66, mI p1, mI p2, mI p3, mI p4, mI s45_0, mI ((12 * p1) + (h27c.2.1 80 p1))]) C (mm_dec dk_X12_add 70 rfl) (by decide) rfl ?_
                      refine mm_aload_n C (mm_dec dk_X12_add 71 rfl) rfl ?_
                      refine mm_getr (t := 84) C fl_X12_63 (mm_dec dk_X12_add 72 rfl) rfl rfl (mm_ref i27c rfl) ?_
                      refine mm_iload C (mm_dec dk_X12_add 73 rfl) rfl ?_
                      refine mm_iload C (mm_dec dk_X12_add 74 rfl) rfl ?_
                      refine mm_zast C (mm_dec dk_X12_add 75 rfl) rfl (by omega) (by omega) (by omega) ?_
                      have i5 : mm_inv (mm_pa h27c 84 ((12 * p1) + (h27c.2.1 80 p1)) s45_0) := mm_inv_pa i27c (show 0 ≤ s45_0 ∧ s45_0 ≤ 1 from ⟨by omega, by omega⟩)
                      have f5 : mm_fr [(66, 0)] [80, 81, 82, 84] h (mm_pa h27c 84 ((12 * p1) + (h27c.2.1 80 p1)) s45_0) := mm_fr_pa f27c (by decide)
                      obtain ⟨h5, eh5⟩ : ∃ z, z = mm_pa h27c 84 ((12 * p1) + (h27c.2.1 80 p1)) s45_0 := ⟨_, rfl⟩
                      rw [← eh5] at i5 f5 ⊢
                      have qh5_18 : h5.1 66 21 = h27c.1 66 21 := by rw [eh5]; rfl
                      have qh5_19 : h5.1 66 22 = h27c.1 66 22 := by rw [eh5]; rfl
                      have qh5_20 : h5.1 66 23 = h27c.1 66 23 := by rw [eh5]; rfl
                      have qh5_21 : h5.2.1 80 p1 = h27c.2.1 80 p1 := by rw [eh5]; exact mm_pa_ne _ _ (fun q => absurd q.1 (by decide))
                      refine mm_aload_n C (mm_dec dk_X12_add 76 rfl) rfl ?_
                      refine mm_getr (t := 82) C fl_X12_57 (mm_dec dk_X12_add 77 rfl) rfl rfl (mm_ref i5 rfl) ?_
                      refine mm_iconst C (mm_dec dk_X12_add 78 rfl) ⟨by decide, by decide⟩ ?_
                      refine mm_iload C (mm_dec dk_X12_add 79 rfl) rfl ?_
                      refine mm_imul C (mm_dec dk_X12_add 80 rfl) ⟨by omega, by omega⟩ ?_
                      refine mm_iload_n C (mm_dec dk_X12_add 81 rfl) rfl ?_
                      refine mm_iast C (mm_dec dk_X12_add 82 rfl) rfl (by omega) (by omega) ?_
                      have i6 : mm_inv (mm_pa h5 82 (3 * ((12 * p1) + (h27c.2.1 80 p1))) p2) := mm_inv_pa i5 (show 0 ≤ p2 ∧ p2 ≤ 19 from ⟨by omega, by omega⟩)
                      have f6 : mm_fr [(66, 0)] [80, 81, 82, 84] h (mm_pa h5 82 (3 * ((12 * p1) + (h27c.2.1 80 p1))) p2) := mm_fr_pa f5 (by decide)
                      obtain ⟨h6, eh6⟩ : ∃ z, z = mm_pa h5 82 (3 * ((12 * p1) + (h27c.2.1 80 p1))) p2 := ⟨_, rfl⟩
                      rw [← eh6] at i6 f6 ⊢
                      have qh6_22 : h6.1 66 21 = h5.1 66 21 := by rw [eh6]; rfl
                      have qh6_23 : h6.1 66 22 = h5.1 66 22 := by rw [eh6]; rfl
                      have qh6_24 : h6.1 66 23 = h5.1 66 23 := by rw [eh6]; rfl
                      have qh6_25 : h6.2.1 80 p1 = h5.2.1 80 p1 := by rw [eh6]; exact mm_pa_ne _ _ (fun q => absurd q.1 (by decide))
                      refine mm_aload_n C (mm_dec dk_X12_add 83 rfl) rfl ?_
                      refine mm_getr (t := 82) C fl_X12_57 (mm_dec dk_X12_add 84 rfl) rfl rfl (mm_ref i6 rfl) ?_
                      refine mm_iconst C (mm_dec dk_X12_add 85 rfl) ⟨by decide, by decide⟩ ?_
                      refine mm_iload C (mm_dec dk_X12_add 86 rfl) rfl ?_
                      refine mm_imul C (mm_dec dk_X12_add 87 rfl) ⟨by omega, by omega⟩ ?_
                      refine mm_iconst C (mm_dec dk_X12_add 88 rfl) ⟨by decide, by decide⟩ ?_
                      refine mm_iadd C (mm_dec dk_X12_add 89 rfl) ⟨by omega, by omega⟩ ?_
                      refine mm_iload_n C (mm_dec dk_X12_add 90 rfl) rfl ?_
                      refine mm_iast C (mm_dec dk_X12_add 91 rfl) rfl (by omega) (by omega) ?_
                      have i7 : mm_inv (mm_pa h6 82 ((3 * ((12 * p1) + (h27c.2.1 80 p1))) + 1) p3) := mm_inv_pa i6 (show 0 ≤ p3 ∧ p3 ≤ 19 from ⟨by omega, by omega⟩)
                      have f7 : mm_fr [(66, 0)] [80, 81, 82, 84] h (mm_pa h6 82 ((3 * ((12 * p1) + (h27c.2.1 80 p1))) + 1) p3) := mm_fr_pa f6 (by decide)
                      obtain ⟨h7, eh7⟩ : ∃ z, z = mm_pa h6 82 ((3 * ((12 * p1) + (h27c.2.1 80 p1))) + 1) p3 := ⟨_, rfl⟩
                      rw [← eh7] at i7 f7 ⊢
                      have qh7_26 : h7.1 66 21 = h6.1 66 21 := by rw [eh7]; rfl
                      have qh7_27 : h7.1 66 22 = h6.1 66 22 := by rw [eh7]; rfl
                      have qh7_28 : h7.1 66 23 = h6.1 66 23 := by rw [eh7]; rfl
                      have qh7_29 : h7.2.1 80 p1 = h6.2.1 80 p1 := by rw [eh7]; exact mm_pa_ne _ _ (fun q => absurd q.1 (by decide))
                      refine mm_aload_n C (mm_dec dk_X12_add 92 rfl) rfl ?_
                      refine mm_getr (t := 82) C fl_X12_57 (mm_dec dk_X12_add 93 rfl) rfl rfl (mm_ref i7 rfl) ?_
                      refine mm_iconst C (mm_dec dk_X12_add 94 rfl) ⟨by decide, by decide⟩ ?_
                      refine mm_iload C (mm_dec dk_X12_add 95 rfl) rfl ?_
                      refine mm_imul C (mm_dec dk_X12_add 96 rfl) ⟨by omega, by omega⟩ ?_
                      refine mm_iconst C (mm_dec dk_X12_add 97 rfl) ⟨by decide, by decide⟩ ?_
                      refine mm_iadd C (mm_dec dk_X12_add 98 rfl) ⟨by omega, by omega⟩ ?_
                      refine mm_iload C (mm_dec dk_X12_add 99 rfl) rfl ?_
                      refine mm_iast C (mm_dec dk_X12_add 100 rfl) rfl (by omega) (by omega) ?_
                      have i8 : mm_inv (mm_pa h7 82 ((3 * ((12 * p1) + (h27c.2.1 80 p1))) + 2) p4) := mm_inv_pa i7 (show 0 ≤ p4 ∧ p4 ≤ 19 from ⟨by omega, by omega⟩)
                      have f8 : mm_fr [(66, 0)] [80, 81, 82, 84] h (mm_pa h7 82 ((3 * ((12 * p1) + (h27c.2.1 80 p1))) + 2) p4) := mm_fr_pa f7 (by decide)
                      obtain ⟨h8, eh8⟩ : ∃ z, z = mm_pa h7 82 ((3 * ((12 * p1) + (h27c.2.1 80 p1))) + 2) p4 := ⟨_, rfl⟩
                      rw [← eh8] at i8 f8 ⊢
                      have qh8_30 : h8.1 66 21 = h7.1 66 21 := by rw [eh8]; rfl
                      have qh8_31 : h8.1 66 22 = h7.1 66 22 := by rw [eh8]; rfl
                      have qh8_32 : h8.1 66 23 = h7.1 66 23 := by rw [eh8]; rfl
                      have qh8_33 : h8.2.1 80 p1 = h7.2.1 80 p1 := by rw [eh8]; exact mm_pa_ne _ _ (fun q => absurd q.1 (by decide))
                      refine mm_iload C (mm_dec dk_X12_add 101 rfl) rfl ?_
                      have J187 : ∀ (h187_ : mH) (i187_ : mm_inv h187_) (f187_ : mm_fr [(66, 0)] [80, 81, 82, 84] h h187_) (w187_0 : h187_.2.1 80 p1 ≤ 11), mm_W x 0 0 187 [mR 66, mI p1, mU, mU, mU, mU, mU] [] h187_ := by
                        intro h187_ i187_ f187_ w187_0
                        refine mm_aload_n C (mm_dec dk_X12_add 111 rfl) rfl ?_
                        refine mm_getr (t := 80) C fl_X12_51 (mm_dec dk_X12_add 112 rfl) rfl rfl (mm_ref i187_ rfl) ?_
                        refine mm_iload_n C (mm_dec dk_X12_add 113 rfl) rfl ?_
                        refine mm_dup2 C (mm_dec dk_X12_add 114 rfl) (show (0 : Nat) ≠ 1 by decide) (show (2 : Nat) ≠ 1 by decide) ?_
                        refine mm_iald C (mm_dec dk_X12_add 115 rfl) rfl (by omega) (by omega) ?_
                        have g34 : 0 ≤ (h187_.2.1 80 p1) ∧ (h187_.2.1 80 p1) ≤ 12 := i187_.2.1 80 p1
                        refine mm_iconst C (mm_dec dk_X12_add 116 rfl) ⟨by decide, by decide⟩ ?_
                        refine mm_iadd C (mm_dec dk_X12_add 117 rfl) ⟨by omega, by omega⟩ ?_
                        refine mm_iast C (mm_dec dk_X12_add 118 rfl) rfl (by omega) (by omega) ?_
                        have i9 : mm_inv (mm_pa h187_ 80 p1 ((h187_.2.1 80 p1) + 1)) := mm_inv_pa i187_ (show 0 ≤ ((h187_.2.1 80 p1) + 1) ∧ ((h187_.2.1 80 p1) + 1) ≤ 12 from ⟨by omega, by omega⟩)
                        have f9 : mm_fr [(66, 0)] [80, 81, 82, 84] h (mm_pa h187_ 80 p1 ((h187_.2.1 80 p1) + 1)) := mm_fr_pa f187_ (by decide)
                        obtain ⟨h9, eh9⟩ : ∃ z, z = mm_pa h187_ 80 p1 ((h187_.2.1 80 p1) + 1) := ⟨_, rfl⟩
                        rw [← eh9] at i9 f9 ⊢
                        have qh9_35 : h9.2.1 80 p1 = ((h187_.2.1 80 p1) + 1) := by rw [eh9]; exact mm_pa_same _ _ _ _
                        refine mm_aload_n C (mm_dec dk_X12_add 119 rfl) rfl ?_
                        refine mm_getr (t := 80) C fl_X12_51 (mm_dec dk_X12_add 120 rfl) rfl rfl (mm_ref i9 rfl) ?_
                        refine mm_iload_n C (mm_dec dk_X12_add 121 rfl) rfl ?_
                        refine mm_iald C (mm_dec dk_X12_add 122 rfl) rfl (by omega) (by omega) ?_
                        have g36 : 0 ≤ (h9.2.1 80 p1) ∧ (h9.2.1 80 p1) ≤ 12 := i9.2.1 80 p1
                        exact mm_iret C T (mm_dec dk_X12_add 123 rfl) (by decide : 0 ≤ 0) (by decide : 0 ≤ 0) ⟨_, rfl, ⟨⟨by omega, by omega⟩, i9, f9⟩⟩
                      refine mm_if_eq (tgt := 187) C (mm_dec dk_X12_add 102 rfl) (by decide) (fun c174 => ?_) (fun c174 => ?_)
                      · skip
                        refine mm_fgt 2 ?_
                        refine mm_fgt 3 ?_
                        refine mm_fgt 4 ?_
                        refine mm_fgt 5 ?_
                        refine mm_fgt 6 ?_
                        exact J187 h8 i8 f8 (by omega)
                      · skip
                        refine mm_aload_n C (mm_dec dk_X12_add 103 rfl) rfl ?_
                        refine mm_getr (t := 81) C fl_X12_54 (mm_dec dk_X12_add 104 rfl) rfl rfl (mm_ref i8 rfl) ?_
                        refine mm_iload_n C (mm_dec dk_X12_add 105 rfl) rfl ?_
                        refine mm_dup2 C (mm_dec dk_X12_add 106 rfl) (show (0 : Nat) ≠ 1 by decide) (show (2 : Nat) ≠ 1 by decide) ?_
                        refine mm_iald C (mm_dec dk_X12_add 107 rfl) rfl (by omega) (by omega) ?_
                        have g37 : -2147483648 ≤ (h8.2.1 81 p1) ∧ (h8.2.1 81 p1) ≤ 2147483647 := i8.2.1 81 p1
                        refine mm_iconst C (mm_dec dk_X12_add 108 rfl) ⟨by decide, by decide⟩ ?_
                        refine mm_iaddw C (mm_dec dk_X12_add 109 rfl) ?_
                        have g38 : -2147483648 ≤ (mm_w ((h8.2.1 81 p1) + 1)) ∧ (mm_w ((h8.2.1 81 p1) + 1)) < 2147483648 := mm_w_rg _
                        refine mm_iast C (mm_dec dk_X12_add 110 rfl) rfl (by omega) (by omega) ?_
                        have i10 : mm_inv (mm_pa h8 81 p1 (mm_w ((h8.2.1 81 p1) + 1))) := mm_inv_pa i8 (show -2147483648 ≤ (mm_w ((h8.2.1 81 p1) + 1)) ∧ (mm_w ((h8.2.1 81 p1) + 1)) ≤ 2147483647 from ⟨by omega, by omega⟩)
                        have f10 : mm_fr [(66, 0)] [80, 81, 82, 84] h (mm_pa h8 81 p1 (mm_w ((h8.2.1 81 p1) + 1))) := mm_fr_pa f8 (by decide)
                        obtain ⟨h10, eh10⟩ : ∃ z, z = mm_pa h8 81 p1 (mm_w ((h8.2.1 81 p1) + 1)) := ⟨_, rfl⟩
                        rw [← eh10] at i10 f10 ⊢
                        have qh10_39 : h10.1 66 21 = h8.1 66 21 := by rw [eh10]; rfl
                        have qh10_40 : h10.1 66 22 = h8.1 66 22 := by rw [eh10]; rfl
                        have qh10_41 : h10.1 66 23 = h8.1 66 23 := by rw [eh10]; rfl
                        have qh10_42 : h10.2.1 80 p1 = h8.2.1 80 p1 := by rw [eh10]; exact mm_pa_ne _ _ (fun q => absurd q.1 (by decide))
                        refine mm_fgt 2 ?_
                        refine mm_fgt 3 ?_
                        refine mm_fgt 4 ?_
                        refine mm_fgt 5 ?_
                        refine mm_fgt 6 ?_
                        exact J187 h10 i10 f10 (by omega)
                    refine mm_if_eq (tgt := 115) C (mm_dec dk_X12_add 48 rfl) (by decide) (fun c91 => ?_) (fun c91 => ?_)
                    · skip
                      refine mm_fgt 6 ?_
                      exact J115
                    · skip
                      refine mm_aload_n C (mm_dec dk_X12_add 49 rfl) rfl ?_
                      refine mm_getr (t := 83) C fl_X12_60 (mm_dec dk_X12_add 50 rfl) rfl rfl (mm_ref i27c rfl) ?_
                      refine mm_iload_n C (mm_dec dk_X12_add 51 rfl) rfl ?_
                      refine mm_zald C (mm_dec dk_X12_add 52 rfl) rfl (by omega) (by omega) ?_
                      have g43 : 0 ≤ (h27c.2.1 83 p1) ∧ (h27c.2.1 83 p1) ≤ 1 := i27c.2.1 83 p1
                      refine mm_if_ne (tgt := 113) C (mm_dec dk_X12_add 53 rfl) (by decide) (fun c100 => ?_) (fun c100 => ?_)
                      · skip
                        refine mm_fgt 0 ?_
                        refine mm_fgt 1 ?_
                        refine mm_fgt 2 ?_
                        refine mm_fgt 3 ?_
                        refine mm_fgt 4 ?_
                        refine mm_fgt 5 ?_
                        refine mm_fgt 6 ?_
                        exact J113
                      · skip
                        refine mm_aload_n C (mm_dec dk_X12_add 54 rfl) rfl ?_
                        refine mm_getr (t := 81) C fl_X12_54 (mm_dec dk_X12_add 55 rfl) rfl rfl (mm_ref i27c rfl) ?_
                        refine mm_iload_n C (mm_dec dk_X12_add 56 rfl) rfl ?_
                        refine mm_iald C (mm_dec dk_X12_add 57 rfl) rfl (by omega) (by omega) ?_
                        have g44 : -2147483648 ≤ (h27c.2.1 81 p1) ∧ (h27c.2.1 81 p1) ≤ 2147483647 := i27c.2.1 81 p1
                        refine mm_iconst C (mm_dec dk_X12_add 58 rfl) ⟨by decide, by decide⟩ ?_
                        refine mm_icmp_ne (tgt := 115) C (mm_dec dk_X12_add 59 rfl) (by decide) (fun c110 => ?_) (fun c110 => ?_)
                        · skip
                          refine mm_fgt 6 ?_
                          exact J115
                        · skip
                          refine mm_fgt 0 ?_
                          refine mm_fgt 1 ?_
                          refine mm_fgt 2 ?_
                          refine mm_fgt 3 ?_
                          refine mm_fgt 4 ?_
                          refine mm_fgt 5 ?_
                          refine mm_fgt 6 ?_
                          exact J113
                · skip
                  refine mm_aload_n C (mm_dec dk_X12_add 31 rfl) rfl ?_
                  refine mm_getr (t := 85) C fl_X12_66 (mm_dec dk_X12_add 32 rfl) rfl rfl (mm_ref i27c rfl) ?_
                  refine mm_iload C (mm_dec dk_X12_add 33 rfl) rfl ?_
                  refine mm_iald C (mm_dec dk_X12_add 34 rfl) rfl (by omega) (by omega) ?_
                  have g45 : 0 ≤ (h27c.2.1 85 x50_6) ∧ (h27c.2.1 85 x50_6) ≤ 7 := i27c.2.1 85 x50_6
                  refine mm_iload_n C (mm_dec dk_X12_add 35 rfl) rfl ?_
                  refine mm_icmp_ne (tgt := 72) C (mm_dec dk_X12_add 36 rfl) (by decide) (fun c67 => ?_) (fun c67 => ?_)
                  · skip
                    refine mm_iincL (ls2 := [mR 66, mI p1, mI p2, mI p3, mI p4, mI s45_0, mI (x50_6 + 1)]) C (mm_dec dk_X12_add 39 rfl) rfl (by decide) ⟨by omega, by omega⟩ rfl ?_
                    refine mm_goto (tgt := 50) C (mm_dec dk_X12_add 40 rfl) (by decide) ?_
                    exact ih50 (x50_6 + 1) ⟨by omega, by omega⟩ (by omega)
                  · skip
                    refine mm_iconst C (mm_dec dk_X12_add 37 rfl) ⟨by decide, by decide⟩ ?_
                    exact mm_iret C T (mm_dec dk_X12_add 38 rfl) (by decide : 0 ≤ 0) (by decide : 0 ≤ 0) ⟨_, rfl, ⟨⟨by omega, by omega⟩, i27c, f27c⟩⟩
            refine mm_istoreL (ls2 := [mR 66, mI p1, mI p2, mI p3, mI p4, mI s45_0, mI 0]) C (mm_dec dk_X12_add 26 rfl) (by decide) rfl ?_
            exact J50 (((40 - 0) : Int) + 1).toNat 0 ⟨by omega, by omega⟩ (by omega)
          refine mm_icmp_eq (tgt := 44) C (mm_dec dk_X12_add 20 rfl) (by decide) (fun c37 => ?_) (fun c37 => ?_)
          · skip
            refine mm_iconst C (mm_dec dk_X12_add 23 rfl) ⟨by decide, by decide⟩ ?_
            exact J45 0 ⟨by omega, by omega⟩ (Or.inl ⟨by omega, rfl⟩)
          · skip
            refine mm_iconst C (mm_dec dk_X12_add 21 rfl) ⟨by decide, by decide⟩ ?_
            refine mm_goto (tgt := 45) C (mm_dec dk_X12_add 22 rfl) (by decide) ?_
            exact J45 1 ⟨by omega, by omega⟩ (Or.inr (⟨by omega, rfl⟩))
        · skip
          refine mm_fgt 0 ?_
          refine mm_fgt 1 ?_
          refine mm_fgt 2 ?_
          refine mm_fgt 3 ?_
          refine mm_fgt 4 ?_
          exact J33 h27c i27c f27c
set_option maxRecDepth 100000 in
set_option maxHeartbeats 4000000 in
theorem c_X12_runner (l : Launch) (hl : l.stackTraces = false) (d : Nat) (hd : 2 ≤ d) (h : mH) (i0 : mm_inv h) (p1 : Int) (p2 : Int) (p3 : Int) : mm_Met l d yX12_runner cX12_runner 4 (some .int) [mR 66, mI p1, mI p2, mI p3] h (mm_pi fun r h2 => (-1 ≤ r ∧ r ≤ 39) ∧ mm_inv h2 ∧ mm_fr [(66, 0), (66, 23)] [85, 86, 87, 88, 89, 122] h h2) mm_nx 0 0 := by
  refine mm_ofW (ls := [mR 66, mI p1, mI p2, mI p3]) hl (by decide) rfl (Nat.le_of_ble_eq_true rfl) ?_
  intro x hxl C T hnm htb
  subst hxl
  have C1 := mm_OK_le (d' := d - 1 + 1) (by omega) C
  refine mm_rng (fun hr _ => ?_)
  have ap1 : -2147483648 ≤ p1 ∧ p1 < 2147483648 := mm_ok_at hr (i := 1) rfl
  have ap2 : -2147483648 ≤ p2 ∧ p2 < 2147483648 := mm_ok_at hr (i := 2) rfl
  have ap3 : -2147483648 ≤ p3 ∧ p3 < 2147483648 := mm_ok_at hr (i := 3) rfl
  have f0 : mm_fr [(66, 0), (66, 23)] [85, 86, 87, 88, 89, 122] h h := mm_fr_rf
  refine mm_aload_n C (mm_dec dk_X12_runner 0 rfl) rfl ?_
  refine mm_iload_n C (mm_dec dk_X12_runner 1 rfl) rfl ?_
  refine mm_cVi (rest := []) C1 ev_X12_288 (mm_dec dk_X12_runner 2 rfl) (c_X12_isCourse x.2.1 hl (d - 1) (by omega) h i0 p1) rfl rfl (Nat.le_of_ble_eq_true rfl) ⟨by decide, by decide⟩ rfl (fun r2 h2c hp2 => ?_) (fun _ _ q => q.elim)
  obtain ⟨b2, i2c, g2c, y2_0⟩ := hp2
  have f2c : mm_fr [(66, 0), (66, 23)] [85, 86, 87, 88, 89, 122] h h2c := mm_fr_tr f0 g2c (by decide +kernel)
  have g2 : 0 ≤ (h2c.1 66 22) ∧ (h2c.1 66 22) ≤ 8 := i2c.1 66 22
  refine mm_if_ne (tgt := 10) C (mm_dec dk_X12_runner 3 rfl) (by decide) (fun c5 => ?_) (fun c5 => ?_)
  · skip
    refine mm_aload_n C (mm_dec dk_X12_runner 6 rfl) rfl ?_
    refine mm_geti C fl_X12_222 (mm_dec dk_X12_runner 7 rfl) rfl rfl (Or.inl rfl) ?_
    have g3 : 0 ≤ (h2c.1 66 23) ∧ (h2c.1 66 23) ≤ 40 := i2c.1 66 23
    refine mm_bipush C (mm_dec dk_X12_runner 8 rfl) ⟨by decide, by decide⟩ ?_
    have J39 : mm_W x 0 0 39 [mU, mU, mU, mU] [] h2c := by
      refine mm_iconst C (mm_dec dk_X12_runner 20 rfl) ⟨by decide, by decide⟩ ?_
      exact mm_iret C T (mm_dec dk_X12_runner 21 rfl) (by decide : 0 ≤ 0) (by decide : 0 ≤ 0) ⟨_, rfl, ⟨⟨by omega, by omega⟩, i2c, f2c⟩⟩
    refine mm_icmp_eq (tgt := 39) C (mm_dec dk_X12_runner 9 rfl) (by decide) (fun c16 => ?_) (fun c16 => ?_)
    · skip
      refine mm_fgt 0 ?_
      refine mm_fgt 1 ?_
      refine mm_fgt 2 ?_
      refine mm_fgt 3 ?_
      exact J39
    · skip
      refine mm_iload_n C (mm_dec dk_X12_runner 10 rfl) rfl ?_
      refine mm_if_lt (tgt := 39) C (mm_dec dk_X12_runner 11 rfl) (by decide) (fun c20 => ?_) (fun c20 => ?_)
      · skip
        refine mm_fgt 0 ?_
        refine mm_fgt 1 ?_
        refine mm_fgt 2 ?_
        refine mm_fgt 3 ?_
        exact J39
      · skip
        refine mm_iload_n C (mm_dec dk_X12_runner 12 rfl) rfl ?_
        refine mm_bipush C (mm_dec dk_X12_runner 13 rfl) ⟨by decide, by decide⟩ ?_
        refine mm_icmp_gt (tgt := 39) C (mm_dec dk_X12_runner 14 rfl) (by decide) (fun c26 => ?_) (fun c26 => ?_)
        · skip
          refine mm_fgt 0 ?_
          refine mm_fgt 1 ?_
          refine mm_fgt 2 ?_
          refine mm_fgt 3 ?_
          exact J39
        · skip
          refine mm_iload_n C (mm_dec dk_X12_runner 15 rfl) rfl ?_
          refine mm_if_lt (tgt := 39) C (mm_dec dk_X12_runner 16 rfl) (by decide) (fun c30 => ?_) (fun c30 => ?_)
          · skip
            refine mm_fgt 0 ?_
            refine mm_fgt 1 ?_
            refine mm_fgt 2 ?_
            refine mm_fgt 3 ?_
            exact J39
          · skip
            refine mm_iload_n C (mm_dec dk_X12_runner 17 rfl) rfl ?_
            refine mm_bipush C (mm_dec dk_X12_runner 18 rfl) ⟨by decide, by decide⟩ ?_
            refine mm_icmp_le (tgt := 41) C (mm_dec dk_X12_runner 19 rfl) (by decide) (fun c36 => ?_) (fun c36 => ?_)
            · skip
              refine mm_aload_n C (mm_dec dk_X12_runner 22 rfl) rfl ?_
              refine mm_getr (t := 85) C fl_X12_66 (mm_dec dk_X12_runner 23 rfl) rfl rfl (mm_ref i2c rfl) ?_
              refine mm_aload_n C (mm_dec dk_X12_runner 24 rfl) rfl ?_
              refine mm_geti C fl_X12_222 (mm_dec dk_X12_runner 25 rfl) rfl rfl (Or.inl rfl) ?_
              refine mm_iload_n C (mm_dec dk_X12_runner 26 rfl) rfl ?_
              refine mm_iast C (mm_dec dk_X12_runner 27 rfl) rfl (by omega) (by omega) ?_
              have i2 : mm_inv (mm_pa h2c 85 (h2c.1 66 23) p1) := mm_inv_pa i2c (show 0 ≤ p1 ∧ p1 ≤ 7 from ⟨by omega, by omega⟩)
              have f2 : mm_fr [(66, 0), (66, 23)] [85, 86, 87, 88, 89, 122] h (mm_pa h2c 85 (h2c.1 66 23) p1) := mm_fr_pa f2c (by decide)
              obtain ⟨h2, eh2⟩ : ∃ z, z = mm_pa h2c 85 (h2c.1 66 23) p1 := ⟨_, rfl⟩
              rw [← eh2] at i2 f2 ⊢
              have qh2_4 : h2.1 66 22 = h2c.1 66 22 := by rw [eh2]; rfl
              have qh2_5 : h2.1 66 23 = h2c.1 66 23 := by rw [eh2]; rfl
              refine mm_aload_n C (mm_dec dk_X12_runner 28 rfl) rfl ?_
              refine mm_getr (t := 86) C fl_X12_69 (mm_dec dk_X12_runner 29 rfl) rfl rfl (mm_ref i2 rfl) ?_
              refine mm_aload_n C (mm_dec dk_X12_runner 30 rfl) rfl ?_
              refine mm_geti C fl_X12_222 (mm_dec dk_X12_runner 31 rfl) rfl rfl (Or.inl rfl) ?_
              refine mm_iload_n C (mm_dec dk_X12_runner 32 rfl) rfl ?_
              refine mm_iast C (mm_dec dk_X12_runner 33 rfl) rfl (by omega) (by omega) ?_
              have i3 : mm_inv (mm_pa h2 86 (h2.1 66 23) p2) := mm_inv_pa i2 (show 0 ≤ p2 ∧ p2 ≤ 9 from ⟨by omega, by omega⟩)
              have f3 : mm_fr [(66, 0), (66, 23)] [85, 86, 87, 88, 89, 122] h (mm_pa h2 86 (h2.1 66 23) p2) := mm_fr_pa f2 (by decide)
              obtain ⟨h3, eh3⟩ : ∃ z, z = mm_pa h2 86 (h2.1 66 23) p2 := ⟨_, rfl⟩
              rw [← eh3] at i3 f3 ⊢
              have qh3_6 : h3.1 66 22 = h2.1 66 22 := by rw [eh3]; rfl
              have qh3_7 : h3.1 66 23 = h2.1 66 23 := by rw [eh3]; rfl
              refine mm_aload_n C (mm_dec dk_X12_runner 34 rfl) rfl ?_
              refine mm_getr (t := 87) C fl_X12_72 (mm_dec dk_X12_runner 35 rfl) rfl rfl (mm_ref i3 rfl) ?_
              refine mm_aload_n C (mm_dec dk_X12_runner 36 rfl) rfl ?_
              refine mm_geti C fl_X12_222 (mm_dec dk_X12_runner 37 rfl) rfl rfl (Or.inl rfl) ?_
              refine mm_iload_n C (mm_dec dk_X12_runner 38 rfl) rfl ?_
              refine mm_iast C (mm_dec dk_X12_runner 39 rfl) rfl (by omega) (by omega) ?_
              have i4 : mm_inv (mm_pa h3 87 (h3.1 66 23) p3) := mm_inv_pa i3 (show 0 ≤ p3 ∧ p3 ≤ 80 from ⟨by omega, by omega⟩)
              have f4 : mm_fr [(66, 0), (66, 23)] [85, 86, 87, 88, 89, 122] h (mm_pa h3 87 (h3.1 66 23) p3) := mm_fr_pa f3 (by decide)
              obtain ⟨h4, eh4⟩ : ∃ z, z = mm_pa h3 87 (h3.1 66 23) p3 := ⟨_, rfl⟩
              rw [← eh4] at i4 f4 ⊢
              have qh4_8 : h4.1 66 22 = h3.1 66 22 := by rw [eh4]; rfl
              have qh4_9 : h4.1 66 23 = h3.1 66 23 := by rw [eh4]; rfl
              refine mm_aload_n C (mm_dec dk_X12_runner 40 rfl) rfl ?_
              refine mm_getr (t := 88) C fl_X12_75 (mm_dec dk_X12_runner 41 rfl) rfl rfl (mm_ref i4 rfl) ?_
              refine mm_aload_n C (mm_dec dk_X12_runner 42 rfl) rfl ?_
              refine mm_geti C fl_X12_222 (mm_dec dk_X12_runner 43 rfl) rfl rfl (Or.inl rfl) ?_
              refine mm_iconst C (mm_dec dk_X12_runner 44 rfl) ⟨by decide, by decide⟩ ?_
              refine mm_iast C (mm_dec dk_X12_runner 45 rfl) rfl (by omega) (by omega) ?_
              have i5 : mm_inv (mm_pa h4 88 (h4.1 66 23) (-1)) := mm_inv_pa i4 (show -1 ≤ (-1) ∧ (-1) ≤ 9 from ⟨by omega, by omega⟩)
              have f5 : mm_fr [(66, 0), (66, 23)] [85, 86, 87, 88, 89, 122] h (mm_pa h4 88 (h4.1 66 23) (-1)) := mm_fr_pa f4 (by decide)
              obtain ⟨h5, eh5⟩ : ∃ z, z = mm_pa h4 88 (h4.1 66 23) (-1) := ⟨_, rfl⟩
              rw [← eh5] at i5 f5 ⊢
              have qh5_10 : h5.1 66 22 = h4.1 66 22 := by rw [eh5]; rfl
              have qh5_11 : h5.1 66 23 = h4.1 66 23 := by rw [eh5]; rfl
              refine mm_aload_n C (mm_dec dk_X12_runner 46 rfl) rfl ?_
              refine mm_getr (t := 89) C fl_X12_78 (mm_dec dk_X12_runner 47 rfl) rfl rfl (mm_ref i5 rfl) ?_
              refine mm_aload_n C (mm_dec dk_X12_runner 48 rfl) rfl ?_
              refine mm_geti C fl_X12_222 (mm_dec dk_X12_runner 49 rfl) rfl rfl (Or.inl rfl) ?_
              refine mm_iconst C (mm_dec dk_X12_runner 50 rfl) ⟨by decide, by decide⟩ ?_
              refine mm_iast C (mm_dec dk_X12_runner 51 rfl) rfl (by omega) (by omega) ?_
              have i6 : mm_inv (mm_pa h5 89 (h5.1 66 23) 0) := mm_inv_pa i5 (show 0 ≤ 0 ∧ 0 ≤ 2 from ⟨by omega, by omega⟩)
              have f6 : mm_fr [(66, 0), (66, 23)] [85, 86, 87, 88, 89, 122] h (mm_pa h5 89 (h5.1 66 23) 0) := mm_fr_pa f5 (by decide)
              obtain ⟨h6, eh6⟩ : ∃ z, z = mm_pa h5 89 (h5.1 66 23) 0 := ⟨_, rfl⟩
              rw [← eh6] at i6 f6 ⊢
              have qh6_12 : h6.1 66 22 = h5.1 66 22 := by rw [eh6]; rfl
              have qh6_13 : h6.1 66 23 = h5.1 66 23 := by rw [eh6]; rfl
              refine mm_aload_n C (mm_dec dk_X12_runner 52 rfl) rfl ?_
              refine mm_getr (t := 122) C fl_X12_178 (mm_dec dk_X12_runner 53 rfl) rfl rfl (mm_ref i6 rfl) ?_
              refine mm_aload_n C (mm_dec dk_X12_runner 54 rfl) rfl ?_
              refine mm_geti C fl_X12_222 (mm_dec dk_X12_runner 55 rfl) rfl rfl (Or.inl rfl) ?_
              refine mm_ldcw (z := -100000) C (mm_dec dk_X12_runner 56 rfl) kc_X12_295 (by decide) ?_
              refine mm_iast C (mm_dec dk_X12_runner 57 rfl) rfl (by omega) (by omega) ?_
              have i7 : mm_inv (mm_pa h6 122 (h6.1 66 23) (-100000)) := mm_inv_pa i6 (show -2147483648 ≤ (-100000) ∧ (-100000) ≤ 2147483647 from ⟨by omega, by omega⟩)
              have f7 : mm_fr [(66, 0), (66, 23)] [85, 86, 87, 88, 89, 122] h (mm_pa h6 122 (h6.1 66 23) (-100000)) := mm_fr_pa f6 (by decide)
              obtain ⟨h7, eh7⟩ : ∃ z, z = mm_pa h6 122 (h6.1 66 23) (-100000) := ⟨_, rfl⟩
              rw [← eh7] at i7 f7 ⊢
              have qh7_14 : h7.1 66 22 = h6.1 66 22 := by rw [eh7]; rfl
              have qh7_15 : h7.1 66 23 = h6.1 66 23 := by rw [eh7]; rfl
              refine mm_aload_n C (mm_dec dk_X12_runner 58 rfl) rfl ?_
              refine mm_dup C (mm_dec dk_X12_runner 59 rfl) (show (2 : Nat) ≠ 1 by decide) ?_
              refine mm_geti C fl_X12_222 (mm_dec dk_X12_runner 60 rfl) rfl rfl (Or.inl rfl) ?_
              refine mm_iconst C (mm_dec dk_X12_runner 61 rfl) ⟨by decide, by decide⟩ ?_
              refine mm_iadd C (mm_dec dk_X12_runner 62 rfl) ⟨by omega, by omega⟩ ?_
              refine mm_puti C fl_X12_222 (mm_dec dk_X12_runner 63 rfl) rfl rfl rfl (Or.inl ⟨rfl, rfl⟩) ?_
              have i8 : mm_inv (mm_pf h7 66 23 ((h7.1 66 23) + 1)) := mm_inv_pf i7 (show 0 ≤ ((h7.1 66 23) + 1) ∧ ((h7.1 66 23) + 1) ≤ 40 from ⟨by omega, by omega⟩) (by decide)
              have f8 : mm_fr [(66, 0), (66, 23)] [85, 86, 87, 88, 89, 122] h (mm_pf h7 66 23 ((h7.1 66 23) + 1)) := mm_fr_pf f7 (by decide)
              obtain ⟨h8, eh8⟩ : ∃ z, z = mm_pf h7 66 23 ((h7.1 66 23) + 1) := ⟨_, rfl⟩
              rw [← eh8] at i8 f8 ⊢
              have qh8 : h8.1 66 23 = ((h7.1 66 23) + 1) := by rw [eh8]; exact mm_pf_same _ _ _ _
              have qh8_16 : h8.1 66 22 = h7.1 66 22 := by rw [eh8]; exact mm_pf_ne _ _ (by decide)
              refine mm_aload_n C (mm_dec dk_X12_runner 64 rfl) rfl ?_
              refine mm_geti C fl_X12_222 (mm_dec dk_X12_runner 65 rfl) rfl rfl (Or.inl rfl) ?_
              refine mm_iconst C (mm_dec dk_X12_runner 66 rfl) ⟨by decide, by decide⟩ ?_
              refine mm_isub C (mm_dec dk_X12_runner 67 rfl) ⟨by omega, by omega⟩ ?_
              exact mm_iret C T (mm_dec dk_X12_runner 68 rfl) (by decide : 0 ≤ 0) (by decide : 0 ≤ 0) ⟨_, rfl, ⟨⟨by omega, by omega⟩, i8, f8⟩⟩
            · skip
              refine mm_fgt 0 ?_
              refine mm_fgt 1 ?_
              refine mm_fgt 2 ?_
              refine mm_fgt 3 ?_
              exact J39
  · skip
    refine mm_iconst C (mm_dec dk_X12_runner 4 rfl) ⟨by decide, by decide⟩ ?_
    exact mm_iret C T (mm_dec dk_X12_runner 5 rfl) (by decide : 0 ≤ 0) (by decide : 0 ≤ 0) ⟨_, rfl, ⟨⟨by omega, by omega⟩, i2c, f2c⟩⟩
set_option maxRecDepth 100000 in
set_option maxHeartbeats 4000000 in
theorem c_X12_isRunner (l : Launch) (hl : l.stackTraces = false) (d : Nat) (hd : 1 ≤ d) (h : mH) (i0 : mm_inv h) (p1 : Int) : mm_Met l d yX12_isRunner cX12_isRunner 2 (some .boolean) [mR 66, mI p1] h (mm_pi fun r h2 => (0 ≤ r ∧ r ≤ 1) ∧ mm_inv h2 ∧ mm_fr [(66, 0)] [] h h2 ∧ (r = 0 ∨ (0 ≤ p1 ∧ p1 < (h2.1 66 23)))) mm_nx 0 0 := by
  refine mm_ofW (ls := [mR 66, mI p1]) hl (by decide) rfl (Nat.le_of_ble_eq_true rfl) ?_
  intro x hxl C T hnm htb
  subst hxl
  have C1 := mm_OK_le (d' := d - 1 + 1) (by omega) C
  refine mm_rng (fun hr _ => ?_)
  have ap1 : -2147483648 ≤ p1 ∧ p1 < 2147483648 := mm_ok_at hr (i := 1) rfl
  have f0 : mm_fr [(66, 0)] [] h h := mm_fr_rf
  have g1 : 0 ≤ h.1 66 23 ∧ h.1 66 23 ≤ 40 := i0.1 66 23
  refine mm_aload_n C (mm_dec dk_X12_isRunner 0 rfl) rfl ?_
  refine mm_iconst C (mm_dec dk_X12_isRunner 1 rfl) ⟨by decide, by decide⟩ ?_
  refine mm_puti C fl_X12_188 (mm_dec dk_X12_isRunner 2 rfl) rfl rfl rfl (Or.inl ⟨rfl, rfl⟩) ?_
  have i1 : mm_inv (mm_pf h 66 0 0) := mm_inv_pf i0 (show -2147483648 ≤ 0 ∧ 0 ≤ 2147483647 from ⟨by omega, by omega⟩) (by decide)
  have f1 : mm_fr [(66, 0)] [] h (mm_pf h 66 0 0) := mm_fr_pf f0 (by decide)
  obtain ⟨h1, eh1⟩ : ∃ z, z = mm_pf h 66 0 0 := ⟨_, rfl⟩
  rw [← eh1] at i1 f1 ⊢
  have qh1 : h1.1 66 0 = 0 := by rw [eh1]; exact mm_pf_same _ _ _ _
  have qh1_2 : h1.1 66 23 = h.1 66 23 := by rw [eh1]; exact mm_pf_ne _ _ (by decide)
  refine mm_aload_n C (mm_dec dk_X12_isRunner 3 rfl) rfl ?_
  refine mm_iload_n C (mm_dec dk_X12_isRunner 4 rfl) rfl ?_
  refine mm_if_lt (tgt := 22) C (mm_dec dk_X12_isRunner 5 rfl) (by decide) (fun c7 => ?_) (fun c7 => ?_)
  · skip
    refine mm_iconst C (mm_dec dk_X12_isRunner 12 rfl) ⟨by decide, by decide⟩ ?_
    refine mm_iconst C (mm_dec dk_X12_isRunner 13 rfl) ⟨by decide, by decide⟩ ?_
    refine mm_cVi (rest := []) C1 ev_X12_251 (mm_dec dk_X12_isRunner 14 rfl) (c_X12_right x.2.1 hl (d - 1) (by omega) h1 i1 0 1 ⟨by omega, by omega⟩ (by omega)) rfl rfl (Nat.le_of_ble_eq_true rfl) ⟨by decide, by decide⟩ rfl (fun r24 h24c hp24 => ?_) (fun _ _ q => q.elim)
    obtain ⟨b24, i24c, g24c, y24_0⟩ := hp24
    have f24c : mm_fr [(66, 0)] [] h h24c := mm_fr_tr f1 g24c (by decide +kernel)
    have q24c_4 : h24c.1 66 23 = h1.1 66 23 := g24c.1 66 23 (by decide)
    exact mm_zret C T (mm_dec dk_X12_isRunner 15 rfl) (by decide : 0 ≤ 0) (by decide : 0 ≤ 0) (by omega) ⟨_, rfl, ⟨⟨by omega, by omega⟩, i24c, f24c, by omega⟩⟩
  · skip
    refine mm_iload_n C (mm_dec dk_X12_isRunner 6 rfl) rfl ?_
    refine mm_aload_n C (mm_dec dk_X12_isRunner 7 rfl) rfl ?_
    refine mm_geti C fl_X12_222 (mm_dec dk_X12_isRunner 8 rfl) rfl rfl (Or.inl rfl) ?_
    refine mm_icmp_ge (tgt := 22) C (mm_dec dk_X12_isRunner 9 rfl) (by decide) (fun c15 => ?_) (fun c15 => ?_)
    · skip
      refine mm_iconst C (mm_dec dk_X12_isRunner 12 rfl) ⟨by decide, by decide⟩ ?_
      refine mm_iconst C (mm_dec dk_X12_isRunner 13 rfl) ⟨by decide, by decide⟩ ?_
      refine mm_cVi (rest := []) C1 ev_X12_251 (mm_dec dk_X12_isRunner 14 rfl) (c_X12_right x.2.1 hl (d - 1) (by omega) h1 i1 0 1 ⟨by omega, by omega⟩ (by omega)) rfl rfl (Nat.le_of_ble_eq_true rfl) ⟨by decide, by decide⟩ rfl (fun r24 h24c hp24 => ?_) (fun _ _ q => q.elim)
      obtain ⟨b24, i24c, g24c, y24_0⟩ := hp24
      have f24c : mm_fr [(66, 0)] [] h h24c := mm_fr_tr f1 g24c (by decide +kernel)
      have q24c_6 : h24c.1 66 23 = h1.1 66 23 := g24c.1 66 23 (by decide)
      exact mm_zret C T (mm_dec dk_X12_isRunner 15 rfl) (by decide : 0 ≤ 0) (by decide : 0 ≤ 0) (by omega) ⟨_, rfl, ⟨⟨by omega, by omega⟩, i24c, f24c, by omega⟩⟩
    · skip
      refine mm_iconst C (mm_dec dk_X12_isRunner 10 rfl) ⟨by decide, by decide⟩ ?_
      refine mm_goto (tgt := 23) C (mm_dec dk_X12_isRunner 11 rfl) (by decide) ?_
      refine mm_iconst C (mm_dec dk_X12_isRunner 13 rfl) ⟨by decide, by decide⟩ ?_
      refine mm_cVi (rest := []) C1 ev_X12_251 (mm_dec dk_X12_isRunner 14 rfl) (c_X12_right x.2.1 hl (d - 1) (by omega) h1 i1 1 1 ⟨by omega, by omega⟩ (by omega)) rfl rfl (Nat.le_of_ble_eq_true rfl) ⟨by decide, by decide⟩ rfl (fun r24 h24c hp24 => ?_) (fun _ _ q => q.elim)
      obtain ⟨b24, i24c, g24c, y24_0⟩ := hp24
      have f24c : mm_fr [(66, 0)] [] h h24c := mm_fr_tr f1 g24c (by decide +kernel)
      have q24c_8 : h24c.1 66 23 = h1.1 66 23 := g24c.1 66 23 (by decide)
      exact mm_zret C T (mm_dec dk_X12_isRunner 15 rfl) (by decide : 0 ≤ 0) (by decide : 0 ≤ 0) (by omega) ⟨_, rfl, ⟨⟨by omega, by omega⟩, i24c, f24c, by omega⟩⟩
set_option maxRecDepth 100000 in
set_option maxHeartbeats 4000000 in
theorem c_X12_digit (l : Launch) (hl : l.stackTraces = false) (d : Nat) (hd : 0 ≤ d) (h : mH) (i0 : mm_inv h) (p0 : Int) (p1 : Int) (bp0 : 0 ≤ p0 ∧ p0 ≤ 80) : mm_Met l d yX12_digit cX12_digit 4 (some .int) [mI p0, mI p1] h (mm_pi fun r h2 => (0 ≤ r ∧ r ≤ 2) ∧ h2 = h) mm_nx 0 0 := by
  refine mm_ofW (ls := [mI p0, mI p1, mU, mU]) hl (by decide) rfl (Nat.le_of_ble_eq_true rfl) ?_
  intro x hxl C T hnm htb
  subst hxl
  refine mm_rng (fun hr _ => ?_)
  have ap0 : -2147483648 ≤ p0 ∧ p0 < 2147483648 := mm_ok_at hr (i := 0) rfl
  have ap1 : -2147483648 ≤ p1 ∧ p1 < 2147483648 := mm_ok_at hr (i := 1) rfl
  have f0 : mm_fr [] [] h h := mm_fr_rf
  refine mm_iload_n C (mm_dec dk_X12_digit 0 rfl) rfl ?_
  refine mm_istore_nL (ls2 := [mI p0, mI p1, mI p0, mU]) C (mm_dec dk_X12_digit 1 rfl) (by decide) rfl ?_
  refine mm_iconst C (mm_dec dk_X12_digit 2 rfl) ⟨by decide, by decide⟩ ?_
  have J4 : ∀ (n : Nat) (x4_2 : Int) (bx4_2 : 0 ≤ x4_2 ∧ x4_2 ≤ 80) (x4_3 : Int) (bx4_3 : 0 ≤ x4_3 ∧ x4_3 ≤ 2147483647), (2147483647 - x4_3 : Int) < n → mm_W x 0 0 4 [mU, mI p1, mI x4_2, mI x4_3] [] h := by
    intro n
    induction n with
    | zero =>
      intro x4_2 bx4_2 x4_3 bx4_3 hm
      exfalso; omega
    | succ n ih4 =>
      intro x4_2 bx4_2 x4_3 bx4_3 hm4
      refine mm_iload_n C (mm_dec dk_X12_digit 4 rfl) rfl ?_
      refine mm_iload_n C (mm_dec dk_X12_digit 5 rfl) rfl ?_
      refine mm_icmp_ge (tgt := 19) C (mm_dec dk_X12_digit 6 rfl) (by decide) (fun c6 => ?_) (fun c6 => ?_)
      · skip
        refine mm_iload_n C (mm_dec dk_X12_digit 13 rfl) rfl ?_
        refine mm_iconst C (mm_dec dk_X12_digit 14 rfl) ⟨by decide, by decide⟩ ?_
        refine mm_irem C (mm_dec dk_X12_digit 15 rfl) (by omega) (by omega) ?_
        exact mm_iret C T (mm_dec dk_X12_digit 16 rfl) (by decide : 0 ≤ 0) (by decide : 0 ≤ 0) ⟨_, rfl, ⟨⟨by omega, by omega⟩, rfl⟩⟩
      · skip
        refine mm_iload_n C (mm_dec dk_X12_digit 7 rfl) rfl ?_
        refine mm_iconst C (mm_dec dk_X12_digit 8 rfl) ⟨by decide, by decide⟩ ?_
        refine mm_idiv C (mm_dec dk_X12_digit 9 rfl) ⟨by omega, by omega⟩ (by omega) ?_
        refine mm_istore_nL (ls2 := [mU, mI p1, mI (x4_2 / 3), mI x4_3]) C (mm_dec dk_X12_digit 10 rfl) (by decide) rfl ?_
        refine mm_iincL (ls2 := [mU, mI p1, mI (x4_2 / 3), mI (x4_3 + 1)]) C (mm_dec dk_X12_digit 11 rfl) rfl (by decide) ⟨by omega, by omega⟩ rfl ?_
        refine mm_goto (tgt := 4) C (mm_dec dk_X12_digit 12 rfl) (by decide) ?_
        exact ih4 (x4_2 / 3) ⟨by omega, by omega⟩ (x4_3 + 1) ⟨by omega, by omega⟩ (by omega)
  refine mm_istore_nL (ls2 := [mI p0, mI p1, mI p0, mI 0]) C (mm_dec dk_X12_digit 3 rfl) (by decide) rfl ?_
  refine mm_fgt 0 ?_
  exact J4 (((2147483647 - 0) : Int) + 1).toNat p0 ⟨by omega, by omega⟩ 0 ⟨by omega, by omega⟩ (by omega)
set_option maxRecDepth 100000 in
set_option maxHeartbeats 4000000 in
theorem c_X12_rows (l : Launch) (hl : l.stackTraces = false) (d : Nat) (hd : 1 ≤ d) (h : mH) (i0 : mm_inv h) (p1 : Int) (bp1 : 0 ≤ p1 ∧ p1 ≤ 39) : mm_Met l d yX12_rows cX12_rows 6 none [mR 66, mI p1] h (mm_pv fun h2 => mm_inv h2 ∧ mm_fr [(66, 39)] [91] h h2) mm_nx 0 0 := by
  refine mm_ofW (ls := [mR 66, mI p1, mU, mU, mU, mU]) hl (by decide) rfl (Nat.le_of_ble_eq_true rfl) ?_
  intro x hxl C T hnm htb
  subst hxl
  have C1 := mm_OK_le (d' := d - 1 + 1) (by omega) C
  refine mm_rng (fun hr _ => ?_)
  have ap1 : -2147483648 ≤ p1 ∧ p1 < 2147483648 := mm_ok_at hr (i := 1) rfl
  have f0 : mm_fr [(66, 39)] [91] h h := mm_fr_rf
  refine mm_aload_n C (mm_dec dk_X12_rows 0 rfl) rfl ?_
  refine mm_getr (t := 85) C fl_X12_66 (mm_dec dk_X12_rows 1 rfl) rfl rfl (mm_ref i0 rfl) ?_
  refine mm_iload_n C (mm_dec dk_X12_rows 2 rfl) rfl ?_
  refine mm_iald C (mm_dec dk_X12_rows 3 rfl) rfl (by omega) (by omega) ?_
  have g1 : 0 ≤ (h.2.1 85 p1) ∧ (h.2.1 85 p1) ≤ 7 := i0.2.1 85 p1
  refine mm_istore_nL (ls2 := [mR 66, mI p1, mI (h.2.1 85 p1), mU, mU, mU]) C (mm_dec dk_X12_rows 4 rfl) (by decide) rfl ?_
  refine mm_iconst C (mm_dec dk_X12_rows 5 rfl) ⟨by decide, by decide⟩ ?_
  refine mm_istore_nL (ls2 := [mR 66, mI p1, mI (h.2.1 85 p1), mI 0, mU, mU]) C (mm_dec dk_X12_rows 6 rfl) (by decide) rfl ?_
  refine mm_aload_n C (mm_dec dk_X12_rows 7 rfl) rfl ?_
  refine mm_aload_n C (mm_dec dk_X12_rows 8 rfl) rfl ?_
  refine mm_getr (t := 80) C fl_X12_51 (mm_dec dk_X12_rows 9 rfl) rfl rfl (mm_ref i0 rfl) ?_
  refine mm_iload_n C (mm_dec dk_X12_rows 10 rfl) rfl ?_
  refine mm_iald C (mm_dec dk_X12_rows 11 rfl) rfl (by omega) (by omega) ?_
  have g2 : 0 ≤ (h.2.1 80 (h.2.1 85 p1)) ∧ (h.2.1 80 (h.2.1 85 p1)) ≤ 12 := i0.2.1 80 (h.2.1 85 p1)
  refine mm_puti C fl_X12_296 (mm_dec dk_X12_rows 12 rfl) rfl rfl rfl (Or.inl ⟨rfl, rfl⟩) ?_
  have i1 : mm_inv (mm_pf h 66 39 (h.2.1 80 (h.2.1 85 p1))) := mm_inv_pf i0 (show 0 ≤ (h.2.1 80 (h.2.1 85 p1)) ∧ (h.2.1 80 (h.2.1 85 p1)) ≤ 12 from ⟨by omega, by omega⟩) (by decide)
  have f1 : mm_fr [(66, 39)] [91] h (mm_pf h 66 39 (h.2.1 80 (h.2.1 85 p1))) := mm_fr_pf f0 (by decide)
  obtain ⟨h1, eh1⟩ : ∃ z, z = mm_pf h 66 39 (h.2.1 80 (h.2.1 85 p1)) := ⟨_, rfl⟩
  rw [← eh1] at i1 f1 ⊢
  have qh1 : h1.1 66 39 = (h.2.1 80 (h.2.1 85 p1)) := by rw [eh1]; exact mm_pf_same _ _ _ _
  refine mm_iconst C (mm_dec dk_X12_rows 13 rfl) ⟨by decide, by decide⟩ ?_
  have J22 : ∀ (n : Nat) (x22_3 : Int) (bx22_3 : -2147483648 ≤ x22_3 ∧ x22_3 ≤ 2147483647) (x22_4 : Int) (bx22_4 : 0 ≤ x22_4 ∧ x22_4 ≤ 12) (h22_ : mH) (i22_ : mm_inv h22_) (f22_ : mm_fr [(66, 39)] [91] h h22_), (12 - x22_4 : Int) < n → mm_W x 0 0 22 [mR 66, mI p1, mI (h.2.1 85 p1), mI x22_3, mI x22_4, mU] [] h22_ := by
    intro n
    induction n with
    | zero =>
      intro x22_3 bx22_3 x22_4 bx22_4 h22_ i22_ f22_ hm
      exfalso; omega
    | succ n ih22 =>
      intro x22_3 bx22_3 x22_4 bx22_4 h22_ i22_ f22_ hm22
      refine mm_iload C (mm_dec dk_X12_rows 15 rfl) rfl ?_
      refine mm_aload_n C (mm_dec dk_X12_rows 16 rfl) rfl ?_
      refine mm_geti C fl_X12_296 (mm_dec dk_X12_rows 17 rfl) rfl rfl (Or.inl rfl) ?_
      have g3 : 0 ≤ (h22_.1 66 39) ∧ (h22_.1 66 39) ≤ 12 := i22_.1 66 39
      refine mm_icmp_ge (tgt := 100) C (mm_dec dk_X12_rows 18 rfl) (by decide) (fun c28 => ?_) (fun c28 => ?_)
      · skip
        exact mm_vret C T (mm_dec dk_X12_rows 57 rfl) (by decide : 0 ≤ 0) (by decide : 0 ≤ 0) ⟨rfl, ⟨i22_, f22_⟩⟩
      · skip
        refine mm_bipush C (mm_dec dk_X12_rows 19 rfl) ⟨by decide, by decide⟩ ?_
        refine mm_iload_n C (mm_dec dk_X12_rows 20 rfl) rfl ?_
        refine mm_imul C (mm_dec dk_X12_rows 21 rfl) ⟨by omega, by omega⟩ ?_
        refine mm_iload C (mm_dec dk_X12_rows 22 rfl) rfl ?_
        refine mm_iadd C (mm_dec dk_X12_rows 23 rfl) ⟨by omega, by omega⟩ ?_
        refine mm_istoreL (ls2 := [mR 66, mI p1, mI (h.2.1 85 p1), mI x22_3, mI x22_4, mI ((12 * (h.2.1 85 p1)) + x22_4)]) C (mm_dec dk_X12_rows 24 rfl) (by decide) rfl ?_
        refine mm_aload_n C (mm_dec dk_X12_rows 25 rfl) rfl ?_
        refine mm_getr (t := 91) C fl_X12_84 (mm_dec dk_X12_rows 26 rfl) rfl rfl (mm_ref i22_ rfl) ?_
        refine mm_iload C (mm_dec dk_X12_rows 27 rfl) rfl ?_
        refine mm_aload_n C (mm_dec dk_X12_rows 28 rfl) rfl ?_
        refine mm_getr (t := 82) C fl_X12_57 (mm_dec dk_X12_rows 29 rfl) rfl rfl (mm_ref i22_ rfl) ?_
        refine mm_iconst C (mm_dec dk_X12_rows 30 rfl) ⟨by decide, by decide⟩ ?_
        refine mm_iload C (mm_dec dk_X12_rows 31 rfl) rfl ?_
        refine mm_imul C (mm_dec dk_X12_rows 32 rfl) ⟨by omega, by omega⟩ ?_
        refine mm_aload_n C (mm_dec dk_X12_rows 33 rfl) rfl ?_
        refine mm_getr (t := 84) C fl_X12_63 (mm_dec dk_X12_rows 34 rfl) rfl rfl (mm_ref i22_ rfl) ?_
        refine mm_iload C (mm_dec dk_X12_rows 35 rfl) rfl ?_
        refine mm_zald C (mm_dec dk_X12_rows 36 rfl) rfl (by omega) (by omega) ?_
        have g4 : 0 ≤ (h22_.2.1 84 ((12 * (h.2.1 85 p1)) + x22_4)) ∧ (h22_.2.1 84 ((12 * (h.2.1 85 p1)) + x22_4)) ≤ 1 := i22_.2.1 84 ((12 * (h.2.1 85 p1)) + x22_4)
        have J78 : ∀ (s78_4 : Int) (bs78_4 : 0 ≤ s78_4 ∧ s78_4 ≤ 2), mm_W x 0 0 78 [mR 66, mI p1, mI (h.2.1 85 p1), mI x22_3, mI x22_4, mI ((12 * (h.2.1 85 p1)) + x22_4)] [mI s78_4, mI (3 * ((12 * (h.2.1 85 p1)) + x22_4)), mR 82, mI x22_4, mR 91] h22_ := by
          intro s78_4 bs78_4
          refine mm_iadd C (mm_dec dk_X12_rows 46 rfl) ⟨by omega, by omega⟩ ?_
          refine mm_iald C (mm_dec dk_X12_rows 47 rfl) rfl (by omega) (by omega) ?_
          have g5 : 0 ≤ (h22_.2.1 82 ((3 * ((12 * (h.2.1 85 p1)) + x22_4)) + s78_4)) ∧ (h22_.2.1 82 ((3 * ((12 * (h.2.1 85 p1)) + x22_4)) + s78_4)) ≤ 19 := i22_.2.1 82 ((3 * ((12 * (h.2.1 85 p1)) + x22_4)) + s78_4)
          refine mm_iast C (mm_dec dk_X12_rows 48 rfl) rfl (by omega) (by omega) ?_
          have i2 : mm_inv (mm_pa h22_ 91 x22_4 (h22_.2.1 82 ((3 * ((12 * (h.2.1 85 p1)) + x22_4)) + s78_4))) := mm_inv_pa i22_ (show 0 ≤ (h22_.2.1 82 ((3 * ((12 * (h.2.1 85 p1)) + x22_4)) + s78_4)) ∧ (h22_.2.1 82 ((3 * ((12 * (h.2.1 85 p1)) + x22_4)) + s78_4)) ≤ 19 from ⟨by omega, by omega⟩)
          have f2 : mm_fr [(66, 39)] [91] h (mm_pa h22_ 91 x22_4 (h22_.2.1 82 ((3 * ((12 * (h.2.1 85 p1)) + x22_4)) + s78_4))) := mm_fr_pa f22_ (by decide)
          obtain ⟨h2, eh2⟩ : ∃ z, z = mm_pa h22_ 91 x22_4 (h22_.2.1 82 ((3 * ((12 * (h.2.1 85 p1)) + x22_4)) + s78_4)) := ⟨_, rfl⟩
          rw [← eh2] at i2 f2 ⊢
          have qh2_6 : h2.1 66 39 = h22_.1 66 39 := by rw [eh2]; rfl
          refine mm_aload_n C (mm_dec dk_X12_rows 49 rfl) rfl ?_
          refine mm_getr (t := 84) C fl_X12_63 (mm_dec dk_X12_rows 50 rfl) rfl rfl (mm_ref i2 rfl) ?_
          refine mm_iload C (mm_dec dk_X12_rows 51 rfl) rfl ?_
          refine mm_zald C (mm_dec dk_X12_rows 52 rfl) rfl (by omega) (by omega) ?_
          have g7 : 0 ≤ (h2.2.1 84 ((12 * (h.2.1 85 p1)) + x22_4)) ∧ (h2.2.1 84 ((12 * (h.2.1 85 p1)) + x22_4)) ≤ 1 := i2.2.1 84 ((12 * (h.2.1 85 p1)) + x22_4)
          have J94 : ∀ (x94_3 : Int) (bx94_3 : -2147483648 ≤ x94_3 ∧ x94_3 ≤ 2147483647), mm_W x 0 0 94 [mR 66, mI p1, mI (h.2.1 85 p1), mI x94_3, mI x22_4, mU] [] h2 := by
            intro x94_3 bx94_3
            refine mm_iincL (ls2 := [mR 66, mI p1, mI (h.2.1 85 p1), mI x94_3, mI (x22_4 + 1), mU]) C (mm_dec dk_X12_rows 55 rfl) rfl (by decide) ⟨by omega, by omega⟩ rfl ?_
            refine mm_goto (tgt := 22) C (mm_dec dk_X12_rows 56 rfl) (by decide) ?_
            exact ih22 x94_3 ⟨by omega, by omega⟩ (x22_4 + 1) ⟨by omega, by omega⟩ h2 i2 f2 (by omega)
          refine mm_if_eq (tgt := 94) C (mm_dec dk_X12_rows 53 rfl) (by decide) (fun c88 => ?_) (fun c88 => ?_)
          · skip
            refine mm_fgt 5 ?_
            exact J94 x22_3 ⟨by omega, by omega⟩
          · skip
            refine mm_iincwL (ls2 := [mR 66, mI p1, mI (h.2.1 85 p1), mI (mm_w (x22_3 + 1)), mI x22_4, mI ((12 * (h.2.1 85 p1)) + x22_4)]) C (mm_dec dk_X12_rows 54 rfl) rfl (by decide) rfl ?_
            have g8 : -2147483648 ≤ (mm_w (x22_3 + 1)) ∧ (mm_w (x22_3 + 1)) < 2147483648 := mm_w_rg _
            refine mm_fgt 5 ?_
            exact J94 (mm_w (x22_3 + 1)) ⟨by omega, by omega⟩
        refine mm_if_eq (tgt := 77) C (mm_dec dk_X12_rows 37 rfl) (by decide) (fun c61 => ?_) (fun c61 => ?_)
        · skip
          refine mm_iconst C (mm_dec dk_X12_rows 45 rfl) ⟨by decide, by decide⟩ ?_
          exact J78 0 ⟨by omega, by omega⟩
        · skip
          refine mm_aload_n C (mm_dec dk_X12_rows 38 rfl) rfl ?_
          refine mm_getr (t := 87) C fl_X12_72 (mm_dec dk_X12_rows 39 rfl) rfl rfl (mm_ref i22_ rfl) ?_
          refine mm_iload_n C (mm_dec dk_X12_rows 40 rfl) rfl ?_
          refine mm_iald C (mm_dec dk_X12_rows 41 rfl) rfl (by omega) (by omega) ?_
          have g9 : 0 ≤ (h22_.2.1 87 p1) ∧ (h22_.2.1 87 p1) ≤ 80 := i22_.2.1 87 p1
          refine mm_iload_n C (mm_dec dk_X12_rows 42 rfl) rfl ?_
          refine mm_cSi (rest := [mI (3 * ((12 * (h.2.1 85 p1)) + x22_4)), mR 82, mI x22_4, mR 91]) C1 es_X12_299 (mm_dec dk_X12_rows 43 rfl) (c_X12_digit x.2.1 hl (d - 1) (by omega) h22_ i22_ (h22_.2.1 87 p1) x22_3 ⟨by omega, by omega⟩) rfl (Nat.le_of_ble_eq_true rfl) ⟨by decide, by decide⟩ rfl (fun r71 h71c hp71 => ?_) (fun _ _ q => q.elim)
          obtain ⟨b71, z71⟩ := hp71
          rw [z71]
          refine mm_goto (tgt := 78) C (mm_dec dk_X12_rows 44 rfl) (by decide) ?_
          exact J78 r71 ⟨by omega, by omega⟩
  refine mm_istoreL (ls2 := [mR 66, mI p1, mI (h.2.1 85 p1), mI 0, mI 0, mU]) C (mm_dec dk_X12_rows 14 rfl) (by decide) rfl ?_
  exact J22 (((12 - 0) : Int) + 1).toNat 0 ⟨by omega, by omega⟩ 0 ⟨by omega, by omega⟩ h1 i1 f1 (by omega)
set_option maxRecDepth 100000 in
set_option maxHeartbeats 4000000 in
theorem c_X12_team (l : Launch) (hl : l.stackTraces = false) (d : Nat) (hd : 2 ≤ d) (h : mH) (i0 : mm_inv h) (p1 : Int) (p2 : Int) (p3 : Int) : mm_Met l d yX12_team cX12_team 6 (some .int) [mR 66, mI p1, mI p2, mI p3] h (mm_pi fun r h2 => (-1 ≤ r ∧ r ≤ 9) ∧ mm_inv h2 ∧ mm_fr [(66, 0), (66, 24)] [88, 89, 90] h h2) mm_nx 0 0 := by
  refine mm_ofW (ls := [mR 66, mI p1, mI p2, mI p3, mU, mU]) hl (by decide) rfl (Nat.le_of_ble_eq_true rfl) ?_
  intro x hxl C T hnm htb
  subst hxl
  have C1 := mm_OK_le (d' := d - 1 + 1) (by omega) C
  refine mm_rng (fun hr _ => ?_)
  have ap1 : -2147483648 ≤ p1 ∧ p1 < 2147483648 := mm_ok_at hr (i := 1) rfl
  have ap2 : -2147483648 ≤ p2 ∧ p2 < 2147483648 := mm_ok_at hr (i := 2) rfl
  have ap3 : -2147483648 ≤ p3 ∧ p3 < 2147483648 := mm_ok_at hr (i := 3) rfl
  have f0 : mm_fr [(66, 0), (66, 24)] [88, 89, 90] h h := mm_fr_rf
  have g1 : 0 ≤ h.1 66 24 ∧ h.1 66 24 ≤ 10 := i0.1 66 24
  refine mm_aload_n C (mm_dec dk_X12_team 0 rfl) rfl ?_
  refine mm_iload_n C (mm_dec dk_X12_team 1 rfl) rfl ?_
  refine mm_cVi (rest := []) C1 ev_X12_308 (mm_dec dk_X12_team 2 rfl) (c_X12_isRunner x.2.1 hl (d - 1) (by omega) h i0 p1) rfl rfl (Nat.le_of_ble_eq_true rfl) ⟨by decide, by decide⟩ rfl (fun r2 h2c hp2 => ?_) (fun _ _ q => q.elim)
  obtain ⟨b2, i2c, g2c, y2_0⟩ := hp2
  have f2c : mm_fr [(66, 0), (66, 24)] [88, 89, 90] h h2c := mm_fr_tr f0 g2c (by decide +kernel)
  have q2c_3 : h2c.1 66 24 = h.1 66 24 := g2c.1 66 24 (by decide)
  have g4 : 0 ≤ (h2c.1 66 23) ∧ (h2c.1 66 23) ≤ 40 := i2c.1 66 23
  have J45 : ∀ (h45_ : mH) (i45_ : mm_inv h45_) (f45_ : mm_fr [(66, 0), (66, 24)] [88, 89, 90] h h45_), mm_W x 0 0 45 [mU, mU, mU, mU, mU, mU] [] h45_ := by
    intro h45_ i45_ f45_
    have g5 : 0 ≤ h45_.1 66 24 ∧ h45_.1 66 24 ≤ 10 := i45_.1 66 24
    refine mm_iconst C (mm_dec dk_X12_team 23 rfl) ⟨by decide, by decide⟩ ?_
    exact mm_iret C T (mm_dec dk_X12_team 24 rfl) (by decide : 0 ≤ 0) (by decide : 0 ≤ 0) ⟨_, rfl, ⟨⟨by omega, by omega⟩, i45_, f45_⟩⟩
  refine mm_if_eq (tgt := 45) C (mm_dec dk_X12_team 3 rfl) (by decide) (fun c5 => ?_) (fun c5 => ?_)
  · skip
    refine mm_fgt 0 ?_
    refine mm_fgt 1 ?_
    refine mm_fgt 2 ?_
    refine mm_fgt 3 ?_
    exact J45 h2c i2c f2c
  · skip
    refine mm_aload_n C (mm_dec dk_X12_team 4 rfl) rfl ?_
    refine mm_iload_n C (mm_dec dk_X12_team 5 rfl) rfl ?_
    have J38 : ∀ (s38_1 : Int) (bs38_1 : 0 ≤ s38_1 ∧ s38_1 ≤ 1) (vs38_1 : (s38_1 = 0) ∨ (0 ≤ p2 ∧ p2 < (h2c.1 66 23) ∧ 0 ≤ p3 ∧ p3 < (h2c.1 66 23) ∧ s38_1 = 1)), mm_W x 0 0 38 [mR 66, mI p1, mI p2, mI p3, mU, mU] [mI s38_1, mR 66] h2c := by
      intro s38_1 bs38_1 vs38_1
      refine mm_iconst C (mm_dec dk_X12_team 20 rfl) ⟨by decide, by decide⟩ ?_
      refine mm_cVi (rest := []) C1 ev_X12_251 (mm_dec dk_X12_team 21 rfl) (c_X12_right x.2.1 hl (d - 1) (by omega) h2c i2c s38_1 1 ⟨by omega, by omega⟩ (by omega)) rfl rfl (Nat.le_of_ble_eq_true rfl) ⟨by decide, by decide⟩ rfl (fun r39 h39c hp39 => ?_) (fun _ _ q => q.elim)
      obtain ⟨b39, i39c, g39c, y39_0⟩ := hp39
      have f39c : mm_fr [(66, 0), (66, 24)] [88, 89, 90] h h39c := mm_fr_tr f2c g39c (by decide +kernel)
      have q39c_7 : h39c.1 66 23 = h2c.1 66 23 := g39c.1 66 23 (by decide)
      have q39c_8 : h39c.1 66 24 = h2c.1 66 24 := g39c.1 66 24 (by decide)
      refine mm_if_ne (tgt := 47) C (mm_dec dk_X12_team 22 rfl) (by decide) (fun c42 => ?_) (fun c42 => ?_)
      · skip
        refine mm_iload_n C (mm_dec dk_X12_team 25 rfl) rfl ?_
        refine mm_iload_n C (mm_dec dk_X12_team 26 rfl) rfl ?_
        have J111 : ∀ (s111_0 : Int) (bs111_0 : 0 ≤ s111_0 ∧ s111_0 ≤ 1) (vs111_0 : (s111_0 = 0) ∨ (p1 ≠ p2 ∧ p2 ≠ p3 ∧ p1 ≠ p3 ∧ (h39c.2.1 85 p1) = (h39c.2.1 85 p2) ∧ (h39c.2.1 85 p2) = (h39c.2.1 85 p3) ∧ (h39c.2.1 83 (h39c.2.1 85 p1)) = 0 ∧ s111_0 = 1)), mm_W x 0 0 111 [mR 66, mI p1, mI p2, mI p3, mU, mU] [mI s111_0] h39c := by
          intro s111_0 bs111_0 vs111_0
          refine mm_istoreL (ls2 := [mR 66, mI p1, mI p2, mI p3, mI s111_0, mU]) C (mm_dec dk_X12_team 63 rfl) (by decide) rfl ?_
          refine mm_iload C (mm_dec dk_X12_team 64 rfl) rfl ?_
          have J153 : ∀ (s153_0 : Int) (bs153_0 : 0 ≤ s153_0 ∧ s153_0 ≤ 1) (vs153_0 : (s153_0 = 0) ∨ (s111_0 ≠ 0 ∧ (h39c.2.1 88 p1) = (-1) ∧ (h39c.2.1 88 p2) = (-1) ∧ (h39c.2.1 88 p3) = (-1) ∧ s153_0 = 1)), mm_W x 0 0 153 [mR 66, mI p1, mI p2, mI p3, mU, mU] [mI s153_0] h39c := by
            intro s153_0 bs153_0 vs153_0
            refine mm_istoreL (ls2 := [mR 66, mI p1, mI p2, mI p3, mI s153_0, mU]) C (mm_dec dk_X12_team 87 rfl) (by decide) rfl ?_
            refine mm_iconst C (mm_dec dk_X12_team 88 rfl) ⟨by decide, by decide⟩ ?_
            have J158 : ∀ (n : Nat) (x158_4 : Int) (bx158_4 : 0 ≤ x158_4 ∧ x158_4 ≤ 1) (x158_5 : Int) (bx158_5 : 0 ≤ x158_5 ∧ x158_5 ≤ 2147483647), (2147483647 - x158_5 : Int) < n → mm_W x 0 0 158 [mR 66, mI p1, mI p2, mI p3, mI x158_4, mI x158_5] [] h39c := by
              intro n
              induction n with
              | zero =>
                intro x158_4 bx158_4 x158_5 bx158_5 hm
                exfalso; omega
              | succ n ih158 =>
                intro x158_4 bx158_4 x158_5 bx158_5 hm158
                refine mm_iload C (mm_dec dk_X12_team 90 rfl) rfl ?_
                refine mm_aload_n C (mm_dec dk_X12_team 91 rfl) rfl ?_
                refine mm_getr (t := 81) C fl_X12_54 (mm_dec dk_X12_team 92 rfl) rfl rfl (mm_ref i39c rfl) ?_
                refine mm_aload_n C (mm_dec dk_X12_team 93 rfl) rfl ?_
                refine mm_getr (t := 85) C fl_X12_66 (mm_dec dk_X12_team 94 rfl) rfl rfl (mm_ref i39c rfl) ?_
                refine mm_iload_n C (mm_dec dk_X12_team 95 rfl) rfl ?_
                refine mm_iald C (mm_dec dk_X12_team 96 rfl) rfl (by omega) (by omega) ?_
                have g9 : 0 ≤ (h39c.2.1 85 p1) ∧ (h39c.2.1 85 p1) ≤ 7 := i39c.2.1 85 p1
                refine mm_iald C (mm_dec dk_X12_team 97 rfl) rfl (by omega) (by omega) ?_
                have g10 : -2147483648 ≤ (h39c.2.1 81 (h39c.2.1 85 p1)) ∧ (h39c.2.1 81 (h39c.2.1 85 p1)) ≤ 2147483647 := i39c.2.1 81 (h39c.2.1 85 p1)
                have J267 : mm_W x 0 0 267 [mR 66, mI p1, mI p2, mI p3, mI x158_4, mU] [] h39c := by
                  refine mm_iload C (mm_dec dk_X12_team 146 rfl) rfl ?_
                  have J281 : mm_W x 0 0 281 [mU, mU, mU, mU, mU, mU] [] h39c := by
                    refine mm_iconst C (mm_dec dk_X12_team 152 rfl) ⟨by decide, by decide⟩ ?_
                    exact mm_iret C T (mm_dec dk_X12_team 153 rfl) (by decide : 0 ≤ 0) (by decide : 0 ≤ 0) ⟨_, rfl, ⟨⟨by omega, by omega⟩, i39c, f39c⟩⟩
                  refine mm_if_eq (tgt := 281) C (mm_dec dk_X12_team 147 rfl) (by decide) (fun c269 => ?_) (fun c269 => ?_)
                  · skip
                    refine mm_fgt 0 ?_
                    refine mm_fgt 1 ?_
                    refine mm_fgt 2 ?_
                    refine mm_fgt 3 ?_
                    refine mm_fgt 4 ?_
                    exact J281
                  · skip
                    refine mm_aload_n C (mm_dec dk_X12_team 148 rfl) rfl ?_
                    refine mm_geti C fl_X12_225 (mm_dec dk_X12_team 149 rfl) rfl rfl (Or.inl rfl) ?_
                    refine mm_bipush C (mm_dec dk_X12_team 150 rfl) ⟨by decide, by decide⟩ ?_
                    refine mm_icmp_ne (tgt := 283) C (mm_dec dk_X12_team 151 rfl) (by decide) (fun c278 => ?_) (fun c278 => ?_)
                    · skip
                      refine mm_aload_n C (mm_dec dk_X12_team 154 rfl) rfl ?_
                      refine mm_getr (t := 90) C fl_X12_81 (mm_dec dk_X12_team 155 rfl) rfl rfl (mm_ref i39c rfl) ?_
                      refine mm_iconst C (mm_dec dk_X12_team 156 rfl) ⟨by decide, by decide⟩ ?_
                      refine mm_aload_n C (mm_dec dk_X12_team 157 rfl) rfl ?_
                      refine mm_geti C fl_X12_225 (mm_dec dk_X12_team 158 rfl) rfl rfl (Or.inl rfl) ?_
                      refine mm_imul C (mm_dec dk_X12_team 159 rfl) ⟨by omega, by omega⟩ ?_
                      refine mm_iload_n C (mm_dec dk_X12_team 160 rfl) rfl ?_
                      refine mm_iast C (mm_dec dk_X12_team 161 rfl) rfl (by omega) (by omega) ?_
                      have i3 : mm_inv (mm_pa h39c 90 (3 * (h39c.1 66 24)) p1) := mm_inv_pa i39c (show 0 ≤ p1 ∧ p1 ≤ 39 from ⟨by omega, by omega⟩)
                      have f3 : mm_fr [(66, 0), (66, 24)] [88, 89, 90] h (mm_pa h39c 90 (3 * (h39c.1 66 24)) p1) := mm_fr_pa f39c (by decide)
                      obtain ⟨h3, eh3⟩ : ∃ z, z = mm_pa h39c 90 (3 * (h39c.1 66 24)) p1 := ⟨_, rfl⟩
                      rw [← eh3] at i3 f3 ⊢
                      have qh3_11 : h3.1 66 23 = h39c.1 66 23 := by rw [eh3]; rfl
                      have qh3_12 : h3.1 66 24 = h39c.1 66 24 := by rw [eh3]; rfl
                      refine mm_aload_n C (mm_dec dk_X12_team 162 rfl) rfl ?_
                      refine mm_getr (t := 90) C fl_X12_81 (mm_dec dk_X12_team 163 rfl) rfl rfl (mm_ref i3 rfl) ?_
                      refine mm_iconst C (mm_dec dk_X12_team 164 rfl) ⟨by decide, by decide⟩ ?_
                      refine mm_aload_n C (mm_dec dk_X12_team 165 rfl) rfl ?_
                      refine mm_geti C fl_X12_225 (mm_dec dk_X12_team 166 rfl) rfl rfl (Or.inl rfl) ?_
                      refine mm_imul C (mm_dec dk_X12_team 167 rfl) ⟨by omega, by omega⟩ ?_
                      refine mm_iconst C (mm_dec dk_X12_team 168 rfl) ⟨by decide, by decide⟩ ?_
                      refine mm_iadd C (mm_dec dk_X12_team 169 rfl) ⟨by omega, by omega⟩ ?_
                      refine mm_iload_n C (mm_dec dk_X12_team 170 rfl) rfl ?_
                      refine mm_iast C (mm_dec dk_X12_team 171 rfl) rfl (by omega) (by omega) ?_
                      have i4 : mm_inv (mm_pa h3 90 ((3 * (h3.1 66 24)) + 1) p2) := mm_inv_pa i3 (show 0 ≤ p2 ∧ p2 ≤ 39 from ⟨by omega, by omega⟩)
                      have f4 : mm_fr [(66, 0), (66, 24)] [88, 89, 90] h (mm_pa h3 90 ((3 * (h3.1 66 24)) + 1) p2) := mm_fr_pa f3 (by decide)
                      obtain ⟨h4, eh4⟩ : ∃ z, z = mm_pa h3 90 ((3 * (h3.1 66 24)) + 1) p2 := ⟨_, rfl⟩
                      rw [← eh4] at i4 f4 ⊢
                      have qh4_13 : h4.1 66 23 = h3.1 66 23 := by rw [eh4]; rfl
                      have qh4_14 : h4.1 66 24 = h3.1 66 24 := by rw [eh4]; rfl
                      refine mm_aload_n C (mm_dec dk_X12_team 172 rfl) rfl ?_
                      refine mm_getr (t := 90) C fl_X12_81 (mm_dec dk_X12_team 173 rfl) rfl rfl (mm_ref i4 rfl) ?_
                      refine mm_iconst C (mm_dec dk_X12_team 174 rfl) ⟨by decide, by decide⟩ ?_
                      refine mm_aload_n C (mm_dec dk_X12_team 175 rfl) rfl ?_
                      refine mm_geti C fl_X12_225 (mm_dec dk_X12_team 176 rfl) rfl rfl (Or.inl rfl) ?_
                      refine mm_imul C (mm_dec dk_X12_team 177 rfl) ⟨by omega, by omega⟩ ?_
                      refine mm_iconst C (mm_dec dk_X12_team 178 rfl) ⟨by decide, by decide⟩ ?_
                      refine mm_iadd C (mm_dec dk_X12_team 179 rfl) ⟨by omega, by omega⟩ ?_
                      refine mm_iload_n C (mm_dec dk_X12_team 180 rfl) rfl ?_
                      refine mm_iast C (mm_dec dk_X12_team 181 rfl) rfl (by omega) (by omega) ?_
                      have i5 : mm_inv (mm_pa h4 90 ((3 * (h4.1 66 24)) + 2) p3) := mm_inv_pa i4 (show 0 ≤ p3 ∧ p3 ≤ 39 from ⟨by omega, by omega⟩)
                      have f5 : mm_fr [(66, 0), (66, 24)] [88, 89, 90] h (mm_pa h4 90 ((3 * (h4.1 66 24)) + 2) p3) := mm_fr_pa f4 (by decide)
                      obtain ⟨h5, eh5⟩ : ∃ z, z = mm_pa h4 90 ((3 * (h4.1 66 24)) + 2) p3 := ⟨_, rfl⟩
                      rw [← eh5] at i5 f5 ⊢
                      have qh5_15 : h5.1 66 23 = h4.1 66 23 := by rw [eh5]; rfl
                      have qh5_16 : h5.1 66 24 = h4.1 66 24 := by rw [eh5]; rfl
                      refine mm_iconst C (mm_dec dk_X12_team 182 rfl) ⟨by decide, by decide⟩ ?_
                      have J326 : ∀ (n : Nat) (x326_5 : Int) (bx326_5 : 0 ≤ x326_5 ∧ x326_5 ≤ 3) (h326_ : mH) (i326_ : mm_inv h326_) (f326_ : mm_fr [(66, 0), (66, 24)] [88, 89, 90] h h326_) (w326_0 : h326_.1 66 24 ≤ 9), (3 - x326_5 : Int) < n → mm_W x 0 0 326 [mR 66, mU, mU, mU, mU, mI x326_5] [] h326_ := by
                        intro n
                        induction n with
                        | zero =>
                          intro x326_5 bx326_5 h326_ i326_ f326_ w326_0 hm
                          have g17 : 0 ≤ h326_.1 66 24 ∧ h326_.1 66 24 ≤ 10 := i326_.1 66 24
                          exfalso; omega
                        | succ n ih326 =>
                          intro x326_5 bx326_5 h326_ i326_ f326_ w326_0 hm326
                          have g18 : 0 ≤ h326_.1 66 24 ∧ h326_.1 66 24 ≤ 10 := i326_.1 66 24
                          refine mm_iload C (mm_dec dk_X12_team 184 rfl) rfl ?_
                          refine mm_iconst C (mm_dec dk_X12_team 185 rfl) ⟨by decide, by decide⟩ ?_
                          refine mm_icmp_ge (tgt := 382) C (mm_dec dk_X12_team 186 rfl) (by decide) (fun c329 => ?_) (fun c329 => ?_)
                          · skip
                            refine mm_aload_n C (mm_dec dk_X12_team 216 rfl) rfl ?_
                            refine mm_dup C (mm_dec dk_X12_team 217 rfl) (show (2 : Nat) ≠ 1 by decide) ?_
                            refine mm_geti C fl_X12_225 (mm_dec dk_X12_team 218 rfl) rfl rfl (Or.inl rfl) ?_
                            refine mm_iconst C (mm_dec dk_X12_team 219 rfl) ⟨by decide, by decide⟩ ?_
                            refine mm_iadd C (mm_dec dk_X12_team 220 rfl) ⟨by omega, by omega⟩ ?_
                            refine mm_puti C fl_X12_225 (mm_dec dk_X12_team 221 rfl) rfl rfl rfl (Or.inl ⟨rfl, rfl⟩) ?_
                            have i6 : mm_inv (mm_pf h326_ 66 24 ((h326_.1 66 24) + 1)) := mm_inv_pf i326_ (show 0 ≤ ((h326_.1 66 24) + 1) ∧ ((h326_.1 66 24) + 1) ≤ 10 from ⟨by omega, by omega⟩) (by decide)
                            have f6 : mm_fr [(66, 0), (66, 24)] [88, 89, 90] h (mm_pf h326_ 66 24 ((h326_.1 66 24) + 1)) := mm_fr_pf f326_ (by decide)
                            obtain ⟨h6, eh6⟩ : ∃ z, z = mm_pf h326_ 66 24 ((h326_.1 66 24) + 1) := ⟨_, rfl⟩
                            rw [← eh6] at i6 f6 ⊢
                            have qh6 : h6.1 66 24 = ((h326_.1 66 24) + 1) := by rw [eh6]; exact mm_pf_same _ _ _ _
                            refine mm_aload_n C (mm_dec dk_X12_team 222 rfl) rfl ?_
                            refine mm_geti C fl_X12_225 (mm_dec dk_X12_team 223 rfl) rfl rfl (Or.inl rfl) ?_
                            refine mm_iconst C (mm_dec dk_X12_team 224 rfl) ⟨by decide, by decide⟩ ?_
                            refine mm_isub C (mm_dec dk_X12_team 225 rfl) ⟨by omega, by omega⟩ ?_
                            exact mm_iret C T (mm_dec dk_X12_team 226 rfl) (by decide : 0 ≤ 0) (by decide : 0 ≤ 0) ⟨_, rfl, ⟨⟨by omega, by omega⟩, i6, f6⟩⟩
                          · skip
                            refine mm_aload_n C (mm_dec dk_X12_team 187 rfl) rfl ?_
                            refine mm_getr (t := 88) C fl_X12_75 (mm_dec dk_X12_team 188 rfl) rfl rfl (mm_ref i326_ rfl) ?_
                            refine mm_aload_n C (mm_dec dk_X12_team 189 rfl) rfl ?_
                            refine mm_getr (t := 90) C fl_X12_81 (mm_dec dk_X12_team 190 rfl) rfl rfl (mm_ref i326_ rfl) ?_
                            refine mm_iconst C (mm_dec dk_X12_team 191 rfl) ⟨by decide, by decide⟩ ?_
                            refine mm_aload_n C (mm_dec dk_X12_team 192 rfl) rfl ?_
                            refine mm_geti C fl_X12_225 (mm_dec dk_X12_team 193 rfl) rfl rfl (Or.inl rfl) ?_
                            refine mm_imul C (mm_dec dk_X12_team 194 rfl) ⟨by omega, by omega⟩ ?_
                            refine mm_iload C (mm_dec dk_X12_team 195 rfl) rfl ?_
                            refine mm_iadd C (mm_dec dk_X12_team 196 rfl) ⟨by omega, by omega⟩ ?_
                            refine mm_iald C (mm_dec dk_X12_team 197 rfl) rfl (by omega) (by omega) ?_
                            have g19 : 0 ≤ (h326_.2.1 90 ((3 * (h326_.1 66 24)) + x326_5)) ∧ (h326_.2.1 90 ((3 * (h326_.1 66 24)) + x326_5)) ≤ 39 := i326_.2.1 90 ((3 * (h326_.1 66 24)) + x326_5)
                            refine mm_aload_n C (mm_dec dk_X12_team 198 rfl) rfl ?_
                            refine mm_geti C fl_X12_225 (mm_dec dk_X12_team 199 rfl) rfl rfl (Or.inl rfl) ?_
                            refine mm_iast C (mm_dec dk_X12_team 200 rfl) rfl (by omega) (by omega) ?_
                            have i7 : mm_inv (mm_pa h326_ 88 (h326_.2.1 90 ((3 * (h326_.1 66 24)) + x326_5)) (h326_.1 66 24)) := mm_inv_pa i326_ (show -1 ≤ (h326_.1 66 24) ∧ (h326_.1 66 24) ≤ 9 from ⟨by omega, by omega⟩)
                            have f7 : mm_fr [(66, 0), (66, 24)] [88, 89, 90] h (mm_pa h326_ 88 (h326_.2.1 90 ((3 * (h326_.1 66 24)) + x326_5)) (h326_.1 66 24)) := mm_fr_pa f326_ (by decide)
                            obtain ⟨h7, eh7⟩ : ∃ z, z = mm_pa h326_ 88 (h326_.2.1 90 ((3 * (h326_.1 66 24)) + x326_5)) (h326_.1 66 24) := ⟨_, rfl⟩
                            rw [← eh7] at i7 f7 ⊢
                            have qh7_20 : h7.1 66 24 = h326_.1 66 24 := by rw [eh7]; rfl
                            refine mm_aload_n C (mm_dec dk_X12_team 201 rfl) rfl ?_
                            refine mm_getr (t := 89) C fl_X12_78 (mm_dec dk_X12_team 202 rfl) rfl rfl (mm_ref i7 rfl) ?_
                            refine mm_aload_n C (mm_dec dk_X12_team 203 rfl) rfl ?_
                            refine mm_getr (t := 90) C fl_X12_81 (mm_dec dk_X12_team 204 rfl) rfl rfl (mm_ref i7 rfl) ?_
                            refine mm_iconst C (mm_dec dk_X12_team 205 rfl) ⟨by decide, by decide⟩ ?_
                            refine mm_aload_n C (mm_dec dk_X12_team 206 rfl) rfl ?_
                            refine mm_geti C fl_X12_225 (mm_dec dk_X12_team 207 rfl) rfl rfl (Or.inl rfl) ?_
                            refine mm_imul C (mm_dec dk_X12_team 208 rfl) ⟨by omega, by omega⟩ ?_
                            refine mm_iload C (mm_dec dk_X12_team 209 rfl) rfl ?_
                            refine mm_iadd C (mm_dec dk_X12_team 210 rfl) ⟨by omega, by omega⟩ ?_
                            refine mm_iald C (mm_dec dk_X12_team 211 rfl) rfl (by omega) (by omega) ?_
                            have g21 : 0 ≤ (h7.2.1 90 ((3 * (h7.1 66 24)) + x326_5)) ∧ (h7.2.1 90 ((3 * (h7.1 66 24)) + x326_5)) ≤ 39 := i7.2.1 90 ((3 * (h7.1 66 24)) + x326_5)
                            refine mm_iload C (mm_dec dk_X12_team 212 rfl) rfl ?_
                            refine mm_iast C (mm_dec dk_X12_team 213 rfl) rfl (by omega) (by omega) ?_
                            have i8 : mm_inv (mm_pa h7 89 (h7.2.1 90 ((3 * (h7.1 66 24)) + x326_5)) x326_5) := mm_inv_pa i7 (show 0 ≤ x326_5 ∧ x326_5 ≤ 2 from ⟨by omega, by omega⟩)
                            have f8 : mm_fr [(66, 0), (66, 24)] [88, 89, 90] h (mm_pa h7 89 (h7.2.1 90 ((3 * (h7.1 66 24)) + x326_5)) x326_5) := mm_fr_pa f7 (by decide)
                            obtain ⟨h8, eh8⟩ : ∃ z, z = mm_pa h7 89 (h7.2.1 90 ((3 * (h7.1 66 24)) + x326_5)) x326_5 := ⟨_, rfl⟩
                            rw [← eh8] at i8 f8 ⊢
                            have qh8_22 : h8.1 66 24 = h7.1 66 24 := by rw [eh8]; rfl
                            refine mm_iincL (ls2 := [mR 66, mU, mU, mU, mU, mI (x326_5 + 1)]) C (mm_dec dk_X12_team 214 rfl) rfl (by decide) ⟨by omega, by omega⟩ rfl ?_
                            refine mm_goto (tgt := 326) C (mm_dec dk_X12_team 215 rfl) (by decide) ?_
                            exact ih326 (x326_5 + 1) ⟨by omega, by omega⟩ h8 i8 f8 (by omega) (by omega)
                      refine mm_istoreL (ls2 := [mR 66, mI p1, mI p2, mI p3, mI x158_4, mI 0]) C (mm_dec dk_X12_team 183 rfl) (by decide) rfl ?_
                      refine mm_fgt 1 ?_
                      refine mm_fgt 2 ?_
                      refine mm_fgt 3 ?_
                      refine mm_fgt 4 ?_
                      exact J326 (((3 - 0) : Int) + 1).toNat 0 ⟨by omega, by omega⟩ h5 i5 f5 (by omega) (by omega)
                    · skip
                      refine mm_fgt 0 ?_
                      refine mm_fgt 1 ?_
                      refine mm_fgt 2 ?_
                      refine mm_fgt 3 ?_
                      refine mm_fgt 4 ?_
                      exact J281
                refine mm_icmp_ge (tgt := 267) C (mm_dec dk_X12_team 98 rfl) (by decide) (fun c171 => ?_) (fun c171 => ?_)
                · skip
                  refine mm_fgt 5 ?_
                  exact J267
                · skip
                  refine mm_iload C (mm_dec dk_X12_team 99 rfl) rfl ?_
                  refine mm_if_eq (tgt := 267) C (mm_dec dk_X12_team 100 rfl) (by decide) (fun c176 => ?_) (fun c176 => ?_)
                  · skip
                    refine mm_fgt 5 ?_
                    exact J267
                  · skip
                    refine mm_aload_n C (mm_dec dk_X12_team 101 rfl) rfl ?_
                    refine mm_getr (t := 87) C fl_X12_72 (mm_dec dk_X12_team 102 rfl) rfl rfl (mm_ref i39c rfl) ?_
                    refine mm_iload_n C (mm_dec dk_X12_team 103 rfl) rfl ?_
                    refine mm_iald C (mm_dec dk_X12_team 104 rfl) rfl (by omega) (by omega) ?_
                    have g23 : 0 ≤ (h39c.2.1 87 p1) ∧ (h39c.2.1 87 p1) ≤ 80 := i39c.2.1 87 p1
                    refine mm_iload C (mm_dec dk_X12_team 105 rfl) rfl ?_
                    refine mm_cSi (rest := []) C1 es_X12_299 (mm_dec dk_X12_team 106 rfl) (c_X12_digit x.2.1 hl (d - 1) (by omega) h39c i39c (h39c.2.1 87 p1) x158_5 ⟨by omega, by omega⟩) rfl (Nat.le_of_ble_eq_true rfl) ⟨by decide, by decide⟩ rfl (fun r187 h187c hp187 => ?_) (fun _ _ q => q.elim)
                    obtain ⟨b187, z187⟩ := hp187
                    rw [z187]
                    refine mm_aload_n C (mm_dec dk_X12_team 107 rfl) rfl ?_
                    refine mm_getr (t := 87) C fl_X12_72 (mm_dec dk_X12_team 108 rfl) rfl rfl (mm_ref i39c rfl) ?_
                    refine mm_iload_n C (mm_dec dk_X12_team 109 rfl) rfl ?_
                    refine mm_iald C (mm_dec dk_X12_team 110 rfl) rfl (by omega) (by omega) ?_
                    have g25 : 0 ≤ (h39c.2.1 87 p2) ∧ (h39c.2.1 87 p2) ≤ 80 := i39c.2.1 87 p2
                    refine mm_iload C (mm_dec dk_X12_team 111 rfl) rfl ?_
                    refine mm_cSi (rest := [mI r187]) C1 es_X12_299 (mm_dec dk_X12_team 112 rfl) (c_X12_digit x.2.1 hl (d - 1) (by omega) h39c i39c (h39c.2.1 87 p2) x158_5 ⟨by omega, by omega⟩) rfl (Nat.le_of_ble_eq_true rfl) ⟨by decide, by decide⟩ rfl (fun r198 h198c hp198 => ?_) (fun _ _ q => q.elim)
                    obtain ⟨b198, z198⟩ := hp198
                    rw [z198]
                    have J259 : ∀ (s259_0 : Int) (bs259_0 : 0 ≤ s259_0 ∧ s259_0 ≤ 1) (vs259_0 : (s259_0 = 0) ∨ (r187 ≠ r198 ∧ s259_0 = 1)), mm_W x 0 0 259 [mR 66, mI p1, mI p2, mI p3, mU, mI x158_5] [mI s259_0] h39c := by
                      intro s259_0 bs259_0 vs259_0
                      refine mm_istoreL (ls2 := [mR 66, mI p1, mI p2, mI p3, mI s259_0, mI x158_5]) C (mm_dec dk_X12_team 143 rfl) (by decide) rfl ?_
                      refine mm_iincL (ls2 := [mR 66, mI p1, mI p2, mI p3, mI s259_0, mI (x158_5 + 1)]) C (mm_dec dk_X12_team 144 rfl) rfl (by decide) ⟨by omega, by omega⟩ rfl ?_
                      refine mm_goto (tgt := 158) C (mm_dec dk_X12_team 145 rfl) (by decide) ?_
                      exact ih158 s259_0 ⟨by omega, by omega⟩ (x158_5 + 1) ⟨by omega, by omega⟩ (by omega)
                    have J258 : mm_W x 0 0 258 [mR 66, mI p1, mI p2, mI p3, mU, mI x158_5] [] h39c := by
                      refine mm_iconst C (mm_dec dk_X12_team 142 rfl) ⟨by decide, by decide⟩ ?_
                      exact J259 0 ⟨by omega, by omega⟩ (Or.inl rfl)
                    refine mm_icmp_eq (tgt := 258) C (mm_dec dk_X12_team 113 rfl) (by decide) (fun c201 => ?_) (fun c201 => ?_)
                    · skip
                      refine mm_fgt 4 ?_
                      exact J258
                    · skip
                      refine mm_aload_n C (mm_dec dk_X12_team 114 rfl) rfl ?_
                      refine mm_getr (t := 87) C fl_X12_72 (mm_dec dk_X12_team 115 rfl) rfl rfl (mm_ref i39c rfl) ?_
                      refine mm_iload_n C (mm_dec dk_X12_team 116 rfl) rfl ?_
                      refine mm_iald C (mm_dec dk_X12_team 117 rfl) rfl (by omega) (by omega) ?_
                      refine mm_iload C (mm_dec dk_X12_team 118 rfl) rfl ?_
                      refine mm_cSi (rest := []) C1 es_X12_299 (mm_dec dk_X12_team 119 rfl) (c_X12_digit x.2.1 hl (d - 1) (by omega) h39c i39c (h39c.2.1 87 p2) x158_5 ⟨by omega, by omega⟩) rfl (Nat.le_of_ble_eq_true rfl) ⟨by decide, by decide⟩ rfl (fun r212 h212c hp212 => ?_) (fun _ _ q => q.elim)
                      obtain ⟨b212, z212⟩ := hp212
                      rw [z212]
                      refine mm_aload_n C (mm_dec dk_X12_team 120 rfl) rfl ?_
                      refine mm_getr (t := 87) C fl_X12_72 (mm_dec dk_X12_team 121 rfl) rfl rfl (mm_ref i39c rfl) ?_
                      refine mm_iload_n C (mm_dec dk_X12_team 122 rfl) rfl ?_
                      refine mm_iald C (mm_dec dk_X12_team 123 rfl) rfl (by omega) (by omega) ?_
                      have g28 : 0 ≤ (h39c.2.1 87 p3) ∧ (h39c.2.1 87 p3) ≤ 80 := i39c.2.1 87 p3
                      refine mm_iload C (mm_dec dk_X12_team 124 rfl) rfl ?_
                      refine mm_cSi (rest := [mI r212]) C1 es_X12_299 (mm_dec dk_X12_team 125 rfl) (c_X12_digit x.2.1 hl (d - 1) (by omega) h39c i39c (h39c.2.1 87 p3) x158_5 ⟨by omega, by omega⟩) rfl (Nat.le_of_ble_eq_true rfl) ⟨by decide, by decide⟩ rfl (fun r223 h223c hp223 => ?_) (fun _ _ q => q.elim)
                      obtain ⟨b223, z223⟩ := hp223
                      rw [z223]
                      refine mm_icmp_eq (tgt := 258) C (mm_dec dk_X12_team 126 rfl) (by decide) (fun c226 => ?_) (fun c226 => ?_)
                      · skip
                        refine mm_fgt 4 ?_
                        exact J258
                      · skip
                        refine mm_aload_n C (mm_dec dk_X12_team 127 rfl) rfl ?_
                        refine mm_getr (t := 87) C fl_X12_72 (mm_dec dk_X12_team 128 rfl) rfl rfl (mm_ref i39c rfl) ?_
                        refine mm_iload_n C (mm_dec dk_X12_team 129 rfl) rfl ?_
                        refine mm_iald C (mm_dec dk_X12_team 130 rfl) rfl (by omega) (by omega) ?_
                        refine mm_iload C (mm_dec dk_X12_team 131 rfl) rfl ?_
                        refine mm_cSi (rest := []) C1 es_X12_299 (mm_dec dk_X12_team 132 rfl) (c_X12_digit x.2.1 hl (d - 1) (by omega) h39c i39c (h39c.2.1 87 p1) x158_5 ⟨by omega, by omega⟩) rfl (Nat.le_of_ble_eq_true rfl) ⟨by decide, by decide⟩ rfl (fun r237 h237c hp237 => ?_) (fun _ _ q => q.elim)
                        obtain ⟨b237, z237⟩ := hp237
                        rw [z237]
                        refine mm_aload_n C (mm_dec dk_X12_team 133 rfl) rfl ?_
                        refine mm_getr (t := 87) C fl_X12_72 (mm_dec dk_X12_team 134 rfl) rfl rfl (mm_ref i39c rfl) ?_
                        refine mm_iload_n C (mm_dec dk_X12_team 135 rfl) rfl ?_
                        refine mm_iald C (mm_dec dk_X12_team 136 rfl) rfl (by omega) (by omega) ?_
                        refine mm_iload C (mm_dec dk_X12_team 137 rfl) rfl ?_
                        refine mm_cSi (rest := [mI r237]) C1 es_X12_299 (mm_dec dk_X12_team 138 rfl) (c_X12_digit x.2.1 hl (d - 1) (by omega) h39c i39c (h39c.2.1 87 p3) x158_5 ⟨by omega, by omega⟩) rfl (Nat.le_of_ble_eq_true rfl) ⟨by decide, by decide⟩ rfl (fun r248 h248c hp248 => ?_) (fun _ _ q => q.elim)
                        obtain ⟨b248, z248⟩ := hp248
                        rw [z248]
                        refine mm_icmp_eq (tgt := 258) C (mm_dec dk_X12_team 139 rfl) (by decide) (fun c251 => ?_) (fun c251 => ?_)
                        · skip
                          refine mm_fgt 4 ?_
                          exact J258
                        · skip
                          refine mm_iconst C (mm_dec dk_X12_team 140 rfl) ⟨by decide, by decide⟩ ?_
                          refine mm_goto (tgt := 259) C (mm_dec dk_X12_team 141 rfl) (by decide) ?_
                          refine mm_fgt 4 ?_
                          exact J259 1 ⟨by omega, by omega⟩ (Or.inr (⟨by omega, rfl⟩))
            refine mm_istoreL (ls2 := [mR 66, mI p1, mI p2, mI p3, mI s153_0, mI 0]) C (mm_dec dk_X12_team 89 rfl) (by decide) rfl ?_
            exact J158 (((2147483647 - 0) : Int) + 1).toNat s153_0 ⟨by omega, by omega⟩ 0 ⟨by omega, by omega⟩ (by omega)
          have J152 : mm_W x 0 0 152 [mR 66, mI p1, mI p2, mI p3, mU, mU] [] h39c := by
            refine mm_iconst C (mm_dec dk_X12_team 86 rfl) ⟨by decide, by decide⟩ ?_
            exact J153 0 ⟨by omega, by omega⟩ (Or.inl rfl)
          refine mm_if_eq (tgt := 152) C (mm_dec dk_X12_team 65 rfl) (by decide) (fun c115 => ?_) (fun c115 => ?_)
          · skip
            refine mm_fgt 4 ?_
            exact J152
          · skip
            refine mm_aload_n C (mm_dec dk_X12_team 66 rfl) rfl ?_
            refine mm_getr (t := 88) C fl_X12_75 (mm_dec dk_X12_team 67 rfl) rfl rfl (mm_ref i39c rfl) ?_
            refine mm_iload_n C (mm_dec dk_X12_team 68 rfl) rfl ?_
            refine mm_iald C (mm_dec dk_X12_team 69 rfl) rfl (by omega) (by omega) ?_
            have g32 : -1 ≤ (h39c.2.1 88 p1) ∧ (h39c.2.1 88 p1) ≤ 9 := i39c.2.1 88 p1
            refine mm_iconst C (mm_dec dk_X12_team 70 rfl) ⟨by decide, by decide⟩ ?_
            refine mm_icmp_ne (tgt := 152) C (mm_dec dk_X12_team 71 rfl) (by decide) (fun c125 => ?_) (fun c125 => ?_)
            · skip
              refine mm_fgt 4 ?_
              exact J152
            · skip
              refine mm_aload_n C (mm_dec dk_X12_team 72 rfl) rfl ?_
              refine mm_getr (t := 88) C fl_X12_75 (mm_dec dk_X12_team 73 rfl) rfl rfl (mm_ref i39c rfl) ?_
              refine mm_iload_n C (mm_dec dk_X12_team 74 rfl) rfl ?_
              refine mm_iald C (mm_dec dk_X12_team 75 rfl) rfl (by omega) (by omega) ?_
              have g33 : -1 ≤ (h39c.2.1 88 p2) ∧ (h39c.2.1 88 p2) ≤ 9 := i39c.2.1 88 p2
              refine mm_iconst C (mm_dec dk_X12_team 76 rfl) ⟨by decide, by decide⟩ ?_
              refine mm_icmp_ne (tgt := 152) C (mm_dec dk_X12_team 77 rfl) (by decide) (fun c135 => ?_) (fun c135 => ?_)
              · skip
                refine mm_fgt 4 ?_
                exact J152
              · skip
                refine mm_aload_n C (mm_dec dk_X12_team 78 rfl) rfl ?_
                refine mm_getr (t := 88) C fl_X12_75 (mm_dec dk_X12_team 79 rfl) rfl rfl (mm_ref i39c rfl) ?_
                refine mm_iload_n C (mm_dec dk_X12_team 80 rfl) rfl ?_
                refine mm_iald C (mm_dec dk_X12_team 81 rfl) rfl (by omega) (by omega) ?_
                have g34 : -1 ≤ (h39c.2.1 88 p3) ∧ (h39c.2.1 88 p3) ≤ 9 := i39c.2.1 88 p3
                refine mm_iconst C (mm_dec dk_X12_team 82 rfl) ⟨by decide, by decide⟩ ?_
                refine mm_icmp_ne (tgt := 152) C (mm_dec dk_X12_team 83 rfl) (by decide) (fun c145 => ?_) (fun c145 => ?_)
                · skip
                  refine mm_fgt 4 ?_
                  exact J152
                · skip
                  refine mm_iconst C (mm_dec dk_X12_team 84 rfl) ⟨by decide, by decide⟩ ?_
                  refine mm_goto (tgt := 153) C (mm_dec dk_X12_team 85 rfl) (by decide) ?_
                  refine mm_fgt 4 ?_
                  exact J153 1 ⟨by omega, by omega⟩ (Or.inr (⟨by omega, by omega, by omega, by omega, rfl⟩))
        have J110 : mm_W x 0 0 110 [mR 66, mI p1, mI p2, mI p3, mU, mU] [] h39c := by
          refine mm_iconst C (mm_dec dk_X12_team 62 rfl) ⟨by decide, by decide⟩ ?_
          exact J111 0 ⟨by omega, by omega⟩ (Or.inl rfl)
        refine mm_icmp_eq (tgt := 110) C (mm_dec dk_X12_team 27 rfl) (by decide) (fun c49 => ?_) (fun c49 => ?_)
        · skip
          exact J110
        · skip
          refine mm_iload_n C (mm_dec dk_X12_team 28 rfl) rfl ?_
          refine mm_iload_n C (mm_dec dk_X12_team 29 rfl) rfl ?_
          refine mm_icmp_eq (tgt := 110) C (mm_dec dk_X12_team 30 rfl) (by decide) (fun c54 => ?_) (fun c54 => ?_)
          · skip
            exact J110
          · skip
            refine mm_iload_n C (mm_dec dk_X12_team 31 rfl) rfl ?_
            refine mm_iload_n C (mm_dec dk_X12_team 32 rfl) rfl ?_
            refine mm_icmp_eq (tgt := 110) C (mm_dec dk_X12_team 33 rfl) (by decide) (fun c59 => ?_) (fun c59 => ?_)
            · skip
              exact J110
            · skip
              refine mm_aload_n C (mm_dec dk_X12_team 34 rfl) rfl ?_
              refine mm_getr (t := 85) C fl_X12_66 (mm_dec dk_X12_team 35 rfl) rfl rfl (mm_ref i39c rfl) ?_
              refine mm_iload_n C (mm_dec dk_X12_team 36 rfl) rfl ?_
              refine mm_iald C (mm_dec dk_X12_team 37 rfl) rfl (by omega) (by omega) ?_
              have g35 : 0 ≤ (h39c.2.1 85 p1) ∧ (h39c.2.1 85 p1) ≤ 7 := i39c.2.1 85 p1
              refine mm_aload_n C (mm_dec dk_X12_team 38 rfl) rfl ?_
              refine mm_getr (t := 85) C fl_X12_66 (mm_dec dk_X12_team 39 rfl) rfl rfl (mm_ref i39c rfl) ?_
              refine mm_iload_n C (mm_dec dk_X12_team 40 rfl) rfl ?_
              refine mm_iald C (mm_dec dk_X12_team 41 rfl) rfl (by omega) (by omega) ?_
              have g36 : 0 ≤ (h39c.2.1 85 p2) ∧ (h39c.2.1 85 p2) ≤ 7 := i39c.2.1 85 p2
              refine mm_icmp_ne (tgt := 110) C (mm_dec dk_X12_team 42 rfl) (by decide) (fun c74 => ?_) (fun c74 => ?_)
              · skip
                exact J110
              · skip
                refine mm_aload_n C (mm_dec dk_X12_team 43 rfl) rfl ?_
                refine mm_getr (t := 85) C fl_X12_66 (mm_dec dk_X12_team 44 rfl) rfl rfl (mm_ref i39c rfl) ?_
                refine mm_iload_n C (mm_dec dk_X12_team 45 rfl) rfl ?_
                refine mm_iald C (mm_dec dk_X12_team 46 rfl) rfl (by omega) (by omega) ?_
                refine mm_aload_n C (mm_dec dk_X12_team 47 rfl) rfl ?_
                refine mm_getr (t := 85) C fl_X12_66 (mm_dec dk_X12_team 48 rfl) rfl rfl (mm_ref i39c rfl) ?_
                refine mm_iload_n C (mm_dec dk_X12_team 49 rfl) rfl ?_
                refine mm_iald C (mm_dec dk_X12_team 50 rfl) rfl (by omega) (by omega) ?_
                have g37 : 0 ≤ (h39c.2.1 85 p3) ∧ (h39c.2.1 85 p3) ≤ 7 := i39c.2.1 85 p3
                refine mm_icmp_ne (tgt := 110) C (mm_dec dk_X12_team 51 rfl) (by decide) (fun c89 => ?_) (fun c89 => ?_)
                · skip
                  exact J110
                · skip
                  refine mm_aload_n C (mm_dec dk_X12_team 52 rfl) rfl ?_
                  refine mm_getr (t := 83) C fl_X12_60 (mm_dec dk_X12_team 53 rfl) rfl rfl (mm_ref i39c rfl) ?_
                  refine mm_aload_n C (mm_dec dk_X12_team 54 rfl) rfl ?_
                  refine mm_getr (t := 85) C fl_X12_66 (mm_dec dk_X12_team 55 rfl) rfl rfl (mm_ref i39c rfl) ?_
                  refine mm_iload_n C (mm_dec dk_X12_team 56 rfl) rfl ?_
                  refine mm_iald C (mm_dec dk_X12_team 57 rfl) rfl (by omega) (by omega) ?_
                  refine mm_zald C (mm_dec dk_X12_team 58 rfl) rfl (by omega) (by omega) ?_
                  have g38 : 0 ≤ (h39c.2.1 83 (h39c.2.1 85 p1)) ∧ (h39c.2.1 83 (h39c.2.1 85 p1)) ≤ 1 := i39c.2.1 83 (h39c.2.1 85 p1)
                  refine mm_if_ne (tgt := 110) C (mm_dec dk_X12_team 59 rfl) (by decide) (fun c103 => ?_) (fun c103 => ?_)
                  · skip
                    exact J110
                  · skip
                    refine mm_iconst C (mm_dec dk_X12_team 60 rfl) ⟨by decide, by decide⟩ ?_
                    refine mm_goto (tgt := 111) C (mm_dec dk_X12_team 61 rfl) (by decide) ?_
                    exact J111 1 ⟨by omega, by omega⟩ (Or.inr (⟨by omega, by omega, by omega, by omega, by omega, by omega, rfl⟩))
      · skip
        refine mm_fgt 0 ?_
        refine mm_fgt 1 ?_
        refine mm_fgt 2 ?_
        refine mm_fgt 3 ?_
        exact J45 h39c i39c f39c
    have J37 : mm_W x 0 0 37 [mR 66, mI p1, mI p2, mI p3, mU, mU] [mR 66] h2c := by
      refine mm_iconst C (mm_dec dk_X12_team 19 rfl) ⟨by decide, by decide⟩ ?_
      exact J38 0 ⟨by omega, by omega⟩ (Or.inl rfl)
    refine mm_if_lt (tgt := 37) C (mm_dec dk_X12_team 6 rfl) (by decide) (fun c10 => ?_) (fun c10 => ?_)
    · skip
      exact J37
    · skip
      refine mm_iload_n C (mm_dec dk_X12_team 7 rfl) rfl ?_
      refine mm_aload_n C (mm_dec dk_X12_team 8 rfl) rfl ?_
      refine mm_geti C fl_X12_222 (mm_dec dk_X12_team 9 rfl) rfl rfl (Or.inl rfl) ?_
      refine mm_icmp_ge (tgt := 37) C (mm_dec dk_X12_team 10 rfl) (by decide) (fun c18 => ?_) (fun c18 => ?_)
      · skip
        exact J37
      · skip
        refine mm_iload_n C (mm_dec dk_X12_team 11 rfl) rfl ?_
        refine mm_if_lt (tgt := 37) C (mm_dec dk_X12_team 12 rfl) (by decide) (fun c22 => ?_) (fun c22 => ?_)
        · skip
          exact J37
        · skip
          refine mm_iload_n C (mm_dec dk_X12_team 13 rfl) rfl ?_
          refine mm_aload_n C (mm_dec dk_X12_team 14 rfl) rfl ?_
          refine mm_geti C fl_X12_222 (mm_dec dk_X12_team 15 rfl) rfl rfl (Or.inl rfl) ?_
          refine mm_icmp_ge (tgt := 37) C (mm_dec dk_X12_team 16 rfl) (by decide) (fun c30 => ?_) (fun c30 => ?_)
          · skip
            exact J37
          · skip
            refine mm_iconst C (mm_dec dk_X12_team 17 rfl) ⟨by decide, by decide⟩ ?_
            refine mm_goto (tgt := 38) C (mm_dec dk_X12_team 18 rfl) (by decide) ?_
            exact J38 1 ⟨by omega, by omega⟩ (Or.inr (⟨by omega, by omega, by omega, by omega, rfl⟩))
set_option maxRecDepth 100000 in
set_option maxHeartbeats 4000000 in
theorem c_X12_go (l : Launch) (hl : l.stackTraces = false) (d : Nat) (hd : 1 ≤ d) (h : mH) (i0 : mm_inv h) (p1 : Int) : mm_Met l d yX12_go cX12_go 2 (some .int) [mR 66, mI p1] h (mm_pi fun r h2 => (0 ≤ r ∧ r ≤ 99999) ∧ mm_inv h2 ∧ mm_fr [(66, 0), (66, 41)] [] h h2) mm_nx 0 0 := by
  refine mm_ofW (ls := [mR 66, mI p1]) hl (by decide) rfl (Nat.le_of_ble_eq_true rfl) ?_
  intro x hxl C T hnm htb
  subst hxl
  have C1 := mm_OK_le (d' := d - 1 + 1) (by omega) C
  refine mm_rng (fun hr _ => ?_)
  have ap1 : -2147483648 ≤ p1 ∧ p1 < 2147483648 := mm_ok_at hr (i := 1) rfl
  have f0 : mm_fr [(66, 0), (66, 41)] [] h h := mm_fr_rf
  have g1 : 0 ≤ h.1 66 41 ∧ h.1 66 41 ≤ 99999 := i0.1 66 41
  refine mm_aload_n C (mm_dec dk_X12_go 0 rfl) rfl ?_
  refine mm_iconst C (mm_dec dk_X12_go 1 rfl) ⟨by decide, by decide⟩ ?_
  refine mm_puti C fl_X12_188 (mm_dec dk_X12_go 2 rfl) rfl rfl rfl (Or.inl ⟨rfl, rfl⟩) ?_
  have i1 : mm_inv (mm_pf h 66 0 0) := mm_inv_pf i0 (show -2147483648 ≤ 0 ∧ 0 ≤ 2147483647 from ⟨by omega, by omega⟩) (by decide)
  have f1 : mm_fr [(66, 0), (66, 41)] [] h (mm_pf h 66 0 0) := mm_fr_pf f0 (by decide)
  obtain ⟨h1, eh1⟩ : ∃ z, z = mm_pf h 66 0 0 := ⟨_, rfl⟩
  rw [← eh1] at i1 f1 ⊢
  have qh1 : h1.1 66 0 = 0 := by rw [eh1]; exact mm_pf_same _ _ _ _
  have qh1_2 : h1.1 66 41 = h.1 66 41 := by rw [eh1]; exact mm_pf_ne _ _ (by decide)
  refine mm_aload_n C (mm_dec dk_X12_go 3 rfl) rfl ?_
  refine mm_iload_n C (mm_dec dk_X12_go 4 rfl) rfl ?_
  have J34 : ∀ (s34_1 : Int) (bs34_1 : 0 ≤ s34_1 ∧ s34_1 ≤ 1) (vs34_1 : (s34_1 = 0) ∨ (0 ≤ p1 ∧ p1 ≤ 99999 ∧ p1 ≤ (99999 - (h1.1 66 41)) ∧ s34_1 = 1)), mm_W x 0 0 34 [mR 66, mI p1] [mI s34_1, mR 66] h1 := by
    intro s34_1 bs34_1 vs34_1
    refine mm_iconst C (mm_dec dk_X12_go 18 rfl) ⟨by decide, by decide⟩ ?_
    refine mm_cVi (rest := []) C1 ev_X12_251 (mm_dec dk_X12_go 19 rfl) (c_X12_right x.2.1 hl (d - 1) (by omega) h1 i1 s34_1 1 ⟨by omega, by omega⟩ (by omega)) rfl rfl (Nat.le_of_ble_eq_true rfl) ⟨by decide, by decide⟩ rfl (fun r35 h35c hp35 => ?_) (fun _ _ q => q.elim)
    obtain ⟨b35, i35c, g35c, y35_0⟩ := hp35
    have f35c : mm_fr [(66, 0), (66, 41)] [] h h35c := mm_fr_tr f1 g35c (by decide +kernel)
    have q35c_4 : h35c.1 66 41 = h1.1 66 41 := g35c.1 66 41 (by decide)
    refine mm_if_ne (tgt := 43) C (mm_dec dk_X12_go 20 rfl) (by decide) (fun c38 => ?_) (fun c38 => ?_)
    · skip
      refine mm_aload_n C (mm_dec dk_X12_go 23 rfl) rfl ?_
      refine mm_dup C (mm_dec dk_X12_go 24 rfl) (show (2 : Nat) ≠ 1 by decide) ?_
      refine mm_geti C fl_X12_234 (mm_dec dk_X12_go 25 rfl) rfl rfl (Or.inl rfl) ?_
      refine mm_iload_n C (mm_dec dk_X12_go 26 rfl) rfl ?_
      refine mm_iadd C (mm_dec dk_X12_go 27 rfl) ⟨by omega, by omega⟩ ?_
      refine mm_puti C fl_X12_234 (mm_dec dk_X12_go 28 rfl) rfl rfl rfl (Or.inl ⟨rfl, rfl⟩) ?_
      have i3 : mm_inv (mm_pf h35c 66 41 ((h35c.1 66 41) + p1)) := mm_inv_pf i35c (show 0 ≤ ((h35c.1 66 41) + p1) ∧ ((h35c.1 66 41) + p1) ≤ 99999 from ⟨by omega, by omega⟩) (by decide)
      have f3 : mm_fr [(66, 0), (66, 41)] [] h (mm_pf h35c 66 41 ((h35c.1 66 41) + p1)) := mm_fr_pf f35c (by decide)
      obtain ⟨h3, eh3⟩ : ∃ z, z = mm_pf h35c 66 41 ((h35c.1 66 41) + p1) := ⟨_, rfl⟩
      rw [← eh3] at i3 f3 ⊢
      have qh3 : h3.1 66 41 = ((h35c.1 66 41) + p1) := by rw [eh3]; exact mm_pf_same _ _ _ _
      refine mm_aload_n C (mm_dec dk_X12_go 29 rfl) rfl ?_
      refine mm_geti C fl_X12_234 (mm_dec dk_X12_go 30 rfl) rfl rfl (Or.inl rfl) ?_
      exact mm_iret C T (mm_dec dk_X12_go 31 rfl) (by decide : 0 ≤ 0) (by decide : 0 ≤ 0) ⟨_, rfl, ⟨⟨by omega, by omega⟩, i3, f3⟩⟩
    · skip
      refine mm_iconst C (mm_dec dk_X12_go 21 rfl) ⟨by decide, by decide⟩ ?_
      exact mm_iret C T (mm_dec dk_X12_go 22 rfl) (by decide : 0 ≤ 0) (by decide : 0 ≤ 0) ⟨_, rfl, ⟨⟨by omega, by omega⟩, i35c, f35c⟩⟩
  have J33 : mm_W x 0 0 33 [mR 66, mI p1] [mR 66] h1 := by
    refine mm_iconst C (mm_dec dk_X12_go 17 rfl) ⟨by decide, by decide⟩ ?_
    exact J34 0 ⟨by omega, by omega⟩ (Or.inl rfl)
  refine mm_if_lt (tgt := 33) C (mm_dec dk_X12_go 5 rfl) (by decide) (fun c7 => ?_) (fun c7 => ?_)
  · skip
    exact J33
  · skip
    refine mm_iload_n C (mm_dec dk_X12_go 6 rfl) rfl ?_
    refine mm_ldcw (z := 99999) C (mm_dec dk_X12_go 7 rfl) kc_X12_314 (by decide) ?_
    refine mm_icmp_gt (tgt := 33) C (mm_dec dk_X12_go 8 rfl) (by decide) (fun c14 => ?_) (fun c14 => ?_)
    · skip
      exact J33
    · skip
      refine mm_iload_n C (mm_dec dk_X12_go 9 rfl) rfl ?_
      refine mm_ldcw (z := 99999) C (mm_dec dk_X12_go 10 rfl) kc_X12_314 (by decide) ?_
      refine mm_aload_n C (mm_dec dk_X12_go 11 rfl) rfl ?_
      refine mm_geti C fl_X12_234 (mm_dec dk_X12_go 12 rfl) rfl rfl (Or.inl rfl) ?_
      refine mm_isub C (mm_dec dk_X12_go 13 rfl) ⟨by omega, by omega⟩ ?_
      refine mm_icmp_gt (tgt := 33) C (mm_dec dk_X12_go 14 rfl) (by decide) (fun c26 => ?_) (fun c26 => ?_)
      · skip
        exact J33
      · skip
        refine mm_iconst C (mm_dec dk_X12_go 15 rfl) ⟨by decide, by decide⟩ ?_
        refine mm_goto (tgt := 34) C (mm_dec dk_X12_go 16 rfl) (by decide) ?_
        exact J34 1 ⟨by omega, by omega⟩ (Or.inr (⟨by omega, by omega, by omega, rfl⟩))
set_option maxRecDepth 100000 in
set_option maxHeartbeats 4000000 in
theorem c_X12_tells (l : Launch) (hl : l.stackTraces = false) (d : Nat) (hd : 0 ≤ d) (h : mH) (i0 : mm_inv h) (p1 : Int) (p2 : Int) (p3 : Int) (p4 : Int) (bp2 : 0 ≤ p2 ∧ p2 ≤ 39) (u0 : (h.1 66 40) ≤ 499) : mm_Met l d yX12_tells cX12_tells 5 (some .int) [mR 66, mI p1, mI p2, mI p3, mI p4] h (mm_pi fun r h2 => (0 ≤ r ∧ r ≤ 499) ∧ mm_inv h2 ∧ mm_fr [(66, 40)] [92, 93, 94, 95, 96, 97] h h2 ∧ h2.1 66 40 = h.1 66 40 + 1) mm_nx 0 0 := by
  refine mm_ofW (ls := [mR 66, mI p1, mI p2, mI p3, mI p4]) hl (by decide) rfl (Nat.le_of_ble_eq_true rfl) ?_
  intro x hxl C T hnm htb
  subst hxl
  refine mm_rng (fun hr _ => ?_)
  have ap1 : -2147483648 ≤ p1 ∧ p1 < 2147483648 := mm_ok_at hr (i := 1) rfl
  have ap2 : -2147483648 ≤ p2 ∧ p2 < 2147483648 := mm_ok_at hr (i := 2) rfl
  have ap3 : -2147483648 ≤ p3 ∧ p3 < 2147483648 := mm_ok_at hr (i := 3) rfl
  have ap4 : -2147483648 ≤ p4 ∧ p4 < 2147483648 := mm_ok_at hr (i := 4) rfl
  have f0 : mm_fr [(66, 40)] [92, 93, 94, 95, 96, 97] h h := mm_fr_rf
  have g1 : 0 ≤ h.1 66 40 ∧ h.1 66 40 ≤ 500 := i0.1 66 40
  refine mm_aload_n C (mm_dec dk_X12_tells 0 rfl) rfl ?_
  refine mm_getr (t := 92) C fl_X12_87 (mm_dec dk_X12_tells 1 rfl) rfl rfl (mm_ref i0 rfl) ?_
  refine mm_aload_n C (mm_dec dk_X12_tells 2 rfl) rfl ?_
  refine mm_geti C fl_X12_228 (mm_dec dk_X12_tells 3 rfl) rfl rfl (Or.inl rfl) ?_
  refine mm_iload_n C (mm_dec dk_X12_tells 4 rfl) rfl ?_
  refine mm_iast C (mm_dec dk_X12_tells 5 rfl) rfl (by omega) (by omega) ?_
  have i1 : mm_inv (mm_pa h 92 (h.1 66 40) p1) := mm_inv_pa i0 (show -2147483648 ≤ p1 ∧ p1 ≤ 2147483647 from ⟨by omega, by omega⟩)
  have f1 : mm_fr [(66, 40)] [92, 93, 94, 95, 96, 97] h (mm_pa h 92 (h.1 66 40) p1) := mm_fr_pa f0 (by decide)
  obtain ⟨h1, eh1⟩ : ∃ z, z = mm_pa h 92 (h.1 66 40) p1 := ⟨_, rfl⟩
  rw [← eh1] at i1 f1 ⊢
  have qh1_2 : h1.1 66 40 = h.1 66 40 := by rw [eh1]; rfl
  refine mm_aload_n C (mm_dec dk_X12_tells 6 rfl) rfl ?_
  refine mm_getr (t := 93) C fl_X12_90 (mm_dec dk_X12_tells 7 rfl) rfl rfl (mm_ref i1 rfl) ?_
  refine mm_aload_n C (mm_dec dk_X12_tells 8 rfl) rfl ?_
  refine mm_geti C fl_X12_228 (mm_dec dk_X12_tells 9 rfl) rfl rfl (Or.inl rfl) ?_
  refine mm_iload_n C (mm_dec dk_X12_tells 10 rfl) rfl ?_
  refine mm_iast C (mm_dec dk_X12_tells 11 rfl) rfl (by omega) (by omega) ?_
  have i2 : mm_inv (mm_pa h1 93 (h1.1 66 40) p2) := mm_inv_pa i1 (show -2147483648 ≤ p2 ∧ p2 ≤ 2147483647 from ⟨by omega, by omega⟩)
  have f2 : mm_fr [(66, 40)] [92, 93, 94, 95, 96, 97] h (mm_pa h1 93 (h1.1 66 40) p2) := mm_fr_pa f1 (by decide)
  obtain ⟨h2, eh2⟩ : ∃ z, z = mm_pa h1 93 (h1.1 66 40) p2 := ⟨_, rfl⟩
  rw [← eh2] at i2 f2 ⊢
  have qh2_3 : h2.1 66 40 = h1.1 66 40 := by rw [eh2]; rfl
  refine mm_aload_n C (mm_dec dk_X12_tells 12 rfl) rfl ?_
  refine mm_getr (t := 94) C fl_X12_93 (mm_dec dk_X12_tells 13 rfl) rfl rfl (mm_ref i2 rfl) ?_
  refine mm_aload_n C (mm_dec dk_X12_tells 14 rfl) rfl ?_
  refine mm_geti C fl_X12_228 (mm_dec dk_X12_tells 15 rfl) rfl rfl (Or.inl rfl) ?_
  refine mm_iload_n C (mm_dec dk_X12_tells 16 rfl) rfl ?_
  refine mm_iast C (mm_dec dk_X12_tells 17 rfl) rfl (by omega) (by omega) ?_
  have i3 : mm_inv (mm_pa h2 94 (h2.1 66 40) p3) := mm_inv_pa i2 (show -2147483648 ≤ p3 ∧ p3 ≤ 2147483647 from ⟨by omega, by omega⟩)
  have f3 : mm_fr [(66, 40)] [92, 93, 94, 95, 96, 97] h (mm_pa h2 94 (h2.1 66 40) p3) := mm_fr_pa f2 (by decide)
  obtain ⟨h3, eh3⟩ : ∃ z, z = mm_pa h2 94 (h2.1 66 40) p3 := ⟨_, rfl⟩
  rw [← eh3] at i3 f3 ⊢
  have qh3_4 : h3.1 66 40 = h2.1 66 40 := by rw [eh3]; rfl
  refine mm_aload_n C (mm_dec dk_X12_tells 18 rfl) rfl ?_
  refine mm_getr (t := 95) C fl_X12_96 (mm_dec dk_X12_tells 19 rfl) rfl rfl (mm_ref i3 rfl) ?_
  refine mm_aload_n C (mm_dec dk_X12_tells 20 rfl) rfl ?_
  refine mm_geti C fl_X12_228 (mm_dec dk_X12_tells 21 rfl) rfl rfl (Or.inl rfl) ?_
  refine mm_iload C (mm_dec dk_X12_tells 22 rfl) rfl ?_
  refine mm_iast C (mm_dec dk_X12_tells 23 rfl) rfl (by omega) (by omega) ?_
  have i4 : mm_inv (mm_pa h3 95 (h3.1 66 40) p4) := mm_inv_pa i3 (show -2147483648 ≤ p4 ∧ p4 ≤ 2147483647 from ⟨by omega, by omega⟩)
  have f4 : mm_fr [(66, 40)] [92, 93, 94, 95, 96, 97] h (mm_pa h3 95 (h3.1 66 40) p4) := mm_fr_pa f3 (by decide)
  obtain ⟨h4, eh4⟩ : ∃ z, z = mm_pa h3 95 (h3.1 66 40) p4 := ⟨_, rfl⟩
  rw [← eh4] at i4 f4 ⊢
  have qh4_5 : h4.1 66 40 = h3.1 66 40 := by rw [eh4]; rfl
  refine mm_aload_n C (mm_dec dk_X12_tells 24 rfl) rfl ?_
  refine mm_getr (t := 96) C fl_X12_99 (mm_dec dk_X12_tells 25 rfl) rfl rfl (mm_ref i4 rfl) ?_
  refine mm_aload_n C (mm_dec dk_X12_tells 26 rfl) rfl ?_
  refine mm_geti C fl_X12_228 (mm_dec dk_X12_tells 27 rfl) rfl rfl (Or.inl rfl) ?_
  refine mm_aload_n C (mm_dec dk_X12_tells 28 rfl) rfl ?_
  refine mm_geti C fl_X12_234 (mm_dec dk_X12_tells 29 rfl) rfl rfl (Or.inl rfl) ?_
  have g6 : 0 ≤ (h4.1 66 41) ∧ (h4.1 66 41) ≤ 99999 := i4.1 66 41
  refine mm_iast C (mm_dec dk_X12_tells 30 rfl) rfl (by omega) (by omega) ?_
  have i5 : mm_inv (mm_pa h4 96 (h4.1 66 40) (h4.1 66 41)) := mm_inv_pa i4 (show -2147483648 ≤ (h4.1 66 41) ∧ (h4.1 66 41) ≤ 2147483647 from ⟨by omega, by omega⟩)
  have f5 : mm_fr [(66, 40)] [92, 93, 94, 95, 96, 97] h (mm_pa h4 96 (h4.1 66 40) (h4.1 66 41)) := mm_fr_pa f4 (by decide)
  obtain ⟨h5, eh5⟩ : ∃ z, z = mm_pa h4 96 (h4.1 66 40) (h4.1 66 41) := ⟨_, rfl⟩
  rw [← eh5] at i5 f5 ⊢
  have qh5_7 : h5.1 66 40 = h4.1 66 40 := by rw [eh5]; rfl
  have qh5_8 : h5.1 66 41 = h4.1 66 41 := by rw [eh5]; rfl
  refine mm_aload_n C (mm_dec dk_X12_tells 31 rfl) rfl ?_
  refine mm_getr (t := 97) C fl_X12_102 (mm_dec dk_X12_tells 32 rfl) rfl rfl (mm_ref i5 rfl) ?_
  refine mm_aload_n C (mm_dec dk_X12_tells 33 rfl) rfl ?_
  refine mm_geti C fl_X12_228 (mm_dec dk_X12_tells 34 rfl) rfl rfl (Or.inl rfl) ?_
  refine mm_iconst C (mm_dec dk_X12_tells 35 rfl) ⟨by decide, by decide⟩ ?_
  refine mm_iast C (mm_dec dk_X12_tells 36 rfl) rfl (by omega) (by omega) ?_
  have i6 : mm_inv (mm_pa h5 97 (h5.1 66 40) (-1)) := mm_inv_pa i5 (show -2147483648 ≤ (-1) ∧ (-1) ≤ 2147483647 from ⟨by omega, by omega⟩)
  have f6 : mm_fr [(66, 40)] [92, 93, 94, 95, 96, 97] h (mm_pa h5 97 (h5.1 66 40) (-1)) := mm_fr_pa f5 (by decide)
  obtain ⟨h6, eh6⟩ : ∃ z, z = mm_pa h5 97 (h5.1 66 40) (-1) := ⟨_, rfl⟩
  rw [← eh6] at i6 f6 ⊢
  have qh6_9 : h6.1 66 40 = h5.1 66 40 := by rw [eh6]; rfl
  have qh6_10 : h6.1 66 41 = h5.1 66 41 := by rw [eh6]; rfl
  refine mm_aload_n C (mm_dec dk_X12_tells 37 rfl) rfl ?_
  refine mm_dup C (mm_dec dk_X12_tells 38 rfl) (show (2 : Nat) ≠ 1 by decide) ?_
  refine mm_geti C fl_X12_228 (mm_dec dk_X12_tells 39 rfl) rfl rfl (Or.inl rfl) ?_
  refine mm_iconst C (mm_dec dk_X12_tells 40 rfl) ⟨by decide, by decide⟩ ?_
  refine mm_iadd C (mm_dec dk_X12_tells 41 rfl) ⟨by omega, by omega⟩ ?_
  refine mm_puti C fl_X12_228 (mm_dec dk_X12_tells 42 rfl) rfl rfl rfl (Or.inl ⟨rfl, rfl⟩) ?_
  have i7 : mm_inv (mm_pf h6 66 40 ((h6.1 66 40) + 1)) := mm_inv_pf i6 (show 0 ≤ ((h6.1 66 40) + 1) ∧ ((h6.1 66 40) + 1) ≤ 500 from ⟨by omega, by omega⟩) (by decide)
  have f7 : mm_fr [(66, 40)] [92, 93, 94, 95, 96, 97] h (mm_pf h6 66 40 ((h6.1 66 40) + 1)) := mm_fr_pf f6 (by decide)
  obtain ⟨h7, eh7⟩ : ∃ z, z = mm_pf h6 66 40 ((h6.1 66 40) + 1) := ⟨_, rfl⟩
  rw [← eh7] at i7 f7 ⊢
  have qh7 : h7.1 66 40 = ((h6.1 66 40) + 1) := by rw [eh7]; exact mm_pf_same _ _ _ _
  have qh7_11 : h7.1 66 41 = h6.1 66 41 := by rw [eh7]; exact mm_pf_ne _ _ (by decide)
  refine mm_aload_n C (mm_dec dk_X12_tells 43 rfl) rfl ?_
  refine mm_geti C fl_X12_228 (mm_dec dk_X12_tells 44 rfl) rfl rfl (Or.inl rfl) ?_
  refine mm_iconst C (mm_dec dk_X12_tells 45 rfl) ⟨by decide, by decide⟩ ?_
  refine mm_isub C (mm_dec dk_X12_tells 46 rfl) ⟨by omega, by omega⟩ ?_
  exact mm_iret C T (mm_dec dk_X12_tells 47 rfl) (by decide : 0 ≤ 0) (by decide : 0 ≤ 0) ⟨_, rfl, ⟨⟨by omega, by omega⟩, i7, f7, by omega⟩⟩
set_option maxRecDepth 100000 in
set_option maxHeartbeats 4000000 in
theorem c_X12_event (l : Launch) (hl : l.stackTraces = false) (d : Nat) (hd : 2 ≤ d) (h : mH) (i0 : mm_inv h) (p1 : Int) (p2 : Int) (p3 : Int) (p4 : Int) : mm_Met l d yX12_event cX12_event 5 (some .int) [mR 66, mI p1, mI p2, mI p3, mI p4] h (mm_pi fun r h2 => (-1 ≤ r ∧ r ≤ 499) ∧ mm_inv h2 ∧ mm_fr [(66, 0), (66, 40)] [92, 93, 94, 95, 96, 97] h h2) mm_nx 0 0 := by
  refine mm_ofW (ls := [mR 66, mI p1, mI p2, mI p3, mI p4]) hl (by decide) rfl (Nat.le_of_ble_eq_true rfl) ?_
  intro x hxl C T hnm htb
  subst hxl
  have C1 := mm_OK_le (d' := d - 1 + 1) (by omega) C
  refine mm_rng (fun hr _ => ?_)
  have ap1 : -2147483648 ≤ p1 ∧ p1 < 2147483648 := mm_ok_at hr (i := 1) rfl
  have ap2 : -2147483648 ≤ p2 ∧ p2 < 2147483648 := mm_ok_at hr (i := 2) rfl
  have ap3 : -2147483648 ≤ p3 ∧ p3 < 2147483648 := mm_ok_at hr (i := 3) rfl
  have ap4 : -2147483648 ≤ p4 ∧ p4 < 2147483648 := mm_ok_at hr (i := 4) rfl
  have f0 : mm_fr [(66, 0), (66, 40)] [92, 93, 94, 95, 96, 97] h h := mm_fr_rf
  have g1 : 0 ≤ h.1 66 23 ∧ h.1 66 23 ≤ 40 := i0.1 66 23
  have g2 : 0 ≤ h.1 66 21 ∧ h.1 66 21 ≤ 20 := i0.1 66 21
  have g3 : 0 ≤ h.1 66 41 ∧ h.1 66 41 ≤ 99999 := i0.1 66 41
  have g4 : 0 ≤ h.1 66 40 ∧ h.1 66 40 ≤ 500 := i0.1 66 40
  refine mm_aload_n C (mm_dec dk_X12_event 0 rfl) rfl ?_
  refine mm_iconst C (mm_dec dk_X12_event 1 rfl) ⟨by decide, by decide⟩ ?_
  refine mm_puti C fl_X12_188 (mm_dec dk_X12_event 2 rfl) rfl rfl rfl (Or.inl ⟨rfl, rfl⟩) ?_
  have i1 : mm_inv (mm_pf h 66 0 0) := mm_inv_pf i0 (show -2147483648 ≤ 0 ∧ 0 ≤ 2147483647 from ⟨by omega, by omega⟩) (by decide)
  have f1 : mm_fr [(66, 0), (66, 40)] [92, 93, 94, 95, 96, 97] h (mm_pf h 66 0 0) := mm_fr_pf f0 (by decide)
  obtain ⟨h1, eh1⟩ : ∃ z, z = mm_pf h 66 0 0 := ⟨_, rfl⟩
  rw [← eh1] at i1 f1 ⊢
  have qh1 : h1.1 66 0 = 0 := by rw [eh1]; exact mm_pf_same _ _ _ _
  have qh1_5 : h1.1 66 21 = h.1 66 21 := by rw [eh1]; exact mm_pf_ne _ _ (by decide)
  have qh1_6 : h1.1 66 23 = h.1 66 23 := by rw [eh1]; exact mm_pf_ne _ _ (by decide)
  have qh1_7 : h1.1 66 40 = h.1 66 40 := by rw [eh1]; exact mm_pf_ne _ _ (by decide)
  have qh1_8 : h1.1 66 41 = h.1 66 41 := by rw [eh1]; exact mm_pf_ne _ _ (by decide)
  refine mm_aload_n C (mm_dec dk_X12_event 3 rfl) rfl ?_
  refine mm_iload_n C (mm_dec dk_X12_event 4 rfl) rfl ?_
  have J20 : ∀ (s20_1 : Int) (bs20_1 : 0 ≤ s20_1 ∧ s20_1 ≤ 1) (vs20_1 : (s20_1 = 0) ∨ (0 ≤ p1 ∧ p1 ≤ 2 ∧ s20_1 = 1)), mm_W x 0 0 20 [mR 66, mI p1, mI p2, mI p3, mI p4] [mI s20_1, mR 66] h1 := by
    intro s20_1 bs20_1 vs20_1
    refine mm_iconst C (mm_dec dk_X12_event 12 rfl) ⟨by decide, by decide⟩ ?_
    refine mm_cVi (rest := []) C1 ev_X12_251 (mm_dec dk_X12_event 13 rfl) (c_X12_right x.2.1 hl (d - 1) (by omega) h1 i1 s20_1 1 ⟨by omega, by omega⟩ (by omega)) rfl rfl (Nat.le_of_ble_eq_true rfl) ⟨by decide, by decide⟩ rfl (fun r21 h21c hp21 => ?_) (fun _ _ q => q.elim)
    obtain ⟨b21, i21c, g21c, y21_0⟩ := hp21
    have f21c : mm_fr [(66, 0), (66, 40)] [92, 93, 94, 95, 96, 97] h h21c := mm_fr_tr f1 g21c (by decide +kernel)
    have q21c_10 : h21c.1 66 21 = h1.1 66 21 := g21c.1 66 21 (by decide)
    have q21c_11 : h21c.1 66 23 = h1.1 66 23 := g21c.1 66 23 (by decide)
    have q21c_12 : h21c.1 66 40 = h1.1 66 40 := g21c.1 66 40 (by decide)
    have q21c_13 : h21c.1 66 41 = h1.1 66 41 := g21c.1 66 41 (by decide)
    have J65 : ∀ (h65_ : mH) (i65_ : mm_inv h65_) (f65_ : mm_fr [(66, 0), (66, 40)] [92, 93, 94, 95, 96, 97] h h65_), mm_W x 0 0 65 [mU, mU, mU, mU, mU] [] h65_ := by
      intro h65_ i65_ f65_
      have g14 : 0 ≤ h65_.1 66 23 ∧ h65_.1 66 23 ≤ 40 := i65_.1 66 23
      have g15 : 0 ≤ h65_.1 66 21 ∧ h65_.1 66 21 ≤ 20 := i65_.1 66 21
      have g16 : 0 ≤ h65_.1 66 41 ∧ h65_.1 66 41 ≤ 99999 := i65_.1 66 41
      have g17 : 0 ≤ h65_.1 66 40 ∧ h65_.1 66 40 ≤ 500 := i65_.1 66 40
      have g18 : h65_.1 66 23 = h.1 66 23 := f65_.1 66 23 (by decide)
      have g19 : h65_.1 66 21 = h.1 66 21 := f65_.1 66 21 (by decide)
      have g20 : h65_.1 66 41 = h.1 66 41 := f65_.1 66 41 (by decide)
      refine mm_iconst C (mm_dec dk_X12_event 35 rfl) ⟨by decide, by decide⟩ ?_
      exact mm_iret C T (mm_dec dk_X12_event 36 rfl) (by decide : 0 ≤ 0) (by decide : 0 ≤ 0) ⟨_, rfl, ⟨⟨by omega, by omega⟩, i65_, f65_⟩⟩
    refine mm_if_eq (tgt := 65) C (mm_dec dk_X12_event 14 rfl) (by decide) (fun c24 => ?_) (fun c24 => ?_)
    · skip
      refine mm_fgt 0 ?_
      refine mm_fgt 1 ?_
      refine mm_fgt 2 ?_
      refine mm_fgt 3 ?_
      refine mm_fgt 4 ?_
      exact J65 h21c i21c f21c
    · skip
      refine mm_aload_n C (mm_dec dk_X12_event 15 rfl) rfl ?_
      refine mm_iload_n C (mm_dec dk_X12_event 16 rfl) rfl ?_
      have J45 : ∀ (s45_1 : Int) (bs45_1 : 0 ≤ s45_1 ∧ s45_1 ≤ 1) (vs45_1 : (s45_1 = 0) ∨ (0 ≤ p2 ∧ p2 < (h21c.1 66 23) ∧ s45_1 = 1)), mm_W x 0 0 45 [mR 66, mI p1, mI p2, mI p3, mI p4] [mI s45_1, mR 66] h21c := by
        intro s45_1 bs45_1 vs45_1
        refine mm_iconst C (mm_dec dk_X12_event 25 rfl) ⟨by decide, by decide⟩ ?_
        refine mm_cVi (rest := []) C1 ev_X12_251 (mm_dec dk_X12_event 26 rfl) (c_X12_right x.2.1 hl (d - 1) (by omega) h21c i21c s45_1 1 ⟨by omega, by omega⟩ (by omega)) rfl rfl (Nat.le_of_ble_eq_true rfl) ⟨by decide, by decide⟩ rfl (fun r46 h46c hp46 => ?_) (fun _ _ q => q.elim)
        obtain ⟨b46, i46c, g46c, y46_0⟩ := hp46
        have f46c : mm_fr [(66, 0), (66, 40)] [92, 93, 94, 95, 96, 97] h h46c := mm_fr_tr f21c g46c (by decide +kernel)
        have q46c_22 : h46c.1 66 21 = h21c.1 66 21 := g46c.1 66 21 (by decide)
        have q46c_23 : h46c.1 66 23 = h21c.1 66 23 := g46c.1 66 23 (by decide)
        have q46c_24 : h46c.1 66 40 = h21c.1 66 40 := g46c.1 66 40 (by decide)
        have q46c_25 : h46c.1 66 41 = h21c.1 66 41 := g46c.1 66 41 (by decide)
        refine mm_if_eq (tgt := 65) C (mm_dec dk_X12_event 27 rfl) (by decide) (fun c49 => ?_) (fun c49 => ?_)
        · skip
          refine mm_fgt 0 ?_
          refine mm_fgt 1 ?_
          refine mm_fgt 2 ?_
          refine mm_fgt 3 ?_
          refine mm_fgt 4 ?_
          exact J65 h46c i46c f46c
        · skip
          refine mm_iload_n C (mm_dec dk_X12_event 28 rfl) rfl ?_
          refine mm_iconst C (mm_dec dk_X12_event 29 rfl) ⟨by decide, by decide⟩ ?_
          have J67 : ∀ (h67_ : mH) (i67_ : mm_inv h67_) (f67_ : mm_fr [(66, 0), (66, 40)] [92, 93, 94, 95, 96, 97] h h67_), mm_W x 0 0 67 [mR 66, mI p1, mI p2, mI p3, mI p4] [] h67_ := by
            intro h67_ i67_ f67_
            have g26 : 0 ≤ h67_.1 66 23 ∧ h67_.1 66 23 ≤ 40 := i67_.1 66 23
            have g27 : 0 ≤ h67_.1 66 21 ∧ h67_.1 66 21 ≤ 20 := i67_.1 66 21
            have g28 : 0 ≤ h67_.1 66 41 ∧ h67_.1 66 41 ≤ 99999 := i67_.1 66 41
            have g29 : 0 ≤ h67_.1 66 40 ∧ h67_.1 66 40 ≤ 500 := i67_.1 66 40
            have g30 : h67_.1 66 23 = h.1 66 23 := f67_.1 66 23 (by decide)
            have g31 : h67_.1 66 21 = h.1 66 21 := f67_.1 66 21 (by decide)
            have g32 : h67_.1 66 41 = h.1 66 41 := f67_.1 66 41 (by decide)
            refine mm_aload_n C (mm_dec dk_X12_event 37 rfl) rfl ?_
            refine mm_geti C fl_X12_228 (mm_dec dk_X12_event 38 rfl) rfl rfl (Or.inl rfl) ?_
            refine mm_sipush C (mm_dec dk_X12_event 39 rfl) ⟨by decide, by decide⟩ ?_
            have J101 : mm_W x 0 0 101 [mU, mU, mU, mU, mU] [] h67_ := by
              have g33 : 0 ≤ h67_.1 66 23 ∧ h67_.1 66 23 ≤ 40 := i67_.1 66 23
              have g34 : 0 ≤ h67_.1 66 21 ∧ h67_.1 66 21 ≤ 20 := i67_.1 66 21
              have g35 : 0 ≤ h67_.1 66 41 ∧ h67_.1 66 41 ≤ 99999 := i67_.1 66 41
              have g36 : 0 ≤ h67_.1 66 40 ∧ h67_.1 66 40 ≤ 500 := i67_.1 66 40
              refine mm_iconst C (mm_dec dk_X12_event 51 rfl) ⟨by decide, by decide⟩ ?_
              exact mm_iret C T (mm_dec dk_X12_event 52 rfl) (by decide : 0 ≤ 0) (by decide : 0 ≤ 0) ⟨_, rfl, ⟨⟨by omega, by omega⟩, i67_, f67_⟩⟩
            refine mm_icmp_eq (tgt := 101) C (mm_dec dk_X12_event 40 rfl) (by decide) (fun c74 => ?_) (fun c74 => ?_)
            · skip
              refine mm_fgt 0 ?_
              refine mm_fgt 1 ?_
              refine mm_fgt 2 ?_
              refine mm_fgt 3 ?_
              refine mm_fgt 4 ?_
              exact J101
            · skip
              refine mm_iload C (mm_dec dk_X12_event 41 rfl) rfl ?_
              refine mm_if_lt (tgt := 101) C (mm_dec dk_X12_event 42 rfl) (by decide) (fun c79 => ?_) (fun c79 => ?_)
              · skip
                refine mm_fgt 0 ?_
                refine mm_fgt 1 ?_
                refine mm_fgt 2 ?_
                refine mm_fgt 3 ?_
                refine mm_fgt 4 ?_
                exact J101
              · skip
                refine mm_iload C (mm_dec dk_X12_event 43 rfl) rfl ?_
                refine mm_iload_n C (mm_dec dk_X12_event 44 rfl) rfl ?_
                have J98 : ∀ (s98_1 : Int) (bs98_1 : 0 ≤ s98_1 ∧ s98_1 ≤ 99999), mm_W x 0 0 98 [mR 66, mI p1, mI p2, mI p3, mI p4] [mI s98_1, mI p4] h67_ := by
                  intro s98_1 bs98_1
                  have g37 : 0 ≤ h67_.1 66 23 ∧ h67_.1 66 23 ≤ 40 := i67_.1 66 23
                  have g38 : 0 ≤ h67_.1 66 21 ∧ h67_.1 66 21 ≤ 20 := i67_.1 66 21
                  have g39 : 0 ≤ h67_.1 66 41 ∧ h67_.1 66 41 ≤ 99999 := i67_.1 66 41
                  have g40 : 0 ≤ h67_.1 66 40 ∧ h67_.1 66 40 ≤ 500 := i67_.1 66 40
                  refine mm_icmp_le (tgt := 103) C (mm_dec dk_X12_event 50 rfl) (by decide) (fun c98 => ?_) (fun c98 => ?_)
                  · skip
                    refine mm_aload_n C (mm_dec dk_X12_event 53 rfl) rfl ?_
                    refine mm_iload_n C (mm_dec dk_X12_event 54 rfl) rfl ?_
                    refine mm_iload_n C (mm_dec dk_X12_event 55 rfl) rfl ?_
                    refine mm_iload_n C (mm_dec dk_X12_event 56 rfl) rfl ?_
                    refine mm_iload C (mm_dec dk_X12_event 57 rfl) rfl ?_
                    refine mm_cVi (rest := []) C1 ev_X12_315 (mm_dec dk_X12_event 58 rfl) (c_X12_tells x.2.1 hl (d - 1) (by omega) h67_ i67_ p1 p2 p3 p4 ⟨by omega, by omega⟩ (by omega)) rfl rfl (Nat.le_of_ble_eq_true rfl) ⟨by decide, by decide⟩ rfl (fun r109 h109c hp109 => ?_) (fun _ _ q => q.elim)
                    obtain ⟨b109, i109c, g109c, y109_0⟩ := hp109
                    have f109c : mm_fr [(66, 0), (66, 40)] [92, 93, 94, 95, 96, 97] h h109c := mm_fr_tr f67_ g109c (by decide +kernel)
                    have q109c_42 : h109c.1 66 21 = h67_.1 66 21 := g109c.1 66 21 (by decide)
                    have q109c_43 : h109c.1 66 23 = h67_.1 66 23 := g109c.1 66 23 (by decide)
                    have q109c_44 : h109c.1 66 41 = h67_.1 66 41 := g109c.1 66 41 (by decide)
                    have g45 : 0 ≤ (h109c.1 66 40) ∧ (h109c.1 66 40) ≤ 500 := i109c.1 66 40
                    exact mm_iret C T (mm_dec dk_X12_event 59 rfl) (by decide : 0 ≤ 0) (by decide : 0 ≤ 0) ⟨_, rfl, ⟨⟨by omega, by omega⟩, i109c, f109c⟩⟩
                  · skip
                    refine mm_fgt 0 ?_
                    refine mm_fgt 1 ?_
                    refine mm_fgt 2 ?_
                    refine mm_fgt 3 ?_
                    refine mm_fgt 4 ?_
                    exact J101
                refine mm_if_ne (tgt := 94) C (mm_dec dk_X12_event 45 rfl) (by decide) (fun c85 => ?_) (fun c85 => ?_)
                · skip
                  refine mm_aload_n C (mm_dec dk_X12_event 48 rfl) rfl ?_
                  refine mm_geti C fl_X12_234 (mm_dec dk_X12_event 49 rfl) rfl rfl (Or.inl rfl) ?_
                  exact J98 (h67_.1 66 41) ⟨by omega, by omega⟩
                · skip
                  refine mm_ldcw (z := 99999) C (mm_dec dk_X12_event 46 rfl) kc_X12_314 (by decide) ?_
                  refine mm_goto (tgt := 98) C (mm_dec dk_X12_event 47 rfl) (by decide) ?_
                  exact J98 99999 ⟨by omega, by omega⟩
          refine mm_icmp_ne (tgt := 67) C (mm_dec dk_X12_event 30 rfl) (by decide) (fun c54 => ?_) (fun c54 => ?_)
          · skip
            exact J67 h46c i46c f46c
          · skip
            refine mm_aload_n C (mm_dec dk_X12_event 31 rfl) rfl ?_
            refine mm_iload_n C (mm_dec dk_X12_event 32 rfl) rfl ?_
            refine mm_cVi (rest := []) C1 ev_X12_292 (mm_dec dk_X12_event 33 rfl) (c_X12_isPost x.2.1 hl (d - 1) (by omega) h46c i46c p3) rfl rfl (Nat.le_of_ble_eq_true rfl) ⟨by decide, by decide⟩ rfl (fun r59 h59c hp59 => ?_) (fun _ _ q => q.elim)
            obtain ⟨b59, i59c, g59c, y59_0⟩ := hp59
            have f59c : mm_fr [(66, 0), (66, 40)] [92, 93, 94, 95, 96, 97] h h59c := mm_fr_tr f46c g59c (by decide +kernel)
            have q59c_47 : h59c.1 66 21 = h46c.1 66 21 := g59c.1 66 21 (by decide)
            have q59c_48 : h59c.1 66 23 = h46c.1 66 23 := g59c.1 66 23 (by decide)
            have q59c_49 : h59c.1 66 40 = h46c.1 66 40 := g59c.1 66 40 (by decide)
            have q59c_50 : h59c.1 66 41 = h46c.1 66 41 := g59c.1 66 41 (by decide)
            refine mm_if_ne (tgt := 67) C (mm_dec dk_X12_event 34 rfl) (by decide) (fun c62 => ?_) (fun c62 => ?_)
            · skip
              exact J67 h59c i59c f59c
            · skip
              refine mm_fgt 0 ?_
              refine mm_fgt 1 ?_
              refine mm_fgt 2 ?_
              refine mm_fgt 3 ?_
              refine mm_fgt 4 ?_
              exact J65 h59c i59c f59c
      have J44 : mm_W x 0 0 44 [mR 66, mI p1, mI p2, mI p3, mI p4] [mR 66] h21c := by
        refine mm_iconst C (mm_dec dk_X12_event 24 rfl) ⟨by decide, by decide⟩ ?_
        exact J45 0 ⟨by omega, by omega⟩ (Or.inl rfl)
      refine mm_if_lt (tgt := 44) C (mm_dec dk_X12_event 17 rfl) (by decide) (fun c29 => ?_) (fun c29 => ?_)
      · skip
        exact J44
      · skip
        refine mm_iload_n C (mm_dec dk_X12_event 18 rfl) rfl ?_
        refine mm_aload_n C (mm_dec dk_X12_event 19 rfl) rfl ?_
        refine mm_geti C fl_X12_222 (mm_dec dk_X12_event 20 rfl) rfl rfl (Or.inl rfl) ?_
        refine mm_icmp_ge (tgt := 44) C (mm_dec dk_X12_event 21 rfl) (by decide) (fun c37 => ?_) (fun c37 => ?_)
        · skip
          exact J44
        · skip
          refine mm_iconst C (mm_dec dk_X12_event 22 rfl) ⟨by decide, by decide⟩ ?_
          refine mm_goto (tgt := 45) C (mm_dec dk_X12_event 23 rfl) (by decide) ?_
          exact J45 1 ⟨by omega, by omega⟩ (Or.inr (⟨by omega, by omega, rfl⟩))
  have J19 : mm_W x 0 0 19 [mR 66, mI p1, mI p2, mI p3, mI p4] [mR 66] h1 := by
    refine mm_iconst C (mm_dec dk_X12_event 11 rfl) ⟨by decide, by decide⟩ ?_
    exact J20 0 ⟨by omega, by omega⟩ (Or.inl rfl)
  refine mm_if_lt (tgt := 19) C (mm_dec dk_X12_event 5 rfl) (by decide) (fun c7 => ?_) (fun c7 => ?_)
  · skip
    exact J19
  · skip
    refine mm_iload_n C (mm_dec dk_X12_event 6 rfl) rfl ?_
    refine mm_iconst C (mm_dec dk_X12_event 7 rfl) ⟨by decide, by decide⟩ ?_
    refine mm_icmp_gt (tgt := 19) C (mm_dec dk_X12_event 8 rfl) (by decide) (fun c12 => ?_) (fun c12 => ?_)
    · skip
      exact J19
    · skip
      refine mm_iconst C (mm_dec dk_X12_event 9 rfl) ⟨by decide, by decide⟩ ?_
      refine mm_goto (tgt := 20) C (mm_dec dk_X12_event 10 rfl) (by decide) ?_
      exact J20 1 ⟨by omega, by omega⟩ (Or.inr (⟨by omega, by omega, rfl⟩))
set_option maxRecDepth 100000 in
set_option maxHeartbeats 4000000 in
theorem c_X12_back (l : Launch) (hl : l.stackTraces = false) (d : Nat) (hd : 1 ≤ d) (h : mH) (i0 : mm_inv h) (p1 : Int) : mm_Met l d yX12_back cX12_back 2 (some .boolean) [mR 66, mI p1] h (mm_pi fun r h2 => (0 ≤ r ∧ r ≤ 1) ∧ mm_inv h2 ∧ mm_fr [(66, 0)] [97] h h2) mm_nx 0 0 := by
  refine mm_ofW (ls := [mR 66, mI p1]) hl (by decide) rfl (Nat.le_of_ble_eq_true rfl) ?_
  intro x hxl C T hnm htb
  subst hxl
  have C1 := mm_OK_le (d' := d - 1 + 1) (by omega) C
  refine mm_rng (fun hr _ => ?_)
  have ap1 : -2147483648 ≤ p1 ∧ p1 < 2147483648 := mm_ok_at hr (i := 1) rfl
  have f0 : mm_fr [(66, 0)] [97] h h := mm_fr_rf
  have g1 : 0 ≤ h.1 66 40 ∧ h.1 66 40 ≤ 500 := i0.1 66 40
  refine mm_aload_n C (mm_dec dk_X12_back 0 rfl) rfl ?_
  refine mm_iconst C (mm_dec dk_X12_back 1 rfl) ⟨by decide, by decide⟩ ?_
  refine mm_puti C fl_X12_188 (mm_dec dk_X12_back 2 rfl) rfl rfl rfl (Or.inl ⟨rfl, rfl⟩) ?_
  have i1 : mm_inv (mm_pf h 66 0 0) := mm_inv_pf i0 (show -2147483648 ≤ 0 ∧ 0 ≤ 2147483647 from ⟨by omega, by omega⟩) (by decide)
  have f1 : mm_fr [(66, 0)] [97] h (mm_pf h 66 0 0) := mm_fr_pf f0 (by decide)
  obtain ⟨h1, eh1⟩ : ∃ z, z = mm_pf h 66 0 0 := ⟨_, rfl⟩
  rw [← eh1] at i1 f1 ⊢
  have qh1 : h1.1 66 0 = 0 := by rw [eh1]; exact mm_pf_same _ _ _ _
  have qh1_2 : h1.1 66 40 = h.1 66 40 := by rw [eh1]; exact mm_pf_ne _ _ (by decide)
  refine mm_aload_n C (mm_dec dk_X12_back 3 rfl) rfl ?_
  refine mm_iload_n C (mm_dec dk_X12_back 4 rfl) rfl ?_
  have J23 : ∀ (s23_1 : Int) (bs23_1 : 0 ≤ s23_1 ∧ s23_1 ≤ 1) (vs23_1 : (s23_1 = 0) ∨ (0 ≤ p1 ∧ p1 < (h1.1 66 40) ∧ s23_1 = 1)), mm_W x 0 0 23 [mR 66, mI p1] [mI s23_1, mR 66] h1 := by
    intro s23_1 bs23_1 vs23_1
    refine mm_iconst C (mm_dec dk_X12_back 13 rfl) ⟨by decide, by decide⟩ ?_
    refine mm_cVi (rest := []) C1 ev_X12_251 (mm_dec dk_X12_back 14 rfl) (c_X12_right x.2.1 hl (d - 1) (by omega) h1 i1 s23_1 1 ⟨by omega, by omega⟩ (by omega)) rfl rfl (Nat.le_of_ble_eq_true rfl) ⟨by decide, by decide⟩ rfl (fun r24 h24c hp24 => ?_) (fun _ _ q => q.elim)
    obtain ⟨b24, i24c, g24c, y24_0⟩ := hp24
    have f24c : mm_fr [(66, 0)] [97] h h24c := mm_fr_tr f1 g24c (by decide +kernel)
    have q24c_4 : h24c.1 66 40 = h1.1 66 40 := g24c.1 66 40 (by decide)
    have J40 : mm_W x 0 0 40 [mU, mU] [] h24c := by
      refine mm_iconst C (mm_dec dk_X12_back 22 rfl) ⟨by decide, by decide⟩ ?_
      exact mm_zret C T (mm_dec dk_X12_back 23 rfl) (by decide : 0 ≤ 0) (by decide : 0 ≤ 0) (by omega) ⟨_, rfl, ⟨⟨by omega, by omega⟩, i24c, f24c⟩⟩
    refine mm_if_eq (tgt := 40) C (mm_dec dk_X12_back 15 rfl) (by decide) (fun c27 => ?_) (fun c27 => ?_)
    · skip
      refine mm_fgt 0 ?_
      refine mm_fgt 1 ?_
      exact J40
    · skip
      refine mm_aload_n C (mm_dec dk_X12_back 16 rfl) rfl ?_
      refine mm_getr (t := 97) C fl_X12_102 (mm_dec dk_X12_back 17 rfl) rfl rfl (mm_ref i24c rfl) ?_
      refine mm_iload_n C (mm_dec dk_X12_back 18 rfl) rfl ?_
      refine mm_iald C (mm_dec dk_X12_back 19 rfl) rfl (by omega) (by omega) ?_
      have g5 : -2147483648 ≤ (h24c.2.1 97 p1) ∧ (h24c.2.1 97 p1) ≤ 2147483647 := i24c.2.1 97 p1
      refine mm_iconst C (mm_dec dk_X12_back 20 rfl) ⟨by decide, by decide⟩ ?_
      refine mm_icmp_eq (tgt := 42) C (mm_dec dk_X12_back 21 rfl) (by decide) (fun c37 => ?_) (fun c37 => ?_)
      · skip
        refine mm_aload_n C (mm_dec dk_X12_back 24 rfl) rfl ?_
        refine mm_getr (t := 97) C fl_X12_102 (mm_dec dk_X12_back 25 rfl) rfl rfl (mm_ref i24c rfl) ?_
        refine mm_iload_n C (mm_dec dk_X12_back 26 rfl) rfl ?_
        refine mm_aload_n C (mm_dec dk_X12_back 27 rfl) rfl ?_
        refine mm_geti C fl_X12_234 (mm_dec dk_X12_back 28 rfl) rfl rfl (Or.inl rfl) ?_
        have g6 : 0 ≤ (h24c.1 66 41) ∧ (h24c.1 66 41) ≤ 99999 := i24c.1 66 41
        refine mm_iast C (mm_dec dk_X12_back 29 rfl) rfl (by omega) (by omega) ?_
        have i3 : mm_inv (mm_pa h24c 97 p1 (h24c.1 66 41)) := mm_inv_pa i24c (show -2147483648 ≤ (h24c.1 66 41) ∧ (h24c.1 66 41) ≤ 2147483647 from ⟨by omega, by omega⟩)
        have f3 : mm_fr [(66, 0)] [97] h (mm_pa h24c 97 p1 (h24c.1 66 41)) := mm_fr_pa f24c (by decide)
        obtain ⟨h3, eh3⟩ : ∃ z, z = mm_pa h24c 97 p1 (h24c.1 66 41) := ⟨_, rfl⟩
        rw [← eh3] at i3 f3 ⊢
        have qh3_7 : h3.1 66 40 = h24c.1 66 40 := by rw [eh3]; rfl
        have qh3_8 : h3.1 66 41 = h24c.1 66 41 := by rw [eh3]; rfl
        refine mm_iconst C (mm_dec dk_X12_back 30 rfl) ⟨by decide, by decide⟩ ?_
        exact mm_zret C T (mm_dec dk_X12_back 31 rfl) (by decide : 0 ≤ 0) (by decide : 0 ≤ 0) (by omega) ⟨_, rfl, ⟨⟨by omega, by omega⟩, i3, f3⟩⟩
      · skip
        refine mm_fgt 0 ?_
        refine mm_fgt 1 ?_
        exact J40
  have J22 : mm_W x 0 0 22 [mR 66, mI p1] [mR 66] h1 := by
    refine mm_iconst C (mm_dec dk_X12_back 12 rfl) ⟨by decide, by decide⟩ ?_
    exact J23 0 ⟨by omega, by omega⟩ (Or.inl rfl)
  refine mm_if_lt (tgt := 22) C (mm_dec dk_X12_back 5 rfl) (by decide) (fun c7 => ?_) (fun c7 => ?_)
  · skip
    exact J22
  · skip
    refine mm_iload_n C (mm_dec dk_X12_back 6 rfl) rfl ?_
    refine mm_aload_n C (mm_dec dk_X12_back 7 rfl) rfl ?_
    refine mm_geti C fl_X12_228 (mm_dec dk_X12_back 8 rfl) rfl rfl (Or.inl rfl) ?_
    refine mm_icmp_ge (tgt := 22) C (mm_dec dk_X12_back 9 rfl) (by decide) (fun c15 => ?_) (fun c15 => ?_)
    · skip
      exact J22
    · skip
      refine mm_iconst C (mm_dec dk_X12_back 10 rfl) ⟨by decide, by decide⟩ ?_
      refine mm_goto (tgt := 23) C (mm_dec dk_X12_back 11 rfl) (by decide) ?_
      exact J23 1 ⟨by omega, by omega⟩ (Or.inr (⟨by omega, by omega, rfl⟩))
set_option maxRecDepth 100000 in
set_option maxHeartbeats 4000000 in
theorem c_X12_isKnown (l : Launch) (hl : l.stackTraces = false) (d : Nat) (hd : 0 ≤ d) (h : mH) (i0 : mm_inv h) (p1 : Int) (p2 : Int) (bp1 : 0 ≤ p1 ∧ p1 ≤ 499) : mm_Met l d yX12_isKnown cX12_isKnown 3 (some .boolean) [mR 66, mI p1, mI p2] h (mm_pi fun r h2 => h2 = h ∧ ((p2 < (h.2.1 96 p1) ∧ r = 0) ∨ ((h.2.1 96 p1) ≤ p2 ∧ (h.2.1 97 p1) = (-1) ∧ r = 1) ∨ ((h.2.1 96 p1) ≤ p2 ∧ (h.2.1 97 p1) ≠ (-1) ∧ (h.2.1 97 p1) ≤ p2 ∧ r = 0) ∨ ((h.2.1 96 p1) ≤ p2 ∧ (h.2.1 97 p1) ≠ (-1) ∧ p2 < (h.2.1 97 p1) ∧ r = 1))) mm_nx 0 0 := by
  refine mm_ofW (ls := [mR 66, mI p1, mI p2]) hl (by decide) rfl (Nat.le_of_ble_eq_true rfl) ?_
  intro x hxl C T hnm htb
  subst hxl
  refine mm_rng (fun hr _ => ?_)
  have ap1 : -2147483648 ≤ p1 ∧ p1 < 2147483648 := mm_ok_at hr (i := 1) rfl
  have ap2 : -2147483648 ≤ p2 ∧ p2 < 2147483648 := mm_ok_at hr (i := 2) rfl
  have f0 : mm_fr [] [] h h := mm_fr_rf
  refine mm_aload_n C (mm_dec dk_X12_isKnown 0 rfl) rfl ?_
  refine mm_getr (t := 96) C fl_X12_99 (mm_dec dk_X12_isKnown 1 rfl) rfl rfl (mm_ref i0 rfl) ?_
  refine mm_iload_n C (mm_dec dk_X12_isKnown 2 rfl) rfl ?_
  refine mm_iald C (mm_dec dk_X12_isKnown 3 rfl) rfl (by omega) (by omega) ?_
  have g1 : -2147483648 ≤ (h.2.1 96 p1) ∧ (h.2.1 96 p1) ≤ 2147483647 := i0.2.1 96 p1
  refine mm_iload_n C (mm_dec dk_X12_isKnown 4 rfl) rfl ?_
  refine mm_icmp_gt (tgt := 34) C (mm_dec dk_X12_isKnown 5 rfl) (by decide) (fun c7 => ?_) (fun c7 => ?_)
  · skip
    refine mm_iconst C (mm_dec dk_X12_isKnown 20 rfl) ⟨by decide, by decide⟩ ?_
    exact mm_zret C T (mm_dec dk_X12_isKnown 21 rfl) (by decide : 0 ≤ 0) (by decide : 0 ≤ 0) (by omega) ⟨_, rfl, ⟨rfl, Or.inl ⟨by omega, rfl⟩⟩⟩
  · skip
    refine mm_aload_n C (mm_dec dk_X12_isKnown 6 rfl) rfl ?_
    refine mm_getr (t := 97) C fl_X12_102 (mm_dec dk_X12_isKnown 7 rfl) rfl rfl (mm_ref i0 rfl) ?_
    refine mm_iload_n C (mm_dec dk_X12_isKnown 8 rfl) rfl ?_
    refine mm_iald C (mm_dec dk_X12_isKnown 9 rfl) rfl (by omega) (by omega) ?_
    have g2 : -2147483648 ≤ (h.2.1 97 p1) ∧ (h.2.1 97 p1) ≤ 2147483647 := i0.2.1 97 p1
    refine mm_iconst C (mm_dec dk_X12_isKnown 10 rfl) ⟨by decide, by decide⟩ ?_
    refine mm_icmp_eq (tgt := 30) C (mm_dec dk_X12_isKnown 11 rfl) (by decide) (fun c17 => ?_) (fun c17 => ?_)
    · skip
      refine mm_iconst C (mm_dec dk_X12_isKnown 18 rfl) ⟨by decide, by decide⟩ ?_
      refine mm_goto (tgt := 35) C (mm_dec dk_X12_isKnown 19 rfl) (by decide) ?_
      exact mm_zret C T (mm_dec dk_X12_isKnown 21 rfl) (by decide : 0 ≤ 0) (by decide : 0 ≤ 0) (by omega) ⟨_, rfl, ⟨rfl, Or.inr (Or.inl ⟨by omega, by omega, rfl⟩)⟩⟩
    · skip
      refine mm_aload_n C (mm_dec dk_X12_isKnown 12 rfl) rfl ?_
      refine mm_getr (t := 97) C fl_X12_102 (mm_dec dk_X12_isKnown 13 rfl) rfl rfl (mm_ref i0 rfl) ?_
      refine mm_iload_n C (mm_dec dk_X12_isKnown 14 rfl) rfl ?_
      refine mm_iald C (mm_dec dk_X12_isKnown 15 rfl) rfl (by omega) (by omega) ?_
      refine mm_iload_n C (mm_dec dk_X12_isKnown 16 rfl) rfl ?_
      refine mm_icmp_le (tgt := 34) C (mm_dec dk_X12_isKnown 17 rfl) (by decide) (fun c27 => ?_) (fun c27 => ?_)
      · skip
        refine mm_iconst C (mm_dec dk_X12_isKnown 20 rfl) ⟨by decide, by decide⟩ ?_
        exact mm_zret C T (mm_dec dk_X12_isKnown 21 rfl) (by decide : 0 ≤ 0) (by decide : 0 ≤ 0) (by omega) ⟨_, rfl, ⟨rfl, Or.inr (Or.inr (Or.inl ⟨by omega, by omega, by omega, rfl⟩))⟩⟩
      · skip
        refine mm_iconst C (mm_dec dk_X12_isKnown 18 rfl) ⟨by decide, by decide⟩ ?_
        refine mm_goto (tgt := 35) C (mm_dec dk_X12_isKnown 19 rfl) (by decide) ?_
        exact mm_zret C T (mm_dec dk_X12_isKnown 21 rfl) (by decide : 0 ≤ 0) (by decide : 0 ≤ 0) (by omega) ⟨_, rfl, ⟨rfl, Or.inr (Or.inr (Or.inr (⟨by omega, by omega, by omega, rfl⟩)))⟩⟩
set_option maxRecDepth 100000 in
set_option maxHeartbeats 4000000 in
theorem c_X12_latest (l : Launch) (hl : l.stackTraces = false) (d : Nat) (hd : 1 ≤ d) (h : mH) (i0 : mm_inv h) (p1 : Int) (p2 : Int) (p3 : Int) : mm_Met l d yX12_latest cX12_latest 6 (some .int) [mR 66, mI p1, mI p2, mI p3] h (mm_pi fun r h2 => (-1 ≤ r ∧ r ≤ 499) ∧ h2 = h) mm_nx 0 0 := by
  refine mm_ofW (ls := [mR 66, mI p1, mI p2, mI p3, mU, mU]) hl (by decide) rfl (Nat.le_of_ble_eq_true rfl) ?_
  intro x hxl C T hnm htb
  subst hxl
  have C1 := mm_OK_le (d' := d - 1 + 1) (by omega) C
  refine mm_rng (fun hr _ => ?_)
  have ap1 : -2147483648 ≤ p1 ∧ p1 < 2147483648 := mm_ok_at hr (i := 1) rfl
  have ap2 : -2147483648 ≤ p2 ∧ p2 < 2147483648 := mm_ok_at hr (i := 2) rfl
  have ap3 : -2147483648 ≤ p3 ∧ p3 < 2147483648 := mm_ok_at hr (i := 3) rfl
  have f0 : mm_fr [] [] h h := mm_fr_rf
  refine mm_iconst C (mm_dec dk_X12_latest 0 rfl) ⟨by decide, by decide⟩ ?_
  refine mm_istoreL (ls2 := [mR 66, mI p1, mI p2, mI p3, mI (-1), mU]) C (mm_dec dk_X12_latest 1 rfl) (by decide) rfl ?_
  refine mm_iconst C (mm_dec dk_X12_latest 2 rfl) ⟨by decide, by decide⟩ ?_
  have J6 : ∀ (n : Nat) (x6_4 : Int) (bx6_4 : -1 ≤ x6_4 ∧ x6_4 ≤ 499) (x6_5 : Int) (bx6_5 : 0 ≤ x6_5 ∧ x6_5 ≤ 500), (500 - x6_5 : Int) < n → mm_W x 0 0 6 [mR 66, mI p1, mI p2, mI p3, mI x6_4, mI x6_5] [] h := by
    intro n
    induction n with
    | zero =>
      intro x6_4 bx6_4 x6_5 bx6_5 hm
      exfalso; omega
    | succ n ih6 =>
      intro x6_4 bx6_4 x6_5 bx6_5 hm6
      refine mm_iload C (mm_dec dk_X12_latest 4 rfl) rfl ?_
      refine mm_aload_n C (mm_dec dk_X12_latest 5 rfl) rfl ?_
      refine mm_geti C fl_X12_228 (mm_dec dk_X12_latest 6 rfl) rfl rfl (Or.inl rfl) ?_
      have g1 : 0 ≤ (h.1 66 40) ∧ (h.1 66 40) ≤ 500 := i0.1 66 40
      refine mm_icmp_ge (tgt := 57) C (mm_dec dk_X12_latest 7 rfl) (by decide) (fun c12 => ?_) (fun c12 => ?_)
      · skip
        refine mm_iload C (mm_dec dk_X12_latest 29 rfl) rfl ?_
        exact mm_iret C T (mm_dec dk_X12_latest 30 rfl) (by decide : 0 ≤ 0) (by decide : 0 ≤ 0) ⟨_, rfl, ⟨⟨by omega, by omega⟩, rfl⟩⟩
      · skip
        refine mm_aload_n C (mm_dec dk_X12_latest 8 rfl) rfl ?_
        refine mm_getr (t := 92) C fl_X12_87 (mm_dec dk_X12_latest 9 rfl) rfl rfl (mm_ref i0 rfl) ?_
        refine mm_iload C (mm_dec dk_X12_latest 10 rfl) rfl ?_
        refine mm_iald C (mm_dec dk_X12_latest 11 rfl) rfl (by omega) (by omega) ?_
        have g2 : -2147483648 ≤ (h.2.1 92 x6_5) ∧ (h.2.1 92 x6_5) ≤ 2147483647 := i0.2.1 92 x6_5
        refine mm_iload_n C (mm_dec dk_X12_latest 12 rfl) rfl ?_
        have J51 : ∀ (x51_4 : Int) (bx51_4 : -1 ≤ x51_4 ∧ x51_4 ≤ 499), mm_W x 0 0 51 [mR 66, mI p1, mI p2, mI p3, mI x51_4, mI x6_5] [] h := by
          intro x51_4 bx51_4
          refine mm_iincL (ls2 := [mR 66, mI p1, mI p2, mI p3, mI x51_4, mI (x6_5 + 1)]) C (mm_dec dk_X12_latest 27 rfl) rfl (by decide) ⟨by omega, by omega⟩ rfl ?_
          refine mm_goto (tgt := 6) C (mm_dec dk_X12_latest 28 rfl) (by decide) ?_
          exact ih6 x51_4 ⟨by omega, by omega⟩ (x6_5 + 1) ⟨by omega, by omega⟩ (by omega)
        refine mm_icmp_ne (tgt := 51) C (mm_dec dk_X12_latest 13 rfl) (by decide) (fun c23 => ?_) (fun c23 => ?_)
        · skip
          exact J51 x6_4 ⟨by omega, by omega⟩
        · skip
          refine mm_aload_n C (mm_dec dk_X12_latest 14 rfl) rfl ?_
          refine mm_getr (t := 93) C fl_X12_90 (mm_dec dk_X12_latest 15 rfl) rfl rfl (mm_ref i0 rfl) ?_
          refine mm_iload C (mm_dec dk_X12_latest 16 rfl) rfl ?_
          refine mm_iald C (mm_dec dk_X12_latest 17 rfl) rfl (by omega) (by omega) ?_
          have g3 : -2147483648 ≤ (h.2.1 93 x6_5) ∧ (h.2.1 93 x6_5) ≤ 2147483647 := i0.2.1 93 x6_5
          refine mm_iload_n C (mm_dec dk_X12_latest 18 rfl) rfl ?_
          refine mm_icmp_ne (tgt := 51) C (mm_dec dk_X12_latest 19 rfl) (by decide) (fun c34 => ?_) (fun c34 => ?_)
          · skip
            exact J51 x6_4 ⟨by omega, by omega⟩
          · skip
            refine mm_aload_n C (mm_dec dk_X12_latest 20 rfl) rfl ?_
            refine mm_iload C (mm_dec dk_X12_latest 21 rfl) rfl ?_
            refine mm_iload_n C (mm_dec dk_X12_latest 22 rfl) rfl ?_
            refine mm_cVi (rest := []) C1 ev_X12_319 (mm_dec dk_X12_latest 23 rfl) (c_X12_isKnown x.2.1 hl (d - 1) (by omega) h i0 x6_5 p3 ⟨by omega, by omega⟩) rfl rfl (Nat.le_of_ble_eq_true rfl) ⟨by decide, by decide⟩ rfl (fun r41 h41c hp41 => ?_) (fun _ _ q => q.elim)
            obtain ⟨z41, y41⟩ := hp41
            rw [z41]
            have g5 : -2147483648 ≤ (h.2.1 96 x6_5) ∧ (h.2.1 96 x6_5) ≤ 2147483647 := i0.2.1 96 x6_5
            have g6 : -2147483648 ≤ (h.2.1 97 x6_5) ∧ (h.2.1 97 x6_5) ≤ 2147483647 := i0.2.1 97 x6_5
            refine mm_if_eq (tgt := 51) C (mm_dec dk_X12_latest 24 rfl) (by decide) (fun c44 => ?_) (fun c44 => ?_)
            · skip
              exact J51 x6_4 ⟨by omega, by omega⟩
            · skip
              refine mm_iload C (mm_dec dk_X12_latest 25 rfl) rfl ?_
              refine mm_istoreL (ls2 := [mR 66, mI p1, mI p2, mI p3, mI x6_5, mI x6_5]) C (mm_dec dk_X12_latest 26 rfl) (by decide) rfl ?_
              exact J51 x6_5 ⟨by omega, by omega⟩
  refine mm_istoreL (ls2 := [mR 66, mI p1, mI p2, mI p3, mI (-1), mI 0]) C (mm_dec dk_X12_latest 3 rfl) (by decide) rfl ?_
  exact J6 (((500 - 0) : Int) + 1).toNat (-1) ⟨by omega, by omega⟩ 0 ⟨by omega, by omega⟩ (by omega)
set_option maxRecDepth 100000 in
set_option maxHeartbeats 4000000 in
theorem c_X12_finishOf (l : Launch) (hl : l.stackTraces = false) (d : Nat) (hd : 2 ≤ d) (h : mH) (i0 : mm_inv h) (p1 : Int) (p2 : Int) (bp1 : 0 ≤ p1 ∧ p1 ≤ 39) : mm_Met l d yX12_finishOf cX12_finishOf 4 (some .int) [mR 66, mI p1, mI p2] h (mm_pi fun r h2 => (-2147483648 ≤ r ∧ r ≤ 2147483647) ∧ h2 = h) mm_nx 0 0 := by
  refine mm_ofW (ls := [mR 66, mI p1, mI p2, mU]) hl (by decide) rfl (Nat.le_of_ble_eq_true rfl) ?_
  intro x hxl C T hnm htb
  subst hxl
  have C1 := mm_OK_le (d' := d - 1 + 1) (by omega) C
  refine mm_rng (fun hr _ => ?_)
  have ap1 : -2147483648 ≤ p1 ∧ p1 < 2147483648 := mm_ok_at hr (i := 1) rfl
  have ap2 : -2147483648 ≤ p2 ∧ p2 < 2147483648 := mm_ok_at hr (i := 2) rfl
  have f0 : mm_fr [] [] h h := mm_fr_rf
  refine mm_aload_n C (mm_dec dk_X12_finishOf 0 rfl) rfl ?_
  refine mm_iconst C (mm_dec dk_X12_finishOf 1 rfl) ⟨by decide, by decide⟩ ?_
  refine mm_iload_n C (mm_dec dk_X12_finishOf 2 rfl) rfl ?_
  refine mm_iload_n C (mm_dec dk_X12_finishOf 3 rfl) rfl ?_
  refine mm_cVi (rest := []) C1 ev_X12_322 (mm_dec dk_X12_finishOf 4 rfl) (c_X12_latest x.2.1 hl (d - 1) (by omega) h i0 2 p1 p2) rfl rfl (Nat.le_of_ble_eq_true rfl) ⟨by decide, by decide⟩ rfl (fun r4 h4c hp4 => ?_) (fun _ _ q => q.elim)
  obtain ⟨b4, z4⟩ := hp4
  rw [z4]
  refine mm_istore_nL (ls2 := [mR 66, mI p1, mI p2, mI r4]) C (mm_dec dk_X12_finishOf 5 rfl) (by decide) rfl ?_
  refine mm_iload_n C (mm_dec dk_X12_finishOf 6 rfl) rfl ?_
  refine mm_iconst C (mm_dec dk_X12_finishOf 7 rfl) ⟨by decide, by decide⟩ ?_
  refine mm_icmp_ne (tgt := 17) C (mm_dec dk_X12_finishOf 8 rfl) (by decide) (fun c10 => ?_) (fun c10 => ?_)
  · skip
    refine mm_aload_n C (mm_dec dk_X12_finishOf 11 rfl) rfl ?_
    refine mm_getr (t := 95) C fl_X12_96 (mm_dec dk_X12_finishOf 12 rfl) rfl rfl (mm_ref i0 rfl) ?_
    refine mm_iload_n C (mm_dec dk_X12_finishOf 13 rfl) rfl ?_
    refine mm_iald C (mm_dec dk_X12_finishOf 14 rfl) rfl (by omega) (by omega) ?_
    have g2 : -2147483648 ≤ (h.2.1 95 r4) ∧ (h.2.1 95 r4) ≤ 2147483647 := i0.2.1 95 r4
    exact mm_iret C T (mm_dec dk_X12_finishOf 15 rfl) (by decide : 0 ≤ 0) (by decide : 0 ≤ 0) ⟨_, rfl, ⟨⟨by omega, by omega⟩, rfl⟩⟩
  · skip
    refine mm_iconst C (mm_dec dk_X12_finishOf 9 rfl) ⟨by decide, by decide⟩ ?_
    refine mm_goto (tgt := 23) C (mm_dec dk_X12_finishOf 10 rfl) (by decide) ?_
    exact mm_iret C T (mm_dec dk_X12_finishOf 15 rfl) (by decide : 0 ≤ 0) (by decide : 0 ≤ 0) ⟨_, rfl, ⟨⟨by omega, by omega⟩, rfl⟩⟩
set_option maxRecDepth 100000 in
set_option maxHeartbeats 4000000 in
theorem c_X12_startOf (l : Launch) (hl : l.stackTraces = false) (d : Nat) (hd : 3 ≤ d) (h : mH) (i0 : mm_inv h) (p1 : Int) (p2 : Int) (bp1 : 0 ≤ p1 ∧ p1 ≤ 39) : mm_Met l d yX12_startOf cX12_startOf 4 (some .int) [mR 66, mI p1, mI p2] h (mm_pi fun r h2 => (-2147483648 ≤ r ∧ r ≤ 2147483647) ∧ h2 = h) mm_nx 0 0 := by
  refine mm_ofW (ls := [mR 66, mI p1, mI p2, mU]) hl (by decide) rfl (Nat.le_of_ble_eq_true rfl) ?_
  intro x hxl C T hnm htb
  subst hxl
  have C1 := mm_OK_le (d' := d - 1 + 1) (by omega) C
  refine mm_rng (fun hr _ => ?_)
  have ap1 : -2147483648 ≤ p1 ∧ p1 < 2147483648 := mm_ok_at hr (i := 1) rfl
  have ap2 : -2147483648 ≤ p2 ∧ p2 < 2147483648 := mm_ok_at hr (i := 2) rfl
  have f0 : mm_fr [] [] h h := mm_fr_rf
  refine mm_aload_n C (mm_dec dk_X12_startOf 0 rfl) rfl ?_
  refine mm_getr (t := 88) C fl_X12_75 (mm_dec dk_X12_startOf 1 rfl) rfl rfl (mm_ref i0 rfl) ?_
  refine mm_iload_n C (mm_dec dk_X12_startOf 2 rfl) rfl ?_
  refine mm_iald C (mm_dec dk_X12_startOf 3 rfl) rfl (by omega) (by omega) ?_
  have g1 : -1 ≤ (h.2.1 88 p1) ∧ (h.2.1 88 p1) ≤ 9 := i0.2.1 88 p1
  refine mm_iconst C (mm_dec dk_X12_startOf 4 rfl) ⟨by decide, by decide⟩ ?_
  refine mm_icmp_eq (tgt := 47) C (mm_dec dk_X12_startOf 5 rfl) (by decide) (fun c7 => ?_) (fun c7 => ?_)
  · skip
    refine mm_aload_n C (mm_dec dk_X12_startOf 31 rfl) rfl ?_
    refine mm_iconst C (mm_dec dk_X12_startOf 32 rfl) ⟨by decide, by decide⟩ ?_
    refine mm_iload_n C (mm_dec dk_X12_startOf 33 rfl) rfl ?_
    refine mm_iload_n C (mm_dec dk_X12_startOf 34 rfl) rfl ?_
    refine mm_cVi (rest := []) C1 ev_X12_322 (mm_dec dk_X12_startOf 35 rfl) (c_X12_latest x.2.1 hl (d - 1) (by omega) h i0 0 p1 p2) rfl rfl (Nat.le_of_ble_eq_true rfl) ⟨by decide, by decide⟩ rfl (fun r51 h51c hp51 => ?_) (fun _ _ q => q.elim)
    obtain ⟨b51, z51⟩ := hp51
    rw [z51]
    refine mm_istore_nL (ls2 := [mR 66, mI p1, mI p2, mI r51]) C (mm_dec dk_X12_startOf 36 rfl) (by decide) rfl ?_
    refine mm_iload_n C (mm_dec dk_X12_startOf 37 rfl) rfl ?_
    refine mm_iconst C (mm_dec dk_X12_startOf 38 rfl) ⟨by decide, by decide⟩ ?_
    refine mm_icmp_ne (tgt := 64) C (mm_dec dk_X12_startOf 39 rfl) (by decide) (fun c57 => ?_) (fun c57 => ?_)
    · skip
      refine mm_aload_n C (mm_dec dk_X12_startOf 42 rfl) rfl ?_
      refine mm_getr (t := 95) C fl_X12_96 (mm_dec dk_X12_startOf 43 rfl) rfl rfl (mm_ref i0 rfl) ?_
      refine mm_iload_n C (mm_dec dk_X12_startOf 44 rfl) rfl ?_
      refine mm_iald C (mm_dec dk_X12_startOf 45 rfl) rfl (by omega) (by omega) ?_
      have g3 : -2147483648 ≤ (h.2.1 95 r51) ∧ (h.2.1 95 r51) ≤ 2147483647 := i0.2.1 95 r51
      exact mm_iret C T (mm_dec dk_X12_startOf 46 rfl) (by decide : 0 ≤ 0) (by decide : 0 ≤ 0) ⟨_, rfl, ⟨⟨by omega, by omega⟩, rfl⟩⟩
    · skip
      refine mm_iconst C (mm_dec dk_X12_startOf 40 rfl) ⟨by decide, by decide⟩ ?_
      refine mm_goto (tgt := 70) C (mm_dec dk_X12_startOf 41 rfl) (by decide) ?_
      exact mm_iret C T (mm_dec dk_X12_startOf 46 rfl) (by decide : 0 ≤ 0) (by decide : 0 ≤ 0) ⟨_, rfl, ⟨⟨by omega, by omega⟩, rfl⟩⟩
  · skip
    refine mm_aload_n C (mm_dec dk_X12_startOf 6 rfl) rfl ?_
    refine mm_getr (t := 89) C fl_X12_78 (mm_dec dk_X12_startOf 7 rfl) rfl rfl (mm_ref i0 rfl) ?_
    refine mm_iload_n C (mm_dec dk_X12_startOf 8 rfl) rfl ?_
    refine mm_iald C (mm_dec dk_X12_startOf 9 rfl) rfl (by omega) (by omega) ?_
    have g4 : 0 ≤ (h.2.1 89 p1) ∧ (h.2.1 89 p1) ≤ 2 := i0.2.1 89 p1
    refine mm_if_le (tgt := 47) C (mm_dec dk_X12_startOf 10 rfl) (by decide) (fun c16 => ?_) (fun c16 => ?_)
    · skip
      refine mm_aload_n C (mm_dec dk_X12_startOf 31 rfl) rfl ?_
      refine mm_iconst C (mm_dec dk_X12_startOf 32 rfl) ⟨by decide, by decide⟩ ?_
      refine mm_iload_n C (mm_dec dk_X12_startOf 33 rfl) rfl ?_
      refine mm_iload_n C (mm_dec dk_X12_startOf 34 rfl) rfl ?_
      refine mm_cVi (rest := []) C1 ev_X12_322 (mm_dec dk_X12_startOf 35 rfl) (c_X12_latest x.2.1 hl (d - 1) (by omega) h i0 0 p1 p2) rfl rfl (Nat.le_of_ble_eq_true rfl) ⟨by decide, by decide⟩ rfl (fun r51 h51c hp51 => ?_) (fun _ _ q => q.elim)
      obtain ⟨b51, z51⟩ := hp51
      rw [z51]
      refine mm_istore_nL (ls2 := [mR 66, mI p1, mI p2, mI r51]) C (mm_dec dk_X12_startOf 36 rfl) (by decide) rfl ?_
      refine mm_iload_n C (mm_dec dk_X12_startOf 37 rfl) rfl ?_
      refine mm_iconst C (mm_dec dk_X12_startOf 38 rfl) ⟨by decide, by decide⟩ ?_
      refine mm_icmp_ne (tgt := 64) C (mm_dec dk_X12_startOf 39 rfl) (by decide) (fun c57 => ?_) (fun c57 => ?_)
      · skip
        refine mm_aload_n C (mm_dec dk_X12_startOf 42 rfl) rfl ?_
        refine mm_getr (t := 95) C fl_X12_96 (mm_dec dk_X12_startOf 43 rfl) rfl rfl (mm_ref i0 rfl) ?_
        refine mm_iload_n C (mm_dec dk_X12_startOf 44 rfl) rfl ?_
        refine mm_iald C (mm_dec dk_X12_startOf 45 rfl) rfl (by omega) (by omega) ?_
        have g6 : -2147483648 ≤ (h.2.1 95 r51) ∧ (h.2.1 95 r51) ≤ 2147483647 := i0.2.1 95 r51
        exact mm_iret C T (mm_dec dk_X12_startOf 46 rfl) (by decide : 0 ≤ 0) (by decide : 0 ≤ 0) ⟨_, rfl, ⟨⟨by omega, by omega⟩, rfl⟩⟩
      · skip
        refine mm_iconst C (mm_dec dk_X12_startOf 40 rfl) ⟨by decide, by decide⟩ ?_
        refine mm_goto (tgt := 70) C (mm_dec dk_X12_startOf 41 rfl) (by decide) ?_
        exact mm_iret C T (mm_dec dk_X12_startOf 46 rfl) (by decide : 0 ≤ 0) (by decide : 0 ≤ 0) ⟨_, rfl, ⟨⟨by omega, by omega⟩, rfl⟩⟩
    · skip
      refine mm_aload_n C (mm_dec dk_X12_startOf 11 rfl) rfl ?_
      refine mm_aload_n C (mm_dec dk_X12_startOf 12 rfl) rfl ?_
      refine mm_getr (t := 90) C fl_X12_81 (mm_dec dk_X12_startOf 13 rfl) rfl rfl (mm_ref i0 rfl) ?_
      refine mm_iconst C (mm_dec dk_X12_startOf 14 rfl) ⟨by decide, by decide⟩ ?_
      refine mm_aload_n C (mm_dec dk_X12_startOf 15 rfl) rfl ?_
      refine mm_getr (t := 88) C fl_X12_75 (mm_dec dk_X12_startOf 16 rfl) rfl rfl (mm_ref i0 rfl) ?_
      refine mm_iload_n C (mm_dec dk_X12_startOf 17 rfl) rfl ?_
      refine mm_iald C (mm_dec dk_X12_startOf 18 rfl) rfl (by omega) (by omega) ?_
      refine mm_imul C (mm_dec dk_X12_startOf 19 rfl) ⟨by omega, by omega⟩ ?_
      refine mm_aload_n C (mm_dec dk_X12_startOf 20 rfl) rfl ?_
      refine mm_getr (t := 89) C fl_X12_78 (mm_dec dk_X12_startOf 21 rfl) rfl rfl (mm_ref i0 rfl) ?_
      refine mm_iload_n C (mm_dec dk_X12_startOf 22 rfl) rfl ?_
      refine mm_iald C (mm_dec dk_X12_startOf 23 rfl) rfl (by omega) (by omega) ?_
      refine mm_iadd C (mm_dec dk_X12_startOf 24 rfl) ⟨by omega, by omega⟩ ?_
      refine mm_iconst C (mm_dec dk_X12_startOf 25 rfl) ⟨by decide, by decide⟩ ?_
      refine mm_isub C (mm_dec dk_X12_startOf 26 rfl) ⟨by omega, by omega⟩ ?_
      refine mm_iald C (mm_dec dk_X12_startOf 27 rfl) rfl (by omega) (by omega) ?_
      have g7 : 0 ≤ (h.2.1 90 (((3 * (h.2.1 88 p1)) + (h.2.1 89 p1)) - 1)) ∧ (h.2.1 90 (((3 * (h.2.1 88 p1)) + (h.2.1 89 p1)) - 1)) ≤ 39 := i0.2.1 90 (((3 * (h.2.1 88 p1)) + (h.2.1 89 p1)) - 1)
      refine mm_iload_n C (mm_dec dk_X12_startOf 28 rfl) rfl ?_
      refine mm_cVi (rest := []) C1 ev_X12_326 (mm_dec dk_X12_startOf 29 rfl) (c_X12_finishOf x.2.1 hl (d - 1) (by omega) h i0 (h.2.1 90 (((3 * (h.2.1 88 p1)) + (h.2.1 89 p1)) - 1)) p2 ⟨by omega, by omega⟩) rfl rfl (Nat.le_of_ble_eq_true rfl) ⟨by decide, by decide⟩ rfl (fun r43 h43c hp43 => ?_) (fun _ _ q => q.elim)
      obtain ⟨b43, z43⟩ := hp43
      rw [z43]
      exact mm_iret C T (mm_dec dk_X12_startOf 30 rfl) (by decide : 0 ≤ 0) (by decide : 0 ≤ 0) ⟨_, rfl, ⟨⟨by omega, by omega⟩, rfl⟩⟩
set_option maxRecDepth 100000 in
set_option maxHeartbeats 4000000 in
theorem c_X12_finds (l : Launch) (hl : l.stackTraces = false) (d : Nat) (hd : 2 ≤ d) (h : mH) (i0 : mm_inv h) (p1 : Int) (p2 : Int) (bp1 : 0 ≤ p1 ∧ p1 ≤ 39) : mm_Met l d yX12_finds cX12_finds 7 none [mR 66, mI p1, mI p2] h (mm_pv fun h2 => mm_inv h2 ∧ mm_fr [(66, 39), (66, 48), (66, 53)] [91, 98] h h2) mm_nx 0 0 := by
  refine mm_ofW (ls := [mR 66, mI p1, mI p2, mU, mU, mU, mU]) hl (by decide) rfl (Nat.le_of_ble_eq_true rfl) ?_
  intro x hxl C T hnm htb
  subst hxl
  have C1 := mm_OK_le (d' := d - 1 + 1) (by omega) C
  refine mm_rng (fun hr _ => ?_)
  have ap1 : -2147483648 ≤ p1 ∧ p1 < 2147483648 := mm_ok_at hr (i := 1) rfl
  have ap2 : -2147483648 ≤ p2 ∧ p2 < 2147483648 := mm_ok_at hr (i := 2) rfl
  have f0 : mm_fr [(66, 39), (66, 48), (66, 53)] [91, 98] h h := mm_fr_rf
  have g1 : 0 ≤ h.1 66 48 ∧ h.1 66 48 ≤ 500 := i0.1 66 48
  refine mm_aload_n C (mm_dec dk_X12_finds 0 rfl) rfl ?_
  refine mm_iload_n C (mm_dec dk_X12_finds 1 rfl) rfl ?_
  refine mm_cVv (rest := []) C1 ev_X12_302 (mm_dec dk_X12_finds 2 rfl) (c_X12_rows x.2.1 hl (d - 1) (by omega) h i0 p1 ⟨by omega, by omega⟩) rfl rfl (Nat.le_of_ble_eq_true rfl) ⟨by decide, by decide⟩ rfl (fun h2c hp2 => ?_) (fun _ _ q => q.elim)
  obtain ⟨i2c, g2c⟩ := hp2
  have f2c : mm_fr [(66, 39), (66, 48), (66, 53)] [91, 98] h h2c := mm_fr_tr f0 g2c (by decide +kernel)
  have q2c_3 : h2c.1 66 48 = h.1 66 48 := g2c.1 66 48 (by decide)
  refine mm_aload_n C (mm_dec dk_X12_finds 3 rfl) rfl ?_
  refine mm_iconst C (mm_dec dk_X12_finds 4 rfl) ⟨by decide, by decide⟩ ?_
  refine mm_puti C fl_X12_329 (mm_dec dk_X12_finds 5 rfl) rfl rfl rfl (Or.inl ⟨rfl, rfl⟩) ?_
  have i2 : mm_inv (mm_pf h2c 66 48 0) := mm_inv_pf i2c (show 0 ≤ 0 ∧ 0 ≤ 500 from ⟨by omega, by omega⟩) (by decide)
  have f2 : mm_fr [(66, 39), (66, 48), (66, 53)] [91, 98] h (mm_pf h2c 66 48 0) := mm_fr_pf f2c (by decide)
  obtain ⟨h2, eh2⟩ : ∃ z, z = mm_pf h2c 66 48 0 := ⟨_, rfl⟩
  rw [← eh2] at i2 f2 ⊢
  have qh2 : h2.1 66 48 = 0 := by rw [eh2]; exact mm_pf_same _ _ _ _
  refine mm_aload_n C (mm_dec dk_X12_finds 6 rfl) rfl ?_
  refine mm_iconst C (mm_dec dk_X12_finds 7 rfl) ⟨by decide, by decide⟩ ?_
  refine mm_puti C fl_X12_332 (mm_dec dk_X12_finds 8 rfl) rfl rfl rfl (Or.inl ⟨rfl, rfl⟩) ?_
  have i3 : mm_inv (mm_pf h2 66 53 0) := mm_inv_pf i2 (show -2147483648 ≤ 0 ∧ 0 ≤ 2147483647 from ⟨by omega, by omega⟩) (by decide)
  have f3 : mm_fr [(66, 39), (66, 48), (66, 53)] [91, 98] h (mm_pf h2 66 53 0) := mm_fr_pf f2 (by decide)
  obtain ⟨h3, eh3⟩ : ∃ z, z = mm_pf h2 66 53 0 := ⟨_, rfl⟩
  rw [← eh3] at i3 f3 ⊢
  have qh3 : h3.1 66 53 = 0 := by rw [eh3]; exact mm_pf_same _ _ _ _
  have qh3_4 : h3.1 66 48 = h2.1 66 48 := by rw [eh3]; exact mm_pf_ne _ _ (by decide)
  refine mm_iconst C (mm_dec dk_X12_finds 9 rfl) ⟨by decide, by decide⟩ ?_
  have J17 : ∀ (n : Nat) (x17_3 : Int) (bx17_3 : 0 ≤ x17_3 ∧ x17_3 ≤ 500) (h17_ : mH) (i17_ : mm_inv h17_) (f17_ : mm_fr [(66, 39), (66, 48), (66, 53)] [91, 98] h h17_) (w17_0 : h17_.1 66 48 ≤ x17_3), (500 - x17_3 : Int) < n → mm_W x 0 0 17 [mR 66, mI p1, mI p2, mI x17_3, mU, mU, mU] [] h17_ := by
    intro n
    induction n with
    | zero =>
      intro x17_3 bx17_3 h17_ i17_ f17_ w17_0 hm
      have g5 : 0 ≤ h17_.1 66 48 ∧ h17_.1 66 48 ≤ 500 := i17_.1 66 48
      exfalso; omega
    | succ n ih17 =>
      intro x17_3 bx17_3 h17_ i17_ f17_ w17_0 hm17
      have g6 : 0 ≤ h17_.1 66 48 ∧ h17_.1 66 48 ≤ 500 := i17_.1 66 48
      refine mm_iload_n C (mm_dec dk_X12_finds 11 rfl) rfl ?_
      refine mm_aload_n C (mm_dec dk_X12_finds 12 rfl) rfl ?_
      refine mm_geti C fl_X12_228 (mm_dec dk_X12_finds 13 rfl) rfl rfl (Or.inl rfl) ?_
      have g7 : 0 ≤ (h17_.1 66 40) ∧ (h17_.1 66 40) ≤ 500 := i17_.1 66 40
      refine mm_icmp_ge (tgt := 201) C (mm_dec dk_X12_finds 14 rfl) (by decide) (fun c22 => ?_) (fun c22 => ?_)
      · skip
        exact mm_vret C T (mm_dec dk_X12_finds 110 rfl) (by decide : 0 ≤ 0) (by decide : 0 ≤ 0) ⟨rfl, ⟨i17_, f17_⟩⟩
      · skip
        refine mm_aload_n C (mm_dec dk_X12_finds 15 rfl) rfl ?_
        refine mm_getr (t := 92) C fl_X12_87 (mm_dec dk_X12_finds 16 rfl) rfl rfl (mm_ref i17_ rfl) ?_
        refine mm_iload_n C (mm_dec dk_X12_finds 17 rfl) rfl ?_
        refine mm_iald C (mm_dec dk_X12_finds 18 rfl) rfl (by omega) (by omega) ?_
        have g8 : -2147483648 ≤ (h17_.2.1 92 x17_3) ∧ (h17_.2.1 92 x17_3) ≤ 2147483647 := i17_.2.1 92 x17_3
        refine mm_iconst C (mm_dec dk_X12_finds 19 rfl) ⟨by decide, by decide⟩ ?_
        have J195 : ∀ (h195_ : mH) (i195_ : mm_inv h195_) (f195_ : mm_fr [(66, 39), (66, 48), (66, 53)] [91, 98] h h195_) (w195_0 : h195_.1 66 48 ≤ x17_3 + 1), mm_W x 0 0 195 [mR 66, mI p1, mI p2, mI x17_3, mU, mU, mU] [] h195_ := by
          intro h195_ i195_ f195_ w195_0
          have g9 : 0 ≤ h195_.1 66 48 ∧ h195_.1 66 48 ≤ 500 := i195_.1 66 48
          refine mm_iincL (ls2 := [mR 66, mI p1, mI p2, mI (x17_3 + 1), mU, mU, mU]) C (mm_dec dk_X12_finds 108 rfl) rfl (by decide) ⟨by omega, by omega⟩ rfl ?_
          refine mm_goto (tgt := 17) C (mm_dec dk_X12_finds 109 rfl) (by decide) ?_
          exact ih17 (x17_3 + 1) ⟨by omega, by omega⟩ h195_ i195_ f195_ (by omega) (by omega)
        refine mm_icmp_ne (tgt := 195) C (mm_dec dk_X12_finds 20 rfl) (by decide) (fun c32 => ?_) (fun c32 => ?_)
        · skip
          exact J195 h17_ i17_ f17_ (by omega)
        · skip
          refine mm_aload_n C (mm_dec dk_X12_finds 21 rfl) rfl ?_
          refine mm_getr (t := 93) C fl_X12_90 (mm_dec dk_X12_finds 22 rfl) rfl rfl (mm_ref i17_ rfl) ?_
          refine mm_iload_n C (mm_dec dk_X12_finds 23 rfl) rfl ?_
          refine mm_iald C (mm_dec dk_X12_finds 24 rfl) rfl (by omega) (by omega) ?_
          have g10 : -2147483648 ≤ (h17_.2.1 93 x17_3) ∧ (h17_.2.1 93 x17_3) ≤ 2147483647 := i17_.2.1 93 x17_3
          refine mm_iload_n C (mm_dec dk_X12_finds 25 rfl) rfl ?_
          refine mm_icmp_ne (tgt := 195) C (mm_dec dk_X12_finds 26 rfl) (by decide) (fun c42 => ?_) (fun c42 => ?_)
          · skip
            exact J195 h17_ i17_ f17_ (by omega)
          · skip
            refine mm_aload_n C (mm_dec dk_X12_finds 27 rfl) rfl ?_
            refine mm_iload_n C (mm_dec dk_X12_finds 28 rfl) rfl ?_
            refine mm_iload_n C (mm_dec dk_X12_finds 29 rfl) rfl ?_
            refine mm_cVi (rest := []) C1 ev_X12_319 (mm_dec dk_X12_finds 30 rfl) (c_X12_isKnown x.2.1 hl (d - 1) (by omega) h17_ i17_ x17_3 p2 ⟨by omega, by omega⟩) rfl rfl (Nat.le_of_ble_eq_true rfl) ⟨by decide, by decide⟩ rfl (fun r48 h48c hp48 => ?_) (fun _ _ q => q.elim)
            obtain ⟨z48, y48⟩ := hp48
            rw [z48]
            have g12 : -2147483648 ≤ (h17_.2.1 96 x17_3) ∧ (h17_.2.1 96 x17_3) ≤ 2147483647 := i17_.2.1 96 x17_3
            have g13 : -2147483648 ≤ (h17_.2.1 97 x17_3) ∧ (h17_.2.1 97 x17_3) ≤ 2147483647 := i17_.2.1 97 x17_3
            refine mm_if_ne (tgt := 57) C (mm_dec dk_X12_finds 31 rfl) (by decide) (fun c51 => ?_) (fun c51 => ?_)
            · skip
              refine mm_aload_n C (mm_dec dk_X12_finds 33 rfl) rfl ?_
              refine mm_geti C fl_X12_329 (mm_dec dk_X12_finds 34 rfl) rfl rfl (Or.inl rfl) ?_
              have J63 : ∀ (n : Nat) (x63_4 : Int) (bx63_4 : 0 ≤ x63_4 ∧ x63_4 ≤ 500) (h63_ : mH) (i63_ : mm_inv h63_) (f63_ : mm_fr [(66, 39), (66, 48), (66, 53)] [91, 98] h h63_) (w63_0 : h63_.1 66 48 ≤ x17_3) (w63_1 : x63_4 ≤ h63_.1 66 48), (x63_4 - (0) : Int) < n → mm_W x 0 0 63 [mR 66, mI p1, mI p2, mI x17_3, mI x63_4, mU, mU] [] h63_ := by
                intro n
                induction n with
                | zero =>
                  intro x63_4 bx63_4 h63_ i63_ f63_ w63_0 w63_1 hm
                  have g14 : 0 ≤ h63_.1 66 48 ∧ h63_.1 66 48 ≤ 500 := i63_.1 66 48
                  exfalso; omega
                | succ n ih63 =>
                  intro x63_4 bx63_4 h63_ i63_ f63_ w63_0 w63_1 hm63
                  have g15 : 0 ≤ h63_.1 66 48 ∧ h63_.1 66 48 ≤ 500 := i63_.1 66 48
                  refine mm_iload C (mm_dec dk_X12_finds 36 rfl) rfl ?_
                  have J113 : ∀ (w113_0 : h63_.1 66 48 ≤ x17_3), mm_W x 0 0 113 [mR 66, mI p1, mI p2, mI x17_3, mI x63_4, mU, mU] [] h63_ := by
                    intro w113_0
                    have g16 : 0 ≤ h63_.1 66 48 ∧ h63_.1 66 48 ≤ 500 := i63_.1 66 48
                    refine mm_aload_n C (mm_dec dk_X12_finds 64 rfl) rfl ?_
                    refine mm_getr (t := 98) C fl_X12_105 (mm_dec dk_X12_finds 65 rfl) rfl rfl (mm_ref i63_ rfl) ?_
                    refine mm_iload C (mm_dec dk_X12_finds 66 rfl) rfl ?_
                    refine mm_iload_n C (mm_dec dk_X12_finds 67 rfl) rfl ?_
                    refine mm_iast C (mm_dec dk_X12_finds 68 rfl) rfl (by omega) (by omega) ?_
                    have i4 : mm_inv (mm_pa h63_ 98 x63_4 x17_3) := mm_inv_pa i63_ (show 0 ≤ x17_3 ∧ x17_3 ≤ 499 from ⟨by omega, by omega⟩)
                    have f4 : mm_fr [(66, 39), (66, 48), (66, 53)] [91, 98] h (mm_pa h63_ 98 x63_4 x17_3) := mm_fr_pa f63_ (by decide)
                    obtain ⟨h4, eh4⟩ : ∃ z, z = mm_pa h63_ 98 x63_4 x17_3 := ⟨_, rfl⟩
                    rw [← eh4] at i4 f4 ⊢
                    have qh4_17 : h4.1 66 48 = h63_.1 66 48 := by rw [eh4]; rfl
                    refine mm_aload_n C (mm_dec dk_X12_finds 69 rfl) rfl ?_
                    refine mm_dup C (mm_dec dk_X12_finds 70 rfl) (show (2 : Nat) ≠ 1 by decide) ?_
                    refine mm_geti C fl_X12_329 (mm_dec dk_X12_finds 71 rfl) rfl rfl (Or.inl rfl) ?_
                    refine mm_iconst C (mm_dec dk_X12_finds 72 rfl) ⟨by decide, by decide⟩ ?_
                    refine mm_iadd C (mm_dec dk_X12_finds 73 rfl) ⟨by omega, by omega⟩ ?_
                    refine mm_puti C fl_X12_329 (mm_dec dk_X12_finds 74 rfl) rfl rfl rfl (Or.inl ⟨rfl, rfl⟩) ?_
                    have i5 : mm_inv (mm_pf h4 66 48 ((h4.1 66 48) + 1)) := mm_inv_pf i4 (show 0 ≤ ((h4.1 66 48) + 1) ∧ ((h4.1 66 48) + 1) ≤ 500 from ⟨by omega, by omega⟩) (by decide)
                    have f5 : mm_fr [(66, 39), (66, 48), (66, 53)] [91, 98] h (mm_pf h4 66 48 ((h4.1 66 48) + 1)) := mm_fr_pf f4 (by decide)
                    obtain ⟨h5, eh5⟩ : ∃ z, z = mm_pf h4 66 48 ((h4.1 66 48) + 1) := ⟨_, rfl⟩
                    rw [← eh5] at i5 f5 ⊢
                    have qh5 : h5.1 66 48 = ((h4.1 66 48) + 1) := by rw [eh5]; exact mm_pf_same _ _ _ _
                    refine mm_iconst C (mm_dec dk_X12_finds 75 rfl) ⟨by decide, by decide⟩ ?_
                    refine mm_istoreL (ls2 := [mR 66, mI p1, mI p2, mI x17_3, mI x63_4, mI 0, mU]) C (mm_dec dk_X12_finds 76 rfl) (by decide) rfl ?_
                    refine mm_iconst C (mm_dec dk_X12_finds 77 rfl) ⟨by decide, by decide⟩ ?_
                    have J137 : ∀ (n : Nat) (x137_5 : Int) (bx137_5 : 0 ≤ x137_5 ∧ x137_5 ≤ 1) (x137_6 : Int) (bx137_6 : 0 ≤ x137_6 ∧ x137_6 ≤ 12) (w137_0 : h5.1 66 48 ≤ x17_3 + 1), (12 - x137_6 : Int) < n → mm_W x 0 0 137 [mR 66, mI p1, mI p2, mI x17_3, mU, mI x137_5, mI x137_6] [] h5 := by
                      intro n
                      induction n with
                      | zero =>
                        intro x137_5 bx137_5 x137_6 bx137_6 w137_0 hm
                        exfalso; omega
                      | succ n ih137 =>
                        intro x137_5 bx137_5 x137_6 bx137_6 w137_0 hm137
                        refine mm_iload C (mm_dec dk_X12_finds 79 rfl) rfl ?_
                        refine mm_aload_n C (mm_dec dk_X12_finds 80 rfl) rfl ?_
                        refine mm_geti C fl_X12_296 (mm_dec dk_X12_finds 81 rfl) rfl rfl (Or.inl rfl) ?_
                        have g18 : 0 ≤ (h5.1 66 39) ∧ (h5.1 66 39) ≤ 12 := i5.1 66 39
                        refine mm_icmp_ge (tgt := 180) C (mm_dec dk_X12_finds 82 rfl) (by decide) (fun c143 => ?_) (fun c143 => ?_)
                        · skip
                          refine mm_iload C (mm_dec dk_X12_finds 100 rfl) rfl ?_
                          refine mm_if_ne (tgt := 195) C (mm_dec dk_X12_finds 101 rfl) (by decide) (fun c182 => ?_) (fun c182 => ?_)
                          · skip
                            refine mm_fgt 5 ?_
                            refine mm_fgt 6 ?_
                            exact J195 h5 i5 f5 (by omega)
                          · skip
                            refine mm_aload_n C (mm_dec dk_X12_finds 102 rfl) rfl ?_
                            refine mm_dup C (mm_dec dk_X12_finds 103 rfl) (show (2 : Nat) ≠ 1 by decide) ?_
                            refine mm_geti C fl_X12_332 (mm_dec dk_X12_finds 104 rfl) rfl rfl (Or.inl rfl) ?_
                            have g19 : -2147483648 ≤ (h5.1 66 53) ∧ (h5.1 66 53) ≤ 2147483647 := i5.1 66 53
                            refine mm_iconst C (mm_dec dk_X12_finds 105 rfl) ⟨by decide, by decide⟩ ?_
                            refine mm_iaddw C (mm_dec dk_X12_finds 106 rfl) ?_
                            have g20 : -2147483648 ≤ (mm_w ((h5.1 66 53) + 1)) ∧ (mm_w ((h5.1 66 53) + 1)) < 2147483648 := mm_w_rg _
                            refine mm_puti C fl_X12_332 (mm_dec dk_X12_finds 107 rfl) rfl rfl rfl (Or.inl ⟨rfl, rfl⟩) ?_
                            have i6 : mm_inv (mm_pf h5 66 53 (mm_w ((h5.1 66 53) + 1))) := mm_inv_pf i5 (show -2147483648 ≤ (mm_w ((h5.1 66 53) + 1)) ∧ (mm_w ((h5.1 66 53) + 1)) ≤ 2147483647 from ⟨by omega, by omega⟩) (by decide)
                            have f6 : mm_fr [(66, 39), (66, 48), (66, 53)] [91, 98] h (mm_pf h5 66 53 (mm_w ((h5.1 66 53) + 1))) := mm_fr_pf f5 (by decide)
                            obtain ⟨h6, eh6⟩ : ∃ z, z = mm_pf h5 66 53 (mm_w ((h5.1 66 53) + 1)) := ⟨_, rfl⟩
                            rw [← eh6] at i6 f6 ⊢
                            have qh6 : h6.1 66 53 = (mm_w ((h5.1 66 53) + 1)) := by rw [eh6]; exact mm_pf_same _ _ _ _
                            have qh6_21 : h6.1 66 39 = h5.1 66 39 := by rw [eh6]; exact mm_pf_ne _ _ (by decide)
                            have qh6_22 : h6.1 66 48 = h5.1 66 48 := by rw [eh6]; exact mm_pf_ne _ _ (by decide)
                            refine mm_fgt 5 ?_
                            refine mm_fgt 6 ?_
                            exact J195 h6 i6 f6 (by omega)
                        · skip
                          refine mm_iload C (mm_dec dk_X12_finds 83 rfl) rfl ?_
                          have J172 : ∀ (s172_0 : Int) (bs172_0 : 0 ≤ s172_0 ∧ s172_0 ≤ 1) (vs172_0 : (x137_5 = 0 ∧ (h5.2.1 91 x137_6) ≠ (h5.2.1 94 x17_3) ∧ s172_0 = 0) ∨ (s172_0 = 1)), mm_W x 0 0 172 [mR 66, mI p1, mI p2, mI x17_3, mU, mU, mI x137_6] [mI s172_0] h5 := by
                            intro s172_0 bs172_0 vs172_0
                            refine mm_istoreL (ls2 := [mR 66, mI p1, mI p2, mI x17_3, mU, mI s172_0, mI x137_6]) C (mm_dec dk_X12_finds 97 rfl) (by decide) rfl ?_
                            refine mm_iincL (ls2 := [mR 66, mI p1, mI p2, mI x17_3, mU, mI s172_0, mI (x137_6 + 1)]) C (mm_dec dk_X12_finds 98 rfl) rfl (by decide) ⟨by omega, by omega⟩ rfl ?_
                            refine mm_goto (tgt := 137) C (mm_dec dk_X12_finds 99 rfl) (by decide) ?_
                            exact ih137 s172_0 ⟨by omega, by omega⟩ (x137_6 + 1) ⟨by omega, by omega⟩ (by omega) (by omega)
                          have J167 : mm_W x 0 0 167 [mR 66, mI p1, mI p2, mI x17_3, mU, mU, mI x137_6] [] h5 := by
                            refine mm_iconst C (mm_dec dk_X12_finds 94 rfl) ⟨by decide, by decide⟩ ?_
                            refine mm_goto (tgt := 172) C (mm_dec dk_X12_finds 95 rfl) (by decide) ?_
                            exact J172 1 ⟨by omega, by omega⟩ (Or.inr (rfl))
                          refine mm_if_ne (tgt := 167) C (mm_dec dk_X12_finds 84 rfl) (by decide) (fun c148 => ?_) (fun c148 => ?_)
                          · skip
                            refine mm_fgt 5 ?_
                            exact J167
                          · skip
                            refine mm_aload_n C (mm_dec dk_X12_finds 85 rfl) rfl ?_
                            refine mm_getr (t := 91) C fl_X12_84 (mm_dec dk_X12_finds 86 rfl) rfl rfl (mm_ref i5 rfl) ?_
                            refine mm_iload C (mm_dec dk_X12_finds 87 rfl) rfl ?_
                            refine mm_iald C (mm_dec dk_X12_finds 88 rfl) rfl (by omega) (by omega) ?_
                            have g23 : 0 ≤ (h5.2.1 91 x137_6) ∧ (h5.2.1 91 x137_6) ≤ 19 := i5.2.1 91 x137_6
                            refine mm_aload_n C (mm_dec dk_X12_finds 89 rfl) rfl ?_
                            refine mm_getr (t := 94) C fl_X12_93 (mm_dec dk_X12_finds 90 rfl) rfl rfl (mm_ref i5 rfl) ?_
                            refine mm_iload_n C (mm_dec dk_X12_finds 91 rfl) rfl ?_
                            refine mm_iald C (mm_dec dk_X12_finds 92 rfl) rfl (by omega) (by omega) ?_
                            have g24 : -2147483648 ≤ (h5.2.1 94 x17_3) ∧ (h5.2.1 94 x17_3) ≤ 2147483647 := i5.2.1 94 x17_3
                            refine mm_icmp_ne (tgt := 171) C (mm_dec dk_X12_finds 93 rfl) (by decide) (fun c164 => ?_) (fun c164 => ?_)
                            · skip
                              refine mm_iconst C (mm_dec dk_X12_finds 96 rfl) ⟨by decide, by decide⟩ ?_
                              refine mm_fgt 5 ?_
                              exact J172 0 ⟨by omega, by omega⟩ (Or.inl ⟨by omega, by omega, rfl⟩)
                            · skip
                              refine mm_fgt 5 ?_
                              exact J167
                    refine mm_istoreL (ls2 := [mR 66, mI p1, mI p2, mI x17_3, mI x63_4, mI 0, mI 0]) C (mm_dec dk_X12_finds 78 rfl) (by decide) rfl ?_
                    refine mm_fgt 4 ?_
                    exact J137 (((12 - 0) : Int) + 1).toNat 0 ⟨by omega, by omega⟩ 0 ⟨by omega, by omega⟩ (by omega) (by omega)
                  refine mm_if_le (tgt := 113) C (mm_dec dk_X12_finds 37 rfl) (by decide) (fun c65 => ?_) (fun c65 => ?_)
                  · skip
                    exact J113 (by omega)
                  · skip
                    refine mm_aload_n C (mm_dec dk_X12_finds 38 rfl) rfl ?_
                    refine mm_getr (t := 95) C fl_X12_96 (mm_dec dk_X12_finds 39 rfl) rfl rfl (mm_ref i63_ rfl) ?_
                    refine mm_aload_n C (mm_dec dk_X12_finds 40 rfl) rfl ?_
                    refine mm_getr (t := 98) C fl_X12_105 (mm_dec dk_X12_finds 41 rfl) rfl rfl (mm_ref i63_ rfl) ?_
                    refine mm_iload C (mm_dec dk_X12_finds 42 rfl) rfl ?_
                    refine mm_iconst C (mm_dec dk_X12_finds 43 rfl) ⟨by decide, by decide⟩ ?_
                    refine mm_isub C (mm_dec dk_X12_finds 44 rfl) ⟨by omega, by omega⟩ ?_
                    refine mm_iald C (mm_dec dk_X12_finds 45 rfl) rfl (by omega) (by omega) ?_
                    have g25 : 0 ≤ (h63_.2.1 98 (x63_4 - 1)) ∧ (h63_.2.1 98 (x63_4 - 1)) ≤ 499 := i63_.2.1 98 (x63_4 - 1)
                    refine mm_iald C (mm_dec dk_X12_finds 46 rfl) rfl (by omega) (by omega) ?_
                    have g26 : -2147483648 ≤ (h63_.2.1 95 (h63_.2.1 98 (x63_4 - 1))) ∧ (h63_.2.1 95 (h63_.2.1 98 (x63_4 - 1))) ≤ 2147483647 := i63_.2.1 95 (h63_.2.1 98 (x63_4 - 1))
                    refine mm_aload_n C (mm_dec dk_X12_finds 47 rfl) rfl ?_
                    refine mm_getr (t := 95) C fl_X12_96 (mm_dec dk_X12_finds 48 rfl) rfl rfl (mm_ref i63_ rfl) ?_
                    refine mm_iload_n C (mm_dec dk_X12_finds 49 rfl) rfl ?_
                    refine mm_iald C (mm_dec dk_X12_finds 50 rfl) rfl (by omega) (by omega) ?_
                    have g27 : -2147483648 ≤ (h63_.2.1 95 x17_3) ∧ (h63_.2.1 95 x17_3) ≤ 2147483647 := i63_.2.1 95 x17_3
                    refine mm_icmp_le (tgt := 113) C (mm_dec dk_X12_finds 51 rfl) (by decide) (fun c88 => ?_) (fun c88 => ?_)
                    · skip
                      exact J113 (by omega)
                    · skip
                      refine mm_aload_n C (mm_dec dk_X12_finds 52 rfl) rfl ?_
                      refine mm_getr (t := 98) C fl_X12_105 (mm_dec dk_X12_finds 53 rfl) rfl rfl (mm_ref i63_ rfl) ?_
                      refine mm_iload C (mm_dec dk_X12_finds 54 rfl) rfl ?_
                      refine mm_aload_n C (mm_dec dk_X12_finds 55 rfl) rfl ?_
                      refine mm_getr (t := 98) C fl_X12_105 (mm_dec dk_X12_finds 56 rfl) rfl rfl (mm_ref i63_ rfl) ?_
                      refine mm_iload C (mm_dec dk_X12_finds 57 rfl) rfl ?_
                      refine mm_iconst C (mm_dec dk_X12_finds 58 rfl) ⟨by decide, by decide⟩ ?_
                      refine mm_isub C (mm_dec dk_X12_finds 59 rfl) ⟨by omega, by omega⟩ ?_
                      refine mm_iald C (mm_dec dk_X12_finds 60 rfl) rfl (by omega) (by omega) ?_
                      refine mm_iast C (mm_dec dk_X12_finds 61 rfl) rfl (by omega) (by omega) ?_
                      have i7 : mm_inv (mm_pa h63_ 98 x63_4 (h63_.2.1 98 (x63_4 - 1))) := mm_inv_pa i63_ (show 0 ≤ (h63_.2.1 98 (x63_4 - 1)) ∧ (h63_.2.1 98 (x63_4 - 1)) ≤ 499 from ⟨by omega, by omega⟩)
                      have f7 : mm_fr [(66, 39), (66, 48), (66, 53)] [91, 98] h (mm_pa h63_ 98 x63_4 (h63_.2.1 98 (x63_4 - 1))) := mm_fr_pa f63_ (by decide)
                      obtain ⟨h7, eh7⟩ : ∃ z, z = mm_pa h63_ 98 x63_4 (h63_.2.1 98 (x63_4 - 1)) := ⟨_, rfl⟩
                      rw [← eh7] at i7 f7 ⊢
                      have qh7_28 : h7.1 66 48 = h63_.1 66 48 := by rw [eh7]; rfl
                      refine mm_iincL (ls2 := [mR 66, mI p1, mI p2, mI x17_3, mI (x63_4 + (-1)), mU, mU]) C (mm_dec dk_X12_finds 62 rfl) rfl (by decide) ⟨by omega, by omega⟩ rfl ?_
                      refine mm_goto (tgt := 63) C (mm_dec dk_X12_finds 63 rfl) (by decide) ?_
                      exact ih63 (x63_4 + (-1)) ⟨by omega, by omega⟩ h7 i7 f7 (by omega) (by omega) (by omega)
              refine mm_istoreL (ls2 := [mR 66, mI p1, mI p2, mI x17_3, mI (h17_.1 66 48), mU, mU]) C (mm_dec dk_X12_finds 35 rfl) (by decide) rfl ?_
              exact J63 ((((h17_.1 66 48) - (0)) : Int) + 1).toNat (h17_.1 66 48) ⟨by omega, by omega⟩ h17_ i17_ f17_ (by omega) (by omega) (by omega)
            · skip
              refine mm_goto (tgt := 195) C (mm_dec dk_X12_finds 32 rfl) (by decide) ?_
              exact J195 h17_ i17_ f17_ (by omega)
  refine mm_istore_nL (ls2 := [mR 66, mI p1, mI p2, mI 0, mU, mU, mU]) C (mm_dec dk_X12_finds 10 rfl) (by decide) rfl ?_
  exact J17 (((500 - 0) : Int) + 1).toNat 0 ⟨by omega, by omega⟩ h3 i3 f3 (by omega) (by omega)
set_option maxRecDepth 100000 in
set_option maxHeartbeats 4000000 in
theorem c_X12_nextPunch (l : Launch) (hl : l.stackTraces = false) (d : Nat) (hd : 0 ≤ d) (h : mH) (i0 : mm_inv h) (p1 : Int) (p2 : Int) (bp1 : 0 ≤ p1 ∧ p1 ≤ 11) (bp2 : 0 ≤ p2 ∧ p2 ≤ 500) : mm_Met l d yX12_nextPunch cX12_nextPunch 4 (some .int) [mR 66, mI p1, mI p2] h (mm_pi fun r h2 => (-1 ≤ r ∧ r ≤ 499) ∧ h2 = h) mm_nx 0 0 := by
  refine mm_ofW (ls := [mR 66, mI p1, mI p2, mU]) hl (by decide) rfl (Nat.le_of_ble_eq_true rfl) ?_
  intro x hxl C T hnm htb
  subst hxl
  refine mm_rng (fun hr _ => ?_)
  have ap1 : -2147483648 ≤ p1 ∧ p1 < 2147483648 := mm_ok_at hr (i := 1) rfl
  have ap2 : -2147483648 ≤ p2 ∧ p2 < 2147483648 := mm_ok_at hr (i := 2) rfl
  have f0 : mm_fr [] [] h h := mm_fr_rf
  refine mm_iload_n C (mm_dec dk_X12_nextPunch 0 rfl) rfl ?_
  have J2 : ∀ (n : Nat) (x2_3 : Int) (bx2_3 : 0 ≤ x2_3 ∧ x2_3 ≤ 500), (500 - x2_3 : Int) < n → mm_W x 0 0 2 [mR 66, mI p1, mU, mI x2_3] [] h := by
    intro n
    induction n with
    | zero =>
      intro x2_3 bx2_3 hm
      exfalso; omega
    | succ n ih2 =>
      intro x2_3 bx2_3 hm2
      refine mm_iload_n C (mm_dec dk_X12_nextPunch 2 rfl) rfl ?_
      refine mm_aload_n C (mm_dec dk_X12_nextPunch 3 rfl) rfl ?_
      refine mm_geti C fl_X12_329 (mm_dec dk_X12_nextPunch 4 rfl) rfl rfl (Or.inl rfl) ?_
      have g1 : 0 ≤ (h.1 66 48) ∧ (h.1 66 48) ≤ 500 := i0.1 66 48
      refine mm_icmp_ge (tgt := 38) C (mm_dec dk_X12_nextPunch 5 rfl) (by decide) (fun c7 => ?_) (fun c7 => ?_)
      · skip
        refine mm_iconst C (mm_dec dk_X12_nextPunch 22 rfl) ⟨by decide, by decide⟩ ?_
        exact mm_iret C T (mm_dec dk_X12_nextPunch 23 rfl) (by decide : 0 ≤ 0) (by decide : 0 ≤ 0) ⟨_, rfl, ⟨⟨by omega, by omega⟩, rfl⟩⟩
      · skip
        refine mm_aload_n C (mm_dec dk_X12_nextPunch 6 rfl) rfl ?_
        refine mm_getr (t := 94) C fl_X12_93 (mm_dec dk_X12_nextPunch 7 rfl) rfl rfl (mm_ref i0 rfl) ?_
        refine mm_aload_n C (mm_dec dk_X12_nextPunch 8 rfl) rfl ?_
        refine mm_getr (t := 98) C fl_X12_105 (mm_dec dk_X12_nextPunch 9 rfl) rfl rfl (mm_ref i0 rfl) ?_
        refine mm_iload_n C (mm_dec dk_X12_nextPunch 10 rfl) rfl ?_
        refine mm_iald C (mm_dec dk_X12_nextPunch 11 rfl) rfl (by omega) (by omega) ?_
        have g2 : 0 ≤ (h.2.1 98 x2_3) ∧ (h.2.1 98 x2_3) ≤ 499 := i0.2.1 98 x2_3
        refine mm_iald C (mm_dec dk_X12_nextPunch 12 rfl) rfl (by omega) (by omega) ?_
        have g3 : -2147483648 ≤ (h.2.1 94 (h.2.1 98 x2_3)) ∧ (h.2.1 94 (h.2.1 98 x2_3)) ≤ 2147483647 := i0.2.1 94 (h.2.1 98 x2_3)
        refine mm_aload_n C (mm_dec dk_X12_nextPunch 13 rfl) rfl ?_
        refine mm_getr (t := 91) C fl_X12_84 (mm_dec dk_X12_nextPunch 14 rfl) rfl rfl (mm_ref i0 rfl) ?_
        refine mm_iload_n C (mm_dec dk_X12_nextPunch 15 rfl) rfl ?_
        refine mm_iald C (mm_dec dk_X12_nextPunch 16 rfl) rfl (by omega) (by omega) ?_
        have g4 : 0 ≤ (h.2.1 91 p1) ∧ (h.2.1 91 p1) ≤ 19 := i0.2.1 91 p1
        refine mm_icmp_ne (tgt := 32) C (mm_dec dk_X12_nextPunch 17 rfl) (by decide) (fun c27 => ?_) (fun c27 => ?_)
        · skip
          refine mm_iincL (ls2 := [mR 66, mI p1, mU, mI (x2_3 + 1)]) C (mm_dec dk_X12_nextPunch 20 rfl) rfl (by decide) ⟨by omega, by omega⟩ rfl ?_
          refine mm_goto (tgt := 2) C (mm_dec dk_X12_nextPunch 21 rfl) (by decide) ?_
          exact ih2 (x2_3 + 1) ⟨by omega, by omega⟩ (by omega)
        · skip
          refine mm_iload_n C (mm_dec dk_X12_nextPunch 18 rfl) rfl ?_
          exact mm_iret C T (mm_dec dk_X12_nextPunch 19 rfl) (by decide : 0 ≤ 0) (by decide : 0 ≤ 0) ⟨_, rfl, ⟨⟨by omega, by omega⟩, rfl⟩⟩
  refine mm_istore_nL (ls2 := [mR 66, mI p1, mI p2, mI p2]) C (mm_dec dk_X12_nextPunch 1 rfl) (by decide) rfl ?_
  refine mm_fgt 2 ?_
  exact J2 (((500 - p2) : Int) + 1).toNat p2 ⟨by omega, by omega⟩ (by omega)
set_option maxRecDepth 100000 in
set_option maxHeartbeats 4000000 in
theorem c_X12_inOrder (l : Launch) (hl : l.stackTraces = false) (d : Nat) (hd : 1 ≤ d) (h : mH) (i0 : mm_inv h) : mm_Met l d yX12_inOrder cX12_inOrder 6 none [mR 66] h (mm_pv fun h2 => mm_inv h2 ∧ mm_fr [(66, 52)] [99, 100] h h2) mm_nx 0 0 := by
  refine mm_ofW (ls := [mR 66, mU, mU, mU, mU, mU]) hl (by decide) rfl (Nat.le_of_ble_eq_true rfl) ?_
  intro x hxl C T hnm htb
  subst hxl
  have C1 := mm_OK_le (d' := d - 1 + 1) (by omega) C
  have f0 : mm_fr [(66, 52)] [99, 100] h h := mm_fr_rf
  refine mm_bipush C (mm_dec dk_X12_inOrder 0 rfl) ⟨by decide, by decide⟩ ?_
  have J3 : ∀ (n : Nat) (x3_1 : Int) (bx3_1 : -1 ≤ x3_1 ∧ x3_1 ≤ 12) (h3_ : mH) (i3_ : mm_inv h3_) (f3_ : mm_fr [(66, 52)] [99, 100] h h3_), (x3_1 - (-1) : Int) < n → mm_W x 0 0 3 [mR 66, mI x3_1, mU, mU, mU, mU] [] h3_ := by
    intro n
    induction n with
    | zero =>
      intro x3_1 bx3_1 h3_ i3_ f3_ hm
      exfalso; omega
    | succ n ih3 =>
      intro x3_1 bx3_1 h3_ i3_ f3_ hm3
      refine mm_iload_n C (mm_dec dk_X12_inOrder 2 rfl) rfl ?_
      refine mm_if_lt (tgt := 166) C (mm_dec dk_X12_inOrder 3 rfl) (by decide) (fun c4 => ?_) (fun c4 => ?_)
      · skip
        refine mm_iconst C (mm_dec dk_X12_inOrder 103 rfl) ⟨by decide, by decide⟩ ?_
        refine mm_istore_nL (ls2 := [mR 66, mI 0, mU, mU, mU, mU]) C (mm_dec dk_X12_inOrder 104 rfl) (by decide) rfl ?_
        refine mm_aload_n C (mm_dec dk_X12_inOrder 105 rfl) rfl ?_
        refine mm_getr (t := 99) C fl_X12_108 (mm_dec dk_X12_inOrder 106 rfl) rfl rfl (mm_ref i3_ rfl) ?_
        refine mm_iconst C (mm_dec dk_X12_inOrder 107 rfl) ⟨by decide, by decide⟩ ?_
        refine mm_iald C (mm_dec dk_X12_inOrder 108 rfl) rfl (by omega) (by omega) ?_
        have g1 : -2147483648 ≤ (h3_.2.1 99 0) ∧ (h3_.2.1 99 0) ≤ 2147483647 := i3_.2.1 99 0
        refine mm_istore_nL (ls2 := [mR 66, mI 0, mI (h3_.2.1 99 0), mU, mU, mU]) C (mm_dec dk_X12_inOrder 109 rfl) (by decide) rfl ?_
        refine mm_aload_n C (mm_dec dk_X12_inOrder 110 rfl) rfl ?_
        refine mm_aload_n C (mm_dec dk_X12_inOrder 111 rfl) rfl ?_
        refine mm_geti C fl_X12_296 (mm_dec dk_X12_inOrder 112 rfl) rfl rfl (Or.inl rfl) ?_
        have g2 : 0 ≤ (h3_.1 66 39) ∧ (h3_.1 66 39) ≤ 12 := i3_.1 66 39
        refine mm_iload_n C (mm_dec dk_X12_inOrder 113 rfl) rfl ?_
        refine mm_isubw C (mm_dec dk_X12_inOrder 114 rfl) ?_
        have g3 : -2147483648 ≤ (mm_w ((h3_.1 66 39) - (h3_.2.1 99 0))) ∧ (mm_w ((h3_.1 66 39) - (h3_.2.1 99 0))) < 2147483648 := mm_w_rg _
        refine mm_puti C fl_X12_341 (mm_dec dk_X12_inOrder 115 rfl) rfl rfl rfl (Or.inl ⟨rfl, rfl⟩) ?_
        have i1 : mm_inv (mm_pf h3_ 66 52 (mm_w ((h3_.1 66 39) - (h3_.2.1 99 0)))) := mm_inv_pf i3_ (show -2147483648 ≤ (mm_w ((h3_.1 66 39) - (h3_.2.1 99 0))) ∧ (mm_w ((h3_.1 66 39) - (h3_.2.1 99 0))) ≤ 2147483647 from ⟨by omega, by omega⟩) (by decide)
        have f1 : mm_fr [(66, 52)] [99, 100] h (mm_pf h3_ 66 52 (mm_w ((h3_.1 66 39) - (h3_.2.1 99 0)))) := mm_fr_pf f3_ (by decide)
        obtain ⟨h1, eh1⟩ : ∃ z, z = mm_pf h3_ 66 52 (mm_w ((h3_.1 66 39) - (h3_.2.1 99 0))) := ⟨_, rfl⟩
        rw [← eh1] at i1 f1 ⊢
        have qh1 : h1.1 66 52 = (mm_w ((h3_.1 66 39) - (h3_.2.1 99 0))) := by rw [eh1]; exact mm_pf_same _ _ _ _
        have qh1_4 : h1.1 66 39 = h3_.1 66 39 := by rw [eh1]; exact mm_pf_ne _ _ (by decide)
        refine mm_iconst C (mm_dec dk_X12_inOrder 116 rfl) ⟨by decide, by decide⟩ ?_
        have J187 : ∀ (n : Nat) (x187_1 : Int) (bx187_1 : 0 ≤ x187_1 ∧ x187_1 ≤ 500) (x187_2 : Int) (bx187_2 : -2147483648 ≤ x187_2 ∧ x187_2 ≤ 2147483647) (x187_3 : Int) (bx187_3 : 0 ≤ x187_3 ∧ x187_3 ≤ 12) (h187_ : mH) (i187_ : mm_inv h187_) (f187_ : mm_fr [(66, 52)] [99, 100] h h187_), (12 - x187_3 : Int) < n → mm_W x 0 0 187 [mR 66, mI x187_1, mI x187_2, mI x187_3, mU, mU] [] h187_ := by
          intro n
          induction n with
          | zero =>
            intro x187_1 bx187_1 x187_2 bx187_2 x187_3 bx187_3 h187_ i187_ f187_ hm
            exfalso; omega
          | succ n ih187 =>
            intro x187_1 bx187_1 x187_2 bx187_2 x187_3 bx187_3 h187_ i187_ f187_ hm187
            refine mm_iload_n C (mm_dec dk_X12_inOrder 118 rfl) rfl ?_
            refine mm_aload_n C (mm_dec dk_X12_inOrder 119 rfl) rfl ?_
            refine mm_geti C fl_X12_296 (mm_dec dk_X12_inOrder 120 rfl) rfl rfl (Or.inl rfl) ?_
            have g5 : 0 ≤ (h187_.1 66 39) ∧ (h187_.1 66 39) ≤ 12 := i187_.1 66 39
            have J261 : mm_W x 0 0 261 [mU, mU, mU, mU, mU, mU] [] h187_ := by
              exact mm_vret C T (mm_dec dk_X12_inOrder 161 rfl) (by decide : 0 ≤ 0) (by decide : 0 ≤ 0) ⟨rfl, ⟨i187_, f187_⟩⟩
            refine mm_icmp_ge (tgt := 261) C (mm_dec dk_X12_inOrder 121 rfl) (by decide) (fun c192 => ?_) (fun c192 => ?_)
            · skip
              refine mm_fgt 0 ?_
              refine mm_fgt 1 ?_
              refine mm_fgt 2 ?_
              refine mm_fgt 3 ?_
              exact J261
            · skip
              refine mm_iload_n C (mm_dec dk_X12_inOrder 122 rfl) rfl ?_
              refine mm_if_le (tgt := 261) C (mm_dec dk_X12_inOrder 123 rfl) (by decide) (fun c196 => ?_) (fun c196 => ?_)
              · skip
                refine mm_fgt 0 ?_
                refine mm_fgt 1 ?_
                refine mm_fgt 2 ?_
                refine mm_fgt 3 ?_
                exact J261
              · skip
                refine mm_aload_n C (mm_dec dk_X12_inOrder 124 rfl) rfl ?_
                refine mm_iload_n C (mm_dec dk_X12_inOrder 125 rfl) rfl ?_
                refine mm_iload_n C (mm_dec dk_X12_inOrder 126 rfl) rfl ?_
                refine mm_cVi (rest := []) C1 ev_X12_338 (mm_dec dk_X12_inOrder 127 rfl) (c_X12_nextPunch x.2.1 hl (d - 1) (by omega) h187_ i187_ x187_3 x187_1 ⟨by omega, by omega⟩ ⟨by omega, by omega⟩) rfl rfl (Nat.le_of_ble_eq_true rfl) ⟨by decide, by decide⟩ rfl (fun r202 h202c hp202 => ?_) (fun _ _ q => q.elim)
                obtain ⟨b202, z202⟩ := hp202
                rw [z202]
                refine mm_istoreL (ls2 := [mR 66, mI x187_1, mI x187_2, mI x187_3, mI r202, mU]) C (mm_dec dk_X12_inOrder 128 rfl) (by decide) rfl ?_
                refine mm_iload C (mm_dec dk_X12_inOrder 129 rfl) rfl ?_
                refine mm_iconst C (mm_dec dk_X12_inOrder 130 rfl) ⟨by decide, by decide⟩ ?_
                have J255 : ∀ (x255_1 : Int) (bx255_1 : 0 ≤ x255_1 ∧ x255_1 ≤ 500) (x255_2 : Int) (bx255_2 : 0 ≤ x255_2 ∧ x255_2 ≤ 2147483647) (h255_ : mH) (i255_ : mm_inv h255_) (f255_ : mm_fr [(66, 52)] [99, 100] h h255_), mm_W x 0 0 255 [mR 66, mI x255_1, mI x255_2, mI x187_3, mU, mU] [] h255_ := by
                  intro x255_1 bx255_1 x255_2 bx255_2 h255_ i255_ f255_
                  refine mm_iincL (ls2 := [mR 66, mI x255_1, mI x255_2, mI (x187_3 + 1), mU, mU]) C (mm_dec dk_X12_inOrder 159 rfl) rfl (by decide) ⟨by omega, by omega⟩ rfl ?_
                  refine mm_goto (tgt := 187) C (mm_dec dk_X12_inOrder 160 rfl) (by decide) ?_
                  exact ih187 x255_1 ⟨by omega, by omega⟩ x255_2 ⟨by omega, by omega⟩ (x187_3 + 1) ⟨by omega, by omega⟩ h255_ i255_ f255_ (by omega)
                refine mm_icmp_eq (tgt := 255) C (mm_dec dk_X12_inOrder 131 rfl) (by decide) (fun c210 => ?_) (fun c210 => ?_)
                · skip
                  refine mm_fgt 4 ?_
                  exact J255 x187_1 ⟨by omega, by omega⟩ x187_2 ⟨by omega, by omega⟩ h187_ i187_ f187_
                · skip
                  refine mm_aload_n C (mm_dec dk_X12_inOrder 132 rfl) rfl ?_
                  refine mm_getr (t := 99) C fl_X12_108 (mm_dec dk_X12_inOrder 133 rfl) rfl rfl (mm_ref i187_ rfl) ?_
                  refine mm_sipush C (mm_dec dk_X12_inOrder 134 rfl) ⟨by decide, by decide⟩ ?_
                  refine mm_iload_n C (mm_dec dk_X12_inOrder 135 rfl) rfl ?_
                  refine mm_iconst C (mm_dec dk_X12_inOrder 136 rfl) ⟨by decide, by decide⟩ ?_
                  refine mm_iadd C (mm_dec dk_X12_inOrder 137 rfl) ⟨by omega, by omega⟩ ?_
                  refine mm_imul C (mm_dec dk_X12_inOrder 138 rfl) ⟨by omega, by omega⟩ ?_
                  refine mm_iload C (mm_dec dk_X12_inOrder 139 rfl) rfl ?_
                  refine mm_iadd C (mm_dec dk_X12_inOrder 140 rfl) ⟨by omega, by omega⟩ ?_
                  refine mm_iconst C (mm_dec dk_X12_inOrder 141 rfl) ⟨by decide, by decide⟩ ?_
                  refine mm_iadd C (mm_dec dk_X12_inOrder 142 rfl) ⟨by omega, by omega⟩ ?_
                  refine mm_iald C (mm_dec dk_X12_inOrder 143 rfl) rfl (by omega) (by omega) ?_
                  have g7 : -2147483648 ≤ (h187_.2.1 99 (((501 * (x187_3 + 1)) + r202) + 1)) ∧ (h187_.2.1 99 (((501 * (x187_3 + 1)) + r202) + 1)) ≤ 2147483647 := i187_.2.1 99 (((501 * (x187_3 + 1)) + r202) + 1)
                  refine mm_iconst C (mm_dec dk_X12_inOrder 144 rfl) ⟨by decide, by decide⟩ ?_
                  refine mm_iaddw C (mm_dec dk_X12_inOrder 145 rfl) ?_
                  have g8 : -2147483648 ≤ (mm_w ((h187_.2.1 99 (((501 * (x187_3 + 1)) + r202) + 1)) + 1)) ∧ (mm_w ((h187_.2.1 99 (((501 * (x187_3 + 1)) + r202) + 1)) + 1)) < 2147483648 := mm_w_rg _
                  refine mm_iload_n C (mm_dec dk_X12_inOrder 146 rfl) rfl ?_
                  refine mm_icmp_eq (tgt := 239) C (mm_dec dk_X12_inOrder 147 rfl) (by decide) (fun c233 => ?_) (fun c233 => ?_)
                  · skip
                    refine mm_aload_n C (mm_dec dk_X12_inOrder 149 rfl) rfl ?_
                    refine mm_getr (t := 100) C fl_X12_111 (mm_dec dk_X12_inOrder 150 rfl) rfl rfl (mm_ref i187_ rfl) ?_
                    refine mm_iload_n C (mm_dec dk_X12_inOrder 151 rfl) rfl ?_
                    refine mm_iload C (mm_dec dk_X12_inOrder 152 rfl) rfl ?_
                    refine mm_iast C (mm_dec dk_X12_inOrder 153 rfl) rfl (by omega) (by omega) ?_
                    have i2 : mm_inv (mm_pa h187_ 100 x187_3 r202) := mm_inv_pa i187_ (show -1 ≤ r202 ∧ r202 ≤ 499 from ⟨by omega, by omega⟩)
                    have f2 : mm_fr [(66, 52)] [99, 100] h (mm_pa h187_ 100 x187_3 r202) := mm_fr_pa f187_ (by decide)
                    obtain ⟨h2, eh2⟩ : ∃ z, z = mm_pa h187_ 100 x187_3 r202 := ⟨_, rfl⟩
                    rw [← eh2] at i2 f2 ⊢
                    have qh2_9 : h2.1 66 39 = h187_.1 66 39 := by rw [eh2]; rfl
                    refine mm_iload C (mm_dec dk_X12_inOrder 154 rfl) rfl ?_
                    refine mm_iconst C (mm_dec dk_X12_inOrder 155 rfl) ⟨by decide, by decide⟩ ?_
                    refine mm_iadd C (mm_dec dk_X12_inOrder 156 rfl) ⟨by omega, by omega⟩ ?_
                    refine mm_istore_nL (ls2 := [mR 66, mI (r202 + 1), mI x187_2, mI x187_3, mI r202, mU]) C (mm_dec dk_X12_inOrder 157 rfl) (by decide) rfl ?_
                    refine mm_iincL (ls2 := [mR 66, mI (r202 + 1), mI (x187_2 + (-1)), mI x187_3, mI r202, mU]) C (mm_dec dk_X12_inOrder 158 rfl) rfl (by decide) ⟨by omega, by omega⟩ rfl ?_
                    refine mm_fgt 4 ?_
                    exact J255 (r202 + 1) ⟨by omega, by omega⟩ (x187_2 + (-1)) ⟨by omega, by omega⟩ h2 i2 f2
                  · skip
                    refine mm_goto (tgt := 255) C (mm_dec dk_X12_inOrder 148 rfl) (by decide) ?_
                    refine mm_fgt 4 ?_
                    exact J255 x187_1 ⟨by omega, by omega⟩ x187_2 ⟨by omega, by omega⟩ h187_ i187_ f187_
        refine mm_istore_nL (ls2 := [mR 66, mI 0, mI (h3_.2.1 99 0), mI 0, mU, mU]) C (mm_dec dk_X12_inOrder 117 rfl) (by decide) rfl ?_
        exact J187 (((12 - 0) : Int) + 1).toNat 0 ⟨by omega, by omega⟩ (h3_.2.1 99 0) ⟨by omega, by omega⟩ 0 ⟨by omega, by omega⟩ h1 i1 f1 (by omega)
      · skip
        refine mm_sipush C (mm_dec dk_X12_inOrder 4 rfl) ⟨by decide, by decide⟩ ?_
        have J11 : ∀ (n : Nat) (x11_2 : Int) (bx11_2 : -1 ≤ x11_2 ∧ x11_2 ≤ 500) (h11_ : mH) (i11_ : mm_inv h11_) (f11_ : mm_fr [(66, 52)] [99, 100] h h11_), (x11_2 - (-1) : Int) < n → mm_W x 0 0 11 [mR 66, mI x3_1, mI x11_2, mU, mU, mU] [] h11_ := by
          intro n
          induction n with
          | zero =>
            intro x11_2 bx11_2 h11_ i11_ f11_ hm
            exfalso; omega
          | succ n ih11 =>
            intro x11_2 bx11_2 h11_ i11_ f11_ hm11
            refine mm_iload_n C (mm_dec dk_X12_inOrder 6 rfl) rfl ?_
            refine mm_if_lt (tgt := 160) C (mm_dec dk_X12_inOrder 7 rfl) (by decide) (fun c12 => ?_) (fun c12 => ?_)
            · skip
              refine mm_iincL (ls2 := [mR 66, mI (x3_1 + (-1)), mI x11_2, mU, mU, mU]) C (mm_dec dk_X12_inOrder 101 rfl) rfl (by decide) ⟨by omega, by omega⟩ rfl ?_
              refine mm_goto (tgt := 3) C (mm_dec dk_X12_inOrder 102 rfl) (by decide) ?_
              refine mm_fgt 2 ?_
              exact ih3 (x3_1 + (-1)) ⟨by omega, by omega⟩ h11_ i11_ f11_ (by omega)
            · skip
              refine mm_iconst C (mm_dec dk_X12_inOrder 8 rfl) ⟨by decide, by decide⟩ ?_
              refine mm_istore_nL (ls2 := [mR 66, mI x3_1, mI x11_2, mI 0, mU, mU]) C (mm_dec dk_X12_inOrder 9 rfl) (by decide) rfl ?_
              refine mm_iload_n C (mm_dec dk_X12_inOrder 10 rfl) rfl ?_
              refine mm_aload_n C (mm_dec dk_X12_inOrder 11 rfl) rfl ?_
              refine mm_geti C fl_X12_296 (mm_dec dk_X12_inOrder 12 rfl) rfl rfl (Or.inl rfl) ?_
              have g10 : 0 ≤ (h11_.1 66 39) ∧ (h11_.1 66 39) ≤ 12 := i11_.1 66 39
              have J141 : ∀ (x141_3 : Int) (bx141_3 : -2147483648 ≤ x141_3 ∧ x141_3 ≤ 2147483647), mm_W x 0 0 141 [mR 66, mI x3_1, mI x11_2, mI x141_3, mU, mU] [] h11_ := by
                intro x141_3 bx141_3
                refine mm_aload_n C (mm_dec dk_X12_inOrder 90 rfl) rfl ?_
                refine mm_getr (t := 99) C fl_X12_108 (mm_dec dk_X12_inOrder 91 rfl) rfl rfl (mm_ref i11_ rfl) ?_
                refine mm_sipush C (mm_dec dk_X12_inOrder 92 rfl) ⟨by decide, by decide⟩ ?_
                refine mm_iload_n C (mm_dec dk_X12_inOrder 93 rfl) rfl ?_
                refine mm_imul C (mm_dec dk_X12_inOrder 94 rfl) ⟨by omega, by omega⟩ ?_
                refine mm_iload_n C (mm_dec dk_X12_inOrder 95 rfl) rfl ?_
                refine mm_iadd C (mm_dec dk_X12_inOrder 96 rfl) ⟨by omega, by omega⟩ ?_
                refine mm_iload_n C (mm_dec dk_X12_inOrder 97 rfl) rfl ?_
                refine mm_iast C (mm_dec dk_X12_inOrder 98 rfl) rfl (by omega) (by omega) ?_
                have i3 : mm_inv (mm_pa h11_ 99 ((501 * x3_1) + x11_2) x141_3) := mm_inv_pa i11_ (show -2147483648 ≤ x141_3 ∧ x141_3 ≤ 2147483647 from ⟨by omega, by omega⟩)
                have f3 : mm_fr [(66, 52)] [99, 100] h (mm_pa h11_ 99 ((501 * x3_1) + x11_2) x141_3) := mm_fr_pa f11_ (by decide)
                obtain ⟨h3, eh3⟩ : ∃ z, z = mm_pa h11_ 99 ((501 * x3_1) + x11_2) x141_3 := ⟨_, rfl⟩
                rw [← eh3] at i3 f3 ⊢
                have qh3_11 : h3.1 66 39 = h11_.1 66 39 := by rw [eh3]; rfl
                refine mm_iincL (ls2 := [mR 66, mI x3_1, mI (x11_2 + (-1)), mI x141_3, mU, mU]) C (mm_dec dk_X12_inOrder 99 rfl) rfl (by decide) ⟨by omega, by omega⟩ rfl ?_
                refine mm_goto (tgt := 11) C (mm_dec dk_X12_inOrder 100 rfl) (by decide) ?_
                refine mm_fgt 3 ?_
                exact ih11 (x11_2 + (-1)) ⟨by omega, by omega⟩ h3 i3 f3 (by omega)
              refine mm_icmp_ge (tgt := 141) C (mm_dec dk_X12_inOrder 13 rfl) (by decide) (fun c22 => ?_) (fun c22 => ?_)
              · skip
                exact J141 0 ⟨by omega, by omega⟩
              · skip
                refine mm_iload_n C (mm_dec dk_X12_inOrder 14 rfl) rfl ?_
                refine mm_aload_n C (mm_dec dk_X12_inOrder 15 rfl) rfl ?_
                refine mm_geti C fl_X12_329 (mm_dec dk_X12_inOrder 16 rfl) rfl rfl (Or.inl rfl) ?_
                have g12 : 0 ≤ (h11_.1 66 48) ∧ (h11_.1 66 48) ≤ 500 := i11_.1 66 48
                refine mm_icmp_ge (tgt := 141) C (mm_dec dk_X12_inOrder 17 rfl) (by decide) (fun c30 => ?_) (fun c30 => ?_)
                · skip
                  exact J141 0 ⟨by omega, by omega⟩
                · skip
                  refine mm_aload_n C (mm_dec dk_X12_inOrder 18 rfl) rfl ?_
                  refine mm_getr (t := 99) C fl_X12_108 (mm_dec dk_X12_inOrder 19 rfl) rfl rfl (mm_ref i11_ rfl) ?_
                  refine mm_sipush C (mm_dec dk_X12_inOrder 20 rfl) ⟨by decide, by decide⟩ ?_
                  refine mm_iload_n C (mm_dec dk_X12_inOrder 21 rfl) rfl ?_
                  refine mm_iconst C (mm_dec dk_X12_inOrder 22 rfl) ⟨by decide, by decide⟩ ?_
                  refine mm_iadd C (mm_dec dk_X12_inOrder 23 rfl) ⟨by omega, by omega⟩ ?_
                  refine mm_imul C (mm_dec dk_X12_inOrder 24 rfl) ⟨by omega, by omega⟩ ?_
                  refine mm_iload_n C (mm_dec dk_X12_inOrder 25 rfl) rfl ?_
                  refine mm_iadd C (mm_dec dk_X12_inOrder 26 rfl) ⟨by omega, by omega⟩ ?_
                  refine mm_iald C (mm_dec dk_X12_inOrder 27 rfl) rfl (by omega) (by omega) ?_
                  have g13 : -2147483648 ≤ (h11_.2.1 99 ((501 * (x3_1 + 1)) + x11_2)) ∧ (h11_.2.1 99 ((501 * (x3_1 + 1)) + x11_2)) ≤ 2147483647 := i11_.2.1 99 ((501 * (x3_1 + 1)) + x11_2)
                  refine mm_istoreL (ls2 := [mR 66, mI x3_1, mI x11_2, mI 0, mI (h11_.2.1 99 ((501 * (x3_1 + 1)) + x11_2)), mU]) C (mm_dec dk_X12_inOrder 28 rfl) (by decide) rfl ?_
                  refine mm_aload_n C (mm_dec dk_X12_inOrder 29 rfl) rfl ?_
                  refine mm_getr (t := 99) C fl_X12_108 (mm_dec dk_X12_inOrder 30 rfl) rfl rfl (mm_ref i11_ rfl) ?_
                  refine mm_sipush C (mm_dec dk_X12_inOrder 31 rfl) ⟨by decide, by decide⟩ ?_
                  refine mm_iload_n C (mm_dec dk_X12_inOrder 32 rfl) rfl ?_
                  refine mm_imul C (mm_dec dk_X12_inOrder 33 rfl) ⟨by omega, by omega⟩ ?_
                  refine mm_iload_n C (mm_dec dk_X12_inOrder 34 rfl) rfl ?_
                  refine mm_iadd C (mm_dec dk_X12_inOrder 35 rfl) ⟨by omega, by omega⟩ ?_
                  refine mm_iconst C (mm_dec dk_X12_inOrder 36 rfl) ⟨by decide, by decide⟩ ?_
                  refine mm_iadd C (mm_dec dk_X12_inOrder 37 rfl) ⟨by omega, by omega⟩ ?_
                  refine mm_iald C (mm_dec dk_X12_inOrder 38 rfl) rfl (by omega) (by omega) ?_
                  have g14 : -2147483648 ≤ (h11_.2.1 99 (((501 * x3_1) + x11_2) + 1)) ∧ (h11_.2.1 99 (((501 * x3_1) + x11_2) + 1)) ≤ 2147483647 := i11_.2.1 99 (((501 * x3_1) + x11_2) + 1)
                  refine mm_istoreL (ls2 := [mR 66, mI x3_1, mI x11_2, mI 0, mI (h11_.2.1 99 ((501 * (x3_1 + 1)) + x11_2)), mI (h11_.2.1 99 (((501 * x3_1) + x11_2) + 1))]) C (mm_dec dk_X12_inOrder 39 rfl) (by decide) rfl ?_
                  refine mm_iload C (mm_dec dk_X12_inOrder 40 rfl) rfl ?_
                  refine mm_iload C (mm_dec dk_X12_inOrder 41 rfl) rfl ?_
                  have J79 : ∀ (s79_0 : Int) (bs79_0 : -2147483648 ≤ s79_0 ∧ s79_0 ≤ 2147483647), mm_W x 0 0 79 [mR 66, mI x3_1, mI x11_2, mU, mU, mU] [mI s79_0] h11_ := by
                    intro s79_0 bs79_0
                    refine mm_istore_nL (ls2 := [mR 66, mI x3_1, mI x11_2, mI s79_0, mU, mU]) C (mm_dec dk_X12_inOrder 46 rfl) (by decide) rfl ?_
                    refine mm_aload_n C (mm_dec dk_X12_inOrder 47 rfl) rfl ?_
                    refine mm_getr (t := 94) C fl_X12_93 (mm_dec dk_X12_inOrder 48 rfl) rfl rfl (mm_ref i11_ rfl) ?_
                    refine mm_aload_n C (mm_dec dk_X12_inOrder 49 rfl) rfl ?_
                    refine mm_getr (t := 98) C fl_X12_105 (mm_dec dk_X12_inOrder 50 rfl) rfl rfl (mm_ref i11_ rfl) ?_
                    refine mm_iload_n C (mm_dec dk_X12_inOrder 51 rfl) rfl ?_
                    refine mm_iald C (mm_dec dk_X12_inOrder 52 rfl) rfl (by omega) (by omega) ?_
                    have g15 : 0 ≤ (h11_.2.1 98 x11_2) ∧ (h11_.2.1 98 x11_2) ≤ 499 := i11_.2.1 98 x11_2
                    refine mm_iald C (mm_dec dk_X12_inOrder 53 rfl) rfl (by omega) (by omega) ?_
                    have g16 : -2147483648 ≤ (h11_.2.1 94 (h11_.2.1 98 x11_2)) ∧ (h11_.2.1 94 (h11_.2.1 98 x11_2)) ≤ 2147483647 := i11_.2.1 94 (h11_.2.1 98 x11_2)
                    refine mm_aload_n C (mm_dec dk_X12_inOrder 54 rfl) rfl ?_
                    refine mm_getr (t := 91) C fl_X12_84 (mm_dec dk_X12_inOrder 55 rfl) rfl rfl (mm_ref i11_ rfl) ?_
                    refine mm_iload_n C (mm_dec dk_X12_inOrder 56 rfl) rfl ?_
                    refine mm_iald C (mm_dec dk_X12_inOrder 57 rfl) rfl (by omega) (by omega) ?_
                    have g17 : 0 ≤ (h11_.2.1 91 x3_1) ∧ (h11_.2.1 91 x3_1) ≤ 19 := i11_.2.1 91 x3_1
                    refine mm_icmp_ne (tgt := 141) C (mm_dec dk_X12_inOrder 58 rfl) (by decide) (fun c97 => ?_) (fun c97 => ?_)
                    · skip
                      exact J141 s79_0 ⟨by omega, by omega⟩
                    · skip
                      refine mm_aload_n C (mm_dec dk_X12_inOrder 59 rfl) rfl ?_
                      refine mm_getr (t := 99) C fl_X12_108 (mm_dec dk_X12_inOrder 60 rfl) rfl rfl (mm_ref i11_ rfl) ?_
                      refine mm_sipush C (mm_dec dk_X12_inOrder 61 rfl) ⟨by decide, by decide⟩ ?_
                      refine mm_iload_n C (mm_dec dk_X12_inOrder 62 rfl) rfl ?_
                      refine mm_iconst C (mm_dec dk_X12_inOrder 63 rfl) ⟨by decide, by decide⟩ ?_
                      refine mm_iadd C (mm_dec dk_X12_inOrder 64 rfl) ⟨by omega, by omega⟩ ?_
                      refine mm_imul C (mm_dec dk_X12_inOrder 65 rfl) ⟨by omega, by omega⟩ ?_
                      refine mm_iload_n C (mm_dec dk_X12_inOrder 66 rfl) rfl ?_
                      refine mm_iadd C (mm_dec dk_X12_inOrder 67 rfl) ⟨by omega, by omega⟩ ?_
                      refine mm_iconst C (mm_dec dk_X12_inOrder 68 rfl) ⟨by decide, by decide⟩ ?_
                      refine mm_iadd C (mm_dec dk_X12_inOrder 69 rfl) ⟨by omega, by omega⟩ ?_
                      refine mm_iald C (mm_dec dk_X12_inOrder 70 rfl) rfl (by omega) (by omega) ?_
                      have g18 : -2147483648 ≤ (h11_.2.1 99 (((501 * (x3_1 + 1)) + x11_2) + 1)) ∧ (h11_.2.1 99 (((501 * (x3_1 + 1)) + x11_2) + 1)) ≤ 2147483647 := i11_.2.1 99 (((501 * (x3_1 + 1)) + x11_2) + 1)
                      refine mm_iconst C (mm_dec dk_X12_inOrder 71 rfl) ⟨by decide, by decide⟩ ?_
                      refine mm_iaddw C (mm_dec dk_X12_inOrder 72 rfl) ?_
                      have g19 : -2147483648 ≤ (mm_w ((h11_.2.1 99 (((501 * (x3_1 + 1)) + x11_2) + 1)) + 1)) ∧ (mm_w ((h11_.2.1 99 (((501 * (x3_1 + 1)) + x11_2) + 1)) + 1)) < 2147483648 := mm_w_rg _
                      refine mm_iload_n C (mm_dec dk_X12_inOrder 73 rfl) rfl ?_
                      refine mm_icmp_le (tgt := 141) C (mm_dec dk_X12_inOrder 74 rfl) (by decide) (fun c119 => ?_) (fun c119 => ?_)
                      · skip
                        exact J141 s79_0 ⟨by omega, by omega⟩
                      · skip
                        refine mm_aload_n C (mm_dec dk_X12_inOrder 75 rfl) rfl ?_
                        refine mm_getr (t := 99) C fl_X12_108 (mm_dec dk_X12_inOrder 76 rfl) rfl rfl (mm_ref i11_ rfl) ?_
                        refine mm_sipush C (mm_dec dk_X12_inOrder 77 rfl) ⟨by decide, by decide⟩ ?_
                        refine mm_iload_n C (mm_dec dk_X12_inOrder 78 rfl) rfl ?_
                        refine mm_iconst C (mm_dec dk_X12_inOrder 79 rfl) ⟨by decide, by decide⟩ ?_
                        refine mm_iadd C (mm_dec dk_X12_inOrder 80 rfl) ⟨by omega, by omega⟩ ?_
                        refine mm_imul C (mm_dec dk_X12_inOrder 81 rfl) ⟨by omega, by omega⟩ ?_
                        refine mm_iload_n C (mm_dec dk_X12_inOrder 82 rfl) rfl ?_
                        refine mm_iadd C (mm_dec dk_X12_inOrder 83 rfl) ⟨by omega, by omega⟩ ?_
                        refine mm_iconst C (mm_dec dk_X12_inOrder 84 rfl) ⟨by decide, by decide⟩ ?_
                        refine mm_iadd C (mm_dec dk_X12_inOrder 85 rfl) ⟨by omega, by omega⟩ ?_
                        refine mm_iald C (mm_dec dk_X12_inOrder 86 rfl) rfl (by omega) (by omega) ?_
                        refine mm_iconst C (mm_dec dk_X12_inOrder 87 rfl) ⟨by decide, by decide⟩ ?_
                        refine mm_iaddw C (mm_dec dk_X12_inOrder 88 rfl) ?_
                        have g20 : -2147483648 ≤ (mm_w ((h11_.2.1 99 (((501 * (x3_1 + 1)) + x11_2) + 1)) + 1)) ∧ (mm_w ((h11_.2.1 99 (((501 * (x3_1 + 1)) + x11_2) + 1)) + 1)) < 2147483648 := mm_w_rg _
                        refine mm_istore_nL (ls2 := [mR 66, mI x3_1, mI x11_2, mI (mm_w ((h11_.2.1 99 (((501 * (x3_1 + 1)) + x11_2) + 1)) + 1)), mU, mU]) C (mm_dec dk_X12_inOrder 89 rfl) (by decide) rfl ?_
                        exact J141 (mm_w ((h11_.2.1 99 (((501 * (x3_1 + 1)) + x11_2) + 1)) + 1)) ⟨by omega, by omega⟩
                  refine mm_icmp_le (tgt := 77) C (mm_dec dk_X12_inOrder 42 rfl) (by decide) (fun c69 => ?_) (fun c69 => ?_)
                  · skip
                    refine mm_iload C (mm_dec dk_X12_inOrder 45 rfl) rfl ?_
                    refine mm_fgt 3 ?_
                    refine mm_fgt 4 ?_
                    refine mm_fgt 5 ?_
                    exact J79 (h11_.2.1 99 (((501 * x3_1) + x11_2) + 1)) ⟨by omega, by omega⟩
                  · skip
                    refine mm_iload C (mm_dec dk_X12_inOrder 43 rfl) rfl ?_
                    refine mm_goto (tgt := 79) C (mm_dec dk_X12_inOrder 44 rfl) (by decide) ?_
                    refine mm_fgt 3 ?_
                    refine mm_fgt 4 ?_
                    refine mm_fgt 5 ?_
                    exact J79 (h11_.2.1 99 ((501 * (x3_1 + 1)) + x11_2)) ⟨by omega, by omega⟩
        refine mm_istore_nL (ls2 := [mR 66, mI x3_1, mI 500, mU, mU, mU]) C (mm_dec dk_X12_inOrder 5 rfl) (by decide) rfl ?_
        exact J11 (((500 - (-1)) : Int) + 1).toNat 500 ⟨by omega, by omega⟩ h3_ i3_ f3_ (by omega)
  refine mm_istore_nL (ls2 := [mR 66, mI 12, mU, mU, mU, mU]) C (mm_dec dk_X12_inOrder 1 rfl) (by decide) rfl ?_
  exact J3 (((12 - (-1)) : Int) + 1).toNat 12 ⟨by omega, by omega⟩ h i0 f0 (by omega)
set_option maxRecDepth 100000 in
set_option maxHeartbeats 4000000 in
theorem c_X12_lays (l : Launch) (hl : l.stackTraces = false) (d : Nat) (hd : 0 ≤ d) (h : mH) (i0 : mm_inv h) (p1 : Int) (u0 : (h.1 66 56) ≤ 496) : mm_Met l d yX12_lays cX12_lays 3 none [mR 66, mI p1] h (mm_pv fun h2 => mm_inv h2 ∧ mm_fr [(66, 56)] [101] h h2 ∧ h2.1 66 56 = h.1 66 56 + 4) mm_nx 0 0 := by
  refine mm_ofW (ls := [mR 66, mI p1, mU]) hl (by decide) rfl (Nat.le_of_ble_eq_true rfl) ?_
  intro x hxl C T hnm htb
  subst hxl
  refine mm_rng (fun hr _ => ?_)
  have ap1 : -2147483648 ≤ p1 ∧ p1 < 2147483648 := mm_ok_at hr (i := 1) rfl
  have f0 : mm_fr [(66, 56)] [101] h h := mm_fr_rf
  have g1 : 0 ≤ h.1 66 56 ∧ h.1 66 56 ≤ 500 := i0.1 66 56
  refine mm_bipush C (mm_dec dk_X12_lays 0 rfl) ⟨by decide, by decide⟩ ?_
  have J3 : ∀ (n : Nat) (x3_2 : Int) (bx3_2 : -8 ≤ x3_2 ∧ x3_2 ≤ 24) (h3_ : mH) (i3_ : mm_inv h3_) (f3_ : mm_fr [(66, 56)] [101] h h3_) (w3_0 : 8 * h3_.1 66 56 + x3_2 = 8 * h.1 66 56 + 24), (x3_2 - (-8) : Int) < n → mm_W x 0 0 3 [mR 66, mI p1, mI x3_2] [] h3_ := by
    intro n
    induction n with
    | zero =>
      intro x3_2 bx3_2 h3_ i3_ f3_ w3_0 hm
      have g2 : 0 ≤ h3_.1 66 56 ∧ h3_.1 66 56 ≤ 500 := i3_.1 66 56
      exfalso; omega
    | succ n ih3 =>
      intro x3_2 bx3_2 h3_ i3_ f3_ w3_0 hm3
      have g3 : 0 ≤ h3_.1 66 56 ∧ h3_.1 66 56 ≤ 500 := i3_.1 66 56
      refine mm_iload_n C (mm_dec dk_X12_lays 2 rfl) rfl ?_
      refine mm_if_lt (tgt := 39) C (mm_dec dk_X12_lays 3 rfl) (by decide) (fun c4 => ?_) (fun c4 => ?_)
      · skip
        exact mm_vret C T (mm_dec dk_X12_lays 22 rfl) (by decide : 0 ≤ 0) (by decide : 0 ≤ 0) ⟨rfl, ⟨i3_, f3_, by omega⟩⟩
      · skip
        refine mm_aload_n C (mm_dec dk_X12_lays 4 rfl) rfl ?_
        refine mm_getr (t := 101) C fl_X12_114 (mm_dec dk_X12_lays 5 rfl) rfl rfl (mm_ref i3_ rfl) ?_
        refine mm_aload_n C (mm_dec dk_X12_lays 6 rfl) rfl ?_
        refine mm_geti C fl_X12_350 (mm_dec dk_X12_lays 7 rfl) rfl rfl (Or.inl rfl) ?_
        refine mm_iload_n C (mm_dec dk_X12_lays 8 rfl) rfl ?_
        refine mm_iload_n C (mm_dec dk_X12_lays 9 rfl) rfl ?_
        refine mm_ishr C (mm_dec dk_X12_lays 10 rfl) ?_
        have g4 : -2147483648 ≤ (mm_vishr p1 x3_2) ∧ (mm_vishr p1 x3_2) < 2147483648 := fb_rng _
        refine mm_sipush C (mm_dec dk_X12_lays 11 rfl) ⟨by decide, by decide⟩ ?_
        refine mm_iand C (mm_dec dk_X12_lays 12 rfl) ?_
        have g6 : 0 ≤ (mm_viand (mm_vishr p1 x3_2) 255) ∧ (mm_viand (mm_vishr p1 x3_2) 255) ≤ 255 := mm_and_rg2 (by omega) (by omega)
        refine mm_iast C (mm_dec dk_X12_lays 13 rfl) rfl (by omega) (by omega) ?_
        have i1 : mm_inv (mm_pa h3_ 101 (h3_.1 66 56) (mm_viand (mm_vishr p1 x3_2) 255)) := mm_inv_pa i3_ (show -2147483648 ≤ (mm_viand (mm_vishr p1 x3_2) 255) ∧ (mm_viand (mm_vishr p1 x3_2) 255) ≤ 2147483647 from ⟨by omega, by omega⟩)
        have f1 : mm_fr [(66, 56)] [101] h (mm_pa h3_ 101 (h3_.1 66 56) (mm_viand (mm_vishr p1 x3_2) 255)) := mm_fr_pa f3_ (by decide)
        obtain ⟨h1, eh1⟩ : ∃ z, z = mm_pa h3_ 101 (h3_.1 66 56) (mm_viand (mm_vishr p1 x3_2) 255) := ⟨_, rfl⟩
        rw [← eh1] at i1 f1 ⊢
        have qh1_7 : h1.1 66 56 = h3_.1 66 56 := by rw [eh1]; rfl
        refine mm_aload_n C (mm_dec dk_X12_lays 14 rfl) rfl ?_
        refine mm_dup C (mm_dec dk_X12_lays 15 rfl) (show (2 : Nat) ≠ 1 by decide) ?_
        refine mm_geti C fl_X12_350 (mm_dec dk_X12_lays 16 rfl) rfl rfl (Or.inl rfl) ?_
        refine mm_iconst C (mm_dec dk_X12_lays 17 rfl) ⟨by decide, by decide⟩ ?_
        refine mm_iadd C (mm_dec dk_X12_lays 18 rfl) ⟨by omega, by omega⟩ ?_
        refine mm_puti C fl_X12_350 (mm_dec dk_X12_lays 19 rfl) rfl rfl rfl (Or.inl ⟨rfl, rfl⟩) ?_
        have i2 : mm_inv (mm_pf h1 66 56 ((h1.1 66 56) + 1)) := mm_inv_pf i1 (show 0 ≤ ((h1.1 66 56) + 1) ∧ ((h1.1 66 56) + 1) ≤ 500 from ⟨by omega, by omega⟩) (by decide)
        have f2 : mm_fr [(66, 56)] [101] h (mm_pf h1 66 56 ((h1.1 66 56) + 1)) := mm_fr_pf f1 (by decide)
        obtain ⟨h2, eh2⟩ : ∃ z, z = mm_pf h1 66 56 ((h1.1 66 56) + 1) := ⟨_, rfl⟩
        rw [← eh2] at i2 f2 ⊢
        have qh2 : h2.1 66 56 = ((h1.1 66 56) + 1) := by rw [eh2]; exact mm_pf_same _ _ _ _
        refine mm_iincL (ls2 := [mR 66, mI p1, mI (x3_2 + (-8))]) C (mm_dec dk_X12_lays 20 rfl) rfl (by decide) ⟨by omega, by omega⟩ rfl ?_
        refine mm_goto (tgt := 3) C (mm_dec dk_X12_lays 21 rfl) (by decide) ?_
        exact ih3 (x3_2 + (-8)) ⟨by omega, by omega⟩ h2 i2 f2 (by omega) (by omega)
  refine mm_istore_nL (ls2 := [mR 66, mI p1, mI 24]) C (mm_dec dk_X12_lays 1 rfl) (by decide) rfl ?_
  exact J3 (((24 - (-8)) : Int) + 1).toNat 24 ⟨by omega, by omega⟩ h i0 f0 (by omega) (by omega)
set_option maxRecDepth 100000 in
set_option maxHeartbeats 4000000 in
theorem c_X12_byteAt (l : Launch) (hl : l.stackTraces = false) (d : Nat) (hd : 0 ≤ d) (h : mH) (i0 : mm_inv h) (p1 : Int) (bp1 : 0 ≤ p1 ∧ p1 ≤ 500) : mm_Met l d yX12_byteAt cX12_byteAt 2 (some .int) [mR 66, mI p1] h (mm_pi fun r h2 => h2 = h ∧ (((h.1 66 59) ≤ p1 ∧ r = 0) ∨ (p1 < (h.1 66 59) ∧ r = (h.2.1 101 p1)))) mm_nx 0 0 := by
  refine mm_ofW (ls := [mR 66, mI p1]) hl (by decide) rfl (Nat.le_of_ble_eq_true rfl) ?_
  intro x hxl C T hnm htb
  subst hxl
  refine mm_rng (fun hr _ => ?_)
  have ap1 : -2147483648 ≤ p1 ∧ p1 < 2147483648 := mm_ok_at hr (i := 1) rfl
  have f0 : mm_fr [] [] h h := mm_fr_rf
  refine mm_iload_n C (mm_dec dk_X12_byteAt 0 rfl) rfl ?_
  refine mm_aload_n C (mm_dec dk_X12_byteAt 1 rfl) rfl ?_
  refine mm_geti C fl_X12_356 (mm_dec dk_X12_byteAt 2 rfl) rfl rfl (Or.inl rfl) ?_
  have g1 : 0 ≤ (h.1 66 59) ∧ (h.1 66 59) ≤ 500 := i0.1 66 59
  refine mm_icmp_ge (tgt := 17) C (mm_dec dk_X12_byteAt 3 rfl) (by decide) (fun c5 => ?_) (fun c5 => ?_)
  · skip
    refine mm_iconst C (mm_dec dk_X12_byteAt 9 rfl) ⟨by decide, by decide⟩ ?_
    exact mm_iret C T (mm_dec dk_X12_byteAt 10 rfl) (by decide : 0 ≤ 0) (by decide : 0 ≤ 0) ⟨_, rfl, ⟨rfl, Or.inl ⟨by omega, rfl⟩⟩⟩
  · skip
    refine mm_aload_n C (mm_dec dk_X12_byteAt 4 rfl) rfl ?_
    refine mm_getr (t := 101) C fl_X12_114 (mm_dec dk_X12_byteAt 5 rfl) rfl rfl (mm_ref i0 rfl) ?_
    refine mm_iload_n C (mm_dec dk_X12_byteAt 6 rfl) rfl ?_
    refine mm_iald C (mm_dec dk_X12_byteAt 7 rfl) rfl (by omega) (by omega) ?_
    have g2 : -2147483648 ≤ (h.2.1 101 p1) ∧ (h.2.1 101 p1) ≤ 2147483647 := i0.2.1 101 p1
    refine mm_goto (tgt := 18) C (mm_dec dk_X12_byteAt 8 rfl) (by decide) ?_
    exact mm_iret C T (mm_dec dk_X12_byteAt 10 rfl) (by decide : 0 ≤ 0) (by decide : 0 ≤ 0) ⟨_, rfl, ⟨rfl, Or.inr (⟨by omega, rfl⟩)⟩⟩
set_option maxRecDepth 100000 in
set_option maxHeartbeats 4000000 in
theorem c_X12_isLetter (l : Launch) (hl : l.stackTraces = false) (d : Nat) (hd : 0 ≤ d) (h : mH) (i0 : mm_inv h) (p0 : Int) : mm_Met l d yX12_isLetter cX12_isLetter 1 (some .boolean) [mI p0] h (mm_pi fun r h2 => h2 = h ∧ ((p0 < 97 ∧ r = 0) ∨ (97 ≤ p0 ∧ 122 < p0 ∧ r = 0) ∨ (97 ≤ p0 ∧ p0 ≤ 122 ∧ r = 1))) mm_nx 0 0 := by
  refine mm_ofW (ls := [mI p0]) hl (by decide) rfl (Nat.le_of_ble_eq_true rfl) ?_
  intro x hxl C T hnm htb
  subst hxl
  refine mm_rng (fun hr _ => ?_)
  have ap0 : -2147483648 ≤ p0 ∧ p0 < 2147483648 := mm_ok_at hr (i := 0) rfl
  have f0 : mm_fr [] [] h h := mm_fr_rf
  refine mm_iload_n C (mm_dec dk_X12_isLetter 0 rfl) rfl ?_
  refine mm_bipush C (mm_dec dk_X12_isLetter 1 rfl) ⟨by decide, by decide⟩ ?_
  refine mm_icmp_lt (tgt := 16) C (mm_dec dk_X12_isLetter 2 rfl) (by decide) (fun c3 => ?_) (fun c3 => ?_)
  · skip
    refine mm_iconst C (mm_dec dk_X12_isLetter 8 rfl) ⟨by decide, by decide⟩ ?_
    exact mm_zret C T (mm_dec dk_X12_isLetter 9 rfl) (by decide : 0 ≤ 0) (by decide : 0 ≤ 0) (by omega) ⟨_, rfl, ⟨rfl, Or.inl ⟨by omega, rfl⟩⟩⟩
  · skip
    refine mm_iload_n C (mm_dec dk_X12_isLetter 3 rfl) rfl ?_
    refine mm_bipush C (mm_dec dk_X12_isLetter 4 rfl) ⟨by decide, by decide⟩ ?_
    refine mm_icmp_gt (tgt := 16) C (mm_dec dk_X12_isLetter 5 rfl) (by decide) (fun c9 => ?_) (fun c9 => ?_)
    · skip
      refine mm_iconst C (mm_dec dk_X12_isLetter 8 rfl) ⟨by decide, by decide⟩ ?_
      exact mm_zret C T (mm_dec dk_X12_isLetter 9 rfl) (by decide : 0 ≤ 0) (by decide : 0 ≤ 0) (by omega) ⟨_, rfl, ⟨rfl, Or.inr (Or.inl ⟨by omega, by omega, rfl⟩)⟩⟩
    · skip
      refine mm_iconst C (mm_dec dk_X12_isLetter 6 rfl) ⟨by decide, by decide⟩ ?_
      refine mm_goto (tgt := 17) C (mm_dec dk_X12_isLetter 7 rfl) (by decide) ?_
      exact mm_zret C T (mm_dec dk_X12_isLetter 9 rfl) (by decide : 0 ≤ 0) (by decide : 0 ≤ 0) (by omega) ⟨_, rfl, ⟨rfl, Or.inr (Or.inr (⟨by omega, by omega, rfl⟩))⟩⟩
set_option maxRecDepth 100000 in
set_option maxHeartbeats 4000000 in
theorem c_X12_isDigit (l : Launch) (hl : l.stackTraces = false) (d : Nat) (hd : 0 ≤ d) (h : mH) (i0 : mm_inv h) (p0 : Int) : mm_Met l d yX12_isDigit cX12_isDigit 1 (some .boolean) [mI p0] h (mm_pi fun r h2 => h2 = h ∧ ((p0 < 48 ∧ r = 0) ∨ (48 ≤ p0 ∧ 57 < p0 ∧ r = 0) ∨ (48 ≤ p0 ∧ p0 ≤ 57 ∧ r = 1))) mm_nx 0 0 := by
  refine mm_ofW (ls := [mI p0]) hl (by decide) rfl (Nat.le_of_ble_eq_true rfl) ?_
  intro x hxl C T hnm htb
  subst hxl
  refine mm_rng (fun hr _ => ?_)
  have ap0 : -2147483648 ≤ p0 ∧ p0 < 2147483648 := mm_ok_at hr (i := 0) rfl
  have f0 : mm_fr [] [] h h := mm_fr_rf
  refine mm_iload_n C (mm_dec dk_X12_isDigit 0 rfl) rfl ?_
  refine mm_bipush C (mm_dec dk_X12_isDigit 1 rfl) ⟨by decide, by decide⟩ ?_
  refine mm_icmp_lt (tgt := 16) C (mm_dec dk_X12_isDigit 2 rfl) (by decide) (fun c3 => ?_) (fun c3 => ?_)
  · skip
    refine mm_iconst C (mm_dec dk_X12_isDigit 8 rfl) ⟨by decide, by decide⟩ ?_
    exact mm_zret C T (mm_dec dk_X12_isDigit 9 rfl) (by decide : 0 ≤ 0) (by decide : 0 ≤ 0) (by omega) ⟨_, rfl, ⟨rfl, Or.inl ⟨by omega, rfl⟩⟩⟩
  · skip
    refine mm_iload_n C (mm_dec dk_X12_isDigit 3 rfl) rfl ?_
    refine mm_bipush C (mm_dec dk_X12_isDigit 4 rfl) ⟨by decide, by decide⟩ ?_
    refine mm_icmp_gt (tgt := 16) C (mm_dec dk_X12_isDigit 5 rfl) (by decide) (fun c9 => ?_) (fun c9 => ?_)
    · skip
      refine mm_iconst C (mm_dec dk_X12_isDigit 8 rfl) ⟨by decide, by decide⟩ ?_
      exact mm_zret C T (mm_dec dk_X12_isDigit 9 rfl) (by decide : 0 ≤ 0) (by decide : 0 ≤ 0) (by omega) ⟨_, rfl, ⟨rfl, Or.inr (Or.inl ⟨by omega, by omega, rfl⟩)⟩⟩
    · skip
      refine mm_iconst C (mm_dec dk_X12_isDigit 6 rfl) ⟨by decide, by decide⟩ ?_
      refine mm_goto (tgt := 17) C (mm_dec dk_X12_isDigit 7 rfl) (by decide) ?_
      exact mm_zret C T (mm_dec dk_X12_isDigit 9 rfl) (by decide : 0 ≤ 0) (by decide : 0 ≤ 0) (by omega) ⟨_, rfl, ⟨rfl, Or.inr (Or.inr (⟨by omega, by omega, rfl⟩))⟩⟩
set_option maxRecDepth 100000 in
set_option maxHeartbeats 4000000 in
theorem c_X12_spelled (l : Launch) (hl : l.stackTraces = false) (d : Nat) (hd : 0 ≤ d) (h : mH) (i0 : mm_inv h) (p0 : Int) (p1 : Int) (p2 : Int) (p3 : Int) (p4 : Int) (p5 : Int) (p6 : Int) : mm_Met l d yX12_spelled cX12_spelled 9 (some .long) [mI p0, mI p1, mI p2, mI p3, mI p4, mI p5, mI p6] h (mm_pl fun r h2 => h2 = h) mm_nx 0 0 := by
  refine mm_ofW (ls := [mI p0, mI p1, mI p2, mI p3, mI p4, mI p5, mI p6, mU, mU]) hl (by decide) rfl (Nat.le_of_ble_eq_true rfl) ?_
  intro x hxl C T hnm htb
  subst hxl
  refine mm_rng (fun hr _ => ?_)
  have ap0 : -2147483648 ≤ p0 ∧ p0 < 2147483648 := mm_ok_at hr (i := 0) rfl
  have ap1 : -2147483648 ≤ p1 ∧ p1 < 2147483648 := mm_ok_at hr (i := 1) rfl
  have ap2 : -2147483648 ≤ p2 ∧ p2 < 2147483648 := mm_ok_at hr (i := 2) rfl
  have ap3 : -2147483648 ≤ p3 ∧ p3 < 2147483648 := mm_ok_at hr (i := 3) rfl
  have ap4 : -2147483648 ≤ p4 ∧ p4 < 2147483648 := mm_ok_at hr (i := 4) rfl
  have ap5 : -2147483648 ≤ p5 ∧ p5 < 2147483648 := mm_ok_at hr (i := 5) rfl
  have ap6 : -2147483648 ≤ p6 ∧ p6 < 2147483648 := mm_ok_at hr (i := 6) rfl
  have f0 : mm_fr [] [] h h := mm_fr_rf
  refine mm_iload_n C (mm_dec dk_X12_spelled 0 rfl) rfl ?_
  refine mm_bipush C (mm_dec dk_X12_spelled 1 rfl) ⟨by decide, by decide⟩ ?_
  refine mm_isubw C (mm_dec dk_X12_spelled 2 rfl) ?_
  have g1 : -2147483648 ≤ (mm_w (p0 - 96)) ∧ (mm_w (p0 - 96)) < 2147483648 := mm_w_rg _
  refine mm_i2l C (mm_dec dk_X12_spelled 3 rfl) ?_
  refine mm_lstoreL (ls2 := [mI p0, mI p1, mI p2, mI p3, mI p4, mI p5, mI p6, mL (mm_w (p0 - 96)), mU]) C (mm_dec dk_X12_spelled 4 rfl) (by decide) rfl ?_
  refine mm_iload_n C (mm_dec dk_X12_spelled 5 rfl) rfl ?_
  have J23 : ∀ (x23_7 : Int) (bx23_7 : -9223372036854775808 ≤ x23_7 ∧ x23_7 < 9223372036854775808), mm_W x 0 0 23 [mU, mU, mI p2, mI p3, mI p4, mI p5, mI p6, mL x23_7, mU] [] h := by
    intro x23_7 bx23_7
    refine mm_iload_n C (mm_dec dk_X12_spelled 16 rfl) rfl ?_
    have J39 : ∀ (x39_7 : Int) (bx39_7 : -9223372036854775808 ≤ x39_7 ∧ x39_7 < 9223372036854775808), mm_W x 0 0 39 [mU, mU, mU, mI p3, mI p4, mI p5, mI p6, mL x39_7, mU] [] h := by
      intro x39_7 bx39_7
      refine mm_iload_n C (mm_dec dk_X12_spelled 27 rfl) rfl ?_
      have J55 : ∀ (x55_7 : Int) (bx55_7 : -9223372036854775808 ≤ x55_7 ∧ x55_7 < 9223372036854775808), mm_W x 0 0 55 [mU, mU, mU, mU, mI p4, mI p5, mI p6, mL x55_7, mU] [] h := by
        intro x55_7 bx55_7
        refine mm_iload C (mm_dec dk_X12_spelled 38 rfl) rfl ?_
        have J73 : ∀ (x73_7 : Int) (bx73_7 : -9223372036854775808 ≤ x73_7 ∧ x73_7 < 9223372036854775808), mm_W x 0 0 73 [mU, mU, mU, mU, mU, mI p5, mI p6, mL x73_7, mU] [] h := by
          intro x73_7 bx73_7
          refine mm_iload C (mm_dec dk_X12_spelled 49 rfl) rfl ?_
          have J91 : ∀ (x91_7 : Int) (bx91_7 : -9223372036854775808 ≤ x91_7 ∧ x91_7 < 9223372036854775808), mm_W x 0 0 91 [mU, mU, mU, mU, mU, mU, mI p6, mL x91_7, mU] [] h := by
            intro x91_7 bx91_7
            refine mm_iload C (mm_dec dk_X12_spelled 60 rfl) rfl ?_
            have J109 : ∀ (x109_7 : Int) (bx109_7 : -9223372036854775808 ≤ x109_7 ∧ x109_7 < 9223372036854775808), mm_W x 0 0 109 [mU, mU, mU, mU, mU, mU, mU, mL x109_7, mU] [] h := by
              intro x109_7 bx109_7
              refine mm_lload C (mm_dec dk_X12_spelled 71 rfl) rfl ?_
              exact mm_lret C T (mm_dec dk_X12_spelled 72 rfl) (by decide : 0 ≤ 0) (by decide : 0 ≤ 0) ⟨_, rfl, rfl⟩
            refine mm_if_eq (tgt := 109) C (mm_dec dk_X12_spelled 61 rfl) (by decide) (fun c93 => ?_) (fun c93 => ?_)
            · skip
              refine mm_fgt 6 ?_
              exact J109 x91_7 ⟨by omega, by omega⟩
            · skip
              refine mm_lload C (mm_dec dk_X12_spelled 62 rfl) rfl ?_
              refine mm_iconst C (mm_dec dk_X12_spelled 63 rfl) ⟨by decide, by decide⟩ ?_
              refine mm_lshl C (mm_dec dk_X12_spelled 64 rfl) ?_
              have g2 : -9223372036854775808 ≤ (mm_vlshl x91_7 5) ∧ (mm_vlshl x91_7 5) < 9223372036854775808 := mm_rng64 _
              obtain ⟨y2, ey2⟩ : ∃ z, z = (mm_vlshl x91_7 5) := ⟨_, rfl⟩
              rw [← ey2] at g2 ⊢
              clear ey2
              refine mm_iload C (mm_dec dk_X12_spelled 65 rfl) rfl ?_
              refine mm_bipush C (mm_dec dk_X12_spelled 66 rfl) ⟨by decide, by decide⟩ ?_
              refine mm_isubw C (mm_dec dk_X12_spelled 67 rfl) ?_
              have g3 : -2147483648 ≤ (mm_w (p6 - 96)) ∧ (mm_w (p6 - 96)) < 2147483648 := mm_w_rg _
              refine mm_i2l C (mm_dec dk_X12_spelled 68 rfl) ?_
              refine mm_lor C (mm_dec dk_X12_spelled 69 rfl) ?_
              have g4 : -9223372036854775808 ≤ (mm_vlor y2 (mm_w (p6 - 96))) ∧ (mm_vlor y2 (mm_w (p6 - 96))) < 9223372036854775808 := mm_rng64 _
              obtain ⟨y4, ey4⟩ : ∃ z, z = (mm_vlor y2 (mm_w (p6 - 96))) := ⟨_, rfl⟩
              rw [← ey4] at g4 ⊢
              clear ey4
              refine mm_lstoreL (ls2 := [mU, mU, mU, mU, mU, mU, mI p6, mL y4, mU]) C (mm_dec dk_X12_spelled 70 rfl) (by decide) rfl ?_
              refine mm_fgt 6 ?_
              exact J109 y4 ⟨by omega, by omega⟩
          refine mm_if_eq (tgt := 91) C (mm_dec dk_X12_spelled 50 rfl) (by decide) (fun c75 => ?_) (fun c75 => ?_)
          · skip
            refine mm_fgt 5 ?_
            exact J91 x73_7 ⟨by omega, by omega⟩
          · skip
            refine mm_lload C (mm_dec dk_X12_spelled 51 rfl) rfl ?_
            refine mm_iconst C (mm_dec dk_X12_spelled 52 rfl) ⟨by decide, by decide⟩ ?_
            refine mm_lshl C (mm_dec dk_X12_spelled 53 rfl) ?_
            have g5 : -9223372036854775808 ≤ (mm_vlshl x73_7 5) ∧ (mm_vlshl x73_7 5) < 9223372036854775808 := mm_rng64 _
            obtain ⟨y5, ey5⟩ : ∃ z, z = (mm_vlshl x73_7 5) := ⟨_, rfl⟩
            rw [← ey5] at g5 ⊢
            clear ey5
            refine mm_iload C (mm_dec dk_X12_spelled 54 rfl) rfl ?_
            refine mm_bipush C (mm_dec dk_X12_spelled 55 rfl) ⟨by decide, by decide⟩ ?_
            refine mm_isubw C (mm_dec dk_X12_spelled 56 rfl) ?_
            have g6 : -2147483648 ≤ (mm_w (p5 - 96)) ∧ (mm_w (p5 - 96)) < 2147483648 := mm_w_rg _
            refine mm_i2l C (mm_dec dk_X12_spelled 57 rfl) ?_
            refine mm_lor C (mm_dec dk_X12_spelled 58 rfl) ?_
            have g7 : -9223372036854775808 ≤ (mm_vlor y5 (mm_w (p5 - 96))) ∧ (mm_vlor y5 (mm_w (p5 - 96))) < 9223372036854775808 := mm_rng64 _
            obtain ⟨y7, ey7⟩ : ∃ z, z = (mm_vlor y5 (mm_w (p5 - 96))) := ⟨_, rfl⟩
            rw [← ey7] at g7 ⊢
            clear ey7
            refine mm_lstoreL (ls2 := [mU, mU, mU, mU, mU, mI p5, mI p6, mL y7, mU]) C (mm_dec dk_X12_spelled 59 rfl) (by decide) rfl ?_
            refine mm_fgt 5 ?_
            exact J91 y7 ⟨by omega, by omega⟩
        refine mm_if_eq (tgt := 73) C (mm_dec dk_X12_spelled 39 rfl) (by decide) (fun c57 => ?_) (fun c57 => ?_)
        · skip
          refine mm_fgt 4 ?_
          exact J73 x55_7 ⟨by omega, by omega⟩
        · skip
          refine mm_lload C (mm_dec dk_X12_spelled 40 rfl) rfl ?_
          refine mm_iconst C (mm_dec dk_X12_spelled 41 rfl) ⟨by decide, by decide⟩ ?_
          refine mm_lshl C (mm_dec dk_X12_spelled 42 rfl) ?_
          have g8 : -9223372036854775808 ≤ (mm_vlshl x55_7 5) ∧ (mm_vlshl x55_7 5) < 9223372036854775808 := mm_rng64 _
          obtain ⟨y8, ey8⟩ : ∃ z, z = (mm_vlshl x55_7 5) := ⟨_, rfl⟩
          rw [← ey8] at g8 ⊢
          clear ey8
          refine mm_iload C (mm_dec dk_X12_spelled 43 rfl) rfl ?_
          refine mm_bipush C (mm_dec dk_X12_spelled 44 rfl) ⟨by decide, by decide⟩ ?_
          refine mm_isubw C (mm_dec dk_X12_spelled 45 rfl) ?_
          have g9 : -2147483648 ≤ (mm_w (p4 - 96)) ∧ (mm_w (p4 - 96)) < 2147483648 := mm_w_rg _
          refine mm_i2l C (mm_dec dk_X12_spelled 46 rfl) ?_
          refine mm_lor C (mm_dec dk_X12_spelled 47 rfl) ?_
          have g10 : -9223372036854775808 ≤ (mm_vlor y8 (mm_w (p4 - 96))) ∧ (mm_vlor y8 (mm_w (p4 - 96))) < 9223372036854775808 := mm_rng64 _
          obtain ⟨y10, ey10⟩ : ∃ z, z = (mm_vlor y8 (mm_w (p4 - 96))) := ⟨_, rfl⟩
          rw [← ey10] at g10 ⊢
          clear ey10
          refine mm_lstoreL (ls2 := [mU, mU, mU, mU, mI p4, mI p5, mI p6, mL y10, mU]) C (mm_dec dk_X12_spelled 48 rfl) (by decide) rfl ?_
          refine mm_fgt 4 ?_
          exact J73 y10 ⟨by omega, by omega⟩
      refine mm_if_eq (tgt := 55) C (mm_dec dk_X12_spelled 28 rfl) (by decide) (fun c40 => ?_) (fun c40 => ?_)
      · skip
        refine mm_fgt 3 ?_
        exact J55 x39_7 ⟨by omega, by omega⟩
      · skip
        refine mm_lload C (mm_dec dk_X12_spelled 29 rfl) rfl ?_
        refine mm_iconst C (mm_dec dk_X12_spelled 30 rfl) ⟨by decide, by decide⟩ ?_
        refine mm_lshl C (mm_dec dk_X12_spelled 31 rfl) ?_
        have g11 : -9223372036854775808 ≤ (mm_vlshl x39_7 5) ∧ (mm_vlshl x39_7 5) < 9223372036854775808 := mm_rng64 _
        obtain ⟨y11, ey11⟩ : ∃ z, z = (mm_vlshl x39_7 5) := ⟨_, rfl⟩
        rw [← ey11] at g11 ⊢
        clear ey11
        refine mm_iload_n C (mm_dec dk_X12_spelled 32 rfl) rfl ?_
        refine mm_bipush C (mm_dec dk_X12_spelled 33 rfl) ⟨by decide, by decide⟩ ?_
        refine mm_isubw C (mm_dec dk_X12_spelled 34 rfl) ?_
        have g12 : -2147483648 ≤ (mm_w (p3 - 96)) ∧ (mm_w (p3 - 96)) < 2147483648 := mm_w_rg _
        refine mm_i2l C (mm_dec dk_X12_spelled 35 rfl) ?_
        refine mm_lor C (mm_dec dk_X12_spelled 36 rfl) ?_
        have g13 : -9223372036854775808 ≤ (mm_vlor y11 (mm_w (p3 - 96))) ∧ (mm_vlor y11 (mm_w (p3 - 96))) < 9223372036854775808 := mm_rng64 _
        obtain ⟨y13, ey13⟩ : ∃ z, z = (mm_vlor y11 (mm_w (p3 - 96))) := ⟨_, rfl⟩
        rw [← ey13] at g13 ⊢
        clear ey13
        refine mm_lstoreL (ls2 := [mU, mU, mU, mI p3, mI p4, mI p5, mI p6, mL y13, mU]) C (mm_dec dk_X12_spelled 37 rfl) (by decide) rfl ?_
        refine mm_fgt 3 ?_
        exact J55 y13 ⟨by omega, by omega⟩
    refine mm_if_eq (tgt := 39) C (mm_dec dk_X12_spelled 17 rfl) (by decide) (fun c24 => ?_) (fun c24 => ?_)
    · skip
      refine mm_fgt 2 ?_
      exact J39 x23_7 ⟨by omega, by omega⟩
    · skip
      refine mm_lload C (mm_dec dk_X12_spelled 18 rfl) rfl ?_
      refine mm_iconst C (mm_dec dk_X12_spelled 19 rfl) ⟨by decide, by decide⟩ ?_
      refine mm_lshl C (mm_dec dk_X12_spelled 20 rfl) ?_
      have g14 : -9223372036854775808 ≤ (mm_vlshl x23_7 5) ∧ (mm_vlshl x23_7 5) < 9223372036854775808 := mm_rng64 _
      obtain ⟨y14, ey14⟩ : ∃ z, z = (mm_vlshl x23_7 5) := ⟨_, rfl⟩
      rw [← ey14] at g14 ⊢
      clear ey14
      refine mm_iload_n C (mm_dec dk_X12_spelled 21 rfl) rfl ?_
      refine mm_bipush C (mm_dec dk_X12_spelled 22 rfl) ⟨by decide, by decide⟩ ?_
      refine mm_isubw C (mm_dec dk_X12_spelled 23 rfl) ?_
      have g15 : -2147483648 ≤ (mm_w (p2 - 96)) ∧ (mm_w (p2 - 96)) < 2147483648 := mm_w_rg _
      refine mm_i2l C (mm_dec dk_X12_spelled 24 rfl) ?_
      refine mm_lor C (mm_dec dk_X12_spelled 25 rfl) ?_
      have g16 : -9223372036854775808 ≤ (mm_vlor y14 (mm_w (p2 - 96))) ∧ (mm_vlor y14 (mm_w (p2 - 96))) < 9223372036854775808 := mm_rng64 _
      obtain ⟨y16, ey16⟩ : ∃ z, z = (mm_vlor y14 (mm_w (p2 - 96))) := ⟨_, rfl⟩
      rw [← ey16] at g16 ⊢
      clear ey16
      refine mm_lstoreL (ls2 := [mU, mU, mI p2, mI p3, mI p4, mI p5, mI p6, mL y16, mU]) C (mm_dec dk_X12_spelled 26 rfl) (by decide) rfl ?_
      refine mm_fgt 2 ?_
      exact J39 y16 ⟨by omega, by omega⟩
  refine mm_if_eq (tgt := 23) C (mm_dec dk_X12_spelled 6 rfl) (by decide) (fun c8 => ?_) (fun c8 => ?_)
  · skip
    refine mm_fgt 0 ?_
    refine mm_fgt 1 ?_
    exact J23 (mm_w (p0 - 96)) ⟨by omega, by omega⟩
  · skip
    refine mm_lload C (mm_dec dk_X12_spelled 7 rfl) rfl ?_
    refine mm_iconst C (mm_dec dk_X12_spelled 8 rfl) ⟨by decide, by decide⟩ ?_
    refine mm_lshl C (mm_dec dk_X12_spelled 9 rfl) ?_
    have g17 : -9223372036854775808 ≤ (mm_vlshl (mm_w (p0 - 96)) 5) ∧ (mm_vlshl (mm_w (p0 - 96)) 5) < 9223372036854775808 := mm_rng64 _
    obtain ⟨y17, ey17⟩ : ∃ z, z = (mm_vlshl (mm_w (p0 - 96)) 5) := ⟨_, rfl⟩
    rw [← ey17] at g17 ⊢
    clear ey17
    refine mm_iload_n C (mm_dec dk_X12_spelled 10 rfl) rfl ?_
    refine mm_bipush C (mm_dec dk_X12_spelled 11 rfl) ⟨by decide, by decide⟩ ?_
    refine mm_isubw C (mm_dec dk_X12_spelled 12 rfl) ?_
    have g18 : -2147483648 ≤ (mm_w (p1 - 96)) ∧ (mm_w (p1 - 96)) < 2147483648 := mm_w_rg _
    refine mm_i2l C (mm_dec dk_X12_spelled 13 rfl) ?_
    refine mm_lor C (mm_dec dk_X12_spelled 14 rfl) ?_
    have g19 : -9223372036854775808 ≤ (mm_vlor y17 (mm_w (p1 - 96))) ∧ (mm_vlor y17 (mm_w (p1 - 96))) < 9223372036854775808 := mm_rng64 _
    obtain ⟨y19, ey19⟩ : ∃ z, z = (mm_vlor y17 (mm_w (p1 - 96))) := ⟨_, rfl⟩
    rw [← ey19] at g19 ⊢
    clear ey19
    refine mm_lstoreL (ls2 := [mI p0, mI p1, mI p2, mI p3, mI p4, mI p5, mI p6, mL y19, mU]) C (mm_dec dk_X12_spelled 15 rfl) (by decide) rfl ?_
    refine mm_fgt 0 ?_
    refine mm_fgt 1 ?_
    exact J23 y19 ⟨by omega, by omega⟩
set_option maxRecDepth 100000 in
set_option maxHeartbeats 4000000 in
theorem c_X12_known (l : Launch) (hl : l.stackTraces = false) (d : Nat) (hd : 1 ≤ d) (h : mH) (i0 : mm_inv h) (p0 : Int) : mm_Met l d yX12_known cX12_known 1 (some .long) [mI p0] h (mm_pl fun r h2 => h2 = h) mm_nx 0 0 := by
  refine mm_ofW (ls := [mI p0]) hl (by decide) rfl (Nat.le_of_ble_eq_true rfl) ?_
  intro x hxl C T hnm htb
  subst hxl
  have C1 := mm_OK_le (d' := d - 1 + 1) (by omega) C
  refine mm_rng (fun hr _ => ?_)
  have ap0 : -2147483648 ≤ p0 ∧ p0 < 2147483648 := mm_ok_at hr (i := 0) rfl
  have f0 : mm_fr [] [] h h := mm_fr_rf
  refine mm_iload_n C (mm_dec dk_X12_known 0 rfl) rfl ?_
  refine mm_table (t0 := 325) [80, 98, 112, 129, 143, 157, 170, 184, 200, 214, 231, 248, 264, 278, 294, 310] C (mm_dec dk_X12_known 1 rfl) (by decide) (by decide) (by decide +kernel) (fun c1 => ?_) (fun k1 hk1 c1 => ?_)
  · skip
    refine mm_bipush C (mm_dec dk_X12_known 146 rfl) ⟨by decide, by decide⟩ ?_
    refine mm_bipush C (mm_dec dk_X12_known 147 rfl) ⟨by decide, by decide⟩ ?_
    refine mm_bipush C (mm_dec dk_X12_known 148 rfl) ⟨by decide, by decide⟩ ?_
    refine mm_bipush C (mm_dec dk_X12_known 149 rfl) ⟨by decide, by decide⟩ ?_
    refine mm_iconst C (mm_dec dk_X12_known 150 rfl) ⟨by decide, by decide⟩ ?_
    refine mm_iconst C (mm_dec dk_X12_known 151 rfl) ⟨by decide, by decide⟩ ?_
    refine mm_iconst C (mm_dec dk_X12_known 152 rfl) ⟨by decide, by decide⟩ ?_
    refine mm_cSl (rest := []) C1 es_X12_390 (mm_dec dk_X12_known 153 rfl) (c_X12_spelled x.2.1 hl (d - 1) (by omega) h i0 102 114 101 101 0 0 0) rfl (Nat.le_of_ble_eq_true rfl) ⟨by decide, by decide⟩ rfl (fun r336 h336c hp336 => ?_) (fun _ _ q => q.elim)
    have z336 := hp336
    rw [z336]
    refine mm_rng (fun _ ho => ?_)
    have b336 : -9223372036854775808 ≤ r336 ∧ r336 < 9223372036854775808 := mm_ok_hd ho
    exact mm_lret C T (mm_dec dk_X12_known 154 rfl) (by decide : 0 ≤ 0) (by decide : 0 ≤ 0) ⟨_, rfl, rfl⟩
  · have hq1 : k1 < 16 := hk1
    rcases (by omega : k1 = 0 ∨ k1 = 1 ∨ k1 = 2 ∨ k1 = 3 ∨ k1 = 4 ∨ k1 = 5 ∨ k1 = 6 ∨ k1 = 7 ∨ k1 = 8 ∨ k1 = 9 ∨ k1 = 10 ∨ k1 = 11 ∨ k1 = 12 ∨ k1 = 13 ∨ k1 = 14 ∨ k1 = 15) with rfl | rfl | rfl | rfl | rfl | rfl | rfl | rfl | rfl | rfl | rfl | rfl | rfl | rfl | rfl | rfl
    · show mm_W x 0 0 80 _ _ _
      refine mm_bipush C (mm_dec dk_X12_known 2 rfl) ⟨by decide, by decide⟩ ?_
      refine mm_bipush C (mm_dec dk_X12_known 3 rfl) ⟨by decide, by decide⟩ ?_
      refine mm_bipush C (mm_dec dk_X12_known 4 rfl) ⟨by decide, by decide⟩ ?_
      refine mm_bipush C (mm_dec dk_X12_known 5 rfl) ⟨by decide, by decide⟩ ?_
      refine mm_bipush C (mm_dec dk_X12_known 6 rfl) ⟨by decide, by decide⟩ ?_
      refine mm_bipush C (mm_dec dk_X12_known 7 rfl) ⟨by decide, by decide⟩ ?_
      refine mm_bipush C (mm_dec dk_X12_known 8 rfl) ⟨by decide, by decide⟩ ?_
      refine mm_cSl (rest := []) C1 es_X12_390 (mm_dec dk_X12_known 9 rfl) (c_X12_spelled x.2.1 hl (d - 1) (by omega) h i0 112 101 110 97 108 116 121) rfl (Nat.le_of_ble_eq_true rfl) ⟨by decide, by decide⟩ rfl (fun r94 h94c hp94 => ?_) (fun _ _ q => q.elim)
      have z94 := hp94
      rw [z94]
      refine mm_rng (fun _ ho => ?_)
      have b94 : -9223372036854775808 ≤ r94 ∧ r94 < 9223372036854775808 := mm_ok_hd ho
      exact mm_lret C T (mm_dec dk_X12_known 10 rfl) (by decide : 0 ≤ 0) (by decide : 0 ≤ 0) ⟨_, rfl, rfl⟩
    · show mm_W x 0 0 98 _ _ _
      refine mm_bipush C (mm_dec dk_X12_known 11 rfl) ⟨by decide, by decide⟩ ?_
      refine mm_bipush C (mm_dec dk_X12_known 12 rfl) ⟨by decide, by decide⟩ ?_
      refine mm_bipush C (mm_dec dk_X12_known 13 rfl) ⟨by decide, by decide⟩ ?_
      refine mm_iconst C (mm_dec dk_X12_known 14 rfl) ⟨by decide, by decide⟩ ?_
      refine mm_iconst C (mm_dec dk_X12_known 15 rfl) ⟨by decide, by decide⟩ ?_
      refine mm_iconst C (mm_dec dk_X12_known 16 rfl) ⟨by decide, by decide⟩ ?_
      refine mm_iconst C (mm_dec dk_X12_known 17 rfl) ⟨by decide, by decide⟩ ?_
      refine mm_cSl (rest := []) C1 es_X12_390 (mm_dec dk_X12_known 18 rfl) (c_X12_spelled x.2.1 hl (d - 1) (by omega) h i0 111 117 116 0 0 0 0) rfl (Nat.le_of_ble_eq_true rfl) ⟨by decide, by decide⟩ rfl (fun r108 h108c hp108 => ?_) (fun _ _ q => q.elim)
      have z108 := hp108
      rw [z108]
      refine mm_rng (fun _ ho => ?_)
      have b108 : -9223372036854775808 ≤ r108 ∧ r108 < 9223372036854775808 := mm_ok_hd ho
      exact mm_lret C T (mm_dec dk_X12_known 19 rfl) (by decide : 0 ≤ 0) (by decide : 0 ≤ 0) ⟨_, rfl, rfl⟩
    · show mm_W x 0 0 112 _ _ _
      refine mm_bipush C (mm_dec dk_X12_known 20 rfl) ⟨by decide, by decide⟩ ?_
      refine mm_bipush C (mm_dec dk_X12_known 21 rfl) ⟨by decide, by decide⟩ ?_
      refine mm_bipush C (mm_dec dk_X12_known 22 rfl) ⟨by decide, by decide⟩ ?_
      refine mm_bipush C (mm_dec dk_X12_known 23 rfl) ⟨by decide, by decide⟩ ?_
      refine mm_bipush C (mm_dec dk_X12_known 24 rfl) ⟨by decide, by decide⟩ ?_
      refine mm_bipush C (mm_dec dk_X12_known 25 rfl) ⟨by decide, by decide⟩ ?_
      refine mm_iconst C (mm_dec dk_X12_known 26 rfl) ⟨by decide, by decide⟩ ?_
      refine mm_cSl (rest := []) C1 es_X12_390 (mm_dec dk_X12_known 27 rfl) (c_X12_spelled x.2.1 hl (d - 1) (by omega) h i0 117 110 108 101 115 115 0) rfl (Nat.le_of_ble_eq_true rfl) ⟨by decide, by decide⟩ rfl (fun r125 h125c hp125 => ?_) (fun _ _ q => q.elim)
      have z125 := hp125
      rw [z125]
      refine mm_rng (fun _ ho => ?_)
      have b125 : -9223372036854775808 ≤ r125 ∧ r125 < 9223372036854775808 := mm_ok_hd ho
      exact mm_lret C T (mm_dec dk_X12_known 28 rfl) (by decide : 0 ≤ 0) (by decide : 0 ≤ 0) ⟨_, rfl, rfl⟩
    · show mm_W x 0 0 129 _ _ _
      refine mm_bipush C (mm_dec dk_X12_known 29 rfl) ⟨by decide, by decide⟩ ?_
      refine mm_bipush C (mm_dec dk_X12_known 30 rfl) ⟨by decide, by decide⟩ ?_
      refine mm_bipush C (mm_dec dk_X12_known 31 rfl) ⟨by decide, by decide⟩ ?_
      refine mm_iconst C (mm_dec dk_X12_known 32 rfl) ⟨by decide, by decide⟩ ?_
      refine mm_iconst C (mm_dec dk_X12_known 33 rfl) ⟨by decide, by decide⟩ ?_
      refine mm_iconst C (mm_dec dk_X12_known 34 rfl) ⟨by decide, by decide⟩ ?_
      refine mm_iconst C (mm_dec dk_X12_known 35 rfl) ⟨by decide, by decide⟩ ?_
      refine mm_cSl (rest := []) C1 es_X12_390 (mm_dec dk_X12_known 36 rfl) (c_X12_spelled x.2.1 hl (d - 1) (by omega) h i0 115 101 116 0 0 0 0) rfl (Nat.le_of_ble_eq_true rfl) ⟨by decide, by decide⟩ rfl (fun r139 h139c hp139 => ?_) (fun _ _ q => q.elim)
      have z139 := hp139
      rw [z139]
      refine mm_rng (fun _ ho => ?_)
      have b139 : -9223372036854775808 ≤ r139 ∧ r139 < 9223372036854775808 := mm_ok_hd ho
      exact mm_lret C T (mm_dec dk_X12_known 37 rfl) (by decide : 0 ≤ 0) (by decide : 0 ≤ 0) ⟨_, rfl, rfl⟩
    · show mm_W x 0 0 143 _ _ _
      refine mm_bipush C (mm_dec dk_X12_known 38 rfl) ⟨by decide, by decide⟩ ?_
      refine mm_bipush C (mm_dec dk_X12_known 39 rfl) ⟨by decide, by decide⟩ ?_
      refine mm_bipush C (mm_dec dk_X12_known 40 rfl) ⟨by decide, by decide⟩ ?_
      refine mm_iconst C (mm_dec dk_X12_known 41 rfl) ⟨by decide, by decide⟩ ?_
      refine mm_iconst C (mm_dec dk_X12_known 42 rfl) ⟨by decide, by decide⟩ ?_
      refine mm_iconst C (mm_dec dk_X12_known 43 rfl) ⟨by decide, by decide⟩ ?_
      refine mm_iconst C (mm_dec dk_X12_known 44 rfl) ⟨by decide, by decide⟩ ?_
      refine mm_cSl (rest := []) C1 es_X12_390 (mm_dec dk_X12_known 45 rfl) (c_X12_spelled x.2.1 hl (d - 1) (by omega) h i0 97 110 100 0 0 0 0) rfl (Nat.le_of_ble_eq_true rfl) ⟨by decide, by decide⟩ rfl (fun r153 h153c hp153 => ?_) (fun _ _ q => q.elim)
      have z153 := hp153
      rw [z153]
      refine mm_rng (fun _ ho => ?_)
      have b153 : -9223372036854775808 ≤ r153 ∧ r153 < 9223372036854775808 := mm_ok_hd ho
      exact mm_lret C T (mm_dec dk_X12_known 46 rfl) (by decide : 0 ≤ 0) (by decide : 0 ≤ 0) ⟨_, rfl, rfl⟩
    · show mm_W x 0 0 157 _ _ _
      refine mm_bipush C (mm_dec dk_X12_known 47 rfl) ⟨by decide, by decide⟩ ?_
      refine mm_bipush C (mm_dec dk_X12_known 48 rfl) ⟨by decide, by decide⟩ ?_
      refine mm_iconst C (mm_dec dk_X12_known 49 rfl) ⟨by decide, by decide⟩ ?_
      refine mm_iconst C (mm_dec dk_X12_known 50 rfl) ⟨by decide, by decide⟩ ?_
      refine mm_iconst C (mm_dec dk_X12_known 51 rfl) ⟨by decide, by decide⟩ ?_
      refine mm_iconst C (mm_dec dk_X12_known 52 rfl) ⟨by decide, by decide⟩ ?_
      refine mm_iconst C (mm_dec dk_X12_known 53 rfl) ⟨by decide, by decide⟩ ?_
      refine mm_cSl (rest := []) C1 es_X12_390 (mm_dec dk_X12_known 54 rfl) (c_X12_spelled x.2.1 hl (d - 1) (by omega) h i0 111 114 0 0 0 0 0) rfl (Nat.le_of_ble_eq_true rfl) ⟨by decide, by decide⟩ rfl (fun r166 h166c hp166 => ?_) (fun _ _ q => q.elim)
      have z166 := hp166
      rw [z166]
      refine mm_rng (fun _ ho => ?_)
      have b166 : -9223372036854775808 ≤ r166 ∧ r166 < 9223372036854775808 := mm_ok_hd ho
      exact mm_lret C T (mm_dec dk_X12_known 55 rfl) (by decide : 0 ≤ 0) (by decide : 0 ≤ 0) ⟨_, rfl, rfl⟩
    · show mm_W x 0 0 170 _ _ _
      refine mm_bipush C (mm_dec dk_X12_known 56 rfl) ⟨by decide, by decide⟩ ?_
      refine mm_bipush C (mm_dec dk_X12_known 57 rfl) ⟨by decide, by decide⟩ ?_
      refine mm_bipush C (mm_dec dk_X12_known 58 rfl) ⟨by decide, by decide⟩ ?_
      refine mm_iconst C (mm_dec dk_X12_known 59 rfl) ⟨by decide, by decide⟩ ?_
      refine mm_iconst C (mm_dec dk_X12_known 60 rfl) ⟨by decide, by decide⟩ ?_
      refine mm_iconst C (mm_dec dk_X12_known 61 rfl) ⟨by decide, by decide⟩ ?_
      refine mm_iconst C (mm_dec dk_X12_known 62 rfl) ⟨by decide, by decide⟩ ?_
      refine mm_cSl (rest := []) C1 es_X12_390 (mm_dec dk_X12_known 63 rfl) (c_X12_spelled x.2.1 hl (d - 1) (by omega) h i0 110 111 116 0 0 0 0) rfl (Nat.le_of_ble_eq_true rfl) ⟨by decide, by decide⟩ rfl (fun r180 h180c hp180 => ?_) (fun _ _ q => q.elim)
      have z180 := hp180
      rw [z180]
      refine mm_rng (fun _ ho => ?_)
      have b180 : -9223372036854775808 ≤ r180 ∧ r180 < 9223372036854775808 := mm_ok_hd ho
      exact mm_lret C T (mm_dec dk_X12_known 64 rfl) (by decide : 0 ≤ 0) (by decide : 0 ≤ 0) ⟨_, rfl, rfl⟩
    · show mm_W x 0 0 184 _ _ _
      refine mm_bipush C (mm_dec dk_X12_known 65 rfl) ⟨by decide, by decide⟩ ?_
      refine mm_bipush C (mm_dec dk_X12_known 66 rfl) ⟨by decide, by decide⟩ ?_
      refine mm_bipush C (mm_dec dk_X12_known 67 rfl) ⟨by decide, by decide⟩ ?_
      refine mm_bipush C (mm_dec dk_X12_known 68 rfl) ⟨by decide, by decide⟩ ?_
      refine mm_bipush C (mm_dec dk_X12_known 69 rfl) ⟨by decide, by decide⟩ ?_
      refine mm_iconst C (mm_dec dk_X12_known 70 rfl) ⟨by decide, by decide⟩ ?_
      refine mm_iconst C (mm_dec dk_X12_known 71 rfl) ⟨by decide, by decide⟩ ?_
      refine mm_cSl (rest := []) C1 es_X12_390 (mm_dec dk_X12_known 72 rfl) (c_X12_spelled x.2.1 hl (d - 1) (by omega) h i0 108 105 109 105 116 0 0) rfl (Nat.le_of_ble_eq_true rfl) ⟨by decide, by decide⟩ rfl (fun r196 h196c hp196 => ?_) (fun _ _ q => q.elim)
      have z196 := hp196
      rw [z196]
      refine mm_rng (fun _ ho => ?_)
      have b196 : -9223372036854775808 ≤ r196 ∧ r196 < 9223372036854775808 := mm_ok_hd ho
      exact mm_lret C T (mm_dec dk_X12_known 73 rfl) (by decide : 0 ≤ 0) (by decide : 0 ≤ 0) ⟨_, rfl, rfl⟩
    · show mm_W x 0 0 200 _ _ _
      refine mm_bipush C (mm_dec dk_X12_known 74 rfl) ⟨by decide, by decide⟩ ?_
      refine mm_bipush C (mm_dec dk_X12_known 75 rfl) ⟨by decide, by decide⟩ ?_
      refine mm_bipush C (mm_dec dk_X12_known 76 rfl) ⟨by decide, by decide⟩ ?_
      refine mm_iconst C (mm_dec dk_X12_known 77 rfl) ⟨by decide, by decide⟩ ?_
      refine mm_iconst C (mm_dec dk_X12_known 78 rfl) ⟨by decide, by decide⟩ ?_
      refine mm_iconst C (mm_dec dk_X12_known 79 rfl) ⟨by decide, by decide⟩ ?_
      refine mm_iconst C (mm_dec dk_X12_known 80 rfl) ⟨by decide, by decide⟩ ?_
      refine mm_cSl (rest := []) C1 es_X12_390 (mm_dec dk_X12_known 81 rfl) (c_X12_spelled x.2.1 hl (d - 1) (by omega) h i0 103 97 112 0 0 0 0) rfl (Nat.le_of_ble_eq_true rfl) ⟨by decide, by decide⟩ rfl (fun r210 h210c hp210 => ?_) (fun _ _ q => q.elim)
      have z210 := hp210
      rw [z210]
      refine mm_rng (fun _ ho => ?_)
      have b210 : -9223372036854775808 ≤ r210 ∧ r210 < 9223372036854775808 := mm_ok_hd ho
      exact mm_lret C T (mm_dec dk_X12_known 82 rfl) (by decide : 0 ≤ 0) (by decide : 0 ≤ 0) ⟨_, rfl, rfl⟩
    · show mm_W x 0 0 214 _ _ _
      refine mm_bipush C (mm_dec dk_X12_known 83 rfl) ⟨by decide, by decide⟩ ?_
      refine mm_bipush C (mm_dec dk_X12_known 84 rfl) ⟨by decide, by decide⟩ ?_
      refine mm_bipush C (mm_dec dk_X12_known 85 rfl) ⟨by decide, by decide⟩ ?_
      refine mm_bipush C (mm_dec dk_X12_known 86 rfl) ⟨by decide, by decide⟩ ?_
      refine mm_bipush C (mm_dec dk_X12_known 87 rfl) ⟨by decide, by decide⟩ ?_
      refine mm_bipush C (mm_dec dk_X12_known 88 rfl) ⟨by decide, by decide⟩ ?_
      refine mm_iconst C (mm_dec dk_X12_known 89 rfl) ⟨by decide, by decide⟩ ?_
      refine mm_cSl (rest := []) C1 es_X12_390 (mm_dec dk_X12_known 90 rfl) (c_X12_spelled x.2.1 hl (d - 1) (by omega) h i0 119 105 110 100 111 119 0) rfl (Nat.le_of_ble_eq_true rfl) ⟨by decide, by decide⟩ rfl (fun r227 h227c hp227 => ?_) (fun _ _ q => q.elim)
      have z227 := hp227
      rw [z227]
      refine mm_rng (fun _ ho => ?_)
      have b227 : -9223372036854775808 ≤ r227 ∧ r227 < 9223372036854775808 := mm_ok_hd ho
      exact mm_lret C T (mm_dec dk_X12_known 91 rfl) (by decide : 0 ≤ 0) (by decide : 0 ≤ 0) ⟨_, rfl, rfl⟩
    · show mm_W x 0 0 231 _ _ _
      refine mm_bipush C (mm_dec dk_X12_known 92 rfl) ⟨by decide, by decide⟩ ?_
      refine mm_bipush C (mm_dec dk_X12_known 93 rfl) ⟨by decide, by decide⟩ ?_
      refine mm_bipush C (mm_dec dk_X12_known 94 rfl) ⟨by decide, by decide⟩ ?_
      refine mm_bipush C (mm_dec dk_X12_known 95 rfl) ⟨by decide, by decide⟩ ?_
      refine mm_bipush C (mm_dec dk_X12_known 96 rfl) ⟨by decide, by decide⟩ ?_
      refine mm_bipush C (mm_dec dk_X12_known 97 rfl) ⟨by decide, by decide⟩ ?_
      refine mm_iconst C (mm_dec dk_X12_known 98 rfl) ⟨by decide, by decide⟩ ?_
      refine mm_cSl (rest := []) C1 es_X12_390 (mm_dec dk_X12_known 99 rfl) (c_X12_spelled x.2.1 hl (d - 1) (by omega) h i0 109 105 115 115 101 100 0) rfl (Nat.le_of_ble_eq_true rfl) ⟨by decide, by decide⟩ rfl (fun r244 h244c hp244 => ?_) (fun _ _ q => q.elim)
      have z244 := hp244
      rw [z244]
      refine mm_rng (fun _ ho => ?_)
      have b244 : -9223372036854775808 ≤ r244 ∧ r244 < 9223372036854775808 := mm_ok_hd ho
      exact mm_lret C T (mm_dec dk_X12_known 100 rfl) (by decide : 0 ≤ 0) (by decide : 0 ≤ 0) ⟨_, rfl, rfl⟩
    · show mm_W x 0 0 248 _ _ _
      refine mm_bipush C (mm_dec dk_X12_known 101 rfl) ⟨by decide, by decide⟩ ?_
      refine mm_bipush C (mm_dec dk_X12_known 102 rfl) ⟨by decide, by decide⟩ ?_
      refine mm_bipush C (mm_dec dk_X12_known 103 rfl) ⟨by decide, by decide⟩ ?_
      refine mm_bipush C (mm_dec dk_X12_known 104 rfl) ⟨by decide, by decide⟩ ?_
      refine mm_bipush C (mm_dec dk_X12_known 105 rfl) ⟨by decide, by decide⟩ ?_
      refine mm_iconst C (mm_dec dk_X12_known 106 rfl) ⟨by decide, by decide⟩ ?_
      refine mm_iconst C (mm_dec dk_X12_known 107 rfl) ⟨by decide, by decide⟩ ?_
      refine mm_cSl (rest := []) C1 es_X12_390 (mm_dec dk_X12_known 108 rfl) (c_X12_spelled x.2.1 hl (d - 1) (by omega) h i0 119 114 111 110 103 0 0) rfl (Nat.le_of_ble_eq_true rfl) ⟨by decide, by decide⟩ rfl (fun r260 h260c hp260 => ?_) (fun _ _ q => q.elim)
      have z260 := hp260
      rw [z260]
      refine mm_rng (fun _ ho => ?_)
      have b260 : -9223372036854775808 ≤ r260 ∧ r260 < 9223372036854775808 := mm_ok_hd ho
      exact mm_lret C T (mm_dec dk_X12_known 109 rfl) (by decide : 0 ≤ 0) (by decide : 0 ≤ 0) ⟨_, rfl, rfl⟩
    · show mm_W x 0 0 264 _ _ _
      refine mm_bipush C (mm_dec dk_X12_known 110 rfl) ⟨by decide, by decide⟩ ?_
      refine mm_bipush C (mm_dec dk_X12_known 111 rfl) ⟨by decide, by decide⟩ ?_
      refine mm_bipush C (mm_dec dk_X12_known 112 rfl) ⟨by decide, by decide⟩ ?_
      refine mm_iconst C (mm_dec dk_X12_known 113 rfl) ⟨by decide, by decide⟩ ?_
      refine mm_iconst C (mm_dec dk_X12_known 114 rfl) ⟨by decide, by decide⟩ ?_
      refine mm_iconst C (mm_dec dk_X12_known 115 rfl) ⟨by decide, by decide⟩ ?_
      refine mm_iconst C (mm_dec dk_X12_known 116 rfl) ⟨by decide, by decide⟩ ?_
      refine mm_cSl (rest := []) C1 es_X12_390 (mm_dec dk_X12_known 117 rfl) (c_X12_spelled x.2.1 hl (d - 1) (by omega) h i0 114 117 110 0 0 0 0) rfl (Nat.le_of_ble_eq_true rfl) ⟨by decide, by decide⟩ rfl (fun r274 h274c hp274 => ?_) (fun _ _ q => q.elim)
      have z274 := hp274
      rw [z274]
      refine mm_rng (fun _ ho => ?_)
      have b274 : -9223372036854775808 ≤ r274 ∧ r274 < 9223372036854775808 := mm_ok_hd ho
      exact mm_lret C T (mm_dec dk_X12_known 118 rfl) (by decide : 0 ≤ 0) (by decide : 0 ≤ 0) ⟨_, rfl, rfl⟩
    · show mm_W x 0 0 278 _ _ _
      refine mm_bipush C (mm_dec dk_X12_known 119 rfl) ⟨by decide, by decide⟩ ?_
      refine mm_bipush C (mm_dec dk_X12_known 120 rfl) ⟨by decide, by decide⟩ ?_
      refine mm_bipush C (mm_dec dk_X12_known 121 rfl) ⟨by decide, by decide⟩ ?_
      refine mm_bipush C (mm_dec dk_X12_known 122 rfl) ⟨by decide, by decide⟩ ?_
      refine mm_bipush C (mm_dec dk_X12_known 123 rfl) ⟨by decide, by decide⟩ ?_
      refine mm_iconst C (mm_dec dk_X12_known 124 rfl) ⟨by decide, by decide⟩ ?_
      refine mm_iconst C (mm_dec dk_X12_known 125 rfl) ⟨by decide, by decide⟩ ?_
      refine mm_cSl (rest := []) C1 es_X12_390 (mm_dec dk_X12_known 126 rfl) (c_X12_spelled x.2.1 hl (d - 1) (by omega) h i0 115 99 111 114 101 0 0) rfl (Nat.le_of_ble_eq_true rfl) ⟨by decide, by decide⟩ rfl (fun r290 h290c hp290 => ?_) (fun _ _ q => q.elim)
      have z290 := hp290
      rw [z290]
      refine mm_rng (fun _ ho => ?_)
      have b290 : -9223372036854775808 ≤ r290 ∧ r290 < 9223372036854775808 := mm_ok_hd ho
      exact mm_lret C T (mm_dec dk_X12_known 127 rfl) (by decide : 0 ≤ 0) (by decide : 0 ≤ 0) ⟨_, rfl, rfl⟩
    · show mm_W x 0 0 294 _ _ _
      refine mm_bipush C (mm_dec dk_X12_known 128 rfl) ⟨by decide, by decide⟩ ?_
      refine mm_bipush C (mm_dec dk_X12_known 129 rfl) ⟨by decide, by decide⟩ ?_
      refine mm_bipush C (mm_dec dk_X12_known 130 rfl) ⟨by decide, by decide⟩ ?_
      refine mm_bipush C (mm_dec dk_X12_known 131 rfl) ⟨by decide, by decide⟩ ?_
      refine mm_bipush C (mm_dec dk_X12_known 132 rfl) ⟨by decide, by decide⟩ ?_
      refine mm_iconst C (mm_dec dk_X12_known 133 rfl) ⟨by decide, by decide⟩ ?_
      refine mm_iconst C (mm_dec dk_X12_known 134 rfl) ⟨by decide, by decide⟩ ?_
      refine mm_cSl (rest := []) C1 es_X12_390 (mm_dec dk_X12_known 135 rfl) (c_X12_spelled x.2.1 hl (d - 1) (by omega) h i0 112 111 115 116 115 0 0) rfl (Nat.le_of_ble_eq_true rfl) ⟨by decide, by decide⟩ rfl (fun r306 h306c hp306 => ?_) (fun _ _ q => q.elim)
      have z306 := hp306
      rw [z306]
      refine mm_rng (fun _ ho => ?_)
      have b306 : -9223372036854775808 ≤ r306 ∧ r306 < 9223372036854775808 := mm_ok_hd ho
      exact mm_lret C T (mm_dec dk_X12_known 136 rfl) (by decide : 0 ≤ 0) (by decide : 0 ≤ 0) ⟨_, rfl, rfl⟩
    · show mm_W x 0 0 310 _ _ _
      refine mm_bipush C (mm_dec dk_X12_known 137 rfl) ⟨by decide, by decide⟩ ?_
      refine mm_bipush C (mm_dec dk_X12_known 138 rfl) ⟨by decide, by decide⟩ ?_
      refine mm_bipush C (mm_dec dk_X12_known 139 rfl) ⟨by decide, by decide⟩ ?_
      refine mm_bipush C (mm_dec dk_X12_known 140 rfl) ⟨by decide, by decide⟩ ?_
      refine mm_iconst C (mm_dec dk_X12_known 141 rfl) ⟨by decide, by decide⟩ ?_
      refine mm_iconst C (mm_dec dk_X12_known 142 rfl) ⟨by decide, by decide⟩ ?_
      refine mm_iconst C (mm_dec dk_X12_known 143 rfl) ⟨by decide, by decide⟩ ?_
      refine mm_cSl (rest := []) C1 es_X12_390 (mm_dec dk_X12_known 144 rfl) (c_X12_spelled x.2.1 hl (d - 1) (by omega) h i0 99 108 117 98 0 0 0) rfl (Nat.le_of_ble_eq_true rfl) ⟨by decide, by decide⟩ rfl (fun r321 h321c hp321 => ?_) (fun _ _ q => q.elim)
      have z321 := hp321
      rw [z321]
      refine mm_rng (fun _ ho => ?_)
      have b321 : -9223372036854775808 ≤ r321 ∧ r321 < 9223372036854775808 := mm_ok_hd ho
      exact mm_lret C T (mm_dec dk_X12_known 145 rfl) (by decide : 0 ≤ 0) (by decide : 0 ≤ 0) ⟨_, rfl, rfl⟩
set_option maxRecDepth 100000 in
set_option maxHeartbeats 4000000 in
theorem c_X12_knownWord (l : Launch) (hl : l.stackTraces = false) (d : Nat) (hd : 2 ≤ d) (h : mH) (i0 : mm_inv h) : mm_Met l d yX12_knownWord cX12_knownWord 2 (some .int) [mR 66] h (mm_pi fun r h2 => (-1 ≤ r ∧ r ≤ 16) ∧ h2 = h) mm_nx 0 0 := by
  refine mm_ofW (ls := [mR 66, mU]) hl (by decide) rfl (Nat.le_of_ble_eq_true rfl) ?_
  intro x hxl C T hnm htb
  subst hxl
  have C1 := mm_OK_le (d' := d - 1 + 1) (by omega) C
  have f0 : mm_fr [] [] h h := mm_fr_rf
  refine mm_aload_n C (mm_dec dk_X12_knownWord 0 rfl) rfl ?_
  refine mm_geti C fl_X12_378 (mm_dec dk_X12_knownWord 1 rfl) rfl rfl (Or.inl rfl) ?_
  have g1 : -2147483648 ≤ (h.1 66 61) ∧ (h.1 66 61) ≤ 2147483647 := i0.1 66 61
  refine mm_iconst C (mm_dec dk_X12_knownWord 2 rfl) ⟨by decide, by decide⟩ ?_
  have J17 : mm_W x 0 0 17 [mU, mU] [] h := by
    refine mm_iconst C (mm_dec dk_X12_knownWord 8 rfl) ⟨by decide, by decide⟩ ?_
    exact mm_iret C T (mm_dec dk_X12_knownWord 9 rfl) (by decide : 0 ≤ 0) (by decide : 0 ≤ 0) ⟨_, rfl, ⟨⟨by omega, by omega⟩, rfl⟩⟩
  refine mm_icmp_ne (tgt := 17) C (mm_dec dk_X12_knownWord 3 rfl) (by decide) (fun c5 => ?_) (fun c5 => ?_)
  · skip
    refine mm_fgt 0 ?_
    exact J17
  · skip
    refine mm_aload_n C (mm_dec dk_X12_knownWord 4 rfl) rfl ?_
    refine mm_geti C fl_X12_387 (mm_dec dk_X12_knownWord 5 rfl) rfl rfl (Or.inl rfl) ?_
    have g2 : -2147483648 ≤ (h.1 66 63) ∧ (h.1 66 63) ≤ 2147483647 := i0.1 66 63
    refine mm_bipush C (mm_dec dk_X12_knownWord 6 rfl) ⟨by decide, by decide⟩ ?_
    refine mm_icmp_le (tgt := 19) C (mm_dec dk_X12_knownWord 7 rfl) (by decide) (fun c14 => ?_) (fun c14 => ?_)
    · skip
      refine mm_iconst C (mm_dec dk_X12_knownWord 10 rfl) ⟨by decide, by decide⟩ ?_
      have J21 : ∀ (n : Nat) (x21_1 : Int) (bx21_1 : 0 ≤ x21_1 ∧ x21_1 ≤ 19), (19 - x21_1 : Int) < n → mm_W x 0 0 21 [mR 66, mI x21_1] [] h := by
        intro n
        induction n with
        | zero =>
          intro x21_1 bx21_1 hm
          exfalso; omega
        | succ n ih21 =>
          intro x21_1 bx21_1 hm21
          refine mm_iload_n C (mm_dec dk_X12_knownWord 12 rfl) rfl ?_
          refine mm_bipush C (mm_dec dk_X12_knownWord 13 rfl) ⟨by decide, by decide⟩ ?_
          refine mm_icmp_ge (tgt := 47) C (mm_dec dk_X12_knownWord 14 rfl) (by decide) (fun c24 => ?_) (fun c24 => ?_)
          · skip
            refine mm_iconst C (mm_dec dk_X12_knownWord 25 rfl) ⟨by decide, by decide⟩ ?_
            exact mm_iret C T (mm_dec dk_X12_knownWord 26 rfl) (by decide : 0 ≤ 0) (by decide : 0 ≤ 0) ⟨_, rfl, ⟨⟨by omega, by omega⟩, rfl⟩⟩
          · skip
            refine mm_iload_n C (mm_dec dk_X12_knownWord 15 rfl) rfl ?_
            refine mm_cSl (rest := []) C1 es_X12_394 (mm_dec dk_X12_knownWord 16 rfl) (c_X12_known x.2.1 hl (d - 1) (by omega) h i0 x21_1) rfl (Nat.le_of_ble_eq_true rfl) ⟨by decide, by decide⟩ rfl (fun r28 h28c hp28 => ?_) (fun _ _ q => q.elim)
            have z28 := hp28
            rw [z28]
            refine mm_rng (fun _ ho => ?_)
            have b28 : -9223372036854775808 ≤ r28 ∧ r28 < 9223372036854775808 := mm_ok_hd ho
            refine mm_aload_n C (mm_dec dk_X12_knownWord 17 rfl) rfl ?_
            refine mm_getl C fl_X12_368 (mm_dec dk_X12_knownWord 18 rfl) rfl rfl ?_
            refine mm_lcmp C (mm_dec dk_X12_knownWord 19 rfl) (fun c35 => ?_) (fun c35 => ?_) (fun c35 => ?_)
            · skip
              refine mm_if_ne (tgt := 41) C (mm_dec dk_X12_knownWord 20 rfl) (by decide) (fun c36 => ?_) (fun c36 => ?_)
              · skip
                refine mm_iincL (ls2 := [mR 66, mI (x21_1 + 1)]) C (mm_dec dk_X12_knownWord 23 rfl) rfl (by decide) ⟨by omega, by omega⟩ rfl ?_
                refine mm_goto (tgt := 21) C (mm_dec dk_X12_knownWord 24 rfl) (by decide) ?_
                exact ih21 (x21_1 + 1) ⟨by omega, by omega⟩ (by omega)
              · skip
                exfalso; omega
            · skip
              refine mm_if_ne (tgt := 41) C (mm_dec dk_X12_knownWord 20 rfl) (by decide) (fun c36 => ?_) (fun c36 => ?_)
              · skip
                exfalso; omega
              · skip
                refine mm_iload_n C (mm_dec dk_X12_knownWord 21 rfl) rfl ?_
                exact mm_iret C T (mm_dec dk_X12_knownWord 22 rfl) (by decide : 0 ≤ 0) (by decide : 0 ≤ 0) ⟨_, rfl, ⟨⟨by omega, by omega⟩, rfl⟩⟩
            · skip
              refine mm_if_ne (tgt := 41) C (mm_dec dk_X12_knownWord 20 rfl) (by decide) (fun c36 => ?_) (fun c36 => ?_)
              · skip
                refine mm_iincL (ls2 := [mR 66, mI (x21_1 + 1)]) C (mm_dec dk_X12_knownWord 23 rfl) rfl (by decide) ⟨by omega, by omega⟩ rfl ?_
                refine mm_goto (tgt := 21) C (mm_dec dk_X12_knownWord 24 rfl) (by decide) ?_
                exact ih21 (x21_1 + 1) ⟨by omega, by omega⟩ (by omega)
              · skip
                exfalso; omega
      refine mm_istore_nL (ls2 := [mR 66, mI 0]) C (mm_dec dk_X12_knownWord 11 rfl) (by decide) rfl ?_
      exact J21 (((19 - 0) : Int) + 1).toNat 0 ⟨by omega, by omega⟩ (by omega)
    · skip
      refine mm_fgt 0 ?_
      exact J17
set_option maxRecDepth 100000 in
set_option maxHeartbeats 4000000 in
theorem c_X12_wrong (l : Launch) (hl : l.stackTraces = false) (d : Nat) (hd : 0 ≤ d) (h : mH) (i0 : mm_inv h) (p1 : Int) : mm_Met l d yX12_wrong cX12_wrong 2 none [mR 66, mI p1] h (mm_pv fun h2 => mm_inv h2 ∧ mm_fr [(66, 57), (66, 58)] [] h h2) mm_nx 0 0 := by
  refine mm_ofW (ls := [mR 66, mI p1]) hl (by decide) rfl (Nat.le_of_ble_eq_true rfl) ?_
  intro x hxl C T hnm htb
  subst hxl
  refine mm_rng (fun hr _ => ?_)
  have ap1 : -2147483648 ≤ p1 ∧ p1 < 2147483648 := mm_ok_at hr (i := 1) rfl
  have f0 : mm_fr [(66, 57), (66, 58)] [] h h := mm_fr_rf
  refine mm_aload_n C (mm_dec dk_X12_wrong 0 rfl) rfl ?_
  refine mm_geti C fl_X12_398 (mm_dec dk_X12_wrong 1 rfl) rfl rfl (Or.inl rfl) ?_
  have g1 : -2147483648 ≤ (h.1 66 57) ∧ (h.1 66 57) ≤ 2147483647 := i0.1 66 57
  refine mm_if_eq (tgt := 8) C (mm_dec dk_X12_wrong 2 rfl) (by decide) (fun c4 => ?_) (fun c4 => ?_)
  · skip
    refine mm_aload_n C (mm_dec dk_X12_wrong 4 rfl) rfl ?_
    refine mm_iload_n C (mm_dec dk_X12_wrong 5 rfl) rfl ?_
    refine mm_puti C fl_X12_398 (mm_dec dk_X12_wrong 6 rfl) rfl rfl rfl (Or.inl ⟨rfl, rfl⟩) ?_
    have i1 : mm_inv (mm_pf h 66 57 p1) := mm_inv_pf i0 (show -2147483648 ≤ p1 ∧ p1 ≤ 2147483647 from ⟨by omega, by omega⟩) (by decide)
    have f1 : mm_fr [(66, 57), (66, 58)] [] h (mm_pf h 66 57 p1) := mm_fr_pf f0 (by decide)
    obtain ⟨h1, eh1⟩ : ∃ z, z = mm_pf h 66 57 p1 := ⟨_, rfl⟩
    rw [← eh1] at i1 f1 ⊢
    have qh1 : h1.1 66 57 = p1 := by rw [eh1]; exact mm_pf_same _ _ _ _
    refine mm_aload_n C (mm_dec dk_X12_wrong 7 rfl) rfl ?_
    refine mm_aload_n C (mm_dec dk_X12_wrong 8 rfl) rfl ?_
    refine mm_geti C fl_X12_365 (mm_dec dk_X12_wrong 9 rfl) rfl rfl (Or.inl rfl) ?_
    have g2 : 0 ≤ (h1.1 66 62) ∧ (h1.1 66 62) ≤ 500 := i1.1 66 62
    refine mm_puti C fl_X12_237 (mm_dec dk_X12_wrong 10 rfl) rfl rfl rfl (Or.inl ⟨rfl, rfl⟩) ?_
    have i2 : mm_inv (mm_pf h1 66 58 (h1.1 66 62)) := mm_inv_pf i1 (show -2147483648 ≤ (h1.1 66 62) ∧ (h1.1 66 62) ≤ 2147483647 from ⟨by omega, by omega⟩) (by decide)
    have f2 : mm_fr [(66, 57), (66, 58)] [] h (mm_pf h1 66 58 (h1.1 66 62)) := mm_fr_pf f1 (by decide)
    obtain ⟨h2, eh2⟩ : ∃ z, z = mm_pf h1 66 58 (h1.1 66 62) := ⟨_, rfl⟩
    rw [← eh2] at i2 f2 ⊢
    have qh2 : h2.1 66 58 = (h1.1 66 62) := by rw [eh2]; exact mm_pf_same _ _ _ _
    have qh2_3 : h2.1 66 57 = h1.1 66 57 := by rw [eh2]; exact mm_pf_ne _ _ (by decide)
    have qh2_4 : h2.1 66 62 = h1.1 66 62 := by rw [eh2]; exact mm_pf_ne _ _ (by decide)
    exact mm_vret C T (mm_dec dk_X12_wrong 11 rfl) (by decide : 0 ≤ 0) (by decide : 0 ≤ 0) ⟨rfl, ⟨i2, f2⟩⟩
  · skip
    exact mm_vret C T (mm_dec dk_X12_wrong 3 rfl) (by decide : 0 ≤ 0) (by decide : 0 ≤ 0) ⟨rfl, ⟨i0, f0⟩⟩
set_option maxRecDepth 100000 in
set_option maxHeartbeats 4000000 in
theorem c_X12_isGood (l : Launch) (hl : l.stackTraces = false) (d : Nat) (hd : 0 ≤ d) (h : mH) (i0 : mm_inv h) : mm_Met l d yX12_isGood cX12_isGood 1 (some .boolean) [mR 66] h (mm_pi fun r h2 => h2 = h ∧ (((h.1 66 57) ≠ 0 ∧ r = 0) ∨ ((h.1 66 57) = 0 ∧ r = 1))) mm_nx 0 0 := by
  refine mm_ofW (ls := [mR 66]) hl (by decide) rfl (Nat.le_of_ble_eq_true rfl) ?_
  intro x hxl C T hnm htb
  subst hxl
  have f0 : mm_fr [] [] h h := mm_fr_rf
  refine mm_aload_n C (mm_dec dk_X12_isGood 0 rfl) rfl ?_
  refine mm_geti C fl_X12_398 (mm_dec dk_X12_isGood 1 rfl) rfl rfl (Or.inl rfl) ?_
  have g1 : -2147483648 ≤ (h.1 66 57) ∧ (h.1 66 57) ≤ 2147483647 := i0.1 66 57
  refine mm_if_ne (tgt := 11) C (mm_dec dk_X12_isGood 2 rfl) (by decide) (fun c4 => ?_) (fun c4 => ?_)
  · skip
    refine mm_iconst C (mm_dec dk_X12_isGood 5 rfl) ⟨by decide, by decide⟩ ?_
    exact mm_zret C T (mm_dec dk_X12_isGood 6 rfl) (by decide : 0 ≤ 0) (by decide : 0 ≤ 0) (by omega) ⟨_, rfl, ⟨rfl, Or.inl ⟨by omega, rfl⟩⟩⟩
  · skip
    refine mm_iconst C (mm_dec dk_X12_isGood 3 rfl) ⟨by decide, by decide⟩ ?_
    refine mm_goto (tgt := 12) C (mm_dec dk_X12_isGood 4 rfl) (by decide) ?_
    exact mm_zret C T (mm_dec dk_X12_isGood 6 rfl) (by decide : 0 ≤ 0) (by decide : 0 ≤ 0) (by omega) ⟨_, rfl, ⟨rfl, Or.inr (⟨by omega, rfl⟩)⟩⟩
set_option maxRecDepth 100000 in
set_option maxHeartbeats 4000000 in
theorem c_X12_isSign (l : Launch) (hl : l.stackTraces = false) (d : Nat) (hd : 0 ≤ d) (h : mH) (i0 : mm_inv h) (p1 : Int) : mm_Met l d yX12_isSign cX12_isSign 2 (some .boolean) [mR 66, mI p1] h (mm_pi fun r h2 => h2 = h ∧ (((h.1 66 61) ≠ 3 ∧ r = 0) ∨ ((h.1 66 61) = 3 ∧ (h.1 66 65) ≠ p1 ∧ r = 0) ∨ ((h.1 66 61) = 3 ∧ (h.1 66 65) = p1 ∧ r = 1))) mm_nx 0 0 := by
  refine mm_ofW (ls := [mR 66, mI p1]) hl (by decide) rfl (Nat.le_of_ble_eq_true rfl) ?_
  intro x hxl C T hnm htb
  subst hxl
  refine mm_rng (fun hr _ => ?_)
  have ap1 : -2147483648 ≤ p1 ∧ p1 < 2147483648 := mm_ok_at hr (i := 1) rfl
  have f0 : mm_fr [] [] h h := mm_fr_rf
  refine mm_aload_n C (mm_dec dk_X12_isSign 0 rfl) rfl ?_
  refine mm_geti C fl_X12_378 (mm_dec dk_X12_isSign 1 rfl) rfl rfl (Or.inl rfl) ?_
  have g1 : -2147483648 ≤ (h.1 66 61) ∧ (h.1 66 61) ≤ 2147483647 := i0.1 66 61
  refine mm_iconst C (mm_dec dk_X12_isSign 2 rfl) ⟨by decide, by decide⟩ ?_
  refine mm_icmp_ne (tgt := 20) C (mm_dec dk_X12_isSign 3 rfl) (by decide) (fun c5 => ?_) (fun c5 => ?_)
  · skip
    refine mm_iconst C (mm_dec dk_X12_isSign 10 rfl) ⟨by decide, by decide⟩ ?_
    exact mm_zret C T (mm_dec dk_X12_isSign 11 rfl) (by decide : 0 ≤ 0) (by decide : 0 ≤ 0) (by omega) ⟨_, rfl, ⟨rfl, Or.inl ⟨by omega, rfl⟩⟩⟩
  · skip
    refine mm_aload_n C (mm_dec dk_X12_isSign 4 rfl) rfl ?_
    refine mm_geti C fl_X12_375 (mm_dec dk_X12_isSign 5 rfl) rfl rfl (Or.inl rfl) ?_
    have g2 : -2147483648 ≤ (h.1 66 65) ∧ (h.1 66 65) ≤ 2147483647 := i0.1 66 65
    refine mm_iload_n C (mm_dec dk_X12_isSign 6 rfl) rfl ?_
    refine mm_icmp_ne (tgt := 20) C (mm_dec dk_X12_isSign 7 rfl) (by decide) (fun c13 => ?_) (fun c13 => ?_)
    · skip
      refine mm_iconst C (mm_dec dk_X12_isSign 10 rfl) ⟨by decide, by decide⟩ ?_
      exact mm_zret C T (mm_dec dk_X12_isSign 11 rfl) (by decide : 0 ≤ 0) (by decide : 0 ≤ 0) (by omega) ⟨_, rfl, ⟨rfl, Or.inr (Or.inl ⟨by omega, by omega, rfl⟩)⟩⟩
    · skip
      refine mm_iconst C (mm_dec dk_X12_isSign 8 rfl) ⟨by decide, by decide⟩ ?_
      refine mm_goto (tgt := 21) C (mm_dec dk_X12_isSign 9 rfl) (by decide) ?_
      exact mm_zret C T (mm_dec dk_X12_isSign 11 rfl) (by decide : 0 ≤ 0) (by decide : 0 ≤ 0) (by omega) ⟨_, rfl, ⟨rfl, Or.inr (Or.inr (⟨by omega, by omega, rfl⟩))⟩⟩
set_option maxRecDepth 100000 in
set_option maxHeartbeats 4000000 in
theorem c_X12_puts (l : Launch) (hl : l.stackTraces = false) (d : Nat) (hd : 0 ≤ d) (h : mH) (i0 : mm_inv h) (p1 : Int) (u0 : (h.1 66 69) ≤ 2399) : mm_Met l d yX12_puts cX12_puts 2 none [mR 66, mI p1] h (mm_pv fun h2 => mm_inv h2 ∧ mm_fr [(66, 69)] [107] h h2 ∧ h2.1 66 69 = h.1 66 69 + 1) mm_nx 0 0 := by
  refine mm_ofW (ls := [mR 66, mI p1]) hl (by decide) rfl (Nat.le_of_ble_eq_true rfl) ?_
  intro x hxl C T hnm htb
  subst hxl
  refine mm_rng (fun hr _ => ?_)
  have ap1 : -2147483648 ≤ p1 ∧ p1 < 2147483648 := mm_ok_at hr (i := 1) rfl
  have f0 : mm_fr [(66, 69)] [107] h h := mm_fr_rf
  have g1 : 0 ≤ h.1 66 69 ∧ h.1 66 69 ≤ 2400 := i0.1 66 69
  refine mm_aload_n C (mm_dec dk_X12_puts 0 rfl) rfl ?_
  refine mm_getr (t := 107) C fl_X12_132 (mm_dec dk_X12_puts 1 rfl) rfl rfl (mm_ref i0 rfl) ?_
  refine mm_aload_n C (mm_dec dk_X12_puts 2 rfl) rfl ?_
  refine mm_geti C fl_X12_401 (mm_dec dk_X12_puts 3 rfl) rfl rfl (Or.inl rfl) ?_
  refine mm_iload_n C (mm_dec dk_X12_puts 4 rfl) rfl ?_
  refine mm_iast C (mm_dec dk_X12_puts 5 rfl) rfl (by omega) (by omega) ?_
  have i1 : mm_inv (mm_pa h 107 (h.1 66 69) p1) := mm_inv_pa i0 (show -2147483648 ≤ p1 ∧ p1 ≤ 2147483647 from ⟨by omega, by omega⟩)
  have f1 : mm_fr [(66, 69)] [107] h (mm_pa h 107 (h.1 66 69) p1) := mm_fr_pa f0 (by decide)
  obtain ⟨h1, eh1⟩ : ∃ z, z = mm_pa h 107 (h.1 66 69) p1 := ⟨_, rfl⟩
  rw [← eh1] at i1 f1 ⊢
  have qh1_2 : h1.1 66 69 = h.1 66 69 := by rw [eh1]; rfl
  refine mm_aload_n C (mm_dec dk_X12_puts 6 rfl) rfl ?_
  refine mm_dup C (mm_dec dk_X12_puts 7 rfl) (show (2 : Nat) ≠ 1 by decide) ?_
  refine mm_geti C fl_X12_401 (mm_dec dk_X12_puts 8 rfl) rfl rfl (Or.inl rfl) ?_
  refine mm_iconst C (mm_dec dk_X12_puts 9 rfl) ⟨by decide, by decide⟩ ?_
  refine mm_iadd C (mm_dec dk_X12_puts 10 rfl) ⟨by omega, by omega⟩ ?_
  refine mm_puti C fl_X12_401 (mm_dec dk_X12_puts 11 rfl) rfl rfl rfl (Or.inl ⟨rfl, rfl⟩) ?_
  have i2 : mm_inv (mm_pf h1 66 69 ((h1.1 66 69) + 1)) := mm_inv_pf i1 (show 0 ≤ ((h1.1 66 69) + 1) ∧ ((h1.1 66 69) + 1) ≤ 2400 from ⟨by omega, by omega⟩) (by decide)
  have f2 : mm_fr [(66, 69)] [107] h (mm_pf h1 66 69 ((h1.1 66 69) + 1)) := mm_fr_pf f1 (by decide)
  obtain ⟨h2, eh2⟩ : ∃ z, z = mm_pf h1 66 69 ((h1.1 66 69) + 1) := ⟨_, rfl⟩
  rw [← eh2] at i2 f2 ⊢
  have qh2 : h2.1 66 69 = ((h1.1 66 69) + 1) := by rw [eh2]; exact mm_pf_same _ _ _ _
  exact mm_vret C T (mm_dec dk_X12_puts 12 rfl) (by decide : 0 ≤ 0) (by decide : 0 ≤ 0) ⟨rfl, ⟨i2, f2, by omega⟩⟩
set_option maxRecDepth 100000 in
set_option maxHeartbeats 4000000 in
theorem c_X12_strength (l : Launch) (hl : l.stackTraces = false) (d : Nat) (hd : 0 ≤ d) (h : mH) (i0 : mm_inv h) (p0 : Int) : mm_Met l d yX12_strength cX12_strength 1 (some .int) [mI p0] h (mm_pi fun r h2 => h2 = h ∧ ((p0 ≠ 13 ∧ p0 ≠ 6 ∧ p0 ≠ 5 ∧ p0 ≠ 4 ∧ p0 = 7 ∧ r = 4) ∨ (p0 ≠ 13 ∧ p0 ≠ 6 ∧ p0 ≠ 5 ∧ p0 ≠ 4 ∧ p0 ≠ 7 ∧ p0 ≠ 8 ∧ p0 = 9 ∧ r = 5) ∨ (p0 ≠ 13 ∧ p0 ≠ 6 ∧ p0 ≠ 5 ∧ p0 ≠ 4 ∧ p0 ≠ 7 ∧ p0 ≠ 8 ∧ p0 ≠ 9 ∧ p0 ≠ 10 ∧ r = 6) ∨ (p0 ≠ 13 ∧ p0 ≠ 6 ∧ p0 ≠ 5 ∧ p0 ≠ 4 ∧ p0 ≠ 7 ∧ p0 ≠ 8 ∧ p0 ≠ 9 ∧ p0 = 10 ∧ r = 5) ∨ (p0 ≠ 13 ∧ p0 ≠ 6 ∧ p0 ≠ 5 ∧ p0 ≠ 4 ∧ p0 ≠ 7 ∧ p0 = 8 ∧ r = 4) ∨ (p0 ≠ 13 ∧ p0 ≠ 6 ∧ p0 ≠ 5 ∧ p0 = 4 ∧ r = 3) ∨ (p0 ≠ 13 ∧ p0 ≠ 6 ∧ p0 = 5 ∧ r = 2) ∨ (p0 ≠ 13 ∧ p0 = 6 ∧ r = 1) ∨ (p0 = 13 ∧ r = 0))) mm_nx 0 0 := by
  refine mm_ofW (ls := [mI p0]) hl (by decide) rfl (Nat.le_of_ble_eq_true rfl) ?_
  intro x hxl C T hnm htb
  subst hxl
  refine mm_rng (fun hr _ => ?_)
  have ap0 : -2147483648 ≤ p0 ∧ p0 < 2147483648 := mm_ok_at hr (i := 0) rfl
  have f0 : mm_fr [] [] h h := mm_fr_rf
  refine mm_iload_n C (mm_dec dk_X12_strength 0 rfl) rfl ?_
  refine mm_bipush C (mm_dec dk_X12_strength 1 rfl) ⟨by decide, by decide⟩ ?_
  refine mm_icmp_ne (tgt := 10) C (mm_dec dk_X12_strength 2 rfl) (by decide) (fun c3 => ?_) (fun c3 => ?_)
  · skip
    refine mm_iload_n C (mm_dec dk_X12_strength 5 rfl) rfl ?_
    refine mm_bipush C (mm_dec dk_X12_strength 6 rfl) ⟨by decide, by decide⟩ ?_
    refine mm_icmp_ne (tgt := 20) C (mm_dec dk_X12_strength 7 rfl) (by decide) (fun c13 => ?_) (fun c13 => ?_)
    · skip
      refine mm_iload_n C (mm_dec dk_X12_strength 10 rfl) rfl ?_
      refine mm_iconst C (mm_dec dk_X12_strength 11 rfl) ⟨by decide, by decide⟩ ?_
      refine mm_icmp_ne (tgt := 29) C (mm_dec dk_X12_strength 12 rfl) (by decide) (fun c22 => ?_) (fun c22 => ?_)
      · skip
        refine mm_iload_n C (mm_dec dk_X12_strength 15 rfl) rfl ?_
        refine mm_iconst C (mm_dec dk_X12_strength 16 rfl) ⟨by decide, by decide⟩ ?_
        refine mm_icmp_ne (tgt := 38) C (mm_dec dk_X12_strength 17 rfl) (by decide) (fun c31 => ?_) (fun c31 => ?_)
        · skip
          refine mm_iload_n C (mm_dec dk_X12_strength 20 rfl) rfl ?_
          refine mm_bipush C (mm_dec dk_X12_strength 21 rfl) ⟨by decide, by decide⟩ ?_
          refine mm_icmp_eq (tgt := 50) C (mm_dec dk_X12_strength 22 rfl) (by decide) (fun c41 => ?_) (fun c41 => ?_)
          · skip
            refine mm_iconst C (mm_dec dk_X12_strength 26 rfl) ⟨by decide, by decide⟩ ?_
            refine mm_goto (tgt := 72) C (mm_dec dk_X12_strength 27 rfl) (by decide) ?_
            exact mm_iret C T (mm_dec dk_X12_strength 37 rfl) (by decide : 0 ≤ 0) (by decide : 0 ≤ 0) ⟨_, rfl, ⟨rfl, Or.inl ⟨by omega, by omega, by omega, by omega, by omega, rfl⟩⟩⟩
          · skip
            refine mm_iload_n C (mm_dec dk_X12_strength 23 rfl) rfl ?_
            refine mm_bipush C (mm_dec dk_X12_strength 24 rfl) ⟨by decide, by decide⟩ ?_
            refine mm_icmp_ne (tgt := 54) C (mm_dec dk_X12_strength 25 rfl) (by decide) (fun c47 => ?_) (fun c47 => ?_)
            · skip
              refine mm_iload_n C (mm_dec dk_X12_strength 28 rfl) rfl ?_
              refine mm_bipush C (mm_dec dk_X12_strength 29 rfl) ⟨by decide, by decide⟩ ?_
              refine mm_icmp_eq (tgt := 66) C (mm_dec dk_X12_strength 30 rfl) (by decide) (fun c57 => ?_) (fun c57 => ?_)
              · skip
                refine mm_iconst C (mm_dec dk_X12_strength 34 rfl) ⟨by decide, by decide⟩ ?_
                refine mm_goto (tgt := 72) C (mm_dec dk_X12_strength 35 rfl) (by decide) ?_
                exact mm_iret C T (mm_dec dk_X12_strength 37 rfl) (by decide : 0 ≤ 0) (by decide : 0 ≤ 0) ⟨_, rfl, ⟨rfl, Or.inr (Or.inl ⟨by omega, by omega, by omega, by omega, by omega, by omega, by omega, rfl⟩)⟩⟩
              · skip
                refine mm_iload_n C (mm_dec dk_X12_strength 31 rfl) rfl ?_
                refine mm_bipush C (mm_dec dk_X12_strength 32 rfl) ⟨by decide, by decide⟩ ?_
                refine mm_icmp_ne (tgt := 70) C (mm_dec dk_X12_strength 33 rfl) (by decide) (fun c63 => ?_) (fun c63 => ?_)
                · skip
                  refine mm_bipush C (mm_dec dk_X12_strength 36 rfl) ⟨by decide, by decide⟩ ?_
                  exact mm_iret C T (mm_dec dk_X12_strength 37 rfl) (by decide : 0 ≤ 0) (by decide : 0 ≤ 0) ⟨_, rfl, ⟨rfl, Or.inr (Or.inr (Or.inl ⟨by omega, by omega, by omega, by omega, by omega, by omega, by omega, by omega, rfl⟩))⟩⟩
                · skip
                  refine mm_iconst C (mm_dec dk_X12_strength 34 rfl) ⟨by decide, by decide⟩ ?_
                  refine mm_goto (tgt := 72) C (mm_dec dk_X12_strength 35 rfl) (by decide) ?_
                  exact mm_iret C T (mm_dec dk_X12_strength 37 rfl) (by decide : 0 ≤ 0) (by decide : 0 ≤ 0) ⟨_, rfl, ⟨rfl, Or.inr (Or.inr (Or.inr (Or.inl ⟨by omega, by omega, by omega, by omega, by omega, by omega, by omega, by omega, rfl⟩)))⟩⟩
            · skip
              refine mm_iconst C (mm_dec dk_X12_strength 26 rfl) ⟨by decide, by decide⟩ ?_
              refine mm_goto (tgt := 72) C (mm_dec dk_X12_strength 27 rfl) (by decide) ?_
              exact mm_iret C T (mm_dec dk_X12_strength 37 rfl) (by decide : 0 ≤ 0) (by decide : 0 ≤ 0) ⟨_, rfl, ⟨rfl, Or.inr (Or.inr (Or.inr (Or.inr (Or.inl ⟨by omega, by omega, by omega, by omega, by omega, by omega, rfl⟩))))⟩⟩
        · skip
          refine mm_iconst C (mm_dec dk_X12_strength 18 rfl) ⟨by decide, by decide⟩ ?_
          refine mm_goto (tgt := 72) C (mm_dec dk_X12_strength 19 rfl) (by decide) ?_
          exact mm_iret C T (mm_dec dk_X12_strength 37 rfl) (by decide : 0 ≤ 0) (by decide : 0 ≤ 0) ⟨_, rfl, ⟨rfl, Or.inr (Or.inr (Or.inr (Or.inr (Or.inr (Or.inl ⟨by omega, by omega, by omega, by omega, rfl⟩)))))⟩⟩
      · skip
        refine mm_iconst C (mm_dec dk_X12_strength 13 rfl) ⟨by decide, by decide⟩ ?_
        refine mm_goto (tgt := 72) C (mm_dec dk_X12_strength 14 rfl) (by decide) ?_
        exact mm_iret C T (mm_dec dk_X12_strength 37 rfl) (by decide : 0 ≤ 0) (by decide : 0 ≤ 0) ⟨_, rfl, ⟨rfl, Or.inr (Or.inr (Or.inr (Or.inr (Or.inr (Or.inr (Or.inl ⟨by omega, by omega, by omega, rfl⟩))))))⟩⟩
    · skip
      refine mm_iconst C (mm_dec dk_X12_strength 8 rfl) ⟨by decide, by decide⟩ ?_
      refine mm_goto (tgt := 72) C (mm_dec dk_X12_strength 9 rfl) (by decide) ?_
      exact mm_iret C T (mm_dec dk_X12_strength 37 rfl) (by decide : 0 ≤ 0) (by decide : 0 ≤ 0) ⟨_, rfl, ⟨rfl, Or.inr (Or.inr (Or.inr (Or.inr (Or.inr (Or.inr (Or.inr (Or.inl ⟨by omega, by omega, rfl⟩)))))))⟩⟩
  · skip
    refine mm_iconst C (mm_dec dk_X12_strength 3 rfl) ⟨by decide, by decide⟩ ?_
    refine mm_goto (tgt := 72) C (mm_dec dk_X12_strength 4 rfl) (by decide) ?_
    exact mm_iret C T (mm_dec dk_X12_strength 37 rfl) (by decide : 0 ≤ 0) (by decide : 0 ≤ 0) ⟨_, rfl, ⟨rfl, Or.inr (Or.inr (Or.inr (Or.inr (Or.inr (Or.inr (Or.inr (Or.inr (⟨by omega, rfl⟩))))))))⟩⟩
set_option maxRecDepth 100000 in
set_option maxHeartbeats 4000000 in
theorem c_X12_waitsFor (l : Launch) (hl : l.stackTraces = false) (d : Nat) (hd : 0 ≤ d) (h : mH) (i0 : mm_inv h) (p1 : Int) (u0 : (h.1 66 70) ≤ 519) : mm_Met l d yX12_waitsFor cX12_waitsFor 2 none [mR 66, mI p1] h (mm_pv fun h2 => mm_inv h2 ∧ mm_fr [(66, 70)] [108] h h2 ∧ h2.1 66 70 = h.1 66 70 + 1) mm_nx 0 0 := by
  refine mm_ofW (ls := [mR 66, mI p1]) hl (by decide) rfl (Nat.le_of_ble_eq_true rfl) ?_
  intro x hxl C T hnm htb
  subst hxl
  refine mm_rng (fun hr _ => ?_)
  have ap1 : -2147483648 ≤ p1 ∧ p1 < 2147483648 := mm_ok_at hr (i := 1) rfl
  have f0 : mm_fr [(66, 70)] [108] h h := mm_fr_rf
  have g1 : 0 ≤ h.1 66 70 ∧ h.1 66 70 ≤ 520 := i0.1 66 70
  refine mm_aload_n C (mm_dec dk_X12_waitsFor 0 rfl) rfl ?_
  refine mm_getr (t := 108) C fl_X12_135 (mm_dec dk_X12_waitsFor 1 rfl) rfl rfl (mm_ref i0 rfl) ?_
  refine mm_aload_n C (mm_dec dk_X12_waitsFor 2 rfl) rfl ?_
  refine mm_geti C fl_X12_404 (mm_dec dk_X12_waitsFor 3 rfl) rfl rfl (Or.inl rfl) ?_
  refine mm_iload_n C (mm_dec dk_X12_waitsFor 4 rfl) rfl ?_
  refine mm_iast C (mm_dec dk_X12_waitsFor 5 rfl) rfl (by omega) (by omega) ?_
  have i1 : mm_inv (mm_pa h 108 (h.1 66 70) p1) := mm_inv_pa i0 (show -2147483648 ≤ p1 ∧ p1 ≤ 2147483647 from ⟨by omega, by omega⟩)
  have f1 : mm_fr [(66, 70)] [108] h (mm_pa h 108 (h.1 66 70) p1) := mm_fr_pa f0 (by decide)
  obtain ⟨h1, eh1⟩ : ∃ z, z = mm_pa h 108 (h.1 66 70) p1 := ⟨_, rfl⟩
  rw [← eh1] at i1 f1 ⊢
  have qh1_2 : h1.1 66 70 = h.1 66 70 := by rw [eh1]; rfl
  refine mm_aload_n C (mm_dec dk_X12_waitsFor 6 rfl) rfl ?_
  refine mm_dup C (mm_dec dk_X12_waitsFor 7 rfl) (show (2 : Nat) ≠ 1 by decide) ?_
  refine mm_geti C fl_X12_404 (mm_dec dk_X12_waitsFor 8 rfl) rfl rfl (Or.inl rfl) ?_
  refine mm_iconst C (mm_dec dk_X12_waitsFor 9 rfl) ⟨by decide, by decide⟩ ?_
  refine mm_iadd C (mm_dec dk_X12_waitsFor 10 rfl) ⟨by omega, by omega⟩ ?_
  refine mm_puti C fl_X12_404 (mm_dec dk_X12_waitsFor 11 rfl) rfl rfl rfl (Or.inl ⟨rfl, rfl⟩) ?_
  have i2 : mm_inv (mm_pf h1 66 70 ((h1.1 66 70) + 1)) := mm_inv_pf i1 (show 0 ≤ ((h1.1 66 70) + 1) ∧ ((h1.1 66 70) + 1) ≤ 520 from ⟨by omega, by omega⟩) (by decide)
  have f2 : mm_fr [(66, 70)] [108] h (mm_pf h1 66 70 ((h1.1 66 70) + 1)) := mm_fr_pf f1 (by decide)
  obtain ⟨h2, eh2⟩ : ∃ z, z = mm_pf h1 66 70 ((h1.1 66 70) + 1) := ⟨_, rfl⟩
  rw [← eh2] at i2 f2 ⊢
  have qh2 : h2.1 66 70 = ((h1.1 66 70) + 1) := by rw [eh2]; exact mm_pf_same _ _ _ _
  exact mm_vret C T (mm_dec dk_X12_waitsFor 12 rfl) (by decide : 0 ≤ 0) (by decide : 0 ≤ 0) ⟨rfl, ⟨i2, f2, by omega⟩⟩
set_option maxRecDepth 100000 in
set_option maxHeartbeats 4000000 in
theorem c_X12_begins (l : Launch) (hl : l.stackTraces = false) (d : Nat) (hd : 1 ≤ d) (h : mH) (i0 : mm_inv h) : mm_Met l d yX12_begins cX12_begins 1 none [mR 66] h (mm_pv fun h2 => mm_inv h2 ∧ mm_fr [(66, 57), (66, 58), (66, 71)] [109] h h2) mm_nx 0 0 := by
  refine mm_ofW (ls := [mR 66]) hl (by decide) rfl (Nat.le_of_ble_eq_true rfl) ?_
  intro x hxl C T hnm htb
  subst hxl
  have C1 := mm_OK_le (d' := d - 1 + 1) (by omega) C
  have f0 : mm_fr [(66, 57), (66, 58), (66, 71)] [109] h h := mm_fr_rf
  refine mm_aload_n C (mm_dec dk_X12_begins 0 rfl) rfl ?_
  refine mm_geti C fl_X12_426 (mm_dec dk_X12_begins 1 rfl) rfl rfl (Or.inl rfl) ?_
  have g1 : 0 ≤ (h.1 66 71) ∧ (h.1 66 71) ≤ 6 := i0.1 66 71
  refine mm_bipush C (mm_dec dk_X12_begins 2 rfl) ⟨by decide, by decide⟩ ?_
  refine mm_icmp_ge (tgt := 30) C (mm_dec dk_X12_begins 3 rfl) (by decide) (fun c6 => ?_) (fun c6 => ?_)
  · skip
    refine mm_aload_n C (mm_dec dk_X12_begins 17 rfl) rfl ?_
    refine mm_aload_n C (mm_dec dk_X12_begins 18 rfl) rfl ?_
    refine mm_geti C fl_X12_378 (mm_dec dk_X12_begins 19 rfl) rfl rfl (Or.inl rfl) ?_
    have g2 : -2147483648 ≤ (h.1 66 61) ∧ (h.1 66 61) ≤ 2147483647 := i0.1 66 61
    refine mm_iconst C (mm_dec dk_X12_begins 20 rfl) ⟨by decide, by decide⟩ ?_
    have J61 : ∀ (s61_1 : Int) (bs61_1 : 1 ≤ s61_1 ∧ s61_1 ≤ 2) (vs61_1 : ((h.1 66 61) ≠ 2 ∧ (h.1 66 61) ≠ 1 ∧ s61_1 = 1) ∨ (s61_1 = 2)), mm_W x 0 0 61 [mU] [mI s61_1, mR 66] h := by
      intro s61_1 bs61_1 vs61_1
      refine mm_cVv (rest := []) C1 ev_X12_417 (mm_dec dk_X12_begins 33 rfl) (c_X12_wrong x.2.1 hl (d - 1) (by omega) h i0 s61_1) rfl rfl (Nat.le_of_ble_eq_true rfl) ⟨by decide, by decide⟩ rfl (fun h61c hp61 => ?_) (fun _ _ q => q.elim)
      obtain ⟨i61c, g61c⟩ := hp61
      have f61c : mm_fr [(66, 57), (66, 58), (66, 71)] [109] h h61c := mm_fr_tr f0 g61c (by decide +kernel)
      have q61c_4 : h61c.1 66 61 = h.1 66 61 := g61c.1 66 61 (by decide)
      have q61c_5 : h61c.1 66 71 = h.1 66 71 := g61c.1 66 71 (by decide)
      exact mm_vret C T (mm_dec dk_X12_begins 34 rfl) (by decide : 0 ≤ 0) (by decide : 0 ≤ 0) ⟨rfl, ⟨i61c, f61c⟩⟩
    have J56 : mm_W x 0 0 56 [mU] [mR 66] h := by
      refine mm_iconst C (mm_dec dk_X12_begins 30 rfl) ⟨by decide, by decide⟩ ?_
      refine mm_goto (tgt := 61) C (mm_dec dk_X12_begins 31 rfl) (by decide) ?_
      exact J61 2 ⟨by omega, by omega⟩ (Or.inr (rfl))
    refine mm_icmp_eq (tgt := 56) C (mm_dec dk_X12_begins 21 rfl) (by decide) (fun c36 => ?_) (fun c36 => ?_)
    · skip
      refine mm_fgt 0 ?_
      exact J56
    · skip
      refine mm_aload_n C (mm_dec dk_X12_begins 22 rfl) rfl ?_
      refine mm_geti C fl_X12_378 (mm_dec dk_X12_begins 23 rfl) rfl rfl (Or.inl rfl) ?_
      refine mm_iconst C (mm_dec dk_X12_begins 24 rfl) ⟨by decide, by decide⟩ ?_
      refine mm_icmp_eq (tgt := 56) C (mm_dec dk_X12_begins 25 rfl) (by decide) (fun c44 => ?_) (fun c44 => ?_)
      · skip
        refine mm_fgt 0 ?_
        exact J56
      · skip
        refine mm_aload_n C (mm_dec dk_X12_begins 26 rfl) rfl ?_
        refine mm_bipush C (mm_dec dk_X12_begins 27 rfl) ⟨by decide, by decide⟩ ?_
        refine mm_cVi (rest := [mR 66]) C1 ev_X12_429 (mm_dec dk_X12_begins 28 rfl) (c_X12_isSign x.2.1 hl (d - 1) (by omega) h i0 40) rfl rfl (Nat.le_of_ble_eq_true rfl) ⟨by decide, by decide⟩ rfl (fun r50 h50c hp50 => ?_) (fun _ _ q => q.elim)
        obtain ⟨z50, y50⟩ := hp50
        rw [z50]
        have g7 : -2147483648 ≤ (h.1 66 65) ∧ (h.1 66 65) ≤ 2147483647 := i0.1 66 65
        refine mm_if_eq (tgt := 60) C (mm_dec dk_X12_begins 29 rfl) (by decide) (fun c53 => ?_) (fun c53 => ?_)
        · skip
          refine mm_iconst C (mm_dec dk_X12_begins 32 rfl) ⟨by decide, by decide⟩ ?_
          refine mm_fgt 0 ?_
          exact J61 1 ⟨by omega, by omega⟩ (Or.inl ⟨by omega, by omega, rfl⟩)
        · skip
          refine mm_fgt 0 ?_
          exact J56
  · skip
    refine mm_aload_n C (mm_dec dk_X12_begins 4 rfl) rfl ?_
    refine mm_dup C (mm_dec dk_X12_begins 5 rfl) (show (2 : Nat) ≠ 1 by decide) ?_
    refine mm_geti C fl_X12_426 (mm_dec dk_X12_begins 6 rfl) rfl rfl (Or.inl rfl) ?_
    refine mm_iconst C (mm_dec dk_X12_begins 7 rfl) ⟨by decide, by decide⟩ ?_
    refine mm_iadd C (mm_dec dk_X12_begins 8 rfl) ⟨by omega, by omega⟩ ?_
    refine mm_puti C fl_X12_426 (mm_dec dk_X12_begins 9 rfl) rfl rfl rfl (Or.inl ⟨rfl, rfl⟩) ?_
    have i2 : mm_inv (mm_pf h 66 71 ((h.1 66 71) + 1)) := mm_inv_pf i0 (show 0 ≤ ((h.1 66 71) + 1) ∧ ((h.1 66 71) + 1) ≤ 6 from ⟨by omega, by omega⟩) (by decide)
    have f2 : mm_fr [(66, 57), (66, 58), (66, 71)] [109] h (mm_pf h 66 71 ((h.1 66 71) + 1)) := mm_fr_pf f0 (by decide)
    obtain ⟨h2, eh2⟩ : ∃ z, z = mm_pf h 66 71 ((h.1 66 71) + 1) := ⟨_, rfl⟩
    rw [← eh2] at i2 f2 ⊢
    have qh2 : h2.1 66 71 = ((h.1 66 71) + 1) := by rw [eh2]; exact mm_pf_same _ _ _ _
    refine mm_aload_n C (mm_dec dk_X12_begins 10 rfl) rfl ?_
    refine mm_getr (t := 109) C fl_X12_138 (mm_dec dk_X12_begins 11 rfl) rfl rfl (mm_ref i2 rfl) ?_
    refine mm_aload_n C (mm_dec dk_X12_begins 12 rfl) rfl ?_
    refine mm_geti C fl_X12_426 (mm_dec dk_X12_begins 13 rfl) rfl rfl (Or.inl rfl) ?_
    refine mm_iconst C (mm_dec dk_X12_begins 14 rfl) ⟨by decide, by decide⟩ ?_
    refine mm_zast C (mm_dec dk_X12_begins 15 rfl) rfl (by omega) (by omega) (by omega) ?_
    have i3 : mm_inv (mm_pa h2 109 (h2.1 66 71) 0) := mm_inv_pa i2 (show 0 ≤ 0 ∧ 0 ≤ 1 from ⟨by omega, by omega⟩)
    have f3 : mm_fr [(66, 57), (66, 58), (66, 71)] [109] h (mm_pa h2 109 (h2.1 66 71) 0) := mm_fr_pa f2 (by decide)
    obtain ⟨h3, eh3⟩ : ∃ z, z = mm_pa h2 109 (h2.1 66 71) 0 := ⟨_, rfl⟩
    rw [← eh3] at i3 f3 ⊢
    have qh3_8 : h3.1 66 71 = h2.1 66 71 := by rw [eh3]; rfl
    exact mm_vret C T (mm_dec dk_X12_begins 16 rfl) (by decide : 0 ≤ 0) (by decide : 0 ≤ 0) ⟨rfl, ⟨i3, f3⟩⟩
set_option maxRecDepth 100000 in
set_option maxHeartbeats 4000000 in
theorem c_X12_fault (l : Launch) (hl : l.stackTraces = false) (d : Nat) (hd : 0 ≤ d) (h : mH) (i0 : mm_inv h) : mm_Met l d yX12_fault cX12_fault 1 (some .int) [mR 66] h (mm_pi fun r h2 => (-2147483648 ≤ r ∧ r ≤ 2147483647) ∧ mm_inv h2 ∧ mm_fr [(66, 0)] [] h h2) mm_nx 0 0 := by
  refine mm_ofW (ls := [mR 66]) hl (by decide) rfl (Nat.le_of_ble_eq_true rfl) ?_
  intro x hxl C T hnm htb
  subst hxl
  have f0 : mm_fr [(66, 0)] [] h h := mm_fr_rf
  refine mm_aload_n C (mm_dec dk_X12_fault 0 rfl) rfl ?_
  refine mm_iconst C (mm_dec dk_X12_fault 1 rfl) ⟨by decide, by decide⟩ ?_
  refine mm_puti C fl_X12_188 (mm_dec dk_X12_fault 2 rfl) rfl rfl rfl (Or.inl ⟨rfl, rfl⟩) ?_
  have i1 : mm_inv (mm_pf h 66 0 0) := mm_inv_pf i0 (show -2147483648 ≤ 0 ∧ 0 ≤ 2147483647 from ⟨by omega, by omega⟩) (by decide)
  have f1 : mm_fr [(66, 0)] [] h (mm_pf h 66 0 0) := mm_fr_pf f0 (by decide)
  obtain ⟨h1, eh1⟩ : ∃ z, z = mm_pf h 66 0 0 := ⟨_, rfl⟩
  rw [← eh1] at i1 f1 ⊢
  have qh1 : h1.1 66 0 = 0 := by rw [eh1]; exact mm_pf_same _ _ _ _
  refine mm_aload_n C (mm_dec dk_X12_fault 3 rfl) rfl ?_
  refine mm_geti C fl_X12_237 (mm_dec dk_X12_fault 4 rfl) rfl rfl (Or.inl rfl) ?_
  have g1 : -2147483648 ≤ (h1.1 66 58) ∧ (h1.1 66 58) ≤ 2147483647 := i1.1 66 58
  exact mm_iret C T (mm_dec dk_X12_fault 5 rfl) (by decide : 0 ≤ 0) (by decide : 0 ≤ 0) ⟨_, rfl, ⟨⟨by omega, by omega⟩, i1, f1⟩⟩
set_option maxRecDepth 100000 in
set_option maxHeartbeats 4000000 in
theorem c_X12_paramOf (l : Launch) (hl : l.stackTraces = false) (d : Nat) (hd : 0 ≤ d) (h : mH) (i0 : mm_inv h) (p1 : Int) (bp1 : 0 ≤ p1 ∧ p1 ≤ 2) : mm_Met l d yX12_paramOf cX12_paramOf 2 (some .int) [mR 66, mI p1] h (mm_pi fun r h2 => h2 = h ∧ (((h.1 66 67) = 0 ∧ p1 ≠ 0 ∧ p1 ≠ 1 ∧ r = 900) ∨ ((h.1 66 67) = 0 ∧ p1 ≠ 0 ∧ p1 = 1 ∧ r = 60) ∨ ((h.1 66 67) = 0 ∧ p1 = 0 ∧ r = 3600) ∨ ((h.1 66 67) ≠ 0 ∧ r = (h.2.1 102 ((3 * (h.1 66 68)) + p1))))) mm_nx 0 0 := by
  refine mm_ofW (ls := [mR 66, mI p1]) hl (by decide) rfl (Nat.le_of_ble_eq_true rfl) ?_
  intro x hxl C T hnm htb
  subst hxl
  refine mm_rng (fun hr _ => ?_)
  have ap1 : -2147483648 ≤ p1 ∧ p1 < 2147483648 := mm_ok_at hr (i := 1) rfl
  have f0 : mm_fr [] [] h h := mm_fr_rf
  refine mm_aload_n C (mm_dec dk_X12_paramOf 0 rfl) rfl ?_
  refine mm_geti C fl_X12_240 (mm_dec dk_X12_paramOf 1 rfl) rfl rfl (Or.inr rfl) ?_
  have g1 : 0 ≤ (h.1 66 67) ∧ (h.1 66 67) ≤ 1 := i0.1 66 67
  refine mm_if_eq (tgt := 23) C (mm_dec dk_X12_paramOf 2 rfl) (by decide) (fun c4 => ?_) (fun c4 => ?_)
  · skip
    refine mm_iload_n C (mm_dec dk_X12_paramOf 13 rfl) rfl ?_
    refine mm_if_ne (tgt := 33) C (mm_dec dk_X12_paramOf 14 rfl) (by decide) (fun c24 => ?_) (fun c24 => ?_)
    · skip
      refine mm_iload_n C (mm_dec dk_X12_paramOf 17 rfl) rfl ?_
      refine mm_iconst C (mm_dec dk_X12_paramOf 18 rfl) ⟨by decide, by decide⟩ ?_
      refine mm_icmp_ne (tgt := 43) C (mm_dec dk_X12_paramOf 19 rfl) (by decide) (fun c35 => ?_) (fun c35 => ?_)
      · skip
        refine mm_sipush C (mm_dec dk_X12_paramOf 22 rfl) ⟨by decide, by decide⟩ ?_
        exact mm_iret C T (mm_dec dk_X12_paramOf 23 rfl) (by decide : 0 ≤ 0) (by decide : 0 ≤ 0) ⟨_, rfl, ⟨rfl, Or.inl ⟨by omega, by omega, by omega, rfl⟩⟩⟩
      · skip
        refine mm_bipush C (mm_dec dk_X12_paramOf 20 rfl) ⟨by decide, by decide⟩ ?_
        refine mm_goto (tgt := 46) C (mm_dec dk_X12_paramOf 21 rfl) (by decide) ?_
        exact mm_iret C T (mm_dec dk_X12_paramOf 23 rfl) (by decide : 0 ≤ 0) (by decide : 0 ≤ 0) ⟨_, rfl, ⟨rfl, Or.inr (Or.inl ⟨by omega, by omega, by omega, rfl⟩)⟩⟩
    · skip
      refine mm_sipush C (mm_dec dk_X12_paramOf 15 rfl) ⟨by decide, by decide⟩ ?_
      refine mm_goto (tgt := 46) C (mm_dec dk_X12_paramOf 16 rfl) (by decide) ?_
      exact mm_iret C T (mm_dec dk_X12_paramOf 23 rfl) (by decide : 0 ≤ 0) (by decide : 0 ≤ 0) ⟨_, rfl, ⟨rfl, Or.inr (Or.inr (Or.inl ⟨by omega, by omega, rfl⟩))⟩⟩
  · skip
    refine mm_aload_n C (mm_dec dk_X12_paramOf 3 rfl) rfl ?_
    refine mm_getr (t := 102) C fl_X12_117 (mm_dec dk_X12_paramOf 4 rfl) rfl rfl (mm_ref i0 rfl) ?_
    refine mm_iconst C (mm_dec dk_X12_paramOf 5 rfl) ⟨by decide, by decide⟩ ?_
    refine mm_aload_n C (mm_dec dk_X12_paramOf 6 rfl) rfl ?_
    refine mm_geti C fl_X12_454 (mm_dec dk_X12_paramOf 7 rfl) rfl rfl (Or.inl rfl) ?_
    have g2 : 0 ≤ (h.1 66 68) ∧ (h.1 66 68) ≤ 1 := i0.1 66 68
    refine mm_imul C (mm_dec dk_X12_paramOf 8 rfl) ⟨by omega, by omega⟩ ?_
    refine mm_iload_n C (mm_dec dk_X12_paramOf 9 rfl) rfl ?_
    refine mm_iadd C (mm_dec dk_X12_paramOf 10 rfl) ⟨by omega, by omega⟩ ?_
    refine mm_iald C (mm_dec dk_X12_paramOf 11 rfl) rfl (by omega) (by omega) ?_
    have g3 : -2147483648 ≤ (h.2.1 102 ((3 * (h.1 66 68)) + p1)) ∧ (h.2.1 102 ((3 * (h.1 66 68)) + p1)) ≤ 2147483647 := i0.2.1 102 ((3 * (h.1 66 68)) + p1)
    refine mm_goto (tgt := 46) C (mm_dec dk_X12_paramOf 12 rfl) (by decide) ?_
    exact mm_iret C T (mm_dec dk_X12_paramOf 23 rfl) (by decide : 0 ≤ 0) (by decide : 0 ≤ 0) ⟨_, rfl, ⟨rfl, Or.inr (Or.inr (Or.inr (⟨by omega, rfl⟩)))⟩⟩
set_option maxRecDepth 100000 in
set_option maxHeartbeats 4000000 in
theorem c_X12_works (l : Launch) (hl : l.stackTraces = false) (d : Nat) (hd : 0 ≤ d) (h : mH) (i0 : mm_inv h) (p0 : Int) (p1 : Int) (p2 : Int) : mm_Met l d yX12_works cX12_works 3 (some .int) [mI p0, mI p1, mI p2] h (mm_pi fun r h2 => (-2147483648 ≤ r ∧ r ≤ 2147483647) ∧ h2 = h) mm_nx 0 0 := by
  refine mm_ofW (ls := [mI p0, mI p1, mI p2]) hl (by decide) rfl (Nat.le_of_ble_eq_true rfl) ?_
  intro x hxl C T hnm htb
  subst hxl
  refine mm_rng (fun hr _ => ?_)
  have ap0 : -2147483648 ≤ p0 ∧ p0 < 2147483648 := mm_ok_at hr (i := 0) rfl
  have ap1 : -2147483648 ≤ p1 ∧ p1 < 2147483648 := mm_ok_at hr (i := 1) rfl
  have ap2 : -2147483648 ≤ p2 ∧ p2 < 2147483648 := mm_ok_at hr (i := 2) rfl
  have f0 : mm_fr [] [] h h := mm_fr_rf
  refine mm_iload_n C (mm_dec dk_X12_works 0 rfl) rfl ?_
  refine mm_table (t0 := 106) [44, 58, 72, 83, 94, 98, 102] C (mm_dec dk_X12_works 1 rfl) (by decide) (by decide) (by decide +kernel) (fun c1 => ?_) (fun k1 hk1 c1 => ?_)
  · skip
    refine mm_iload_n C (mm_dec dk_X12_works 44 rfl) rfl ?_
    have J117 : ∀ (s117_0 : Int) (bs117_0 : -2147483648 ≤ s117_0 ∧ s117_0 ≤ 2147483647), mm_W x 0 0 117 [mU, mU, mU] [mI s117_0] h := by
      intro s117_0 bs117_0
      exact mm_iret C T (mm_dec dk_X12_works 51 rfl) (by decide : 0 ≤ 0) (by decide : 0 ≤ 0) ⟨_, rfl, ⟨⟨by omega, by omega⟩, rfl⟩⟩
    refine mm_if_ne (tgt := 114) C (mm_dec dk_X12_works 45 rfl) (by decide) (fun c107 => ?_) (fun c107 => ?_)
    · skip
      refine mm_iload_n C (mm_dec dk_X12_works 48 rfl) rfl ?_
      refine mm_iload_n C (mm_dec dk_X12_works 49 rfl) rfl ?_
      refine mm_idivw C (mm_dec dk_X12_works 50 rfl) (by omega) ?_
      have g2 : -2147483648 ≤ (mm_w (Int.tdiv p1 p2)) ∧ (mm_w (Int.tdiv p1 p2)) < 2147483648 := mm_w_rg _
      refine mm_fgt 0 ?_
      refine mm_fgt 1 ?_
      refine mm_fgt 2 ?_
      exact J117 (mm_w (Int.tdiv p1 p2)) ⟨by omega, by omega⟩
    · skip
      refine mm_iconst C (mm_dec dk_X12_works 46 rfl) ⟨by decide, by decide⟩ ?_
      refine mm_goto (tgt := 117) C (mm_dec dk_X12_works 47 rfl) (by decide) ?_
      refine mm_fgt 0 ?_
      refine mm_fgt 1 ?_
      refine mm_fgt 2 ?_
      exact J117 0 ⟨by omega, by omega⟩
  · have hq1 : k1 < 7 := hk1
    rcases (by omega : k1 = 0 ∨ k1 = 1 ∨ k1 = 2 ∨ k1 = 3 ∨ k1 = 4 ∨ k1 = 5 ∨ k1 = 6) with rfl | rfl | rfl | rfl | rfl | rfl | rfl
    · show mm_W x 0 0 44 _ _ _
      refine mm_iload_n C (mm_dec dk_X12_works 2 rfl) rfl ?_
      have J57 : ∀ (s57_0 : Int) (bs57_0 : 0 ≤ s57_0 ∧ s57_0 ≤ 1) (vs57_0 : (s57_0 = 0) ∨ (p1 ≠ 0 ∧ p2 ≠ 0 ∧ s57_0 = 1)), mm_W x 0 0 57 [mU, mU, mU] [mI s57_0] h := by
        intro s57_0 bs57_0 vs57_0
        exact mm_iret C T (mm_dec dk_X12_works 9 rfl) (by decide : 0 ≤ 0) (by decide : 0 ≤ 0) ⟨_, rfl, ⟨⟨by omega, by omega⟩, rfl⟩⟩
      have J56 : mm_W x 0 0 56 [mU, mU, mU] [] h := by
        refine mm_iconst C (mm_dec dk_X12_works 8 rfl) ⟨by decide, by decide⟩ ?_
        exact J57 0 ⟨by omega, by omega⟩ (Or.inl rfl)
      refine mm_if_eq (tgt := 56) C (mm_dec dk_X12_works 3 rfl) (by decide) (fun c45 => ?_) (fun c45 => ?_)
      · skip
        refine mm_fgt 0 ?_
        refine mm_fgt 1 ?_
        refine mm_fgt 2 ?_
        exact J56
      · skip
        refine mm_iload_n C (mm_dec dk_X12_works 4 rfl) rfl ?_
        refine mm_if_eq (tgt := 56) C (mm_dec dk_X12_works 5 rfl) (by decide) (fun c49 => ?_) (fun c49 => ?_)
        · skip
          refine mm_fgt 0 ?_
          refine mm_fgt 1 ?_
          refine mm_fgt 2 ?_
          exact J56
        · skip
          refine mm_iconst C (mm_dec dk_X12_works 6 rfl) ⟨by decide, by decide⟩ ?_
          refine mm_goto (tgt := 57) C (mm_dec dk_X12_works 7 rfl) (by decide) ?_
          refine mm_fgt 0 ?_
          refine mm_fgt 1 ?_
          refine mm_fgt 2 ?_
          exact J57 1 ⟨by omega, by omega⟩ (Or.inr (⟨by omega, by omega, rfl⟩))
    · show mm_W x 0 0 58 _ _ _
      refine mm_iload_n C (mm_dec dk_X12_works 10 rfl) rfl ?_
      have J71 : ∀ (s71_0 : Int) (bs71_0 : 0 ≤ s71_0 ∧ s71_0 ≤ 1) (vs71_0 : (p1 = 0 ∧ p2 = 0 ∧ s71_0 = 0) ∨ (s71_0 = 1)), mm_W x 0 0 71 [mU, mU, mU] [mI s71_0] h := by
        intro s71_0 bs71_0 vs71_0
        exact mm_iret C T (mm_dec dk_X12_works 17 rfl) (by decide : 0 ≤ 0) (by decide : 0 ≤ 0) ⟨_, rfl, ⟨⟨by omega, by omega⟩, rfl⟩⟩
      have J66 : mm_W x 0 0 66 [mU, mU, mU] [] h := by
        refine mm_iconst C (mm_dec dk_X12_works 14 rfl) ⟨by decide, by decide⟩ ?_
        refine mm_goto (tgt := 71) C (mm_dec dk_X12_works 15 rfl) (by decide) ?_
        exact J71 1 ⟨by omega, by omega⟩ (Or.inr (rfl))
      refine mm_if_ne (tgt := 66) C (mm_dec dk_X12_works 11 rfl) (by decide) (fun c59 => ?_) (fun c59 => ?_)
      · skip
        refine mm_fgt 0 ?_
        refine mm_fgt 1 ?_
        refine mm_fgt 2 ?_
        exact J66
      · skip
        refine mm_iload_n C (mm_dec dk_X12_works 12 rfl) rfl ?_
        refine mm_if_eq (tgt := 70) C (mm_dec dk_X12_works 13 rfl) (by decide) (fun c63 => ?_) (fun c63 => ?_)
        · skip
          refine mm_iconst C (mm_dec dk_X12_works 16 rfl) ⟨by decide, by decide⟩ ?_
          refine mm_fgt 0 ?_
          refine mm_fgt 1 ?_
          refine mm_fgt 2 ?_
          exact J71 0 ⟨by omega, by omega⟩ (Or.inl ⟨by omega, by omega, rfl⟩)
        · skip
          refine mm_fgt 0 ?_
          refine mm_fgt 1 ?_
          refine mm_fgt 2 ?_
          exact J66
    · show mm_W x 0 0 72 _ _ _
      refine mm_iload_n C (mm_dec dk_X12_works 18 rfl) rfl ?_
      refine mm_iload_n C (mm_dec dk_X12_works 19 rfl) rfl ?_
      have J82 : ∀ (s82_0 : Int) (bs82_0 : 0 ≤ s82_0 ∧ s82_0 ≤ 1) (vs82_0 : (p2 ≤ p1 ∧ s82_0 = 0) ∨ (p1 < p2 ∧ s82_0 = 1)), mm_W x 0 0 82 [mU, mU, mU] [mI s82_0] h := by
        intro s82_0 bs82_0 vs82_0
        exact mm_iret C T (mm_dec dk_X12_works 24 rfl) (by decide : 0 ≤ 0) (by decide : 0 ≤ 0) ⟨_, rfl, ⟨⟨by omega, by omega⟩, rfl⟩⟩
      refine mm_icmp_ge (tgt := 81) C (mm_dec dk_X12_works 20 rfl) (by decide) (fun c74 => ?_) (fun c74 => ?_)
      · skip
        refine mm_iconst C (mm_dec dk_X12_works 23 rfl) ⟨by decide, by decide⟩ ?_
        refine mm_fgt 0 ?_
        refine mm_fgt 1 ?_
        refine mm_fgt 2 ?_
        exact J82 0 ⟨by omega, by omega⟩ (Or.inl ⟨by omega, rfl⟩)
      · skip
        refine mm_iconst C (mm_dec dk_X12_works 21 rfl) ⟨by decide, by decide⟩ ?_
        refine mm_goto (tgt := 82) C (mm_dec dk_X12_works 22 rfl) (by decide) ?_
        refine mm_fgt 0 ?_
        refine mm_fgt 1 ?_
        refine mm_fgt 2 ?_
        exact J82 1 ⟨by omega, by omega⟩ (Or.inr (⟨by omega, rfl⟩))
    · show mm_W x 0 0 83 _ _ _
      refine mm_iload_n C (mm_dec dk_X12_works 25 rfl) rfl ?_
      refine mm_iload_n C (mm_dec dk_X12_works 26 rfl) rfl ?_
      have J93 : ∀ (s93_0 : Int) (bs93_0 : 0 ≤ s93_0 ∧ s93_0 ≤ 1) (vs93_0 : (p1 ≠ p2 ∧ s93_0 = 0) ∨ (p1 = p2 ∧ s93_0 = 1)), mm_W x 0 0 93 [mU, mU, mU] [mI s93_0] h := by
        intro s93_0 bs93_0 vs93_0
        exact mm_iret C T (mm_dec dk_X12_works 31 rfl) (by decide : 0 ≤ 0) (by decide : 0 ≤ 0) ⟨_, rfl, ⟨⟨by omega, by omega⟩, rfl⟩⟩
      refine mm_icmp_ne (tgt := 92) C (mm_dec dk_X12_works 27 rfl) (by decide) (fun c85 => ?_) (fun c85 => ?_)
      · skip
        refine mm_iconst C (mm_dec dk_X12_works 30 rfl) ⟨by decide, by decide⟩ ?_
        refine mm_fgt 0 ?_
        refine mm_fgt 1 ?_
        refine mm_fgt 2 ?_
        exact J93 0 ⟨by omega, by omega⟩ (Or.inl ⟨by omega, rfl⟩)
      · skip
        refine mm_iconst C (mm_dec dk_X12_works 28 rfl) ⟨by decide, by decide⟩ ?_
        refine mm_goto (tgt := 93) C (mm_dec dk_X12_works 29 rfl) (by decide) ?_
        refine mm_fgt 0 ?_
        refine mm_fgt 1 ?_
        refine mm_fgt 2 ?_
        exact J93 1 ⟨by omega, by omega⟩ (Or.inr (⟨by omega, rfl⟩))
    · show mm_W x 0 0 94 _ _ _
      refine mm_iload_n C (mm_dec dk_X12_works 32 rfl) rfl ?_
      refine mm_iload_n C (mm_dec dk_X12_works 33 rfl) rfl ?_
      refine mm_iaddw C (mm_dec dk_X12_works 34 rfl) ?_
      have g3 : -2147483648 ≤ (mm_w (p1 + p2)) ∧ (mm_w (p1 + p2)) < 2147483648 := mm_w_rg _
      exact mm_iret C T (mm_dec dk_X12_works 35 rfl) (by decide : 0 ≤ 0) (by decide : 0 ≤ 0) ⟨_, rfl, ⟨⟨by omega, by omega⟩, rfl⟩⟩
    · show mm_W x 0 0 98 _ _ _
      refine mm_iload_n C (mm_dec dk_X12_works 36 rfl) rfl ?_
      refine mm_iload_n C (mm_dec dk_X12_works 37 rfl) rfl ?_
      refine mm_isubw C (mm_dec dk_X12_works 38 rfl) ?_
      have g4 : -2147483648 ≤ (mm_w (p1 - p2)) ∧ (mm_w (p1 - p2)) < 2147483648 := mm_w_rg _
      exact mm_iret C T (mm_dec dk_X12_works 39 rfl) (by decide : 0 ≤ 0) (by decide : 0 ≤ 0) ⟨_, rfl, ⟨⟨by omega, by omega⟩, rfl⟩⟩
    · show mm_W x 0 0 102 _ _ _
      refine mm_iload_n C (mm_dec dk_X12_works 40 rfl) rfl ?_
      refine mm_iload_n C (mm_dec dk_X12_works 41 rfl) rfl ?_
      refine mm_imulw C (mm_dec dk_X12_works 42 rfl) ?_
      have g5 : -2147483648 ≤ (mm_w (p1 * p2)) ∧ (mm_w (p1 * p2)) < 2147483648 := mm_w_rg _
      exact mm_iret C T (mm_dec dk_X12_works 43 rfl) (by decide : 0 ≤ 0) (by decide : 0 ≤ 0) ⟨_, rfl, ⟨⟨by omega, by omega⟩, rfl⟩⟩
set_option maxRecDepth 100000 in
set_option maxHeartbeats 4000000 in
theorem c_X12_protested (l : Launch) (hl : l.stackTraces = false) (d : Nat) (hd : 0 ≤ d) (h : mH) (i0 : mm_inv h) (p1 : Int) (p2 : Int) : mm_Met l d yX12_protested cX12_protested 6 (some .int) [mR 66, mI p1, mI p2] h (mm_pi fun r h2 => (-2147483648 ≤ r ∧ r ≤ 2147483647) ∧ h2 = h) mm_nx 0 0 := by
  refine mm_ofW (ls := [mR 66, mI p1, mI p2, mU, mU, mU]) hl (by decide) rfl (Nat.le_of_ble_eq_true rfl) ?_
  intro x hxl C T hnm htb
  subst hxl
  refine mm_rng (fun hr _ => ?_)
  have ap1 : -2147483648 ≤ p1 ∧ p1 < 2147483648 := mm_ok_at hr (i := 1) rfl
  have ap2 : -2147483648 ≤ p2 ∧ p2 < 2147483648 := mm_ok_at hr (i := 2) rfl
  have f0 : mm_fr [] [] h h := mm_fr_rf
  refine mm_iconst C (mm_dec dk_X12_protested 0 rfl) ⟨by decide, by decide⟩ ?_
  refine mm_istore_nL (ls2 := [mR 66, mI p1, mI p2, mI (-1), mU, mU]) C (mm_dec dk_X12_protested 1 rfl) (by decide) rfl ?_
  refine mm_iconst C (mm_dec dk_X12_protested 2 rfl) ⟨by decide, by decide⟩ ?_
  have J5 : ∀ (n : Nat) (x5_3 : Int) (bx5_3 : -1 ≤ x5_3 ∧ x5_3 ≤ 39) (x5_4 : Int) (bx5_4 : 0 ≤ x5_4 ∧ x5_4 ≤ 40), (40 - x5_4 : Int) < n → mm_W x 0 0 5 [mR 66, mI p1, mI p2, mI x5_3, mI x5_4, mU] [] h := by
    intro n
    induction n with
    | zero =>
      intro x5_3 bx5_3 x5_4 bx5_4 hm
      exfalso; omega
    | succ n ih5 =>
      intro x5_3 bx5_3 x5_4 bx5_4 hm5
      refine mm_iload C (mm_dec dk_X12_protested 4 rfl) rfl ?_
      refine mm_aload_n C (mm_dec dk_X12_protested 5 rfl) rfl ?_
      refine mm_geti C fl_X12_231 (mm_dec dk_X12_protested 6 rfl) rfl rfl (Or.inl rfl) ?_
      have g1 : 0 ≤ (h.1 66 82) ∧ (h.1 66 82) ≤ 40 := i0.1 66 82
      refine mm_icmp_ge (tgt := 99) C (mm_dec dk_X12_protested 7 rfl) (by decide) (fun c11 => ?_) (fun c11 => ?_)
      · skip
        refine mm_iload_n C (mm_dec dk_X12_protested 53 rfl) rfl ?_
        refine mm_iconst C (mm_dec dk_X12_protested 54 rfl) ⟨by decide, by decide⟩ ?_
        have J114 : ∀ (s114_0 : Int) (bs114_0 : -2147483648 ≤ s114_0 ∧ s114_0 ≤ 2147483647), mm_W x 0 0 114 [mU, mU, mU, mU, mU, mU] [mI s114_0] h := by
          intro s114_0 bs114_0
          exact mm_iret C T (mm_dec dk_X12_protested 62 rfl) (by decide : 0 ≤ 0) (by decide : 0 ≤ 0) ⟨_, rfl, ⟨⟨by omega, by omega⟩, rfl⟩⟩
        refine mm_icmp_ne (tgt := 108) C (mm_dec dk_X12_protested 55 rfl) (by decide) (fun c101 => ?_) (fun c101 => ?_)
        · skip
          refine mm_aload_n C (mm_dec dk_X12_protested 58 rfl) rfl ?_
          refine mm_getr (t := 114) C fl_X12_153 (mm_dec dk_X12_protested 59 rfl) rfl rfl (mm_ref i0 rfl) ?_
          refine mm_iload_n C (mm_dec dk_X12_protested 60 rfl) rfl ?_
          refine mm_iald C (mm_dec dk_X12_protested 61 rfl) rfl (by omega) (by omega) ?_
          have g2 : -2147483648 ≤ (h.2.1 114 x5_3) ∧ (h.2.1 114 x5_3) ≤ 2147483647 := i0.2.1 114 x5_3
          refine mm_fgt 0 ?_
          refine mm_fgt 1 ?_
          refine mm_fgt 2 ?_
          refine mm_fgt 3 ?_
          refine mm_fgt 4 ?_
          exact J114 (h.2.1 114 x5_3) ⟨by omega, by omega⟩
        · skip
          refine mm_iconst C (mm_dec dk_X12_protested 56 rfl) ⟨by decide, by decide⟩ ?_
          refine mm_goto (tgt := 114) C (mm_dec dk_X12_protested 57 rfl) (by decide) ?_
          refine mm_fgt 0 ?_
          refine mm_fgt 1 ?_
          refine mm_fgt 2 ?_
          refine mm_fgt 3 ?_
          refine mm_fgt 4 ?_
          exact J114 0 ⟨by omega, by omega⟩
      · skip
        refine mm_aload_n C (mm_dec dk_X12_protested 8 rfl) rfl ?_
        refine mm_getr (t := 112) C fl_X12_147 (mm_dec dk_X12_protested 9 rfl) rfl rfl (mm_ref i0 rfl) ?_
        refine mm_iload C (mm_dec dk_X12_protested 10 rfl) rfl ?_
        refine mm_iald C (mm_dec dk_X12_protested 11 rfl) rfl (by omega) (by omega) ?_
        have g3 : -2147483648 ≤ (h.2.1 112 x5_4) ∧ (h.2.1 112 x5_4) ≤ 2147483647 := i0.2.1 112 x5_4
        refine mm_iload_n C (mm_dec dk_X12_protested 12 rfl) rfl ?_
        have J62 : ∀ (s62_0 : Int) (bs62_0 : 0 ≤ s62_0 ∧ s62_0 ≤ 1) (vs62_0 : (s62_0 = 0) ∨ ((h.2.1 112 x5_4) = p1 ∧ (h.2.1 113 x5_4) ≠ (-1) ∧ (h.2.1 113 x5_4) ≤ p2 ∧ (h.2.1 114 x5_4) ≠ 0 ∧ s62_0 = 1)), mm_W x 0 0 62 [mR 66, mI p1, mI p2, mI x5_3, mI x5_4, mU] [mI s62_0] h := by
          intro s62_0 bs62_0 vs62_0
          refine mm_istoreL (ls2 := [mR 66, mI p1, mI p2, mI x5_3, mI x5_4, mI s62_0]) C (mm_dec dk_X12_protested 34 rfl) (by decide) rfl ?_
          refine mm_iload C (mm_dec dk_X12_protested 35 rfl) rfl ?_
          have J93 : ∀ (x93_3 : Int) (bx93_3 : -1 ≤ x93_3 ∧ x93_3 ≤ 39), mm_W x 0 0 93 [mR 66, mI p1, mI p2, mI x93_3, mI x5_4, mU] [] h := by
            intro x93_3 bx93_3
            refine mm_iincL (ls2 := [mR 66, mI p1, mI p2, mI x93_3, mI (x5_4 + 1), mU]) C (mm_dec dk_X12_protested 51 rfl) rfl (by decide) ⟨by omega, by omega⟩ rfl ?_
            refine mm_goto (tgt := 5) C (mm_dec dk_X12_protested 52 rfl) (by decide) ?_
            exact ih5 x93_3 ⟨by omega, by omega⟩ (x5_4 + 1) ⟨by omega, by omega⟩ (by omega)
          refine mm_if_eq (tgt := 93) C (mm_dec dk_X12_protested 36 rfl) (by decide) (fun c66 => ?_) (fun c66 => ?_)
          · skip
            refine mm_fgt 5 ?_
            exact J93 x5_3 ⟨by omega, by omega⟩
          · skip
            refine mm_iload_n C (mm_dec dk_X12_protested 37 rfl) rfl ?_
            refine mm_iconst C (mm_dec dk_X12_protested 38 rfl) ⟨by decide, by decide⟩ ?_
            have J90 : mm_W x 0 0 90 [mR 66, mI p1, mI p2, mU, mI x5_4, mU] [] h := by
              refine mm_iload C (mm_dec dk_X12_protested 49 rfl) rfl ?_
              refine mm_istore_nL (ls2 := [mR 66, mI p1, mI p2, mI x5_4, mI x5_4, mU]) C (mm_dec dk_X12_protested 50 rfl) (by decide) rfl ?_
              exact J93 x5_4 ⟨by omega, by omega⟩
            refine mm_icmp_eq (tgt := 90) C (mm_dec dk_X12_protested 39 rfl) (by decide) (fun c71 => ?_) (fun c71 => ?_)
            · skip
              refine mm_fgt 3 ?_
              refine mm_fgt 5 ?_
              exact J90
            · skip
              refine mm_aload_n C (mm_dec dk_X12_protested 40 rfl) rfl ?_
              refine mm_getr (t := 116) C fl_X12_159 (mm_dec dk_X12_protested 41 rfl) rfl rfl (mm_ref i0 rfl) ?_
              refine mm_iload C (mm_dec dk_X12_protested 42 rfl) rfl ?_
              refine mm_iald C (mm_dec dk_X12_protested 43 rfl) rfl (by omega) (by omega) ?_
              have g4 : -2147483648 ≤ (h.2.1 116 x5_4) ∧ (h.2.1 116 x5_4) ≤ 2147483647 := i0.2.1 116 x5_4
              refine mm_aload_n C (mm_dec dk_X12_protested 44 rfl) rfl ?_
              refine mm_getr (t := 116) C fl_X12_159 (mm_dec dk_X12_protested 45 rfl) rfl rfl (mm_ref i0 rfl) ?_
              refine mm_iload_n C (mm_dec dk_X12_protested 46 rfl) rfl ?_
              refine mm_iald C (mm_dec dk_X12_protested 47 rfl) rfl (by omega) (by omega) ?_
              have g5 : -2147483648 ≤ (h.2.1 116 x5_3) ∧ (h.2.1 116 x5_3) ≤ 2147483647 := i0.2.1 116 x5_3
              refine mm_icmp_le (tgt := 93) C (mm_dec dk_X12_protested 48 rfl) (by decide) (fun c87 => ?_) (fun c87 => ?_)
              · skip
                refine mm_fgt 5 ?_
                exact J93 x5_3 ⟨by omega, by omega⟩
              · skip
                refine mm_fgt 3 ?_
                refine mm_fgt 5 ?_
                exact J90
        have J61 : mm_W x 0 0 61 [mR 66, mI p1, mI p2, mI x5_3, mI x5_4, mU] [] h := by
          refine mm_iconst C (mm_dec dk_X12_protested 33 rfl) ⟨by decide, by decide⟩ ?_
          exact J62 0 ⟨by omega, by omega⟩ (Or.inl rfl)
        refine mm_icmp_ne (tgt := 61) C (mm_dec dk_X12_protested 13 rfl) (by decide) (fun c22 => ?_) (fun c22 => ?_)
        · skip
          exact J61
        · skip
          refine mm_aload_n C (mm_dec dk_X12_protested 14 rfl) rfl ?_
          refine mm_getr (t := 113) C fl_X12_150 (mm_dec dk_X12_protested 15 rfl) rfl rfl (mm_ref i0 rfl) ?_
          refine mm_iload C (mm_dec dk_X12_protested 16 rfl) rfl ?_
          refine mm_iald C (mm_dec dk_X12_protested 17 rfl) rfl (by omega) (by omega) ?_
          have g6 : -2147483648 ≤ (h.2.1 113 x5_4) ∧ (h.2.1 113 x5_4) ≤ 2147483647 := i0.2.1 113 x5_4
          refine mm_iconst C (mm_dec dk_X12_protested 18 rfl) ⟨by decide, by decide⟩ ?_
          refine mm_icmp_eq (tgt := 61) C (mm_dec dk_X12_protested 19 rfl) (by decide) (fun c33 => ?_) (fun c33 => ?_)
          · skip
            exact J61
          · skip
            refine mm_aload_n C (mm_dec dk_X12_protested 20 rfl) rfl ?_
            refine mm_getr (t := 113) C fl_X12_150 (mm_dec dk_X12_protested 21 rfl) rfl rfl (mm_ref i0 rfl) ?_
            refine mm_iload C (mm_dec dk_X12_protested 22 rfl) rfl ?_
            refine mm_iald C (mm_dec dk_X12_protested 23 rfl) rfl (by omega) (by omega) ?_
            refine mm_iload_n C (mm_dec dk_X12_protested 24 rfl) rfl ?_
            refine mm_icmp_gt (tgt := 61) C (mm_dec dk_X12_protested 25 rfl) (by decide) (fun c44 => ?_) (fun c44 => ?_)
            · skip
              exact J61
            · skip
              refine mm_aload_n C (mm_dec dk_X12_protested 26 rfl) rfl ?_
              refine mm_getr (t := 114) C fl_X12_153 (mm_dec dk_X12_protested 27 rfl) rfl rfl (mm_ref i0 rfl) ?_
              refine mm_iload C (mm_dec dk_X12_protested 28 rfl) rfl ?_
              refine mm_iald C (mm_dec dk_X12_protested 29 rfl) rfl (by omega) (by omega) ?_
              have g7 : -2147483648 ≤ (h.2.1 114 x5_4) ∧ (h.2.1 114 x5_4) ≤ 2147483647 := i0.2.1 114 x5_4
              refine mm_if_eq (tgt := 61) C (mm_dec dk_X12_protested 30 rfl) (by decide) (fun c54 => ?_) (fun c54 => ?_)
              · skip
                exact J61
              · skip
                refine mm_iconst C (mm_dec dk_X12_protested 31 rfl) ⟨by decide, by decide⟩ ?_
                refine mm_goto (tgt := 62) C (mm_dec dk_X12_protested 32 rfl) (by decide) ?_
                exact J62 1 ⟨by omega, by omega⟩ (Or.inr (⟨by omega, by omega, by omega, by omega, rfl⟩))
  refine mm_istoreL (ls2 := [mR 66, mI p1, mI p2, mI (-1), mI 0, mU]) C (mm_dec dk_X12_protested 3 rfl) (by decide) rfl ?_
  exact J5 (((40 - 0) : Int) + 1).toNat (-1) ⟨by omega, by omega⟩ 0 ⟨by omega, by omega⟩ (by omega)
set_option maxRecDepth 100000 in
set_option maxHeartbeats 4000000 in
theorem c_X12_added (l : Launch) (hl : l.stackTraces = false) (d : Nat) (hd : 0 ≤ d) (h : mH) (i0 : mm_inv h) (p1 : Int) (p2 : Int) : mm_Met l d yX12_added cX12_added 5 (some .int) [mR 66, mI p1, mI p2] h (mm_pi fun r h2 => (-2147483648 ≤ r ∧ r ≤ 2147483647) ∧ h2 = h) mm_nx 0 0 := by
  refine mm_ofW (ls := [mR 66, mI p1, mI p2, mU, mU]) hl (by decide) rfl (Nat.le_of_ble_eq_true rfl) ?_
  intro x hxl C T hnm htb
  subst hxl
  refine mm_rng (fun hr _ => ?_)
  have ap1 : -2147483648 ≤ p1 ∧ p1 < 2147483648 := mm_ok_at hr (i := 1) rfl
  have ap2 : -2147483648 ≤ p2 ∧ p2 < 2147483648 := mm_ok_at hr (i := 2) rfl
  have f0 : mm_fr [] [] h h := mm_fr_rf
  refine mm_iconst C (mm_dec dk_X12_added 0 rfl) ⟨by decide, by decide⟩ ?_
  refine mm_istore_nL (ls2 := [mR 66, mI p1, mI p2, mI 0, mU]) C (mm_dec dk_X12_added 1 rfl) (by decide) rfl ?_
  refine mm_iconst C (mm_dec dk_X12_added 2 rfl) ⟨by decide, by decide⟩ ?_
  have J5 : ∀ (n : Nat) (x5_3 : Int) (bx5_3 : -2147483648 ≤ x5_3 ∧ x5_3 ≤ 2147483647) (x5_4 : Int) (bx5_4 : 0 ≤ x5_4 ∧ x5_4 ≤ 40), (40 - x5_4 : Int) < n → mm_W x 0 0 5 [mR 66, mI p1, mI p2, mI x5_3, mI x5_4] [] h := by
    intro n
    induction n with
    | zero =>
      intro x5_3 bx5_3 x5_4 bx5_4 hm
      exfalso; omega
    | succ n ih5 =>
      intro x5_3 bx5_3 x5_4 bx5_4 hm5
      refine mm_iload C (mm_dec dk_X12_added 4 rfl) rfl ?_
      refine mm_aload_n C (mm_dec dk_X12_added 5 rfl) rfl ?_
      refine mm_geti C fl_X12_231 (mm_dec dk_X12_added 6 rfl) rfl rfl (Or.inl rfl) ?_
      have g1 : 0 ≤ (h.1 66 82) ∧ (h.1 66 82) ≤ 40 := i0.1 66 82
      refine mm_icmp_ge (tgt := 73) C (mm_dec dk_X12_added 7 rfl) (by decide) (fun c11 => ?_) (fun c11 => ?_)
      · skip
        refine mm_iload_n C (mm_dec dk_X12_added 40 rfl) rfl ?_
        exact mm_iret C T (mm_dec dk_X12_added 41 rfl) (by decide : 0 ≤ 0) (by decide : 0 ≤ 0) ⟨_, rfl, ⟨⟨by omega, by omega⟩, rfl⟩⟩
      · skip
        refine mm_aload_n C (mm_dec dk_X12_added 8 rfl) rfl ?_
        refine mm_getr (t := 112) C fl_X12_147 (mm_dec dk_X12_added 9 rfl) rfl rfl (mm_ref i0 rfl) ?_
        refine mm_iload C (mm_dec dk_X12_added 10 rfl) rfl ?_
        refine mm_iald C (mm_dec dk_X12_added 11 rfl) rfl (by omega) (by omega) ?_
        have g2 : -2147483648 ≤ (h.2.1 112 x5_4) ∧ (h.2.1 112 x5_4) ≤ 2147483647 := i0.2.1 112 x5_4
        refine mm_iload_n C (mm_dec dk_X12_added 12 rfl) rfl ?_
        have J67 : ∀ (x67_3 : Int) (bx67_3 : -2147483648 ≤ x67_3 ∧ x67_3 ≤ 2147483647), mm_W x 0 0 67 [mR 66, mI p1, mI p2, mI x67_3, mI x5_4] [] h := by
          intro x67_3 bx67_3
          refine mm_iincL (ls2 := [mR 66, mI p1, mI p2, mI x67_3, mI (x5_4 + 1)]) C (mm_dec dk_X12_added 38 rfl) rfl (by decide) ⟨by omega, by omega⟩ rfl ?_
          refine mm_goto (tgt := 5) C (mm_dec dk_X12_added 39 rfl) (by decide) ?_
          exact ih5 x67_3 ⟨by omega, by omega⟩ (x5_4 + 1) ⟨by omega, by omega⟩ (by omega)
        refine mm_icmp_ne (tgt := 67) C (mm_dec dk_X12_added 13 rfl) (by decide) (fun c22 => ?_) (fun c22 => ?_)
        · skip
          exact J67 x5_3 ⟨by omega, by omega⟩
        · skip
          refine mm_aload_n C (mm_dec dk_X12_added 14 rfl) rfl ?_
          refine mm_getr (t := 113) C fl_X12_150 (mm_dec dk_X12_added 15 rfl) rfl rfl (mm_ref i0 rfl) ?_
          refine mm_iload C (mm_dec dk_X12_added 16 rfl) rfl ?_
          refine mm_iald C (mm_dec dk_X12_added 17 rfl) rfl (by omega) (by omega) ?_
          have g3 : -2147483648 ≤ (h.2.1 113 x5_4) ∧ (h.2.1 113 x5_4) ≤ 2147483647 := i0.2.1 113 x5_4
          refine mm_iconst C (mm_dec dk_X12_added 18 rfl) ⟨by decide, by decide⟩ ?_
          refine mm_icmp_eq (tgt := 67) C (mm_dec dk_X12_added 19 rfl) (by decide) (fun c33 => ?_) (fun c33 => ?_)
          · skip
            exact J67 x5_3 ⟨by omega, by omega⟩
          · skip
            refine mm_aload_n C (mm_dec dk_X12_added 20 rfl) rfl ?_
            refine mm_getr (t := 113) C fl_X12_150 (mm_dec dk_X12_added 21 rfl) rfl rfl (mm_ref i0 rfl) ?_
            refine mm_iload C (mm_dec dk_X12_added 22 rfl) rfl ?_
            refine mm_iald C (mm_dec dk_X12_added 23 rfl) rfl (by omega) (by omega) ?_
            refine mm_iload_n C (mm_dec dk_X12_added 24 rfl) rfl ?_
            refine mm_icmp_gt (tgt := 67) C (mm_dec dk_X12_added 25 rfl) (by decide) (fun c44 => ?_) (fun c44 => ?_)
            · skip
              exact J67 x5_3 ⟨by omega, by omega⟩
            · skip
              refine mm_aload_n C (mm_dec dk_X12_added 26 rfl) rfl ?_
              refine mm_getr (t := 114) C fl_X12_153 (mm_dec dk_X12_added 27 rfl) rfl rfl (mm_ref i0 rfl) ?_
              refine mm_iload C (mm_dec dk_X12_added 28 rfl) rfl ?_
              refine mm_iald C (mm_dec dk_X12_added 29 rfl) rfl (by omega) (by omega) ?_
              have g4 : -2147483648 ≤ (h.2.1 114 x5_4) ∧ (h.2.1 114 x5_4) ≤ 2147483647 := i0.2.1 114 x5_4
              refine mm_if_eq (tgt := 67) C (mm_dec dk_X12_added 30 rfl) (by decide) (fun c54 => ?_) (fun c54 => ?_)
              · skip
                exact J67 x5_3 ⟨by omega, by omega⟩
              · skip
                refine mm_iload_n C (mm_dec dk_X12_added 31 rfl) rfl ?_
                refine mm_aload_n C (mm_dec dk_X12_added 32 rfl) rfl ?_
                refine mm_getr (t := 115) C fl_X12_156 (mm_dec dk_X12_added 33 rfl) rfl rfl (mm_ref i0 rfl) ?_
                refine mm_iload C (mm_dec dk_X12_added 34 rfl) rfl ?_
                refine mm_iald C (mm_dec dk_X12_added 35 rfl) rfl (by omega) (by omega) ?_
                have g5 : -2147483648 ≤ (h.2.1 115 x5_4) ∧ (h.2.1 115 x5_4) ≤ 2147483647 := i0.2.1 115 x5_4
                refine mm_iaddw C (mm_dec dk_X12_added 36 rfl) ?_
                have g6 : -2147483648 ≤ (mm_w (x5_3 + (h.2.1 115 x5_4))) ∧ (mm_w (x5_3 + (h.2.1 115 x5_4))) < 2147483648 := mm_w_rg _
                refine mm_istore_nL (ls2 := [mR 66, mI p1, mI p2, mI (mm_w (x5_3 + (h.2.1 115 x5_4))), mI x5_4]) C (mm_dec dk_X12_added 37 rfl) (by decide) rfl ?_
                exact J67 (mm_w (x5_3 + (h.2.1 115 x5_4))) ⟨by omega, by omega⟩
  refine mm_istoreL (ls2 := [mR 66, mI p1, mI p2, mI 0, mI 0]) C (mm_dec dk_X12_added 3 rfl) (by decide) rfl ?_
  exact J5 (((40 - 0) : Int) + 1).toNat 0 ⟨by omega, by omega⟩ 0 ⟨by omega, by omega⟩ (by omega)
set_option maxRecDepth 100000 in
set_option maxHeartbeats 4000000 in
theorem c_X12_isSecond (l : Launch) (hl : l.stackTraces = false) (d : Nat) (hd : 1 ≤ d) (h : mH) (i0 : mm_inv h) (p1 : Int) : mm_Met l d yX12_isSecond cX12_isSecond 2 (some .boolean) [mR 66, mI p1] h (mm_pi fun r h2 => (0 ≤ r ∧ r ≤ 1) ∧ mm_inv h2 ∧ mm_fr [(66, 0)] [] h h2 ∧ (r = 0 ∨ (0 ≤ p1 ∧ p1 ≤ (h2.1 66 41)))) mm_nx 0 0 := by
  refine mm_ofW (ls := [mR 66, mI p1]) hl (by decide) rfl (Nat.le_of_ble_eq_true rfl) ?_
  intro x hxl C T hnm htb
  subst hxl
  have C1 := mm_OK_le (d' := d - 1 + 1) (by omega) C
  refine mm_rng (fun hr _ => ?_)
  have ap1 : -2147483648 ≤ p1 ∧ p1 < 2147483648 := mm_ok_at hr (i := 1) rfl
  have f0 : mm_fr [(66, 0)] [] h h := mm_fr_rf
  have g1 : 0 ≤ h.1 66 41 ∧ h.1 66 41 ≤ 99999 := i0.1 66 41
  refine mm_aload_n C (mm_dec dk_X12_isSecond 0 rfl) rfl ?_
  refine mm_iload_n C (mm_dec dk_X12_isSecond 1 rfl) rfl ?_
  refine mm_if_lt (tgt := 17) C (mm_dec dk_X12_isSecond 2 rfl) (by decide) (fun c2 => ?_) (fun c2 => ?_)
  · skip
    refine mm_iconst C (mm_dec dk_X12_isSecond 9 rfl) ⟨by decide, by decide⟩ ?_
    refine mm_iconst C (mm_dec dk_X12_isSecond 10 rfl) ⟨by decide, by decide⟩ ?_
    refine mm_cVi (rest := []) C1 ev_X12_251 (mm_dec dk_X12_isSecond 11 rfl) (c_X12_right x.2.1 hl (d - 1) (by omega) h i0 0 2 ⟨by omega, by omega⟩ (by omega)) rfl rfl (Nat.le_of_ble_eq_true rfl) ⟨by decide, by decide⟩ rfl (fun r19 h19c hp19 => ?_) (fun _ _ q => q.elim)
    obtain ⟨b19, i19c, g19c, y19_0⟩ := hp19
    have f19c : mm_fr [(66, 0)] [] h h19c := mm_fr_tr f0 g19c (by decide +kernel)
    have q19c_3 : h19c.1 66 41 = h.1 66 41 := g19c.1 66 41 (by decide)
    exact mm_zret C T (mm_dec dk_X12_isSecond 12 rfl) (by decide : 0 ≤ 0) (by decide : 0 ≤ 0) (by omega) ⟨_, rfl, ⟨⟨by omega, by omega⟩, i19c, f19c, by omega⟩⟩
  · skip
    refine mm_iload_n C (mm_dec dk_X12_isSecond 3 rfl) rfl ?_
    refine mm_aload_n C (mm_dec dk_X12_isSecond 4 rfl) rfl ?_
    refine mm_geti C fl_X12_234 (mm_dec dk_X12_isSecond 5 rfl) rfl rfl (Or.inl rfl) ?_
    refine mm_icmp_gt (tgt := 17) C (mm_dec dk_X12_isSecond 6 rfl) (by decide) (fun c10 => ?_) (fun c10 => ?_)
    · skip
      refine mm_iconst C (mm_dec dk_X12_isSecond 9 rfl) ⟨by decide, by decide⟩ ?_
      refine mm_iconst C (mm_dec dk_X12_isSecond 10 rfl) ⟨by decide, by decide⟩ ?_
      refine mm_cVi (rest := []) C1 ev_X12_251 (mm_dec dk_X12_isSecond 11 rfl) (c_X12_right x.2.1 hl (d - 1) (by omega) h i0 0 2 ⟨by omega, by omega⟩ (by omega)) rfl rfl (Nat.le_of_ble_eq_true rfl) ⟨by decide, by decide⟩ rfl (fun r19 h19c hp19 => ?_) (fun _ _ q => q.elim)
      obtain ⟨b19, i19c, g19c, y19_0⟩ := hp19
      have f19c : mm_fr [(66, 0)] [] h h19c := mm_fr_tr f0 g19c (by decide +kernel)
      have q19c_5 : h19c.1 66 41 = h.1 66 41 := g19c.1 66 41 (by decide)
      exact mm_zret C T (mm_dec dk_X12_isSecond 12 rfl) (by decide : 0 ≤ 0) (by decide : 0 ≤ 0) (by omega) ⟨_, rfl, ⟨⟨by omega, by omega⟩, i19c, f19c, by omega⟩⟩
    · skip
      refine mm_iconst C (mm_dec dk_X12_isSecond 7 rfl) ⟨by decide, by decide⟩ ?_
      refine mm_goto (tgt := 18) C (mm_dec dk_X12_isSecond 8 rfl) (by decide) ?_
      refine mm_iconst C (mm_dec dk_X12_isSecond 10 rfl) ⟨by decide, by decide⟩ ?_
      refine mm_cVi (rest := []) C1 ev_X12_251 (mm_dec dk_X12_isSecond 11 rfl) (c_X12_right x.2.1 hl (d - 1) (by omega) h i0 1 2 ⟨by omega, by omega⟩ (by omega)) rfl rfl (Nat.le_of_ble_eq_true rfl) ⟨by decide, by decide⟩ rfl (fun r19 h19c hp19 => ?_) (fun _ _ q => q.elim)
      obtain ⟨b19, i19c, g19c, y19_0⟩ := hp19
      have f19c : mm_fr [(66, 0)] [] h h19c := mm_fr_tr f0 g19c (by decide +kernel)
      have q19c_7 : h19c.1 66 41 = h.1 66 41 := g19c.1 66 41 (by decide)
      exact mm_zret C T (mm_dec dk_X12_isSecond 12 rfl) (by decide : 0 ≤ 0) (by decide : 0 ≤ 0) (by omega) ⟨_, rfl, ⟨⟨by omega, by omega⟩, i19c, f19c, by omega⟩⟩
set_option maxRecDepth 100000 in
set_option maxHeartbeats 4000000 in
theorem c_X12_protest (l : Launch) (hl : l.stackTraces = false) (d : Nat) (hd : 2 ≤ d) (h : mH) (i0 : mm_inv h) (p1 : Int) : mm_Met l d yX12_protest cX12_protest 3 (some .int) [mR 66, mI p1] h (mm_pi fun r h2 => (-1 ≤ r ∧ r ≤ 39) ∧ mm_inv h2 ∧ mm_fr [(66, 0), (66, 82)] [112, 113] h h2) mm_nx 0 0 := by
  refine mm_ofW (ls := [mR 66, mI p1, mU]) hl (by decide) rfl (Nat.le_of_ble_eq_true rfl) ?_
  intro x hxl C T hnm htb
  subst hxl
  have C1 := mm_OK_le (d' := d - 1 + 1) (by omega) C
  refine mm_rng (fun hr _ => ?_)
  have ap1 : -2147483648 ≤ p1 ∧ p1 < 2147483648 := mm_ok_at hr (i := 1) rfl
  have f0 : mm_fr [(66, 0), (66, 82)] [112, 113] h h := mm_fr_rf
  refine mm_aload_n C (mm_dec dk_X12_protest 0 rfl) rfl ?_
  refine mm_iload_n C (mm_dec dk_X12_protest 1 rfl) rfl ?_
  refine mm_cVi (rest := []) C1 ev_X12_308 (mm_dec dk_X12_protest 2 rfl) (c_X12_isRunner x.2.1 hl (d - 1) (by omega) h i0 p1) rfl rfl (Nat.le_of_ble_eq_true rfl) ⟨by decide, by decide⟩ rfl (fun r2 h2c hp2 => ?_) (fun _ _ q => q.elim)
  obtain ⟨b2, i2c, g2c, y2_0⟩ := hp2
  have f2c : mm_fr [(66, 0), (66, 82)] [112, 113] h h2c := mm_fr_tr f0 g2c (by decide +kernel)
  have g2 : 0 ≤ (h2c.1 66 23) ∧ (h2c.1 66 23) ≤ 40 := i2c.1 66 23
  refine mm_if_ne (tgt := 10) C (mm_dec dk_X12_protest 3 rfl) (by decide) (fun c5 => ?_) (fun c5 => ?_)
  · skip
    refine mm_aload_n C (mm_dec dk_X12_protest 6 rfl) rfl ?_
    refine mm_iconst C (mm_dec dk_X12_protest 7 rfl) ⟨by decide, by decide⟩ ?_
    refine mm_iload_n C (mm_dec dk_X12_protest 8 rfl) rfl ?_
    refine mm_aload_n C (mm_dec dk_X12_protest 9 rfl) rfl ?_
    refine mm_geti C fl_X12_234 (mm_dec dk_X12_protest 10 rfl) rfl rfl (Or.inl rfl) ?_
    have g3 : 0 ≤ (h2c.1 66 41) ∧ (h2c.1 66 41) ≤ 99999 := i2c.1 66 41
    refine mm_cVi (rest := []) C1 ev_X12_322 (mm_dec dk_X12_protest 11 rfl) (c_X12_latest x.2.1 hl (d - 1) (by omega) h2c i2c 2 p1 (h2c.1 66 41)) rfl rfl (Nat.le_of_ble_eq_true rfl) ⟨by decide, by decide⟩ rfl (fun r17 h17c hp17 => ?_) (fun _ _ q => q.elim)
    obtain ⟨b17, z17⟩ := hp17
    rw [z17]
    refine mm_istore_nL (ls2 := [mR 66, mI p1, mI r17]) C (mm_dec dk_X12_protest 12 rfl) (by decide) rfl ?_
    refine mm_aload_n C (mm_dec dk_X12_protest 13 rfl) rfl ?_
    refine mm_geti C fl_X12_231 (mm_dec dk_X12_protest 14 rfl) rfl rfl (Or.inl rfl) ?_
    have g5 : 0 ≤ (h2c.1 66 82) ∧ (h2c.1 66 82) ≤ 40 := i2c.1 66 82
    refine mm_bipush C (mm_dec dk_X12_protest 15 rfl) ⟨by decide, by decide⟩ ?_
    have J54 : mm_W x 0 0 54 [mU, mU, mU] [] h2c := by
      refine mm_iconst C (mm_dec dk_X12_protest 31 rfl) ⟨by decide, by decide⟩ ?_
      exact mm_iret C T (mm_dec dk_X12_protest 32 rfl) (by decide : 0 ≤ 0) (by decide : 0 ≤ 0) ⟨_, rfl, ⟨⟨by omega, by omega⟩, i2c, f2c⟩⟩
    refine mm_icmp_eq (tgt := 54) C (mm_dec dk_X12_protest 16 rfl) (by decide) (fun c27 => ?_) (fun c27 => ?_)
    · skip
      refine mm_fgt 0 ?_
      refine mm_fgt 1 ?_
      refine mm_fgt 2 ?_
      exact J54
    · skip
      refine mm_iload_n C (mm_dec dk_X12_protest 17 rfl) rfl ?_
      refine mm_iconst C (mm_dec dk_X12_protest 18 rfl) ⟨by decide, by decide⟩ ?_
      refine mm_icmp_eq (tgt := 54) C (mm_dec dk_X12_protest 19 rfl) (by decide) (fun c32 => ?_) (fun c32 => ?_)
      · skip
        refine mm_fgt 0 ?_
        refine mm_fgt 1 ?_
        refine mm_fgt 2 ?_
        exact J54
      · skip
        refine mm_aload_n C (mm_dec dk_X12_protest 20 rfl) rfl ?_
        refine mm_geti C fl_X12_234 (mm_dec dk_X12_protest 21 rfl) rfl rfl (Or.inl rfl) ?_
        refine mm_aload_n C (mm_dec dk_X12_protest 22 rfl) rfl ?_
        refine mm_getr (t := 96) C fl_X12_99 (mm_dec dk_X12_protest 23 rfl) rfl rfl (mm_ref i2c rfl) ?_
        refine mm_iload_n C (mm_dec dk_X12_protest 24 rfl) rfl ?_
        refine mm_iald C (mm_dec dk_X12_protest 25 rfl) rfl (by omega) (by omega) ?_
        have g6 : -2147483648 ≤ (h2c.2.1 96 r17) ∧ (h2c.2.1 96 r17) ≤ 2147483647 := i2c.2.1 96 r17
        refine mm_isubw C (mm_dec dk_X12_protest 26 rfl) ?_
        have g7 : -2147483648 ≤ (mm_w ((h2c.1 66 41) - (h2c.2.1 96 r17))) ∧ (mm_w ((h2c.1 66 41) - (h2c.2.1 96 r17))) < 2147483648 := mm_w_rg _
        refine mm_aload_n C (mm_dec dk_X12_protest 27 rfl) rfl ?_
        refine mm_iconst C (mm_dec dk_X12_protest 28 rfl) ⟨by decide, by decide⟩ ?_
        refine mm_cVi (rest := [mI (mm_w ((h2c.1 66 41) - (h2c.2.1 96 r17)))]) C1 ev_X12_460 (mm_dec dk_X12_protest 29 rfl) (c_X12_paramOf x.2.1 hl (d - 1) (by omega) h2c i2c 2 ⟨by omega, by omega⟩) rfl rfl (Nat.le_of_ble_eq_true rfl) ⟨by decide, by decide⟩ rfl (fun r48 h48c hp48 => ?_) (fun _ _ q => q.elim)
        obtain ⟨z48, y48⟩ := hp48
        rw [z48]
        have g9 : 0 ≤ (h2c.1 66 67) ∧ (h2c.1 66 67) ≤ 1 := i2c.1 66 67
        have g10 : -2147483648 ≤ (h2c.2.1 102 ((3 * (h2c.1 66 68)) + 2)) ∧ (h2c.2.1 102 ((3 * (h2c.1 66 68)) + 2)) ≤ 2147483647 := i2c.2.1 102 ((3 * (h2c.1 66 68)) + 2)
        have g11 : 0 ≤ (h2c.1 66 68) ∧ (h2c.1 66 68) ≤ 1 := i2c.1 66 68
        refine mm_icmp_le (tgt := 56) C (mm_dec dk_X12_protest 30 rfl) (by decide) (fun c51 => ?_) (fun c51 => ?_)
        · skip
          refine mm_aload_n C (mm_dec dk_X12_protest 33 rfl) rfl ?_
          refine mm_getr (t := 112) C fl_X12_147 (mm_dec dk_X12_protest 34 rfl) rfl rfl (mm_ref i2c rfl) ?_
          refine mm_aload_n C (mm_dec dk_X12_protest 35 rfl) rfl ?_
          refine mm_geti C fl_X12_231 (mm_dec dk_X12_protest 36 rfl) rfl rfl (Or.inl rfl) ?_
          refine mm_iload_n C (mm_dec dk_X12_protest 37 rfl) rfl ?_
          refine mm_iast C (mm_dec dk_X12_protest 38 rfl) rfl (by omega) (by omega) ?_
          have i2 : mm_inv (mm_pa h2c 112 (h2c.1 66 82) p1) := mm_inv_pa i2c (show -2147483648 ≤ p1 ∧ p1 ≤ 2147483647 from ⟨by omega, by omega⟩)
          have f2 : mm_fr [(66, 0), (66, 82)] [112, 113] h (mm_pa h2c 112 (h2c.1 66 82) p1) := mm_fr_pa f2c (by decide)
          obtain ⟨h2, eh2⟩ : ∃ z, z = mm_pa h2c 112 (h2c.1 66 82) p1 := ⟨_, rfl⟩
          rw [← eh2] at i2 f2 ⊢
          have qh2_12 : h2.1 66 23 = h2c.1 66 23 := by rw [eh2]; rfl
          have qh2_13 : h2.1 66 41 = h2c.1 66 41 := by rw [eh2]; rfl
          have qh2_14 : h2.1 66 67 = h2c.1 66 67 := by rw [eh2]; rfl
          have qh2_15 : h2.1 66 68 = h2c.1 66 68 := by rw [eh2]; rfl
          have qh2_16 : h2.1 66 82 = h2c.1 66 82 := by rw [eh2]; rfl
          refine mm_aload_n C (mm_dec dk_X12_protest 39 rfl) rfl ?_
          refine mm_getr (t := 113) C fl_X12_150 (mm_dec dk_X12_protest 40 rfl) rfl rfl (mm_ref i2 rfl) ?_
          refine mm_aload_n C (mm_dec dk_X12_protest 41 rfl) rfl ?_
          refine mm_geti C fl_X12_231 (mm_dec dk_X12_protest 42 rfl) rfl rfl (Or.inl rfl) ?_
          refine mm_iconst C (mm_dec dk_X12_protest 43 rfl) ⟨by decide, by decide⟩ ?_
          refine mm_iast C (mm_dec dk_X12_protest 44 rfl) rfl (by omega) (by omega) ?_
          have i3 : mm_inv (mm_pa h2 113 (h2.1 66 82) (-1)) := mm_inv_pa i2 (show -2147483648 ≤ (-1) ∧ (-1) ≤ 2147483647 from ⟨by omega, by omega⟩)
          have f3 : mm_fr [(66, 0), (66, 82)] [112, 113] h (mm_pa h2 113 (h2.1 66 82) (-1)) := mm_fr_pa f2 (by decide)
          obtain ⟨h3, eh3⟩ : ∃ z, z = mm_pa h2 113 (h2.1 66 82) (-1) := ⟨_, rfl⟩
          rw [← eh3] at i3 f3 ⊢
          have qh3_17 : h3.1 66 23 = h2.1 66 23 := by rw [eh3]; rfl
          have qh3_18 : h3.1 66 41 = h2.1 66 41 := by rw [eh3]; rfl
          have qh3_19 : h3.1 66 67 = h2.1 66 67 := by rw [eh3]; rfl
          have qh3_20 : h3.1 66 68 = h2.1 66 68 := by rw [eh3]; rfl
          have qh3_21 : h3.1 66 82 = h2.1 66 82 := by rw [eh3]; rfl
          refine mm_aload_n C (mm_dec dk_X12_protest 45 rfl) rfl ?_
          refine mm_dup C (mm_dec dk_X12_protest 46 rfl) (show (2 : Nat) ≠ 1 by decide) ?_
          refine mm_geti C fl_X12_231 (mm_dec dk_X12_protest 47 rfl) rfl rfl (Or.inl rfl) ?_
          refine mm_iconst C (mm_dec dk_X12_protest 48 rfl) ⟨by decide, by decide⟩ ?_
          refine mm_iadd C (mm_dec dk_X12_protest 49 rfl) ⟨by omega, by omega⟩ ?_
          refine mm_puti C fl_X12_231 (mm_dec dk_X12_protest 50 rfl) rfl rfl rfl (Or.inl ⟨rfl, rfl⟩) ?_
          have i4 : mm_inv (mm_pf h3 66 82 ((h3.1 66 82) + 1)) := mm_inv_pf i3 (show 0 ≤ ((h3.1 66 82) + 1) ∧ ((h3.1 66 82) + 1) ≤ 40 from ⟨by omega, by omega⟩) (by decide)
          have f4 : mm_fr [(66, 0), (66, 82)] [112, 113] h (mm_pf h3 66 82 ((h3.1 66 82) + 1)) := mm_fr_pf f3 (by decide)
          obtain ⟨h4, eh4⟩ : ∃ z, z = mm_pf h3 66 82 ((h3.1 66 82) + 1) := ⟨_, rfl⟩
          rw [← eh4] at i4 f4 ⊢
          have qh4 : h4.1 66 82 = ((h3.1 66 82) + 1) := by rw [eh4]; exact mm_pf_same _ _ _ _
          have qh4_22 : h4.1 66 23 = h3.1 66 23 := by rw [eh4]; exact mm_pf_ne _ _ (by decide)
          have qh4_23 : h4.1 66 41 = h3.1 66 41 := by rw [eh4]; exact mm_pf_ne _ _ (by decide)
          have qh4_24 : h4.1 66 67 = h3.1 66 67 := by rw [eh4]; exact mm_pf_ne _ _ (by decide)
          have qh4_25 : h4.1 66 68 = h3.1 66 68 := by rw [eh4]; exact mm_pf_ne _ _ (by decide)
          refine mm_aload_n C (mm_dec dk_X12_protest 51 rfl) rfl ?_
          refine mm_geti C fl_X12_231 (mm_dec dk_X12_protest 52 rfl) rfl rfl (Or.inl rfl) ?_
          refine mm_iconst C (mm_dec dk_X12_protest 53 rfl) ⟨by decide, by decide⟩ ?_
          refine mm_isub C (mm_dec dk_X12_protest 54 rfl) ⟨by omega, by omega⟩ ?_
          exact mm_iret C T (mm_dec dk_X12_protest 55 rfl) (by decide : 0 ≤ 0) (by decide : 0 ≤ 0) ⟨_, rfl, ⟨⟨by omega, by omega⟩, i4, f4⟩⟩
        · skip
          refine mm_fgt 0 ?_
          refine mm_fgt 1 ?_
          refine mm_fgt 2 ?_
          exact J54
  · skip
    refine mm_iconst C (mm_dec dk_X12_protest 4 rfl) ⟨by decide, by decide⟩ ?_
    exact mm_iret C T (mm_dec dk_X12_protest 5 rfl) (by decide : 0 ≤ 0) (by decide : 0 ≤ 0) ⟨_, rfl, ⟨⟨by omega, by omega⟩, i2c, f2c⟩⟩
set_option maxRecDepth 100000 in
set_option maxHeartbeats 4000000 in
theorem c_X12_decide (l : Launch) (hl : l.stackTraces = false) (d : Nat) (hd : 1 ≤ d) (h : mH) (i0 : mm_inv h) (p1 : Int) (p2 : Int) (p3 : Int) : mm_Met l d yX12_decide cX12_decide 4 (some .boolean) [mR 66, mI p1, mI p2, mI p3] h (mm_pi fun r h2 => (0 ≤ r ∧ r ≤ 1) ∧ mm_inv h2 ∧ mm_fr [(66, 0), (66, 91)] [113, 114, 115, 116] h h2) mm_nx 0 0 := by
  refine mm_ofW (ls := [mR 66, mI p1, mI p2, mI p3]) hl (by decide) rfl (Nat.le_of_ble_eq_true rfl) ?_
  intro x hxl C T hnm htb
  subst hxl
  have C1 := mm_OK_le (d' := d - 1 + 1) (by omega) C
  refine mm_rng (fun hr _ => ?_)
  have ap1 : -2147483648 ≤ p1 ∧ p1 < 2147483648 := mm_ok_at hr (i := 1) rfl
  have ap2 : -2147483648 ≤ p2 ∧ p2 < 2147483648 := mm_ok_at hr (i := 2) rfl
  have ap3 : -2147483648 ≤ p3 ∧ p3 < 2147483648 := mm_ok_at hr (i := 3) rfl
  have f0 : mm_fr [(66, 0), (66, 91)] [113, 114, 115, 116] h h := mm_fr_rf
  have g1 : 0 ≤ h.1 66 82 ∧ h.1 66 82 ≤ 40 := i0.1 66 82
  refine mm_aload_n C (mm_dec dk_X12_decide 0 rfl) rfl ?_
  refine mm_iconst C (mm_dec dk_X12_decide 1 rfl) ⟨by decide, by decide⟩ ?_
  refine mm_puti C fl_X12_188 (mm_dec dk_X12_decide 2 rfl) rfl rfl rfl (Or.inl ⟨rfl, rfl⟩) ?_
  have i1 : mm_inv (mm_pf h 66 0 0) := mm_inv_pf i0 (show -2147483648 ≤ 0 ∧ 0 ≤ 2147483647 from ⟨by omega, by omega⟩) (by decide)
  have f1 : mm_fr [(66, 0), (66, 91)] [113, 114, 115, 116] h (mm_pf h 66 0 0) := mm_fr_pf f0 (by decide)
  obtain ⟨h1, eh1⟩ : ∃ z, z = mm_pf h 66 0 0 := ⟨_, rfl⟩
  rw [← eh1] at i1 f1 ⊢
  have qh1 : h1.1 66 0 = 0 := by rw [eh1]; exact mm_pf_same _ _ _ _
  have qh1_2 : h1.1 66 82 = h.1 66 82 := by rw [eh1]; exact mm_pf_ne _ _ (by decide)
  refine mm_aload_n C (mm_dec dk_X12_decide 3 rfl) rfl ?_
  refine mm_iload_n C (mm_dec dk_X12_decide 4 rfl) rfl ?_
  have J23 : ∀ (s23_1 : Int) (bs23_1 : 0 ≤ s23_1 ∧ s23_1 ≤ 1) (vs23_1 : (s23_1 = 0) ∨ (0 ≤ p1 ∧ p1 < (h1.1 66 82) ∧ s23_1 = 1)), mm_W x 0 0 23 [mR 66, mI p1, mI p2, mI p3] [mI s23_1, mR 66] h1 := by
    intro s23_1 bs23_1 vs23_1
    refine mm_iconst C (mm_dec dk_X12_decide 13 rfl) ⟨by decide, by decide⟩ ?_
    refine mm_cVi (rest := []) C1 ev_X12_251 (mm_dec dk_X12_decide 14 rfl) (c_X12_right x.2.1 hl (d - 1) (by omega) h1 i1 s23_1 1 ⟨by omega, by omega⟩ (by omega)) rfl rfl (Nat.le_of_ble_eq_true rfl) ⟨by decide, by decide⟩ rfl (fun r24 h24c hp24 => ?_) (fun _ _ q => q.elim)
    obtain ⟨b24, i24c, g24c, y24_0⟩ := hp24
    have f24c : mm_fr [(66, 0), (66, 91)] [113, 114, 115, 116] h h24c := mm_fr_tr f1 g24c (by decide +kernel)
    have q24c_4 : h24c.1 66 82 = h1.1 66 82 := g24c.1 66 82 (by decide)
    refine mm_if_ne (tgt := 32) C (mm_dec dk_X12_decide 15 rfl) (by decide) (fun c27 => ?_) (fun c27 => ?_)
    · skip
      refine mm_aload_n C (mm_dec dk_X12_decide 18 rfl) rfl ?_
      refine mm_getr (t := 113) C fl_X12_150 (mm_dec dk_X12_decide 19 rfl) rfl rfl (mm_ref i24c rfl) ?_
      refine mm_iload_n C (mm_dec dk_X12_decide 20 rfl) rfl ?_
      refine mm_iald C (mm_dec dk_X12_decide 21 rfl) rfl (by omega) (by omega) ?_
      have g5 : -2147483648 ≤ (h24c.2.1 113 p1) ∧ (h24c.2.1 113 p1) ≤ 2147483647 := i24c.2.1 113 p1
      refine mm_iconst C (mm_dec dk_X12_decide 22 rfl) ⟨by decide, by decide⟩ ?_
      have J65 : mm_W x 0 0 65 [mU, mU, mU, mU] [] h24c := by
        refine mm_iconst C (mm_dec dk_X12_decide 35 rfl) ⟨by decide, by decide⟩ ?_
        exact mm_zret C T (mm_dec dk_X12_decide 36 rfl) (by decide : 0 ≤ 0) (by decide : 0 ≤ 0) (by omega) ⟨_, rfl, ⟨⟨by omega, by omega⟩, i24c, f24c⟩⟩
      refine mm_icmp_ne (tgt := 65) C (mm_dec dk_X12_decide 23 rfl) (by decide) (fun c39 => ?_) (fun c39 => ?_)
      · skip
        refine mm_fgt 0 ?_
        refine mm_fgt 1 ?_
        refine mm_fgt 2 ?_
        refine mm_fgt 3 ?_
        exact J65
      · skip
        refine mm_iload_n C (mm_dec dk_X12_decide 24 rfl) rfl ?_
        refine mm_if_lt (tgt := 65) C (mm_dec dk_X12_decide 25 rfl) (by decide) (fun c43 => ?_) (fun c43 => ?_)
        · skip
          refine mm_fgt 0 ?_
          refine mm_fgt 1 ?_
          refine mm_fgt 2 ?_
          refine mm_fgt 3 ?_
          exact J65
        · skip
          refine mm_iload_n C (mm_dec dk_X12_decide 26 rfl) rfl ?_
          refine mm_iconst C (mm_dec dk_X12_decide 27 rfl) ⟨by decide, by decide⟩ ?_
          refine mm_icmp_gt (tgt := 65) C (mm_dec dk_X12_decide 28 rfl) (by decide) (fun c48 => ?_) (fun c48 => ?_)
          · skip
            refine mm_fgt 0 ?_
            refine mm_fgt 1 ?_
            refine mm_fgt 2 ?_
            refine mm_fgt 3 ?_
            exact J65
          · skip
            refine mm_iload_n C (mm_dec dk_X12_decide 29 rfl) rfl ?_
            refine mm_sipush C (mm_dec dk_X12_decide 30 rfl) ⟨by decide, by decide⟩ ?_
            refine mm_icmp_lt (tgt := 65) C (mm_dec dk_X12_decide 31 rfl) (by decide) (fun c55 => ?_) (fun c55 => ?_)
            · skip
              refine mm_fgt 0 ?_
              refine mm_fgt 1 ?_
              refine mm_fgt 2 ?_
              refine mm_fgt 3 ?_
              exact J65
            · skip
              refine mm_iload_n C (mm_dec dk_X12_decide 32 rfl) rfl ?_
              refine mm_sipush C (mm_dec dk_X12_decide 33 rfl) ⟨by decide, by decide⟩ ?_
              refine mm_icmp_le (tgt := 67) C (mm_dec dk_X12_decide 34 rfl) (by decide) (fun c62 => ?_) (fun c62 => ?_)
              · skip
                refine mm_aload_n C (mm_dec dk_X12_decide 37 rfl) rfl ?_
                refine mm_getr (t := 113) C fl_X12_150 (mm_dec dk_X12_decide 38 rfl) rfl rfl (mm_ref i24c rfl) ?_
                refine mm_iload_n C (mm_dec dk_X12_decide 39 rfl) rfl ?_
                refine mm_aload_n C (mm_dec dk_X12_decide 40 rfl) rfl ?_
                refine mm_geti C fl_X12_234 (mm_dec dk_X12_decide 41 rfl) rfl rfl (Or.inl rfl) ?_
                have g6 : 0 ≤ (h24c.1 66 41) ∧ (h24c.1 66 41) ≤ 99999 := i24c.1 66 41
                refine mm_iast C (mm_dec dk_X12_decide 42 rfl) rfl (by omega) (by omega) ?_
                have i3 : mm_inv (mm_pa h24c 113 p1 (h24c.1 66 41)) := mm_inv_pa i24c (show -2147483648 ≤ (h24c.1 66 41) ∧ (h24c.1 66 41) ≤ 2147483647 from ⟨by omega, by omega⟩)
                have f3 : mm_fr [(66, 0), (66, 91)] [113, 114, 115, 116] h (mm_pa h24c 113 p1 (h24c.1 66 41)) := mm_fr_pa f24c (by decide)
                obtain ⟨h3, eh3⟩ : ∃ z, z = mm_pa h24c 113 p1 (h24c.1 66 41) := ⟨_, rfl⟩
                rw [← eh3] at i3 f3 ⊢
                have qh3_7 : h3.1 66 41 = h24c.1 66 41 := by rw [eh3]; rfl
                have qh3_8 : h3.1 66 82 = h24c.1 66 82 := by rw [eh3]; rfl
                refine mm_aload_n C (mm_dec dk_X12_decide 43 rfl) rfl ?_
                refine mm_getr (t := 114) C fl_X12_153 (mm_dec dk_X12_decide 44 rfl) rfl rfl (mm_ref i3 rfl) ?_
                refine mm_iload_n C (mm_dec dk_X12_decide 45 rfl) rfl ?_
                refine mm_iload_n C (mm_dec dk_X12_decide 46 rfl) rfl ?_
                refine mm_iast C (mm_dec dk_X12_decide 47 rfl) rfl (by omega) (by omega) ?_
                have i4 : mm_inv (mm_pa h3 114 p1 p2) := mm_inv_pa i3 (show -2147483648 ≤ p2 ∧ p2 ≤ 2147483647 from ⟨by omega, by omega⟩)
                have f4 : mm_fr [(66, 0), (66, 91)] [113, 114, 115, 116] h (mm_pa h3 114 p1 p2) := mm_fr_pa f3 (by decide)
                obtain ⟨h4, eh4⟩ : ∃ z, z = mm_pa h3 114 p1 p2 := ⟨_, rfl⟩
                rw [← eh4] at i4 f4 ⊢
                have qh4_9 : h4.1 66 41 = h3.1 66 41 := by rw [eh4]; rfl
                have qh4_10 : h4.1 66 82 = h3.1 66 82 := by rw [eh4]; rfl
                refine mm_aload_n C (mm_dec dk_X12_decide 48 rfl) rfl ?_
                refine mm_getr (t := 115) C fl_X12_156 (mm_dec dk_X12_decide 49 rfl) rfl rfl (mm_ref i4 rfl) ?_
                refine mm_iload_n C (mm_dec dk_X12_decide 50 rfl) rfl ?_
                refine mm_iload_n C (mm_dec dk_X12_decide 51 rfl) rfl ?_
                refine mm_iast C (mm_dec dk_X12_decide 52 rfl) rfl (by omega) (by omega) ?_
                have i5 : mm_inv (mm_pa h4 115 p1 p3) := mm_inv_pa i4 (show -2147483648 ≤ p3 ∧ p3 ≤ 2147483647 from ⟨by omega, by omega⟩)
                have f5 : mm_fr [(66, 0), (66, 91)] [113, 114, 115, 116] h (mm_pa h4 115 p1 p3) := mm_fr_pa f4 (by decide)
                obtain ⟨h5, eh5⟩ : ∃ z, z = mm_pa h4 115 p1 p3 := ⟨_, rfl⟩
                rw [← eh5] at i5 f5 ⊢
                have qh5_11 : h5.1 66 41 = h4.1 66 41 := by rw [eh5]; rfl
                have qh5_12 : h5.1 66 82 = h4.1 66 82 := by rw [eh5]; rfl
                refine mm_aload_n C (mm_dec dk_X12_decide 53 rfl) rfl ?_
                refine mm_getr (t := 116) C fl_X12_159 (mm_dec dk_X12_decide 54 rfl) rfl rfl (mm_ref i5 rfl) ?_
                refine mm_iload_n C (mm_dec dk_X12_decide 55 rfl) rfl ?_
                refine mm_aload_n C (mm_dec dk_X12_decide 56 rfl) rfl ?_
                refine mm_geti C fl_X12_511 (mm_dec dk_X12_decide 57 rfl) rfl rfl (Or.inl rfl) ?_
                have g13 : -2147483648 ≤ (h5.1 66 91) ∧ (h5.1 66 91) ≤ 2147483647 := i5.1 66 91
                refine mm_iast C (mm_dec dk_X12_decide 58 rfl) rfl (by omega) (by omega) ?_
                have i6 : mm_inv (mm_pa h5 116 p1 (h5.1 66 91)) := mm_inv_pa i5 (show -2147483648 ≤ (h5.1 66 91) ∧ (h5.1 66 91) ≤ 2147483647 from ⟨by omega, by omega⟩)
                have f6 : mm_fr [(66, 0), (66, 91)] [113, 114, 115, 116] h (mm_pa h5 116 p1 (h5.1 66 91)) := mm_fr_pa f5 (by decide)
                obtain ⟨h6, eh6⟩ : ∃ z, z = mm_pa h5 116 p1 (h5.1 66 91) := ⟨_, rfl⟩
                rw [← eh6] at i6 f6 ⊢
                have qh6_14 : h6.1 66 41 = h5.1 66 41 := by rw [eh6]; rfl
                have qh6_15 : h6.1 66 82 = h5.1 66 82 := by rw [eh6]; rfl
                have qh6_16 : h6.1 66 91 = h5.1 66 91 := by rw [eh6]; rfl
                refine mm_aload_n C (mm_dec dk_X12_decide 59 rfl) rfl ?_
                refine mm_dup C (mm_dec dk_X12_decide 60 rfl) (show (2 : Nat) ≠ 1 by decide) ?_
                refine mm_geti C fl_X12_511 (mm_dec dk_X12_decide 61 rfl) rfl rfl (Or.inl rfl) ?_
                refine mm_iconst C (mm_dec dk_X12_decide 62 rfl) ⟨by decide, by decide⟩ ?_
                refine mm_iaddw C (mm_dec dk_X12_decide 63 rfl) ?_
                have g17 : -2147483648 ≤ (mm_w ((h6.1 66 91) + 1)) ∧ (mm_w ((h6.1 66 91) + 1)) < 2147483648 := mm_w_rg _
                refine mm_puti C fl_X12_511 (mm_dec dk_X12_decide 64 rfl) rfl rfl rfl (Or.inl ⟨rfl, rfl⟩) ?_
                have i7 : mm_inv (mm_pf h6 66 91 (mm_w ((h6.1 66 91) + 1))) := mm_inv_pf i6 (show -2147483648 ≤ (mm_w ((h6.1 66 91) + 1)) ∧ (mm_w ((h6.1 66 91) + 1)) ≤ 2147483647 from ⟨by omega, by omega⟩) (by decide)
                have f7 : mm_fr [(66, 0), (66, 91)] [113, 114, 115, 116] h (mm_pf h6 66 91 (mm_w ((h6.1 66 91) + 1))) := mm_fr_pf f6 (by decide)
                obtain ⟨h7, eh7⟩ : ∃ z, z = mm_pf h6 66 91 (mm_w ((h6.1 66 91) + 1)) := ⟨_, rfl⟩
                rw [← eh7] at i7 f7 ⊢
                have qh7 : h7.1 66 91 = (mm_w ((h6.1 66 91) + 1)) := by rw [eh7]; exact mm_pf_same _ _ _ _
                have qh7_18 : h7.1 66 41 = h6.1 66 41 := by rw [eh7]; exact mm_pf_ne _ _ (by decide)
                have qh7_19 : h7.1 66 82 = h6.1 66 82 := by rw [eh7]; exact mm_pf_ne _ _ (by decide)
                refine mm_iconst C (mm_dec dk_X12_decide 65 rfl) ⟨by decide, by decide⟩ ?_
                exact mm_zret C T (mm_dec dk_X12_decide 66 rfl) (by decide : 0 ≤ 0) (by decide : 0 ≤ 0) (by omega) ⟨_, rfl, ⟨⟨by omega, by omega⟩, i7, f7⟩⟩
              · skip
                refine mm_fgt 0 ?_
                refine mm_fgt 1 ?_
                refine mm_fgt 2 ?_
                refine mm_fgt 3 ?_
                exact J65
    · skip
      refine mm_iconst C (mm_dec dk_X12_decide 16 rfl) ⟨by decide, by decide⟩ ?_
      exact mm_zret C T (mm_dec dk_X12_decide 17 rfl) (by decide : 0 ≤ 0) (by decide : 0 ≤ 0) (by omega) ⟨_, rfl, ⟨⟨by omega, by omega⟩, i24c, f24c⟩⟩
  have J22 : mm_W x 0 0 22 [mR 66, mI p1, mI p2, mI p3] [mR 66] h1 := by
    refine mm_iconst C (mm_dec dk_X12_decide 12 rfl) ⟨by decide, by decide⟩ ?_
    exact J23 0 ⟨by omega, by omega⟩ (Or.inl rfl)
  refine mm_if_lt (tgt := 22) C (mm_dec dk_X12_decide 5 rfl) (by decide) (fun c7 => ?_) (fun c7 => ?_)
  · skip
    exact J22
  · skip
    refine mm_iload_n C (mm_dec dk_X12_decide 6 rfl) rfl ?_
    refine mm_aload_n C (mm_dec dk_X12_decide 7 rfl) rfl ?_
    refine mm_geti C fl_X12_231 (mm_dec dk_X12_decide 8 rfl) rfl rfl (Or.inl rfl) ?_
    refine mm_icmp_ge (tgt := 22) C (mm_dec dk_X12_decide 9 rfl) (by decide) (fun c15 => ?_) (fun c15 => ?_)
    · skip
      exact J22
    · skip
      refine mm_iconst C (mm_dec dk_X12_decide 10 rfl) ⟨by decide, by decide⟩ ?_
      refine mm_goto (tgt := 23) C (mm_dec dk_X12_decide 11 rfl) (by decide) ?_
      exact J23 1 ⟨by omega, by omega⟩ (Or.inr (⟨by omega, by omega, rfl⟩))
set_option maxRecDepth 100000 in
set_option maxHeartbeats 4000000 in
theorem c_X12_canFollow (l : Launch) (hl : l.stackTraces = false) (d : Nat) (hd : 0 ≤ d) (h : mH) (i0 : mm_inv h) (p1 : Int) (p2 : Int) : mm_Met l d yX12_canFollow cX12_canFollow 5 (some .boolean) [mR 66, mI p1, mI p2] h (mm_pi fun r h2 => (0 ≤ r ∧ r ≤ 1) ∧ h2 = h) mm_nx 0 0 := by
  refine mm_ofW (ls := [mR 66, mI p1, mI p2, mU, mU]) hl (by decide) rfl (Nat.le_of_ble_eq_true rfl) ?_
  intro x hxl C T hnm htb
  subst hxl
  refine mm_rng (fun hr _ => ?_)
  have ap1 : -2147483648 ≤ p1 ∧ p1 < 2147483648 := mm_ok_at hr (i := 1) rfl
  have ap2 : -2147483648 ≤ p2 ∧ p2 < 2147483648 := mm_ok_at hr (i := 2) rfl
  have f0 : mm_fr [] [] h h := mm_fr_rf
  refine mm_iconst C (mm_dec dk_X12_canFollow 0 rfl) ⟨by decide, by decide⟩ ?_
  refine mm_istore_nL (ls2 := [mR 66, mI p1, mI p2, mI 1, mU]) C (mm_dec dk_X12_canFollow 1 rfl) (by decide) rfl ?_
  refine mm_iconst C (mm_dec dk_X12_canFollow 2 rfl) ⟨by decide, by decide⟩ ?_
  have J5 : ∀ (n : Nat) (x5_3 : Int) (bx5_3 : 0 ≤ x5_3 ∧ x5_3 ≤ 1) (x5_4 : Int) (bx5_4 : 0 ≤ x5_4 ∧ x5_4 ≤ 10), (10 - x5_4 : Int) < n → mm_W x 0 0 5 [mR 66, mI p1, mI p2, mI x5_3, mI x5_4] [] h := by
    intro n
    induction n with
    | zero =>
      intro x5_3 bx5_3 x5_4 bx5_4 hm
      exfalso; omega
    | succ n ih5 =>
      intro x5_3 bx5_3 x5_4 bx5_4 hm5
      refine mm_iload C (mm_dec dk_X12_canFollow 4 rfl) rfl ?_
      refine mm_bipush C (mm_dec dk_X12_canFollow 5 rfl) ⟨by decide, by decide⟩ ?_
      refine mm_icmp_ge (tgt := 55) C (mm_dec dk_X12_canFollow 6 rfl) (by decide) (fun c9 => ?_) (fun c9 => ?_)
      · skip
        refine mm_iload_n C (mm_dec dk_X12_canFollow 32 rfl) rfl ?_
        exact mm_zret C T (mm_dec dk_X12_canFollow 33 rfl) (by decide : 0 ≤ 0) (by decide : 0 ≤ 0) (by omega) ⟨_, rfl, ⟨⟨by omega, by omega⟩, rfl⟩⟩
      · skip
        refine mm_iload_n C (mm_dec dk_X12_canFollow 7 rfl) rfl ?_
        have J48 : ∀ (s48_0 : Int) (bs48_0 : 0 ≤ s48_0 ∧ s48_0 ≤ 1) (vs48_0 : (s48_0 = 0) ∨ (x5_3 ≠ 0 ∧ s48_0 = 1)), mm_W x 0 0 48 [mR 66, mI p1, mI p2, mU, mI x5_4] [mI s48_0] h := by
          intro s48_0 bs48_0 vs48_0
          refine mm_istore_nL (ls2 := [mR 66, mI p1, mI p2, mI s48_0, mI x5_4]) C (mm_dec dk_X12_canFollow 29 rfl) (by decide) rfl ?_
          refine mm_iincL (ls2 := [mR 66, mI p1, mI p2, mI s48_0, mI (x5_4 + 1)]) C (mm_dec dk_X12_canFollow 30 rfl) rfl (by decide) ⟨by omega, by omega⟩ rfl ?_
          refine mm_goto (tgt := 5) C (mm_dec dk_X12_canFollow 31 rfl) (by decide) ?_
          exact ih5 s48_0 ⟨by omega, by omega⟩ (x5_4 + 1) ⟨by omega, by omega⟩ (by omega)
        have J47 : mm_W x 0 0 47 [mR 66, mI p1, mI p2, mU, mI x5_4] [] h := by
          refine mm_iconst C (mm_dec dk_X12_canFollow 28 rfl) ⟨by decide, by decide⟩ ?_
          exact J48 0 ⟨by omega, by omega⟩ (Or.inl rfl)
        refine mm_if_eq (tgt := 47) C (mm_dec dk_X12_canFollow 8 rfl) (by decide) (fun c13 => ?_) (fun c13 => ?_)
        · skip
          refine mm_fgt 3 ?_
          exact J47
        · skip
          refine mm_aload_n C (mm_dec dk_X12_canFollow 9 rfl) rfl ?_
          refine mm_getr (t := 118) C fl_X12_165 (mm_dec dk_X12_canFollow 10 rfl) rfl rfl (mm_ref i0 rfl) ?_
          refine mm_iload C (mm_dec dk_X12_canFollow 11 rfl) rfl ?_
          refine mm_iald C (mm_dec dk_X12_canFollow 12 rfl) rfl (by omega) (by omega) ?_
          have g1 : -2147483648 ≤ (h.2.1 118 x5_4) ∧ (h.2.1 118 x5_4) ≤ 2147483647 := i0.2.1 118 x5_4
          refine mm_iload C (mm_dec dk_X12_canFollow 13 rfl) rfl ?_
          refine mm_iload_n C (mm_dec dk_X12_canFollow 14 rfl) rfl ?_
          have J40 : ∀ (s40_1 : Int) (bs40_1 : -2147483648 ≤ s40_1 ∧ s40_1 ≤ 2147483647), mm_W x 0 0 40 [mR 66, mI p1, mI p2, mU, mI x5_4] [mI s40_1, mI (h.2.1 118 x5_4)] h := by
            intro s40_1 bs40_1
            refine mm_icmp_gt (tgt := 47) C (mm_dec dk_X12_canFollow 25 rfl) (by decide) (fun c40 => ?_) (fun c40 => ?_)
            · skip
              exact J47
            · skip
              refine mm_iconst C (mm_dec dk_X12_canFollow 26 rfl) ⟨by decide, by decide⟩ ?_
              refine mm_goto (tgt := 48) C (mm_dec dk_X12_canFollow 27 rfl) (by decide) ?_
              exact J48 1 ⟨by omega, by omega⟩ (Or.inr (⟨by omega, rfl⟩))
          refine mm_icmp_ne (tgt := 35) C (mm_dec dk_X12_canFollow 15 rfl) (by decide) (fun c26 => ?_) (fun c26 => ?_)
          · skip
            refine mm_iload_n C (mm_dec dk_X12_canFollow 20 rfl) rfl ?_
            refine mm_iconst C (mm_dec dk_X12_canFollow 21 rfl) ⟨by decide, by decide⟩ ?_
            refine mm_iaddw C (mm_dec dk_X12_canFollow 22 rfl) ?_
            have g2 : -2147483648 ≤ (mm_w (p2 + 1)) ∧ (mm_w (p2 + 1)) < 2147483648 := mm_w_rg _
            refine mm_iconst C (mm_dec dk_X12_canFollow 23 rfl) ⟨by decide, by decide⟩ ?_
            refine mm_idivw C (mm_dec dk_X12_canFollow 24 rfl) (by omega) ?_
            have g4 : -2147483648 ≤ (mm_w (Int.tdiv (mm_w (p2 + 1)) 2)) ∧ (mm_w (Int.tdiv (mm_w (p2 + 1)) 2)) < 2147483648 := mm_w_rg _
            refine mm_fgt 3 ?_
            exact J40 (mm_w (Int.tdiv (mm_w (p2 + 1)) 2)) ⟨by omega, by omega⟩
          · skip
            refine mm_iload_n C (mm_dec dk_X12_canFollow 16 rfl) rfl ?_
            refine mm_iconst C (mm_dec dk_X12_canFollow 17 rfl) ⟨by decide, by decide⟩ ?_
            refine mm_idivw C (mm_dec dk_X12_canFollow 18 rfl) (by omega) ?_
            have g6 : -2147483648 ≤ (mm_w (Int.tdiv p2 2)) ∧ (mm_w (Int.tdiv p2 2)) < 2147483648 := mm_w_rg _
            refine mm_goto (tgt := 40) C (mm_dec dk_X12_canFollow 19 rfl) (by decide) ?_
            refine mm_fgt 3 ?_
            exact J40 (mm_w (Int.tdiv p2 2)) ⟨by omega, by omega⟩
  refine mm_istoreL (ls2 := [mR 66, mI p1, mI p2, mI 1, mI 0]) C (mm_dec dk_X12_canFollow 3 rfl) (by decide) rfl ?_
  exact J5 (((10 - 0) : Int) + 1).toNat 1 ⟨by omega, by omega⟩ 0 ⟨by omega, by omega⟩ (by omega)
set_option maxRecDepth 100000 in
set_option maxHeartbeats 4000000 in
theorem c_X12_isNext (l : Launch) (hl : l.stackTraces = false) (d : Nat) (hd : 1 ≤ d) (h : mH) (i0 : mm_inv h) (p1 : Int) (p2 : Int) (p3 : Int) (bp1 : 0 ≤ p1 ∧ p1 ≤ 39) : mm_Met l d yX12_isNext cX12_isNext 6 (some .boolean) [mR 66, mI p1, mI p2, mI p3] h (mm_pi fun r h2 => (0 ≤ r ∧ r ≤ 1) ∧ mm_inv h2 ∧ mm_fr [] [118] h h2) mm_nx 0 0 := by
  refine mm_ofW (ls := [mR 66, mI p1, mI p2, mI p3, mU, mU]) hl (by decide) rfl (Nat.le_of_ble_eq_true rfl) ?_
  intro x hxl C T hnm htb
  subst hxl
  have C1 := mm_OK_le (d' := d - 1 + 1) (by omega) C
  refine mm_rng (fun hr _ => ?_)
  have ap1 : -2147483648 ≤ p1 ∧ p1 < 2147483648 := mm_ok_at hr (i := 1) rfl
  have ap2 : -2147483648 ≤ p2 ∧ p2 < 2147483648 := mm_ok_at hr (i := 2) rfl
  have ap3 : -2147483648 ≤ p3 ∧ p3 < 2147483648 := mm_ok_at hr (i := 3) rfl
  have f0 : mm_fr [] [118] h h := mm_fr_rf
  refine mm_aload_n C (mm_dec dk_X12_isNext 0 rfl) rfl ?_
  refine mm_getr (t := 117) C fl_X12_162 (mm_dec dk_X12_isNext 1 rfl) rfl rfl (mm_ref i0 rfl) ?_
  refine mm_iload_n C (mm_dec dk_X12_isNext 2 rfl) rfl ?_
  refine mm_iald C (mm_dec dk_X12_isNext 3 rfl) rfl (by omega) (by omega) ?_
  have g1 : 0 ≤ (h.2.1 117 p1) ∧ (h.2.1 117 p1) ≤ 39 := i0.2.1 117 p1
  refine mm_istoreL (ls2 := [mR 66, mI p1, mI p2, mI p3, mI (h.2.1 117 p1), mU]) C (mm_dec dk_X12_isNext 4 rfl) (by decide) rfl ?_
  refine mm_aload_n C (mm_dec dk_X12_isNext 5 rfl) rfl ?_
  refine mm_getr (t := 119) C fl_X12_168 (mm_dec dk_X12_isNext 6 rfl) rfl rfl (mm_ref i0 rfl) ?_
  refine mm_iload C (mm_dec dk_X12_isNext 7 rfl) rfl ?_
  refine mm_zald C (mm_dec dk_X12_isNext 8 rfl) rfl (by omega) (by omega) ?_
  have g2 : 0 ≤ (h.2.1 119 (h.2.1 117 p1)) ∧ (h.2.1 119 (h.2.1 117 p1)) ≤ 1 := i0.2.1 119 (h.2.1 117 p1)
  have J29 : mm_W x 0 0 29 [mU, mU, mU, mU, mU, mU] [] h := by
    refine mm_iconst C (mm_dec dk_X12_isNext 16 rfl) ⟨by decide, by decide⟩ ?_
    exact mm_zret C T (mm_dec dk_X12_isNext 17 rfl) (by decide : 0 ≤ 0) (by decide : 0 ≤ 0) (by omega) ⟨_, rfl, ⟨⟨by omega, by omega⟩, i0, f0⟩⟩
  refine mm_if_ne (tgt := 29) C (mm_dec dk_X12_isNext 9 rfl) (by decide) (fun c15 => ?_) (fun c15 => ?_)
  · skip
    refine mm_fgt 0 ?_
    refine mm_fgt 1 ?_
    refine mm_fgt 2 ?_
    refine mm_fgt 3 ?_
    refine mm_fgt 4 ?_
    exact J29
  · skip
    refine mm_aload_n C (mm_dec dk_X12_isNext 10 rfl) rfl ?_
    refine mm_getr (t := 86) C fl_X12_69 (mm_dec dk_X12_isNext 11 rfl) rfl rfl (mm_ref i0 rfl) ?_
    refine mm_iload C (mm_dec dk_X12_isNext 12 rfl) rfl ?_
    refine mm_iald C (mm_dec dk_X12_isNext 13 rfl) rfl (by omega) (by omega) ?_
    have g3 : 0 ≤ (h.2.1 86 (h.2.1 117 p1)) ∧ (h.2.1 86 (h.2.1 117 p1)) ≤ 9 := i0.2.1 86 (h.2.1 117 p1)
    refine mm_iload_n C (mm_dec dk_X12_isNext 14 rfl) rfl ?_
    refine mm_icmp_ne (tgt := 31) C (mm_dec dk_X12_isNext 15 rfl) (by decide) (fun c26 => ?_) (fun c26 => ?_)
    · skip
      refine mm_aload_n C (mm_dec dk_X12_isNext 18 rfl) rfl ?_
      refine mm_getr (t := 118) C fl_X12_165 (mm_dec dk_X12_isNext 19 rfl) rfl rfl (mm_ref i0 rfl) ?_
      refine mm_aload_n C (mm_dec dk_X12_isNext 20 rfl) rfl ?_
      refine mm_getr (t := 86) C fl_X12_69 (mm_dec dk_X12_isNext 21 rfl) rfl rfl (mm_ref i0 rfl) ?_
      refine mm_iload C (mm_dec dk_X12_isNext 22 rfl) rfl ?_
      refine mm_iald C (mm_dec dk_X12_isNext 23 rfl) rfl (by omega) (by omega) ?_
      refine mm_dup2 C (mm_dec dk_X12_isNext 24 rfl) (show (0 : Nat) ≠ 1 by decide) (show (2 : Nat) ≠ 1 by decide) ?_
      refine mm_iald C (mm_dec dk_X12_isNext 25 rfl) rfl (by omega) (by omega) ?_
      have g4 : -2147483648 ≤ (h.2.1 118 (h.2.1 86 (h.2.1 117 p1))) ∧ (h.2.1 118 (h.2.1 86 (h.2.1 117 p1))) ≤ 2147483647 := i0.2.1 118 (h.2.1 86 (h.2.1 117 p1))
      refine mm_iconst C (mm_dec dk_X12_isNext 26 rfl) ⟨by decide, by decide⟩ ?_
      refine mm_isubw C (mm_dec dk_X12_isNext 27 rfl) ?_
      have g5 : -2147483648 ≤ (mm_w ((h.2.1 118 (h.2.1 86 (h.2.1 117 p1))) - 1)) ∧ (mm_w ((h.2.1 118 (h.2.1 86 (h.2.1 117 p1))) - 1)) < 2147483648 := mm_w_rg _
      refine mm_iast C (mm_dec dk_X12_isNext 28 rfl) rfl (by omega) (by omega) ?_
      have i1 : mm_inv (mm_pa h 118 (h.2.1 86 (h.2.1 117 p1)) (mm_w ((h.2.1 118 (h.2.1 86 (h.2.1 117 p1))) - 1))) := mm_inv_pa i0 (show -2147483648 ≤ (mm_w ((h.2.1 118 (h.2.1 86 (h.2.1 117 p1))) - 1)) ∧ (mm_w ((h.2.1 118 (h.2.1 86 (h.2.1 117 p1))) - 1)) ≤ 2147483647 from ⟨by omega, by omega⟩)
      have f1 : mm_fr [] [118] h (mm_pa h 118 (h.2.1 86 (h.2.1 117 p1)) (mm_w ((h.2.1 118 (h.2.1 86 (h.2.1 117 p1))) - 1))) := mm_fr_pa f0 (by decide)
      obtain ⟨h1, eh1⟩ : ∃ z, z = mm_pa h 118 (h.2.1 86 (h.2.1 117 p1)) (mm_w ((h.2.1 118 (h.2.1 86 (h.2.1 117 p1))) - 1)) := ⟨_, rfl⟩
      rw [← eh1] at i1 f1 ⊢
      refine mm_aload_n C (mm_dec dk_X12_isNext 29 rfl) rfl ?_
      refine mm_aload_n C (mm_dec dk_X12_isNext 30 rfl) rfl ?_
      refine mm_getr (t := 86) C fl_X12_69 (mm_dec dk_X12_isNext 31 rfl) rfl rfl (mm_ref i1 rfl) ?_
      refine mm_iload C (mm_dec dk_X12_isNext 32 rfl) rfl ?_
      refine mm_iald C (mm_dec dk_X12_isNext 33 rfl) rfl (by omega) (by omega) ?_
      have g6 : 0 ≤ (h1.2.1 86 (h.2.1 117 p1)) ∧ (h1.2.1 86 (h.2.1 117 p1)) ≤ 9 := i1.2.1 86 (h.2.1 117 p1)
      refine mm_iload_n C (mm_dec dk_X12_isNext 34 rfl) rfl ?_
      refine mm_iconst C (mm_dec dk_X12_isNext 35 rfl) ⟨by decide, by decide⟩ ?_
      refine mm_isubw C (mm_dec dk_X12_isNext 36 rfl) ?_
      have g7 : -2147483648 ≤ (mm_w (p3 - 1)) ∧ (mm_w (p3 - 1)) < 2147483648 := mm_w_rg _
      refine mm_cVi (rest := []) C1 ev_X12_518 (mm_dec dk_X12_isNext 37 rfl) (c_X12_canFollow x.2.1 hl (d - 1) (by omega) h1 i1 (h1.2.1 86 (h.2.1 117 p1)) (mm_w (p3 - 1))) rfl rfl (Nat.le_of_ble_eq_true rfl) ⟨by decide, by decide⟩ rfl (fun r58 h58c hp58 => ?_) (fun _ _ q => q.elim)
      obtain ⟨b58, z58⟩ := hp58
      rw [z58]
      refine mm_istoreL (ls2 := [mR 66, mI p1, mI p2, mI p3, mI (h.2.1 117 p1), mI r58]) C (mm_dec dk_X12_isNext 38 rfl) (by decide) rfl ?_
      refine mm_aload_n C (mm_dec dk_X12_isNext 39 rfl) rfl ?_
      refine mm_getr (t := 118) C fl_X12_165 (mm_dec dk_X12_isNext 40 rfl) rfl rfl (mm_ref i1 rfl) ?_
      refine mm_aload_n C (mm_dec dk_X12_isNext 41 rfl) rfl ?_
      refine mm_getr (t := 86) C fl_X12_69 (mm_dec dk_X12_isNext 42 rfl) rfl rfl (mm_ref i1 rfl) ?_
      refine mm_iload C (mm_dec dk_X12_isNext 43 rfl) rfl ?_
      refine mm_iald C (mm_dec dk_X12_isNext 44 rfl) rfl (by omega) (by omega) ?_
      refine mm_dup2 C (mm_dec dk_X12_isNext 45 rfl) (show (0 : Nat) ≠ 1 by decide) (show (2 : Nat) ≠ 1 by decide) ?_
      refine mm_iald C (mm_dec dk_X12_isNext 46 rfl) rfl (by omega) (by omega) ?_
      have g9 : -2147483648 ≤ (h1.2.1 118 (h1.2.1 86 (h.2.1 117 p1))) ∧ (h1.2.1 118 (h1.2.1 86 (h.2.1 117 p1))) ≤ 2147483647 := i1.2.1 118 (h1.2.1 86 (h.2.1 117 p1))
      refine mm_iconst C (mm_dec dk_X12_isNext 47 rfl) ⟨by decide, by decide⟩ ?_
      refine mm_iaddw C (mm_dec dk_X12_isNext 48 rfl) ?_
      have g10 : -2147483648 ≤ (mm_w ((h1.2.1 118 (h1.2.1 86 (h.2.1 117 p1))) + 1)) ∧ (mm_w ((h1.2.1 118 (h1.2.1 86 (h.2.1 117 p1))) + 1)) < 2147483648 := mm_w_rg _
      refine mm_iast C (mm_dec dk_X12_isNext 49 rfl) rfl (by omega) (by omega) ?_
      have i2 : mm_inv (mm_pa h1 118 (h1.2.1 86 (h.2.1 117 p1)) (mm_w ((h1.2.1 118 (h1.2.1 86 (h.2.1 117 p1))) + 1))) := mm_inv_pa i1 (show -2147483648 ≤ (mm_w ((h1.2.1 118 (h1.2.1 86 (h.2.1 117 p1))) + 1)) ∧ (mm_w ((h1.2.1 118 (h1.2.1 86 (h.2.1 117 p1))) + 1)) ≤ 2147483647 from ⟨by omega, by omega⟩)
      have f2 : mm_fr [] [118] h (mm_pa h1 118 (h1.2.1 86 (h.2.1 117 p1)) (mm_w ((h1.2.1 118 (h1.2.1 86 (h.2.1 117 p1))) + 1))) := mm_fr_pa f1 (by decide)
      obtain ⟨h2, eh2⟩ : ∃ z, z = mm_pa h1 118 (h1.2.1 86 (h.2.1 117 p1)) (mm_w ((h1.2.1 118 (h1.2.1 86 (h.2.1 117 p1))) + 1)) := ⟨_, rfl⟩
      rw [← eh2] at i2 f2 ⊢
      refine mm_iload C (mm_dec dk_X12_isNext 50 rfl) rfl ?_
      exact mm_zret C T (mm_dec dk_X12_isNext 51 rfl) (by decide : 0 ≤ 0) (by decide : 0 ≤ 0) (by omega) ⟨_, rfl, ⟨⟨by omega, by omega⟩, i2, f2⟩⟩
    · skip
      refine mm_fgt 0 ?_
      refine mm_fgt 1 ?_
      refine mm_fgt 2 ?_
      refine mm_fgt 3 ?_
      refine mm_fgt 4 ?_
      exact J29
set_option maxRecDepth 100000 in
set_option maxHeartbeats 4000000 in
theorem c_X12_cellOf (l : Launch) (hl : l.stackTraces = false) (d : Nat) (hd : 0 ≤ d) (h : mH) (i0 : mm_inv h) (p1 : Int) (p2 : Int) (p3 : Int) (bp1 : 0 ≤ p1 ∧ p1 ≤ 7) (bp2 : 0 ≤ p2 ∧ p2 ≤ 13) (bp3 : 0 ≤ p3 ∧ p3 ≤ 12) : mm_Met l d yX12_cellOf cX12_cellOf 4 (some .int) [mR 66, mI p1, mI p2, mI p3] h (mm_pi fun r h2 => h2 = h ∧ ((p3 ≤ p2 ∧ p2 ≠ p3 ∧ r = ((20 * (h.1 66 12)) + (h.1 66 11))) ∨ (p3 ≤ p2 ∧ p2 = p3 ∧ r = ((20 * (h.1 66 10)) + (h.1 66 9))) ∨ (p2 < p3 ∧ r = (h.2.1 78 (h.2.1 82 (3 * ((12 * p1) + p2))))))) mm_nx 0 0 := by
  refine mm_ofW (ls := [mR 66, mI p1, mI p2, mI p3]) hl (by decide) rfl (Nat.le_of_ble_eq_true rfl) ?_
  intro x hxl C T hnm htb
  subst hxl
  refine mm_rng (fun hr _ => ?_)
  have ap1 : -2147483648 ≤ p1 ∧ p1 < 2147483648 := mm_ok_at hr (i := 1) rfl
  have ap2 : -2147483648 ≤ p2 ∧ p2 < 2147483648 := mm_ok_at hr (i := 2) rfl
  have ap3 : -2147483648 ≤ p3 ∧ p3 < 2147483648 := mm_ok_at hr (i := 3) rfl
  have f0 : mm_fr [] [] h h := mm_fr_rf
  refine mm_iload_n C (mm_dec dk_X12_cellOf 0 rfl) rfl ?_
  refine mm_iload_n C (mm_dec dk_X12_cellOf 1 rfl) rfl ?_
  refine mm_icmp_ge (tgt := 26) C (mm_dec dk_X12_cellOf 2 rfl) (by decide) (fun c2 => ?_) (fun c2 => ?_)
  · skip
    refine mm_iload_n C (mm_dec dk_X12_cellOf 17 rfl) rfl ?_
    refine mm_iload_n C (mm_dec dk_X12_cellOf 18 rfl) rfl ?_
    refine mm_icmp_ne (tgt := 46) C (mm_dec dk_X12_cellOf 19 rfl) (by decide) (fun c28 => ?_) (fun c28 => ?_)
    · skip
      refine mm_bipush C (mm_dec dk_X12_cellOf 28 rfl) ⟨by decide, by decide⟩ ?_
      refine mm_aload_n C (mm_dec dk_X12_cellOf 29 rfl) rfl ?_
      refine mm_geti C fl_X12_210 (mm_dec dk_X12_cellOf 30 rfl) rfl rfl (Or.inl rfl) ?_
      have g1 : 0 ≤ (h.1 66 12) ∧ (h.1 66 12) ≤ 19 := i0.1 66 12
      refine mm_imul C (mm_dec dk_X12_cellOf 31 rfl) ⟨by omega, by omega⟩ ?_
      refine mm_aload_n C (mm_dec dk_X12_cellOf 32 rfl) rfl ?_
      refine mm_geti C fl_X12_207 (mm_dec dk_X12_cellOf 33 rfl) rfl rfl (Or.inl rfl) ?_
      have g2 : 0 ≤ (h.1 66 11) ∧ (h.1 66 11) ≤ 19 := i0.1 66 11
      refine mm_iadd C (mm_dec dk_X12_cellOf 34 rfl) ⟨by omega, by omega⟩ ?_
      exact mm_iret C T (mm_dec dk_X12_cellOf 35 rfl) (by decide : 0 ≤ 0) (by decide : 0 ≤ 0) ⟨_, rfl, ⟨rfl, Or.inl ⟨by omega, by omega, rfl⟩⟩⟩
    · skip
      refine mm_bipush C (mm_dec dk_X12_cellOf 20 rfl) ⟨by decide, by decide⟩ ?_
      refine mm_aload_n C (mm_dec dk_X12_cellOf 21 rfl) rfl ?_
      refine mm_geti C fl_X12_204 (mm_dec dk_X12_cellOf 22 rfl) rfl rfl (Or.inl rfl) ?_
      have g3 : 0 ≤ (h.1 66 10) ∧ (h.1 66 10) ≤ 19 := i0.1 66 10
      refine mm_imul C (mm_dec dk_X12_cellOf 23 rfl) ⟨by omega, by omega⟩ ?_
      refine mm_aload_n C (mm_dec dk_X12_cellOf 24 rfl) rfl ?_
      refine mm_geti C fl_X12_201 (mm_dec dk_X12_cellOf 25 rfl) rfl rfl (Or.inl rfl) ?_
      have g4 : 0 ≤ (h.1 66 9) ∧ (h.1 66 9) ≤ 19 := i0.1 66 9
      refine mm_iadd C (mm_dec dk_X12_cellOf 26 rfl) ⟨by omega, by omega⟩ ?_
      refine mm_goto (tgt := 58) C (mm_dec dk_X12_cellOf 27 rfl) (by decide) ?_
      exact mm_iret C T (mm_dec dk_X12_cellOf 35 rfl) (by decide : 0 ≤ 0) (by decide : 0 ≤ 0) ⟨_, rfl, ⟨rfl, Or.inr (Or.inl ⟨by omega, by omega, rfl⟩)⟩⟩
  · skip
    refine mm_aload_n C (mm_dec dk_X12_cellOf 3 rfl) rfl ?_
    refine mm_getr (t := 78) C fl_X12_45 (mm_dec dk_X12_cellOf 4 rfl) rfl rfl (mm_ref i0 rfl) ?_
    refine mm_aload_n C (mm_dec dk_X12_cellOf 5 rfl) rfl ?_
    refine mm_getr (t := 82) C fl_X12_57 (mm_dec dk_X12_cellOf 6 rfl) rfl rfl (mm_ref i0 rfl) ?_
    refine mm_iconst C (mm_dec dk_X12_cellOf 7 rfl) ⟨by decide, by decide⟩ ?_
    refine mm_bipush C (mm_dec dk_X12_cellOf 8 rfl) ⟨by decide, by decide⟩ ?_
    refine mm_iload_n C (mm_dec dk_X12_cellOf 9 rfl) rfl ?_
    refine mm_imul C (mm_dec dk_X12_cellOf 10 rfl) ⟨by omega, by omega⟩ ?_
    refine mm_iload_n C (mm_dec dk_X12_cellOf 11 rfl) rfl ?_
    refine mm_iadd C (mm_dec dk_X12_cellOf 12 rfl) ⟨by omega, by omega⟩ ?_
    refine mm_imul C (mm_dec dk_X12_cellOf 13 rfl) ⟨by omega, by omega⟩ ?_
    refine mm_iald C (mm_dec dk_X12_cellOf 14 rfl) rfl (by omega) (by omega) ?_
    have g5 : 0 ≤ (h.2.1 82 (3 * ((12 * p1) + p2))) ∧ (h.2.1 82 (3 * ((12 * p1) + p2))) ≤ 19 := i0.2.1 82 (3 * ((12 * p1) + p2))
    refine mm_iald C (mm_dec dk_X12_cellOf 15 rfl) rfl (by omega) (by omega) ?_
    have g6 : 0 ≤ (h.2.1 78 (h.2.1 82 (3 * ((12 * p1) + p2)))) ∧ (h.2.1 78 (h.2.1 82 (3 * ((12 * p1) + p2)))) ≤ 399 := i0.2.1 78 (h.2.1 82 (3 * ((12 * p1) + p2)))
    refine mm_goto (tgt := 58) C (mm_dec dk_X12_cellOf 16 rfl) (by decide) ?_
    exact mm_iret C T (mm_dec dk_X12_cellOf 35 rfl) (by decide : 0 ≤ 0) (by decide : 0 ≤ 0) ⟨_, rfl, ⟨rfl, Or.inr (Or.inr (⟨by omega, rfl⟩))⟩⟩
set_option maxRecDepth 100000 in
set_option maxHeartbeats 4000000 in
theorem c_X12_comesTo (l : Launch) (hl : l.stackTraces = false) (d : Nat) (hd : 0 ≤ d) (h : mH) (i0 : mm_inv h) (p1 : Int) (p2 : Int) (p3 : Int) (bp1 : 0 ≤ p1 ∧ p1 ≤ 4095) (bp2 : 0 ≤ p2 ∧ p2 ≤ 11) (bp3 : 0 ≤ p3 ∧ p3 ≤ 12) : mm_Met l d yX12_comesTo cX12_comesTo 7 (some .int) [mR 66, mI p1, mI p2, mI p3] h (mm_pi fun r h2 => (-2147483648 ≤ r ∧ r ≤ 2147483647) ∧ h2 = h) mm_nx 0 0 := by
  refine mm_ofW (ls := [mR 66, mI p1, mI p2, mI p3, mU, mU, mU]) hl (by decide) rfl (Nat.le_of_ble_eq_true rfl) ?_
  intro x hxl C T hnm htb
  subst hxl
  refine mm_rng (fun hr _ => ?_)
  have ap1 : -2147483648 ≤ p1 ∧ p1 < 2147483648 := mm_ok_at hr (i := 1) rfl
  have ap2 : -2147483648 ≤ p2 ∧ p2 < 2147483648 := mm_ok_at hr (i := 2) rfl
  have ap3 : -2147483648 ≤ p3 ∧ p3 < 2147483648 := mm_ok_at hr (i := 3) rfl
  have f0 : mm_fr [] [] h h := mm_fr_rf
  refine mm_iload_n C (mm_dec dk_X12_comesTo 0 rfl) rfl ?_
  refine mm_if_ne (tgt := 16) C (mm_dec dk_X12_comesTo 1 rfl) (by decide) (fun c1 => ?_) (fun c1 => ?_)
  · skip
    refine mm_ldcw (z := 1000000000) C (mm_dec dk_X12_comesTo 11 rfl) kc_X12_258 (by decide) ?_
    refine mm_istoreL (ls2 := [mR 66, mI p1, mI p2, mI p3, mI 1000000000, mU, mU]) C (mm_dec dk_X12_comesTo 12 rfl) (by decide) rfl ?_
    refine mm_iconst C (mm_dec dk_X12_comesTo 13 rfl) ⟨by decide, by decide⟩ ?_
    have J24 : ∀ (n : Nat) (x24_4 : Int) (bx24_4 : -2147483648 ≤ x24_4 ∧ x24_4 ≤ 1000000000) (x24_5 : Int) (bx24_5 : 0 ≤ x24_5 ∧ x24_5 ≤ 12), (12 - x24_5 : Int) < n → mm_W x 0 0 24 [mR 66, mI p1, mI p2, mI p3, mI x24_4, mI x24_5, mU] [] h := by
      intro n
      induction n with
      | zero =>
        intro x24_4 bx24_4 x24_5 bx24_5 hm
        exfalso; omega
      | succ n ih24 =>
        intro x24_4 bx24_4 x24_5 bx24_5 hm24
        refine mm_iload C (mm_dec dk_X12_comesTo 15 rfl) rfl ?_
        refine mm_iload_n C (mm_dec dk_X12_comesTo 16 rfl) rfl ?_
        refine mm_icmp_ge (tgt := 91) C (mm_dec dk_X12_comesTo 17 rfl) (by decide) (fun c27 => ?_) (fun c27 => ?_)
        · skip
          refine mm_iload C (mm_dec dk_X12_comesTo 52 rfl) rfl ?_
          exact mm_iret C T (mm_dec dk_X12_comesTo 53 rfl) (by decide : 0 ≤ 0) (by decide : 0 ≤ 0) ⟨_, rfl, ⟨⟨by omega, by omega⟩, rfl⟩⟩
        · skip
          refine mm_iload_n C (mm_dec dk_X12_comesTo 18 rfl) rfl ?_
          refine mm_iload C (mm_dec dk_X12_comesTo 19 rfl) rfl ?_
          refine mm_ishr C (mm_dec dk_X12_comesTo 20 rfl) ?_
          have g1 : -2147483648 ≤ (mm_vishr p1 x24_5) ∧ (mm_vishr p1 x24_5) < 2147483648 := fb_rng _
          refine mm_iconst C (mm_dec dk_X12_comesTo 21 rfl) ⟨by decide, by decide⟩ ?_
          refine mm_iand C (mm_dec dk_X12_comesTo 22 rfl) ?_
          have g3 : 0 ≤ (mm_viand (mm_vishr p1 x24_5) 1) ∧ (mm_viand (mm_vishr p1 x24_5) 1) ≤ 1 := mm_and_rg2 (by omega) (by omega)
          have J85 : ∀ (x85_4 : Int) (bx85_4 : -2147483648 ≤ x85_4 ∧ x85_4 ≤ 1000000000), mm_W x 0 0 85 [mR 66, mI p1, mI p2, mI p3, mI x85_4, mI x24_5, mU] [] h := by
            intro x85_4 bx85_4
            refine mm_iincL (ls2 := [mR 66, mI p1, mI p2, mI p3, mI x85_4, mI (x24_5 + 1), mU]) C (mm_dec dk_X12_comesTo 50 rfl) rfl (by decide) ⟨by omega, by omega⟩ rfl ?_
            refine mm_goto (tgt := 24) C (mm_dec dk_X12_comesTo 51 rfl) (by decide) ?_
            exact ih24 x85_4 ⟨by omega, by omega⟩ (x24_5 + 1) ⟨by omega, by omega⟩ (by omega)
          refine mm_if_ne (tgt := 42) C (mm_dec dk_X12_comesTo 23 rfl) (by decide) (fun c36 => ?_) (fun c36 => ?_)
          · skip
            refine mm_aload_n C (mm_dec dk_X12_comesTo 25 rfl) rfl ?_
            refine mm_getr (t := 121) C fl_X12_175 (mm_dec dk_X12_comesTo 26 rfl) rfl rfl (mm_ref i0 rfl) ?_
            refine mm_bipush C (mm_dec dk_X12_comesTo 27 rfl) ⟨by decide, by decide⟩ ?_
            refine mm_iload_n C (mm_dec dk_X12_comesTo 28 rfl) rfl ?_
            refine mm_imul C (mm_dec dk_X12_comesTo 29 rfl) ⟨by omega, by omega⟩ ?_
            refine mm_iload C (mm_dec dk_X12_comesTo 30 rfl) rfl ?_
            refine mm_iadd C (mm_dec dk_X12_comesTo 31 rfl) ⟨by omega, by omega⟩ ?_
            refine mm_iald C (mm_dec dk_X12_comesTo 32 rfl) rfl (by omega) (by omega) ?_
            have g4 : -2147483648 ≤ (h.2.1 121 ((12 * p1) + x24_5)) ∧ (h.2.1 121 ((12 * p1) + x24_5)) ≤ 2147483647 := i0.2.1 121 ((12 * p1) + x24_5)
            refine mm_aload_n C (mm_dec dk_X12_comesTo 33 rfl) rfl ?_
            refine mm_getr (t := 120) C fl_X12_171 (mm_dec dk_X12_comesTo 34 rfl) rfl rfl (mm_ref i0 rfl) ?_
            refine mm_bipush C (mm_dec dk_X12_comesTo 35 rfl) ⟨by decide, by decide⟩ ?_
            refine mm_iload C (mm_dec dk_X12_comesTo 36 rfl) rfl ?_
            refine mm_imul C (mm_dec dk_X12_comesTo 37 rfl) ⟨by omega, by omega⟩ ?_
            refine mm_iload_n C (mm_dec dk_X12_comesTo 38 rfl) rfl ?_
            refine mm_iadd C (mm_dec dk_X12_comesTo 39 rfl) ⟨by omega, by omega⟩ ?_
            refine mm_iald C (mm_dec dk_X12_comesTo 40 rfl) rfl (by omega) (by omega) ?_
            have g5 : -2147483648 ≤ (h.2.1 120 ((14 * x24_5) + p2)) ∧ (h.2.1 120 ((14 * x24_5) + p2)) ≤ 2147483647 := i0.2.1 120 ((14 * x24_5) + p2)
            refine mm_iaddw C (mm_dec dk_X12_comesTo 41 rfl) ?_
            have g6 : -2147483648 ≤ (mm_w ((h.2.1 121 ((12 * p1) + x24_5)) + (h.2.1 120 ((14 * x24_5) + p2)))) ∧ (mm_w ((h.2.1 121 ((12 * p1) + x24_5)) + (h.2.1 120 ((14 * x24_5) + p2)))) < 2147483648 := mm_w_rg _
            refine mm_istoreL (ls2 := [mR 66, mI p1, mI p2, mI p3, mI x24_4, mI x24_5, mI (mm_w ((h.2.1 121 ((12 * p1) + x24_5)) + (h.2.1 120 ((14 * x24_5) + p2))))]) C (mm_dec dk_X12_comesTo 42 rfl) (by decide) rfl ?_
            refine mm_iload C (mm_dec dk_X12_comesTo 43 rfl) rfl ?_
            refine mm_iload C (mm_dec dk_X12_comesTo 44 rfl) rfl ?_
            have J83 : ∀ (s83_0 : Int) (bs83_0 : -2147483648 ≤ s83_0 ∧ s83_0 ≤ 1000000000), mm_W x 0 0 83 [mR 66, mI p1, mI p2, mI p3, mU, mI x24_5, mU] [mI s83_0] h := by
              intro s83_0 bs83_0
              refine mm_istoreL (ls2 := [mR 66, mI p1, mI p2, mI p3, mI s83_0, mI x24_5, mU]) C (mm_dec dk_X12_comesTo 49 rfl) (by decide) rfl ?_
              exact J85 s83_0 ⟨by omega, by omega⟩
            refine mm_icmp_ge (tgt := 81) C (mm_dec dk_X12_comesTo 45 rfl) (by decide) (fun c73 => ?_) (fun c73 => ?_)
            · skip
              refine mm_iload C (mm_dec dk_X12_comesTo 48 rfl) rfl ?_
              refine mm_fgt 4 ?_
              refine mm_fgt 6 ?_
              exact J83 x24_4 ⟨by omega, by omega⟩
            · skip
              refine mm_iload C (mm_dec dk_X12_comesTo 46 rfl) rfl ?_
              refine mm_goto (tgt := 83) C (mm_dec dk_X12_comesTo 47 rfl) (by decide) ?_
              refine mm_fgt 4 ?_
              refine mm_fgt 6 ?_
              exact J83 (mm_w ((h.2.1 121 ((12 * p1) + x24_5)) + (h.2.1 120 ((14 * x24_5) + p2)))) ⟨by omega, by omega⟩
          · skip
            refine mm_goto (tgt := 85) C (mm_dec dk_X12_comesTo 24 rfl) (by decide) ?_
            exact J85 x24_4 ⟨by omega, by omega⟩
    refine mm_istoreL (ls2 := [mR 66, mI p1, mI p2, mI p3, mI 1000000000, mI 0, mU]) C (mm_dec dk_X12_comesTo 14 rfl) (by decide) rfl ?_
    exact J24 (((12 - 0) : Int) + 1).toNat 1000000000 ⟨by omega, by omega⟩ 0 ⟨by omega, by omega⟩ (by omega)
  · skip
    refine mm_aload_n C (mm_dec dk_X12_comesTo 2 rfl) rfl ?_
    refine mm_getr (t := 120) C fl_X12_171 (mm_dec dk_X12_comesTo 3 rfl) rfl rfl (mm_ref i0 rfl) ?_
    refine mm_bipush C (mm_dec dk_X12_comesTo 4 rfl) ⟨by decide, by decide⟩ ?_
    refine mm_iload_n C (mm_dec dk_X12_comesTo 5 rfl) rfl ?_
    refine mm_imul C (mm_dec dk_X12_comesTo 6 rfl) ⟨by omega, by omega⟩ ?_
    refine mm_iload_n C (mm_dec dk_X12_comesTo 7 rfl) rfl ?_
    refine mm_iadd C (mm_dec dk_X12_comesTo 8 rfl) ⟨by omega, by omega⟩ ?_
    refine mm_iald C (mm_dec dk_X12_comesTo 9 rfl) rfl (by omega) (by omega) ?_
    have g7 : -2147483648 ≤ (h.2.1 120 ((14 * p3) + p2)) ∧ (h.2.1 120 ((14 * p3) + p2)) ≤ 2147483647 := i0.2.1 120 ((14 * p3) + p2)
    exact mm_iret C T (mm_dec dk_X12_comesTo 10 rfl) (by decide : 0 ≤ 0) (by decide : 0 ≤ 0) ⟨_, rfl, ⟨⟨by omega, by omega⟩, rfl⟩⟩
set_option maxRecDepth 100000 in
set_option maxHeartbeats 4000000 in
theorem c_X12_bestOf (l : Launch) (hl : l.stackTraces = false) (d : Nat) (hd : 1 ≤ d) (h : mH) (i0 : mm_inv h) (p1 : Int) : mm_Met l d yX12_bestOf cX12_bestOf 2 (some .int) [mR 66, mI p1] h (mm_pi fun r h2 => (-2147483648 ≤ r ∧ r ≤ 2147483647) ∧ mm_inv h2 ∧ mm_fr [(66, 0)] [] h h2) mm_nx 0 0 := by
  refine mm_ofW (ls := [mR 66, mI p1]) hl (by decide) rfl (Nat.le_of_ble_eq_true rfl) ?_
  intro x hxl C T hnm htb
  subst hxl
  have C1 := mm_OK_le (d' := d - 1 + 1) (by omega) C
  refine mm_rng (fun hr _ => ?_)
  have ap1 : -2147483648 ≤ p1 ∧ p1 < 2147483648 := mm_ok_at hr (i := 1) rfl
  have f0 : mm_fr [(66, 0)] [] h h := mm_fr_rf
  refine mm_aload_n C (mm_dec dk_X12_bestOf 0 rfl) rfl ?_
  refine mm_iconst C (mm_dec dk_X12_bestOf 1 rfl) ⟨by decide, by decide⟩ ?_
  refine mm_puti C fl_X12_188 (mm_dec dk_X12_bestOf 2 rfl) rfl rfl rfl (Or.inl ⟨rfl, rfl⟩) ?_
  have i1 : mm_inv (mm_pf h 66 0 0) := mm_inv_pf i0 (show -2147483648 ≤ 0 ∧ 0 ≤ 2147483647 from ⟨by omega, by omega⟩) (by decide)
  have f1 : mm_fr [(66, 0)] [] h (mm_pf h 66 0 0) := mm_fr_pf f0 (by decide)
  obtain ⟨h1, eh1⟩ : ∃ z, z = mm_pf h 66 0 0 := ⟨_, rfl⟩
  rw [← eh1] at i1 f1 ⊢
  have qh1 : h1.1 66 0 = 0 := by rw [eh1]; exact mm_pf_same _ _ _ _
  refine mm_aload_n C (mm_dec dk_X12_bestOf 3 rfl) rfl ?_
  refine mm_aload_n C (mm_dec dk_X12_bestOf 4 rfl) rfl ?_
  refine mm_geti C fl_X12_244 (mm_dec dk_X12_bestOf 5 rfl) rfl rfl (Or.inr rfl) ?_
  have g1 : 0 ≤ (h1.1 66 95) ∧ (h1.1 66 95) ≤ 1 := i1.1 66 95
  have J27 : ∀ (s27_1 : Int) (bs27_1 : 0 ≤ s27_1 ∧ s27_1 ≤ 1) (vs27_1 : (s27_1 = 0) ∨ ((h1.1 66 95) ≠ 0 ∧ s27_1 = 1)), mm_W x 0 0 27 [mR 66, mI p1] [mI s27_1, mR 66] h1 := by
    intro s27_1 bs27_1 vs27_1
    refine mm_iconst C (mm_dec dk_X12_bestOf 15 rfl) ⟨by decide, by decide⟩ ?_
    refine mm_cVi (rest := []) C1 ev_X12_251 (mm_dec dk_X12_bestOf 16 rfl) (c_X12_right x.2.1 hl (d - 1) (by omega) h1 i1 s27_1 1 ⟨by omega, by omega⟩ (by omega)) rfl rfl (Nat.le_of_ble_eq_true rfl) ⟨by decide, by decide⟩ rfl (fun r28 h28c hp28 => ?_) (fun _ _ q => q.elim)
    obtain ⟨b28, i28c, g28c, y28_0⟩ := hp28
    have f28c : mm_fr [(66, 0)] [] h h28c := mm_fr_tr f1 g28c (by decide +kernel)
    have q28c_3 : h28c.1 66 95 = h1.1 66 95 := g28c.1 66 95 (by decide)
    refine mm_if_ne (tgt := 36) C (mm_dec dk_X12_bestOf 17 rfl) (by decide) (fun c31 => ?_) (fun c31 => ?_)
    · skip
      refine mm_iload_n C (mm_dec dk_X12_bestOf 20 rfl) rfl ?_
      have J51 : ∀ (s51_0 : Int) (bs51_0 : -2147483648 ≤ s51_0 ∧ s51_0 ≤ 2147483647), mm_W x 0 0 51 [mU, mU] [mI s51_0] h28c := by
        intro s51_0 bs51_0
        exact mm_iret C T (mm_dec dk_X12_bestOf 27 rfl) (by decide : 0 ≤ 0) (by decide : 0 ≤ 0) ⟨_, rfl, ⟨⟨by omega, by omega⟩, i28c, f28c⟩⟩
      refine mm_if_ne (tgt := 47) C (mm_dec dk_X12_bestOf 21 rfl) (by decide) (fun c37 => ?_) (fun c37 => ?_)
      · skip
        refine mm_aload_n C (mm_dec dk_X12_bestOf 25 rfl) rfl ?_
        refine mm_geti C fl_X12_536 (mm_dec dk_X12_bestOf 26 rfl) rfl rfl (Or.inl rfl) ?_
        have g4 : -2147483648 ≤ (h28c.1 66 97) ∧ (h28c.1 66 97) ≤ 2147483647 := i28c.1 66 97
        refine mm_fgt 0 ?_
        refine mm_fgt 1 ?_
        exact J51 (h28c.1 66 97) ⟨by omega, by omega⟩
      · skip
        refine mm_aload_n C (mm_dec dk_X12_bestOf 22 rfl) rfl ?_
        refine mm_geti C fl_X12_533 (mm_dec dk_X12_bestOf 23 rfl) rfl rfl (Or.inl rfl) ?_
        have g5 : -2147483648 ≤ (h28c.1 66 96) ∧ (h28c.1 66 96) ≤ 2147483647 := i28c.1 66 96
        refine mm_goto (tgt := 51) C (mm_dec dk_X12_bestOf 24 rfl) (by decide) ?_
        refine mm_fgt 0 ?_
        refine mm_fgt 1 ?_
        exact J51 (h28c.1 66 96) ⟨by omega, by omega⟩
    · skip
      refine mm_iconst C (mm_dec dk_X12_bestOf 18 rfl) ⟨by decide, by decide⟩ ?_
      exact mm_iret C T (mm_dec dk_X12_bestOf 19 rfl) (by decide : 0 ≤ 0) (by decide : 0 ≤ 0) ⟨_, rfl, ⟨⟨by omega, by omega⟩, i28c, f28c⟩⟩
  have J26 : mm_W x 0 0 26 [mR 66, mI p1] [mR 66] h1 := by
    refine mm_iconst C (mm_dec dk_X12_bestOf 14 rfl) ⟨by decide, by decide⟩ ?_
    exact J27 0 ⟨by omega, by omega⟩ (Or.inl rfl)
  refine mm_if_eq (tgt := 26) C (mm_dec dk_X12_bestOf 6 rfl) (by decide) (fun c10 => ?_) (fun c10 => ?_)
  · skip
    exact J26
  · skip
    refine mm_iload_n C (mm_dec dk_X12_bestOf 7 rfl) rfl ?_
    have J22 : mm_W x 0 0 22 [mR 66, mI p1] [mR 66] h1 := by
      refine mm_iconst C (mm_dec dk_X12_bestOf 12 rfl) ⟨by decide, by decide⟩ ?_
      refine mm_goto (tgt := 27) C (mm_dec dk_X12_bestOf 13 rfl) (by decide) ?_
      exact J27 1 ⟨by omega, by omega⟩ (Or.inr (⟨by omega, rfl⟩))
    refine mm_if_eq (tgt := 22) C (mm_dec dk_X12_bestOf 8 rfl) (by decide) (fun c14 => ?_) (fun c14 => ?_)
    · skip
      exact J22
    · skip
      refine mm_iload_n C (mm_dec dk_X12_bestOf 9 rfl) rfl ?_
      refine mm_iconst C (mm_dec dk_X12_bestOf 10 rfl) ⟨by decide, by decide⟩ ?_
      refine mm_icmp_ne (tgt := 26) C (mm_dec dk_X12_bestOf 11 rfl) (by decide) (fun c19 => ?_) (fun c19 => ?_)
      · skip
        exact J26
      · skip
        exact J22
set_option maxRecDepth 100000 in
set_option maxHeartbeats 4000000 in
theorem c_X12_comesBy (l : Launch) (hl : l.stackTraces = false) (d : Nat) (hd : 0 ≤ d) (h : mH) (i0 : mm_inv h) (p1 : Int) (p2 : Int) (bp1 : 0 ≤ p1 ∧ p1 ≤ 12) : mm_Met l d yX12_comesBy cX12_comesBy 4 (some .int) [mR 66, mI p1, mI p2] h (mm_pi fun r h2 => (0 ≤ r ∧ r ≤ 12) ∧ h2 = h) mm_nx 0 0 := by
  refine mm_ofW (ls := [mR 66, mI p1, mI p2, mU]) hl (by decide) rfl (Nat.le_of_ble_eq_true rfl) ?_
  intro x hxl C T hnm htb
  subst hxl
  refine mm_rng (fun hr _ => ?_)
  have ap1 : -2147483648 ≤ p1 ∧ p1 < 2147483648 := mm_ok_at hr (i := 1) rfl
  have ap2 : -2147483648 ≤ p2 ∧ p2 < 2147483648 := mm_ok_at hr (i := 2) rfl
  have f0 : mm_fr [] [] h h := mm_fr_rf
  refine mm_iload_n C (mm_dec dk_X12_comesBy 0 rfl) rfl ?_
  have J2 : ∀ (n : Nat) (x2_3 : Int) (bx2_3 : 0 ≤ x2_3 ∧ x2_3 ≤ 12), (12 - x2_3 : Int) < n → mm_W x 0 0 2 [mR 66, mU, mI p2, mI x2_3] [] h := by
    intro n
    induction n with
    | zero =>
      intro x2_3 bx2_3 hm
      exfalso; omega
    | succ n ih2 =>
      intro x2_3 bx2_3 hm2
      refine mm_iload_n C (mm_dec dk_X12_comesBy 2 rfl) rfl ?_
      refine mm_aload_n C (mm_dec dk_X12_comesBy 3 rfl) rfl ?_
      refine mm_geti C fl_X12_296 (mm_dec dk_X12_comesBy 4 rfl) rfl rfl (Or.inl rfl) ?_
      have g1 : 0 ≤ (h.1 66 39) ∧ (h.1 66 39) ≤ 12 := i0.1 66 39
      have J31 : mm_W x 0 0 31 [mU, mU, mU, mI x2_3] [] h := by
        refine mm_iload_n C (mm_dec dk_X12_comesBy 17 rfl) rfl ?_
        exact mm_iret C T (mm_dec dk_X12_comesBy 18 rfl) (by decide : 0 ≤ 0) (by decide : 0 ≤ 0) ⟨_, rfl, ⟨⟨by omega, by omega⟩, rfl⟩⟩
      refine mm_icmp_ge (tgt := 31) C (mm_dec dk_X12_comesBy 5 rfl) (by decide) (fun c7 => ?_) (fun c7 => ?_)
      · skip
        refine mm_fgt 0 ?_
        refine mm_fgt 2 ?_
        exact J31
      · skip
        refine mm_aload_n C (mm_dec dk_X12_comesBy 6 rfl) rfl ?_
        refine mm_getr (t := 78) C fl_X12_45 (mm_dec dk_X12_comesBy 7 rfl) rfl rfl (mm_ref i0 rfl) ?_
        refine mm_aload_n C (mm_dec dk_X12_comesBy 8 rfl) rfl ?_
        refine mm_getr (t := 91) C fl_X12_84 (mm_dec dk_X12_comesBy 9 rfl) rfl rfl (mm_ref i0 rfl) ?_
        refine mm_iload_n C (mm_dec dk_X12_comesBy 10 rfl) rfl ?_
        refine mm_iald C (mm_dec dk_X12_comesBy 11 rfl) rfl (by omega) (by omega) ?_
        have g2 : 0 ≤ (h.2.1 91 x2_3) ∧ (h.2.1 91 x2_3) ≤ 19 := i0.2.1 91 x2_3
        refine mm_iald C (mm_dec dk_X12_comesBy 12 rfl) rfl (by omega) (by omega) ?_
        have g3 : 0 ≤ (h.2.1 78 (h.2.1 91 x2_3)) ∧ (h.2.1 78 (h.2.1 91 x2_3)) ≤ 399 := i0.2.1 78 (h.2.1 91 x2_3)
        refine mm_iload_n C (mm_dec dk_X12_comesBy 13 rfl) rfl ?_
        refine mm_icmp_ne (tgt := 31) C (mm_dec dk_X12_comesBy 14 rfl) (by decide) (fun c22 => ?_) (fun c22 => ?_)
        · skip
          refine mm_fgt 0 ?_
          refine mm_fgt 2 ?_
          exact J31
        · skip
          refine mm_iincL (ls2 := [mR 66, mU, mI p2, mI (x2_3 + 1)]) C (mm_dec dk_X12_comesBy 15 rfl) rfl (by decide) ⟨by omega, by omega⟩ rfl ?_
          refine mm_goto (tgt := 2) C (mm_dec dk_X12_comesBy 16 rfl) (by decide) ?_
          exact ih2 (x2_3 + 1) ⟨by omega, by omega⟩ (by omega)
  refine mm_istore_nL (ls2 := [mR 66, mI p1, mI p2, mI p1]) C (mm_dec dk_X12_comesBy 1 rfl) (by decide) rfl ?_
  refine mm_fgt 1 ?_
  exact J2 (((12 - p1) : Int) + 1).toNat p1 ⟨by omega, by omega⟩ (by omega)
set_option maxRecDepth 100000 in
set_option maxHeartbeats 4000000 in
theorem c_X12_count (l : Launch) (hl : l.stackTraces = false) (d : Nat) (hd : 1 ≤ d) (h : mH) (i0 : mm_inv h) (p1 : Int) : mm_Met l d yX12_count cX12_count 2 (some .int) [mR 66, mI p1] h (mm_pi fun r h2 => (-2147483648 ≤ r ∧ r ≤ 2147483647) ∧ mm_inv h2 ∧ mm_fr [(66, 0)] [] h h2) mm_nx 0 0 := by
  refine mm_ofW (ls := [mR 66, mI p1]) hl (by decide) rfl (Nat.le_of_ble_eq_true rfl) ?_
  intro x hxl C T hnm htb
  subst hxl
  have C1 := mm_OK_le (d' := d - 1 + 1) (by omega) C
  refine mm_rng (fun hr _ => ?_)
  have ap1 : -2147483648 ≤ p1 ∧ p1 < 2147483648 := mm_ok_at hr (i := 1) rfl
  have f0 : mm_fr [(66, 0)] [] h h := mm_fr_rf
  refine mm_aload_n C (mm_dec dk_X12_count 0 rfl) rfl ?_
  refine mm_iconst C (mm_dec dk_X12_count 1 rfl) ⟨by decide, by decide⟩ ?_
  refine mm_puti C fl_X12_188 (mm_dec dk_X12_count 2 rfl) rfl rfl rfl (Or.inl ⟨rfl, rfl⟩) ?_
  have i1 : mm_inv (mm_pf h 66 0 0) := mm_inv_pf i0 (show -2147483648 ≤ 0 ∧ 0 ≤ 2147483647 from ⟨by omega, by omega⟩) (by decide)
  have f1 : mm_fr [(66, 0)] [] h (mm_pf h 66 0 0) := mm_fr_pf f0 (by decide)
  obtain ⟨h1, eh1⟩ : ∃ z, z = mm_pf h 66 0 0 := ⟨_, rfl⟩
  rw [← eh1] at i1 f1 ⊢
  have qh1 : h1.1 66 0 = 0 := by rw [eh1]; exact mm_pf_same _ _ _ _
  refine mm_aload_n C (mm_dec dk_X12_count 3 rfl) rfl ?_
  refine mm_iload_n C (mm_dec dk_X12_count 4 rfl) rfl ?_
  have J21 : ∀ (s21_1 : Int) (bs21_1 : 0 ≤ s21_1 ∧ s21_1 ≤ 1) (vs21_1 : (s21_1 = 0) ∨ (0 ≤ p1 ∧ p1 ≤ 10 ∧ s21_1 = 1)), mm_W x 0 0 21 [mR 66, mI p1] [mI s21_1, mR 66] h1 := by
    intro s21_1 bs21_1 vs21_1
    refine mm_iconst C (mm_dec dk_X12_count 12 rfl) ⟨by decide, by decide⟩ ?_
    refine mm_cVi (rest := []) C1 ev_X12_251 (mm_dec dk_X12_count 13 rfl) (c_X12_right x.2.1 hl (d - 1) (by omega) h1 i1 s21_1 1 ⟨by omega, by omega⟩ (by omega)) rfl rfl (Nat.le_of_ble_eq_true rfl) ⟨by decide, by decide⟩ rfl (fun r22 h22c hp22 => ?_) (fun _ _ q => q.elim)
    obtain ⟨b22, i22c, g22c, y22_0⟩ := hp22
    have f22c : mm_fr [(66, 0)] [] h h22c := mm_fr_tr f1 g22c (by decide +kernel)
    refine mm_if_ne (tgt := 30) C (mm_dec dk_X12_count 14 rfl) (by decide) (fun c25 => ?_) (fun c25 => ?_)
    · skip
      refine mm_iload_n C (mm_dec dk_X12_count 17 rfl) rfl ?_
      refine mm_table (t0 := 116) [76, 81, 86, 91, 96, 101, 106, 111] C (mm_dec dk_X12_count 18 rfl) (by decide) (by decide) (by decide +kernel) (fun c31 => ?_) (fun k31 hk31 c31 => ?_)
      · skip
        refine mm_aload_n C (mm_dec dk_X12_count 43 rfl) rfl ?_
        refine mm_iload_n C (mm_dec dk_X12_count 44 rfl) rfl ?_
        refine mm_bipush C (mm_dec dk_X12_count 45 rfl) ⟨by decide, by decide⟩ ?_
        refine mm_isub C (mm_dec dk_X12_count 46 rfl) ⟨by omega, by omega⟩ ?_
        refine mm_cVi (rest := []) C1 ev_X12_460 (mm_dec dk_X12_count 47 rfl) (c_X12_paramOf x.2.1 hl (d - 1) (by omega) h22c i22c (p1 - 8) ⟨by omega, by omega⟩) rfl rfl (Nat.le_of_ble_eq_true rfl) ⟨by decide, by decide⟩ rfl (fun r121 h121c hp121 => ?_) (fun _ _ q => q.elim)
        obtain ⟨z121, y121⟩ := hp121
        rw [z121]
        have g3 : 0 ≤ (h22c.1 66 67) ∧ (h22c.1 66 67) ≤ 1 := i22c.1 66 67
        have g4 : -2147483648 ≤ (h22c.2.1 102 ((3 * (h22c.1 66 68)) + (p1 - 8))) ∧ (h22c.2.1 102 ((3 * (h22c.1 66 68)) + (p1 - 8))) ≤ 2147483647 := i22c.2.1 102 ((3 * (h22c.1 66 68)) + (p1 - 8))
        have g5 : 0 ≤ (h22c.1 66 68) ∧ (h22c.1 66 68) ≤ 1 := i22c.1 66 68
        exact mm_iret C T (mm_dec dk_X12_count 48 rfl) (by decide : 0 ≤ 0) (by decide : 0 ≤ 0) ⟨_, rfl, ⟨⟨by omega, by omega⟩, i22c, f22c⟩⟩
      · have hq31 : k31 < 8 := hk31
        rcases (by omega : k31 = 0 ∨ k31 = 1 ∨ k31 = 2 ∨ k31 = 3 ∨ k31 = 4 ∨ k31 = 5 ∨ k31 = 6 ∨ k31 = 7) with rfl | rfl | rfl | rfl | rfl | rfl | rfl | rfl
        · show mm_W x 0 0 76 _ _ _
          refine mm_aload_n C (mm_dec dk_X12_count 19 rfl) rfl ?_
          refine mm_geti C fl_X12_234 (mm_dec dk_X12_count 20 rfl) rfl rfl (Or.inl rfl) ?_
          have g6 : 0 ≤ (h22c.1 66 41) ∧ (h22c.1 66 41) ≤ 99999 := i22c.1 66 41
          exact mm_iret C T (mm_dec dk_X12_count 21 rfl) (by decide : 0 ≤ 0) (by decide : 0 ≤ 0) ⟨_, rfl, ⟨⟨by omega, by omega⟩, i22c, f22c⟩⟩
        · show mm_W x 0 0 81 _ _ _
          refine mm_aload_n C (mm_dec dk_X12_count 22 rfl) rfl ?_
          refine mm_geti C fl_X12_216 (mm_dec dk_X12_count 23 rfl) rfl rfl (Or.inl rfl) ?_
          have g7 : 0 ≤ (h22c.1 66 21) ∧ (h22c.1 66 21) ≤ 20 := i22c.1 66 21
          exact mm_iret C T (mm_dec dk_X12_count 24 rfl) (by decide : 0 ≤ 0) (by decide : 0 ≤ 0) ⟨_, rfl, ⟨⟨by omega, by omega⟩, i22c, f22c⟩⟩
        · show mm_W x 0 0 86 _ _ _
          refine mm_aload_n C (mm_dec dk_X12_count 25 rfl) rfl ?_
          refine mm_geti C fl_X12_219 (mm_dec dk_X12_count 26 rfl) rfl rfl (Or.inl rfl) ?_
          have g8 : 0 ≤ (h22c.1 66 22) ∧ (h22c.1 66 22) ≤ 8 := i22c.1 66 22
          exact mm_iret C T (mm_dec dk_X12_count 27 rfl) (by decide : 0 ≤ 0) (by decide : 0 ≤ 0) ⟨_, rfl, ⟨⟨by omega, by omega⟩, i22c, f22c⟩⟩
        · show mm_W x 0 0 91 _ _ _
          refine mm_aload_n C (mm_dec dk_X12_count 28 rfl) rfl ?_
          refine mm_geti C fl_X12_222 (mm_dec dk_X12_count 29 rfl) rfl rfl (Or.inl rfl) ?_
          have g9 : 0 ≤ (h22c.1 66 23) ∧ (h22c.1 66 23) ≤ 40 := i22c.1 66 23
          exact mm_iret C T (mm_dec dk_X12_count 30 rfl) (by decide : 0 ≤ 0) (by decide : 0 ≤ 0) ⟨_, rfl, ⟨⟨by omega, by omega⟩, i22c, f22c⟩⟩
        · show mm_W x 0 0 96 _ _ _
          refine mm_aload_n C (mm_dec dk_X12_count 31 rfl) rfl ?_
          refine mm_geti C fl_X12_225 (mm_dec dk_X12_count 32 rfl) rfl rfl (Or.inl rfl) ?_
          have g10 : 0 ≤ (h22c.1 66 24) ∧ (h22c.1 66 24) ≤ 10 := i22c.1 66 24
          exact mm_iret C T (mm_dec dk_X12_count 33 rfl) (by decide : 0 ≤ 0) (by decide : 0 ≤ 0) ⟨_, rfl, ⟨⟨by omega, by omega⟩, i22c, f22c⟩⟩
        · show mm_W x 0 0 101 _ _ _
          refine mm_aload_n C (mm_dec dk_X12_count 34 rfl) rfl ?_
          refine mm_geti C fl_X12_228 (mm_dec dk_X12_count 35 rfl) rfl rfl (Or.inl rfl) ?_
          have g11 : 0 ≤ (h22c.1 66 40) ∧ (h22c.1 66 40) ≤ 500 := i22c.1 66 40
          exact mm_iret C T (mm_dec dk_X12_count 36 rfl) (by decide : 0 ≤ 0) (by decide : 0 ≤ 0) ⟨_, rfl, ⟨⟨by omega, by omega⟩, i22c, f22c⟩⟩
        · show mm_W x 0 0 106 _ _ _
          refine mm_aload_n C (mm_dec dk_X12_count 37 rfl) rfl ?_
          refine mm_geti C fl_X12_231 (mm_dec dk_X12_count 38 rfl) rfl rfl (Or.inl rfl) ?_
          have g12 : 0 ≤ (h22c.1 66 82) ∧ (h22c.1 66 82) ≤ 40 := i22c.1 66 82
          exact mm_iret C T (mm_dec dk_X12_count 39 rfl) (by decide : 0 ≤ 0) (by decide : 0 ≤ 0) ⟨_, rfl, ⟨⟨by omega, by omega⟩, i22c, f22c⟩⟩
        · show mm_W x 0 0 111 _ _ _
          refine mm_aload_n C (mm_dec dk_X12_count 40 rfl) rfl ?_
          refine mm_geti C fl_X12_350 (mm_dec dk_X12_count 41 rfl) rfl rfl (Or.inl rfl) ?_
          have g13 : 0 ≤ (h22c.1 66 56) ∧ (h22c.1 66 56) ≤ 500 := i22c.1 66 56
          exact mm_iret C T (mm_dec dk_X12_count 42 rfl) (by decide : 0 ≤ 0) (by decide : 0 ≤ 0) ⟨_, rfl, ⟨⟨by omega, by omega⟩, i22c, f22c⟩⟩
    · skip
      refine mm_iconst C (mm_dec dk_X12_count 15 rfl) ⟨by decide, by decide⟩ ?_
      exact mm_iret C T (mm_dec dk_X12_count 16 rfl) (by decide : 0 ≤ 0) (by decide : 0 ≤ 0) ⟨_, rfl, ⟨⟨by omega, by omega⟩, i22c, f22c⟩⟩
  have J20 : mm_W x 0 0 20 [mR 66, mI p1] [mR 66] h1 := by
    refine mm_iconst C (mm_dec dk_X12_count 11 rfl) ⟨by decide, by decide⟩ ?_
    exact J21 0 ⟨by omega, by omega⟩ (Or.inl rfl)
  refine mm_if_lt (tgt := 20) C (mm_dec dk_X12_count 5 rfl) (by decide) (fun c7 => ?_) (fun c7 => ?_)
  · skip
    exact J20
  · skip
    refine mm_iload_n C (mm_dec dk_X12_count 6 rfl) rfl ?_
    refine mm_bipush C (mm_dec dk_X12_count 7 rfl) ⟨by decide, by decide⟩ ?_
    refine mm_icmp_gt (tgt := 20) C (mm_dec dk_X12_count 8 rfl) (by decide) (fun c13 => ?_) (fun c13 => ?_)
    · skip
      exact J20
    · skip
      refine mm_iconst C (mm_dec dk_X12_count 9 rfl) ⟨by decide, by decide⟩ ?_
      refine mm_goto (tgt := 21) C (mm_dec dk_X12_count 10 rfl) (by decide) ?_
      exact J21 1 ⟨by omega, by omega⟩ (Or.inr (⟨by omega, by omega, rfl⟩))
set_option maxRecDepth 100000 in
set_option maxHeartbeats 4000000 in
theorem c_X12_isCell (l : Launch) (hl : l.stackTraces = false) (d : Nat) (hd : 2 ≤ d) (h : mH) (i0 : mm_inv h) (p1 : Int) (p2 : Int) : mm_Met l d yX12_isCell cX12_isCell 3 (some .boolean) [mR 66, mI p1, mI p2] h (mm_pi fun r h2 => (0 ≤ r ∧ r ≤ 1) ∧ mm_inv h2 ∧ mm_fr [(66, 0)] [] h h2 ∧ (r = 0 ∨ (0 ≤ p1 ∧ p1 < (h2.1 66 1) ∧ 0 ≤ p2 ∧ p2 < (h2.1 66 2)))) mm_nx 0 0 := by
  refine mm_ofW (ls := [mR 66, mI p1, mI p2]) hl (by decide) rfl (Nat.le_of_ble_eq_true rfl) ?_
  intro x hxl C T hnm htb
  subst hxl
  have C1 := mm_OK_le (d' := d - 1 + 1) (by omega) C
  refine mm_rng (fun hr _ => ?_)
  have ap1 : -2147483648 ≤ p1 ∧ p1 < 2147483648 := mm_ok_at hr (i := 1) rfl
  have ap2 : -2147483648 ≤ p2 ∧ p2 < 2147483648 := mm_ok_at hr (i := 2) rfl
  have f0 : mm_fr [(66, 0)] [] h h := mm_fr_rf
  have g1 : 1 ≤ h.1 66 1 ∧ h.1 66 1 ≤ 20 := i0.1 66 1
  have g2 : 1 ≤ h.1 66 2 ∧ h.1 66 2 ≤ 20 := i0.1 66 2
  refine mm_aload_n C (mm_dec dk_X12_isCell 0 rfl) rfl ?_
  refine mm_iconst C (mm_dec dk_X12_isCell 1 rfl) ⟨by decide, by decide⟩ ?_
  refine mm_puti C fl_X12_188 (mm_dec dk_X12_isCell 2 rfl) rfl rfl rfl (Or.inl ⟨rfl, rfl⟩) ?_
  have i1 : mm_inv (mm_pf h 66 0 0) := mm_inv_pf i0 (show -2147483648 ≤ 0 ∧ 0 ≤ 2147483647 from ⟨by omega, by omega⟩) (by decide)
  have f1 : mm_fr [(66, 0)] [] h (mm_pf h 66 0 0) := mm_fr_pf f0 (by decide)
  obtain ⟨h1, eh1⟩ : ∃ z, z = mm_pf h 66 0 0 := ⟨_, rfl⟩
  rw [← eh1] at i1 f1 ⊢
  have qh1 : h1.1 66 0 = 0 := by rw [eh1]; exact mm_pf_same _ _ _ _
  have qh1_3 : h1.1 66 1 = h.1 66 1 := by rw [eh1]; exact mm_pf_ne _ _ (by decide)
  have qh1_4 : h1.1 66 2 = h.1 66 2 := by rw [eh1]; exact mm_pf_ne _ _ (by decide)
  refine mm_aload_n C (mm_dec dk_X12_isCell 3 rfl) rfl ?_
  refine mm_iload_n C (mm_dec dk_X12_isCell 4 rfl) rfl ?_
  refine mm_iload_n C (mm_dec dk_X12_isCell 5 rfl) rfl ?_
  refine mm_cVi (rest := []) C1 ev_X12_247 (mm_dec dk_X12_isCell 6 rfl) (c_X12_inside x.2.1 hl (d - 1) (by omega) h1 i1 p1 p2) rfl rfl (Nat.le_of_ble_eq_true rfl) ⟨by decide, by decide⟩ rfl (fun r8 h8c hp8 => ?_) (fun _ _ q => q.elim)
  obtain ⟨b8, i8c, g8c, y8_0⟩ := hp8
  have f8c : mm_fr [(66, 0)] [] h h8c := mm_fr_tr f1 g8c (by decide +kernel)
  have q8c_6 : h8c.1 66 1 = h1.1 66 1 := g8c.1 66 1 (by decide)
  have q8c_7 : h8c.1 66 2 = h1.1 66 2 := g8c.1 66 2 (by decide)
  exact mm_zret C T (mm_dec dk_X12_isCell 7 rfl) (by decide : 0 ≤ 0) (by decide : 0 ≤ 0) (by omega) ⟨_, rfl, ⟨⟨by omega, by omega⟩, i8c, f8c, by omega⟩⟩
set_option maxRecDepth 100000 in
set_option maxHeartbeats 4000000 in
theorem c_X12_cell (l : Launch) (hl : l.stackTraces = false) (d : Nat) (hd : 3 ≤ d) (h : mH) (i0 : mm_inv h) (p1 : Int) (p2 : Int) (p3 : Int) (p4 : Int) : mm_Met l d yX12_cell cX12_cell 6 (some .boolean) [mR 66, mI p1, mI p2, mI p3, mI p4] h (mm_pi fun r h2 => (0 ≤ r ∧ r ≤ 1) ∧ mm_inv h2 ∧ mm_fr [(66, 0)] [67, 68] h h2) mm_nx 0 0 := by
  refine mm_ofW (ls := [mR 66, mI p1, mI p2, mI p3, mI p4, mU]) hl (by decide) rfl (Nat.le_of_ble_eq_true rfl) ?_
  intro x hxl C T hnm htb
  subst hxl
  have C1 := mm_OK_le (d' := d - 1 + 1) (by omega) C
  refine mm_rng (fun hr _ => ?_)
  have ap1 : -2147483648 ≤ p1 ∧ p1 < 2147483648 := mm_ok_at hr (i := 1) rfl
  have ap2 : -2147483648 ≤ p2 ∧ p2 < 2147483648 := mm_ok_at hr (i := 2) rfl
  have ap3 : -2147483648 ≤ p3 ∧ p3 < 2147483648 := mm_ok_at hr (i := 3) rfl
  have ap4 : -2147483648 ≤ p4 ∧ p4 < 2147483648 := mm_ok_at hr (i := 4) rfl
  have f0 : mm_fr [(66, 0)] [67, 68] h h := mm_fr_rf
  refine mm_aload_n C (mm_dec dk_X12_cell 0 rfl) rfl ?_
  refine mm_iload_n C (mm_dec dk_X12_cell 1 rfl) rfl ?_
  refine mm_iload_n C (mm_dec dk_X12_cell 2 rfl) rfl ?_
  refine mm_cVi (rest := []) C1 ev_X12_255 (mm_dec dk_X12_cell 3 rfl) (c_X12_isCell x.2.1 hl (d - 1) (by omega) h i0 p1 p2) rfl rfl (Nat.le_of_ble_eq_true rfl) ⟨by decide, by decide⟩ rfl (fun r3 h3c hp3 => ?_) (fun _ _ q => q.elim)
  obtain ⟨b3, i3c, g3c, y3_0⟩ := hp3
  have f3c : mm_fr [(66, 0)] [67, 68] h h3c := mm_fr_tr f0 g3c (by decide +kernel)
  have g2 : 1 ≤ (h3c.1 66 1) ∧ (h3c.1 66 1) ≤ 20 := i3c.1 66 1
  have g3 : 1 ≤ (h3c.1 66 2) ∧ (h3c.1 66 2) ≤ 20 := i3c.1 66 2
  have J38 : mm_W x 0 0 38 [mU, mU, mU, mU, mU, mU] [] h3c := by
    refine mm_iconst C (mm_dec dk_X12_cell 18 rfl) ⟨by decide, by decide⟩ ?_
    exact mm_zret C T (mm_dec dk_X12_cell 19 rfl) (by decide : 0 ≤ 0) (by decide : 0 ≤ 0) (by omega) ⟨_, rfl, ⟨⟨by omega, by omega⟩, i3c, f3c⟩⟩
  refine mm_if_eq (tgt := 38) C (mm_dec dk_X12_cell 4 rfl) (by decide) (fun c6 => ?_) (fun c6 => ?_)
  · skip
    refine mm_fgt 0 ?_
    refine mm_fgt 1 ?_
    refine mm_fgt 2 ?_
    refine mm_fgt 3 ?_
    refine mm_fgt 4 ?_
    exact J38
  · skip
    refine mm_aload_n C (mm_dec dk_X12_cell 5 rfl) rfl ?_
    refine mm_geti C fl_X12_222 (mm_dec dk_X12_cell 6 rfl) rfl rfl (Or.inl rfl) ?_
    have g4 : 0 ≤ (h3c.1 66 23) ∧ (h3c.1 66 23) ≤ 40 := i3c.1 66 23
    refine mm_if_gt (tgt := 38) C (mm_dec dk_X12_cell 7 rfl) (by decide) (fun c13 => ?_) (fun c13 => ?_)
    · skip
      refine mm_fgt 0 ?_
      refine mm_fgt 1 ?_
      refine mm_fgt 2 ?_
      refine mm_fgt 3 ?_
      refine mm_fgt 4 ?_
      exact J38
    · skip
      refine mm_iload_n C (mm_dec dk_X12_cell 8 rfl) rfl ?_
      refine mm_if_lt (tgt := 38) C (mm_dec dk_X12_cell 9 rfl) (by decide) (fun c17 => ?_) (fun c17 => ?_)
      · skip
        refine mm_fgt 0 ?_
        refine mm_fgt 1 ?_
        refine mm_fgt 2 ?_
        refine mm_fgt 3 ?_
        refine mm_fgt 4 ?_
        exact J38
      · skip
        refine mm_iload_n C (mm_dec dk_X12_cell 10 rfl) rfl ?_
        refine mm_bipush C (mm_dec dk_X12_cell 11 rfl) ⟨by decide, by decide⟩ ?_
        refine mm_icmp_gt (tgt := 38) C (mm_dec dk_X12_cell 12 rfl) (by decide) (fun c23 => ?_) (fun c23 => ?_)
        · skip
          refine mm_fgt 0 ?_
          refine mm_fgt 1 ?_
          refine mm_fgt 2 ?_
          refine mm_fgt 3 ?_
          refine mm_fgt 4 ?_
          exact J38
        · skip
          refine mm_iload C (mm_dec dk_X12_cell 13 rfl) rfl ?_
          refine mm_if_lt (tgt := 38) C (mm_dec dk_X12_cell 14 rfl) (by decide) (fun c28 => ?_) (fun c28 => ?_)
          · skip
            refine mm_fgt 0 ?_
            refine mm_fgt 1 ?_
            refine mm_fgt 2 ?_
            refine mm_fgt 3 ?_
            refine mm_fgt 4 ?_
            exact J38
          · skip
            refine mm_iload C (mm_dec dk_X12_cell 15 rfl) rfl ?_
            refine mm_bipush C (mm_dec dk_X12_cell 16 rfl) ⟨by decide, by decide⟩ ?_
            refine mm_icmp_le (tgt := 40) C (mm_dec dk_X12_cell 17 rfl) (by decide) (fun c35 => ?_) (fun c35 => ?_)
            · skip
              refine mm_iconst C (mm_dec dk_X12_cell 20 rfl) ⟨by decide, by decide⟩ ?_
              have J43 : ∀ (n : Nat) (x43_5 : Int) (bx43_5 : 0 ≤ x43_5 ∧ x43_5 ≤ 20), (20 - x43_5 : Int) < n → mm_W x 0 0 43 [mR 66, mI p1, mI p2, mI p3, mI p4, mI x43_5] [] h3c := by
                intro n
                induction n with
                | zero =>
                  intro x43_5 bx43_5 hm
                  exfalso; omega
                | succ n ih43 =>
                  intro x43_5 bx43_5 hm43
                  refine mm_iload C (mm_dec dk_X12_cell 22 rfl) rfl ?_
                  refine mm_aload_n C (mm_dec dk_X12_cell 23 rfl) rfl ?_
                  refine mm_geti C fl_X12_216 (mm_dec dk_X12_cell 24 rfl) rfl rfl (Or.inl rfl) ?_
                  have g5 : 0 ≤ (h3c.1 66 21) ∧ (h3c.1 66 21) ≤ 20 := i3c.1 66 21
                  refine mm_icmp_ge (tgt := 85) C (mm_dec dk_X12_cell 25 rfl) (by decide) (fun c49 => ?_) (fun c49 => ?_)
                  · skip
                    refine mm_aload_n C (mm_dec dk_X12_cell 45 rfl) rfl ?_
                    refine mm_getr (t := 67) C fl_X12_7 (mm_dec dk_X12_cell 46 rfl) rfl rfl (mm_ref i3c rfl) ?_
                    refine mm_bipush C (mm_dec dk_X12_cell 47 rfl) ⟨by decide, by decide⟩ ?_
                    refine mm_iload_n C (mm_dec dk_X12_cell 48 rfl) rfl ?_
                    refine mm_imul C (mm_dec dk_X12_cell 49 rfl) ⟨by omega, by omega⟩ ?_
                    refine mm_iload_n C (mm_dec dk_X12_cell 50 rfl) rfl ?_
                    refine mm_iadd C (mm_dec dk_X12_cell 51 rfl) ⟨by omega, by omega⟩ ?_
                    refine mm_iload_n C (mm_dec dk_X12_cell 52 rfl) rfl ?_
                    refine mm_iast C (mm_dec dk_X12_cell 53 rfl) rfl (by omega) (by omega) ?_
                    have i2 : mm_inv (mm_pa h3c 67 ((20 * p2) + p1) p3) := mm_inv_pa i3c (show 0 ≤ p3 ∧ p3 ≤ 7 from ⟨by omega, by omega⟩)
                    have f2 : mm_fr [(66, 0)] [67, 68] h (mm_pa h3c 67 ((20 * p2) + p1) p3) := mm_fr_pa f3c (by decide)
                    obtain ⟨h2, eh2⟩ : ∃ z, z = mm_pa h3c 67 ((20 * p2) + p1) p3 := ⟨_, rfl⟩
                    rw [← eh2] at i2 f2 ⊢
                    have qh2_6 : h2.1 66 1 = h3c.1 66 1 := by rw [eh2]; rfl
                    have qh2_7 : h2.1 66 2 = h3c.1 66 2 := by rw [eh2]; rfl
                    have qh2_8 : h2.1 66 21 = h3c.1 66 21 := by rw [eh2]; rfl
                    have qh2_9 : h2.1 66 23 = h3c.1 66 23 := by rw [eh2]; rfl
                    refine mm_aload_n C (mm_dec dk_X12_cell 54 rfl) rfl ?_
                    refine mm_getr (t := 68) C fl_X12_13 (mm_dec dk_X12_cell 55 rfl) rfl rfl (mm_ref i2 rfl) ?_
                    refine mm_bipush C (mm_dec dk_X12_cell 56 rfl) ⟨by decide, by decide⟩ ?_
                    refine mm_iload_n C (mm_dec dk_X12_cell 57 rfl) rfl ?_
                    refine mm_imul C (mm_dec dk_X12_cell 58 rfl) ⟨by omega, by omega⟩ ?_
                    refine mm_iload_n C (mm_dec dk_X12_cell 59 rfl) rfl ?_
                    refine mm_iadd C (mm_dec dk_X12_cell 60 rfl) ⟨by omega, by omega⟩ ?_
                    refine mm_iload C (mm_dec dk_X12_cell 61 rfl) rfl ?_
                    refine mm_iast C (mm_dec dk_X12_cell 62 rfl) rfl (by omega) (by omega) ?_
                    have i3 : mm_inv (mm_pa h2 68 ((20 * p2) + p1) p4) := mm_inv_pa i2 (show 0 ≤ p4 ∧ p4 ≤ 99 from ⟨by omega, by omega⟩)
                    have f3 : mm_fr [(66, 0)] [67, 68] h (mm_pa h2 68 ((20 * p2) + p1) p4) := mm_fr_pa f2 (by decide)
                    obtain ⟨h3, eh3⟩ : ∃ z, z = mm_pa h2 68 ((20 * p2) + p1) p4 := ⟨_, rfl⟩
                    rw [← eh3] at i3 f3 ⊢
                    have qh3_10 : h3.1 66 1 = h2.1 66 1 := by rw [eh3]; rfl
                    have qh3_11 : h3.1 66 2 = h2.1 66 2 := by rw [eh3]; rfl
                    have qh3_12 : h3.1 66 21 = h2.1 66 21 := by rw [eh3]; rfl
                    have qh3_13 : h3.1 66 23 = h2.1 66 23 := by rw [eh3]; rfl
                    refine mm_iconst C (mm_dec dk_X12_cell 63 rfl) ⟨by decide, by decide⟩ ?_
                    exact mm_zret C T (mm_dec dk_X12_cell 64 rfl) (by decide : 0 ≤ 0) (by decide : 0 ≤ 0) (by omega) ⟨_, rfl, ⟨⟨by omega, by omega⟩, i3, f3⟩⟩
                  · skip
                    refine mm_aload_n C (mm_dec dk_X12_cell 26 rfl) rfl ?_
                    refine mm_getr (t := 78) C fl_X12_45 (mm_dec dk_X12_cell 27 rfl) rfl rfl (mm_ref i3c rfl) ?_
                    refine mm_iload C (mm_dec dk_X12_cell 28 rfl) rfl ?_
                    refine mm_iald C (mm_dec dk_X12_cell 29 rfl) rfl (by omega) (by omega) ?_
                    have g14 : 0 ≤ (h3c.2.1 78 x43_5) ∧ (h3c.2.1 78 x43_5) ≤ 399 := i3c.2.1 78 x43_5
                    refine mm_bipush C (mm_dec dk_X12_cell 30 rfl) ⟨by decide, by decide⟩ ?_
                    refine mm_iload_n C (mm_dec dk_X12_cell 31 rfl) rfl ?_
                    refine mm_imul C (mm_dec dk_X12_cell 32 rfl) ⟨by omega, by omega⟩ ?_
                    refine mm_iload_n C (mm_dec dk_X12_cell 33 rfl) rfl ?_
                    refine mm_iadd C (mm_dec dk_X12_cell 34 rfl) ⟨by omega, by omega⟩ ?_
                    have J79 : mm_W x 0 0 79 [mR 66, mI p1, mI p2, mI p3, mI p4, mI x43_5] [] h3c := by
                      refine mm_iincL (ls2 := [mR 66, mI p1, mI p2, mI p3, mI p4, mI (x43_5 + 1)]) C (mm_dec dk_X12_cell 43 rfl) rfl (by decide) ⟨by omega, by omega⟩ rfl ?_
                      refine mm_goto (tgt := 43) C (mm_dec dk_X12_cell 44 rfl) (by decide) ?_
                      exact ih43 (x43_5 + 1) ⟨by omega, by omega⟩ (by omega)
                    refine mm_icmp_ne (tgt := 79) C (mm_dec dk_X12_cell 35 rfl) (by decide) (fun c65 => ?_) (fun c65 => ?_)
                    · skip
                      exact J79
                    · skip
                      refine mm_aload_n C (mm_dec dk_X12_cell 36 rfl) rfl ?_
                      refine mm_getr (t := 69) C fl_X12_16 (mm_dec dk_X12_cell 37 rfl) rfl rfl (mm_ref i3c rfl) ?_
                      refine mm_iload_n C (mm_dec dk_X12_cell 38 rfl) rfl ?_
                      refine mm_iald C (mm_dec dk_X12_cell 39 rfl) rfl (by omega) (by omega) ?_
                      have g15 : 0 ≤ (h3c.2.1 69 p3) ∧ (h3c.2.1 69 p3) ≤ 99 := i3c.2.1 69 p3
                      refine mm_if_ne (tgt := 79) C (mm_dec dk_X12_cell 40 rfl) (by decide) (fun c74 => ?_) (fun c74 => ?_)
                      · skip
                        exact J79
                      · skip
                        refine mm_iconst C (mm_dec dk_X12_cell 41 rfl) ⟨by decide, by decide⟩ ?_
                        exact mm_zret C T (mm_dec dk_X12_cell 42 rfl) (by decide : 0 ≤ 0) (by decide : 0 ≤ 0) (by omega) ⟨_, rfl, ⟨⟨by omega, by omega⟩, i3c, f3c⟩⟩
              refine mm_istoreL (ls2 := [mR 66, mI p1, mI p2, mI p3, mI p4, mI 0]) C (mm_dec dk_X12_cell 21 rfl) (by decide) rfl ?_
              exact J43 (((20 - 0) : Int) + 1).toNat 0 ⟨by omega, by omega⟩ (by omega)
            · skip
              refine mm_fgt 0 ?_
              refine mm_fgt 1 ?_
              refine mm_fgt 2 ?_
              refine mm_fgt 3 ?_
              refine mm_fgt 4 ?_
              exact J38
set_option maxRecDepth 100000 in
set_option maxHeartbeats 4000000 in
theorem c_X12_wall (l : Launch) (hl : l.stackTraces = false) (d : Nat) (hd : 3 ≤ d) (h : mH) (i0 : mm_inv h) (p1 : Int) (p2 : Int) (p3 : Int) (p4 : Int) (bp4 : 0 ≤ p4 ∧ p4 ≤ 1) : mm_Met l d yX12_wall cX12_wall 5 (some .boolean) [mR 66, mI p1, mI p2, mI p3, mI p4] h (mm_pi fun r h2 => (0 ≤ r ∧ r ≤ 1) ∧ mm_inv h2 ∧ mm_fr [(66, 0)] [70, 71] h h2) mm_nx 0 0 := by
  refine mm_ofW (ls := [mR 66, mI p1, mI p2, mI p3, mI p4]) hl (by decide) rfl (Nat.le_of_ble_eq_true rfl) ?_
  intro x hxl C T hnm htb
  subst hxl
  have C1 := mm_OK_le (d' := d - 1 + 1) (by omega) C
  refine mm_rng (fun hr _ => ?_)
  have ap1 : -2147483648 ≤ p1 ∧ p1 < 2147483648 := mm_ok_at hr (i := 1) rfl
  have ap2 : -2147483648 ≤ p2 ∧ p2 < 2147483648 := mm_ok_at hr (i := 2) rfl
  have ap3 : -2147483648 ≤ p3 ∧ p3 < 2147483648 := mm_ok_at hr (i := 3) rfl
  have ap4 : -2147483648 ≤ p4 ∧ p4 < 2147483648 := mm_ok_at hr (i := 4) rfl
  have f0 : mm_fr [(66, 0)] [70, 71] h h := mm_fr_rf
  refine mm_aload_n C (mm_dec dk_X12_wall 0 rfl) rfl ?_
  refine mm_iload_n C (mm_dec dk_X12_wall 1 rfl) rfl ?_
  refine mm_iload_n C (mm_dec dk_X12_wall 2 rfl) rfl ?_
  refine mm_cVi (rest := []) C1 ev_X12_255 (mm_dec dk_X12_wall 3 rfl) (c_X12_isCell x.2.1 hl (d - 1) (by omega) h i0 p1 p2) rfl rfl (Nat.le_of_ble_eq_true rfl) ⟨by decide, by decide⟩ rfl (fun r3 h3c hp3 => ?_) (fun _ _ q => q.elim)
  obtain ⟨b3, i3c, g3c, y3_0⟩ := hp3
  have f3c : mm_fr [(66, 0)] [70, 71] h h3c := mm_fr_tr f0 g3c (by decide +kernel)
  have g2 : 1 ≤ (h3c.1 66 1) ∧ (h3c.1 66 1) ≤ 20 := i3c.1 66 1
  have g3 : 1 ≤ (h3c.1 66 2) ∧ (h3c.1 66 2) ≤ 20 := i3c.1 66 2
  have J26 : mm_W x 0 0 26 [mU, mU, mU, mU, mU] [] h3c := by
    refine mm_iconst C (mm_dec dk_X12_wall 14 rfl) ⟨by decide, by decide⟩ ?_
    exact mm_zret C T (mm_dec dk_X12_wall 15 rfl) (by decide : 0 ≤ 0) (by decide : 0 ≤ 0) (by omega) ⟨_, rfl, ⟨⟨by omega, by omega⟩, i3c, f3c⟩⟩
  refine mm_if_eq (tgt := 26) C (mm_dec dk_X12_wall 4 rfl) (by decide) (fun c6 => ?_) (fun c6 => ?_)
  · skip
    refine mm_fgt 0 ?_
    refine mm_fgt 1 ?_
    refine mm_fgt 2 ?_
    refine mm_fgt 3 ?_
    refine mm_fgt 4 ?_
    exact J26
  · skip
    refine mm_aload_n C (mm_dec dk_X12_wall 5 rfl) rfl ?_
    refine mm_geti C fl_X12_222 (mm_dec dk_X12_wall 6 rfl) rfl rfl (Or.inl rfl) ?_
    have g4 : 0 ≤ (h3c.1 66 23) ∧ (h3c.1 66 23) ≤ 40 := i3c.1 66 23
    refine mm_if_gt (tgt := 26) C (mm_dec dk_X12_wall 7 rfl) (by decide) (fun c13 => ?_) (fun c13 => ?_)
    · skip
      refine mm_fgt 0 ?_
      refine mm_fgt 1 ?_
      refine mm_fgt 2 ?_
      refine mm_fgt 3 ?_
      refine mm_fgt 4 ?_
      exact J26
    · skip
      refine mm_iload_n C (mm_dec dk_X12_wall 8 rfl) rfl ?_
      refine mm_iconst C (mm_dec dk_X12_wall 9 rfl) ⟨by decide, by decide⟩ ?_
      have J28 : mm_W x 0 0 28 [mR 66, mI p1, mI p2, mI p3, mI p4] [] h3c := by
        refine mm_iload_n C (mm_dec dk_X12_wall 16 rfl) rfl ?_
        refine mm_iconst C (mm_dec dk_X12_wall 17 rfl) ⟨by decide, by decide⟩ ?_
        have J58 : mm_W x 0 0 58 [mR 66, mI p1, mI p2, mI p3, mI p4] [] h3c := by
          refine mm_iload_n C (mm_dec dk_X12_wall 34 rfl) rfl ?_
          refine mm_iconst C (mm_dec dk_X12_wall 35 rfl) ⟨by decide, by decide⟩ ?_
          have J92 : ∀ (h92_ : mH) (i92_ : mm_inv h92_) (f92_ : mm_fr [(66, 0)] [70, 71] h h92_), mm_W x 0 0 92 [mU, mU, mU, mU, mU] [] h92_ := by
            intro h92_ i92_ f92_
            refine mm_iconst C (mm_dec dk_X12_wall 56 rfl) ⟨by decide, by decide⟩ ?_
            exact mm_zret C T (mm_dec dk_X12_wall 57 rfl) (by decide : 0 ≤ 0) (by decide : 0 ≤ 0) (by omega) ⟨_, rfl, ⟨⟨by omega, by omega⟩, i92_, f92_⟩⟩
          refine mm_icmp_ne (tgt := 79) C (mm_dec dk_X12_wall 36 rfl) (by decide) (fun c60 => ?_) (fun c60 => ?_)
          · skip
            refine mm_aload_n C (mm_dec dk_X12_wall 47 rfl) rfl ?_
            refine mm_getr (t := 71) C fl_X12_23 (mm_dec dk_X12_wall 48 rfl) rfl rfl (mm_ref i3c rfl) ?_
            refine mm_bipush C (mm_dec dk_X12_wall 49 rfl) ⟨by decide, by decide⟩ ?_
            refine mm_iload_n C (mm_dec dk_X12_wall 50 rfl) rfl ?_
            refine mm_imul C (mm_dec dk_X12_wall 51 rfl) ⟨by omega, by omega⟩ ?_
            refine mm_iload_n C (mm_dec dk_X12_wall 52 rfl) rfl ?_
            refine mm_iadd C (mm_dec dk_X12_wall 53 rfl) ⟨by omega, by omega⟩ ?_
            refine mm_iload C (mm_dec dk_X12_wall 54 rfl) rfl ?_
            refine mm_zast C (mm_dec dk_X12_wall 55 rfl) rfl (by omega) (by omega) (by omega) ?_
            have i2 : mm_inv (mm_pa h3c 71 ((20 * p2) + p1) p4) := mm_inv_pa i3c (show 0 ≤ p4 ∧ p4 ≤ 1 from ⟨by omega, by omega⟩)
            have f2 : mm_fr [(66, 0)] [70, 71] h (mm_pa h3c 71 ((20 * p2) + p1) p4) := mm_fr_pa f3c (by decide)
            obtain ⟨h2, eh2⟩ : ∃ z, z = mm_pa h3c 71 ((20 * p2) + p1) p4 := ⟨_, rfl⟩
            rw [← eh2] at i2 f2 ⊢
            have qh2_5 : h2.1 66 1 = h3c.1 66 1 := by rw [eh2]; rfl
            have qh2_6 : h2.1 66 2 = h3c.1 66 2 := by rw [eh2]; rfl
            have qh2_7 : h2.1 66 23 = h3c.1 66 23 := by rw [eh2]; rfl
            refine mm_fgt 0 ?_
            refine mm_fgt 1 ?_
            refine mm_fgt 2 ?_
            refine mm_fgt 3 ?_
            refine mm_fgt 4 ?_
            exact J92 h2 i2 f2
          · skip
            refine mm_aload_n C (mm_dec dk_X12_wall 37 rfl) rfl ?_
            refine mm_getr (t := 70) C fl_X12_19 (mm_dec dk_X12_wall 38 rfl) rfl rfl (mm_ref i3c rfl) ?_
            refine mm_bipush C (mm_dec dk_X12_wall 39 rfl) ⟨by decide, by decide⟩ ?_
            refine mm_iload_n C (mm_dec dk_X12_wall 40 rfl) rfl ?_
            refine mm_imul C (mm_dec dk_X12_wall 41 rfl) ⟨by omega, by omega⟩ ?_
            refine mm_iload_n C (mm_dec dk_X12_wall 42 rfl) rfl ?_
            refine mm_iadd C (mm_dec dk_X12_wall 43 rfl) ⟨by omega, by omega⟩ ?_
            refine mm_iload C (mm_dec dk_X12_wall 44 rfl) rfl ?_
            refine mm_zast C (mm_dec dk_X12_wall 45 rfl) rfl (by omega) (by omega) (by omega) ?_
            have i3 : mm_inv (mm_pa h3c 70 ((20 * p2) + p1) p4) := mm_inv_pa i3c (show 0 ≤ p4 ∧ p4 ≤ 1 from ⟨by omega, by omega⟩)
            have f3 : mm_fr [(66, 0)] [70, 71] h (mm_pa h3c 70 ((20 * p2) + p1) p4) := mm_fr_pa f3c (by decide)
            obtain ⟨h3, eh3⟩ : ∃ z, z = mm_pa h3c 70 ((20 * p2) + p1) p4 := ⟨_, rfl⟩
            rw [← eh3] at i3 f3 ⊢
            have qh3_8 : h3.1 66 1 = h3c.1 66 1 := by rw [eh3]; rfl
            have qh3_9 : h3.1 66 2 = h3c.1 66 2 := by rw [eh3]; rfl
            have qh3_10 : h3.1 66 23 = h3c.1 66 23 := by rw [eh3]; rfl
            refine mm_goto (tgt := 92) C (mm_dec dk_X12_wall 46 rfl) (by decide) ?_
            refine mm_fgt 0 ?_
            refine mm_fgt 1 ?_
            refine mm_fgt 2 ?_
            refine mm_fgt 3 ?_
            refine mm_fgt 4 ?_
            exact J92 h3 i3 f3
        have J56 : mm_W x 0 0 56 [mU, mU, mU, mU, mU] [] h3c := by
          refine mm_iconst C (mm_dec dk_X12_wall 32 rfl) ⟨by decide, by decide⟩ ?_
          exact mm_zret C T (mm_dec dk_X12_wall 33 rfl) (by decide : 0 ≤ 0) (by decide : 0 ≤ 0) (by omega) ⟨_, rfl, ⟨⟨by omega, by omega⟩, i3c, f3c⟩⟩
        refine mm_icmp_ne (tgt := 46) C (mm_dec dk_X12_wall 18 rfl) (by decide) (fun c30 => ?_) (fun c30 => ?_)
        · skip
          refine mm_iload_n C (mm_dec dk_X12_wall 26 rfl) rfl ?_
          refine mm_iconst C (mm_dec dk_X12_wall 27 rfl) ⟨by decide, by decide⟩ ?_
          refine mm_iadd C (mm_dec dk_X12_wall 28 rfl) ⟨by omega, by omega⟩ ?_
          refine mm_aload_n C (mm_dec dk_X12_wall 29 rfl) rfl ?_
          refine mm_geti C fl_X12_195 (mm_dec dk_X12_wall 30 rfl) rfl rfl (Or.inl rfl) ?_
          refine mm_icmp_lt (tgt := 58) C (mm_dec dk_X12_wall 31 rfl) (by decide) (fun c53 => ?_) (fun c53 => ?_)
          · skip
            exact J58
          · skip
            refine mm_fgt 0 ?_
            refine mm_fgt 1 ?_
            refine mm_fgt 2 ?_
            refine mm_fgt 3 ?_
            refine mm_fgt 4 ?_
            exact J56
        · skip
          refine mm_iload_n C (mm_dec dk_X12_wall 19 rfl) rfl ?_
          refine mm_iconst C (mm_dec dk_X12_wall 20 rfl) ⟨by decide, by decide⟩ ?_
          refine mm_iadd C (mm_dec dk_X12_wall 21 rfl) ⟨by omega, by omega⟩ ?_
          refine mm_aload_n C (mm_dec dk_X12_wall 22 rfl) rfl ?_
          refine mm_geti C fl_X12_192 (mm_dec dk_X12_wall 23 rfl) rfl rfl (Or.inl rfl) ?_
          refine mm_icmp_lt (tgt := 58) C (mm_dec dk_X12_wall 24 rfl) (by decide) (fun c40 => ?_) (fun c40 => ?_)
          · skip
            exact J58
          · skip
            refine mm_goto (tgt := 56) C (mm_dec dk_X12_wall 25 rfl) (by decide) ?_
            refine mm_fgt 0 ?_
            refine mm_fgt 1 ?_
            refine mm_fgt 2 ?_
            refine mm_fgt 3 ?_
            refine mm_fgt 4 ?_
            exact J56
      refine mm_icmp_eq (tgt := 28) C (mm_dec dk_X12_wall 10 rfl) (by decide) (fun c18 => ?_) (fun c18 => ?_)
      · skip
        exact J28
      · skip
        refine mm_iload_n C (mm_dec dk_X12_wall 11 rfl) rfl ?_
        refine mm_iconst C (mm_dec dk_X12_wall 12 rfl) ⟨by decide, by decide⟩ ?_
        refine mm_icmp_eq (tgt := 28) C (mm_dec dk_X12_wall 13 rfl) (by decide) (fun c23 => ?_) (fun c23 => ?_)
        · skip
          exact J28
        · skip
          refine mm_fgt 0 ?_
          refine mm_fgt 1 ?_
          refine mm_fgt 2 ?_
          refine mm_fgt 3 ?_
          refine mm_fgt 4 ?_
          exact J26
set_option maxRecDepth 100000 in
set_option maxHeartbeats 4000000 in
theorem c_X12_gates (l : Launch) (hl : l.stackTraces = false) (d : Nat) (hd : 3 ≤ d) (h : mH) (i0 : mm_inv h) (p1 : Int) (p2 : Int) (p3 : Int) (p4 : Int) : mm_Met l d yX12_gates cX12_gates 5 (some .boolean) [mR 66, mI p1, mI p2, mI p3, mI p4] h (mm_pi fun r h2 => (0 ≤ r ∧ r ≤ 1) ∧ mm_inv h2 ∧ mm_fr [(66, 0), (66, 9), (66, 10), (66, 11), (66, 12)] [] h h2) mm_nx 0 0 := by
  refine mm_ofW (ls := [mR 66, mI p1, mI p2, mI p3, mI p4]) hl (by decide) rfl (Nat.le_of_ble_eq_true rfl) ?_
  intro x hxl C T hnm htb
  subst hxl
  have C1 := mm_OK_le (d' := d - 1 + 1) (by omega) C
  refine mm_rng (fun hr _ => ?_)
  have ap1 : -2147483648 ≤ p1 ∧ p1 < 2147483648 := mm_ok_at hr (i := 1) rfl
  have ap2 : -2147483648 ≤ p2 ∧ p2 < 2147483648 := mm_ok_at hr (i := 2) rfl
  have ap3 : -2147483648 ≤ p3 ∧ p3 < 2147483648 := mm_ok_at hr (i := 3) rfl
  have ap4 : -2147483648 ≤ p4 ∧ p4 < 2147483648 := mm_ok_at hr (i := 4) rfl
  have f0 : mm_fr [(66, 0), (66, 9), (66, 10), (66, 11), (66, 12)] [] h h := mm_fr_rf
  refine mm_aload_n C (mm_dec dk_X12_gates 0 rfl) rfl ?_
  refine mm_iload_n C (mm_dec dk_X12_gates 1 rfl) rfl ?_
  refine mm_iload_n C (mm_dec dk_X12_gates 2 rfl) rfl ?_
  refine mm_cVi (rest := []) C1 ev_X12_255 (mm_dec dk_X12_gates 3 rfl) (c_X12_isCell x.2.1 hl (d - 1) (by omega) h i0 p1 p2) rfl rfl (Nat.le_of_ble_eq_true rfl) ⟨by decide, by decide⟩ rfl (fun r3 h3c hp3 => ?_) (fun _ _ q => q.elim)
  obtain ⟨b3, i3c, g3c, y3_0⟩ := hp3
  have f3c : mm_fr [(66, 0), (66, 9), (66, 10), (66, 11), (66, 12)] [] h h3c := mm_fr_tr f0 g3c (by decide +kernel)
  have g2 : 1 ≤ (h3c.1 66 1) ∧ (h3c.1 66 1) ≤ 20 := i3c.1 66 1
  have g3 : 1 ≤ (h3c.1 66 2) ∧ (h3c.1 66 2) ≤ 20 := i3c.1 66 2
  have J26 : ∀ (h26_ : mH) (i26_ : mm_inv h26_) (f26_ : mm_fr [(66, 0), (66, 9), (66, 10), (66, 11), (66, 12)] [] h h26_), mm_W x 0 0 26 [mU, mU, mU, mU, mU] [] h26_ := by
    intro h26_ i26_ f26_
    refine mm_iconst C (mm_dec dk_X12_gates 13 rfl) ⟨by decide, by decide⟩ ?_
    exact mm_zret C T (mm_dec dk_X12_gates 14 rfl) (by decide : 0 ≤ 0) (by decide : 0 ≤ 0) (by omega) ⟨_, rfl, ⟨⟨by omega, by omega⟩, i26_, f26_⟩⟩
  refine mm_if_eq (tgt := 26) C (mm_dec dk_X12_gates 4 rfl) (by decide) (fun c6 => ?_) (fun c6 => ?_)
  · skip
    refine mm_fgt 0 ?_
    refine mm_fgt 1 ?_
    refine mm_fgt 2 ?_
    refine mm_fgt 3 ?_
    refine mm_fgt 4 ?_
    exact J26 h3c i3c f3c
  · skip
    refine mm_aload_n C (mm_dec dk_X12_gates 5 rfl) rfl ?_
    refine mm_iload_n C (mm_dec dk_X12_gates 6 rfl) rfl ?_
    refine mm_iload C (mm_dec dk_X12_gates 7 rfl) rfl ?_
    refine mm_cVi (rest := []) C1 ev_X12_247 (mm_dec dk_X12_gates 8 rfl) (c_X12_inside x.2.1 hl (d - 1) (by omega) h3c i3c p3 p4) rfl rfl (Nat.le_of_ble_eq_true rfl) ⟨by decide, by decide⟩ rfl (fun r13 h13c hp13 => ?_) (fun _ _ q => q.elim)
    obtain ⟨b13, i13c, g13c, y13_0⟩ := hp13
    have f13c : mm_fr [(66, 0), (66, 9), (66, 10), (66, 11), (66, 12)] [] h h13c := mm_fr_tr f3c g13c (by decide +kernel)
    have q13c_5 : h13c.1 66 1 = h3c.1 66 1 := g13c.1 66 1 (by decide)
    have q13c_6 : h13c.1 66 2 = h3c.1 66 2 := g13c.1 66 2 (by decide)
    refine mm_if_eq (tgt := 26) C (mm_dec dk_X12_gates 9 rfl) (by decide) (fun c16 => ?_) (fun c16 => ?_)
    · skip
      refine mm_fgt 0 ?_
      refine mm_fgt 1 ?_
      refine mm_fgt 2 ?_
      refine mm_fgt 3 ?_
      refine mm_fgt 4 ?_
      exact J26 h13c i13c f13c
    · skip
      refine mm_aload_n C (mm_dec dk_X12_gates 10 rfl) rfl ?_
      refine mm_geti C fl_X12_222 (mm_dec dk_X12_gates 11 rfl) rfl rfl (Or.inl rfl) ?_
      have g7 : 0 ≤ (h13c.1 66 23) ∧ (h13c.1 66 23) ≤ 40 := i13c.1 66 23
      refine mm_if_le (tgt := 28) C (mm_dec dk_X12_gates 12 rfl) (by decide) (fun c23 => ?_) (fun c23 => ?_)
      · skip
        refine mm_aload_n C (mm_dec dk_X12_gates 15 rfl) rfl ?_
        refine mm_iload_n C (mm_dec dk_X12_gates 16 rfl) rfl ?_
        refine mm_puti C fl_X12_201 (mm_dec dk_X12_gates 17 rfl) rfl rfl rfl (Or.inl ⟨rfl, rfl⟩) ?_
        have i3 : mm_inv (mm_pf h13c 66 9 p1) := mm_inv_pf i13c (show 0 ≤ p1 ∧ p1 ≤ 19 from ⟨by omega, by omega⟩) (by decide)
        have f3 : mm_fr [(66, 0), (66, 9), (66, 10), (66, 11), (66, 12)] [] h (mm_pf h13c 66 9 p1) := mm_fr_pf f13c (by decide)
        obtain ⟨h3, eh3⟩ : ∃ z, z = mm_pf h13c 66 9 p1 := ⟨_, rfl⟩
        rw [← eh3] at i3 f3 ⊢
        have qh3 : h3.1 66 9 = p1 := by rw [eh3]; exact mm_pf_same _ _ _ _
        have qh3_8 : h3.1 66 1 = h13c.1 66 1 := by rw [eh3]; exact mm_pf_ne _ _ (by decide)
        have qh3_9 : h3.1 66 2 = h13c.1 66 2 := by rw [eh3]; exact mm_pf_ne _ _ (by decide)
        have qh3_10 : h3.1 66 23 = h13c.1 66 23 := by rw [eh3]; exact mm_pf_ne _ _ (by decide)
        refine mm_aload_n C (mm_dec dk_X12_gates 18 rfl) rfl ?_
        refine mm_iload_n C (mm_dec dk_X12_gates 19 rfl) rfl ?_
        refine mm_puti C fl_X12_204 (mm_dec dk_X12_gates 20 rfl) rfl rfl rfl (Or.inl ⟨rfl, rfl⟩) ?_
        have i4 : mm_inv (mm_pf h3 66 10 p2) := mm_inv_pf i3 (show 0 ≤ p2 ∧ p2 ≤ 19 from ⟨by omega, by omega⟩) (by decide)
        have f4 : mm_fr [(66, 0), (66, 9), (66, 10), (66, 11), (66, 12)] [] h (mm_pf h3 66 10 p2) := mm_fr_pf f3 (by decide)
        obtain ⟨h4, eh4⟩ : ∃ z, z = mm_pf h3 66 10 p2 := ⟨_, rfl⟩
        rw [← eh4] at i4 f4 ⊢
        have qh4 : h4.1 66 10 = p2 := by rw [eh4]; exact mm_pf_same _ _ _ _
        have qh4_11 : h4.1 66 1 = h3.1 66 1 := by rw [eh4]; exact mm_pf_ne _ _ (by decide)
        have qh4_12 : h4.1 66 2 = h3.1 66 2 := by rw [eh4]; exact mm_pf_ne _ _ (by decide)
        have qh4_13 : h4.1 66 9 = h3.1 66 9 := by rw [eh4]; exact mm_pf_ne _ _ (by decide)
        have qh4_14 : h4.1 66 23 = h3.1 66 23 := by rw [eh4]; exact mm_pf_ne _ _ (by decide)
        refine mm_aload_n C (mm_dec dk_X12_gates 21 rfl) rfl ?_
        refine mm_iload_n C (mm_dec dk_X12_gates 22 rfl) rfl ?_
        refine mm_puti C fl_X12_207 (mm_dec dk_X12_gates 23 rfl) rfl rfl rfl (Or.inl ⟨rfl, rfl⟩) ?_
        have i5 : mm_inv (mm_pf h4 66 11 p3) := mm_inv_pf i4 (show 0 ≤ p3 ∧ p3 ≤ 19 from ⟨by omega, by omega⟩) (by decide)
        have f5 : mm_fr [(66, 0), (66, 9), (66, 10), (66, 11), (66, 12)] [] h (mm_pf h4 66 11 p3) := mm_fr_pf f4 (by decide)
        obtain ⟨h5, eh5⟩ : ∃ z, z = mm_pf h4 66 11 p3 := ⟨_, rfl⟩
        rw [← eh5] at i5 f5 ⊢
        have qh5 : h5.1 66 11 = p3 := by rw [eh5]; exact mm_pf_same _ _ _ _
        have qh5_15 : h5.1 66 1 = h4.1 66 1 := by rw [eh5]; exact mm_pf_ne _ _ (by decide)
        have qh5_16 : h5.1 66 2 = h4.1 66 2 := by rw [eh5]; exact mm_pf_ne _ _ (by decide)
        have qh5_17 : h5.1 66 9 = h4.1 66 9 := by rw [eh5]; exact mm_pf_ne _ _ (by decide)
        have qh5_18 : h5.1 66 10 = h4.1 66 10 := by rw [eh5]; exact mm_pf_ne _ _ (by decide)
        have qh5_19 : h5.1 66 23 = h4.1 66 23 := by rw [eh5]; exact mm_pf_ne _ _ (by decide)
        refine mm_aload_n C (mm_dec dk_X12_gates 24 rfl) rfl ?_
        refine mm_iload C (mm_dec dk_X12_gates 25 rfl) rfl ?_
        refine mm_puti C fl_X12_210 (mm_dec dk_X12_gates 26 rfl) rfl rfl rfl (Or.inl ⟨rfl, rfl⟩) ?_
        have i6 : mm_inv (mm_pf h5 66 12 p4) := mm_inv_pf i5 (show 0 ≤ p4 ∧ p4 ≤ 19 from ⟨by omega, by omega⟩) (by decide)
        have f6 : mm_fr [(66, 0), (66, 9), (66, 10), (66, 11), (66, 12)] [] h (mm_pf h5 66 12 p4) := mm_fr_pf f5 (by decide)
        obtain ⟨h6, eh6⟩ : ∃ z, z = mm_pf h5 66 12 p4 := ⟨_, rfl⟩
        rw [← eh6] at i6 f6 ⊢
        have qh6 : h6.1 66 12 = p4 := by rw [eh6]; exact mm_pf_same _ _ _ _
        have qh6_20 : h6.1 66 1 = h5.1 66 1 := by rw [eh6]; exact mm_pf_ne _ _ (by decide)
        have qh6_21 : h6.1 66 2 = h5.1 66 2 := by rw [eh6]; exact mm_pf_ne _ _ (by decide)
        have qh6_22 : h6.1 66 9 = h5.1 66 9 := by rw [eh6]; exact mm_pf_ne _ _ (by decide)
        have qh6_23 : h6.1 66 10 = h5.1 66 10 := by rw [eh6]; exact mm_pf_ne _ _ (by decide)
        have qh6_24 : h6.1 66 11 = h5.1 66 11 := by rw [eh6]; exact mm_pf_ne _ _ (by decide)
        have qh6_25 : h6.1 66 23 = h5.1 66 23 := by rw [eh6]; exact mm_pf_ne _ _ (by decide)
        refine mm_iconst C (mm_dec dk_X12_gates 27 rfl) ⟨by decide, by decide⟩ ?_
        exact mm_zret C T (mm_dec dk_X12_gates 28 rfl) (by decide : 0 ≤ 0) (by decide : 0 ≤ 0) (by omega) ⟨_, rfl, ⟨⟨by omega, by omega⟩, i6, f6⟩⟩
      · skip
        refine mm_fgt 0 ?_
        refine mm_fgt 1 ?_
        refine mm_fgt 2 ?_
        refine mm_fgt 3 ?_
        refine mm_fgt 4 ?_
        exact J26 h13c i13c f13c
set_option maxRecDepth 100000 in
set_option maxHeartbeats 4000000 in
theorem c_X12_post (l : Launch) (hl : l.stackTraces = false) (d : Nat) (hd : 3 ≤ d) (h : mH) (i0 : mm_inv h) (p1 : Int) (p2 : Int) (p3 : Int) : mm_Met l d yX12_post cX12_post 4 (some .int) [mR 66, mI p1, mI p2, mI p3] h (mm_pi fun r h2 => (-1 ≤ r ∧ r ≤ 19) ∧ mm_inv h2 ∧ mm_fr [(66, 0), (66, 21)] [78, 79] h h2) mm_nx 0 0 := by
  refine mm_ofW (ls := [mR 66, mI p1, mI p2, mI p3]) hl (by decide) rfl (Nat.le_of_ble_eq_true rfl) ?_
  intro x hxl C T hnm htb
  subst hxl
  have C1 := mm_OK_le (d' := d - 1 + 1) (by omega) C
  refine mm_rng (fun hr _ => ?_)
  have ap1 : -2147483648 ≤ p1 ∧ p1 < 2147483648 := mm_ok_at hr (i := 1) rfl
  have ap2 : -2147483648 ≤ p2 ∧ p2 < 2147483648 := mm_ok_at hr (i := 2) rfl
  have ap3 : -2147483648 ≤ p3 ∧ p3 < 2147483648 := mm_ok_at hr (i := 3) rfl
  have f0 : mm_fr [(66, 0), (66, 21)] [78, 79] h h := mm_fr_rf
  refine mm_aload_n C (mm_dec dk_X12_post 0 rfl) rfl ?_
  refine mm_iload_n C (mm_dec dk_X12_post 1 rfl) rfl ?_
  refine mm_iload_n C (mm_dec dk_X12_post 2 rfl) rfl ?_
  refine mm_cVi (rest := []) C1 ev_X12_255 (mm_dec dk_X12_post 3 rfl) (c_X12_isCell x.2.1 hl (d - 1) (by omega) h i0 p1 p2) rfl rfl (Nat.le_of_ble_eq_true rfl) ⟨by decide, by decide⟩ rfl (fun r3 h3c hp3 => ?_) (fun _ _ q => q.elim)
  obtain ⟨b3, i3c, g3c, y3_0⟩ := hp3
  have f3c : mm_fr [(66, 0), (66, 21)] [78, 79] h h3c := mm_fr_tr f0 g3c (by decide +kernel)
  have g2 : 1 ≤ (h3c.1 66 1) ∧ (h3c.1 66 1) ≤ 20 := i3c.1 66 1
  have g3 : 1 ≤ (h3c.1 66 2) ∧ (h3c.1 66 2) ≤ 20 := i3c.1 66 2
  refine mm_if_ne (tgt := 11) C (mm_dec dk_X12_post 4 rfl) (by decide) (fun c6 => ?_) (fun c6 => ?_)
  · skip
    refine mm_aload_n C (mm_dec dk_X12_post 7 rfl) rfl ?_
    refine mm_geti C fl_X12_216 (mm_dec dk_X12_post 8 rfl) rfl rfl (Or.inl rfl) ?_
    have g4 : 0 ≤ (h3c.1 66 21) ∧ (h3c.1 66 21) ≤ 20 := i3c.1 66 21
    refine mm_bipush C (mm_dec dk_X12_post 9 rfl) ⟨by decide, by decide⟩ ?_
    have J49 : mm_W x 0 0 49 [mU, mU, mU, mU] [] h3c := by
      refine mm_iconst C (mm_dec dk_X12_post 28 rfl) ⟨by decide, by decide⟩ ?_
      exact mm_iret C T (mm_dec dk_X12_post 29 rfl) (by decide : 0 ≤ 0) (by decide : 0 ≤ 0) ⟨_, rfl, ⟨⟨by omega, by omega⟩, i3c, f3c⟩⟩
    refine mm_icmp_eq (tgt := 49) C (mm_dec dk_X12_post 10 rfl) (by decide) (fun c17 => ?_) (fun c17 => ?_)
    · skip
      refine mm_fgt 0 ?_
      refine mm_fgt 1 ?_
      refine mm_fgt 2 ?_
      refine mm_fgt 3 ?_
      exact J49
    · skip
      refine mm_iload_n C (mm_dec dk_X12_post 11 rfl) rfl ?_
      refine mm_if_lt (tgt := 49) C (mm_dec dk_X12_post 12 rfl) (by decide) (fun c21 => ?_) (fun c21 => ?_)
      · skip
        refine mm_fgt 0 ?_
        refine mm_fgt 1 ?_
        refine mm_fgt 2 ?_
        refine mm_fgt 3 ?_
        exact J49
      · skip
        refine mm_iload_n C (mm_dec dk_X12_post 13 rfl) rfl ?_
        refine mm_bipush C (mm_dec dk_X12_post 14 rfl) ⟨by decide, by decide⟩ ?_
        refine mm_icmp_gt (tgt := 49) C (mm_dec dk_X12_post 15 rfl) (by decide) (fun c27 => ?_) (fun c27 => ?_)
        · skip
          refine mm_fgt 0 ?_
          refine mm_fgt 1 ?_
          refine mm_fgt 2 ?_
          refine mm_fgt 3 ?_
          exact J49
        · skip
          refine mm_aload_n C (mm_dec dk_X12_post 16 rfl) rfl ?_
          refine mm_getr (t := 69) C fl_X12_16 (mm_dec dk_X12_post 17 rfl) rfl rfl (mm_ref i3c rfl) ?_
          refine mm_aload_n C (mm_dec dk_X12_post 18 rfl) rfl ?_
          refine mm_getr (t := 67) C fl_X12_7 (mm_dec dk_X12_post 19 rfl) rfl rfl (mm_ref i3c rfl) ?_
          refine mm_bipush C (mm_dec dk_X12_post 20 rfl) ⟨by decide, by decide⟩ ?_
          refine mm_iload_n C (mm_dec dk_X12_post 21 rfl) rfl ?_
          refine mm_imul C (mm_dec dk_X12_post 22 rfl) ⟨by omega, by omega⟩ ?_
          refine mm_iload_n C (mm_dec dk_X12_post 23 rfl) rfl ?_
          refine mm_iadd C (mm_dec dk_X12_post 24 rfl) ⟨by omega, by omega⟩ ?_
          refine mm_iald C (mm_dec dk_X12_post 25 rfl) rfl (by omega) (by omega) ?_
          have g5 : 0 ≤ (h3c.2.1 67 ((20 * p2) + p1)) ∧ (h3c.2.1 67 ((20 * p2) + p1)) ≤ 7 := i3c.2.1 67 ((20 * p2) + p1)
          refine mm_iald C (mm_dec dk_X12_post 26 rfl) rfl (by omega) (by omega) ?_
          have g6 : 0 ≤ (h3c.2.1 69 (h3c.2.1 67 ((20 * p2) + p1))) ∧ (h3c.2.1 69 (h3c.2.1 67 ((20 * p2) + p1))) ≤ 99 := i3c.2.1 69 (h3c.2.1 67 ((20 * p2) + p1))
          refine mm_if_ne (tgt := 51) C (mm_dec dk_X12_post 27 rfl) (by decide) (fun c46 => ?_) (fun c46 => ?_)
          · skip
            refine mm_aload_n C (mm_dec dk_X12_post 30 rfl) rfl ?_
            refine mm_getr (t := 78) C fl_X12_45 (mm_dec dk_X12_post 31 rfl) rfl rfl (mm_ref i3c rfl) ?_
            refine mm_aload_n C (mm_dec dk_X12_post 32 rfl) rfl ?_
            refine mm_geti C fl_X12_216 (mm_dec dk_X12_post 33 rfl) rfl rfl (Or.inl rfl) ?_
            refine mm_bipush C (mm_dec dk_X12_post 34 rfl) ⟨by decide, by decide⟩ ?_
            refine mm_iload_n C (mm_dec dk_X12_post 35 rfl) rfl ?_
            refine mm_imul C (mm_dec dk_X12_post 36 rfl) ⟨by omega, by omega⟩ ?_
            refine mm_iload_n C (mm_dec dk_X12_post 37 rfl) rfl ?_
            refine mm_iadd C (mm_dec dk_X12_post 38 rfl) ⟨by omega, by omega⟩ ?_
            refine mm_iast C (mm_dec dk_X12_post 39 rfl) rfl (by omega) (by omega) ?_
            have i2 : mm_inv (mm_pa h3c 78 (h3c.1 66 21) ((20 * p2) + p1)) := mm_inv_pa i3c (show 0 ≤ ((20 * p2) + p1) ∧ ((20 * p2) + p1) ≤ 399 from ⟨by omega, by omega⟩)
            have f2 : mm_fr [(66, 0), (66, 21)] [78, 79] h (mm_pa h3c 78 (h3c.1 66 21) ((20 * p2) + p1)) := mm_fr_pa f3c (by decide)
            obtain ⟨h2, eh2⟩ : ∃ z, z = mm_pa h3c 78 (h3c.1 66 21) ((20 * p2) + p1) := ⟨_, rfl⟩
            rw [← eh2] at i2 f2 ⊢
            have qh2_7 : h2.1 66 1 = h3c.1 66 1 := by rw [eh2]; rfl
            have qh2_8 : h2.1 66 2 = h3c.1 66 2 := by rw [eh2]; rfl
            have qh2_9 : h2.1 66 21 = h3c.1 66 21 := by rw [eh2]; rfl
            refine mm_aload_n C (mm_dec dk_X12_post 40 rfl) rfl ?_
            refine mm_getr (t := 79) C fl_X12_48 (mm_dec dk_X12_post 41 rfl) rfl rfl (mm_ref i2 rfl) ?_
            refine mm_aload_n C (mm_dec dk_X12_post 42 rfl) rfl ?_
            refine mm_geti C fl_X12_216 (mm_dec dk_X12_post 43 rfl) rfl rfl (Or.inl rfl) ?_
            refine mm_iload_n C (mm_dec dk_X12_post 44 rfl) rfl ?_
            refine mm_iast C (mm_dec dk_X12_post 45 rfl) rfl (by omega) (by omega) ?_
            have i3 : mm_inv (mm_pa h2 79 (h2.1 66 21) p3) := mm_inv_pa i2 (show -2147483648 ≤ p3 ∧ p3 ≤ 2147483647 from ⟨by omega, by omega⟩)
            have f3 : mm_fr [(66, 0), (66, 21)] [78, 79] h (mm_pa h2 79 (h2.1 66 21) p3) := mm_fr_pa f2 (by decide)
            obtain ⟨h3, eh3⟩ : ∃ z, z = mm_pa h2 79 (h2.1 66 21) p3 := ⟨_, rfl⟩
            rw [← eh3] at i3 f3 ⊢
            have qh3_10 : h3.1 66 1 = h2.1 66 1 := by rw [eh3]; rfl
            have qh3_11 : h3.1 66 2 = h2.1 66 2 := by rw [eh3]; rfl
            have qh3_12 : h3.1 66 21 = h2.1 66 21 := by rw [eh3]; rfl
            refine mm_aload_n C (mm_dec dk_X12_post 46 rfl) rfl ?_
            refine mm_dup C (mm_dec dk_X12_post 47 rfl) (show (2 : Nat) ≠ 1 by decide) ?_
            refine mm_geti C fl_X12_216 (mm_dec dk_X12_post 48 rfl) rfl rfl (Or.inl rfl) ?_
            refine mm_iconst C (mm_dec dk_X12_post 49 rfl) ⟨by decide, by decide⟩ ?_
            refine mm_iadd C (mm_dec dk_X12_post 50 rfl) ⟨by omega, by omega⟩ ?_
            refine mm_puti C fl_X12_216 (mm_dec dk_X12_post 51 rfl) rfl rfl rfl (Or.inl ⟨rfl, rfl⟩) ?_
            have i4 : mm_inv (mm_pf h3 66 21 ((h3.1 66 21) + 1)) := mm_inv_pf i3 (show 0 ≤ ((h3.1 66 21) + 1) ∧ ((h3.1 66 21) + 1) ≤ 20 from ⟨by omega, by omega⟩) (by decide)
            have f4 : mm_fr [(66, 0), (66, 21)] [78, 79] h (mm_pf h3 66 21 ((h3.1 66 21) + 1)) := mm_fr_pf f3 (by decide)
            obtain ⟨h4, eh4⟩ : ∃ z, z = mm_pf h3 66 21 ((h3.1 66 21) + 1) := ⟨_, rfl⟩
            rw [← eh4] at i4 f4 ⊢
            have qh4 : h4.1 66 21 = ((h3.1 66 21) + 1) := by rw [eh4]; exact mm_pf_same _ _ _ _
            have qh4_13 : h4.1 66 1 = h3.1 66 1 := by rw [eh4]; exact mm_pf_ne _ _ (by decide)
            have qh4_14 : h4.1 66 2 = h3.1 66 2 := by rw [eh4]; exact mm_pf_ne _ _ (by decide)
            refine mm_aload_n C (mm_dec dk_X12_post 52 rfl) rfl ?_
            refine mm_geti C fl_X12_216 (mm_dec dk_X12_post 53 rfl) rfl rfl (Or.inl rfl) ?_
            refine mm_iconst C (mm_dec dk_X12_post 54 rfl) ⟨by decide, by decide⟩ ?_
            refine mm_isub C (mm_dec dk_X12_post 55 rfl) ⟨by omega, by omega⟩ ?_
            exact mm_iret C T (mm_dec dk_X12_post 56 rfl) (by decide : 0 ≤ 0) (by decide : 0 ≤ 0) ⟨_, rfl, ⟨⟨by omega, by omega⟩, i4, f4⟩⟩
          · skip
            refine mm_fgt 0 ?_
            refine mm_fgt 1 ?_
            refine mm_fgt 2 ?_
            refine mm_fgt 3 ?_
            exact J49
  · skip
    refine mm_iconst C (mm_dec dk_X12_post 5 rfl) ⟨by decide, by decide⟩ ?_
    exact mm_iret C T (mm_dec dk_X12_post 6 rfl) (by decide : 0 ≤ 0) (by decide : 0 ≤ 0) ⟨_, rfl, ⟨⟨by omega, by omega⟩, i3c, f3c⟩⟩
set_option maxRecDepth 100000 in
set_option maxHeartbeats 4000000 in
theorem c_X12_judges (l : Launch) (hl : l.stackTraces = false) (d : Nat) (hd : 3 ≤ d) (h : mH) (i0 : mm_inv h) (p1 : Int) (p2 : Int) (bp1 : 0 ≤ p1 ∧ p1 ≤ 39) : mm_Met l d yX12_judges cX12_judges 4 none [mR 66, mI p1, mI p2] h (mm_pv fun h2 => mm_inv h2 ∧ mm_fr [(66, 39), (66, 48), (66, 52), (66, 53), (66, 54)] [91, 98, 99, 100] h h2) mm_nx 0 0 := by
  refine mm_ofW (ls := [mR 66, mI p1, mI p2, mU]) hl (by decide) rfl (Nat.le_of_ble_eq_true rfl) ?_
  intro x hxl C T hnm htb
  subst hxl
  have C1 := mm_OK_le (d' := d - 1 + 1) (by omega) C
  refine mm_rng (fun hr _ => ?_)
  have ap1 : -2147483648 ≤ p1 ∧ p1 < 2147483648 := mm_ok_at hr (i := 1) rfl
  have ap2 : -2147483648 ≤ p2 ∧ p2 < 2147483648 := mm_ok_at hr (i := 2) rfl
  have f0 : mm_fr [(66, 39), (66, 48), (66, 52), (66, 53), (66, 54)] [91, 98, 99, 100] h h := mm_fr_rf
  refine mm_aload_n C (mm_dec dk_X12_judges 0 rfl) rfl ?_
  refine mm_iload_n C (mm_dec dk_X12_judges 1 rfl) rfl ?_
  refine mm_iload_n C (mm_dec dk_X12_judges 2 rfl) rfl ?_
  refine mm_cVv (rest := []) C1 ev_X12_335 (mm_dec dk_X12_judges 3 rfl) (c_X12_finds x.2.1 hl (d - 1) (by omega) h i0 p1 p2 ⟨by omega, by omega⟩) rfl rfl (Nat.le_of_ble_eq_true rfl) ⟨by decide, by decide⟩ rfl (fun h3c hp3 => ?_) (fun _ _ q => q.elim)
  obtain ⟨i3c, g3c⟩ := hp3
  have f3c : mm_fr [(66, 39), (66, 48), (66, 52), (66, 53), (66, 54)] [91, 98, 99, 100] h h3c := mm_fr_tr f0 g3c (by decide +kernel)
  refine mm_iconst C (mm_dec dk_X12_judges 4 rfl) ⟨by decide, by decide⟩ ?_
  have J8 : ∀ (n : Nat) (x8_3 : Int) (bx8_3 : 0 ≤ x8_3 ∧ x8_3 ≤ 12) (h8_ : mH) (i8_ : mm_inv h8_) (f8_ : mm_fr [(66, 39), (66, 48), (66, 52), (66, 53), (66, 54)] [91, 98, 99, 100] h h8_), (12 - x8_3 : Int) < n → mm_W x 0 0 8 [mR 66, mI p1, mU, mI x8_3] [] h8_ := by
    intro n
    induction n with
    | zero =>
      intro x8_3 bx8_3 h8_ i8_ f8_ hm
      exfalso; omega
    | succ n ih8 =>
      intro x8_3 bx8_3 h8_ i8_ f8_ hm8
      refine mm_iload_n C (mm_dec dk_X12_judges 6 rfl) rfl ?_
      refine mm_bipush C (mm_dec dk_X12_judges 7 rfl) ⟨by decide, by decide⟩ ?_
      refine mm_icmp_ge (tgt := 27) C (mm_dec dk_X12_judges 8 rfl) (by decide) (fun c11 => ?_) (fun c11 => ?_)
      · skip
        refine mm_aload_n C (mm_dec dk_X12_judges 16 rfl) rfl ?_
        refine mm_getr (t := 83) C fl_X12_60 (mm_dec dk_X12_judges 17 rfl) rfl rfl (mm_ref i8_ rfl) ?_
        refine mm_aload_n C (mm_dec dk_X12_judges 18 rfl) rfl ?_
        refine mm_getr (t := 85) C fl_X12_66 (mm_dec dk_X12_judges 19 rfl) rfl rfl (mm_ref i8_ rfl) ?_
        refine mm_iload_n C (mm_dec dk_X12_judges 20 rfl) rfl ?_
        refine mm_iald C (mm_dec dk_X12_judges 21 rfl) rfl (by omega) (by omega) ?_
        have g2 : 0 ≤ (h8_.2.1 85 p1) ∧ (h8_.2.1 85 p1) ≤ 7 := i8_.2.1 85 p1
        refine mm_zald C (mm_dec dk_X12_judges 22 rfl) rfl (by omega) (by omega) ?_
        have g3 : 0 ≤ (h8_.2.1 83 (h8_.2.1 85 p1)) ∧ (h8_.2.1 83 (h8_.2.1 85 p1)) ≤ 1 := i8_.2.1 83 (h8_.2.1 85 p1)
        have J81 : ∀ (h81_ : mH) (i81_ : mm_inv h81_) (f81_ : mm_fr [(66, 39), (66, 48), (66, 52), (66, 53), (66, 54)] [91, 98, 99, 100] h h81_), mm_W x 0 0 81 [mR 66, mU, mU, mU] [] h81_ := by
          intro h81_ i81_ f81_
          refine mm_aload_n C (mm_dec dk_X12_judges 46 rfl) rfl ?_
          refine mm_iconst C (mm_dec dk_X12_judges 47 rfl) ⟨by decide, by decide⟩ ?_
          refine mm_puti C fl_X12_347 (mm_dec dk_X12_judges 48 rfl) rfl rfl rfl (Or.inl ⟨rfl, rfl⟩) ?_
          have i2 : mm_inv (mm_pf h81_ 66 54 0) := mm_inv_pf i81_ (show -2147483648 ≤ 0 ∧ 0 ≤ 2147483647 from ⟨by omega, by omega⟩) (by decide)
          have f2 : mm_fr [(66, 39), (66, 48), (66, 52), (66, 53), (66, 54)] [91, 98, 99, 100] h (mm_pf h81_ 66 54 0) := mm_fr_pf f81_ (by decide)
          obtain ⟨h2, eh2⟩ : ∃ z, z = mm_pf h81_ 66 54 0 := ⟨_, rfl⟩
          rw [← eh2] at i2 f2 ⊢
          have qh2 : h2.1 66 54 = 0 := by rw [eh2]; exact mm_pf_same _ _ _ _
          refine mm_iconst C (mm_dec dk_X12_judges 49 rfl) ⟨by decide, by decide⟩ ?_
          have J88 : ∀ (n : Nat) (x88_3 : Int) (bx88_3 : 0 ≤ x88_3 ∧ x88_3 ≤ 12) (h88_ : mH) (i88_ : mm_inv h88_) (f88_ : mm_fr [(66, 39), (66, 48), (66, 52), (66, 53), (66, 54)] [91, 98, 99, 100] h h88_), (12 - x88_3 : Int) < n → mm_W x 0 0 88 [mR 66, mU, mU, mI x88_3] [] h88_ := by
            intro n
            induction n with
            | zero =>
              intro x88_3 bx88_3 h88_ i88_ f88_ hm
              exfalso; omega
            | succ n ih88 =>
              intro x88_3 bx88_3 h88_ i88_ f88_ hm88
              refine mm_iload_n C (mm_dec dk_X12_judges 51 rfl) rfl ?_
              refine mm_aload_n C (mm_dec dk_X12_judges 52 rfl) rfl ?_
              refine mm_geti C fl_X12_296 (mm_dec dk_X12_judges 53 rfl) rfl rfl (Or.inl rfl) ?_
              have g4 : 0 ≤ (h88_.1 66 39) ∧ (h88_.1 66 39) ≤ 12 := i88_.1 66 39
              refine mm_icmp_ge (tgt := 132) C (mm_dec dk_X12_judges 54 rfl) (by decide) (fun c93 => ?_) (fun c93 => ?_)
              · skip
                exact mm_vret C T (mm_dec dk_X12_judges 75 rfl) (by decide : 0 ≤ 0) (by decide : 0 ≤ 0) ⟨rfl, ⟨i88_, f88_⟩⟩
              · skip
                refine mm_aload_n C (mm_dec dk_X12_judges 55 rfl) rfl ?_
                refine mm_getr (t := 100) C fl_X12_111 (mm_dec dk_X12_judges 56 rfl) rfl rfl (mm_ref i88_ rfl) ?_
                refine mm_iload_n C (mm_dec dk_X12_judges 57 rfl) rfl ?_
                refine mm_iald C (mm_dec dk_X12_judges 58 rfl) rfl (by omega) (by omega) ?_
                have g5 : -1 ≤ (h88_.2.1 100 x88_3) ∧ (h88_.2.1 100 x88_3) ≤ 499 := i88_.2.1 100 x88_3
                refine mm_iconst C (mm_dec dk_X12_judges 59 rfl) ⟨by decide, by decide⟩ ?_
                have J126 : ∀ (h126_ : mH) (i126_ : mm_inv h126_) (f126_ : mm_fr [(66, 39), (66, 48), (66, 52), (66, 53), (66, 54)] [91, 98, 99, 100] h h126_), mm_W x 0 0 126 [mR 66, mU, mU, mI x88_3] [] h126_ := by
                  intro h126_ i126_ f126_
                  refine mm_iincL (ls2 := [mR 66, mU, mU, mI (x88_3 + 1)]) C (mm_dec dk_X12_judges 73 rfl) rfl (by decide) ⟨by omega, by omega⟩ rfl ?_
                  refine mm_goto (tgt := 88) C (mm_dec dk_X12_judges 74 rfl) (by decide) ?_
                  exact ih88 (x88_3 + 1) ⟨by omega, by omega⟩ h126_ i126_ f126_ (by omega)
                refine mm_icmp_eq (tgt := 126) C (mm_dec dk_X12_judges 60 rfl) (by decide) (fun c103 => ?_) (fun c103 => ?_)
                · skip
                  exact J126 h88_ i88_ f88_
                · skip
                  refine mm_aload_n C (mm_dec dk_X12_judges 61 rfl) rfl ?_
                  refine mm_dup C (mm_dec dk_X12_judges 62 rfl) (show (2 : Nat) ≠ 1 by decide) ?_
                  refine mm_geti C fl_X12_347 (mm_dec dk_X12_judges 63 rfl) rfl rfl (Or.inl rfl) ?_
                  have g6 : -2147483648 ≤ (h88_.1 66 54) ∧ (h88_.1 66 54) ≤ 2147483647 := i88_.1 66 54
                  refine mm_aload_n C (mm_dec dk_X12_judges 64 rfl) rfl ?_
                  refine mm_getr (t := 79) C fl_X12_48 (mm_dec dk_X12_judges 65 rfl) rfl rfl (mm_ref i88_ rfl) ?_
                  refine mm_aload_n C (mm_dec dk_X12_judges 66 rfl) rfl ?_
                  refine mm_getr (t := 91) C fl_X12_84 (mm_dec dk_X12_judges 67 rfl) rfl rfl (mm_ref i88_ rfl) ?_
                  refine mm_iload_n C (mm_dec dk_X12_judges 68 rfl) rfl ?_
                  refine mm_iald C (mm_dec dk_X12_judges 69 rfl) rfl (by omega) (by omega) ?_
                  have g7 : 0 ≤ (h88_.2.1 91 x88_3) ∧ (h88_.2.1 91 x88_3) ≤ 19 := i88_.2.1 91 x88_3
                  refine mm_iald C (mm_dec dk_X12_judges 70 rfl) rfl (by omega) (by omega) ?_
                  have g8 : -2147483648 ≤ (h88_.2.1 79 (h88_.2.1 91 x88_3)) ∧ (h88_.2.1 79 (h88_.2.1 91 x88_3)) ≤ 2147483647 := i88_.2.1 79 (h88_.2.1 91 x88_3)
                  refine mm_iaddw C (mm_dec dk_X12_judges 71 rfl) ?_
                  have g9 : -2147483648 ≤ (mm_w ((h88_.1 66 54) + (h88_.2.1 79 (h88_.2.1 91 x88_3)))) ∧ (mm_w ((h88_.1 66 54) + (h88_.2.1 79 (h88_.2.1 91 x88_3)))) < 2147483648 := mm_w_rg _
                  refine mm_puti C fl_X12_347 (mm_dec dk_X12_judges 72 rfl) rfl rfl rfl (Or.inl ⟨rfl, rfl⟩) ?_
                  have i3 : mm_inv (mm_pf h88_ 66 54 (mm_w ((h88_.1 66 54) + (h88_.2.1 79 (h88_.2.1 91 x88_3))))) := mm_inv_pf i88_ (show -2147483648 ≤ (mm_w ((h88_.1 66 54) + (h88_.2.1 79 (h88_.2.1 91 x88_3)))) ∧ (mm_w ((h88_.1 66 54) + (h88_.2.1 79 (h88_.2.1 91 x88_3)))) ≤ 2147483647 from ⟨by omega, by omega⟩) (by decide)
                  have f3 : mm_fr [(66, 39), (66, 48), (66, 52), (66, 53), (66, 54)] [91, 98, 99, 100] h (mm_pf h88_ 66 54 (mm_w ((h88_.1 66 54) + (h88_.2.1 79 (h88_.2.1 91 x88_3))))) := mm_fr_pf f88_ (by decide)
                  obtain ⟨h3, eh3⟩ : ∃ z, z = mm_pf h88_ 66 54 (mm_w ((h88_.1 66 54) + (h88_.2.1 79 (h88_.2.1 91 x88_3)))) := ⟨_, rfl⟩
                  rw [← eh3] at i3 f3 ⊢
                  have qh3 : h3.1 66 54 = (mm_w ((h88_.1 66 54) + (h88_.2.1 79 (h88_.2.1 91 x88_3)))) := by rw [eh3]; exact mm_pf_same _ _ _ _
                  have qh3_10 : h3.1 66 39 = h88_.1 66 39 := by rw [eh3]; exact mm_pf_ne _ _ (by decide)
                  exact J126 h3 i3 f3
          refine mm_istore_nL (ls2 := [mR 66, mU, mU, mI 0]) C (mm_dec dk_X12_judges 50 rfl) (by decide) rfl ?_
          exact J88 (((12 - 0) : Int) + 1).toNat 0 ⟨by omega, by omega⟩ h2 i2 f2 (by omega)
        refine mm_if_eq (tgt := 77) C (mm_dec dk_X12_judges 23 rfl) (by decide) (fun c38 => ?_) (fun c38 => ?_)
        · skip
          refine mm_aload_n C (mm_dec dk_X12_judges 44 rfl) rfl ?_
          refine mm_cVv (rest := []) C1 ev_X12_344 (mm_dec dk_X12_judges 45 rfl) (c_X12_inOrder x.2.1 hl (d - 1) (by omega) h8_ i8_ ) rfl rfl (Nat.le_of_ble_eq_true rfl) ⟨by decide, by decide⟩ rfl (fun h78c hp78 => ?_) (fun _ _ q => q.elim)
          obtain ⟨i78c, g78c⟩ := hp78
          have f78c : mm_fr [(66, 39), (66, 48), (66, 52), (66, 53), (66, 54)] [91, 98, 99, 100] h h78c := mm_fr_tr f8_ g78c (by decide +kernel)
          refine mm_fgt 1 ?_
          refine mm_fgt 3 ?_
          exact J81 h78c i78c f78c
        · skip
          refine mm_iconst C (mm_dec dk_X12_judges 24 rfl) ⟨by decide, by decide⟩ ?_
          have J43 : ∀ (n : Nat) (x43_3 : Int) (bx43_3 : 0 ≤ x43_3 ∧ x43_3 ≤ 12) (h43_ : mH) (i43_ : mm_inv h43_) (f43_ : mm_fr [(66, 39), (66, 48), (66, 52), (66, 53), (66, 54)] [91, 98, 99, 100] h h43_), (12 - x43_3 : Int) < n → mm_W x 0 0 43 [mR 66, mU, mU, mI x43_3] [] h43_ := by
            intro n
            induction n with
            | zero =>
              intro x43_3 bx43_3 h43_ i43_ f43_ hm
              exfalso; omega
            | succ n ih43 =>
              intro x43_3 bx43_3 h43_ i43_ f43_ hm43
              refine mm_iload_n C (mm_dec dk_X12_judges 26 rfl) rfl ?_
              refine mm_aload_n C (mm_dec dk_X12_judges 27 rfl) rfl ?_
              refine mm_geti C fl_X12_296 (mm_dec dk_X12_judges 28 rfl) rfl rfl (Or.inl rfl) ?_
              have g12 : 0 ≤ (h43_.1 66 39) ∧ (h43_.1 66 39) ≤ 12 := i43_.1 66 39
              refine mm_icmp_ge (tgt := 69) C (mm_dec dk_X12_judges 29 rfl) (by decide) (fun c48 => ?_) (fun c48 => ?_)
              · skip
                refine mm_aload_n C (mm_dec dk_X12_judges 40 rfl) rfl ?_
                refine mm_iconst C (mm_dec dk_X12_judges 41 rfl) ⟨by decide, by decide⟩ ?_
                refine mm_puti C fl_X12_341 (mm_dec dk_X12_judges 42 rfl) rfl rfl rfl (Or.inl ⟨rfl, rfl⟩) ?_
                have i5 : mm_inv (mm_pf h43_ 66 52 0) := mm_inv_pf i43_ (show -2147483648 ≤ 0 ∧ 0 ≤ 2147483647 from ⟨by omega, by omega⟩) (by decide)
                have f5 : mm_fr [(66, 39), (66, 48), (66, 52), (66, 53), (66, 54)] [91, 98, 99, 100] h (mm_pf h43_ 66 52 0) := mm_fr_pf f43_ (by decide)
                obtain ⟨h5, eh5⟩ : ∃ z, z = mm_pf h43_ 66 52 0 := ⟨_, rfl⟩
                rw [← eh5] at i5 f5 ⊢
                have qh5 : h5.1 66 52 = 0 := by rw [eh5]; exact mm_pf_same _ _ _ _
                have qh5_13 : h5.1 66 39 = h43_.1 66 39 := by rw [eh5]; exact mm_pf_ne _ _ (by decide)
                refine mm_goto (tgt := 81) C (mm_dec dk_X12_judges 43 rfl) (by decide) ?_
                refine mm_fgt 3 ?_
                exact J81 h5 i5 f5
              · skip
                refine mm_aload_n C (mm_dec dk_X12_judges 30 rfl) rfl ?_
                refine mm_getr (t := 100) C fl_X12_111 (mm_dec dk_X12_judges 31 rfl) rfl rfl (mm_ref i43_ rfl) ?_
                refine mm_iload_n C (mm_dec dk_X12_judges 32 rfl) rfl ?_
                refine mm_aload_n C (mm_dec dk_X12_judges 33 rfl) rfl ?_
                refine mm_iload_n C (mm_dec dk_X12_judges 34 rfl) rfl ?_
                refine mm_iconst C (mm_dec dk_X12_judges 35 rfl) ⟨by decide, by decide⟩ ?_
                refine mm_cVi (rest := [mI x43_3, mR 100]) C1 ev_X12_338 (mm_dec dk_X12_judges 36 rfl) (c_X12_nextPunch x.2.1 hl (d - 1) (by omega) h43_ i43_ x43_3 0 ⟨by omega, by omega⟩ ⟨by omega, by omega⟩) rfl rfl (Nat.le_of_ble_eq_true rfl) ⟨by decide, by decide⟩ rfl (fun r59 h59c hp59 => ?_) (fun _ _ q => q.elim)
                obtain ⟨b59, z59⟩ := hp59
                rw [z59]
                refine mm_iast C (mm_dec dk_X12_judges 37 rfl) rfl (by omega) (by omega) ?_
                have i6 : mm_inv (mm_pa h43_ 100 x43_3 r59) := mm_inv_pa i43_ (show -1 ≤ r59 ∧ r59 ≤ 499 from ⟨by omega, by omega⟩)
                have f6 : mm_fr [(66, 39), (66, 48), (66, 52), (66, 53), (66, 54)] [91, 98, 99, 100] h (mm_pa h43_ 100 x43_3 r59) := mm_fr_pa f43_ (by decide)
                obtain ⟨h6, eh6⟩ : ∃ z, z = mm_pa h43_ 100 x43_3 r59 := ⟨_, rfl⟩
                rw [← eh6] at i6 f6 ⊢
                have qh6_15 : h6.1 66 39 = h43_.1 66 39 := by rw [eh6]; rfl
                refine mm_iincL (ls2 := [mR 66, mU, mU, mI (x43_3 + 1)]) C (mm_dec dk_X12_judges 38 rfl) rfl (by decide) ⟨by omega, by omega⟩ rfl ?_
                refine mm_goto (tgt := 43) C (mm_dec dk_X12_judges 39 rfl) (by decide) ?_
                exact ih43 (x43_3 + 1) ⟨by omega, by omega⟩ h6 i6 f6 (by omega)
          refine mm_istore_nL (ls2 := [mR 66, mI p1, mU, mI 0]) C (mm_dec dk_X12_judges 25 rfl) (by decide) rfl ?_
          refine mm_fgt 1 ?_
          exact J43 (((12 - 0) : Int) + 1).toNat 0 ⟨by omega, by omega⟩ h8_ i8_ f8_ (by omega)
      · skip
        refine mm_aload_n C (mm_dec dk_X12_judges 9 rfl) rfl ?_
        refine mm_getr (t := 100) C fl_X12_111 (mm_dec dk_X12_judges 10 rfl) rfl rfl (mm_ref i8_ rfl) ?_
        refine mm_iload_n C (mm_dec dk_X12_judges 11 rfl) rfl ?_
        refine mm_iconst C (mm_dec dk_X12_judges 12 rfl) ⟨by decide, by decide⟩ ?_
        refine mm_iast C (mm_dec dk_X12_judges 13 rfl) rfl (by omega) (by omega) ?_
        have i7 : mm_inv (mm_pa h8_ 100 x8_3 (-1)) := mm_inv_pa i8_ (show -1 ≤ (-1) ∧ (-1) ≤ 499 from ⟨by omega, by omega⟩)
        have f7 : mm_fr [(66, 39), (66, 48), (66, 52), (66, 53), (66, 54)] [91, 98, 99, 100] h (mm_pa h8_ 100 x8_3 (-1)) := mm_fr_pa f8_ (by decide)
        obtain ⟨h7, eh7⟩ : ∃ z, z = mm_pa h8_ 100 x8_3 (-1) := ⟨_, rfl⟩
        rw [← eh7] at i7 f7 ⊢
        refine mm_iincL (ls2 := [mR 66, mI p1, mU, mI (x8_3 + 1)]) C (mm_dec dk_X12_judges 14 rfl) rfl (by decide) ⟨by omega, by omega⟩ rfl ?_
        refine mm_goto (tgt := 8) C (mm_dec dk_X12_judges 15 rfl) (by decide) ?_
        exact ih8 (x8_3 + 1) ⟨by omega, by omega⟩ h7 i7 f7 (by omega)
  refine mm_istore_nL (ls2 := [mR 66, mI p1, mI p2, mI 0]) C (mm_dec dk_X12_judges 5 rfl) (by decide) rfl ?_
  refine mm_fgt 2 ?_
  exact J8 (((12 - 0) : Int) + 1).toNat 0 ⟨by omega, by omega⟩ h3c i3c f3c (by omega)
set_option maxRecDepth 100000 in
set_option maxHeartbeats 4000000 in
theorem c_X12_feed (l : Launch) (hl : l.stackTraces = false) (d : Nat) (hd : 1 ≤ d) (h : mH) (i0 : mm_inv h) (p1 : Int) (p2 : Int) (p3 : Int) (p4 : Int) (p5 : Int) : mm_Met l d yX12_feed cX12_feed 6 (some .int) [mR 66, mI p1, mI p2, mI p3, mI p4, mI p5] h (mm_pi fun r h2 => (-1 ≤ r ∧ r ≤ 500) ∧ mm_inv h2 ∧ mm_fr [(66, 0), (66, 56)] [101] h h2) mm_nx 0 0 := by
  refine mm_ofW (ls := [mR 66, mI p1, mI p2, mI p3, mI p4, mI p5]) hl (by decide) rfl (Nat.le_of_ble_eq_true rfl) ?_
  intro x hxl C T hnm htb
  subst hxl
  have C1 := mm_OK_le (d' := d - 1 + 1) (by omega) C
  refine mm_rng (fun hr _ => ?_)
  have ap1 : -2147483648 ≤ p1 ∧ p1 < 2147483648 := mm_ok_at hr (i := 1) rfl
  have ap2 : -2147483648 ≤ p2 ∧ p2 < 2147483648 := mm_ok_at hr (i := 2) rfl
  have ap3 : -2147483648 ≤ p3 ∧ p3 < 2147483648 := mm_ok_at hr (i := 3) rfl
  have ap4 : -2147483648 ≤ p4 ∧ p4 < 2147483648 := mm_ok_at hr (i := 4) rfl
  have ap5 : -2147483648 ≤ p5 ∧ p5 < 2147483648 := mm_ok_at hr (i := 5) rfl
  have f0 : mm_fr [(66, 0), (66, 56)] [101] h h := mm_fr_rf
  have g1 : 0 ≤ h.1 66 56 ∧ h.1 66 56 ≤ 500 := i0.1 66 56
  refine mm_aload_n C (mm_dec dk_X12_feed 0 rfl) rfl ?_
  refine mm_iconst C (mm_dec dk_X12_feed 1 rfl) ⟨by decide, by decide⟩ ?_
  refine mm_puti C fl_X12_188 (mm_dec dk_X12_feed 2 rfl) rfl rfl rfl (Or.inl ⟨rfl, rfl⟩) ?_
  have i1 : mm_inv (mm_pf h 66 0 0) := mm_inv_pf i0 (show -2147483648 ≤ 0 ∧ 0 ≤ 2147483647 from ⟨by omega, by omega⟩) (by decide)
  have f1 : mm_fr [(66, 0), (66, 56)] [101] h (mm_pf h 66 0 0) := mm_fr_pf f0 (by decide)
  obtain ⟨h1, eh1⟩ : ∃ z, z = mm_pf h 66 0 0 := ⟨_, rfl⟩
  rw [← eh1] at i1 f1 ⊢
  have qh1 : h1.1 66 0 = 0 := by rw [eh1]; exact mm_pf_same _ _ _ _
  have qh1_2 : h1.1 66 56 = h.1 66 56 := by rw [eh1]; exact mm_pf_ne _ _ (by decide)
  refine mm_aload_n C (mm_dec dk_X12_feed 3 rfl) rfl ?_
  refine mm_geti C fl_X12_350 (mm_dec dk_X12_feed 4 rfl) rfl rfl (Or.inl rfl) ?_
  refine mm_bipush C (mm_dec dk_X12_feed 5 rfl) ⟨by decide, by decide⟩ ?_
  refine mm_iadd C (mm_dec dk_X12_feed 6 rfl) ⟨by omega, by omega⟩ ?_
  refine mm_sipush C (mm_dec dk_X12_feed 7 rfl) ⟨by decide, by decide⟩ ?_
  refine mm_icmp_le (tgt := 20) C (mm_dec dk_X12_feed 8 rfl) (by decide) (fun c15 => ?_) (fun c15 => ?_)
  · skip
    refine mm_aload_n C (mm_dec dk_X12_feed 11 rfl) rfl ?_
    refine mm_iload_n C (mm_dec dk_X12_feed 12 rfl) rfl ?_
    refine mm_cVv (rest := []) C1 ev_X12_353 (mm_dec dk_X12_feed 13 rfl) (c_X12_lays x.2.1 hl (d - 1) (by omega) h1 i1 p1 (by omega)) rfl rfl (Nat.le_of_ble_eq_true rfl) ⟨by decide, by decide⟩ rfl (fun h22c hp22 => ?_) (fun _ _ q => q.elim)
    obtain ⟨i22c, g22c, y22_0⟩ := hp22
    have f22c : mm_fr [(66, 0), (66, 56)] [101] h h22c := mm_fr_tr f1 g22c (by decide +kernel)
    have q22c_4 : h22c.1 66 0 = h1.1 66 0 := g22c.1 66 0 (by decide)
    have g5 : 0 ≤ (h22c.1 66 56) ∧ (h22c.1 66 56) ≤ 500 := i22c.1 66 56
    refine mm_aload_n C (mm_dec dk_X12_feed 14 rfl) rfl ?_
    refine mm_iload_n C (mm_dec dk_X12_feed 15 rfl) rfl ?_
    refine mm_cVv (rest := []) C1 ev_X12_353 (mm_dec dk_X12_feed 16 rfl) (c_X12_lays x.2.1 hl (d - 1) (by omega) h22c i22c p2 (by omega)) rfl rfl (Nat.le_of_ble_eq_true rfl) ⟨by decide, by decide⟩ rfl (fun h27c hp27 => ?_) (fun _ _ q => q.elim)
    obtain ⟨i27c, g27c, y27_0⟩ := hp27
    have f27c : mm_fr [(66, 0), (66, 56)] [101] h h27c := mm_fr_tr f22c g27c (by decide +kernel)
    have q27c_7 : h27c.1 66 0 = h22c.1 66 0 := g27c.1 66 0 (by decide)
    have g8 : 0 ≤ (h27c.1 66 56) ∧ (h27c.1 66 56) ≤ 500 := i27c.1 66 56
    refine mm_aload_n C (mm_dec dk_X12_feed 17 rfl) rfl ?_
    refine mm_iload_n C (mm_dec dk_X12_feed 18 rfl) rfl ?_
    refine mm_cVv (rest := []) C1 ev_X12_353 (mm_dec dk_X12_feed 19 rfl) (c_X12_lays x.2.1 hl (d - 1) (by omega) h27c i27c p3 (by omega)) rfl rfl (Nat.le_of_ble_eq_true rfl) ⟨by decide, by decide⟩ rfl (fun h32c hp32 => ?_) (fun _ _ q => q.elim)
    obtain ⟨i32c, g32c, y32_0⟩ := hp32
    have f32c : mm_fr [(66, 0), (66, 56)] [101] h h32c := mm_fr_tr f27c g32c (by decide +kernel)
    have q32c_10 : h32c.1 66 0 = h27c.1 66 0 := g32c.1 66 0 (by decide)
    have g11 : 0 ≤ (h32c.1 66 56) ∧ (h32c.1 66 56) ≤ 500 := i32c.1 66 56
    refine mm_aload_n C (mm_dec dk_X12_feed 20 rfl) rfl ?_
    refine mm_iload C (mm_dec dk_X12_feed 21 rfl) rfl ?_
    refine mm_cVv (rest := []) C1 ev_X12_353 (mm_dec dk_X12_feed 22 rfl) (c_X12_lays x.2.1 hl (d - 1) (by omega) h32c i32c p4 (by omega)) rfl rfl (Nat.le_of_ble_eq_true rfl) ⟨by decide, by decide⟩ rfl (fun h38c hp38 => ?_) (fun _ _ q => q.elim)
    obtain ⟨i38c, g38c, y38_0⟩ := hp38
    have f38c : mm_fr [(66, 0), (66, 56)] [101] h h38c := mm_fr_tr f32c g38c (by decide +kernel)
    have q38c_13 : h38c.1 66 0 = h32c.1 66 0 := g38c.1 66 0 (by decide)
    have g14 : 0 ≤ (h38c.1 66 56) ∧ (h38c.1 66 56) ≤ 500 := i38c.1 66 56
    refine mm_aload_n C (mm_dec dk_X12_feed 23 rfl) rfl ?_
    refine mm_iload C (mm_dec dk_X12_feed 24 rfl) rfl ?_
    refine mm_cVv (rest := []) C1 ev_X12_353 (mm_dec dk_X12_feed 25 rfl) (c_X12_lays x.2.1 hl (d - 1) (by omega) h38c i38c p5 (by omega)) rfl rfl (Nat.le_of_ble_eq_true rfl) ⟨by decide, by decide⟩ rfl (fun h44c hp44 => ?_) (fun _ _ q => q.elim)
    obtain ⟨i44c, g44c, y44_0⟩ := hp44
    have f44c : mm_fr [(66, 0), (66, 56)] [101] h h44c := mm_fr_tr f38c g44c (by decide +kernel)
    have q44c_16 : h44c.1 66 0 = h38c.1 66 0 := g44c.1 66 0 (by decide)
    have g17 : 0 ≤ (h44c.1 66 56) ∧ (h44c.1 66 56) ≤ 500 := i44c.1 66 56
    refine mm_aload_n C (mm_dec dk_X12_feed 26 rfl) rfl ?_
    refine mm_geti C fl_X12_350 (mm_dec dk_X12_feed 27 rfl) rfl rfl (Or.inl rfl) ?_
    exact mm_iret C T (mm_dec dk_X12_feed 28 rfl) (by decide : 0 ≤ 0) (by decide : 0 ≤ 0) ⟨_, rfl, ⟨⟨by omega, by omega⟩, i44c, f44c⟩⟩
  · skip
    refine mm_iconst C (mm_dec dk_X12_feed 9 rfl) ⟨by decide, by decide⟩ ?_
    exact mm_iret C T (mm_dec dk_X12_feed 10 rfl) (by decide : 0 ≤ 0) (by decide : 0 ≤ 0) ⟨_, rfl, ⟨⟨by omega, by omega⟩, i1, f1⟩⟩
set_option maxRecDepth 100000 in
set_option maxHeartbeats 4000000 in
theorem c_X12_split (l : Launch) (hl : l.stackTraces = false) (d : Nat) (hd : 4 ≤ d) (h : mH) (i0 : mm_inv h) (p1 : Int) (p2 : Int) (p3 : Int) : mm_Met l d yX12_split cX12_split 5 (some .int) [mR 66, mI p1, mI p2, mI p3] h (mm_pi fun r h2 => (-2147483648 ≤ r ∧ r ≤ 2147483647) ∧ mm_inv h2 ∧ mm_fr [(66, 0), (66, 39), (66, 48), (66, 52), (66, 53), (66, 54)] [91, 98, 99, 100] h h2) mm_nx 0 0 := by
  refine mm_ofW (ls := [mR 66, mI p1, mI p2, mI p3, mU]) hl (by decide) rfl (Nat.le_of_ble_eq_true rfl) ?_
  intro x hxl C T hnm htb
  subst hxl
  have C1 := mm_OK_le (d' := d - 1 + 1) (by omega) C
  refine mm_rng (fun hr _ => ?_)
  have ap1 : -2147483648 ≤ p1 ∧ p1 < 2147483648 := mm_ok_at hr (i := 1) rfl
  have ap2 : -2147483648 ≤ p2 ∧ p2 < 2147483648 := mm_ok_at hr (i := 2) rfl
  have ap3 : -2147483648 ≤ p3 ∧ p3 < 2147483648 := mm_ok_at hr (i := 3) rfl
  have f0 : mm_fr [(66, 0), (66, 39), (66, 48), (66, 52), (66, 53), (66, 54)] [91, 98, 99, 100] h h := mm_fr_rf
  have g1 : 0 ≤ h.1 66 39 ∧ h.1 66 39 ≤ 12 := i0.1 66 39
  have g2 : 0 ≤ h.1 66 23 ∧ h.1 66 23 ≤ 40 := i0.1 66 23
  refine mm_aload_n C (mm_dec dk_X12_split 0 rfl) rfl ?_
  refine mm_iload_n C (mm_dec dk_X12_split 1 rfl) rfl ?_
  refine mm_cVi (rest := []) C1 ev_X12_308 (mm_dec dk_X12_split 2 rfl) (c_X12_isRunner x.2.1 hl (d - 1) (by omega) h i0 p1) rfl rfl (Nat.le_of_ble_eq_true rfl) ⟨by decide, by decide⟩ rfl (fun r2 h2c hp2 => ?_) (fun _ _ q => q.elim)
  obtain ⟨b2, i2c, g2c, y2_0⟩ := hp2
  have f2c : mm_fr [(66, 0), (66, 39), (66, 48), (66, 52), (66, 53), (66, 54)] [91, 98, 99, 100] h h2c := mm_fr_tr f0 g2c (by decide +kernel)
  have q2c_4 : h2c.1 66 23 = h.1 66 23 := g2c.1 66 23 (by decide)
  have q2c_5 : h2c.1 66 39 = h.1 66 39 := g2c.1 66 39 (by decide)
  refine mm_if_ne (tgt := 10) C (mm_dec dk_X12_split 3 rfl) (by decide) (fun c5 => ?_) (fun c5 => ?_)
  · skip
    refine mm_aload_n C (mm_dec dk_X12_split 6 rfl) rfl ?_
    refine mm_iload_n C (mm_dec dk_X12_split 7 rfl) rfl ?_
    refine mm_cVv (rest := []) C1 ev_X12_302 (mm_dec dk_X12_split 8 rfl) (c_X12_rows x.2.1 hl (d - 1) (by omega) h2c i2c p1 ⟨by omega, by omega⟩) rfl rfl (Nat.le_of_ble_eq_true rfl) ⟨by decide, by decide⟩ rfl (fun h12c hp12 => ?_) (fun _ _ q => q.elim)
    obtain ⟨i12c, g12c⟩ := hp12
    have f12c : mm_fr [(66, 0), (66, 39), (66, 48), (66, 52), (66, 53), (66, 54)] [91, 98, 99, 100] h h12c := mm_fr_tr f2c g12c (by decide +kernel)
    have q12c_7 : h12c.1 66 23 = h2c.1 66 23 := g12c.1 66 23 (by decide)
    have g8 : 0 ≤ (h12c.1 66 39) ∧ (h12c.1 66 39) ≤ 12 := i12c.1 66 39
    refine mm_aload_n C (mm_dec dk_X12_split 9 rfl) rfl ?_
    refine mm_iload_n C (mm_dec dk_X12_split 10 rfl) rfl ?_
    have J33 : ∀ (s33_1 : Int) (bs33_1 : 0 ≤ s33_1 ∧ s33_1 ≤ 1) (vs33_1 : (s33_1 = 0) ∨ (0 ≤ p2 ∧ p2 < (h12c.1 66 39) ∧ s33_1 = 1)), mm_W x 0 0 33 [mR 66, mI p1, mI p2, mI p3, mU] [mI s33_1, mR 66] h12c := by
      intro s33_1 bs33_1 vs33_1
      refine mm_iconst C (mm_dec dk_X12_split 19 rfl) ⟨by decide, by decide⟩ ?_
      refine mm_cVi (rest := []) C1 ev_X12_251 (mm_dec dk_X12_split 20 rfl) (c_X12_right x.2.1 hl (d - 1) (by omega) h12c i12c s33_1 1 ⟨by omega, by omega⟩ (by omega)) rfl rfl (Nat.le_of_ble_eq_true rfl) ⟨by decide, by decide⟩ rfl (fun r34 h34c hp34 => ?_) (fun _ _ q => q.elim)
      obtain ⟨b34, i34c, g34c, y34_0⟩ := hp34
      have f34c : mm_fr [(66, 0), (66, 39), (66, 48), (66, 52), (66, 53), (66, 54)] [91, 98, 99, 100] h h34c := mm_fr_tr f12c g34c (by decide +kernel)
      have q34c_10 : h34c.1 66 23 = h12c.1 66 23 := g34c.1 66 23 (by decide)
      have q34c_11 : h34c.1 66 39 = h12c.1 66 39 := g34c.1 66 39 (by decide)
      have J48 : ∀ (h48_ : mH) (i48_ : mm_inv h48_) (f48_ : mm_fr [(66, 0), (66, 39), (66, 48), (66, 52), (66, 53), (66, 54)] [91, 98, 99, 100] h h48_), mm_W x 0 0 48 [mU, mU, mU, mU, mU] [] h48_ := by
        intro h48_ i48_ f48_
        have g12 : 0 ≤ h48_.1 66 39 ∧ h48_.1 66 39 ≤ 12 := i48_.1 66 39
        have g13 : 0 ≤ h48_.1 66 23 ∧ h48_.1 66 23 ≤ 40 := i48_.1 66 23
        have g14 : h48_.1 66 23 = h.1 66 23 := f48_.1 66 23 (by decide)
        refine mm_iconst C (mm_dec dk_X12_split 26 rfl) ⟨by decide, by decide⟩ ?_
        exact mm_iret C T (mm_dec dk_X12_split 27 rfl) (by decide : 0 ≤ 0) (by decide : 0 ≤ 0) ⟨_, rfl, ⟨⟨by omega, by omega⟩, i48_, f48_⟩⟩
      refine mm_if_eq (tgt := 48) C (mm_dec dk_X12_split 21 rfl) (by decide) (fun c37 => ?_) (fun c37 => ?_)
      · skip
        refine mm_fgt 0 ?_
        refine mm_fgt 1 ?_
        refine mm_fgt 2 ?_
        refine mm_fgt 3 ?_
        exact J48 h34c i34c f34c
      · skip
        refine mm_aload_n C (mm_dec dk_X12_split 22 rfl) rfl ?_
        refine mm_iload_n C (mm_dec dk_X12_split 23 rfl) rfl ?_
        refine mm_cVi (rest := []) C1 ev_X12_499 (mm_dec dk_X12_split 24 rfl) (c_X12_isSecond x.2.1 hl (d - 1) (by omega) h34c i34c p3) rfl rfl (Nat.le_of_ble_eq_true rfl) ⟨by decide, by decide⟩ rfl (fun r42 h42c hp42 => ?_) (fun _ _ q => q.elim)
        obtain ⟨b42, i42c, g42c, y42_0⟩ := hp42
        have f42c : mm_fr [(66, 0), (66, 39), (66, 48), (66, 52), (66, 53), (66, 54)] [91, 98, 99, 100] h h42c := mm_fr_tr f34c g42c (by decide +kernel)
        have q42c_16 : h42c.1 66 23 = h34c.1 66 23 := g42c.1 66 23 (by decide)
        have q42c_17 : h42c.1 66 39 = h34c.1 66 39 := g42c.1 66 39 (by decide)
        have g18 : 0 ≤ (h42c.1 66 41) ∧ (h42c.1 66 41) ≤ 99999 := i42c.1 66 41
        refine mm_if_ne (tgt := 50) C (mm_dec dk_X12_split 25 rfl) (by decide) (fun c45 => ?_) (fun c45 => ?_)
        · skip
          refine mm_aload_n C (mm_dec dk_X12_split 28 rfl) rfl ?_
          refine mm_iload_n C (mm_dec dk_X12_split 29 rfl) rfl ?_
          refine mm_iload_n C (mm_dec dk_X12_split 30 rfl) rfl ?_
          refine mm_cVv (rest := []) C1 ev_X12_469 (mm_dec dk_X12_split 31 rfl) (c_X12_judges x.2.1 hl (d - 1) (by omega) h42c i42c p1 p3 ⟨by omega, by omega⟩) rfl rfl (Nat.le_of_ble_eq_true rfl) ⟨by decide, by decide⟩ rfl (fun h53c hp53 => ?_) (fun _ _ q => q.elim)
          obtain ⟨i53c, g53c⟩ := hp53
          have f53c : mm_fr [(66, 0), (66, 39), (66, 48), (66, 52), (66, 53), (66, 54)] [91, 98, 99, 100] h h53c := mm_fr_tr f42c g53c (by decide +kernel)
          have q53c_20 : h53c.1 66 23 = h42c.1 66 23 := g53c.1 66 23 (by decide)
          have q53c_21 : h53c.1 66 41 = h42c.1 66 41 := g53c.1 66 41 (by decide)
          have g22 : 0 ≤ (h53c.1 66 39) ∧ (h53c.1 66 39) ≤ 12 := i53c.1 66 39
          refine mm_aload_n C (mm_dec dk_X12_split 32 rfl) rfl ?_
          refine mm_iload_n C (mm_dec dk_X12_split 33 rfl) rfl ?_
          refine mm_iload_n C (mm_dec dk_X12_split 34 rfl) rfl ?_
          refine mm_cVi (rest := []) C1 ev_X12_472 (mm_dec dk_X12_split 35 rfl) (c_X12_startOf x.2.1 hl (d - 1) (by omega) h53c i53c p1 p3 ⟨by omega, by omega⟩) rfl rfl (Nat.le_of_ble_eq_true rfl) ⟨by decide, by decide⟩ rfl (fun r59 h59c hp59 => ?_) (fun _ _ q => q.elim)
          obtain ⟨b59, z59⟩ := hp59
          rw [z59]
          refine mm_istoreL (ls2 := [mR 66, mI p1, mI p2, mI p3, mI r59]) C (mm_dec dk_X12_split 36 rfl) (by decide) rfl ?_
          refine mm_iload C (mm_dec dk_X12_split 37 rfl) rfl ?_
          refine mm_iconst C (mm_dec dk_X12_split 38 rfl) ⟨by decide, by decide⟩ ?_
          have J103 : ∀ (s103_0 : Int) (bs103_0 : -2147483648 ≤ s103_0 ∧ s103_0 ≤ 2147483647), mm_W x 0 0 103 [mU, mU, mU, mU, mU] [mI s103_0] h53c := by
            intro s103_0 bs103_0
            exact mm_iret C T (mm_dec dk_X12_split 60 rfl) (by decide : 0 ≤ 0) (by decide : 0 ≤ 0) ⟨_, rfl, ⟨⟨by omega, by omega⟩, i53c, f53c⟩⟩
          have J80 : mm_W x 0 0 80 [mU, mU, mU, mU, mU] [] h53c := by
            refine mm_iconst C (mm_dec dk_X12_split 46 rfl) ⟨by decide, by decide⟩ ?_
            refine mm_goto (tgt := 103) C (mm_dec dk_X12_split 47 rfl) (by decide) ?_
            exact J103 (-1) ⟨by omega, by omega⟩
          refine mm_icmp_eq (tgt := 80) C (mm_dec dk_X12_split 39 rfl) (by decide) (fun c67 => ?_) (fun c67 => ?_)
          · skip
            refine mm_fgt 0 ?_
            refine mm_fgt 1 ?_
            refine mm_fgt 2 ?_
            refine mm_fgt 3 ?_
            refine mm_fgt 4 ?_
            exact J80
          · skip
            refine mm_aload_n C (mm_dec dk_X12_split 40 rfl) rfl ?_
            refine mm_getr (t := 100) C fl_X12_111 (mm_dec dk_X12_split 41 rfl) rfl rfl (mm_ref i53c rfl) ?_
            refine mm_iload_n C (mm_dec dk_X12_split 42 rfl) rfl ?_
            refine mm_iald C (mm_dec dk_X12_split 43 rfl) rfl (by omega) (by omega) ?_
            have g24 : -1 ≤ (h53c.2.1 100 p2) ∧ (h53c.2.1 100 p2) ≤ 499 := i53c.2.1 100 p2
            refine mm_iconst C (mm_dec dk_X12_split 44 rfl) ⟨by decide, by decide⟩ ?_
            refine mm_icmp_ne (tgt := 84) C (mm_dec dk_X12_split 45 rfl) (by decide) (fun c77 => ?_) (fun c77 => ?_)
            · skip
              refine mm_aload_n C (mm_dec dk_X12_split 48 rfl) rfl ?_
              refine mm_getr (t := 95) C fl_X12_96 (mm_dec dk_X12_split 49 rfl) rfl rfl (mm_ref i53c rfl) ?_
              refine mm_aload_n C (mm_dec dk_X12_split 50 rfl) rfl ?_
              refine mm_getr (t := 98) C fl_X12_105 (mm_dec dk_X12_split 51 rfl) rfl rfl (mm_ref i53c rfl) ?_
              refine mm_aload_n C (mm_dec dk_X12_split 52 rfl) rfl ?_
              refine mm_getr (t := 100) C fl_X12_111 (mm_dec dk_X12_split 53 rfl) rfl rfl (mm_ref i53c rfl) ?_
              refine mm_iload_n C (mm_dec dk_X12_split 54 rfl) rfl ?_
              refine mm_iald C (mm_dec dk_X12_split 55 rfl) rfl (by omega) (by omega) ?_
              refine mm_iald C (mm_dec dk_X12_split 56 rfl) rfl (by omega) (by omega) ?_
              have g25 : 0 ≤ (h53c.2.1 98 (h53c.2.1 100 p2)) ∧ (h53c.2.1 98 (h53c.2.1 100 p2)) ≤ 499 := i53c.2.1 98 (h53c.2.1 100 p2)
              refine mm_iald C (mm_dec dk_X12_split 57 rfl) rfl (by omega) (by omega) ?_
              have g26 : -2147483648 ≤ (h53c.2.1 95 (h53c.2.1 98 (h53c.2.1 100 p2))) ∧ (h53c.2.1 95 (h53c.2.1 98 (h53c.2.1 100 p2))) ≤ 2147483647 := i53c.2.1 95 (h53c.2.1 98 (h53c.2.1 100 p2))
              refine mm_iload C (mm_dec dk_X12_split 58 rfl) rfl ?_
              refine mm_isubw C (mm_dec dk_X12_split 59 rfl) ?_
              have g27 : -2147483648 ≤ (mm_w ((h53c.2.1 95 (h53c.2.1 98 (h53c.2.1 100 p2))) - r59)) ∧ (mm_w ((h53c.2.1 95 (h53c.2.1 98 (h53c.2.1 100 p2))) - r59)) < 2147483648 := mm_w_rg _
              refine mm_fgt 0 ?_
              refine mm_fgt 1 ?_
              refine mm_fgt 2 ?_
              refine mm_fgt 3 ?_
              refine mm_fgt 4 ?_
              exact J103 (mm_w ((h53c.2.1 95 (h53c.2.1 98 (h53c.2.1 100 p2))) - r59)) ⟨by omega, by omega⟩
            · skip
              refine mm_fgt 0 ?_
              refine mm_fgt 1 ?_
              refine mm_fgt 2 ?_
              refine mm_fgt 3 ?_
              refine mm_fgt 4 ?_
              exact J80
        · skip
          refine mm_fgt 0 ?_
          refine mm_fgt 1 ?_
          refine mm_fgt 2 ?_
          refine mm_fgt 3 ?_
          exact J48 h42c i42c f42c
    have J32 : mm_W x 0 0 32 [mR 66, mI p1, mI p2, mI p3, mU] [mR 66] h12c := by
      refine mm_iconst C (mm_dec dk_X12_split 18 rfl) ⟨by decide, by decide⟩ ?_
      exact J33 0 ⟨by omega, by omega⟩ (Or.inl rfl)
    refine mm_if_lt (tgt := 32) C (mm_dec dk_X12_split 11 rfl) (by decide) (fun c17 => ?_) (fun c17 => ?_)
    · skip
      exact J32
    · skip
      refine mm_iload_n C (mm_dec dk_X12_split 12 rfl) rfl ?_
      refine mm_aload_n C (mm_dec dk_X12_split 13 rfl) rfl ?_
      refine mm_geti C fl_X12_296 (mm_dec dk_X12_split 14 rfl) rfl rfl (Or.inl rfl) ?_
      refine mm_icmp_ge (tgt := 32) C (mm_dec dk_X12_split 15 rfl) (by decide) (fun c25 => ?_) (fun c25 => ?_)
      · skip
        exact J32
      · skip
        refine mm_iconst C (mm_dec dk_X12_split 16 rfl) ⟨by decide, by decide⟩ ?_
        refine mm_goto (tgt := 33) C (mm_dec dk_X12_split 17 rfl) (by decide) ?_
        exact J33 1 ⟨by omega, by omega⟩ (Or.inr (⟨by omega, by omega, rfl⟩))
  · skip
    refine mm_iconst C (mm_dec dk_X12_split 4 rfl) ⟨by decide, by decide⟩ ?_
    exact mm_iret C T (mm_dec dk_X12_split 5 rfl) (by decide : 0 ≤ 0) (by decide : 0 ≤ 0) ⟨_, rfl, ⟨⟨by omega, by omega⟩, i2c, f2c⟩⟩
set_option maxRecDepth 100000 in
set_option maxHeartbeats 4000000 in
theorem c_X12_track (l : Launch) (hl : l.stackTraces = false) (d : Nat) (hd : 2 ≤ d) (h : mH) (i0 : mm_inv h) (p1 : Int) (p2 : Int) : mm_Met l d yX12_track cX12_track 10 (some .int) [mR 66, mI p1, mI p2] h (mm_pi fun r h2 => (-2147483648 ≤ r ∧ r ≤ 2147483647) ∧ mm_inv h2 ∧ mm_fr [(66, 0), (66, 39), (66, 56), (66, 58)] [91, 122, 123] h h2) mm_nx 0 0 := by
  refine mm_ofW (ls := [mR 66, mI p1, mI p2, mU, mU, mU, mU, mU, mU, mU]) hl (by decide) rfl (Nat.le_of_ble_eq_true rfl) ?_
  intro x hxl C T hnm htb
  subst hxl
  have C1 := mm_OK_le (d' := d - 1 + 1) (by omega) C
  refine mm_rng (fun hr _ => ?_)
  have ap1 : -2147483648 ≤ p1 ∧ p1 < 2147483648 := mm_ok_at hr (i := 1) rfl
  have ap2 : -2147483648 ≤ p2 ∧ p2 < 2147483648 := mm_ok_at hr (i := 2) rfl
  have f0 : mm_fr [(66, 0), (66, 39), (66, 56), (66, 58)] [91, 122, 123] h h := mm_fr_rf
  have g1 : 0 ≤ h.1 66 56 ∧ h.1 66 56 ≤ 500 := i0.1 66 56
  have g2 : 0 ≤ h.1 66 39 ∧ h.1 66 39 ≤ 12 := i0.1 66 39
  have g3 : 0 ≤ h.1 66 23 ∧ h.1 66 23 ≤ 40 := i0.1 66 23
  refine mm_aload_n C (mm_dec dk_X12_track 0 rfl) rfl ?_
  refine mm_iload_n C (mm_dec dk_X12_track 1 rfl) rfl ?_
  refine mm_cVi (rest := []) C1 ev_X12_308 (mm_dec dk_X12_track 2 rfl) (c_X12_isRunner x.2.1 hl (d - 1) (by omega) h i0 p1) rfl rfl (Nat.le_of_ble_eq_true rfl) ⟨by decide, by decide⟩ rfl (fun r2 h2c hp2 => ?_) (fun _ _ q => q.elim)
  obtain ⟨b2, i2c, g2c, y2_0⟩ := hp2
  have f2c : mm_fr [(66, 0), (66, 39), (66, 56), (66, 58)] [91, 122, 123] h h2c := mm_fr_tr f0 g2c (by decide +kernel)
  have q2c_5 : h2c.1 66 23 = h.1 66 23 := g2c.1 66 23 (by decide)
  have q2c_6 : h2c.1 66 39 = h.1 66 39 := g2c.1 66 39 (by decide)
  have q2c_7 : h2c.1 66 56 = h.1 66 56 := g2c.1 66 56 (by decide)
  have J33 : ∀ (h33_ : mH) (i33_ : mm_inv h33_) (f33_ : mm_fr [(66, 0), (66, 39), (66, 56), (66, 58)] [91, 122, 123] h h33_), mm_W x 0 0 33 [mU, mU, mU, mU, mU, mU, mU, mU, mU, mU] [] h33_ := by
    intro h33_ i33_ f33_
    have g8 : 0 ≤ h33_.1 66 56 ∧ h33_.1 66 56 ≤ 500 := i33_.1 66 56
    have g9 : 0 ≤ h33_.1 66 39 ∧ h33_.1 66 39 ≤ 12 := i33_.1 66 39
    have g10 : 0 ≤ h33_.1 66 23 ∧ h33_.1 66 23 ≤ 40 := i33_.1 66 23
    have g11 : h33_.1 66 23 = h.1 66 23 := f33_.1 66 23 (by decide)
    refine mm_iconst C (mm_dec dk_X12_track 17 rfl) ⟨by decide, by decide⟩ ?_
    exact mm_iret C T (mm_dec dk_X12_track 18 rfl) (by decide : 0 ≤ 0) (by decide : 0 ≤ 0) ⟨_, rfl, ⟨⟨by omega, by omega⟩, i33_, f33_⟩⟩
  refine mm_if_eq (tgt := 33) C (mm_dec dk_X12_track 3 rfl) (by decide) (fun c5 => ?_) (fun c5 => ?_)
  · skip
    refine mm_fgt 0 ?_
    refine mm_fgt 1 ?_
    refine mm_fgt 2 ?_
    exact J33 h2c i2c f2c
  · skip
    refine mm_aload_n C (mm_dec dk_X12_track 4 rfl) rfl ?_
    refine mm_iload_n C (mm_dec dk_X12_track 5 rfl) rfl ?_
    have J26 : ∀ (s26_1 : Int) (bs26_1 : 0 ≤ s26_1 ∧ s26_1 ≤ 1) (vs26_1 : (s26_1 = 0) ∨ (0 ≤ p2 ∧ p2 ≤ (h2c.1 66 56) ∧ s26_1 = 1)), mm_W x 0 0 26 [mR 66, mI p1, mI p2, mU, mU, mU, mU, mU, mU, mU] [mI s26_1, mR 66] h2c := by
      intro s26_1 bs26_1 vs26_1
      refine mm_iconst C (mm_dec dk_X12_track 14 rfl) ⟨by decide, by decide⟩ ?_
      refine mm_cVi (rest := []) C1 ev_X12_251 (mm_dec dk_X12_track 15 rfl) (c_X12_right x.2.1 hl (d - 1) (by omega) h2c i2c s26_1 2 ⟨by omega, by omega⟩ (by omega)) rfl rfl (Nat.le_of_ble_eq_true rfl) ⟨by decide, by decide⟩ rfl (fun r27 h27c hp27 => ?_) (fun _ _ q => q.elim)
      obtain ⟨b27, i27c, g27c, y27_0⟩ := hp27
      have f27c : mm_fr [(66, 0), (66, 39), (66, 56), (66, 58)] [91, 122, 123] h h27c := mm_fr_tr f2c g27c (by decide +kernel)
      have q27c_13 : h27c.1 66 23 = h2c.1 66 23 := g27c.1 66 23 (by decide)
      have q27c_14 : h27c.1 66 39 = h2c.1 66 39 := g27c.1 66 39 (by decide)
      have q27c_15 : h27c.1 66 56 = h2c.1 66 56 := g27c.1 66 56 (by decide)
      refine mm_if_ne (tgt := 35) C (mm_dec dk_X12_track 16 rfl) (by decide) (fun c30 => ?_) (fun c30 => ?_)
      · skip
        refine mm_aload_n C (mm_dec dk_X12_track 19 rfl) rfl ?_
        refine mm_iconst C (mm_dec dk_X12_track 20 rfl) ⟨by decide, by decide⟩ ?_
        refine mm_puti C fl_X12_350 (mm_dec dk_X12_track 21 rfl) rfl rfl rfl (Or.inl ⟨rfl, rfl⟩) ?_
        have i3 : mm_inv (mm_pf h27c 66 56 0) := mm_inv_pf i27c (show 0 ≤ 0 ∧ 0 ≤ 500 from ⟨by omega, by omega⟩) (by decide)
        have f3 : mm_fr [(66, 0), (66, 39), (66, 56), (66, 58)] [91, 122, 123] h (mm_pf h27c 66 56 0) := mm_fr_pf f27c (by decide)
        obtain ⟨h3, eh3⟩ : ∃ z, z = mm_pf h27c 66 56 0 := ⟨_, rfl⟩
        rw [← eh3] at i3 f3 ⊢
        have qh3 : h3.1 66 56 = 0 := by rw [eh3]; exact mm_pf_same _ _ _ _
        have qh3_16 : h3.1 66 23 = h27c.1 66 23 := by rw [eh3]; exact mm_pf_ne _ _ (by decide)
        have qh3_17 : h3.1 66 39 = h27c.1 66 39 := by rw [eh3]; exact mm_pf_ne _ _ (by decide)
        refine mm_aload_n C (mm_dec dk_X12_track 22 rfl) rfl ?_
        refine mm_iconst C (mm_dec dk_X12_track 23 rfl) ⟨by decide, by decide⟩ ?_
        refine mm_puti C fl_X12_237 (mm_dec dk_X12_track 24 rfl) rfl rfl rfl (Or.inl ⟨rfl, rfl⟩) ?_
        have i4 : mm_inv (mm_pf h3 66 58 (-1)) := mm_inv_pf i3 (show -2147483648 ≤ (-1) ∧ (-1) ≤ 2147483647 from ⟨by omega, by omega⟩) (by decide)
        have f4 : mm_fr [(66, 0), (66, 39), (66, 56), (66, 58)] [91, 122, 123] h (mm_pf h3 66 58 (-1)) := mm_fr_pf f3 (by decide)
        obtain ⟨h4, eh4⟩ : ∃ z, z = mm_pf h3 66 58 (-1) := ⟨_, rfl⟩
        rw [← eh4] at i4 f4 ⊢
        have qh4 : h4.1 66 58 = (-1) := by rw [eh4]; exact mm_pf_same _ _ _ _
        have qh4_18 : h4.1 66 23 = h3.1 66 23 := by rw [eh4]; exact mm_pf_ne _ _ (by decide)
        have qh4_19 : h4.1 66 39 = h3.1 66 39 := by rw [eh4]; exact mm_pf_ne _ _ (by decide)
        have qh4_20 : h4.1 66 56 = h3.1 66 56 := by rw [eh4]; exact mm_pf_ne _ _ (by decide)
        refine mm_aload_n C (mm_dec dk_X12_track 25 rfl) rfl ?_
        refine mm_iload_n C (mm_dec dk_X12_track 26 rfl) rfl ?_
        refine mm_cVv (rest := []) C1 ev_X12_302 (mm_dec dk_X12_track 27 rfl) (c_X12_rows x.2.1 hl (d - 1) (by omega) h4 i4 p1 ⟨by omega, by omega⟩) rfl rfl (Nat.le_of_ble_eq_true rfl) ⟨by decide, by decide⟩ rfl (fun h47c hp47 => ?_) (fun _ _ q => q.elim)
        obtain ⟨i47c, g47c⟩ := hp47
        have f47c : mm_fr [(66, 0), (66, 39), (66, 56), (66, 58)] [91, 122, 123] h h47c := mm_fr_tr f4 g47c (by decide +kernel)
        have q47c_22 : h47c.1 66 23 = h4.1 66 23 := g47c.1 66 23 (by decide)
        have q47c_23 : h47c.1 66 56 = h4.1 66 56 := g47c.1 66 56 (by decide)
        have q47c_24 : h47c.1 66 58 = h4.1 66 58 := g47c.1 66 58 (by decide)
        have g25 : 0 ≤ (h47c.1 66 39) ∧ (h47c.1 66 39) ≤ 12 := i47c.1 66 39
        refine mm_bipush C (mm_dec dk_X12_track 28 rfl) ⟨by decide, by decide⟩ ?_
        refine mm_aload_n C (mm_dec dk_X12_track 29 rfl) rfl ?_
        refine mm_geti C fl_X12_204 (mm_dec dk_X12_track 30 rfl) rfl rfl (Or.inl rfl) ?_
        have g26 : 0 ≤ (h47c.1 66 10) ∧ (h47c.1 66 10) ≤ 19 := i47c.1 66 10
        refine mm_imul C (mm_dec dk_X12_track 31 rfl) ⟨by omega, by omega⟩ ?_
        refine mm_aload_n C (mm_dec dk_X12_track 32 rfl) rfl ?_
        refine mm_geti C fl_X12_201 (mm_dec dk_X12_track 33 rfl) rfl rfl (Or.inl rfl) ?_
        have g27 : 0 ≤ (h47c.1 66 9) ∧ (h47c.1 66 9) ≤ 19 := i47c.1 66 9
        refine mm_iadd C (mm_dec dk_X12_track 34 rfl) ⟨by omega, by omega⟩ ?_
        refine mm_istore_nL (ls2 := [mR 66, mI p1, mI p2, mI ((20 * (h47c.1 66 10)) + (h47c.1 66 9)), mU, mU, mU, mU, mU, mU]) C (mm_dec dk_X12_track 35 rfl) (by decide) rfl ?_
        refine mm_iconst C (mm_dec dk_X12_track 36 rfl) ⟨by decide, by decide⟩ ?_
        refine mm_istoreL (ls2 := [mR 66, mI p1, mI p2, mI ((20 * (h47c.1 66 10)) + (h47c.1 66 9)), mI 0, mU, mU, mU, mU, mU]) C (mm_dec dk_X12_track 37 rfl) (by decide) rfl ?_
        refine mm_aload_n C (mm_dec dk_X12_track 38 rfl) rfl ?_
        refine mm_iconst C (mm_dec dk_X12_track 39 rfl) ⟨by decide, by decide⟩ ?_
        refine mm_iload_n C (mm_dec dk_X12_track 40 rfl) rfl ?_
        refine mm_cVi (rest := []) C1 ev_X12_539 (mm_dec dk_X12_track 41 rfl) (c_X12_comesBy x.2.1 hl (d - 1) (by omega) h47c i47c 0 ((20 * (h47c.1 66 10)) + (h47c.1 66 9)) ⟨by omega, by omega⟩) rfl rfl (Nat.le_of_ble_eq_true rfl) ⟨by decide, by decide⟩ rfl (fun r69 h69c hp69 => ?_) (fun _ _ q => q.elim)
        obtain ⟨b69, z69⟩ := hp69
        rw [z69]
        refine mm_istoreL (ls2 := [mR 66, mI p1, mI p2, mI ((20 * (h47c.1 66 10)) + (h47c.1 66 9)), mI 0, mI r69, mU, mU, mU, mU]) C (mm_dec dk_X12_track 42 rfl) (by decide) rfl ?_
        refine mm_iconst C (mm_dec dk_X12_track 43 rfl) ⟨by decide, by decide⟩ ?_
        have J77 : ∀ (n : Nat) (x77_3 : Int) (bx77_3 : 0 ≤ x77_3 ∧ x77_3 ≤ 399) (x77_4 : Int) (bx77_4 : -2147483648 ≤ x77_4 ∧ x77_4 ≤ 2147483647) (x77_5 : Int) (bx77_5 : 0 ≤ x77_5 ∧ x77_5 ≤ 12) (x77_6 : Int) (bx77_6 : 0 ≤ x77_6 ∧ x77_6 ≤ 500), (500 - x77_6 : Int) < n → mm_W x 0 0 77 [mR 66, mI p1, mI p2, mI x77_3, mI x77_4, mI x77_5, mI x77_6, mU, mU, mU] [] h47c := by
          intro n
          induction n with
          | zero =>
            intro x77_3 bx77_3 x77_4 bx77_4 x77_5 bx77_5 x77_6 bx77_6 hm
            exfalso; omega
          | succ n ih77 =>
            intro x77_3 bx77_3 x77_4 bx77_4 x77_5 bx77_5 x77_6 bx77_6 hm77
            refine mm_iload C (mm_dec dk_X12_track 45 rfl) rfl ?_
            refine mm_iload_n C (mm_dec dk_X12_track 46 rfl) rfl ?_
            refine mm_icmp_ge (tgt := 231) C (mm_dec dk_X12_track 47 rfl) (by decide) (fun c80 => ?_) (fun c80 => ?_)
            · skip
              refine mm_aload_n C (mm_dec dk_X12_track 121 rfl) rfl ?_
              refine mm_getr (t := 122) C fl_X12_178 (mm_dec dk_X12_track 122 rfl) rfl rfl (mm_ref i47c rfl) ?_
              refine mm_iload_n C (mm_dec dk_X12_track 123 rfl) rfl ?_
              refine mm_iload C (mm_dec dk_X12_track 124 rfl) rfl ?_
              refine mm_iast C (mm_dec dk_X12_track 125 rfl) rfl (by omega) (by omega) ?_
              have i6 : mm_inv (mm_pa h47c 122 p1 x77_4) := mm_inv_pa i47c (show -2147483648 ≤ x77_4 ∧ x77_4 ≤ 2147483647 from ⟨by omega, by omega⟩)
              have f6 : mm_fr [(66, 0), (66, 39), (66, 56), (66, 58)] [91, 122, 123] h (mm_pa h47c 122 p1 x77_4) := mm_fr_pa f47c (by decide)
              obtain ⟨h6, eh6⟩ : ∃ z, z = mm_pa h47c 122 p1 x77_4 := ⟨_, rfl⟩
              rw [← eh6] at i6 f6 ⊢
              have qh6_29 : h6.1 66 9 = h47c.1 66 9 := by rw [eh6]; rfl
              have qh6_30 : h6.1 66 10 = h47c.1 66 10 := by rw [eh6]; rfl
              have qh6_31 : h6.1 66 23 = h47c.1 66 23 := by rw [eh6]; rfl
              have qh6_32 : h6.1 66 39 = h47c.1 66 39 := by rw [eh6]; rfl
              have qh6_33 : h6.1 66 56 = h47c.1 66 56 := by rw [eh6]; rfl
              have qh6_34 : h6.1 66 58 = h47c.1 66 58 := by rw [eh6]; rfl
              refine mm_aload_n C (mm_dec dk_X12_track 126 rfl) rfl ?_
              refine mm_getr (t := 123) C fl_X12_181 (mm_dec dk_X12_track 127 rfl) rfl rfl (mm_ref i6 rfl) ?_
              refine mm_iload_n C (mm_dec dk_X12_track 128 rfl) rfl ?_
              refine mm_iload C (mm_dec dk_X12_track 129 rfl) rfl ?_
              refine mm_aload_n C (mm_dec dk_X12_track 130 rfl) rfl ?_
              refine mm_geti C fl_X12_296 (mm_dec dk_X12_track 131 rfl) rfl rfl (Or.inl rfl) ?_
              have J274 : ∀ (s274_2 : Int) (bs274_2 : 0 ≤ s274_2 ∧ s274_2 ≤ 1) (vs274_2 : (s274_2 = 0) ∨ (x77_5 = (h6.1 66 39) ∧ x77_3 = ((20 * (h6.1 66 12)) + (h6.1 66 11)) ∧ s274_2 = 1)), mm_W x 0 0 274 [mU, mU, mU, mU, mI x77_4, mU, mU, mU, mU, mU] [mI s274_2, mI p1, mR 123] h6 := by
                intro s274_2 bs274_2 vs274_2
                refine mm_zast C (mm_dec dk_X12_track 145 rfl) rfl (by omega) (by omega) (by omega) ?_
                have i7 : mm_inv (mm_pa h6 123 p1 s274_2) := mm_inv_pa i6 (show 0 ≤ s274_2 ∧ s274_2 ≤ 1 from ⟨by omega, by omega⟩)
                have f7 : mm_fr [(66, 0), (66, 39), (66, 56), (66, 58)] [91, 122, 123] h (mm_pa h6 123 p1 s274_2) := mm_fr_pa f6 (by decide)
                obtain ⟨h7, eh7⟩ : ∃ z, z = mm_pa h6 123 p1 s274_2 := ⟨_, rfl⟩
                rw [← eh7] at i7 f7 ⊢
                have qh7_35 : h7.1 66 9 = h6.1 66 9 := by rw [eh7]; rfl
                have qh7_36 : h7.1 66 10 = h6.1 66 10 := by rw [eh7]; rfl
                have qh7_37 : h7.1 66 23 = h6.1 66 23 := by rw [eh7]; rfl
                have qh7_38 : h7.1 66 39 = h6.1 66 39 := by rw [eh7]; rfl
                have qh7_39 : h7.1 66 56 = h6.1 66 56 := by rw [eh7]; rfl
                have qh7_40 : h7.1 66 58 = h6.1 66 58 := by rw [eh7]; rfl
                refine mm_iload C (mm_dec dk_X12_track 146 rfl) rfl ?_
                exact mm_iret C T (mm_dec dk_X12_track 147 rfl) (by decide : 0 ≤ 0) (by decide : 0 ≤ 0) ⟨_, rfl, ⟨⟨by omega, by omega⟩, i7, f7⟩⟩
              have J273 : mm_W x 0 0 273 [mU, mU, mU, mU, mI x77_4, mU, mU, mU, mU, mU] [mI p1, mR 123] h6 := by
                refine mm_iconst C (mm_dec dk_X12_track 144 rfl) ⟨by decide, by decide⟩ ?_
                exact J274 0 ⟨by omega, by omega⟩ (Or.inl rfl)
              refine mm_icmp_ne (tgt := 273) C (mm_dec dk_X12_track 132 rfl) (by decide) (fun c250 => ?_) (fun c250 => ?_)
              · skip
                refine mm_fgt 0 ?_
                refine mm_fgt 1 ?_
                refine mm_fgt 2 ?_
                refine mm_fgt 3 ?_
                refine mm_fgt 5 ?_
                refine mm_fgt 6 ?_
                exact J273
              · skip
                refine mm_iload_n C (mm_dec dk_X12_track 133 rfl) rfl ?_
                refine mm_bipush C (mm_dec dk_X12_track 134 rfl) ⟨by decide, by decide⟩ ?_
                refine mm_aload_n C (mm_dec dk_X12_track 135 rfl) rfl ?_
                refine mm_geti C fl_X12_210 (mm_dec dk_X12_track 136 rfl) rfl rfl (Or.inl rfl) ?_
                have g41 : 0 ≤ (h6.1 66 12) ∧ (h6.1 66 12) ≤ 19 := i6.1 66 12
                refine mm_imul C (mm_dec dk_X12_track 137 rfl) ⟨by omega, by omega⟩ ?_
                refine mm_aload_n C (mm_dec dk_X12_track 138 rfl) rfl ?_
                refine mm_geti C fl_X12_207 (mm_dec dk_X12_track 139 rfl) rfl rfl (Or.inl rfl) ?_
                have g42 : 0 ≤ (h6.1 66 11) ∧ (h6.1 66 11) ≤ 19 := i6.1 66 11
                refine mm_iadd C (mm_dec dk_X12_track 140 rfl) ⟨by omega, by omega⟩ ?_
                refine mm_icmp_ne (tgt := 273) C (mm_dec dk_X12_track 141 rfl) (by decide) (fun c266 => ?_) (fun c266 => ?_)
                · skip
                  refine mm_fgt 0 ?_
                  refine mm_fgt 1 ?_
                  refine mm_fgt 2 ?_
                  refine mm_fgt 3 ?_
                  refine mm_fgt 5 ?_
                  refine mm_fgt 6 ?_
                  exact J273
                · skip
                  refine mm_iconst C (mm_dec dk_X12_track 142 rfl) ⟨by decide, by decide⟩ ?_
                  refine mm_goto (tgt := 274) C (mm_dec dk_X12_track 143 rfl) (by decide) ?_
                  refine mm_fgt 0 ?_
                  refine mm_fgt 1 ?_
                  refine mm_fgt 2 ?_
                  refine mm_fgt 3 ?_
                  refine mm_fgt 5 ?_
                  refine mm_fgt 6 ?_
                  exact J274 1 ⟨by omega, by omega⟩ (Or.inr (⟨by omega, by omega, rfl⟩))
            · skip
              refine mm_aload_n C (mm_dec dk_X12_track 48 rfl) rfl ?_
              refine mm_getr (t := 101) C fl_X12_114 (mm_dec dk_X12_track 49 rfl) rfl rfl (mm_ref i47c rfl) ?_
              refine mm_iload C (mm_dec dk_X12_track 50 rfl) rfl ?_
              refine mm_iald C (mm_dec dk_X12_track 51 rfl) rfl (by omega) (by omega) ?_
              have g43 : -2147483648 ≤ (h47c.2.1 101 x77_6) ∧ (h47c.2.1 101 x77_6) ≤ 2147483647 := i47c.2.1 101 x77_6
              refine mm_istoreL (ls2 := [mR 66, mI p1, mI p2, mI x77_3, mI x77_4, mI x77_5, mI x77_6, mI (h47c.2.1 101 x77_6), mU, mU]) C (mm_dec dk_X12_track 52 rfl) (by decide) rfl ?_
              refine mm_iload C (mm_dec dk_X12_track 53 rfl) rfl ?_
              refine mm_bipush C (mm_dec dk_X12_track 54 rfl) ⟨by decide, by decide⟩ ?_
              have J225 : ∀ (x225_3 : Int) (bx225_3 : 0 ≤ x225_3 ∧ x225_3 ≤ 399) (x225_4 : Int) (bx225_4 : -2147483648 ≤ x225_4 ∧ x225_4 ≤ 2147483647) (x225_5 : Int) (bx225_5 : 0 ≤ x225_5 ∧ x225_5 ≤ 12), mm_W x 0 0 225 [mR 66, mI p1, mI p2, mI x225_3, mI x225_4, mI x225_5, mI x77_6, mU, mU, mU] [] h47c := by
                intro x225_3 bx225_3 x225_4 bx225_4 x225_5 bx225_5
                refine mm_iincL (ls2 := [mR 66, mI p1, mI p2, mI x225_3, mI x225_4, mI x225_5, mI (x77_6 + 1), mU, mU, mU]) C (mm_dec dk_X12_track 119 rfl) rfl (by decide) ⟨by omega, by omega⟩ rfl ?_
                refine mm_goto (tgt := 77) C (mm_dec dk_X12_track 120 rfl) (by decide) ?_
                exact ih77 x225_3 ⟨by omega, by omega⟩ x225_4 ⟨by omega, by omega⟩ x225_5 ⟨by omega, by omega⟩ (x77_6 + 1) ⟨by omega, by omega⟩ (by omega)
              refine mm_icmp_eq (tgt := 225) C (mm_dec dk_X12_track 55 rfl) (by decide) (fun c96 => ?_) (fun c96 => ?_)
              · skip
                refine mm_fgt 7 ?_
                exact J225 x77_3 ⟨by omega, by omega⟩ x77_4 ⟨by omega, by omega⟩ x77_5 ⟨by omega, by omega⟩
              · skip
                refine mm_iload C (mm_dec dk_X12_track 56 rfl) rfl ?_
                refine mm_bipush C (mm_dec dk_X12_track 57 rfl) ⟨by decide, by decide⟩ ?_
                refine mm_icmp_ne (tgt := 109) C (mm_dec dk_X12_track 58 rfl) (by decide) (fun c103 => ?_) (fun c103 => ?_)
                · skip
                  refine mm_iload C (mm_dec dk_X12_track 60 rfl) rfl ?_
                  refine mm_bipush C (mm_dec dk_X12_track 61 rfl) ⟨by decide, by decide⟩ ?_
                  have J154 : ∀ (s154_0 : Int) (bs154_0 : -1 ≤ s154_0 ∧ s154_0 ≤ 3), mm_W x 0 0 154 [mR 66, mI p1, mI p2, mI x77_3, mI x77_4, mI x77_5, mI x77_6, mU, mU, mU] [mI s154_0] h47c := by
                    intro s154_0 bs154_0
                    refine mm_istoreL (ls2 := [mR 66, mI p1, mI p2, mI x77_3, mI x77_4, mI x77_5, mI x77_6, mU, mI s154_0, mU]) C (mm_dec dk_X12_track 81 rfl) (by decide) rfl ?_
                    refine mm_iload C (mm_dec dk_X12_track 82 rfl) rfl ?_
                    refine mm_iconst C (mm_dec dk_X12_track 83 rfl) ⟨by decide, by decide⟩ ?_
                    have J173 : ∀ (s173_0 : Int) (bs173_0 : -1 ≤ s173_0 ∧ s173_0 ≤ 399), mm_W x 0 0 173 [mR 66, mI p1, mI p2, mI x77_3, mI x77_4, mI x77_5, mI x77_6, mU, mI s154_0, mU] [mI s173_0] h47c := by
                      intro s173_0 bs173_0
                      refine mm_istoreL (ls2 := [mR 66, mI p1, mI p2, mI x77_3, mI x77_4, mI x77_5, mI x77_6, mU, mI s154_0, mI s173_0]) C (mm_dec dk_X12_track 91 rfl) (by decide) rfl ?_
                      refine mm_iload C (mm_dec dk_X12_track 92 rfl) rfl ?_
                      refine mm_iconst C (mm_dec dk_X12_track 93 rfl) ⟨by decide, by decide⟩ ?_
                      refine mm_icmp_ne (tgt := 201) C (mm_dec dk_X12_track 94 rfl) (by decide) (fun c178 => ?_) (fun c178 => ?_)
                      · skip
                        refine mm_iload C (mm_dec dk_X12_track 105 rfl) rfl ?_
                        refine mm_aload_n C (mm_dec dk_X12_track 106 rfl) rfl ?_
                        refine mm_iload_n C (mm_dec dk_X12_track 107 rfl) rfl ?_
                        refine mm_iload C (mm_dec dk_X12_track 108 rfl) rfl ?_
                        refine mm_cVi (rest := [mI x77_4]) C1 ev_X12_275 (mm_dec dk_X12_track 109 rfl) (c_X12_seconds x.2.1 hl (d - 1) (by omega) h47c i47c x77_3 s173_0 ⟨by omega, by omega⟩ ⟨by omega, by omega⟩) rfl rfl (Nat.le_of_ble_eq_true rfl) ⟨by decide, by decide⟩ rfl (fun r207 h207c hp207 => ?_) (fun _ _ q => q.elim)
                        obtain ⟨b207, z207⟩ := hp207
                        rw [z207]
                        refine mm_iaddw C (mm_dec dk_X12_track 110 rfl) ?_
                        have g45 : -2147483648 ≤ (mm_w (x77_4 + r207)) ∧ (mm_w (x77_4 + r207)) < 2147483648 := mm_w_rg _
                        refine mm_istoreL (ls2 := [mR 66, mI p1, mI p2, mI x77_3, mI (mm_w (x77_4 + r207)), mI x77_5, mI x77_6, mU, mI s154_0, mI s173_0]) C (mm_dec dk_X12_track 111 rfl) (by decide) rfl ?_
                        refine mm_iload C (mm_dec dk_X12_track 112 rfl) rfl ?_
                        refine mm_istore_nL (ls2 := [mR 66, mI p1, mI p2, mI s173_0, mI (mm_w (x77_4 + r207)), mI x77_5, mI x77_6, mU, mI s154_0, mI s173_0]) C (mm_dec dk_X12_track 113 rfl) (by decide) rfl ?_
                        refine mm_aload_n C (mm_dec dk_X12_track 114 rfl) rfl ?_
                        refine mm_iload C (mm_dec dk_X12_track 115 rfl) rfl ?_
                        refine mm_iload_n C (mm_dec dk_X12_track 116 rfl) rfl ?_
                        refine mm_cVi (rest := []) C1 ev_X12_539 (mm_dec dk_X12_track 117 rfl) (c_X12_comesBy x.2.1 hl (d - 1) (by omega) h47c i47c x77_5 s173_0 ⟨by omega, by omega⟩) rfl rfl (Nat.le_of_ble_eq_true rfl) ⟨by decide, by decide⟩ rfl (fun r220 h220c hp220 => ?_) (fun _ _ q => q.elim)
                        obtain ⟨b220, z220⟩ := hp220
                        rw [z220]
                        refine mm_istoreL (ls2 := [mR 66, mI p1, mI p2, mI s173_0, mI (mm_w (x77_4 + r207)), mI r220, mI x77_6, mU, mI s154_0, mI s173_0]) C (mm_dec dk_X12_track 118 rfl) (by decide) rfl ?_
                        refine mm_fgt 8 ?_
                        refine mm_fgt 9 ?_
                        exact J225 s173_0 ⟨by omega, by omega⟩ (mm_w (x77_4 + r207)) ⟨by omega, by omega⟩ r220 ⟨by omega, by omega⟩
                      · skip
                        refine mm_aload_n C (mm_dec dk_X12_track 95 rfl) rfl ?_
                        refine mm_iload C (mm_dec dk_X12_track 96 rfl) rfl ?_
                        refine mm_puti C fl_X12_237 (mm_dec dk_X12_track 97 rfl) rfl rfl rfl (Or.inl ⟨rfl, rfl⟩) ?_
                        have i8 : mm_inv (mm_pf h47c 66 58 x77_6) := mm_inv_pf i47c (show -2147483648 ≤ x77_6 ∧ x77_6 ≤ 2147483647 from ⟨by omega, by omega⟩) (by decide)
                        have f8 : mm_fr [(66, 0), (66, 39), (66, 56), (66, 58)] [91, 122, 123] h (mm_pf h47c 66 58 x77_6) := mm_fr_pf f47c (by decide)
                        obtain ⟨h8, eh8⟩ : ∃ z, z = mm_pf h47c 66 58 x77_6 := ⟨_, rfl⟩
                        rw [← eh8] at i8 f8 ⊢
                        have qh8 : h8.1 66 58 = x77_6 := by rw [eh8]; exact mm_pf_same _ _ _ _
                        have qh8_47 : h8.1 66 9 = h47c.1 66 9 := by rw [eh8]; exact mm_pf_ne _ _ (by decide)
                        have qh8_48 : h8.1 66 10 = h47c.1 66 10 := by rw [eh8]; exact mm_pf_ne _ _ (by decide)
                        have qh8_49 : h8.1 66 23 = h47c.1 66 23 := by rw [eh8]; exact mm_pf_ne _ _ (by decide)
                        have qh8_50 : h8.1 66 39 = h47c.1 66 39 := by rw [eh8]; exact mm_pf_ne _ _ (by decide)
                        have qh8_51 : h8.1 66 56 = h47c.1 66 56 := by rw [eh8]; exact mm_pf_ne _ _ (by decide)
                        refine mm_iload C (mm_dec dk_X12_track 98 rfl) rfl ?_
                        refine mm_iconst C (mm_dec dk_X12_track 99 rfl) ⟨by decide, by decide⟩ ?_
                        have J200 : ∀ (s200_0 : Int) (bs200_0 : -3 ≤ s200_0 ∧ s200_0 ≤ -2) (vs200_0 : (s154_0 ≠ (-1) ∧ s200_0 = -3) ∨ (s154_0 = (-1) ∧ s200_0 = -2)), mm_W x 0 0 200 [mU, mU, mU, mU, mU, mU, mU, mU, mU, mU] [mI s200_0] h8 := by
                          intro s200_0 bs200_0 vs200_0
                          exact mm_iret C T (mm_dec dk_X12_track 104 rfl) (by decide : 0 ≤ 0) (by decide : 0 ≤ 0) ⟨_, rfl, ⟨⟨by omega, by omega⟩, i8, f8⟩⟩
                        refine mm_icmp_ne (tgt := 198) C (mm_dec dk_X12_track 100 rfl) (by decide) (fun c190 => ?_) (fun c190 => ?_)
                        · skip
                          refine mm_bipush C (mm_dec dk_X12_track 103 rfl) ⟨by decide, by decide⟩ ?_
                          refine mm_fgt 0 ?_
                          refine mm_fgt 1 ?_
                          refine mm_fgt 2 ?_
                          refine mm_fgt 3 ?_
                          refine mm_fgt 4 ?_
                          refine mm_fgt 5 ?_
                          refine mm_fgt 6 ?_
                          refine mm_fgt 8 ?_
                          refine mm_fgt 9 ?_
                          exact J200 (-3) ⟨by omega, by omega⟩ (Or.inl ⟨by omega, rfl⟩)
                        · skip
                          refine mm_bipush C (mm_dec dk_X12_track 101 rfl) ⟨by decide, by decide⟩ ?_
                          refine mm_goto (tgt := 200) C (mm_dec dk_X12_track 102 rfl) (by decide) ?_
                          refine mm_fgt 0 ?_
                          refine mm_fgt 1 ?_
                          refine mm_fgt 2 ?_
                          refine mm_fgt 3 ?_
                          refine mm_fgt 4 ?_
                          refine mm_fgt 5 ?_
                          refine mm_fgt 6 ?_
                          refine mm_fgt 8 ?_
                          refine mm_fgt 9 ?_
                          exact J200 (-2) ⟨by omega, by omega⟩ (Or.inr (⟨by omega, rfl⟩))
                    refine mm_icmp_ne (tgt := 166) C (mm_dec dk_X12_track 84 rfl) (by decide) (fun c159 => ?_) (fun c159 => ?_)
                    · skip
                      refine mm_aload_n C (mm_dec dk_X12_track 87 rfl) rfl ?_
                      refine mm_iload_n C (mm_dec dk_X12_track 88 rfl) rfl ?_
                      refine mm_iload C (mm_dec dk_X12_track 89 rfl) rfl ?_
                      refine mm_cVi (rest := []) C1 ev_X12_271 (mm_dec dk_X12_track 90 rfl) (c_X12_leads x.2.1 hl (d - 1) (by omega) h47c i47c x77_3 s154_0 ⟨by omega, by omega⟩) rfl rfl (Nat.le_of_ble_eq_true rfl) ⟨by decide, by decide⟩ rfl (fun r170 h170c hp170 => ?_) (fun _ _ q => q.elim)
                      obtain ⟨b170, z170⟩ := hp170
                      rw [z170]
                      exact J173 r170 ⟨by omega, by omega⟩
                    · skip
                      refine mm_iconst C (mm_dec dk_X12_track 85 rfl) ⟨by decide, by decide⟩ ?_
                      refine mm_goto (tgt := 173) C (mm_dec dk_X12_track 86 rfl) (by decide) ?_
                      exact J173 (-1) ⟨by omega, by omega⟩
                  refine mm_icmp_ne (tgt := 120) C (mm_dec dk_X12_track 62 rfl) (by decide) (fun c113 => ?_) (fun c113 => ?_)
                  · skip
                    refine mm_iload C (mm_dec dk_X12_track 65 rfl) rfl ?_
                    refine mm_bipush C (mm_dec dk_X12_track 66 rfl) ⟨by decide, by decide⟩ ?_
                    refine mm_icmp_ne (tgt := 131) C (mm_dec dk_X12_track 67 rfl) (by decide) (fun c124 => ?_) (fun c124 => ?_)
                    · skip
                      refine mm_iload C (mm_dec dk_X12_track 70 rfl) rfl ?_
                      refine mm_bipush C (mm_dec dk_X12_track 71 rfl) ⟨by decide, by decide⟩ ?_
                      refine mm_icmp_ne (tgt := 142) C (mm_dec dk_X12_track 72 rfl) (by decide) (fun c135 => ?_) (fun c135 => ?_)
                      · skip
                        refine mm_iload C (mm_dec dk_X12_track 75 rfl) rfl ?_
                        refine mm_bipush C (mm_dec dk_X12_track 76 rfl) ⟨by decide, by decide⟩ ?_
                        refine mm_icmp_ne (tgt := 153) C (mm_dec dk_X12_track 77 rfl) (by decide) (fun c146 => ?_) (fun c146 => ?_)
                        · skip
                          refine mm_iconst C (mm_dec dk_X12_track 80 rfl) ⟨by decide, by decide⟩ ?_
                          refine mm_fgt 7 ?_
                          exact J154 (-1) ⟨by omega, by omega⟩
                        · skip
                          refine mm_iconst C (mm_dec dk_X12_track 78 rfl) ⟨by decide, by decide⟩ ?_
                          refine mm_goto (tgt := 154) C (mm_dec dk_X12_track 79 rfl) (by decide) ?_
                          refine mm_fgt 7 ?_
                          exact J154 3 ⟨by omega, by omega⟩
                      · skip
                        refine mm_iconst C (mm_dec dk_X12_track 73 rfl) ⟨by decide, by decide⟩ ?_
                        refine mm_goto (tgt := 154) C (mm_dec dk_X12_track 74 rfl) (by decide) ?_
                        refine mm_fgt 7 ?_
                        exact J154 2 ⟨by omega, by omega⟩
                    · skip
                      refine mm_iconst C (mm_dec dk_X12_track 68 rfl) ⟨by decide, by decide⟩ ?_
                      refine mm_goto (tgt := 154) C (mm_dec dk_X12_track 69 rfl) (by decide) ?_
                      refine mm_fgt 7 ?_
                      exact J154 1 ⟨by omega, by omega⟩
                  · skip
                    refine mm_iconst C (mm_dec dk_X12_track 63 rfl) ⟨by decide, by decide⟩ ?_
                    refine mm_goto (tgt := 154) C (mm_dec dk_X12_track 64 rfl) (by decide) ?_
                    refine mm_fgt 7 ?_
                    exact J154 0 ⟨by omega, by omega⟩
                · skip
                  refine mm_goto (tgt := 225) C (mm_dec dk_X12_track 59 rfl) (by decide) ?_
                  refine mm_fgt 7 ?_
                  exact J225 x77_3 ⟨by omega, by omega⟩ x77_4 ⟨by omega, by omega⟩ x77_5 ⟨by omega, by omega⟩
        refine mm_istoreL (ls2 := [mR 66, mI p1, mI p2, mI ((20 * (h47c.1 66 10)) + (h47c.1 66 9)), mI 0, mI r69, mI 0, mU, mU, mU]) C (mm_dec dk_X12_track 44 rfl) (by decide) rfl ?_
        exact J77 (((500 - 0) : Int) + 1).toNat ((20 * (h47c.1 66 10)) + (h47c.1 66 9)) ⟨by omega, by omega⟩ 0 ⟨by omega, by omega⟩ r69 ⟨by omega, by omega⟩ 0 ⟨by omega, by omega⟩ (by omega)
      · skip
        refine mm_fgt 0 ?_
        refine mm_fgt 1 ?_
        refine mm_fgt 2 ?_
        exact J33 h27c i27c f27c
    have J25 : mm_W x 0 0 25 [mR 66, mI p1, mI p2, mU, mU, mU, mU, mU, mU, mU] [mR 66] h2c := by
      refine mm_iconst C (mm_dec dk_X12_track 13 rfl) ⟨by decide, by decide⟩ ?_
      exact J26 0 ⟨by omega, by omega⟩ (Or.inl rfl)
    refine mm_if_lt (tgt := 25) C (mm_dec dk_X12_track 6 rfl) (by decide) (fun c10 => ?_) (fun c10 => ?_)
    · skip
      exact J25
    · skip
      refine mm_iload_n C (mm_dec dk_X12_track 7 rfl) rfl ?_
      refine mm_aload_n C (mm_dec dk_X12_track 8 rfl) rfl ?_
      refine mm_geti C fl_X12_350 (mm_dec dk_X12_track 9 rfl) rfl rfl (Or.inl rfl) ?_
      refine mm_icmp_gt (tgt := 25) C (mm_dec dk_X12_track 10 rfl) (by decide) (fun c18 => ?_) (fun c18 => ?_)
      · skip
        exact J25
      · skip
        refine mm_iconst C (mm_dec dk_X12_track 11 rfl) ⟨by decide, by decide⟩ ?_
        refine mm_goto (tgt := 26) C (mm_dec dk_X12_track 12 rfl) (by decide) ?_
        exact J26 1 ⟨by omega, by omega⟩ (Or.inr (⟨by omega, by omega, rfl⟩))
