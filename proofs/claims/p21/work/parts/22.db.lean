set_option maxRecDepth 100000 in
set_option maxHeartbeats 4000000 in
theorem c_X12_anew_q (l : Launch) (hl : l.stackTraces = false) (d : Nat) (hd : 0 ≤ d) (h : mH) (i0 : mm_inv h) (p1 : Int) (p2 : Int) (bp1 : 1 ≤ p1 ∧ p1 ≤ 20) (bp2 : 1 ≤ p2 ∧ p2 ≤ 20) : mm_Met l d yX12_anew cX12_anew 4 none [mR 66, mI p1, mI p2] h (mm_pv fun h2 => mm_inv h2 ∧ mm_fr [(66, 1), (66, 2), (66, 3), (66, 9), (66, 10), (66, 11), (66, 12), (66, 19), (66, 21), (66, 22), (66, 23), (66, 24), (66, 40), (66, 41), (66, 58), (66, 67), (66, 82), (66, 95)] [67, 68, 69, 70, 71] h h2 ∧ h2.1 66 1 = p1 ∧ h2.1 66 2 = p2 ∧ h2.1 66 67 = 0 ∧ h2.1 66 22 = 0 ∧ h2.1 66 23 = 0 ∧ h2.1 66 41 = 0 ∧ h2.1 66 21 = 0 ∧ mm_al h2 67 399 0 ∧ mm_al h2 69 7 5 ∧ mm_al h2 68 399 0 ∧ mm_al h2 70 399 0 ∧ mm_al h2 71 399 0 ∧ h2.1 66 3 = 2 ∧ h2.1 66 9 = 0 ∧ h2.1 66 10 = 0 ∧ h2.1 66 24 = 0 ∧ h2.1 66 11 = 0 ∧ h2.1 66 12 = 0 ∧ h2.1 66 58 = -1 ∧ h2.1 66 40 = 0 ∧ h2.1 66 82 = 0) mm_nx 0 0 := by
  refine mm_ofW (ls := [mR 66, mI p1, mI p2, mU]) hl (by decide) rfl (Nat.le_of_ble_eq_true rfl) ?_
  intro x hxl C T hnm htb
  subst hxl
  refine mm_rng (fun hr _ => ?_)
  have ap1 : -2147483648 ≤ p1 ∧ p1 < 2147483648 := mm_ok_at hr (i := 1) rfl
  have ap2 : -2147483648 ≤ p2 ∧ p2 < 2147483648 := mm_ok_at hr (i := 2) rfl
  have f0 : mm_fr [(66, 1), (66, 2), (66, 3), (66, 9), (66, 10), (66, 11), (66, 12), (66, 19), (66, 21), (66, 22), (66, 23), (66, 24), (66, 40), (66, 41), (66, 58), (66, 67), (66, 82), (66, 95)] [67, 68, 69, 70, 71] h h := mm_fr_rf
  have g1 : 0 ≤ h.1 66 67 ∧ h.1 66 67 ≤ 1 := i0.1 66 67
  have g2 : 0 ≤ h.1 66 22 ∧ h.1 66 22 ≤ 8 := i0.1 66 22
  have g3 : 0 ≤ h.1 66 23 ∧ h.1 66 23 ≤ 40 := i0.1 66 23
  have g4 : 0 ≤ h.1 66 41 ∧ h.1 66 41 ≤ 99999 := i0.1 66 41
  have g5 : 1 ≤ h.1 66 1 ∧ h.1 66 1 ≤ 20 := i0.1 66 1
  have g6 : 1 ≤ h.1 66 2 ∧ h.1 66 2 ≤ 20 := i0.1 66 2
  have g7 : 0 ≤ h.1 66 21 ∧ h.1 66 21 ≤ 20 := i0.1 66 21
  have g8 : 0 ≤ h.1 66 3 ∧ h.1 66 3 ≤ 9 := i0.1 66 3
  have g9 : 0 ≤ h.1 66 9 ∧ h.1 66 9 ≤ 19 := i0.1 66 9
  have g10 : 0 ≤ h.1 66 10 ∧ h.1 66 10 ≤ 19 := i0.1 66 10
  have g11 : 0 ≤ h.1 66 24 ∧ h.1 66 24 ≤ 10 := i0.1 66 24
  have g12 : 0 ≤ h.1 66 11 ∧ h.1 66 11 ≤ 19 := i0.1 66 11
  have g13 : 0 ≤ h.1 66 12 ∧ h.1 66 12 ≤ 19 := i0.1 66 12
  have g14 : -2147483648 ≤ h.1 66 58 ∧ h.1 66 58 ≤ 2147483647 := i0.1 66 58
  have g15 : 0 ≤ h.1 66 40 ∧ h.1 66 40 ≤ 500 := i0.1 66 40
  have g16 : 0 ≤ h.1 66 82 ∧ h.1 66 82 ≤ 40 := i0.1 66 82
  refine mm_aload_n C (mm_dec dk_X12_anew 0 rfl) rfl ?_
  refine mm_iload_n C (mm_dec dk_X12_anew 1 rfl) rfl ?_
  refine mm_puti C fl_X12_192 (mm_dec dk_X12_anew 2 rfl) rfl rfl rfl (Or.inl ⟨rfl, rfl⟩) ?_
  have i1 : mm_inv (mm_pf h 66 1 p1) := mm_inv_pf i0 (show 1 ≤ p1 ∧ p1 ≤ 20 from ⟨by omega, by omega⟩) (by decide)
  have f1 : mm_fr [(66, 1), (66, 2), (66, 3), (66, 9), (66, 10), (66, 11), (66, 12), (66, 19), (66, 21), (66, 22), (66, 23), (66, 24), (66, 40), (66, 41), (66, 58), (66, 67), (66, 82), (66, 95)] [67, 68, 69, 70, 71] h (mm_pf h 66 1 p1) := mm_fr_pf f0 (by decide)
  obtain ⟨h1, eh1⟩ : ∃ z, z = mm_pf h 66 1 p1 := ⟨_, rfl⟩
  rw [← eh1] at i1 f1 ⊢
  have qh1 : h1.1 66 1 = p1 := by rw [eh1]; exact mm_pf_same _ _ _ _
  have qh1_17 : h1.1 66 2 = h.1 66 2 := by rw [eh1]; exact mm_pf_ne _ _ (by decide)
  have qh1_18 : h1.1 66 3 = h.1 66 3 := by rw [eh1]; exact mm_pf_ne _ _ (by decide)
  have qh1_19 : h1.1 66 9 = h.1 66 9 := by rw [eh1]; exact mm_pf_ne _ _ (by decide)
  have qh1_20 : h1.1 66 10 = h.1 66 10 := by rw [eh1]; exact mm_pf_ne _ _ (by decide)
  have qh1_21 : h1.1 66 11 = h.1 66 11 := by rw [eh1]; exact mm_pf_ne _ _ (by decide)
  have qh1_22 : h1.1 66 12 = h.1 66 12 := by rw [eh1]; exact mm_pf_ne _ _ (by decide)
  have qh1_23 : h1.1 66 21 = h.1 66 21 := by rw [eh1]; exact mm_pf_ne _ _ (by decide)
  have qh1_24 : h1.1 66 22 = h.1 66 22 := by rw [eh1]; exact mm_pf_ne _ _ (by decide)
  have qh1_25 : h1.1 66 23 = h.1 66 23 := by rw [eh1]; exact mm_pf_ne _ _ (by decide)
  have qh1_26 : h1.1 66 24 = h.1 66 24 := by rw [eh1]; exact mm_pf_ne _ _ (by decide)
  have qh1_27 : h1.1 66 40 = h.1 66 40 := by rw [eh1]; exact mm_pf_ne _ _ (by decide)
  have qh1_28 : h1.1 66 41 = h.1 66 41 := by rw [eh1]; exact mm_pf_ne _ _ (by decide)
  have qh1_29 : h1.1 66 58 = h.1 66 58 := by rw [eh1]; exact mm_pf_ne _ _ (by decide)
  have qh1_30 : h1.1 66 67 = h.1 66 67 := by rw [eh1]; exact mm_pf_ne _ _ (by decide)
  have qh1_31 : h1.1 66 82 = h.1 66 82 := by rw [eh1]; exact mm_pf_ne _ _ (by decide)
  refine mm_aload_n C (mm_dec dk_X12_anew 3 rfl) rfl ?_
  refine mm_iload_n C (mm_dec dk_X12_anew 4 rfl) rfl ?_
  refine mm_puti C fl_X12_195 (mm_dec dk_X12_anew 5 rfl) rfl rfl rfl (Or.inl ⟨rfl, rfl⟩) ?_
  have i2 : mm_inv (mm_pf h1 66 2 p2) := mm_inv_pf i1 (show 1 ≤ p2 ∧ p2 ≤ 20 from ⟨by omega, by omega⟩) (by decide)
  have f2 : mm_fr [(66, 1), (66, 2), (66, 3), (66, 9), (66, 10), (66, 11), (66, 12), (66, 19), (66, 21), (66, 22), (66, 23), (66, 24), (66, 40), (66, 41), (66, 58), (66, 67), (66, 82), (66, 95)] [67, 68, 69, 70, 71] h (mm_pf h1 66 2 p2) := mm_fr_pf f1 (by decide)
  obtain ⟨h2, eh2⟩ : ∃ z, z = mm_pf h1 66 2 p2 := ⟨_, rfl⟩
  rw [← eh2] at i2 f2 ⊢
  have qh2 : h2.1 66 2 = p2 := by rw [eh2]; exact mm_pf_same _ _ _ _
  have qh2_32 : h2.1 66 1 = h1.1 66 1 := by rw [eh2]; exact mm_pf_ne _ _ (by decide)
  have qh2_33 : h2.1 66 3 = h1.1 66 3 := by rw [eh2]; exact mm_pf_ne _ _ (by decide)
  have qh2_34 : h2.1 66 9 = h1.1 66 9 := by rw [eh2]; exact mm_pf_ne _ _ (by decide)
  have qh2_35 : h2.1 66 10 = h1.1 66 10 := by rw [eh2]; exact mm_pf_ne _ _ (by decide)
  have qh2_36 : h2.1 66 11 = h1.1 66 11 := by rw [eh2]; exact mm_pf_ne _ _ (by decide)
  have qh2_37 : h2.1 66 12 = h1.1 66 12 := by rw [eh2]; exact mm_pf_ne _ _ (by decide)
  have qh2_38 : h2.1 66 21 = h1.1 66 21 := by rw [eh2]; exact mm_pf_ne _ _ (by decide)
  have qh2_39 : h2.1 66 22 = h1.1 66 22 := by rw [eh2]; exact mm_pf_ne _ _ (by decide)
  have qh2_40 : h2.1 66 23 = h1.1 66 23 := by rw [eh2]; exact mm_pf_ne _ _ (by decide)
  have qh2_41 : h2.1 66 24 = h1.1 66 24 := by rw [eh2]; exact mm_pf_ne _ _ (by decide)
  have qh2_42 : h2.1 66 40 = h1.1 66 40 := by rw [eh2]; exact mm_pf_ne _ _ (by decide)
  have qh2_43 : h2.1 66 41 = h1.1 66 41 := by rw [eh2]; exact mm_pf_ne _ _ (by decide)
  have qh2_44 : h2.1 66 58 = h1.1 66 58 := by rw [eh2]; exact mm_pf_ne _ _ (by decide)
  have qh2_45 : h2.1 66 67 = h1.1 66 67 := by rw [eh2]; exact mm_pf_ne _ _ (by decide)
  have qh2_46 : h2.1 66 82 = h1.1 66 82 := by rw [eh2]; exact mm_pf_ne _ _ (by decide)
  refine mm_aload_n C (mm_dec dk_X12_anew 6 rfl) rfl ?_
  refine mm_iconst C (mm_dec dk_X12_anew 7 rfl) ⟨by decide, by decide⟩ ?_
  refine mm_puti C fl_X12_198 (mm_dec dk_X12_anew 8 rfl) rfl rfl rfl (Or.inl ⟨rfl, rfl⟩) ?_
  have i3 : mm_inv (mm_pf h2 66 3 2) := mm_inv_pf i2 (show 0 ≤ 2 ∧ 2 ≤ 9 from ⟨by omega, by omega⟩) (by decide)
  have f3 : mm_fr [(66, 1), (66, 2), (66, 3), (66, 9), (66, 10), (66, 11), (66, 12), (66, 19), (66, 21), (66, 22), (66, 23), (66, 24), (66, 40), (66, 41), (66, 58), (66, 67), (66, 82), (66, 95)] [67, 68, 69, 70, 71] h (mm_pf h2 66 3 2) := mm_fr_pf f2 (by decide)
  obtain ⟨h3, eh3⟩ : ∃ z, z = mm_pf h2 66 3 2 := ⟨_, rfl⟩
  rw [← eh3] at i3 f3 ⊢
  have qh3 : h3.1 66 3 = 2 := by rw [eh3]; exact mm_pf_same _ _ _ _
  have qh3_47 : h3.1 66 1 = h2.1 66 1 := by rw [eh3]; exact mm_pf_ne _ _ (by decide)
  have qh3_48 : h3.1 66 2 = h2.1 66 2 := by rw [eh3]; exact mm_pf_ne _ _ (by decide)
  have qh3_49 : h3.1 66 9 = h2.1 66 9 := by rw [eh3]; exact mm_pf_ne _ _ (by decide)
  have qh3_50 : h3.1 66 10 = h2.1 66 10 := by rw [eh3]; exact mm_pf_ne _ _ (by decide)
  have qh3_51 : h3.1 66 11 = h2.1 66 11 := by rw [eh3]; exact mm_pf_ne _ _ (by decide)
  have qh3_52 : h3.1 66 12 = h2.1 66 12 := by rw [eh3]; exact mm_pf_ne _ _ (by decide)
  have qh3_53 : h3.1 66 21 = h2.1 66 21 := by rw [eh3]; exact mm_pf_ne _ _ (by decide)
  have qh3_54 : h3.1 66 22 = h2.1 66 22 := by rw [eh3]; exact mm_pf_ne _ _ (by decide)
  have qh3_55 : h3.1 66 23 = h2.1 66 23 := by rw [eh3]; exact mm_pf_ne _ _ (by decide)
  have qh3_56 : h3.1 66 24 = h2.1 66 24 := by rw [eh3]; exact mm_pf_ne _ _ (by decide)
  have qh3_57 : h3.1 66 40 = h2.1 66 40 := by rw [eh3]; exact mm_pf_ne _ _ (by decide)
  have qh3_58 : h3.1 66 41 = h2.1 66 41 := by rw [eh3]; exact mm_pf_ne _ _ (by decide)
  have qh3_59 : h3.1 66 58 = h2.1 66 58 := by rw [eh3]; exact mm_pf_ne _ _ (by decide)
  have qh3_60 : h3.1 66 67 = h2.1 66 67 := by rw [eh3]; exact mm_pf_ne _ _ (by decide)
  have qh3_61 : h3.1 66 82 = h2.1 66 82 := by rw [eh3]; exact mm_pf_ne _ _ (by decide)
  refine mm_iconst C (mm_dec dk_X12_anew 9 rfl) ⟨by decide, by decide⟩ ?_
  have J17 : ∀ (n : Nat) (x17_3 : Int) (bx17_3 : 0 ≤ x17_3 ∧ x17_3 ≤ 400) (h17_ : mH) (i17_ : mm_inv h17_) (f17_ : mm_fr [(66, 1), (66, 2), (66, 3), (66, 9), (66, 10), (66, 11), (66, 12), (66, 19), (66, 21), (66, 22), (66, 23), (66, 24), (66, 40), (66, 41), (66, 58), (66, 67), (66, 82), (66, 95)] [67, 68, 69, 70, 71] h h17_) (w17_0 : mm_al h17_ 67 (x17_3 - 1) 0) (w17_1 : mm_al h17_ 68 (x17_3 - 1) 0) (w17_2 : mm_al h17_ 70 (x17_3 - 1) 0) (w17_3 : mm_al h17_ 71 (x17_3 - 1) 0) (w17_4 : h17_.1 66 3 = 2) (w17_5 : h17_.1 66 1 = p1) (w17_6 : h17_.1 66 2 = p2), (400 - x17_3 : Int) < n → mm_W x 0 0 17 [mR 66, mU, mU, mI x17_3] [] h17_ := by
    intro n
    induction n with
    | zero =>
      intro x17_3 bx17_3 h17_ i17_ f17_ w17_0 w17_1 w17_2 w17_3 w17_4 w17_5 w17_6 hm
      have g62 : 0 ≤ h17_.1 66 67 ∧ h17_.1 66 67 ≤ 1 := i17_.1 66 67
      have g63 : 0 ≤ h17_.1 66 22 ∧ h17_.1 66 22 ≤ 8 := i17_.1 66 22
      have g64 : 0 ≤ h17_.1 66 23 ∧ h17_.1 66 23 ≤ 40 := i17_.1 66 23
      have g65 : 0 ≤ h17_.1 66 41 ∧ h17_.1 66 41 ≤ 99999 := i17_.1 66 41
      have g66 : 1 ≤ h17_.1 66 1 ∧ h17_.1 66 1 ≤ 20 := i17_.1 66 1
      have g67 : 1 ≤ h17_.1 66 2 ∧ h17_.1 66 2 ≤ 20 := i17_.1 66 2
      have g68 : 0 ≤ h17_.1 66 21 ∧ h17_.1 66 21 ≤ 20 := i17_.1 66 21
      have g69 : 0 ≤ h17_.1 66 3 ∧ h17_.1 66 3 ≤ 9 := i17_.1 66 3
      have g70 : 0 ≤ h17_.1 66 9 ∧ h17_.1 66 9 ≤ 19 := i17_.1 66 9
      have g71 : 0 ≤ h17_.1 66 10 ∧ h17_.1 66 10 ≤ 19 := i17_.1 66 10
      have g72 : 0 ≤ h17_.1 66 24 ∧ h17_.1 66 24 ≤ 10 := i17_.1 66 24
      have g73 : 0 ≤ h17_.1 66 11 ∧ h17_.1 66 11 ≤ 19 := i17_.1 66 11
      have g74 : 0 ≤ h17_.1 66 12 ∧ h17_.1 66 12 ≤ 19 := i17_.1 66 12
      have g75 : -2147483648 ≤ h17_.1 66 58 ∧ h17_.1 66 58 ≤ 2147483647 := i17_.1 66 58
      have g76 : 0 ≤ h17_.1 66 40 ∧ h17_.1 66 40 ≤ 500 := i17_.1 66 40
      have g77 : 0 ≤ h17_.1 66 82 ∧ h17_.1 66 82 ≤ 40 := i17_.1 66 82
      exfalso; omega
    | succ n ih17 =>
      intro x17_3 bx17_3 h17_ i17_ f17_ w17_0 w17_1 w17_2 w17_3 w17_4 w17_5 w17_6 hm17
      have g78 : 0 ≤ h17_.1 66 67 ∧ h17_.1 66 67 ≤ 1 := i17_.1 66 67
      have g79 : 0 ≤ h17_.1 66 22 ∧ h17_.1 66 22 ≤ 8 := i17_.1 66 22
      have g80 : 0 ≤ h17_.1 66 23 ∧ h17_.1 66 23 ≤ 40 := i17_.1 66 23
      have g81 : 0 ≤ h17_.1 66 41 ∧ h17_.1 66 41 ≤ 99999 := i17_.1 66 41
      have g82 : 1 ≤ h17_.1 66 1 ∧ h17_.1 66 1 ≤ 20 := i17_.1 66 1
      have g83 : 1 ≤ h17_.1 66 2 ∧ h17_.1 66 2 ≤ 20 := i17_.1 66 2
      have g84 : 0 ≤ h17_.1 66 21 ∧ h17_.1 66 21 ≤ 20 := i17_.1 66 21
      have g85 : 0 ≤ h17_.1 66 3 ∧ h17_.1 66 3 ≤ 9 := i17_.1 66 3
      have g86 : 0 ≤ h17_.1 66 9 ∧ h17_.1 66 9 ≤ 19 := i17_.1 66 9
      have g87 : 0 ≤ h17_.1 66 10 ∧ h17_.1 66 10 ≤ 19 := i17_.1 66 10
      have g88 : 0 ≤ h17_.1 66 24 ∧ h17_.1 66 24 ≤ 10 := i17_.1 66 24
      have g89 : 0 ≤ h17_.1 66 11 ∧ h17_.1 66 11 ≤ 19 := i17_.1 66 11
      have g90 : 0 ≤ h17_.1 66 12 ∧ h17_.1 66 12 ≤ 19 := i17_.1 66 12
      have g91 : -2147483648 ≤ h17_.1 66 58 ∧ h17_.1 66 58 ≤ 2147483647 := i17_.1 66 58
      have g92 : 0 ≤ h17_.1 66 40 ∧ h17_.1 66 40 ≤ 500 := i17_.1 66 40
      have g93 : 0 ≤ h17_.1 66 82 ∧ h17_.1 66 82 ≤ 40 := i17_.1 66 82
      refine mm_iload_n C (mm_dec dk_X12_anew 11 rfl) rfl ?_
      refine mm_sipush C (mm_dec dk_X12_anew 12 rfl) ⟨by decide, by decide⟩ ?_
      refine mm_icmp_ge (tgt := 58) C (mm_dec dk_X12_anew 13 rfl) (by decide) (fun c21 => ?_) (fun c21 => ?_)
      · skip
        refine mm_iconst C (mm_dec dk_X12_anew 36 rfl) ⟨by decide, by decide⟩ ?_
        have J60 : ∀ (n : Nat) (x60_3 : Int) (bx60_3 : 0 ≤ x60_3 ∧ x60_3 ≤ 8) (h60_ : mH) (i60_ : mm_inv h60_) (f60_ : mm_fr [(66, 1), (66, 2), (66, 3), (66, 9), (66, 10), (66, 11), (66, 12), (66, 19), (66, 21), (66, 22), (66, 23), (66, 24), (66, 40), (66, 41), (66, 58), (66, 67), (66, 82), (66, 95)] [67, 68, 69, 70, 71] h h60_) (w60_0 : mm_al h60_ 67 399 0) (w60_1 : mm_al h60_ 69 (x60_3 - 1) 5) (w60_2 : mm_al h60_ 68 399 0) (w60_3 : mm_al h60_ 70 399 0) (w60_4 : mm_al h60_ 71 399 0) (w60_5 : h60_.1 66 3 = 2) (w60_6 : h60_.1 66 1 = p1) (w60_7 : h60_.1 66 2 = p2), (8 - x60_3 : Int) < n → mm_W x 0 0 60 [mR 66, mU, mU, mI x60_3] [] h60_ := by
          intro n
          induction n with
          | zero =>
            intro x60_3 bx60_3 h60_ i60_ f60_ w60_0 w60_1 w60_2 w60_3 w60_4 w60_5 w60_6 w60_7 hm
            have g94 : 0 ≤ h60_.1 66 67 ∧ h60_.1 66 67 ≤ 1 := i60_.1 66 67
            have g95 : 0 ≤ h60_.1 66 22 ∧ h60_.1 66 22 ≤ 8 := i60_.1 66 22
            have g96 : 0 ≤ h60_.1 66 23 ∧ h60_.1 66 23 ≤ 40 := i60_.1 66 23
            have g97 : 0 ≤ h60_.1 66 41 ∧ h60_.1 66 41 ≤ 99999 := i60_.1 66 41
            have g98 : 1 ≤ h60_.1 66 1 ∧ h60_.1 66 1 ≤ 20 := i60_.1 66 1
            have g99 : 1 ≤ h60_.1 66 2 ∧ h60_.1 66 2 ≤ 20 := i60_.1 66 2
            have g100 : 0 ≤ h60_.1 66 21 ∧ h60_.1 66 21 ≤ 20 := i60_.1 66 21
            have g101 : 0 ≤ h60_.1 66 3 ∧ h60_.1 66 3 ≤ 9 := i60_.1 66 3
            have g102 : 0 ≤ h60_.1 66 9 ∧ h60_.1 66 9 ≤ 19 := i60_.1 66 9
            have g103 : 0 ≤ h60_.1 66 10 ∧ h60_.1 66 10 ≤ 19 := i60_.1 66 10
            have g104 : 0 ≤ h60_.1 66 24 ∧ h60_.1 66 24 ≤ 10 := i60_.1 66 24
            have g105 : 0 ≤ h60_.1 66 11 ∧ h60_.1 66 11 ≤ 19 := i60_.1 66 11
            have g106 : 0 ≤ h60_.1 66 12 ∧ h60_.1 66 12 ≤ 19 := i60_.1 66 12
            have g107 : -2147483648 ≤ h60_.1 66 58 ∧ h60_.1 66 58 ≤ 2147483647 := i60_.1 66 58
            have g108 : 0 ≤ h60_.1 66 40 ∧ h60_.1 66 40 ≤ 500 := i60_.1 66 40
            have g109 : 0 ≤ h60_.1 66 82 ∧ h60_.1 66 82 ≤ 40 := i60_.1 66 82
            exfalso; omega
          | succ n ih60 =>
            intro x60_3 bx60_3 h60_ i60_ f60_ w60_0 w60_1 w60_2 w60_3 w60_4 w60_5 w60_6 w60_7 hm60
            have g110 : 0 ≤ h60_.1 66 67 ∧ h60_.1 66 67 ≤ 1 := i60_.1 66 67
            have g111 : 0 ≤ h60_.1 66 22 ∧ h60_.1 66 22 ≤ 8 := i60_.1 66 22
            have g112 : 0 ≤ h60_.1 66 23 ∧ h60_.1 66 23 ≤ 40 := i60_.1 66 23
            have g113 : 0 ≤ h60_.1 66 41 ∧ h60_.1 66 41 ≤ 99999 := i60_.1 66 41
            have g114 : 1 ≤ h60_.1 66 1 ∧ h60_.1 66 1 ≤ 20 := i60_.1 66 1
            have g115 : 1 ≤ h60_.1 66 2 ∧ h60_.1 66 2 ≤ 20 := i60_.1 66 2
            have g116 : 0 ≤ h60_.1 66 21 ∧ h60_.1 66 21 ≤ 20 := i60_.1 66 21
            have g117 : 0 ≤ h60_.1 66 3 ∧ h60_.1 66 3 ≤ 9 := i60_.1 66 3
            have g118 : 0 ≤ h60_.1 66 9 ∧ h60_.1 66 9 ≤ 19 := i60_.1 66 9
            have g119 : 0 ≤ h60_.1 66 10 ∧ h60_.1 66 10 ≤ 19 := i60_.1 66 10
            have g120 : 0 ≤ h60_.1 66 24 ∧ h60_.1 66 24 ≤ 10 := i60_.1 66 24
            have g121 : 0 ≤ h60_.1 66 11 ∧ h60_.1 66 11 ≤ 19 := i60_.1 66 11
            have g122 : 0 ≤ h60_.1 66 12 ∧ h60_.1 66 12 ≤ 19 := i60_.1 66 12
            have g123 : -2147483648 ≤ h60_.1 66 58 ∧ h60_.1 66 58 ≤ 2147483647 := i60_.1 66 58
            have g124 : 0 ≤ h60_.1 66 40 ∧ h60_.1 66 40 ≤ 500 := i60_.1 66 40
            have g125 : 0 ≤ h60_.1 66 82 ∧ h60_.1 66 82 ≤ 40 := i60_.1 66 82
            refine mm_iload_n C (mm_dec dk_X12_anew 38 rfl) rfl ?_
            refine mm_bipush C (mm_dec dk_X12_anew 39 rfl) ⟨by decide, by decide⟩ ?_
            refine mm_icmp_ge (tgt := 79) C (mm_dec dk_X12_anew 40 rfl) (by decide) (fun c63 => ?_) (fun c63 => ?_)
            · skip
              refine mm_aload_n C (mm_dec dk_X12_anew 48 rfl) rfl ?_
              refine mm_iconst C (mm_dec dk_X12_anew 49 rfl) ⟨by decide, by decide⟩ ?_
              refine mm_puti C fl_X12_201 (mm_dec dk_X12_anew 50 rfl) rfl rfl rfl (Or.inl ⟨rfl, rfl⟩) ?_
              have i4 : mm_inv (mm_pf h60_ 66 9 0) := mm_inv_pf i60_ (show 0 ≤ 0 ∧ 0 ≤ 19 from ⟨by omega, by omega⟩) (by decide)
              have f4 : mm_fr [(66, 1), (66, 2), (66, 3), (66, 9), (66, 10), (66, 11), (66, 12), (66, 19), (66, 21), (66, 22), (66, 23), (66, 24), (66, 40), (66, 41), (66, 58), (66, 67), (66, 82), (66, 95)] [67, 68, 69, 70, 71] h (mm_pf h60_ 66 9 0) := mm_fr_pf f60_ (by decide)
              obtain ⟨h4, eh4⟩ : ∃ z, z = mm_pf h60_ 66 9 0 := ⟨_, rfl⟩
              rw [← eh4] at i4 f4 ⊢
              have qh4 : h4.1 66 9 = 0 := by rw [eh4]; exact mm_pf_same _ _ _ _
              have qh4_126 : h4.1 66 1 = h60_.1 66 1 := by rw [eh4]; exact mm_pf_ne _ _ (by decide)
              have qh4_127 : h4.1 66 2 = h60_.1 66 2 := by rw [eh4]; exact mm_pf_ne _ _ (by decide)
              have qh4_128 : h4.1 66 3 = h60_.1 66 3 := by rw [eh4]; exact mm_pf_ne _ _ (by decide)
              have qh4_129 : h4.1 66 10 = h60_.1 66 10 := by rw [eh4]; exact mm_pf_ne _ _ (by decide)
              have qh4_130 : h4.1 66 11 = h60_.1 66 11 := by rw [eh4]; exact mm_pf_ne _ _ (by decide)
              have qh4_131 : h4.1 66 12 = h60_.1 66 12 := by rw [eh4]; exact mm_pf_ne _ _ (by decide)
              have qh4_132 : h4.1 66 21 = h60_.1 66 21 := by rw [eh4]; exact mm_pf_ne _ _ (by decide)
              have qh4_133 : h4.1 66 22 = h60_.1 66 22 := by rw [eh4]; exact mm_pf_ne _ _ (by decide)
              have qh4_134 : h4.1 66 23 = h60_.1 66 23 := by rw [eh4]; exact mm_pf_ne _ _ (by decide)
              have qh4_135 : h4.1 66 24 = h60_.1 66 24 := by rw [eh4]; exact mm_pf_ne _ _ (by decide)
              have qh4_136 : h4.1 66 40 = h60_.1 66 40 := by rw [eh4]; exact mm_pf_ne _ _ (by decide)
              have qh4_137 : h4.1 66 41 = h60_.1 66 41 := by rw [eh4]; exact mm_pf_ne _ _ (by decide)
              have qh4_138 : h4.1 66 58 = h60_.1 66 58 := by rw [eh4]; exact mm_pf_ne _ _ (by decide)
              have qh4_139 : h4.1 66 67 = h60_.1 66 67 := by rw [eh4]; exact mm_pf_ne _ _ (by decide)
              have qh4_140 : h4.1 66 82 = h60_.1 66 82 := by rw [eh4]; exact mm_pf_ne _ _ (by decide)
              refine mm_aload_n C (mm_dec dk_X12_anew 51 rfl) rfl ?_
              refine mm_iconst C (mm_dec dk_X12_anew 52 rfl) ⟨by decide, by decide⟩ ?_
              refine mm_puti C fl_X12_204 (mm_dec dk_X12_anew 53 rfl) rfl rfl rfl (Or.inl ⟨rfl, rfl⟩) ?_
              have i5 : mm_inv (mm_pf h4 66 10 0) := mm_inv_pf i4 (show 0 ≤ 0 ∧ 0 ≤ 19 from ⟨by omega, by omega⟩) (by decide)
              have f5 : mm_fr [(66, 1), (66, 2), (66, 3), (66, 9), (66, 10), (66, 11), (66, 12), (66, 19), (66, 21), (66, 22), (66, 23), (66, 24), (66, 40), (66, 41), (66, 58), (66, 67), (66, 82), (66, 95)] [67, 68, 69, 70, 71] h (mm_pf h4 66 10 0) := mm_fr_pf f4 (by decide)
              obtain ⟨h5, eh5⟩ : ∃ z, z = mm_pf h4 66 10 0 := ⟨_, rfl⟩
              rw [← eh5] at i5 f5 ⊢
              have qh5 : h5.1 66 10 = 0 := by rw [eh5]; exact mm_pf_same _ _ _ _
              have qh5_141 : h5.1 66 1 = h4.1 66 1 := by rw [eh5]; exact mm_pf_ne _ _ (by decide)
              have qh5_142 : h5.1 66 2 = h4.1 66 2 := by rw [eh5]; exact mm_pf_ne _ _ (by decide)
              have qh5_143 : h5.1 66 3 = h4.1 66 3 := by rw [eh5]; exact mm_pf_ne _ _ (by decide)
              have qh5_144 : h5.1 66 9 = h4.1 66 9 := by rw [eh5]; exact mm_pf_ne _ _ (by decide)
              have qh5_145 : h5.1 66 11 = h4.1 66 11 := by rw [eh5]; exact mm_pf_ne _ _ (by decide)
              have qh5_146 : h5.1 66 12 = h4.1 66 12 := by rw [eh5]; exact mm_pf_ne _ _ (by decide)
              have qh5_147 : h5.1 66 21 = h4.1 66 21 := by rw [eh5]; exact mm_pf_ne _ _ (by decide)
              have qh5_148 : h5.1 66 22 = h4.1 66 22 := by rw [eh5]; exact mm_pf_ne _ _ (by decide)
              have qh5_149 : h5.1 66 23 = h4.1 66 23 := by rw [eh5]; exact mm_pf_ne _ _ (by decide)
              have qh5_150 : h5.1 66 24 = h4.1 66 24 := by rw [eh5]; exact mm_pf_ne _ _ (by decide)
              have qh5_151 : h5.1 66 40 = h4.1 66 40 := by rw [eh5]; exact mm_pf_ne _ _ (by decide)
              have qh5_152 : h5.1 66 41 = h4.1 66 41 := by rw [eh5]; exact mm_pf_ne _ _ (by decide)
              have qh5_153 : h5.1 66 58 = h4.1 66 58 := by rw [eh5]; exact mm_pf_ne _ _ (by decide)
              have qh5_154 : h5.1 66 67 = h4.1 66 67 := by rw [eh5]; exact mm_pf_ne _ _ (by decide)
              have qh5_155 : h5.1 66 82 = h4.1 66 82 := by rw [eh5]; exact mm_pf_ne _ _ (by decide)
              refine mm_aload_n C (mm_dec dk_X12_anew 54 rfl) rfl ?_
              refine mm_iconst C (mm_dec dk_X12_anew 55 rfl) ⟨by decide, by decide⟩ ?_
              refine mm_puti C fl_X12_207 (mm_dec dk_X12_anew 56 rfl) rfl rfl rfl (Or.inl ⟨rfl, rfl⟩) ?_
              have i6 : mm_inv (mm_pf h5 66 11 0) := mm_inv_pf i5 (show 0 ≤ 0 ∧ 0 ≤ 19 from ⟨by omega, by omega⟩) (by decide)
              have f6 : mm_fr [(66, 1), (66, 2), (66, 3), (66, 9), (66, 10), (66, 11), (66, 12), (66, 19), (66, 21), (66, 22), (66, 23), (66, 24), (66, 40), (66, 41), (66, 58), (66, 67), (66, 82), (66, 95)] [67, 68, 69, 70, 71] h (mm_pf h5 66 11 0) := mm_fr_pf f5 (by decide)
              obtain ⟨h6, eh6⟩ : ∃ z, z = mm_pf h5 66 11 0 := ⟨_, rfl⟩
              rw [← eh6] at i6 f6 ⊢
              have qh6 : h6.1 66 11 = 0 := by rw [eh6]; exact mm_pf_same _ _ _ _
              have qh6_156 : h6.1 66 1 = h5.1 66 1 := by rw [eh6]; exact mm_pf_ne _ _ (by decide)
              have qh6_157 : h6.1 66 2 = h5.1 66 2 := by rw [eh6]; exact mm_pf_ne _ _ (by decide)
              have qh6_158 : h6.1 66 3 = h5.1 66 3 := by rw [eh6]; exact mm_pf_ne _ _ (by decide)
              have qh6_159 : h6.1 66 9 = h5.1 66 9 := by rw [eh6]; exact mm_pf_ne _ _ (by decide)
              have qh6_160 : h6.1 66 10 = h5.1 66 10 := by rw [eh6]; exact mm_pf_ne _ _ (by decide)
              have qh6_161 : h6.1 66 12 = h5.1 66 12 := by rw [eh6]; exact mm_pf_ne _ _ (by decide)
              have qh6_162 : h6.1 66 21 = h5.1 66 21 := by rw [eh6]; exact mm_pf_ne _ _ (by decide)
              have qh6_163 : h6.1 66 22 = h5.1 66 22 := by rw [eh6]; exact mm_pf_ne _ _ (by decide)
              have qh6_164 : h6.1 66 23 = h5.1 66 23 := by rw [eh6]; exact mm_pf_ne _ _ (by decide)
              have qh6_165 : h6.1 66 24 = h5.1 66 24 := by rw [eh6]; exact mm_pf_ne _ _ (by decide)
              have qh6_166 : h6.1 66 40 = h5.1 66 40 := by rw [eh6]; exact mm_pf_ne _ _ (by decide)
              have qh6_167 : h6.1 66 41 = h5.1 66 41 := by rw [eh6]; exact mm_pf_ne _ _ (by decide)
              have qh6_168 : h6.1 66 58 = h5.1 66 58 := by rw [eh6]; exact mm_pf_ne _ _ (by decide)
              have qh6_169 : h6.1 66 67 = h5.1 66 67 := by rw [eh6]; exact mm_pf_ne _ _ (by decide)
              have qh6_170 : h6.1 66 82 = h5.1 66 82 := by rw [eh6]; exact mm_pf_ne _ _ (by decide)
              refine mm_aload_n C (mm_dec dk_X12_anew 57 rfl) rfl ?_
              refine mm_iconst C (mm_dec dk_X12_anew 58 rfl) ⟨by decide, by decide⟩ ?_
              refine mm_puti C fl_X12_210 (mm_dec dk_X12_anew 59 rfl) rfl rfl rfl (Or.inl ⟨rfl, rfl⟩) ?_
              have i7 : mm_inv (mm_pf h6 66 12 0) := mm_inv_pf i6 (show 0 ≤ 0 ∧ 0 ≤ 19 from ⟨by omega, by omega⟩) (by decide)
              have f7 : mm_fr [(66, 1), (66, 2), (66, 3), (66, 9), (66, 10), (66, 11), (66, 12), (66, 19), (66, 21), (66, 22), (66, 23), (66, 24), (66, 40), (66, 41), (66, 58), (66, 67), (66, 82), (66, 95)] [67, 68, 69, 70, 71] h (mm_pf h6 66 12 0) := mm_fr_pf f6 (by decide)
              obtain ⟨h7, eh7⟩ : ∃ z, z = mm_pf h6 66 12 0 := ⟨_, rfl⟩
              rw [← eh7] at i7 f7 ⊢
              have qh7 : h7.1 66 12 = 0 := by rw [eh7]; exact mm_pf_same _ _ _ _
              have qh7_171 : h7.1 66 1 = h6.1 66 1 := by rw [eh7]; exact mm_pf_ne _ _ (by decide)
              have qh7_172 : h7.1 66 2 = h6.1 66 2 := by rw [eh7]; exact mm_pf_ne _ _ (by decide)
              have qh7_173 : h7.1 66 3 = h6.1 66 3 := by rw [eh7]; exact mm_pf_ne _ _ (by decide)
              have qh7_174 : h7.1 66 9 = h6.1 66 9 := by rw [eh7]; exact mm_pf_ne _ _ (by decide)
              have qh7_175 : h7.1 66 10 = h6.1 66 10 := by rw [eh7]; exact mm_pf_ne _ _ (by decide)
              have qh7_176 : h7.1 66 11 = h6.1 66 11 := by rw [eh7]; exact mm_pf_ne _ _ (by decide)
              have qh7_177 : h7.1 66 21 = h6.1 66 21 := by rw [eh7]; exact mm_pf_ne _ _ (by decide)
              have qh7_178 : h7.1 66 22 = h6.1 66 22 := by rw [eh7]; exact mm_pf_ne _ _ (by decide)
              have qh7_179 : h7.1 66 23 = h6.1 66 23 := by rw [eh7]; exact mm_pf_ne _ _ (by decide)
              have qh7_180 : h7.1 66 24 = h6.1 66 24 := by rw [eh7]; exact mm_pf_ne _ _ (by decide)
              have qh7_181 : h7.1 66 40 = h6.1 66 40 := by rw [eh7]; exact mm_pf_ne _ _ (by decide)
              have qh7_182 : h7.1 66 41 = h6.1 66 41 := by rw [eh7]; exact mm_pf_ne _ _ (by decide)
              have qh7_183 : h7.1 66 58 = h6.1 66 58 := by rw [eh7]; exact mm_pf_ne _ _ (by decide)
              have qh7_184 : h7.1 66 67 = h6.1 66 67 := by rw [eh7]; exact mm_pf_ne _ _ (by decide)
              have qh7_185 : h7.1 66 82 = h6.1 66 82 := by rw [eh7]; exact mm_pf_ne _ _ (by decide)
              refine mm_aload_n C (mm_dec dk_X12_anew 60 rfl) rfl ?_
              refine mm_iconst C (mm_dec dk_X12_anew 61 rfl) ⟨by decide, by decide⟩ ?_
              refine mm_puti C fl_X12_213 (mm_dec dk_X12_anew 62 rfl) rfl rfl rfl (Or.inl ⟨rfl, rfl⟩) ?_
              have i8 : mm_inv (mm_pf h7 66 19 (-1)) := mm_inv_pf i7 (show -1 ≤ (-1) ∧ (-1) ≤ 400 from ⟨by omega, by omega⟩) (by decide)
              have f8 : mm_fr [(66, 1), (66, 2), (66, 3), (66, 9), (66, 10), (66, 11), (66, 12), (66, 19), (66, 21), (66, 22), (66, 23), (66, 24), (66, 40), (66, 41), (66, 58), (66, 67), (66, 82), (66, 95)] [67, 68, 69, 70, 71] h (mm_pf h7 66 19 (-1)) := mm_fr_pf f7 (by decide)
              obtain ⟨h8, eh8⟩ : ∃ z, z = mm_pf h7 66 19 (-1) := ⟨_, rfl⟩
              rw [← eh8] at i8 f8 ⊢
              have qh8 : h8.1 66 19 = (-1) := by rw [eh8]; exact mm_pf_same _ _ _ _
              have qh8_186 : h8.1 66 1 = h7.1 66 1 := by rw [eh8]; exact mm_pf_ne _ _ (by decide)
              have qh8_187 : h8.1 66 2 = h7.1 66 2 := by rw [eh8]; exact mm_pf_ne _ _ (by decide)
              have qh8_188 : h8.1 66 3 = h7.1 66 3 := by rw [eh8]; exact mm_pf_ne _ _ (by decide)
              have qh8_189 : h8.1 66 9 = h7.1 66 9 := by rw [eh8]; exact mm_pf_ne _ _ (by decide)
              have qh8_190 : h8.1 66 10 = h7.1 66 10 := by rw [eh8]; exact mm_pf_ne _ _ (by decide)
              have qh8_191 : h8.1 66 11 = h7.1 66 11 := by rw [eh8]; exact mm_pf_ne _ _ (by decide)
              have qh8_192 : h8.1 66 12 = h7.1 66 12 := by rw [eh8]; exact mm_pf_ne _ _ (by decide)
              have qh8_193 : h8.1 66 21 = h7.1 66 21 := by rw [eh8]; exact mm_pf_ne _ _ (by decide)
              have qh8_194 : h8.1 66 22 = h7.1 66 22 := by rw [eh8]; exact mm_pf_ne _ _ (by decide)
              have qh8_195 : h8.1 66 23 = h7.1 66 23 := by rw [eh8]; exact mm_pf_ne _ _ (by decide)
              have qh8_196 : h8.1 66 24 = h7.1 66 24 := by rw [eh8]; exact mm_pf_ne _ _ (by decide)
              have qh8_197 : h8.1 66 40 = h7.1 66 40 := by rw [eh8]; exact mm_pf_ne _ _ (by decide)
              have qh8_198 : h8.1 66 41 = h7.1 66 41 := by rw [eh8]; exact mm_pf_ne _ _ (by decide)
              have qh8_199 : h8.1 66 58 = h7.1 66 58 := by rw [eh8]; exact mm_pf_ne _ _ (by decide)
              have qh8_200 : h8.1 66 67 = h7.1 66 67 := by rw [eh8]; exact mm_pf_ne _ _ (by decide)
              have qh8_201 : h8.1 66 82 = h7.1 66 82 := by rw [eh8]; exact mm_pf_ne _ _ (by decide)
              refine mm_aload_n C (mm_dec dk_X12_anew 63 rfl) rfl ?_
              refine mm_iconst C (mm_dec dk_X12_anew 64 rfl) ⟨by decide, by decide⟩ ?_
              refine mm_puti C fl_X12_216 (mm_dec dk_X12_anew 65 rfl) rfl rfl rfl (Or.inl ⟨rfl, rfl⟩) ?_
              have i9 : mm_inv (mm_pf h8 66 21 0) := mm_inv_pf i8 (show 0 ≤ 0 ∧ 0 ≤ 20 from ⟨by omega, by omega⟩) (by decide)
              have f9 : mm_fr [(66, 1), (66, 2), (66, 3), (66, 9), (66, 10), (66, 11), (66, 12), (66, 19), (66, 21), (66, 22), (66, 23), (66, 24), (66, 40), (66, 41), (66, 58), (66, 67), (66, 82), (66, 95)] [67, 68, 69, 70, 71] h (mm_pf h8 66 21 0) := mm_fr_pf f8 (by decide)
              obtain ⟨h9, eh9⟩ : ∃ z, z = mm_pf h8 66 21 0 := ⟨_, rfl⟩
              rw [← eh9] at i9 f9 ⊢
              have qh9 : h9.1 66 21 = 0 := by rw [eh9]; exact mm_pf_same _ _ _ _
              have qh9_202 : h9.1 66 1 = h8.1 66 1 := by rw [eh9]; exact mm_pf_ne _ _ (by decide)
              have qh9_203 : h9.1 66 2 = h8.1 66 2 := by rw [eh9]; exact mm_pf_ne _ _ (by decide)
              have qh9_204 : h9.1 66 3 = h8.1 66 3 := by rw [eh9]; exact mm_pf_ne _ _ (by decide)
              have qh9_205 : h9.1 66 9 = h8.1 66 9 := by rw [eh9]; exact mm_pf_ne _ _ (by decide)
              have qh9_206 : h9.1 66 10 = h8.1 66 10 := by rw [eh9]; exact mm_pf_ne _ _ (by decide)
              have qh9_207 : h9.1 66 11 = h8.1 66 11 := by rw [eh9]; exact mm_pf_ne _ _ (by decide)
              have qh9_208 : h9.1 66 12 = h8.1 66 12 := by rw [eh9]; exact mm_pf_ne _ _ (by decide)
              have qh9_209 : h9.1 66 19 = h8.1 66 19 := by rw [eh9]; exact mm_pf_ne _ _ (by decide)
              have qh9_210 : h9.1 66 22 = h8.1 66 22 := by rw [eh9]; exact mm_pf_ne _ _ (by decide)
              have qh9_211 : h9.1 66 23 = h8.1 66 23 := by rw [eh9]; exact mm_pf_ne _ _ (by decide)
              have qh9_212 : h9.1 66 24 = h8.1 66 24 := by rw [eh9]; exact mm_pf_ne _ _ (by decide)
              have qh9_213 : h9.1 66 40 = h8.1 66 40 := by rw [eh9]; exact mm_pf_ne _ _ (by decide)
              have qh9_214 : h9.1 66 41 = h8.1 66 41 := by rw [eh9]; exact mm_pf_ne _ _ (by decide)
              have qh9_215 : h9.1 66 58 = h8.1 66 58 := by rw [eh9]; exact mm_pf_ne _ _ (by decide)
              have qh9_216 : h9.1 66 67 = h8.1 66 67 := by rw [eh9]; exact mm_pf_ne _ _ (by decide)
              have qh9_217 : h9.1 66 82 = h8.1 66 82 := by rw [eh9]; exact mm_pf_ne _ _ (by decide)
              refine mm_aload_n C (mm_dec dk_X12_anew 66 rfl) rfl ?_
              refine mm_iconst C (mm_dec dk_X12_anew 67 rfl) ⟨by decide, by decide⟩ ?_
              refine mm_puti C fl_X12_219 (mm_dec dk_X12_anew 68 rfl) rfl rfl rfl (Or.inl ⟨rfl, rfl⟩) ?_
              have i10 : mm_inv (mm_pf h9 66 22 0) := mm_inv_pf i9 (show 0 ≤ 0 ∧ 0 ≤ 8 from ⟨by omega, by omega⟩) (by decide)
              have f10 : mm_fr [(66, 1), (66, 2), (66, 3), (66, 9), (66, 10), (66, 11), (66, 12), (66, 19), (66, 21), (66, 22), (66, 23), (66, 24), (66, 40), (66, 41), (66, 58), (66, 67), (66, 82), (66, 95)] [67, 68, 69, 70, 71] h (mm_pf h9 66 22 0) := mm_fr_pf f9 (by decide)
              obtain ⟨h10, eh10⟩ : ∃ z, z = mm_pf h9 66 22 0 := ⟨_, rfl⟩
              rw [← eh10] at i10 f10 ⊢
              have qh10 : h10.1 66 22 = 0 := by rw [eh10]; exact mm_pf_same _ _ _ _
              have qh10_218 : h10.1 66 1 = h9.1 66 1 := by rw [eh10]; exact mm_pf_ne _ _ (by decide)
              have qh10_219 : h10.1 66 2 = h9.1 66 2 := by rw [eh10]; exact mm_pf_ne _ _ (by decide)
              have qh10_220 : h10.1 66 3 = h9.1 66 3 := by rw [eh10]; exact mm_pf_ne _ _ (by decide)
              have qh10_221 : h10.1 66 9 = h9.1 66 9 := by rw [eh10]; exact mm_pf_ne _ _ (by decide)
              have qh10_222 : h10.1 66 10 = h9.1 66 10 := by rw [eh10]; exact mm_pf_ne _ _ (by decide)
              have qh10_223 : h10.1 66 11 = h9.1 66 11 := by rw [eh10]; exact mm_pf_ne _ _ (by decide)
              have qh10_224 : h10.1 66 12 = h9.1 66 12 := by rw [eh10]; exact mm_pf_ne _ _ (by decide)
              have qh10_225 : h10.1 66 19 = h9.1 66 19 := by rw [eh10]; exact mm_pf_ne _ _ (by decide)
              have qh10_226 : h10.1 66 21 = h9.1 66 21 := by rw [eh10]; exact mm_pf_ne _ _ (by decide)
              have qh10_227 : h10.1 66 23 = h9.1 66 23 := by rw [eh10]; exact mm_pf_ne _ _ (by decide)
              have qh10_228 : h10.1 66 24 = h9.1 66 24 := by rw [eh10]; exact mm_pf_ne _ _ (by decide)
              have qh10_229 : h10.1 66 40 = h9.1 66 40 := by rw [eh10]; exact mm_pf_ne _ _ (by decide)
              have qh10_230 : h10.1 66 41 = h9.1 66 41 := by rw [eh10]; exact mm_pf_ne _ _ (by decide)
              have qh10_231 : h10.1 66 58 = h9.1 66 58 := by rw [eh10]; exact mm_pf_ne _ _ (by decide)
              have qh10_232 : h10.1 66 67 = h9.1 66 67 := by rw [eh10]; exact mm_pf_ne _ _ (by decide)
              have qh10_233 : h10.1 66 82 = h9.1 66 82 := by rw [eh10]; exact mm_pf_ne _ _ (by decide)
              refine mm_aload_n C (mm_dec dk_X12_anew 69 rfl) rfl ?_
              refine mm_iconst C (mm_dec dk_X12_anew 70 rfl) ⟨by decide, by decide⟩ ?_
              refine mm_puti C fl_X12_222 (mm_dec dk_X12_anew 71 rfl) rfl rfl rfl (Or.inl ⟨rfl, rfl⟩) ?_
              have i11 : mm_inv (mm_pf h10 66 23 0) := mm_inv_pf i10 (show 0 ≤ 0 ∧ 0 ≤ 40 from ⟨by omega, by omega⟩) (by decide)
              have f11 : mm_fr [(66, 1), (66, 2), (66, 3), (66, 9), (66, 10), (66, 11), (66, 12), (66, 19), (66, 21), (66, 22), (66, 23), (66, 24), (66, 40), (66, 41), (66, 58), (66, 67), (66, 82), (66, 95)] [67, 68, 69, 70, 71] h (mm_pf h10 66 23 0) := mm_fr_pf f10 (by decide)
              obtain ⟨h11, eh11⟩ : ∃ z, z = mm_pf h10 66 23 0 := ⟨_, rfl⟩
              rw [← eh11] at i11 f11 ⊢
              have qh11 : h11.1 66 23 = 0 := by rw [eh11]; exact mm_pf_same _ _ _ _
              have qh11_234 : h11.1 66 1 = h10.1 66 1 := by rw [eh11]; exact mm_pf_ne _ _ (by decide)
              have qh11_235 : h11.1 66 2 = h10.1 66 2 := by rw [eh11]; exact mm_pf_ne _ _ (by decide)
              have qh11_236 : h11.1 66 3 = h10.1 66 3 := by rw [eh11]; exact mm_pf_ne _ _ (by decide)
              have qh11_237 : h11.1 66 9 = h10.1 66 9 := by rw [eh11]; exact mm_pf_ne _ _ (by decide)
              have qh11_238 : h11.1 66 10 = h10.1 66 10 := by rw [eh11]; exact mm_pf_ne _ _ (by decide)
              have qh11_239 : h11.1 66 11 = h10.1 66 11 := by rw [eh11]; exact mm_pf_ne _ _ (by decide)
              have qh11_240 : h11.1 66 12 = h10.1 66 12 := by rw [eh11]; exact mm_pf_ne _ _ (by decide)
              have qh11_241 : h11.1 66 19 = h10.1 66 19 := by rw [eh11]; exact mm_pf_ne _ _ (by decide)
              have qh11_242 : h11.1 66 21 = h10.1 66 21 := by rw [eh11]; exact mm_pf_ne _ _ (by decide)
              have qh11_243 : h11.1 66 22 = h10.1 66 22 := by rw [eh11]; exact mm_pf_ne _ _ (by decide)
              have qh11_244 : h11.1 66 24 = h10.1 66 24 := by rw [eh11]; exact mm_pf_ne _ _ (by decide)
              have qh11_245 : h11.1 66 40 = h10.1 66 40 := by rw [eh11]; exact mm_pf_ne _ _ (by decide)
              have qh11_246 : h11.1 66 41 = h10.1 66 41 := by rw [eh11]; exact mm_pf_ne _ _ (by decide)
              have qh11_247 : h11.1 66 58 = h10.1 66 58 := by rw [eh11]; exact mm_pf_ne _ _ (by decide)
              have qh11_248 : h11.1 66 67 = h10.1 66 67 := by rw [eh11]; exact mm_pf_ne _ _ (by decide)
              have qh11_249 : h11.1 66 82 = h10.1 66 82 := by rw [eh11]; exact mm_pf_ne _ _ (by decide)
              refine mm_aload_n C (mm_dec dk_X12_anew 72 rfl) rfl ?_
              refine mm_iconst C (mm_dec dk_X12_anew 73 rfl) ⟨by decide, by decide⟩ ?_
              refine mm_puti C fl_X12_225 (mm_dec dk_X12_anew 74 rfl) rfl rfl rfl (Or.inl ⟨rfl, rfl⟩) ?_
              have i12 : mm_inv (mm_pf h11 66 24 0) := mm_inv_pf i11 (show 0 ≤ 0 ∧ 0 ≤ 10 from ⟨by omega, by omega⟩) (by decide)
              have f12 : mm_fr [(66, 1), (66, 2), (66, 3), (66, 9), (66, 10), (66, 11), (66, 12), (66, 19), (66, 21), (66, 22), (66, 23), (66, 24), (66, 40), (66, 41), (66, 58), (66, 67), (66, 82), (66, 95)] [67, 68, 69, 70, 71] h (mm_pf h11 66 24 0) := mm_fr_pf f11 (by decide)
              obtain ⟨h12, eh12⟩ : ∃ z, z = mm_pf h11 66 24 0 := ⟨_, rfl⟩
              rw [← eh12] at i12 f12 ⊢
              have qh12 : h12.1 66 24 = 0 := by rw [eh12]; exact mm_pf_same _ _ _ _
              have qh12_250 : h12.1 66 1 = h11.1 66 1 := by rw [eh12]; exact mm_pf_ne _ _ (by decide)
              have qh12_251 : h12.1 66 2 = h11.1 66 2 := by rw [eh12]; exact mm_pf_ne _ _ (by decide)
              have qh12_252 : h12.1 66 3 = h11.1 66 3 := by rw [eh12]; exact mm_pf_ne _ _ (by decide)
              have qh12_253 : h12.1 66 9 = h11.1 66 9 := by rw [eh12]; exact mm_pf_ne _ _ (by decide)
              have qh12_254 : h12.1 66 10 = h11.1 66 10 := by rw [eh12]; exact mm_pf_ne _ _ (by decide)
              have qh12_255 : h12.1 66 11 = h11.1 66 11 := by rw [eh12]; exact mm_pf_ne _ _ (by decide)
              have qh12_256 : h12.1 66 12 = h11.1 66 12 := by rw [eh12]; exact mm_pf_ne _ _ (by decide)
              have qh12_257 : h12.1 66 19 = h11.1 66 19 := by rw [eh12]; exact mm_pf_ne _ _ (by decide)
              have qh12_258 : h12.1 66 21 = h11.1 66 21 := by rw [eh12]; exact mm_pf_ne _ _ (by decide)
              have qh12_259 : h12.1 66 22 = h11.1 66 22 := by rw [eh12]; exact mm_pf_ne _ _ (by decide)
              have qh12_260 : h12.1 66 23 = h11.1 66 23 := by rw [eh12]; exact mm_pf_ne _ _ (by decide)
              have qh12_261 : h12.1 66 40 = h11.1 66 40 := by rw [eh12]; exact mm_pf_ne _ _ (by decide)
              have qh12_262 : h12.1 66 41 = h11.1 66 41 := by rw [eh12]; exact mm_pf_ne _ _ (by decide)
              have qh12_263 : h12.1 66 58 = h11.1 66 58 := by rw [eh12]; exact mm_pf_ne _ _ (by decide)
              have qh12_264 : h12.1 66 67 = h11.1 66 67 := by rw [eh12]; exact mm_pf_ne _ _ (by decide)
              have qh12_265 : h12.1 66 82 = h11.1 66 82 := by rw [eh12]; exact mm_pf_ne _ _ (by decide)
              refine mm_aload_n C (mm_dec dk_X12_anew 75 rfl) rfl ?_
              refine mm_iconst C (mm_dec dk_X12_anew 76 rfl) ⟨by decide, by decide⟩ ?_
              refine mm_puti C fl_X12_228 (mm_dec dk_X12_anew 77 rfl) rfl rfl rfl (Or.inl ⟨rfl, rfl⟩) ?_
              have i13 : mm_inv (mm_pf h12 66 40 0) := mm_inv_pf i12 (show 0 ≤ 0 ∧ 0 ≤ 500 from ⟨by omega, by omega⟩) (by decide)
              have f13 : mm_fr [(66, 1), (66, 2), (66, 3), (66, 9), (66, 10), (66, 11), (66, 12), (66, 19), (66, 21), (66, 22), (66, 23), (66, 24), (66, 40), (66, 41), (66, 58), (66, 67), (66, 82), (66, 95)] [67, 68, 69, 70, 71] h (mm_pf h12 66 40 0) := mm_fr_pf f12 (by decide)
              obtain ⟨h13, eh13⟩ : ∃ z, z = mm_pf h12 66 40 0 := ⟨_, rfl⟩
              rw [← eh13] at i13 f13 ⊢
              have qh13 : h13.1 66 40 = 0 := by rw [eh13]; exact mm_pf_same _ _ _ _
              have qh13_266 : h13.1 66 1 = h12.1 66 1 := by rw [eh13]; exact mm_pf_ne _ _ (by decide)
              have qh13_267 : h13.1 66 2 = h12.1 66 2 := by rw [eh13]; exact mm_pf_ne _ _ (by decide)
              have qh13_268 : h13.1 66 3 = h12.1 66 3 := by rw [eh13]; exact mm_pf_ne _ _ (by decide)
              have qh13_269 : h13.1 66 9 = h12.1 66 9 := by rw [eh13]; exact mm_pf_ne _ _ (by decide)
              have qh13_270 : h13.1 66 10 = h12.1 66 10 := by rw [eh13]; exact mm_pf_ne _ _ (by decide)
              have qh13_271 : h13.1 66 11 = h12.1 66 11 := by rw [eh13]; exact mm_pf_ne _ _ (by decide)
              have qh13_272 : h13.1 66 12 = h12.1 66 12 := by rw [eh13]; exact mm_pf_ne _ _ (by decide)
              have qh13_273 : h13.1 66 19 = h12.1 66 19 := by rw [eh13]; exact mm_pf_ne _ _ (by decide)
              have qh13_274 : h13.1 66 21 = h12.1 66 21 := by rw [eh13]; exact mm_pf_ne _ _ (by decide)
              have qh13_275 : h13.1 66 22 = h12.1 66 22 := by rw [eh13]; exact mm_pf_ne _ _ (by decide)
              have qh13_276 : h13.1 66 23 = h12.1 66 23 := by rw [eh13]; exact mm_pf_ne _ _ (by decide)
              have qh13_277 : h13.1 66 24 = h12.1 66 24 := by rw [eh13]; exact mm_pf_ne _ _ (by decide)
              have qh13_278 : h13.1 66 41 = h12.1 66 41 := by rw [eh13]; exact mm_pf_ne _ _ (by decide)
              have qh13_279 : h13.1 66 58 = h12.1 66 58 := by rw [eh13]; exact mm_pf_ne _ _ (by decide)
              have qh13_280 : h13.1 66 67 = h12.1 66 67 := by rw [eh13]; exact mm_pf_ne _ _ (by decide)
              have qh13_281 : h13.1 66 82 = h12.1 66 82 := by rw [eh13]; exact mm_pf_ne _ _ (by decide)
              refine mm_aload_n C (mm_dec dk_X12_anew 78 rfl) rfl ?_
              refine mm_iconst C (mm_dec dk_X12_anew 79 rfl) ⟨by decide, by decide⟩ ?_
              refine mm_puti C fl_X12_231 (mm_dec dk_X12_anew 80 rfl) rfl rfl rfl (Or.inl ⟨rfl, rfl⟩) ?_
              have i14 : mm_inv (mm_pf h13 66 82 0) := mm_inv_pf i13 (show 0 ≤ 0 ∧ 0 ≤ 40 from ⟨by omega, by omega⟩) (by decide)
              have f14 : mm_fr [(66, 1), (66, 2), (66, 3), (66, 9), (66, 10), (66, 11), (66, 12), (66, 19), (66, 21), (66, 22), (66, 23), (66, 24), (66, 40), (66, 41), (66, 58), (66, 67), (66, 82), (66, 95)] [67, 68, 69, 70, 71] h (mm_pf h13 66 82 0) := mm_fr_pf f13 (by decide)
              obtain ⟨h14, eh14⟩ : ∃ z, z = mm_pf h13 66 82 0 := ⟨_, rfl⟩
              rw [← eh14] at i14 f14 ⊢
              have qh14 : h14.1 66 82 = 0 := by rw [eh14]; exact mm_pf_same _ _ _ _
              have qh14_282 : h14.1 66 1 = h13.1 66 1 := by rw [eh14]; exact mm_pf_ne _ _ (by decide)
              have qh14_283 : h14.1 66 2 = h13.1 66 2 := by rw [eh14]; exact mm_pf_ne _ _ (by decide)
              have qh14_284 : h14.1 66 3 = h13.1 66 3 := by rw [eh14]; exact mm_pf_ne _ _ (by decide)
              have qh14_285 : h14.1 66 9 = h13.1 66 9 := by rw [eh14]; exact mm_pf_ne _ _ (by decide)
              have qh14_286 : h14.1 66 10 = h13.1 66 10 := by rw [eh14]; exact mm_pf_ne _ _ (by decide)
              have qh14_287 : h14.1 66 11 = h13.1 66 11 := by rw [eh14]; exact mm_pf_ne _ _ (by decide)
              have qh14_288 : h14.1 66 12 = h13.1 66 12 := by rw [eh14]; exact mm_pf_ne _ _ (by decide)
              have qh14_289 : h14.1 66 19 = h13.1 66 19 := by rw [eh14]; exact mm_pf_ne _ _ (by decide)
              have qh14_290 : h14.1 66 21 = h13.1 66 21 := by rw [eh14]; exact mm_pf_ne _ _ (by decide)
              have qh14_291 : h14.1 66 22 = h13.1 66 22 := by rw [eh14]; exact mm_pf_ne _ _ (by decide)
              have qh14_292 : h14.1 66 23 = h13.1 66 23 := by rw [eh14]; exact mm_pf_ne _ _ (by decide)
              have qh14_293 : h14.1 66 24 = h13.1 66 24 := by rw [eh14]; exact mm_pf_ne _ _ (by decide)
              have qh14_294 : h14.1 66 40 = h13.1 66 40 := by rw [eh14]; exact mm_pf_ne _ _ (by decide)
              have qh14_295 : h14.1 66 41 = h13.1 66 41 := by rw [eh14]; exact mm_pf_ne _ _ (by decide)
              have qh14_296 : h14.1 66 58 = h13.1 66 58 := by rw [eh14]; exact mm_pf_ne _ _ (by decide)
              have qh14_297 : h14.1 66 67 = h13.1 66 67 := by rw [eh14]; exact mm_pf_ne _ _ (by decide)
              refine mm_aload_n C (mm_dec dk_X12_anew 81 rfl) rfl ?_
              refine mm_iconst C (mm_dec dk_X12_anew 82 rfl) ⟨by decide, by decide⟩ ?_
              refine mm_puti C fl_X12_234 (mm_dec dk_X12_anew 83 rfl) rfl rfl rfl (Or.inl ⟨rfl, rfl⟩) ?_
              have i15 : mm_inv (mm_pf h14 66 41 0) := mm_inv_pf i14 (show 0 ≤ 0 ∧ 0 ≤ 99999 from ⟨by omega, by omega⟩) (by decide)
              have f15 : mm_fr [(66, 1), (66, 2), (66, 3), (66, 9), (66, 10), (66, 11), (66, 12), (66, 19), (66, 21), (66, 22), (66, 23), (66, 24), (66, 40), (66, 41), (66, 58), (66, 67), (66, 82), (66, 95)] [67, 68, 69, 70, 71] h (mm_pf h14 66 41 0) := mm_fr_pf f14 (by decide)
              obtain ⟨h15, eh15⟩ : ∃ z, z = mm_pf h14 66 41 0 := ⟨_, rfl⟩
              rw [← eh15] at i15 f15 ⊢
              have qh15 : h15.1 66 41 = 0 := by rw [eh15]; exact mm_pf_same _ _ _ _
              have qh15_298 : h15.1 66 1 = h14.1 66 1 := by rw [eh15]; exact mm_pf_ne _ _ (by decide)
              have qh15_299 : h15.1 66 2 = h14.1 66 2 := by rw [eh15]; exact mm_pf_ne _ _ (by decide)
              have qh15_300 : h15.1 66 3 = h14.1 66 3 := by rw [eh15]; exact mm_pf_ne _ _ (by decide)
              have qh15_301 : h15.1 66 9 = h14.1 66 9 := by rw [eh15]; exact mm_pf_ne _ _ (by decide)
              have qh15_302 : h15.1 66 10 = h14.1 66 10 := by rw [eh15]; exact mm_pf_ne _ _ (by decide)
              have qh15_303 : h15.1 66 11 = h14.1 66 11 := by rw [eh15]; exact mm_pf_ne _ _ (by decide)
              have qh15_304 : h15.1 66 12 = h14.1 66 12 := by rw [eh15]; exact mm_pf_ne _ _ (by decide)
              have qh15_305 : h15.1 66 19 = h14.1 66 19 := by rw [eh15]; exact mm_pf_ne _ _ (by decide)
              have qh15_306 : h15.1 66 21 = h14.1 66 21 := by rw [eh15]; exact mm_pf_ne _ _ (by decide)
              have qh15_307 : h15.1 66 22 = h14.1 66 22 := by rw [eh15]; exact mm_pf_ne _ _ (by decide)
              have qh15_308 : h15.1 66 23 = h14.1 66 23 := by rw [eh15]; exact mm_pf_ne _ _ (by decide)
              have qh15_309 : h15.1 66 24 = h14.1 66 24 := by rw [eh15]; exact mm_pf_ne _ _ (by decide)
              have qh15_310 : h15.1 66 40 = h14.1 66 40 := by rw [eh15]; exact mm_pf_ne _ _ (by decide)
              have qh15_311 : h15.1 66 58 = h14.1 66 58 := by rw [eh15]; exact mm_pf_ne _ _ (by decide)
              have qh15_312 : h15.1 66 67 = h14.1 66 67 := by rw [eh15]; exact mm_pf_ne _ _ (by decide)
              have qh15_313 : h15.1 66 82 = h14.1 66 82 := by rw [eh15]; exact mm_pf_ne _ _ (by decide)
              refine mm_aload_n C (mm_dec dk_X12_anew 84 rfl) rfl ?_
              refine mm_iconst C (mm_dec dk_X12_anew 85 rfl) ⟨by decide, by decide⟩ ?_
              refine mm_puti C fl_X12_237 (mm_dec dk_X12_anew 86 rfl) rfl rfl rfl (Or.inl ⟨rfl, rfl⟩) ?_
              have i16 : mm_inv (mm_pf h15 66 58 (-1)) := mm_inv_pf i15 (show -2147483648 ≤ (-1) ∧ (-1) ≤ 2147483647 from ⟨by omega, by omega⟩) (by decide)
              have f16 : mm_fr [(66, 1), (66, 2), (66, 3), (66, 9), (66, 10), (66, 11), (66, 12), (66, 19), (66, 21), (66, 22), (66, 23), (66, 24), (66, 40), (66, 41), (66, 58), (66, 67), (66, 82), (66, 95)] [67, 68, 69, 70, 71] h (mm_pf h15 66 58 (-1)) := mm_fr_pf f15 (by decide)
              obtain ⟨h16, eh16⟩ : ∃ z, z = mm_pf h15 66 58 (-1) := ⟨_, rfl⟩
              rw [← eh16] at i16 f16 ⊢
              have qh16 : h16.1 66 58 = (-1) := by rw [eh16]; exact mm_pf_same _ _ _ _
              have qh16_314 : h16.1 66 1 = h15.1 66 1 := by rw [eh16]; exact mm_pf_ne _ _ (by decide)
              have qh16_315 : h16.1 66 2 = h15.1 66 2 := by rw [eh16]; exact mm_pf_ne _ _ (by decide)
              have qh16_316 : h16.1 66 3 = h15.1 66 3 := by rw [eh16]; exact mm_pf_ne _ _ (by decide)
              have qh16_317 : h16.1 66 9 = h15.1 66 9 := by rw [eh16]; exact mm_pf_ne _ _ (by decide)
              have qh16_318 : h16.1 66 10 = h15.1 66 10 := by rw [eh16]; exact mm_pf_ne _ _ (by decide)
              have qh16_319 : h16.1 66 11 = h15.1 66 11 := by rw [eh16]; exact mm_pf_ne _ _ (by decide)
              have qh16_320 : h16.1 66 12 = h15.1 66 12 := by rw [eh16]; exact mm_pf_ne _ _ (by decide)
              have qh16_321 : h16.1 66 19 = h15.1 66 19 := by rw [eh16]; exact mm_pf_ne _ _ (by decide)
              have qh16_322 : h16.1 66 21 = h15.1 66 21 := by rw [eh16]; exact mm_pf_ne _ _ (by decide)
              have qh16_323 : h16.1 66 22 = h15.1 66 22 := by rw [eh16]; exact mm_pf_ne _ _ (by decide)
              have qh16_324 : h16.1 66 23 = h15.1 66 23 := by rw [eh16]; exact mm_pf_ne _ _ (by decide)
              have qh16_325 : h16.1 66 24 = h15.1 66 24 := by rw [eh16]; exact mm_pf_ne _ _ (by decide)
              have qh16_326 : h16.1 66 40 = h15.1 66 40 := by rw [eh16]; exact mm_pf_ne _ _ (by decide)
              have qh16_327 : h16.1 66 41 = h15.1 66 41 := by rw [eh16]; exact mm_pf_ne _ _ (by decide)
              have qh16_328 : h16.1 66 67 = h15.1 66 67 := by rw [eh16]; exact mm_pf_ne _ _ (by decide)
              have qh16_329 : h16.1 66 82 = h15.1 66 82 := by rw [eh16]; exact mm_pf_ne _ _ (by decide)
              refine mm_aload_n C (mm_dec dk_X12_anew 87 rfl) rfl ?_
              refine mm_iconst C (mm_dec dk_X12_anew 88 rfl) ⟨by decide, by decide⟩ ?_
              refine mm_puti C fl_X12_240 (mm_dec dk_X12_anew 89 rfl) rfl rfl rfl (Or.inr ⟨rfl, rfl, by omega⟩) ?_
              have i17 : mm_inv (mm_pf h16 66 67 0) := mm_inv_pf i16 (show 0 ≤ 0 ∧ 0 ≤ 1 from ⟨by omega, by omega⟩) (by decide)
              have f17 : mm_fr [(66, 1), (66, 2), (66, 3), (66, 9), (66, 10), (66, 11), (66, 12), (66, 19), (66, 21), (66, 22), (66, 23), (66, 24), (66, 40), (66, 41), (66, 58), (66, 67), (66, 82), (66, 95)] [67, 68, 69, 70, 71] h (mm_pf h16 66 67 0) := mm_fr_pf f16 (by decide)
              obtain ⟨h17, eh17⟩ : ∃ z, z = mm_pf h16 66 67 0 := ⟨_, rfl⟩
              rw [← eh17] at i17 f17 ⊢
              have qh17 : h17.1 66 67 = 0 := by rw [eh17]; exact mm_pf_same _ _ _ _
              have qh17_330 : h17.1 66 1 = h16.1 66 1 := by rw [eh17]; exact mm_pf_ne _ _ (by decide)
              have qh17_331 : h17.1 66 2 = h16.1 66 2 := by rw [eh17]; exact mm_pf_ne _ _ (by decide)
              have qh17_332 : h17.1 66 3 = h16.1 66 3 := by rw [eh17]; exact mm_pf_ne _ _ (by decide)
              have qh17_333 : h17.1 66 9 = h16.1 66 9 := by rw [eh17]; exact mm_pf_ne _ _ (by decide)
              have qh17_334 : h17.1 66 10 = h16.1 66 10 := by rw [eh17]; exact mm_pf_ne _ _ (by decide)
              have qh17_335 : h17.1 66 11 = h16.1 66 11 := by rw [eh17]; exact mm_pf_ne _ _ (by decide)
              have qh17_336 : h17.1 66 12 = h16.1 66 12 := by rw [eh17]; exact mm_pf_ne _ _ (by decide)
              have qh17_337 : h17.1 66 19 = h16.1 66 19 := by rw [eh17]; exact mm_pf_ne _ _ (by decide)
              have qh17_338 : h17.1 66 21 = h16.1 66 21 := by rw [eh17]; exact mm_pf_ne _ _ (by decide)
              have qh17_339 : h17.1 66 22 = h16.1 66 22 := by rw [eh17]; exact mm_pf_ne _ _ (by decide)
              have qh17_340 : h17.1 66 23 = h16.1 66 23 := by rw [eh17]; exact mm_pf_ne _ _ (by decide)
              have qh17_341 : h17.1 66 24 = h16.1 66 24 := by rw [eh17]; exact mm_pf_ne _ _ (by decide)
              have qh17_342 : h17.1 66 40 = h16.1 66 40 := by rw [eh17]; exact mm_pf_ne _ _ (by decide)
              have qh17_343 : h17.1 66 41 = h16.1 66 41 := by rw [eh17]; exact mm_pf_ne _ _ (by decide)
              have qh17_344 : h17.1 66 58 = h16.1 66 58 := by rw [eh17]; exact mm_pf_ne _ _ (by decide)
              have qh17_345 : h17.1 66 82 = h16.1 66 82 := by rw [eh17]; exact mm_pf_ne _ _ (by decide)
              refine mm_aload_n C (mm_dec dk_X12_anew 90 rfl) rfl ?_
              refine mm_iconst C (mm_dec dk_X12_anew 91 rfl) ⟨by decide, by decide⟩ ?_
              refine mm_puti C fl_X12_244 (mm_dec dk_X12_anew 92 rfl) rfl rfl rfl (Or.inr ⟨rfl, rfl, by omega⟩) ?_
              have i18 : mm_inv (mm_pf h17 66 95 0) := mm_inv_pf i17 (show 0 ≤ 0 ∧ 0 ≤ 1 from ⟨by omega, by omega⟩) (by decide)
              have f18 : mm_fr [(66, 1), (66, 2), (66, 3), (66, 9), (66, 10), (66, 11), (66, 12), (66, 19), (66, 21), (66, 22), (66, 23), (66, 24), (66, 40), (66, 41), (66, 58), (66, 67), (66, 82), (66, 95)] [67, 68, 69, 70, 71] h (mm_pf h17 66 95 0) := mm_fr_pf f17 (by decide)
              obtain ⟨h18, eh18⟩ : ∃ z, z = mm_pf h17 66 95 0 := ⟨_, rfl⟩
              rw [← eh18] at i18 f18 ⊢
              have qh18 : h18.1 66 95 = 0 := by rw [eh18]; exact mm_pf_same _ _ _ _
              have qh18_346 : h18.1 66 1 = h17.1 66 1 := by rw [eh18]; exact mm_pf_ne _ _ (by decide)
              have qh18_347 : h18.1 66 2 = h17.1 66 2 := by rw [eh18]; exact mm_pf_ne _ _ (by decide)
              have qh18_348 : h18.1 66 3 = h17.1 66 3 := by rw [eh18]; exact mm_pf_ne _ _ (by decide)
              have qh18_349 : h18.1 66 9 = h17.1 66 9 := by rw [eh18]; exact mm_pf_ne _ _ (by decide)
              have qh18_350 : h18.1 66 10 = h17.1 66 10 := by rw [eh18]; exact mm_pf_ne _ _ (by decide)
              have qh18_351 : h18.1 66 11 = h17.1 66 11 := by rw [eh18]; exact mm_pf_ne _ _ (by decide)
              have qh18_352 : h18.1 66 12 = h17.1 66 12 := by rw [eh18]; exact mm_pf_ne _ _ (by decide)
              have qh18_353 : h18.1 66 19 = h17.1 66 19 := by rw [eh18]; exact mm_pf_ne _ _ (by decide)
              have qh18_354 : h18.1 66 21 = h17.1 66 21 := by rw [eh18]; exact mm_pf_ne _ _ (by decide)
              have qh18_355 : h18.1 66 22 = h17.1 66 22 := by rw [eh18]; exact mm_pf_ne _ _ (by decide)
              have qh18_356 : h18.1 66 23 = h17.1 66 23 := by rw [eh18]; exact mm_pf_ne _ _ (by decide)
              have qh18_357 : h18.1 66 24 = h17.1 66 24 := by rw [eh18]; exact mm_pf_ne _ _ (by decide)
              have qh18_358 : h18.1 66 40 = h17.1 66 40 := by rw [eh18]; exact mm_pf_ne _ _ (by decide)
              have qh18_359 : h18.1 66 41 = h17.1 66 41 := by rw [eh18]; exact mm_pf_ne _ _ (by decide)
              have qh18_360 : h18.1 66 58 = h17.1 66 58 := by rw [eh18]; exact mm_pf_ne _ _ (by decide)
              have qh18_361 : h18.1 66 67 = h17.1 66 67 := by rw [eh18]; exact mm_pf_ne _ _ (by decide)
              have qh18_362 : h18.1 66 82 = h17.1 66 82 := by rw [eh18]; exact mm_pf_ne _ _ (by decide)
              exact mm_vret C T (mm_dec dk_X12_anew 93 rfl) (by decide : 0 ≤ 0) (by decide : 0 ≤ 0) ⟨rfl, ⟨i18, f18, by omega, by omega, by omega, by omega, by omega, by omega, by omega, by rw [eh18, eh17, eh16, eh15, eh14, eh13, eh12, eh11, eh10, eh9, eh8, eh7, eh6, eh5, eh4]; exact w60_0, by rw [eh18, eh17, eh16, eh15, eh14, eh13, eh12, eh11, eh10, eh9, eh8, eh7, eh6, eh5, eh4]; exact mm_al_le w60_1 (by omega), by rw [eh18, eh17, eh16, eh15, eh14, eh13, eh12, eh11, eh10, eh9, eh8, eh7, eh6, eh5, eh4]; exact w60_2, by rw [eh18, eh17, eh16, eh15, eh14, eh13, eh12, eh11, eh10, eh9, eh8, eh7, eh6, eh5, eh4]; exact w60_3, by rw [eh18, eh17, eh16, eh15, eh14, eh13, eh12, eh11, eh10, eh9, eh8, eh7, eh6, eh5, eh4]; exact w60_4, by omega, by omega, by omega, by omega, by omega, by omega, by omega, by omega, by omega⟩⟩
            · skip
              refine mm_aload_n C (mm_dec dk_X12_anew 41 rfl) rfl ?_
              refine mm_getr (t := 69) C fl_X12_16 (mm_dec dk_X12_anew 42 rfl) rfl rfl (mm_ref i60_ rfl) ?_
              refine mm_iload_n C (mm_dec dk_X12_anew 43 rfl) rfl ?_
              refine mm_iconst C (mm_dec dk_X12_anew 44 rfl) ⟨by decide, by decide⟩ ?_
              refine mm_iast C (mm_dec dk_X12_anew 45 rfl) rfl (by omega) (by omega) ?_
              have i19 : mm_inv (mm_pa h60_ 69 x60_3 5) := mm_inv_pa i60_ (show 0 ≤ 5 ∧ 5 ≤ 99 from ⟨by omega, by omega⟩)
              have f19 : mm_fr [(66, 1), (66, 2), (66, 3), (66, 9), (66, 10), (66, 11), (66, 12), (66, 19), (66, 21), (66, 22), (66, 23), (66, 24), (66, 40), (66, 41), (66, 58), (66, 67), (66, 82), (66, 95)] [67, 68, 69, 70, 71] h (mm_pa h60_ 69 x60_3 5) := mm_fr_pa f60_ (by decide)
              obtain ⟨h19, eh19⟩ : ∃ z, z = mm_pa h60_ 69 x60_3 5 := ⟨_, rfl⟩
              rw [← eh19] at i19 f19 ⊢
              have qh19_363 : h19.1 66 1 = h60_.1 66 1 := by rw [eh19]; rfl
              have qh19_364 : h19.1 66 2 = h60_.1 66 2 := by rw [eh19]; rfl
              have qh19_365 : h19.1 66 3 = h60_.1 66 3 := by rw [eh19]; rfl
              have qh19_366 : h19.1 66 9 = h60_.1 66 9 := by rw [eh19]; rfl
              have qh19_367 : h19.1 66 10 = h60_.1 66 10 := by rw [eh19]; rfl
              have qh19_368 : h19.1 66 11 = h60_.1 66 11 := by rw [eh19]; rfl
              have qh19_369 : h19.1 66 12 = h60_.1 66 12 := by rw [eh19]; rfl
              have qh19_370 : h19.1 66 21 = h60_.1 66 21 := by rw [eh19]; rfl
              have qh19_371 : h19.1 66 22 = h60_.1 66 22 := by rw [eh19]; rfl
              have qh19_372 : h19.1 66 23 = h60_.1 66 23 := by rw [eh19]; rfl
              have qh19_373 : h19.1 66 24 = h60_.1 66 24 := by rw [eh19]; rfl
              have qh19_374 : h19.1 66 40 = h60_.1 66 40 := by rw [eh19]; rfl
              have qh19_375 : h19.1 66 41 = h60_.1 66 41 := by rw [eh19]; rfl
              have qh19_376 : h19.1 66 58 = h60_.1 66 58 := by rw [eh19]; rfl
              have qh19_377 : h19.1 66 67 = h60_.1 66 67 := by rw [eh19]; rfl
              have qh19_378 : h19.1 66 82 = h60_.1 66 82 := by rw [eh19]; rfl
              refine mm_iincL (ls2 := [mR 66, mU, mU, mI (x60_3 + 1)]) C (mm_dec dk_X12_anew 46 rfl) rfl (by decide) ⟨by omega, by omega⟩ rfl ?_
              refine mm_goto (tgt := 60) C (mm_dec dk_X12_anew 47 rfl) (by decide) ?_
              exact ih60 (x60_3 + 1) ⟨by omega, by omega⟩ h19 i19 f19 (by first | exact mm_al_le w17_0 (by omega) | exact mm_al_sm w60_0 (fun _ => (mm_sm_pa 67 eh19 (by decide) _))) (by first | exact mm_al_nil (by omega) | (rw [show x60_3 + 1 - 1 = x60_3 by omega]; exact mm_al_put w60_1 eh19)) (by first | exact mm_al_le w17_1 (by omega) | exact mm_al_sm w60_2 (fun _ => (mm_sm_pa 68 eh19 (by decide) _))) (by first | exact mm_al_le w17_2 (by omega) | exact mm_al_sm w60_3 (fun _ => (mm_sm_pa 70 eh19 (by decide) _))) (by first | exact mm_al_le w17_3 (by omega) | exact mm_al_sm w60_4 (fun _ => (mm_sm_pa 71 eh19 (by decide) _))) (by omega) (by omega) (by omega) (by omega)
        refine mm_istore_nL (ls2 := [mR 66, mU, mU, mI 0]) C (mm_dec dk_X12_anew 37 rfl) (by decide) rfl ?_
        exact J60 (((8 - 0) : Int) + 1).toNat 0 ⟨by omega, by omega⟩ h17_ i17_ f17_ (by first | exact mm_al_le w17_0 (by omega) | exact mm_al_sm w60_0 (fun _ => (mm_sm_pa 67 eh19 (by decide) _))) (by first | exact mm_al_nil (by omega) | (rw [show x60_3 + 1 - 1 = x60_3 by omega]; exact mm_al_put w60_1 eh19)) (by first | exact mm_al_le w17_1 (by omega) | exact mm_al_sm w60_2 (fun _ => (mm_sm_pa 68 eh19 (by decide) _))) (by first | exact mm_al_le w17_2 (by omega) | exact mm_al_sm w60_3 (fun _ => (mm_sm_pa 70 eh19 (by decide) _))) (by first | exact mm_al_le w17_3 (by omega) | exact mm_al_sm w60_4 (fun _ => (mm_sm_pa 71 eh19 (by decide) _))) (by omega) (by omega) (by omega) (by omega)
      · skip
        refine mm_aload_n C (mm_dec dk_X12_anew 14 rfl) rfl ?_
        refine mm_getr (t := 67) C fl_X12_7 (mm_dec dk_X12_anew 15 rfl) rfl rfl (mm_ref i17_ rfl) ?_
        refine mm_iload_n C (mm_dec dk_X12_anew 16 rfl) rfl ?_
        refine mm_iconst C (mm_dec dk_X12_anew 17 rfl) ⟨by decide, by decide⟩ ?_
        refine mm_iast C (mm_dec dk_X12_anew 18 rfl) rfl (by omega) (by omega) ?_
        have i20 : mm_inv (mm_pa h17_ 67 x17_3 0) := mm_inv_pa i17_ (show 0 ≤ 0 ∧ 0 ≤ 7 from ⟨by omega, by omega⟩)
        have f20 : mm_fr [(66, 1), (66, 2), (66, 3), (66, 9), (66, 10), (66, 11), (66, 12), (66, 19), (66, 21), (66, 22), (66, 23), (66, 24), (66, 40), (66, 41), (66, 58), (66, 67), (66, 82), (66, 95)] [67, 68, 69, 70, 71] h (mm_pa h17_ 67 x17_3 0) := mm_fr_pa f17_ (by decide)
        obtain ⟨h20, eh20⟩ : ∃ z, z = mm_pa h17_ 67 x17_3 0 := ⟨_, rfl⟩
        rw [← eh20] at i20 f20 ⊢
        have qh20_379 : h20.1 66 1 = h17_.1 66 1 := by rw [eh20]; rfl
        have qh20_380 : h20.1 66 2 = h17_.1 66 2 := by rw [eh20]; rfl
        have qh20_381 : h20.1 66 3 = h17_.1 66 3 := by rw [eh20]; rfl
        have qh20_382 : h20.1 66 9 = h17_.1 66 9 := by rw [eh20]; rfl
        have qh20_383 : h20.1 66 10 = h17_.1 66 10 := by rw [eh20]; rfl
        have qh20_384 : h20.1 66 11 = h17_.1 66 11 := by rw [eh20]; rfl
        have qh20_385 : h20.1 66 12 = h17_.1 66 12 := by rw [eh20]; rfl
        have qh20_386 : h20.1 66 21 = h17_.1 66 21 := by rw [eh20]; rfl
        have qh20_387 : h20.1 66 22 = h17_.1 66 22 := by rw [eh20]; rfl
        have qh20_388 : h20.1 66 23 = h17_.1 66 23 := by rw [eh20]; rfl
        have qh20_389 : h20.1 66 24 = h17_.1 66 24 := by rw [eh20]; rfl
        have qh20_390 : h20.1 66 40 = h17_.1 66 40 := by rw [eh20]; rfl
        have qh20_391 : h20.1 66 41 = h17_.1 66 41 := by rw [eh20]; rfl
        have qh20_392 : h20.1 66 58 = h17_.1 66 58 := by rw [eh20]; rfl
        have qh20_393 : h20.1 66 67 = h17_.1 66 67 := by rw [eh20]; rfl
        have qh20_394 : h20.1 66 82 = h17_.1 66 82 := by rw [eh20]; rfl
        refine mm_aload_n C (mm_dec dk_X12_anew 19 rfl) rfl ?_
        refine mm_getr (t := 68) C fl_X12_13 (mm_dec dk_X12_anew 20 rfl) rfl rfl (mm_ref i20 rfl) ?_
        refine mm_iload_n C (mm_dec dk_X12_anew 21 rfl) rfl ?_
        refine mm_iconst C (mm_dec dk_X12_anew 22 rfl) ⟨by decide, by decide⟩ ?_
        refine mm_iast C (mm_dec dk_X12_anew 23 rfl) rfl (by omega) (by omega) ?_
        have i21 : mm_inv (mm_pa h20 68 x17_3 0) := mm_inv_pa i20 (show 0 ≤ 0 ∧ 0 ≤ 99 from ⟨by omega, by omega⟩)
        have f21 : mm_fr [(66, 1), (66, 2), (66, 3), (66, 9), (66, 10), (66, 11), (66, 12), (66, 19), (66, 21), (66, 22), (66, 23), (66, 24), (66, 40), (66, 41), (66, 58), (66, 67), (66, 82), (66, 95)] [67, 68, 69, 70, 71] h (mm_pa h20 68 x17_3 0) := mm_fr_pa f20 (by decide)
        obtain ⟨h21, eh21⟩ : ∃ z, z = mm_pa h20 68 x17_3 0 := ⟨_, rfl⟩
        rw [← eh21] at i21 f21 ⊢
        have qh21_395 : h21.1 66 1 = h20.1 66 1 := by rw [eh21]; rfl
        have qh21_396 : h21.1 66 2 = h20.1 66 2 := by rw [eh21]; rfl
        have qh21_397 : h21.1 66 3 = h20.1 66 3 := by rw [eh21]; rfl
        have qh21_398 : h21.1 66 9 = h20.1 66 9 := by rw [eh21]; rfl
        have qh21_399 : h21.1 66 10 = h20.1 66 10 := by rw [eh21]; rfl
        have qh21_400 : h21.1 66 11 = h20.1 66 11 := by rw [eh21]; rfl
        have qh21_401 : h21.1 66 12 = h20.1 66 12 := by rw [eh21]; rfl
        have qh21_402 : h21.1 66 21 = h20.1 66 21 := by rw [eh21]; rfl
        have qh21_403 : h21.1 66 22 = h20.1 66 22 := by rw [eh21]; rfl
        have qh21_404 : h21.1 66 23 = h20.1 66 23 := by rw [eh21]; rfl
        have qh21_405 : h21.1 66 24 = h20.1 66 24 := by rw [eh21]; rfl
        have qh21_406 : h21.1 66 40 = h20.1 66 40 := by rw [eh21]; rfl
        have qh21_407 : h21.1 66 41 = h20.1 66 41 := by rw [eh21]; rfl
        have qh21_408 : h21.1 66 58 = h20.1 66 58 := by rw [eh21]; rfl
        have qh21_409 : h21.1 66 67 = h20.1 66 67 := by rw [eh21]; rfl
        have qh21_410 : h21.1 66 82 = h20.1 66 82 := by rw [eh21]; rfl
        refine mm_aload_n C (mm_dec dk_X12_anew 24 rfl) rfl ?_
        refine mm_getr (t := 70) C fl_X12_19 (mm_dec dk_X12_anew 25 rfl) rfl rfl (mm_ref i21 rfl) ?_
        refine mm_iload_n C (mm_dec dk_X12_anew 26 rfl) rfl ?_
        refine mm_iconst C (mm_dec dk_X12_anew 27 rfl) ⟨by decide, by decide⟩ ?_
        refine mm_zast C (mm_dec dk_X12_anew 28 rfl) rfl (by omega) (by omega) (by omega) ?_
        have i22 : mm_inv (mm_pa h21 70 x17_3 0) := mm_inv_pa i21 (show 0 ≤ 0 ∧ 0 ≤ 1 from ⟨by omega, by omega⟩)
        have f22 : mm_fr [(66, 1), (66, 2), (66, 3), (66, 9), (66, 10), (66, 11), (66, 12), (66, 19), (66, 21), (66, 22), (66, 23), (66, 24), (66, 40), (66, 41), (66, 58), (66, 67), (66, 82), (66, 95)] [67, 68, 69, 70, 71] h (mm_pa h21 70 x17_3 0) := mm_fr_pa f21 (by decide)
        obtain ⟨h22, eh22⟩ : ∃ z, z = mm_pa h21 70 x17_3 0 := ⟨_, rfl⟩
        rw [← eh22] at i22 f22 ⊢
        have qh22_411 : h22.1 66 1 = h21.1 66 1 := by rw [eh22]; rfl
        have qh22_412 : h22.1 66 2 = h21.1 66 2 := by rw [eh22]; rfl
        have qh22_413 : h22.1 66 3 = h21.1 66 3 := by rw [eh22]; rfl
        have qh22_414 : h22.1 66 9 = h21.1 66 9 := by rw [eh22]; rfl
        have qh22_415 : h22.1 66 10 = h21.1 66 10 := by rw [eh22]; rfl
        have qh22_416 : h22.1 66 11 = h21.1 66 11 := by rw [eh22]; rfl
        have qh22_417 : h22.1 66 12 = h21.1 66 12 := by rw [eh22]; rfl
        have qh22_418 : h22.1 66 21 = h21.1 66 21 := by rw [eh22]; rfl
        have qh22_419 : h22.1 66 22 = h21.1 66 22 := by rw [eh22]; rfl
        have qh22_420 : h22.1 66 23 = h21.1 66 23 := by rw [eh22]; rfl
        have qh22_421 : h22.1 66 24 = h21.1 66 24 := by rw [eh22]; rfl
        have qh22_422 : h22.1 66 40 = h21.1 66 40 := by rw [eh22]; rfl
        have qh22_423 : h22.1 66 41 = h21.1 66 41 := by rw [eh22]; rfl
        have qh22_424 : h22.1 66 58 = h21.1 66 58 := by rw [eh22]; rfl
        have qh22_425 : h22.1 66 67 = h21.1 66 67 := by rw [eh22]; rfl
        have qh22_426 : h22.1 66 82 = h21.1 66 82 := by rw [eh22]; rfl
        refine mm_aload_n C (mm_dec dk_X12_anew 29 rfl) rfl ?_
        refine mm_getr (t := 71) C fl_X12_23 (mm_dec dk_X12_anew 30 rfl) rfl rfl (mm_ref i22 rfl) ?_
        refine mm_iload_n C (mm_dec dk_X12_anew 31 rfl) rfl ?_
        refine mm_iconst C (mm_dec dk_X12_anew 32 rfl) ⟨by decide, by decide⟩ ?_
        refine mm_zast C (mm_dec dk_X12_anew 33 rfl) rfl (by omega) (by omega) (by omega) ?_
        have i23 : mm_inv (mm_pa h22 71 x17_3 0) := mm_inv_pa i22 (show 0 ≤ 0 ∧ 0 ≤ 1 from ⟨by omega, by omega⟩)
        have f23 : mm_fr [(66, 1), (66, 2), (66, 3), (66, 9), (66, 10), (66, 11), (66, 12), (66, 19), (66, 21), (66, 22), (66, 23), (66, 24), (66, 40), (66, 41), (66, 58), (66, 67), (66, 82), (66, 95)] [67, 68, 69, 70, 71] h (mm_pa h22 71 x17_3 0) := mm_fr_pa f22 (by decide)
        obtain ⟨h23, eh23⟩ : ∃ z, z = mm_pa h22 71 x17_3 0 := ⟨_, rfl⟩
        rw [← eh23] at i23 f23 ⊢
        have qh23_427 : h23.1 66 1 = h22.1 66 1 := by rw [eh23]; rfl
        have qh23_428 : h23.1 66 2 = h22.1 66 2 := by rw [eh23]; rfl
        have qh23_429 : h23.1 66 3 = h22.1 66 3 := by rw [eh23]; rfl
        have qh23_430 : h23.1 66 9 = h22.1 66 9 := by rw [eh23]; rfl
        have qh23_431 : h23.1 66 10 = h22.1 66 10 := by rw [eh23]; rfl
        have qh23_432 : h23.1 66 11 = h22.1 66 11 := by rw [eh23]; rfl
        have qh23_433 : h23.1 66 12 = h22.1 66 12 := by rw [eh23]; rfl
        have qh23_434 : h23.1 66 21 = h22.1 66 21 := by rw [eh23]; rfl
        have qh23_435 : h23.1 66 22 = h22.1 66 22 := by rw [eh23]; rfl
        have qh23_436 : h23.1 66 23 = h22.1 66 23 := by rw [eh23]; rfl
        have qh23_437 : h23.1 66 24 = h22.1 66 24 := by rw [eh23]; rfl
        have qh23_438 : h23.1 66 40 = h22.1 66 40 := by rw [eh23]; rfl
        have qh23_439 : h23.1 66 41 = h22.1 66 41 := by rw [eh23]; rfl
        have qh23_440 : h23.1 66 58 = h22.1 66 58 := by rw [eh23]; rfl
        have qh23_441 : h23.1 66 67 = h22.1 66 67 := by rw [eh23]; rfl
        have qh23_442 : h23.1 66 82 = h22.1 66 82 := by rw [eh23]; rfl
        refine mm_iincL (ls2 := [mR 66, mU, mU, mI (x17_3 + 1)]) C (mm_dec dk_X12_anew 34 rfl) rfl (by decide) ⟨by omega, by omega⟩ rfl ?_
        refine mm_goto (tgt := 17) C (mm_dec dk_X12_anew 35 rfl) (by decide) ?_
        exact ih17 (x17_3 + 1) ⟨by omega, by omega⟩ h23 i23 f23 (by first | exact mm_al_nil (by omega) | (rw [show x17_3 + 1 - 1 = x17_3 by omega]; exact mm_al_sm (mm_al_put w17_0 eh20) (fun _ => ((mm_sm_pa 67 eh23 (by decide) _).trans ((mm_sm_pa 67 eh22 (by decide) _).trans (mm_sm_pa 67 eh21 (by decide) _)))))) (by first | exact mm_al_nil (by omega) | (rw [show x17_3 + 1 - 1 = x17_3 by omega]; exact mm_al_sm (mm_al_put (mm_al_sm w17_1 (fun _ => (mm_sm_pa 68 eh20 (by decide) _))) eh21) (fun _ => ((mm_sm_pa 68 eh23 (by decide) _).trans (mm_sm_pa 68 eh22 (by decide) _))))) (by first | exact mm_al_nil (by omega) | (rw [show x17_3 + 1 - 1 = x17_3 by omega]; exact mm_al_sm (mm_al_put (mm_al_sm w17_2 (fun _ => ((mm_sm_pa 70 eh21 (by decide) _).trans (mm_sm_pa 70 eh20 (by decide) _)))) eh22) (fun _ => (mm_sm_pa 70 eh23 (by decide) _)))) (by first | exact mm_al_nil (by omega) | (rw [show x17_3 + 1 - 1 = x17_3 by omega]; exact mm_al_sm (mm_al_put (mm_al_sm w17_3 (fun _ => ((mm_sm_pa 71 eh22 (by decide) _).trans ((mm_sm_pa 71 eh21 (by decide) _).trans (mm_sm_pa 71 eh20 (by decide) _))))) eh23) (fun _ => rfl))) (by omega) (by omega) (by omega) (by omega)
  refine mm_istore_nL (ls2 := [mR 66, mI p1, mI p2, mI 0]) C (mm_dec dk_X12_anew 10 rfl) (by decide) rfl ?_
  refine mm_fgt 1 ?_
  refine mm_fgt 2 ?_
  exact J17 (((400 - 0) : Int) + 1).toNat 0 ⟨by omega, by omega⟩ h3 i3 f3 (by first | exact mm_al_nil (by omega) | (rw [show x17_3 + 1 - 1 = x17_3 by omega]; exact mm_al_sm (mm_al_put w17_0 eh20) (fun _ => ((mm_sm_pa 67 eh23 (by decide) _).trans ((mm_sm_pa 67 eh22 (by decide) _).trans (mm_sm_pa 67 eh21 (by decide) _)))))) (by first | exact mm_al_nil (by omega) | (rw [show x17_3 + 1 - 1 = x17_3 by omega]; exact mm_al_sm (mm_al_put (mm_al_sm w17_1 (fun _ => (mm_sm_pa 68 eh20 (by decide) _))) eh21) (fun _ => ((mm_sm_pa 68 eh23 (by decide) _).trans (mm_sm_pa 68 eh22 (by decide) _))))) (by first | exact mm_al_nil (by omega) | (rw [show x17_3 + 1 - 1 = x17_3 by omega]; exact mm_al_sm (mm_al_put (mm_al_sm w17_2 (fun _ => ((mm_sm_pa 70 eh21 (by decide) _).trans (mm_sm_pa 70 eh20 (by decide) _)))) eh22) (fun _ => (mm_sm_pa 70 eh23 (by decide) _)))) (by first | exact mm_al_nil (by omega) | (rw [show x17_3 + 1 - 1 = x17_3 by omega]; exact mm_al_sm (mm_al_put (mm_al_sm w17_3 (fun _ => ((mm_sm_pa 71 eh22 (by decide) _).trans ((mm_sm_pa 71 eh21 (by decide) _).trans (mm_sm_pa 71 eh20 (by decide) _))))) eh23) (fun _ => rfl))) (by omega) (by omega) (by omega) (by omega)
set_option maxRecDepth 100000 in
set_option maxHeartbeats 4000000 in
theorem c_X12_land_q (l : Launch) (hl : l.stackTraces = false) (d : Nat) (hd : 1 ≤ d) (h : mH) (i0 : mm_inv h) (p1 : Int) (p2 : Int) (t0 : mm_RO h) : mm_Met l d yX12_land cX12_land 3 (some .boolean) [mR 66, mI p1, mI p2] h (mm_pi fun r h2 => (0 ≤ r ∧ r ≤ 1) ∧ mm_inv h2 ∧ mm_fr [(66, 0), (66, 1), (66, 2), (66, 3), (66, 9), (66, 10), (66, 11), (66, 12), (66, 19), (66, 21), (66, 22), (66, 23), (66, 24), (66, 40), (66, 41), (66, 58), (66, 67), (66, 82), (66, 95)] [67, 68, 69, 70, 71] h h2 ∧ ((r = 1 ∧ 1 ≤ p1 ∧ p1 ≤ 20 ∧ 1 ≤ p2 ∧ p2 ≤ 20) ∨ (r = 0 ∧ (p1 < 1 ∨ 20 < p1 ∨ p2 < 1 ∨ 20 < p2))) ∧ mm_RO h2 ∧ ((r = 0 ∧ h2.1 66 22 = h.1 66 22 ∧ h2.1 66 23 = h.1 66 23 ∧ h2.1 66 41 = h.1 66 41 ∧ h2.1 66 1 = h.1 66 1 ∧ h2.1 66 2 = h.1 66 2 ∧ h2.1 66 24 = h.1 66 24) ∨ (r = 1 ∧ h2.1 66 22 = 0 ∧ h2.1 66 23 = 0 ∧ h2.1 66 41 = 0 ∧ h2.1 66 1 = p1 ∧ h2.1 66 2 = p2 ∧ h2.1 66 24 = 0)) ∧ ((r = 0 ∧ h2.1 66 21 = h.1 66 21) ∨ (r = 1 ∧ h2.1 66 21 = 0)) ∧ (r = 1 → mm_al h2 67 399 0 ∧ mm_al h2 69 7 5 ∧ mm_al h2 68 399 0 ∧ mm_al h2 70 399 0 ∧ mm_al h2 71 399 0) ∧ (r = 0 → ∀ o j, h2.2.1 o j = h.2.1 o j) ∧ ((r = 0 ∧ h2.1 66 3 = h.1 66 3 ∧ h2.1 66 9 = h.1 66 9 ∧ h2.1 66 10 = h.1 66 10) ∨ (r = 1 ∧ h2.1 66 3 = 2 ∧ h2.1 66 9 = 0 ∧ h2.1 66 10 = 0)) ∧ ((r = 0 ∧ h2.1 66 11 = h.1 66 11 ∧ h2.1 66 12 = h.1 66 12) ∨ (r = 1 ∧ h2.1 66 11 = 0 ∧ h2.1 66 12 = 0)) ∧ ((r = 0 ∧ h2.1 66 58 = h.1 66 58) ∨ (r = 1 ∧ h2.1 66 58 = -1)) ∧ ((r = 0 ∧ h2.1 66 40 = h.1 66 40 ∧ h2.1 66 82 = h.1 66 82 ∧ h2.1 66 67 = h.1 66 67 ∧ h2.1 66 68 = h.1 66 68) ∨ (r = 1 ∧ h2.1 66 40 = 0 ∧ h2.1 66 82 = 0 ∧ h2.1 66 67 = 0))) mm_nx 0 0 := by
  refine mm_ofW (ls := [mR 66, mI p1, mI p2]) hl (by decide) rfl (Nat.le_of_ble_eq_true rfl) ?_
  intro x hxl C T hnm htb
  subst hxl
  have C1 := mm_OK_le (d' := d - 1 + 1) (by omega) C
  refine mm_rng (fun hr _ => ?_)
  have ap1 : -2147483648 ≤ p1 ∧ p1 < 2147483648 := mm_ok_at hr (i := 1) rfl
  have ap2 : -2147483648 ≤ p2 ∧ p2 < 2147483648 := mm_ok_at hr (i := 2) rfl
  have f0 : mm_fr [(66, 0), (66, 1), (66, 2), (66, 3), (66, 9), (66, 10), (66, 11), (66, 12), (66, 19), (66, 21), (66, 22), (66, 23), (66, 24), (66, 40), (66, 41), (66, 58), (66, 67), (66, 82), (66, 95)] [67, 68, 69, 70, 71] h h := mm_fr_rf
  have g1 : 0 ≤ h.1 66 67 ∧ h.1 66 67 ≤ 1 := i0.1 66 67
  have g2 : 0 ≤ h.1 66 22 ∧ h.1 66 22 ≤ 8 := i0.1 66 22
  have g3 : 0 ≤ h.1 66 23 ∧ h.1 66 23 ≤ 40 := i0.1 66 23
  have g4 : 0 ≤ h.1 66 41 ∧ h.1 66 41 ≤ 99999 := i0.1 66 41
  have g5 : 1 ≤ h.1 66 1 ∧ h.1 66 1 ≤ 20 := i0.1 66 1
  have g6 : 1 ≤ h.1 66 2 ∧ h.1 66 2 ≤ 20 := i0.1 66 2
  have g7 : 0 ≤ h.1 66 21 ∧ h.1 66 21 ≤ 20 := i0.1 66 21
  have g8 : 0 ≤ h.1 66 3 ∧ h.1 66 3 ≤ 9 := i0.1 66 3
  have g9 : 0 ≤ h.1 66 9 ∧ h.1 66 9 ≤ 19 := i0.1 66 9
  have g10 : 0 ≤ h.1 66 10 ∧ h.1 66 10 ≤ 19 := i0.1 66 10
  have g11 : 0 ≤ h.1 66 24 ∧ h.1 66 24 ≤ 10 := i0.1 66 24
  have g12 : 0 ≤ h.1 66 11 ∧ h.1 66 11 ≤ 19 := i0.1 66 11
  have g13 : 0 ≤ h.1 66 12 ∧ h.1 66 12 ≤ 19 := i0.1 66 12
  have g14 : -2147483648 ≤ h.1 66 58 ∧ h.1 66 58 ≤ 2147483647 := i0.1 66 58
  have g15 : 0 ≤ h.1 66 40 ∧ h.1 66 40 ≤ 500 := i0.1 66 40
  have g16 : 0 ≤ h.1 66 82 ∧ h.1 66 82 ≤ 40 := i0.1 66 82
  have g17 : 0 ≤ h.1 66 68 ∧ h.1 66 68 ≤ 1 := i0.1 66 68
  refine mm_aload_n C (mm_dec dk_X12_land 0 rfl) rfl ?_
  refine mm_iconst C (mm_dec dk_X12_land 1 rfl) ⟨by decide, by decide⟩ ?_
  refine mm_puti C fl_X12_188 (mm_dec dk_X12_land 2 rfl) rfl rfl rfl (Or.inl ⟨rfl, rfl⟩) ?_
  have i1 : mm_inv (mm_pf h 66 0 0) := mm_inv_pf i0 (show -2147483648 ≤ 0 ∧ 0 ≤ 2147483647 from ⟨by omega, by omega⟩) (by decide)
  have f1 : mm_fr [(66, 0), (66, 1), (66, 2), (66, 3), (66, 9), (66, 10), (66, 11), (66, 12), (66, 19), (66, 21), (66, 22), (66, 23), (66, 24), (66, 40), (66, 41), (66, 58), (66, 67), (66, 82), (66, 95)] [67, 68, 69, 70, 71] h (mm_pf h 66 0 0) := mm_fr_pf f0 (by decide)
  obtain ⟨h1, eh1⟩ : ∃ z, z = mm_pf h 66 0 0 := ⟨_, rfl⟩
  rw [← eh1] at i1 f1 ⊢
  have qh1 : h1.1 66 0 = 0 := by rw [eh1]; exact mm_pf_same _ _ _ _
  have qh1_18 : h1.1 66 1 = h.1 66 1 := by rw [eh1]; exact mm_pf_ne _ _ (by decide)
  have qh1_19 : h1.1 66 2 = h.1 66 2 := by rw [eh1]; exact mm_pf_ne _ _ (by decide)
  have qh1_20 : h1.1 66 3 = h.1 66 3 := by rw [eh1]; exact mm_pf_ne _ _ (by decide)
  have qh1_21 : h1.1 66 9 = h.1 66 9 := by rw [eh1]; exact mm_pf_ne _ _ (by decide)
  have qh1_22 : h1.1 66 10 = h.1 66 10 := by rw [eh1]; exact mm_pf_ne _ _ (by decide)
  have qh1_23 : h1.1 66 11 = h.1 66 11 := by rw [eh1]; exact mm_pf_ne _ _ (by decide)
  have qh1_24 : h1.1 66 12 = h.1 66 12 := by rw [eh1]; exact mm_pf_ne _ _ (by decide)
  have qh1_25 : h1.1 66 21 = h.1 66 21 := by rw [eh1]; exact mm_pf_ne _ _ (by decide)
  have qh1_26 : h1.1 66 22 = h.1 66 22 := by rw [eh1]; exact mm_pf_ne _ _ (by decide)
  have qh1_27 : h1.1 66 23 = h.1 66 23 := by rw [eh1]; exact mm_pf_ne _ _ (by decide)
  have qh1_28 : h1.1 66 24 = h.1 66 24 := by rw [eh1]; exact mm_pf_ne _ _ (by decide)
  have qh1_29 : h1.1 66 40 = h.1 66 40 := by rw [eh1]; exact mm_pf_ne _ _ (by decide)
  have qh1_30 : h1.1 66 41 = h.1 66 41 := by rw [eh1]; exact mm_pf_ne _ _ (by decide)
  have qh1_31 : h1.1 66 58 = h.1 66 58 := by rw [eh1]; exact mm_pf_ne _ _ (by decide)
  have qh1_32 : h1.1 66 67 = h.1 66 67 := by rw [eh1]; exact mm_pf_ne _ _ (by decide)
  have qh1_33 : h1.1 66 68 = h.1 66 68 := by rw [eh1]; exact mm_pf_ne _ _ (by decide)
  have qh1_34 : h1.1 66 82 = h.1 66 82 := by rw [eh1]; exact mm_pf_ne _ _ (by decide)
  refine mm_iload_n C (mm_dec dk_X12_land 3 rfl) rfl ?_
  refine mm_iconst C (mm_dec dk_X12_land 4 rfl) ⟨by decide, by decide⟩ ?_
  have J27 : ∀ (w27_0 : (p1 < 1 ∨ 20 < p1 ∨ p2 < 1 ∨ 20 < p2)), mm_W x 0 0 27 [mU, mU, mU] [] h1 := by
    intro w27_0
    refine mm_iconst C (mm_dec dk_X12_land 15 rfl) ⟨by decide, by decide⟩ ?_
    exact mm_zret C T (mm_dec dk_X12_land 16 rfl) (by decide : 0 ≤ 0) (by decide : 0 ≤ 0) (by omega) ⟨_, rfl, ⟨⟨by omega, by omega⟩, i1, f1, by omega, by first | exact Or.inl (by omega) | exact mm_RO_fr (wf := [(66, 0)]) (wa := []) t0 (by rw [eh1]; exact mm_fr_pf mm_fr_rf (by decide)) (by decide), by omega, by omega, by first | exact fun w => absurd w (by decide) | exact fun _ => ⟨y32_7, y32_8, y32_9, y32_10, y32_11⟩, by first | exact fun w => absurd w (by decide) | exact fun _ o j => mm_sm_pf o eh1 j, by omega, by omega, by omega, by omega⟩⟩
  refine mm_icmp_lt (tgt := 27) C (mm_dec dk_X12_land 5 rfl) (by decide) (fun c7 => ?_) (fun c7 => ?_)
  · skip
    refine mm_fgt 0 ?_
    refine mm_fgt 1 ?_
    refine mm_fgt 2 ?_
    exact J27 (by omega)
  · skip
    refine mm_iload_n C (mm_dec dk_X12_land 6 rfl) rfl ?_
    refine mm_bipush C (mm_dec dk_X12_land 7 rfl) ⟨by decide, by decide⟩ ?_
    refine mm_icmp_gt (tgt := 27) C (mm_dec dk_X12_land 8 rfl) (by decide) (fun c13 => ?_) (fun c13 => ?_)
    · skip
      refine mm_fgt 0 ?_
      refine mm_fgt 1 ?_
      refine mm_fgt 2 ?_
      exact J27 (by omega)
    · skip
      refine mm_iload_n C (mm_dec dk_X12_land 9 rfl) rfl ?_
      refine mm_iconst C (mm_dec dk_X12_land 10 rfl) ⟨by decide, by decide⟩ ?_
      refine mm_icmp_lt (tgt := 27) C (mm_dec dk_X12_land 11 rfl) (by decide) (fun c18 => ?_) (fun c18 => ?_)
      · skip
        refine mm_fgt 0 ?_
        refine mm_fgt 1 ?_
        refine mm_fgt 2 ?_
        exact J27 (by omega)
      · skip
        refine mm_iload_n C (mm_dec dk_X12_land 12 rfl) rfl ?_
        refine mm_bipush C (mm_dec dk_X12_land 13 rfl) ⟨by decide, by decide⟩ ?_
        refine mm_icmp_le (tgt := 29) C (mm_dec dk_X12_land 14 rfl) (by decide) (fun c24 => ?_) (fun c24 => ?_)
        · skip
          refine mm_aload_n C (mm_dec dk_X12_land 17 rfl) rfl ?_
          refine mm_iload_n C (mm_dec dk_X12_land 18 rfl) rfl ?_
          refine mm_iload_n C (mm_dec dk_X12_land 19 rfl) rfl ?_
          refine mm_cVv (rest := []) C1 ev_X12_184 (mm_dec dk_X12_land 20 rfl) (c_X12_anew_q x.2.1 hl (d - 1) (by omega) h1 i1 p1 p2 ⟨by omega, by omega⟩ ⟨by omega, by omega⟩) rfl rfl (Nat.le_of_ble_eq_true rfl) ⟨by decide, by decide⟩ rfl (fun h32c hp32 => ?_) (fun _ _ q => q.elim)
          obtain ⟨i32c, g32c, y32_0, y32_1, y32_2, y32_3, y32_4, y32_5, y32_6, y32_7, y32_8, y32_9, y32_10, y32_11, y32_12, y32_13, y32_14, y32_15, y32_16, y32_17, y32_18, y32_19, y32_20⟩ := hp32
          have f32c : mm_fr [(66, 0), (66, 1), (66, 2), (66, 3), (66, 9), (66, 10), (66, 11), (66, 12), (66, 19), (66, 21), (66, 22), (66, 23), (66, 24), (66, 40), (66, 41), (66, 58), (66, 67), (66, 82), (66, 95)] [67, 68, 69, 70, 71] h h32c := mm_fr_tr f1 g32c (by decide +kernel)
          have q32c_36 : h32c.1 66 0 = h1.1 66 0 := g32c.1 66 0 (by decide)
          have q32c_37 : h32c.1 66 68 = h1.1 66 68 := g32c.1 66 68 (by decide)
          have g38 : 0 ≤ (h32c.1 66 67) ∧ (h32c.1 66 67) ≤ 1 := i32c.1 66 67
          have g39 : 0 ≤ (h32c.1 66 22) ∧ (h32c.1 66 22) ≤ 8 := i32c.1 66 22
          have g40 : 0 ≤ (h32c.1 66 23) ∧ (h32c.1 66 23) ≤ 40 := i32c.1 66 23
          have g41 : 0 ≤ (h32c.1 66 41) ∧ (h32c.1 66 41) ≤ 99999 := i32c.1 66 41
          have g42 : 1 ≤ (h32c.1 66 1) ∧ (h32c.1 66 1) ≤ 20 := i32c.1 66 1
          have g43 : 1 ≤ (h32c.1 66 2) ∧ (h32c.1 66 2) ≤ 20 := i32c.1 66 2
          have g44 : 0 ≤ (h32c.1 66 21) ∧ (h32c.1 66 21) ≤ 20 := i32c.1 66 21
          have g45 : 0 ≤ (h32c.1 66 3) ∧ (h32c.1 66 3) ≤ 9 := i32c.1 66 3
          have g46 : 0 ≤ (h32c.1 66 9) ∧ (h32c.1 66 9) ≤ 19 := i32c.1 66 9
          have g47 : 0 ≤ (h32c.1 66 10) ∧ (h32c.1 66 10) ≤ 19 := i32c.1 66 10
          have g48 : 0 ≤ (h32c.1 66 24) ∧ (h32c.1 66 24) ≤ 10 := i32c.1 66 24
          have g49 : 0 ≤ (h32c.1 66 11) ∧ (h32c.1 66 11) ≤ 19 := i32c.1 66 11
          have g50 : 0 ≤ (h32c.1 66 12) ∧ (h32c.1 66 12) ≤ 19 := i32c.1 66 12
          have g51 : -2147483648 ≤ (h32c.1 66 58) ∧ (h32c.1 66 58) ≤ 2147483647 := i32c.1 66 58
          have g52 : 0 ≤ (h32c.1 66 40) ∧ (h32c.1 66 40) ≤ 500 := i32c.1 66 40
          have g53 : 0 ≤ (h32c.1 66 82) ∧ (h32c.1 66 82) ≤ 40 := i32c.1 66 82
          refine mm_iconst C (mm_dec dk_X12_land 21 rfl) ⟨by decide, by decide⟩ ?_
          exact mm_zret C T (mm_dec dk_X12_land 22 rfl) (by decide : 0 ≤ 0) (by decide : 0 ≤ 0) (by omega) ⟨_, rfl, ⟨⟨by omega, by omega⟩, i32c, f32c, by omega, by first | exact Or.inl (by omega) | exact mm_RO_fr (wf := [(66, 0)]) (wa := []) t0 (by rw [eh1]; exact mm_fr_pf mm_fr_rf (by decide)) (by decide), by omega, by omega, by first | exact fun w => absurd w (by decide) | exact fun _ => ⟨y32_7, y32_8, y32_9, y32_10, y32_11⟩, by first | exact fun w => absurd w (by decide) | exact fun _ o j => mm_sm_pf o eh1 j, by omega, by omega, by omega, by omega⟩⟩
        · skip
          refine mm_fgt 0 ?_
          refine mm_fgt 1 ?_
          refine mm_fgt 2 ?_
          exact J27 (by omega)
set_option maxRecDepth 100000 in
set_option maxHeartbeats 4000000 in
theorem c_X12_course_q (l : Launch) (hl : l.stackTraces = false) (d : Nat) (hd : 0 ≤ d) (h : mH) (i0 : mm_inv h) (p1 : Int) (bp1 : 0 ≤ p1 ∧ p1 ≤ 1) : mm_Met l d yX12_course cX12_course 2 (some .int) [mR 66, mI p1] h (mm_pi fun r h2 => (-1 ≤ r ∧ r ≤ 7) ∧ mm_inv h2 ∧ mm_fr [(66, 0), (66, 22)] [80, 81, 83] h h2 ∧ ((h.1 66 22 ≤ 7 ∧ r = h.1 66 22 ∧ h2.1 66 22 = h.1 66 22 + 1) ∨ (8 ≤ h.1 66 22 ∧ r = -1 ∧ h2.1 66 22 = h.1 66 22)) ∧ (∃ f : Int, ((f = 1 ∧ h2.1 66 22 = h.1 66 22 + 1) ∨ (f = 0 ∧ h2.1 66 22 = h.1 66 22)) ∧ mm_up h h2 83 (h.1 66 22) p1 f ∧ mm_up h h2 80 (h.1 66 22) 0 f ∧ mm_up h h2 81 (h.1 66 22) 0 f)) mm_nx 0 0 := by
  refine mm_ofW (ls := [mR 66, mI p1]) hl (by decide) rfl (Nat.le_of_ble_eq_true rfl) ?_
  intro x hxl C T hnm htb
  subst hxl
  refine mm_rng (fun hr _ => ?_)
  have ap1 : -2147483648 ≤ p1 ∧ p1 < 2147483648 := mm_ok_at hr (i := 1) rfl
  have f0 : mm_fr [(66, 0), (66, 22)] [80, 81, 83] h h := mm_fr_rf
  have g1 : 0 ≤ h.1 66 22 ∧ h.1 66 22 ≤ 8 := i0.1 66 22
  refine mm_aload_n C (mm_dec dk_X12_course 0 rfl) rfl ?_
  refine mm_iconst C (mm_dec dk_X12_course 1 rfl) ⟨by decide, by decide⟩ ?_
  refine mm_puti C fl_X12_188 (mm_dec dk_X12_course 2 rfl) rfl rfl rfl (Or.inl ⟨rfl, rfl⟩) ?_
  have i1 : mm_inv (mm_pf h 66 0 0) := mm_inv_pf i0 (show -2147483648 ≤ 0 ∧ 0 ≤ 2147483647 from ⟨by omega, by omega⟩) (by decide)
  have f1 : mm_fr [(66, 0), (66, 22)] [80, 81, 83] h (mm_pf h 66 0 0) := mm_fr_pf f0 (by decide)
  obtain ⟨h1, eh1⟩ : ∃ z, z = mm_pf h 66 0 0 := ⟨_, rfl⟩
  rw [← eh1] at i1 f1 ⊢
  have qh1 : h1.1 66 0 = 0 := by rw [eh1]; exact mm_pf_same _ _ _ _
  have qh1_2 : h1.1 66 22 = h.1 66 22 := by rw [eh1]; exact mm_pf_ne _ _ (by decide)
  refine mm_aload_n C (mm_dec dk_X12_course 3 rfl) rfl ?_
  refine mm_geti C fl_X12_219 (mm_dec dk_X12_course 4 rfl) rfl rfl (Or.inl rfl) ?_
  refine mm_bipush C (mm_dec dk_X12_course 5 rfl) ⟨by decide, by decide⟩ ?_
  refine mm_icmp_ne (tgt := 16) C (mm_dec dk_X12_course 6 rfl) (by decide) (fun c11 => ?_) (fun c11 => ?_)
  · skip
    refine mm_aload_n C (mm_dec dk_X12_course 9 rfl) rfl ?_
    refine mm_getr (t := 83) C fl_X12_60 (mm_dec dk_X12_course 10 rfl) rfl rfl (mm_ref i1 rfl) ?_
    refine mm_aload_n C (mm_dec dk_X12_course 11 rfl) rfl ?_
    refine mm_geti C fl_X12_219 (mm_dec dk_X12_course 12 rfl) rfl rfl (Or.inl rfl) ?_
    refine mm_iload_n C (mm_dec dk_X12_course 13 rfl) rfl ?_
    refine mm_zast C (mm_dec dk_X12_course 14 rfl) rfl (by omega) (by omega) (by omega) ?_
    have i2 : mm_inv (mm_pa h1 83 (h1.1 66 22) p1) := mm_inv_pa i1 (show 0 ≤ p1 ∧ p1 ≤ 1 from ⟨by omega, by omega⟩)
    have f2 : mm_fr [(66, 0), (66, 22)] [80, 81, 83] h (mm_pa h1 83 (h1.1 66 22) p1) := mm_fr_pa f1 (by decide)
    obtain ⟨h2, eh2⟩ : ∃ z, z = mm_pa h1 83 (h1.1 66 22) p1 := ⟨_, rfl⟩
    rw [← eh2] at i2 f2 ⊢
    have qh2_3 : h2.1 66 0 = h1.1 66 0 := by rw [eh2]; rfl
    have qh2_4 : h2.1 66 22 = h1.1 66 22 := by rw [eh2]; rfl
    refine mm_aload_n C (mm_dec dk_X12_course 15 rfl) rfl ?_
    refine mm_getr (t := 80) C fl_X12_51 (mm_dec dk_X12_course 16 rfl) rfl rfl (mm_ref i2 rfl) ?_
    refine mm_aload_n C (mm_dec dk_X12_course 17 rfl) rfl ?_
    refine mm_geti C fl_X12_219 (mm_dec dk_X12_course 18 rfl) rfl rfl (Or.inl rfl) ?_
    refine mm_iconst C (mm_dec dk_X12_course 19 rfl) ⟨by decide, by decide⟩ ?_
    refine mm_iast C (mm_dec dk_X12_course 20 rfl) rfl (by omega) (by omega) ?_
    have i3 : mm_inv (mm_pa h2 80 (h2.1 66 22) 0) := mm_inv_pa i2 (show 0 ≤ 0 ∧ 0 ≤ 12 from ⟨by omega, by omega⟩)
    have f3 : mm_fr [(66, 0), (66, 22)] [80, 81, 83] h (mm_pa h2 80 (h2.1 66 22) 0) := mm_fr_pa f2 (by decide)
    obtain ⟨h3, eh3⟩ : ∃ z, z = mm_pa h2 80 (h2.1 66 22) 0 := ⟨_, rfl⟩
    rw [← eh3] at i3 f3 ⊢
    have qh3_5 : h3.1 66 0 = h2.1 66 0 := by rw [eh3]; rfl
    have qh3_6 : h3.1 66 22 = h2.1 66 22 := by rw [eh3]; rfl
    refine mm_aload_n C (mm_dec dk_X12_course 21 rfl) rfl ?_
    refine mm_getr (t := 81) C fl_X12_54 (mm_dec dk_X12_course 22 rfl) rfl rfl (mm_ref i3 rfl) ?_
    refine mm_aload_n C (mm_dec dk_X12_course 23 rfl) rfl ?_
    refine mm_geti C fl_X12_219 (mm_dec dk_X12_course 24 rfl) rfl rfl (Or.inl rfl) ?_
    refine mm_iconst C (mm_dec dk_X12_course 25 rfl) ⟨by decide, by decide⟩ ?_
    refine mm_iast C (mm_dec dk_X12_course 26 rfl) rfl (by omega) (by omega) ?_
    have i4 : mm_inv (mm_pa h3 81 (h3.1 66 22) 0) := mm_inv_pa i3 (show -2147483648 ≤ 0 ∧ 0 ≤ 2147483647 from ⟨by omega, by omega⟩)
    have f4 : mm_fr [(66, 0), (66, 22)] [80, 81, 83] h (mm_pa h3 81 (h3.1 66 22) 0) := mm_fr_pa f3 (by decide)
    obtain ⟨h4, eh4⟩ : ∃ z, z = mm_pa h3 81 (h3.1 66 22) 0 := ⟨_, rfl⟩
    rw [← eh4] at i4 f4 ⊢
    have qh4_7 : h4.1 66 0 = h3.1 66 0 := by rw [eh4]; rfl
    have qh4_8 : h4.1 66 22 = h3.1 66 22 := by rw [eh4]; rfl
    refine mm_aload_n C (mm_dec dk_X12_course 27 rfl) rfl ?_
    refine mm_dup C (mm_dec dk_X12_course 28 rfl) (show (2 : Nat) ≠ 1 by decide) ?_
    refine mm_geti C fl_X12_219 (mm_dec dk_X12_course 29 rfl) rfl rfl (Or.inl rfl) ?_
    refine mm_iconst C (mm_dec dk_X12_course 30 rfl) ⟨by decide, by decide⟩ ?_
    refine mm_iadd C (mm_dec dk_X12_course 31 rfl) ⟨by omega, by omega⟩ ?_
    refine mm_puti C fl_X12_219 (mm_dec dk_X12_course 32 rfl) rfl rfl rfl (Or.inl ⟨rfl, rfl⟩) ?_
    have i5 : mm_inv (mm_pf h4 66 22 ((h4.1 66 22) + 1)) := mm_inv_pf i4 (show 0 ≤ ((h4.1 66 22) + 1) ∧ ((h4.1 66 22) + 1) ≤ 8 from ⟨by omega, by omega⟩) (by decide)
    have f5 : mm_fr [(66, 0), (66, 22)] [80, 81, 83] h (mm_pf h4 66 22 ((h4.1 66 22) + 1)) := mm_fr_pf f4 (by decide)
    obtain ⟨h5, eh5⟩ : ∃ z, z = mm_pf h4 66 22 ((h4.1 66 22) + 1) := ⟨_, rfl⟩
    rw [← eh5] at i5 f5 ⊢
    have qh5 : h5.1 66 22 = ((h4.1 66 22) + 1) := by rw [eh5]; exact mm_pf_same _ _ _ _
    have qh5_9 : h5.1 66 0 = h4.1 66 0 := by rw [eh5]; exact mm_pf_ne _ _ (by decide)
    refine mm_aload_n C (mm_dec dk_X12_course 33 rfl) rfl ?_
    refine mm_geti C fl_X12_219 (mm_dec dk_X12_course 34 rfl) rfl rfl (Or.inl rfl) ?_
    refine mm_iconst C (mm_dec dk_X12_course 35 rfl) ⟨by decide, by decide⟩ ?_
    refine mm_isub C (mm_dec dk_X12_course 36 rfl) ⟨by omega, by omega⟩ ?_
    exact mm_iret C T (mm_dec dk_X12_course 37 rfl) (by decide : 0 ≤ 0) (by decide : 0 ≤ 0) ⟨_, rfl, ⟨⟨by omega, by omega⟩, i5, f5, by omega, by first | exact ⟨0, Or.inr ⟨rfl, by omega⟩, mm_up_no (by decide) (fun j => mm_sm_pf 83 eh1 j), mm_up_no (by decide) (fun j => mm_sm_pf 80 eh1 j), mm_up_no (by decide) (fun j => mm_sm_pf 81 eh1 j)⟩ | exact ⟨1, Or.inl ⟨rfl, by omega⟩, mm_up_pav (fun _ => (mm_sm_pf 83 eh1 _)) eh2 (fun _ => ((mm_sm_pf 83 eh5 _).trans ((mm_sm_pa 83 eh4 (by decide) _).trans (mm_sm_pa 83 eh3 (by decide) _)))) (by omega) (by omega) rfl, mm_up_pav (fun _ => ((mm_sm_pa 80 eh2 (by decide) _).trans (mm_sm_pf 80 eh1 _))) eh3 (fun _ => ((mm_sm_pf 80 eh5 _).trans (mm_sm_pa 80 eh4 (by decide) _))) (by omega) (by omega) rfl, mm_up_pav (fun _ => ((mm_sm_pa 81 eh3 (by decide) _).trans ((mm_sm_pa 81 eh2 (by decide) _).trans (mm_sm_pf 81 eh1 _)))) eh4 (fun _ => (mm_sm_pf 81 eh5 _)) (by omega) (by omega) rfl⟩⟩⟩
  · skip
    refine mm_iconst C (mm_dec dk_X12_course 7 rfl) ⟨by decide, by decide⟩ ?_
    exact mm_iret C T (mm_dec dk_X12_course 8 rfl) (by decide : 0 ≤ 0) (by decide : 0 ≤ 0) ⟨_, rfl, ⟨⟨by omega, by omega⟩, i1, f1, by omega, by first | exact ⟨0, Or.inr ⟨rfl, by omega⟩, mm_up_no (by decide) (fun j => mm_sm_pf 83 eh1 j), mm_up_no (by decide) (fun j => mm_sm_pf 80 eh1 j), mm_up_no (by decide) (fun j => mm_sm_pf 81 eh1 j)⟩ | exact ⟨1, Or.inl ⟨rfl, by omega⟩, mm_up_pav (fun _ => (mm_sm_pf 83 eh1 _)) eh2 (fun _ => ((mm_sm_pf 83 eh5 _).trans ((mm_sm_pa 83 eh4 (by decide) _).trans (mm_sm_pa 83 eh3 (by decide) _)))) (by omega) (by omega) rfl, mm_up_pav (fun _ => ((mm_sm_pa 80 eh2 (by decide) _).trans (mm_sm_pf 80 eh1 _))) eh3 (fun _ => ((mm_sm_pf 80 eh5 _).trans (mm_sm_pa 80 eh4 (by decide) _))) (by omega) (by omega) rfl, mm_up_pav (fun _ => ((mm_sm_pa 81 eh3 (by decide) _).trans ((mm_sm_pa 81 eh2 (by decide) _).trans (mm_sm_pf 81 eh1 _)))) eh4 (fun _ => (mm_sm_pf 81 eh5 _)) (by omega) (by omega) rfl⟩⟩⟩
set_option maxRecDepth 100000 in
set_option maxHeartbeats 4000000 in
theorem c_X12_thrown_q (l : Launch) (hl : l.stackTraces = false) (d : Nat) (hd : 0 ≤ d) (h : mH) (i0 : mm_inv h) : mm_Met l d yX12_thrown cX12_thrown 1 (some .int) [mR 66] h (mm_pi fun r h2 => h2 = h ∧ (r = (h.1 66 0))) mm_nx 0 0 := by
  refine mm_ofW (ls := [mR 66]) hl (by decide) rfl (Nat.le_of_ble_eq_true rfl) ?_
  intro x hxl C T hnm htb
  subst hxl
  have f0 : mm_fr [] [] h h := mm_fr_rf
  refine mm_aload_n C (mm_dec dk_X12_thrown 0 rfl) rfl ?_
  refine mm_geti C fl_X12_188 (mm_dec dk_X12_thrown 1 rfl) rfl rfl (Or.inl rfl) ?_
  have g1 : -2147483648 ≤ (h.1 66 0) ∧ (h.1 66 0) ≤ 2147483647 := i0.1 66 0
  exact mm_iret C T (mm_dec dk_X12_thrown 2 rfl) (by decide : 0 ≤ 0) (by decide : 0 ≤ 0) ⟨_, rfl, ⟨rfl, rfl⟩⟩
