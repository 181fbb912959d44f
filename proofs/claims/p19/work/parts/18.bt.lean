set_option maxRecDepth 100000 in
set_option maxHeartbeats 4000000 in
theorem c_X12_towards (l : Launch) (hl : l.stackTraces = false) (d : Nat) (hd : 2 ≤ d) (h : mH) (i0 : mm_inv h) (p1 : Int) (bp1 : 0 ≤ p1 ∧ p1 ≤ 399) : mm_Met l d yX12_towards cX12_towards 5 none [mR 66, mI p1] h (mm_pv fun h2 => mm_inv h2 ∧ mm_fr [(66, 18)] [72, 73, 75, 76] h h2 ∧ (∃ L, mm_dij h2 p1 L)) mm_nx 0 0 := by
  refine mm_ofW (ls := [mR 66, mI p1, mU, mU, mU]) hl (by decide) rfl (Nat.le_of_ble_eq_true rfl) ?_
  intro x hxl C T hnm htb
  subst hxl
  have C1 := mm_OK_le (d' := d - 1 + 1) (by omega) C
  refine mm_rng (fun hr _ => ?_)
  have ap1 : -2147483648 ≤ p1 ∧ p1 < 2147483648 := mm_ok_at hr (i := 1) rfl
  have f0 : mm_fr [(66, 18)] [72, 73, 75, 76] h h := mm_fr_rf
  refine mm_iconst C (mm_dec dk_X12_towards 0 rfl) ⟨by decide, by decide⟩ ?_
  have J2 : ∀ (n : Nat) (x2_2 : Int) (bx2_2 : 0 ≤ x2_2 ∧ x2_2 ≤ 400) (h2_ : mH) (i2_ : mm_inv h2_) (f2_ : mm_fr [(66, 18)] [72, 73, 75, 76] h h2_) (w2_0 : mm_ini0 h2_ x2_2), (400 - x2_2 : Int) < n → mm_W x 0 0 2 [mR 66, mI p1, mI x2_2, mU, mU] [] h2_ := by
    intro n
    induction n with
    | zero =>
      intro x2_2 bx2_2 h2_ i2_ f2_ w2_0 hm
      exfalso; omega
    | succ n ih2 =>
      intro x2_2 bx2_2 h2_ i2_ f2_ w2_0 hm2
      refine mm_iload_n C (mm_dec dk_X12_towards 2 rfl) rfl ?_
      refine mm_sipush C (mm_dec dk_X12_towards 3 rfl) ⟨by decide, by decide⟩ ?_
      refine mm_icmp_ge (tgt := 45) C (mm_dec dk_X12_towards 4 rfl) (by decide) (fun c6 => ?_) (fun c6 => ?_)
      · skip
        refine mm_aload_n C (mm_dec dk_X12_towards 27 rfl) rfl ?_
        refine mm_getr (t := 72) C fl_X12_26 (mm_dec dk_X12_towards 28 rfl) rfl rfl (mm_ref i2_ rfl) ?_
        refine mm_iload_n C (mm_dec dk_X12_towards 29 rfl) rfl ?_
        refine mm_iconst C (mm_dec dk_X12_towards 30 rfl) ⟨by decide, by decide⟩ ?_
        refine mm_iast C (mm_dec dk_X12_towards 31 rfl) rfl (by omega) (by omega) ?_
        have i1 : mm_inv (mm_pa h2_ 72 p1 0) := mm_inv_pa i2_ (show 0 ≤ 0 ∧ 0 ≤ 1000000000 from ⟨by omega, by omega⟩)
        have f1 : mm_fr [(66, 18)] [72, 73, 75, 76] h (mm_pa h2_ 72 p1 0) := mm_fr_pa f2_ (by decide)
        obtain ⟨h1, eh1⟩ : ∃ z, z = mm_pa h2_ 72 p1 0 := ⟨_, rfl⟩
        rw [← eh1] at i1 f1 ⊢
        refine mm_aload_n C (mm_dec dk_X12_towards 32 rfl) rfl ?_
        refine mm_getr (t := 75) C fl_X12_35 (mm_dec dk_X12_towards 33 rfl) rfl rfl (mm_ref i1 rfl) ?_
        refine mm_iload_n C (mm_dec dk_X12_towards 34 rfl) rfl ?_
        refine mm_lconst (z := 1) C (mm_dec dk_X12_towards 35 rfl) rfl ?_
        refine mm_last C (mm_dec dk_X12_towards 36 rfl) rfl (by omega) (by omega) ?_
        have i2 : mm_inv (mm_pa h1 75 p1 1) := mm_inv_pa i1 (show -9223372036854775808 ≤ 1 ∧ 1 ≤ 9223372036854775807 from ⟨by omega, by omega⟩)
        have f2 : mm_fr [(66, 18)] [72, 73, 75, 76] h (mm_pa h1 75 p1 1) := mm_fr_pa f1 (by decide)
        obtain ⟨h2, eh2⟩ : ∃ z, z = mm_pa h1 75 p1 1 := ⟨_, rfl⟩
        rw [← eh2] at i2 f2 ⊢
        refine mm_aload_n C (mm_dec dk_X12_towards 37 rfl) rfl ?_
        refine mm_iconst C (mm_dec dk_X12_towards 38 rfl) ⟨by decide, by decide⟩ ?_
        refine mm_puti C fl_X12_259 (mm_dec dk_X12_towards 39 rfl) rfl rfl rfl (Or.inl ⟨rfl, rfl⟩) ?_
        have i3 : mm_inv (mm_pf h2 66 18 0) := mm_inv_pf i2 (show -2147483648 ≤ 0 ∧ 0 ≤ 2147483647 from ⟨by omega, by omega⟩) (by decide)
        have f3 : mm_fr [(66, 18)] [72, 73, 75, 76] h (mm_pf h2 66 18 0) := mm_fr_pf f2 (by decide)
        obtain ⟨h3, eh3⟩ : ∃ z, z = mm_pf h2 66 18 0 := ⟨_, rfl⟩
        rw [← eh3] at i3 f3 ⊢
        have qh3 : h3.1 66 18 = 0 := by rw [eh3]; exact mm_pf_same _ _ _ _
        refine mm_iconst C (mm_dec dk_X12_towards 40 rfl) ⟨by decide, by decide⟩ ?_
        have J66 : ∀ (n : Nat) (x66_2 : Int) (bx66_2 : 0 ≤ x66_2 ∧ x66_2 ≤ 1) (h66_ : mH) (i66_ : mm_inv h66_) (f66_ : mm_fr [(66, 18)] [72, 73, 75, 76] h h66_) (w66_0 : ∃ L, mm_dij h66_ p1 L) (w66_1 : (mm_dn h66_ : Int) ≤ 400), (x66_2 + 2 * (400 - (mm_dn h66_ : Int)) : Int) < n → mm_W x 0 0 66 [mR 66, mI p1, mI x66_2, mU, mU] [] h66_ := by
          intro n
          induction n with
          | zero =>
            intro x66_2 bx66_2 h66_ i66_ f66_ w66_0 w66_1 hm
            exfalso; omega
          | succ n ih66 =>
            intro x66_2 bx66_2 h66_ i66_ f66_ w66_0 w66_1 hm66
            refine mm_iload_n C (mm_dec dk_X12_towards 42 rfl) rfl ?_
            refine mm_if_eq (tgt := 186) C (mm_dec dk_X12_towards 43 rfl) (by decide) (fun c67 => ?_) (fun c67 => ?_)
            · skip
              exact mm_vret C T (mm_dec dk_X12_towards 105 rfl) (by decide : 0 ≤ 0) (by decide : 0 ≤ 0) ⟨rfl, ⟨i66_, f66_, by exact w66_0⟩⟩
            · skip
              refine mm_iconst C (mm_dec dk_X12_towards 44 rfl) ⟨by decide, by decide⟩ ?_
              refine mm_istore_nL (ls2 := [mR 66, mI p1, mI x66_2, mI (-1), mU]) C (mm_dec dk_X12_towards 45 rfl) (by decide) rfl ?_
              refine mm_iconst C (mm_dec dk_X12_towards 46 rfl) ⟨by decide, by decide⟩ ?_
              have J75 : ∀ (n : Nat) (x75_3 : Int) (bx75_3 : -1 ≤ x75_3 ∧ x75_3 ≤ 399) (x75_4 : Int) (bx75_4 : 0 ≤ x75_4 ∧ x75_4 ≤ 400) (w75_0 : mm_bst h66_ x75_3 x75_4), (400 - x75_4 : Int) < n → mm_W x 0 0 75 [mR 66, mI p1, mU, mI x75_3, mI x75_4] [] h66_ := by
                intro n
                induction n with
                | zero =>
                  intro x75_3 bx75_3 x75_4 bx75_4 w75_0 hm
                  exfalso; omega
                | succ n ih75 =>
                  intro x75_3 bx75_3 x75_4 bx75_4 w75_0 hm75
                  refine mm_iload C (mm_dec dk_X12_towards 48 rfl) rfl ?_
                  refine mm_sipush C (mm_dec dk_X12_towards 49 rfl) ⟨by decide, by decide⟩ ?_
                  refine mm_icmp_ge (tgt := 130) C (mm_dec dk_X12_towards 50 rfl) (by decide) (fun c80 => ?_) (fun c80 => ?_)
                  · skip
                    refine mm_iload_n C (mm_dec dk_X12_towards 74 rfl) rfl ?_
                    refine mm_iconst C (mm_dec dk_X12_towards 75 rfl) ⟨by decide, by decide⟩ ?_
                    have J140 : ∀ (s140_0 : Int) (bs140_0 : 0 ≤ s140_0 ∧ s140_0 ≤ 1) (vs140_0 : (x75_3 = (-1) ∧ s140_0 = 0) ∨ (x75_3 ≠ (-1) ∧ s140_0 = 1)), mm_W x 0 0 140 [mR 66, mI p1, mU, mI x75_3, mU] [mI s140_0] h66_ := by
                      intro s140_0 bs140_0 vs140_0
                      refine mm_istore_nL (ls2 := [mR 66, mI p1, mI s140_0, mI x75_3, mU]) C (mm_dec dk_X12_towards 80 rfl) (by decide) rfl ?_
                      refine mm_iload_n C (mm_dec dk_X12_towards 81 rfl) rfl ?_
                      refine mm_if_ne (tgt := 148) C (mm_dec dk_X12_towards 82 rfl) (by decide) (fun c142 => ?_) (fun c142 => ?_)
                      · skip
                        obtain ⟨zL, zd⟩ := w66_0
                        obtain ⟨z0, zf, zm⟩ := w75_0.1.resolve_left (by omega)
                        have zp := mm_dij_pick zd ⟨by omega, by omega⟩ z0 zf (fun j a b c => zm j a (by omega) c)
                        have zn := mm_dn_put (h := h66_) (j := x75_3) ⟨by omega, by omega⟩ z0
                        refine mm_aload_n C (mm_dec dk_X12_towards 84 rfl) rfl ?_
                        refine mm_getr (t := 76) C fl_X12_39 (mm_dec dk_X12_towards 85 rfl) rfl rfl (mm_ref i66_ rfl) ?_
                        refine mm_iload_n C (mm_dec dk_X12_towards 86 rfl) rfl ?_
                        refine mm_iconst C (mm_dec dk_X12_towards 87 rfl) ⟨by decide, by decide⟩ ?_
                        refine mm_zast C (mm_dec dk_X12_towards 88 rfl) rfl (by omega) (by omega) (by omega) ?_
                        have i4 : mm_inv (mm_pa h66_ 76 x75_3 1) := mm_inv_pa i66_ (show 0 ≤ 1 ∧ 1 ≤ 1 from ⟨by omega, by omega⟩)
                        have f4 : mm_fr [(66, 18)] [72, 73, 75, 76] h (mm_pa h66_ 76 x75_3 1) := mm_fr_pa f66_ (by decide)
                        obtain ⟨h4, eh4⟩ : ∃ z, z = mm_pa h66_ 76 x75_3 1 := ⟨_, rfl⟩
                        rw [← eh4] at i4 f4 ⊢
                        rw [← eh4] at zp zn
                        have zk : h4.2.1 76 x75_3 = 1 := by rw [eh4]; exact mm_pa_same _ _ _ _
                        have zl : h4.2.1 72 x75_3 = h66_.2.1 72 x75_3 := by rw [eh4]; exact mm_pa_ne _ _ (fun w => absurd w.1 (by decide))
                        refine mm_aload_n C (mm_dec dk_X12_towards 89 rfl) rfl ?_
                        refine mm_iload_n C (mm_dec dk_X12_towards 90 rfl) rfl ?_
                        refine mm_iload_n C (mm_dec dk_X12_towards 91 rfl) rfl ?_
                        refine mm_cVv (rest := []) C1 ev_X12_265 (mm_dec dk_X12_towards 92 rfl) (c_X12_counts x.2.1 hl (d - 1) (by omega) h4 i4 x75_3 p1 ⟨by omega, by omega⟩ ⟨by omega, by omega⟩) rfl rfl (Nat.le_of_ble_eq_true rfl) ⟨by decide, by decide⟩ rfl (fun h158c hp158 => ?_) (fun _ _ q => q.elim)
                        obtain ⟨i158c, g158c⟩ := hp158
                        have f158c : mm_fr [(66, 18)] [72, 73, 75, 76] h h158c := mm_fr_tr f4 g158c (by decide +kernel)
                        have zq := And.intro (mm_dij_fr zp (mm_lnd_fr g158c (by decide)) (fun j => g158c.2 72 (by decide) j) (fun j => g158c.2 73 (by decide) j) (fun j => g158c.2 76 (by decide) j)) (And.intro ((g158c.2 76 (by decide) x75_3).trans zk) ((g158c.2 72 (by decide) x75_3).trans zl))
                        have zr : mm_dn h158c = mm_dn h4 := mm_dn_eq (fun j => g158c.2 76 (by decide) j)
                        refine mm_iconst C (mm_dec dk_X12_towards 93 rfl) ⟨by decide, by decide⟩ ?_
                        have J164 : ∀ (n : Nat) (x164_4 : Int) (bx164_4 : 0 ≤ x164_4 ∧ x164_4 ≤ 4) (h164_ : mH) (i164_ : mm_inv h164_) (f164_ : mm_fr [(66, 18)] [72, 73, 75, 76] h h164_) (w164_0 : ∃ L, mm_dij h164_ p1 L ∧ h164_.2.1 76 x75_3 = 1 ∧ h164_.2.1 72 x75_3 = L) (w164_1 : (mm_dn h66_ : Int) + 1 ≤ (mm_dn h164_ : Int)) (w164_2 : (mm_dn h164_ : Int) ≤ 400), (4 - x164_4 : Int) < n → mm_W x 0 0 164 [mR 66, mI p1, mI s140_0, mI x75_3, mI x164_4] [] h164_ := by
                          intro n
                          induction n with
                          | zero =>
                            intro x164_4 bx164_4 h164_ i164_ f164_ w164_0 w164_1 w164_2 hm
                            exfalso; omega
                          | succ n ih164 =>
                            intro x164_4 bx164_4 h164_ i164_ f164_ w164_0 w164_1 w164_2 hm164
                            refine mm_iload C (mm_dec dk_X12_towards 95 rfl) rfl ?_
                            refine mm_iconst C (mm_dec dk_X12_towards 96 rfl) ⟨by decide, by decide⟩ ?_
                            refine mm_icmp_ge (tgt := 183) C (mm_dec dk_X12_towards 97 rfl) (by decide) (fun c167 => ?_) (fun c167 => ?_)
                            · skip
                              refine mm_goto (tgt := 66) C (mm_dec dk_X12_towards 104 rfl) (by decide) ?_
                              refine mm_fgt 3 ?_
                              refine mm_fgt 4 ?_
                              exact ih66 s140_0 ⟨by omega, by omega⟩ h164_ i164_ f164_ (by first | (obtain ⟨L, q, _, _⟩ := w164_0; exact ⟨L, q⟩) | exact w66_0 | (rw [eh3, eh2, eh1]; exact ⟨0, mm_dij_init w2_0 (by omega) ⟨by omega, by omega⟩⟩)) (by exact mm_dn_le _) (by omega)
                            · skip
                              refine mm_aload_n C (mm_dec dk_X12_towards 98 rfl) rfl ?_
                              refine mm_iload_n C (mm_dec dk_X12_towards 99 rfl) rfl ?_
                              refine mm_iload C (mm_dec dk_X12_towards 100 rfl) rfl ?_
                              obtain ⟨zL, zd, z1, z2⟩ := w164_0
                              have zm := (zd.2.2.1 x75_3 (by omega) (by omega) z1).2
                              refine mm_cVv (rest := []) C1 ev_X12_268 (mm_dec dk_X12_towards 101 rfl) (c_X12_comes x.2.1 hl (d - 1) (by omega) h164_ i164_ x75_3 x164_4 ⟨by omega, by omega⟩ (by omega)) rfl rfl (Nat.le_of_ble_eq_true rfl) ⟨by decide, by decide⟩ rfl (fun h174c hp174 => ?_) (fun _ _ q => q.elim)
                              obtain ⟨i174c, g174c, y174_0⟩ := hp174
                              have f174c : mm_fr [(66, 18)] [72, 73, 75, 76] h h174c := mm_fr_tr f164_ g174c (by decide +kernel)
                              have zy := mm_dij_come i164_ zd ⟨by omega, by omega⟩ z1 z2 g174c y174_0
                              have zw := zy.2.2.2
                              refine mm_iincL (ls2 := [mR 66, mI p1, mI s140_0, mI x75_3, mI (x164_4 + 1)]) C (mm_dec dk_X12_towards 102 rfl) rfl (by decide) ⟨by omega, by omega⟩ rfl ?_
                              refine mm_goto (tgt := 164) C (mm_dec dk_X12_towards 103 rfl) (by decide) ?_
                              exact ih164 (x164_4 + 1) ⟨by omega, by omega⟩ h174c i174c f174c (by first | exact ⟨_, zy.1, zy.2.1, zy.2.2.1⟩ | exact ⟨_, zq⟩) (by omega) (by exact mm_dn_le _) (by omega)
                        refine mm_istoreL (ls2 := [mR 66, mI p1, mI s140_0, mI x75_3, mI 0]) C (mm_dec dk_X12_towards 94 rfl) (by decide) rfl ?_
                        exact J164 (((4 - 0) : Int) + 1).toNat 0 ⟨by omega, by omega⟩ h158c i158c f158c (by first | exact ⟨_, zy.1, zy.2.1, zy.2.2.1⟩ | exact ⟨_, zq⟩) (by omega) (by exact mm_dn_le _) (by omega)
                      · skip
                        refine mm_goto (tgt := 66) C (mm_dec dk_X12_towards 83 rfl) (by decide) ?_
                        refine mm_fgt 3 ?_
                        exact ih66 s140_0 ⟨by omega, by omega⟩ h66_ i66_ f66_ (by first | (obtain ⟨L, q, _, _⟩ := w164_0; exact ⟨L, q⟩) | exact w66_0 | (rw [eh3, eh2, eh1]; exact ⟨0, mm_dij_init w2_0 (by omega) ⟨by omega, by omega⟩⟩)) (by exact mm_dn_le _) (by omega)
                    refine mm_icmp_eq (tgt := 139) C (mm_dec dk_X12_towards 76 rfl) (by decide) (fun c132 => ?_) (fun c132 => ?_)
                    · skip
                      refine mm_iconst C (mm_dec dk_X12_towards 79 rfl) ⟨by decide, by decide⟩ ?_
                      refine mm_fgt 4 ?_
                      exact J140 0 ⟨by omega, by omega⟩ (Or.inl ⟨by omega, rfl⟩)
                    · skip
                      refine mm_iconst C (mm_dec dk_X12_towards 77 rfl) ⟨by decide, by decide⟩ ?_
                      refine mm_goto (tgt := 140) C (mm_dec dk_X12_towards 78 rfl) (by decide) ?_
                      refine mm_fgt 4 ?_
                      exact J140 1 ⟨by omega, by omega⟩ (Or.inr (⟨by omega, rfl⟩))
                  · skip
                    refine mm_aload_n C (mm_dec dk_X12_towards 51 rfl) rfl ?_
                    refine mm_getr (t := 76) C fl_X12_39 (mm_dec dk_X12_towards 52 rfl) rfl rfl (mm_ref i66_ rfl) ?_
                    refine mm_iload C (mm_dec dk_X12_towards 53 rfl) rfl ?_
                    refine mm_zald C (mm_dec dk_X12_towards 54 rfl) rfl (by omega) (by omega) ?_
                    have g3 : 0 ≤ (h66_.2.1 76 x75_4) ∧ (h66_.2.1 76 x75_4) ≤ 1 := i66_.2.1 76 x75_4
                    have J124 : ∀ (x124_3 : Int) (bx124_3 : -1 ≤ x124_3 ∧ x124_3 ≤ 399) (w124_0 : mm_bst h66_ x124_3 (x75_4 + 1)), mm_W x 0 0 124 [mR 66, mI p1, mU, mI x124_3, mI x75_4] [] h66_ := by
                      intro x124_3 bx124_3 w124_0
                      refine mm_iincL (ls2 := [mR 66, mI p1, mU, mI x124_3, mI (x75_4 + 1)]) C (mm_dec dk_X12_towards 72 rfl) rfl (by decide) ⟨by omega, by omega⟩ rfl ?_
                      refine mm_goto (tgt := 75) C (mm_dec dk_X12_towards 73 rfl) (by decide) ?_
                      exact ih75 x124_3 ⟨by omega, by omega⟩ (x75_4 + 1) ⟨by omega, by omega⟩ (by first | exact mm_bst_nil | exact w124_0) (by omega)
                    refine mm_if_ne (tgt := 124) C (mm_dec dk_X12_towards 55 rfl) (by decide) (fun c90 => ?_) (fun c90 => ?_)
                    · skip
                      exact J124 x75_3 ⟨by omega, by omega⟩ (by first | exact mm_bst_new w75_0 (by omega) (by omega) (by omega) (by omega) | exact mm_bst_old w75_0 (by omega))
                    · skip
                      refine mm_aload_n C (mm_dec dk_X12_towards 56 rfl) rfl ?_
                      refine mm_getr (t := 72) C fl_X12_26 (mm_dec dk_X12_towards 57 rfl) rfl rfl (mm_ref i66_ rfl) ?_
                      refine mm_iload C (mm_dec dk_X12_towards 58 rfl) rfl ?_
                      refine mm_iald C (mm_dec dk_X12_towards 59 rfl) rfl (by omega) (by omega) ?_
                      have g4 : 0 ≤ (h66_.2.1 72 x75_4) ∧ (h66_.2.1 72 x75_4) ≤ 1000000000 := i66_.2.1 72 x75_4
                      refine mm_ldcw (z := 1000000000) C (mm_dec dk_X12_towards 60 rfl) kc_X12_258 (by decide) ?_
                      refine mm_icmp_ge (tgt := 124) C (mm_dec dk_X12_towards 61 rfl) (by decide) (fun c103 => ?_) (fun c103 => ?_)
                      · skip
                        exact J124 x75_3 ⟨by omega, by omega⟩ (by first | exact mm_bst_new w75_0 (by omega) (by omega) (by omega) (by omega) | exact mm_bst_old w75_0 (by omega))
                      · skip
                        refine mm_iload_n C (mm_dec dk_X12_towards 62 rfl) rfl ?_
                        refine mm_iconst C (mm_dec dk_X12_towards 63 rfl) ⟨by decide, by decide⟩ ?_
                        have J121 : ∀ (w121_0 : x75_3 = -1 ∨ h66_.2.1 72 x75_4 ≤ h66_.2.1 72 x75_3), mm_W x 0 0 121 [mR 66, mI p1, mU, mU, mI x75_4] [] h66_ := by
                          intro w121_0
                          refine mm_iload C (mm_dec dk_X12_towards 70 rfl) rfl ?_
                          refine mm_istore_nL (ls2 := [mR 66, mI p1, mU, mI x75_4, mI x75_4]) C (mm_dec dk_X12_towards 71 rfl) (by decide) rfl ?_
                          exact J124 x75_4 ⟨by omega, by omega⟩ (by first | exact mm_bst_new w75_0 (by omega) (by omega) (by omega) (by omega) | exact mm_bst_old w75_0 (by omega))
                        refine mm_icmp_eq (tgt := 121) C (mm_dec dk_X12_towards 64 rfl) (by decide) (fun c108 => ?_) (fun c108 => ?_)
                        · skip
                          refine mm_fgt 3 ?_
                          exact J121 (by omega)
                        · skip
                          refine mm_aload_n C (mm_dec dk_X12_towards 65 rfl) rfl ?_
                          refine mm_iload C (mm_dec dk_X12_towards 66 rfl) rfl ?_
                          refine mm_iload_n C (mm_dec dk_X12_towards 67 rfl) rfl ?_
                          refine mm_cVi (rest := []) C1 ev_X12_262 (mm_dec dk_X12_towards 68 rfl) (c_X12_isLess x.2.1 hl (d - 1) (by omega) h66_ i66_ x75_4 x75_3 ⟨by omega, by omega⟩ ⟨by omega, by omega⟩) rfl rfl (Nat.le_of_ble_eq_true rfl) ⟨by decide, by decide⟩ rfl (fun r115 h115c hp115 => ?_) (fun _ _ q => q.elim)
                          obtain ⟨z115, y115⟩ := hp115
                          rw [z115]
                          have g6 : 0 ≤ (h66_.2.1 72 x75_3) ∧ (h66_.2.1 72 x75_3) ≤ 1000000000 := i66_.2.1 72 x75_3
                          have g7 : 0 ≤ (h66_.2.1 73 x75_3) ∧ (h66_.2.1 73 x75_3) ≤ 400 := i66_.2.1 73 x75_3
                          have g8 : 0 ≤ (h66_.2.1 73 x75_4) ∧ (h66_.2.1 73 x75_4) ≤ 400 := i66_.2.1 73 x75_4
                          refine mm_if_eq (tgt := 124) C (mm_dec dk_X12_towards 69 rfl) (by decide) (fun c118 => ?_) (fun c118 => ?_)
                          · skip
                            exact J124 x75_3 ⟨by omega, by omega⟩ (by first | exact mm_bst_new w75_0 (by omega) (by omega) (by omega) (by omega) | exact mm_bst_old w75_0 (by omega))
                          · skip
                            refine mm_fgt 3 ?_
                            exact J121 (by omega)
              refine mm_istoreL (ls2 := [mR 66, mI p1, mI x66_2, mI (-1), mI 0]) C (mm_dec dk_X12_towards 47 rfl) (by decide) rfl ?_
              refine mm_fgt 2 ?_
              exact J75 (((400 - 0) : Int) + 1).toNat (-1) ⟨by omega, by omega⟩ 0 ⟨by omega, by omega⟩ (by first | exact mm_bst_nil | exact w124_0) (by omega)
        refine mm_istore_nL (ls2 := [mR 66, mI p1, mI 1, mU, mU]) C (mm_dec dk_X12_towards 41 rfl) (by decide) rfl ?_
        exact J66 (((1 + 2 * (400 - (mm_dn h3 : Int))) : Int) + 1).toNat 1 ⟨by omega, by omega⟩ h3 i3 f3 (by first | (obtain ⟨L, q, _, _⟩ := w164_0; exact ⟨L, q⟩) | exact w66_0 | (rw [eh3, eh2, eh1]; exact ⟨0, mm_dij_init w2_0 (by omega) ⟨by omega, by omega⟩⟩)) (by exact mm_dn_le _) (by omega)
      · skip
        refine mm_aload_n C (mm_dec dk_X12_towards 5 rfl) rfl ?_
        refine mm_getr (t := 72) C fl_X12_26 (mm_dec dk_X12_towards 6 rfl) rfl rfl (mm_ref i2_ rfl) ?_
        refine mm_iload_n C (mm_dec dk_X12_towards 7 rfl) rfl ?_
        refine mm_ldcw (z := 1000000000) C (mm_dec dk_X12_towards 8 rfl) kc_X12_258 (by decide) ?_
        refine mm_iast C (mm_dec dk_X12_towards 9 rfl) rfl (by omega) (by omega) ?_
        have i7 : mm_inv (mm_pa h2_ 72 x2_2 1000000000) := mm_inv_pa i2_ (show 0 ≤ 1000000000 ∧ 1000000000 ≤ 1000000000 from ⟨by omega, by omega⟩)
        have f7 : mm_fr [(66, 18)] [72, 73, 75, 76] h (mm_pa h2_ 72 x2_2 1000000000) := mm_fr_pa f2_ (by decide)
        obtain ⟨h7, eh7⟩ : ∃ z, z = mm_pa h2_ 72 x2_2 1000000000 := ⟨_, rfl⟩
        rw [← eh7] at i7 f7 ⊢
        refine mm_aload_n C (mm_dec dk_X12_towards 10 rfl) rfl ?_
        refine mm_getr (t := 73) C fl_X12_29 (mm_dec dk_X12_towards 11 rfl) rfl rfl (mm_ref i7 rfl) ?_
        refine mm_iload_n C (mm_dec dk_X12_towards 12 rfl) rfl ?_
        refine mm_iconst C (mm_dec dk_X12_towards 13 rfl) ⟨by decide, by decide⟩ ?_
        refine mm_iast C (mm_dec dk_X12_towards 14 rfl) rfl (by omega) (by omega) ?_
        have i8 : mm_inv (mm_pa h7 73 x2_2 0) := mm_inv_pa i7 (show 0 ≤ 0 ∧ 0 ≤ 400 from ⟨by omega, by omega⟩)
        have f8 : mm_fr [(66, 18)] [72, 73, 75, 76] h (mm_pa h7 73 x2_2 0) := mm_fr_pa f7 (by decide)
        obtain ⟨h8, eh8⟩ : ∃ z, z = mm_pa h7 73 x2_2 0 := ⟨_, rfl⟩
        rw [← eh8] at i8 f8 ⊢
        refine mm_aload_n C (mm_dec dk_X12_towards 15 rfl) rfl ?_
        refine mm_getr (t := 75) C fl_X12_35 (mm_dec dk_X12_towards 16 rfl) rfl rfl (mm_ref i8 rfl) ?_
        refine mm_iload_n C (mm_dec dk_X12_towards 17 rfl) rfl ?_
        refine mm_lconst (z := 0) C (mm_dec dk_X12_towards 18 rfl) rfl ?_
        refine mm_last C (mm_dec dk_X12_towards 19 rfl) rfl (by omega) (by omega) ?_
        have i9 : mm_inv (mm_pa h8 75 x2_2 0) := mm_inv_pa i8 (show -9223372036854775808 ≤ 0 ∧ 0 ≤ 9223372036854775807 from ⟨by omega, by omega⟩)
        have f9 : mm_fr [(66, 18)] [72, 73, 75, 76] h (mm_pa h8 75 x2_2 0) := mm_fr_pa f8 (by decide)
        obtain ⟨h9, eh9⟩ : ∃ z, z = mm_pa h8 75 x2_2 0 := ⟨_, rfl⟩
        rw [← eh9] at i9 f9 ⊢
        refine mm_aload_n C (mm_dec dk_X12_towards 20 rfl) rfl ?_
        refine mm_getr (t := 76) C fl_X12_39 (mm_dec dk_X12_towards 21 rfl) rfl rfl (mm_ref i9 rfl) ?_
        refine mm_iload_n C (mm_dec dk_X12_towards 22 rfl) rfl ?_
        refine mm_iconst C (mm_dec dk_X12_towards 23 rfl) ⟨by decide, by decide⟩ ?_
        refine mm_zast C (mm_dec dk_X12_towards 24 rfl) rfl (by omega) (by omega) (by omega) ?_
        have i10 : mm_inv (mm_pa h9 76 x2_2 0) := mm_inv_pa i9 (show 0 ≤ 0 ∧ 0 ≤ 1 from ⟨by omega, by omega⟩)
        have f10 : mm_fr [(66, 18)] [72, 73, 75, 76] h (mm_pa h9 76 x2_2 0) := mm_fr_pa f9 (by decide)
        obtain ⟨h10, eh10⟩ : ∃ z, z = mm_pa h9 76 x2_2 0 := ⟨_, rfl⟩
        rw [← eh10] at i10 f10 ⊢
        refine mm_iincL (ls2 := [mR 66, mI p1, mI (x2_2 + 1), mU, mU]) C (mm_dec dk_X12_towards 25 rfl) rfl (by decide) ⟨by omega, by omega⟩ rfl ?_
        refine mm_goto (tgt := 2) C (mm_dec dk_X12_towards 26 rfl) (by decide) ?_
        exact ih2 (x2_2 + 1) ⟨by omega, by omega⟩ h10 i10 f10 (by first | exact mm_ini0_nil | (rw [eh10, eh9, eh8, eh7]; exact mm_ini0_put w2_0)) (by omega)
  refine mm_istore_nL (ls2 := [mR 66, mI p1, mI 0, mU, mU]) C (mm_dec dk_X12_towards 1 rfl) (by decide) rfl ?_
  exact J2 (((400 - 0) : Int) + 1).toNat 0 ⟨by omega, by omega⟩ h i0 f0 (by first | exact mm_ini0_nil | (rw [eh10, eh9, eh8, eh7]; exact mm_ini0_put w2_0)) (by omega)
