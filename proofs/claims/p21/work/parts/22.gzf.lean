theorem mm_jY8_1 {h a : mH} {p k : Int} (S : mm_so8 (mm_k2 h 1 p k) (h.2.1 95) (h.1 66 40).toNat (a.1 66 48) (a.2.1 98)) (R : mm_rw a 91 (mm_rY h p) (mm_nY h p)) (en : a.1 66 39 = mm_nY h p) (fr : h.2.1 83 (h.2.1 85 p) ≠ 0) (e94 : ∀ j, a.2.1 94 j = h.2.1 94 j) (F : ∀ j, 0 ≤ j → j < a.1 66 39 → mm_ff8 (mm_Vh a) (a.1 66 48) (a.2.1 91 j) 0 (a.2.1 100 j)) : mm_jY8 h p k (a.2.1 100) (a.2.1 98) (a.1 66 48) := by
  refine ⟨S, Or.inl ⟨fr, fun j j0 j1 => ?_⟩⟩
  have z := F j j0 (by rw [en]; exact j1)
  rw [R j j0 j1] at z
  exact mm_ff8_cg z (by omega) (fun i _ _ => (e94 _).symm)
theorem mm_jY8_2 {h a b : mH} {p k : Int} (S : mm_so8 (mm_k2 h 1 p k) (h.2.1 95) (h.1 66 40).toNat (a.1 66 48) (a.2.1 98)) (R : mm_rw a 91 (mm_rY h p) (mm_nY h p)) (en : a.1 66 39 = mm_nY h p) (fr : h.2.1 83 (h.2.1 85 p) = 0) (e94 : ∀ j, a.2.1 94 j = h.2.1 94 j) (n0 : 0 ≤ a.1 66 39) (X : mm_xY8 (a.2.1 91) (a.1 66 39) (mm_Vh a) (a.1 66 48) (b.2.1 100)) (e98 : ∀ j, b.2.1 98 j = a.2.1 98 j) (em : b.1 66 48 = a.1 66 48) : mm_jY8 h p k (b.2.1 100) (b.2.1 98) (b.1 66 48) := by
  rw [em, show b.2.1 98 = a.2.1 98 from funext e98]
  rw [en] at X n0
  exact ⟨S, Or.inr ⟨fun z => z fr, mm_xY8_cg X n0 (fun j j0 j1 => (R j j0 j1).symm) (fun i _ _ => (e94 _).symm) (fun _ _ _ => rfl)⟩⟩
theorem mm_so8_h {P : Int → Prop} {A : Int → Int} {N : Nat} {a b : mH} (S : mm_so8 P A N (a.1 66 48) (a.2.1 98)) (e98 : ∀ j, b.2.1 98 j = a.2.1 98 j) (em : b.1 66 48 = a.1 66 48) : mm_so8 P A N (b.1 66 48) (b.2.1 98) := by
  rw [em, show b.2.1 98 = a.2.1 98 from funext e98]; exact S
theorem mm_jY8_h {h a b : mH} {p k : Int} (S : mm_jY8 h p k (a.2.1 100) (a.2.1 98) (a.1 66 48)) (e100 : ∀ j, b.2.1 100 j = a.2.1 100 j) (e98 : ∀ j, b.2.1 98 j = a.2.1 98 j) (em : b.1 66 48 = a.1 66 48) : mm_jY8 h p k (b.2.1 100) (b.2.1 98) (b.1 66 48) := by
  rw [em, show b.2.1 98 = a.2.1 98 from funext e98, show b.2.1 100 = a.2.1 100 from funext e100]; exact S
theorem mm_kg8_s {a b : mH} {n r : Int} (K : ∀ j, 0 ≤ j → j < n → mm_ff8 (mm_Vh a) (a.1 66 48) (a.2.1 91 j) 0 (a.2.1 100 j)) (X : mm_ff8 (mm_Vh a) (a.1 66 48) (a.2.1 91 n) 0 r) (e : b = mm_pa a 100 n r) : ∀ j, 0 ≤ j → j < n + 1 → mm_ff8 (mm_Vh b) (b.1 66 48) (b.2.1 91 j) 0 (b.2.1 100 j) := fun j j0 j1 => by
  have z94 : ∀ i, b.2.1 94 i = a.2.1 94 i := fun i => mm_sm_pa 94 e (by decide) i
  have z98 : ∀ i, b.2.1 98 i = a.2.1 98 i := fun i => mm_sm_pa 98 e (by decide) i
  have zV : mm_Vh b = mm_Vh a := funext fun i => by unfold mm_Vh; rw [z94, z98]
  have z48 : b.1 66 48 = a.1 66 48 := by rw [e]; rfl
  rw [zV, z48, mm_sm_pa 91 e (by decide) j]
  by_cases q : j = n
  · rw [mm_pa_at e q, q]; exact X
  · rw [mm_pa_off e q]; exact K j j0 (by omega)
theorem mm_jY8_fr {h a : mH} {p k m : Int} {K Q : Int → Int} (X : mm_jY8 a p k K Q m) (e : mm_k2 a = mm_k2 h) (e80 : ∀ j, a.2.1 80 j = h.2.1 80 j) (e82 : ∀ j, a.2.1 82 j = h.2.1 82 j) (e83 : ∀ j, a.2.1 83 j = h.2.1 83 j) (e84 : ∀ j, a.2.1 84 j = h.2.1 84 j) (e85 : ∀ j, a.2.1 85 j = h.2.1 85 j) (e87 : ∀ j, a.2.1 87 j = h.2.1 87 j) (e94 : ∀ j, a.2.1 94 j = h.2.1 94 j) (e95 : ∀ j, a.2.1 95 j = h.2.1 95 j) (n : a.1 66 40 = h.1 66 40) : mm_jY8 h p k K Q m := by
  unfold mm_jY8 mm_rY mm_nY at X ⊢
  rw [e, show a.2.1 80 = h.2.1 80 from funext e80, show a.2.1 82 = h.2.1 82 from funext e82, show a.2.1 83 = h.2.1 83 from funext e83, show a.2.1 84 = h.2.1 84 from funext e84, show a.2.1 85 = h.2.1 85 from funext e85, show a.2.1 87 = h.2.1 87 from funext e87, show a.2.1 94 = h.2.1 94 from funext e94, show a.2.1 95 = h.2.1 95 from funext e95, n] at X
  exact X

set_option maxRecDepth 100000 in
set_option maxHeartbeats 4000000 in
theorem c_X12_finds_q (l : Launch) (hl : l.stackTraces = false) (d : Nat) (hd : 2 ≤ d) (h : mH) (i0 : mm_inv h) (p1 : Int) (p2 : Int) (bp1 : 0 ≤ p1 ∧ p1 ≤ 39) : mm_Met l d yX12_finds cX12_finds 7 none [mR 66, mI p1, mI p2] h (mm_pv fun h2 => mm_inv h2 ∧ mm_fr [(66, 39), (66, 48), (66, 53)] [91, 98] h h2 ∧ mm_so8 (mm_k2 h 1 p1 p2) (h.2.1 95) (h.1 66 40).toNat (h2.1 66 48) (h2.2.1 98) ∧ mm_rw h2 91 (mm_rY h p1) (mm_nY h p1) ∧ h2.1 66 39 = mm_nY h p1 ∧ mm_wr8 (mm_k2 h 1 p1 p2) (mm_rY h p1) (mm_nY h p1).toNat (h.2.1 94) (h.1 66 40).toNat (h2.1 66 53)) mm_nx 0 0 := by
  refine mm_ofW (ls := [mR 66, mI p1, mI p2, mU, mU, mU, mU]) hl (by decide) rfl (Nat.le_of_ble_eq_true rfl) ?_
  intro x hxl C T hnm htb
  subst hxl
  have C1 := mm_OK_le (d' := d - 1 + 1) (by omega) C
  refine mm_rng (fun hr _ => ?_)
  have ap1 : -2147483648 ≤ p1 ∧ p1 < 2147483648 := mm_ok_at hr (i := 1) rfl
  have ap2 : -2147483648 ≤ p2 ∧ p2 < 2147483648 := mm_ok_at hr (i := 2) rfl
  have f0 : mm_fr [(66, 39), (66, 48), (66, 53)] [91, 98] h h := mm_fr_rf
  have g1 : 0 ≤ h.1 66 48 ∧ h.1 66 48 ≤ 500 := i0.1 66 48
  have g2 : 0 ≤ h.1 66 39 ∧ h.1 66 39 ≤ 12 := i0.1 66 39
  have g3 : 0 ≤ h.1 66 40 ∧ h.1 66 40 ≤ 500 := i0.1 66 40
  have g4 : -2147483648 ≤ h.1 66 53 ∧ h.1 66 53 ≤ 2147483647 := i0.1 66 53
  refine mm_aload_n C (mm_dec dk_X12_finds 0 rfl) rfl ?_
  refine mm_iload_n C (mm_dec dk_X12_finds 1 rfl) rfl ?_
  refine mm_cVv (rest := []) C1 ev_X12_302 (mm_dec dk_X12_finds 2 rfl) (c_X12_rows_q x.2.1 hl (d - 1) (by omega) h i0 p1 ⟨by omega, by omega⟩) rfl rfl (Nat.le_of_ble_eq_true rfl) ⟨by decide, by decide⟩ rfl (fun h2c hp2 => ?_) (fun _ _ q => q.elim)
  obtain ⟨i2c, g2c, y2_0, y2_1⟩ := hp2
  have f2c : mm_fr [(66, 39), (66, 48), (66, 53)] [91, 98] h h2c := mm_fr_tr f0 g2c (by decide +kernel)
  have q2c_6 : h2c.1 66 40 = h.1 66 40 := g2c.1 66 40 (by decide)
  have q2c_7 : h2c.1 66 48 = h.1 66 48 := g2c.1 66 48 (by decide)
  have q2c_8 : h2c.1 66 53 = h.1 66 53 := g2c.1 66 53 (by decide)
  have g9 : 0 ≤ (h2c.1 66 39) ∧ (h2c.1 66 39) ≤ 12 := i2c.1 66 39
  have zn : h2c.1 66 39 = mm_nY h p1 := y2_1
  have zr0 : mm_rw h2c 91 (mm_rY h p1) (mm_nY h p1) := (by rw [← zn]; exact y2_0)
  refine mm_aload_n C (mm_dec dk_X12_finds 3 rfl) rfl ?_
  refine mm_iconst C (mm_dec dk_X12_finds 4 rfl) ⟨by decide, by decide⟩ ?_
  refine mm_puti C fl_X12_329 (mm_dec dk_X12_finds 5 rfl) rfl rfl rfl (Or.inl ⟨rfl, rfl⟩) ?_
  have i2 : mm_inv (mm_pf h2c 66 48 0) := mm_inv_pf i2c (show 0 ≤ 0 ∧ 0 ≤ 500 from ⟨by omega, by omega⟩) (by decide)
  have f2 : mm_fr [(66, 39), (66, 48), (66, 53)] [91, 98] h (mm_pf h2c 66 48 0) := mm_fr_pf f2c (by decide)
  obtain ⟨h2, eh2⟩ : ∃ z, z = mm_pf h2c 66 48 0 := ⟨_, rfl⟩
  rw [← eh2] at i2 f2 ⊢
  have qh2 : h2.1 66 48 = 0 := by rw [eh2]; exact mm_pf_same _ _ _ _
  have qh2_10 : h2.1 66 39 = h2c.1 66 39 := by rw [eh2]; exact mm_pf_ne _ _ (by decide)
  have qh2_11 : h2.1 66 40 = h2c.1 66 40 := by rw [eh2]; exact mm_pf_ne _ _ (by decide)
  have qh2_12 : h2.1 66 53 = h2c.1 66 53 := by rw [eh2]; exact mm_pf_ne _ _ (by decide)
  refine mm_aload_n C (mm_dec dk_X12_finds 6 rfl) rfl ?_
  refine mm_iconst C (mm_dec dk_X12_finds 7 rfl) ⟨by decide, by decide⟩ ?_
  refine mm_puti C fl_X12_332 (mm_dec dk_X12_finds 8 rfl) rfl rfl rfl (Or.inl ⟨rfl, rfl⟩) ?_
  have i3 : mm_inv (mm_pf h2 66 53 0) := mm_inv_pf i2 (show -2147483648 ≤ 0 ∧ 0 ≤ 2147483647 from ⟨by omega, by omega⟩) (by decide)
  have f3 : mm_fr [(66, 39), (66, 48), (66, 53)] [91, 98] h (mm_pf h2 66 53 0) := mm_fr_pf f2 (by decide)
  obtain ⟨h3, eh3⟩ : ∃ z, z = mm_pf h2 66 53 0 := ⟨_, rfl⟩
  rw [← eh3] at i3 f3 ⊢
  have qh3 : h3.1 66 53 = 0 := by rw [eh3]; exact mm_pf_same _ _ _ _
  have qh3_13 : h3.1 66 39 = h2.1 66 39 := by rw [eh3]; exact mm_pf_ne _ _ (by decide)
  have qh3_14 : h3.1 66 40 = h2.1 66 40 := by rw [eh3]; exact mm_pf_ne _ _ (by decide)
  have qh3_15 : h3.1 66 48 = h2.1 66 48 := by rw [eh3]; exact mm_pf_ne _ _ (by decide)
  refine mm_iconst C (mm_dec dk_X12_finds 9 rfl) ⟨by decide, by decide⟩ ?_
  have J17 : ∀ (n : Nat) (x17_3 : Int) (bx17_3 : 0 ≤ x17_3 ∧ x17_3 ≤ 500) (h17_ : mH) (i17_ : mm_inv h17_) (f17_ : mm_fr [(66, 39), (66, 48), (66, 53)] [91, 98] h h17_) (w17_0 : h17_.1 66 48 ≤ x17_3) (w17_1 : x17_3 ≤ h.1 66 40) (w17_2 : mm_so8 (mm_k2 h 1 p1 p2) (h.2.1 95) (x17_3).toNat (h17_.1 66 48) (h17_.2.1 98)) (w17_3 : mm_rw h17_ 91 (mm_rY h p1) (mm_nY h p1)) (w17_4 : h17_.1 66 39 = mm_nY h p1) (w17_5 : mm_wr8 (mm_k2 h 1 p1 p2) (mm_rY h p1) (mm_nY h p1).toNat (h.2.1 94) (x17_3).toNat (h17_.1 66 53)), (500 - x17_3 : Int) < n → mm_W x 0 0 17 [mR 66, mI p1, mI p2, mI x17_3, mU, mU, mU] [] h17_ := by
    intro n
    induction n with
    | zero =>
      intro x17_3 bx17_3 h17_ i17_ f17_ w17_0 w17_1 w17_2 w17_3 w17_4 w17_5 hm
      have g16 : 0 ≤ h17_.1 66 48 ∧ h17_.1 66 48 ≤ 500 := i17_.1 66 48
      have g17 : 0 ≤ h17_.1 66 39 ∧ h17_.1 66 39 ≤ 12 := i17_.1 66 39
      have g18 : 0 ≤ h17_.1 66 40 ∧ h17_.1 66 40 ≤ 500 := i17_.1 66 40
      have g19 : -2147483648 ≤ h17_.1 66 53 ∧ h17_.1 66 53 ≤ 2147483647 := i17_.1 66 53
      exfalso; omega
    | succ n ih17 =>
      intro x17_3 bx17_3 h17_ i17_ f17_ w17_0 w17_1 w17_2 w17_3 w17_4 w17_5 hm17
      have g20 : 0 ≤ h17_.1 66 48 ∧ h17_.1 66 48 ≤ 500 := i17_.1 66 48
      have g21 : 0 ≤ h17_.1 66 39 ∧ h17_.1 66 39 ≤ 12 := i17_.1 66 39
      have g22 : 0 ≤ h17_.1 66 40 ∧ h17_.1 66 40 ≤ 500 := i17_.1 66 40
      have g23 : -2147483648 ≤ h17_.1 66 53 ∧ h17_.1 66 53 ≤ 2147483647 := i17_.1 66 53
      have g24 : h17_.1 66 40 = h.1 66 40 := f17_.1 66 40 (by decide)
      have zk : mm_k2 h17_ = mm_k2 h := mm_k2_fr f17_ (by decide)
      have ze95 : h17_.2.1 95 x17_3 = h.2.1 95 x17_3 := f17_.2 95 (by decide) _
      have ze40 : h17_.1 66 40 = h.1 66 40 := f17_.1 66 40 (by decide)
      have z40 : 0 ≤ h.1 66 40 ∧ h.1 66 40 ≤ 500 := i0.1 66 40
      have zrg := mm_wr8_rg _ _ w17_5
      refine mm_iload_n C (mm_dec dk_X12_finds 11 rfl) rfl ?_
      refine mm_aload_n C (mm_dec dk_X12_finds 12 rfl) rfl ?_
      refine mm_geti C fl_X12_228 (mm_dec dk_X12_finds 13 rfl) rfl rfl (Or.inl rfl) ?_
      refine mm_icmp_ge (tgt := 201) C (mm_dec dk_X12_finds 14 rfl) (by decide) (fun c22 => ?_) (fun c22 => ?_)
      · skip
        exact mm_vret C T (mm_dec dk_X12_finds 110 rfl) (by decide : 0 ≤ 0) (by decide : 0 ≤ 0) ⟨rfl, ⟨i17_, f17_, by (rw [show h.1 66 40 = x17_3 by omega]; exact w17_2), by exact w17_3, by exact w17_4, by (rw [show h.1 66 40 = x17_3 by omega]; exact w17_5)⟩⟩
      · skip
        refine mm_aload_n C (mm_dec dk_X12_finds 15 rfl) rfl ?_
        refine mm_getr (t := 92) C fl_X12_87 (mm_dec dk_X12_finds 16 rfl) rfl rfl (mm_ref i17_ rfl) ?_
        refine mm_iload_n C (mm_dec dk_X12_finds 17 rfl) rfl ?_
        refine mm_iald C (mm_dec dk_X12_finds 18 rfl) rfl (by omega) (by omega) ?_
        have g25 : -2147483648 ≤ (h17_.2.1 92 x17_3) ∧ (h17_.2.1 92 x17_3) ≤ 2147483647 := i17_.2.1 92 x17_3
        refine mm_iconst C (mm_dec dk_X12_finds 19 rfl) ⟨by decide, by decide⟩ ?_
        have J195 : ∀ (h195_ : mH) (i195_ : mm_inv h195_) (f195_ : mm_fr [(66, 39), (66, 48), (66, 53)] [91, 98] h h195_) (w195_0 : h195_.1 66 48 ≤ x17_3 + 1) (w195_1 : mm_so8 (mm_k2 h 1 p1 p2) (h.2.1 95) (x17_3 + 1).toNat (h195_.1 66 48) (h195_.2.1 98)) (w195_2 : mm_rw h195_ 91 (mm_rY h p1) (mm_nY h p1)) (w195_3 : h195_.1 66 39 = mm_nY h p1) (w195_4 : mm_wr8 (mm_k2 h 1 p1 p2) (mm_rY h p1) (mm_nY h p1).toNat (h.2.1 94) (x17_3 + 1).toNat (h195_.1 66 53)), mm_W x 0 0 195 [mR 66, mI p1, mI p2, mI x17_3, mU, mU, mU] [] h195_ := by
          intro h195_ i195_ f195_ w195_0 w195_1 w195_2 w195_3 w195_4
          have g26 : 0 ≤ h195_.1 66 48 ∧ h195_.1 66 48 ≤ 500 := i195_.1 66 48
          have g27 : 0 ≤ h195_.1 66 39 ∧ h195_.1 66 39 ≤ 12 := i195_.1 66 39
          have g28 : 0 ≤ h195_.1 66 40 ∧ h195_.1 66 40 ≤ 500 := i195_.1 66 40
          have g29 : -2147483648 ≤ h195_.1 66 53 ∧ h195_.1 66 53 ≤ 2147483647 := i195_.1 66 53
          have g30 : h195_.1 66 40 = h.1 66 40 := f195_.1 66 40 (by decide)
          refine mm_iincL (ls2 := [mR 66, mI p1, mI p2, mI (x17_3 + 1), mU, mU, mU]) C (mm_dec dk_X12_finds 108 rfl) rfl (by decide) ⟨by omega, by omega⟩ rfl ?_
          refine mm_goto (tgt := 17) C (mm_dec dk_X12_finds 109 rfl) (by decide) ?_
          exact ih17 (x17_3 + 1) ⟨by omega, by omega⟩ h195_ i195_ f195_ (by omega) (by omega) (by first | exact (show h3.1 66 48 = 0 by omega) | exact w195_1) (by first | exact w195_2 | exact mm_rw_sm zr0 (fun j => by rw [eh3, eh2]; rfl)) (by omega) (by first | exact (show h3.1 66 53 = 0 by omega) | exact w195_4) (by omega)
        refine mm_icmp_ne (tgt := 195) C (mm_dec dk_X12_finds 20 rfl) (by decide) (fun c32 => ?_) (fun c32 => ?_)
        · skip
          exact J195 h17_ i17_ f17_ (by omega) (by first | exact w137_1 | exact mm_so8_h w137_1 (fun j => by rw [eh6]; rfl) (by omega) | exact mm_so8_n w17_2 (by omega) (fun q => by rw [← zk] at q; have q1 := q.1; have q2 := q.2.1; have q3 := q.2.2.1; have q4 := q.2.2.2; omega)) (by first | exact w17_3 | exact w137_2 | exact mm_rw_sm w137_2 (fun j => by rw [eh6]; rfl)) (by omega) (by first | exact mm_wr8_n w17_5 (by omega) (Or.inl (fun q => by rw [← zk] at q; have q1 := q.1; have q2 := q.2.1; have q3 := q.2.2.1; have q4 := q.2.2.2; omega)) | exact (by rw [w137_4]; exact mm_wr8_n w17_5 (by omega) (Or.inr (by rw [show (mm_nY h p1).toNat = x137_6.toNat by omega, ← w137_5]; omega))) | exact (by rw [show h6.1 66 53 = h17_.1 66 53 + 1 by omega]; exact mm_wr8_y w17_5 (by omega) zP (by rw [show (mm_nY h p1).toNat = x137_6.toNat by omega, ← w137_5]; omega)))
        · skip
          refine mm_aload_n C (mm_dec dk_X12_finds 21 rfl) rfl ?_
          refine mm_getr (t := 93) C fl_X12_90 (mm_dec dk_X12_finds 22 rfl) rfl rfl (mm_ref i17_ rfl) ?_
          refine mm_iload_n C (mm_dec dk_X12_finds 23 rfl) rfl ?_
          refine mm_iald C (mm_dec dk_X12_finds 24 rfl) rfl (by omega) (by omega) ?_
          have g31 : -2147483648 ≤ (h17_.2.1 93 x17_3) ∧ (h17_.2.1 93 x17_3) ≤ 2147483647 := i17_.2.1 93 x17_3
          refine mm_iload_n C (mm_dec dk_X12_finds 25 rfl) rfl ?_
          refine mm_icmp_ne (tgt := 195) C (mm_dec dk_X12_finds 26 rfl) (by decide) (fun c42 => ?_) (fun c42 => ?_)
          · skip
            exact J195 h17_ i17_ f17_ (by omega) (by first | exact w137_1 | exact mm_so8_h w137_1 (fun j => by rw [eh6]; rfl) (by omega) | exact mm_so8_n w17_2 (by omega) (fun q => by rw [← zk] at q; have q1 := q.1; have q2 := q.2.1; have q3 := q.2.2.1; have q4 := q.2.2.2; omega)) (by first | exact w17_3 | exact w137_2 | exact mm_rw_sm w137_2 (fun j => by rw [eh6]; rfl)) (by omega) (by first | exact mm_wr8_n w17_5 (by omega) (Or.inl (fun q => by rw [← zk] at q; have q1 := q.1; have q2 := q.2.1; have q3 := q.2.2.1; have q4 := q.2.2.2; omega)) | exact (by rw [w137_4]; exact mm_wr8_n w17_5 (by omega) (Or.inr (by rw [show (mm_nY h p1).toNat = x137_6.toNat by omega, ← w137_5]; omega))) | exact (by rw [show h6.1 66 53 = h17_.1 66 53 + 1 by omega]; exact mm_wr8_y w17_5 (by omega) zP (by rw [show (mm_nY h p1).toNat = x137_6.toNat by omega, ← w137_5]; omega)))
          · skip
            refine mm_aload_n C (mm_dec dk_X12_finds 27 rfl) rfl ?_
            refine mm_iload_n C (mm_dec dk_X12_finds 28 rfl) rfl ?_
            refine mm_iload_n C (mm_dec dk_X12_finds 29 rfl) rfl ?_
            refine mm_cVi (rest := []) C1 ev_X12_319 (mm_dec dk_X12_finds 30 rfl) (c_X12_isKnown_q x.2.1 hl (d - 1) (by omega) h17_ i17_ x17_3 p2 ⟨by omega, by omega⟩) rfl rfl (Nat.le_of_ble_eq_true rfl) ⟨by decide, by decide⟩ rfl (fun r48 h48c hp48 => ?_) (fun _ _ q => q.elim)
            obtain ⟨b48, z48, y48_0⟩ := hp48
            rw [z48]
            refine mm_if_ne (tgt := 57) C (mm_dec dk_X12_finds 31 rfl) (by decide) (fun c51 => ?_) (fun c51 => ?_)
            · skip
              have zP : mm_k2 h 1 p1 p2 x17_3 := (by rw [← zk]; exact ⟨by omega, by omega, by omega, by omega⟩)
              refine mm_aload_n C (mm_dec dk_X12_finds 33 rfl) rfl ?_
              refine mm_geti C fl_X12_329 (mm_dec dk_X12_finds 34 rfl) rfl rfl (Or.inl rfl) ?_
              have J63 : ∀ (n : Nat) (x63_4 : Int) (bx63_4 : 0 ≤ x63_4 ∧ x63_4 ≤ 500) (h63_ : mH) (i63_ : mm_inv h63_) (f63_ : mm_fr [(66, 39), (66, 48), (66, 53)] [91, 98] h h63_) (w63_0 : h63_.1 66 48 ≤ x17_3) (w63_1 : x63_4 ≤ h63_.1 66 48) (w63_2 : mm_ir8 h17_ h63_ (h17_.1 66 48) x63_4 (h.2.1 95 x17_3)) (w63_3 : h63_.1 66 48 = h17_.1 66 48) (w63_4 : ∀ j, h63_.2.1 91 j = h17_.2.1 91 j) (w63_5 : h63_.1 66 39 = h17_.1 66 39) (w63_6 : h63_.1 66 53 = h17_.1 66 53), (x63_4 - (0) : Int) < n → mm_W x 0 0 63 [mR 66, mI p1, mI p2, mI x17_3, mI x63_4, mU, mU] [] h63_ := by
                intro n
                induction n with
                | zero =>
                  intro x63_4 bx63_4 h63_ i63_ f63_ w63_0 w63_1 w63_2 w63_3 w63_4 w63_5 w63_6 hm
                  have g33 : 0 ≤ h63_.1 66 48 ∧ h63_.1 66 48 ≤ 500 := i63_.1 66 48
                  have g34 : 0 ≤ h63_.1 66 39 ∧ h63_.1 66 39 ≤ 12 := i63_.1 66 39
                  have g35 : 0 ≤ h63_.1 66 40 ∧ h63_.1 66 40 ≤ 500 := i63_.1 66 40
                  have g36 : -2147483648 ≤ h63_.1 66 53 ∧ h63_.1 66 53 ≤ 2147483647 := i63_.1 66 53
                  exfalso; omega
                | succ n ih63 =>
                  intro x63_4 bx63_4 h63_ i63_ f63_ w63_0 w63_1 w63_2 w63_3 w63_4 w63_5 w63_6 hm63
                  have g37 : 0 ≤ h63_.1 66 48 ∧ h63_.1 66 48 ≤ 500 := i63_.1 66 48
                  have g38 : 0 ≤ h63_.1 66 39 ∧ h63_.1 66 39 ≤ 12 := i63_.1 66 39
                  have g39 : 0 ≤ h63_.1 66 40 ∧ h63_.1 66 40 ≤ 500 := i63_.1 66 40
                  have g40 : -2147483648 ≤ h63_.1 66 53 ∧ h63_.1 66 53 ≤ 2147483647 := i63_.1 66 53
                  have g41 : h63_.1 66 40 = h.1 66 40 := f63_.1 66 40 (by decide)
                  have zh95 : h63_.2.1 95 x17_3 = h.2.1 95 x17_3 := f63_.2 95 (by decide) _
                  have zh95p : ∀ j, h63_.2.1 95 j = h17_.2.1 95 j := fun j => (f63_.2 95 (by decide) j).trans (f17_.2 95 (by decide) j).symm
                  refine mm_iload C (mm_dec dk_X12_finds 36 rfl) rfl ?_
                  have J113 : ∀ (w113_0 : h63_.1 66 48 ≤ x17_3) (w113_1 : mm_ir8 h17_ h63_ (h17_.1 66 48) x63_4 (h.2.1 95 x17_3)) (w113_2 : h63_.1 66 48 = h17_.1 66 48) (w113_3 : ∀ j, h63_.2.1 91 j = h17_.2.1 91 j) (w113_4 : h63_.1 66 39 = h17_.1 66 39) (w113_5 : (x63_4 ≤ 0 ∨ h17_.2.1 95 (h17_.2.1 98 (x63_4 - 1)) ≤ h.2.1 95 x17_3)) (w113_6 : h63_.1 66 53 = h17_.1 66 53), mm_W x 0 0 113 [mR 66, mI p1, mI p2, mI x17_3, mI x63_4, mU, mU] [] h63_ := by
                    intro w113_0 w113_1 w113_2 w113_3 w113_4 w113_5 w113_6
                    have g42 : 0 ≤ h63_.1 66 48 ∧ h63_.1 66 48 ≤ 500 := i63_.1 66 48
                    have g43 : 0 ≤ h63_.1 66 39 ∧ h63_.1 66 39 ≤ 12 := i63_.1 66 39
                    have g44 : 0 ≤ h63_.1 66 40 ∧ h63_.1 66 40 ≤ 500 := i63_.1 66 40
                    have g45 : -2147483648 ≤ h63_.1 66 53 ∧ h63_.1 66 53 ≤ 2147483647 := i63_.1 66 53
                    refine mm_aload_n C (mm_dec dk_X12_finds 64 rfl) rfl ?_
                    refine mm_getr (t := 98) C fl_X12_105 (mm_dec dk_X12_finds 65 rfl) rfl rfl (mm_ref i63_ rfl) ?_
                    refine mm_iload C (mm_dec dk_X12_finds 66 rfl) rfl ?_
                    refine mm_iload_n C (mm_dec dk_X12_finds 67 rfl) rfl ?_
                    refine mm_iast C (mm_dec dk_X12_finds 68 rfl) rfl (by omega) (by omega) ?_
                    have i4 : mm_inv (mm_pa h63_ 98 x63_4 x17_3) := mm_inv_pa i63_ (show 0 ≤ x17_3 ∧ x17_3 ≤ 499 from ⟨by omega, by omega⟩)
                    have f4 : mm_fr [(66, 39), (66, 48), (66, 53)] [91, 98] h (mm_pa h63_ 98 x63_4 x17_3) := mm_fr_pa f63_ (by decide)
                    obtain ⟨h4, eh4⟩ : ∃ z, z = mm_pa h63_ 98 x63_4 x17_3 := ⟨_, rfl⟩
                    rw [← eh4] at i4 f4 ⊢
                    have qh4_46 : h4.1 66 39 = h63_.1 66 39 := by rw [eh4]; rfl
                    have qh4_47 : h4.1 66 40 = h63_.1 66 40 := by rw [eh4]; rfl
                    have qh4_48 : h4.1 66 48 = h63_.1 66 48 := by rw [eh4]; rfl
                    have qh4_49 : h4.1 66 53 = h63_.1 66 53 := by rw [eh4]; rfl
                    refine mm_aload_n C (mm_dec dk_X12_finds 69 rfl) rfl ?_
                    refine mm_dup C (mm_dec dk_X12_finds 70 rfl) (show (2 : Nat) ≠ 1 by decide) ?_
                    refine mm_geti C fl_X12_329 (mm_dec dk_X12_finds 71 rfl) rfl rfl (Or.inl rfl) ?_
                    refine mm_iconst C (mm_dec dk_X12_finds 72 rfl) ⟨by decide, by decide⟩ ?_
                    refine mm_iadd C (mm_dec dk_X12_finds 73 rfl) ⟨by omega, by omega⟩ ?_
                    refine mm_puti C fl_X12_329 (mm_dec dk_X12_finds 74 rfl) rfl rfl rfl (Or.inl ⟨rfl, rfl⟩) ?_
                    have i5 : mm_inv (mm_pf h4 66 48 ((h4.1 66 48) + 1)) := mm_inv_pf i4 (show 0 ≤ ((h4.1 66 48) + 1) ∧ ((h4.1 66 48) + 1) ≤ 500 from ⟨by omega, by omega⟩) (by decide)
                    have f5 : mm_fr [(66, 39), (66, 48), (66, 53)] [91, 98] h (mm_pf h4 66 48 ((h4.1 66 48) + 1)) := mm_fr_pf f4 (by decide)
                    obtain ⟨h5, eh5⟩ : ∃ z, z = mm_pf h4 66 48 ((h4.1 66 48) + 1) := ⟨_, rfl⟩
                    rw [← eh5] at i5 f5 ⊢
                    have qh5 : h5.1 66 48 = ((h4.1 66 48) + 1) := by rw [eh5]; exact mm_pf_same _ _ _ _
                    have qh5_50 : h5.1 66 39 = h4.1 66 39 := by rw [eh5]; exact mm_pf_ne _ _ (by decide)
                    have qh5_51 : h5.1 66 40 = h4.1 66 40 := by rw [eh5]; exact mm_pf_ne _ _ (by decide)
                    have qh5_52 : h5.1 66 53 = h4.1 66 53 := by rw [eh5]; exact mm_pf_ne _ _ (by decide)
                    refine mm_iconst C (mm_dec dk_X12_finds 75 rfl) ⟨by decide, by decide⟩ ?_
                    refine mm_istoreL (ls2 := [mR 66, mI p1, mI p2, mI x17_3, mI x63_4, mI 0, mU]) C (mm_dec dk_X12_finds 76 rfl) (by decide) rfl ?_
                    refine mm_iconst C (mm_dec dk_X12_finds 77 rfl) ⟨by decide, by decide⟩ ?_
                    have J137 : ∀ (n : Nat) (x137_5 : Int) (bx137_5 : 0 ≤ x137_5 ∧ x137_5 ≤ 1) (x137_6 : Int) (bx137_6 : 0 ≤ x137_6 ∧ x137_6 ≤ 12) (w137_0 : h5.1 66 48 ≤ x17_3 + 1) (w137_1 : mm_so8 (mm_k2 h 1 p1 p2) (h.2.1 95) (x17_3 + 1).toNat (h5.1 66 48) (h5.2.1 98)) (w137_2 : mm_rw h5 91 (mm_rY h p1) (mm_nY h p1)) (w137_3 : h5.1 66 39 = mm_nY h p1) (w137_4 : h5.1 66 53 = h17_.1 66 53) (w137_5 : x137_5 = mm_ir9 (mm_rY h p1) (h.2.1 94 x17_3) (x137_6).toNat) (w137_6 : x137_6 ≤ mm_nY h p1), (12 - x137_6 : Int) < n → mm_W x 0 0 137 [mR 66, mI p1, mI p2, mI x17_3, mU, mI x137_5, mI x137_6] [] h5 := by
                      intro n
                      induction n with
                      | zero =>
                        intro x137_5 bx137_5 x137_6 bx137_6 w137_0 w137_1 w137_2 w137_3 w137_4 w137_5 w137_6 hm
                        exfalso; omega
                      | succ n ih137 =>
                        intro x137_5 bx137_5 x137_6 bx137_6 w137_0 w137_1 w137_2 w137_3 w137_4 w137_5 w137_6 hm137
                        have ze94 : h5.2.1 94 x17_3 = h.2.1 94 x17_3 := f5.2 94 (by decide) _
                        refine mm_iload C (mm_dec dk_X12_finds 79 rfl) rfl ?_
                        refine mm_aload_n C (mm_dec dk_X12_finds 80 rfl) rfl ?_
                        refine mm_geti C fl_X12_296 (mm_dec dk_X12_finds 81 rfl) rfl rfl (Or.inl rfl) ?_
                        refine mm_icmp_ge (tgt := 180) C (mm_dec dk_X12_finds 82 rfl) (by decide) (fun c143 => ?_) (fun c143 => ?_)
                        · skip
                          refine mm_iload C (mm_dec dk_X12_finds 100 rfl) rfl ?_
                          have zw1 : mm_w (h5.1 66 53 + 1) = h5.1 66 53 + 1 := mm_w_id ⟨by omega, by omega⟩
                          refine mm_if_ne (tgt := 195) C (mm_dec dk_X12_finds 101 rfl) (by decide) (fun c182 => ?_) (fun c182 => ?_)
                          · skip
                            refine mm_fgt 5 ?_
                            refine mm_fgt 6 ?_
                            exact J195 h5 i5 f5 (by omega) (by first | exact w137_1 | exact mm_so8_h w137_1 (fun j => by rw [eh6]; rfl) (by omega) | exact mm_so8_n w17_2 (by omega) (fun q => by rw [← zk] at q; have q1 := q.1; have q2 := q.2.1; have q3 := q.2.2.1; have q4 := q.2.2.2; omega)) (by first | exact w17_3 | exact w137_2 | exact mm_rw_sm w137_2 (fun j => by rw [eh6]; rfl)) (by omega) (by first | exact mm_wr8_n w17_5 (by omega) (Or.inl (fun q => by rw [← zk] at q; have q1 := q.1; have q2 := q.2.1; have q3 := q.2.2.1; have q4 := q.2.2.2; omega)) | exact (by rw [w137_4]; exact mm_wr8_n w17_5 (by omega) (Or.inr (by rw [show (mm_nY h p1).toNat = x137_6.toNat by omega, ← w137_5]; omega))) | exact (by rw [show h6.1 66 53 = h17_.1 66 53 + 1 by omega]; exact mm_wr8_y w17_5 (by omega) zP (by rw [show (mm_nY h p1).toNat = x137_6.toNat by omega, ← w137_5]; omega)))
                          · skip
                            refine mm_aload_n C (mm_dec dk_X12_finds 102 rfl) rfl ?_
                            refine mm_dup C (mm_dec dk_X12_finds 103 rfl) (show (2 : Nat) ≠ 1 by decide) ?_
                            refine mm_geti C fl_X12_332 (mm_dec dk_X12_finds 104 rfl) rfl rfl (Or.inl rfl) ?_
                            refine mm_iconst C (mm_dec dk_X12_finds 105 rfl) ⟨by decide, by decide⟩ ?_
                            refine mm_iaddw C (mm_dec dk_X12_finds 106 rfl) ?_
                            have g53 : -2147483648 ≤ (mm_w ((h5.1 66 53) + 1)) ∧ (mm_w ((h5.1 66 53) + 1)) < 2147483648 := mm_w_rg _
                            refine mm_puti C fl_X12_332 (mm_dec dk_X12_finds 107 rfl) rfl rfl rfl (Or.inl ⟨rfl, rfl⟩) ?_
                            have i6 : mm_inv (mm_pf h5 66 53 (mm_w ((h5.1 66 53) + 1))) := mm_inv_pf i5 (show -2147483648 ≤ (mm_w ((h5.1 66 53) + 1)) ∧ (mm_w ((h5.1 66 53) + 1)) ≤ 2147483647 from ⟨by omega, by omega⟩) (by decide)
                            have f6 : mm_fr [(66, 39), (66, 48), (66, 53)] [91, 98] h (mm_pf h5 66 53 (mm_w ((h5.1 66 53) + 1))) := mm_fr_pf f5 (by decide)
                            obtain ⟨h6, eh6⟩ : ∃ z, z = mm_pf h5 66 53 (mm_w ((h5.1 66 53) + 1)) := ⟨_, rfl⟩
                            rw [← eh6] at i6 f6 ⊢
                            have qh6 : h6.1 66 53 = (mm_w ((h5.1 66 53) + 1)) := by rw [eh6]; exact mm_pf_same _ _ _ _
                            have qh6_54 : h6.1 66 39 = h5.1 66 39 := by rw [eh6]; exact mm_pf_ne _ _ (by decide)
                            have qh6_55 : h6.1 66 40 = h5.1 66 40 := by rw [eh6]; exact mm_pf_ne _ _ (by decide)
                            have qh6_56 : h6.1 66 48 = h5.1 66 48 := by rw [eh6]; exact mm_pf_ne _ _ (by decide)
                            refine mm_fgt 5 ?_
                            refine mm_fgt 6 ?_
                            exact J195 h6 i6 f6 (by omega) (by first | exact w137_1 | exact mm_so8_h w137_1 (fun j => by rw [eh6]; rfl) (by omega) | exact mm_so8_n w17_2 (by omega) (fun q => by rw [← zk] at q; have q1 := q.1; have q2 := q.2.1; have q3 := q.2.2.1; have q4 := q.2.2.2; omega)) (by first | exact w17_3 | exact w137_2 | exact mm_rw_sm w137_2 (fun j => by rw [eh6]; rfl)) (by omega) (by first | exact mm_wr8_n w17_5 (by omega) (Or.inl (fun q => by rw [← zk] at q; have q1 := q.1; have q2 := q.2.1; have q3 := q.2.2.1; have q4 := q.2.2.2; omega)) | exact (by rw [w137_4]; exact mm_wr8_n w17_5 (by omega) (Or.inr (by rw [show (mm_nY h p1).toNat = x137_6.toNat by omega, ← w137_5]; omega))) | exact (by rw [show h6.1 66 53 = h17_.1 66 53 + 1 by omega]; exact mm_wr8_y w17_5 (by omega) zP (by rw [show (mm_nY h p1).toNat = x137_6.toNat by omega, ← w137_5]; omega)))
                        · skip
                          have zrw := w137_2 x137_6 (by omega) (by omega)
                          refine mm_iload C (mm_dec dk_X12_finds 83 rfl) rfl ?_
                          have J172 : ∀ (s172_0 : Int) (bs172_0 : 0 ≤ s172_0 ∧ s172_0 ≤ 1) (w172_0 : s172_0 = mm_ir9 (mm_rY h p1) (h.2.1 94 x17_3) (x137_6 + 1).toNat) (vs172_0 : (x137_5 = 0 ∧ (h5.2.1 91 x137_6) ≠ (h5.2.1 94 x17_3) ∧ s172_0 = 0) ∨ (s172_0 = 1)), mm_W x 0 0 172 [mR 66, mI p1, mI p2, mI x17_3, mU, mU, mI x137_6] [mI s172_0] h5 := by
                            intro s172_0 bs172_0 w172_0 vs172_0
                            refine mm_istoreL (ls2 := [mR 66, mI p1, mI p2, mI x17_3, mU, mI s172_0, mI x137_6]) C (mm_dec dk_X12_finds 97 rfl) (by decide) rfl ?_
                            refine mm_iincL (ls2 := [mR 66, mI p1, mI p2, mI x17_3, mU, mI s172_0, mI (x137_6 + 1)]) C (mm_dec dk_X12_finds 98 rfl) rfl (by decide) ⟨by omega, by omega⟩ rfl ?_
                            refine mm_goto (tgt := 137) C (mm_dec dk_X12_finds 99 rfl) (by decide) ?_
                            exact ih137 s172_0 ⟨by omega, by omega⟩ (x137_6 + 1) ⟨by omega, by omega⟩ (by omega) (by first | exact w137_1 | exact (by rw [show h5.1 66 48 = h17_.1 66 48 + 1 by omega, eh5]; exact mm_so8_y w17_2 (by omega) zP (mm_ir8_in (h1 := h4) w113_1 eh4 (by omega) (by omega) w113_5 rfl (f17_.2 95 (by decide))))) (by first | exact w137_2 | exact mm_rw_sm w17_3 (fun j => by rw [eh5]; exact (mm_sm_pa 91 eh4 (by decide) j).trans (w113_3 j))) (by omega) (by omega) (by first | rfl | exact w172_0) (by omega) (by omega)
                          have J167 : ∀ (w167_0 : (x137_5 ≠ 0 ∨ mm_rY h p1 x137_6 = h.2.1 94 x17_3)), mm_W x 0 0 167 [mR 66, mI p1, mI p2, mI x17_3, mU, mU, mI x137_6] [] h5 := by
                            intro w167_0
                            refine mm_iconst C (mm_dec dk_X12_finds 94 rfl) ⟨by decide, by decide⟩ ?_
                            refine mm_goto (tgt := 172) C (mm_dec dk_X12_finds 95 rfl) (by decide) ?_
                            exact J172 1 ⟨by omega, by omega⟩ (by first | exact mm_ir9_s1 (by omega) w137_5 w167_0 (by omega) | exact mm_ir9_s0 (by omega) w137_5 (by omega) (by omega)) (Or.inr (rfl))
                          refine mm_if_ne (tgt := 167) C (mm_dec dk_X12_finds 84 rfl) (by decide) (fun c148 => ?_) (fun c148 => ?_)
                          · skip
                            refine mm_fgt 5 ?_
                            exact J167 (by omega)
                          · skip
                            refine mm_aload_n C (mm_dec dk_X12_finds 85 rfl) rfl ?_
                            refine mm_getr (t := 91) C fl_X12_84 (mm_dec dk_X12_finds 86 rfl) rfl rfl (mm_ref i5 rfl) ?_
                            refine mm_iload C (mm_dec dk_X12_finds 87 rfl) rfl ?_
                            refine mm_iald C (mm_dec dk_X12_finds 88 rfl) rfl (by omega) (by omega) ?_
                            have g57 : 0 ≤ (h5.2.1 91 x137_6) ∧ (h5.2.1 91 x137_6) ≤ 19 := i5.2.1 91 x137_6
                            refine mm_aload_n C (mm_dec dk_X12_finds 89 rfl) rfl ?_
                            refine mm_getr (t := 94) C fl_X12_93 (mm_dec dk_X12_finds 90 rfl) rfl rfl (mm_ref i5 rfl) ?_
                            refine mm_iload_n C (mm_dec dk_X12_finds 91 rfl) rfl ?_
                            refine mm_iald C (mm_dec dk_X12_finds 92 rfl) rfl (by omega) (by omega) ?_
                            have g58 : -2147483648 ≤ (h5.2.1 94 x17_3) ∧ (h5.2.1 94 x17_3) ≤ 2147483647 := i5.2.1 94 x17_3
                            refine mm_icmp_ne (tgt := 171) C (mm_dec dk_X12_finds 93 rfl) (by decide) (fun c164 => ?_) (fun c164 => ?_)
                            · skip
                              refine mm_iconst C (mm_dec dk_X12_finds 96 rfl) ⟨by decide, by decide⟩ ?_
                              refine mm_fgt 5 ?_
                              exact J172 0 ⟨by omega, by omega⟩ (by first | exact mm_ir9_s1 (by omega) w137_5 w167_0 (by omega) | exact mm_ir9_s0 (by omega) w137_5 (by omega) (by omega)) (Or.inl ⟨by omega, by omega, rfl⟩)
                            · skip
                              refine mm_fgt 5 ?_
                              exact J167 (by omega)
                    refine mm_istoreL (ls2 := [mR 66, mI p1, mI p2, mI x17_3, mI x63_4, mI 0, mI 0]) C (mm_dec dk_X12_finds 78 rfl) (by decide) rfl ?_
                    refine mm_fgt 4 ?_
                    exact J137 (((12 - 0) : Int) + 1).toNat 0 ⟨by omega, by omega⟩ 0 ⟨by omega, by omega⟩ (by omega) (by first | exact w137_1 | exact (by rw [show h5.1 66 48 = h17_.1 66 48 + 1 by omega, eh5]; exact mm_so8_y w17_2 (by omega) zP (mm_ir8_in (h1 := h4) w113_1 eh4 (by omega) (by omega) w113_5 rfl (f17_.2 95 (by decide))))) (by first | exact w137_2 | exact mm_rw_sm w17_3 (fun j => by rw [eh5]; exact (mm_sm_pa 91 eh4 (by decide) j).trans (w113_3 j))) (by omega) (by omega) (by first | rfl | exact w172_0) (by omega) (by omega)
                  refine mm_if_le (tgt := 113) C (mm_dec dk_X12_finds 37 rfl) (by decide) (fun c65 => ?_) (fun c65 => ?_)
                  · skip
                    exact J113 (by omega) (by exact w63_2) (by omega) (by exact w63_4) (by omega) (by first | exact Or.inl (by omega) | exact Or.inr (by rw [← w63_2.1 _ (by omega), ← zh95p]; omega)) (by omega)
                  · skip
                    refine mm_aload_n C (mm_dec dk_X12_finds 38 rfl) rfl ?_
                    refine mm_getr (t := 95) C fl_X12_96 (mm_dec dk_X12_finds 39 rfl) rfl rfl (mm_ref i63_ rfl) ?_
                    refine mm_aload_n C (mm_dec dk_X12_finds 40 rfl) rfl ?_
                    refine mm_getr (t := 98) C fl_X12_105 (mm_dec dk_X12_finds 41 rfl) rfl rfl (mm_ref i63_ rfl) ?_
                    refine mm_iload C (mm_dec dk_X12_finds 42 rfl) rfl ?_
                    refine mm_iconst C (mm_dec dk_X12_finds 43 rfl) ⟨by decide, by decide⟩ ?_
                    refine mm_isub C (mm_dec dk_X12_finds 44 rfl) ⟨by omega, by omega⟩ ?_
                    refine mm_iald C (mm_dec dk_X12_finds 45 rfl) rfl (by omega) (by omega) ?_
                    have g59 : 0 ≤ (h63_.2.1 98 (x63_4 - 1)) ∧ (h63_.2.1 98 (x63_4 - 1)) ≤ 499 := i63_.2.1 98 (x63_4 - 1)
                    refine mm_iald C (mm_dec dk_X12_finds 46 rfl) rfl (by omega) (by omega) ?_
                    have g60 : -2147483648 ≤ (h63_.2.1 95 (h63_.2.1 98 (x63_4 - 1))) ∧ (h63_.2.1 95 (h63_.2.1 98 (x63_4 - 1))) ≤ 2147483647 := i63_.2.1 95 (h63_.2.1 98 (x63_4 - 1))
                    refine mm_aload_n C (mm_dec dk_X12_finds 47 rfl) rfl ?_
                    refine mm_getr (t := 95) C fl_X12_96 (mm_dec dk_X12_finds 48 rfl) rfl rfl (mm_ref i63_ rfl) ?_
                    refine mm_iload_n C (mm_dec dk_X12_finds 49 rfl) rfl ?_
                    refine mm_iald C (mm_dec dk_X12_finds 50 rfl) rfl (by omega) (by omega) ?_
                    have g61 : -2147483648 ≤ (h63_.2.1 95 x17_3) ∧ (h63_.2.1 95 x17_3) ≤ 2147483647 := i63_.2.1 95 x17_3
                    refine mm_icmp_le (tgt := 113) C (mm_dec dk_X12_finds 51 rfl) (by decide) (fun c88 => ?_) (fun c88 => ?_)
                    · skip
                      exact J113 (by omega) (by exact w63_2) (by omega) (by exact w63_4) (by omega) (by first | exact Or.inl (by omega) | exact Or.inr (by rw [← w63_2.1 _ (by omega), ← zh95p]; omega)) (by omega)
                    · skip
                      refine mm_aload_n C (mm_dec dk_X12_finds 52 rfl) rfl ?_
                      refine mm_getr (t := 98) C fl_X12_105 (mm_dec dk_X12_finds 53 rfl) rfl rfl (mm_ref i63_ rfl) ?_
                      refine mm_iload C (mm_dec dk_X12_finds 54 rfl) rfl ?_
                      refine mm_aload_n C (mm_dec dk_X12_finds 55 rfl) rfl ?_
                      refine mm_getr (t := 98) C fl_X12_105 (mm_dec dk_X12_finds 56 rfl) rfl rfl (mm_ref i63_ rfl) ?_
                      refine mm_iload C (mm_dec dk_X12_finds 57 rfl) rfl ?_
                      refine mm_iconst C (mm_dec dk_X12_finds 58 rfl) ⟨by decide, by decide⟩ ?_
                      refine mm_isub C (mm_dec dk_X12_finds 59 rfl) ⟨by omega, by omega⟩ ?_
                      refine mm_iald C (mm_dec dk_X12_finds 60 rfl) rfl (by omega) (by omega) ?_
                      refine mm_iast C (mm_dec dk_X12_finds 61 rfl) rfl (by omega) (by omega) ?_
                      have i7 : mm_inv (mm_pa h63_ 98 x63_4 (h63_.2.1 98 (x63_4 - 1))) := mm_inv_pa i63_ (show 0 ≤ (h63_.2.1 98 (x63_4 - 1)) ∧ (h63_.2.1 98 (x63_4 - 1)) ≤ 499 from ⟨by omega, by omega⟩)
                      have f7 : mm_fr [(66, 39), (66, 48), (66, 53)] [91, 98] h (mm_pa h63_ 98 x63_4 (h63_.2.1 98 (x63_4 - 1))) := mm_fr_pa f63_ (by decide)
                      obtain ⟨h7, eh7⟩ : ∃ z, z = mm_pa h63_ 98 x63_4 (h63_.2.1 98 (x63_4 - 1)) := ⟨_, rfl⟩
                      rw [← eh7] at i7 f7 ⊢
                      have qh7_62 : h7.1 66 39 = h63_.1 66 39 := by rw [eh7]; rfl
                      have qh7_63 : h7.1 66 40 = h63_.1 66 40 := by rw [eh7]; rfl
                      have qh7_64 : h7.1 66 48 = h63_.1 66 48 := by rw [eh7]; rfl
                      have qh7_65 : h7.1 66 53 = h63_.1 66 53 := by rw [eh7]; rfl
                      refine mm_iincL (ls2 := [mR 66, mI p1, mI p2, mI x17_3, mI (x63_4 + (-1)), mU, mU]) C (mm_dec dk_X12_finds 62 rfl) rfl (by decide) ⟨by omega, by omega⟩ rfl ?_
                      refine mm_goto (tgt := 63) C (mm_dec dk_X12_finds 63 rfl) (by decide) ?_
                      exact ih63 (x63_4 + (-1)) ⟨by omega, by omega⟩ h7 i7 f7 (by omega) (by omega) (by first | exact mm_ir8_0 | exact mm_ir8_s w63_2 eh7 rfl (by omega) zh95p) (by omega) (by first | exact fun _ => rfl | exact fun j => (mm_sm_pa 91 eh7 (by decide) j).trans (w63_4 j)) (by omega) (by omega) (by omega)
              refine mm_istoreL (ls2 := [mR 66, mI p1, mI p2, mI x17_3, mI (h17_.1 66 48), mU, mU]) C (mm_dec dk_X12_finds 35 rfl) (by decide) rfl ?_
              exact J63 ((((h17_.1 66 48) - (0)) : Int) + 1).toNat (h17_.1 66 48) ⟨by omega, by omega⟩ h17_ i17_ f17_ (by omega) (by omega) (by first | exact mm_ir8_0 | exact mm_ir8_s w63_2 eh7 rfl (by omega) zh95p) (by omega) (by first | exact fun _ => rfl | exact fun j => (mm_sm_pa 91 eh7 (by decide) j).trans (w63_4 j)) (by omega) (by omega) (by omega)
            · skip
              refine mm_goto (tgt := 195) C (mm_dec dk_X12_finds 32 rfl) (by decide) ?_
              exact J195 h17_ i17_ f17_ (by omega) (by first | exact w137_1 | exact mm_so8_h w137_1 (fun j => by rw [eh6]; rfl) (by omega) | exact mm_so8_n w17_2 (by omega) (fun q => by rw [← zk] at q; have q1 := q.1; have q2 := q.2.1; have q3 := q.2.2.1; have q4 := q.2.2.2; omega)) (by first | exact w17_3 | exact w137_2 | exact mm_rw_sm w137_2 (fun j => by rw [eh6]; rfl)) (by omega) (by first | exact mm_wr8_n w17_5 (by omega) (Or.inl (fun q => by rw [← zk] at q; have q1 := q.1; have q2 := q.2.1; have q3 := q.2.2.1; have q4 := q.2.2.2; omega)) | exact (by rw [w137_4]; exact mm_wr8_n w17_5 (by omega) (Or.inr (by rw [show (mm_nY h p1).toNat = x137_6.toNat by omega, ← w137_5]; omega))) | exact (by rw [show h6.1 66 53 = h17_.1 66 53 + 1 by omega]; exact mm_wr8_y w17_5 (by omega) zP (by rw [show (mm_nY h p1).toNat = x137_6.toNat by omega, ← w137_5]; omega)))
  refine mm_istore_nL (ls2 := [mR 66, mI p1, mI p2, mI 0, mU, mU, mU]) C (mm_dec dk_X12_finds 10 rfl) (by decide) rfl ?_
  exact J17 (((500 - 0) : Int) + 1).toNat 0 ⟨by omega, by omega⟩ h3 i3 f3 (by omega) (by omega) (by first | exact (show h3.1 66 48 = 0 by omega) | exact w195_1) (by first | exact w195_2 | exact mm_rw_sm zr0 (fun j => by rw [eh3, eh2]; rfl)) (by omega) (by first | exact (show h3.1 66 53 = 0 by omega) | exact w195_4) (by omega)
set_option maxRecDepth 100000 in
set_option maxHeartbeats 4000000 in
theorem c_X12_judges_q (l : Launch) (hl : l.stackTraces = false) (d : Nat) (hd : 3 ≤ d) (h : mH) (i0 : mm_inv h) (p1 : Int) (p2 : Int) (bp1 : 0 ≤ p1 ∧ p1 ≤ 39) : mm_Met l d yX12_judges cX12_judges 4 none [mR 66, mI p1, mI p2] h (mm_pv fun h2 => mm_inv h2 ∧ mm_fr [(66, 39), (66, 48), (66, 52), (66, 53), (66, 54)] [91, 98, 99, 100] h h2 ∧ mm_jY8 h p1 p2 (h2.2.1 100) (h2.2.1 98) (h2.1 66 48) ∧ mm_mi9 h p1 (h2.1 66 52) (h2.2.1 100) ∧ mm_wr8 (mm_k2 h 1 p1 p2) (mm_rY h p1) (mm_nY h p1).toNat (h.2.1 94) (h.1 66 40).toNat (h2.1 66 53) ∧ h2.1 66 54 = mm_sc9 (h2.2.1 100) (mm_rY h p1) (h.2.1 79) (mm_nY h p1).toNat ∧ h2.1 66 39 = mm_nY h p1) mm_nx 0 0 := by
  refine mm_ofW (ls := [mR 66, mI p1, mI p2, mU]) hl (by decide) rfl (Nat.le_of_ble_eq_true rfl) ?_
  intro x hxl C T hnm htb
  subst hxl
  have C1 := mm_OK_le (d' := d - 1 + 1) (by omega) C
  refine mm_rng (fun hr _ => ?_)
  have ap1 : -2147483648 ≤ p1 ∧ p1 < 2147483648 := mm_ok_at hr (i := 1) rfl
  have ap2 : -2147483648 ≤ p2 ∧ p2 < 2147483648 := mm_ok_at hr (i := 2) rfl
  have f0 : mm_fr [(66, 39), (66, 48), (66, 52), (66, 53), (66, 54)] [91, 98, 99, 100] h h := mm_fr_rf
  have g1 : 0 ≤ h.1 66 48 ∧ h.1 66 48 ≤ 500 := i0.1 66 48
  have g2 : 0 ≤ h.1 66 39 ∧ h.1 66 39 ≤ 12 := i0.1 66 39
  have g3 : 0 ≤ h.1 66 40 ∧ h.1 66 40 ≤ 500 := i0.1 66 40
  have g4 : -2147483648 ≤ h.1 66 52 ∧ h.1 66 52 ≤ 2147483647 := i0.1 66 52
  have g5 : -2147483648 ≤ h.1 66 53 ∧ h.1 66 53 ≤ 2147483647 := i0.1 66 53
  have g6 : -2147483648 ≤ h.1 66 54 ∧ h.1 66 54 ≤ 2147483647 := i0.1 66 54
  refine mm_aload_n C (mm_dec dk_X12_judges 0 rfl) rfl ?_
  refine mm_iload_n C (mm_dec dk_X12_judges 1 rfl) rfl ?_
  refine mm_iload_n C (mm_dec dk_X12_judges 2 rfl) rfl ?_
  refine mm_cVv (rest := []) C1 ev_X12_335 (mm_dec dk_X12_judges 3 rfl) (c_X12_finds_q x.2.1 hl (d - 1) (by omega) h i0 p1 p2 ⟨by omega, by omega⟩) rfl rfl (Nat.le_of_ble_eq_true rfl) ⟨by decide, by decide⟩ rfl (fun h3c hp3 => ?_) (fun _ _ q => q.elim)
  obtain ⟨i3c, g3c, y3_0, y3_1, y3_2, y3_3⟩ := hp3
  have f3c : mm_fr [(66, 39), (66, 48), (66, 52), (66, 53), (66, 54)] [91, 98, 99, 100] h h3c := mm_fr_tr f0 g3c (by decide +kernel)
  have q3c_8 : h3c.1 66 40 = h.1 66 40 := g3c.1 66 40 (by decide)
  have q3c_9 : h3c.1 66 52 = h.1 66 52 := g3c.1 66 52 (by decide)
  have q3c_10 : h3c.1 66 54 = h.1 66 54 := g3c.1 66 54 (by decide)
  have g11 : 0 ≤ (h3c.1 66 48) ∧ (h3c.1 66 48) ≤ 500 := i3c.1 66 48
  have g12 : 0 ≤ (h3c.1 66 39) ∧ (h3c.1 66 39) ≤ 12 := i3c.1 66 39
  have g13 : -2147483648 ≤ (h3c.1 66 53) ∧ (h3c.1 66 53) ≤ 2147483647 := i3c.1 66 53
  refine mm_iconst C (mm_dec dk_X12_judges 4 rfl) ⟨by decide, by decide⟩ ?_
  have J8 : ∀ (n : Nat) (x8_3 : Int) (bx8_3 : 0 ≤ x8_3 ∧ x8_3 ≤ 12) (h8_ : mH) (i8_ : mm_inv h8_) (f8_ : mm_fr [(66, 39), (66, 48), (66, 52), (66, 53), (66, 54)] [91, 98, 99, 100] h h8_) (w8_0 : mm_al h8_ 100 (x8_3 - 1) (-1)) (w8_1 : mm_so8 (mm_k2 h 1 p1 p2) (h.2.1 95) (h.1 66 40).toNat (h8_.1 66 48) (h8_.2.1 98)) (w8_2 : mm_rw h8_ 91 (mm_rY h p1) (mm_nY h p1)) (w8_3 : h8_.1 66 39 = mm_nY h p1) (w8_4 : mm_wr8 (mm_k2 h 1 p1 p2) (mm_rY h p1) (mm_nY h p1).toNat (h.2.1 94) (h.1 66 40).toNat (h8_.1 66 53)), (12 - x8_3 : Int) < n → mm_W x 0 0 8 [mR 66, mI p1, mU, mI x8_3] [] h8_ := by
    intro n
    induction n with
    | zero =>
      intro x8_3 bx8_3 h8_ i8_ f8_ w8_0 w8_1 w8_2 w8_3 w8_4 hm
      have g14 : 0 ≤ h8_.1 66 48 ∧ h8_.1 66 48 ≤ 500 := i8_.1 66 48
      have g15 : 0 ≤ h8_.1 66 39 ∧ h8_.1 66 39 ≤ 12 := i8_.1 66 39
      have g16 : 0 ≤ h8_.1 66 40 ∧ h8_.1 66 40 ≤ 500 := i8_.1 66 40
      have g17 : -2147483648 ≤ h8_.1 66 52 ∧ h8_.1 66 52 ≤ 2147483647 := i8_.1 66 52
      have g18 : -2147483648 ≤ h8_.1 66 53 ∧ h8_.1 66 53 ≤ 2147483647 := i8_.1 66 53
      have g19 : -2147483648 ≤ h8_.1 66 54 ∧ h8_.1 66 54 ≤ 2147483647 := i8_.1 66 54
      exfalso; omega
    | succ n ih8 =>
      intro x8_3 bx8_3 h8_ i8_ f8_ w8_0 w8_1 w8_2 w8_3 w8_4 hm8
      have g20 : 0 ≤ h8_.1 66 48 ∧ h8_.1 66 48 ≤ 500 := i8_.1 66 48
      have g21 : 0 ≤ h8_.1 66 39 ∧ h8_.1 66 39 ≤ 12 := i8_.1 66 39
      have g22 : 0 ≤ h8_.1 66 40 ∧ h8_.1 66 40 ≤ 500 := i8_.1 66 40
      have g23 : -2147483648 ≤ h8_.1 66 52 ∧ h8_.1 66 52 ≤ 2147483647 := i8_.1 66 52
      have g24 : -2147483648 ≤ h8_.1 66 53 ∧ h8_.1 66 53 ≤ 2147483647 := i8_.1 66 53
      have g25 : -2147483648 ≤ h8_.1 66 54 ∧ h8_.1 66 54 ≤ 2147483647 := i8_.1 66 54
      have g26 : h8_.1 66 40 = h.1 66 40 := f8_.1 66 40 (by decide)
      refine mm_iload_n C (mm_dec dk_X12_judges 6 rfl) rfl ?_
      refine mm_bipush C (mm_dec dk_X12_judges 7 rfl) ⟨by decide, by decide⟩ ?_
      refine mm_icmp_ge (tgt := 27) C (mm_dec dk_X12_judges 8 rfl) (by decide) (fun c11 => ?_) (fun c11 => ?_)
      · skip
        refine mm_aload_n C (mm_dec dk_X12_judges 16 rfl) rfl ?_
        refine mm_getr (t := 83) C fl_X12_60 (mm_dec dk_X12_judges 17 rfl) rfl rfl (mm_ref i8_ rfl) ?_
        refine mm_aload_n C (mm_dec dk_X12_judges 18 rfl) rfl ?_
        refine mm_getr (t := 85) C fl_X12_66 (mm_dec dk_X12_judges 19 rfl) rfl rfl (mm_ref i8_ rfl) ?_
        refine mm_iload_n C (mm_dec dk_X12_judges 20 rfl) rfl ?_
        refine mm_iald C (mm_dec dk_X12_judges 21 rfl) rfl (by omega) (by omega) ?_
        have g27 : 0 ≤ (h8_.2.1 85 p1) ∧ (h8_.2.1 85 p1) ≤ 7 := i8_.2.1 85 p1
        refine mm_zald C (mm_dec dk_X12_judges 22 rfl) rfl (by omega) (by omega) ?_
        have g28 : 0 ≤ (h8_.2.1 83 (h8_.2.1 85 p1)) ∧ (h8_.2.1 83 (h8_.2.1 85 p1)) ≤ 1 := i8_.2.1 83 (h8_.2.1 85 p1)
        have J81 : ∀ (h81_ : mH) (i81_ : mm_inv h81_) (f81_ : mm_fr [(66, 39), (66, 48), (66, 52), (66, 53), (66, 54)] [91, 98, 99, 100] h h81_) (w81_0 : mm_jY8 h p1 p2 (h81_.2.1 100) (h81_.2.1 98) (h81_.1 66 48)) (w81_1 : mm_wr8 (mm_k2 h 1 p1 p2) (mm_rY h p1) (mm_nY h p1).toNat (h.2.1 94) (h.1 66 40).toNat (h81_.1 66 53)) (w81_2 : mm_mi9 h p1 (h81_.1 66 52) (h81_.2.1 100)) (w81_3 : mm_rw h81_ 91 (mm_rY h p1) (mm_nY h p1)) (w81_4 : h81_.1 66 39 = mm_nY h p1), mm_W x 0 0 81 [mR 66, mU, mU, mU] [] h81_ := by
          intro h81_ i81_ f81_ w81_0 w81_1 w81_2 w81_3 w81_4
          have g29 : 0 ≤ h81_.1 66 48 ∧ h81_.1 66 48 ≤ 500 := i81_.1 66 48
          have g30 : 0 ≤ h81_.1 66 39 ∧ h81_.1 66 39 ≤ 12 := i81_.1 66 39
          have g31 : 0 ≤ h81_.1 66 40 ∧ h81_.1 66 40 ≤ 500 := i81_.1 66 40
          have g32 : -2147483648 ≤ h81_.1 66 52 ∧ h81_.1 66 52 ≤ 2147483647 := i81_.1 66 52
          have g33 : -2147483648 ≤ h81_.1 66 53 ∧ h81_.1 66 53 ≤ 2147483647 := i81_.1 66 53
          have g34 : -2147483648 ≤ h81_.1 66 54 ∧ h81_.1 66 54 ≤ 2147483647 := i81_.1 66 54
          have g35 : h81_.1 66 40 = h.1 66 40 := f81_.1 66 40 (by decide)
          refine mm_aload_n C (mm_dec dk_X12_judges 46 rfl) rfl ?_
          refine mm_iconst C (mm_dec dk_X12_judges 47 rfl) ⟨by decide, by decide⟩ ?_
          refine mm_puti C fl_X12_347 (mm_dec dk_X12_judges 48 rfl) rfl rfl rfl (Or.inl ⟨rfl, rfl⟩) ?_
          have i2 : mm_inv (mm_pf h81_ 66 54 0) := mm_inv_pf i81_ (show -2147483648 ≤ 0 ∧ 0 ≤ 2147483647 from ⟨by omega, by omega⟩) (by decide)
          have f2 : mm_fr [(66, 39), (66, 48), (66, 52), (66, 53), (66, 54)] [91, 98, 99, 100] h (mm_pf h81_ 66 54 0) := mm_fr_pf f81_ (by decide)
          obtain ⟨h2, eh2⟩ : ∃ z, z = mm_pf h81_ 66 54 0 := ⟨_, rfl⟩
          rw [← eh2] at i2 f2 ⊢
          have qh2 : h2.1 66 54 = 0 := by rw [eh2]; exact mm_pf_same _ _ _ _
          have qh2_36 : h2.1 66 39 = h81_.1 66 39 := by rw [eh2]; exact mm_pf_ne _ _ (by decide)
          have qh2_37 : h2.1 66 40 = h81_.1 66 40 := by rw [eh2]; exact mm_pf_ne _ _ (by decide)
          have qh2_38 : h2.1 66 48 = h81_.1 66 48 := by rw [eh2]; exact mm_pf_ne _ _ (by decide)
          have qh2_39 : h2.1 66 52 = h81_.1 66 52 := by rw [eh2]; exact mm_pf_ne _ _ (by decide)
          have qh2_40 : h2.1 66 53 = h81_.1 66 53 := by rw [eh2]; exact mm_pf_ne _ _ (by decide)
          refine mm_iconst C (mm_dec dk_X12_judges 49 rfl) ⟨by decide, by decide⟩ ?_
          have J88 : ∀ (n : Nat) (x88_3 : Int) (bx88_3 : 0 ≤ x88_3 ∧ x88_3 ≤ 12) (h88_ : mH) (i88_ : mm_inv h88_) (f88_ : mm_fr [(66, 39), (66, 48), (66, 52), (66, 53), (66, 54)] [91, 98, 99, 100] h h88_) (w88_0 : mm_jY8 h p1 p2 (h88_.2.1 100) (h88_.2.1 98) (h88_.1 66 48)) (w88_1 : mm_wr8 (mm_k2 h 1 p1 p2) (mm_rY h p1) (mm_nY h p1).toNat (h.2.1 94) (h.1 66 40).toNat (h88_.1 66 53)) (w88_2 : mm_mi9 h p1 (h88_.1 66 52) (h88_.2.1 100)) (w88_3 : mm_rw h88_ 91 (mm_rY h p1) (mm_nY h p1)) (w88_4 : h88_.1 66 39 = mm_nY h p1) (w88_5 : h88_.1 66 54 = mm_sc9 (h88_.2.1 100) (mm_rY h p1) (h.2.1 79) (x88_3).toNat) (w88_6 : x88_3 ≤ mm_nY h p1), (12 - x88_3 : Int) < n → mm_W x 0 0 88 [mR 66, mU, mU, mI x88_3] [] h88_ := by
            intro n
            induction n with
            | zero =>
              intro x88_3 bx88_3 h88_ i88_ f88_ w88_0 w88_1 w88_2 w88_3 w88_4 w88_5 w88_6 hm
              have g41 : 0 ≤ h88_.1 66 48 ∧ h88_.1 66 48 ≤ 500 := i88_.1 66 48
              have g42 : 0 ≤ h88_.1 66 39 ∧ h88_.1 66 39 ≤ 12 := i88_.1 66 39
              have g43 : 0 ≤ h88_.1 66 40 ∧ h88_.1 66 40 ≤ 500 := i88_.1 66 40
              have g44 : -2147483648 ≤ h88_.1 66 52 ∧ h88_.1 66 52 ≤ 2147483647 := i88_.1 66 52
              have g45 : -2147483648 ≤ h88_.1 66 53 ∧ h88_.1 66 53 ≤ 2147483647 := i88_.1 66 53
              have g46 : -2147483648 ≤ h88_.1 66 54 ∧ h88_.1 66 54 ≤ 2147483647 := i88_.1 66 54
              exfalso; omega
            | succ n ih88 =>
              intro x88_3 bx88_3 h88_ i88_ f88_ w88_0 w88_1 w88_2 w88_3 w88_4 w88_5 w88_6 hm88
              have g47 : 0 ≤ h88_.1 66 48 ∧ h88_.1 66 48 ≤ 500 := i88_.1 66 48
              have g48 : 0 ≤ h88_.1 66 39 ∧ h88_.1 66 39 ≤ 12 := i88_.1 66 39
              have g49 : 0 ≤ h88_.1 66 40 ∧ h88_.1 66 40 ≤ 500 := i88_.1 66 40
              have g50 : -2147483648 ≤ h88_.1 66 52 ∧ h88_.1 66 52 ≤ 2147483647 := i88_.1 66 52
              have g51 : -2147483648 ≤ h88_.1 66 53 ∧ h88_.1 66 53 ≤ 2147483647 := i88_.1 66 53
              have g52 : -2147483648 ≤ h88_.1 66 54 ∧ h88_.1 66 54 ≤ 2147483647 := i88_.1 66 54
              have g53 : h88_.1 66 40 = h.1 66 40 := f88_.1 66 40 (by decide)
              have z79 : ∀ j, h88_.2.1 79 j = h.2.1 79 j := fun j => f88_.2 79 (by decide) j
              refine mm_iload_n C (mm_dec dk_X12_judges 51 rfl) rfl ?_
              refine mm_aload_n C (mm_dec dk_X12_judges 52 rfl) rfl ?_
              refine mm_geti C fl_X12_296 (mm_dec dk_X12_judges 53 rfl) rfl rfl (Or.inl rfl) ?_
              refine mm_icmp_ge (tgt := 132) C (mm_dec dk_X12_judges 54 rfl) (by decide) (fun c93 => ?_) (fun c93 => ?_)
              · skip
                exact mm_vret C T (mm_dec dk_X12_judges 75 rfl) (by decide : 0 ≤ 0) (by decide : 0 ≤ 0) ⟨rfl, ⟨i88_, f88_, by exact w88_0, by exact w88_2, by exact w88_1, by (rw [show mm_nY h p1 = x88_3 by omega]; exact w88_5), by omega⟩⟩
              · skip
                refine mm_aload_n C (mm_dec dk_X12_judges 55 rfl) rfl ?_
                have zrw := w88_3 x88_3 (by omega) (by omega)
                have z79a := z79 (h88_.2.1 91 x88_3)
                rw [zrw] at z79a
                refine mm_getr (t := 100) C fl_X12_111 (mm_dec dk_X12_judges 56 rfl) rfl rfl (mm_ref i88_ rfl) ?_
                refine mm_iload_n C (mm_dec dk_X12_judges 57 rfl) rfl ?_
                refine mm_iald C (mm_dec dk_X12_judges 58 rfl) rfl (by omega) (by omega) ?_
                have g54 : -1 ≤ (h88_.2.1 100 x88_3) ∧ (h88_.2.1 100 x88_3) ≤ 499 := i88_.2.1 100 x88_3
                refine mm_iconst C (mm_dec dk_X12_judges 59 rfl) ⟨by decide, by decide⟩ ?_
                have J126 : ∀ (h126_ : mH) (i126_ : mm_inv h126_) (f126_ : mm_fr [(66, 39), (66, 48), (66, 52), (66, 53), (66, 54)] [91, 98, 99, 100] h h126_) (w126_0 : mm_jY8 h p1 p2 (h126_.2.1 100) (h126_.2.1 98) (h126_.1 66 48)) (w126_1 : mm_wr8 (mm_k2 h 1 p1 p2) (mm_rY h p1) (mm_nY h p1).toNat (h.2.1 94) (h.1 66 40).toNat (h126_.1 66 53)) (w126_2 : mm_mi9 h p1 (h126_.1 66 52) (h126_.2.1 100)) (w126_3 : mm_rw h126_ 91 (mm_rY h p1) (mm_nY h p1)) (w126_4 : h126_.1 66 39 = mm_nY h p1) (w126_5 : h126_.1 66 54 = mm_sc9 (h126_.2.1 100) (mm_rY h p1) (h.2.1 79) (x88_3 + 1).toNat), mm_W x 0 0 126 [mR 66, mU, mU, mI x88_3] [] h126_ := by
                  intro h126_ i126_ f126_ w126_0 w126_1 w126_2 w126_3 w126_4 w126_5
                  have g55 : 0 ≤ h126_.1 66 48 ∧ h126_.1 66 48 ≤ 500 := i126_.1 66 48
                  have g56 : 0 ≤ h126_.1 66 39 ∧ h126_.1 66 39 ≤ 12 := i126_.1 66 39
                  have g57 : 0 ≤ h126_.1 66 40 ∧ h126_.1 66 40 ≤ 500 := i126_.1 66 40
                  have g58 : -2147483648 ≤ h126_.1 66 52 ∧ h126_.1 66 52 ≤ 2147483647 := i126_.1 66 52
                  have g59 : -2147483648 ≤ h126_.1 66 53 ∧ h126_.1 66 53 ≤ 2147483647 := i126_.1 66 53
                  have g60 : -2147483648 ≤ h126_.1 66 54 ∧ h126_.1 66 54 ≤ 2147483647 := i126_.1 66 54
                  have g61 : h126_.1 66 40 = h.1 66 40 := f126_.1 66 40 (by decide)
                  refine mm_iincL (ls2 := [mR 66, mU, mU, mI (x88_3 + 1)]) C (mm_dec dk_X12_judges 73 rfl) rfl (by decide) ⟨by omega, by omega⟩ rfl ?_
                  refine mm_goto (tgt := 88) C (mm_dec dk_X12_judges 74 rfl) (by decide) ?_
                  exact ih88 (x88_3 + 1) ⟨by omega, by omega⟩ h126_ i126_ f126_ (by first | exact w126_0 | exact mm_jY8_h w81_0 (fun j => by rw [eh2]; rfl) (fun j => by rw [eh2]; rfl) (by omega)) (by first | exact w126_1 | exact (by rw [show h2.1 66 53 = h81_.1 66 53 by omega]; exact w81_1)) (by first | exact w126_2 | exact mm_mi9_h w81_2 (by omega) (fun j => by rw [eh2]; rfl)) (by first | exact w126_3 | exact mm_rw_sm w81_3 (fun j => by rw [eh2]; rfl)) (by omega) (by first | exact w126_5 | exact (show h2.1 66 54 = 0 by omega)) (by omega) (by omega)
                refine mm_icmp_eq (tgt := 126) C (mm_dec dk_X12_judges 60 rfl) (by decide) (fun c103 => ?_) (fun c103 => ?_)
                · skip
                  exact J126 h88_ i88_ f88_ (by first | exact w88_0 | exact mm_jY8_h w88_0 (fun j => by rw [eh3]; rfl) (fun j => by rw [eh3]; rfl) (by omega)) (by first | exact w88_1 | exact (by rw [show h3.1 66 53 = h88_.1 66 53 by omega]; exact w88_1)) (by first | exact w88_2 | exact mm_mi9_h w88_2 (by omega) (fun j => by rw [eh3]; rfl)) (by first | exact w88_3 | exact mm_rw_sm w88_3 (fun j => by rw [eh3]; rfl)) (by omega) (by first | exact mm_sc9_n w88_5 (by omega) (by omega) | exact mm_sc9_h (a := h88_) (mm_sc9_y w88_5 (by omega) (by omega) z79a) (by rw [← zrw]; omega) (fun j => by rw [eh3]; rfl))
                · skip
                  refine mm_aload_n C (mm_dec dk_X12_judges 61 rfl) rfl ?_
                  refine mm_dup C (mm_dec dk_X12_judges 62 rfl) (show (2 : Nat) ≠ 1 by decide) ?_
                  refine mm_geti C fl_X12_347 (mm_dec dk_X12_judges 63 rfl) rfl rfl (Or.inl rfl) ?_
                  refine mm_aload_n C (mm_dec dk_X12_judges 64 rfl) rfl ?_
                  refine mm_getr (t := 79) C fl_X12_48 (mm_dec dk_X12_judges 65 rfl) rfl rfl (mm_ref i88_ rfl) ?_
                  refine mm_aload_n C (mm_dec dk_X12_judges 66 rfl) rfl ?_
                  refine mm_getr (t := 91) C fl_X12_84 (mm_dec dk_X12_judges 67 rfl) rfl rfl (mm_ref i88_ rfl) ?_
                  refine mm_iload_n C (mm_dec dk_X12_judges 68 rfl) rfl ?_
                  refine mm_iald C (mm_dec dk_X12_judges 69 rfl) rfl (by omega) (by omega) ?_
                  have g62 : 0 ≤ (h88_.2.1 91 x88_3) ∧ (h88_.2.1 91 x88_3) ≤ 19 := i88_.2.1 91 x88_3
                  refine mm_iald C (mm_dec dk_X12_judges 70 rfl) rfl (by omega) (by omega) ?_
                  have g63 : -2147483648 ≤ (h88_.2.1 79 (h88_.2.1 91 x88_3)) ∧ (h88_.2.1 79 (h88_.2.1 91 x88_3)) ≤ 2147483647 := i88_.2.1 79 (h88_.2.1 91 x88_3)
                  refine mm_iaddw C (mm_dec dk_X12_judges 71 rfl) ?_
                  have g64 : -2147483648 ≤ (mm_w ((h88_.1 66 54) + (h88_.2.1 79 (h88_.2.1 91 x88_3)))) ∧ (mm_w ((h88_.1 66 54) + (h88_.2.1 79 (h88_.2.1 91 x88_3)))) < 2147483648 := mm_w_rg _
                  refine mm_puti C fl_X12_347 (mm_dec dk_X12_judges 72 rfl) rfl rfl rfl (Or.inl ⟨rfl, rfl⟩) ?_
                  have i3 : mm_inv (mm_pf h88_ 66 54 (mm_w ((h88_.1 66 54) + (h88_.2.1 79 (h88_.2.1 91 x88_3))))) := mm_inv_pf i88_ (show -2147483648 ≤ (mm_w ((h88_.1 66 54) + (h88_.2.1 79 (h88_.2.1 91 x88_3)))) ∧ (mm_w ((h88_.1 66 54) + (h88_.2.1 79 (h88_.2.1 91 x88_3)))) ≤ 2147483647 from ⟨by omega, by omega⟩) (by decide)
                  have f3 : mm_fr [(66, 39), (66, 48), (66, 52), (66, 53), (66, 54)] [91, 98, 99, 100] h (mm_pf h88_ 66 54 (mm_w ((h88_.1 66 54) + (h88_.2.1 79 (h88_.2.1 91 x88_3))))) := mm_fr_pf f88_ (by decide)
                  obtain ⟨h3, eh3⟩ : ∃ z, z = mm_pf h88_ 66 54 (mm_w ((h88_.1 66 54) + (h88_.2.1 79 (h88_.2.1 91 x88_3)))) := ⟨_, rfl⟩
                  rw [← eh3] at i3 f3 ⊢
                  have qh3 : h3.1 66 54 = (mm_w ((h88_.1 66 54) + (h88_.2.1 79 (h88_.2.1 91 x88_3)))) := by rw [eh3]; exact mm_pf_same _ _ _ _
                  have qh3_65 : h3.1 66 39 = h88_.1 66 39 := by rw [eh3]; exact mm_pf_ne _ _ (by decide)
                  have qh3_66 : h3.1 66 40 = h88_.1 66 40 := by rw [eh3]; exact mm_pf_ne _ _ (by decide)
                  have qh3_67 : h3.1 66 48 = h88_.1 66 48 := by rw [eh3]; exact mm_pf_ne _ _ (by decide)
                  have qh3_68 : h3.1 66 52 = h88_.1 66 52 := by rw [eh3]; exact mm_pf_ne _ _ (by decide)
                  have qh3_69 : h3.1 66 53 = h88_.1 66 53 := by rw [eh3]; exact mm_pf_ne _ _ (by decide)
                  exact J126 h3 i3 f3 (by first | exact w88_0 | exact mm_jY8_h w88_0 (fun j => by rw [eh3]; rfl) (fun j => by rw [eh3]; rfl) (by omega)) (by first | exact w88_1 | exact (by rw [show h3.1 66 53 = h88_.1 66 53 by omega]; exact w88_1)) (by first | exact w88_2 | exact mm_mi9_h w88_2 (by omega) (fun j => by rw [eh3]; rfl)) (by first | exact w88_3 | exact mm_rw_sm w88_3 (fun j => by rw [eh3]; rfl)) (by omega) (by first | exact mm_sc9_n w88_5 (by omega) (by omega) | exact mm_sc9_h (a := h88_) (mm_sc9_y w88_5 (by omega) (by omega) z79a) (by rw [← zrw]; omega) (fun j => by rw [eh3]; rfl))
          refine mm_istore_nL (ls2 := [mR 66, mU, mU, mI 0]) C (mm_dec dk_X12_judges 50 rfl) (by decide) rfl ?_
          exact J88 (((12 - 0) : Int) + 1).toNat 0 ⟨by omega, by omega⟩ h2 i2 f2 (by first | exact w126_0 | exact mm_jY8_h w81_0 (fun j => by rw [eh2]; rfl) (fun j => by rw [eh2]; rfl) (by omega)) (by first | exact w126_1 | exact (by rw [show h2.1 66 53 = h81_.1 66 53 by omega]; exact w81_1)) (by first | exact w126_2 | exact mm_mi9_h w81_2 (by omega) (fun j => by rw [eh2]; rfl)) (by first | exact w126_3 | exact mm_rw_sm w81_3 (fun j => by rw [eh2]; rfl)) (by omega) (by first | exact w126_5 | exact (show h2.1 66 54 = 0 by omega)) (by omega) (by omega)
        have zfr : h8_.2.1 83 (h8_.2.1 85 p1) = h.2.1 83 (h.2.1 85 p1) := (by rw [f8_.2 83 (by decide), f8_.2 85 (by decide)])
        have zn39 : 0 ≤ h8_.1 66 39 ∧ h8_.1 66 39 ≤ 12 := i8_.1 66 39
        refine mm_if_eq (tgt := 77) C (mm_dec dk_X12_judges 23 rfl) (by decide) (fun c38 => ?_) (fun c38 => ?_)
        · skip
          refine mm_aload_n C (mm_dec dk_X12_judges 44 rfl) rfl ?_
          refine mm_cVv (rest := []) C1 ev_X12_344 (mm_dec dk_X12_judges 45 rfl) (c_X12_inOrder_q x.2.1 hl (d - 1) (by omega) h8_ i8_ (by exact mm_al_le w8_0 (by omega))) rfl rfl (Nat.le_of_ble_eq_true rfl) ⟨by decide, by decide⟩ rfl (fun h78c hp78 => ?_) (fun _ _ q => q.elim)
          obtain ⟨i78c, g78c, y78_0, y78_1⟩ := hp78
          have f78c : mm_fr [(66, 39), (66, 48), (66, 52), (66, 53), (66, 54)] [91, 98, 99, 100] h h78c := mm_fr_tr f8_ g78c (by decide +kernel)
          have q78c_71 : h78c.1 66 39 = h8_.1 66 39 := g78c.1 66 39 (by decide)
          have q78c_72 : h78c.1 66 40 = h8_.1 66 40 := g78c.1 66 40 (by decide)
          have q78c_73 : h78c.1 66 48 = h8_.1 66 48 := g78c.1 66 48 (by decide)
          have q78c_74 : h78c.1 66 53 = h8_.1 66 53 := g78c.1 66 53 (by decide)
          have q78c_75 : h78c.1 66 54 = h8_.1 66 54 := g78c.1 66 54 (by decide)
          have g76 : -2147483648 ≤ (h78c.1 66 52) ∧ (h78c.1 66 52) ≤ 2147483647 := i78c.1 66 52
          refine mm_fgt 1 ?_
          refine mm_fgt 3 ?_
          exact J81 h78c i78c f78c (by first | exact mm_jY8_2 w8_1 w8_2 w8_3 (by omega) (fun j => f8_.2 94 (by decide) j) (by omega) y78_0 (fun j => g78c.2 98 (by decide) j) (g78c.1 66 48 (by decide)) | exact mm_jY8_h (mm_jY8_1 w43_2 w43_3 w43_4 (by omega) (fun j => f43_.2 94 (by decide) j) (by rw [show h43_.1 66 39 = x43_3 by omega]; exact w43_0)) (fun j => by rw [eh5]; rfl) (fun j => by rw [eh5]; rfl) (by omega)) (by first | exact (by rw [show h78c.1 66 53 = h8_.1 66 53 by omega]; exact w8_4) | exact (by rw [show h5.1 66 53 = h43_.1 66 53 by omega]; exact w43_5)) (by first | exact Or.inr ⟨by omega, by rw [y78_1, w8_3]⟩ | exact Or.inl ⟨by omega, by omega⟩) (by first | exact mm_rw_sm w8_2 (fun j => g78c.2 91 (by decide) j) | exact mm_rw_sm w43_3 (fun j => by rw [eh5]; rfl)) (by omega)
        · skip
          refine mm_iconst C (mm_dec dk_X12_judges 24 rfl) ⟨by decide, by decide⟩ ?_
          have J43 : ∀ (n : Nat) (x43_3 : Int) (bx43_3 : 0 ≤ x43_3 ∧ x43_3 ≤ 12) (h43_ : mH) (i43_ : mm_inv h43_) (f43_ : mm_fr [(66, 39), (66, 48), (66, 52), (66, 53), (66, 54)] [91, 98, 99, 100] h h43_) (w43_0 : ∀ j, 0 ≤ j → j < x43_3 → mm_ff8 (mm_Vh h43_) (h43_.1 66 48) (h43_.2.1 91 j) 0 (h43_.2.1 100 j)) (w43_1 : x43_3 ≤ h43_.1 66 39) (w43_2 : mm_so8 (mm_k2 h 1 p1 p2) (h.2.1 95) (h.1 66 40).toNat (h43_.1 66 48) (h43_.2.1 98)) (w43_3 : mm_rw h43_ 91 (mm_rY h p1) (mm_nY h p1)) (w43_4 : h43_.1 66 39 = mm_nY h p1) (w43_5 : mm_wr8 (mm_k2 h 1 p1 p2) (mm_rY h p1) (mm_nY h p1).toNat (h.2.1 94) (h.1 66 40).toNat (h43_.1 66 53)), (12 - x43_3 : Int) < n → mm_W x 0 0 43 [mR 66, mU, mU, mI x43_3] [] h43_ := by
            intro n
            induction n with
            | zero =>
              intro x43_3 bx43_3 h43_ i43_ f43_ w43_0 w43_1 w43_2 w43_3 w43_4 w43_5 hm
              have g77 : 0 ≤ h43_.1 66 48 ∧ h43_.1 66 48 ≤ 500 := i43_.1 66 48
              have g78 : 0 ≤ h43_.1 66 39 ∧ h43_.1 66 39 ≤ 12 := i43_.1 66 39
              have g79 : 0 ≤ h43_.1 66 40 ∧ h43_.1 66 40 ≤ 500 := i43_.1 66 40
              have g80 : -2147483648 ≤ h43_.1 66 52 ∧ h43_.1 66 52 ≤ 2147483647 := i43_.1 66 52
              have g81 : -2147483648 ≤ h43_.1 66 53 ∧ h43_.1 66 53 ≤ 2147483647 := i43_.1 66 53
              have g82 : -2147483648 ≤ h43_.1 66 54 ∧ h43_.1 66 54 ≤ 2147483647 := i43_.1 66 54
              exfalso; omega
            | succ n ih43 =>
              intro x43_3 bx43_3 h43_ i43_ f43_ w43_0 w43_1 w43_2 w43_3 w43_4 w43_5 hm43
              have g83 : 0 ≤ h43_.1 66 48 ∧ h43_.1 66 48 ≤ 500 := i43_.1 66 48
              have g84 : 0 ≤ h43_.1 66 39 ∧ h43_.1 66 39 ≤ 12 := i43_.1 66 39
              have g85 : 0 ≤ h43_.1 66 40 ∧ h43_.1 66 40 ≤ 500 := i43_.1 66 40
              have g86 : -2147483648 ≤ h43_.1 66 52 ∧ h43_.1 66 52 ≤ 2147483647 := i43_.1 66 52
              have g87 : -2147483648 ≤ h43_.1 66 53 ∧ h43_.1 66 53 ≤ 2147483647 := i43_.1 66 53
              have g88 : -2147483648 ≤ h43_.1 66 54 ∧ h43_.1 66 54 ≤ 2147483647 := i43_.1 66 54
              have g89 : h43_.1 66 40 = h.1 66 40 := f43_.1 66 40 (by decide)
              refine mm_iload_n C (mm_dec dk_X12_judges 26 rfl) rfl ?_
              refine mm_aload_n C (mm_dec dk_X12_judges 27 rfl) rfl ?_
              refine mm_geti C fl_X12_296 (mm_dec dk_X12_judges 28 rfl) rfl rfl (Or.inl rfl) ?_
              refine mm_icmp_ge (tgt := 69) C (mm_dec dk_X12_judges 29 rfl) (by decide) (fun c48 => ?_) (fun c48 => ?_)
              · skip
                refine mm_aload_n C (mm_dec dk_X12_judges 40 rfl) rfl ?_
                refine mm_iconst C (mm_dec dk_X12_judges 41 rfl) ⟨by decide, by decide⟩ ?_
                refine mm_puti C fl_X12_341 (mm_dec dk_X12_judges 42 rfl) rfl rfl rfl (Or.inl ⟨rfl, rfl⟩) ?_
                have i5 : mm_inv (mm_pf h43_ 66 52 0) := mm_inv_pf i43_ (show -2147483648 ≤ 0 ∧ 0 ≤ 2147483647 from ⟨by omega, by omega⟩) (by decide)
                have f5 : mm_fr [(66, 39), (66, 48), (66, 52), (66, 53), (66, 54)] [91, 98, 99, 100] h (mm_pf h43_ 66 52 0) := mm_fr_pf f43_ (by decide)
                obtain ⟨h5, eh5⟩ : ∃ z, z = mm_pf h43_ 66 52 0 := ⟨_, rfl⟩
                rw [← eh5] at i5 f5 ⊢
                have qh5 : h5.1 66 52 = 0 := by rw [eh5]; exact mm_pf_same _ _ _ _
                have qh5_90 : h5.1 66 39 = h43_.1 66 39 := by rw [eh5]; exact mm_pf_ne _ _ (by decide)
                have qh5_91 : h5.1 66 40 = h43_.1 66 40 := by rw [eh5]; exact mm_pf_ne _ _ (by decide)
                have qh5_92 : h5.1 66 48 = h43_.1 66 48 := by rw [eh5]; exact mm_pf_ne _ _ (by decide)
                have qh5_93 : h5.1 66 53 = h43_.1 66 53 := by rw [eh5]; exact mm_pf_ne _ _ (by decide)
                have qh5_94 : h5.1 66 54 = h43_.1 66 54 := by rw [eh5]; exact mm_pf_ne _ _ (by decide)
                refine mm_goto (tgt := 81) C (mm_dec dk_X12_judges 43 rfl) (by decide) ?_
                refine mm_fgt 3 ?_
                exact J81 h5 i5 f5 (by first | exact mm_jY8_2 w8_1 w8_2 w8_3 (by omega) (fun j => f8_.2 94 (by decide) j) (by omega) y78_0 (fun j => g78c.2 98 (by decide) j) (g78c.1 66 48 (by decide)) | exact mm_jY8_h (mm_jY8_1 w43_2 w43_3 w43_4 (by omega) (fun j => f43_.2 94 (by decide) j) (by rw [show h43_.1 66 39 = x43_3 by omega]; exact w43_0)) (fun j => by rw [eh5]; rfl) (fun j => by rw [eh5]; rfl) (by omega)) (by first | exact (by rw [show h78c.1 66 53 = h8_.1 66 53 by omega]; exact w8_4) | exact (by rw [show h5.1 66 53 = h43_.1 66 53 by omega]; exact w43_5)) (by first | exact Or.inr ⟨by omega, by rw [y78_1, w8_3]⟩ | exact Or.inl ⟨by omega, by omega⟩) (by first | exact mm_rw_sm w8_2 (fun j => g78c.2 91 (by decide) j) | exact mm_rw_sm w43_3 (fun j => by rw [eh5]; rfl)) (by omega)
              · skip
                refine mm_aload_n C (mm_dec dk_X12_judges 30 rfl) rfl ?_
                refine mm_getr (t := 100) C fl_X12_111 (mm_dec dk_X12_judges 31 rfl) rfl rfl (mm_ref i43_ rfl) ?_
                refine mm_iload_n C (mm_dec dk_X12_judges 32 rfl) rfl ?_
                refine mm_aload_n C (mm_dec dk_X12_judges 33 rfl) rfl ?_
                refine mm_iload_n C (mm_dec dk_X12_judges 34 rfl) rfl ?_
                refine mm_iconst C (mm_dec dk_X12_judges 35 rfl) ⟨by decide, by decide⟩ ?_
                refine mm_cVi (rest := [mI x43_3, mR 100]) C1 ev_X12_338 (mm_dec dk_X12_judges 36 rfl) (c_X12_nextPunch_q x.2.1 hl (d - 1) (by omega) h43_ i43_ x43_3 0 ⟨by omega, by omega⟩ ⟨by omega, by omega⟩) rfl rfl (Nat.le_of_ble_eq_true rfl) ⟨by decide, by decide⟩ rfl (fun r59 h59c hp59 => ?_) (fun _ _ q => q.elim)
                obtain ⟨b59, z59, y59_0⟩ := hp59
                rw [z59]
                refine mm_iast C (mm_dec dk_X12_judges 37 rfl) rfl (by omega) (by omega) ?_
                have i6 : mm_inv (mm_pa h43_ 100 x43_3 r59) := mm_inv_pa i43_ (show -1 ≤ r59 ∧ r59 ≤ 499 from ⟨by omega, by omega⟩)
                have f6 : mm_fr [(66, 39), (66, 48), (66, 52), (66, 53), (66, 54)] [91, 98, 99, 100] h (mm_pa h43_ 100 x43_3 r59) := mm_fr_pa f43_ (by decide)
                obtain ⟨h6, eh6⟩ : ∃ z, z = mm_pa h43_ 100 x43_3 r59 := ⟨_, rfl⟩
                rw [← eh6] at i6 f6 ⊢
                have qh6_96 : h6.1 66 39 = h43_.1 66 39 := by rw [eh6]; rfl
                have qh6_97 : h6.1 66 40 = h43_.1 66 40 := by rw [eh6]; rfl
                have qh6_98 : h6.1 66 48 = h43_.1 66 48 := by rw [eh6]; rfl
                have qh6_99 : h6.1 66 52 = h43_.1 66 52 := by rw [eh6]; rfl
                have qh6_100 : h6.1 66 53 = h43_.1 66 53 := by rw [eh6]; rfl
                have qh6_101 : h6.1 66 54 = h43_.1 66 54 := by rw [eh6]; rfl
                refine mm_iincL (ls2 := [mR 66, mU, mU, mI (x43_3 + 1)]) C (mm_dec dk_X12_judges 38 rfl) rfl (by decide) ⟨by omega, by omega⟩ rfl ?_
                refine mm_goto (tgt := 43) C (mm_dec dk_X12_judges 39 rfl) (by decide) ?_
                exact ih43 (x43_3 + 1) ⟨by omega, by omega⟩ h6 i6 f6 (by first | exact fun j a b => absurd b (by omega) | exact mm_kg8_s w43_0 y59_0 eh6) (by omega) (by first | exact w8_1 | exact mm_so8_h w43_2 (fun j => mm_sm_pa 98 eh6 (by decide) j) (by omega)) (by first | exact w8_2 | exact mm_rw_sm w43_3 (fun j => mm_sm_pa 91 eh6 (by decide) j)) (by omega) (by first | exact w8_4 | exact (by rw [show h6.1 66 53 = h43_.1 66 53 by omega]; exact w43_5)) (by omega)
          refine mm_istore_nL (ls2 := [mR 66, mI p1, mU, mI 0]) C (mm_dec dk_X12_judges 25 rfl) (by decide) rfl ?_
          refine mm_fgt 1 ?_
          exact J43 (((12 - 0) : Int) + 1).toNat 0 ⟨by omega, by omega⟩ h8_ i8_ f8_ (by first | exact fun j a b => absurd b (by omega) | exact mm_kg8_s w43_0 y59_0 eh6) (by omega) (by first | exact w8_1 | exact mm_so8_h w43_2 (fun j => mm_sm_pa 98 eh6 (by decide) j) (by omega)) (by first | exact w8_2 | exact mm_rw_sm w43_3 (fun j => mm_sm_pa 91 eh6 (by decide) j)) (by omega) (by first | exact w8_4 | exact (by rw [show h6.1 66 53 = h43_.1 66 53 by omega]; exact w43_5)) (by omega)
      · skip
        refine mm_aload_n C (mm_dec dk_X12_judges 9 rfl) rfl ?_
        refine mm_getr (t := 100) C fl_X12_111 (mm_dec dk_X12_judges 10 rfl) rfl rfl (mm_ref i8_ rfl) ?_
        refine mm_iload_n C (mm_dec dk_X12_judges 11 rfl) rfl ?_
        refine mm_iconst C (mm_dec dk_X12_judges 12 rfl) ⟨by decide, by decide⟩ ?_
        refine mm_iast C (mm_dec dk_X12_judges 13 rfl) rfl (by omega) (by omega) ?_
        have i7 : mm_inv (mm_pa h8_ 100 x8_3 (-1)) := mm_inv_pa i8_ (show -1 ≤ (-1) ∧ (-1) ≤ 499 from ⟨by omega, by omega⟩)
        have f7 : mm_fr [(66, 39), (66, 48), (66, 52), (66, 53), (66, 54)] [91, 98, 99, 100] h (mm_pa h8_ 100 x8_3 (-1)) := mm_fr_pa f8_ (by decide)
        obtain ⟨h7, eh7⟩ : ∃ z, z = mm_pa h8_ 100 x8_3 (-1) := ⟨_, rfl⟩
        rw [← eh7] at i7 f7 ⊢
        have qh7_102 : h7.1 66 39 = h8_.1 66 39 := by rw [eh7]; rfl
        have qh7_103 : h7.1 66 40 = h8_.1 66 40 := by rw [eh7]; rfl
        have qh7_104 : h7.1 66 48 = h8_.1 66 48 := by rw [eh7]; rfl
        have qh7_105 : h7.1 66 52 = h8_.1 66 52 := by rw [eh7]; rfl
        have qh7_106 : h7.1 66 53 = h8_.1 66 53 := by rw [eh7]; rfl
        have qh7_107 : h7.1 66 54 = h8_.1 66 54 := by rw [eh7]; rfl
        refine mm_iincL (ls2 := [mR 66, mI p1, mU, mI (x8_3 + 1)]) C (mm_dec dk_X12_judges 14 rfl) rfl (by decide) ⟨by omega, by omega⟩ rfl ?_
        refine mm_goto (tgt := 8) C (mm_dec dk_X12_judges 15 rfl) (by decide) ?_
        exact ih8 (x8_3 + 1) ⟨by omega, by omega⟩ h7 i7 f7 (by first | exact mm_al_nil (by omega) | (rw [show x8_3 + 1 - 1 = x8_3 by omega]; exact mm_al_put w8_0 eh7)) (by first | exact y3_0 | exact mm_so8_h w8_1 (fun j => mm_sm_pa 98 eh7 (by decide) j) (by omega)) (by first | exact y3_1 | exact mm_rw_sm w8_2 (fun j => mm_sm_pa 91 eh7 (by decide) j)) (by omega) (by first | exact y3_3 | exact (by rw [show h7.1 66 53 = h8_.1 66 53 by omega]; exact w8_4)) (by omega)
  refine mm_istore_nL (ls2 := [mR 66, mI p1, mI p2, mI 0]) C (mm_dec dk_X12_judges 5 rfl) (by decide) rfl ?_
  refine mm_fgt 2 ?_
  exact J8 (((12 - 0) : Int) + 1).toNat 0 ⟨by omega, by omega⟩ h3c i3c f3c (by first | exact mm_al_nil (by omega) | (rw [show x8_3 + 1 - 1 = x8_3 by omega]; exact mm_al_put w8_0 eh7)) (by first | exact y3_0 | exact mm_so8_h w8_1 (fun j => mm_sm_pa 98 eh7 (by decide) j) (by omega)) (by first | exact y3_1 | exact mm_rw_sm w8_2 (fun j => mm_sm_pa 91 eh7 (by decide) j)) (by omega) (by first | exact y3_3 | exact (by rw [show h7.1 66 53 = h8_.1 66 53 by omega]; exact w8_4)) (by omega)
