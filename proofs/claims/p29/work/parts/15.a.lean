set_option maxRecDepth 100000 in
set_option maxHeartbeats 4000000 in
theorem c_J7_fill_53178_2 (l : Launch) (hl : l.stackTraces = false) (d : Nat) (hd : 0 ≤ d) (h : mH) (i0 : mm_inv h) (p1 : Int) (bp1 : 0 ≤ p1 ∧ p1 ≤ 7) : mm_Met l d yJ7_fill_53178 cJ7_fill_53178 4 none [mR 2, mI p1] h (mm_pv fun h2 => mm_inv h2 ∧ mm_fr [] [2] h h2) mm_nx 0 0 := by
  refine mm_ofW (ls := [mR 2, mI p1, mU, mU]) hl (by decide) rfl (Nat.le_of_ble_eq_true rfl) ?_
  intro x hxl C T hnm htb
  subst hxl
  refine mm_rng (fun hr _ => ?_)
  have ap1 : -2147483648 ≤ p1 ∧ p1 < 2147483648 := mm_ok_at hr (i := 1) rfl
  have f0 : mm_fr [] [2] h h := mm_fr_rf
  refine mm_iconst C (mm_dec dk_J7_fill_53178 0 rfl) ⟨by decide, by decide⟩ ?_
  refine mm_istore_nL (ls2 := [mR 2, mI p1, mI 0, mU]) C (mm_dec dk_J7_fill_53178 1 rfl) (by decide) rfl ?_
  refine mm_aload_n C (mm_dec dk_J7_fill_53178 2 rfl) rfl ?_
  refine mm_alenz (z := 400) C (mm_dec dk_J7_fill_53178 3 rfl) rfl (by decide) (by decide) rfl ?_
  have J5 : ∀ (n : Nat) (x5_2 : Int) (bx5_2 : 0 ≤ x5_2 ∧ x5_2 ≤ 400) (x5_3 : Int) (bx5_3 : 400 ≤ x5_3 ∧ x5_3 ≤ 400) (h5_ : mH) (i5_ : mm_inv h5_) (f5_ : mm_fr [] [2] h h5_), (400 - x5_2 : Int) < n → mm_W x 0 0 5 [mR 2, mI p1, mI x5_2, mI x5_3] [] h5_ := by
    intro n
    induction n with
    | zero =>
      intro x5_2 bx5_2 x5_3 bx5_3 h5_ i5_ f5_ hm
      exfalso; omega
    | succ n ih5 =>
      intro x5_2 bx5_2 x5_3 bx5_3 h5_ i5_ f5_ hm5
      refine mm_iload_n C (mm_dec dk_J7_fill_53178 5 rfl) rfl ?_
      refine mm_iload_n C (mm_dec dk_J7_fill_53178 6 rfl) rfl ?_
      refine mm_icmp_ge (tgt := 20) C (mm_dec dk_J7_fill_53178 7 rfl) (by decide) (fun c7 => ?_) (fun c7 => ?_)
      · skip
        exact mm_vret C T (mm_dec dk_J7_fill_53178 14 rfl) (by decide : 0 ≤ 0) (by decide : 0 ≤ 0) ⟨rfl, ⟨i5_, f5_⟩⟩
      · skip
        refine mm_aload_n C (mm_dec dk_J7_fill_53178 8 rfl) rfl ?_
        refine mm_iload_n C (mm_dec dk_J7_fill_53178 9 rfl) rfl ?_
        refine mm_iload_n C (mm_dec dk_J7_fill_53178 10 rfl) rfl ?_
        refine mm_iast C (mm_dec dk_J7_fill_53178 11 rfl) rfl (by omega) (by omega) ?_
        have i1 : mm_inv (mm_pa h5_ 2 x5_2 p1) := mm_inv_pa i5_ (show 0 ≤ p1 ∧ p1 ≤ 7 from ⟨by omega, by omega⟩)
        have f1 : mm_fr [] [2] h (mm_pa h5_ 2 x5_2 p1) := mm_fr_pa f5_ (by decide)
        obtain ⟨h1, eh1⟩ : ∃ z, z = mm_pa h5_ 2 x5_2 p1 := ⟨_, rfl⟩
        rw [← eh1] at i1 f1 ⊢
        refine mm_iincL (ls2 := [mR 2, mI p1, mI (x5_2 + 1), mI x5_3]) C (mm_dec dk_J7_fill_53178 12 rfl) rfl (by decide) ⟨by omega, by omega⟩ rfl ?_
        refine mm_goto (tgt := 5) C (mm_dec dk_J7_fill_53178 13 rfl) (by decide) ?_
        exact ih5 (x5_2 + 1) ⟨by omega, by omega⟩ x5_3 ⟨by omega, by omega⟩ h1 i1 f1 (by omega)
  refine mm_istore_nL (ls2 := [mR 2, mI p1, mI 0, mI 400]) C (mm_dec dk_J7_fill_53178 4 rfl) (by decide) rfl ?_
  exact J5 (((400 - 0) : Int) + 1).toNat 0 ⟨by omega, by omega⟩ 400 ⟨by omega, by omega⟩ h i0 f0 (by omega)
set_option maxRecDepth 100000 in
set_option maxHeartbeats 4000000 in
theorem c_J7_fill_53178_3 (l : Launch) (hl : l.stackTraces = false) (d : Nat) (hd : 0 ≤ d) (h : mH) (i0 : mm_inv h) (p1 : Int) (bp1 : 0 ≤ p1 ∧ p1 ≤ 99) : mm_Met l d yJ7_fill_53178 cJ7_fill_53178 4 none [mR 3, mI p1] h (mm_pv fun h2 => mm_inv h2 ∧ mm_fr [] [3] h h2) mm_nx 0 0 := by
  refine mm_ofW (ls := [mR 3, mI p1, mU, mU]) hl (by decide) rfl (Nat.le_of_ble_eq_true rfl) ?_
  intro x hxl C T hnm htb
  subst hxl
  refine mm_rng (fun hr _ => ?_)
  have ap1 : -2147483648 ≤ p1 ∧ p1 < 2147483648 := mm_ok_at hr (i := 1) rfl
  have f0 : mm_fr [] [3] h h := mm_fr_rf
  refine mm_iconst C (mm_dec dk_J7_fill_53178 0 rfl) ⟨by decide, by decide⟩ ?_
  refine mm_istore_nL (ls2 := [mR 3, mI p1, mI 0, mU]) C (mm_dec dk_J7_fill_53178 1 rfl) (by decide) rfl ?_
  refine mm_aload_n C (mm_dec dk_J7_fill_53178 2 rfl) rfl ?_
  refine mm_alenz (z := 400) C (mm_dec dk_J7_fill_53178 3 rfl) rfl (by decide) (by decide) rfl ?_
  have J5 : ∀ (n : Nat) (x5_2 : Int) (bx5_2 : 0 ≤ x5_2 ∧ x5_2 ≤ 400) (x5_3 : Int) (bx5_3 : 400 ≤ x5_3 ∧ x5_3 ≤ 400) (h5_ : mH) (i5_ : mm_inv h5_) (f5_ : mm_fr [] [3] h h5_), (400 - x5_2 : Int) < n → mm_W x 0 0 5 [mR 3, mI p1, mI x5_2, mI x5_3] [] h5_ := by
    intro n
    induction n with
    | zero =>
      intro x5_2 bx5_2 x5_3 bx5_3 h5_ i5_ f5_ hm
      exfalso; omega
    | succ n ih5 =>
      intro x5_2 bx5_2 x5_3 bx5_3 h5_ i5_ f5_ hm5
      refine mm_iload_n C (mm_dec dk_J7_fill_53178 5 rfl) rfl ?_
      refine mm_iload_n C (mm_dec dk_J7_fill_53178 6 rfl) rfl ?_
      refine mm_icmp_ge (tgt := 20) C (mm_dec dk_J7_fill_53178 7 rfl) (by decide) (fun c7 => ?_) (fun c7 => ?_)
      · skip
        exact mm_vret C T (mm_dec dk_J7_fill_53178 14 rfl) (by decide : 0 ≤ 0) (by decide : 0 ≤ 0) ⟨rfl, ⟨i5_, f5_⟩⟩
      · skip
        refine mm_aload_n C (mm_dec dk_J7_fill_53178 8 rfl) rfl ?_
        refine mm_iload_n C (mm_dec dk_J7_fill_53178 9 rfl) rfl ?_
        refine mm_iload_n C (mm_dec dk_J7_fill_53178 10 rfl) rfl ?_
        refine mm_iast C (mm_dec dk_J7_fill_53178 11 rfl) rfl (by omega) (by omega) ?_
        have i1 : mm_inv (mm_pa h5_ 3 x5_2 p1) := mm_inv_pa i5_ (show 0 ≤ p1 ∧ p1 ≤ 99 from ⟨by omega, by omega⟩)
        have f1 : mm_fr [] [3] h (mm_pa h5_ 3 x5_2 p1) := mm_fr_pa f5_ (by decide)
        obtain ⟨h1, eh1⟩ : ∃ z, z = mm_pa h5_ 3 x5_2 p1 := ⟨_, rfl⟩
        rw [← eh1] at i1 f1 ⊢
        refine mm_iincL (ls2 := [mR 3, mI p1, mI (x5_2 + 1), mI x5_3]) C (mm_dec dk_J7_fill_53178 12 rfl) rfl (by decide) ⟨by omega, by omega⟩ rfl ?_
        refine mm_goto (tgt := 5) C (mm_dec dk_J7_fill_53178 13 rfl) (by decide) ?_
        exact ih5 (x5_2 + 1) ⟨by omega, by omega⟩ x5_3 ⟨by omega, by omega⟩ h1 i1 f1 (by omega)
  refine mm_istore_nL (ls2 := [mR 3, mI p1, mI 0, mI 400]) C (mm_dec dk_J7_fill_53178 4 rfl) (by decide) rfl ?_
  exact J5 (((400 - 0) : Int) + 1).toNat 0 ⟨by omega, by omega⟩ 400 ⟨by omega, by omega⟩ h i0 f0 (by omega)
set_option maxRecDepth 100000 in
set_option maxHeartbeats 4000000 in
theorem c_J7_fill_53178_6 (l : Launch) (hl : l.stackTraces = false) (d : Nat) (hd : 0 ≤ d) (h : mH) (i0 : mm_inv h) (p1 : Int) (bp1 : 0 ≤ p1 ∧ p1 ≤ 99) : mm_Met l d yJ7_fill_53178 cJ7_fill_53178 4 none [mR 6, mI p1] h (mm_pv fun h2 => mm_inv h2 ∧ mm_fr [] [6] h h2) mm_nx 0 0 := by
  refine mm_ofW (ls := [mR 6, mI p1, mU, mU]) hl (by decide) rfl (Nat.le_of_ble_eq_true rfl) ?_
  intro x hxl C T hnm htb
  subst hxl
  refine mm_rng (fun hr _ => ?_)
  have ap1 : -2147483648 ≤ p1 ∧ p1 < 2147483648 := mm_ok_at hr (i := 1) rfl
  have f0 : mm_fr [] [6] h h := mm_fr_rf
  refine mm_iconst C (mm_dec dk_J7_fill_53178 0 rfl) ⟨by decide, by decide⟩ ?_
  refine mm_istore_nL (ls2 := [mR 6, mI p1, mI 0, mU]) C (mm_dec dk_J7_fill_53178 1 rfl) (by decide) rfl ?_
  refine mm_aload_n C (mm_dec dk_J7_fill_53178 2 rfl) rfl ?_
  refine mm_alenz (z := 9) C (mm_dec dk_J7_fill_53178 3 rfl) rfl (by decide) (by decide) rfl ?_
  have J5 : ∀ (n : Nat) (x5_2 : Int) (bx5_2 : 0 ≤ x5_2 ∧ x5_2 ≤ 9) (x5_3 : Int) (bx5_3 : 9 ≤ x5_3 ∧ x5_3 ≤ 9) (h5_ : mH) (i5_ : mm_inv h5_) (f5_ : mm_fr [] [6] h h5_), (9 - x5_2 : Int) < n → mm_W x 0 0 5 [mR 6, mI p1, mI x5_2, mI x5_3] [] h5_ := by
    intro n
    induction n with
    | zero =>
      intro x5_2 bx5_2 x5_3 bx5_3 h5_ i5_ f5_ hm
      exfalso; omega
    | succ n ih5 =>
      intro x5_2 bx5_2 x5_3 bx5_3 h5_ i5_ f5_ hm5
      refine mm_iload_n C (mm_dec dk_J7_fill_53178 5 rfl) rfl ?_
      refine mm_iload_n C (mm_dec dk_J7_fill_53178 6 rfl) rfl ?_
      refine mm_icmp_ge (tgt := 20) C (mm_dec dk_J7_fill_53178 7 rfl) (by decide) (fun c7 => ?_) (fun c7 => ?_)
      · skip
        exact mm_vret C T (mm_dec dk_J7_fill_53178 14 rfl) (by decide : 0 ≤ 0) (by decide : 0 ≤ 0) ⟨rfl, ⟨i5_, f5_⟩⟩
      · skip
        refine mm_aload_n C (mm_dec dk_J7_fill_53178 8 rfl) rfl ?_
        refine mm_iload_n C (mm_dec dk_J7_fill_53178 9 rfl) rfl ?_
        refine mm_iload_n C (mm_dec dk_J7_fill_53178 10 rfl) rfl ?_
        refine mm_iast C (mm_dec dk_J7_fill_53178 11 rfl) rfl (by omega) (by omega) ?_
        have i1 : mm_inv (mm_pa h5_ 6 x5_2 p1) := mm_inv_pa i5_ (show 0 ≤ p1 ∧ p1 ≤ 99 from ⟨by omega, by omega⟩)
        have f1 : mm_fr [] [6] h (mm_pa h5_ 6 x5_2 p1) := mm_fr_pa f5_ (by decide)
        obtain ⟨h1, eh1⟩ : ∃ z, z = mm_pa h5_ 6 x5_2 p1 := ⟨_, rfl⟩
        rw [← eh1] at i1 f1 ⊢
        refine mm_iincL (ls2 := [mR 6, mI p1, mI (x5_2 + 1), mI x5_3]) C (mm_dec dk_J7_fill_53178 12 rfl) rfl (by decide) ⟨by omega, by omega⟩ rfl ?_
        refine mm_goto (tgt := 5) C (mm_dec dk_J7_fill_53178 13 rfl) (by decide) ?_
        exact ih5 (x5_2 + 1) ⟨by omega, by omega⟩ x5_3 ⟨by omega, by omega⟩ h1 i1 f1 (by omega)
  refine mm_istore_nL (ls2 := [mR 6, mI p1, mI 0, mI 9]) C (mm_dec dk_J7_fill_53178 4 rfl) (by decide) rfl ?_
  exact J5 (((9 - 0) : Int) + 1).toNat 0 ⟨by omega, by omega⟩ 9 ⟨by omega, by omega⟩ h i0 f0 (by omega)
set_option maxRecDepth 100000 in
set_option maxHeartbeats 4000000 in
theorem c_J7_fill_53178_8 (l : Launch) (hl : l.stackTraces = false) (d : Nat) (hd : 0 ≤ d) (h : mH) (i0 : mm_inv h) (p1 : Int) : mm_Met l d yJ7_fill_53178 cJ7_fill_53178 4 none [mR 8, mI p1] h (mm_pv fun h2 => mm_inv h2 ∧ mm_fr [] [8] h h2) mm_nx 0 0 := by
  refine mm_ofW (ls := [mR 8, mI p1, mU, mU]) hl (by decide) rfl (Nat.le_of_ble_eq_true rfl) ?_
  intro x hxl C T hnm htb
  subst hxl
  refine mm_rng (fun hr _ => ?_)
  have ap1 : -2147483648 ≤ p1 ∧ p1 < 2147483648 := mm_ok_at hr (i := 1) rfl
  have f0 : mm_fr [] [8] h h := mm_fr_rf
  refine mm_iconst C (mm_dec dk_J7_fill_53178 0 rfl) ⟨by decide, by decide⟩ ?_
  refine mm_istore_nL (ls2 := [mR 8, mI p1, mI 0, mU]) C (mm_dec dk_J7_fill_53178 1 rfl) (by decide) rfl ?_
  refine mm_aload_n C (mm_dec dk_J7_fill_53178 2 rfl) rfl ?_
  refine mm_alenz (z := 400) C (mm_dec dk_J7_fill_53178 3 rfl) rfl (by decide) (by decide) rfl ?_
  have J5 : ∀ (n : Nat) (x5_2 : Int) (bx5_2 : 0 ≤ x5_2 ∧ x5_2 ≤ 400) (x5_3 : Int) (bx5_3 : 400 ≤ x5_3 ∧ x5_3 ≤ 400) (h5_ : mH) (i5_ : mm_inv h5_) (f5_ : mm_fr [] [8] h h5_), (400 - x5_2 : Int) < n → mm_W x 0 0 5 [mR 8, mI p1, mI x5_2, mI x5_3] [] h5_ := by
    intro n
    induction n with
    | zero =>
      intro x5_2 bx5_2 x5_3 bx5_3 h5_ i5_ f5_ hm
      exfalso; omega
    | succ n ih5 =>
      intro x5_2 bx5_2 x5_3 bx5_3 h5_ i5_ f5_ hm5
      refine mm_iload_n C (mm_dec dk_J7_fill_53178 5 rfl) rfl ?_
      refine mm_iload_n C (mm_dec dk_J7_fill_53178 6 rfl) rfl ?_
      refine mm_icmp_ge (tgt := 20) C (mm_dec dk_J7_fill_53178 7 rfl) (by decide) (fun c7 => ?_) (fun c7 => ?_)
      · skip
        exact mm_vret C T (mm_dec dk_J7_fill_53178 14 rfl) (by decide : 0 ≤ 0) (by decide : 0 ≤ 0) ⟨rfl, ⟨i5_, f5_⟩⟩
      · skip
        refine mm_aload_n C (mm_dec dk_J7_fill_53178 8 rfl) rfl ?_
        refine mm_iload_n C (mm_dec dk_J7_fill_53178 9 rfl) rfl ?_
        refine mm_iload_n C (mm_dec dk_J7_fill_53178 10 rfl) rfl ?_
        refine mm_iast C (mm_dec dk_J7_fill_53178 11 rfl) rfl (by omega) (by omega) ?_
        have i1 : mm_inv (mm_pa h5_ 8 x5_2 p1) := mm_inv_pa i5_ (show -2147483648 ≤ p1 ∧ p1 ≤ 2147483647 from ⟨by omega, by omega⟩)
        have f1 : mm_fr [] [8] h (mm_pa h5_ 8 x5_2 p1) := mm_fr_pa f5_ (by decide)
        obtain ⟨h1, eh1⟩ : ∃ z, z = mm_pa h5_ 8 x5_2 p1 := ⟨_, rfl⟩
        rw [← eh1] at i1 f1 ⊢
        refine mm_iincL (ls2 := [mR 8, mI p1, mI (x5_2 + 1), mI x5_3]) C (mm_dec dk_J7_fill_53178 12 rfl) rfl (by decide) ⟨by omega, by omega⟩ rfl ?_
        refine mm_goto (tgt := 5) C (mm_dec dk_J7_fill_53178 13 rfl) (by decide) ?_
        exact ih5 (x5_2 + 1) ⟨by omega, by omega⟩ x5_3 ⟨by omega, by omega⟩ h1 i1 f1 (by omega)
  refine mm_istore_nL (ls2 := [mR 8, mI p1, mI 0, mI 400]) C (mm_dec dk_J7_fill_53178 4 rfl) (by decide) rfl ?_
  exact J5 (((400 - 0) : Int) + 1).toNat 0 ⟨by omega, by omega⟩ 400 ⟨by omega, by omega⟩ h i0 f0 (by omega)
set_option maxRecDepth 100000 in
set_option maxHeartbeats 4000000 in
theorem c_J7_fill_53178_10 (l : Launch) (hl : l.stackTraces = false) (d : Nat) (hd : 0 ≤ d) (h : mH) (i0 : mm_inv h) (p1 : Int) (bp1 : -1 ≤ p1 ∧ p1 ≤ 399) : mm_Met l d yJ7_fill_53178 cJ7_fill_53178 4 none [mR 10, mI p1] h (mm_pv fun h2 => mm_inv h2 ∧ mm_fr [] [10] h h2) mm_nx 0 0 := by
  refine mm_ofW (ls := [mR 10, mI p1, mU, mU]) hl (by decide) rfl (Nat.le_of_ble_eq_true rfl) ?_
  intro x hxl C T hnm htb
  subst hxl
  refine mm_rng (fun hr _ => ?_)
  have ap1 : -2147483648 ≤ p1 ∧ p1 < 2147483648 := mm_ok_at hr (i := 1) rfl
  have f0 : mm_fr [] [10] h h := mm_fr_rf
  refine mm_iconst C (mm_dec dk_J7_fill_53178 0 rfl) ⟨by decide, by decide⟩ ?_
  refine mm_istore_nL (ls2 := [mR 10, mI p1, mI 0, mU]) C (mm_dec dk_J7_fill_53178 1 rfl) (by decide) rfl ?_
  refine mm_aload_n C (mm_dec dk_J7_fill_53178 2 rfl) rfl ?_
  refine mm_alenz (z := 400) C (mm_dec dk_J7_fill_53178 3 rfl) rfl (by decide) (by decide) rfl ?_
  have J5 : ∀ (n : Nat) (x5_2 : Int) (bx5_2 : 0 ≤ x5_2 ∧ x5_2 ≤ 400) (x5_3 : Int) (bx5_3 : 400 ≤ x5_3 ∧ x5_3 ≤ 400) (h5_ : mH) (i5_ : mm_inv h5_) (f5_ : mm_fr [] [10] h h5_), (400 - x5_2 : Int) < n → mm_W x 0 0 5 [mR 10, mI p1, mI x5_2, mI x5_3] [] h5_ := by
    intro n
    induction n with
    | zero =>
      intro x5_2 bx5_2 x5_3 bx5_3 h5_ i5_ f5_ hm
      exfalso; omega
    | succ n ih5 =>
      intro x5_2 bx5_2 x5_3 bx5_3 h5_ i5_ f5_ hm5
      refine mm_iload_n C (mm_dec dk_J7_fill_53178 5 rfl) rfl ?_
      refine mm_iload_n C (mm_dec dk_J7_fill_53178 6 rfl) rfl ?_
      refine mm_icmp_ge (tgt := 20) C (mm_dec dk_J7_fill_53178 7 rfl) (by decide) (fun c7 => ?_) (fun c7 => ?_)
      · skip
        exact mm_vret C T (mm_dec dk_J7_fill_53178 14 rfl) (by decide : 0 ≤ 0) (by decide : 0 ≤ 0) ⟨rfl, ⟨i5_, f5_⟩⟩
      · skip
        refine mm_aload_n C (mm_dec dk_J7_fill_53178 8 rfl) rfl ?_
        refine mm_iload_n C (mm_dec dk_J7_fill_53178 9 rfl) rfl ?_
        refine mm_iload_n C (mm_dec dk_J7_fill_53178 10 rfl) rfl ?_
        refine mm_iast C (mm_dec dk_J7_fill_53178 11 rfl) rfl (by omega) (by omega) ?_
        have i1 : mm_inv (mm_pa h5_ 10 x5_2 p1) := mm_inv_pa i5_ (show -1 ≤ p1 ∧ p1 ≤ 399 from ⟨by omega, by omega⟩)
        have f1 : mm_fr [] [10] h (mm_pa h5_ 10 x5_2 p1) := mm_fr_pa f5_ (by decide)
        obtain ⟨h1, eh1⟩ : ∃ z, z = mm_pa h5_ 10 x5_2 p1 := ⟨_, rfl⟩
        rw [← eh1] at i1 f1 ⊢
        refine mm_iincL (ls2 := [mR 10, mI p1, mI (x5_2 + 1), mI x5_3]) C (mm_dec dk_J7_fill_53178 12 rfl) rfl (by decide) ⟨by omega, by omega⟩ rfl ?_
        refine mm_goto (tgt := 5) C (mm_dec dk_J7_fill_53178 13 rfl) (by decide) ?_
        exact ih5 (x5_2 + 1) ⟨by omega, by omega⟩ x5_3 ⟨by omega, by omega⟩ h1 i1 f1 (by omega)
  refine mm_istore_nL (ls2 := [mR 10, mI p1, mI 0, mI 400]) C (mm_dec dk_J7_fill_53178 4 rfl) (by decide) rfl ?_
  exact J5 (((400 - 0) : Int) + 1).toNat 0 ⟨by omega, by omega⟩ 400 ⟨by omega, by omega⟩ h i0 f0 (by omega)
set_option maxRecDepth 100000 in
set_option maxHeartbeats 4000000 in
theorem c_J7_fill_53178_52 (l : Launch) (hl : l.stackTraces = false) (d : Nat) (hd : 0 ≤ d) (h : mH) (i0 : mm_inv h) (p1 : Int) (bp1 : -1 ≤ p1 ∧ p1 ≤ 499) : mm_Met l d yJ7_fill_53178 cJ7_fill_53178 4 none [mR 52, mI p1] h (mm_pv fun h2 => mm_inv h2 ∧ mm_fr [] [52] h h2) mm_nx 0 0 := by
  refine mm_ofW (ls := [mR 52, mI p1, mU, mU]) hl (by decide) rfl (Nat.le_of_ble_eq_true rfl) ?_
  intro x hxl C T hnm htb
  subst hxl
  refine mm_rng (fun hr _ => ?_)
  have ap1 : -2147483648 ≤ p1 ∧ p1 < 2147483648 := mm_ok_at hr (i := 1) rfl
  have f0 : mm_fr [] [52] h h := mm_fr_rf
  refine mm_iconst C (mm_dec dk_J7_fill_53178 0 rfl) ⟨by decide, by decide⟩ ?_
  refine mm_istore_nL (ls2 := [mR 52, mI p1, mI 0, mU]) C (mm_dec dk_J7_fill_53178 1 rfl) (by decide) rfl ?_
  refine mm_aload_n C (mm_dec dk_J7_fill_53178 2 rfl) rfl ?_
  refine mm_alenz (z := 12) C (mm_dec dk_J7_fill_53178 3 rfl) rfl (by decide) (by decide) rfl ?_
  have J5 : ∀ (n : Nat) (x5_2 : Int) (bx5_2 : 0 ≤ x5_2 ∧ x5_2 ≤ 12) (x5_3 : Int) (bx5_3 : 12 ≤ x5_3 ∧ x5_3 ≤ 12) (h5_ : mH) (i5_ : mm_inv h5_) (f5_ : mm_fr [] [52] h h5_), (12 - x5_2 : Int) < n → mm_W x 0 0 5 [mR 52, mI p1, mI x5_2, mI x5_3] [] h5_ := by
    intro n
    induction n with
    | zero =>
      intro x5_2 bx5_2 x5_3 bx5_3 h5_ i5_ f5_ hm
      exfalso; omega
    | succ n ih5 =>
      intro x5_2 bx5_2 x5_3 bx5_3 h5_ i5_ f5_ hm5
      refine mm_iload_n C (mm_dec dk_J7_fill_53178 5 rfl) rfl ?_
      refine mm_iload_n C (mm_dec dk_J7_fill_53178 6 rfl) rfl ?_
      refine mm_icmp_ge (tgt := 20) C (mm_dec dk_J7_fill_53178 7 rfl) (by decide) (fun c7 => ?_) (fun c7 => ?_)
      · skip
        exact mm_vret C T (mm_dec dk_J7_fill_53178 14 rfl) (by decide : 0 ≤ 0) (by decide : 0 ≤ 0) ⟨rfl, ⟨i5_, f5_⟩⟩
      · skip
        refine mm_aload_n C (mm_dec dk_J7_fill_53178 8 rfl) rfl ?_
        refine mm_iload_n C (mm_dec dk_J7_fill_53178 9 rfl) rfl ?_
        refine mm_iload_n C (mm_dec dk_J7_fill_53178 10 rfl) rfl ?_
        refine mm_iast C (mm_dec dk_J7_fill_53178 11 rfl) rfl (by omega) (by omega) ?_
        have i1 : mm_inv (mm_pa h5_ 52 x5_2 p1) := mm_inv_pa i5_ (show -1 ≤ p1 ∧ p1 ≤ 499 from ⟨by omega, by omega⟩)
        have f1 : mm_fr [] [52] h (mm_pa h5_ 52 x5_2 p1) := mm_fr_pa f5_ (by decide)
        obtain ⟨h1, eh1⟩ : ∃ z, z = mm_pa h5_ 52 x5_2 p1 := ⟨_, rfl⟩
        rw [← eh1] at i1 f1 ⊢
        refine mm_iincL (ls2 := [mR 52, mI p1, mI (x5_2 + 1), mI x5_3]) C (mm_dec dk_J7_fill_53178 12 rfl) rfl (by decide) ⟨by omega, by omega⟩ rfl ?_
        refine mm_goto (tgt := 5) C (mm_dec dk_J7_fill_53178 13 rfl) (by decide) ?_
        exact ih5 (x5_2 + 1) ⟨by omega, by omega⟩ x5_3 ⟨by omega, by omega⟩ h1 i1 f1 (by omega)
  refine mm_istore_nL (ls2 := [mR 52, mI p1, mI 0, mI 12]) C (mm_dec dk_J7_fill_53178 4 rfl) (by decide) rfl ?_
  exact J5 (((12 - 0) : Int) + 1).toNat 0 ⟨by omega, by omega⟩ 12 ⟨by omega, by omega⟩ h i0 f0 (by omega)
set_option maxRecDepth 100000 in
set_option maxHeartbeats 4000000 in
theorem c_J7_fill_53178_53 (l : Launch) (hl : l.stackTraces = false) (d : Nat) (hd : 0 ≤ d) (h : mH) (i0 : mm_inv h) (p1 : Int) (bp1 : -1 ≤ p1 ∧ p1 ≤ 500) : mm_Met l d yJ7_fill_53178 cJ7_fill_53178 4 none [mR 53, mI p1] h (mm_pv fun h2 => mm_inv h2 ∧ mm_fr [] [53] h h2) mm_nx 0 0 := by
  refine mm_ofW (ls := [mR 53, mI p1, mU, mU]) hl (by decide) rfl (Nat.le_of_ble_eq_true rfl) ?_
  intro x hxl C T hnm htb
  subst hxl
  refine mm_rng (fun hr _ => ?_)
  have ap1 : -2147483648 ≤ p1 ∧ p1 < 2147483648 := mm_ok_at hr (i := 1) rfl
  have f0 : mm_fr [] [53] h h := mm_fr_rf
  refine mm_iconst C (mm_dec dk_J7_fill_53178 0 rfl) ⟨by decide, by decide⟩ ?_
  refine mm_istore_nL (ls2 := [mR 53, mI p1, mI 0, mU]) C (mm_dec dk_J7_fill_53178 1 rfl) (by decide) rfl ?_
  refine mm_aload_n C (mm_dec dk_J7_fill_53178 2 rfl) rfl ?_
  refine mm_alenz (z := 169) C (mm_dec dk_J7_fill_53178 3 rfl) rfl (by decide) (by decide) rfl ?_
  have J5 : ∀ (n : Nat) (x5_2 : Int) (bx5_2 : 0 ≤ x5_2 ∧ x5_2 ≤ 169) (x5_3 : Int) (bx5_3 : 169 ≤ x5_3 ∧ x5_3 ≤ 169) (h5_ : mH) (i5_ : mm_inv h5_) (f5_ : mm_fr [] [53] h h5_), (169 - x5_2 : Int) < n → mm_W x 0 0 5 [mR 53, mI p1, mI x5_2, mI x5_3] [] h5_ := by
    intro n
    induction n with
    | zero =>
      intro x5_2 bx5_2 x5_3 bx5_3 h5_ i5_ f5_ hm
      exfalso; omega
    | succ n ih5 =>
      intro x5_2 bx5_2 x5_3 bx5_3 h5_ i5_ f5_ hm5
      refine mm_iload_n C (mm_dec dk_J7_fill_53178 5 rfl) rfl ?_
      refine mm_iload_n C (mm_dec dk_J7_fill_53178 6 rfl) rfl ?_
      refine mm_icmp_ge (tgt := 20) C (mm_dec dk_J7_fill_53178 7 rfl) (by decide) (fun c7 => ?_) (fun c7 => ?_)
      · skip
        exact mm_vret C T (mm_dec dk_J7_fill_53178 14 rfl) (by decide : 0 ≤ 0) (by decide : 0 ≤ 0) ⟨rfl, ⟨i5_, f5_⟩⟩
      · skip
        refine mm_aload_n C (mm_dec dk_J7_fill_53178 8 rfl) rfl ?_
        refine mm_iload_n C (mm_dec dk_J7_fill_53178 9 rfl) rfl ?_
        refine mm_iload_n C (mm_dec dk_J7_fill_53178 10 rfl) rfl ?_
        refine mm_iast C (mm_dec dk_J7_fill_53178 11 rfl) rfl (by omega) (by omega) ?_
        have i1 : mm_inv (mm_pa h5_ 53 x5_2 p1) := mm_inv_pa i5_ (show -1 ≤ p1 ∧ p1 ≤ 500 from ⟨by omega, by omega⟩)
        have f1 : mm_fr [] [53] h (mm_pa h5_ 53 x5_2 p1) := mm_fr_pa f5_ (by decide)
        obtain ⟨h1, eh1⟩ : ∃ z, z = mm_pa h5_ 53 x5_2 p1 := ⟨_, rfl⟩
        rw [← eh1] at i1 f1 ⊢
        refine mm_iincL (ls2 := [mR 53, mI p1, mI (x5_2 + 1), mI x5_3]) C (mm_dec dk_J7_fill_53178 12 rfl) rfl (by decide) ⟨by omega, by omega⟩ rfl ?_
        refine mm_goto (tgt := 5) C (mm_dec dk_J7_fill_53178 13 rfl) (by decide) ?_
        exact ih5 (x5_2 + 1) ⟨by omega, by omega⟩ x5_3 ⟨by omega, by omega⟩ h1 i1 f1 (by omega)
  refine mm_istore_nL (ls2 := [mR 53, mI p1, mI 0, mI 169]) C (mm_dec dk_J7_fill_53178 4 rfl) (by decide) rfl ?_
  exact J5 (((169 - 0) : Int) + 1).toNat 0 ⟨by omega, by omega⟩ 169 ⟨by omega, by omega⟩ h i0 f0 (by omega)
set_option maxRecDepth 100000 in
set_option maxHeartbeats 4000000 in
theorem c_J7_fill_53178_57 (l : Launch) (hl : l.stackTraces = false) (d : Nat) (hd : 0 ≤ d) (h : mH) (i0 : mm_inv h) (p1 : Int) : mm_Met l d yJ7_fill_53178 cJ7_fill_53178 4 none [mR 57, mI p1] h (mm_pv fun h2 => mm_inv h2 ∧ mm_fr [] [57] h h2) mm_nx 0 0 := by
  refine mm_ofW (ls := [mR 57, mI p1, mU, mU]) hl (by decide) rfl (Nat.le_of_ble_eq_true rfl) ?_
  intro x hxl C T hnm htb
  subst hxl
  refine mm_rng (fun hr _ => ?_)
  have ap1 : -2147483648 ≤ p1 ∧ p1 < 2147483648 := mm_ok_at hr (i := 1) rfl
  have f0 : mm_fr [] [57] h h := mm_fr_rf
  refine mm_iconst C (mm_dec dk_J7_fill_53178 0 rfl) ⟨by decide, by decide⟩ ?_
  refine mm_istore_nL (ls2 := [mR 57, mI p1, mI 0, mU]) C (mm_dec dk_J7_fill_53178 1 rfl) (by decide) rfl ?_
  refine mm_aload_n C (mm_dec dk_J7_fill_53178 2 rfl) rfl ?_
  refine mm_alenz (z := 10) C (mm_dec dk_J7_fill_53178 3 rfl) rfl (by decide) (by decide) rfl ?_
  have J5 : ∀ (n : Nat) (x5_2 : Int) (bx5_2 : 0 ≤ x5_2 ∧ x5_2 ≤ 10) (x5_3 : Int) (bx5_3 : 10 ≤ x5_3 ∧ x5_3 ≤ 10) (h5_ : mH) (i5_ : mm_inv h5_) (f5_ : mm_fr [] [57] h h5_), (10 - x5_2 : Int) < n → mm_W x 0 0 5 [mR 57, mI p1, mI x5_2, mI x5_3] [] h5_ := by
    intro n
    induction n with
    | zero =>
      intro x5_2 bx5_2 x5_3 bx5_3 h5_ i5_ f5_ hm
      exfalso; omega
    | succ n ih5 =>
      intro x5_2 bx5_2 x5_3 bx5_3 h5_ i5_ f5_ hm5
      refine mm_iload_n C (mm_dec dk_J7_fill_53178 5 rfl) rfl ?_
      refine mm_iload_n C (mm_dec dk_J7_fill_53178 6 rfl) rfl ?_
      refine mm_icmp_ge (tgt := 20) C (mm_dec dk_J7_fill_53178 7 rfl) (by decide) (fun c7 => ?_) (fun c7 => ?_)
      · skip
        exact mm_vret C T (mm_dec dk_J7_fill_53178 14 rfl) (by decide : 0 ≤ 0) (by decide : 0 ≤ 0) ⟨rfl, ⟨i5_, f5_⟩⟩
      · skip
        refine mm_aload_n C (mm_dec dk_J7_fill_53178 8 rfl) rfl ?_
        refine mm_iload_n C (mm_dec dk_J7_fill_53178 9 rfl) rfl ?_
        refine mm_iload_n C (mm_dec dk_J7_fill_53178 10 rfl) rfl ?_
        refine mm_iast C (mm_dec dk_J7_fill_53178 11 rfl) rfl (by omega) (by omega) ?_
        have i1 : mm_inv (mm_pa h5_ 57 x5_2 p1) := mm_inv_pa i5_ (show -2147483648 ≤ p1 ∧ p1 ≤ 2147483647 from ⟨by omega, by omega⟩)
        have f1 : mm_fr [] [57] h (mm_pa h5_ 57 x5_2 p1) := mm_fr_pa f5_ (by decide)
        obtain ⟨h1, eh1⟩ : ∃ z, z = mm_pa h5_ 57 x5_2 p1 := ⟨_, rfl⟩
        rw [← eh1] at i1 f1 ⊢
        refine mm_iincL (ls2 := [mR 57, mI p1, mI (x5_2 + 1), mI x5_3]) C (mm_dec dk_J7_fill_53178 12 rfl) rfl (by decide) ⟨by omega, by omega⟩ rfl ?_
        refine mm_goto (tgt := 5) C (mm_dec dk_J7_fill_53178 13 rfl) (by decide) ?_
        exact ih5 (x5_2 + 1) ⟨by omega, by omega⟩ x5_3 ⟨by omega, by omega⟩ h1 i1 f1 (by omega)
  refine mm_istore_nL (ls2 := [mR 57, mI p1, mI 0, mI 10]) C (mm_dec dk_J7_fill_53178 4 rfl) (by decide) rfl ?_
  exact J5 (((10 - 0) : Int) + 1).toNat 0 ⟨by omega, by omega⟩ 10 ⟨by omega, by omega⟩ h i0 f0 (by omega)
set_option maxRecDepth 100000 in
set_option maxHeartbeats 4000000 in
theorem c_X0_forget (l : Launch) (hl : l.stackTraces = false) (d : Nat) (hd : 0 ≤ d) (h : mH) (i0 : mm_inv h) : mm_Met l d yX0_forget cX0_forget 1 none [mR 58] h (mm_pv fun h2 => mm_inv h2 ∧ mm_fr [(58, 10)] [] h h2) mm_nx 0 0 := by
  refine mm_ofW (ls := [mR 58]) hl (by decide) rfl (Nat.le_of_ble_eq_true rfl) ?_
  intro x hxl C T hnm htb
  subst hxl
  have f0 : mm_fr [(58, 10)] [] h h := mm_fr_rf
  refine mm_aload_n C (mm_dec dk_X0_forget 0 rfl) rfl ?_
  refine mm_iconst C (mm_dec dk_X0_forget 1 rfl) ⟨by decide, by decide⟩ ?_
  refine mm_puti C fl_X0_34 (mm_dec dk_X0_forget 2 rfl) rfl rfl rfl (Or.inr ⟨rfl, rfl, by omega⟩) ?_
  have i1 : mm_inv (mm_pf h 58 10 0) := mm_inv_pf i0 (show 0 ≤ 0 ∧ 0 ≤ 1 from ⟨by omega, by omega⟩) (by decide)
  have f1 : mm_fr [(58, 10)] [] h (mm_pf h 58 10 0) := mm_fr_pf f0 (by decide)
  obtain ⟨h1, eh1⟩ : ∃ z, z = mm_pf h 58 10 0 := ⟨_, rfl⟩
  rw [← eh1] at i1 f1 ⊢
  have qh1 : h1.1 58 10 = 0 := by rw [eh1]; exact mm_pf_same _ _ _ _
  exact mm_vret C T (mm_dec dk_X0_forget 3 rfl) (by decide : 0 ≤ 0) (by decide : 0 ≤ 0) ⟨rfl, ⟨i1, f1⟩⟩
set_option maxRecDepth 100000 in
set_option maxHeartbeats 4000000 in
theorem c_X0_isKept (l : Launch) (hl : l.stackTraces = false) (d : Nat) (hd : 0 ≤ d) (h : mH) (i0 : mm_inv h) : mm_Met l d yX0_isKept cX0_isKept 1 (some .boolean) [mR 58] h (mm_pi fun r h2 => h2 = h ∧ (r = (h.1 58 10))) mm_nx 0 0 := by
  refine mm_ofW (ls := [mR 58]) hl (by decide) rfl (Nat.le_of_ble_eq_true rfl) ?_
  intro x hxl C T hnm htb
  subst hxl
  have f0 : mm_fr [] [] h h := mm_fr_rf
  refine mm_aload_n C (mm_dec dk_X0_isKept 0 rfl) rfl ?_
  refine mm_geti C fl_X0_34 (mm_dec dk_X0_isKept 1 rfl) rfl rfl (Or.inr rfl) ?_
  have g1 : 0 ≤ (h.1 58 10) ∧ (h.1 58 10) ≤ 1 := i0.1 58 10
  exact mm_zret C T (mm_dec dk_X0_isKept 2 rfl) (by decide : 0 ≤ 0) (by decide : 0 ≤ 0) (by omega) ⟨_, rfl, ⟨rfl, rfl⟩⟩
set_option maxRecDepth 100000 in
set_option maxHeartbeats 4000000 in
theorem c_X0_keptSet (l : Launch) (hl : l.stackTraces = false) (d : Nat) (hd : 0 ≤ d) (h : mH) (i0 : mm_inv h) : mm_Met l d yX0_keptSet cX0_keptSet 1 (some .int) [mR 58] h (mm_pi fun r h2 => h2 = h ∧ (r = (h.1 58 9))) mm_nx 0 0 := by
  refine mm_ofW (ls := [mR 58]) hl (by decide) rfl (Nat.le_of_ble_eq_true rfl) ?_
  intro x hxl C T hnm htb
  subst hxl
  have f0 : mm_fr [] [] h h := mm_fr_rf
  refine mm_aload_n C (mm_dec dk_X0_keptSet 0 rfl) rfl ?_
  refine mm_geti C fl_X0_31 (mm_dec dk_X0_keptSet 1 rfl) rfl rfl (Or.inl rfl) ?_
  have g1 : -2147483648 ≤ (h.1 58 9) ∧ (h.1 58 9) ≤ 2147483647 := i0.1 58 9
  exact mm_iret C T (mm_dec dk_X0_keptSet 2 rfl) (by decide : 0 ≤ 0) (by decide : 0 ≤ 0) ⟨_, rfl, ⟨rfl, rfl⟩⟩
set_option maxRecDepth 100000 in
set_option maxHeartbeats 4000000 in
theorem c_X0_keptSeconds (l : Launch) (hl : l.stackTraces = false) (d : Nat) (hd : 0 ≤ d) (h : mH) (i0 : mm_inv h) : mm_Met l d yX0_keptSeconds cX0_keptSeconds 1 (some .int) [mR 58] h (mm_pi fun r h2 => h2 = h ∧ (r = (h.1 58 8))) mm_nx 0 0 := by
  refine mm_ofW (ls := [mR 58]) hl (by decide) rfl (Nat.le_of_ble_eq_true rfl) ?_
  intro x hxl C T hnm htb
  subst hxl
  have f0 : mm_fr [] [] h h := mm_fr_rf
  refine mm_aload_n C (mm_dec dk_X0_keptSeconds 0 rfl) rfl ?_
  refine mm_geti C fl_X0_28 (mm_dec dk_X0_keptSeconds 1 rfl) rfl rfl (Or.inl rfl) ?_
  have g1 : -2147483648 ≤ (h.1 58 8) ∧ (h.1 58 8) ≤ 2147483647 := i0.1 58 8
  exact mm_iret C T (mm_dec dk_X0_keptSeconds 2 rfl) (by decide : 0 ≤ 0) (by decide : 0 ≤ 0) ⟨_, rfl, ⟨rfl, rfl⟩⟩
set_option maxRecDepth 100000 in
set_option maxHeartbeats 4000000 in
theorem c_X1_rowSize (l : Launch) (hl : l.stackTraces = false) (d : Nat) (hd : 0 ≤ d) (h : mH) (i0 : mm_inv h) : mm_Met l d yX1_rowSize cX1_rowSize 1 (some .int) [mR 48] h (mm_pi fun r h2 => h2 = h ∧ (r = (h.1 48 8))) mm_nx 0 0 := by
  refine mm_ofW (ls := [mR 48]) hl (by decide) rfl (Nat.le_of_ble_eq_true rfl) ?_
  intro x hxl C T hnm htb
  subst hxl
  have f0 : mm_fr [] [] h h := mm_fr_rf
  refine mm_aload_n C (mm_dec dk_X1_rowSize 0 rfl) rfl ?_
  refine mm_geti C fl_X1_27 (mm_dec dk_X1_rowSize 1 rfl) rfl rfl (Or.inl rfl) ?_
  have g1 : 0 ≤ (h.1 48 8) ∧ (h.1 48 8) ≤ 12 := i0.1 48 8
  exact mm_iret C T (mm_dec dk_X1_rowSize 2 rfl) (by decide : 0 ≤ 0) (by decide : 0 ≤ 0) ⟨_, rfl, ⟨rfl, rfl⟩⟩
set_option maxRecDepth 100000 in
set_option maxHeartbeats 4000000 in
theorem c_X1_isKept (l : Launch) (hl : l.stackTraces = false) (d : Nat) (hd : 0 ≤ d) (h : mH) (i0 : mm_inv h) (p1 : Int) (bp1 : 0 ≤ p1 ∧ p1 ≤ 11) : mm_Met l d yX1_isKept cX1_isKept 2 (some .boolean) [mR 48, mI p1] h (mm_pi fun r h2 => h2 = h ∧ (((h.2.1 52 p1) = (-1) ∧ r = 0) ∨ ((h.2.1 52 p1) ≠ (-1) ∧ r = 1))) mm_nx 0 0 := by
  refine mm_ofW (ls := [mR 48, mI p1]) hl (by decide) rfl (Nat.le_of_ble_eq_true rfl) ?_
  intro x hxl C T hnm htb
  subst hxl
  refine mm_rng (fun hr _ => ?_)
  have ap1 : -2147483648 ≤ p1 ∧ p1 < 2147483648 := mm_ok_at hr (i := 1) rfl
  have f0 : mm_fr [] [] h h := mm_fr_rf
  refine mm_aload_n C (mm_dec dk_X1_isKept 0 rfl) rfl ?_
  refine mm_getr (t := 52) C fl_X1_21 (mm_dec dk_X1_isKept 1 rfl) rfl rfl (mm_ref i0 rfl) ?_
  refine mm_iload_n C (mm_dec dk_X1_isKept 2 rfl) rfl ?_
  refine mm_iald C (mm_dec dk_X1_isKept 3 rfl) rfl (by omega) (by omega) ?_
  have g1 : -1 ≤ (h.2.1 52 p1) ∧ (h.2.1 52 p1) ≤ 499 := i0.2.1 52 p1
  refine mm_iconst C (mm_dec dk_X1_isKept 4 rfl) ⟨by decide, by decide⟩ ?_
  refine mm_icmp_eq (tgt := 14) C (mm_dec dk_X1_isKept 5 rfl) (by decide) (fun c7 => ?_) (fun c7 => ?_)
  · skip
    refine mm_iconst C (mm_dec dk_X1_isKept 8 rfl) ⟨by decide, by decide⟩ ?_
    exact mm_zret C T (mm_dec dk_X1_isKept 9 rfl) (by decide : 0 ≤ 0) (by decide : 0 ≤ 0) (by omega) ⟨_, rfl, ⟨rfl, Or.inl ⟨by omega, rfl⟩⟩⟩
  · skip
    refine mm_iconst C (mm_dec dk_X1_isKept 6 rfl) ⟨by decide, by decide⟩ ?_
    refine mm_goto (tgt := 15) C (mm_dec dk_X1_isKept 7 rfl) (by decide) ?_
    exact mm_zret C T (mm_dec dk_X1_isKept 9 rfl) (by decide : 0 ≤ 0) (by decide : 0 ≤ 0) (by omega) ⟨_, rfl, ⟨rfl, Or.inr (⟨by omega, rfl⟩)⟩⟩
set_option maxRecDepth 100000 in
set_option maxHeartbeats 4000000 in
theorem c_X1_timeOf (l : Launch) (hl : l.stackTraces = false) (d : Nat) (hd : 0 ≤ d) (h : mH) (i0 : mm_inv h) (p1 : Int) (bp1 : 0 ≤ p1 ∧ p1 ≤ 11) : mm_Met l d yX1_timeOf cX1_timeOf 2 (some .int) [mR 48, mI p1] h (mm_pi fun r h2 => h2 = h ∧ (((h.2.1 52 p1) ≠ (-1) ∧ r = (h.2.1 51 (h.2.1 52 p1))) ∨ ((h.2.1 52 p1) = (-1) ∧ r = (-1)))) mm_nx 0 0 := by
  refine mm_ofW (ls := [mR 48, mI p1]) hl (by decide) rfl (Nat.le_of_ble_eq_true rfl) ?_
  intro x hxl C T hnm htb
  subst hxl
  refine mm_rng (fun hr _ => ?_)
  have ap1 : -2147483648 ≤ p1 ∧ p1 < 2147483648 := mm_ok_at hr (i := 1) rfl
  have f0 : mm_fr [] [] h h := mm_fr_rf
  refine mm_aload_n C (mm_dec dk_X1_timeOf 0 rfl) rfl ?_
  refine mm_getr (t := 52) C fl_X1_21 (mm_dec dk_X1_timeOf 1 rfl) rfl rfl (mm_ref i0 rfl) ?_
  refine mm_iload_n C (mm_dec dk_X1_timeOf 2 rfl) rfl ?_
  refine mm_iald C (mm_dec dk_X1_timeOf 3 rfl) rfl (by omega) (by omega) ?_
  have g1 : -1 ≤ (h.2.1 52 p1) ∧ (h.2.1 52 p1) ≤ 499 := i0.2.1 52 p1
  refine mm_iconst C (mm_dec dk_X1_timeOf 4 rfl) ⟨by decide, by decide⟩ ?_
  refine mm_icmp_ne (tgt := 14) C (mm_dec dk_X1_timeOf 5 rfl) (by decide) (fun c7 => ?_) (fun c7 => ?_)
  · skip
    refine mm_aload_n C (mm_dec dk_X1_timeOf 8 rfl) rfl ?_
    refine mm_getr (t := 51) C fl_X1_18 (mm_dec dk_X1_timeOf 9 rfl) rfl rfl (mm_ref i0 rfl) ?_
    refine mm_aload_n C (mm_dec dk_X1_timeOf 10 rfl) rfl ?_
    refine mm_getr (t := 52) C fl_X1_21 (mm_dec dk_X1_timeOf 11 rfl) rfl rfl (mm_ref i0 rfl) ?_
    refine mm_iload_n C (mm_dec dk_X1_timeOf 12 rfl) rfl ?_
    refine mm_iald C (mm_dec dk_X1_timeOf 13 rfl) rfl (by omega) (by omega) ?_
    refine mm_iald C (mm_dec dk_X1_timeOf 14 rfl) rfl (by omega) (by omega) ?_
    have g2 : -2147483648 ≤ (h.2.1 51 (h.2.1 52 p1)) ∧ (h.2.1 51 (h.2.1 52 p1)) ≤ 2147483647 := i0.2.1 51 (h.2.1 52 p1)
    exact mm_iret C T (mm_dec dk_X1_timeOf 15 rfl) (by decide : 0 ≤ 0) (by decide : 0 ≤ 0) ⟨_, rfl, ⟨rfl, Or.inl ⟨by omega, rfl⟩⟩⟩
  · skip
    refine mm_iconst C (mm_dec dk_X1_timeOf 6 rfl) ⟨by decide, by decide⟩ ?_
    refine mm_goto (tgt := 25) C (mm_dec dk_X1_timeOf 7 rfl) (by decide) ?_
    exact mm_iret C T (mm_dec dk_X1_timeOf 15 rfl) (by decide : 0 ≤ 0) (by decide : 0 ≤ 0) ⟨_, rfl, ⟨rfl, Or.inr (⟨by omega, rfl⟩)⟩⟩
set_option maxRecDepth 100000 in
set_option maxHeartbeats 4000000 in
theorem c_X1_unkept (l : Launch) (hl : l.stackTraces = false) (d : Nat) (hd : 0 ≤ d) (h : mH) (i0 : mm_inv h) : mm_Met l d yX1_unkept cX1_unkept 3 (some .int) [mR 48] h (mm_pi fun r h2 => (-2147483648 ≤ r ∧ r ≤ 2147483647) ∧ h2 = h) mm_nx 0 0 := by
  refine mm_ofW (ls := [mR 48, mU, mU]) hl (by decide) rfl (Nat.le_of_ble_eq_true rfl) ?_
  intro x hxl C T hnm htb
  subst hxl
  have f0 : mm_fr [] [] h h := mm_fr_rf
  refine mm_iconst C (mm_dec dk_X1_unkept 0 rfl) ⟨by decide, by decide⟩ ?_
  refine mm_istore_nL (ls2 := [mR 48, mI 0, mU]) C (mm_dec dk_X1_unkept 1 rfl) (by decide) rfl ?_
  refine mm_iconst C (mm_dec dk_X1_unkept 2 rfl) ⟨by decide, by decide⟩ ?_
  have J4 : ∀ (n : Nat) (x4_1 : Int) (bx4_1 : -2147483648 ≤ x4_1 ∧ x4_1 ≤ 2147483647) (x4_2 : Int) (bx4_2 : 0 ≤ x4_2 ∧ x4_2 ≤ 12), (12 - x4_2 : Int) < n → mm_W x 0 0 4 [mR 48, mI x4_1, mI x4_2] [] h := by
    intro n
    induction n with
    | zero =>
      intro x4_1 bx4_1 x4_2 bx4_2 hm
      exfalso; omega
    | succ n ih4 =>
      intro x4_1 bx4_1 x4_2 bx4_2 hm4
      refine mm_iload_n C (mm_dec dk_X1_unkept 4 rfl) rfl ?_
      refine mm_aload_n C (mm_dec dk_X1_unkept 5 rfl) rfl ?_
      refine mm_geti C fl_X1_27 (mm_dec dk_X1_unkept 6 rfl) rfl rfl (Or.inl rfl) ?_
      have g1 : 0 ≤ (h.1 48 8) ∧ (h.1 48 8) ≤ 12 := i0.1 48 8
      refine mm_icmp_ge (tgt := 31) C (mm_dec dk_X1_unkept 7 rfl) (by decide) (fun c9 => ?_) (fun c9 => ?_)
      · skip
        refine mm_iload_n C (mm_dec dk_X1_unkept 17 rfl) rfl ?_
        exact mm_iret C T (mm_dec dk_X1_unkept 18 rfl) (by decide : 0 ≤ 0) (by decide : 0 ≤ 0) ⟨_, rfl, ⟨⟨by omega, by omega⟩, rfl⟩⟩
      · skip
        refine mm_aload_n C (mm_dec dk_X1_unkept 8 rfl) rfl ?_
        refine mm_getr (t := 52) C fl_X1_21 (mm_dec dk_X1_unkept 9 rfl) rfl rfl (mm_ref i0 rfl) ?_
        refine mm_iload_n C (mm_dec dk_X1_unkept 10 rfl) rfl ?_
        refine mm_iald C (mm_dec dk_X1_unkept 11 rfl) rfl (by omega) (by omega) ?_
        have g2 : -1 ≤ (h.2.1 52 x4_2) ∧ (h.2.1 52 x4_2) ≤ 499 := i0.2.1 52 x4_2
        refine mm_iconst C (mm_dec dk_X1_unkept 12 rfl) ⟨by decide, by decide⟩ ?_
        have J25 : ∀ (x25_1 : Int) (bx25_1 : -2147483648 ≤ x25_1 ∧ x25_1 ≤ 2147483647), mm_W x 0 0 25 [mR 48, mI x25_1, mI x4_2] [] h := by
          intro x25_1 bx25_1
          refine mm_iincL (ls2 := [mR 48, mI x25_1, mI (x4_2 + 1)]) C (mm_dec dk_X1_unkept 15 rfl) rfl (by decide) ⟨by omega, by omega⟩ rfl ?_
          refine mm_goto (tgt := 4) C (mm_dec dk_X1_unkept 16 rfl) (by decide) ?_
          exact ih4 x25_1 ⟨by omega, by omega⟩ (x4_2 + 1) ⟨by omega, by omega⟩ (by omega)
        refine mm_icmp_ne (tgt := 25) C (mm_dec dk_X1_unkept 13 rfl) (by decide) (fun c19 => ?_) (fun c19 => ?_)
        · skip
          exact J25 x4_1 ⟨by omega, by omega⟩
        · skip
          refine mm_iincwL (ls2 := [mR 48, mI (mm_w (x4_1 + 1)), mI x4_2]) C (mm_dec dk_X1_unkept 14 rfl) rfl (by decide) rfl ?_
          have g3 : -2147483648 ≤ (mm_w (x4_1 + 1)) ∧ (mm_w (x4_1 + 1)) < 2147483648 := mm_w_rg _
          exact J25 (mm_w (x4_1 + 1)) ⟨by omega, by omega⟩
  refine mm_istore_nL (ls2 := [mR 48, mI 0, mI 0]) C (mm_dec dk_X1_unkept 3 rfl) (by decide) rfl ?_
  exact J4 (((12 - 0) : Int) + 1).toNat 0 ⟨by omega, by omega⟩ 0 ⟨by omega, by omega⟩ (by omega)
set_option maxRecDepth 100000 in
set_option maxHeartbeats 4000000 in
theorem c_X1_isInRow (l : Launch) (hl : l.stackTraces = false) (d : Nat) (hd : 0 ≤ d) (h : mH) (i0 : mm_inv h) (p1 : Int) : mm_Met l d yX1_isInRow cX1_isInRow 3 (some .boolean) [mR 48, mI p1] h (mm_pi fun r h2 => (0 ≤ r ∧ r ≤ 1) ∧ h2 = h) mm_nx 0 0 := by
  refine mm_ofW (ls := [mR 48, mI p1, mU]) hl (by decide) rfl (Nat.le_of_ble_eq_true rfl) ?_
  intro x hxl C T hnm htb
  subst hxl
  refine mm_rng (fun hr _ => ?_)
  have ap1 : -2147483648 ≤ p1 ∧ p1 < 2147483648 := mm_ok_at hr (i := 1) rfl
  have f0 : mm_fr [] [] h h := mm_fr_rf
  refine mm_iconst C (mm_dec dk_X1_isInRow 0 rfl) ⟨by decide, by decide⟩ ?_
  have J2 : ∀ (n : Nat) (x2_2 : Int) (bx2_2 : 0 ≤ x2_2 ∧ x2_2 ≤ 12), (12 - x2_2 : Int) < n → mm_W x 0 0 2 [mR 48, mI p1, mI x2_2] [] h := by
    intro n
    induction n with
    | zero =>
      intro x2_2 bx2_2 hm
      exfalso; omega
    | succ n ih2 =>
      intro x2_2 bx2_2 hm2
      refine mm_iload_n C (mm_dec dk_X1_isInRow 2 rfl) rfl ?_
      refine mm_aload_n C (mm_dec dk_X1_isInRow 3 rfl) rfl ?_
      refine mm_geti C fl_X1_27 (mm_dec dk_X1_isInRow 4 rfl) rfl rfl (Or.inl rfl) ?_
      have g1 : 0 ≤ (h.1 48 8) ∧ (h.1 48 8) ≤ 12 := i0.1 48 8
      refine mm_icmp_ge (tgt := 28) C (mm_dec dk_X1_isInRow 5 rfl) (by decide) (fun c7 => ?_) (fun c7 => ?_)
      · skip
        refine mm_iconst C (mm_dec dk_X1_isInRow 16 rfl) ⟨by decide, by decide⟩ ?_
        exact mm_zret C T (mm_dec dk_X1_isInRow 17 rfl) (by decide : 0 ≤ 0) (by decide : 0 ≤ 0) (by omega) ⟨_, rfl, ⟨⟨by omega, by omega⟩, rfl⟩⟩
      · skip
        refine mm_aload_n C (mm_dec dk_X1_isInRow 6 rfl) rfl ?_
        refine mm_getr (t := 49) C fl_X1_9 (mm_dec dk_X1_isInRow 7 rfl) rfl rfl (mm_ref i0 rfl) ?_
        refine mm_iload_n C (mm_dec dk_X1_isInRow 8 rfl) rfl ?_
        refine mm_iald C (mm_dec dk_X1_isInRow 9 rfl) rfl (by omega) (by omega) ?_
        have g2 : 0 ≤ (h.2.1 49 x2_2) ∧ (h.2.1 49 x2_2) ≤ 19 := i0.2.1 49 x2_2
        refine mm_iload_n C (mm_dec dk_X1_isInRow 10 rfl) rfl ?_
        refine mm_icmp_ne (tgt := 22) C (mm_dec dk_X1_isInRow 11 rfl) (by decide) (fun c17 => ?_) (fun c17 => ?_)
        · skip
          refine mm_iincL (ls2 := [mR 48, mI p1, mI (x2_2 + 1)]) C (mm_dec dk_X1_isInRow 14 rfl) rfl (by decide) ⟨by omega, by omega⟩ rfl ?_
          refine mm_goto (tgt := 2) C (mm_dec dk_X1_isInRow 15 rfl) (by decide) ?_
          exact ih2 (x2_2 + 1) ⟨by omega, by omega⟩ (by omega)
        · skip
          refine mm_iconst C (mm_dec dk_X1_isInRow 12 rfl) ⟨by decide, by decide⟩ ?_
          exact mm_zret C T (mm_dec dk_X1_isInRow 13 rfl) (by decide : 0 ≤ 0) (by decide : 0 ≤ 0) (by omega) ⟨_, rfl, ⟨⟨by omega, by omega⟩, rfl⟩⟩
  refine mm_istore_nL (ls2 := [mR 48, mI p1, mI 0]) C (mm_dec dk_X1_isInRow 1 rfl) (by decide) rfl ?_
  exact J2 (((12 - 0) : Int) + 1).toNat 0 ⟨by omega, by omega⟩ (by omega)
set_option maxRecDepth 100000 in
set_option maxHeartbeats 4000000 in
theorem c_X1_insert (l : Launch) (hl : l.stackTraces = false) (d : Nat) (hd : 0 ≤ d) (h : mH) (i0 : mm_inv h) (p1 : Int) (p2 : Int) (u0 : (h.1 48 9) ≤ 499) : mm_Met l d yX1_insert cX1_insert 4 none [mR 48, mI p1, mI p2] h (mm_pv fun h2 => mm_inv h2 ∧ mm_fr [(48, 9)] [50, 51] h h2 ∧ h2.1 48 9 = h.1 48 9 + 1) mm_nx 0 0 := by
  refine mm_ofW (ls := [mR 48, mI p1, mI p2, mU]) hl (by decide) rfl (Nat.le_of_ble_eq_true rfl) ?_
  intro x hxl C T hnm htb
  subst hxl
  refine mm_rng (fun hr _ => ?_)
  have ap1 : -2147483648 ≤ p1 ∧ p1 < 2147483648 := mm_ok_at hr (i := 1) rfl
  have ap2 : -2147483648 ≤ p2 ∧ p2 < 2147483648 := mm_ok_at hr (i := 2) rfl
  have f0 : mm_fr [(48, 9)] [50, 51] h h := mm_fr_rf
  have g1 : 0 ≤ h.1 48 9 ∧ h.1 48 9 ≤ 500 := i0.1 48 9
  refine mm_aload_n C (mm_dec dk_X1_insert 0 rfl) rfl ?_
  refine mm_geti C fl_X1_31 (mm_dec dk_X1_insert 1 rfl) rfl rfl (Or.inl rfl) ?_
  have J5 : ∀ (n : Nat) (x5_3 : Int) (bx5_3 : 0 ≤ x5_3 ∧ x5_3 ≤ 499) (h5_ : mH) (i5_ : mm_inv h5_) (f5_ : mm_fr [(48, 9)] [50, 51] h h5_) (w5_0 : h5_.1 48 9 = h.1 48 9), (x5_3 - (0) : Int) < n → mm_W x 0 0 5 [mR 48, mI p1, mI p2, mI x5_3] [] h5_ := by
    intro n
    induction n with
    | zero =>
      intro x5_3 bx5_3 h5_ i5_ f5_ w5_0 hm
      have g2 : 0 ≤ h5_.1 48 9 ∧ h5_.1 48 9 ≤ 500 := i5_.1 48 9
      exfalso; omega
    | succ n ih5 =>
      intro x5_3 bx5_3 h5_ i5_ f5_ w5_0 hm5
      have g3 : 0 ≤ h5_.1 48 9 ∧ h5_.1 48 9 ≤ 500 := i5_.1 48 9
      refine mm_iload_n C (mm_dec dk_X1_insert 3 rfl) rfl ?_
      have J55 : mm_W x 0 0 55 [mR 48, mI p1, mI p2, mI x5_3] [] h5_ := by
        have g4 : 0 ≤ h5_.1 48 9 ∧ h5_.1 48 9 ≤ 500 := i5_.1 48 9
        refine mm_aload_n C (mm_dec dk_X1_insert 35 rfl) rfl ?_
        refine mm_getr (t := 50) C fl_X1_15 (mm_dec dk_X1_insert 36 rfl) rfl rfl (mm_ref i5_ rfl) ?_
        refine mm_iload_n C (mm_dec dk_X1_insert 37 rfl) rfl ?_
        refine mm_iload_n C (mm_dec dk_X1_insert 38 rfl) rfl ?_
        refine mm_iast C (mm_dec dk_X1_insert 39 rfl) rfl (by omega) (by omega) ?_
        have i1 : mm_inv (mm_pa h5_ 50 x5_3 p1) := mm_inv_pa i5_ (show -2147483648 ≤ p1 ∧ p1 ≤ 2147483647 from ⟨by omega, by omega⟩)
        have f1 : mm_fr [(48, 9)] [50, 51] h (mm_pa h5_ 50 x5_3 p1) := mm_fr_pa f5_ (by decide)
        obtain ⟨h1, eh1⟩ : ∃ z, z = mm_pa h5_ 50 x5_3 p1 := ⟨_, rfl⟩
        rw [← eh1] at i1 f1 ⊢
        have qh1_5 : h1.1 48 9 = h5_.1 48 9 := by rw [eh1]; rfl
        refine mm_aload_n C (mm_dec dk_X1_insert 40 rfl) rfl ?_
        refine mm_getr (t := 51) C fl_X1_18 (mm_dec dk_X1_insert 41 rfl) rfl rfl (mm_ref i1 rfl) ?_
        refine mm_iload_n C (mm_dec dk_X1_insert 42 rfl) rfl ?_
        refine mm_iload_n C (mm_dec dk_X1_insert 43 rfl) rfl ?_
        refine mm_iast C (mm_dec dk_X1_insert 44 rfl) rfl (by omega) (by omega) ?_
        have i2 : mm_inv (mm_pa h1 51 x5_3 p2) := mm_inv_pa i1 (show -2147483648 ≤ p2 ∧ p2 ≤ 2147483647 from ⟨by omega, by omega⟩)
        have f2 : mm_fr [(48, 9)] [50, 51] h (mm_pa h1 51 x5_3 p2) := mm_fr_pa f1 (by decide)
        obtain ⟨h2, eh2⟩ : ∃ z, z = mm_pa h1 51 x5_3 p2 := ⟨_, rfl⟩
        rw [← eh2] at i2 f2 ⊢
        have qh2_6 : h2.1 48 9 = h1.1 48 9 := by rw [eh2]; rfl
        refine mm_aload_n C (mm_dec dk_X1_insert 45 rfl) rfl ?_
        refine mm_dup C (mm_dec dk_X1_insert 46 rfl) (show (2 : Nat) ≠ 1 by decide) ?_
        refine mm_geti C fl_X1_31 (mm_dec dk_X1_insert 47 rfl) rfl rfl (Or.inl rfl) ?_
        refine mm_iconst C (mm_dec dk_X1_insert 48 rfl) ⟨by decide, by decide⟩ ?_
        refine mm_iadd C (mm_dec dk_X1_insert 49 rfl) ⟨by omega, by omega⟩ ?_
        refine mm_puti C fl_X1_31 (mm_dec dk_X1_insert 50 rfl) rfl rfl rfl (Or.inl ⟨rfl, rfl⟩) ?_
        have i3 : mm_inv (mm_pf h2 48 9 ((h2.1 48 9) + 1)) := mm_inv_pf i2 (show 0 ≤ ((h2.1 48 9) + 1) ∧ ((h2.1 48 9) + 1) ≤ 500 from ⟨by omega, by omega⟩) (by decide)
        have f3 : mm_fr [(48, 9)] [50, 51] h (mm_pf h2 48 9 ((h2.1 48 9) + 1)) := mm_fr_pf f2 (by decide)
        obtain ⟨h3, eh3⟩ : ∃ z, z = mm_pf h2 48 9 ((h2.1 48 9) + 1) := ⟨_, rfl⟩
        rw [← eh3] at i3 f3 ⊢
        have qh3 : h3.1 48 9 = ((h2.1 48 9) + 1) := by rw [eh3]; exact mm_pf_same _ _ _ _
        exact mm_vret C T (mm_dec dk_X1_insert 51 rfl) (by decide : 0 ≤ 0) (by decide : 0 ≤ 0) ⟨rfl, ⟨i3, f3, by omega⟩⟩
      refine mm_if_le (tgt := 55) C (mm_dec dk_X1_insert 4 rfl) (by decide) (fun c6 => ?_) (fun c6 => ?_)
      · skip
        exact J55
      · skip
        refine mm_aload_n C (mm_dec dk_X1_insert 5 rfl) rfl ?_
        refine mm_getr (t := 51) C fl_X1_18 (mm_dec dk_X1_insert 6 rfl) rfl rfl (mm_ref i5_ rfl) ?_
        refine mm_iload_n C (mm_dec dk_X1_insert 7 rfl) rfl ?_
        refine mm_iconst C (mm_dec dk_X1_insert 8 rfl) ⟨by decide, by decide⟩ ?_
        refine mm_isub C (mm_dec dk_X1_insert 9 rfl) ⟨by omega, by omega⟩ ?_
        refine mm_iald C (mm_dec dk_X1_insert 10 rfl) rfl (by omega) (by omega) ?_
        have g7 : -2147483648 ≤ (h5_.2.1 51 (x5_3 - 1)) ∧ (h5_.2.1 51 (x5_3 - 1)) ≤ 2147483647 := i5_.2.1 51 (x5_3 - 1)
        refine mm_iload_n C (mm_dec dk_X1_insert 11 rfl) rfl ?_
        refine mm_icmp_le (tgt := 55) C (mm_dec dk_X1_insert 12 rfl) (by decide) (fun c18 => ?_) (fun c18 => ?_)
        · skip
          exact J55
        · skip
          refine mm_aload_n C (mm_dec dk_X1_insert 13 rfl) rfl ?_
          refine mm_getr (t := 50) C fl_X1_15 (mm_dec dk_X1_insert 14 rfl) rfl rfl (mm_ref i5_ rfl) ?_
          refine mm_iload_n C (mm_dec dk_X1_insert 15 rfl) rfl ?_
          refine mm_aload_n C (mm_dec dk_X1_insert 16 rfl) rfl ?_
          refine mm_getr (t := 50) C fl_X1_15 (mm_dec dk_X1_insert 17 rfl) rfl rfl (mm_ref i5_ rfl) ?_
          refine mm_iload_n C (mm_dec dk_X1_insert 18 rfl) rfl ?_
          refine mm_iconst C (mm_dec dk_X1_insert 19 rfl) ⟨by decide, by decide⟩ ?_
          refine mm_isub C (mm_dec dk_X1_insert 20 rfl) ⟨by omega, by omega⟩ ?_
          refine mm_iald C (mm_dec dk_X1_insert 21 rfl) rfl (by omega) (by omega) ?_
          have g8 : -2147483648 ≤ (h5_.2.1 50 (x5_3 - 1)) ∧ (h5_.2.1 50 (x5_3 - 1)) ≤ 2147483647 := i5_.2.1 50 (x5_3 - 1)
          refine mm_iast C (mm_dec dk_X1_insert 22 rfl) rfl (by omega) (by omega) ?_
          have i4 : mm_inv (mm_pa h5_ 50 x5_3 (h5_.2.1 50 (x5_3 - 1))) := mm_inv_pa i5_ (show -2147483648 ≤ (h5_.2.1 50 (x5_3 - 1)) ∧ (h5_.2.1 50 (x5_3 - 1)) ≤ 2147483647 from ⟨by omega, by omega⟩)
          have f4 : mm_fr [(48, 9)] [50, 51] h (mm_pa h5_ 50 x5_3 (h5_.2.1 50 (x5_3 - 1))) := mm_fr_pa f5_ (by decide)
          obtain ⟨h4, eh4⟩ : ∃ z, z = mm_pa h5_ 50 x5_3 (h5_.2.1 50 (x5_3 - 1)) := ⟨_, rfl⟩
          rw [← eh4] at i4 f4 ⊢
          have qh4_9 : h4.1 48 9 = h5_.1 48 9 := by rw [eh4]; rfl
          refine mm_aload_n C (mm_dec dk_X1_insert 23 rfl) rfl ?_
          refine mm_getr (t := 51) C fl_X1_18 (mm_dec dk_X1_insert 24 rfl) rfl rfl (mm_ref i4 rfl) ?_
          refine mm_iload_n C (mm_dec dk_X1_insert 25 rfl) rfl ?_
          refine mm_aload_n C (mm_dec dk_X1_insert 26 rfl) rfl ?_
          refine mm_getr (t := 51) C fl_X1_18 (mm_dec dk_X1_insert 27 rfl) rfl rfl (mm_ref i4 rfl) ?_
          refine mm_iload_n C (mm_dec dk_X1_insert 28 rfl) rfl ?_
          refine mm_iconst C (mm_dec dk_X1_insert 29 rfl) ⟨by decide, by decide⟩ ?_
          refine mm_isub C (mm_dec dk_X1_insert 30 rfl) ⟨by omega, by omega⟩ ?_
          refine mm_iald C (mm_dec dk_X1_insert 31 rfl) rfl (by omega) (by omega) ?_
          have g10 : -2147483648 ≤ (h4.2.1 51 (x5_3 - 1)) ∧ (h4.2.1 51 (x5_3 - 1)) ≤ 2147483647 := i4.2.1 51 (x5_3 - 1)
          refine mm_iast C (mm_dec dk_X1_insert 32 rfl) rfl (by omega) (by omega) ?_
          have i5 : mm_inv (mm_pa h4 51 x5_3 (h4.2.1 51 (x5_3 - 1))) := mm_inv_pa i4 (show -2147483648 ≤ (h4.2.1 51 (x5_3 - 1)) ∧ (h4.2.1 51 (x5_3 - 1)) ≤ 2147483647 from ⟨by omega, by omega⟩)
          have f5 : mm_fr [(48, 9)] [50, 51] h (mm_pa h4 51 x5_3 (h4.2.1 51 (x5_3 - 1))) := mm_fr_pa f4 (by decide)
          obtain ⟨h5, eh5⟩ : ∃ z, z = mm_pa h4 51 x5_3 (h4.2.1 51 (x5_3 - 1)) := ⟨_, rfl⟩
          rw [← eh5] at i5 f5 ⊢
          have qh5_11 : h5.1 48 9 = h4.1 48 9 := by rw [eh5]; rfl
          refine mm_iincL (ls2 := [mR 48, mI p1, mI p2, mI (x5_3 + (-1))]) C (mm_dec dk_X1_insert 33 rfl) rfl (by decide) ⟨by omega, by omega⟩ rfl ?_
          refine mm_goto (tgt := 5) C (mm_dec dk_X1_insert 34 rfl) (by decide) ?_
          exact ih5 (x5_3 + (-1)) ⟨by omega, by omega⟩ h5 i5 f5 (by omega) (by omega)
  refine mm_istore_nL (ls2 := [mR 48, mI p1, mI p2, mI (h.1 48 9)]) C (mm_dec dk_X1_insert 2 rfl) (by decide) rfl ?_
  exact J5 ((((h.1 48 9) - (0)) : Int) + 1).toNat (h.1 48 9) ⟨by omega, by omega⟩ h i0 f0 (by omega) (by omega)
set_option maxRecDepth 100000 in
set_option maxHeartbeats 4000000 in
theorem c_X1_firstPunch (l : Launch) (hl : l.stackTraces = false) (d : Nat) (hd : 0 ≤ d) (h : mH) (i0 : mm_inv h) (p1 : Int) (p2 : Int) (bp2 : 0 ≤ p2 ∧ p2 ≤ 500) : mm_Met l d yX1_firstPunch cX1_firstPunch 4 (some .int) [mR 48, mI p1, mI p2] h (mm_pi fun r h2 => (-1 ≤ r ∧ r ≤ 499) ∧ h2 = h) mm_nx 0 0 := by
  refine mm_ofW (ls := [mR 48, mI p1, mI p2, mU]) hl (by decide) rfl (Nat.le_of_ble_eq_true rfl) ?_
  intro x hxl C T hnm htb
  subst hxl
  refine mm_rng (fun hr _ => ?_)
  have ap1 : -2147483648 ≤ p1 ∧ p1 < 2147483648 := mm_ok_at hr (i := 1) rfl
  have ap2 : -2147483648 ≤ p2 ∧ p2 < 2147483648 := mm_ok_at hr (i := 2) rfl
  have f0 : mm_fr [] [] h h := mm_fr_rf
  refine mm_iload_n C (mm_dec dk_X1_firstPunch 0 rfl) rfl ?_
  have J2 : ∀ (n : Nat) (x2_3 : Int) (bx2_3 : 0 ≤ x2_3 ∧ x2_3 ≤ 500), (500 - x2_3 : Int) < n → mm_W x 0 0 2 [mR 48, mI p1, mU, mI x2_3] [] h := by
    intro n
    induction n with
    | zero =>
      intro x2_3 bx2_3 hm
      exfalso; omega
    | succ n ih2 =>
      intro x2_3 bx2_3 hm2
      refine mm_iload_n C (mm_dec dk_X1_firstPunch 2 rfl) rfl ?_
      refine mm_aload_n C (mm_dec dk_X1_firstPunch 3 rfl) rfl ?_
      refine mm_geti C fl_X1_31 (mm_dec dk_X1_firstPunch 4 rfl) rfl rfl (Or.inl rfl) ?_
      have g1 : 0 ≤ (h.1 48 9) ∧ (h.1 48 9) ≤ 500 := i0.1 48 9
      refine mm_icmp_ge (tgt := 28) C (mm_dec dk_X1_firstPunch 5 rfl) (by decide) (fun c7 => ?_) (fun c7 => ?_)
      · skip
        refine mm_iconst C (mm_dec dk_X1_firstPunch 16 rfl) ⟨by decide, by decide⟩ ?_
        exact mm_iret C T (mm_dec dk_X1_firstPunch 17 rfl) (by decide : 0 ≤ 0) (by decide : 0 ≤ 0) ⟨_, rfl, ⟨⟨by omega, by omega⟩, rfl⟩⟩
      · skip
        refine mm_aload_n C (mm_dec dk_X1_firstPunch 6 rfl) rfl ?_
        refine mm_getr (t := 50) C fl_X1_15 (mm_dec dk_X1_firstPunch 7 rfl) rfl rfl (mm_ref i0 rfl) ?_
        refine mm_iload_n C (mm_dec dk_X1_firstPunch 8 rfl) rfl ?_
        refine mm_iald C (mm_dec dk_X1_firstPunch 9 rfl) rfl (by omega) (by omega) ?_
        have g2 : -2147483648 ≤ (h.2.1 50 x2_3) ∧ (h.2.1 50 x2_3) ≤ 2147483647 := i0.2.1 50 x2_3
        refine mm_iload_n C (mm_dec dk_X1_firstPunch 10 rfl) rfl ?_
        refine mm_icmp_ne (tgt := 22) C (mm_dec dk_X1_firstPunch 11 rfl) (by decide) (fun c17 => ?_) (fun c17 => ?_)
        · skip
          refine mm_iincL (ls2 := [mR 48, mI p1, mU, mI (x2_3 + 1)]) C (mm_dec dk_X1_firstPunch 14 rfl) rfl (by decide) ⟨by omega, by omega⟩ rfl ?_
          refine mm_goto (tgt := 2) C (mm_dec dk_X1_firstPunch 15 rfl) (by decide) ?_
          exact ih2 (x2_3 + 1) ⟨by omega, by omega⟩ (by omega)
        · skip
          refine mm_iload_n C (mm_dec dk_X1_firstPunch 12 rfl) rfl ?_
          exact mm_iret C T (mm_dec dk_X1_firstPunch 13 rfl) (by decide : 0 ≤ 0) (by decide : 0 ≤ 0) ⟨_, rfl, ⟨⟨by omega, by omega⟩, rfl⟩⟩
  refine mm_istore_nL (ls2 := [mR 48, mI p1, mI p2, mI p2]) C (mm_dec dk_X1_firstPunch 1 rfl) (by decide) rfl ?_
  refine mm_fgt 2 ?_
  exact J2 (((500 - p2) : Int) + 1).toNat p2 ⟨by omega, by omega⟩ (by omega)
set_option maxRecDepth 100000 in
set_option maxHeartbeats 4000000 in
theorem c_X1_latestWith (l : Launch) (hl : l.stackTraces = false) (d : Nat) (hd : 0 ≤ d) (h : mH) (i0 : mm_inv h) (p1 : Int) (p2 : Int) (bp1 : 0 ≤ p1 ∧ p1 ≤ 11) (bp2 : 1 ≤ p2 ∧ p2 ≤ 12) : mm_Met l d yX1_latestWith cX1_latestWith 6 (some .int) [mR 48, mI p1, mI p2] h (mm_pi fun r h2 => (-1 ≤ r ∧ r ≤ 500) ∧ h2 = h) mm_nx 0 0 := by
  refine mm_ofW (ls := [mR 48, mI p1, mI p2, mU, mU, mU]) hl (by decide) rfl (Nat.le_of_ble_eq_true rfl) ?_
  intro x hxl C T hnm htb
  subst hxl
  refine mm_rng (fun hr _ => ?_)
  have ap1 : -2147483648 ≤ p1 ∧ p1 < 2147483648 := mm_ok_at hr (i := 1) rfl
  have ap2 : -2147483648 ≤ p2 ∧ p2 < 2147483648 := mm_ok_at hr (i := 2) rfl
  have f0 : mm_fr [] [] h h := mm_fr_rf
  refine mm_aload_n C (mm_dec dk_X1_latestWith 0 rfl) rfl ?_
  refine mm_getr (t := 53) C fl_X1_24 (mm_dec dk_X1_latestWith 1 rfl) rfl rfl (mm_ref i0 rfl) ?_
  refine mm_iload_n C (mm_dec dk_X1_latestWith 2 rfl) rfl ?_
  refine mm_iconst C (mm_dec dk_X1_latestWith 3 rfl) ⟨by decide, by decide⟩ ?_
  refine mm_iadd C (mm_dec dk_X1_latestWith 4 rfl) ⟨by omega, by omega⟩ ?_
  refine mm_bipush C (mm_dec dk_X1_latestWith 5 rfl) ⟨by decide, by decide⟩ ?_
  refine mm_imul C (mm_dec dk_X1_latestWith 6 rfl) ⟨by omega, by omega⟩ ?_
  refine mm_iload_n C (mm_dec dk_X1_latestWith 7 rfl) rfl ?_
  refine mm_iadd C (mm_dec dk_X1_latestWith 8 rfl) ⟨by omega, by omega⟩ ?_
  refine mm_iald C (mm_dec dk_X1_latestWith 9 rfl) rfl (by omega) (by omega) ?_
  have g1 : -1 ≤ (h.2.1 53 (((p1 + 1) * 13) + p2)) ∧ (h.2.1 53 (((p1 + 1) * 13) + p2)) ≤ 500 := i0.2.1 53 (((p1 + 1) * 13) + p2)
  refine mm_istore_nL (ls2 := [mR 48, mI p1, mI p2, mI (h.2.1 53 (((p1 + 1) * 13) + p2)), mU, mU]) C (mm_dec dk_X1_latestWith 10 rfl) (by decide) rfl ?_
  refine mm_aload_n C (mm_dec dk_X1_latestWith 11 rfl) rfl ?_
  refine mm_getr (t := 53) C fl_X1_24 (mm_dec dk_X1_latestWith 12 rfl) rfl rfl (mm_ref i0 rfl) ?_
  refine mm_iload_n C (mm_dec dk_X1_latestWith 13 rfl) rfl ?_
  refine mm_iconst C (mm_dec dk_X1_latestWith 14 rfl) ⟨by decide, by decide⟩ ?_
  refine mm_iadd C (mm_dec dk_X1_latestWith 15 rfl) ⟨by omega, by omega⟩ ?_
  refine mm_bipush C (mm_dec dk_X1_latestWith 16 rfl) ⟨by decide, by decide⟩ ?_
  refine mm_imul C (mm_dec dk_X1_latestWith 17 rfl) ⟨by omega, by omega⟩ ?_
  refine mm_iload_n C (mm_dec dk_X1_latestWith 18 rfl) rfl ?_
  refine mm_iadd C (mm_dec dk_X1_latestWith 19 rfl) ⟨by omega, by omega⟩ ?_
  refine mm_iconst C (mm_dec dk_X1_latestWith 20 rfl) ⟨by decide, by decide⟩ ?_
  refine mm_isub C (mm_dec dk_X1_latestWith 21 rfl) ⟨by omega, by omega⟩ ?_
  refine mm_iald C (mm_dec dk_X1_latestWith 22 rfl) rfl (by omega) (by omega) ?_
  have g2 : -1 ≤ (h.2.1 53 ((((p1 + 1) * 13) + p2) - 1)) ∧ (h.2.1 53 ((((p1 + 1) * 13) + p2) - 1)) ≤ 500 := i0.2.1 53 ((((p1 + 1) * 13) + p2) - 1)
  refine mm_istoreL (ls2 := [mR 48, mI p1, mI p2, mI (h.2.1 53 (((p1 + 1) * 13) + p2)), mI (h.2.1 53 ((((p1 + 1) * 13) + p2) - 1)), mU]) C (mm_dec dk_X1_latestWith 23 rfl) (by decide) rfl ?_
  refine mm_iload C (mm_dec dk_X1_latestWith 24 rfl) rfl ?_
  refine mm_iconst C (mm_dec dk_X1_latestWith 25 rfl) ⟨by decide, by decide⟩ ?_
  refine mm_isub C (mm_dec dk_X1_latestWith 26 rfl) ⟨by omega, by omega⟩ ?_
  have J37 : ∀ (n : Nat) (x37_5 : Int) (bx37_5 : -2 ≤ x37_5 ∧ x37_5 ≤ 499), (x37_5 - (-2) : Int) < n → mm_W x 0 0 37 [mR 48, mI p1, mU, mI (h.2.1 53 (((p1 + 1) * 13) + p2)), mU, mI x37_5] [] h := by
    intro n
    induction n with
    | zero =>
      intro x37_5 bx37_5 hm
      exfalso; omega
    | succ n ih37 =>
      intro x37_5 bx37_5 hm37
      refine mm_iload C (mm_dec dk_X1_latestWith 28 rfl) rfl ?_
      refine mm_iload_n C (mm_dec dk_X1_latestWith 29 rfl) rfl ?_
      refine mm_icmp_le (tgt := 68) C (mm_dec dk_X1_latestWith 30 rfl) (by decide) (fun c40 => ?_) (fun c40 => ?_)
      · skip
        refine mm_iload_n C (mm_dec dk_X1_latestWith 44 rfl) rfl ?_
        exact mm_iret C T (mm_dec dk_X1_latestWith 45 rfl) (by decide : 0 ≤ 0) (by decide : 0 ≤ 0) ⟨_, rfl, ⟨⟨by omega, by omega⟩, rfl⟩⟩
      · skip
        refine mm_aload_n C (mm_dec dk_X1_latestWith 31 rfl) rfl ?_
        refine mm_getr (t := 50) C fl_X1_15 (mm_dec dk_X1_latestWith 32 rfl) rfl rfl (mm_ref i0 rfl) ?_
        refine mm_iload C (mm_dec dk_X1_latestWith 33 rfl) rfl ?_
        refine mm_iald C (mm_dec dk_X1_latestWith 34 rfl) rfl (by omega) (by omega) ?_
        have g3 : -2147483648 ≤ (h.2.1 50 x37_5) ∧ (h.2.1 50 x37_5) ≤ 2147483647 := i0.2.1 50 x37_5
        refine mm_aload_n C (mm_dec dk_X1_latestWith 35 rfl) rfl ?_
        refine mm_getr (t := 49) C fl_X1_9 (mm_dec dk_X1_latestWith 36 rfl) rfl rfl (mm_ref i0 rfl) ?_
        refine mm_iload_n C (mm_dec dk_X1_latestWith 37 rfl) rfl ?_
        refine mm_iald C (mm_dec dk_X1_latestWith 38 rfl) rfl (by omega) (by omega) ?_
        have g4 : 0 ≤ (h.2.1 49 p1) ∧ (h.2.1 49 p1) ≤ 19 := i0.2.1 49 p1
        refine mm_icmp_ne (tgt := 62) C (mm_dec dk_X1_latestWith 39 rfl) (by decide) (fun c56 => ?_) (fun c56 => ?_)
        · skip
          refine mm_iincL (ls2 := [mR 48, mI p1, mU, mI (h.2.1 53 (((p1 + 1) * 13) + p2)), mU, mI (x37_5 + (-1))]) C (mm_dec dk_X1_latestWith 42 rfl) rfl (by decide) ⟨by omega, by omega⟩ rfl ?_
          refine mm_goto (tgt := 37) C (mm_dec dk_X1_latestWith 43 rfl) (by decide) ?_
          exact ih37 (x37_5 + (-1)) ⟨by omega, by omega⟩ (by omega)
        · skip
          refine mm_iload C (mm_dec dk_X1_latestWith 40 rfl) rfl ?_
          exact mm_iret C T (mm_dec dk_X1_latestWith 41 rfl) (by decide : 0 ≤ 0) (by decide : 0 ≤ 0) ⟨_, rfl, ⟨⟨by omega, by omega⟩, rfl⟩⟩
  refine mm_istoreL (ls2 := [mR 48, mI p1, mI p2, mI (h.2.1 53 (((p1 + 1) * 13) + p2)), mI (h.2.1 53 ((((p1 + 1) * 13) + p2) - 1)), mI ((h.2.1 53 ((((p1 + 1) * 13) + p2) - 1)) - 1)]) C (mm_dec dk_X1_latestWith 27 rfl) (by decide) rfl ?_
  refine mm_fgt 2 ?_
  refine mm_fgt 4 ?_
  exact J37 (((((h.2.1 53 ((((p1 + 1) * 13) + p2) - 1)) - 1) - (-2)) : Int) + 1).toNat ((h.2.1 53 ((((p1 + 1) * 13) + p2) - 1)) - 1) ⟨by omega, by omega⟩ (by omega)
set_option maxRecDepth 100000 in
set_option maxHeartbeats 4000000 in
theorem c_X1_keepLongest (l : Launch) (hl : l.stackTraces = false) (d : Nat) (hd : 1 ≤ d) (h : mH) (i0 : mm_inv h) : mm_Met l d yX1_keepLongest cX1_keepLongest 5 none [mR 48] h (mm_pv fun h2 => mm_inv h2 ∧ mm_fr [] [52] h h2) mm_nx 0 0 := by
  refine mm_ofW (ls := [mR 48, mU, mU, mU, mU]) hl (by decide) rfl (Nat.le_of_ble_eq_true rfl) ?_
  intro x hxl C T hnm htb
  subst hxl
  have C1 := mm_OK_le (d' := d - 1 + 1) (by omega) C
  have f0 : mm_fr [] [52] h h := mm_fr_rf
  refine mm_iconst C (mm_dec dk_X1_keepLongest 0 rfl) ⟨by decide, by decide⟩ ?_
  have J2 : ∀ (n : Nat) (x2_1 : Int) (bx2_1 : 0 ≤ x2_1 ∧ x2_1 ≤ 12), (12 - x2_1 : Int) < n → mm_W x 0 0 2 [mR 48, mI x2_1, mU, mU, mU] [] h := by
    intro n
    induction n with
    | zero =>
      intro x2_1 bx2_1 hm
      exfalso; omega
    | succ n ih2 =>
      intro x2_1 bx2_1 hm2
      refine mm_iload_n C (mm_dec dk_X1_keepLongest 2 rfl) rfl ?_
      refine mm_aload_n C (mm_dec dk_X1_keepLongest 3 rfl) rfl ?_
      refine mm_geti C fl_X1_27 (mm_dec dk_X1_keepLongest 4 rfl) rfl rfl (Or.inl rfl) ?_
      have g1 : 0 ≤ (h.1 48 8) ∧ (h.1 48 8) ≤ 12 := i0.1 48 8
      have J28 : mm_W x 0 0 28 [mR 48, mI x2_1, mU, mU, mU] [] h := by
        refine mm_iconst C (mm_dec dk_X1_keepLongest 16 rfl) ⟨by decide, by decide⟩ ?_
        refine mm_istore_nL (ls2 := [mR 48, mI x2_1, mI 0, mU, mU]) C (mm_dec dk_X1_keepLongest 17 rfl) (by decide) rfl ?_
        refine mm_iconst C (mm_dec dk_X1_keepLongest 18 rfl) ⟨by decide, by decide⟩ ?_
        have J32 : ∀ (n : Nat) (x32_1 : Int) (bx32_1 : 0 ≤ x32_1 ∧ x32_1 ≤ 12) (x32_2 : Int) (bx32_2 : 0 ≤ x32_2 ∧ x32_2 ≤ 500) (x32_3 : Int) (bx32_3 : 0 ≤ x32_3 ∧ x32_3 ≤ 12) (h32_ : mH) (i32_ : mm_inv h32_) (f32_ : mm_fr [] [52] h h32_), (12 - x32_3 : Int) < n → mm_W x 0 0 32 [mR 48, mI x32_1, mI x32_2, mI x32_3, mU] [] h32_ := by
          intro n
          induction n with
          | zero =>
            intro x32_1 bx32_1 x32_2 bx32_2 x32_3 bx32_3 h32_ i32_ f32_ hm
            exfalso; omega
          | succ n ih32 =>
            intro x32_1 bx32_1 x32_2 bx32_2 x32_3 bx32_3 h32_ i32_ f32_ hm32
            refine mm_iload_n C (mm_dec dk_X1_keepLongest 20 rfl) rfl ?_
            refine mm_aload_n C (mm_dec dk_X1_keepLongest 21 rfl) rfl ?_
            refine mm_geti C fl_X1_27 (mm_dec dk_X1_keepLongest 22 rfl) rfl rfl (Or.inl rfl) ?_
            have g2 : 0 ≤ (h32_.1 48 8) ∧ (h32_.1 48 8) ≤ 12 := i32_.1 48 8
            have J105 : mm_W x 0 0 105 [mU, mU, mU, mU, mU] [] h32_ := by
              exact mm_vret C T (mm_dec dk_X1_keepLongest 63 rfl) (by decide : 0 ≤ 0) (by decide : 0 ≤ 0) ⟨rfl, ⟨i32_, f32_⟩⟩
            refine mm_icmp_ge (tgt := 105) C (mm_dec dk_X1_keepLongest 23 rfl) (by decide) (fun c37 => ?_) (fun c37 => ?_)
            · skip
              refine mm_fgt 0 ?_
              refine mm_fgt 1 ?_
              refine mm_fgt 2 ?_
              refine mm_fgt 3 ?_
              exact J105
            · skip
              refine mm_iload_n C (mm_dec dk_X1_keepLongest 24 rfl) rfl ?_
              refine mm_if_le (tgt := 105) C (mm_dec dk_X1_keepLongest 25 rfl) (by decide) (fun c41 => ?_) (fun c41 => ?_)
              · skip
                refine mm_fgt 0 ?_
                refine mm_fgt 1 ?_
                refine mm_fgt 2 ?_
                refine mm_fgt 3 ?_
                exact J105
              · skip
                refine mm_aload_n C (mm_dec dk_X1_keepLongest 26 rfl) rfl ?_
                refine mm_aload_n C (mm_dec dk_X1_keepLongest 27 rfl) rfl ?_
                refine mm_getr (t := 49) C fl_X1_9 (mm_dec dk_X1_keepLongest 28 rfl) rfl rfl (mm_ref i32_ rfl) ?_
                refine mm_iload_n C (mm_dec dk_X1_keepLongest 29 rfl) rfl ?_
                refine mm_iald C (mm_dec dk_X1_keepLongest 30 rfl) rfl (by omega) (by omega) ?_
                have g3 : 0 ≤ (h32_.2.1 49 x32_3) ∧ (h32_.2.1 49 x32_3) ≤ 19 := i32_.2.1 49 x32_3
                refine mm_iload_n C (mm_dec dk_X1_keepLongest 31 rfl) rfl ?_
                refine mm_cVi (rest := []) C1 ev_X1_103 (mm_dec dk_X1_keepLongest 32 rfl) (c_X1_firstPunch x.2.1 hl (d - 1) (by omega) h32_ i32_ (h32_.2.1 49 x32_3) x32_2 ⟨by omega, by omega⟩) rfl rfl (Nat.le_of_ble_eq_true rfl) ⟨by decide, by decide⟩ rfl (fun r52 h52c hp52 => ?_) (fun _ _ q => q.elim)
                obtain ⟨b52, z52⟩ := hp52
                rw [z52]
                refine mm_istoreL (ls2 := [mR 48, mI x32_1, mI x32_2, mI x32_3, mI r52]) C (mm_dec dk_X1_keepLongest 33 rfl) (by decide) rfl ?_
                refine mm_iload C (mm_dec dk_X1_keepLongest 34 rfl) rfl ?_
                refine mm_iconst C (mm_dec dk_X1_keepLongest 35 rfl) ⟨by decide, by decide⟩ ?_
                have J99 : ∀ (x99_1 : Int) (bx99_1 : 0 ≤ x99_1 ∧ x99_1 ≤ 12) (x99_2 : Int) (bx99_2 : 0 ≤ x99_2 ∧ x99_2 ≤ 500) (h99_ : mH) (i99_ : mm_inv h99_) (f99_ : mm_fr [] [52] h h99_), mm_W x 0 0 99 [mR 48, mI x99_1, mI x99_2, mI x32_3, mU] [] h99_ := by
                  intro x99_1 bx99_1 x99_2 bx99_2 h99_ i99_ f99_
                  refine mm_iincL (ls2 := [mR 48, mI x99_1, mI x99_2, mI (x32_3 + 1), mU]) C (mm_dec dk_X1_keepLongest 61 rfl) rfl (by decide) ⟨by omega, by omega⟩ rfl ?_
                  refine mm_goto (tgt := 32) C (mm_dec dk_X1_keepLongest 62 rfl) (by decide) ?_
                  exact ih32 x99_1 ⟨by omega, by omega⟩ x99_2 ⟨by omega, by omega⟩ (x32_3 + 1) ⟨by omega, by omega⟩ h99_ i99_ f99_ (by omega)
                refine mm_icmp_eq (tgt := 99) C (mm_dec dk_X1_keepLongest 36 rfl) (by decide) (fun c60 => ?_) (fun c60 => ?_)
                · skip
                  refine mm_fgt 4 ?_
                  exact J99 x32_1 ⟨by omega, by omega⟩ x32_2 ⟨by omega, by omega⟩ h32_ i32_ f32_
                · skip
                  refine mm_aload_n C (mm_dec dk_X1_keepLongest 37 rfl) rfl ?_
                  refine mm_getr (t := 53) C fl_X1_24 (mm_dec dk_X1_keepLongest 38 rfl) rfl rfl (mm_ref i32_ rfl) ?_
                  refine mm_iload_n C (mm_dec dk_X1_keepLongest 39 rfl) rfl ?_
                  refine mm_iconst C (mm_dec dk_X1_keepLongest 40 rfl) ⟨by decide, by decide⟩ ?_
                  refine mm_iadd C (mm_dec dk_X1_keepLongest 41 rfl) ⟨by omega, by omega⟩ ?_
                  refine mm_bipush C (mm_dec dk_X1_keepLongest 42 rfl) ⟨by decide, by decide⟩ ?_
                  refine mm_imul C (mm_dec dk_X1_keepLongest 43 rfl) ⟨by omega, by omega⟩ ?_
                  refine mm_iload_n C (mm_dec dk_X1_keepLongest 44 rfl) rfl ?_
                  refine mm_iadd C (mm_dec dk_X1_keepLongest 45 rfl) ⟨by omega, by omega⟩ ?_
                  refine mm_iconst C (mm_dec dk_X1_keepLongest 46 rfl) ⟨by decide, by decide⟩ ?_
                  refine mm_isub C (mm_dec dk_X1_keepLongest 47 rfl) ⟨by omega, by omega⟩ ?_
                  refine mm_iald C (mm_dec dk_X1_keepLongest 48 rfl) rfl (by omega) (by omega) ?_
                  have g5 : -1 ≤ (h32_.2.1 53 ((((x32_3 + 1) * 13) + x32_1) - 1)) ∧ (h32_.2.1 53 ((((x32_3 + 1) * 13) + x32_1) - 1)) ≤ 500 := i32_.2.1 53 ((((x32_3 + 1) * 13) + x32_1) - 1)
                  refine mm_iload C (mm_dec dk_X1_keepLongest 49 rfl) rfl ?_
                  refine mm_icmp_le (tgt := 99) C (mm_dec dk_X1_keepLongest 50 rfl) (by decide) (fun c80 => ?_) (fun c80 => ?_)
                  · skip
                    refine mm_fgt 4 ?_
                    exact J99 x32_1 ⟨by omega, by omega⟩ x32_2 ⟨by omega, by omega⟩ h32_ i32_ f32_
                  · skip
                    refine mm_aload_n C (mm_dec dk_X1_keepLongest 51 rfl) rfl ?_
                    refine mm_getr (t := 52) C fl_X1_21 (mm_dec dk_X1_keepLongest 52 rfl) rfl rfl (mm_ref i32_ rfl) ?_
                    refine mm_iload_n C (mm_dec dk_X1_keepLongest 53 rfl) rfl ?_
                    refine mm_iload C (mm_dec dk_X1_keepLongest 54 rfl) rfl ?_
                    refine mm_iast C (mm_dec dk_X1_keepLongest 55 rfl) rfl (by omega) (by omega) ?_
                    have i1 : mm_inv (mm_pa h32_ 52 x32_3 r52) := mm_inv_pa i32_ (show -1 ≤ r52 ∧ r52 ≤ 499 from ⟨by omega, by omega⟩)
                    have f1 : mm_fr [] [52] h (mm_pa h32_ 52 x32_3 r52) := mm_fr_pa f32_ (by decide)
                    obtain ⟨h1, eh1⟩ : ∃ z, z = mm_pa h32_ 52 x32_3 r52 := ⟨_, rfl⟩
                    rw [← eh1] at i1 f1 ⊢
                    have qh1_6 : h1.1 48 8 = h32_.1 48 8 := by rw [eh1]; rfl
                    refine mm_iload C (mm_dec dk_X1_keepLongest 56 rfl) rfl ?_
                    refine mm_iconst C (mm_dec dk_X1_keepLongest 57 rfl) ⟨by decide, by decide⟩ ?_
                    refine mm_iadd C (mm_dec dk_X1_keepLongest 58 rfl) ⟨by omega, by omega⟩ ?_
                    refine mm_istore_nL (ls2 := [mR 48, mI x32_1, mI (r52 + 1), mI x32_3, mI r52]) C (mm_dec dk_X1_keepLongest 59 rfl) (by decide) rfl ?_
                    refine mm_iincL (ls2 := [mR 48, mI (x32_1 + (-1)), mI (r52 + 1), mI x32_3, mI r52]) C (mm_dec dk_X1_keepLongest 60 rfl) rfl (by decide) ⟨by omega, by omega⟩ rfl ?_
                    refine mm_fgt 4 ?_
                    exact J99 (x32_1 + (-1)) ⟨by omega, by omega⟩ (r52 + 1) ⟨by omega, by omega⟩ h1 i1 f1
        refine mm_istore_nL (ls2 := [mR 48, mI x2_1, mI 0, mI 0, mU]) C (mm_dec dk_X1_keepLongest 19 rfl) (by decide) rfl ?_
        exact J32 (((12 - 0) : Int) + 1).toNat x2_1 ⟨by omega, by omega⟩ 0 ⟨by omega, by omega⟩ 0 ⟨by omega, by omega⟩ h i0 f0 (by omega)
      refine mm_icmp_ge (tgt := 28) C (mm_dec dk_X1_keepLongest 5 rfl) (by decide) (fun c7 => ?_) (fun c7 => ?_)
      · skip
        exact J28
      · skip
        refine mm_aload_n C (mm_dec dk_X1_keepLongest 6 rfl) rfl ?_
        refine mm_getr (t := 53) C fl_X1_24 (mm_dec dk_X1_keepLongest 7 rfl) rfl rfl (mm_ref i0 rfl) ?_
        refine mm_iload_n C (mm_dec dk_X1_keepLongest 8 rfl) rfl ?_
        refine mm_iconst C (mm_dec dk_X1_keepLongest 9 rfl) ⟨by decide, by decide⟩ ?_
        refine mm_iadd C (mm_dec dk_X1_keepLongest 10 rfl) ⟨by omega, by omega⟩ ?_
        refine mm_iald C (mm_dec dk_X1_keepLongest 11 rfl) rfl (by omega) (by omega) ?_
        have g7 : -1 ≤ (h.2.1 53 (x2_1 + 1)) ∧ (h.2.1 53 (x2_1 + 1)) ≤ 500 := i0.2.1 53 (x2_1 + 1)
        refine mm_iconst C (mm_dec dk_X1_keepLongest 12 rfl) ⟨by decide, by decide⟩ ?_
        refine mm_icmp_eq (tgt := 28) C (mm_dec dk_X1_keepLongest 13 rfl) (by decide) (fun c19 => ?_) (fun c19 => ?_)
        · skip
          exact J28
        · skip
          refine mm_iincL (ls2 := [mR 48, mI (x2_1 + 1), mU, mU, mU]) C (mm_dec dk_X1_keepLongest 14 rfl) rfl (by decide) ⟨by omega, by omega⟩ rfl ?_
          refine mm_goto (tgt := 2) C (mm_dec dk_X1_keepLongest 15 rfl) (by decide) ?_
          exact ih2 (x2_1 + 1) ⟨by omega, by omega⟩ (by omega)
  refine mm_istore_nL (ls2 := [mR 48, mI 0, mU, mU, mU]) C (mm_dec dk_X1_keepLongest 1 rfl) (by decide) rfl ?_
  exact J2 (((12 - 0) : Int) + 1).toNat 0 ⟨by omega, by omega⟩ (by omega)
set_option maxRecDepth 100000 in
set_option maxHeartbeats 4000000 in
theorem c_X2_clear (l : Launch) (hl : l.stackTraces = false) (d : Nat) (hd : 0 ≤ d) (h : mH) (i0 : mm_inv h) : mm_Met l d yX2_clear cX2_clear 1 none [mR 14] h (mm_pv fun h2 => mm_inv h2 ∧ mm_fr [(14, 7), (14, 8)] [] h h2) mm_nx 0 0 := by
  refine mm_ofW (ls := [mR 14]) hl (by decide) rfl (Nat.le_of_ble_eq_true rfl) ?_
  intro x hxl C T hnm htb
  subst hxl
  have f0 : mm_fr [(14, 7), (14, 8)] [] h h := mm_fr_rf
  refine mm_aload_n C (mm_dec dk_X2_clear 0 rfl) rfl ?_
  refine mm_iconst C (mm_dec dk_X2_clear 1 rfl) ⟨by decide, by decide⟩ ?_
  refine mm_puti C fl_X2_34 (mm_dec dk_X2_clear 2 rfl) rfl rfl rfl (Or.inl ⟨rfl, rfl⟩) ?_
  have i1 : mm_inv (mm_pf h 14 7 0) := mm_inv_pf i0 (show 0 ≤ 0 ∧ 0 ≤ 20 from ⟨by omega, by omega⟩) (by decide)
  have f1 : mm_fr [(14, 7), (14, 8)] [] h (mm_pf h 14 7 0) := mm_fr_pf f0 (by decide)
  obtain ⟨h1, eh1⟩ : ∃ z, z = mm_pf h 14 7 0 := ⟨_, rfl⟩
  rw [← eh1] at i1 f1 ⊢
  have qh1 : h1.1 14 7 = 0 := by rw [eh1]; exact mm_pf_same _ _ _ _
  refine mm_aload_n C (mm_dec dk_X2_clear 3 rfl) rfl ?_
  refine mm_iconst C (mm_dec dk_X2_clear 4 rfl) ⟨by decide, by decide⟩ ?_
  refine mm_puti C fl_X2_38 (mm_dec dk_X2_clear 5 rfl) rfl rfl rfl (Or.inl ⟨rfl, rfl⟩) ?_
  have i2 : mm_inv (mm_pf h1 14 8 0) := mm_inv_pf i1 (show 0 ≤ 0 ∧ 0 ≤ 8 from ⟨by omega, by omega⟩) (by decide)
  have f2 : mm_fr [(14, 7), (14, 8)] [] h (mm_pf h1 14 8 0) := mm_fr_pf f1 (by decide)
  obtain ⟨h2, eh2⟩ : ∃ z, z = mm_pf h1 14 8 0 := ⟨_, rfl⟩
  rw [← eh2] at i2 f2 ⊢
  have qh2 : h2.1 14 8 = 0 := by rw [eh2]; exact mm_pf_same _ _ _ _
  have qh2_1 : h2.1 14 7 = h1.1 14 7 := by rw [eh2]; exact mm_pf_ne _ _ (by decide)
  exact mm_vret C T (mm_dec dk_X2_clear 6 rfl) (by decide : 0 ≤ 0) (by decide : 0 ≤ 0) ⟨rfl, ⟨i2, f2⟩⟩
set_option maxRecDepth 100000 in
set_option maxHeartbeats 4000000 in
theorem c_X2_posts (l : Launch) (hl : l.stackTraces = false) (d : Nat) (hd : 0 ≤ d) (h : mH) (i0 : mm_inv h) : mm_Met l d yX2_posts cX2_posts 1 (some .int) [mR 14] h (mm_pi fun r h2 => h2 = h ∧ (r = (h.1 14 7))) mm_nx 0 0 := by
  refine mm_ofW (ls := [mR 14]) hl (by decide) rfl (Nat.le_of_ble_eq_true rfl) ?_
  intro x hxl C T hnm htb
  subst hxl
  have f0 : mm_fr [] [] h h := mm_fr_rf
  refine mm_aload_n C (mm_dec dk_X2_posts 0 rfl) rfl ?_
  refine mm_geti C fl_X2_34 (mm_dec dk_X2_posts 1 rfl) rfl rfl (Or.inl rfl) ?_
  have g1 : 0 ≤ (h.1 14 7) ∧ (h.1 14 7) ≤ 20 := i0.1 14 7
  exact mm_iret C T (mm_dec dk_X2_posts 2 rfl) (by decide : 0 ≤ 0) (by decide : 0 ≤ 0) ⟨_, rfl, ⟨rfl, rfl⟩⟩
set_option maxRecDepth 100000 in
set_option maxHeartbeats 4000000 in
theorem c_X2_setPost (l : Launch) (hl : l.stackTraces = false) (d : Nat) (hd : 0 ≤ d) (h : mH) (i0 : mm_inv h) (p1 : Int) (p2 : Int) (bp1 : 0 ≤ p1 ∧ p1 ≤ 399) (bp2 : 0 ≤ p2 ∧ p2 ≤ 99) (u0 : (h.1 14 7) ≤ 19) : mm_Met l d yX2_setPost cX2_setPost 3 (some .int) [mR 14, mI p1, mI p2] h (mm_pi fun r h2 => (0 ≤ r ∧ r ≤ 19) ∧ mm_inv h2 ∧ mm_fr [(14, 7)] [15, 16] h h2) mm_nx 0 0 := by
  refine mm_ofW (ls := [mR 14, mI p1, mI p2]) hl (by decide) rfl (Nat.le_of_ble_eq_true rfl) ?_
  intro x hxl C T hnm htb
  subst hxl
  refine mm_rng (fun hr _ => ?_)
  have ap1 : -2147483648 ≤ p1 ∧ p1 < 2147483648 := mm_ok_at hr (i := 1) rfl
  have ap2 : -2147483648 ≤ p2 ∧ p2 < 2147483648 := mm_ok_at hr (i := 2) rfl
  have f0 : mm_fr [(14, 7)] [15, 16] h h := mm_fr_rf
  refine mm_aload_n C (mm_dec dk_X2_setPost 0 rfl) rfl ?_
  refine mm_getr (t := 15) C fl_X2_9 (mm_dec dk_X2_setPost 1 rfl) rfl rfl (mm_ref i0 rfl) ?_
  refine mm_aload_n C (mm_dec dk_X2_setPost 2 rfl) rfl ?_
  refine mm_geti C fl_X2_34 (mm_dec dk_X2_setPost 3 rfl) rfl rfl (Or.inl rfl) ?_
  have g1 : 0 ≤ (h.1 14 7) ∧ (h.1 14 7) ≤ 20 := i0.1 14 7
  refine mm_iload_n C (mm_dec dk_X2_setPost 4 rfl) rfl ?_
  refine mm_iast C (mm_dec dk_X2_setPost 5 rfl) rfl (by omega) (by omega) ?_
  have i1 : mm_inv (mm_pa h 15 (h.1 14 7) p1) := mm_inv_pa i0 (show 0 ≤ p1 ∧ p1 ≤ 399 from ⟨by omega, by omega⟩)
  have f1 : mm_fr [(14, 7)] [15, 16] h (mm_pa h 15 (h.1 14 7) p1) := mm_fr_pa f0 (by decide)
  obtain ⟨h1, eh1⟩ : ∃ z, z = mm_pa h 15 (h.1 14 7) p1 := ⟨_, rfl⟩
  rw [← eh1] at i1 f1 ⊢
  have qh1_2 : h1.1 14 7 = h.1 14 7 := by rw [eh1]; rfl
  refine mm_aload_n C (mm_dec dk_X2_setPost 6 rfl) rfl ?_
  refine mm_getr (t := 16) C fl_X2_15 (mm_dec dk_X2_setPost 7 rfl) rfl rfl (mm_ref i1 rfl) ?_
  refine mm_aload_n C (mm_dec dk_X2_setPost 8 rfl) rfl ?_
  refine mm_geti C fl_X2_34 (mm_dec dk_X2_setPost 9 rfl) rfl rfl (Or.inl rfl) ?_
  refine mm_iload_n C (mm_dec dk_X2_setPost 10 rfl) rfl ?_
  refine mm_iast C (mm_dec dk_X2_setPost 11 rfl) rfl (by omega) (by omega) ?_
  have i2 : mm_inv (mm_pa h1 16 (h1.1 14 7) p2) := mm_inv_pa i1 (show 0 ≤ p2 ∧ p2 ≤ 99 from ⟨by omega, by omega⟩)
  have f2 : mm_fr [(14, 7)] [15, 16] h (mm_pa h1 16 (h1.1 14 7) p2) := mm_fr_pa f1 (by decide)
  obtain ⟨h2, eh2⟩ : ∃ z, z = mm_pa h1 16 (h1.1 14 7) p2 := ⟨_, rfl⟩
  rw [← eh2] at i2 f2 ⊢
  have qh2_3 : h2.1 14 7 = h1.1 14 7 := by rw [eh2]; rfl
  refine mm_aload_n C (mm_dec dk_X2_setPost 12 rfl) rfl ?_
  refine mm_dup C (mm_dec dk_X2_setPost 13 rfl) (show (2 : Nat) ≠ 1 by decide) ?_
  refine mm_geti C fl_X2_34 (mm_dec dk_X2_setPost 14 rfl) rfl rfl (Or.inl rfl) ?_
  refine mm_iconst C (mm_dec dk_X2_setPost 15 rfl) ⟨by decide, by decide⟩ ?_
  refine mm_iadd C (mm_dec dk_X2_setPost 16 rfl) ⟨by omega, by omega⟩ ?_
  refine mm_puti C fl_X2_34 (mm_dec dk_X2_setPost 17 rfl) rfl rfl rfl (Or.inl ⟨rfl, rfl⟩) ?_
  have i3 : mm_inv (mm_pf h2 14 7 ((h2.1 14 7) + 1)) := mm_inv_pf i2 (show 0 ≤ ((h2.1 14 7) + 1) ∧ ((h2.1 14 7) + 1) ≤ 20 from ⟨by omega, by omega⟩) (by decide)
  have f3 : mm_fr [(14, 7)] [15, 16] h (mm_pf h2 14 7 ((h2.1 14 7) + 1)) := mm_fr_pf f2 (by decide)
  obtain ⟨h3, eh3⟩ : ∃ z, z = mm_pf h2 14 7 ((h2.1 14 7) + 1) := ⟨_, rfl⟩
  rw [← eh3] at i3 f3 ⊢
  have qh3 : h3.1 14 7 = ((h2.1 14 7) + 1) := by rw [eh3]; exact mm_pf_same _ _ _ _
  refine mm_aload_n C (mm_dec dk_X2_setPost 18 rfl) rfl ?_
  refine mm_geti C fl_X2_34 (mm_dec dk_X2_setPost 19 rfl) rfl rfl (Or.inl rfl) ?_
  refine mm_iconst C (mm_dec dk_X2_setPost 20 rfl) ⟨by decide, by decide⟩ ?_
  refine mm_isub C (mm_dec dk_X2_setPost 21 rfl) ⟨by omega, by omega⟩ ?_
  exact mm_iret C T (mm_dec dk_X2_setPost 22 rfl) (by decide : 0 ≤ 0) (by decide : 0 ≤ 0) ⟨_, rfl, ⟨⟨by omega, by omega⟩, i3, f3⟩⟩
set_option maxRecDepth 100000 in
set_option maxHeartbeats 4000000 in
theorem c_X2_cellOf (l : Launch) (hl : l.stackTraces = false) (d : Nat) (hd : 0 ≤ d) (h : mH) (i0 : mm_inv h) (p1 : Int) (bp1 : 0 ≤ p1 ∧ p1 ≤ 19) : mm_Met l d yX2_cellOf cX2_cellOf 2 (some .int) [mR 14, mI p1] h (mm_pi fun r h2 => h2 = h ∧ (r = (h.2.1 15 p1))) mm_nx 0 0 := by
  refine mm_ofW (ls := [mR 14, mI p1]) hl (by decide) rfl (Nat.le_of_ble_eq_true rfl) ?_
  intro x hxl C T hnm htb
  subst hxl
  refine mm_rng (fun hr _ => ?_)
  have ap1 : -2147483648 ≤ p1 ∧ p1 < 2147483648 := mm_ok_at hr (i := 1) rfl
  have f0 : mm_fr [] [] h h := mm_fr_rf
  refine mm_aload_n C (mm_dec dk_X2_cellOf 0 rfl) rfl ?_
  refine mm_getr (t := 15) C fl_X2_9 (mm_dec dk_X2_cellOf 1 rfl) rfl rfl (mm_ref i0 rfl) ?_
  refine mm_iload_n C (mm_dec dk_X2_cellOf 2 rfl) rfl ?_
  refine mm_iald C (mm_dec dk_X2_cellOf 3 rfl) rfl (by omega) (by omega) ?_
  have g1 : 0 ≤ (h.2.1 15 p1) ∧ (h.2.1 15 p1) ≤ 399 := i0.2.1 15 p1
  exact mm_iret C T (mm_dec dk_X2_cellOf 4 rfl) (by decide : 0 ≤ 0) (by decide : 0 ≤ 0) ⟨_, rfl, ⟨rfl, rfl⟩⟩
set_option maxRecDepth 100000 in
set_option maxHeartbeats 4000000 in
theorem c_X2_pointsOf (l : Launch) (hl : l.stackTraces = false) (d : Nat) (hd : 0 ≤ d) (h : mH) (i0 : mm_inv h) (p1 : Int) (bp1 : 0 ≤ p1 ∧ p1 ≤ 19) : mm_Met l d yX2_pointsOf cX2_pointsOf 2 (some .int) [mR 14, mI p1] h (mm_pi fun r h2 => h2 = h ∧ (r = (h.2.1 16 p1))) mm_nx 0 0 := by
  refine mm_ofW (ls := [mR 14, mI p1]) hl (by decide) rfl (Nat.le_of_ble_eq_true rfl) ?_
  intro x hxl C T hnm htb
  subst hxl
  refine mm_rng (fun hr _ => ?_)
  have ap1 : -2147483648 ≤ p1 ∧ p1 < 2147483648 := mm_ok_at hr (i := 1) rfl
  have f0 : mm_fr [] [] h h := mm_fr_rf
  refine mm_aload_n C (mm_dec dk_X2_pointsOf 0 rfl) rfl ?_
  refine mm_getr (t := 16) C fl_X2_15 (mm_dec dk_X2_pointsOf 1 rfl) rfl rfl (mm_ref i0 rfl) ?_
  refine mm_iload_n C (mm_dec dk_X2_pointsOf 2 rfl) rfl ?_
  refine mm_iald C (mm_dec dk_X2_pointsOf 3 rfl) rfl (by omega) (by omega) ?_
  have g1 : 0 ≤ (h.2.1 16 p1) ∧ (h.2.1 16 p1) ≤ 99 := i0.2.1 16 p1
  exact mm_iret C T (mm_dec dk_X2_pointsOf 4 rfl) (by decide : 0 ≤ 0) (by decide : 0 ≤ 0) ⟨_, rfl, ⟨rfl, rfl⟩⟩
set_option maxRecDepth 100000 in
set_option maxHeartbeats 4000000 in
theorem c_X2_postStandsAt (l : Launch) (hl : l.stackTraces = false) (d : Nat) (hd : 0 ≤ d) (h : mH) (i0 : mm_inv h) (p1 : Int) (bp1 : 0 ≤ p1 ∧ p1 ≤ 399) : mm_Met l d yX2_postStandsAt cX2_postStandsAt 3 (some .boolean) [mR 14, mI p1] h (mm_pi fun r h2 => (0 ≤ r ∧ r ≤ 1) ∧ h2 = h) mm_nx 0 0 := by
  refine mm_ofW (ls := [mR 14, mI p1, mU]) hl (by decide) rfl (Nat.le_of_ble_eq_true rfl) ?_
  intro x hxl C T hnm htb
  subst hxl
  refine mm_rng (fun hr _ => ?_)
  have ap1 : -2147483648 ≤ p1 ∧ p1 < 2147483648 := mm_ok_at hr (i := 1) rfl
  have f0 : mm_fr [] [] h h := mm_fr_rf
  refine mm_iconst C (mm_dec dk_X2_postStandsAt 0 rfl) ⟨by decide, by decide⟩ ?_
  have J2 : ∀ (n : Nat) (x2_2 : Int) (bx2_2 : 0 ≤ x2_2 ∧ x2_2 ≤ 20), (20 - x2_2 : Int) < n → mm_W x 0 0 2 [mR 14, mI p1, mI x2_2] [] h := by
    intro n
    induction n with
    | zero =>
      intro x2_2 bx2_2 hm
      exfalso; omega
    | succ n ih2 =>
      intro x2_2 bx2_2 hm2
      refine mm_iload_n C (mm_dec dk_X2_postStandsAt 2 rfl) rfl ?_
      refine mm_aload_n C (mm_dec dk_X2_postStandsAt 3 rfl) rfl ?_
      refine mm_geti C fl_X2_34 (mm_dec dk_X2_postStandsAt 4 rfl) rfl rfl (Or.inl rfl) ?_
      have g1 : 0 ≤ (h.1 14 7) ∧ (h.1 14 7) ≤ 20 := i0.1 14 7
      refine mm_icmp_ge (tgt := 28) C (mm_dec dk_X2_postStandsAt 5 rfl) (by decide) (fun c7 => ?_) (fun c7 => ?_)
      · skip
        refine mm_iconst C (mm_dec dk_X2_postStandsAt 16 rfl) ⟨by decide, by decide⟩ ?_
        exact mm_zret C T (mm_dec dk_X2_postStandsAt 17 rfl) (by decide : 0 ≤ 0) (by decide : 0 ≤ 0) (by omega) ⟨_, rfl, ⟨⟨by omega, by omega⟩, rfl⟩⟩
      · skip
        refine mm_aload_n C (mm_dec dk_X2_postStandsAt 6 rfl) rfl ?_
        refine mm_getr (t := 15) C fl_X2_9 (mm_dec dk_X2_postStandsAt 7 rfl) rfl rfl (mm_ref i0 rfl) ?_
        refine mm_iload_n C (mm_dec dk_X2_postStandsAt 8 rfl) rfl ?_
        refine mm_iald C (mm_dec dk_X2_postStandsAt 9 rfl) rfl (by omega) (by omega) ?_
        have g2 : 0 ≤ (h.2.1 15 x2_2) ∧ (h.2.1 15 x2_2) ≤ 399 := i0.2.1 15 x2_2
        refine mm_iload_n C (mm_dec dk_X2_postStandsAt 10 rfl) rfl ?_
        refine mm_icmp_ne (tgt := 22) C (mm_dec dk_X2_postStandsAt 11 rfl) (by decide) (fun c17 => ?_) (fun c17 => ?_)
        · skip
          refine mm_iincL (ls2 := [mR 14, mI p1, mI (x2_2 + 1)]) C (mm_dec dk_X2_postStandsAt 14 rfl) rfl (by decide) ⟨by omega, by omega⟩ rfl ?_
          refine mm_goto (tgt := 2) C (mm_dec dk_X2_postStandsAt 15 rfl) (by decide) ?_
          exact ih2 (x2_2 + 1) ⟨by omega, by omega⟩ (by omega)
        · skip
          refine mm_iconst C (mm_dec dk_X2_postStandsAt 12 rfl) ⟨by decide, by decide⟩ ?_
          exact mm_zret C T (mm_dec dk_X2_postStandsAt 13 rfl) (by decide : 0 ≤ 0) (by decide : 0 ≤ 0) (by omega) ⟨_, rfl, ⟨⟨by omega, by omega⟩, rfl⟩⟩
  refine mm_istore_nL (ls2 := [mR 14, mI p1, mI 0]) C (mm_dec dk_X2_postStandsAt 1 rfl) (by decide) rfl ?_
  exact J2 (((20 - 0) : Int) + 1).toNat 0 ⟨by omega, by omega⟩ (by omega)
set_option maxRecDepth 100000 in
set_option maxHeartbeats 4000000 in
theorem c_X2_size (l : Launch) (hl : l.stackTraces = false) (d : Nat) (hd : 0 ≤ d) (h : mH) (i0 : mm_inv h) : mm_Met l d yX2_size cX2_size 1 (some .int) [mR 14] h (mm_pi fun r h2 => h2 = h ∧ (r = (h.1 14 8))) mm_nx 0 0 := by
  refine mm_ofW (ls := [mR 14]) hl (by decide) rfl (Nat.le_of_ble_eq_true rfl) ?_
  intro x hxl C T hnm htb
  subst hxl
  have f0 : mm_fr [] [] h h := mm_fr_rf
  refine mm_aload_n C (mm_dec dk_X2_size 0 rfl) rfl ?_
  refine mm_geti C fl_X2_38 (mm_dec dk_X2_size 1 rfl) rfl rfl (Or.inl rfl) ?_
  have g1 : 0 ≤ (h.1 14 8) ∧ (h.1 14 8) ≤ 8 := i0.1 14 8
  exact mm_iret C T (mm_dec dk_X2_size 2 rfl) (by decide : 0 ≤ 0) (by decide : 0 ≤ 0) ⟨_, rfl, ⟨rfl, rfl⟩⟩
set_option maxRecDepth 100000 in
set_option maxHeartbeats 4000000 in
theorem c_X2_open (l : Launch) (hl : l.stackTraces = false) (d : Nat) (hd : 0 ≤ d) (h : mH) (i0 : mm_inv h) (p1 : Int) (bp1 : 0 ≤ p1 ∧ p1 ≤ 1) (u0 : (h.1 14 8) ≤ 7) : mm_Met l d yX2_open cX2_open 2 (some .int) [mR 14, mI p1] h (mm_pi fun r h2 => (0 ≤ r ∧ r ≤ 7) ∧ mm_inv h2 ∧ mm_fr [(14, 8)] [17, 18, 19, 20] h h2) mm_nx 0 0 := by
  refine mm_ofW (ls := [mR 14, mI p1]) hl (by decide) rfl (Nat.le_of_ble_eq_true rfl) ?_
  intro x hxl C T hnm htb
  subst hxl
  refine mm_rng (fun hr _ => ?_)
  have ap1 : -2147483648 ≤ p1 ∧ p1 < 2147483648 := mm_ok_at hr (i := 1) rfl
  have f0 : mm_fr [(14, 8)] [17, 18, 19, 20] h h := mm_fr_rf
  refine mm_aload_n C (mm_dec dk_X2_open 0 rfl) rfl ?_
  refine mm_getr (t := 17) C fl_X2_18 (mm_dec dk_X2_open 1 rfl) rfl rfl (mm_ref i0 rfl) ?_
  refine mm_aload_n C (mm_dec dk_X2_open 2 rfl) rfl ?_
  refine mm_geti C fl_X2_38 (mm_dec dk_X2_open 3 rfl) rfl rfl (Or.inl rfl) ?_
  have g1 : 0 ≤ (h.1 14 8) ∧ (h.1 14 8) ≤ 8 := i0.1 14 8
  refine mm_iload_n C (mm_dec dk_X2_open 4 rfl) rfl ?_
  refine mm_zast C (mm_dec dk_X2_open 5 rfl) rfl (by omega) (by omega) (by omega) ?_
  have i1 : mm_inv (mm_pa h 17 (h.1 14 8) p1) := mm_inv_pa i0 (show 0 ≤ p1 ∧ p1 ≤ 1 from ⟨by omega, by omega⟩)
  have f1 : mm_fr [(14, 8)] [17, 18, 19, 20] h (mm_pa h 17 (h.1 14 8) p1) := mm_fr_pa f0 (by decide)
  obtain ⟨h1, eh1⟩ : ∃ z, z = mm_pa h 17 (h.1 14 8) p1 := ⟨_, rfl⟩
  rw [← eh1] at i1 f1 ⊢
  have qh1_2 : h1.1 14 8 = h.1 14 8 := by rw [eh1]; rfl
  refine mm_aload_n C (mm_dec dk_X2_open 6 rfl) rfl ?_
  refine mm_getr (t := 18) C fl_X2_22 (mm_dec dk_X2_open 7 rfl) rfl rfl (mm_ref i1 rfl) ?_
  refine mm_aload_n C (mm_dec dk_X2_open 8 rfl) rfl ?_
  refine mm_geti C fl_X2_38 (mm_dec dk_X2_open 9 rfl) rfl rfl (Or.inl rfl) ?_
  refine mm_iconst C (mm_dec dk_X2_open 10 rfl) ⟨by decide, by decide⟩ ?_
  refine mm_zast C (mm_dec dk_X2_open 11 rfl) rfl (by omega) (by omega) (by omega) ?_
  have i2 : mm_inv (mm_pa h1 18 (h1.1 14 8) 0) := mm_inv_pa i1 (show 0 ≤ 0 ∧ 0 ≤ 1 from ⟨by omega, by omega⟩)
  have f2 : mm_fr [(14, 8)] [17, 18, 19, 20] h (mm_pa h1 18 (h1.1 14 8) 0) := mm_fr_pa f1 (by decide)
  obtain ⟨h2, eh2⟩ : ∃ z, z = mm_pa h1 18 (h1.1 14 8) 0 := ⟨_, rfl⟩
  rw [← eh2] at i2 f2 ⊢
  have qh2_3 : h2.1 14 8 = h1.1 14 8 := by rw [eh2]; rfl
  refine mm_aload_n C (mm_dec dk_X2_open 12 rfl) rfl ?_
  refine mm_getr (t := 19) C fl_X2_25 (mm_dec dk_X2_open 13 rfl) rfl rfl (mm_ref i2 rfl) ?_
  refine mm_aload_n C (mm_dec dk_X2_open 14 rfl) rfl ?_
  refine mm_geti C fl_X2_38 (mm_dec dk_X2_open 15 rfl) rfl rfl (Or.inl rfl) ?_
  refine mm_iconst C (mm_dec dk_X2_open 16 rfl) ⟨by decide, by decide⟩ ?_
  refine mm_iast C (mm_dec dk_X2_open 17 rfl) rfl (by omega) (by omega) ?_
  have i3 : mm_inv (mm_pa h2 19 (h2.1 14 8) 0) := mm_inv_pa i2 (show 0 ≤ 0 ∧ 0 ≤ 12 from ⟨by omega, by omega⟩)
  have f3 : mm_fr [(14, 8)] [17, 18, 19, 20] h (mm_pa h2 19 (h2.1 14 8) 0) := mm_fr_pa f2 (by decide)
  obtain ⟨h3, eh3⟩ : ∃ z, z = mm_pa h2 19 (h2.1 14 8) 0 := ⟨_, rfl⟩
  rw [← eh3] at i3 f3 ⊢
  have qh3_4 : h3.1 14 8 = h2.1 14 8 := by rw [eh3]; rfl
  refine mm_aload_n C (mm_dec dk_X2_open 18 rfl) rfl ?_
  refine mm_getr (t := 20) C fl_X2_28 (mm_dec dk_X2_open 19 rfl) rfl rfl (mm_ref i3 rfl) ?_
  refine mm_aload_n C (mm_dec dk_X2_open 20 rfl) rfl ?_
  refine mm_geti C fl_X2_38 (mm_dec dk_X2_open 21 rfl) rfl rfl (Or.inl rfl) ?_
  refine mm_iconst C (mm_dec dk_X2_open 22 rfl) ⟨by decide, by decide⟩ ?_
  refine mm_iast C (mm_dec dk_X2_open 23 rfl) rfl (by omega) (by omega) ?_
  have i4 : mm_inv (mm_pa h3 20 (h3.1 14 8) 0) := mm_inv_pa i3 (show -2147483648 ≤ 0 ∧ 0 ≤ 2147483647 from ⟨by omega, by omega⟩)
  have f4 : mm_fr [(14, 8)] [17, 18, 19, 20] h (mm_pa h3 20 (h3.1 14 8) 0) := mm_fr_pa f3 (by decide)
  obtain ⟨h4, eh4⟩ : ∃ z, z = mm_pa h3 20 (h3.1 14 8) 0 := ⟨_, rfl⟩
  rw [← eh4] at i4 f4 ⊢
  have qh4_5 : h4.1 14 8 = h3.1 14 8 := by rw [eh4]; rfl
  refine mm_aload_n C (mm_dec dk_X2_open 24 rfl) rfl ?_
  refine mm_dup C (mm_dec dk_X2_open 25 rfl) (show (2 : Nat) ≠ 1 by decide) ?_
  refine mm_geti C fl_X2_38 (mm_dec dk_X2_open 26 rfl) rfl rfl (Or.inl rfl) ?_
  refine mm_iconst C (mm_dec dk_X2_open 27 rfl) ⟨by decide, by decide⟩ ?_
  refine mm_iadd C (mm_dec dk_X2_open 28 rfl) ⟨by omega, by omega⟩ ?_
  refine mm_puti C fl_X2_38 (mm_dec dk_X2_open 29 rfl) rfl rfl rfl (Or.inl ⟨rfl, rfl⟩) ?_
  have i5 : mm_inv (mm_pf h4 14 8 ((h4.1 14 8) + 1)) := mm_inv_pf i4 (show 0 ≤ ((h4.1 14 8) + 1) ∧ ((h4.1 14 8) + 1) ≤ 8 from ⟨by omega, by omega⟩) (by decide)
  have f5 : mm_fr [(14, 8)] [17, 18, 19, 20] h (mm_pf h4 14 8 ((h4.1 14 8) + 1)) := mm_fr_pf f4 (by decide)
  obtain ⟨h5, eh5⟩ : ∃ z, z = mm_pf h4 14 8 ((h4.1 14 8) + 1) := ⟨_, rfl⟩
  rw [← eh5] at i5 f5 ⊢
  have qh5 : h5.1 14 8 = ((h4.1 14 8) + 1) := by rw [eh5]; exact mm_pf_same _ _ _ _
  refine mm_aload_n C (mm_dec dk_X2_open 30 rfl) rfl ?_
  refine mm_geti C fl_X2_38 (mm_dec dk_X2_open 31 rfl) rfl rfl (Or.inl rfl) ?_
  refine mm_iconst C (mm_dec dk_X2_open 32 rfl) ⟨by decide, by decide⟩ ?_
  refine mm_isub C (mm_dec dk_X2_open 33 rfl) ⟨by omega, by omega⟩ ?_
  exact mm_iret C T (mm_dec dk_X2_open 34 rfl) (by decide : 0 ≤ 0) (by decide : 0 ≤ 0) ⟨_, rfl, ⟨⟨by omega, by omega⟩, i5, f5⟩⟩
set_option maxRecDepth 100000 in
set_option maxHeartbeats 4000000 in
theorem c_X2_isFree (l : Launch) (hl : l.stackTraces = false) (d : Nat) (hd : 0 ≤ d) (h : mH) (i0 : mm_inv h) (p1 : Int) (bp1 : 0 ≤ p1 ∧ p1 ≤ 7) : mm_Met l d yX2_isFree cX2_isFree 2 (some .boolean) [mR 14, mI p1] h (mm_pi fun r h2 => h2 = h ∧ (r = (h.2.1 17 p1))) mm_nx 0 0 := by
  refine mm_ofW (ls := [mR 14, mI p1]) hl (by decide) rfl (Nat.le_of_ble_eq_true rfl) ?_
  intro x hxl C T hnm htb
  subst hxl
  refine mm_rng (fun hr _ => ?_)
  have ap1 : -2147483648 ≤ p1 ∧ p1 < 2147483648 := mm_ok_at hr (i := 1) rfl
  have f0 : mm_fr [] [] h h := mm_fr_rf
  refine mm_aload_n C (mm_dec dk_X2_isFree 0 rfl) rfl ?_
  refine mm_getr (t := 17) C fl_X2_18 (mm_dec dk_X2_isFree 1 rfl) rfl rfl (mm_ref i0 rfl) ?_
  refine mm_iload_n C (mm_dec dk_X2_isFree 2 rfl) rfl ?_
  refine mm_zald C (mm_dec dk_X2_isFree 3 rfl) rfl (by omega) (by omega) ?_
  have g1 : 0 ≤ (h.2.1 17 p1) ∧ (h.2.1 17 p1) ≤ 1 := i0.2.1 17 p1
  exact mm_zret C T (mm_dec dk_X2_isFree 4 rfl) (by decide : 0 ≤ 0) (by decide : 0 ≤ 0) (by omega) ⟨_, rfl, ⟨rfl, rfl⟩⟩
set_option maxRecDepth 100000 in
set_option maxHeartbeats 4000000 in
theorem c_X2_isTaken (l : Launch) (hl : l.stackTraces = false) (d : Nat) (hd : 0 ≤ d) (h : mH) (i0 : mm_inv h) (p1 : Int) (bp1 : 0 ≤ p1 ∧ p1 ≤ 7) : mm_Met l d yX2_isTaken cX2_isTaken 2 (some .boolean) [mR 14, mI p1] h (mm_pi fun r h2 => h2 = h ∧ (r = (h.2.1 18 p1))) mm_nx 0 0 := by
  refine mm_ofW (ls := [mR 14, mI p1]) hl (by decide) rfl (Nat.le_of_ble_eq_true rfl) ?_
  intro x hxl C T hnm htb
  subst hxl
  refine mm_rng (fun hr _ => ?_)
  have ap1 : -2147483648 ≤ p1 ∧ p1 < 2147483648 := mm_ok_at hr (i := 1) rfl
  have f0 : mm_fr [] [] h h := mm_fr_rf
  refine mm_aload_n C (mm_dec dk_X2_isTaken 0 rfl) rfl ?_
  refine mm_getr (t := 18) C fl_X2_22 (mm_dec dk_X2_isTaken 1 rfl) rfl rfl (mm_ref i0 rfl) ?_
  refine mm_iload_n C (mm_dec dk_X2_isTaken 2 rfl) rfl ?_
  refine mm_zald C (mm_dec dk_X2_isTaken 3 rfl) rfl (by omega) (by omega) ?_
  have g1 : 0 ≤ (h.2.1 18 p1) ∧ (h.2.1 18 p1) ≤ 1 := i0.2.1 18 p1
  exact mm_zret C T (mm_dec dk_X2_isTaken 4 rfl) (by decide : 0 ≤ 0) (by decide : 0 ≤ 0) (by omega) ⟨_, rfl, ⟨rfl, rfl⟩⟩
set_option maxRecDepth 100000 in
set_option maxHeartbeats 4000000 in
theorem c_X2_take (l : Launch) (hl : l.stackTraces = false) (d : Nat) (hd : 0 ≤ d) (h : mH) (i0 : mm_inv h) (p1 : Int) (bp1 : 0 ≤ p1 ∧ p1 ≤ 7) : mm_Met l d yX2_take cX2_take 2 none [mR 14, mI p1] h (mm_pv fun h2 => mm_inv h2 ∧ mm_fr [] [18] h h2) mm_nx 0 0 := by
  refine mm_ofW (ls := [mR 14, mI p1]) hl (by decide) rfl (Nat.le_of_ble_eq_true rfl) ?_
  intro x hxl C T hnm htb
  subst hxl
  refine mm_rng (fun hr _ => ?_)
  have ap1 : -2147483648 ≤ p1 ∧ p1 < 2147483648 := mm_ok_at hr (i := 1) rfl
  have f0 : mm_fr [] [18] h h := mm_fr_rf
  refine mm_aload_n C (mm_dec dk_X2_take 0 rfl) rfl ?_
  refine mm_getr (t := 18) C fl_X2_22 (mm_dec dk_X2_take 1 rfl) rfl rfl (mm_ref i0 rfl) ?_
  refine mm_iload_n C (mm_dec dk_X2_take 2 rfl) rfl ?_
  refine mm_iconst C (mm_dec dk_X2_take 3 rfl) ⟨by decide, by decide⟩ ?_
  refine mm_zast C (mm_dec dk_X2_take 4 rfl) rfl (by omega) (by omega) (by omega) ?_
  have i1 : mm_inv (mm_pa h 18 p1 1) := mm_inv_pa i0 (show 0 ≤ 1 ∧ 1 ≤ 1 from ⟨by omega, by omega⟩)
  have f1 : mm_fr [] [18] h (mm_pa h 18 p1 1) := mm_fr_pa f0 (by decide)
  obtain ⟨h1, eh1⟩ : ∃ z, z = mm_pa h 18 p1 1 := ⟨_, rfl⟩
  rw [← eh1] at i1 f1 ⊢
  exact mm_vret C T (mm_dec dk_X2_take 5 rfl) (by decide : 0 ≤ 0) (by decide : 0 ≤ 0) ⟨rfl, ⟨i1, f1⟩⟩
set_option maxRecDepth 100000 in
set_option maxHeartbeats 4000000 in
theorem c_X2_elements (l : Launch) (hl : l.stackTraces = false) (d : Nat) (hd : 0 ≤ d) (h : mH) (i0 : mm_inv h) (p1 : Int) (bp1 : 0 ≤ p1 ∧ p1 ≤ 7) : mm_Met l d yX2_elements cX2_elements 2 (some .int) [mR 14, mI p1] h (mm_pi fun r h2 => h2 = h ∧ (r = (h.2.1 19 p1))) mm_nx 0 0 := by
  refine mm_ofW (ls := [mR 14, mI p1]) hl (by decide) rfl (Nat.le_of_ble_eq_true rfl) ?_
  intro x hxl C T hnm htb
  subst hxl
  refine mm_rng (fun hr _ => ?_)
  have ap1 : -2147483648 ≤ p1 ∧ p1 < 2147483648 := mm_ok_at hr (i := 1) rfl
  have f0 : mm_fr [] [] h h := mm_fr_rf
  refine mm_aload_n C (mm_dec dk_X2_elements 0 rfl) rfl ?_
  refine mm_getr (t := 19) C fl_X2_25 (mm_dec dk_X2_elements 1 rfl) rfl rfl (mm_ref i0 rfl) ?_
  refine mm_iload_n C (mm_dec dk_X2_elements 2 rfl) rfl ?_
  refine mm_iald C (mm_dec dk_X2_elements 3 rfl) rfl (by omega) (by omega) ?_
  have g1 : 0 ≤ (h.2.1 19 p1) ∧ (h.2.1 19 p1) ≤ 12 := i0.2.1 19 p1
  exact mm_iret C T (mm_dec dk_X2_elements 4 rfl) (by decide : 0 ≤ 0) (by decide : 0 ≤ 0) ⟨_, rfl, ⟨rfl, rfl⟩⟩
set_option maxRecDepth 100000 in
set_option maxHeartbeats 4000000 in
theorem c_X2_forks (l : Launch) (hl : l.stackTraces = false) (d : Nat) (hd : 0 ≤ d) (h : mH) (i0 : mm_inv h) (p1 : Int) (bp1 : 0 ≤ p1 ∧ p1 ≤ 7) : mm_Met l d yX2_forks cX2_forks 2 (some .int) [mR 14, mI p1] h (mm_pi fun r h2 => h2 = h ∧ (r = (h.2.1 20 p1))) mm_nx 0 0 := by
  refine mm_ofW (ls := [mR 14, mI p1]) hl (by decide) rfl (Nat.le_of_ble_eq_true rfl) ?_
  intro x hxl C T hnm htb
  subst hxl
  refine mm_rng (fun hr _ => ?_)
  have ap1 : -2147483648 ≤ p1 ∧ p1 < 2147483648 := mm_ok_at hr (i := 1) rfl
  have f0 : mm_fr [] [] h h := mm_fr_rf
  refine mm_aload_n C (mm_dec dk_X2_forks 0 rfl) rfl ?_
  refine mm_getr (t := 20) C fl_X2_28 (mm_dec dk_X2_forks 1 rfl) rfl rfl (mm_ref i0 rfl) ?_
  refine mm_iload_n C (mm_dec dk_X2_forks 2 rfl) rfl ?_
  refine mm_iald C (mm_dec dk_X2_forks 3 rfl) rfl (by omega) (by omega) ?_
  have g1 : -2147483648 ≤ (h.2.1 20 p1) ∧ (h.2.1 20 p1) ≤ 2147483647 := i0.2.1 20 p1
  exact mm_iret C T (mm_dec dk_X2_forks 4 rfl) (by decide : 0 ≤ 0) (by decide : 0 ≤ 0) ⟨_, rfl, ⟨rfl, rfl⟩⟩
set_option maxRecDepth 100000 in
set_option maxHeartbeats 4000000 in
theorem c_X2_lengthen (l : Launch) (hl : l.stackTraces = false) (d : Nat) (hd : 0 ≤ d) (h : mH) (i0 : mm_inv h) (p1 : Int) (p2 : Int) (p3 : Int) (p4 : Int) (bp1 : 0 ≤ p1 ∧ p1 ≤ 7) (bp2 : 0 ≤ p2 ∧ p2 ≤ 19) (bp3 : 0 ≤ p3 ∧ p3 ≤ 19) (bp4 : 0 ≤ p4 ∧ p4 ≤ 19) (u0 : (h.2.1 19 p1) ≤ 11) : mm_Met l d yX2_lengthen cX2_lengthen 6 (some .int) [mR 14, mI p1, mI p2, mI p3, mI p4] h (mm_pi fun r h2 => (1 ≤ r ∧ r ≤ 12) ∧ mm_inv h2 ∧ mm_fr [] [19, 20, 21] h h2) mm_nx 0 0 := by
  refine mm_ofW (ls := [mR 14, mI p1, mI p2, mI p3, mI p4, mU]) hl (by decide) rfl (Nat.le_of_ble_eq_true rfl) ?_
  intro x hxl C T hnm htb
  subst hxl
  refine mm_rng (fun hr _ => ?_)
  have ap1 : -2147483648 ≤ p1 ∧ p1 < 2147483648 := mm_ok_at hr (i := 1) rfl
  have ap2 : -2147483648 ≤ p2 ∧ p2 < 2147483648 := mm_ok_at hr (i := 2) rfl
  have ap3 : -2147483648 ≤ p3 ∧ p3 < 2147483648 := mm_ok_at hr (i := 3) rfl
  have ap4 : -2147483648 ≤ p4 ∧ p4 < 2147483648 := mm_ok_at hr (i := 4) rfl
  have f0 : mm_fr [] [19, 20, 21] h h := mm_fr_rf
  refine mm_iload_n C (mm_dec dk_X2_lengthen 0 rfl) rfl ?_
  refine mm_bipush C (mm_dec dk_X2_lengthen 1 rfl) ⟨by decide, by decide⟩ ?_
  refine mm_imul C (mm_dec dk_X2_lengthen 2 rfl) ⟨by omega, by omega⟩ ?_
  refine mm_aload_n C (mm_dec dk_X2_lengthen 3 rfl) rfl ?_
  refine mm_getr (t := 19) C fl_X2_25 (mm_dec dk_X2_lengthen 4 rfl) rfl rfl (mm_ref i0 rfl) ?_
  refine mm_iload_n C (mm_dec dk_X2_lengthen 5 rfl) rfl ?_
  refine mm_iald C (mm_dec dk_X2_lengthen 6 rfl) rfl (by omega) (by omega) ?_
  have g1 : 0 ≤ (h.2.1 19 p1) ∧ (h.2.1 19 p1) ≤ 12 := i0.2.1 19 p1
  refine mm_iadd C (mm_dec dk_X2_lengthen 7 rfl) ⟨by omega, by omega⟩ ?_
  refine mm_iconst C (mm_dec dk_X2_lengthen 8 rfl) ⟨by decide, by decide⟩ ?_
  refine mm_imul C (mm_dec dk_X2_lengthen 9 rfl) ⟨by omega, by omega⟩ ?_
  refine mm_istoreL (ls2 := [mR 14, mI p1, mI p2, mI p3, mI p4, mI (((p1 * 12) + (h.2.1 19 p1)) * 3)]) C (mm_dec dk_X2_lengthen 10 rfl) (by decide) rfl ?_
  refine mm_aload_n C (mm_dec dk_X2_lengthen 11 rfl) rfl ?_
  refine mm_getr (t := 21) C fl_X2_31 (mm_dec dk_X2_lengthen 12 rfl) rfl rfl (mm_ref i0 rfl) ?_
  refine mm_iload C (mm_dec dk_X2_lengthen 13 rfl) rfl ?_
  refine mm_iload_n C (mm_dec dk_X2_lengthen 14 rfl) rfl ?_
  refine mm_iast C (mm_dec dk_X2_lengthen 15 rfl) rfl (by omega) (by omega) ?_
  have i1 : mm_inv (mm_pa h 21 (((p1 * 12) + (h.2.1 19 p1)) * 3) p2) := mm_inv_pa i0 (show 0 ≤ p2 ∧ p2 ≤ 19 from ⟨by omega, by omega⟩)
  have f1 : mm_fr [] [19, 20, 21] h (mm_pa h 21 (((p1 * 12) + (h.2.1 19 p1)) * 3) p2) := mm_fr_pa f0 (by decide)
  obtain ⟨h1, eh1⟩ : ∃ z, z = mm_pa h 21 (((p1 * 12) + (h.2.1 19 p1)) * 3) p2 := ⟨_, rfl⟩
  rw [← eh1] at i1 f1 ⊢
  have qh1_2 : h1.2.1 19 p1 = h.2.1 19 p1 := by rw [eh1]; exact mm_pa_ne _ _ (fun q => absurd q.1 (by decide))
  refine mm_aload_n C (mm_dec dk_X2_lengthen 16 rfl) rfl ?_
  refine mm_getr (t := 21) C fl_X2_31 (mm_dec dk_X2_lengthen 17 rfl) rfl rfl (mm_ref i1 rfl) ?_
  refine mm_iload C (mm_dec dk_X2_lengthen 18 rfl) rfl ?_
  refine mm_iconst C (mm_dec dk_X2_lengthen 19 rfl) ⟨by decide, by decide⟩ ?_
  refine mm_iadd C (mm_dec dk_X2_lengthen 20 rfl) ⟨by omega, by omega⟩ ?_
  refine mm_iload_n C (mm_dec dk_X2_lengthen 21 rfl) rfl ?_
  refine mm_iast C (mm_dec dk_X2_lengthen 22 rfl) rfl (by omega) (by omega) ?_
  have i2 : mm_inv (mm_pa h1 21 ((((p1 * 12) + (h.2.1 19 p1)) * 3) + 1) p3) := mm_inv_pa i1 (show 0 ≤ p3 ∧ p3 ≤ 19 from ⟨by omega, by omega⟩)
  have f2 : mm_fr [] [19, 20, 21] h (mm_pa h1 21 ((((p1 * 12) + (h.2.1 19 p1)) * 3) + 1) p3) := mm_fr_pa f1 (by decide)
  obtain ⟨h2, eh2⟩ : ∃ z, z = mm_pa h1 21 ((((p1 * 12) + (h.2.1 19 p1)) * 3) + 1) p3 := ⟨_, rfl⟩
  rw [← eh2] at i2 f2 ⊢
  have qh2_3 : h2.2.1 19 p1 = h1.2.1 19 p1 := by rw [eh2]; exact mm_pa_ne _ _ (fun q => absurd q.1 (by decide))
  refine mm_aload_n C (mm_dec dk_X2_lengthen 23 rfl) rfl ?_
  refine mm_getr (t := 21) C fl_X2_31 (mm_dec dk_X2_lengthen 24 rfl) rfl rfl (mm_ref i2 rfl) ?_
  refine mm_iload C (mm_dec dk_X2_lengthen 25 rfl) rfl ?_
  refine mm_iconst C (mm_dec dk_X2_lengthen 26 rfl) ⟨by decide, by decide⟩ ?_
  refine mm_iadd C (mm_dec dk_X2_lengthen 27 rfl) ⟨by omega, by omega⟩ ?_
  refine mm_iload C (mm_dec dk_X2_lengthen 28 rfl) rfl ?_
  refine mm_iast C (mm_dec dk_X2_lengthen 29 rfl) rfl (by omega) (by omega) ?_
  have i3 : mm_inv (mm_pa h2 21 ((((p1 * 12) + (h.2.1 19 p1)) * 3) + 2) p4) := mm_inv_pa i2 (show 0 ≤ p4 ∧ p4 ≤ 19 from ⟨by omega, by omega⟩)
  have f3 : mm_fr [] [19, 20, 21] h (mm_pa h2 21 ((((p1 * 12) + (h.2.1 19 p1)) * 3) + 2) p4) := mm_fr_pa f2 (by decide)
  obtain ⟨h3, eh3⟩ : ∃ z, z = mm_pa h2 21 ((((p1 * 12) + (h.2.1 19 p1)) * 3) + 2) p4 := ⟨_, rfl⟩
  rw [← eh3] at i3 f3 ⊢
  have qh3_4 : h3.2.1 19 p1 = h2.2.1 19 p1 := by rw [eh3]; exact mm_pa_ne _ _ (fun q => absurd q.1 (by decide))
  refine mm_iload_n C (mm_dec dk_X2_lengthen 30 rfl) rfl ?_
  refine mm_iload_n C (mm_dec dk_X2_lengthen 31 rfl) rfl ?_
  have J59 : ∀ (h59_ : mH) (i59_ : mm_inv h59_) (f59_ : mm_fr [] [19, 20, 21] h h59_) (w59_0 : h59_.2.1 19 p1 = h.2.1 19 p1), mm_W x 0 0 59 [mR 14, mI p1, mU, mU, mU, mU] [] h59_ := by
    intro h59_ i59_ f59_ w59_0
    refine mm_aload_n C (mm_dec dk_X2_lengthen 41 rfl) rfl ?_
    refine mm_getr (t := 19) C fl_X2_25 (mm_dec dk_X2_lengthen 42 rfl) rfl rfl (mm_ref i59_ rfl) ?_
    refine mm_iload_n C (mm_dec dk_X2_lengthen 43 rfl) rfl ?_
    refine mm_dup2 C (mm_dec dk_X2_lengthen 44 rfl) (show (0 : Nat) ≠ 1 by decide) (show (2 : Nat) ≠ 1 by decide) ?_
    refine mm_iald C (mm_dec dk_X2_lengthen 45 rfl) rfl (by omega) (by omega) ?_
    have g5 : 0 ≤ (h59_.2.1 19 p1) ∧ (h59_.2.1 19 p1) ≤ 12 := i59_.2.1 19 p1
    refine mm_iconst C (mm_dec dk_X2_lengthen 46 rfl) ⟨by decide, by decide⟩ ?_
    refine mm_iadd C (mm_dec dk_X2_lengthen 47 rfl) ⟨by omega, by omega⟩ ?_
    refine mm_iast C (mm_dec dk_X2_lengthen 48 rfl) rfl (by omega) (by omega) ?_
    have i4 : mm_inv (mm_pa h59_ 19 p1 ((h59_.2.1 19 p1) + 1)) := mm_inv_pa i59_ (show 0 ≤ ((h59_.2.1 19 p1) + 1) ∧ ((h59_.2.1 19 p1) + 1) ≤ 12 from ⟨by omega, by omega⟩)
    have f4 : mm_fr [] [19, 20, 21] h (mm_pa h59_ 19 p1 ((h59_.2.1 19 p1) + 1)) := mm_fr_pa f59_ (by decide)
    obtain ⟨h4, eh4⟩ : ∃ z, z = mm_pa h59_ 19 p1 ((h59_.2.1 19 p1) + 1) := ⟨_, rfl⟩
    rw [← eh4] at i4 f4 ⊢
    have qh4_6 : h4.2.1 19 p1 = ((h59_.2.1 19 p1) + 1) := by rw [eh4]; exact mm_pa_same _ _ _ _
    refine mm_aload_n C (mm_dec dk_X2_lengthen 49 rfl) rfl ?_
    refine mm_getr (t := 19) C fl_X2_25 (mm_dec dk_X2_lengthen 50 rfl) rfl rfl (mm_ref i4 rfl) ?_
    refine mm_iload_n C (mm_dec dk_X2_lengthen 51 rfl) rfl ?_
    refine mm_iald C (mm_dec dk_X2_lengthen 52 rfl) rfl (by omega) (by omega) ?_
    have g7 : 0 ≤ (h4.2.1 19 p1) ∧ (h4.2.1 19 p1) ≤ 12 := i4.2.1 19 p1
    exact mm_iret C T (mm_dec dk_X2_lengthen 53 rfl) (by decide : 0 ≤ 0) (by decide : 0 ≤ 0) ⟨_, rfl, ⟨⟨by omega, by omega⟩, i4, f4⟩⟩
  refine mm_icmp_eq (tgt := 59) C (mm_dec dk_X2_lengthen 32 rfl) (by decide) (fun c46 => ?_) (fun c46 => ?_)
  · skip
    refine mm_fgt 2 ?_
    refine mm_fgt 3 ?_
    refine mm_fgt 4 ?_
    refine mm_fgt 5 ?_
    exact J59 h3 i3 f3 (by omega)
  · skip
    refine mm_aload_n C (mm_dec dk_X2_lengthen 33 rfl) rfl ?_
    refine mm_getr (t := 20) C fl_X2_28 (mm_dec dk_X2_lengthen 34 rfl) rfl rfl (mm_ref i3 rfl) ?_
    refine mm_iload_n C (mm_dec dk_X2_lengthen 35 rfl) rfl ?_
    refine mm_dup2 C (mm_dec dk_X2_lengthen 36 rfl) (show (0 : Nat) ≠ 1 by decide) (show (2 : Nat) ≠ 1 by decide) ?_
    refine mm_iald C (mm_dec dk_X2_lengthen 37 rfl) rfl (by omega) (by omega) ?_
    have g8 : -2147483648 ≤ (h3.2.1 20 p1) ∧ (h3.2.1 20 p1) ≤ 2147483647 := i3.2.1 20 p1
    refine mm_iconst C (mm_dec dk_X2_lengthen 38 rfl) ⟨by decide, by decide⟩ ?_
    refine mm_iaddw C (mm_dec dk_X2_lengthen 39 rfl) ?_
    have g9 : -2147483648 ≤ (mm_w ((h3.2.1 20 p1) + 1)) ∧ (mm_w ((h3.2.1 20 p1) + 1)) < 2147483648 := mm_w_rg _
    refine mm_iast C (mm_dec dk_X2_lengthen 40 rfl) rfl (by omega) (by omega) ?_
    have i5 : mm_inv (mm_pa h3 20 p1 (mm_w ((h3.2.1 20 p1) + 1))) := mm_inv_pa i3 (show -2147483648 ≤ (mm_w ((h3.2.1 20 p1) + 1)) ∧ (mm_w ((h3.2.1 20 p1) + 1)) ≤ 2147483647 from ⟨by omega, by omega⟩)
    have f5 : mm_fr [] [19, 20, 21] h (mm_pa h3 20 p1 (mm_w ((h3.2.1 20 p1) + 1))) := mm_fr_pa f3 (by decide)
    obtain ⟨h5, eh5⟩ : ∃ z, z = mm_pa h3 20 p1 (mm_w ((h3.2.1 20 p1) + 1)) := ⟨_, rfl⟩
    rw [← eh5] at i5 f5 ⊢
    have qh5_10 : h5.2.1 19 p1 = h3.2.1 19 p1 := by rw [eh5]; exact mm_pa_ne _ _ (fun q => absurd q.1 (by decide))
    refine mm_fgt 2 ?_
    refine mm_fgt 3 ?_
    refine mm_fgt 4 ?_
    refine mm_fgt 5 ?_
    exact J59 h5 i5 f5 (by omega)
set_option maxRecDepth 100000 in
set_option maxHeartbeats 4000000 in
theorem c_X3_drawn (l : Launch) (hl : l.stackTraces = false) (d : Nat) (hd : 0 ≤ d) (h : mH) (i0 : mm_inv h) (p1 : Int) (bp1 : 0 ≤ p1 ∧ p1 ≤ 39) : mm_Met l d yX3_drawn cX3_drawn 2 (some .int) [mR 54, mI p1] h (mm_pi fun r h2 => h2 = h ∧ (r = (h.2.1 56 p1))) mm_nx 0 0 := by
  refine mm_ofW (ls := [mR 54, mI p1]) hl (by decide) rfl (Nat.le_of_ble_eq_true rfl) ?_
  intro x hxl C T hnm htb
  subst hxl
  refine mm_rng (fun hr _ => ?_)
  have ap1 : -2147483648 ≤ p1 ∧ p1 < 2147483648 := mm_ok_at hr (i := 1) rfl
  have f0 : mm_fr [] [] h h := mm_fr_rf
  refine mm_aload_n C (mm_dec dk_X3_drawn 0 rfl) rfl ?_
  refine mm_getr (t := 56) C fl_X3_15 (mm_dec dk_X3_drawn 1 rfl) rfl rfl (mm_ref i0 rfl) ?_
  refine mm_iload_n C (mm_dec dk_X3_drawn 2 rfl) rfl ?_
  refine mm_iald C (mm_dec dk_X3_drawn 3 rfl) rfl (by omega) (by omega) ?_
  have g1 : 0 ≤ (h.2.1 56 p1) ∧ (h.2.1 56 p1) ≤ 39 := i0.2.1 56 p1
  exact mm_iret C T (mm_dec dk_X3_drawn 4 rfl) (by decide : 0 ≤ 0) (by decide : 0 ≤ 0) ⟨_, rfl, ⟨rfl, rfl⟩⟩
set_option maxRecDepth 100000 in
set_option maxHeartbeats 4000000 in
theorem c_X3_restCanFollow (l : Launch) (hl : l.stackTraces = false) (d : Nat) (hd : 0 ≤ d) (h : mH) (i0 : mm_inv h) (p1 : Int) (p2 : Int) (bp1 : 0 ≤ p1 ∧ p1 ≤ 9) : mm_Met l d yX3_restCanFollow cX3_restCanFollow 4 (some .boolean) [mR 54, mI p1, mI p2] h (mm_pi fun r h2 => (0 ≤ r ∧ r ≤ 1) ∧ h2 = h) mm_nx 0 0 := by
  refine mm_ofW (ls := [mR 54, mI p1, mI p2, mU]) hl (by decide) rfl (Nat.le_of_ble_eq_true rfl) ?_
  intro x hxl C T hnm htb
  subst hxl
  refine mm_rng (fun hr _ => ?_)
  have ap1 : -2147483648 ≤ p1 ∧ p1 < 2147483648 := mm_ok_at hr (i := 1) rfl
  have ap2 : -2147483648 ≤ p2 ∧ p2 < 2147483648 := mm_ok_at hr (i := 2) rfl
  have f0 : mm_fr [] [] h h := mm_fr_rf
  refine mm_iconst C (mm_dec dk_X3_restCanFollow 0 rfl) ⟨by decide, by decide⟩ ?_
  have J2 : ∀ (n : Nat) (x2_3 : Int) (bx2_3 : 0 ≤ x2_3 ∧ x2_3 ≤ 10), (10 - x2_3 : Int) < n → mm_W x 0 0 2 [mR 54, mI p1, mI p2, mI x2_3] [] h := by
    intro n
    induction n with
    | zero =>
      intro x2_3 bx2_3 hm
      exfalso; omega
    | succ n ih2 =>
      intro x2_3 bx2_3 hm2
      refine mm_iload_n C (mm_dec dk_X3_restCanFollow 2 rfl) rfl ?_
      refine mm_bipush C (mm_dec dk_X3_restCanFollow 3 rfl) ⟨by decide, by decide⟩ ?_
      refine mm_icmp_ge (tgt := 52) C (mm_dec dk_X3_restCanFollow 4 rfl) (by decide) (fun c5 => ?_) (fun c5 => ?_)
      · skip
        refine mm_iconst C (mm_dec dk_X3_restCanFollow 33 rfl) ⟨by decide, by decide⟩ ?_
        exact mm_zret C T (mm_dec dk_X3_restCanFollow 34 rfl) (by decide : 0 ≤ 0) (by decide : 0 ≤ 0) (by omega) ⟨_, rfl, ⟨⟨by omega, by omega⟩, rfl⟩⟩
      · skip
        refine mm_iload_n C (mm_dec dk_X3_restCanFollow 5 rfl) rfl ?_
        refine mm_iload_n C (mm_dec dk_X3_restCanFollow 6 rfl) rfl ?_
        have J46 : mm_W x 0 0 46 [mR 54, mI p1, mI p2, mI x2_3] [] h := by
          refine mm_iincL (ls2 := [mR 54, mI p1, mI p2, mI (x2_3 + 1)]) C (mm_dec dk_X3_restCanFollow 31 rfl) rfl (by decide) ⟨by omega, by omega⟩ rfl ?_
          refine mm_goto (tgt := 2) C (mm_dec dk_X3_restCanFollow 32 rfl) (by decide) ?_
          exact ih2 (x2_3 + 1) ⟨by omega, by omega⟩ (by omega)
        have J44 : mm_W x 0 0 44 [mU, mU, mU, mU] [] h := by
          refine mm_iconst C (mm_dec dk_X3_restCanFollow 29 rfl) ⟨by decide, by decide⟩ ?_
          exact mm_zret C T (mm_dec dk_X3_restCanFollow 30 rfl) (by decide : 0 ≤ 0) (by decide : 0 ≤ 0) (by omega) ⟨_, rfl, ⟨⟨by omega, by omega⟩, rfl⟩⟩
        refine mm_icmp_ne (tgt := 30) C (mm_dec dk_X3_restCanFollow 7 rfl) (by decide) (fun c10 => ?_) (fun c10 => ?_)
        · skip
          refine mm_aload_n C (mm_dec dk_X3_restCanFollow 19 rfl) rfl ?_
          refine mm_getr (t := 57) C fl_X3_18 (mm_dec dk_X3_restCanFollow 20 rfl) rfl rfl (mm_ref i0 rfl) ?_
          refine mm_iload_n C (mm_dec dk_X3_restCanFollow 21 rfl) rfl ?_
          refine mm_iald C (mm_dec dk_X3_restCanFollow 22 rfl) rfl (by omega) (by omega) ?_
          have g1 : -2147483648 ≤ (h.2.1 57 x2_3) ∧ (h.2.1 57 x2_3) ≤ 2147483647 := i0.2.1 57 x2_3
          refine mm_iload_n C (mm_dec dk_X3_restCanFollow 23 rfl) rfl ?_
          refine mm_iconst C (mm_dec dk_X3_restCanFollow 24 rfl) ⟨by decide, by decide⟩ ?_
          refine mm_iaddw C (mm_dec dk_X3_restCanFollow 25 rfl) ?_
          have g2 : -2147483648 ≤ (mm_w (p2 + 1)) ∧ (mm_w (p2 + 1)) < 2147483648 := mm_w_rg _
          refine mm_iconst C (mm_dec dk_X3_restCanFollow 26 rfl) ⟨by decide, by decide⟩ ?_
          refine mm_idivw C (mm_dec dk_X3_restCanFollow 27 rfl) (by omega) ?_
          have g4 : -2147483648 ≤ (mm_w (Int.tdiv (mm_w (p2 + 1)) 2)) ∧ (mm_w (Int.tdiv (mm_w (p2 + 1)) 2)) < 2147483648 := mm_w_rg _
          refine mm_icmp_le (tgt := 46) C (mm_dec dk_X3_restCanFollow 28 rfl) (by decide) (fun c41 => ?_) (fun c41 => ?_)
          · skip
            exact J46
          · skip
            refine mm_fgt 0 ?_
            refine mm_fgt 1 ?_
            refine mm_fgt 2 ?_
            refine mm_fgt 3 ?_
            exact J44
        · skip
          refine mm_aload_n C (mm_dec dk_X3_restCanFollow 8 rfl) rfl ?_
          refine mm_getr (t := 57) C fl_X3_18 (mm_dec dk_X3_restCanFollow 9 rfl) rfl rfl (mm_ref i0 rfl) ?_
          refine mm_iload_n C (mm_dec dk_X3_restCanFollow 10 rfl) rfl ?_
          refine mm_iald C (mm_dec dk_X3_restCanFollow 11 rfl) rfl (by omega) (by omega) ?_
          have g5 : -2147483648 ≤ (h.2.1 57 x2_3) ∧ (h.2.1 57 x2_3) ≤ 2147483647 := i0.2.1 57 x2_3
          refine mm_iconst C (mm_dec dk_X3_restCanFollow 12 rfl) ⟨by decide, by decide⟩ ?_
          refine mm_isubw C (mm_dec dk_X3_restCanFollow 13 rfl) ?_
          have g6 : -2147483648 ≤ (mm_w ((h.2.1 57 x2_3) - 1)) ∧ (mm_w ((h.2.1 57 x2_3) - 1)) < 2147483648 := mm_w_rg _
          refine mm_iload_n C (mm_dec dk_X3_restCanFollow 14 rfl) rfl ?_
          refine mm_iconst C (mm_dec dk_X3_restCanFollow 15 rfl) ⟨by decide, by decide⟩ ?_
          refine mm_idivw C (mm_dec dk_X3_restCanFollow 16 rfl) (by omega) ?_
          have g8 : -2147483648 ≤ (mm_w (Int.tdiv p2 2)) ∧ (mm_w (Int.tdiv p2 2)) < 2147483648 := mm_w_rg _
          refine mm_icmp_le (tgt := 46) C (mm_dec dk_X3_restCanFollow 17 rfl) (by decide) (fun c24 => ?_) (fun c24 => ?_)
          · skip
            exact J46
          · skip
            refine mm_goto (tgt := 44) C (mm_dec dk_X3_restCanFollow 18 rfl) (by decide) ?_
            refine mm_fgt 0 ?_
            refine mm_fgt 1 ?_
            refine mm_fgt 2 ?_
            refine mm_fgt 3 ?_
            exact J44
  refine mm_istore_nL (ls2 := [mR 54, mI p1, mI p2, mI 0]) C (mm_dec dk_X3_restCanFollow 1 rfl) (by decide) rfl ?_
  exact J2 (((10 - 0) : Int) + 1).toNat 0 ⟨by omega, by omega⟩ (by omega)
set_option maxRecDepth 100000 in
set_option maxHeartbeats 4000000 in
theorem c_X4_answer (l : Launch) (hl : l.stackTraces = false) (d : Nat) (hd : 0 ≤ d) (h : mH) (i0 : mm_inv h) (p1 : Int) : mm_Met l d yX4_answer cX4_answer 2 (some .int) [mR 46, mI p1] h (mm_pi fun r h2 => h2 = h ∧ (r = (h.1 46 10) ∨ (p1 = 0 ∧ r = (h.1 46 5)) ∨ (p1 = 1 ∧ r = (h.1 46 6)) ∨ (p1 = 2 ∧ r = (h.1 46 7)) ∨ (p1 = 3 ∧ r = (h.2.1 47 0)) ∨ (p1 = 4 ∧ r = (h.2.1 47 1)) ∨ (p1 = 5 ∧ r = (h.2.1 47 3)) ∨ (p1 = 6 ∧ r = (h.1 46 8)))) mm_nx 0 0 := by
  refine mm_ofW (ls := [mR 46, mI p1]) hl (by decide) rfl (Nat.le_of_ble_eq_true rfl) ?_
  intro x hxl C T hnm htb
  subst hxl
  refine mm_rng (fun hr _ => ?_)
  have ap1 : -2147483648 ≤ p1 ∧ p1 < 2147483648 := mm_ok_at hr (i := 1) rfl
  have f0 : mm_fr [] [] h h := mm_fr_rf
  refine mm_iload_n C (mm_dec dk_X4_answer 0 rfl) rfl ?_
  refine mm_table (t0 := 85) [44, 49, 54, 59, 66, 73, 80] C (mm_dec dk_X4_answer 1 rfl) (by decide) (by decide) (by decide +kernel) (fun c1 => ?_) (fun k1 hk1 c1 => ?_)
  · skip
    refine mm_aload_n C (mm_dec dk_X4_answer 29 rfl) rfl ?_
    refine mm_geti C fl_X4_32 (mm_dec dk_X4_answer 30 rfl) rfl rfl (Or.inl rfl) ?_
    have g1 : -2147483648 ≤ (h.1 46 10) ∧ (h.1 46 10) ≤ 2147483647 := i0.1 46 10
    exact mm_iret C T (mm_dec dk_X4_answer 31 rfl) (by decide : 0 ≤ 0) (by decide : 0 ≤ 0) ⟨_, rfl, ⟨rfl, Or.inl rfl⟩⟩
  · have hq1 : k1 < 7 := hk1
    rcases (by omega : k1 = 0 ∨ k1 = 1 ∨ k1 = 2 ∨ k1 = 3 ∨ k1 = 4 ∨ k1 = 5 ∨ k1 = 6) with rfl | rfl | rfl | rfl | rfl | rfl | rfl
    · show mm_W x 0 0 44 _ _ _
      refine mm_aload_n C (mm_dec dk_X4_answer 2 rfl) rfl ?_
      refine mm_geti C fl_X4_15 (mm_dec dk_X4_answer 3 rfl) rfl rfl (Or.inl rfl) ?_
      have g2 : -2147483648 ≤ (h.1 46 5) ∧ (h.1 46 5) ≤ 2147483647 := i0.1 46 5
      exact mm_iret C T (mm_dec dk_X4_answer 4 rfl) (by decide : 0 ≤ 0) (by decide : 0 ≤ 0) ⟨_, rfl, ⟨rfl, Or.inr (Or.inl ⟨by omega, rfl⟩)⟩⟩
    · show mm_W x 0 0 49 _ _ _
      refine mm_aload_n C (mm_dec dk_X4_answer 5 rfl) rfl ?_
      refine mm_geti C fl_X4_19 (mm_dec dk_X4_answer 6 rfl) rfl rfl (Or.inl rfl) ?_
      have g3 : -2147483648 ≤ (h.1 46 6) ∧ (h.1 46 6) ≤ 2147483647 := i0.1 46 6
      exact mm_iret C T (mm_dec dk_X4_answer 7 rfl) (by decide : 0 ≤ 0) (by decide : 0 ≤ 0) ⟨_, rfl, ⟨rfl, Or.inr (Or.inr (Or.inl ⟨by omega, rfl⟩))⟩⟩
    · show mm_W x 0 0 54 _ _ _
      refine mm_aload_n C (mm_dec dk_X4_answer 8 rfl) rfl ?_
      refine mm_geti C fl_X4_22 (mm_dec dk_X4_answer 9 rfl) rfl rfl (Or.inl rfl) ?_
      have g4 : -2147483648 ≤ (h.1 46 7) ∧ (h.1 46 7) ≤ 2147483647 := i0.1 46 7
      exact mm_iret C T (mm_dec dk_X4_answer 10 rfl) (by decide : 0 ≤ 0) (by decide : 0 ≤ 0) ⟨_, rfl, ⟨rfl, Or.inr (Or.inr (Or.inr (Or.inl ⟨by omega, rfl⟩)))⟩⟩
    · show mm_W x 0 0 59 _ _ _
      refine mm_aload_n C (mm_dec dk_X4_answer 11 rfl) rfl ?_
      refine mm_getr (t := 47) C fl_X4_9 (mm_dec dk_X4_answer 12 rfl) rfl rfl (mm_ref i0 rfl) ?_
      refine mm_iconst C (mm_dec dk_X4_answer 13 rfl) ⟨by decide, by decide⟩ ?_
      refine mm_iald C (mm_dec dk_X4_answer 14 rfl) rfl (by omega) (by omega) ?_
      have g5 : -2147483648 ≤ (h.2.1 47 0) ∧ (h.2.1 47 0) ≤ 2147483647 := i0.2.1 47 0
      exact mm_iret C T (mm_dec dk_X4_answer 15 rfl) (by decide : 0 ≤ 0) (by decide : 0 ≤ 0) ⟨_, rfl, ⟨rfl, Or.inr (Or.inr (Or.inr (Or.inr (Or.inl ⟨by omega, rfl⟩))))⟩⟩
    · show mm_W x 0 0 66 _ _ _
      refine mm_aload_n C (mm_dec dk_X4_answer 16 rfl) rfl ?_
      refine mm_getr (t := 47) C fl_X4_9 (mm_dec dk_X4_answer 17 rfl) rfl rfl (mm_ref i0 rfl) ?_
      refine mm_iconst C (mm_dec dk_X4_answer 18 rfl) ⟨by decide, by decide⟩ ?_
      refine mm_iald C (mm_dec dk_X4_answer 19 rfl) rfl (by omega) (by omega) ?_
      have g6 : -2147483648 ≤ (h.2.1 47 1) ∧ (h.2.1 47 1) ≤ 2147483647 := i0.2.1 47 1
      exact mm_iret C T (mm_dec dk_X4_answer 20 rfl) (by decide : 0 ≤ 0) (by decide : 0 ≤ 0) ⟨_, rfl, ⟨rfl, Or.inr (Or.inr (Or.inr (Or.inr (Or.inr (Or.inl ⟨by omega, rfl⟩)))))⟩⟩
    · show mm_W x 0 0 73 _ _ _
      refine mm_aload_n C (mm_dec dk_X4_answer 21 rfl) rfl ?_
      refine mm_getr (t := 47) C fl_X4_9 (mm_dec dk_X4_answer 22 rfl) rfl rfl (mm_ref i0 rfl) ?_
      refine mm_iconst C (mm_dec dk_X4_answer 23 rfl) ⟨by decide, by decide⟩ ?_
      refine mm_iald C (mm_dec dk_X4_answer 24 rfl) rfl (by omega) (by omega) ?_
      have g7 : -2147483648 ≤ (h.2.1 47 3) ∧ (h.2.1 47 3) ≤ 2147483647 := i0.2.1 47 3
      exact mm_iret C T (mm_dec dk_X4_answer 25 rfl) (by decide : 0 ≤ 0) (by decide : 0 ≤ 0) ⟨_, rfl, ⟨rfl, Or.inr (Or.inr (Or.inr (Or.inr (Or.inr (Or.inr (Or.inl ⟨by omega, rfl⟩))))))⟩⟩
    · show mm_W x 0 0 80 _ _ _
      refine mm_aload_n C (mm_dec dk_X4_answer 26 rfl) rfl ?_
      refine mm_geti C fl_X4_25 (mm_dec dk_X4_answer 27 rfl) rfl rfl (Or.inl rfl) ?_
      have g8 : -2147483648 ≤ (h.1 46 8) ∧ (h.1 46 8) ≤ 2147483647 := i0.1 46 8
      exact mm_iret C T (mm_dec dk_X4_answer 28 rfl) (by decide : 0 ≤ 0) (by decide : 0 ≤ 0) ⟨_, rfl, ⟨rfl, Or.inr (Or.inr (Or.inr (Or.inr (Or.inr (Or.inr (Or.inr (⟨by omega, rfl⟩)))))))⟩⟩
set_option maxRecDepth 100000 in
set_option maxHeartbeats 4000000 in
theorem c_X4_teamTime (l : Launch) (hl : l.stackTraces = false) (d : Nat) (hd : 0 ≤ d) (h : mH) (i0 : mm_inv h) : mm_Met l d yX4_teamTime cX4_teamTime 1 (some .int) [mR 46] h (mm_pi fun r h2 => h2 = h ∧ (r = (h.1 46 11))) mm_nx 0 0 := by
  refine mm_ofW (ls := [mR 46]) hl (by decide) rfl (Nat.le_of_ble_eq_true rfl) ?_
  intro x hxl C T hnm htb
  subst hxl
  have f0 : mm_fr [] [] h h := mm_fr_rf
  refine mm_aload_n C (mm_dec dk_X4_teamTime 0 rfl) rfl ?_
  refine mm_geti C fl_X4_35 (mm_dec dk_X4_teamTime 1 rfl) rfl rfl (Or.inl rfl) ?_
  have g1 : -2147483648 ≤ (h.1 46 11) ∧ (h.1 46 11) ≤ 2147483647 := i0.1 46 11
  exact mm_iret C T (mm_dec dk_X4_teamTime 2 rfl) (by decide : 0 ≤ 0) (by decide : 0 ≤ 0) ⟨_, rfl, ⟨rfl, rfl⟩⟩
set_option maxRecDepth 100000 in
set_option maxHeartbeats 4000000 in
theorem c_X4_isBetterFree (l : Launch) (hl : l.stackTraces = false) (d : Nat) (hd : 0 ≤ d) (h : mH) (i0 : mm_inv h) (p1 : Int) (p2 : Int) : mm_Met l d yX4_isBetterFree cX4_isBetterFree 3 (some .boolean) [mR 46, mI p1, mI p2] h (mm_pi fun r h2 => h2 = h ∧ ((p1 < (h.1 46 10) ∧ r = 1) ∨ ((h.1 46 10) ≤ p1 ∧ (h.1 46 10) ≠ p1 ∧ r = 0) ∨ ((h.1 46 10) ≤ p1 ∧ (h.1 46 10) = p1 ∧ p2 ≤ (h.2.1 47 2) ∧ r = 0) ∨ ((h.1 46 10) ≤ p1 ∧ (h.1 46 10) = p1 ∧ (h.2.1 47 2) < p2 ∧ r = 1))) mm_nx 0 0 := by
  refine mm_ofW (ls := [mR 46, mI p1, mI p2]) hl (by decide) rfl (Nat.le_of_ble_eq_true rfl) ?_
  intro x hxl C T hnm htb
  subst hxl
  refine mm_rng (fun hr _ => ?_)
  have ap1 : -2147483648 ≤ p1 ∧ p1 < 2147483648 := mm_ok_at hr (i := 1) rfl
  have ap2 : -2147483648 ≤ p2 ∧ p2 < 2147483648 := mm_ok_at hr (i := 2) rfl
  have f0 : mm_fr [] [] h h := mm_fr_rf
  refine mm_aload_n C (mm_dec dk_X4_isBetterFree 0 rfl) rfl ?_
  refine mm_geti C fl_X4_32 (mm_dec dk_X4_isBetterFree 1 rfl) rfl rfl (Or.inl rfl) ?_
  have g1 : -2147483648 ≤ (h.1 46 10) ∧ (h.1 46 10) ≤ 2147483647 := i0.1 46 10
  refine mm_iload_n C (mm_dec dk_X4_isBetterFree 2 rfl) rfl ?_
  refine mm_icmp_gt (tgt := 26) C (mm_dec dk_X4_isBetterFree 3 rfl) (by decide) (fun c5 => ?_) (fun c5 => ?_)
  · skip
    refine mm_iconst C (mm_dec dk_X4_isBetterFree 14 rfl) ⟨by decide, by decide⟩ ?_
    refine mm_goto (tgt := 31) C (mm_dec dk_X4_isBetterFree 15 rfl) (by decide) ?_
    exact mm_zret C T (mm_dec dk_X4_isBetterFree 17 rfl) (by decide : 0 ≤ 0) (by decide : 0 ≤ 0) (by omega) ⟨_, rfl, ⟨rfl, Or.inl ⟨by omega, rfl⟩⟩⟩
  · skip
    refine mm_aload_n C (mm_dec dk_X4_isBetterFree 4 rfl) rfl ?_
    refine mm_geti C fl_X4_32 (mm_dec dk_X4_isBetterFree 5 rfl) rfl rfl (Or.inl rfl) ?_
    refine mm_iload_n C (mm_dec dk_X4_isBetterFree 6 rfl) rfl ?_
    refine mm_icmp_ne (tgt := 30) C (mm_dec dk_X4_isBetterFree 7 rfl) (by decide) (fun c13 => ?_) (fun c13 => ?_)
    · skip
      refine mm_iconst C (mm_dec dk_X4_isBetterFree 16 rfl) ⟨by decide, by decide⟩ ?_
      exact mm_zret C T (mm_dec dk_X4_isBetterFree 17 rfl) (by decide : 0 ≤ 0) (by decide : 0 ≤ 0) (by omega) ⟨_, rfl, ⟨rfl, Or.inr (Or.inl ⟨by omega, by omega, rfl⟩)⟩⟩
    · skip
      refine mm_aload_n C (mm_dec dk_X4_isBetterFree 8 rfl) rfl ?_
      refine mm_getr (t := 47) C fl_X4_9 (mm_dec dk_X4_isBetterFree 9 rfl) rfl rfl (mm_ref i0 rfl) ?_
      refine mm_iconst C (mm_dec dk_X4_isBetterFree 10 rfl) ⟨by decide, by decide⟩ ?_
      refine mm_iald C (mm_dec dk_X4_isBetterFree 11 rfl) rfl (by omega) (by omega) ?_
      have g2 : -2147483648 ≤ (h.2.1 47 2) ∧ (h.2.1 47 2) ≤ 2147483647 := i0.2.1 47 2
      refine mm_iload_n C (mm_dec dk_X4_isBetterFree 12 rfl) rfl ?_
      refine mm_icmp_ge (tgt := 30) C (mm_dec dk_X4_isBetterFree 13 rfl) (by decide) (fun c23 => ?_) (fun c23 => ?_)
      · skip
        refine mm_iconst C (mm_dec dk_X4_isBetterFree 16 rfl) ⟨by decide, by decide⟩ ?_
        exact mm_zret C T (mm_dec dk_X4_isBetterFree 17 rfl) (by decide : 0 ≤ 0) (by decide : 0 ≤ 0) (by omega) ⟨_, rfl, ⟨rfl, Or.inr (Or.inr (Or.inl ⟨by omega, by omega, by omega, rfl⟩))⟩⟩
      · skip
        refine mm_iconst C (mm_dec dk_X4_isBetterFree 14 rfl) ⟨by decide, by decide⟩ ?_
        refine mm_goto (tgt := 31) C (mm_dec dk_X4_isBetterFree 15 rfl) (by decide) ?_
        exact mm_zret C T (mm_dec dk_X4_isBetterFree 17 rfl) (by decide : 0 ≤ 0) (by decide : 0 ≤ 0) (by omega) ⟨_, rfl, ⟨rfl, Or.inr (Or.inr (Or.inr (⟨by omega, by omega, by omega, rfl⟩)))⟩⟩
set_option maxRecDepth 100000 in
set_option maxHeartbeats 4000000 in
theorem c_X5_renew (l : Launch) (hl : l.stackTraces = false) (d : Nat) (hd : 1 ≤ d) (h : mH) (i0 : mm_inv h) (p1 : Int) (p2 : Int) (bp1 : 1 ≤ p1 ∧ p1 ≤ 20) (bp2 : 1 ≤ p2 ∧ p2 ≤ 20) : mm_Met l d yX5_renew cX5_renew 4 none [mR 1, mI p1, mI p2] h (mm_pv fun h2 => mm_inv h2 ∧ mm_fr [(1, 5), (1, 6), (1, 7), (1, 8)] [2, 3, 4, 5, 6] h h2) mm_nx 0 0 := by
  refine mm_ofW (ls := [mR 1, mI p1, mI p2, mU]) hl (by decide) rfl (Nat.le_of_ble_eq_true rfl) ?_
  intro x hxl C T hnm htb
  subst hxl
  have C1 := mm_OK_le (d' := d - 1 + 1) (by omega) C
  refine mm_rng (fun hr _ => ?_)
  have ap1 : -2147483648 ≤ p1 ∧ p1 < 2147483648 := mm_ok_at hr (i := 1) rfl
  have ap2 : -2147483648 ≤ p2 ∧ p2 < 2147483648 := mm_ok_at hr (i := 2) rfl
  have f0 : mm_fr [(1, 5), (1, 6), (1, 7), (1, 8)] [2, 3, 4, 5, 6] h h := mm_fr_rf
  refine mm_aload_n C (mm_dec dk_X5_renew 0 rfl) rfl ?_
  refine mm_iload_n C (mm_dec dk_X5_renew 1 rfl) rfl ?_
  refine mm_puti C fl_X5_28 (mm_dec dk_X5_renew 2 rfl) rfl rfl rfl (Or.inl ⟨rfl, rfl⟩) ?_
  have i1 : mm_inv (mm_pf h 1 5 p1) := mm_inv_pf i0 (show 1 ≤ p1 ∧ p1 ≤ 20 from ⟨by omega, by omega⟩) (by decide)
  have f1 : mm_fr [(1, 5), (1, 6), (1, 7), (1, 8)] [2, 3, 4, 5, 6] h (mm_pf h 1 5 p1) := mm_fr_pf f0 (by decide)
  obtain ⟨h1, eh1⟩ : ∃ z, z = mm_pf h 1 5 p1 := ⟨_, rfl⟩
  rw [← eh1] at i1 f1 ⊢
  have qh1 : h1.1 1 5 = p1 := by rw [eh1]; exact mm_pf_same _ _ _ _
  refine mm_aload_n C (mm_dec dk_X5_renew 3 rfl) rfl ?_
  refine mm_iload_n C (mm_dec dk_X5_renew 4 rfl) rfl ?_
  refine mm_puti C fl_X5_32 (mm_dec dk_X5_renew 5 rfl) rfl rfl rfl (Or.inl ⟨rfl, rfl⟩) ?_
  have i2 : mm_inv (mm_pf h1 1 6 p2) := mm_inv_pf i1 (show 1 ≤ p2 ∧ p2 ≤ 20 from ⟨by omega, by omega⟩) (by decide)
  have f2 : mm_fr [(1, 5), (1, 6), (1, 7), (1, 8)] [2, 3, 4, 5, 6] h (mm_pf h1 1 6 p2) := mm_fr_pf f1 (by decide)
  obtain ⟨h2, eh2⟩ : ∃ z, z = mm_pf h1 1 6 p2 := ⟨_, rfl⟩
  rw [← eh2] at i2 f2 ⊢
  have qh2 : h2.1 1 6 = p2 := by rw [eh2]; exact mm_pf_same _ _ _ _
  have qh2_1 : h2.1 1 5 = h1.1 1 5 := by rw [eh2]; exact mm_pf_ne _ _ (by decide)
  refine mm_aload_n C (mm_dec dk_X5_renew 6 rfl) rfl ?_
  refine mm_iconst C (mm_dec dk_X5_renew 7 rfl) ⟨by decide, by decide⟩ ?_
  refine mm_puti C fl_X5_35 (mm_dec dk_X5_renew 8 rfl) rfl rfl rfl (Or.inl ⟨rfl, rfl⟩) ?_
  have i3 : mm_inv (mm_pf h2 1 7 0) := mm_inv_pf i2 (show 0 ≤ 0 ∧ 0 ≤ 399 from ⟨by omega, by omega⟩) (by decide)
  have f3 : mm_fr [(1, 5), (1, 6), (1, 7), (1, 8)] [2, 3, 4, 5, 6] h (mm_pf h2 1 7 0) := mm_fr_pf f2 (by decide)
  obtain ⟨h3, eh3⟩ : ∃ z, z = mm_pf h2 1 7 0 := ⟨_, rfl⟩
  rw [← eh3] at i3 f3 ⊢
  have qh3 : h3.1 1 7 = 0 := by rw [eh3]; exact mm_pf_same _ _ _ _
  have qh3_2 : h3.1 1 5 = h2.1 1 5 := by rw [eh3]; exact mm_pf_ne _ _ (by decide)
  have qh3_3 : h3.1 1 6 = h2.1 1 6 := by rw [eh3]; exact mm_pf_ne _ _ (by decide)
  refine mm_aload_n C (mm_dec dk_X5_renew 9 rfl) rfl ?_
  refine mm_iconst C (mm_dec dk_X5_renew 10 rfl) ⟨by decide, by decide⟩ ?_
  refine mm_puti C fl_X5_38 (mm_dec dk_X5_renew 11 rfl) rfl rfl rfl (Or.inl ⟨rfl, rfl⟩) ?_
  have i4 : mm_inv (mm_pf h3 1 8 0) := mm_inv_pf i3 (show 0 ≤ 0 ∧ 0 ≤ 399 from ⟨by omega, by omega⟩) (by decide)
  have f4 : mm_fr [(1, 5), (1, 6), (1, 7), (1, 8)] [2, 3, 4, 5, 6] h (mm_pf h3 1 8 0) := mm_fr_pf f3 (by decide)
  obtain ⟨h4, eh4⟩ : ∃ z, z = mm_pf h3 1 8 0 := ⟨_, rfl⟩
  rw [← eh4] at i4 f4 ⊢
  have qh4 : h4.1 1 8 = 0 := by rw [eh4]; exact mm_pf_same _ _ _ _
  have qh4_4 : h4.1 1 5 = h3.1 1 5 := by rw [eh4]; exact mm_pf_ne _ _ (by decide)
  have qh4_5 : h4.1 1 6 = h3.1 1 6 := by rw [eh4]; exact mm_pf_ne _ _ (by decide)
  have qh4_6 : h4.1 1 7 = h3.1 1 7 := by rw [eh4]; exact mm_pf_ne _ _ (by decide)
  refine mm_aload_n C (mm_dec dk_X5_renew 12 rfl) rfl ?_
  refine mm_getr (t := 2) C fl_X5_9 (mm_dec dk_X5_renew 13 rfl) rfl rfl (mm_ref i4 rfl) ?_
  refine mm_iconst C (mm_dec dk_X5_renew 14 rfl) ⟨by decide, by decide⟩ ?_
  refine mm_cSv (rest := []) C1 es_X5_41 (mm_dec dk_X5_renew 15 rfl) (c_J7_fill_53178_2 x.2.1 hl (d - 1) (by omega) h4 i4 0 ⟨by omega, by omega⟩) rfl (Nat.le_of_ble_eq_true rfl) ⟨by decide, by decide⟩ rfl (fun h25c hp25 => ?_) (fun _ _ q => q.elim)
  obtain ⟨i25c, g25c⟩ := hp25
  have f25c : mm_fr [(1, 5), (1, 6), (1, 7), (1, 8)] [2, 3, 4, 5, 6] h h25c := mm_fr_tr f4 g25c (by decide +kernel)
  have q25c_8 : h25c.1 1 5 = h4.1 1 5 := g25c.1 1 5 (by decide)
  have q25c_9 : h25c.1 1 6 = h4.1 1 6 := g25c.1 1 6 (by decide)
  have q25c_10 : h25c.1 1 7 = h4.1 1 7 := g25c.1 1 7 (by decide)
  have q25c_11 : h25c.1 1 8 = h4.1 1 8 := g25c.1 1 8 (by decide)
  refine mm_aload_n C (mm_dec dk_X5_renew 16 rfl) rfl ?_
  refine mm_getr (t := 3) C fl_X5_15 (mm_dec dk_X5_renew 17 rfl) rfl rfl (mm_ref i25c rfl) ?_
  refine mm_iconst C (mm_dec dk_X5_renew 18 rfl) ⟨by decide, by decide⟩ ?_
  refine mm_cSv (rest := []) C1 es_X5_41 (mm_dec dk_X5_renew 19 rfl) (c_J7_fill_53178_3 x.2.1 hl (d - 1) (by omega) h25c i25c 0 ⟨by omega, by omega⟩) rfl (Nat.le_of_ble_eq_true rfl) ⟨by decide, by decide⟩ rfl (fun h33c hp33 => ?_) (fun _ _ q => q.elim)
  obtain ⟨i33c, g33c⟩ := hp33
  have f33c : mm_fr [(1, 5), (1, 6), (1, 7), (1, 8)] [2, 3, 4, 5, 6] h h33c := mm_fr_tr f25c g33c (by decide +kernel)
  have q33c_13 : h33c.1 1 5 = h25c.1 1 5 := g33c.1 1 5 (by decide)
  have q33c_14 : h33c.1 1 6 = h25c.1 1 6 := g33c.1 1 6 (by decide)
  have q33c_15 : h33c.1 1 7 = h25c.1 1 7 := g33c.1 1 7 (by decide)
  have q33c_16 : h33c.1 1 8 = h25c.1 1 8 := g33c.1 1 8 (by decide)
  refine mm_iconst C (mm_dec dk_X5_renew 20 rfl) ⟨by decide, by decide⟩ ?_
  have J38 : ∀ (n : Nat) (x38_3 : Int) (bx38_3 : 0 ≤ x38_3 ∧ x38_3 ≤ 400) (h38_ : mH) (i38_ : mm_inv h38_) (f38_ : mm_fr [(1, 5), (1, 6), (1, 7), (1, 8)] [2, 3, 4, 5, 6] h h38_), (400 - x38_3 : Int) < n → mm_W x 0 0 38 [mR 1, mU, mU, mI x38_3] [] h38_ := by
    intro n
    induction n with
    | zero =>
      intro x38_3 bx38_3 h38_ i38_ f38_ hm
      exfalso; omega
    | succ n ih38 =>
      intro x38_3 bx38_3 h38_ i38_ f38_ hm38
      refine mm_iload_n C (mm_dec dk_X5_renew 22 rfl) rfl ?_
      refine mm_sipush C (mm_dec dk_X5_renew 23 rfl) ⟨by decide, by decide⟩ ?_
      refine mm_icmp_ge (tgt := 65) C (mm_dec dk_X5_renew 24 rfl) (by decide) (fun c42 => ?_) (fun c42 => ?_)
      · skip
        refine mm_aload_n C (mm_dec dk_X5_renew 37 rfl) rfl ?_
        refine mm_getr (t := 6) C fl_X5_25 (mm_dec dk_X5_renew 38 rfl) rfl rfl (mm_ref i38_ rfl) ?_
        refine mm_iconst C (mm_dec dk_X5_renew 39 rfl) ⟨by decide, by decide⟩ ?_
        refine mm_cSv (rest := []) C1 es_X5_41 (mm_dec dk_X5_renew 40 rfl) (c_J7_fill_53178_6 x.2.1 hl (d - 1) (by omega) h38_ i38_ 5 ⟨by omega, by omega⟩) rfl (Nat.le_of_ble_eq_true rfl) ⟨by decide, by decide⟩ rfl (fun h70c hp70 => ?_) (fun _ _ q => q.elim)
        obtain ⟨i70c, g70c⟩ := hp70
        have f70c : mm_fr [(1, 5), (1, 6), (1, 7), (1, 8)] [2, 3, 4, 5, 6] h h70c := mm_fr_tr f38_ g70c (by decide +kernel)
        refine mm_aload_n C (mm_dec dk_X5_renew 41 rfl) rfl ?_
        refine mm_getr (t := 6) C fl_X5_25 (mm_dec dk_X5_renew 42 rfl) rfl rfl (mm_ref i70c rfl) ?_
        refine mm_bipush C (mm_dec dk_X5_renew 43 rfl) ⟨by decide, by decide⟩ ?_
        refine mm_iconst C (mm_dec dk_X5_renew 44 rfl) ⟨by decide, by decide⟩ ?_
        refine mm_iast C (mm_dec dk_X5_renew 45 rfl) rfl (by omega) (by omega) ?_
        have i8 : mm_inv (mm_pa h70c 6 8 2) := mm_inv_pa i70c (show 0 ≤ 2 ∧ 2 ≤ 99 from ⟨by omega, by omega⟩)
        have f8 : mm_fr [(1, 5), (1, 6), (1, 7), (1, 8)] [2, 3, 4, 5, 6] h (mm_pa h70c 6 8 2) := mm_fr_pa f70c (by decide)
        obtain ⟨h8, eh8⟩ : ∃ z, z = mm_pa h70c 6 8 2 := ⟨_, rfl⟩
        rw [← eh8] at i8 f8 ⊢
        exact mm_vret C T (mm_dec dk_X5_renew 46 rfl) (by decide : 0 ≤ 0) (by decide : 0 ≤ 0) ⟨rfl, ⟨i8, f8⟩⟩
      · skip
        refine mm_aload_n C (mm_dec dk_X5_renew 25 rfl) rfl ?_
        refine mm_getr (t := 4) C fl_X5_18 (mm_dec dk_X5_renew 26 rfl) rfl rfl (mm_ref i38_ rfl) ?_
        refine mm_iload_n C (mm_dec dk_X5_renew 27 rfl) rfl ?_
        refine mm_iconst C (mm_dec dk_X5_renew 28 rfl) ⟨by decide, by decide⟩ ?_
        refine mm_zast C (mm_dec dk_X5_renew 29 rfl) rfl (by omega) (by omega) (by omega) ?_
        have i9 : mm_inv (mm_pa h38_ 4 x38_3 0) := mm_inv_pa i38_ (show 0 ≤ 0 ∧ 0 ≤ 1 from ⟨by omega, by omega⟩)
        have f9 : mm_fr [(1, 5), (1, 6), (1, 7), (1, 8)] [2, 3, 4, 5, 6] h (mm_pa h38_ 4 x38_3 0) := mm_fr_pa f38_ (by decide)
        obtain ⟨h9, eh9⟩ : ∃ z, z = mm_pa h38_ 4 x38_3 0 := ⟨_, rfl⟩
        rw [← eh9] at i9 f9 ⊢
        refine mm_aload_n C (mm_dec dk_X5_renew 30 rfl) rfl ?_
        refine mm_getr (t := 5) C fl_X5_22 (mm_dec dk_X5_renew 31 rfl) rfl rfl (mm_ref i9 rfl) ?_
        refine mm_iload_n C (mm_dec dk_X5_renew 32 rfl) rfl ?_
        refine mm_iconst C (mm_dec dk_X5_renew 33 rfl) ⟨by decide, by decide⟩ ?_
        refine mm_zast C (mm_dec dk_X5_renew 34 rfl) rfl (by omega) (by omega) (by omega) ?_
        have i10 : mm_inv (mm_pa h9 5 x38_3 0) := mm_inv_pa i9 (show 0 ≤ 0 ∧ 0 ≤ 1 from ⟨by omega, by omega⟩)
        have f10 : mm_fr [(1, 5), (1, 6), (1, 7), (1, 8)] [2, 3, 4, 5, 6] h (mm_pa h9 5 x38_3 0) := mm_fr_pa f9 (by decide)
        obtain ⟨h10, eh10⟩ : ∃ z, z = mm_pa h9 5 x38_3 0 := ⟨_, rfl⟩
        rw [← eh10] at i10 f10 ⊢
        refine mm_iincL (ls2 := [mR 1, mU, mU, mI (x38_3 + 1)]) C (mm_dec dk_X5_renew 35 rfl) rfl (by decide) ⟨by omega, by omega⟩ rfl ?_
        refine mm_goto (tgt := 38) C (mm_dec dk_X5_renew 36 rfl) (by decide) ?_
        exact ih38 (x38_3 + 1) ⟨by omega, by omega⟩ h10 i10 f10 (by omega)
  refine mm_istore_nL (ls2 := [mR 1, mI p1, mI p2, mI 0]) C (mm_dec dk_X5_renew 21 rfl) (by decide) rfl ?_
  refine mm_fgt 1 ?_
  refine mm_fgt 2 ?_
  exact J38 (((400 - 0) : Int) + 1).toNat 0 ⟨by omega, by omega⟩ h33c i33c f33c (by omega)
set_option maxRecDepth 100000 in
set_option maxHeartbeats 4000000 in
theorem c_X5_holds (l : Launch) (hl : l.stackTraces = false) (d : Nat) (hd : 0 ≤ d) (h : mH) (i0 : mm_inv h) (p1 : Int) (p2 : Int) : mm_Met l d yX5_holds cX5_holds 3 (some .boolean) [mR 1, mI p1, mI p2] h (mm_pi fun r h2 => h2 = h ∧ ((p1 < 0 ∧ r = 0) ∨ (0 ≤ p1 ∧ (h.1 1 5) ≤ p1 ∧ r = 0) ∨ (0 ≤ p1 ∧ p1 < (h.1 1 5) ∧ p2 < 0 ∧ r = 0) ∨ (0 ≤ p1 ∧ p1 < (h.1 1 5) ∧ 0 ≤ p2 ∧ (h.1 1 6) ≤ p2 ∧ r = 0) ∨ (0 ≤ p1 ∧ p1 < (h.1 1 5) ∧ 0 ≤ p2 ∧ p2 < (h.1 1 6) ∧ r = 1))) mm_nx 0 0 := by
  refine mm_ofW (ls := [mR 1, mI p1, mI p2]) hl (by decide) rfl (Nat.le_of_ble_eq_true rfl) ?_
  intro x hxl C T hnm htb
  subst hxl
  refine mm_rng (fun hr _ => ?_)
  have ap1 : -2147483648 ≤ p1 ∧ p1 < 2147483648 := mm_ok_at hr (i := 1) rfl
  have ap2 : -2147483648 ≤ p2 ∧ p2 < 2147483648 := mm_ok_at hr (i := 2) rfl
  have f0 : mm_fr [] [] h h := mm_fr_rf
  refine mm_iload_n C (mm_dec dk_X5_holds 0 rfl) rfl ?_
  refine mm_if_lt (tgt := 28) C (mm_dec dk_X5_holds 1 rfl) (by decide) (fun c1 => ?_) (fun c1 => ?_)
  · skip
    refine mm_iconst C (mm_dec dk_X5_holds 14 rfl) ⟨by decide, by decide⟩ ?_
    exact mm_zret C T (mm_dec dk_X5_holds 15 rfl) (by decide : 0 ≤ 0) (by decide : 0 ≤ 0) (by omega) ⟨_, rfl, ⟨rfl, Or.inl ⟨by omega, rfl⟩⟩⟩
  · skip
    refine mm_iload_n C (mm_dec dk_X5_holds 2 rfl) rfl ?_
    refine mm_aload_n C (mm_dec dk_X5_holds 3 rfl) rfl ?_
    refine mm_geti C fl_X5_28 (mm_dec dk_X5_holds 4 rfl) rfl rfl (Or.inl rfl) ?_
    have g1 : 1 ≤ (h.1 1 5) ∧ (h.1 1 5) ≤ 20 := i0.1 1 5
    refine mm_icmp_ge (tgt := 28) C (mm_dec dk_X5_holds 5 rfl) (by decide) (fun c9 => ?_) (fun c9 => ?_)
    · skip
      refine mm_iconst C (mm_dec dk_X5_holds 14 rfl) ⟨by decide, by decide⟩ ?_
      exact mm_zret C T (mm_dec dk_X5_holds 15 rfl) (by decide : 0 ≤ 0) (by decide : 0 ≤ 0) (by omega) ⟨_, rfl, ⟨rfl, Or.inr (Or.inl ⟨by omega, by omega, rfl⟩)⟩⟩
    · skip
      refine mm_iload_n C (mm_dec dk_X5_holds 6 rfl) rfl ?_
      refine mm_if_lt (tgt := 28) C (mm_dec dk_X5_holds 7 rfl) (by decide) (fun c13 => ?_) (fun c13 => ?_)
      · skip
        refine mm_iconst C (mm_dec dk_X5_holds 14 rfl) ⟨by decide, by decide⟩ ?_
        exact mm_zret C T (mm_dec dk_X5_holds 15 rfl) (by decide : 0 ≤ 0) (by decide : 0 ≤ 0) (by omega) ⟨_, rfl, ⟨rfl, Or.inr (Or.inr (Or.inl ⟨by omega, by omega, by omega, rfl⟩))⟩⟩
      · skip
        refine mm_iload_n C (mm_dec dk_X5_holds 8 rfl) rfl ?_
        refine mm_aload_n C (mm_dec dk_X5_holds 9 rfl) rfl ?_
        refine mm_geti C fl_X5_32 (mm_dec dk_X5_holds 10 rfl) rfl rfl (Or.inl rfl) ?_
        have g2 : 1 ≤ (h.1 1 6) ∧ (h.1 1 6) ≤ 20 := i0.1 1 6
        refine mm_icmp_ge (tgt := 28) C (mm_dec dk_X5_holds 11 rfl) (by decide) (fun c21 => ?_) (fun c21 => ?_)
        · skip
          refine mm_iconst C (mm_dec dk_X5_holds 14 rfl) ⟨by decide, by decide⟩ ?_
          exact mm_zret C T (mm_dec dk_X5_holds 15 rfl) (by decide : 0 ≤ 0) (by decide : 0 ≤ 0) (by omega) ⟨_, rfl, ⟨rfl, Or.inr (Or.inr (Or.inr (Or.inl ⟨by omega, by omega, by omega, by omega, rfl⟩)))⟩⟩
        · skip
          refine mm_iconst C (mm_dec dk_X5_holds 12 rfl) ⟨by decide, by decide⟩ ?_
          refine mm_goto (tgt := 29) C (mm_dec dk_X5_holds 13 rfl) (by decide) ?_
          exact mm_zret C T (mm_dec dk_X5_holds 15 rfl) (by decide : 0 ≤ 0) (by decide : 0 ≤ 0) (by omega) ⟨_, rfl, ⟨rfl, Or.inr (Or.inr (Or.inr (Or.inr (⟨by omega, by omega, by omega, by omega, rfl⟩))))⟩⟩
set_option maxRecDepth 100000 in
set_option maxHeartbeats 4000000 in
theorem c_X5_shape (l : Launch) (hl : l.stackTraces = false) (d : Nat) (hd : 0 ≤ d) (h : mH) (i0 : mm_inv h) (p1 : Int) (p2 : Int) (p3 : Int) (bp1 : 0 ≤ p1 ∧ p1 ≤ 399) (bp2 : 0 ≤ p2 ∧ p2 ≤ 7) (bp3 : 0 ≤ p3 ∧ p3 ≤ 99) : mm_Met l d yX5_shape cX5_shape 4 none [mR 1, mI p1, mI p2, mI p3] h (mm_pv fun h2 => mm_inv h2 ∧ mm_fr [] [2, 3] h h2) mm_nx 0 0 := by
  refine mm_ofW (ls := [mR 1, mI p1, mI p2, mI p3]) hl (by decide) rfl (Nat.le_of_ble_eq_true rfl) ?_
  intro x hxl C T hnm htb
  subst hxl
  refine mm_rng (fun hr _ => ?_)
  have ap1 : -2147483648 ≤ p1 ∧ p1 < 2147483648 := mm_ok_at hr (i := 1) rfl
  have ap2 : -2147483648 ≤ p2 ∧ p2 < 2147483648 := mm_ok_at hr (i := 2) rfl
  have ap3 : -2147483648 ≤ p3 ∧ p3 < 2147483648 := mm_ok_at hr (i := 3) rfl
  have f0 : mm_fr [] [2, 3] h h := mm_fr_rf
  refine mm_aload_n C (mm_dec dk_X5_shape 0 rfl) rfl ?_
  refine mm_getr (t := 2) C fl_X5_9 (mm_dec dk_X5_shape 1 rfl) rfl rfl (mm_ref i0 rfl) ?_
  refine mm_iload_n C (mm_dec dk_X5_shape 2 rfl) rfl ?_
  refine mm_iload_n C (mm_dec dk_X5_shape 3 rfl) rfl ?_
  refine mm_iast C (mm_dec dk_X5_shape 4 rfl) rfl (by omega) (by omega) ?_
  have i1 : mm_inv (mm_pa h 2 p1 p2) := mm_inv_pa i0 (show 0 ≤ p2 ∧ p2 ≤ 7 from ⟨by omega, by omega⟩)
  have f1 : mm_fr [] [2, 3] h (mm_pa h 2 p1 p2) := mm_fr_pa f0 (by decide)
  obtain ⟨h1, eh1⟩ : ∃ z, z = mm_pa h 2 p1 p2 := ⟨_, rfl⟩
  rw [← eh1] at i1 f1 ⊢
  refine mm_aload_n C (mm_dec dk_X5_shape 5 rfl) rfl ?_
  refine mm_getr (t := 3) C fl_X5_15 (mm_dec dk_X5_shape 6 rfl) rfl rfl (mm_ref i1 rfl) ?_
  refine mm_iload_n C (mm_dec dk_X5_shape 7 rfl) rfl ?_
  refine mm_iload_n C (mm_dec dk_X5_shape 8 rfl) rfl ?_
  refine mm_iast C (mm_dec dk_X5_shape 9 rfl) rfl (by omega) (by omega) ?_
  have i2 : mm_inv (mm_pa h1 3 p1 p3) := mm_inv_pa i1 (show 0 ≤ p3 ∧ p3 ≤ 99 from ⟨by omega, by omega⟩)
  have f2 : mm_fr [] [2, 3] h (mm_pa h1 3 p1 p3) := mm_fr_pa f1 (by decide)
  obtain ⟨h2, eh2⟩ : ∃ z, z = mm_pa h1 3 p1 p3 := ⟨_, rfl⟩
  rw [← eh2] at i2 f2 ⊢
  exact mm_vret C T (mm_dec dk_X5_shape 10 rfl) (by decide : 0 ≤ 0) (by decide : 0 ≤ 0) ⟨rfl, ⟨i2, f2⟩⟩
set_option maxRecDepth 100000 in
set_option maxHeartbeats 4000000 in
theorem c_X5_price (l : Launch) (hl : l.stackTraces = false) (d : Nat) (hd : 0 ≤ d) (h : mH) (i0 : mm_inv h) (p1 : Int) (p2 : Int) (bp1 : 0 ≤ p1 ∧ p1 ≤ 8) (bp2 : 0 ≤ p2 ∧ p2 ≤ 99) : mm_Met l d yX5_price cX5_price 3 none [mR 1, mI p1, mI p2] h (mm_pv fun h2 => mm_inv h2 ∧ mm_fr [] [6] h h2) mm_nx 0 0 := by
  refine mm_ofW (ls := [mR 1, mI p1, mI p2]) hl (by decide) rfl (Nat.le_of_ble_eq_true rfl) ?_
  intro x hxl C T hnm htb
  subst hxl
  refine mm_rng (fun hr _ => ?_)
  have ap1 : -2147483648 ≤ p1 ∧ p1 < 2147483648 := mm_ok_at hr (i := 1) rfl
  have ap2 : -2147483648 ≤ p2 ∧ p2 < 2147483648 := mm_ok_at hr (i := 2) rfl
  have f0 : mm_fr [] [6] h h := mm_fr_rf
  refine mm_aload_n C (mm_dec dk_X5_price 0 rfl) rfl ?_
  refine mm_getr (t := 6) C fl_X5_25 (mm_dec dk_X5_price 1 rfl) rfl rfl (mm_ref i0 rfl) ?_
  refine mm_iload_n C (mm_dec dk_X5_price 2 rfl) rfl ?_
  refine mm_iload_n C (mm_dec dk_X5_price 3 rfl) rfl ?_
  refine mm_iast C (mm_dec dk_X5_price 4 rfl) rfl (by omega) (by omega) ?_
  have i1 : mm_inv (mm_pa h 6 p1 p2) := mm_inv_pa i0 (show 0 ≤ p2 ∧ p2 ≤ 99 from ⟨by omega, by omega⟩)
  have f1 : mm_fr [] [6] h (mm_pa h 6 p1 p2) := mm_fr_pa f0 (by decide)
  obtain ⟨h1, eh1⟩ : ∃ z, z = mm_pa h 6 p1 p2 := ⟨_, rfl⟩
  rw [← eh1] at i1 f1 ⊢
  exact mm_vret C T (mm_dec dk_X5_price 5 rfl) (by decide : 0 ≤ 0) (by decide : 0 ≤ 0) ⟨rfl, ⟨i1, f1⟩⟩
set_option maxRecDepth 100000 in
set_option maxHeartbeats 4000000 in
theorem c_X5_build (l : Launch) (hl : l.stackTraces = false) (d : Nat) (hd : 0 ≤ d) (h : mH) (i0 : mm_inv h) (p1 : Int) (p2 : Int) (p3 : Int) (bp1 : 0 ≤ p1 ∧ p1 ≤ 399) (bp3 : 0 ≤ p3 ∧ p3 ≤ 1) : mm_Met l d yX5_build cX5_build 4 none [mR 1, mI p1, mI p2, mI p3] h (mm_pv fun h2 => mm_inv h2 ∧ mm_fr [] [4, 5] h h2) mm_nx 0 0 := by
  refine mm_ofW (ls := [mR 1, mI p1, mI p2, mI p3]) hl (by decide) rfl (Nat.le_of_ble_eq_true rfl) ?_
  intro x hxl C T hnm htb
  subst hxl
  refine mm_rng (fun hr _ => ?_)
  have ap1 : -2147483648 ≤ p1 ∧ p1 < 2147483648 := mm_ok_at hr (i := 1) rfl
  have ap2 : -2147483648 ≤ p2 ∧ p2 < 2147483648 := mm_ok_at hr (i := 2) rfl
  have ap3 : -2147483648 ≤ p3 ∧ p3 < 2147483648 := mm_ok_at hr (i := 3) rfl
  have f0 : mm_fr [] [4, 5] h h := mm_fr_rf
  refine mm_iload_n C (mm_dec dk_X5_build 0 rfl) rfl ?_
  refine mm_iconst C (mm_dec dk_X5_build 1 rfl) ⟨by decide, by decide⟩ ?_
  have J22 : ∀ (h22_ : mH) (i22_ : mm_inv h22_) (f22_ : mm_fr [] [4, 5] h h22_), mm_W x 0 0 22 [mU, mU, mU, mU] [] h22_ := by
    intro h22_ i22_ f22_
    exact mm_vret C T (mm_dec dk_X5_build 14 rfl) (by decide : 0 ≤ 0) (by decide : 0 ≤ 0) ⟨rfl, ⟨i22_, f22_⟩⟩
  refine mm_icmp_ne (tgt := 15) C (mm_dec dk_X5_build 2 rfl) (by decide) (fun c2 => ?_) (fun c2 => ?_)
  · skip
    refine mm_aload_n C (mm_dec dk_X5_build 9 rfl) rfl ?_
    refine mm_getr (t := 5) C fl_X5_22 (mm_dec dk_X5_build 10 rfl) rfl rfl (mm_ref i0 rfl) ?_
    refine mm_iload_n C (mm_dec dk_X5_build 11 rfl) rfl ?_
    refine mm_iload_n C (mm_dec dk_X5_build 12 rfl) rfl ?_
    refine mm_zast C (mm_dec dk_X5_build 13 rfl) rfl (by omega) (by omega) (by omega) ?_
    have i1 : mm_inv (mm_pa h 5 p1 p3) := mm_inv_pa i0 (show 0 ≤ p3 ∧ p3 ≤ 1 from ⟨by omega, by omega⟩)
    have f1 : mm_fr [] [4, 5] h (mm_pa h 5 p1 p3) := mm_fr_pa f0 (by decide)
    obtain ⟨h1, eh1⟩ : ∃ z, z = mm_pa h 5 p1 p3 := ⟨_, rfl⟩
    rw [← eh1] at i1 f1 ⊢
    refine mm_fgt 0 ?_
    refine mm_fgt 1 ?_
    refine mm_fgt 2 ?_
    refine mm_fgt 3 ?_
    exact J22 h1 i1 f1
  · skip
    refine mm_aload_n C (mm_dec dk_X5_build 3 rfl) rfl ?_
    refine mm_getr (t := 4) C fl_X5_18 (mm_dec dk_X5_build 4 rfl) rfl rfl (mm_ref i0 rfl) ?_
    refine mm_iload_n C (mm_dec dk_X5_build 5 rfl) rfl ?_
    refine mm_iload_n C (mm_dec dk_X5_build 6 rfl) rfl ?_
    refine mm_zast C (mm_dec dk_X5_build 7 rfl) rfl (by omega) (by omega) (by omega) ?_
    have i2 : mm_inv (mm_pa h 4 p1 p3) := mm_inv_pa i0 (show 0 ≤ p3 ∧ p3 ≤ 1 from ⟨by omega, by omega⟩)
    have f2 : mm_fr [] [4, 5] h (mm_pa h 4 p1 p3) := mm_fr_pa f0 (by decide)
    obtain ⟨h2, eh2⟩ : ∃ z, z = mm_pa h 4 p1 p3 := ⟨_, rfl⟩
    rw [← eh2] at i2 f2 ⊢
    refine mm_goto (tgt := 22) C (mm_dec dk_X5_build 8 rfl) (by decide) ?_
    refine mm_fgt 0 ?_
    refine mm_fgt 1 ?_
    refine mm_fgt 2 ?_
    refine mm_fgt 3 ?_
    exact J22 h2 i2 f2
set_option maxRecDepth 100000 in
set_option maxHeartbeats 4000000 in
theorem c_X5_groundAt (l : Launch) (hl : l.stackTraces = false) (d : Nat) (hd : 0 ≤ d) (h : mH) (i0 : mm_inv h) (p1 : Int) (bp1 : 0 ≤ p1 ∧ p1 ≤ 399) : mm_Met l d yX5_groundAt cX5_groundAt 2 (some .int) [mR 1, mI p1] h (mm_pi fun r h2 => h2 = h ∧ (r = (h.2.1 2 p1))) mm_nx 0 0 := by
  refine mm_ofW (ls := [mR 1, mI p1]) hl (by decide) rfl (Nat.le_of_ble_eq_true rfl) ?_
  intro x hxl C T hnm htb
  subst hxl
  refine mm_rng (fun hr _ => ?_)
  have ap1 : -2147483648 ≤ p1 ∧ p1 < 2147483648 := mm_ok_at hr (i := 1) rfl
  have f0 : mm_fr [] [] h h := mm_fr_rf
  refine mm_aload_n C (mm_dec dk_X5_groundAt 0 rfl) rfl ?_
  refine mm_getr (t := 2) C fl_X5_9 (mm_dec dk_X5_groundAt 1 rfl) rfl rfl (mm_ref i0 rfl) ?_
  refine mm_iload_n C (mm_dec dk_X5_groundAt 2 rfl) rfl ?_
  refine mm_iald C (mm_dec dk_X5_groundAt 3 rfl) rfl (by omega) (by omega) ?_
  have g1 : 0 ≤ (h.2.1 2 p1) ∧ (h.2.1 2 p1) ≤ 7 := i0.2.1 2 p1
  exact mm_iret C T (mm_dec dk_X5_groundAt 4 rfl) (by decide : 0 ≤ 0) (by decide : 0 ≤ 0) ⟨_, rfl, ⟨rfl, rfl⟩⟩
set_option maxRecDepth 100000 in
set_option maxHeartbeats 4000000 in
theorem c_X5_letsIn (l : Launch) (hl : l.stackTraces = false) (d : Nat) (hd : 0 ≤ d) (h : mH) (i0 : mm_inv h) (p1 : Int) (bp1 : 0 ≤ p1 ∧ p1 ≤ 7) : mm_Met l d yX5_letsIn cX5_letsIn 2 (some .boolean) [mR 1, mI p1] h (mm_pi fun r h2 => h2 = h ∧ (((h.2.1 6 p1) ≤ 0 ∧ r = 0) ∨ (0 < (h.2.1 6 p1) ∧ r = 1))) mm_nx 0 0 := by
  refine mm_ofW (ls := [mR 1, mI p1]) hl (by decide) rfl (Nat.le_of_ble_eq_true rfl) ?_
  intro x hxl C T hnm htb
  subst hxl
  refine mm_rng (fun hr _ => ?_)
  have ap1 : -2147483648 ≤ p1 ∧ p1 < 2147483648 := mm_ok_at hr (i := 1) rfl
  have f0 : mm_fr [] [] h h := mm_fr_rf
  refine mm_aload_n C (mm_dec dk_X5_letsIn 0 rfl) rfl ?_
  refine mm_getr (t := 6) C fl_X5_25 (mm_dec dk_X5_letsIn 1 rfl) rfl rfl (mm_ref i0 rfl) ?_
  refine mm_iload_n C (mm_dec dk_X5_letsIn 2 rfl) rfl ?_
  refine mm_iald C (mm_dec dk_X5_letsIn 3 rfl) rfl (by omega) (by omega) ?_
  have g1 : 0 ≤ (h.2.1 6 p1) ∧ (h.2.1 6 p1) ≤ 99 := i0.2.1 6 p1
  refine mm_if_le (tgt := 13) C (mm_dec dk_X5_letsIn 4 rfl) (by decide) (fun c6 => ?_) (fun c6 => ?_)
  · skip
    refine mm_iconst C (mm_dec dk_X5_letsIn 7 rfl) ⟨by decide, by decide⟩ ?_
    exact mm_zret C T (mm_dec dk_X5_letsIn 8 rfl) (by decide : 0 ≤ 0) (by decide : 0 ≤ 0) (by omega) ⟨_, rfl, ⟨rfl, Or.inl ⟨by omega, rfl⟩⟩⟩
  · skip
    refine mm_iconst C (mm_dec dk_X5_letsIn 5 rfl) ⟨by decide, by decide⟩ ?_
    refine mm_goto (tgt := 14) C (mm_dec dk_X5_letsIn 6 rfl) (by decide) ?_
    exact mm_zret C T (mm_dec dk_X5_letsIn 8 rfl) (by decide : 0 ≤ 0) (by decide : 0 ≤ 0) (by omega) ⟨_, rfl, ⟨rfl, Or.inr (⟨by omega, rfl⟩)⟩⟩
set_option maxRecDepth 100000 in
set_option maxHeartbeats 4000000 in
theorem c_X5_canEnter (l : Launch) (hl : l.stackTraces = false) (d : Nat) (hd : 1 ≤ d) (h : mH) (i0 : mm_inv h) (p1 : Int) (bp1 : 0 ≤ p1 ∧ p1 ≤ 399) : mm_Met l d yX5_canEnter cX5_canEnter 2 (some .boolean) [mR 1, mI p1] h (mm_pi fun r h2 => h2 = h ∧ (((h.2.1 6 (h.2.1 2 p1)) ≤ 0 ∧ r = 0) ∨ (0 < (h.2.1 6 (h.2.1 2 p1)) ∧ r = 1))) mm_nx 0 0 := by
  refine mm_ofW (ls := [mR 1, mI p1]) hl (by decide) rfl (Nat.le_of_ble_eq_true rfl) ?_
  intro x hxl C T hnm htb
  subst hxl
  have C1 := mm_OK_le (d' := d - 1 + 1) (by omega) C
  refine mm_rng (fun hr _ => ?_)
  have ap1 : -2147483648 ≤ p1 ∧ p1 < 2147483648 := mm_ok_at hr (i := 1) rfl
  have f0 : mm_fr [] [] h h := mm_fr_rf
  refine mm_aload_n C (mm_dec dk_X5_canEnter 0 rfl) rfl ?_
  refine mm_aload_n C (mm_dec dk_X5_canEnter 1 rfl) rfl ?_
  refine mm_getr (t := 2) C fl_X5_9 (mm_dec dk_X5_canEnter 2 rfl) rfl rfl (mm_ref i0 rfl) ?_
  refine mm_iload_n C (mm_dec dk_X5_canEnter 3 rfl) rfl ?_
  refine mm_iald C (mm_dec dk_X5_canEnter 4 rfl) rfl (by omega) (by omega) ?_
  have g1 : 0 ≤ (h.2.1 2 p1) ∧ (h.2.1 2 p1) ≤ 7 := i0.2.1 2 p1
  refine mm_cVi (rest := []) C1 ev_X5_47 (mm_dec dk_X5_canEnter 5 rfl) (c_X5_letsIn x.2.1 hl (d - 1) (by omega) h i0 (h.2.1 2 p1) ⟨by omega, by omega⟩) rfl rfl (Nat.le_of_ble_eq_true rfl) ⟨by decide, by decide⟩ rfl (fun r7 h7c hp7 => ?_) (fun _ _ q => q.elim)
  obtain ⟨z7, y7⟩ := hp7
  rw [z7]
  rcases y7 with ⟨k7_0, rfl⟩ | ⟨k7_0, rfl⟩
  · skip
    have g3 : 0 ≤ (h.2.1 6 (h.2.1 2 p1)) ∧ (h.2.1 6 (h.2.1 2 p1)) ≤ 99 := i0.2.1 6 (h.2.1 2 p1)
    exact mm_zret C T (mm_dec dk_X5_canEnter 6 rfl) (by decide : 0 ≤ 0) (by decide : 0 ≤ 0) (by omega) ⟨_, rfl, ⟨rfl, Or.inl ⟨by omega, rfl⟩⟩⟩
  · skip
    have g4 : 0 ≤ (h.2.1 6 (h.2.1 2 p1)) ∧ (h.2.1 6 (h.2.1 2 p1)) ≤ 99 := i0.2.1 6 (h.2.1 2 p1)
    exact mm_zret C T (mm_dec dk_X5_canEnter 6 rfl) (by decide : 0 ≤ 0) (by decide : 0 ≤ 0) (by omega) ⟨_, rfl, ⟨rfl, Or.inr (⟨by omega, rfl⟩)⟩⟩
set_option maxRecDepth 100000 in
set_option maxHeartbeats 4000000 in
theorem c_X5_beside (l : Launch) (hl : l.stackTraces = false) (d : Nat) (hd : 0 ≤ d) (h : mH) (i0 : mm_inv h) (p1 : Int) (p2 : Int) (bp1 : 0 ≤ p1 ∧ p1 ≤ 399) : mm_Met l d yX5_beside cX5_beside 5 (some .int) [mR 1, mI p1, mI p2] h (mm_pi fun r h2 => (-1 ≤ r ∧ r ≤ 399) ∧ h2 = h ∧ r = mm_bes h p1 p2) mm_nx 0 0 := by
  refine mm_ofW (ls := [mR 1, mI p1, mI p2, mU, mU]) hl (by decide) rfl (Nat.le_of_ble_eq_true rfl) ?_
  intro x hxl C T hnm htb
  subst hxl
  refine mm_rng (fun hr _ => ?_)
  have ap1 : -2147483648 ≤ p1 ∧ p1 < 2147483648 := mm_ok_at hr (i := 1) rfl
  have ap2 : -2147483648 ≤ p2 ∧ p2 < 2147483648 := mm_ok_at hr (i := 2) rfl
  have f0 : mm_fr [] [] h h := mm_fr_rf
  refine mm_iload_n C (mm_dec dk_X5_beside 0 rfl) rfl ?_
  refine mm_bipush C (mm_dec dk_X5_beside 1 rfl) ⟨by decide, by decide⟩ ?_
  refine mm_irem C (mm_dec dk_X5_beside 2 rfl) (by omega) (by omega) ?_
  refine mm_istore_nL (ls2 := [mR 1, mI p1, mI p2, mI (p1 % 20), mU]) C (mm_dec dk_X5_beside 3 rfl) (by decide) rfl ?_
  refine mm_iload_n C (mm_dec dk_X5_beside 4 rfl) rfl ?_
  refine mm_bipush C (mm_dec dk_X5_beside 5 rfl) ⟨by decide, by decide⟩ ?_
  refine mm_idiv C (mm_dec dk_X5_beside 6 rfl) ⟨by omega, by omega⟩ (by omega) ?_
  refine mm_istoreL (ls2 := [mR 1, mI p1, mI p2, mI (p1 % 20), mI (p1 / 20)]) C (mm_dec dk_X5_beside 7 rfl) (by decide) rfl ?_
  refine mm_iload_n C (mm_dec dk_X5_beside 8 rfl) rfl ?_
  refine mm_table (t0 := 149) [44, 70, 97, 126] C (mm_dec dk_X5_beside 9 rfl) (by decide) (by decide) (by decide +kernel) (fun c12 => ?_) (fun k12 hk12 c12 => ?_)
  · skip
    refine mm_iconst C (mm_dec dk_X5_beside 74 rfl) ⟨by decide, by decide⟩ ?_
    exact mm_iret C T (mm_dec dk_X5_beside 75 rfl) (by decide : 0 ≤ 0) (by decide : 0 ≤ 0) ⟨_, rfl, ⟨⟨by omega, by omega⟩, rfl, by unfold mm_bes; repeat' split <;> omega⟩⟩
  · have hq12 : k12 < 4 := hk12
    rcases (by omega : k12 = 0 ∨ k12 = 1 ∨ k12 = 2 ∨ k12 = 3) with rfl | rfl | rfl | rfl
    · show mm_W x 0 0 44 _ _ _
      refine mm_iload C (mm_dec dk_X5_beside 10 rfl) rfl ?_
      refine mm_if_le (tgt := 68) C (mm_dec dk_X5_beside 11 rfl) (by decide) (fun c46 => ?_) (fun c46 => ?_)
      · skip
        refine mm_iconst C (mm_dec dk_X5_beside 23 rfl) ⟨by decide, by decide⟩ ?_
        exact mm_iret C T (mm_dec dk_X5_beside 24 rfl) (by decide : 0 ≤ 0) (by decide : 0 ≤ 0) ⟨_, rfl, ⟨⟨by omega, by omega⟩, rfl, by unfold mm_bes; repeat' split <;> omega⟩⟩
      · skip
        refine mm_aload_n C (mm_dec dk_X5_beside 12 rfl) rfl ?_
        refine mm_getr (t := 5) C fl_X5_22 (mm_dec dk_X5_beside 13 rfl) rfl rfl (mm_ref i0 rfl) ?_
        refine mm_iload_n C (mm_dec dk_X5_beside 14 rfl) rfl ?_
        refine mm_bipush C (mm_dec dk_X5_beside 15 rfl) ⟨by decide, by decide⟩ ?_
        refine mm_isub C (mm_dec dk_X5_beside 16 rfl) ⟨by omega, by omega⟩ ?_
        refine mm_zald C (mm_dec dk_X5_beside 17 rfl) rfl (by omega) (by omega) ?_
        have g1 : 0 ≤ (h.2.1 5 (p1 - 20)) ∧ (h.2.1 5 (p1 - 20)) ≤ 1 := i0.2.1 5 (p1 - 20)
        refine mm_if_ne (tgt := 68) C (mm_dec dk_X5_beside 18 rfl) (by decide) (fun c58 => ?_) (fun c58 => ?_)
        · skip
          refine mm_iconst C (mm_dec dk_X5_beside 23 rfl) ⟨by decide, by decide⟩ ?_
          exact mm_iret C T (mm_dec dk_X5_beside 24 rfl) (by decide : 0 ≤ 0) (by decide : 0 ≤ 0) ⟨_, rfl, ⟨⟨by omega, by omega⟩, rfl, by unfold mm_bes; repeat' split <;> omega⟩⟩
        · skip
          refine mm_iload_n C (mm_dec dk_X5_beside 19 rfl) rfl ?_
          refine mm_bipush C (mm_dec dk_X5_beside 20 rfl) ⟨by decide, by decide⟩ ?_
          refine mm_isub C (mm_dec dk_X5_beside 21 rfl) ⟨by omega, by omega⟩ ?_
          refine mm_goto (tgt := 69) C (mm_dec dk_X5_beside 22 rfl) (by decide) ?_
          exact mm_iret C T (mm_dec dk_X5_beside 24 rfl) (by decide : 0 ≤ 0) (by decide : 0 ≤ 0) ⟨_, rfl, ⟨⟨by omega, by omega⟩, rfl, by unfold mm_bes; repeat' split <;> omega⟩⟩
    · show mm_W x 0 0 70 _ _ _
      refine mm_iload_n C (mm_dec dk_X5_beside 25 rfl) rfl ?_
      refine mm_aload_n C (mm_dec dk_X5_beside 26 rfl) rfl ?_
      refine mm_geti C fl_X5_28 (mm_dec dk_X5_beside 27 rfl) rfl rfl (Or.inl rfl) ?_
      have g2 : 1 ≤ (h.1 1 5) ∧ (h.1 1 5) ≤ 20 := i0.1 1 5
      refine mm_iconst C (mm_dec dk_X5_beside 28 rfl) ⟨by decide, by decide⟩ ?_
      refine mm_isub C (mm_dec dk_X5_beside 29 rfl) ⟨by omega, by omega⟩ ?_
      refine mm_icmp_ge (tgt := 95) C (mm_dec dk_X5_beside 30 rfl) (by decide) (fun c77 => ?_) (fun c77 => ?_)
      · skip
        refine mm_iconst C (mm_dec dk_X5_beside 40 rfl) ⟨by decide, by decide⟩ ?_
        exact mm_iret C T (mm_dec dk_X5_beside 41 rfl) (by decide : 0 ≤ 0) (by decide : 0 ≤ 0) ⟨_, rfl, ⟨⟨by omega, by omega⟩, rfl, by unfold mm_bes; repeat' split <;> omega⟩⟩
      · skip
        refine mm_aload_n C (mm_dec dk_X5_beside 31 rfl) rfl ?_
        refine mm_getr (t := 4) C fl_X5_18 (mm_dec dk_X5_beside 32 rfl) rfl rfl (mm_ref i0 rfl) ?_
        refine mm_iload_n C (mm_dec dk_X5_beside 33 rfl) rfl ?_
        refine mm_zald C (mm_dec dk_X5_beside 34 rfl) rfl (by omega) (by omega) ?_
        have g3 : 0 ≤ (h.2.1 4 p1) ∧ (h.2.1 4 p1) ≤ 1 := i0.2.1 4 p1
        refine mm_if_ne (tgt := 95) C (mm_dec dk_X5_beside 35 rfl) (by decide) (fun c86 => ?_) (fun c86 => ?_)
        · skip
          refine mm_iconst C (mm_dec dk_X5_beside 40 rfl) ⟨by decide, by decide⟩ ?_
          exact mm_iret C T (mm_dec dk_X5_beside 41 rfl) (by decide : 0 ≤ 0) (by decide : 0 ≤ 0) ⟨_, rfl, ⟨⟨by omega, by omega⟩, rfl, by unfold mm_bes; repeat' split <;> omega⟩⟩
        · skip
          refine mm_iload_n C (mm_dec dk_X5_beside 36 rfl) rfl ?_
          refine mm_iconst C (mm_dec dk_X5_beside 37 rfl) ⟨by decide, by decide⟩ ?_
          refine mm_iadd C (mm_dec dk_X5_beside 38 rfl) ⟨by omega, by omega⟩ ?_
          refine mm_goto (tgt := 96) C (mm_dec dk_X5_beside 39 rfl) (by decide) ?_
          exact mm_iret C T (mm_dec dk_X5_beside 41 rfl) (by decide : 0 ≤ 0) (by decide : 0 ≤ 0) ⟨_, rfl, ⟨⟨by omega, by omega⟩, rfl, by unfold mm_bes; repeat' split <;> omega⟩⟩
    · show mm_W x 0 0 97 _ _ _
      refine mm_iload C (mm_dec dk_X5_beside 42 rfl) rfl ?_
      refine mm_aload_n C (mm_dec dk_X5_beside 43 rfl) rfl ?_
      refine mm_geti C fl_X5_32 (mm_dec dk_X5_beside 44 rfl) rfl rfl (Or.inl rfl) ?_
      have g4 : 1 ≤ (h.1 1 6) ∧ (h.1 1 6) ≤ 20 := i0.1 1 6
      refine mm_iconst C (mm_dec dk_X5_beside 45 rfl) ⟨by decide, by decide⟩ ?_
      refine mm_isub C (mm_dec dk_X5_beside 46 rfl) ⟨by omega, by omega⟩ ?_
      refine mm_icmp_ge (tgt := 124) C (mm_dec dk_X5_beside 47 rfl) (by decide) (fun c105 => ?_) (fun c105 => ?_)
      · skip
        refine mm_iconst C (mm_dec dk_X5_beside 57 rfl) ⟨by decide, by decide⟩ ?_
        exact mm_iret C T (mm_dec dk_X5_beside 58 rfl) (by decide : 0 ≤ 0) (by decide : 0 ≤ 0) ⟨_, rfl, ⟨⟨by omega, by omega⟩, rfl, by unfold mm_bes; repeat' split <;> omega⟩⟩
      · skip
        refine mm_aload_n C (mm_dec dk_X5_beside 48 rfl) rfl ?_
        refine mm_getr (t := 5) C fl_X5_22 (mm_dec dk_X5_beside 49 rfl) rfl rfl (mm_ref i0 rfl) ?_
        refine mm_iload_n C (mm_dec dk_X5_beside 50 rfl) rfl ?_
        refine mm_zald C (mm_dec dk_X5_beside 51 rfl) rfl (by omega) (by omega) ?_
        have g5 : 0 ≤ (h.2.1 5 p1) ∧ (h.2.1 5 p1) ≤ 1 := i0.2.1 5 p1
        refine mm_if_ne (tgt := 124) C (mm_dec dk_X5_beside 52 rfl) (by decide) (fun c114 => ?_) (fun c114 => ?_)
        · skip
          refine mm_iconst C (mm_dec dk_X5_beside 57 rfl) ⟨by decide, by decide⟩ ?_
          exact mm_iret C T (mm_dec dk_X5_beside 58 rfl) (by decide : 0 ≤ 0) (by decide : 0 ≤ 0) ⟨_, rfl, ⟨⟨by omega, by omega⟩, rfl, by unfold mm_bes; repeat' split <;> omega⟩⟩
        · skip
          refine mm_iload_n C (mm_dec dk_X5_beside 53 rfl) rfl ?_
          refine mm_bipush C (mm_dec dk_X5_beside 54 rfl) ⟨by decide, by decide⟩ ?_
          refine mm_iadd C (mm_dec dk_X5_beside 55 rfl) ⟨by omega, by omega⟩ ?_
          refine mm_goto (tgt := 125) C (mm_dec dk_X5_beside 56 rfl) (by decide) ?_
          exact mm_iret C T (mm_dec dk_X5_beside 58 rfl) (by decide : 0 ≤ 0) (by decide : 0 ≤ 0) ⟨_, rfl, ⟨⟨by omega, by omega⟩, rfl, by unfold mm_bes; repeat' split <;> omega⟩⟩
    · show mm_W x 0 0 126 _ _ _
      refine mm_iload_n C (mm_dec dk_X5_beside 59 rfl) rfl ?_
      refine mm_if_le (tgt := 147) C (mm_dec dk_X5_beside 60 rfl) (by decide) (fun c127 => ?_) (fun c127 => ?_)
      · skip
        refine mm_iconst C (mm_dec dk_X5_beside 72 rfl) ⟨by decide, by decide⟩ ?_
        exact mm_iret C T (mm_dec dk_X5_beside 73 rfl) (by decide : 0 ≤ 0) (by decide : 0 ≤ 0) ⟨_, rfl, ⟨⟨by omega, by omega⟩, rfl, by unfold mm_bes; repeat' split <;> omega⟩⟩
      · skip
        refine mm_aload_n C (mm_dec dk_X5_beside 61 rfl) rfl ?_
        refine mm_getr (t := 4) C fl_X5_18 (mm_dec dk_X5_beside 62 rfl) rfl rfl (mm_ref i0 rfl) ?_
        refine mm_iload_n C (mm_dec dk_X5_beside 63 rfl) rfl ?_
        refine mm_iconst C (mm_dec dk_X5_beside 64 rfl) ⟨by decide, by decide⟩ ?_
        refine mm_isub C (mm_dec dk_X5_beside 65 rfl) ⟨by omega, by omega⟩ ?_
        refine mm_zald C (mm_dec dk_X5_beside 66 rfl) rfl (by omega) (by omega) ?_
        have g6 : 0 ≤ (h.2.1 4 (p1 - 1)) ∧ (h.2.1 4 (p1 - 1)) ≤ 1 := i0.2.1 4 (p1 - 1)
        refine mm_if_ne (tgt := 147) C (mm_dec dk_X5_beside 67 rfl) (by decide) (fun c138 => ?_) (fun c138 => ?_)
        · skip
          refine mm_iconst C (mm_dec dk_X5_beside 72 rfl) ⟨by decide, by decide⟩ ?_
          exact mm_iret C T (mm_dec dk_X5_beside 73 rfl) (by decide : 0 ≤ 0) (by decide : 0 ≤ 0) ⟨_, rfl, ⟨⟨by omega, by omega⟩, rfl, by unfold mm_bes; repeat' split <;> omega⟩⟩
        · skip
          refine mm_iload_n C (mm_dec dk_X5_beside 68 rfl) rfl ?_
          refine mm_iconst C (mm_dec dk_X5_beside 69 rfl) ⟨by decide, by decide⟩ ?_
          refine mm_isub C (mm_dec dk_X5_beside 70 rfl) ⟨by omega, by omega⟩ ?_
          refine mm_goto (tgt := 148) C (mm_dec dk_X5_beside 71 rfl) (by decide) ?_
          exact mm_iret C T (mm_dec dk_X5_beside 73 rfl) (by decide : 0 ≤ 0) (by decide : 0 ≤ 0) ⟨_, rfl, ⟨⟨by omega, by omega⟩, rfl, by unfold mm_bes; repeat' split <;> omega⟩⟩
set_option maxRecDepth 100000 in
set_option maxHeartbeats 4000000 in
theorem c_X5_secondsOf (l : Launch) (hl : l.stackTraces = false) (d : Nat) (hd : 0 ≤ d) (h : mH) (i0 : mm_inv h) (p1 : Int) (p2 : Int) (bp1 : 0 ≤ p1 ∧ p1 ≤ 399) (bp2 : 0 ≤ p2 ∧ p2 ≤ 399) : mm_Met l d yX5_secondsOf cX5_secondsOf 4 (some .int) [mR 1, mI p1, mI p2] h (mm_pi fun r h2 => (0 ≤ r ∧ r ≤ 9900) ∧ h2 = h) mm_nx 0 0 := by
  refine mm_ofW (ls := [mR 1, mI p1, mI p2, mU]) hl (by decide) rfl (Nat.le_of_ble_eq_true rfl) ?_
  intro x hxl C T hnm htb
  subst hxl
  refine mm_rng (fun hr _ => ?_)
  have ap1 : -2147483648 ≤ p1 ∧ p1 < 2147483648 := mm_ok_at hr (i := 1) rfl
  have ap2 : -2147483648 ≤ p2 ∧ p2 < 2147483648 := mm_ok_at hr (i := 2) rfl
  have f0 : mm_fr [] [] h h := mm_fr_rf
  refine mm_aload_n C (mm_dec dk_X5_secondsOf 0 rfl) rfl ?_
  refine mm_getr (t := 3) C fl_X5_15 (mm_dec dk_X5_secondsOf 1 rfl) rfl rfl (mm_ref i0 rfl) ?_
  refine mm_iload_n C (mm_dec dk_X5_secondsOf 2 rfl) rfl ?_
  refine mm_iald C (mm_dec dk_X5_secondsOf 3 rfl) rfl (by omega) (by omega) ?_
  have g1 : 0 ≤ (h.2.1 3 p2) ∧ (h.2.1 3 p2) ≤ 99 := i0.2.1 3 p2
  refine mm_aload_n C (mm_dec dk_X5_secondsOf 4 rfl) rfl ?_
  refine mm_getr (t := 3) C fl_X5_15 (mm_dec dk_X5_secondsOf 5 rfl) rfl rfl (mm_ref i0 rfl) ?_
  refine mm_iload_n C (mm_dec dk_X5_secondsOf 6 rfl) rfl ?_
  refine mm_iald C (mm_dec dk_X5_secondsOf 7 rfl) rfl (by omega) (by omega) ?_
  have g2 : 0 ≤ (h.2.1 3 p1) ∧ (h.2.1 3 p1) ≤ 99 := i0.2.1 3 p1
  refine mm_isub C (mm_dec dk_X5_secondsOf 8 rfl) ⟨by omega, by omega⟩ ?_
  refine mm_istore_nL (ls2 := [mR 1, mI p1, mI p2, mI ((h.2.1 3 p2) - (h.2.1 3 p1))]) C (mm_dec dk_X5_secondsOf 9 rfl) (by decide) rfl ?_
  refine mm_aload_n C (mm_dec dk_X5_secondsOf 10 rfl) rfl ?_
  refine mm_getr (t := 6) C fl_X5_25 (mm_dec dk_X5_secondsOf 11 rfl) rfl rfl (mm_ref i0 rfl) ?_
  refine mm_aload_n C (mm_dec dk_X5_secondsOf 12 rfl) rfl ?_
  refine mm_getr (t := 2) C fl_X5_9 (mm_dec dk_X5_secondsOf 13 rfl) rfl rfl (mm_ref i0 rfl) ?_
  refine mm_iload_n C (mm_dec dk_X5_secondsOf 14 rfl) rfl ?_
  refine mm_iald C (mm_dec dk_X5_secondsOf 15 rfl) rfl (by omega) (by omega) ?_
  have g3 : 0 ≤ (h.2.1 2 p2) ∧ (h.2.1 2 p2) ≤ 7 := i0.2.1 2 p2
  refine mm_iald C (mm_dec dk_X5_secondsOf 16 rfl) rfl (by omega) (by omega) ?_
  have g4 : 0 ≤ (h.2.1 6 (h.2.1 2 p2)) ∧ (h.2.1 6 (h.2.1 2 p2)) ≤ 99 := i0.2.1 6 (h.2.1 2 p2)
  refine mm_iload_n C (mm_dec dk_X5_secondsOf 17 rfl) rfl ?_
  refine mm_if_le (tgt := 41) C (mm_dec dk_X5_secondsOf 18 rfl) (by decide) (fun c26 => ?_) (fun c26 => ?_)
  · skip
    refine mm_iconst C (mm_dec dk_X5_secondsOf 26 rfl) ⟨by decide, by decide⟩ ?_
    refine mm_iadd C (mm_dec dk_X5_secondsOf 27 rfl) ⟨by omega, by omega⟩ ?_
    exact mm_iret C T (mm_dec dk_X5_secondsOf 28 rfl) (by decide : 0 ≤ 0) (by decide : 0 ≤ 0) ⟨_, rfl, ⟨⟨by omega, by omega⟩, rfl⟩⟩
  · skip
    refine mm_iload_n C (mm_dec dk_X5_secondsOf 19 rfl) rfl ?_
    refine mm_aload_n C (mm_dec dk_X5_secondsOf 20 rfl) rfl ?_
    refine mm_getr (t := 6) C fl_X5_25 (mm_dec dk_X5_secondsOf 21 rfl) rfl rfl (mm_ref i0 rfl) ?_
    refine mm_bipush C (mm_dec dk_X5_secondsOf 22 rfl) ⟨by decide, by decide⟩ ?_
    refine mm_iald C (mm_dec dk_X5_secondsOf 23 rfl) rfl (by omega) (by omega) ?_
    have g5 : 0 ≤ (h.2.1 6 8) ∧ (h.2.1 6 8) ≤ 99 := i0.2.1 6 8
    have g6 : 0 ≤ ((h.2.1 3 p2) - (h.2.1 3 p1)) * (h.2.1 6 8) ∧ ((h.2.1 3 p2) - (h.2.1 3 p1)) * (h.2.1 6 8) ≤ 99 * 99 := mm_mul_rg ⟨by omega, by omega⟩ ⟨by omega, by omega⟩
    refine mm_imul C (mm_dec dk_X5_secondsOf 24 rfl) ⟨by omega, by omega⟩ ?_
    refine mm_goto (tgt := 42) C (mm_dec dk_X5_secondsOf 25 rfl) (by decide) ?_
    refine mm_iadd C (mm_dec dk_X5_secondsOf 27 rfl) ⟨by omega, by omega⟩ ?_
    exact mm_iret C T (mm_dec dk_X5_secondsOf 28 rfl) (by decide : 0 ≤ 0) (by decide : 0 ≤ 0) ⟨_, rfl, ⟨⟨by omega, by omega⟩, rfl⟩⟩
set_option maxRecDepth 100000 in
set_option maxHeartbeats 4000000 in
theorem c_X6_clear (l : Launch) (hl : l.stackTraces = false) (d : Nat) (hd : 0 ≤ d) (h : mH) (i0 : mm_inv h) : mm_Met l d yX6_clear cX6_clear 1 none [mR 30] h (mm_pv fun h2 => mm_inv h2 ∧ mm_fr [(30, 6), (30, 12), (30, 13)] [] h h2) mm_nx 0 0 := by
  refine mm_ofW (ls := [mR 30]) hl (by decide) rfl (Nat.le_of_ble_eq_true rfl) ?_
  intro x hxl C T hnm htb
  subst hxl
  have f0 : mm_fr [(30, 6), (30, 12), (30, 13)] [] h h := mm_fr_rf
  refine mm_aload_n C (mm_dec dk_X6_clear 0 rfl) rfl ?_
  refine mm_iconst C (mm_dec dk_X6_clear 1 rfl) ⟨by decide, by decide⟩ ?_
  refine mm_puti C fl_X6_30 (mm_dec dk_X6_clear 2 rfl) rfl rfl rfl (Or.inl ⟨rfl, rfl⟩) ?_
  have i1 : mm_inv (mm_pf h 30 6 0) := mm_inv_pf i0 (show 0 ≤ 0 ∧ 0 ≤ 500 from ⟨by omega, by omega⟩) (by decide)
  have f1 : mm_fr [(30, 6), (30, 12), (30, 13)] [] h (mm_pf h 30 6 0) := mm_fr_pf f0 (by decide)
  obtain ⟨h1, eh1⟩ : ∃ z, z = mm_pf h 30 6 0 := ⟨_, rfl⟩
  rw [← eh1] at i1 f1 ⊢
  have qh1 : h1.1 30 6 = 0 := by rw [eh1]; exact mm_pf_same _ _ _ _
  refine mm_aload_n C (mm_dec dk_X6_clear 3 rfl) rfl ?_
  refine mm_iconst C (mm_dec dk_X6_clear 4 rfl) ⟨by decide, by decide⟩ ?_
  refine mm_puti C fl_X6_49 (mm_dec dk_X6_clear 5 rfl) rfl rfl rfl (Or.inl ⟨rfl, rfl⟩) ?_
  have i2 : mm_inv (mm_pf h1 30 12 0) := mm_inv_pf i1 (show 0 ≤ 0 ∧ 0 ≤ 40 from ⟨by omega, by omega⟩) (by decide)
  have f2 : mm_fr [(30, 6), (30, 12), (30, 13)] [] h (mm_pf h1 30 12 0) := mm_fr_pf f1 (by decide)
  obtain ⟨h2, eh2⟩ : ∃ z, z = mm_pf h1 30 12 0 := ⟨_, rfl⟩
  rw [← eh2] at i2 f2 ⊢
  have qh2 : h2.1 30 12 = 0 := by rw [eh2]; exact mm_pf_same _ _ _ _
  have qh2_1 : h2.1 30 6 = h1.1 30 6 := by rw [eh2]; exact mm_pf_ne _ _ (by decide)
  refine mm_aload_n C (mm_dec dk_X6_clear 6 rfl) rfl ?_
  refine mm_iconst C (mm_dec dk_X6_clear 7 rfl) ⟨by decide, by decide⟩ ?_
  refine mm_puti C fl_X6_52 (mm_dec dk_X6_clear 8 rfl) rfl rfl rfl (Or.inl ⟨rfl, rfl⟩) ?_
  have i3 : mm_inv (mm_pf h2 30 13 0) := mm_inv_pf i2 (show -2147483648 ≤ 0 ∧ 0 ≤ 2147483647 from ⟨by omega, by omega⟩) (by decide)
  have f3 : mm_fr [(30, 6), (30, 12), (30, 13)] [] h (mm_pf h2 30 13 0) := mm_fr_pf f2 (by decide)
  obtain ⟨h3, eh3⟩ : ∃ z, z = mm_pf h2 30 13 0 := ⟨_, rfl⟩
  rw [← eh3] at i3 f3 ⊢
  have qh3 : h3.1 30 13 = 0 := by rw [eh3]; exact mm_pf_same _ _ _ _
  have qh3_2 : h3.1 30 6 = h2.1 30 6 := by rw [eh3]; exact mm_pf_ne _ _ (by decide)
  have qh3_3 : h3.1 30 12 = h2.1 30 12 := by rw [eh3]; exact mm_pf_ne _ _ (by decide)
  exact mm_vret C T (mm_dec dk_X6_clear 9 rfl) (by decide : 0 ≤ 0) (by decide : 0 ≤ 0) ⟨rfl, ⟨i3, f3⟩⟩
set_option maxRecDepth 100000 in
set_option maxHeartbeats 4000000 in
theorem c_X6_events (l : Launch) (hl : l.stackTraces = false) (d : Nat) (hd : 0 ≤ d) (h : mH) (i0 : mm_inv h) : mm_Met l d yX6_events cX6_events 1 (some .int) [mR 30] h (mm_pi fun r h2 => h2 = h ∧ (r = (h.1 30 6))) mm_nx 0 0 := by
  refine mm_ofW (ls := [mR 30]) hl (by decide) rfl (Nat.le_of_ble_eq_true rfl) ?_
  intro x hxl C T hnm htb
  subst hxl
  have f0 : mm_fr [] [] h h := mm_fr_rf
  refine mm_aload_n C (mm_dec dk_X6_events 0 rfl) rfl ?_
  refine mm_geti C fl_X6_30 (mm_dec dk_X6_events 1 rfl) rfl rfl (Or.inl rfl) ?_
  have g1 : 0 ≤ (h.1 30 6) ∧ (h.1 30 6) ≤ 500 := i0.1 30 6
  exact mm_iret C T (mm_dec dk_X6_events 2 rfl) (by decide : 0 ≤ 0) (by decide : 0 ≤ 0) ⟨_, rfl, ⟨rfl, rfl⟩⟩
set_option maxRecDepth 100000 in
set_option maxHeartbeats 4000000 in
theorem c_X6_tell (l : Launch) (hl : l.stackTraces = false) (d : Nat) (hd : 0 ≤ d) (h : mH) (i0 : mm_inv h) (p1 : Int) (p2 : Int) (p3 : Int) (p4 : Int) (p5 : Int) (bp2 : 0 ≤ p2 ∧ p2 ≤ 39) (u0 : (h.1 30 6) ≤ 499) : mm_Met l d yX6_tell cX6_tell 6 (some .int) [mR 30, mI p1, mI p2, mI p3, mI p4, mI p5] h (mm_pi fun r h2 => (0 ≤ r ∧ r ≤ 499) ∧ mm_inv h2 ∧ mm_fr [(30, 6)] [31, 32, 33, 34, 35, 36] h h2 ∧ h2.1 30 6 = h.1 30 6 + 1) mm_nx 0 0 := by
  refine mm_ofW (ls := [mR 30, mI p1, mI p2, mI p3, mI p4, mI p5]) hl (by decide) rfl (Nat.le_of_ble_eq_true rfl) ?_
  intro x hxl C T hnm htb
  subst hxl
  refine mm_rng (fun hr _ => ?_)
  have ap1 : -2147483648 ≤ p1 ∧ p1 < 2147483648 := mm_ok_at hr (i := 1) rfl
  have ap2 : -2147483648 ≤ p2 ∧ p2 < 2147483648 := mm_ok_at hr (i := 2) rfl
  have ap3 : -2147483648 ≤ p3 ∧ p3 < 2147483648 := mm_ok_at hr (i := 3) rfl
  have ap4 : -2147483648 ≤ p4 ∧ p4 < 2147483648 := mm_ok_at hr (i := 4) rfl
  have ap5 : -2147483648 ≤ p5 ∧ p5 < 2147483648 := mm_ok_at hr (i := 5) rfl
  have f0 : mm_fr [(30, 6)] [31, 32, 33, 34, 35, 36] h h := mm_fr_rf
  have g1 : 0 ≤ h.1 30 6 ∧ h.1 30 6 ≤ 500 := i0.1 30 6
  refine mm_aload_n C (mm_dec dk_X6_tell 0 rfl) rfl ?_
  refine mm_getr (t := 31) C fl_X6_9 (mm_dec dk_X6_tell 1 rfl) rfl rfl (mm_ref i0 rfl) ?_
  refine mm_aload_n C (mm_dec dk_X6_tell 2 rfl) rfl ?_
  refine mm_geti C fl_X6_30 (mm_dec dk_X6_tell 3 rfl) rfl rfl (Or.inl rfl) ?_
  refine mm_iload_n C (mm_dec dk_X6_tell 4 rfl) rfl ?_
  refine mm_iast C (mm_dec dk_X6_tell 5 rfl) rfl (by omega) (by omega) ?_
  have i1 : mm_inv (mm_pa h 31 (h.1 30 6) p1) := mm_inv_pa i0 (show -2147483648 ≤ p1 ∧ p1 ≤ 2147483647 from ⟨by omega, by omega⟩)
  have f1 : mm_fr [(30, 6)] [31, 32, 33, 34, 35, 36] h (mm_pa h 31 (h.1 30 6) p1) := mm_fr_pa f0 (by decide)
  obtain ⟨h1, eh1⟩ : ∃ z, z = mm_pa h 31 (h.1 30 6) p1 := ⟨_, rfl⟩
  rw [← eh1] at i1 f1 ⊢
  have qh1_2 : h1.1 30 6 = h.1 30 6 := by rw [eh1]; rfl
  refine mm_aload_n C (mm_dec dk_X6_tell 6 rfl) rfl ?_
  refine mm_getr (t := 32) C fl_X6_15 (mm_dec dk_X6_tell 7 rfl) rfl rfl (mm_ref i1 rfl) ?_
  refine mm_aload_n C (mm_dec dk_X6_tell 8 rfl) rfl ?_
  refine mm_geti C fl_X6_30 (mm_dec dk_X6_tell 9 rfl) rfl rfl (Or.inl rfl) ?_
  refine mm_iload_n C (mm_dec dk_X6_tell 10 rfl) rfl ?_
  refine mm_iast C (mm_dec dk_X6_tell 11 rfl) rfl (by omega) (by omega) ?_
  have i2 : mm_inv (mm_pa h1 32 (h1.1 30 6) p2) := mm_inv_pa i1 (show -2147483648 ≤ p2 ∧ p2 ≤ 2147483647 from ⟨by omega, by omega⟩)
  have f2 : mm_fr [(30, 6)] [31, 32, 33, 34, 35, 36] h (mm_pa h1 32 (h1.1 30 6) p2) := mm_fr_pa f1 (by decide)
  obtain ⟨h2, eh2⟩ : ∃ z, z = mm_pa h1 32 (h1.1 30 6) p2 := ⟨_, rfl⟩
  rw [← eh2] at i2 f2 ⊢
  have qh2_3 : h2.1 30 6 = h1.1 30 6 := by rw [eh2]; rfl
  refine mm_aload_n C (mm_dec dk_X6_tell 12 rfl) rfl ?_
  refine mm_getr (t := 33) C fl_X6_18 (mm_dec dk_X6_tell 13 rfl) rfl rfl (mm_ref i2 rfl) ?_
  refine mm_aload_n C (mm_dec dk_X6_tell 14 rfl) rfl ?_
  refine mm_geti C fl_X6_30 (mm_dec dk_X6_tell 15 rfl) rfl rfl (Or.inl rfl) ?_
  refine mm_iload_n C (mm_dec dk_X6_tell 16 rfl) rfl ?_
  refine mm_iast C (mm_dec dk_X6_tell 17 rfl) rfl (by omega) (by omega) ?_
  have i3 : mm_inv (mm_pa h2 33 (h2.1 30 6) p3) := mm_inv_pa i2 (show -2147483648 ≤ p3 ∧ p3 ≤ 2147483647 from ⟨by omega, by omega⟩)
  have f3 : mm_fr [(30, 6)] [31, 32, 33, 34, 35, 36] h (mm_pa h2 33 (h2.1 30 6) p3) := mm_fr_pa f2 (by decide)
  obtain ⟨h3, eh3⟩ : ∃ z, z = mm_pa h2 33 (h2.1 30 6) p3 := ⟨_, rfl⟩
  rw [← eh3] at i3 f3 ⊢
  have qh3_4 : h3.1 30 6 = h2.1 30 6 := by rw [eh3]; rfl
  refine mm_aload_n C (mm_dec dk_X6_tell 18 rfl) rfl ?_
  refine mm_getr (t := 34) C fl_X6_21 (mm_dec dk_X6_tell 19 rfl) rfl rfl (mm_ref i3 rfl) ?_
  refine mm_aload_n C (mm_dec dk_X6_tell 20 rfl) rfl ?_
  refine mm_geti C fl_X6_30 (mm_dec dk_X6_tell 21 rfl) rfl rfl (Or.inl rfl) ?_
  refine mm_iload C (mm_dec dk_X6_tell 22 rfl) rfl ?_
  refine mm_iast C (mm_dec dk_X6_tell 23 rfl) rfl (by omega) (by omega) ?_
  have i4 : mm_inv (mm_pa h3 34 (h3.1 30 6) p4) := mm_inv_pa i3 (show -2147483648 ≤ p4 ∧ p4 ≤ 2147483647 from ⟨by omega, by omega⟩)
  have f4 : mm_fr [(30, 6)] [31, 32, 33, 34, 35, 36] h (mm_pa h3 34 (h3.1 30 6) p4) := mm_fr_pa f3 (by decide)
  obtain ⟨h4, eh4⟩ : ∃ z, z = mm_pa h3 34 (h3.1 30 6) p4 := ⟨_, rfl⟩
  rw [← eh4] at i4 f4 ⊢
  have qh4_5 : h4.1 30 6 = h3.1 30 6 := by rw [eh4]; rfl
  refine mm_aload_n C (mm_dec dk_X6_tell 24 rfl) rfl ?_
  refine mm_getr (t := 35) C fl_X6_24 (mm_dec dk_X6_tell 25 rfl) rfl rfl (mm_ref i4 rfl) ?_
  refine mm_aload_n C (mm_dec dk_X6_tell 26 rfl) rfl ?_
  refine mm_geti C fl_X6_30 (mm_dec dk_X6_tell 27 rfl) rfl rfl (Or.inl rfl) ?_
  refine mm_iload C (mm_dec dk_X6_tell 28 rfl) rfl ?_
  refine mm_iast C (mm_dec dk_X6_tell 29 rfl) rfl (by omega) (by omega) ?_
  have i5 : mm_inv (mm_pa h4 35 (h4.1 30 6) p5) := mm_inv_pa i4 (show -2147483648 ≤ p5 ∧ p5 ≤ 2147483647 from ⟨by omega, by omega⟩)
  have f5 : mm_fr [(30, 6)] [31, 32, 33, 34, 35, 36] h (mm_pa h4 35 (h4.1 30 6) p5) := mm_fr_pa f4 (by decide)
  obtain ⟨h5, eh5⟩ : ∃ z, z = mm_pa h4 35 (h4.1 30 6) p5 := ⟨_, rfl⟩
  rw [← eh5] at i5 f5 ⊢
  have qh5_6 : h5.1 30 6 = h4.1 30 6 := by rw [eh5]; rfl
  refine mm_aload_n C (mm_dec dk_X6_tell 30 rfl) rfl ?_
  refine mm_getr (t := 36) C fl_X6_27 (mm_dec dk_X6_tell 31 rfl) rfl rfl (mm_ref i5 rfl) ?_
  refine mm_aload_n C (mm_dec dk_X6_tell 32 rfl) rfl ?_
  refine mm_geti C fl_X6_30 (mm_dec dk_X6_tell 33 rfl) rfl rfl (Or.inl rfl) ?_
  refine mm_iconst C (mm_dec dk_X6_tell 34 rfl) ⟨by decide, by decide⟩ ?_
  refine mm_iast C (mm_dec dk_X6_tell 35 rfl) rfl (by omega) (by omega) ?_
  have i6 : mm_inv (mm_pa h5 36 (h5.1 30 6) (-1)) := mm_inv_pa i5 (show -2147483648 ≤ (-1) ∧ (-1) ≤ 2147483647 from ⟨by omega, by omega⟩)
  have f6 : mm_fr [(30, 6)] [31, 32, 33, 34, 35, 36] h (mm_pa h5 36 (h5.1 30 6) (-1)) := mm_fr_pa f5 (by decide)
  obtain ⟨h6, eh6⟩ : ∃ z, z = mm_pa h5 36 (h5.1 30 6) (-1) := ⟨_, rfl⟩
  rw [← eh6] at i6 f6 ⊢
  have qh6_7 : h6.1 30 6 = h5.1 30 6 := by rw [eh6]; rfl
  refine mm_aload_n C (mm_dec dk_X6_tell 36 rfl) rfl ?_
  refine mm_dup C (mm_dec dk_X6_tell 37 rfl) (show (2 : Nat) ≠ 1 by decide) ?_
  refine mm_geti C fl_X6_30 (mm_dec dk_X6_tell 38 rfl) rfl rfl (Or.inl rfl) ?_
  refine mm_iconst C (mm_dec dk_X6_tell 39 rfl) ⟨by decide, by decide⟩ ?_
  refine mm_iadd C (mm_dec dk_X6_tell 40 rfl) ⟨by omega, by omega⟩ ?_
  refine mm_puti C fl_X6_30 (mm_dec dk_X6_tell 41 rfl) rfl rfl rfl (Or.inl ⟨rfl, rfl⟩) ?_
  have i7 : mm_inv (mm_pf h6 30 6 ((h6.1 30 6) + 1)) := mm_inv_pf i6 (show 0 ≤ ((h6.1 30 6) + 1) ∧ ((h6.1 30 6) + 1) ≤ 500 from ⟨by omega, by omega⟩) (by decide)
  have f7 : mm_fr [(30, 6)] [31, 32, 33, 34, 35, 36] h (mm_pf h6 30 6 ((h6.1 30 6) + 1)) := mm_fr_pf f6 (by decide)
  obtain ⟨h7, eh7⟩ : ∃ z, z = mm_pf h6 30 6 ((h6.1 30 6) + 1) := ⟨_, rfl⟩
  rw [← eh7] at i7 f7 ⊢
  have qh7 : h7.1 30 6 = ((h6.1 30 6) + 1) := by rw [eh7]; exact mm_pf_same _ _ _ _
  refine mm_aload_n C (mm_dec dk_X6_tell 42 rfl) rfl ?_
  refine mm_geti C fl_X6_30 (mm_dec dk_X6_tell 43 rfl) rfl rfl (Or.inl rfl) ?_
  refine mm_iconst C (mm_dec dk_X6_tell 44 rfl) ⟨by decide, by decide⟩ ?_
  refine mm_isub C (mm_dec dk_X6_tell 45 rfl) ⟨by omega, by omega⟩ ?_
  exact mm_iret C T (mm_dec dk_X6_tell 46 rfl) (by decide : 0 ≤ 0) (by decide : 0 ≤ 0) ⟨_, rfl, ⟨⟨by omega, by omega⟩, i7, f7, by omega⟩⟩
set_option maxRecDepth 100000 in
set_option maxHeartbeats 4000000 in
theorem c_X6_takeBack (l : Launch) (hl : l.stackTraces = false) (d : Nat) (hd : 0 ≤ d) (h : mH) (i0 : mm_inv h) (p1 : Int) (p2 : Int) (bp1 : 0 ≤ p1 ∧ p1 ≤ 499) : mm_Met l d yX6_takeBack cX6_takeBack 3 (some .boolean) [mR 30, mI p1, mI p2] h (mm_pi fun r h2 => (0 ≤ r ∧ r ≤ 1) ∧ mm_inv h2 ∧ mm_fr [] [36] h h2) mm_nx 0 0 := by
  refine mm_ofW (ls := [mR 30, mI p1, mI p2]) hl (by decide) rfl (Nat.le_of_ble_eq_true rfl) ?_
  intro x hxl C T hnm htb
  subst hxl
  refine mm_rng (fun hr _ => ?_)
  have ap1 : -2147483648 ≤ p1 ∧ p1 < 2147483648 := mm_ok_at hr (i := 1) rfl
  have ap2 : -2147483648 ≤ p2 ∧ p2 < 2147483648 := mm_ok_at hr (i := 2) rfl
  have f0 : mm_fr [] [36] h h := mm_fr_rf
  refine mm_aload_n C (mm_dec dk_X6_takeBack 0 rfl) rfl ?_
  refine mm_getr (t := 36) C fl_X6_27 (mm_dec dk_X6_takeBack 1 rfl) rfl rfl (mm_ref i0 rfl) ?_
  refine mm_iload_n C (mm_dec dk_X6_takeBack 2 rfl) rfl ?_
  refine mm_iald C (mm_dec dk_X6_takeBack 3 rfl) rfl (by omega) (by omega) ?_
  have g1 : -2147483648 ≤ (h.2.1 36 p1) ∧ (h.2.1 36 p1) ≤ 2147483647 := i0.2.1 36 p1
  refine mm_iconst C (mm_dec dk_X6_takeBack 4 rfl) ⟨by decide, by decide⟩ ?_
  refine mm_icmp_eq (tgt := 12) C (mm_dec dk_X6_takeBack 5 rfl) (by decide) (fun c7 => ?_) (fun c7 => ?_)
  · skip
    refine mm_aload_n C (mm_dec dk_X6_takeBack 8 rfl) rfl ?_
    refine mm_getr (t := 36) C fl_X6_27 (mm_dec dk_X6_takeBack 9 rfl) rfl rfl (mm_ref i0 rfl) ?_
    refine mm_iload_n C (mm_dec dk_X6_takeBack 10 rfl) rfl ?_
    refine mm_iload_n C (mm_dec dk_X6_takeBack 11 rfl) rfl ?_
    refine mm_iast C (mm_dec dk_X6_takeBack 12 rfl) rfl (by omega) (by omega) ?_
    have i1 : mm_inv (mm_pa h 36 p1 p2) := mm_inv_pa i0 (show -2147483648 ≤ p2 ∧ p2 ≤ 2147483647 from ⟨by omega, by omega⟩)
    have f1 : mm_fr [] [36] h (mm_pa h 36 p1 p2) := mm_fr_pa f0 (by decide)
    obtain ⟨h1, eh1⟩ : ∃ z, z = mm_pa h 36 p1 p2 := ⟨_, rfl⟩
    rw [← eh1] at i1 f1 ⊢
    refine mm_iconst C (mm_dec dk_X6_takeBack 13 rfl) ⟨by decide, by decide⟩ ?_
    exact mm_zret C T (mm_dec dk_X6_takeBack 14 rfl) (by decide : 0 ≤ 0) (by decide : 0 ≤ 0) (by omega) ⟨_, rfl, ⟨⟨by omega, by omega⟩, i1, f1⟩⟩
  · skip
    refine mm_iconst C (mm_dec dk_X6_takeBack 6 rfl) ⟨by decide, by decide⟩ ?_
    exact mm_zret C T (mm_dec dk_X6_takeBack 7 rfl) (by decide : 0 ≤ 0) (by decide : 0 ≤ 0) (by omega) ⟨_, rfl, ⟨⟨by omega, by omega⟩, i0, f0⟩⟩
set_option maxRecDepth 100000 in
set_option maxHeartbeats 4000000 in
theorem c_X6_isKnown (l : Launch) (hl : l.stackTraces = false) (d : Nat) (hd : 0 ≤ d) (h : mH) (i0 : mm_inv h) (p1 : Int) (p2 : Int) (p3 : Int) (p4 : Int) (bp1 : 0 ≤ p1 ∧ p1 ≤ 499) (bp3 : 0 ≤ p3 ∧ p3 ≤ 39) : mm_Met l d yX6_isKnown cX6_isKnown 5 (some .boolean) [mR 30, mI p1, mI p2, mI p3, mI p4] h (mm_pi fun r h2 => h2 = h ∧ (((h.2.1 31 p1) ≠ p2 ∧ r = 0) ∨ ((h.2.1 31 p1) = p2 ∧ (h.2.1 32 p1) ≠ p3 ∧ r = 0) ∨ ((h.2.1 31 p1) = p2 ∧ (h.2.1 32 p1) = p3 ∧ p4 < (h.2.1 35 p1) ∧ r = 0) ∨ ((h.2.1 31 p1) = p2 ∧ (h.2.1 32 p1) = p3 ∧ (h.2.1 35 p1) ≤ p4 ∧ (h.2.1 36 p1) = (-1) ∧ r = 1) ∨ ((h.2.1 31 p1) = p2 ∧ (h.2.1 32 p1) = p3 ∧ (h.2.1 35 p1) ≤ p4 ∧ (h.2.1 36 p1) ≠ (-1) ∧ (h.2.1 36 p1) ≤ p4 ∧ r = 0) ∨ ((h.2.1 31 p1) = p2 ∧ (h.2.1 32 p1) = p3 ∧ (h.2.1 35 p1) ≤ p4 ∧ (h.2.1 36 p1) ≠ (-1) ∧ p4 < (h.2.1 36 p1) ∧ r = 1))) mm_nx 0 0 := by
  refine mm_ofW (ls := [mR 30, mI p1, mI p2, mI p3, mI p4]) hl (by decide) rfl (Nat.le_of_ble_eq_true rfl) ?_
  intro x hxl C T hnm htb
  subst hxl
  refine mm_rng (fun hr _ => ?_)
  have ap1 : -2147483648 ≤ p1 ∧ p1 < 2147483648 := mm_ok_at hr (i := 1) rfl
  have ap2 : -2147483648 ≤ p2 ∧ p2 < 2147483648 := mm_ok_at hr (i := 2) rfl
  have ap3 : -2147483648 ≤ p3 ∧ p3 < 2147483648 := mm_ok_at hr (i := 3) rfl
  have ap4 : -2147483648 ≤ p4 ∧ p4 < 2147483648 := mm_ok_at hr (i := 4) rfl
  have f0 : mm_fr [] [] h h := mm_fr_rf
  refine mm_aload_n C (mm_dec dk_X6_isKnown 0 rfl) rfl ?_
  refine mm_getr (t := 31) C fl_X6_9 (mm_dec dk_X6_isKnown 1 rfl) rfl rfl (mm_ref i0 rfl) ?_
  refine mm_iload_n C (mm_dec dk_X6_isKnown 2 rfl) rfl ?_
  refine mm_iald C (mm_dec dk_X6_isKnown 3 rfl) rfl (by omega) (by omega) ?_
  have g1 : -2147483648 ≤ (h.2.1 31 p1) ∧ (h.2.1 31 p1) ≤ 2147483647 := i0.2.1 31 p1
  refine mm_iload_n C (mm_dec dk_X6_isKnown 4 rfl) rfl ?_
  refine mm_icmp_ne (tgt := 56) C (mm_dec dk_X6_isKnown 5 rfl) (by decide) (fun c7 => ?_) (fun c7 => ?_)
  · skip
    refine mm_iconst C (mm_dec dk_X6_isKnown 32 rfl) ⟨by decide, by decide⟩ ?_
    exact mm_zret C T (mm_dec dk_X6_isKnown 33 rfl) (by decide : 0 ≤ 0) (by decide : 0 ≤ 0) (by omega) ⟨_, rfl, ⟨rfl, Or.inl ⟨by omega, rfl⟩⟩⟩
  · skip
    refine mm_aload_n C (mm_dec dk_X6_isKnown 6 rfl) rfl ?_
    refine mm_getr (t := 32) C fl_X6_15 (mm_dec dk_X6_isKnown 7 rfl) rfl rfl (mm_ref i0 rfl) ?_
    refine mm_iload_n C (mm_dec dk_X6_isKnown 8 rfl) rfl ?_
    refine mm_iald C (mm_dec dk_X6_isKnown 9 rfl) rfl (by omega) (by omega) ?_
    have g2 : -2147483648 ≤ (h.2.1 32 p1) ∧ (h.2.1 32 p1) ≤ 2147483647 := i0.2.1 32 p1
    refine mm_iload_n C (mm_dec dk_X6_isKnown 10 rfl) rfl ?_
    refine mm_icmp_ne (tgt := 56) C (mm_dec dk_X6_isKnown 11 rfl) (by decide) (fun c17 => ?_) (fun c17 => ?_)
    · skip
      refine mm_iconst C (mm_dec dk_X6_isKnown 32 rfl) ⟨by decide, by decide⟩ ?_
      exact mm_zret C T (mm_dec dk_X6_isKnown 33 rfl) (by decide : 0 ≤ 0) (by decide : 0 ≤ 0) (by omega) ⟨_, rfl, ⟨rfl, Or.inr (Or.inl ⟨by omega, by omega, rfl⟩)⟩⟩
    · skip
      refine mm_aload_n C (mm_dec dk_X6_isKnown 12 rfl) rfl ?_
      refine mm_getr (t := 35) C fl_X6_24 (mm_dec dk_X6_isKnown 13 rfl) rfl rfl (mm_ref i0 rfl) ?_
      refine mm_iload_n C (mm_dec dk_X6_isKnown 14 rfl) rfl ?_
      refine mm_iald C (mm_dec dk_X6_isKnown 15 rfl) rfl (by omega) (by omega) ?_
      have g3 : -2147483648 ≤ (h.2.1 35 p1) ∧ (h.2.1 35 p1) ≤ 2147483647 := i0.2.1 35 p1
      refine mm_iload C (mm_dec dk_X6_isKnown 16 rfl) rfl ?_
      refine mm_icmp_gt (tgt := 56) C (mm_dec dk_X6_isKnown 17 rfl) (by decide) (fun c28 => ?_) (fun c28 => ?_)
      · skip
        refine mm_iconst C (mm_dec dk_X6_isKnown 32 rfl) ⟨by decide, by decide⟩ ?_
        exact mm_zret C T (mm_dec dk_X6_isKnown 33 rfl) (by decide : 0 ≤ 0) (by decide : 0 ≤ 0) (by omega) ⟨_, rfl, ⟨rfl, Or.inr (Or.inr (Or.inl ⟨by omega, by omega, by omega, rfl⟩))⟩⟩
      · skip
        refine mm_aload_n C (mm_dec dk_X6_isKnown 18 rfl) rfl ?_
        refine mm_getr (t := 36) C fl_X6_27 (mm_dec dk_X6_isKnown 19 rfl) rfl rfl (mm_ref i0 rfl) ?_
        refine mm_iload_n C (mm_dec dk_X6_isKnown 20 rfl) rfl ?_
        refine mm_iald C (mm_dec dk_X6_isKnown 21 rfl) rfl (by omega) (by omega) ?_
        have g4 : -2147483648 ≤ (h.2.1 36 p1) ∧ (h.2.1 36 p1) ≤ 2147483647 := i0.2.1 36 p1
        refine mm_iconst C (mm_dec dk_X6_isKnown 22 rfl) ⟨by decide, by decide⟩ ?_
        refine mm_icmp_eq (tgt := 52) C (mm_dec dk_X6_isKnown 23 rfl) (by decide) (fun c38 => ?_) (fun c38 => ?_)
        · skip
          refine mm_iconst C (mm_dec dk_X6_isKnown 30 rfl) ⟨by decide, by decide⟩ ?_
          refine mm_goto (tgt := 57) C (mm_dec dk_X6_isKnown 31 rfl) (by decide) ?_
          exact mm_zret C T (mm_dec dk_X6_isKnown 33 rfl) (by decide : 0 ≤ 0) (by decide : 0 ≤ 0) (by omega) ⟨_, rfl, ⟨rfl, Or.inr (Or.inr (Or.inr (Or.inl ⟨by omega, by omega, by omega, by omega, rfl⟩)))⟩⟩
        · skip
          refine mm_aload_n C (mm_dec dk_X6_isKnown 24 rfl) rfl ?_
          refine mm_getr (t := 36) C fl_X6_27 (mm_dec dk_X6_isKnown 25 rfl) rfl rfl (mm_ref i0 rfl) ?_
          refine mm_iload_n C (mm_dec dk_X6_isKnown 26 rfl) rfl ?_
          refine mm_iald C (mm_dec dk_X6_isKnown 27 rfl) rfl (by omega) (by omega) ?_
          refine mm_iload C (mm_dec dk_X6_isKnown 28 rfl) rfl ?_
          refine mm_icmp_le (tgt := 56) C (mm_dec dk_X6_isKnown 29 rfl) (by decide) (fun c49 => ?_) (fun c49 => ?_)
          · skip
            refine mm_iconst C (mm_dec dk_X6_isKnown 32 rfl) ⟨by decide, by decide⟩ ?_
            exact mm_zret C T (mm_dec dk_X6_isKnown 33 rfl) (by decide : 0 ≤ 0) (by decide : 0 ≤ 0) (by omega) ⟨_, rfl, ⟨rfl, Or.inr (Or.inr (Or.inr (Or.inr (Or.inl ⟨by omega, by omega, by omega, by omega, by omega, rfl⟩))))⟩⟩
          · skip
            refine mm_iconst C (mm_dec dk_X6_isKnown 30 rfl) ⟨by decide, by decide⟩ ?_
            refine mm_goto (tgt := 57) C (mm_dec dk_X6_isKnown 31 rfl) (by decide) ?_
            exact mm_zret C T (mm_dec dk_X6_isKnown 33 rfl) (by decide : 0 ≤ 0) (by decide : 0 ≤ 0) (by omega) ⟨_, rfl, ⟨rfl, Or.inr (Or.inr (Or.inr (Or.inr (Or.inr (⟨by omega, by omega, by omega, by omega, by omega, rfl⟩)))))⟩⟩
set_option maxRecDepth 100000 in
set_option maxHeartbeats 4000000 in
theorem c_X6_latest (l : Launch) (hl : l.stackTraces = false) (d : Nat) (hd : 1 ≤ d) (h : mH) (i0 : mm_inv h) (p1 : Int) (p2 : Int) (p3 : Int) (bp2 : 0 ≤ p2 ∧ p2 ≤ 39) : mm_Met l d yX6_latest cX6_latest 5 (some .int) [mR 30, mI p1, mI p2, mI p3] h (mm_pi fun r h2 => (-1 ≤ r ∧ r ≤ 499) ∧ h2 = h) mm_nx 0 0 := by
  refine mm_ofW (ls := [mR 30, mI p1, mI p2, mI p3, mU]) hl (by decide) rfl (Nat.le_of_ble_eq_true rfl) ?_
  intro x hxl C T hnm htb
  subst hxl
  have C1 := mm_OK_le (d' := d - 1 + 1) (by omega) C
  refine mm_rng (fun hr _ => ?_)
  have ap1 : -2147483648 ≤ p1 ∧ p1 < 2147483648 := mm_ok_at hr (i := 1) rfl
  have ap2 : -2147483648 ≤ p2 ∧ p2 < 2147483648 := mm_ok_at hr (i := 2) rfl
  have ap3 : -2147483648 ≤ p3 ∧ p3 < 2147483648 := mm_ok_at hr (i := 3) rfl
  have f0 : mm_fr [] [] h h := mm_fr_rf
  refine mm_aload_n C (mm_dec dk_X6_latest 0 rfl) rfl ?_
  refine mm_geti C fl_X6_30 (mm_dec dk_X6_latest 1 rfl) rfl rfl (Or.inl rfl) ?_
  have g1 : 0 ≤ (h.1 30 6) ∧ (h.1 30 6) ≤ 500 := i0.1 30 6
  refine mm_iconst C (mm_dec dk_X6_latest 2 rfl) ⟨by decide, by decide⟩ ?_
  refine mm_isub C (mm_dec dk_X6_latest 3 rfl) ⟨by omega, by omega⟩ ?_
  have J8 : ∀ (n : Nat) (x8_4 : Int) (bx8_4 : -1 ≤ x8_4 ∧ x8_4 ≤ 499), (x8_4 - (-1) : Int) < n → mm_W x 0 0 8 [mR 30, mI p1, mI p2, mI p3, mI x8_4] [] h := by
    intro n
    induction n with
    | zero =>
      intro x8_4 bx8_4 hm
      exfalso; omega
    | succ n ih8 =>
      intro x8_4 bx8_4 hm8
      refine mm_iload C (mm_dec dk_X6_latest 5 rfl) rfl ?_
      refine mm_if_lt (tgt := 34) C (mm_dec dk_X6_latest 6 rfl) (by decide) (fun c10 => ?_) (fun c10 => ?_)
      · skip
        refine mm_iconst C (mm_dec dk_X6_latest 18 rfl) ⟨by decide, by decide⟩ ?_
        exact mm_iret C T (mm_dec dk_X6_latest 19 rfl) (by decide : 0 ≤ 0) (by decide : 0 ≤ 0) ⟨_, rfl, ⟨⟨by omega, by omega⟩, rfl⟩⟩
      · skip
        refine mm_aload_n C (mm_dec dk_X6_latest 7 rfl) rfl ?_
        refine mm_iload C (mm_dec dk_X6_latest 8 rfl) rfl ?_
        refine mm_iload_n C (mm_dec dk_X6_latest 9 rfl) rfl ?_
        refine mm_iload_n C (mm_dec dk_X6_latest 10 rfl) rfl ?_
        refine mm_iload_n C (mm_dec dk_X6_latest 11 rfl) rfl ?_
        refine mm_cVi (rest := []) C1 ev_X6_55 (mm_dec dk_X6_latest 12 rfl) (c_X6_isKnown x.2.1 hl (d - 1) (by omega) h i0 x8_4 p1 p2 p3 ⟨by omega, by omega⟩ ⟨by omega, by omega⟩) rfl rfl (Nat.le_of_ble_eq_true rfl) ⟨by decide, by decide⟩ rfl (fun r19 h19c hp19 => ?_) (fun _ _ q => q.elim)
        obtain ⟨z19, y19⟩ := hp19
        rw [z19]
        have g3 : -2147483648 ≤ (h.2.1 31 x8_4) ∧ (h.2.1 31 x8_4) ≤ 2147483647 := i0.2.1 31 x8_4
        have g4 : -2147483648 ≤ (h.2.1 32 x8_4) ∧ (h.2.1 32 x8_4) ≤ 2147483647 := i0.2.1 32 x8_4
        have g5 : -2147483648 ≤ (h.2.1 35 x8_4) ∧ (h.2.1 35 x8_4) ≤ 2147483647 := i0.2.1 35 x8_4
        have g6 : -2147483648 ≤ (h.2.1 36 x8_4) ∧ (h.2.1 36 x8_4) ≤ 2147483647 := i0.2.1 36 x8_4
        refine mm_if_eq (tgt := 28) C (mm_dec dk_X6_latest 13 rfl) (by decide) (fun c22 => ?_) (fun c22 => ?_)
        · skip
          refine mm_iincL (ls2 := [mR 30, mI p1, mI p2, mI p3, mI (x8_4 + (-1))]) C (mm_dec dk_X6_latest 16 rfl) rfl (by decide) ⟨by omega, by omega⟩ rfl ?_
          refine mm_goto (tgt := 8) C (mm_dec dk_X6_latest 17 rfl) (by decide) ?_
          exact ih8 (x8_4 + (-1)) ⟨by omega, by omega⟩ (by omega)
        · skip
          refine mm_iload C (mm_dec dk_X6_latest 14 rfl) rfl ?_
          exact mm_iret C T (mm_dec dk_X6_latest 15 rfl) (by decide : 0 ≤ 0) (by decide : 0 ≤ 0) ⟨_, rfl, ⟨⟨by omega, by omega⟩, rfl⟩⟩
  refine mm_istoreL (ls2 := [mR 30, mI p1, mI p2, mI p3, mI ((h.1 30 6) - 1)]) C (mm_dec dk_X6_latest 4 rfl) (by decide) rfl ?_
  exact J8 (((((h.1 30 6) - 1) - (-1)) : Int) + 1).toNat ((h.1 30 6) - 1) ⟨by omega, by omega⟩ (by omega)
set_option maxRecDepth 100000 in
set_option maxHeartbeats 4000000 in
theorem c_X6_timeOf (l : Launch) (hl : l.stackTraces = false) (d : Nat) (hd : 0 ≤ d) (h : mH) (i0 : mm_inv h) (p1 : Int) (bp1 : -1 ≤ p1 ∧ p1 ≤ 499) : mm_Met l d yX6_timeOf cX6_timeOf 2 (some .int) [mR 30, mI p1] h (mm_pi fun r h2 => h2 = h ∧ ((p1 ≠ (-1) ∧ r = (h.2.1 34 p1)) ∨ (p1 = (-1) ∧ r = (-1)))) mm_nx 0 0 := by
  refine mm_ofW (ls := [mR 30, mI p1]) hl (by decide) rfl (Nat.le_of_ble_eq_true rfl) ?_
  intro x hxl C T hnm htb
  subst hxl
  refine mm_rng (fun hr _ => ?_)
  have ap1 : -2147483648 ≤ p1 ∧ p1 < 2147483648 := mm_ok_at hr (i := 1) rfl
  have f0 : mm_fr [] [] h h := mm_fr_rf
  refine mm_iload_n C (mm_dec dk_X6_timeOf 0 rfl) rfl ?_
  refine mm_iconst C (mm_dec dk_X6_timeOf 1 rfl) ⟨by decide, by decide⟩ ?_
  refine mm_icmp_ne (tgt := 9) C (mm_dec dk_X6_timeOf 2 rfl) (by decide) (fun c2 => ?_) (fun c2 => ?_)
  · skip
    refine mm_aload_n C (mm_dec dk_X6_timeOf 5 rfl) rfl ?_
    refine mm_getr (t := 34) C fl_X6_21 (mm_dec dk_X6_timeOf 6 rfl) rfl rfl (mm_ref i0 rfl) ?_
    refine mm_iload_n C (mm_dec dk_X6_timeOf 7 rfl) rfl ?_
    refine mm_iald C (mm_dec dk_X6_timeOf 8 rfl) rfl (by omega) (by omega) ?_
    have g1 : -2147483648 ≤ (h.2.1 34 p1) ∧ (h.2.1 34 p1) ≤ 2147483647 := i0.2.1 34 p1
    exact mm_iret C T (mm_dec dk_X6_timeOf 9 rfl) (by decide : 0 ≤ 0) (by decide : 0 ≤ 0) ⟨_, rfl, ⟨rfl, Or.inl ⟨by omega, rfl⟩⟩⟩
  · skip
    refine mm_iconst C (mm_dec dk_X6_timeOf 3 rfl) ⟨by decide, by decide⟩ ?_
    refine mm_goto (tgt := 15) C (mm_dec dk_X6_timeOf 4 rfl) (by decide) ?_
    exact mm_iret C T (mm_dec dk_X6_timeOf 9 rfl) (by decide : 0 ≤ 0) (by decide : 0 ≤ 0) ⟨_, rfl, ⟨rfl, Or.inr (⟨by omega, rfl⟩)⟩⟩
set_option maxRecDepth 100000 in
set_option maxHeartbeats 4000000 in
theorem c_X6_postOf (l : Launch) (hl : l.stackTraces = false) (d : Nat) (hd : 0 ≤ d) (h : mH) (i0 : mm_inv h) (p1 : Int) (bp1 : 0 ≤ p1 ∧ p1 ≤ 499) : mm_Met l d yX6_postOf cX6_postOf 2 (some .int) [mR 30, mI p1] h (mm_pi fun r h2 => h2 = h ∧ (r = (h.2.1 33 p1))) mm_nx 0 0 := by
  refine mm_ofW (ls := [mR 30, mI p1]) hl (by decide) rfl (Nat.le_of_ble_eq_true rfl) ?_
  intro x hxl C T hnm htb
  subst hxl
  refine mm_rng (fun hr _ => ?_)
  have ap1 : -2147483648 ≤ p1 ∧ p1 < 2147483648 := mm_ok_at hr (i := 1) rfl
  have f0 : mm_fr [] [] h h := mm_fr_rf
  refine mm_aload_n C (mm_dec dk_X6_postOf 0 rfl) rfl ?_
  refine mm_getr (t := 33) C fl_X6_18 (mm_dec dk_X6_postOf 1 rfl) rfl rfl (mm_ref i0 rfl) ?_
  refine mm_iload_n C (mm_dec dk_X6_postOf 2 rfl) rfl ?_
  refine mm_iald C (mm_dec dk_X6_postOf 3 rfl) rfl (by omega) (by omega) ?_
  have g1 : -2147483648 ≤ (h.2.1 33 p1) ∧ (h.2.1 33 p1) ≤ 2147483647 := i0.2.1 33 p1
  exact mm_iret C T (mm_dec dk_X6_postOf 4 rfl) (by decide : 0 ≤ 0) (by decide : 0 ≤ 0) ⟨_, rfl, ⟨rfl, rfl⟩⟩
set_option maxRecDepth 100000 in
set_option maxHeartbeats 4000000 in
theorem c_X6_toldAt (l : Launch) (hl : l.stackTraces = false) (d : Nat) (hd : 0 ≤ d) (h : mH) (i0 : mm_inv h) (p1 : Int) (bp1 : 0 ≤ p1 ∧ p1 ≤ 499) : mm_Met l d yX6_toldAt cX6_toldAt 2 (some .int) [mR 30, mI p1] h (mm_pi fun r h2 => h2 = h ∧ (r = (h.2.1 35 p1))) mm_nx 0 0 := by
  refine mm_ofW (ls := [mR 30, mI p1]) hl (by decide) rfl (Nat.le_of_ble_eq_true rfl) ?_
  intro x hxl C T hnm htb
  subst hxl
  refine mm_rng (fun hr _ => ?_)
  have ap1 : -2147483648 ≤ p1 ∧ p1 < 2147483648 := mm_ok_at hr (i := 1) rfl
  have f0 : mm_fr [] [] h h := mm_fr_rf
  refine mm_aload_n C (mm_dec dk_X6_toldAt 0 rfl) rfl ?_
  refine mm_getr (t := 35) C fl_X6_24 (mm_dec dk_X6_toldAt 1 rfl) rfl rfl (mm_ref i0 rfl) ?_
  refine mm_iload_n C (mm_dec dk_X6_toldAt 2 rfl) rfl ?_
  refine mm_iald C (mm_dec dk_X6_toldAt 3 rfl) rfl (by omega) (by omega) ?_
  have g1 : -2147483648 ≤ (h.2.1 35 p1) ∧ (h.2.1 35 p1) ≤ 2147483647 := i0.2.1 35 p1
  exact mm_iret C T (mm_dec dk_X6_toldAt 4 rfl) (by decide : 0 ≤ 0) (by decide : 0 ≤ 0) ⟨_, rfl, ⟨rfl, rfl⟩⟩
set_option maxRecDepth 100000 in
set_option maxHeartbeats 4000000 in
theorem c_X6_protests (l : Launch) (hl : l.stackTraces = false) (d : Nat) (hd : 0 ≤ d) (h : mH) (i0 : mm_inv h) : mm_Met l d yX6_protests cX6_protests 1 (some .int) [mR 30] h (mm_pi fun r h2 => h2 = h ∧ (r = (h.1 30 12))) mm_nx 0 0 := by
  refine mm_ofW (ls := [mR 30]) hl (by decide) rfl (Nat.le_of_ble_eq_true rfl) ?_
  intro x hxl C T hnm htb
  subst hxl
  have f0 : mm_fr [] [] h h := mm_fr_rf
  refine mm_aload_n C (mm_dec dk_X6_protests 0 rfl) rfl ?_
  refine mm_geti C fl_X6_49 (mm_dec dk_X6_protests 1 rfl) rfl rfl (Or.inl rfl) ?_
  have g1 : 0 ≤ (h.1 30 12) ∧ (h.1 30 12) ≤ 40 := i0.1 30 12
  exact mm_iret C T (mm_dec dk_X6_protests 2 rfl) (by decide : 0 ≤ 0) (by decide : 0 ≤ 0) ⟨_, rfl, ⟨rfl, rfl⟩⟩
set_option maxRecDepth 100000 in
set_option maxHeartbeats 4000000 in
theorem c_X6_accuse (l : Launch) (hl : l.stackTraces = false) (d : Nat) (hd : 0 ≤ d) (h : mH) (i0 : mm_inv h) (p1 : Int) (bp1 : 0 ≤ p1 ∧ p1 ≤ 39) (u0 : (h.1 30 12) ≤ 39) : mm_Met l d yX6_accuse cX6_accuse 2 (some .int) [mR 30, mI p1] h (mm_pi fun r h2 => (0 ≤ r ∧ r ≤ 39) ∧ mm_inv h2 ∧ mm_fr [(30, 12)] [37, 40] h h2) mm_nx 0 0 := by
  refine mm_ofW (ls := [mR 30, mI p1]) hl (by decide) rfl (Nat.le_of_ble_eq_true rfl) ?_
  intro x hxl C T hnm htb
  subst hxl
  refine mm_rng (fun hr _ => ?_)
  have ap1 : -2147483648 ≤ p1 ∧ p1 < 2147483648 := mm_ok_at hr (i := 1) rfl
  have f0 : mm_fr [(30, 12)] [37, 40] h h := mm_fr_rf
  refine mm_aload_n C (mm_dec dk_X6_accuse 0 rfl) rfl ?_
  refine mm_getr (t := 37) C fl_X6_34 (mm_dec dk_X6_accuse 1 rfl) rfl rfl (mm_ref i0 rfl) ?_
  refine mm_aload_n C (mm_dec dk_X6_accuse 2 rfl) rfl ?_
  refine mm_geti C fl_X6_49 (mm_dec dk_X6_accuse 3 rfl) rfl rfl (Or.inl rfl) ?_
  have g1 : 0 ≤ (h.1 30 12) ∧ (h.1 30 12) ≤ 40 := i0.1 30 12
  refine mm_iload_n C (mm_dec dk_X6_accuse 4 rfl) rfl ?_
  refine mm_iast C (mm_dec dk_X6_accuse 5 rfl) rfl (by omega) (by omega) ?_
  have i1 : mm_inv (mm_pa h 37 (h.1 30 12) p1) := mm_inv_pa i0 (show -2147483648 ≤ p1 ∧ p1 ≤ 2147483647 from ⟨by omega, by omega⟩)
  have f1 : mm_fr [(30, 12)] [37, 40] h (mm_pa h 37 (h.1 30 12) p1) := mm_fr_pa f0 (by decide)
  obtain ⟨h1, eh1⟩ : ∃ z, z = mm_pa h 37 (h.1 30 12) p1 := ⟨_, rfl⟩
  rw [← eh1] at i1 f1 ⊢
  have qh1_2 : h1.1 30 12 = h.1 30 12 := by rw [eh1]; rfl
  refine mm_aload_n C (mm_dec dk_X6_accuse 6 rfl) rfl ?_
  refine mm_getr (t := 40) C fl_X6_43 (mm_dec dk_X6_accuse 7 rfl) rfl rfl (mm_ref i1 rfl) ?_
  refine mm_aload_n C (mm_dec dk_X6_accuse 8 rfl) rfl ?_
  refine mm_geti C fl_X6_49 (mm_dec dk_X6_accuse 9 rfl) rfl rfl (Or.inl rfl) ?_
  refine mm_iconst C (mm_dec dk_X6_accuse 10 rfl) ⟨by decide, by decide⟩ ?_
  refine mm_iast C (mm_dec dk_X6_accuse 11 rfl) rfl (by omega) (by omega) ?_
  have i2 : mm_inv (mm_pa h1 40 (h1.1 30 12) (-1)) := mm_inv_pa i1 (show -2147483648 ≤ (-1) ∧ (-1) ≤ 2147483647 from ⟨by omega, by omega⟩)
  have f2 : mm_fr [(30, 12)] [37, 40] h (mm_pa h1 40 (h1.1 30 12) (-1)) := mm_fr_pa f1 (by decide)
  obtain ⟨h2, eh2⟩ : ∃ z, z = mm_pa h1 40 (h1.1 30 12) (-1) := ⟨_, rfl⟩
  rw [← eh2] at i2 f2 ⊢
  have qh2_3 : h2.1 30 12 = h1.1 30 12 := by rw [eh2]; rfl
  refine mm_aload_n C (mm_dec dk_X6_accuse 12 rfl) rfl ?_
  refine mm_dup C (mm_dec dk_X6_accuse 13 rfl) (show (2 : Nat) ≠ 1 by decide) ?_
  refine mm_geti C fl_X6_49 (mm_dec dk_X6_accuse 14 rfl) rfl rfl (Or.inl rfl) ?_
  refine mm_iconst C (mm_dec dk_X6_accuse 15 rfl) ⟨by decide, by decide⟩ ?_
  refine mm_iadd C (mm_dec dk_X6_accuse 16 rfl) ⟨by omega, by omega⟩ ?_
  refine mm_puti C fl_X6_49 (mm_dec dk_X6_accuse 17 rfl) rfl rfl rfl (Or.inl ⟨rfl, rfl⟩) ?_
  have i3 : mm_inv (mm_pf h2 30 12 ((h2.1 30 12) + 1)) := mm_inv_pf i2 (show 0 ≤ ((h2.1 30 12) + 1) ∧ ((h2.1 30 12) + 1) ≤ 40 from ⟨by omega, by omega⟩) (by decide)
  have f3 : mm_fr [(30, 12)] [37, 40] h (mm_pf h2 30 12 ((h2.1 30 12) + 1)) := mm_fr_pf f2 (by decide)
  obtain ⟨h3, eh3⟩ : ∃ z, z = mm_pf h2 30 12 ((h2.1 30 12) + 1) := ⟨_, rfl⟩
  rw [← eh3] at i3 f3 ⊢
  have qh3 : h3.1 30 12 = ((h2.1 30 12) + 1) := by rw [eh3]; exact mm_pf_same _ _ _ _
  refine mm_aload_n C (mm_dec dk_X6_accuse 18 rfl) rfl ?_
  refine mm_geti C fl_X6_49 (mm_dec dk_X6_accuse 19 rfl) rfl rfl (Or.inl rfl) ?_
  refine mm_iconst C (mm_dec dk_X6_accuse 20 rfl) ⟨by decide, by decide⟩ ?_
  refine mm_isub C (mm_dec dk_X6_accuse 21 rfl) ⟨by omega, by omega⟩ ?_
  exact mm_iret C T (mm_dec dk_X6_accuse 22 rfl) (by decide : 0 ≤ 0) (by decide : 0 ≤ 0) ⟨_, rfl, ⟨⟨by omega, by omega⟩, i3, f3⟩⟩
set_option maxRecDepth 100000 in
set_option maxHeartbeats 4000000 in
theorem c_X6_settle (l : Launch) (hl : l.stackTraces = false) (d : Nat) (hd : 0 ≤ d) (h : mH) (i0 : mm_inv h) (p1 : Int) (p2 : Int) (p3 : Int) (p4 : Int) (bp1 : 0 ≤ p1 ∧ p1 ≤ 39) : mm_Met l d yX6_settle cX6_settle 5 (some .boolean) [mR 30, mI p1, mI p2, mI p3, mI p4] h (mm_pi fun r h2 => (0 ≤ r ∧ r ≤ 1) ∧ mm_inv h2 ∧ mm_fr [(30, 13)] [38, 39, 40, 41] h h2) mm_nx 0 0 := by
  refine mm_ofW (ls := [mR 30, mI p1, mI p2, mI p3, mI p4]) hl (by decide) rfl (Nat.le_of_ble_eq_true rfl) ?_
  intro x hxl C T hnm htb
  subst hxl
  refine mm_rng (fun hr _ => ?_)
  have ap1 : -2147483648 ≤ p1 ∧ p1 < 2147483648 := mm_ok_at hr (i := 1) rfl
  have ap2 : -2147483648 ≤ p2 ∧ p2 < 2147483648 := mm_ok_at hr (i := 2) rfl
  have ap3 : -2147483648 ≤ p3 ∧ p3 < 2147483648 := mm_ok_at hr (i := 3) rfl
  have ap4 : -2147483648 ≤ p4 ∧ p4 < 2147483648 := mm_ok_at hr (i := 4) rfl
  have f0 : mm_fr [(30, 13)] [38, 39, 40, 41] h h := mm_fr_rf
  refine mm_aload_n C (mm_dec dk_X6_settle 0 rfl) rfl ?_
  refine mm_getr (t := 40) C fl_X6_43 (mm_dec dk_X6_settle 1 rfl) rfl rfl (mm_ref i0 rfl) ?_
  refine mm_iload_n C (mm_dec dk_X6_settle 2 rfl) rfl ?_
  refine mm_iald C (mm_dec dk_X6_settle 3 rfl) rfl (by omega) (by omega) ?_
  have g1 : -2147483648 ≤ (h.2.1 40 p1) ∧ (h.2.1 40 p1) ≤ 2147483647 := i0.2.1 40 p1
  refine mm_iconst C (mm_dec dk_X6_settle 4 rfl) ⟨by decide, by decide⟩ ?_
  refine mm_icmp_eq (tgt := 12) C (mm_dec dk_X6_settle 5 rfl) (by decide) (fun c7 => ?_) (fun c7 => ?_)
  · skip
    refine mm_aload_n C (mm_dec dk_X6_settle 8 rfl) rfl ?_
    refine mm_getr (t := 38) C fl_X6_37 (mm_dec dk_X6_settle 9 rfl) rfl rfl (mm_ref i0 rfl) ?_
    refine mm_iload_n C (mm_dec dk_X6_settle 10 rfl) rfl ?_
    refine mm_iload_n C (mm_dec dk_X6_settle 11 rfl) rfl ?_
    refine mm_iast C (mm_dec dk_X6_settle 12 rfl) rfl (by omega) (by omega) ?_
    have i1 : mm_inv (mm_pa h 38 p1 p2) := mm_inv_pa i0 (show -2147483648 ≤ p2 ∧ p2 ≤ 2147483647 from ⟨by omega, by omega⟩)
    have f1 : mm_fr [(30, 13)] [38, 39, 40, 41] h (mm_pa h 38 p1 p2) := mm_fr_pa f0 (by decide)
    obtain ⟨h1, eh1⟩ : ∃ z, z = mm_pa h 38 p1 p2 := ⟨_, rfl⟩
    rw [← eh1] at i1 f1 ⊢
    refine mm_aload_n C (mm_dec dk_X6_settle 13 rfl) rfl ?_
    refine mm_getr (t := 39) C fl_X6_40 (mm_dec dk_X6_settle 14 rfl) rfl rfl (mm_ref i1 rfl) ?_
    refine mm_iload_n C (mm_dec dk_X6_settle 15 rfl) rfl ?_
    refine mm_iload_n C (mm_dec dk_X6_settle 16 rfl) rfl ?_
    refine mm_iast C (mm_dec dk_X6_settle 17 rfl) rfl (by omega) (by omega) ?_
    have i2 : mm_inv (mm_pa h1 39 p1 p3) := mm_inv_pa i1 (show -2147483648 ≤ p3 ∧ p3 ≤ 2147483647 from ⟨by omega, by omega⟩)
    have f2 : mm_fr [(30, 13)] [38, 39, 40, 41] h (mm_pa h1 39 p1 p3) := mm_fr_pa f1 (by decide)
    obtain ⟨h2, eh2⟩ : ∃ z, z = mm_pa h1 39 p1 p3 := ⟨_, rfl⟩
    rw [← eh2] at i2 f2 ⊢
    refine mm_aload_n C (mm_dec dk_X6_settle 18 rfl) rfl ?_
    refine mm_getr (t := 40) C fl_X6_43 (mm_dec dk_X6_settle 19 rfl) rfl rfl (mm_ref i2 rfl) ?_
    refine mm_iload_n C (mm_dec dk_X6_settle 20 rfl) rfl ?_
    refine mm_iload C (mm_dec dk_X6_settle 21 rfl) rfl ?_
    refine mm_iast C (mm_dec dk_X6_settle 22 rfl) rfl (by omega) (by omega) ?_
    have i3 : mm_inv (mm_pa h2 40 p1 p4) := mm_inv_pa i2 (show -2147483648 ≤ p4 ∧ p4 ≤ 2147483647 from ⟨by omega, by omega⟩)
    have f3 : mm_fr [(30, 13)] [38, 39, 40, 41] h (mm_pa h2 40 p1 p4) := mm_fr_pa f2 (by decide)
    obtain ⟨h3, eh3⟩ : ∃ z, z = mm_pa h2 40 p1 p4 := ⟨_, rfl⟩
    rw [← eh3] at i3 f3 ⊢
    refine mm_aload_n C (mm_dec dk_X6_settle 23 rfl) rfl ?_
    refine mm_getr (t := 41) C fl_X6_46 (mm_dec dk_X6_settle 24 rfl) rfl rfl (mm_ref i3 rfl) ?_
    refine mm_iload_n C (mm_dec dk_X6_settle 25 rfl) rfl ?_
    refine mm_aload_n C (mm_dec dk_X6_settle 26 rfl) rfl ?_
    refine mm_geti C fl_X6_52 (mm_dec dk_X6_settle 27 rfl) rfl rfl (Or.inl rfl) ?_
    have g2 : -2147483648 ≤ (h3.1 30 13) ∧ (h3.1 30 13) ≤ 2147483647 := i3.1 30 13
    refine mm_iast C (mm_dec dk_X6_settle 28 rfl) rfl (by omega) (by omega) ?_
    have i4 : mm_inv (mm_pa h3 41 p1 (h3.1 30 13)) := mm_inv_pa i3 (show -2147483648 ≤ (h3.1 30 13) ∧ (h3.1 30 13) ≤ 2147483647 from ⟨by omega, by omega⟩)
    have f4 : mm_fr [(30, 13)] [38, 39, 40, 41] h (mm_pa h3 41 p1 (h3.1 30 13)) := mm_fr_pa f3 (by decide)
    obtain ⟨h4, eh4⟩ : ∃ z, z = mm_pa h3 41 p1 (h3.1 30 13) := ⟨_, rfl⟩
    rw [← eh4] at i4 f4 ⊢
    have qh4_3 : h4.1 30 13 = h3.1 30 13 := by rw [eh4]; rfl
    refine mm_aload_n C (mm_dec dk_X6_settle 29 rfl) rfl ?_
    refine mm_dup C (mm_dec dk_X6_settle 30 rfl) (show (2 : Nat) ≠ 1 by decide) ?_
    refine mm_geti C fl_X6_52 (mm_dec dk_X6_settle 31 rfl) rfl rfl (Or.inl rfl) ?_
    refine mm_iconst C (mm_dec dk_X6_settle 32 rfl) ⟨by decide, by decide⟩ ?_
    refine mm_iaddw C (mm_dec dk_X6_settle 33 rfl) ?_
    have g4 : -2147483648 ≤ (mm_w ((h4.1 30 13) + 1)) ∧ (mm_w ((h4.1 30 13) + 1)) < 2147483648 := mm_w_rg _
    refine mm_puti C fl_X6_52 (mm_dec dk_X6_settle 34 rfl) rfl rfl rfl (Or.inl ⟨rfl, rfl⟩) ?_
    have i5 : mm_inv (mm_pf h4 30 13 (mm_w ((h4.1 30 13) + 1))) := mm_inv_pf i4 (show -2147483648 ≤ (mm_w ((h4.1 30 13) + 1)) ∧ (mm_w ((h4.1 30 13) + 1)) ≤ 2147483647 from ⟨by omega, by omega⟩) (by decide)
    have f5 : mm_fr [(30, 13)] [38, 39, 40, 41] h (mm_pf h4 30 13 (mm_w ((h4.1 30 13) + 1))) := mm_fr_pf f4 (by decide)
    obtain ⟨h5, eh5⟩ : ∃ z, z = mm_pf h4 30 13 (mm_w ((h4.1 30 13) + 1)) := ⟨_, rfl⟩
    rw [← eh5] at i5 f5 ⊢
    have qh5 : h5.1 30 13 = (mm_w ((h4.1 30 13) + 1)) := by rw [eh5]; exact mm_pf_same _ _ _ _
    refine mm_iconst C (mm_dec dk_X6_settle 35 rfl) ⟨by decide, by decide⟩ ?_
    exact mm_zret C T (mm_dec dk_X6_settle 36 rfl) (by decide : 0 ≤ 0) (by decide : 0 ≤ 0) (by omega) ⟨_, rfl, ⟨⟨by omega, by omega⟩, i5, f5⟩⟩
  · skip
    refine mm_iconst C (mm_dec dk_X6_settle 6 rfl) ⟨by decide, by decide⟩ ?_
    exact mm_zret C T (mm_dec dk_X6_settle 7 rfl) (by decide : 0 ≤ 0) (by decide : 0 ≤ 0) (by omega) ⟨_, rfl, ⟨⟨by omega, by omega⟩, i0, f0⟩⟩
set_option maxRecDepth 100000 in
set_option maxHeartbeats 4000000 in
theorem c_X6_isUpheld (l : Launch) (hl : l.stackTraces = false) (d : Nat) (hd : 0 ≤ d) (h : mH) (i0 : mm_inv h) (p1 : Int) (p2 : Int) (p3 : Int) (bp1 : 0 ≤ p1 ∧ p1 ≤ 39) (bp2 : 0 ≤ p2 ∧ p2 ≤ 39) : mm_Met l d yX6_isUpheld cX6_isUpheld 4 (some .boolean) [mR 30, mI p1, mI p2, mI p3] h (mm_pi fun r h2 => h2 = h ∧ (((h.2.1 37 p1) ≠ p2 ∧ r = 0) ∨ ((h.2.1 37 p1) = p2 ∧ (h.2.1 40 p1) = (-1) ∧ r = 0) ∨ ((h.2.1 37 p1) = p2 ∧ (h.2.1 40 p1) ≠ (-1) ∧ p3 < (h.2.1 40 p1) ∧ r = 0) ∨ ((h.2.1 37 p1) = p2 ∧ (h.2.1 40 p1) ≠ (-1) ∧ (h.2.1 40 p1) ≤ p3 ∧ (h.2.1 38 p1) = 0 ∧ r = 0) ∨ ((h.2.1 37 p1) = p2 ∧ (h.2.1 40 p1) ≠ (-1) ∧ (h.2.1 40 p1) ≤ p3 ∧ (h.2.1 38 p1) ≠ 0 ∧ r = 1))) mm_nx 0 0 := by
  refine mm_ofW (ls := [mR 30, mI p1, mI p2, mI p3]) hl (by decide) rfl (Nat.le_of_ble_eq_true rfl) ?_
  intro x hxl C T hnm htb
  subst hxl
  refine mm_rng (fun hr _ => ?_)
  have ap1 : -2147483648 ≤ p1 ∧ p1 < 2147483648 := mm_ok_at hr (i := 1) rfl
  have ap2 : -2147483648 ≤ p2 ∧ p2 < 2147483648 := mm_ok_at hr (i := 2) rfl
  have ap3 : -2147483648 ≤ p3 ∧ p3 < 2147483648 := mm_ok_at hr (i := 3) rfl
  have f0 : mm_fr [] [] h h := mm_fr_rf
  refine mm_aload_n C (mm_dec dk_X6_isUpheld 0 rfl) rfl ?_
  refine mm_getr (t := 37) C fl_X6_34 (mm_dec dk_X6_isUpheld 1 rfl) rfl rfl (mm_ref i0 rfl) ?_
  refine mm_iload_n C (mm_dec dk_X6_isUpheld 2 rfl) rfl ?_
  refine mm_iald C (mm_dec dk_X6_isUpheld 3 rfl) rfl (by omega) (by omega) ?_
  have g1 : -2147483648 ≤ (h.2.1 37 p1) ∧ (h.2.1 37 p1) ≤ 2147483647 := i0.2.1 37 p1
  refine mm_iload_n C (mm_dec dk_X6_isUpheld 4 rfl) rfl ?_
  refine mm_icmp_ne (tgt := 43) C (mm_dec dk_X6_isUpheld 5 rfl) (by decide) (fun c7 => ?_) (fun c7 => ?_)
  · skip
    refine mm_iconst C (mm_dec dk_X6_isUpheld 25 rfl) ⟨by decide, by decide⟩ ?_
    exact mm_zret C T (mm_dec dk_X6_isUpheld 26 rfl) (by decide : 0 ≤ 0) (by decide : 0 ≤ 0) (by omega) ⟨_, rfl, ⟨rfl, Or.inl ⟨by omega, rfl⟩⟩⟩
  · skip
    refine mm_aload_n C (mm_dec dk_X6_isUpheld 6 rfl) rfl ?_
    refine mm_getr (t := 40) C fl_X6_43 (mm_dec dk_X6_isUpheld 7 rfl) rfl rfl (mm_ref i0 rfl) ?_
    refine mm_iload_n C (mm_dec dk_X6_isUpheld 8 rfl) rfl ?_
    refine mm_iald C (mm_dec dk_X6_isUpheld 9 rfl) rfl (by omega) (by omega) ?_
    have g2 : -2147483648 ≤ (h.2.1 40 p1) ∧ (h.2.1 40 p1) ≤ 2147483647 := i0.2.1 40 p1
    refine mm_iconst C (mm_dec dk_X6_isUpheld 10 rfl) ⟨by decide, by decide⟩ ?_
    refine mm_icmp_eq (tgt := 43) C (mm_dec dk_X6_isUpheld 11 rfl) (by decide) (fun c17 => ?_) (fun c17 => ?_)
    · skip
      refine mm_iconst C (mm_dec dk_X6_isUpheld 25 rfl) ⟨by decide, by decide⟩ ?_
      exact mm_zret C T (mm_dec dk_X6_isUpheld 26 rfl) (by decide : 0 ≤ 0) (by decide : 0 ≤ 0) (by omega) ⟨_, rfl, ⟨rfl, Or.inr (Or.inl ⟨by omega, by omega, rfl⟩)⟩⟩
    · skip
      refine mm_aload_n C (mm_dec dk_X6_isUpheld 12 rfl) rfl ?_
      refine mm_getr (t := 40) C fl_X6_43 (mm_dec dk_X6_isUpheld 13 rfl) rfl rfl (mm_ref i0 rfl) ?_
      refine mm_iload_n C (mm_dec dk_X6_isUpheld 14 rfl) rfl ?_
      refine mm_iald C (mm_dec dk_X6_isUpheld 15 rfl) rfl (by omega) (by omega) ?_
      refine mm_iload_n C (mm_dec dk_X6_isUpheld 16 rfl) rfl ?_
      refine mm_icmp_gt (tgt := 43) C (mm_dec dk_X6_isUpheld 17 rfl) (by decide) (fun c27 => ?_) (fun c27 => ?_)
      · skip
        refine mm_iconst C (mm_dec dk_X6_isUpheld 25 rfl) ⟨by decide, by decide⟩ ?_
        exact mm_zret C T (mm_dec dk_X6_isUpheld 26 rfl) (by decide : 0 ≤ 0) (by decide : 0 ≤ 0) (by omega) ⟨_, rfl, ⟨rfl, Or.inr (Or.inr (Or.inl ⟨by omega, by omega, by omega, rfl⟩))⟩⟩
      · skip
        refine mm_aload_n C (mm_dec dk_X6_isUpheld 18 rfl) rfl ?_
        refine mm_getr (t := 38) C fl_X6_37 (mm_dec dk_X6_isUpheld 19 rfl) rfl rfl (mm_ref i0 rfl) ?_
        refine mm_iload_n C (mm_dec dk_X6_isUpheld 20 rfl) rfl ?_
        refine mm_iald C (mm_dec dk_X6_isUpheld 21 rfl) rfl (by omega) (by omega) ?_
        have g3 : -2147483648 ≤ (h.2.1 38 p1) ∧ (h.2.1 38 p1) ≤ 2147483647 := i0.2.1 38 p1
        refine mm_if_eq (tgt := 43) C (mm_dec dk_X6_isUpheld 22 rfl) (by decide) (fun c36 => ?_) (fun c36 => ?_)
        · skip
          refine mm_iconst C (mm_dec dk_X6_isUpheld 25 rfl) ⟨by decide, by decide⟩ ?_
          exact mm_zret C T (mm_dec dk_X6_isUpheld 26 rfl) (by decide : 0 ≤ 0) (by decide : 0 ≤ 0) (by omega) ⟨_, rfl, ⟨rfl, Or.inr (Or.inr (Or.inr (Or.inl ⟨by omega, by omega, by omega, by omega, rfl⟩)))⟩⟩
        · skip
          refine mm_iconst C (mm_dec dk_X6_isUpheld 23 rfl) ⟨by decide, by decide⟩ ?_
          refine mm_goto (tgt := 44) C (mm_dec dk_X6_isUpheld 24 rfl) (by decide) ?_
          exact mm_zret C T (mm_dec dk_X6_isUpheld 26 rfl) (by decide : 0 ≤ 0) (by decide : 0 ≤ 0) (by omega) ⟨_, rfl, ⟨rfl, Or.inr (Or.inr (Or.inr (Or.inr (⟨by omega, by omega, by omega, by omega, rfl⟩))))⟩⟩
set_option maxRecDepth 100000 in
set_option maxHeartbeats 4000000 in
theorem c_X7_faultAt (l : Launch) (hl : l.stackTraces = false) (d : Nat) (hd : 0 ≤ d) (h : mH) (i0 : mm_inv h) : mm_Met l d yX7_faultAt cX7_faultAt 1 (some .int) [mR 63] h (mm_pi fun r h2 => h2 = h ∧ (r = (h.1 63 10))) mm_nx 0 0 := by
  refine mm_ofW (ls := [mR 63]) hl (by decide) rfl (Nat.le_of_ble_eq_true rfl) ?_
  intro x hxl C T hnm htb
  subst hxl
  have f0 : mm_fr [] [] h h := mm_fr_rf
  refine mm_aload_n C (mm_dec dk_X7_faultAt 0 rfl) rfl ?_
  refine mm_geti C fl_X7_40 (mm_dec dk_X7_faultAt 1 rfl) rfl rfl (Or.inl rfl) ?_
  have g1 : -2147483648 ≤ (h.1 63 10) ∧ (h.1 63 10) ≤ 2147483647 := i0.1 63 10
  exact mm_iret C T (mm_dec dk_X7_faultAt 2 rfl) (by decide : 0 ≤ 0) (by decide : 0 ≤ 0) ⟨_, rfl, ⟨rfl, rfl⟩⟩
set_option maxRecDepth 100000 in
set_option maxHeartbeats 4000000 in
theorem c_X7_refuse (l : Launch) (hl : l.stackTraces = false) (d : Nat) (hd : 0 ≤ d) (h : mH) (i0 : mm_inv h) (p1 : Int) : mm_Met l d yX7_refuse cX7_refuse 2 (some .boolean) [mR 63, mI p1] h (mm_pi fun r h2 => (0 ≤ r ∧ r ≤ 0) ∧ mm_inv h2 ∧ mm_fr [(63, 9), (63, 10)] [] h h2) mm_nx 0 0 := by
  refine mm_ofW (ls := [mR 63, mI p1]) hl (by decide) rfl (Nat.le_of_ble_eq_true rfl) ?_
  intro x hxl C T hnm htb
  subst hxl
  refine mm_rng (fun hr _ => ?_)
  have ap1 : -2147483648 ≤ p1 ∧ p1 < 2147483648 := mm_ok_at hr (i := 1) rfl
  have f0 : mm_fr [(63, 9), (63, 10)] [] h h := mm_fr_rf
  refine mm_aload_n C (mm_dec dk_X7_refuse 0 rfl) rfl ?_
  refine mm_iload_n C (mm_dec dk_X7_refuse 1 rfl) rfl ?_
  refine mm_puti C fl_X7_37 (mm_dec dk_X7_refuse 2 rfl) rfl rfl rfl (Or.inl ⟨rfl, rfl⟩) ?_
  have i1 : mm_inv (mm_pf h 63 9 p1) := mm_inv_pf i0 (show -2147483648 ≤ p1 ∧ p1 ≤ 2147483647 from ⟨by omega, by omega⟩) (by decide)
  have f1 : mm_fr [(63, 9), (63, 10)] [] h (mm_pf h 63 9 p1) := mm_fr_pf f0 (by decide)
  obtain ⟨h1, eh1⟩ : ∃ z, z = mm_pf h 63 9 p1 := ⟨_, rfl⟩
  rw [← eh1] at i1 f1 ⊢
  have qh1 : h1.1 63 9 = p1 := by rw [eh1]; exact mm_pf_same _ _ _ _
  refine mm_aload_n C (mm_dec dk_X7_refuse 3 rfl) rfl ?_
  refine mm_aload_n C (mm_dec dk_X7_refuse 4 rfl) rfl ?_
  refine mm_geti C fl_X7_31 (mm_dec dk_X7_refuse 5 rfl) rfl rfl (Or.inl rfl) ?_
  have g1 : 0 ≤ (h1.1 63 7) ∧ (h1.1 63 7) ≤ 500 := i1.1 63 7
  refine mm_puti C fl_X7_40 (mm_dec dk_X7_refuse 6 rfl) rfl rfl rfl (Or.inl ⟨rfl, rfl⟩) ?_
  have i2 : mm_inv (mm_pf h1 63 10 (h1.1 63 7)) := mm_inv_pf i1 (show -2147483648 ≤ (h1.1 63 7) ∧ (h1.1 63 7) ≤ 2147483647 from ⟨by omega, by omega⟩) (by decide)
  have f2 : mm_fr [(63, 9), (63, 10)] [] h (mm_pf h1 63 10 (h1.1 63 7)) := mm_fr_pf f1 (by decide)
  obtain ⟨h2, eh2⟩ : ∃ z, z = mm_pf h1 63 10 (h1.1 63 7) := ⟨_, rfl⟩
  rw [← eh2] at i2 f2 ⊢
  have qh2 : h2.1 63 10 = (h1.1 63 7) := by rw [eh2]; exact mm_pf_same _ _ _ _
  have qh2_2 : h2.1 63 7 = h1.1 63 7 := by rw [eh2]; exact mm_pf_ne _ _ (by decide)
  have qh2_3 : h2.1 63 9 = h1.1 63 9 := by rw [eh2]; exact mm_pf_ne _ _ (by decide)
  refine mm_iconst C (mm_dec dk_X7_refuse 7 rfl) ⟨by decide, by decide⟩ ?_
  exact mm_zret C T (mm_dec dk_X7_refuse 8 rfl) (by decide : 0 ≤ 0) (by decide : 0 ≤ 0) (by omega) ⟨_, rfl, ⟨⟨by omega, by omega⟩, i2, f2⟩⟩
set_option maxRecDepth 100000 in
set_option maxHeartbeats 4000000 in
theorem c_X7_emit (l : Launch) (hl : l.stackTraces = false) (d : Nat) (hd : 0 ≤ d) (h : mH) (i0 : mm_inv h) (p1 : Int) : mm_Met l d yX7_emit cX7_emit 2 none [mR 63, mI p1] h (mm_pv fun h2 => mm_inv h2 ∧ mm_fr [(63, 4)] [64] h h2) mm_nx 0 0 := by
  refine mm_ofW (ls := [mR 63, mI p1]) hl (by decide) rfl (Nat.le_of_ble_eq_true rfl) ?_
  intro x hxl C T hnm htb
  subst hxl
  refine mm_rng (fun hr _ => ?_)
  have ap1 : -2147483648 ≤ p1 ∧ p1 < 2147483648 := mm_ok_at hr (i := 1) rfl
  have f0 : mm_fr [(63, 4)] [64] h h := mm_fr_rf
  refine mm_aload_n C (mm_dec dk_X7_emit 0 rfl) rfl ?_
  refine mm_geti C fl_X7_22 (mm_dec dk_X7_emit 1 rfl) rfl rfl (Or.inl rfl) ?_
  have g1 : 0 ≤ (h.1 63 4) ∧ (h.1 63 4) ≤ 500 := i0.1 63 4
  refine mm_sipush C (mm_dec dk_X7_emit 2 rfl) ⟨by decide, by decide⟩ ?_
  have J30 : ∀ (h30_ : mH) (i30_ : mm_inv h30_) (f30_ : mm_fr [(63, 4)] [64] h h30_), mm_W x 0 0 30 [mU, mU] [] h30_ := by
    intro h30_ i30_ f30_
    exact mm_vret C T (mm_dec dk_X7_emit 16 rfl) (by decide : 0 ≤ 0) (by decide : 0 ≤ 0) ⟨rfl, ⟨i30_, f30_⟩⟩
  refine mm_icmp_ge (tgt := 30) C (mm_dec dk_X7_emit 3 rfl) (by decide) (fun c7 => ?_) (fun c7 => ?_)
  · skip
    refine mm_fgt 0 ?_
    refine mm_fgt 1 ?_
    exact J30 h i0 f0
  · skip
    refine mm_aload_n C (mm_dec dk_X7_emit 4 rfl) rfl ?_
    refine mm_getr (t := 64) C fl_X7_11 (mm_dec dk_X7_emit 5 rfl) rfl rfl (mm_ref i0 rfl) ?_
    refine mm_aload_n C (mm_dec dk_X7_emit 6 rfl) rfl ?_
    refine mm_geti C fl_X7_22 (mm_dec dk_X7_emit 7 rfl) rfl rfl (Or.inl rfl) ?_
    refine mm_iload_n C (mm_dec dk_X7_emit 8 rfl) rfl ?_
    refine mm_iast C (mm_dec dk_X7_emit 9 rfl) rfl (by omega) (by omega) ?_
    have i1 : mm_inv (mm_pa h 64 (h.1 63 4) p1) := mm_inv_pa i0 (show -2147483648 ≤ p1 ∧ p1 ≤ 2147483647 from ⟨by omega, by omega⟩)
    have f1 : mm_fr [(63, 4)] [64] h (mm_pa h 64 (h.1 63 4) p1) := mm_fr_pa f0 (by decide)
    obtain ⟨h1, eh1⟩ : ∃ z, z = mm_pa h 64 (h.1 63 4) p1 := ⟨_, rfl⟩
    rw [← eh1] at i1 f1 ⊢
    have qh1_2 : h1.1 63 4 = h.1 63 4 := by rw [eh1]; rfl
    refine mm_aload_n C (mm_dec dk_X7_emit 10 rfl) rfl ?_
    refine mm_dup C (mm_dec dk_X7_emit 11 rfl) (show (2 : Nat) ≠ 1 by decide) ?_
    refine mm_geti C fl_X7_22 (mm_dec dk_X7_emit 12 rfl) rfl rfl (Or.inl rfl) ?_
    refine mm_iconst C (mm_dec dk_X7_emit 13 rfl) ⟨by decide, by decide⟩ ?_
    refine mm_iadd C (mm_dec dk_X7_emit 14 rfl) ⟨by omega, by omega⟩ ?_
    refine mm_puti C fl_X7_22 (mm_dec dk_X7_emit 15 rfl) rfl rfl rfl (Or.inl ⟨rfl, rfl⟩) ?_
    have i2 : mm_inv (mm_pf h1 63 4 ((h1.1 63 4) + 1)) := mm_inv_pf i1 (show 0 ≤ ((h1.1 63 4) + 1) ∧ ((h1.1 63 4) + 1) ≤ 500 from ⟨by omega, by omega⟩) (by decide)
    have f2 : mm_fr [(63, 4)] [64] h (mm_pf h1 63 4 ((h1.1 63 4) + 1)) := mm_fr_pf f1 (by decide)
    obtain ⟨h2, eh2⟩ : ∃ z, z = mm_pf h1 63 4 ((h1.1 63 4) + 1) := ⟨_, rfl⟩
    rw [← eh2] at i2 f2 ⊢
    have qh2 : h2.1 63 4 = ((h1.1 63 4) + 1) := by rw [eh2]; exact mm_pf_same _ _ _ _
    refine mm_fgt 0 ?_
    refine mm_fgt 1 ?_
    exact J30 h2 i2 f2
set_option maxRecDepth 100000 in
set_option maxHeartbeats 4000000 in
theorem c_X7_isBlank (l : Launch) (hl : l.stackTraces = false) (d : Nat) (hd : 0 ≤ d) (h : mH) (i0 : mm_inv h) (p0 : Int) : mm_Met l d yX7_isBlank cX7_isBlank 1 (some .boolean) [mI p0] h (mm_pi fun r h2 => h2 = h ∧ ((p0 = 32 ∧ r = 1) ∨ (p0 ≠ 32 ∧ p0 ≠ 10 ∧ r = 0) ∨ (p0 ≠ 32 ∧ p0 = 10 ∧ r = 1))) mm_nx 0 0 := by
  refine mm_ofW (ls := [mI p0]) hl (by decide) rfl (Nat.le_of_ble_eq_true rfl) ?_
  intro x hxl C T hnm htb
  subst hxl
  refine mm_rng (fun hr _ => ?_)
  have ap0 : -2147483648 ≤ p0 ∧ p0 < 2147483648 := mm_ok_at hr (i := 0) rfl
  have f0 : mm_fr [] [] h h := mm_fr_rf
  refine mm_iload_n C (mm_dec dk_X7_isBlank 0 rfl) rfl ?_
  refine mm_bipush C (mm_dec dk_X7_isBlank 1 rfl) ⟨by decide, by decide⟩ ?_
  refine mm_icmp_eq (tgt := 12) C (mm_dec dk_X7_isBlank 2 rfl) (by decide) (fun c3 => ?_) (fun c3 => ?_)
  · skip
    refine mm_iconst C (mm_dec dk_X7_isBlank 6 rfl) ⟨by decide, by decide⟩ ?_
    refine mm_goto (tgt := 17) C (mm_dec dk_X7_isBlank 7 rfl) (by decide) ?_
    exact mm_zret C T (mm_dec dk_X7_isBlank 9 rfl) (by decide : 0 ≤ 0) (by decide : 0 ≤ 0) (by omega) ⟨_, rfl, ⟨rfl, Or.inl ⟨by omega, rfl⟩⟩⟩
  · skip
    refine mm_iload_n C (mm_dec dk_X7_isBlank 3 rfl) rfl ?_
    refine mm_bipush C (mm_dec dk_X7_isBlank 4 rfl) ⟨by decide, by decide⟩ ?_
    refine mm_icmp_ne (tgt := 16) C (mm_dec dk_X7_isBlank 5 rfl) (by decide) (fun c9 => ?_) (fun c9 => ?_)
    · skip
      refine mm_iconst C (mm_dec dk_X7_isBlank 8 rfl) ⟨by decide, by decide⟩ ?_
      exact mm_zret C T (mm_dec dk_X7_isBlank 9 rfl) (by decide : 0 ≤ 0) (by decide : 0 ≤ 0) (by omega) ⟨_, rfl, ⟨rfl, Or.inr (Or.inl ⟨by omega, by omega, rfl⟩)⟩⟩
    · skip
      refine mm_iconst C (mm_dec dk_X7_isBlank 6 rfl) ⟨by decide, by decide⟩ ?_
      refine mm_goto (tgt := 17) C (mm_dec dk_X7_isBlank 7 rfl) (by decide) ?_
      exact mm_zret C T (mm_dec dk_X7_isBlank 9 rfl) (by decide : 0 ≤ 0) (by decide : 0 ≤ 0) (by omega) ⟨_, rfl, ⟨rfl, Or.inr (Or.inr (⟨by omega, by omega, rfl⟩))⟩⟩
set_option maxRecDepth 100000 in
set_option maxHeartbeats 4000000 in
theorem c_X7_kindOf (l : Launch) (hl : l.stackTraces = false) (d : Nat) (hd : 0 ≤ d) (h : mH) (i0 : mm_inv h) (p0 : Int) : mm_Met l d yX7_kindOf cX7_kindOf 1 (some .int) [mI p0] h (mm_pi fun r h2 => (1 ≤ r ∧ r ≤ 4) ∧ h2 = h) mm_nx 0 0 := by
  refine mm_ofW (ls := [mI p0]) hl (by decide) rfl (Nat.le_of_ble_eq_true rfl) ?_
  intro x hxl C T hnm htb
  subst hxl
  refine mm_rng (fun hr _ => ?_)
  have ap0 : -2147483648 ≤ p0 ∧ p0 < 2147483648 := mm_ok_at hr (i := 0) rfl
  have f0 : mm_fr [] [] h h := mm_fr_rf
  refine mm_iload_n C (mm_dec dk_X7_kindOf 0 rfl) rfl ?_
  refine mm_bipush C (mm_dec dk_X7_kindOf 1 rfl) ⟨by decide, by decide⟩ ?_
  have J14 : mm_W x 0 0 14 [mI p0] [] h := by
    refine mm_iload_n C (mm_dec dk_X7_kindOf 8 rfl) rfl ?_
    refine mm_bipush C (mm_dec dk_X7_kindOf 9 rfl) ⟨by decide, by decide⟩ ?_
    have J28 : mm_W x 0 0 28 [mI p0] [] h := by
      refine mm_iload_n C (mm_dec dk_X7_kindOf 16 rfl) rfl ?_
      refine mm_table (t0 := 134) [132, 132, 132, 132, 134, 132, 134, 132, 134, 134, 134, 134, 134, 134, 134, 134, 134, 134, 134, 132, 132, 132] C (mm_dec dk_X7_kindOf 17 rfl) (by decide) (by decide) (by decide +kernel) (fun c29 => ?_) (fun k29 hk29 c29 => ?_)
      · skip
        refine mm_iconst C (mm_dec dk_X7_kindOf 20 rfl) ⟨by decide, by decide⟩ ?_
        exact mm_iret C T (mm_dec dk_X7_kindOf 21 rfl) (by decide : 0 ≤ 0) (by decide : 0 ≤ 0) ⟨_, rfl, ⟨⟨by omega, by omega⟩, rfl⟩⟩
      · have hq29 : k29 < 22 := hk29
        rcases (by omega : k29 = 0 ∨ k29 = 1 ∨ k29 = 2 ∨ k29 = 3 ∨ k29 = 4 ∨ k29 = 5 ∨ k29 = 6 ∨ k29 = 7 ∨ k29 = 8 ∨ k29 = 9 ∨ k29 = 10 ∨ k29 = 11 ∨ k29 = 12 ∨ k29 = 13 ∨ k29 = 14 ∨ k29 = 15 ∨ k29 = 16 ∨ k29 = 17 ∨ k29 = 18 ∨ k29 = 19 ∨ k29 = 20 ∨ k29 = 21) with rfl | rfl | rfl | rfl | rfl | rfl | rfl | rfl | rfl | rfl | rfl | rfl | rfl | rfl | rfl | rfl | rfl | rfl | rfl | rfl | rfl | rfl
        · show mm_W x 0 0 132 _ _ _
          refine mm_iconst C (mm_dec dk_X7_kindOf 18 rfl) ⟨by decide, by decide⟩ ?_
          exact mm_iret C T (mm_dec dk_X7_kindOf 19 rfl) (by decide : 0 ≤ 0) (by decide : 0 ≤ 0) ⟨_, rfl, ⟨⟨by omega, by omega⟩, rfl⟩⟩
        · show mm_W x 0 0 132 _ _ _
          refine mm_iconst C (mm_dec dk_X7_kindOf 18 rfl) ⟨by decide, by decide⟩ ?_
          exact mm_iret C T (mm_dec dk_X7_kindOf 19 rfl) (by decide : 0 ≤ 0) (by decide : 0 ≤ 0) ⟨_, rfl, ⟨⟨by omega, by omega⟩, rfl⟩⟩
        · show mm_W x 0 0 132 _ _ _
          refine mm_iconst C (mm_dec dk_X7_kindOf 18 rfl) ⟨by decide, by decide⟩ ?_
          exact mm_iret C T (mm_dec dk_X7_kindOf 19 rfl) (by decide : 0 ≤ 0) (by decide : 0 ≤ 0) ⟨_, rfl, ⟨⟨by omega, by omega⟩, rfl⟩⟩
        · show mm_W x 0 0 132 _ _ _
          refine mm_iconst C (mm_dec dk_X7_kindOf 18 rfl) ⟨by decide, by decide⟩ ?_
          exact mm_iret C T (mm_dec dk_X7_kindOf 19 rfl) (by decide : 0 ≤ 0) (by decide : 0 ≤ 0) ⟨_, rfl, ⟨⟨by omega, by omega⟩, rfl⟩⟩
        · show mm_W x 0 0 134 _ _ _
          refine mm_iconst C (mm_dec dk_X7_kindOf 20 rfl) ⟨by decide, by decide⟩ ?_
          exact mm_iret C T (mm_dec dk_X7_kindOf 21 rfl) (by decide : 0 ≤ 0) (by decide : 0 ≤ 0) ⟨_, rfl, ⟨⟨by omega, by omega⟩, rfl⟩⟩
        · show mm_W x 0 0 132 _ _ _
          refine mm_iconst C (mm_dec dk_X7_kindOf 18 rfl) ⟨by decide, by decide⟩ ?_
          exact mm_iret C T (mm_dec dk_X7_kindOf 19 rfl) (by decide : 0 ≤ 0) (by decide : 0 ≤ 0) ⟨_, rfl, ⟨⟨by omega, by omega⟩, rfl⟩⟩
        · show mm_W x 0 0 134 _ _ _
          refine mm_iconst C (mm_dec dk_X7_kindOf 20 rfl) ⟨by decide, by decide⟩ ?_
          exact mm_iret C T (mm_dec dk_X7_kindOf 21 rfl) (by decide : 0 ≤ 0) (by decide : 0 ≤ 0) ⟨_, rfl, ⟨⟨by omega, by omega⟩, rfl⟩⟩
        · show mm_W x 0 0 132 _ _ _
          refine mm_iconst C (mm_dec dk_X7_kindOf 18 rfl) ⟨by decide, by decide⟩ ?_
          exact mm_iret C T (mm_dec dk_X7_kindOf 19 rfl) (by decide : 0 ≤ 0) (by decide : 0 ≤ 0) ⟨_, rfl, ⟨⟨by omega, by omega⟩, rfl⟩⟩
        · show mm_W x 0 0 134 _ _ _
          refine mm_iconst C (mm_dec dk_X7_kindOf 20 rfl) ⟨by decide, by decide⟩ ?_
          exact mm_iret C T (mm_dec dk_X7_kindOf 21 rfl) (by decide : 0 ≤ 0) (by decide : 0 ≤ 0) ⟨_, rfl, ⟨⟨by omega, by omega⟩, rfl⟩⟩
        · show mm_W x 0 0 134 _ _ _
          refine mm_iconst C (mm_dec dk_X7_kindOf 20 rfl) ⟨by decide, by decide⟩ ?_
          exact mm_iret C T (mm_dec dk_X7_kindOf 21 rfl) (by decide : 0 ≤ 0) (by decide : 0 ≤ 0) ⟨_, rfl, ⟨⟨by omega, by omega⟩, rfl⟩⟩
        · show mm_W x 0 0 134 _ _ _
          refine mm_iconst C (mm_dec dk_X7_kindOf 20 rfl) ⟨by decide, by decide⟩ ?_
          exact mm_iret C T (mm_dec dk_X7_kindOf 21 rfl) (by decide : 0 ≤ 0) (by decide : 0 ≤ 0) ⟨_, rfl, ⟨⟨by omega, by omega⟩, rfl⟩⟩
        · show mm_W x 0 0 134 _ _ _
          refine mm_iconst C (mm_dec dk_X7_kindOf 20 rfl) ⟨by decide, by decide⟩ ?_
          exact mm_iret C T (mm_dec dk_X7_kindOf 21 rfl) (by decide : 0 ≤ 0) (by decide : 0 ≤ 0) ⟨_, rfl, ⟨⟨by omega, by omega⟩, rfl⟩⟩
        · show mm_W x 0 0 134 _ _ _
          refine mm_iconst C (mm_dec dk_X7_kindOf 20 rfl) ⟨by decide, by decide⟩ ?_
          exact mm_iret C T (mm_dec dk_X7_kindOf 21 rfl) (by decide : 0 ≤ 0) (by decide : 0 ≤ 0) ⟨_, rfl, ⟨⟨by omega, by omega⟩, rfl⟩⟩
        · show mm_W x 0 0 134 _ _ _
          refine mm_iconst C (mm_dec dk_X7_kindOf 20 rfl) ⟨by decide, by decide⟩ ?_
          exact mm_iret C T (mm_dec dk_X7_kindOf 21 rfl) (by decide : 0 ≤ 0) (by decide : 0 ≤ 0) ⟨_, rfl, ⟨⟨by omega, by omega⟩, rfl⟩⟩
        · show mm_W x 0 0 134 _ _ _
          refine mm_iconst C (mm_dec dk_X7_kindOf 20 rfl) ⟨by decide, by decide⟩ ?_
          exact mm_iret C T (mm_dec dk_X7_kindOf 21 rfl) (by decide : 0 ≤ 0) (by decide : 0 ≤ 0) ⟨_, rfl, ⟨⟨by omega, by omega⟩, rfl⟩⟩
        · show mm_W x 0 0 134 _ _ _
          refine mm_iconst C (mm_dec dk_X7_kindOf 20 rfl) ⟨by decide, by decide⟩ ?_
          exact mm_iret C T (mm_dec dk_X7_kindOf 21 rfl) (by decide : 0 ≤ 0) (by decide : 0 ≤ 0) ⟨_, rfl, ⟨⟨by omega, by omega⟩, rfl⟩⟩
        · show mm_W x 0 0 134 _ _ _
          refine mm_iconst C (mm_dec dk_X7_kindOf 20 rfl) ⟨by decide, by decide⟩ ?_
          exact mm_iret C T (mm_dec dk_X7_kindOf 21 rfl) (by decide : 0 ≤ 0) (by decide : 0 ≤ 0) ⟨_, rfl, ⟨⟨by omega, by omega⟩, rfl⟩⟩
        · show mm_W x 0 0 134 _ _ _
          refine mm_iconst C (mm_dec dk_X7_kindOf 20 rfl) ⟨by decide, by decide⟩ ?_
          exact mm_iret C T (mm_dec dk_X7_kindOf 21 rfl) (by decide : 0 ≤ 0) (by decide : 0 ≤ 0) ⟨_, rfl, ⟨⟨by omega, by omega⟩, rfl⟩⟩
        · show mm_W x 0 0 134 _ _ _
          refine mm_iconst C (mm_dec dk_X7_kindOf 20 rfl) ⟨by decide, by decide⟩ ?_
          exact mm_iret C T (mm_dec dk_X7_kindOf 21 rfl) (by decide : 0 ≤ 0) (by decide : 0 ≤ 0) ⟨_, rfl, ⟨⟨by omega, by omega⟩, rfl⟩⟩
        · show mm_W x 0 0 132 _ _ _
          refine mm_iconst C (mm_dec dk_X7_kindOf 18 rfl) ⟨by decide, by decide⟩ ?_
          exact mm_iret C T (mm_dec dk_X7_kindOf 19 rfl) (by decide : 0 ≤ 0) (by decide : 0 ≤ 0) ⟨_, rfl, ⟨⟨by omega, by omega⟩, rfl⟩⟩
        · show mm_W x 0 0 132 _ _ _
          refine mm_iconst C (mm_dec dk_X7_kindOf 18 rfl) ⟨by decide, by decide⟩ ?_
          exact mm_iret C T (mm_dec dk_X7_kindOf 19 rfl) (by decide : 0 ≤ 0) (by decide : 0 ≤ 0) ⟨_, rfl, ⟨⟨by omega, by omega⟩, rfl⟩⟩
        · show mm_W x 0 0 132 _ _ _
          refine mm_iconst C (mm_dec dk_X7_kindOf 18 rfl) ⟨by decide, by decide⟩ ?_
          exact mm_iret C T (mm_dec dk_X7_kindOf 19 rfl) (by decide : 0 ≤ 0) (by decide : 0 ≤ 0) ⟨_, rfl, ⟨⟨by omega, by omega⟩, rfl⟩⟩
    refine mm_icmp_lt (tgt := 28) C (mm_dec dk_X7_kindOf 10 rfl) (by decide) (fun c17 => ?_) (fun c17 => ?_)
    · skip
      exact J28
    · skip
      refine mm_iload_n C (mm_dec dk_X7_kindOf 11 rfl) rfl ?_
      refine mm_bipush C (mm_dec dk_X7_kindOf 12 rfl) ⟨by decide, by decide⟩ ?_
      refine mm_icmp_gt (tgt := 28) C (mm_dec dk_X7_kindOf 13 rfl) (by decide) (fun c23 => ?_) (fun c23 => ?_)
      · skip
        exact J28
      · skip
        refine mm_iconst C (mm_dec dk_X7_kindOf 14 rfl) ⟨by decide, by decide⟩ ?_
        exact mm_iret C T (mm_dec dk_X7_kindOf 15 rfl) (by decide : 0 ≤ 0) (by decide : 0 ≤ 0) ⟨_, rfl, ⟨⟨by omega, by omega⟩, rfl⟩⟩
  refine mm_icmp_lt (tgt := 14) C (mm_dec dk_X7_kindOf 2 rfl) (by decide) (fun c3 => ?_) (fun c3 => ?_)
  · skip
    exact J14
  · skip
    refine mm_iload_n C (mm_dec dk_X7_kindOf 3 rfl) rfl ?_
    refine mm_bipush C (mm_dec dk_X7_kindOf 4 rfl) ⟨by decide, by decide⟩ ?_
    refine mm_icmp_gt (tgt := 14) C (mm_dec dk_X7_kindOf 5 rfl) (by decide) (fun c9 => ?_) (fun c9 => ?_)
    · skip
      exact J14
    · skip
      refine mm_iconst C (mm_dec dk_X7_kindOf 6 rfl) ⟨by decide, by decide⟩ ?_
      exact mm_iret C T (mm_dec dk_X7_kindOf 7 rfl) (by decide : 0 ≤ 0) (by decide : 0 ≤ 0) ⟨_, rfl, ⟨⟨by omega, by omega⟩, rfl⟩⟩
set_option maxRecDepth 100000 in
set_option maxHeartbeats 4000000 in
theorem c_X7_numberOfToken (l : Launch) (hl : l.stackTraces = false) (d : Nat) (hd : 0 ≤ d) (h : mH) (i0 : mm_inv h) : mm_Met l d yX7_numberOfToken cX7_numberOfToken 3 (some .int) [mR 63] h (mm_pi fun r h2 => (-2147483648 ≤ r ∧ r ≤ 2147483647) ∧ h2 = h) mm_nx 0 0 := by
  refine mm_ofW (ls := [mR 63, mU, mU]) hl (by decide) rfl (Nat.le_of_ble_eq_true rfl) ?_
  intro x hxl C T hnm htb
  subst hxl
  have f0 : mm_fr [] [] h h := mm_fr_rf
  refine mm_iconst C (mm_dec dk_X7_numberOfToken 0 rfl) ⟨by decide, by decide⟩ ?_
  refine mm_istore_nL (ls2 := [mR 63, mI 0, mU]) C (mm_dec dk_X7_numberOfToken 1 rfl) (by decide) rfl ?_
  refine mm_aload_n C (mm_dec dk_X7_numberOfToken 2 rfl) rfl ?_
  refine mm_geti C fl_X7_31 (mm_dec dk_X7_numberOfToken 3 rfl) rfl rfl (Or.inl rfl) ?_
  have g1 : 0 ≤ (h.1 63 7) ∧ (h.1 63 7) ≤ 500 := i0.1 63 7
  have J7 : ∀ (n : Nat) (x7_1 : Int) (bx7_1 : -2147483648 ≤ x7_1 ∧ x7_1 ≤ 2147483647) (x7_2 : Int) (bx7_2 : 0 ≤ x7_2 ∧ x7_2 ≤ 500), (500 - x7_2 : Int) < n → mm_W x 0 0 7 [mR 63, mI x7_1, mI x7_2] [] h := by
    intro n
    induction n with
    | zero =>
      intro x7_1 bx7_1 x7_2 bx7_2 hm
      exfalso; omega
    | succ n ih7 =>
      intro x7_1 bx7_1 x7_2 bx7_2 hm7
      refine mm_iload_n C (mm_dec dk_X7_numberOfToken 5 rfl) rfl ?_
      refine mm_aload_n C (mm_dec dk_X7_numberOfToken 6 rfl) rfl ?_
      refine mm_geti C fl_X7_34 (mm_dec dk_X7_numberOfToken 7 rfl) rfl rfl (Or.inl rfl) ?_
      have g2 : 0 ≤ (h.1 63 8) ∧ (h.1 63 8) ≤ 500 := i0.1 63 8
      refine mm_icmp_ge (tgt := 36) C (mm_dec dk_X7_numberOfToken 8 rfl) (by decide) (fun c12 => ?_) (fun c12 => ?_)
      · skip
        refine mm_iload_n C (mm_dec dk_X7_numberOfToken 22 rfl) rfl ?_
        exact mm_iret C T (mm_dec dk_X7_numberOfToken 23 rfl) (by decide : 0 ≤ 0) (by decide : 0 ≤ 0) ⟨_, rfl, ⟨⟨by omega, by omega⟩, rfl⟩⟩
      · skip
        refine mm_iload_n C (mm_dec dk_X7_numberOfToken 9 rfl) rfl ?_
        refine mm_bipush C (mm_dec dk_X7_numberOfToken 10 rfl) ⟨by decide, by decide⟩ ?_
        refine mm_imulw C (mm_dec dk_X7_numberOfToken 11 rfl) ?_
        have g3 : -2147483648 ≤ (mm_w (x7_1 * 10)) ∧ (mm_w (x7_1 * 10)) < 2147483648 := mm_w_rg _
        refine mm_aload_n C (mm_dec dk_X7_numberOfToken 12 rfl) rfl ?_
        refine mm_getr (t := 62) C fl_X7_43 (mm_dec dk_X7_numberOfToken 13 rfl) rfl rfl (mm_ref i0 rfl) ?_
        refine mm_iload_n C (mm_dec dk_X7_numberOfToken 14 rfl) rfl ?_
        refine mm_iald C (mm_dec dk_X7_numberOfToken 15 rfl) rfl (by omega) (by omega) ?_
        have g4 : -2147483648 ≤ (h.2.1 62 x7_2) ∧ (h.2.1 62 x7_2) ≤ 2147483647 := i0.2.1 62 x7_2
        refine mm_iaddw C (mm_dec dk_X7_numberOfToken 16 rfl) ?_
        have g5 : -2147483648 ≤ (mm_w ((mm_w (x7_1 * 10)) + (h.2.1 62 x7_2))) ∧ (mm_w ((mm_w (x7_1 * 10)) + (h.2.1 62 x7_2))) < 2147483648 := mm_w_rg _
        refine mm_bipush C (mm_dec dk_X7_numberOfToken 17 rfl) ⟨by decide, by decide⟩ ?_
        refine mm_isubw C (mm_dec dk_X7_numberOfToken 18 rfl) ?_
        have g6 : -2147483648 ≤ (mm_w ((mm_w ((mm_w (x7_1 * 10)) + (h.2.1 62 x7_2))) - 48)) ∧ (mm_w ((mm_w ((mm_w (x7_1 * 10)) + (h.2.1 62 x7_2))) - 48)) < 2147483648 := mm_w_rg _
        refine mm_istore_nL (ls2 := [mR 63, mI (mm_w ((mm_w ((mm_w (x7_1 * 10)) + (h.2.1 62 x7_2))) - 48)), mI x7_2]) C (mm_dec dk_X7_numberOfToken 19 rfl) (by decide) rfl ?_
        refine mm_iincL (ls2 := [mR 63, mI (mm_w ((mm_w ((mm_w (x7_1 * 10)) + (h.2.1 62 x7_2))) - 48)), mI (x7_2 + 1)]) C (mm_dec dk_X7_numberOfToken 20 rfl) rfl (by decide) ⟨by omega, by omega⟩ rfl ?_
        refine mm_goto (tgt := 7) C (mm_dec dk_X7_numberOfToken 21 rfl) (by decide) ?_
        exact ih7 (mm_w ((mm_w ((mm_w (x7_1 * 10)) + (h.2.1 62 x7_2))) - 48)) ⟨by omega, by omega⟩ (x7_2 + 1) ⟨by omega, by omega⟩ (by omega)
  refine mm_istore_nL (ls2 := [mR 63, mI 0, mI (h.1 63 7)]) C (mm_dec dk_X7_numberOfToken 4 rfl) (by decide) rfl ?_
  exact J7 (((500 - (h.1 63 7)) : Int) + 1).toNat 0 ⟨by omega, by omega⟩ (h.1 63 7) ⟨by omega, by omega⟩ (by omega)
set_option maxRecDepth 100000 in
set_option maxHeartbeats 4000000 in
theorem c_X8_param (l : Launch) (hl : l.stackTraces = false) (d : Nat) (hd : 0 ≤ d) (h : mH) (i0 : mm_inv h) (p1 : Int) (bp1 : 0 ≤ p1 ∧ p1 ≤ 2) : mm_Met l d yX8_param cX8_param 2 (some .int) [mR 42, mI p1] h (mm_pi fun r h2 => h2 = h ∧ (r = (h.2.1 44 p1))) mm_nx 0 0 := by
  refine mm_ofW (ls := [mR 42, mI p1]) hl (by decide) rfl (Nat.le_of_ble_eq_true rfl) ?_
  intro x hxl C T hnm htb
  subst hxl
  refine mm_rng (fun hr _ => ?_)
  have ap1 : -2147483648 ≤ p1 ∧ p1 < 2147483648 := mm_ok_at hr (i := 1) rfl
  have f0 : mm_fr [] [] h h := mm_fr_rf
  refine mm_aload_n C (mm_dec dk_X8_param 0 rfl) rfl ?_
  refine mm_getr (t := 44) C fl_X8_15 (mm_dec dk_X8_param 1 rfl) rfl rfl (mm_ref i0 rfl) ?_
  refine mm_iload_n C (mm_dec dk_X8_param 2 rfl) rfl ?_
  refine mm_iald C (mm_dec dk_X8_param 3 rfl) rfl (by omega) (by omega) ?_
  have g1 : -2147483648 ≤ (h.2.1 44 p1) ∧ (h.2.1 44 p1) ≤ 2147483647 := i0.2.1 44 p1
  exact mm_iret C T (mm_dec dk_X8_param 4 rfl) (by decide : 0 ≤ 0) (by decide : 0 ≤ 0) ⟨_, rfl, ⟨rfl, rfl⟩⟩
set_option maxRecDepth 100000 in
set_option maxHeartbeats 4000000 in
theorem c_X8_penalty (l : Launch) (hl : l.stackTraces = false) (d : Nat) (hd : 0 ≤ d) (h : mH) (i0 : mm_inv h) : mm_Met l d yX8_penalty cX8_penalty 1 (some .int) [mR 42] h (mm_pi fun r h2 => h2 = h ∧ (r = (h.1 42 5))) mm_nx 0 0 := by
  refine mm_ofW (ls := [mR 42]) hl (by decide) rfl (Nat.le_of_ble_eq_true rfl) ?_
  intro x hxl C T hnm htb
  subst hxl
  have f0 : mm_fr [] [] h h := mm_fr_rf
  refine mm_aload_n C (mm_dec dk_X8_penalty 0 rfl) rfl ?_
  refine mm_geti C fl_X8_28 (mm_dec dk_X8_penalty 1 rfl) rfl rfl (Or.inl rfl) ?_
  have g1 : -2147483648 ≤ (h.1 42 5) ∧ (h.1 42 5) ≤ 2147483647 := i0.1 42 5
  exact mm_iret C T (mm_dec dk_X8_penalty 2 rfl) (by decide : 0 ≤ 0) (by decide : 0 ≤ 0) ⟨_, rfl, ⟨rfl, rfl⟩⟩
set_option maxRecDepth 100000 in
set_option maxHeartbeats 4000000 in
theorem c_X8_out (l : Launch) (hl : l.stackTraces = false) (d : Nat) (hd : 0 ≤ d) (h : mH) (i0 : mm_inv h) : mm_Met l d yX8_out cX8_out 1 (some .boolean) [mR 42] h (mm_pi fun r h2 => h2 = h ∧ (r = (h.1 42 6))) mm_nx 0 0 := by
  refine mm_ofW (ls := [mR 42]) hl (by decide) rfl (Nat.le_of_ble_eq_true rfl) ?_
  intro x hxl C T hnm htb
  subst hxl
  have f0 : mm_fr [] [] h h := mm_fr_rf
  refine mm_aload_n C (mm_dec dk_X8_out 0 rfl) rfl ?_
  refine mm_geti C fl_X8_31 (mm_dec dk_X8_out 1 rfl) rfl rfl (Or.inr rfl) ?_
  have g1 : 0 ≤ (h.1 42 6) ∧ (h.1 42 6) ≤ 1 := i0.1 42 6
  exact mm_zret C T (mm_dec dk_X8_out 2 rfl) (by decide : 0 ≤ 0) (by decide : 0 ≤ 0) (by omega) ⟨_, rfl, ⟨rfl, rfl⟩⟩
set_option maxRecDepth 100000 in
set_option maxHeartbeats 4000000 in
theorem c_X8_endClause (l : Launch) (hl : l.stackTraces = false) (d : Nat) (hd : 1 ≤ d) (h : mH) (i0 : mm_inv h) (p1 : Int) (p2 : Int) : mm_Met l d yX8_endClause cX8_endClause 3 none [mR 42, mI p1, mI p2] h (mm_pv fun h2 => mm_inv h2 ∧ mm_fr [(42, 5), (42, 6)] [] h h2) mm_nx 0 0 := by
  refine mm_ofW (ls := [mR 42, mI p1, mI p2]) hl (by decide) rfl (Nat.le_of_ble_eq_true rfl) ?_
  intro x hxl C T hnm htb
  subst hxl
  have C1 := mm_OK_le (d' := d - 1 + 1) (by omega) C
  refine mm_rng (fun hr _ => ?_)
  have ap1 : -2147483648 ≤ p1 ∧ p1 < 2147483648 := mm_ok_at hr (i := 1) rfl
  have ap2 : -2147483648 ≤ p2 ∧ p2 < 2147483648 := mm_ok_at hr (i := 2) rfl
  have f0 : mm_fr [(42, 5), (42, 6)] [] h h := mm_fr_rf
  refine mm_iload_n C (mm_dec dk_X8_endClause 0 rfl) rfl ?_
  refine mm_ldc (z := 100020) C (mm_dec dk_X8_endClause 1 rfl) kc_X8_60 (by decide) ?_
  have J40 : ∀ (h40_ : mH) (i40_ : mm_inv h40_) (f40_ : mm_fr [(42, 5), (42, 6)] [] h h40_), mm_W x 0 0 40 [mU, mU, mU] [] h40_ := by
    intro h40_ i40_ f40_
    exact mm_vret C T (mm_dec dk_X8_endClause 19 rfl) (by decide : 0 ≤ 0) (by decide : 0 ≤ 0) ⟨rfl, ⟨i40_, f40_⟩⟩
  refine mm_icmp_ne (tgt := 31) C (mm_dec dk_X8_endClause 2 rfl) (by decide) (fun c3 => ?_) (fun c3 => ?_)
  · skip
    refine mm_iload_n C (mm_dec dk_X8_endClause 14 rfl) rfl ?_
    refine mm_if_eq (tgt := 40) C (mm_dec dk_X8_endClause 15 rfl) (by decide) (fun c32 => ?_) (fun c32 => ?_)
    · skip
      refine mm_fgt 0 ?_
      refine mm_fgt 1 ?_
      refine mm_fgt 2 ?_
      exact J40 h i0 f0
    · skip
      refine mm_aload_n C (mm_dec dk_X8_endClause 16 rfl) rfl ?_
      refine mm_iconst C (mm_dec dk_X8_endClause 17 rfl) ⟨by decide, by decide⟩ ?_
      refine mm_puti C fl_X8_31 (mm_dec dk_X8_endClause 18 rfl) rfl rfl rfl (Or.inr ⟨rfl, rfl, by omega⟩) ?_
      have i1 : mm_inv (mm_pf h 42 6 1) := mm_inv_pf i0 (show 0 ≤ 1 ∧ 1 ≤ 1 from ⟨by omega, by omega⟩) (by decide)
      have f1 : mm_fr [(42, 5), (42, 6)] [] h (mm_pf h 42 6 1) := mm_fr_pf f0 (by decide)
      obtain ⟨h1, eh1⟩ : ∃ z, z = mm_pf h 42 6 1 := ⟨_, rfl⟩
      rw [← eh1] at i1 f1 ⊢
      have qh1 : h1.1 42 6 = 1 := by rw [eh1]; exact mm_pf_same _ _ _ _
      refine mm_fgt 0 ?_
      refine mm_fgt 1 ?_
      refine mm_fgt 2 ?_
      exact J40 h1 i1 f1
  · skip
    refine mm_aload_n C (mm_dec dk_X8_endClause 3 rfl) rfl ?_
    refine mm_dup C (mm_dec dk_X8_endClause 4 rfl) (show (2 : Nat) ≠ 1 by decide) ?_
    refine mm_geti C fl_X8_28 (mm_dec dk_X8_endClause 5 rfl) rfl rfl (Or.inl rfl) ?_
    have g1 : -2147483648 ≤ (h.1 42 5) ∧ (h.1 42 5) ≤ 2147483647 := i0.1 42 5
    refine mm_sipush C (mm_dec dk_X8_endClause 6 rfl) ⟨by decide, by decide⟩ ?_
    refine mm_sipush C (mm_dec dk_X8_endClause 7 rfl) ⟨by decide, by decide⟩ ?_
    refine mm_iload_n C (mm_dec dk_X8_endClause 8 rfl) rfl ?_
    refine mm_mmin C1 ml_X8_69 sm_J9_min_7cf53 mw_J9_min_7cf53.2.1 mw_J9_min_7cf53.1 (mm_dec dk_X8_endClause 9 rfl) (Nat.le_of_ble_eq_true rfl) ⟨by decide, by decide⟩ (fun r18 hr18 => ?_)
    refine mm_mmax C1 ml_X8_75 sm_J9_max_7cf53 mw_J9_max_7cf53.2.1 mw_J9_max_7cf53.1 (mm_dec dk_X8_endClause 10 rfl) (Nat.le_of_ble_eq_true rfl) ⟨by decide, by decide⟩ (fun r21 hr21 => ?_)
    refine mm_iaddw C (mm_dec dk_X8_endClause 11 rfl) ?_
    have g2 : -2147483648 ≤ (mm_w ((h.1 42 5) + r21)) ∧ (mm_w ((h.1 42 5) + r21)) < 2147483648 := mm_w_rg _
    refine mm_puti C fl_X8_28 (mm_dec dk_X8_endClause 12 rfl) rfl rfl rfl (Or.inl ⟨rfl, rfl⟩) ?_
    have i2 : mm_inv (mm_pf h 42 5 (mm_w ((h.1 42 5) + r21))) := mm_inv_pf i0 (show -2147483648 ≤ (mm_w ((h.1 42 5) + r21)) ∧ (mm_w ((h.1 42 5) + r21)) ≤ 2147483647 from ⟨by omega, by omega⟩) (by decide)
    have f2 : mm_fr [(42, 5), (42, 6)] [] h (mm_pf h 42 5 (mm_w ((h.1 42 5) + r21))) := mm_fr_pf f0 (by decide)
    obtain ⟨h2, eh2⟩ : ∃ z, z = mm_pf h 42 5 (mm_w ((h.1 42 5) + r21)) := ⟨_, rfl⟩
    rw [← eh2] at i2 f2 ⊢
    have qh2 : h2.1 42 5 = (mm_w ((h.1 42 5) + r21)) := by rw [eh2]; exact mm_pf_same _ _ _ _
    refine mm_goto (tgt := 40) C (mm_dec dk_X8_endClause 13 rfl) (by decide) ?_
    refine mm_fgt 0 ?_
    refine mm_fgt 1 ?_
    refine mm_fgt 2 ?_
    exact J40 h2 i2 f2
set_option maxRecDepth 100000 in
set_option maxHeartbeats 4000000 in
theorem c_X8_truth (l : Launch) (hl : l.stackTraces = false) (d : Nat) (hd : 0 ≤ d) (h : mH) (i0 : mm_inv h) (p0 : Int) (bp0 : 0 ≤ p0 ∧ p0 ≤ 1) : mm_Met l d yX8_truth cX8_truth 1 (some .int) [mI p0] h (mm_pi fun r h2 => h2 = h ∧ ((p0 = 0 ∧ r = 0) ∨ (p0 ≠ 0 ∧ r = 1))) mm_nx 0 0 := by
  refine mm_ofW (ls := [mI p0]) hl (by decide) rfl (Nat.le_of_ble_eq_true rfl) ?_
  intro x hxl C T hnm htb
  subst hxl
  refine mm_rng (fun hr _ => ?_)
  have ap0 : -2147483648 ≤ p0 ∧ p0 < 2147483648 := mm_ok_at hr (i := 0) rfl
  have f0 : mm_fr [] [] h h := mm_fr_rf
  refine mm_iload_n C (mm_dec dk_X8_truth 0 rfl) rfl ?_
  refine mm_if_eq (tgt := 8) C (mm_dec dk_X8_truth 1 rfl) (by decide) (fun c1 => ?_) (fun c1 => ?_)
  · skip
    refine mm_iconst C (mm_dec dk_X8_truth 4 rfl) ⟨by decide, by decide⟩ ?_
    exact mm_iret C T (mm_dec dk_X8_truth 5 rfl) (by decide : 0 ≤ 0) (by decide : 0 ≤ 0) ⟨_, rfl, ⟨rfl, Or.inl ⟨by omega, rfl⟩⟩⟩
  · skip
    refine mm_iconst C (mm_dec dk_X8_truth 2 rfl) ⟨by decide, by decide⟩ ?_
    refine mm_goto (tgt := 9) C (mm_dec dk_X8_truth 3 rfl) (by decide) ?_
    exact mm_iret C T (mm_dec dk_X8_truth 5 rfl) (by decide : 0 ≤ 0) (by decide : 0 ≤ 0) ⟨_, rfl, ⟨rfl, Or.inr (⟨by omega, rfl⟩)⟩⟩
set_option maxRecDepth 100000 in
set_option maxHeartbeats 4000000 in
theorem c_X8_push (l : Launch) (hl : l.stackTraces = false) (d : Nat) (hd : 0 ≤ d) (h : mH) (i0 : mm_inv h) (p1 : Int) : mm_Met l d yX8_push cX8_push 2 none [mR 42, mI p1] h (mm_pv fun h2 => mm_inv h2 ∧ mm_fr [(42, 4)] [45] h h2) mm_nx 0 0 := by
  refine mm_ofW (ls := [mR 42, mI p1]) hl (by decide) rfl (Nat.le_of_ble_eq_true rfl) ?_
  intro x hxl C T hnm htb
  subst hxl
  refine mm_rng (fun hr _ => ?_)
  have ap1 : -2147483648 ≤ p1 ∧ p1 < 2147483648 := mm_ok_at hr (i := 1) rfl
  have f0 : mm_fr [(42, 4)] [45] h h := mm_fr_rf
  refine mm_aload_n C (mm_dec dk_X8_push 0 rfl) rfl ?_
  refine mm_geti C fl_X8_25 (mm_dec dk_X8_push 1 rfl) rfl rfl (Or.inl rfl) ?_
  have g1 : 0 ≤ (h.1 42 4) ∧ (h.1 42 4) ≤ 64 := i0.1 42 4
  refine mm_bipush C (mm_dec dk_X8_push 2 rfl) ⟨by decide, by decide⟩ ?_
  have J29 : ∀ (h29_ : mH) (i29_ : mm_inv h29_) (f29_ : mm_fr [(42, 4)] [45] h h29_), mm_W x 0 0 29 [mU, mU] [] h29_ := by
    intro h29_ i29_ f29_
    exact mm_vret C T (mm_dec dk_X8_push 16 rfl) (by decide : 0 ≤ 0) (by decide : 0 ≤ 0) ⟨rfl, ⟨i29_, f29_⟩⟩
  refine mm_icmp_ge (tgt := 29) C (mm_dec dk_X8_push 3 rfl) (by decide) (fun c6 => ?_) (fun c6 => ?_)
  · skip
    refine mm_fgt 0 ?_
    refine mm_fgt 1 ?_
    exact J29 h i0 f0
  · skip
    refine mm_aload_n C (mm_dec dk_X8_push 4 rfl) rfl ?_
    refine mm_getr (t := 45) C fl_X8_18 (mm_dec dk_X8_push 5 rfl) rfl rfl (mm_ref i0 rfl) ?_
    refine mm_aload_n C (mm_dec dk_X8_push 6 rfl) rfl ?_
    refine mm_geti C fl_X8_25 (mm_dec dk_X8_push 7 rfl) rfl rfl (Or.inl rfl) ?_
    refine mm_iload_n C (mm_dec dk_X8_push 8 rfl) rfl ?_
    refine mm_iast C (mm_dec dk_X8_push 9 rfl) rfl (by omega) (by omega) ?_
    have i1 : mm_inv (mm_pa h 45 (h.1 42 4) p1) := mm_inv_pa i0 (show -2147483648 ≤ p1 ∧ p1 ≤ 2147483647 from ⟨by omega, by omega⟩)
    have f1 : mm_fr [(42, 4)] [45] h (mm_pa h 45 (h.1 42 4) p1) := mm_fr_pa f0 (by decide)
    obtain ⟨h1, eh1⟩ : ∃ z, z = mm_pa h 45 (h.1 42 4) p1 := ⟨_, rfl⟩
    rw [← eh1] at i1 f1 ⊢
    have qh1_2 : h1.1 42 4 = h.1 42 4 := by rw [eh1]; rfl
    refine mm_aload_n C (mm_dec dk_X8_push 10 rfl) rfl ?_
    refine mm_dup C (mm_dec dk_X8_push 11 rfl) (show (2 : Nat) ≠ 1 by decide) ?_
    refine mm_geti C fl_X8_25 (mm_dec dk_X8_push 12 rfl) rfl rfl (Or.inl rfl) ?_
    refine mm_iconst C (mm_dec dk_X8_push 13 rfl) ⟨by decide, by decide⟩ ?_
    refine mm_iadd C (mm_dec dk_X8_push 14 rfl) ⟨by omega, by omega⟩ ?_
    refine mm_puti C fl_X8_25 (mm_dec dk_X8_push 15 rfl) rfl rfl rfl (Or.inl ⟨rfl, rfl⟩) ?_
    have i2 : mm_inv (mm_pf h1 42 4 ((h1.1 42 4) + 1)) := mm_inv_pf i1 (show 0 ≤ ((h1.1 42 4) + 1) ∧ ((h1.1 42 4) + 1) ≤ 64 from ⟨by omega, by omega⟩) (by decide)
    have f2 : mm_fr [(42, 4)] [45] h (mm_pf h1 42 4 ((h1.1 42 4) + 1)) := mm_fr_pf f1 (by decide)
    obtain ⟨h2, eh2⟩ : ∃ z, z = mm_pf h1 42 4 ((h1.1 42 4) + 1) := ⟨_, rfl⟩
    rw [← eh2] at i2 f2 ⊢
    have qh2 : h2.1 42 4 = ((h1.1 42 4) + 1) := by rw [eh2]; exact mm_pf_same _ _ _ _
    refine mm_fgt 0 ?_
    refine mm_fgt 1 ?_
    exact J29 h2 i2 f2
set_option maxRecDepth 100000 in
set_option maxHeartbeats 4000000 in
theorem c_X8_pop (l : Launch) (hl : l.stackTraces = false) (d : Nat) (hd : 0 ≤ d) (h : mH) (i0 : mm_inv h) : mm_Met l d yX8_pop cX8_pop 1 (some .int) [mR 42] h (mm_pi fun r h2 => (-2147483648 ≤ r ∧ r ≤ 2147483647) ∧ mm_inv h2 ∧ mm_fr [(42, 4)] [] h h2) mm_nx 0 0 := by
  refine mm_ofW (ls := [mR 42]) hl (by decide) rfl (Nat.le_of_ble_eq_true rfl) ?_
  intro x hxl C T hnm htb
  subst hxl
  have f0 : mm_fr [(42, 4)] [] h h := mm_fr_rf
  refine mm_aload_n C (mm_dec dk_X8_pop 0 rfl) rfl ?_
  refine mm_geti C fl_X8_25 (mm_dec dk_X8_pop 1 rfl) rfl rfl (Or.inl rfl) ?_
  have g1 : 0 ≤ (h.1 42 4) ∧ (h.1 42 4) ≤ 64 := i0.1 42 4
  refine mm_if_ne (tgt := 9) C (mm_dec dk_X8_pop 2 rfl) (by decide) (fun c4 => ?_) (fun c4 => ?_)
  · skip
    refine mm_aload_n C (mm_dec dk_X8_pop 5 rfl) rfl ?_
    refine mm_dup C (mm_dec dk_X8_pop 6 rfl) (show (2 : Nat) ≠ 1 by decide) ?_
    refine mm_geti C fl_X8_25 (mm_dec dk_X8_pop 7 rfl) rfl rfl (Or.inl rfl) ?_
    refine mm_iconst C (mm_dec dk_X8_pop 8 rfl) ⟨by decide, by decide⟩ ?_
    refine mm_isub C (mm_dec dk_X8_pop 9 rfl) ⟨by omega, by omega⟩ ?_
    refine mm_puti C fl_X8_25 (mm_dec dk_X8_pop 10 rfl) rfl rfl rfl (Or.inl ⟨rfl, rfl⟩) ?_
    have i1 : mm_inv (mm_pf h 42 4 ((h.1 42 4) - 1)) := mm_inv_pf i0 (show 0 ≤ ((h.1 42 4) - 1) ∧ ((h.1 42 4) - 1) ≤ 64 from ⟨by omega, by omega⟩) (by decide)
    have f1 : mm_fr [(42, 4)] [] h (mm_pf h 42 4 ((h.1 42 4) - 1)) := mm_fr_pf f0 (by decide)
    obtain ⟨h1, eh1⟩ : ∃ z, z = mm_pf h 42 4 ((h.1 42 4) - 1) := ⟨_, rfl⟩
    rw [← eh1] at i1 f1 ⊢
    have qh1 : h1.1 42 4 = ((h.1 42 4) - 1) := by rw [eh1]; exact mm_pf_same _ _ _ _
    refine mm_aload_n C (mm_dec dk_X8_pop 11 rfl) rfl ?_
    refine mm_getr (t := 45) C fl_X8_18 (mm_dec dk_X8_pop 12 rfl) rfl rfl (mm_ref i1 rfl) ?_
    refine mm_aload_n C (mm_dec dk_X8_pop 13 rfl) rfl ?_
    refine mm_geti C fl_X8_25 (mm_dec dk_X8_pop 14 rfl) rfl rfl (Or.inl rfl) ?_
    refine mm_iald C (mm_dec dk_X8_pop 15 rfl) rfl (by omega) (by omega) ?_
    have g2 : -2147483648 ≤ (h1.2.1 45 (h1.1 42 4)) ∧ (h1.2.1 45 (h1.1 42 4)) ≤ 2147483647 := i1.2.1 45 (h1.1 42 4)
    exact mm_iret C T (mm_dec dk_X8_pop 16 rfl) (by decide : 0 ≤ 0) (by decide : 0 ≤ 0) ⟨_, rfl, ⟨⟨by omega, by omega⟩, i1, f1⟩⟩
  · skip
    refine mm_iconst C (mm_dec dk_X8_pop 3 rfl) ⟨by decide, by decide⟩ ?_
    exact mm_iret C T (mm_dec dk_X8_pop 4 rfl) (by decide : 0 ≤ 0) (by decide : 0 ≤ 0) ⟨_, rfl, ⟨⟨by omega, by omega⟩, i0, f0⟩⟩
set_option maxRecDepth 100000 in
set_option maxHeartbeats 4000000 in
theorem c_X9_clear (l : Launch) (hl : l.stackTraces = false) (d : Nat) (hd : 0 ≤ d) (h : mH) (i0 : mm_inv h) : mm_Met l d yX9_clear cX9_clear 1 none [mR 22] h (mm_pv fun h2 => mm_inv h2 ∧ mm_fr [(22, 8), (22, 9)] [] h h2) mm_nx 0 0 := by
  refine mm_ofW (ls := [mR 22]) hl (by decide) rfl (Nat.le_of_ble_eq_true rfl) ?_
  intro x hxl C T hnm htb
  subst hxl
  have f0 : mm_fr [(22, 8), (22, 9)] [] h h := mm_fr_rf
  refine mm_aload_n C (mm_dec dk_X9_clear 0 rfl) rfl ?_
  refine mm_iconst C (mm_dec dk_X9_clear 1 rfl) ⟨by decide, by decide⟩ ?_
  refine mm_puti C fl_X9_34 (mm_dec dk_X9_clear 2 rfl) rfl rfl rfl (Or.inl ⟨rfl, rfl⟩) ?_
  have i1 : mm_inv (mm_pf h 22 8 0) := mm_inv_pf i0 (show 0 ≤ 0 ∧ 0 ≤ 40 from ⟨by omega, by omega⟩) (by decide)
  have f1 : mm_fr [(22, 8), (22, 9)] [] h (mm_pf h 22 8 0) := mm_fr_pf f0 (by decide)
  obtain ⟨h1, eh1⟩ : ∃ z, z = mm_pf h 22 8 0 := ⟨_, rfl⟩
  rw [← eh1] at i1 f1 ⊢
  have qh1 : h1.1 22 8 = 0 := by rw [eh1]; exact mm_pf_same _ _ _ _
  refine mm_aload_n C (mm_dec dk_X9_clear 3 rfl) rfl ?_
  refine mm_iconst C (mm_dec dk_X9_clear 4 rfl) ⟨by decide, by decide⟩ ?_
  refine mm_puti C fl_X9_38 (mm_dec dk_X9_clear 5 rfl) rfl rfl rfl (Or.inl ⟨rfl, rfl⟩) ?_
  have i2 : mm_inv (mm_pf h1 22 9 0) := mm_inv_pf i1 (show 0 ≤ 0 ∧ 0 ≤ 10 from ⟨by omega, by omega⟩) (by decide)
  have f2 : mm_fr [(22, 8), (22, 9)] [] h (mm_pf h1 22 9 0) := mm_fr_pf f1 (by decide)
  obtain ⟨h2, eh2⟩ : ∃ z, z = mm_pf h1 22 9 0 := ⟨_, rfl⟩
  rw [← eh2] at i2 f2 ⊢
  have qh2 : h2.1 22 9 = 0 := by rw [eh2]; exact mm_pf_same _ _ _ _
  have qh2_1 : h2.1 22 8 = h1.1 22 8 := by rw [eh2]; exact mm_pf_ne _ _ (by decide)
  exact mm_vret C T (mm_dec dk_X9_clear 6 rfl) (by decide : 0 ≤ 0) (by decide : 0 ≤ 0) ⟨rfl, ⟨i2, f2⟩⟩
set_option maxRecDepth 100000 in
set_option maxHeartbeats 4000000 in
theorem c_X9_size (l : Launch) (hl : l.stackTraces = false) (d : Nat) (hd : 0 ≤ d) (h : mH) (i0 : mm_inv h) : mm_Met l d yX9_size cX9_size 1 (some .int) [mR 22] h (mm_pi fun r h2 => h2 = h ∧ (r = (h.1 22 8))) mm_nx 0 0 := by
  refine mm_ofW (ls := [mR 22]) hl (by decide) rfl (Nat.le_of_ble_eq_true rfl) ?_
  intro x hxl C T hnm htb
  subst hxl
  have f0 : mm_fr [] [] h h := mm_fr_rf
  refine mm_aload_n C (mm_dec dk_X9_size 0 rfl) rfl ?_
  refine mm_geti C fl_X9_34 (mm_dec dk_X9_size 1 rfl) rfl rfl (Or.inl rfl) ?_
  have g1 : 0 ≤ (h.1 22 8) ∧ (h.1 22 8) ≤ 40 := i0.1 22 8
  exact mm_iret C T (mm_dec dk_X9_size 2 rfl) (by decide : 0 ≤ 0) (by decide : 0 ≤ 0) ⟨_, rfl, ⟨rfl, rfl⟩⟩
set_option maxRecDepth 100000 in
set_option maxHeartbeats 4000000 in
theorem c_X9_teams (l : Launch) (hl : l.stackTraces = false) (d : Nat) (hd : 0 ≤ d) (h : mH) (i0 : mm_inv h) : mm_Met l d yX9_teams cX9_teams 1 (some .int) [mR 22] h (mm_pi fun r h2 => h2 = h ∧ (r = (h.1 22 9))) mm_nx 0 0 := by
  refine mm_ofW (ls := [mR 22]) hl (by decide) rfl (Nat.le_of_ble_eq_true rfl) ?_
  intro x hxl C T hnm htb
  subst hxl
  have f0 : mm_fr [] [] h h := mm_fr_rf
  refine mm_aload_n C (mm_dec dk_X9_teams 0 rfl) rfl ?_
  refine mm_geti C fl_X9_38 (mm_dec dk_X9_teams 1 rfl) rfl rfl (Or.inl rfl) ?_
  have g1 : 0 ≤ (h.1 22 9) ∧ (h.1 22 9) ≤ 10 := i0.1 22 9
  exact mm_iret C T (mm_dec dk_X9_teams 2 rfl) (by decide : 0 ≤ 0) (by decide : 0 ≤ 0) ⟨_, rfl, ⟨rfl, rfl⟩⟩
set_option maxRecDepth 100000 in
set_option maxHeartbeats 4000000 in
theorem c_X9_enter (l : Launch) (hl : l.stackTraces = false) (d : Nat) (hd : 1 ≤ d) (h : mH) (i0 : mm_inv h) (p1 : Int) (p2 : Int) (p3 : Int) (bp1 : 0 ≤ p1 ∧ p1 ≤ 7) (bp2 : 0 ≤ p2 ∧ p2 ≤ 9) (bp3 : 0 ≤ p3 ∧ p3 ≤ 80) (u0 : (h.1 22 8) ≤ 39) : mm_Met l d yX9_enter cX9_enter 4 (some .int) [mR 22, mI p1, mI p2, mI p3] h (mm_pi fun r h2 => (0 ≤ r ∧ r ≤ 39) ∧ mm_inv h2 ∧ mm_fr [(22, 8)] [18, 23, 24, 25, 26, 27, 28] h h2) mm_nx 0 0 := by
  refine mm_ofW (ls := [mR 22, mI p1, mI p2, mI p3]) hl (by decide) rfl (Nat.le_of_ble_eq_true rfl) ?_
  intro x hxl C T hnm htb
  subst hxl
  have C1 := mm_OK_le (d' := d - 1 + 1) (by omega) C
  refine mm_rng (fun hr _ => ?_)
  have ap1 : -2147483648 ≤ p1 ∧ p1 < 2147483648 := mm_ok_at hr (i := 1) rfl
  have ap2 : -2147483648 ≤ p2 ∧ p2 < 2147483648 := mm_ok_at hr (i := 2) rfl
  have ap3 : -2147483648 ≤ p3 ∧ p3 < 2147483648 := mm_ok_at hr (i := 3) rfl
  have f0 : mm_fr [(22, 8)] [18, 23, 24, 25, 26, 27, 28] h h := mm_fr_rf
  refine mm_aload_n C (mm_dec dk_X9_enter 0 rfl) rfl ?_
  refine mm_getr (t := 23) C fl_X9_9 (mm_dec dk_X9_enter 1 rfl) rfl rfl (mm_ref i0 rfl) ?_
  refine mm_aload_n C (mm_dec dk_X9_enter 2 rfl) rfl ?_
  refine mm_geti C fl_X9_34 (mm_dec dk_X9_enter 3 rfl) rfl rfl (Or.inl rfl) ?_
  have g1 : 0 ≤ (h.1 22 8) ∧ (h.1 22 8) ≤ 40 := i0.1 22 8
  refine mm_iload_n C (mm_dec dk_X9_enter 4 rfl) rfl ?_
  refine mm_iast C (mm_dec dk_X9_enter 5 rfl) rfl (by omega) (by omega) ?_
  have i1 : mm_inv (mm_pa h 23 (h.1 22 8) p1) := mm_inv_pa i0 (show 0 ≤ p1 ∧ p1 ≤ 7 from ⟨by omega, by omega⟩)
  have f1 : mm_fr [(22, 8)] [18, 23, 24, 25, 26, 27, 28] h (mm_pa h 23 (h.1 22 8) p1) := mm_fr_pa f0 (by decide)
  obtain ⟨h1, eh1⟩ : ∃ z, z = mm_pa h 23 (h.1 22 8) p1 := ⟨_, rfl⟩
  rw [← eh1] at i1 f1 ⊢
  have qh1_2 : h1.1 22 8 = h.1 22 8 := by rw [eh1]; rfl
  refine mm_aload_n C (mm_dec dk_X9_enter 6 rfl) rfl ?_
  refine mm_getr (t := 24) C fl_X9_15 (mm_dec dk_X9_enter 7 rfl) rfl rfl (mm_ref i1 rfl) ?_
  refine mm_aload_n C (mm_dec dk_X9_enter 8 rfl) rfl ?_
  refine mm_geti C fl_X9_34 (mm_dec dk_X9_enter 9 rfl) rfl rfl (Or.inl rfl) ?_
  refine mm_iload_n C (mm_dec dk_X9_enter 10 rfl) rfl ?_
  refine mm_iast C (mm_dec dk_X9_enter 11 rfl) rfl (by omega) (by omega) ?_
  have i2 : mm_inv (mm_pa h1 24 (h1.1 22 8) p2) := mm_inv_pa i1 (show 0 ≤ p2 ∧ p2 ≤ 9 from ⟨by omega, by omega⟩)
  have f2 : mm_fr [(22, 8)] [18, 23, 24, 25, 26, 27, 28] h (mm_pa h1 24 (h1.1 22 8) p2) := mm_fr_pa f1 (by decide)
  obtain ⟨h2, eh2⟩ : ∃ z, z = mm_pa h1 24 (h1.1 22 8) p2 := ⟨_, rfl⟩
  rw [← eh2] at i2 f2 ⊢
  have qh2_3 : h2.1 22 8 = h1.1 22 8 := by rw [eh2]; rfl
  refine mm_aload_n C (mm_dec dk_X9_enter 12 rfl) rfl ?_
  refine mm_getr (t := 25) C fl_X9_18 (mm_dec dk_X9_enter 13 rfl) rfl rfl (mm_ref i2 rfl) ?_
  refine mm_aload_n C (mm_dec dk_X9_enter 14 rfl) rfl ?_
  refine mm_geti C fl_X9_34 (mm_dec dk_X9_enter 15 rfl) rfl rfl (Or.inl rfl) ?_
  refine mm_iload_n C (mm_dec dk_X9_enter 16 rfl) rfl ?_
  refine mm_iast C (mm_dec dk_X9_enter 17 rfl) rfl (by omega) (by omega) ?_
  have i3 : mm_inv (mm_pa h2 25 (h2.1 22 8) p3) := mm_inv_pa i2 (show 0 ≤ p3 ∧ p3 ≤ 80 from ⟨by omega, by omega⟩)
  have f3 : mm_fr [(22, 8)] [18, 23, 24, 25, 26, 27, 28] h (mm_pa h2 25 (h2.1 22 8) p3) := mm_fr_pa f2 (by decide)
  obtain ⟨h3, eh3⟩ : ∃ z, z = mm_pa h2 25 (h2.1 22 8) p3 := ⟨_, rfl⟩
  rw [← eh3] at i3 f3 ⊢
  have qh3_4 : h3.1 22 8 = h2.1 22 8 := by rw [eh3]; rfl
  refine mm_aload_n C (mm_dec dk_X9_enter 18 rfl) rfl ?_
  refine mm_getr (t := 26) C fl_X9_21 (mm_dec dk_X9_enter 19 rfl) rfl rfl (mm_ref i3 rfl) ?_
  refine mm_aload_n C (mm_dec dk_X9_enter 20 rfl) rfl ?_
  refine mm_geti C fl_X9_34 (mm_dec dk_X9_enter 21 rfl) rfl rfl (Or.inl rfl) ?_
  refine mm_iconst C (mm_dec dk_X9_enter 22 rfl) ⟨by decide, by decide⟩ ?_
  refine mm_iast C (mm_dec dk_X9_enter 23 rfl) rfl (by omega) (by omega) ?_
  have i4 : mm_inv (mm_pa h3 26 (h3.1 22 8) (-1)) := mm_inv_pa i3 (show -2147483648 ≤ (-1) ∧ (-1) ≤ 2147483647 from ⟨by omega, by omega⟩)
  have f4 : mm_fr [(22, 8)] [18, 23, 24, 25, 26, 27, 28] h (mm_pa h3 26 (h3.1 22 8) (-1)) := mm_fr_pa f3 (by decide)
  obtain ⟨h4, eh4⟩ : ∃ z, z = mm_pa h3 26 (h3.1 22 8) (-1) := ⟨_, rfl⟩
  rw [← eh4] at i4 f4 ⊢
  have qh4_5 : h4.1 22 8 = h3.1 22 8 := by rw [eh4]; rfl
  refine mm_aload_n C (mm_dec dk_X9_enter 24 rfl) rfl ?_
  refine mm_getr (t := 27) C fl_X9_24 (mm_dec dk_X9_enter 25 rfl) rfl rfl (mm_ref i4 rfl) ?_
  refine mm_aload_n C (mm_dec dk_X9_enter 26 rfl) rfl ?_
  refine mm_geti C fl_X9_34 (mm_dec dk_X9_enter 27 rfl) rfl rfl (Or.inl rfl) ?_
  refine mm_iconst C (mm_dec dk_X9_enter 28 rfl) ⟨by decide, by decide⟩ ?_
  refine mm_iast C (mm_dec dk_X9_enter 29 rfl) rfl (by omega) (by omega) ?_
  have i5 : mm_inv (mm_pa h4 27 (h4.1 22 8) (-1)) := mm_inv_pa i4 (show -1 ≤ (-1) ∧ (-1) ≤ 39 from ⟨by omega, by omega⟩)
  have f5 : mm_fr [(22, 8)] [18, 23, 24, 25, 26, 27, 28] h (mm_pa h4 27 (h4.1 22 8) (-1)) := mm_fr_pa f4 (by decide)
  obtain ⟨h5, eh5⟩ : ∃ z, z = mm_pa h4 27 (h4.1 22 8) (-1) := ⟨_, rfl⟩
  rw [← eh5] at i5 f5 ⊢
  have qh5_6 : h5.1 22 8 = h4.1 22 8 := by rw [eh5]; rfl
  refine mm_aload_n C (mm_dec dk_X9_enter 30 rfl) rfl ?_
  refine mm_getr (t := 28) C fl_X9_27 (mm_dec dk_X9_enter 31 rfl) rfl rfl (mm_ref i5 rfl) ?_
  refine mm_aload_n C (mm_dec dk_X9_enter 32 rfl) rfl ?_
  refine mm_geti C fl_X9_34 (mm_dec dk_X9_enter 33 rfl) rfl rfl (Or.inl rfl) ?_
  refine mm_iconst C (mm_dec dk_X9_enter 34 rfl) ⟨by decide, by decide⟩ ?_
  refine mm_zast C (mm_dec dk_X9_enter 35 rfl) rfl (by omega) (by omega) (by omega) ?_
  have i6 : mm_inv (mm_pa h5 28 (h5.1 22 8) 0) := mm_inv_pa i5 (show 0 ≤ 0 ∧ 0 ≤ 1 from ⟨by omega, by omega⟩)
  have f6 : mm_fr [(22, 8)] [18, 23, 24, 25, 26, 27, 28] h (mm_pa h5 28 (h5.1 22 8) 0) := mm_fr_pa f5 (by decide)
  obtain ⟨h6, eh6⟩ : ∃ z, z = mm_pa h5 28 (h5.1 22 8) 0 := ⟨_, rfl⟩
  rw [← eh6] at i6 f6 ⊢
  have qh6_7 : h6.1 22 8 = h5.1 22 8 := by rw [eh6]; rfl
  refine mm_aload_n C (mm_dec dk_X9_enter 36 rfl) rfl ?_
  refine mm_getr (t := 14) C fl_X9_41 (mm_dec dk_X9_enter 37 rfl) rfl rfl (mm_ref i6 rfl) ?_
  refine mm_iload_n C (mm_dec dk_X9_enter 38 rfl) rfl ?_
  refine mm_cVv (rest := []) C1 ev_X9_45 (mm_dec dk_X9_enter 39 rfl) (c_X2_take x.2.1 hl (d - 1) (by omega) h6 i6 p1 ⟨by omega, by omega⟩) rfl rfl (Nat.le_of_ble_eq_true rfl) ⟨by decide, by decide⟩ rfl (fun h65c hp65 => ?_) (fun _ _ q => q.elim)
  obtain ⟨i65c, g65c⟩ := hp65
  have f65c : mm_fr [(22, 8)] [18, 23, 24, 25, 26, 27, 28] h h65c := mm_fr_tr f6 g65c (by decide +kernel)
  have q65c_9 : h65c.1 22 8 = h6.1 22 8 := g65c.1 22 8 (by decide)
  refine mm_aload_n C (mm_dec dk_X9_enter 40 rfl) rfl ?_
  refine mm_dup C (mm_dec dk_X9_enter 41 rfl) (show (2 : Nat) ≠ 1 by decide) ?_
  refine mm_geti C fl_X9_34 (mm_dec dk_X9_enter 42 rfl) rfl rfl (Or.inl rfl) ?_
  refine mm_iconst C (mm_dec dk_X9_enter 43 rfl) ⟨by decide, by decide⟩ ?_
  refine mm_iadd C (mm_dec dk_X9_enter 44 rfl) ⟨by omega, by omega⟩ ?_
  refine mm_puti C fl_X9_34 (mm_dec dk_X9_enter 45 rfl) rfl rfl rfl (Or.inl ⟨rfl, rfl⟩) ?_
  have i8 : mm_inv (mm_pf h65c 22 8 ((h65c.1 22 8) + 1)) := mm_inv_pf i65c (show 0 ≤ ((h65c.1 22 8) + 1) ∧ ((h65c.1 22 8) + 1) ≤ 40 from ⟨by omega, by omega⟩) (by decide)
  have f8 : mm_fr [(22, 8)] [18, 23, 24, 25, 26, 27, 28] h (mm_pf h65c 22 8 ((h65c.1 22 8) + 1)) := mm_fr_pf f65c (by decide)
  obtain ⟨h8, eh8⟩ : ∃ z, z = mm_pf h65c 22 8 ((h65c.1 22 8) + 1) := ⟨_, rfl⟩
  rw [← eh8] at i8 f8 ⊢
  have qh8 : h8.1 22 8 = ((h65c.1 22 8) + 1) := by rw [eh8]; exact mm_pf_same _ _ _ _
  refine mm_aload_n C (mm_dec dk_X9_enter 46 rfl) rfl ?_
  refine mm_geti C fl_X9_34 (mm_dec dk_X9_enter 47 rfl) rfl rfl (Or.inl rfl) ?_
  refine mm_iconst C (mm_dec dk_X9_enter 48 rfl) ⟨by decide, by decide⟩ ?_
  refine mm_isub C (mm_dec dk_X9_enter 49 rfl) ⟨by omega, by omega⟩ ?_
  exact mm_iret C T (mm_dec dk_X9_enter 50 rfl) (by decide : 0 ≤ 0) (by decide : 0 ≤ 0) ⟨_, rfl, ⟨⟨by omega, by omega⟩, i8, f8⟩⟩
set_option maxRecDepth 100000 in
set_option maxHeartbeats 4000000 in
theorem c_X9_courseOf (l : Launch) (hl : l.stackTraces = false) (d : Nat) (hd : 0 ≤ d) (h : mH) (i0 : mm_inv h) (p1 : Int) (bp1 : 0 ≤ p1 ∧ p1 ≤ 39) : mm_Met l d yX9_courseOf cX9_courseOf 2 (some .int) [mR 22, mI p1] h (mm_pi fun r h2 => h2 = h ∧ (r = (h.2.1 23 p1))) mm_nx 0 0 := by
  refine mm_ofW (ls := [mR 22, mI p1]) hl (by decide) rfl (Nat.le_of_ble_eq_true rfl) ?_
  intro x hxl C T hnm htb
  subst hxl
  refine mm_rng (fun hr _ => ?_)
  have ap1 : -2147483648 ≤ p1 ∧ p1 < 2147483648 := mm_ok_at hr (i := 1) rfl
  have f0 : mm_fr [] [] h h := mm_fr_rf
  refine mm_aload_n C (mm_dec dk_X9_courseOf 0 rfl) rfl ?_
  refine mm_getr (t := 23) C fl_X9_9 (mm_dec dk_X9_courseOf 1 rfl) rfl rfl (mm_ref i0 rfl) ?_
  refine mm_iload_n C (mm_dec dk_X9_courseOf 2 rfl) rfl ?_
  refine mm_iald C (mm_dec dk_X9_courseOf 3 rfl) rfl (by omega) (by omega) ?_
  have g1 : 0 ≤ (h.2.1 23 p1) ∧ (h.2.1 23 p1) ≤ 7 := i0.2.1 23 p1
  exact mm_iret C T (mm_dec dk_X9_courseOf 4 rfl) (by decide : 0 ≤ 0) (by decide : 0 ≤ 0) ⟨_, rfl, ⟨rfl, rfl⟩⟩
set_option maxRecDepth 100000 in
set_option maxHeartbeats 4000000 in
theorem c_X9_clubOf (l : Launch) (hl : l.stackTraces = false) (d : Nat) (hd : 0 ≤ d) (h : mH) (i0 : mm_inv h) (p1 : Int) (bp1 : 0 ≤ p1 ∧ p1 ≤ 39) : mm_Met l d yX9_clubOf cX9_clubOf 2 (some .int) [mR 22, mI p1] h (mm_pi fun r h2 => h2 = h ∧ (r = (h.2.1 24 p1))) mm_nx 0 0 := by
  refine mm_ofW (ls := [mR 22, mI p1]) hl (by decide) rfl (Nat.le_of_ble_eq_true rfl) ?_
  intro x hxl C T hnm htb
  subst hxl
  refine mm_rng (fun hr _ => ?_)
  have ap1 : -2147483648 ≤ p1 ∧ p1 < 2147483648 := mm_ok_at hr (i := 1) rfl
  have f0 : mm_fr [] [] h h := mm_fr_rf
  refine mm_aload_n C (mm_dec dk_X9_clubOf 0 rfl) rfl ?_
  refine mm_getr (t := 24) C fl_X9_15 (mm_dec dk_X9_clubOf 1 rfl) rfl rfl (mm_ref i0 rfl) ?_
  refine mm_iload_n C (mm_dec dk_X9_clubOf 2 rfl) rfl ?_
  refine mm_iald C (mm_dec dk_X9_clubOf 3 rfl) rfl (by omega) (by omega) ?_
  have g1 : 0 ≤ (h.2.1 24 p1) ∧ (h.2.1 24 p1) ≤ 9 := i0.2.1 24 p1
  exact mm_iret C T (mm_dec dk_X9_clubOf 4 rfl) (by decide : 0 ≤ 0) (by decide : 0 ≤ 0) ⟨_, rfl, ⟨rfl, rfl⟩⟩
set_option maxRecDepth 100000 in
set_option maxHeartbeats 4000000 in
theorem c_X9_runsFree (l : Launch) (hl : l.stackTraces = false) (d : Nat) (hd : 1 ≤ d) (h : mH) (i0 : mm_inv h) (p1 : Int) (bp1 : 0 ≤ p1 ∧ p1 ≤ 39) : mm_Met l d yX9_runsFree cX9_runsFree 2 (some .boolean) [mR 22, mI p1] h (mm_pi fun r h2 => h2 = h ∧ (r = (h.2.1 17 (h.2.1 23 p1)))) mm_nx 0 0 := by
  refine mm_ofW (ls := [mR 22, mI p1]) hl (by decide) rfl (Nat.le_of_ble_eq_true rfl) ?_
  intro x hxl C T hnm htb
  subst hxl
  have C1 := mm_OK_le (d' := d - 1 + 1) (by omega) C
  refine mm_rng (fun hr _ => ?_)
  have ap1 : -2147483648 ≤ p1 ∧ p1 < 2147483648 := mm_ok_at hr (i := 1) rfl
  have f0 : mm_fr [] [] h h := mm_fr_rf
  refine mm_aload_n C (mm_dec dk_X9_runsFree 0 rfl) rfl ?_
  refine mm_getr (t := 14) C fl_X9_41 (mm_dec dk_X9_runsFree 1 rfl) rfl rfl (mm_ref i0 rfl) ?_
  refine mm_aload_n C (mm_dec dk_X9_runsFree 2 rfl) rfl ?_
  refine mm_getr (t := 23) C fl_X9_9 (mm_dec dk_X9_runsFree 3 rfl) rfl rfl (mm_ref i0 rfl) ?_
  refine mm_iload_n C (mm_dec dk_X9_runsFree 4 rfl) rfl ?_
  refine mm_iald C (mm_dec dk_X9_runsFree 5 rfl) rfl (by omega) (by omega) ?_
  have g1 : 0 ≤ (h.2.1 23 p1) ∧ (h.2.1 23 p1) ≤ 7 := i0.2.1 23 p1
  refine mm_cVi (rest := []) C1 ev_X9_51 (mm_dec dk_X9_runsFree 6 rfl) (c_X2_isFree x.2.1 hl (d - 1) (by omega) h i0 (h.2.1 23 p1) ⟨by omega, by omega⟩) rfl rfl (Nat.le_of_ble_eq_true rfl) ⟨by decide, by decide⟩ rfl (fun r10 h10c hp10 => ?_) (fun _ _ q => q.elim)
  obtain ⟨z10, y10⟩ := hp10
  rw [z10, y10]
  have g3 : 0 ≤ (h.2.1 17 (h.2.1 23 p1)) ∧ (h.2.1 17 (h.2.1 23 p1)) ≤ 1 := i0.2.1 17 (h.2.1 23 p1)
  exact mm_zret C T (mm_dec dk_X9_runsFree 7 rfl) (by decide : 0 ≤ 0) (by decide : 0 ≤ 0) (by omega) ⟨_, rfl, ⟨rfl, rfl⟩⟩
set_option maxRecDepth 100000 in
set_option maxHeartbeats 4000000 in
theorem c_X9_rowSize (l : Launch) (hl : l.stackTraces = false) (d : Nat) (hd : 1 ≤ d) (h : mH) (i0 : mm_inv h) (p1 : Int) (bp1 : 0 ≤ p1 ∧ p1 ≤ 39) : mm_Met l d yX9_rowSize cX9_rowSize 2 (some .int) [mR 22, mI p1] h (mm_pi fun r h2 => h2 = h ∧ (r = (h.2.1 19 (h.2.1 23 p1)))) mm_nx 0 0 := by
  refine mm_ofW (ls := [mR 22, mI p1]) hl (by decide) rfl (Nat.le_of_ble_eq_true rfl) ?_
  intro x hxl C T hnm htb
  subst hxl
  have C1 := mm_OK_le (d' := d - 1 + 1) (by omega) C
  refine mm_rng (fun hr _ => ?_)
  have ap1 : -2147483648 ≤ p1 ∧ p1 < 2147483648 := mm_ok_at hr (i := 1) rfl
  have f0 : mm_fr [] [] h h := mm_fr_rf
  refine mm_aload_n C (mm_dec dk_X9_rowSize 0 rfl) rfl ?_
  refine mm_getr (t := 14) C fl_X9_41 (mm_dec dk_X9_rowSize 1 rfl) rfl rfl (mm_ref i0 rfl) ?_
  refine mm_aload_n C (mm_dec dk_X9_rowSize 2 rfl) rfl ?_
  refine mm_getr (t := 23) C fl_X9_9 (mm_dec dk_X9_rowSize 3 rfl) rfl rfl (mm_ref i0 rfl) ?_
  refine mm_iload_n C (mm_dec dk_X9_rowSize 4 rfl) rfl ?_
  refine mm_iald C (mm_dec dk_X9_rowSize 5 rfl) rfl (by omega) (by omega) ?_
  have g1 : 0 ≤ (h.2.1 23 p1) ∧ (h.2.1 23 p1) ≤ 7 := i0.2.1 23 p1
  refine mm_cVi (rest := []) C1 ev_X9_55 (mm_dec dk_X9_rowSize 6 rfl) (c_X2_elements x.2.1 hl (d - 1) (by omega) h i0 (h.2.1 23 p1) ⟨by omega, by omega⟩) rfl rfl (Nat.le_of_ble_eq_true rfl) ⟨by decide, by decide⟩ rfl (fun r10 h10c hp10 => ?_) (fun _ _ q => q.elim)
  obtain ⟨z10, y10⟩ := hp10
  rw [z10, y10]
  have g3 : 0 ≤ (h.2.1 19 (h.2.1 23 p1)) ∧ (h.2.1 19 (h.2.1 23 p1)) ≤ 12 := i0.2.1 19 (h.2.1 23 p1)
  exact mm_iret C T (mm_dec dk_X9_rowSize 7 rfl) (by decide : 0 ≤ 0) (by decide : 0 ≤ 0) ⟨_, rfl, ⟨rfl, rfl⟩⟩
set_option maxRecDepth 100000 in
set_option maxHeartbeats 4000000 in
theorem c_X9_keepTrack (l : Launch) (hl : l.stackTraces = false) (d : Nat) (hd : 0 ≤ d) (h : mH) (i0 : mm_inv h) (p1 : Int) (p2 : Int) (bp1 : 0 ≤ p1 ∧ p1 ≤ 39) : mm_Met l d yX9_keepTrack cX9_keepTrack 3 none [mR 22, mI p1, mI p2] h (mm_pv fun h2 => mm_inv h2 ∧ mm_fr [] [26] h h2) mm_nx 0 0 := by
  refine mm_ofW (ls := [mR 22, mI p1, mI p2]) hl (by decide) rfl (Nat.le_of_ble_eq_true rfl) ?_
  intro x hxl C T hnm htb
  subst hxl
  refine mm_rng (fun hr _ => ?_)
  have ap1 : -2147483648 ≤ p1 ∧ p1 < 2147483648 := mm_ok_at hr (i := 1) rfl
  have ap2 : -2147483648 ≤ p2 ∧ p2 < 2147483648 := mm_ok_at hr (i := 2) rfl
  have f0 : mm_fr [] [26] h h := mm_fr_rf
  refine mm_aload_n C (mm_dec dk_X9_keepTrack 0 rfl) rfl ?_
  refine mm_getr (t := 26) C fl_X9_21 (mm_dec dk_X9_keepTrack 1 rfl) rfl rfl (mm_ref i0 rfl) ?_
  refine mm_iload_n C (mm_dec dk_X9_keepTrack 2 rfl) rfl ?_
  refine mm_iload_n C (mm_dec dk_X9_keepTrack 3 rfl) rfl ?_
  refine mm_iast C (mm_dec dk_X9_keepTrack 4 rfl) rfl (by omega) (by omega) ?_
  have i1 : mm_inv (mm_pa h 26 p1 p2) := mm_inv_pa i0 (show -2147483648 ≤ p2 ∧ p2 ≤ 2147483647 from ⟨by omega, by omega⟩)
  have f1 : mm_fr [] [26] h (mm_pa h 26 p1 p2) := mm_fr_pa f0 (by decide)
  obtain ⟨h1, eh1⟩ : ∃ z, z = mm_pa h 26 p1 p2 := ⟨_, rfl⟩
  rw [← eh1] at i1 f1 ⊢
  exact mm_vret C T (mm_dec dk_X9_keepTrack 5 rfl) (by decide : 0 ≤ 0) (by decide : 0 ≤ 0) ⟨rfl, ⟨i1, f1⟩⟩
set_option maxRecDepth 100000 in
set_option maxHeartbeats 4000000 in
theorem c_X9_trackSeconds (l : Launch) (hl : l.stackTraces = false) (d : Nat) (hd : 0 ≤ d) (h : mH) (i0 : mm_inv h) (p1 : Int) (bp1 : 0 ≤ p1 ∧ p1 ≤ 39) : mm_Met l d yX9_trackSeconds cX9_trackSeconds 2 (some .int) [mR 22, mI p1] h (mm_pi fun r h2 => h2 = h ∧ (r = (h.2.1 26 p1))) mm_nx 0 0 := by
  refine mm_ofW (ls := [mR 22, mI p1]) hl (by decide) rfl (Nat.le_of_ble_eq_true rfl) ?_
  intro x hxl C T hnm htb
  subst hxl
  refine mm_rng (fun hr _ => ?_)
  have ap1 : -2147483648 ≤ p1 ∧ p1 < 2147483648 := mm_ok_at hr (i := 1) rfl
  have f0 : mm_fr [] [] h h := mm_fr_rf
  refine mm_aload_n C (mm_dec dk_X9_trackSeconds 0 rfl) rfl ?_
  refine mm_getr (t := 26) C fl_X9_21 (mm_dec dk_X9_trackSeconds 1 rfl) rfl rfl (mm_ref i0 rfl) ?_
  refine mm_iload_n C (mm_dec dk_X9_trackSeconds 2 rfl) rfl ?_
  refine mm_iald C (mm_dec dk_X9_trackSeconds 3 rfl) rfl (by omega) (by omega) ?_
  have g1 : -2147483648 ≤ (h.2.1 26 p1) ∧ (h.2.1 26 p1) ≤ 2147483647 := i0.2.1 26 p1
  exact mm_iret C T (mm_dec dk_X9_trackSeconds 4 rfl) (by decide : 0 ≤ 0) (by decide : 0 ≤ 0) ⟨_, rfl, ⟨rfl, rfl⟩⟩
set_option maxRecDepth 100000 in
set_option maxHeartbeats 4000000 in
theorem c_X9_aheadOf (l : Launch) (hl : l.stackTraces = false) (d : Nat) (hd : 0 ≤ d) (h : mH) (i0 : mm_inv h) (p1 : Int) (bp1 : 0 ≤ p1 ∧ p1 ≤ 39) : mm_Met l d yX9_aheadOf cX9_aheadOf 2 (some .int) [mR 22, mI p1] h (mm_pi fun r h2 => h2 = h ∧ (r = (h.2.1 27 p1))) mm_nx 0 0 := by
  refine mm_ofW (ls := [mR 22, mI p1]) hl (by decide) rfl (Nat.le_of_ble_eq_true rfl) ?_
  intro x hxl C T hnm htb
  subst hxl
  refine mm_rng (fun hr _ => ?_)
  have ap1 : -2147483648 ≤ p1 ∧ p1 < 2147483648 := mm_ok_at hr (i := 1) rfl
  have f0 : mm_fr [] [] h h := mm_fr_rf
  refine mm_aload_n C (mm_dec dk_X9_aheadOf 0 rfl) rfl ?_
  refine mm_getr (t := 27) C fl_X9_24 (mm_dec dk_X9_aheadOf 1 rfl) rfl rfl (mm_ref i0 rfl) ?_
  refine mm_iload_n C (mm_dec dk_X9_aheadOf 2 rfl) rfl ?_
  refine mm_iald C (mm_dec dk_X9_aheadOf 3 rfl) rfl (by omega) (by omega) ?_
  have g1 : -1 ≤ (h.2.1 27 p1) ∧ (h.2.1 27 p1) ≤ 39 := i0.2.1 27 p1
  exact mm_iret C T (mm_dec dk_X9_aheadOf 4 rfl) (by decide : 0 ≤ 0) (by decide : 0 ≤ 0) ⟨_, rfl, ⟨rfl, rfl⟩⟩
set_option maxRecDepth 100000 in
set_option maxHeartbeats 4000000 in
theorem c_X9_member (l : Launch) (hl : l.stackTraces = false) (d : Nat) (hd : 0 ≤ d) (h : mH) (i0 : mm_inv h) (p1 : Int) (p2 : Int) (bp1 : 0 ≤ p1 ∧ p1 ≤ 9) (bp2 : 0 ≤ p2 ∧ p2 ≤ 2) : mm_Met l d yX9_member cX9_member 3 (some .int) [mR 22, mI p1, mI p2] h (mm_pi fun r h2 => h2 = h ∧ (r = (h.2.1 29 ((p1 * 3) + p2)))) mm_nx 0 0 := by
  refine mm_ofW (ls := [mR 22, mI p1, mI p2]) hl (by decide) rfl (Nat.le_of_ble_eq_true rfl) ?_
  intro x hxl C T hnm htb
  subst hxl
  refine mm_rng (fun hr _ => ?_)
  have ap1 : -2147483648 ≤ p1 ∧ p1 < 2147483648 := mm_ok_at hr (i := 1) rfl
  have ap2 : -2147483648 ≤ p2 ∧ p2 < 2147483648 := mm_ok_at hr (i := 2) rfl
  have f0 : mm_fr [] [] h h := mm_fr_rf
  refine mm_aload_n C (mm_dec dk_X9_member 0 rfl) rfl ?_
  refine mm_getr (t := 29) C fl_X9_31 (mm_dec dk_X9_member 1 rfl) rfl rfl (mm_ref i0 rfl) ?_
  refine mm_iload_n C (mm_dec dk_X9_member 2 rfl) rfl ?_
  refine mm_iconst C (mm_dec dk_X9_member 3 rfl) ⟨by decide, by decide⟩ ?_
  refine mm_imul C (mm_dec dk_X9_member 4 rfl) ⟨by omega, by omega⟩ ?_
  refine mm_iload_n C (mm_dec dk_X9_member 5 rfl) rfl ?_
  refine mm_iadd C (mm_dec dk_X9_member 6 rfl) ⟨by omega, by omega⟩ ?_
  refine mm_iald C (mm_dec dk_X9_member 7 rfl) rfl (by omega) (by omega) ?_
  have g1 : 0 ≤ (h.2.1 29 ((p1 * 3) + p2)) ∧ (h.2.1 29 ((p1 * 3) + p2)) ≤ 39 := i0.2.1 29 ((p1 * 3) + p2)
  exact mm_iret C T (mm_dec dk_X9_member 8 rfl) (by decide : 0 ≤ 0) (by decide : 0 ≤ 0) ⟨_, rfl, ⟨rfl, rfl⟩⟩
set_option maxRecDepth 100000 in
set_option maxHeartbeats 4000000 in
theorem c_X9_courseOfTeam (l : Launch) (hl : l.stackTraces = false) (d : Nat) (hd : 1 ≤ d) (h : mH) (i0 : mm_inv h) (p1 : Int) (bp1 : 0 ≤ p1 ∧ p1 ≤ 9) : mm_Met l d yX9_courseOfTeam cX9_courseOfTeam 2 (some .int) [mR 22, mI p1] h (mm_pi fun r h2 => h2 = h ∧ (r = (h.2.1 23 (h.2.1 29 ((p1 * 3) + 0))))) mm_nx 0 0 := by
  refine mm_ofW (ls := [mR 22, mI p1]) hl (by decide) rfl (Nat.le_of_ble_eq_true rfl) ?_
  intro x hxl C T hnm htb
  subst hxl
  have C1 := mm_OK_le (d' := d - 1 + 1) (by omega) C
  refine mm_rng (fun hr _ => ?_)
  have ap1 : -2147483648 ≤ p1 ∧ p1 < 2147483648 := mm_ok_at hr (i := 1) rfl
  have f0 : mm_fr [] [] h h := mm_fr_rf
  refine mm_aload_n C (mm_dec dk_X9_courseOfTeam 0 rfl) rfl ?_
  refine mm_getr (t := 23) C fl_X9_9 (mm_dec dk_X9_courseOfTeam 1 rfl) rfl rfl (mm_ref i0 rfl) ?_
  refine mm_aload_n C (mm_dec dk_X9_courseOfTeam 2 rfl) rfl ?_
  refine mm_iload_n C (mm_dec dk_X9_courseOfTeam 3 rfl) rfl ?_
  refine mm_iconst C (mm_dec dk_X9_courseOfTeam 4 rfl) ⟨by decide, by decide⟩ ?_
  refine mm_cVi (rest := [mR 23]) C1 ev_X9_63 (mm_dec dk_X9_courseOfTeam 5 rfl) (c_X9_member x.2.1 hl (d - 1) (by omega) h i0 p1 0 ⟨by omega, by omega⟩ ⟨by omega, by omega⟩) rfl rfl (Nat.le_of_ble_eq_true rfl) ⟨by decide, by decide⟩ rfl (fun r7 h7c hp7 => ?_) (fun _ _ q => q.elim)
  obtain ⟨z7, y7⟩ := hp7
  rw [z7, y7]
  have g2 : 0 ≤ (h.2.1 29 ((p1 * 3) + 0)) ∧ (h.2.1 29 ((p1 * 3) + 0)) ≤ 39 := i0.2.1 29 ((p1 * 3) + 0)
  refine mm_iald C (mm_dec dk_X9_courseOfTeam 6 rfl) rfl (by omega) (by omega) ?_
  have g3 : 0 ≤ (h.2.1 23 (h.2.1 29 ((p1 * 3) + 0))) ∧ (h.2.1 23 (h.2.1 29 ((p1 * 3) + 0))) ≤ 7 := i0.2.1 23 (h.2.1 29 ((p1 * 3) + 0))
  exact mm_iret C T (mm_dec dk_X9_courseOfTeam 7 rfl) (by decide : 0 ≤ 0) (by decide : 0 ≤ 0) ⟨_, rfl, ⟨rfl, rfl⟩⟩
set_option maxRecDepth 100000 in
set_option maxHeartbeats 4000000 in
theorem c_X9_canBeTeam (l : Launch) (hl : l.stackTraces = false) (d : Nat) (hd : 2 ≤ d) (h : mH) (i0 : mm_inv h) (p1 : Int) (p2 : Int) (p3 : Int) (bp1 : 0 ≤ p1 ∧ p1 ≤ 39) (bp2 : 0 ≤ p2 ∧ p2 ≤ 39) (bp3 : 0 ≤ p3 ∧ p3 ≤ 39) : mm_Met l d yX9_canBeTeam cX9_canBeTeam 12 (some .boolean) [mR 22, mI p1, mI p2, mI p3] h (mm_pi fun r h2 => (0 ≤ r ∧ r ≤ 1) ∧ h2 = h) mm_nx 0 0 := by
  refine mm_ofW (ls := [mR 22, mI p1, mI p2, mI p3, mU, mU, mU, mU, mU, mU, mU, mU]) hl (by decide) rfl (Nat.le_of_ble_eq_true rfl) ?_
  intro x hxl C T hnm htb
  subst hxl
  have C1 := mm_OK_le (d' := d - 1 + 1) (by omega) C
  refine mm_rng (fun hr _ => ?_)
  have ap1 : -2147483648 ≤ p1 ∧ p1 < 2147483648 := mm_ok_at hr (i := 1) rfl
  have ap2 : -2147483648 ≤ p2 ∧ p2 < 2147483648 := mm_ok_at hr (i := 2) rfl
  have ap3 : -2147483648 ≤ p3 ∧ p3 < 2147483648 := mm_ok_at hr (i := 3) rfl
  have f0 : mm_fr [] [] h h := mm_fr_rf
  refine mm_iload_n C (mm_dec dk_X9_canBeTeam 0 rfl) rfl ?_
  refine mm_iload_n C (mm_dec dk_X9_canBeTeam 1 rfl) rfl ?_
  have J42 : mm_W x 0 0 42 [mU, mU, mU, mU, mU, mU, mU, mU, mU, mU, mU, mU] [] h := by
    refine mm_iconst C (mm_dec dk_X9_canBeTeam 24 rfl) ⟨by decide, by decide⟩ ?_
    exact mm_zret C T (mm_dec dk_X9_canBeTeam 25 rfl) (by decide : 0 ≤ 0) (by decide : 0 ≤ 0) (by omega) ⟨_, rfl, ⟨⟨by omega, by omega⟩, rfl⟩⟩
  refine mm_icmp_eq (tgt := 42) C (mm_dec dk_X9_canBeTeam 2 rfl) (by decide) (fun c2 => ?_) (fun c2 => ?_)
  · skip
    refine mm_fgt 0 ?_
    refine mm_fgt 1 ?_
    refine mm_fgt 2 ?_
    refine mm_fgt 3 ?_
    exact J42
  · skip
    refine mm_iload_n C (mm_dec dk_X9_canBeTeam 3 rfl) rfl ?_
    refine mm_iload_n C (mm_dec dk_X9_canBeTeam 4 rfl) rfl ?_
    refine mm_icmp_eq (tgt := 42) C (mm_dec dk_X9_canBeTeam 5 rfl) (by decide) (fun c7 => ?_) (fun c7 => ?_)
    · skip
      refine mm_fgt 0 ?_
      refine mm_fgt 1 ?_
      refine mm_fgt 2 ?_
      refine mm_fgt 3 ?_
      exact J42
    · skip
      refine mm_iload_n C (mm_dec dk_X9_canBeTeam 6 rfl) rfl ?_
      refine mm_iload_n C (mm_dec dk_X9_canBeTeam 7 rfl) rfl ?_
      refine mm_icmp_eq (tgt := 42) C (mm_dec dk_X9_canBeTeam 8 rfl) (by decide) (fun c12 => ?_) (fun c12 => ?_)
      · skip
        refine mm_fgt 0 ?_
        refine mm_fgt 1 ?_
        refine mm_fgt 2 ?_
        refine mm_fgt 3 ?_
        exact J42
      · skip
        refine mm_aload_n C (mm_dec dk_X9_canBeTeam 9 rfl) rfl ?_
        refine mm_getr (t := 28) C fl_X9_27 (mm_dec dk_X9_canBeTeam 10 rfl) rfl rfl (mm_ref i0 rfl) ?_
        refine mm_iload_n C (mm_dec dk_X9_canBeTeam 11 rfl) rfl ?_
        refine mm_zald C (mm_dec dk_X9_canBeTeam 12 rfl) rfl (by omega) (by omega) ?_
        have g1 : 0 ≤ (h.2.1 28 p1) ∧ (h.2.1 28 p1) ≤ 1 := i0.2.1 28 p1
        refine mm_if_ne (tgt := 42) C (mm_dec dk_X9_canBeTeam 13 rfl) (by decide) (fun c21 => ?_) (fun c21 => ?_)
        · skip
          refine mm_fgt 0 ?_
          refine mm_fgt 1 ?_
          refine mm_fgt 2 ?_
          refine mm_fgt 3 ?_
          exact J42
        · skip
          refine mm_aload_n C (mm_dec dk_X9_canBeTeam 14 rfl) rfl ?_
          refine mm_getr (t := 28) C fl_X9_27 (mm_dec dk_X9_canBeTeam 15 rfl) rfl rfl (mm_ref i0 rfl) ?_
          refine mm_iload_n C (mm_dec dk_X9_canBeTeam 16 rfl) rfl ?_
          refine mm_zald C (mm_dec dk_X9_canBeTeam 17 rfl) rfl (by omega) (by omega) ?_
          have g2 : 0 ≤ (h.2.1 28 p2) ∧ (h.2.1 28 p2) ≤ 1 := i0.2.1 28 p2
          refine mm_if_ne (tgt := 42) C (mm_dec dk_X9_canBeTeam 18 rfl) (by decide) (fun c30 => ?_) (fun c30 => ?_)
          · skip
            refine mm_fgt 0 ?_
            refine mm_fgt 1 ?_
            refine mm_fgt 2 ?_
            refine mm_fgt 3 ?_
            exact J42
          · skip
            refine mm_aload_n C (mm_dec dk_X9_canBeTeam 19 rfl) rfl ?_
            refine mm_getr (t := 28) C fl_X9_27 (mm_dec dk_X9_canBeTeam 20 rfl) rfl rfl (mm_ref i0 rfl) ?_
            refine mm_iload_n C (mm_dec dk_X9_canBeTeam 21 rfl) rfl ?_
            refine mm_zald C (mm_dec dk_X9_canBeTeam 22 rfl) rfl (by omega) (by omega) ?_
            have g3 : 0 ≤ (h.2.1 28 p3) ∧ (h.2.1 28 p3) ≤ 1 := i0.2.1 28 p3
            refine mm_if_eq (tgt := 44) C (mm_dec dk_X9_canBeTeam 23 rfl) (by decide) (fun c39 => ?_) (fun c39 => ?_)
            · skip
              refine mm_aload_n C (mm_dec dk_X9_canBeTeam 26 rfl) rfl ?_
              refine mm_getr (t := 23) C fl_X9_9 (mm_dec dk_X9_canBeTeam 27 rfl) rfl rfl (mm_ref i0 rfl) ?_
              refine mm_iload_n C (mm_dec dk_X9_canBeTeam 28 rfl) rfl ?_
              refine mm_iald C (mm_dec dk_X9_canBeTeam 29 rfl) rfl (by omega) (by omega) ?_
              have g4 : 0 ≤ (h.2.1 23 p1) ∧ (h.2.1 23 p1) ≤ 7 := i0.2.1 23 p1
              refine mm_aload_n C (mm_dec dk_X9_canBeTeam 30 rfl) rfl ?_
              refine mm_getr (t := 23) C fl_X9_9 (mm_dec dk_X9_canBeTeam 31 rfl) rfl rfl (mm_ref i0 rfl) ?_
              refine mm_iload_n C (mm_dec dk_X9_canBeTeam 32 rfl) rfl ?_
              refine mm_iald C (mm_dec dk_X9_canBeTeam 33 rfl) rfl (by omega) (by omega) ?_
              have g5 : 0 ≤ (h.2.1 23 p2) ∧ (h.2.1 23 p2) ≤ 7 := i0.2.1 23 p2
              have J82 : mm_W x 0 0 82 [mU, mU, mU, mU, mU, mU, mU, mU, mU, mU, mU, mU] [] h := by
                refine mm_iconst C (mm_dec dk_X9_canBeTeam 48 rfl) ⟨by decide, by decide⟩ ?_
                exact mm_zret C T (mm_dec dk_X9_canBeTeam 49 rfl) (by decide : 0 ≤ 0) (by decide : 0 ≤ 0) (by omega) ⟨_, rfl, ⟨⟨by omega, by omega⟩, rfl⟩⟩
              refine mm_icmp_ne (tgt := 82) C (mm_dec dk_X9_canBeTeam 34 rfl) (by decide) (fun c56 => ?_) (fun c56 => ?_)
              · skip
                refine mm_fgt 0 ?_
                refine mm_fgt 1 ?_
                refine mm_fgt 2 ?_
                refine mm_fgt 3 ?_
                exact J82
              · skip
                refine mm_aload_n C (mm_dec dk_X9_canBeTeam 35 rfl) rfl ?_
                refine mm_getr (t := 23) C fl_X9_9 (mm_dec dk_X9_canBeTeam 36 rfl) rfl rfl (mm_ref i0 rfl) ?_
                refine mm_iload_n C (mm_dec dk_X9_canBeTeam 37 rfl) rfl ?_
                refine mm_iald C (mm_dec dk_X9_canBeTeam 38 rfl) rfl (by omega) (by omega) ?_
                refine mm_aload_n C (mm_dec dk_X9_canBeTeam 39 rfl) rfl ?_
                refine mm_getr (t := 23) C fl_X9_9 (mm_dec dk_X9_canBeTeam 40 rfl) rfl rfl (mm_ref i0 rfl) ?_
                refine mm_iload_n C (mm_dec dk_X9_canBeTeam 41 rfl) rfl ?_
                refine mm_iald C (mm_dec dk_X9_canBeTeam 42 rfl) rfl (by omega) (by omega) ?_
                have g6 : 0 ≤ (h.2.1 23 p3) ∧ (h.2.1 23 p3) ≤ 7 := i0.2.1 23 p3
                refine mm_icmp_ne (tgt := 82) C (mm_dec dk_X9_canBeTeam 43 rfl) (by decide) (fun c71 => ?_) (fun c71 => ?_)
                · skip
                  refine mm_fgt 0 ?_
                  refine mm_fgt 1 ?_
                  refine mm_fgt 2 ?_
                  refine mm_fgt 3 ?_
                  exact J82
                · skip
                  refine mm_aload_n C (mm_dec dk_X9_canBeTeam 44 rfl) rfl ?_
                  refine mm_iload_n C (mm_dec dk_X9_canBeTeam 45 rfl) rfl ?_
                  refine mm_cVi (rest := []) C1 ev_X9_67 (mm_dec dk_X9_canBeTeam 46 rfl) (c_X9_runsFree x.2.1 hl (d - 1) (by omega) h i0 p1 ⟨by omega, by omega⟩) rfl rfl (Nat.le_of_ble_eq_true rfl) ⟨by decide, by decide⟩ rfl (fun r76 h76c hp76 => ?_) (fun _ _ q => q.elim)
                  obtain ⟨z76, y76⟩ := hp76
                  rw [z76, y76]
                  have g8 : 0 ≤ (h.2.1 17 (h.2.1 23 p1)) ∧ (h.2.1 17 (h.2.1 23 p1)) ≤ 1 := i0.2.1 17 (h.2.1 23 p1)
                  refine mm_if_eq (tgt := 84) C (mm_dec dk_X9_canBeTeam 47 rfl) (by decide) (fun c79 => ?_) (fun c79 => ?_)
                  · skip
                    refine mm_aload_n C (mm_dec dk_X9_canBeTeam 50 rfl) rfl ?_
                    refine mm_getr (t := 25) C fl_X9_18 (mm_dec dk_X9_canBeTeam 51 rfl) rfl rfl (mm_ref i0 rfl) ?_
                    refine mm_iload_n C (mm_dec dk_X9_canBeTeam 52 rfl) rfl ?_
                    refine mm_iald C (mm_dec dk_X9_canBeTeam 53 rfl) rfl (by omega) (by omega) ?_
                    have g9 : 0 ≤ (h.2.1 25 p1) ∧ (h.2.1 25 p1) ≤ 80 := i0.2.1 25 p1
                    refine mm_istoreL (ls2 := [mR 22, mI p1, mI p2, mI p3, mI (h.2.1 25 p1), mU, mU, mU, mU, mU, mU, mU]) C (mm_dec dk_X9_canBeTeam 54 rfl) (by decide) rfl ?_
                    refine mm_aload_n C (mm_dec dk_X9_canBeTeam 55 rfl) rfl ?_
                    refine mm_getr (t := 25) C fl_X9_18 (mm_dec dk_X9_canBeTeam 56 rfl) rfl rfl (mm_ref i0 rfl) ?_
                    refine mm_iload_n C (mm_dec dk_X9_canBeTeam 57 rfl) rfl ?_
                    refine mm_iald C (mm_dec dk_X9_canBeTeam 58 rfl) rfl (by omega) (by omega) ?_
                    have g10 : 0 ≤ (h.2.1 25 p2) ∧ (h.2.1 25 p2) ≤ 80 := i0.2.1 25 p2
                    refine mm_istoreL (ls2 := [mR 22, mI p1, mI p2, mI p3, mI (h.2.1 25 p1), mI (h.2.1 25 p2), mU, mU, mU, mU, mU, mU]) C (mm_dec dk_X9_canBeTeam 59 rfl) (by decide) rfl ?_
                    refine mm_aload_n C (mm_dec dk_X9_canBeTeam 60 rfl) rfl ?_
                    refine mm_getr (t := 25) C fl_X9_18 (mm_dec dk_X9_canBeTeam 61 rfl) rfl rfl (mm_ref i0 rfl) ?_
                    refine mm_iload_n C (mm_dec dk_X9_canBeTeam 62 rfl) rfl ?_
                    refine mm_iald C (mm_dec dk_X9_canBeTeam 63 rfl) rfl (by omega) (by omega) ?_
                    have g11 : 0 ≤ (h.2.1 25 p3) ∧ (h.2.1 25 p3) ≤ 80 := i0.2.1 25 p3
                    refine mm_istoreL (ls2 := [mR 22, mI p1, mI p2, mI p3, mI (h.2.1 25 p1), mI (h.2.1 25 p2), mI (h.2.1 25 p3), mU, mU, mU, mU, mU]) C (mm_dec dk_X9_canBeTeam 64 rfl) (by decide) rfl ?_
                    refine mm_aload_n C (mm_dec dk_X9_canBeTeam 65 rfl) rfl ?_
                    refine mm_getr (t := 14) C fl_X9_41 (mm_dec dk_X9_canBeTeam 66 rfl) rfl rfl (mm_ref i0 rfl) ?_
                    refine mm_aload_n C (mm_dec dk_X9_canBeTeam 67 rfl) rfl ?_
                    refine mm_getr (t := 23) C fl_X9_9 (mm_dec dk_X9_canBeTeam 68 rfl) rfl rfl (mm_ref i0 rfl) ?_
                    refine mm_iload_n C (mm_dec dk_X9_canBeTeam 69 rfl) rfl ?_
                    refine mm_iald C (mm_dec dk_X9_canBeTeam 70 rfl) rfl (by omega) (by omega) ?_
                    refine mm_cVi (rest := []) C1 ev_X9_70 (mm_dec dk_X9_canBeTeam 71 rfl) (c_X2_forks x.2.1 hl (d - 1) (by omega) h i0 (h.2.1 23 p1) ⟨by omega, by omega⟩) rfl rfl (Nat.le_of_ble_eq_true rfl) ⟨by decide, by decide⟩ rfl (fun r118 h118c hp118 => ?_) (fun _ _ q => q.elim)
                    obtain ⟨z118, y118⟩ := hp118
                    rw [z118, y118]
                    have g13 : -2147483648 ≤ (h.2.1 20 (h.2.1 23 p1)) ∧ (h.2.1 20 (h.2.1 23 p1)) ≤ 2147483647 := i0.2.1 20 (h.2.1 23 p1)
                    refine mm_istoreL (ls2 := [mR 22, mI p1, mI p2, mI p3, mI (h.2.1 25 p1), mI (h.2.1 25 p2), mI (h.2.1 25 p3), mI (h.2.1 20 (h.2.1 23 p1)), mU, mU, mU, mU]) C (mm_dec dk_X9_canBeTeam 72 rfl) (by decide) rfl ?_
                    refine mm_iconst C (mm_dec dk_X9_canBeTeam 73 rfl) ⟨by decide, by decide⟩ ?_
                    have J126 : ∀ (n : Nat) (x126_4 : Int) (bx126_4 : 0 ≤ x126_4 ∧ x126_4 ≤ 80) (x126_5 : Int) (bx126_5 : 0 ≤ x126_5 ∧ x126_5 ≤ 80) (x126_6 : Int) (bx126_6 : 0 ≤ x126_6 ∧ x126_6 ≤ 80) (x126_8 : Int) (bx126_8 : 0 ≤ x126_8 ∧ x126_8 ≤ 2147483647), (2147483647 - x126_8 : Int) < n → mm_W x 0 0 126 [mU, mU, mU, mU, mI x126_4, mI x126_5, mI x126_6, mI (h.2.1 20 (h.2.1 23 p1)), mI x126_8, mU, mU, mU] [] h := by
                      intro n
                      induction n with
                      | zero =>
                        intro x126_4 bx126_4 x126_5 bx126_5 x126_6 bx126_6 x126_8 bx126_8 hm
                        exfalso; omega
                      | succ n ih126 =>
                        intro x126_4 bx126_4 x126_5 bx126_5 x126_6 bx126_6 x126_8 bx126_8 hm126
                        refine mm_iload C (mm_dec dk_X9_canBeTeam 75 rfl) rfl ?_
                        refine mm_iload C (mm_dec dk_X9_canBeTeam 76 rfl) rfl ?_
                        refine mm_icmp_ge (tgt := 198) C (mm_dec dk_X9_canBeTeam 77 rfl) (by decide) (fun c130 => ?_) (fun c130 => ?_)
                        · skip
                          refine mm_iconst C (mm_dec dk_X9_canBeTeam 115 rfl) ⟨by decide, by decide⟩ ?_
                          exact mm_zret C T (mm_dec dk_X9_canBeTeam 116 rfl) (by decide : 0 ≤ 0) (by decide : 0 ≤ 0) (by omega) ⟨_, rfl, ⟨⟨by omega, by omega⟩, rfl⟩⟩
                        · skip
                          refine mm_iload C (mm_dec dk_X9_canBeTeam 78 rfl) rfl ?_
                          refine mm_iconst C (mm_dec dk_X9_canBeTeam 79 rfl) ⟨by decide, by decide⟩ ?_
                          refine mm_irem C (mm_dec dk_X9_canBeTeam 80 rfl) (by omega) (by omega) ?_
                          refine mm_istoreL (ls2 := [mU, mU, mU, mU, mI x126_4, mI x126_5, mI x126_6, mI (h.2.1 20 (h.2.1 23 p1)), mI x126_8, mI (x126_4 % 3), mU, mU]) C (mm_dec dk_X9_canBeTeam 81 rfl) (by decide) rfl ?_
                          refine mm_iload C (mm_dec dk_X9_canBeTeam 82 rfl) rfl ?_
                          refine mm_iconst C (mm_dec dk_X9_canBeTeam 83 rfl) ⟨by decide, by decide⟩ ?_
                          refine mm_irem C (mm_dec dk_X9_canBeTeam 84 rfl) (by omega) (by omega) ?_
                          refine mm_istoreL (ls2 := [mU, mU, mU, mU, mI x126_4, mI x126_5, mI x126_6, mI (h.2.1 20 (h.2.1 23 p1)), mI x126_8, mI (x126_4 % 3), mI (x126_5 % 3), mU]) C (mm_dec dk_X9_canBeTeam 85 rfl) (by decide) rfl ?_
                          refine mm_iload C (mm_dec dk_X9_canBeTeam 86 rfl) rfl ?_
                          refine mm_iconst C (mm_dec dk_X9_canBeTeam 87 rfl) ⟨by decide, by decide⟩ ?_
                          refine mm_irem C (mm_dec dk_X9_canBeTeam 88 rfl) (by omega) (by omega) ?_
                          refine mm_istoreL (ls2 := [mU, mU, mU, mU, mI x126_4, mI x126_5, mI x126_6, mI (h.2.1 20 (h.2.1 23 p1)), mI x126_8, mI (x126_4 % 3), mI (x126_5 % 3), mI (x126_6 % 3)]) C (mm_dec dk_X9_canBeTeam 89 rfl) (by decide) rfl ?_
                          refine mm_iload C (mm_dec dk_X9_canBeTeam 90 rfl) rfl ?_
                          refine mm_iload C (mm_dec dk_X9_canBeTeam 91 rfl) rfl ?_
                          have J172 : mm_W x 0 0 172 [mU, mU, mU, mU, mU, mU, mU, mU, mU, mU, mU, mU] [] h := by
                            refine mm_iconst C (mm_dec dk_X9_canBeTeam 99 rfl) ⟨by decide, by decide⟩ ?_
                            exact mm_zret C T (mm_dec dk_X9_canBeTeam 100 rfl) (by decide : 0 ≤ 0) (by decide : 0 ≤ 0) (by omega) ⟨_, rfl, ⟨⟨by omega, by omega⟩, rfl⟩⟩
                          refine mm_icmp_eq (tgt := 172) C (mm_dec dk_X9_canBeTeam 92 rfl) (by decide) (fun c155 => ?_) (fun c155 => ?_)
                          · skip
                            refine mm_fgt 4 ?_
                            refine mm_fgt 5 ?_
                            refine mm_fgt 6 ?_
                            refine mm_fgt 7 ?_
                            refine mm_fgt 8 ?_
                            refine mm_fgt 9 ?_
                            refine mm_fgt 10 ?_
                            refine mm_fgt 11 ?_
                            exact J172
                          · skip
                            refine mm_iload C (mm_dec dk_X9_canBeTeam 93 rfl) rfl ?_
                            refine mm_iload C (mm_dec dk_X9_canBeTeam 94 rfl) rfl ?_
                            refine mm_icmp_eq (tgt := 172) C (mm_dec dk_X9_canBeTeam 95 rfl) (by decide) (fun c162 => ?_) (fun c162 => ?_)
                            · skip
                              refine mm_fgt 4 ?_
                              refine mm_fgt 5 ?_
                              refine mm_fgt 6 ?_
                              refine mm_fgt 7 ?_
                              refine mm_fgt 8 ?_
                              refine mm_fgt 9 ?_
                              refine mm_fgt 10 ?_
                              refine mm_fgt 11 ?_
                              exact J172
                            · skip
                              refine mm_iload C (mm_dec dk_X9_canBeTeam 96 rfl) rfl ?_
                              refine mm_iload C (mm_dec dk_X9_canBeTeam 97 rfl) rfl ?_
                              refine mm_icmp_ne (tgt := 174) C (mm_dec dk_X9_canBeTeam 98 rfl) (by decide) (fun c169 => ?_) (fun c169 => ?_)
                              · skip
                                refine mm_iload C (mm_dec dk_X9_canBeTeam 101 rfl) rfl ?_
                                refine mm_iconst C (mm_dec dk_X9_canBeTeam 102 rfl) ⟨by decide, by decide⟩ ?_
                                refine mm_idiv C (mm_dec dk_X9_canBeTeam 103 rfl) ⟨by omega, by omega⟩ (by omega) ?_
                                refine mm_istoreL (ls2 := [mU, mU, mU, mU, mI (x126_4 / 3), mI x126_5, mI x126_6, mI (h.2.1 20 (h.2.1 23 p1)), mI x126_8, mI (x126_4 % 3), mI (x126_5 % 3), mI (x126_6 % 3)]) C (mm_dec dk_X9_canBeTeam 104 rfl) (by decide) rfl ?_
                                refine mm_iload C (mm_dec dk_X9_canBeTeam 105 rfl) rfl ?_
                                refine mm_iconst C (mm_dec dk_X9_canBeTeam 106 rfl) ⟨by decide, by decide⟩ ?_
                                refine mm_idiv C (mm_dec dk_X9_canBeTeam 107 rfl) ⟨by omega, by omega⟩ (by omega) ?_
                                refine mm_istoreL (ls2 := [mU, mU, mU, mU, mI (x126_4 / 3), mI (x126_5 / 3), mI x126_6, mI (h.2.1 20 (h.2.1 23 p1)), mI x126_8, mI (x126_4 % 3), mI (x126_5 % 3), mI (x126_6 % 3)]) C (mm_dec dk_X9_canBeTeam 108 rfl) (by decide) rfl ?_
                                refine mm_iload C (mm_dec dk_X9_canBeTeam 109 rfl) rfl ?_
                                refine mm_iconst C (mm_dec dk_X9_canBeTeam 110 rfl) ⟨by decide, by decide⟩ ?_
                                refine mm_idiv C (mm_dec dk_X9_canBeTeam 111 rfl) ⟨by omega, by omega⟩ (by omega) ?_
                                refine mm_istoreL (ls2 := [mU, mU, mU, mU, mI (x126_4 / 3), mI (x126_5 / 3), mI (x126_6 / 3), mI (h.2.1 20 (h.2.1 23 p1)), mI x126_8, mI (x126_4 % 3), mI (x126_5 % 3), mI (x126_6 % 3)]) C (mm_dec dk_X9_canBeTeam 112 rfl) (by decide) rfl ?_
                                refine mm_iincL (ls2 := [mU, mU, mU, mU, mI (x126_4 / 3), mI (x126_5 / 3), mI (x126_6 / 3), mI (h.2.1 20 (h.2.1 23 p1)), mI (x126_8 + 1), mI (x126_4 % 3), mI (x126_5 % 3), mI (x126_6 % 3)]) C (mm_dec dk_X9_canBeTeam 113 rfl) rfl (by decide) ⟨by omega, by omega⟩ rfl ?_
                                refine mm_goto (tgt := 126) C (mm_dec dk_X9_canBeTeam 114 rfl) (by decide) ?_
                                refine mm_fgt 9 ?_
                                refine mm_fgt 10 ?_
                                refine mm_fgt 11 ?_
                                exact ih126 (x126_4 / 3) ⟨by omega, by omega⟩ (x126_5 / 3) ⟨by omega, by omega⟩ (x126_6 / 3) ⟨by omega, by omega⟩ (x126_8 + 1) ⟨by omega, by omega⟩ (by omega)
                              · skip
                                refine mm_fgt 4 ?_
                                refine mm_fgt 5 ?_
                                refine mm_fgt 6 ?_
                                refine mm_fgt 7 ?_
                                refine mm_fgt 8 ?_
                                refine mm_fgt 9 ?_
                                refine mm_fgt 10 ?_
                                refine mm_fgt 11 ?_
                                exact J172
                    refine mm_istoreL (ls2 := [mR 22, mI p1, mI p2, mI p3, mI (h.2.1 25 p1), mI (h.2.1 25 p2), mI (h.2.1 25 p3), mI (h.2.1 20 (h.2.1 23 p1)), mI 0, mU, mU, mU]) C (mm_dec dk_X9_canBeTeam 74 rfl) (by decide) rfl ?_
                    refine mm_fgt 0 ?_
                    refine mm_fgt 1 ?_
                    refine mm_fgt 2 ?_
                    refine mm_fgt 3 ?_
                    exact J126 (((2147483647 - 0) : Int) + 1).toNat (h.2.1 25 p1) ⟨by omega, by omega⟩ (h.2.1 25 p2) ⟨by omega, by omega⟩ (h.2.1 25 p3) ⟨by omega, by omega⟩ 0 ⟨by omega, by omega⟩ (by omega)
                  · skip
                    refine mm_fgt 0 ?_
                    refine mm_fgt 1 ?_
                    refine mm_fgt 2 ?_
                    refine mm_fgt 3 ?_
                    exact J82
            · skip
              refine mm_fgt 0 ?_
              refine mm_fgt 1 ?_
              refine mm_fgt 2 ?_
              refine mm_fgt 3 ?_
              exact J42
set_option maxRecDepth 100000 in
set_option maxHeartbeats 4000000 in
theorem c_X9_join (l : Launch) (hl : l.stackTraces = false) (d : Nat) (hd : 0 ≤ d) (h : mH) (i0 : mm_inv h) (p1 : Int) (p2 : Int) (p3 : Int) (bp1 : 0 ≤ p1 ∧ p1 ≤ 39) (bp2 : 0 ≤ p2 ∧ p2 ≤ 39) (bp3 : 0 ≤ p3 ∧ p3 ≤ 39) (u0 : (h.1 22 9) ≤ 9) : mm_Met l d yX9_join cX9_join 4 (some .int) [mR 22, mI p1, mI p2, mI p3] h (mm_pi fun r h2 => (0 ≤ r ∧ r ≤ 9) ∧ mm_inv h2 ∧ mm_fr [(22, 9)] [27, 28, 29] h h2) mm_nx 0 0 := by
  refine mm_ofW (ls := [mR 22, mI p1, mI p2, mI p3]) hl (by decide) rfl (Nat.le_of_ble_eq_true rfl) ?_
  intro x hxl C T hnm htb
  subst hxl
  refine mm_rng (fun hr _ => ?_)
  have ap1 : -2147483648 ≤ p1 ∧ p1 < 2147483648 := mm_ok_at hr (i := 1) rfl
  have ap2 : -2147483648 ≤ p2 ∧ p2 < 2147483648 := mm_ok_at hr (i := 2) rfl
  have ap3 : -2147483648 ≤ p3 ∧ p3 < 2147483648 := mm_ok_at hr (i := 3) rfl
  have f0 : mm_fr [(22, 9)] [27, 28, 29] h h := mm_fr_rf
  refine mm_aload_n C (mm_dec dk_X9_join 0 rfl) rfl ?_
  refine mm_getr (t := 29) C fl_X9_31 (mm_dec dk_X9_join 1 rfl) rfl rfl (mm_ref i0 rfl) ?_
  refine mm_aload_n C (mm_dec dk_X9_join 2 rfl) rfl ?_
  refine mm_geti C fl_X9_38 (mm_dec dk_X9_join 3 rfl) rfl rfl (Or.inl rfl) ?_
  have g1 : 0 ≤ (h.1 22 9) ∧ (h.1 22 9) ≤ 10 := i0.1 22 9
  refine mm_iconst C (mm_dec dk_X9_join 4 rfl) ⟨by decide, by decide⟩ ?_
  refine mm_imul C (mm_dec dk_X9_join 5 rfl) ⟨by omega, by omega⟩ ?_
  refine mm_iload_n C (mm_dec dk_X9_join 6 rfl) rfl ?_
  refine mm_iast C (mm_dec dk_X9_join 7 rfl) rfl (by omega) (by omega) ?_
  have i1 : mm_inv (mm_pa h 29 ((h.1 22 9) * 3) p1) := mm_inv_pa i0 (show 0 ≤ p1 ∧ p1 ≤ 39 from ⟨by omega, by omega⟩)
  have f1 : mm_fr [(22, 9)] [27, 28, 29] h (mm_pa h 29 ((h.1 22 9) * 3) p1) := mm_fr_pa f0 (by decide)
  obtain ⟨h1, eh1⟩ : ∃ z, z = mm_pa h 29 ((h.1 22 9) * 3) p1 := ⟨_, rfl⟩
  rw [← eh1] at i1 f1 ⊢
  have qh1_2 : h1.1 22 9 = h.1 22 9 := by rw [eh1]; rfl
  refine mm_aload_n C (mm_dec dk_X9_join 8 rfl) rfl ?_
  refine mm_getr (t := 29) C fl_X9_31 (mm_dec dk_X9_join 9 rfl) rfl rfl (mm_ref i1 rfl) ?_
  refine mm_aload_n C (mm_dec dk_X9_join 10 rfl) rfl ?_
  refine mm_geti C fl_X9_38 (mm_dec dk_X9_join 11 rfl) rfl rfl (Or.inl rfl) ?_
  refine mm_iconst C (mm_dec dk_X9_join 12 rfl) ⟨by decide, by decide⟩ ?_
  refine mm_imul C (mm_dec dk_X9_join 13 rfl) ⟨by omega, by omega⟩ ?_
  refine mm_iconst C (mm_dec dk_X9_join 14 rfl) ⟨by decide, by decide⟩ ?_
  refine mm_iadd C (mm_dec dk_X9_join 15 rfl) ⟨by omega, by omega⟩ ?_
  refine mm_iload_n C (mm_dec dk_X9_join 16 rfl) rfl ?_
  refine mm_iast C (mm_dec dk_X9_join 17 rfl) rfl (by omega) (by omega) ?_
  have i2 : mm_inv (mm_pa h1 29 (((h1.1 22 9) * 3) + 1) p2) := mm_inv_pa i1 (show 0 ≤ p2 ∧ p2 ≤ 39 from ⟨by omega, by omega⟩)
  have f2 : mm_fr [(22, 9)] [27, 28, 29] h (mm_pa h1 29 (((h1.1 22 9) * 3) + 1) p2) := mm_fr_pa f1 (by decide)
  obtain ⟨h2, eh2⟩ : ∃ z, z = mm_pa h1 29 (((h1.1 22 9) * 3) + 1) p2 := ⟨_, rfl⟩
  rw [← eh2] at i2 f2 ⊢
  have qh2_3 : h2.1 22 9 = h1.1 22 9 := by rw [eh2]; rfl
  refine mm_aload_n C (mm_dec dk_X9_join 18 rfl) rfl ?_
  refine mm_getr (t := 29) C fl_X9_31 (mm_dec dk_X9_join 19 rfl) rfl rfl (mm_ref i2 rfl) ?_
  refine mm_aload_n C (mm_dec dk_X9_join 20 rfl) rfl ?_
  refine mm_geti C fl_X9_38 (mm_dec dk_X9_join 21 rfl) rfl rfl (Or.inl rfl) ?_
  refine mm_iconst C (mm_dec dk_X9_join 22 rfl) ⟨by decide, by decide⟩ ?_
  refine mm_imul C (mm_dec dk_X9_join 23 rfl) ⟨by omega, by omega⟩ ?_
  refine mm_iconst C (mm_dec dk_X9_join 24 rfl) ⟨by decide, by decide⟩ ?_
  refine mm_iadd C (mm_dec dk_X9_join 25 rfl) ⟨by omega, by omega⟩ ?_
  refine mm_iload_n C (mm_dec dk_X9_join 26 rfl) rfl ?_
  refine mm_iast C (mm_dec dk_X9_join 27 rfl) rfl (by omega) (by omega) ?_
  have i3 : mm_inv (mm_pa h2 29 (((h2.1 22 9) * 3) + 2) p3) := mm_inv_pa i2 (show 0 ≤ p3 ∧ p3 ≤ 39 from ⟨by omega, by omega⟩)
  have f3 : mm_fr [(22, 9)] [27, 28, 29] h (mm_pa h2 29 (((h2.1 22 9) * 3) + 2) p3) := mm_fr_pa f2 (by decide)
  obtain ⟨h3, eh3⟩ : ∃ z, z = mm_pa h2 29 (((h2.1 22 9) * 3) + 2) p3 := ⟨_, rfl⟩
  rw [← eh3] at i3 f3 ⊢
  have qh3_4 : h3.1 22 9 = h2.1 22 9 := by rw [eh3]; rfl
  refine mm_aload_n C (mm_dec dk_X9_join 28 rfl) rfl ?_
  refine mm_getr (t := 28) C fl_X9_27 (mm_dec dk_X9_join 29 rfl) rfl rfl (mm_ref i3 rfl) ?_
  refine mm_iload_n C (mm_dec dk_X9_join 30 rfl) rfl ?_
  refine mm_iconst C (mm_dec dk_X9_join 31 rfl) ⟨by decide, by decide⟩ ?_
  refine mm_zast C (mm_dec dk_X9_join 32 rfl) rfl (by omega) (by omega) (by omega) ?_
  have i4 : mm_inv (mm_pa h3 28 p1 1) := mm_inv_pa i3 (show 0 ≤ 1 ∧ 1 ≤ 1 from ⟨by omega, by omega⟩)
  have f4 : mm_fr [(22, 9)] [27, 28, 29] h (mm_pa h3 28 p1 1) := mm_fr_pa f3 (by decide)
  obtain ⟨h4, eh4⟩ : ∃ z, z = mm_pa h3 28 p1 1 := ⟨_, rfl⟩
  rw [← eh4] at i4 f4 ⊢
  have qh4_5 : h4.1 22 9 = h3.1 22 9 := by rw [eh4]; rfl
  refine mm_aload_n C (mm_dec dk_X9_join 33 rfl) rfl ?_
  refine mm_getr (t := 28) C fl_X9_27 (mm_dec dk_X9_join 34 rfl) rfl rfl (mm_ref i4 rfl) ?_
  refine mm_iload_n C (mm_dec dk_X9_join 35 rfl) rfl ?_
  refine mm_iconst C (mm_dec dk_X9_join 36 rfl) ⟨by decide, by decide⟩ ?_
  refine mm_zast C (mm_dec dk_X9_join 37 rfl) rfl (by omega) (by omega) (by omega) ?_
  have i5 : mm_inv (mm_pa h4 28 p2 1) := mm_inv_pa i4 (show 0 ≤ 1 ∧ 1 ≤ 1 from ⟨by omega, by omega⟩)
  have f5 : mm_fr [(22, 9)] [27, 28, 29] h (mm_pa h4 28 p2 1) := mm_fr_pa f4 (by decide)
  obtain ⟨h5, eh5⟩ : ∃ z, z = mm_pa h4 28 p2 1 := ⟨_, rfl⟩
  rw [← eh5] at i5 f5 ⊢
  have qh5_6 : h5.1 22 9 = h4.1 22 9 := by rw [eh5]; rfl
  refine mm_aload_n C (mm_dec dk_X9_join 38 rfl) rfl ?_
  refine mm_getr (t := 28) C fl_X9_27 (mm_dec dk_X9_join 39 rfl) rfl rfl (mm_ref i5 rfl) ?_
  refine mm_iload_n C (mm_dec dk_X9_join 40 rfl) rfl ?_
  refine mm_iconst C (mm_dec dk_X9_join 41 rfl) ⟨by decide, by decide⟩ ?_
  refine mm_zast C (mm_dec dk_X9_join 42 rfl) rfl (by omega) (by omega) (by omega) ?_
  have i6 : mm_inv (mm_pa h5 28 p3 1) := mm_inv_pa i5 (show 0 ≤ 1 ∧ 1 ≤ 1 from ⟨by omega, by omega⟩)
  have f6 : mm_fr [(22, 9)] [27, 28, 29] h (mm_pa h5 28 p3 1) := mm_fr_pa f5 (by decide)
  obtain ⟨h6, eh6⟩ : ∃ z, z = mm_pa h5 28 p3 1 := ⟨_, rfl⟩
  rw [← eh6] at i6 f6 ⊢
  have qh6_7 : h6.1 22 9 = h5.1 22 9 := by rw [eh6]; rfl
  refine mm_aload_n C (mm_dec dk_X9_join 43 rfl) rfl ?_
  refine mm_getr (t := 27) C fl_X9_24 (mm_dec dk_X9_join 44 rfl) rfl rfl (mm_ref i6 rfl) ?_
  refine mm_iload_n C (mm_dec dk_X9_join 45 rfl) rfl ?_
  refine mm_iload_n C (mm_dec dk_X9_join 46 rfl) rfl ?_
  refine mm_iast C (mm_dec dk_X9_join 47 rfl) rfl (by omega) (by omega) ?_
  have i7 : mm_inv (mm_pa h6 27 p2 p1) := mm_inv_pa i6 (show -1 ≤ p1 ∧ p1 ≤ 39 from ⟨by omega, by omega⟩)
  have f7 : mm_fr [(22, 9)] [27, 28, 29] h (mm_pa h6 27 p2 p1) := mm_fr_pa f6 (by decide)
  obtain ⟨h7, eh7⟩ : ∃ z, z = mm_pa h6 27 p2 p1 := ⟨_, rfl⟩
  rw [← eh7] at i7 f7 ⊢
  have qh7_8 : h7.1 22 9 = h6.1 22 9 := by rw [eh7]; rfl
  refine mm_aload_n C (mm_dec dk_X9_join 48 rfl) rfl ?_
  refine mm_getr (t := 27) C fl_X9_24 (mm_dec dk_X9_join 49 rfl) rfl rfl (mm_ref i7 rfl) ?_
  refine mm_iload_n C (mm_dec dk_X9_join 50 rfl) rfl ?_
  refine mm_iload_n C (mm_dec dk_X9_join 51 rfl) rfl ?_
  refine mm_iast C (mm_dec dk_X9_join 52 rfl) rfl (by omega) (by omega) ?_
  have i8 : mm_inv (mm_pa h7 27 p3 p2) := mm_inv_pa i7 (show -1 ≤ p2 ∧ p2 ≤ 39 from ⟨by omega, by omega⟩)
  have f8 : mm_fr [(22, 9)] [27, 28, 29] h (mm_pa h7 27 p3 p2) := mm_fr_pa f7 (by decide)
  obtain ⟨h8, eh8⟩ : ∃ z, z = mm_pa h7 27 p3 p2 := ⟨_, rfl⟩
  rw [← eh8] at i8 f8 ⊢
  have qh8_9 : h8.1 22 9 = h7.1 22 9 := by rw [eh8]; rfl
  refine mm_aload_n C (mm_dec dk_X9_join 53 rfl) rfl ?_
  refine mm_dup C (mm_dec dk_X9_join 54 rfl) (show (2 : Nat) ≠ 1 by decide) ?_
  refine mm_geti C fl_X9_38 (mm_dec dk_X9_join 55 rfl) rfl rfl (Or.inl rfl) ?_
  refine mm_iconst C (mm_dec dk_X9_join 56 rfl) ⟨by decide, by decide⟩ ?_
  refine mm_iadd C (mm_dec dk_X9_join 57 rfl) ⟨by omega, by omega⟩ ?_
  refine mm_puti C fl_X9_38 (mm_dec dk_X9_join 58 rfl) rfl rfl rfl (Or.inl ⟨rfl, rfl⟩) ?_
  have i9 : mm_inv (mm_pf h8 22 9 ((h8.1 22 9) + 1)) := mm_inv_pf i8 (show 0 ≤ ((h8.1 22 9) + 1) ∧ ((h8.1 22 9) + 1) ≤ 10 from ⟨by omega, by omega⟩) (by decide)
  have f9 : mm_fr [(22, 9)] [27, 28, 29] h (mm_pf h8 22 9 ((h8.1 22 9) + 1)) := mm_fr_pf f8 (by decide)
  obtain ⟨h9, eh9⟩ : ∃ z, z = mm_pf h8 22 9 ((h8.1 22 9) + 1) := ⟨_, rfl⟩
  rw [← eh9] at i9 f9 ⊢
  have qh9 : h9.1 22 9 = ((h8.1 22 9) + 1) := by rw [eh9]; exact mm_pf_same _ _ _ _
  refine mm_aload_n C (mm_dec dk_X9_join 59 rfl) rfl ?_
  refine mm_geti C fl_X9_38 (mm_dec dk_X9_join 60 rfl) rfl rfl (Or.inl rfl) ?_
  refine mm_iconst C (mm_dec dk_X9_join 61 rfl) ⟨by decide, by decide⟩ ?_
  refine mm_isub C (mm_dec dk_X9_join 62 rfl) ⟨by omega, by omega⟩ ?_
  exact mm_iret C T (mm_dec dk_X9_join 63 rfl) (by decide : 0 ≤ 0) (by decide : 0 ≤ 0) ⟨_, rfl, ⟨⟨by omega, by omega⟩, i9, f9⟩⟩
set_option maxRecDepth 100000 in
set_option maxHeartbeats 4000000 in
theorem c_X10_forget (l : Launch) (hl : l.stackTraces = false) (d : Nat) (hd : 0 ≤ d) (h : mH) (i0 : mm_inv h) : mm_Met l d yX10_forget cX10_forget 1 none [mR 7] h (mm_pv fun h2 => mm_inv h2 ∧ mm_fr [(7, 9)] [] h h2) mm_nx 0 0 := by
  refine mm_ofW (ls := [mR 7]) hl (by decide) rfl (Nat.le_of_ble_eq_true rfl) ?_
  intro x hxl C T hnm htb
  subst hxl
  have f0 : mm_fr [(7, 9)] [] h h := mm_fr_rf
  refine mm_aload_n C (mm_dec dk_X10_forget 0 rfl) rfl ?_
  refine mm_iconst C (mm_dec dk_X10_forget 1 rfl) ⟨by decide, by decide⟩ ?_
  refine mm_puti C fl_X10_38 (mm_dec dk_X10_forget 2 rfl) rfl rfl rfl (Or.inl ⟨rfl, rfl⟩) ?_
  have i1 : mm_inv (mm_pf h 7 9 (-1)) := mm_inv_pf i0 (show -1 ≤ (-1) ∧ (-1) ≤ 400 from ⟨by omega, by omega⟩) (by decide)
  have f1 : mm_fr [(7, 9)] [] h (mm_pf h 7 9 (-1)) := mm_fr_pf f0 (by decide)
  obtain ⟨h1, eh1⟩ : ∃ z, z = mm_pf h 7 9 (-1) := ⟨_, rfl⟩
  rw [← eh1] at i1 f1 ⊢
  have qh1 : h1.1 7 9 = (-1) := by rw [eh1]; exact mm_pf_same _ _ _ _
  exact mm_vret C T (mm_dec dk_X10_forget 3 rfl) (by decide : 0 ≤ 0) (by decide : 0 ≤ 0) ⟨rfl, ⟨i1, f1⟩⟩
set_option maxRecDepth 100000 in
set_option maxHeartbeats 4000000 in
theorem c_X10_keptMoves (l : Launch) (hl : l.stackTraces = false) (d : Nat) (hd : 0 ≤ d) (h : mH) (i0 : mm_inv h) : mm_Met l d yX10_keptMoves cX10_keptMoves 1 (some .int) [mR 7] h (mm_pi fun r h2 => h2 = h ∧ (r = (h.1 7 9))) mm_nx 0 0 := by
  refine mm_ofW (ls := [mR 7]) hl (by decide) rfl (Nat.le_of_ble_eq_true rfl) ?_
  intro x hxl C T hnm htb
  subst hxl
  have f0 : mm_fr [] [] h h := mm_fr_rf
  refine mm_aload_n C (mm_dec dk_X10_keptMoves 0 rfl) rfl ?_
  refine mm_geti C fl_X10_38 (mm_dec dk_X10_keptMoves 1 rfl) rfl rfl (Or.inl rfl) ?_
  have g1 : -1 ≤ (h.1 7 9) ∧ (h.1 7 9) ≤ 400 := i0.1 7 9
  exact mm_iret C T (mm_dec dk_X10_keptMoves 2 rfl) (by decide : 0 ≤ 0) (by decide : 0 ≤ 0) ⟨_, rfl, ⟨rfl, rfl⟩⟩
set_option maxRecDepth 100000 in
set_option maxHeartbeats 4000000 in
theorem c_X10_keptMove (l : Launch) (hl : l.stackTraces = false) (d : Nat) (hd : 0 ≤ d) (h : mH) (i0 : mm_inv h) (p1 : Int) (bp1 : 0 ≤ p1 ∧ p1 ≤ 399) : mm_Met l d yX10_keptMove cX10_keptMove 2 (some .int) [mR 7, mI p1] h (mm_pi fun r h2 => h2 = h ∧ (r = (h.2.1 13 p1))) mm_nx 0 0 := by
  refine mm_ofW (ls := [mR 7, mI p1]) hl (by decide) rfl (Nat.le_of_ble_eq_true rfl) ?_
  intro x hxl C T hnm htb
  subst hxl
  refine mm_rng (fun hr _ => ?_)
  have ap1 : -2147483648 ≤ p1 ∧ p1 < 2147483648 := mm_ok_at hr (i := 1) rfl
  have f0 : mm_fr [] [] h h := mm_fr_rf
  refine mm_aload_n C (mm_dec dk_X10_keptMove 0 rfl) rfl ?_
  refine mm_getr (t := 13) C fl_X10_28 (mm_dec dk_X10_keptMove 1 rfl) rfl rfl (mm_ref i0 rfl) ?_
  refine mm_iload_n C (mm_dec dk_X10_keptMove 2 rfl) rfl ?_
  refine mm_iald C (mm_dec dk_X10_keptMove 3 rfl) rfl (by omega) (by omega) ?_
  have g1 : -2147483648 ≤ (h.2.1 13 p1) ∧ (h.2.1 13 p1) ≤ 2147483647 := i0.2.1 13 p1
  exact mm_iret C T (mm_dec dk_X10_keptMove 4 rfl) (by decide : 0 ≤ 0) (by decide : 0 ≤ 0) ⟨_, rfl, ⟨rfl, rfl⟩⟩
set_option maxRecDepth 100000 in
set_option maxHeartbeats 4000000 in
theorem c_X10_secondsFrom (l : Launch) (hl : l.stackTraces = false) (d : Nat) (hd : 0 ≤ d) (h : mH) (i0 : mm_inv h) (p1 : Int) (bp1 : 0 ≤ p1 ∧ p1 ≤ 399) : mm_Met l d yX10_secondsFrom cX10_secondsFrom 2 (some .int) [mR 7, mI p1] h (mm_pi fun r h2 => h2 = h ∧ (((h.2.1 8 p1) ≠ 2000000000 ∧ r = (mm_w (Int.tdiv (h.2.1 8 p1) 512))) ∨ ((h.2.1 8 p1) = 2000000000 ∧ r = (-1)))) mm_nx 0 0 := by
  refine mm_ofW (ls := [mR 7, mI p1]) hl (by decide) rfl (Nat.le_of_ble_eq_true rfl) ?_
  intro x hxl C T hnm htb
  subst hxl
  refine mm_rng (fun hr _ => ?_)
  have ap1 : -2147483648 ≤ p1 ∧ p1 < 2147483648 := mm_ok_at hr (i := 1) rfl
  have f0 : mm_fr [] [] h h := mm_fr_rf
  refine mm_aload_n C (mm_dec dk_X10_secondsFrom 0 rfl) rfl ?_
  refine mm_getr (t := 8) C fl_X10_9 (mm_dec dk_X10_secondsFrom 1 rfl) rfl rfl (mm_ref i0 rfl) ?_
  refine mm_iload_n C (mm_dec dk_X10_secondsFrom 2 rfl) rfl ?_
  refine mm_iald C (mm_dec dk_X10_secondsFrom 3 rfl) rfl (by omega) (by omega) ?_
  have g1 : -2147483648 ≤ (h.2.1 8 p1) ∧ (h.2.1 8 p1) ≤ 2147483647 := i0.2.1 8 p1
  refine mm_ldc (z := 2000000000) C (mm_dec dk_X10_secondsFrom 4 rfl) kc_X10_56 (by decide) ?_
  refine mm_icmp_ne (tgt := 15) C (mm_dec dk_X10_secondsFrom 5 rfl) (by decide) (fun c8 => ?_) (fun c8 => ?_)
  · skip
    refine mm_aload_n C (mm_dec dk_X10_secondsFrom 8 rfl) rfl ?_
    refine mm_getr (t := 8) C fl_X10_9 (mm_dec dk_X10_secondsFrom 9 rfl) rfl rfl (mm_ref i0 rfl) ?_
    refine mm_iload_n C (mm_dec dk_X10_secondsFrom 10 rfl) rfl ?_
    refine mm_iald C (mm_dec dk_X10_secondsFrom 11 rfl) rfl (by omega) (by omega) ?_
    refine mm_sipush C (mm_dec dk_X10_secondsFrom 12 rfl) ⟨by decide, by decide⟩ ?_
    refine mm_idivw C (mm_dec dk_X10_secondsFrom 13 rfl) (by omega) ?_
    have g3 : -2147483648 ≤ (mm_w (Int.tdiv (h.2.1 8 p1) 512)) ∧ (mm_w (Int.tdiv (h.2.1 8 p1) 512)) < 2147483648 := mm_w_rg _
    exact mm_iret C T (mm_dec dk_X10_secondsFrom 14 rfl) (by decide : 0 ≤ 0) (by decide : 0 ≤ 0) ⟨_, rfl, ⟨rfl, Or.inl ⟨by omega, rfl⟩⟩⟩
  · skip
    refine mm_iconst C (mm_dec dk_X10_secondsFrom 6 rfl) ⟨by decide, by decide⟩ ?_
    refine mm_goto (tgt := 25) C (mm_dec dk_X10_secondsFrom 7 rfl) (by decide) ?_
    exact mm_iret C T (mm_dec dk_X10_secondsFrom 14 rfl) (by decide : 0 ≤ 0) (by decide : 0 ≤ 0) ⟨_, rfl, ⟨rfl, Or.inr (⟨by omega, rfl⟩)⟩⟩
set_option maxRecDepth 100000 in
set_option maxHeartbeats 4000000 in
theorem c_X10_walkFaultAt (l : Launch) (hl : l.stackTraces = false) (d : Nat) (hd : 0 ≤ d) (h : mH) (i0 : mm_inv h) : mm_Met l d yX10_walkFaultAt cX10_walkFaultAt 1 (some .int) [mR 7] h (mm_pi fun r h2 => h2 = h ∧ (r = (h.1 7 10))) mm_nx 0 0 := by
  refine mm_ofW (ls := [mR 7]) hl (by decide) rfl (Nat.le_of_ble_eq_true rfl) ?_
  intro x hxl C T hnm htb
  subst hxl
  have f0 : mm_fr [] [] h h := mm_fr_rf
  refine mm_aload_n C (mm_dec dk_X10_walkFaultAt 0 rfl) rfl ?_
  refine mm_geti C fl_X10_41 (mm_dec dk_X10_walkFaultAt 1 rfl) rfl rfl (Or.inl rfl) ?_
  have g1 : -2147483648 ≤ (h.1 7 10) ∧ (h.1 7 10) ≤ 2147483647 := i0.1 7 10
  exact mm_iret C T (mm_dec dk_X10_walkFaultAt 2 rfl) (by decide : 0 ≤ 0) (by decide : 0 ≤ 0) ⟨_, rfl, ⟨rfl, rfl⟩⟩
set_option maxRecDepth 100000 in
set_option maxHeartbeats 4000000 in
theorem c_X10_walkCameBy (l : Launch) (hl : l.stackTraces = false) (d : Nat) (hd : 0 ≤ d) (h : mH) (i0 : mm_inv h) : mm_Met l d yX10_walkCameBy cX10_walkCameBy 1 (some .boolean) [mR 7] h (mm_pi fun r h2 => h2 = h ∧ (r = (h.1 7 11))) mm_nx 0 0 := by
  refine mm_ofW (ls := [mR 7]) hl (by decide) rfl (Nat.le_of_ble_eq_true rfl) ?_
  intro x hxl C T hnm htb
  subst hxl
  have f0 : mm_fr [] [] h h := mm_fr_rf
  refine mm_aload_n C (mm_dec dk_X10_walkCameBy 0 rfl) rfl ?_
  refine mm_geti C fl_X10_44 (mm_dec dk_X10_walkCameBy 1 rfl) rfl rfl (Or.inr rfl) ?_
  have g1 : 0 ≤ (h.1 7 11) ∧ (h.1 7 11) ≤ 1 := i0.1 7 11
  exact mm_zret C T (mm_dec dk_X10_walkCameBy 2 rfl) (by decide : 0 ≤ 0) (by decide : 0 ≤ 0) (by omega) ⟨_, rfl, ⟨rfl, rfl⟩⟩
set_option maxRecDepth 100000 in
set_option maxHeartbeats 4000000 in
theorem c_X10_moveOf (l : Launch) (hl : l.stackTraces = false) (d : Nat) (hd : 0 ≤ d) (h : mH) (i0 : mm_inv h) (p0 : Int) : mm_Met l d yX10_moveOf cX10_moveOf 1 (some .int) [mI p0] h (mm_pi fun r h2 => h2 = h ∧ ((p0 = 10 ∧ r = (-2)) ∨ (p0 = 32 ∧ r = (-2)) ∨ (p0 = 100 ∧ r = 2) ∨ (p0 = 108 ∧ r = 3) ∨ (p0 = 114 ∧ r = 1) ∨ (p0 = 117 ∧ r = 0) ∨ (p0 ≠ 10 ∧ p0 ≠ 32 ∧ p0 ≠ 100 ∧ p0 ≠ 108 ∧ p0 ≠ 114 ∧ p0 ≠ 117 ∧ r = (-1)))) mm_nx 0 0 := by
  refine mm_ofW (ls := [mI p0]) hl (by decide) rfl (Nat.le_of_ble_eq_true rfl) ?_
  intro x hxl C T hnm htb
  subst hxl
  refine mm_rng (fun hr _ => ?_)
  have ap0 : -2147483648 ≤ p0 ∧ p0 < 2147483648 := mm_ok_at hr (i := 0) rfl
  have f0 : mm_fr [] [] h h := mm_fr_rf
  refine mm_iload_n C (mm_dec dk_X10_moveOf 0 rfl) rfl ?_
  by_cases c1_0 : p0 = 10
  · refine mm_lookup 71 C (mm_dec dk_X10_moveOf 1 rfl) (by decide +kernel) (by rw [c1_0]; decide +kernel) ?_
    refine mm_bipush C (mm_dec dk_X10_moveOf 12 rfl) ⟨by decide, by decide⟩ ?_
    exact mm_iret C T (mm_dec dk_X10_moveOf 13 rfl) (by decide : 0 ≤ 0) (by decide : 0 ≤ 0) ⟨_, rfl, ⟨rfl, Or.inl ⟨by omega, rfl⟩⟩⟩
  by_cases c1_1 : p0 = 32
  · refine mm_lookup 68 C (mm_dec dk_X10_moveOf 1 rfl) (by decide +kernel) (by rw [c1_1]; decide +kernel) ?_
    refine mm_bipush C (mm_dec dk_X10_moveOf 10 rfl) ⟨by decide, by decide⟩ ?_
    exact mm_iret C T (mm_dec dk_X10_moveOf 11 rfl) (by decide : 0 ≤ 0) (by decide : 0 ≤ 0) ⟨_, rfl, ⟨rfl, Or.inr (Or.inl ⟨by omega, rfl⟩)⟩⟩
  by_cases c1_2 : p0 = 100
  · refine mm_lookup 64 C (mm_dec dk_X10_moveOf 1 rfl) (by decide +kernel) (by rw [c1_2]; decide +kernel) ?_
    refine mm_iconst C (mm_dec dk_X10_moveOf 6 rfl) ⟨by decide, by decide⟩ ?_
    exact mm_iret C T (mm_dec dk_X10_moveOf 7 rfl) (by decide : 0 ≤ 0) (by decide : 0 ≤ 0) ⟨_, rfl, ⟨rfl, Or.inr (Or.inr (Or.inl ⟨by omega, rfl⟩))⟩⟩
  by_cases c1_3 : p0 = 108
  · refine mm_lookup 66 C (mm_dec dk_X10_moveOf 1 rfl) (by decide +kernel) (by rw [c1_3]; decide +kernel) ?_
    refine mm_iconst C (mm_dec dk_X10_moveOf 8 rfl) ⟨by decide, by decide⟩ ?_
    exact mm_iret C T (mm_dec dk_X10_moveOf 9 rfl) (by decide : 0 ≤ 0) (by decide : 0 ≤ 0) ⟨_, rfl, ⟨rfl, Or.inr (Or.inr (Or.inr (Or.inl ⟨by omega, rfl⟩)))⟩⟩
  by_cases c1_4 : p0 = 114
  · refine mm_lookup 62 C (mm_dec dk_X10_moveOf 1 rfl) (by decide +kernel) (by rw [c1_4]; decide +kernel) ?_
    refine mm_iconst C (mm_dec dk_X10_moveOf 4 rfl) ⟨by decide, by decide⟩ ?_
    exact mm_iret C T (mm_dec dk_X10_moveOf 5 rfl) (by decide : 0 ≤ 0) (by decide : 0 ≤ 0) ⟨_, rfl, ⟨rfl, Or.inr (Or.inr (Or.inr (Or.inr (Or.inl ⟨by omega, rfl⟩))))⟩⟩
  by_cases c1_5 : p0 = 117
  · refine mm_lookup 60 C (mm_dec dk_X10_moveOf 1 rfl) (by decide +kernel) (by rw [c1_5]; decide +kernel) ?_
    refine mm_iconst C (mm_dec dk_X10_moveOf 2 rfl) ⟨by decide, by decide⟩ ?_
    exact mm_iret C T (mm_dec dk_X10_moveOf 3 rfl) (by decide : 0 ≤ 0) (by decide : 0 ≤ 0) ⟨_, rfl, ⟨rfl, Or.inr (Or.inr (Or.inr (Or.inr (Or.inr (Or.inl ⟨by omega, rfl⟩)))))⟩⟩
  refine mm_lookup 74 C (mm_dec dk_X10_moveOf 1 rfl) (by decide +kernel) (by simp [Op.lookupswitch.offset, Ne.symm c1_0, Ne.symm c1_1, Ne.symm c1_2, Ne.symm c1_3, Ne.symm c1_4, Ne.symm c1_5]) ?_
  refine mm_iconst C (mm_dec dk_X10_moveOf 14 rfl) ⟨by decide, by decide⟩ ?_
  exact mm_iret C T (mm_dec dk_X10_moveOf 15 rfl) (by decide : 0 ≤ 0) (by decide : 0 ≤ 0) ⟨_, rfl, ⟨rfl, Or.inr (Or.inr (Or.inr (Or.inr (Or.inr (Or.inr (⟨by omega, by omega, by omega, by omega, by omega, by omega, rfl⟩))))))⟩⟩
set_option maxRecDepth 100000 in
set_option maxHeartbeats 4000000 in
theorem c_X10_firstLeastMove (l : Launch) (hl : l.stackTraces = false) (d : Nat) (hd : 2 ≤ d) (h : mH) (i0 : mm_inv h) (p1 : Int) (bp1 : 0 ≤ p1 ∧ p1 ≤ 399) : mm_Met l d yX10_firstLeastMove cX10_firstLeastMove 4 (some .int) [mR 7, mI p1] h (mm_pi fun r h2 => (-1 ≤ r ∧ r ≤ 3) ∧ h2 = h ∧ (r = -1 ∨ mm_bes h p1 r ≠ -1)) mm_nx 0 0 := by
  refine mm_ofW (ls := [mR 7, mI p1, mU, mU]) hl (by decide) rfl (Nat.le_of_ble_eq_true rfl) ?_
  intro x hxl C T hnm htb
  subst hxl
  have C1 := mm_OK_le (d' := d - 1 + 1) (by omega) C
  refine mm_rng (fun hr _ => ?_)
  have ap1 : -2147483648 ≤ p1 ∧ p1 < 2147483648 := mm_ok_at hr (i := 1) rfl
  have f0 : mm_fr [] [] h h := mm_fr_rf
  refine mm_iconst C (mm_dec dk_X10_firstLeastMove 0 rfl) ⟨by decide, by decide⟩ ?_
  have J2 : ∀ (n : Nat) (x2_2 : Int) (bx2_2 : 0 ≤ x2_2 ∧ x2_2 ≤ 4), (4 - x2_2 : Int) < n → mm_W x 0 0 2 [mR 7, mI p1, mI x2_2, mU] [] h := by
    intro n
    induction n with
    | zero =>
      intro x2_2 bx2_2 hm
      exfalso; omega
    | succ n ih2 =>
      intro x2_2 bx2_2 hm2
      refine mm_iload_n C (mm_dec dk_X10_firstLeastMove 2 rfl) rfl ?_
      refine mm_iconst C (mm_dec dk_X10_firstLeastMove 3 rfl) ⟨by decide, by decide⟩ ?_
      refine mm_icmp_ge (tgt := 87) C (mm_dec dk_X10_firstLeastMove 4 rfl) (by decide) (fun c4 => ?_) (fun c4 => ?_)
      · skip
        refine mm_iconst C (mm_dec dk_X10_firstLeastMove 51 rfl) ⟨by decide, by decide⟩ ?_
        exact mm_iret C T (mm_dec dk_X10_firstLeastMove 52 rfl) (by decide : 0 ≤ 0) (by decide : 0 ≤ 0) ⟨_, rfl, ⟨⟨by omega, by omega⟩, rfl, by omega⟩⟩
      · skip
        refine mm_aload_n C (mm_dec dk_X10_firstLeastMove 5 rfl) rfl ?_
        refine mm_getr (t := 1) C fl_X10_48 (mm_dec dk_X10_firstLeastMove 6 rfl) rfl rfl (mm_ref i0 rfl) ?_
        refine mm_iload_n C (mm_dec dk_X10_firstLeastMove 7 rfl) rfl ?_
        refine mm_iload_n C (mm_dec dk_X10_firstLeastMove 8 rfl) rfl ?_
        refine mm_cVi (rest := []) C1 ev_X10_61 (mm_dec dk_X10_firstLeastMove 9 rfl) (c_X5_beside x.2.1 hl (d - 1) (by omega) h i0 p1 x2_2 ⟨by omega, by omega⟩) rfl rfl (Nat.le_of_ble_eq_true rfl) ⟨by decide, by decide⟩ rfl (fun r13 h13c hp13 => ?_) (fun _ _ q => q.elim)
        obtain ⟨b13, z13, y13_0⟩ := hp13
        rw [z13]
        refine mm_istore_nL (ls2 := [mR 7, mI p1, mI x2_2, mI r13]) C (mm_dec dk_X10_firstLeastMove 10 rfl) (by decide) rfl ?_
        refine mm_iload_n C (mm_dec dk_X10_firstLeastMove 11 rfl) rfl ?_
        refine mm_iconst C (mm_dec dk_X10_firstLeastMove 12 rfl) ⟨by decide, by decide⟩ ?_
        have J81 : mm_W x 0 0 81 [mR 7, mI p1, mI x2_2, mU] [] h := by
          refine mm_iincL (ls2 := [mR 7, mI p1, mI (x2_2 + 1), mU]) C (mm_dec dk_X10_firstLeastMove 49 rfl) rfl (by decide) ⟨by omega, by omega⟩ rfl ?_
          refine mm_goto (tgt := 2) C (mm_dec dk_X10_firstLeastMove 50 rfl) (by decide) ?_
          exact ih2 (x2_2 + 1) ⟨by omega, by omega⟩ (by omega)
        refine mm_icmp_eq (tgt := 81) C (mm_dec dk_X10_firstLeastMove 13 rfl) (by decide) (fun c19 => ?_) (fun c19 => ?_)
        · skip
          refine mm_fgt 3 ?_
          exact J81
        · skip
          refine mm_aload_n C (mm_dec dk_X10_firstLeastMove 14 rfl) rfl ?_
          refine mm_getr (t := 1) C fl_X10_48 (mm_dec dk_X10_firstLeastMove 15 rfl) rfl rfl (mm_ref i0 rfl) ?_
          refine mm_iload_n C (mm_dec dk_X10_firstLeastMove 16 rfl) rfl ?_
          refine mm_cVi (rest := []) C1 ev_X10_87 (mm_dec dk_X10_firstLeastMove 17 rfl) (c_X5_canEnter x.2.1 hl (d - 1) (by omega) h i0 r13 ⟨by omega, by omega⟩) rfl rfl (Nat.le_of_ble_eq_true rfl) ⟨by decide, by decide⟩ rfl (fun r27 h27c hp27 => ?_) (fun _ _ q => q.elim)
          obtain ⟨z27, y27⟩ := hp27
          rw [z27]
          have g3 : 0 ≤ (h.2.1 6 (h.2.1 2 r13)) ∧ (h.2.1 6 (h.2.1 2 r13)) ≤ 99 := i0.2.1 6 (h.2.1 2 r13)
          have g4 : 0 ≤ (h.2.1 2 r13) ∧ (h.2.1 2 r13) ≤ 7 := i0.2.1 2 r13
          refine mm_if_eq (tgt := 81) C (mm_dec dk_X10_firstLeastMove 18 rfl) (by decide) (fun c30 => ?_) (fun c30 => ?_)
          · skip
            refine mm_fgt 3 ?_
            exact J81
          · skip
            refine mm_aload_n C (mm_dec dk_X10_firstLeastMove 19 rfl) rfl ?_
            refine mm_getr (t := 8) C fl_X10_9 (mm_dec dk_X10_firstLeastMove 20 rfl) rfl rfl (mm_ref i0 rfl) ?_
            refine mm_iload_n C (mm_dec dk_X10_firstLeastMove 21 rfl) rfl ?_
            refine mm_iald C (mm_dec dk_X10_firstLeastMove 22 rfl) rfl (by omega) (by omega) ?_
            have g5 : -2147483648 ≤ (h.2.1 8 r13) ∧ (h.2.1 8 r13) ≤ 2147483647 := i0.2.1 8 r13
            refine mm_aload_n C (mm_dec dk_X10_firstLeastMove 23 rfl) rfl ?_
            refine mm_getr (t := 8) C fl_X10_9 (mm_dec dk_X10_firstLeastMove 24 rfl) rfl rfl (mm_ref i0 rfl) ?_
            refine mm_iload_n C (mm_dec dk_X10_firstLeastMove 25 rfl) rfl ?_
            refine mm_iald C (mm_dec dk_X10_firstLeastMove 26 rfl) rfl (by omega) (by omega) ?_
            have g6 : -2147483648 ≤ (h.2.1 8 p1) ∧ (h.2.1 8 p1) ≤ 2147483647 := i0.2.1 8 p1
            refine mm_icmp_ge (tgt := 81) C (mm_dec dk_X10_firstLeastMove 27 rfl) (by decide) (fun c45 => ?_) (fun c45 => ?_)
            · skip
              refine mm_fgt 3 ?_
              exact J81
            · skip
              refine mm_aload_n C (mm_dec dk_X10_firstLeastMove 28 rfl) rfl ?_
              refine mm_getr (t := 8) C fl_X10_9 (mm_dec dk_X10_firstLeastMove 29 rfl) rfl rfl (mm_ref i0 rfl) ?_
              refine mm_iload_n C (mm_dec dk_X10_firstLeastMove 30 rfl) rfl ?_
              refine mm_iald C (mm_dec dk_X10_firstLeastMove 31 rfl) rfl (by omega) (by omega) ?_
              refine mm_aload_n C (mm_dec dk_X10_firstLeastMove 32 rfl) rfl ?_
              refine mm_getr (t := 1) C fl_X10_48 (mm_dec dk_X10_firstLeastMove 33 rfl) rfl rfl (mm_ref i0 rfl) ?_
              refine mm_iload_n C (mm_dec dk_X10_firstLeastMove 34 rfl) rfl ?_
              refine mm_iload_n C (mm_dec dk_X10_firstLeastMove 35 rfl) rfl ?_
              refine mm_cVi (rest := [mI (h.2.1 8 r13)]) C1 ev_X10_91 (mm_dec dk_X10_firstLeastMove 36 rfl) (c_X5_secondsOf x.2.1 hl (d - 1) (by omega) h i0 p1 r13 ⟨by omega, by omega⟩ ⟨by omega, by omega⟩) rfl rfl (Nat.le_of_ble_eq_true rfl) ⟨by decide, by decide⟩ rfl (fun r60 h60c hp60 => ?_) (fun _ _ q => q.elim)
              obtain ⟨b60, z60⟩ := hp60
              rw [z60]
              refine mm_sipush C (mm_dec dk_X10_firstLeastMove 37 rfl) ⟨by decide, by decide⟩ ?_
              refine mm_imul C (mm_dec dk_X10_firstLeastMove 38 rfl) ⟨by omega, by omega⟩ ?_
              refine mm_iaddw C (mm_dec dk_X10_firstLeastMove 39 rfl) ?_
              have g8 : -2147483648 ≤ (mm_w ((h.2.1 8 r13) + (r60 * 512))) ∧ (mm_w ((h.2.1 8 r13) + (r60 * 512))) < 2147483648 := mm_w_rg _
              refine mm_iconst C (mm_dec dk_X10_firstLeastMove 40 rfl) ⟨by decide, by decide⟩ ?_
              refine mm_iaddw C (mm_dec dk_X10_firstLeastMove 41 rfl) ?_
              have g9 : -2147483648 ≤ (mm_w ((mm_w ((h.2.1 8 r13) + (r60 * 512))) + 1)) ∧ (mm_w ((mm_w ((h.2.1 8 r13) + (r60 * 512))) + 1)) < 2147483648 := mm_w_rg _
              refine mm_aload_n C (mm_dec dk_X10_firstLeastMove 42 rfl) rfl ?_
              refine mm_getr (t := 8) C fl_X10_9 (mm_dec dk_X10_firstLeastMove 43 rfl) rfl rfl (mm_ref i0 rfl) ?_
              refine mm_iload_n C (mm_dec dk_X10_firstLeastMove 44 rfl) rfl ?_
              refine mm_iald C (mm_dec dk_X10_firstLeastMove 45 rfl) rfl (by omega) (by omega) ?_
              refine mm_icmp_ne (tgt := 81) C (mm_dec dk_X10_firstLeastMove 46 rfl) (by decide) (fun c76 => ?_) (fun c76 => ?_)
              · skip
                refine mm_fgt 3 ?_
                exact J81
              · skip
                refine mm_iload_n C (mm_dec dk_X10_firstLeastMove 47 rfl) rfl ?_
                exact mm_iret C T (mm_dec dk_X10_firstLeastMove 48 rfl) (by decide : 0 ≤ 0) (by decide : 0 ≤ 0) ⟨_, rfl, ⟨⟨by omega, by omega⟩, rfl, by omega⟩⟩
  refine mm_istore_nL (ls2 := [mR 7, mI p1, mI 0, mU]) C (mm_dec dk_X10_firstLeastMove 1 rfl) (by decide) rfl ?_
  exact J2 (((4 - 0) : Int) + 1).toNat 0 ⟨by omega, by omega⟩ (by omega)
set_option maxRecDepth 100000 in
set_option maxHeartbeats 4000000 in
theorem c_X10_manyBy (l : Launch) (hl : l.stackTraces = false) (d : Nat) (hd : 2 ≤ d) (h : mH) (i0 : mm_inv h) (p1 : Int) (bp1 : 0 ≤ p1 ∧ p1 ≤ 399) : mm_Met l d yX10_manyBy cX10_manyBy 6 (some .long) [mR 7, mI p1] h (mm_pl fun r h2 => h2 = h) mm_nx 0 0 := by
  refine mm_ofW (ls := [mR 7, mI p1, mU, mU, mU, mU]) hl (by decide) rfl (Nat.le_of_ble_eq_true rfl) ?_
  intro x hxl C T hnm htb
  subst hxl
  have C1 := mm_OK_le (d' := d - 1 + 1) (by omega) C
  refine mm_rng (fun hr _ => ?_)
  have ap1 : -2147483648 ≤ p1 ∧ p1 < 2147483648 := mm_ok_at hr (i := 1) rfl
  have f0 : mm_fr [] [] h h := mm_fr_rf
  refine mm_lconst (z := 0) C (mm_dec dk_X10_manyBy 0 rfl) rfl ?_
  refine mm_lstore_nL (ls2 := [mR 7, mI p1, mL 0, mU, mU, mU]) C (mm_dec dk_X10_manyBy 1 rfl) (by decide) rfl ?_
  refine mm_iconst C (mm_dec dk_X10_manyBy 2 rfl) ⟨by decide, by decide⟩ ?_
  have J5 : ∀ (n : Nat) (x5_2 : Int) (bx5_2 : -9223372036854775808 ≤ x5_2 ∧ x5_2 < 9223372036854775808) (x5_4 : Int) (bx5_4 : 0 ≤ x5_4 ∧ x5_4 ≤ 4), (4 - x5_4 : Int) < n → mm_W x 0 0 5 [mR 7, mI p1, mL x5_2, mU, mI x5_4, mU] [] h := by
    intro n
    induction n with
    | zero =>
      intro x5_2 bx5_2 x5_4 bx5_4 hm
      exfalso; omega
    | succ n ih5 =>
      intro x5_2 bx5_2 x5_4 bx5_4 hm5
      refine mm_iload C (mm_dec dk_X10_manyBy 4 rfl) rfl ?_
      refine mm_iconst C (mm_dec dk_X10_manyBy 5 rfl) ⟨by decide, by decide⟩ ?_
      refine mm_icmp_ge (tgt := 108) C (mm_dec dk_X10_manyBy 6 rfl) (by decide) (fun c8 => ?_) (fun c8 => ?_)
      · skip
        refine mm_lload_n C (mm_dec dk_X10_manyBy 58 rfl) rfl ?_
        refine mm_ldc2 (z := 1000000000000) C (mm_dec dk_X10_manyBy 59 rfl) kc_X10_111 (by decide) ?_
        refine mm_mminl C1 ml_X10_113 sm_J9_min_f86c9 mw_J9_min_f86c9.2.1 mw_J9_min_f86c9.1 (mm_dec dk_X10_manyBy 60 rfl) (Nat.le_of_ble_eq_true rfl) ⟨by decide, by decide⟩ (fun r112 hr112 => ?_)
        exact mm_lret C T (mm_dec dk_X10_manyBy 61 rfl) (by decide : 0 ≤ 0) (by decide : 0 ≤ 0) ⟨_, rfl, rfl⟩
      · skip
        refine mm_aload_n C (mm_dec dk_X10_manyBy 7 rfl) rfl ?_
        refine mm_getr (t := 1) C fl_X10_48 (mm_dec dk_X10_manyBy 8 rfl) rfl rfl (mm_ref i0 rfl) ?_
        refine mm_iload_n C (mm_dec dk_X10_manyBy 9 rfl) rfl ?_
        refine mm_iload C (mm_dec dk_X10_manyBy 10 rfl) rfl ?_
        refine mm_cVi (rest := []) C1 ev_X10_61 (mm_dec dk_X10_manyBy 11 rfl) (c_X5_beside x.2.1 hl (d - 1) (by omega) h i0 p1 x5_4 ⟨by omega, by omega⟩) rfl rfl (Nat.le_of_ble_eq_true rfl) ⟨by decide, by decide⟩ rfl (fun r18 h18c hp18 => ?_) (fun _ _ q => q.elim)
        obtain ⟨b18, z18, y18_0⟩ := hp18
        rw [z18]
        refine mm_istoreL (ls2 := [mR 7, mI p1, mL x5_2, mU, mI x5_4, mI r18]) C (mm_dec dk_X10_manyBy 12 rfl) (by decide) rfl ?_
        refine mm_iload C (mm_dec dk_X10_manyBy 13 rfl) rfl ?_
        refine mm_iconst C (mm_dec dk_X10_manyBy 14 rfl) ⟨by decide, by decide⟩ ?_
        have J102 : ∀ (x102_2 : Int) (bx102_2 : -9223372036854775808 ≤ x102_2 ∧ x102_2 < 9223372036854775808), mm_W x 0 0 102 [mR 7, mI p1, mL x102_2, mU, mI x5_4, mU] [] h := by
          intro x102_2 bx102_2
          refine mm_iincL (ls2 := [mR 7, mI p1, mL x102_2, mU, mI (x5_4 + 1), mU]) C (mm_dec dk_X10_manyBy 56 rfl) rfl (by decide) ⟨by omega, by omega⟩ rfl ?_
          refine mm_goto (tgt := 5) C (mm_dec dk_X10_manyBy 57 rfl) (by decide) ?_
          exact ih5 x102_2 ⟨by omega, by omega⟩ (x5_4 + 1) ⟨by omega, by omega⟩ (by omega)
        refine mm_icmp_eq (tgt := 102) C (mm_dec dk_X10_manyBy 15 rfl) (by decide) (fun c26 => ?_) (fun c26 => ?_)
        · skip
          refine mm_fgt 5 ?_
          exact J102 x5_2 ⟨by omega, by omega⟩
        · skip
          refine mm_aload_n C (mm_dec dk_X10_manyBy 16 rfl) rfl ?_
          refine mm_getr (t := 1) C fl_X10_48 (mm_dec dk_X10_manyBy 17 rfl) rfl rfl (mm_ref i0 rfl) ?_
          refine mm_iload C (mm_dec dk_X10_manyBy 18 rfl) rfl ?_
          refine mm_cVi (rest := []) C1 ev_X10_87 (mm_dec dk_X10_manyBy 19 rfl) (c_X5_canEnter x.2.1 hl (d - 1) (by omega) h i0 r18 ⟨by omega, by omega⟩) rfl rfl (Nat.le_of_ble_eq_true rfl) ⟨by decide, by decide⟩ rfl (fun r35 h35c hp35 => ?_) (fun _ _ q => q.elim)
          obtain ⟨z35, y35⟩ := hp35
          rw [z35]
          have g3 : 0 ≤ (h.2.1 6 (h.2.1 2 r18)) ∧ (h.2.1 6 (h.2.1 2 r18)) ≤ 99 := i0.2.1 6 (h.2.1 2 r18)
          have g4 : 0 ≤ (h.2.1 2 r18) ∧ (h.2.1 2 r18) ≤ 7 := i0.2.1 2 r18
          refine mm_if_eq (tgt := 102) C (mm_dec dk_X10_manyBy 20 rfl) (by decide) (fun c38 => ?_) (fun c38 => ?_)
          · skip
            refine mm_fgt 5 ?_
            exact J102 x5_2 ⟨by omega, by omega⟩
          · skip
            refine mm_aload_n C (mm_dec dk_X10_manyBy 21 rfl) rfl ?_
            refine mm_getr (t := 8) C fl_X10_9 (mm_dec dk_X10_manyBy 22 rfl) rfl rfl (mm_ref i0 rfl) ?_
            refine mm_iload C (mm_dec dk_X10_manyBy 23 rfl) rfl ?_
            refine mm_iald C (mm_dec dk_X10_manyBy 24 rfl) rfl (by omega) (by omega) ?_
            have g5 : -2147483648 ≤ (h.2.1 8 r18) ∧ (h.2.1 8 r18) ≤ 2147483647 := i0.2.1 8 r18
            refine mm_aload_n C (mm_dec dk_X10_manyBy 25 rfl) rfl ?_
            refine mm_getr (t := 8) C fl_X10_9 (mm_dec dk_X10_manyBy 26 rfl) rfl rfl (mm_ref i0 rfl) ?_
            refine mm_iload_n C (mm_dec dk_X10_manyBy 27 rfl) rfl ?_
            refine mm_iald C (mm_dec dk_X10_manyBy 28 rfl) rfl (by omega) (by omega) ?_
            have g6 : -2147483648 ≤ (h.2.1 8 p1) ∧ (h.2.1 8 p1) ≤ 2147483647 := i0.2.1 8 p1
            refine mm_icmp_ge (tgt := 102) C (mm_dec dk_X10_manyBy 29 rfl) (by decide) (fun c54 => ?_) (fun c54 => ?_)
            · skip
              refine mm_fgt 5 ?_
              exact J102 x5_2 ⟨by omega, by omega⟩
            · skip
              refine mm_aload_n C (mm_dec dk_X10_manyBy 30 rfl) rfl ?_
              refine mm_getr (t := 8) C fl_X10_9 (mm_dec dk_X10_manyBy 31 rfl) rfl rfl (mm_ref i0 rfl) ?_
              refine mm_iload C (mm_dec dk_X10_manyBy 32 rfl) rfl ?_
              refine mm_iald C (mm_dec dk_X10_manyBy 33 rfl) rfl (by omega) (by omega) ?_
              refine mm_sipush C (mm_dec dk_X10_manyBy 34 rfl) ⟨by decide, by decide⟩ ?_
              refine mm_idivw C (mm_dec dk_X10_manyBy 35 rfl) (by omega) ?_
              have g8 : -2147483648 ≤ (mm_w (Int.tdiv (h.2.1 8 r18) 512)) ∧ (mm_w (Int.tdiv (h.2.1 8 r18) 512)) < 2147483648 := mm_w_rg _
              refine mm_aload_n C (mm_dec dk_X10_manyBy 36 rfl) rfl ?_
              refine mm_getr (t := 1) C fl_X10_48 (mm_dec dk_X10_manyBy 37 rfl) rfl rfl (mm_ref i0 rfl) ?_
              refine mm_iload_n C (mm_dec dk_X10_manyBy 38 rfl) rfl ?_
              refine mm_iload C (mm_dec dk_X10_manyBy 39 rfl) rfl ?_
              refine mm_cVi (rest := [mI (mm_w (Int.tdiv (h.2.1 8 r18) 512))]) C1 ev_X10_91 (mm_dec dk_X10_manyBy 40 rfl) (c_X5_secondsOf x.2.1 hl (d - 1) (by omega) h i0 p1 r18 ⟨by omega, by omega⟩ ⟨by omega, by omega⟩) rfl rfl (Nat.le_of_ble_eq_true rfl) ⟨by decide, by decide⟩ rfl (fun r75 h75c hp75 => ?_) (fun _ _ q => q.elim)
              obtain ⟨b75, z75⟩ := hp75
              rw [z75]
              refine mm_iaddw C (mm_dec dk_X10_manyBy 41 rfl) ?_
              have g10 : -2147483648 ≤ (mm_w ((mm_w (Int.tdiv (h.2.1 8 r18) 512)) + r75)) ∧ (mm_w ((mm_w (Int.tdiv (h.2.1 8 r18) 512)) + r75)) < 2147483648 := mm_w_rg _
              refine mm_aload_n C (mm_dec dk_X10_manyBy 42 rfl) rfl ?_
              refine mm_getr (t := 8) C fl_X10_9 (mm_dec dk_X10_manyBy 43 rfl) rfl rfl (mm_ref i0 rfl) ?_
              refine mm_iload_n C (mm_dec dk_X10_manyBy 44 rfl) rfl ?_
              refine mm_iald C (mm_dec dk_X10_manyBy 45 rfl) rfl (by omega) (by omega) ?_
              refine mm_sipush C (mm_dec dk_X10_manyBy 46 rfl) ⟨by decide, by decide⟩ ?_
              refine mm_idivw C (mm_dec dk_X10_manyBy 47 rfl) (by omega) ?_
              have g12 : -2147483648 ≤ (mm_w (Int.tdiv (h.2.1 8 p1) 512)) ∧ (mm_w (Int.tdiv (h.2.1 8 p1) 512)) < 2147483648 := mm_w_rg _
              refine mm_icmp_ne (tgt := 102) C (mm_dec dk_X10_manyBy 48 rfl) (by decide) (fun c89 => ?_) (fun c89 => ?_)
              · skip
                refine mm_fgt 5 ?_
                exact J102 x5_2 ⟨by omega, by omega⟩
              · skip
                refine mm_lload_n C (mm_dec dk_X10_manyBy 49 rfl) rfl ?_
                refine mm_aload_n C (mm_dec dk_X10_manyBy 50 rfl) rfl ?_
                refine mm_getr (t := 12) C fl_X10_24 (mm_dec dk_X10_manyBy 51 rfl) rfl rfl (mm_ref i0 rfl) ?_
                refine mm_iload C (mm_dec dk_X10_manyBy 52 rfl) rfl ?_
                refine mm_lald C (mm_dec dk_X10_manyBy 53 rfl) rfl (by omega) (by omega) ?_
                have g13 : -9223372036854775808 ≤ (h.2.1 12 r18) ∧ (h.2.1 12 r18) ≤ 9223372036854775807 := i0.2.1 12 r18
                refine mm_ladd C (mm_dec dk_X10_manyBy 54 rfl) ?_
                have g14 : -9223372036854775808 ≤ (mm_vladd x5_2 (h.2.1 12 r18)) ∧ (mm_vladd x5_2 (h.2.1 12 r18)) < 9223372036854775808 := mm_rng64 _
                refine mm_lstore_nL (ls2 := [mR 7, mI p1, mL (mm_vladd x5_2 (h.2.1 12 r18)), mU, mI x5_4, mI r18]) C (mm_dec dk_X10_manyBy 55 rfl) (by decide) rfl ?_
                refine mm_fgt 5 ?_
                exact J102 (mm_vladd x5_2 (h.2.1 12 r18)) ⟨by omega, by omega⟩
  refine mm_istoreL (ls2 := [mR 7, mI p1, mL 0, mU, mI 0, mU]) C (mm_dec dk_X10_manyBy 3 rfl) (by decide) rfl ?_
  exact J5 (((4 - 0) : Int) + 1).toNat 0 ⟨by omega, by omega⟩ 0 ⟨by omega, by omega⟩ (by omega)
set_option maxRecDepth 100000 in
set_option maxHeartbeats 4000000 in
theorem c_X10_rise (l : Launch) (hl : l.stackTraces = false) (d : Nat) (hd : 0 ≤ d) (h : mH) (i0 : mm_inv h) (p1 : Int) (p2 : Int) (bp1 : 0 ≤ p1 ∧ p1 ≤ 399) (bp2 : 0 ≤ p2 ∧ p2 ≤ 399) : mm_Met l d yX10_rise cX10_rise 5 none [mR 7, mI p1, mI p2] h (mm_pv fun h2 => mm_inv h2 ∧ mm_fr [] [9, 10] h h2 ∧ mm_cnt h ≤ mm_cnt h2) mm_nx 0 0 := by
  refine mm_ofW (ls := [mR 7, mI p1, mI p2, mU, mU]) hl (by decide) rfl (Nat.le_of_ble_eq_true rfl) ?_
  intro x hxl C T hnm htb
  subst hxl
  refine mm_rng (fun hr _ => ?_)
  have ap1 : -2147483648 ≤ p1 ∧ p1 < 2147483648 := mm_ok_at hr (i := 1) rfl
  have ap2 : -2147483648 ≤ p2 ∧ p2 < 2147483648 := mm_ok_at hr (i := 2) rfl
  have f0 : mm_fr [] [9, 10] h h := mm_fr_rf
  refine mm_iload_n C (mm_dec dk_X10_rise 0 rfl) rfl ?_
  have J2 : ∀ (n : Nat) (x2_3 : Int) (bx2_3 : 0 ≤ x2_3 ∧ x2_3 ≤ 399) (h2_ : mH) (i2_ : mm_inv h2_) (f2_ : mm_fr [] [9, 10] h h2_) (w2_0 : mm_cnt h ≤ mm_cnt h2_), (x2_3 : Int) < n → mm_W x 0 0 2 [mR 7, mI p1, mU, mI x2_3, mU] [] h2_ := by
    intro n
    induction n with
    | zero =>
      intro x2_3 bx2_3 h2_ i2_ f2_ w2_0 hm
      exfalso; omega
    | succ n ih2 =>
      intro x2_3 bx2_3 h2_ i2_ f2_ w2_0 hm2
      refine mm_iload_n C (mm_dec dk_X10_rise 2 rfl) rfl ?_
      have J68 : mm_W x 0 0 68 [mR 7, mI p1, mU, mI x2_3, mU] [] h2_ := by
        refine mm_aload_n C (mm_dec dk_X10_rise 45 rfl) rfl ?_
        refine mm_getr (t := 9) C fl_X10_15 (mm_dec dk_X10_rise 46 rfl) rfl rfl (mm_ref i2_ rfl) ?_
        refine mm_iload_n C (mm_dec dk_X10_rise 47 rfl) rfl ?_
        refine mm_iload_n C (mm_dec dk_X10_rise 48 rfl) rfl ?_
        refine mm_iast C (mm_dec dk_X10_rise 49 rfl) rfl (by omega) (by omega) ?_
        have i1 : mm_inv (mm_pa h2_ 9 x2_3 p1) := mm_inv_pa i2_ (show 0 ≤ p1 ∧ p1 ≤ 399 from ⟨by omega, by omega⟩)
        have f1 : mm_fr [] [9, 10] h (mm_pa h2_ 9 x2_3 p1) := mm_fr_pa f2_ (by decide)
        obtain ⟨h1, eh1⟩ : ∃ z, z = mm_pa h2_ 9 x2_3 p1 := ⟨_, rfl⟩
        rw [← eh1] at i1 f1 ⊢
        have nh1 : mm_cnt h1 = mm_cnt h2_ := by rw [eh1]; exact mm_cnt_eq (fun _ => mm_pa_ne _ _ (fun q => absurd q.1 (by decide)))
        refine mm_aload_n C (mm_dec dk_X10_rise 50 rfl) rfl ?_
        refine mm_getr (t := 10) C fl_X10_18 (mm_dec dk_X10_rise 51 rfl) rfl rfl (mm_ref i1 rfl) ?_
        refine mm_iload_n C (mm_dec dk_X10_rise 52 rfl) rfl ?_
        refine mm_iload_n C (mm_dec dk_X10_rise 53 rfl) rfl ?_
        refine mm_iast C (mm_dec dk_X10_rise 54 rfl) rfl (by omega) (by omega) ?_
        have i2 : mm_inv (mm_pa h1 10 p1 x2_3) := mm_inv_pa i1 (show -1 ≤ x2_3 ∧ x2_3 ≤ 399 from ⟨by omega, by omega⟩)
        have f2 : mm_fr [] [9, 10] h (mm_pa h1 10 p1 x2_3) := mm_fr_pa f1 (by decide)
        obtain ⟨h2, eh2⟩ : ∃ z, z = mm_pa h1 10 p1 x2_3 := ⟨_, rfl⟩
        rw [← eh2] at i2 f2 ⊢
        have nh2 : mm_cnt h1 ≤ mm_cnt h2 ∧ (h1.2.1 10 p1 ≠ -1 ∨ mm_cnt h1 + 1 ≤ mm_cnt h2) := by rw [eh2]; exact mm_cnt_put ⟨by omega, by omega⟩ (by omega)
        exact mm_vret C T (mm_dec dk_X10_rise 55 rfl) (by decide : 0 ≤ 0) (by decide : 0 ≤ 0) ⟨rfl, ⟨i2, f2, by omega⟩⟩
      refine mm_if_le (tgt := 68) C (mm_dec dk_X10_rise 3 rfl) (by decide) (fun c3 => ?_) (fun c3 => ?_)
      · skip
        exact J68
      · skip
        refine mm_aload_n C (mm_dec dk_X10_rise 4 rfl) rfl ?_
        refine mm_getr (t := 8) C fl_X10_9 (mm_dec dk_X10_rise 5 rfl) rfl rfl (mm_ref i2_ rfl) ?_
        refine mm_aload_n C (mm_dec dk_X10_rise 6 rfl) rfl ?_
        refine mm_getr (t := 9) C fl_X10_15 (mm_dec dk_X10_rise 7 rfl) rfl rfl (mm_ref i2_ rfl) ?_
        refine mm_iload_n C (mm_dec dk_X10_rise 8 rfl) rfl ?_
        refine mm_iconst C (mm_dec dk_X10_rise 9 rfl) ⟨by decide, by decide⟩ ?_
        refine mm_isub C (mm_dec dk_X10_rise 10 rfl) ⟨by omega, by omega⟩ ?_
        refine mm_iconst C (mm_dec dk_X10_rise 11 rfl) ⟨by decide, by decide⟩ ?_
        refine mm_idiv C (mm_dec dk_X10_rise 12 rfl) ⟨by omega, by omega⟩ (by omega) ?_
        refine mm_iald C (mm_dec dk_X10_rise 13 rfl) rfl (by omega) (by omega) ?_
        have g3 : 0 ≤ (h2_.2.1 9 ((x2_3 - 1) / 2)) ∧ (h2_.2.1 9 ((x2_3 - 1) / 2)) ≤ 399 := i2_.2.1 9 ((x2_3 - 1) / 2)
        refine mm_iald C (mm_dec dk_X10_rise 14 rfl) rfl (by omega) (by omega) ?_
        have g4 : -2147483648 ≤ (h2_.2.1 8 (h2_.2.1 9 ((x2_3 - 1) / 2))) ∧ (h2_.2.1 8 (h2_.2.1 9 ((x2_3 - 1) / 2))) ≤ 2147483647 := i2_.2.1 8 (h2_.2.1 9 ((x2_3 - 1) / 2))
        refine mm_aload_n C (mm_dec dk_X10_rise 15 rfl) rfl ?_
        refine mm_getr (t := 8) C fl_X10_9 (mm_dec dk_X10_rise 16 rfl) rfl rfl (mm_ref i2_ rfl) ?_
        refine mm_iload_n C (mm_dec dk_X10_rise 17 rfl) rfl ?_
        refine mm_iald C (mm_dec dk_X10_rise 18 rfl) rfl (by omega) (by omega) ?_
        have g5 : -2147483648 ≤ (h2_.2.1 8 p1) ∧ (h2_.2.1 8 p1) ≤ 2147483647 := i2_.2.1 8 p1
        refine mm_icmp_le (tgt := 68) C (mm_dec dk_X10_rise 19 rfl) (by decide) (fun c27 => ?_) (fun c27 => ?_)
        · skip
          exact J68
        · skip
          refine mm_iload_n C (mm_dec dk_X10_rise 20 rfl) rfl ?_
          refine mm_iconst C (mm_dec dk_X10_rise 21 rfl) ⟨by decide, by decide⟩ ?_
          refine mm_isub C (mm_dec dk_X10_rise 22 rfl) ⟨by omega, by omega⟩ ?_
          refine mm_iconst C (mm_dec dk_X10_rise 23 rfl) ⟨by decide, by decide⟩ ?_
          refine mm_idiv C (mm_dec dk_X10_rise 24 rfl) ⟨by omega, by omega⟩ (by omega) ?_
          refine mm_istoreL (ls2 := [mR 7, mI p1, mU, mI x2_3, mI ((x2_3 - 1) / 2)]) C (mm_dec dk_X10_rise 25 rfl) (by decide) rfl ?_
          refine mm_aload_n C (mm_dec dk_X10_rise 26 rfl) rfl ?_
          refine mm_getr (t := 9) C fl_X10_15 (mm_dec dk_X10_rise 27 rfl) rfl rfl (mm_ref i2_ rfl) ?_
          refine mm_iload_n C (mm_dec dk_X10_rise 28 rfl) rfl ?_
          refine mm_aload_n C (mm_dec dk_X10_rise 29 rfl) rfl ?_
          refine mm_getr (t := 9) C fl_X10_15 (mm_dec dk_X10_rise 30 rfl) rfl rfl (mm_ref i2_ rfl) ?_
          refine mm_iload C (mm_dec dk_X10_rise 31 rfl) rfl ?_
          refine mm_iald C (mm_dec dk_X10_rise 32 rfl) rfl (by omega) (by omega) ?_
          refine mm_iast C (mm_dec dk_X10_rise 33 rfl) rfl (by omega) (by omega) ?_
          have i3 : mm_inv (mm_pa h2_ 9 x2_3 (h2_.2.1 9 ((x2_3 - 1) / 2))) := mm_inv_pa i2_ (show 0 ≤ (h2_.2.1 9 ((x2_3 - 1) / 2)) ∧ (h2_.2.1 9 ((x2_3 - 1) / 2)) ≤ 399 from ⟨by omega, by omega⟩)
          have f3 : mm_fr [] [9, 10] h (mm_pa h2_ 9 x2_3 (h2_.2.1 9 ((x2_3 - 1) / 2))) := mm_fr_pa f2_ (by decide)
          obtain ⟨h3, eh3⟩ : ∃ z, z = mm_pa h2_ 9 x2_3 (h2_.2.1 9 ((x2_3 - 1) / 2)) := ⟨_, rfl⟩
          rw [← eh3] at i3 f3 ⊢
          have nh3 : mm_cnt h3 = mm_cnt h2_ := by rw [eh3]; exact mm_cnt_eq (fun _ => mm_pa_ne _ _ (fun q => absurd q.1 (by decide)))
          refine mm_aload_n C (mm_dec dk_X10_rise 34 rfl) rfl ?_
          refine mm_getr (t := 10) C fl_X10_18 (mm_dec dk_X10_rise 35 rfl) rfl rfl (mm_ref i3 rfl) ?_
          refine mm_aload_n C (mm_dec dk_X10_rise 36 rfl) rfl ?_
          refine mm_getr (t := 9) C fl_X10_15 (mm_dec dk_X10_rise 37 rfl) rfl rfl (mm_ref i3 rfl) ?_
          refine mm_iload_n C (mm_dec dk_X10_rise 38 rfl) rfl ?_
          refine mm_iald C (mm_dec dk_X10_rise 39 rfl) rfl (by omega) (by omega) ?_
          have g7 : 0 ≤ (h3.2.1 9 x2_3) ∧ (h3.2.1 9 x2_3) ≤ 399 := i3.2.1 9 x2_3
          refine mm_iload_n C (mm_dec dk_X10_rise 40 rfl) rfl ?_
          refine mm_iast C (mm_dec dk_X10_rise 41 rfl) rfl (by omega) (by omega) ?_
          have i4 : mm_inv (mm_pa h3 10 (h3.2.1 9 x2_3) x2_3) := mm_inv_pa i3 (show -1 ≤ x2_3 ∧ x2_3 ≤ 399 from ⟨by omega, by omega⟩)
          have f4 : mm_fr [] [9, 10] h (mm_pa h3 10 (h3.2.1 9 x2_3) x2_3) := mm_fr_pa f3 (by decide)
          obtain ⟨h4, eh4⟩ : ∃ z, z = mm_pa h3 10 (h3.2.1 9 x2_3) x2_3 := ⟨_, rfl⟩
          rw [← eh4] at i4 f4 ⊢
          have nh4 : mm_cnt h3 ≤ mm_cnt h4 ∧ (h3.2.1 10 (h3.2.1 9 x2_3) ≠ -1 ∨ mm_cnt h3 + 1 ≤ mm_cnt h4) := by rw [eh4]; exact mm_cnt_put ⟨by omega, by omega⟩ (by omega)
          refine mm_iload C (mm_dec dk_X10_rise 42 rfl) rfl ?_
          refine mm_istore_nL (ls2 := [mR 7, mI p1, mU, mI ((x2_3 - 1) / 2), mI ((x2_3 - 1) / 2)]) C (mm_dec dk_X10_rise 43 rfl) (by decide) rfl ?_
          refine mm_goto (tgt := 2) C (mm_dec dk_X10_rise 44 rfl) (by decide) ?_
          refine mm_fgt 4 ?_
          exact ih2 ((x2_3 - 1) / 2) ⟨by omega, by omega⟩ h4 i4 f4 (by omega) (by omega)
  refine mm_istore_nL (ls2 := [mR 7, mI p1, mI p2, mI p2, mU]) C (mm_dec dk_X10_rise 1 rfl) (by decide) rfl ?_
  refine mm_fgt 2 ?_
  exact J2 (((p2) : Int) + 1).toNat p2 ⟨by omega, by omega⟩ h i0 f0 (by omega) (by omega)
set_option maxRecDepth 100000 in
set_option maxHeartbeats 4000000 in
theorem c_X10_lesserChild (l : Launch) (hl : l.stackTraces = false) (d : Nat) (hd : 0 ≤ d) (h : mH) (i0 : mm_inv h) (p1 : Int) (bp1 : 0 ≤ p1 ∧ p1 ≤ 399) : mm_Met l d yX10_lesserChild cX10_lesserChild 3 (some .int) [mR 7, mI p1] h (mm_pi fun r h2 => h2 = h ∧ (((h.1 7 7) ≤ (((2 * p1) + 1) + 1) ∧ r = ((2 * p1) + 1)) ∨ ((((2 * p1) + 1) + 1) < (h.1 7 7) ∧ (h.2.1 8 (h.2.1 9 ((2 * p1) + 1))) ≤ (h.2.1 8 (h.2.1 9 (((2 * p1) + 1) + 1))) ∧ r = ((2 * p1) + 1)) ∨ ((((2 * p1) + 1) + 1) < (h.1 7 7) ∧ (h.2.1 8 (h.2.1 9 (((2 * p1) + 1) + 1))) < (h.2.1 8 (h.2.1 9 ((2 * p1) + 1))) ∧ r = (((2 * p1) + 1) + 1)))) mm_nx 0 0 := by
  refine mm_ofW (ls := [mR 7, mI p1, mU]) hl (by decide) rfl (Nat.le_of_ble_eq_true rfl) ?_
  intro x hxl C T hnm htb
  subst hxl
  refine mm_rng (fun hr _ => ?_)
  have ap1 : -2147483648 ≤ p1 ∧ p1 < 2147483648 := mm_ok_at hr (i := 1) rfl
  have f0 : mm_fr [] [] h h := mm_fr_rf
  refine mm_iconst C (mm_dec dk_X10_lesserChild 0 rfl) ⟨by decide, by decide⟩ ?_
  refine mm_iload_n C (mm_dec dk_X10_lesserChild 1 rfl) rfl ?_
  refine mm_imul C (mm_dec dk_X10_lesserChild 2 rfl) ⟨by omega, by omega⟩ ?_
  refine mm_iconst C (mm_dec dk_X10_lesserChild 3 rfl) ⟨by decide, by decide⟩ ?_
  refine mm_iadd C (mm_dec dk_X10_lesserChild 4 rfl) ⟨by omega, by omega⟩ ?_
  refine mm_istore_nL (ls2 := [mR 7, mI p1, mI ((2 * p1) + 1)]) C (mm_dec dk_X10_lesserChild 5 rfl) (by decide) rfl ?_
  refine mm_iload_n C (mm_dec dk_X10_lesserChild 6 rfl) rfl ?_
  refine mm_iconst C (mm_dec dk_X10_lesserChild 7 rfl) ⟨by decide, by decide⟩ ?_
  refine mm_iadd C (mm_dec dk_X10_lesserChild 8 rfl) ⟨by omega, by omega⟩ ?_
  refine mm_aload_n C (mm_dec dk_X10_lesserChild 9 rfl) rfl ?_
  refine mm_geti C fl_X10_31 (mm_dec dk_X10_lesserChild 10 rfl) rfl rfl (Or.inl rfl) ?_
  have g1 : 0 ≤ (h.1 7 7) ∧ (h.1 7 7) ≤ 400 := i0.1 7 7
  refine mm_icmp_ge (tgt := 46) C (mm_dec dk_X10_lesserChild 11 rfl) (by decide) (fun c13 => ?_) (fun c13 => ?_)
  · skip
    refine mm_iload_n C (mm_dec dk_X10_lesserChild 30 rfl) rfl ?_
    exact mm_iret C T (mm_dec dk_X10_lesserChild 31 rfl) (by decide : 0 ≤ 0) (by decide : 0 ≤ 0) ⟨_, rfl, ⟨rfl, Or.inl ⟨by omega, rfl⟩⟩⟩
  · skip
    refine mm_aload_n C (mm_dec dk_X10_lesserChild 12 rfl) rfl ?_
    refine mm_getr (t := 8) C fl_X10_9 (mm_dec dk_X10_lesserChild 13 rfl) rfl rfl (mm_ref i0 rfl) ?_
    refine mm_aload_n C (mm_dec dk_X10_lesserChild 14 rfl) rfl ?_
    refine mm_getr (t := 9) C fl_X10_15 (mm_dec dk_X10_lesserChild 15 rfl) rfl rfl (mm_ref i0 rfl) ?_
    refine mm_iload_n C (mm_dec dk_X10_lesserChild 16 rfl) rfl ?_
    refine mm_iconst C (mm_dec dk_X10_lesserChild 17 rfl) ⟨by decide, by decide⟩ ?_
    refine mm_iadd C (mm_dec dk_X10_lesserChild 18 rfl) ⟨by omega, by omega⟩ ?_
    refine mm_iald C (mm_dec dk_X10_lesserChild 19 rfl) rfl (by omega) (by omega) ?_
    have g2 : 0 ≤ (h.2.1 9 (((2 * p1) + 1) + 1)) ∧ (h.2.1 9 (((2 * p1) + 1) + 1)) ≤ 399 := i0.2.1 9 (((2 * p1) + 1) + 1)
    refine mm_iald C (mm_dec dk_X10_lesserChild 20 rfl) rfl (by omega) (by omega) ?_
    have g3 : -2147483648 ≤ (h.2.1 8 (h.2.1 9 (((2 * p1) + 1) + 1))) ∧ (h.2.1 8 (h.2.1 9 (((2 * p1) + 1) + 1))) ≤ 2147483647 := i0.2.1 8 (h.2.1 9 (((2 * p1) + 1) + 1))
    refine mm_aload_n C (mm_dec dk_X10_lesserChild 21 rfl) rfl ?_
    refine mm_getr (t := 8) C fl_X10_9 (mm_dec dk_X10_lesserChild 22 rfl) rfl rfl (mm_ref i0 rfl) ?_
    refine mm_aload_n C (mm_dec dk_X10_lesserChild 23 rfl) rfl ?_
    refine mm_getr (t := 9) C fl_X10_15 (mm_dec dk_X10_lesserChild 24 rfl) rfl rfl (mm_ref i0 rfl) ?_
    refine mm_iload_n C (mm_dec dk_X10_lesserChild 25 rfl) rfl ?_
    refine mm_iald C (mm_dec dk_X10_lesserChild 26 rfl) rfl (by omega) (by omega) ?_
    have g4 : 0 ≤ (h.2.1 9 ((2 * p1) + 1)) ∧ (h.2.1 9 ((2 * p1) + 1)) ≤ 399 := i0.2.1 9 ((2 * p1) + 1)
    refine mm_iald C (mm_dec dk_X10_lesserChild 27 rfl) rfl (by omega) (by omega) ?_
    have g5 : -2147483648 ≤ (h.2.1 8 (h.2.1 9 ((2 * p1) + 1))) ∧ (h.2.1 8 (h.2.1 9 ((2 * p1) + 1))) ≤ 2147483647 := i0.2.1 8 (h.2.1 9 ((2 * p1) + 1))
    refine mm_icmp_ge (tgt := 46) C (mm_dec dk_X10_lesserChild 28 rfl) (by decide) (fun c40 => ?_) (fun c40 => ?_)
    · skip
      refine mm_iload_n C (mm_dec dk_X10_lesserChild 30 rfl) rfl ?_
      exact mm_iret C T (mm_dec dk_X10_lesserChild 31 rfl) (by decide : 0 ≤ 0) (by decide : 0 ≤ 0) ⟨_, rfl, ⟨rfl, Or.inr (Or.inl ⟨by omega, by omega, rfl⟩)⟩⟩
    · skip
      refine mm_iincL (ls2 := [mR 7, mI p1, mI (((2 * p1) + 1) + 1)]) C (mm_dec dk_X10_lesserChild 29 rfl) rfl (by decide) ⟨by omega, by omega⟩ rfl ?_
      refine mm_iload_n C (mm_dec dk_X10_lesserChild 30 rfl) rfl ?_
      exact mm_iret C T (mm_dec dk_X10_lesserChild 31 rfl) (by decide : 0 ≤ 0) (by decide : 0 ≤ 0) ⟨_, rfl, ⟨rfl, Or.inr (Or.inr (⟨by omega, by omega, rfl⟩))⟩⟩
set_option maxRecDepth 100000 in
set_option maxHeartbeats 4000000 in
theorem c_X11_move (l : Launch) (hl : l.stackTraces = false) (d : Nat) (hd : 8 ≤ d) (h : mH) (i0 : mm_inv h) (p1 : Int) : mm_Met l d yX11_move cX11_move 3 (some .int) [mR 0, mI p1] h (mm_pi fun r h2 => h2 = h ∧ (((h.1 7 9) ≠ (-1) ∧ p1 ≠ (-1) ∧ 0 ≤ p1 ∧ p1 < (h.1 7 9) ∧ r = (h.2.1 13 p1)) ∨ ((h.1 7 9) ≠ (-1) ∧ p1 = (-1) ∧ r = (h.1 7 9)))) (mm_xp h) 1 6 := by
  refine mm_ofW (ls := [mR 0, mI p1, mU]) hl (by decide) rfl (Nat.le_of_ble_eq_true rfl) ?_
  intro x hxl C T hnm htb
  subst hxl
  have C1 := mm_OK_le (d' := d - 1 + 1) (by omega) C
  have C8 := mm_OK_le (d' := d - 8 + 8) (by omega) C
  refine mm_rng (fun hr _ => ?_)
  have ap1 : -2147483648 ≤ p1 ∧ p1 < 2147483648 := mm_ok_at hr (i := 1) rfl
  have f0 : mm_fr [] [] h h := mm_fr_rf
  refine mm_aload_n C (mm_dec dk_X11_move 0 rfl) rfl ?_
  refine mm_getr (t := 7) C fl_X11_21 (mm_dec dk_X11_move 1 rfl) rfl rfl (mm_ref i0 rfl) ?_
  refine mm_cVi (rest := []) C1 ev_X11_175 (mm_dec dk_X11_move 2 rfl) (c_X10_keptMoves x.2.1 hl (d - 1) (by omega) h i0 ) rfl rfl (Nat.le_of_ble_eq_true rfl) ⟨by decide, by decide⟩ rfl (fun r4 h4c hp4 => ?_) (fun _ _ q => q.elim)
  obtain ⟨z4, y4⟩ := hp4
  rw [z4, y4]
  have g2 : -1 ≤ (h.1 7 9) ∧ (h.1 7 9) ≤ 400 := i0.1 7 9
  refine mm_istore_nL (ls2 := [mR 0, mI p1, mI (h.1 7 9)]) C (mm_dec dk_X11_move 3 rfl) (by decide) rfl ?_
  refine mm_iload_n C (mm_dec dk_X11_move 4 rfl) rfl ?_
  refine mm_iconst C (mm_dec dk_X11_move 5 rfl) ⟨by decide, by decide⟩ ?_
  refine mm_icmp_ne (tgt := 23) C (mm_dec dk_X11_move 6 rfl) (by decide) (fun c10 => ?_) (fun c10 => ?_)
  · skip
    refine mm_iload_n C (mm_dec dk_X11_move 12 rfl) rfl ?_
    refine mm_iconst C (mm_dec dk_X11_move 13 rfl) ⟨by decide, by decide⟩ ?_
    refine mm_icmp_ne (tgt := 30) C (mm_dec dk_X11_move 14 rfl) (by decide) (fun c25 => ?_) (fun c25 => ?_)
    · skip
      refine mm_iload_n C (mm_dec dk_X11_move 17 rfl) rfl ?_
      refine mm_if_lt (tgt := 39) C (mm_dec dk_X11_move 18 rfl) (by decide) (fun c31 => ?_) (fun c31 => ?_)
      · skip
        exact mm_throwX C8 T htb th_nse (i := 3) rfl (mm_dec dk_X11_move 22 rfl) (mm_dec dk_X11_move 23 rfl) (mm_dec dk_X11_move 24 rfl) (mm_dec dk_X11_move 25 rfl) (mm_dec dk_X11_move 26 rfl) (Nat.le_of_ble_eq_true rfl) ⟨by decide, by decide⟩ ⟨by decide, by decide⟩ (Or.inl ⟨rfl, rfl⟩)
      · skip
        refine mm_iload_n C (mm_dec dk_X11_move 19 rfl) rfl ?_
        refine mm_iload_n C (mm_dec dk_X11_move 20 rfl) rfl ?_
        refine mm_icmp_lt (tgt := 49) C (mm_dec dk_X11_move 21 rfl) (by decide) (fun c36 => ?_) (fun c36 => ?_)
        · skip
          refine mm_aload_n C (mm_dec dk_X11_move 27 rfl) rfl ?_
          refine mm_getr (t := 7) C fl_X11_21 (mm_dec dk_X11_move 28 rfl) rfl rfl (mm_ref i0 rfl) ?_
          refine mm_iload_n C (mm_dec dk_X11_move 29 rfl) rfl ?_
          refine mm_cVi (rest := []) C1 ev_X11_183 (mm_dec dk_X11_move 30 rfl) (c_X10_keptMove x.2.1 hl (d - 1) (by omega) h i0 p1 ⟨by omega, by omega⟩) rfl rfl (Nat.le_of_ble_eq_true rfl) ⟨by decide, by decide⟩ rfl (fun r54 h54c hp54 => ?_) (fun _ _ q => q.elim)
          obtain ⟨z54, y54⟩ := hp54
          rw [z54, y54]
          have g4 : -2147483648 ≤ (h.2.1 13 p1) ∧ (h.2.1 13 p1) ≤ 2147483647 := i0.2.1 13 p1
          exact mm_iret C T (mm_dec dk_X11_move 31 rfl) (by decide : 0 ≤ 1) (by decide : 0 ≤ 6) ⟨_, rfl, ⟨rfl, Or.inl ⟨by omega, by omega, by omega, by omega, rfl⟩⟩⟩
        · skip
          exact mm_throwX C8 T htb th_nse (i := 3) rfl (mm_dec dk_X11_move 22 rfl) (mm_dec dk_X11_move 23 rfl) (mm_dec dk_X11_move 24 rfl) (mm_dec dk_X11_move 25 rfl) (mm_dec dk_X11_move 26 rfl) (Nat.le_of_ble_eq_true rfl) ⟨by decide, by decide⟩ ⟨by decide, by decide⟩ (Or.inl ⟨rfl, rfl⟩)
    · skip
      refine mm_iload_n C (mm_dec dk_X11_move 15 rfl) rfl ?_
      exact mm_iret C T (mm_dec dk_X11_move 16 rfl) (by decide : 0 ≤ 1) (by decide : 0 ≤ 6) ⟨_, rfl, ⟨rfl, Or.inr (⟨by omega, by omega, rfl⟩)⟩⟩
  · skip
    exact mm_throwX C8 T htb th_nse (i := 2) rfl (mm_dec dk_X11_move 7 rfl) (mm_dec dk_X11_move 8 rfl) (mm_dec dk_X11_move 9 rfl) (mm_dec dk_X11_move 10 rfl) (mm_dec dk_X11_move 11 rfl) (Nat.le_of_ble_eq_true rfl) ⟨by decide, by decide⟩ ⟨by decide, by decide⟩ (Or.inl ⟨rfl, rfl⟩)
set_option maxRecDepth 100000 in
set_option maxHeartbeats 4000000 in
theorem c_X11_course (l : Launch) (hl : l.stackTraces = false) (d : Nat) (hd : 1 ≤ d) (h : mH) (i0 : mm_inv h) (p1 : Int) (bp1 : 0 ≤ p1 ∧ p1 ≤ 1) : mm_Met l d yX11_course cX11_course 2 (some .int) [mR 0, mI p1] h (mm_pi fun r h2 => (-1 ≤ r ∧ r ≤ 7) ∧ mm_inv h2 ∧ mm_fr [(14, 8)] [17, 18, 19, 20] h h2) mm_nx 0 0 := by
  refine mm_ofW (ls := [mR 0, mI p1]) hl (by decide) rfl (Nat.le_of_ble_eq_true rfl) ?_
  intro x hxl C T hnm htb
  subst hxl
  have C1 := mm_OK_le (d' := d - 1 + 1) (by omega) C
  refine mm_rng (fun hr _ => ?_)
  have ap1 : -2147483648 ≤ p1 ∧ p1 < 2147483648 := mm_ok_at hr (i := 1) rfl
  have f0 : mm_fr [(14, 8)] [17, 18, 19, 20] h h := mm_fr_rf
  refine mm_aload_n C (mm_dec dk_X11_course 0 rfl) rfl ?_
  refine mm_getr (t := 14) C fl_X11_28 (mm_dec dk_X11_course 1 rfl) rfl rfl (mm_ref i0 rfl) ?_
  refine mm_cVi (rest := []) C1 ev_X11_200 (mm_dec dk_X11_course 2 rfl) (c_X2_size x.2.1 hl (d - 1) (by omega) h i0 ) rfl rfl (Nat.le_of_ble_eq_true rfl) ⟨by decide, by decide⟩ rfl (fun r4 h4c hp4 => ?_) (fun _ _ q => q.elim)
  obtain ⟨z4, y4⟩ := hp4
  rw [z4, y4]
  have g2 : 0 ≤ (h.1 14 8) ∧ (h.1 14 8) ≤ 8 := i0.1 14 8
  refine mm_bipush C (mm_dec dk_X11_course 3 rfl) ⟨by decide, by decide⟩ ?_
  refine mm_icmp_lt (tgt := 14) C (mm_dec dk_X11_course 4 rfl) (by decide) (fun c9 => ?_) (fun c9 => ?_)
  · skip
    refine mm_aload_n C (mm_dec dk_X11_course 7 rfl) rfl ?_
    refine mm_getr (t := 14) C fl_X11_28 (mm_dec dk_X11_course 8 rfl) rfl rfl (mm_ref i0 rfl) ?_
    refine mm_iload_n C (mm_dec dk_X11_course 9 rfl) rfl ?_
    refine mm_cVi (rest := []) C1 ev_X11_203 (mm_dec dk_X11_course 10 rfl) (c_X2_open x.2.1 hl (d - 1) (by omega) h i0 p1 ⟨by omega, by omega⟩ (by omega)) rfl rfl (Nat.le_of_ble_eq_true rfl) ⟨by decide, by decide⟩ rfl (fun r19 h19c hp19 => ?_) (fun _ _ q => q.elim)
    obtain ⟨b19, i19c, g19c⟩ := hp19
    have f19c : mm_fr [(14, 8)] [17, 18, 19, 20] h h19c := mm_fr_tr f0 g19c (by decide +kernel)
    exact mm_iret C T (mm_dec dk_X11_course 11 rfl) (by decide : 0 ≤ 0) (by decide : 0 ≤ 0) ⟨_, rfl, ⟨⟨by omega, by omega⟩, i19c, f19c⟩⟩
  · skip
    refine mm_iconst C (mm_dec dk_X11_course 5 rfl) ⟨by decide, by decide⟩ ?_
    exact mm_iret C T (mm_dec dk_X11_course 6 rfl) (by decide : 0 ≤ 0) (by decide : 0 ≤ 0) ⟨_, rfl, ⟨⟨by omega, by omega⟩, i0, f0⟩⟩
set_option maxRecDepth 100000 in
set_option maxHeartbeats 4000000 in
theorem c_X11_go (l : Launch) (hl : l.stackTraces = false) (d : Nat) (hd : 8 ≤ d) (h : mH) (i0 : mm_inv h) (p1 : Int) : mm_Met l d yX11_go cX11_go 2 (some .int) [mR 0, mI p1] h (mm_pi fun r h2 => (0 ≤ r ∧ r ≤ 99999) ∧ mm_inv h2 ∧ mm_fr [(0, 13)] [] h h2) (mm_xp h) 1 6 := by
  refine mm_ofW (ls := [mR 0, mI p1]) hl (by decide) rfl (Nat.le_of_ble_eq_true rfl) ?_
  intro x hxl C T hnm htb
  subst hxl
  have C1 := mm_OK_le (d' := d - 1 + 1) (by omega) C
  have C8 := mm_OK_le (d' := d - 8 + 8) (by omega) C
  refine mm_rng (fun hr _ => ?_)
  have ap1 : -2147483648 ≤ p1 ∧ p1 < 2147483648 := mm_ok_at hr (i := 1) rfl
  have f0 : mm_fr [(0, 13)] [] h h := mm_fr_rf
  refine mm_iload_n C (mm_dec dk_X11_go 0 rfl) rfl ?_
  have J16 : mm_W x 0 0 16 [mU, mU] [] h := by
    exact mm_throwXW C8 T htb th_iae (i := 8) rfl (mm_dec dk_X11_go 8 rfl) (mm_dec dk_X11_go 9 rfl) (mm_dec dk_X11_go 10 rfl) (mm_dec dk_X11_go 11 rfl) (mm_dec dk_X11_go 12 rfl) (Nat.le_of_ble_eq_true rfl) ⟨by decide, by decide⟩ ⟨by decide, by decide⟩ (Or.inr ⟨rfl, rfl⟩)
  refine mm_if_lt (tgt := 16) C (mm_dec dk_X11_go 1 rfl) (by decide) (fun c1 => ?_) (fun c1 => ?_)
  · skip
    refine mm_fgt 0 ?_
    refine mm_fgt 1 ?_
    exact J16
  · skip
    refine mm_iload_n C (mm_dec dk_X11_go 2 rfl) rfl ?_
    refine mm_ldcw (z := 99999) C (mm_dec dk_X11_go 3 rfl) kc_X11_260 (by decide) ?_
    refine mm_aload_n C (mm_dec dk_X11_go 4 rfl) rfl ?_
    refine mm_geti C fl_X11_102 (mm_dec dk_X11_go 5 rfl) rfl rfl (Or.inl rfl) ?_
    have g1 : 0 ≤ (h.1 0 13) ∧ (h.1 0 13) ≤ 99999 := i0.1 0 13
    refine mm_isub C (mm_dec dk_X11_go 6 rfl) ⟨by omega, by omega⟩ ?_
    refine mm_icmp_le (tgt := 27) C (mm_dec dk_X11_go 7 rfl) (by decide) (fun c13 => ?_) (fun c13 => ?_)
    · skip
      refine mm_aload_n C (mm_dec dk_X11_go 13 rfl) rfl ?_
      refine mm_dup C (mm_dec dk_X11_go 14 rfl) (show (2 : Nat) ≠ 1 by decide) ?_
      refine mm_geti C fl_X11_102 (mm_dec dk_X11_go 15 rfl) rfl rfl (Or.inl rfl) ?_
      refine mm_iload_n C (mm_dec dk_X11_go 16 rfl) rfl ?_
      refine mm_iadd C (mm_dec dk_X11_go 17 rfl) ⟨by omega, by omega⟩ ?_
      refine mm_puti C fl_X11_102 (mm_dec dk_X11_go 18 rfl) rfl rfl rfl (Or.inl ⟨rfl, rfl⟩) ?_
      have i1 : mm_inv (mm_pf h 0 13 ((h.1 0 13) + p1)) := mm_inv_pf i0 (show 0 ≤ ((h.1 0 13) + p1) ∧ ((h.1 0 13) + p1) ≤ 99999 from ⟨by omega, by omega⟩) (by decide)
      have f1 : mm_fr [(0, 13)] [] h (mm_pf h 0 13 ((h.1 0 13) + p1)) := mm_fr_pf f0 (by decide)
      obtain ⟨h1, eh1⟩ : ∃ z, z = mm_pf h 0 13 ((h.1 0 13) + p1) := ⟨_, rfl⟩
      rw [← eh1] at i1 f1 ⊢
      have qh1 : h1.1 0 13 = ((h.1 0 13) + p1) := by rw [eh1]; exact mm_pf_same _ _ _ _
      refine mm_aload_n C (mm_dec dk_X11_go 19 rfl) rfl ?_
      refine mm_geti C fl_X11_102 (mm_dec dk_X11_go 20 rfl) rfl rfl (Or.inl rfl) ?_
      exact mm_iret C T (mm_dec dk_X11_go 21 rfl) (by decide : 0 ≤ 1) (by decide : 0 ≤ 6) ⟨_, rfl, ⟨⟨by omega, by omega⟩, i1, f1⟩⟩
    · skip
      refine mm_fgt 0 ?_
      refine mm_fgt 1 ?_
      exact J16
set_option maxRecDepth 100000 in
set_option maxHeartbeats 4000000 in
theorem c_X11_back (l : Launch) (hl : l.stackTraces = false) (d : Nat) (hd : 8 ≤ d) (h : mH) (i0 : mm_inv h) (p1 : Int) : mm_Met l d yX11_back cX11_back 2 (some .boolean) [mR 0, mI p1] h (mm_pi fun r h2 => (0 ≤ r ∧ r ≤ 1) ∧ mm_inv h2 ∧ mm_fr [] [36] h h2) (mm_xp h) 1 6 := by
  refine mm_ofW (ls := [mR 0, mI p1]) hl (by decide) rfl (Nat.le_of_ble_eq_true rfl) ?_
  intro x hxl C T hnm htb
  subst hxl
  have C1 := mm_OK_le (d' := d - 1 + 1) (by omega) C
  have C8 := mm_OK_le (d' := d - 8 + 8) (by omega) C
  refine mm_rng (fun hr _ => ?_)
  have ap1 : -2147483648 ≤ p1 ∧ p1 < 2147483648 := mm_ok_at hr (i := 1) rfl
  have f0 : mm_fr [] [36] h h := mm_fr_rf
  refine mm_iload_n C (mm_dec dk_X11_back 0 rfl) rfl ?_
  have J15 : mm_W x 0 0 15 [mU, mU] [] h := by
    exact mm_throwXW C8 T htb th_nse (i := 10) rfl (mm_dec dk_X11_back 7 rfl) (mm_dec dk_X11_back 8 rfl) (mm_dec dk_X11_back 9 rfl) (mm_dec dk_X11_back 10 rfl) (mm_dec dk_X11_back 11 rfl) (Nat.le_of_ble_eq_true rfl) ⟨by decide, by decide⟩ ⟨by decide, by decide⟩ (Or.inl ⟨rfl, rfl⟩)
  refine mm_if_lt (tgt := 15) C (mm_dec dk_X11_back 1 rfl) (by decide) (fun c1 => ?_) (fun c1 => ?_)
  · skip
    refine mm_fgt 0 ?_
    refine mm_fgt 1 ?_
    exact J15
  · skip
    refine mm_iload_n C (mm_dec dk_X11_back 2 rfl) rfl ?_
    refine mm_aload_n C (mm_dec dk_X11_back 3 rfl) rfl ?_
    refine mm_getr (t := 30) C fl_X11_44 (mm_dec dk_X11_back 4 rfl) rfl rfl (mm_ref i0 rfl) ?_
    refine mm_cVi (rest := [mI p1]) C1 ev_X11_268 (mm_dec dk_X11_back 5 rfl) (c_X6_events x.2.1 hl (d - 1) (by omega) h i0 ) rfl rfl (Nat.le_of_ble_eq_true rfl) ⟨by decide, by decide⟩ rfl (fun r9 h9c hp9 => ?_) (fun _ _ q => q.elim)
    obtain ⟨z9, y9⟩ := hp9
    rw [z9, y9]
    have g2 : 0 ≤ (h.1 30 6) ∧ (h.1 30 6) ≤ 500 := i0.1 30 6
    refine mm_icmp_lt (tgt := 26) C (mm_dec dk_X11_back 6 rfl) (by decide) (fun c12 => ?_) (fun c12 => ?_)
    · skip
      refine mm_aload_n C (mm_dec dk_X11_back 12 rfl) rfl ?_
      refine mm_getr (t := 30) C fl_X11_44 (mm_dec dk_X11_back 13 rfl) rfl rfl (mm_ref i0 rfl) ?_
      refine mm_iload_n C (mm_dec dk_X11_back 14 rfl) rfl ?_
      refine mm_aload_n C (mm_dec dk_X11_back 15 rfl) rfl ?_
      refine mm_geti C fl_X11_102 (mm_dec dk_X11_back 16 rfl) rfl rfl (Or.inl rfl) ?_
      have g3 : 0 ≤ (h.1 0 13) ∧ (h.1 0 13) ≤ 99999 := i0.1 0 13
      refine mm_cVi (rest := []) C1 ev_X11_277 (mm_dec dk_X11_back 17 rfl) (c_X6_takeBack x.2.1 hl (d - 1) (by omega) h i0 p1 (h.1 0 13) ⟨by omega, by omega⟩) rfl rfl (Nat.le_of_ble_eq_true rfl) ⟨by decide, by decide⟩ rfl (fun r35 h35c hp35 => ?_) (fun _ _ q => q.elim)
      obtain ⟨b35, i35c, g35c⟩ := hp35
      have f35c : mm_fr [] [36] h h35c := mm_fr_tr f0 g35c (by decide +kernel)
      have q35c_5 : h35c.1 0 13 = h.1 0 13 := g35c.1 0 13 (by decide)
      have q35c_6 : h35c.1 30 6 = h.1 30 6 := g35c.1 30 6 (by decide)
      exact mm_zret C T (mm_dec dk_X11_back 18 rfl) (by decide : 0 ≤ 1) (by decide : 0 ≤ 6) (by omega) ⟨_, rfl, ⟨⟨by omega, by omega⟩, i35c, f35c⟩⟩
    · skip
      refine mm_fgt 0 ?_
      refine mm_fgt 1 ?_
      exact J15
set_option maxRecDepth 100000 in
set_option maxHeartbeats 4000000 in
theorem c_X11_fault (l : Launch) (hl : l.stackTraces = false) (d : Nat) (hd : 0 ≤ d) (h : mH) (i0 : mm_inv h) : mm_Met l d yX11_fault cX11_fault 1 (some .int) [mR 0] h (mm_pi fun r h2 => h2 = h ∧ (r = (h.1 0 14))) mm_nx 0 0 := by
  refine mm_ofW (ls := [mR 0]) hl (by decide) rfl (Nat.le_of_ble_eq_true rfl) ?_
  intro x hxl C T hnm htb
  subst hxl
  have f0 : mm_fr [] [] h h := mm_fr_rf
  refine mm_aload_n C (mm_dec dk_X11_fault 0 rfl) rfl ?_
  refine mm_geti C fl_X11_105 (mm_dec dk_X11_fault 1 rfl) rfl rfl (Or.inl rfl) ?_
  have g1 : -2147483648 ≤ (h.1 0 14) ∧ (h.1 0 14) ≤ 2147483647 := i0.1 0 14
  exact mm_iret C T (mm_dec dk_X11_fault 2 rfl) (by decide : 0 ≤ 0) (by decide : 0 ≤ 0) ⟨_, rfl, ⟨rfl, rfl⟩⟩
set_option maxRecDepth 100000 in
set_option maxHeartbeats 4000000 in
theorem c_X11_count (l : Launch) (hl : l.stackTraces = false) (d : Nat) (hd : 8 ≤ d) (h : mH) (i0 : mm_inv h) (p1 : Int) : mm_Met l d yX11_count cX11_count 2 (some .int) [mR 0, mI p1] h (mm_pi fun r h2 => (-2147483648 ≤ r ∧ r ≤ 2147483647) ∧ h2 = h) (mm_xp h) 1 6 := by
  refine mm_ofW (ls := [mR 0, mI p1]) hl (by decide) rfl (Nat.le_of_ble_eq_true rfl) ?_
  intro x hxl C T hnm htb
  subst hxl
  have C1 := mm_OK_le (d' := d - 1 + 1) (by omega) C
  have C8 := mm_OK_le (d' := d - 8 + 8) (by omega) C
  refine mm_rng (fun hr _ => ?_)
  have ap1 : -2147483648 ≤ p1 ∧ p1 < 2147483648 := mm_ok_at hr (i := 1) rfl
  have f0 : mm_fr [] [] h h := mm_fr_rf
  refine mm_iload_n C (mm_dec dk_X11_count 0 rfl) rfl ?_
  refine mm_table (t0 := 145) [60, 65, 73, 81, 89, 97, 105, 113, 118, 127, 136] C (mm_dec dk_X11_count 1 rfl) (by decide) (by decide) (by decide +kernel) (fun c1 => ?_) (fun k1 hk1 c1 => ?_)
  · skip
    exact mm_throwXW C8 T htb th_nse (i := 19) rfl (mm_dec dk_X11_count 47 rfl) (mm_dec dk_X11_count 48 rfl) (mm_dec dk_X11_count 49 rfl) (mm_dec dk_X11_count 50 rfl) (mm_dec dk_X11_count 51 rfl) (Nat.le_of_ble_eq_true rfl) ⟨by decide, by decide⟩ ⟨by decide, by decide⟩ (Or.inl ⟨rfl, rfl⟩)
  · have hq1 : k1 < 11 := hk1
    rcases (by omega : k1 = 0 ∨ k1 = 1 ∨ k1 = 2 ∨ k1 = 3 ∨ k1 = 4 ∨ k1 = 5 ∨ k1 = 6 ∨ k1 = 7 ∨ k1 = 8 ∨ k1 = 9 ∨ k1 = 10) with rfl | rfl | rfl | rfl | rfl | rfl | rfl | rfl | rfl | rfl | rfl
    · show mm_W x 0 0 60 _ _ _
      refine mm_aload_n C (mm_dec dk_X11_count 2 rfl) rfl ?_
      refine mm_geti C fl_X11_102 (mm_dec dk_X11_count 3 rfl) rfl rfl (Or.inl rfl) ?_
      have g1 : 0 ≤ (h.1 0 13) ∧ (h.1 0 13) ≤ 99999 := i0.1 0 13
      exact mm_iret C T (mm_dec dk_X11_count 4 rfl) (by decide : 0 ≤ 1) (by decide : 0 ≤ 6) ⟨_, rfl, ⟨⟨by omega, by omega⟩, rfl⟩⟩
    · show mm_W x 0 0 65 _ _ _
      refine mm_aload_n C (mm_dec dk_X11_count 5 rfl) rfl ?_
      refine mm_getr (t := 14) C fl_X11_28 (mm_dec dk_X11_count 6 rfl) rfl rfl (mm_ref i0 rfl) ?_
      refine mm_cVi (rest := []) C1 ev_X11_191 (mm_dec dk_X11_count 7 rfl) (c_X2_posts x.2.1 hl (d - 1) (by omega) h i0 ) rfl rfl (Nat.le_of_ble_eq_true rfl) ⟨by decide, by decide⟩ rfl (fun r69 h69c hp69 => ?_) (fun _ _ q => q.elim)
      obtain ⟨z69, y69⟩ := hp69
      rw [z69, y69]
      have g3 : 0 ≤ (h.1 14 7) ∧ (h.1 14 7) ≤ 20 := i0.1 14 7
      exact mm_iret C T (mm_dec dk_X11_count 8 rfl) (by decide : 0 ≤ 1) (by decide : 0 ≤ 6) ⟨_, rfl, ⟨⟨by omega, by omega⟩, rfl⟩⟩
    · show mm_W x 0 0 73 _ _ _
      refine mm_aload_n C (mm_dec dk_X11_count 9 rfl) rfl ?_
      refine mm_getr (t := 14) C fl_X11_28 (mm_dec dk_X11_count 10 rfl) rfl rfl (mm_ref i0 rfl) ?_
      refine mm_cVi (rest := []) C1 ev_X11_200 (mm_dec dk_X11_count 11 rfl) (c_X2_size x.2.1 hl (d - 1) (by omega) h i0 ) rfl rfl (Nat.le_of_ble_eq_true rfl) ⟨by decide, by decide⟩ rfl (fun r77 h77c hp77 => ?_) (fun _ _ q => q.elim)
      obtain ⟨z77, y77⟩ := hp77
      rw [z77, y77]
      have g5 : 0 ≤ (h.1 14 8) ∧ (h.1 14 8) ≤ 8 := i0.1 14 8
      exact mm_iret C T (mm_dec dk_X11_count 12 rfl) (by decide : 0 ≤ 1) (by decide : 0 ≤ 6) ⟨_, rfl, ⟨⟨by omega, by omega⟩, rfl⟩⟩
    · show mm_W x 0 0 81 _ _ _
      refine mm_aload_n C (mm_dec dk_X11_count 13 rfl) rfl ?_
      refine mm_getr (t := 22) C fl_X11_37 (mm_dec dk_X11_count 14 rfl) rfl rfl (mm_ref i0 rfl) ?_
      refine mm_cVi (rest := []) C1 ev_X11_230 (mm_dec dk_X11_count 15 rfl) (c_X9_size x.2.1 hl (d - 1) (by omega) h i0 ) rfl rfl (Nat.le_of_ble_eq_true rfl) ⟨by decide, by decide⟩ rfl (fun r85 h85c hp85 => ?_) (fun _ _ q => q.elim)
      obtain ⟨z85, y85⟩ := hp85
      rw [z85, y85]
      have g7 : 0 ≤ (h.1 22 8) ∧ (h.1 22 8) ≤ 40 := i0.1 22 8
      exact mm_iret C T (mm_dec dk_X11_count 16 rfl) (by decide : 0 ≤ 1) (by decide : 0 ≤ 6) ⟨_, rfl, ⟨⟨by omega, by omega⟩, rfl⟩⟩
    · show mm_W x 0 0 89 _ _ _
      refine mm_aload_n C (mm_dec dk_X11_count 17 rfl) rfl ?_
      refine mm_getr (t := 22) C fl_X11_37 (mm_dec dk_X11_count 18 rfl) rfl rfl (mm_ref i0 rfl) ?_
      refine mm_cVi (rest := []) C1 ev_X11_251 (mm_dec dk_X11_count 19 rfl) (c_X9_teams x.2.1 hl (d - 1) (by omega) h i0 ) rfl rfl (Nat.le_of_ble_eq_true rfl) ⟨by decide, by decide⟩ rfl (fun r93 h93c hp93 => ?_) (fun _ _ q => q.elim)
      obtain ⟨z93, y93⟩ := hp93
      rw [z93, y93]
      have g9 : 0 ≤ (h.1 22 9) ∧ (h.1 22 9) ≤ 10 := i0.1 22 9
      exact mm_iret C T (mm_dec dk_X11_count 20 rfl) (by decide : 0 ≤ 1) (by decide : 0 ≤ 6) ⟨_, rfl, ⟨⟨by omega, by omega⟩, rfl⟩⟩
    · show mm_W x 0 0 97 _ _ _
      refine mm_aload_n C (mm_dec dk_X11_count 21 rfl) rfl ?_
      refine mm_getr (t := 30) C fl_X11_44 (mm_dec dk_X11_count 22 rfl) rfl rfl (mm_ref i0 rfl) ?_
      refine mm_cVi (rest := []) C1 ev_X11_268 (mm_dec dk_X11_count 23 rfl) (c_X6_events x.2.1 hl (d - 1) (by omega) h i0 ) rfl rfl (Nat.le_of_ble_eq_true rfl) ⟨by decide, by decide⟩ rfl (fun r101 h101c hp101 => ?_) (fun _ _ q => q.elim)
      obtain ⟨z101, y101⟩ := hp101
      rw [z101, y101]
      have g11 : 0 ≤ (h.1 30 6) ∧ (h.1 30 6) ≤ 500 := i0.1 30 6
      exact mm_iret C T (mm_dec dk_X11_count 24 rfl) (by decide : 0 ≤ 1) (by decide : 0 ≤ 6) ⟨_, rfl, ⟨⟨by omega, by omega⟩, rfl⟩⟩
    · show mm_W x 0 0 105 _ _ _
      refine mm_aload_n C (mm_dec dk_X11_count 25 rfl) rfl ?_
      refine mm_getr (t := 30) C fl_X11_44 (mm_dec dk_X11_count 26 rfl) rfl rfl (mm_ref i0 rfl) ?_
      refine mm_cVi (rest := []) C1 ev_X11_327 (mm_dec dk_X11_count 27 rfl) (c_X6_protests x.2.1 hl (d - 1) (by omega) h i0 ) rfl rfl (Nat.le_of_ble_eq_true rfl) ⟨by decide, by decide⟩ rfl (fun r109 h109c hp109 => ?_) (fun _ _ q => q.elim)
      obtain ⟨z109, y109⟩ := hp109
      rw [z109, y109]
      have g13 : 0 ≤ (h.1 30 12) ∧ (h.1 30 12) ≤ 40 := i0.1 30 12
      exact mm_iret C T (mm_dec dk_X11_count 28 rfl) (by decide : 0 ≤ 1) (by decide : 0 ≤ 6) ⟨_, rfl, ⟨⟨by omega, by omega⟩, rfl⟩⟩
    · show mm_W x 0 0 113 _ _ _
      refine mm_aload_n C (mm_dec dk_X11_count 29 rfl) rfl ?_
      refine mm_geti C fl_X11_98 (mm_dec dk_X11_count 30 rfl) rfl rfl (Or.inl rfl) ?_
      have g14 : 0 ≤ (h.1 0 12) ∧ (h.1 0 12) ≤ 500 := i0.1 0 12
      exact mm_iret C T (mm_dec dk_X11_count 31 rfl) (by decide : 0 ≤ 1) (by decide : 0 ≤ 6) ⟨_, rfl, ⟨⟨by omega, by omega⟩, rfl⟩⟩
    · show mm_W x 0 0 118 _ _ _
      refine mm_aload_n C (mm_dec dk_X11_count 32 rfl) rfl ?_
      refine mm_getr (t := 42) C fl_X11_51 (mm_dec dk_X11_count 33 rfl) rfl rfl (mm_ref i0 rfl) ?_
      refine mm_iconst C (mm_dec dk_X11_count 34 rfl) ⟨by decide, by decide⟩ ?_
      refine mm_cVi (rest := []) C1 ev_X11_333 (mm_dec dk_X11_count 35 rfl) (c_X8_param x.2.1 hl (d - 1) (by omega) h i0 0 ⟨by omega, by omega⟩) rfl rfl (Nat.le_of_ble_eq_true rfl) ⟨by decide, by decide⟩ rfl (fun r123 h123c hp123 => ?_) (fun _ _ q => q.elim)
      obtain ⟨z123, y123⟩ := hp123
      rw [z123, y123]
      have g16 : -2147483648 ≤ (h.2.1 44 0) ∧ (h.2.1 44 0) ≤ 2147483647 := i0.2.1 44 0
      exact mm_iret C T (mm_dec dk_X11_count 36 rfl) (by decide : 0 ≤ 1) (by decide : 0 ≤ 6) ⟨_, rfl, ⟨⟨by omega, by omega⟩, rfl⟩⟩
    · show mm_W x 0 0 127 _ _ _
      refine mm_aload_n C (mm_dec dk_X11_count 37 rfl) rfl ?_
      refine mm_getr (t := 42) C fl_X11_51 (mm_dec dk_X11_count 38 rfl) rfl rfl (mm_ref i0 rfl) ?_
      refine mm_iconst C (mm_dec dk_X11_count 39 rfl) ⟨by decide, by decide⟩ ?_
      refine mm_cVi (rest := []) C1 ev_X11_333 (mm_dec dk_X11_count 40 rfl) (c_X8_param x.2.1 hl (d - 1) (by omega) h i0 1 ⟨by omega, by omega⟩) rfl rfl (Nat.le_of_ble_eq_true rfl) ⟨by decide, by decide⟩ rfl (fun r132 h132c hp132 => ?_) (fun _ _ q => q.elim)
      obtain ⟨z132, y132⟩ := hp132
      rw [z132, y132]
      have g18 : -2147483648 ≤ (h.2.1 44 1) ∧ (h.2.1 44 1) ≤ 2147483647 := i0.2.1 44 1
      exact mm_iret C T (mm_dec dk_X11_count 41 rfl) (by decide : 0 ≤ 1) (by decide : 0 ≤ 6) ⟨_, rfl, ⟨⟨by omega, by omega⟩, rfl⟩⟩
    · show mm_W x 0 0 136 _ _ _
      refine mm_aload_n C (mm_dec dk_X11_count 42 rfl) rfl ?_
      refine mm_getr (t := 42) C fl_X11_51 (mm_dec dk_X11_count 43 rfl) rfl rfl (mm_ref i0 rfl) ?_
      refine mm_iconst C (mm_dec dk_X11_count 44 rfl) ⟨by decide, by decide⟩ ?_
      refine mm_cVi (rest := []) C1 ev_X11_333 (mm_dec dk_X11_count 45 rfl) (c_X8_param x.2.1 hl (d - 1) (by omega) h i0 2 ⟨by omega, by omega⟩) rfl rfl (Nat.le_of_ble_eq_true rfl) ⟨by decide, by decide⟩ rfl (fun r141 h141c hp141 => ?_) (fun _ _ q => q.elim)
      obtain ⟨z141, y141⟩ := hp141
      rw [z141, y141]
      have g20 : -2147483648 ≤ (h.2.1 44 2) ∧ (h.2.1 44 2) ≤ 2147483647 := i0.2.1 44 2
      exact mm_iret C T (mm_dec dk_X11_count 46 rfl) (by decide : 0 ≤ 1) (by decide : 0 ≤ 6) ⟨_, rfl, ⟨⟨by omega, by omega⟩, rfl⟩⟩
set_option maxRecDepth 100000 in
set_option maxHeartbeats 4000000 in
theorem c_X11_within (l : Launch) (hl : l.stackTraces = false) (d : Nat) (hd : 0 ≤ d) (h : mH) (i0 : mm_inv h) (p0 : Int) (p1 : Int) (p2 : Int) : mm_Met l d yX11_within cX11_within 3 (some .boolean) [mI p0, mI p1, mI p2] h (mm_pi fun r h2 => h2 = h ∧ ((p0 < p1 ∧ r = 0) ∨ (p1 ≤ p0 ∧ p2 < p0 ∧ r = 0) ∨ (p1 ≤ p0 ∧ p0 ≤ p2 ∧ r = 1))) mm_nx 0 0 := by
  refine mm_ofW (ls := [mI p0, mI p1, mI p2]) hl (by decide) rfl (Nat.le_of_ble_eq_true rfl) ?_
  intro x hxl C T hnm htb
  subst hxl
  refine mm_rng (fun hr _ => ?_)
  have ap0 : -2147483648 ≤ p0 ∧ p0 < 2147483648 := mm_ok_at hr (i := 0) rfl
  have ap1 : -2147483648 ≤ p1 ∧ p1 < 2147483648 := mm_ok_at hr (i := 1) rfl
  have ap2 : -2147483648 ≤ p2 ∧ p2 < 2147483648 := mm_ok_at hr (i := 2) rfl
  have f0 : mm_fr [] [] h h := mm_fr_rf
  refine mm_iload_n C (mm_dec dk_X11_within 0 rfl) rfl ?_
  refine mm_iload_n C (mm_dec dk_X11_within 1 rfl) rfl ?_
  refine mm_icmp_lt (tgt := 14) C (mm_dec dk_X11_within 2 rfl) (by decide) (fun c2 => ?_) (fun c2 => ?_)
  · skip
    refine mm_iconst C (mm_dec dk_X11_within 8 rfl) ⟨by decide, by decide⟩ ?_
    exact mm_zret C T (mm_dec dk_X11_within 9 rfl) (by decide : 0 ≤ 0) (by decide : 0 ≤ 0) (by omega) ⟨_, rfl, ⟨rfl, Or.inl ⟨by omega, rfl⟩⟩⟩
  · skip
    refine mm_iload_n C (mm_dec dk_X11_within 3 rfl) rfl ?_
    refine mm_iload_n C (mm_dec dk_X11_within 4 rfl) rfl ?_
    refine mm_icmp_gt (tgt := 14) C (mm_dec dk_X11_within 5 rfl) (by decide) (fun c7 => ?_) (fun c7 => ?_)
    · skip
      refine mm_iconst C (mm_dec dk_X11_within 8 rfl) ⟨by decide, by decide⟩ ?_
      exact mm_zret C T (mm_dec dk_X11_within 9 rfl) (by decide : 0 ≤ 0) (by decide : 0 ≤ 0) (by omega) ⟨_, rfl, ⟨rfl, Or.inr (Or.inl ⟨by omega, by omega, rfl⟩)⟩⟩
    · skip
      refine mm_iconst C (mm_dec dk_X11_within 6 rfl) ⟨by decide, by decide⟩ ?_
      refine mm_goto (tgt := 15) C (mm_dec dk_X11_within 7 rfl) (by decide) ?_
      exact mm_zret C T (mm_dec dk_X11_within 9 rfl) (by decide : 0 ≤ 0) (by decide : 0 ≤ 0) (by omega) ⟨_, rfl, ⟨rfl, Or.inr (Or.inr (⟨by omega, by omega, rfl⟩))⟩⟩
set_option maxRecDepth 100000 in
set_option maxHeartbeats 4000000 in
theorem c_X11_landIsFixed (l : Launch) (hl : l.stackTraces = false) (d : Nat) (hd : 1 ≤ d) (h : mH) (i0 : mm_inv h) : mm_Met l d yX11_landIsFixed cX11_landIsFixed 1 (some .boolean) [mR 0] h (mm_pi fun r h2 => h2 = h ∧ (((h.1 22 8) ≤ 0 ∧ r = 0) ∨ (0 < (h.1 22 8) ∧ r = 1))) mm_nx 0 0 := by
  refine mm_ofW (ls := [mR 0]) hl (by decide) rfl (Nat.le_of_ble_eq_true rfl) ?_
  intro x hxl C T hnm htb
  subst hxl
  have C1 := mm_OK_le (d' := d - 1 + 1) (by omega) C
  have f0 : mm_fr [] [] h h := mm_fr_rf
  refine mm_aload_n C (mm_dec dk_X11_landIsFixed 0 rfl) rfl ?_
  refine mm_getr (t := 22) C fl_X11_37 (mm_dec dk_X11_landIsFixed 1 rfl) rfl rfl (mm_ref i0 rfl) ?_
  refine mm_cVi (rest := []) C1 ev_X11_230 (mm_dec dk_X11_landIsFixed 2 rfl) (c_X9_size x.2.1 hl (d - 1) (by omega) h i0 ) rfl rfl (Nat.le_of_ble_eq_true rfl) ⟨by decide, by decide⟩ rfl (fun r4 h4c hp4 => ?_) (fun _ _ q => q.elim)
  obtain ⟨z4, y4⟩ := hp4
  rw [z4, y4]
  have g2 : 0 ≤ (h.1 22 8) ∧ (h.1 22 8) ≤ 40 := i0.1 22 8
  refine mm_if_le (tgt := 14) C (mm_dec dk_X11_landIsFixed 3 rfl) (by decide) (fun c7 => ?_) (fun c7 => ?_)
  · skip
    refine mm_iconst C (mm_dec dk_X11_landIsFixed 6 rfl) ⟨by decide, by decide⟩ ?_
    exact mm_zret C T (mm_dec dk_X11_landIsFixed 7 rfl) (by decide : 0 ≤ 0) (by decide : 0 ≤ 0) (by omega) ⟨_, rfl, ⟨rfl, Or.inl ⟨by omega, rfl⟩⟩⟩
  · skip
    refine mm_iconst C (mm_dec dk_X11_landIsFixed 4 rfl) ⟨by decide, by decide⟩ ?_
    refine mm_goto (tgt := 15) C (mm_dec dk_X11_landIsFixed 5 rfl) (by decide) ?_
    exact mm_zret C T (mm_dec dk_X11_landIsFixed 7 rfl) (by decide : 0 ≤ 0) (by decide : 0 ≤ 0) (by omega) ⟨_, rfl, ⟨rfl, Or.inr (⟨by omega, rfl⟩)⟩⟩
set_option maxRecDepth 100000 in
set_option maxHeartbeats 4000000 in
theorem c_X11_postStandsOn (l : Launch) (hl : l.stackTraces = false) (d : Nat) (hd : 1 ≤ d) (h : mH) (i0 : mm_inv h) (p1 : Int) : mm_Met l d yX11_postStandsOn cX11_postStandsOn 3 (some .boolean) [mR 0, mI p1] h (mm_pi fun r h2 => (0 ≤ r ∧ r ≤ 1) ∧ h2 = h) mm_nx 0 0 := by
  refine mm_ofW (ls := [mR 0, mI p1, mU]) hl (by decide) rfl (Nat.le_of_ble_eq_true rfl) ?_
  intro x hxl C T hnm htb
  subst hxl
  have C1 := mm_OK_le (d' := d - 1 + 1) (by omega) C
  refine mm_rng (fun hr _ => ?_)
  have ap1 : -2147483648 ≤ p1 ∧ p1 < 2147483648 := mm_ok_at hr (i := 1) rfl
  have f0 : mm_fr [] [] h h := mm_fr_rf
  refine mm_iconst C (mm_dec dk_X11_postStandsOn 0 rfl) ⟨by decide, by decide⟩ ?_
  have J2 : ∀ (n : Nat) (x2_2 : Int) (bx2_2 : 0 ≤ x2_2 ∧ x2_2 ≤ 20), (20 - x2_2 : Int) < n → mm_W x 0 0 2 [mR 0, mI p1, mI x2_2] [] h := by
    intro n
    induction n with
    | zero =>
      intro x2_2 bx2_2 hm
      exfalso; omega
    | succ n ih2 =>
      intro x2_2 bx2_2 hm2
      refine mm_iload_n C (mm_dec dk_X11_postStandsOn 2 rfl) rfl ?_
      refine mm_aload_n C (mm_dec dk_X11_postStandsOn 3 rfl) rfl ?_
      refine mm_getr (t := 14) C fl_X11_28 (mm_dec dk_X11_postStandsOn 4 rfl) rfl rfl (mm_ref i0 rfl) ?_
      refine mm_cVi (rest := [mI x2_2]) C1 ev_X11_191 (mm_dec dk_X11_postStandsOn 5 rfl) (c_X2_posts x.2.1 hl (d - 1) (by omega) h i0 ) rfl rfl (Nat.le_of_ble_eq_true rfl) ⟨by decide, by decide⟩ rfl (fun r7 h7c hp7 => ?_) (fun _ _ q => q.elim)
      obtain ⟨z7, y7⟩ := hp7
      rw [z7, y7]
      have g2 : 0 ≤ (h.1 14 7) ∧ (h.1 14 7) ≤ 20 := i0.1 14 7
      refine mm_icmp_ge (tgt := 40) C (mm_dec dk_X11_postStandsOn 6 rfl) (by decide) (fun c10 => ?_) (fun c10 => ?_)
      · skip
        refine mm_iconst C (mm_dec dk_X11_postStandsOn 20 rfl) ⟨by decide, by decide⟩ ?_
        exact mm_zret C T (mm_dec dk_X11_postStandsOn 21 rfl) (by decide : 0 ≤ 0) (by decide : 0 ≤ 0) (by omega) ⟨_, rfl, ⟨⟨by omega, by omega⟩, rfl⟩⟩
      · skip
        refine mm_aload_n C (mm_dec dk_X11_postStandsOn 7 rfl) rfl ?_
        refine mm_getr (t := 1) C fl_X11_12 (mm_dec dk_X11_postStandsOn 8 rfl) rfl rfl (mm_ref i0 rfl) ?_
        refine mm_aload_n C (mm_dec dk_X11_postStandsOn 9 rfl) rfl ?_
        refine mm_getr (t := 14) C fl_X11_28 (mm_dec dk_X11_postStandsOn 10 rfl) rfl rfl (mm_ref i0 rfl) ?_
        refine mm_iload_n C (mm_dec dk_X11_postStandsOn 11 rfl) rfl ?_
        refine mm_cVi (rest := [mR 1]) C1 ev_X11_392 (mm_dec dk_X11_postStandsOn 12 rfl) (c_X2_cellOf x.2.1 hl (d - 1) (by omega) h i0 x2_2 ⟨by omega, by omega⟩) rfl rfl (Nat.le_of_ble_eq_true rfl) ⟨by decide, by decide⟩ rfl (fun r22 h22c hp22 => ?_) (fun _ _ q => q.elim)
        obtain ⟨z22, y22⟩ := hp22
        rw [z22, y22]
        have g4 : 0 ≤ (h.2.1 15 x2_2) ∧ (h.2.1 15 x2_2) ≤ 399 := i0.2.1 15 x2_2
        refine mm_cVi (rest := []) C1 ev_X11_395 (mm_dec dk_X11_postStandsOn 13 rfl) (c_X5_groundAt x.2.1 hl (d - 1) (by omega) h i0 (h.2.1 15 x2_2) ⟨by omega, by omega⟩) rfl rfl (Nat.le_of_ble_eq_true rfl) ⟨by decide, by decide⟩ rfl (fun r25 h25c hp25 => ?_) (fun _ _ q => q.elim)
        obtain ⟨z25, y25⟩ := hp25
        rw [z25, y25]
        have g6 : 0 ≤ (h.2.1 2 (h.2.1 15 x2_2)) ∧ (h.2.1 2 (h.2.1 15 x2_2)) ≤ 7 := i0.2.1 2 (h.2.1 15 x2_2)
        refine mm_iload_n C (mm_dec dk_X11_postStandsOn 14 rfl) rfl ?_
        refine mm_icmp_ne (tgt := 34) C (mm_dec dk_X11_postStandsOn 15 rfl) (by decide) (fun c29 => ?_) (fun c29 => ?_)
        · skip
          refine mm_iincL (ls2 := [mR 0, mI p1, mI (x2_2 + 1)]) C (mm_dec dk_X11_postStandsOn 18 rfl) rfl (by decide) ⟨by omega, by omega⟩ rfl ?_
          refine mm_goto (tgt := 2) C (mm_dec dk_X11_postStandsOn 19 rfl) (by decide) ?_
          exact ih2 (x2_2 + 1) ⟨by omega, by omega⟩ (by omega)
        · skip
          refine mm_iconst C (mm_dec dk_X11_postStandsOn 16 rfl) ⟨by decide, by decide⟩ ?_
          exact mm_zret C T (mm_dec dk_X11_postStandsOn 17 rfl) (by decide : 0 ≤ 0) (by decide : 0 ≤ 0) (by omega) ⟨_, rfl, ⟨⟨by omega, by omega⟩, rfl⟩⟩
  refine mm_istore_nL (ls2 := [mR 0, mI p1, mI 0]) C (mm_dec dk_X11_postStandsOn 1 rfl) (by decide) rfl ?_
  exact J2 (((20 - 0) : Int) + 1).toNat 0 ⟨by omega, by omega⟩ (by omega)
set_option maxRecDepth 100000 in
set_option maxHeartbeats 4000000 in
theorem c_X11_putOnTape (l : Launch) (hl : l.stackTraces = false) (d : Nat) (hd : 0 ≤ d) (h : mH) (i0 : mm_inv h) (p1 : Int) : mm_Met l d yX11_putOnTape cX11_putOnTape 3 none [mR 0, mI p1] h (mm_pv fun h2 => mm_inv h2 ∧ mm_fr [(0, 12)] [62] h h2) mm_nx 0 0 := by
  refine mm_ofW (ls := [mR 0, mI p1, mU]) hl (by decide) rfl (Nat.le_of_ble_eq_true rfl) ?_
  intro x hxl C T hnm htb
  subst hxl
  refine mm_rng (fun hr _ => ?_)
  have ap1 : -2147483648 ≤ p1 ∧ p1 < 2147483648 := mm_ok_at hr (i := 1) rfl
  have f0 : mm_fr [(0, 12)] [62] h h := mm_fr_rf
  refine mm_bipush C (mm_dec dk_X11_putOnTape 0 rfl) ⟨by decide, by decide⟩ ?_
  have J3 : ∀ (n : Nat) (x3_2 : Int) (bx3_2 : -100000 ≤ x3_2 ∧ x3_2 ≤ 24) (h3_ : mH) (i3_ : mm_inv h3_) (f3_ : mm_fr [(0, 12)] [62] h h3_), (x3_2 - (-100000) : Int) < n → mm_W x 0 0 3 [mR 0, mI p1, mI x3_2] [] h3_ := by
    intro n
    induction n with
    | zero =>
      intro x3_2 bx3_2 h3_ i3_ f3_ hm
      exfalso; omega
    | succ n ih3 =>
      intro x3_2 bx3_2 h3_ i3_ f3_ hm3
      refine mm_iload_n C (mm_dec dk_X11_putOnTape 2 rfl) rfl ?_
      have J49 : mm_W x 0 0 49 [mU, mU, mU] [] h3_ := by
        exact mm_vret C T (mm_dec dk_X11_putOnTape 26 rfl) (by decide : 0 ≤ 0) (by decide : 0 ≤ 0) ⟨rfl, ⟨i3_, f3_⟩⟩
      refine mm_if_lt (tgt := 49) C (mm_dec dk_X11_putOnTape 3 rfl) (by decide) (fun c4 => ?_) (fun c4 => ?_)
      · skip
        refine mm_fgt 0 ?_
        refine mm_fgt 1 ?_
        refine mm_fgt 2 ?_
        exact J49
      · skip
        refine mm_aload_n C (mm_dec dk_X11_putOnTape 4 rfl) rfl ?_
        refine mm_geti C fl_X11_98 (mm_dec dk_X11_putOnTape 5 rfl) rfl rfl (Or.inl rfl) ?_
        have g1 : 0 ≤ (h3_.1 0 12) ∧ (h3_.1 0 12) ≤ 500 := i3_.1 0 12
        refine mm_sipush C (mm_dec dk_X11_putOnTape 6 rfl) ⟨by decide, by decide⟩ ?_
        refine mm_icmp_ge (tgt := 49) C (mm_dec dk_X11_putOnTape 7 rfl) (by decide) (fun c14 => ?_) (fun c14 => ?_)
        · skip
          refine mm_fgt 0 ?_
          refine mm_fgt 1 ?_
          refine mm_fgt 2 ?_
          exact J49
        · skip
          refine mm_aload_n C (mm_dec dk_X11_putOnTape 8 rfl) rfl ?_
          refine mm_getr (t := 62) C fl_X11_86 (mm_dec dk_X11_putOnTape 9 rfl) rfl rfl (mm_ref i3_ rfl) ?_
          refine mm_aload_n C (mm_dec dk_X11_putOnTape 10 rfl) rfl ?_
          refine mm_geti C fl_X11_98 (mm_dec dk_X11_putOnTape 11 rfl) rfl rfl (Or.inl rfl) ?_
          refine mm_iload_n C (mm_dec dk_X11_putOnTape 12 rfl) rfl ?_
          refine mm_iload_n C (mm_dec dk_X11_putOnTape 13 rfl) rfl ?_
          refine mm_iushr C (mm_dec dk_X11_putOnTape 14 rfl) ?_
          have g2 : -2147483648 ≤ (mm_viushr p1 x3_2) ∧ (mm_viushr p1 x3_2) < 2147483648 := fb_rng _
          refine mm_sipush C (mm_dec dk_X11_putOnTape 15 rfl) ⟨by decide, by decide⟩ ?_
          refine mm_iand C (mm_dec dk_X11_putOnTape 16 rfl) ?_
          have g4 : 0 ≤ (mm_viand (mm_viushr p1 x3_2) 255) ∧ (mm_viand (mm_viushr p1 x3_2) 255) ≤ 255 := mm_and_rg2 (by omega) (by omega)
          refine mm_iast C (mm_dec dk_X11_putOnTape 17 rfl) rfl (by omega) (by omega) ?_
          have i1 : mm_inv (mm_pa h3_ 62 (h3_.1 0 12) (mm_viand (mm_viushr p1 x3_2) 255)) := mm_inv_pa i3_ (show -2147483648 ≤ (mm_viand (mm_viushr p1 x3_2) 255) ∧ (mm_viand (mm_viushr p1 x3_2) 255) ≤ 2147483647 from ⟨by omega, by omega⟩)
          have f1 : mm_fr [(0, 12)] [62] h (mm_pa h3_ 62 (h3_.1 0 12) (mm_viand (mm_viushr p1 x3_2) 255)) := mm_fr_pa f3_ (by decide)
          obtain ⟨h1, eh1⟩ : ∃ z, z = mm_pa h3_ 62 (h3_.1 0 12) (mm_viand (mm_viushr p1 x3_2) 255) := ⟨_, rfl⟩
          rw [← eh1] at i1 f1 ⊢
          have qh1_5 : h1.1 0 12 = h3_.1 0 12 := by rw [eh1]; rfl
          refine mm_aload_n C (mm_dec dk_X11_putOnTape 18 rfl) rfl ?_
          refine mm_dup C (mm_dec dk_X11_putOnTape 19 rfl) (show (2 : Nat) ≠ 1 by decide) ?_
          refine mm_geti C fl_X11_98 (mm_dec dk_X11_putOnTape 20 rfl) rfl rfl (Or.inl rfl) ?_
          refine mm_iconst C (mm_dec dk_X11_putOnTape 21 rfl) ⟨by decide, by decide⟩ ?_
          refine mm_iadd C (mm_dec dk_X11_putOnTape 22 rfl) ⟨by omega, by omega⟩ ?_
          refine mm_puti C fl_X11_98 (mm_dec dk_X11_putOnTape 23 rfl) rfl rfl rfl (Or.inl ⟨rfl, rfl⟩) ?_
          have i2 : mm_inv (mm_pf h1 0 12 ((h1.1 0 12) + 1)) := mm_inv_pf i1 (show 0 ≤ ((h1.1 0 12) + 1) ∧ ((h1.1 0 12) + 1) ≤ 500 from ⟨by omega, by omega⟩) (by decide)
          have f2 : mm_fr [(0, 12)] [62] h (mm_pf h1 0 12 ((h1.1 0 12) + 1)) := mm_fr_pf f1 (by decide)
          obtain ⟨h2, eh2⟩ : ∃ z, z = mm_pf h1 0 12 ((h1.1 0 12) + 1) := ⟨_, rfl⟩
          rw [← eh2] at i2 f2 ⊢
          have qh2 : h2.1 0 12 = ((h1.1 0 12) + 1) := by rw [eh2]; exact mm_pf_same _ _ _ _
          refine mm_iincL (ls2 := [mR 0, mI p1, mI (x3_2 + (-8))]) C (mm_dec dk_X11_putOnTape 24 rfl) rfl (by decide) ⟨by omega, by omega⟩ rfl ?_
          refine mm_goto (tgt := 3) C (mm_dec dk_X11_putOnTape 25 rfl) (by decide) ?_
          exact ih3 (x3_2 + (-8)) ⟨by omega, by omega⟩ h2 i2 f2 (by omega)
  refine mm_istore_nL (ls2 := [mR 0, mI p1, mI 24]) C (mm_dec dk_X11_putOnTape 1 rfl) (by decide) rfl ?_
  exact J3 (((24 - (-100000)) : Int) + 1).toNat 24 ⟨by omega, by omega⟩ h i0 f0 (by omega)
set_option maxRecDepth 100000 in
set_option maxHeartbeats 4000000 in
theorem c_X11_needCell (l : Launch) (hl : l.stackTraces = false) (d : Nat) (hd : 8 ≤ d) (h : mH) (i0 : mm_inv h) (p1 : Int) (p2 : Int) : mm_Met l d yX11_needCell cX11_needCell 3 (some .int) [mR 0, mI p1, mI p2] h (mm_pi fun r h2 => h2 = h ∧ ((0 ≤ p1 ∧ p1 < (h.1 1 5) ∧ 0 ≤ p2 ∧ p2 < (h.1 1 6) ∧ 1 ≠ 0 ∧ r = ((p2 * 20) + p1)))) (mm_xp h) 1 6 := by
  refine mm_ofW (ls := [mR 0, mI p1, mI p2]) hl (by decide) rfl (Nat.le_of_ble_eq_true rfl) ?_
  intro x hxl C T hnm htb
  subst hxl
  have C1 := mm_OK_le (d' := d - 1 + 1) (by omega) C
  have C8 := mm_OK_le (d' := d - 8 + 8) (by omega) C
  refine mm_rng (fun hr _ => ?_)
  have ap1 : -2147483648 ≤ p1 ∧ p1 < 2147483648 := mm_ok_at hr (i := 1) rfl
  have ap2 : -2147483648 ≤ p2 ∧ p2 < 2147483648 := mm_ok_at hr (i := 2) rfl
  have f0 : mm_fr [] [] h h := mm_fr_rf
  refine mm_aload_n C (mm_dec dk_X11_needCell 0 rfl) rfl ?_
  refine mm_getr (t := 1) C fl_X11_12 (mm_dec dk_X11_needCell 1 rfl) rfl rfl (mm_ref i0 rfl) ?_
  refine mm_iload_n C (mm_dec dk_X11_needCell 2 rfl) rfl ?_
  refine mm_iload_n C (mm_dec dk_X11_needCell 3 rfl) rfl ?_
  refine mm_cVi (rest := []) C1 ev_X11_158 (mm_dec dk_X11_needCell 4 rfl) (c_X5_holds x.2.1 hl (d - 1) (by omega) h i0 p1 p2) rfl rfl (Nat.le_of_ble_eq_true rfl) ⟨by decide, by decide⟩ rfl (fun r6 h6c hp6 => ?_) (fun _ _ q => q.elim)
  obtain ⟨z6, y6⟩ := hp6
  rw [z6]
  rcases y6 with ⟨k6_0, rfl⟩ | ⟨k6_0, k6_1, rfl⟩ | ⟨k6_0, k6_1, k6_2, rfl⟩ | ⟨k6_0, k6_1, k6_2, k6_3, rfl⟩ | ⟨k6_0, k6_1, k6_2, k6_3, rfl⟩
  · skip
    refine mm_if_ne (tgt := 23) C (mm_dec dk_X11_needCell 5 rfl) (by decide) (fun c9 => ?_) (fun c9 => ?_)
    · skip
      exfalso; omega
    · skip
      exact mm_throwXW C8 T htb th_nse (i := 0) rfl (mm_dec dk_X11_needCell 6 rfl) (mm_dec dk_X11_needCell 7 rfl) (mm_dec dk_X11_needCell 8 rfl) (mm_dec dk_X11_needCell 9 rfl) (mm_dec dk_X11_needCell 10 rfl) (Nat.le_of_ble_eq_true rfl) ⟨by decide, by decide⟩ ⟨by decide, by decide⟩ (Or.inl ⟨rfl, rfl⟩)
  · skip
    have g2 : 1 ≤ (h.1 1 5) ∧ (h.1 1 5) ≤ 20 := i0.1 1 5
    refine mm_if_ne (tgt := 23) C (mm_dec dk_X11_needCell 5 rfl) (by decide) (fun c9 => ?_) (fun c9 => ?_)
    · skip
      exfalso; omega
    · skip
      exact mm_throwXW C8 T htb th_nse (i := 0) rfl (mm_dec dk_X11_needCell 6 rfl) (mm_dec dk_X11_needCell 7 rfl) (mm_dec dk_X11_needCell 8 rfl) (mm_dec dk_X11_needCell 9 rfl) (mm_dec dk_X11_needCell 10 rfl) (Nat.le_of_ble_eq_true rfl) ⟨by decide, by decide⟩ ⟨by decide, by decide⟩ (Or.inl ⟨rfl, rfl⟩)
  · skip
    have g3 : 1 ≤ (h.1 1 5) ∧ (h.1 1 5) ≤ 20 := i0.1 1 5
    refine mm_if_ne (tgt := 23) C (mm_dec dk_X11_needCell 5 rfl) (by decide) (fun c9 => ?_) (fun c9 => ?_)
    · skip
      exfalso; omega
    · skip
      exact mm_throwXW C8 T htb th_nse (i := 0) rfl (mm_dec dk_X11_needCell 6 rfl) (mm_dec dk_X11_needCell 7 rfl) (mm_dec dk_X11_needCell 8 rfl) (mm_dec dk_X11_needCell 9 rfl) (mm_dec dk_X11_needCell 10 rfl) (Nat.le_of_ble_eq_true rfl) ⟨by decide, by decide⟩ ⟨by decide, by decide⟩ (Or.inl ⟨rfl, rfl⟩)
  · skip
    have g4 : 1 ≤ (h.1 1 5) ∧ (h.1 1 5) ≤ 20 := i0.1 1 5
    have g5 : 1 ≤ (h.1 1 6) ∧ (h.1 1 6) ≤ 20 := i0.1 1 6
    refine mm_if_ne (tgt := 23) C (mm_dec dk_X11_needCell 5 rfl) (by decide) (fun c9 => ?_) (fun c9 => ?_)
    · skip
      exfalso; omega
    · skip
      exact mm_throwXW C8 T htb th_nse (i := 0) rfl (mm_dec dk_X11_needCell 6 rfl) (mm_dec dk_X11_needCell 7 rfl) (mm_dec dk_X11_needCell 8 rfl) (mm_dec dk_X11_needCell 9 rfl) (mm_dec dk_X11_needCell 10 rfl) (Nat.le_of_ble_eq_true rfl) ⟨by decide, by decide⟩ ⟨by decide, by decide⟩ (Or.inl ⟨rfl, rfl⟩)
  · skip
    have g6 : 1 ≤ (h.1 1 5) ∧ (h.1 1 5) ≤ 20 := i0.1 1 5
    have g7 : 1 ≤ (h.1 1 6) ∧ (h.1 1 6) ≤ 20 := i0.1 1 6
    refine mm_if_ne (tgt := 23) C (mm_dec dk_X11_needCell 5 rfl) (by decide) (fun c9 => ?_) (fun c9 => ?_)
    · skip
      refine mm_iload_n C (mm_dec dk_X11_needCell 11 rfl) rfl ?_
      refine mm_bipush C (mm_dec dk_X11_needCell 12 rfl) ⟨by decide, by decide⟩ ?_
      refine mm_imul C (mm_dec dk_X11_needCell 13 rfl) ⟨by omega, by omega⟩ ?_
      refine mm_iload_n C (mm_dec dk_X11_needCell 14 rfl) rfl ?_
      refine mm_iadd C (mm_dec dk_X11_needCell 15 rfl) ⟨by omega, by omega⟩ ?_
      exact mm_iret C T (mm_dec dk_X11_needCell 16 rfl) (by decide : 0 ≤ 1) (by decide : 0 ≤ 6) ⟨_, rfl, ⟨rfl, ⟨by omega, by omega, by omega, by omega, by omega, rfl⟩⟩⟩
    · skip
      exfalso; omega
set_option maxRecDepth 100000 in
set_option maxHeartbeats 4000000 in
theorem c_X11_needCourse (l : Launch) (hl : l.stackTraces = false) (d : Nat) (hd : 8 ≤ d) (h : mH) (i0 : mm_inv h) (p1 : Int) : mm_Met l d yX11_needCourse cX11_needCourse 2 none [mR 0, mI p1] h (mm_pv fun h2 => h2 = h ∧ 0 ≤ p1 ∧ p1 < (h.1 14 8)) (mm_xp h) 1 6 := by
  refine mm_ofW (ls := [mR 0, mI p1]) hl (by decide) rfl (Nat.le_of_ble_eq_true rfl) ?_
  intro x hxl C T hnm htb
  subst hxl
  have C1 := mm_OK_le (d' := d - 1 + 1) (by omega) C
  have C8 := mm_OK_le (d' := d - 8 + 8) (by omega) C
  refine mm_rng (fun hr _ => ?_)
  have ap1 : -2147483648 ≤ p1 ∧ p1 < 2147483648 := mm_ok_at hr (i := 1) rfl
  have f0 : mm_fr [] [] h h := mm_fr_rf
  refine mm_iload_n C (mm_dec dk_X11_needCourse 0 rfl) rfl ?_
  refine mm_if_lt (tgt := 15) C (mm_dec dk_X11_needCourse 1 rfl) (by decide) (fun c1 => ?_) (fun c1 => ?_)
  · skip
    exact mm_throwXW C8 T htb th_nse (i := 4) rfl (mm_dec dk_X11_needCourse 7 rfl) (mm_dec dk_X11_needCourse 8 rfl) (mm_dec dk_X11_needCourse 9 rfl) (mm_dec dk_X11_needCourse 10 rfl) (mm_dec dk_X11_needCourse 11 rfl) (Nat.le_of_ble_eq_true rfl) ⟨by decide, by decide⟩ ⟨by decide, by decide⟩ (Or.inl ⟨rfl, rfl⟩)
  · skip
    refine mm_iload_n C (mm_dec dk_X11_needCourse 2 rfl) rfl ?_
    refine mm_aload_n C (mm_dec dk_X11_needCourse 3 rfl) rfl ?_
    refine mm_getr (t := 14) C fl_X11_28 (mm_dec dk_X11_needCourse 4 rfl) rfl rfl (mm_ref i0 rfl) ?_
    refine mm_cVi (rest := [mI p1]) C1 ev_X11_200 (mm_dec dk_X11_needCourse 5 rfl) (c_X2_size x.2.1 hl (d - 1) (by omega) h i0 ) rfl rfl (Nat.le_of_ble_eq_true rfl) ⟨by decide, by decide⟩ rfl (fun r9 h9c hp9 => ?_) (fun _ _ q => q.elim)
    obtain ⟨z9, y9⟩ := hp9
    rw [z9, y9]
    have g2 : 0 ≤ (h.1 14 8) ∧ (h.1 14 8) ≤ 8 := i0.1 14 8
    refine mm_icmp_lt (tgt := 26) C (mm_dec dk_X11_needCourse 6 rfl) (by decide) (fun c12 => ?_) (fun c12 => ?_)
    · skip
      exact mm_vret C T (mm_dec dk_X11_needCourse 12 rfl) (by decide : 0 ≤ 1) (by decide : 0 ≤ 6) ⟨rfl, ⟨rfl, by omega, by omega⟩⟩
    · skip
      exact mm_throwXW C8 T htb th_nse (i := 4) rfl (mm_dec dk_X11_needCourse 7 rfl) (mm_dec dk_X11_needCourse 8 rfl) (mm_dec dk_X11_needCourse 9 rfl) (mm_dec dk_X11_needCourse 10 rfl) (mm_dec dk_X11_needCourse 11 rfl) (Nat.le_of_ble_eq_true rfl) ⟨by decide, by decide⟩ ⟨by decide, by decide⟩ (Or.inl ⟨rfl, rfl⟩)
set_option maxRecDepth 100000 in
set_option maxHeartbeats 4000000 in
theorem c_X11_needPost (l : Launch) (hl : l.stackTraces = false) (d : Nat) (hd : 8 ≤ d) (h : mH) (i0 : mm_inv h) (p1 : Int) : mm_Met l d yX11_needPost cX11_needPost 2 none [mR 0, mI p1] h (mm_pv fun h2 => h2 = h ∧ 0 ≤ p1 ∧ p1 < (h.1 14 7)) (mm_xp h) 1 6 := by
  refine mm_ofW (ls := [mR 0, mI p1]) hl (by decide) rfl (Nat.le_of_ble_eq_true rfl) ?_
  intro x hxl C T hnm htb
  subst hxl
  have C1 := mm_OK_le (d' := d - 1 + 1) (by omega) C
  have C8 := mm_OK_le (d' := d - 8 + 8) (by omega) C
  refine mm_rng (fun hr _ => ?_)
  have ap1 : -2147483648 ≤ p1 ∧ p1 < 2147483648 := mm_ok_at hr (i := 1) rfl
  have f0 : mm_fr [] [] h h := mm_fr_rf
  refine mm_iload_n C (mm_dec dk_X11_needPost 0 rfl) rfl ?_
  refine mm_if_lt (tgt := 15) C (mm_dec dk_X11_needPost 1 rfl) (by decide) (fun c1 => ?_) (fun c1 => ?_)
  · skip
    exact mm_throwXW C8 T htb th_nse (i := 5) rfl (mm_dec dk_X11_needPost 7 rfl) (mm_dec dk_X11_needPost 8 rfl) (mm_dec dk_X11_needPost 9 rfl) (mm_dec dk_X11_needPost 10 rfl) (mm_dec dk_X11_needPost 11 rfl) (Nat.le_of_ble_eq_true rfl) ⟨by decide, by decide⟩ ⟨by decide, by decide⟩ (Or.inl ⟨rfl, rfl⟩)
  · skip
    refine mm_iload_n C (mm_dec dk_X11_needPost 2 rfl) rfl ?_
    refine mm_aload_n C (mm_dec dk_X11_needPost 3 rfl) rfl ?_
    refine mm_getr (t := 14) C fl_X11_28 (mm_dec dk_X11_needPost 4 rfl) rfl rfl (mm_ref i0 rfl) ?_
    refine mm_cVi (rest := [mI p1]) C1 ev_X11_191 (mm_dec dk_X11_needPost 5 rfl) (c_X2_posts x.2.1 hl (d - 1) (by omega) h i0 ) rfl rfl (Nat.le_of_ble_eq_true rfl) ⟨by decide, by decide⟩ rfl (fun r9 h9c hp9 => ?_) (fun _ _ q => q.elim)
    obtain ⟨z9, y9⟩ := hp9
    rw [z9, y9]
    have g2 : 0 ≤ (h.1 14 7) ∧ (h.1 14 7) ≤ 20 := i0.1 14 7
    refine mm_icmp_lt (tgt := 26) C (mm_dec dk_X11_needPost 6 rfl) (by decide) (fun c12 => ?_) (fun c12 => ?_)
    · skip
      exact mm_vret C T (mm_dec dk_X11_needPost 12 rfl) (by decide : 0 ≤ 1) (by decide : 0 ≤ 6) ⟨rfl, ⟨rfl, by omega, by omega⟩⟩
    · skip
      exact mm_throwXW C8 T htb th_nse (i := 5) rfl (mm_dec dk_X11_needPost 7 rfl) (mm_dec dk_X11_needPost 8 rfl) (mm_dec dk_X11_needPost 9 rfl) (mm_dec dk_X11_needPost 10 rfl) (mm_dec dk_X11_needPost 11 rfl) (Nat.le_of_ble_eq_true rfl) ⟨by decide, by decide⟩ ⟨by decide, by decide⟩ (Or.inl ⟨rfl, rfl⟩)
set_option maxRecDepth 100000 in
set_option maxHeartbeats 4000000 in
theorem c_X11_needRunner (l : Launch) (hl : l.stackTraces = false) (d : Nat) (hd : 8 ≤ d) (h : mH) (i0 : mm_inv h) (p1 : Int) : mm_Met l d yX11_needRunner cX11_needRunner 2 none [mR 0, mI p1] h (mm_pv fun h2 => h2 = h ∧ 0 ≤ p1 ∧ p1 < (h.1 22 8)) (mm_xp h) 1 6 := by
  refine mm_ofW (ls := [mR 0, mI p1]) hl (by decide) rfl (Nat.le_of_ble_eq_true rfl) ?_
  intro x hxl C T hnm htb
  subst hxl
  have C1 := mm_OK_le (d' := d - 1 + 1) (by omega) C
  have C8 := mm_OK_le (d' := d - 8 + 8) (by omega) C
  refine mm_rng (fun hr _ => ?_)
  have ap1 : -2147483648 ≤ p1 ∧ p1 < 2147483648 := mm_ok_at hr (i := 1) rfl
  have f0 : mm_fr [] [] h h := mm_fr_rf
  refine mm_iload_n C (mm_dec dk_X11_needRunner 0 rfl) rfl ?_
  refine mm_if_lt (tgt := 15) C (mm_dec dk_X11_needRunner 1 rfl) (by decide) (fun c1 => ?_) (fun c1 => ?_)
  · skip
    exact mm_throwXW C8 T htb th_nse (i := 6) rfl (mm_dec dk_X11_needRunner 7 rfl) (mm_dec dk_X11_needRunner 8 rfl) (mm_dec dk_X11_needRunner 9 rfl) (mm_dec dk_X11_needRunner 10 rfl) (mm_dec dk_X11_needRunner 11 rfl) (Nat.le_of_ble_eq_true rfl) ⟨by decide, by decide⟩ ⟨by decide, by decide⟩ (Or.inl ⟨rfl, rfl⟩)
  · skip
    refine mm_iload_n C (mm_dec dk_X11_needRunner 2 rfl) rfl ?_
    refine mm_aload_n C (mm_dec dk_X11_needRunner 3 rfl) rfl ?_
    refine mm_getr (t := 22) C fl_X11_37 (mm_dec dk_X11_needRunner 4 rfl) rfl rfl (mm_ref i0 rfl) ?_
    refine mm_cVi (rest := [mI p1]) C1 ev_X11_230 (mm_dec dk_X11_needRunner 5 rfl) (c_X9_size x.2.1 hl (d - 1) (by omega) h i0 ) rfl rfl (Nat.le_of_ble_eq_true rfl) ⟨by decide, by decide⟩ rfl (fun r9 h9c hp9 => ?_) (fun _ _ q => q.elim)
    obtain ⟨z9, y9⟩ := hp9
    rw [z9, y9]
    have g2 : 0 ≤ (h.1 22 8) ∧ (h.1 22 8) ≤ 40 := i0.1 22 8
    refine mm_icmp_lt (tgt := 26) C (mm_dec dk_X11_needRunner 6 rfl) (by decide) (fun c12 => ?_) (fun c12 => ?_)
    · skip
      exact mm_vret C T (mm_dec dk_X11_needRunner 12 rfl) (by decide : 0 ≤ 1) (by decide : 0 ≤ 6) ⟨rfl, ⟨rfl, by omega, by omega⟩⟩
    · skip
      exact mm_throwXW C8 T htb th_nse (i := 6) rfl (mm_dec dk_X11_needRunner 7 rfl) (mm_dec dk_X11_needRunner 8 rfl) (mm_dec dk_X11_needRunner 9 rfl) (mm_dec dk_X11_needRunner 10 rfl) (mm_dec dk_X11_needRunner 11 rfl) (Nat.le_of_ble_eq_true rfl) ⟨by decide, by decide⟩ ⟨by decide, by decide⟩ (Or.inl ⟨rfl, rfl⟩)
set_option maxRecDepth 100000 in
set_option maxHeartbeats 4000000 in
theorem c_X11_needPlace (l : Launch) (hl : l.stackTraces = false) (d : Nat) (hd : 8 ≤ d) (h : mH) (i0 : mm_inv h) (p1 : Int) (p2 : Int) (bp1 : 0 ≤ p1 ∧ p1 ≤ 39) : mm_Met l d yX11_needPlace cX11_needPlace 3 none [mR 0, mI p1, mI p2] h (mm_pv fun h2 => h2 = h ∧ 0 ≤ p2 ∧ p2 < (h.2.1 19 (h.2.1 23 p1))) (mm_xp h) 1 6 := by
  refine mm_ofW (ls := [mR 0, mI p1, mI p2]) hl (by decide) rfl (Nat.le_of_ble_eq_true rfl) ?_
  intro x hxl C T hnm htb
  subst hxl
  have C1 := mm_OK_le (d' := d - 1 + 1) (by omega) C
  have C8 := mm_OK_le (d' := d - 8 + 8) (by omega) C
  refine mm_rng (fun hr _ => ?_)
  have ap1 : -2147483648 ≤ p1 ∧ p1 < 2147483648 := mm_ok_at hr (i := 1) rfl
  have ap2 : -2147483648 ≤ p2 ∧ p2 < 2147483648 := mm_ok_at hr (i := 2) rfl
  have f0 : mm_fr [] [] h h := mm_fr_rf
  refine mm_iload_n C (mm_dec dk_X11_needPlace 0 rfl) rfl ?_
  refine mm_if_lt (tgt := 16) C (mm_dec dk_X11_needPlace 1 rfl) (by decide) (fun c1 => ?_) (fun c1 => ?_)
  · skip
    exact mm_throwXW C8 T htb th_nse (i := 7) rfl (mm_dec dk_X11_needPlace 8 rfl) (mm_dec dk_X11_needPlace 9 rfl) (mm_dec dk_X11_needPlace 10 rfl) (mm_dec dk_X11_needPlace 11 rfl) (mm_dec dk_X11_needPlace 12 rfl) (Nat.le_of_ble_eq_true rfl) ⟨by decide, by decide⟩ ⟨by decide, by decide⟩ (Or.inl ⟨rfl, rfl⟩)
  · skip
    refine mm_iload_n C (mm_dec dk_X11_needPlace 2 rfl) rfl ?_
    refine mm_aload_n C (mm_dec dk_X11_needPlace 3 rfl) rfl ?_
    refine mm_getr (t := 22) C fl_X11_37 (mm_dec dk_X11_needPlace 4 rfl) rfl rfl (mm_ref i0 rfl) ?_
    refine mm_iload_n C (mm_dec dk_X11_needPlace 5 rfl) rfl ?_
    refine mm_cVi (rest := [mI p2]) C1 ev_X11_238 (mm_dec dk_X11_needPlace 6 rfl) (c_X9_rowSize x.2.1 hl (d - 1) (by omega) h i0 p1 ⟨by omega, by omega⟩) rfl rfl (Nat.le_of_ble_eq_true rfl) ⟨by decide, by decide⟩ rfl (fun r10 h10c hp10 => ?_) (fun _ _ q => q.elim)
    obtain ⟨z10, y10⟩ := hp10
    rw [z10, y10]
    have g2 : 0 ≤ (h.2.1 19 (h.2.1 23 p1)) ∧ (h.2.1 19 (h.2.1 23 p1)) ≤ 12 := i0.2.1 19 (h.2.1 23 p1)
    have g3 : 0 ≤ (h.2.1 23 p1) ∧ (h.2.1 23 p1) ≤ 7 := i0.2.1 23 p1
    refine mm_icmp_lt (tgt := 27) C (mm_dec dk_X11_needPlace 7 rfl) (by decide) (fun c13 => ?_) (fun c13 => ?_)
    · skip
      exact mm_vret C T (mm_dec dk_X11_needPlace 13 rfl) (by decide : 0 ≤ 1) (by decide : 0 ≤ 6) ⟨rfl, ⟨rfl, by omega, by omega⟩⟩
    · skip
      exact mm_throwXW C8 T htb th_nse (i := 7) rfl (mm_dec dk_X11_needPlace 8 rfl) (mm_dec dk_X11_needPlace 9 rfl) (mm_dec dk_X11_needPlace 10 rfl) (mm_dec dk_X11_needPlace 11 rfl) (mm_dec dk_X11_needPlace 12 rfl) (Nat.le_of_ble_eq_true rfl) ⟨by decide, by decide⟩ ⟨by decide, by decide⟩ (Or.inl ⟨rfl, rfl⟩)
set_option maxRecDepth 100000 in
set_option maxHeartbeats 4000000 in
theorem c_X11_needSecond (l : Launch) (hl : l.stackTraces = false) (d : Nat) (hd : 8 ≤ d) (h : mH) (i0 : mm_inv h) (p1 : Int) : mm_Met l d yX11_needSecond cX11_needSecond 2 none [mR 0, mI p1] h (mm_pv fun h2 => h2 = h ∧ 0 ≤ p1 ∧ p1 ≤ (h.1 0 13)) (mm_xp h) 1 6 := by
  refine mm_ofW (ls := [mR 0, mI p1]) hl (by decide) rfl (Nat.le_of_ble_eq_true rfl) ?_
  intro x hxl C T hnm htb
  subst hxl
  have C1 := mm_OK_le (d' := d - 1 + 1) (by omega) C
  have C8 := mm_OK_le (d' := d - 8 + 8) (by omega) C
  refine mm_rng (fun hr _ => ?_)
  have ap1 : -2147483648 ≤ p1 ∧ p1 < 2147483648 := mm_ok_at hr (i := 1) rfl
  have f0 : mm_fr [] [] h h := mm_fr_rf
  refine mm_iload_n C (mm_dec dk_X11_needSecond 0 rfl) rfl ?_
  refine mm_if_lt (tgt := 12) C (mm_dec dk_X11_needSecond 1 rfl) (by decide) (fun c1 => ?_) (fun c1 => ?_)
  · skip
    exact mm_throwXW C8 T htb th_iae (i := 12) rfl (mm_dec dk_X11_needSecond 6 rfl) (mm_dec dk_X11_needSecond 7 rfl) (mm_dec dk_X11_needSecond 8 rfl) (mm_dec dk_X11_needSecond 9 rfl) (mm_dec dk_X11_needSecond 10 rfl) (Nat.le_of_ble_eq_true rfl) ⟨by decide, by decide⟩ ⟨by decide, by decide⟩ (Or.inr ⟨rfl, rfl⟩)
  · skip
    refine mm_iload_n C (mm_dec dk_X11_needSecond 2 rfl) rfl ?_
    refine mm_aload_n C (mm_dec dk_X11_needSecond 3 rfl) rfl ?_
    refine mm_geti C fl_X11_102 (mm_dec dk_X11_needSecond 4 rfl) rfl rfl (Or.inl rfl) ?_
    have g1 : 0 ≤ (h.1 0 13) ∧ (h.1 0 13) ≤ 99999 := i0.1 0 13
    refine mm_icmp_le (tgt := 23) C (mm_dec dk_X11_needSecond 5 rfl) (by decide) (fun c9 => ?_) (fun c9 => ?_)
    · skip
      exact mm_vret C T (mm_dec dk_X11_needSecond 11 rfl) (by decide : 0 ≤ 1) (by decide : 0 ≤ 6) ⟨rfl, ⟨rfl, by omega, by omega⟩⟩
    · skip
      exact mm_throwXW C8 T htb th_iae (i := 12) rfl (mm_dec dk_X11_needSecond 6 rfl) (mm_dec dk_X11_needSecond 7 rfl) (mm_dec dk_X11_needSecond 8 rfl) (mm_dec dk_X11_needSecond 9 rfl) (mm_dec dk_X11_needSecond 10 rfl) (Nat.le_of_ble_eq_true rfl) ⟨by decide, by decide⟩ ⟨by decide, by decide⟩ (Or.inr ⟨rfl, rfl⟩)
set_option maxRecDepth 100000 in
set_option maxHeartbeats 4000000 in
theorem c_X11_needBytes (l : Launch) (hl : l.stackTraces = false) (d : Nat) (hd : 8 ≤ d) (h : mH) (i0 : mm_inv h) (p1 : Int) : mm_Met l d yX11_needBytes cX11_needBytes 2 none [mR 0, mI p1] h (mm_pv fun h2 => h2 = h ∧ 0 ≤ p1 ∧ p1 ≤ (h.1 0 12)) (mm_xp h) 1 6 := by
  refine mm_ofW (ls := [mR 0, mI p1]) hl (by decide) rfl (Nat.le_of_ble_eq_true rfl) ?_
  intro x hxl C T hnm htb
  subst hxl
  have C1 := mm_OK_le (d' := d - 1 + 1) (by omega) C
  have C8 := mm_OK_le (d' := d - 8 + 8) (by omega) C
  refine mm_rng (fun hr _ => ?_)
  have ap1 : -2147483648 ≤ p1 ∧ p1 < 2147483648 := mm_ok_at hr (i := 1) rfl
  have f0 : mm_fr [] [] h h := mm_fr_rf
  refine mm_iload_n C (mm_dec dk_X11_needBytes 0 rfl) rfl ?_
  refine mm_if_lt (tgt := 12) C (mm_dec dk_X11_needBytes 1 rfl) (by decide) (fun c1 => ?_) (fun c1 => ?_)
  · skip
    exact mm_throwXW C8 T htb th_iae (i := 14) rfl (mm_dec dk_X11_needBytes 6 rfl) (mm_dec dk_X11_needBytes 7 rfl) (mm_dec dk_X11_needBytes 8 rfl) (mm_dec dk_X11_needBytes 9 rfl) (mm_dec dk_X11_needBytes 10 rfl) (Nat.le_of_ble_eq_true rfl) ⟨by decide, by decide⟩ ⟨by decide, by decide⟩ (Or.inr ⟨rfl, rfl⟩)
  · skip
    refine mm_iload_n C (mm_dec dk_X11_needBytes 2 rfl) rfl ?_
    refine mm_aload_n C (mm_dec dk_X11_needBytes 3 rfl) rfl ?_
    refine mm_geti C fl_X11_98 (mm_dec dk_X11_needBytes 4 rfl) rfl rfl (Or.inl rfl) ?_
    have g1 : 0 ≤ (h.1 0 12) ∧ (h.1 0 12) ≤ 500 := i0.1 0 12
    refine mm_icmp_le (tgt := 23) C (mm_dec dk_X11_needBytes 5 rfl) (by decide) (fun c9 => ?_) (fun c9 => ?_)
    · skip
      exact mm_vret C T (mm_dec dk_X11_needBytes 11 rfl) (by decide : 0 ≤ 1) (by decide : 0 ≤ 6) ⟨rfl, ⟨rfl, by omega, by omega⟩⟩
    · skip
      exact mm_throwXW C8 T htb th_iae (i := 14) rfl (mm_dec dk_X11_needBytes 6 rfl) (mm_dec dk_X11_needBytes 7 rfl) (mm_dec dk_X11_needBytes 8 rfl) (mm_dec dk_X11_needBytes 9 rfl) (mm_dec dk_X11_needBytes 10 rfl) (Nat.le_of_ble_eq_true rfl) ⟨by decide, by decide⟩ ⟨by decide, by decide⟩ (Or.inr ⟨rfl, rfl⟩)
set_option maxRecDepth 100000 in
set_option maxHeartbeats 4000000 in
theorem c_X0_fillLegsTo (l : Launch) (hl : l.stackTraces = false) (d : Nat) (hd : 1 ≤ d) (h : mH) (i0 : mm_inv h) (p1 : Int) (bp1 : 0 ≤ p1 ∧ p1 ≤ 12) : mm_Met l d yX0_fillLegsTo cX0_fillLegsTo 3 none [mR 58, mI p1] h (mm_pv fun h2 => mm_inv h2 ∧ mm_fr [] [59] h h2) mm_nx 0 0 := by
  refine mm_ofW (ls := [mR 58, mI p1, mU]) hl (by decide) rfl (Nat.le_of_ble_eq_true rfl) ?_
  intro x hxl C T hnm htb
  subst hxl
  have C1 := mm_OK_le (d' := d - 1 + 1) (by omega) C
  refine mm_rng (fun hr _ => ?_)
  have ap1 : -2147483648 ≤ p1 ∧ p1 < 2147483648 := mm_ok_at hr (i := 1) rfl
  have f0 : mm_fr [] [59] h h := mm_fr_rf
  refine mm_aload_n C (mm_dec dk_X0_fillLegsTo 0 rfl) rfl ?_
  refine mm_getr (t := 59) C fl_X0_11 (mm_dec dk_X0_fillLegsTo 1 rfl) rfl rfl (mm_ref i0 rfl) ?_
  refine mm_sipush C (mm_dec dk_X0_fillLegsTo 2 rfl) ⟨by decide, by decide⟩ ?_
  refine mm_iload_n C (mm_dec dk_X0_fillLegsTo 3 rfl) rfl ?_
  refine mm_iadd C (mm_dec dk_X0_fillLegsTo 4 rfl) ⟨by omega, by omega⟩ ?_
  refine mm_aload_n C (mm_dec dk_X0_fillLegsTo 5 rfl) rfl ?_
  refine mm_getr (t := 7) C fl_X0_42 (mm_dec dk_X0_fillLegsTo 6 rfl) rfl rfl (mm_ref i0 rfl) ?_
  refine mm_aload_n C (mm_dec dk_X0_fillLegsTo 7 rfl) rfl ?_
  refine mm_getr (t := 1) C fl_X0_38 (mm_dec dk_X0_fillLegsTo 8 rfl) rfl rfl (mm_ref i0 rfl) ?_
  refine mm_geti C fl_X0_81 (mm_dec dk_X0_fillLegsTo 9 rfl) rfl rfl (Or.inl rfl) ?_
  have g1 : 0 ≤ (h.1 1 7) ∧ (h.1 1 7) ≤ 399 := i0.1 1 7
  refine mm_cVi (rest := [mI (156 + p1), mR 59]) C1 ev_X0_84 (mm_dec dk_X0_fillLegsTo 10 rfl) (c_X10_secondsFrom x.2.1 hl (d - 1) (by omega) h i0 (h.1 1 7) ⟨by omega, by omega⟩) rfl rfl (Nat.le_of_ble_eq_true rfl) ⟨by decide, by decide⟩ rfl (fun r20 h20c hp20 => ?_) (fun _ _ q => q.elim)
  obtain ⟨z20, y20⟩ := hp20
  rw [z20]
  have g3 : -2147483648 ≤ (h.2.1 8 (h.1 1 7)) ∧ (h.2.1 8 (h.1 1 7)) ≤ 2147483647 := i0.2.1 8 (h.1 1 7)
  have g4 : -2147483648 ≤ (mm_w (Int.tdiv (h.2.1 8 (h.1 1 7)) 512)) ∧ (mm_w (Int.tdiv (h.2.1 8 (h.1 1 7)) 512)) < 2147483648 := mm_w_rg _
  refine mm_iast C (mm_dec dk_X0_fillLegsTo 11 rfl) rfl (by omega) (by omega) ?_
  have i1 : mm_inv (mm_pa h 59 (156 + p1) r20) := mm_inv_pa i0 (show -2147483648 ≤ r20 ∧ r20 ≤ 2147483647 from ⟨by omega, by omega⟩)
  have f1 : mm_fr [] [59] h (mm_pa h 59 (156 + p1) r20) := mm_fr_pa f0 (by decide)
  obtain ⟨h1, eh1⟩ : ∃ z, z = mm_pa h 59 (156 + p1) r20 := ⟨_, rfl⟩
  rw [← eh1] at i1 f1 ⊢
  have qh1_5 : h1.1 1 7 = h.1 1 7 := by rw [eh1]; rfl
  refine mm_iconst C (mm_dec dk_X0_fillLegsTo 12 rfl) ⟨by decide, by decide⟩ ?_
  have J26 : ∀ (n : Nat) (x26_2 : Int) (bx26_2 : 0 ≤ x26_2 ∧ x26_2 ≤ 12) (h26_ : mH) (i26_ : mm_inv h26_) (f26_ : mm_fr [] [59] h h26_), (12 - x26_2 : Int) < n → mm_W x 0 0 26 [mR 58, mI p1, mI x26_2] [] h26_ := by
    intro n
    induction n with
    | zero =>
      intro x26_2 bx26_2 h26_ i26_ f26_ hm
      exfalso; omega
    | succ n ih26 =>
      intro x26_2 bx26_2 h26_ i26_ f26_ hm26
      refine mm_iload_n C (mm_dec dk_X0_fillLegsTo 14 rfl) rfl ?_
      refine mm_aload_n C (mm_dec dk_X0_fillLegsTo 15 rfl) rfl ?_
      refine mm_geti C fl_X0_21 (mm_dec dk_X0_fillLegsTo 16 rfl) rfl rfl (Or.inl rfl) ?_
      have g6 : 0 ≤ (h26_.1 58 6) ∧ (h26_.1 58 6) ≤ 12 := i26_.1 58 6
      refine mm_icmp_ge (tgt := 71) C (mm_dec dk_X0_fillLegsTo 17 rfl) (by decide) (fun c31 => ?_) (fun c31 => ?_)
      · skip
        exact mm_vret C T (mm_dec dk_X0_fillLegsTo 38 rfl) (by decide : 0 ≤ 0) (by decide : 0 ≤ 0) ⟨rfl, ⟨i26_, f26_⟩⟩
      · skip
        refine mm_aload_n C (mm_dec dk_X0_fillLegsTo 18 rfl) rfl ?_
        refine mm_getr (t := 59) C fl_X0_11 (mm_dec dk_X0_fillLegsTo 19 rfl) rfl rfl (mm_ref i26_ rfl) ?_
        refine mm_iload_n C (mm_dec dk_X0_fillLegsTo 20 rfl) rfl ?_
        refine mm_bipush C (mm_dec dk_X0_fillLegsTo 21 rfl) ⟨by decide, by decide⟩ ?_
        refine mm_imul C (mm_dec dk_X0_fillLegsTo 22 rfl) ⟨by omega, by omega⟩ ?_
        refine mm_iload_n C (mm_dec dk_X0_fillLegsTo 23 rfl) rfl ?_
        refine mm_iadd C (mm_dec dk_X0_fillLegsTo 24 rfl) ⟨by omega, by omega⟩ ?_
        refine mm_aload_n C (mm_dec dk_X0_fillLegsTo 25 rfl) rfl ?_
        refine mm_getr (t := 7) C fl_X0_42 (mm_dec dk_X0_fillLegsTo 26 rfl) rfl rfl (mm_ref i26_ rfl) ?_
        refine mm_aload_n C (mm_dec dk_X0_fillLegsTo 27 rfl) rfl ?_
        refine mm_getr (t := 14) C fl_X0_46 (mm_dec dk_X0_fillLegsTo 28 rfl) rfl rfl (mm_ref i26_ rfl) ?_
        refine mm_aload_n C (mm_dec dk_X0_fillLegsTo 29 rfl) rfl ?_
        refine mm_getr (t := 60) C fl_X0_15 (mm_dec dk_X0_fillLegsTo 30 rfl) rfl rfl (mm_ref i26_ rfl) ?_
        refine mm_iload_n C (mm_dec dk_X0_fillLegsTo 31 rfl) rfl ?_
        refine mm_iald C (mm_dec dk_X0_fillLegsTo 32 rfl) rfl (by omega) (by omega) ?_
        have g7 : 0 ≤ (h26_.2.1 60 x26_2) ∧ (h26_.2.1 60 x26_2) ≤ 19 := i26_.2.1 60 x26_2
        refine mm_cVi (rest := [mR 7, mI ((x26_2 * 13) + p1), mR 59]) C1 ev_X0_77 (mm_dec dk_X0_fillLegsTo 33 rfl) (c_X2_cellOf x.2.1 hl (d - 1) (by omega) h26_ i26_ (h26_.2.1 60 x26_2) ⟨by omega, by omega⟩) rfl rfl (Nat.le_of_ble_eq_true rfl) ⟨by decide, by decide⟩ rfl (fun r58 h58c hp58 => ?_) (fun _ _ q => q.elim)
        obtain ⟨z58, y58⟩ := hp58
        rw [z58, y58]
        have g9 : 0 ≤ (h26_.2.1 15 (h26_.2.1 60 x26_2)) ∧ (h26_.2.1 15 (h26_.2.1 60 x26_2)) ≤ 399 := i26_.2.1 15 (h26_.2.1 60 x26_2)
        refine mm_cVi (rest := [mI ((x26_2 * 13) + p1), mR 59]) C1 ev_X0_84 (mm_dec dk_X0_fillLegsTo 34 rfl) (c_X10_secondsFrom x.2.1 hl (d - 1) (by omega) h26_ i26_ (h26_.2.1 15 (h26_.2.1 60 x26_2)) ⟨by omega, by omega⟩) rfl rfl (Nat.le_of_ble_eq_true rfl) ⟨by decide, by decide⟩ rfl (fun r61 h61c hp61 => ?_) (fun _ _ q => q.elim)
        obtain ⟨z61, y61⟩ := hp61
        rw [z61]
        have g11 : -2147483648 ≤ (h26_.2.1 8 (h26_.2.1 15 (h26_.2.1 60 x26_2))) ∧ (h26_.2.1 8 (h26_.2.1 15 (h26_.2.1 60 x26_2))) ≤ 2147483647 := i26_.2.1 8 (h26_.2.1 15 (h26_.2.1 60 x26_2))
        have g12 : -2147483648 ≤ (mm_w (Int.tdiv (h26_.2.1 8 (h26_.2.1 15 (h26_.2.1 60 x26_2))) 512)) ∧ (mm_w (Int.tdiv (h26_.2.1 8 (h26_.2.1 15 (h26_.2.1 60 x26_2))) 512)) < 2147483648 := mm_w_rg _
        refine mm_iast C (mm_dec dk_X0_fillLegsTo 35 rfl) rfl (by omega) (by omega) ?_
        have i2 : mm_inv (mm_pa h26_ 59 ((x26_2 * 13) + p1) r61) := mm_inv_pa i26_ (show -2147483648 ≤ r61 ∧ r61 ≤ 2147483647 from ⟨by omega, by omega⟩)
        have f2 : mm_fr [] [59] h (mm_pa h26_ 59 ((x26_2 * 13) + p1) r61) := mm_fr_pa f26_ (by decide)
        obtain ⟨h2, eh2⟩ : ∃ z, z = mm_pa h26_ 59 ((x26_2 * 13) + p1) r61 := ⟨_, rfl⟩
        rw [← eh2] at i2 f2 ⊢
        have qh2_13 : h2.1 58 6 = h26_.1 58 6 := by rw [eh2]; rfl
        refine mm_iincL (ls2 := [mR 58, mI p1, mI (x26_2 + 1)]) C (mm_dec dk_X0_fillLegsTo 36 rfl) rfl (by decide) ⟨by omega, by omega⟩ rfl ?_
        refine mm_goto (tgt := 26) C (mm_dec dk_X0_fillLegsTo 37 rfl) (by decide) ?_
        exact ih26 (x26_2 + 1) ⟨by omega, by omega⟩ h2 i2 f2 (by omega)
  refine mm_istore_nL (ls2 := [mR 58, mI p1, mI 0]) C (mm_dec dk_X0_fillLegsTo 13 rfl) (by decide) rfl ?_
  exact J26 (((12 - 0) : Int) + 1).toNat 0 ⟨by omega, by omega⟩ h1 i1 f1 (by omega)
set_option maxRecDepth 100000 in
set_option maxHeartbeats 4000000 in
theorem c_X0_compare (l : Launch) (hl : l.stackTraces = false) (d : Nat) (hd : 1 ≤ d) (h : mH) (i0 : mm_inv h) (p1 : Int) (p2 : Int) : mm_Met l d yX0_compare cX0_compare 5 none [mR 58, mI p1, mI p2] h (mm_pv fun h2 => mm_inv h2 ∧ mm_fr [(58, 7), (58, 8), (58, 9)] [] h h2) mm_nx 0 0 := by
  refine mm_ofW (ls := [mR 58, mI p1, mI p2, mU, mU]) hl (by decide) rfl (Nat.le_of_ble_eq_true rfl) ?_
  intro x hxl C T hnm htb
  subst hxl
  have C1 := mm_OK_le (d' := d - 1 + 1) (by omega) C
  refine mm_rng (fun hr _ => ?_)
  have ap1 : -2147483648 ≤ p1 ∧ p1 < 2147483648 := mm_ok_at hr (i := 1) rfl
  have ap2 : -2147483648 ≤ p2 ∧ p2 < 2147483648 := mm_ok_at hr (i := 2) rfl
  have f0 : mm_fr [(58, 7), (58, 8), (58, 9)] [] h h := mm_fr_rf
  refine mm_iconst C (mm_dec dk_X0_compare 0 rfl) ⟨by decide, by decide⟩ ?_
  refine mm_istore_nL (ls2 := [mR 58, mI p1, mI p2, mI 0, mU]) C (mm_dec dk_X0_compare 1 rfl) (by decide) rfl ?_
  refine mm_iconst C (mm_dec dk_X0_compare 2 rfl) ⟨by decide, by decide⟩ ?_
  have J5 : ∀ (n : Nat) (x5_3 : Int) (bx5_3 : -2147483648 ≤ x5_3 ∧ x5_3 ≤ 2147483647) (x5_4 : Int) (bx5_4 : 0 ≤ x5_4 ∧ x5_4 ≤ 12), (12 - x5_4 : Int) < n → mm_W x 0 0 5 [mR 58, mI p1, mI p2, mI x5_3, mI x5_4] [] h := by
    intro n
    induction n with
    | zero =>
      intro x5_3 bx5_3 x5_4 bx5_4 hm
      exfalso; omega
    | succ n ih5 =>
      intro x5_3 bx5_3 x5_4 bx5_4 hm5
      refine mm_iload C (mm_dec dk_X0_compare 4 rfl) rfl ?_
      refine mm_aload_n C (mm_dec dk_X0_compare 5 rfl) rfl ?_
      refine mm_geti C fl_X0_21 (mm_dec dk_X0_compare 6 rfl) rfl rfl (Or.inl rfl) ?_
      have g1 : 0 ≤ (h.1 58 6) ∧ (h.1 58 6) ≤ 12 := i0.1 58 6
      refine mm_icmp_ge (tgt := 46) C (mm_dec dk_X0_compare 7 rfl) (by decide) (fun c11 => ?_) (fun c11 => ?_)
      · skip
        refine mm_iload_n C (mm_dec dk_X0_compare 26 rfl) rfl ?_
        refine mm_aload_n C (mm_dec dk_X0_compare 27 rfl) rfl ?_
        refine mm_geti C fl_X0_25 (mm_dec dk_X0_compare 28 rfl) rfl rfl (Or.inl rfl) ?_
        have g2 : -2147483648 ≤ (h.1 58 7) ∧ (h.1 58 7) ≤ 2147483647 := i0.1 58 7
        have J85 : ∀ (h85_ : mH) (i85_ : mm_inv h85_) (f85_ : mm_fr [(58, 7), (58, 8), (58, 9)] [] h h85_), mm_W x 0 0 85 [mU, mU, mU, mU, mU] [] h85_ := by
          intro h85_ i85_ f85_
          exact mm_vret C T (mm_dec dk_X0_compare 47 rfl) (by decide : 0 ≤ 0) (by decide : 0 ≤ 0) ⟨rfl, ⟨i85_, f85_⟩⟩
        have J70 : mm_W x 0 0 70 [mR 58, mI p1, mI p2, mI x5_3, mU] [] h := by
          refine mm_aload_n C (mm_dec dk_X0_compare 38 rfl) rfl ?_
          refine mm_iload_n C (mm_dec dk_X0_compare 39 rfl) rfl ?_
          refine mm_puti C fl_X0_31 (mm_dec dk_X0_compare 40 rfl) rfl rfl rfl (Or.inl ⟨rfl, rfl⟩) ?_
          have i1 : mm_inv (mm_pf h 58 9 p1) := mm_inv_pf i0 (show -2147483648 ≤ p1 ∧ p1 ≤ 2147483647 from ⟨by omega, by omega⟩) (by decide)
          have f1 : mm_fr [(58, 7), (58, 8), (58, 9)] [] h (mm_pf h 58 9 p1) := mm_fr_pf f0 (by decide)
          obtain ⟨h1, eh1⟩ : ∃ z, z = mm_pf h 58 9 p1 := ⟨_, rfl⟩
          rw [← eh1] at i1 f1 ⊢
          have qh1 : h1.1 58 9 = p1 := by rw [eh1]; exact mm_pf_same _ _ _ _
          have qh1_3 : h1.1 58 6 = h.1 58 6 := by rw [eh1]; exact mm_pf_ne _ _ (by decide)
          have qh1_4 : h1.1 58 7 = h.1 58 7 := by rw [eh1]; exact mm_pf_ne _ _ (by decide)
          refine mm_aload_n C (mm_dec dk_X0_compare 41 rfl) rfl ?_
          refine mm_iload_n C (mm_dec dk_X0_compare 42 rfl) rfl ?_
          refine mm_puti C fl_X0_25 (mm_dec dk_X0_compare 43 rfl) rfl rfl rfl (Or.inl ⟨rfl, rfl⟩) ?_
          have i2 : mm_inv (mm_pf h1 58 7 x5_3) := mm_inv_pf i1 (show -2147483648 ≤ x5_3 ∧ x5_3 ≤ 2147483647 from ⟨by omega, by omega⟩) (by decide)
          have f2 : mm_fr [(58, 7), (58, 8), (58, 9)] [] h (mm_pf h1 58 7 x5_3) := mm_fr_pf f1 (by decide)
          obtain ⟨h2, eh2⟩ : ∃ z, z = mm_pf h1 58 7 x5_3 := ⟨_, rfl⟩
          rw [← eh2] at i2 f2 ⊢
          have qh2 : h2.1 58 7 = x5_3 := by rw [eh2]; exact mm_pf_same _ _ _ _
          have qh2_5 : h2.1 58 6 = h1.1 58 6 := by rw [eh2]; exact mm_pf_ne _ _ (by decide)
          have qh2_6 : h2.1 58 9 = h1.1 58 9 := by rw [eh2]; exact mm_pf_ne _ _ (by decide)
          refine mm_aload_n C (mm_dec dk_X0_compare 44 rfl) rfl ?_
          refine mm_iload_n C (mm_dec dk_X0_compare 45 rfl) rfl ?_
          refine mm_puti C fl_X0_28 (mm_dec dk_X0_compare 46 rfl) rfl rfl rfl (Or.inl ⟨rfl, rfl⟩) ?_
          have i3 : mm_inv (mm_pf h2 58 8 p2) := mm_inv_pf i2 (show -2147483648 ≤ p2 ∧ p2 ≤ 2147483647 from ⟨by omega, by omega⟩) (by decide)
          have f3 : mm_fr [(58, 7), (58, 8), (58, 9)] [] h (mm_pf h2 58 8 p2) := mm_fr_pf f2 (by decide)
          obtain ⟨h3, eh3⟩ : ∃ z, z = mm_pf h2 58 8 p2 := ⟨_, rfl⟩
          rw [← eh3] at i3 f3 ⊢
          have qh3 : h3.1 58 8 = p2 := by rw [eh3]; exact mm_pf_same _ _ _ _
          have qh3_7 : h3.1 58 6 = h2.1 58 6 := by rw [eh3]; exact mm_pf_ne _ _ (by decide)
          have qh3_8 : h3.1 58 7 = h2.1 58 7 := by rw [eh3]; exact mm_pf_ne _ _ (by decide)
          have qh3_9 : h3.1 58 9 = h2.1 58 9 := by rw [eh3]; exact mm_pf_ne _ _ (by decide)
          refine mm_fgt 0 ?_
          refine mm_fgt 1 ?_
          refine mm_fgt 2 ?_
          refine mm_fgt 3 ?_
          exact J85 h3 i3 f3
        refine mm_icmp_gt (tgt := 70) C (mm_dec dk_X0_compare 29 rfl) (by decide) (fun c51 => ?_) (fun c51 => ?_)
        · skip
          refine mm_fgt 4 ?_
          exact J70
        · skip
          refine mm_iload_n C (mm_dec dk_X0_compare 30 rfl) rfl ?_
          refine mm_aload_n C (mm_dec dk_X0_compare 31 rfl) rfl ?_
          refine mm_geti C fl_X0_25 (mm_dec dk_X0_compare 32 rfl) rfl rfl (Or.inl rfl) ?_
          refine mm_icmp_ne (tgt := 85) C (mm_dec dk_X0_compare 33 rfl) (by decide) (fun c59 => ?_) (fun c59 => ?_)
          · skip
            refine mm_fgt 0 ?_
            refine mm_fgt 1 ?_
            refine mm_fgt 2 ?_
            refine mm_fgt 3 ?_
            refine mm_fgt 4 ?_
            exact J85 h i0 f0
          · skip
            refine mm_iload_n C (mm_dec dk_X0_compare 34 rfl) rfl ?_
            refine mm_aload_n C (mm_dec dk_X0_compare 35 rfl) rfl ?_
            refine mm_geti C fl_X0_28 (mm_dec dk_X0_compare 36 rfl) rfl rfl (Or.inl rfl) ?_
            have g10 : -2147483648 ≤ (h.1 58 8) ∧ (h.1 58 8) ≤ 2147483647 := i0.1 58 8
            refine mm_icmp_ge (tgt := 85) C (mm_dec dk_X0_compare 37 rfl) (by decide) (fun c67 => ?_) (fun c67 => ?_)
            · skip
              refine mm_fgt 0 ?_
              refine mm_fgt 1 ?_
              refine mm_fgt 2 ?_
              refine mm_fgt 3 ?_
              refine mm_fgt 4 ?_
              exact J85 h i0 f0
            · skip
              refine mm_fgt 4 ?_
              exact J70
      · skip
        refine mm_iload_n C (mm_dec dk_X0_compare 8 rfl) rfl ?_
        refine mm_iload C (mm_dec dk_X0_compare 9 rfl) rfl ?_
        refine mm_ishr C (mm_dec dk_X0_compare 10 rfl) ?_
        have g11 : -2147483648 ≤ (mm_vishr p1 x5_4) ∧ (mm_vishr p1 x5_4) < 2147483648 := fb_rng _
        refine mm_iconst C (mm_dec dk_X0_compare 11 rfl) ⟨by decide, by decide⟩ ?_
        refine mm_iand C (mm_dec dk_X0_compare 12 rfl) ?_
        have g13 : 0 ≤ (mm_viand (mm_vishr p1 x5_4) 1) ∧ (mm_viand (mm_vishr p1 x5_4) 1) ≤ 1 := mm_and_rg2 (by omega) (by omega)
        have J40 : ∀ (x40_3 : Int) (bx40_3 : -2147483648 ≤ x40_3 ∧ x40_3 ≤ 2147483647), mm_W x 0 0 40 [mR 58, mI p1, mI p2, mI x40_3, mI x5_4] [] h := by
          intro x40_3 bx40_3
          refine mm_iincL (ls2 := [mR 58, mI p1, mI p2, mI x40_3, mI (x5_4 + 1)]) C (mm_dec dk_X0_compare 24 rfl) rfl (by decide) ⟨by omega, by omega⟩ rfl ?_
          refine mm_goto (tgt := 5) C (mm_dec dk_X0_compare 25 rfl) (by decide) ?_
          exact ih5 x40_3 ⟨by omega, by omega⟩ (x5_4 + 1) ⟨by omega, by omega⟩ (by omega)
        refine mm_if_eq (tgt := 40) C (mm_dec dk_X0_compare 13 rfl) (by decide) (fun c20 => ?_) (fun c20 => ?_)
        · skip
          exact J40 x5_3 ⟨by omega, by omega⟩
        · skip
          refine mm_iload_n C (mm_dec dk_X0_compare 14 rfl) rfl ?_
          refine mm_aload_n C (mm_dec dk_X0_compare 15 rfl) rfl ?_
          refine mm_getr (t := 14) C fl_X0_46 (mm_dec dk_X0_compare 16 rfl) rfl rfl (mm_ref i0 rfl) ?_
          refine mm_aload_n C (mm_dec dk_X0_compare 17 rfl) rfl ?_
          refine mm_getr (t := 60) C fl_X0_15 (mm_dec dk_X0_compare 18 rfl) rfl rfl (mm_ref i0 rfl) ?_
          refine mm_iload C (mm_dec dk_X0_compare 19 rfl) rfl ?_
          refine mm_iald C (mm_dec dk_X0_compare 20 rfl) rfl (by omega) (by omega) ?_
          have g14 : 0 ≤ (h.2.1 60 x5_4) ∧ (h.2.1 60 x5_4) ≤ 19 := i0.2.1 60 x5_4
          refine mm_cVi (rest := [mI x5_3]) C1 ev_X0_105 (mm_dec dk_X0_compare 21 rfl) (c_X2_pointsOf x.2.1 hl (d - 1) (by omega) h i0 (h.2.1 60 x5_4) ⟨by omega, by omega⟩) rfl rfl (Nat.le_of_ble_eq_true rfl) ⟨by decide, by decide⟩ rfl (fun r35 h35c hp35 => ?_) (fun _ _ q => q.elim)
          obtain ⟨z35, y35⟩ := hp35
          rw [z35, y35]
          have g16 : 0 ≤ (h.2.1 16 (h.2.1 60 x5_4)) ∧ (h.2.1 16 (h.2.1 60 x5_4)) ≤ 99 := i0.2.1 16 (h.2.1 60 x5_4)
          refine mm_iaddw C (mm_dec dk_X0_compare 22 rfl) ?_
          have g17 : -2147483648 ≤ (mm_w (x5_3 + (h.2.1 16 (h.2.1 60 x5_4)))) ∧ (mm_w (x5_3 + (h.2.1 16 (h.2.1 60 x5_4)))) < 2147483648 := mm_w_rg _
          refine mm_istore_nL (ls2 := [mR 58, mI p1, mI p2, mI (mm_w (x5_3 + (h.2.1 16 (h.2.1 60 x5_4)))), mI x5_4]) C (mm_dec dk_X0_compare 23 rfl) (by decide) rfl ?_
          exact J40 (mm_w (x5_3 + (h.2.1 16 (h.2.1 60 x5_4)))) ⟨by omega, by omega⟩
  refine mm_istoreL (ls2 := [mR 58, mI p1, mI p2, mI 0, mI 0]) C (mm_dec dk_X0_compare 3 rfl) (by decide) rfl ?_
  exact J5 (((12 - 0) : Int) + 1).toNat 0 ⟨by omega, by omega⟩ 0 ⟨by omega, by omega⟩ (by omega)
set_option maxRecDepth 100000 in
set_option maxHeartbeats 4000000 in
theorem c_X1_wrong (l : Launch) (hl : l.stackTraces = false) (d : Nat) (hd : 1 ≤ d) (h : mH) (i0 : mm_inv h) : mm_Met l d yX1_wrong cX1_wrong 3 (some .int) [mR 48] h (mm_pi fun r h2 => (-2147483648 ≤ r ∧ r ≤ 2147483647) ∧ h2 = h) mm_nx 0 0 := by
  refine mm_ofW (ls := [mR 48, mU, mU]) hl (by decide) rfl (Nat.le_of_ble_eq_true rfl) ?_
  intro x hxl C T hnm htb
  subst hxl
  have C1 := mm_OK_le (d' := d - 1 + 1) (by omega) C
  have f0 : mm_fr [] [] h h := mm_fr_rf
  refine mm_iconst C (mm_dec dk_X1_wrong 0 rfl) ⟨by decide, by decide⟩ ?_
  refine mm_istore_nL (ls2 := [mR 48, mI 0, mU]) C (mm_dec dk_X1_wrong 1 rfl) (by decide) rfl ?_
  refine mm_iconst C (mm_dec dk_X1_wrong 2 rfl) ⟨by decide, by decide⟩ ?_
  have J4 : ∀ (n : Nat) (x4_1 : Int) (bx4_1 : -2147483648 ≤ x4_1 ∧ x4_1 ≤ 2147483647) (x4_2 : Int) (bx4_2 : 0 ≤ x4_2 ∧ x4_2 ≤ 500), (500 - x4_2 : Int) < n → mm_W x 0 0 4 [mR 48, mI x4_1, mI x4_2] [] h := by
    intro n
    induction n with
    | zero =>
      intro x4_1 bx4_1 x4_2 bx4_2 hm
      exfalso; omega
    | succ n ih4 =>
      intro x4_1 bx4_1 x4_2 bx4_2 hm4
      refine mm_iload_n C (mm_dec dk_X1_wrong 4 rfl) rfl ?_
      refine mm_aload_n C (mm_dec dk_X1_wrong 5 rfl) rfl ?_
      refine mm_geti C fl_X1_31 (mm_dec dk_X1_wrong 6 rfl) rfl rfl (Or.inl rfl) ?_
      have g1 : 0 ≤ (h.1 48 9) ∧ (h.1 48 9) ≤ 500 := i0.1 48 9
      refine mm_icmp_ge (tgt := 34) C (mm_dec dk_X1_wrong 7 rfl) (by decide) (fun c9 => ?_) (fun c9 => ?_)
      · skip
        refine mm_iload_n C (mm_dec dk_X1_wrong 18 rfl) rfl ?_
        exact mm_iret C T (mm_dec dk_X1_wrong 19 rfl) (by decide : 0 ≤ 0) (by decide : 0 ≤ 0) ⟨_, rfl, ⟨⟨by omega, by omega⟩, rfl⟩⟩
      · skip
        refine mm_aload_n C (mm_dec dk_X1_wrong 8 rfl) rfl ?_
        refine mm_aload_n C (mm_dec dk_X1_wrong 9 rfl) rfl ?_
        refine mm_getr (t := 50) C fl_X1_15 (mm_dec dk_X1_wrong 10 rfl) rfl rfl (mm_ref i0 rfl) ?_
        refine mm_iload_n C (mm_dec dk_X1_wrong 11 rfl) rfl ?_
        refine mm_iald C (mm_dec dk_X1_wrong 12 rfl) rfl (by omega) (by omega) ?_
        have g2 : -2147483648 ≤ (h.2.1 50 x4_2) ∧ (h.2.1 50 x4_2) ≤ 2147483647 := i0.2.1 50 x4_2
        refine mm_cVi (rest := []) C1 ev_X1_75 (mm_dec dk_X1_wrong 13 rfl) (c_X1_isInRow x.2.1 hl (d - 1) (by omega) h i0 (h.2.1 50 x4_2)) rfl rfl (Nat.le_of_ble_eq_true rfl) ⟨by decide, by decide⟩ rfl (fun r19 h19c hp19 => ?_) (fun _ _ q => q.elim)
        obtain ⟨b19, z19⟩ := hp19
        rw [z19]
        have J28 : ∀ (x28_1 : Int) (bx28_1 : -2147483648 ≤ x28_1 ∧ x28_1 ≤ 2147483647), mm_W x 0 0 28 [mR 48, mI x28_1, mI x4_2] [] h := by
          intro x28_1 bx28_1
          refine mm_iincL (ls2 := [mR 48, mI x28_1, mI (x4_2 + 1)]) C (mm_dec dk_X1_wrong 16 rfl) rfl (by decide) ⟨by omega, by omega⟩ rfl ?_
          refine mm_goto (tgt := 4) C (mm_dec dk_X1_wrong 17 rfl) (by decide) ?_
          exact ih4 x28_1 ⟨by omega, by omega⟩ (x4_2 + 1) ⟨by omega, by omega⟩ (by omega)
        refine mm_if_ne (tgt := 28) C (mm_dec dk_X1_wrong 14 rfl) (by decide) (fun c22 => ?_) (fun c22 => ?_)
        · skip
          exact J28 x4_1 ⟨by omega, by omega⟩
        · skip
          refine mm_iincwL (ls2 := [mR 48, mI (mm_w (x4_1 + 1)), mI x4_2]) C (mm_dec dk_X1_wrong 15 rfl) rfl (by decide) rfl ?_
          have g4 : -2147483648 ≤ (mm_w (x4_1 + 1)) ∧ (mm_w (x4_1 + 1)) < 2147483648 := mm_w_rg _
          exact J28 (mm_w (x4_1 + 1)) ⟨by omega, by omega⟩
  refine mm_istore_nL (ls2 := [mR 48, mI 0, mI 0]) C (mm_dec dk_X1_wrong 3 rfl) (by decide) rfl ?_
  exact J4 (((500 - 0) : Int) + 1).toNat 0 ⟨by omega, by omega⟩ 0 ⟨by omega, by omega⟩ (by omega)
set_option maxRecDepth 100000 in
set_option maxHeartbeats 4000000 in
theorem c_X1_score (l : Launch) (hl : l.stackTraces = false) (d : Nat) (hd : 1 ≤ d) (h : mH) (i0 : mm_inv h) : mm_Met l d yX1_score cX1_score 3 (some .int) [mR 48] h (mm_pi fun r h2 => (-2147483648 ≤ r ∧ r ≤ 2147483647) ∧ h2 = h) mm_nx 0 0 := by
  refine mm_ofW (ls := [mR 48, mU, mU]) hl (by decide) rfl (Nat.le_of_ble_eq_true rfl) ?_
  intro x hxl C T hnm htb
  subst hxl
  have C1 := mm_OK_le (d' := d - 1 + 1) (by omega) C
  have f0 : mm_fr [] [] h h := mm_fr_rf
  refine mm_iconst C (mm_dec dk_X1_score 0 rfl) ⟨by decide, by decide⟩ ?_
  refine mm_istore_nL (ls2 := [mR 48, mI 0, mU]) C (mm_dec dk_X1_score 1 rfl) (by decide) rfl ?_
  refine mm_iconst C (mm_dec dk_X1_score 2 rfl) ⟨by decide, by decide⟩ ?_
  have J4 : ∀ (n : Nat) (x4_1 : Int) (bx4_1 : -2147483648 ≤ x4_1 ∧ x4_1 ≤ 2147483647) (x4_2 : Int) (bx4_2 : 0 ≤ x4_2 ∧ x4_2 ≤ 12), (12 - x4_2 : Int) < n → mm_W x 0 0 4 [mR 48, mI x4_1, mI x4_2] [] h := by
    intro n
    induction n with
    | zero =>
      intro x4_1 bx4_1 x4_2 bx4_2 hm
      exfalso; omega
    | succ n ih4 =>
      intro x4_1 bx4_1 x4_2 bx4_2 hm4
      refine mm_iload_n C (mm_dec dk_X1_score 4 rfl) rfl ?_
      refine mm_aload_n C (mm_dec dk_X1_score 5 rfl) rfl ?_
      refine mm_geti C fl_X1_27 (mm_dec dk_X1_score 6 rfl) rfl rfl (Or.inl rfl) ?_
      have g1 : 0 ≤ (h.1 48 8) ∧ (h.1 48 8) ≤ 12 := i0.1 48 8
      refine mm_icmp_ge (tgt := 44) C (mm_dec dk_X1_score 7 rfl) (by decide) (fun c9 => ?_) (fun c9 => ?_)
      · skip
        refine mm_iload_n C (mm_dec dk_X1_score 26 rfl) rfl ?_
        exact mm_iret C T (mm_dec dk_X1_score 27 rfl) (by decide : 0 ≤ 0) (by decide : 0 ≤ 0) ⟨_, rfl, ⟨⟨by omega, by omega⟩, rfl⟩⟩
      · skip
        refine mm_aload_n C (mm_dec dk_X1_score 8 rfl) rfl ?_
        refine mm_getr (t := 52) C fl_X1_21 (mm_dec dk_X1_score 9 rfl) rfl rfl (mm_ref i0 rfl) ?_
        refine mm_iload_n C (mm_dec dk_X1_score 10 rfl) rfl ?_
        refine mm_iald C (mm_dec dk_X1_score 11 rfl) rfl (by omega) (by omega) ?_
        have g2 : -1 ≤ (h.2.1 52 x4_2) ∧ (h.2.1 52 x4_2) ≤ 499 := i0.2.1 52 x4_2
        refine mm_iconst C (mm_dec dk_X1_score 12 rfl) ⟨by decide, by decide⟩ ?_
        have J38 : ∀ (x38_1 : Int) (bx38_1 : -2147483648 ≤ x38_1 ∧ x38_1 ≤ 2147483647), mm_W x 0 0 38 [mR 48, mI x38_1, mI x4_2] [] h := by
          intro x38_1 bx38_1
          refine mm_iincL (ls2 := [mR 48, mI x38_1, mI (x4_2 + 1)]) C (mm_dec dk_X1_score 24 rfl) rfl (by decide) ⟨by omega, by omega⟩ rfl ?_
          refine mm_goto (tgt := 4) C (mm_dec dk_X1_score 25 rfl) (by decide) ?_
          exact ih4 x38_1 ⟨by omega, by omega⟩ (x4_2 + 1) ⟨by omega, by omega⟩ (by omega)
        refine mm_icmp_eq (tgt := 38) C (mm_dec dk_X1_score 13 rfl) (by decide) (fun c19 => ?_) (fun c19 => ?_)
        · skip
          exact J38 x4_1 ⟨by omega, by omega⟩
        · skip
          refine mm_iload_n C (mm_dec dk_X1_score 14 rfl) rfl ?_
          refine mm_aload_n C (mm_dec dk_X1_score 15 rfl) rfl ?_
          refine mm_getr (t := 14) C fl_X1_34 (mm_dec dk_X1_score 16 rfl) rfl rfl (mm_ref i0 rfl) ?_
          refine mm_aload_n C (mm_dec dk_X1_score 17 rfl) rfl ?_
          refine mm_getr (t := 49) C fl_X1_9 (mm_dec dk_X1_score 18 rfl) rfl rfl (mm_ref i0 rfl) ?_
          refine mm_iload_n C (mm_dec dk_X1_score 19 rfl) rfl ?_
          refine mm_iald C (mm_dec dk_X1_score 20 rfl) rfl (by omega) (by omega) ?_
          have g3 : 0 ≤ (h.2.1 49 x4_2) ∧ (h.2.1 49 x4_2) ≤ 19 := i0.2.1 49 x4_2
          refine mm_cVi (rest := [mI x4_1]) C1 ev_X1_78 (mm_dec dk_X1_score 21 rfl) (c_X2_pointsOf x.2.1 hl (d - 1) (by omega) h i0 (h.2.1 49 x4_2) ⟨by omega, by omega⟩) rfl rfl (Nat.le_of_ble_eq_true rfl) ⟨by decide, by decide⟩ rfl (fun r33 h33c hp33 => ?_) (fun _ _ q => q.elim)
          obtain ⟨z33, y33⟩ := hp33
          rw [z33, y33]
          have g5 : 0 ≤ (h.2.1 16 (h.2.1 49 x4_2)) ∧ (h.2.1 16 (h.2.1 49 x4_2)) ≤ 99 := i0.2.1 16 (h.2.1 49 x4_2)
          refine mm_iaddw C (mm_dec dk_X1_score 22 rfl) ?_
          have g6 : -2147483648 ≤ (mm_w (x4_1 + (h.2.1 16 (h.2.1 49 x4_2)))) ∧ (mm_w (x4_1 + (h.2.1 16 (h.2.1 49 x4_2)))) < 2147483648 := mm_w_rg _
          refine mm_istore_nL (ls2 := [mR 48, mI (mm_w (x4_1 + (h.2.1 16 (h.2.1 49 x4_2)))), mI x4_2]) C (mm_dec dk_X1_score 23 rfl) (by decide) rfl ?_
          exact J38 (mm_w (x4_1 + (h.2.1 16 (h.2.1 49 x4_2)))) ⟨by omega, by omega⟩
  refine mm_istore_nL (ls2 := [mR 48, mI 0, mI 0]) C (mm_dec dk_X1_score 3 rfl) (by decide) rfl ?_
  exact J4 (((12 - 0) : Int) + 1).toNat 0 ⟨by omega, by omega⟩ 0 ⟨by omega, by omega⟩ (by omega)
set_option maxRecDepth 100000 in
set_option maxHeartbeats 4000000 in
theorem c_X1_collect (l : Launch) (hl : l.stackTraces = false) (d : Nat) (hd : 1 ≤ d) (h : mH) (i0 : mm_inv h) (p1 : Int) (p2 : Int) (bp1 : 0 ≤ p1 ∧ p1 ≤ 39) : mm_Met l d yX1_collect cX1_collect 4 none [mR 48, mI p1, mI p2] h (mm_pv fun h2 => mm_inv h2 ∧ mm_fr [(48, 9)] [50, 51] h h2) mm_nx 0 0 := by
  refine mm_ofW (ls := [mR 48, mI p1, mI p2, mU]) hl (by decide) rfl (Nat.le_of_ble_eq_true rfl) ?_
  intro x hxl C T hnm htb
  subst hxl
  have C1 := mm_OK_le (d' := d - 1 + 1) (by omega) C
  refine mm_rng (fun hr _ => ?_)
  have ap1 : -2147483648 ≤ p1 ∧ p1 < 2147483648 := mm_ok_at hr (i := 1) rfl
  have ap2 : -2147483648 ≤ p2 ∧ p2 < 2147483648 := mm_ok_at hr (i := 2) rfl
  have f0 : mm_fr [(48, 9)] [50, 51] h h := mm_fr_rf
  have g1 : 0 ≤ h.1 48 9 ∧ h.1 48 9 ≤ 500 := i0.1 48 9
  refine mm_aload_n C (mm_dec dk_X1_collect 0 rfl) rfl ?_
  refine mm_iconst C (mm_dec dk_X1_collect 1 rfl) ⟨by decide, by decide⟩ ?_
  refine mm_puti C fl_X1_31 (mm_dec dk_X1_collect 2 rfl) rfl rfl rfl (Or.inl ⟨rfl, rfl⟩) ?_
  have i1 : mm_inv (mm_pf h 48 9 0) := mm_inv_pf i0 (show 0 ≤ 0 ∧ 0 ≤ 500 from ⟨by omega, by omega⟩) (by decide)
  have f1 : mm_fr [(48, 9)] [50, 51] h (mm_pf h 48 9 0) := mm_fr_pf f0 (by decide)
  obtain ⟨h1, eh1⟩ : ∃ z, z = mm_pf h 48 9 0 := ⟨_, rfl⟩
  rw [← eh1] at i1 f1 ⊢
  have qh1 : h1.1 48 9 = 0 := by rw [eh1]; exact mm_pf_same _ _ _ _
  refine mm_iconst C (mm_dec dk_X1_collect 3 rfl) ⟨by decide, by decide⟩ ?_
  have J7 : ∀ (n : Nat) (x7_3 : Int) (bx7_3 : 0 ≤ x7_3 ∧ x7_3 ≤ 500) (h7_ : mH) (i7_ : mm_inv h7_) (f7_ : mm_fr [(48, 9)] [50, 51] h h7_) (w7_0 : h7_.1 48 9 ≤ x7_3), (500 - x7_3 : Int) < n → mm_W x 0 0 7 [mR 48, mI p1, mI p2, mI x7_3] [] h7_ := by
    intro n
    induction n with
    | zero =>
      intro x7_3 bx7_3 h7_ i7_ f7_ w7_0 hm
      have g2 : 0 ≤ h7_.1 48 9 ∧ h7_.1 48 9 ≤ 500 := i7_.1 48 9
      exfalso; omega
    | succ n ih7 =>
      intro x7_3 bx7_3 h7_ i7_ f7_ w7_0 hm7
      have g3 : 0 ≤ h7_.1 48 9 ∧ h7_.1 48 9 ≤ 500 := i7_.1 48 9
      refine mm_iload_n C (mm_dec dk_X1_collect 5 rfl) rfl ?_
      refine mm_aload_n C (mm_dec dk_X1_collect 6 rfl) rfl ?_
      refine mm_getr (t := 30) C fl_X1_42 (mm_dec dk_X1_collect 7 rfl) rfl rfl (mm_ref i7_ rfl) ?_
      refine mm_cVi (rest := [mI x7_3]) C1 ev_X1_84 (mm_dec dk_X1_collect 8 rfl) (c_X6_events x.2.1 hl (d - 1) (by omega) h7_ i7_ ) rfl rfl (Nat.le_of_ble_eq_true rfl) ⟨by decide, by decide⟩ rfl (fun r12 h12c hp12 => ?_) (fun _ _ q => q.elim)
      obtain ⟨z12, y12⟩ := hp12
      rw [z12, y12]
      have g5 : 0 ≤ (h7_.1 30 6) ∧ (h7_.1 30 6) ≤ 500 := i7_.1 30 6
      refine mm_icmp_ge (tgt := 58) C (mm_dec dk_X1_collect 9 rfl) (by decide) (fun c15 => ?_) (fun c15 => ?_)
      · skip
        exact mm_vret C T (mm_dec dk_X1_collect 30 rfl) (by decide : 0 ≤ 0) (by decide : 0 ≤ 0) ⟨rfl, ⟨i7_, f7_⟩⟩
      · skip
        refine mm_aload_n C (mm_dec dk_X1_collect 10 rfl) rfl ?_
        refine mm_getr (t := 30) C fl_X1_42 (mm_dec dk_X1_collect 11 rfl) rfl rfl (mm_ref i7_ rfl) ?_
        refine mm_iload_n C (mm_dec dk_X1_collect 12 rfl) rfl ?_
        refine mm_iconst C (mm_dec dk_X1_collect 13 rfl) ⟨by decide, by decide⟩ ?_
        refine mm_iload_n C (mm_dec dk_X1_collect 14 rfl) rfl ?_
        refine mm_iload_n C (mm_dec dk_X1_collect 15 rfl) rfl ?_
        refine mm_cVi (rest := []) C1 ev_X1_90 (mm_dec dk_X1_collect 16 rfl) (c_X6_isKnown x.2.1 hl (d - 1) (by omega) h7_ i7_ x7_3 1 p1 p2 ⟨by omega, by omega⟩ ⟨by omega, by omega⟩) rfl rfl (Nat.le_of_ble_eq_true rfl) ⟨by decide, by decide⟩ rfl (fun r26 h26c hp26 => ?_) (fun _ _ q => q.elim)
        obtain ⟨z26, y26⟩ := hp26
        rw [z26]
        have g7 : -2147483648 ≤ (h7_.2.1 31 x7_3) ∧ (h7_.2.1 31 x7_3) ≤ 2147483647 := i7_.2.1 31 x7_3
        have g8 : -2147483648 ≤ (h7_.2.1 32 x7_3) ∧ (h7_.2.1 32 x7_3) ≤ 2147483647 := i7_.2.1 32 x7_3
        have g9 : -2147483648 ≤ (h7_.2.1 35 x7_3) ∧ (h7_.2.1 35 x7_3) ≤ 2147483647 := i7_.2.1 35 x7_3
        have g10 : -2147483648 ≤ (h7_.2.1 36 x7_3) ∧ (h7_.2.1 36 x7_3) ≤ 2147483647 := i7_.2.1 36 x7_3
        have J52 : ∀ (h52_ : mH) (i52_ : mm_inv h52_) (f52_ : mm_fr [(48, 9)] [50, 51] h h52_) (w52_0 : h52_.1 48 9 ≤ x7_3 + 1), mm_W x 0 0 52 [mR 48, mI p1, mI p2, mI x7_3] [] h52_ := by
          intro h52_ i52_ f52_ w52_0
          have g11 : 0 ≤ h52_.1 48 9 ∧ h52_.1 48 9 ≤ 500 := i52_.1 48 9
          refine mm_iincL (ls2 := [mR 48, mI p1, mI p2, mI (x7_3 + 1)]) C (mm_dec dk_X1_collect 28 rfl) rfl (by decide) ⟨by omega, by omega⟩ rfl ?_
          refine mm_goto (tgt := 7) C (mm_dec dk_X1_collect 29 rfl) (by decide) ?_
          exact ih7 (x7_3 + 1) ⟨by omega, by omega⟩ h52_ i52_ f52_ (by omega) (by omega)
        refine mm_if_eq (tgt := 52) C (mm_dec dk_X1_collect 17 rfl) (by decide) (fun c29 => ?_) (fun c29 => ?_)
        · skip
          exact J52 h7_ i7_ f7_ (by omega)
        · skip
          refine mm_aload_n C (mm_dec dk_X1_collect 18 rfl) rfl ?_
          refine mm_aload_n C (mm_dec dk_X1_collect 19 rfl) rfl ?_
          refine mm_getr (t := 30) C fl_X1_42 (mm_dec dk_X1_collect 20 rfl) rfl rfl (mm_ref i7_ rfl) ?_
          refine mm_iload_n C (mm_dec dk_X1_collect 21 rfl) rfl ?_
          refine mm_cVi (rest := [mR 48]) C1 ev_X1_94 (mm_dec dk_X1_collect 22 rfl) (c_X6_postOf x.2.1 hl (d - 1) (by omega) h7_ i7_ x7_3 ⟨by omega, by omega⟩) rfl rfl (Nat.le_of_ble_eq_true rfl) ⟨by decide, by decide⟩ rfl (fun r38 h38c hp38 => ?_) (fun _ _ q => q.elim)
          obtain ⟨z38, y38⟩ := hp38
          rw [z38, y38]
          have g13 : -2147483648 ≤ (h7_.2.1 33 x7_3) ∧ (h7_.2.1 33 x7_3) ≤ 2147483647 := i7_.2.1 33 x7_3
          refine mm_aload_n C (mm_dec dk_X1_collect 23 rfl) rfl ?_
          refine mm_getr (t := 30) C fl_X1_42 (mm_dec dk_X1_collect 24 rfl) rfl rfl (mm_ref i7_ rfl) ?_
          refine mm_iload_n C (mm_dec dk_X1_collect 25 rfl) rfl ?_
          refine mm_cVi (rest := [mI (h7_.2.1 33 x7_3), mR 48]) C1 ev_X1_97 (mm_dec dk_X1_collect 26 rfl) (c_X6_timeOf x.2.1 hl (d - 1) (by omega) h7_ i7_ x7_3 ⟨by omega, by omega⟩) rfl rfl (Nat.le_of_ble_eq_true rfl) ⟨by decide, by decide⟩ rfl (fun r46 h46c hp46 => ?_) (fun _ _ q => q.elim)
          obtain ⟨z46, y46⟩ := hp46
          rw [z46]
          have g15 : -2147483648 ≤ (h7_.2.1 34 x7_3) ∧ (h7_.2.1 34 x7_3) ≤ 2147483647 := i7_.2.1 34 x7_3
          refine mm_cVv (rest := []) C1 ev_X1_100 (mm_dec dk_X1_collect 27 rfl) (c_X1_insert x.2.1 hl (d - 1) (by omega) h7_ i7_ (h7_.2.1 33 x7_3) r46 (by omega)) rfl rfl (Nat.le_of_ble_eq_true rfl) ⟨by decide, by decide⟩ rfl (fun h49c hp49 => ?_) (fun _ _ q => q.elim)
          obtain ⟨i49c, g49c, y49_0⟩ := hp49
          have f49c : mm_fr [(48, 9)] [50, 51] h h49c := mm_fr_tr f7_ g49c (by decide +kernel)
          have q49c_17 : h49c.1 30 6 = h7_.1 30 6 := g49c.1 30 6 (by decide)
          have g18 : 0 ≤ (h49c.1 48 9) ∧ (h49c.1 48 9) ≤ 500 := i49c.1 48 9
          exact J52 h49c i49c f49c (by omega)
  refine mm_istore_nL (ls2 := [mR 48, mI p1, mI p2, mI 0]) C (mm_dec dk_X1_collect 4 rfl) (by decide) rfl ?_
  exact J7 (((500 - 0) : Int) + 1).toNat 0 ⟨by omega, by omega⟩ h1 i1 f1 (by omega) (by omega)
set_option maxRecDepth 100000 in
set_option maxHeartbeats 4000000 in
theorem c_X1_keepPunched (l : Launch) (hl : l.stackTraces = false) (d : Nat) (hd : 1 ≤ d) (h : mH) (i0 : mm_inv h) : mm_Met l d yX1_keepPunched cX1_keepPunched 2 none [mR 48] h (mm_pv fun h2 => mm_inv h2 ∧ mm_fr [] [52] h h2) mm_nx 0 0 := by
  refine mm_ofW (ls := [mR 48, mU]) hl (by decide) rfl (Nat.le_of_ble_eq_true rfl) ?_
  intro x hxl C T hnm htb
  subst hxl
  have C1 := mm_OK_le (d' := d - 1 + 1) (by omega) C
  have f0 : mm_fr [] [52] h h := mm_fr_rf
  refine mm_iconst C (mm_dec dk_X1_keepPunched 0 rfl) ⟨by decide, by decide⟩ ?_
  have J2 : ∀ (n : Nat) (x2_1 : Int) (bx2_1 : 0 ≤ x2_1 ∧ x2_1 ≤ 12) (h2_ : mH) (i2_ : mm_inv h2_) (f2_ : mm_fr [] [52] h h2_), (12 - x2_1 : Int) < n → mm_W x 0 0 2 [mR 48, mI x2_1] [] h2_ := by
    intro n
    induction n with
    | zero =>
      intro x2_1 bx2_1 h2_ i2_ f2_ hm
      exfalso; omega
    | succ n ih2 =>
      intro x2_1 bx2_1 h2_ i2_ f2_ hm2
      refine mm_iload_n C (mm_dec dk_X1_keepPunched 2 rfl) rfl ?_
      refine mm_aload_n C (mm_dec dk_X1_keepPunched 3 rfl) rfl ?_
      refine mm_geti C fl_X1_27 (mm_dec dk_X1_keepPunched 4 rfl) rfl rfl (Or.inl rfl) ?_
      have g1 : 0 ≤ (h2_.1 48 8) ∧ (h2_.1 48 8) ≤ 12 := i2_.1 48 8
      refine mm_icmp_ge (tgt := 33) C (mm_dec dk_X1_keepPunched 5 rfl) (by decide) (fun c7 => ?_) (fun c7 => ?_)
      · skip
        exact mm_vret C T (mm_dec dk_X1_keepPunched 19 rfl) (by decide : 0 ≤ 0) (by decide : 0 ≤ 0) ⟨rfl, ⟨i2_, f2_⟩⟩
      · skip
        refine mm_aload_n C (mm_dec dk_X1_keepPunched 6 rfl) rfl ?_
        refine mm_getr (t := 52) C fl_X1_21 (mm_dec dk_X1_keepPunched 7 rfl) rfl rfl (mm_ref i2_ rfl) ?_
        refine mm_iload_n C (mm_dec dk_X1_keepPunched 8 rfl) rfl ?_
        refine mm_aload_n C (mm_dec dk_X1_keepPunched 9 rfl) rfl ?_
        refine mm_aload_n C (mm_dec dk_X1_keepPunched 10 rfl) rfl ?_
        refine mm_getr (t := 49) C fl_X1_9 (mm_dec dk_X1_keepPunched 11 rfl) rfl rfl (mm_ref i2_ rfl) ?_
        refine mm_iload_n C (mm_dec dk_X1_keepPunched 12 rfl) rfl ?_
        refine mm_iald C (mm_dec dk_X1_keepPunched 13 rfl) rfl (by omega) (by omega) ?_
        have g2 : 0 ≤ (h2_.2.1 49 x2_1) ∧ (h2_.2.1 49 x2_1) ≤ 19 := i2_.2.1 49 x2_1
        refine mm_iconst C (mm_dec dk_X1_keepPunched 14 rfl) ⟨by decide, by decide⟩ ?_
        refine mm_cVi (rest := [mI x2_1, mR 52]) C1 ev_X1_103 (mm_dec dk_X1_keepPunched 15 rfl) (c_X1_firstPunch x.2.1 hl (d - 1) (by omega) h2_ i2_ (h2_.2.1 49 x2_1) 0 ⟨by omega, by omega⟩) rfl rfl (Nat.le_of_ble_eq_true rfl) ⟨by decide, by decide⟩ rfl (fun r23 h23c hp23 => ?_) (fun _ _ q => q.elim)
        obtain ⟨b23, z23⟩ := hp23
        rw [z23]
        refine mm_iast C (mm_dec dk_X1_keepPunched 16 rfl) rfl (by omega) (by omega) ?_
        have i1 : mm_inv (mm_pa h2_ 52 x2_1 r23) := mm_inv_pa i2_ (show -1 ≤ r23 ∧ r23 ≤ 499 from ⟨by omega, by omega⟩)
        have f1 : mm_fr [] [52] h (mm_pa h2_ 52 x2_1 r23) := mm_fr_pa f2_ (by decide)
        obtain ⟨h1, eh1⟩ : ∃ z, z = mm_pa h2_ 52 x2_1 r23 := ⟨_, rfl⟩
        rw [← eh1] at i1 f1 ⊢
        have qh1_4 : h1.1 48 8 = h2_.1 48 8 := by rw [eh1]; rfl
        refine mm_iincL (ls2 := [mR 48, mI (x2_1 + 1)]) C (mm_dec dk_X1_keepPunched 17 rfl) rfl (by decide) ⟨by omega, by omega⟩ rfl ?_
        refine mm_goto (tgt := 2) C (mm_dec dk_X1_keepPunched 18 rfl) (by decide) ?_
        exact ih2 (x2_1 + 1) ⟨by omega, by omega⟩ h1 i1 f1 (by omega)
  refine mm_istore_nL (ls2 := [mR 48, mI 0]) C (mm_dec dk_X1_keepPunched 1 rfl) (by decide) rfl ?_
  exact J2 (((12 - 0) : Int) + 1).toNat 0 ⟨by omega, by omega⟩ h i0 f0 (by omega)
set_option maxRecDepth 100000 in
set_option maxHeartbeats 4000000 in
theorem c_X1_measureRests (l : Launch) (hl : l.stackTraces = false) (d : Nat) (hd : 1 ≤ d) (h : mH) (i0 : mm_inv h) : mm_Met l d yX1_measureRests cX1_measureRests 3 none [mR 48] h (mm_pv fun h2 => mm_inv h2 ∧ mm_fr [] [53] h h2) mm_nx 0 0 := by
  refine mm_ofW (ls := [mR 48, mU, mU]) hl (by decide) rfl (Nat.le_of_ble_eq_true rfl) ?_
  intro x hxl C T hnm htb
  subst hxl
  have C1 := mm_OK_le (d' := d - 1 + 1) (by omega) C
  have f0 : mm_fr [] [53] h h := mm_fr_rf
  refine mm_aload_n C (mm_dec dk_X1_measureRests 0 rfl) rfl ?_
  refine mm_getr (t := 53) C fl_X1_24 (mm_dec dk_X1_measureRests 1 rfl) rfl rfl (mm_ref i0 rfl) ?_
  refine mm_iconst C (mm_dec dk_X1_measureRests 2 rfl) ⟨by decide, by decide⟩ ?_
  refine mm_cSv (rest := []) C1 es_X1_56 (mm_dec dk_X1_measureRests 3 rfl) (c_J7_fill_53178_53 x.2.1 hl (d - 1) (by omega) h i0 (-1) ⟨by omega, by omega⟩) rfl (Nat.le_of_ble_eq_true rfl) ⟨by decide, by decide⟩ rfl (fun h5c hp5 => ?_) (fun _ _ q => q.elim)
  obtain ⟨i5c, g5c⟩ := hp5
  have f5c : mm_fr [] [53] h h5c := mm_fr_tr f0 g5c (by decide +kernel)
  refine mm_aload_n C (mm_dec dk_X1_measureRests 4 rfl) rfl ?_
  refine mm_getr (t := 53) C fl_X1_24 (mm_dec dk_X1_measureRests 5 rfl) rfl rfl (mm_ref i5c rfl) ?_
  refine mm_aload_n C (mm_dec dk_X1_measureRests 6 rfl) rfl ?_
  refine mm_geti C fl_X1_27 (mm_dec dk_X1_measureRests 7 rfl) rfl rfl (Or.inl rfl) ?_
  have g2 : 0 ≤ (h5c.1 48 8) ∧ (h5c.1 48 8) ≤ 12 := i5c.1 48 8
  refine mm_bipush C (mm_dec dk_X1_measureRests 8 rfl) ⟨by decide, by decide⟩ ?_
  refine mm_imul C (mm_dec dk_X1_measureRests 9 rfl) ⟨by omega, by omega⟩ ?_
  refine mm_aload_n C (mm_dec dk_X1_measureRests 10 rfl) rfl ?_
  refine mm_geti C fl_X1_31 (mm_dec dk_X1_measureRests 11 rfl) rfl rfl (Or.inl rfl) ?_
  have g3 : 0 ≤ (h5c.1 48 9) ∧ (h5c.1 48 9) ≤ 500 := i5c.1 48 9
  refine mm_iast C (mm_dec dk_X1_measureRests 12 rfl) rfl (by omega) (by omega) ?_
  have i2 : mm_inv (mm_pa h5c 53 ((h5c.1 48 8) * 13) (h5c.1 48 9)) := mm_inv_pa i5c (show -1 ≤ (h5c.1 48 9) ∧ (h5c.1 48 9) ≤ 500 from ⟨by omega, by omega⟩)
  have f2 : mm_fr [] [53] h (mm_pa h5c 53 ((h5c.1 48 8) * 13) (h5c.1 48 9)) := mm_fr_pa f5c (by decide)
  obtain ⟨h2, eh2⟩ : ∃ z, z = mm_pa h5c 53 ((h5c.1 48 8) * 13) (h5c.1 48 9) := ⟨_, rfl⟩
  rw [← eh2] at i2 f2 ⊢
  have qh2_4 : h2.1 48 8 = h5c.1 48 8 := by rw [eh2]; rfl
  have qh2_5 : h2.1 48 9 = h5c.1 48 9 := by rw [eh2]; rfl
  refine mm_aload_n C (mm_dec dk_X1_measureRests 13 rfl) rfl ?_
  refine mm_geti C fl_X1_27 (mm_dec dk_X1_measureRests 14 rfl) rfl rfl (Or.inl rfl) ?_
  refine mm_iconst C (mm_dec dk_X1_measureRests 15 rfl) ⟨by decide, by decide⟩ ?_
  refine mm_isub C (mm_dec dk_X1_measureRests 16 rfl) ⟨by omega, by omega⟩ ?_
  have J31 : ∀ (n : Nat) (x31_1 : Int) (bx31_1 : -1 ≤ x31_1 ∧ x31_1 ≤ 11) (h31_ : mH) (i31_ : mm_inv h31_) (f31_ : mm_fr [] [53] h h31_), (x31_1 - (-1) : Int) < n → mm_W x 0 0 31 [mR 48, mI x31_1, mU] [] h31_ := by
    intro n
    induction n with
    | zero =>
      intro x31_1 bx31_1 h31_ i31_ f31_ hm
      exfalso; omega
    | succ n ih31 =>
      intro x31_1 bx31_1 h31_ i31_ f31_ hm31
      refine mm_iload_n C (mm_dec dk_X1_measureRests 18 rfl) rfl ?_
      refine mm_if_lt (tgt := 89) C (mm_dec dk_X1_measureRests 19 rfl) (by decide) (fun c32 => ?_) (fun c32 => ?_)
      · skip
        exact mm_vret C T (mm_dec dk_X1_measureRests 52 rfl) (by decide : 0 ≤ 0) (by decide : 0 ≤ 0) ⟨rfl, ⟨i31_, f31_⟩⟩
      · skip
        refine mm_aload_n C (mm_dec dk_X1_measureRests 20 rfl) rfl ?_
        refine mm_getr (t := 53) C fl_X1_24 (mm_dec dk_X1_measureRests 21 rfl) rfl rfl (mm_ref i31_ rfl) ?_
        refine mm_iload_n C (mm_dec dk_X1_measureRests 22 rfl) rfl ?_
        refine mm_bipush C (mm_dec dk_X1_measureRests 23 rfl) ⟨by decide, by decide⟩ ?_
        refine mm_imul C (mm_dec dk_X1_measureRests 24 rfl) ⟨by omega, by omega⟩ ?_
        refine mm_aload_n C (mm_dec dk_X1_measureRests 25 rfl) rfl ?_
        refine mm_geti C fl_X1_31 (mm_dec dk_X1_measureRests 26 rfl) rfl rfl (Or.inl rfl) ?_
        have g6 : 0 ≤ (h31_.1 48 9) ∧ (h31_.1 48 9) ≤ 500 := i31_.1 48 9
        refine mm_iast C (mm_dec dk_X1_measureRests 27 rfl) rfl (by omega) (by omega) ?_
        have i3 : mm_inv (mm_pa h31_ 53 (x31_1 * 13) (h31_.1 48 9)) := mm_inv_pa i31_ (show -1 ≤ (h31_.1 48 9) ∧ (h31_.1 48 9) ≤ 500 from ⟨by omega, by omega⟩)
        have f3 : mm_fr [] [53] h (mm_pa h31_ 53 (x31_1 * 13) (h31_.1 48 9)) := mm_fr_pa f31_ (by decide)
        obtain ⟨h3, eh3⟩ : ∃ z, z = mm_pa h31_ 53 (x31_1 * 13) (h31_.1 48 9) := ⟨_, rfl⟩
        rw [← eh3] at i3 f3 ⊢
        have qh3_7 : h3.1 48 9 = h31_.1 48 9 := by rw [eh3]; rfl
        refine mm_iconst C (mm_dec dk_X1_measureRests 28 rfl) ⟨by decide, by decide⟩ ?_
        have J50 : ∀ (n : Nat) (x50_2 : Int) (bx50_2 : 1 ≤ x50_2 ∧ x50_2 ≤ 13) (h50_ : mH) (i50_ : mm_inv h50_) (f50_ : mm_fr [] [53] h h50_), (13 - x50_2 : Int) < n → mm_W x 0 0 50 [mR 48, mI x31_1, mI x50_2] [] h50_ := by
          intro n
          induction n with
          | zero =>
            intro x50_2 bx50_2 h50_ i50_ f50_ hm
            exfalso; omega
          | succ n ih50 =>
            intro x50_2 bx50_2 h50_ i50_ f50_ hm50
            refine mm_iload_n C (mm_dec dk_X1_measureRests 30 rfl) rfl ?_
            refine mm_aload_n C (mm_dec dk_X1_measureRests 31 rfl) rfl ?_
            refine mm_geti C fl_X1_27 (mm_dec dk_X1_measureRests 32 rfl) rfl rfl (Or.inl rfl) ?_
            have g8 : 0 ≤ (h50_.1 48 8) ∧ (h50_.1 48 8) ≤ 12 := i50_.1 48 8
            refine mm_iload_n C (mm_dec dk_X1_measureRests 33 rfl) rfl ?_
            refine mm_isub C (mm_dec dk_X1_measureRests 34 rfl) ⟨by omega, by omega⟩ ?_
            refine mm_icmp_gt (tgt := 83) C (mm_dec dk_X1_measureRests 35 rfl) (by decide) (fun c57 => ?_) (fun c57 => ?_)
            · skip
              refine mm_iincL (ls2 := [mR 48, mI (x31_1 + (-1)), mI x50_2]) C (mm_dec dk_X1_measureRests 50 rfl) rfl (by decide) ⟨by omega, by omega⟩ rfl ?_
              refine mm_goto (tgt := 31) C (mm_dec dk_X1_measureRests 51 rfl) (by decide) ?_
              refine mm_fgt 2 ?_
              exact ih31 (x31_1 + (-1)) ⟨by omega, by omega⟩ h50_ i50_ f50_ (by omega)
            · skip
              refine mm_aload_n C (mm_dec dk_X1_measureRests 36 rfl) rfl ?_
              refine mm_getr (t := 53) C fl_X1_24 (mm_dec dk_X1_measureRests 37 rfl) rfl rfl (mm_ref i50_ rfl) ?_
              refine mm_iload_n C (mm_dec dk_X1_measureRests 38 rfl) rfl ?_
              refine mm_bipush C (mm_dec dk_X1_measureRests 39 rfl) ⟨by decide, by decide⟩ ?_
              refine mm_imul C (mm_dec dk_X1_measureRests 40 rfl) ⟨by omega, by omega⟩ ?_
              refine mm_iload_n C (mm_dec dk_X1_measureRests 41 rfl) rfl ?_
              refine mm_iadd C (mm_dec dk_X1_measureRests 42 rfl) ⟨by omega, by omega⟩ ?_
              refine mm_aload_n C (mm_dec dk_X1_measureRests 43 rfl) rfl ?_
              refine mm_iload_n C (mm_dec dk_X1_measureRests 44 rfl) rfl ?_
              refine mm_iload_n C (mm_dec dk_X1_measureRests 45 rfl) rfl ?_
              refine mm_cVi (rest := [mI ((x31_1 * 13) + x50_2), mR 53]) C1 ev_X1_107 (mm_dec dk_X1_measureRests 46 rfl) (c_X1_latestWith x.2.1 hl (d - 1) (by omega) h50_ i50_ x31_1 x50_2 ⟨by omega, by omega⟩ ⟨by omega, by omega⟩) rfl rfl (Nat.le_of_ble_eq_true rfl) ⟨by decide, by decide⟩ rfl (fun r73 h73c hp73 => ?_) (fun _ _ q => q.elim)
              obtain ⟨b73, z73⟩ := hp73
              rw [z73]
              refine mm_iast C (mm_dec dk_X1_measureRests 47 rfl) rfl (by omega) (by omega) ?_
              have i4 : mm_inv (mm_pa h50_ 53 ((x31_1 * 13) + x50_2) r73) := mm_inv_pa i50_ (show -1 ≤ r73 ∧ r73 ≤ 500 from ⟨by omega, by omega⟩)
              have f4 : mm_fr [] [53] h (mm_pa h50_ 53 ((x31_1 * 13) + x50_2) r73) := mm_fr_pa f50_ (by decide)
              obtain ⟨h4, eh4⟩ : ∃ z, z = mm_pa h50_ 53 ((x31_1 * 13) + x50_2) r73 := ⟨_, rfl⟩
              rw [← eh4] at i4 f4 ⊢
              have qh4_10 : h4.1 48 8 = h50_.1 48 8 := by rw [eh4]; rfl
              refine mm_iincL (ls2 := [mR 48, mI x31_1, mI (x50_2 + 1)]) C (mm_dec dk_X1_measureRests 48 rfl) rfl (by decide) ⟨by omega, by omega⟩ rfl ?_
              refine mm_goto (tgt := 50) C (mm_dec dk_X1_measureRests 49 rfl) (by decide) ?_
              exact ih50 (x50_2 + 1) ⟨by omega, by omega⟩ h4 i4 f4 (by omega)
        refine mm_istore_nL (ls2 := [mR 48, mI x31_1, mI 1]) C (mm_dec dk_X1_measureRests 29 rfl) (by decide) rfl ?_
        exact J50 (((13 - 1) : Int) + 1).toNat 1 ⟨by omega, by omega⟩ h3 i3 f3 (by omega)
  refine mm_istore_nL (ls2 := [mR 48, mI ((h2.1 48 8) - 1), mU]) C (mm_dec dk_X1_measureRests 17 rfl) (by decide) rfl ?_
  exact J31 (((((h2.1 48 8) - 1) - (-1)) : Int) + 1).toNat ((h2.1 48 8) - 1) ⟨by omega, by omega⟩ h2 i2 f2 (by omega)
set_option maxRecDepth 100000 in
set_option maxHeartbeats 4000000 in
theorem c_X3_gather (l : Launch) (hl : l.stackTraces = false) (d : Nat) (hd : 2 ≤ d) (h : mH) (i0 : mm_inv h) (p1 : Int) (p2 : Int) (bp1 : 0 ≤ p1 ∧ p1 ≤ 7) : mm_Met l d yX3_gather cX3_gather 4 (some .int) [mR 54, mI p1, mI p2] h (mm_pi fun r h2 => (0 ≤ r ∧ r ≤ 40) ∧ mm_inv h2 ∧ mm_fr [(54, 5)] [55, 57] h h2) mm_nx 0 0 := by
  refine mm_ofW (ls := [mR 54, mI p1, mI p2, mU]) hl (by decide) rfl (Nat.le_of_ble_eq_true rfl) ?_
  intro x hxl C T hnm htb
  subst hxl
  have C1 := mm_OK_le (d' := d - 1 + 1) (by omega) C
  refine mm_rng (fun hr _ => ?_)
  have ap1 : -2147483648 ≤ p1 ∧ p1 < 2147483648 := mm_ok_at hr (i := 1) rfl
  have ap2 : -2147483648 ≤ p2 ∧ p2 < 2147483648 := mm_ok_at hr (i := 2) rfl
  have f0 : mm_fr [(54, 5)] [55, 57] h h := mm_fr_rf
  have g1 : 0 ≤ h.1 54 5 ∧ h.1 54 5 ≤ 40 := i0.1 54 5
  refine mm_aload_n C (mm_dec dk_X3_gather 0 rfl) rfl ?_
  refine mm_iconst C (mm_dec dk_X3_gather 1 rfl) ⟨by decide, by decide⟩ ?_
  refine mm_puti C fl_X3_21 (mm_dec dk_X3_gather 2 rfl) rfl rfl rfl (Or.inl ⟨rfl, rfl⟩) ?_
  have i1 : mm_inv (mm_pf h 54 5 0) := mm_inv_pf i0 (show 0 ≤ 0 ∧ 0 ≤ 40 from ⟨by omega, by omega⟩) (by decide)
  have f1 : mm_fr [(54, 5)] [55, 57] h (mm_pf h 54 5 0) := mm_fr_pf f0 (by decide)
  obtain ⟨h1, eh1⟩ : ∃ z, z = mm_pf h 54 5 0 := ⟨_, rfl⟩
  rw [← eh1] at i1 f1 ⊢
  have qh1 : h1.1 54 5 = 0 := by rw [eh1]; exact mm_pf_same _ _ _ _
  refine mm_aload_n C (mm_dec dk_X3_gather 3 rfl) rfl ?_
  refine mm_getr (t := 57) C fl_X3_18 (mm_dec dk_X3_gather 4 rfl) rfl rfl (mm_ref i1 rfl) ?_
  refine mm_iconst C (mm_dec dk_X3_gather 5 rfl) ⟨by decide, by decide⟩ ?_
  refine mm_cSv (rest := []) C1 es_X3_33 (mm_dec dk_X3_gather 6 rfl) (c_J7_fill_53178_57 x.2.1 hl (d - 1) (by omega) h1 i1 0) rfl (Nat.le_of_ble_eq_true rfl) ⟨by decide, by decide⟩ rfl (fun h10c hp10 => ?_) (fun _ _ q => q.elim)
  obtain ⟨i10c, g10c⟩ := hp10
  have f10c : mm_fr [(54, 5)] [55, 57] h h10c := mm_fr_tr f1 g10c (by decide +kernel)
  have q10c_3 : h10c.1 54 5 = h1.1 54 5 := g10c.1 54 5 (by decide)
  refine mm_iconst C (mm_dec dk_X3_gather 7 rfl) ⟨by decide, by decide⟩ ?_
  have J15 : ∀ (n : Nat) (x15_3 : Int) (bx15_3 : 0 ≤ x15_3 ∧ x15_3 ≤ 40) (h15_ : mH) (i15_ : mm_inv h15_) (f15_ : mm_fr [(54, 5)] [55, 57] h h15_) (w15_0 : h15_.1 54 5 ≤ x15_3), (40 - x15_3 : Int) < n → mm_W x 0 0 15 [mR 54, mI p1, mI p2, mI x15_3] [] h15_ := by
    intro n
    induction n with
    | zero =>
      intro x15_3 bx15_3 h15_ i15_ f15_ w15_0 hm
      have g4 : 0 ≤ h15_.1 54 5 ∧ h15_.1 54 5 ≤ 40 := i15_.1 54 5
      exfalso; omega
    | succ n ih15 =>
      intro x15_3 bx15_3 h15_ i15_ f15_ w15_0 hm15
      have g5 : 0 ≤ h15_.1 54 5 ∧ h15_.1 54 5 ≤ 40 := i15_.1 54 5
      refine mm_iload_n C (mm_dec dk_X3_gather 9 rfl) rfl ?_
      refine mm_aload_n C (mm_dec dk_X3_gather 10 rfl) rfl ?_
      refine mm_getr (t := 22) C fl_X3_25 (mm_dec dk_X3_gather 11 rfl) rfl rfl (mm_ref i15_ rfl) ?_
      refine mm_cVi (rest := [mI x15_3]) C1 ev_X3_39 (mm_dec dk_X3_gather 12 rfl) (c_X9_size x.2.1 hl (d - 1) (by omega) h15_ i15_ ) rfl rfl (Nat.le_of_ble_eq_true rfl) ⟨by decide, by decide⟩ rfl (fun r20 h20c hp20 => ?_) (fun _ _ q => q.elim)
      obtain ⟨z20, y20⟩ := hp20
      rw [z20, y20]
      have g7 : 0 ≤ (h15_.1 22 8) ∧ (h15_.1 22 8) ≤ 40 := i15_.1 22 8
      refine mm_icmp_ge (tgt := 107) C (mm_dec dk_X3_gather 13 rfl) (by decide) (fun c23 => ?_) (fun c23 => ?_)
      · skip
        refine mm_aload_n C (mm_dec dk_X3_gather 59 rfl) rfl ?_
        refine mm_geti C fl_X3_21 (mm_dec dk_X3_gather 60 rfl) rfl rfl (Or.inl rfl) ?_
        exact mm_iret C T (mm_dec dk_X3_gather 61 rfl) (by decide : 0 ≤ 0) (by decide : 0 ≤ 0) ⟨_, rfl, ⟨⟨by omega, by omega⟩, i15_, f15_⟩⟩
      · skip
        refine mm_aload_n C (mm_dec dk_X3_gather 14 rfl) rfl ?_
        refine mm_getr (t := 22) C fl_X3_25 (mm_dec dk_X3_gather 15 rfl) rfl rfl (mm_ref i15_ rfl) ?_
        refine mm_iload_n C (mm_dec dk_X3_gather 16 rfl) rfl ?_
        refine mm_cVi (rest := []) C1 ev_X3_44 (mm_dec dk_X3_gather 17 rfl) (c_X9_courseOf x.2.1 hl (d - 1) (by omega) h15_ i15_ x15_3 ⟨by omega, by omega⟩) rfl rfl (Nat.le_of_ble_eq_true rfl) ⟨by decide, by decide⟩ rfl (fun r31 h31c hp31 => ?_) (fun _ _ q => q.elim)
        obtain ⟨z31, y31⟩ := hp31
        rw [z31, y31]
        have g9 : 0 ≤ (h15_.2.1 23 x15_3) ∧ (h15_.2.1 23 x15_3) ≤ 7 := i15_.2.1 23 x15_3
        refine mm_iload_n C (mm_dec dk_X3_gather 18 rfl) rfl ?_
        have J101 : ∀ (h101_ : mH) (i101_ : mm_inv h101_) (f101_ : mm_fr [(54, 5)] [55, 57] h h101_) (w101_0 : h101_.1 54 5 ≤ x15_3 + 1), mm_W x 0 0 101 [mR 54, mI p1, mI p2, mI x15_3] [] h101_ := by
          intro h101_ i101_ f101_ w101_0
          have g10 : 0 ≤ h101_.1 54 5 ∧ h101_.1 54 5 ≤ 40 := i101_.1 54 5
          refine mm_iincL (ls2 := [mR 54, mI p1, mI p2, mI (x15_3 + 1)]) C (mm_dec dk_X3_gather 57 rfl) rfl (by decide) ⟨by omega, by omega⟩ rfl ?_
          refine mm_goto (tgt := 15) C (mm_dec dk_X3_gather 58 rfl) (by decide) ?_
          exact ih15 (x15_3 + 1) ⟨by omega, by omega⟩ h101_ i101_ f101_ (by omega) (by omega)
        refine mm_icmp_ne (tgt := 101) C (mm_dec dk_X3_gather 19 rfl) (by decide) (fun c35 => ?_) (fun c35 => ?_)
        · skip
          exact J101 h15_ i15_ f15_ (by omega)
        · skip
          refine mm_aload_n C (mm_dec dk_X3_gather 20 rfl) rfl ?_
          refine mm_getr (t := 22) C fl_X3_25 (mm_dec dk_X3_gather 21 rfl) rfl rfl (mm_ref i15_ rfl) ?_
          refine mm_iload_n C (mm_dec dk_X3_gather 22 rfl) rfl ?_
          refine mm_cVi (rest := []) C1 ev_X3_48 (mm_dec dk_X3_gather 23 rfl) (c_X9_aheadOf x.2.1 hl (d - 1) (by omega) h15_ i15_ x15_3 ⟨by omega, by omega⟩) rfl rfl (Nat.le_of_ble_eq_true rfl) ⟨by decide, by decide⟩ rfl (fun r43 h43c hp43 => ?_) (fun _ _ q => q.elim)
          obtain ⟨z43, y43⟩ := hp43
          rw [z43, y43]
          have g12 : -1 ≤ (h15_.2.1 27 x15_3) ∧ (h15_.2.1 27 x15_3) ≤ 39 := i15_.2.1 27 x15_3
          refine mm_iconst C (mm_dec dk_X3_gather 24 rfl) ⟨by decide, by decide⟩ ?_
          refine mm_icmp_ne (tgt := 101) C (mm_dec dk_X3_gather 25 rfl) (by decide) (fun c47 => ?_) (fun c47 => ?_)
          · skip
            exact J101 h15_ i15_ f15_ (by omega)
          · skip
            refine mm_aload_n C (mm_dec dk_X3_gather 26 rfl) rfl ?_
            refine mm_getr (t := 30) C fl_X3_29 (mm_dec dk_X3_gather 27 rfl) rfl rfl (mm_ref i15_ rfl) ?_
            refine mm_iconst C (mm_dec dk_X3_gather 28 rfl) ⟨by decide, by decide⟩ ?_
            refine mm_iload_n C (mm_dec dk_X3_gather 29 rfl) rfl ?_
            refine mm_iload_n C (mm_dec dk_X3_gather 30 rfl) rfl ?_
            refine mm_cVi (rest := []) C1 ev_X3_51 (mm_dec dk_X3_gather 31 rfl) (c_X6_latest x.2.1 hl (d - 1) (by omega) h15_ i15_ 0 x15_3 p2 ⟨by omega, by omega⟩) rfl rfl (Nat.le_of_ble_eq_true rfl) ⟨by decide, by decide⟩ rfl (fun r57 h57c hp57 => ?_) (fun _ _ q => q.elim)
            obtain ⟨b57, z57⟩ := hp57
            rw [z57]
            refine mm_iconst C (mm_dec dk_X3_gather 32 rfl) ⟨by decide, by decide⟩ ?_
            refine mm_icmp_ne (tgt := 101) C (mm_dec dk_X3_gather 33 rfl) (by decide) (fun c61 => ?_) (fun c61 => ?_)
            · skip
              exact J101 h15_ i15_ f15_ (by omega)
            · skip
              refine mm_aload_n C (mm_dec dk_X3_gather 34 rfl) rfl ?_
              refine mm_getr (t := 55) C fl_X3_9 (mm_dec dk_X3_gather 35 rfl) rfl rfl (mm_ref i15_ rfl) ?_
              refine mm_aload_n C (mm_dec dk_X3_gather 36 rfl) rfl ?_
              refine mm_geti C fl_X3_21 (mm_dec dk_X3_gather 37 rfl) rfl rfl (Or.inl rfl) ?_
              refine mm_iload_n C (mm_dec dk_X3_gather 38 rfl) rfl ?_
              refine mm_iast C (mm_dec dk_X3_gather 39 rfl) rfl (by omega) (by omega) ?_
              have i3 : mm_inv (mm_pa h15_ 55 (h15_.1 54 5) x15_3) := mm_inv_pa i15_ (show -1 ≤ x15_3 ∧ x15_3 ≤ 39 from ⟨by omega, by omega⟩)
              have f3 : mm_fr [(54, 5)] [55, 57] h (mm_pa h15_ 55 (h15_.1 54 5) x15_3) := mm_fr_pa f15_ (by decide)
              obtain ⟨h3, eh3⟩ : ∃ z, z = mm_pa h15_ 55 (h15_.1 54 5) x15_3 := ⟨_, rfl⟩
              rw [← eh3] at i3 f3 ⊢
              have qh3_14 : h3.1 22 8 = h15_.1 22 8 := by rw [eh3]; rfl
              have qh3_15 : h3.1 54 5 = h15_.1 54 5 := by rw [eh3]; rfl
              refine mm_aload_n C (mm_dec dk_X3_gather 40 rfl) rfl ?_
              refine mm_dup C (mm_dec dk_X3_gather 41 rfl) (show (2 : Nat) ≠ 1 by decide) ?_
              refine mm_geti C fl_X3_21 (mm_dec dk_X3_gather 42 rfl) rfl rfl (Or.inl rfl) ?_
              refine mm_iconst C (mm_dec dk_X3_gather 43 rfl) ⟨by decide, by decide⟩ ?_
              refine mm_iadd C (mm_dec dk_X3_gather 44 rfl) ⟨by omega, by omega⟩ ?_
              refine mm_puti C fl_X3_21 (mm_dec dk_X3_gather 45 rfl) rfl rfl rfl (Or.inl ⟨rfl, rfl⟩) ?_
              have i4 : mm_inv (mm_pf h3 54 5 ((h3.1 54 5) + 1)) := mm_inv_pf i3 (show 0 ≤ ((h3.1 54 5) + 1) ∧ ((h3.1 54 5) + 1) ≤ 40 from ⟨by omega, by omega⟩) (by decide)
              have f4 : mm_fr [(54, 5)] [55, 57] h (mm_pf h3 54 5 ((h3.1 54 5) + 1)) := mm_fr_pf f3 (by decide)
              obtain ⟨h4, eh4⟩ : ∃ z, z = mm_pf h3 54 5 ((h3.1 54 5) + 1) := ⟨_, rfl⟩
              rw [← eh4] at i4 f4 ⊢
              have qh4 : h4.1 54 5 = ((h3.1 54 5) + 1) := by rw [eh4]; exact mm_pf_same _ _ _ _
              have qh4_16 : h4.1 22 8 = h3.1 22 8 := by rw [eh4]; exact mm_pf_ne _ _ (by decide)
              refine mm_aload_n C (mm_dec dk_X3_gather 46 rfl) rfl ?_
              refine mm_getr (t := 57) C fl_X3_18 (mm_dec dk_X3_gather 47 rfl) rfl rfl (mm_ref i4 rfl) ?_
              refine mm_aload_n C (mm_dec dk_X3_gather 48 rfl) rfl ?_
              refine mm_getr (t := 22) C fl_X3_25 (mm_dec dk_X3_gather 49 rfl) rfl rfl (mm_ref i4 rfl) ?_
              refine mm_iload_n C (mm_dec dk_X3_gather 50 rfl) rfl ?_
              refine mm_cVi (rest := [mR 57]) C1 ev_X3_57 (mm_dec dk_X3_gather 51 rfl) (c_X9_clubOf x.2.1 hl (d - 1) (by omega) h4 i4 x15_3 ⟨by omega, by omega⟩) rfl rfl (Nat.le_of_ble_eq_true rfl) ⟨by decide, by decide⟩ rfl (fun r93 h93c hp93 => ?_) (fun _ _ q => q.elim)
              obtain ⟨z93, y93⟩ := hp93
              rw [z93, y93]
              have g18 : 0 ≤ (h4.2.1 24 x15_3) ∧ (h4.2.1 24 x15_3) ≤ 9 := i4.2.1 24 x15_3
              refine mm_dup2 C (mm_dec dk_X3_gather 52 rfl) (show (0 : Nat) ≠ 1 by decide) (show (2 : Nat) ≠ 1 by decide) ?_
              refine mm_iald C (mm_dec dk_X3_gather 53 rfl) rfl (by omega) (by omega) ?_
              have g19 : -2147483648 ≤ (h4.2.1 57 (h4.2.1 24 x15_3)) ∧ (h4.2.1 57 (h4.2.1 24 x15_3)) ≤ 2147483647 := i4.2.1 57 (h4.2.1 24 x15_3)
              refine mm_iconst C (mm_dec dk_X3_gather 54 rfl) ⟨by decide, by decide⟩ ?_
              refine mm_iaddw C (mm_dec dk_X3_gather 55 rfl) ?_
              have g20 : -2147483648 ≤ (mm_w ((h4.2.1 57 (h4.2.1 24 x15_3)) + 1)) ∧ (mm_w ((h4.2.1 57 (h4.2.1 24 x15_3)) + 1)) < 2147483648 := mm_w_rg _
              refine mm_iast C (mm_dec dk_X3_gather 56 rfl) rfl (by omega) (by omega) ?_
              have i5 : mm_inv (mm_pa h4 57 (h4.2.1 24 x15_3) (mm_w ((h4.2.1 57 (h4.2.1 24 x15_3)) + 1))) := mm_inv_pa i4 (show -2147483648 ≤ (mm_w ((h4.2.1 57 (h4.2.1 24 x15_3)) + 1)) ∧ (mm_w ((h4.2.1 57 (h4.2.1 24 x15_3)) + 1)) ≤ 2147483647 from ⟨by omega, by omega⟩)
              have f5 : mm_fr [(54, 5)] [55, 57] h (mm_pa h4 57 (h4.2.1 24 x15_3) (mm_w ((h4.2.1 57 (h4.2.1 24 x15_3)) + 1))) := mm_fr_pa f4 (by decide)
              obtain ⟨h5, eh5⟩ : ∃ z, z = mm_pa h4 57 (h4.2.1 24 x15_3) (mm_w ((h4.2.1 57 (h4.2.1 24 x15_3)) + 1)) := ⟨_, rfl⟩
              rw [← eh5] at i5 f5 ⊢
              have qh5_21 : h5.1 22 8 = h4.1 22 8 := by rw [eh5]; rfl
              have qh5_22 : h5.1 54 5 = h4.1 54 5 := by rw [eh5]; rfl
              exact J101 h5 i5 f5 (by omega)
  refine mm_istore_nL (ls2 := [mR 54, mI p1, mI p2, mI 0]) C (mm_dec dk_X3_gather 8 rfl) (by decide) rfl ?_
  exact J15 (((40 - 0) : Int) + 1).toNat 0 ⟨by omega, by omega⟩ h10c i10c f10c (by omega) (by omega)
set_option maxRecDepth 100000 in
set_option maxHeartbeats 4000000 in
theorem c_X3_nextAfter (l : Launch) (hl : l.stackTraces = false) (d : Nat) (hd : 1 ≤ d) (h : mH) (i0 : mm_inv h) (p1 : Int) (p2 : Int) : mm_Met l d yX3_nextAfter cX3_nextAfter 4 (some .int) [mR 54, mI p1, mI p2] h (mm_pi fun r h2 => (-1 ≤ r ∧ r ≤ 39) ∧ h2 = h ∧ (r = -1 ∨ h.2.1 55 r ≠ -1)) mm_nx 0 0 := by
  refine mm_ofW (ls := [mR 54, mI p1, mI p2, mU]) hl (by decide) rfl (Nat.le_of_ble_eq_true rfl) ?_
  intro x hxl C T hnm htb
  subst hxl
  have C1 := mm_OK_le (d' := d - 1 + 1) (by omega) C
  refine mm_rng (fun hr _ => ?_)
  have ap1 : -2147483648 ≤ p1 ∧ p1 < 2147483648 := mm_ok_at hr (i := 1) rfl
  have ap2 : -2147483648 ≤ p2 ∧ p2 < 2147483648 := mm_ok_at hr (i := 2) rfl
  have f0 : mm_fr [] [] h h := mm_fr_rf
  refine mm_iconst C (mm_dec dk_X3_nextAfter 0 rfl) ⟨by decide, by decide⟩ ?_
  have J2 : ∀ (n : Nat) (x2_3 : Int) (bx2_3 : 0 ≤ x2_3 ∧ x2_3 ≤ 40), (40 - x2_3 : Int) < n → mm_W x 0 0 2 [mR 54, mI p1, mI p2, mI x2_3] [] h := by
    intro n
    induction n with
    | zero =>
      intro x2_3 bx2_3 hm
      exfalso; omega
    | succ n ih2 =>
      intro x2_3 bx2_3 hm2
      refine mm_iload_n C (mm_dec dk_X3_nextAfter 2 rfl) rfl ?_
      refine mm_aload_n C (mm_dec dk_X3_nextAfter 3 rfl) rfl ?_
      refine mm_geti C fl_X3_21 (mm_dec dk_X3_nextAfter 4 rfl) rfl rfl (Or.inl rfl) ?_
      have g1 : 0 ≤ (h.1 54 5) ∧ (h.1 54 5) ≤ 40 := i0.1 54 5
      refine mm_icmp_ge (tgt := 66) C (mm_dec dk_X3_nextAfter 5 rfl) (by decide) (fun c7 => ?_) (fun c7 => ?_)
      · skip
        refine mm_iconst C (mm_dec dk_X3_nextAfter 36 rfl) ⟨by decide, by decide⟩ ?_
        exact mm_iret C T (mm_dec dk_X3_nextAfter 37 rfl) (by decide : 0 ≤ 0) (by decide : 0 ≤ 0) ⟨_, rfl, ⟨⟨by omega, by omega⟩, rfl, by omega⟩⟩
      · skip
        refine mm_aload_n C (mm_dec dk_X3_nextAfter 6 rfl) rfl ?_
        refine mm_getr (t := 55) C fl_X3_9 (mm_dec dk_X3_nextAfter 7 rfl) rfl rfl (mm_ref i0 rfl) ?_
        refine mm_iload_n C (mm_dec dk_X3_nextAfter 8 rfl) rfl ?_
        refine mm_iald C (mm_dec dk_X3_nextAfter 9 rfl) rfl (by omega) (by omega) ?_
        have g2 : -1 ≤ (h.2.1 55 x2_3) ∧ (h.2.1 55 x2_3) ≤ 39 := i0.2.1 55 x2_3
        refine mm_iconst C (mm_dec dk_X3_nextAfter 10 rfl) ⟨by decide, by decide⟩ ?_
        have J60 : mm_W x 0 0 60 [mR 54, mI p1, mI p2, mI x2_3] [] h := by
          refine mm_iincL (ls2 := [mR 54, mI p1, mI p2, mI (x2_3 + 1)]) C (mm_dec dk_X3_nextAfter 34 rfl) rfl (by decide) ⟨by omega, by omega⟩ rfl ?_
          refine mm_goto (tgt := 2) C (mm_dec dk_X3_nextAfter 35 rfl) (by decide) ?_
          exact ih2 (x2_3 + 1) ⟨by omega, by omega⟩ (by omega)
        refine mm_icmp_eq (tgt := 60) C (mm_dec dk_X3_nextAfter 11 rfl) (by decide) (fun c17 => ?_) (fun c17 => ?_)
        · skip
          exact J60
        · skip
          refine mm_aload_n C (mm_dec dk_X3_nextAfter 12 rfl) rfl ?_
          refine mm_getr (t := 22) C fl_X3_25 (mm_dec dk_X3_nextAfter 13 rfl) rfl rfl (mm_ref i0 rfl) ?_
          refine mm_aload_n C (mm_dec dk_X3_nextAfter 14 rfl) rfl ?_
          refine mm_getr (t := 55) C fl_X3_9 (mm_dec dk_X3_nextAfter 15 rfl) rfl rfl (mm_ref i0 rfl) ?_
          refine mm_iload_n C (mm_dec dk_X3_nextAfter 16 rfl) rfl ?_
          refine mm_iald C (mm_dec dk_X3_nextAfter 17 rfl) rfl (by omega) (by omega) ?_
          refine mm_cVi (rest := []) C1 ev_X3_57 (mm_dec dk_X3_nextAfter 18 rfl) (c_X9_clubOf x.2.1 hl (d - 1) (by omega) h i0 (h.2.1 55 x2_3) ⟨by omega, by omega⟩) rfl rfl (Nat.le_of_ble_eq_true rfl) ⟨by decide, by decide⟩ rfl (fun r30 h30c hp30 => ?_) (fun _ _ q => q.elim)
          obtain ⟨z30, y30⟩ := hp30
          rw [z30, y30]
          have g4 : 0 ≤ (h.2.1 24 (h.2.1 55 x2_3)) ∧ (h.2.1 24 (h.2.1 55 x2_3)) ≤ 9 := i0.2.1 24 (h.2.1 55 x2_3)
          refine mm_iload_n C (mm_dec dk_X3_nextAfter 19 rfl) rfl ?_
          refine mm_icmp_eq (tgt := 60) C (mm_dec dk_X3_nextAfter 20 rfl) (by decide) (fun c34 => ?_) (fun c34 => ?_)
          · skip
            exact J60
          · skip
            refine mm_aload_n C (mm_dec dk_X3_nextAfter 21 rfl) rfl ?_
            refine mm_aload_n C (mm_dec dk_X3_nextAfter 22 rfl) rfl ?_
            refine mm_getr (t := 22) C fl_X3_25 (mm_dec dk_X3_nextAfter 23 rfl) rfl rfl (mm_ref i0 rfl) ?_
            refine mm_aload_n C (mm_dec dk_X3_nextAfter 24 rfl) rfl ?_
            refine mm_getr (t := 55) C fl_X3_9 (mm_dec dk_X3_nextAfter 25 rfl) rfl rfl (mm_ref i0 rfl) ?_
            refine mm_iload_n C (mm_dec dk_X3_nextAfter 26 rfl) rfl ?_
            refine mm_iald C (mm_dec dk_X3_nextAfter 27 rfl) rfl (by omega) (by omega) ?_
            refine mm_cVi (rest := [mR 54]) C1 ev_X3_57 (mm_dec dk_X3_nextAfter 28 rfl) (c_X9_clubOf x.2.1 hl (d - 1) (by omega) h i0 (h.2.1 55 x2_3) ⟨by omega, by omega⟩) rfl rfl (Nat.le_of_ble_eq_true rfl) ⟨by decide, by decide⟩ rfl (fun r48 h48c hp48 => ?_) (fun _ _ q => q.elim)
            obtain ⟨z48, y48⟩ := hp48
            rw [z48, y48]
            refine mm_iload_n C (mm_dec dk_X3_nextAfter 29 rfl) rfl ?_
            refine mm_cVi (rest := []) C1 ev_X3_72 (mm_dec dk_X3_nextAfter 30 rfl) (c_X3_restCanFollow x.2.1 hl (d - 1) (by omega) h i0 (h.2.1 24 (h.2.1 55 x2_3)) p2 ⟨by omega, by omega⟩) rfl rfl (Nat.le_of_ble_eq_true rfl) ⟨by decide, by decide⟩ rfl (fun r52 h52c hp52 => ?_) (fun _ _ q => q.elim)
            obtain ⟨b52, z52⟩ := hp52
            rw [z52]
            refine mm_if_eq (tgt := 60) C (mm_dec dk_X3_nextAfter 31 rfl) (by decide) (fun c55 => ?_) (fun c55 => ?_)
            · skip
              exact J60
            · skip
              refine mm_iload_n C (mm_dec dk_X3_nextAfter 32 rfl) rfl ?_
              exact mm_iret C T (mm_dec dk_X3_nextAfter 33 rfl) (by decide : 0 ≤ 0) (by decide : 0 ≤ 0) ⟨_, rfl, ⟨⟨by omega, by omega⟩, rfl, by omega⟩⟩
  refine mm_istore_nL (ls2 := [mR 54, mI p1, mI p2, mI 0]) C (mm_dec dk_X3_nextAfter 1 rfl) (by decide) rfl ?_
  exact J2 (((40 - 0) : Int) + 1).toNat 0 ⟨by omega, by omega⟩ (by omega)
set_option maxRecDepth 100000 in
set_option maxHeartbeats 4000000 in
theorem c_X4_startOf (l : Launch) (hl : l.stackTraces = false) (d : Nat) (hd : 2 ≤ d) (h : mH) (i0 : mm_inv h) (p1 : Int) (p2 : Int) (bp1 : 0 ≤ p1 ∧ p1 ≤ 39) : mm_Met l d yX4_startOf cX4_startOf 4 (some .int) [mR 46, mI p1, mI p2] h (mm_pi fun r h2 => (-2147483648 ≤ r ∧ r ≤ 2147483647) ∧ h2 = h) mm_nx 0 0 := by
  refine mm_ofW (ls := [mR 46, mI p1, mI p2, mU]) hl (by decide) rfl (Nat.le_of_ble_eq_true rfl) ?_
  intro x hxl C T hnm htb
  subst hxl
  have C1 := mm_OK_le (d' := d - 1 + 1) (by omega) C
  refine mm_rng (fun hr _ => ?_)
  have ap1 : -2147483648 ≤ p1 ∧ p1 < 2147483648 := mm_ok_at hr (i := 1) rfl
  have ap2 : -2147483648 ≤ p2 ∧ p2 < 2147483648 := mm_ok_at hr (i := 2) rfl
  have f0 : mm_fr [] [] h h := mm_fr_rf
  refine mm_aload_n C (mm_dec dk_X4_startOf 0 rfl) rfl ?_
  refine mm_getr (t := 22) C fl_X4_38 (mm_dec dk_X4_startOf 1 rfl) rfl rfl (mm_ref i0 rfl) ?_
  refine mm_iload_n C (mm_dec dk_X4_startOf 2 rfl) rfl ?_
  refine mm_cVi (rest := []) C1 ev_X4_134 (mm_dec dk_X4_startOf 3 rfl) (c_X9_aheadOf x.2.1 hl (d - 1) (by omega) h i0 p1 ⟨by omega, by omega⟩) rfl rfl (Nat.le_of_ble_eq_true rfl) ⟨by decide, by decide⟩ rfl (fun r5 h5c hp5 => ?_) (fun _ _ q => q.elim)
  obtain ⟨z5, y5⟩ := hp5
  rw [z5, y5]
  have g2 : -1 ≤ (h.2.1 27 p1) ∧ (h.2.1 27 p1) ≤ 39 := i0.2.1 27 p1
  refine mm_istore_nL (ls2 := [mR 46, mI p1, mI p2, mI (h.2.1 27 p1)]) C (mm_dec dk_X4_startOf 4 rfl) (by decide) rfl ?_
  refine mm_aload_n C (mm_dec dk_X4_startOf 5 rfl) rfl ?_
  refine mm_getr (t := 30) C fl_X4_42 (mm_dec dk_X4_startOf 6 rfl) rfl rfl (mm_ref i0 rfl) ?_
  refine mm_iload_n C (mm_dec dk_X4_startOf 7 rfl) rfl ?_
  refine mm_iconst C (mm_dec dk_X4_startOf 8 rfl) ⟨by decide, by decide⟩ ?_
  refine mm_icmp_ne (tgt := 31) C (mm_dec dk_X4_startOf 9 rfl) (by decide) (fun c15 => ?_) (fun c15 => ?_)
  · skip
    refine mm_aload_n C (mm_dec dk_X4_startOf 17 rfl) rfl ?_
    refine mm_getr (t := 30) C fl_X4_42 (mm_dec dk_X4_startOf 18 rfl) rfl rfl (mm_ref i0 rfl) ?_
    refine mm_iconst C (mm_dec dk_X4_startOf 19 rfl) ⟨by decide, by decide⟩ ?_
    refine mm_iload_n C (mm_dec dk_X4_startOf 20 rfl) rfl ?_
    refine mm_iload_n C (mm_dec dk_X4_startOf 21 rfl) rfl ?_
    refine mm_cVi (rest := [mR 30]) C1 ev_X4_67 (mm_dec dk_X4_startOf 22 rfl) (c_X6_latest x.2.1 hl (d - 1) (by omega) h i0 2 (h.2.1 27 p1) p2 ⟨by omega, by omega⟩) rfl rfl (Nat.le_of_ble_eq_true rfl) ⟨by decide, by decide⟩ rfl (fun r38 h38c hp38 => ?_) (fun _ _ q => q.elim)
    obtain ⟨b38, z38⟩ := hp38
    rw [z38]
    refine mm_cVi (rest := []) C1 ev_X4_73 (mm_dec dk_X4_startOf 23 rfl) (c_X6_timeOf x.2.1 hl (d - 1) (by omega) h i0 r38 ⟨by omega, by omega⟩) rfl rfl (Nat.le_of_ble_eq_true rfl) ⟨by decide, by decide⟩ rfl (fun r41 h41c hp41 => ?_) (fun _ _ q => q.elim)
    obtain ⟨z41, y41⟩ := hp41
    rw [z41]
    rcases y41 with ⟨k41_0, rfl⟩ | ⟨k41_0, rfl⟩
    · skip
      have g5 : -2147483648 ≤ (h.2.1 34 r38) ∧ (h.2.1 34 r38) ≤ 2147483647 := i0.2.1 34 r38
      exact mm_iret C T (mm_dec dk_X4_startOf 24 rfl) (by decide : 0 ≤ 0) (by decide : 0 ≤ 0) ⟨_, rfl, ⟨⟨by omega, by omega⟩, rfl⟩⟩
    · skip
      exact mm_iret C T (mm_dec dk_X4_startOf 24 rfl) (by decide : 0 ≤ 0) (by decide : 0 ≤ 0) ⟨_, rfl, ⟨⟨by omega, by omega⟩, rfl⟩⟩
  · skip
    refine mm_aload_n C (mm_dec dk_X4_startOf 10 rfl) rfl ?_
    refine mm_getr (t := 30) C fl_X4_42 (mm_dec dk_X4_startOf 11 rfl) rfl rfl (mm_ref i0 rfl) ?_
    refine mm_iconst C (mm_dec dk_X4_startOf 12 rfl) ⟨by decide, by decide⟩ ?_
    refine mm_iload_n C (mm_dec dk_X4_startOf 13 rfl) rfl ?_
    refine mm_iload_n C (mm_dec dk_X4_startOf 14 rfl) rfl ?_
    refine mm_cVi (rest := [mR 30]) C1 ev_X4_67 (mm_dec dk_X4_startOf 15 rfl) (c_X6_latest x.2.1 hl (d - 1) (by omega) h i0 0 p1 p2 ⟨by omega, by omega⟩) rfl rfl (Nat.le_of_ble_eq_true rfl) ⟨by decide, by decide⟩ rfl (fun r25 h25c hp25 => ?_) (fun _ _ q => q.elim)
    obtain ⟨b25, z25⟩ := hp25
    rw [z25]
    refine mm_goto (tgt := 41) C (mm_dec dk_X4_startOf 16 rfl) (by decide) ?_
    refine mm_cVi (rest := []) C1 ev_X4_73 (mm_dec dk_X4_startOf 23 rfl) (c_X6_timeOf x.2.1 hl (d - 1) (by omega) h i0 r25 ⟨by omega, by omega⟩) rfl rfl (Nat.le_of_ble_eq_true rfl) ⟨by decide, by decide⟩ rfl (fun r41 h41c hp41 => ?_) (fun _ _ q => q.elim)
    obtain ⟨z41, y41⟩ := hp41
    rw [z41]
    rcases y41 with ⟨k41_0, rfl⟩ | ⟨k41_0, rfl⟩
    · skip
      have g8 : -2147483648 ≤ (h.2.1 34 r25) ∧ (h.2.1 34 r25) ≤ 2147483647 := i0.2.1 34 r25
      exact mm_iret C T (mm_dec dk_X4_startOf 24 rfl) (by decide : 0 ≤ 0) (by decide : 0 ≤ 0) ⟨_, rfl, ⟨⟨by omega, by omega⟩, rfl⟩⟩
    · skip
      exact mm_iret C T (mm_dec dk_X4_startOf 24 rfl) (by decide : 0 ≤ 0) (by decide : 0 ≤ 0) ⟨_, rfl, ⟨⟨by omega, by omega⟩, rfl⟩⟩
set_option maxRecDepth 100000 in
set_option maxHeartbeats 4000000 in
theorem c_X4_fillValues (l : Launch) (hl : l.stackTraces = false) (d : Nat) (hd : 2 ≤ d) (h : mH) (i0 : mm_inv h) (p1 : Int) (bp1 : 0 ≤ p1 ∧ p1 ≤ 39) : mm_Met l d yX4_fillValues cX4_fillValues 3 none [mR 46, mI p1] h (mm_pv fun h2 => mm_inv h2 ∧ mm_fr [] [47] h h2) mm_nx 0 0 := by
  refine mm_ofW (ls := [mR 46, mI p1, mU]) hl (by decide) rfl (Nat.le_of_ble_eq_true rfl) ?_
  intro x hxl C T hnm htb
  subst hxl
  have C1 := mm_OK_le (d' := d - 1 + 1) (by omega) C
  refine mm_rng (fun hr _ => ?_)
  have ap1 : -2147483648 ≤ p1 ∧ p1 < 2147483648 := mm_ok_at hr (i := 1) rfl
  have f0 : mm_fr [] [47] h h := mm_fr_rf
  refine mm_aload_n C (mm_dec dk_X4_fillValues 0 rfl) rfl ?_
  refine mm_getr (t := 22) C fl_X4_38 (mm_dec dk_X4_fillValues 1 rfl) rfl rfl (mm_ref i0 rfl) ?_
  refine mm_iload_n C (mm_dec dk_X4_fillValues 2 rfl) rfl ?_
  refine mm_cVi (rest := []) C1 ev_X4_99 (mm_dec dk_X4_fillValues 3 rfl) (c_X9_runsFree x.2.1 hl (d - 1) (by omega) h i0 p1 ⟨by omega, by omega⟩) rfl rfl (Nat.le_of_ble_eq_true rfl) ⟨by decide, by decide⟩ rfl (fun r5 h5c hp5 => ?_) (fun _ _ q => q.elim)
  obtain ⟨z5, y5⟩ := hp5
  rw [z5, y5]
  have g2 : 0 ≤ (h.2.1 17 (h.2.1 23 p1)) ∧ (h.2.1 17 (h.2.1 23 p1)) ≤ 1 := i0.2.1 17 (h.2.1 23 p1)
  have g3 : 0 ≤ (h.2.1 23 p1) ∧ (h.2.1 23 p1) ≤ 7 := i0.2.1 23 p1
  refine mm_istore_nL (ls2 := [mR 46, mI p1, mI (h.2.1 17 (h.2.1 23 p1))]) C (mm_dec dk_X4_fillValues 4 rfl) (by decide) rfl ?_
  refine mm_aload_n C (mm_dec dk_X4_fillValues 5 rfl) rfl ?_
  refine mm_getr (t := 47) C fl_X4_9 (mm_dec dk_X4_fillValues 6 rfl) rfl rfl (mm_ref i0 rfl) ?_
  refine mm_iconst C (mm_dec dk_X4_fillValues 7 rfl) ⟨by decide, by decide⟩ ?_
  refine mm_iload_n C (mm_dec dk_X4_fillValues 8 rfl) rfl ?_
  have J29 : ∀ (s29_2 : Int) (bs29_2 : -2147483648 ≤ s29_2 ∧ s29_2 ≤ 2147483647), mm_W x 0 0 29 [mR 46, mI p1, mI (h.2.1 17 (h.2.1 23 p1))] [mI s29_2, mI 0, mR 47] h := by
    intro s29_2 bs29_2
    refine mm_iast C (mm_dec dk_X4_fillValues 15 rfl) rfl (by omega) (by omega) ?_
    have i1 : mm_inv (mm_pa h 47 0 s29_2) := mm_inv_pa i0 (show -2147483648 ≤ s29_2 ∧ s29_2 ≤ 2147483647 from ⟨by omega, by omega⟩)
    have f1 : mm_fr [] [47] h (mm_pa h 47 0 s29_2) := mm_fr_pa f0 (by decide)
    obtain ⟨h1, eh1⟩ : ∃ z, z = mm_pa h 47 0 s29_2 := ⟨_, rfl⟩
    rw [← eh1] at i1 f1 ⊢
    refine mm_aload_n C (mm_dec dk_X4_fillValues 16 rfl) rfl ?_
    refine mm_getr (t := 47) C fl_X4_9 (mm_dec dk_X4_fillValues 17 rfl) rfl rfl (mm_ref i1 rfl) ?_
    refine mm_iconst C (mm_dec dk_X4_fillValues 18 rfl) ⟨by decide, by decide⟩ ?_
    refine mm_aload_n C (mm_dec dk_X4_fillValues 19 rfl) rfl ?_
    refine mm_getr (t := 48) C fl_X4_55 (mm_dec dk_X4_fillValues 20 rfl) rfl rfl (mm_ref i1 rfl) ?_
    refine mm_cVi (rest := [mI 1, mR 47]) C1 ev_X4_140 (mm_dec dk_X4_fillValues 21 rfl) (c_X1_wrong x.2.1 hl (d - 1) (by omega) h1 i1 ) rfl rfl (Nat.le_of_ble_eq_true rfl) ⟨by decide, by decide⟩ rfl (fun r39 h39c hp39 => ?_) (fun _ _ q => q.elim)
    obtain ⟨b39, z39⟩ := hp39
    rw [z39]
    refine mm_iast C (mm_dec dk_X4_fillValues 22 rfl) rfl (by omega) (by omega) ?_
    have i2 : mm_inv (mm_pa h1 47 1 r39) := mm_inv_pa i1 (show -2147483648 ≤ r39 ∧ r39 ≤ 2147483647 from ⟨by omega, by omega⟩)
    have f2 : mm_fr [] [47] h (mm_pa h1 47 1 r39) := mm_fr_pa f1 (by decide)
    obtain ⟨h2, eh2⟩ : ∃ z, z = mm_pa h1 47 1 r39 := ⟨_, rfl⟩
    rw [← eh2] at i2 f2 ⊢
    refine mm_aload_n C (mm_dec dk_X4_fillValues 23 rfl) rfl ?_
    refine mm_getr (t := 47) C fl_X4_9 (mm_dec dk_X4_fillValues 24 rfl) rfl rfl (mm_ref i2 rfl) ?_
    refine mm_iconst C (mm_dec dk_X4_fillValues 25 rfl) ⟨by decide, by decide⟩ ?_
    refine mm_aload_n C (mm_dec dk_X4_fillValues 26 rfl) rfl ?_
    refine mm_geti C fl_X4_19 (mm_dec dk_X4_fillValues 27 rfl) rfl rfl (Or.inl rfl) ?_
    have g5 : -2147483648 ≤ (h2.1 46 6) ∧ (h2.1 46 6) ≤ 2147483647 := i2.1 46 6
    refine mm_iconst C (mm_dec dk_X4_fillValues 28 rfl) ⟨by decide, by decide⟩ ?_
    have J77 : ∀ (s77_2 : Int) (bs77_2 : -2147483648 ≤ s77_2 ∧ s77_2 ≤ 2147483647), mm_W x 0 0 77 [mR 46, mI p1, mI (h.2.1 17 (h.2.1 23 p1))] [mI s77_2, mI 2, mR 47] h2 := by
      intro s77_2 bs77_2
      refine mm_iast C (mm_dec dk_X4_fillValues 41 rfl) rfl (by omega) (by omega) ?_
      have i3 : mm_inv (mm_pa h2 47 2 s77_2) := mm_inv_pa i2 (show -2147483648 ≤ s77_2 ∧ s77_2 ≤ 2147483647 from ⟨by omega, by omega⟩)
      have f3 : mm_fr [] [47] h (mm_pa h2 47 2 s77_2) := mm_fr_pa f2 (by decide)
      obtain ⟨h3, eh3⟩ : ∃ z, z = mm_pa h2 47 2 s77_2 := ⟨_, rfl⟩
      rw [← eh3] at i3 f3 ⊢
      have qh3_6 : h3.1 46 6 = h2.1 46 6 := by rw [eh3]; rfl
      refine mm_aload_n C (mm_dec dk_X4_fillValues 42 rfl) rfl ?_
      refine mm_getr (t := 47) C fl_X4_9 (mm_dec dk_X4_fillValues 43 rfl) rfl rfl (mm_ref i3 rfl) ?_
      refine mm_iconst C (mm_dec dk_X4_fillValues 44 rfl) ⟨by decide, by decide⟩ ?_
      refine mm_aload_n C (mm_dec dk_X4_fillValues 45 rfl) rfl ?_
      refine mm_getr (t := 48) C fl_X4_55 (mm_dec dk_X4_fillValues 46 rfl) rfl rfl (mm_ref i3 rfl) ?_
      refine mm_cVi (rest := [mI 3, mR 47]) C1 ev_X4_143 (mm_dec dk_X4_fillValues 47 rfl) (c_X1_score x.2.1 hl (d - 1) (by omega) h3 i3 ) rfl rfl (Nat.le_of_ble_eq_true rfl) ⟨by decide, by decide⟩ rfl (fun r87 h87c hp87 => ?_) (fun _ _ q => q.elim)
      obtain ⟨b87, z87⟩ := hp87
      rw [z87]
      refine mm_iast C (mm_dec dk_X4_fillValues 48 rfl) rfl (by omega) (by omega) ?_
      have i4 : mm_inv (mm_pa h3 47 3 r87) := mm_inv_pa i3 (show -2147483648 ≤ r87 ∧ r87 ≤ 2147483647 from ⟨by omega, by omega⟩)
      have f4 : mm_fr [] [47] h (mm_pa h3 47 3 r87) := mm_fr_pa f3 (by decide)
      obtain ⟨h4, eh4⟩ : ∃ z, z = mm_pa h3 47 3 r87 := ⟨_, rfl⟩
      rw [← eh4] at i4 f4 ⊢
      have qh4_8 : h4.1 46 6 = h3.1 46 6 := by rw [eh4]; rfl
      refine mm_aload_n C (mm_dec dk_X4_fillValues 49 rfl) rfl ?_
      refine mm_getr (t := 47) C fl_X4_9 (mm_dec dk_X4_fillValues 50 rfl) rfl rfl (mm_ref i4 rfl) ?_
      refine mm_iconst C (mm_dec dk_X4_fillValues 51 rfl) ⟨by decide, by decide⟩ ?_
      refine mm_aload_n C (mm_dec dk_X4_fillValues 52 rfl) rfl ?_
      refine mm_getr (t := 48) C fl_X4_55 (mm_dec dk_X4_fillValues 53 rfl) rfl rfl (mm_ref i4 rfl) ?_
      refine mm_cVi (rest := [mI 4, mR 47]) C1 ev_X4_146 (mm_dec dk_X4_fillValues 54 rfl) (c_X1_rowSize x.2.1 hl (d - 1) (by omega) h4 i4 ) rfl rfl (Nat.le_of_ble_eq_true rfl) ⟨by decide, by decide⟩ rfl (fun r100 h100c hp100 => ?_) (fun _ _ q => q.elim)
      obtain ⟨z100, y100⟩ := hp100
      rw [z100, y100]
      have g10 : 0 ≤ (h4.1 48 8) ∧ (h4.1 48 8) ≤ 12 := i4.1 48 8
      refine mm_iast C (mm_dec dk_X4_fillValues 55 rfl) rfl (by omega) (by omega) ?_
      have i5 : mm_inv (mm_pa h4 47 4 (h4.1 48 8)) := mm_inv_pa i4 (show -2147483648 ≤ (h4.1 48 8) ∧ (h4.1 48 8) ≤ 2147483647 from ⟨by omega, by omega⟩)
      have f5 : mm_fr [] [47] h (mm_pa h4 47 4 (h4.1 48 8)) := mm_fr_pa f4 (by decide)
      obtain ⟨h5, eh5⟩ : ∃ z, z = mm_pa h4 47 4 (h4.1 48 8) := ⟨_, rfl⟩
      rw [← eh5] at i5 f5 ⊢
      have qh5_11 : h5.1 46 6 = h4.1 46 6 := by rw [eh5]; rfl
      have qh5_12 : h5.1 48 8 = h4.1 48 8 := by rw [eh5]; rfl
      refine mm_aload_n C (mm_dec dk_X4_fillValues 56 rfl) rfl ?_
      refine mm_getr (t := 47) C fl_X4_9 (mm_dec dk_X4_fillValues 57 rfl) rfl rfl (mm_ref i5 rfl) ?_
      refine mm_iconst C (mm_dec dk_X4_fillValues 58 rfl) ⟨by decide, by decide⟩ ?_
      refine mm_aload_n C (mm_dec dk_X4_fillValues 59 rfl) rfl ?_
      refine mm_getr (t := 22) C fl_X4_38 (mm_dec dk_X4_fillValues 60 rfl) rfl rfl (mm_ref i5 rfl) ?_
      refine mm_iload_n C (mm_dec dk_X4_fillValues 61 rfl) rfl ?_
      refine mm_cVi (rest := [mI 5, mR 47]) C1 ev_X4_149 (mm_dec dk_X4_fillValues 62 rfl) (c_X9_clubOf x.2.1 hl (d - 1) (by omega) h5 i5 p1 ⟨by omega, by omega⟩) rfl rfl (Nat.le_of_ble_eq_true rfl) ⟨by decide, by decide⟩ rfl (fun r114 h114c hp114 => ?_) (fun _ _ q => q.elim)
      obtain ⟨z114, y114⟩ := hp114
      rw [z114, y114]
      have g14 : 0 ≤ (h5.2.1 24 p1) ∧ (h5.2.1 24 p1) ≤ 9 := i5.2.1 24 p1
      refine mm_iast C (mm_dec dk_X4_fillValues 63 rfl) rfl (by omega) (by omega) ?_
      have i6 : mm_inv (mm_pa h5 47 5 (h5.2.1 24 p1)) := mm_inv_pa i5 (show -2147483648 ≤ (h5.2.1 24 p1) ∧ (h5.2.1 24 p1) ≤ 2147483647 from ⟨by omega, by omega⟩)
      have f6 : mm_fr [] [47] h (mm_pa h5 47 5 (h5.2.1 24 p1)) := mm_fr_pa f5 (by decide)
      obtain ⟨h6, eh6⟩ : ∃ z, z = mm_pa h5 47 5 (h5.2.1 24 p1) := ⟨_, rfl⟩
      rw [← eh6] at i6 f6 ⊢
      have qh6_15 : h6.1 46 6 = h5.1 46 6 := by rw [eh6]; rfl
      have qh6_16 : h6.1 48 8 = h5.1 48 8 := by rw [eh6]; rfl
      refine mm_aload_n C (mm_dec dk_X4_fillValues 64 rfl) rfl ?_
      refine mm_getr (t := 47) C fl_X4_9 (mm_dec dk_X4_fillValues 65 rfl) rfl rfl (mm_ref i6 rfl) ?_
      refine mm_bipush C (mm_dec dk_X4_fillValues 66 rfl) ⟨by decide, by decide⟩ ?_
      refine mm_iload_n C (mm_dec dk_X4_fillValues 67 rfl) rfl ?_
      have J133 : ∀ (s133_2 : Int) (bs133_2 : 0 ≤ s133_2 ∧ s133_2 ≤ 1), mm_W x 0 0 133 [mU, mU, mU] [mI s133_2, mI 6, mR 47] h6 := by
        intro s133_2 bs133_2
        refine mm_iast C (mm_dec dk_X4_fillValues 72 rfl) rfl (by omega) (by omega) ?_
        have i7 : mm_inv (mm_pa h6 47 6 s133_2) := mm_inv_pa i6 (show -2147483648 ≤ s133_2 ∧ s133_2 ≤ 2147483647 from ⟨by omega, by omega⟩)
        have f7 : mm_fr [] [47] h (mm_pa h6 47 6 s133_2) := mm_fr_pa f6 (by decide)
        obtain ⟨h7, eh7⟩ : ∃ z, z = mm_pa h6 47 6 s133_2 := ⟨_, rfl⟩
        rw [← eh7] at i7 f7 ⊢
        have qh7_17 : h7.1 46 6 = h6.1 46 6 := by rw [eh7]; rfl
        have qh7_18 : h7.1 48 8 = h6.1 48 8 := by rw [eh7]; rfl
        exact mm_vret C T (mm_dec dk_X4_fillValues 73 rfl) (by decide : 0 ≤ 0) (by decide : 0 ≤ 0) ⟨rfl, ⟨i7, f7⟩⟩
      refine mm_if_eq (tgt := 132) C (mm_dec dk_X4_fillValues 68 rfl) (by decide) (fun c125 => ?_) (fun c125 => ?_)
      · skip
        refine mm_iconst C (mm_dec dk_X4_fillValues 71 rfl) ⟨by decide, by decide⟩ ?_
        refine mm_fgt 0 ?_
        refine mm_fgt 1 ?_
        refine mm_fgt 2 ?_
        exact J133 0 ⟨by omega, by omega⟩
      · skip
        refine mm_iconst C (mm_dec dk_X4_fillValues 69 rfl) ⟨by decide, by decide⟩ ?_
        refine mm_goto (tgt := 133) C (mm_dec dk_X4_fillValues 70 rfl) (by decide) ?_
        refine mm_fgt 0 ?_
        refine mm_fgt 1 ?_
        refine mm_fgt 2 ?_
        exact J133 1 ⟨by omega, by omega⟩
    have J64 : mm_W x 0 0 64 [mR 46, mI p1, mI (h.2.1 17 (h.2.1 23 p1))] [mI 2, mR 47] h2 := by
      refine mm_iconst C (mm_dec dk_X4_fillValues 34 rfl) ⟨by decide, by decide⟩ ?_
      refine mm_goto (tgt := 77) C (mm_dec dk_X4_fillValues 35 rfl) (by decide) ?_
      exact J77 0 ⟨by omega, by omega⟩
    refine mm_icmp_eq (tgt := 64) C (mm_dec dk_X4_fillValues 29 rfl) (by decide) (fun c53 => ?_) (fun c53 => ?_)
    · skip
      exact J64
    · skip
      refine mm_aload_n C (mm_dec dk_X4_fillValues 30 rfl) rfl ?_
      refine mm_geti C fl_X4_22 (mm_dec dk_X4_fillValues 31 rfl) rfl rfl (Or.inl rfl) ?_
      have g19 : -2147483648 ≤ (h2.1 46 7) ∧ (h2.1 46 7) ≤ 2147483647 := i2.1 46 7
      refine mm_iconst C (mm_dec dk_X4_fillValues 32 rfl) ⟨by decide, by decide⟩ ?_
      refine mm_icmp_ne (tgt := 68) C (mm_dec dk_X4_fillValues 33 rfl) (by decide) (fun c61 => ?_) (fun c61 => ?_)
      · skip
        refine mm_aload_n C (mm_dec dk_X4_fillValues 36 rfl) rfl ?_
        refine mm_geti C fl_X4_22 (mm_dec dk_X4_fillValues 37 rfl) rfl rfl (Or.inl rfl) ?_
        refine mm_aload_n C (mm_dec dk_X4_fillValues 38 rfl) rfl ?_
        refine mm_geti C fl_X4_19 (mm_dec dk_X4_fillValues 39 rfl) rfl rfl (Or.inl rfl) ?_
        refine mm_isubw C (mm_dec dk_X4_fillValues 40 rfl) ?_
        have g20 : -2147483648 ≤ (mm_w ((h2.1 46 7) - (h2.1 46 6))) ∧ (mm_w ((h2.1 46 7) - (h2.1 46 6))) < 2147483648 := mm_w_rg _
        exact J77 (mm_w ((h2.1 46 7) - (h2.1 46 6))) ⟨by omega, by omega⟩
      · skip
        exact J64
  refine mm_if_eq (tgt := 22) C (mm_dec dk_X4_fillValues 9 rfl) (by decide) (fun c15 => ?_) (fun c15 => ?_)
  · skip
    refine mm_aload_n C (mm_dec dk_X4_fillValues 12 rfl) rfl ?_
    refine mm_getr (t := 48) C fl_X4_55 (mm_dec dk_X4_fillValues 13 rfl) rfl rfl (mm_ref i0 rfl) ?_
    refine mm_cVi (rest := [mI 0, mR 47]) C1 ev_X4_137 (mm_dec dk_X4_fillValues 14 rfl) (c_X1_unkept x.2.1 hl (d - 1) (by omega) h i0 ) rfl rfl (Nat.le_of_ble_eq_true rfl) ⟨by decide, by decide⟩ rfl (fun r26 h26c hp26 => ?_) (fun _ _ q => q.elim)
    obtain ⟨b26, z26⟩ := hp26
    rw [z26]
    exact J29 r26 ⟨by omega, by omega⟩
  · skip
    refine mm_iconst C (mm_dec dk_X4_fillValues 10 rfl) ⟨by decide, by decide⟩ ?_
    refine mm_goto (tgt := 29) C (mm_dec dk_X4_fillValues 11 rfl) (by decide) ?_
    exact J29 0 ⟨by omega, by omega⟩
set_option maxRecDepth 100000 in
set_option maxHeartbeats 4000000 in
theorem c_X4_stateAt (l : Launch) (hl : l.stackTraces = false) (d : Nat) (hd : 1 ≤ d) (h : mH) (i0 : mm_inv h) (p1 : Int) (p2 : Int) : mm_Met l d yX4_stateAt cX4_stateAt 3 (some .int) [mR 46, mI p1, mI p2] h (mm_pi fun r h2 => h2 = h ∧ (((h.1 46 6) = (-1) ∧ r = 0) ∨ ((h.1 46 6) ≠ (-1) ∧ (h.1 46 6) ≤ p1 ∧ (h.1 46 7) = (-1) ∧ r = 1) ∨ ((h.1 46 6) ≠ (-1) ∧ (h.1 46 6) ≤ p1 ∧ (h.1 46 7) ≠ (-1) ∧ (h.1 46 6) ≤ (h.1 46 7) ∧ p2 ≠ 1 ∧ p2 = 2 ∧ r = 2) ∨ ((h.1 46 6) ≠ (-1) ∧ (h.1 46 6) ≤ p1 ∧ (h.1 46 7) ≠ (-1) ∧ (h.1 46 6) ≤ (h.1 46 7) ∧ p2 ≠ 1 ∧ p2 ≠ 2 ∧ (h.1 42 6) = 0 ∧ (h.2.1 47 0) ≤ 0 ∧ r = 4) ∨ ((h.1 46 6) ≠ (-1) ∧ (h.1 46 6) ≤ p1 ∧ (h.1 46 7) ≠ (-1) ∧ (h.1 46 6) ≤ (h.1 46 7) ∧ p2 ≠ 1 ∧ p2 ≠ 2 ∧ (h.1 42 6) = 0 ∧ 0 < (h.2.1 47 0) ∧ r = 3) ∨ ((h.1 46 6) ≠ (-1) ∧ (h.1 46 6) ≤ p1 ∧ (h.1 46 7) ≠ (-1) ∧ (h.1 46 6) ≤ (h.1 46 7) ∧ p2 ≠ 1 ∧ p2 ≠ 2 ∧ (h.1 42 6) ≠ 0 ∧ r = 2) ∨ ((h.1 46 6) ≠ (-1) ∧ (h.1 46 6) ≤ p1 ∧ (h.1 46 7) ≠ (-1) ∧ (h.1 46 6) ≤ (h.1 46 7) ∧ p2 = 1 ∧ r = 4) ∨ ((h.1 46 6) ≠ (-1) ∧ (h.1 46 6) ≤ p1 ∧ (h.1 46 7) ≠ (-1) ∧ (h.1 46 7) < (h.1 46 6) ∧ r = 1) ∨ ((h.1 46 6) ≠ (-1) ∧ p1 < (h.1 46 6) ∧ r = 0))) mm_nx 0 0 := by
  refine mm_ofW (ls := [mR 46, mI p1, mI p2]) hl (by decide) rfl (Nat.le_of_ble_eq_true rfl) ?_
  intro x hxl C T hnm htb
  subst hxl
  have C1 := mm_OK_le (d' := d - 1 + 1) (by omega) C
  refine mm_rng (fun hr _ => ?_)
  have ap1 : -2147483648 ≤ p1 ∧ p1 < 2147483648 := mm_ok_at hr (i := 1) rfl
  have ap2 : -2147483648 ≤ p2 ∧ p2 < 2147483648 := mm_ok_at hr (i := 2) rfl
  have f0 : mm_fr [] [] h h := mm_fr_rf
  refine mm_aload_n C (mm_dec dk_X4_stateAt 0 rfl) rfl ?_
  refine mm_geti C fl_X4_19 (mm_dec dk_X4_stateAt 1 rfl) rfl rfl (Or.inl rfl) ?_
  have g1 : -2147483648 ≤ (h.1 46 6) ∧ (h.1 46 6) ≤ 2147483647 := i0.1 46 6
  refine mm_iconst C (mm_dec dk_X4_stateAt 2 rfl) ⟨by decide, by decide⟩ ?_
  refine mm_icmp_eq (tgt := 16) C (mm_dec dk_X4_stateAt 3 rfl) (by decide) (fun c5 => ?_) (fun c5 => ?_)
  · skip
    refine mm_iconst C (mm_dec dk_X4_stateAt 8 rfl) ⟨by decide, by decide⟩ ?_
    exact mm_iret C T (mm_dec dk_X4_stateAt 9 rfl) (by decide : 0 ≤ 0) (by decide : 0 ≤ 0) ⟨_, rfl, ⟨rfl, Or.inl ⟨by omega, rfl⟩⟩⟩
  · skip
    refine mm_aload_n C (mm_dec dk_X4_stateAt 4 rfl) rfl ?_
    refine mm_geti C fl_X4_19 (mm_dec dk_X4_stateAt 5 rfl) rfl rfl (Or.inl rfl) ?_
    refine mm_iload_n C (mm_dec dk_X4_stateAt 6 rfl) rfl ?_
    refine mm_icmp_le (tgt := 18) C (mm_dec dk_X4_stateAt 7 rfl) (by decide) (fun c13 => ?_) (fun c13 => ?_)
    · skip
      refine mm_aload_n C (mm_dec dk_X4_stateAt 10 rfl) rfl ?_
      refine mm_geti C fl_X4_22 (mm_dec dk_X4_stateAt 11 rfl) rfl rfl (Or.inl rfl) ?_
      have g2 : -2147483648 ≤ (h.1 46 7) ∧ (h.1 46 7) ≤ 2147483647 := i0.1 46 7
      refine mm_iconst C (mm_dec dk_X4_stateAt 12 rfl) ⟨by decide, by decide⟩ ?_
      refine mm_icmp_eq (tgt := 37) C (mm_dec dk_X4_stateAt 13 rfl) (by decide) (fun c23 => ?_) (fun c23 => ?_)
      · skip
        refine mm_iconst C (mm_dec dk_X4_stateAt 19 rfl) ⟨by decide, by decide⟩ ?_
        exact mm_iret C T (mm_dec dk_X4_stateAt 20 rfl) (by decide : 0 ≤ 0) (by decide : 0 ≤ 0) ⟨_, rfl, ⟨rfl, Or.inr (Or.inl ⟨by omega, by omega, by omega, rfl⟩)⟩⟩
      · skip
        refine mm_aload_n C (mm_dec dk_X4_stateAt 14 rfl) rfl ?_
        refine mm_geti C fl_X4_22 (mm_dec dk_X4_stateAt 15 rfl) rfl rfl (Or.inl rfl) ?_
        refine mm_aload_n C (mm_dec dk_X4_stateAt 16 rfl) rfl ?_
        refine mm_geti C fl_X4_19 (mm_dec dk_X4_stateAt 17 rfl) rfl rfl (Or.inl rfl) ?_
        refine mm_icmp_ge (tgt := 39) C (mm_dec dk_X4_stateAt 18 rfl) (by decide) (fun c34 => ?_) (fun c34 => ?_)
        · skip
          refine mm_iload_n C (mm_dec dk_X4_stateAt 21 rfl) rfl ?_
          refine mm_iconst C (mm_dec dk_X4_stateAt 22 rfl) ⟨by decide, by decide⟩ ?_
          refine mm_icmp_ne (tgt := 46) C (mm_dec dk_X4_stateAt 23 rfl) (by decide) (fun c41 => ?_) (fun c41 => ?_)
          · skip
            refine mm_iload_n C (mm_dec dk_X4_stateAt 26 rfl) rfl ?_
            refine mm_iconst C (mm_dec dk_X4_stateAt 27 rfl) ⟨by decide, by decide⟩ ?_
            refine mm_icmp_eq (tgt := 61) C (mm_dec dk_X4_stateAt 28 rfl) (by decide) (fun c48 => ?_) (fun c48 => ?_)
            · skip
              refine mm_iconst C (mm_dec dk_X4_stateAt 33 rfl) ⟨by decide, by decide⟩ ?_
              exact mm_iret C T (mm_dec dk_X4_stateAt 34 rfl) (by decide : 0 ≤ 0) (by decide : 0 ≤ 0) ⟨_, rfl, ⟨rfl, Or.inr (Or.inr (Or.inl ⟨by omega, by omega, by omega, by omega, by omega, by omega, rfl⟩))⟩⟩
            · skip
              refine mm_aload_n C (mm_dec dk_X4_stateAt 29 rfl) rfl ?_
              refine mm_getr (t := 42) C fl_X4_46 (mm_dec dk_X4_stateAt 30 rfl) rfl rfl (mm_ref i0 rfl) ?_
              refine mm_cVi (rest := []) C1 ev_X4_152 (mm_dec dk_X4_stateAt 31 rfl) (c_X8_out x.2.1 hl (d - 1) (by omega) h i0 ) rfl rfl (Nat.le_of_ble_eq_true rfl) ⟨by decide, by decide⟩ rfl (fun r55 h55c hp55 => ?_) (fun _ _ q => q.elim)
              obtain ⟨z55, y55⟩ := hp55
              rw [z55, y55]
              have g4 : 0 ≤ (h.1 42 6) ∧ (h.1 42 6) ≤ 1 := i0.1 42 6
              refine mm_if_eq (tgt := 63) C (mm_dec dk_X4_stateAt 32 rfl) (by decide) (fun c58 => ?_) (fun c58 => ?_)
              · skip
                refine mm_aload_n C (mm_dec dk_X4_stateAt 35 rfl) rfl ?_
                refine mm_getr (t := 47) C fl_X4_9 (mm_dec dk_X4_stateAt 36 rfl) rfl rfl (mm_ref i0 rfl) ?_
                refine mm_iconst C (mm_dec dk_X4_stateAt 37 rfl) ⟨by decide, by decide⟩ ?_
                refine mm_iald C (mm_dec dk_X4_stateAt 38 rfl) rfl (by omega) (by omega) ?_
                have g5 : -2147483648 ≤ (h.2.1 47 0) ∧ (h.2.1 47 0) ≤ 2147483647 := i0.2.1 47 0
                refine mm_if_le (tgt := 76) C (mm_dec dk_X4_stateAt 39 rfl) (by decide) (fun c69 => ?_) (fun c69 => ?_)
                · skip
                  refine mm_iconst C (mm_dec dk_X4_stateAt 42 rfl) ⟨by decide, by decide⟩ ?_
                  exact mm_iret C T (mm_dec dk_X4_stateAt 43 rfl) (by decide : 0 ≤ 0) (by decide : 0 ≤ 0) ⟨_, rfl, ⟨rfl, Or.inr (Or.inr (Or.inr (Or.inl ⟨by omega, by omega, by omega, by omega, by omega, by omega, by omega, by omega, rfl⟩)))⟩⟩
                · skip
                  refine mm_iconst C (mm_dec dk_X4_stateAt 40 rfl) ⟨by decide, by decide⟩ ?_
                  refine mm_goto (tgt := 77) C (mm_dec dk_X4_stateAt 41 rfl) (by decide) ?_
                  exact mm_iret C T (mm_dec dk_X4_stateAt 43 rfl) (by decide : 0 ≤ 0) (by decide : 0 ≤ 0) ⟨_, rfl, ⟨rfl, Or.inr (Or.inr (Or.inr (Or.inr (Or.inl ⟨by omega, by omega, by omega, by omega, by omega, by omega, by omega, by omega, rfl⟩))))⟩⟩
              · skip
                refine mm_iconst C (mm_dec dk_X4_stateAt 33 rfl) ⟨by decide, by decide⟩ ?_
                exact mm_iret C T (mm_dec dk_X4_stateAt 34 rfl) (by decide : 0 ≤ 0) (by decide : 0 ≤ 0) ⟨_, rfl, ⟨rfl, Or.inr (Or.inr (Or.inr (Or.inr (Or.inr (Or.inl ⟨by omega, by omega, by omega, by omega, by omega, by omega, by omega, rfl⟩)))))⟩⟩
          · skip
            refine mm_iconst C (mm_dec dk_X4_stateAt 24 rfl) ⟨by decide, by decide⟩ ?_
            exact mm_iret C T (mm_dec dk_X4_stateAt 25 rfl) (by decide : 0 ≤ 0) (by decide : 0 ≤ 0) ⟨_, rfl, ⟨rfl, Or.inr (Or.inr (Or.inr (Or.inr (Or.inr (Or.inr (Or.inl ⟨by omega, by omega, by omega, by omega, by omega, rfl⟩))))))⟩⟩
        · skip
          refine mm_iconst C (mm_dec dk_X4_stateAt 19 rfl) ⟨by decide, by decide⟩ ?_
          exact mm_iret C T (mm_dec dk_X4_stateAt 20 rfl) (by decide : 0 ≤ 0) (by decide : 0 ≤ 0) ⟨_, rfl, ⟨rfl, Or.inr (Or.inr (Or.inr (Or.inr (Or.inr (Or.inr (Or.inr (Or.inl ⟨by omega, by omega, by omega, by omega, rfl⟩)))))))⟩⟩
    · skip
      refine mm_iconst C (mm_dec dk_X4_stateAt 8 rfl) ⟨by decide, by decide⟩ ?_
      exact mm_iret C T (mm_dec dk_X4_stateAt 9 rfl) (by decide : 0 ≤ 0) (by decide : 0 ≤ 0) ⟨_, rfl, ⟨rfl, Or.inr (Or.inr (Or.inr (Or.inr (Or.inr (Or.inr (Or.inr (Or.inr (⟨by omega, by omega, rfl⟩))))))))⟩⟩
set_option maxRecDepth 100000 in
set_option maxHeartbeats 4000000 in
theorem c_X6_verdictOn (l : Launch) (hl : l.stackTraces = false) (d : Nat) (hd : 1 ≤ d) (h : mH) (i0 : mm_inv h) (p1 : Int) (p2 : Int) (bp1 : 0 ≤ p1 ∧ p1 ≤ 39) : mm_Met l d yX6_verdictOn cX6_verdictOn 6 (some .int) [mR 30, mI p1, mI p2] h (mm_pi fun r h2 => (-2147483648 ≤ r ∧ r ≤ 2147483647) ∧ h2 = h) mm_nx 0 0 := by
  refine mm_ofW (ls := [mR 30, mI p1, mI p2, mU, mU, mU]) hl (by decide) rfl (Nat.le_of_ble_eq_true rfl) ?_
  intro x hxl C T hnm htb
  subst hxl
  have C1 := mm_OK_le (d' := d - 1 + 1) (by omega) C
  refine mm_rng (fun hr _ => ?_)
  have ap1 : -2147483648 ≤ p1 ∧ p1 < 2147483648 := mm_ok_at hr (i := 1) rfl
  have ap2 : -2147483648 ≤ p2 ∧ p2 < 2147483648 := mm_ok_at hr (i := 2) rfl
  have f0 : mm_fr [] [] h h := mm_fr_rf
  refine mm_iconst C (mm_dec dk_X6_verdictOn 0 rfl) ⟨by decide, by decide⟩ ?_
  refine mm_istore_nL (ls2 := [mR 30, mI p1, mI p2, mI (-1), mU, mU]) C (mm_dec dk_X6_verdictOn 1 rfl) (by decide) rfl ?_
  refine mm_iconst C (mm_dec dk_X6_verdictOn 2 rfl) ⟨by decide, by decide⟩ ?_
  refine mm_istoreL (ls2 := [mR 30, mI p1, mI p2, mI (-1), mI 0, mU]) C (mm_dec dk_X6_verdictOn 3 rfl) (by decide) rfl ?_
  refine mm_iconst C (mm_dec dk_X6_verdictOn 4 rfl) ⟨by decide, by decide⟩ ?_
  have J8 : ∀ (n : Nat) (x8_3 : Int) (bx8_3 : -1 ≤ x8_3 ∧ x8_3 ≤ 2147483647) (x8_4 : Int) (bx8_4 : -2147483648 ≤ x8_4 ∧ x8_4 ≤ 2147483647) (x8_5 : Int) (bx8_5 : 0 ≤ x8_5 ∧ x8_5 ≤ 40), (40 - x8_5 : Int) < n → mm_W x 0 0 8 [mR 30, mI p1, mI p2, mI x8_3, mI x8_4, mI x8_5] [] h := by
    intro n
    induction n with
    | zero =>
      intro x8_3 bx8_3 x8_4 bx8_4 x8_5 bx8_5 hm
      exfalso; omega
    | succ n ih8 =>
      intro x8_3 bx8_3 x8_4 bx8_4 x8_5 bx8_5 hm8
      refine mm_iload C (mm_dec dk_X6_verdictOn 6 rfl) rfl ?_
      refine mm_aload_n C (mm_dec dk_X6_verdictOn 7 rfl) rfl ?_
      refine mm_geti C fl_X6_49 (mm_dec dk_X6_verdictOn 8 rfl) rfl rfl (Or.inl rfl) ?_
      have g1 : 0 ≤ (h.1 30 12) ∧ (h.1 30 12) ≤ 40 := i0.1 30 12
      refine mm_icmp_ge (tgt := 62) C (mm_dec dk_X6_verdictOn 9 rfl) (by decide) (fun c14 => ?_) (fun c14 => ?_)
      · skip
        refine mm_iload C (mm_dec dk_X6_verdictOn 34 rfl) rfl ?_
        exact mm_iret C T (mm_dec dk_X6_verdictOn 35 rfl) (by decide : 0 ≤ 0) (by decide : 0 ≤ 0) ⟨_, rfl, ⟨⟨by omega, by omega⟩, rfl⟩⟩
      · skip
        refine mm_aload_n C (mm_dec dk_X6_verdictOn 10 rfl) rfl ?_
        refine mm_iload C (mm_dec dk_X6_verdictOn 11 rfl) rfl ?_
        refine mm_iload_n C (mm_dec dk_X6_verdictOn 12 rfl) rfl ?_
        refine mm_iload_n C (mm_dec dk_X6_verdictOn 13 rfl) rfl ?_
        refine mm_cVi (rest := []) C1 ev_X6_59 (mm_dec dk_X6_verdictOn 14 rfl) (c_X6_isUpheld x.2.1 hl (d - 1) (by omega) h i0 x8_5 p1 p2 ⟨by omega, by omega⟩ ⟨by omega, by omega⟩) rfl rfl (Nat.le_of_ble_eq_true rfl) ⟨by decide, by decide⟩ rfl (fun r22 h22c hp22 => ?_) (fun _ _ q => q.elim)
        obtain ⟨z22, y22⟩ := hp22
        rw [z22]
        have g3 : -2147483648 ≤ (h.2.1 37 x8_5) ∧ (h.2.1 37 x8_5) ≤ 2147483647 := i0.2.1 37 x8_5
        have g4 : -2147483648 ≤ (h.2.1 40 x8_5) ∧ (h.2.1 40 x8_5) ≤ 2147483647 := i0.2.1 40 x8_5
        have g5 : -2147483648 ≤ (h.2.1 38 x8_5) ∧ (h.2.1 38 x8_5) ≤ 2147483647 := i0.2.1 38 x8_5
        have J56 : ∀ (x56_3 : Int) (bx56_3 : -1 ≤ x56_3 ∧ x56_3 ≤ 2147483647) (x56_4 : Int) (bx56_4 : -2147483648 ≤ x56_4 ∧ x56_4 ≤ 2147483647), mm_W x 0 0 56 [mR 30, mI p1, mI p2, mI x56_3, mI x56_4, mI x8_5] [] h := by
          intro x56_3 bx56_3 x56_4 bx56_4
          refine mm_iincL (ls2 := [mR 30, mI p1, mI p2, mI x56_3, mI x56_4, mI (x8_5 + 1)]) C (mm_dec dk_X6_verdictOn 32 rfl) rfl (by decide) ⟨by omega, by omega⟩ rfl ?_
          refine mm_goto (tgt := 8) C (mm_dec dk_X6_verdictOn 33 rfl) (by decide) ?_
          exact ih8 x56_3 ⟨by omega, by omega⟩ x56_4 ⟨by omega, by omega⟩ (x8_5 + 1) ⟨by omega, by omega⟩ (by omega)
        refine mm_if_eq (tgt := 56) C (mm_dec dk_X6_verdictOn 15 rfl) (by decide) (fun c25 => ?_) (fun c25 => ?_)
        · skip
          exact J56 x8_3 ⟨by omega, by omega⟩ x8_4 ⟨by omega, by omega⟩
        · skip
          refine mm_aload_n C (mm_dec dk_X6_verdictOn 16 rfl) rfl ?_
          refine mm_getr (t := 41) C fl_X6_46 (mm_dec dk_X6_verdictOn 17 rfl) rfl rfl (mm_ref i0 rfl) ?_
          refine mm_iload C (mm_dec dk_X6_verdictOn 18 rfl) rfl ?_
          refine mm_iald C (mm_dec dk_X6_verdictOn 19 rfl) rfl (by omega) (by omega) ?_
          have g6 : -2147483648 ≤ (h.2.1 41 x8_5) ∧ (h.2.1 41 x8_5) ≤ 2147483647 := i0.2.1 41 x8_5
          refine mm_iload_n C (mm_dec dk_X6_verdictOn 20 rfl) rfl ?_
          refine mm_icmp_le (tgt := 56) C (mm_dec dk_X6_verdictOn 21 rfl) (by decide) (fun c36 => ?_) (fun c36 => ?_)
          · skip
            exact J56 x8_3 ⟨by omega, by omega⟩ x8_4 ⟨by omega, by omega⟩
          · skip
            refine mm_aload_n C (mm_dec dk_X6_verdictOn 22 rfl) rfl ?_
            refine mm_getr (t := 41) C fl_X6_46 (mm_dec dk_X6_verdictOn 23 rfl) rfl rfl (mm_ref i0 rfl) ?_
            refine mm_iload C (mm_dec dk_X6_verdictOn 24 rfl) rfl ?_
            refine mm_iald C (mm_dec dk_X6_verdictOn 25 rfl) rfl (by omega) (by omega) ?_
            refine mm_istore_nL (ls2 := [mR 30, mI p1, mI p2, mI (h.2.1 41 x8_5), mI x8_4, mI x8_5]) C (mm_dec dk_X6_verdictOn 26 rfl) (by decide) rfl ?_
            refine mm_aload_n C (mm_dec dk_X6_verdictOn 27 rfl) rfl ?_
            refine mm_getr (t := 38) C fl_X6_37 (mm_dec dk_X6_verdictOn 28 rfl) rfl rfl (mm_ref i0 rfl) ?_
            refine mm_iload C (mm_dec dk_X6_verdictOn 29 rfl) rfl ?_
            refine mm_iald C (mm_dec dk_X6_verdictOn 30 rfl) rfl (by omega) (by omega) ?_
            refine mm_istoreL (ls2 := [mR 30, mI p1, mI p2, mI (h.2.1 41 x8_5), mI (h.2.1 38 x8_5), mI x8_5]) C (mm_dec dk_X6_verdictOn 31 rfl) (by decide) rfl ?_
            exact J56 (h.2.1 41 x8_5) ⟨by omega, by omega⟩ (h.2.1 38 x8_5) ⟨by omega, by omega⟩
  refine mm_istoreL (ls2 := [mR 30, mI p1, mI p2, mI (-1), mI 0, mI 0]) C (mm_dec dk_X6_verdictOn 5 rfl) (by decide) rfl ?_
  exact J8 (((40 - 0) : Int) + 1).toNat (-1) ⟨by omega, by omega⟩ 0 ⟨by omega, by omega⟩ 0 ⟨by omega, by omega⟩ (by omega)
set_option maxRecDepth 100000 in
set_option maxHeartbeats 4000000 in
theorem c_X6_addedTo (l : Launch) (hl : l.stackTraces = false) (d : Nat) (hd : 1 ≤ d) (h : mH) (i0 : mm_inv h) (p1 : Int) (p2 : Int) (bp1 : 0 ≤ p1 ∧ p1 ≤ 39) : mm_Met l d yX6_addedTo cX6_addedTo 5 (some .int) [mR 30, mI p1, mI p2] h (mm_pi fun r h2 => (-2147483648 ≤ r ∧ r ≤ 2147483647) ∧ h2 = h) mm_nx 0 0 := by
  refine mm_ofW (ls := [mR 30, mI p1, mI p2, mU, mU]) hl (by decide) rfl (Nat.le_of_ble_eq_true rfl) ?_
  intro x hxl C T hnm htb
  subst hxl
  have C1 := mm_OK_le (d' := d - 1 + 1) (by omega) C
  refine mm_rng (fun hr _ => ?_)
  have ap1 : -2147483648 ≤ p1 ∧ p1 < 2147483648 := mm_ok_at hr (i := 1) rfl
  have ap2 : -2147483648 ≤ p2 ∧ p2 < 2147483648 := mm_ok_at hr (i := 2) rfl
  have f0 : mm_fr [] [] h h := mm_fr_rf
  refine mm_iconst C (mm_dec dk_X6_addedTo 0 rfl) ⟨by decide, by decide⟩ ?_
  refine mm_istore_nL (ls2 := [mR 30, mI p1, mI p2, mI 0, mU]) C (mm_dec dk_X6_addedTo 1 rfl) (by decide) rfl ?_
  refine mm_iconst C (mm_dec dk_X6_addedTo 2 rfl) ⟨by decide, by decide⟩ ?_
  have J5 : ∀ (n : Nat) (x5_3 : Int) (bx5_3 : -2147483648 ≤ x5_3 ∧ x5_3 ≤ 2147483647) (x5_4 : Int) (bx5_4 : 0 ≤ x5_4 ∧ x5_4 ≤ 40), (40 - x5_4 : Int) < n → mm_W x 0 0 5 [mR 30, mI p1, mI p2, mI x5_3, mI x5_4] [] h := by
    intro n
    induction n with
    | zero =>
      intro x5_3 bx5_3 x5_4 bx5_4 hm
      exfalso; omega
    | succ n ih5 =>
      intro x5_3 bx5_3 x5_4 bx5_4 hm5
      refine mm_iload C (mm_dec dk_X6_addedTo 4 rfl) rfl ?_
      refine mm_aload_n C (mm_dec dk_X6_addedTo 5 rfl) rfl ?_
      refine mm_geti C fl_X6_49 (mm_dec dk_X6_addedTo 6 rfl) rfl rfl (Or.inl rfl) ?_
      have g1 : 0 ≤ (h.1 30 12) ∧ (h.1 30 12) ≤ 40 := i0.1 30 12
      refine mm_icmp_ge (tgt := 41) C (mm_dec dk_X6_addedTo 7 rfl) (by decide) (fun c11 => ?_) (fun c11 => ?_)
      · skip
        refine mm_iload_n C (mm_dec dk_X6_addedTo 23 rfl) rfl ?_
        exact mm_iret C T (mm_dec dk_X6_addedTo 24 rfl) (by decide : 0 ≤ 0) (by decide : 0 ≤ 0) ⟨_, rfl, ⟨⟨by omega, by omega⟩, rfl⟩⟩
      · skip
        refine mm_aload_n C (mm_dec dk_X6_addedTo 8 rfl) rfl ?_
        refine mm_iload C (mm_dec dk_X6_addedTo 9 rfl) rfl ?_
        refine mm_iload_n C (mm_dec dk_X6_addedTo 10 rfl) rfl ?_
        refine mm_iload_n C (mm_dec dk_X6_addedTo 11 rfl) rfl ?_
        refine mm_cVi (rest := []) C1 ev_X6_59 (mm_dec dk_X6_addedTo 12 rfl) (c_X6_isUpheld x.2.1 hl (d - 1) (by omega) h i0 x5_4 p1 p2 ⟨by omega, by omega⟩ ⟨by omega, by omega⟩) rfl rfl (Nat.le_of_ble_eq_true rfl) ⟨by decide, by decide⟩ rfl (fun r19 h19c hp19 => ?_) (fun _ _ q => q.elim)
        obtain ⟨z19, y19⟩ := hp19
        rw [z19]
        have g3 : -2147483648 ≤ (h.2.1 37 x5_4) ∧ (h.2.1 37 x5_4) ≤ 2147483647 := i0.2.1 37 x5_4
        have g4 : -2147483648 ≤ (h.2.1 40 x5_4) ∧ (h.2.1 40 x5_4) ≤ 2147483647 := i0.2.1 40 x5_4
        have g5 : -2147483648 ≤ (h.2.1 38 x5_4) ∧ (h.2.1 38 x5_4) ≤ 2147483647 := i0.2.1 38 x5_4
        have J35 : ∀ (x35_3 : Int) (bx35_3 : -2147483648 ≤ x35_3 ∧ x35_3 ≤ 2147483647), mm_W x 0 0 35 [mR 30, mI p1, mI p2, mI x35_3, mI x5_4] [] h := by
          intro x35_3 bx35_3
          refine mm_iincL (ls2 := [mR 30, mI p1, mI p2, mI x35_3, mI (x5_4 + 1)]) C (mm_dec dk_X6_addedTo 21 rfl) rfl (by decide) ⟨by omega, by omega⟩ rfl ?_
          refine mm_goto (tgt := 5) C (mm_dec dk_X6_addedTo 22 rfl) (by decide) ?_
          exact ih5 x35_3 ⟨by omega, by omega⟩ (x5_4 + 1) ⟨by omega, by omega⟩ (by omega)
        refine mm_if_eq (tgt := 35) C (mm_dec dk_X6_addedTo 13 rfl) (by decide) (fun c22 => ?_) (fun c22 => ?_)
        · skip
          exact J35 x5_3 ⟨by omega, by omega⟩
        · skip
          refine mm_iload_n C (mm_dec dk_X6_addedTo 14 rfl) rfl ?_
          refine mm_aload_n C (mm_dec dk_X6_addedTo 15 rfl) rfl ?_
          refine mm_getr (t := 39) C fl_X6_40 (mm_dec dk_X6_addedTo 16 rfl) rfl rfl (mm_ref i0 rfl) ?_
          refine mm_iload C (mm_dec dk_X6_addedTo 17 rfl) rfl ?_
          refine mm_iald C (mm_dec dk_X6_addedTo 18 rfl) rfl (by omega) (by omega) ?_
          have g6 : -2147483648 ≤ (h.2.1 39 x5_4) ∧ (h.2.1 39 x5_4) ≤ 2147483647 := i0.2.1 39 x5_4
          refine mm_iaddw C (mm_dec dk_X6_addedTo 19 rfl) ?_
          have g7 : -2147483648 ≤ (mm_w (x5_3 + (h.2.1 39 x5_4))) ∧ (mm_w (x5_3 + (h.2.1 39 x5_4))) < 2147483648 := mm_w_rg _
          refine mm_istore_nL (ls2 := [mR 30, mI p1, mI p2, mI (mm_w (x5_3 + (h.2.1 39 x5_4))), mI x5_4]) C (mm_dec dk_X6_addedTo 20 rfl) (by decide) rfl ?_
          exact J35 (mm_w (x5_3 + (h.2.1 39 x5_4))) ⟨by omega, by omega⟩
  refine mm_istoreL (ls2 := [mR 30, mI p1, mI p2, mI 0, mI 0]) C (mm_dec dk_X6_addedTo 3 rfl) (by decide) rfl ?_
  exact J5 (((40 - 0) : Int) + 1).toNat 0 ⟨by omega, by omega⟩ 0 ⟨by omega, by omega⟩ (by omega)
set_option maxRecDepth 100000 in
set_option maxHeartbeats 4000000 in
theorem c_X7_isNumber (l : Launch) (hl : l.stackTraces = false) (d : Nat) (hd : 1 ≤ d) (h : mH) (i0 : mm_inv h) : mm_Met l d yX7_isNumber cX7_isNumber 1 (some .boolean) [mR 63] h (mm_pi fun r h2 => (0 ≤ r ∧ r ≤ 1) ∧ mm_inv h2 ∧ mm_fr [(63, 9), (63, 10)] [] h h2) mm_nx 0 0 := by
  refine mm_ofW (ls := [mR 63]) hl (by decide) rfl (Nat.le_of_ble_eq_true rfl) ?_
  intro x hxl C T hnm htb
  subst hxl
  have C1 := mm_OK_le (d' := d - 1 + 1) (by omega) C
  have f0 : mm_fr [(63, 9), (63, 10)] [] h h := mm_fr_rf
  refine mm_aload_n C (mm_dec dk_X7_isNumber 0 rfl) rfl ?_
  refine mm_geti C fl_X7_25 (mm_dec dk_X7_isNumber 1 rfl) rfl rfl (Or.inl rfl) ?_
  have g1 : -2147483648 ≤ (h.1 63 5) ∧ (h.1 63 5) ≤ 2147483647 := i0.1 63 5
  refine mm_iconst C (mm_dec dk_X7_isNumber 2 rfl) ⟨by decide, by decide⟩ ?_
  refine mm_icmp_eq (tgt := 14) C (mm_dec dk_X7_isNumber 3 rfl) (by decide) (fun c5 => ?_) (fun c5 => ?_)
  · skip
    refine mm_aload_n C (mm_dec dk_X7_isNumber 8 rfl) rfl ?_
    refine mm_geti C fl_X7_34 (mm_dec dk_X7_isNumber 9 rfl) rfl rfl (Or.inl rfl) ?_
    have g2 : 0 ≤ (h.1 63 8) ∧ (h.1 63 8) ≤ 500 := i0.1 63 8
    refine mm_aload_n C (mm_dec dk_X7_isNumber 10 rfl) rfl ?_
    refine mm_geti C fl_X7_31 (mm_dec dk_X7_isNumber 11 rfl) rfl rfl (Or.inl rfl) ?_
    have g3 : 0 ≤ (h.1 63 7) ∧ (h.1 63 7) ≤ 500 := i0.1 63 7
    refine mm_isub C (mm_dec dk_X7_isNumber 12 rfl) ⟨by omega, by omega⟩ ?_
    refine mm_iconst C (mm_dec dk_X7_isNumber 13 rfl) ⟨by decide, by decide⟩ ?_
    have J40 : ∀ (s40_0 : Int) (bs40_0 : 0 ≤ s40_0 ∧ s40_0 ≤ 1) (h40_ : mH) (i40_ : mm_inv h40_) (f40_ : mm_fr [(63, 9), (63, 10)] [] h h40_), mm_W x 0 0 40 [mU] [mI s40_0] h40_ := by
      intro s40_0 bs40_0 h40_ i40_ f40_
      exact mm_zret C T (mm_dec dk_X7_isNumber 22 rfl) (by decide : 0 ≤ 0) (by decide : 0 ≤ 0) (by omega) ⟨_, rfl, ⟨⟨by omega, by omega⟩, i40_, f40_⟩⟩
    have J35 : ∀ (h35_ : mH) (i35_ : mm_inv h35_) (f35_ : mm_fr [(63, 9), (63, 10)] [] h h35_), mm_W x 0 0 35 [mU] [] h35_ := by
      intro h35_ i35_ f35_
      refine mm_iconst C (mm_dec dk_X7_isNumber 19 rfl) ⟨by decide, by decide⟩ ?_
      refine mm_goto (tgt := 40) C (mm_dec dk_X7_isNumber 20 rfl) (by decide) ?_
      exact J40 1 ⟨by omega, by omega⟩ h35_ i35_ f35_
    refine mm_icmp_le (tgt := 35) C (mm_dec dk_X7_isNumber 14 rfl) (by decide) (fun c24 => ?_) (fun c24 => ?_)
    · skip
      refine mm_fgt 0 ?_
      exact J35 h i0 f0
    · skip
      refine mm_aload_n C (mm_dec dk_X7_isNumber 15 rfl) rfl ?_
      refine mm_iconst C (mm_dec dk_X7_isNumber 16 rfl) ⟨by decide, by decide⟩ ?_
      refine mm_cVi (rest := []) C1 ev_X7_65 (mm_dec dk_X7_isNumber 17 rfl) (c_X7_refuse x.2.1 hl (d - 1) (by omega) h i0 2) rfl rfl (Nat.le_of_ble_eq_true rfl) ⟨by decide, by decide⟩ rfl (fun r29 h29c hp29 => ?_) (fun _ _ q => q.elim)
      obtain ⟨b29, i29c, g29c⟩ := hp29
      have f29c : mm_fr [(63, 9), (63, 10)] [] h h29c := mm_fr_tr f0 g29c (by decide +kernel)
      have q29c_5 : h29c.1 63 5 = h.1 63 5 := g29c.1 63 5 (by decide)
      have q29c_6 : h29c.1 63 7 = h.1 63 7 := g29c.1 63 7 (by decide)
      have q29c_7 : h29c.1 63 8 = h.1 63 8 := g29c.1 63 8 (by decide)
      refine mm_if_eq (tgt := 39) C (mm_dec dk_X7_isNumber 18 rfl) (by decide) (fun c32 => ?_) (fun c32 => ?_)
      · skip
        refine mm_iconst C (mm_dec dk_X7_isNumber 21 rfl) ⟨by decide, by decide⟩ ?_
        refine mm_fgt 0 ?_
        exact J40 0 ⟨by omega, by omega⟩ h29c i29c f29c
      · skip
        exfalso; omega
  · skip
    refine mm_aload_n C (mm_dec dk_X7_isNumber 4 rfl) rfl ?_
    refine mm_iconst C (mm_dec dk_X7_isNumber 5 rfl) ⟨by decide, by decide⟩ ?_
    refine mm_cVi (rest := []) C1 ev_X7_65 (mm_dec dk_X7_isNumber 6 rfl) (c_X7_refuse x.2.1 hl (d - 1) (by omega) h i0 1) rfl rfl (Nat.le_of_ble_eq_true rfl) ⟨by decide, by decide⟩ rfl (fun r10 h10c hp10 => ?_) (fun _ _ q => q.elim)
    obtain ⟨b10, i10c, g10c⟩ := hp10
    have f10c : mm_fr [(63, 9), (63, 10)] [] h h10c := mm_fr_tr f0 g10c (by decide +kernel)
    have q10c_9 : h10c.1 63 5 = h.1 63 5 := g10c.1 63 5 (by decide)
    exact mm_zret C T (mm_dec dk_X7_isNumber 7 rfl) (by decide : 0 ≤ 0) (by decide : 0 ≤ 0) (by omega) ⟨_, rfl, ⟨⟨by omega, by omega⟩, i10c, f10c⟩⟩
set_option maxRecDepth 100000 in
set_option maxHeartbeats 4000000 in
theorem c_X8_joined (l : Launch) (hl : l.stackTraces = false) (d : Nat) (hd : 1 ≤ d) (h : mH) (i0 : mm_inv h) (p0 : Int) (p1 : Int) (p2 : Int) : mm_Met l d yX8_joined cX8_joined 3 (some .int) [mI p0, mI p1, mI p2] h (mm_pi fun r h2 => (-2147483648 ≤ r ∧ r ≤ 2147483647) ∧ h2 = h) mm_nx 0 0 := by
  refine mm_ofW (ls := [mI p0, mI p1, mI p2]) hl (by decide) rfl (Nat.le_of_ble_eq_true rfl) ?_
  intro x hxl C T hnm htb
  subst hxl
  have C1 := mm_OK_le (d' := d - 1 + 1) (by omega) C
  refine mm_rng (fun hr _ => ?_)
  have ap0 : -2147483648 ≤ p0 ∧ p0 < 2147483648 := mm_ok_at hr (i := 0) rfl
  have ap1 : -2147483648 ≤ p1 ∧ p1 < 2147483648 := mm_ok_at hr (i := 1) rfl
  have ap2 : -2147483648 ≤ p2 ∧ p2 < 2147483648 := mm_ok_at hr (i := 2) rfl
  have f0 : mm_fr [] [] h h := mm_fr_rf
  refine mm_iload_n C (mm_dec dk_X8_joined 0 rfl) rfl ?_
  refine mm_table (t0 := 148) [52, 69, 86, 100, 114, 118, 122, 126, 138] C (mm_dec dk_X8_joined 1 rfl) (by decide) (by decide) (by decide +kernel) (fun c1 => ?_) (fun k1 hk1 c1 => ?_)
  · skip
    refine mm_iconst C (mm_dec dk_X8_joined 62 rfl) ⟨by decide, by decide⟩ ?_
    exact mm_iret C T (mm_dec dk_X8_joined 63 rfl) (by decide : 0 ≤ 0) (by decide : 0 ≤ 0) ⟨_, rfl, ⟨⟨by omega, by omega⟩, rfl⟩⟩
  · have hq1 : k1 < 9 := hk1
    rcases (by omega : k1 = 0 ∨ k1 = 1 ∨ k1 = 2 ∨ k1 = 3 ∨ k1 = 4 ∨ k1 = 5 ∨ k1 = 6 ∨ k1 = 7 ∨ k1 = 8) with rfl | rfl | rfl | rfl | rfl | rfl | rfl | rfl | rfl
    · show mm_W x 0 0 52 _ _ _
      refine mm_iload_n C (mm_dec dk_X8_joined 2 rfl) rfl ?_
      have J65 : ∀ (s65_0 : Int) (bs65_0 : 0 ≤ s65_0 ∧ s65_0 ≤ 1), mm_W x 0 0 65 [mU, mU, mU] [mI s65_0] h := by
        intro s65_0 bs65_0
        refine mm_cSi (rest := []) C1 es_X8_56 (mm_dec dk_X8_joined 9 rfl) (c_X8_truth x.2.1 hl (d - 1) (by omega) h i0 s65_0 ⟨by omega, by omega⟩) rfl (Nat.le_of_ble_eq_true rfl) ⟨by decide, by decide⟩ rfl (fun r65 h65c hp65 => ?_) (fun _ _ q => q.elim)
        obtain ⟨z65, y65⟩ := hp65
        rw [z65]
        exact mm_iret C T (mm_dec dk_X8_joined 10 rfl) (by decide : 0 ≤ 0) (by decide : 0 ≤ 0) ⟨_, rfl, ⟨⟨by omega, by omega⟩, rfl⟩⟩
      have J60 : mm_W x 0 0 60 [mU, mU, mU] [] h := by
        refine mm_iconst C (mm_dec dk_X8_joined 6 rfl) ⟨by decide, by decide⟩ ?_
        refine mm_goto (tgt := 65) C (mm_dec dk_X8_joined 7 rfl) (by decide) ?_
        exact J65 1 ⟨by omega, by omega⟩
      refine mm_if_ne (tgt := 60) C (mm_dec dk_X8_joined 3 rfl) (by decide) (fun c53 => ?_) (fun c53 => ?_)
      · skip
        refine mm_fgt 0 ?_
        refine mm_fgt 1 ?_
        refine mm_fgt 2 ?_
        exact J60
      · skip
        refine mm_iload_n C (mm_dec dk_X8_joined 4 rfl) rfl ?_
        refine mm_if_eq (tgt := 64) C (mm_dec dk_X8_joined 5 rfl) (by decide) (fun c57 => ?_) (fun c57 => ?_)
        · skip
          refine mm_iconst C (mm_dec dk_X8_joined 8 rfl) ⟨by decide, by decide⟩ ?_
          refine mm_fgt 0 ?_
          refine mm_fgt 1 ?_
          refine mm_fgt 2 ?_
          exact J65 0 ⟨by omega, by omega⟩
        · skip
          refine mm_fgt 0 ?_
          refine mm_fgt 1 ?_
          refine mm_fgt 2 ?_
          exact J60
    · show mm_W x 0 0 69 _ _ _
      refine mm_iload_n C (mm_dec dk_X8_joined 11 rfl) rfl ?_
      have J82 : ∀ (s82_0 : Int) (bs82_0 : 0 ≤ s82_0 ∧ s82_0 ≤ 1), mm_W x 0 0 82 [mU, mU, mU] [mI s82_0] h := by
        intro s82_0 bs82_0
        refine mm_cSi (rest := []) C1 es_X8_56 (mm_dec dk_X8_joined 18 rfl) (c_X8_truth x.2.1 hl (d - 1) (by omega) h i0 s82_0 ⟨by omega, by omega⟩) rfl (Nat.le_of_ble_eq_true rfl) ⟨by decide, by decide⟩ rfl (fun r82 h82c hp82 => ?_) (fun _ _ q => q.elim)
        obtain ⟨z82, y82⟩ := hp82
        rw [z82]
        exact mm_iret C T (mm_dec dk_X8_joined 19 rfl) (by decide : 0 ≤ 0) (by decide : 0 ≤ 0) ⟨_, rfl, ⟨⟨by omega, by omega⟩, rfl⟩⟩
      have J81 : mm_W x 0 0 81 [mU, mU, mU] [] h := by
        refine mm_iconst C (mm_dec dk_X8_joined 17 rfl) ⟨by decide, by decide⟩ ?_
        exact J82 0 ⟨by omega, by omega⟩
      refine mm_if_eq (tgt := 81) C (mm_dec dk_X8_joined 12 rfl) (by decide) (fun c70 => ?_) (fun c70 => ?_)
      · skip
        refine mm_fgt 0 ?_
        refine mm_fgt 1 ?_
        refine mm_fgt 2 ?_
        exact J81
      · skip
        refine mm_iload_n C (mm_dec dk_X8_joined 13 rfl) rfl ?_
        refine mm_if_eq (tgt := 81) C (mm_dec dk_X8_joined 14 rfl) (by decide) (fun c74 => ?_) (fun c74 => ?_)
        · skip
          refine mm_fgt 0 ?_
          refine mm_fgt 1 ?_
          refine mm_fgt 2 ?_
          exact J81
        · skip
          refine mm_iconst C (mm_dec dk_X8_joined 15 rfl) ⟨by decide, by decide⟩ ?_
          refine mm_goto (tgt := 82) C (mm_dec dk_X8_joined 16 rfl) (by decide) ?_
          refine mm_fgt 0 ?_
          refine mm_fgt 1 ?_
          refine mm_fgt 2 ?_
          exact J82 1 ⟨by omega, by omega⟩
    · show mm_W x 0 0 86 _ _ _
      refine mm_iload_n C (mm_dec dk_X8_joined 20 rfl) rfl ?_
      refine mm_iload_n C (mm_dec dk_X8_joined 21 rfl) rfl ?_
      have J96 : ∀ (s96_0 : Int) (bs96_0 : 0 ≤ s96_0 ∧ s96_0 ≤ 1), mm_W x 0 0 96 [mU, mU, mU] [mI s96_0] h := by
        intro s96_0 bs96_0
        refine mm_cSi (rest := []) C1 es_X8_56 (mm_dec dk_X8_joined 26 rfl) (c_X8_truth x.2.1 hl (d - 1) (by omega) h i0 s96_0 ⟨by omega, by omega⟩) rfl (Nat.le_of_ble_eq_true rfl) ⟨by decide, by decide⟩ rfl (fun r96 h96c hp96 => ?_) (fun _ _ q => q.elim)
        obtain ⟨z96, y96⟩ := hp96
        rw [z96]
        exact mm_iret C T (mm_dec dk_X8_joined 27 rfl) (by decide : 0 ≤ 0) (by decide : 0 ≤ 0) ⟨_, rfl, ⟨⟨by omega, by omega⟩, rfl⟩⟩
      refine mm_icmp_ge (tgt := 95) C (mm_dec dk_X8_joined 22 rfl) (by decide) (fun c88 => ?_) (fun c88 => ?_)
      · skip
        refine mm_iconst C (mm_dec dk_X8_joined 25 rfl) ⟨by decide, by decide⟩ ?_
        refine mm_fgt 0 ?_
        refine mm_fgt 1 ?_
        refine mm_fgt 2 ?_
        exact J96 0 ⟨by omega, by omega⟩
      · skip
        refine mm_iconst C (mm_dec dk_X8_joined 23 rfl) ⟨by decide, by decide⟩ ?_
        refine mm_goto (tgt := 96) C (mm_dec dk_X8_joined 24 rfl) (by decide) ?_
        refine mm_fgt 0 ?_
        refine mm_fgt 1 ?_
        refine mm_fgt 2 ?_
        exact J96 1 ⟨by omega, by omega⟩
    · show mm_W x 0 0 100 _ _ _
      refine mm_iload_n C (mm_dec dk_X8_joined 28 rfl) rfl ?_
      refine mm_iload_n C (mm_dec dk_X8_joined 29 rfl) rfl ?_
      have J110 : ∀ (s110_0 : Int) (bs110_0 : 0 ≤ s110_0 ∧ s110_0 ≤ 1), mm_W x 0 0 110 [mU, mU, mU] [mI s110_0] h := by
        intro s110_0 bs110_0
        refine mm_cSi (rest := []) C1 es_X8_56 (mm_dec dk_X8_joined 34 rfl) (c_X8_truth x.2.1 hl (d - 1) (by omega) h i0 s110_0 ⟨by omega, by omega⟩) rfl (Nat.le_of_ble_eq_true rfl) ⟨by decide, by decide⟩ rfl (fun r110 h110c hp110 => ?_) (fun _ _ q => q.elim)
        obtain ⟨z110, y110⟩ := hp110
        rw [z110]
        exact mm_iret C T (mm_dec dk_X8_joined 35 rfl) (by decide : 0 ≤ 0) (by decide : 0 ≤ 0) ⟨_, rfl, ⟨⟨by omega, by omega⟩, rfl⟩⟩
      refine mm_icmp_ne (tgt := 109) C (mm_dec dk_X8_joined 30 rfl) (by decide) (fun c102 => ?_) (fun c102 => ?_)
      · skip
        refine mm_iconst C (mm_dec dk_X8_joined 33 rfl) ⟨by decide, by decide⟩ ?_
        refine mm_fgt 0 ?_
        refine mm_fgt 1 ?_
        refine mm_fgt 2 ?_
        exact J110 0 ⟨by omega, by omega⟩
      · skip
        refine mm_iconst C (mm_dec dk_X8_joined 31 rfl) ⟨by decide, by decide⟩ ?_
        refine mm_goto (tgt := 110) C (mm_dec dk_X8_joined 32 rfl) (by decide) ?_
        refine mm_fgt 0 ?_
        refine mm_fgt 1 ?_
        refine mm_fgt 2 ?_
        exact J110 1 ⟨by omega, by omega⟩
    · show mm_W x 0 0 114 _ _ _
      refine mm_iload_n C (mm_dec dk_X8_joined 36 rfl) rfl ?_
      refine mm_iload_n C (mm_dec dk_X8_joined 37 rfl) rfl ?_
      refine mm_iaddw C (mm_dec dk_X8_joined 38 rfl) ?_
      have g5 : -2147483648 ≤ (mm_w (p1 + p2)) ∧ (mm_w (p1 + p2)) < 2147483648 := mm_w_rg _
      exact mm_iret C T (mm_dec dk_X8_joined 39 rfl) (by decide : 0 ≤ 0) (by decide : 0 ≤ 0) ⟨_, rfl, ⟨⟨by omega, by omega⟩, rfl⟩⟩
    · show mm_W x 0 0 118 _ _ _
      refine mm_iload_n C (mm_dec dk_X8_joined 40 rfl) rfl ?_
      refine mm_iload_n C (mm_dec dk_X8_joined 41 rfl) rfl ?_
      refine mm_isubw C (mm_dec dk_X8_joined 42 rfl) ?_
      have g6 : -2147483648 ≤ (mm_w (p1 - p2)) ∧ (mm_w (p1 - p2)) < 2147483648 := mm_w_rg _
      exact mm_iret C T (mm_dec dk_X8_joined 43 rfl) (by decide : 0 ≤ 0) (by decide : 0 ≤ 0) ⟨_, rfl, ⟨⟨by omega, by omega⟩, rfl⟩⟩
    · show mm_W x 0 0 122 _ _ _
      refine mm_iload_n C (mm_dec dk_X8_joined 44 rfl) rfl ?_
      refine mm_iload_n C (mm_dec dk_X8_joined 45 rfl) rfl ?_
      refine mm_imulw C (mm_dec dk_X8_joined 46 rfl) ?_
      have g7 : -2147483648 ≤ (mm_w (p1 * p2)) ∧ (mm_w (p1 * p2)) < 2147483648 := mm_w_rg _
      exact mm_iret C T (mm_dec dk_X8_joined 47 rfl) (by decide : 0 ≤ 0) (by decide : 0 ≤ 0) ⟨_, rfl, ⟨⟨by omega, by omega⟩, rfl⟩⟩
    · show mm_W x 0 0 126 _ _ _
      refine mm_iload_n C (mm_dec dk_X8_joined 48 rfl) rfl ?_
      have J137 : ∀ (s137_0 : Int) (bs137_0 : -2147483648 ≤ s137_0 ∧ s137_0 ≤ 2147483647), mm_W x 0 0 137 [mU, mU, mU] [mI s137_0] h := by
        intro s137_0 bs137_0
        exact mm_iret C T (mm_dec dk_X8_joined 55 rfl) (by decide : 0 ≤ 0) (by decide : 0 ≤ 0) ⟨_, rfl, ⟨⟨by omega, by omega⟩, rfl⟩⟩
      refine mm_if_ne (tgt := 134) C (mm_dec dk_X8_joined 49 rfl) (by decide) (fun c127 => ?_) (fun c127 => ?_)
      · skip
        refine mm_iload_n C (mm_dec dk_X8_joined 52 rfl) rfl ?_
        refine mm_iload_n C (mm_dec dk_X8_joined 53 rfl) rfl ?_
        refine mm_idivw C (mm_dec dk_X8_joined 54 rfl) (by omega) ?_
        have g9 : -2147483648 ≤ (mm_w (Int.tdiv p1 p2)) ∧ (mm_w (Int.tdiv p1 p2)) < 2147483648 := mm_w_rg _
        refine mm_fgt 0 ?_
        refine mm_fgt 1 ?_
        refine mm_fgt 2 ?_
        exact J137 (mm_w (Int.tdiv p1 p2)) ⟨by omega, by omega⟩
      · skip
        refine mm_iconst C (mm_dec dk_X8_joined 50 rfl) ⟨by decide, by decide⟩ ?_
        refine mm_goto (tgt := 137) C (mm_dec dk_X8_joined 51 rfl) (by decide) ?_
        refine mm_fgt 0 ?_
        refine mm_fgt 1 ?_
        refine mm_fgt 2 ?_
        exact J137 0 ⟨by omega, by omega⟩
    · show mm_W x 0 0 138 _ _ _
      refine mm_iload_n C (mm_dec dk_X8_joined 56 rfl) rfl ?_
      have J147 : ∀ (s147_0 : Int) (bs147_0 : -2147483648 ≤ s147_0 ∧ s147_0 ≤ 2147483647), mm_W x 0 0 147 [mU, mU, mU] [mI s147_0] h := by
        intro s147_0 bs147_0
        exact mm_iret C T (mm_dec dk_X8_joined 61 rfl) (by decide : 0 ≤ 0) (by decide : 0 ≤ 0) ⟨_, rfl, ⟨⟨by omega, by omega⟩, rfl⟩⟩
      refine mm_if_eq (tgt := 146) C (mm_dec dk_X8_joined 57 rfl) (by decide) (fun c139 => ?_) (fun c139 => ?_)
      · skip
        refine mm_iload_n C (mm_dec dk_X8_joined 60 rfl) rfl ?_
        refine mm_fgt 0 ?_
        refine mm_fgt 1 ?_
        refine mm_fgt 2 ?_
        exact J147 p1 ⟨by omega, by omega⟩
      · skip
        refine mm_iconst C (mm_dec dk_X8_joined 58 rfl) ⟨by decide, by decide⟩ ?_
        refine mm_goto (tgt := 147) C (mm_dec dk_X8_joined 59 rfl) (by decide) ?_
        refine mm_fgt 0 ?_
        refine mm_fgt 1 ?_
        refine mm_fgt 2 ?_
        exact J147 0 ⟨by omega, by omega⟩
set_option maxRecDepth 100000 in
set_option maxHeartbeats 4000000 in
theorem c_X10_offer (l : Launch) (hl : l.stackTraces = false) (d : Nat) (hd : 1 ≤ d) (h : mH) (i0 : mm_inv h) (p1 : Int) (p2 : Int) (bp1 : 0 ≤ p1 ∧ p1 ≤ 399) (t0 : h.1 7 7 ≤ (mm_cnt h : Int)) : mm_Met l d yX10_offer cX10_offer 3 none [mR 7, mI p1, mI p2] h (mm_pv fun h2 => mm_inv h2 ∧ mm_fr [(7, 7)] [8, 9, 10] h h2 ∧ h2.1 7 7 ≤ (mm_cnt h2 : Int)) mm_nx 0 0 := by
  refine mm_ofW (ls := [mR 7, mI p1, mI p2]) hl (by decide) rfl (Nat.le_of_ble_eq_true rfl) ?_
  intro x hxl C T hnm htb
  subst hxl
  have C1 := mm_OK_le (d' := d - 1 + 1) (by omega) C
  refine mm_rng (fun hr _ => ?_)
  have ap1 : -2147483648 ≤ p1 ∧ p1 < 2147483648 := mm_ok_at hr (i := 1) rfl
  have ap2 : -2147483648 ≤ p2 ∧ p2 < 2147483648 := mm_ok_at hr (i := 2) rfl
  have f0 : mm_fr [(7, 7)] [8, 9, 10] h h := mm_fr_rf
  have g1 : 0 ≤ h.1 7 7 ∧ h.1 7 7 ≤ 400 := i0.1 7 7
  refine mm_iload_n C (mm_dec dk_X10_offer 0 rfl) rfl ?_
  refine mm_aload_n C (mm_dec dk_X10_offer 1 rfl) rfl ?_
  refine mm_getr (t := 8) C fl_X10_9 (mm_dec dk_X10_offer 2 rfl) rfl rfl (mm_ref i0 rfl) ?_
  refine mm_iload_n C (mm_dec dk_X10_offer 3 rfl) rfl ?_
  refine mm_iald C (mm_dec dk_X10_offer 4 rfl) rfl (by omega) (by omega) ?_
  have g2 : -2147483648 ≤ (h.2.1 8 p1) ∧ (h.2.1 8 p1) ≤ 2147483647 := i0.2.1 8 p1
  refine mm_icmp_lt (tgt := 11) C (mm_dec dk_X10_offer 5 rfl) (by decide) (fun c7 => ?_) (fun c7 => ?_)
  · skip
    refine mm_aload_n C (mm_dec dk_X10_offer 7 rfl) rfl ?_
    refine mm_getr (t := 8) C fl_X10_9 (mm_dec dk_X10_offer 8 rfl) rfl rfl (mm_ref i0 rfl) ?_
    refine mm_iload_n C (mm_dec dk_X10_offer 9 rfl) rfl ?_
    refine mm_iload_n C (mm_dec dk_X10_offer 10 rfl) rfl ?_
    refine mm_iast C (mm_dec dk_X10_offer 11 rfl) rfl (by omega) (by omega) ?_
    have i1 : mm_inv (mm_pa h 8 p1 p2) := mm_inv_pa i0 (show -2147483648 ≤ p2 ∧ p2 ≤ 2147483647 from ⟨by omega, by omega⟩)
    have f1 : mm_fr [(7, 7)] [8, 9, 10] h (mm_pa h 8 p1 p2) := mm_fr_pa f0 (by decide)
    obtain ⟨h1, eh1⟩ : ∃ z, z = mm_pa h 8 p1 p2 := ⟨_, rfl⟩
    rw [← eh1] at i1 f1 ⊢
    have qh1_3 : h1.1 7 7 = h.1 7 7 := by rw [eh1]; rfl
    have nh1 : mm_cnt h1 = mm_cnt h := by rw [eh1]; exact mm_cnt_eq (fun _ => mm_pa_ne _ _ (fun q => absurd q.1 (by decide)))
    have qh1_5 : h1.2.1 10 p1 = h.2.1 10 p1 := by rw [eh1]; exact mm_pa_ne _ _ (fun q => absurd q.1 (by decide))
    refine mm_aload_n C (mm_dec dk_X10_offer 12 rfl) rfl ?_
    refine mm_getr (t := 10) C fl_X10_18 (mm_dec dk_X10_offer 13 rfl) rfl rfl (mm_ref i1 rfl) ?_
    refine mm_iload_n C (mm_dec dk_X10_offer 14 rfl) rfl ?_
    refine mm_iald C (mm_dec dk_X10_offer 15 rfl) rfl (by omega) (by omega) ?_
    have g6 : -1 ≤ (h1.2.1 10 p1) ∧ (h1.2.1 10 p1) ≤ 399 := i1.2.1 10 p1
    refine mm_iconst C (mm_dec dk_X10_offer 16 rfl) ⟨by decide, by decide⟩ ?_
    have J48 : ∀ (h48_ : mH) (i48_ : mm_inv h48_) (f48_ : mm_fr [(7, 7)] [8, 9, 10] h h48_) (w48_0 : h48_.1 7 7 ≤ (mm_cnt h48_ : Int)) (w48_1 : 0 ≤ h48_.2.1 10 p1), mm_W x 0 0 48 [mR 7, mI p1, mU] [] h48_ := by
      intro h48_ i48_ f48_ w48_0 w48_1
      have g7 : 0 ≤ h48_.1 7 7 ∧ h48_.1 7 7 ≤ 400 := i48_.1 7 7
      refine mm_aload_n C (mm_dec dk_X10_offer 30 rfl) rfl ?_
      refine mm_iload_n C (mm_dec dk_X10_offer 31 rfl) rfl ?_
      refine mm_aload_n C (mm_dec dk_X10_offer 32 rfl) rfl ?_
      refine mm_getr (t := 10) C fl_X10_18 (mm_dec dk_X10_offer 33 rfl) rfl rfl (mm_ref i48_ rfl) ?_
      refine mm_iload_n C (mm_dec dk_X10_offer 34 rfl) rfl ?_
      refine mm_iald C (mm_dec dk_X10_offer 35 rfl) rfl (by omega) (by omega) ?_
      have g8 : -1 ≤ (h48_.2.1 10 p1) ∧ (h48_.2.1 10 p1) ≤ 399 := i48_.2.1 10 p1
      refine mm_cVv (rest := []) C1 ev_X10_119 (mm_dec dk_X10_offer 36 rfl) (c_X10_rise x.2.1 hl (d - 1) (by omega) h48_ i48_ p1 (h48_.2.1 10 p1) ⟨by omega, by omega⟩ ⟨by omega, by omega⟩) rfl rfl (Nat.le_of_ble_eq_true rfl) ⟨by decide, by decide⟩ rfl (fun h56c hp56 => ?_) (fun _ _ q => q.elim)
      obtain ⟨i56c, g56c, y56_0⟩ := hp56
      have f56c : mm_fr [(7, 7)] [8, 9, 10] h h56c := mm_fr_tr f48_ g56c (by decide +kernel)
      have q56c_10 : h56c.1 7 7 = h48_.1 7 7 := g56c.1 7 7 (by decide)
      exact mm_vret C T (mm_dec dk_X10_offer 37 rfl) (by decide : 0 ≤ 0) (by decide : 0 ≤ 0) ⟨rfl, ⟨i56c, f56c, by omega⟩⟩
    refine mm_icmp_ne (tgt := 48) C (mm_dec dk_X10_offer 17 rfl) (by decide) (fun c25 => ?_) (fun c25 => ?_)
    · skip
      refine mm_fgt 2 ?_
      exact J48 h1 i1 f1 (by omega) (by omega)
    · skip
      refine mm_aload_n C (mm_dec dk_X10_offer 18 rfl) rfl ?_
      refine mm_getr (t := 10) C fl_X10_18 (mm_dec dk_X10_offer 19 rfl) rfl rfl (mm_ref i1 rfl) ?_
      refine mm_iload_n C (mm_dec dk_X10_offer 20 rfl) rfl ?_
      refine mm_aload_n C (mm_dec dk_X10_offer 21 rfl) rfl ?_
      refine mm_geti C fl_X10_31 (mm_dec dk_X10_offer 22 rfl) rfl rfl (Or.inl rfl) ?_
      have zz := mm_cnt_free (h := h1) (j := p1) ⟨by omega, by omega⟩ (by omega)
      refine mm_iast C (mm_dec dk_X10_offer 23 rfl) rfl (by omega) (by omega) ?_
      have i3 : mm_inv (mm_pa h1 10 p1 (h1.1 7 7)) := mm_inv_pa i1 (show -1 ≤ (h1.1 7 7) ∧ (h1.1 7 7) ≤ 399 from ⟨by omega, by omega⟩)
      have f3 : mm_fr [(7, 7)] [8, 9, 10] h (mm_pa h1 10 p1 (h1.1 7 7)) := mm_fr_pa f1 (by decide)
      obtain ⟨h3, eh3⟩ : ∃ z, z = mm_pa h1 10 p1 (h1.1 7 7) := ⟨_, rfl⟩
      rw [← eh3] at i3 f3 ⊢
      have qh3_11 : h3.1 7 7 = h1.1 7 7 := by rw [eh3]; rfl
      have nh3 : mm_cnt h1 ≤ mm_cnt h3 ∧ (h1.2.1 10 p1 ≠ -1 ∨ mm_cnt h1 + 1 ≤ mm_cnt h3) := by rw [eh3]; exact mm_cnt_put ⟨by omega, by omega⟩ (by omega)
      have qh3_13 : h3.2.1 10 p1 = (h1.1 7 7) := by rw [eh3]; exact mm_pa_same _ _ _ _
      refine mm_aload_n C (mm_dec dk_X10_offer 24 rfl) rfl ?_
      refine mm_dup C (mm_dec dk_X10_offer 25 rfl) (show (2 : Nat) ≠ 1 by decide) ?_
      refine mm_geti C fl_X10_31 (mm_dec dk_X10_offer 26 rfl) rfl rfl (Or.inl rfl) ?_
      refine mm_iconst C (mm_dec dk_X10_offer 27 rfl) ⟨by decide, by decide⟩ ?_
      refine mm_iadd C (mm_dec dk_X10_offer 28 rfl) ⟨by omega, by omega⟩ ?_
      refine mm_puti C fl_X10_31 (mm_dec dk_X10_offer 29 rfl) rfl rfl rfl (Or.inl ⟨rfl, rfl⟩) ?_
      have i4 : mm_inv (mm_pf h3 7 7 ((h3.1 7 7) + 1)) := mm_inv_pf i3 (show 0 ≤ ((h3.1 7 7) + 1) ∧ ((h3.1 7 7) + 1) ≤ 400 from ⟨by omega, by omega⟩) (by decide)
      have f4 : mm_fr [(7, 7)] [8, 9, 10] h (mm_pf h3 7 7 ((h3.1 7 7) + 1)) := mm_fr_pf f3 (by decide)
      obtain ⟨h4, eh4⟩ : ∃ z, z = mm_pf h3 7 7 ((h3.1 7 7) + 1) := ⟨_, rfl⟩
      rw [← eh4] at i4 f4 ⊢
      have qh4 : h4.1 7 7 = ((h3.1 7 7) + 1) := by rw [eh4]; exact mm_pf_same _ _ _ _
      have nh4 : mm_cnt h4 = mm_cnt h3 := by rw [eh4]; exact mm_cnt_eq (fun _ => rfl)
      have qh4_15 : h4.2.1 10 p1 = h3.2.1 10 p1 := by rw [eh4]; rfl
      refine mm_fgt 2 ?_
      exact J48 h4 i4 f4 (by omega) (by omega)
  · skip
    exact mm_vret C T (mm_dec dk_X10_offer 6 rfl) (by decide : 0 ≤ 0) (by decide : 0 ≤ 0) ⟨rfl, ⟨i0, f0, by omega⟩⟩
set_option maxRecDepth 100000 in
set_option maxHeartbeats 4000000 in
theorem c_X10_sink (l : Launch) (hl : l.stackTraces = false) (d : Nat) (hd : 1 ≤ d) (h : mH) (i0 : mm_inv h) (p1 : Int) (bp1 : 0 ≤ p1 ∧ p1 ≤ 399) : mm_Met l d yX10_sink cX10_sink 4 none [mR 7, mI p1] h (mm_pv fun h2 => mm_inv h2 ∧ mm_fr [] [9, 10] h h2 ∧ mm_cnt h ≤ mm_cnt h2) mm_nx 0 0 := by
  refine mm_ofW (ls := [mR 7, mI p1, mU, mU]) hl (by decide) rfl (Nat.le_of_ble_eq_true rfl) ?_
  intro x hxl C T hnm htb
  subst hxl
  have C1 := mm_OK_le (d' := d - 1 + 1) (by omega) C
  refine mm_rng (fun hr _ => ?_)
  have ap1 : -2147483648 ≤ p1 ∧ p1 < 2147483648 := mm_ok_at hr (i := 1) rfl
  have f0 : mm_fr [] [9, 10] h h := mm_fr_rf
  refine mm_iconst C (mm_dec dk_X10_sink 0 rfl) ⟨by decide, by decide⟩ ?_
  refine mm_istore_nL (ls2 := [mR 7, mI p1, mI 0, mU]) C (mm_dec dk_X10_sink 1 rfl) (by decide) rfl ?_
  refine mm_aload_n C (mm_dec dk_X10_sink 2 rfl) rfl ?_
  refine mm_iconst C (mm_dec dk_X10_sink 3 rfl) ⟨by decide, by decide⟩ ?_
  refine mm_cVi (rest := []) C1 ev_X10_125 (mm_dec dk_X10_sink 4 rfl) (c_X10_lesserChild x.2.1 hl (d - 1) (by omega) h i0 0 ⟨by omega, by omega⟩) rfl rfl (Nat.le_of_ble_eq_true rfl) ⟨by decide, by decide⟩ rfl (fun r4 h4c hp4 => ?_) (fun _ _ q => q.elim)
  obtain ⟨z4, y4⟩ := hp4
  rw [z4]
  have g2 : 0 ≤ (h.1 7 7) ∧ (h.1 7 7) ≤ 400 := i0.1 7 7
  have g3 : -2147483648 ≤ (h.2.1 8 (h.2.1 9 ((2 * 0) + 1))) ∧ (h.2.1 8 (h.2.1 9 ((2 * 0) + 1))) ≤ 2147483647 := i0.2.1 8 (h.2.1 9 ((2 * 0) + 1))
  have g4 : 0 ≤ (h.2.1 9 ((2 * 0) + 1)) ∧ (h.2.1 9 ((2 * 0) + 1)) ≤ 399 := i0.2.1 9 ((2 * 0) + 1)
  have g5 : -2147483648 ≤ (h.2.1 8 (h.2.1 9 (((2 * 0) + 1) + 1))) ∧ (h.2.1 8 (h.2.1 9 (((2 * 0) + 1) + 1))) ≤ 2147483647 := i0.2.1 8 (h.2.1 9 (((2 * 0) + 1) + 1))
  have g6 : 0 ≤ (h.2.1 9 (((2 * 0) + 1) + 1)) ∧ (h.2.1 9 (((2 * 0) + 1) + 1)) ≤ 399 := i0.2.1 9 (((2 * 0) + 1) + 1)
  have J8 : ∀ (n : Nat) (x8_2 : Int) (bx8_2 : 0 ≤ x8_2 ∧ x8_2 ≤ 399) (x8_3 : Int) (bx8_3 : 1 ≤ x8_3 ∧ x8_3 ≤ 799) (h8_ : mH) (i8_ : mm_inv h8_) (f8_ : mm_fr [] [9, 10] h h8_) (w8_0 : mm_cnt h ≤ mm_cnt h8_) (w8_1 : x8_2 < x8_3), (400 - x8_2 : Int) < n → mm_W x 0 0 8 [mR 7, mI p1, mI x8_2, mI x8_3] [] h8_ := by
    intro n
    induction n with
    | zero =>
      intro x8_2 bx8_2 x8_3 bx8_3 h8_ i8_ f8_ w8_0 w8_1 hm
      exfalso; omega
    | succ n ih8 =>
      intro x8_2 bx8_2 x8_3 bx8_3 h8_ i8_ f8_ w8_0 w8_1 hm8
      refine mm_iload_n C (mm_dec dk_X10_sink 6 rfl) rfl ?_
      refine mm_aload_n C (mm_dec dk_X10_sink 7 rfl) rfl ?_
      refine mm_geti C fl_X10_31 (mm_dec dk_X10_sink 8 rfl) rfl rfl (Or.inl rfl) ?_
      have g7 : 0 ≤ (h8_.1 7 7) ∧ (h8_.1 7 7) ≤ 400 := i8_.1 7 7
      have J71 : mm_W x 0 0 71 [mR 7, mI p1, mI x8_2, mU] [] h8_ := by
        refine mm_aload_n C (mm_dec dk_X10_sink 45 rfl) rfl ?_
        refine mm_getr (t := 9) C fl_X10_15 (mm_dec dk_X10_sink 46 rfl) rfl rfl (mm_ref i8_ rfl) ?_
        refine mm_iload_n C (mm_dec dk_X10_sink 47 rfl) rfl ?_
        refine mm_iload_n C (mm_dec dk_X10_sink 48 rfl) rfl ?_
        refine mm_iast C (mm_dec dk_X10_sink 49 rfl) rfl (by omega) (by omega) ?_
        have i1 : mm_inv (mm_pa h8_ 9 x8_2 p1) := mm_inv_pa i8_ (show 0 ≤ p1 ∧ p1 ≤ 399 from ⟨by omega, by omega⟩)
        have f1 : mm_fr [] [9, 10] h (mm_pa h8_ 9 x8_2 p1) := mm_fr_pa f8_ (by decide)
        obtain ⟨h1, eh1⟩ : ∃ z, z = mm_pa h8_ 9 x8_2 p1 := ⟨_, rfl⟩
        rw [← eh1] at i1 f1 ⊢
        have qh1_8 : h1.1 7 7 = h8_.1 7 7 := by rw [eh1]; rfl
        have nh1 : mm_cnt h1 = mm_cnt h8_ := by rw [eh1]; exact mm_cnt_eq (fun _ => mm_pa_ne _ _ (fun q => absurd q.1 (by decide)))
        refine mm_aload_n C (mm_dec dk_X10_sink 50 rfl) rfl ?_
        refine mm_getr (t := 10) C fl_X10_18 (mm_dec dk_X10_sink 51 rfl) rfl rfl (mm_ref i1 rfl) ?_
        refine mm_iload_n C (mm_dec dk_X10_sink 52 rfl) rfl ?_
        refine mm_iload_n C (mm_dec dk_X10_sink 53 rfl) rfl ?_
        refine mm_iast C (mm_dec dk_X10_sink 54 rfl) rfl (by omega) (by omega) ?_
        have i2 : mm_inv (mm_pa h1 10 p1 x8_2) := mm_inv_pa i1 (show -1 ≤ x8_2 ∧ x8_2 ≤ 399 from ⟨by omega, by omega⟩)
        have f2 : mm_fr [] [9, 10] h (mm_pa h1 10 p1 x8_2) := mm_fr_pa f1 (by decide)
        obtain ⟨h2, eh2⟩ : ∃ z, z = mm_pa h1 10 p1 x8_2 := ⟨_, rfl⟩
        rw [← eh2] at i2 f2 ⊢
        have qh2_10 : h2.1 7 7 = h1.1 7 7 := by rw [eh2]; rfl
        have nh2 : mm_cnt h1 ≤ mm_cnt h2 ∧ (h1.2.1 10 p1 ≠ -1 ∨ mm_cnt h1 + 1 ≤ mm_cnt h2) := by rw [eh2]; exact mm_cnt_put ⟨by omega, by omega⟩ (by omega)
        exact mm_vret C T (mm_dec dk_X10_sink 55 rfl) (by decide : 0 ≤ 0) (by decide : 0 ≤ 0) ⟨rfl, ⟨i2, f2, by omega⟩⟩
      refine mm_icmp_ge (tgt := 71) C (mm_dec dk_X10_sink 9 rfl) (by decide) (fun c13 => ?_) (fun c13 => ?_)
      · skip
        refine mm_fgt 3 ?_
        exact J71
      · skip
        refine mm_aload_n C (mm_dec dk_X10_sink 10 rfl) rfl ?_
        refine mm_getr (t := 8) C fl_X10_9 (mm_dec dk_X10_sink 11 rfl) rfl rfl (mm_ref i8_ rfl) ?_
        refine mm_aload_n C (mm_dec dk_X10_sink 12 rfl) rfl ?_
        refine mm_getr (t := 9) C fl_X10_15 (mm_dec dk_X10_sink 13 rfl) rfl rfl (mm_ref i8_ rfl) ?_
        refine mm_iload_n C (mm_dec dk_X10_sink 14 rfl) rfl ?_
        refine mm_iald C (mm_dec dk_X10_sink 15 rfl) rfl (by omega) (by omega) ?_
        have g12 : 0 ≤ (h8_.2.1 9 x8_3) ∧ (h8_.2.1 9 x8_3) ≤ 399 := i8_.2.1 9 x8_3
        refine mm_iald C (mm_dec dk_X10_sink 16 rfl) rfl (by omega) (by omega) ?_
        have g13 : -2147483648 ≤ (h8_.2.1 8 (h8_.2.1 9 x8_3)) ∧ (h8_.2.1 8 (h8_.2.1 9 x8_3)) ≤ 2147483647 := i8_.2.1 8 (h8_.2.1 9 x8_3)
        refine mm_aload_n C (mm_dec dk_X10_sink 17 rfl) rfl ?_
        refine mm_getr (t := 8) C fl_X10_9 (mm_dec dk_X10_sink 18 rfl) rfl rfl (mm_ref i8_ rfl) ?_
        refine mm_iload_n C (mm_dec dk_X10_sink 19 rfl) rfl ?_
        refine mm_iald C (mm_dec dk_X10_sink 20 rfl) rfl (by omega) (by omega) ?_
        have g14 : -2147483648 ≤ (h8_.2.1 8 p1) ∧ (h8_.2.1 8 p1) ≤ 2147483647 := i8_.2.1 8 p1
        refine mm_icmp_ge (tgt := 71) C (mm_dec dk_X10_sink 21 rfl) (by decide) (fun c33 => ?_) (fun c33 => ?_)
        · skip
          refine mm_fgt 3 ?_
          exact J71
        · skip
          refine mm_aload_n C (mm_dec dk_X10_sink 22 rfl) rfl ?_
          refine mm_getr (t := 9) C fl_X10_15 (mm_dec dk_X10_sink 23 rfl) rfl rfl (mm_ref i8_ rfl) ?_
          refine mm_iload_n C (mm_dec dk_X10_sink 24 rfl) rfl ?_
          refine mm_aload_n C (mm_dec dk_X10_sink 25 rfl) rfl ?_
          refine mm_getr (t := 9) C fl_X10_15 (mm_dec dk_X10_sink 26 rfl) rfl rfl (mm_ref i8_ rfl) ?_
          refine mm_iload_n C (mm_dec dk_X10_sink 27 rfl) rfl ?_
          refine mm_iald C (mm_dec dk_X10_sink 28 rfl) rfl (by omega) (by omega) ?_
          refine mm_iast C (mm_dec dk_X10_sink 29 rfl) rfl (by omega) (by omega) ?_
          have i3 : mm_inv (mm_pa h8_ 9 x8_2 (h8_.2.1 9 x8_3)) := mm_inv_pa i8_ (show 0 ≤ (h8_.2.1 9 x8_3) ∧ (h8_.2.1 9 x8_3) ≤ 399 from ⟨by omega, by omega⟩)
          have f3 : mm_fr [] [9, 10] h (mm_pa h8_ 9 x8_2 (h8_.2.1 9 x8_3)) := mm_fr_pa f8_ (by decide)
          obtain ⟨h3, eh3⟩ : ∃ z, z = mm_pa h8_ 9 x8_2 (h8_.2.1 9 x8_3) := ⟨_, rfl⟩
          rw [← eh3] at i3 f3 ⊢
          have qh3_15 : h3.1 7 7 = h8_.1 7 7 := by rw [eh3]; rfl
          have nh3 : mm_cnt h3 = mm_cnt h8_ := by rw [eh3]; exact mm_cnt_eq (fun _ => mm_pa_ne _ _ (fun q => absurd q.1 (by decide)))
          refine mm_aload_n C (mm_dec dk_X10_sink 30 rfl) rfl ?_
          refine mm_getr (t := 10) C fl_X10_18 (mm_dec dk_X10_sink 31 rfl) rfl rfl (mm_ref i3 rfl) ?_
          refine mm_aload_n C (mm_dec dk_X10_sink 32 rfl) rfl ?_
          refine mm_getr (t := 9) C fl_X10_15 (mm_dec dk_X10_sink 33 rfl) rfl rfl (mm_ref i3 rfl) ?_
          refine mm_iload_n C (mm_dec dk_X10_sink 34 rfl) rfl ?_
          refine mm_iald C (mm_dec dk_X10_sink 35 rfl) rfl (by omega) (by omega) ?_
          have g17 : 0 ≤ (h3.2.1 9 x8_2) ∧ (h3.2.1 9 x8_2) ≤ 399 := i3.2.1 9 x8_2
          refine mm_iload_n C (mm_dec dk_X10_sink 36 rfl) rfl ?_
          refine mm_iast C (mm_dec dk_X10_sink 37 rfl) rfl (by omega) (by omega) ?_
          have i4 : mm_inv (mm_pa h3 10 (h3.2.1 9 x8_2) x8_2) := mm_inv_pa i3 (show -1 ≤ x8_2 ∧ x8_2 ≤ 399 from ⟨by omega, by omega⟩)
          have f4 : mm_fr [] [9, 10] h (mm_pa h3 10 (h3.2.1 9 x8_2) x8_2) := mm_fr_pa f3 (by decide)
          obtain ⟨h4, eh4⟩ : ∃ z, z = mm_pa h3 10 (h3.2.1 9 x8_2) x8_2 := ⟨_, rfl⟩
          rw [← eh4] at i4 f4 ⊢
          have qh4_18 : h4.1 7 7 = h3.1 7 7 := by rw [eh4]; rfl
          have nh4 : mm_cnt h3 ≤ mm_cnt h4 ∧ (h3.2.1 10 (h3.2.1 9 x8_2) ≠ -1 ∨ mm_cnt h3 + 1 ≤ mm_cnt h4) := by rw [eh4]; exact mm_cnt_put ⟨by omega, by omega⟩ (by omega)
          refine mm_iload_n C (mm_dec dk_X10_sink 38 rfl) rfl ?_
          refine mm_istore_nL (ls2 := [mR 7, mI p1, mI x8_3, mI x8_3]) C (mm_dec dk_X10_sink 39 rfl) (by decide) rfl ?_
          refine mm_aload_n C (mm_dec dk_X10_sink 40 rfl) rfl ?_
          refine mm_iload_n C (mm_dec dk_X10_sink 41 rfl) rfl ?_
          refine mm_cVi (rest := []) C1 ev_X10_125 (mm_dec dk_X10_sink 42 rfl) (c_X10_lesserChild x.2.1 hl (d - 1) (by omega) h4 i4 x8_3 ⟨by omega, by omega⟩) rfl rfl (Nat.le_of_ble_eq_true rfl) ⟨by decide, by decide⟩ rfl (fun r64 h64c hp64 => ?_) (fun _ _ q => q.elim)
          obtain ⟨z64, y64⟩ := hp64
          rw [z64]
          have g21 : -2147483648 ≤ (h4.2.1 8 (h4.2.1 9 ((2 * x8_3) + 1))) ∧ (h4.2.1 8 (h4.2.1 9 ((2 * x8_3) + 1))) ≤ 2147483647 := i4.2.1 8 (h4.2.1 9 ((2 * x8_3) + 1))
          have g22 : 0 ≤ (h4.2.1 9 ((2 * x8_3) + 1)) ∧ (h4.2.1 9 ((2 * x8_3) + 1)) ≤ 399 := i4.2.1 9 ((2 * x8_3) + 1)
          have g23 : -2147483648 ≤ (h4.2.1 8 (h4.2.1 9 (((2 * x8_3) + 1) + 1))) ∧ (h4.2.1 8 (h4.2.1 9 (((2 * x8_3) + 1) + 1))) ≤ 2147483647 := i4.2.1 8 (h4.2.1 9 (((2 * x8_3) + 1) + 1))
          have g24 : 0 ≤ (h4.2.1 9 (((2 * x8_3) + 1) + 1)) ∧ (h4.2.1 9 (((2 * x8_3) + 1) + 1)) ≤ 399 := i4.2.1 9 (((2 * x8_3) + 1) + 1)
          refine mm_istore_nL (ls2 := [mR 7, mI p1, mI x8_3, mI r64]) C (mm_dec dk_X10_sink 43 rfl) (by decide) rfl ?_
          refine mm_goto (tgt := 8) C (mm_dec dk_X10_sink 44 rfl) (by decide) ?_
          exact ih8 x8_3 ⟨by omega, by omega⟩ r64 ⟨by omega, by omega⟩ h4 i4 f4 (by omega) (by omega) (by omega)
  refine mm_istore_nL (ls2 := [mR 7, mI p1, mI 0, mI r4]) C (mm_dec dk_X10_sink 5 rfl) (by decide) rfl ?_
  exact J8 (((400 - 0) : Int) + 1).toNat 0 ⟨by omega, by omega⟩ r4 ⟨by omega, by omega⟩ h i0 f0 (by omega) (by omega) (by omega)
set_option maxRecDepth 100000 in
set_option maxHeartbeats 4000000 in
theorem c_X11_cell (l : Launch) (hl : l.stackTraces = false) (d : Nat) (hd : 9 ≤ d) (h : mH) (i0 : mm_inv h) (p1 : Int) (p2 : Int) (p3 : Int) (p4 : Int) : mm_Met l d yX11_cell cX11_cell 6 (some .boolean) [mR 0, mI p1, mI p2, mI p3, mI p4] h (mm_pi fun r h2 => (0 ≤ r ∧ r ≤ 1) ∧ mm_inv h2 ∧ mm_fr [] [2, 3] h h2) (mm_xp h) 1 6 := by
  refine mm_ofW (ls := [mR 0, mI p1, mI p2, mI p3, mI p4, mU]) hl (by decide) rfl (Nat.le_of_ble_eq_true rfl) ?_
  intro x hxl C T hnm htb
  subst hxl
  have C1 := mm_OK_le (d' := d - 1 + 1) (by omega) C
  have C8 := mm_OK_le (d' := d - 8 + 8) (by omega) C
  refine mm_rng (fun hr _ => ?_)
  have ap1 : -2147483648 ≤ p1 ∧ p1 < 2147483648 := mm_ok_at hr (i := 1) rfl
  have ap2 : -2147483648 ≤ p2 ∧ p2 < 2147483648 := mm_ok_at hr (i := 2) rfl
  have ap3 : -2147483648 ≤ p3 ∧ p3 < 2147483648 := mm_ok_at hr (i := 3) rfl
  have ap4 : -2147483648 ≤ p4 ∧ p4 < 2147483648 := mm_ok_at hr (i := 4) rfl
  have f0 : mm_fr [] [2, 3] h h := mm_fr_rf
  refine mm_aload_n C (mm_dec dk_X11_cell 0 rfl) rfl ?_
  refine mm_iload_n C (mm_dec dk_X11_cell 1 rfl) rfl ?_
  refine mm_iload_n C (mm_dec dk_X11_cell 2 rfl) rfl ?_
  refine mm_cVi (rest := []) C1 ev_X11_122 (mm_dec dk_X11_cell 3 rfl) (c_X11_needCell x.2.1 hl (d - 1) (by omega) h i0 p1 p2) rfl rfl (Nat.le_of_ble_eq_true rfl) ⟨by decide, by decide⟩ rfl (fun r3 h3c hp3 => ?_) (fun E hx q => mm_out C T htb (by decide) (by decide) (by rcases q with ⟨q1, q2⟩ | ⟨q1, q2⟩ <;> first | exact Or.inl ⟨q1, q2⟩ | exact Or.inr ⟨q1, q2⟩))
  obtain ⟨z3, k3_0, k3_1, k3_2, k3_3, k3_4, y3⟩ := hp3
  rw [z3, y3]
  have g2 : 1 ≤ (h.1 1 5) ∧ (h.1 1 5) ≤ 20 := i0.1 1 5
  have g3 : 1 ≤ (h.1 1 6) ∧ (h.1 1 6) ≤ 20 := i0.1 1 6
  refine mm_istoreL (ls2 := [mR 0, mI p1, mI p2, mI p3, mI p4, mI ((p2 * 20) + p1)]) C (mm_dec dk_X11_cell 4 rfl) (by decide) rfl ?_
  refine mm_aload_n C (mm_dec dk_X11_cell 5 rfl) rfl ?_
  refine mm_cVi (rest := []) C1 ev_X11_126 (mm_dec dk_X11_cell 6 rfl) (c_X11_landIsFixed x.2.1 hl (d - 1) (by omega) h i0 ) rfl rfl (Nat.le_of_ble_eq_true rfl) ⟨by decide, by decide⟩ rfl (fun r9 h9c hp9 => ?_) (fun _ _ q => q.elim)
  obtain ⟨z9, y9⟩ := hp9
  rw [z9]
  have g5 : 0 ≤ (h.1 22 8) ∧ (h.1 22 8) ≤ 40 := i0.1 22 8
  have J36 : mm_W x 1 6 36 [mU, mU, mU, mU, mU, mU] [] h := by
    refine mm_iconst C (mm_dec dk_X11_cell 18 rfl) ⟨by decide, by decide⟩ ?_
    exact mm_zret C T (mm_dec dk_X11_cell 19 rfl) (by decide : 1 ≤ 1) (by decide : 6 ≤ 6) (by omega) ⟨_, rfl, ⟨⟨by omega, by omega⟩, i0, f0⟩⟩
  refine mm_if_ne (tgt := 36) C (mm_dec dk_X11_cell 7 rfl) (by decide) (fun c12 => ?_) (fun c12 => ?_)
  · skip
    refine mm_fgt 0 ?_
    refine mm_fgt 1 ?_
    refine mm_fgt 2 ?_
    refine mm_fgt 3 ?_
    refine mm_fgt 4 ?_
    refine mm_fgt 5 ?_
    exact J36
  · skip
    refine mm_iload_n C (mm_dec dk_X11_cell 8 rfl) rfl ?_
    refine mm_iconst C (mm_dec dk_X11_cell 9 rfl) ⟨by decide, by decide⟩ ?_
    refine mm_bipush C (mm_dec dk_X11_cell 10 rfl) ⟨by decide, by decide⟩ ?_
    refine mm_cSi (rest := []) C1 es_X11_130 (mm_dec dk_X11_cell 11 rfl) (c_X11_within x.2.1 hl (d - 1) (by omega) h i0 p3 0 7) rfl (Nat.le_of_ble_eq_true rfl) ⟨by decide, by decide⟩ rfl (fun r19 h19c hp19 => ?_) (fun _ _ q => q.elim)
    obtain ⟨z19, y19⟩ := hp19
    rw [z19]
    refine mm_if_eq (tgt := 36) C (mm_dec dk_X11_cell 12 rfl) (by decide) (fun c22 => ?_) (fun c22 => ?_)
    · skip
      refine mm_fgt 0 ?_
      refine mm_fgt 1 ?_
      refine mm_fgt 2 ?_
      refine mm_fgt 3 ?_
      refine mm_fgt 4 ?_
      refine mm_fgt 5 ?_
      exact J36
    · skip
      refine mm_iload C (mm_dec dk_X11_cell 13 rfl) rfl ?_
      refine mm_iconst C (mm_dec dk_X11_cell 14 rfl) ⟨by decide, by decide⟩ ?_
      refine mm_bipush C (mm_dec dk_X11_cell 15 rfl) ⟨by decide, by decide⟩ ?_
      refine mm_cSi (rest := []) C1 es_X11_130 (mm_dec dk_X11_cell 16 rfl) (c_X11_within x.2.1 hl (d - 1) (by omega) h i0 p4 0 99) rfl (Nat.le_of_ble_eq_true rfl) ⟨by decide, by decide⟩ rfl (fun r30 h30c hp30 => ?_) (fun _ _ q => q.elim)
      obtain ⟨z30, y30⟩ := hp30
      rw [z30]
      refine mm_if_ne (tgt := 38) C (mm_dec dk_X11_cell 17 rfl) (by decide) (fun c33 => ?_) (fun c33 => ?_)
      · skip
        refine mm_aload_n C (mm_dec dk_X11_cell 20 rfl) rfl ?_
        refine mm_getr (t := 1) C fl_X11_12 (mm_dec dk_X11_cell 21 rfl) rfl rfl (mm_ref i0 rfl) ?_
        refine mm_iload_n C (mm_dec dk_X11_cell 22 rfl) rfl ?_
        refine mm_cVi (rest := []) C1 ev_X11_134 (mm_dec dk_X11_cell 23 rfl) (c_X5_letsIn x.2.1 hl (d - 1) (by omega) h i0 p3 ⟨by omega, by omega⟩) rfl rfl (Nat.le_of_ble_eq_true rfl) ⟨by decide, by decide⟩ rfl (fun r43 h43c hp43 => ?_) (fun _ _ q => q.elim)
        obtain ⟨z43, y43⟩ := hp43
        rw [z43]
        have g9 : 0 ≤ (h.2.1 6 p3) ∧ (h.2.1 6 p3) ≤ 99 := i0.2.1 6 p3
        have J63 : mm_W x 1 6 63 [mR 0, mU, mU, mI p3, mI p4, mI ((p2 * 20) + p1)] [] h := by
          refine mm_aload_n C (mm_dec dk_X11_cell 32 rfl) rfl ?_
          refine mm_getr (t := 1) C fl_X11_12 (mm_dec dk_X11_cell 33 rfl) rfl rfl (mm_ref i0 rfl) ?_
          refine mm_iload C (mm_dec dk_X11_cell 34 rfl) rfl ?_
          refine mm_iload_n C (mm_dec dk_X11_cell 35 rfl) rfl ?_
          refine mm_iload C (mm_dec dk_X11_cell 36 rfl) rfl ?_
          refine mm_cVv (rest := []) C1 ev_X11_141 (mm_dec dk_X11_cell 37 rfl) (c_X5_shape x.2.1 hl (d - 1) (by omega) h i0 ((p2 * 20) + p1) p3 p4 ⟨by omega, by omega⟩ ⟨by omega, by omega⟩ ⟨by omega, by omega⟩) rfl rfl (Nat.le_of_ble_eq_true rfl) ⟨by decide, by decide⟩ rfl (fun h72c hp72 => ?_) (fun _ _ q => q.elim)
          obtain ⟨i72c, g72c⟩ := hp72
          have f72c : mm_fr [] [2, 3] h h72c := mm_fr_tr f0 g72c (by decide +kernel)
          have q72c_11 : h72c.1 1 5 = h.1 1 5 := g72c.1 1 5 (by decide)
          have q72c_12 : h72c.1 1 6 = h.1 1 6 := g72c.1 1 6 (by decide)
          have q72c_13 : h72c.1 22 8 = h.1 22 8 := g72c.1 22 8 (by decide)
          refine mm_iconst C (mm_dec dk_X11_cell 38 rfl) ⟨by decide, by decide⟩ ?_
          exact mm_zret C T (mm_dec dk_X11_cell 39 rfl) (by decide : 1 ≤ 1) (by decide : 6 ≤ 6) (by omega) ⟨_, rfl, ⟨⟨by omega, by omega⟩, i72c, f72c⟩⟩
        refine mm_if_ne (tgt := 63) C (mm_dec dk_X11_cell 24 rfl) (by decide) (fun c46 => ?_) (fun c46 => ?_)
        · skip
          refine mm_fgt 1 ?_
          refine mm_fgt 2 ?_
          exact J63
        · skip
          refine mm_aload_n C (mm_dec dk_X11_cell 25 rfl) rfl ?_
          refine mm_getr (t := 14) C fl_X11_28 (mm_dec dk_X11_cell 26 rfl) rfl rfl (mm_ref i0 rfl) ?_
          refine mm_iload C (mm_dec dk_X11_cell 27 rfl) rfl ?_
          refine mm_cVi (rest := []) C1 ev_X11_138 (mm_dec dk_X11_cell 28 rfl) (c_X2_postStandsAt x.2.1 hl (d - 1) (by omega) h i0 ((p2 * 20) + p1) ⟨by omega, by omega⟩) rfl rfl (Nat.le_of_ble_eq_true rfl) ⟨by decide, by decide⟩ rfl (fun r55 h55c hp55 => ?_) (fun _ _ q => q.elim)
          obtain ⟨b55, z55⟩ := hp55
          rw [z55]
          refine mm_if_eq (tgt := 63) C (mm_dec dk_X11_cell 29 rfl) (by decide) (fun c58 => ?_) (fun c58 => ?_)
          · skip
            refine mm_fgt 1 ?_
            refine mm_fgt 2 ?_
            exact J63
          · skip
            refine mm_iconst C (mm_dec dk_X11_cell 30 rfl) ⟨by decide, by decide⟩ ?_
            exact mm_zret C T (mm_dec dk_X11_cell 31 rfl) (by decide : 1 ≤ 1) (by decide : 6 ≤ 6) (by omega) ⟨_, rfl, ⟨⟨by omega, by omega⟩, i0, f0⟩⟩
      · skip
        refine mm_fgt 0 ?_
        refine mm_fgt 1 ?_
        refine mm_fgt 2 ?_
        refine mm_fgt 3 ?_
        refine mm_fgt 4 ?_
        refine mm_fgt 5 ?_
        exact J36
set_option maxRecDepth 100000 in
set_option maxHeartbeats 4000000 in
theorem c_X11_takes (l : Launch) (hl : l.stackTraces = false) (d : Nat) (hd : 8 ≤ d) (h : mH) (i0 : mm_inv h) (p1 : Int) (p2 : Int) : mm_Met l d yX11_takes cX11_takes 4 (some .boolean) [mR 0, mI p1, mI p2] h (mm_pi fun r h2 => (0 ≤ r ∧ r ≤ 1) ∧ mm_inv h2 ∧ mm_fr [] [6] h h2) (mm_xp h) 1 6 := by
  refine mm_ofW (ls := [mR 0, mI p1, mI p2, mU]) hl (by decide) rfl (Nat.le_of_ble_eq_true rfl) ?_
  intro x hxl C T hnm htb
  subst hxl
  have C1 := mm_OK_le (d' := d - 1 + 1) (by omega) C
  have C8 := mm_OK_le (d' := d - 8 + 8) (by omega) C
  refine mm_rng (fun hr _ => ?_)
  have ap1 : -2147483648 ≤ p1 ∧ p1 < 2147483648 := mm_ok_at hr (i := 1) rfl
  have ap2 : -2147483648 ≤ p2 ∧ p2 < 2147483648 := mm_ok_at hr (i := 2) rfl
  have f0 : mm_fr [] [6] h h := mm_fr_rf
  refine mm_iload_n C (mm_dec dk_X11_takes 0 rfl) rfl ?_
  refine mm_iconst C (mm_dec dk_X11_takes 1 rfl) ⟨by decide, by decide⟩ ?_
  refine mm_bipush C (mm_dec dk_X11_takes 2 rfl) ⟨by decide, by decide⟩ ?_
  refine mm_cSi (rest := []) C1 es_X11_130 (mm_dec dk_X11_takes 3 rfl) (c_X11_within x.2.1 hl (d - 1) (by omega) h i0 p1 0 8) rfl (Nat.le_of_ble_eq_true rfl) ⟨by decide, by decide⟩ rfl (fun r4 h4c hp4 => ?_) (fun _ _ q => q.elim)
  obtain ⟨z4, y4⟩ := hp4
  rw [z4]
  refine mm_if_ne (tgt := 20) C (mm_dec dk_X11_takes 4 rfl) (by decide) (fun c7 => ?_) (fun c7 => ?_)
  · skip
    refine mm_iload_n C (mm_dec dk_X11_takes 10 rfl) rfl ?_
    refine mm_bipush C (mm_dec dk_X11_takes 11 rfl) ⟨by decide, by decide⟩ ?_
    have J33 : ∀ (s33_0 : Int) (bs33_0 : 9 ≤ s33_0 ∧ s33_0 ≤ 99), mm_W x 0 0 33 [mR 0, mI p1, mI p2, mU] [mI s33_0] h := by
      intro s33_0 bs33_0
      refine mm_istore_nL (ls2 := [mR 0, mI p1, mI p2, mI s33_0]) C (mm_dec dk_X11_takes 16 rfl) (by decide) rfl ?_
      refine mm_aload_n C (mm_dec dk_X11_takes 17 rfl) rfl ?_
      refine mm_cVi (rest := []) C1 ev_X11_126 (mm_dec dk_X11_takes 18 rfl) (c_X11_landIsFixed x.2.1 hl (d - 1) (by omega) h i0 ) rfl rfl (Nat.le_of_ble_eq_true rfl) ⟨by decide, by decide⟩ rfl (fun r35 h35c hp35 => ?_) (fun _ _ q => q.elim)
      obtain ⟨z35, y35⟩ := hp35
      rw [z35]
      have g3 : 0 ≤ (h.1 22 8) ∧ (h.1 22 8) ≤ 40 := i0.1 22 8
      have J50 : mm_W x 0 0 50 [mU, mU, mU, mU] [] h := by
        refine mm_iconst C (mm_dec dk_X11_takes 25 rfl) ⟨by decide, by decide⟩ ?_
        exact mm_zret C T (mm_dec dk_X11_takes 26 rfl) (by decide : 0 ≤ 1) (by decide : 0 ≤ 6) (by omega) ⟨_, rfl, ⟨⟨by omega, by omega⟩, i0, f0⟩⟩
      refine mm_if_ne (tgt := 50) C (mm_dec dk_X11_takes 19 rfl) (by decide) (fun c38 => ?_) (fun c38 => ?_)
      · skip
        refine mm_fgt 0 ?_
        refine mm_fgt 1 ?_
        refine mm_fgt 2 ?_
        refine mm_fgt 3 ?_
        exact J50
      · skip
        refine mm_iload_n C (mm_dec dk_X11_takes 20 rfl) rfl ?_
        refine mm_iconst C (mm_dec dk_X11_takes 21 rfl) ⟨by decide, by decide⟩ ?_
        refine mm_iload_n C (mm_dec dk_X11_takes 22 rfl) rfl ?_
        refine mm_cSi (rest := []) C1 es_X11_130 (mm_dec dk_X11_takes 23 rfl) (c_X11_within x.2.1 hl (d - 1) (by omega) h i0 p2 0 s33_0) rfl (Nat.le_of_ble_eq_true rfl) ⟨by decide, by decide⟩ rfl (fun r44 h44c hp44 => ?_) (fun _ _ q => q.elim)
        obtain ⟨z44, y44⟩ := hp44
        rw [z44]
        refine mm_if_ne (tgt := 52) C (mm_dec dk_X11_takes 24 rfl) (by decide) (fun c47 => ?_) (fun c47 => ?_)
        · skip
          refine mm_iload_n C (mm_dec dk_X11_takes 27 rfl) rfl ?_
          refine mm_bipush C (mm_dec dk_X11_takes 28 rfl) ⟨by decide, by decide⟩ ?_
          have J72 : mm_W x 0 0 72 [mR 0, mI p1, mI p2, mU] [] h := by
            refine mm_aload_n C (mm_dec dk_X11_takes 38 rfl) rfl ?_
            refine mm_getr (t := 1) C fl_X11_12 (mm_dec dk_X11_takes 39 rfl) rfl rfl (mm_ref i0 rfl) ?_
            refine mm_iload_n C (mm_dec dk_X11_takes 40 rfl) rfl ?_
            refine mm_iload_n C (mm_dec dk_X11_takes 41 rfl) rfl ?_
            refine mm_cVv (rest := []) C1 ev_X11_155 (mm_dec dk_X11_takes 42 rfl) (c_X5_price x.2.1 hl (d - 1) (by omega) h i0 p1 p2 ⟨by omega, by omega⟩ ⟨by omega, by omega⟩) rfl rfl (Nat.le_of_ble_eq_true rfl) ⟨by decide, by decide⟩ rfl (fun h78c hp78 => ?_) (fun _ _ q => q.elim)
            obtain ⟨i78c, g78c⟩ := hp78
            have f78c : mm_fr [] [6] h h78c := mm_fr_tr f0 g78c (by decide +kernel)
            have q78c_6 : h78c.1 22 8 = h.1 22 8 := g78c.1 22 8 (by decide)
            refine mm_iconst C (mm_dec dk_X11_takes 43 rfl) ⟨by decide, by decide⟩ ?_
            exact mm_zret C T (mm_dec dk_X11_takes 44 rfl) (by decide : 0 ≤ 1) (by decide : 0 ≤ 6) (by omega) ⟨_, rfl, ⟨⟨by omega, by omega⟩, i78c, f78c⟩⟩
          refine mm_icmp_eq (tgt := 72) C (mm_dec dk_X11_takes 29 rfl) (by decide) (fun c55 => ?_) (fun c55 => ?_)
          · skip
            refine mm_fgt 3 ?_
            exact J72
          · skip
            refine mm_iload_n C (mm_dec dk_X11_takes 30 rfl) rfl ?_
            refine mm_if_ne (tgt := 72) C (mm_dec dk_X11_takes 31 rfl) (by decide) (fun c59 => ?_) (fun c59 => ?_)
            · skip
              refine mm_fgt 3 ?_
              exact J72
            · skip
              refine mm_aload_n C (mm_dec dk_X11_takes 32 rfl) rfl ?_
              refine mm_iload_n C (mm_dec dk_X11_takes 33 rfl) rfl ?_
              refine mm_cVi (rest := []) C1 ev_X11_152 (mm_dec dk_X11_takes 34 rfl) (c_X11_postStandsOn x.2.1 hl (d - 1) (by omega) h i0 p1) rfl rfl (Nat.le_of_ble_eq_true rfl) ⟨by decide, by decide⟩ rfl (fun r64 h64c hp64 => ?_) (fun _ _ q => q.elim)
              obtain ⟨b64, z64⟩ := hp64
              rw [z64]
              refine mm_if_eq (tgt := 72) C (mm_dec dk_X11_takes 35 rfl) (by decide) (fun c67 => ?_) (fun c67 => ?_)
              · skip
                refine mm_fgt 3 ?_
                exact J72
              · skip
                refine mm_iconst C (mm_dec dk_X11_takes 36 rfl) ⟨by decide, by decide⟩ ?_
                exact mm_zret C T (mm_dec dk_X11_takes 37 rfl) (by decide : 0 ≤ 1) (by decide : 0 ≤ 6) (by omega) ⟨_, rfl, ⟨⟨by omega, by omega⟩, i0, f0⟩⟩
        · skip
          refine mm_fgt 0 ?_
          refine mm_fgt 1 ?_
          refine mm_fgt 2 ?_
          refine mm_fgt 3 ?_
          exact J50
    refine mm_icmp_ne (tgt := 31) C (mm_dec dk_X11_takes 12 rfl) (by decide) (fun c23 => ?_) (fun c23 => ?_)
    · skip
      refine mm_bipush C (mm_dec dk_X11_takes 15 rfl) ⟨by decide, by decide⟩ ?_
      exact J33 99 ⟨by omega, by omega⟩
    · skip
      refine mm_bipush C (mm_dec dk_X11_takes 13 rfl) ⟨by decide, by decide⟩ ?_
      refine mm_goto (tgt := 33) C (mm_dec dk_X11_takes 14 rfl) (by decide) ?_
      exact J33 9 ⟨by omega, by omega⟩
  · skip
    exact mm_throwX C8 T htb th_nse (i := 1) rfl (mm_dec dk_X11_takes 5 rfl) (mm_dec dk_X11_takes 6 rfl) (mm_dec dk_X11_takes 7 rfl) (mm_dec dk_X11_takes 8 rfl) (mm_dec dk_X11_takes 9 rfl) (Nat.le_of_ble_eq_true rfl) ⟨by decide, by decide⟩ ⟨by decide, by decide⟩ (Or.inl ⟨rfl, rfl⟩)
set_option maxRecDepth 100000 in
set_option maxHeartbeats 4000000 in
theorem c_X11_wall (l : Launch) (hl : l.stackTraces = false) (d : Nat) (hd : 9 ≤ d) (h : mH) (i0 : mm_inv h) (p1 : Int) (p2 : Int) (p3 : Int) (p4 : Int) (bp4 : 0 ≤ p4 ∧ p4 ≤ 1) : mm_Met l d yX11_wall cX11_wall 6 (some .boolean) [mR 0, mI p1, mI p2, mI p3, mI p4] h (mm_pi fun r h2 => (0 ≤ r ∧ r ≤ 1) ∧ mm_inv h2 ∧ mm_fr [] [4, 5] h h2) (mm_xp h) 1 6 := by
  refine mm_ofW (ls := [mR 0, mI p1, mI p2, mI p3, mI p4, mU]) hl (by decide) rfl (Nat.le_of_ble_eq_true rfl) ?_
  intro x hxl C T hnm htb
  subst hxl
  have C1 := mm_OK_le (d' := d - 1 + 1) (by omega) C
  have C8 := mm_OK_le (d' := d - 8 + 8) (by omega) C
  refine mm_rng (fun hr _ => ?_)
  have ap1 : -2147483648 ≤ p1 ∧ p1 < 2147483648 := mm_ok_at hr (i := 1) rfl
  have ap2 : -2147483648 ≤ p2 ∧ p2 < 2147483648 := mm_ok_at hr (i := 2) rfl
  have ap3 : -2147483648 ≤ p3 ∧ p3 < 2147483648 := mm_ok_at hr (i := 3) rfl
  have ap4 : -2147483648 ≤ p4 ∧ p4 < 2147483648 := mm_ok_at hr (i := 4) rfl
  have f0 : mm_fr [] [4, 5] h h := mm_fr_rf
  refine mm_aload_n C (mm_dec dk_X11_wall 0 rfl) rfl ?_
  refine mm_iload_n C (mm_dec dk_X11_wall 1 rfl) rfl ?_
  refine mm_iload_n C (mm_dec dk_X11_wall 2 rfl) rfl ?_
  refine mm_cVi (rest := []) C1 ev_X11_122 (mm_dec dk_X11_wall 3 rfl) (c_X11_needCell x.2.1 hl (d - 1) (by omega) h i0 p1 p2) rfl rfl (Nat.le_of_ble_eq_true rfl) ⟨by decide, by decide⟩ rfl (fun r3 h3c hp3 => ?_) (fun E hx q => mm_out C T htb (by decide) (by decide) (by rcases q with ⟨q1, q2⟩ | ⟨q1, q2⟩ <;> first | exact Or.inl ⟨q1, q2⟩ | exact Or.inr ⟨q1, q2⟩))
  obtain ⟨z3, k3_0, k3_1, k3_2, k3_3, k3_4, y3⟩ := hp3
  rw [z3, y3]
  have g2 : 1 ≤ (h.1 1 5) ∧ (h.1 1 5) ≤ 20 := i0.1 1 5
  have g3 : 1 ≤ (h.1 1 6) ∧ (h.1 1 6) ≤ 20 := i0.1 1 6
  refine mm_istoreL (ls2 := [mR 0, mI p1, mI p2, mI p3, mI p4, mI ((p2 * 20) + p1)]) C (mm_dec dk_X11_wall 4 rfl) (by decide) rfl ?_
  refine mm_aload_n C (mm_dec dk_X11_wall 5 rfl) rfl ?_
  refine mm_cVi (rest := []) C1 ev_X11_126 (mm_dec dk_X11_wall 6 rfl) (c_X11_landIsFixed x.2.1 hl (d - 1) (by omega) h i0 ) rfl rfl (Nat.le_of_ble_eq_true rfl) ⟨by decide, by decide⟩ rfl (fun r9 h9c hp9 => ?_) (fun _ _ q => q.elim)
  obtain ⟨z9, y9⟩ := hp9
  rw [z9]
  have g5 : 0 ≤ (h.1 22 8) ∧ (h.1 22 8) ≤ 40 := i0.1 22 8
  have J25 : mm_W x 1 6 25 [mU, mU, mU, mU, mU, mU] [] h := by
    refine mm_iconst C (mm_dec dk_X11_wall 14 rfl) ⟨by decide, by decide⟩ ?_
    exact mm_zret C T (mm_dec dk_X11_wall 15 rfl) (by decide : 1 ≤ 1) (by decide : 6 ≤ 6) (by omega) ⟨_, rfl, ⟨⟨by omega, by omega⟩, i0, f0⟩⟩
  refine mm_if_ne (tgt := 25) C (mm_dec dk_X11_wall 7 rfl) (by decide) (fun c12 => ?_) (fun c12 => ?_)
  · skip
    refine mm_fgt 0 ?_
    refine mm_fgt 1 ?_
    refine mm_fgt 2 ?_
    refine mm_fgt 3 ?_
    refine mm_fgt 4 ?_
    refine mm_fgt 5 ?_
    exact J25
  · skip
    refine mm_iload_n C (mm_dec dk_X11_wall 8 rfl) rfl ?_
    refine mm_iconst C (mm_dec dk_X11_wall 9 rfl) ⟨by decide, by decide⟩ ?_
    have J27 : mm_W x 1 6 27 [mR 0, mI p1, mI p2, mI p3, mI p4, mI ((p2 * 20) + p1)] [] h := by
      refine mm_aload_n C (mm_dec dk_X11_wall 16 rfl) rfl ?_
      refine mm_getr (t := 1) C fl_X11_12 (mm_dec dk_X11_wall 17 rfl) rfl rfl (mm_ref i0 rfl) ?_
      refine mm_iload_n C (mm_dec dk_X11_wall 18 rfl) rfl ?_
      refine mm_iconst C (mm_dec dk_X11_wall 19 rfl) ⟨by decide, by decide⟩ ?_
      have J43 : ∀ (s43_1 : Int) (bs43_1 : 0 ≤ s43_1 ∧ s43_1 ≤ 20), mm_W x 1 6 43 [mR 0, mU, mI p2, mI p3, mI p4, mI ((p2 * 20) + p1)] [mI s43_1, mR 1] h := by
        intro s43_1 bs43_1
        refine mm_iload_n C (mm_dec dk_X11_wall 26 rfl) rfl ?_
        refine mm_iconst C (mm_dec dk_X11_wall 27 rfl) ⟨by decide, by decide⟩ ?_
        have J55 : ∀ (s55_2 : Int) (bs55_2 : 0 ≤ s55_2 ∧ s55_2 ≤ 20), mm_W x 1 6 55 [mR 0, mU, mU, mI p3, mI p4, mI ((p2 * 20) + p1)] [mI s55_2, mI s43_1, mR 1] h := by
          intro s55_2 bs55_2
          refine mm_cVi (rest := []) C1 ev_X11_158 (mm_dec dk_X11_wall 34 rfl) (c_X5_holds x.2.1 hl (d - 1) (by omega) h i0 s43_1 s55_2) rfl rfl (Nat.le_of_ble_eq_true rfl) ⟨by decide, by decide⟩ rfl (fun r55 h55c hp55 => ?_) (fun _ _ q => q.elim)
          obtain ⟨z55, y55⟩ := hp55
          rw [z55]
          refine mm_if_ne (tgt := 63) C (mm_dec dk_X11_wall 35 rfl) (by decide) (fun c58 => ?_) (fun c58 => ?_)
          · skip
            refine mm_aload_n C (mm_dec dk_X11_wall 38 rfl) rfl ?_
            refine mm_getr (t := 1) C fl_X11_12 (mm_dec dk_X11_wall 39 rfl) rfl rfl (mm_ref i0 rfl) ?_
            refine mm_iload C (mm_dec dk_X11_wall 40 rfl) rfl ?_
            refine mm_iload_n C (mm_dec dk_X11_wall 41 rfl) rfl ?_
            refine mm_iload C (mm_dec dk_X11_wall 42 rfl) rfl ?_
            refine mm_cVv (rest := []) C1 ev_X11_162 (mm_dec dk_X11_wall 43 rfl) (c_X5_build x.2.1 hl (d - 1) (by omega) h i0 ((p2 * 20) + p1) p3 p4 ⟨by omega, by omega⟩ ⟨by omega, by omega⟩) rfl rfl (Nat.le_of_ble_eq_true rfl) ⟨by decide, by decide⟩ rfl (fun h72c hp72 => ?_) (fun _ _ q => q.elim)
            obtain ⟨i72c, g72c⟩ := hp72
            have f72c : mm_fr [] [4, 5] h h72c := mm_fr_tr f0 g72c (by decide +kernel)
            have q72c_8 : h72c.1 1 5 = h.1 1 5 := g72c.1 1 5 (by decide)
            have q72c_9 : h72c.1 1 6 = h.1 1 6 := g72c.1 1 6 (by decide)
            have q72c_10 : h72c.1 22 8 = h.1 22 8 := g72c.1 22 8 (by decide)
            refine mm_iconst C (mm_dec dk_X11_wall 44 rfl) ⟨by decide, by decide⟩ ?_
            exact mm_zret C T (mm_dec dk_X11_wall 45 rfl) (by decide : 1 ≤ 1) (by decide : 6 ≤ 6) (by omega) ⟨_, rfl, ⟨⟨by omega, by omega⟩, i72c, f72c⟩⟩
          · skip
            refine mm_iconst C (mm_dec dk_X11_wall 36 rfl) ⟨by decide, by decide⟩ ?_
            exact mm_zret C T (mm_dec dk_X11_wall 37 rfl) (by decide : 1 ≤ 1) (by decide : 6 ≤ 6) (by omega) ⟨_, rfl, ⟨⟨by omega, by omega⟩, i0, f0⟩⟩
        refine mm_icmp_ne (tgt := 54) C (mm_dec dk_X11_wall 28 rfl) (by decide) (fun c45 => ?_) (fun c45 => ?_)
        · skip
          refine mm_iload_n C (mm_dec dk_X11_wall 33 rfl) rfl ?_
          refine mm_fgt 2 ?_
          exact J55 p2 ⟨by omega, by omega⟩
        · skip
          refine mm_iload_n C (mm_dec dk_X11_wall 29 rfl) rfl ?_
          refine mm_iconst C (mm_dec dk_X11_wall 30 rfl) ⟨by decide, by decide⟩ ?_
          refine mm_iadd C (mm_dec dk_X11_wall 31 rfl) ⟨by omega, by omega⟩ ?_
          refine mm_goto (tgt := 55) C (mm_dec dk_X11_wall 32 rfl) (by decide) ?_
          refine mm_fgt 2 ?_
          exact J55 (p2 + 1) ⟨by omega, by omega⟩
      refine mm_icmp_ne (tgt := 42) C (mm_dec dk_X11_wall 20 rfl) (by decide) (fun c33 => ?_) (fun c33 => ?_)
      · skip
        refine mm_iload_n C (mm_dec dk_X11_wall 25 rfl) rfl ?_
        refine mm_fgt 1 ?_
        exact J43 p1 ⟨by omega, by omega⟩
      · skip
        refine mm_iload_n C (mm_dec dk_X11_wall 21 rfl) rfl ?_
        refine mm_iconst C (mm_dec dk_X11_wall 22 rfl) ⟨by decide, by decide⟩ ?_
        refine mm_iadd C (mm_dec dk_X11_wall 23 rfl) ⟨by omega, by omega⟩ ?_
        refine mm_goto (tgt := 43) C (mm_dec dk_X11_wall 24 rfl) (by decide) ?_
        refine mm_fgt 1 ?_
        exact J43 (p1 + 1) ⟨by omega, by omega⟩
    refine mm_icmp_eq (tgt := 27) C (mm_dec dk_X11_wall 10 rfl) (by decide) (fun c17 => ?_) (fun c17 => ?_)
    · skip
      exact J27
    · skip
      refine mm_iload_n C (mm_dec dk_X11_wall 11 rfl) rfl ?_
      refine mm_iconst C (mm_dec dk_X11_wall 12 rfl) ⟨by decide, by decide⟩ ?_
      refine mm_icmp_eq (tgt := 27) C (mm_dec dk_X11_wall 13 rfl) (by decide) (fun c22 => ?_) (fun c22 => ?_)
      · skip
        exact J27
      · skip
        refine mm_fgt 0 ?_
        refine mm_fgt 1 ?_
        refine mm_fgt 2 ?_
        refine mm_fgt 3 ?_
        refine mm_fgt 4 ?_
        refine mm_fgt 5 ?_
        exact J25
set_option maxRecDepth 100000 in
set_option maxHeartbeats 4000000 in
theorem c_X11_gates (l : Launch) (hl : l.stackTraces = false) (d : Nat) (hd : 9 ≤ d) (h : mH) (i0 : mm_inv h) (p1 : Int) (p2 : Int) (p3 : Int) (p4 : Int) : mm_Met l d yX11_gates cX11_gates 7 (some .boolean) [mR 0, mI p1, mI p2, mI p3, mI p4] h (mm_pi fun r h2 => (0 ≤ r ∧ r ≤ 1) ∧ mm_inv h2 ∧ mm_fr [(1, 7), (1, 8)] [] h h2) (mm_xp h) 2 12 := by
  refine mm_ofW (ls := [mR 0, mI p1, mI p2, mI p3, mI p4, mU, mU]) hl (by decide) rfl (Nat.le_of_ble_eq_true rfl) ?_
  intro x hxl C T hnm htb
  subst hxl
  have C1 := mm_OK_le (d' := d - 1 + 1) (by omega) C
  have C8 := mm_OK_le (d' := d - 8 + 8) (by omega) C
  refine mm_rng (fun hr _ => ?_)
  have ap1 : -2147483648 ≤ p1 ∧ p1 < 2147483648 := mm_ok_at hr (i := 1) rfl
  have ap2 : -2147483648 ≤ p2 ∧ p2 < 2147483648 := mm_ok_at hr (i := 2) rfl
  have ap3 : -2147483648 ≤ p3 ∧ p3 < 2147483648 := mm_ok_at hr (i := 3) rfl
  have ap4 : -2147483648 ≤ p4 ∧ p4 < 2147483648 := mm_ok_at hr (i := 4) rfl
  have f0 : mm_fr [(1, 7), (1, 8)] [] h h := mm_fr_rf
  refine mm_aload_n C (mm_dec dk_X11_gates 0 rfl) rfl ?_
  refine mm_iload_n C (mm_dec dk_X11_gates 1 rfl) rfl ?_
  refine mm_iload_n C (mm_dec dk_X11_gates 2 rfl) rfl ?_
  refine mm_cVi (rest := []) C1 ev_X11_122 (mm_dec dk_X11_gates 3 rfl) (c_X11_needCell x.2.1 hl (d - 1) (by omega) h i0 p1 p2) rfl rfl (Nat.le_of_ble_eq_true rfl) ⟨by decide, by decide⟩ rfl (fun r3 h3c hp3 => ?_) (fun E hx q => mm_out C T htb (by decide) (by decide) (by rcases q with ⟨q1, q2⟩ | ⟨q1, q2⟩ <;> first | exact Or.inl ⟨q1, q2⟩ | exact Or.inr ⟨q1, q2⟩))
  obtain ⟨z3, k3_0, k3_1, k3_2, k3_3, k3_4, y3⟩ := hp3
  rw [z3, y3]
  have g2 : 1 ≤ (h.1 1 5) ∧ (h.1 1 5) ≤ 20 := i0.1 1 5
  have g3 : 1 ≤ (h.1 1 6) ∧ (h.1 1 6) ≤ 20 := i0.1 1 6
  refine mm_istoreL (ls2 := [mR 0, mI p1, mI p2, mI p3, mI p4, mI ((p2 * 20) + p1), mU]) C (mm_dec dk_X11_gates 4 rfl) (by decide) rfl ?_
  refine mm_aload_n C (mm_dec dk_X11_gates 5 rfl) rfl ?_
  refine mm_iload_n C (mm_dec dk_X11_gates 6 rfl) rfl ?_
  refine mm_iload C (mm_dec dk_X11_gates 7 rfl) rfl ?_
  refine mm_cVi (rest := []) C1 ev_X11_122 (mm_dec dk_X11_gates 8 rfl) (c_X11_needCell x.2.1 hl (d - 1) (by omega) h i0 p3 p4) rfl rfl (Nat.le_of_ble_eq_true rfl) ⟨by decide, by decide⟩ rfl (fun r12 h12c hp12 => ?_) (fun E hx q => mm_out C T htb (by decide) (by decide) (by rcases q with ⟨q1, q2⟩ | ⟨q1, q2⟩ <;> first | exact Or.inl ⟨q1, q2⟩ | exact Or.inr ⟨q1, q2⟩))
  obtain ⟨z12, k12_0, k12_1, k12_2, k12_3, k12_4, y12⟩ := hp12
  rw [z12, y12]
  refine mm_istoreL (ls2 := [mR 0, mI p1, mI p2, mI p3, mI p4, mI ((p2 * 20) + p1), mI ((p4 * 20) + p3)]) C (mm_dec dk_X11_gates 9 rfl) (by decide) rfl ?_
  refine mm_aload_n C (mm_dec dk_X11_gates 10 rfl) rfl ?_
  refine mm_cVi (rest := []) C1 ev_X11_126 (mm_dec dk_X11_gates 11 rfl) (c_X11_landIsFixed x.2.1 hl (d - 1) (by omega) h i0 ) rfl rfl (Nat.le_of_ble_eq_true rfl) ⟨by decide, by decide⟩ rfl (fun r18 h18c hp18 => ?_) (fun _ _ q => q.elim)
  obtain ⟨z18, y18⟩ := hp18
  rw [z18]
  have g6 : 0 ≤ (h.1 22 8) ∧ (h.1 22 8) ≤ 40 := i0.1 22 8
  refine mm_if_eq (tgt := 26) C (mm_dec dk_X11_gates 12 rfl) (by decide) (fun c21 => ?_) (fun c21 => ?_)
  · skip
    refine mm_aload_n C (mm_dec dk_X11_gates 15 rfl) rfl ?_
    refine mm_getr (t := 1) C fl_X11_12 (mm_dec dk_X11_gates 16 rfl) rfl rfl (mm_ref i0 rfl) ?_
    refine mm_iload C (mm_dec dk_X11_gates 17 rfl) rfl ?_
    refine mm_puti C fl_X11_166 (mm_dec dk_X11_gates 18 rfl) rfl rfl rfl (Or.inl ⟨rfl, rfl⟩) ?_
    have i1 : mm_inv (mm_pf h 1 7 ((p2 * 20) + p1)) := mm_inv_pf i0 (show 0 ≤ ((p2 * 20) + p1) ∧ ((p2 * 20) + p1) ≤ 399 from ⟨by omega, by omega⟩) (by decide)
    have f1 : mm_fr [(1, 7), (1, 8)] [] h (mm_pf h 1 7 ((p2 * 20) + p1)) := mm_fr_pf f0 (by decide)
    obtain ⟨h1, eh1⟩ : ∃ z, z = mm_pf h 1 7 ((p2 * 20) + p1) := ⟨_, rfl⟩
    rw [← eh1] at i1 f1 ⊢
    have qh1 : h1.1 1 7 = ((p2 * 20) + p1) := by rw [eh1]; exact mm_pf_same _ _ _ _
    have qh1_7 : h1.1 1 5 = h.1 1 5 := by rw [eh1]; exact mm_pf_ne _ _ (by decide)
    have qh1_8 : h1.1 1 6 = h.1 1 6 := by rw [eh1]; exact mm_pf_ne _ _ (by decide)
    have qh1_9 : h1.1 22 8 = h.1 22 8 := by rw [eh1]; exact mm_pf_ne _ _ (by decide)
    refine mm_aload_n C (mm_dec dk_X11_gates 19 rfl) rfl ?_
    refine mm_getr (t := 1) C fl_X11_12 (mm_dec dk_X11_gates 20 rfl) rfl rfl (mm_ref i1 rfl) ?_
    refine mm_iload C (mm_dec dk_X11_gates 21 rfl) rfl ?_
    refine mm_puti C fl_X11_169 (mm_dec dk_X11_gates 22 rfl) rfl rfl rfl (Or.inl ⟨rfl, rfl⟩) ?_
    have i2 : mm_inv (mm_pf h1 1 8 ((p4 * 20) + p3)) := mm_inv_pf i1 (show 0 ≤ ((p4 * 20) + p3) ∧ ((p4 * 20) + p3) ≤ 399 from ⟨by omega, by omega⟩) (by decide)
    have f2 : mm_fr [(1, 7), (1, 8)] [] h (mm_pf h1 1 8 ((p4 * 20) + p3)) := mm_fr_pf f1 (by decide)
    obtain ⟨h2, eh2⟩ : ∃ z, z = mm_pf h1 1 8 ((p4 * 20) + p3) := ⟨_, rfl⟩
    rw [← eh2] at i2 f2 ⊢
    have qh2 : h2.1 1 8 = ((p4 * 20) + p3) := by rw [eh2]; exact mm_pf_same _ _ _ _
    have qh2_10 : h2.1 1 5 = h1.1 1 5 := by rw [eh2]; exact mm_pf_ne _ _ (by decide)
    have qh2_11 : h2.1 1 6 = h1.1 1 6 := by rw [eh2]; exact mm_pf_ne _ _ (by decide)
    have qh2_12 : h2.1 1 7 = h1.1 1 7 := by rw [eh2]; exact mm_pf_ne _ _ (by decide)
    have qh2_13 : h2.1 22 8 = h1.1 22 8 := by rw [eh2]; exact mm_pf_ne _ _ (by decide)
    refine mm_iconst C (mm_dec dk_X11_gates 23 rfl) ⟨by decide, by decide⟩ ?_
    exact mm_zret C T (mm_dec dk_X11_gates 24 rfl) (by decide : 2 ≤ 2) (by decide : 12 ≤ 12) (by omega) ⟨_, rfl, ⟨⟨by omega, by omega⟩, i2, f2⟩⟩
  · skip
    refine mm_iconst C (mm_dec dk_X11_gates 13 rfl) ⟨by decide, by decide⟩ ?_
    exact mm_zret C T (mm_dec dk_X11_gates 14 rfl) (by decide : 2 ≤ 2) (by decide : 12 ≤ 12) (by omega) ⟨_, rfl, ⟨⟨by omega, by omega⟩, i0, f0⟩⟩
set_option maxRecDepth 100000 in
set_option maxHeartbeats 4000000 in
theorem c_X11_post (l : Launch) (hl : l.stackTraces = false) (d : Nat) (hd : 9 ≤ d) (h : mH) (i0 : mm_inv h) (p1 : Int) (p2 : Int) (p3 : Int) : mm_Met l d yX11_post cX11_post 5 (some .int) [mR 0, mI p1, mI p2, mI p3] h (mm_pi fun r h2 => (-1 ≤ r ∧ r ≤ 19) ∧ mm_inv h2 ∧ mm_fr [(14, 7)] [15, 16] h h2) (mm_xp h) 1 6 := by
  refine mm_ofW (ls := [mR 0, mI p1, mI p2, mI p3, mU]) hl (by decide) rfl (Nat.le_of_ble_eq_true rfl) ?_
  intro x hxl C T hnm htb
  subst hxl
  have C1 := mm_OK_le (d' := d - 1 + 1) (by omega) C
  have C8 := mm_OK_le (d' := d - 8 + 8) (by omega) C
  refine mm_rng (fun hr _ => ?_)
  have ap1 : -2147483648 ≤ p1 ∧ p1 < 2147483648 := mm_ok_at hr (i := 1) rfl
  have ap2 : -2147483648 ≤ p2 ∧ p2 < 2147483648 := mm_ok_at hr (i := 2) rfl
  have ap3 : -2147483648 ≤ p3 ∧ p3 < 2147483648 := mm_ok_at hr (i := 3) rfl
  have f0 : mm_fr [(14, 7)] [15, 16] h h := mm_fr_rf
  refine mm_aload_n C (mm_dec dk_X11_post 0 rfl) rfl ?_
  refine mm_iload_n C (mm_dec dk_X11_post 1 rfl) rfl ?_
  refine mm_iload_n C (mm_dec dk_X11_post 2 rfl) rfl ?_
  refine mm_cVi (rest := []) C1 ev_X11_122 (mm_dec dk_X11_post 3 rfl) (c_X11_needCell x.2.1 hl (d - 1) (by omega) h i0 p1 p2) rfl rfl (Nat.le_of_ble_eq_true rfl) ⟨by decide, by decide⟩ rfl (fun r3 h3c hp3 => ?_) (fun E hx q => mm_out C T htb (by decide) (by decide) (by rcases q with ⟨q1, q2⟩ | ⟨q1, q2⟩ <;> first | exact Or.inl ⟨q1, q2⟩ | exact Or.inr ⟨q1, q2⟩))
  obtain ⟨z3, k3_0, k3_1, k3_2, k3_3, k3_4, y3⟩ := hp3
  rw [z3, y3]
  have g2 : 1 ≤ (h.1 1 5) ∧ (h.1 1 5) ≤ 20 := i0.1 1 5
  have g3 : 1 ≤ (h.1 1 6) ∧ (h.1 1 6) ≤ 20 := i0.1 1 6
  refine mm_istoreL (ls2 := [mR 0, mI p1, mI p2, mI p3, mI ((p2 * 20) + p1)]) C (mm_dec dk_X11_post 4 rfl) (by decide) rfl ?_
  refine mm_aload_n C (mm_dec dk_X11_post 5 rfl) rfl ?_
  refine mm_getr (t := 14) C fl_X11_28 (mm_dec dk_X11_post 6 rfl) rfl rfl (mm_ref i0 rfl) ?_
  refine mm_cVi (rest := []) C1 ev_X11_191 (mm_dec dk_X11_post 7 rfl) (c_X2_posts x.2.1 hl (d - 1) (by omega) h i0 ) rfl rfl (Nat.le_of_ble_eq_true rfl) ⟨by decide, by decide⟩ rfl (fun r12 h12c hp12 => ?_) (fun _ _ q => q.elim)
  obtain ⟨z12, y12⟩ := hp12
  rw [z12, y12]
  have g5 : 0 ≤ (h.1 14 7) ∧ (h.1 14 7) ≤ 20 := i0.1 14 7
  refine mm_bipush C (mm_dec dk_X11_post 8 rfl) ⟨by decide, by decide⟩ ?_
  have J42 : mm_W x 1 6 42 [mU, mU, mU, mU, mU] [] h := by
    refine mm_iconst C (mm_dec dk_X11_post 20 rfl) ⟨by decide, by decide⟩ ?_
    exact mm_iret C T (mm_dec dk_X11_post 21 rfl) (by decide : 1 ≤ 1) (by decide : 6 ≤ 6) ⟨_, rfl, ⟨⟨by omega, by omega⟩, i0, f0⟩⟩
  refine mm_icmp_ge (tgt := 42) C (mm_dec dk_X11_post 9 rfl) (by decide) (fun c17 => ?_) (fun c17 => ?_)
  · skip
    refine mm_fgt 0 ?_
    refine mm_fgt 1 ?_
    refine mm_fgt 2 ?_
    refine mm_fgt 3 ?_
    refine mm_fgt 4 ?_
    exact J42
  · skip
    refine mm_iload_n C (mm_dec dk_X11_post 10 rfl) rfl ?_
    refine mm_iconst C (mm_dec dk_X11_post 11 rfl) ⟨by decide, by decide⟩ ?_
    refine mm_bipush C (mm_dec dk_X11_post 12 rfl) ⟨by decide, by decide⟩ ?_
    refine mm_cSi (rest := []) C1 es_X11_130 (mm_dec dk_X11_post 13 rfl) (c_X11_within x.2.1 hl (d - 1) (by omega) h i0 p3 0 99) rfl (Nat.le_of_ble_eq_true rfl) ⟨by decide, by decide⟩ rfl (fun r24 h24c hp24 => ?_) (fun _ _ q => q.elim)
    obtain ⟨z24, y24⟩ := hp24
    rw [z24]
    refine mm_if_eq (tgt := 42) C (mm_dec dk_X11_post 14 rfl) (by decide) (fun c27 => ?_) (fun c27 => ?_)
    · skip
      refine mm_fgt 0 ?_
      refine mm_fgt 1 ?_
      refine mm_fgt 2 ?_
      refine mm_fgt 3 ?_
      refine mm_fgt 4 ?_
      exact J42
    · skip
      refine mm_aload_n C (mm_dec dk_X11_post 15 rfl) rfl ?_
      refine mm_getr (t := 1) C fl_X11_12 (mm_dec dk_X11_post 16 rfl) rfl rfl (mm_ref i0 rfl) ?_
      refine mm_iload C (mm_dec dk_X11_post 17 rfl) rfl ?_
      refine mm_cVi (rest := []) C1 ev_X11_194 (mm_dec dk_X11_post 18 rfl) (c_X5_canEnter x.2.1 hl (d - 1) (by omega) h i0 ((p2 * 20) + p1) ⟨by omega, by omega⟩) rfl rfl (Nat.le_of_ble_eq_true rfl) ⟨by decide, by decide⟩ rfl (fun r36 h36c hp36 => ?_) (fun _ _ q => q.elim)
      obtain ⟨z36, y36⟩ := hp36
      rw [z36]
      have g8 : 0 ≤ (h.2.1 6 (h.2.1 2 ((p2 * 20) + p1))) ∧ (h.2.1 6 (h.2.1 2 ((p2 * 20) + p1))) ≤ 99 := i0.2.1 6 (h.2.1 2 ((p2 * 20) + p1))
      have g9 : 0 ≤ (h.2.1 2 ((p2 * 20) + p1)) ∧ (h.2.1 2 ((p2 * 20) + p1)) ≤ 7 := i0.2.1 2 ((p2 * 20) + p1)
      refine mm_if_ne (tgt := 44) C (mm_dec dk_X11_post 19 rfl) (by decide) (fun c39 => ?_) (fun c39 => ?_)
      · skip
        refine mm_aload_n C (mm_dec dk_X11_post 22 rfl) rfl ?_
        refine mm_getr (t := 14) C fl_X11_28 (mm_dec dk_X11_post 23 rfl) rfl rfl (mm_ref i0 rfl) ?_
        refine mm_iload C (mm_dec dk_X11_post 24 rfl) rfl ?_
        refine mm_iload_n C (mm_dec dk_X11_post 25 rfl) rfl ?_
        refine mm_cVi (rest := []) C1 ev_X11_197 (mm_dec dk_X11_post 26 rfl) (c_X2_setPost x.2.1 hl (d - 1) (by omega) h i0 ((p2 * 20) + p1) p3 ⟨by omega, by omega⟩ ⟨by omega, by omega⟩ (by omega)) rfl rfl (Nat.le_of_ble_eq_true rfl) ⟨by decide, by decide⟩ rfl (fun r51 h51c hp51 => ?_) (fun _ _ q => q.elim)
        obtain ⟨b51, i51c, g51c⟩ := hp51
        have f51c : mm_fr [(14, 7)] [15, 16] h h51c := mm_fr_tr f0 g51c (by decide +kernel)
        have q51c_11 : h51c.1 1 5 = h.1 1 5 := g51c.1 1 5 (by decide)
        have q51c_12 : h51c.1 1 6 = h.1 1 6 := g51c.1 1 6 (by decide)
        exact mm_iret C T (mm_dec dk_X11_post 27 rfl) (by decide : 1 ≤ 1) (by decide : 6 ≤ 6) ⟨_, rfl, ⟨⟨by omega, by omega⟩, i51c, f51c⟩⟩
      · skip
        refine mm_fgt 0 ?_
        refine mm_fgt 1 ?_
        refine mm_fgt 2 ?_
        refine mm_fgt 3 ?_
        refine mm_fgt 4 ?_
        exact J42
set_option maxRecDepth 100000 in
set_option maxHeartbeats 4000000 in
theorem c_X11_add (l : Launch) (hl : l.stackTraces = false) (d : Nat) (hd : 9 ≤ d) (h : mH) (i0 : mm_inv h) (p1 : Int) (p2 : Int) (p3 : Int) (p4 : Int) : mm_Met l d yX11_add cX11_add 5 (some .int) [mR 0, mI p1, mI p2, mI p3, mI p4] h (mm_pi fun r h2 => (-1 ≤ r ∧ r ≤ 12) ∧ mm_inv h2 ∧ mm_fr [] [19, 20, 21] h h2) (mm_xp h) 4 24 := by
  refine mm_ofW (ls := [mR 0, mI p1, mI p2, mI p3, mI p4]) hl (by decide) rfl (Nat.le_of_ble_eq_true rfl) ?_
  intro x hxl C T hnm htb
  subst hxl
  have C1 := mm_OK_le (d' := d - 1 + 1) (by omega) C
  have C8 := mm_OK_le (d' := d - 8 + 8) (by omega) C
  refine mm_rng (fun hr _ => ?_)
  have ap1 : -2147483648 ≤ p1 ∧ p1 < 2147483648 := mm_ok_at hr (i := 1) rfl
  have ap2 : -2147483648 ≤ p2 ∧ p2 < 2147483648 := mm_ok_at hr (i := 2) rfl
  have ap3 : -2147483648 ≤ p3 ∧ p3 < 2147483648 := mm_ok_at hr (i := 3) rfl
  have ap4 : -2147483648 ≤ p4 ∧ p4 < 2147483648 := mm_ok_at hr (i := 4) rfl
  have f0 : mm_fr [] [19, 20, 21] h h := mm_fr_rf
  refine mm_aload_n C (mm_dec dk_X11_add 0 rfl) rfl ?_
  refine mm_iload_n C (mm_dec dk_X11_add 1 rfl) rfl ?_
  refine mm_cVv (rest := []) C1 ev_X11_207 (mm_dec dk_X11_add 2 rfl) (c_X11_needCourse x.2.1 hl (d - 1) (by omega) h i0 p1) rfl rfl (Nat.le_of_ble_eq_true rfl) ⟨by decide, by decide⟩ rfl (fun h2c hp2 => ?_) (fun E hx q => mm_out C T htb (by decide) (by decide) (by rcases q with ⟨q1, q2⟩ | ⟨q1, q2⟩ <;> first | exact Or.inl ⟨q1, q2⟩ | exact Or.inr ⟨q1, q2⟩))
  obtain ⟨z2, k2_0, k2_1⟩ := hp2
  rw [z2]
  have g2 : 0 ≤ (h.1 14 8) ∧ (h.1 14 8) ≤ 8 := i0.1 14 8
  refine mm_aload_n C (mm_dec dk_X11_add 3 rfl) rfl ?_
  refine mm_iload_n C (mm_dec dk_X11_add 4 rfl) rfl ?_
  refine mm_cVv (rest := []) C1 ev_X11_211 (mm_dec dk_X11_add 5 rfl) (c_X11_needPost x.2.1 hl (d - 1) (by omega) h i0 p2) rfl rfl (Nat.le_of_ble_eq_true rfl) ⟨by decide, by decide⟩ rfl (fun h7c hp7 => ?_) (fun E hx q => mm_out C T htb (by decide) (by decide) (by rcases q with ⟨q1, q2⟩ | ⟨q1, q2⟩ <;> first | exact Or.inl ⟨q1, q2⟩ | exact Or.inr ⟨q1, q2⟩))
  obtain ⟨z7, k7_0, k7_1⟩ := hp7
  rw [z7]
  have g4 : 0 ≤ (h.1 14 7) ∧ (h.1 14 7) ≤ 20 := i0.1 14 7
  refine mm_aload_n C (mm_dec dk_X11_add 6 rfl) rfl ?_
  refine mm_iload_n C (mm_dec dk_X11_add 7 rfl) rfl ?_
  refine mm_cVv (rest := []) C1 ev_X11_211 (mm_dec dk_X11_add 8 rfl) (c_X11_needPost x.2.1 hl (d - 1) (by omega) h i0 p3) rfl rfl (Nat.le_of_ble_eq_true rfl) ⟨by decide, by decide⟩ rfl (fun h12c hp12 => ?_) (fun E hx q => mm_out C T htb (by decide) (by decide) (by rcases q with ⟨q1, q2⟩ | ⟨q1, q2⟩ <;> first | exact Or.inl ⟨q1, q2⟩ | exact Or.inr ⟨q1, q2⟩))
  obtain ⟨z12, k12_0, k12_1⟩ := hp12
  rw [z12]
  refine mm_aload_n C (mm_dec dk_X11_add 9 rfl) rfl ?_
  refine mm_iload C (mm_dec dk_X11_add 10 rfl) rfl ?_
  refine mm_cVv (rest := []) C1 ev_X11_211 (mm_dec dk_X11_add 11 rfl) (c_X11_needPost x.2.1 hl (d - 1) (by omega) h i0 p4) rfl rfl (Nat.le_of_ble_eq_true rfl) ⟨by decide, by decide⟩ rfl (fun h18c hp18 => ?_) (fun E hx q => mm_out C T htb (by decide) (by decide) (by rcases q with ⟨q1, q2⟩ | ⟨q1, q2⟩ <;> first | exact Or.inl ⟨q1, q2⟩ | exact Or.inr ⟨q1, q2⟩))
  obtain ⟨z18, k18_0, k18_1⟩ := hp18
  rw [z18]
  refine mm_aload_n C (mm_dec dk_X11_add 12 rfl) rfl ?_
  refine mm_getr (t := 14) C fl_X11_28 (mm_dec dk_X11_add 13 rfl) rfl rfl (mm_ref i0 rfl) ?_
  refine mm_iload_n C (mm_dec dk_X11_add 14 rfl) rfl ?_
  refine mm_cVi (rest := []) C1 ev_X11_214 (mm_dec dk_X11_add 15 rfl) (c_X2_elements x.2.1 hl (d - 1) (by omega) h i0 p1 ⟨by omega, by omega⟩) rfl rfl (Nat.le_of_ble_eq_true rfl) ⟨by decide, by decide⟩ rfl (fun r26 h26c hp26 => ?_) (fun _ _ q => q.elim)
  obtain ⟨z26, y26⟩ := hp26
  rw [z26, y26]
  have g8 : 0 ≤ (h.2.1 19 p1) ∧ (h.2.1 19 p1) ≤ 12 := i0.2.1 19 p1
  refine mm_bipush C (mm_dec dk_X11_add 16 rfl) ⟨by decide, by decide⟩ ?_
  have J45 : mm_W x 4 24 45 [mU, mU, mU, mU, mU] [] h := by
    refine mm_iconst C (mm_dec dk_X11_add 23 rfl) ⟨by decide, by decide⟩ ?_
    exact mm_iret C T (mm_dec dk_X11_add 24 rfl) (by decide : 4 ≤ 4) (by decide : 24 ≤ 24) ⟨_, rfl, ⟨⟨by omega, by omega⟩, i0, f0⟩⟩
  refine mm_icmp_ge (tgt := 45) C (mm_dec dk_X11_add 17 rfl) (by decide) (fun c31 => ?_) (fun c31 => ?_)
  · skip
    refine mm_fgt 0 ?_
    refine mm_fgt 1 ?_
    refine mm_fgt 2 ?_
    refine mm_fgt 3 ?_
    refine mm_fgt 4 ?_
    exact J45
  · skip
    refine mm_aload_n C (mm_dec dk_X11_add 18 rfl) rfl ?_
    refine mm_getr (t := 14) C fl_X11_28 (mm_dec dk_X11_add 19 rfl) rfl rfl (mm_ref i0 rfl) ?_
    refine mm_iload_n C (mm_dec dk_X11_add 20 rfl) rfl ?_
    refine mm_cVi (rest := []) C1 ev_X11_217 (mm_dec dk_X11_add 21 rfl) (c_X2_isTaken x.2.1 hl (d - 1) (by omega) h i0 p1 ⟨by omega, by omega⟩) rfl rfl (Nat.le_of_ble_eq_true rfl) ⟨by decide, by decide⟩ rfl (fun r39 h39c hp39 => ?_) (fun _ _ q => q.elim)
    obtain ⟨z39, y39⟩ := hp39
    rw [z39, y39]
    have g10 : 0 ≤ (h.2.1 18 p1) ∧ (h.2.1 18 p1) ≤ 1 := i0.2.1 18 p1
    refine mm_if_eq (tgt := 47) C (mm_dec dk_X11_add 22 rfl) (by decide) (fun c42 => ?_) (fun c42 => ?_)
    · skip
      refine mm_iload_n C (mm_dec dk_X11_add 25 rfl) rfl ?_
      refine mm_iload_n C (mm_dec dk_X11_add 26 rfl) rfl ?_
      have J77 : mm_W x 4 24 77 [mR 0, mI p1, mI p2, mI p3, mI p4] [] h := by
        refine mm_aload_n C (mm_dec dk_X11_add 41 rfl) rfl ?_
        refine mm_getr (t := 14) C fl_X11_28 (mm_dec dk_X11_add 42 rfl) rfl rfl (mm_ref i0 rfl) ?_
        refine mm_iload_n C (mm_dec dk_X11_add 43 rfl) rfl ?_
        refine mm_iload_n C (mm_dec dk_X11_add 44 rfl) rfl ?_
        refine mm_iload_n C (mm_dec dk_X11_add 45 rfl) rfl ?_
        refine mm_iload C (mm_dec dk_X11_add 46 rfl) rfl ?_
        refine mm_cVi (rest := []) C1 ev_X11_226 (mm_dec dk_X11_add 47 rfl) (c_X2_lengthen x.2.1 hl (d - 1) (by omega) h i0 p1 p2 p3 p4 ⟨by omega, by omega⟩ ⟨by omega, by omega⟩ ⟨by omega, by omega⟩ ⟨by omega, by omega⟩ (by omega)) rfl rfl (Nat.le_of_ble_eq_true rfl) ⟨by decide, by decide⟩ rfl (fun r86 h86c hp86 => ?_) (fun _ _ q => q.elim)
        obtain ⟨b86, i86c, g86c⟩ := hp86
        have f86c : mm_fr [] [19, 20, 21] h h86c := mm_fr_tr f0 g86c (by decide +kernel)
        have q86c_12 : h86c.1 14 7 = h.1 14 7 := g86c.1 14 7 (by decide)
        have q86c_13 : h86c.1 14 8 = h.1 14 8 := g86c.1 14 8 (by decide)
        exact mm_iret C T (mm_dec dk_X11_add 48 rfl) (by decide : 4 ≤ 4) (by decide : 24 ≤ 24) ⟨_, rfl, ⟨⟨by omega, by omega⟩, i86c, f86c⟩⟩
      refine mm_icmp_eq (tgt := 77) C (mm_dec dk_X11_add 27 rfl) (by decide) (fun c49 => ?_) (fun c49 => ?_)
      · skip
        exact J77
      · skip
        refine mm_aload_n C (mm_dec dk_X11_add 28 rfl) rfl ?_
        refine mm_getr (t := 14) C fl_X11_28 (mm_dec dk_X11_add 29 rfl) rfl rfl (mm_ref i0 rfl) ?_
        refine mm_iload_n C (mm_dec dk_X11_add 30 rfl) rfl ?_
        refine mm_cVi (rest := []) C1 ev_X11_220 (mm_dec dk_X11_add 31 rfl) (c_X2_isFree x.2.1 hl (d - 1) (by omega) h i0 p1 ⟨by omega, by omega⟩) rfl rfl (Nat.le_of_ble_eq_true rfl) ⟨by decide, by decide⟩ rfl (fun r57 h57c hp57 => ?_) (fun _ _ q => q.elim)
        obtain ⟨z57, y57⟩ := hp57
        rw [z57, y57]
        have g15 : 0 ≤ (h.2.1 17 p1) ∧ (h.2.1 17 p1) ≤ 1 := i0.2.1 17 p1
        have J75 : mm_W x 4 24 75 [mU, mU, mU, mU, mU] [] h := by
          refine mm_iconst C (mm_dec dk_X11_add 39 rfl) ⟨by decide, by decide⟩ ?_
          exact mm_iret C T (mm_dec dk_X11_add 40 rfl) (by decide : 4 ≤ 4) (by decide : 24 ≤ 24) ⟨_, rfl, ⟨⟨by omega, by omega⟩, i0, f0⟩⟩
        refine mm_if_ne (tgt := 75) C (mm_dec dk_X11_add 32 rfl) (by decide) (fun c60 => ?_) (fun c60 => ?_)
        · skip
          refine mm_fgt 0 ?_
          refine mm_fgt 1 ?_
          refine mm_fgt 2 ?_
          refine mm_fgt 3 ?_
          refine mm_fgt 4 ?_
          exact J75
        · skip
          refine mm_aload_n C (mm_dec dk_X11_add 33 rfl) rfl ?_
          refine mm_getr (t := 14) C fl_X11_28 (mm_dec dk_X11_add 34 rfl) rfl rfl (mm_ref i0 rfl) ?_
          refine mm_iload_n C (mm_dec dk_X11_add 35 rfl) rfl ?_
          refine mm_cVi (rest := []) C1 ev_X11_223 (mm_dec dk_X11_add 36 rfl) (c_X2_forks x.2.1 hl (d - 1) (by omega) h i0 p1 ⟨by omega, by omega⟩) rfl rfl (Nat.le_of_ble_eq_true rfl) ⟨by decide, by decide⟩ rfl (fun r68 h68c hp68 => ?_) (fun _ _ q => q.elim)
          obtain ⟨z68, y68⟩ := hp68
          rw [z68, y68]
          have g17 : -2147483648 ≤ (h.2.1 20 p1) ∧ (h.2.1 20 p1) ≤ 2147483647 := i0.2.1 20 p1
          refine mm_iconst C (mm_dec dk_X11_add 37 rfl) ⟨by decide, by decide⟩ ?_
          refine mm_icmp_lt (tgt := 77) C (mm_dec dk_X11_add 38 rfl) (by decide) (fun c72 => ?_) (fun c72 => ?_)
          · skip
            exact J77
          · skip
            refine mm_fgt 0 ?_
            refine mm_fgt 1 ?_
            refine mm_fgt 2 ?_
            refine mm_fgt 3 ?_
            refine mm_fgt 4 ?_
            exact J75
    · skip
      refine mm_fgt 0 ?_
      refine mm_fgt 1 ?_
      refine mm_fgt 2 ?_
      refine mm_fgt 3 ?_
      refine mm_fgt 4 ?_
      exact J45
set_option maxRecDepth 100000 in
set_option maxHeartbeats 4000000 in
theorem c_X11_runner (l : Launch) (hl : l.stackTraces = false) (d : Nat) (hd : 9 ≤ d) (h : mH) (i0 : mm_inv h) (p1 : Int) (p2 : Int) (p3 : Int) : mm_Met l d yX11_runner cX11_runner 4 (some .int) [mR 0, mI p1, mI p2, mI p3] h (mm_pi fun r h2 => (-1 ≤ r ∧ r ≤ 39) ∧ mm_inv h2 ∧ mm_fr [(22, 8)] [18, 23, 24, 25, 26, 27, 28] h h2) (mm_xp h) 1 6 := by
  refine mm_ofW (ls := [mR 0, mI p1, mI p2, mI p3]) hl (by decide) rfl (Nat.le_of_ble_eq_true rfl) ?_
  intro x hxl C T hnm htb
  subst hxl
  have C1 := mm_OK_le (d' := d - 1 + 1) (by omega) C
  have C8 := mm_OK_le (d' := d - 8 + 8) (by omega) C
  refine mm_rng (fun hr _ => ?_)
  have ap1 : -2147483648 ≤ p1 ∧ p1 < 2147483648 := mm_ok_at hr (i := 1) rfl
  have ap2 : -2147483648 ≤ p2 ∧ p2 < 2147483648 := mm_ok_at hr (i := 2) rfl
  have ap3 : -2147483648 ≤ p3 ∧ p3 < 2147483648 := mm_ok_at hr (i := 3) rfl
  have f0 : mm_fr [(22, 8)] [18, 23, 24, 25, 26, 27, 28] h h := mm_fr_rf
  refine mm_aload_n C (mm_dec dk_X11_runner 0 rfl) rfl ?_
  refine mm_iload_n C (mm_dec dk_X11_runner 1 rfl) rfl ?_
  refine mm_cVv (rest := []) C1 ev_X11_207 (mm_dec dk_X11_runner 2 rfl) (c_X11_needCourse x.2.1 hl (d - 1) (by omega) h i0 p1) rfl rfl (Nat.le_of_ble_eq_true rfl) ⟨by decide, by decide⟩ rfl (fun h2c hp2 => ?_) (fun E hx q => mm_out C T htb (by decide) (by decide) (by rcases q with ⟨q1, q2⟩ | ⟨q1, q2⟩ <;> first | exact Or.inl ⟨q1, q2⟩ | exact Or.inr ⟨q1, q2⟩))
  obtain ⟨z2, k2_0, k2_1⟩ := hp2
  rw [z2]
  have g2 : 0 ≤ (h.1 14 8) ∧ (h.1 14 8) ≤ 8 := i0.1 14 8
  refine mm_aload_n C (mm_dec dk_X11_runner 3 rfl) rfl ?_
  refine mm_getr (t := 22) C fl_X11_37 (mm_dec dk_X11_runner 4 rfl) rfl rfl (mm_ref i0 rfl) ?_
  refine mm_cVi (rest := []) C1 ev_X11_230 (mm_dec dk_X11_runner 5 rfl) (c_X9_size x.2.1 hl (d - 1) (by omega) h i0 ) rfl rfl (Nat.le_of_ble_eq_true rfl) ⟨by decide, by decide⟩ rfl (fun r9 h9c hp9 => ?_) (fun _ _ q => q.elim)
  obtain ⟨z9, y9⟩ := hp9
  rw [z9, y9]
  have g4 : 0 ≤ (h.1 22 8) ∧ (h.1 22 8) ≤ 40 := i0.1 22 8
  refine mm_bipush C (mm_dec dk_X11_runner 6 rfl) ⟨by decide, by decide⟩ ?_
  have J37 : mm_W x 1 6 37 [mU, mU, mU, mU] [] h := by
    refine mm_iconst C (mm_dec dk_X11_runner 18 rfl) ⟨by decide, by decide⟩ ?_
    exact mm_iret C T (mm_dec dk_X11_runner 19 rfl) (by decide : 1 ≤ 1) (by decide : 6 ≤ 6) ⟨_, rfl, ⟨⟨by omega, by omega⟩, i0, f0⟩⟩
  refine mm_icmp_ge (tgt := 37) C (mm_dec dk_X11_runner 7 rfl) (by decide) (fun c14 => ?_) (fun c14 => ?_)
  · skip
    refine mm_fgt 0 ?_
    refine mm_fgt 1 ?_
    refine mm_fgt 2 ?_
    refine mm_fgt 3 ?_
    exact J37
  · skip
    refine mm_iload_n C (mm_dec dk_X11_runner 8 rfl) rfl ?_
    refine mm_iconst C (mm_dec dk_X11_runner 9 rfl) ⟨by decide, by decide⟩ ?_
    refine mm_bipush C (mm_dec dk_X11_runner 10 rfl) ⟨by decide, by decide⟩ ?_
    refine mm_cSi (rest := []) C1 es_X11_130 (mm_dec dk_X11_runner 11 rfl) (c_X11_within x.2.1 hl (d - 1) (by omega) h i0 p2 0 9) rfl (Nat.le_of_ble_eq_true rfl) ⟨by decide, by decide⟩ rfl (fun r21 h21c hp21 => ?_) (fun _ _ q => q.elim)
    obtain ⟨z21, y21⟩ := hp21
    rw [z21]
    refine mm_if_eq (tgt := 37) C (mm_dec dk_X11_runner 12 rfl) (by decide) (fun c24 => ?_) (fun c24 => ?_)
    · skip
      refine mm_fgt 0 ?_
      refine mm_fgt 1 ?_
      refine mm_fgt 2 ?_
      refine mm_fgt 3 ?_
      exact J37
    · skip
      refine mm_iload_n C (mm_dec dk_X11_runner 13 rfl) rfl ?_
      refine mm_iconst C (mm_dec dk_X11_runner 14 rfl) ⟨by decide, by decide⟩ ?_
      refine mm_bipush C (mm_dec dk_X11_runner 15 rfl) ⟨by decide, by decide⟩ ?_
      refine mm_cSi (rest := []) C1 es_X11_130 (mm_dec dk_X11_runner 16 rfl) (c_X11_within x.2.1 hl (d - 1) (by omega) h i0 p3 0 80) rfl (Nat.le_of_ble_eq_true rfl) ⟨by decide, by decide⟩ rfl (fun r31 h31c hp31 => ?_) (fun _ _ q => q.elim)
      obtain ⟨z31, y31⟩ := hp31
      rw [z31]
      refine mm_if_ne (tgt := 39) C (mm_dec dk_X11_runner 17 rfl) (by decide) (fun c34 => ?_) (fun c34 => ?_)
      · skip
        refine mm_aload_n C (mm_dec dk_X11_runner 20 rfl) rfl ?_
        refine mm_getr (t := 22) C fl_X11_37 (mm_dec dk_X11_runner 21 rfl) rfl rfl (mm_ref i0 rfl) ?_
        refine mm_iload_n C (mm_dec dk_X11_runner 22 rfl) rfl ?_
        refine mm_iload_n C (mm_dec dk_X11_runner 23 rfl) rfl ?_
        refine mm_iload_n C (mm_dec dk_X11_runner 24 rfl) rfl ?_
        refine mm_cVi (rest := []) C1 ev_X11_231 (mm_dec dk_X11_runner 25 rfl) (c_X9_enter x.2.1 hl (d - 1) (by omega) h i0 p1 p2 p3 ⟨by omega, by omega⟩ ⟨by omega, by omega⟩ ⟨by omega, by omega⟩ (by omega)) rfl rfl (Nat.le_of_ble_eq_true rfl) ⟨by decide, by decide⟩ rfl (fun r46 h46c hp46 => ?_) (fun _ _ q => q.elim)
        obtain ⟨b46, i46c, g46c⟩ := hp46
        have f46c : mm_fr [(22, 8)] [18, 23, 24, 25, 26, 27, 28] h h46c := mm_fr_tr f0 g46c (by decide +kernel)
        have q46c_8 : h46c.1 14 8 = h.1 14 8 := g46c.1 14 8 (by decide)
        exact mm_iret C T (mm_dec dk_X11_runner 26 rfl) (by decide : 1 ≤ 1) (by decide : 6 ≤ 6) ⟨_, rfl, ⟨⟨by omega, by omega⟩, i46c, f46c⟩⟩
      · skip
        refine mm_fgt 0 ?_
        refine mm_fgt 1 ?_
        refine mm_fgt 2 ?_
        refine mm_fgt 3 ?_
        exact J37
set_option maxRecDepth 100000 in
set_option maxHeartbeats 4000000 in
theorem c_X11_team (l : Launch) (hl : l.stackTraces = false) (d : Nat) (hd : 9 ≤ d) (h : mH) (i0 : mm_inv h) (p1 : Int) (p2 : Int) (p3 : Int) : mm_Met l d yX11_team cX11_team 4 (some .int) [mR 0, mI p1, mI p2, mI p3] h (mm_pi fun r h2 => (-1 ≤ r ∧ r ≤ 9) ∧ mm_inv h2 ∧ mm_fr [(22, 9)] [27, 28, 29] h h2) (mm_xp h) 3 18 := by
  refine mm_ofW (ls := [mR 0, mI p1, mI p2, mI p3]) hl (by decide) rfl (Nat.le_of_ble_eq_true rfl) ?_
  intro x hxl C T hnm htb
  subst hxl
  have C1 := mm_OK_le (d' := d - 1 + 1) (by omega) C
  have C8 := mm_OK_le (d' := d - 8 + 8) (by omega) C
  refine mm_rng (fun hr _ => ?_)
  have ap1 : -2147483648 ≤ p1 ∧ p1 < 2147483648 := mm_ok_at hr (i := 1) rfl
  have ap2 : -2147483648 ≤ p2 ∧ p2 < 2147483648 := mm_ok_at hr (i := 2) rfl
  have ap3 : -2147483648 ≤ p3 ∧ p3 < 2147483648 := mm_ok_at hr (i := 3) rfl
  have f0 : mm_fr [(22, 9)] [27, 28, 29] h h := mm_fr_rf
  refine mm_aload_n C (mm_dec dk_X11_team 0 rfl) rfl ?_
  refine mm_iload_n C (mm_dec dk_X11_team 1 rfl) rfl ?_
  refine mm_cVv (rest := []) C1 ev_X11_235 (mm_dec dk_X11_team 2 rfl) (c_X11_needRunner x.2.1 hl (d - 1) (by omega) h i0 p1) rfl rfl (Nat.le_of_ble_eq_true rfl) ⟨by decide, by decide⟩ rfl (fun h2c hp2 => ?_) (fun E hx q => mm_out C T htb (by decide) (by decide) (by rcases q with ⟨q1, q2⟩ | ⟨q1, q2⟩ <;> first | exact Or.inl ⟨q1, q2⟩ | exact Or.inr ⟨q1, q2⟩))
  obtain ⟨z2, k2_0, k2_1⟩ := hp2
  rw [z2]
  have g2 : 0 ≤ (h.1 22 8) ∧ (h.1 22 8) ≤ 40 := i0.1 22 8
  refine mm_aload_n C (mm_dec dk_X11_team 3 rfl) rfl ?_
  refine mm_iload_n C (mm_dec dk_X11_team 4 rfl) rfl ?_
  refine mm_cVv (rest := []) C1 ev_X11_235 (mm_dec dk_X11_team 5 rfl) (c_X11_needRunner x.2.1 hl (d - 1) (by omega) h i0 p2) rfl rfl (Nat.le_of_ble_eq_true rfl) ⟨by decide, by decide⟩ rfl (fun h7c hp7 => ?_) (fun E hx q => mm_out C T htb (by decide) (by decide) (by rcases q with ⟨q1, q2⟩ | ⟨q1, q2⟩ <;> first | exact Or.inl ⟨q1, q2⟩ | exact Or.inr ⟨q1, q2⟩))
  obtain ⟨z7, k7_0, k7_1⟩ := hp7
  rw [z7]
  refine mm_aload_n C (mm_dec dk_X11_team 6 rfl) rfl ?_
  refine mm_iload_n C (mm_dec dk_X11_team 7 rfl) rfl ?_
  refine mm_cVv (rest := []) C1 ev_X11_235 (mm_dec dk_X11_team 8 rfl) (c_X11_needRunner x.2.1 hl (d - 1) (by omega) h i0 p3) rfl rfl (Nat.le_of_ble_eq_true rfl) ⟨by decide, by decide⟩ rfl (fun h12c hp12 => ?_) (fun E hx q => mm_out C T htb (by decide) (by decide) (by rcases q with ⟨q1, q2⟩ | ⟨q1, q2⟩ <;> first | exact Or.inl ⟨q1, q2⟩ | exact Or.inr ⟨q1, q2⟩))
  obtain ⟨z12, k12_0, k12_1⟩ := hp12
  rw [z12]
  refine mm_aload_n C (mm_dec dk_X11_team 9 rfl) rfl ?_
  refine mm_getr (t := 22) C fl_X11_37 (mm_dec dk_X11_team 10 rfl) rfl rfl (mm_ref i0 rfl) ?_
  refine mm_cVi (rest := []) C1 ev_X11_251 (mm_dec dk_X11_team 11 rfl) (c_X9_teams x.2.1 hl (d - 1) (by omega) h i0 ) rfl rfl (Nat.le_of_ble_eq_true rfl) ⟨by decide, by decide⟩ rfl (fun r19 h19c hp19 => ?_) (fun _ _ q => q.elim)
  obtain ⟨z19, y19⟩ := hp19
  rw [z19, y19]
  have g6 : 0 ≤ (h.1 22 9) ∧ (h.1 22 9) ≤ 10 := i0.1 22 9
  refine mm_bipush C (mm_dec dk_X11_team 12 rfl) ⟨by decide, by decide⟩ ?_
  have J40 : mm_W x 3 18 40 [mU, mU, mU, mU] [] h := by
    refine mm_iconst C (mm_dec dk_X11_team 21 rfl) ⟨by decide, by decide⟩ ?_
    exact mm_iret C T (mm_dec dk_X11_team 22 rfl) (by decide : 3 ≤ 3) (by decide : 18 ≤ 18) ⟨_, rfl, ⟨⟨by omega, by omega⟩, i0, f0⟩⟩
  refine mm_icmp_ge (tgt := 40) C (mm_dec dk_X11_team 13 rfl) (by decide) (fun c24 => ?_) (fun c24 => ?_)
  · skip
    refine mm_fgt 0 ?_
    refine mm_fgt 1 ?_
    refine mm_fgt 2 ?_
    refine mm_fgt 3 ?_
    exact J40
  · skip
    refine mm_aload_n C (mm_dec dk_X11_team 14 rfl) rfl ?_
    refine mm_getr (t := 22) C fl_X11_37 (mm_dec dk_X11_team 15 rfl) rfl rfl (mm_ref i0 rfl) ?_
    refine mm_iload_n C (mm_dec dk_X11_team 16 rfl) rfl ?_
    refine mm_iload_n C (mm_dec dk_X11_team 17 rfl) rfl ?_
    refine mm_iload_n C (mm_dec dk_X11_team 18 rfl) rfl ?_
    refine mm_cVi (rest := []) C1 ev_X11_254 (mm_dec dk_X11_team 19 rfl) (c_X9_canBeTeam x.2.1 hl (d - 1) (by omega) h i0 p1 p2 p3 ⟨by omega, by omega⟩ ⟨by omega, by omega⟩ ⟨by omega, by omega⟩) rfl rfl (Nat.le_of_ble_eq_true rfl) ⟨by decide, by decide⟩ rfl (fun r34 h34c hp34 => ?_) (fun _ _ q => q.elim)
    obtain ⟨b34, z34⟩ := hp34
    rw [z34]
    refine mm_if_ne (tgt := 42) C (mm_dec dk_X11_team 20 rfl) (by decide) (fun c37 => ?_) (fun c37 => ?_)
    · skip
      refine mm_aload_n C (mm_dec dk_X11_team 23 rfl) rfl ?_
      refine mm_getr (t := 22) C fl_X11_37 (mm_dec dk_X11_team 24 rfl) rfl rfl (mm_ref i0 rfl) ?_
      refine mm_iload_n C (mm_dec dk_X11_team 25 rfl) rfl ?_
      refine mm_iload_n C (mm_dec dk_X11_team 26 rfl) rfl ?_
      refine mm_iload_n C (mm_dec dk_X11_team 27 rfl) rfl ?_
      refine mm_cVi (rest := []) C1 ev_X11_257 (mm_dec dk_X11_team 28 rfl) (c_X9_join x.2.1 hl (d - 1) (by omega) h i0 p1 p2 p3 ⟨by omega, by omega⟩ ⟨by omega, by omega⟩ ⟨by omega, by omega⟩ (by omega)) rfl rfl (Nat.le_of_ble_eq_true rfl) ⟨by decide, by decide⟩ rfl (fun r49 h49c hp49 => ?_) (fun _ _ q => q.elim)
      obtain ⟨b49, i49c, g49c⟩ := hp49
      have f49c : mm_fr [(22, 9)] [27, 28, 29] h h49c := mm_fr_tr f0 g49c (by decide +kernel)
      have q49c_9 : h49c.1 22 8 = h.1 22 8 := g49c.1 22 8 (by decide)
      exact mm_iret C T (mm_dec dk_X11_team 29 rfl) (by decide : 3 ≤ 3) (by decide : 18 ≤ 18) ⟨_, rfl, ⟨⟨by omega, by omega⟩, i49c, f49c⟩⟩
    · skip
      refine mm_fgt 0 ?_
      refine mm_fgt 1 ?_
      refine mm_fgt 2 ?_
      refine mm_fgt 3 ?_
      exact J40
set_option maxRecDepth 100000 in
set_option maxHeartbeats 4000000 in
theorem c_X11_event (l : Launch) (hl : l.stackTraces = false) (d : Nat) (hd : 9 ≤ d) (h : mH) (i0 : mm_inv h) (p1 : Int) (p2 : Int) (p3 : Int) (p4 : Int) : mm_Met l d yX11_event cX11_event 6 (some .int) [mR 0, mI p1, mI p2, mI p3, mI p4] h (mm_pi fun r h2 => (-1 ≤ r ∧ r ≤ 499) ∧ mm_inv h2 ∧ mm_fr [(30, 6)] [31, 32, 33, 34, 35, 36] h h2) (mm_xp h) 2 12 := by
  refine mm_ofW (ls := [mR 0, mI p1, mI p2, mI p3, mI p4, mU]) hl (by decide) rfl (Nat.le_of_ble_eq_true rfl) ?_
  intro x hxl C T hnm htb
  subst hxl
  have C1 := mm_OK_le (d' := d - 1 + 1) (by omega) C
  have C8 := mm_OK_le (d' := d - 8 + 8) (by omega) C
  refine mm_rng (fun hr _ => ?_)
  have ap1 : -2147483648 ≤ p1 ∧ p1 < 2147483648 := mm_ok_at hr (i := 1) rfl
  have ap2 : -2147483648 ≤ p2 ∧ p2 < 2147483648 := mm_ok_at hr (i := 2) rfl
  have ap3 : -2147483648 ≤ p3 ∧ p3 < 2147483648 := mm_ok_at hr (i := 3) rfl
  have ap4 : -2147483648 ≤ p4 ∧ p4 < 2147483648 := mm_ok_at hr (i := 4) rfl
  have f0 : mm_fr [(30, 6)] [31, 32, 33, 34, 35, 36] h h := mm_fr_rf
  refine mm_iload_n C (mm_dec dk_X11_event 0 rfl) rfl ?_
  refine mm_iconst C (mm_dec dk_X11_event 1 rfl) ⟨by decide, by decide⟩ ?_
  refine mm_iconst C (mm_dec dk_X11_event 2 rfl) ⟨by decide, by decide⟩ ?_
  refine mm_cSi (rest := []) C1 es_X11_130 (mm_dec dk_X11_event 3 rfl) (c_X11_within x.2.1 hl (d - 1) (by omega) h i0 p1 0 2) rfl (Nat.le_of_ble_eq_true rfl) ⟨by decide, by decide⟩ rfl (fun r3 h3c hp3 => ?_) (fun _ _ q => q.elim)
  obtain ⟨z3, y3⟩ := hp3
  rw [z3]
  refine mm_if_ne (tgt := 20) C (mm_dec dk_X11_event 4 rfl) (by decide) (fun c6 => ?_) (fun c6 => ?_)
  · skip
    refine mm_aload_n C (mm_dec dk_X11_event 10 rfl) rfl ?_
    refine mm_iload_n C (mm_dec dk_X11_event 11 rfl) rfl ?_
    refine mm_cVv (rest := []) C1 ev_X11_235 (mm_dec dk_X11_event 12 rfl) (c_X11_needRunner x.2.1 hl (d - 1) (by omega) h i0 p2) rfl rfl (Nat.le_of_ble_eq_true rfl) ⟨by decide, by decide⟩ rfl (fun h22c hp22 => ?_) (fun E hx q => mm_out C T htb (by decide) (by decide) (by rcases q with ⟨q1, q2⟩ | ⟨q1, q2⟩ <;> first | exact Or.inl ⟨q1, q2⟩ | exact Or.inr ⟨q1, q2⟩))
    obtain ⟨z22, k22_0, k22_1⟩ := hp22
    rw [z22]
    have g3 : 0 ≤ (h.1 22 8) ∧ (h.1 22 8) ≤ 40 := i0.1 22 8
    refine mm_iload_n C (mm_dec dk_X11_event 13 rfl) rfl ?_
    refine mm_iconst C (mm_dec dk_X11_event 14 rfl) ⟨by decide, by decide⟩ ?_
    have J35 : mm_W x 2 12 35 [mR 0, mI p1, mI p2, mI p3, mI p4, mU] [] h := by
      refine mm_iload_n C (mm_dec dk_X11_event 19 rfl) rfl ?_
      have J49 : ∀ (s49_0 : Int) (bs49_0 : 0 ≤ s49_0 ∧ s49_0 ≤ 99999), mm_W x 2 12 49 [mR 0, mI p1, mI p2, mI p3, mI p4, mU] [mI s49_0] h := by
        intro s49_0 bs49_0
        refine mm_istoreL (ls2 := [mR 0, mI p1, mI p2, mI p3, mI p4, mI s49_0]) C (mm_dec dk_X11_event 25 rfl) (by decide) rfl ?_
        refine mm_aload_n C (mm_dec dk_X11_event 26 rfl) rfl ?_
        refine mm_getr (t := 30) C fl_X11_44 (mm_dec dk_X11_event 27 rfl) rfl rfl (mm_ref i0 rfl) ?_
        refine mm_cVi (rest := []) C1 ev_X11_268 (mm_dec dk_X11_event 28 rfl) (c_X6_events x.2.1 hl (d - 1) (by omega) h i0 ) rfl rfl (Nat.le_of_ble_eq_true rfl) ⟨by decide, by decide⟩ rfl (fun r55 h55c hp55 => ?_) (fun _ _ q => q.elim)
        obtain ⟨z55, y55⟩ := hp55
        rw [z55, y55]
        have g5 : 0 ≤ (h.1 30 6) ∧ (h.1 30 6) ≤ 500 := i0.1 30 6
        refine mm_sipush C (mm_dec dk_X11_event 29 rfl) ⟨by decide, by decide⟩ ?_
        have J75 : mm_W x 2 12 75 [mU, mU, mU, mU, mU, mU] [] h := by
          refine mm_iconst C (mm_dec dk_X11_event 36 rfl) ⟨by decide, by decide⟩ ?_
          exact mm_iret C T (mm_dec dk_X11_event 37 rfl) (by decide : 2 ≤ 2) (by decide : 12 ≤ 12) ⟨_, rfl, ⟨⟨by omega, by omega⟩, i0, f0⟩⟩
        refine mm_icmp_ge (tgt := 75) C (mm_dec dk_X11_event 30 rfl) (by decide) (fun c61 => ?_) (fun c61 => ?_)
        · skip
          refine mm_fgt 0 ?_
          refine mm_fgt 1 ?_
          refine mm_fgt 2 ?_
          refine mm_fgt 3 ?_
          refine mm_fgt 4 ?_
          refine mm_fgt 5 ?_
          exact J75
        · skip
          refine mm_iload C (mm_dec dk_X11_event 31 rfl) rfl ?_
          refine mm_iconst C (mm_dec dk_X11_event 32 rfl) ⟨by decide, by decide⟩ ?_
          refine mm_iload C (mm_dec dk_X11_event 33 rfl) rfl ?_
          refine mm_cSi (rest := []) C1 es_X11_130 (mm_dec dk_X11_event 34 rfl) (c_X11_within x.2.1 hl (d - 1) (by omega) h i0 p4 0 s49_0) rfl (Nat.le_of_ble_eq_true rfl) ⟨by decide, by decide⟩ rfl (fun r69 h69c hp69 => ?_) (fun _ _ q => q.elim)
          obtain ⟨z69, y69⟩ := hp69
          rw [z69]
          refine mm_if_ne (tgt := 77) C (mm_dec dk_X11_event 35 rfl) (by decide) (fun c72 => ?_) (fun c72 => ?_)
          · skip
            refine mm_aload_n C (mm_dec dk_X11_event 38 rfl) rfl ?_
            refine mm_getr (t := 30) C fl_X11_44 (mm_dec dk_X11_event 39 rfl) rfl rfl (mm_ref i0 rfl) ?_
            refine mm_iload_n C (mm_dec dk_X11_event 40 rfl) rfl ?_
            refine mm_iload_n C (mm_dec dk_X11_event 41 rfl) rfl ?_
            refine mm_iload_n C (mm_dec dk_X11_event 42 rfl) rfl ?_
            refine mm_iload C (mm_dec dk_X11_event 43 rfl) rfl ?_
            refine mm_aload_n C (mm_dec dk_X11_event 44 rfl) rfl ?_
            refine mm_geti C fl_X11_102 (mm_dec dk_X11_event 45 rfl) rfl rfl (Or.inl rfl) ?_
            have g7 : 0 ≤ (h.1 0 13) ∧ (h.1 0 13) ≤ 99999 := i0.1 0 13
            refine mm_cVi (rest := []) C1 ev_X11_271 (mm_dec dk_X11_event 46 rfl) (c_X6_tell x.2.1 hl (d - 1) (by omega) h i0 p1 p2 p3 p4 (h.1 0 13) ⟨by omega, by omega⟩ (by omega)) rfl rfl (Nat.le_of_ble_eq_true rfl) ⟨by decide, by decide⟩ rfl (fun r90 h90c hp90 => ?_) (fun _ _ q => q.elim)
            obtain ⟨b90, i90c, g90c, y90_0⟩ := hp90
            have f90c : mm_fr [(30, 6)] [31, 32, 33, 34, 35, 36] h h90c := mm_fr_tr f0 g90c (by decide +kernel)
            have q90c_9 : h90c.1 0 13 = h.1 0 13 := g90c.1 0 13 (by decide)
            have q90c_10 : h90c.1 22 8 = h.1 22 8 := g90c.1 22 8 (by decide)
            exact mm_iret C T (mm_dec dk_X11_event 47 rfl) (by decide : 2 ≤ 2) (by decide : 12 ≤ 12) ⟨_, rfl, ⟨⟨by omega, by omega⟩, i90c, f90c⟩⟩
          · skip
            refine mm_fgt 0 ?_
            refine mm_fgt 1 ?_
            refine mm_fgt 2 ?_
            refine mm_fgt 3 ?_
            refine mm_fgt 4 ?_
            refine mm_fgt 5 ?_
            exact J75
      refine mm_if_ne (tgt := 45) C (mm_dec dk_X11_event 20 rfl) (by decide) (fun c36 => ?_) (fun c36 => ?_)
      · skip
        refine mm_aload_n C (mm_dec dk_X11_event 23 rfl) rfl ?_
        refine mm_geti C fl_X11_102 (mm_dec dk_X11_event 24 rfl) rfl rfl (Or.inl rfl) ?_
        have g11 : 0 ≤ (h.1 0 13) ∧ (h.1 0 13) ≤ 99999 := i0.1 0 13
        exact J49 (h.1 0 13) ⟨by omega, by omega⟩
      · skip
        refine mm_ldcw (z := 99999) C (mm_dec dk_X11_event 21 rfl) kc_X11_260 (by decide) ?_
        refine mm_goto (tgt := 49) C (mm_dec dk_X11_event 22 rfl) (by decide) ?_
        exact J49 99999 ⟨by omega, by omega⟩
    refine mm_icmp_ne (tgt := 35) C (mm_dec dk_X11_event 15 rfl) (by decide) (fun c27 => ?_) (fun c27 => ?_)
    · skip
      refine mm_widen (k := 2) (n := 12) (by decide) (by decide) ?_
      exact J35
    · skip
      refine mm_aload_n C (mm_dec dk_X11_event 16 rfl) rfl ?_
      refine mm_iload_n C (mm_dec dk_X11_event 17 rfl) rfl ?_
      refine mm_cVv (rest := []) C1 ev_X11_211 (mm_dec dk_X11_event 18 rfl) (c_X11_needPost x.2.1 hl (d - 1) (by omega) h i0 p3) rfl rfl (Nat.le_of_ble_eq_true rfl) ⟨by decide, by decide⟩ rfl (fun h32c hp32 => ?_) (fun E hx q => mm_out C T htb (by decide) (by decide) (by rcases q with ⟨q1, q2⟩ | ⟨q1, q2⟩ <;> first | exact Or.inl ⟨q1, q2⟩ | exact Or.inr ⟨q1, q2⟩))
      obtain ⟨z32, k32_0, k32_1⟩ := hp32
      rw [z32]
      have g13 : 0 ≤ (h.1 14 7) ∧ (h.1 14 7) ≤ 20 := i0.1 14 7
      exact J35
  · skip
    exact mm_throwXW C8 T htb th_nse (i := 9) rfl (mm_dec dk_X11_event 5 rfl) (mm_dec dk_X11_event 6 rfl) (mm_dec dk_X11_event 7 rfl) (mm_dec dk_X11_event 8 rfl) (mm_dec dk_X11_event 9 rfl) (Nat.le_of_ble_eq_true rfl) ⟨by decide, by decide⟩ ⟨by decide, by decide⟩ (Or.inl ⟨rfl, rfl⟩)
set_option maxRecDepth 100000 in
set_option maxHeartbeats 4000000 in
theorem c_X11_feed (l : Launch) (hl : l.stackTraces = false) (d : Nat) (hd : 1 ≤ d) (h : mH) (i0 : mm_inv h) (p1 : Int) (p2 : Int) (p3 : Int) (p4 : Int) (p5 : Int) : mm_Met l d yX11_feed cX11_feed 6 (some .int) [mR 0, mI p1, mI p2, mI p3, mI p4, mI p5] h (mm_pi fun r h2 => (-1 ≤ r ∧ r ≤ 500) ∧ mm_inv h2 ∧ mm_fr [(0, 12)] [62] h h2) mm_nx 0 0 := by
  refine mm_ofW (ls := [mR 0, mI p1, mI p2, mI p3, mI p4, mI p5]) hl (by decide) rfl (Nat.le_of_ble_eq_true rfl) ?_
  intro x hxl C T hnm htb
  subst hxl
  have C1 := mm_OK_le (d' := d - 1 + 1) (by omega) C
  refine mm_rng (fun hr _ => ?_)
  have ap1 : -2147483648 ≤ p1 ∧ p1 < 2147483648 := mm_ok_at hr (i := 1) rfl
  have ap2 : -2147483648 ≤ p2 ∧ p2 < 2147483648 := mm_ok_at hr (i := 2) rfl
  have ap3 : -2147483648 ≤ p3 ∧ p3 < 2147483648 := mm_ok_at hr (i := 3) rfl
  have ap4 : -2147483648 ≤ p4 ∧ p4 < 2147483648 := mm_ok_at hr (i := 4) rfl
  have ap5 : -2147483648 ≤ p5 ∧ p5 < 2147483648 := mm_ok_at hr (i := 5) rfl
  have f0 : mm_fr [(0, 12)] [62] h h := mm_fr_rf
  refine mm_aload_n C (mm_dec dk_X11_feed 0 rfl) rfl ?_
  refine mm_geti C fl_X11_98 (mm_dec dk_X11_feed 1 rfl) rfl rfl (Or.inl rfl) ?_
  have g1 : 0 ≤ (h.1 0 12) ∧ (h.1 0 12) ≤ 500 := i0.1 0 12
  refine mm_sipush C (mm_dec dk_X11_feed 2 rfl) ⟨by decide, by decide⟩ ?_
  refine mm_icmp_le (tgt := 12) C (mm_dec dk_X11_feed 3 rfl) (by decide) (fun c7 => ?_) (fun c7 => ?_)
  · skip
    refine mm_aload_n C (mm_dec dk_X11_feed 6 rfl) rfl ?_
    refine mm_iload_n C (mm_dec dk_X11_feed 7 rfl) rfl ?_
    refine mm_cVv (rest := []) C1 ev_X11_309 (mm_dec dk_X11_feed 8 rfl) (c_X11_putOnTape x.2.1 hl (d - 1) (by omega) h i0 p1) rfl rfl (Nat.le_of_ble_eq_true rfl) ⟨by decide, by decide⟩ rfl (fun h14c hp14 => ?_) (fun _ _ q => q.elim)
    obtain ⟨i14c, g14c⟩ := hp14
    have f14c : mm_fr [(0, 12)] [62] h h14c := mm_fr_tr f0 g14c (by decide +kernel)
    refine mm_aload_n C (mm_dec dk_X11_feed 9 rfl) rfl ?_
    refine mm_iload_n C (mm_dec dk_X11_feed 10 rfl) rfl ?_
    refine mm_cVv (rest := []) C1 ev_X11_309 (mm_dec dk_X11_feed 11 rfl) (c_X11_putOnTape x.2.1 hl (d - 1) (by omega) h14c i14c p2) rfl rfl (Nat.le_of_ble_eq_true rfl) ⟨by decide, by decide⟩ rfl (fun h19c hp19 => ?_) (fun _ _ q => q.elim)
    obtain ⟨i19c, g19c⟩ := hp19
    have f19c : mm_fr [(0, 12)] [62] h h19c := mm_fr_tr f14c g19c (by decide +kernel)
    refine mm_aload_n C (mm_dec dk_X11_feed 12 rfl) rfl ?_
    refine mm_iload_n C (mm_dec dk_X11_feed 13 rfl) rfl ?_
    refine mm_cVv (rest := []) C1 ev_X11_309 (mm_dec dk_X11_feed 14 rfl) (c_X11_putOnTape x.2.1 hl (d - 1) (by omega) h19c i19c p3) rfl rfl (Nat.le_of_ble_eq_true rfl) ⟨by decide, by decide⟩ rfl (fun h24c hp24 => ?_) (fun _ _ q => q.elim)
    obtain ⟨i24c, g24c⟩ := hp24
    have f24c : mm_fr [(0, 12)] [62] h h24c := mm_fr_tr f19c g24c (by decide +kernel)
    refine mm_aload_n C (mm_dec dk_X11_feed 15 rfl) rfl ?_
    refine mm_iload C (mm_dec dk_X11_feed 16 rfl) rfl ?_
    refine mm_cVv (rest := []) C1 ev_X11_309 (mm_dec dk_X11_feed 17 rfl) (c_X11_putOnTape x.2.1 hl (d - 1) (by omega) h24c i24c p4) rfl rfl (Nat.le_of_ble_eq_true rfl) ⟨by decide, by decide⟩ rfl (fun h30c hp30 => ?_) (fun _ _ q => q.elim)
    obtain ⟨i30c, g30c⟩ := hp30
    have f30c : mm_fr [(0, 12)] [62] h h30c := mm_fr_tr f24c g30c (by decide +kernel)
    refine mm_aload_n C (mm_dec dk_X11_feed 18 rfl) rfl ?_
    refine mm_iload C (mm_dec dk_X11_feed 19 rfl) rfl ?_
    refine mm_cVv (rest := []) C1 ev_X11_309 (mm_dec dk_X11_feed 20 rfl) (c_X11_putOnTape x.2.1 hl (d - 1) (by omega) h30c i30c p5) rfl rfl (Nat.le_of_ble_eq_true rfl) ⟨by decide, by decide⟩ rfl (fun h36c hp36 => ?_) (fun _ _ q => q.elim)
    obtain ⟨i36c, g36c⟩ := hp36
    have f36c : mm_fr [(0, 12)] [62] h h36c := mm_fr_tr f30c g36c (by decide +kernel)
    refine mm_aload_n C (mm_dec dk_X11_feed 21 rfl) rfl ?_
    refine mm_geti C fl_X11_98 (mm_dec dk_X11_feed 22 rfl) rfl rfl (Or.inl rfl) ?_
    have g7 : 0 ≤ (h36c.1 0 12) ∧ (h36c.1 0 12) ≤ 500 := i36c.1 0 12
    exact mm_iret C T (mm_dec dk_X11_feed 23 rfl) (by decide : 0 ≤ 0) (by decide : 0 ≤ 0) ⟨_, rfl, ⟨⟨by omega, by omega⟩, i36c, f36c⟩⟩
  · skip
    refine mm_iconst C (mm_dec dk_X11_feed 4 rfl) ⟨by decide, by decide⟩ ?_
    exact mm_iret C T (mm_dec dk_X11_feed 5 rfl) (by decide : 0 ≤ 0) (by decide : 0 ≤ 0) ⟨_, rfl, ⟨⟨by omega, by omega⟩, i0, f0⟩⟩
set_option maxRecDepth 100000 in
set_option maxHeartbeats 4000000 in
theorem c_X11_protest (l : Launch) (hl : l.stackTraces = false) (d : Nat) (hd : 9 ≤ d) (h : mH) (i0 : mm_inv h) (p1 : Int) : mm_Met l d yX11_protest cX11_protest 3 (some .int) [mR 0, mI p1] h (mm_pi fun r h2 => (-1 ≤ r ∧ r ≤ 39) ∧ mm_inv h2 ∧ mm_fr [(30, 12)] [37, 40] h h2) (mm_xp h) 1 6 := by
  refine mm_ofW (ls := [mR 0, mI p1, mU]) hl (by decide) rfl (Nat.le_of_ble_eq_true rfl) ?_
  intro x hxl C T hnm htb
  subst hxl
  have C1 := mm_OK_le (d' := d - 1 + 1) (by omega) C
  have C8 := mm_OK_le (d' := d - 8 + 8) (by omega) C
  refine mm_rng (fun hr _ => ?_)
  have ap1 : -2147483648 ≤ p1 ∧ p1 < 2147483648 := mm_ok_at hr (i := 1) rfl
  have f0 : mm_fr [(30, 12)] [37, 40] h h := mm_fr_rf
  refine mm_aload_n C (mm_dec dk_X11_protest 0 rfl) rfl ?_
  refine mm_iload_n C (mm_dec dk_X11_protest 1 rfl) rfl ?_
  refine mm_cVv (rest := []) C1 ev_X11_235 (mm_dec dk_X11_protest 2 rfl) (c_X11_needRunner x.2.1 hl (d - 1) (by omega) h i0 p1) rfl rfl (Nat.le_of_ble_eq_true rfl) ⟨by decide, by decide⟩ rfl (fun h2c hp2 => ?_) (fun E hx q => mm_out C T htb (by decide) (by decide) (by rcases q with ⟨q1, q2⟩ | ⟨q1, q2⟩ <;> first | exact Or.inl ⟨q1, q2⟩ | exact Or.inr ⟨q1, q2⟩))
  obtain ⟨z2, k2_0, k2_1⟩ := hp2
  rw [z2]
  have g2 : 0 ≤ (h.1 22 8) ∧ (h.1 22 8) ≤ 40 := i0.1 22 8
  refine mm_aload_n C (mm_dec dk_X11_protest 3 rfl) rfl ?_
  refine mm_getr (t := 30) C fl_X11_44 (mm_dec dk_X11_protest 4 rfl) rfl rfl (mm_ref i0 rfl) ?_
  refine mm_iconst C (mm_dec dk_X11_protest 5 rfl) ⟨by decide, by decide⟩ ?_
  refine mm_iload_n C (mm_dec dk_X11_protest 6 rfl) rfl ?_
  refine mm_aload_n C (mm_dec dk_X11_protest 7 rfl) rfl ?_
  refine mm_geti C fl_X11_102 (mm_dec dk_X11_protest 8 rfl) rfl rfl (Or.inl rfl) ?_
  have g3 : 0 ≤ (h.1 0 13) ∧ (h.1 0 13) ≤ 99999 := i0.1 0 13
  refine mm_cVi (rest := []) C1 ev_X11_324 (mm_dec dk_X11_protest 9 rfl) (c_X6_latest x.2.1 hl (d - 1) (by omega) h i0 2 p1 (h.1 0 13) ⟨by omega, by omega⟩) rfl rfl (Nat.le_of_ble_eq_true rfl) ⟨by decide, by decide⟩ rfl (fun r15 h15c hp15 => ?_) (fun _ _ q => q.elim)
  obtain ⟨b15, z15⟩ := hp15
  rw [z15]
  refine mm_istore_nL (ls2 := [mR 0, mI p1, mI r15]) C (mm_dec dk_X11_protest 10 rfl) (by decide) rfl ?_
  refine mm_aload_n C (mm_dec dk_X11_protest 11 rfl) rfl ?_
  refine mm_getr (t := 30) C fl_X11_44 (mm_dec dk_X11_protest 12 rfl) rfl rfl (mm_ref i0 rfl) ?_
  refine mm_cVi (rest := []) C1 ev_X11_327 (mm_dec dk_X11_protest 13 rfl) (c_X6_protests x.2.1 hl (d - 1) (by omega) h i0 ) rfl rfl (Nat.le_of_ble_eq_true rfl) ⟨by decide, by decide⟩ rfl (fun r23 h23c hp23 => ?_) (fun _ _ q => q.elim)
  obtain ⟨z23, y23⟩ := hp23
  rw [z23, y23]
  have g6 : 0 ≤ (h.1 30 12) ∧ (h.1 30 12) ≤ 40 := i0.1 30 12
  refine mm_bipush C (mm_dec dk_X11_protest 14 rfl) ⟨by decide, by decide⟩ ?_
  have J36 : mm_W x 1 6 36 [mU, mU, mU] [] h := by
    refine mm_iconst C (mm_dec dk_X11_protest 19 rfl) ⟨by decide, by decide⟩ ?_
    exact mm_iret C T (mm_dec dk_X11_protest 20 rfl) (by decide : 1 ≤ 1) (by decide : 6 ≤ 6) ⟨_, rfl, ⟨⟨by omega, by omega⟩, i0, f0⟩⟩
  refine mm_icmp_ge (tgt := 36) C (mm_dec dk_X11_protest 15 rfl) (by decide) (fun c28 => ?_) (fun c28 => ?_)
  · skip
    refine mm_fgt 0 ?_
    refine mm_fgt 1 ?_
    refine mm_fgt 2 ?_
    exact J36
  · skip
    refine mm_iload_n C (mm_dec dk_X11_protest 16 rfl) rfl ?_
    refine mm_iconst C (mm_dec dk_X11_protest 17 rfl) ⟨by decide, by decide⟩ ?_
    refine mm_icmp_ne (tgt := 38) C (mm_dec dk_X11_protest 18 rfl) (by decide) (fun c33 => ?_) (fun c33 => ?_)
    · skip
      refine mm_aload_n C (mm_dec dk_X11_protest 21 rfl) rfl ?_
      refine mm_geti C fl_X11_102 (mm_dec dk_X11_protest 22 rfl) rfl rfl (Or.inl rfl) ?_
      refine mm_aload_n C (mm_dec dk_X11_protest 23 rfl) rfl ?_
      refine mm_getr (t := 30) C fl_X11_44 (mm_dec dk_X11_protest 24 rfl) rfl rfl (mm_ref i0 rfl) ?_
      refine mm_iload_n C (mm_dec dk_X11_protest 25 rfl) rfl ?_
      refine mm_cVi (rest := [mI (h.1 0 13)]) C1 ev_X11_330 (mm_dec dk_X11_protest 26 rfl) (c_X6_toldAt x.2.1 hl (d - 1) (by omega) h i0 r15 ⟨by omega, by omega⟩) rfl rfl (Nat.le_of_ble_eq_true rfl) ⟨by decide, by decide⟩ rfl (fun r47 h47c hp47 => ?_) (fun _ _ q => q.elim)
      obtain ⟨z47, y47⟩ := hp47
      rw [z47, y47]
      have g8 : -2147483648 ≤ (h.2.1 35 r15) ∧ (h.2.1 35 r15) ≤ 2147483647 := i0.2.1 35 r15
      refine mm_isubw C (mm_dec dk_X11_protest 27 rfl) ?_
      have g9 : -2147483648 ≤ (mm_w ((h.1 0 13) - (h.2.1 35 r15))) ∧ (mm_w ((h.1 0 13) - (h.2.1 35 r15))) < 2147483648 := mm_w_rg _
      refine mm_aload_n C (mm_dec dk_X11_protest 28 rfl) rfl ?_
      refine mm_getr (t := 42) C fl_X11_51 (mm_dec dk_X11_protest 29 rfl) rfl rfl (mm_ref i0 rfl) ?_
      refine mm_iconst C (mm_dec dk_X11_protest 30 rfl) ⟨by decide, by decide⟩ ?_
      refine mm_cVi (rest := [mI (mm_w ((h.1 0 13) - (h.2.1 35 r15)))]) C1 ev_X11_333 (mm_dec dk_X11_protest 31 rfl) (c_X8_param x.2.1 hl (d - 1) (by omega) h i0 2 ⟨by omega, by omega⟩) rfl rfl (Nat.le_of_ble_eq_true rfl) ⟨by decide, by decide⟩ rfl (fun r56 h56c hp56 => ?_) (fun _ _ q => q.elim)
      obtain ⟨z56, y56⟩ := hp56
      rw [z56, y56]
      have g11 : -2147483648 ≤ (h.2.1 44 2) ∧ (h.2.1 44 2) ≤ 2147483647 := i0.2.1 44 2
      refine mm_icmp_le (tgt := 64) C (mm_dec dk_X11_protest 32 rfl) (by decide) (fun c59 => ?_) (fun c59 => ?_)
      · skip
        refine mm_aload_n C (mm_dec dk_X11_protest 35 rfl) rfl ?_
        refine mm_getr (t := 30) C fl_X11_44 (mm_dec dk_X11_protest 36 rfl) rfl rfl (mm_ref i0 rfl) ?_
        refine mm_iload_n C (mm_dec dk_X11_protest 37 rfl) rfl ?_
        refine mm_cVi (rest := []) C1 ev_X11_336 (mm_dec dk_X11_protest 38 rfl) (c_X6_accuse x.2.1 hl (d - 1) (by omega) h i0 p1 ⟨by omega, by omega⟩ (by omega)) rfl rfl (Nat.le_of_ble_eq_true rfl) ⟨by decide, by decide⟩ rfl (fun r69 h69c hp69 => ?_) (fun _ _ q => q.elim)
        obtain ⟨b69, i69c, g69c⟩ := hp69
        have f69c : mm_fr [(30, 12)] [37, 40] h h69c := mm_fr_tr f0 g69c (by decide +kernel)
        have q69c_13 : h69c.1 0 13 = h.1 0 13 := g69c.1 0 13 (by decide)
        have q69c_14 : h69c.1 22 8 = h.1 22 8 := g69c.1 22 8 (by decide)
        exact mm_iret C T (mm_dec dk_X11_protest 39 rfl) (by decide : 1 ≤ 1) (by decide : 6 ≤ 6) ⟨_, rfl, ⟨⟨by omega, by omega⟩, i69c, f69c⟩⟩
      · skip
        refine mm_iconst C (mm_dec dk_X11_protest 33 rfl) ⟨by decide, by decide⟩ ?_
        exact mm_iret C T (mm_dec dk_X11_protest 34 rfl) (by decide : 1 ≤ 1) (by decide : 6 ≤ 6) ⟨_, rfl, ⟨⟨by omega, by omega⟩, i0, f0⟩⟩
    · skip
      refine mm_fgt 0 ?_
      refine mm_fgt 1 ?_
      refine mm_fgt 2 ?_
      exact J36
set_option maxRecDepth 100000 in
set_option maxHeartbeats 4000000 in
theorem c_X11_decide (l : Launch) (hl : l.stackTraces = false) (d : Nat) (hd : 8 ≤ d) (h : mH) (i0 : mm_inv h) (p1 : Int) (p2 : Int) (p3 : Int) : mm_Met l d yX11_decide cX11_decide 4 (some .boolean) [mR 0, mI p1, mI p2, mI p3] h (mm_pi fun r h2 => (0 ≤ r ∧ r ≤ 1) ∧ mm_inv h2 ∧ mm_fr [(30, 13)] [38, 39, 40, 41] h h2) (mm_xp h) 1 6 := by
  refine mm_ofW (ls := [mR 0, mI p1, mI p2, mI p3]) hl (by decide) rfl (Nat.le_of_ble_eq_true rfl) ?_
  intro x hxl C T hnm htb
  subst hxl
  have C1 := mm_OK_le (d' := d - 1 + 1) (by omega) C
  have C8 := mm_OK_le (d' := d - 8 + 8) (by omega) C
  refine mm_rng (fun hr _ => ?_)
  have ap1 : -2147483648 ≤ p1 ∧ p1 < 2147483648 := mm_ok_at hr (i := 1) rfl
  have ap2 : -2147483648 ≤ p2 ∧ p2 < 2147483648 := mm_ok_at hr (i := 2) rfl
  have ap3 : -2147483648 ≤ p3 ∧ p3 < 2147483648 := mm_ok_at hr (i := 3) rfl
  have f0 : mm_fr [(30, 13)] [38, 39, 40, 41] h h := mm_fr_rf
  refine mm_iload_n C (mm_dec dk_X11_decide 0 rfl) rfl ?_
  have J15 : mm_W x 0 0 15 [mU, mU, mU, mU] [] h := by
    exact mm_throwXW C8 T htb th_nse (i := 16) rfl (mm_dec dk_X11_decide 7 rfl) (mm_dec dk_X11_decide 8 rfl) (mm_dec dk_X11_decide 9 rfl) (mm_dec dk_X11_decide 10 rfl) (mm_dec dk_X11_decide 11 rfl) (Nat.le_of_ble_eq_true rfl) ⟨by decide, by decide⟩ ⟨by decide, by decide⟩ (Or.inl ⟨rfl, rfl⟩)
  refine mm_if_lt (tgt := 15) C (mm_dec dk_X11_decide 1 rfl) (by decide) (fun c1 => ?_) (fun c1 => ?_)
  · skip
    refine mm_fgt 0 ?_
    refine mm_fgt 1 ?_
    refine mm_fgt 2 ?_
    refine mm_fgt 3 ?_
    exact J15
  · skip
    refine mm_iload_n C (mm_dec dk_X11_decide 2 rfl) rfl ?_
    refine mm_aload_n C (mm_dec dk_X11_decide 3 rfl) rfl ?_
    refine mm_getr (t := 30) C fl_X11_44 (mm_dec dk_X11_decide 4 rfl) rfl rfl (mm_ref i0 rfl) ?_
    refine mm_cVi (rest := [mI p1]) C1 ev_X11_327 (mm_dec dk_X11_decide 5 rfl) (c_X6_protests x.2.1 hl (d - 1) (by omega) h i0 ) rfl rfl (Nat.le_of_ble_eq_true rfl) ⟨by decide, by decide⟩ rfl (fun r9 h9c hp9 => ?_) (fun _ _ q => q.elim)
    obtain ⟨z9, y9⟩ := hp9
    rw [z9, y9]
    have g2 : 0 ≤ (h.1 30 12) ∧ (h.1 30 12) ≤ 40 := i0.1 30 12
    refine mm_icmp_lt (tgt := 26) C (mm_dec dk_X11_decide 6 rfl) (by decide) (fun c12 => ?_) (fun c12 => ?_)
    · skip
      refine mm_iload_n C (mm_dec dk_X11_decide 12 rfl) rfl ?_
      refine mm_iconst C (mm_dec dk_X11_decide 13 rfl) ⟨by decide, by decide⟩ ?_
      refine mm_iconst C (mm_dec dk_X11_decide 14 rfl) ⟨by decide, by decide⟩ ?_
      refine mm_cSi (rest := []) C1 es_X11_130 (mm_dec dk_X11_decide 15 rfl) (c_X11_within x.2.1 hl (d - 1) (by omega) h i0 p2 0 2) rfl (Nat.le_of_ble_eq_true rfl) ⟨by decide, by decide⟩ rfl (fun r29 h29c hp29 => ?_) (fun _ _ q => q.elim)
      obtain ⟨z29, y29⟩ := hp29
      rw [z29]
      have J48 : mm_W x 0 0 48 [mU, mU, mU, mU] [] h := by
        refine mm_iconst C (mm_dec dk_X11_decide 22 rfl) ⟨by decide, by decide⟩ ?_
        exact mm_zret C T (mm_dec dk_X11_decide 23 rfl) (by decide : 0 ≤ 1) (by decide : 0 ≤ 6) (by omega) ⟨_, rfl, ⟨⟨by omega, by omega⟩, i0, f0⟩⟩
      refine mm_if_eq (tgt := 48) C (mm_dec dk_X11_decide 16 rfl) (by decide) (fun c32 => ?_) (fun c32 => ?_)
      · skip
        refine mm_fgt 0 ?_
        refine mm_fgt 1 ?_
        refine mm_fgt 2 ?_
        refine mm_fgt 3 ?_
        exact J48
      · skip
        refine mm_iload_n C (mm_dec dk_X11_decide 17 rfl) rfl ?_
        refine mm_sipush C (mm_dec dk_X11_decide 18 rfl) ⟨by decide, by decide⟩ ?_
        refine mm_sipush C (mm_dec dk_X11_decide 19 rfl) ⟨by decide, by decide⟩ ?_
        refine mm_cSi (rest := []) C1 es_X11_130 (mm_dec dk_X11_decide 20 rfl) (c_X11_within x.2.1 hl (d - 1) (by omega) h i0 p3 (-999) 999) rfl (Nat.le_of_ble_eq_true rfl) ⟨by decide, by decide⟩ rfl (fun r42 h42c hp42 => ?_) (fun _ _ q => q.elim)
        obtain ⟨z42, y42⟩ := hp42
        rw [z42]
        refine mm_if_ne (tgt := 50) C (mm_dec dk_X11_decide 21 rfl) (by decide) (fun c45 => ?_) (fun c45 => ?_)
        · skip
          refine mm_aload_n C (mm_dec dk_X11_decide 24 rfl) rfl ?_
          refine mm_getr (t := 30) C fl_X11_44 (mm_dec dk_X11_decide 25 rfl) rfl rfl (mm_ref i0 rfl) ?_
          refine mm_iload_n C (mm_dec dk_X11_decide 26 rfl) rfl ?_
          refine mm_iload_n C (mm_dec dk_X11_decide 27 rfl) rfl ?_
          refine mm_iload_n C (mm_dec dk_X11_decide 28 rfl) rfl ?_
          refine mm_aload_n C (mm_dec dk_X11_decide 29 rfl) rfl ?_
          refine mm_geti C fl_X11_102 (mm_dec dk_X11_decide 30 rfl) rfl rfl (Or.inl rfl) ?_
          have g5 : 0 ≤ (h.1 0 13) ∧ (h.1 0 13) ≤ 99999 := i0.1 0 13
          refine mm_cVi (rest := []) C1 ev_X11_341 (mm_dec dk_X11_decide 31 rfl) (c_X6_settle x.2.1 hl (d - 1) (by omega) h i0 p1 p2 p3 (h.1 0 13) ⟨by omega, by omega⟩) rfl rfl (Nat.le_of_ble_eq_true rfl) ⟨by decide, by decide⟩ rfl (fun r61 h61c hp61 => ?_) (fun _ _ q => q.elim)
          obtain ⟨b61, i61c, g61c⟩ := hp61
          have f61c : mm_fr [(30, 13)] [38, 39, 40, 41] h h61c := mm_fr_tr f0 g61c (by decide +kernel)
          have q61c_7 : h61c.1 0 13 = h.1 0 13 := g61c.1 0 13 (by decide)
          have q61c_8 : h61c.1 30 12 = h.1 30 12 := g61c.1 30 12 (by decide)
          exact mm_zret C T (mm_dec dk_X11_decide 32 rfl) (by decide : 0 ≤ 1) (by decide : 0 ≤ 6) (by omega) ⟨_, rfl, ⟨⟨by omega, by omega⟩, i61c, f61c⟩⟩
        · skip
          refine mm_fgt 0 ?_
          refine mm_fgt 1 ?_
          refine mm_fgt 2 ?_
          refine mm_fgt 3 ?_
          exact J48
    · skip
      refine mm_fgt 0 ?_
      refine mm_fgt 1 ?_
      refine mm_fgt 2 ?_
      refine mm_fgt 3 ?_
      exact J15
set_option maxRecDepth 100000 in
set_option maxHeartbeats 4000000 in
theorem c_X11_bestOf (l : Launch) (hl : l.stackTraces = false) (d : Nat) (hd : 8 ≤ d) (h : mH) (i0 : mm_inv h) (p1 : Int) : mm_Met l d yX11_bestOf cX11_bestOf 2 (some .int) [mR 0, mI p1] h (mm_pi fun r h2 => h2 = h ∧ ((0 ≤ p1 ∧ p1 ≤ 1 ∧ 1 ≠ 0 ∧ (h.1 58 10) ≠ 0 ∧ p1 ≠ 0 ∧ r = (h.1 58 8)) ∨ (0 ≤ p1 ∧ p1 ≤ 1 ∧ 1 ≠ 0 ∧ (h.1 58 10) ≠ 0 ∧ p1 = 0 ∧ r = (h.1 58 9)))) (mm_xp h) 1 6 := by
  refine mm_ofW (ls := [mR 0, mI p1]) hl (by decide) rfl (Nat.le_of_ble_eq_true rfl) ?_
  intro x hxl C T hnm htb
  subst hxl
  have C1 := mm_OK_le (d' := d - 1 + 1) (by omega) C
  have C8 := mm_OK_le (d' := d - 8 + 8) (by omega) C
  refine mm_rng (fun hr _ => ?_)
  have ap1 : -2147483648 ≤ p1 ∧ p1 < 2147483648 := mm_ok_at hr (i := 1) rfl
  have f0 : mm_fr [] [] h h := mm_fr_rf
  refine mm_iload_n C (mm_dec dk_X11_bestOf 0 rfl) rfl ?_
  refine mm_iconst C (mm_dec dk_X11_bestOf 1 rfl) ⟨by decide, by decide⟩ ?_
  refine mm_iconst C (mm_dec dk_X11_bestOf 2 rfl) ⟨by decide, by decide⟩ ?_
  refine mm_cSi (rest := []) C1 es_X11_130 (mm_dec dk_X11_bestOf 3 rfl) (c_X11_within x.2.1 hl (d - 1) (by omega) h i0 p1 0 1) rfl (Nat.le_of_ble_eq_true rfl) ⟨by decide, by decide⟩ rfl (fun r3 h3c hp3 => ?_) (fun _ _ q => q.elim)
  obtain ⟨z3, y3⟩ := hp3
  rw [z3]
  rcases y3 with ⟨k3_0, rfl⟩ | ⟨k3_0, k3_1, rfl⟩ | ⟨k3_0, k3_1, rfl⟩
  · skip
    refine mm_if_eq (tgt := 19) C (mm_dec dk_X11_bestOf 4 rfl) (by decide) (fun c6 => ?_) (fun c6 => ?_)
    · skip
      exact mm_throwXW C8 T htb th_nse (i := 18) rfl (mm_dec dk_X11_bestOf 9 rfl) (mm_dec dk_X11_bestOf 10 rfl) (mm_dec dk_X11_bestOf 11 rfl) (mm_dec dk_X11_bestOf 12 rfl) (mm_dec dk_X11_bestOf 13 rfl) (Nat.le_of_ble_eq_true rfl) ⟨by decide, by decide⟩ ⟨by decide, by decide⟩ (Or.inl ⟨rfl, rfl⟩)
    · skip
      exfalso; omega
  · skip
    refine mm_if_eq (tgt := 19) C (mm_dec dk_X11_bestOf 4 rfl) (by decide) (fun c6 => ?_) (fun c6 => ?_)
    · skip
      exact mm_throwXW C8 T htb th_nse (i := 18) rfl (mm_dec dk_X11_bestOf 9 rfl) (mm_dec dk_X11_bestOf 10 rfl) (mm_dec dk_X11_bestOf 11 rfl) (mm_dec dk_X11_bestOf 12 rfl) (mm_dec dk_X11_bestOf 13 rfl) (Nat.le_of_ble_eq_true rfl) ⟨by decide, by decide⟩ ⟨by decide, by decide⟩ (Or.inl ⟨rfl, rfl⟩)
    · skip
      exfalso; omega
  · skip
    refine mm_if_eq (tgt := 19) C (mm_dec dk_X11_bestOf 4 rfl) (by decide) (fun c6 => ?_) (fun c6 => ?_)
    · skip
      exfalso; omega
    · skip
      refine mm_aload_n C (mm_dec dk_X11_bestOf 5 rfl) rfl ?_
      refine mm_getr (t := 58) C fl_X11_78 (mm_dec dk_X11_bestOf 6 rfl) rfl rfl (mm_ref i0 rfl) ?_
      refine mm_cVi (rest := []) C1 ev_X11_360 (mm_dec dk_X11_bestOf 7 rfl) (c_X0_isKept x.2.1 hl (d - 1) (by omega) h i0 ) rfl rfl (Nat.le_of_ble_eq_true rfl) ⟨by decide, by decide⟩ rfl (fun r13 h13c hp13 => ?_) (fun _ _ q => q.elim)
      obtain ⟨z13, y13⟩ := hp13
      rw [z13, y13]
      have g3 : 0 ≤ (h.1 58 10) ∧ (h.1 58 10) ≤ 1 := i0.1 58 10
      refine mm_if_ne (tgt := 30) C (mm_dec dk_X11_bestOf 8 rfl) (by decide) (fun c16 => ?_) (fun c16 => ?_)
      · skip
        refine mm_iload_n C (mm_dec dk_X11_bestOf 14 rfl) rfl ?_
        refine mm_if_ne (tgt := 44) C (mm_dec dk_X11_bestOf 15 rfl) (by decide) (fun c31 => ?_) (fun c31 => ?_)
        · skip
          refine mm_aload_n C (mm_dec dk_X11_bestOf 20 rfl) rfl ?_
          refine mm_getr (t := 58) C fl_X11_78 (mm_dec dk_X11_bestOf 21 rfl) rfl rfl (mm_ref i0 rfl) ?_
          refine mm_cVi (rest := []) C1 ev_X11_368 (mm_dec dk_X11_bestOf 22 rfl) (c_X0_keptSeconds x.2.1 hl (d - 1) (by omega) h i0 ) rfl rfl (Nat.le_of_ble_eq_true rfl) ⟨by decide, by decide⟩ rfl (fun r48 h48c hp48 => ?_) (fun _ _ q => q.elim)
          obtain ⟨z48, y48⟩ := hp48
          rw [z48, y48]
          have g5 : -2147483648 ≤ (h.1 58 8) ∧ (h.1 58 8) ≤ 2147483647 := i0.1 58 8
          exact mm_iret C T (mm_dec dk_X11_bestOf 23 rfl) (by decide : 0 ≤ 1) (by decide : 0 ≤ 6) ⟨_, rfl, ⟨rfl, Or.inl ⟨by omega, by omega, by omega, by omega, by omega, rfl⟩⟩⟩
        · skip
          refine mm_aload_n C (mm_dec dk_X11_bestOf 16 rfl) rfl ?_
          refine mm_getr (t := 58) C fl_X11_78 (mm_dec dk_X11_bestOf 17 rfl) rfl rfl (mm_ref i0 rfl) ?_
          refine mm_cVi (rest := []) C1 ev_X11_365 (mm_dec dk_X11_bestOf 18 rfl) (c_X0_keptSet x.2.1 hl (d - 1) (by omega) h i0 ) rfl rfl (Nat.le_of_ble_eq_true rfl) ⟨by decide, by decide⟩ rfl (fun r38 h38c hp38 => ?_) (fun _ _ q => q.elim)
          obtain ⟨z38, y38⟩ := hp38
          rw [z38, y38]
          have g7 : -2147483648 ≤ (h.1 58 9) ∧ (h.1 58 9) ≤ 2147483647 := i0.1 58 9
          refine mm_goto (tgt := 51) C (mm_dec dk_X11_bestOf 19 rfl) (by decide) ?_
          exact mm_iret C T (mm_dec dk_X11_bestOf 23 rfl) (by decide : 0 ≤ 1) (by decide : 0 ≤ 6) ⟨_, rfl, ⟨rfl, Or.inr (⟨by omega, by omega, by omega, by omega, by omega, rfl⟩)⟩⟩
      · skip
        exact mm_throwXW C8 T htb th_nse (i := 18) rfl (mm_dec dk_X11_bestOf 9 rfl) (mm_dec dk_X11_bestOf 10 rfl) (mm_dec dk_X11_bestOf 11 rfl) (mm_dec dk_X11_bestOf 12 rfl) (mm_dec dk_X11_bestOf 13 rfl) (Nat.le_of_ble_eq_true rfl) ⟨by decide, by decide⟩ ⟨by decide, by decide⟩ (Or.inl ⟨rfl, rfl⟩)
set_option maxRecDepth 100000 in
set_option maxHeartbeats 4000000 in
theorem c_X2_fillRow_60 (l : Launch) (hl : l.stackTraces = false) (d : Nat) (hd : 0 ≤ d) (h : mH) (i0 : mm_inv h) (p1 : Int) (p2 : Int) (bp1 : 0 ≤ p1 ∧ p1 ≤ 7) (bp2 : 0 ≤ p2 ∧ p2 ≤ 80) : mm_Met l d yX2_fillRow cX2_fillRow 7 (some .int) [mR 14, mI p1, mI p2, mR 60] h (mm_pi fun r h2 => (0 ≤ r ∧ r ≤ 12) ∧ mm_inv h2 ∧ mm_fr [] [60] h h2) mm_nx 0 0 := by
  refine mm_ofW (ls := [mR 14, mI p1, mI p2, mR 60, mU, mU, mU]) hl (by decide) rfl (Nat.le_of_ble_eq_true rfl) ?_
  intro x hxl C T hnm htb
  subst hxl
  refine mm_rng (fun hr _ => ?_)
  have ap1 : -2147483648 ≤ p1 ∧ p1 < 2147483648 := mm_ok_at hr (i := 1) rfl
  have ap2 : -2147483648 ≤ p2 ∧ p2 < 2147483648 := mm_ok_at hr (i := 2) rfl
  have f0 : mm_fr [] [60] h h := mm_fr_rf
  refine mm_iload_n C (mm_dec dk_X2_fillRow 0 rfl) rfl ?_
  refine mm_istoreL (ls2 := [mR 14, mI p1, mI p2, mR 60, mI p2, mU, mU]) C (mm_dec dk_X2_fillRow 1 rfl) (by decide) rfl ?_
  refine mm_iconst C (mm_dec dk_X2_fillRow 2 rfl) ⟨by decide, by decide⟩ ?_
  have J6 : ∀ (n : Nat) (x6_4 : Int) (bx6_4 : 0 ≤ x6_4 ∧ x6_4 ≤ 80) (x6_5 : Int) (bx6_5 : 0 ≤ x6_5 ∧ x6_5 ≤ 12) (h6_ : mH) (i6_ : mm_inv h6_) (f6_ : mm_fr [] [60] h h6_), (12 - x6_5 : Int) < n → mm_W x 0 0 6 [mR 14, mI p1, mU, mR 60, mI x6_4, mI x6_5, mU] [] h6_ := by
    intro n
    induction n with
    | zero =>
      intro x6_4 bx6_4 x6_5 bx6_5 h6_ i6_ f6_ hm
      exfalso; omega
    | succ n ih6 =>
      intro x6_4 bx6_4 x6_5 bx6_5 h6_ i6_ f6_ hm6
      refine mm_iload C (mm_dec dk_X2_fillRow 4 rfl) rfl ?_
      refine mm_aload_n C (mm_dec dk_X2_fillRow 5 rfl) rfl ?_
      refine mm_getr (t := 19) C fl_X2_25 (mm_dec dk_X2_fillRow 6 rfl) rfl rfl (mm_ref i6_ rfl) ?_
      refine mm_iload_n C (mm_dec dk_X2_fillRow 7 rfl) rfl ?_
      refine mm_iald C (mm_dec dk_X2_fillRow 8 rfl) rfl (by omega) (by omega) ?_
      have g1 : 0 ≤ (h6_.2.1 19 p1) ∧ (h6_.2.1 19 p1) ≤ 12 := i6_.2.1 19 p1
      refine mm_icmp_ge (tgt := 86) C (mm_dec dk_X2_fillRow 9 rfl) (by decide) (fun c14 => ?_) (fun c14 => ?_)
      · skip
        refine mm_aload_n C (mm_dec dk_X2_fillRow 53 rfl) rfl ?_
        refine mm_getr (t := 19) C fl_X2_25 (mm_dec dk_X2_fillRow 54 rfl) rfl rfl (mm_ref i6_ rfl) ?_
        refine mm_iload_n C (mm_dec dk_X2_fillRow 55 rfl) rfl ?_
        refine mm_iald C (mm_dec dk_X2_fillRow 56 rfl) rfl (by omega) (by omega) ?_
        exact mm_iret C T (mm_dec dk_X2_fillRow 57 rfl) (by decide : 0 ≤ 0) (by decide : 0 ≤ 0) ⟨_, rfl, ⟨⟨by omega, by omega⟩, i6_, f6_⟩⟩
      · skip
        refine mm_iload_n C (mm_dec dk_X2_fillRow 10 rfl) rfl ?_
        refine mm_bipush C (mm_dec dk_X2_fillRow 11 rfl) ⟨by decide, by decide⟩ ?_
        refine mm_imul C (mm_dec dk_X2_fillRow 12 rfl) ⟨by omega, by omega⟩ ?_
        refine mm_iload C (mm_dec dk_X2_fillRow 13 rfl) rfl ?_
        refine mm_iadd C (mm_dec dk_X2_fillRow 14 rfl) ⟨by omega, by omega⟩ ?_
        refine mm_iconst C (mm_dec dk_X2_fillRow 15 rfl) ⟨by decide, by decide⟩ ?_
        refine mm_imul C (mm_dec dk_X2_fillRow 16 rfl) ⟨by omega, by omega⟩ ?_
        refine mm_istoreL (ls2 := [mR 14, mI p1, mU, mR 60, mI x6_4, mI x6_5, mI (((p1 * 12) + x6_5) * 3)]) C (mm_dec dk_X2_fillRow 17 rfl) (by decide) rfl ?_
        refine mm_aload_n C (mm_dec dk_X2_fillRow 18 rfl) rfl ?_
        refine mm_iload C (mm_dec dk_X2_fillRow 19 rfl) rfl ?_
        refine mm_aload_n C (mm_dec dk_X2_fillRow 20 rfl) rfl ?_
        refine mm_getr (t := 21) C fl_X2_31 (mm_dec dk_X2_fillRow 21 rfl) rfl rfl (mm_ref i6_ rfl) ?_
        refine mm_iload C (mm_dec dk_X2_fillRow 22 rfl) rfl ?_
        refine mm_iald C (mm_dec dk_X2_fillRow 23 rfl) rfl (by omega) (by omega) ?_
        have g2 : 0 ≤ (h6_.2.1 21 (((p1 * 12) + x6_5) * 3)) ∧ (h6_.2.1 21 (((p1 * 12) + x6_5) * 3)) ≤ 19 := i6_.2.1 21 (((p1 * 12) + x6_5) * 3)
        refine mm_iast C (mm_dec dk_X2_fillRow 24 rfl) rfl (by omega) (by omega) ?_
        have i1 : mm_inv (mm_pa h6_ 60 x6_5 (h6_.2.1 21 (((p1 * 12) + x6_5) * 3))) := mm_inv_pa i6_ (show 0 ≤ (h6_.2.1 21 (((p1 * 12) + x6_5) * 3)) ∧ (h6_.2.1 21 (((p1 * 12) + x6_5) * 3)) ≤ 19 from ⟨by omega, by omega⟩)
        have f1 : mm_fr [] [60] h (mm_pa h6_ 60 x6_5 (h6_.2.1 21 (((p1 * 12) + x6_5) * 3))) := mm_fr_pa f6_ (by decide)
        obtain ⟨h1, eh1⟩ : ∃ z, z = mm_pa h6_ 60 x6_5 (h6_.2.1 21 (((p1 * 12) + x6_5) * 3)) := ⟨_, rfl⟩
        rw [← eh1] at i1 f1 ⊢
        refine mm_aload_n C (mm_dec dk_X2_fillRow 25 rfl) rfl ?_
        refine mm_getr (t := 21) C fl_X2_31 (mm_dec dk_X2_fillRow 26 rfl) rfl rfl (mm_ref i1 rfl) ?_
        refine mm_iload C (mm_dec dk_X2_fillRow 27 rfl) rfl ?_
        refine mm_iconst C (mm_dec dk_X2_fillRow 28 rfl) ⟨by decide, by decide⟩ ?_
        refine mm_iadd C (mm_dec dk_X2_fillRow 29 rfl) ⟨by omega, by omega⟩ ?_
        refine mm_iald C (mm_dec dk_X2_fillRow 30 rfl) rfl (by omega) (by omega) ?_
        have g3 : 0 ≤ (h1.2.1 21 ((((p1 * 12) + x6_5) * 3) + 1)) ∧ (h1.2.1 21 ((((p1 * 12) + x6_5) * 3) + 1)) ≤ 19 := i1.2.1 21 ((((p1 * 12) + x6_5) * 3) + 1)
        refine mm_aload_n C (mm_dec dk_X2_fillRow 31 rfl) rfl ?_
        refine mm_getr (t := 21) C fl_X2_31 (mm_dec dk_X2_fillRow 32 rfl) rfl rfl (mm_ref i1 rfl) ?_
        refine mm_iload C (mm_dec dk_X2_fillRow 33 rfl) rfl ?_
        refine mm_iald C (mm_dec dk_X2_fillRow 34 rfl) rfl (by omega) (by omega) ?_
        have g4 : 0 ≤ (h1.2.1 21 (((p1 * 12) + x6_5) * 3)) ∧ (h1.2.1 21 (((p1 * 12) + x6_5) * 3)) ≤ 19 := i1.2.1 21 (((p1 * 12) + x6_5) * 3)
        have J80 : ∀ (x80_4 : Int) (bx80_4 : 0 ≤ x80_4 ∧ x80_4 ≤ 80) (h80_ : mH) (i80_ : mm_inv h80_) (f80_ : mm_fr [] [60] h h80_), mm_W x 0 0 80 [mR 14, mI p1, mU, mR 60, mI x80_4, mI x6_5, mU] [] h80_ := by
          intro x80_4 bx80_4 h80_ i80_ f80_
          refine mm_iincL (ls2 := [mR 14, mI p1, mU, mR 60, mI x80_4, mI (x6_5 + 1), mU]) C (mm_dec dk_X2_fillRow 51 rfl) rfl (by decide) ⟨by omega, by omega⟩ rfl ?_
          refine mm_goto (tgt := 6) C (mm_dec dk_X2_fillRow 52 rfl) (by decide) ?_
          exact ih6 x80_4 ⟨by omega, by omega⟩ (x6_5 + 1) ⟨by omega, by omega⟩ h80_ i80_ f80_ (by omega)
        refine mm_icmp_eq (tgt := 80) C (mm_dec dk_X2_fillRow 35 rfl) (by decide) (fun c55 => ?_) (fun c55 => ?_)
        · skip
          refine mm_fgt 6 ?_
          exact J80 x6_4 ⟨by omega, by omega⟩ h1 i1 f1
        · skip
          refine mm_aload_n C (mm_dec dk_X2_fillRow 36 rfl) rfl ?_
          refine mm_iload C (mm_dec dk_X2_fillRow 37 rfl) rfl ?_
          refine mm_aload_n C (mm_dec dk_X2_fillRow 38 rfl) rfl ?_
          refine mm_getr (t := 21) C fl_X2_31 (mm_dec dk_X2_fillRow 39 rfl) rfl rfl (mm_ref i1 rfl) ?_
          refine mm_iload C (mm_dec dk_X2_fillRow 40 rfl) rfl ?_
          refine mm_iload C (mm_dec dk_X2_fillRow 41 rfl) rfl ?_
          refine mm_iconst C (mm_dec dk_X2_fillRow 42 rfl) ⟨by decide, by decide⟩ ?_
          refine mm_irem C (mm_dec dk_X2_fillRow 43 rfl) (by omega) (by omega) ?_
          refine mm_iadd C (mm_dec dk_X2_fillRow 44 rfl) ⟨by omega, by omega⟩ ?_
          refine mm_iald C (mm_dec dk_X2_fillRow 45 rfl) rfl (by omega) (by omega) ?_
          have g5 : 0 ≤ (h1.2.1 21 ((((p1 * 12) + x6_5) * 3) + (x6_4 % 3))) ∧ (h1.2.1 21 ((((p1 * 12) + x6_5) * 3) + (x6_4 % 3))) ≤ 19 := i1.2.1 21 ((((p1 * 12) + x6_5) * 3) + (x6_4 % 3))
          refine mm_iast C (mm_dec dk_X2_fillRow 46 rfl) rfl (by omega) (by omega) ?_
          have i2 : mm_inv (mm_pa h1 60 x6_5 (h1.2.1 21 ((((p1 * 12) + x6_5) * 3) + (x6_4 % 3)))) := mm_inv_pa i1 (show 0 ≤ (h1.2.1 21 ((((p1 * 12) + x6_5) * 3) + (x6_4 % 3))) ∧ (h1.2.1 21 ((((p1 * 12) + x6_5) * 3) + (x6_4 % 3))) ≤ 19 from ⟨by omega, by omega⟩)
          have f2 : mm_fr [] [60] h (mm_pa h1 60 x6_5 (h1.2.1 21 ((((p1 * 12) + x6_5) * 3) + (x6_4 % 3)))) := mm_fr_pa f1 (by decide)
          obtain ⟨h2, eh2⟩ : ∃ z, z = mm_pa h1 60 x6_5 (h1.2.1 21 ((((p1 * 12) + x6_5) * 3) + (x6_4 % 3))) := ⟨_, rfl⟩
          rw [← eh2] at i2 f2 ⊢
          refine mm_iload C (mm_dec dk_X2_fillRow 47 rfl) rfl ?_
          refine mm_iconst C (mm_dec dk_X2_fillRow 48 rfl) ⟨by decide, by decide⟩ ?_
          refine mm_idiv C (mm_dec dk_X2_fillRow 49 rfl) ⟨by omega, by omega⟩ (by omega) ?_
          refine mm_istoreL (ls2 := [mR 14, mI p1, mU, mR 60, mI (x6_4 / 3), mI x6_5, mI (((p1 * 12) + x6_5) * 3)]) C (mm_dec dk_X2_fillRow 50 rfl) (by decide) rfl ?_
          refine mm_fgt 6 ?_
          exact J80 (x6_4 / 3) ⟨by omega, by omega⟩ h2 i2 f2
  refine mm_istoreL (ls2 := [mR 14, mI p1, mI p2, mR 60, mI p2, mI 0, mU]) C (mm_dec dk_X2_fillRow 3 rfl) (by decide) rfl ?_
  refine mm_fgt 2 ?_
  exact J6 (((12 - 0) : Int) + 1).toNat p2 ⟨by omega, by omega⟩ 0 ⟨by omega, by omega⟩ h i0 f0 (by omega)
set_option maxRecDepth 100000 in
set_option maxHeartbeats 4000000 in
theorem c_X8_setDefaults_65 (l : Launch) (hl : l.stackTraces = false) (d : Nat) (hd : 0 ≤ d) (h : mH) (i0 : mm_inv h) : mm_Met l d yX8_setDefaults cX8_setDefaults 1 none [mR 65] h (mm_pv fun h2 => mm_inv h2 ∧ mm_fr [] [65] h h2) mm_nx 0 0 := by
  refine mm_ofW (ls := [mR 65]) hl (by decide) rfl (Nat.le_of_ble_eq_true rfl) ?_
  intro x hxl C T hnm htb
  subst hxl
  have f0 : mm_fr [] [65] h h := mm_fr_rf
  refine mm_aload_n C (mm_dec dk_X8_setDefaults 0 rfl) rfl ?_
  refine mm_iconst C (mm_dec dk_X8_setDefaults 1 rfl) ⟨by decide, by decide⟩ ?_
  refine mm_sipush C (mm_dec dk_X8_setDefaults 2 rfl) ⟨by decide, by decide⟩ ?_
  refine mm_iast C (mm_dec dk_X8_setDefaults 3 rfl) rfl (by omega) (by omega) ?_
  have i1 : mm_inv (mm_pa h 65 0 3600) := mm_inv_pa i0 (show -2147483648 ≤ 3600 ∧ 3600 ≤ 2147483647 from ⟨by omega, by omega⟩)
  have f1 : mm_fr [] [65] h (mm_pa h 65 0 3600) := mm_fr_pa f0 (by decide)
  obtain ⟨h1, eh1⟩ : ∃ z, z = mm_pa h 65 0 3600 := ⟨_, rfl⟩
  rw [← eh1] at i1 f1 ⊢
  refine mm_aload_n C (mm_dec dk_X8_setDefaults 4 rfl) rfl ?_
  refine mm_iconst C (mm_dec dk_X8_setDefaults 5 rfl) ⟨by decide, by decide⟩ ?_
  refine mm_bipush C (mm_dec dk_X8_setDefaults 6 rfl) ⟨by decide, by decide⟩ ?_
  refine mm_iast C (mm_dec dk_X8_setDefaults 7 rfl) rfl (by omega) (by omega) ?_
  have i2 : mm_inv (mm_pa h1 65 1 60) := mm_inv_pa i1 (show -2147483648 ≤ 60 ∧ 60 ≤ 2147483647 from ⟨by omega, by omega⟩)
  have f2 : mm_fr [] [65] h (mm_pa h1 65 1 60) := mm_fr_pa f1 (by decide)
  obtain ⟨h2, eh2⟩ : ∃ z, z = mm_pa h1 65 1 60 := ⟨_, rfl⟩
  rw [← eh2] at i2 f2 ⊢
  refine mm_aload_n C (mm_dec dk_X8_setDefaults 8 rfl) rfl ?_
  refine mm_iconst C (mm_dec dk_X8_setDefaults 9 rfl) ⟨by decide, by decide⟩ ?_
  refine mm_sipush C (mm_dec dk_X8_setDefaults 10 rfl) ⟨by decide, by decide⟩ ?_
  refine mm_iast C (mm_dec dk_X8_setDefaults 11 rfl) rfl (by omega) (by omega) ?_
  have i3 : mm_inv (mm_pa h2 65 2 900) := mm_inv_pa i2 (show -2147483648 ≤ 900 ∧ 900 ≤ 2147483647 from ⟨by omega, by omega⟩)
  have f3 : mm_fr [] [65] h (mm_pa h2 65 2 900) := mm_fr_pa f2 (by decide)
  obtain ⟨h3, eh3⟩ : ∃ z, z = mm_pa h2 65 2 900 := ⟨_, rfl⟩
  rw [← eh3] at i3 f3 ⊢
  exact mm_vret C T (mm_dec dk_X8_setDefaults 12 rfl) (by decide : 0 ≤ 0) (by decide : 0 ≤ 0) ⟨rfl, ⟨i3, f3⟩⟩
set_option maxRecDepth 100000 in
set_option maxHeartbeats 4000000 in
theorem c_X8_setDefaults_44 (l : Launch) (hl : l.stackTraces = false) (d : Nat) (hd : 0 ≤ d) (h : mH) (i0 : mm_inv h) : mm_Met l d yX8_setDefaults cX8_setDefaults 1 none [mR 44] h (mm_pv fun h2 => mm_inv h2 ∧ mm_fr [] [44] h h2) mm_nx 0 0 := by
  refine mm_ofW (ls := [mR 44]) hl (by decide) rfl (Nat.le_of_ble_eq_true rfl) ?_
  intro x hxl C T hnm htb
  subst hxl
  have f0 : mm_fr [] [44] h h := mm_fr_rf
  refine mm_aload_n C (mm_dec dk_X8_setDefaults 0 rfl) rfl ?_
  refine mm_iconst C (mm_dec dk_X8_setDefaults 1 rfl) ⟨by decide, by decide⟩ ?_
  refine mm_sipush C (mm_dec dk_X8_setDefaults 2 rfl) ⟨by decide, by decide⟩ ?_
  refine mm_iast C (mm_dec dk_X8_setDefaults 3 rfl) rfl (by omega) (by omega) ?_
  have i1 : mm_inv (mm_pa h 44 0 3600) := mm_inv_pa i0 (show -2147483648 ≤ 3600 ∧ 3600 ≤ 2147483647 from ⟨by omega, by omega⟩)
  have f1 : mm_fr [] [44] h (mm_pa h 44 0 3600) := mm_fr_pa f0 (by decide)
  obtain ⟨h1, eh1⟩ : ∃ z, z = mm_pa h 44 0 3600 := ⟨_, rfl⟩
  rw [← eh1] at i1 f1 ⊢
  refine mm_aload_n C (mm_dec dk_X8_setDefaults 4 rfl) rfl ?_
  refine mm_iconst C (mm_dec dk_X8_setDefaults 5 rfl) ⟨by decide, by decide⟩ ?_
  refine mm_bipush C (mm_dec dk_X8_setDefaults 6 rfl) ⟨by decide, by decide⟩ ?_
  refine mm_iast C (mm_dec dk_X8_setDefaults 7 rfl) rfl (by omega) (by omega) ?_
  have i2 : mm_inv (mm_pa h1 44 1 60) := mm_inv_pa i1 (show -2147483648 ≤ 60 ∧ 60 ≤ 2147483647 from ⟨by omega, by omega⟩)
  have f2 : mm_fr [] [44] h (mm_pa h1 44 1 60) := mm_fr_pa f1 (by decide)
  obtain ⟨h2, eh2⟩ : ∃ z, z = mm_pa h1 44 1 60 := ⟨_, rfl⟩
  rw [← eh2] at i2 f2 ⊢
  refine mm_aload_n C (mm_dec dk_X8_setDefaults 8 rfl) rfl ?_
  refine mm_iconst C (mm_dec dk_X8_setDefaults 9 rfl) ⟨by decide, by decide⟩ ?_
  refine mm_sipush C (mm_dec dk_X8_setDefaults 10 rfl) ⟨by decide, by decide⟩ ?_
  refine mm_iast C (mm_dec dk_X8_setDefaults 11 rfl) rfl (by omega) (by omega) ?_
  have i3 : mm_inv (mm_pa h2 44 2 900) := mm_inv_pa i2 (show -2147483648 ≤ 900 ∧ 900 ≤ 2147483647 from ⟨by omega, by omega⟩)
  have f3 : mm_fr [] [44] h (mm_pa h2 44 2 900) := mm_fr_pa f2 (by decide)
  obtain ⟨h3, eh3⟩ : ∃ z, z = mm_pa h2 44 2 900 := ⟨_, rfl⟩
  rw [← eh3] at i3 f3 ⊢
  exact mm_vret C T (mm_dec dk_X8_setDefaults 12 rfl) (by decide : 0 ≤ 0) (by decide : 0 ≤ 0) ⟨rfl, ⟨i3, f3⟩⟩
set_option maxRecDepth 100000 in
set_option maxHeartbeats 4000000 in
theorem c_X8_clear (l : Launch) (hl : l.stackTraces = false) (d : Nat) (hd : 1 ≤ d) (h : mH) (i0 : mm_inv h) : mm_Met l d yX8_clear cX8_clear 1 none [mR 42] h (mm_pv fun h2 => mm_inv h2 ∧ mm_fr [(42, 3)] [44] h h2) mm_nx 0 0 := by
  refine mm_ofW (ls := [mR 42]) hl (by decide) rfl (Nat.le_of_ble_eq_true rfl) ?_
  intro x hxl C T hnm htb
  subst hxl
  have C1 := mm_OK_le (d' := d - 1 + 1) (by omega) C
  have f0 : mm_fr [(42, 3)] [44] h h := mm_fr_rf
  refine mm_aload_n C (mm_dec dk_X8_clear 0 rfl) rfl ?_
  refine mm_iconst C (mm_dec dk_X8_clear 1 rfl) ⟨by decide, by decide⟩ ?_
  refine mm_puti C fl_X8_21 (mm_dec dk_X8_clear 2 rfl) rfl rfl rfl (Or.inl ⟨rfl, rfl⟩) ?_
  have i1 : mm_inv (mm_pf h 42 3 0) := mm_inv_pf i0 (show 0 ≤ 0 ∧ 0 ≤ 500 from ⟨by omega, by omega⟩) (by decide)
  have f1 : mm_fr [(42, 3)] [44] h (mm_pf h 42 3 0) := mm_fr_pf f0 (by decide)
  obtain ⟨h1, eh1⟩ : ∃ z, z = mm_pf h 42 3 0 := ⟨_, rfl⟩
  rw [← eh1] at i1 f1 ⊢
  have qh1 : h1.1 42 3 = 0 := by rw [eh1]; exact mm_pf_same _ _ _ _
  refine mm_aload_n C (mm_dec dk_X8_clear 3 rfl) rfl ?_
  refine mm_getr (t := 44) C fl_X8_15 (mm_dec dk_X8_clear 4 rfl) rfl rfl (mm_ref i1 rfl) ?_
  refine mm_cSv (rest := []) C1 es_X8_35 (mm_dec dk_X8_clear 5 rfl) (c_X8_setDefaults_44 x.2.1 hl (d - 1) (by omega) h1 i1 ) rfl (Nat.le_of_ble_eq_true rfl) ⟨by decide, by decide⟩ rfl (fun h9c hp9 => ?_) (fun _ _ q => q.elim)
  obtain ⟨i9c, g9c⟩ := hp9
  have f9c : mm_fr [(42, 3)] [44] h h9c := mm_fr_tr f1 g9c (by decide +kernel)
  have q9c_2 : h9c.1 42 3 = h1.1 42 3 := g9c.1 42 3 (by decide)
  exact mm_vret C T (mm_dec dk_X8_clear 6 rfl) (by decide : 0 ≤ 0) (by decide : 0 ≤ 0) ⟨rfl, ⟨i9c, f9c⟩⟩
set_option maxRecDepth 100000 in
set_option maxHeartbeats 4000000 in
theorem c_X10_offerAround (l : Launch) (hl : l.stackTraces = false) (d : Nat) (hd : 2 ≤ d) (h : mH) (i0 : mm_inv h) (p1 : Int) (bp1 : 0 ≤ p1 ∧ p1 ≤ 399) (t0 : h.1 7 7 ≤ (mm_cnt h : Int)) : mm_Met l d yX10_offerAround cX10_offerAround 4 none [mR 7, mI p1] h (mm_pv fun h2 => mm_inv h2 ∧ mm_fr [(7, 7)] [8, 9, 10] h h2 ∧ h2.1 7 7 ≤ (mm_cnt h2 : Int)) mm_nx 0 0 := by
  refine mm_ofW (ls := [mR 7, mI p1, mU, mU]) hl (by decide) rfl (Nat.le_of_ble_eq_true rfl) ?_
  intro x hxl C T hnm htb
  subst hxl
  have C1 := mm_OK_le (d' := d - 1 + 1) (by omega) C
  refine mm_rng (fun hr _ => ?_)
  have ap1 : -2147483648 ≤ p1 ∧ p1 < 2147483648 := mm_ok_at hr (i := 1) rfl
  have f0 : mm_fr [(7, 7)] [8, 9, 10] h h := mm_fr_rf
  have g1 : 0 ≤ h.1 7 7 ∧ h.1 7 7 ≤ 400 := i0.1 7 7
  refine mm_iconst C (mm_dec dk_X10_offerAround 0 rfl) ⟨by decide, by decide⟩ ?_
  have J2 : ∀ (n : Nat) (x2_2 : Int) (bx2_2 : 0 ≤ x2_2 ∧ x2_2 ≤ 4) (h2_ : mH) (i2_ : mm_inv h2_) (f2_ : mm_fr [(7, 7)] [8, 9, 10] h h2_) (w2_0 : h2_.1 7 7 ≤ (mm_cnt h2_ : Int)), (4 - x2_2 : Int) < n → mm_W x 0 0 2 [mR 7, mI p1, mI x2_2, mU] [] h2_ := by
    intro n
    induction n with
    | zero =>
      intro x2_2 bx2_2 h2_ i2_ f2_ w2_0 hm
      have g2 : 0 ≤ h2_.1 7 7 ∧ h2_.1 7 7 ≤ 400 := i2_.1 7 7
      exfalso; omega
    | succ n ih2 =>
      intro x2_2 bx2_2 h2_ i2_ f2_ w2_0 hm2
      have g3 : 0 ≤ h2_.1 7 7 ∧ h2_.1 7 7 ≤ 400 := i2_.1 7 7
      refine mm_iload_n C (mm_dec dk_X10_offerAround 2 rfl) rfl ?_
      refine mm_iconst C (mm_dec dk_X10_offerAround 3 rfl) ⟨by decide, by decide⟩ ?_
      refine mm_icmp_ge (tgt := 55) C (mm_dec dk_X10_offerAround 4 rfl) (by decide) (fun c4 => ?_) (fun c4 => ?_)
      · skip
        exact mm_vret C T (mm_dec dk_X10_offerAround 33 rfl) (by decide : 0 ≤ 0) (by decide : 0 ≤ 0) ⟨rfl, ⟨i2_, f2_, by omega⟩⟩
      · skip
        refine mm_aload_n C (mm_dec dk_X10_offerAround 5 rfl) rfl ?_
        refine mm_getr (t := 1) C fl_X10_48 (mm_dec dk_X10_offerAround 6 rfl) rfl rfl (mm_ref i2_ rfl) ?_
        refine mm_iload_n C (mm_dec dk_X10_offerAround 7 rfl) rfl ?_
        refine mm_iload_n C (mm_dec dk_X10_offerAround 8 rfl) rfl ?_
        refine mm_cVi (rest := []) C1 ev_X10_61 (mm_dec dk_X10_offerAround 9 rfl) (c_X5_beside x.2.1 hl (d - 1) (by omega) h2_ i2_ p1 x2_2 ⟨by omega, by omega⟩) rfl rfl (Nat.le_of_ble_eq_true rfl) ⟨by decide, by decide⟩ rfl (fun r13 h13c hp13 => ?_) (fun _ _ q => q.elim)
        obtain ⟨b13, z13, y13_0⟩ := hp13
        rw [z13]
        refine mm_istore_nL (ls2 := [mR 7, mI p1, mI x2_2, mI r13]) C (mm_dec dk_X10_offerAround 10 rfl) (by decide) rfl ?_
        refine mm_iload_n C (mm_dec dk_X10_offerAround 11 rfl) rfl ?_
        refine mm_iconst C (mm_dec dk_X10_offerAround 12 rfl) ⟨by decide, by decide⟩ ?_
        have J49 : ∀ (h49_ : mH) (i49_ : mm_inv h49_) (f49_ : mm_fr [(7, 7)] [8, 9, 10] h h49_) (w49_0 : h49_.1 7 7 ≤ (mm_cnt h49_ : Int)), mm_W x 0 0 49 [mR 7, mI p1, mI x2_2, mU] [] h49_ := by
          intro h49_ i49_ f49_ w49_0
          have g5 : 0 ≤ h49_.1 7 7 ∧ h49_.1 7 7 ≤ 400 := i49_.1 7 7
          refine mm_iincL (ls2 := [mR 7, mI p1, mI (x2_2 + 1), mU]) C (mm_dec dk_X10_offerAround 31 rfl) rfl (by decide) ⟨by omega, by omega⟩ rfl ?_
          refine mm_goto (tgt := 2) C (mm_dec dk_X10_offerAround 32 rfl) (by decide) ?_
          exact ih2 (x2_2 + 1) ⟨by omega, by omega⟩ h49_ i49_ f49_ (by omega) (by omega)
        refine mm_icmp_eq (tgt := 49) C (mm_dec dk_X10_offerAround 13 rfl) (by decide) (fun c19 => ?_) (fun c19 => ?_)
        · skip
          refine mm_fgt 3 ?_
          exact J49 h2_ i2_ f2_ (by omega)
        · skip
          refine mm_aload_n C (mm_dec dk_X10_offerAround 14 rfl) rfl ?_
          refine mm_iload_n C (mm_dec dk_X10_offerAround 15 rfl) rfl ?_
          refine mm_aload_n C (mm_dec dk_X10_offerAround 16 rfl) rfl ?_
          refine mm_getr (t := 8) C fl_X10_9 (mm_dec dk_X10_offerAround 17 rfl) rfl rfl (mm_ref i2_ rfl) ?_
          refine mm_iload_n C (mm_dec dk_X10_offerAround 18 rfl) rfl ?_
          refine mm_iald C (mm_dec dk_X10_offerAround 19 rfl) rfl (by omega) (by omega) ?_
          have g6 : -2147483648 ≤ (h2_.2.1 8 p1) ∧ (h2_.2.1 8 p1) ≤ 2147483647 := i2_.2.1 8 p1
          refine mm_aload_n C (mm_dec dk_X10_offerAround 20 rfl) rfl ?_
          refine mm_getr (t := 1) C fl_X10_48 (mm_dec dk_X10_offerAround 21 rfl) rfl rfl (mm_ref i2_ rfl) ?_
          refine mm_iload_n C (mm_dec dk_X10_offerAround 22 rfl) rfl ?_
          refine mm_iload_n C (mm_dec dk_X10_offerAround 23 rfl) rfl ?_
          refine mm_cVi (rest := [mI (h2_.2.1 8 p1), mI r13, mR 7]) C1 ev_X10_91 (mm_dec dk_X10_offerAround 24 rfl) (c_X5_secondsOf x.2.1 hl (d - 1) (by omega) h2_ i2_ r13 p1 ⟨by omega, by omega⟩ ⟨by omega, by omega⟩) rfl rfl (Nat.le_of_ble_eq_true rfl) ⟨by decide, by decide⟩ rfl (fun r36 h36c hp36 => ?_) (fun _ _ q => q.elim)
          obtain ⟨b36, z36⟩ := hp36
          rw [z36]
          refine mm_sipush C (mm_dec dk_X10_offerAround 25 rfl) ⟨by decide, by decide⟩ ?_
          refine mm_imul C (mm_dec dk_X10_offerAround 26 rfl) ⟨by omega, by omega⟩ ?_
          refine mm_iaddw C (mm_dec dk_X10_offerAround 27 rfl) ?_
          have g8 : -2147483648 ≤ (mm_w ((h2_.2.1 8 p1) + (r36 * 512))) ∧ (mm_w ((h2_.2.1 8 p1) + (r36 * 512))) < 2147483648 := mm_w_rg _
          refine mm_iconst C (mm_dec dk_X10_offerAround 28 rfl) ⟨by decide, by decide⟩ ?_
          refine mm_iaddw C (mm_dec dk_X10_offerAround 29 rfl) ?_
          have g9 : -2147483648 ≤ (mm_w ((mm_w ((h2_.2.1 8 p1) + (r36 * 512))) + 1)) ∧ (mm_w ((mm_w ((h2_.2.1 8 p1) + (r36 * 512))) + 1)) < 2147483648 := mm_w_rg _
          refine mm_cVv (rest := []) C1 ev_X10_100 (mm_dec dk_X10_offerAround 30 rfl) (c_X10_offer x.2.1 hl (d - 1) (by omega) h2_ i2_ r13 (mm_w ((mm_w ((h2_.2.1 8 p1) + (r36 * 512))) + 1)) ⟨by omega, by omega⟩ (by omega)) rfl rfl (Nat.le_of_ble_eq_true rfl) ⟨by decide, by decide⟩ rfl (fun h46c hp46 => ?_) (fun _ _ q => q.elim)
          obtain ⟨i46c, g46c, y46_0⟩ := hp46
          have f46c : mm_fr [(7, 7)] [8, 9, 10] h h46c := mm_fr_tr f2_ g46c (by decide +kernel)
          have g11 : 0 ≤ (h46c.1 7 7) ∧ (h46c.1 7 7) ≤ 400 := i46c.1 7 7
          refine mm_fgt 3 ?_
          exact J49 h46c i46c f46c (by omega)
  refine mm_istore_nL (ls2 := [mR 7, mI p1, mI 0, mU]) C (mm_dec dk_X10_offerAround 1 rfl) (by decide) rfl ?_
  exact J2 (((4 - 0) : Int) + 1).toNat 0 ⟨by omega, by omega⟩ h i0 f0 (by omega) (by omega)
set_option maxRecDepth 100000 in
set_option maxHeartbeats 4000000 in
theorem c_X10_takeNearest (l : Launch) (hl : l.stackTraces = false) (d : Nat) (hd : 2 ≤ d) (h : mH) (i0 : mm_inv h) (u0 : 0 < (h.1 7 7)) (t0 : h.1 7 7 ≤ (mm_cnt h : Int)) : mm_Met l d yX10_takeNearest cX10_takeNearest 2 (some .int) [mR 7] h (mm_pi fun r h2 => (0 ≤ r ∧ r ≤ 399) ∧ mm_inv h2 ∧ mm_fr [(7, 7)] [9, 10] h h2 ∧ h2.1 7 7 ≤ (mm_cnt h2 : Int)) mm_nx 0 0 := by
  refine mm_ofW (ls := [mR 7, mU]) hl (by decide) rfl (Nat.le_of_ble_eq_true rfl) ?_
  intro x hxl C T hnm htb
  subst hxl
  have C1 := mm_OK_le (d' := d - 1 + 1) (by omega) C
  have f0 : mm_fr [(7, 7)] [9, 10] h h := mm_fr_rf
  have g1 : 0 ≤ h.1 7 7 ∧ h.1 7 7 ≤ 400 := i0.1 7 7
  refine mm_aload_n C (mm_dec dk_X10_takeNearest 0 rfl) rfl ?_
  refine mm_getr (t := 9) C fl_X10_15 (mm_dec dk_X10_takeNearest 1 rfl) rfl rfl (mm_ref i0 rfl) ?_
  refine mm_iconst C (mm_dec dk_X10_takeNearest 2 rfl) ⟨by decide, by decide⟩ ?_
  refine mm_iald C (mm_dec dk_X10_takeNearest 3 rfl) rfl (by omega) (by omega) ?_
  have g2 : 0 ≤ (h.2.1 9 0) ∧ (h.2.1 9 0) ≤ 399 := i0.2.1 9 0
  refine mm_istore_nL (ls2 := [mR 7, mI (h.2.1 9 0)]) C (mm_dec dk_X10_takeNearest 4 rfl) (by decide) rfl ?_
  refine mm_aload_n C (mm_dec dk_X10_takeNearest 5 rfl) rfl ?_
  refine mm_dup C (mm_dec dk_X10_takeNearest 6 rfl) (show (2 : Nat) ≠ 1 by decide) ?_
  refine mm_geti C fl_X10_31 (mm_dec dk_X10_takeNearest 7 rfl) rfl rfl (Or.inl rfl) ?_
  refine mm_iconst C (mm_dec dk_X10_takeNearest 8 rfl) ⟨by decide, by decide⟩ ?_
  refine mm_isub C (mm_dec dk_X10_takeNearest 9 rfl) ⟨by omega, by omega⟩ ?_
  refine mm_puti C fl_X10_31 (mm_dec dk_X10_takeNearest 10 rfl) rfl rfl rfl (Or.inl ⟨rfl, rfl⟩) ?_
  have i1 : mm_inv (mm_pf h 7 7 ((h.1 7 7) - 1)) := mm_inv_pf i0 (show 0 ≤ ((h.1 7 7) - 1) ∧ ((h.1 7 7) - 1) ≤ 400 from ⟨by omega, by omega⟩) (by decide)
  have f1 : mm_fr [(7, 7)] [9, 10] h (mm_pf h 7 7 ((h.1 7 7) - 1)) := mm_fr_pf f0 (by decide)
  obtain ⟨h1, eh1⟩ : ∃ z, z = mm_pf h 7 7 ((h.1 7 7) - 1) := ⟨_, rfl⟩
  rw [← eh1] at i1 f1 ⊢
  have qh1 : h1.1 7 7 = ((h.1 7 7) - 1) := by rw [eh1]; exact mm_pf_same _ _ _ _
  have nh1 : mm_cnt h1 = mm_cnt h := by rw [eh1]; exact mm_cnt_eq (fun _ => rfl)
  refine mm_aload_n C (mm_dec dk_X10_takeNearest 11 rfl) rfl ?_
  refine mm_geti C fl_X10_31 (mm_dec dk_X10_takeNearest 12 rfl) rfl rfl (Or.inl rfl) ?_
  have J37 : ∀ (h37_ : mH) (i37_ : mm_inv h37_) (f37_ : mm_fr [(7, 7)] [9, 10] h h37_) (w37_0 : h37_.1 7 7 ≤ (mm_cnt h37_ : Int)), mm_W x 0 0 37 [mU, mI (h.2.1 9 0)] [] h37_ := by
    intro h37_ i37_ f37_ w37_0
    have g4 : 0 ≤ h37_.1 7 7 ∧ h37_.1 7 7 ≤ 400 := i37_.1 7 7
    refine mm_iload_n C (mm_dec dk_X10_takeNearest 21 rfl) rfl ?_
    exact mm_iret C T (mm_dec dk_X10_takeNearest 22 rfl) (by decide : 0 ≤ 0) (by decide : 0 ≤ 0) ⟨_, rfl, ⟨⟨by omega, by omega⟩, i37_, f37_, by omega⟩⟩
  refine mm_if_le (tgt := 37) C (mm_dec dk_X10_takeNearest 13 rfl) (by decide) (fun c21 => ?_) (fun c21 => ?_)
  · skip
    refine mm_fgt 0 ?_
    exact J37 h1 i1 f1 (by omega)
  · skip
    refine mm_aload_n C (mm_dec dk_X10_takeNearest 14 rfl) rfl ?_
    refine mm_aload_n C (mm_dec dk_X10_takeNearest 15 rfl) rfl ?_
    refine mm_getr (t := 9) C fl_X10_15 (mm_dec dk_X10_takeNearest 16 rfl) rfl rfl (mm_ref i1 rfl) ?_
    refine mm_aload_n C (mm_dec dk_X10_takeNearest 17 rfl) rfl ?_
    refine mm_geti C fl_X10_31 (mm_dec dk_X10_takeNearest 18 rfl) rfl rfl (Or.inl rfl) ?_
    refine mm_iald C (mm_dec dk_X10_takeNearest 19 rfl) rfl (by omega) (by omega) ?_
    have g5 : 0 ≤ (h1.2.1 9 (h1.1 7 7)) ∧ (h1.2.1 9 (h1.1 7 7)) ≤ 399 := i1.2.1 9 (h1.1 7 7)
    refine mm_cVv (rest := []) C1 ev_X10_122 (mm_dec dk_X10_takeNearest 20 rfl) (c_X10_sink x.2.1 hl (d - 1) (by omega) h1 i1 (h1.2.1 9 (h1.1 7 7)) ⟨by omega, by omega⟩) rfl rfl (Nat.le_of_ble_eq_true rfl) ⟨by decide, by decide⟩ rfl (fun h34c hp34 => ?_) (fun _ _ q => q.elim)
    obtain ⟨i34c, g34c, y34_0⟩ := hp34
    have f34c : mm_fr [(7, 7)] [9, 10] h h34c := mm_fr_tr f1 g34c (by decide +kernel)
    have q34c_7 : h34c.1 7 7 = h1.1 7 7 := g34c.1 7 7 (by decide)
    refine mm_fgt 0 ?_
    exact J37 h34c i34c f34c (by omega)
set_option maxRecDepth 100000 in
set_option maxHeartbeats 4000000 in
theorem c_X11_land (l : Launch) (hl : l.stackTraces = false) (d : Nat) (hd : 2 ≤ d) (h : mH) (i0 : mm_inv h) (p1 : Int) (p2 : Int) : mm_Met l d yX11_land cX11_land 3 (some .boolean) [mR 0, mI p1, mI p2] h (mm_pi fun r h2 => (0 ≤ r ∧ r ≤ 1) ∧ mm_inv h2 ∧ mm_fr [(0, 13), (0, 14), (1, 5), (1, 6), (1, 7), (1, 8), (7, 9), (14, 7), (14, 8), (22, 8), (22, 9), (30, 6), (30, 12), (30, 13), (42, 3), (58, 10)] [2, 3, 4, 5, 6, 44] h h2) mm_nx 0 0 := by
  refine mm_ofW (ls := [mR 0, mI p1, mI p2]) hl (by decide) rfl (Nat.le_of_ble_eq_true rfl) ?_
  intro x hxl C T hnm htb
  subst hxl
  have C1 := mm_OK_le (d' := d - 1 + 1) (by omega) C
  refine mm_rng (fun hr _ => ?_)
  have ap1 : -2147483648 ≤ p1 ∧ p1 < 2147483648 := mm_ok_at hr (i := 1) rfl
  have ap2 : -2147483648 ≤ p2 ∧ p2 < 2147483648 := mm_ok_at hr (i := 2) rfl
  have f0 : mm_fr [(0, 13), (0, 14), (1, 5), (1, 6), (1, 7), (1, 8), (7, 9), (14, 7), (14, 8), (22, 8), (22, 9), (30, 6), (30, 12), (30, 13), (42, 3), (58, 10)] [2, 3, 4, 5, 6, 44] h h := mm_fr_rf
  refine mm_iload_n C (mm_dec dk_X11_land 0 rfl) rfl ?_
  refine mm_iconst C (mm_dec dk_X11_land 1 rfl) ⟨by decide, by decide⟩ ?_
  have J22 : mm_W x 0 0 22 [mU, mU, mU] [] h := by
    refine mm_iconst C (mm_dec dk_X11_land 12 rfl) ⟨by decide, by decide⟩ ?_
    exact mm_zret C T (mm_dec dk_X11_land 13 rfl) (by decide : 0 ≤ 0) (by decide : 0 ≤ 0) (by omega) ⟨_, rfl, ⟨⟨by omega, by omega⟩, i0, f0⟩⟩
  refine mm_icmp_lt (tgt := 22) C (mm_dec dk_X11_land 2 rfl) (by decide) (fun c2 => ?_) (fun c2 => ?_)
  · skip
    refine mm_fgt 0 ?_
    refine mm_fgt 1 ?_
    refine mm_fgt 2 ?_
    exact J22
  · skip
    refine mm_iload_n C (mm_dec dk_X11_land 3 rfl) rfl ?_
    refine mm_bipush C (mm_dec dk_X11_land 4 rfl) ⟨by decide, by decide⟩ ?_
    refine mm_icmp_gt (tgt := 22) C (mm_dec dk_X11_land 5 rfl) (by decide) (fun c8 => ?_) (fun c8 => ?_)
    · skip
      refine mm_fgt 0 ?_
      refine mm_fgt 1 ?_
      refine mm_fgt 2 ?_
      exact J22
    · skip
      refine mm_iload_n C (mm_dec dk_X11_land 6 rfl) rfl ?_
      refine mm_iconst C (mm_dec dk_X11_land 7 rfl) ⟨by decide, by decide⟩ ?_
      refine mm_icmp_lt (tgt := 22) C (mm_dec dk_X11_land 8 rfl) (by decide) (fun c13 => ?_) (fun c13 => ?_)
      · skip
        refine mm_fgt 0 ?_
        refine mm_fgt 1 ?_
        refine mm_fgt 2 ?_
        exact J22
      · skip
        refine mm_iload_n C (mm_dec dk_X11_land 9 rfl) rfl ?_
        refine mm_bipush C (mm_dec dk_X11_land 10 rfl) ⟨by decide, by decide⟩ ?_
        refine mm_icmp_le (tgt := 24) C (mm_dec dk_X11_land 11 rfl) (by decide) (fun c19 => ?_) (fun c19 => ?_)
        · skip
          refine mm_aload_n C (mm_dec dk_X11_land 14 rfl) rfl ?_
          refine mm_getr (t := 1) C fl_X11_12 (mm_dec dk_X11_land 15 rfl) rfl rfl (mm_ref i0 rfl) ?_
          refine mm_iload_n C (mm_dec dk_X11_land 16 rfl) rfl ?_
          refine mm_iload_n C (mm_dec dk_X11_land 17 rfl) rfl ?_
          refine mm_cVv (rest := []) C1 ev_X11_108 (mm_dec dk_X11_land 18 rfl) (c_X5_renew x.2.1 hl (d - 1) (by omega) h i0 p1 p2 ⟨by omega, by omega⟩ ⟨by omega, by omega⟩) rfl rfl (Nat.le_of_ble_eq_true rfl) ⟨by decide, by decide⟩ rfl (fun h30c hp30 => ?_) (fun _ _ q => q.elim)
          obtain ⟨i30c, g30c⟩ := hp30
          have f30c : mm_fr [(0, 13), (0, 14), (1, 5), (1, 6), (1, 7), (1, 8), (7, 9), (14, 7), (14, 8), (22, 8), (22, 9), (30, 6), (30, 12), (30, 13), (42, 3), (58, 10)] [2, 3, 4, 5, 6, 44] h h30c := mm_fr_tr f0 g30c (by decide +kernel)
          refine mm_aload_n C (mm_dec dk_X11_land 19 rfl) rfl ?_
          refine mm_getr (t := 7) C fl_X11_21 (mm_dec dk_X11_land 20 rfl) rfl rfl (mm_ref i30c rfl) ?_
          refine mm_cVv (rest := []) C1 ev_X11_112 (mm_dec dk_X11_land 21 rfl) (c_X10_forget x.2.1 hl (d - 1) (by omega) h30c i30c ) rfl rfl (Nat.le_of_ble_eq_true rfl) ⟨by decide, by decide⟩ rfl (fun h37c hp37 => ?_) (fun _ _ q => q.elim)
          obtain ⟨i37c, g37c⟩ := hp37
          have f37c : mm_fr [(0, 13), (0, 14), (1, 5), (1, 6), (1, 7), (1, 8), (7, 9), (14, 7), (14, 8), (22, 8), (22, 9), (30, 6), (30, 12), (30, 13), (42, 3), (58, 10)] [2, 3, 4, 5, 6, 44] h h37c := mm_fr_tr f30c g37c (by decide +kernel)
          refine mm_aload_n C (mm_dec dk_X11_land 22 rfl) rfl ?_
          refine mm_getr (t := 14) C fl_X11_28 (mm_dec dk_X11_land 23 rfl) rfl rfl (mm_ref i37c rfl) ?_
          refine mm_cVv (rest := []) C1 ev_X11_115 (mm_dec dk_X11_land 24 rfl) (c_X2_clear x.2.1 hl (d - 1) (by omega) h37c i37c ) rfl rfl (Nat.le_of_ble_eq_true rfl) ⟨by decide, by decide⟩ rfl (fun h44c hp44 => ?_) (fun _ _ q => q.elim)
          obtain ⟨i44c, g44c⟩ := hp44
          have f44c : mm_fr [(0, 13), (0, 14), (1, 5), (1, 6), (1, 7), (1, 8), (7, 9), (14, 7), (14, 8), (22, 8), (22, 9), (30, 6), (30, 12), (30, 13), (42, 3), (58, 10)] [2, 3, 4, 5, 6, 44] h h44c := mm_fr_tr f37c g44c (by decide +kernel)
          refine mm_aload_n C (mm_dec dk_X11_land 25 rfl) rfl ?_
          refine mm_getr (t := 22) C fl_X11_37 (mm_dec dk_X11_land 26 rfl) rfl rfl (mm_ref i44c rfl) ?_
          refine mm_cVv (rest := []) C1 ev_X11_118 (mm_dec dk_X11_land 27 rfl) (c_X9_clear x.2.1 hl (d - 1) (by omega) h44c i44c ) rfl rfl (Nat.le_of_ble_eq_true rfl) ⟨by decide, by decide⟩ rfl (fun h51c hp51 => ?_) (fun _ _ q => q.elim)
          obtain ⟨i51c, g51c⟩ := hp51
          have f51c : mm_fr [(0, 13), (0, 14), (1, 5), (1, 6), (1, 7), (1, 8), (7, 9), (14, 7), (14, 8), (22, 8), (22, 9), (30, 6), (30, 12), (30, 13), (42, 3), (58, 10)] [2, 3, 4, 5, 6, 44] h h51c := mm_fr_tr f44c g51c (by decide +kernel)
          refine mm_aload_n C (mm_dec dk_X11_land 28 rfl) rfl ?_
          refine mm_getr (t := 30) C fl_X11_44 (mm_dec dk_X11_land 29 rfl) rfl rfl (mm_ref i51c rfl) ?_
          refine mm_cVv (rest := []) C1 ev_X11_119 (mm_dec dk_X11_land 30 rfl) (c_X6_clear x.2.1 hl (d - 1) (by omega) h51c i51c ) rfl rfl (Nat.le_of_ble_eq_true rfl) ⟨by decide, by decide⟩ rfl (fun h58c hp58 => ?_) (fun _ _ q => q.elim)
          obtain ⟨i58c, g58c⟩ := hp58
          have f58c : mm_fr [(0, 13), (0, 14), (1, 5), (1, 6), (1, 7), (1, 8), (7, 9), (14, 7), (14, 8), (22, 8), (22, 9), (30, 6), (30, 12), (30, 13), (42, 3), (58, 10)] [2, 3, 4, 5, 6, 44] h h58c := mm_fr_tr f51c g58c (by decide +kernel)
          refine mm_aload_n C (mm_dec dk_X11_land 31 rfl) rfl ?_
          refine mm_getr (t := 42) C fl_X11_51 (mm_dec dk_X11_land 32 rfl) rfl rfl (mm_ref i58c rfl) ?_
          refine mm_cVv (rest := []) C1 ev_X11_120 (mm_dec dk_X11_land 33 rfl) (c_X8_clear x.2.1 hl (d - 1) (by omega) h58c i58c ) rfl rfl (Nat.le_of_ble_eq_true rfl) ⟨by decide, by decide⟩ rfl (fun h65c hp65 => ?_) (fun _ _ q => q.elim)
          obtain ⟨i65c, g65c⟩ := hp65
          have f65c : mm_fr [(0, 13), (0, 14), (1, 5), (1, 6), (1, 7), (1, 8), (7, 9), (14, 7), (14, 8), (22, 8), (22, 9), (30, 6), (30, 12), (30, 13), (42, 3), (58, 10)] [2, 3, 4, 5, 6, 44] h h65c := mm_fr_tr f58c g65c (by decide +kernel)
          refine mm_aload_n C (mm_dec dk_X11_land 34 rfl) rfl ?_
          refine mm_getr (t := 58) C fl_X11_78 (mm_dec dk_X11_land 35 rfl) rfl rfl (mm_ref i65c rfl) ?_
          refine mm_cVv (rest := []) C1 ev_X11_121 (mm_dec dk_X11_land 36 rfl) (c_X0_forget x.2.1 hl (d - 1) (by omega) h65c i65c ) rfl rfl (Nat.le_of_ble_eq_true rfl) ⟨by decide, by decide⟩ rfl (fun h72c hp72 => ?_) (fun _ _ q => q.elim)
          obtain ⟨i72c, g72c⟩ := hp72
          have f72c : mm_fr [(0, 13), (0, 14), (1, 5), (1, 6), (1, 7), (1, 8), (7, 9), (14, 7), (14, 8), (22, 8), (22, 9), (30, 6), (30, 12), (30, 13), (42, 3), (58, 10)] [2, 3, 4, 5, 6, 44] h h72c := mm_fr_tr f65c g72c (by decide +kernel)
          refine mm_aload_n C (mm_dec dk_X11_land 37 rfl) rfl ?_
          refine mm_iconst C (mm_dec dk_X11_land 38 rfl) ⟨by decide, by decide⟩ ?_
          refine mm_puti C fl_X11_102 (mm_dec dk_X11_land 39 rfl) rfl rfl rfl (Or.inl ⟨rfl, rfl⟩) ?_
          have i8 : mm_inv (mm_pf h72c 0 13 0) := mm_inv_pf i72c (show 0 ≤ 0 ∧ 0 ≤ 99999 from ⟨by omega, by omega⟩) (by decide)
          have f8 : mm_fr [(0, 13), (0, 14), (1, 5), (1, 6), (1, 7), (1, 8), (7, 9), (14, 7), (14, 8), (22, 8), (22, 9), (30, 6), (30, 12), (30, 13), (42, 3), (58, 10)] [2, 3, 4, 5, 6, 44] h (mm_pf h72c 0 13 0) := mm_fr_pf f72c (by decide)
          obtain ⟨h8, eh8⟩ : ∃ z, z = mm_pf h72c 0 13 0 := ⟨_, rfl⟩
          rw [← eh8] at i8 f8 ⊢
          have qh8 : h8.1 0 13 = 0 := by rw [eh8]; exact mm_pf_same _ _ _ _
          refine mm_aload_n C (mm_dec dk_X11_land 40 rfl) rfl ?_
          refine mm_iconst C (mm_dec dk_X11_land 41 rfl) ⟨by decide, by decide⟩ ?_
          refine mm_puti C fl_X11_105 (mm_dec dk_X11_land 42 rfl) rfl rfl rfl (Or.inl ⟨rfl, rfl⟩) ?_
          have i9 : mm_inv (mm_pf h8 0 14 (-1)) := mm_inv_pf i8 (show -2147483648 ≤ (-1) ∧ (-1) ≤ 2147483647 from ⟨by omega, by omega⟩) (by decide)
          have f9 : mm_fr [(0, 13), (0, 14), (1, 5), (1, 6), (1, 7), (1, 8), (7, 9), (14, 7), (14, 8), (22, 8), (22, 9), (30, 6), (30, 12), (30, 13), (42, 3), (58, 10)] [2, 3, 4, 5, 6, 44] h (mm_pf h8 0 14 (-1)) := mm_fr_pf f8 (by decide)
          obtain ⟨h9, eh9⟩ : ∃ z, z = mm_pf h8 0 14 (-1) := ⟨_, rfl⟩
          rw [← eh9] at i9 f9 ⊢
          have qh9 : h9.1 0 14 = (-1) := by rw [eh9]; exact mm_pf_same _ _ _ _
          have qh9_8 : h9.1 0 13 = h8.1 0 13 := by rw [eh9]; exact mm_pf_ne _ _ (by decide)
          refine mm_iconst C (mm_dec dk_X11_land 43 rfl) ⟨by decide, by decide⟩ ?_
          exact mm_zret C T (mm_dec dk_X11_land 44 rfl) (by decide : 0 ≤ 0) (by decide : 0 ≤ 0) (by omega) ⟨_, rfl, ⟨⟨by omega, by omega⟩, i9, f9⟩⟩
        · skip
          refine mm_fgt 0 ?_
          refine mm_fgt 1 ?_
          refine mm_fgt 2 ?_
          exact J22
set_option maxRecDepth 100000 in
set_option maxHeartbeats 4000000 in
theorem c_X2_fillRow_49 (l : Launch) (hl : l.stackTraces = false) (d : Nat) (hd : 0 ≤ d) (h : mH) (i0 : mm_inv h) (p1 : Int) (p2 : Int) (bp1 : 0 ≤ p1 ∧ p1 ≤ 7) (bp2 : 0 ≤ p2 ∧ p2 ≤ 80) : mm_Met l d yX2_fillRow cX2_fillRow 7 (some .int) [mR 14, mI p1, mI p2, mR 49] h (mm_pi fun r h2 => (0 ≤ r ∧ r ≤ 12) ∧ mm_inv h2 ∧ mm_fr [] [49] h h2) mm_nx 0 0 := by
  refine mm_ofW (ls := [mR 14, mI p1, mI p2, mR 49, mU, mU, mU]) hl (by decide) rfl (Nat.le_of_ble_eq_true rfl) ?_
  intro x hxl C T hnm htb
  subst hxl
  refine mm_rng (fun hr _ => ?_)
  have ap1 : -2147483648 ≤ p1 ∧ p1 < 2147483648 := mm_ok_at hr (i := 1) rfl
  have ap2 : -2147483648 ≤ p2 ∧ p2 < 2147483648 := mm_ok_at hr (i := 2) rfl
  have f0 : mm_fr [] [49] h h := mm_fr_rf
  refine mm_iload_n C (mm_dec dk_X2_fillRow 0 rfl) rfl ?_
  refine mm_istoreL (ls2 := [mR 14, mI p1, mI p2, mR 49, mI p2, mU, mU]) C (mm_dec dk_X2_fillRow 1 rfl) (by decide) rfl ?_
  refine mm_iconst C (mm_dec dk_X2_fillRow 2 rfl) ⟨by decide, by decide⟩ ?_
  have J6 : ∀ (n : Nat) (x6_4 : Int) (bx6_4 : 0 ≤ x6_4 ∧ x6_4 ≤ 80) (x6_5 : Int) (bx6_5 : 0 ≤ x6_5 ∧ x6_5 ≤ 12) (h6_ : mH) (i6_ : mm_inv h6_) (f6_ : mm_fr [] [49] h h6_), (12 - x6_5 : Int) < n → mm_W x 0 0 6 [mR 14, mI p1, mU, mR 49, mI x6_4, mI x6_5, mU] [] h6_ := by
    intro n
    induction n with
    | zero =>
      intro x6_4 bx6_4 x6_5 bx6_5 h6_ i6_ f6_ hm
      exfalso; omega
    | succ n ih6 =>
      intro x6_4 bx6_4 x6_5 bx6_5 h6_ i6_ f6_ hm6
      refine mm_iload C (mm_dec dk_X2_fillRow 4 rfl) rfl ?_
      refine mm_aload_n C (mm_dec dk_X2_fillRow 5 rfl) rfl ?_
      refine mm_getr (t := 19) C fl_X2_25 (mm_dec dk_X2_fillRow 6 rfl) rfl rfl (mm_ref i6_ rfl) ?_
      refine mm_iload_n C (mm_dec dk_X2_fillRow 7 rfl) rfl ?_
      refine mm_iald C (mm_dec dk_X2_fillRow 8 rfl) rfl (by omega) (by omega) ?_
      have g1 : 0 ≤ (h6_.2.1 19 p1) ∧ (h6_.2.1 19 p1) ≤ 12 := i6_.2.1 19 p1
      refine mm_icmp_ge (tgt := 86) C (mm_dec dk_X2_fillRow 9 rfl) (by decide) (fun c14 => ?_) (fun c14 => ?_)
      · skip
        refine mm_aload_n C (mm_dec dk_X2_fillRow 53 rfl) rfl ?_
        refine mm_getr (t := 19) C fl_X2_25 (mm_dec dk_X2_fillRow 54 rfl) rfl rfl (mm_ref i6_ rfl) ?_
        refine mm_iload_n C (mm_dec dk_X2_fillRow 55 rfl) rfl ?_
        refine mm_iald C (mm_dec dk_X2_fillRow 56 rfl) rfl (by omega) (by omega) ?_
        exact mm_iret C T (mm_dec dk_X2_fillRow 57 rfl) (by decide : 0 ≤ 0) (by decide : 0 ≤ 0) ⟨_, rfl, ⟨⟨by omega, by omega⟩, i6_, f6_⟩⟩
      · skip
        refine mm_iload_n C (mm_dec dk_X2_fillRow 10 rfl) rfl ?_
        refine mm_bipush C (mm_dec dk_X2_fillRow 11 rfl) ⟨by decide, by decide⟩ ?_
        refine mm_imul C (mm_dec dk_X2_fillRow 12 rfl) ⟨by omega, by omega⟩ ?_
        refine mm_iload C (mm_dec dk_X2_fillRow 13 rfl) rfl ?_
        refine mm_iadd C (mm_dec dk_X2_fillRow 14 rfl) ⟨by omega, by omega⟩ ?_
        refine mm_iconst C (mm_dec dk_X2_fillRow 15 rfl) ⟨by decide, by decide⟩ ?_
        refine mm_imul C (mm_dec dk_X2_fillRow 16 rfl) ⟨by omega, by omega⟩ ?_
        refine mm_istoreL (ls2 := [mR 14, mI p1, mU, mR 49, mI x6_4, mI x6_5, mI (((p1 * 12) + x6_5) * 3)]) C (mm_dec dk_X2_fillRow 17 rfl) (by decide) rfl ?_
        refine mm_aload_n C (mm_dec dk_X2_fillRow 18 rfl) rfl ?_
        refine mm_iload C (mm_dec dk_X2_fillRow 19 rfl) rfl ?_
        refine mm_aload_n C (mm_dec dk_X2_fillRow 20 rfl) rfl ?_
        refine mm_getr (t := 21) C fl_X2_31 (mm_dec dk_X2_fillRow 21 rfl) rfl rfl (mm_ref i6_ rfl) ?_
        refine mm_iload C (mm_dec dk_X2_fillRow 22 rfl) rfl ?_
        refine mm_iald C (mm_dec dk_X2_fillRow 23 rfl) rfl (by omega) (by omega) ?_
        have g2 : 0 ≤ (h6_.2.1 21 (((p1 * 12) + x6_5) * 3)) ∧ (h6_.2.1 21 (((p1 * 12) + x6_5) * 3)) ≤ 19 := i6_.2.1 21 (((p1 * 12) + x6_5) * 3)
        refine mm_iast C (mm_dec dk_X2_fillRow 24 rfl) rfl (by omega) (by omega) ?_
        have i1 : mm_inv (mm_pa h6_ 49 x6_5 (h6_.2.1 21 (((p1 * 12) + x6_5) * 3))) := mm_inv_pa i6_ (show 0 ≤ (h6_.2.1 21 (((p1 * 12) + x6_5) * 3)) ∧ (h6_.2.1 21 (((p1 * 12) + x6_5) * 3)) ≤ 19 from ⟨by omega, by omega⟩)
        have f1 : mm_fr [] [49] h (mm_pa h6_ 49 x6_5 (h6_.2.1 21 (((p1 * 12) + x6_5) * 3))) := mm_fr_pa f6_ (by decide)
        obtain ⟨h1, eh1⟩ : ∃ z, z = mm_pa h6_ 49 x6_5 (h6_.2.1 21 (((p1 * 12) + x6_5) * 3)) := ⟨_, rfl⟩
        rw [← eh1] at i1 f1 ⊢
        refine mm_aload_n C (mm_dec dk_X2_fillRow 25 rfl) rfl ?_
        refine mm_getr (t := 21) C fl_X2_31 (mm_dec dk_X2_fillRow 26 rfl) rfl rfl (mm_ref i1 rfl) ?_
        refine mm_iload C (mm_dec dk_X2_fillRow 27 rfl) rfl ?_
        refine mm_iconst C (mm_dec dk_X2_fillRow 28 rfl) ⟨by decide, by decide⟩ ?_
        refine mm_iadd C (mm_dec dk_X2_fillRow 29 rfl) ⟨by omega, by omega⟩ ?_
        refine mm_iald C (mm_dec dk_X2_fillRow 30 rfl) rfl (by omega) (by omega) ?_
        have g3 : 0 ≤ (h1.2.1 21 ((((p1 * 12) + x6_5) * 3) + 1)) ∧ (h1.2.1 21 ((((p1 * 12) + x6_5) * 3) + 1)) ≤ 19 := i1.2.1 21 ((((p1 * 12) + x6_5) * 3) + 1)
        refine mm_aload_n C (mm_dec dk_X2_fillRow 31 rfl) rfl ?_
        refine mm_getr (t := 21) C fl_X2_31 (mm_dec dk_X2_fillRow 32 rfl) rfl rfl (mm_ref i1 rfl) ?_
        refine mm_iload C (mm_dec dk_X2_fillRow 33 rfl) rfl ?_
        refine mm_iald C (mm_dec dk_X2_fillRow 34 rfl) rfl (by omega) (by omega) ?_
        have g4 : 0 ≤ (h1.2.1 21 (((p1 * 12) + x6_5) * 3)) ∧ (h1.2.1 21 (((p1 * 12) + x6_5) * 3)) ≤ 19 := i1.2.1 21 (((p1 * 12) + x6_5) * 3)
        have J80 : ∀ (x80_4 : Int) (bx80_4 : 0 ≤ x80_4 ∧ x80_4 ≤ 80) (h80_ : mH) (i80_ : mm_inv h80_) (f80_ : mm_fr [] [49] h h80_), mm_W x 0 0 80 [mR 14, mI p1, mU, mR 49, mI x80_4, mI x6_5, mU] [] h80_ := by
          intro x80_4 bx80_4 h80_ i80_ f80_
          refine mm_iincL (ls2 := [mR 14, mI p1, mU, mR 49, mI x80_4, mI (x6_5 + 1), mU]) C (mm_dec dk_X2_fillRow 51 rfl) rfl (by decide) ⟨by omega, by omega⟩ rfl ?_
          refine mm_goto (tgt := 6) C (mm_dec dk_X2_fillRow 52 rfl) (by decide) ?_
          exact ih6 x80_4 ⟨by omega, by omega⟩ (x6_5 + 1) ⟨by omega, by omega⟩ h80_ i80_ f80_ (by omega)
        refine mm_icmp_eq (tgt := 80) C (mm_dec dk_X2_fillRow 35 rfl) (by decide) (fun c55 => ?_) (fun c55 => ?_)
        · skip
          refine mm_fgt 6 ?_
          exact J80 x6_4 ⟨by omega, by omega⟩ h1 i1 f1
        · skip
          refine mm_aload_n C (mm_dec dk_X2_fillRow 36 rfl) rfl ?_
          refine mm_iload C (mm_dec dk_X2_fillRow 37 rfl) rfl ?_
          refine mm_aload_n C (mm_dec dk_X2_fillRow 38 rfl) rfl ?_
          refine mm_getr (t := 21) C fl_X2_31 (mm_dec dk_X2_fillRow 39 rfl) rfl rfl (mm_ref i1 rfl) ?_
          refine mm_iload C (mm_dec dk_X2_fillRow 40 rfl) rfl ?_
          refine mm_iload C (mm_dec dk_X2_fillRow 41 rfl) rfl ?_
          refine mm_iconst C (mm_dec dk_X2_fillRow 42 rfl) ⟨by decide, by decide⟩ ?_
          refine mm_irem C (mm_dec dk_X2_fillRow 43 rfl) (by omega) (by omega) ?_
          refine mm_iadd C (mm_dec dk_X2_fillRow 44 rfl) ⟨by omega, by omega⟩ ?_
          refine mm_iald C (mm_dec dk_X2_fillRow 45 rfl) rfl (by omega) (by omega) ?_
          have g5 : 0 ≤ (h1.2.1 21 ((((p1 * 12) + x6_5) * 3) + (x6_4 % 3))) ∧ (h1.2.1 21 ((((p1 * 12) + x6_5) * 3) + (x6_4 % 3))) ≤ 19 := i1.2.1 21 ((((p1 * 12) + x6_5) * 3) + (x6_4 % 3))
          refine mm_iast C (mm_dec dk_X2_fillRow 46 rfl) rfl (by omega) (by omega) ?_
          have i2 : mm_inv (mm_pa h1 49 x6_5 (h1.2.1 21 ((((p1 * 12) + x6_5) * 3) + (x6_4 % 3)))) := mm_inv_pa i1 (show 0 ≤ (h1.2.1 21 ((((p1 * 12) + x6_5) * 3) + (x6_4 % 3))) ∧ (h1.2.1 21 ((((p1 * 12) + x6_5) * 3) + (x6_4 % 3))) ≤ 19 from ⟨by omega, by omega⟩)
          have f2 : mm_fr [] [49] h (mm_pa h1 49 x6_5 (h1.2.1 21 ((((p1 * 12) + x6_5) * 3) + (x6_4 % 3)))) := mm_fr_pa f1 (by decide)
          obtain ⟨h2, eh2⟩ : ∃ z, z = mm_pa h1 49 x6_5 (h1.2.1 21 ((((p1 * 12) + x6_5) * 3) + (x6_4 % 3))) := ⟨_, rfl⟩
          rw [← eh2] at i2 f2 ⊢
          refine mm_iload C (mm_dec dk_X2_fillRow 47 rfl) rfl ?_
          refine mm_iconst C (mm_dec dk_X2_fillRow 48 rfl) ⟨by decide, by decide⟩ ?_
          refine mm_idiv C (mm_dec dk_X2_fillRow 49 rfl) ⟨by omega, by omega⟩ (by omega) ?_
          refine mm_istoreL (ls2 := [mR 14, mI p1, mU, mR 49, mI (x6_4 / 3), mI x6_5, mI (((p1 * 12) + x6_5) * 3)]) C (mm_dec dk_X2_fillRow 50 rfl) (by decide) rfl ?_
          refine mm_fgt 6 ?_
          exact J80 (x6_4 / 3) ⟨by omega, by omega⟩ h2 i2 f2
  refine mm_istoreL (ls2 := [mR 14, mI p1, mI p2, mR 49, mI p2, mI 0, mU]) C (mm_dec dk_X2_fillRow 3 rfl) (by decide) rfl ?_
  refine mm_fgt 2 ?_
  exact J6 (((12 - 0) : Int) + 1).toNat p2 ⟨by omega, by omega⟩ 0 ⟨by omega, by omega⟩ h i0 f0 (by omega)
set_option maxRecDepth 100000 in
set_option maxHeartbeats 4000000 in
theorem c_X2_fillRow_61 (l : Launch) (hl : l.stackTraces = false) (d : Nat) (hd : 0 ≤ d) (h : mH) (i0 : mm_inv h) (p1 : Int) (p2 : Int) (bp1 : 0 ≤ p1 ∧ p1 ≤ 7) (bp2 : 0 ≤ p2 ∧ p2 ≤ 80) : mm_Met l d yX2_fillRow cX2_fillRow 7 (some .int) [mR 14, mI p1, mI p2, mR 61] h (mm_pi fun r h2 => (0 ≤ r ∧ r ≤ 12) ∧ mm_inv h2 ∧ mm_fr [] [61] h h2 ∧ mm_rb h2 61 0 r 0 19) mm_nx 0 0 := by
  refine mm_ofW (ls := [mR 14, mI p1, mI p2, mR 61, mU, mU, mU]) hl (by decide) rfl (Nat.le_of_ble_eq_true rfl) ?_
  intro x hxl C T hnm htb
  subst hxl
  refine mm_rng (fun hr _ => ?_)
  have ap1 : -2147483648 ≤ p1 ∧ p1 < 2147483648 := mm_ok_at hr (i := 1) rfl
  have ap2 : -2147483648 ≤ p2 ∧ p2 < 2147483648 := mm_ok_at hr (i := 2) rfl
  have f0 : mm_fr [] [61] h h := mm_fr_rf
  refine mm_iload_n C (mm_dec dk_X2_fillRow 0 rfl) rfl ?_
  refine mm_istoreL (ls2 := [mR 14, mI p1, mI p2, mR 61, mI p2, mU, mU]) C (mm_dec dk_X2_fillRow 1 rfl) (by decide) rfl ?_
  refine mm_iconst C (mm_dec dk_X2_fillRow 2 rfl) ⟨by decide, by decide⟩ ?_
  have J6 : ∀ (n : Nat) (x6_4 : Int) (bx6_4 : 0 ≤ x6_4 ∧ x6_4 ≤ 80) (x6_5 : Int) (bx6_5 : 0 ≤ x6_5 ∧ x6_5 ≤ 12) (h6_ : mH) (i6_ : mm_inv h6_) (f6_ : mm_fr [] [61] h h6_) (w6_0 : mm_rb h6_ 61 0 x6_5 0 19), (12 - x6_5 : Int) < n → mm_W x 0 0 6 [mR 14, mI p1, mU, mR 61, mI x6_4, mI x6_5, mU] [] h6_ := by
    intro n
    induction n with
    | zero =>
      intro x6_4 bx6_4 x6_5 bx6_5 h6_ i6_ f6_ w6_0 hm
      exfalso; omega
    | succ n ih6 =>
      intro x6_4 bx6_4 x6_5 bx6_5 h6_ i6_ f6_ w6_0 hm6
      refine mm_iload C (mm_dec dk_X2_fillRow 4 rfl) rfl ?_
      refine mm_aload_n C (mm_dec dk_X2_fillRow 5 rfl) rfl ?_
      refine mm_getr (t := 19) C fl_X2_25 (mm_dec dk_X2_fillRow 6 rfl) rfl rfl (mm_ref i6_ rfl) ?_
      refine mm_iload_n C (mm_dec dk_X2_fillRow 7 rfl) rfl ?_
      refine mm_iald C (mm_dec dk_X2_fillRow 8 rfl) rfl (by omega) (by omega) ?_
      have g1 : 0 ≤ (h6_.2.1 19 p1) ∧ (h6_.2.1 19 p1) ≤ 12 := i6_.2.1 19 p1
      refine mm_icmp_ge (tgt := 86) C (mm_dec dk_X2_fillRow 9 rfl) (by decide) (fun c14 => ?_) (fun c14 => ?_)
      · skip
        refine mm_aload_n C (mm_dec dk_X2_fillRow 53 rfl) rfl ?_
        refine mm_getr (t := 19) C fl_X2_25 (mm_dec dk_X2_fillRow 54 rfl) rfl rfl (mm_ref i6_ rfl) ?_
        refine mm_iload_n C (mm_dec dk_X2_fillRow 55 rfl) rfl ?_
        refine mm_iald C (mm_dec dk_X2_fillRow 56 rfl) rfl (by omega) (by omega) ?_
        exact mm_iret C T (mm_dec dk_X2_fillRow 57 rfl) (by decide : 0 ≤ 0) (by decide : 0 ≤ 0) ⟨_, rfl, ⟨⟨by omega, by omega⟩, i6_, f6_, by exact mm_rb_sub w6_0 (by omega) (by omega)⟩⟩
      · skip
        refine mm_iload_n C (mm_dec dk_X2_fillRow 10 rfl) rfl ?_
        refine mm_bipush C (mm_dec dk_X2_fillRow 11 rfl) ⟨by decide, by decide⟩ ?_
        refine mm_imul C (mm_dec dk_X2_fillRow 12 rfl) ⟨by omega, by omega⟩ ?_
        refine mm_iload C (mm_dec dk_X2_fillRow 13 rfl) rfl ?_
        refine mm_iadd C (mm_dec dk_X2_fillRow 14 rfl) ⟨by omega, by omega⟩ ?_
        refine mm_iconst C (mm_dec dk_X2_fillRow 15 rfl) ⟨by decide, by decide⟩ ?_
        refine mm_imul C (mm_dec dk_X2_fillRow 16 rfl) ⟨by omega, by omega⟩ ?_
        refine mm_istoreL (ls2 := [mR 14, mI p1, mU, mR 61, mI x6_4, mI x6_5, mI (((p1 * 12) + x6_5) * 3)]) C (mm_dec dk_X2_fillRow 17 rfl) (by decide) rfl ?_
        refine mm_aload_n C (mm_dec dk_X2_fillRow 18 rfl) rfl ?_
        refine mm_iload C (mm_dec dk_X2_fillRow 19 rfl) rfl ?_
        refine mm_aload_n C (mm_dec dk_X2_fillRow 20 rfl) rfl ?_
        refine mm_getr (t := 21) C fl_X2_31 (mm_dec dk_X2_fillRow 21 rfl) rfl rfl (mm_ref i6_ rfl) ?_
        refine mm_iload C (mm_dec dk_X2_fillRow 22 rfl) rfl ?_
        refine mm_iald C (mm_dec dk_X2_fillRow 23 rfl) rfl (by omega) (by omega) ?_
        have g2 : 0 ≤ (h6_.2.1 21 (((p1 * 12) + x6_5) * 3)) ∧ (h6_.2.1 21 (((p1 * 12) + x6_5) * 3)) ≤ 19 := i6_.2.1 21 (((p1 * 12) + x6_5) * 3)
        refine mm_iast C (mm_dec dk_X2_fillRow 24 rfl) rfl (by omega) (by omega) ?_
        have i1 : mm_inv (mm_pa h6_ 61 x6_5 (h6_.2.1 21 (((p1 * 12) + x6_5) * 3))) := mm_inv_pa i6_ (show 0 ≤ (h6_.2.1 21 (((p1 * 12) + x6_5) * 3)) ∧ (h6_.2.1 21 (((p1 * 12) + x6_5) * 3)) ≤ 399 from ⟨by omega, by omega⟩)
        have f1 : mm_fr [] [61] h (mm_pa h6_ 61 x6_5 (h6_.2.1 21 (((p1 * 12) + x6_5) * 3))) := mm_fr_pa f6_ (by decide)
        obtain ⟨h1, eh1⟩ : ∃ z, z = mm_pa h6_ 61 x6_5 (h6_.2.1 21 (((p1 * 12) + x6_5) * 3)) := ⟨_, rfl⟩
        rw [← eh1] at i1 f1 ⊢
        refine mm_aload_n C (mm_dec dk_X2_fillRow 25 rfl) rfl ?_
        refine mm_getr (t := 21) C fl_X2_31 (mm_dec dk_X2_fillRow 26 rfl) rfl rfl (mm_ref i1 rfl) ?_
        refine mm_iload C (mm_dec dk_X2_fillRow 27 rfl) rfl ?_
        refine mm_iconst C (mm_dec dk_X2_fillRow 28 rfl) ⟨by decide, by decide⟩ ?_
        refine mm_iadd C (mm_dec dk_X2_fillRow 29 rfl) ⟨by omega, by omega⟩ ?_
        refine mm_iald C (mm_dec dk_X2_fillRow 30 rfl) rfl (by omega) (by omega) ?_
        have g3 : 0 ≤ (h1.2.1 21 ((((p1 * 12) + x6_5) * 3) + 1)) ∧ (h1.2.1 21 ((((p1 * 12) + x6_5) * 3) + 1)) ≤ 19 := i1.2.1 21 ((((p1 * 12) + x6_5) * 3) + 1)
        refine mm_aload_n C (mm_dec dk_X2_fillRow 31 rfl) rfl ?_
        refine mm_getr (t := 21) C fl_X2_31 (mm_dec dk_X2_fillRow 32 rfl) rfl rfl (mm_ref i1 rfl) ?_
        refine mm_iload C (mm_dec dk_X2_fillRow 33 rfl) rfl ?_
        refine mm_iald C (mm_dec dk_X2_fillRow 34 rfl) rfl (by omega) (by omega) ?_
        have g4 : 0 ≤ (h1.2.1 21 (((p1 * 12) + x6_5) * 3)) ∧ (h1.2.1 21 (((p1 * 12) + x6_5) * 3)) ≤ 19 := i1.2.1 21 (((p1 * 12) + x6_5) * 3)
        have J80 : ∀ (x80_4 : Int) (bx80_4 : 0 ≤ x80_4 ∧ x80_4 ≤ 80) (h80_ : mH) (i80_ : mm_inv h80_) (f80_ : mm_fr [] [61] h h80_) (w80_0 : mm_rb h80_ 61 0 (x6_5 + 1) 0 19), mm_W x 0 0 80 [mR 14, mI p1, mU, mR 61, mI x80_4, mI x6_5, mU] [] h80_ := by
          intro x80_4 bx80_4 h80_ i80_ f80_ w80_0
          refine mm_iincL (ls2 := [mR 14, mI p1, mU, mR 61, mI x80_4, mI (x6_5 + 1), mU]) C (mm_dec dk_X2_fillRow 51 rfl) rfl (by decide) ⟨by omega, by omega⟩ rfl ?_
          refine mm_goto (tgt := 6) C (mm_dec dk_X2_fillRow 52 rfl) (by decide) ?_
          exact ih6 x80_4 ⟨by omega, by omega⟩ (x6_5 + 1) ⟨by omega, by omega⟩ h80_ i80_ f80_ (by first | exact mm_rb_nil (by omega) | exact w80_0) (by omega)
        refine mm_icmp_eq (tgt := 80) C (mm_dec dk_X2_fillRow 35 rfl) (by decide) (fun c55 => ?_) (fun c55 => ?_)
        · skip
          refine mm_fgt 6 ?_
          exact J80 x6_4 ⟨by omega, by omega⟩ h1 i1 f1 (by first | (rw [eh2]; exact mm_rb_put (by rw [eh1]; exact mm_rb_add w6_0 ⟨by omega, by omega⟩) ⟨by omega, by omega⟩) | (rw [eh1]; exact mm_rb_add w6_0 ⟨by omega, by omega⟩))
        · skip
          refine mm_aload_n C (mm_dec dk_X2_fillRow 36 rfl) rfl ?_
          refine mm_iload C (mm_dec dk_X2_fillRow 37 rfl) rfl ?_
          refine mm_aload_n C (mm_dec dk_X2_fillRow 38 rfl) rfl ?_
          refine mm_getr (t := 21) C fl_X2_31 (mm_dec dk_X2_fillRow 39 rfl) rfl rfl (mm_ref i1 rfl) ?_
          refine mm_iload C (mm_dec dk_X2_fillRow 40 rfl) rfl ?_
          refine mm_iload C (mm_dec dk_X2_fillRow 41 rfl) rfl ?_
          refine mm_iconst C (mm_dec dk_X2_fillRow 42 rfl) ⟨by decide, by decide⟩ ?_
          refine mm_irem C (mm_dec dk_X2_fillRow 43 rfl) (by omega) (by omega) ?_
          refine mm_iadd C (mm_dec dk_X2_fillRow 44 rfl) ⟨by omega, by omega⟩ ?_
          refine mm_iald C (mm_dec dk_X2_fillRow 45 rfl) rfl (by omega) (by omega) ?_
          have g5 : 0 ≤ (h1.2.1 21 ((((p1 * 12) + x6_5) * 3) + (x6_4 % 3))) ∧ (h1.2.1 21 ((((p1 * 12) + x6_5) * 3) + (x6_4 % 3))) ≤ 19 := i1.2.1 21 ((((p1 * 12) + x6_5) * 3) + (x6_4 % 3))
          refine mm_iast C (mm_dec dk_X2_fillRow 46 rfl) rfl (by omega) (by omega) ?_
          have i2 : mm_inv (mm_pa h1 61 x6_5 (h1.2.1 21 ((((p1 * 12) + x6_5) * 3) + (x6_4 % 3)))) := mm_inv_pa i1 (show 0 ≤ (h1.2.1 21 ((((p1 * 12) + x6_5) * 3) + (x6_4 % 3))) ∧ (h1.2.1 21 ((((p1 * 12) + x6_5) * 3) + (x6_4 % 3))) ≤ 399 from ⟨by omega, by omega⟩)
          have f2 : mm_fr [] [61] h (mm_pa h1 61 x6_5 (h1.2.1 21 ((((p1 * 12) + x6_5) * 3) + (x6_4 % 3)))) := mm_fr_pa f1 (by decide)
          obtain ⟨h2, eh2⟩ : ∃ z, z = mm_pa h1 61 x6_5 (h1.2.1 21 ((((p1 * 12) + x6_5) * 3) + (x6_4 % 3))) := ⟨_, rfl⟩
          rw [← eh2] at i2 f2 ⊢
          refine mm_iload C (mm_dec dk_X2_fillRow 47 rfl) rfl ?_
          refine mm_iconst C (mm_dec dk_X2_fillRow 48 rfl) ⟨by decide, by decide⟩ ?_
          refine mm_idiv C (mm_dec dk_X2_fillRow 49 rfl) ⟨by omega, by omega⟩ (by omega) ?_
          refine mm_istoreL (ls2 := [mR 14, mI p1, mU, mR 61, mI (x6_4 / 3), mI x6_5, mI (((p1 * 12) + x6_5) * 3)]) C (mm_dec dk_X2_fillRow 50 rfl) (by decide) rfl ?_
          refine mm_fgt 6 ?_
          exact J80 (x6_4 / 3) ⟨by omega, by omega⟩ h2 i2 f2 (by first | (rw [eh2]; exact mm_rb_put (by rw [eh1]; exact mm_rb_add w6_0 ⟨by omega, by omega⟩) ⟨by omega, by omega⟩) | (rw [eh1]; exact mm_rb_add w6_0 ⟨by omega, by omega⟩))
  refine mm_istoreL (ls2 := [mR 14, mI p1, mI p2, mR 61, mI p2, mI 0, mU]) C (mm_dec dk_X2_fillRow 3 rfl) (by decide) rfl ?_
  refine mm_fgt 2 ?_
  exact J6 (((12 - 0) : Int) + 1).toNat p2 ⟨by omega, by omega⟩ 0 ⟨by omega, by omega⟩ h i0 f0 (by first | exact mm_rb_nil (by omega) | exact w80_0) (by omega)
set_option maxRecDepth 100000 in
set_option maxHeartbeats 4000000 in
theorem c_X10_measure (l : Launch) (hl : l.stackTraces = false) (d : Nat) (hd : 3 ≤ d) (h : mH) (i0 : mm_inv h) (p1 : Int) (p2 : Int) (bp1 : 0 ≤ p1 ∧ p1 ≤ 399) (bp2 : -1 ≤ p2 ∧ p2 ≤ 399) : mm_Met l d yX10_measure cX10_measure 4 none [mR 7, mI p1, mI p2] h (mm_pv fun h2 => mm_inv h2 ∧ mm_fr [(7, 7), (7, 8)] [8, 9, 10, 11] h h2) mm_nx 0 0 := by
  refine mm_ofW (ls := [mR 7, mI p1, mI p2, mU]) hl (by decide) rfl (Nat.le_of_ble_eq_true rfl) ?_
  intro x hxl C T hnm htb
  subst hxl
  have C1 := mm_OK_le (d' := d - 1 + 1) (by omega) C
  refine mm_rng (fun hr _ => ?_)
  have ap1 : -2147483648 ≤ p1 ∧ p1 < 2147483648 := mm_ok_at hr (i := 1) rfl
  have ap2 : -2147483648 ≤ p2 ∧ p2 < 2147483648 := mm_ok_at hr (i := 2) rfl
  have f0 : mm_fr [(7, 7), (7, 8)] [8, 9, 10, 11] h h := mm_fr_rf
  have g1 : 0 ≤ h.1 7 7 ∧ h.1 7 7 ≤ 400 := i0.1 7 7
  have g2 : 0 ≤ h.1 7 8 ∧ h.1 7 8 ≤ 400 := i0.1 7 8
  refine mm_aload_n C (mm_dec dk_X10_measure 0 rfl) rfl ?_
  refine mm_getr (t := 8) C fl_X10_9 (mm_dec dk_X10_measure 1 rfl) rfl rfl (mm_ref i0 rfl) ?_
  refine mm_ldc (z := 2000000000) C (mm_dec dk_X10_measure 2 rfl) kc_X10_56 (by decide) ?_
  refine mm_cSv (rest := []) C1 es_X10_94 (mm_dec dk_X10_measure 3 rfl) (c_J7_fill_53178_8 x.2.1 hl (d - 1) (by omega) h i0 2000000000) rfl (Nat.le_of_ble_eq_true rfl) ⟨by decide, by decide⟩ rfl (fun h6c hp6 => ?_) (fun _ _ q => q.elim)
  obtain ⟨i6c, g6c⟩ := hp6
  have f6c : mm_fr [(7, 7), (7, 8)] [8, 9, 10, 11] h h6c := mm_fr_tr f0 g6c (by decide +kernel)
  have q6c_4 : h6c.1 7 7 = h.1 7 7 := g6c.1 7 7 (by decide)
  have q6c_5 : h6c.1 7 8 = h.1 7 8 := g6c.1 7 8 (by decide)
  have n6c : mm_cnt h6c = mm_cnt h := mm_cnt_eq (g6c.2 10 (by decide))
  refine mm_aload_n C (mm_dec dk_X10_measure 4 rfl) rfl ?_
  refine mm_getr (t := 10) C fl_X10_18 (mm_dec dk_X10_measure 5 rfl) rfl rfl (mm_ref i6c rfl) ?_
  refine mm_iconst C (mm_dec dk_X10_measure 6 rfl) ⟨by decide, by decide⟩ ?_
  refine mm_cSv (rest := []) C1 es_X10_94 (mm_dec dk_X10_measure 7 rfl) (c_J7_fill_53178_10 x.2.1 hl (d - 1) (by omega) h6c i6c (-1) ⟨by omega, by omega⟩) rfl (Nat.le_of_ble_eq_true rfl) ⟨by decide, by decide⟩ rfl (fun h14c hp14 => ?_) (fun _ _ q => q.elim)
  obtain ⟨i14c, g14c⟩ := hp14
  have f14c : mm_fr [(7, 7), (7, 8)] [8, 9, 10, 11] h h14c := mm_fr_tr f6c g14c (by decide +kernel)
  have q14c_7 : h14c.1 7 7 = h6c.1 7 7 := g14c.1 7 7 (by decide)
  have q14c_8 : h14c.1 7 8 = h6c.1 7 8 := g14c.1 7 8 (by decide)
  refine mm_aload_n C (mm_dec dk_X10_measure 8 rfl) rfl ?_
  refine mm_iconst C (mm_dec dk_X10_measure 9 rfl) ⟨by decide, by decide⟩ ?_
  refine mm_puti C fl_X10_31 (mm_dec dk_X10_measure 10 rfl) rfl rfl rfl (Or.inl ⟨rfl, rfl⟩) ?_
  have i3 : mm_inv (mm_pf h14c 7 7 0) := mm_inv_pf i14c (show 0 ≤ 0 ∧ 0 ≤ 400 from ⟨by omega, by omega⟩) (by decide)
  have f3 : mm_fr [(7, 7), (7, 8)] [8, 9, 10, 11] h (mm_pf h14c 7 7 0) := mm_fr_pf f14c (by decide)
  obtain ⟨h3, eh3⟩ : ∃ z, z = mm_pf h14c 7 7 0 := ⟨_, rfl⟩
  rw [← eh3] at i3 f3 ⊢
  have qh3 : h3.1 7 7 = 0 := by rw [eh3]; exact mm_pf_same _ _ _ _
  have qh3_9 : h3.1 7 8 = h14c.1 7 8 := by rw [eh3]; exact mm_pf_ne _ _ (by decide)
  have nh3 : mm_cnt h3 = mm_cnt h14c := by rw [eh3]; exact mm_cnt_eq (fun _ => rfl)
  refine mm_aload_n C (mm_dec dk_X10_measure 11 rfl) rfl ?_
  refine mm_iconst C (mm_dec dk_X10_measure 12 rfl) ⟨by decide, by decide⟩ ?_
  refine mm_puti C fl_X10_35 (mm_dec dk_X10_measure 13 rfl) rfl rfl rfl (Or.inl ⟨rfl, rfl⟩) ?_
  have i4 : mm_inv (mm_pf h3 7 8 0) := mm_inv_pf i3 (show 0 ≤ 0 ∧ 0 ≤ 400 from ⟨by omega, by omega⟩) (by decide)
  have f4 : mm_fr [(7, 7), (7, 8)] [8, 9, 10, 11] h (mm_pf h3 7 8 0) := mm_fr_pf f3 (by decide)
  obtain ⟨h4, eh4⟩ : ∃ z, z = mm_pf h3 7 8 0 := ⟨_, rfl⟩
  rw [← eh4] at i4 f4 ⊢
  have qh4 : h4.1 7 8 = 0 := by rw [eh4]; exact mm_pf_same _ _ _ _
  have qh4_11 : h4.1 7 7 = h3.1 7 7 := by rw [eh4]; exact mm_pf_ne _ _ (by decide)
  have nh4 : mm_cnt h4 = mm_cnt h3 := by rw [eh4]; exact mm_cnt_eq (fun _ => rfl)
  refine mm_aload_n C (mm_dec dk_X10_measure 14 rfl) rfl ?_
  refine mm_iload_n C (mm_dec dk_X10_measure 15 rfl) rfl ?_
  refine mm_iconst C (mm_dec dk_X10_measure 16 rfl) ⟨by decide, by decide⟩ ?_
  have J33 : ∀ (n : Nat) (h33_ : mH) (i33_ : mm_inv h33_) (f33_ : mm_fr [(7, 7), (7, 8)] [8, 9, 10, 11] h h33_) (w33_0 : h33_.1 7 7 ≤ (mm_cnt h33_ : Int)), (400 - h33_.1 7 8 : Int) < n → mm_W x 0 0 33 [mR 7, mU, mI p2, mU] [] h33_ := by
    intro n
    induction n with
    | zero =>
      intro h33_ i33_ f33_ w33_0 hm
      have g13 : 0 ≤ h33_.1 7 7 ∧ h33_.1 7 7 ≤ 400 := i33_.1 7 7
      have g14 : 0 ≤ h33_.1 7 8 ∧ h33_.1 7 8 ≤ 400 := i33_.1 7 8
      exfalso; omega
    | succ n ih33 =>
      intro h33_ i33_ f33_ w33_0 hm33
      have g15 : 0 ≤ h33_.1 7 7 ∧ h33_.1 7 7 ≤ 400 := i33_.1 7 7
      have g16 : 0 ≤ h33_.1 7 8 ∧ h33_.1 7 8 ≤ 400 := i33_.1 7 8
      refine mm_aload_n C (mm_dec dk_X10_measure 18 rfl) rfl ?_
      refine mm_geti C fl_X10_35 (mm_dec dk_X10_measure 19 rfl) rfl rfl (Or.inl rfl) ?_
      refine mm_sipush C (mm_dec dk_X10_measure 20 rfl) ⟨by decide, by decide⟩ ?_
      have J102 : ∀ (h102_ : mH) (i102_ : mm_inv h102_) (f102_ : mm_fr [(7, 7), (7, 8)] [8, 9, 10, 11] h h102_), mm_W x 0 0 102 [mU, mU, mU, mU] [] h102_ := by
        intro h102_ i102_ f102_
        have g17 : 0 ≤ h102_.1 7 7 ∧ h102_.1 7 7 ≤ 400 := i102_.1 7 7
        have g18 : 0 ≤ h102_.1 7 8 ∧ h102_.1 7 8 ≤ 400 := i102_.1 7 8
        exact mm_vret C T (mm_dec dk_X10_measure 53 rfl) (by decide : 0 ≤ 0) (by decide : 0 ≤ 0) ⟨rfl, ⟨i102_, f102_⟩⟩
      refine mm_icmp_ge (tgt := 102) C (mm_dec dk_X10_measure 21 rfl) (by decide) (fun c40 => ?_) (fun c40 => ?_)
      · skip
        refine mm_fgt 0 ?_
        refine mm_fgt 2 ?_
        exact J102 h33_ i33_ f33_
      · skip
        refine mm_aload_n C (mm_dec dk_X10_measure 22 rfl) rfl ?_
        refine mm_geti C fl_X10_31 (mm_dec dk_X10_measure 23 rfl) rfl rfl (Or.inl rfl) ?_
        refine mm_if_le (tgt := 102) C (mm_dec dk_X10_measure 24 rfl) (by decide) (fun c47 => ?_) (fun c47 => ?_)
        · skip
          refine mm_fgt 0 ?_
          refine mm_fgt 2 ?_
          exact J102 h33_ i33_ f33_
        · skip
          refine mm_aload_n C (mm_dec dk_X10_measure 25 rfl) rfl ?_
          refine mm_cVi (rest := []) C1 ev_X10_103 (mm_dec dk_X10_measure 26 rfl) (c_X10_takeNearest x.2.1 hl (d - 1) (by omega) h33_ i33_ (by omega) (by omega)) rfl rfl (Nat.le_of_ble_eq_true rfl) ⟨by decide, by decide⟩ rfl (fun r51 h51c hp51 => ?_) (fun _ _ q => q.elim)
          obtain ⟨b51, i51c, g51c, y51_0⟩ := hp51
          have f51c : mm_fr [(7, 7), (7, 8)] [8, 9, 10, 11] h h51c := mm_fr_tr f33_ g51c (by decide +kernel)
          have q51c_20 : h51c.1 7 8 = h33_.1 7 8 := g51c.1 7 8 (by decide)
          have g21 : 0 ≤ (h51c.1 7 7) ∧ (h51c.1 7 7) ≤ 400 := i51c.1 7 7
          refine mm_istore_nL (ls2 := [mR 7, mU, mI p2, mI r51]) C (mm_dec dk_X10_measure 27 rfl) (by decide) rfl ?_
          refine mm_aload_n C (mm_dec dk_X10_measure 28 rfl) rfl ?_
          refine mm_getr (t := 11) C fl_X10_21 (mm_dec dk_X10_measure 29 rfl) rfl rfl (mm_ref i51c rfl) ?_
          refine mm_aload_n C (mm_dec dk_X10_measure 30 rfl) rfl ?_
          refine mm_geti C fl_X10_35 (mm_dec dk_X10_measure 31 rfl) rfl rfl (Or.inl rfl) ?_
          refine mm_iload_n C (mm_dec dk_X10_measure 32 rfl) rfl ?_
          refine mm_iast C (mm_dec dk_X10_measure 33 rfl) rfl (by omega) (by omega) ?_
          have i6 : mm_inv (mm_pa h51c 11 (h51c.1 7 8) r51) := mm_inv_pa i51c (show 0 ≤ r51 ∧ r51 ≤ 399 from ⟨by omega, by omega⟩)
          have f6 : mm_fr [(7, 7), (7, 8)] [8, 9, 10, 11] h (mm_pa h51c 11 (h51c.1 7 8) r51) := mm_fr_pa f51c (by decide)
          obtain ⟨h6, eh6⟩ : ∃ z, z = mm_pa h51c 11 (h51c.1 7 8) r51 := ⟨_, rfl⟩
          rw [← eh6] at i6 f6 ⊢
          have qh6_22 : h6.1 7 7 = h51c.1 7 7 := by rw [eh6]; rfl
          have qh6_23 : h6.1 7 8 = h51c.1 7 8 := by rw [eh6]; rfl
          have nh6 : mm_cnt h6 = mm_cnt h51c := by rw [eh6]; exact mm_cnt_eq (fun _ => mm_pa_ne _ _ (fun q => absurd q.1 (by decide)))
          refine mm_aload_n C (mm_dec dk_X10_measure 34 rfl) rfl ?_
          refine mm_dup C (mm_dec dk_X10_measure 35 rfl) (show (2 : Nat) ≠ 1 by decide) ?_
          refine mm_geti C fl_X10_35 (mm_dec dk_X10_measure 36 rfl) rfl rfl (Or.inl rfl) ?_
          refine mm_iconst C (mm_dec dk_X10_measure 37 rfl) ⟨by decide, by decide⟩ ?_
          refine mm_iadd C (mm_dec dk_X10_measure 38 rfl) ⟨by omega, by omega⟩ ?_
          refine mm_puti C fl_X10_35 (mm_dec dk_X10_measure 39 rfl) rfl rfl rfl (Or.inl ⟨rfl, rfl⟩) ?_
          have i7 : mm_inv (mm_pf h6 7 8 ((h6.1 7 8) + 1)) := mm_inv_pf i6 (show 0 ≤ ((h6.1 7 8) + 1) ∧ ((h6.1 7 8) + 1) ≤ 400 from ⟨by omega, by omega⟩) (by decide)
          have f7 : mm_fr [(7, 7), (7, 8)] [8, 9, 10, 11] h (mm_pf h6 7 8 ((h6.1 7 8) + 1)) := mm_fr_pf f6 (by decide)
          obtain ⟨h7, eh7⟩ : ∃ z, z = mm_pf h6 7 8 ((h6.1 7 8) + 1) := ⟨_, rfl⟩
          rw [← eh7] at i7 f7 ⊢
          have qh7 : h7.1 7 8 = ((h6.1 7 8) + 1) := by rw [eh7]; exact mm_pf_same _ _ _ _
          have qh7_25 : h7.1 7 7 = h6.1 7 7 := by rw [eh7]; exact mm_pf_ne _ _ (by decide)
          have nh7 : mm_cnt h7 = mm_cnt h6 := by rw [eh7]; exact mm_cnt_eq (fun _ => rfl)
          refine mm_iload_n C (mm_dec dk_X10_measure 40 rfl) rfl ?_
          refine mm_iload_n C (mm_dec dk_X10_measure 41 rfl) rfl ?_
          refine mm_icmp_ne (tgt := 83) C (mm_dec dk_X10_measure 42 rfl) (by decide) (fun c77 => ?_) (fun c77 => ?_)
          · skip
            refine mm_aload_n C (mm_dec dk_X10_measure 44 rfl) rfl ?_
            refine mm_getr (t := 1) C fl_X10_48 (mm_dec dk_X10_measure 45 rfl) rfl rfl (mm_ref i7 rfl) ?_
            refine mm_iload_n C (mm_dec dk_X10_measure 46 rfl) rfl ?_
            refine mm_cVi (rest := []) C1 ev_X10_87 (mm_dec dk_X10_measure 47 rfl) (c_X5_canEnter x.2.1 hl (d - 1) (by omega) h7 i7 r51 ⟨by omega, by omega⟩) rfl rfl (Nat.le_of_ble_eq_true rfl) ⟨by decide, by decide⟩ rfl (fun r88 h88c hp88 => ?_) (fun _ _ q => q.elim)
            obtain ⟨z88, y88⟩ := hp88
            rw [z88]
            have g28 : 0 ≤ (h7.2.1 6 (h7.2.1 2 r51)) ∧ (h7.2.1 6 (h7.2.1 2 r51)) ≤ 99 := i7.2.1 6 (h7.2.1 2 r51)
            have g29 : 0 ≤ (h7.2.1 2 r51) ∧ (h7.2.1 2 r51) ≤ 7 := i7.2.1 2 r51
            have J99 : ∀ (h99_ : mH) (i99_ : mm_inv h99_) (f99_ : mm_fr [(7, 7), (7, 8)] [8, 9, 10, 11] h h99_) (w99_0 : h99_.1 7 7 ≤ (mm_cnt h99_ : Int)) (w99_1 : h99_.1 7 8 = h33_.1 7 8 + 1), mm_W x 0 0 99 [mR 7, mU, mI p2, mU] [] h99_ := by
              intro h99_ i99_ f99_ w99_0 w99_1
              have g30 : 0 ≤ h99_.1 7 7 ∧ h99_.1 7 7 ≤ 400 := i99_.1 7 7
              have g31 : 0 ≤ h99_.1 7 8 ∧ h99_.1 7 8 ≤ 400 := i99_.1 7 8
              refine mm_goto (tgt := 33) C (mm_dec dk_X10_measure 52 rfl) (by decide) ?_
              exact ih33 h99_ i99_ f99_ (by omega) (by omega)
            refine mm_if_eq (tgt := 99) C (mm_dec dk_X10_measure 48 rfl) (by decide) (fun c91 => ?_) (fun c91 => ?_)
            · skip
              refine mm_fgt 3 ?_
              exact J99 h7 i7 f7 (by omega) (by omega)
            · skip
              refine mm_aload_n C (mm_dec dk_X10_measure 49 rfl) rfl ?_
              refine mm_iload_n C (mm_dec dk_X10_measure 50 rfl) rfl ?_
              refine mm_cVv (rest := []) C1 ev_X10_107 (mm_dec dk_X10_measure 51 rfl) (c_X10_offerAround x.2.1 hl (d - 1) (by omega) h7 i7 r51 ⟨by omega, by omega⟩ (by omega)) rfl rfl (Nat.le_of_ble_eq_true rfl) ⟨by decide, by decide⟩ rfl (fun h96c hp96 => ?_) (fun _ _ q => q.elim)
              obtain ⟨i96c, g96c, y96_0⟩ := hp96
              have f96c : mm_fr [(7, 7), (7, 8)] [8, 9, 10, 11] h h96c := mm_fr_tr f7 g96c (by decide +kernel)
              have q96c_33 : h96c.1 7 8 = h7.1 7 8 := g96c.1 7 8 (by decide)
              have g34 : 0 ≤ (h96c.1 7 7) ∧ (h96c.1 7 7) ≤ 400 := i96c.1 7 7
              refine mm_fgt 3 ?_
              exact J99 h96c i96c f96c (by omega) (by omega)
          · skip
            refine mm_goto (tgt := 102) C (mm_dec dk_X10_measure 43 rfl) (by decide) ?_
            refine mm_fgt 0 ?_
            refine mm_fgt 2 ?_
            refine mm_fgt 3 ?_
            exact J102 h7 i7 f7
  refine mm_cVv (rest := []) C1 ev_X10_100 (mm_dec dk_X10_measure 17 rfl) (c_X10_offer x.2.1 hl (d - 1) (by omega) h4 i4 p1 0 ⟨by omega, by omega⟩ (by omega)) rfl rfl (Nat.le_of_ble_eq_true rfl) ⟨by decide, by decide⟩ rfl (fun h30c hp30 => ?_) (fun _ _ q => q.elim)
  obtain ⟨i30c, g30c, y30_0⟩ := hp30
  have f30c : mm_fr [(7, 7), (7, 8)] [8, 9, 10, 11] h h30c := mm_fr_tr f4 g30c (by decide +kernel)
  have q30c_36 : h30c.1 7 8 = h4.1 7 8 := g30c.1 7 8 (by decide)
  have g37 : 0 ≤ (h30c.1 7 7) ∧ (h30c.1 7 7) ≤ 400 := i30c.1 7 7
  refine mm_fgt 1 ?_
  exact J33 (((400 - h30c.1 7 8) : Int) + 1).toNat h30c i30c f30c (by omega) (by omega)
set_option maxRecDepth 100000 in
set_option maxHeartbeats 4000000 in
theorem c_X9_fillPosts_49 (l : Launch) (hl : l.stackTraces = false) (d : Nat) (hd : 1 ≤ d) (h : mH) (i0 : mm_inv h) (p1 : Int) (bp1 : 0 ≤ p1 ∧ p1 ≤ 39) : mm_Met l d yX9_fillPosts cX9_fillPosts 3 (some .int) [mR 22, mI p1, mR 49] h (mm_pi fun r h2 => (0 ≤ r ∧ r ≤ 12) ∧ mm_inv h2 ∧ mm_fr [] [49] h h2) mm_nx 0 0 := by
  refine mm_ofW (ls := [mR 22, mI p1, mR 49]) hl (by decide) rfl (Nat.le_of_ble_eq_true rfl) ?_
  intro x hxl C T hnm htb
  subst hxl
  have C1 := mm_OK_le (d' := d - 1 + 1) (by omega) C
  refine mm_rng (fun hr _ => ?_)
  have ap1 : -2147483648 ≤ p1 ∧ p1 < 2147483648 := mm_ok_at hr (i := 1) rfl
  have f0 : mm_fr [] [49] h h := mm_fr_rf
  refine mm_aload_n C (mm_dec dk_X9_fillPosts 0 rfl) rfl ?_
  refine mm_getr (t := 14) C fl_X9_41 (mm_dec dk_X9_fillPosts 1 rfl) rfl rfl (mm_ref i0 rfl) ?_
  refine mm_aload_n C (mm_dec dk_X9_fillPosts 2 rfl) rfl ?_
  refine mm_getr (t := 23) C fl_X9_9 (mm_dec dk_X9_fillPosts 3 rfl) rfl rfl (mm_ref i0 rfl) ?_
  refine mm_iload_n C (mm_dec dk_X9_fillPosts 4 rfl) rfl ?_
  refine mm_iald C (mm_dec dk_X9_fillPosts 5 rfl) rfl (by omega) (by omega) ?_
  have g1 : 0 ≤ (h.2.1 23 p1) ∧ (h.2.1 23 p1) ≤ 7 := i0.2.1 23 p1
  refine mm_aload_n C (mm_dec dk_X9_fillPosts 6 rfl) rfl ?_
  refine mm_getr (t := 25) C fl_X9_18 (mm_dec dk_X9_fillPosts 7 rfl) rfl rfl (mm_ref i0 rfl) ?_
  refine mm_iload_n C (mm_dec dk_X9_fillPosts 8 rfl) rfl ?_
  refine mm_iald C (mm_dec dk_X9_fillPosts 9 rfl) rfl (by omega) (by omega) ?_
  have g2 : 0 ≤ (h.2.1 25 p1) ∧ (h.2.1 25 p1) ≤ 80 := i0.2.1 25 p1
  refine mm_aload_n C (mm_dec dk_X9_fillPosts 10 rfl) rfl ?_
  refine mm_cVi (rest := []) C1 ev_X9_59 (mm_dec dk_X9_fillPosts 11 rfl) (c_X2_fillRow_49 x.2.1 hl (d - 1) (by omega) h i0 (h.2.1 23 p1) (h.2.1 25 p1) ⟨by omega, by omega⟩ ⟨by omega, by omega⟩) rfl rfl (Nat.le_of_ble_eq_true rfl) ⟨by decide, by decide⟩ rfl (fun r17 h17c hp17 => ?_) (fun _ _ q => q.elim)
  obtain ⟨b17, i17c, g17c⟩ := hp17
  have f17c : mm_fr [] [49] h h17c := mm_fr_tr f0 g17c (by decide +kernel)
  exact mm_iret C T (mm_dec dk_X9_fillPosts 12 rfl) (by decide : 0 ≤ 0) (by decide : 0 ≤ 0) ⟨_, rfl, ⟨⟨by omega, by omega⟩, i17c, f17c⟩⟩
set_option maxRecDepth 100000 in
set_option maxHeartbeats 4000000 in
theorem c_X9_fillPosts_61 (l : Launch) (hl : l.stackTraces = false) (d : Nat) (hd : 1 ≤ d) (h : mH) (i0 : mm_inv h) (p1 : Int) (bp1 : 0 ≤ p1 ∧ p1 ≤ 39) : mm_Met l d yX9_fillPosts cX9_fillPosts 3 (some .int) [mR 22, mI p1, mR 61] h (mm_pi fun r h2 => (0 ≤ r ∧ r ≤ 12) ∧ mm_inv h2 ∧ mm_fr [] [61] h h2 ∧ mm_rb h2 61 0 r 0 19) mm_nx 0 0 := by
  refine mm_ofW (ls := [mR 22, mI p1, mR 61]) hl (by decide) rfl (Nat.le_of_ble_eq_true rfl) ?_
  intro x hxl C T hnm htb
  subst hxl
  have C1 := mm_OK_le (d' := d - 1 + 1) (by omega) C
  refine mm_rng (fun hr _ => ?_)
  have ap1 : -2147483648 ≤ p1 ∧ p1 < 2147483648 := mm_ok_at hr (i := 1) rfl
  have f0 : mm_fr [] [61] h h := mm_fr_rf
  refine mm_aload_n C (mm_dec dk_X9_fillPosts 0 rfl) rfl ?_
  refine mm_getr (t := 14) C fl_X9_41 (mm_dec dk_X9_fillPosts 1 rfl) rfl rfl (mm_ref i0 rfl) ?_
  refine mm_aload_n C (mm_dec dk_X9_fillPosts 2 rfl) rfl ?_
  refine mm_getr (t := 23) C fl_X9_9 (mm_dec dk_X9_fillPosts 3 rfl) rfl rfl (mm_ref i0 rfl) ?_
  refine mm_iload_n C (mm_dec dk_X9_fillPosts 4 rfl) rfl ?_
  refine mm_iald C (mm_dec dk_X9_fillPosts 5 rfl) rfl (by omega) (by omega) ?_
  have g1 : 0 ≤ (h.2.1 23 p1) ∧ (h.2.1 23 p1) ≤ 7 := i0.2.1 23 p1
  refine mm_aload_n C (mm_dec dk_X9_fillPosts 6 rfl) rfl ?_
  refine mm_getr (t := 25) C fl_X9_18 (mm_dec dk_X9_fillPosts 7 rfl) rfl rfl (mm_ref i0 rfl) ?_
  refine mm_iload_n C (mm_dec dk_X9_fillPosts 8 rfl) rfl ?_
  refine mm_iald C (mm_dec dk_X9_fillPosts 9 rfl) rfl (by omega) (by omega) ?_
  have g2 : 0 ≤ (h.2.1 25 p1) ∧ (h.2.1 25 p1) ≤ 80 := i0.2.1 25 p1
  refine mm_aload_n C (mm_dec dk_X9_fillPosts 10 rfl) rfl ?_
  refine mm_cVi (rest := []) C1 ev_X9_59 (mm_dec dk_X9_fillPosts 11 rfl) (c_X2_fillRow_61 x.2.1 hl (d - 1) (by omega) h i0 (h.2.1 23 p1) (h.2.1 25 p1) ⟨by omega, by omega⟩ ⟨by omega, by omega⟩) rfl rfl (Nat.le_of_ble_eq_true rfl) ⟨by decide, by decide⟩ rfl (fun r17 h17c hp17 => ?_) (fun _ _ q => q.elim)
  obtain ⟨b17, i17c, g17c, y17_0⟩ := hp17
  have f17c : mm_fr [] [61] h h17c := mm_fr_tr f0 g17c (by decide +kernel)
  exact mm_iret C T (mm_dec dk_X9_fillPosts 12 rfl) (by decide : 0 ≤ 0) (by decide : 0 ≤ 0) ⟨_, rfl, ⟨⟨by omega, by omega⟩, i17c, f17c, by exact y17_0⟩⟩
set_option maxRecDepth 100000 in
set_option maxHeartbeats 4000000 in
theorem c_X0_measureLegs (l : Launch) (hl : l.stackTraces = false) (d : Nat) (hd : 4 ≤ d) (h : mH) (i0 : mm_inv h) : mm_Met l d yX0_measureLegs cX0_measureLegs 2 none [mR 58] h (mm_pv fun h2 => mm_inv h2 ∧ mm_fr [(7, 7), (7, 8)] [8, 9, 10, 11, 59] h h2) mm_nx 0 0 := by
  refine mm_ofW (ls := [mR 58, mU]) hl (by decide) rfl (Nat.le_of_ble_eq_true rfl) ?_
  intro x hxl C T hnm htb
  subst hxl
  have C1 := mm_OK_le (d' := d - 1 + 1) (by omega) C
  have f0 : mm_fr [(7, 7), (7, 8)] [8, 9, 10, 11, 59] h h := mm_fr_rf
  refine mm_aload_n C (mm_dec dk_X0_measureLegs 0 rfl) rfl ?_
  refine mm_getr (t := 7) C fl_X0_42 (mm_dec dk_X0_measureLegs 1 rfl) rfl rfl (mm_ref i0 rfl) ?_
  refine mm_aload_n C (mm_dec dk_X0_measureLegs 2 rfl) rfl ?_
  refine mm_getr (t := 1) C fl_X0_38 (mm_dec dk_X0_measureLegs 3 rfl) rfl rfl (mm_ref i0 rfl) ?_
  refine mm_geti C fl_X0_63 (mm_dec dk_X0_measureLegs 4 rfl) rfl rfl (Or.inl rfl) ?_
  have g1 : 0 ≤ (h.1 1 8) ∧ (h.1 1 8) ≤ 399 := i0.1 1 8
  refine mm_iconst C (mm_dec dk_X0_measureLegs 5 rfl) ⟨by decide, by decide⟩ ?_
  refine mm_cVv (rest := []) C1 ev_X0_68 (mm_dec dk_X0_measureLegs 6 rfl) (c_X10_measure x.2.1 hl (d - 1) (by omega) h i0 (h.1 1 8) (-1) ⟨by omega, by omega⟩ ⟨by omega, by omega⟩) rfl rfl (Nat.le_of_ble_eq_true rfl) ⟨by decide, by decide⟩ rfl (fun h12c hp12 => ?_) (fun _ _ q => q.elim)
  obtain ⟨i12c, g12c⟩ := hp12
  have f12c : mm_fr [(7, 7), (7, 8)] [8, 9, 10, 11, 59] h h12c := mm_fr_tr f0 g12c (by decide +kernel)
  have q12c_3 : h12c.1 1 8 = h.1 1 8 := g12c.1 1 8 (by decide)
  refine mm_aload_n C (mm_dec dk_X0_measureLegs 7 rfl) rfl ?_
  refine mm_bipush C (mm_dec dk_X0_measureLegs 8 rfl) ⟨by decide, by decide⟩ ?_
  refine mm_cVv (rest := []) C1 ev_X0_74 (mm_dec dk_X0_measureLegs 9 rfl) (c_X0_fillLegsTo x.2.1 hl (d - 1) (by omega) h12c i12c 12 ⟨by omega, by omega⟩) rfl rfl (Nat.le_of_ble_eq_true rfl) ⟨by decide, by decide⟩ rfl (fun h18c hp18 => ?_) (fun _ _ q => q.elim)
  obtain ⟨i18c, g18c⟩ := hp18
  have f18c : mm_fr [(7, 7), (7, 8)] [8, 9, 10, 11, 59] h h18c := mm_fr_tr f12c g18c (by decide +kernel)
  have q18c_5 : h18c.1 1 8 = h12c.1 1 8 := g18c.1 1 8 (by decide)
  refine mm_iconst C (mm_dec dk_X0_measureLegs 10 rfl) ⟨by decide, by decide⟩ ?_
  have J23 : ∀ (n : Nat) (x23_1 : Int) (bx23_1 : 0 ≤ x23_1 ∧ x23_1 ≤ 12) (h23_ : mH) (i23_ : mm_inv h23_) (f23_ : mm_fr [(7, 7), (7, 8)] [8, 9, 10, 11, 59] h h23_), (12 - x23_1 : Int) < n → mm_W x 0 0 23 [mR 58, mI x23_1] [] h23_ := by
    intro n
    induction n with
    | zero =>
      intro x23_1 bx23_1 h23_ i23_ f23_ hm
      exfalso; omega
    | succ n ih23 =>
      intro x23_1 bx23_1 h23_ i23_ f23_ hm23
      refine mm_iload_n C (mm_dec dk_X0_measureLegs 12 rfl) rfl ?_
      refine mm_aload_n C (mm_dec dk_X0_measureLegs 13 rfl) rfl ?_
      refine mm_geti C fl_X0_21 (mm_dec dk_X0_measureLegs 14 rfl) rfl rfl (Or.inl rfl) ?_
      have g6 : 0 ≤ (h23_.1 58 6) ∧ (h23_.1 58 6) ≤ 12 := i23_.1 58 6
      refine mm_icmp_ge (tgt := 63) C (mm_dec dk_X0_measureLegs 15 rfl) (by decide) (fun c28 => ?_) (fun c28 => ?_)
      · skip
        exact mm_vret C T (mm_dec dk_X0_measureLegs 32 rfl) (by decide : 0 ≤ 0) (by decide : 0 ≤ 0) ⟨rfl, ⟨i23_, f23_⟩⟩
      · skip
        refine mm_aload_n C (mm_dec dk_X0_measureLegs 16 rfl) rfl ?_
        refine mm_getr (t := 7) C fl_X0_42 (mm_dec dk_X0_measureLegs 17 rfl) rfl rfl (mm_ref i23_ rfl) ?_
        refine mm_aload_n C (mm_dec dk_X0_measureLegs 18 rfl) rfl ?_
        refine mm_getr (t := 14) C fl_X0_46 (mm_dec dk_X0_measureLegs 19 rfl) rfl rfl (mm_ref i23_ rfl) ?_
        refine mm_aload_n C (mm_dec dk_X0_measureLegs 20 rfl) rfl ?_
        refine mm_getr (t := 60) C fl_X0_15 (mm_dec dk_X0_measureLegs 21 rfl) rfl rfl (mm_ref i23_ rfl) ?_
        refine mm_iload_n C (mm_dec dk_X0_measureLegs 22 rfl) rfl ?_
        refine mm_iald C (mm_dec dk_X0_measureLegs 23 rfl) rfl (by omega) (by omega) ?_
        have g7 : 0 ≤ (h23_.2.1 60 x23_1) ∧ (h23_.2.1 60 x23_1) ≤ 19 := i23_.2.1 60 x23_1
        refine mm_cVi (rest := [mR 7]) C1 ev_X0_77 (mm_dec dk_X0_measureLegs 24 rfl) (c_X2_cellOf x.2.1 hl (d - 1) (by omega) h23_ i23_ (h23_.2.1 60 x23_1) ⟨by omega, by omega⟩) rfl rfl (Nat.le_of_ble_eq_true rfl) ⟨by decide, by decide⟩ rfl (fun r45 h45c hp45 => ?_) (fun _ _ q => q.elim)
        obtain ⟨z45, y45⟩ := hp45
        rw [z45, y45]
        have g9 : 0 ≤ (h23_.2.1 15 (h23_.2.1 60 x23_1)) ∧ (h23_.2.1 15 (h23_.2.1 60 x23_1)) ≤ 399 := i23_.2.1 15 (h23_.2.1 60 x23_1)
        refine mm_iconst C (mm_dec dk_X0_measureLegs 25 rfl) ⟨by decide, by decide⟩ ?_
        refine mm_cVv (rest := []) C1 ev_X0_68 (mm_dec dk_X0_measureLegs 26 rfl) (c_X10_measure x.2.1 hl (d - 1) (by omega) h23_ i23_ (h23_.2.1 15 (h23_.2.1 60 x23_1)) (-1) ⟨by omega, by omega⟩ ⟨by omega, by omega⟩) rfl rfl (Nat.le_of_ble_eq_true rfl) ⟨by decide, by decide⟩ rfl (fun h49c hp49 => ?_) (fun _ _ q => q.elim)
        obtain ⟨i49c, g49c⟩ := hp49
        have f49c : mm_fr [(7, 7), (7, 8)] [8, 9, 10, 11, 59] h h49c := mm_fr_tr f23_ g49c (by decide +kernel)
        have q49c_11 : h49c.1 58 6 = h23_.1 58 6 := g49c.1 58 6 (by decide)
        refine mm_aload_n C (mm_dec dk_X0_measureLegs 27 rfl) rfl ?_
        refine mm_iload_n C (mm_dec dk_X0_measureLegs 28 rfl) rfl ?_
        refine mm_cVv (rest := []) C1 ev_X0_74 (mm_dec dk_X0_measureLegs 29 rfl) (c_X0_fillLegsTo x.2.1 hl (d - 1) (by omega) h49c i49c x23_1 ⟨by omega, by omega⟩) rfl rfl (Nat.le_of_ble_eq_true rfl) ⟨by decide, by decide⟩ rfl (fun h54c hp54 => ?_) (fun _ _ q => q.elim)
        obtain ⟨i54c, g54c⟩ := hp54
        have f54c : mm_fr [(7, 7), (7, 8)] [8, 9, 10, 11, 59] h h54c := mm_fr_tr f49c g54c (by decide +kernel)
        have q54c_13 : h54c.1 58 6 = h49c.1 58 6 := g54c.1 58 6 (by decide)
        refine mm_iincL (ls2 := [mR 58, mI (x23_1 + 1)]) C (mm_dec dk_X0_measureLegs 30 rfl) rfl (by decide) ⟨by omega, by omega⟩ rfl ?_
        refine mm_goto (tgt := 23) C (mm_dec dk_X0_measureLegs 31 rfl) (by decide) ?_
        exact ih23 (x23_1 + 1) ⟨by omega, by omega⟩ h54c i54c f54c (by omega)
  refine mm_istore_nL (ls2 := [mR 58, mI 0]) C (mm_dec dk_X0_measureLegs 11 rfl) (by decide) rfl ?_
  exact J23 (((12 - 0) : Int) + 1).toNat 0 ⟨by omega, by omega⟩ h18c i18c f18c (by omega)
set_option maxRecDepth 100000 in
set_option maxHeartbeats 4000000 in
theorem c_X1_fill (l : Launch) (hl : l.stackTraces = false) (d : Nat) (hd : 2 ≤ d) (h : mH) (i0 : mm_inv h) (p1 : Int) (p2 : Int) (bp1 : 0 ≤ p1 ∧ p1 ≤ 39) : mm_Met l d yX1_fill cX1_fill 3 none [mR 48, mI p1, mI p2] h (mm_pv fun h2 => mm_inv h2 ∧ mm_fr [(48, 8), (48, 9)] [49, 50, 51, 52, 53] h h2) mm_nx 0 0 := by
  refine mm_ofW (ls := [mR 48, mI p1, mI p2]) hl (by decide) rfl (Nat.le_of_ble_eq_true rfl) ?_
  intro x hxl C T hnm htb
  subst hxl
  have C1 := mm_OK_le (d' := d - 1 + 1) (by omega) C
  refine mm_rng (fun hr _ => ?_)
  have ap1 : -2147483648 ≤ p1 ∧ p1 < 2147483648 := mm_ok_at hr (i := 1) rfl
  have ap2 : -2147483648 ≤ p2 ∧ p2 < 2147483648 := mm_ok_at hr (i := 2) rfl
  have f0 : mm_fr [(48, 8), (48, 9)] [49, 50, 51, 52, 53] h h := mm_fr_rf
  refine mm_aload_n C (mm_dec dk_X1_fill 0 rfl) rfl ?_
  refine mm_aload_n C (mm_dec dk_X1_fill 1 rfl) rfl ?_
  refine mm_getr (t := 22) C fl_X1_38 (mm_dec dk_X1_fill 2 rfl) rfl rfl (mm_ref i0 rfl) ?_
  refine mm_iload_n C (mm_dec dk_X1_fill 3 rfl) rfl ?_
  refine mm_aload_n C (mm_dec dk_X1_fill 4 rfl) rfl ?_
  refine mm_getr (t := 49) C fl_X1_9 (mm_dec dk_X1_fill 5 rfl) rfl rfl (mm_ref i0 rfl) ?_
  refine mm_cVi (rest := [mR 48]) C1 ev_X1_46 (mm_dec dk_X1_fill 6 rfl) (c_X9_fillPosts_49 x.2.1 hl (d - 1) (by omega) h i0 p1 ⟨by omega, by omega⟩) rfl rfl (Nat.le_of_ble_eq_true rfl) ⟨by decide, by decide⟩ rfl (fun r10 h10c hp10 => ?_) (fun _ _ q => q.elim)
  obtain ⟨b10, i10c, g10c⟩ := hp10
  have f10c : mm_fr [(48, 8), (48, 9)] [49, 50, 51, 52, 53] h h10c := mm_fr_tr f0 g10c (by decide +kernel)
  refine mm_puti C fl_X1_27 (mm_dec dk_X1_fill 7 rfl) rfl rfl rfl (Or.inl ⟨rfl, rfl⟩) ?_
  have i2 : mm_inv (mm_pf h10c 48 8 r10) := mm_inv_pf i10c (show 0 ≤ r10 ∧ r10 ≤ 12 from ⟨by omega, by omega⟩) (by decide)
  have f2 : mm_fr [(48, 8), (48, 9)] [49, 50, 51, 52, 53] h (mm_pf h10c 48 8 r10) := mm_fr_pf f10c (by decide)
  obtain ⟨h2, eh2⟩ : ∃ z, z = mm_pf h10c 48 8 r10 := ⟨_, rfl⟩
  rw [← eh2] at i2 f2 ⊢
  have qh2 : h2.1 48 8 = r10 := by rw [eh2]; exact mm_pf_same _ _ _ _
  refine mm_aload_n C (mm_dec dk_X1_fill 8 rfl) rfl ?_
  refine mm_iload_n C (mm_dec dk_X1_fill 9 rfl) rfl ?_
  refine mm_iload_n C (mm_dec dk_X1_fill 10 rfl) rfl ?_
  refine mm_cVv (rest := []) C1 ev_X1_52 (mm_dec dk_X1_fill 11 rfl) (c_X1_collect x.2.1 hl (d - 1) (by omega) h2 i2 p1 p2 ⟨by omega, by omega⟩) rfl rfl (Nat.le_of_ble_eq_true rfl) ⟨by decide, by decide⟩ rfl (fun h19c hp19 => ?_) (fun _ _ q => q.elim)
  obtain ⟨i19c, g19c⟩ := hp19
  have f19c : mm_fr [(48, 8), (48, 9)] [49, 50, 51, 52, 53] h h19c := mm_fr_tr f2 g19c (by decide +kernel)
  have q19c_3 : h19c.1 48 8 = h2.1 48 8 := g19c.1 48 8 (by decide)
  refine mm_aload_n C (mm_dec dk_X1_fill 12 rfl) rfl ?_
  refine mm_getr (t := 52) C fl_X1_21 (mm_dec dk_X1_fill 13 rfl) rfl rfl (mm_ref i19c rfl) ?_
  refine mm_iconst C (mm_dec dk_X1_fill 14 rfl) ⟨by decide, by decide⟩ ?_
  refine mm_cSv (rest := []) C1 es_X1_56 (mm_dec dk_X1_fill 15 rfl) (c_J7_fill_53178_52 x.2.1 hl (d - 1) (by omega) h19c i19c (-1) ⟨by omega, by omega⟩) rfl (Nat.le_of_ble_eq_true rfl) ⟨by decide, by decide⟩ rfl (fun h27c hp27 => ?_) (fun _ _ q => q.elim)
  obtain ⟨i27c, g27c⟩ := hp27
  have f27c : mm_fr [(48, 8), (48, 9)] [49, 50, 51, 52, 53] h h27c := mm_fr_tr f19c g27c (by decide +kernel)
  have q27c_5 : h27c.1 48 8 = h19c.1 48 8 := g27c.1 48 8 (by decide)
  refine mm_aload_n C (mm_dec dk_X1_fill 16 rfl) rfl ?_
  refine mm_getr (t := 22) C fl_X1_38 (mm_dec dk_X1_fill 17 rfl) rfl rfl (mm_ref i27c rfl) ?_
  refine mm_iload_n C (mm_dec dk_X1_fill 18 rfl) rfl ?_
  refine mm_cVi (rest := []) C1 ev_X1_62 (mm_dec dk_X1_fill 19 rfl) (c_X9_runsFree x.2.1 hl (d - 1) (by omega) h27c i27c p1 ⟨by omega, by omega⟩) rfl rfl (Nat.le_of_ble_eq_true rfl) ⟨by decide, by decide⟩ rfl (fun r35 h35c hp35 => ?_) (fun _ _ q => q.elim)
  obtain ⟨z35, y35⟩ := hp35
  rw [z35, y35]
  have g7 : 0 ≤ (h27c.2.1 17 (h27c.2.1 23 p1)) ∧ (h27c.2.1 17 (h27c.2.1 23 p1)) ≤ 1 := i27c.2.1 17 (h27c.2.1 23 p1)
  have g8 : 0 ≤ (h27c.2.1 23 p1) ∧ (h27c.2.1 23 p1) ≤ 7 := i27c.2.1 23 p1
  have J56 : ∀ (h56_ : mH) (i56_ : mm_inv h56_) (f56_ : mm_fr [(48, 8), (48, 9)] [49, 50, 51, 52, 53] h h56_), mm_W x 0 0 56 [mU, mU, mU] [] h56_ := by
    intro h56_ i56_ f56_
    exact mm_vret C T (mm_dec dk_X1_fill 28 rfl) (by decide : 0 ≤ 0) (by decide : 0 ≤ 0) ⟨rfl, ⟨i56_, f56_⟩⟩
  refine mm_if_eq (tgt := 48) C (mm_dec dk_X1_fill 20 rfl) (by decide) (fun c38 => ?_) (fun c38 => ?_)
  · skip
    refine mm_aload_n C (mm_dec dk_X1_fill 24 rfl) rfl ?_
    refine mm_cVv (rest := []) C1 ev_X1_69 (mm_dec dk_X1_fill 25 rfl) (c_X1_measureRests x.2.1 hl (d - 1) (by omega) h27c i27c ) rfl rfl (Nat.le_of_ble_eq_true rfl) ⟨by decide, by decide⟩ rfl (fun h49c hp49 => ?_) (fun _ _ q => q.elim)
    obtain ⟨i49c, g49c⟩ := hp49
    have f49c : mm_fr [(48, 8), (48, 9)] [49, 50, 51, 52, 53] h h49c := mm_fr_tr f27c g49c (by decide +kernel)
    have q49c_10 : h49c.1 48 8 = h27c.1 48 8 := g49c.1 48 8 (by decide)
    refine mm_aload_n C (mm_dec dk_X1_fill 26 rfl) rfl ?_
    refine mm_cVv (rest := []) C1 ev_X1_72 (mm_dec dk_X1_fill 27 rfl) (c_X1_keepLongest x.2.1 hl (d - 1) (by omega) h49c i49c ) rfl rfl (Nat.le_of_ble_eq_true rfl) ⟨by decide, by decide⟩ rfl (fun h53c hp53 => ?_) (fun _ _ q => q.elim)
    obtain ⟨i53c, g53c⟩ := hp53
    have f53c : mm_fr [(48, 8), (48, 9)] [49, 50, 51, 52, 53] h h53c := mm_fr_tr f49c g53c (by decide +kernel)
    have q53c_12 : h53c.1 48 8 = h49c.1 48 8 := g53c.1 48 8 (by decide)
    refine mm_fgt 0 ?_
    refine mm_fgt 1 ?_
    refine mm_fgt 2 ?_
    exact J56 h53c i53c f53c
  · skip
    refine mm_aload_n C (mm_dec dk_X1_fill 21 rfl) rfl ?_
    refine mm_cVv (rest := []) C1 ev_X1_66 (mm_dec dk_X1_fill 22 rfl) (c_X1_keepPunched x.2.1 hl (d - 1) (by omega) h27c i27c ) rfl rfl (Nat.le_of_ble_eq_true rfl) ⟨by decide, by decide⟩ rfl (fun h42c hp42 => ?_) (fun _ _ q => q.elim)
    obtain ⟨i42c, g42c⟩ := hp42
    have f42c : mm_fr [(48, 8), (48, 9)] [49, 50, 51, 52, 53] h h42c := mm_fr_tr f27c g42c (by decide +kernel)
    have q42c_14 : h42c.1 48 8 = h27c.1 48 8 := g42c.1 48 8 (by decide)
    refine mm_goto (tgt := 56) C (mm_dec dk_X1_fill 23 rfl) (by decide) ?_
    refine mm_fgt 0 ?_
    refine mm_fgt 1 ?_
    refine mm_fgt 2 ?_
    exact J56 h42c i42c f42c
set_option maxRecDepth 100000 in
set_option maxHeartbeats 4000000 in
theorem c_X4_splitOf (l : Launch) (hl : l.stackTraces = false) (d : Nat) (hd : 3 ≤ d) (h : mH) (i0 : mm_inv h) (p1 : Int) (p2 : Int) (p3 : Int) (bp1 : 0 ≤ p1 ∧ p1 ≤ 39) (bp2 : 0 ≤ p2 ∧ p2 ≤ 11) : mm_Met l d yX4_splitOf cX4_splitOf 5 (some .int) [mR 46, mI p1, mI p2, mI p3] h (mm_pi fun r h2 => (-2147483648 ≤ r ∧ r ≤ 2147483647) ∧ mm_inv h2 ∧ mm_fr [(48, 8), (48, 9)] [49, 50, 51, 52, 53] h h2) mm_nx 0 0 := by
  refine mm_ofW (ls := [mR 46, mI p1, mI p2, mI p3, mU]) hl (by decide) rfl (Nat.le_of_ble_eq_true rfl) ?_
  intro x hxl C T hnm htb
  subst hxl
  have C1 := mm_OK_le (d' := d - 1 + 1) (by omega) C
  refine mm_rng (fun hr _ => ?_)
  have ap1 : -2147483648 ≤ p1 ∧ p1 < 2147483648 := mm_ok_at hr (i := 1) rfl
  have ap2 : -2147483648 ≤ p2 ∧ p2 < 2147483648 := mm_ok_at hr (i := 2) rfl
  have ap3 : -2147483648 ≤ p3 ∧ p3 < 2147483648 := mm_ok_at hr (i := 3) rfl
  have f0 : mm_fr [(48, 8), (48, 9)] [49, 50, 51, 52, 53] h h := mm_fr_rf
  refine mm_aload_n C (mm_dec dk_X4_splitOf 0 rfl) rfl ?_
  refine mm_getr (t := 48) C fl_X4_55 (mm_dec dk_X4_splitOf 1 rfl) rfl rfl (mm_ref i0 rfl) ?_
  refine mm_iload_n C (mm_dec dk_X4_splitOf 2 rfl) rfl ?_
  refine mm_iload_n C (mm_dec dk_X4_splitOf 3 rfl) rfl ?_
  refine mm_cVv (rest := []) C1 ev_X4_59 (mm_dec dk_X4_splitOf 4 rfl) (c_X1_fill x.2.1 hl (d - 1) (by omega) h i0 p1 p3 ⟨by omega, by omega⟩) rfl rfl (Nat.le_of_ble_eq_true rfl) ⟨by decide, by decide⟩ rfl (fun h6c hp6 => ?_) (fun _ _ q => q.elim)
  obtain ⟨i6c, g6c⟩ := hp6
  have f6c : mm_fr [(48, 8), (48, 9)] [49, 50, 51, 52, 53] h h6c := mm_fr_tr f0 g6c (by decide +kernel)
  refine mm_aload_n C (mm_dec dk_X4_splitOf 5 rfl) rfl ?_
  refine mm_iload_n C (mm_dec dk_X4_splitOf 6 rfl) rfl ?_
  refine mm_iload_n C (mm_dec dk_X4_splitOf 7 rfl) rfl ?_
  refine mm_cVi (rest := []) C1 ev_X4_63 (mm_dec dk_X4_splitOf 8 rfl) (c_X4_startOf x.2.1 hl (d - 1) (by omega) h6c i6c p1 p3 ⟨by omega, by omega⟩) rfl rfl (Nat.le_of_ble_eq_true rfl) ⟨by decide, by decide⟩ rfl (fun r12 h12c hp12 => ?_) (fun _ _ q => q.elim)
  obtain ⟨b12, z12⟩ := hp12
  rw [z12]
  refine mm_istoreL (ls2 := [mR 46, mI p1, mI p2, mI p3, mI r12]) C (mm_dec dk_X4_splitOf 9 rfl) (by decide) rfl ?_
  refine mm_iload C (mm_dec dk_X4_splitOf 10 rfl) rfl ?_
  refine mm_iconst C (mm_dec dk_X4_splitOf 11 rfl) ⟨by decide, by decide⟩ ?_
  have J34 : mm_W x 0 0 34 [mU, mU, mU, mU, mU] [] h6c := by
    refine mm_iconst C (mm_dec dk_X4_splitOf 18 rfl) ⟨by decide, by decide⟩ ?_
    exact mm_iret C T (mm_dec dk_X4_splitOf 19 rfl) (by decide : 0 ≤ 0) (by decide : 0 ≤ 0) ⟨_, rfl, ⟨⟨by omega, by omega⟩, i6c, f6c⟩⟩
  refine mm_icmp_eq (tgt := 34) C (mm_dec dk_X4_splitOf 12 rfl) (by decide) (fun c20 => ?_) (fun c20 => ?_)
  · skip
    refine mm_fgt 0 ?_
    refine mm_fgt 1 ?_
    refine mm_fgt 2 ?_
    refine mm_fgt 3 ?_
    refine mm_fgt 4 ?_
    exact J34
  · skip
    refine mm_aload_n C (mm_dec dk_X4_splitOf 13 rfl) rfl ?_
    refine mm_getr (t := 48) C fl_X4_55 (mm_dec dk_X4_splitOf 14 rfl) rfl rfl (mm_ref i6c rfl) ?_
    refine mm_iload_n C (mm_dec dk_X4_splitOf 15 rfl) rfl ?_
    refine mm_cVi (rest := []) C1 ev_X4_105 (mm_dec dk_X4_splitOf 16 rfl) (c_X1_isKept x.2.1 hl (d - 1) (by omega) h6c i6c p2 ⟨by omega, by omega⟩) rfl rfl (Nat.le_of_ble_eq_true rfl) ⟨by decide, by decide⟩ rfl (fun r28 h28c hp28 => ?_) (fun _ _ q => q.elim)
    obtain ⟨z28, y28⟩ := hp28
    rw [z28]
    have g4 : -1 ≤ (h6c.2.1 52 p2) ∧ (h6c.2.1 52 p2) ≤ 499 := i6c.2.1 52 p2
    refine mm_if_ne (tgt := 36) C (mm_dec dk_X4_splitOf 17 rfl) (by decide) (fun c31 => ?_) (fun c31 => ?_)
    · skip
      refine mm_aload_n C (mm_dec dk_X4_splitOf 20 rfl) rfl ?_
      refine mm_getr (t := 48) C fl_X4_55 (mm_dec dk_X4_splitOf 21 rfl) rfl rfl (mm_ref i6c rfl) ?_
      refine mm_iload_n C (mm_dec dk_X4_splitOf 22 rfl) rfl ?_
      refine mm_cVi (rest := []) C1 ev_X4_108 (mm_dec dk_X4_splitOf 23 rfl) (c_X1_timeOf x.2.1 hl (d - 1) (by omega) h6c i6c p2 ⟨by omega, by omega⟩) rfl rfl (Nat.le_of_ble_eq_true rfl) ⟨by decide, by decide⟩ rfl (fun r41 h41c hp41 => ?_) (fun _ _ q => q.elim)
      obtain ⟨z41, y41⟩ := hp41
      rw [z41]
      have g6 : -2147483648 ≤ (h6c.2.1 51 (h6c.2.1 52 p2)) ∧ (h6c.2.1 51 (h6c.2.1 52 p2)) ≤ 2147483647 := i6c.2.1 51 (h6c.2.1 52 p2)
      refine mm_iload C (mm_dec dk_X4_splitOf 24 rfl) rfl ?_
      refine mm_isubw C (mm_dec dk_X4_splitOf 25 rfl) ?_
      have g7 : -2147483648 ≤ (mm_w (r41 - r12)) ∧ (mm_w (r41 - r12)) < 2147483648 := mm_w_rg _
      exact mm_iret C T (mm_dec dk_X4_splitOf 26 rfl) (by decide : 0 ≤ 0) (by decide : 0 ≤ 0) ⟨_, rfl, ⟨⟨by omega, by omega⟩, i6c, f6c⟩⟩
    · skip
      refine mm_fgt 0 ?_
      refine mm_fgt 1 ?_
      refine mm_fgt 2 ?_
      refine mm_fgt 3 ?_
      refine mm_fgt 4 ?_
      exact J34
set_option maxRecDepth 100000 in
set_option maxHeartbeats 4000000 in
theorem c_X10_howMany (l : Launch) (hl : l.stackTraces = false) (d : Nat) (hd : 4 ≤ d) (h : mH) (i0 : mm_inv h) (p1 : Int) (p2 : Int) (bp1 : 0 ≤ p1 ∧ p1 ≤ 399) (bp2 : 0 ≤ p2 ∧ p2 ≤ 399) : mm_Met l d yX10_howMany cX10_howMany 4 (some .long) [mR 7, mI p1, mI p2] h (mm_pl fun r h2 => mm_inv h2 ∧ mm_fr [(7, 7), (7, 8)] [8, 9, 10, 11, 12] h h2) mm_nx 0 0 := by
  refine mm_ofW (ls := [mR 7, mI p1, mI p2, mU]) hl (by decide) rfl (Nat.le_of_ble_eq_true rfl) ?_
  intro x hxl C T hnm htb
  subst hxl
  have C1 := mm_OK_le (d' := d - 1 + 1) (by omega) C
  refine mm_rng (fun hr _ => ?_)
  have ap1 : -2147483648 ≤ p1 ∧ p1 < 2147483648 := mm_ok_at hr (i := 1) rfl
  have ap2 : -2147483648 ≤ p2 ∧ p2 < 2147483648 := mm_ok_at hr (i := 2) rfl
  have f0 : mm_fr [(7, 7), (7, 8)] [8, 9, 10, 11, 12] h h := mm_fr_rf
  refine mm_aload_n C (mm_dec dk_X10_howMany 0 rfl) rfl ?_
  refine mm_iload_n C (mm_dec dk_X10_howMany 1 rfl) rfl ?_
  refine mm_iload_n C (mm_dec dk_X10_howMany 2 rfl) rfl ?_
  refine mm_cVv (rest := []) C1 ev_X10_52 (mm_dec dk_X10_howMany 3 rfl) (c_X10_measure x.2.1 hl (d - 1) (by omega) h i0 p2 p1 ⟨by omega, by omega⟩ ⟨by omega, by omega⟩) rfl rfl (Nat.le_of_ble_eq_true rfl) ⟨by decide, by decide⟩ rfl (fun h3c hp3 => ?_) (fun _ _ q => q.elim)
  obtain ⟨i3c, g3c⟩ := hp3
  have f3c : mm_fr [(7, 7), (7, 8)] [8, 9, 10, 11, 12] h h3c := mm_fr_tr f0 g3c (by decide +kernel)
  refine mm_aload_n C (mm_dec dk_X10_howMany 4 rfl) rfl ?_
  refine mm_getr (t := 8) C fl_X10_9 (mm_dec dk_X10_howMany 5 rfl) rfl rfl (mm_ref i3c rfl) ?_
  refine mm_iload_n C (mm_dec dk_X10_howMany 6 rfl) rfl ?_
  refine mm_iald C (mm_dec dk_X10_howMany 7 rfl) rfl (by omega) (by omega) ?_
  have g2 : -2147483648 ≤ (h3c.2.1 8 p1) ∧ (h3c.2.1 8 p1) ≤ 2147483647 := i3c.2.1 8 p1
  refine mm_ldc (z := 2000000000) C (mm_dec dk_X10_howMany 8 rfl) kc_X10_56 (by decide) ?_
  refine mm_icmp_ne (tgt := 19) C (mm_dec dk_X10_howMany 9 rfl) (by decide) (fun c14 => ?_) (fun c14 => ?_)
  · skip
    refine mm_aload_n C (mm_dec dk_X10_howMany 12 rfl) rfl ?_
    refine mm_getr (t := 12) C fl_X10_24 (mm_dec dk_X10_howMany 13 rfl) rfl rfl (mm_ref i3c rfl) ?_
    refine mm_iload_n C (mm_dec dk_X10_howMany 14 rfl) rfl ?_
    refine mm_lconst (z := 1) C (mm_dec dk_X10_howMany 15 rfl) rfl ?_
    refine mm_last C (mm_dec dk_X10_howMany 16 rfl) rfl (by omega) (by omega) ?_
    have i2 : mm_inv (mm_pa h3c 12 p2 1) := mm_inv_pa i3c (show -9223372036854775808 ≤ 1 ∧ 1 ≤ 9223372036854775807 from ⟨by omega, by omega⟩)
    have f2 : mm_fr [(7, 7), (7, 8)] [8, 9, 10, 11, 12] h (mm_pa h3c 12 p2 1) := mm_fr_pa f3c (by decide)
    obtain ⟨h2, eh2⟩ : ∃ z, z = mm_pa h3c 12 p2 1 := ⟨_, rfl⟩
    rw [← eh2] at i2 f2 ⊢
    refine mm_iconst C (mm_dec dk_X10_howMany 17 rfl) ⟨by decide, by decide⟩ ?_
    have J28 : ∀ (n : Nat) (x28_3 : Int) (bx28_3 : 1 ≤ x28_3 ∧ x28_3 ≤ 400) (h28_ : mH) (i28_ : mm_inv h28_) (f28_ : mm_fr [(7, 7), (7, 8)] [8, 9, 10, 11, 12] h h28_), (400 - x28_3 : Int) < n → mm_W x 0 0 28 [mR 7, mI p1, mU, mI x28_3] [] h28_ := by
      intro n
      induction n with
      | zero =>
        intro x28_3 bx28_3 h28_ i28_ f28_ hm
        exfalso; omega
      | succ n ih28 =>
        intro x28_3 bx28_3 h28_ i28_ f28_ hm28
        refine mm_iload_n C (mm_dec dk_X10_howMany 19 rfl) rfl ?_
        refine mm_aload_n C (mm_dec dk_X10_howMany 20 rfl) rfl ?_
        refine mm_geti C fl_X10_35 (mm_dec dk_X10_howMany 21 rfl) rfl rfl (Or.inl rfl) ?_
        have g3 : 0 ≤ (h28_.1 7 8) ∧ (h28_.1 7 8) ≤ 400 := i28_.1 7 8
        refine mm_icmp_ge (tgt := 63) C (mm_dec dk_X10_howMany 22 rfl) (by decide) (fun c33 => ?_) (fun c33 => ?_)
        · skip
          refine mm_aload_n C (mm_dec dk_X10_howMany 38 rfl) rfl ?_
          refine mm_getr (t := 12) C fl_X10_24 (mm_dec dk_X10_howMany 39 rfl) rfl rfl (mm_ref i28_ rfl) ?_
          refine mm_iload_n C (mm_dec dk_X10_howMany 40 rfl) rfl ?_
          refine mm_lald C (mm_dec dk_X10_howMany 41 rfl) rfl (by omega) (by omega) ?_
          have g4 : -9223372036854775808 ≤ (h28_.2.1 12 p1) ∧ (h28_.2.1 12 p1) ≤ 9223372036854775807 := i28_.2.1 12 p1
          exact mm_lret C T (mm_dec dk_X10_howMany 42 rfl) (by decide : 0 ≤ 0) (by decide : 0 ≤ 0) ⟨_, rfl, ⟨i28_, f28_⟩⟩
        · skip
          refine mm_aload_n C (mm_dec dk_X10_howMany 23 rfl) rfl ?_
          refine mm_getr (t := 12) C fl_X10_24 (mm_dec dk_X10_howMany 24 rfl) rfl rfl (mm_ref i28_ rfl) ?_
          refine mm_aload_n C (mm_dec dk_X10_howMany 25 rfl) rfl ?_
          refine mm_getr (t := 11) C fl_X10_21 (mm_dec dk_X10_howMany 26 rfl) rfl rfl (mm_ref i28_ rfl) ?_
          refine mm_iload_n C (mm_dec dk_X10_howMany 27 rfl) rfl ?_
          refine mm_iald C (mm_dec dk_X10_howMany 28 rfl) rfl (by omega) (by omega) ?_
          have g5 : 0 ≤ (h28_.2.1 11 x28_3) ∧ (h28_.2.1 11 x28_3) ≤ 399 := i28_.2.1 11 x28_3
          refine mm_aload_n C (mm_dec dk_X10_howMany 29 rfl) rfl ?_
          refine mm_aload_n C (mm_dec dk_X10_howMany 30 rfl) rfl ?_
          refine mm_getr (t := 11) C fl_X10_21 (mm_dec dk_X10_howMany 31 rfl) rfl rfl (mm_ref i28_ rfl) ?_
          refine mm_iload_n C (mm_dec dk_X10_howMany 32 rfl) rfl ?_
          refine mm_iald C (mm_dec dk_X10_howMany 33 rfl) rfl (by omega) (by omega) ?_
          refine mm_cVl (rest := [mI (h28_.2.1 11 x28_3), mR 12]) C1 ev_X10_70 (mm_dec dk_X10_howMany 34 rfl) (c_X10_manyBy x.2.1 hl (d - 1) (by omega) h28_ i28_ (h28_.2.1 11 x28_3) ⟨by omega, by omega⟩) rfl rfl (Nat.le_of_ble_eq_true rfl) ⟨by decide, by decide⟩ rfl (fun r53 h53c hp53 => ?_) (fun _ _ q => q.elim)
          have z53 := hp53
          rw [z53]
          refine mm_rng (fun _ ho => ?_)
          have b53 : -9223372036854775808 ≤ r53 ∧ r53 < 9223372036854775808 := mm_ok_hd ho
          refine mm_last C (mm_dec dk_X10_howMany 35 rfl) rfl (by omega) (by omega) ?_
          have i3 : mm_inv (mm_pa h28_ 12 (h28_.2.1 11 x28_3) r53) := mm_inv_pa i28_ (show -9223372036854775808 ≤ r53 ∧ r53 ≤ 9223372036854775807 from ⟨by omega, by omega⟩)
          have f3 : mm_fr [(7, 7), (7, 8)] [8, 9, 10, 11, 12] h (mm_pa h28_ 12 (h28_.2.1 11 x28_3) r53) := mm_fr_pa f28_ (by decide)
          obtain ⟨h3, eh3⟩ : ∃ z, z = mm_pa h28_ 12 (h28_.2.1 11 x28_3) r53 := ⟨_, rfl⟩
          rw [← eh3] at i3 f3 ⊢
          have qh3_7 : h3.1 7 8 = h28_.1 7 8 := by rw [eh3]; rfl
          refine mm_iincL (ls2 := [mR 7, mI p1, mU, mI (x28_3 + 1)]) C (mm_dec dk_X10_howMany 36 rfl) rfl (by decide) ⟨by omega, by omega⟩ rfl ?_
          refine mm_goto (tgt := 28) C (mm_dec dk_X10_howMany 37 rfl) (by decide) ?_
          exact ih28 (x28_3 + 1) ⟨by omega, by omega⟩ h3 i3 f3 (by omega)
    refine mm_istore_nL (ls2 := [mR 7, mI p1, mI p2, mI 1]) C (mm_dec dk_X10_howMany 18 rfl) (by decide) rfl ?_
    refine mm_fgt 2 ?_
    exact J28 (((400 - 1) : Int) + 1).toNat 1 ⟨by omega, by omega⟩ h2 i2 f2 (by omega)
  · skip
    refine mm_lconst (z := 0) C (mm_dec dk_X10_howMany 10 rfl) rfl ?_
    exact mm_lret C T (mm_dec dk_X10_howMany 11 rfl) (by decide : 0 ≤ 0) (by decide : 0 ≤ 0) ⟨_, rfl, ⟨i3c, f3c⟩⟩
set_option maxRecDepth 100000 in
set_option maxHeartbeats 4000000 in
theorem c_X11_many (l : Launch) (hl : l.stackTraces = false) (d : Nat) (hd : 9 ≤ d) (h : mH) (i0 : mm_inv h) (p1 : Int) (p2 : Int) (p3 : Int) (p4 : Int) : mm_Met l d yX11_many cX11_many 7 (some .long) [mR 0, mI p1, mI p2, mI p3, mI p4] h (mm_pl fun r h2 => mm_inv h2 ∧ mm_fr [(7, 7), (7, 8)] [8, 9, 10, 11, 12] h h2) (mm_xp h) 2 12 := by
  refine mm_ofW (ls := [mR 0, mI p1, mI p2, mI p3, mI p4, mU, mU]) hl (by decide) rfl (Nat.le_of_ble_eq_true rfl) ?_
  intro x hxl C T hnm htb
  subst hxl
  have C1 := mm_OK_le (d' := d - 1 + 1) (by omega) C
  have C8 := mm_OK_le (d' := d - 8 + 8) (by omega) C
  refine mm_rng (fun hr _ => ?_)
  have ap1 : -2147483648 ≤ p1 ∧ p1 < 2147483648 := mm_ok_at hr (i := 1) rfl
  have ap2 : -2147483648 ≤ p2 ∧ p2 < 2147483648 := mm_ok_at hr (i := 2) rfl
  have ap3 : -2147483648 ≤ p3 ∧ p3 < 2147483648 := mm_ok_at hr (i := 3) rfl
  have ap4 : -2147483648 ≤ p4 ∧ p4 < 2147483648 := mm_ok_at hr (i := 4) rfl
  have f0 : mm_fr [(7, 7), (7, 8)] [8, 9, 10, 11, 12] h h := mm_fr_rf
  refine mm_aload_n C (mm_dec dk_X11_many 0 rfl) rfl ?_
  refine mm_iload_n C (mm_dec dk_X11_many 1 rfl) rfl ?_
  refine mm_iload_n C (mm_dec dk_X11_many 2 rfl) rfl ?_
  refine mm_cVi (rest := []) C1 ev_X11_122 (mm_dec dk_X11_many 3 rfl) (c_X11_needCell x.2.1 hl (d - 1) (by omega) h i0 p1 p2) rfl rfl (Nat.le_of_ble_eq_true rfl) ⟨by decide, by decide⟩ rfl (fun r3 h3c hp3 => ?_) (fun E hx q => mm_out C T htb (by decide) (by decide) (by rcases q with ⟨q1, q2⟩ | ⟨q1, q2⟩ <;> first | exact Or.inl ⟨q1, q2⟩ | exact Or.inr ⟨q1, q2⟩))
  obtain ⟨z3, k3_0, k3_1, k3_2, k3_3, k3_4, y3⟩ := hp3
  rw [z3, y3]
  have g2 : 1 ≤ (h.1 1 5) ∧ (h.1 1 5) ≤ 20 := i0.1 1 5
  have g3 : 1 ≤ (h.1 1 6) ∧ (h.1 1 6) ≤ 20 := i0.1 1 6
  refine mm_istoreL (ls2 := [mR 0, mI p1, mI p2, mI p3, mI p4, mI ((p2 * 20) + p1), mU]) C (mm_dec dk_X11_many 4 rfl) (by decide) rfl ?_
  refine mm_aload_n C (mm_dec dk_X11_many 5 rfl) rfl ?_
  refine mm_iload_n C (mm_dec dk_X11_many 6 rfl) rfl ?_
  refine mm_iload C (mm_dec dk_X11_many 7 rfl) rfl ?_
  refine mm_cVi (rest := []) C1 ev_X11_122 (mm_dec dk_X11_many 8 rfl) (c_X11_needCell x.2.1 hl (d - 1) (by omega) h i0 p3 p4) rfl rfl (Nat.le_of_ble_eq_true rfl) ⟨by decide, by decide⟩ rfl (fun r12 h12c hp12 => ?_) (fun E hx q => mm_out C T htb (by decide) (by decide) (by rcases q with ⟨q1, q2⟩ | ⟨q1, q2⟩ <;> first | exact Or.inl ⟨q1, q2⟩ | exact Or.inr ⟨q1, q2⟩))
  obtain ⟨z12, k12_0, k12_1, k12_2, k12_3, k12_4, y12⟩ := hp12
  rw [z12, y12]
  refine mm_istoreL (ls2 := [mR 0, mI p1, mI p2, mI p3, mI p4, mI ((p2 * 20) + p1), mI ((p4 * 20) + p3)]) C (mm_dec dk_X11_many 9 rfl) (by decide) rfl ?_
  refine mm_aload_n C (mm_dec dk_X11_many 10 rfl) rfl ?_
  refine mm_getr (t := 7) C fl_X11_21 (mm_dec dk_X11_many 11 rfl) rfl rfl (mm_ref i0 rfl) ?_
  refine mm_iload C (mm_dec dk_X11_many 12 rfl) rfl ?_
  refine mm_iload C (mm_dec dk_X11_many 13 rfl) rfl ?_
  refine mm_cVl (rest := []) C1 ev_X11_187 (mm_dec dk_X11_many 14 rfl) (c_X10_howMany x.2.1 hl (d - 1) (by omega) h i0 ((p2 * 20) + p1) ((p4 * 20) + p3) ⟨by omega, by omega⟩ ⟨by omega, by omega⟩) rfl rfl (Nat.le_of_ble_eq_true rfl) ⟨by decide, by decide⟩ rfl (fun r25 h25c hp25 => ?_) (fun _ _ q => q.elim)
  obtain ⟨i25c, g25c⟩ := hp25
  have f25c : mm_fr [(7, 7), (7, 8)] [8, 9, 10, 11, 12] h h25c := mm_fr_tr f0 g25c (by decide +kernel)
  have q25c_6 : h25c.1 1 5 = h.1 1 5 := g25c.1 1 5 (by decide)
  have q25c_7 : h25c.1 1 6 = h.1 1 6 := g25c.1 1 6 (by decide)
  refine mm_rng (fun _ ho => ?_)
  have b25 : -9223372036854775808 ≤ r25 ∧ r25 < 9223372036854775808 := mm_ok_hd ho
  exact mm_lret C T (mm_dec dk_X11_many 15 rfl) (by decide : 2 ≤ 2) (by decide : 12 ≤ 12) ⟨_, rfl, ⟨i25c, f25c⟩⟩
set_option maxRecDepth 100000 in
set_option maxHeartbeats 4000000 in
theorem c_X11_split (l : Launch) (hl : l.stackTraces = false) (d : Nat) (hd : 9 ≤ d) (h : mH) (i0 : mm_inv h) (p1 : Int) (p2 : Int) (p3 : Int) : mm_Met l d yX11_split cX11_split 4 (some .int) [mR 0, mI p1, mI p2, mI p3] h (mm_pi fun r h2 => (-2147483648 ≤ r ∧ r ≤ 2147483647) ∧ mm_inv h2 ∧ mm_fr [(48, 8), (48, 9)] [49, 50, 51, 52, 53] h h2) (mm_xp h) 3 18 := by
  refine mm_ofW (ls := [mR 0, mI p1, mI p2, mI p3]) hl (by decide) rfl (Nat.le_of_ble_eq_true rfl) ?_
  intro x hxl C T hnm htb
  subst hxl
  have C1 := mm_OK_le (d' := d - 1 + 1) (by omega) C
  have C8 := mm_OK_le (d' := d - 8 + 8) (by omega) C
  refine mm_rng (fun hr _ => ?_)
  have ap1 : -2147483648 ≤ p1 ∧ p1 < 2147483648 := mm_ok_at hr (i := 1) rfl
  have ap2 : -2147483648 ≤ p2 ∧ p2 < 2147483648 := mm_ok_at hr (i := 2) rfl
  have ap3 : -2147483648 ≤ p3 ∧ p3 < 2147483648 := mm_ok_at hr (i := 3) rfl
  have f0 : mm_fr [(48, 8), (48, 9)] [49, 50, 51, 52, 53] h h := mm_fr_rf
  refine mm_aload_n C (mm_dec dk_X11_split 0 rfl) rfl ?_
  refine mm_iload_n C (mm_dec dk_X11_split 1 rfl) rfl ?_
  refine mm_cVv (rest := []) C1 ev_X11_235 (mm_dec dk_X11_split 2 rfl) (c_X11_needRunner x.2.1 hl (d - 1) (by omega) h i0 p1) rfl rfl (Nat.le_of_ble_eq_true rfl) ⟨by decide, by decide⟩ rfl (fun h2c hp2 => ?_) (fun E hx q => mm_out C T htb (by decide) (by decide) (by rcases q with ⟨q1, q2⟩ | ⟨q1, q2⟩ <;> first | exact Or.inl ⟨q1, q2⟩ | exact Or.inr ⟨q1, q2⟩))
  obtain ⟨z2, k2_0, k2_1⟩ := hp2
  rw [z2]
  have g2 : 0 ≤ (h.1 22 8) ∧ (h.1 22 8) ≤ 40 := i0.1 22 8
  refine mm_aload_n C (mm_dec dk_X11_split 3 rfl) rfl ?_
  refine mm_iload_n C (mm_dec dk_X11_split 4 rfl) rfl ?_
  refine mm_iload_n C (mm_dec dk_X11_split 5 rfl) rfl ?_
  refine mm_cVv (rest := []) C1 ev_X11_244 (mm_dec dk_X11_split 6 rfl) (c_X11_needPlace x.2.1 hl (d - 1) (by omega) h i0 p1 p2 ⟨by omega, by omega⟩) rfl rfl (Nat.le_of_ble_eq_true rfl) ⟨by decide, by decide⟩ rfl (fun h8c hp8 => ?_) (fun E hx q => mm_out C T htb (by decide) (by decide) (by rcases q with ⟨q1, q2⟩ | ⟨q1, q2⟩ <;> first | exact Or.inl ⟨q1, q2⟩ | exact Or.inr ⟨q1, q2⟩))
  obtain ⟨z8, k8_0, k8_1⟩ := hp8
  rw [z8]
  have g4 : 0 ≤ (h.2.1 19 (h.2.1 23 p1)) ∧ (h.2.1 19 (h.2.1 23 p1)) ≤ 12 := i0.2.1 19 (h.2.1 23 p1)
  have g5 : 0 ≤ (h.2.1 23 p1) ∧ (h.2.1 23 p1) ≤ 7 := i0.2.1 23 p1
  refine mm_aload_n C (mm_dec dk_X11_split 7 rfl) rfl ?_
  refine mm_iload_n C (mm_dec dk_X11_split 8 rfl) rfl ?_
  refine mm_cVv (rest := []) C1 ev_X11_282 (mm_dec dk_X11_split 9 rfl) (c_X11_needSecond x.2.1 hl (d - 1) (by omega) h i0 p3) rfl rfl (Nat.le_of_ble_eq_true rfl) ⟨by decide, by decide⟩ rfl (fun h13c hp13 => ?_) (fun E hx q => mm_out C T htb (by decide) (by decide) (by rcases q with ⟨q1, q2⟩ | ⟨q1, q2⟩ <;> first | exact Or.inl ⟨q1, q2⟩ | exact Or.inr ⟨q1, q2⟩))
  obtain ⟨z13, k13_0, k13_1⟩ := hp13
  rw [z13]
  have g7 : 0 ≤ (h.1 0 13) ∧ (h.1 0 13) ≤ 99999 := i0.1 0 13
  refine mm_aload_n C (mm_dec dk_X11_split 10 rfl) rfl ?_
  refine mm_getr (t := 46) C fl_X11_60 (mm_dec dk_X11_split 11 rfl) rfl rfl (mm_ref i0 rfl) ?_
  refine mm_iload_n C (mm_dec dk_X11_split 12 rfl) rfl ?_
  refine mm_iload_n C (mm_dec dk_X11_split 13 rfl) rfl ?_
  refine mm_iload_n C (mm_dec dk_X11_split 14 rfl) rfl ?_
  refine mm_cVi (rest := []) C1 ev_X11_294 (mm_dec dk_X11_split 15 rfl) (c_X4_splitOf x.2.1 hl (d - 1) (by omega) h i0 p1 p2 p3 ⟨by omega, by omega⟩ ⟨by omega, by omega⟩) rfl rfl (Nat.le_of_ble_eq_true rfl) ⟨by decide, by decide⟩ rfl (fun r23 h23c hp23 => ?_) (fun _ _ q => q.elim)
  obtain ⟨b23, i23c, g23c⟩ := hp23
  have f23c : mm_fr [(48, 8), (48, 9)] [49, 50, 51, 52, 53] h h23c := mm_fr_tr f0 g23c (by decide +kernel)
  have q23c_9 : h23c.1 0 13 = h.1 0 13 := g23c.1 0 13 (by decide)
  have q23c_10 : h23c.1 22 8 = h.1 22 8 := g23c.1 22 8 (by decide)
  exact mm_iret C T (mm_dec dk_X11_split 16 rfl) (by decide : 3 ≤ 3) (by decide : 18 ≤ 18) ⟨_, rfl, ⟨⟨by omega, by omega⟩, i23c, f23c⟩⟩
set_option maxRecDepth 100000 in
set_option maxHeartbeats 4000000 in
theorem c_X8_apply_47 (l : Launch) (hl : l.stackTraces = false) (d : Nat) (hd : 2 ≤ d) (h : mH) (i0 : mm_inv h) : mm_Met l d yX8_apply cX8_apply 5 none [mR 42, mR 47] h (mm_pv fun h2 => mm_inv h2 ∧ mm_fr [(42, 4), (42, 5), (42, 6)] [45] h h2) mm_nx 0 0 := by
  refine mm_ofW (ls := [mR 42, mR 47, mU, mU, mU]) hl (by decide) rfl (Nat.le_of_ble_eq_true rfl) ?_
  intro x hxl C T hnm htb
  subst hxl
  have C1 := mm_OK_le (d' := d - 1 + 1) (by omega) C
  have f0 : mm_fr [(42, 4), (42, 5), (42, 6)] [45] h h := mm_fr_rf
  refine mm_aload_n C (mm_dec dk_X8_apply 0 rfl) rfl ?_
  refine mm_iconst C (mm_dec dk_X8_apply 1 rfl) ⟨by decide, by decide⟩ ?_
  refine mm_puti C fl_X8_25 (mm_dec dk_X8_apply 2 rfl) rfl rfl rfl (Or.inl ⟨rfl, rfl⟩) ?_
  have i1 : mm_inv (mm_pf h 42 4 0) := mm_inv_pf i0 (show 0 ≤ 0 ∧ 0 ≤ 64 from ⟨by omega, by omega⟩) (by decide)
  have f1 : mm_fr [(42, 4), (42, 5), (42, 6)] [45] h (mm_pf h 42 4 0) := mm_fr_pf f0 (by decide)
  obtain ⟨h1, eh1⟩ : ∃ z, z = mm_pf h 42 4 0 := ⟨_, rfl⟩
  rw [← eh1] at i1 f1 ⊢
  have qh1 : h1.1 42 4 = 0 := by rw [eh1]; exact mm_pf_same _ _ _ _
  refine mm_aload_n C (mm_dec dk_X8_apply 3 rfl) rfl ?_
  refine mm_iconst C (mm_dec dk_X8_apply 4 rfl) ⟨by decide, by decide⟩ ?_
  refine mm_puti C fl_X8_28 (mm_dec dk_X8_apply 5 rfl) rfl rfl rfl (Or.inl ⟨rfl, rfl⟩) ?_
  have i2 : mm_inv (mm_pf h1 42 5 0) := mm_inv_pf i1 (show -2147483648 ≤ 0 ∧ 0 ≤ 2147483647 from ⟨by omega, by omega⟩) (by decide)
  have f2 : mm_fr [(42, 4), (42, 5), (42, 6)] [45] h (mm_pf h1 42 5 0) := mm_fr_pf f1 (by decide)
  obtain ⟨h2, eh2⟩ : ∃ z, z = mm_pf h1 42 5 0 := ⟨_, rfl⟩
  rw [← eh2] at i2 f2 ⊢
  have qh2 : h2.1 42 5 = 0 := by rw [eh2]; exact mm_pf_same _ _ _ _
  have qh2_1 : h2.1 42 4 = h1.1 42 4 := by rw [eh2]; exact mm_pf_ne _ _ (by decide)
  refine mm_aload_n C (mm_dec dk_X8_apply 6 rfl) rfl ?_
  refine mm_iconst C (mm_dec dk_X8_apply 7 rfl) ⟨by decide, by decide⟩ ?_
  refine mm_puti C fl_X8_31 (mm_dec dk_X8_apply 8 rfl) rfl rfl rfl (Or.inr ⟨rfl, rfl, by omega⟩) ?_
  have i3 : mm_inv (mm_pf h2 42 6 0) := mm_inv_pf i2 (show 0 ≤ 0 ∧ 0 ≤ 1 from ⟨by omega, by omega⟩) (by decide)
  have f3 : mm_fr [(42, 4), (42, 5), (42, 6)] [45] h (mm_pf h2 42 6 0) := mm_fr_pf f2 (by decide)
  obtain ⟨h3, eh3⟩ : ∃ z, z = mm_pf h2 42 6 0 := ⟨_, rfl⟩
  rw [← eh3] at i3 f3 ⊢
  have qh3 : h3.1 42 6 = 0 := by rw [eh3]; exact mm_pf_same _ _ _ _
  have qh3_2 : h3.1 42 4 = h2.1 42 4 := by rw [eh3]; exact mm_pf_ne _ _ (by decide)
  have qh3_3 : h3.1 42 5 = h2.1 42 5 := by rw [eh3]; exact mm_pf_ne _ _ (by decide)
  refine mm_iconst C (mm_dec dk_X8_apply 9 rfl) ⟨by decide, by decide⟩ ?_
  have J17 : ∀ (n : Nat) (x17_2 : Int) (bx17_2 : 0 ≤ x17_2 ∧ x17_2 ≤ 500) (h17_ : mH) (i17_ : mm_inv h17_) (f17_ : mm_fr [(42, 4), (42, 5), (42, 6)] [45] h h17_), (500 - x17_2 : Int) < n → mm_W x 0 0 17 [mR 42, mR 47, mI x17_2, mU, mU] [] h17_ := by
    intro n
    induction n with
    | zero =>
      intro x17_2 bx17_2 h17_ i17_ f17_ hm
      exfalso; omega
    | succ n ih17 =>
      intro x17_2 bx17_2 h17_ i17_ f17_ hm17
      refine mm_iload_n C (mm_dec dk_X8_apply 11 rfl) rfl ?_
      refine mm_aload_n C (mm_dec dk_X8_apply 12 rfl) rfl ?_
      refine mm_geti C fl_X8_21 (mm_dec dk_X8_apply 13 rfl) rfl rfl (Or.inl rfl) ?_
      have g4 : 0 ≤ (h17_.1 42 3) ∧ (h17_.1 42 3) ≤ 500 := i17_.1 42 3
      refine mm_icmp_ge (tgt := 159) C (mm_dec dk_X8_apply 14 rfl) (by decide) (fun c22 => ?_) (fun c22 => ?_)
      · skip
        exact mm_vret C T (mm_dec dk_X8_apply 84 rfl) (by decide : 0 ≤ 0) (by decide : 0 ≤ 0) ⟨rfl, ⟨i17_, f17_⟩⟩
      · skip
        refine mm_aload_n C (mm_dec dk_X8_apply 15 rfl) rfl ?_
        refine mm_getr (t := 43) C fl_X8_11 (mm_dec dk_X8_apply 16 rfl) rfl rfl (mm_ref i17_ rfl) ?_
        refine mm_iload_n C (mm_dec dk_X8_apply 17 rfl) rfl ?_
        refine mm_iald C (mm_dec dk_X8_apply 18 rfl) rfl (by omega) (by omega) ?_
        have g5 : -2147483648 ≤ (h17_.2.1 43 x17_2) ∧ (h17_.2.1 43 x17_2) ≤ 2147483647 := i17_.2.1 43 x17_2
        refine mm_istore_nL (ls2 := [mR 42, mR 47, mI x17_2, mI (h17_.2.1 43 x17_2), mU]) C (mm_dec dk_X8_apply 19 rfl) (by decide) rfl ?_
        refine mm_iload_n C (mm_dec dk_X8_apply 20 rfl) rfl ?_
        refine mm_ldc (z := 100000) C (mm_dec dk_X8_apply 21 rfl) kc_X8_45 (by decide) ?_
        have J153 : ∀ (h153_ : mH) (i153_ : mm_inv h153_) (f153_ : mm_fr [(42, 4), (42, 5), (42, 6)] [45] h h153_), mm_W x 0 0 153 [mR 42, mR 47, mI x17_2, mU, mU] [] h153_ := by
          intro h153_ i153_ f153_
          refine mm_iincL (ls2 := [mR 42, mR 47, mI (x17_2 + 1), mU, mU]) C (mm_dec dk_X8_apply 82 rfl) rfl (by decide) ⟨by omega, by omega⟩ rfl ?_
          refine mm_goto (tgt := 17) C (mm_dec dk_X8_apply 83 rfl) (by decide) ?_
          exact ih17 (x17_2 + 1) ⟨by omega, by omega⟩ h153_ i153_ f153_ (by omega)
        refine mm_icmp_ge (tgt := 46) C (mm_dec dk_X8_apply 22 rfl) (by decide) (fun c35 => ?_) (fun c35 => ?_)
        · skip
          refine mm_iload_n C (mm_dec dk_X8_apply 27 rfl) rfl ?_
          refine mm_ldc (z := 100007) C (mm_dec dk_X8_apply 28 rfl) kc_X8_50 (by decide) ?_
          refine mm_icmp_ge (tgt := 65) C (mm_dec dk_X8_apply 29 rfl) (by decide) (fun c49 => ?_) (fun c49 => ?_)
          · skip
            refine mm_iload_n C (mm_dec dk_X8_apply 38 rfl) rfl ?_
            refine mm_ldc (z := 100010) C (mm_dec dk_X8_apply 39 rfl) kc_X8_51 (by decide) ?_
            refine mm_icmp_ge (tgt := 87) C (mm_dec dk_X8_apply 40 rfl) (by decide) (fun c68 => ?_) (fun c68 => ?_)
            · skip
              refine mm_iload_n C (mm_dec dk_X8_apply 50 rfl) rfl ?_
              refine mm_ldc (z := 100010) C (mm_dec dk_X8_apply 51 rfl) kc_X8_51 (by decide) ?_
              refine mm_icmp_ne (tgt := 115) C (mm_dec dk_X8_apply 52 rfl) (by decide) (fun c90 => ?_) (fun c90 => ?_)
              · skip
                refine mm_iload_n C (mm_dec dk_X8_apply 63 rfl) rfl ?_
                refine mm_ldc (z := 100020) C (mm_dec dk_X8_apply 64 rfl) kc_X8_60 (by decide) ?_
                refine mm_icmp_lt (tgt := 133) C (mm_dec dk_X8_apply 65 rfl) (by decide) (fun c118 => ?_) (fun c118 => ?_)
                · skip
                  refine mm_aload_n C (mm_dec dk_X8_apply 72 rfl) rfl ?_
                  refine mm_cVi (rest := []) C1 ev_X8_52 (mm_dec dk_X8_apply 73 rfl) (c_X8_pop x.2.1 hl (d - 1) (by omega) h17_ i17_ ) rfl rfl (Nat.le_of_ble_eq_true rfl) ⟨by decide, by decide⟩ rfl (fun r134 h134c hp134 => ?_) (fun _ _ q => q.elim)
                  obtain ⟨b134, i134c, g134c⟩ := hp134
                  have f134c : mm_fr [(42, 4), (42, 5), (42, 6)] [45] h h134c := mm_fr_tr f17_ g134c (by decide +kernel)
                  have q134c_7 : h134c.1 42 3 = h17_.1 42 3 := g134c.1 42 3 (by decide)
                  refine mm_istoreL (ls2 := [mR 42, mR 47, mI x17_2, mI (h17_.2.1 43 x17_2), mI r134]) C (mm_dec dk_X8_apply 74 rfl) (by decide) rfl ?_
                  refine mm_aload_n C (mm_dec dk_X8_apply 75 rfl) rfl ?_
                  refine mm_iload_n C (mm_dec dk_X8_apply 76 rfl) rfl ?_
                  refine mm_aload_n C (mm_dec dk_X8_apply 77 rfl) rfl ?_
                  refine mm_cVi (rest := [mI (h17_.2.1 43 x17_2), mR 42]) C1 ev_X8_52 (mm_dec dk_X8_apply 78 rfl) (c_X8_pop x.2.1 hl (d - 1) (by omega) h134c i134c ) rfl rfl (Nat.le_of_ble_eq_true rfl) ⟨by decide, by decide⟩ rfl (fun r142 h142c hp142 => ?_) (fun _ _ q => q.elim)
                  obtain ⟨b142, i142c, g142c⟩ := hp142
                  have f142c : mm_fr [(42, 4), (42, 5), (42, 6)] [45] h h142c := mm_fr_tr f134c g142c (by decide +kernel)
                  have q142c_9 : h142c.1 42 3 = h134c.1 42 3 := g142c.1 42 3 (by decide)
                  refine mm_iload C (mm_dec dk_X8_apply 79 rfl) rfl ?_
                  refine mm_cSi (rest := [mR 42]) C1 es_X8_65 (mm_dec dk_X8_apply 80 rfl) (c_X8_joined x.2.1 hl (d - 1) (by omega) h142c i142c (h17_.2.1 43 x17_2) r142 r134) rfl (Nat.le_of_ble_eq_true rfl) ⟨by decide, by decide⟩ rfl (fun r147 h147c hp147 => ?_) (fun _ _ q => q.elim)
                  obtain ⟨b147, z147⟩ := hp147
                  rw [z147]
                  refine mm_cVv (rest := []) C1 ev_X8_46 (mm_dec dk_X8_apply 81 rfl) (c_X8_push x.2.1 hl (d - 1) (by omega) h142c i142c r147) rfl rfl (Nat.le_of_ble_eq_true rfl) ⟨by decide, by decide⟩ rfl (fun h150c hp150 => ?_) (fun _ _ q => q.elim)
                  obtain ⟨i150c, g150c⟩ := hp150
                  have f150c : mm_fr [(42, 4), (42, 5), (42, 6)] [45] h h150c := mm_fr_tr f142c g150c (by decide +kernel)
                  have q150c_12 : h150c.1 42 3 = h142c.1 42 3 := g150c.1 42 3 (by decide)
                  refine mm_fgt 3 ?_
                  refine mm_fgt 4 ?_
                  exact J153 h150c i150c f150c
                · skip
                  refine mm_aload_n C (mm_dec dk_X8_apply 66 rfl) rfl ?_
                  refine mm_iload_n C (mm_dec dk_X8_apply 67 rfl) rfl ?_
                  refine mm_aload_n C (mm_dec dk_X8_apply 68 rfl) rfl ?_
                  refine mm_cVi (rest := [mI (h17_.2.1 43 x17_2), mR 42]) C1 ev_X8_52 (mm_dec dk_X8_apply 69 rfl) (c_X8_pop x.2.1 hl (d - 1) (by omega) h17_ i17_ ) rfl rfl (Nat.le_of_ble_eq_true rfl) ⟨by decide, by decide⟩ rfl (fun r124 h124c hp124 => ?_) (fun _ _ q => q.elim)
                  obtain ⟨b124, i124c, g124c⟩ := hp124
                  have f124c : mm_fr [(42, 4), (42, 5), (42, 6)] [45] h h124c := mm_fr_tr f17_ g124c (by decide +kernel)
                  have q124c_14 : h124c.1 42 3 = h17_.1 42 3 := g124c.1 42 3 (by decide)
                  refine mm_cVv (rest := []) C1 ev_X8_61 (mm_dec dk_X8_apply 70 rfl) (c_X8_endClause x.2.1 hl (d - 1) (by omega) h124c i124c (h17_.2.1 43 x17_2) r124) rfl rfl (Nat.le_of_ble_eq_true rfl) ⟨by decide, by decide⟩ rfl (fun h127c hp127 => ?_) (fun _ _ q => q.elim)
                  obtain ⟨i127c, g127c⟩ := hp127
                  have f127c : mm_fr [(42, 4), (42, 5), (42, 6)] [45] h h127c := mm_fr_tr f124c g127c (by decide +kernel)
                  have q127c_16 : h127c.1 42 3 = h124c.1 42 3 := g127c.1 42 3 (by decide)
                  refine mm_goto (tgt := 153) C (mm_dec dk_X8_apply 71 rfl) (by decide) ?_
                  refine mm_fgt 3 ?_
                  exact J153 h127c i127c f127c
              · skip
                refine mm_aload_n C (mm_dec dk_X8_apply 53 rfl) rfl ?_
                refine mm_aload_n C (mm_dec dk_X8_apply 54 rfl) rfl ?_
                refine mm_cVi (rest := [mR 42]) C1 ev_X8_52 (mm_dec dk_X8_apply 55 rfl) (c_X8_pop x.2.1 hl (d - 1) (by omega) h17_ i17_ ) rfl rfl (Nat.le_of_ble_eq_true rfl) ⟨by decide, by decide⟩ rfl (fun r95 h95c hp95 => ?_) (fun _ _ q => q.elim)
                obtain ⟨b95, i95c, g95c⟩ := hp95
                have f95c : mm_fr [(42, 4), (42, 5), (42, 6)] [45] h h95c := mm_fr_tr f17_ g95c (by decide +kernel)
                have q95c_18 : h95c.1 42 3 = h17_.1 42 3 := g95c.1 42 3 (by decide)
                have J106 : ∀ (s106_1 : Int) (bs106_1 : 0 ≤ s106_1 ∧ s106_1 ≤ 1), mm_W x 0 0 106 [mR 42, mR 47, mI x17_2, mU, mU] [mI s106_1, mR 42] h95c := by
                  intro s106_1 bs106_1
                  refine mm_cSi (rest := [mR 42]) C1 es_X8_56 (mm_dec dk_X8_apply 60 rfl) (c_X8_truth x.2.1 hl (d - 1) (by omega) h95c i95c s106_1 ⟨by omega, by omega⟩) rfl (Nat.le_of_ble_eq_true rfl) ⟨by decide, by decide⟩ rfl (fun r106 h106c hp106 => ?_) (fun _ _ q => q.elim)
                  obtain ⟨z106, y106⟩ := hp106
                  rw [z106]
                  refine mm_cVv (rest := []) C1 ev_X8_46 (mm_dec dk_X8_apply 61 rfl) (c_X8_push x.2.1 hl (d - 1) (by omega) h95c i95c r106) rfl rfl (Nat.le_of_ble_eq_true rfl) ⟨by decide, by decide⟩ rfl (fun h109c hp109 => ?_) (fun _ _ q => q.elim)
                  obtain ⟨i109c, g109c⟩ := hp109
                  have f109c : mm_fr [(42, 4), (42, 5), (42, 6)] [45] h h109c := mm_fr_tr f95c g109c (by decide +kernel)
                  have q109c_21 : h109c.1 42 3 = h95c.1 42 3 := g109c.1 42 3 (by decide)
                  refine mm_goto (tgt := 153) C (mm_dec dk_X8_apply 62 rfl) (by decide) ?_
                  exact J153 h109c i109c f109c
                refine mm_if_ne (tgt := 105) C (mm_dec dk_X8_apply 56 rfl) (by decide) (fun c98 => ?_) (fun c98 => ?_)
                · skip
                  refine mm_iconst C (mm_dec dk_X8_apply 59 rfl) ⟨by decide, by decide⟩ ?_
                  refine mm_fgt 3 ?_
                  exact J106 0 ⟨by omega, by omega⟩
                · skip
                  refine mm_iconst C (mm_dec dk_X8_apply 57 rfl) ⟨by decide, by decide⟩ ?_
                  refine mm_goto (tgt := 106) C (mm_dec dk_X8_apply 58 rfl) (by decide) ?_
                  refine mm_fgt 3 ?_
                  exact J106 1 ⟨by omega, by omega⟩
            · skip
              refine mm_aload_n C (mm_dec dk_X8_apply 41 rfl) rfl ?_
              refine mm_aload_n C (mm_dec dk_X8_apply 42 rfl) rfl ?_
              refine mm_getr (t := 44) C fl_X8_15 (mm_dec dk_X8_apply 43 rfl) rfl rfl (mm_ref i17_ rfl) ?_
              refine mm_iload_n C (mm_dec dk_X8_apply 44 rfl) rfl ?_
              refine mm_ldc (z := 100007) C (mm_dec dk_X8_apply 45 rfl) kc_X8_50 (by decide) ?_
              refine mm_isub C (mm_dec dk_X8_apply 46 rfl) ⟨by omega, by omega⟩ ?_
              refine mm_iald C (mm_dec dk_X8_apply 47 rfl) rfl (by omega) (by omega) ?_
              have g22 : -2147483648 ≤ (h17_.2.1 44 ((h17_.2.1 43 x17_2) - 100007)) ∧ (h17_.2.1 44 ((h17_.2.1 43 x17_2) - 100007)) ≤ 2147483647 := i17_.2.1 44 ((h17_.2.1 43 x17_2) - 100007)
              refine mm_cVv (rest := []) C1 ev_X8_46 (mm_dec dk_X8_apply 48 rfl) (c_X8_push x.2.1 hl (d - 1) (by omega) h17_ i17_ (h17_.2.1 44 ((h17_.2.1 43 x17_2) - 100007))) rfl rfl (Nat.le_of_ble_eq_true rfl) ⟨by decide, by decide⟩ rfl (fun h81c hp81 => ?_) (fun _ _ q => q.elim)
              obtain ⟨i81c, g81c⟩ := hp81
              have f81c : mm_fr [(42, 4), (42, 5), (42, 6)] [45] h h81c := mm_fr_tr f17_ g81c (by decide +kernel)
              have q81c_24 : h81c.1 42 3 = h17_.1 42 3 := g81c.1 42 3 (by decide)
              refine mm_goto (tgt := 153) C (mm_dec dk_X8_apply 49 rfl) (by decide) ?_
              refine mm_fgt 3 ?_
              exact J153 h81c i81c f81c
          · skip
            refine mm_aload_n C (mm_dec dk_X8_apply 30 rfl) rfl ?_
            refine mm_aload_n C (mm_dec dk_X8_apply 31 rfl) rfl ?_
            refine mm_iload_n C (mm_dec dk_X8_apply 32 rfl) rfl ?_
            refine mm_ldc (z := 100000) C (mm_dec dk_X8_apply 33 rfl) kc_X8_45 (by decide) ?_
            refine mm_isub C (mm_dec dk_X8_apply 34 rfl) ⟨by omega, by omega⟩ ?_
            refine mm_iald C (mm_dec dk_X8_apply 35 rfl) rfl (by omega) (by omega) ?_
            have g25 : -2147483648 ≤ (h17_.2.1 47 ((h17_.2.1 43 x17_2) - 100000)) ∧ (h17_.2.1 47 ((h17_.2.1 43 x17_2) - 100000)) ≤ 2147483647 := i17_.2.1 47 ((h17_.2.1 43 x17_2) - 100000)
            refine mm_cVv (rest := []) C1 ev_X8_46 (mm_dec dk_X8_apply 36 rfl) (c_X8_push x.2.1 hl (d - 1) (by omega) h17_ i17_ (h17_.2.1 47 ((h17_.2.1 43 x17_2) - 100000))) rfl rfl (Nat.le_of_ble_eq_true rfl) ⟨by decide, by decide⟩ rfl (fun h59c hp59 => ?_) (fun _ _ q => q.elim)
            obtain ⟨i59c, g59c⟩ := hp59
            have f59c : mm_fr [(42, 4), (42, 5), (42, 6)] [45] h h59c := mm_fr_tr f17_ g59c (by decide +kernel)
            have q59c_27 : h59c.1 42 3 = h17_.1 42 3 := g59c.1 42 3 (by decide)
            refine mm_goto (tgt := 153) C (mm_dec dk_X8_apply 37 rfl) (by decide) ?_
            refine mm_fgt 3 ?_
            exact J153 h59c i59c f59c
        · skip
          refine mm_aload_n C (mm_dec dk_X8_apply 23 rfl) rfl ?_
          refine mm_iload_n C (mm_dec dk_X8_apply 24 rfl) rfl ?_
          refine mm_cVv (rest := []) C1 ev_X8_46 (mm_dec dk_X8_apply 25 rfl) (c_X8_push x.2.1 hl (d - 1) (by omega) h17_ i17_ (h17_.2.1 43 x17_2)) rfl rfl (Nat.le_of_ble_eq_true rfl) ⟨by decide, by decide⟩ rfl (fun h40c hp40 => ?_) (fun _ _ q => q.elim)
          obtain ⟨i40c, g40c⟩ := hp40
          have f40c : mm_fr [(42, 4), (42, 5), (42, 6)] [45] h h40c := mm_fr_tr f17_ g40c (by decide +kernel)
          have q40c_29 : h40c.1 42 3 = h17_.1 42 3 := g40c.1 42 3 (by decide)
          refine mm_goto (tgt := 153) C (mm_dec dk_X8_apply 26 rfl) (by decide) ?_
          refine mm_fgt 3 ?_
          exact J153 h40c i40c f40c
  refine mm_istore_nL (ls2 := [mR 42, mR 47, mI 0, mU, mU]) C (mm_dec dk_X8_apply 10 rfl) (by decide) rfl ?_
  exact J17 (((500 - 0) : Int) + 1).toNat 0 ⟨by omega, by omega⟩ h3 i3 f3 (by omega)
set_option maxRecDepth 100000 in
set_option maxHeartbeats 4000000 in
theorem c_X4_look (l : Launch) (hl : l.stackTraces = false) (d : Nat) (hd : 3 ≤ d) (h : mH) (i0 : mm_inv h) (p1 : Int) (p2 : Int) (bp1 : 0 ≤ p1 ∧ p1 ≤ 39) : mm_Met l d yX4_look cX4_look 4 none [mR 46, mI p1, mI p2] h (mm_pv fun h2 => mm_inv h2 ∧ mm_fr [(42, 4), (42, 5), (42, 6), (46, 5), (46, 6), (46, 7), (46, 8), (46, 9), (46, 10), (48, 8), (48, 9)] [45, 47, 49, 50, 51, 52, 53] h h2) mm_nx 0 0 := by
  refine mm_ofW (ls := [mR 46, mI p1, mI p2, mU]) hl (by decide) rfl (Nat.le_of_ble_eq_true rfl) ?_
  intro x hxl C T hnm htb
  subst hxl
  have C1 := mm_OK_le (d' := d - 1 + 1) (by omega) C
  refine mm_rng (fun hr _ => ?_)
  have ap1 : -2147483648 ≤ p1 ∧ p1 < 2147483648 := mm_ok_at hr (i := 1) rfl
  have ap2 : -2147483648 ≤ p2 ∧ p2 < 2147483648 := mm_ok_at hr (i := 2) rfl
  have f0 : mm_fr [(42, 4), (42, 5), (42, 6), (46, 5), (46, 6), (46, 7), (46, 8), (46, 9), (46, 10), (48, 8), (48, 9)] [45, 47, 49, 50, 51, 52, 53] h h := mm_fr_rf
  refine mm_aload_n C (mm_dec dk_X4_look 0 rfl) rfl ?_
  refine mm_getr (t := 48) C fl_X4_55 (mm_dec dk_X4_look 1 rfl) rfl rfl (mm_ref i0 rfl) ?_
  refine mm_iload_n C (mm_dec dk_X4_look 2 rfl) rfl ?_
  refine mm_iload_n C (mm_dec dk_X4_look 3 rfl) rfl ?_
  refine mm_cVv (rest := []) C1 ev_X4_59 (mm_dec dk_X4_look 4 rfl) (c_X1_fill x.2.1 hl (d - 1) (by omega) h i0 p1 p2 ⟨by omega, by omega⟩) rfl rfl (Nat.le_of_ble_eq_true rfl) ⟨by decide, by decide⟩ rfl (fun h6c hp6 => ?_) (fun _ _ q => q.elim)
  obtain ⟨i6c, g6c⟩ := hp6
  have f6c : mm_fr [(42, 4), (42, 5), (42, 6), (46, 5), (46, 6), (46, 7), (46, 8), (46, 9), (46, 10), (48, 8), (48, 9)] [45, 47, 49, 50, 51, 52, 53] h h6c := mm_fr_tr f0 g6c (by decide +kernel)
  refine mm_aload_n C (mm_dec dk_X4_look 5 rfl) rfl ?_
  refine mm_aload_n C (mm_dec dk_X4_look 6 rfl) rfl ?_
  refine mm_iload_n C (mm_dec dk_X4_look 7 rfl) rfl ?_
  refine mm_iload_n C (mm_dec dk_X4_look 8 rfl) rfl ?_
  refine mm_cVi (rest := [mR 46]) C1 ev_X4_63 (mm_dec dk_X4_look 9 rfl) (c_X4_startOf x.2.1 hl (d - 1) (by omega) h6c i6c p1 p2 ⟨by omega, by omega⟩) rfl rfl (Nat.le_of_ble_eq_true rfl) ⟨by decide, by decide⟩ rfl (fun r13 h13c hp13 => ?_) (fun _ _ q => q.elim)
  obtain ⟨b13, z13⟩ := hp13
  rw [z13]
  refine mm_puti C fl_X4_19 (mm_dec dk_X4_look 10 rfl) rfl rfl rfl (Or.inl ⟨rfl, rfl⟩) ?_
  have i2 : mm_inv (mm_pf h6c 46 6 r13) := mm_inv_pf i6c (show -2147483648 ≤ r13 ∧ r13 ≤ 2147483647 from ⟨by omega, by omega⟩) (by decide)
  have f2 : mm_fr [(42, 4), (42, 5), (42, 6), (46, 5), (46, 6), (46, 7), (46, 8), (46, 9), (46, 10), (48, 8), (48, 9)] [45, 47, 49, 50, 51, 52, 53] h (mm_pf h6c 46 6 r13) := mm_fr_pf f6c (by decide)
  obtain ⟨h2, eh2⟩ : ∃ z, z = mm_pf h6c 46 6 r13 := ⟨_, rfl⟩
  rw [← eh2] at i2 f2 ⊢
  have qh2 : h2.1 46 6 = r13 := by rw [eh2]; exact mm_pf_same _ _ _ _
  refine mm_aload_n C (mm_dec dk_X4_look 11 rfl) rfl ?_
  refine mm_aload_n C (mm_dec dk_X4_look 12 rfl) rfl ?_
  refine mm_getr (t := 30) C fl_X4_42 (mm_dec dk_X4_look 13 rfl) rfl rfl (mm_ref i2 rfl) ?_
  refine mm_aload_n C (mm_dec dk_X4_look 14 rfl) rfl ?_
  refine mm_getr (t := 30) C fl_X4_42 (mm_dec dk_X4_look 15 rfl) rfl rfl (mm_ref i2 rfl) ?_
  refine mm_iconst C (mm_dec dk_X4_look 16 rfl) ⟨by decide, by decide⟩ ?_
  refine mm_iload_n C (mm_dec dk_X4_look 17 rfl) rfl ?_
  refine mm_iload_n C (mm_dec dk_X4_look 18 rfl) rfl ?_
  refine mm_cVi (rest := [mR 30, mR 46]) C1 ev_X4_67 (mm_dec dk_X4_look 19 rfl) (c_X6_latest x.2.1 hl (d - 1) (by omega) h2 i2 2 p1 p2 ⟨by omega, by omega⟩) rfl rfl (Nat.le_of_ble_eq_true rfl) ⟨by decide, by decide⟩ rfl (fun r31 h31c hp31 => ?_) (fun _ _ q => q.elim)
  obtain ⟨b31, z31⟩ := hp31
  rw [z31]
  refine mm_cVi (rest := [mR 46]) C1 ev_X4_73 (mm_dec dk_X4_look 20 rfl) (c_X6_timeOf x.2.1 hl (d - 1) (by omega) h2 i2 r31 ⟨by omega, by omega⟩) rfl rfl (Nat.le_of_ble_eq_true rfl) ⟨by decide, by decide⟩ rfl (fun r34 h34c hp34 => ?_) (fun _ _ q => q.elim)
  obtain ⟨z34, y34⟩ := hp34
  rw [z34]
  have g5 : -2147483648 ≤ (h2.2.1 34 r31) ∧ (h2.2.1 34 r31) ≤ 2147483647 := i2.2.1 34 r31
  refine mm_puti C fl_X4_22 (mm_dec dk_X4_look 21 rfl) rfl rfl rfl (Or.inl ⟨rfl, rfl⟩) ?_
  have i3 : mm_inv (mm_pf h2 46 7 r34) := mm_inv_pf i2 (show -2147483648 ≤ r34 ∧ r34 ≤ 2147483647 from ⟨by omega, by omega⟩) (by decide)
  have f3 : mm_fr [(42, 4), (42, 5), (42, 6), (46, 5), (46, 6), (46, 7), (46, 8), (46, 9), (46, 10), (48, 8), (48, 9)] [45, 47, 49, 50, 51, 52, 53] h (mm_pf h2 46 7 r34) := mm_fr_pf f2 (by decide)
  obtain ⟨h3, eh3⟩ : ∃ z, z = mm_pf h2 46 7 r34 := ⟨_, rfl⟩
  rw [← eh3] at i3 f3 ⊢
  have qh3 : h3.1 46 7 = r34 := by rw [eh3]; exact mm_pf_same _ _ _ _
  have qh3_6 : h3.1 46 6 = h2.1 46 6 := by rw [eh3]; exact mm_pf_ne _ _ (by decide)
  refine mm_aload_n C (mm_dec dk_X4_look 22 rfl) rfl ?_
  refine mm_iload_n C (mm_dec dk_X4_look 23 rfl) rfl ?_
  refine mm_cVv (rest := []) C1 ev_X4_77 (mm_dec dk_X4_look 24 rfl) (c_X4_fillValues x.2.1 hl (d - 1) (by omega) h3 i3 p1 ⟨by omega, by omega⟩) rfl rfl (Nat.le_of_ble_eq_true rfl) ⟨by decide, by decide⟩ rfl (fun h42c hp42 => ?_) (fun _ _ q => q.elim)
  obtain ⟨i42c, g42c⟩ := hp42
  have f42c : mm_fr [(42, 4), (42, 5), (42, 6), (46, 5), (46, 6), (46, 7), (46, 8), (46, 9), (46, 10), (48, 8), (48, 9)] [45, 47, 49, 50, 51, 52, 53] h h42c := mm_fr_tr f3 g42c (by decide +kernel)
  have q42c_8 : h42c.1 46 6 = h3.1 46 6 := g42c.1 46 6 (by decide)
  have q42c_9 : h42c.1 46 7 = h3.1 46 7 := g42c.1 46 7 (by decide)
  refine mm_aload_n C (mm_dec dk_X4_look 25 rfl) rfl ?_
  refine mm_getr (t := 42) C fl_X4_46 (mm_dec dk_X4_look 26 rfl) rfl rfl (mm_ref i42c rfl) ?_
  refine mm_aload_n C (mm_dec dk_X4_look 27 rfl) rfl ?_
  refine mm_getr (t := 47) C fl_X4_9 (mm_dec dk_X4_look 28 rfl) rfl rfl (mm_ref i42c rfl) ?_
  refine mm_cVv (rest := []) C1 ev_X4_81 (mm_dec dk_X4_look 29 rfl) (c_X8_apply_47 x.2.1 hl (d - 1) (by omega) h42c i42c ) rfl rfl (Nat.le_of_ble_eq_true rfl) ⟨by decide, by decide⟩ rfl (fun h53c hp53 => ?_) (fun _ _ q => q.elim)
  obtain ⟨i53c, g53c⟩ := hp53
  have f53c : mm_fr [(42, 4), (42, 5), (42, 6), (46, 5), (46, 6), (46, 7), (46, 8), (46, 9), (46, 10), (48, 8), (48, 9)] [45, 47, 49, 50, 51, 52, 53] h h53c := mm_fr_tr f42c g53c (by decide +kernel)
  have q53c_11 : h53c.1 46 6 = h42c.1 46 6 := g53c.1 46 6 (by decide)
  have q53c_12 : h53c.1 46 7 = h42c.1 46 7 := g53c.1 46 7 (by decide)
  refine mm_aload_n C (mm_dec dk_X4_look 30 rfl) rfl ?_
  refine mm_aload_n C (mm_dec dk_X4_look 31 rfl) rfl ?_
  refine mm_getr (t := 42) C fl_X4_46 (mm_dec dk_X4_look 32 rfl) rfl rfl (mm_ref i53c rfl) ?_
  refine mm_cVi (rest := [mR 46]) C1 ev_X4_87 (mm_dec dk_X4_look 33 rfl) (c_X8_penalty x.2.1 hl (d - 1) (by omega) h53c i53c ) rfl rfl (Nat.le_of_ble_eq_true rfl) ⟨by decide, by decide⟩ rfl (fun r61 h61c hp61 => ?_) (fun _ _ q => q.elim)
  obtain ⟨z61, y61⟩ := hp61
  rw [z61, y61]
  have g14 : -2147483648 ≤ (h53c.1 42 5) ∧ (h53c.1 42 5) ≤ 2147483647 := i53c.1 42 5
  refine mm_puti C fl_X4_25 (mm_dec dk_X4_look 34 rfl) rfl rfl rfl (Or.inl ⟨rfl, rfl⟩) ?_
  have i6 : mm_inv (mm_pf h53c 46 8 (h53c.1 42 5)) := mm_inv_pf i53c (show -2147483648 ≤ (h53c.1 42 5) ∧ (h53c.1 42 5) ≤ 2147483647 from ⟨by omega, by omega⟩) (by decide)
  have f6 : mm_fr [(42, 4), (42, 5), (42, 6), (46, 5), (46, 6), (46, 7), (46, 8), (46, 9), (46, 10), (48, 8), (48, 9)] [45, 47, 49, 50, 51, 52, 53] h (mm_pf h53c 46 8 (h53c.1 42 5)) := mm_fr_pf f53c (by decide)
  obtain ⟨h6, eh6⟩ : ∃ z, z = mm_pf h53c 46 8 (h53c.1 42 5) := ⟨_, rfl⟩
  rw [← eh6] at i6 f6 ⊢
  have qh6 : h6.1 46 8 = (h53c.1 42 5) := by rw [eh6]; exact mm_pf_same _ _ _ _
  have qh6_15 : h6.1 42 5 = h53c.1 42 5 := by rw [eh6]; exact mm_pf_ne _ _ (by decide)
  have qh6_16 : h6.1 46 6 = h53c.1 46 6 := by rw [eh6]; exact mm_pf_ne _ _ (by decide)
  have qh6_17 : h6.1 46 7 = h53c.1 46 7 := by rw [eh6]; exact mm_pf_ne _ _ (by decide)
  refine mm_aload_n C (mm_dec dk_X4_look 35 rfl) rfl ?_
  refine mm_aload_n C (mm_dec dk_X4_look 36 rfl) rfl ?_
  refine mm_getr (t := 30) C fl_X4_42 (mm_dec dk_X4_look 37 rfl) rfl rfl (mm_ref i6 rfl) ?_
  refine mm_iload_n C (mm_dec dk_X4_look 38 rfl) rfl ?_
  refine mm_iload_n C (mm_dec dk_X4_look 39 rfl) rfl ?_
  refine mm_cVi (rest := [mR 46]) C1 ev_X4_90 (mm_dec dk_X4_look 40 rfl) (c_X6_addedTo x.2.1 hl (d - 1) (by omega) h6 i6 p1 p2 ⟨by omega, by omega⟩) rfl rfl (Nat.le_of_ble_eq_true rfl) ⟨by decide, by decide⟩ rfl (fun r74 h74c hp74 => ?_) (fun _ _ q => q.elim)
  obtain ⟨b74, z74⟩ := hp74
  rw [z74]
  refine mm_puti C fl_X4_28 (mm_dec dk_X4_look 41 rfl) rfl rfl rfl (Or.inl ⟨rfl, rfl⟩) ?_
  have i7 : mm_inv (mm_pf h6 46 9 r74) := mm_inv_pf i6 (show -2147483648 ≤ r74 ∧ r74 ≤ 2147483647 from ⟨by omega, by omega⟩) (by decide)
  have f7 : mm_fr [(42, 4), (42, 5), (42, 6), (46, 5), (46, 6), (46, 7), (46, 8), (46, 9), (46, 10), (48, 8), (48, 9)] [45, 47, 49, 50, 51, 52, 53] h (mm_pf h6 46 9 r74) := mm_fr_pf f6 (by decide)
  obtain ⟨h7, eh7⟩ : ∃ z, z = mm_pf h6 46 9 r74 := ⟨_, rfl⟩
  rw [← eh7] at i7 f7 ⊢
  have qh7 : h7.1 46 9 = r74 := by rw [eh7]; exact mm_pf_same _ _ _ _
  have qh7_19 : h7.1 42 5 = h6.1 42 5 := by rw [eh7]; exact mm_pf_ne _ _ (by decide)
  have qh7_20 : h7.1 46 6 = h6.1 46 6 := by rw [eh7]; exact mm_pf_ne _ _ (by decide)
  have qh7_21 : h7.1 46 7 = h6.1 46 7 := by rw [eh7]; exact mm_pf_ne _ _ (by decide)
  have qh7_22 : h7.1 46 8 = h6.1 46 8 := by rw [eh7]; exact mm_pf_ne _ _ (by decide)
  refine mm_aload_n C (mm_dec dk_X4_look 42 rfl) rfl ?_
  refine mm_aload_n C (mm_dec dk_X4_look 43 rfl) rfl ?_
  refine mm_iload_n C (mm_dec dk_X4_look 44 rfl) rfl ?_
  refine mm_aload_n C (mm_dec dk_X4_look 45 rfl) rfl ?_
  refine mm_getr (t := 30) C fl_X4_42 (mm_dec dk_X4_look 46 rfl) rfl rfl (mm_ref i7 rfl) ?_
  refine mm_iload_n C (mm_dec dk_X4_look 47 rfl) rfl ?_
  refine mm_iload_n C (mm_dec dk_X4_look 48 rfl) rfl ?_
  refine mm_cVi (rest := [mI p2, mR 46, mR 46]) C1 ev_X4_93 (mm_dec dk_X4_look 49 rfl) (c_X6_verdictOn x.2.1 hl (d - 1) (by omega) h7 i7 p1 p2 ⟨by omega, by omega⟩) rfl rfl (Nat.le_of_ble_eq_true rfl) ⟨by decide, by decide⟩ rfl (fun r89 h89c hp89 => ?_) (fun _ _ q => q.elim)
  obtain ⟨b89, z89⟩ := hp89
  rw [z89]
  refine mm_cVi (rest := [mR 46]) C1 ev_X4_96 (mm_dec dk_X4_look 50 rfl) (c_X4_stateAt x.2.1 hl (d - 1) (by omega) h7 i7 p2 r89) rfl rfl (Nat.le_of_ble_eq_true rfl) ⟨by decide, by decide⟩ rfl (fun r92 h92c hp92 => ?_) (fun _ _ q => q.elim)
  obtain ⟨z92, y92⟩ := hp92
  rw [z92]
  have g25 : 0 ≤ (h7.1 42 6) ∧ (h7.1 42 6) ≤ 1 := i7.1 42 6
  have g26 : -2147483648 ≤ (h7.2.1 47 0) ∧ (h7.2.1 47 0) ≤ 2147483647 := i7.2.1 47 0
  refine mm_puti C fl_X4_15 (mm_dec dk_X4_look 51 rfl) rfl rfl rfl (Or.inl ⟨rfl, rfl⟩) ?_
  have i8 : mm_inv (mm_pf h7 46 5 r92) := mm_inv_pf i7 (show -2147483648 ≤ r92 ∧ r92 ≤ 2147483647 from ⟨by omega, by omega⟩) (by decide)
  have f8 : mm_fr [(42, 4), (42, 5), (42, 6), (46, 5), (46, 6), (46, 7), (46, 8), (46, 9), (46, 10), (48, 8), (48, 9)] [45, 47, 49, 50, 51, 52, 53] h (mm_pf h7 46 5 r92) := mm_fr_pf f7 (by decide)
  obtain ⟨h8, eh8⟩ : ∃ z, z = mm_pf h7 46 5 r92 := ⟨_, rfl⟩
  rw [← eh8] at i8 f8 ⊢
  have qh8 : h8.1 46 5 = r92 := by rw [eh8]; exact mm_pf_same _ _ _ _
  have qh8_27 : h8.1 42 5 = h7.1 42 5 := by rw [eh8]; exact mm_pf_ne _ _ (by decide)
  have qh8_28 : h8.1 42 6 = h7.1 42 6 := by rw [eh8]; exact mm_pf_ne _ _ (by decide)
  have qh8_29 : h8.1 46 6 = h7.1 46 6 := by rw [eh8]; exact mm_pf_ne _ _ (by decide)
  have qh8_30 : h8.1 46 7 = h7.1 46 7 := by rw [eh8]; exact mm_pf_ne _ _ (by decide)
  have qh8_31 : h8.1 46 8 = h7.1 46 8 := by rw [eh8]; exact mm_pf_ne _ _ (by decide)
  have qh8_32 : h8.1 46 9 = h7.1 46 9 := by rw [eh8]; exact mm_pf_ne _ _ (by decide)
  refine mm_aload_n C (mm_dec dk_X4_look 52 rfl) rfl ?_
  refine mm_ldc (z := -100000) C (mm_dec dk_X4_look 53 rfl) kc_X4_31 (by decide) ?_
  refine mm_puti C fl_X4_32 (mm_dec dk_X4_look 54 rfl) rfl rfl rfl (Or.inl ⟨rfl, rfl⟩) ?_
  have i9 : mm_inv (mm_pf h8 46 10 (-100000)) := mm_inv_pf i8 (show -2147483648 ≤ (-100000) ∧ (-100000) ≤ 2147483647 from ⟨by omega, by omega⟩) (by decide)
  have f9 : mm_fr [(42, 4), (42, 5), (42, 6), (46, 5), (46, 6), (46, 7), (46, 8), (46, 9), (46, 10), (48, 8), (48, 9)] [45, 47, 49, 50, 51, 52, 53] h (mm_pf h8 46 10 (-100000)) := mm_fr_pf f8 (by decide)
  obtain ⟨h9, eh9⟩ : ∃ z, z = mm_pf h8 46 10 (-100000) := ⟨_, rfl⟩
  rw [← eh9] at i9 f9 ⊢
  have qh9 : h9.1 46 10 = (-100000) := by rw [eh9]; exact mm_pf_same _ _ _ _
  have qh9_33 : h9.1 42 5 = h8.1 42 5 := by rw [eh9]; exact mm_pf_ne _ _ (by decide)
  have qh9_34 : h9.1 42 6 = h8.1 42 6 := by rw [eh9]; exact mm_pf_ne _ _ (by decide)
  have qh9_35 : h9.1 46 5 = h8.1 46 5 := by rw [eh9]; exact mm_pf_ne _ _ (by decide)
  have qh9_36 : h9.1 46 6 = h8.1 46 6 := by rw [eh9]; exact mm_pf_ne _ _ (by decide)
  have qh9_37 : h9.1 46 7 = h8.1 46 7 := by rw [eh9]; exact mm_pf_ne _ _ (by decide)
  have qh9_38 : h9.1 46 8 = h8.1 46 8 := by rw [eh9]; exact mm_pf_ne _ _ (by decide)
  have qh9_39 : h9.1 46 9 = h8.1 46 9 := by rw [eh9]; exact mm_pf_ne _ _ (by decide)
  refine mm_aload_n C (mm_dec dk_X4_look 55 rfl) rfl ?_
  refine mm_geti C fl_X4_15 (mm_dec dk_X4_look 56 rfl) rfl rfl (Or.inl rfl) ?_
  refine mm_iconst C (mm_dec dk_X4_look 57 rfl) ⟨by decide, by decide⟩ ?_
  have J156 : ∀ (h156_ : mH) (i156_ : mm_inv h156_) (f156_ : mm_fr [(42, 4), (42, 5), (42, 6), (46, 5), (46, 6), (46, 7), (46, 8), (46, 9), (46, 10), (48, 8), (48, 9)] [45, 47, 49, 50, 51, 52, 53] h h156_), mm_W x 0 0 156 [mU, mU, mU, mU] [] h156_ := by
    intro h156_ i156_ f156_
    exact mm_vret C T (mm_dec dk_X4_look 85 rfl) (by decide : 0 ≤ 0) (by decide : 0 ≤ 0) ⟨rfl, ⟨i156_, f156_⟩⟩
  refine mm_icmp_ne (tgt := 156) C (mm_dec dk_X4_look 58 rfl) (by decide) (fun c109 => ?_) (fun c109 => ?_)
  · skip
    refine mm_fgt 0 ?_
    refine mm_fgt 1 ?_
    refine mm_fgt 2 ?_
    exact J156 h9 i9 f9
  · skip
    refine mm_aload_n C (mm_dec dk_X4_look 59 rfl) rfl ?_
    refine mm_geti C fl_X4_25 (mm_dec dk_X4_look 60 rfl) rfl rfl (Or.inl rfl) ?_
    refine mm_aload_n C (mm_dec dk_X4_look 61 rfl) rfl ?_
    refine mm_geti C fl_X4_28 (mm_dec dk_X4_look 62 rfl) rfl rfl (Or.inl rfl) ?_
    refine mm_iaddw C (mm_dec dk_X4_look 63 rfl) ?_
    have g40 : -2147483648 ≤ (mm_w ((h9.1 46 8) + (h9.1 46 9))) ∧ (mm_w ((h9.1 46 8) + (h9.1 46 9))) < 2147483648 := mm_w_rg _
    refine mm_istore_nL (ls2 := [mR 46, mI p1, mI p2, mI (mm_w ((h9.1 46 8) + (h9.1 46 9)))]) C (mm_dec dk_X4_look 64 rfl) (by decide) rfl ?_
    refine mm_aload_n C (mm_dec dk_X4_look 65 rfl) rfl ?_
    refine mm_aload_n C (mm_dec dk_X4_look 66 rfl) rfl ?_
    refine mm_getr (t := 22) C fl_X4_38 (mm_dec dk_X4_look 67 rfl) rfl rfl (mm_ref i9 rfl) ?_
    refine mm_iload_n C (mm_dec dk_X4_look 68 rfl) rfl ?_
    refine mm_cVi (rest := [mR 46]) C1 ev_X4_99 (mm_dec dk_X4_look 69 rfl) (c_X9_runsFree x.2.1 hl (d - 1) (by omega) h9 i9 p1 ⟨by omega, by omega⟩) rfl rfl (Nat.le_of_ble_eq_true rfl) ⟨by decide, by decide⟩ rfl (fun r128 h128c hp128 => ?_) (fun _ _ q => q.elim)
    obtain ⟨z128, y128⟩ := hp128
    rw [z128, y128]
    have g42 : 0 ≤ (h9.2.1 17 (h9.2.1 23 p1)) ∧ (h9.2.1 17 (h9.2.1 23 p1)) ≤ 1 := i9.2.1 17 (h9.2.1 23 p1)
    have g43 : 0 ≤ (h9.2.1 23 p1) ∧ (h9.2.1 23 p1) ≤ 7 := i9.2.1 23 p1
    have J153 : ∀ (s153_1 : Int) (bs153_1 : -2147483648 ≤ s153_1 ∧ s153_1 ≤ 2147483647), mm_W x 0 0 153 [mU, mU, mU, mU] [mI s153_1, mR 46] h9 := by
      intro s153_1 bs153_1
      refine mm_puti C fl_X4_32 (mm_dec dk_X4_look 84 rfl) rfl rfl rfl (Or.inl ⟨rfl, rfl⟩) ?_
      have i10 : mm_inv (mm_pf h9 46 10 s153_1) := mm_inv_pf i9 (show -2147483648 ≤ s153_1 ∧ s153_1 ≤ 2147483647 from ⟨by omega, by omega⟩) (by decide)
      have f10 : mm_fr [(42, 4), (42, 5), (42, 6), (46, 5), (46, 6), (46, 7), (46, 8), (46, 9), (46, 10), (48, 8), (48, 9)] [45, 47, 49, 50, 51, 52, 53] h (mm_pf h9 46 10 s153_1) := mm_fr_pf f9 (by decide)
      obtain ⟨h10, eh10⟩ : ∃ z, z = mm_pf h9 46 10 s153_1 := ⟨_, rfl⟩
      rw [← eh10] at i10 f10 ⊢
      have qh10 : h10.1 46 10 = s153_1 := by rw [eh10]; exact mm_pf_same _ _ _ _
      have qh10_44 : h10.1 42 5 = h9.1 42 5 := by rw [eh10]; exact mm_pf_ne _ _ (by decide)
      have qh10_45 : h10.1 42 6 = h9.1 42 6 := by rw [eh10]; exact mm_pf_ne _ _ (by decide)
      have qh10_46 : h10.1 46 5 = h9.1 46 5 := by rw [eh10]; exact mm_pf_ne _ _ (by decide)
      have qh10_47 : h10.1 46 6 = h9.1 46 6 := by rw [eh10]; exact mm_pf_ne _ _ (by decide)
      have qh10_48 : h10.1 46 7 = h9.1 46 7 := by rw [eh10]; exact mm_pf_ne _ _ (by decide)
      have qh10_49 : h10.1 46 8 = h9.1 46 8 := by rw [eh10]; exact mm_pf_ne _ _ (by decide)
      have qh10_50 : h10.1 46 9 = h9.1 46 9 := by rw [eh10]; exact mm_pf_ne _ _ (by decide)
      exact J156 h10 i10 f10
    refine mm_if_eq (tgt := 145) C (mm_dec dk_X4_look 70 rfl) (by decide) (fun c131 => ?_) (fun c131 => ?_)
    · skip
      refine mm_aload_n C (mm_dec dk_X4_look 78 rfl) rfl ?_
      refine mm_getr (t := 47) C fl_X4_9 (mm_dec dk_X4_look 79 rfl) rfl rfl (mm_ref i9 rfl) ?_
      refine mm_iconst C (mm_dec dk_X4_look 80 rfl) ⟨by decide, by decide⟩ ?_
      refine mm_iald C (mm_dec dk_X4_look 81 rfl) rfl (by omega) (by omega) ?_
      have g51 : -2147483648 ≤ (h9.2.1 47 2) ∧ (h9.2.1 47 2) ≤ 2147483647 := i9.2.1 47 2
      refine mm_iload_n C (mm_dec dk_X4_look 82 rfl) rfl ?_
      refine mm_iaddw C (mm_dec dk_X4_look 83 rfl) ?_
      have g52 : -2147483648 ≤ (mm_w ((h9.2.1 47 2) + (mm_w ((h9.1 46 8) + (h9.1 46 9))))) ∧ (mm_w ((h9.2.1 47 2) + (mm_w ((h9.1 46 8) + (h9.1 46 9))))) < 2147483648 := mm_w_rg _
      refine mm_fgt 0 ?_
      refine mm_fgt 1 ?_
      refine mm_fgt 2 ?_
      refine mm_fgt 3 ?_
      exact J153 (mm_w ((h9.2.1 47 2) + (mm_w ((h9.1 46 8) + (h9.1 46 9))))) ⟨by omega, by omega⟩
    · skip
      refine mm_aload_n C (mm_dec dk_X4_look 71 rfl) rfl ?_
      refine mm_getr (t := 47) C fl_X4_9 (mm_dec dk_X4_look 72 rfl) rfl rfl (mm_ref i9 rfl) ?_
      refine mm_iconst C (mm_dec dk_X4_look 73 rfl) ⟨by decide, by decide⟩ ?_
      refine mm_iald C (mm_dec dk_X4_look 74 rfl) rfl (by omega) (by omega) ?_
      have g53 : -2147483648 ≤ (h9.2.1 47 3) ∧ (h9.2.1 47 3) ≤ 2147483647 := i9.2.1 47 3
      refine mm_iload_n C (mm_dec dk_X4_look 75 rfl) rfl ?_
      refine mm_isubw C (mm_dec dk_X4_look 76 rfl) ?_
      have g54 : -2147483648 ≤ (mm_w ((h9.2.1 47 3) - (mm_w ((h9.1 46 8) + (h9.1 46 9))))) ∧ (mm_w ((h9.2.1 47 3) - (mm_w ((h9.1 46 8) + (h9.1 46 9))))) < 2147483648 := mm_w_rg _
      refine mm_goto (tgt := 153) C (mm_dec dk_X4_look 77 rfl) (by decide) ?_
      refine mm_fgt 0 ?_
      refine mm_fgt 1 ?_
      refine mm_fgt 2 ?_
      refine mm_fgt 3 ?_
      exact J153 (mm_w ((h9.2.1 47 3) - (mm_w ((h9.1 46 8) + (h9.1 46 9))))) ⟨by omega, by omega⟩
set_option maxRecDepth 100000 in
set_option maxHeartbeats 4000000 in
theorem c_X4_placeOf (l : Launch) (hl : l.stackTraces = false) (d : Nat) (hd : 4 ≤ d) (h : mH) (i0 : mm_inv h) (p1 : Int) (p2 : Int) (bp1 : 0 ≤ p1 ∧ p1 ≤ 39) : mm_Met l d yX4_placeOf cX4_placeOf 8 (some .int) [mR 46, mI p1, mI p2] h (mm_pi fun r h2 => (-2147483648 ≤ r ∧ r ≤ 2147483647) ∧ mm_inv h2 ∧ mm_fr [(42, 4), (42, 5), (42, 6), (46, 5), (46, 6), (46, 7), (46, 8), (46, 9), (46, 10), (48, 8), (48, 9)] [45, 47, 49, 50, 51, 52, 53] h h2) mm_nx 0 0 := by
  refine mm_ofW (ls := [mR 46, mI p1, mI p2, mU, mU, mU, mU, mU]) hl (by decide) rfl (Nat.le_of_ble_eq_true rfl) ?_
  intro x hxl C T hnm htb
  subst hxl
  have C1 := mm_OK_le (d' := d - 1 + 1) (by omega) C
  refine mm_rng (fun hr _ => ?_)
  have ap1 : -2147483648 ≤ p1 ∧ p1 < 2147483648 := mm_ok_at hr (i := 1) rfl
  have ap2 : -2147483648 ≤ p2 ∧ p2 < 2147483648 := mm_ok_at hr (i := 2) rfl
  have f0 : mm_fr [(42, 4), (42, 5), (42, 6), (46, 5), (46, 6), (46, 7), (46, 8), (46, 9), (46, 10), (48, 8), (48, 9)] [45, 47, 49, 50, 51, 52, 53] h h := mm_fr_rf
  refine mm_aload_n C (mm_dec dk_X4_placeOf 0 rfl) rfl ?_
  refine mm_iload_n C (mm_dec dk_X4_placeOf 1 rfl) rfl ?_
  refine mm_iload_n C (mm_dec dk_X4_placeOf 2 rfl) rfl ?_
  refine mm_cVv (rest := []) C1 ev_X4_109 (mm_dec dk_X4_placeOf 3 rfl) (c_X4_look x.2.1 hl (d - 1) (by omega) h i0 p1 p2 ⟨by omega, by omega⟩) rfl rfl (Nat.le_of_ble_eq_true rfl) ⟨by decide, by decide⟩ rfl (fun h3c hp3 => ?_) (fun _ _ q => q.elim)
  obtain ⟨i3c, g3c⟩ := hp3
  have f3c : mm_fr [(42, 4), (42, 5), (42, 6), (46, 5), (46, 6), (46, 7), (46, 8), (46, 9), (46, 10), (48, 8), (48, 9)] [45, 47, 49, 50, 51, 52, 53] h h3c := mm_fr_tr f0 g3c (by decide +kernel)
  refine mm_aload_n C (mm_dec dk_X4_placeOf 4 rfl) rfl ?_
  refine mm_geti C fl_X4_15 (mm_dec dk_X4_placeOf 5 rfl) rfl rfl (Or.inl rfl) ?_
  have g2 : -2147483648 ≤ (h3c.1 46 5) ∧ (h3c.1 46 5) ≤ 2147483647 := i3c.1 46 5
  refine mm_iconst C (mm_dec dk_X4_placeOf 6 rfl) ⟨by decide, by decide⟩ ?_
  refine mm_icmp_eq (tgt := 16) C (mm_dec dk_X4_placeOf 7 rfl) (by decide) (fun c11 => ?_) (fun c11 => ?_)
  · skip
    refine mm_aload_n C (mm_dec dk_X4_placeOf 10 rfl) rfl ?_
    refine mm_geti C fl_X4_32 (mm_dec dk_X4_placeOf 11 rfl) rfl rfl (Or.inl rfl) ?_
    have g3 : -2147483648 ≤ (h3c.1 46 10) ∧ (h3c.1 46 10) ≤ 2147483647 := i3c.1 46 10
    refine mm_istore_nL (ls2 := [mR 46, mI p1, mI p2, mI (h3c.1 46 10), mU, mU, mU, mU]) C (mm_dec dk_X4_placeOf 12 rfl) (by decide) rfl ?_
    refine mm_aload_n C (mm_dec dk_X4_placeOf 13 rfl) rfl ?_
    refine mm_getr (t := 47) C fl_X4_9 (mm_dec dk_X4_placeOf 14 rfl) rfl rfl (mm_ref i3c rfl) ?_
    refine mm_iconst C (mm_dec dk_X4_placeOf 15 rfl) ⟨by decide, by decide⟩ ?_
    refine mm_iald C (mm_dec dk_X4_placeOf 16 rfl) rfl (by omega) (by omega) ?_
    have g4 : -2147483648 ≤ (h3c.2.1 47 2) ∧ (h3c.2.1 47 2) ≤ 2147483647 := i3c.2.1 47 2
    refine mm_istoreL (ls2 := [mR 46, mI p1, mI p2, mI (h3c.1 46 10), mI (h3c.2.1 47 2), mU, mU, mU]) C (mm_dec dk_X4_placeOf 17 rfl) (by decide) rfl ?_
    refine mm_aload_n C (mm_dec dk_X4_placeOf 18 rfl) rfl ?_
    refine mm_getr (t := 22) C fl_X4_38 (mm_dec dk_X4_placeOf 19 rfl) rfl rfl (mm_ref i3c rfl) ?_
    refine mm_iload_n C (mm_dec dk_X4_placeOf 20 rfl) rfl ?_
    refine mm_cVi (rest := []) C1 ev_X4_99 (mm_dec dk_X4_placeOf 21 rfl) (c_X9_runsFree x.2.1 hl (d - 1) (by omega) h3c i3c p1 ⟨by omega, by omega⟩) rfl rfl (Nat.le_of_ble_eq_true rfl) ⟨by decide, by decide⟩ rfl (fun r34 h34c hp34 => ?_) (fun _ _ q => q.elim)
    obtain ⟨z34, y34⟩ := hp34
    rw [z34, y34]
    have g6 : 0 ≤ (h3c.2.1 17 (h3c.2.1 23 p1)) ∧ (h3c.2.1 17 (h3c.2.1 23 p1)) ≤ 1 := i3c.2.1 17 (h3c.2.1 23 p1)
    have g7 : 0 ≤ (h3c.2.1 23 p1) ∧ (h3c.2.1 23 p1) ≤ 7 := i3c.2.1 23 p1
    refine mm_istoreL (ls2 := [mR 46, mI p1, mI p2, mI (h3c.1 46 10), mI (h3c.2.1 47 2), mI (h3c.2.1 17 (h3c.2.1 23 p1)), mU, mU]) C (mm_dec dk_X4_placeOf 22 rfl) (by decide) rfl ?_
    refine mm_iconst C (mm_dec dk_X4_placeOf 23 rfl) ⟨by decide, by decide⟩ ?_
    refine mm_istoreL (ls2 := [mR 46, mI p1, mI p2, mI (h3c.1 46 10), mI (h3c.2.1 47 2), mI (h3c.2.1 17 (h3c.2.1 23 p1)), mI 1, mU]) C (mm_dec dk_X4_placeOf 24 rfl) (by decide) rfl ?_
    refine mm_iconst C (mm_dec dk_X4_placeOf 25 rfl) ⟨by decide, by decide⟩ ?_
    have J45 : ∀ (n : Nat) (x45_6 : Int) (bx45_6 : -2147483648 ≤ x45_6 ∧ x45_6 ≤ 2147483647) (x45_7 : Int) (bx45_7 : 0 ≤ x45_7 ∧ x45_7 ≤ 40) (h45_ : mH) (i45_ : mm_inv h45_) (f45_ : mm_fr [(42, 4), (42, 5), (42, 6), (46, 5), (46, 6), (46, 7), (46, 8), (46, 9), (46, 10), (48, 8), (48, 9)] [45, 47, 49, 50, 51, 52, 53] h h45_), (40 - x45_7 : Int) < n → mm_W x 0 0 45 [mR 46, mI p1, mI p2, mI (h3c.1 46 10), mI (h3c.2.1 47 2), mI (h3c.2.1 17 (h3c.2.1 23 p1)), mI x45_6, mI x45_7] [] h45_ := by
      intro n
      induction n with
      | zero =>
        intro x45_6 bx45_6 x45_7 bx45_7 h45_ i45_ f45_ hm
        exfalso; omega
      | succ n ih45 =>
        intro x45_6 bx45_6 x45_7 bx45_7 h45_ i45_ f45_ hm45
        refine mm_iload C (mm_dec dk_X4_placeOf 27 rfl) rfl ?_
        refine mm_aload_n C (mm_dec dk_X4_placeOf 28 rfl) rfl ?_
        refine mm_getr (t := 22) C fl_X4_38 (mm_dec dk_X4_placeOf 29 rfl) rfl rfl (mm_ref i45_ rfl) ?_
        refine mm_cVi (rest := [mI x45_7]) C1 ev_X4_112 (mm_dec dk_X4_placeOf 30 rfl) (c_X9_size x.2.1 hl (d - 1) (by omega) h45_ i45_ ) rfl rfl (Nat.le_of_ble_eq_true rfl) ⟨by decide, by decide⟩ rfl (fun r51 h51c hp51 => ?_) (fun _ _ q => q.elim)
        obtain ⟨z51, y51⟩ := hp51
        rw [z51, y51]
        have g9 : 0 ≤ (h45_.1 22 8) ∧ (h45_.1 22 8) ≤ 40 := i45_.1 22 8
        refine mm_icmp_ge (tgt := 136) C (mm_dec dk_X4_placeOf 31 rfl) (by decide) (fun c54 => ?_) (fun c54 => ?_)
        · skip
          refine mm_iload C (mm_dec dk_X4_placeOf 68 rfl) rfl ?_
          exact mm_iret C T (mm_dec dk_X4_placeOf 69 rfl) (by decide : 0 ≤ 0) (by decide : 0 ≤ 0) ⟨_, rfl, ⟨⟨by omega, by omega⟩, i45_, f45_⟩⟩
        · skip
          refine mm_iload C (mm_dec dk_X4_placeOf 32 rfl) rfl ?_
          refine mm_iload_n C (mm_dec dk_X4_placeOf 33 rfl) rfl ?_
          have J130 : ∀ (x130_6 : Int) (bx130_6 : -2147483648 ≤ x130_6 ∧ x130_6 ≤ 2147483647) (h130_ : mH) (i130_ : mm_inv h130_) (f130_ : mm_fr [(42, 4), (42, 5), (42, 6), (46, 5), (46, 6), (46, 7), (46, 8), (46, 9), (46, 10), (48, 8), (48, 9)] [45, 47, 49, 50, 51, 52, 53] h h130_), mm_W x 0 0 130 [mR 46, mI p1, mI p2, mI (h3c.1 46 10), mI (h3c.2.1 47 2), mI (h3c.2.1 17 (h3c.2.1 23 p1)), mI x130_6, mI x45_7] [] h130_ := by
            intro x130_6 bx130_6 h130_ i130_ f130_
            refine mm_iincL (ls2 := [mR 46, mI p1, mI p2, mI (h3c.1 46 10), mI (h3c.2.1 47 2), mI (h3c.2.1 17 (h3c.2.1 23 p1)), mI x130_6, mI (x45_7 + 1)]) C (mm_dec dk_X4_placeOf 66 rfl) rfl (by decide) ⟨by omega, by omega⟩ rfl ?_
            refine mm_goto (tgt := 45) C (mm_dec dk_X4_placeOf 67 rfl) (by decide) ?_
            exact ih45 x130_6 ⟨by omega, by omega⟩ (x45_7 + 1) ⟨by omega, by omega⟩ h130_ i130_ f130_ (by omega)
          refine mm_icmp_eq (tgt := 130) C (mm_dec dk_X4_placeOf 34 rfl) (by decide) (fun c60 => ?_) (fun c60 => ?_)
          · skip
            exact J130 x45_6 ⟨by omega, by omega⟩ h45_ i45_ f45_
          · skip
            refine mm_aload_n C (mm_dec dk_X4_placeOf 35 rfl) rfl ?_
            refine mm_getr (t := 22) C fl_X4_38 (mm_dec dk_X4_placeOf 36 rfl) rfl rfl (mm_ref i45_ rfl) ?_
            refine mm_iload C (mm_dec dk_X4_placeOf 37 rfl) rfl ?_
            refine mm_cVi (rest := []) C1 ev_X4_115 (mm_dec dk_X4_placeOf 38 rfl) (c_X9_courseOf x.2.1 hl (d - 1) (by omega) h45_ i45_ x45_7 ⟨by omega, by omega⟩) rfl rfl (Nat.le_of_ble_eq_true rfl) ⟨by decide, by decide⟩ rfl (fun r69 h69c hp69 => ?_) (fun _ _ q => q.elim)
            obtain ⟨z69, y69⟩ := hp69
            rw [z69, y69]
            have g11 : 0 ≤ (h45_.2.1 23 x45_7) ∧ (h45_.2.1 23 x45_7) ≤ 7 := i45_.2.1 23 x45_7
            refine mm_aload_n C (mm_dec dk_X4_placeOf 39 rfl) rfl ?_
            refine mm_getr (t := 22) C fl_X4_38 (mm_dec dk_X4_placeOf 40 rfl) rfl rfl (mm_ref i45_ rfl) ?_
            refine mm_iload_n C (mm_dec dk_X4_placeOf 41 rfl) rfl ?_
            refine mm_cVi (rest := [mI (h45_.2.1 23 x45_7)]) C1 ev_X4_115 (mm_dec dk_X4_placeOf 42 rfl) (c_X9_courseOf x.2.1 hl (d - 1) (by omega) h45_ i45_ p1 ⟨by omega, by omega⟩) rfl rfl (Nat.le_of_ble_eq_true rfl) ⟨by decide, by decide⟩ rfl (fun r77 h77c hp77 => ?_) (fun _ _ q => q.elim)
            obtain ⟨z77, y77⟩ := hp77
            rw [z77, y77]
            have g13 : 0 ≤ (h45_.2.1 23 p1) ∧ (h45_.2.1 23 p1) ≤ 7 := i45_.2.1 23 p1
            refine mm_icmp_eq (tgt := 86) C (mm_dec dk_X4_placeOf 43 rfl) (by decide) (fun c80 => ?_) (fun c80 => ?_)
            · skip
              refine mm_aload_n C (mm_dec dk_X4_placeOf 45 rfl) rfl ?_
              refine mm_iload C (mm_dec dk_X4_placeOf 46 rfl) rfl ?_
              refine mm_iload_n C (mm_dec dk_X4_placeOf 47 rfl) rfl ?_
              refine mm_cVv (rest := []) C1 ev_X4_109 (mm_dec dk_X4_placeOf 48 rfl) (c_X4_look x.2.1 hl (d - 1) (by omega) h45_ i45_ x45_7 p2 ⟨by omega, by omega⟩) rfl rfl (Nat.le_of_ble_eq_true rfl) ⟨by decide, by decide⟩ rfl (fun h90c hp90 => ?_) (fun _ _ q => q.elim)
              obtain ⟨i90c, g90c⟩ := hp90
              have f90c : mm_fr [(42, 4), (42, 5), (42, 6), (46, 5), (46, 6), (46, 7), (46, 8), (46, 9), (46, 10), (48, 8), (48, 9)] [45, 47, 49, 50, 51, 52, 53] h h90c := mm_fr_tr f45_ g90c (by decide +kernel)
              have q90c_15 : h90c.1 22 8 = h45_.1 22 8 := g90c.1 22 8 (by decide)
              refine mm_aload_n C (mm_dec dk_X4_placeOf 49 rfl) rfl ?_
              refine mm_geti C fl_X4_15 (mm_dec dk_X4_placeOf 50 rfl) rfl rfl (Or.inl rfl) ?_
              have g16 : -2147483648 ≤ (h90c.1 46 5) ∧ (h90c.1 46 5) ≤ 2147483647 := i90c.1 46 5
              refine mm_iconst C (mm_dec dk_X4_placeOf 51 rfl) ⟨by decide, by decide⟩ ?_
              refine mm_icmp_ne (tgt := 130) C (mm_dec dk_X4_placeOf 52 rfl) (by decide) (fun c98 => ?_) (fun c98 => ?_)
              · skip
                exact J130 x45_6 ⟨by omega, by omega⟩ h90c i90c f90c
              · skip
                refine mm_iload C (mm_dec dk_X4_placeOf 53 rfl) rfl ?_
                have J127 : mm_W x 0 0 127 [mR 46, mI p1, mI p2, mI (h3c.1 46 10), mI (h3c.2.1 47 2), mI (h3c.2.1 17 (h3c.2.1 23 p1)), mI x45_6, mI x45_7] [] h90c := by
                  refine mm_iincwL (ls2 := [mR 46, mI p1, mI p2, mI (h3c.1 46 10), mI (h3c.2.1 47 2), mI (h3c.2.1 17 (h3c.2.1 23 p1)), mI (mm_w (x45_6 + 1)), mI x45_7]) C (mm_dec dk_X4_placeOf 65 rfl) rfl (by decide) rfl ?_
                  have g17 : -2147483648 ≤ (mm_w (x45_6 + 1)) ∧ (mm_w (x45_6 + 1)) < 2147483648 := mm_w_rg _
                  exact J130 (mm_w (x45_6 + 1)) ⟨by omega, by omega⟩ h90c i90c f90c
                refine mm_if_eq (tgt := 119) C (mm_dec dk_X4_placeOf 54 rfl) (by decide) (fun c103 => ?_) (fun c103 => ?_)
                · skip
                  refine mm_aload_n C (mm_dec dk_X4_placeOf 61 rfl) rfl ?_
                  refine mm_geti C fl_X4_32 (mm_dec dk_X4_placeOf 62 rfl) rfl rfl (Or.inl rfl) ?_
                  have g18 : -2147483648 ≤ (h90c.1 46 10) ∧ (h90c.1 46 10) ≤ 2147483647 := i90c.1 46 10
                  refine mm_iload_n C (mm_dec dk_X4_placeOf 63 rfl) rfl ?_
                  refine mm_icmp_ge (tgt := 130) C (mm_dec dk_X4_placeOf 64 rfl) (by decide) (fun c124 => ?_) (fun c124 => ?_)
                  · skip
                    exact J130 x45_6 ⟨by omega, by omega⟩ h90c i90c f90c
                  · skip
                    exact J127
                · skip
                  refine mm_aload_n C (mm_dec dk_X4_placeOf 55 rfl) rfl ?_
                  refine mm_iload_n C (mm_dec dk_X4_placeOf 56 rfl) rfl ?_
                  refine mm_iload C (mm_dec dk_X4_placeOf 57 rfl) rfl ?_
                  refine mm_cVi (rest := []) C1 ev_X4_118 (mm_dec dk_X4_placeOf 58 rfl) (c_X4_isBetterFree x.2.1 hl (d - 1) (by omega) h90c i90c (h3c.1 46 10) (h3c.2.1 47 2)) rfl rfl (Nat.le_of_ble_eq_true rfl) ⟨by decide, by decide⟩ rfl (fun r110 h110c hp110 => ?_) (fun _ _ q => q.elim)
                  obtain ⟨z110, y110⟩ := hp110
                  rw [z110]
                  have g20 : -2147483648 ≤ (h90c.1 46 10) ∧ (h90c.1 46 10) ≤ 2147483647 := i90c.1 46 10
                  have g21 : -2147483648 ≤ (h90c.2.1 47 2) ∧ (h90c.2.1 47 2) ≤ 2147483647 := i90c.2.1 47 2
                  refine mm_if_eq (tgt := 130) C (mm_dec dk_X4_placeOf 59 rfl) (by decide) (fun c113 => ?_) (fun c113 => ?_)
                  · skip
                    exact J130 x45_6 ⟨by omega, by omega⟩ h90c i90c f90c
                  · skip
                    refine mm_goto (tgt := 127) C (mm_dec dk_X4_placeOf 60 rfl) (by decide) ?_
                    exact J127
            · skip
              refine mm_goto (tgt := 130) C (mm_dec dk_X4_placeOf 44 rfl) (by decide) ?_
              exact J130 x45_6 ⟨by omega, by omega⟩ h45_ i45_ f45_
    refine mm_istoreL (ls2 := [mR 46, mI p1, mI p2, mI (h3c.1 46 10), mI (h3c.2.1 47 2), mI (h3c.2.1 17 (h3c.2.1 23 p1)), mI 1, mI 0]) C (mm_dec dk_X4_placeOf 26 rfl) (by decide) rfl ?_
    exact J45 (((40 - 0) : Int) + 1).toNat 1 ⟨by omega, by omega⟩ 0 ⟨by omega, by omega⟩ h3c i3c f3c (by omega)
  · skip
    refine mm_iconst C (mm_dec dk_X4_placeOf 8 rfl) ⟨by decide, by decide⟩ ?_
    exact mm_iret C T (mm_dec dk_X4_placeOf 9 rfl) (by decide : 0 ≤ 0) (by decide : 0 ≤ 0) ⟨_, rfl, ⟨⟨by omega, by omega⟩, i3c, f3c⟩⟩
set_option maxRecDepth 100000 in
set_option maxHeartbeats 4000000 in
theorem c_X4_lookAtTeam (l : Launch) (hl : l.stackTraces = false) (d : Nat) (hd : 4 ≤ d) (h : mH) (i0 : mm_inv h) (p1 : Int) (p2 : Int) (bp1 : 0 ≤ p1 ∧ p1 ≤ 9) : mm_Met l d yX4_lookAtTeam cX4_lookAtTeam 5 (some .boolean) [mR 46, mI p1, mI p2] h (mm_pi fun r h2 => (0 ≤ r ∧ r ≤ 1) ∧ mm_inv h2 ∧ mm_fr [(42, 4), (42, 5), (42, 6), (46, 5), (46, 6), (46, 7), (46, 8), (46, 9), (46, 10), (46, 11), (48, 8), (48, 9)] [45, 47, 49, 50, 51, 52, 53] h h2) mm_nx 0 0 := by
  refine mm_ofW (ls := [mR 46, mI p1, mI p2, mU, mU]) hl (by decide) rfl (Nat.le_of_ble_eq_true rfl) ?_
  intro x hxl C T hnm htb
  subst hxl
  have C1 := mm_OK_le (d' := d - 1 + 1) (by omega) C
  refine mm_rng (fun hr _ => ?_)
  have ap1 : -2147483648 ≤ p1 ∧ p1 < 2147483648 := mm_ok_at hr (i := 1) rfl
  have ap2 : -2147483648 ≤ p2 ∧ p2 < 2147483648 := mm_ok_at hr (i := 2) rfl
  have f0 : mm_fr [(42, 4), (42, 5), (42, 6), (46, 5), (46, 6), (46, 7), (46, 8), (46, 9), (46, 10), (46, 11), (48, 8), (48, 9)] [45, 47, 49, 50, 51, 52, 53] h h := mm_fr_rf
  refine mm_iconst C (mm_dec dk_X4_lookAtTeam 0 rfl) ⟨by decide, by decide⟩ ?_
  refine mm_istore_nL (ls2 := [mR 46, mI p1, mI p2, mI 0, mU]) C (mm_dec dk_X4_lookAtTeam 1 rfl) (by decide) rfl ?_
  refine mm_iconst C (mm_dec dk_X4_lookAtTeam 2 rfl) ⟨by decide, by decide⟩ ?_
  have J5 : ∀ (n : Nat) (x5_3 : Int) (bx5_3 : -2147483648 ≤ x5_3 ∧ x5_3 ≤ 2147483647) (x5_4 : Int) (bx5_4 : 0 ≤ x5_4 ∧ x5_4 ≤ 3) (h5_ : mH) (i5_ : mm_inv h5_) (f5_ : mm_fr [(42, 4), (42, 5), (42, 6), (46, 5), (46, 6), (46, 7), (46, 8), (46, 9), (46, 10), (46, 11), (48, 8), (48, 9)] [45, 47, 49, 50, 51, 52, 53] h h5_), (3 - x5_4 : Int) < n → mm_W x 0 0 5 [mR 46, mI p1, mI p2, mI x5_3, mI x5_4] [] h5_ := by
    intro n
    induction n with
    | zero =>
      intro x5_3 bx5_3 x5_4 bx5_4 h5_ i5_ f5_ hm
      exfalso; omega
    | succ n ih5 =>
      intro x5_3 bx5_3 x5_4 bx5_4 h5_ i5_ f5_ hm5
      refine mm_iload C (mm_dec dk_X4_lookAtTeam 4 rfl) rfl ?_
      refine mm_iconst C (mm_dec dk_X4_lookAtTeam 5 rfl) ⟨by decide, by decide⟩ ?_
      refine mm_icmp_ge (tgt := 66) C (mm_dec dk_X4_lookAtTeam 6 rfl) (by decide) (fun c8 => ?_) (fun c8 => ?_)
      · skip
        refine mm_aload_n C (mm_dec dk_X4_lookAtTeam 38 rfl) rfl ?_
        refine mm_iload_n C (mm_dec dk_X4_lookAtTeam 39 rfl) rfl ?_
        refine mm_aload_n C (mm_dec dk_X4_lookAtTeam 40 rfl) rfl ?_
        refine mm_geti C fl_X4_22 (mm_dec dk_X4_lookAtTeam 41 rfl) rfl rfl (Or.inl rfl) ?_
        have g1 : -2147483648 ≤ (h5_.1 46 7) ∧ (h5_.1 46 7) ≤ 2147483647 := i5_.1 46 7
        refine mm_iaddw C (mm_dec dk_X4_lookAtTeam 42 rfl) ?_
        have g2 : -2147483648 ≤ (mm_w (x5_3 + (h5_.1 46 7))) ∧ (mm_w (x5_3 + (h5_.1 46 7))) < 2147483648 := mm_w_rg _
        refine mm_puti C fl_X4_35 (mm_dec dk_X4_lookAtTeam 43 rfl) rfl rfl rfl (Or.inl ⟨rfl, rfl⟩) ?_
        have i1 : mm_inv (mm_pf h5_ 46 11 (mm_w (x5_3 + (h5_.1 46 7)))) := mm_inv_pf i5_ (show -2147483648 ≤ (mm_w (x5_3 + (h5_.1 46 7))) ∧ (mm_w (x5_3 + (h5_.1 46 7))) ≤ 2147483647 from ⟨by omega, by omega⟩) (by decide)
        have f1 : mm_fr [(42, 4), (42, 5), (42, 6), (46, 5), (46, 6), (46, 7), (46, 8), (46, 9), (46, 10), (46, 11), (48, 8), (48, 9)] [45, 47, 49, 50, 51, 52, 53] h (mm_pf h5_ 46 11 (mm_w (x5_3 + (h5_.1 46 7)))) := mm_fr_pf f5_ (by decide)
        obtain ⟨h1, eh1⟩ : ∃ z, z = mm_pf h5_ 46 11 (mm_w (x5_3 + (h5_.1 46 7))) := ⟨_, rfl⟩
        rw [← eh1] at i1 f1 ⊢
        have qh1 : h1.1 46 11 = (mm_w (x5_3 + (h5_.1 46 7))) := by rw [eh1]; exact mm_pf_same _ _ _ _
        have qh1_3 : h1.1 46 7 = h5_.1 46 7 := by rw [eh1]; exact mm_pf_ne _ _ (by decide)
        refine mm_iconst C (mm_dec dk_X4_lookAtTeam 44 rfl) ⟨by decide, by decide⟩ ?_
        exact mm_zret C T (mm_dec dk_X4_lookAtTeam 45 rfl) (by decide : 0 ≤ 0) (by decide : 0 ≤ 0) (by omega) ⟨_, rfl, ⟨⟨by omega, by omega⟩, i1, f1⟩⟩
      · skip
        refine mm_aload_n C (mm_dec dk_X4_lookAtTeam 7 rfl) rfl ?_
        refine mm_aload_n C (mm_dec dk_X4_lookAtTeam 8 rfl) rfl ?_
        refine mm_getr (t := 22) C fl_X4_38 (mm_dec dk_X4_lookAtTeam 9 rfl) rfl rfl (mm_ref i5_ rfl) ?_
        refine mm_iload_n C (mm_dec dk_X4_lookAtTeam 10 rfl) rfl ?_
        refine mm_iload C (mm_dec dk_X4_lookAtTeam 11 rfl) rfl ?_
        refine mm_cVi (rest := [mR 46]) C1 ev_X4_122 (mm_dec dk_X4_lookAtTeam 12 rfl) (c_X9_member x.2.1 hl (d - 1) (by omega) h5_ i5_ p1 x5_4 ⟨by omega, by omega⟩ ⟨by omega, by omega⟩) rfl rfl (Nat.le_of_ble_eq_true rfl) ⟨by decide, by decide⟩ rfl (fun r19 h19c hp19 => ?_) (fun _ _ q => q.elim)
        obtain ⟨z19, y19⟩ := hp19
        rw [z19, y19]
        have g5 : 0 ≤ (h5_.2.1 29 ((p1 * 3) + x5_4)) ∧ (h5_.2.1 29 ((p1 * 3) + x5_4)) ≤ 39 := i5_.2.1 29 ((p1 * 3) + x5_4)
        refine mm_iload_n C (mm_dec dk_X4_lookAtTeam 13 rfl) rfl ?_
        refine mm_cVv (rest := []) C1 ev_X4_109 (mm_dec dk_X4_lookAtTeam 14 rfl) (c_X4_look x.2.1 hl (d - 1) (by omega) h5_ i5_ (h5_.2.1 29 ((p1 * 3) + x5_4)) p2 ⟨by omega, by omega⟩) rfl rfl (Nat.le_of_ble_eq_true rfl) ⟨by decide, by decide⟩ rfl (fun h23c hp23 => ?_) (fun _ _ q => q.elim)
        obtain ⟨i23c, g23c⟩ := hp23
        have f23c : mm_fr [(42, 4), (42, 5), (42, 6), (46, 5), (46, 6), (46, 7), (46, 8), (46, 9), (46, 10), (46, 11), (48, 8), (48, 9)] [45, 47, 49, 50, 51, 52, 53] h h23c := mm_fr_tr f5_ g23c (by decide +kernel)
        refine mm_aload_n C (mm_dec dk_X4_lookAtTeam 15 rfl) rfl ?_
        refine mm_geti C fl_X4_15 (mm_dec dk_X4_lookAtTeam 16 rfl) rfl rfl (Or.inl rfl) ?_
        have g7 : -2147483648 ≤ (h23c.1 46 5) ∧ (h23c.1 46 5) ≤ 2147483647 := i23c.1 46 5
        refine mm_iconst C (mm_dec dk_X4_lookAtTeam 17 rfl) ⟨by decide, by decide⟩ ?_
        refine mm_icmp_eq (tgt := 36) C (mm_dec dk_X4_lookAtTeam 18 rfl) (by decide) (fun c31 => ?_) (fun c31 => ?_)
        · skip
          refine mm_iload_n C (mm_dec dk_X4_lookAtTeam 21 rfl) rfl ?_
          refine mm_aload_n C (mm_dec dk_X4_lookAtTeam 22 rfl) rfl ?_
          refine mm_geti C fl_X4_25 (mm_dec dk_X4_lookAtTeam 23 rfl) rfl rfl (Or.inl rfl) ?_
          have g8 : -2147483648 ≤ (h23c.1 46 8) ∧ (h23c.1 46 8) ≤ 2147483647 := i23c.1 46 8
          refine mm_aload_n C (mm_dec dk_X4_lookAtTeam 24 rfl) rfl ?_
          refine mm_geti C fl_X4_28 (mm_dec dk_X4_lookAtTeam 25 rfl) rfl rfl (Or.inl rfl) ?_
          have g9 : -2147483648 ≤ (h23c.1 46 9) ∧ (h23c.1 46 9) ≤ 2147483647 := i23c.1 46 9
          refine mm_iaddw C (mm_dec dk_X4_lookAtTeam 26 rfl) ?_
          have g10 : -2147483648 ≤ (mm_w ((h23c.1 46 8) + (h23c.1 46 9))) ∧ (mm_w ((h23c.1 46 8) + (h23c.1 46 9))) < 2147483648 := mm_w_rg _
          refine mm_iaddw C (mm_dec dk_X4_lookAtTeam 27 rfl) ?_
          have g11 : -2147483648 ≤ (mm_w (x5_3 + (mm_w ((h23c.1 46 8) + (h23c.1 46 9))))) ∧ (mm_w (x5_3 + (mm_w ((h23c.1 46 8) + (h23c.1 46 9))))) < 2147483648 := mm_w_rg _
          refine mm_istore_nL (ls2 := [mR 46, mI p1, mI p2, mI (mm_w (x5_3 + (mm_w ((h23c.1 46 8) + (h23c.1 46 9))))), mI x5_4]) C (mm_dec dk_X4_lookAtTeam 28 rfl) (by decide) rfl ?_
          refine mm_iload C (mm_dec dk_X4_lookAtTeam 29 rfl) rfl ?_
          have J60 : ∀ (x60_3 : Int) (bx60_3 : -2147483648 ≤ x60_3 ∧ x60_3 ≤ 2147483647), mm_W x 0 0 60 [mR 46, mI p1, mI p2, mI x60_3, mI x5_4] [] h23c := by
            intro x60_3 bx60_3
            refine mm_iincL (ls2 := [mR 46, mI p1, mI p2, mI x60_3, mI (x5_4 + 1)]) C (mm_dec dk_X4_lookAtTeam 36 rfl) rfl (by decide) ⟨by omega, by omega⟩ rfl ?_
            refine mm_goto (tgt := 5) C (mm_dec dk_X4_lookAtTeam 37 rfl) (by decide) ?_
            exact ih5 x60_3 ⟨by omega, by omega⟩ (x5_4 + 1) ⟨by omega, by omega⟩ h23c i23c f23c (by omega)
          refine mm_if_ne (tgt := 60) C (mm_dec dk_X4_lookAtTeam 30 rfl) (by decide) (fun c50 => ?_) (fun c50 => ?_)
          · skip
            exact J60 (mm_w (x5_3 + (mm_w ((h23c.1 46 8) + (h23c.1 46 9))))) ⟨by omega, by omega⟩
          · skip
            refine mm_iload_n C (mm_dec dk_X4_lookAtTeam 31 rfl) rfl ?_
            refine mm_aload_n C (mm_dec dk_X4_lookAtTeam 32 rfl) rfl ?_
            refine mm_geti C fl_X4_19 (mm_dec dk_X4_lookAtTeam 33 rfl) rfl rfl (Or.inl rfl) ?_
            have g12 : -2147483648 ≤ (h23c.1 46 6) ∧ (h23c.1 46 6) ≤ 2147483647 := i23c.1 46 6
            refine mm_isubw C (mm_dec dk_X4_lookAtTeam 34 rfl) ?_
            have g13 : -2147483648 ≤ (mm_w ((mm_w (x5_3 + (mm_w ((h23c.1 46 8) + (h23c.1 46 9))))) - (h23c.1 46 6))) ∧ (mm_w ((mm_w (x5_3 + (mm_w ((h23c.1 46 8) + (h23c.1 46 9))))) - (h23c.1 46 6))) < 2147483648 := mm_w_rg _
            refine mm_istore_nL (ls2 := [mR 46, mI p1, mI p2, mI (mm_w ((mm_w (x5_3 + (mm_w ((h23c.1 46 8) + (h23c.1 46 9))))) - (h23c.1 46 6))), mI x5_4]) C (mm_dec dk_X4_lookAtTeam 35 rfl) (by decide) rfl ?_
            exact J60 (mm_w ((mm_w (x5_3 + (mm_w ((h23c.1 46 8) + (h23c.1 46 9))))) - (h23c.1 46 6))) ⟨by omega, by omega⟩
        · skip
          refine mm_iconst C (mm_dec dk_X4_lookAtTeam 19 rfl) ⟨by decide, by decide⟩ ?_
          exact mm_zret C T (mm_dec dk_X4_lookAtTeam 20 rfl) (by decide : 0 ≤ 0) (by decide : 0 ≤ 0) (by omega) ⟨_, rfl, ⟨⟨by omega, by omega⟩, i23c, f23c⟩⟩
  refine mm_istoreL (ls2 := [mR 46, mI p1, mI p2, mI 0, mI 0]) C (mm_dec dk_X4_lookAtTeam 3 rfl) (by decide) rfl ?_
  exact J5 (((3 - 0) : Int) + 1).toNat 0 ⟨by omega, by omega⟩ 0 ⟨by omega, by omega⟩ h i0 f0 (by omega)
set_option maxRecDepth 100000 in
set_option maxHeartbeats 4000000 in
theorem c_X4_placeOfTeam (l : Launch) (hl : l.stackTraces = false) (d : Nat) (hd : 5 ≤ d) (h : mH) (i0 : mm_inv h) (p1 : Int) (p2 : Int) (bp1 : 0 ≤ p1 ∧ p1 ≤ 9) : mm_Met l d yX4_placeOfTeam cX4_placeOfTeam 6 (some .int) [mR 46, mI p1, mI p2] h (mm_pi fun r h2 => (-2147483648 ≤ r ∧ r ≤ 2147483647) ∧ mm_inv h2 ∧ mm_fr [(42, 4), (42, 5), (42, 6), (46, 5), (46, 6), (46, 7), (46, 8), (46, 9), (46, 10), (46, 11), (48, 8), (48, 9)] [45, 47, 49, 50, 51, 52, 53] h h2) mm_nx 0 0 := by
  refine mm_ofW (ls := [mR 46, mI p1, mI p2, mU, mU, mU]) hl (by decide) rfl (Nat.le_of_ble_eq_true rfl) ?_
  intro x hxl C T hnm htb
  subst hxl
  have C1 := mm_OK_le (d' := d - 1 + 1) (by omega) C
  refine mm_rng (fun hr _ => ?_)
  have ap1 : -2147483648 ≤ p1 ∧ p1 < 2147483648 := mm_ok_at hr (i := 1) rfl
  have ap2 : -2147483648 ≤ p2 ∧ p2 < 2147483648 := mm_ok_at hr (i := 2) rfl
  have f0 : mm_fr [(42, 4), (42, 5), (42, 6), (46, 5), (46, 6), (46, 7), (46, 8), (46, 9), (46, 10), (46, 11), (48, 8), (48, 9)] [45, 47, 49, 50, 51, 52, 53] h h := mm_fr_rf
  refine mm_aload_n C (mm_dec dk_X4_placeOfTeam 0 rfl) rfl ?_
  refine mm_iload_n C (mm_dec dk_X4_placeOfTeam 1 rfl) rfl ?_
  refine mm_iload_n C (mm_dec dk_X4_placeOfTeam 2 rfl) rfl ?_
  refine mm_cVi (rest := []) C1 ev_X4_125 (mm_dec dk_X4_placeOfTeam 3 rfl) (c_X4_lookAtTeam x.2.1 hl (d - 1) (by omega) h i0 p1 p2 ⟨by omega, by omega⟩) rfl rfl (Nat.le_of_ble_eq_true rfl) ⟨by decide, by decide⟩ rfl (fun r3 h3c hp3 => ?_) (fun _ _ q => q.elim)
  obtain ⟨b3, i3c, g3c⟩ := hp3
  have f3c : mm_fr [(42, 4), (42, 5), (42, 6), (46, 5), (46, 6), (46, 7), (46, 8), (46, 9), (46, 10), (46, 11), (48, 8), (48, 9)] [45, 47, 49, 50, 51, 52, 53] h h3c := mm_fr_tr f0 g3c (by decide +kernel)
  refine mm_if_ne (tgt := 11) C (mm_dec dk_X4_placeOfTeam 4 rfl) (by decide) (fun c6 => ?_) (fun c6 => ?_)
  · skip
    refine mm_aload_n C (mm_dec dk_X4_placeOfTeam 7 rfl) rfl ?_
    refine mm_geti C fl_X4_35 (mm_dec dk_X4_placeOfTeam 8 rfl) rfl rfl (Or.inl rfl) ?_
    have g2 : -2147483648 ≤ (h3c.1 46 11) ∧ (h3c.1 46 11) ≤ 2147483647 := i3c.1 46 11
    refine mm_istore_nL (ls2 := [mR 46, mI p1, mI p2, mI (h3c.1 46 11), mU, mU]) C (mm_dec dk_X4_placeOfTeam 9 rfl) (by decide) rfl ?_
    refine mm_iconst C (mm_dec dk_X4_placeOfTeam 10 rfl) ⟨by decide, by decide⟩ ?_
    refine mm_istoreL (ls2 := [mR 46, mI p1, mI p2, mI (h3c.1 46 11), mI 1, mU]) C (mm_dec dk_X4_placeOfTeam 11 rfl) (by decide) rfl ?_
    refine mm_iconst C (mm_dec dk_X4_placeOfTeam 12 rfl) ⟨by decide, by decide⟩ ?_
    have J22 : ∀ (n : Nat) (x22_4 : Int) (bx22_4 : -2147483648 ≤ x22_4 ∧ x22_4 ≤ 2147483647) (x22_5 : Int) (bx22_5 : 0 ≤ x22_5 ∧ x22_5 ≤ 10) (h22_ : mH) (i22_ : mm_inv h22_) (f22_ : mm_fr [(42, 4), (42, 5), (42, 6), (46, 5), (46, 6), (46, 7), (46, 8), (46, 9), (46, 10), (46, 11), (48, 8), (48, 9)] [45, 47, 49, 50, 51, 52, 53] h h22_), (10 - x22_5 : Int) < n → mm_W x 0 0 22 [mR 46, mI p1, mI p2, mI (h3c.1 46 11), mI x22_4, mI x22_5] [] h22_ := by
      intro n
      induction n with
      | zero =>
        intro x22_4 bx22_4 x22_5 bx22_5 h22_ i22_ f22_ hm
        exfalso; omega
      | succ n ih22 =>
        intro x22_4 bx22_4 x22_5 bx22_5 h22_ i22_ f22_ hm22
        refine mm_iload C (mm_dec dk_X4_placeOfTeam 14 rfl) rfl ?_
        refine mm_aload_n C (mm_dec dk_X4_placeOfTeam 15 rfl) rfl ?_
        refine mm_getr (t := 22) C fl_X4_38 (mm_dec dk_X4_placeOfTeam 16 rfl) rfl rfl (mm_ref i22_ rfl) ?_
        refine mm_cVi (rest := [mI x22_5]) C1 ev_X4_128 (mm_dec dk_X4_placeOfTeam 17 rfl) (c_X9_teams x.2.1 hl (d - 1) (by omega) h22_ i22_ ) rfl rfl (Nat.le_of_ble_eq_true rfl) ⟨by decide, by decide⟩ rfl (fun r28 h28c hp28 => ?_) (fun _ _ q => q.elim)
        obtain ⟨z28, y28⟩ := hp28
        rw [z28, y28]
        have g4 : 0 ≤ (h22_.1 22 9) ∧ (h22_.1 22 9) ≤ 10 := i22_.1 22 9
        refine mm_icmp_ge (tgt := 87) C (mm_dec dk_X4_placeOfTeam 18 rfl) (by decide) (fun c31 => ?_) (fun c31 => ?_)
        · skip
          refine mm_iload C (mm_dec dk_X4_placeOfTeam 43 rfl) rfl ?_
          exact mm_iret C T (mm_dec dk_X4_placeOfTeam 44 rfl) (by decide : 0 ≤ 0) (by decide : 0 ≤ 0) ⟨_, rfl, ⟨⟨by omega, by omega⟩, i22_, f22_⟩⟩
        · skip
          refine mm_iload C (mm_dec dk_X4_placeOfTeam 19 rfl) rfl ?_
          refine mm_iload_n C (mm_dec dk_X4_placeOfTeam 20 rfl) rfl ?_
          have J81 : ∀ (x81_4 : Int) (bx81_4 : -2147483648 ≤ x81_4 ∧ x81_4 ≤ 2147483647) (h81_ : mH) (i81_ : mm_inv h81_) (f81_ : mm_fr [(42, 4), (42, 5), (42, 6), (46, 5), (46, 6), (46, 7), (46, 8), (46, 9), (46, 10), (46, 11), (48, 8), (48, 9)] [45, 47, 49, 50, 51, 52, 53] h h81_), mm_W x 0 0 81 [mR 46, mI p1, mI p2, mI (h3c.1 46 11), mI x81_4, mI x22_5] [] h81_ := by
            intro x81_4 bx81_4 h81_ i81_ f81_
            refine mm_iincL (ls2 := [mR 46, mI p1, mI p2, mI (h3c.1 46 11), mI x81_4, mI (x22_5 + 1)]) C (mm_dec dk_X4_placeOfTeam 41 rfl) rfl (by decide) ⟨by omega, by omega⟩ rfl ?_
            refine mm_goto (tgt := 22) C (mm_dec dk_X4_placeOfTeam 42 rfl) (by decide) ?_
            exact ih22 x81_4 ⟨by omega, by omega⟩ (x22_5 + 1) ⟨by omega, by omega⟩ h81_ i81_ f81_ (by omega)
          refine mm_icmp_eq (tgt := 81) C (mm_dec dk_X4_placeOfTeam 21 rfl) (by decide) (fun c37 => ?_) (fun c37 => ?_)
          · skip
            exact J81 x22_4 ⟨by omega, by omega⟩ h22_ i22_ f22_
          · skip
            refine mm_aload_n C (mm_dec dk_X4_placeOfTeam 22 rfl) rfl ?_
            refine mm_getr (t := 22) C fl_X4_38 (mm_dec dk_X4_placeOfTeam 23 rfl) rfl rfl (mm_ref i22_ rfl) ?_
            refine mm_iload C (mm_dec dk_X4_placeOfTeam 24 rfl) rfl ?_
            refine mm_cVi (rest := []) C1 ev_X4_131 (mm_dec dk_X4_placeOfTeam 25 rfl) (c_X9_courseOfTeam x.2.1 hl (d - 1) (by omega) h22_ i22_ x22_5 ⟨by omega, by omega⟩) rfl rfl (Nat.le_of_ble_eq_true rfl) ⟨by decide, by decide⟩ rfl (fun r46 h46c hp46 => ?_) (fun _ _ q => q.elim)
            obtain ⟨z46, y46⟩ := hp46
            rw [z46, y46]
            have g6 : 0 ≤ (h22_.2.1 23 (h22_.2.1 29 ((x22_5 * 3) + 0))) ∧ (h22_.2.1 23 (h22_.2.1 29 ((x22_5 * 3) + 0))) ≤ 7 := i22_.2.1 23 (h22_.2.1 29 ((x22_5 * 3) + 0))
            have g7 : 0 ≤ (h22_.2.1 29 ((x22_5 * 3) + 0)) ∧ (h22_.2.1 29 ((x22_5 * 3) + 0)) ≤ 39 := i22_.2.1 29 ((x22_5 * 3) + 0)
            refine mm_aload_n C (mm_dec dk_X4_placeOfTeam 26 rfl) rfl ?_
            refine mm_getr (t := 22) C fl_X4_38 (mm_dec dk_X4_placeOfTeam 27 rfl) rfl rfl (mm_ref i22_ rfl) ?_
            refine mm_iload_n C (mm_dec dk_X4_placeOfTeam 28 rfl) rfl ?_
            refine mm_cVi (rest := [mI (h22_.2.1 23 (h22_.2.1 29 ((x22_5 * 3) + 0)))]) C1 ev_X4_131 (mm_dec dk_X4_placeOfTeam 29 rfl) (c_X9_courseOfTeam x.2.1 hl (d - 1) (by omega) h22_ i22_ p1 ⟨by omega, by omega⟩) rfl rfl (Nat.le_of_ble_eq_true rfl) ⟨by decide, by decide⟩ rfl (fun r54 h54c hp54 => ?_) (fun _ _ q => q.elim)
            obtain ⟨z54, y54⟩ := hp54
            rw [z54, y54]
            have g9 : 0 ≤ (h22_.2.1 23 (h22_.2.1 29 ((p1 * 3) + 0))) ∧ (h22_.2.1 23 (h22_.2.1 29 ((p1 * 3) + 0))) ≤ 7 := i22_.2.1 23 (h22_.2.1 29 ((p1 * 3) + 0))
            have g10 : 0 ≤ (h22_.2.1 29 ((p1 * 3) + 0)) ∧ (h22_.2.1 29 ((p1 * 3) + 0)) ≤ 39 := i22_.2.1 29 ((p1 * 3) + 0)
            refine mm_icmp_ne (tgt := 81) C (mm_dec dk_X4_placeOfTeam 30 rfl) (by decide) (fun c57 => ?_) (fun c57 => ?_)
            · skip
              exact J81 x22_4 ⟨by omega, by omega⟩ h22_ i22_ f22_
            · skip
              refine mm_aload_n C (mm_dec dk_X4_placeOfTeam 31 rfl) rfl ?_
              refine mm_iload C (mm_dec dk_X4_placeOfTeam 32 rfl) rfl ?_
              refine mm_iload_n C (mm_dec dk_X4_placeOfTeam 33 rfl) rfl ?_
              refine mm_cVi (rest := []) C1 ev_X4_125 (mm_dec dk_X4_placeOfTeam 34 rfl) (c_X4_lookAtTeam x.2.1 hl (d - 1) (by omega) h22_ i22_ x22_5 p2 ⟨by omega, by omega⟩) rfl rfl (Nat.le_of_ble_eq_true rfl) ⟨by decide, by decide⟩ rfl (fun r64 h64c hp64 => ?_) (fun _ _ q => q.elim)
              obtain ⟨b64, i64c, g64c⟩ := hp64
              have f64c : mm_fr [(42, 4), (42, 5), (42, 6), (46, 5), (46, 6), (46, 7), (46, 8), (46, 9), (46, 10), (46, 11), (48, 8), (48, 9)] [45, 47, 49, 50, 51, 52, 53] h h64c := mm_fr_tr f22_ g64c (by decide +kernel)
              have q64c_12 : h64c.1 22 9 = h22_.1 22 9 := g64c.1 22 9 (by decide)
              refine mm_if_eq (tgt := 81) C (mm_dec dk_X4_placeOfTeam 35 rfl) (by decide) (fun c67 => ?_) (fun c67 => ?_)
              · skip
                exact J81 x22_4 ⟨by omega, by omega⟩ h64c i64c f64c
              · skip
                refine mm_aload_n C (mm_dec dk_X4_placeOfTeam 36 rfl) rfl ?_
                refine mm_geti C fl_X4_35 (mm_dec dk_X4_placeOfTeam 37 rfl) rfl rfl (Or.inl rfl) ?_
                have g13 : -2147483648 ≤ (h64c.1 46 11) ∧ (h64c.1 46 11) ≤ 2147483647 := i64c.1 46 11
                refine mm_iload_n C (mm_dec dk_X4_placeOfTeam 38 rfl) rfl ?_
                refine mm_icmp_ge (tgt := 81) C (mm_dec dk_X4_placeOfTeam 39 rfl) (by decide) (fun c75 => ?_) (fun c75 => ?_)
                · skip
                  exact J81 x22_4 ⟨by omega, by omega⟩ h64c i64c f64c
                · skip
                  refine mm_iincwL (ls2 := [mR 46, mI p1, mI p2, mI (h3c.1 46 11), mI (mm_w (x22_4 + 1)), mI x22_5]) C (mm_dec dk_X4_placeOfTeam 40 rfl) rfl (by decide) rfl ?_
                  have g14 : -2147483648 ≤ (mm_w (x22_4 + 1)) ∧ (mm_w (x22_4 + 1)) < 2147483648 := mm_w_rg _
                  exact J81 (mm_w (x22_4 + 1)) ⟨by omega, by omega⟩ h64c i64c f64c
    refine mm_istoreL (ls2 := [mR 46, mI p1, mI p2, mI (h3c.1 46 11), mI 1, mI 0]) C (mm_dec dk_X4_placeOfTeam 13 rfl) (by decide) rfl ?_
    exact J22 (((10 - 0) : Int) + 1).toNat 1 ⟨by omega, by omega⟩ 0 ⟨by omega, by omega⟩ h3c i3c f3c (by omega)
  · skip
    refine mm_iconst C (mm_dec dk_X4_placeOfTeam 5 rfl) ⟨by decide, by decide⟩ ?_
    exact mm_iret C T (mm_dec dk_X4_placeOfTeam 6 rfl) (by decide : 0 ≤ 0) (by decide : 0 ≤ 0) ⟨_, rfl, ⟨⟨by omega, by omega⟩, i3c, f3c⟩⟩
set_option maxRecDepth 100000 in
set_option maxHeartbeats 4000000 in
theorem c_X11_judged (l : Launch) (hl : l.stackTraces = false) (d : Nat) (hd : 9 ≤ d) (h : mH) (i0 : mm_inv h) (p1 : Int) (p2 : Int) (p3 : Int) : mm_Met l d yX11_judged cX11_judged 4 (some .int) [mR 0, mI p1, mI p2, mI p3] h (mm_pi fun r h2 => (-2147483648 ≤ r ∧ r ≤ 2147483647) ∧ mm_inv h2 ∧ mm_fr [(42, 4), (42, 5), (42, 6), (46, 5), (46, 6), (46, 7), (46, 8), (46, 9), (46, 10), (48, 8), (48, 9)] [45, 47, 49, 50, 51, 52, 53] h h2) (mm_xp h) 2 12 := by
  refine mm_ofW (ls := [mR 0, mI p1, mI p2, mI p3]) hl (by decide) rfl (Nat.le_of_ble_eq_true rfl) ?_
  intro x hxl C T hnm htb
  subst hxl
  have C1 := mm_OK_le (d' := d - 1 + 1) (by omega) C
  have C8 := mm_OK_le (d' := d - 8 + 8) (by omega) C
  refine mm_rng (fun hr _ => ?_)
  have ap1 : -2147483648 ≤ p1 ∧ p1 < 2147483648 := mm_ok_at hr (i := 1) rfl
  have ap2 : -2147483648 ≤ p2 ∧ p2 < 2147483648 := mm_ok_at hr (i := 2) rfl
  have ap3 : -2147483648 ≤ p3 ∧ p3 < 2147483648 := mm_ok_at hr (i := 3) rfl
  have f0 : mm_fr [(42, 4), (42, 5), (42, 6), (46, 5), (46, 6), (46, 7), (46, 8), (46, 9), (46, 10), (48, 8), (48, 9)] [45, 47, 49, 50, 51, 52, 53] h h := mm_fr_rf
  refine mm_aload_n C (mm_dec dk_X11_judged 0 rfl) rfl ?_
  refine mm_iload_n C (mm_dec dk_X11_judged 1 rfl) rfl ?_
  refine mm_cVv (rest := []) C1 ev_X11_235 (mm_dec dk_X11_judged 2 rfl) (c_X11_needRunner x.2.1 hl (d - 1) (by omega) h i0 p1) rfl rfl (Nat.le_of_ble_eq_true rfl) ⟨by decide, by decide⟩ rfl (fun h2c hp2 => ?_) (fun E hx q => mm_out C T htb (by decide) (by decide) (by rcases q with ⟨q1, q2⟩ | ⟨q1, q2⟩ <;> first | exact Or.inl ⟨q1, q2⟩ | exact Or.inr ⟨q1, q2⟩))
  obtain ⟨z2, k2_0, k2_1⟩ := hp2
  rw [z2]
  have g2 : 0 ≤ (h.1 22 8) ∧ (h.1 22 8) ≤ 40 := i0.1 22 8
  refine mm_iload_n C (mm_dec dk_X11_judged 3 rfl) rfl ?_
  refine mm_iconst C (mm_dec dk_X11_judged 4 rfl) ⟨by decide, by decide⟩ ?_
  refine mm_bipush C (mm_dec dk_X11_judged 5 rfl) ⟨by decide, by decide⟩ ?_
  refine mm_cSi (rest := []) C1 es_X11_130 (mm_dec dk_X11_judged 6 rfl) (c_X11_within x.2.1 hl (d - 1) (by omega) h i0 p2 0 8) rfl (Nat.le_of_ble_eq_true rfl) ⟨by decide, by decide⟩ rfl (fun r9 h9c hp9 => ?_) (fun _ _ q => q.elim)
  obtain ⟨z9, y9⟩ := hp9
  rw [z9]
  refine mm_if_ne (tgt := 26) C (mm_dec dk_X11_judged 7 rfl) (by decide) (fun c12 => ?_) (fun c12 => ?_)
  · skip
    refine mm_aload_n C (mm_dec dk_X11_judged 13 rfl) rfl ?_
    refine mm_iload_n C (mm_dec dk_X11_judged 14 rfl) rfl ?_
    refine mm_cVv (rest := []) C1 ev_X11_282 (mm_dec dk_X11_judged 15 rfl) (c_X11_needSecond x.2.1 hl (d - 1) (by omega) h i0 p3) rfl rfl (Nat.le_of_ble_eq_true rfl) ⟨by decide, by decide⟩ rfl (fun h28c hp28 => ?_) (fun E hx q => mm_out C T htb (by decide) (by decide) (by rcases q with ⟨q1, q2⟩ | ⟨q1, q2⟩ <;> first | exact Or.inl ⟨q1, q2⟩ | exact Or.inr ⟨q1, q2⟩))
    obtain ⟨z28, k28_0, k28_1⟩ := hp28
    rw [z28]
    have g5 : 0 ≤ (h.1 0 13) ∧ (h.1 0 13) ≤ 99999 := i0.1 0 13
    refine mm_iload_n C (mm_dec dk_X11_judged 16 rfl) rfl ?_
    refine mm_bipush C (mm_dec dk_X11_judged 17 rfl) ⟨by decide, by decide⟩ ?_
    refine mm_icmp_ne (tgt := 47) C (mm_dec dk_X11_judged 18 rfl) (by decide) (fun c34 => ?_) (fun c34 => ?_)
    · skip
      refine mm_aload_n C (mm_dec dk_X11_judged 25 rfl) rfl ?_
      refine mm_getr (t := 46) C fl_X11_60 (mm_dec dk_X11_judged 26 rfl) rfl rfl (mm_ref i0 rfl) ?_
      refine mm_iload_n C (mm_dec dk_X11_judged 27 rfl) rfl ?_
      refine mm_iload_n C (mm_dec dk_X11_judged 28 rfl) rfl ?_
      refine mm_cVv (rest := []) C1 ev_X11_288 (mm_dec dk_X11_judged 29 rfl) (c_X4_look x.2.1 hl (d - 1) (by omega) h i0 p1 p3 ⟨by omega, by omega⟩) rfl rfl (Nat.le_of_ble_eq_true rfl) ⟨by decide, by decide⟩ rfl (fun h53c hp53 => ?_) (fun _ _ q => q.elim)
      obtain ⟨i53c, g53c⟩ := hp53
      have f53c : mm_fr [(42, 4), (42, 5), (42, 6), (46, 5), (46, 6), (46, 7), (46, 8), (46, 9), (46, 10), (48, 8), (48, 9)] [45, 47, 49, 50, 51, 52, 53] h h53c := mm_fr_tr f0 g53c (by decide +kernel)
      have q53c_7 : h53c.1 0 13 = h.1 0 13 := g53c.1 0 13 (by decide)
      have q53c_8 : h53c.1 22 8 = h.1 22 8 := g53c.1 22 8 (by decide)
      refine mm_aload_n C (mm_dec dk_X11_judged 30 rfl) rfl ?_
      refine mm_getr (t := 46) C fl_X11_60 (mm_dec dk_X11_judged 31 rfl) rfl rfl (mm_ref i53c rfl) ?_
      refine mm_iload_n C (mm_dec dk_X11_judged 32 rfl) rfl ?_
      refine mm_cVi (rest := []) C1 ev_X11_291 (mm_dec dk_X11_judged 33 rfl) (c_X4_answer x.2.1 hl (d - 1) (by omega) h53c i53c p2) rfl rfl (Nat.le_of_ble_eq_true rfl) ⟨by decide, by decide⟩ rfl (fun r61 h61c hp61 => ?_) (fun _ _ q => q.elim)
      obtain ⟨z61, y61⟩ := hp61
      rw [z61]
      have g10 : -2147483648 ≤ (h53c.1 46 10) ∧ (h53c.1 46 10) ≤ 2147483647 := i53c.1 46 10
      have g11 : -2147483648 ≤ (h53c.1 46 5) ∧ (h53c.1 46 5) ≤ 2147483647 := i53c.1 46 5
      have g12 : -2147483648 ≤ (h53c.1 46 6) ∧ (h53c.1 46 6) ≤ 2147483647 := i53c.1 46 6
      have g13 : -2147483648 ≤ (h53c.1 46 7) ∧ (h53c.1 46 7) ≤ 2147483647 := i53c.1 46 7
      have g14 : -2147483648 ≤ (h53c.2.1 47 0) ∧ (h53c.2.1 47 0) ≤ 2147483647 := i53c.2.1 47 0
      have g15 : -2147483648 ≤ (h53c.2.1 47 1) ∧ (h53c.2.1 47 1) ≤ 2147483647 := i53c.2.1 47 1
      have g16 : -2147483648 ≤ (h53c.2.1 47 3) ∧ (h53c.2.1 47 3) ≤ 2147483647 := i53c.2.1 47 3
      have g17 : -2147483648 ≤ (h53c.1 46 8) ∧ (h53c.1 46 8) ≤ 2147483647 := i53c.1 46 8
      exact mm_iret C T (mm_dec dk_X11_judged 34 rfl) (by decide : 2 ≤ 2) (by decide : 12 ≤ 12) ⟨_, rfl, ⟨⟨by omega, by omega⟩, i53c, f53c⟩⟩
    · skip
      refine mm_aload_n C (mm_dec dk_X11_judged 19 rfl) rfl ?_
      refine mm_getr (t := 46) C fl_X11_60 (mm_dec dk_X11_judged 20 rfl) rfl rfl (mm_ref i0 rfl) ?_
      refine mm_iload_n C (mm_dec dk_X11_judged 21 rfl) rfl ?_
      refine mm_iload_n C (mm_dec dk_X11_judged 22 rfl) rfl ?_
      refine mm_cVi (rest := []) C1 ev_X11_285 (mm_dec dk_X11_judged 23 rfl) (c_X4_placeOf x.2.1 hl (d - 1) (by omega) h i0 p1 p3 ⟨by omega, by omega⟩) rfl rfl (Nat.le_of_ble_eq_true rfl) ⟨by decide, by decide⟩ rfl (fun r43 h43c hp43 => ?_) (fun _ _ q => q.elim)
      obtain ⟨b43, i43c, g43c⟩ := hp43
      have f43c : mm_fr [(42, 4), (42, 5), (42, 6), (46, 5), (46, 6), (46, 7), (46, 8), (46, 9), (46, 10), (48, 8), (48, 9)] [45, 47, 49, 50, 51, 52, 53] h h43c := mm_fr_tr f0 g43c (by decide +kernel)
      have q43c_19 : h43c.1 0 13 = h.1 0 13 := g43c.1 0 13 (by decide)
      have q43c_20 : h43c.1 22 8 = h.1 22 8 := g43c.1 22 8 (by decide)
      exact mm_iret C T (mm_dec dk_X11_judged 24 rfl) (by decide : 2 ≤ 2) (by decide : 12 ≤ 12) ⟨_, rfl, ⟨⟨by omega, by omega⟩, i43c, f43c⟩⟩
  · skip
    exact mm_throwXW C8 T htb th_nse (i := 11) rfl (mm_dec dk_X11_judged 8 rfl) (mm_dec dk_X11_judged 9 rfl) (mm_dec dk_X11_judged 10 rfl) (mm_dec dk_X11_judged 11 rfl) (mm_dec dk_X11_judged 12 rfl) (Nat.le_of_ble_eq_true rfl) ⟨by decide, by decide⟩ ⟨by decide, by decide⟩ (Or.inl ⟨rfl, rfl⟩)
set_option maxRecDepth 100000 in
set_option maxHeartbeats 4000000 in
theorem c_X11_ofTeam (l : Launch) (hl : l.stackTraces = false) (d : Nat) (hd : 9 ≤ d) (h : mH) (i0 : mm_inv h) (p1 : Int) (p2 : Int) (p3 : Int) : mm_Met l d yX11_ofTeam cX11_ofTeam 4 (some .int) [mR 0, mI p1, mI p2, mI p3] h (mm_pi fun r h2 => (-2147483648 ≤ r ∧ r ≤ 2147483647) ∧ mm_inv h2 ∧ mm_fr [(42, 4), (42, 5), (42, 6), (46, 5), (46, 6), (46, 7), (46, 8), (46, 9), (46, 10), (46, 11), (48, 8), (48, 9)] [45, 47, 49, 50, 51, 52, 53] h h2) (mm_xp h) 1 6 := by
  refine mm_ofW (ls := [mR 0, mI p1, mI p2, mI p3]) hl (by decide) rfl (Nat.le_of_ble_eq_true rfl) ?_
  intro x hxl C T hnm htb
  subst hxl
  have C1 := mm_OK_le (d' := d - 1 + 1) (by omega) C
  have C8 := mm_OK_le (d' := d - 8 + 8) (by omega) C
  refine mm_rng (fun hr _ => ?_)
  have ap1 : -2147483648 ≤ p1 ∧ p1 < 2147483648 := mm_ok_at hr (i := 1) rfl
  have ap2 : -2147483648 ≤ p2 ∧ p2 < 2147483648 := mm_ok_at hr (i := 2) rfl
  have ap3 : -2147483648 ≤ p3 ∧ p3 < 2147483648 := mm_ok_at hr (i := 3) rfl
  have f0 : mm_fr [(42, 4), (42, 5), (42, 6), (46, 5), (46, 6), (46, 7), (46, 8), (46, 9), (46, 10), (46, 11), (48, 8), (48, 9)] [45, 47, 49, 50, 51, 52, 53] h h := mm_fr_rf
  refine mm_iload_n C (mm_dec dk_X11_ofTeam 0 rfl) rfl ?_
  have J15 : mm_W x 0 0 15 [mU, mU, mU, mU] [] h := by
    exact mm_throwXW C8 T htb th_nse (i := 13) rfl (mm_dec dk_X11_ofTeam 7 rfl) (mm_dec dk_X11_ofTeam 8 rfl) (mm_dec dk_X11_ofTeam 9 rfl) (mm_dec dk_X11_ofTeam 10 rfl) (mm_dec dk_X11_ofTeam 11 rfl) (Nat.le_of_ble_eq_true rfl) ⟨by decide, by decide⟩ ⟨by decide, by decide⟩ (Or.inl ⟨rfl, rfl⟩)
  refine mm_if_lt (tgt := 15) C (mm_dec dk_X11_ofTeam 1 rfl) (by decide) (fun c1 => ?_) (fun c1 => ?_)
  · skip
    refine mm_fgt 0 ?_
    refine mm_fgt 1 ?_
    refine mm_fgt 2 ?_
    refine mm_fgt 3 ?_
    exact J15
  · skip
    refine mm_iload_n C (mm_dec dk_X11_ofTeam 2 rfl) rfl ?_
    refine mm_aload_n C (mm_dec dk_X11_ofTeam 3 rfl) rfl ?_
    refine mm_getr (t := 22) C fl_X11_37 (mm_dec dk_X11_ofTeam 4 rfl) rfl rfl (mm_ref i0 rfl) ?_
    refine mm_cVi (rest := [mI p1]) C1 ev_X11_251 (mm_dec dk_X11_ofTeam 5 rfl) (c_X9_teams x.2.1 hl (d - 1) (by omega) h i0 ) rfl rfl (Nat.le_of_ble_eq_true rfl) ⟨by decide, by decide⟩ rfl (fun r9 h9c hp9 => ?_) (fun _ _ q => q.elim)
    obtain ⟨z9, y9⟩ := hp9
    rw [z9, y9]
    have g2 : 0 ≤ (h.1 22 9) ∧ (h.1 22 9) ≤ 10 := i0.1 22 9
    refine mm_icmp_lt (tgt := 26) C (mm_dec dk_X11_ofTeam 6 rfl) (by decide) (fun c12 => ?_) (fun c12 => ?_)
    · skip
      refine mm_iload_n C (mm_dec dk_X11_ofTeam 12 rfl) rfl ?_
      refine mm_iconst C (mm_dec dk_X11_ofTeam 13 rfl) ⟨by decide, by decide⟩ ?_
      refine mm_iconst C (mm_dec dk_X11_ofTeam 14 rfl) ⟨by decide, by decide⟩ ?_
      refine mm_cSi (rest := []) C1 es_X11_130 (mm_dec dk_X11_ofTeam 15 rfl) (c_X11_within x.2.1 hl (d - 1) (by omega) h i0 p2 0 1) rfl (Nat.le_of_ble_eq_true rfl) ⟨by decide, by decide⟩ rfl (fun r29 h29c hp29 => ?_) (fun _ _ q => q.elim)
      obtain ⟨z29, y29⟩ := hp29
      rw [z29]
      refine mm_if_ne (tgt := 46) C (mm_dec dk_X11_ofTeam 16 rfl) (by decide) (fun c32 => ?_) (fun c32 => ?_)
      · skip
        refine mm_aload_n C (mm_dec dk_X11_ofTeam 22 rfl) rfl ?_
        refine mm_iload_n C (mm_dec dk_X11_ofTeam 23 rfl) rfl ?_
        refine mm_cVv (rest := []) C1 ev_X11_282 (mm_dec dk_X11_ofTeam 24 rfl) (c_X11_needSecond x.2.1 hl (d - 1) (by omega) h i0 p3) rfl rfl (Nat.le_of_ble_eq_true rfl) ⟨by decide, by decide⟩ rfl (fun h48c hp48 => ?_) (fun E hx q => mm_out C T htb (by decide) (by decide) (by rcases q with ⟨q1, q2⟩ | ⟨q1, q2⟩ <;> first | exact Or.inl ⟨q1, q2⟩ | exact Or.inr ⟨q1, q2⟩))
        obtain ⟨z48, k48_0, k48_1⟩ := hp48
        rw [z48]
        have g5 : 0 ≤ (h.1 0 13) ∧ (h.1 0 13) ≤ 99999 := i0.1 0 13
        refine mm_iload_n C (mm_dec dk_X11_ofTeam 25 rfl) rfl ?_
        refine mm_iconst C (mm_dec dk_X11_ofTeam 26 rfl) ⟨by decide, by decide⟩ ?_
        refine mm_icmp_ne (tgt := 66) C (mm_dec dk_X11_ofTeam 27 rfl) (by decide) (fun c53 => ?_) (fun c53 => ?_)
        · skip
          refine mm_aload_n C (mm_dec dk_X11_ofTeam 34 rfl) rfl ?_
          refine mm_getr (t := 46) C fl_X11_60 (mm_dec dk_X11_ofTeam 35 rfl) rfl rfl (mm_ref i0 rfl) ?_
          refine mm_iload_n C (mm_dec dk_X11_ofTeam 36 rfl) rfl ?_
          refine mm_iload_n C (mm_dec dk_X11_ofTeam 37 rfl) rfl ?_
          refine mm_cVi (rest := []) C1 ev_X11_302 (mm_dec dk_X11_ofTeam 38 rfl) (c_X4_lookAtTeam x.2.1 hl (d - 1) (by omega) h i0 p1 p3 ⟨by omega, by omega⟩) rfl rfl (Nat.le_of_ble_eq_true rfl) ⟨by decide, by decide⟩ rfl (fun r72 h72c hp72 => ?_) (fun _ _ q => q.elim)
          obtain ⟨b72, i72c, g72c⟩ := hp72
          have f72c : mm_fr [(42, 4), (42, 5), (42, 6), (46, 5), (46, 6), (46, 7), (46, 8), (46, 9), (46, 10), (46, 11), (48, 8), (48, 9)] [45, 47, 49, 50, 51, 52, 53] h h72c := mm_fr_tr f0 g72c (by decide +kernel)
          have q72c_7 : h72c.1 0 13 = h.1 0 13 := g72c.1 0 13 (by decide)
          have q72c_8 : h72c.1 22 9 = h.1 22 9 := g72c.1 22 9 (by decide)
          have J91 : ∀ (s91_0 : Int) (bs91_0 : -2147483648 ≤ s91_0 ∧ s91_0 ≤ 2147483647), mm_W x 1 6 91 [mU, mU, mU, mU] [mI s91_0] h72c := by
            intro s91_0 bs91_0
            exact mm_iret C T (mm_dec dk_X11_ofTeam 45 rfl) (by decide : 1 ≤ 1) (by decide : 6 ≤ 6) ⟨_, rfl, ⟨⟨by omega, by omega⟩, i72c, f72c⟩⟩
          refine mm_if_eq (tgt := 88) C (mm_dec dk_X11_ofTeam 39 rfl) (by decide) (fun c75 => ?_) (fun c75 => ?_)
          · skip
            refine mm_ldcw (z := -100000) C (mm_dec dk_X11_ofTeam 44 rfl) kc_X11_308 (by decide) ?_
            refine mm_fgt 0 ?_
            refine mm_fgt 1 ?_
            refine mm_fgt 2 ?_
            refine mm_fgt 3 ?_
            exact J91 (-100000) ⟨by omega, by omega⟩
          · skip
            refine mm_aload_n C (mm_dec dk_X11_ofTeam 40 rfl) rfl ?_
            refine mm_getr (t := 46) C fl_X11_60 (mm_dec dk_X11_ofTeam 41 rfl) rfl rfl (mm_ref i72c rfl) ?_
            refine mm_cVi (rest := []) C1 ev_X11_305 (mm_dec dk_X11_ofTeam 42 rfl) (c_X4_teamTime x.2.1 hl (d - 1) (by omega) h72c i72c ) rfl rfl (Nat.le_of_ble_eq_true rfl) ⟨by decide, by decide⟩ rfl (fun r82 h82c hp82 => ?_) (fun _ _ q => q.elim)
            obtain ⟨z82, y82⟩ := hp82
            rw [z82, y82]
            have g10 : -2147483648 ≤ (h72c.1 46 11) ∧ (h72c.1 46 11) ≤ 2147483647 := i72c.1 46 11
            refine mm_goto (tgt := 91) C (mm_dec dk_X11_ofTeam 43 rfl) (by decide) ?_
            refine mm_fgt 0 ?_
            refine mm_fgt 1 ?_
            refine mm_fgt 2 ?_
            refine mm_fgt 3 ?_
            exact J91 (h72c.1 46 11) ⟨by omega, by omega⟩
        · skip
          refine mm_aload_n C (mm_dec dk_X11_ofTeam 28 rfl) rfl ?_
          refine mm_getr (t := 46) C fl_X11_60 (mm_dec dk_X11_ofTeam 29 rfl) rfl rfl (mm_ref i0 rfl) ?_
          refine mm_iload_n C (mm_dec dk_X11_ofTeam 30 rfl) rfl ?_
          refine mm_iload_n C (mm_dec dk_X11_ofTeam 31 rfl) rfl ?_
          refine mm_cVi (rest := []) C1 ev_X11_299 (mm_dec dk_X11_ofTeam 32 rfl) (c_X4_placeOfTeam x.2.1 hl (d - 1) (by omega) h i0 p1 p3 ⟨by omega, by omega⟩) rfl rfl (Nat.le_of_ble_eq_true rfl) ⟨by decide, by decide⟩ rfl (fun r62 h62c hp62 => ?_) (fun _ _ q => q.elim)
          obtain ⟨b62, i62c, g62c⟩ := hp62
          have f62c : mm_fr [(42, 4), (42, 5), (42, 6), (46, 5), (46, 6), (46, 7), (46, 8), (46, 9), (46, 10), (46, 11), (48, 8), (48, 9)] [45, 47, 49, 50, 51, 52, 53] h h62c := mm_fr_tr f0 g62c (by decide +kernel)
          have q62c_12 : h62c.1 0 13 = h.1 0 13 := g62c.1 0 13 (by decide)
          have q62c_13 : h62c.1 22 9 = h.1 22 9 := g62c.1 22 9 (by decide)
          exact mm_iret C T (mm_dec dk_X11_ofTeam 33 rfl) (by decide : 1 ≤ 1) (by decide : 6 ≤ 6) ⟨_, rfl, ⟨⟨by omega, by omega⟩, i62c, f62c⟩⟩
      · skip
        exact mm_throwXW C8 T htb th_nse (i := 11) rfl (mm_dec dk_X11_ofTeam 17 rfl) (mm_dec dk_X11_ofTeam 18 rfl) (mm_dec dk_X11_ofTeam 19 rfl) (mm_dec dk_X11_ofTeam 20 rfl) (mm_dec dk_X11_ofTeam 21 rfl) (Nat.le_of_ble_eq_true rfl) ⟨by decide, by decide⟩ ⟨by decide, by decide⟩ (Or.inl ⟨rfl, rfl⟩)
    · skip
      refine mm_fgt 0 ?_
      refine mm_fgt 1 ?_
      refine mm_fgt 2 ?_
      refine mm_fgt 3 ?_
      exact J15
set_option maxRecDepth 100000 in
set_option maxHeartbeats 4000000 in
theorem c_X10_through_61 (l : Launch) (hl : l.stackTraces = false) (d : Nat) (hd : 4 ≤ d) (h : mH) (i0 : mm_inv h) (p2 : Int) (bp2 : 0 ≤ p2 ∧ p2 ≤ 12) : mm_Met l d yX10_through cX10_through 8 (some .int) [mR 7, mR 61, mI p2] h (mm_pi fun r h2 => (-2147483648 ≤ r ∧ r ≤ 2147483647) ∧ mm_inv h2 ∧ mm_fr [(7, 7), (7, 8)] [8, 9, 10, 11] h h2) mm_nx 0 0 := by
  refine mm_ofW (ls := [mR 7, mR 61, mI p2, mU, mU, mU, mU, mU]) hl (by decide) rfl (Nat.le_of_ble_eq_true rfl) ?_
  intro x hxl C T hnm htb
  subst hxl
  have C1 := mm_OK_le (d' := d - 1 + 1) (by omega) C
  refine mm_rng (fun hr _ => ?_)
  have ap2 : -2147483648 ≤ p2 ∧ p2 < 2147483648 := mm_ok_at hr (i := 2) rfl
  have f0 : mm_fr [(7, 7), (7, 8)] [8, 9, 10, 11] h h := mm_fr_rf
  refine mm_iconst C (mm_dec dk_X10_through 0 rfl) ⟨by decide, by decide⟩ ?_
  refine mm_istore_nL (ls2 := [mR 7, mR 61, mI p2, mI 0, mU, mU, mU, mU]) C (mm_dec dk_X10_through 1 rfl) (by decide) rfl ?_
  refine mm_aload_n C (mm_dec dk_X10_through 2 rfl) rfl ?_
  refine mm_getr (t := 1) C fl_X10_48 (mm_dec dk_X10_through 3 rfl) rfl rfl (mm_ref i0 rfl) ?_
  refine mm_geti C fl_X10_74 (mm_dec dk_X10_through 4 rfl) rfl rfl (Or.inl rfl) ?_
  have g1 : 0 ≤ (h.1 1 7) ∧ (h.1 1 7) ≤ 399 := i0.1 1 7
  refine mm_istoreL (ls2 := [mR 7, mR 61, mI p2, mI 0, mI (h.1 1 7), mU, mU, mU]) C (mm_dec dk_X10_through 5 rfl) (by decide) rfl ?_
  refine mm_iconst C (mm_dec dk_X10_through 6 rfl) ⟨by decide, by decide⟩ ?_
  have J14 : ∀ (n : Nat) (x14_3 : Int) (bx14_3 : -2147483648 ≤ x14_3 ∧ x14_3 ≤ 2147483647) (x14_4 : Int) (bx14_4 : 0 ≤ x14_4 ∧ x14_4 ≤ 399) (x14_5 : Int) (bx14_5 : 0 ≤ x14_5 ∧ x14_5 ≤ 13) (h14_ : mH) (i14_ : mm_inv h14_) (f14_ : mm_fr [(7, 7), (7, 8)] [8, 9, 10, 11] h h14_), (13 - x14_5 : Int) < n → mm_W x 0 0 14 [mR 7, mR 61, mI p2, mI x14_3, mI x14_4, mI x14_5, mU, mU] [] h14_ := by
    intro n
    induction n with
    | zero =>
      intro x14_3 bx14_3 x14_4 bx14_4 x14_5 bx14_5 h14_ i14_ f14_ hm
      exfalso; omega
    | succ n ih14 =>
      intro x14_3 bx14_3 x14_4 bx14_4 x14_5 bx14_5 h14_ i14_ f14_ hm14
      refine mm_iload C (mm_dec dk_X10_through 8 rfl) rfl ?_
      refine mm_iload_n C (mm_dec dk_X10_through 9 rfl) rfl ?_
      refine mm_icmp_gt (tgt := 81) C (mm_dec dk_X10_through 10 rfl) (by decide) (fun c17 => ?_) (fun c17 => ?_)
      · skip
        refine mm_iload_n C (mm_dec dk_X10_through 43 rfl) rfl ?_
        exact mm_iret C T (mm_dec dk_X10_through 44 rfl) (by decide : 0 ≤ 0) (by decide : 0 ≤ 0) ⟨_, rfl, ⟨⟨by omega, by omega⟩, i14_, f14_⟩⟩
      · skip
        refine mm_iload C (mm_dec dk_X10_through 11 rfl) rfl ?_
        refine mm_iload_n C (mm_dec dk_X10_through 12 rfl) rfl ?_
        have J40 : ∀ (s40_0 : Int) (bs40_0 : 0 ≤ s40_0 ∧ s40_0 ≤ 399), mm_W x 0 0 40 [mR 7, mR 61, mI p2, mI x14_3, mI x14_4, mI x14_5, mU, mU] [mI s40_0] h14_ := by
          intro s40_0 bs40_0
          refine mm_istoreL (ls2 := [mR 7, mR 61, mI p2, mI x14_3, mI x14_4, mI x14_5, mI s40_0, mU]) C (mm_dec dk_X10_through 21 rfl) (by decide) rfl ?_
          refine mm_aload_n C (mm_dec dk_X10_through 22 rfl) rfl ?_
          refine mm_iload C (mm_dec dk_X10_through 23 rfl) rfl ?_
          refine mm_iload C (mm_dec dk_X10_through 24 rfl) rfl ?_
          refine mm_cVv (rest := []) C1 ev_X10_52 (mm_dec dk_X10_through 25 rfl) (c_X10_measure x.2.1 hl (d - 1) (by omega) h14_ i14_ s40_0 x14_4 ⟨by omega, by omega⟩ ⟨by omega, by omega⟩) rfl rfl (Nat.le_of_ble_eq_true rfl) ⟨by decide, by decide⟩ rfl (fun h47c hp47 => ?_) (fun _ _ q => q.elim)
          obtain ⟨i47c, g47c⟩ := hp47
          have f47c : mm_fr [(7, 7), (7, 8)] [8, 9, 10, 11] h h47c := mm_fr_tr f14_ g47c (by decide +kernel)
          refine mm_aload_n C (mm_dec dk_X10_through 26 rfl) rfl ?_
          refine mm_iload C (mm_dec dk_X10_through 27 rfl) rfl ?_
          refine mm_cVi (rest := []) C1 ev_X10_67 (mm_dec dk_X10_through 28 rfl) (c_X10_secondsFrom x.2.1 hl (d - 1) (by omega) h47c i47c x14_4 ⟨by omega, by omega⟩) rfl rfl (Nat.le_of_ble_eq_true rfl) ⟨by decide, by decide⟩ rfl (fun r53 h53c hp53 => ?_) (fun _ _ q => q.elim)
          obtain ⟨z53, y53⟩ := hp53
          rw [z53]
          have g4 : -2147483648 ≤ (h47c.2.1 8 x14_4) ∧ (h47c.2.1 8 x14_4) ≤ 2147483647 := i47c.2.1 8 x14_4
          have g5 : -2147483648 ≤ (mm_w (Int.tdiv (h47c.2.1 8 x14_4) 512)) ∧ (mm_w (Int.tdiv (h47c.2.1 8 x14_4) 512)) < 2147483648 := mm_w_rg _
          refine mm_istoreL (ls2 := [mR 7, mR 61, mI p2, mI x14_3, mI x14_4, mI x14_5, mI s40_0, mI r53]) C (mm_dec dk_X10_through 29 rfl) (by decide) rfl ?_
          refine mm_iload C (mm_dec dk_X10_through 30 rfl) rfl ?_
          refine mm_iconst C (mm_dec dk_X10_through 31 rfl) ⟨by decide, by decide⟩ ?_
          refine mm_icmp_ne (tgt := 66) C (mm_dec dk_X10_through 32 rfl) (by decide) (fun c61 => ?_) (fun c61 => ?_)
          · skip
            refine mm_iload_n C (mm_dec dk_X10_through 35 rfl) rfl ?_
            refine mm_iload C (mm_dec dk_X10_through 36 rfl) rfl ?_
            refine mm_iaddw C (mm_dec dk_X10_through 37 rfl) ?_
            have g6 : -2147483648 ≤ (mm_w (x14_3 + r53)) ∧ (mm_w (x14_3 + r53)) < 2147483648 := mm_w_rg _
            refine mm_istore_nL (ls2 := [mR 7, mR 61, mI p2, mI (mm_w (x14_3 + r53)), mI x14_4, mI x14_5, mI s40_0, mI r53]) C (mm_dec dk_X10_through 38 rfl) (by decide) rfl ?_
            refine mm_iload C (mm_dec dk_X10_through 39 rfl) rfl ?_
            refine mm_istoreL (ls2 := [mR 7, mR 61, mI p2, mI (mm_w (x14_3 + r53)), mI s40_0, mI x14_5, mI s40_0, mI r53]) C (mm_dec dk_X10_through 40 rfl) (by decide) rfl ?_
            refine mm_iincL (ls2 := [mR 7, mR 61, mI p2, mI (mm_w (x14_3 + r53)), mI s40_0, mI (x14_5 + 1), mI s40_0, mI r53]) C (mm_dec dk_X10_through 41 rfl) rfl (by decide) ⟨by omega, by omega⟩ rfl ?_
            refine mm_goto (tgt := 14) C (mm_dec dk_X10_through 42 rfl) (by decide) ?_
            refine mm_fgt 6 ?_
            refine mm_fgt 7 ?_
            exact ih14 (mm_w (x14_3 + r53)) ⟨by omega, by omega⟩ s40_0 ⟨by omega, by omega⟩ (x14_5 + 1) ⟨by omega, by omega⟩ h47c i47c f47c (by omega)
          · skip
            refine mm_iconst C (mm_dec dk_X10_through 33 rfl) ⟨by decide, by decide⟩ ?_
            exact mm_iret C T (mm_dec dk_X10_through 34 rfl) (by decide : 0 ≤ 0) (by decide : 0 ≤ 0) ⟨_, rfl, ⟨⟨by omega, by omega⟩, i47c, f47c⟩⟩
        refine mm_icmp_ge (tgt := 33) C (mm_dec dk_X10_through 13 rfl) (by decide) (fun c23 => ?_) (fun c23 => ?_)
        · skip
          refine mm_aload_n C (mm_dec dk_X10_through 18 rfl) rfl ?_
          refine mm_getr (t := 1) C fl_X10_48 (mm_dec dk_X10_through 19 rfl) rfl rfl (mm_ref i14_ rfl) ?_
          refine mm_geti C fl_X10_77 (mm_dec dk_X10_through 20 rfl) rfl rfl (Or.inl rfl) ?_
          have g7 : 0 ≤ (h14_.1 1 8) ∧ (h14_.1 1 8) ≤ 399 := i14_.1 1 8
          exact J40 (h14_.1 1 8) ⟨by omega, by omega⟩
        · skip
          refine mm_aload_n C (mm_dec dk_X10_through 14 rfl) rfl ?_
          refine mm_iload C (mm_dec dk_X10_through 15 rfl) rfl ?_
          refine mm_iald C (mm_dec dk_X10_through 16 rfl) rfl (by omega) (by omega) ?_
          have g8 : 0 ≤ (h14_.2.1 61 x14_5) ∧ (h14_.2.1 61 x14_5) ≤ 399 := i14_.2.1 61 x14_5
          refine mm_goto (tgt := 40) C (mm_dec dk_X10_through 17 rfl) (by decide) ?_
          exact J40 (h14_.2.1 61 x14_5) ⟨by omega, by omega⟩
  refine mm_istoreL (ls2 := [mR 7, mR 61, mI p2, mI 0, mI (h.1 1 7), mI 0, mU, mU]) C (mm_dec dk_X10_through 7 rfl) (by decide) rfl ?_
  exact J14 (((13 - 0) : Int) + 1).toNat 0 ⟨by omega, by omega⟩ (h.1 1 7) ⟨by omega, by omega⟩ 0 ⟨by omega, by omega⟩ h i0 f0 (by omega)
set_option maxRecDepth 100000 in
set_option maxHeartbeats 4000000 in
theorem c_X10_passed_61 (l : Launch) (hl : l.stackTraces = false) (d : Nat) (hd : 0 ≤ d) (h : mH) (i0 : mm_inv h) (p0 : Int) (p2 : Int) (p3 : Int) (bp0 : 0 ≤ p0 ∧ p0 ≤ 399) (bp2 : 0 ≤ p2 ∧ p2 ≤ 12) (bp3 : 0 ≤ p3 ∧ p3 ≤ 12) : mm_Met l d yX10_passed cX10_passed 5 (some .int) [mI p0, mR 61, mI p2, mI p3] h (mm_pi fun r h2 => (0 ≤ r ∧ r ≤ 12) ∧ h2 = h) mm_nx 0 0 := by
  refine mm_ofW (ls := [mI p0, mR 61, mI p2, mI p3, mU]) hl (by decide) rfl (Nat.le_of_ble_eq_true rfl) ?_
  intro x hxl C T hnm htb
  subst hxl
  refine mm_rng (fun hr _ => ?_)
  have ap0 : -2147483648 ≤ p0 ∧ p0 < 2147483648 := mm_ok_at hr (i := 0) rfl
  have ap2 : -2147483648 ≤ p2 ∧ p2 < 2147483648 := mm_ok_at hr (i := 2) rfl
  have ap3 : -2147483648 ≤ p3 ∧ p3 < 2147483648 := mm_ok_at hr (i := 3) rfl
  have f0 : mm_fr [] [] h h := mm_fr_rf
  refine mm_iload_n C (mm_dec dk_X10_passed 0 rfl) rfl ?_
  have J3 : ∀ (n : Nat) (x3_4 : Int) (bx3_4 : 0 ≤ x3_4 ∧ x3_4 ≤ 12), (12 - x3_4 : Int) < n → mm_W x 0 0 3 [mI p0, mR 61, mU, mI p3, mI x3_4] [] h := by
    intro n
    induction n with
    | zero =>
      intro x3_4 bx3_4 hm
      exfalso; omega
    | succ n ih3 =>
      intro x3_4 bx3_4 hm3
      refine mm_iload C (mm_dec dk_X10_passed 2 rfl) rfl ?_
      refine mm_iload_n C (mm_dec dk_X10_passed 3 rfl) rfl ?_
      have J23 : mm_W x 0 0 23 [mU, mU, mU, mU, mI x3_4] [] h := by
        refine mm_iload C (mm_dec dk_X10_passed 12 rfl) rfl ?_
        exact mm_iret C T (mm_dec dk_X10_passed 13 rfl) (by decide : 0 ≤ 0) (by decide : 0 ≤ 0) ⟨_, rfl, ⟨⟨by omega, by omega⟩, rfl⟩⟩
      refine mm_icmp_ge (tgt := 23) C (mm_dec dk_X10_passed 4 rfl) (by decide) (fun c6 => ?_) (fun c6 => ?_)
      · skip
        refine mm_fgt 0 ?_
        refine mm_fgt 1 ?_
        refine mm_fgt 3 ?_
        exact J23
      · skip
        refine mm_aload_n C (mm_dec dk_X10_passed 5 rfl) rfl ?_
        refine mm_iload C (mm_dec dk_X10_passed 6 rfl) rfl ?_
        refine mm_iald C (mm_dec dk_X10_passed 7 rfl) rfl (by omega) (by omega) ?_
        have g1 : 0 ≤ (h.2.1 61 x3_4) ∧ (h.2.1 61 x3_4) ≤ 399 := i0.2.1 61 x3_4
        refine mm_iload_n C (mm_dec dk_X10_passed 8 rfl) rfl ?_
        refine mm_icmp_ne (tgt := 23) C (mm_dec dk_X10_passed 9 rfl) (by decide) (fun c14 => ?_) (fun c14 => ?_)
        · skip
          refine mm_fgt 0 ?_
          refine mm_fgt 1 ?_
          refine mm_fgt 3 ?_
          exact J23
        · skip
          refine mm_iincL (ls2 := [mI p0, mR 61, mU, mI p3, mI (x3_4 + 1)]) C (mm_dec dk_X10_passed 10 rfl) rfl (by decide) ⟨by omega, by omega⟩ rfl ?_
          refine mm_goto (tgt := 3) C (mm_dec dk_X10_passed 11 rfl) (by decide) ?_
          exact ih3 (x3_4 + 1) ⟨by omega, by omega⟩ (by omega)
  refine mm_istoreL (ls2 := [mI p0, mR 61, mI p2, mI p3, mI p2]) C (mm_dec dk_X10_passed 1 rfl) (by decide) rfl ?_
  refine mm_fgt 2 ?_
  exact J3 (((12 - p2) : Int) + 1).toNat p2 ⟨by omega, by omega⟩ (by omega)
set_option maxRecDepth 100000 in
set_option maxHeartbeats 4000000 in
theorem c_X10_walk_62_61 (l : Launch) (hl : l.stackTraces = false) (d : Nat) (hd : 2 ≤ d) (h : mH) (i0 : mm_inv h) (p2 : Int) (p4 : Int) (bp2 : 0 ≤ p2 ∧ p2 ≤ 500) (bp4 : 0 ≤ p4 ∧ p4 ≤ 12) : mm_Met l d yX10_walk cX10_walk 11 (some .int) [mR 7, mR 62, mI p2, mR 61, mI p4] h (mm_pi fun r h2 => (-2147483648 ≤ r ∧ r ≤ 2147483647) ∧ mm_inv h2 ∧ mm_fr [(7, 10), (7, 11)] [] h h2) mm_nx 0 0 := by
  refine mm_ofW (ls := [mR 7, mR 62, mI p2, mR 61, mI p4, mU, mU, mU, mU, mU, mU]) hl (by decide) rfl (Nat.le_of_ble_eq_true rfl) ?_
  intro x hxl C T hnm htb
  subst hxl
  have C1 := mm_OK_le (d' := d - 1 + 1) (by omega) C
  refine mm_rng (fun hr _ => ?_)
  have ap2 : -2147483648 ≤ p2 ∧ p2 < 2147483648 := mm_ok_at hr (i := 2) rfl
  have ap4 : -2147483648 ≤ p4 ∧ p4 < 2147483648 := mm_ok_at hr (i := 4) rfl
  have f0 : mm_fr [(7, 10), (7, 11)] [] h h := mm_fr_rf
  refine mm_aload_n C (mm_dec dk_X10_walk 0 rfl) rfl ?_
  refine mm_iconst C (mm_dec dk_X10_walk 1 rfl) ⟨by decide, by decide⟩ ?_
  refine mm_puti C fl_X10_41 (mm_dec dk_X10_walk 2 rfl) rfl rfl rfl (Or.inl ⟨rfl, rfl⟩) ?_
  have i1 : mm_inv (mm_pf h 7 10 (-1)) := mm_inv_pf i0 (show -2147483648 ≤ (-1) ∧ (-1) ≤ 2147483647 from ⟨by omega, by omega⟩) (by decide)
  have f1 : mm_fr [(7, 10), (7, 11)] [] h (mm_pf h 7 10 (-1)) := mm_fr_pf f0 (by decide)
  obtain ⟨h1, eh1⟩ : ∃ z, z = mm_pf h 7 10 (-1) := ⟨_, rfl⟩
  rw [← eh1] at i1 f1 ⊢
  have qh1 : h1.1 7 10 = (-1) := by rw [eh1]; exact mm_pf_same _ _ _ _
  refine mm_aload_n C (mm_dec dk_X10_walk 3 rfl) rfl ?_
  refine mm_getr (t := 1) C fl_X10_48 (mm_dec dk_X10_walk 4 rfl) rfl rfl (mm_ref i1 rfl) ?_
  refine mm_geti C fl_X10_74 (mm_dec dk_X10_walk 5 rfl) rfl rfl (Or.inl rfl) ?_
  have g1 : 0 ≤ (h1.1 1 7) ∧ (h1.1 1 7) ≤ 399 := i1.1 1 7
  refine mm_istoreL (ls2 := [mR 7, mR 62, mI p2, mR 61, mI p4, mI (h1.1 1 7), mU, mU, mU, mU, mU]) C (mm_dec dk_X10_walk 6 rfl) (by decide) rfl ?_
  refine mm_iload C (mm_dec dk_X10_walk 7 rfl) rfl ?_
  refine mm_aload_n C (mm_dec dk_X10_walk 8 rfl) rfl ?_
  refine mm_iconst C (mm_dec dk_X10_walk 9 rfl) ⟨by decide, by decide⟩ ?_
  refine mm_iload C (mm_dec dk_X10_walk 10 rfl) rfl ?_
  refine mm_cSi (rest := []) C1 es_X10_80 (mm_dec dk_X10_walk 11 rfl) (c_X10_passed_61 x.2.1 hl (d - 1) (by omega) h1 i1 (h1.1 1 7) 0 p4 ⟨by omega, by omega⟩ ⟨by omega, by omega⟩ ⟨by omega, by omega⟩) rfl (Nat.le_of_ble_eq_true rfl) ⟨by decide, by decide⟩ rfl (fun r20 h20c hp20 => ?_) (fun _ _ q => q.elim)
  obtain ⟨b20, z20⟩ := hp20
  rw [z20]
  refine mm_istoreL (ls2 := [mR 7, mR 62, mI p2, mR 61, mI p4, mI (h1.1 1 7), mI r20, mU, mU, mU, mU]) C (mm_dec dk_X10_walk 12 rfl) (by decide) rfl ?_
  refine mm_iconst C (mm_dec dk_X10_walk 13 rfl) ⟨by decide, by decide⟩ ?_
  refine mm_istoreL (ls2 := [mR 7, mR 62, mI p2, mR 61, mI p4, mI (h1.1 1 7), mI r20, mI 0, mU, mU, mU]) C (mm_dec dk_X10_walk 14 rfl) (by decide) rfl ?_
  refine mm_iconst C (mm_dec dk_X10_walk 15 rfl) ⟨by decide, by decide⟩ ?_
  have J31 : ∀ (n : Nat) (x31_5 : Int) (bx31_5 : 0 ≤ x31_5 ∧ x31_5 ≤ 399) (x31_6 : Int) (bx31_6 : 0 ≤ x31_6 ∧ x31_6 ≤ 12) (x31_7 : Int) (bx31_7 : -2147483648 ≤ x31_7 ∧ x31_7 ≤ 2147483647) (x31_8 : Int) (bx31_8 : 0 ≤ x31_8 ∧ x31_8 ≤ 500), (500 - x31_8 : Int) < n → mm_W x 0 0 31 [mR 7, mR 62, mI p2, mR 61, mI p4, mI x31_5, mI x31_6, mI x31_7, mI x31_8, mU, mU] [] h1 := by
    intro n
    induction n with
    | zero =>
      intro x31_5 bx31_5 x31_6 bx31_6 x31_7 bx31_7 x31_8 bx31_8 hm
      exfalso; omega
    | succ n ih31 =>
      intro x31_5 bx31_5 x31_6 bx31_6 x31_7 bx31_7 x31_8 bx31_8 hm31
      refine mm_iload C (mm_dec dk_X10_walk 17 rfl) rfl ?_
      refine mm_iload_n C (mm_dec dk_X10_walk 18 rfl) rfl ?_
      refine mm_icmp_ge (tgt := 155) C (mm_dec dk_X10_walk 19 rfl) (by decide) (fun c34 => ?_) (fun c34 => ?_)
      · skip
        refine mm_aload_n C (mm_dec dk_X10_walk 76 rfl) rfl ?_
        refine mm_iload C (mm_dec dk_X10_walk 77 rfl) rfl ?_
        refine mm_iload C (mm_dec dk_X10_walk 78 rfl) rfl ?_
        have J180 : ∀ (s180_1 : Int) (bs180_1 : 0 ≤ s180_1 ∧ s180_1 ≤ 1), mm_W x 0 0 180 [mU, mU, mU, mU, mU, mU, mU, mI x31_7, mU, mU, mU] [mI s180_1, mR 7] h1 := by
          intro s180_1 bs180_1
          refine mm_puti C fl_X10_44 (mm_dec dk_X10_walk 88 rfl) rfl rfl rfl (Or.inr ⟨rfl, rfl, by omega⟩) ?_
          have i2 : mm_inv (mm_pf h1 7 11 s180_1) := mm_inv_pf i1 (show 0 ≤ s180_1 ∧ s180_1 ≤ 1 from ⟨by omega, by omega⟩) (by decide)
          have f2 : mm_fr [(7, 10), (7, 11)] [] h (mm_pf h1 7 11 s180_1) := mm_fr_pf f1 (by decide)
          obtain ⟨h2, eh2⟩ : ∃ z, z = mm_pf h1 7 11 s180_1 := ⟨_, rfl⟩
          rw [← eh2] at i2 f2 ⊢
          have qh2 : h2.1 7 11 = s180_1 := by rw [eh2]; exact mm_pf_same _ _ _ _
          have qh2_3 : h2.1 1 7 = h1.1 1 7 := by rw [eh2]; exact mm_pf_ne _ _ (by decide)
          have qh2_4 : h2.1 7 10 = h1.1 7 10 := by rw [eh2]; exact mm_pf_ne _ _ (by decide)
          refine mm_iload C (mm_dec dk_X10_walk 89 rfl) rfl ?_
          exact mm_iret C T (mm_dec dk_X10_walk 90 rfl) (by decide : 0 ≤ 0) (by decide : 0 ≤ 0) ⟨_, rfl, ⟨⟨by omega, by omega⟩, i2, f2⟩⟩
        have J179 : mm_W x 0 0 179 [mU, mU, mU, mU, mU, mU, mU, mI x31_7, mU, mU, mU] [mR 7] h1 := by
          refine mm_iconst C (mm_dec dk_X10_walk 87 rfl) ⟨by decide, by decide⟩ ?_
          exact J180 0 ⟨by omega, by omega⟩
        refine mm_icmp_ne (tgt := 179) C (mm_dec dk_X10_walk 79 rfl) (by decide) (fun c160 => ?_) (fun c160 => ?_)
        · skip
          refine mm_fgt 0 ?_
          refine mm_fgt 1 ?_
          refine mm_fgt 2 ?_
          refine mm_fgt 3 ?_
          refine mm_fgt 4 ?_
          refine mm_fgt 5 ?_
          refine mm_fgt 6 ?_
          refine mm_fgt 8 ?_
          exact J179
        · skip
          refine mm_iload C (mm_dec dk_X10_walk 80 rfl) rfl ?_
          refine mm_aload_n C (mm_dec dk_X10_walk 81 rfl) rfl ?_
          refine mm_getr (t := 1) C fl_X10_48 (mm_dec dk_X10_walk 82 rfl) rfl rfl (mm_ref i1 rfl) ?_
          refine mm_geti C fl_X10_77 (mm_dec dk_X10_walk 83 rfl) rfl rfl (Or.inl rfl) ?_
          have g5 : 0 ≤ (h1.1 1 8) ∧ (h1.1 1 8) ≤ 399 := i1.1 1 8
          refine mm_icmp_ne (tgt := 179) C (mm_dec dk_X10_walk 84 rfl) (by decide) (fun c172 => ?_) (fun c172 => ?_)
          · skip
            refine mm_fgt 0 ?_
            refine mm_fgt 1 ?_
            refine mm_fgt 2 ?_
            refine mm_fgt 3 ?_
            refine mm_fgt 4 ?_
            refine mm_fgt 5 ?_
            refine mm_fgt 6 ?_
            refine mm_fgt 8 ?_
            exact J179
          · skip
            refine mm_iconst C (mm_dec dk_X10_walk 85 rfl) ⟨by decide, by decide⟩ ?_
            refine mm_goto (tgt := 180) C (mm_dec dk_X10_walk 86 rfl) (by decide) ?_
            refine mm_fgt 0 ?_
            refine mm_fgt 1 ?_
            refine mm_fgt 2 ?_
            refine mm_fgt 3 ?_
            refine mm_fgt 4 ?_
            refine mm_fgt 5 ?_
            refine mm_fgt 6 ?_
            refine mm_fgt 8 ?_
            exact J180 1 ⟨by omega, by omega⟩
      · skip
        refine mm_aload_n C (mm_dec dk_X10_walk 20 rfl) rfl ?_
        refine mm_iload C (mm_dec dk_X10_walk 21 rfl) rfl ?_
        refine mm_iald C (mm_dec dk_X10_walk 22 rfl) rfl (by omega) (by omega) ?_
        have g6 : -2147483648 ≤ (h1.2.1 62 x31_8) ∧ (h1.2.1 62 x31_8) ≤ 2147483647 := i1.2.1 62 x31_8
        refine mm_cSi (rest := []) C1 es_X10_84 (mm_dec dk_X10_walk 23 rfl) (c_X10_moveOf x.2.1 hl (d - 1) (by omega) h1 i1 (h1.2.1 62 x31_8)) rfl (Nat.le_of_ble_eq_true rfl) ⟨by decide, by decide⟩ rfl (fun r41 h41c hp41 => ?_) (fun _ _ q => q.elim)
        obtain ⟨z41, y41⟩ := hp41
        rw [z41]
        refine mm_istoreL (ls2 := [mR 7, mR 62, mI p2, mR 61, mI p4, mI x31_5, mI x31_6, mI x31_7, mI x31_8, mI r41, mU]) C (mm_dec dk_X10_walk 24 rfl) (by decide) rfl ?_
        refine mm_iload C (mm_dec dk_X10_walk 25 rfl) rfl ?_
        refine mm_bipush C (mm_dec dk_X10_walk 26 rfl) ⟨by decide, by decide⟩ ?_
        have J149 : ∀ (x149_5 : Int) (bx149_5 : 0 ≤ x149_5 ∧ x149_5 ≤ 399) (x149_6 : Int) (bx149_6 : 0 ≤ x149_6 ∧ x149_6 ≤ 12) (x149_7 : Int) (bx149_7 : -2147483648 ≤ x149_7 ∧ x149_7 ≤ 2147483647), mm_W x 0 0 149 [mR 7, mR 62, mI p2, mR 61, mI p4, mI x149_5, mI x149_6, mI x149_7, mI x31_8, mU, mU] [] h1 := by
          intro x149_5 bx149_5 x149_6 bx149_6 x149_7 bx149_7
          refine mm_iincL (ls2 := [mR 7, mR 62, mI p2, mR 61, mI p4, mI x149_5, mI x149_6, mI x149_7, mI (x31_8 + 1), mU, mU]) C (mm_dec dk_X10_walk 74 rfl) rfl (by decide) ⟨by omega, by omega⟩ rfl ?_
          refine mm_goto (tgt := 31) C (mm_dec dk_X10_walk 75 rfl) (by decide) ?_
          exact ih31 x149_5 ⟨by omega, by omega⟩ x149_6 ⟨by omega, by omega⟩ x149_7 ⟨by omega, by omega⟩ (x31_8 + 1) ⟨by omega, by omega⟩ (by omega)
        refine mm_icmp_ne (tgt := 56) C (mm_dec dk_X10_walk 27 rfl) (by decide) (fun c50 => ?_) (fun c50 => ?_)
        · skip
          refine mm_iload C (mm_dec dk_X10_walk 29 rfl) rfl ?_
          refine mm_iconst C (mm_dec dk_X10_walk 30 rfl) ⟨by decide, by decide⟩ ?_
          have J77 : ∀ (s77_0 : Int) (bs77_0 : -1 ≤ s77_0 ∧ s77_0 ≤ 399), mm_W x 0 0 77 [mR 7, mR 62, mI p2, mR 61, mI p4, mI x31_5, mI x31_6, mI x31_7, mI x31_8, mI r41, mU] [mI s77_0] h1 := by
            intro s77_0 bs77_0
            refine mm_istoreL (ls2 := [mR 7, mR 62, mI p2, mR 61, mI p4, mI x31_5, mI x31_6, mI x31_7, mI x31_8, mI r41, mI s77_0]) C (mm_dec dk_X10_walk 39 rfl) (by decide) rfl ?_
            refine mm_iload C (mm_dec dk_X10_walk 40 rfl) rfl ?_
            refine mm_iconst C (mm_dec dk_X10_walk 41 rfl) ⟨by decide, by decide⟩ ?_
            have J97 : mm_W x 0 0 97 [mR 7, mU, mU, mU, mU, mU, mU, mU, mI x31_8, mI r41, mU] [] h1 := by
              refine mm_aload_n C (mm_dec dk_X10_walk 48 rfl) rfl ?_
              refine mm_iload C (mm_dec dk_X10_walk 49 rfl) rfl ?_
              refine mm_puti C fl_X10_41 (mm_dec dk_X10_walk 50 rfl) rfl rfl rfl (Or.inl ⟨rfl, rfl⟩) ?_
              have i3 : mm_inv (mm_pf h1 7 10 x31_8) := mm_inv_pf i1 (show -2147483648 ≤ x31_8 ∧ x31_8 ≤ 2147483647 from ⟨by omega, by omega⟩) (by decide)
              have f3 : mm_fr [(7, 10), (7, 11)] [] h (mm_pf h1 7 10 x31_8) := mm_fr_pf f1 (by decide)
              obtain ⟨h3, eh3⟩ : ∃ z, z = mm_pf h1 7 10 x31_8 := ⟨_, rfl⟩
              rw [← eh3] at i3 f3 ⊢
              have qh3 : h3.1 7 10 = x31_8 := by rw [eh3]; exact mm_pf_same _ _ _ _
              have qh3_8 : h3.1 1 7 = h1.1 1 7 := by rw [eh3]; exact mm_pf_ne _ _ (by decide)
              refine mm_iload C (mm_dec dk_X10_walk 51 rfl) rfl ?_
              refine mm_iconst C (mm_dec dk_X10_walk 52 rfl) ⟨by decide, by decide⟩ ?_
              have J116 : ∀ (s116_0 : Int) (bs116_0 : -3 ≤ s116_0 ∧ s116_0 ≤ -2), mm_W x 0 0 116 [mU, mU, mU, mU, mU, mU, mU, mU, mU, mU, mU] [mI s116_0] h3 := by
                intro s116_0 bs116_0
                exact mm_iret C T (mm_dec dk_X10_walk 57 rfl) (by decide : 0 ≤ 0) (by decide : 0 ≤ 0) ⟨_, rfl, ⟨⟨by omega, by omega⟩, i3, f3⟩⟩
              refine mm_icmp_ne (tgt := 114) C (mm_dec dk_X10_walk 53 rfl) (by decide) (fun c106 => ?_) (fun c106 => ?_)
              · skip
                refine mm_bipush C (mm_dec dk_X10_walk 56 rfl) ⟨by decide, by decide⟩ ?_
                refine mm_fgt 0 ?_
                refine mm_fgt 8 ?_
                refine mm_fgt 9 ?_
                exact J116 (-3) ⟨by omega, by omega⟩
              · skip
                refine mm_bipush C (mm_dec dk_X10_walk 54 rfl) ⟨by decide, by decide⟩ ?_
                refine mm_goto (tgt := 116) C (mm_dec dk_X10_walk 55 rfl) (by decide) ?_
                refine mm_fgt 0 ?_
                refine mm_fgt 8 ?_
                refine mm_fgt 9 ?_
                exact J116 (-2) ⟨by omega, by omega⟩
            refine mm_icmp_eq (tgt := 97) C (mm_dec dk_X10_walk 42 rfl) (by decide) (fun c82 => ?_) (fun c82 => ?_)
            · skip
              refine mm_fgt 1 ?_
              refine mm_fgt 2 ?_
              refine mm_fgt 3 ?_
              refine mm_fgt 4 ?_
              refine mm_fgt 5 ?_
              refine mm_fgt 6 ?_
              refine mm_fgt 7 ?_
              refine mm_fgt 10 ?_
              exact J97
            · skip
              refine mm_aload_n C (mm_dec dk_X10_walk 43 rfl) rfl ?_
              refine mm_getr (t := 1) C fl_X10_48 (mm_dec dk_X10_walk 44 rfl) rfl rfl (mm_ref i1 rfl) ?_
              refine mm_iload C (mm_dec dk_X10_walk 45 rfl) rfl ?_
              refine mm_cVi (rest := []) C1 ev_X10_87 (mm_dec dk_X10_walk 46 rfl) (c_X5_canEnter x.2.1 hl (d - 1) (by omega) h1 i1 s77_0 ⟨by omega, by omega⟩) rfl rfl (Nat.le_of_ble_eq_true rfl) ⟨by decide, by decide⟩ rfl (fun r91 h91c hp91 => ?_) (fun _ _ q => q.elim)
              obtain ⟨z91, y91⟩ := hp91
              rw [z91]
              have g10 : 0 ≤ (h1.2.1 6 (h1.2.1 2 s77_0)) ∧ (h1.2.1 6 (h1.2.1 2 s77_0)) ≤ 99 := i1.2.1 6 (h1.2.1 2 s77_0)
              have g11 : 0 ≤ (h1.2.1 2 s77_0) ∧ (h1.2.1 2 s77_0) ≤ 7 := i1.2.1 2 s77_0
              refine mm_if_ne (tgt := 117) C (mm_dec dk_X10_walk 47 rfl) (by decide) (fun c94 => ?_) (fun c94 => ?_)
              · skip
                refine mm_iload C (mm_dec dk_X10_walk 58 rfl) rfl ?_
                refine mm_aload_n C (mm_dec dk_X10_walk 59 rfl) rfl ?_
                refine mm_getr (t := 1) C fl_X10_48 (mm_dec dk_X10_walk 60 rfl) rfl rfl (mm_ref i1 rfl) ?_
                refine mm_iload C (mm_dec dk_X10_walk 61 rfl) rfl ?_
                refine mm_iload C (mm_dec dk_X10_walk 62 rfl) rfl ?_
                refine mm_cVi (rest := [mI x31_7]) C1 ev_X10_91 (mm_dec dk_X10_walk 63 rfl) (c_X5_secondsOf x.2.1 hl (d - 1) (by omega) h1 i1 x31_5 s77_0 ⟨by omega, by omega⟩ ⟨by omega, by omega⟩) rfl rfl (Nat.le_of_ble_eq_true rfl) ⟨by decide, by decide⟩ rfl (fun r127 h127c hp127 => ?_) (fun _ _ q => q.elim)
                obtain ⟨b127, z127⟩ := hp127
                rw [z127]
                refine mm_iaddw C (mm_dec dk_X10_walk 64 rfl) ?_
                have g13 : -2147483648 ≤ (mm_w (x31_7 + r127)) ∧ (mm_w (x31_7 + r127)) < 2147483648 := mm_w_rg _
                refine mm_istoreL (ls2 := [mR 7, mR 62, mI p2, mR 61, mI p4, mI x31_5, mI x31_6, mI (mm_w (x31_7 + r127)), mI x31_8, mI r41, mI s77_0]) C (mm_dec dk_X10_walk 65 rfl) (by decide) rfl ?_
                refine mm_iload C (mm_dec dk_X10_walk 66 rfl) rfl ?_
                refine mm_istoreL (ls2 := [mR 7, mR 62, mI p2, mR 61, mI p4, mI s77_0, mI x31_6, mI (mm_w (x31_7 + r127)), mI x31_8, mI r41, mI s77_0]) C (mm_dec dk_X10_walk 67 rfl) (by decide) rfl ?_
                refine mm_iload C (mm_dec dk_X10_walk 68 rfl) rfl ?_
                refine mm_aload_n C (mm_dec dk_X10_walk 69 rfl) rfl ?_
                refine mm_iload C (mm_dec dk_X10_walk 70 rfl) rfl ?_
                refine mm_iload C (mm_dec dk_X10_walk 71 rfl) rfl ?_
                refine mm_cSi (rest := []) C1 es_X10_80 (mm_dec dk_X10_walk 72 rfl) (c_X10_passed_61 x.2.1 hl (d - 1) (by omega) h1 i1 s77_0 x31_6 p4 ⟨by omega, by omega⟩ ⟨by omega, by omega⟩ ⟨by omega, by omega⟩) rfl (Nat.le_of_ble_eq_true rfl) ⟨by decide, by decide⟩ rfl (fun r144 h144c hp144 => ?_) (fun _ _ q => q.elim)
                obtain ⟨b144, z144⟩ := hp144
                rw [z144]
                refine mm_istoreL (ls2 := [mR 7, mR 62, mI p2, mR 61, mI p4, mI s77_0, mI r144, mI (mm_w (x31_7 + r127)), mI x31_8, mI r41, mI s77_0]) C (mm_dec dk_X10_walk 73 rfl) (by decide) rfl ?_
                refine mm_fgt 9 ?_
                refine mm_fgt 10 ?_
                exact J149 s77_0 ⟨by omega, by omega⟩ r144 ⟨by omega, by omega⟩ (mm_w (x31_7 + r127)) ⟨by omega, by omega⟩
              · skip
                refine mm_fgt 1 ?_
                refine mm_fgt 2 ?_
                refine mm_fgt 3 ?_
                refine mm_fgt 4 ?_
                refine mm_fgt 5 ?_
                refine mm_fgt 6 ?_
                refine mm_fgt 7 ?_
                refine mm_fgt 10 ?_
                exact J97
          refine mm_icmp_ne (tgt := 66) C (mm_dec dk_X10_walk 31 rfl) (by decide) (fun c59 => ?_) (fun c59 => ?_)
          · skip
            refine mm_aload_n C (mm_dec dk_X10_walk 34 rfl) rfl ?_
            refine mm_getr (t := 1) C fl_X10_48 (mm_dec dk_X10_walk 35 rfl) rfl rfl (mm_ref i1 rfl) ?_
            refine mm_iload C (mm_dec dk_X10_walk 36 rfl) rfl ?_
            refine mm_iload C (mm_dec dk_X10_walk 37 rfl) rfl ?_
            refine mm_cVi (rest := []) C1 ev_X10_61 (mm_dec dk_X10_walk 38 rfl) (c_X5_beside x.2.1 hl (d - 1) (by omega) h1 i1 x31_5 r41 ⟨by omega, by omega⟩) rfl rfl (Nat.le_of_ble_eq_true rfl) ⟨by decide, by decide⟩ rfl (fun r74 h74c hp74 => ?_) (fun _ _ q => q.elim)
            obtain ⟨b74, z74, y74_0⟩ := hp74
            rw [z74]
            exact J77 r74 ⟨by omega, by omega⟩
          · skip
            refine mm_iconst C (mm_dec dk_X10_walk 32 rfl) ⟨by decide, by decide⟩ ?_
            refine mm_goto (tgt := 77) C (mm_dec dk_X10_walk 33 rfl) (by decide) ?_
            exact J77 (-1) ⟨by omega, by omega⟩
        · skip
          refine mm_goto (tgt := 149) C (mm_dec dk_X10_walk 28 rfl) (by decide) ?_
          refine mm_fgt 9 ?_
          exact J149 x31_5 ⟨by omega, by omega⟩ x31_6 ⟨by omega, by omega⟩ x31_7 ⟨by omega, by omega⟩
  refine mm_istoreL (ls2 := [mR 7, mR 62, mI p2, mR 61, mI p4, mI (h1.1 1 7), mI r20, mI 0, mI 0, mU, mU]) C (mm_dec dk_X10_walk 16 rfl) (by decide) rfl ?_
  exact J31 (((500 - 0) : Int) + 1).toNat (h1.1 1 7) ⟨by omega, by omega⟩ r20 ⟨by omega, by omega⟩ 0 ⟨by omega, by omega⟩ 0 ⟨by omega, by omega⟩ (by omega)
