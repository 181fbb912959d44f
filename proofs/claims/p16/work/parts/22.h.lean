set_option maxRecDepth 100000 in
set_option maxHeartbeats 4000000 in
theorem c_L_go_q (l : Launch) (hl : l.stackTraces = false) (d : Nat) (hd : 9 ≤ d) (h : mH) (i0 : mm_inv h) (p1 : Int) : mm_MetH l d yL_go cL_go 4 (some .int) [(0, 9, 12, 58)] [mR 0, mI p1, mR 124] h (mm_pi fun r h2 => (0 ≤ r ∧ r ≤ 2) ∧ mm_inv h2 ∧ mm_fr [(0, 13)] [124] h h2 ∧ ((r = 0 ∧ 0 ≤ p1 ∧ p1 ≤ 99999 - h.1 0 13 ∧ h2.1 0 13 = h.1 0 13 + p1 ∧ h2.2.1 124 0 = h2.1 0 13) ∨ (r = 1 ∧ (p1 < 0 ∨ 99999 - h.1 0 13 < p1) ∧ h2.1 0 13 = h.1 0 13))) mm_nx 1 6 := by
  refine mm_ofWH (ls := [mR 0, mI p1, mR 124, mU]) hl (by decide) rfl (Nat.le_of_ble_eq_true rfl) ?_
  intro x hxl C T htb
  subst hxl
  have C1 := mm_OK_le (d' := d - 1 + 1) (by omega) C
  refine mm_aload_n C (mm_dec dk_L_go 0 rfl) rfl ?_
  refine mm_iconst C (mm_dec dk_L_go 1 rfl) ⟨by decide, by decide⟩ ?_
  refine mm_aload_n C (mm_dec dk_L_go 2 rfl) rfl ?_
  refine mm_iload_n C (mm_dec dk_L_go 3 rfl) rfl ?_
  refine mm_cVi (rest := [mI 0, mR 124]) C1 ev_L_55 (mm_dec dk_L_go 4 rfl) (c_X11_go_q x.2.1 hl (d - 1) (by omega) h i0 p1) rfl rfl (Nat.le_of_ble_eq_true rfl) ⟨by decide, by decide⟩ rfl (fun r hc hp => ?_) (fun E hx q => ?_)
  · obtain ⟨b, ic, gc, y0⟩ := hp
    have fc : mm_fr [(0, 13)] [124] h hc := mm_fr_tr (mm_fr_rf (h := h)) gc (by decide +kernel)
    refine mm_rng (fun _ ho => ?_)
    have br : -2147483648 ≤ r ∧ r < 2147483648 := mm_ok_hd ho
    refine mm_i2l C (mm_dec dk_L_go 5 rfl) ?_
    refine mm_last C (mm_dec dk_L_go 6 rfl) rfl (by omega) (by omega) ?_
    refine mm_goto (tgt := 15) C (mm_dec dk_L_go 7 rfl) (by decide) ?_
    refine mm_iconst C (mm_dec dk_L_go 11 rfl) ⟨by decide, by decide⟩ ?_
    exact mm_iret C T (mm_dec dk_L_go 12 rfl) (by decide) (by decide) ⟨_, rfl, ⟨by decide, by decide⟩, mm_inv_pa ic (show -9223372036854775808 ≤ r ∧ r ≤ 9223372036854775807 from ⟨by omega, by omega⟩), mm_fr_pa fc (by decide), (by have e0 : (mm_pa hc 124 0 r).1 0 13 = hc.1 0 13 := rfl; have ea : (mm_pa hc 124 0 r).2.1 124 0 = r := mm_pa_same _ _ _ _; revert ea e0; generalize mm_pa hc 124 0 r = H; intros; omega)⟩
  · obtain ⟨q, cx⟩ := q
    rw [q.1, q.2]
    refine mm_catch (nm := "java/lang/IllegalArgumentException") [] (⟨0, 9, 12, 58⟩ : ExceptionTableEntry) [] C htb (fun y hy => absurd hy List.not_mem_nil) (by decide) (by decide) ck_L_58 (by decide) (k := 3) (by decide) (Or.inr ⟨3, rfl, (mm_dec dk_L_go 8 rfl)⟩) (pc2 := 13) ⟨fun z => (by have w := z.symm.trans (mm_dec dk_L_go 8 rfl); cases w), fun _ => rfl⟩ ?_
    refine mm_iconst C (mm_dec dk_L_go 9 rfl) ⟨by decide, by decide⟩ ?_
    exact mm_iret C T (mm_dec dk_L_go 10 rfl) (by decide) (by decide) ⟨_, rfl, ⟨by decide, by decide⟩, i0, mm_fr_rf, by omega⟩
