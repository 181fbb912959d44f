set_option maxRecDepth 100000 in
set_option maxHeartbeats 4000000 in
theorem c_L_runner_q (l : Launch) (hl : l.stackTraces = false) (d : Nat) (hd : 10 ≤ d) (h : mH) (i0 : mm_inv h) (p1 : Int) (p2 : Int) (p3 : Int) : mm_MetH l d yL_runner cL_runner 6 (some .int) [(0, 12, 15, 13)] [mR 0, mI p1, mI p2, mI p3, mR 124] h (mm_pi fun r h2 => (0 ≤ r ∧ r ≤ 2) ∧ mm_inv h2 ∧ mm_fr [(22, 8)] [18, 23, 24, 25, 26, 27, 28, 124] h h2 ∧ ((r = 0 ∧ 0 ≤ p1 ∧ p1 < h.1 14 8 ∧ (((h.1 22 8 ≤ 39 ∧ 0 ≤ p2 ∧ p2 ≤ 9 ∧ 0 ≤ p3 ∧ p3 ≤ 80) ∧ h2.2.1 124 0 = h.1 22 8 ∧ h2.1 22 8 = h.1 22 8 + 1) ∨ ((40 ≤ h.1 22 8 ∨ p2 < 0 ∨ 9 < p2 ∨ p3 < 0 ∨ 80 < p3) ∧ h2.2.1 124 0 = -1 ∧ h2.1 22 8 = h.1 22 8))) ∨ (r = 1 ∧ (p1 < 0 ∨ h.1 14 8 ≤ p1) ∧ h2.1 22 8 = h.1 22 8))) mm_nx 1 6 := by
  refine mm_ofWH (ls := [mR 0, mI p1, mI p2, mI p3, mR 124, mU]) hl (by decide) rfl (Nat.le_of_ble_eq_true rfl) ?_
  intro x hxl C T htb
  subst hxl
  have C1 := mm_OK_le (d' := d - 1 + 1) (by omega) C
  refine mm_aload C (mm_dec dk_L_runner 0 rfl) rfl ?_
  refine mm_iconst C (mm_dec dk_L_runner 1 rfl) ⟨by decide, by decide⟩ ?_
  refine mm_aload_n C (mm_dec dk_L_runner 2 rfl) rfl ?_
  refine mm_iload_n C (mm_dec dk_L_runner 3 rfl) rfl ?_
  refine mm_iload_n C (mm_dec dk_L_runner 4 rfl) rfl ?_
  refine mm_iload_n C (mm_dec dk_L_runner 5 rfl) rfl ?_
  refine mm_cVi (rest := [mI 0, mR 124]) C1 ev_L_45 (mm_dec dk_L_runner 6 rfl) (c_X11_runner_q x.2.1 hl (d - 1) (by omega) h i0 p1 p2 p3) rfl rfl (Nat.le_of_ble_eq_true rfl) ⟨by decide, by decide⟩ rfl (fun r hc hp => ?_) (fun E hx q => ?_)
  · obtain ⟨b, ic, gc, y0, y1⟩ := hp
    have fc : mm_fr [(22, 8)] [18, 23, 24, 25, 26, 27, 28, 124] h hc := mm_fr_tr (mm_fr_rf (h := h)) gc (by decide +kernel)
    refine mm_rng (fun _ ho => ?_)
    have br : -2147483648 ≤ r ∧ r < 2147483648 := mm_ok_hd ho
    refine mm_i2l C (mm_dec dk_L_runner 7 rfl) ?_
    refine mm_last C (mm_dec dk_L_runner 8 rfl) rfl (by omega) (by omega) ?_
    refine mm_goto (tgt := 19) C (mm_dec dk_L_runner 9 rfl) (by decide) ?_
    refine mm_iconst C (mm_dec dk_L_runner 13 rfl) ⟨by decide, by decide⟩ ?_
    exact mm_iret C T (mm_dec dk_L_runner 14 rfl) (by decide) (by decide) ⟨_, rfl, ⟨by decide, by decide⟩, mm_inv_pa ic (show -9223372036854775808 ≤ r ∧ r ≤ 9223372036854775807 from ⟨by omega, by omega⟩), mm_fr_pa fc (by decide), (by have e0 : (mm_pa hc 124 0 r).1 14 8 = hc.1 14 8 := rfl; have e1 : (mm_pa hc 124 0 r).1 22 8 = hc.1 22 8 := rfl; have ea : (mm_pa hc 124 0 r).2.1 124 0 = r := mm_pa_same _ _ _ _; revert ea e0 e1; generalize mm_pa hc 124 0 r = H; intros; omega)⟩
  · obtain ⟨q, cx⟩ := q
    rw [q.1, q.2]
    refine mm_catch (nm := "java/util/NoSuchElementException") [] (⟨0, 12, 15, 13⟩ : ExceptionTableEntry) [] C htb (fun y hy => absurd hy List.not_mem_nil) (by decide) (by decide) ck_L_13 (by decide) (k := 5) (by decide) (Or.inl (mm_dec dk_L_runner 10 rfl)) (pc2 := 17) ⟨fun _ => rfl, fun ⟨_, _, z⟩ => (by have w := z.symm.trans (mm_dec dk_L_runner 10 rfl); cases w)⟩ ?_
    refine mm_iconst C (mm_dec dk_L_runner 11 rfl) ⟨by decide, by decide⟩ ?_
    exact mm_iret C T (mm_dec dk_L_runner 12 rfl) (by decide) (by decide) ⟨_, rfl, ⟨by decide, by decide⟩, i0, mm_fr_rf, by omega⟩
set_option maxRecDepth 100000 in
set_option maxHeartbeats 4000000 in
theorem c_L_rules_q (l : Launch) (hl : l.stackTraces = false) (d : Nat) (hd : 51 ≤ d) (h : mH) (i0 : mm_inv h) (p1 : Int) : mm_MetH l d yL_rules cL_rules 4 (some .int) [(0, 9, 12, 58)] [mR 0, mI p1, mR 124] h (mm_pi fun r h2 => (0 ≤ r ∧ r ≤ 2) ∧ mm_inv h2 ∧ mm_fr [(0, 12), (0, 14), (42, 3), (63, 3), (63, 4), (63, 5), (63, 6), (63, 7), (63, 8), (63, 9), (63, 10)] [43, 44, 64, 65, 124] h h2 ∧ ((0 ≤ p1 ∧ p1 ≤ h.1 0 12 ∧ h2.1 0 12 = 0) ∨ ((p1 < 0 ∨ h.1 0 12 < p1) ∧ h2.1 0 12 = h.1 0 12))) mm_nx 1 6 := by
  refine mm_ofWH (ls := [mR 0, mI p1, mR 124, mU]) hl (by decide) rfl (Nat.le_of_ble_eq_true rfl) ?_
  intro x hxl C T htb
  subst hxl
  have C1 := mm_OK_le (d' := d - 1 + 1) (by omega) C
  refine mm_aload_n C (mm_dec dk_L_rules 0 rfl) rfl ?_
  refine mm_iconst C (mm_dec dk_L_rules 1 rfl) ⟨by decide, by decide⟩ ?_
  refine mm_aload_n C (mm_dec dk_L_rules 2 rfl) rfl ?_
  refine mm_iload_n C (mm_dec dk_L_rules 3 rfl) rfl ?_
  refine mm_cVi (rest := [mI 0, mR 124]) C1 ev_L_76 (mm_dec dk_L_rules 4 rfl) (c_X11_rules_q x.2.1 hl (d - 1) (by omega) h i0 p1) rfl rfl (Nat.le_of_ble_eq_true rfl) ⟨by decide, by decide⟩ rfl (fun r hc hp => ?_) (fun E hx q => ?_)
  · obtain ⟨b, ic, gc, y0⟩ := hp
    have fc : mm_fr [(0, 12), (0, 14), (42, 3), (63, 3), (63, 4), (63, 5), (63, 6), (63, 7), (63, 8), (63, 9), (63, 10)] [43, 44, 64, 65, 124] h hc := mm_fr_tr (mm_fr_rf (h := h)) gc (by decide +kernel)
    refine mm_rng (fun _ ho => ?_)
    have br : -2147483648 ≤ r ∧ r < 2147483648 := mm_ok_hd ho
    refine mm_i2l C (mm_dec dk_L_rules 5 rfl) ?_
    refine mm_last C (mm_dec dk_L_rules 6 rfl) rfl (by omega) (by omega) ?_
    refine mm_goto (tgt := 15) C (mm_dec dk_L_rules 7 rfl) (by decide) ?_
    refine mm_iconst C (mm_dec dk_L_rules 11 rfl) ⟨by decide, by decide⟩ ?_
    exact mm_iret C T (mm_dec dk_L_rules 12 rfl) (by decide) (by decide) ⟨_, rfl, ⟨by decide, by decide⟩, mm_inv_pa ic (show -9223372036854775808 ≤ r ∧ r ≤ 9223372036854775807 from ⟨by omega, by omega⟩), mm_fr_pa fc (by decide), (by have e0 : (mm_pa hc 124 0 r).1 0 12 = hc.1 0 12 := rfl; have ea : (mm_pa hc 124 0 r).2.1 124 0 = r := mm_pa_same _ _ _ _; revert ea e0; generalize mm_pa hc 124 0 r = H; intros; omega)⟩
  · obtain ⟨q, cx⟩ := q
    rw [q.1, q.2]
    refine mm_catch (nm := "java/lang/IllegalArgumentException") [] (⟨0, 9, 12, 58⟩ : ExceptionTableEntry) [] C htb (fun y hy => absurd hy List.not_mem_nil) (by decide) (by decide) ck_L_58 (by decide) (k := 3) (by decide) (Or.inr ⟨3, rfl, (mm_dec dk_L_rules 8 rfl)⟩) (pc2 := 13) ⟨fun z => (by have w := z.symm.trans (mm_dec dk_L_rules 8 rfl); cases w), fun _ => rfl⟩ ?_
    refine mm_iconst C (mm_dec dk_L_rules 9 rfl) ⟨by decide, by decide⟩ ?_
    exact mm_iret C T (mm_dec dk_L_rules 10 rfl) (by decide) (by decide) ⟨_, rfl, ⟨by decide, by decide⟩, i0, mm_fr_rf, by omega⟩
set_option maxRecDepth 100000 in
set_option maxHeartbeats 4000000 in
theorem c_L_track_q (l : Launch) (hl : l.stackTraces = false) (d : Nat) (hd : 10 ≤ d) (h : mH) (i0 : mm_inv h) (p1 : Int) (p2 : Int) : mm_MetH l d yL_track cL_track 5 (some .int) [(0, 10, 13, 13), (0, 10, 17, 58)] [mR 0, mI p1, mI p2, mR 124] h (mm_pi fun r h2 => (0 ≤ r ∧ r ≤ 2) ∧ mm_inv h2 ∧ mm_fr [(0, 12), (0, 14), (7, 10), (7, 11)] [26, 61, 124] h h2 ∧ ((0 ≤ p1 ∧ p1 < h.1 22 8 ∧ 0 ≤ p2 ∧ p2 ≤ h.1 0 12 ∧ h2.1 0 12 = 0) ∨ ((p1 < 0 ∨ h.1 22 8 ≤ p1 ∨ p2 < 0 ∨ h.1 0 12 < p2) ∧ h2.1 0 12 = h.1 0 12))) mm_nx 2 12 := by
  refine mm_ofWH (ls := [mR 0, mI p1, mI p2, mR 124, mU]) hl (by decide) rfl (Nat.le_of_ble_eq_true rfl) ?_
  intro x hxl C T htb
  subst hxl
  have C1 := mm_OK_le (d' := d - 1 + 1) (by omega) C
  refine mm_aload_n C (mm_dec dk_L_track 0 rfl) rfl ?_
  refine mm_iconst C (mm_dec dk_L_track 1 rfl) ⟨by decide, by decide⟩ ?_
  refine mm_aload_n C (mm_dec dk_L_track 2 rfl) rfl ?_
  refine mm_iload_n C (mm_dec dk_L_track 3 rfl) rfl ?_
  refine mm_iload_n C (mm_dec dk_L_track 4 rfl) rfl ?_
  refine mm_cVi (rest := [mI 0, mR 124]) C1 ev_L_96 (mm_dec dk_L_track 5 rfl) (c_X11_track_q x.2.1 hl (d - 1) (by omega) h i0 p1 p2) rfl rfl (Nat.le_of_ble_eq_true rfl) ⟨by decide, by decide⟩ rfl (fun r hc hp => ?_) (fun E hx q => ?_)
  · obtain ⟨b, ic, gc, y0⟩ := hp
    have fc : mm_fr [(0, 12), (0, 14), (7, 10), (7, 11)] [26, 61, 124] h hc := mm_fr_tr (mm_fr_rf (h := h)) gc (by decide +kernel)
    refine mm_rng (fun _ ho => ?_)
    have br : -2147483648 ≤ r ∧ r < 2147483648 := mm_ok_hd ho
    refine mm_i2l C (mm_dec dk_L_track 6 rfl) ?_
    refine mm_last C (mm_dec dk_L_track 7 rfl) rfl (by omega) (by omega) ?_
    refine mm_goto (tgt := 21) C (mm_dec dk_L_track 8 rfl) (by decide) ?_
    refine mm_iconst C (mm_dec dk_L_track 15 rfl) ⟨by decide, by decide⟩ ?_
    exact mm_iret C T (mm_dec dk_L_track 16 rfl) (by decide) (by decide) ⟨_, rfl, ⟨by decide, by decide⟩, mm_inv_pa ic (show -9223372036854775808 ≤ r ∧ r ≤ 9223372036854775807 from ⟨by omega, by omega⟩), mm_fr_pa fc (by decide), (by have e0 : (mm_pa hc 124 0 r).1 0 12 = hc.1 0 12 := rfl; have e1 : (mm_pa hc 124 0 r).1 22 8 = hc.1 22 8 := rfl; have ea : (mm_pa hc 124 0 r).2.1 124 0 = r := mm_pa_same _ _ _ _; revert ea e0 e1; generalize mm_pa hc 124 0 r = H; intros; omega)⟩
  · obtain ⟨q, cx⟩ := q
    rcases q with ⟨q1, q2⟩ | ⟨q1, q2⟩
    · rw [q1, q2]
      refine mm_catch (nm := "java/util/NoSuchElementException") [] (⟨0, 10, 13, 13⟩ : ExceptionTableEntry) [(⟨0, 10, 17, 58⟩ : ExceptionTableEntry)] C htb (fun y hy => absurd hy List.not_mem_nil) (by decide) (by decide) ck_L_13 (by decide) (k := 4) (by decide) (Or.inl (mm_dec dk_L_track 9 rfl)) (pc2 := 15) ⟨fun _ => rfl, fun ⟨_, _, z⟩ => (by have w := z.symm.trans (mm_dec dk_L_track 9 rfl); cases w)⟩ ?_
      refine mm_iconst C (mm_dec dk_L_track 10 rfl) ⟨by decide, by decide⟩ ?_
      exact mm_iret C T (mm_dec dk_L_track 11 rfl) (by decide) (by decide) ⟨_, rfl, ⟨by decide, by decide⟩, i0, mm_fr_rf, by omega⟩
    · rw [q1, q2]
      refine mm_catch (nm := "java/lang/IllegalArgumentException") [(⟨0, 10, 13, 13⟩ : ExceptionTableEntry)] (⟨0, 10, 17, 58⟩ : ExceptionTableEntry) [] C htb (fun y hy => by rw [List.mem_singleton.mp hy]; exact Or.inr ⟨by decide, _, ck_L_13, by decide⟩) (by decide) (by decide) ck_L_58 (by decide) (k := 4) (by decide) (Or.inl (mm_dec dk_L_track 12 rfl)) (pc2 := 19) ⟨fun _ => rfl, fun ⟨_, _, z⟩ => (by have w := z.symm.trans (mm_dec dk_L_track 12 rfl); cases w)⟩ ?_
      refine mm_iconst C (mm_dec dk_L_track 13 rfl) ⟨by decide, by decide⟩ ?_
      exact mm_iret C T (mm_dec dk_L_track 14 rfl) (by decide) (by decide) ⟨_, rfl, ⟨by decide, by decide⟩, i0, mm_fr_rf, by omega⟩
