set_option maxRecDepth 100000 in
set_option maxHeartbeats 4000000 in
theorem c_L_go_q (l : Launch) (hl : l.stackTraces = false) (d : Nat) (hd : 9 ≤ d) (h : mH) (i0 : mm_inv h) (p1 : Int) : mm_MetH l d yL_go cL_go 4 (some .int) [(0, 9, 12, 58)] [mR 0, mI p1, mR 124] h (mm_pi fun r h2 => (0 ≤ r ∧ r ≤ 2) ∧ mm_inv h2 ∧ mm_fr [(0, 13)] [124] h h2 ∧ ((r = 0 ∧ 0 ≤ p1 ∧ p1 ≤ 99999 - h.1 0 13 ∧ h2.1 0 13 = h.1 0 13 + p1 ∧ h2.2.1 124 0 = h2.1 0 13) ∨ (r = 1 ∧ (p1 < 0 ∨ 99999 - h.1 0 13 < p1) ∧ h2.1 0 13 = h.1 0 13))) mm_nx 1 6 := by
  refine mm_ofWH (ls := [mR 0, mI p1, mR 124, mU]) hl (by decide) rfl (Nat.le_of_ble_eq_true rfl) ?_
  intro x hxl C T htb
  subst hxl
  have C1 := mm_OK_le (d' := d - 1 + 1) (by omega) C
  refine mm_aload_n C (mm_dec dk_L_go 0 rfl) rfl ?_
  refine mm_iconst C (mm_dec dk_L_go 1 rfl) ⟨by decide, by decide⟩ ?_
  refine mm_aload_n C (mm_dec dk_L_go 2 rfl) rfl ?_
  refine mm_iload_n C (mm_dec dk_L_go 3 rfl) rfl ?_
  refine mm_cVi (rest := [mI 0, mR 124]) C1 ev_L_55 (mm_dec dk_L_go 4 rfl) (c_X11_go_q x.2.1 hl (d - 1) (by omega) h i0 p1) rfl rfl (Nat.le_of_ble_eq_true rfl) ⟨by decide, by decide⟩ rfl (fun r hc hp => ?_) (fun E hx q => ?_)
  · obtain ⟨b, ic, gc, y0⟩ := hp
    have fc : mm_fr [(0, 13)] [124] h hc := mm_fr_tr (mm_fr_rf (h := h)) gc (by decide +kernel)
    refine mm_rng (fun _ ho => ?_)
    have br : -2147483648 ≤ r ∧ r < 2147483648 := mm_ok_hd ho
    refine mm_i2l C (mm_dec dk_L_go 5 rfl) ?_
    refine mm_last C (mm_dec dk_L_go 6 rfl) rfl (by omega) (by omega) ?_
    refine mm_goto (tgt := 15) C (mm_dec dk_L_go 7 rfl) (by decide) ?_
    refine mm_iconst C (mm_dec dk_L_go 11 rfl) ⟨by decide, by decide⟩ ?_
    exact mm_iret C T (mm_dec dk_L_go 12 rfl) (by decide) (by decide) ⟨_, rfl, ⟨by decide, by decide⟩, mm_inv_pa ic (show -9223372036854775808 ≤ r ∧ r ≤ 9223372036854775807 from ⟨by omega, by omega⟩), mm_fr_pa fc (by decide), (by have e0 : (mm_pa hc 124 0 r).1 0 13 = hc.1 0 13 := rfl; have ea : (mm_pa hc 124 0 r).2.1 124 0 = r := mm_pa_same _ _ _ _; revert ea e0; generalize mm_pa hc 124 0 r = H; intros; omega)⟩
  · obtain ⟨q, cx⟩ := q
    rw [q.1, q.2]
    refine mm_catch (nm := "java/lang/IllegalArgumentException") [] (⟨0, 9, 12, 58⟩ : ExceptionTableEntry) [] C htb (fun y hy => absurd hy List.not_mem_nil) (by decide) (by decide) ck_L_58 (by decide) (k := 3) (by decide) (Or.inr ⟨3, rfl, (mm_dec dk_L_go 8 rfl)⟩) (pc2 := 13) ⟨fun z => (by have w := z.symm.trans (mm_dec dk_L_go 8 rfl); cases w), fun _ => rfl⟩ ?_
    refine mm_iconst C (mm_dec dk_L_go 9 rfl) ⟨by decide, by decide⟩ ?_
    exact mm_iret C T (mm_dec dk_L_go 10 rfl) (by decide) (by decide) ⟨_, rfl, ⟨by decide, by decide⟩, i0, mm_fr_rf, by omega⟩
set_option maxRecDepth 100000 in
set_option maxHeartbeats 4000000 in
theorem c_L_runner_q (l : Launch) (hl : l.stackTraces = false) (d : Nat) (hd : 10 ≤ d) (h : mH) (i0 : mm_inv h) (p1 : Int) (p2 : Int) (p3 : Int) : mm_MetH l d yL_runner cL_runner 6 (some .int) [(0, 12, 15, 13)] [mR 0, mI p1, mI p2, mI p3, mR 124] h (mm_pi fun r h2 => (0 ≤ r ∧ r ≤ 2) ∧ mm_inv h2 ∧ mm_fr [(22, 8)] [18, 23, 24, 25, 26, 27, 28, 124] h h2 ∧ ((r = 0 ∧ 0 ≤ p1 ∧ p1 < h.1 14 8 ∧ (((h.1 22 8 ≤ 39 ∧ 0 ≤ p2 ∧ p2 ≤ 9 ∧ 0 ≤ p3 ∧ p3 ≤ 80) ∧ h2.2.1 124 0 = h.1 22 8 ∧ h2.1 22 8 = h.1 22 8 + 1) ∨ ((40 ≤ h.1 22 8 ∨ p2 < 0 ∨ 9 < p2 ∨ p3 < 0 ∨ 80 < p3) ∧ h2.2.1 124 0 = -1 ∧ h2.1 22 8 = h.1 22 8))) ∨ (r = 1 ∧ (p1 < 0 ∨ h.1 14 8 ≤ p1) ∧ h2.1 22 8 = h.1 22 8)) ∧ (∃ f : Int, ((f = 1 ∧ h2.1 22 8 = h.1 22 8 + 1) ∨ (f = 0 ∧ h2.1 22 8 = h.1 22 8)) ∧ mm_up h h2 18 p1 1 f ∧ mm_up h h2 23 (h.1 22 8) p1 f ∧ mm_up h h2 25 (h.1 22 8) p3 f ∧ mm_up h h2 28 (h.1 22 8) 0 f ∧ mm_up h h2 24 (h.1 22 8) p2 f ∧ mm_up h h2 27 (h.1 22 8) (-1) f)) mm_nx 1 6 := by
  refine mm_ofWH (ls := [mR 0, mI p1, mI p2, mI p3, mR 124, mU]) hl (by decide) rfl (Nat.le_of_ble_eq_true rfl) ?_
  intro x hxl C T htb
  subst hxl
  have C1 := mm_OK_le (d' := d - 1 + 1) (by omega) C
  refine mm_aload C (mm_dec dk_L_runner 0 rfl) rfl ?_
  refine mm_iconst C (mm_dec dk_L_runner 1 rfl) ⟨by decide, by decide⟩ ?_
  refine mm_aload_n C (mm_dec dk_L_runner 2 rfl) rfl ?_
  refine mm_iload_n C (mm_dec dk_L_runner 3 rfl) rfl ?_
  refine mm_iload_n C (mm_dec dk_L_runner 4 rfl) rfl ?_
  refine mm_iload_n C (mm_dec dk_L_runner 5 rfl) rfl ?_
  refine mm_cVi (rest := [mI 0, mR 124]) C1 ev_L_45 (mm_dec dk_L_runner 6 rfl) (c_X11_runner_q x.2.1 hl (d - 1) (by omega) h i0 p1 p2 p3) rfl rfl (Nat.le_of_ble_eq_true rfl) ⟨by decide, by decide⟩ rfl (fun r hc hp => ?_) (fun E hx q => ?_)
  · obtain ⟨b, ic, gc, y0, y1, y2⟩ := hp
    have fc : mm_fr [(22, 8)] [18, 23, 24, 25, 26, 27, 28, 124] h hc := mm_fr_tr (mm_fr_rf (h := h)) gc (by decide +kernel)
    refine mm_rng (fun _ ho => ?_)
    have br : -2147483648 ≤ r ∧ r < 2147483648 := mm_ok_hd ho
    refine mm_i2l C (mm_dec dk_L_runner 7 rfl) ?_
    refine mm_last C (mm_dec dk_L_runner 8 rfl) rfl (by omega) (by omega) ?_
    refine mm_goto (tgt := 19) C (mm_dec dk_L_runner 9 rfl) (by decide) ?_
    refine mm_iconst C (mm_dec dk_L_runner 13 rfl) ⟨by decide, by decide⟩ ?_
    exact mm_iret C T (mm_dec dk_L_runner 14 rfl) (by decide) (by decide) ⟨_, rfl, ⟨by decide, by decide⟩, mm_inv_pa ic (show -9223372036854775808 ≤ r ∧ r ≤ 9223372036854775807 from ⟨by omega, by omega⟩), mm_fr_pa fc (by decide), (by have e0 : (mm_pa hc 124 0 r).1 14 8 = hc.1 14 8 := rfl; have e1 : (mm_pa hc 124 0 r).1 22 8 = hc.1 22 8 := rfl; have ea : (mm_pa hc 124 0 r).2.1 124 0 = r := mm_pa_same _ _ _ _; revert ea e0 e1; generalize mm_pa hc 124 0 r = H; intros; omega), (by obtain ⟨f, hf, u1, u2, u3, u4, u5, u6⟩ := y2; refine ⟨f, ?_, mm_up_tr (fun _ => rfl) u1 (fun j => mm_pa_o 18 124 (by decide) j) rfl Iff.rfl, mm_up_tr (fun _ => rfl) u2 (fun j => mm_pa_o 23 124 (by decide) j) rfl Iff.rfl, mm_up_tr (fun _ => rfl) u3 (fun j => mm_pa_o 25 124 (by decide) j) rfl Iff.rfl, mm_up_tr (fun _ => rfl) u4 (fun j => mm_pa_o 28 124 (by decide) j) rfl Iff.rfl, mm_up_tr (fun _ => rfl) u5 (fun j => mm_pa_o 24 124 (by decide) j) rfl Iff.rfl, mm_up_tr (fun _ => rfl) u6 (fun j => mm_pa_o 27 124 (by decide) j) rfl Iff.rfl⟩; have e0 : (mm_pa hc 124 0 r).1 14 8 = hc.1 14 8 := rfl; have e1 : (mm_pa hc 124 0 r).1 22 8 = hc.1 22 8 := rfl; have ea : (mm_pa hc 124 0 r).2.1 124 0 = r := mm_pa_same _ _ _ _; revert ea e0 e1; generalize mm_pa hc 124 0 r = H; intros; omega)⟩
  · obtain ⟨q, cx⟩ := q
    rw [q.1, q.2]
    refine mm_catch (nm := "java/util/NoSuchElementException") [] (⟨0, 12, 15, 13⟩ : ExceptionTableEntry) [] C htb (fun y hy => absurd hy List.not_mem_nil) (by decide) (by decide) ck_L_13 (by decide) (k := 5) (by decide) (Or.inl (mm_dec dk_L_runner 10 rfl)) (pc2 := 17) ⟨fun _ => rfl, fun ⟨_, _, z⟩ => (by have w := z.symm.trans (mm_dec dk_L_runner 10 rfl); cases w)⟩ ?_
    refine mm_iconst C (mm_dec dk_L_runner 11 rfl) ⟨by decide, by decide⟩ ?_
    exact mm_iret C T (mm_dec dk_L_runner 12 rfl) (by decide) (by decide) ⟨_, rfl, ⟨by decide, by decide⟩, i0, mm_fr_rf, by omega, (by exact ⟨0, Or.inr ⟨rfl, rfl⟩, mm_up_no (by decide) (fun _ => rfl), mm_up_no (by decide) (fun _ => rfl), mm_up_no (by decide) (fun _ => rfl), mm_up_no (by decide) (fun _ => rfl), mm_up_no (by decide) (fun _ => rfl), mm_up_no (by decide) (fun _ => rfl)⟩)⟩
set_option maxRecDepth 100000 in
set_option maxHeartbeats 4000000 in
theorem c_L_rules_q (l : Launch) (hl : l.stackTraces = false) (d : Nat) (hd : 51 ≤ d) (h : mH) (i0 : mm_inv h) (p1 : Int) : mm_MetH l d yL_rules cL_rules 4 (some .int) [(0, 9, 12, 58)] [mR 0, mI p1, mR 124] h (mm_pi fun r h2 => (0 ≤ r ∧ r ≤ 2) ∧ mm_inv h2 ∧ mm_fr [(0, 12), (0, 14), (42, 3), (63, 3), (63, 4), (63, 5), (63, 6), (63, 7), (63, 8), (63, 9), (63, 10)] [43, 44, 64, 65, 124] h h2 ∧ ((r = 0 ∧ 0 ≤ p1 ∧ p1 ≤ h.1 0 12 ∧ h2.1 0 12 = 0) ∨ (r = 1 ∧ (p1 < 0 ∨ h.1 0 12 < p1) ∧ h2.1 0 12 = h.1 0 12 ∧ h2.1 0 14 = h.1 0 14)) ∧ (0 ≤ r ∧ (r = 0 → mm_RC h h2 p1 (h2.2.1 124 0) (h2.1 0 14)) ∧ (r ≠ 0 → ∀ w, h2.2.1 44 w = h.2.1 44 w) ∧ (r = 0 → mm_RCj h h2 p1 (h2.2.1 124 0)) ∧ (r ≠ 0 → h2.1 42 3 = h.1 42 3 ∧ ∀ j, h2.2.1 43 j = h.2.1 43 j))) mm_nx 1 6 := by
  refine mm_ofWH (ls := [mR 0, mI p1, mR 124, mU]) hl (by decide) rfl (Nat.le_of_ble_eq_true rfl) ?_
  intro x hxl C T htb
  subst hxl
  have C1 := mm_OK_le (d' := d - 1 + 1) (by omega) C
  refine mm_aload_n C (mm_dec dk_L_rules 0 rfl) rfl ?_
  refine mm_iconst C (mm_dec dk_L_rules 1 rfl) ⟨by decide, by decide⟩ ?_
  refine mm_aload_n C (mm_dec dk_L_rules 2 rfl) rfl ?_
  refine mm_iload_n C (mm_dec dk_L_rules 3 rfl) rfl ?_
  refine mm_cVi (rest := [mI 0, mR 124]) C1 ev_L_76 (mm_dec dk_L_rules 4 rfl) (c_X11_rules_q x.2.1 hl (d - 1) (by omega) h i0 p1) rfl rfl (Nat.le_of_ble_eq_true rfl) ⟨by decide, by decide⟩ rfl (fun r hc hp => ?_) (fun E hx q => ?_)
  · obtain ⟨b, ic, gc, y0, y1, y2⟩ := hp
    have fc : mm_fr [(0, 12), (0, 14), (42, 3), (63, 3), (63, 4), (63, 5), (63, 6), (63, 7), (63, 8), (63, 9), (63, 10)] [43, 44, 64, 65, 124] h hc := mm_fr_tr (mm_fr_rf (h := h)) gc (by decide +kernel)
    refine mm_rng (fun _ ho => ?_)
    have br : -2147483648 ≤ r ∧ r < 2147483648 := mm_ok_hd ho
    refine mm_i2l C (mm_dec dk_L_rules 5 rfl) ?_
    refine mm_last C (mm_dec dk_L_rules 6 rfl) rfl (by omega) (by omega) ?_
    refine mm_goto (tgt := 15) C (mm_dec dk_L_rules 7 rfl) (by decide) ?_
    refine mm_iconst C (mm_dec dk_L_rules 11 rfl) ⟨by decide, by decide⟩ ?_
    exact mm_iret C T (mm_dec dk_L_rules 12 rfl) (by decide) (by decide) ⟨_, rfl, ⟨by decide, by decide⟩, mm_inv_pa ic (show -9223372036854775808 ≤ r ∧ r ≤ 9223372036854775807 from ⟨by omega, by omega⟩), mm_fr_pa fc (by decide), (by have e0 : (mm_pa hc 124 0 r).1 0 12 = hc.1 0 12 := rfl; have e1 : (mm_pa hc 124 0 r).1 0 14 = hc.1 0 14 := rfl; have ea : (mm_pa hc 124 0 r).2.1 124 0 = r := mm_pa_same _ _ _ _; revert ea e0 e1; generalize mm_pa hc 124 0 r = H; intros; omega), (by refine ⟨?_, fun _ => mm_RC_pa y1, fun q => absurd rfl q, fun _ => mm_RCj_pa y2, fun q => absurd rfl q⟩; have e0 : (mm_pa hc 124 0 r).1 0 12 = hc.1 0 12 := rfl; have e1 : (mm_pa hc 124 0 r).1 0 14 = hc.1 0 14 := rfl; have ea : (mm_pa hc 124 0 r).2.1 124 0 = r := mm_pa_same _ _ _ _; revert ea e0 e1; generalize mm_pa hc 124 0 r = H; intros; omega)⟩
  · obtain ⟨q, cx⟩ := q
    rw [q.1, q.2]
    refine mm_catch (nm := "java/lang/IllegalArgumentException") [] (⟨0, 9, 12, 58⟩ : ExceptionTableEntry) [] C htb (fun y hy => absurd hy List.not_mem_nil) (by decide) (by decide) ck_L_58 (by decide) (k := 3) (by decide) (Or.inr ⟨3, rfl, (mm_dec dk_L_rules 8 rfl)⟩) (pc2 := 13) ⟨fun z => (by have w := z.symm.trans (mm_dec dk_L_rules 8 rfl); cases w), fun _ => rfl⟩ ?_
    refine mm_iconst C (mm_dec dk_L_rules 9 rfl) ⟨by decide, by decide⟩ ?_
    exact mm_iret C T (mm_dec dk_L_rules 10 rfl) (by decide) (by decide) ⟨_, rfl, ⟨by decide, by decide⟩, i0, mm_fr_rf, by omega, (by exact ⟨by decide, fun q => absurd q (by decide), fun _ _ => rfl, fun q => absurd q (by decide), fun _ => ⟨rfl, fun _ => rfl⟩⟩)⟩
set_option maxRecDepth 100000 in
set_option maxHeartbeats 4000000 in
theorem c_L_track_q (l : Launch) (hl : l.stackTraces = false) (d : Nat) (hd : 10 ≤ d) (h : mH) (i0 : mm_inv h) (p1 : Int) (p2 : Int) : mm_MetH l d yL_track cL_track 5 (some .int) [(0, 10, 13, 13), (0, 10, 17, 58)] [mR 0, mI p1, mI p2, mR 124] h (mm_pi fun r h2 => (0 ≤ r ∧ r ≤ 2) ∧ mm_inv h2 ∧ mm_fr [(0, 12), (0, 14), (7, 10), (7, 11)] [26, 61, 124] h h2 ∧ ((r = 0 ∧ 0 ≤ p1 ∧ p1 < h.1 22 8 ∧ 0 ≤ p2 ∧ p2 ≤ h.1 0 12 ∧ h2.1 0 12 = 0 ∧ h2.2.1 124 0 = mm_wX h p2) ∨ (r = 1 ∧ (p1 < 0 ∨ h.1 22 8 ≤ p1) ∧ h2.1 0 12 = h.1 0 12) ∨ (r = 2 ∧ 0 ≤ p1 ∧ p1 < h.1 22 8 ∧ (p2 < 0 ∨ h.1 0 12 < p2) ∧ h2.1 0 12 = h.1 0 12)) ∧ ((r = 0 ∧ mm_fp (mm_WX h) p2 (h2.1 0 14)) ∨ (r ≠ 0 ∧ h2.1 0 14 = h.1 0 14))) mm_nx 2 12 := by
  refine mm_ofWH (ls := [mR 0, mI p1, mI p2, mR 124, mU]) hl (by decide) rfl (Nat.le_of_ble_eq_true rfl) ?_
  intro x hxl C T htb
  subst hxl
  have C1 := mm_OK_le (d' := d - 1 + 1) (by omega) C
  refine mm_aload_n C (mm_dec dk_L_track 0 rfl) rfl ?_
  refine mm_iconst C (mm_dec dk_L_track 1 rfl) ⟨by decide, by decide⟩ ?_
  refine mm_aload_n C (mm_dec dk_L_track 2 rfl) rfl ?_
  refine mm_iload_n C (mm_dec dk_L_track 3 rfl) rfl ?_
  refine mm_iload_n C (mm_dec dk_L_track 4 rfl) rfl ?_
  refine mm_cVi (rest := [mI 0, mR 124]) C1 ev_L_96 (mm_dec dk_L_track 5 rfl) (c_X11_track_q x.2.1 hl (d - 1) (by omega) h i0 p1 p2) rfl rfl (Nat.le_of_ble_eq_true rfl) ⟨by decide, by decide⟩ rfl (fun r hc hp => ?_) (fun E hx q => ?_)
  · obtain ⟨b, ic, gc, y0, y1, y2⟩ := hp
    have fc : mm_fr [(0, 12), (0, 14), (7, 10), (7, 11)] [26, 61, 124] h hc := mm_fr_tr (mm_fr_rf (h := h)) gc (by decide +kernel)
    refine mm_rng (fun _ ho => ?_)
    have br : -2147483648 ≤ r ∧ r < 2147483648 := mm_ok_hd ho
    refine mm_i2l C (mm_dec dk_L_track 6 rfl) ?_
    refine mm_last C (mm_dec dk_L_track 7 rfl) rfl (by omega) (by omega) ?_
    refine mm_goto (tgt := 21) C (mm_dec dk_L_track 8 rfl) (by decide) ?_
    refine mm_iconst C (mm_dec dk_L_track 15 rfl) ⟨by decide, by decide⟩ ?_
    exact mm_iret C T (mm_dec dk_L_track 16 rfl) (by decide) (by decide) ⟨_, rfl, ⟨by decide, by decide⟩, mm_inv_pa ic (show -9223372036854775808 ≤ r ∧ r ≤ 9223372036854775807 from ⟨by omega, by omega⟩), mm_fr_pa fc (by decide), (by have e0 : (mm_pa hc 124 0 r).1 0 12 = hc.1 0 12 := rfl; have e1 : (mm_pa hc 124 0 r).1 0 14 = hc.1 0 14 := rfl; have ea : (mm_pa hc 124 0 r).2.1 124 0 = r := mm_pa_same _ _ _ _; revert ea e0 e1; generalize mm_pa hc 124 0 r = H; intros; omega), (by refine Or.inl ⟨?_, y2⟩; have e0 : (mm_pa hc 124 0 r).1 0 12 = hc.1 0 12 := rfl; have e1 : (mm_pa hc 124 0 r).1 0 14 = hc.1 0 14 := rfl; have ea : (mm_pa hc 124 0 r).2.1 124 0 = r := mm_pa_same _ _ _ _; revert ea e0 e1; generalize mm_pa hc 124 0 r = H; intros; omega)⟩
  · rcases q with ⟨⟨q1, q2⟩, cx⟩ | ⟨⟨q1, q2⟩, cx⟩
    · rw [q1, q2]
      refine mm_catch (nm := "java/util/NoSuchElementException") [] (⟨0, 10, 13, 13⟩ : ExceptionTableEntry) [(⟨0, 10, 17, 58⟩ : ExceptionTableEntry)] C htb (fun y hy => absurd hy List.not_mem_nil) (by decide) (by decide) ck_L_13 (by decide) (k := 4) (by decide) (Or.inl (mm_dec dk_L_track 9 rfl)) (pc2 := 15) ⟨fun _ => rfl, fun ⟨_, _, z⟩ => (by have w := z.symm.trans (mm_dec dk_L_track 9 rfl); cases w)⟩ ?_
      refine mm_iconst C (mm_dec dk_L_track 10 rfl) ⟨by decide, by decide⟩ ?_
      exact mm_iret C T (mm_dec dk_L_track 11 rfl) (by decide) (by decide) ⟨_, rfl, ⟨by decide, by decide⟩, i0, mm_fr_rf, by omega, (by exact Or.inr ⟨by decide, rfl⟩)⟩
    · rw [q1, q2]
      refine mm_catch (nm := "java/lang/IllegalArgumentException") [(⟨0, 10, 13, 13⟩ : ExceptionTableEntry)] (⟨0, 10, 17, 58⟩ : ExceptionTableEntry) [] C htb (fun y hy => by rw [List.mem_singleton.mp hy]; exact Or.inr ⟨by decide, _, ck_L_13, by decide⟩) (by decide) (by decide) ck_L_58 (by decide) (k := 4) (by decide) (Or.inl (mm_dec dk_L_track 12 rfl)) (pc2 := 19) ⟨fun _ => rfl, fun ⟨_, _, z⟩ => (by have w := z.symm.trans (mm_dec dk_L_track 12 rfl); cases w)⟩ ?_
      refine mm_iconst C (mm_dec dk_L_track 13 rfl) ⟨by decide, by decide⟩ ?_
      exact mm_iret C T (mm_dec dk_L_track 14 rfl) (by decide) (by decide) ⟨_, rfl, ⟨by decide, by decide⟩, i0, mm_fr_rf, by omega, (by exact Or.inr ⟨by decide, rfl⟩)⟩
set_option maxRecDepth 100000 in
set_option maxHeartbeats 4000000 in
theorem c_L_wall_q (l : Launch) (hl : l.stackTraces = false) (d : Nat) (hd : 10 ≤ d) (h : mH) (i0 : mm_inv h) (p1 : Int) (p2 : Int) (p3 : Int) (p4 : Int) (bp4 : 0 ≤ p4 ∧ p4 ≤ 1) : mm_MetH l d yL_wall cL_wall 7 (some .int) [(0, 21, 24, 13)] [mR 0, mI p1, mI p2, mI p3, mI p4, mR 124] h (mm_pi fun r h2 => (0 ≤ r ∧ r ≤ 2) ∧ mm_inv h2 ∧ mm_fr [] [4, 5, 124] h h2 ∧ ((r = 0 ∧ (0 ≤ p1 ∧ p1 < h.1 1 5 ∧ 0 ≤ p2 ∧ p2 < h.1 1 6) ∧ ((h2.2.1 124 0 = 1 ∧ (h.1 22 8 ≤ 0 ∧ ((p3 = 1 ∧ p1 + 1 < h.1 1 5) ∨ (p3 = 2 ∧ p2 + 1 < h.1 1 6)))) ∨ (h2.2.1 124 0 = 0 ∧ (0 < h.1 22 8 ∨ (p3 ≠ 1 ∧ p3 ≠ 2) ∨ (p3 = 1 ∧ h.1 1 5 ≤ p1 + 1) ∨ (p3 = 2 ∧ h.1 1 6 ≤ p2 + 1))))) ∨ (r = 1 ∧ (p1 < 0 ∨ h.1 1 5 ≤ p1 ∨ p2 < 0 ∨ h.1 1 6 ≤ p2))) ∧ (∃ f g : Int, (((r = 1 ∨ h2.2.1 124 0 = 0) ∧ f = 0 ∧ g = 0) ∨ (r = 0 ∧ h2.2.1 124 0 = 1 ∧ p3 = 1 ∧ f = 1 ∧ g = 0) ∨ (r = 0 ∧ h2.2.1 124 0 = 1 ∧ p3 ≠ 1 ∧ f = 0 ∧ g = 1)) ∧ mm_up h h2 4 (20 * p2 + p1) p4 f ∧ mm_up h h2 5 (20 * p2 + p1) p4 g)) mm_nx 1 6 := by
  refine mm_ofWH (ls := [mR 0, mI p1, mI p2, mI p3, mI p4, mR 124, mU]) hl (by decide) rfl (Nat.le_of_ble_eq_true rfl) ?_
  intro x hxl C T htb
  subst hxl
  have C1 := mm_OK_le (d' := d - 1 + 1) (by omega) C
  refine mm_aload C (mm_dec dk_L_wall 0 rfl) rfl ?_
  refine mm_iconst C (mm_dec dk_L_wall 1 rfl) ⟨by decide, by decide⟩ ?_
  refine mm_aload_n C (mm_dec dk_L_wall 2 rfl) rfl ?_
  refine mm_iload_n C (mm_dec dk_L_wall 3 rfl) rfl ?_
  refine mm_iload_n C (mm_dec dk_L_wall 4 rfl) rfl ?_
  refine mm_iload_n C (mm_dec dk_L_wall 5 rfl) rfl ?_
  refine mm_iload C (mm_dec dk_L_wall 6 rfl) rfl ?_
  refine mm_cVi (rest := [mI 0, mR 124]) C1 ev_L_19 (mm_dec dk_L_wall 7 rfl) (c_X11_wall_q x.2.1 hl (d - 1) (by omega) h i0 p1 p2 p3 p4 ⟨by omega, by omega⟩) rfl rfl (Nat.le_of_ble_eq_true rfl) ⟨by decide, by decide⟩ rfl (fun r hc hp => ?_) (fun E hx q => ?_)
  · obtain ⟨b, ic, gc, y0, y1, y2⟩ := hp
    have fc : mm_fr [] [4, 5, 124] h hc := mm_fr_tr (mm_fr_rf (h := h)) gc (by decide +kernel)
    refine mm_if_eq (tgt := 19) C (mm_dec dk_L_wall 8 rfl) (by decide) (fun cr => ?_) (fun cr => ?_)
    · refine mm_lconst (z := 0) C (mm_dec dk_L_wall 11 rfl) rfl ?_
      refine mm_last C (mm_dec dk_L_wall 12 rfl) rfl (by omega) (by omega) ?_
      refine mm_goto (tgt := 28) C (mm_dec dk_L_wall 13 rfl) (by decide) ?_
      refine mm_iconst C (mm_dec dk_L_wall 17 rfl) ⟨by decide, by decide⟩ ?_
      exact mm_iret C T (mm_dec dk_L_wall 18 rfl) (by decide) (by decide) ⟨_, rfl, ⟨by decide, by decide⟩, mm_inv_pa ic (show -9223372036854775808 ≤ (0 : Int) ∧ (0 : Int) ≤ 9223372036854775807 from ⟨by omega, by omega⟩), mm_fr_pa fc (by decide), (by have ea : (mm_pa hc 124 0 (0 : Int)).2.1 124 0 = (0 : Int) := mm_pa_same _ _ _ _; revert ea ; generalize mm_pa hc 124 0 (0 : Int) = H; intros; omega), (by obtain ⟨f, g, hf, uf, ug⟩ := y2; refine ⟨f, g, ?_, mm_up_tr (fun _ => rfl) uf (fun j => mm_pa_o 4 124 (by decide) j) rfl Iff.rfl, mm_up_tr (fun _ => rfl) ug (fun j => mm_pa_o 5 124 (by decide) j) rfl Iff.rfl⟩; have ea : (mm_pa hc 124 0 (0 : Int)).2.1 124 0 = (0 : Int) := mm_pa_same _ _ _ _; revert ea ; generalize mm_pa hc 124 0 (0 : Int) = H; intros; omega)⟩
    · refine mm_lconst (z := 1) C (mm_dec dk_L_wall 9 rfl) rfl ?_
      refine mm_goto (tgt := 20) C (mm_dec dk_L_wall 10 rfl) (by decide) ?_
      refine mm_last C (mm_dec dk_L_wall 12 rfl) rfl (by omega) (by omega) ?_
      refine mm_goto (tgt := 28) C (mm_dec dk_L_wall 13 rfl) (by decide) ?_
      refine mm_iconst C (mm_dec dk_L_wall 17 rfl) ⟨by decide, by decide⟩ ?_
      exact mm_iret C T (mm_dec dk_L_wall 18 rfl) (by decide) (by decide) ⟨_, rfl, ⟨by decide, by decide⟩, mm_inv_pa ic (show -9223372036854775808 ≤ (1 : Int) ∧ (1 : Int) ≤ 9223372036854775807 from ⟨by omega, by omega⟩), mm_fr_pa fc (by decide), (by have ea : (mm_pa hc 124 0 (1 : Int)).2.1 124 0 = (1 : Int) := mm_pa_same _ _ _ _; revert ea ; generalize mm_pa hc 124 0 (1 : Int) = H; intros; omega), (by obtain ⟨f, g, hf, uf, ug⟩ := y2; refine ⟨f, g, ?_, mm_up_tr (fun _ => rfl) uf (fun j => mm_pa_o 4 124 (by decide) j) rfl Iff.rfl, mm_up_tr (fun _ => rfl) ug (fun j => mm_pa_o 5 124 (by decide) j) rfl Iff.rfl⟩; have ea : (mm_pa hc 124 0 (1 : Int)).2.1 124 0 = (1 : Int) := mm_pa_same _ _ _ _; revert ea ; generalize mm_pa hc 124 0 (1 : Int) = H; intros; omega)⟩
  · obtain ⟨q, cx⟩ := q
    rw [q.1, q.2]
    refine mm_catch (nm := "java/util/NoSuchElementException") [] (⟨0, 21, 24, 13⟩ : ExceptionTableEntry) [] C htb (fun y hy => absurd hy List.not_mem_nil) (by decide) (by decide) ck_L_13 (by decide) (k := 6) (by decide) (Or.inl (mm_dec dk_L_wall 14 rfl)) (pc2 := 26) ⟨fun _ => rfl, fun ⟨_, _, z⟩ => (by have w := z.symm.trans (mm_dec dk_L_wall 14 rfl); cases w)⟩ ?_
    refine mm_iconst C (mm_dec dk_L_wall 15 rfl) ⟨by decide, by decide⟩ ?_
    exact mm_iret C T (mm_dec dk_L_wall 16 rfl) (by decide) (by decide) ⟨_, rfl, ⟨by decide, by decide⟩, i0, mm_fr_rf, by omega, (by exact ⟨0, 0, Or.inl ⟨Or.inl rfl, rfl, rfl⟩, mm_up_no (by decide) (fun _ => rfl), mm_up_no (by decide) (fun _ => rfl)⟩)⟩
set_option maxRecDepth 100000 in
set_option maxHeartbeats 4000000 in
theorem c_L_gates_q (l : Launch) (hl : l.stackTraces = false) (d : Nat) (hd : 10 ≤ d) (h : mH) (i0 : mm_inv h) (p1 : Int) (p2 : Int) (p3 : Int) (p4 : Int) : mm_MetH l d yL_gates cL_gates 7 (some .int) [(0, 21, 24, 13)] [mR 0, mI p1, mI p2, mI p3, mI p4, mR 124] h (mm_pi fun r h2 => (0 ≤ r ∧ r ≤ 2) ∧ mm_inv h2 ∧ mm_fr [(1, 7), (1, 8)] [124] h h2 ∧ ((r = 0 ∧ (0 ≤ p1 ∧ p1 < h.1 1 5 ∧ 0 ≤ p2 ∧ p2 < h.1 1 6) ∧ (0 ≤ p3 ∧ p3 < h.1 1 5 ∧ 0 ≤ p4 ∧ p4 < h.1 1 6) ∧ ((h2.2.1 124 0 = 1 ∧ h.1 22 8 ≤ 0 ∧ h2.1 1 7 = 20 * p2 + p1 ∧ h2.1 1 8 = 20 * p4 + p3) ∨ (h2.2.1 124 0 = 0 ∧ 0 < h.1 22 8 ∧ h2.1 1 7 = h.1 1 7 ∧ h2.1 1 8 = h.1 1 8))) ∨ (r = 1 ∧ ((p1 < 0 ∨ h.1 1 5 ≤ p1 ∨ p2 < 0 ∨ h.1 1 6 ≤ p2) ∨ (p3 < 0 ∨ h.1 1 5 ≤ p3 ∨ p4 < 0 ∨ h.1 1 6 ≤ p4)) ∧ h2.1 1 7 = h.1 1 7 ∧ h2.1 1 8 = h.1 1 8))) mm_nx 2 12 := by
  refine mm_ofWH (ls := [mR 0, mI p1, mI p2, mI p3, mI p4, mR 124, mU]) hl (by decide) rfl (Nat.le_of_ble_eq_true rfl) ?_
  intro x hxl C T htb
  subst hxl
  have C1 := mm_OK_le (d' := d - 1 + 1) (by omega) C
  refine mm_aload C (mm_dec dk_L_gates 0 rfl) rfl ?_
  refine mm_iconst C (mm_dec dk_L_gates 1 rfl) ⟨by decide, by decide⟩ ?_
  refine mm_aload_n C (mm_dec dk_L_gates 2 rfl) rfl ?_
  refine mm_iload_n C (mm_dec dk_L_gates 3 rfl) rfl ?_
  refine mm_iload_n C (mm_dec dk_L_gates 4 rfl) rfl ?_
  refine mm_iload_n C (mm_dec dk_L_gates 5 rfl) rfl ?_
  refine mm_iload C (mm_dec dk_L_gates 6 rfl) rfl ?_
  refine mm_cVi (rest := [mI 0, mR 124]) C1 ev_L_23 (mm_dec dk_L_gates 7 rfl) (c_X11_gates_q x.2.1 hl (d - 1) (by omega) h i0 p1 p2 p3 p4) rfl rfl (Nat.le_of_ble_eq_true rfl) ⟨by decide, by decide⟩ rfl (fun r hc hp => ?_) (fun E hx q => ?_)
  · obtain ⟨b, ic, gc, y0, y1, y2, y3, y4⟩ := hp
    have fc : mm_fr [(1, 7), (1, 8)] [124] h hc := mm_fr_tr (mm_fr_rf (h := h)) gc (by decide +kernel)
    refine mm_if_eq (tgt := 19) C (mm_dec dk_L_gates 8 rfl) (by decide) (fun cr => ?_) (fun cr => ?_)
    · refine mm_lconst (z := 0) C (mm_dec dk_L_gates 11 rfl) rfl ?_
      refine mm_last C (mm_dec dk_L_gates 12 rfl) rfl (by omega) (by omega) ?_
      refine mm_goto (tgt := 28) C (mm_dec dk_L_gates 13 rfl) (by decide) ?_
      refine mm_iconst C (mm_dec dk_L_gates 17 rfl) ⟨by decide, by decide⟩ ?_
      exact mm_iret C T (mm_dec dk_L_gates 18 rfl) (by decide) (by decide) ⟨_, rfl, ⟨by decide, by decide⟩, mm_inv_pa ic (show -9223372036854775808 ≤ (0 : Int) ∧ (0 : Int) ≤ 9223372036854775807 from ⟨by omega, by omega⟩), mm_fr_pa fc (by decide), (by have e0 : (mm_pa hc 124 0 (0 : Int)).1 1 7 = hc.1 1 7 := rfl; have e1 : (mm_pa hc 124 0 (0 : Int)).1 1 8 = hc.1 1 8 := rfl; have ea : (mm_pa hc 124 0 (0 : Int)).2.1 124 0 = (0 : Int) := mm_pa_same _ _ _ _; revert ea e0 e1; generalize mm_pa hc 124 0 (0 : Int) = H; intros; omega)⟩
    · refine mm_lconst (z := 1) C (mm_dec dk_L_gates 9 rfl) rfl ?_
      refine mm_goto (tgt := 20) C (mm_dec dk_L_gates 10 rfl) (by decide) ?_
      refine mm_last C (mm_dec dk_L_gates 12 rfl) rfl (by omega) (by omega) ?_
      refine mm_goto (tgt := 28) C (mm_dec dk_L_gates 13 rfl) (by decide) ?_
      refine mm_iconst C (mm_dec dk_L_gates 17 rfl) ⟨by decide, by decide⟩ ?_
      exact mm_iret C T (mm_dec dk_L_gates 18 rfl) (by decide) (by decide) ⟨_, rfl, ⟨by decide, by decide⟩, mm_inv_pa ic (show -9223372036854775808 ≤ (1 : Int) ∧ (1 : Int) ≤ 9223372036854775807 from ⟨by omega, by omega⟩), mm_fr_pa fc (by decide), (by have e0 : (mm_pa hc 124 0 (1 : Int)).1 1 7 = hc.1 1 7 := rfl; have e1 : (mm_pa hc 124 0 (1 : Int)).1 1 8 = hc.1 1 8 := rfl; have ea : (mm_pa hc 124 0 (1 : Int)).2.1 124 0 = (1 : Int) := mm_pa_same _ _ _ _; revert ea e0 e1; generalize mm_pa hc 124 0 (1 : Int) = H; intros; omega)⟩
  · obtain ⟨q, cx⟩ := q
    rw [q.1, q.2]
    refine mm_catch (nm := "java/util/NoSuchElementException") [] (⟨0, 21, 24, 13⟩ : ExceptionTableEntry) [] C htb (fun y hy => absurd hy List.not_mem_nil) (by decide) (by decide) ck_L_13 (by decide) (k := 6) (by decide) (Or.inl (mm_dec dk_L_gates 14 rfl)) (pc2 := 26) ⟨fun _ => rfl, fun ⟨_, _, z⟩ => (by have w := z.symm.trans (mm_dec dk_L_gates 14 rfl); cases w)⟩ ?_
    refine mm_iconst C (mm_dec dk_L_gates 15 rfl) ⟨by decide, by decide⟩ ?_
    exact mm_iret C T (mm_dec dk_L_gates 16 rfl) (by decide) (by decide) ⟨_, rfl, ⟨by decide, by decide⟩, i0, mm_fr_rf, by omega⟩
set_option maxRecDepth 100000 in
set_option maxHeartbeats 4000000 in
theorem c_L_post_q (l : Launch) (hl : l.stackTraces = false) (d : Nat) (hd : 10 ≤ d) (h : mH) (i0 : mm_inv h) (p1 : Int) (p2 : Int) (p3 : Int) : mm_MetH l d yL_post cL_post 6 (some .int) [(0, 12, 15, 13)] [mR 0, mI p1, mI p2, mI p3, mR 124] h (mm_pi fun r h2 => (0 ≤ r ∧ r ≤ 2) ∧ mm_inv h2 ∧ mm_fr [(14, 7)] [15, 16, 124] h h2 ∧ ((r = 0 ∧ (0 ≤ p1 ∧ p1 < h.1 1 5 ∧ 0 ≤ p2 ∧ p2 < h.1 1 6) ∧ ((h2.2.1 124 0 = h.1 14 7 ∧ (h.1 14 7 ≤ 19 ∧ 0 ≤ p3 ∧ p3 ≤ 99 ∧ 0 < h.2.1 6 (h.2.1 2 (20 * p2 + p1))) ∧ h2.1 14 7 = h.1 14 7 + 1) ∨ (h2.2.1 124 0 = -1 ∧ (20 ≤ h.1 14 7 ∨ p3 < 0 ∨ 99 < p3 ∨ h.2.1 6 (h.2.1 2 (20 * p2 + p1)) ≤ 0) ∧ h2.1 14 7 = h.1 14 7))) ∨ (r = 1 ∧ (p1 < 0 ∨ h.1 1 5 ≤ p1 ∨ p2 < 0 ∨ h.1 1 6 ≤ p2) ∧ h2.1 14 7 = h.1 14 7)) ∧ (∃ f : Int, ((f = 1 ∧ h2.1 14 7 = h.1 14 7 + 1) ∨ (f = 0 ∧ h2.1 14 7 = h.1 14 7)) ∧ mm_up h h2 15 (h.1 14 7) (20 * p2 + p1) f ∧ mm_up h h2 16 (h.1 14 7) p3 f)) mm_nx 1 6 := by
  refine mm_ofWH (ls := [mR 0, mI p1, mI p2, mI p3, mR 124, mU]) hl (by decide) rfl (Nat.le_of_ble_eq_true rfl) ?_
  intro x hxl C T htb
  subst hxl
  have C1 := mm_OK_le (d' := d - 1 + 1) (by omega) C
  refine mm_aload C (mm_dec dk_L_post 0 rfl) rfl ?_
  refine mm_iconst C (mm_dec dk_L_post 1 rfl) ⟨by decide, by decide⟩ ?_
  refine mm_aload_n C (mm_dec dk_L_post 2 rfl) rfl ?_
  refine mm_iload_n C (mm_dec dk_L_post 3 rfl) rfl ?_
  refine mm_iload_n C (mm_dec dk_L_post 4 rfl) rfl ?_
  refine mm_iload_n C (mm_dec dk_L_post 5 rfl) rfl ?_
  refine mm_cVi (rest := [mI 0, mR 124]) C1 ev_L_38 (mm_dec dk_L_post 6 rfl) (c_X11_post_q x.2.1 hl (d - 1) (by omega) h i0 p1 p2 p3) rfl rfl (Nat.le_of_ble_eq_true rfl) ⟨by decide, by decide⟩ rfl (fun r hc hp => ?_) (fun E hx q => ?_)
  · obtain ⟨b, ic, gc, y0, y1, y2⟩ := hp
    have fc : mm_fr [(14, 7)] [15, 16, 124] h hc := mm_fr_tr (mm_fr_rf (h := h)) gc (by decide +kernel)
    refine mm_rng (fun _ ho => ?_)
    have br : -2147483648 ≤ r ∧ r < 2147483648 := mm_ok_hd ho
    refine mm_i2l C (mm_dec dk_L_post 7 rfl) ?_
    refine mm_last C (mm_dec dk_L_post 8 rfl) rfl (by omega) (by omega) ?_
    refine mm_goto (tgt := 19) C (mm_dec dk_L_post 9 rfl) (by decide) ?_
    refine mm_iconst C (mm_dec dk_L_post 13 rfl) ⟨by decide, by decide⟩ ?_
    exact mm_iret C T (mm_dec dk_L_post 14 rfl) (by decide) (by decide) ⟨_, rfl, ⟨by decide, by decide⟩, mm_inv_pa ic (show -9223372036854775808 ≤ r ∧ r ≤ 9223372036854775807 from ⟨by omega, by omega⟩), mm_fr_pa fc (by decide), (by have e0 : (mm_pa hc 124 0 r).1 14 7 = hc.1 14 7 := rfl; have ea : (mm_pa hc 124 0 r).2.1 124 0 = r := mm_pa_same _ _ _ _; revert ea e0; generalize mm_pa hc 124 0 r = H; intros; omega), (by obtain ⟨f, hf, uf, ug⟩ := y2; have bp : 0 ≤ h.1 14 7 ∧ h.1 14 7 ≤ 20 := i0.1 14 7; refine ⟨f, ?_, mm_up_tr (fun _ => rfl) uf (fun j => mm_pa_o 15 124 (by decide) j) rfl Iff.rfl, mm_up_tr (fun _ => rfl) ug (fun j => mm_pa_o 16 124 (by decide) j) rfl Iff.rfl⟩; have e0 : (mm_pa hc 124 0 r).1 14 7 = hc.1 14 7 := rfl; have ea : (mm_pa hc 124 0 r).2.1 124 0 = r := mm_pa_same _ _ _ _; revert ea e0; generalize mm_pa hc 124 0 r = H; intros; omega)⟩
  · obtain ⟨q, cx⟩ := q
    rw [q.1, q.2]
    refine mm_catch (nm := "java/util/NoSuchElementException") [] (⟨0, 12, 15, 13⟩ : ExceptionTableEntry) [] C htb (fun y hy => absurd hy List.not_mem_nil) (by decide) (by decide) ck_L_13 (by decide) (k := 5) (by decide) (Or.inl (mm_dec dk_L_post 10 rfl)) (pc2 := 17) ⟨fun _ => rfl, fun ⟨_, _, z⟩ => (by have w := z.symm.trans (mm_dec dk_L_post 10 rfl); cases w)⟩ ?_
    refine mm_iconst C (mm_dec dk_L_post 11 rfl) ⟨by decide, by decide⟩ ?_
    exact mm_iret C T (mm_dec dk_L_post 12 rfl) (by decide) (by decide) ⟨_, rfl, ⟨by decide, by decide⟩, i0, mm_fr_rf, by omega, (by exact ⟨0, Or.inr ⟨rfl, rfl⟩, mm_up_no (by decide) (fun _ => rfl), mm_up_no (by decide) (fun _ => rfl)⟩)⟩
set_option maxRecDepth 100000 in
set_option maxHeartbeats 4000000 in
theorem c_L_cell_q (l : Launch) (hl : l.stackTraces = false) (d : Nat) (hd : 10 ≤ d) (h : mH) (i0 : mm_inv h) (p1 : Int) (p2 : Int) (p3 : Int) (p4 : Int) : mm_MetH l d yL_cell cL_cell 7 (some .int) [(0, 21, 24, 13)] [mR 0, mI p1, mI p2, mI p3, mI p4, mR 124] h (mm_pi fun r h2 => (0 ≤ r ∧ r ≤ 2) ∧ mm_inv h2 ∧ mm_fr [] [2, 3, 124] h h2 ∧ ((r = 0 ∧ (0 ≤ p1 ∧ p1 < h.1 1 5 ∧ 0 ≤ p2 ∧ p2 < h.1 1 6) ∧ ((h2.2.1 124 0 = 1 ∧ (h.1 22 8 ≤ 0 ∧ 0 ≤ p3 ∧ p3 ≤ 7 ∧ 0 ≤ p4 ∧ p4 ≤ 99 ∧ (h.2.1 6 p3 ≠ 0 ∨ mm_fd (h.2.1 15) (20 * p2 + p1) (h.1 14 7).toNat = 0))) ∨ (h2.2.1 124 0 = 0 ∧ ((0 < h.1 22 8 ∨ p3 < 0 ∨ 7 < p3 ∨ p4 < 0 ∨ 99 < p4) ∨ (h.2.1 6 p3 = 0 ∧ mm_fd (h.2.1 15) (20 * p2 + p1) (h.1 14 7).toNat = 1))))) ∨ (r = 1 ∧ (p1 < 0 ∨ h.1 1 5 ≤ p1 ∨ p2 < 0 ∨ h.1 1 6 ≤ p2))) ∧ (∃ f : Int, ((f = 1 ∧ r = 0 ∧ h2.2.1 124 0 = 1) ∨ (f = 0 ∧ (r = 1 ∨ h2.2.1 124 0 = 0))) ∧ mm_up h h2 2 (20 * p2 + p1) p3 f ∧ mm_up h h2 3 (20 * p2 + p1) p4 f)) mm_nx 1 6 := by
  refine mm_ofWH (ls := [mR 0, mI p1, mI p2, mI p3, mI p4, mR 124, mU]) hl (by decide) rfl (Nat.le_of_ble_eq_true rfl) ?_
  intro x hxl C T htb
  subst hxl
  have C1 := mm_OK_le (d' := d - 1 + 1) (by omega) C
  refine mm_aload C (mm_dec dk_L_cell 0 rfl) rfl ?_
  refine mm_iconst C (mm_dec dk_L_cell 1 rfl) ⟨by decide, by decide⟩ ?_
  refine mm_aload_n C (mm_dec dk_L_cell 2 rfl) rfl ?_
  refine mm_iload_n C (mm_dec dk_L_cell 3 rfl) rfl ?_
  refine mm_iload_n C (mm_dec dk_L_cell 4 rfl) rfl ?_
  refine mm_iload_n C (mm_dec dk_L_cell 5 rfl) rfl ?_
  refine mm_iload C (mm_dec dk_L_cell 6 rfl) rfl ?_
  refine mm_cVi (rest := [mI 0, mR 124]) C1 ev_L_7 (mm_dec dk_L_cell 7 rfl) (c_X11_cell_q x.2.1 hl (d - 1) (by omega) h i0 p1 p2 p3 p4) rfl rfl (Nat.le_of_ble_eq_true rfl) ⟨by decide, by decide⟩ rfl (fun r hc hp => ?_) (fun E hx q => ?_)
  · obtain ⟨b, ic, gc, y0, y1, y2, y3⟩ := hp
    have fc : mm_fr [] [2, 3, 124] h hc := mm_fr_tr (mm_fr_rf (h := h)) gc (by decide +kernel)
    refine mm_if_eq (tgt := 19) C (mm_dec dk_L_cell 8 rfl) (by decide) (fun cr => ?_) (fun cr => ?_)
    · refine mm_lconst (z := 0) C (mm_dec dk_L_cell 11 rfl) rfl ?_
      refine mm_last C (mm_dec dk_L_cell 12 rfl) rfl (by omega) (by omega) ?_
      refine mm_goto (tgt := 28) C (mm_dec dk_L_cell 13 rfl) (by decide) ?_
      refine mm_iconst C (mm_dec dk_L_cell 17 rfl) ⟨by decide, by decide⟩ ?_
      exact mm_iret C T (mm_dec dk_L_cell 18 rfl) (by decide) (by decide) ⟨_, rfl, ⟨by decide, by decide⟩, mm_inv_pa ic (show -9223372036854775808 ≤ (0 : Int) ∧ (0 : Int) ≤ 9223372036854775807 from ⟨by omega, by omega⟩), mm_fr_pa fc (by decide), (by have ea : (mm_pa hc 124 0 (0 : Int)).2.1 124 0 = (0 : Int) := mm_pa_same _ _ _ _; revert ea ; generalize mm_pa hc 124 0 (0 : Int) = H; intros; omega), (by refine ⟨r, ?_, mm_up_tr (fun _ => rfl) y2 (fun j => mm_pa_o 2 124 (by decide) j) rfl Iff.rfl, mm_up_tr (fun _ => rfl) y3 (fun j => mm_pa_o 3 124 (by decide) j) rfl Iff.rfl⟩; have ea : (mm_pa hc 124 0 (0 : Int)).2.1 124 0 = (0 : Int) := mm_pa_same _ _ _ _; revert ea ; generalize mm_pa hc 124 0 (0 : Int) = H; intros; omega)⟩
    · refine mm_lconst (z := 1) C (mm_dec dk_L_cell 9 rfl) rfl ?_
      refine mm_goto (tgt := 20) C (mm_dec dk_L_cell 10 rfl) (by decide) ?_
      refine mm_last C (mm_dec dk_L_cell 12 rfl) rfl (by omega) (by omega) ?_
      refine mm_goto (tgt := 28) C (mm_dec dk_L_cell 13 rfl) (by decide) ?_
      refine mm_iconst C (mm_dec dk_L_cell 17 rfl) ⟨by decide, by decide⟩ ?_
      exact mm_iret C T (mm_dec dk_L_cell 18 rfl) (by decide) (by decide) ⟨_, rfl, ⟨by decide, by decide⟩, mm_inv_pa ic (show -9223372036854775808 ≤ (1 : Int) ∧ (1 : Int) ≤ 9223372036854775807 from ⟨by omega, by omega⟩), mm_fr_pa fc (by decide), (by have ea : (mm_pa hc 124 0 (1 : Int)).2.1 124 0 = (1 : Int) := mm_pa_same _ _ _ _; revert ea ; generalize mm_pa hc 124 0 (1 : Int) = H; intros; omega), (by refine ⟨r, ?_, mm_up_tr (fun _ => rfl) y2 (fun j => mm_pa_o 2 124 (by decide) j) rfl Iff.rfl, mm_up_tr (fun _ => rfl) y3 (fun j => mm_pa_o 3 124 (by decide) j) rfl Iff.rfl⟩; have ea : (mm_pa hc 124 0 (1 : Int)).2.1 124 0 = (1 : Int) := mm_pa_same _ _ _ _; revert ea ; generalize mm_pa hc 124 0 (1 : Int) = H; intros; omega)⟩
  · obtain ⟨q, cx⟩ := q
    rw [q.1, q.2]
    refine mm_catch (nm := "java/util/NoSuchElementException") [] (⟨0, 21, 24, 13⟩ : ExceptionTableEntry) [] C htb (fun y hy => absurd hy List.not_mem_nil) (by decide) (by decide) ck_L_13 (by decide) (k := 6) (by decide) (Or.inl (mm_dec dk_L_cell 14 rfl)) (pc2 := 26) ⟨fun _ => rfl, fun ⟨_, _, z⟩ => (by have w := z.symm.trans (mm_dec dk_L_cell 14 rfl); cases w)⟩ ?_
    refine mm_iconst C (mm_dec dk_L_cell 15 rfl) ⟨by decide, by decide⟩ ?_
    exact mm_iret C T (mm_dec dk_L_cell 16 rfl) (by decide) (by decide) ⟨_, rfl, ⟨by decide, by decide⟩, i0, mm_fr_rf, by omega, (by exact ⟨0, Or.inr ⟨rfl, Or.inl rfl⟩, mm_up_no (by decide) (fun _ => rfl), mm_up_no (by decide) (fun _ => rfl)⟩)⟩
set_option maxRecDepth 100000 in
set_option maxHeartbeats 4000000 in
theorem c_L_takes_q (l : Launch) (hl : l.stackTraces = false) (d : Nat) (hd : 9 ≤ d) (h : mH) (i0 : mm_inv h) (p1 : Int) (p2 : Int) : mm_MetH l d yL_takes cL_takes 5 (some .int) [(0, 17, 20, 13)] [mR 0, mI p1, mI p2, mR 124] h (mm_pi fun r h2 => (0 ≤ r ∧ r ≤ 2) ∧ mm_inv h2 ∧ mm_fr [] [6, 124] h h2 ∧ ((r = 0 ∧ (0 ≤ p1 ∧ p1 ≤ 8) ∧ ((h2.2.1 124 0 = 1 ∧ (h.1 22 8 ≤ 0 ∧ 0 ≤ p2 ∧ ((p1 = 8 ∧ p2 ≤ 9) ∨ (p1 ≠ 8 ∧ p2 ≤ 99 ∧ (p2 ≠ 0 ∨ mm_fd (fun j => h.2.1 2 (h.2.1 15 j)) p1 (h.1 14 7).toNat = 0))))) ∨ (h2.2.1 124 0 = 0 ∧ (0 < h.1 22 8 ∨ p2 < 0 ∨ (p1 = 8 ∧ 9 < p2) ∨ (p1 ≠ 8 ∧ (99 < p2 ∨ (p2 = 0 ∧ mm_fd (fun j => h.2.1 2 (h.2.1 15 j)) p1 (h.1 14 7).toNat = 1))))))) ∨ (r = 1 ∧ (p1 < 0 ∨ 8 < p1))) ∧ (∃ f : Int, ((f = 1 ∧ r = 0 ∧ h2.2.1 124 0 = 1) ∨ (f = 0 ∧ (r = 1 ∨ h2.2.1 124 0 = 0))) ∧ mm_up h h2 6 p1 p2 f)) mm_nx 1 6 := by
  refine mm_ofWH (ls := [mR 0, mI p1, mI p2, mR 124, mU]) hl (by decide) rfl (Nat.le_of_ble_eq_true rfl) ?_
  intro x hxl C T htb
  subst hxl
  have C1 := mm_OK_le (d' := d - 1 + 1) (by omega) C
  refine mm_aload_n C (mm_dec dk_L_takes 0 rfl) rfl ?_
  refine mm_iconst C (mm_dec dk_L_takes 1 rfl) ⟨by decide, by decide⟩ ?_
  refine mm_aload_n C (mm_dec dk_L_takes 2 rfl) rfl ?_
  refine mm_iload_n C (mm_dec dk_L_takes 3 rfl) rfl ?_
  refine mm_iload_n C (mm_dec dk_L_takes 4 rfl) rfl ?_
  refine mm_cVi (rest := [mI 0, mR 124]) C1 ev_L_15 (mm_dec dk_L_takes 5 rfl) (c_X11_takes_q x.2.1 hl (d - 1) (by omega) h i0 p1 p2) rfl rfl (Nat.le_of_ble_eq_true rfl) ⟨by decide, by decide⟩ rfl (fun r hc hp => ?_) (fun E hx q => ?_)
  · obtain ⟨b, ic, gc, y0, y1, y2⟩ := hp
    have fc : mm_fr [] [6, 124] h hc := mm_fr_tr (mm_fr_rf (h := h)) gc (by decide +kernel)
    refine mm_if_eq (tgt := 15) C (mm_dec dk_L_takes 6 rfl) (by decide) (fun cr => ?_) (fun cr => ?_)
    · refine mm_lconst (z := 0) C (mm_dec dk_L_takes 9 rfl) rfl ?_
      refine mm_last C (mm_dec dk_L_takes 10 rfl) rfl (by omega) (by omega) ?_
      refine mm_goto (tgt := 24) C (mm_dec dk_L_takes 11 rfl) (by decide) ?_
      refine mm_iconst C (mm_dec dk_L_takes 15 rfl) ⟨by decide, by decide⟩ ?_
      exact mm_iret C T (mm_dec dk_L_takes 16 rfl) (by decide) (by decide) ⟨_, rfl, ⟨by decide, by decide⟩, mm_inv_pa ic (show -9223372036854775808 ≤ (0 : Int) ∧ (0 : Int) ≤ 9223372036854775807 from ⟨by omega, by omega⟩), mm_fr_pa fc (by decide), (by have ea : (mm_pa hc 124 0 (0 : Int)).2.1 124 0 = (0 : Int) := mm_pa_same _ _ _ _; revert ea ; generalize mm_pa hc 124 0 (0 : Int) = H; intros; omega), (by refine ⟨r, ?_, mm_up_tr (fun _ => rfl) y2 (fun j => mm_pa_o 6 124 (by decide) j) rfl Iff.rfl⟩; have ea : (mm_pa hc 124 0 (0 : Int)).2.1 124 0 = (0 : Int) := mm_pa_same _ _ _ _; revert ea ; generalize mm_pa hc 124 0 (0 : Int) = H; intros; omega)⟩
    · refine mm_lconst (z := 1) C (mm_dec dk_L_takes 7 rfl) rfl ?_
      refine mm_goto (tgt := 16) C (mm_dec dk_L_takes 8 rfl) (by decide) ?_
      refine mm_last C (mm_dec dk_L_takes 10 rfl) rfl (by omega) (by omega) ?_
      refine mm_goto (tgt := 24) C (mm_dec dk_L_takes 11 rfl) (by decide) ?_
      refine mm_iconst C (mm_dec dk_L_takes 15 rfl) ⟨by decide, by decide⟩ ?_
      exact mm_iret C T (mm_dec dk_L_takes 16 rfl) (by decide) (by decide) ⟨_, rfl, ⟨by decide, by decide⟩, mm_inv_pa ic (show -9223372036854775808 ≤ (1 : Int) ∧ (1 : Int) ≤ 9223372036854775807 from ⟨by omega, by omega⟩), mm_fr_pa fc (by decide), (by have ea : (mm_pa hc 124 0 (1 : Int)).2.1 124 0 = (1 : Int) := mm_pa_same _ _ _ _; revert ea ; generalize mm_pa hc 124 0 (1 : Int) = H; intros; omega), (by refine ⟨r, ?_, mm_up_tr (fun _ => rfl) y2 (fun j => mm_pa_o 6 124 (by decide) j) rfl Iff.rfl⟩; have ea : (mm_pa hc 124 0 (1 : Int)).2.1 124 0 = (1 : Int) := mm_pa_same _ _ _ _; revert ea ; generalize mm_pa hc 124 0 (1 : Int) = H; intros; omega)⟩
  · obtain ⟨q, cx⟩ := q
    rw [q.1, q.2]
    refine mm_catch (nm := "java/util/NoSuchElementException") [] (⟨0, 17, 20, 13⟩ : ExceptionTableEntry) [] C htb (fun y hy => absurd hy List.not_mem_nil) (by decide) (by decide) ck_L_13 (by decide) (k := 4) (by decide) (Or.inl (mm_dec dk_L_takes 12 rfl)) (pc2 := 22) ⟨fun _ => rfl, fun ⟨_, _, z⟩ => (by have w := z.symm.trans (mm_dec dk_L_takes 12 rfl); cases w)⟩ ?_
    refine mm_iconst C (mm_dec dk_L_takes 13 rfl) ⟨by decide, by decide⟩ ?_
    exact mm_iret C T (mm_dec dk_L_takes 14 rfl) (by decide) (by decide) ⟨_, rfl, ⟨by decide, by decide⟩, i0, mm_fr_rf, by omega, (by exact ⟨0, Or.inr ⟨rfl, Or.inl rfl⟩, mm_up_no (by decide) (fun _ => rfl)⟩)⟩
set_option maxRecDepth 100000 in
set_option maxHeartbeats 4000000 in
theorem c_L_add_q (l : Launch) (hl : l.stackTraces = false) (d : Nat) (hd : 10 ≤ d) (h : mH) (i0 : mm_inv h) (p1 : Int) (p2 : Int) (p3 : Int) (p4 : Int) : mm_MetH l d yL_add cL_add 7 (some .int) [(0, 14, 17, 13)] [mR 0, mI p1, mI p2, mI p3, mI p4, mR 124] h (mm_pi fun r h2 => (0 ≤ r ∧ r ≤ 2) ∧ mm_inv h2 ∧ mm_fr [] [19, 20, 21, 124] h h2 ∧ ((r = 0 ∧ (0 ≤ p1 ∧ p1 < h.1 14 8 ∧ 0 ≤ p2 ∧ p2 < h.1 14 7 ∧ 0 ≤ p3 ∧ p3 < h.1 14 7 ∧ 0 ≤ p4 ∧ p4 < h.1 14 7) ∧ ((h2.2.1 124 0 = h.2.1 19 p1 + 1 ∧ (h.2.1 19 p1 ≤ 11 ∧ h.2.1 18 p1 = 0 ∧ (p2 = p3 ∨ (h.2.1 17 p1 = 0 ∧ h.2.1 20 p1 ≤ 3)))) ∨ (h2.2.1 124 0 = -1 ∧ (12 ≤ h.2.1 19 p1 ∨ h.2.1 18 p1 ≠ 0 ∨ (p2 ≠ p3 ∧ (h.2.1 17 p1 ≠ 0 ∨ 4 ≤ h.2.1 20 p1)))))) ∨ (r = 1 ∧ (p1 < 0 ∨ h.1 14 8 ≤ p1 ∨ p2 < 0 ∨ h.1 14 7 ≤ p2 ∨ p3 < 0 ∨ h.1 14 7 ≤ p3 ∨ p4 < 0 ∨ h.1 14 7 ≤ p4))) ∧ (∃ f g : Int, ((f = 0 ∧ g = 0 ∧ (r = 1 ∨ h2.2.1 124 0 ≤ 0)) ∨ (f = 1 ∧ r = 0 ∧ 1 ≤ h2.2.1 124 0 ∧ ((p2 = p3 ∧ g = 0) ∨ (p2 ≠ p3 ∧ g = 1)))) ∧ mm_up h h2 19 p1 (h.2.1 19 p1 + 1) f ∧ mm_up h h2 20 p1 (mm_w (h.2.1 20 p1 + 1)) g ∧ mm_w3 h h2 21 ((p1 * 12 + h.2.1 19 p1) * 3) p2 p3 p4 f)) mm_nx 4 24 := by
  refine mm_ofWH (ls := [mR 0, mI p1, mI p2, mI p3, mI p4, mR 124, mU]) hl (by decide) rfl (Nat.le_of_ble_eq_true rfl) ?_
  intro x hxl C T htb
  subst hxl
  have C1 := mm_OK_le (d' := d - 1 + 1) (by omega) C
  refine mm_aload C (mm_dec dk_L_add 0 rfl) rfl ?_
  refine mm_iconst C (mm_dec dk_L_add 1 rfl) ⟨by decide, by decide⟩ ?_
  refine mm_aload_n C (mm_dec dk_L_add 2 rfl) rfl ?_
  refine mm_iload_n C (mm_dec dk_L_add 3 rfl) rfl ?_
  refine mm_iload_n C (mm_dec dk_L_add 4 rfl) rfl ?_
  refine mm_iload_n C (mm_dec dk_L_add 5 rfl) rfl ?_
  refine mm_iload C (mm_dec dk_L_add 6 rfl) rfl ?_
  refine mm_cVi (rest := [mI 0, mR 124]) C1 ev_L_42 (mm_dec dk_L_add 7 rfl) (c_X11_add_q x.2.1 hl (d - 1) (by omega) h i0 p1 p2 p3 p4) rfl rfl (Nat.le_of_ble_eq_true rfl) ⟨by decide, by decide⟩ rfl (fun r hc hp => ?_) (fun E hx q => ?_)
  · obtain ⟨b, ic, gc, y0, y1, y2⟩ := hp
    have fc : mm_fr [] [19, 20, 21, 124] h hc := mm_fr_tr (mm_fr_rf (h := h)) gc (by decide +kernel)
    refine mm_rng (fun _ ho => ?_)
    have br : -2147483648 ≤ r ∧ r < 2147483648 := mm_ok_hd ho
    refine mm_i2l C (mm_dec dk_L_add 8 rfl) ?_
    refine mm_last C (mm_dec dk_L_add 9 rfl) rfl (by omega) (by omega) ?_
    refine mm_goto (tgt := 21) C (mm_dec dk_L_add 10 rfl) (by decide) ?_
    refine mm_iconst C (mm_dec dk_L_add 14 rfl) ⟨by decide, by decide⟩ ?_
    exact mm_iret C T (mm_dec dk_L_add 15 rfl) (by decide) (by decide) ⟨_, rfl, ⟨by decide, by decide⟩, mm_inv_pa ic (show -9223372036854775808 ≤ r ∧ r ≤ 9223372036854775807 from ⟨by omega, by omega⟩), mm_fr_pa fc (by decide), (by have ea : (mm_pa hc 124 0 r).2.1 124 0 = r := mm_pa_same _ _ _ _; revert ea ; generalize mm_pa hc 124 0 r = H; intros; omega), (by obtain ⟨f, g, hf, uf, ug, uw⟩ := y2; refine ⟨f, g, ?_, mm_up_tr (fun _ => rfl) uf (fun j => mm_pa_o 19 124 (by decide) j) rfl Iff.rfl, mm_up_tr (fun _ => rfl) ug (fun j => mm_pa_o 20 124 (by decide) j) rfl Iff.rfl, mm_w3_tr (fun _ => rfl) uw (fun j => mm_pa_o 21 124 (by decide) j) rfl⟩; have ea : (mm_pa hc 124 0 r).2.1 124 0 = r := mm_pa_same _ _ _ _; revert ea ; generalize mm_pa hc 124 0 r = H; intros; omega)⟩
  · obtain ⟨q, cx⟩ := q
    rw [q.1, q.2]
    refine mm_catch (nm := "java/util/NoSuchElementException") [] (⟨0, 14, 17, 13⟩ : ExceptionTableEntry) [] C htb (fun y hy => absurd hy List.not_mem_nil) (by decide) (by decide) ck_L_13 (by decide) (k := 6) (by decide) (Or.inl (mm_dec dk_L_add 11 rfl)) (pc2 := 19) ⟨fun _ => rfl, fun ⟨_, _, z⟩ => (by have w := z.symm.trans (mm_dec dk_L_add 11 rfl); cases w)⟩ ?_
    refine mm_iconst C (mm_dec dk_L_add 12 rfl) ⟨by decide, by decide⟩ ?_
    exact mm_iret C T (mm_dec dk_L_add 13 rfl) (by decide) (by decide) ⟨_, rfl, ⟨by decide, by decide⟩, i0, mm_fr_rf, by omega, (by exact ⟨0, 0, Or.inl ⟨rfl, rfl, Or.inl rfl⟩, mm_up_no (by decide) (fun _ => rfl), mm_up_no (by decide) (fun _ => rfl), mm_w3_no (by decide) (fun _ => rfl)⟩)⟩
set_option maxRecDepth 100000 in
set_option maxHeartbeats 4000000 in
theorem c_L_team_q (l : Launch) (hl : l.stackTraces = false) (d : Nat) (hd : 10 ≤ d) (h : mH) (i0 : mm_inv h) (p1 : Int) (p2 : Int) (p3 : Int) : mm_MetH l d yL_team cL_team 6 (some .int) [(0, 12, 15, 13)] [mR 0, mI p1, mI p2, mI p3, mR 124] h (mm_pi fun r h2 => (0 ≤ r ∧ r ≤ 2) ∧ mm_inv h2 ∧ mm_fr [(22, 9)] [27, 28, 29, 124] h h2 ∧ ((r = 0 ∧ (0 ≤ p1 ∧ p1 < h.1 22 8 ∧ 0 ≤ p2 ∧ p2 < h.1 22 8 ∧ 0 ≤ p3 ∧ p3 < h.1 22 8) ∧ ((h2.2.1 124 0 = h.1 22 9 ∧ h.1 22 9 ≤ 9 ∧ mm_gt h p1 p2 p3 = 1 ∧ h2.1 22 9 = h.1 22 9 + 1) ∨ (h2.2.1 124 0 = -1 ∧ (10 ≤ h.1 22 9 ∨ mm_gt h p1 p2 p3 = 0) ∧ h2.1 22 9 = h.1 22 9))) ∨ (r = 1 ∧ (p1 < 0 ∨ h.1 22 8 ≤ p1 ∨ p2 < 0 ∨ h.1 22 8 ≤ p2 ∨ p3 < 0 ∨ h.1 22 8 ≤ p3) ∧ h2.1 22 9 = h.1 22 9)) ∧ (∃ f : Int, ((f = 1 ∧ h2.1 22 9 = h.1 22 9 + 1) ∨ (f = 0 ∧ h2.1 22 9 = h.1 22 9)) ∧ mm_u3 h h2 28 p1 p2 p3 1 f ∧ mm_ua h h2 p1 p2 p3 f ∧ mm_ud h h2 p1 p2 p3 (h.1 22 9) f)) mm_nx 3 18 := by
  refine mm_ofWH (ls := [mR 0, mI p1, mI p2, mI p3, mR 124, mU]) hl (by decide) rfl (Nat.le_of_ble_eq_true rfl) ?_
  intro x hxl C T htb
  subst hxl
  have C1 := mm_OK_le (d' := d - 1 + 1) (by omega) C
  refine mm_aload C (mm_dec dk_L_team 0 rfl) rfl ?_
  refine mm_iconst C (mm_dec dk_L_team 1 rfl) ⟨by decide, by decide⟩ ?_
  refine mm_aload_n C (mm_dec dk_L_team 2 rfl) rfl ?_
  refine mm_iload_n C (mm_dec dk_L_team 3 rfl) rfl ?_
  refine mm_iload_n C (mm_dec dk_L_team 4 rfl) rfl ?_
  refine mm_iload_n C (mm_dec dk_L_team 5 rfl) rfl ?_
  refine mm_cVi (rest := [mI 0, mR 124]) C1 ev_L_52 (mm_dec dk_L_team 6 rfl) (c_X11_team_q x.2.1 hl (d - 1) (by omega) h i0 p1 p2 p3) rfl rfl (Nat.le_of_ble_eq_true rfl) ⟨by decide, by decide⟩ rfl (fun r hc hp => ?_) (fun E hx q => ?_)
  · obtain ⟨b, ic, gc, y0, y1, y2⟩ := hp
    have fc : mm_fr [(22, 9)] [27, 28, 29, 124] h hc := mm_fr_tr (mm_fr_rf (h := h)) gc (by decide +kernel)
    refine mm_rng (fun _ ho => ?_)
    have br : -2147483648 ≤ r ∧ r < 2147483648 := mm_ok_hd ho
    refine mm_i2l C (mm_dec dk_L_team 7 rfl) ?_
    refine mm_last C (mm_dec dk_L_team 8 rfl) rfl (by omega) (by omega) ?_
    refine mm_goto (tgt := 19) C (mm_dec dk_L_team 9 rfl) (by decide) ?_
    refine mm_iconst C (mm_dec dk_L_team 13 rfl) ⟨by decide, by decide⟩ ?_
    exact mm_iret C T (mm_dec dk_L_team 14 rfl) (by decide) (by decide) ⟨_, rfl, ⟨by decide, by decide⟩, mm_inv_pa ic (show -9223372036854775808 ≤ r ∧ r ≤ 9223372036854775807 from ⟨by omega, by omega⟩), mm_fr_pa fc (by decide), (by have e0 : (mm_pa hc 124 0 r).1 22 9 = hc.1 22 9 := rfl; have ea : (mm_pa hc 124 0 r).2.1 124 0 = r := mm_pa_same _ _ _ _; revert ea e0; generalize mm_pa hc 124 0 r = H; intros; omega), (by obtain ⟨f, hf, uf, ua, ud⟩ := y2; refine ⟨f, ?_, mm_u3_tr (fun _ => rfl) uf (fun j => mm_pa_o 28 124 (by decide) j) rfl, mm_ua_tr (fun _ => rfl) ua (fun j => mm_pa_o 27 124 (by decide) j) rfl, mm_ud_tr (fun _ => rfl) ud (fun j => mm_pa_o 29 124 (by decide) j)⟩; have e0 : (mm_pa hc 124 0 r).1 22 9 = hc.1 22 9 := rfl; have ea : (mm_pa hc 124 0 r).2.1 124 0 = r := mm_pa_same _ _ _ _; revert ea e0; generalize mm_pa hc 124 0 r = H; intros; omega)⟩
  · obtain ⟨q, cx⟩ := q
    rw [q.1, q.2]
    refine mm_catch (nm := "java/util/NoSuchElementException") [] (⟨0, 12, 15, 13⟩ : ExceptionTableEntry) [] C htb (fun y hy => absurd hy List.not_mem_nil) (by decide) (by decide) ck_L_13 (by decide) (k := 5) (by decide) (Or.inl (mm_dec dk_L_team 10 rfl)) (pc2 := 17) ⟨fun _ => rfl, fun ⟨_, _, z⟩ => (by have w := z.symm.trans (mm_dec dk_L_team 10 rfl); cases w)⟩ ?_
    refine mm_iconst C (mm_dec dk_L_team 11 rfl) ⟨by decide, by decide⟩ ?_
    exact mm_iret C T (mm_dec dk_L_team 12 rfl) (by decide) (by decide) ⟨_, rfl, ⟨by decide, by decide⟩, i0, mm_fr_rf, by omega, (by exact ⟨0, Or.inr ⟨rfl, rfl⟩, mm_u3_no (by decide) (fun _ => rfl), mm_ua_no (by decide) (fun _ => rfl), mm_ud_no (by decide) (fun _ => rfl)⟩)⟩
set_option maxRecDepth 100000 in
set_option maxHeartbeats 4000000 in
theorem c_L_way_q (l : Launch) (hl : l.stackTraces = false) (d : Nat) (hd : 10 ≤ d) (h : mH) (i0 : mm_inv h) (p1 : Int) (p2 : Int) (p3 : Int) (p4 : Int) : mm_MetH l d yL_way cL_way 7 (some .int) [(0, 14, 17, 13)] [mR 0, mI p1, mI p2, mI p3, mI p4, mR 124] h (mm_pi fun r h2 => (0 ≤ r ∧ r ≤ 2) ∧ mm_inv h2 ∧ mm_fr [(7, 7), (7, 8), (7, 9)] [8, 9, 10, 11, 13, 124] h h2 ∧ ((r = 0 ∧ (0 ≤ p1 ∧ p1 < h.1 1 5 ∧ 0 ≤ p2 ∧ p2 < h.1 1 6) ∧ (0 ≤ p3 ∧ p3 < h.1 1 5 ∧ 0 ≤ p4 ∧ p4 < h.1 1 6)) ∨ (r = 1 ∧ ((p1 < 0 ∨ h.1 1 5 ≤ p1 ∨ p2 < 0 ∨ h.1 1 6 ≤ p2) ∨ (p3 < 0 ∨ h.1 1 5 ≤ p3 ∨ p4 < 0 ∨ h.1 1 6 ≤ p4)))) ∧ (0 ≤ r ∧ (r = 0 → ∀ d, mm_MS h (20 * p4 + p3) d → h2.2.1 124 0 = mm_dq (d (20 * p2 + p1))))) mm_nx 2 12 := by
  refine mm_ofWH (ls := [mR 0, mI p1, mI p2, mI p3, mI p4, mR 124, mU]) hl (by decide) rfl (Nat.le_of_ble_eq_true rfl) ?_
  intro x hxl C T htb
  subst hxl
  have C1 := mm_OK_le (d' := d - 1 + 1) (by omega) C
  refine mm_aload C (mm_dec dk_L_way 0 rfl) rfl ?_
  refine mm_iconst C (mm_dec dk_L_way 1 rfl) ⟨by decide, by decide⟩ ?_
  refine mm_aload_n C (mm_dec dk_L_way 2 rfl) rfl ?_
  refine mm_iload_n C (mm_dec dk_L_way 3 rfl) rfl ?_
  refine mm_iload_n C (mm_dec dk_L_way 4 rfl) rfl ?_
  refine mm_iload_n C (mm_dec dk_L_way 5 rfl) rfl ?_
  refine mm_iload C (mm_dec dk_L_way 6 rfl) rfl ?_
  refine mm_cVi (rest := [mI 0, mR 124]) C1 ev_L_26 (mm_dec dk_L_way 7 rfl) (c_X11_way_q x.2.1 hl (d - 1) (by omega) h i0 p1 p2 p3 p4) rfl rfl (Nat.le_of_ble_eq_true rfl) ⟨by decide, by decide⟩ rfl (fun r hc hp => ?_) (fun E hx q => ?_)
  · obtain ⟨b, ic, gc, y0, y1, y2⟩ := hp
    have fc : mm_fr [(7, 7), (7, 8), (7, 9)] [8, 9, 10, 11, 13, 124] h hc := mm_fr_tr (mm_fr_rf (h := h)) gc (by decide +kernel)
    refine mm_rng (fun _ ho => ?_)
    have br : -2147483648 ≤ r ∧ r < 2147483648 := mm_ok_hd ho
    refine mm_i2l C (mm_dec dk_L_way 8 rfl) ?_
    refine mm_last C (mm_dec dk_L_way 9 rfl) rfl (by omega) (by omega) ?_
    refine mm_goto (tgt := 21) C (mm_dec dk_L_way 10 rfl) (by decide) ?_
    refine mm_iconst C (mm_dec dk_L_way 14 rfl) ⟨by decide, by decide⟩ ?_
    exact mm_iret C T (mm_dec dk_L_way 15 rfl) (by decide) (by decide) ⟨_, rfl, ⟨by decide, by decide⟩, mm_inv_pa ic (show -9223372036854775808 ≤ r ∧ r ≤ 9223372036854775807 from ⟨by omega, by omega⟩), mm_fr_pa fc (by decide), (by have ea : (mm_pa hc 124 0 r).2.1 124 0 = r := mm_pa_same _ _ _ _; revert ea ; generalize mm_pa hc 124 0 r = H; intros; omega), (by refine ⟨?_, fun _ d M => (mm_pa_same _ _ _ _).trans (y2 d M)⟩; have ea : (mm_pa hc 124 0 r).2.1 124 0 = r := mm_pa_same _ _ _ _; revert ea ; generalize mm_pa hc 124 0 r = H; intros; omega)⟩
  · obtain ⟨q, cx⟩ := q
    rw [q.1, q.2]
    refine mm_catch (nm := "java/util/NoSuchElementException") [] (⟨0, 14, 17, 13⟩ : ExceptionTableEntry) [] C htb (fun y hy => absurd hy List.not_mem_nil) (by decide) (by decide) ck_L_13 (by decide) (k := 6) (by decide) (Or.inl (mm_dec dk_L_way 11 rfl)) (pc2 := 19) ⟨fun _ => rfl, fun ⟨_, _, z⟩ => (by have w := z.symm.trans (mm_dec dk_L_way 11 rfl); cases w)⟩ ?_
    refine mm_iconst C (mm_dec dk_L_way 12 rfl) ⟨by decide, by decide⟩ ?_
    exact mm_iret C T (mm_dec dk_L_way 13 rfl) (by decide) (by decide) ⟨_, rfl, ⟨by decide, by decide⟩, i0, mm_fr_rf, by omega, (by exact ⟨by decide, fun q => absurd q (by decide)⟩)⟩
set_option maxRecDepth 100000 in
set_option maxHeartbeats 4000000 in
theorem c_L_row_q (l : Launch) (hl : l.stackTraces = false) (d : Nat) (hd : 10 ≤ d) (h : mH) (i0 : mm_inv h) (p1 : Int) (p2 : Int) : mm_MetH l d yL_row cL_row 5 (some .int) [(0, 10, 13, 13)] [mR 0, mI p1, mI p2, mR 124] h (mm_pi fun r h2 => (0 ≤ r ∧ r ≤ 2) ∧ mm_inv h2 ∧ mm_fr [(7, 7), (7, 8)] [8, 9, 10, 11, 61, 124] h h2 ∧ ((r = 0 ∧ (0 ≤ p1 ∧ p1 < h.1 22 8 ∧ ((-1 ≤ p2 ∧ p2 < h.2.1 19 (h.2.1 23 p1)) ∨ p2 = 100))) ∨ (r = 1 ∧ (p1 < 0 ∨ h.1 22 8 ≤ p1 ∨ ((p2 < -1 ∨ h.2.1 19 (h.2.1 23 p1) ≤ p2) ∧ p2 ≠ 100)))) ∧ (0 ≤ r ∧ (r = 0 → mm_wX9 h p1 p2 (h2.2.1 124 0)))) mm_nx 2 12 := by
  refine mm_ofWH (ls := [mR 0, mI p1, mI p2, mR 124, mU]) hl (by decide) rfl (Nat.le_of_ble_eq_true rfl) ?_
  intro x hxl C T htb
  subst hxl
  have C1 := mm_OK_le (d' := d - 1 + 1) (by omega) C
  refine mm_aload_n C (mm_dec dk_L_row 0 rfl) rfl ?_
  refine mm_iconst C (mm_dec dk_L_row 1 rfl) ⟨by decide, by decide⟩ ?_
  refine mm_aload_n C (mm_dec dk_L_row 2 rfl) rfl ?_
  refine mm_iload_n C (mm_dec dk_L_row 3 rfl) rfl ?_
  refine mm_iload_n C (mm_dec dk_L_row 4 rfl) rfl ?_
  refine mm_cVi (rest := [mI 0, mR 124]) C1 ev_L_48 (mm_dec dk_L_row 5 rfl) (c_X11_row_q x.2.1 hl (d - 1) (by omega) h i0 p1 p2) rfl rfl (Nat.le_of_ble_eq_true rfl) ⟨by decide, by decide⟩ rfl (fun r hc hp => ?_) (fun E hx q => ?_)
  · obtain ⟨b, ic, gc, y0, y1⟩ := hp
    have fc : mm_fr [(7, 7), (7, 8)] [8, 9, 10, 11, 61, 124] h hc := mm_fr_tr (mm_fr_rf (h := h)) gc (by decide +kernel)
    refine mm_rng (fun _ ho => ?_)
    have br : -2147483648 ≤ r ∧ r < 2147483648 := mm_ok_hd ho
    refine mm_i2l C (mm_dec dk_L_row 6 rfl) ?_
    refine mm_last C (mm_dec dk_L_row 7 rfl) rfl (by omega) (by omega) ?_
    refine mm_goto (tgt := 17) C (mm_dec dk_L_row 8 rfl) (by decide) ?_
    refine mm_iconst C (mm_dec dk_L_row 12 rfl) ⟨by decide, by decide⟩ ?_
    exact mm_iret C T (mm_dec dk_L_row 13 rfl) (by decide) (by decide) ⟨_, rfl, ⟨by decide, by decide⟩, mm_inv_pa ic (show -9223372036854775808 ≤ r ∧ r ≤ 9223372036854775807 from ⟨by omega, by omega⟩), mm_fr_pa fc (by decide), (by have ea : (mm_pa hc 124 0 r).2.1 124 0 = r := mm_pa_same _ _ _ _; revert ea ; generalize mm_pa hc 124 0 r = H; intros; omega), (by refine ⟨?_, fun _ => Eq.mpr (congrArg (mm_wX9 h p1 p2) (mm_pa_same _ _ _ _)) y1⟩; have ea : (mm_pa hc 124 0 r).2.1 124 0 = r := mm_pa_same _ _ _ _; revert ea ; generalize mm_pa hc 124 0 r = H; intros; omega)⟩
  · obtain ⟨q, cx⟩ := q
    rw [q.1, q.2]
    refine mm_catch (nm := "java/util/NoSuchElementException") [] (⟨0, 10, 13, 13⟩ : ExceptionTableEntry) [] C htb (fun y hy => absurd hy List.not_mem_nil) (by decide) (by decide) ck_L_13 (by decide) (k := 4) (by decide) (Or.inl (mm_dec dk_L_row 9 rfl)) (pc2 := 15) ⟨fun _ => rfl, fun ⟨_, _, z⟩ => (by have w := z.symm.trans (mm_dec dk_L_row 9 rfl); cases w)⟩ ?_
    refine mm_iconst C (mm_dec dk_L_row 10 rfl) ⟨by decide, by decide⟩ ?_
    exact mm_iret C T (mm_dec dk_L_row 11 rfl) (by decide) (by decide) ⟨_, rfl, ⟨by decide, by decide⟩, i0, mm_fr_rf, by omega, (by exact ⟨by decide, fun q => absurd q (by decide)⟩)⟩
set_option maxRecDepth 100000 in
set_option maxHeartbeats 4000000 in
theorem c_L_split_q (l : Launch) (hl : l.stackTraces = false) (d : Nat) (hd : 10 ≤ d) (h : mH) (i0 : mm_inv h) (p1 : Int) (p2 : Int) (p3 : Int) : mm_MetH l d yL_split cL_split 6 (some .int) [(0, 12, 15, 13), (0, 12, 19, 58)] [mR 0, mI p1, mI p2, mI p3, mR 124] h (mm_pi fun r h2 => (0 ≤ r ∧ r ≤ 2) ∧ mm_inv h2 ∧ mm_fr [(48, 8), (48, 9)] [49, 50, 51, 52, 53, 124] h h2 ∧ ((r = 0 ∧ (0 ≤ p1 ∧ p1 < h.1 22 8) ∧ (0 ≤ p2 ∧ p2 < h.2.1 19 (h.2.1 23 p1)) ∧ (0 ≤ p3 ∧ p3 ≤ h.1 0 13)) ∨ (r = 1 ∧ ((p1 < 0 ∨ h.1 22 8 ≤ p1) ∨ (p2 < 0 ∨ h.2.1 19 (h.2.1 23 p1) ≤ p2))) ∨ (r = 2 ∧ ((0 ≤ p1 ∧ p1 < h.1 22 8) ∧ (0 ≤ p2 ∧ p2 < h.2.1 19 (h.2.1 23 p1)) ∧ (p3 < 0 ∨ h.1 0 13 < p3)))) ∧ (0 ≤ r ∧ (r = 0 → mm_vX8 h p1 p2 p3 (h2.2.1 124 0)))) mm_nx 3 18 := by
  refine mm_ofWH (ls := [mR 0, mI p1, mI p2, mI p3, mR 124, mU]) hl (by decide) rfl (Nat.le_of_ble_eq_true rfl) ?_
  intro x hxl C T htb
  subst hxl
  have C1 := mm_OK_le (d' := d - 1 + 1) (by omega) C
  refine mm_aload C (mm_dec dk_L_split 0 rfl) rfl ?_
  refine mm_iconst C (mm_dec dk_L_split 1 rfl) ⟨by decide, by decide⟩ ?_
  refine mm_aload_n C (mm_dec dk_L_split 2 rfl) rfl ?_
  refine mm_iload_n C (mm_dec dk_L_split 3 rfl) rfl ?_
  refine mm_iload_n C (mm_dec dk_L_split 4 rfl) rfl ?_
  refine mm_iload_n C (mm_dec dk_L_split 5 rfl) rfl ?_
  refine mm_cVi (rest := [mI 0, mR 124]) C1 ev_L_70 (mm_dec dk_L_split 6 rfl) (c_X11_split_q x.2.1 hl (d - 1) (by omega) h i0 p1 p2 p3) rfl rfl (Nat.le_of_ble_eq_true rfl) ⟨by decide, by decide⟩ rfl (fun r hc hp => ?_) (fun E hx q => ?_)
  · obtain ⟨b, ic, gc, y0, y1⟩ := hp
    have fc : mm_fr [(48, 8), (48, 9)] [49, 50, 51, 52, 53, 124] h hc := mm_fr_tr (mm_fr_rf (h := h)) gc (by decide +kernel)
    refine mm_rng (fun _ ho => ?_)
    have br : -2147483648 ≤ r ∧ r < 2147483648 := mm_ok_hd ho
    refine mm_i2l C (mm_dec dk_L_split 7 rfl) ?_
    refine mm_last C (mm_dec dk_L_split 8 rfl) rfl (by omega) (by omega) ?_
    refine mm_goto (tgt := 23) C (mm_dec dk_L_split 9 rfl) (by decide) ?_
    refine mm_iconst C (mm_dec dk_L_split 16 rfl) ⟨by decide, by decide⟩ ?_
    exact mm_iret C T (mm_dec dk_L_split 17 rfl) (by decide) (by decide) ⟨_, rfl, ⟨by decide, by decide⟩, mm_inv_pa ic (show -9223372036854775808 ≤ r ∧ r ≤ 9223372036854775807 from ⟨by omega, by omega⟩), mm_fr_pa fc (by decide), (by have ea : (mm_pa hc 124 0 r).2.1 124 0 = r := mm_pa_same _ _ _ _; revert ea ; generalize mm_pa hc 124 0 r = H; intros; omega), (by refine ⟨?_, fun _ => Eq.mpr (congrArg (mm_vX8 h p1 p2 p3) (mm_pa_same _ _ _ _)) y1⟩; have ea : (mm_pa hc 124 0 r).2.1 124 0 = r := mm_pa_same _ _ _ _; revert ea ; generalize mm_pa hc 124 0 r = H; intros; omega)⟩
  · rcases q with ⟨⟨q1, q2⟩, cx⟩ | ⟨⟨q1, q2⟩, cx⟩
    · rw [q1, q2]
      refine mm_catch (nm := "java/util/NoSuchElementException") [] (⟨0, 12, 15, 13⟩ : ExceptionTableEntry) [(⟨0, 12, 19, 58⟩ : ExceptionTableEntry)] C htb (fun y hy => absurd hy List.not_mem_nil) (by decide) (by decide) ck_L_13 (by decide) (k := 5) (by decide) (Or.inl (mm_dec dk_L_split 10 rfl)) (pc2 := 17) ⟨fun _ => rfl, fun ⟨_, _, z⟩ => (by have w := z.symm.trans (mm_dec dk_L_split 10 rfl); cases w)⟩ ?_
      refine mm_iconst C (mm_dec dk_L_split 11 rfl) ⟨by decide, by decide⟩ ?_
      exact mm_iret C T (mm_dec dk_L_split 12 rfl) (by decide) (by decide) ⟨_, rfl, ⟨by decide, by decide⟩, i0, mm_fr_rf, by omega, (by exact ⟨by decide, fun q => absurd q (by decide)⟩)⟩
    · rw [q1, q2]
      refine mm_catch (nm := "java/lang/IllegalArgumentException") [(⟨0, 12, 15, 13⟩ : ExceptionTableEntry)] (⟨0, 12, 19, 58⟩ : ExceptionTableEntry) [] C htb (fun y hy => by rw [List.mem_singleton.mp hy]; exact Or.inr ⟨by decide, _, ck_L_13, by decide⟩) (by decide) (by decide) ck_L_58 (by decide) (k := 5) (by decide) (Or.inl (mm_dec dk_L_split 13 rfl)) (pc2 := 21) ⟨fun _ => rfl, fun ⟨_, _, z⟩ => (by have w := z.symm.trans (mm_dec dk_L_split 13 rfl); cases w)⟩ ?_
      refine mm_iconst C (mm_dec dk_L_split 14 rfl) ⟨by decide, by decide⟩ ?_
      exact mm_iret C T (mm_dec dk_L_split 15 rfl) (by decide) (by decide) ⟨_, rfl, ⟨by decide, by decide⟩, i0, mm_fr_rf, by omega, (by exact ⟨by decide, fun q => absurd q (by decide)⟩)⟩
set_option maxRecDepth 100000 in
set_option maxHeartbeats 4000000 in
theorem c_L_judged_q (l : Launch) (hl : l.stackTraces = false) (d : Nat) (hd : 10 ≤ d) (h : mH) (i0 : mm_inv h) (p1 : Int) (p2 : Int) (p3 : Int) : mm_MetH l d yL_judged cL_judged 6 (some .int) [(0, 12, 15, 13), (0, 12, 19, 58)] [mR 0, mI p1, mI p2, mI p3, mR 124] h (mm_pi fun r h2 => (0 ≤ r ∧ r ≤ 2) ∧ mm_inv h2 ∧ mm_fr [(42, 4), (42, 5), (42, 6), (46, 5), (46, 6), (46, 7), (46, 8), (46, 9), (46, 10), (48, 8), (48, 9)] [45, 47, 49, 50, 51, 52, 53, 124] h h2 ∧ ((r = 0 ∧ (0 ≤ p1 ∧ p1 < h.1 22 8) ∧ (0 ≤ p2 ∧ p2 ≤ 8) ∧ (0 ≤ p3 ∧ p3 ≤ h.1 0 13)) ∨ (r = 1 ∧ ((p1 < 0 ∨ h.1 22 8 ≤ p1) ∨ (p2 < 0 ∨ 8 < p2))) ∨ (r = 2 ∧ ((0 ≤ p1 ∧ p1 < h.1 22 8) ∧ (0 ≤ p2 ∧ p2 ≤ 8) ∧ (p3 < 0 ∨ h.1 0 13 < p3)))) ∧ (0 ≤ r ∧ (r = 0 → mm_jX9 h p1 p2 p3 (h2.2.1 124 0)))) mm_nx 2 12 := by
  refine mm_ofWH (ls := [mR 0, mI p1, mI p2, mI p3, mR 124, mU]) hl (by decide) rfl (Nat.le_of_ble_eq_true rfl) ?_
  intro x hxl C T htb
  subst hxl
  have C1 := mm_OK_le (d' := d - 1 + 1) (by omega) C
  refine mm_aload C (mm_dec dk_L_judged 0 rfl) rfl ?_
  refine mm_iconst C (mm_dec dk_L_judged 1 rfl) ⟨by decide, by decide⟩ ?_
  refine mm_aload_n C (mm_dec dk_L_judged 2 rfl) rfl ?_
  refine mm_iload_n C (mm_dec dk_L_judged 3 rfl) rfl ?_
  refine mm_iload_n C (mm_dec dk_L_judged 4 rfl) rfl ?_
  refine mm_iload_n C (mm_dec dk_L_judged 5 rfl) rfl ?_
  refine mm_cVi (rest := [mI 0, mR 124]) C1 ev_L_67 (mm_dec dk_L_judged 6 rfl) (c_X11_judged_q x.2.1 hl (d - 1) (by omega) h i0 p1 p2 p3) rfl rfl (Nat.le_of_ble_eq_true rfl) ⟨by decide, by decide⟩ rfl (fun r hc hp => ?_) (fun E hx q => ?_)
  · obtain ⟨b, ic, gc, y0, y1⟩ := hp
    have fc : mm_fr [(42, 4), (42, 5), (42, 6), (46, 5), (46, 6), (46, 7), (46, 8), (46, 9), (46, 10), (48, 8), (48, 9)] [45, 47, 49, 50, 51, 52, 53, 124] h hc := mm_fr_tr (mm_fr_rf (h := h)) gc (by decide +kernel)
    refine mm_rng (fun _ ho => ?_)
    have br : -2147483648 ≤ r ∧ r < 2147483648 := mm_ok_hd ho
    refine mm_i2l C (mm_dec dk_L_judged 7 rfl) ?_
    refine mm_last C (mm_dec dk_L_judged 8 rfl) rfl (by omega) (by omega) ?_
    refine mm_goto (tgt := 23) C (mm_dec dk_L_judged 9 rfl) (by decide) ?_
    refine mm_iconst C (mm_dec dk_L_judged 16 rfl) ⟨by decide, by decide⟩ ?_
    exact mm_iret C T (mm_dec dk_L_judged 17 rfl) (by decide) (by decide) ⟨_, rfl, ⟨by decide, by decide⟩, mm_inv_pa ic (show -9223372036854775808 ≤ r ∧ r ≤ 9223372036854775807 from ⟨by omega, by omega⟩), mm_fr_pa fc (by decide), (by have ea : (mm_pa hc 124 0 r).2.1 124 0 = r := mm_pa_same _ _ _ _; revert ea ; generalize mm_pa hc 124 0 r = H; intros; omega), (by refine ⟨?_, fun _ => Eq.mpr (congrArg (mm_jX9 h p1 p2 p3) (mm_pa_same _ _ _ _)) y1⟩; have ea : (mm_pa hc 124 0 r).2.1 124 0 = r := mm_pa_same _ _ _ _; revert ea ; generalize mm_pa hc 124 0 r = H; intros; omega)⟩
  · rcases q with ⟨⟨q1, q2⟩, cx⟩ | ⟨⟨q1, q2⟩, cx⟩
    · rw [q1, q2]
      refine mm_catch (nm := "java/util/NoSuchElementException") [] (⟨0, 12, 15, 13⟩ : ExceptionTableEntry) [(⟨0, 12, 19, 58⟩ : ExceptionTableEntry)] C htb (fun y hy => absurd hy List.not_mem_nil) (by decide) (by decide) ck_L_13 (by decide) (k := 5) (by decide) (Or.inl (mm_dec dk_L_judged 10 rfl)) (pc2 := 17) ⟨fun _ => rfl, fun ⟨_, _, z⟩ => (by have w := z.symm.trans (mm_dec dk_L_judged 10 rfl); cases w)⟩ ?_
      refine mm_iconst C (mm_dec dk_L_judged 11 rfl) ⟨by decide, by decide⟩ ?_
      exact mm_iret C T (mm_dec dk_L_judged 12 rfl) (by decide) (by decide) ⟨_, rfl, ⟨by decide, by decide⟩, i0, mm_fr_rf, by omega, (by exact ⟨by decide, fun q => absurd q (by decide)⟩)⟩
    · rw [q1, q2]
      refine mm_catch (nm := "java/lang/IllegalArgumentException") [(⟨0, 12, 15, 13⟩ : ExceptionTableEntry)] (⟨0, 12, 19, 58⟩ : ExceptionTableEntry) [] C htb (fun y hy => by rw [List.mem_singleton.mp hy]; exact Or.inr ⟨by decide, _, ck_L_13, by decide⟩) (by decide) (by decide) ck_L_58 (by decide) (k := 5) (by decide) (Or.inl (mm_dec dk_L_judged 13 rfl)) (pc2 := 21) ⟨fun _ => rfl, fun ⟨_, _, z⟩ => (by have w := z.symm.trans (mm_dec dk_L_judged 13 rfl); cases w)⟩ ?_
      refine mm_iconst C (mm_dec dk_L_judged 14 rfl) ⟨by decide, by decide⟩ ?_
      exact mm_iret C T (mm_dec dk_L_judged 15 rfl) (by decide) (by decide) ⟨_, rfl, ⟨by decide, by decide⟩, i0, mm_fr_rf, by omega, (by exact ⟨by decide, fun q => absurd q (by decide)⟩)⟩
set_option maxRecDepth 100000 in
set_option maxHeartbeats 4000000 in
theorem c_L_ofTeam_q (l : Launch) (hl : l.stackTraces = false) (d : Nat) (hd : 10 ≤ d) (h : mH) (i0 : mm_inv h) (p1 : Int) (p2 : Int) (p3 : Int) : mm_MetH l d yL_ofTeam cL_ofTeam 6 (some .int) [(0, 12, 15, 13), (0, 12, 19, 58)] [mR 0, mI p1, mI p2, mI p3, mR 124] h (mm_pi fun r h2 => (0 ≤ r ∧ r ≤ 2) ∧ mm_inv h2 ∧ mm_fr [(42, 4), (42, 5), (42, 6), (46, 5), (46, 6), (46, 7), (46, 8), (46, 9), (46, 10), (46, 11), (48, 8), (48, 9)] [45, 47, 49, 50, 51, 52, 53, 124] h h2 ∧ ((r = 0 ∧ (0 ≤ p1 ∧ p1 < h.1 22 9) ∧ (0 ≤ p2 ∧ p2 ≤ 1) ∧ (0 ≤ p3 ∧ p3 ≤ h.1 0 13)) ∨ (r = 1 ∧ ((p1 < 0 ∨ h.1 22 9 ≤ p1) ∨ (p2 < 0 ∨ 1 < p2))) ∨ (r = 2 ∧ ((0 ≤ p1 ∧ p1 < h.1 22 9) ∧ (0 ≤ p2 ∧ p2 ≤ 1) ∧ (p3 < 0 ∨ h.1 0 13 < p3)))) ∧ (0 ≤ r ∧ (r = 0 → mm_oX9 h p1 p2 p3 (h2.2.1 124 0)))) mm_nx 1 6 := by
  refine mm_ofWH (ls := [mR 0, mI p1, mI p2, mI p3, mR 124, mU]) hl (by decide) rfl (Nat.le_of_ble_eq_true rfl) ?_
  intro x hxl C T htb
  subst hxl
  have C1 := mm_OK_le (d' := d - 1 + 1) (by omega) C
  refine mm_aload C (mm_dec dk_L_ofTeam 0 rfl) rfl ?_
  refine mm_iconst C (mm_dec dk_L_ofTeam 1 rfl) ⟨by decide, by decide⟩ ?_
  refine mm_aload_n C (mm_dec dk_L_ofTeam 2 rfl) rfl ?_
  refine mm_iload_n C (mm_dec dk_L_ofTeam 3 rfl) rfl ?_
  refine mm_iload_n C (mm_dec dk_L_ofTeam 4 rfl) rfl ?_
  refine mm_iload_n C (mm_dec dk_L_ofTeam 5 rfl) rfl ?_
  refine mm_cVi (rest := [mI 0, mR 124]) C1 ev_L_73 (mm_dec dk_L_ofTeam 6 rfl) (c_X11_ofTeam_q x.2.1 hl (d - 1) (by omega) h i0 p1 p2 p3) rfl rfl (Nat.le_of_ble_eq_true rfl) ⟨by decide, by decide⟩ rfl (fun r hc hp => ?_) (fun E hx q => ?_)
  · obtain ⟨b, ic, gc, y0, y1⟩ := hp
    have fc : mm_fr [(42, 4), (42, 5), (42, 6), (46, 5), (46, 6), (46, 7), (46, 8), (46, 9), (46, 10), (46, 11), (48, 8), (48, 9)] [45, 47, 49, 50, 51, 52, 53, 124] h hc := mm_fr_tr (mm_fr_rf (h := h)) gc (by decide +kernel)
    refine mm_rng (fun _ ho => ?_)
    have br : -2147483648 ≤ r ∧ r < 2147483648 := mm_ok_hd ho
    refine mm_i2l C (mm_dec dk_L_ofTeam 7 rfl) ?_
    refine mm_last C (mm_dec dk_L_ofTeam 8 rfl) rfl (by omega) (by omega) ?_
    refine mm_goto (tgt := 23) C (mm_dec dk_L_ofTeam 9 rfl) (by decide) ?_
    refine mm_iconst C (mm_dec dk_L_ofTeam 16 rfl) ⟨by decide, by decide⟩ ?_
    exact mm_iret C T (mm_dec dk_L_ofTeam 17 rfl) (by decide) (by decide) ⟨_, rfl, ⟨by decide, by decide⟩, mm_inv_pa ic (show -9223372036854775808 ≤ r ∧ r ≤ 9223372036854775807 from ⟨by omega, by omega⟩), mm_fr_pa fc (by decide), (by have ea : (mm_pa hc 124 0 r).2.1 124 0 = r := mm_pa_same _ _ _ _; revert ea ; generalize mm_pa hc 124 0 r = H; intros; omega), (by refine ⟨?_, fun _ => Eq.mpr (congrArg (mm_oX9 h p1 p2 p3) (mm_pa_same _ _ _ _)) y1⟩; have ea : (mm_pa hc 124 0 r).2.1 124 0 = r := mm_pa_same _ _ _ _; revert ea ; generalize mm_pa hc 124 0 r = H; intros; omega)⟩
  · rcases q with ⟨⟨q1, q2⟩, cx⟩ | ⟨⟨q1, q2⟩, cx⟩
    · rw [q1, q2]
      refine mm_catch (nm := "java/util/NoSuchElementException") [] (⟨0, 12, 15, 13⟩ : ExceptionTableEntry) [(⟨0, 12, 19, 58⟩ : ExceptionTableEntry)] C htb (fun y hy => absurd hy List.not_mem_nil) (by decide) (by decide) ck_L_13 (by decide) (k := 5) (by decide) (Or.inl (mm_dec dk_L_ofTeam 10 rfl)) (pc2 := 17) ⟨fun _ => rfl, fun ⟨_, _, z⟩ => (by have w := z.symm.trans (mm_dec dk_L_ofTeam 10 rfl); cases w)⟩ ?_
      refine mm_iconst C (mm_dec dk_L_ofTeam 11 rfl) ⟨by decide, by decide⟩ ?_
      exact mm_iret C T (mm_dec dk_L_ofTeam 12 rfl) (by decide) (by decide) ⟨_, rfl, ⟨by decide, by decide⟩, i0, mm_fr_rf, by omega, (by exact ⟨by decide, fun q => absurd q (by decide)⟩)⟩
    · rw [q1, q2]
      refine mm_catch (nm := "java/lang/IllegalArgumentException") [(⟨0, 12, 15, 13⟩ : ExceptionTableEntry)] (⟨0, 12, 19, 58⟩ : ExceptionTableEntry) [] C htb (fun y hy => by rw [List.mem_singleton.mp hy]; exact Or.inr ⟨by decide, _, ck_L_13, by decide⟩) (by decide) (by decide) ck_L_58 (by decide) (k := 5) (by decide) (Or.inl (mm_dec dk_L_ofTeam 13 rfl)) (pc2 := 21) ⟨fun _ => rfl, fun ⟨_, _, z⟩ => (by have w := z.symm.trans (mm_dec dk_L_ofTeam 13 rfl); cases w)⟩ ?_
      refine mm_iconst C (mm_dec dk_L_ofTeam 14 rfl) ⟨by decide, by decide⟩ ?_
      exact mm_iret C T (mm_dec dk_L_ofTeam 15 rfl) (by decide) (by decide) ⟨_, rfl, ⟨by decide, by decide⟩, i0, mm_fr_rf, by omega, (by exact ⟨by decide, fun q => absurd q (by decide)⟩)⟩
set_option maxRecDepth 100000 in
set_option maxHeartbeats 4000000 in
theorem c_L_event_q (l : Launch) (hl : l.stackTraces = false) (d : Nat) (hd : 10 ≤ d) (h : mH) (i0 : mm_inv h) (p1 : Int) (p2 : Int) (p3 : Int) (p4 : Int) : mm_MetH l d yL_event cL_event 7 (some .int) [(0, 14, 17, 13)] [mR 0, mI p1, mI p2, mI p3, mI p4, mR 124] h (mm_pi fun r h2 => (0 ≤ r ∧ r ≤ 2) ∧ mm_inv h2 ∧ mm_fr [(30, 6)] [31, 32, 33, 34, 35, 36, 124] h h2 ∧ ((r = 0 ∧ (0 ≤ p1 ∧ p1 ≤ 2 ∧ 0 ≤ p2 ∧ p2 < h.1 22 8 ∧ (p1 ≠ 1 ∨ (0 ≤ p3 ∧ p3 < h.1 14 7))) ∧ (((h.1 30 6 ≤ 499 ∧ 0 ≤ p4 ∧ ((p1 = 0 ∧ p4 ≤ 99999) ∨ (p1 ≠ 0 ∧ p4 ≤ h.1 0 13))) ∧ h2.2.1 124 0 = h.1 30 6 ∧ h2.1 30 6 = h.1 30 6 + 1) ∨ ((500 ≤ h.1 30 6 ∨ p4 < 0 ∨ (p1 = 0 ∧ 99999 < p4) ∨ (p1 ≠ 0 ∧ h.1 0 13 < p4)) ∧ h2.2.1 124 0 = -1 ∧ h2.1 30 6 = h.1 30 6))) ∨ (r = 1 ∧ (p1 < 0 ∨ 2 < p1 ∨ p2 < 0 ∨ h.1 22 8 ≤ p2 ∨ (p1 = 1 ∧ (p3 < 0 ∨ h.1 14 7 ≤ p3))) ∧ h2.1 30 6 = h.1 30 6)) ∧ (∃ f : Int, ((f = 1 ∧ h2.1 30 6 = h.1 30 6 + 1) ∨ (f = 0 ∧ h2.1 30 6 = h.1 30 6)) ∧ mm_up h h2 31 (h.1 30 6) p1 f ∧ mm_up h h2 32 (h.1 30 6) p2 f ∧ mm_up h h2 35 (h.1 30 6) (h.1 0 13) f ∧ mm_up h h2 36 (h.1 30 6) (-1) f ∧ mm_up h h2 33 (h.1 30 6) p3 f ∧ mm_up h h2 34 (h.1 30 6) p4 f)) mm_nx 2 12 := by
  refine mm_ofWH (ls := [mR 0, mI p1, mI p2, mI p3, mI p4, mR 124, mU]) hl (by decide) rfl (Nat.le_of_ble_eq_true rfl) ?_
  intro x hxl C T htb
  subst hxl
  have C1 := mm_OK_le (d' := d - 1 + 1) (by omega) C
  refine mm_aload C (mm_dec dk_L_event 0 rfl) rfl ?_
  refine mm_iconst C (mm_dec dk_L_event 1 rfl) ⟨by decide, by decide⟩ ?_
  refine mm_aload_n C (mm_dec dk_L_event 2 rfl) rfl ?_
  refine mm_iload_n C (mm_dec dk_L_event 3 rfl) rfl ?_
  refine mm_iload_n C (mm_dec dk_L_event 4 rfl) rfl ?_
  refine mm_iload_n C (mm_dec dk_L_event 5 rfl) rfl ?_
  refine mm_iload C (mm_dec dk_L_event 6 rfl) rfl ?_
  refine mm_cVi (rest := [mI 0, mR 124]) C1 ev_L_60 (mm_dec dk_L_event 7 rfl) (c_X11_event_q x.2.1 hl (d - 1) (by omega) h i0 p1 p2 p3 p4) rfl rfl (Nat.le_of_ble_eq_true rfl) ⟨by decide, by decide⟩ rfl (fun r hc hp => ?_) (fun E hx q => ?_)
  · obtain ⟨b, ic, gc, y0, y1, y2⟩ := hp
    have fc : mm_fr [(30, 6)] [31, 32, 33, 34, 35, 36, 124] h hc := mm_fr_tr (mm_fr_rf (h := h)) gc (by decide +kernel)
    refine mm_rng (fun _ ho => ?_)
    have br : -2147483648 ≤ r ∧ r < 2147483648 := mm_ok_hd ho
    refine mm_i2l C (mm_dec dk_L_event 8 rfl) ?_
    refine mm_last C (mm_dec dk_L_event 9 rfl) rfl (by omega) (by omega) ?_
    refine mm_goto (tgt := 21) C (mm_dec dk_L_event 10 rfl) (by decide) ?_
    refine mm_iconst C (mm_dec dk_L_event 14 rfl) ⟨by decide, by decide⟩ ?_
    exact mm_iret C T (mm_dec dk_L_event 15 rfl) (by decide) (by decide) ⟨_, rfl, ⟨by decide, by decide⟩, mm_inv_pa ic (show -9223372036854775808 ≤ r ∧ r ≤ 9223372036854775807 from ⟨by omega, by omega⟩), mm_fr_pa fc (by decide), (by have e0 : (mm_pa hc 124 0 r).1 30 6 = hc.1 30 6 := rfl; have ea : (mm_pa hc 124 0 r).2.1 124 0 = r := mm_pa_same _ _ _ _; revert ea e0; generalize mm_pa hc 124 0 r = H; intros; omega), (by obtain ⟨f, hf, u1, u2, u3, u4, u5, u6⟩ := y2; refine ⟨f, ?_, mm_up_tr (fun _ => rfl) u1 (fun j => mm_pa_o 31 124 (by decide) j) rfl Iff.rfl, mm_up_tr (fun _ => rfl) u2 (fun j => mm_pa_o 32 124 (by decide) j) rfl Iff.rfl, mm_up_tr (fun _ => rfl) u3 (fun j => mm_pa_o 35 124 (by decide) j) rfl Iff.rfl, mm_up_tr (fun _ => rfl) u4 (fun j => mm_pa_o 36 124 (by decide) j) rfl Iff.rfl, mm_up_tr (fun _ => rfl) u5 (fun j => mm_pa_o 33 124 (by decide) j) rfl Iff.rfl, mm_up_tr (fun _ => rfl) u6 (fun j => mm_pa_o 34 124 (by decide) j) rfl Iff.rfl⟩; have e0 : (mm_pa hc 124 0 r).1 30 6 = hc.1 30 6 := rfl; have ea : (mm_pa hc 124 0 r).2.1 124 0 = r := mm_pa_same _ _ _ _; revert ea e0; generalize mm_pa hc 124 0 r = H; intros; omega)⟩
  · obtain ⟨q, cx⟩ := q
    rw [q.1, q.2]
    refine mm_catch (nm := "java/util/NoSuchElementException") [] (⟨0, 14, 17, 13⟩ : ExceptionTableEntry) [] C htb (fun y hy => absurd hy List.not_mem_nil) (by decide) (by decide) ck_L_13 (by decide) (k := 6) (by decide) (Or.inl (mm_dec dk_L_event 11 rfl)) (pc2 := 19) ⟨fun _ => rfl, fun ⟨_, _, z⟩ => (by have w := z.symm.trans (mm_dec dk_L_event 11 rfl); cases w)⟩ ?_
    refine mm_iconst C (mm_dec dk_L_event 12 rfl) ⟨by decide, by decide⟩ ?_
    exact mm_iret C T (mm_dec dk_L_event 13 rfl) (by decide) (by decide) ⟨_, rfl, ⟨by decide, by decide⟩, i0, mm_fr_rf, by omega, (by exact ⟨0, Or.inr ⟨rfl, rfl⟩, mm_up_no (by decide) (fun _ => rfl), mm_up_no (by decide) (fun _ => rfl), mm_up_no (by decide) (fun _ => rfl), mm_up_no (by decide) (fun _ => rfl), mm_up_no (by decide) (fun _ => rfl), mm_up_no (by decide) (fun _ => rfl)⟩)⟩
set_option maxRecDepth 100000 in
set_option maxHeartbeats 4000000 in
theorem c_L_back_q (l : Launch) (hl : l.stackTraces = false) (d : Nat) (hd : 9 ≤ d) (h : mH) (i0 : mm_inv h) (p1 : Int) : mm_MetH l d yL_back cL_back 4 (some .int) [(0, 16, 19, 13)] [mR 0, mI p1, mR 124] h (mm_pi fun r h2 => (0 ≤ r ∧ r ≤ 2) ∧ mm_inv h2 ∧ mm_fr [] [36, 124] h h2 ∧ ((r = 0 ∧ 0 ≤ p1 ∧ p1 < h.1 30 6 ∧ ((h2.2.1 124 0 = 1 ∧ h.2.1 36 p1 = -1) ∨ (h2.2.1 124 0 = 0 ∧ h.2.1 36 p1 ≠ -1))) ∨ (r = 1 ∧ (p1 < 0 ∨ h.1 30 6 ≤ p1))) ∧ (∃ f : Int, ((f = 1 ∧ r = 0 ∧ h2.2.1 124 0 = 1) ∨ (f = 0 ∧ (r = 1 ∨ h2.2.1 124 0 = 0))) ∧ mm_up h h2 36 p1 (h.1 0 13) f)) mm_nx 1 6 := by
  refine mm_ofWH (ls := [mR 0, mI p1, mR 124, mU]) hl (by decide) rfl (Nat.le_of_ble_eq_true rfl) ?_
  intro x hxl C T htb
  subst hxl
  have C1 := mm_OK_le (d' := d - 1 + 1) (by omega) C
  refine mm_aload_n C (mm_dec dk_L_back 0 rfl) rfl ?_
  refine mm_iconst C (mm_dec dk_L_back 1 rfl) ⟨by decide, by decide⟩ ?_
  refine mm_aload_n C (mm_dec dk_L_back 2 rfl) rfl ?_
  refine mm_iload_n C (mm_dec dk_L_back 3 rfl) rfl ?_
  refine mm_cVi (rest := [mI 0, mR 124]) C1 ev_L_63 (mm_dec dk_L_back 4 rfl) (c_X11_back_q x.2.1 hl (d - 1) (by omega) h i0 p1) rfl rfl (Nat.le_of_ble_eq_true rfl) ⟨by decide, by decide⟩ rfl (fun r hc hp => ?_) (fun E hx q => ?_)
  · obtain ⟨b, ic, gc, y0, y1, y2⟩ := hp
    have fc : mm_fr [] [36, 124] h hc := mm_fr_tr (mm_fr_rf (h := h)) gc (by decide +kernel)
    refine mm_if_eq (tgt := 14) C (mm_dec dk_L_back 5 rfl) (by decide) (fun cr => ?_) (fun cr => ?_)
    · refine mm_lconst (z := 0) C (mm_dec dk_L_back 8 rfl) rfl ?_
      refine mm_last C (mm_dec dk_L_back 9 rfl) rfl (by omega) (by omega) ?_
      refine mm_goto (tgt := 22) C (mm_dec dk_L_back 10 rfl) (by decide) ?_
      refine mm_iconst C (mm_dec dk_L_back 14 rfl) ⟨by decide, by decide⟩ ?_
      exact mm_iret C T (mm_dec dk_L_back 15 rfl) (by decide) (by decide) ⟨_, rfl, ⟨by decide, by decide⟩, mm_inv_pa ic (show -9223372036854775808 ≤ (0 : Int) ∧ (0 : Int) ≤ 9223372036854775807 from ⟨by omega, by omega⟩), mm_fr_pa fc (by decide), (by have ea : (mm_pa hc 124 0 (0 : Int)).2.1 124 0 = (0 : Int) := mm_pa_same _ _ _ _; revert ea ; generalize mm_pa hc 124 0 (0 : Int) = H; intros; omega), (by refine ⟨r, ?_, mm_up_tr (fun _ => rfl) y2 (fun j => mm_pa_o 36 124 (by decide) j) rfl Iff.rfl⟩; have ea : (mm_pa hc 124 0 (0 : Int)).2.1 124 0 = (0 : Int) := mm_pa_same _ _ _ _; revert ea ; generalize mm_pa hc 124 0 (0 : Int) = H; intros; omega)⟩
    · refine mm_lconst (z := 1) C (mm_dec dk_L_back 6 rfl) rfl ?_
      refine mm_goto (tgt := 15) C (mm_dec dk_L_back 7 rfl) (by decide) ?_
      refine mm_last C (mm_dec dk_L_back 9 rfl) rfl (by omega) (by omega) ?_
      refine mm_goto (tgt := 22) C (mm_dec dk_L_back 10 rfl) (by decide) ?_
      refine mm_iconst C (mm_dec dk_L_back 14 rfl) ⟨by decide, by decide⟩ ?_
      exact mm_iret C T (mm_dec dk_L_back 15 rfl) (by decide) (by decide) ⟨_, rfl, ⟨by decide, by decide⟩, mm_inv_pa ic (show -9223372036854775808 ≤ (1 : Int) ∧ (1 : Int) ≤ 9223372036854775807 from ⟨by omega, by omega⟩), mm_fr_pa fc (by decide), (by have ea : (mm_pa hc 124 0 (1 : Int)).2.1 124 0 = (1 : Int) := mm_pa_same _ _ _ _; revert ea ; generalize mm_pa hc 124 0 (1 : Int) = H; intros; omega), (by refine ⟨r, ?_, mm_up_tr (fun _ => rfl) y2 (fun j => mm_pa_o 36 124 (by decide) j) rfl Iff.rfl⟩; have ea : (mm_pa hc 124 0 (1 : Int)).2.1 124 0 = (1 : Int) := mm_pa_same _ _ _ _; revert ea ; generalize mm_pa hc 124 0 (1 : Int) = H; intros; omega)⟩
  · obtain ⟨q, cx⟩ := q
    rw [q.1, q.2]
    refine mm_catch (nm := "java/util/NoSuchElementException") [] (⟨0, 16, 19, 13⟩ : ExceptionTableEntry) [] C htb (fun y hy => absurd hy List.not_mem_nil) (by decide) (by decide) ck_L_13 (by decide) (k := 3) (by decide) (Or.inr ⟨3, rfl, (mm_dec dk_L_back 11 rfl)⟩) (pc2 := 20) ⟨fun z => (by have w := z.symm.trans (mm_dec dk_L_back 11 rfl); cases w), fun _ => rfl⟩ ?_
    refine mm_iconst C (mm_dec dk_L_back 12 rfl) ⟨by decide, by decide⟩ ?_
    exact mm_iret C T (mm_dec dk_L_back 13 rfl) (by decide) (by decide) ⟨_, rfl, ⟨by decide, by decide⟩, i0, mm_fr_rf, by omega, (by exact ⟨0, Or.inr ⟨rfl, Or.inl rfl⟩, mm_up_no (by decide) (fun _ => rfl)⟩)⟩
set_option maxRecDepth 100000 in
set_option maxHeartbeats 4000000 in
theorem c_L_decide_q (l : Launch) (hl : l.stackTraces = false) (d : Nat) (hd : 9 ≤ d) (h : mH) (i0 : mm_inv h) (p1 : Int) (p2 : Int) (p3 : Int) : mm_MetH l d yL_decide cL_decide 6 (some .int) [(0, 19, 22, 13)] [mR 0, mI p1, mI p2, mI p3, mR 124] h (mm_pi fun r h2 => (0 ≤ r ∧ r ≤ 2) ∧ mm_inv h2 ∧ mm_fr [(30, 13)] [38, 39, 40, 41, 124] h h2 ∧ ((r = 0 ∧ 0 ≤ p1 ∧ p1 < h.1 30 12 ∧ ((h2.2.1 124 0 = 1 ∧ (0 ≤ p2 ∧ p2 ≤ 2 ∧ -999 ≤ p3 ∧ p3 ≤ 999) ∧ h.2.1 40 p1 = -1) ∨ (h2.2.1 124 0 = 0 ∧ ((p2 < 0 ∨ 2 < p2 ∨ p3 < -999 ∨ 999 < p3) ∨ h.2.1 40 p1 ≠ -1)))) ∨ (r = 1 ∧ (p1 < 0 ∨ h.1 30 12 ≤ p1))) ∧ (∃ f : Int, ((f = 1 ∧ r = 0 ∧ h2.2.1 124 0 = 1) ∨ (f = 0 ∧ (r = 1 ∨ h2.2.1 124 0 = 0))) ∧ mm_up h h2 40 p1 (h.1 0 13) f ∧ mm_up h h2 38 p1 p2 f ∧ mm_up h h2 39 p1 p3 f ∧ mm_up h h2 41 p1 (h.1 30 13) f ∧ ((f = 1 ∧ h2.1 30 13 = mm_w (h.1 30 13 + 1)) ∨ (f = 0 ∧ h2.1 30 13 = h.1 30 13)))) mm_nx 1 6 := by
  refine mm_ofWH (ls := [mR 0, mI p1, mI p2, mI p3, mR 124, mU]) hl (by decide) rfl (Nat.le_of_ble_eq_true rfl) ?_
  intro x hxl C T htb
  subst hxl
  have C1 := mm_OK_le (d' := d - 1 + 1) (by omega) C
  refine mm_aload C (mm_dec dk_L_decide 0 rfl) rfl ?_
  refine mm_iconst C (mm_dec dk_L_decide 1 rfl) ⟨by decide, by decide⟩ ?_
  refine mm_aload_n C (mm_dec dk_L_decide 2 rfl) rfl ?_
  refine mm_iload_n C (mm_dec dk_L_decide 3 rfl) rfl ?_
  refine mm_iload_n C (mm_dec dk_L_decide 4 rfl) rfl ?_
  refine mm_iload_n C (mm_dec dk_L_decide 5 rfl) rfl ?_
  refine mm_cVi (rest := [mI 0, mR 124]) C1 ev_L_82 (mm_dec dk_L_decide 6 rfl) (c_X11_decide_q x.2.1 hl (d - 1) (by omega) h i0 p1 p2 p3) rfl rfl (Nat.le_of_ble_eq_true rfl) ⟨by decide, by decide⟩ rfl (fun r hc hp => ?_) (fun E hx q => ?_)
  · obtain ⟨b, ic, gc, y0, y1, y2, y3⟩ := hp
    have fc : mm_fr [(30, 13)] [38, 39, 40, 41, 124] h hc := mm_fr_tr (mm_fr_rf (h := h)) gc (by decide +kernel)
    refine mm_if_eq (tgt := 17) C (mm_dec dk_L_decide 7 rfl) (by decide) (fun cr => ?_) (fun cr => ?_)
    · refine mm_lconst (z := 0) C (mm_dec dk_L_decide 10 rfl) rfl ?_
      refine mm_last C (mm_dec dk_L_decide 11 rfl) rfl (by omega) (by omega) ?_
      refine mm_goto (tgt := 26) C (mm_dec dk_L_decide 12 rfl) (by decide) ?_
      refine mm_iconst C (mm_dec dk_L_decide 16 rfl) ⟨by decide, by decide⟩ ?_
      exact mm_iret C T (mm_dec dk_L_decide 17 rfl) (by decide) (by decide) ⟨_, rfl, ⟨by decide, by decide⟩, mm_inv_pa ic (show -9223372036854775808 ≤ (0 : Int) ∧ (0 : Int) ≤ 9223372036854775807 from ⟨by omega, by omega⟩), mm_fr_pa fc (by decide), (by have ea : (mm_pa hc 124 0 (0 : Int)).2.1 124 0 = (0 : Int) := mm_pa_same _ _ _ _; revert ea ; generalize mm_pa hc 124 0 (0 : Int) = H; intros; omega), (by obtain ⟨v1, v2, v3, v4⟩ := y3; refine ⟨r, ?_, mm_up_tr (fun _ => rfl) y2 (fun j => mm_pa_o 40 124 (by decide) j) rfl Iff.rfl, mm_up_tr (fun _ => rfl) v1 (fun j => mm_pa_o 38 124 (by decide) j) rfl Iff.rfl, mm_up_tr (fun _ => rfl) v2 (fun j => mm_pa_o 39 124 (by decide) j) rfl Iff.rfl, mm_up_tr (fun _ => rfl) v3 (fun j => mm_pa_o 41 124 (by decide) j) rfl Iff.rfl, v4⟩; have ea : (mm_pa hc 124 0 (0 : Int)).2.1 124 0 = (0 : Int) := mm_pa_same _ _ _ _; revert ea ; generalize mm_pa hc 124 0 (0 : Int) = H; intros; omega)⟩
    · refine mm_lconst (z := 1) C (mm_dec dk_L_decide 8 rfl) rfl ?_
      refine mm_goto (tgt := 18) C (mm_dec dk_L_decide 9 rfl) (by decide) ?_
      refine mm_last C (mm_dec dk_L_decide 11 rfl) rfl (by omega) (by omega) ?_
      refine mm_goto (tgt := 26) C (mm_dec dk_L_decide 12 rfl) (by decide) ?_
      refine mm_iconst C (mm_dec dk_L_decide 16 rfl) ⟨by decide, by decide⟩ ?_
      exact mm_iret C T (mm_dec dk_L_decide 17 rfl) (by decide) (by decide) ⟨_, rfl, ⟨by decide, by decide⟩, mm_inv_pa ic (show -9223372036854775808 ≤ (1 : Int) ∧ (1 : Int) ≤ 9223372036854775807 from ⟨by omega, by omega⟩), mm_fr_pa fc (by decide), (by have ea : (mm_pa hc 124 0 (1 : Int)).2.1 124 0 = (1 : Int) := mm_pa_same _ _ _ _; revert ea ; generalize mm_pa hc 124 0 (1 : Int) = H; intros; omega), (by obtain ⟨v1, v2, v3, v4⟩ := y3; refine ⟨r, ?_, mm_up_tr (fun _ => rfl) y2 (fun j => mm_pa_o 40 124 (by decide) j) rfl Iff.rfl, mm_up_tr (fun _ => rfl) v1 (fun j => mm_pa_o 38 124 (by decide) j) rfl Iff.rfl, mm_up_tr (fun _ => rfl) v2 (fun j => mm_pa_o 39 124 (by decide) j) rfl Iff.rfl, mm_up_tr (fun _ => rfl) v3 (fun j => mm_pa_o 41 124 (by decide) j) rfl Iff.rfl, v4⟩; have ea : (mm_pa hc 124 0 (1 : Int)).2.1 124 0 = (1 : Int) := mm_pa_same _ _ _ _; revert ea ; generalize mm_pa hc 124 0 (1 : Int) = H; intros; omega)⟩
  · obtain ⟨q, cx⟩ := q
    rw [q.1, q.2]
    refine mm_catch (nm := "java/util/NoSuchElementException") [] (⟨0, 19, 22, 13⟩ : ExceptionTableEntry) [] C htb (fun y hy => absurd hy List.not_mem_nil) (by decide) (by decide) ck_L_13 (by decide) (k := 5) (by decide) (Or.inl (mm_dec dk_L_decide 13 rfl)) (pc2 := 24) ⟨fun _ => rfl, fun ⟨_, _, z⟩ => (by have w := z.symm.trans (mm_dec dk_L_decide 13 rfl); cases w)⟩ ?_
    refine mm_iconst C (mm_dec dk_L_decide 14 rfl) ⟨by decide, by decide⟩ ?_
    exact mm_iret C T (mm_dec dk_L_decide 15 rfl) (by decide) (by decide) ⟨_, rfl, ⟨by decide, by decide⟩, i0, mm_fr_rf, by omega, (by exact ⟨0, Or.inr ⟨rfl, Or.inl rfl⟩, mm_up_no (by decide) (fun _ => rfl), mm_up_no (by decide) (fun _ => rfl), mm_up_no (by decide) (fun _ => rfl), mm_up_no (by decide) (fun _ => rfl), Or.inr ⟨rfl, rfl⟩⟩)⟩
set_option maxRecDepth 100000 in
set_option maxHeartbeats 4000000 in
theorem c_L_protest_q (l : Launch) (hl : l.stackTraces = false) (d : Nat) (hd : 10 ≤ d) (h : mH) (i0 : mm_inv h) (p1 : Int) : mm_MetH l d yL_protest cL_protest 4 (some .int) [(0, 9, 12, 13)] [mR 0, mI p1, mR 124] h (mm_pi fun r h2 => (0 ≤ r ∧ r ≤ 2) ∧ mm_inv h2 ∧ mm_fr [(30, 12)] [37, 40, 124] h h2 ∧ ((r = 0 ∧ 0 ≤ p1 ∧ p1 < h.1 22 8) ∨ (r = 1 ∧ (p1 < 0 ∨ h.1 22 8 ≤ p1))) ∧ ((r = 0 → mm_hq9 (∃ e : Int, mm_lat (mm_k1 h 2 p1 (h.1 0 13)) (h.1 30 6) e ∧ (((h.1 30 12 ≤ 39 ∧ e ≠ -1 ∧ (mm_w (h.1 0 13 - h.2.1 35 e)) ≤ h.2.1 44 2) ∧ h2.2.1 124 0 = h.1 30 12 ∧ h2.1 30 12 = h.1 30 12 + 1) ∨ ((40 ≤ h.1 30 12 ∨ e = -1 ∨ h.2.1 44 2 < (mm_w (h.1 0 13 - h.2.1 35 e))) ∧ h2.2.1 124 0 = -1 ∧ h2.1 30 12 = h.1 30 12)))) ∧ (r ≠ 0 → h2.1 30 12 = h.1 30 12) ∧ (∃ f : Int, ((f = 1 ∧ h2.1 30 12 = h.1 30 12 + 1) ∨ (f = 0 ∧ h2.1 30 12 = h.1 30 12)) ∧ mm_up h h2 40 (h.1 30 12) (-1) f ∧ mm_up h h2 37 (h.1 30 12) p1 f))) mm_nx 1 6 := by
  refine mm_ofWH (ls := [mR 0, mI p1, mR 124, mU]) hl (by decide) rfl (Nat.le_of_ble_eq_true rfl) ?_
  intro x hxl C T htb
  subst hxl
  have C1 := mm_OK_le (d' := d - 1 + 1) (by omega) C
  refine mm_aload_n C (mm_dec dk_L_protest 0 rfl) rfl ?_
  refine mm_iconst C (mm_dec dk_L_protest 1 rfl) ⟨by decide, by decide⟩ ?_
  refine mm_aload_n C (mm_dec dk_L_protest 2 rfl) rfl ?_
  refine mm_iload_n C (mm_dec dk_L_protest 3 rfl) rfl ?_
  refine mm_cVi (rest := [mI 0, mR 124]) C1 ev_L_79 (mm_dec dk_L_protest 4 rfl) (c_X11_protest_q x.2.1 hl (d - 1) (by omega) h i0 p1) rfl rfl (Nat.le_of_ble_eq_true rfl) ⟨by decide, by decide⟩ rfl (fun r hc hp => ?_) (fun E hx q => ?_)
  · obtain ⟨b, ic, gc, y0, y1, y2⟩ := hp
    have fc : mm_fr [(30, 12)] [37, 40, 124] h hc := mm_fr_tr (mm_fr_rf (h := h)) gc (by decide +kernel)
    refine mm_rng (fun _ ho => ?_)
    have br : -2147483648 ≤ r ∧ r < 2147483648 := mm_ok_hd ho
    refine mm_i2l C (mm_dec dk_L_protest 5 rfl) ?_
    refine mm_last C (mm_dec dk_L_protest 6 rfl) rfl (by omega) (by omega) ?_
    refine mm_goto (tgt := 15) C (mm_dec dk_L_protest 7 rfl) (by decide) ?_
    refine mm_iconst C (mm_dec dk_L_protest 11 rfl) ⟨by decide, by decide⟩ ?_
    exact mm_iret C T (mm_dec dk_L_protest 12 rfl) (by decide) (by decide) ⟨_, rfl, ⟨by decide, by decide⟩, mm_inv_pa ic (show -9223372036854775808 ≤ r ∧ r ≤ 9223372036854775807 from ⟨by omega, by omega⟩), mm_fr_pa fc (by decide), (by have e0 : (mm_pa hc 124 0 r).1 30 12 = hc.1 30 12 := rfl; have ea : (mm_pa hc 124 0 r).2.1 124 0 = r := mm_pa_same _ _ _ _; revert ea e0; generalize mm_pa hc 124 0 r = H; intros; omega), (by obtain ⟨e, he, hq⟩ := mm_hq9x y1; obtain ⟨f, hf, uf, ug⟩ := y2; refine ⟨fun _ => mm_hq9i ⟨e, he, ?_⟩, fun q => absurd rfl q, ⟨f, hf, mm_up_tr (fun _ => rfl) uf (fun j => mm_pa_o 40 124 (by decide) j) rfl Iff.rfl, mm_up_tr (fun _ => rfl) ug (fun j => mm_pa_o 37 124 (by decide) j) rfl Iff.rfl⟩⟩; have e0 : (mm_pa hc 124 0 r).1 30 12 = hc.1 30 12 := rfl; have ea : (mm_pa hc 124 0 r).2.1 124 0 = r := mm_pa_same _ _ _ _; revert ea e0; generalize mm_pa hc 124 0 r = H; intros; omega)⟩
  · obtain ⟨q, cx⟩ := q
    rw [q.1, q.2]
    refine mm_catch (nm := "java/util/NoSuchElementException") [] (⟨0, 9, 12, 13⟩ : ExceptionTableEntry) [] C htb (fun y hy => absurd hy List.not_mem_nil) (by decide) (by decide) ck_L_13 (by decide) (k := 3) (by decide) (Or.inr ⟨3, rfl, (mm_dec dk_L_protest 8 rfl)⟩) (pc2 := 13) ⟨fun z => (by have w := z.symm.trans (mm_dec dk_L_protest 8 rfl); cases w), fun _ => rfl⟩ ?_
    refine mm_iconst C (mm_dec dk_L_protest 9 rfl) ⟨by decide, by decide⟩ ?_
    exact mm_iret C T (mm_dec dk_L_protest 10 rfl) (by decide) (by decide) ⟨_, rfl, ⟨by decide, by decide⟩, i0, mm_fr_rf, by omega, (by exact ⟨fun q => absurd q (by decide), fun _ => rfl, ⟨0, Or.inr ⟨rfl, rfl⟩, mm_up_no (by decide) (fun _ => rfl), mm_up_no (by decide) (fun _ => rfl)⟩⟩)⟩
set_option maxRecDepth 100000 in
set_option maxHeartbeats 4000000 in
theorem c_L_draw_q (l : Launch) (hl : l.stackTraces = false) (d : Nat) (hd : 10 ≤ d) (h : mH) (i0 : mm_inv h) (p1 : Int) (p2 : Int) (p4 : Int) : mm_MetH l d yL_draw cL_draw 7 (some .int) [(0, 13, 16, 13)] [mR 0, mI p1, mL p2, mI p4, mR 124] h (mm_pi fun r h2 => (0 ≤ r ∧ r ≤ 2) ∧ mm_inv h2 ∧ mm_fr [(30, 6), (54, 5)] [31, 32, 33, 34, 35, 36, 55, 56, 57, 124] h h2 ∧ ((r = 0 ∧ (0 ≤ p1 ∧ p1 < h.1 14 8) ∧ ((h2.2.1 124 0 = -1 ∧ h2.1 30 6 = h.1 30 6) ∨ (0 ≤ h2.2.1 124 0 ∧ h2.2.1 124 0 ≤ 40 ∧ h2.1 30 6 = h.1 30 6 + h2.2.1 124 0))) ∨ (r = 1 ∧ (p1 < 0 ∨ h.1 14 8 ≤ p1) ∧ h2.1 30 6 = h.1 30 6)) ∧ (0 ≤ r ∧ (r = 0 → 0 ≤ h.2.1 44 1 → h.2.1 44 1 ≤ 99999 → mm_dx9 h h2 p1 p2 p4 (h2.2.1 124 0)) ∧ (r ≠ 0 → (∀ j, h2.2.1 31 j = h.2.1 31 j) ∧ (∀ j, h2.2.1 32 j = h.2.1 32 j) ∧ (∀ j, h2.2.1 35 j = h.2.1 35 j) ∧ ∀ j, h2.2.1 36 j = h.2.1 36 j) ∧ (r = 0 → mm_dx8 h h2 p4 (h2.2.1 124 0)) ∧ (r ≠ 0 → (∀ j, h2.2.1 33 j = h.2.1 33 j) ∧ ∀ j, h2.2.1 34 j = h.2.1 34 j))) mm_nx 1 6 := by
  refine mm_ofWH (ls := [mR 0, mI p1, mL p2, mU, mI p4, mR 124, mU]) hl (by decide) rfl (Nat.le_of_ble_eq_true rfl) ?_
  intro x hxl C T htb
  subst hxl
  have C1 := mm_OK_le (d' := d - 1 + 1) (by omega) C
  refine mm_aload C (mm_dec dk_L_draw 0 rfl) rfl ?_
  refine mm_iconst C (mm_dec dk_L_draw 1 rfl) ⟨by decide, by decide⟩ ?_
  refine mm_aload_n C (mm_dec dk_L_draw 2 rfl) rfl ?_
  refine mm_iload_n C (mm_dec dk_L_draw 3 rfl) rfl ?_
  refine mm_lload_n C (mm_dec dk_L_draw 4 rfl) rfl ?_
  refine mm_iload C (mm_dec dk_L_draw 5 rfl) rfl ?_
  refine mm_cVi (rest := [mI 0, mR 124]) C1 ev_L_86 (mm_dec dk_L_draw 6 rfl) (c_X11_draw_q x.2.1 hl (d - 1) (by omega) h i0 p1 p2 p4) rfl rfl (Nat.le_of_ble_eq_true rfl) ⟨by decide, by decide⟩ rfl (fun r hc hp => ?_) (fun E hx q => ?_)
  · obtain ⟨b, ic, gc, y0, y1, y2, y3⟩ := hp
    have fc : mm_fr [(30, 6), (54, 5)] [31, 32, 33, 34, 35, 36, 55, 56, 57, 124] h hc := mm_fr_tr (mm_fr_rf (h := h)) gc (by decide +kernel)
    refine mm_rng (fun _ ho => ?_)
    have br : -2147483648 ≤ r ∧ r < 2147483648 := mm_ok_hd ho
    refine mm_i2l C (mm_dec dk_L_draw 7 rfl) ?_
    refine mm_last C (mm_dec dk_L_draw 8 rfl) rfl (by omega) (by omega) ?_
    refine mm_goto (tgt := 20) C (mm_dec dk_L_draw 9 rfl) (by decide) ?_
    refine mm_iconst C (mm_dec dk_L_draw 13 rfl) ⟨by decide, by decide⟩ ?_
    exact mm_iret C T (mm_dec dk_L_draw 14 rfl) (by decide) (by decide) ⟨_, rfl, ⟨by decide, by decide⟩, mm_inv_pa ic (show -9223372036854775808 ≤ r ∧ r ≤ 9223372036854775807 from ⟨by omega, by omega⟩), mm_fr_pa fc (by decide), (by have e0 : (mm_pa hc 124 0 r).1 30 6 = hc.1 30 6 := rfl; have ea : (mm_pa hc 124 0 r).2.1 124 0 = r := mm_pa_same _ _ _ _; revert ea e0; generalize mm_pa hc 124 0 r = H; intros; omega), (by refine ⟨?_, fun _ a b => mm_dx9_pa (y2 a b), fun q => absurd rfl q, fun _ => mm_dx8_pa y3, fun q => absurd rfl q⟩; have e0 : (mm_pa hc 124 0 r).1 30 6 = hc.1 30 6 := rfl; have ea : (mm_pa hc 124 0 r).2.1 124 0 = r := mm_pa_same _ _ _ _; revert ea e0; generalize mm_pa hc 124 0 r = H; intros; omega)⟩
  · obtain ⟨q, cx⟩ := q
    rw [q.1, q.2]
    refine mm_catch (nm := "java/util/NoSuchElementException") [] (⟨0, 13, 16, 13⟩ : ExceptionTableEntry) [] C htb (fun y hy => absurd hy List.not_mem_nil) (by decide) (by decide) ck_L_13 (by decide) (k := 6) (by decide) (Or.inl (mm_dec dk_L_draw 10 rfl)) (pc2 := 18) ⟨fun _ => rfl, fun ⟨_, _, z⟩ => (by have w := z.symm.trans (mm_dec dk_L_draw 10 rfl); cases w)⟩ ?_
    refine mm_iconst C (mm_dec dk_L_draw 11 rfl) ⟨by decide, by decide⟩ ?_
    exact mm_iret C T (mm_dec dk_L_draw 12 rfl) (by decide) (by decide) ⟨_, rfl, ⟨by decide, by decide⟩, i0, mm_fr_rf, by omega, (by exact ⟨by decide, fun q => absurd q (by decide), fun _ => ⟨fun _ => rfl, fun _ => rfl, fun _ => rfl, fun _ => rfl⟩, fun q => absurd q (by decide), fun _ => ⟨fun _ => rfl, fun _ => rfl⟩⟩)⟩
set_option maxRecDepth 100000 in
set_option maxHeartbeats 4000000 in
theorem c_L_count_q (l : Launch) (hl : l.stackTraces = false) (d : Nat) (hd : 9 ≤ d) (h : mH) (i0 : mm_inv h) (p1 : Int) : mm_MetH l d yL_count cL_count 4 (some .int) [(0, 9, 12, 13)] [mR 0, mI p1, mR 124] h (mm_pi fun r h2 => (0 ≤ r ∧ r ≤ 2) ∧ mm_inv h2 ∧ mm_fr [] [124] h h2 ∧ ((r = 0 ∧ 0 ≤ p1 ∧ p1 ≤ 10 ∧ h2.2.1 124 0 = mm_ct9 h p1) ∨ (r = 1 ∧ (p1 < 0 ∨ 10 < p1)))) mm_nx 1 6 := by
  refine mm_ofWH (ls := [mR 0, mI p1, mR 124, mU]) hl (by decide) rfl (Nat.le_of_ble_eq_true rfl) ?_
  intro x hxl C T htb
  subst hxl
  have C1 := mm_OK_le (d' := d - 1 + 1) (by omega) C
  refine mm_aload_n C (mm_dec dk_L_count 0 rfl) rfl ?_
  refine mm_iconst C (mm_dec dk_L_count 1 rfl) ⟨by decide, by decide⟩ ?_
  refine mm_aload_n C (mm_dec dk_L_count 2 rfl) rfl ?_
  refine mm_iload_n C (mm_dec dk_L_count 3 rfl) rfl ?_
  refine mm_cVi (rest := [mI 0, mR 124]) C1 ev_L_102 (mm_dec dk_L_count 4 rfl) (c_X11_count_q x.2.1 hl (d - 1) (by omega) h i0 p1) rfl rfl (Nat.le_of_ble_eq_true rfl) ⟨by decide, by decide⟩ rfl (fun r hc hp => ?_) (fun E hx q => ?_)
  · obtain ⟨b, zc, y0, y1⟩ := hp
    have ic : mm_inv hc := by rw [zc]; exact i0
    have fc : mm_fr [] [124] h hc := by rw [zc]; exact mm_fr_rf
    refine mm_rng (fun _ ho => ?_)
    have br : -2147483648 ≤ r ∧ r < 2147483648 := mm_ok_hd ho
    refine mm_i2l C (mm_dec dk_L_count 5 rfl) ?_
    refine mm_last C (mm_dec dk_L_count 6 rfl) rfl (by omega) (by omega) ?_
    refine mm_goto (tgt := 15) C (mm_dec dk_L_count 7 rfl) (by decide) ?_
    refine mm_iconst C (mm_dec dk_L_count 11 rfl) ⟨by decide, by decide⟩ ?_
    exact mm_iret C T (mm_dec dk_L_count 12 rfl) (by decide) (by decide) ⟨_, rfl, ⟨by decide, by decide⟩, mm_inv_pa ic (show -9223372036854775808 ≤ r ∧ r ≤ 9223372036854775807 from ⟨by omega, by omega⟩), mm_fr_pa fc (by decide), (by have ea : (mm_pa hc 124 0 r).2.1 124 0 = r := mm_pa_same _ _ _ _; revert ea ; generalize mm_pa hc 124 0 r = H; intros; omega)⟩
  · obtain ⟨q, cx⟩ := q
    rw [q.1, q.2]
    refine mm_catch (nm := "java/util/NoSuchElementException") [] (⟨0, 9, 12, 13⟩ : ExceptionTableEntry) [] C htb (fun y hy => absurd hy List.not_mem_nil) (by decide) (by decide) ck_L_13 (by decide) (k := 3) (by decide) (Or.inr ⟨3, rfl, (mm_dec dk_L_count 8 rfl)⟩) (pc2 := 13) ⟨fun z => (by have w := z.symm.trans (mm_dec dk_L_count 8 rfl); cases w), fun _ => rfl⟩ ?_
    refine mm_iconst C (mm_dec dk_L_count 9 rfl) ⟨by decide, by decide⟩ ?_
    exact mm_iret C T (mm_dec dk_L_count 10 rfl) (by decide) (by decide) ⟨_, rfl, ⟨by decide, by decide⟩, i0, mm_fr_rf, by omega⟩
