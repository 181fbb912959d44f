theorem mm_if3 {A B D : Prop} [Decidable A] [Decidable B] [Decidable D] : (if (A ∧ B) ∧ D then (1 : Int) else 0) = if (if (if A then (1 : Int) else 0) = 1 ∧ B then (1 : Int) else 0) = 1 ∧ D then 1 else 0 := by
  by_cases a : A <;> by_cases b : B <;> by_cases d : D <;> simp [a, b, d]
def mm_g1 (h : mH) (p1 p2 p3 : Int) : Int := if (p1 ≠ p2 ∧ p2 ≠ p3 ∧ p1 ≠ p3 ∧ h.2.1 85 p1 = h.2.1 85 p2 ∧ h.2.1 85 p2 = h.2.1 85 p3 ∧ h.2.1 83 (h.2.1 85 p1) = 0) then 1 else 0
theorem mm_g1_x {h : mH} {p1 p2 p3 x : Int} (q : (x = 1 ∧ (p1 ≠ p2 ∧ p2 ≠ p3 ∧ p1 ≠ p3 ∧ h.2.1 85 p1 = h.2.1 85 p2 ∧ h.2.1 85 p2 = h.2.1 85 p3 ∧ h.2.1 83 (h.2.1 85 p1) = 0)) ∨ (x = 0 ∧ (p1 = p2 ∨ p2 = p3 ∨ p1 = p3 ∨ h.2.1 85 p1 ≠ h.2.1 85 p2 ∨ h.2.1 85 p2 ≠ h.2.1 85 p3 ∨ h.2.1 83 (h.2.1 85 p1) ≠ 0))) : x = mm_g1 h p1 p2 p3 := by
  unfold mm_g1
  rcases q with ⟨q1, q2⟩ | ⟨q1, q2⟩
  · rw [if_pos q2]; exact q1
  · rw [if_neg (fun w => by omega)]; exact q1
def mm_g2 (h : mH) (p1 p2 p3 : Int) : Int := if mm_g1 h p1 p2 p3 = 1 ∧ h.2.1 88 p1 = -1 ∧ h.2.1 88 p2 = -1 ∧ h.2.1 88 p3 = -1 then 1 else 0
theorem mm_g2_x {h : mH} {p1 p2 p3 x : Int} (q : (x = 1 ∧ (mm_g1 h p1 p2 p3 = 1 ∧ h.2.1 88 p1 = -1 ∧ h.2.1 88 p2 = -1 ∧ h.2.1 88 p3 = -1)) ∨ (x = 0 ∧ (mm_g1 h p1 p2 p3 ≠ 1 ∨ h.2.1 88 p1 ≠ -1 ∨ h.2.1 88 p2 ≠ -1 ∨ h.2.1 88 p3 ≠ -1))) : x = mm_g2 h p1 p2 p3 := by
  unfold mm_g2
  rcases q with ⟨q1, q2⟩ | ⟨q1, q2⟩
  · rw [if_pos q2]; exact q1
  · rw [if_neg (fun w => by omega)]; exact q1
theorem mm_g2_rg (h : mH) (p1 p2 p3 : Int) : 0 ≤ mm_g2 h p1 p2 p3 ∧ mm_g2 h p1 p2 p3 ≤ 1 := by
  unfold mm_g2
  split <;> omega
theorem mm_gu_y {h : mH} {p1 p2 p3 x : Int} (q : (x = 1 ∧ mm_g2 h p1 p2 p3 = 1 ∧ mm_ds (h.2.1 87 p1) (h.2.1 87 p2) (h.2.1 87 p3) (h.2.1 81 (h.2.1 85 p1)).toNat = 1) ∨ (x = 0 ∧ (mm_g2 h p1 p2 p3 = 0 ∨ mm_ds (h.2.1 87 p1) (h.2.1 87 p2) (h.2.1 87 p3) (h.2.1 81 (h.2.1 85 p1)).toNat = 0))) : x = mm_gu h p1 p2 p3 := by
  have e : mm_gu h p1 p2 p3 = if mm_g2 h p1 p2 p3 = 1 ∧ mm_ds (h.2.1 87 p1) (h.2.1 87 p2) (h.2.1 87 p3) (h.2.1 81 (h.2.1 85 p1)).toNat = 1 then 1 else 0 := by
    unfold mm_gu mm_g2 mm_g1
    exact mm_if3
  rw [e]
  rcases q with ⟨q1, q2⟩ | ⟨q1, q2⟩
  · rw [if_pos q2]; exact q1
  · rw [if_neg (fun w => by omega)]; exact q1

set_option maxRecDepth 100000 in
set_option maxHeartbeats 4000000 in
theorem c_X11_needRunner_q (l : Launch) (hl : l.stackTraces = false) (d : Nat) (hd : 8 ≤ d) (h : mH) (i0 : mm_inv h) (p1 : Int) : mm_Met l d yX11_needRunner cX11_needRunner 2 none [mR 0, mI p1] h (mm_pv fun h2 => h2 = h ∧ 0 ≤ p1 ∧ p1 < (h.1 22 8)) (fun E h' => mm_xn h E h' ∧ (p1 < 0 ∨ h.1 22 8 ≤ p1)) 1 6 := by
  refine mm_ofW (ls := [mR 0, mI p1]) hl (by decide) rfl (Nat.le_of_ble_eq_true rfl) ?_
  intro x hxl C T hnm htb
  subst hxl
  have C1 := mm_OK_le (d' := d - 1 + 1) (by omega) C
  have C8 := mm_OK_le (d' := d - 8 + 8) (by omega) C
  refine mm_rng (fun hr _ => ?_)
  have ap1 : -2147483648 ≤ p1 ∧ p1 < 2147483648 := mm_ok_at hr (i := 1) rfl
  have f0 : mm_fr [] [] h h := mm_fr_rf
  have g1 : 0 ≤ h.1 22 8 ∧ h.1 22 8 ≤ 40 := i0.1 22 8
  refine mm_iload_n C (mm_dec dk_X11_needRunner 0 rfl) rfl ?_
  refine mm_if_lt (tgt := 15) C (mm_dec dk_X11_needRunner 1 rfl) (by decide) (fun c1 => ?_) (fun c1 => ?_)
  · skip
    exact mm_throwXW C8 T htb th_nse (i := 6) rfl (mm_dec dk_X11_needRunner 7 rfl) (mm_dec dk_X11_needRunner 8 rfl) (mm_dec dk_X11_needRunner 9 rfl) (mm_dec dk_X11_needRunner 10 rfl) (mm_dec dk_X11_needRunner 11 rfl) (Nat.le_of_ble_eq_true rfl) ⟨by decide, by decide⟩ ⟨by decide, by decide⟩ (⟨⟨rfl, rfl⟩, by omega⟩)
  · skip
    refine mm_iload_n C (mm_dec dk_X11_needRunner 2 rfl) rfl ?_
    refine mm_aload_n C (mm_dec dk_X11_needRunner 3 rfl) rfl ?_
    refine mm_getr (t := 22) C fl_X11_37 (mm_dec dk_X11_needRunner 4 rfl) rfl rfl (mm_ref i0 rfl) ?_
    refine mm_cVi (rest := [mI p1]) C1 ev_X11_230 (mm_dec dk_X11_needRunner 5 rfl) (c_X9_size x.2.1 hl (d - 1) (by omega) h i0 ) rfl rfl (Nat.le_of_ble_eq_true rfl) ⟨by decide, by decide⟩ rfl (fun r9 h9c hp9 => ?_) (fun _ _ q => q.elim)
    obtain ⟨z9, y9⟩ := hp9
    rw [z9, y9]
    refine mm_icmp_lt (tgt := 26) C (mm_dec dk_X11_needRunner 6 rfl) (by decide) (fun c12 => ?_) (fun c12 => ?_)
    · skip
      exact mm_vret C T (mm_dec dk_X11_needRunner 12 rfl) (by decide : 0 ≤ 1) (by decide : 0 ≤ 6) ⟨rfl, ⟨rfl, by omega, by omega⟩⟩
    · skip
      exact mm_throwXW C8 T htb th_nse (i := 6) rfl (mm_dec dk_X11_needRunner 7 rfl) (mm_dec dk_X11_needRunner 8 rfl) (mm_dec dk_X11_needRunner 9 rfl) (mm_dec dk_X11_needRunner 10 rfl) (mm_dec dk_X11_needRunner 11 rfl) (Nat.le_of_ble_eq_true rfl) ⟨by decide, by decide⟩ ⟨by decide, by decide⟩ (⟨⟨rfl, rfl⟩, by omega⟩)
set_option maxRecDepth 100000 in
set_option maxHeartbeats 4000000 in
theorem c_X9_canBeTeam_q (l : Launch) (hl : l.stackTraces = false) (d : Nat) (hd : 2 ≤ d) (h : mH) (i0 : mm_inv h) (p1 : Int) (p2 : Int) (p3 : Int) (bp1 : 0 ≤ p1 ∧ p1 ≤ 39) (bp2 : 0 ≤ p2 ∧ p2 ≤ 39) (bp3 : 0 ≤ p3 ∧ p3 ≤ 39) : mm_Met l d yX9_canBeTeam cX9_canBeTeam 12 (some .boolean) [mR 22, mI p1, mI p2, mI p3] h (mm_pi fun r h2 => (0 ≤ r ∧ r ≤ 1) ∧ h2 = h ∧ r = mm_gt h p1 p2 p3) mm_nx 0 0 := by
  refine mm_ofW (ls := [mR 22, mI p1, mI p2, mI p3, mU, mU, mU, mU, mU, mU, mU, mU]) hl (by decide) rfl (Nat.le_of_ble_eq_true rfl) ?_
  intro x hxl C T hnm htb
  subst hxl
  have C1 := mm_OK_le (d' := d - 1 + 1) (by omega) C
  refine mm_rng (fun hr _ => ?_)
  have ap1 : -2147483648 ≤ p1 ∧ p1 < 2147483648 := mm_ok_at hr (i := 1) rfl
  have ap2 : -2147483648 ≤ p2 ∧ p2 < 2147483648 := mm_ok_at hr (i := 2) rfl
  have ap3 : -2147483648 ≤ p3 ∧ p3 < 2147483648 := mm_ok_at hr (i := 3) rfl
  have f0 : mm_fr [] [] h h := mm_fr_rf
  refine mm_iload_n C (mm_dec dk_X9_canBeTeam 0 rfl) rfl ?_
  refine mm_iload_n C (mm_dec dk_X9_canBeTeam 1 rfl) rfl ?_
  have J42 : ∀ (w42_0 : (p1 = p2 ∨ p2 = p3 ∨ p1 = p3 ∨ h.2.1 28 p1 ≠ 0 ∨ h.2.1 28 p2 ≠ 0 ∨ h.2.1 28 p3 ≠ 0 ∨ h.2.1 23 p1 ≠ h.2.1 23 p2 ∨ h.2.1 23 p2 ≠ h.2.1 23 p3 ∨ h.2.1 17 (h.2.1 23 p1) ≠ 0 ∨ mm_ds (h.2.1 25 p1) (h.2.1 25 p2) (h.2.1 25 p3) (h.2.1 20 (h.2.1 23 p1)).toNat = 0)), mm_W x 0 0 42 [mU, mU, mU, mU, mU, mU, mU, mU, mU, mU, mU, mU] [] h := by
    intro w42_0
    refine mm_iconst C (mm_dec dk_X9_canBeTeam 24 rfl) ⟨by decide, by decide⟩ ?_
    exact mm_zret C T (mm_dec dk_X9_canBeTeam 25 rfl) (by decide : 0 ≤ 0) (by decide : 0 ≤ 0) (by omega) ⟨_, rfl, ⟨⟨by omega, by omega⟩, rfl, by exact mm_gt_x (by omega)⟩⟩
  refine mm_icmp_eq (tgt := 42) C (mm_dec dk_X9_canBeTeam 2 rfl) (by decide) (fun c2 => ?_) (fun c2 => ?_)
  · skip
    refine mm_fgt 0 ?_
    refine mm_fgt 1 ?_
    refine mm_fgt 2 ?_
    refine mm_fgt 3 ?_
    exact J42 (by omega)
  · skip
    refine mm_iload_n C (mm_dec dk_X9_canBeTeam 3 rfl) rfl ?_
    refine mm_iload_n C (mm_dec dk_X9_canBeTeam 4 rfl) rfl ?_
    refine mm_icmp_eq (tgt := 42) C (mm_dec dk_X9_canBeTeam 5 rfl) (by decide) (fun c7 => ?_) (fun c7 => ?_)
    · skip
      refine mm_fgt 0 ?_
      refine mm_fgt 1 ?_
      refine mm_fgt 2 ?_
      refine mm_fgt 3 ?_
      exact J42 (by omega)
    · skip
      refine mm_iload_n C (mm_dec dk_X9_canBeTeam 6 rfl) rfl ?_
      refine mm_iload_n C (mm_dec dk_X9_canBeTeam 7 rfl) rfl ?_
      refine mm_icmp_eq (tgt := 42) C (mm_dec dk_X9_canBeTeam 8 rfl) (by decide) (fun c12 => ?_) (fun c12 => ?_)
      · skip
        refine mm_fgt 0 ?_
        refine mm_fgt 1 ?_
        refine mm_fgt 2 ?_
        refine mm_fgt 3 ?_
        exact J42 (by omega)
      · skip
        refine mm_aload_n C (mm_dec dk_X9_canBeTeam 9 rfl) rfl ?_
        refine mm_getr (t := 28) C fl_X9_27 (mm_dec dk_X9_canBeTeam 10 rfl) rfl rfl (mm_ref i0 rfl) ?_
        refine mm_iload_n C (mm_dec dk_X9_canBeTeam 11 rfl) rfl ?_
        refine mm_zald C (mm_dec dk_X9_canBeTeam 12 rfl) rfl (by omega) (by omega) ?_
        have g1 : 0 ≤ (h.2.1 28 p1) ∧ (h.2.1 28 p1) ≤ 1 := i0.2.1 28 p1
        refine mm_if_ne (tgt := 42) C (mm_dec dk_X9_canBeTeam 13 rfl) (by decide) (fun c21 => ?_) (fun c21 => ?_)
        · skip
          refine mm_fgt 0 ?_
          refine mm_fgt 1 ?_
          refine mm_fgt 2 ?_
          refine mm_fgt 3 ?_
          exact J42 (by omega)
        · skip
          refine mm_aload_n C (mm_dec dk_X9_canBeTeam 14 rfl) rfl ?_
          refine mm_getr (t := 28) C fl_X9_27 (mm_dec dk_X9_canBeTeam 15 rfl) rfl rfl (mm_ref i0 rfl) ?_
          refine mm_iload_n C (mm_dec dk_X9_canBeTeam 16 rfl) rfl ?_
          refine mm_zald C (mm_dec dk_X9_canBeTeam 17 rfl) rfl (by omega) (by omega) ?_
          have g2 : 0 ≤ (h.2.1 28 p2) ∧ (h.2.1 28 p2) ≤ 1 := i0.2.1 28 p2
          refine mm_if_ne (tgt := 42) C (mm_dec dk_X9_canBeTeam 18 rfl) (by decide) (fun c30 => ?_) (fun c30 => ?_)
          · skip
            refine mm_fgt 0 ?_
            refine mm_fgt 1 ?_
            refine mm_fgt 2 ?_
            refine mm_fgt 3 ?_
            exact J42 (by omega)
          · skip
            refine mm_aload_n C (mm_dec dk_X9_canBeTeam 19 rfl) rfl ?_
            refine mm_getr (t := 28) C fl_X9_27 (mm_dec dk_X9_canBeTeam 20 rfl) rfl rfl (mm_ref i0 rfl) ?_
            refine mm_iload_n C (mm_dec dk_X9_canBeTeam 21 rfl) rfl ?_
            refine mm_zald C (mm_dec dk_X9_canBeTeam 22 rfl) rfl (by omega) (by omega) ?_
            have g3 : 0 ≤ (h.2.1 28 p3) ∧ (h.2.1 28 p3) ≤ 1 := i0.2.1 28 p3
            refine mm_if_eq (tgt := 44) C (mm_dec dk_X9_canBeTeam 23 rfl) (by decide) (fun c39 => ?_) (fun c39 => ?_)
            · skip
              refine mm_aload_n C (mm_dec dk_X9_canBeTeam 26 rfl) rfl ?_
              refine mm_getr (t := 23) C fl_X9_9 (mm_dec dk_X9_canBeTeam 27 rfl) rfl rfl (mm_ref i0 rfl) ?_
              refine mm_iload_n C (mm_dec dk_X9_canBeTeam 28 rfl) rfl ?_
              refine mm_iald C (mm_dec dk_X9_canBeTeam 29 rfl) rfl (by omega) (by omega) ?_
              have g4 : 0 ≤ (h.2.1 23 p1) ∧ (h.2.1 23 p1) ≤ 7 := i0.2.1 23 p1
              refine mm_aload_n C (mm_dec dk_X9_canBeTeam 30 rfl) rfl ?_
              refine mm_getr (t := 23) C fl_X9_9 (mm_dec dk_X9_canBeTeam 31 rfl) rfl rfl (mm_ref i0 rfl) ?_
              refine mm_iload_n C (mm_dec dk_X9_canBeTeam 32 rfl) rfl ?_
              refine mm_iald C (mm_dec dk_X9_canBeTeam 33 rfl) rfl (by omega) (by omega) ?_
              have g5 : 0 ≤ (h.2.1 23 p2) ∧ (h.2.1 23 p2) ≤ 7 := i0.2.1 23 p2
              have J82 : ∀ (w82_0 : (p1 = p2 ∨ p2 = p3 ∨ p1 = p3 ∨ h.2.1 28 p1 ≠ 0 ∨ h.2.1 28 p2 ≠ 0 ∨ h.2.1 28 p3 ≠ 0 ∨ h.2.1 23 p1 ≠ h.2.1 23 p2 ∨ h.2.1 23 p2 ≠ h.2.1 23 p3 ∨ h.2.1 17 (h.2.1 23 p1) ≠ 0 ∨ mm_ds (h.2.1 25 p1) (h.2.1 25 p2) (h.2.1 25 p3) (h.2.1 20 (h.2.1 23 p1)).toNat = 0)), mm_W x 0 0 82 [mU, mU, mU, mU, mU, mU, mU, mU, mU, mU, mU, mU] [] h := by
                intro w82_0
                refine mm_iconst C (mm_dec dk_X9_canBeTeam 48 rfl) ⟨by decide, by decide⟩ ?_
                exact mm_zret C T (mm_dec dk_X9_canBeTeam 49 rfl) (by decide : 0 ≤ 0) (by decide : 0 ≤ 0) (by omega) ⟨_, rfl, ⟨⟨by omega, by omega⟩, rfl, by exact mm_gt_x (by omega)⟩⟩
              refine mm_icmp_ne (tgt := 82) C (mm_dec dk_X9_canBeTeam 34 rfl) (by decide) (fun c56 => ?_) (fun c56 => ?_)
              · skip
                refine mm_fgt 0 ?_
                refine mm_fgt 1 ?_
                refine mm_fgt 2 ?_
                refine mm_fgt 3 ?_
                exact J82 (by omega)
              · skip
                refine mm_aload_n C (mm_dec dk_X9_canBeTeam 35 rfl) rfl ?_
                refine mm_getr (t := 23) C fl_X9_9 (mm_dec dk_X9_canBeTeam 36 rfl) rfl rfl (mm_ref i0 rfl) ?_
                refine mm_iload_n C (mm_dec dk_X9_canBeTeam 37 rfl) rfl ?_
                refine mm_iald C (mm_dec dk_X9_canBeTeam 38 rfl) rfl (by omega) (by omega) ?_
                refine mm_aload_n C (mm_dec dk_X9_canBeTeam 39 rfl) rfl ?_
                refine mm_getr (t := 23) C fl_X9_9 (mm_dec dk_X9_canBeTeam 40 rfl) rfl rfl (mm_ref i0 rfl) ?_
                refine mm_iload_n C (mm_dec dk_X9_canBeTeam 41 rfl) rfl ?_
                refine mm_iald C (mm_dec dk_X9_canBeTeam 42 rfl) rfl (by omega) (by omega) ?_
                have g6 : 0 ≤ (h.2.1 23 p3) ∧ (h.2.1 23 p3) ≤ 7 := i0.2.1 23 p3
                refine mm_icmp_ne (tgt := 82) C (mm_dec dk_X9_canBeTeam 43 rfl) (by decide) (fun c71 => ?_) (fun c71 => ?_)
                · skip
                  refine mm_fgt 0 ?_
                  refine mm_fgt 1 ?_
                  refine mm_fgt 2 ?_
                  refine mm_fgt 3 ?_
                  exact J82 (by omega)
                · skip
                  refine mm_aload_n C (mm_dec dk_X9_canBeTeam 44 rfl) rfl ?_
                  refine mm_iload_n C (mm_dec dk_X9_canBeTeam 45 rfl) rfl ?_
                  refine mm_cVi (rest := []) C1 ev_X9_67 (mm_dec dk_X9_canBeTeam 46 rfl) (c_X9_runsFree x.2.1 hl (d - 1) (by omega) h i0 p1 ⟨by omega, by omega⟩) rfl rfl (Nat.le_of_ble_eq_true rfl) ⟨by decide, by decide⟩ rfl (fun r76 h76c hp76 => ?_) (fun _ _ q => q.elim)
                  obtain ⟨z76, y76⟩ := hp76
                  rw [z76, y76]
                  have g8 : 0 ≤ (h.2.1 17 (h.2.1 23 p1)) ∧ (h.2.1 17 (h.2.1 23 p1)) ≤ 1 := i0.2.1 17 (h.2.1 23 p1)
                  refine mm_if_eq (tgt := 84) C (mm_dec dk_X9_canBeTeam 47 rfl) (by decide) (fun c79 => ?_) (fun c79 => ?_)
                  · skip
                    refine mm_aload_n C (mm_dec dk_X9_canBeTeam 50 rfl) rfl ?_
                    refine mm_getr (t := 25) C fl_X9_18 (mm_dec dk_X9_canBeTeam 51 rfl) rfl rfl (mm_ref i0 rfl) ?_
                    refine mm_iload_n C (mm_dec dk_X9_canBeTeam 52 rfl) rfl ?_
                    refine mm_iald C (mm_dec dk_X9_canBeTeam 53 rfl) rfl (by omega) (by omega) ?_
                    have g9 : 0 ≤ (h.2.1 25 p1) ∧ (h.2.1 25 p1) ≤ 80 := i0.2.1 25 p1
                    refine mm_istoreL (ls2 := [mR 22, mI p1, mI p2, mI p3, mI (h.2.1 25 p1), mU, mU, mU, mU, mU, mU, mU]) C (mm_dec dk_X9_canBeTeam 54 rfl) (by decide) rfl ?_
                    refine mm_aload_n C (mm_dec dk_X9_canBeTeam 55 rfl) rfl ?_
                    refine mm_getr (t := 25) C fl_X9_18 (mm_dec dk_X9_canBeTeam 56 rfl) rfl rfl (mm_ref i0 rfl) ?_
                    refine mm_iload_n C (mm_dec dk_X9_canBeTeam 57 rfl) rfl ?_
                    refine mm_iald C (mm_dec dk_X9_canBeTeam 58 rfl) rfl (by omega) (by omega) ?_
                    have g10 : 0 ≤ (h.2.1 25 p2) ∧ (h.2.1 25 p2) ≤ 80 := i0.2.1 25 p2
                    refine mm_istoreL (ls2 := [mR 22, mI p1, mI p2, mI p3, mI (h.2.1 25 p1), mI (h.2.1 25 p2), mU, mU, mU, mU, mU, mU]) C (mm_dec dk_X9_canBeTeam 59 rfl) (by decide) rfl ?_
                    refine mm_aload_n C (mm_dec dk_X9_canBeTeam 60 rfl) rfl ?_
                    refine mm_getr (t := 25) C fl_X9_18 (mm_dec dk_X9_canBeTeam 61 rfl) rfl rfl (mm_ref i0 rfl) ?_
                    refine mm_iload_n C (mm_dec dk_X9_canBeTeam 62 rfl) rfl ?_
                    refine mm_iald C (mm_dec dk_X9_canBeTeam 63 rfl) rfl (by omega) (by omega) ?_
                    have g11 : 0 ≤ (h.2.1 25 p3) ∧ (h.2.1 25 p3) ≤ 80 := i0.2.1 25 p3
                    refine mm_istoreL (ls2 := [mR 22, mI p1, mI p2, mI p3, mI (h.2.1 25 p1), mI (h.2.1 25 p2), mI (h.2.1 25 p3), mU, mU, mU, mU, mU]) C (mm_dec dk_X9_canBeTeam 64 rfl) (by decide) rfl ?_
                    refine mm_aload_n C (mm_dec dk_X9_canBeTeam 65 rfl) rfl ?_
                    refine mm_getr (t := 14) C fl_X9_41 (mm_dec dk_X9_canBeTeam 66 rfl) rfl rfl (mm_ref i0 rfl) ?_
                    refine mm_aload_n C (mm_dec dk_X9_canBeTeam 67 rfl) rfl ?_
                    refine mm_getr (t := 23) C fl_X9_9 (mm_dec dk_X9_canBeTeam 68 rfl) rfl rfl (mm_ref i0 rfl) ?_
                    refine mm_iload_n C (mm_dec dk_X9_canBeTeam 69 rfl) rfl ?_
                    refine mm_iald C (mm_dec dk_X9_canBeTeam 70 rfl) rfl (by omega) (by omega) ?_
                    refine mm_cVi (rest := []) C1 ev_X9_70 (mm_dec dk_X9_canBeTeam 71 rfl) (c_X2_forks x.2.1 hl (d - 1) (by omega) h i0 (h.2.1 23 p1) ⟨by omega, by omega⟩) rfl rfl (Nat.le_of_ble_eq_true rfl) ⟨by decide, by decide⟩ rfl (fun r118 h118c hp118 => ?_) (fun _ _ q => q.elim)
                    obtain ⟨z118, y118⟩ := hp118
                    rw [z118, y118]
                    have g13 : -2147483648 ≤ (h.2.1 20 (h.2.1 23 p1)) ∧ (h.2.1 20 (h.2.1 23 p1)) ≤ 2147483647 := i0.2.1 20 (h.2.1 23 p1)
                    refine mm_istoreL (ls2 := [mR 22, mI p1, mI p2, mI p3, mI (h.2.1 25 p1), mI (h.2.1 25 p2), mI (h.2.1 25 p3), mI (h.2.1 20 (h.2.1 23 p1)), mU, mU, mU, mU]) C (mm_dec dk_X9_canBeTeam 72 rfl) (by decide) rfl ?_
                    refine mm_iconst C (mm_dec dk_X9_canBeTeam 73 rfl) ⟨by decide, by decide⟩ ?_
                    have J126 : ∀ (n : Nat) (x126_4 : Int) (bx126_4 : 0 ≤ x126_4 ∧ x126_4 ≤ 80) (x126_5 : Int) (bx126_5 : 0 ≤ x126_5 ∧ x126_5 ≤ 80) (x126_6 : Int) (bx126_6 : 0 ≤ x126_6 ∧ x126_6 ≤ 80) (x126_8 : Int) (bx126_8 : 0 ≤ x126_8 ∧ x126_8 ≤ 2147483647) (w126_0 : x126_4 = mm_dv (h.2.1 25 p1) (x126_8).toNat) (w126_1 : x126_5 = mm_dv (h.2.1 25 p2) (x126_8).toNat) (w126_2 : x126_6 = mm_dv (h.2.1 25 p3) (x126_8).toNat) (w126_3 : mm_ds (h.2.1 25 p1) (h.2.1 25 p2) (h.2.1 25 p3) (x126_8).toNat = 1) (w126_4 : (x126_8 = 0 ∨ x126_8 ≤ (h.2.1 20 (h.2.1 23 p1)))), (2147483647 - x126_8 : Int) < n → mm_W x 0 0 126 [mU, mU, mU, mU, mI x126_4, mI x126_5, mI x126_6, mI (h.2.1 20 (h.2.1 23 p1)), mI x126_8, mU, mU, mU] [] h := by
                      intro n
                      induction n with
                      | zero =>
                        intro x126_4 bx126_4 x126_5 bx126_5 x126_6 bx126_6 x126_8 bx126_8 w126_0 w126_1 w126_2 w126_3 w126_4 hm
                        exfalso; omega
                      | succ n ih126 =>
                        intro x126_4 bx126_4 x126_5 bx126_5 x126_6 bx126_6 x126_8 bx126_8 w126_0 w126_1 w126_2 w126_3 w126_4 hm126
                        refine mm_iload C (mm_dec dk_X9_canBeTeam 75 rfl) rfl ?_
                        refine mm_iload C (mm_dec dk_X9_canBeTeam 76 rfl) rfl ?_
                        refine mm_icmp_ge (tgt := 198) C (mm_dec dk_X9_canBeTeam 77 rfl) (by decide) (fun c130 => ?_) (fun c130 => ?_)
                        · skip
                          have ze : mm_ds (h.2.1 25 p1) (h.2.1 25 p2) (h.2.1 25 p3) (h.2.1 20 (h.2.1 23 p1)).toNat = 1 := mm_ds_end w126_3 (by omega)
                          refine mm_iconst C (mm_dec dk_X9_canBeTeam 115 rfl) ⟨by decide, by decide⟩ ?_
                          exact mm_zret C T (mm_dec dk_X9_canBeTeam 116 rfl) (by decide : 0 ≤ 0) (by decide : 0 ≤ 0) (by omega) ⟨_, rfl, ⟨⟨by omega, by omega⟩, rfl, by exact mm_gt_x (by omega)⟩⟩
                        · skip
                          refine mm_iload C (mm_dec dk_X9_canBeTeam 78 rfl) rfl ?_
                          refine mm_iconst C (mm_dec dk_X9_canBeTeam 79 rfl) ⟨by decide, by decide⟩ ?_
                          refine mm_irem C (mm_dec dk_X9_canBeTeam 80 rfl) (by omega) (by omega) ?_
                          refine mm_istoreL (ls2 := [mU, mU, mU, mU, mI x126_4, mI x126_5, mI x126_6, mI (h.2.1 20 (h.2.1 23 p1)), mI x126_8, mI (x126_4 % 3), mU, mU]) C (mm_dec dk_X9_canBeTeam 81 rfl) (by decide) rfl ?_
                          refine mm_iload C (mm_dec dk_X9_canBeTeam 82 rfl) rfl ?_
                          refine mm_iconst C (mm_dec dk_X9_canBeTeam 83 rfl) ⟨by decide, by decide⟩ ?_
                          refine mm_irem C (mm_dec dk_X9_canBeTeam 84 rfl) (by omega) (by omega) ?_
                          refine mm_istoreL (ls2 := [mU, mU, mU, mU, mI x126_4, mI x126_5, mI x126_6, mI (h.2.1 20 (h.2.1 23 p1)), mI x126_8, mI (x126_4 % 3), mI (x126_5 % 3), mU]) C (mm_dec dk_X9_canBeTeam 85 rfl) (by decide) rfl ?_
                          refine mm_iload C (mm_dec dk_X9_canBeTeam 86 rfl) rfl ?_
                          refine mm_iconst C (mm_dec dk_X9_canBeTeam 87 rfl) ⟨by decide, by decide⟩ ?_
                          refine mm_irem C (mm_dec dk_X9_canBeTeam 88 rfl) (by omega) (by omega) ?_
                          refine mm_istoreL (ls2 := [mU, mU, mU, mU, mI x126_4, mI x126_5, mI x126_6, mI (h.2.1 20 (h.2.1 23 p1)), mI x126_8, mI (x126_4 % 3), mI (x126_5 % 3), mI (x126_6 % 3)]) C (mm_dec dk_X9_canBeTeam 89 rfl) (by decide) rfl ?_
                          refine mm_iload C (mm_dec dk_X9_canBeTeam 90 rfl) rfl ?_
                          refine mm_iload C (mm_dec dk_X9_canBeTeam 91 rfl) rfl ?_
                          have J172 : ∀ (w172_0 : mm_ds (h.2.1 25 p1) (h.2.1 25 p2) (h.2.1 25 p3) (h.2.1 20 (h.2.1 23 p1)).toNat = 0), mm_W x 0 0 172 [mU, mU, mU, mU, mU, mU, mU, mU, mU, mU, mU, mU] [] h := by
                            intro w172_0
                            refine mm_iconst C (mm_dec dk_X9_canBeTeam 99 rfl) ⟨by decide, by decide⟩ ?_
                            exact mm_zret C T (mm_dec dk_X9_canBeTeam 100 rfl) (by decide : 0 ≤ 0) (by decide : 0 ≤ 0) (by omega) ⟨_, rfl, ⟨⟨by omega, by omega⟩, rfl, by exact mm_gt_x (by omega)⟩⟩
                          refine mm_icmp_eq (tgt := 172) C (mm_dec dk_X9_canBeTeam 92 rfl) (by decide) (fun c155 => ?_) (fun c155 => ?_)
                          · skip
                            refine mm_fgt 4 ?_
                            refine mm_fgt 5 ?_
                            refine mm_fgt 6 ?_
                            refine mm_fgt 7 ?_
                            refine mm_fgt 8 ?_
                            refine mm_fgt 9 ?_
                            refine mm_fgt 10 ?_
                            refine mm_fgt 11 ?_
                            exact J172 (by exact mm_ds_hit (congrArg (· % 3) w126_0) (congrArg (· % 3) w126_1) (congrArg (· % 3) w126_2) (by omega) (by omega) (by omega))
                          · skip
                            refine mm_iload C (mm_dec dk_X9_canBeTeam 93 rfl) rfl ?_
                            refine mm_iload C (mm_dec dk_X9_canBeTeam 94 rfl) rfl ?_
                            refine mm_icmp_eq (tgt := 172) C (mm_dec dk_X9_canBeTeam 95 rfl) (by decide) (fun c162 => ?_) (fun c162 => ?_)
                            · skip
                              refine mm_fgt 4 ?_
                              refine mm_fgt 5 ?_
                              refine mm_fgt 6 ?_
                              refine mm_fgt 7 ?_
                              refine mm_fgt 8 ?_
                              refine mm_fgt 9 ?_
                              refine mm_fgt 10 ?_
                              refine mm_fgt 11 ?_
                              exact J172 (by exact mm_ds_hit (congrArg (· % 3) w126_0) (congrArg (· % 3) w126_1) (congrArg (· % 3) w126_2) (by omega) (by omega) (by omega))
                            · skip
                              refine mm_iload C (mm_dec dk_X9_canBeTeam 96 rfl) rfl ?_
                              refine mm_iload C (mm_dec dk_X9_canBeTeam 97 rfl) rfl ?_
                              refine mm_icmp_ne (tgt := 174) C (mm_dec dk_X9_canBeTeam 98 rfl) (by decide) (fun c169 => ?_) (fun c169 => ?_)
                              · skip
                                refine mm_iload C (mm_dec dk_X9_canBeTeam 101 rfl) rfl ?_
                                refine mm_iconst C (mm_dec dk_X9_canBeTeam 102 rfl) ⟨by decide, by decide⟩ ?_
                                refine mm_idiv C (mm_dec dk_X9_canBeTeam 103 rfl) ⟨by omega, by omega⟩ (by omega) ?_
                                refine mm_istoreL (ls2 := [mU, mU, mU, mU, mI (x126_4 / 3), mI x126_5, mI x126_6, mI (h.2.1 20 (h.2.1 23 p1)), mI x126_8, mI (x126_4 % 3), mI (x126_5 % 3), mI (x126_6 % 3)]) C (mm_dec dk_X9_canBeTeam 104 rfl) (by decide) rfl ?_
                                refine mm_iload C (mm_dec dk_X9_canBeTeam 105 rfl) rfl ?_
                                refine mm_iconst C (mm_dec dk_X9_canBeTeam 106 rfl) ⟨by decide, by decide⟩ ?_
                                refine mm_idiv C (mm_dec dk_X9_canBeTeam 107 rfl) ⟨by omega, by omega⟩ (by omega) ?_
                                refine mm_istoreL (ls2 := [mU, mU, mU, mU, mI (x126_4 / 3), mI (x126_5 / 3), mI x126_6, mI (h.2.1 20 (h.2.1 23 p1)), mI x126_8, mI (x126_4 % 3), mI (x126_5 % 3), mI (x126_6 % 3)]) C (mm_dec dk_X9_canBeTeam 108 rfl) (by decide) rfl ?_
                                refine mm_iload C (mm_dec dk_X9_canBeTeam 109 rfl) rfl ?_
                                refine mm_iconst C (mm_dec dk_X9_canBeTeam 110 rfl) ⟨by decide, by decide⟩ ?_
                                refine mm_idiv C (mm_dec dk_X9_canBeTeam 111 rfl) ⟨by omega, by omega⟩ (by omega) ?_
                                refine mm_istoreL (ls2 := [mU, mU, mU, mU, mI (x126_4 / 3), mI (x126_5 / 3), mI (x126_6 / 3), mI (h.2.1 20 (h.2.1 23 p1)), mI x126_8, mI (x126_4 % 3), mI (x126_5 % 3), mI (x126_6 % 3)]) C (mm_dec dk_X9_canBeTeam 112 rfl) (by decide) rfl ?_
                                refine mm_iincL (ls2 := [mU, mU, mU, mU, mI (x126_4 / 3), mI (x126_5 / 3), mI (x126_6 / 3), mI (h.2.1 20 (h.2.1 23 p1)), mI (x126_8 + 1), mI (x126_4 % 3), mI (x126_5 % 3), mI (x126_6 % 3)]) C (mm_dec dk_X9_canBeTeam 113 rfl) rfl (by decide) ⟨by omega, by omega⟩ rfl ?_
                                refine mm_goto (tgt := 126) C (mm_dec dk_X9_canBeTeam 114 rfl) (by decide) ?_
                                refine mm_fgt 9 ?_
                                refine mm_fgt 10 ?_
                                refine mm_fgt 11 ?_
                                exact ih126 (x126_4 / 3) ⟨by omega, by omega⟩ (x126_5 / 3) ⟨by omega, by omega⟩ (x126_6 / 3) ⟨by omega, by omega⟩ (x126_8 + 1) ⟨by omega, by omega⟩ (by first | rfl | exact mm_dv_step w126_0 (by omega)) (by first | rfl | exact mm_dv_step w126_1 (by omega)) (by first | rfl | exact mm_dv_step w126_2 (by omega)) (by first | rfl | exact mm_ds_step w126_3 (congrArg (· % 3) w126_0) (congrArg (· % 3) w126_1) (congrArg (· % 3) w126_2) (by omega) (by omega) (by omega) (by omega)) (by omega) (by omega)
                              · skip
                                refine mm_fgt 4 ?_
                                refine mm_fgt 5 ?_
                                refine mm_fgt 6 ?_
                                refine mm_fgt 7 ?_
                                refine mm_fgt 8 ?_
                                refine mm_fgt 9 ?_
                                refine mm_fgt 10 ?_
                                refine mm_fgt 11 ?_
                                exact J172 (by exact mm_ds_hit (congrArg (· % 3) w126_0) (congrArg (· % 3) w126_1) (congrArg (· % 3) w126_2) (by omega) (by omega) (by omega))
                    refine mm_istoreL (ls2 := [mR 22, mI p1, mI p2, mI p3, mI (h.2.1 25 p1), mI (h.2.1 25 p2), mI (h.2.1 25 p3), mI (h.2.1 20 (h.2.1 23 p1)), mI 0, mU, mU, mU]) C (mm_dec dk_X9_canBeTeam 74 rfl) (by decide) rfl ?_
                    refine mm_fgt 0 ?_
                    refine mm_fgt 1 ?_
                    refine mm_fgt 2 ?_
                    refine mm_fgt 3 ?_
                    exact J126 (((2147483647 - 0) : Int) + 1).toNat (h.2.1 25 p1) ⟨by omega, by omega⟩ (h.2.1 25 p2) ⟨by omega, by omega⟩ (h.2.1 25 p3) ⟨by omega, by omega⟩ 0 ⟨by omega, by omega⟩ (by first | rfl | exact mm_dv_step w126_0 (by omega)) (by first | rfl | exact mm_dv_step w126_1 (by omega)) (by first | rfl | exact mm_dv_step w126_2 (by omega)) (by first | rfl | exact mm_ds_step w126_3 (congrArg (· % 3) w126_0) (congrArg (· % 3) w126_1) (congrArg (· % 3) w126_2) (by omega) (by omega) (by omega) (by omega)) (by omega) (by omega)
                  · skip
                    refine mm_fgt 0 ?_
                    refine mm_fgt 1 ?_
                    refine mm_fgt 2 ?_
                    refine mm_fgt 3 ?_
                    exact J82 (by omega)
            · skip
              refine mm_fgt 0 ?_
              refine mm_fgt 1 ?_
              refine mm_fgt 2 ?_
              refine mm_fgt 3 ?_
              exact J42 (by omega)
set_option maxRecDepth 100000 in
set_option maxHeartbeats 4000000 in
theorem c_X9_join_q (l : Launch) (hl : l.stackTraces = false) (d : Nat) (hd : 0 ≤ d) (h : mH) (i0 : mm_inv h) (p1 : Int) (p2 : Int) (p3 : Int) (bp1 : 0 ≤ p1 ∧ p1 ≤ 39) (bp2 : 0 ≤ p2 ∧ p2 ≤ 39) (bp3 : 0 ≤ p3 ∧ p3 ≤ 39) (u0 : (h.1 22 9) ≤ 9) : mm_Met l d yX9_join cX9_join 4 (some .int) [mR 22, mI p1, mI p2, mI p3] h (mm_pi fun r h2 => (0 ≤ r ∧ r ≤ 9) ∧ mm_inv h2 ∧ mm_fr [(22, 9)] [27, 28, 29] h h2 ∧ h2.1 22 9 = h.1 22 9 + 1 ∧ r = h.1 22 9 ∧ mm_u3 h h2 28 p1 p2 p3 1 1) mm_nx 0 0 := by
  refine mm_ofW (ls := [mR 22, mI p1, mI p2, mI p3]) hl (by decide) rfl (Nat.le_of_ble_eq_true rfl) ?_
  intro x hxl C T hnm htb
  subst hxl
  refine mm_rng (fun hr _ => ?_)
  have ap1 : -2147483648 ≤ p1 ∧ p1 < 2147483648 := mm_ok_at hr (i := 1) rfl
  have ap2 : -2147483648 ≤ p2 ∧ p2 < 2147483648 := mm_ok_at hr (i := 2) rfl
  have ap3 : -2147483648 ≤ p3 ∧ p3 < 2147483648 := mm_ok_at hr (i := 3) rfl
  have f0 : mm_fr [(22, 9)] [27, 28, 29] h h := mm_fr_rf
  have g1 : 0 ≤ h.1 22 9 ∧ h.1 22 9 ≤ 10 := i0.1 22 9
  refine mm_aload_n C (mm_dec dk_X9_join 0 rfl) rfl ?_
  refine mm_getr (t := 29) C fl_X9_31 (mm_dec dk_X9_join 1 rfl) rfl rfl (mm_ref i0 rfl) ?_
  refine mm_aload_n C (mm_dec dk_X9_join 2 rfl) rfl ?_
  refine mm_geti C fl_X9_38 (mm_dec dk_X9_join 3 rfl) rfl rfl (Or.inl rfl) ?_
  refine mm_iconst C (mm_dec dk_X9_join 4 rfl) ⟨by decide, by decide⟩ ?_
  refine mm_imul C (mm_dec dk_X9_join 5 rfl) ⟨by omega, by omega⟩ ?_
  refine mm_iload_n C (mm_dec dk_X9_join 6 rfl) rfl ?_
  refine mm_iast C (mm_dec dk_X9_join 7 rfl) rfl (by omega) (by omega) ?_
  have i1 : mm_inv (mm_pa h 29 ((h.1 22 9) * 3) p1) := mm_inv_pa i0 (show 0 ≤ p1 ∧ p1 ≤ 39 from ⟨by omega, by omega⟩)
  have f1 : mm_fr [(22, 9)] [27, 28, 29] h (mm_pa h 29 ((h.1 22 9) * 3) p1) := mm_fr_pa f0 (by decide)
  obtain ⟨h1, eh1⟩ : ∃ z, z = mm_pa h 29 ((h.1 22 9) * 3) p1 := ⟨_, rfl⟩
  rw [← eh1] at i1 f1 ⊢
  have qh1_2 : h1.1 22 9 = h.1 22 9 := by rw [eh1]; rfl
  refine mm_aload_n C (mm_dec dk_X9_join 8 rfl) rfl ?_
  refine mm_getr (t := 29) C fl_X9_31 (mm_dec dk_X9_join 9 rfl) rfl rfl (mm_ref i1 rfl) ?_
  refine mm_aload_n C (mm_dec dk_X9_join 10 rfl) rfl ?_
  refine mm_geti C fl_X9_38 (mm_dec dk_X9_join 11 rfl) rfl rfl (Or.inl rfl) ?_
  refine mm_iconst C (mm_dec dk_X9_join 12 rfl) ⟨by decide, by decide⟩ ?_
  refine mm_imul C (mm_dec dk_X9_join 13 rfl) ⟨by omega, by omega⟩ ?_
  refine mm_iconst C (mm_dec dk_X9_join 14 rfl) ⟨by decide, by decide⟩ ?_
  refine mm_iadd C (mm_dec dk_X9_join 15 rfl) ⟨by omega, by omega⟩ ?_
  refine mm_iload_n C (mm_dec dk_X9_join 16 rfl) rfl ?_
  refine mm_iast C (mm_dec dk_X9_join 17 rfl) rfl (by omega) (by omega) ?_
  have i2 : mm_inv (mm_pa h1 29 (((h1.1 22 9) * 3) + 1) p2) := mm_inv_pa i1 (show 0 ≤ p2 ∧ p2 ≤ 39 from ⟨by omega, by omega⟩)
  have f2 : mm_fr [(22, 9)] [27, 28, 29] h (mm_pa h1 29 (((h1.1 22 9) * 3) + 1) p2) := mm_fr_pa f1 (by decide)
  obtain ⟨h2, eh2⟩ : ∃ z, z = mm_pa h1 29 (((h1.1 22 9) * 3) + 1) p2 := ⟨_, rfl⟩
  rw [← eh2] at i2 f2 ⊢
  have qh2_3 : h2.1 22 9 = h1.1 22 9 := by rw [eh2]; rfl
  refine mm_aload_n C (mm_dec dk_X9_join 18 rfl) rfl ?_
  refine mm_getr (t := 29) C fl_X9_31 (mm_dec dk_X9_join 19 rfl) rfl rfl (mm_ref i2 rfl) ?_
  refine mm_aload_n C (mm_dec dk_X9_join 20 rfl) rfl ?_
  refine mm_geti C fl_X9_38 (mm_dec dk_X9_join 21 rfl) rfl rfl (Or.inl rfl) ?_
  refine mm_iconst C (mm_dec dk_X9_join 22 rfl) ⟨by decide, by decide⟩ ?_
  refine mm_imul C (mm_dec dk_X9_join 23 rfl) ⟨by omega, by omega⟩ ?_
  refine mm_iconst C (mm_dec dk_X9_join 24 rfl) ⟨by decide, by decide⟩ ?_
  refine mm_iadd C (mm_dec dk_X9_join 25 rfl) ⟨by omega, by omega⟩ ?_
  refine mm_iload_n C (mm_dec dk_X9_join 26 rfl) rfl ?_
  refine mm_iast C (mm_dec dk_X9_join 27 rfl) rfl (by omega) (by omega) ?_
  have i3 : mm_inv (mm_pa h2 29 (((h2.1 22 9) * 3) + 2) p3) := mm_inv_pa i2 (show 0 ≤ p3 ∧ p3 ≤ 39 from ⟨by omega, by omega⟩)
  have f3 : mm_fr [(22, 9)] [27, 28, 29] h (mm_pa h2 29 (((h2.1 22 9) * 3) + 2) p3) := mm_fr_pa f2 (by decide)
  obtain ⟨h3, eh3⟩ : ∃ z, z = mm_pa h2 29 (((h2.1 22 9) * 3) + 2) p3 := ⟨_, rfl⟩
  rw [← eh3] at i3 f3 ⊢
  have qh3_4 : h3.1 22 9 = h2.1 22 9 := by rw [eh3]; rfl
  refine mm_aload_n C (mm_dec dk_X9_join 28 rfl) rfl ?_
  refine mm_getr (t := 28) C fl_X9_27 (mm_dec dk_X9_join 29 rfl) rfl rfl (mm_ref i3 rfl) ?_
  refine mm_iload_n C (mm_dec dk_X9_join 30 rfl) rfl ?_
  refine mm_iconst C (mm_dec dk_X9_join 31 rfl) ⟨by decide, by decide⟩ ?_
  refine mm_zast C (mm_dec dk_X9_join 32 rfl) rfl (by omega) (by omega) (by omega) ?_
  have i4 : mm_inv (mm_pa h3 28 p1 1) := mm_inv_pa i3 (show 0 ≤ 1 ∧ 1 ≤ 1 from ⟨by omega, by omega⟩)
  have f4 : mm_fr [(22, 9)] [27, 28, 29] h (mm_pa h3 28 p1 1) := mm_fr_pa f3 (by decide)
  obtain ⟨h4, eh4⟩ : ∃ z, z = mm_pa h3 28 p1 1 := ⟨_, rfl⟩
  rw [← eh4] at i4 f4 ⊢
  have qh4_5 : h4.1 22 9 = h3.1 22 9 := by rw [eh4]; rfl
  refine mm_aload_n C (mm_dec dk_X9_join 33 rfl) rfl ?_
  refine mm_getr (t := 28) C fl_X9_27 (mm_dec dk_X9_join 34 rfl) rfl rfl (mm_ref i4 rfl) ?_
  refine mm_iload_n C (mm_dec dk_X9_join 35 rfl) rfl ?_
  refine mm_iconst C (mm_dec dk_X9_join 36 rfl) ⟨by decide, by decide⟩ ?_
  refine mm_zast C (mm_dec dk_X9_join 37 rfl) rfl (by omega) (by omega) (by omega) ?_
  have i5 : mm_inv (mm_pa h4 28 p2 1) := mm_inv_pa i4 (show 0 ≤ 1 ∧ 1 ≤ 1 from ⟨by omega, by omega⟩)
  have f5 : mm_fr [(22, 9)] [27, 28, 29] h (mm_pa h4 28 p2 1) := mm_fr_pa f4 (by decide)
  obtain ⟨h5, eh5⟩ : ∃ z, z = mm_pa h4 28 p2 1 := ⟨_, rfl⟩
  rw [← eh5] at i5 f5 ⊢
  have qh5_6 : h5.1 22 9 = h4.1 22 9 := by rw [eh5]; rfl
  refine mm_aload_n C (mm_dec dk_X9_join 38 rfl) rfl ?_
  refine mm_getr (t := 28) C fl_X9_27 (mm_dec dk_X9_join 39 rfl) rfl rfl (mm_ref i5 rfl) ?_
  refine mm_iload_n C (mm_dec dk_X9_join 40 rfl) rfl ?_
  refine mm_iconst C (mm_dec dk_X9_join 41 rfl) ⟨by decide, by decide⟩ ?_
  refine mm_zast C (mm_dec dk_X9_join 42 rfl) rfl (by omega) (by omega) (by omega) ?_
  have i6 : mm_inv (mm_pa h5 28 p3 1) := mm_inv_pa i5 (show 0 ≤ 1 ∧ 1 ≤ 1 from ⟨by omega, by omega⟩)
  have f6 : mm_fr [(22, 9)] [27, 28, 29] h (mm_pa h5 28 p3 1) := mm_fr_pa f5 (by decide)
  obtain ⟨h6, eh6⟩ : ∃ z, z = mm_pa h5 28 p3 1 := ⟨_, rfl⟩
  rw [← eh6] at i6 f6 ⊢
  have qh6_7 : h6.1 22 9 = h5.1 22 9 := by rw [eh6]; rfl
  refine mm_aload_n C (mm_dec dk_X9_join 43 rfl) rfl ?_
  refine mm_getr (t := 27) C fl_X9_24 (mm_dec dk_X9_join 44 rfl) rfl rfl (mm_ref i6 rfl) ?_
  refine mm_iload_n C (mm_dec dk_X9_join 45 rfl) rfl ?_
  refine mm_iload_n C (mm_dec dk_X9_join 46 rfl) rfl ?_
  refine mm_iast C (mm_dec dk_X9_join 47 rfl) rfl (by omega) (by omega) ?_
  have i7 : mm_inv (mm_pa h6 27 p2 p1) := mm_inv_pa i6 (show -1 ≤ p1 ∧ p1 ≤ 39 from ⟨by omega, by omega⟩)
  have f7 : mm_fr [(22, 9)] [27, 28, 29] h (mm_pa h6 27 p2 p1) := mm_fr_pa f6 (by decide)
  obtain ⟨h7, eh7⟩ : ∃ z, z = mm_pa h6 27 p2 p1 := ⟨_, rfl⟩
  rw [← eh7] at i7 f7 ⊢
  have qh7_8 : h7.1 22 9 = h6.1 22 9 := by rw [eh7]; rfl
  refine mm_aload_n C (mm_dec dk_X9_join 48 rfl) rfl ?_
  refine mm_getr (t := 27) C fl_X9_24 (mm_dec dk_X9_join 49 rfl) rfl rfl (mm_ref i7 rfl) ?_
  refine mm_iload_n C (mm_dec dk_X9_join 50 rfl) rfl ?_
  refine mm_iload_n C (mm_dec dk_X9_join 51 rfl) rfl ?_
  refine mm_iast C (mm_dec dk_X9_join 52 rfl) rfl (by omega) (by omega) ?_
  have i8 : mm_inv (mm_pa h7 27 p3 p2) := mm_inv_pa i7 (show -1 ≤ p2 ∧ p2 ≤ 39 from ⟨by omega, by omega⟩)
  have f8 : mm_fr [(22, 9)] [27, 28, 29] h (mm_pa h7 27 p3 p2) := mm_fr_pa f7 (by decide)
  obtain ⟨h8, eh8⟩ : ∃ z, z = mm_pa h7 27 p3 p2 := ⟨_, rfl⟩
  rw [← eh8] at i8 f8 ⊢
  have qh8_9 : h8.1 22 9 = h7.1 22 9 := by rw [eh8]; rfl
  refine mm_aload_n C (mm_dec dk_X9_join 53 rfl) rfl ?_
  refine mm_dup C (mm_dec dk_X9_join 54 rfl) (show (2 : Nat) ≠ 1 by decide) ?_
  refine mm_geti C fl_X9_38 (mm_dec dk_X9_join 55 rfl) rfl rfl (Or.inl rfl) ?_
  refine mm_iconst C (mm_dec dk_X9_join 56 rfl) ⟨by decide, by decide⟩ ?_
  refine mm_iadd C (mm_dec dk_X9_join 57 rfl) ⟨by omega, by omega⟩ ?_
  refine mm_puti C fl_X9_38 (mm_dec dk_X9_join 58 rfl) rfl rfl rfl (Or.inl ⟨rfl, rfl⟩) ?_
  have i9 : mm_inv (mm_pf h8 22 9 ((h8.1 22 9) + 1)) := mm_inv_pf i8 (show 0 ≤ ((h8.1 22 9) + 1) ∧ ((h8.1 22 9) + 1) ≤ 10 from ⟨by omega, by omega⟩) (by decide)
  have f9 : mm_fr [(22, 9)] [27, 28, 29] h (mm_pf h8 22 9 ((h8.1 22 9) + 1)) := mm_fr_pf f8 (by decide)
  obtain ⟨h9, eh9⟩ : ∃ z, z = mm_pf h8 22 9 ((h8.1 22 9) + 1) := ⟨_, rfl⟩
  rw [← eh9] at i9 f9 ⊢
  have qh9 : h9.1 22 9 = ((h8.1 22 9) + 1) := by rw [eh9]; exact mm_pf_same _ _ _ _
  refine mm_aload_n C (mm_dec dk_X9_join 59 rfl) rfl ?_
  refine mm_geti C fl_X9_38 (mm_dec dk_X9_join 60 rfl) rfl rfl (Or.inl rfl) ?_
  refine mm_iconst C (mm_dec dk_X9_join 61 rfl) ⟨by decide, by decide⟩ ?_
  refine mm_isub C (mm_dec dk_X9_join 62 rfl) ⟨by omega, by omega⟩ ?_
  exact mm_iret C T (mm_dec dk_X9_join 63 rfl) (by decide : 0 ≤ 0) (by decide : 0 ≤ 0) ⟨_, rfl, ⟨⟨by omega, by omega⟩, i9, f9, by omega, by omega, by exact mm_u3_up (h1 := h4) (h2 := h5) (mm_up_pav (fun _ => ((mm_sm_pa 28 eh3 (by decide) _).trans ((mm_sm_pa 28 eh2 (by decide) _).trans (mm_sm_pa 28 eh1 (by decide) _)))) eh4 (fun _ => rfl) (by omega) (by omega) rfl) (mm_up_pav (fun _ => rfl) eh5 (fun _ => rfl) (by omega) (by omega) rfl) (mm_up_pav (fun _ => rfl) eh6 (fun _ => ((mm_sm_pf 28 eh9 _).trans ((mm_sm_pa 28 eh8 (by decide) _).trans (mm_sm_pa 28 eh7 (by decide) _)))) (by omega) (by omega) rfl)⟩⟩
set_option maxRecDepth 100000 in
set_option maxHeartbeats 4000000 in
theorem c_X11_team_q (l : Launch) (hl : l.stackTraces = false) (d : Nat) (hd : 9 ≤ d) (h : mH) (i0 : mm_inv h) (p1 : Int) (p2 : Int) (p3 : Int) : mm_Met l d yX11_team cX11_team 4 (some .int) [mR 0, mI p1, mI p2, mI p3] h (mm_pi fun r h2 => (-1 ≤ r ∧ r ≤ 9) ∧ mm_inv h2 ∧ mm_fr [(22, 9)] [27, 28, 29] h h2 ∧ (0 ≤ p1 ∧ p1 < h.1 22 8 ∧ 0 ≤ p2 ∧ p2 < h.1 22 8 ∧ 0 ≤ p3 ∧ p3 < h.1 22 8) ∧ ((r = h.1 22 9 ∧ h.1 22 9 ≤ 9 ∧ mm_gt h p1 p2 p3 = 1 ∧ h2.1 22 9 = h.1 22 9 + 1) ∨ (r = -1 ∧ (10 ≤ h.1 22 9 ∨ mm_gt h p1 p2 p3 = 0) ∧ h2.1 22 9 = h.1 22 9)) ∧ (∃ f : Int, ((f = 1 ∧ h2.1 22 9 = h.1 22 9 + 1) ∨ (f = 0 ∧ h2.1 22 9 = h.1 22 9)) ∧ mm_u3 h h2 28 p1 p2 p3 1 f)) (fun E h' => mm_xn h E h' ∧ (p1 < 0 ∨ h.1 22 8 ≤ p1 ∨ p2 < 0 ∨ h.1 22 8 ≤ p2 ∨ p3 < 0 ∨ h.1 22 8 ≤ p3)) 3 18 := by
  refine mm_ofW (ls := [mR 0, mI p1, mI p2, mI p3]) hl (by decide) rfl (Nat.le_of_ble_eq_true rfl) ?_
  intro x hxl C T hnm htb
  subst hxl
  have C1 := mm_OK_le (d' := d - 1 + 1) (by omega) C
  have C8 := mm_OK_le (d' := d - 8 + 8) (by omega) C
  refine mm_rng (fun hr _ => ?_)
  have ap1 : -2147483648 ≤ p1 ∧ p1 < 2147483648 := mm_ok_at hr (i := 1) rfl
  have ap2 : -2147483648 ≤ p2 ∧ p2 < 2147483648 := mm_ok_at hr (i := 2) rfl
  have ap3 : -2147483648 ≤ p3 ∧ p3 < 2147483648 := mm_ok_at hr (i := 3) rfl
  have f0 : mm_fr [(22, 9)] [27, 28, 29] h h := mm_fr_rf
  have g1 : 0 ≤ h.1 22 8 ∧ h.1 22 8 ≤ 40 := i0.1 22 8
  have g2 : 0 ≤ h.1 22 9 ∧ h.1 22 9 ≤ 10 := i0.1 22 9
  refine mm_aload_n C (mm_dec dk_X11_team 0 rfl) rfl ?_
  refine mm_iload_n C (mm_dec dk_X11_team 1 rfl) rfl ?_
  refine mm_cVv (rest := []) C1 ev_X11_235 (mm_dec dk_X11_team 2 rfl) (c_X11_needRunner_q x.2.1 hl (d - 1) (by omega) h i0 p1) rfl rfl (Nat.le_of_ble_eq_true rfl) ⟨by decide, by decide⟩ rfl (fun h2c hp2 => ?_) (fun E hx q => mm_out C T htb (by decide) (by decide) (by obtain ⟨q1, q2⟩ := q; exact ⟨q1, by omega⟩))
  obtain ⟨z2, k2_0, k2_1⟩ := hp2
  rw [z2]
  refine mm_aload_n C (mm_dec dk_X11_team 3 rfl) rfl ?_
  refine mm_iload_n C (mm_dec dk_X11_team 4 rfl) rfl ?_
  refine mm_cVv (rest := []) C1 ev_X11_235 (mm_dec dk_X11_team 5 rfl) (c_X11_needRunner_q x.2.1 hl (d - 1) (by omega) h i0 p2) rfl rfl (Nat.le_of_ble_eq_true rfl) ⟨by decide, by decide⟩ rfl (fun h7c hp7 => ?_) (fun E hx q => mm_out C T htb (by decide) (by decide) (by obtain ⟨q1, q2⟩ := q; exact ⟨q1, by omega⟩))
  obtain ⟨z7, k7_0, k7_1⟩ := hp7
  rw [z7]
  refine mm_aload_n C (mm_dec dk_X11_team 6 rfl) rfl ?_
  refine mm_iload_n C (mm_dec dk_X11_team 7 rfl) rfl ?_
  refine mm_cVv (rest := []) C1 ev_X11_235 (mm_dec dk_X11_team 8 rfl) (c_X11_needRunner_q x.2.1 hl (d - 1) (by omega) h i0 p3) rfl rfl (Nat.le_of_ble_eq_true rfl) ⟨by decide, by decide⟩ rfl (fun h12c hp12 => ?_) (fun E hx q => mm_out C T htb (by decide) (by decide) (by obtain ⟨q1, q2⟩ := q; exact ⟨q1, by omega⟩))
  obtain ⟨z12, k12_0, k12_1⟩ := hp12
  rw [z12]
  refine mm_aload_n C (mm_dec dk_X11_team 9 rfl) rfl ?_
  refine mm_getr (t := 22) C fl_X11_37 (mm_dec dk_X11_team 10 rfl) rfl rfl (mm_ref i0 rfl) ?_
  refine mm_cVi (rest := []) C1 ev_X11_251 (mm_dec dk_X11_team 11 rfl) (c_X9_teams x.2.1 hl (d - 1) (by omega) h i0 ) rfl rfl (Nat.le_of_ble_eq_true rfl) ⟨by decide, by decide⟩ rfl (fun r19 h19c hp19 => ?_) (fun _ _ q => q.elim)
  obtain ⟨z19, y19⟩ := hp19
  rw [z19, y19]
  refine mm_bipush C (mm_dec dk_X11_team 12 rfl) ⟨by decide, by decide⟩ ?_
  have J40 : ∀ (w40_0 : (0 ≤ p1 ∧ p1 < h.1 22 8 ∧ 0 ≤ p2 ∧ p2 < h.1 22 8 ∧ 0 ≤ p3 ∧ p3 < h.1 22 8)) (w40_1 : (10 ≤ h.1 22 9 ∨ mm_gt h p1 p2 p3 = 0)), mm_W x 3 18 40 [mU, mU, mU, mU] [] h := by
    intro w40_0 w40_1
    have g7 : 0 ≤ h.1 22 8 ∧ h.1 22 8 ≤ 40 := i0.1 22 8
    have g8 : 0 ≤ h.1 22 9 ∧ h.1 22 9 ≤ 10 := i0.1 22 9
    refine mm_iconst C (mm_dec dk_X11_team 21 rfl) ⟨by decide, by decide⟩ ?_
    exact mm_iret C T (mm_dec dk_X11_team 22 rfl) (by decide : 3 ≤ 3) (by decide : 18 ≤ 18) ⟨_, rfl, ⟨⟨by omega, by omega⟩, i0, f0, by omega, by omega, by first | exact ⟨0, Or.inr ⟨rfl, rfl⟩, mm_u3_no (by decide) (fun _ => rfl)⟩ | exact ⟨1, Or.inl ⟨rfl, by omega⟩, y49_2⟩⟩⟩
  refine mm_icmp_ge (tgt := 40) C (mm_dec dk_X11_team 13 rfl) (by decide) (fun c24 => ?_) (fun c24 => ?_)
  · skip
    refine mm_fgt 0 ?_
    refine mm_fgt 1 ?_
    refine mm_fgt 2 ?_
    refine mm_fgt 3 ?_
    exact J40 (by omega) (by omega)
  · skip
    refine mm_aload_n C (mm_dec dk_X11_team 14 rfl) rfl ?_
    refine mm_getr (t := 22) C fl_X11_37 (mm_dec dk_X11_team 15 rfl) rfl rfl (mm_ref i0 rfl) ?_
    refine mm_iload_n C (mm_dec dk_X11_team 16 rfl) rfl ?_
    refine mm_iload_n C (mm_dec dk_X11_team 17 rfl) rfl ?_
    refine mm_iload_n C (mm_dec dk_X11_team 18 rfl) rfl ?_
    refine mm_cVi (rest := []) C1 ev_X11_254 (mm_dec dk_X11_team 19 rfl) (c_X9_canBeTeam_q x.2.1 hl (d - 1) (by omega) h i0 p1 p2 p3 ⟨by omega, by omega⟩ ⟨by omega, by omega⟩ ⟨by omega, by omega⟩) rfl rfl (Nat.le_of_ble_eq_true rfl) ⟨by decide, by decide⟩ rfl (fun r34 h34c hp34 => ?_) (fun _ _ q => q.elim)
    obtain ⟨b34, z34, y34_0⟩ := hp34
    rw [z34]
    refine mm_if_ne (tgt := 42) C (mm_dec dk_X11_team 20 rfl) (by decide) (fun c37 => ?_) (fun c37 => ?_)
    · skip
      refine mm_aload_n C (mm_dec dk_X11_team 23 rfl) rfl ?_
      refine mm_getr (t := 22) C fl_X11_37 (mm_dec dk_X11_team 24 rfl) rfl rfl (mm_ref i0 rfl) ?_
      refine mm_iload_n C (mm_dec dk_X11_team 25 rfl) rfl ?_
      refine mm_iload_n C (mm_dec dk_X11_team 26 rfl) rfl ?_
      refine mm_iload_n C (mm_dec dk_X11_team 27 rfl) rfl ?_
      refine mm_cVi (rest := []) C1 ev_X11_257 (mm_dec dk_X11_team 28 rfl) (c_X9_join_q x.2.1 hl (d - 1) (by omega) h i0 p1 p2 p3 ⟨by omega, by omega⟩ ⟨by omega, by omega⟩ ⟨by omega, by omega⟩ (by omega)) rfl rfl (Nat.le_of_ble_eq_true rfl) ⟨by decide, by decide⟩ rfl (fun r49 h49c hp49 => ?_) (fun _ _ q => q.elim)
      obtain ⟨b49, i49c, g49c, y49_0, y49_1, y49_2⟩ := hp49
      have f49c : mm_fr [(22, 9)] [27, 28, 29] h h49c := mm_fr_tr f0 g49c (by decide +kernel)
      have q49c_11 : h49c.1 22 8 = h.1 22 8 := g49c.1 22 8 (by decide)
      have g12 : 0 ≤ (h49c.1 22 9) ∧ (h49c.1 22 9) ≤ 10 := i49c.1 22 9
      exact mm_iret C T (mm_dec dk_X11_team 29 rfl) (by decide : 3 ≤ 3) (by decide : 18 ≤ 18) ⟨_, rfl, ⟨⟨by omega, by omega⟩, i49c, f49c, by omega, by omega, by first | exact ⟨0, Or.inr ⟨rfl, rfl⟩, mm_u3_no (by decide) (fun _ => rfl)⟩ | exact ⟨1, Or.inl ⟨rfl, by omega⟩, y49_2⟩⟩⟩
    · skip
      refine mm_fgt 0 ?_
      refine mm_fgt 1 ?_
      refine mm_fgt 2 ?_
      refine mm_fgt 3 ?_
      exact J40 (by omega) (by omega)
set_option maxRecDepth 100000 in
set_option maxHeartbeats 4000000 in
theorem c_X12_isRunner_q (l : Launch) (hl : l.stackTraces = false) (d : Nat) (hd : 1 ≤ d) (h : mH) (i0 : mm_inv h) (p1 : Int) : mm_Met l d yX12_isRunner cX12_isRunner 2 (some .boolean) [mR 66, mI p1] h (mm_pi fun r h2 => (0 ≤ r ∧ r ≤ 1) ∧ mm_inv h2 ∧ mm_fr [(66, 0)] [] h h2 ∧ ((0 ≤ p1 ∧ p1 < h.1 66 23 ∧ r = 1 ∧ h2.1 66 0 = 0) ∨ ((p1 < 0 ∨ h.1 66 23 ≤ p1) ∧ r = 0 ∧ h2.1 66 0 = 1)) ∧ (r = 0 ∨ (0 ≤ p1 ∧ p1 < (h2.1 66 23)))) mm_nx 0 0 := by
  refine mm_ofW (ls := [mR 66, mI p1]) hl (by decide) rfl (Nat.le_of_ble_eq_true rfl) ?_
  intro x hxl C T hnm htb
  subst hxl
  have C1 := mm_OK_le (d' := d - 1 + 1) (by omega) C
  refine mm_rng (fun hr _ => ?_)
  have ap1 : -2147483648 ≤ p1 ∧ p1 < 2147483648 := mm_ok_at hr (i := 1) rfl
  have f0 : mm_fr [(66, 0)] [] h h := mm_fr_rf
  have g1 : -2147483648 ≤ h.1 66 0 ∧ h.1 66 0 ≤ 2147483647 := i0.1 66 0
  have g2 : 0 ≤ h.1 66 23 ∧ h.1 66 23 ≤ 40 := i0.1 66 23
  refine mm_aload_n C (mm_dec dk_X12_isRunner 0 rfl) rfl ?_
  refine mm_iconst C (mm_dec dk_X12_isRunner 1 rfl) ⟨by decide, by decide⟩ ?_
  refine mm_puti C fl_X12_188 (mm_dec dk_X12_isRunner 2 rfl) rfl rfl rfl (Or.inl ⟨rfl, rfl⟩) ?_
  have i1 : mm_inv (mm_pf h 66 0 0) := mm_inv_pf i0 (show -2147483648 ≤ 0 ∧ 0 ≤ 2147483647 from ⟨by omega, by omega⟩) (by decide)
  have f1 : mm_fr [(66, 0)] [] h (mm_pf h 66 0 0) := mm_fr_pf f0 (by decide)
  obtain ⟨h1, eh1⟩ : ∃ z, z = mm_pf h 66 0 0 := ⟨_, rfl⟩
  rw [← eh1] at i1 f1 ⊢
  have qh1 : h1.1 66 0 = 0 := by rw [eh1]; exact mm_pf_same _ _ _ _
  have qh1_3 : h1.1 66 23 = h.1 66 23 := by rw [eh1]; exact mm_pf_ne _ _ (by decide)
  refine mm_aload_n C (mm_dec dk_X12_isRunner 3 rfl) rfl ?_
  refine mm_iload_n C (mm_dec dk_X12_isRunner 4 rfl) rfl ?_
  refine mm_if_lt (tgt := 22) C (mm_dec dk_X12_isRunner 5 rfl) (by decide) (fun c7 => ?_) (fun c7 => ?_)
  · skip
    refine mm_iconst C (mm_dec dk_X12_isRunner 12 rfl) ⟨by decide, by decide⟩ ?_
    refine mm_iconst C (mm_dec dk_X12_isRunner 13 rfl) ⟨by decide, by decide⟩ ?_
    refine mm_cVi (rest := []) C1 ev_X12_251 (mm_dec dk_X12_isRunner 14 rfl) (c_X12_right_q x.2.1 hl (d - 1) (by omega) h1 i1 0 1 ⟨by omega, by omega⟩ (by omega)) rfl rfl (Nat.le_of_ble_eq_true rfl) ⟨by decide, by decide⟩ rfl (fun r24 h24c hp24 => ?_) (fun _ _ q => q.elim)
    obtain ⟨b24, i24c, g24c, y24_0⟩ := hp24
    have f24c : mm_fr [(66, 0)] [] h h24c := mm_fr_tr f1 g24c (by decide +kernel)
    have q24c_5 : h24c.1 66 23 = h1.1 66 23 := g24c.1 66 23 (by decide)
    have g6 : -2147483648 ≤ (h24c.1 66 0) ∧ (h24c.1 66 0) ≤ 2147483647 := i24c.1 66 0
    exact mm_zret C T (mm_dec dk_X12_isRunner 15 rfl) (by decide : 0 ≤ 0) (by decide : 0 ≤ 0) (by omega) ⟨_, rfl, ⟨⟨by omega, by omega⟩, i24c, f24c, by omega, by omega⟩⟩
  · skip
    refine mm_iload_n C (mm_dec dk_X12_isRunner 6 rfl) rfl ?_
    refine mm_aload_n C (mm_dec dk_X12_isRunner 7 rfl) rfl ?_
    refine mm_geti C fl_X12_222 (mm_dec dk_X12_isRunner 8 rfl) rfl rfl (Or.inl rfl) ?_
    refine mm_icmp_ge (tgt := 22) C (mm_dec dk_X12_isRunner 9 rfl) (by decide) (fun c15 => ?_) (fun c15 => ?_)
    · skip
      refine mm_iconst C (mm_dec dk_X12_isRunner 12 rfl) ⟨by decide, by decide⟩ ?_
      refine mm_iconst C (mm_dec dk_X12_isRunner 13 rfl) ⟨by decide, by decide⟩ ?_
      refine mm_cVi (rest := []) C1 ev_X12_251 (mm_dec dk_X12_isRunner 14 rfl) (c_X12_right_q x.2.1 hl (d - 1) (by omega) h1 i1 0 1 ⟨by omega, by omega⟩ (by omega)) rfl rfl (Nat.le_of_ble_eq_true rfl) ⟨by decide, by decide⟩ rfl (fun r24 h24c hp24 => ?_) (fun _ _ q => q.elim)
      obtain ⟨b24, i24c, g24c, y24_0⟩ := hp24
      have f24c : mm_fr [(66, 0)] [] h h24c := mm_fr_tr f1 g24c (by decide +kernel)
      have q24c_8 : h24c.1 66 23 = h1.1 66 23 := g24c.1 66 23 (by decide)
      have g9 : -2147483648 ≤ (h24c.1 66 0) ∧ (h24c.1 66 0) ≤ 2147483647 := i24c.1 66 0
      exact mm_zret C T (mm_dec dk_X12_isRunner 15 rfl) (by decide : 0 ≤ 0) (by decide : 0 ≤ 0) (by omega) ⟨_, rfl, ⟨⟨by omega, by omega⟩, i24c, f24c, by omega, by omega⟩⟩
    · skip
      refine mm_iconst C (mm_dec dk_X12_isRunner 10 rfl) ⟨by decide, by decide⟩ ?_
      refine mm_goto (tgt := 23) C (mm_dec dk_X12_isRunner 11 rfl) (by decide) ?_
      refine mm_iconst C (mm_dec dk_X12_isRunner 13 rfl) ⟨by decide, by decide⟩ ?_
      refine mm_cVi (rest := []) C1 ev_X12_251 (mm_dec dk_X12_isRunner 14 rfl) (c_X12_right_q x.2.1 hl (d - 1) (by omega) h1 i1 1 1 ⟨by omega, by omega⟩ (by omega)) rfl rfl (Nat.le_of_ble_eq_true rfl) ⟨by decide, by decide⟩ rfl (fun r24 h24c hp24 => ?_) (fun _ _ q => q.elim)
      obtain ⟨b24, i24c, g24c, y24_0⟩ := hp24
      have f24c : mm_fr [(66, 0)] [] h h24c := mm_fr_tr f1 g24c (by decide +kernel)
      have q24c_11 : h24c.1 66 23 = h1.1 66 23 := g24c.1 66 23 (by decide)
      have g12 : -2147483648 ≤ (h24c.1 66 0) ∧ (h24c.1 66 0) ≤ 2147483647 := i24c.1 66 0
      exact mm_zret C T (mm_dec dk_X12_isRunner 15 rfl) (by decide : 0 ≤ 0) (by decide : 0 ≤ 0) (by omega) ⟨_, rfl, ⟨⟨by omega, by omega⟩, i24c, f24c, by omega, by omega⟩⟩
set_option maxRecDepth 100000 in
set_option maxHeartbeats 4000000 in
theorem c_X12_digit_q (l : Launch) (hl : l.stackTraces = false) (d : Nat) (hd : 0 ≤ d) (h : mH) (i0 : mm_inv h) (p0 : Int) (p1 : Int) (bp0 : 0 ≤ p0 ∧ p0 ≤ 80) : mm_Met l d yX12_digit cX12_digit 4 (some .int) [mI p0, mI p1] h (mm_pi fun r h2 => (0 ≤ r ∧ r ≤ 2) ∧ h2 = h ∧ r = mm_dv p0 p1.toNat % 3) mm_nx 0 0 := by
  refine mm_ofW (ls := [mI p0, mI p1, mU, mU]) hl (by decide) rfl (Nat.le_of_ble_eq_true rfl) ?_
  intro x hxl C T hnm htb
  subst hxl
  refine mm_rng (fun hr _ => ?_)
  have ap0 : -2147483648 ≤ p0 ∧ p0 < 2147483648 := mm_ok_at hr (i := 0) rfl
  have ap1 : -2147483648 ≤ p1 ∧ p1 < 2147483648 := mm_ok_at hr (i := 1) rfl
  have f0 : mm_fr [] [] h h := mm_fr_rf
  refine mm_iload_n C (mm_dec dk_X12_digit 0 rfl) rfl ?_
  refine mm_istore_nL (ls2 := [mI p0, mI p1, mI p0, mU]) C (mm_dec dk_X12_digit 1 rfl) (by decide) rfl ?_
  refine mm_iconst C (mm_dec dk_X12_digit 2 rfl) ⟨by decide, by decide⟩ ?_
  have J4 : ∀ (n : Nat) (x4_2 : Int) (bx4_2 : 0 ≤ x4_2 ∧ x4_2 ≤ 80) (x4_3 : Int) (bx4_3 : 0 ≤ x4_3 ∧ x4_3 ≤ 2147483647) (w4_0 : x4_2 = mm_dv p0 (x4_3).toNat) (w4_1 : (x4_3 = 0 ∨ x4_3 ≤ p1)), (2147483647 - x4_3 : Int) < n → mm_W x 0 0 4 [mU, mI p1, mI x4_2, mI x4_3] [] h := by
    intro n
    induction n with
    | zero =>
      intro x4_2 bx4_2 x4_3 bx4_3 w4_0 w4_1 hm
      exfalso; omega
    | succ n ih4 =>
      intro x4_2 bx4_2 x4_3 bx4_3 w4_0 w4_1 hm4
      refine mm_iload_n C (mm_dec dk_X12_digit 4 rfl) rfl ?_
      refine mm_iload_n C (mm_dec dk_X12_digit 5 rfl) rfl ?_
      refine mm_icmp_ge (tgt := 19) C (mm_dec dk_X12_digit 6 rfl) (by decide) (fun c6 => ?_) (fun c6 => ?_)
      · skip
        refine mm_iload_n C (mm_dec dk_X12_digit 13 rfl) rfl ?_
        refine mm_iconst C (mm_dec dk_X12_digit 14 rfl) ⟨by decide, by decide⟩ ?_
        refine mm_irem C (mm_dec dk_X12_digit 15 rfl) (by omega) (by omega) ?_
        exact mm_iret C T (mm_dec dk_X12_digit 16 rfl) (by decide : 0 ≤ 0) (by decide : 0 ≤ 0) ⟨_, rfl, ⟨⟨by omega, by omega⟩, rfl, by exact mm_dv_end w4_0 (by omega)⟩⟩
      · skip
        refine mm_iload_n C (mm_dec dk_X12_digit 7 rfl) rfl ?_
        refine mm_iconst C (mm_dec dk_X12_digit 8 rfl) ⟨by decide, by decide⟩ ?_
        refine mm_idiv C (mm_dec dk_X12_digit 9 rfl) ⟨by omega, by omega⟩ (by omega) ?_
        refine mm_istore_nL (ls2 := [mU, mI p1, mI (x4_2 / 3), mI x4_3]) C (mm_dec dk_X12_digit 10 rfl) (by decide) rfl ?_
        refine mm_iincL (ls2 := [mU, mI p1, mI (x4_2 / 3), mI (x4_3 + 1)]) C (mm_dec dk_X12_digit 11 rfl) rfl (by decide) ⟨by omega, by omega⟩ rfl ?_
        refine mm_goto (tgt := 4) C (mm_dec dk_X12_digit 12 rfl) (by decide) ?_
        exact ih4 (x4_2 / 3) ⟨by omega, by omega⟩ (x4_3 + 1) ⟨by omega, by omega⟩ (by first | rfl | exact mm_dv_step w4_0 (by omega)) (by omega) (by omega)
  refine mm_istore_nL (ls2 := [mI p0, mI p1, mI p0, mI 0]) C (mm_dec dk_X12_digit 3 rfl) (by decide) rfl ?_
  refine mm_fgt 0 ?_
  exact J4 (((2147483647 - 0) : Int) + 1).toNat p0 ⟨by omega, by omega⟩ 0 ⟨by omega, by omega⟩ (by first | rfl | exact mm_dv_step w4_0 (by omega)) (by omega) (by omega)
set_option maxRecDepth 100000 in
set_option maxHeartbeats 4000000 in
theorem c_X12_team_q (l : Launch) (hl : l.stackTraces = false) (d : Nat) (hd : 2 ≤ d) (h : mH) (i0 : mm_inv h) (p1 : Int) (p2 : Int) (p3 : Int) : mm_Met l d yX12_team cX12_team 6 (some .int) [mR 66, mI p1, mI p2, mI p3] h (mm_pi fun r h2 => (-1 ≤ r ∧ r ≤ 9) ∧ mm_inv h2 ∧ mm_fr [(66, 0), (66, 24)] [88, 89, 90] h h2 ∧ (((0 ≤ p1 ∧ p1 < h.1 66 23 ∧ 0 ≤ p2 ∧ p2 < h.1 66 23 ∧ 0 ≤ p3 ∧ p3 < h.1 66 23) ∧ h2.1 66 0 = 0 ∧ ((r = h.1 66 24 ∧ h.1 66 24 ≠ 10 ∧ mm_gu h p1 p2 p3 = 1 ∧ h2.1 66 24 = h.1 66 24 + 1) ∨ (r = -1 ∧ (h.1 66 24 = 10 ∨ mm_gu h p1 p2 p3 = 0) ∧ h2.1 66 24 = h.1 66 24))) ∨ ((p1 < 0 ∨ h.1 66 23 ≤ p1 ∨ p2 < 0 ∨ h.1 66 23 ≤ p2 ∨ p3 < 0 ∨ h.1 66 23 ≤ p3) ∧ h2.1 66 0 = 1 ∧ r = 0 ∧ h2.1 66 24 = h.1 66 24)) ∧ (∃ f : Int, ((f = 1 ∧ h2.1 66 24 = h.1 66 24 + 1) ∨ (f = 0 ∧ h2.1 66 24 = h.1 66 24)) ∧ mm_u3 h h2 88 p1 p2 p3 (h.1 66 24) f)) mm_nx 0 0 := by
  refine mm_ofW (ls := [mR 66, mI p1, mI p2, mI p3, mU, mU]) hl (by decide) rfl (Nat.le_of_ble_eq_true rfl) ?_
  intro x hxl C T hnm htb
  subst hxl
  have C1 := mm_OK_le (d' := d - 1 + 1) (by omega) C
  refine mm_rng (fun hr _ => ?_)
  have ap1 : -2147483648 ≤ p1 ∧ p1 < 2147483648 := mm_ok_at hr (i := 1) rfl
  have ap2 : -2147483648 ≤ p2 ∧ p2 < 2147483648 := mm_ok_at hr (i := 2) rfl
  have ap3 : -2147483648 ≤ p3 ∧ p3 < 2147483648 := mm_ok_at hr (i := 3) rfl
  have f0 : mm_fr [(66, 0), (66, 24)] [88, 89, 90] h h := mm_fr_rf
  have g1 : -2147483648 ≤ h.1 66 0 ∧ h.1 66 0 ≤ 2147483647 := i0.1 66 0
  have g2 : 0 ≤ h.1 66 23 ∧ h.1 66 23 ≤ 40 := i0.1 66 23
  have g3 : 0 ≤ h.1 66 24 ∧ h.1 66 24 ≤ 10 := i0.1 66 24
  refine mm_aload_n C (mm_dec dk_X12_team 0 rfl) rfl ?_
  refine mm_iload_n C (mm_dec dk_X12_team 1 rfl) rfl ?_
  refine mm_cVi (rest := []) C1 ev_X12_308 (mm_dec dk_X12_team 2 rfl) (c_X12_isRunner_q x.2.1 hl (d - 1) (by omega) h i0 p1) rfl rfl (Nat.le_of_ble_eq_true rfl) ⟨by decide, by decide⟩ rfl (fun r2 h2c hp2 => ?_) (fun _ _ q => q.elim)
  obtain ⟨b2, i2c, g2c, y2_0, y2_1⟩ := hp2
  have f2c : mm_fr [(66, 0), (66, 24)] [88, 89, 90] h h2c := mm_fr_tr f0 g2c (by decide +kernel)
  have q2c_5 : h2c.1 66 23 = h.1 66 23 := g2c.1 66 23 (by decide)
  have q2c_6 : h2c.1 66 24 = h.1 66 24 := g2c.1 66 24 (by decide)
  have g7 : -2147483648 ≤ (h2c.1 66 0) ∧ (h2c.1 66 0) ≤ 2147483647 := i2c.1 66 0
  have J45 : ∀ (h45_ : mH) (i45_ : mm_inv h45_) (f45_ : mm_fr [(66, 0), (66, 24)] [88, 89, 90] h h45_) (w45_0 : (p1 < 0 ∨ h.1 66 23 ≤ p1 ∨ p2 < 0 ∨ h.1 66 23 ≤ p2 ∨ p3 < 0 ∨ h.1 66 23 ≤ p3)) (w45_1 : h45_.1 66 0 = 1) (w45_2 : h45_.1 66 24 = h.1 66 24) (w45_3 : ∀ j, h45_.2.1 88 j = h.2.1 88 j), mm_W x 0 0 45 [mU, mU, mU, mU, mU, mU] [] h45_ := by
    intro h45_ i45_ f45_ w45_0 w45_1 w45_2 w45_3
    have g8 : -2147483648 ≤ h45_.1 66 0 ∧ h45_.1 66 0 ≤ 2147483647 := i45_.1 66 0
    have g9 : 0 ≤ h45_.1 66 23 ∧ h45_.1 66 23 ≤ 40 := i45_.1 66 23
    have g10 : 0 ≤ h45_.1 66 24 ∧ h45_.1 66 24 ≤ 10 := i45_.1 66 24
    have g11 : h45_.1 66 23 = h.1 66 23 := f45_.1 66 23 (by decide)
    refine mm_iconst C (mm_dec dk_X12_team 23 rfl) ⟨by decide, by decide⟩ ?_
    exact mm_iret C T (mm_dec dk_X12_team 24 rfl) (by decide : 0 ≤ 0) (by decide : 0 ≤ 0) ⟨_, rfl, ⟨⟨by omega, by omega⟩, i45_, f45_, by omega, by first | exact ⟨0, Or.inr ⟨rfl, by omega⟩, mm_u3_no (by decide) w45_3⟩ | exact ⟨0, Or.inr ⟨rfl, by omega⟩, mm_u3_no (by decide) z88⟩ | exact ⟨1, Or.inl ⟨rfl, by omega⟩, mm_u3_tr (fun _ => rfl) (mm_tm_3 w326_5 (by omega)) (fun _ => (mm_sm_pf 88 eh6 _)) rfl⟩⟩⟩
  refine mm_if_eq (tgt := 45) C (mm_dec dk_X12_team 3 rfl) (by decide) (fun c5 => ?_) (fun c5 => ?_)
  · skip
    refine mm_fgt 0 ?_
    refine mm_fgt 1 ?_
    refine mm_fgt 2 ?_
    refine mm_fgt 3 ?_
    exact J45 h2c i2c f2c (by omega) (by omega) (by omega) (by first | exact (fun _ => (g2c.2 88 (by decide) _)) | exact (fun _ => ((g39c.2 88 (by decide) _).trans (g2c.2 88 (by decide) _))))
  · skip
    refine mm_aload_n C (mm_dec dk_X12_team 4 rfl) rfl ?_
    refine mm_iload_n C (mm_dec dk_X12_team 5 rfl) rfl ?_
    have J38 : ∀ (s38_1 : Int) (bs38_1 : 0 ≤ s38_1 ∧ s38_1 ≤ 1) (w38_0 : ((s38_1 = 1 ∧ 0 ≤ p2 ∧ p2 < h.1 66 23 ∧ 0 ≤ p3 ∧ p3 < h.1 66 23) ∨ (s38_1 = 0 ∧ (p2 < 0 ∨ h.1 66 23 ≤ p2 ∨ p3 < 0 ∨ h.1 66 23 ≤ p3)))) (vs38_1 : (s38_1 = 0) ∨ (0 ≤ p2 ∧ p2 < (h2c.1 66 23) ∧ 0 ≤ p3 ∧ p3 < (h2c.1 66 23) ∧ s38_1 = 1)), mm_W x 0 0 38 [mR 66, mI p1, mI p2, mI p3, mU, mU] [mI s38_1, mR 66] h2c := by
      intro s38_1 bs38_1 w38_0 vs38_1
      refine mm_iconst C (mm_dec dk_X12_team 20 rfl) ⟨by decide, by decide⟩ ?_
      refine mm_cVi (rest := []) C1 ev_X12_251 (mm_dec dk_X12_team 21 rfl) (c_X12_right_q x.2.1 hl (d - 1) (by omega) h2c i2c s38_1 1 ⟨by omega, by omega⟩ (by omega)) rfl rfl (Nat.le_of_ble_eq_true rfl) ⟨by decide, by decide⟩ rfl (fun r39 h39c hp39 => ?_) (fun _ _ q => q.elim)
      obtain ⟨b39, i39c, g39c, y39_0⟩ := hp39
      have f39c : mm_fr [(66, 0), (66, 24)] [88, 89, 90] h h39c := mm_fr_tr f2c g39c (by decide +kernel)
      have q39c_13 : h39c.1 66 23 = h2c.1 66 23 := g39c.1 66 23 (by decide)
      have q39c_14 : h39c.1 66 24 = h2c.1 66 24 := g39c.1 66 24 (by decide)
      have g15 : -2147483648 ≤ (h39c.1 66 0) ∧ (h39c.1 66 0) ≤ 2147483647 := i39c.1 66 0
      refine mm_if_ne (tgt := 47) C (mm_dec dk_X12_team 22 rfl) (by decide) (fun c42 => ?_) (fun c42 => ?_)
      · skip
        have zC : (0 ≤ p1 ∧ p1 < h.1 66 23 ∧ 0 ≤ p2 ∧ p2 < h.1 66 23 ∧ 0 ≤ p3 ∧ p3 < h.1 66 23) := by omega
        have z0 : h39c.1 66 0 = 0 := by omega
        have zt : h39c.1 66 24 = h.1 66 24 := by omega
        clear y2_0 y2_1 y39_0
        have z81 : ∀ j, h39c.2.1 81 j = h.2.1 81 j := (fun _ => ((g39c.2 81 (by decide) _).trans (g2c.2 81 (by decide) _)))
        have z83 : ∀ j, h39c.2.1 83 j = h.2.1 83 j := (fun _ => ((g39c.2 83 (by decide) _).trans (g2c.2 83 (by decide) _)))
        have z85 : ∀ j, h39c.2.1 85 j = h.2.1 85 j := (fun _ => ((g39c.2 85 (by decide) _).trans (g2c.2 85 (by decide) _)))
        have z87 : ∀ j, h39c.2.1 87 j = h.2.1 87 j := (fun _ => ((g39c.2 87 (by decide) _).trans (g2c.2 87 (by decide) _)))
        have z88 : ∀ j, h39c.2.1 88 j = h.2.1 88 j := (fun _ => ((g39c.2 88 (by decide) _).trans (g2c.2 88 (by decide) _)))
        have v85_p1 := z85 p1
        have v85_p2 := z85 p2
        have v85_p3 := z85 p3
        have v87_p1 := z87 p1
        have v87_p2 := z87 p2
        have v87_p3 := z87 p3
        have v88_p1 := z88 p1
        have v88_p2 := z88 p2
        have v88_p3 := z88 p3
        have v83 : h39c.2.1 83 (h39c.2.1 85 p1) = h.2.1 83 (h.2.1 85 p1) := by rw [z83, z85]
        have v81 : h39c.2.1 81 (h39c.2.1 85 p1) = h.2.1 81 (h.2.1 85 p1) := by rw [z81, z85]
        have zq := mm_ds_rg (h.2.1 87 p1) (h.2.1 87 p2) (h.2.1 87 p3) (h.2.1 81 (h.2.1 85 p1)).toNat
        have zg := mm_gu_rg h p1 p2 p3
        have zg2 := mm_g2_rg h p1 p2 p3
        refine mm_iload_n C (mm_dec dk_X12_team 25 rfl) rfl ?_
        refine mm_iload_n C (mm_dec dk_X12_team 26 rfl) rfl ?_
        have J111 : ∀ (s111_0 : Int) (bs111_0 : 0 ≤ s111_0 ∧ s111_0 ≤ 1) (w111_0 : s111_0 = mm_g1 h p1 p2 p3) (vs111_0 : (s111_0 = 0) ∨ (p1 ≠ p2 ∧ p2 ≠ p3 ∧ p1 ≠ p3 ∧ (h39c.2.1 85 p1) = (h39c.2.1 85 p2) ∧ (h39c.2.1 85 p2) = (h39c.2.1 85 p3) ∧ (h39c.2.1 83 (h39c.2.1 85 p1)) = 0 ∧ s111_0 = 1)), mm_W x 0 0 111 [mR 66, mI p1, mI p2, mI p3, mU, mU] [mI s111_0] h39c := by
          intro s111_0 bs111_0 w111_0 vs111_0
          refine mm_istoreL (ls2 := [mR 66, mI p1, mI p2, mI p3, mI s111_0, mU]) C (mm_dec dk_X12_team 63 rfl) (by decide) rfl ?_
          refine mm_iload C (mm_dec dk_X12_team 64 rfl) rfl ?_
          have J153 : ∀ (s153_0 : Int) (bs153_0 : 0 ≤ s153_0 ∧ s153_0 ≤ 1) (w153_0 : s153_0 = mm_g2 h p1 p2 p3) (vs153_0 : (s153_0 = 0) ∨ (s111_0 ≠ 0 ∧ (h39c.2.1 88 p1) = (-1) ∧ (h39c.2.1 88 p2) = (-1) ∧ (h39c.2.1 88 p3) = (-1) ∧ s153_0 = 1)), mm_W x 0 0 153 [mR 66, mI p1, mI p2, mI p3, mU, mU] [mI s153_0] h39c := by
            intro s153_0 bs153_0 w153_0 vs153_0
            refine mm_istoreL (ls2 := [mR 66, mI p1, mI p2, mI p3, mI s153_0, mU]) C (mm_dec dk_X12_team 87 rfl) (by decide) rfl ?_
            refine mm_iconst C (mm_dec dk_X12_team 88 rfl) ⟨by decide, by decide⟩ ?_
            have J158 : ∀ (n : Nat) (x158_4 : Int) (bx158_4 : 0 ≤ x158_4 ∧ x158_4 ≤ 1) (x158_5 : Int) (bx158_5 : 0 ≤ x158_5 ∧ x158_5 ≤ 2147483647) (w158_0 : ((x158_4 = 1 ∧ mm_g2 h p1 p2 p3 = 1 ∧ mm_ds (h.2.1 87 p1) (h.2.1 87 p2) (h.2.1 87 p3) (x158_5).toNat = 1) ∨ (x158_4 = 0 ∧ (mm_g2 h p1 p2 p3 = 0 ∨ mm_ds (h.2.1 87 p1) (h.2.1 87 p2) (h.2.1 87 p3) (h.2.1 81 (h.2.1 85 p1)).toNat = 0)))) (w158_1 : (x158_5 = 0 ∨ x158_5 ≤ (h.2.1 81 (h.2.1 85 p1)))), (2147483647 - x158_5 : Int) < n → mm_W x 0 0 158 [mR 66, mI p1, mI p2, mI p3, mI x158_4, mI x158_5] [] h39c := by
              intro n
              induction n with
              | zero =>
                intro x158_4 bx158_4 x158_5 bx158_5 w158_0 w158_1 hm
                exfalso; omega
              | succ n ih158 =>
                intro x158_4 bx158_4 x158_5 bx158_5 w158_0 w158_1 hm158
                refine mm_iload C (mm_dec dk_X12_team 90 rfl) rfl ?_
                refine mm_aload_n C (mm_dec dk_X12_team 91 rfl) rfl ?_
                refine mm_getr (t := 81) C fl_X12_54 (mm_dec dk_X12_team 92 rfl) rfl rfl (mm_ref i39c rfl) ?_
                refine mm_aload_n C (mm_dec dk_X12_team 93 rfl) rfl ?_
                refine mm_getr (t := 85) C fl_X12_66 (mm_dec dk_X12_team 94 rfl) rfl rfl (mm_ref i39c rfl) ?_
                refine mm_iload_n C (mm_dec dk_X12_team 95 rfl) rfl ?_
                refine mm_iald C (mm_dec dk_X12_team 96 rfl) rfl (by omega) (by omega) ?_
                have g16 : 0 ≤ (h39c.2.1 85 p1) ∧ (h39c.2.1 85 p1) ≤ 7 := i39c.2.1 85 p1
                refine mm_iald C (mm_dec dk_X12_team 97 rfl) rfl (by omega) (by omega) ?_
                have g17 : -2147483648 ≤ (h39c.2.1 81 (h39c.2.1 85 p1)) ∧ (h39c.2.1 81 (h39c.2.1 85 p1)) ≤ 2147483647 := i39c.2.1 81 (h39c.2.1 85 p1)
                have J267 : ∀ (w267_0 : x158_4 = mm_gu h p1 p2 p3), mm_W x 0 0 267 [mR 66, mI p1, mI p2, mI p3, mI x158_4, mU] [] h39c := by
                  intro w267_0
                  refine mm_iload C (mm_dec dk_X12_team 146 rfl) rfl ?_
                  have J281 : ∀ (w281_0 : (mm_gu h p1 p2 p3 = 0 ∨ h.1 66 24 = 10)), mm_W x 0 0 281 [mU, mU, mU, mU, mU, mU] [] h39c := by
                    intro w281_0
                    refine mm_iconst C (mm_dec dk_X12_team 152 rfl) ⟨by decide, by decide⟩ ?_
                    exact mm_iret C T (mm_dec dk_X12_team 153 rfl) (by decide : 0 ≤ 0) (by decide : 0 ≤ 0) ⟨_, rfl, ⟨⟨by omega, by omega⟩, i39c, f39c, by omega, by first | exact ⟨0, Or.inr ⟨rfl, by omega⟩, mm_u3_no (by decide) w45_3⟩ | exact ⟨0, Or.inr ⟨rfl, by omega⟩, mm_u3_no (by decide) z88⟩ | exact ⟨1, Or.inl ⟨rfl, by omega⟩, mm_u3_tr (fun _ => rfl) (mm_tm_3 w326_5 (by omega)) (fun _ => (mm_sm_pf 88 eh6 _)) rfl⟩⟩⟩
                  refine mm_if_eq (tgt := 281) C (mm_dec dk_X12_team 147 rfl) (by decide) (fun c269 => ?_) (fun c269 => ?_)
                  · skip
                    refine mm_fgt 0 ?_
                    refine mm_fgt 1 ?_
                    refine mm_fgt 2 ?_
                    refine mm_fgt 3 ?_
                    refine mm_fgt 4 ?_
                    exact J281 (by omega)
                  · skip
                    refine mm_aload_n C (mm_dec dk_X12_team 148 rfl) rfl ?_
                    refine mm_geti C fl_X12_225 (mm_dec dk_X12_team 149 rfl) rfl rfl (Or.inl rfl) ?_
                    refine mm_bipush C (mm_dec dk_X12_team 150 rfl) ⟨by decide, by decide⟩ ?_
                    refine mm_icmp_ne (tgt := 283) C (mm_dec dk_X12_team 151 rfl) (by decide) (fun c278 => ?_) (fun c278 => ?_)
                    · skip
                      refine mm_aload_n C (mm_dec dk_X12_team 154 rfl) rfl ?_
                      refine mm_getr (t := 90) C fl_X12_81 (mm_dec dk_X12_team 155 rfl) rfl rfl (mm_ref i39c rfl) ?_
                      refine mm_iconst C (mm_dec dk_X12_team 156 rfl) ⟨by decide, by decide⟩ ?_
                      refine mm_aload_n C (mm_dec dk_X12_team 157 rfl) rfl ?_
                      refine mm_geti C fl_X12_225 (mm_dec dk_X12_team 158 rfl) rfl rfl (Or.inl rfl) ?_
                      refine mm_imul C (mm_dec dk_X12_team 159 rfl) ⟨by omega, by omega⟩ ?_
                      refine mm_iload_n C (mm_dec dk_X12_team 160 rfl) rfl ?_
                      refine mm_iast C (mm_dec dk_X12_team 161 rfl) rfl (by omega) (by omega) ?_
                      have i3 : mm_inv (mm_pa h39c 90 (3 * (h39c.1 66 24)) p1) := mm_inv_pa i39c (show 0 ≤ p1 ∧ p1 ≤ 39 from ⟨by omega, by omega⟩)
                      have f3 : mm_fr [(66, 0), (66, 24)] [88, 89, 90] h (mm_pa h39c 90 (3 * (h39c.1 66 24)) p1) := mm_fr_pa f39c (by decide)
                      obtain ⟨h3, eh3⟩ : ∃ z, z = mm_pa h39c 90 (3 * (h39c.1 66 24)) p1 := ⟨_, rfl⟩
                      rw [← eh3] at i3 f3 ⊢
                      have qh3_18 : h3.1 66 0 = h39c.1 66 0 := by rw [eh3]; rfl
                      have qh3_19 : h3.1 66 23 = h39c.1 66 23 := by rw [eh3]; rfl
                      have qh3_20 : h3.1 66 24 = h39c.1 66 24 := by rw [eh3]; rfl
                      refine mm_aload_n C (mm_dec dk_X12_team 162 rfl) rfl ?_
                      refine mm_getr (t := 90) C fl_X12_81 (mm_dec dk_X12_team 163 rfl) rfl rfl (mm_ref i3 rfl) ?_
                      refine mm_iconst C (mm_dec dk_X12_team 164 rfl) ⟨by decide, by decide⟩ ?_
                      refine mm_aload_n C (mm_dec dk_X12_team 165 rfl) rfl ?_
                      refine mm_geti C fl_X12_225 (mm_dec dk_X12_team 166 rfl) rfl rfl (Or.inl rfl) ?_
                      refine mm_imul C (mm_dec dk_X12_team 167 rfl) ⟨by omega, by omega⟩ ?_
                      refine mm_iconst C (mm_dec dk_X12_team 168 rfl) ⟨by decide, by decide⟩ ?_
                      refine mm_iadd C (mm_dec dk_X12_team 169 rfl) ⟨by omega, by omega⟩ ?_
                      refine mm_iload_n C (mm_dec dk_X12_team 170 rfl) rfl ?_
                      refine mm_iast C (mm_dec dk_X12_team 171 rfl) rfl (by omega) (by omega) ?_
                      have i4 : mm_inv (mm_pa h3 90 ((3 * (h3.1 66 24)) + 1) p2) := mm_inv_pa i3 (show 0 ≤ p2 ∧ p2 ≤ 39 from ⟨by omega, by omega⟩)
                      have f4 : mm_fr [(66, 0), (66, 24)] [88, 89, 90] h (mm_pa h3 90 ((3 * (h3.1 66 24)) + 1) p2) := mm_fr_pa f3 (by decide)
                      obtain ⟨h4, eh4⟩ : ∃ z, z = mm_pa h3 90 ((3 * (h3.1 66 24)) + 1) p2 := ⟨_, rfl⟩
                      rw [← eh4] at i4 f4 ⊢
                      have qh4_21 : h4.1 66 0 = h3.1 66 0 := by rw [eh4]; rfl
                      have qh4_22 : h4.1 66 23 = h3.1 66 23 := by rw [eh4]; rfl
                      have qh4_23 : h4.1 66 24 = h3.1 66 24 := by rw [eh4]; rfl
                      refine mm_aload_n C (mm_dec dk_X12_team 172 rfl) rfl ?_
                      refine mm_getr (t := 90) C fl_X12_81 (mm_dec dk_X12_team 173 rfl) rfl rfl (mm_ref i4 rfl) ?_
                      refine mm_iconst C (mm_dec dk_X12_team 174 rfl) ⟨by decide, by decide⟩ ?_
                      refine mm_aload_n C (mm_dec dk_X12_team 175 rfl) rfl ?_
                      refine mm_geti C fl_X12_225 (mm_dec dk_X12_team 176 rfl) rfl rfl (Or.inl rfl) ?_
                      refine mm_imul C (mm_dec dk_X12_team 177 rfl) ⟨by omega, by omega⟩ ?_
                      refine mm_iconst C (mm_dec dk_X12_team 178 rfl) ⟨by decide, by decide⟩ ?_
                      refine mm_iadd C (mm_dec dk_X12_team 179 rfl) ⟨by omega, by omega⟩ ?_
                      refine mm_iload_n C (mm_dec dk_X12_team 180 rfl) rfl ?_
                      refine mm_iast C (mm_dec dk_X12_team 181 rfl) rfl (by omega) (by omega) ?_
                      have i5 : mm_inv (mm_pa h4 90 ((3 * (h4.1 66 24)) + 2) p3) := mm_inv_pa i4 (show 0 ≤ p3 ∧ p3 ≤ 39 from ⟨by omega, by omega⟩)
                      have f5 : mm_fr [(66, 0), (66, 24)] [88, 89, 90] h (mm_pa h4 90 ((3 * (h4.1 66 24)) + 2) p3) := mm_fr_pa f4 (by decide)
                      obtain ⟨h5, eh5⟩ : ∃ z, z = mm_pa h4 90 ((3 * (h4.1 66 24)) + 2) p3 := ⟨_, rfl⟩
                      rw [← eh5] at i5 f5 ⊢
                      have qh5_24 : h5.1 66 0 = h4.1 66 0 := by rw [eh5]; rfl
                      have qh5_25 : h5.1 66 23 = h4.1 66 23 := by rw [eh5]; rfl
                      have qh5_26 : h5.1 66 24 = h4.1 66 24 := by rw [eh5]; rfl
                      refine mm_iconst C (mm_dec dk_X12_team 182 rfl) ⟨by decide, by decide⟩ ?_
                      have J326 : ∀ (n : Nat) (x326_5 : Int) (bx326_5 : 0 ≤ x326_5 ∧ x326_5 ≤ 3) (h326_ : mH) (i326_ : mm_inv h326_) (f326_ : mm_fr [(66, 0), (66, 24)] [88, 89, 90] h h326_) (w326_0 : h326_.1 66 0 = 0) (w326_1 : h326_.1 66 24 = h.1 66 24) (w326_2 : h326_.2.1 90 (3 * h.1 66 24) = p1) (w326_3 : h326_.2.1 90 (3 * h.1 66 24 + 1) = p2) (w326_4 : h326_.2.1 90 (3 * h.1 66 24 + 2) = p3) (w326_5 : mm_tm h h326_ p1 p2 p3 (h.1 66 24) x326_5), (3 - x326_5 : Int) < n → mm_W x 0 0 326 [mR 66, mU, mU, mU, mU, mI x326_5] [] h326_ := by
                        intro n
                        induction n with
                        | zero =>
                          intro x326_5 bx326_5 h326_ i326_ f326_ w326_0 w326_1 w326_2 w326_3 w326_4 w326_5 hm
                          have g27 : -2147483648 ≤ h326_.1 66 0 ∧ h326_.1 66 0 ≤ 2147483647 := i326_.1 66 0
                          have g28 : 0 ≤ h326_.1 66 23 ∧ h326_.1 66 23 ≤ 40 := i326_.1 66 23
                          have g29 : 0 ≤ h326_.1 66 24 ∧ h326_.1 66 24 ≤ 10 := i326_.1 66 24
                          exfalso; omega
                        | succ n ih326 =>
                          intro x326_5 bx326_5 h326_ i326_ f326_ w326_0 w326_1 w326_2 w326_3 w326_4 w326_5 hm326
                          have g30 : -2147483648 ≤ h326_.1 66 0 ∧ h326_.1 66 0 ≤ 2147483647 := i326_.1 66 0
                          have g31 : 0 ≤ h326_.1 66 23 ∧ h326_.1 66 23 ≤ 40 := i326_.1 66 23
                          have g32 : 0 ≤ h326_.1 66 24 ∧ h326_.1 66 24 ≤ 10 := i326_.1 66 24
                          have g33 : h326_.1 66 23 = h.1 66 23 := f326_.1 66 23 (by decide)
                          refine mm_iload C (mm_dec dk_X12_team 184 rfl) rfl ?_
                          refine mm_iconst C (mm_dec dk_X12_team 185 rfl) ⟨by decide, by decide⟩ ?_
                          refine mm_icmp_ge (tgt := 382) C (mm_dec dk_X12_team 186 rfl) (by decide) (fun c329 => ?_) (fun c329 => ?_)
                          · skip
                            refine mm_aload_n C (mm_dec dk_X12_team 216 rfl) rfl ?_
                            refine mm_dup C (mm_dec dk_X12_team 217 rfl) (show (2 : Nat) ≠ 1 by decide) ?_
                            refine mm_geti C fl_X12_225 (mm_dec dk_X12_team 218 rfl) rfl rfl (Or.inl rfl) ?_
                            refine mm_iconst C (mm_dec dk_X12_team 219 rfl) ⟨by decide, by decide⟩ ?_
                            refine mm_iadd C (mm_dec dk_X12_team 220 rfl) ⟨by omega, by omega⟩ ?_
                            refine mm_puti C fl_X12_225 (mm_dec dk_X12_team 221 rfl) rfl rfl rfl (Or.inl ⟨rfl, rfl⟩) ?_
                            have i6 : mm_inv (mm_pf h326_ 66 24 ((h326_.1 66 24) + 1)) := mm_inv_pf i326_ (show 0 ≤ ((h326_.1 66 24) + 1) ∧ ((h326_.1 66 24) + 1) ≤ 10 from ⟨by omega, by omega⟩) (by decide)
                            have f6 : mm_fr [(66, 0), (66, 24)] [88, 89, 90] h (mm_pf h326_ 66 24 ((h326_.1 66 24) + 1)) := mm_fr_pf f326_ (by decide)
                            obtain ⟨h6, eh6⟩ : ∃ z, z = mm_pf h326_ 66 24 ((h326_.1 66 24) + 1) := ⟨_, rfl⟩
                            rw [← eh6] at i6 f6 ⊢
                            have qh6 : h6.1 66 24 = ((h326_.1 66 24) + 1) := by rw [eh6]; exact mm_pf_same _ _ _ _
                            have qh6_34 : h6.1 66 0 = h326_.1 66 0 := by rw [eh6]; exact mm_pf_ne _ _ (by decide)
                            have qh6_35 : h6.1 66 23 = h326_.1 66 23 := by rw [eh6]; exact mm_pf_ne _ _ (by decide)
                            refine mm_aload_n C (mm_dec dk_X12_team 222 rfl) rfl ?_
                            refine mm_geti C fl_X12_225 (mm_dec dk_X12_team 223 rfl) rfl rfl (Or.inl rfl) ?_
                            refine mm_iconst C (mm_dec dk_X12_team 224 rfl) ⟨by decide, by decide⟩ ?_
                            refine mm_isub C (mm_dec dk_X12_team 225 rfl) ⟨by omega, by omega⟩ ?_
                            exact mm_iret C T (mm_dec dk_X12_team 226 rfl) (by decide : 0 ≤ 0) (by decide : 0 ≤ 0) ⟨_, rfl, ⟨⟨by omega, by omega⟩, i6, f6, by omega, by first | exact ⟨0, Or.inr ⟨rfl, by omega⟩, mm_u3_no (by decide) w45_3⟩ | exact ⟨0, Or.inr ⟨rfl, by omega⟩, mm_u3_no (by decide) z88⟩ | exact ⟨1, Or.inl ⟨rfl, by omega⟩, mm_u3_tr (fun _ => rfl) (mm_tm_3 w326_5 (by omega)) (fun _ => (mm_sm_pf 88 eh6 _)) rfl⟩⟩⟩
                          · skip
                            refine mm_aload_n C (mm_dec dk_X12_team 187 rfl) rfl ?_
                            refine mm_getr (t := 88) C fl_X12_75 (mm_dec dk_X12_team 188 rfl) rfl rfl (mm_ref i326_ rfl) ?_
                            refine mm_aload_n C (mm_dec dk_X12_team 189 rfl) rfl ?_
                            refine mm_getr (t := 90) C fl_X12_81 (mm_dec dk_X12_team 190 rfl) rfl rfl (mm_ref i326_ rfl) ?_
                            refine mm_iconst C (mm_dec dk_X12_team 191 rfl) ⟨by decide, by decide⟩ ?_
                            refine mm_aload_n C (mm_dec dk_X12_team 192 rfl) rfl ?_
                            refine mm_geti C fl_X12_225 (mm_dec dk_X12_team 193 rfl) rfl rfl (Or.inl rfl) ?_
                            refine mm_imul C (mm_dec dk_X12_team 194 rfl) ⟨by omega, by omega⟩ ?_
                            refine mm_iload C (mm_dec dk_X12_team 195 rfl) rfl ?_
                            refine mm_iadd C (mm_dec dk_X12_team 196 rfl) ⟨by omega, by omega⟩ ?_
                            refine mm_iald C (mm_dec dk_X12_team 197 rfl) rfl (by omega) (by omega) ?_
                            have g36 : 0 ≤ (h326_.2.1 90 ((3 * (h326_.1 66 24)) + x326_5)) ∧ (h326_.2.1 90 ((3 * (h326_.1 66 24)) + x326_5)) ≤ 39 := i326_.2.1 90 ((3 * (h326_.1 66 24)) + x326_5)
                            have zv := mm_tm_v (r := h326_.2.1 90) (t := h.1 66 24) (t' := h326_.1 66 24) (x := x326_5) w326_1 w326_2 w326_3 w326_4 (by omega) (by omega)
                            refine mm_aload_n C (mm_dec dk_X12_team 198 rfl) rfl ?_
                            refine mm_geti C fl_X12_225 (mm_dec dk_X12_team 199 rfl) rfl rfl (Or.inl rfl) ?_
                            refine mm_iast C (mm_dec dk_X12_team 200 rfl) rfl (by omega) (by omega) ?_
                            have i7 : mm_inv (mm_pa h326_ 88 (h326_.2.1 90 ((3 * (h326_.1 66 24)) + x326_5)) (h326_.1 66 24)) := mm_inv_pa i326_ (show -1 ≤ (h326_.1 66 24) ∧ (h326_.1 66 24) ≤ 9 from ⟨by omega, by omega⟩)
                            have f7 : mm_fr [(66, 0), (66, 24)] [88, 89, 90] h (mm_pa h326_ 88 (h326_.2.1 90 ((3 * (h326_.1 66 24)) + x326_5)) (h326_.1 66 24)) := mm_fr_pa f326_ (by decide)
                            obtain ⟨h7, eh7⟩ : ∃ z, z = mm_pa h326_ 88 (h326_.2.1 90 ((3 * (h326_.1 66 24)) + x326_5)) (h326_.1 66 24) := ⟨_, rfl⟩
                            rw [← eh7] at i7 f7 ⊢
                            have qh7_37 : h7.1 66 0 = h326_.1 66 0 := by rw [eh7]; rfl
                            have qh7_38 : h7.1 66 23 = h326_.1 66 23 := by rw [eh7]; rfl
                            have qh7_39 : h7.1 66 24 = h326_.1 66 24 := by rw [eh7]; rfl
                            refine mm_aload_n C (mm_dec dk_X12_team 201 rfl) rfl ?_
                            refine mm_getr (t := 89) C fl_X12_78 (mm_dec dk_X12_team 202 rfl) rfl rfl (mm_ref i7 rfl) ?_
                            refine mm_aload_n C (mm_dec dk_X12_team 203 rfl) rfl ?_
                            refine mm_getr (t := 90) C fl_X12_81 (mm_dec dk_X12_team 204 rfl) rfl rfl (mm_ref i7 rfl) ?_
                            refine mm_iconst C (mm_dec dk_X12_team 205 rfl) ⟨by decide, by decide⟩ ?_
                            refine mm_aload_n C (mm_dec dk_X12_team 206 rfl) rfl ?_
                            refine mm_geti C fl_X12_225 (mm_dec dk_X12_team 207 rfl) rfl rfl (Or.inl rfl) ?_
                            refine mm_imul C (mm_dec dk_X12_team 208 rfl) ⟨by omega, by omega⟩ ?_
                            refine mm_iload C (mm_dec dk_X12_team 209 rfl) rfl ?_
                            refine mm_iadd C (mm_dec dk_X12_team 210 rfl) ⟨by omega, by omega⟩ ?_
                            refine mm_iald C (mm_dec dk_X12_team 211 rfl) rfl (by omega) (by omega) ?_
                            have g40 : 0 ≤ (h7.2.1 90 ((3 * (h7.1 66 24)) + x326_5)) ∧ (h7.2.1 90 ((3 * (h7.1 66 24)) + x326_5)) ≤ 39 := i7.2.1 90 ((3 * (h7.1 66 24)) + x326_5)
                            refine mm_iload C (mm_dec dk_X12_team 212 rfl) rfl ?_
                            refine mm_iast C (mm_dec dk_X12_team 213 rfl) rfl (by omega) (by omega) ?_
                            have i8 : mm_inv (mm_pa h7 89 (h7.2.1 90 ((3 * (h7.1 66 24)) + x326_5)) x326_5) := mm_inv_pa i7 (show 0 ≤ x326_5 ∧ x326_5 ≤ 2 from ⟨by omega, by omega⟩)
                            have f8 : mm_fr [(66, 0), (66, 24)] [88, 89, 90] h (mm_pa h7 89 (h7.2.1 90 ((3 * (h7.1 66 24)) + x326_5)) x326_5) := mm_fr_pa f7 (by decide)
                            obtain ⟨h8, eh8⟩ : ∃ z, z = mm_pa h7 89 (h7.2.1 90 ((3 * (h7.1 66 24)) + x326_5)) x326_5 := ⟨_, rfl⟩
                            rw [← eh8] at i8 f8 ⊢
                            have qh8_41 : h8.1 66 0 = h7.1 66 0 := by rw [eh8]; rfl
                            have qh8_42 : h8.1 66 23 = h7.1 66 23 := by rw [eh8]; rfl
                            have qh8_43 : h8.1 66 24 = h7.1 66 24 := by rw [eh8]; rfl
                            refine mm_iincL (ls2 := [mR 66, mU, mU, mU, mU, mI (x326_5 + 1)]) C (mm_dec dk_X12_team 214 rfl) rfl (by decide) ⟨by omega, by omega⟩ rfl ?_
                            refine mm_goto (tgt := 326) C (mm_dec dk_X12_team 215 rfl) (by decide) ?_
                            exact ih326 (x326_5 + 1) ⟨by omega, by omega⟩ h8 i8 f8 (by omega) (by omega) (by first | exact (mm_pa_off eh5 (by omega)).trans ((mm_pa_off eh4 (by omega)).trans (mm_pa_at eh3 (by omega))) | exact ((fun _ => ((mm_sm_pa 90 eh8 (by decide) _).trans (mm_sm_pa 90 eh7 (by decide) _))) _).trans w326_2) (by first | exact (mm_pa_off eh5 (by omega)).trans (mm_pa_at eh4 (by omega)) | exact ((fun _ => ((mm_sm_pa 90 eh8 (by decide) _).trans (mm_sm_pa 90 eh7 (by decide) _))) _).trans w326_3) (by first | exact mm_pa_at eh5 (by omega) | exact ((fun _ => ((mm_sm_pa 90 eh8 (by decide) _).trans (mm_sm_pa 90 eh7 (by decide) _))) _).trans w326_4) (by first | exact mm_tm_0 (fun _ => ((mm_sm_pa 88 eh5 (by decide) _).trans ((mm_sm_pa 88 eh4 (by decide) _).trans ((mm_sm_pa 88 eh3 (by decide) _).trans ((g39c.2 88 (by decide) _).trans (g2c.2 88 (by decide) _)))))) | exact mm_tm_s w326_5 eh7 (by omega) (fun _ => (mm_sm_pa 88 eh8 (by decide) _)) zv) (by omega)
                      refine mm_istoreL (ls2 := [mR 66, mI p1, mI p2, mI p3, mI x158_4, mI 0]) C (mm_dec dk_X12_team 183 rfl) (by decide) rfl ?_
                      refine mm_fgt 1 ?_
                      refine mm_fgt 2 ?_
                      refine mm_fgt 3 ?_
                      refine mm_fgt 4 ?_
                      exact J326 (((3 - 0) : Int) + 1).toNat 0 ⟨by omega, by omega⟩ h5 i5 f5 (by omega) (by omega) (by first | exact (mm_pa_off eh5 (by omega)).trans ((mm_pa_off eh4 (by omega)).trans (mm_pa_at eh3 (by omega))) | exact ((fun _ => ((mm_sm_pa 90 eh8 (by decide) _).trans (mm_sm_pa 90 eh7 (by decide) _))) _).trans w326_2) (by first | exact (mm_pa_off eh5 (by omega)).trans (mm_pa_at eh4 (by omega)) | exact ((fun _ => ((mm_sm_pa 90 eh8 (by decide) _).trans (mm_sm_pa 90 eh7 (by decide) _))) _).trans w326_3) (by first | exact mm_pa_at eh5 (by omega) | exact ((fun _ => ((mm_sm_pa 90 eh8 (by decide) _).trans (mm_sm_pa 90 eh7 (by decide) _))) _).trans w326_4) (by first | exact mm_tm_0 (fun _ => ((mm_sm_pa 88 eh5 (by decide) _).trans ((mm_sm_pa 88 eh4 (by decide) _).trans ((mm_sm_pa 88 eh3 (by decide) _).trans ((g39c.2 88 (by decide) _).trans (g2c.2 88 (by decide) _)))))) | exact mm_tm_s w326_5 eh7 (by omega) (fun _ => (mm_sm_pa 88 eh8 (by decide) _)) zv) (by omega)
                    · skip
                      refine mm_fgt 0 ?_
                      refine mm_fgt 1 ?_
                      refine mm_fgt 2 ?_
                      refine mm_fgt 3 ?_
                      refine mm_fgt 4 ?_
                      exact J281 (by omega)
                have zE : x158_5 < h.2.1 81 (h.2.1 85 p1) ∨ mm_ds (h.2.1 87 p1) (h.2.1 87 p2) (h.2.1 87 p3) (x158_5).toNat = mm_ds (h.2.1 87 p1) (h.2.1 87 p2) (h.2.1 87 p3) (h.2.1 81 (h.2.1 85 p1)).toNat := mm_ds_E (by omega) (by omega)
                refine mm_icmp_ge (tgt := 267) C (mm_dec dk_X12_team 98 rfl) (by decide) (fun c171 => ?_) (fun c171 => ?_)
                · skip
                  refine mm_fgt 5 ?_
                  exact J267 (by exact mm_gu_y (by omega))
                · skip
                  refine mm_iload C (mm_dec dk_X12_team 99 rfl) rfl ?_
                  refine mm_if_eq (tgt := 267) C (mm_dec dk_X12_team 100 rfl) (by decide) (fun c176 => ?_) (fun c176 => ?_)
                  · skip
                    refine mm_fgt 5 ?_
                    exact J267 (by exact mm_gu_y (by omega))
                  · skip
                    refine mm_aload_n C (mm_dec dk_X12_team 101 rfl) rfl ?_
                    refine mm_getr (t := 87) C fl_X12_72 (mm_dec dk_X12_team 102 rfl) rfl rfl (mm_ref i39c rfl) ?_
                    refine mm_iload_n C (mm_dec dk_X12_team 103 rfl) rfl ?_
                    refine mm_iald C (mm_dec dk_X12_team 104 rfl) rfl (by omega) (by omega) ?_
                    have g44 : 0 ≤ (h39c.2.1 87 p1) ∧ (h39c.2.1 87 p1) ≤ 80 := i39c.2.1 87 p1
                    refine mm_iload C (mm_dec dk_X12_team 105 rfl) rfl ?_
                    refine mm_cSi (rest := []) C1 es_X12_299 (mm_dec dk_X12_team 106 rfl) (c_X12_digit_q x.2.1 hl (d - 1) (by omega) h39c i39c (h39c.2.1 87 p1) x158_5 ⟨by omega, by omega⟩) rfl (Nat.le_of_ble_eq_true rfl) ⟨by decide, by decide⟩ rfl (fun r187 h187c hp187 => ?_) (fun _ _ q => q.elim)
                    obtain ⟨b187, z187, y187_0⟩ := hp187
                    rw [z187]
                    refine mm_aload_n C (mm_dec dk_X12_team 107 rfl) rfl ?_
                    refine mm_getr (t := 87) C fl_X12_72 (mm_dec dk_X12_team 108 rfl) rfl rfl (mm_ref i39c rfl) ?_
                    refine mm_iload_n C (mm_dec dk_X12_team 109 rfl) rfl ?_
                    refine mm_iald C (mm_dec dk_X12_team 110 rfl) rfl (by omega) (by omega) ?_
                    have g46 : 0 ≤ (h39c.2.1 87 p2) ∧ (h39c.2.1 87 p2) ≤ 80 := i39c.2.1 87 p2
                    refine mm_iload C (mm_dec dk_X12_team 111 rfl) rfl ?_
                    refine mm_cSi (rest := [mI r187]) C1 es_X12_299 (mm_dec dk_X12_team 112 rfl) (c_X12_digit_q x.2.1 hl (d - 1) (by omega) h39c i39c (h39c.2.1 87 p2) x158_5 ⟨by omega, by omega⟩) rfl (Nat.le_of_ble_eq_true rfl) ⟨by decide, by decide⟩ rfl (fun r198 h198c hp198 => ?_) (fun _ _ q => q.elim)
                    obtain ⟨b198, z198, y198_0⟩ := hp198
                    rw [z198]
                    have J259 : ∀ (s259_0 : Int) (bs259_0 : 0 ≤ s259_0 ∧ s259_0 ≤ 1) (w259_0 : ((s259_0 = 1 ∧ mm_ds (h.2.1 87 p1) (h.2.1 87 p2) (h.2.1 87 p3) (x158_5 + 1).toNat = 1) ∨ (s259_0 = 0 ∧ mm_ds (h.2.1 87 p1) (h.2.1 87 p2) (h.2.1 87 p3) (h.2.1 81 (h.2.1 85 p1)).toNat = 0))) (vs259_0 : (s259_0 = 0) ∨ (r187 ≠ r198 ∧ s259_0 = 1)), mm_W x 0 0 259 [mR 66, mI p1, mI p2, mI p3, mU, mI x158_5] [mI s259_0] h39c := by
                      intro s259_0 bs259_0 w259_0 vs259_0
                      refine mm_istoreL (ls2 := [mR 66, mI p1, mI p2, mI p3, mI s259_0, mI x158_5]) C (mm_dec dk_X12_team 143 rfl) (by decide) rfl ?_
                      refine mm_iincL (ls2 := [mR 66, mI p1, mI p2, mI p3, mI s259_0, mI (x158_5 + 1)]) C (mm_dec dk_X12_team 144 rfl) rfl (by decide) ⟨by omega, by omega⟩ rfl ?_
                      refine mm_goto (tgt := 158) C (mm_dec dk_X12_team 145 rfl) (by decide) ?_
                      exact ih158 s259_0 ⟨by omega, by omega⟩ (x158_5 + 1) ⟨by omega, by omega⟩ (by first | (have z0 : mm_ds (h.2.1 87 p1) (h.2.1 87 p2) (h.2.1 87 p3) (0 : Int).toNat = 1 := rfl; omega) | omega) (by omega) (by omega)
                    have J258 : ∀ (w258_0 : mm_ds (h.2.1 87 p1) (h.2.1 87 p2) (h.2.1 87 p3) (h.2.1 81 (h.2.1 85 p1)).toNat = 0), mm_W x 0 0 258 [mR 66, mI p1, mI p2, mI p3, mU, mI x158_5] [] h39c := by
                      intro w258_0
                      refine mm_iconst C (mm_dec dk_X12_team 142 rfl) ⟨by decide, by decide⟩ ?_
                      exact J259 0 ⟨by omega, by omega⟩ (by omega) (Or.inl rfl)
                    have e187 : r187 = mm_dv (h.2.1 87 p1) (x158_5).toNat % 3 := by rw [← v87_p1]; exact y187_0
                    have e198 : r198 = mm_dv (h.2.1 87 p2) (x158_5).toNat % 3 := by rw [← v87_p2]; exact y198_0
                    refine mm_icmp_eq (tgt := 258) C (mm_dec dk_X12_team 113 rfl) (by decide) (fun c201 => ?_) (fun c201 => ?_)
                    · skip
                      refine mm_fgt 4 ?_
                      exact J258 (by first | exact mm_ds_hit (i := x158_5) e187 e198 rfl (by omega) (by omega) (by omega) | exact mm_ds_hit (i := x158_5) rfl e212 e223 (by omega) (by omega) (by omega) | exact mm_ds_hit (i := x158_5) e237 rfl e248 (by omega) (by omega) (by omega))
                    · skip
                      refine mm_aload_n C (mm_dec dk_X12_team 114 rfl) rfl ?_
                      refine mm_getr (t := 87) C fl_X12_72 (mm_dec dk_X12_team 115 rfl) rfl rfl (mm_ref i39c rfl) ?_
                      refine mm_iload_n C (mm_dec dk_X12_team 116 rfl) rfl ?_
                      refine mm_iald C (mm_dec dk_X12_team 117 rfl) rfl (by omega) (by omega) ?_
                      refine mm_iload C (mm_dec dk_X12_team 118 rfl) rfl ?_
                      refine mm_cSi (rest := []) C1 es_X12_299 (mm_dec dk_X12_team 119 rfl) (c_X12_digit_q x.2.1 hl (d - 1) (by omega) h39c i39c (h39c.2.1 87 p2) x158_5 ⟨by omega, by omega⟩) rfl (Nat.le_of_ble_eq_true rfl) ⟨by decide, by decide⟩ rfl (fun r212 h212c hp212 => ?_) (fun _ _ q => q.elim)
                      obtain ⟨b212, z212, y212_0⟩ := hp212
                      rw [z212]
                      refine mm_aload_n C (mm_dec dk_X12_team 120 rfl) rfl ?_
                      refine mm_getr (t := 87) C fl_X12_72 (mm_dec dk_X12_team 121 rfl) rfl rfl (mm_ref i39c rfl) ?_
                      refine mm_iload_n C (mm_dec dk_X12_team 122 rfl) rfl ?_
                      refine mm_iald C (mm_dec dk_X12_team 123 rfl) rfl (by omega) (by omega) ?_
                      have g49 : 0 ≤ (h39c.2.1 87 p3) ∧ (h39c.2.1 87 p3) ≤ 80 := i39c.2.1 87 p3
                      refine mm_iload C (mm_dec dk_X12_team 124 rfl) rfl ?_
                      refine mm_cSi (rest := [mI r212]) C1 es_X12_299 (mm_dec dk_X12_team 125 rfl) (c_X12_digit_q x.2.1 hl (d - 1) (by omega) h39c i39c (h39c.2.1 87 p3) x158_5 ⟨by omega, by omega⟩) rfl (Nat.le_of_ble_eq_true rfl) ⟨by decide, by decide⟩ rfl (fun r223 h223c hp223 => ?_) (fun _ _ q => q.elim)
                      obtain ⟨b223, z223, y223_0⟩ := hp223
                      rw [z223]
                      have e212 : r212 = mm_dv (h.2.1 87 p2) (x158_5).toNat % 3 := by rw [← v87_p2]; exact y212_0
                      have e223 : r223 = mm_dv (h.2.1 87 p3) (x158_5).toNat % 3 := by rw [← v87_p3]; exact y223_0
                      refine mm_icmp_eq (tgt := 258) C (mm_dec dk_X12_team 126 rfl) (by decide) (fun c226 => ?_) (fun c226 => ?_)
                      · skip
                        refine mm_fgt 4 ?_
                        exact J258 (by first | exact mm_ds_hit (i := x158_5) e187 e198 rfl (by omega) (by omega) (by omega) | exact mm_ds_hit (i := x158_5) rfl e212 e223 (by omega) (by omega) (by omega) | exact mm_ds_hit (i := x158_5) e237 rfl e248 (by omega) (by omega) (by omega))
                      · skip
                        refine mm_aload_n C (mm_dec dk_X12_team 127 rfl) rfl ?_
                        refine mm_getr (t := 87) C fl_X12_72 (mm_dec dk_X12_team 128 rfl) rfl rfl (mm_ref i39c rfl) ?_
                        refine mm_iload_n C (mm_dec dk_X12_team 129 rfl) rfl ?_
                        refine mm_iald C (mm_dec dk_X12_team 130 rfl) rfl (by omega) (by omega) ?_
                        refine mm_iload C (mm_dec dk_X12_team 131 rfl) rfl ?_
                        refine mm_cSi (rest := []) C1 es_X12_299 (mm_dec dk_X12_team 132 rfl) (c_X12_digit_q x.2.1 hl (d - 1) (by omega) h39c i39c (h39c.2.1 87 p1) x158_5 ⟨by omega, by omega⟩) rfl (Nat.le_of_ble_eq_true rfl) ⟨by decide, by decide⟩ rfl (fun r237 h237c hp237 => ?_) (fun _ _ q => q.elim)
                        obtain ⟨b237, z237, y237_0⟩ := hp237
                        rw [z237]
                        refine mm_aload_n C (mm_dec dk_X12_team 133 rfl) rfl ?_
                        refine mm_getr (t := 87) C fl_X12_72 (mm_dec dk_X12_team 134 rfl) rfl rfl (mm_ref i39c rfl) ?_
                        refine mm_iload_n C (mm_dec dk_X12_team 135 rfl) rfl ?_
                        refine mm_iald C (mm_dec dk_X12_team 136 rfl) rfl (by omega) (by omega) ?_
                        refine mm_iload C (mm_dec dk_X12_team 137 rfl) rfl ?_
                        refine mm_cSi (rest := [mI r237]) C1 es_X12_299 (mm_dec dk_X12_team 138 rfl) (c_X12_digit_q x.2.1 hl (d - 1) (by omega) h39c i39c (h39c.2.1 87 p3) x158_5 ⟨by omega, by omega⟩) rfl (Nat.le_of_ble_eq_true rfl) ⟨by decide, by decide⟩ rfl (fun r248 h248c hp248 => ?_) (fun _ _ q => q.elim)
                        obtain ⟨b248, z248, y248_0⟩ := hp248
                        rw [z248]
                        have e237 : r237 = mm_dv (h.2.1 87 p1) (x158_5).toNat % 3 := by rw [← v87_p1]; exact y237_0
                        have e248 : r248 = mm_dv (h.2.1 87 p3) (x158_5).toNat % 3 := by rw [← v87_p3]; exact y248_0
                        refine mm_icmp_eq (tgt := 258) C (mm_dec dk_X12_team 139 rfl) (by decide) (fun c251 => ?_) (fun c251 => ?_)
                        · skip
                          refine mm_fgt 4 ?_
                          exact J258 (by first | exact mm_ds_hit (i := x158_5) e187 e198 rfl (by omega) (by omega) (by omega) | exact mm_ds_hit (i := x158_5) rfl e212 e223 (by omega) (by omega) (by omega) | exact mm_ds_hit (i := x158_5) e237 rfl e248 (by omega) (by omega) (by omega))
                        · skip
                          have zs : mm_ds (h.2.1 87 p1) (h.2.1 87 p2) (h.2.1 87 p3) (x158_5 + 1).toNat = 1 := mm_ds_step (by omega) e187 e198 e223 (by omega) (by omega) (by omega) (by omega)
                          refine mm_iconst C (mm_dec dk_X12_team 140 rfl) ⟨by decide, by decide⟩ ?_
                          refine mm_goto (tgt := 259) C (mm_dec dk_X12_team 141 rfl) (by decide) ?_
                          refine mm_fgt 4 ?_
                          exact J259 1 ⟨by omega, by omega⟩ (by omega) (Or.inr (⟨by omega, rfl⟩))
            refine mm_istoreL (ls2 := [mR 66, mI p1, mI p2, mI p3, mI s153_0, mI 0]) C (mm_dec dk_X12_team 89 rfl) (by decide) rfl ?_
            exact J158 (((2147483647 - 0) : Int) + 1).toNat s153_0 ⟨by omega, by omega⟩ 0 ⟨by omega, by omega⟩ (by first | (have z0 : mm_ds (h.2.1 87 p1) (h.2.1 87 p2) (h.2.1 87 p3) (0 : Int).toNat = 1 := rfl; omega) | omega) (by omega) (by omega)
          have J152 : ∀ (w152_0 : (mm_g1 h p1 p2 p3 ≠ 1 ∨ h.2.1 88 p1 ≠ -1 ∨ h.2.1 88 p2 ≠ -1 ∨ h.2.1 88 p3 ≠ -1)), mm_W x 0 0 152 [mR 66, mI p1, mI p2, mI p3, mU, mU] [] h39c := by
            intro w152_0
            refine mm_iconst C (mm_dec dk_X12_team 86 rfl) ⟨by decide, by decide⟩ ?_
            exact J153 0 ⟨by omega, by omega⟩ (by first | exact mm_g2_x (Or.inr ⟨rfl, w152_0⟩) | exact mm_g2_x (Or.inl ⟨rfl, by omega⟩)) (Or.inl rfl)
          refine mm_if_eq (tgt := 152) C (mm_dec dk_X12_team 65 rfl) (by decide) (fun c115 => ?_) (fun c115 => ?_)
          · skip
            refine mm_fgt 4 ?_
            exact J152 (by omega)
          · skip
            refine mm_aload_n C (mm_dec dk_X12_team 66 rfl) rfl ?_
            refine mm_getr (t := 88) C fl_X12_75 (mm_dec dk_X12_team 67 rfl) rfl rfl (mm_ref i39c rfl) ?_
            refine mm_iload_n C (mm_dec dk_X12_team 68 rfl) rfl ?_
            refine mm_iald C (mm_dec dk_X12_team 69 rfl) rfl (by omega) (by omega) ?_
            have g53 : -1 ≤ (h39c.2.1 88 p1) ∧ (h39c.2.1 88 p1) ≤ 9 := i39c.2.1 88 p1
            refine mm_iconst C (mm_dec dk_X12_team 70 rfl) ⟨by decide, by decide⟩ ?_
            refine mm_icmp_ne (tgt := 152) C (mm_dec dk_X12_team 71 rfl) (by decide) (fun c125 => ?_) (fun c125 => ?_)
            · skip
              refine mm_fgt 4 ?_
              exact J152 (by omega)
            · skip
              refine mm_aload_n C (mm_dec dk_X12_team 72 rfl) rfl ?_
              refine mm_getr (t := 88) C fl_X12_75 (mm_dec dk_X12_team 73 rfl) rfl rfl (mm_ref i39c rfl) ?_
              refine mm_iload_n C (mm_dec dk_X12_team 74 rfl) rfl ?_
              refine mm_iald C (mm_dec dk_X12_team 75 rfl) rfl (by omega) (by omega) ?_
              have g54 : -1 ≤ (h39c.2.1 88 p2) ∧ (h39c.2.1 88 p2) ≤ 9 := i39c.2.1 88 p2
              refine mm_iconst C (mm_dec dk_X12_team 76 rfl) ⟨by decide, by decide⟩ ?_
              refine mm_icmp_ne (tgt := 152) C (mm_dec dk_X12_team 77 rfl) (by decide) (fun c135 => ?_) (fun c135 => ?_)
              · skip
                refine mm_fgt 4 ?_
                exact J152 (by omega)
              · skip
                refine mm_aload_n C (mm_dec dk_X12_team 78 rfl) rfl ?_
                refine mm_getr (t := 88) C fl_X12_75 (mm_dec dk_X12_team 79 rfl) rfl rfl (mm_ref i39c rfl) ?_
                refine mm_iload_n C (mm_dec dk_X12_team 80 rfl) rfl ?_
                refine mm_iald C (mm_dec dk_X12_team 81 rfl) rfl (by omega) (by omega) ?_
                have g55 : -1 ≤ (h39c.2.1 88 p3) ∧ (h39c.2.1 88 p3) ≤ 9 := i39c.2.1 88 p3
                refine mm_iconst C (mm_dec dk_X12_team 82 rfl) ⟨by decide, by decide⟩ ?_
                refine mm_icmp_ne (tgt := 152) C (mm_dec dk_X12_team 83 rfl) (by decide) (fun c145 => ?_) (fun c145 => ?_)
                · skip
                  refine mm_fgt 4 ?_
                  exact J152 (by omega)
                · skip
                  refine mm_iconst C (mm_dec dk_X12_team 84 rfl) ⟨by decide, by decide⟩ ?_
                  refine mm_goto (tgt := 153) C (mm_dec dk_X12_team 85 rfl) (by decide) ?_
                  refine mm_fgt 4 ?_
                  exact J153 1 ⟨by omega, by omega⟩ (by first | exact mm_g2_x (Or.inr ⟨rfl, w152_0⟩) | exact mm_g2_x (Or.inl ⟨rfl, by omega⟩)) (Or.inr (⟨by omega, by omega, by omega, by omega, rfl⟩))
        have J110 : ∀ (w110_0 : (p1 = p2 ∨ p2 = p3 ∨ p1 = p3 ∨ h.2.1 85 p1 ≠ h.2.1 85 p2 ∨ h.2.1 85 p2 ≠ h.2.1 85 p3 ∨ h.2.1 83 (h.2.1 85 p1) ≠ 0)), mm_W x 0 0 110 [mR 66, mI p1, mI p2, mI p3, mU, mU] [] h39c := by
          intro w110_0
          refine mm_iconst C (mm_dec dk_X12_team 62 rfl) ⟨by decide, by decide⟩ ?_
          exact J111 0 ⟨by omega, by omega⟩ (by first | exact mm_g1_x (Or.inr ⟨rfl, w110_0⟩) | exact mm_g1_x (Or.inl ⟨rfl, by omega⟩)) (Or.inl rfl)
        refine mm_icmp_eq (tgt := 110) C (mm_dec dk_X12_team 27 rfl) (by decide) (fun c49 => ?_) (fun c49 => ?_)
        · skip
          exact J110 (by omega)
        · skip
          refine mm_iload_n C (mm_dec dk_X12_team 28 rfl) rfl ?_
          refine mm_iload_n C (mm_dec dk_X12_team 29 rfl) rfl ?_
          refine mm_icmp_eq (tgt := 110) C (mm_dec dk_X12_team 30 rfl) (by decide) (fun c54 => ?_) (fun c54 => ?_)
          · skip
            exact J110 (by omega)
          · skip
            refine mm_iload_n C (mm_dec dk_X12_team 31 rfl) rfl ?_
            refine mm_iload_n C (mm_dec dk_X12_team 32 rfl) rfl ?_
            refine mm_icmp_eq (tgt := 110) C (mm_dec dk_X12_team 33 rfl) (by decide) (fun c59 => ?_) (fun c59 => ?_)
            · skip
              exact J110 (by omega)
            · skip
              refine mm_aload_n C (mm_dec dk_X12_team 34 rfl) rfl ?_
              refine mm_getr (t := 85) C fl_X12_66 (mm_dec dk_X12_team 35 rfl) rfl rfl (mm_ref i39c rfl) ?_
              refine mm_iload_n C (mm_dec dk_X12_team 36 rfl) rfl ?_
              refine mm_iald C (mm_dec dk_X12_team 37 rfl) rfl (by omega) (by omega) ?_
              have g56 : 0 ≤ (h39c.2.1 85 p1) ∧ (h39c.2.1 85 p1) ≤ 7 := i39c.2.1 85 p1
              refine mm_aload_n C (mm_dec dk_X12_team 38 rfl) rfl ?_
              refine mm_getr (t := 85) C fl_X12_66 (mm_dec dk_X12_team 39 rfl) rfl rfl (mm_ref i39c rfl) ?_
              refine mm_iload_n C (mm_dec dk_X12_team 40 rfl) rfl ?_
              refine mm_iald C (mm_dec dk_X12_team 41 rfl) rfl (by omega) (by omega) ?_
              have g57 : 0 ≤ (h39c.2.1 85 p2) ∧ (h39c.2.1 85 p2) ≤ 7 := i39c.2.1 85 p2
              refine mm_icmp_ne (tgt := 110) C (mm_dec dk_X12_team 42 rfl) (by decide) (fun c74 => ?_) (fun c74 => ?_)
              · skip
                exact J110 (by omega)
              · skip
                refine mm_aload_n C (mm_dec dk_X12_team 43 rfl) rfl ?_
                refine mm_getr (t := 85) C fl_X12_66 (mm_dec dk_X12_team 44 rfl) rfl rfl (mm_ref i39c rfl) ?_
                refine mm_iload_n C (mm_dec dk_X12_team 45 rfl) rfl ?_
                refine mm_iald C (mm_dec dk_X12_team 46 rfl) rfl (by omega) (by omega) ?_
                refine mm_aload_n C (mm_dec dk_X12_team 47 rfl) rfl ?_
                refine mm_getr (t := 85) C fl_X12_66 (mm_dec dk_X12_team 48 rfl) rfl rfl (mm_ref i39c rfl) ?_
                refine mm_iload_n C (mm_dec dk_X12_team 49 rfl) rfl ?_
                refine mm_iald C (mm_dec dk_X12_team 50 rfl) rfl (by omega) (by omega) ?_
                have g58 : 0 ≤ (h39c.2.1 85 p3) ∧ (h39c.2.1 85 p3) ≤ 7 := i39c.2.1 85 p3
                refine mm_icmp_ne (tgt := 110) C (mm_dec dk_X12_team 51 rfl) (by decide) (fun c89 => ?_) (fun c89 => ?_)
                · skip
                  exact J110 (by omega)
                · skip
                  refine mm_aload_n C (mm_dec dk_X12_team 52 rfl) rfl ?_
                  refine mm_getr (t := 83) C fl_X12_60 (mm_dec dk_X12_team 53 rfl) rfl rfl (mm_ref i39c rfl) ?_
                  refine mm_aload_n C (mm_dec dk_X12_team 54 rfl) rfl ?_
                  refine mm_getr (t := 85) C fl_X12_66 (mm_dec dk_X12_team 55 rfl) rfl rfl (mm_ref i39c rfl) ?_
                  refine mm_iload_n C (mm_dec dk_X12_team 56 rfl) rfl ?_
                  refine mm_iald C (mm_dec dk_X12_team 57 rfl) rfl (by omega) (by omega) ?_
                  refine mm_zald C (mm_dec dk_X12_team 58 rfl) rfl (by omega) (by omega) ?_
                  have g59 : 0 ≤ (h39c.2.1 83 (h39c.2.1 85 p1)) ∧ (h39c.2.1 83 (h39c.2.1 85 p1)) ≤ 1 := i39c.2.1 83 (h39c.2.1 85 p1)
                  refine mm_if_ne (tgt := 110) C (mm_dec dk_X12_team 59 rfl) (by decide) (fun c103 => ?_) (fun c103 => ?_)
                  · skip
                    exact J110 (by omega)
                  · skip
                    refine mm_iconst C (mm_dec dk_X12_team 60 rfl) ⟨by decide, by decide⟩ ?_
                    refine mm_goto (tgt := 111) C (mm_dec dk_X12_team 61 rfl) (by decide) ?_
                    exact J111 1 ⟨by omega, by omega⟩ (by first | exact mm_g1_x (Or.inr ⟨rfl, w110_0⟩) | exact mm_g1_x (Or.inl ⟨rfl, by omega⟩)) (Or.inr (⟨by omega, by omega, by omega, by omega, by omega, by omega, rfl⟩))
      · skip
        refine mm_fgt 0 ?_
        refine mm_fgt 1 ?_
        refine mm_fgt 2 ?_
        refine mm_fgt 3 ?_
        exact J45 h39c i39c f39c (by omega) (by omega) (by omega) (by first | exact (fun _ => (g2c.2 88 (by decide) _)) | exact (fun _ => ((g39c.2 88 (by decide) _).trans (g2c.2 88 (by decide) _))))
    have J37 : ∀ (w37_0 : (p2 < 0 ∨ h.1 66 23 ≤ p2 ∨ p3 < 0 ∨ h.1 66 23 ≤ p3)), mm_W x 0 0 37 [mR 66, mI p1, mI p2, mI p3, mU, mU] [mR 66] h2c := by
      intro w37_0
      refine mm_iconst C (mm_dec dk_X12_team 19 rfl) ⟨by decide, by decide⟩ ?_
      exact J38 0 ⟨by omega, by omega⟩ (by omega) (Or.inl rfl)
    refine mm_if_lt (tgt := 37) C (mm_dec dk_X12_team 6 rfl) (by decide) (fun c10 => ?_) (fun c10 => ?_)
    · skip
      exact J37 (by omega)
    · skip
      refine mm_iload_n C (mm_dec dk_X12_team 7 rfl) rfl ?_
      refine mm_aload_n C (mm_dec dk_X12_team 8 rfl) rfl ?_
      refine mm_geti C fl_X12_222 (mm_dec dk_X12_team 9 rfl) rfl rfl (Or.inl rfl) ?_
      refine mm_icmp_ge (tgt := 37) C (mm_dec dk_X12_team 10 rfl) (by decide) (fun c18 => ?_) (fun c18 => ?_)
      · skip
        exact J37 (by omega)
      · skip
        refine mm_iload_n C (mm_dec dk_X12_team 11 rfl) rfl ?_
        refine mm_if_lt (tgt := 37) C (mm_dec dk_X12_team 12 rfl) (by decide) (fun c22 => ?_) (fun c22 => ?_)
        · skip
          exact J37 (by omega)
        · skip
          refine mm_iload_n C (mm_dec dk_X12_team 13 rfl) rfl ?_
          refine mm_aload_n C (mm_dec dk_X12_team 14 rfl) rfl ?_
          refine mm_geti C fl_X12_222 (mm_dec dk_X12_team 15 rfl) rfl rfl (Or.inl rfl) ?_
          refine mm_icmp_ge (tgt := 37) C (mm_dec dk_X12_team 16 rfl) (by decide) (fun c30 => ?_) (fun c30 => ?_)
          · skip
            exact J37 (by omega)
          · skip
            refine mm_iconst C (mm_dec dk_X12_team 17 rfl) ⟨by decide, by decide⟩ ?_
            refine mm_goto (tgt := 38) C (mm_dec dk_X12_team 18 rfl) (by decide) ?_
            exact J38 1 ⟨by omega, by omega⟩ (by omega) (Or.inr (⟨by omega, by omega, by omega, by omega, rfl⟩))
