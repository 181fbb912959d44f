theorem mm_if3 {A B D : Prop} [Decidable A] [Decidable B] [Decidable D] : (if (A ∧ B) ∧ D then (1 : Int) else 0) = if (if (if A then (1 : Int) else 0) = 1 ∧ B then (1 : Int) else 0) = 1 ∧ D then 1 else 0 := by
  by_cases a : A <;> by_cases b : B <;> by_cases d : D <;> simp [a, b, d]
def mm_g1 (h : mH) (p1 p2 p3 : Int) : Int := if (p1 ≠ p2 ∧ p2 ≠ p3 ∧ p1 ≠ p3 ∧ h.2.1 85 p1 = h.2.1 85 p2 ∧ h.2.1 85 p2 = h.2.1 85 p3 ∧ h.2.1 83 (h.2.1 85 p1) = 0) then 1 else 0
theorem mm_g1_x {h : mH} {p1 p2 p3 x : Int} (q : (x = 1 ∧ (p1 ≠ p2 ∧ p2 ≠ p3 ∧ p1 ≠ p3 ∧ h.2.1 85 p1 = h.2.1 85 p2 ∧ h.2.1 85 p2 = h.2.1 85 p3 ∧ h.2.1 83 (h.2.1 85 p1) = 0)) ∨ (x = 0 ∧ (p1 = p2 ∨ p2 = p3 ∨ p1 = p3 ∨ h.2.1 85 p1 ≠ h.2.1 85 p2 ∨ h.2.1 85 p2 ≠ h.2.1 85 p3 ∨ h.2.1 83 (h.2.1 85 p1) ≠ 0))) : x = mm_g1 h p1 p2 p3 := by
  unfold mm_g1
  rcases q with ⟨q1, q2⟩ | ⟨q1, q2⟩
  · rw [if_pos q2]; exact q1
  · rw [if_neg (fun w => by omega)]; exact q1
def mm_g2 (h : mH) (p1 p2 p3 : Int) : Int := if mm_g1 h p1 p2 p3 = 1 ∧ h.2.1 88 p1 = -1 ∧ h.2.1 88 p2 = -1 ∧ h.2.1 88 p3 = -1 then 1 else 0
theorem mm_g2_x {h : mH} {p1 p2 p3 x : Int} (q : (x = 1 ∧ (mm_g1 h p1 p2 p3 = 1 ∧ h.2.1 88 p1 = -1 ∧ h.2.1 88 p2 = -1 ∧ h.2.1 88 p3 = -1)) ∨ (x = 0 ∧ (mm_g1 h p1 p2 p3 ≠ 1 ∨ h.2.1 88 p1 ≠ -1 ∨ h.2.1 88 p2 ≠ -1 ∨ h.2.1 88 p3 ≠ -1))) : x = mm_g2 h p1 p2 p3 := by
  unfold mm_g2
  rcases q with ⟨q1, q2⟩ | ⟨q1, q2⟩
  · rw [if_pos q2]; exact q1
  · rw [if_neg (fun w => by omega)]; exact q1
theorem mm_g2_rg (h : mH) (p1 p2 p3 : Int) : 0 ≤ mm_g2 h p1 p2 p3 ∧ mm_g2 h p1 p2 p3 ≤ 1 := by
  unfold mm_g2
  split <;> omega
theorem mm_gu_y {h : mH} {p1 p2 p3 x : Int} (q : (x = 1 ∧ mm_g2 h p1 p2 p3 = 1 ∧ mm_ds (h.2.1 87 p1) (h.2.1 87 p2) (h.2.1 87 p3) (h.2.1 81 (h.2.1 85 p1)).toNat = 1) ∨ (x = 0 ∧ (mm_g2 h p1 p2 p3 = 0 ∨ mm_ds (h.2.1 87 p1) (h.2.1 87 p2) (h.2.1 87 p3) (h.2.1 81 (h.2.1 85 p1)).toNat = 0))) : x = mm_gu h p1 p2 p3 := by
  have e : mm_gu h p1 p2 p3 = if mm_g2 h p1 p2 p3 = 1 ∧ mm_ds (h.2.1 87 p1) (h.2.1 87 p2) (h.2.1 87 p3) (h.2.1 81 (h.2.1 85 p1)).toNat = 1 then 1 else 0 := by
    unfold mm_gu mm_g2 mm_g1
    exact mm_if3
  rw [e]
  rcases q with ⟨q1, q2⟩ | ⟨q1, q2⟩
  · rw [if_pos q2]; exact q1
  · rw [if_neg (fun w => by omega)]; exact q1

set_option maxRecDepth 100000 in
set_option maxHeartbeats 4000000 in
theorem c_X11_needRunner_q (l : Launch) (hl : l.stackTraces = false) (d : Nat) (hd : 8 ≤ d) (h : mH) (i0 : mm_inv h) (p1 : Int) : mm_Met l d yX11_needRunner cX11_needRunner 2 none [mR 0, mI p1] h (mm_pv fun h2 => h2 = h ∧ 0 ≤ p1 ∧ p1 < (h.1 22 8)) (fun E h' => mm_xn h E h' ∧ (p1 < 0 ∨ h.1 22 8 ≤ p1)) 1 6 := by
  refine mm_ofW (ls := [mR 0, mI p1]) hl (by decide) rfl (Nat.le_of_ble_eq_true rfl) ?_
  intro x hxl C T hnm htb
  subst hxl
  have C1 := mm_OK_le (d' := d - 1 + 1) (by omega) C
  have C8 := mm_OK_le (d' := d - 8 + 8) (by omega) C
  refine mm_rng (fun hr _ => ?_)
  have ap1 : -2147483648 ≤ p1 ∧ p1 < 2147483648 := mm_ok_at hr (i := 1) rfl
  have f0 : mm_fr [] [] h h := mm_fr_rf
  have g1 : 0 ≤ h.1 22 8 ∧ h.1 22 8 ≤ 40 := i0.1 22 8
  refine mm_iload_n C (mm_dec dk_X11_needRunner 0 rfl) rfl ?_
  refine mm_if_lt (tgt := 15) C (mm_dec dk_X11_needRunner 1 rfl) (by decide) (fun c1 => ?_) (fun c1 => ?_)
  · skip
    exact mm_throwXW C8 T htb th_nse (i := 6) rfl (mm_dec dk_X11_needRunner 7 rfl) (mm_dec dk_X11_needRunner 8 rfl) (mm_dec dk_X11_needRunner 9 rfl) (mm_dec dk_X11_needRunner 10 rfl) (mm_dec dk_X11_needRunner 11 rfl) (Nat.le_of_ble_eq_true rfl) ⟨by decide, by decide⟩ ⟨by decide, by decide⟩ (⟨⟨rfl, rfl⟩, by omega⟩)
  · skip
    refine mm_iload_n C (mm_dec dk_X11_needRunner 2 rfl) rfl ?_
    refine mm_aload_n C (mm_dec dk_X11_needRunner 3 rfl) rfl ?_
    refine mm_getr (t := 22) C fl_X11_37 (mm_dec dk_X11_needRunner 4 rfl) rfl rfl (mm_ref i0 rfl) ?_
    refine mm_cVi (rest := [mI p1]) C1 ev_X11_230 (mm_dec dk_X11_needRunner 5 rfl) (c_X9_size x.2.1 hl (d - 1) (by omega) h i0 ) rfl rfl (Nat.le_of_ble_eq_true rfl) ⟨by decide, by decide⟩ rfl (fun r9 h9c hp9 => ?_) (fun _ _ q => q.elim)
    obtain ⟨z9, y9⟩ := hp9
    rw [z9, y9]
    refine mm_icmp_lt (tgt := 26) C (mm_dec dk_X11_needRunner 6 rfl) (by decide) (fun c12 => ?_) (fun c12 => ?_)
    · skip
      exact mm_vret C T (mm_dec dk_X11_needRunner 12 rfl) (by decide : 0 ≤ 1) (by decide : 0 ≤ 6) ⟨rfl, ⟨rfl, by omega, by omega⟩⟩
    · skip
      exact mm_throwXW C8 T htb th_nse (i := 6) rfl (mm_dec dk_X11_needRunner 7 rfl) (mm_dec dk_X11_needRunner 8 rfl) (mm_dec dk_X11_needRunner 9 rfl) (mm_dec dk_X11_needRunner 10 rfl) (mm_dec dk_X11_needRunner 11 rfl) (Nat.le_of_ble_eq_true rfl) ⟨by decide, by decide⟩ ⟨by decide, by decide⟩ (⟨⟨rfl, rfl⟩, by omega⟩)
set_option maxRecDepth 100000 in
set_option maxHeartbeats 4000000 in
theorem c_X9_canBeTeam_q (l : Launch) (hl : l.stackTraces = false) (d : Nat) (hd : 2 ≤ d) (h : mH) (i0 : mm_inv h) (p1 : Int) (p2 : Int) (p3 : Int) (bp1 : 0 ≤ p1 ∧ p1 ≤ 39) (bp2 : 0 ≤ p2 ∧ p2 ≤ 39) (bp3 : 0 ≤ p3 ∧ p3 ≤ 39) : mm_Met l d yX9_canBeTeam cX9_canBeTeam 12 (some .boolean) [mR 22, mI p1, mI p2, mI p3] h (mm_pi fun r h2 => (0 ≤ r ∧ r ≤ 1) ∧ h2 = h ∧ r = mm_gt h p1 p2 p3) mm_nx 0 0 := by
  refine mm_ofW (ls := [mR 22, mI p1, mI p2, mI p3, mU, mU, mU, mU, mU, mU, mU, mU]) hl (by decide) rfl (Nat.le_of_ble_eq_true rfl) ?_
  intro x hxl C T hnm htb
  subst hxl
  have C1 := mm_OK_le (d' := d - 1 + 1) (by omega) C
  refine mm_rng (fun hr _ => ?_)
  have ap1 : -2147483648 ≤ p1 ∧ p1 < 2147483648 := mm_ok_at hr (i := 1) rfl
  have ap2 : -2147483648 ≤ p2 ∧ p2 < 2147483648 := mm_ok_at hr (i := 2) rfl
  have ap3 : -2147483648 ≤ p3 ∧ p3 < 2147483648 := mm_ok_at hr (i := 3) rfl
  have f0 : mm_fr [] [] h h := mm_fr_rf
  refine mm_iload_n C (mm_dec dk_X9_canBeTeam 0 rfl) rfl ?_
  refine mm_iload_n C (mm_dec dk_X9_canBeTeam 1 rfl) rfl ?_
  have J42 : ∀ (w42_0 : (p1 = p2 ∨ p2 = p3 ∨ p1 = p3 ∨ h.2.1 28 p1 ≠ 0 ∨ h.2.1 28 p2 ≠ 0 ∨ h.2.1 28 p3 ≠ 0 ∨ h.2.1 23 p1 ≠ h.2.1 23 p2 ∨ h.2.1 23 p2 ≠ h.2.1 23 p3 ∨ h.2.1 17 (h.2.1 23 p1) ≠ 0 ∨ mm_ds (h.2.1 25 p1) (h.2.1 25 p2) (h.2.1 25 p3) (h.2.1 20 (h.2.1 23 p1)).toNat = 0)), mm_W x 0 0 42 [mU, mU, mU, mU, mU, mU, mU, mU, mU, mU, mU, mU] [] h := by
    intro w42_0
    refine mm_iconst C (mm_dec dk_X9_canBeTeam 24 rfl) ⟨by decide, by decide⟩ ?_
    exact mm_zret C T (mm_dec dk_X9_canBeTeam 25 rfl) (by decide : 0 ≤ 0) (by decide : 0 ≤ 0) (by omega) ⟨_, rfl, ⟨⟨by omega, by omega⟩, rfl, by exact mm_gt_x (by omega)⟩⟩
  refine mm_icmp_eq (tgt := 42) C (mm_dec dk_X9_canBeTeam 2 rfl) (by decide) (fun c2 => ?_) (fun c2 => ?_)
  · skip
    refine mm_fgt 0 ?_
    refine mm_fgt 1 ?_
    refine mm_fgt 2 ?_
    refine mm_fgt 3 ?_
    exact J42 (by omega)
  · skip
    refine mm_iload_n C (mm_dec dk_X9_canBeTeam 3 rfl) rfl ?_
    refine mm_iload_n C (mm_dec dk_X9_canBeTeam 4 rfl) rfl ?_
    refine mm_icmp_eq (tgt := 42) C (mm_dec dk_X9_canBeTeam 5 rfl) (by decide) (fun c7 => ?_) (fun c7 => ?_)
    · skip
      refine mm_fgt 0 ?_
      refine mm_fgt 1 ?_
      refine mm_fgt 2 ?_
      refine mm_fgt 3 ?_
      exact J42 (by omega)
    · skip
      refine mm_iload_n C (mm_dec dk_X9_canBeTeam 6 rfl) rfl ?_
      refine mm_iload_n C (mm_dec dk_X9_canBeTeam 7 rfl) rfl ?_
      refine mm_icmp_eq (tgt := 42) C (mm_dec dk_X9_canBeTeam 8 rfl) (by decide) (fun c12 => ?_) (fun c12 => ?_)
      · skip
        refine mm_fgt 0 ?_
        refine mm_fgt 1 ?_
        refine mm_fgt 2 ?_
        refine mm_fgt 3 ?_
        exact J42 (by omega)
      · skip
        refine mm_aload_n C (mm_dec dk_X9_canBeTeam 9 rfl) rfl ?_
        refine mm_getr (t := 28) C fl_X9_27 (mm_dec dk_X9_canBeTeam 10 rfl) rfl rfl (mm_ref i0 rfl) ?_
        refine mm_iload_n C (mm_dec dk_X9_canBeTeam 11 rfl) rfl ?_
        refine mm_zald C (mm_dec dk_X9_canBeTeam 12 rfl) rfl (by omega) (by omega) ?_
        have g1 : 0 ≤ (h.2.1 28 p1) ∧ (h.2.1 28 p1) ≤ 1 := i0.2.1 28 p1
        refine mm_if_ne (tgt := 42) C (mm_dec dk_X9_canBeTeam 13 rfl) (by decide) (fun c21 => ?_) (fun c21 => ?_)
        · skip
          refine mm_fgt 0 ?_
          refine mm_fgt 1 ?_
          refine mm_fgt 2 ?_
          refine mm_fgt 3 ?_
          exact J42 (by omega)
        · skip
          refine mm_aload_n C (mm_dec dk_X9_canBeTeam 14 rfl) rfl ?_
          refine mm_getr (t := 28) C fl_X9_27 (mm_dec dk_X9_canBeTeam 15 rfl) rfl rfl (mm_ref i0 rfl) ?_
          refine mm_iload_n C (mm_dec dk_X9_canBeTeam 16 rfl) rfl ?_
          refine mm_zald C (mm_dec dk_X9_canBeTeam 17 rfl) rfl (by omega) (by omega) ?_
          have g2 : 0 ≤ (h.2.1 28 p2) ∧ (h.2.1 28 p2) ≤ 1 := i0.2.1 28 p2
          refine mm_if_ne (tgt := 42) C (mm_dec dk_X9_canBeTeam 18 rfl) (by decide) (fun c30 => ?_) (fun c30 => ?_)
          · skip
            refine mm_fgt 0 ?_
            refine mm_fgt 1 ?_
            refine mm_fgt 2 ?_
            refine mm_fgt 3 ?_
            exact J42 (by omega)
          · skip
            refine mm_aload_n C (mm_dec dk_X9_canBeTeam 19 rfl) rfl ?_
            refine mm_getr (t := 28) C fl_X9_27 (mm_dec dk_X9_canBeTeam 20 rfl) rfl rfl (mm_ref i0 rfl) ?_
            refine mm_iload_n C (mm_dec dk_X9_canBeTeam 21 rfl) rfl ?_
            refine mm_zald C (mm_dec dk_X9_canBeTeam 22 rfl) rfl (by omega) (by omega) ?_
            have g3 : 0 ≤ (h.2.1 28 p3) ∧ (h.2.1 28 p3) ≤ 1 := i0.2.1 28 p3
            refine mm_if_eq (tgt := 44) C (mm_dec dk_X9_canBeTeam 23 rfl) (by decide) (fun c39 => ?_) (fun c39 => ?_)
            · skip
              refine mm_aload_n C (mm_dec dk_X9_canBeTeam 26 rfl) rfl ?_
              refine mm_getr (t := 23) C fl_X9_9 (mm_dec dk_X9_canBeTeam 27 rfl) rfl rfl (mm_ref i0 rfl) ?_
              refine mm_iload_n C (mm_dec dk_X9_canBeTeam 28 rfl) rfl ?_
              refine mm_iald C (mm_dec dk_X9_canBeTeam 29 rfl) rfl (by omega) (by omega) ?_
              have g4 : 0 ≤ (h.2.1 23 p1) ∧ (h.2.1 23 p1) ≤ 7 := i0.2.1 23 p1
              refine mm_aload_n C (mm_dec dk_X9_canBeTeam 30 rfl) rfl ?_
              refine mm_getr (t := 23) C fl_X9_9 (mm_dec dk_X9_canBeTeam 31 rfl) rfl rfl (mm_ref i0 rfl) ?_
              refine mm_iload_n C (mm_dec dk_X9_canBeTeam 32 rfl) rfl ?_
              refine mm_iald C (mm_dec dk_X9_canBeTeam 33 rfl) rfl (by omega) (by omega) ?_
              have g5 : 0 ≤ (h.2.1 23 p2) ∧ (h.2.1 23 p2) ≤ 7 := i0.2.1 23 p2
              have J82 : ∀ (w82_0 : (p1 = p2 ∨ p2 = p3 ∨ p1 = p3 ∨ h.2.1 28 p1 ≠ 0 ∨ h.2.1 28 p2 ≠ 0 ∨ h.2.1 28 p3 ≠ 0 ∨ h.2.1 23 p1 ≠ h.2.1 23 p2 ∨ h.2.1 23 p2 ≠ h.2.1 23 p3 ∨ h.2.1 17 (h.2.1 23 p1) ≠ 0 ∨ mm_ds (h.2.1 25 p1) (h.2.1 25 p2) (h.2.1 25 p3) (h.2.1 20 (h.2.1 23 p1)).toNat = 0)), mm_W x 0 0 82 [mU, mU, mU, mU, mU, mU, mU, mU, mU, mU, mU, mU] [] h := by
                intro w82_0
                refine mm_iconst C (mm_dec dk_X9_canBeTeam 48 rfl) ⟨by decide, by decide⟩ ?_
                exact mm_zret C T (mm_dec dk_X9_canBeTeam 49 rfl) (by decide : 0 ≤ 0) (by decide : 0 ≤ 0) (by omega) ⟨_, rfl, ⟨⟨by omega, by omega⟩, rfl, by exact mm_gt_x (by omega)⟩⟩
              refine mm_icmp_ne (tgt := 82) C (mm_dec dk_X9_canBeTeam 34 rfl) (by decide) (fun c56 => ?_) (fun c56 => ?_)
              · skip
                refine mm_fgt 0 ?_
                refine mm_fgt 1 ?_
                refine mm_fgt 2 ?_
                refine mm_fgt 3 ?_
                exact J82 (by omega)
              · skip
                refine mm_aload_n C (mm_dec dk_X9_canBeTeam 35 rfl) rfl ?_
                refine mm_getr (t := 23) C fl_X9_9 (mm_dec dk_X9_canBeTeam 36 rfl) rfl rfl (mm_ref i0 rfl) ?_
                refine mm_iload_n C (mm_dec dk_X9_canBeTeam 37 rfl) rfl ?_
                refine mm_iald C (mm_dec dk_X9_canBeTeam 38 rfl) rfl (by omega) (by omega) ?_
                refine mm_aload_n C (mm_dec dk_X9_canBeTeam 39 rfl) rfl ?_
                refine mm_getr (t := 23) C fl_X9_9 (mm_dec dk_X9_canBeTeam 40 rfl) rfl rfl (mm_ref i0 rfl) ?_
                refine mm_iload_n C (mm_dec dk_X9_canBeTeam 41 rfl) rfl ?_
                refine mm_iald C (mm_dec dk_X9_canBeTeam 42 rfl) rfl (by omega) (by omega) ?_
                have g6 : 0 ≤ (h.2.1 23 p3) ∧ (h.2.1 23 p3) ≤ 7 := i0.2.1 23 p3
                refine mm_icmp_ne (tgt := 82) C (mm_dec dk_X9_canBeTeam 43 rfl) (by decide) (fun c71 => ?_) (fun c71 => ?_)
                · skip
                  refine mm_fgt 0 ?_
                  refine mm_fgt 1 ?_
                  refine mm_fgt 2 ?_
                  refine mm_fgt 3 ?_
                  exact J82 (by omega)
                · skip
                  refine mm_aload_n C (mm_dec dk_X9_canBeTeam 44 rfl) rfl ?_
                  refine mm_iload_n C (mm_dec dk_X9_canBeTeam 45 rfl) rfl ?_
                  refine mm_cVi (rest := []) C1 ev_X9_67 (mm_dec dk_X9_canBeTeam 46 rfl) (c_X9_runsFree x.2.1 hl (d - 1) (by omega) h i0 p1 ⟨by omega, by omega⟩) rfl rfl (Nat.le_of_ble_eq_true rfl) ⟨by decide, by decide⟩ rfl (fun r76 h76c hp76 => ?_) (fun _ _ q => q.elim)
                  obtain ⟨z76, y76⟩ := hp76
                  rw [z76, y76]
                  have g8 : 0 ≤ (h.2.1 17 (h.2.1 23 p1)) ∧ (h.2.1 17 (h.2.1 23 p1)) ≤ 1 := i0.2.1 17 (h.2.1 23 p1)
                  refine mm_if_eq (tgt := 84) C (mm_dec dk_X9_canBeTeam 47 rfl) (by decide) (fun c79 => ?_) (fun c79 => ?_)
                  · skip
                    refine mm_aload_n C (mm_dec dk_X9_canBeTeam 50 rfl) rfl ?_
                    refine mm_getr (t := 25) C fl_X9_18 (mm_dec dk_X9_canBeTeam 51 rfl) rfl rfl (mm_ref i0 rfl) ?_
                    refine mm_iload_n C (mm_dec dk_X9_canBeTeam 52 rfl) rfl ?_
                    refine mm_iald C (mm_dec dk_X9_canBeTeam 53 rfl) rfl (by omega) (by omega) ?_
                    have g9 : 0 ≤ (h.2.1 25 p1) ∧ (h.2.1 25 p1) ≤ 80 := i0.2.1 25 p1
                    refine mm_istoreL (ls2 := [mR 22, mI p1, mI p2, mI p3, mI (h.2.1 25 p1), mU, mU, mU, mU, mU, mU, mU]) C (mm_dec dk_X9_canBeTeam 54 rfl) (by decide) rfl ?_
                    refine mm_aload_n C (mm_dec dk_X9_canBeTeam 55 rfl) rfl ?_
                    refine mm_getr (t := 25) C fl_X9_18 (mm_dec dk_X9_canBeTeam 56 rfl) rfl rfl (mm_ref i0 rfl) ?_
                    refine mm_iload_n C (mm_dec dk_X9_canBeTeam 57 rfl) rfl ?_
                    refine mm_iald C (mm_dec dk_X9_canBeTeam 58 rfl) rfl (by omega) (by omega) ?_
                    have g10 : 0 ≤ (h.2.1 25 p2) ∧ (h.2.1 25 p2) ≤ 80 := i0.2.1 25 p2
                    refine mm_istoreL (ls2 := [mR 22, mI p1, mI p2, mI p3, mI (h.2.1 25 p1), mI (h.2.1 25 p2), mU, mU, mU, mU, mU, mU]) C (mm_dec dk_X9_canBeTeam 59 rfl) (by decide) rfl ?_
                    refine mm_aload_n C (mm_dec dk_X9_canBeTeam 60 rfl) rfl ?_
                    refine mm_getr (t := 25) C fl_X9_18 (mm_dec dk_X9_canBeTeam 61 rfl) rfl rfl (mm_ref i0 rfl) ?_
                    refine mm_iload_n C (mm_dec dk_X9_canBeTeam 62 rfl) rfl ?_
                    refine mm_iald C (mm_dec dk_X9_canBeTeam 63 rfl) rfl (by omega) (by omega) ?_
                    have g11 : 0 ≤ (h.2.1 25 p3) ∧ (h.2.1 25 p3) ≤ 80 := i0.2.1 25 p3
                    refine mm_istoreL (ls2 := [mR 22, mI p1, mI p2, mI p3, mI (h.2.1 25 p1), mI (h.2.1 25 p2), mI (h.2.1 25 p3), mU, mU, mU, mU, mU]) C (mm_dec dk_X9_canBeTeam 64 rfl) (by decide) rfl ?_
                    refine mm_aload_n C (mm_dec dk_X9_canBeTeam 65 rfl) rfl ?_
                    refine mm_getr (t := 14) C fl_X9_41 (mm_dec dk_X9_canBeTeam 66 rfl) rfl rfl (mm_ref i0 rfl) ?_
                    refine mm_aload_n C (mm_dec dk_X9_canBeTeam 67 rfl) rfl ?_
                    refine mm_getr (t := 23) C fl_X9_9 (mm_dec dk_X9_canBeTeam 68 rfl) rfl rfl (mm_ref i0 rfl) ?_
                    refine mm_iload_n C (mm_dec dk_X9_canBeTeam 69 rfl) rfl ?_
                    refine mm_iald C (mm_dec dk_X9_canBeTeam 70 rfl) rfl (by omega) (by omega) ?_
                    refine mm_cVi (rest := []) C1 ev_X9_70 (mm_dec dk_X9_canBeTeam 71 rfl) (c_X2_forks x.2.1 hl (d - 1) (by omega) h i0 (h.2.1 23 p1) ⟨by omega, by omega⟩) rfl rfl (Nat.le_of_ble_eq_true rfl) ⟨by decide, by decide⟩ rfl (fun r118 h118c hp118 => ?_) (fun _ _ q => q.elim)
                    obtain ⟨z118, y118⟩ := hp118
                    rw [z118, y118]
                    have g13 : -2147483648 ≤ (h.2.1 20 (h.2.1 23 p1)) ∧ (h.2.1 20 (h.2.1 23 p1)) ≤ 2147483647 := i0.2.1 20 (h.2.1 23 p1)
                    refine mm_istoreL (ls2 := [mR 22, mI p1, mI p2, mI p3, mI (h.2.1 25 p1), mI (h.2.1 25 p2), mI (h.2.1 25 p3), mI (h.2.1 20 (h.2.1 23 p1)), mU, mU, mU, mU]) C (mm_dec dk_X9_canBeTeam 72 rfl) (by decide) rfl ?_
                    refine mm_iconst C (mm_dec dk_X9_canBeTeam 73 rfl) ⟨by decide, by decide⟩ ?_
                    have J126 : ∀ (n : Nat) (x126_4 : Int) (bx126_4 : 0 ≤ x126_4 ∧ x126_4 ≤ 80) (x126_5 : Int) (bx126_5 : 0 ≤ x126_5 ∧ x126_5 ≤ 80) (x126_6 : Int) (bx126_6 : 0 ≤ x126_6 ∧ x126_6 ≤ 80) (x126_8 : Int) (bx126_8 : 0 ≤ x126_8 ∧ x126_8 ≤ 2147483647) (w126_0 : x126_4 = mm_dv (h.2.1 25 p1) (x126_8).toNat) (w126_1 : x126_5 = mm_dv (h.2.1 25 p2) (x126_8).toNat) (w126_2 : x126_6 = mm_dv (h.2.1 25 p3) (x126_8).toNat) (w126_3 : mm_ds (h.2.1 25 p1) (h.2.1 25 p2) (h.2.1 25 p3) (x126_8).toNat = 1) (w126_4 : (x126_8 = 0 ∨ x126_8 ≤ (h.2.1 20 (h.2.1 23 p1)))), (2147483647 - x126_8 : Int) < n → mm_W x 0 0 126 [mU, mU, mU, mU, mI x126_4, mI x126_5, mI x126_6, mI (h.2.1 20 (h.2.1 23 p1)), mI x126_8, mU, mU, mU] [] h := by
                      intro n
                      induction n with
                      | zero =>
                        intro x126_4 bx126_4 x126_5 bx126_5 x126_6 bx126_6 x126_8 bx126_8 w126_0 w126_1 w126_2 w126_3 w126_4 hm
                        exfalso; omega
                      | succ n ih126 =>
                        intro x126_4 bx126_4 x126_5 bx126_5 x126_6 bx126_6 x126_8 bx126_8 w126_0 w126_1 w126_2 w126_3 w126_4 hm126
                        refine mm_iload C (mm_dec dk_X9_canBeTeam 75 rfl) rfl ?_
                        refine mm_iload C (mm_dec dk_X9_canBeTeam 76 rfl) rfl ?_
                        refine mm_icmp_ge (tgt := 198) C (mm_dec dk_X9_canBeTeam 77 rfl) (by decide) (fun c130 => ?_) (fun c130 => ?_)
                        · skip
                          have ze : mm_ds (h.2.1 25 p1) (h.2.1 25 p2) (h.2.1 25 p3) (h.2.1 20 (h.2.1 23 p1)).toNat = 1 := mm_ds_end w126_3 (by omega)
                          refine mm_iconst C (mm_dec dk_X9_canBeTeam 115 rfl) ⟨by decide, by decide⟩ ?_
                          exact mm_zret C T (mm_dec dk_X9_canBeTeam 116 rfl) (by decide : 0 ≤ 0) (by decide : 0 ≤ 0) (by omega) ⟨_, rfl, ⟨⟨by omega, by omega⟩, rfl, by exact mm_gt_x (by omega)⟩⟩
                        · skip
                          refine mm_iload C (mm_dec dk_X9_canBeTeam 78 rfl) rfl ?_
                          refine mm_iconst C (mm_dec dk_X9_canBeTeam 79 rfl) ⟨by decide, by decide⟩ ?_
                          refine mm_irem C (mm_dec dk_X9_canBeTeam 80 rfl) (by omega) (by omega) ?_
                          refine mm_istoreL (ls2 := [mU, mU, mU, mU, mI x126_4, mI x126_5, mI x126_6, mI (h.2.1 20 (h.2.1 23 p1)), mI x126_8, mI (x126_4 % 3), mU, mU]) C (mm_dec dk_X9_canBeTeam 81 rfl) (by decide) rfl ?_
                          refine mm_iload C (mm_dec dk_X9_canBeTeam 82 rfl) rfl ?_
                          refine mm_iconst C (mm_dec dk_X9_canBeTeam 83 rfl) ⟨by decide, by decide⟩ ?_
                          refine mm_irem C (mm_dec dk_X9_canBeTeam 84 rfl) (by omega) (by omega) ?_
                          refine mm_istoreL (ls2 := [mU, mU, mU, mU, mI x126_4, mI x126_5, mI x126_6, mI (h.2.1 20 (h.2.1 23 p1)), mI x126_8, mI (x126_4 % 3), mI (x126_5 % 3), mU]) C (mm_dec dk_X9_canBeTeam 85 rfl) (by decide) rfl ?_
                          refine mm_iload C (mm_dec dk_X9_canBeTeam 86 rfl) rfl ?_
                          refine mm_iconst C (mm_dec dk_X9_canBeTeam 87 rfl) ⟨by decide, by decide⟩ ?_
                          refine mm_irem C (mm_dec dk_X9_canBeTeam 88 rfl) (by omega) (by omega) ?_
                          refine mm_istoreL (ls2 := [mU, mU, mU, mU, mI x126_4, mI x126_5, mI x126_6, mI (h.2.1 20 (h.2.1 23 p1)), mI x126_8, mI (x126_4 % 3), mI (x126_5 % 3), mI (x126_6 % 3)]) C (mm_dec dk_X9_canBeTeam 89 rfl) (by decide) rfl ?_
                          refine mm_iload C (mm_dec dk_X9_canBeTeam 90 rfl) rfl ?_
                          refine mm_iload C (mm_dec dk_X9_canBeTeam 91 rfl) rfl ?_
                          have J172 : ∀ (w172_0 : mm_ds (h.2.1 25 p1) (h.2.1 25 p2) (h.2.1 25 p3) (h.2.1 20 (h.2.1 23 p1)).toNat = 0), mm_W x 0 0 172 [mU, mU, mU, mU, mU, mU, mU, mU, mU, mU, mU, mU] [] h := by
                            intro w172_0
                            refine mm_iconst C (mm_dec dk_X9_canBeTeam 99 rfl) ⟨by decide, by decide⟩ ?_
                            exact mm_zret C T (mm_dec dk_X9_canBeTeam 100 rfl) (by decide : 0 ≤ 0) (by decide : 0 ≤ 0) (by omega) ⟨_, rfl, ⟨⟨by omega, by omega⟩, rfl, by exact mm_gt_x (by omega)⟩⟩
                          refine mm_icmp_eq (tgt := 172) C (mm_dec dk_X9_canBeTeam 92 rfl) (by decide) (fun c155 => ?_) (fun c155 => ?_)
                          · skip
                            refine mm_fgt 4 ?_
                            refine mm_fgt 5 ?_
                            refine mm_fgt 6 ?_
                            refine mm_fgt 7 ?_
                            refine mm_fgt 8 ?_
                            refine mm_fgt 9 ?_
                            refine mm_fgt 10 ?_
                            refine mm_fgt 11 ?_
                            exact J172 (by exact mm_ds_hit (congrArg (· % 3) w126_0) (congrArg (· % 3) w126_1) (congrArg (· % 3) w126_2) (by omega) (by omega) (by omega))
                          · skip
                            refine mm_iload C (mm_dec dk_X9_canBeTeam 93 rfl) rfl ?_
                            refine mm_iload C (mm_dec dk_X9_canBeTeam 94 rfl) rfl ?_
                            refine mm_icmp_eq (tgt := 172) C (mm_dec dk_X9_canBeTeam 95 rfl) (by decide) (fun c162 => ?_) (fun c162 => ?_)
                            · skip
                              refine mm_fgt 4 ?_
                              refine mm_fgt 5 ?_
                              refine mm_fgt 6 ?_
                              refine mm_fgt 7 ?_
                              refine mm_fgt 8 ?_
                              refine mm_fgt 9 ?_
                              refine mm_fgt 10 ?_
                              refine mm_fgt 11 ?_
                              exact J172 (by exact mm_ds_hit (congrArg (· % 3) w126_0) (congrArg (· % 3) w126_1) (congrArg (· % 3) w126_2) (by omega) (by omega) (by omega))
                            · skip
                              refine mm_iload C (mm_dec dk_X9_canBeTeam 96 rfl) rfl ?_
                              refine mm_iload C (mm_dec dk_X9_canBeTeam 97 rfl) rfl ?_
                              refine mm_icmp_ne (tgt := 174) C (mm_dec dk_X9_canBeTeam 98 rfl) (by decide) (fun c169 => ?_) (fun c169 => ?_)
                              · skip
                                refine mm_iload C (mm_dec dk_X9_canBeTeam 101 rfl) rfl ?_
                                refine mm_iconst C (mm_dec dk_X9_canBeTeam 102 rfl) ⟨by decide, by decide⟩ ?_
                                refine mm_idiv C (mm_dec dk_X9_canBeTeam 103 rfl) ⟨by omega, by omega⟩ (by omega) ?_
                                refine mm_istoreL (ls2 := [mU, mU, mU, mU, mI (x126_4 / 3), mI x126_5, mI x126_6, mI (h.2.1 20 (h.2.1 23 p1)), mI x126_8, mI (x126_4 % 3), mI (x126_5 % 3), mI (x126_6 % 3)]) C (mm_dec dk_X9_canBeTeam 104 rfl) (by decide) rfl ?_
                                refine mm_iload C (mm_dec dk_X9_canBeTeam 105 rfl) rfl ?_
                                refine mm_iconst C (mm_dec dk_X9_canBeTeam 106 rfl) ⟨by decide, by decide⟩ ?_
                                refine mm_idiv C (mm_dec dk_X9_canBeTeam 107 rfl) ⟨by omega, by omega⟩ (by omega) ?_
                                refine mm_istoreL (ls2 := [mU, mU, mU, mU, mI (x126_4 / 3), mI (x126_5 / 3), mI x126_6, mI (h.2.1 20 (h.2.1 23 p1)), mI x126_8, mI (x126_4 % 3), mI (x126_5 % 3), mI (x126_6 % 3)]) C (mm_dec dk_X9_canBeTeam 108 rfl) (by decide) rfl ?_
                                refine mm_iload C (mm_dec dk_X9_canBeTeam 109 rfl) rfl ?_
                                refine mm_iconst C (mm_dec dk_X9_canBeTeam 110 rfl) ⟨by decide, by decide⟩ ?_
                                refine mm_idiv C (mm_dec dk_X9_canBeTeam 111 rfl) ⟨by omega, by omega⟩ (by omega) ?_
                                refine mm_istoreL (ls2 := [mU, mU, mU, mU, mI (x126_4 / 3), mI (x126_5 / 3), mI (x126_6 / 3), mI (h.2.1 20 (h.2.1 23 p1)), mI x126_8, mI (x126_4 % 3), mI (x126_5 % 3), mI (x126_6 % 3)]) C (mm_dec dk_X9_canBeTeam 112 rfl) (by decide) rfl ?_
                                refine mm_iincL (ls2 := [mU, mU, mU, mU, mI (x126_4 / 3), mI (x126_5 / 3), mI (x126_6 / 3), mI (h.2.1 20 (h.2.1 23 p1)), mI (x126_8 + 1), mI (x126_4 % 3), mI (x126_5 % 3), mI (x126_6 % 3)]) C (mm_dec dk_X9_canBeTeam 113 rfl) rfl (by decide) ⟨by omega, by omega⟩ rfl ?_
                                refine mm_goto (tgt := 126) C (mm_dec dk_X9_canBeTeam 114 rfl) (by decide) ?_
                                refine mm_fgt 9 ?_
                                refine mm_fgt 10 ?_
                                refine mm_fgt 11 ?_
                                exact ih126 (x126_4 / 3) ⟨by omega, by omega⟩ (x126_5 / 3) ⟨by omega, by omega⟩ (x126_6 / 3) ⟨by omega, by omega⟩ (x126_8 + 1) ⟨by omega, by omega⟩ (by first | rfl | exact mm_dv_step w126_0 (by omega)) (by first | rfl | exact mm_dv_step w126_1 (by omega)) (by first | rfl | exact mm_dv_step w126_2 (by omega)) (by first | rfl | exact mm_ds_step w126_3 (congrArg (· % 3) w126_0) (congrArg (· % 3) w126_1) (congrArg (· % 3) w126_2) (by omega) (by omega) (by omega) (by omega)) (by omega) (by omega)
                              · skip
                                refine mm_fgt 4 ?_
                                refine mm_fgt 5 ?_
                                refine mm_fgt 6 ?_
                                refine mm_fgt 7 ?_
                                refine mm_fgt 8 ?_
                                refine mm_fgt 9 ?_
                                refine mm_fgt 10 ?_
                                refine mm_fgt 11 ?_
                                exact J172 (by exact mm_ds_hit (congrArg (· % 3) w126_0) (congrArg (· % 3) w126_1) (congrArg (· % 3) w126_2) (by omega) (by omega) (by omega))
                    refine mm_istoreL (ls2 := [mR 22, mI p1, mI p2, mI p3, mI (h.2.1 25 p1), mI (h.2.1 25 p2), mI (h.2.1 25 p3), mI (h.2.1 20 (h.2.1 23 p1)), mI 0, mU, mU, mU]) C (mm_dec dk_X9_canBeTeam 74 rfl) (by decide) rfl ?_
                    refine mm_fgt 0 ?_
                    refine mm_fgt 1 ?_
                    refine mm_fgt 2 ?_
                    refine mm_fgt 3 ?_
                    exact J126 (((2147483647 - 0) : Int) + 1).toNat (h.2.1 25 p1) ⟨by omega, by omega⟩ (h.2.1 25 p2) ⟨by omega, by omega⟩ (h.2.1 25 p3) ⟨by omega, by omega⟩ 0 ⟨by omega, by omega⟩ (by first | rfl | exact mm_dv_step w126_0 (by omega)) (by first | rfl | exact mm_dv_step w126_1 (by omega)) (by first | rfl | exact mm_dv_step w126_2 (by omega)) (by first | rfl | exact mm_ds_step w126_3 (congrArg (· % 3) w126_0) (congrArg (· % 3) w126_1) (congrArg (· % 3) w126_2) (by omega) (by omega) (by omega) (by omega)) (by omega) (by omega)
                  · skip
                    refine mm_fgt 0 ?_
                    refine mm_fgt 1 ?_
                    refine mm_fgt 2 ?_
                    refine mm_fgt 3 ?_
                    exact J82 (by omega)
            · skip
              refine mm_fgt 0 ?_
              refine mm_fgt 1 ?_
              refine mm_fgt 2 ?_
              refine mm_fgt 3 ?_
              exact J42 (by omega)
set_option maxRecDepth 100000 in
set_option maxHeartbeats 4000000 in
theorem c_X9_join_q (l : Launch) (hl : l.stackTraces = false) (d : Nat) (hd : 0 ≤ d) (h : mH) (i0 : mm_inv h) (p1 : Int) (p2 : Int) (p3 : Int) (bp1 : 0 ≤ p1 ∧ p1 ≤ 39) (bp2 : 0 ≤ p2 ∧ p2 ≤ 39) (bp3 : 0 ≤ p3 ∧ p3 ≤ 39) (u0 : (h.1 22 9) ≤ 9) : mm_Met l d yX9_join cX9_join 4 (some .int) [mR 22, mI p1, mI p2, mI p3] h (mm_pi fun r h2 => (0 ≤ r ∧ r ≤ 9) ∧ mm_inv h2 ∧ mm_fr [(22, 9)] [27, 28, 29] h h2 ∧ h2.1 22 9 = h.1 22 9 + 1 ∧ r = h.1 22 9 ∧ mm_u3 h h2 28 p1 p2 p3 1 1 ∧ mm_ua h h2 p1 p2 p3 1 ∧ mm_ud h h2 p1 p2 p3 (h.1 22 9) 1) mm_nx 0 0 := by
  refine mm_ofW (ls := [mR 22, mI p1, mI p2, mI p3]) hl (by decide) rfl (Nat.le_of_ble_eq_true rfl) ?_
  intro x hxl C T hnm htb
  subst hxl
  refine mm_rng (fun hr _ => ?_)
  have ap1 : -2147483648 ≤ p1 ∧ p1 < 2147483648 := mm_ok_at hr (i := 1) rfl
  have ap2 : -2147483648 ≤ p2 ∧ p2 < 2147483648 := mm_ok_at hr (i := 2) rfl
  have ap3 : -2147483648 ≤ p3 ∧ p3 < 2147483648 := mm_ok_at hr (i := 3) rfl
  have f0 : mm_fr [(22, 9)] [27, 28, 29] h h := mm_fr_rf
  have g1 : 0 ≤ h.1 22 9 ∧ h.1 22 9 ≤ 10 := i0.1 22 9
  refine mm_aload_n C (mm_dec dk_X9_join 0 rfl) rfl ?_
  refine mm_getr (t := 29) C fl_X9_31 (mm_dec dk_X9_join 1 rfl) rfl rfl (mm_ref i0 rfl) ?_
  refine mm_aload_n C (mm_dec dk_X9_join 2 rfl) rfl ?_
  refine mm_geti C fl_X9_38 (mm_dec dk_X9_join 3 rfl) rfl rfl (Or.inl rfl) ?_
  refine mm_iconst C (mm_dec dk_X9_join 4 rfl) ⟨by decide, by decide⟩ ?_
  refine mm_imul C (mm_dec dk_X9_join 5 rfl) ⟨by omega, by omega⟩ ?_
  refine mm_iload_n C (mm_dec dk_X9_join 6 rfl) rfl ?_
  refine mm_iast C (mm_dec dk_X9_join 7 rfl) rfl (by omega) (by omega) ?_
  have i1 : mm_inv (mm_pa h 29 ((h.1 22 9) * 3) p1) := mm_inv_pa i0 (show 0 ≤ p1 ∧ p1 ≤ 39 from ⟨by omega, by omega⟩)
  have f1 : mm_fr [(22, 9)] [27, 28, 29] h (mm_pa h 29 ((h.1 22 9) * 3) p1) := mm_fr_pa f0 (by decide)
  obtain ⟨h1, eh1⟩ : ∃ z, z = mm_pa h 29 ((h.1 22 9) * 3) p1 := ⟨_, rfl⟩
  rw [← eh1] at i1 f1 ⊢
  have qh1_2 : h1.1 22 9 = h.1 22 9 := by rw [eh1]; rfl
  refine mm_aload_n C (mm_dec dk_X9_join 8 rfl) rfl ?_
  refine mm_getr (t := 29) C fl_X9_31 (mm_dec dk_X9_join 9 rfl) rfl rfl (mm_ref i1 rfl) ?_
  refine mm_aload_n C (mm_dec dk_X9_join 10 rfl) rfl ?_
  refine mm_geti C fl_X9_38 (mm_dec dk_X9_join 11 rfl) rfl rfl (Or.inl rfl) ?_
  refine mm_iconst C (mm_dec dk_X9_join 12 rfl) ⟨by decide, by decide⟩ ?_
  refine mm_imul C (mm_dec dk_X9_join 13 rfl) ⟨by omega, by omega⟩ ?_
  refine mm_iconst C (mm_dec dk_X9_join 14 rfl) ⟨by decide, by decide⟩ ?_
  refine mm_iadd C (mm_dec dk_X9_join 15 rfl) ⟨by omega, by omega⟩ ?_
  refine mm_iload_n C (mm_dec dk_X9_join 16 rfl) rfl ?_
  refine mm_iast C (mm_dec dk_X9_join 17 rfl) rfl (by omega) (by omega) ?_
  have i2 : mm_inv (mm_pa h1 29 (((h1.1 22 9) * 3) + 1) p2) := mm_inv_pa i1 (show 0 ≤ p2 ∧ p2 ≤ 39 from ⟨by omega, by omega⟩)
  have f2 : mm_fr [(22, 9)] [27, 28, 29] h (mm_pa h1 29 (((h1.1 22 9) * 3) + 1) p2) := mm_fr_pa f1 (by decide)
  obtain ⟨h2, eh2⟩ : ∃ z, z = mm_pa h1 29 (((h1.1 22 9) * 3) + 1) p2 := ⟨_, rfl⟩
  rw [← eh2] at i2 f2 ⊢
  have qh2_3 : h2.1 22 9 = h1.1 22 9 := by rw [eh2]; rfl
  refine mm_aload_n C (mm_dec dk_X9_join 18 rfl) rfl ?_
  refine mm_getr (t := 29) C fl_X9_31 (mm_dec dk_X9_join 19 rfl) rfl rfl (mm_ref i2 rfl) ?_
  refine mm_aload_n C (mm_dec dk_X9_join 20 rfl) rfl ?_
  refine mm_geti C fl_X9_38 (mm_dec dk_X9_join 21 rfl) rfl rfl (Or.inl rfl) ?_
  refine mm_iconst C (mm_dec dk_X9_join 22 rfl) ⟨by decide, by decide⟩ ?_
  refine mm_imul C (mm_dec dk_X9_join 23 rfl) ⟨by omega, by omega⟩ ?_
  refine mm_iconst C (mm_dec dk_X9_join 24 rfl) ⟨by decide, by decide⟩ ?_
  refine mm_iadd C (mm_dec dk_X9_join 25 rfl) ⟨by omega, by omega⟩ ?_
  refine mm_iload_n C (mm_dec dk_X9_join 26 rfl) rfl ?_
  refine mm_iast C (mm_dec dk_X9_join 27 rfl) rfl (by omega) (by omega) ?_
  have i3 : mm_inv (mm_pa h2 29 (((h2.1 22 9) * 3) + 2) p3) := mm_inv_pa i2 (show 0 ≤ p3 ∧ p3 ≤ 39 from ⟨by omega, by omega⟩)
  have f3 : mm_fr [(22, 9)] [27, 28, 29] h (mm_pa h2 29 (((h2.1 22 9) * 3) + 2) p3) := mm_fr_pa f2 (by decide)
  obtain ⟨h3, eh3⟩ : ∃ z, z = mm_pa h2 29 (((h2.1 22 9) * 3) + 2) p3 := ⟨_, rfl⟩
  rw [← eh3] at i3 f3 ⊢
  have qh3_4 : h3.1 22 9 = h2.1 22 9 := by rw [eh3]; rfl
  refine mm_aload_n C (mm_dec dk_X9_join 28 rfl) rfl ?_
  refine mm_getr (t := 28) C fl_X9_27 (mm_dec dk_X9_join 29 rfl) rfl rfl (mm_ref i3 rfl) ?_
  refine mm_iload_n C (mm_dec dk_X9_join 30 rfl) rfl ?_
  refine mm_iconst C (mm_dec dk_X9_join 31 rfl) ⟨by decide, by decide⟩ ?_
  refine mm_zast C (mm_dec dk_X9_join 32 rfl) rfl (by omega) (by omega) (by omega) ?_
  have i4 : mm_inv (mm_pa h3 28 p1 1) := mm_inv_pa i3 (show 0 ≤ 1 ∧ 1 ≤ 1 from ⟨by omega, by omega⟩)
  have f4 : mm_fr [(22, 9)] [27, 28, 29] h (mm_pa h3 28 p1 1) := mm_fr_pa f3 (by decide)
  obtain ⟨h4, eh4⟩ : ∃ z, z = mm_pa h3 28 p1 1 := ⟨_, rfl⟩
  rw [← eh4] at i4 f4 ⊢
  have qh4_5 : h4.1 22 9 = h3.1 22 9 := by rw [eh4]; rfl
  refine mm_aload_n C (mm_dec dk_X9_join 33 rfl) rfl ?_
  refine mm_getr (t := 28) C fl_X9_27 (mm_dec dk_X9_join 34 rfl) rfl rfl (mm_ref i4 rfl) ?_
  refine mm_iload_n C (mm_dec dk_X9_join 35 rfl) rfl ?_
  refine mm_iconst C (mm_dec dk_X9_join 36 rfl) ⟨by decide, by decide⟩ ?_
  refine mm_zast C (mm_dec dk_X9_join 37 rfl) rfl (by omega) (by omega) (by omega) ?_
  have i5 : mm_inv (mm_pa h4 28 p2 1) := mm_inv_pa i4 (show 0 ≤ 1 ∧ 1 ≤ 1 from ⟨by omega, by omega⟩)
  have f5 : mm_fr [(22, 9)] [27, 28, 29] h (mm_pa h4 28 p2 1) := mm_fr_pa f4 (by decide)
  obtain ⟨h5, eh5⟩ : ∃ z, z = mm_pa h4 28 p2 1 := ⟨_, rfl⟩
  rw [← eh5] at i5 f5 ⊢
  have qh5_6 : h5.1 22 9 = h4.1 22 9 := by rw [eh5]; rfl
  refine mm_aload_n C (mm_dec dk_X9_join 38 rfl) rfl ?_
  refine mm_getr (t := 28) C fl_X9_27 (mm_dec dk_X9_join 39 rfl) rfl rfl (mm_ref i5 rfl) ?_
  refine mm_iload_n C (mm_dec dk_X9_join 40 rfl) rfl ?_
  refine mm_iconst C (mm_dec dk_X9_join 41 rfl) ⟨by decide, by decide⟩ ?_
  refine mm_zast C (mm_dec dk_X9_join 42 rfl) rfl (by omega) (by omega) (by omega) ?_
  have i6 : mm_inv (mm_pa h5 28 p3 1) := mm_inv_pa i5 (show 0 ≤ 1 ∧ 1 ≤ 1 from ⟨by omega, by omega⟩)
  have f6 : mm_fr [(22, 9)] [27, 28, 29] h (mm_pa h5 28 p3 1) := mm_fr_pa f5 (by decide)
  obtain ⟨h6, eh6⟩ : ∃ z, z = mm_pa h5 28 p3 1 := ⟨_, rfl⟩
  rw [← eh6] at i6 f6 ⊢
  have qh6_7 : h6.1 22 9 = h5.1 22 9 := by rw [eh6]; rfl
  refine mm_aload_n C (mm_dec dk_X9_join 43 rfl) rfl ?_
  refine mm_getr (t := 27) C fl_X9_24 (mm_dec dk_X9_join 44 rfl) rfl rfl (mm_ref i6 rfl) ?_
  refine mm_iload_n C (mm_dec dk_X9_join 45 rfl) rfl ?_
  refine mm_iload_n C (mm_dec dk_X9_join 46 rfl) rfl ?_
  refine mm_iast C (mm_dec dk_X9_join 47 rfl) rfl (by omega) (by omega) ?_
  have i7 : mm_inv (mm_pa h6 27 p2 p1) := mm_inv_pa i6 (show -1 ≤ p1 ∧ p1 ≤ 39 from ⟨by omega, by omega⟩)
  have f7 : mm_fr [(22, 9)] [27, 28, 29] h (mm_pa h6 27 p2 p1) := mm_fr_pa f6 (by decide)
  obtain ⟨h7, eh7⟩ : ∃ z, z = mm_pa h6 27 p2 p1 := ⟨_, rfl⟩
  rw [← eh7] at i7 f7 ⊢
  have qh7_8 : h7.1 22 9 = h6.1 22 9 := by rw [eh7]; rfl
  refine mm_aload_n C (mm_dec dk_X9_join 48 rfl) rfl ?_
  refine mm_getr (t := 27) C fl_X9_24 (mm_dec dk_X9_join 49 rfl) rfl rfl (mm_ref i7 rfl) ?_
  refine mm_iload_n C (mm_dec dk_X9_join 50 rfl) rfl ?_
  refine mm_iload_n C (mm_dec dk_X9_join 51 rfl) rfl ?_
  refine mm_iast C (mm_dec dk_X9_join 52 rfl) rfl (by omega) (by omega) ?_
  have i8 : mm_inv (mm_pa h7 27 p3 p2) := mm_inv_pa i7 (show -1 ≤ p2 ∧ p2 ≤ 39 from ⟨by omega, by omega⟩)
  have f8 : mm_fr [(22, 9)] [27, 28, 29] h (mm_pa h7 27 p3 p2) := mm_fr_pa f7 (by decide)
  obtain ⟨h8, eh8⟩ : ∃ z, z = mm_pa h7 27 p3 p2 := ⟨_, rfl⟩
  rw [← eh8] at i8 f8 ⊢
  have qh8_9 : h8.1 22 9 = h7.1 22 9 := by rw [eh8]; rfl
  refine mm_aload_n C (mm_dec dk_X9_join 53 rfl) rfl ?_
  refine mm_dup C (mm_dec dk_X9_join 54 rfl) (show (2 : Nat) ≠ 1 by decide) ?_
  refine mm_geti C fl_X9_38 (mm_dec dk_X9_join 55 rfl) rfl rfl (Or.inl rfl) ?_
  refine mm_iconst C (mm_dec dk_X9_join 56 rfl) ⟨by decide, by decide⟩ ?_
  refine mm_iadd C (mm_dec dk_X9_join 57 rfl) ⟨by omega, by omega⟩ ?_
  refine mm_puti C fl_X9_38 (mm_dec dk_X9_join 58 rfl) rfl rfl rfl (Or.inl ⟨rfl, rfl⟩) ?_
  have i9 : mm_inv (mm_pf h8 22 9 ((h8.1 22 9) + 1)) := mm_inv_pf i8 (show 0 ≤ ((h8.1 22 9) + 1) ∧ ((h8.1 22 9) + 1) ≤ 10 from ⟨by omega, by omega⟩) (by decide)
  have f9 : mm_fr [(22, 9)] [27, 28, 29] h (mm_pf h8 22 9 ((h8.1 22 9) + 1)) := mm_fr_pf f8 (by decide)
  obtain ⟨h9, eh9⟩ : ∃ z, z = mm_pf h8 22 9 ((h8.1 22 9) + 1) := ⟨_, rfl⟩
  rw [← eh9] at i9 f9 ⊢
  have qh9 : h9.1 22 9 = ((h8.1 22 9) + 1) := by rw [eh9]; exact mm_pf_same _ _ _ _
  refine mm_aload_n C (mm_dec dk_X9_join 59 rfl) rfl ?_
  refine mm_geti C fl_X9_38 (mm_dec dk_X9_join 60 rfl) rfl rfl (Or.inl rfl) ?_
  refine mm_iconst C (mm_dec dk_X9_join 61 rfl) ⟨by decide, by decide⟩ ?_
  refine mm_isub C (mm_dec dk_X9_join 62 rfl) ⟨by omega, by omega⟩ ?_
  exact mm_iret C T (mm_dec dk_X9_join 63 rfl) (by decide : 0 ≤ 0) (by decide : 0 ≤ 0) ⟨_, rfl, ⟨⟨by omega, by omega⟩, i9, f9, by omega, by omega, by exact mm_u3_up (h1 := h4) (h2 := h5) (mm_up_pav (fun _ => ((mm_sm_pa 28 eh3 (by decide) _).trans ((mm_sm_pa 28 eh2 (by decide) _).trans (mm_sm_pa 28 eh1 (by decide) _)))) eh4 (fun _ => rfl) (by omega) (by omega) rfl) (mm_up_pav (fun _ => rfl) eh5 (fun _ => rfl) (by omega) (by omega) rfl) (mm_up_pav (fun _ => rfl) eh6 (fun _ => ((mm_sm_pf 28 eh9 _).trans ((mm_sm_pa 28 eh8 (by decide) _).trans (mm_sm_pa 28 eh7 (by decide) _)))) (by omega) (by omega) rfl), by exact mm_ua_pa (fun _ => ((mm_sm_pa 27 eh6 (by decide) _).trans ((mm_sm_pa 27 eh5 (by decide) _).trans ((mm_sm_pa 27 eh4 (by decide) _).trans ((mm_sm_pa 27 eh3 (by decide) _).trans ((mm_sm_pa 27 eh2 (by decide) _).trans (mm_sm_pa 27 eh1 (by decide) _))))))) eh7 eh8 (fun _ => (mm_sm_pf 27 eh9 _)), by exact mm_ud_pa (fun _ => rfl) eh1 eh2 eh3 (by omega) (by omega) (by omega) (fun _ => ((mm_sm_pf 29 eh9 _).trans ((mm_sm_pa 29 eh8 (by decide) _).trans ((mm_sm_pa 29 eh7 (by decide) _).trans ((mm_sm_pa 29 eh6 (by decide) _).trans ((mm_sm_pa 29 eh5 (by decide) _).trans (mm_sm_pa 29 eh4 (by decide) _)))))))⟩⟩
set_option maxRecDepth 100000 in
set_option maxHeartbeats 4000000 in
theorem c_X11_team_q (l : Launch) (hl : l.stackTraces = false) (d : Nat) (hd : 9 ≤ d) (h : mH) (i0 : mm_inv h) (p1 : Int) (p2 : Int) (p3 : Int) : mm_Met l d yX11_team cX11_team 4 (some .int) [mR 0, mI p1, mI p2, mI p3] h (mm_pi fun r h2 => (-1 ≤ r ∧ r ≤ 9) ∧ mm_inv h2 ∧ mm_fr [(22, 9)] [27, 28, 29] h h2 ∧ (0 ≤ p1 ∧ p1 < h.1 22 8 ∧ 0 ≤ p2 ∧ p2 < h.1 22 8 ∧ 0 ≤ p3 ∧ p3 < h.1 22 8) ∧ ((r = h.1 22 9 ∧ h.1 22 9 ≤ 9 ∧ mm_gt h p1 p2 p3 = 1 ∧ h2.1 22 9 = h.1 22 9 + 1) ∨ (r = -1 ∧ (10 ≤ h.1 22 9 ∨ mm_gt h p1 p2 p3 = 0) ∧ h2.1 22 9 = h.1 22 9)) ∧ (∃ f : Int, ((f = 1 ∧ h2.1 22 9 = h.1 22 9 + 1) ∨ (f = 0 ∧ h2.1 22 9 = h.1 22 9)) ∧ mm_u3 h h2 28 p1 p2 p3 1 f ∧ mm_ua h h2 p1 p2 p3 f ∧ mm_ud h h2 p1 p2 p3 (h.1 22 9) f)) (fun E h' => mm_xn h E h' ∧ (p1 < 0 ∨ h.1 22 8 ≤ p1 ∨ p2 < 0 ∨ h.1 22 8 ≤ p2 ∨ p3 < 0 ∨ h.1 22 8 ≤ p3)) 3 18 := by
  refine mm_ofW (ls := [mR 0, mI p1, mI p2, mI p3]) hl (by decide) rfl (Nat.le_of_ble_eq_true rfl) ?_
  intro x hxl C T hnm htb
  subst hxl
  have C1 := mm_OK_le (d' := d - 1 + 1) (by omega) C
  have C8 := mm_OK_le (d' := d - 8 + 8) (by omega) C
  refine mm_rng (fun hr _ => ?_)
  have ap1 : -2147483648 ≤ p1 ∧ p1 < 2147483648 := mm_ok_at hr (i := 1) rfl
  have ap2 : -2147483648 ≤ p2 ∧ p2 < 2147483648 := mm_ok_at hr (i := 2) rfl
  have ap3 : -2147483648 ≤ p3 ∧ p3 < 2147483648 := mm_ok_at hr (i := 3) rfl
  have f0 : mm_fr [(22, 9)] [27, 28, 29] h h := mm_fr_rf
  have g1 : 0 ≤ h.1 22 8 ∧ h.1 22 8 ≤ 40 := i0.1 22 8
  have g2 : 0 ≤ h.1 22 9 ∧ h.1 22 9 ≤ 10 := i0.1 22 9
  refine mm_aload_n C (mm_dec dk_X11_team 0 rfl) rfl ?_
  refine mm_iload_n C (mm_dec dk_X11_team 1 rfl) rfl ?_
  refine mm_cVv (rest := []) C1 ev_X11_235 (mm_dec dk_X11_team 2 rfl) (c_X11_needRunner_q x.2.1 hl (d - 1) (by omega) h i0 p1) rfl rfl (Nat.le_of_ble_eq_true rfl) ⟨by decide, by decide⟩ rfl (fun h2c hp2 => ?_) (fun E hx q => mm_out C T htb (by decide) (by decide) (by obtain ⟨q1, q2⟩ := q; exact ⟨q1, by omega⟩))
  obtain ⟨z2, k2_0, k2_1⟩ := hp2
  rw [z2]
  refine mm_aload_n C (mm_dec dk_X11_team 3 rfl) rfl ?_
  refine mm_iload_n C (mm_dec dk_X11_team 4 rfl) rfl ?_
  refine mm_cVv (rest := []) C1 ev_X11_235 (mm_dec dk_X11_team 5 rfl) (c_X11_needRunner_q x.2.1 hl (d - 1) (by omega) h i0 p2) rfl rfl (Nat.le_of_ble_eq_true rfl) ⟨by decide, by decide⟩ rfl (fun h7c hp7 => ?_) (fun E hx q => mm_out C T htb (by decide) (by decide) (by obtain ⟨q1, q2⟩ := q; exact ⟨q1, by omega⟩))
  obtain ⟨z7, k7_0, k7_1⟩ := hp7
  rw [z7]
  refine mm_aload_n C (mm_dec dk_X11_team 6 rfl) rfl ?_
  refine mm_iload_n C (mm_dec dk_X11_team 7 rfl) rfl ?_
  refine mm_cVv (rest := []) C1 ev_X11_235 (mm_dec dk_X11_team 8 rfl) (c_X11_needRunner_q x.2.1 hl (d - 1) (by omega) h i0 p3) rfl rfl (Nat.le_of_ble_eq_true rfl) ⟨by decide, by decide⟩ rfl (fun h12c hp12 => ?_) (fun E hx q => mm_out C T htb (by decide) (by decide) (by obtain ⟨q1, q2⟩ := q; exact ⟨q1, by omega⟩))
  obtain ⟨z12, k12_0, k12_1⟩ := hp12
  rw [z12]
  refine mm_aload_n C (mm_dec dk_X11_team 9 rfl) rfl ?_
  refine mm_getr (t := 22) C fl_X11_37 (mm_dec dk_X11_team 10 rfl) rfl rfl (mm_ref i0 rfl) ?_
  refine mm_cVi (rest := []) C1 ev_X11_251 (mm_dec dk_X11_team 11 rfl) (c_X9_teams x.2.1 hl (d - 1) (by omega) h i0 ) rfl rfl (Nat.le_of_ble_eq_true rfl) ⟨by decide, by decide⟩ rfl (fun r19 h19c hp19 => ?_) (fun _ _ q => q.elim)
  obtain ⟨z19, y19⟩ := hp19
  rw [z19, y19]
  refine mm_bipush C (mm_dec dk_X11_team 12 rfl) ⟨by decide, by decide⟩ ?_
  have J40 : ∀ (w40_0 : (0 ≤ p1 ∧ p1 < h.1 22 8 ∧ 0 ≤ p2 ∧ p2 < h.1 22 8 ∧ 0 ≤ p3 ∧ p3 < h.1 22 8)) (w40_1 : (10 ≤ h.1 22 9 ∨ mm_gt h p1 p2 p3 = 0)), mm_W x 3 18 40 [mU, mU, mU, mU] [] h := by
    intro w40_0 w40_1
    have g7 : 0 ≤ h.1 22 8 ∧ h.1 22 8 ≤ 40 := i0.1 22 8
    have g8 : 0 ≤ h.1 22 9 ∧ h.1 22 9 ≤ 10 := i0.1 22 9
    refine mm_iconst C (mm_dec dk_X11_team 21 rfl) ⟨by decide, by decide⟩ ?_
    exact mm_iret C T (mm_dec dk_X11_team 22 rfl) (by decide : 3 ≤ 3) (by decide : 18 ≤ 18) ⟨_, rfl, ⟨⟨by omega, by omega⟩, i0, f0, by omega, by omega, by first | exact ⟨0, Or.inr ⟨rfl, rfl⟩, mm_u3_no (by decide) (fun _ => rfl), mm_ua_no (by decide) (fun _ => rfl), mm_ud_no (by decide) (fun _ => rfl)⟩ | exact ⟨1, Or.inl ⟨rfl, by omega⟩, y49_2, y49_3, y49_4⟩⟩⟩
  refine mm_icmp_ge (tgt := 40) C (mm_dec dk_X11_team 13 rfl) (by decide) (fun c24 => ?_) (fun c24 => ?_)
  · skip
    refine mm_fgt 0 ?_
    refine mm_fgt 1 ?_
    refine mm_fgt 2 ?_
    refine mm_fgt 3 ?_
    exact J40 (by omega) (by omega)
  · skip
    refine mm_aload_n C (mm_dec dk_X11_team 14 rfl) rfl ?_
    refine mm_getr (t := 22) C fl_X11_37 (mm_dec dk_X11_team 15 rfl) rfl rfl (mm_ref i0 rfl) ?_
    refine mm_iload_n C (mm_dec dk_X11_team 16 rfl) rfl ?_
    refine mm_iload_n C (mm_dec dk_X11_team 17 rfl) rfl ?_
    refine mm_iload_n C (mm_dec dk_X11_team 18 rfl) rfl ?_
    refine mm_cVi (rest := []) C1 ev_X11_254 (mm_dec dk_X11_team 19 rfl) (c_X9_canBeTeam_q x.2.1 hl (d - 1) (by omega) h i0 p1 p2 p3 ⟨by omega, by omega⟩ ⟨by omega, by omega⟩ ⟨by omega, by omega⟩) rfl rfl (Nat.le_of_ble_eq_true rfl) ⟨by decide, by decide⟩ rfl (fun r34 h34c hp34 => ?_) (fun _ _ q => q.elim)
    obtain ⟨b34, z34, y34_0⟩ := hp34
    rw [z34]
    refine mm_if_ne (tgt := 42) C (mm_dec dk_X11_team 20 rfl) (by decide) (fun c37 => ?_) (fun c37 => ?_)
    · skip
      refine mm_aload_n C (mm_dec dk_X11_team 23 rfl) rfl ?_
      refine mm_getr (t := 22) C fl_X11_37 (mm_dec dk_X11_team 24 rfl) rfl rfl (mm_ref i0 rfl) ?_
      refine mm_iload_n C (mm_dec dk_X11_team 25 rfl) rfl ?_
      refine mm_iload_n C (mm_dec dk_X11_team 26 rfl) rfl ?_
      refine mm_iload_n C (mm_dec dk_X11_team 27 rfl) rfl ?_
      refine mm_cVi (rest := []) C1 ev_X11_257 (mm_dec dk_X11_team 28 rfl) (c_X9_join_q x.2.1 hl (d - 1) (by omega) h i0 p1 p2 p3 ⟨by omega, by omega⟩ ⟨by omega, by omega⟩ ⟨by omega, by omega⟩ (by omega)) rfl rfl (Nat.le_of_ble_eq_true rfl) ⟨by decide, by decide⟩ rfl (fun r49 h49c hp49 => ?_) (fun _ _ q => q.elim)
      obtain ⟨b49, i49c, g49c, y49_0, y49_1, y49_2, y49_3, y49_4⟩ := hp49
      have f49c : mm_fr [(22, 9)] [27, 28, 29] h h49c := mm_fr_tr f0 g49c (by decide +kernel)
      have q49c_11 : h49c.1 22 8 = h.1 22 8 := g49c.1 22 8 (by decide)
      have g12 : 0 ≤ (h49c.1 22 9) ∧ (h49c.1 22 9) ≤ 10 := i49c.1 22 9
      exact mm_iret C T (mm_dec dk_X11_team 29 rfl) (by decide : 3 ≤ 3) (by decide : 18 ≤ 18) ⟨_, rfl, ⟨⟨by omega, by omega⟩, i49c, f49c, by omega, by omega, by first | exact ⟨0, Or.inr ⟨rfl, rfl⟩, mm_u3_no (by decide) (fun _ => rfl), mm_ua_no (by decide) (fun _ => rfl), mm_ud_no (by decide) (fun _ => rfl)⟩ | exact ⟨1, Or.inl ⟨rfl, by omega⟩, y49_2, y49_3, y49_4⟩⟩⟩
    · skip
      refine mm_fgt 0 ?_
      refine mm_fgt 1 ?_
      refine mm_fgt 2 ?_
      refine mm_fgt 3 ?_
      exact J40 (by omega) (by omega)
set_option maxRecDepth 100000 in
set_option maxHeartbeats 4000000 in
theorem c_X12_isRunner_q (l : Launch) (hl : l.stackTraces = false) (d : Nat) (hd : 1 ≤ d) (h : mH) (i0 : mm_inv h) (p1 : Int) : mm_Met l d yX12_isRunner cX12_isRunner 2 (some .boolean) [mR 66, mI p1] h (mm_pi fun r h2 => (0 ≤ r ∧ r ≤ 1) ∧ mm_inv h2 ∧ mm_fr [(66, 0)] [] h h2 ∧ ((0 ≤ p1 ∧ p1 < h.1 66 23 ∧ r = 1 ∧ h2.1 66 0 = 0) ∨ ((p1 < 0 ∨ h.1 66 23 ≤ p1) ∧ r = 0 ∧ h2.1 66 0 = 1)) ∧ (r = 0 ∨ (0 ≤ p1 ∧ p1 < (h2.1 66 23)))) mm_nx 0 0 := by
  refine mm_ofW (ls := [mR 66, mI p1]) hl (by decide) rfl (Nat.le_of_ble_eq_true rfl) ?_
  intro x hxl C T hnm htb
  subst hxl
  have C1 := mm_OK_le (d' := d - 1 + 1) (by omega) C
  refine mm_rng (fun hr _ => ?_)
  have ap1 : -2147483648 ≤ p1 ∧ p1 < 2147483648 := mm_ok_at hr (i := 1) rfl
  have f0 : mm_fr [(66, 0)] [] h h := mm_fr_rf
  have g1 : -2147483648 ≤ h.1 66 0 ∧ h.1 66 0 ≤ 2147483647 := i0.1 66 0
  have g2 : 0 ≤ h.1 66 23 ∧ h.1 66 23 ≤ 40 := i0.1 66 23
  refine mm_aload_n C (mm_dec dk_X12_isRunner 0 rfl) rfl ?_
  refine mm_iconst C (mm_dec dk_X12_isRunner 1 rfl) ⟨by decide, by decide⟩ ?_
  refine mm_puti C fl_X12_188 (mm_dec dk_X12_isRunner 2 rfl) rfl rfl rfl (Or.inl ⟨rfl, rfl⟩) ?_
  have i1 : mm_inv (mm_pf h 66 0 0) := mm_inv_pf i0 (show -2147483648 ≤ 0 ∧ 0 ≤ 2147483647 from ⟨by omega, by omega⟩) (by decide)
  have f1 : mm_fr [(66, 0)] [] h (mm_pf h 66 0 0) := mm_fr_pf f0 (by decide)
  obtain ⟨h1, eh1⟩ : ∃ z, z = mm_pf h 66 0 0 := ⟨_, rfl⟩
  rw [← eh1] at i1 f1 ⊢
  have qh1 : h1.1 66 0 = 0 := by rw [eh1]; exact mm_pf_same _ _ _ _
  have qh1_3 : h1.1 66 23 = h.1 66 23 := by rw [eh1]; exact mm_pf_ne _ _ (by decide)
  refine mm_aload_n C (mm_dec dk_X12_isRunner 3 rfl) rfl ?_
  refine mm_iload_n C (mm_dec dk_X12_isRunner 4 rfl) rfl ?_
  refine mm_if_lt (tgt := 22) C (mm_dec dk_X12_isRunner 5 rfl) (by decide) (fun c7 => ?_) (fun c7 => ?_)
  · skip
    refine mm_iconst C (mm_dec dk_X12_isRunner 12 rfl) ⟨by decide, by decide⟩ ?_
    refine mm_iconst C (mm_dec dk_X12_isRunner 13 rfl) ⟨by decide, by decide⟩ ?_
    refine mm_cVi (rest := []) C1 ev_X12_251 (mm_dec dk_X12_isRunner 14 rfl) (c_X12_right_q x.2.1 hl (d - 1) (by omega) h1 i1 0 1 ⟨by omega, by omega⟩ (by omega)) rfl rfl (Nat.le_of_ble_eq_true rfl) ⟨by decide, by decide⟩ rfl (fun r24 h24c hp24 => ?_) (fun _ _ q => q.elim)
    obtain ⟨b24, i24c, g24c, y24_0⟩ := hp24
    have f24c : mm_fr [(66, 0)] [] h h24c := mm_fr_tr f1 g24c (by decide +kernel)
    have q24c_5 : h24c.1 66 23 = h1.1 66 23 := g24c.1 66 23 (by decide)
    have g6 : -2147483648 ≤ (h24c.1 66 0) ∧ (h24c.1 66 0) ≤ 2147483647 := i24c.1 66 0
    exact mm_zret C T (mm_dec dk_X12_isRunner 15 rfl) (by decide : 0 ≤ 0) (by decide : 0 ≤ 0) (by omega) ⟨_, rfl, ⟨⟨by omega, by omega⟩, i24c, f24c, by omega, by omega⟩⟩
  · skip
    refine mm_iload_n C (mm_dec dk_X12_isRunner 6 rfl) rfl ?_
    refine mm_aload_n C (mm_dec dk_X12_isRunner 7 rfl) rfl ?_
    refine mm_geti C fl_X12_222 (mm_dec dk_X12_isRunner 8 rfl) rfl rfl (Or.inl rfl) ?_
    refine mm_icmp_ge (tgt := 22) C (mm_dec dk_X12_isRunner 9 rfl) (by decide) (fun c15 => ?_) (fun c15 => ?_)
    · skip
      refine mm_iconst C (mm_dec dk_X12_isRunner 12 rfl) ⟨by decide, by decide⟩ ?_
      refine mm_iconst C (mm_dec dk_X12_isRunner 13 rfl) ⟨by decide, by decide⟩ ?_
      refine mm_cVi (rest := []) C1 ev_X12_251 (mm_dec dk_X12_isRunner 14 rfl) (c_X12_right_q x.2.1 hl (d - 1) (by omega) h1 i1 0 1 ⟨by omega, by omega⟩ (by omega)) rfl rfl (Nat.le_of_ble_eq_true rfl) ⟨by decide, by decide⟩ rfl (fun r24 h24c hp24 => ?_) (fun _ _ q => q.elim)
      obtain ⟨b24, i24c, g24c, y24_0⟩ := hp24
      have f24c : mm_fr [(66, 0)] [] h h24c := mm_fr_tr f1 g24c (by decide +kernel)
      have q24c_8 : h24c.1 66 23 = h1.1 66 23 := g24c.1 66 23 (by decide)
      have g9 : -2147483648 ≤ (h24c.1 66 0) ∧ (h24c.1 66 0) ≤ 2147483647 := i24c.1 66 0
      exact mm_zret C T (mm_dec dk_X12_isRunner 15 rfl) (by decide : 0 ≤ 0) (by decide : 0 ≤ 0) (by omega) ⟨_, rfl, ⟨⟨by omega, by omega⟩, i24c, f24c, by omega, by omega⟩⟩
    · skip
      refine mm_iconst C (mm_dec dk_X12_isRunner 10 rfl) ⟨by decide, by decide⟩ ?_
      refine mm_goto (tgt := 23) C (mm_dec dk_X12_isRunner 11 rfl) (by decide) ?_
      refine mm_iconst C (mm_dec dk_X12_isRunner 13 rfl) ⟨by decide, by decide⟩ ?_
      refine mm_cVi (rest := []) C1 ev_X12_251 (mm_dec dk_X12_isRunner 14 rfl) (c_X12_right_q x.2.1 hl (d - 1) (by omega) h1 i1 1 1 ⟨by omega, by omega⟩ (by omega)) rfl rfl (Nat.le_of_ble_eq_true rfl) ⟨by decide, by decide⟩ rfl (fun r24 h24c hp24 => ?_) (fun _ _ q => q.elim)
      obtain ⟨b24, i24c, g24c, y24_0⟩ := hp24
      have f24c : mm_fr [(66, 0)] [] h h24c := mm_fr_tr f1 g24c (by decide +kernel)
      have q24c_11 : h24c.1 66 23 = h1.1 66 23 := g24c.1 66 23 (by decide)
      have g12 : -2147483648 ≤ (h24c.1 66 0) ∧ (h24c.1 66 0) ≤ 2147483647 := i24c.1 66 0
      exact mm_zret C T (mm_dec dk_X12_isRunner 15 rfl) (by decide : 0 ≤ 0) (by decide : 0 ≤ 0) (by omega) ⟨_, rfl, ⟨⟨by omega, by omega⟩, i24c, f24c, by omega, by omega⟩⟩
set_option maxRecDepth 100000 in
set_option maxHeartbeats 4000000 in
theorem c_X12_digit_q (l : Launch) (hl : l.stackTraces = false) (d : Nat) (hd : 0 ≤ d) (h : mH) (i0 : mm_inv h) (p0 : Int) (p1 : Int) (bp0 : 0 ≤ p0 ∧ p0 ≤ 80) : mm_Met l d yX12_digit cX12_digit 4 (some .int) [mI p0, mI p1] h (mm_pi fun r h2 => (0 ≤ r ∧ r ≤ 2) ∧ h2 = h ∧ r = mm_dv p0 p1.toNat % 3) mm_nx 0 0 := by
  refine mm_ofW (ls := [mI p0, mI p1, mU, mU]) hl (by decide) rfl (Nat.le_of_ble_eq_true rfl) ?_
  intro x hxl C T hnm htb
  subst hxl
  refine mm_rng (fun hr _ => ?_)
  have ap0 : -2147483648 ≤ p0 ∧ p0 < 2147483648 := mm_ok_at hr (i := 0) rfl
  have ap1 : -2147483648 ≤ p1 ∧ p1 < 2147483648 := mm_ok_at hr (i := 1) rfl
  have f0 : mm_fr [] [] h h := mm_fr_rf
  refine mm_iload_n C (mm_dec dk_X12_digit 0 rfl) rfl ?_
  refine mm_istore_nL (ls2 := [mI p0, mI p1, mI p0, mU]) C (mm_dec dk_X12_digit 1 rfl) (by decide) rfl ?_
  refine mm_iconst C (mm_dec dk_X12_digit 2 rfl) ⟨by decide, by decide⟩ ?_
  have J4 : ∀ (n : Nat) (x4_2 : Int) (bx4_2 : 0 ≤ x4_2 ∧ x4_2 ≤ 80) (x4_3 : Int) (bx4_3 : 0 ≤ x4_3 ∧ x4_3 ≤ 2147483647) (w4_0 : x4_2 = mm_dv p0 (x4_3).toNat) (w4_1 : (x4_3 = 0 ∨ x4_3 ≤ p1)), (2147483647 - x4_3 : Int) < n → mm_W x 0 0 4 [mU, mI p1, mI x4_2, mI x4_3] [] h := by
    intro n
    induction n with
    | zero =>
      intro x4_2 bx4_2 x4_3 bx4_3 w4_0 w4_1 hm
      exfalso; omega
    | succ n ih4 =>
      intro x4_2 bx4_2 x4_3 bx4_3 w4_0 w4_1 hm4
      refine mm_iload_n C (mm_dec dk_X12_digit 4 rfl) rfl ?_
      refine mm_iload_n C (mm_dec dk_X12_digit 5 rfl) rfl ?_
      refine mm_icmp_ge (tgt := 19) C (mm_dec dk_X12_digit 6 rfl) (by decide) (fun c6 => ?_) (fun c6 => ?_)
      · skip
        refine mm_iload_n C (mm_dec dk_X12_digit 13 rfl) rfl ?_
        refine mm_iconst C (mm_dec dk_X12_digit 14 rfl) ⟨by decide, by decide⟩ ?_
        refine mm_irem C (mm_dec dk_X12_digit 15 rfl) (by omega) (by omega) ?_
        exact mm_iret C T (mm_dec dk_X12_digit 16 rfl) (by decide : 0 ≤ 0) (by decide : 0 ≤ 0) ⟨_, rfl, ⟨⟨by omega, by omega⟩, rfl, by exact mm_dv_end w4_0 (by omega)⟩⟩
      · skip
        refine mm_iload_n C (mm_dec dk_X12_digit 7 rfl) rfl ?_
        refine mm_iconst C (mm_dec dk_X12_digit 8 rfl) ⟨by decide, by decide⟩ ?_
        refine mm_idiv C (mm_dec dk_X12_digit 9 rfl) ⟨by omega, by omega⟩ (by omega) ?_
        refine mm_istore_nL (ls2 := [mU, mI p1, mI (x4_2 / 3), mI x4_3]) C (mm_dec dk_X12_digit 10 rfl) (by decide) rfl ?_
        refine mm_iincL (ls2 := [mU, mI p1, mI (x4_2 / 3), mI (x4_3 + 1)]) C (mm_dec dk_X12_digit 11 rfl) rfl (by decide) ⟨by omega, by omega⟩ rfl ?_
        refine mm_goto (tgt := 4) C (mm_dec dk_X12_digit 12 rfl) (by decide) ?_
        exact ih4 (x4_2 / 3) ⟨by omega, by omega⟩ (x4_3 + 1) ⟨by omega, by omega⟩ (by first | rfl | exact mm_dv_step w4_0 (by omega)) (by omega) (by omega)
  refine mm_istore_nL (ls2 := [mI p0, mI p1, mI p0, mI 0]) C (mm_dec dk_X12_digit 3 rfl) (by decide) rfl ?_
  refine mm_fgt 0 ?_
  exact J4 (((2147483647 - 0) : Int) + 1).toNat p0 ⟨by omega, by omega⟩ 0 ⟨by omega, by omega⟩ (by first | rfl | exact mm_dv_step w4_0 (by omega)) (by omega) (by omega)
set_option maxRecDepth 100000 in
set_option maxHeartbeats 4000000 in
theorem c_X12_team_q (l : Launch) (hl : l.stackTraces = false) (d : Nat) (hd : 2 ≤ d) (h : mH) (i0 : mm_inv h) (p1 : Int) (p2 : Int) (p3 : Int) : mm_Met l d yX12_team cX12_team 6 (some .int) [mR 66, mI p1, mI p2, mI p3] h (mm_pi fun r h2 => (-1 ≤ r ∧ r ≤ 9) ∧ mm_inv h2 ∧ mm_fr [(66, 0), (66, 24)] [88, 89, 90] h h2 ∧ (((0 ≤ p1 ∧ p1 < h.1 66 23 ∧ 0 ≤ p2 ∧ p2 < h.1 66 23 ∧ 0 ≤ p3 ∧ p3 < h.1 66 23) ∧ h2.1 66 0 = 0 ∧ ((r = h.1 66 24 ∧ h.1 66 24 ≠ 10 ∧ mm_gu h p1 p2 p3 = 1 ∧ h2.1 66 24 = h.1 66 24 + 1) ∨ (r = -1 ∧ (h.1 66 24 = 10 ∨ mm_gu h p1 p2 p3 = 0) ∧ h2.1 66 24 = h.1 66 24))) ∨ ((p1 < 0 ∨ h.1 66 23 ≤ p1 ∨ p2 < 0 ∨ h.1 66 23 ≤ p2 ∨ p3 < 0 ∨ h.1 66 23 ≤ p3) ∧ h2.1 66 0 = 1 ∧ r = 0 ∧ h2.1 66 24 = h.1 66 24)) ∧ (∃ f : Int, ((f = 1 ∧ h2.1 66 24 = h.1 66 24 + 1) ∨ (f = 0 ∧ h2.1 66 24 = h.1 66 24)) ∧ mm_u3 h h2 88 p1 p2 p3 (h.1 66 24) f ∧ mm_ub h h2 p1 p2 p3 f ∧ mm_uc h h2 p1 p2 p3 (h.1 66 24) f)) mm_nx 0 0 := by
  refine mm_ofW (ls := [mR 66, mI p1, mI p2, mI p3, mU, mU]) hl (by decide) rfl (Nat.le_of_ble_eq_true rfl) ?_
  intro x hxl C T hnm htb
  subst hxl
  have C1 := mm_OK_le (d' := d - 1 + 1) (by omega) C
  refine mm_rng (fun hr _ => ?_)
  have ap1 : -2147483648 ≤ p1 ∧ p1 < 2147483648 := mm_ok_at hr (i := 1) rfl
  have ap2 : -2147483648 ≤ p2 ∧ p2 < 2147483648 := mm_ok_at hr (i := 2) rfl
  have ap3 : -2147483648 ≤ p3 ∧ p3 < 2147483648 := mm_ok_at hr (i := 3) rfl
  have f0 : mm_fr [(66, 0), (66, 24)] [88, 89, 90] h h := mm_fr_rf
  have g1 : -2147483648 ≤ h.1 66 0 ∧ h.1 66 0 ≤ 2147483647 := i0.1 66 0
  have g2 : 0 ≤ h.1 66 23 ∧ h.1 66 23 ≤ 40 := i0.1 66 23
  have g3 : 0 ≤ h.1 66 24 ∧ h.1 66 24 ≤ 10 := i0.1 66 24
  refine mm_aload_n C (mm_dec dk_X12_team 0 rfl) rfl ?_
  refine mm_iload_n C (mm_dec dk_X12_team 1 rfl) rfl ?_
  refine mm_cVi (rest := []) C1 ev_X12_308 (mm_dec dk_X12_team 2 rfl) (c_X12_isRunner_q x.2.1 hl (d - 1) (by omega) h i0 p1) rfl rfl (Nat.le_of_ble_eq_true rfl) ⟨by decide, by decide⟩ rfl (fun r2 h2c hp2 => ?_) (fun _ _ q => q.elim)
  obtain ⟨b2, i2c, g2c, y2_0, y2_1⟩ := hp2
  have f2c : mm_fr [(66, 0), (66, 24)] [88, 89, 90] h h2c := mm_fr_tr f0 g2c (by decide +kernel)
  have q2c_5 : h2c.1 66 23 = h.1 66 23 := g2c.1 66 23 (by decide)
  have q2c_6 : h2c.1 66 24 = h.1 66 24 := g2c.1 66 24 (by decide)
  have g7 : -2147483648 ≤ (h2c.1 66 0) ∧ (h2c.1 66 0) ≤ 2147483647 := i2c.1 66 0
  have J45 : ∀ (h45_ : mH) (i45_ : mm_inv h45_) (f45_ : mm_fr [(66, 0), (66, 24)] [88, 89, 90] h h45_) (w45_0 : (p1 < 0 ∨ h.1 66 23 ≤ p1 ∨ p2 < 0 ∨ h.1 66 23 ≤ p2 ∨ p3 < 0 ∨ h.1 66 23 ≤ p3)) (w45_1 : h45_.1 66 0 = 1) (w45_2 : h45_.1 66 24 = h.1 66 24) (w45_3 : ∀ j, h45_.2.1 88 j = h.2.1 88 j) (w45_4 : ∀ j, h45_.2.1 89 j = h.2.1 89 j) (w45_5 : ∀ j, h45_.2.1 90 j = h.2.1 90 j), mm_W x 0 0 45 [mU, mU, mU, mU, mU, mU] [] h45_ := by
    intro h45_ i45_ f45_ w45_0 w45_1 w45_2 w45_3 w45_4 w45_5
    have g8 : -2147483648 ≤ h45_.1 66 0 ∧ h45_.1 66 0 ≤ 2147483647 := i45_.1 66 0
    have g9 : 0 ≤ h45_.1 66 23 ∧ h45_.1 66 23 ≤ 40 := i45_.1 66 23
    have g10 : 0 ≤ h45_.1 66 24 ∧ h45_.1 66 24 ≤ 10 := i45_.1 66 24
    have g11 : h45_.1 66 23 = h.1 66 23 := f45_.1 66 23 (by decide)
    refine mm_iconst C (mm_dec dk_X12_team 23 rfl) ⟨by decide, by decide⟩ ?_
    exact mm_iret C T (mm_dec dk_X12_team 24 rfl) (by decide : 0 ≤ 0) (by decide : 0 ≤ 0) ⟨_, rfl, ⟨⟨by omega, by omega⟩, i45_, f45_, by omega, by first | exact ⟨0, Or.inr ⟨rfl, by omega⟩, mm_u3_no (by decide) w45_3, mm_ub_no (by decide) w45_4, mm_uc_no (by decide) w45_5⟩ | exact ⟨0, Or.inr ⟨rfl, by omega⟩, mm_u3_no (by decide) z88, mm_ub_no (by decide) z89, mm_uc_no (by decide) (fun _ => ((g39c.2 90 (by decide) _).trans (g2c.2 90 (by decide) _)))⟩ | exact ⟨1, Or.inl ⟨rfl, by omega⟩, mm_u3_tr (fun _ => rfl) (mm_tm_3 w326_5 (by omega)) (fun _ => (mm_sm_pf 88 eh6 _)) rfl, mm_ub_tr (fun _ => rfl) (mm_tn9_3 w326_6 (by omega)) (fun _ => (mm_sm_pf 89 eh6 _)) rfl, mm_uc_tr (fun _ => rfl) w326_7 (fun _ => (mm_sm_pf 90 eh6 _))⟩⟩⟩
  refine mm_if_eq (tgt := 45) C (mm_dec dk_X12_team 3 rfl) (by decide) (fun c5 => ?_) (fun c5 => ?_)
  · skip
    refine mm_fgt 0 ?_
    refine mm_fgt 1 ?_
    refine mm_fgt 2 ?_
    refine mm_fgt 3 ?_
    exact J45 h2c i2c f2c (by omega) (by omega) (by omega) (by first | exact (fun _ => (g2c.2 88 (by decide) _)) | exact (fun _ => ((g39c.2 88 (by decide) _).trans (g2c.2 88 (by decide) _)))) (by first | exact (fun _ => (g2c.2 89 (by decide) _)) | exact (fun _ => ((g39c.2 89 (by decide) _).trans (g2c.2 89 (by decide) _)))) (by first | exact (fun _ => (g2c.2 90 (by decide) _)) | exact (fun _ => ((g39c.2 90 (by decide) _).trans (g2c.2 90 (by decide) _))))
  · skip
    refine mm_aload_n C (mm_dec dk_X12_team 4 rfl) rfl ?_
    refine mm_iload_n C (mm_dec dk_X12_team 5 rfl) rfl ?_
    have J38 : ∀ (s38_1 : Int) (bs38_1 : 0 ≤ s38_1 ∧ s38_1 ≤ 1) (w38_0 : ((s38_1 = 1 ∧ 0 ≤ p2 ∧ p2 < h.1 66 23 ∧ 0 ≤ p3 ∧ p3 < h.1 66 23) ∨ (s38_1 = 0 ∧ (p2 < 0 ∨ h.1 66 23 ≤ p2 ∨ p3 < 0 ∨ h.1 66 23 ≤ p3)))) (vs38_1 : (s38_1 = 0) ∨ (0 ≤ p2 ∧ p2 < (h2c.1 66 23) ∧ 0 ≤ p3 ∧ p3 < (h2c.1 66 23) ∧ s38_1 = 1)), mm_W x 0 0 38 [mR 66, mI p1, mI p2, mI p3, mU, mU] [mI s38_1, mR 66] h2c := by
      intro s38_1 bs38_1 w38_0 vs38_1
      refine mm_iconst C (mm_dec dk_X12_team 20 rfl) ⟨by decide, by decide⟩ ?_
      refine mm_cVi (rest := []) C1 ev_X12_251 (mm_dec dk_X12_team 21 rfl) (c_X12_right_q x.2.1 hl (d - 1) (by omega) h2c i2c s38_1 1 ⟨by omega, by omega⟩ (by omega)) rfl rfl (Nat.le_of_ble_eq_true rfl) ⟨by decide, by decide⟩ rfl (fun r39 h39c hp39 => ?_) (fun _ _ q => q.elim)
      obtain ⟨b39, i39c, g39c, y39_0⟩ := hp39
      have f39c : mm_fr [(66, 0), (66, 24)] [88, 89, 90] h h39c := mm_fr_tr f2c g39c (by decide +kernel)
      have q39c_13 : h39c.1 66 23 = h2c.1 66 23 := g39c.1 66 23 (by decide)
      have q39c_14 : h39c.1 66 24 = h2c.1 66 24 := g39c.1 66 24 (by decide)
      have g15 : -2147483648 ≤ (h39c.1 66 0) ∧ (h39c.1 66 0) ≤ 2147483647 := i39c.1 66 0
      refine mm_if_ne (tgt := 47) C (mm_dec dk_X12_team 22 rfl) (by decide) (fun c42 => ?_) (fun c42 => ?_)
      · skip
        have zC : (0 ≤ p1 ∧ p1 < h.1 66 23 ∧ 0 ≤ p2 ∧ p2 < h.1 66 23 ∧ 0 ≤ p3 ∧ p3 < h.1 66 23) := by omega
        have z0 : h39c.1 66 0 = 0 := by omega
        have zt : h39c.1 66 24 = h.1 66 24 := by omega
        clear y2_0 y2_1 y39_0
        have z81 : ∀ j, h39c.2.1 81 j = h.2.1 81 j := (fun _ => ((g39c.2 81 (by decide) _).trans (g2c.2 81 (by decide) _)))
        have z83 : ∀ j, h39c.2.1 83 j = h.2.1 83 j := (fun _ => ((g39c.2 83 (by decide) _).trans (g2c.2 83 (by decide) _)))
        have z85 : ∀ j, h39c.2.1 85 j = h.2.1 85 j := (fun _ => ((g39c.2 85 (by decide) _).trans (g2c.2 85 (by decide) _)))
        have z87 : ∀ j, h39c.2.1 87 j = h.2.1 87 j := (fun _ => ((g39c.2 87 (by decide) _).trans (g2c.2 87 (by decide) _)))
        have z89 : ∀ j, h39c.2.1 89 j = h.2.1 89 j := (fun _ => ((g39c.2 89 (by decide) _).trans (g2c.2 89 (by decide) _)))
        have z88 : ∀ j, h39c.2.1 88 j = h.2.1 88 j := (fun _ => ((g39c.2 88 (by decide) _).trans (g2c.2 88 (by decide) _)))
        have v85_p1 := z85 p1
        have v85_p2 := z85 p2
        have v85_p3 := z85 p3
        have v87_p1 := z87 p1
        have v87_p2 := z87 p2
        have v87_p3 := z87 p3
        have v88_p1 := z88 p1
        have v88_p2 := z88 p2
        have v88_p3 := z88 p3
        have v83 : h39c.2.1 83 (h39c.2.1 85 p1) = h.2.1 83 (h.2.1 85 p1) := by rw [z83, z85]
        have v81 : h39c.2.1 81 (h39c.2.1 85 p1) = h.2.1 81 (h.2.1 85 p1) := by rw [z81, z85]
        have zq := mm_ds_rg (h.2.1 87 p1) (h.2.1 87 p2) (h.2.1 87 p3) (h.2.1 81 (h.2.1 85 p1)).toNat
        have zg := mm_gu_rg h p1 p2 p3
        have zg2 := mm_g2_rg h p1 p2 p3
        refine mm_iload_n C (mm_dec dk_X12_team 25 rfl) rfl ?_
        refine mm_iload_n C (mm_dec dk_X12_team 26 rfl) rfl ?_
        have J111 : ∀ (s111_0 : Int) (bs111_0 : 0 ≤ s111_0 ∧ s111_0 ≤ 1) (w111_0 : s111_0 = mm_g1 h p1 p2 p3) (vs111_0 : (s111_0 = 0) ∨ (p1 ≠ p2 ∧ p2 ≠ p3 ∧ p1 ≠ p3 ∧ (h39c.2.1 85 p1) = (h39c.2.1 85 p2) ∧ (h39c.2.1 85 p2) = (h39c.2.1 85 p3) ∧ (h39c.2.1 83 (h39c.2.1 85 p1)) = 0 ∧ s111_0 = 1)), mm_W x 0 0 111 [mR 66, mI p1, mI p2, mI p3, mU, mU] [mI s111_0] h39c := by
          intro s111_0 bs111_0 w111_0 vs111_0
          refine mm_istoreL (ls2 := [mR 66, mI p1, mI p2, mI p3, mI s111_0, mU]) C (mm_dec dk_X12_team 63 rfl) (by decide) rfl ?_
          refine mm_iload C (mm_dec dk_X12_team 64 rfl) rfl ?_
          have J153 : ∀ (s153_0 : Int) (bs153_0 : 0 ≤ s153_0 ∧ s153_0 ≤ 1) (w153_0 : s153_0 = mm_g2 h p1 p2 p3) (vs153_0 : (s153_0 = 0) ∨ (s111_0 ≠ 0 ∧ (h39c.2.1 88 p1) = (-1) ∧ (h39c.2.1 88 p2) = (-1) ∧ (h39c.2.1 88 p3) = (-1) ∧ s153_0 = 1)), mm_W x 0 0 153 [mR 66, mI p1, mI p2, mI p3, mU, mU] [mI s153_0] h39c := by
            intro s153_0 bs153_0 w153_0 vs153_0
            refine mm_istoreL (ls2 := [mR 66, mI p1, mI p2, mI p3, mI s153_0, mU]) C (mm_dec dk_X12_team 87 rfl) (by decide) rfl ?_
            refine mm_iconst C (mm_dec dk_X12_team 88 rfl) ⟨by decide, by decide⟩ ?_
            have J158 : ∀ (n : Nat) (x158_4 : Int) (bx158_4 : 0 ≤ x158_4 ∧ x158_4 ≤ 1) (x158_5 : Int) (bx158_5 : 0 ≤ x158_5 ∧ x158_5 ≤ 2147483647) (w158_0 : ((x158_4 = 1 ∧ mm_g2 h p1 p2 p3 = 1 ∧ mm_ds (h.2.1 87 p1) (h.2.1 87 p2) (h.2.1 87 p3) (x158_5).toNat = 1) ∨ (x158_4 = 0 ∧ (mm_g2 h p1 p2 p3 = 0 ∨ mm_ds (h.2.1 87 p1) (h.2.1 87 p2) (h.2.1 87 p3) (h.2.1 81 (h.2.1 85 p1)).toNat = 0)))) (w158_1 : (x158_5 = 0 ∨ x158_5 ≤ (h.2.1 81 (h.2.1 85 p1)))), (2147483647 - x158_5 : Int) < n → mm_W x 0 0 158 [mR 66, mI p1, mI p2, mI p3, mI x158_4, mI x158_5] [] h39c := by
              intro n
              induction n with
              | zero =>
                intro x158_4 bx158_4 x158_5 bx158_5 w158_0 w158_1 hm
                exfalso; omega
              | succ n ih158 =>
                intro x158_4 bx158_4 x158_5 bx158_5 w158_0 w158_1 hm158
                refine mm_iload C (mm_dec dk_X12_team 90 rfl) rfl ?_
                refine mm_aload_n C (mm_dec dk_X12_team 91 rfl) rfl ?_
                refine mm_getr (t := 81) C fl_X12_54 (mm_dec dk_X12_team 92 rfl) rfl rfl (mm_ref i39c rfl) ?_
                refine mm_aload_n C (mm_dec dk_X12_team 93 rfl) rfl ?_
                refine mm_getr (t := 85) C fl_X12_66 (mm_dec dk_X12_team 94 rfl) rfl rfl (mm_ref i39c rfl) ?_
                refine mm_iload_n C (mm_dec dk_X12_team 95 rfl) rfl ?_
                refine mm_iald C (mm_dec dk_X12_team 96 rfl) rfl (by omega) (by omega) ?_
                have g16 : 0 ≤ (h39c.2.1 85 p1) ∧ (h39c.2.1 85 p1) ≤ 7 := i39c.2.1 85 p1
                refine mm_iald C (mm_dec dk_X12_team 97 rfl) rfl (by omega) (by omega) ?_
                have g17 : -2147483648 ≤ (h39c.2.1 81 (h39c.2.1 85 p1)) ∧ (h39c.2.1 81 (h39c.2.1 85 p1)) ≤ 2147483647 := i39c.2.1 81 (h39c.2.1 85 p1)
                have J267 : ∀ (w267_0 : x158_4 = mm_gu h p1 p2 p3), mm_W x 0 0 267 [mR 66, mI p1, mI p2, mI p3, mI x158_4, mU] [] h39c := by
                  intro w267_0
                  refine mm_iload C (mm_dec dk_X12_team 146 rfl) rfl ?_
                  have J281 : ∀ (w281_0 : (mm_gu h p1 p2 p3 = 0 ∨ h.1 66 24 = 10)), mm_W x 0 0 281 [mU, mU, mU, mU, mU, mU] [] h39c := by
                    intro w281_0
                    refine mm_iconst C (mm_dec dk_X12_team 152 rfl) ⟨by decide, by decide⟩ ?_
                    exact mm_iret C T (mm_dec dk_X12_team 153 rfl) (by decide : 0 ≤ 0) (by decide : 0 ≤ 0) ⟨_, rfl, ⟨⟨by omega, by omega⟩, i39c, f39c, by omega, by first | exact ⟨0, Or.inr ⟨rfl, by omega⟩, mm_u3_no (by decide) w45_3, mm_ub_no (by decide) w45_4, mm_uc_no (by decide) w45_5⟩ | exact ⟨0, Or.inr ⟨rfl, by omega⟩, mm_u3_no (by decide) z88, mm_ub_no (by decide) z89, mm_uc_no (by decide) (fun _ => ((g39c.2 90 (by decide) _).trans (g2c.2 90 (by decide) _)))⟩ | exact ⟨1, Or.inl ⟨rfl, by omega⟩, mm_u3_tr (fun _ => rfl) (mm_tm_3 w326_5 (by omega)) (fun _ => (mm_sm_pf 88 eh6 _)) rfl, mm_ub_tr (fun _ => rfl) (mm_tn9_3 w326_6 (by omega)) (fun _ => (mm_sm_pf 89 eh6 _)) rfl, mm_uc_tr (fun _ => rfl) w326_7 (fun _ => (mm_sm_pf 90 eh6 _))⟩⟩⟩
                  refine mm_if_eq (tgt := 281) C (mm_dec dk_X12_team 147 rfl) (by decide) (fun c269 => ?_) (fun c269 => ?_)
                  · skip
                    refine mm_fgt 0 ?_
                    refine mm_fgt 1 ?_
                    refine mm_fgt 2 ?_
                    refine mm_fgt 3 ?_
                    refine mm_fgt 4 ?_
                    exact J281 (by omega)
                  · skip
                    refine mm_aload_n C (mm_dec dk_X12_team 148 rfl) rfl ?_
                    refine mm_geti C fl_X12_225 (mm_dec dk_X12_team 149 rfl) rfl rfl (Or.inl rfl) ?_
                    refine mm_bipush C (mm_dec dk_X12_team 150 rfl) ⟨by decide, by decide⟩ ?_
                    refine mm_icmp_ne (tgt := 283) C (mm_dec dk_X12_team 151 rfl) (by decide) (fun c278 => ?_) (fun c278 => ?_)
                    · skip
                      refine mm_aload_n C (mm_dec dk_X12_team 154 rfl) rfl ?_
                      refine mm_getr (t := 90) C fl_X12_81 (mm_dec dk_X12_team 155 rfl) rfl rfl (mm_ref i39c rfl) ?_
                      refine mm_iconst C (mm_dec dk_X12_team 156 rfl) ⟨by decide, by decide⟩ ?_
                      refine mm_aload_n C (mm_dec dk_X12_team 157 rfl) rfl ?_
                      refine mm_geti C fl_X12_225 (mm_dec dk_X12_team 158 rfl) rfl rfl (Or.inl rfl) ?_
                      refine mm_imul C (mm_dec dk_X12_team 159 rfl) ⟨by omega, by omega⟩ ?_
                      refine mm_iload_n C (mm_dec dk_X12_team 160 rfl) rfl ?_
                      refine mm_iast C (mm_dec dk_X12_team 161 rfl) rfl (by omega) (by omega) ?_
                      have i3 : mm_inv (mm_pa h39c 90 (3 * (h39c.1 66 24)) p1) := mm_inv_pa i39c (show 0 ≤ p1 ∧ p1 ≤ 39 from ⟨by omega, by omega⟩)
                      have f3 : mm_fr [(66, 0), (66, 24)] [88, 89, 90] h (mm_pa h39c 90 (3 * (h39c.1 66 24)) p1) := mm_fr_pa f39c (by decide)
                      obtain ⟨h3, eh3⟩ : ∃ z, z = mm_pa h39c 90 (3 * (h39c.1 66 24)) p1 := ⟨_, rfl⟩
                      rw [← eh3] at i3 f3 ⊢
                      have qh3_18 : h3.1 66 0 = h39c.1 66 0 := by rw [eh3]; rfl
                      have qh3_19 : h3.1 66 23 = h39c.1 66 23 := by rw [eh3]; rfl
                      have qh3_20 : h3.1 66 24 = h39c.1 66 24 := by rw [eh3]; rfl
                      refine mm_aload_n C (mm_dec dk_X12_team 162 rfl) rfl ?_
                      refine mm_getr (t := 90) C fl_X12_81 (mm_dec dk_X12_team 163 rfl) rfl rfl (mm_ref i3 rfl) ?_
                      refine mm_iconst C (mm_dec dk_X12_team 164 rfl) ⟨by decide, by decide⟩ ?_
                      refine mm_aload_n C (mm_dec dk_X12_team 165 rfl) rfl ?_
                      refine mm_geti C fl_X12_225 (mm_dec dk_X12_team 166 rfl) rfl rfl (Or.inl rfl) ?_
                      refine mm_imul C (mm_dec dk_X12_team 167 rfl) ⟨by omega, by omega⟩ ?_
                      refine mm_iconst C (mm_dec dk_X12_team 168 rfl) ⟨by decide, by decide⟩ ?_
                      refine mm_iadd C (mm_dec dk_X12_team 169 rfl) ⟨by omega, by omega⟩ ?_
                      refine mm_iload_n C (mm_dec dk_X12_team 170 rfl) rfl ?_
                      refine mm_iast C (mm_dec dk_X12_team 171 rfl) rfl (by omega) (by omega) ?_
                      have i4 : mm_inv (mm_pa h3 90 ((3 * (h3.1 66 24)) + 1) p2) := mm_inv_pa i3 (show 0 ≤ p2 ∧ p2 ≤ 39 from ⟨by omega, by omega⟩)
                      have f4 : mm_fr [(66, 0), (66, 24)] [88, 89, 90] h (mm_pa h3 90 ((3 * (h3.1 66 24)) + 1) p2) := mm_fr_pa f3 (by decide)
                      obtain ⟨h4, eh4⟩ : ∃ z, z = mm_pa h3 90 ((3 * (h3.1 66 24)) + 1) p2 := ⟨_, rfl⟩
                      rw [← eh4] at i4 f4 ⊢
                      have qh4_21 : h4.1 66 0 = h3.1 66 0 := by rw [eh4]; rfl
                      have qh4_22 : h4.1 66 23 = h3.1 66 23 := by rw [eh4]; rfl
                      have qh4_23 : h4.1 66 24 = h3.1 66 24 := by rw [eh4]; rfl
                      refine mm_aload_n C (mm_dec dk_X12_team 172 rfl) rfl ?_
                      refine mm_getr (t := 90) C fl_X12_81 (mm_dec dk_X12_team 173 rfl) rfl rfl (mm_ref i4 rfl) ?_
                      refine mm_iconst C (mm_dec dk_X12_team 174 rfl) ⟨by decide, by decide⟩ ?_
                      refine mm_aload_n C (mm_dec dk_X12_team 175 rfl) rfl ?_
                      refine mm_geti C fl_X12_225 (mm_dec dk_X12_team 176 rfl) rfl rfl (Or.inl rfl) ?_
                      refine mm_imul C (mm_dec dk_X12_team 177 rfl) ⟨by omega, by omega⟩ ?_
                      refine mm_iconst C (mm_dec dk_X12_team 178 rfl) ⟨by decide, by decide⟩ ?_
                      refine mm_iadd C (mm_dec dk_X12_team 179 rfl) ⟨by omega, by omega⟩ ?_
                      refine mm_iload_n C (mm_dec dk_X12_team 180 rfl) rfl ?_
                      refine mm_iast C (mm_dec dk_X12_team 181 rfl) rfl (by omega) (by omega) ?_
                      have i5 : mm_inv (mm_pa h4 90 ((3 * (h4.1 66 24)) + 2) p3) := mm_inv_pa i4 (show 0 ≤ p3 ∧ p3 ≤ 39 from ⟨by omega, by omega⟩)
                      have f5 : mm_fr [(66, 0), (66, 24)] [88, 89, 90] h (mm_pa h4 90 ((3 * (h4.1 66 24)) + 2) p3) := mm_fr_pa f4 (by decide)
                      obtain ⟨h5, eh5⟩ : ∃ z, z = mm_pa h4 90 ((3 * (h4.1 66 24)) + 2) p3 := ⟨_, rfl⟩
                      rw [← eh5] at i5 f5 ⊢
                      have qh5_24 : h5.1 66 0 = h4.1 66 0 := by rw [eh5]; rfl
                      have qh5_25 : h5.1 66 23 = h4.1 66 23 := by rw [eh5]; rfl
                      have qh5_26 : h5.1 66 24 = h4.1 66 24 := by rw [eh5]; rfl
                      refine mm_iconst C (mm_dec dk_X12_team 182 rfl) ⟨by decide, by decide⟩ ?_
                      have J326 : ∀ (n : Nat) (x326_5 : Int) (bx326_5 : 0 ≤ x326_5 ∧ x326_5 ≤ 3) (h326_ : mH) (i326_ : mm_inv h326_) (f326_ : mm_fr [(66, 0), (66, 24)] [88, 89, 90] h h326_) (w326_0 : h326_.1 66 0 = 0) (w326_1 : h326_.1 66 24 = h.1 66 24) (w326_2 : h326_.2.1 90 (3 * h.1 66 24) = p1) (w326_3 : h326_.2.1 90 (3 * h.1 66 24 + 1) = p2) (w326_4 : h326_.2.1 90 (3 * h.1 66 24 + 2) = p3) (w326_5 : mm_tm h h326_ p1 p2 p3 (h.1 66 24) x326_5) (w326_6 : mm_tn9 h h326_ p1 p2 p3 x326_5) (w326_7 : mm_uc h h326_ p1 p2 p3 (h.1 66 24) 1), (3 - x326_5 : Int) < n → mm_W x 0 0 326 [mR 66, mU, mU, mU, mU, mI x326_5] [] h326_ := by
                        intro n
                        induction n with
                        | zero =>
                          intro x326_5 bx326_5 h326_ i326_ f326_ w326_0 w326_1 w326_2 w326_3 w326_4 w326_5 w326_6 w326_7 hm
                          have g27 : -2147483648 ≤ h326_.1 66 0 ∧ h326_.1 66 0 ≤ 2147483647 := i326_.1 66 0
                          have g28 : 0 ≤ h326_.1 66 23 ∧ h326_.1 66 23 ≤ 40 := i326_.1 66 23
                          have g29 : 0 ≤ h326_.1 66 24 ∧ h326_.1 66 24 ≤ 10 := i326_.1 66 24
                          exfalso; omega
                        | succ n ih326 =>
                          intro x326_5 bx326_5 h326_ i326_ f326_ w326_0 w326_1 w326_2 w326_3 w326_4 w326_5 w326_6 w326_7 hm326
                          have g30 : -2147483648 ≤ h326_.1 66 0 ∧ h326_.1 66 0 ≤ 2147483647 := i326_.1 66 0
                          have g31 : 0 ≤ h326_.1 66 23 ∧ h326_.1 66 23 ≤ 40 := i326_.1 66 23
                          have g32 : 0 ≤ h326_.1 66 24 ∧ h326_.1 66 24 ≤ 10 := i326_.1 66 24
                          have g33 : h326_.1 66 23 = h.1 66 23 := f326_.1 66 23 (by decide)
                          refine mm_iload C (mm_dec dk_X12_team 184 rfl) rfl ?_
                          refine mm_iconst C (mm_dec dk_X12_team 185 rfl) ⟨by decide, by decide⟩ ?_
                          refine mm_icmp_ge (tgt := 382) C (mm_dec dk_X12_team 186 rfl) (by decide) (fun c329 => ?_) (fun c329 => ?_)
                          · skip
                            refine mm_aload_n C (mm_dec dk_X12_team 216 rfl) rfl ?_
                            refine mm_dup C (mm_dec dk_X12_team 217 rfl) (show (2 : Nat) ≠ 1 by decide) ?_
                            refine mm_geti C fl_X12_225 (mm_dec dk_X12_team 218 rfl) rfl rfl (Or.inl rfl) ?_
                            refine mm_iconst C (mm_dec dk_X12_team 219 rfl) ⟨by decide, by decide⟩ ?_
                            refine mm_iadd C (mm_dec dk_X12_team 220 rfl) ⟨by omega, by omega⟩ ?_
                            refine mm_puti C fl_X12_225 (mm_dec dk_X12_team 221 rfl) rfl rfl rfl (Or.inl ⟨rfl, rfl⟩) ?_
                            have i6 : mm_inv (mm_pf h326_ 66 24 ((h326_.1 66 24) + 1)) := mm_inv_pf i326_ (show 0 ≤ ((h326_.1 66 24) + 1) ∧ ((h326_.1 66 24) + 1) ≤ 10 from ⟨by omega, by omega⟩) (by decide)
                            have f6 : mm_fr [(66, 0), (66, 24)] [88, 89, 90] h (mm_pf h326_ 66 24 ((h326_.1 66 24) + 1)) := mm_fr_pf f326_ (by decide)
                            obtain ⟨h6, eh6⟩ : ∃ z, z = mm_pf h326_ 66 24 ((h326_.1 66 24) + 1) := ⟨_, rfl⟩
                            rw [← eh6] at i6 f6 ⊢
                            have qh6 : h6.1 66 24 = ((h326_.1 66 24) + 1) := by rw [eh6]; exact mm_pf_same _ _ _ _
                            have qh6_34 : h6.1 66 0 = h326_.1 66 0 := by rw [eh6]; exact mm_pf_ne _ _ (by decide)
                            have qh6_35 : h6.1 66 23 = h326_.1 66 23 := by rw [eh6]; exact mm_pf_ne _ _ (by decide)
                            refine mm_aload_n C (mm_dec dk_X12_team 222 rfl) rfl ?_
                            refine mm_geti C fl_X12_225 (mm_dec dk_X12_team 223 rfl) rfl rfl (Or.inl rfl) ?_
                            refine mm_iconst C (mm_dec dk_X12_team 224 rfl) ⟨by decide, by decide⟩ ?_
                            refine mm_isub C (mm_dec dk_X12_team 225 rfl) ⟨by omega, by omega⟩ ?_
                            exact mm_iret C T (mm_dec dk_X12_team 226 rfl) (by decide : 0 ≤ 0) (by decide : 0 ≤ 0) ⟨_, rfl, ⟨⟨by omega, by omega⟩, i6, f6, by omega, by first | exact ⟨0, Or.inr ⟨rfl, by omega⟩, mm_u3_no (by decide) w45_3, mm_ub_no (by decide) w45_4, mm_uc_no (by decide) w45_5⟩ | exact ⟨0, Or.inr ⟨rfl, by omega⟩, mm_u3_no (by decide) z88, mm_ub_no (by decide) z89, mm_uc_no (by decide) (fun _ => ((g39c.2 90 (by decide) _).trans (g2c.2 90 (by decide) _)))⟩ | exact ⟨1, Or.inl ⟨rfl, by omega⟩, mm_u3_tr (fun _ => rfl) (mm_tm_3 w326_5 (by omega)) (fun _ => (mm_sm_pf 88 eh6 _)) rfl, mm_ub_tr (fun _ => rfl) (mm_tn9_3 w326_6 (by omega)) (fun _ => (mm_sm_pf 89 eh6 _)) rfl, mm_uc_tr (fun _ => rfl) w326_7 (fun _ => (mm_sm_pf 90 eh6 _))⟩⟩⟩
                          · skip
                            refine mm_aload_n C (mm_dec dk_X12_team 187 rfl) rfl ?_
                            refine mm_getr (t := 88) C fl_X12_75 (mm_dec dk_X12_team 188 rfl) rfl rfl (mm_ref i326_ rfl) ?_
                            refine mm_aload_n C (mm_dec dk_X12_team 189 rfl) rfl ?_
                            refine mm_getr (t := 90) C fl_X12_81 (mm_dec dk_X12_team 190 rfl) rfl rfl (mm_ref i326_ rfl) ?_
                            refine mm_iconst C (mm_dec dk_X12_team 191 rfl) ⟨by decide, by decide⟩ ?_
                            refine mm_aload_n C (mm_dec dk_X12_team 192 rfl) rfl ?_
                            refine mm_geti C fl_X12_225 (mm_dec dk_X12_team 193 rfl) rfl rfl (Or.inl rfl) ?_
                            refine mm_imul C (mm_dec dk_X12_team 194 rfl) ⟨by omega, by omega⟩ ?_
                            refine mm_iload C (mm_dec dk_X12_team 195 rfl) rfl ?_
                            refine mm_iadd C (mm_dec dk_X12_team 196 rfl) ⟨by omega, by omega⟩ ?_
                            refine mm_iald C (mm_dec dk_X12_team 197 rfl) rfl (by omega) (by omega) ?_
                            have g36 : 0 ≤ (h326_.2.1 90 ((3 * (h326_.1 66 24)) + x326_5)) ∧ (h326_.2.1 90 ((3 * (h326_.1 66 24)) + x326_5)) ≤ 39 := i326_.2.1 90 ((3 * (h326_.1 66 24)) + x326_5)
                            have zv := mm_tm_v (r := h326_.2.1 90) (t := h.1 66 24) (t' := h326_.1 66 24) (x := x326_5) w326_1 w326_2 w326_3 w326_4 (by omega) (by omega)
                            refine mm_aload_n C (mm_dec dk_X12_team 198 rfl) rfl ?_
                            refine mm_geti C fl_X12_225 (mm_dec dk_X12_team 199 rfl) rfl rfl (Or.inl rfl) ?_
                            refine mm_iast C (mm_dec dk_X12_team 200 rfl) rfl (by omega) (by omega) ?_
                            have i7 : mm_inv (mm_pa h326_ 88 (h326_.2.1 90 ((3 * (h326_.1 66 24)) + x326_5)) (h326_.1 66 24)) := mm_inv_pa i326_ (show -1 ≤ (h326_.1 66 24) ∧ (h326_.1 66 24) ≤ 9 from ⟨by omega, by omega⟩)
                            have f7 : mm_fr [(66, 0), (66, 24)] [88, 89, 90] h (mm_pa h326_ 88 (h326_.2.1 90 ((3 * (h326_.1 66 24)) + x326_5)) (h326_.1 66 24)) := mm_fr_pa f326_ (by decide)
                            obtain ⟨h7, eh7⟩ : ∃ z, z = mm_pa h326_ 88 (h326_.2.1 90 ((3 * (h326_.1 66 24)) + x326_5)) (h326_.1 66 24) := ⟨_, rfl⟩
                            rw [← eh7] at i7 f7 ⊢
                            have qh7_37 : h7.1 66 0 = h326_.1 66 0 := by rw [eh7]; rfl
                            have qh7_38 : h7.1 66 23 = h326_.1 66 23 := by rw [eh7]; rfl
                            have qh7_39 : h7.1 66 24 = h326_.1 66 24 := by rw [eh7]; rfl
                            refine mm_aload_n C (mm_dec dk_X12_team 201 rfl) rfl ?_
                            refine mm_getr (t := 89) C fl_X12_78 (mm_dec dk_X12_team 202 rfl) rfl rfl (mm_ref i7 rfl) ?_
                            refine mm_aload_n C (mm_dec dk_X12_team 203 rfl) rfl ?_
                            refine mm_getr (t := 90) C fl_X12_81 (mm_dec dk_X12_team 204 rfl) rfl rfl (mm_ref i7 rfl) ?_
                            refine mm_iconst C (mm_dec dk_X12_team 205 rfl) ⟨by decide, by decide⟩ ?_
                            refine mm_aload_n C (mm_dec dk_X12_team 206 rfl) rfl ?_
                            refine mm_geti C fl_X12_225 (mm_dec dk_X12_team 207 rfl) rfl rfl (Or.inl rfl) ?_
                            refine mm_imul C (mm_dec dk_X12_team 208 rfl) ⟨by omega, by omega⟩ ?_
                            refine mm_iload C (mm_dec dk_X12_team 209 rfl) rfl ?_
                            refine mm_iadd C (mm_dec dk_X12_team 210 rfl) ⟨by omega, by omega⟩ ?_
                            refine mm_iald C (mm_dec dk_X12_team 211 rfl) rfl (by omega) (by omega) ?_
                            have g40 : 0 ≤ (h7.2.1 90 ((3 * (h7.1 66 24)) + x326_5)) ∧ (h7.2.1 90 ((3 * (h7.1 66 24)) + x326_5)) ≤ 39 := i7.2.1 90 ((3 * (h7.1 66 24)) + x326_5)
                            refine mm_iload C (mm_dec dk_X12_team 212 rfl) rfl ?_
                            refine mm_iast C (mm_dec dk_X12_team 213 rfl) rfl (by omega) (by omega) ?_
                            have i8 : mm_inv (mm_pa h7 89 (h7.2.1 90 ((3 * (h7.1 66 24)) + x326_5)) x326_5) := mm_inv_pa i7 (show 0 ≤ x326_5 ∧ x326_5 ≤ 2 from ⟨by omega, by omega⟩)
                            have f8 : mm_fr [(66, 0), (66, 24)] [88, 89, 90] h (mm_pa h7 89 (h7.2.1 90 ((3 * (h7.1 66 24)) + x326_5)) x326_5) := mm_fr_pa f7 (by decide)
                            obtain ⟨h8, eh8⟩ : ∃ z, z = mm_pa h7 89 (h7.2.1 90 ((3 * (h7.1 66 24)) + x326_5)) x326_5 := ⟨_, rfl⟩
                            rw [← eh8] at i8 f8 ⊢
                            have qh8_41 : h8.1 66 0 = h7.1 66 0 := by rw [eh8]; rfl
                            have qh8_42 : h8.1 66 23 = h7.1 66 23 := by rw [eh8]; rfl
                            have qh8_43 : h8.1 66 24 = h7.1 66 24 := by rw [eh8]; rfl
                            refine mm_iincL (ls2 := [mR 66, mU, mU, mU, mU, mI (x326_5 + 1)]) C (mm_dec dk_X12_team 214 rfl) rfl (by decide) ⟨by omega, by omega⟩ rfl ?_
                            refine mm_goto (tgt := 326) C (mm_dec dk_X12_team 215 rfl) (by decide) ?_
                            exact ih326 (x326_5 + 1) ⟨by omega, by omega⟩ h8 i8 f8 (by omega) (by omega) (by first | exact (mm_pa_off eh5 (by omega)).trans ((mm_pa_off eh4 (by omega)).trans (mm_pa_at eh3 (by omega))) | exact ((fun _ => ((mm_sm_pa 90 eh8 (by decide) _).trans (mm_sm_pa 90 eh7 (by decide) _))) _).trans w326_2) (by first | exact (mm_pa_off eh5 (by omega)).trans (mm_pa_at eh4 (by omega)) | exact ((fun _ => ((mm_sm_pa 90 eh8 (by decide) _).trans (mm_sm_pa 90 eh7 (by decide) _))) _).trans w326_3) (by first | exact mm_pa_at eh5 (by omega) | exact ((fun _ => ((mm_sm_pa 90 eh8 (by decide) _).trans (mm_sm_pa 90 eh7 (by decide) _))) _).trans w326_4) (by first | exact mm_tm_0 (fun _ => ((mm_sm_pa 88 eh5 (by decide) _).trans ((mm_sm_pa 88 eh4 (by decide) _).trans ((mm_sm_pa 88 eh3 (by decide) _).trans ((g39c.2 88 (by decide) _).trans (g2c.2 88 (by decide) _)))))) | exact mm_tm_s w326_5 eh7 (by omega) (fun _ => (mm_sm_pa 88 eh8 (by decide) _)) zv) (by first | exact mm_tn9_0 (fun _ => ((mm_sm_pa 89 eh5 (by decide) _).trans ((mm_sm_pa 89 eh4 (by decide) _).trans ((mm_sm_pa 89 eh3 (by decide) _).trans ((g39c.2 89 (by decide) _).trans (g2c.2 89 (by decide) _)))))) | exact mm_tn9_s (mm_tn9_tr w326_6 (fun _ => (mm_sm_pa 89 eh7 (by decide) _))) eh8 rfl (fun _ => rfl) (by rw [mm_sm_pa 90 eh7 (by decide), show h7.1 66 24 = h326_.1 66 24 from by rw [eh7]; rfl]; exact zv)) (by first | exact mm_uc_pa (fun _ => ((g39c.2 90 (by decide) _).trans (g2c.2 90 (by decide) _))) eh3 eh4 eh5 (by omega) (by omega) (by omega) (fun _ => rfl) | exact mm_uc_tr (fun _ => rfl) w326_7 (fun _ => ((mm_sm_pa 90 eh8 (by decide) _).trans (mm_sm_pa 90 eh7 (by decide) _)))) (by omega)
                      refine mm_istoreL (ls2 := [mR 66, mI p1, mI p2, mI p3, mI x158_4, mI 0]) C (mm_dec dk_X12_team 183 rfl) (by decide) rfl ?_
                      refine mm_fgt 1 ?_
                      refine mm_fgt 2 ?_
                      refine mm_fgt 3 ?_
                      refine mm_fgt 4 ?_
                      exact J326 (((3 - 0) : Int) + 1).toNat 0 ⟨by omega, by omega⟩ h5 i5 f5 (by omega) (by omega) (by first | exact (mm_pa_off eh5 (by omega)).trans ((mm_pa_off eh4 (by omega)).trans (mm_pa_at eh3 (by omega))) | exact ((fun _ => ((mm_sm_pa 90 eh8 (by decide) _).trans (mm_sm_pa 90 eh7 (by decide) _))) _).trans w326_2) (by first | exact (mm_pa_off eh5 (by omega)).trans (mm_pa_at eh4 (by omega)) | exact ((fun _ => ((mm_sm_pa 90 eh8 (by decide) _).trans (mm_sm_pa 90 eh7 (by decide) _))) _).trans w326_3) (by first | exact mm_pa_at eh5 (by omega) | exact ((fun _ => ((mm_sm_pa 90 eh8 (by decide) _).trans (mm_sm_pa 90 eh7 (by decide) _))) _).trans w326_4) (by first | exact mm_tm_0 (fun _ => ((mm_sm_pa 88 eh5 (by decide) _).trans ((mm_sm_pa 88 eh4 (by decide) _).trans ((mm_sm_pa 88 eh3 (by decide) _).trans ((g39c.2 88 (by decide) _).trans (g2c.2 88 (by decide) _)))))) | exact mm_tm_s w326_5 eh7 (by omega) (fun _ => (mm_sm_pa 88 eh8 (by decide) _)) zv) (by first | exact mm_tn9_0 (fun _ => ((mm_sm_pa 89 eh5 (by decide) _).trans ((mm_sm_pa 89 eh4 (by decide) _).trans ((mm_sm_pa 89 eh3 (by decide) _).trans ((g39c.2 89 (by decide) _).trans (g2c.2 89 (by decide) _)))))) | exact mm_tn9_s (mm_tn9_tr w326_6 (fun _ => (mm_sm_pa 89 eh7 (by decide) _))) eh8 rfl (fun _ => rfl) (by rw [mm_sm_pa 90 eh7 (by decide), show h7.1 66 24 = h326_.1 66 24 from by rw [eh7]; rfl]; exact zv)) (by first | exact mm_uc_pa (fun _ => ((g39c.2 90 (by decide) _).trans (g2c.2 90 (by decide) _))) eh3 eh4 eh5 (by omega) (by omega) (by omega) (fun _ => rfl) | exact mm_uc_tr (fun _ => rfl) w326_7 (fun _ => ((mm_sm_pa 90 eh8 (by decide) _).trans (mm_sm_pa 90 eh7 (by decide) _)))) (by omega)
                    · skip
                      refine mm_fgt 0 ?_
                      refine mm_fgt 1 ?_
                      refine mm_fgt 2 ?_
                      refine mm_fgt 3 ?_
                      refine mm_fgt 4 ?_
                      exact J281 (by omega)
                have zE : x158_5 < h.2.1 81 (h.2.1 85 p1) ∨ mm_ds (h.2.1 87 p1) (h.2.1 87 p2) (h.2.1 87 p3) (x158_5).toNat = mm_ds (h.2.1 87 p1) (h.2.1 87 p2) (h.2.1 87 p3) (h.2.1 81 (h.2.1 85 p1)).toNat := mm_ds_E (by omega) (by omega)
                refine mm_icmp_ge (tgt := 267) C (mm_dec dk_X12_team 98 rfl) (by decide) (fun c171 => ?_) (fun c171 => ?_)
                · skip
                  refine mm_fgt 5 ?_
                  exact J267 (by exact mm_gu_y (by omega))
                · skip
                  refine mm_iload C (mm_dec dk_X12_team 99 rfl) rfl ?_
                  refine mm_if_eq (tgt := 267) C (mm_dec dk_X12_team 100 rfl) (by decide) (fun c176 => ?_) (fun c176 => ?_)
                  · skip
                    refine mm_fgt 5 ?_
                    exact J267 (by exact mm_gu_y (by omega))
                  · skip
                    refine mm_aload_n C (mm_dec dk_X12_team 101 rfl) rfl ?_
                    refine mm_getr (t := 87) C fl_X12_72 (mm_dec dk_X12_team 102 rfl) rfl rfl (mm_ref i39c rfl) ?_
                    refine mm_iload_n C (mm_dec dk_X12_team 103 rfl) rfl ?_
                    refine mm_iald C (mm_dec dk_X12_team 104 rfl) rfl (by omega) (by omega) ?_
                    have g44 : 0 ≤ (h39c.2.1 87 p1) ∧ (h39c.2.1 87 p1) ≤ 80 := i39c.2.1 87 p1
                    refine mm_iload C (mm_dec dk_X12_team 105 rfl) rfl ?_
                    refine mm_cSi (rest := []) C1 es_X12_299 (mm_dec dk_X12_team 106 rfl) (c_X12_digit_q x.2.1 hl (d - 1) (by omega) h39c i39c (h39c.2.1 87 p1) x158_5 ⟨by omega, by omega⟩) rfl (Nat.le_of_ble_eq_true rfl) ⟨by decide, by decide⟩ rfl (fun r187 h187c hp187 => ?_) (fun _ _ q => q.elim)
                    obtain ⟨b187, z187, y187_0⟩ := hp187
                    rw [z187]
                    refine mm_aload_n C (mm_dec dk_X12_team 107 rfl) rfl ?_
                    refine mm_getr (t := 87) C fl_X12_72 (mm_dec dk_X12_team 108 rfl) rfl rfl (mm_ref i39c rfl) ?_
                    refine mm_iload_n C (mm_dec dk_X12_team 109 rfl) rfl ?_
                    refine mm_iald C (mm_dec dk_X12_team 110 rfl) rfl (by omega) (by omega) ?_
                    have g46 : 0 ≤ (h39c.2.1 87 p2) ∧ (h39c.2.1 87 p2) ≤ 80 := i39c.2.1 87 p2
                    refine mm_iload C (mm_dec dk_X12_team 111 rfl) rfl ?_
                    refine mm_cSi (rest := [mI r187]) C1 es_X12_299 (mm_dec dk_X12_team 112 rfl) (c_X12_digit_q x.2.1 hl (d - 1) (by omega) h39c i39c (h39c.2.1 87 p2) x158_5 ⟨by omega, by omega⟩) rfl (Nat.le_of_ble_eq_true rfl) ⟨by decide, by decide⟩ rfl (fun r198 h198c hp198 => ?_) (fun _ _ q => q.elim)
                    obtain ⟨b198, z198, y198_0⟩ := hp198
                    rw [z198]
                    have J259 : ∀ (s259_0 : Int) (bs259_0 : 0 ≤ s259_0 ∧ s259_0 ≤ 1) (w259_0 : ((s259_0 = 1 ∧ mm_ds (h.2.1 87 p1) (h.2.1 87 p2) (h.2.1 87 p3) (x158_5 + 1).toNat = 1) ∨ (s259_0 = 0 ∧ mm_ds (h.2.1 87 p1) (h.2.1 87 p2) (h.2.1 87 p3) (h.2.1 81 (h.2.1 85 p1)).toNat = 0))) (vs259_0 : (s259_0 = 0) ∨ (r187 ≠ r198 ∧ s259_0 = 1)), mm_W x 0 0 259 [mR 66, mI p1, mI p2, mI p3, mU, mI x158_5] [mI s259_0] h39c := by
                      intro s259_0 bs259_0 w259_0 vs259_0
                      refine mm_istoreL (ls2 := [mR 66, mI p1, mI p2, mI p3, mI s259_0, mI x158_5]) C (mm_dec dk_X12_team 143 rfl) (by decide) rfl ?_
                      refine mm_iincL (ls2 := [mR 66, mI p1, mI p2, mI p3, mI s259_0, mI (x158_5 + 1)]) C (mm_dec dk_X12_team 144 rfl) rfl (by decide) ⟨by omega, by omega⟩ rfl ?_
                      refine mm_goto (tgt := 158) C (mm_dec dk_X12_team 145 rfl) (by decide) ?_
                      exact ih158 s259_0 ⟨by omega, by omega⟩ (x158_5 + 1) ⟨by omega, by omega⟩ (by first | (have z0 : mm_ds (h.2.1 87 p1) (h.2.1 87 p2) (h.2.1 87 p3) (0 : Int).toNat = 1 := rfl; omega) | omega) (by omega) (by omega)
                    have J258 : ∀ (w258_0 : mm_ds (h.2.1 87 p1) (h.2.1 87 p2) (h.2.1 87 p3) (h.2.1 81 (h.2.1 85 p1)).toNat = 0), mm_W x 0 0 258 [mR 66, mI p1, mI p2, mI p3, mU, mI x158_5] [] h39c := by
                      intro w258_0
                      refine mm_iconst C (mm_dec dk_X12_team 142 rfl) ⟨by decide, by decide⟩ ?_
                      exact J259 0 ⟨by omega, by omega⟩ (by omega) (Or.inl rfl)
                    have e187 : r187 = mm_dv (h.2.1 87 p1) (x158_5).toNat % 3 := by rw [← v87_p1]; exact y187_0
                    have e198 : r198 = mm_dv (h.2.1 87 p2) (x158_5).toNat % 3 := by rw [← v87_p2]; exact y198_0
                    refine mm_icmp_eq (tgt := 258) C (mm_dec dk_X12_team 113 rfl) (by decide) (fun c201 => ?_) (fun c201 => ?_)
                    · skip
                      refine mm_fgt 4 ?_
                      exact J258 (by first | exact mm_ds_hit (i := x158_5) e187 e198 rfl (by omega) (by omega) (by omega) | exact mm_ds_hit (i := x158_5) rfl e212 e223 (by omega) (by omega) (by omega) | exact mm_ds_hit (i := x158_5) e237 rfl e248 (by omega) (by omega) (by omega))
                    · skip
                      refine mm_aload_n C (mm_dec dk_X12_team 114 rfl) rfl ?_
                      refine mm_getr (t := 87) C fl_X12_72 (mm_dec dk_X12_team 115 rfl) rfl rfl (mm_ref i39c rfl) ?_
                      refine mm_iload_n C (mm_dec dk_X12_team 116 rfl) rfl ?_
                      refine mm_iald C (mm_dec dk_X12_team 117 rfl) rfl (by omega) (by omega) ?_
                      refine mm_iload C (mm_dec dk_X12_team 118 rfl) rfl ?_
                      refine mm_cSi (rest := []) C1 es_X12_299 (mm_dec dk_X12_team 119 rfl) (c_X12_digit_q x.2.1 hl (d - 1) (by omega) h39c i39c (h39c.2.1 87 p2) x158_5 ⟨by omega, by omega⟩) rfl (Nat.le_of_ble_eq_true rfl) ⟨by decide, by decide⟩ rfl (fun r212 h212c hp212 => ?_) (fun _ _ q => q.elim)
                      obtain ⟨b212, z212, y212_0⟩ := hp212
                      rw [z212]
                      refine mm_aload_n C (mm_dec dk_X12_team 120 rfl) rfl ?_
                      refine mm_getr (t := 87) C fl_X12_72 (mm_dec dk_X12_team 121 rfl) rfl rfl (mm_ref i39c rfl) ?_
                      refine mm_iload_n C (mm_dec dk_X12_team 122 rfl) rfl ?_
                      refine mm_iald C (mm_dec dk_X12_team 123 rfl) rfl (by omega) (by omega) ?_
                      have g49 : 0 ≤ (h39c.2.1 87 p3) ∧ (h39c.2.1 87 p3) ≤ 80 := i39c.2.1 87 p3
                      refine mm_iload C (mm_dec dk_X12_team 124 rfl) rfl ?_
                      refine mm_cSi (rest := [mI r212]) C1 es_X12_299 (mm_dec dk_X12_team 125 rfl) (c_X12_digit_q x.2.1 hl (d - 1) (by omega) h39c i39c (h39c.2.1 87 p3) x158_5 ⟨by omega, by omega⟩) rfl (Nat.le_of_ble_eq_true rfl) ⟨by decide, by decide⟩ rfl (fun r223 h223c hp223 => ?_) (fun _ _ q => q.elim)
                      obtain ⟨b223, z223, y223_0⟩ := hp223
                      rw [z223]
                      have e212 : r212 = mm_dv (h.2.1 87 p2) (x158_5).toNat % 3 := by rw [← v87_p2]; exact y212_0
                      have e223 : r223 = mm_dv (h.2.1 87 p3) (x158_5).toNat % 3 := by rw [← v87_p3]; exact y223_0
                      refine mm_icmp_eq (tgt := 258) C (mm_dec dk_X12_team 126 rfl) (by decide) (fun c226 => ?_) (fun c226 => ?_)
                      · skip
                        refine mm_fgt 4 ?_
                        exact J258 (by first | exact mm_ds_hit (i := x158_5) e187 e198 rfl (by omega) (by omega) (by omega) | exact mm_ds_hit (i := x158_5) rfl e212 e223 (by omega) (by omega) (by omega) | exact mm_ds_hit (i := x158_5) e237 rfl e248 (by omega) (by omega) (by omega))
                      · skip
                        refine mm_aload_n C (mm_dec dk_X12_team 127 rfl) rfl ?_
                        refine mm_getr (t := 87) C fl_X12_72 (mm_dec dk_X12_team 128 rfl) rfl rfl (mm_ref i39c rfl) ?_
                        refine mm_iload_n C (mm_dec dk_X12_team 129 rfl) rfl ?_
                        refine mm_iald C (mm_dec dk_X12_team 130 rfl) rfl (by omega) (by omega) ?_
                        refine mm_iload C (mm_dec dk_X12_team 131 rfl) rfl ?_
                        refine mm_cSi (rest := []) C1 es_X12_299 (mm_dec dk_X12_team 132 rfl) (c_X12_digit_q x.2.1 hl (d - 1) (by omega) h39c i39c (h39c.2.1 87 p1) x158_5 ⟨by omega, by omega⟩) rfl (Nat.le_of_ble_eq_true rfl) ⟨by decide, by decide⟩ rfl (fun r237 h237c hp237 => ?_) (fun _ _ q => q.elim)
                        obtain ⟨b237, z237, y237_0⟩ := hp237
                        rw [z237]
                        refine mm_aload_n C (mm_dec dk_X12_team 133 rfl) rfl ?_
                        refine mm_getr (t := 87) C fl_X12_72 (mm_dec dk_X12_team 134 rfl) rfl rfl (mm_ref i39c rfl) ?_
                        refine mm_iload_n C (mm_dec dk_X12_team 135 rfl) rfl ?_
                        refine mm_iald C (mm_dec dk_X12_team 136 rfl) rfl (by omega) (by omega) ?_
                        refine mm_iload C (mm_dec dk_X12_team 137 rfl) rfl ?_
                        refine mm_cSi (rest := [mI r237]) C1 es_X12_299 (mm_dec dk_X12_team 138 rfl) (c_X12_digit_q x.2.1 hl (d - 1) (by omega) h39c i39c (h39c.2.1 87 p3) x158_5 ⟨by omega, by omega⟩) rfl (Nat.le_of_ble_eq_true rfl) ⟨by decide, by decide⟩ rfl (fun r248 h248c hp248 => ?_) (fun _ _ q => q.elim)
                        obtain ⟨b248, z248, y248_0⟩ := hp248
                        rw [z248]
                        have e237 : r237 = mm_dv (h.2.1 87 p1) (x158_5).toNat % 3 := by rw [← v87_p1]; exact y237_0
                        have e248 : r248 = mm_dv (h.2.1 87 p3) (x158_5).toNat % 3 := by rw [← v87_p3]; exact y248_0
                        refine mm_icmp_eq (tgt := 258) C (mm_dec dk_X12_team 139 rfl) (by decide) (fun c251 => ?_) (fun c251 => ?_)
                        · skip
                          refine mm_fgt 4 ?_
                          exact J258 (by first | exact mm_ds_hit (i := x158_5) e187 e198 rfl (by omega) (by omega) (by omega) | exact mm_ds_hit (i := x158_5) rfl e212 e223 (by omega) (by omega) (by omega) | exact mm_ds_hit (i := x158_5) e237 rfl e248 (by omega) (by omega) (by omega))
                        · skip
                          have zs : mm_ds (h.2.1 87 p1) (h.2.1 87 p2) (h.2.1 87 p3) (x158_5 + 1).toNat = 1 := mm_ds_step (by omega) e187 e198 e223 (by omega) (by omega) (by omega) (by omega)
                          refine mm_iconst C (mm_dec dk_X12_team 140 rfl) ⟨by decide, by decide⟩ ?_
                          refine mm_goto (tgt := 259) C (mm_dec dk_X12_team 141 rfl) (by decide) ?_
                          refine mm_fgt 4 ?_
                          exact J259 1 ⟨by omega, by omega⟩ (by omega) (Or.inr (⟨by omega, rfl⟩))
            refine mm_istoreL (ls2 := [mR 66, mI p1, mI p2, mI p3, mI s153_0, mI 0]) C (mm_dec dk_X12_team 89 rfl) (by decide) rfl ?_
            exact J158 (((2147483647 - 0) : Int) + 1).toNat s153_0 ⟨by omega, by omega⟩ 0 ⟨by omega, by omega⟩ (by first | (have z0 : mm_ds (h.2.1 87 p1) (h.2.1 87 p2) (h.2.1 87 p3) (0 : Int).toNat = 1 := rfl; omega) | omega) (by omega) (by omega)
          have J152 : ∀ (w152_0 : (mm_g1 h p1 p2 p3 ≠ 1 ∨ h.2.1 88 p1 ≠ -1 ∨ h.2.1 88 p2 ≠ -1 ∨ h.2.1 88 p3 ≠ -1)), mm_W x 0 0 152 [mR 66, mI p1, mI p2, mI p3, mU, mU] [] h39c := by
            intro w152_0
            refine mm_iconst C (mm_dec dk_X12_team 86 rfl) ⟨by decide, by decide⟩ ?_
            exact J153 0 ⟨by omega, by omega⟩ (by first | exact mm_g2_x (Or.inr ⟨rfl, w152_0⟩) | exact mm_g2_x (Or.inl ⟨rfl, by omega⟩)) (Or.inl rfl)
          refine mm_if_eq (tgt := 152) C (mm_dec dk_X12_team 65 rfl) (by decide) (fun c115 => ?_) (fun c115 => ?_)
          · skip
            refine mm_fgt 4 ?_
            exact J152 (by omega)
          · skip
            refine mm_aload_n C (mm_dec dk_X12_team 66 rfl) rfl ?_
            refine mm_getr (t := 88) C fl_X12_75 (mm_dec dk_X12_team 67 rfl) rfl rfl (mm_ref i39c rfl) ?_
            refine mm_iload_n C (mm_dec dk_X12_team 68 rfl) rfl ?_
            refine mm_iald C (mm_dec dk_X12_team 69 rfl) rfl (by omega) (by omega) ?_
            have g53 : -1 ≤ (h39c.2.1 88 p1) ∧ (h39c.2.1 88 p1) ≤ 9 := i39c.2.1 88 p1
            refine mm_iconst C (mm_dec dk_X12_team 70 rfl) ⟨by decide, by decide⟩ ?_
            refine mm_icmp_ne (tgt := 152) C (mm_dec dk_X12_team 71 rfl) (by decide) (fun c125 => ?_) (fun c125 => ?_)
            · skip
              refine mm_fgt 4 ?_
              exact J152 (by omega)
            · skip
              refine mm_aload_n C (mm_dec dk_X12_team 72 rfl) rfl ?_
              refine mm_getr (t := 88) C fl_X12_75 (mm_dec dk_X12_team 73 rfl) rfl rfl (mm_ref i39c rfl) ?_
              refine mm_iload_n C (mm_dec dk_X12_team 74 rfl) rfl ?_
              refine mm_iald C (mm_dec dk_X12_team 75 rfl) rfl (by omega) (by omega) ?_
              have g54 : -1 ≤ (h39c.2.1 88 p2) ∧ (h39c.2.1 88 p2) ≤ 9 := i39c.2.1 88 p2
              refine mm_iconst C (mm_dec dk_X12_team 76 rfl) ⟨by decide, by decide⟩ ?_
              refine mm_icmp_ne (tgt := 152) C (mm_dec dk_X12_team 77 rfl) (by decide) (fun c135 => ?_) (fun c135 => ?_)
              · skip
                refine mm_fgt 4 ?_
                exact J152 (by omega)
              · skip
                refine mm_aload_n C (mm_dec dk_X12_team 78 rfl) rfl ?_
                refine mm_getr (t := 88) C fl_X12_75 (mm_dec dk_X12_team 79 rfl) rfl rfl (mm_ref i39c rfl) ?_
                refine mm_iload_n C (mm_dec dk_X12_team 80 rfl) rfl ?_
                refine mm_iald C (mm_dec dk_X12_team 81 rfl) rfl (by omega) (by omega) ?_
                have g55 : -1 ≤ (h39c.2.1 88 p3) ∧ (h39c.2.1 88 p3) ≤ 9 := i39c.2.1 88 p3
                refine mm_iconst C (mm_dec dk_X12_team 82 rfl) ⟨by decide, by decide⟩ ?_
                refine mm_icmp_ne (tgt := 152) C (mm_dec dk_X12_team 83 rfl) (by decide) (fun c145 => ?_) (fun c145 => ?_)
                · skip
                  refine mm_fgt 4 ?_
                  exact J152 (by omega)
                · skip
                  refine mm_iconst C (mm_dec dk_X12_team 84 rfl) ⟨by decide, by decide⟩ ?_
                  refine mm_goto (tgt := 153) C (mm_dec dk_X12_team 85 rfl) (by decide) ?_
                  refine mm_fgt 4 ?_
                  exact J153 1 ⟨by omega, by omega⟩ (by first | exact mm_g2_x (Or.inr ⟨rfl, w152_0⟩) | exact mm_g2_x (Or.inl ⟨rfl, by omega⟩)) (Or.inr (⟨by omega, by omega, by omega, by omega, rfl⟩))
        have J110 : ∀ (w110_0 : (p1 = p2 ∨ p2 = p3 ∨ p1 = p3 ∨ h.2.1 85 p1 ≠ h.2.1 85 p2 ∨ h.2.1 85 p2 ≠ h.2.1 85 p3 ∨ h.2.1 83 (h.2.1 85 p1) ≠ 0)), mm_W x 0 0 110 [mR 66, mI p1, mI p2, mI p3, mU, mU] [] h39c := by
          intro w110_0
          refine mm_iconst C (mm_dec dk_X12_team 62 rfl) ⟨by decide, by decide⟩ ?_
          exact J111 0 ⟨by omega, by omega⟩ (by first | exact mm_g1_x (Or.inr ⟨rfl, w110_0⟩) | exact mm_g1_x (Or.inl ⟨rfl, by omega⟩)) (Or.inl rfl)
        refine mm_icmp_eq (tgt := 110) C (mm_dec dk_X12_team 27 rfl) (by decide) (fun c49 => ?_) (fun c49 => ?_)
        · skip
          exact J110 (by omega)
        · skip
          refine mm_iload_n C (mm_dec dk_X12_team 28 rfl) rfl ?_
          refine mm_iload_n C (mm_dec dk_X12_team 29 rfl) rfl ?_
          refine mm_icmp_eq (tgt := 110) C (mm_dec dk_X12_team 30 rfl) (by decide) (fun c54 => ?_) (fun c54 => ?_)
          · skip
            exact J110 (by omega)
          · skip
            refine mm_iload_n C (mm_dec dk_X12_team 31 rfl) rfl ?_
            refine mm_iload_n C (mm_dec dk_X12_team 32 rfl) rfl ?_
            refine mm_icmp_eq (tgt := 110) C (mm_dec dk_X12_team 33 rfl) (by decide) (fun c59 => ?_) (fun c59 => ?_)
            · skip
              exact J110 (by omega)
            · skip
              refine mm_aload_n C (mm_dec dk_X12_team 34 rfl) rfl ?_
              refine mm_getr (t := 85) C fl_X12_66 (mm_dec dk_X12_team 35 rfl) rfl rfl (mm_ref i39c rfl) ?_
              refine mm_iload_n C (mm_dec dk_X12_team 36 rfl) rfl ?_
              refine mm_iald C (mm_dec dk_X12_team 37 rfl) rfl (by omega) (by omega) ?_
              have g56 : 0 ≤ (h39c.2.1 85 p1) ∧ (h39c.2.1 85 p1) ≤ 7 := i39c.2.1 85 p1
              refine mm_aload_n C (mm_dec dk_X12_team 38 rfl) rfl ?_
              refine mm_getr (t := 85) C fl_X12_66 (mm_dec dk_X12_team 39 rfl) rfl rfl (mm_ref i39c rfl) ?_
              refine mm_iload_n C (mm_dec dk_X12_team 40 rfl) rfl ?_
              refine mm_iald C (mm_dec dk_X12_team 41 rfl) rfl (by omega) (by omega) ?_
              have g57 : 0 ≤ (h39c.2.1 85 p2) ∧ (h39c.2.1 85 p2) ≤ 7 := i39c.2.1 85 p2
              refine mm_icmp_ne (tgt := 110) C (mm_dec dk_X12_team 42 rfl) (by decide) (fun c74 => ?_) (fun c74 => ?_)
              · skip
                exact J110 (by omega)
              · skip
                refine mm_aload_n C (mm_dec dk_X12_team 43 rfl) rfl ?_
                refine mm_getr (t := 85) C fl_X12_66 (mm_dec dk_X12_team 44 rfl) rfl rfl (mm_ref i39c rfl) ?_
                refine mm_iload_n C (mm_dec dk_X12_team 45 rfl) rfl ?_
                refine mm_iald C (mm_dec dk_X12_team 46 rfl) rfl (by omega) (by omega) ?_
                refine mm_aload_n C (mm_dec dk_X12_team 47 rfl) rfl ?_
                refine mm_getr (t := 85) C fl_X12_66 (mm_dec dk_X12_team 48 rfl) rfl rfl (mm_ref i39c rfl) ?_
                refine mm_iload_n C (mm_dec dk_X12_team 49 rfl) rfl ?_
                refine mm_iald C (mm_dec dk_X12_team 50 rfl) rfl (by omega) (by omega) ?_
                have g58 : 0 ≤ (h39c.2.1 85 p3) ∧ (h39c.2.1 85 p3) ≤ 7 := i39c.2.1 85 p3
                refine mm_icmp_ne (tgt := 110) C (mm_dec dk_X12_team 51 rfl) (by decide) (fun c89 => ?_) (fun c89 => ?_)
                · skip
                  exact J110 (by omega)
                · skip
                  refine mm_aload_n C (mm_dec dk_X12_team 52 rfl) rfl ?_
                  refine mm_getr (t := 83) C fl_X12_60 (mm_dec dk_X12_team 53 rfl) rfl rfl (mm_ref i39c rfl) ?_
                  refine mm_aload_n C (mm_dec dk_X12_team 54 rfl) rfl ?_
                  refine mm_getr (t := 85) C fl_X12_66 (mm_dec dk_X12_team 55 rfl) rfl rfl (mm_ref i39c rfl) ?_
                  refine mm_iload_n C (mm_dec dk_X12_team 56 rfl) rfl ?_
                  refine mm_iald C (mm_dec dk_X12_team 57 rfl) rfl (by omega) (by omega) ?_
                  refine mm_zald C (mm_dec dk_X12_team 58 rfl) rfl (by omega) (by omega) ?_
                  have g59 : 0 ≤ (h39c.2.1 83 (h39c.2.1 85 p1)) ∧ (h39c.2.1 83 (h39c.2.1 85 p1)) ≤ 1 := i39c.2.1 83 (h39c.2.1 85 p1)
                  refine mm_if_ne (tgt := 110) C (mm_dec dk_X12_team 59 rfl) (by decide) (fun c103 => ?_) (fun c103 => ?_)
                  · skip
                    exact J110 (by omega)
                  · skip
                    refine mm_iconst C (mm_dec dk_X12_team 60 rfl) ⟨by decide, by decide⟩ ?_
                    refine mm_goto (tgt := 111) C (mm_dec dk_X12_team 61 rfl) (by decide) ?_
                    exact J111 1 ⟨by omega, by omega⟩ (by first | exact mm_g1_x (Or.inr ⟨rfl, w110_0⟩) | exact mm_g1_x (Or.inl ⟨rfl, by omega⟩)) (Or.inr (⟨by omega, by omega, by omega, by omega, by omega, by omega, rfl⟩))
      · skip
        refine mm_fgt 0 ?_
        refine mm_fgt 1 ?_
        refine mm_fgt 2 ?_
        refine mm_fgt 3 ?_
        exact J45 h39c i39c f39c (by omega) (by omega) (by omega) (by first | exact (fun _ => (g2c.2 88 (by decide) _)) | exact (fun _ => ((g39c.2 88 (by decide) _).trans (g2c.2 88 (by decide) _)))) (by first | exact (fun _ => (g2c.2 89 (by decide) _)) | exact (fun _ => ((g39c.2 89 (by decide) _).trans (g2c.2 89 (by decide) _)))) (by first | exact (fun _ => (g2c.2 90 (by decide) _)) | exact (fun _ => ((g39c.2 90 (by decide) _).trans (g2c.2 90 (by decide) _))))
    have J37 : ∀ (w37_0 : (p2 < 0 ∨ h.1 66 23 ≤ p2 ∨ p3 < 0 ∨ h.1 66 23 ≤ p3)), mm_W x 0 0 37 [mR 66, mI p1, mI p2, mI p3, mU, mU] [mR 66] h2c := by
      intro w37_0
      refine mm_iconst C (mm_dec dk_X12_team 19 rfl) ⟨by decide, by decide⟩ ?_
      exact J38 0 ⟨by omega, by omega⟩ (by omega) (Or.inl rfl)
    refine mm_if_lt (tgt := 37) C (mm_dec dk_X12_team 6 rfl) (by decide) (fun c10 => ?_) (fun c10 => ?_)
    · skip
      exact J37 (by omega)
    · skip
      refine mm_iload_n C (mm_dec dk_X12_team 7 rfl) rfl ?_
      refine mm_aload_n C (mm_dec dk_X12_team 8 rfl) rfl ?_
      refine mm_geti C fl_X12_222 (mm_dec dk_X12_team 9 rfl) rfl rfl (Or.inl rfl) ?_
      refine mm_icmp_ge (tgt := 37) C (mm_dec dk_X12_team 10 rfl) (by decide) (fun c18 => ?_) (fun c18 => ?_)
      · skip
        exact J37 (by omega)
      · skip
        refine mm_iload_n C (mm_dec dk_X12_team 11 rfl) rfl ?_
        refine mm_if_lt (tgt := 37) C (mm_dec dk_X12_team 12 rfl) (by decide) (fun c22 => ?_) (fun c22 => ?_)
        · skip
          exact J37 (by omega)
        · skip
          refine mm_iload_n C (mm_dec dk_X12_team 13 rfl) rfl ?_
          refine mm_aload_n C (mm_dec dk_X12_team 14 rfl) rfl ?_
          refine mm_geti C fl_X12_222 (mm_dec dk_X12_team 15 rfl) rfl rfl (Or.inl rfl) ?_
          refine mm_icmp_ge (tgt := 37) C (mm_dec dk_X12_team 16 rfl) (by decide) (fun c30 => ?_) (fun c30 => ?_)
          · skip
            exact J37 (by omega)
          · skip
            refine mm_iconst C (mm_dec dk_X12_team 17 rfl) ⟨by decide, by decide⟩ ?_
            refine mm_goto (tgt := 38) C (mm_dec dk_X12_team 18 rfl) (by decide) ?_
            exact J38 1 ⟨by omega, by omega⟩ (by omega) (Or.inr (⟨by omega, by omega, by omega, by omega, rfl⟩))
set_option maxRecDepth 100000 in
set_option maxHeartbeats 4000000 in
theorem c_X5_build_q (l : Launch) (hl : l.stackTraces = false) (d : Nat) (hd : 0 ≤ d) (h : mH) (i0 : mm_inv h) (p1 : Int) (p2 : Int) (p3 : Int) (bp1 : 0 ≤ p1 ∧ p1 ≤ 399) (bp3 : 0 ≤ p3 ∧ p3 ≤ 1) : mm_Met l d yX5_build cX5_build 4 none [mR 1, mI p1, mI p2, mI p3] h (mm_pv fun h2 => mm_inv h2 ∧ mm_fr [] [4, 5] h h2 ∧ (∃ f g : Int, ((p2 = 1 ∧ f = 1 ∧ g = 0) ∨ (p2 ≠ 1 ∧ f = 0 ∧ g = 1)) ∧ mm_up h h2 4 p1 p3 f ∧ mm_up h h2 5 p1 p3 g)) mm_nx 0 0 := by
  refine mm_ofW (ls := [mR 1, mI p1, mI p2, mI p3]) hl (by decide) rfl (Nat.le_of_ble_eq_true rfl) ?_
  intro x hxl C T hnm htb
  subst hxl
  refine mm_rng (fun hr _ => ?_)
  have ap1 : -2147483648 ≤ p1 ∧ p1 < 2147483648 := mm_ok_at hr (i := 1) rfl
  have ap2 : -2147483648 ≤ p2 ∧ p2 < 2147483648 := mm_ok_at hr (i := 2) rfl
  have ap3 : -2147483648 ≤ p3 ∧ p3 < 2147483648 := mm_ok_at hr (i := 3) rfl
  have f0 : mm_fr [] [4, 5] h h := mm_fr_rf
  refine mm_iload_n C (mm_dec dk_X5_build 0 rfl) rfl ?_
  refine mm_iconst C (mm_dec dk_X5_build 1 rfl) ⟨by decide, by decide⟩ ?_
  have J22 : ∀ (h22_ : mH) (i22_ : mm_inv h22_) (f22_ : mm_fr [] [4, 5] h h22_) (w22_0 : (∃ f g : Int, ((p2 = 1 ∧ f = 1 ∧ g = 0) ∨ (p2 ≠ 1 ∧ f = 0 ∧ g = 1)) ∧ mm_up h h22_ 4 p1 p3 f ∧ mm_up h h22_ 5 p1 p3 g)), mm_W x 0 0 22 [mU, mU, mU, mU] [] h22_ := by
    intro h22_ i22_ f22_ w22_0
    exact mm_vret C T (mm_dec dk_X5_build 14 rfl) (by decide : 0 ≤ 0) (by decide : 0 ≤ 0) ⟨rfl, ⟨i22_, f22_, by first | exact w22_0 | exact ⟨1, 0, Or.inl ⟨by omega, rfl, rfl⟩, mm_up_pa (fun _ => rfl) eh2 (fun _ => rfl) rfl rfl, mm_up_no (by decide) (fun _ => (mm_sm_pa 5 eh2 (by decide) _))⟩ | exact ⟨0, 1, Or.inr ⟨by omega, rfl, rfl⟩, mm_up_no (by decide) (fun _ => (mm_sm_pa 4 eh1 (by decide) _)), mm_up_pa (fun _ => rfl) eh1 (fun _ => rfl) rfl rfl⟩⟩⟩
  refine mm_icmp_ne (tgt := 15) C (mm_dec dk_X5_build 2 rfl) (by decide) (fun c2 => ?_) (fun c2 => ?_)
  · skip
    refine mm_aload_n C (mm_dec dk_X5_build 9 rfl) rfl ?_
    refine mm_getr (t := 5) C fl_X5_22 (mm_dec dk_X5_build 10 rfl) rfl rfl (mm_ref i0 rfl) ?_
    refine mm_iload_n C (mm_dec dk_X5_build 11 rfl) rfl ?_
    refine mm_iload_n C (mm_dec dk_X5_build 12 rfl) rfl ?_
    refine mm_zast C (mm_dec dk_X5_build 13 rfl) rfl (by omega) (by omega) (by omega) ?_
    have i1 : mm_inv (mm_pa h 5 p1 p3) := mm_inv_pa i0 (show 0 ≤ p3 ∧ p3 ≤ 1 from ⟨by omega, by omega⟩)
    have f1 : mm_fr [] [4, 5] h (mm_pa h 5 p1 p3) := mm_fr_pa f0 (by decide)
    obtain ⟨h1, eh1⟩ : ∃ z, z = mm_pa h 5 p1 p3 := ⟨_, rfl⟩
    rw [← eh1] at i1 f1 ⊢
    refine mm_fgt 0 ?_
    refine mm_fgt 1 ?_
    refine mm_fgt 2 ?_
    refine mm_fgt 3 ?_
    exact J22 h1 i1 f1 (by first | exact ⟨1, 0, Or.inl ⟨by omega, rfl, rfl⟩, mm_up_pa (fun _ => rfl) eh2 (fun _ => rfl) rfl rfl, mm_up_no (by decide) (fun _ => (mm_sm_pa 5 eh2 (by decide) _))⟩ | exact ⟨0, 1, Or.inr ⟨by omega, rfl, rfl⟩, mm_up_no (by decide) (fun _ => (mm_sm_pa 4 eh1 (by decide) _)), mm_up_pa (fun _ => rfl) eh1 (fun _ => rfl) rfl rfl⟩)
  · skip
    refine mm_aload_n C (mm_dec dk_X5_build 3 rfl) rfl ?_
    refine mm_getr (t := 4) C fl_X5_18 (mm_dec dk_X5_build 4 rfl) rfl rfl (mm_ref i0 rfl) ?_
    refine mm_iload_n C (mm_dec dk_X5_build 5 rfl) rfl ?_
    refine mm_iload_n C (mm_dec dk_X5_build 6 rfl) rfl ?_
    refine mm_zast C (mm_dec dk_X5_build 7 rfl) rfl (by omega) (by omega) (by omega) ?_
    have i2 : mm_inv (mm_pa h 4 p1 p3) := mm_inv_pa i0 (show 0 ≤ p3 ∧ p3 ≤ 1 from ⟨by omega, by omega⟩)
    have f2 : mm_fr [] [4, 5] h (mm_pa h 4 p1 p3) := mm_fr_pa f0 (by decide)
    obtain ⟨h2, eh2⟩ : ∃ z, z = mm_pa h 4 p1 p3 := ⟨_, rfl⟩
    rw [← eh2] at i2 f2 ⊢
    refine mm_goto (tgt := 22) C (mm_dec dk_X5_build 8 rfl) (by decide) ?_
    refine mm_fgt 0 ?_
    refine mm_fgt 1 ?_
    refine mm_fgt 2 ?_
    refine mm_fgt 3 ?_
    exact J22 h2 i2 f2 (by first | exact ⟨1, 0, Or.inl ⟨by omega, rfl, rfl⟩, mm_up_pa (fun _ => rfl) eh2 (fun _ => rfl) rfl rfl, mm_up_no (by decide) (fun _ => (mm_sm_pa 5 eh2 (by decide) _))⟩ | exact ⟨0, 1, Or.inr ⟨by omega, rfl, rfl⟩, mm_up_no (by decide) (fun _ => (mm_sm_pa 4 eh1 (by decide) _)), mm_up_pa (fun _ => rfl) eh1 (fun _ => rfl) rfl rfl⟩)
set_option maxRecDepth 100000 in
set_option maxHeartbeats 4000000 in
theorem c_X11_wall_q (l : Launch) (hl : l.stackTraces = false) (d : Nat) (hd : 9 ≤ d) (h : mH) (i0 : mm_inv h) (p1 : Int) (p2 : Int) (p3 : Int) (p4 : Int) (bp4 : 0 ≤ p4 ∧ p4 ≤ 1) : mm_Met l d yX11_wall cX11_wall 6 (some .boolean) [mR 0, mI p1, mI p2, mI p3, mI p4] h (mm_pi fun r h2 => (0 ≤ r ∧ r ≤ 1) ∧ mm_inv h2 ∧ mm_fr [] [4, 5] h h2 ∧ (0 ≤ p1 ∧ p1 < h.1 1 5 ∧ 0 ≤ p2 ∧ p2 < h.1 1 6) ∧ ((r = 1 ∧ (h.1 22 8 ≤ 0 ∧ ((p3 = 1 ∧ p1 + 1 < h.1 1 5) ∨ (p3 = 2 ∧ p2 + 1 < h.1 1 6)))) ∨ (r = 0 ∧ (0 < h.1 22 8 ∨ (p3 ≠ 1 ∧ p3 ≠ 2) ∨ (p3 = 1 ∧ h.1 1 5 ≤ p1 + 1) ∨ (p3 = 2 ∧ h.1 1 6 ≤ p2 + 1)))) ∧ (∃ f g : Int, ((r = 0 ∧ f = 0 ∧ g = 0) ∨ (r = 1 ∧ p3 = 1 ∧ f = 1 ∧ g = 0) ∨ (r = 1 ∧ p3 ≠ 1 ∧ f = 0 ∧ g = 1)) ∧ mm_up h h2 4 (20 * p2 + p1) p4 f ∧ mm_up h h2 5 (20 * p2 + p1) p4 g)) (fun E h' => mm_xn h E h' ∧ (p1 < 0 ∨ h.1 1 5 ≤ p1 ∨ p2 < 0 ∨ h.1 1 6 ≤ p2)) 1 6 := by
  refine mm_ofW (ls := [mR 0, mI p1, mI p2, mI p3, mI p4, mU]) hl (by decide) rfl (Nat.le_of_ble_eq_true rfl) ?_
  intro x hxl C T hnm htb
  subst hxl
  have C1 := mm_OK_le (d' := d - 1 + 1) (by omega) C
  have C8 := mm_OK_le (d' := d - 8 + 8) (by omega) C
  refine mm_rng (fun hr _ => ?_)
  have ap1 : -2147483648 ≤ p1 ∧ p1 < 2147483648 := mm_ok_at hr (i := 1) rfl
  have ap2 : -2147483648 ≤ p2 ∧ p2 < 2147483648 := mm_ok_at hr (i := 2) rfl
  have ap3 : -2147483648 ≤ p3 ∧ p3 < 2147483648 := mm_ok_at hr (i := 3) rfl
  have ap4 : -2147483648 ≤ p4 ∧ p4 < 2147483648 := mm_ok_at hr (i := 4) rfl
  have f0 : mm_fr [] [4, 5] h h := mm_fr_rf
  refine mm_aload_n C (mm_dec dk_X11_wall 0 rfl) rfl ?_
  refine mm_iload_n C (mm_dec dk_X11_wall 1 rfl) rfl ?_
  refine mm_iload_n C (mm_dec dk_X11_wall 2 rfl) rfl ?_
  refine mm_cVi (rest := []) C1 ev_X11_122 (mm_dec dk_X11_wall 3 rfl) (c_X11_needCell_q x.2.1 hl (d - 1) (by omega) h i0 p1 p2) rfl rfl (Nat.le_of_ble_eq_true rfl) ⟨by decide, by decide⟩ rfl (fun r3 h3c hp3 => ?_) (fun E hx q => mm_out C T htb (by decide) (by decide) (by obtain ⟨q1, q2⟩ := q; exact ⟨q1, by omega⟩))
  obtain ⟨z3, k3_0, k3_1, k3_2, k3_3, k3_4, y3⟩ := hp3
  rw [z3, y3]
  have g2 : 1 ≤ (h.1 1 5) ∧ (h.1 1 5) ≤ 20 := i0.1 1 5
  have g3 : 1 ≤ (h.1 1 6) ∧ (h.1 1 6) ≤ 20 := i0.1 1 6
  refine mm_istoreL (ls2 := [mR 0, mI p1, mI p2, mI p3, mI p4, mI ((p2 * 20) + p1)]) C (mm_dec dk_X11_wall 4 rfl) (by decide) rfl ?_
  have zc : p2 * 20 + p1 = 20 * p2 + p1 := by omega
  refine mm_aload_n C (mm_dec dk_X11_wall 5 rfl) rfl ?_
  refine mm_cVi (rest := []) C1 ev_X11_126 (mm_dec dk_X11_wall 6 rfl) (c_X11_landIsFixed x.2.1 hl (d - 1) (by omega) h i0 ) rfl rfl (Nat.le_of_ble_eq_true rfl) ⟨by decide, by decide⟩ rfl (fun r9 h9c hp9 => ?_) (fun _ _ q => q.elim)
  obtain ⟨z9, y9⟩ := hp9
  rw [z9]
  have g5 : 0 ≤ (h.1 22 8) ∧ (h.1 22 8) ≤ 40 := i0.1 22 8
  have J25 : ∀ (w25_0 : (0 ≤ p1 ∧ p1 < h.1 1 5 ∧ 0 ≤ p2 ∧ p2 < h.1 1 6)) (w25_1 : (0 < h.1 22 8 ∨ (p3 ≠ 1 ∧ p3 ≠ 2))), mm_W x 1 6 25 [mU, mU, mU, mU, mU, mU] [] h := by
    intro w25_0 w25_1
    refine mm_iconst C (mm_dec dk_X11_wall 14 rfl) ⟨by decide, by decide⟩ ?_
    exact mm_zret C T (mm_dec dk_X11_wall 15 rfl) (by decide : 1 ≤ 1) (by decide : 6 ≤ 6) (by omega) ⟨_, rfl, ⟨⟨by omega, by omega⟩, i0, f0, by omega, by omega, by first | exact ⟨0, 0, Or.inl ⟨rfl, rfl, rfl⟩, mm_up_no (by decide) (fun _ => rfl), mm_up_no (by decide) (fun _ => rfl)⟩ | (rw [← zc]; exact (let ⟨f, g, hf, uf, ug⟩ := y72_0; ⟨f, g, by omega, uf, ug⟩))⟩⟩
  refine mm_if_ne (tgt := 25) C (mm_dec dk_X11_wall 7 rfl) (by decide) (fun c12 => ?_) (fun c12 => ?_)
  · skip
    refine mm_fgt 0 ?_
    refine mm_fgt 1 ?_
    refine mm_fgt 2 ?_
    refine mm_fgt 3 ?_
    refine mm_fgt 4 ?_
    refine mm_fgt 5 ?_
    exact J25 (by omega) (by omega)
  · skip
    refine mm_iload_n C (mm_dec dk_X11_wall 8 rfl) rfl ?_
    refine mm_iconst C (mm_dec dk_X11_wall 9 rfl) ⟨by decide, by decide⟩ ?_
    have J27 : ∀ (w27_0 : (0 ≤ p1 ∧ p1 < h.1 1 5 ∧ 0 ≤ p2 ∧ p2 < h.1 1 6)) (w27_1 : h.1 22 8 ≤ 0) (w27_2 : (p3 = 1 ∨ p3 = 2)), mm_W x 1 6 27 [mR 0, mI p1, mI p2, mI p3, mI p4, mI ((p2 * 20) + p1)] [] h := by
      intro w27_0 w27_1 w27_2
      refine mm_aload_n C (mm_dec dk_X11_wall 16 rfl) rfl ?_
      refine mm_getr (t := 1) C fl_X11_12 (mm_dec dk_X11_wall 17 rfl) rfl rfl (mm_ref i0 rfl) ?_
      refine mm_iload_n C (mm_dec dk_X11_wall 18 rfl) rfl ?_
      refine mm_iconst C (mm_dec dk_X11_wall 19 rfl) ⟨by decide, by decide⟩ ?_
      have J43 : ∀ (s43_1 : Int) (bs43_1 : 0 ≤ s43_1 ∧ s43_1 ≤ 20) (w43_0 : (0 ≤ p1 ∧ p1 < h.1 1 5 ∧ 0 ≤ p2 ∧ p2 < h.1 1 6)) (w43_1 : h.1 22 8 ≤ 0) (w43_2 : ((p3 = 1 ∧ s43_1 = p1 + 1) ∨ (p3 = 2 ∧ s43_1 = p1))), mm_W x 1 6 43 [mR 0, mU, mI p2, mI p3, mI p4, mI ((p2 * 20) + p1)] [mI s43_1, mR 1] h := by
        intro s43_1 bs43_1 w43_0 w43_1 w43_2
        refine mm_iload_n C (mm_dec dk_X11_wall 26 rfl) rfl ?_
        refine mm_iconst C (mm_dec dk_X11_wall 27 rfl) ⟨by decide, by decide⟩ ?_
        have J55 : ∀ (s55_2 : Int) (bs55_2 : 0 ≤ s55_2 ∧ s55_2 ≤ 20) (w55_0 : (0 ≤ p1 ∧ p1 < h.1 1 5 ∧ 0 ≤ p2 ∧ p2 < h.1 1 6)) (w55_1 : h.1 22 8 ≤ 0) (w55_2 : ((p3 = 1 ∧ s43_1 = p1 + 1 ∧ s55_2 = p2) ∨ (p3 = 2 ∧ s43_1 = p1 ∧ s55_2 = p2 + 1))), mm_W x 1 6 55 [mR 0, mU, mU, mI p3, mI p4, mI ((p2 * 20) + p1)] [mI s55_2, mI s43_1, mR 1] h := by
          intro s55_2 bs55_2 w55_0 w55_1 w55_2
          refine mm_cVi (rest := []) C1 ev_X11_158 (mm_dec dk_X11_wall 34 rfl) (c_X5_holds x.2.1 hl (d - 1) (by omega) h i0 s43_1 s55_2) rfl rfl (Nat.le_of_ble_eq_true rfl) ⟨by decide, by decide⟩ rfl (fun r55 h55c hp55 => ?_) (fun _ _ q => q.elim)
          obtain ⟨z55, y55⟩ := hp55
          rw [z55]
          refine mm_if_ne (tgt := 63) C (mm_dec dk_X11_wall 35 rfl) (by decide) (fun c58 => ?_) (fun c58 => ?_)
          · skip
            refine mm_aload_n C (mm_dec dk_X11_wall 38 rfl) rfl ?_
            refine mm_getr (t := 1) C fl_X11_12 (mm_dec dk_X11_wall 39 rfl) rfl rfl (mm_ref i0 rfl) ?_
            refine mm_iload C (mm_dec dk_X11_wall 40 rfl) rfl ?_
            refine mm_iload_n C (mm_dec dk_X11_wall 41 rfl) rfl ?_
            refine mm_iload C (mm_dec dk_X11_wall 42 rfl) rfl ?_
            refine mm_cVv (rest := []) C1 ev_X11_162 (mm_dec dk_X11_wall 43 rfl) (c_X5_build_q x.2.1 hl (d - 1) (by omega) h i0 ((p2 * 20) + p1) p3 p4 ⟨by omega, by omega⟩ ⟨by omega, by omega⟩) rfl rfl (Nat.le_of_ble_eq_true rfl) ⟨by decide, by decide⟩ rfl (fun h72c hp72 => ?_) (fun _ _ q => q.elim)
            obtain ⟨i72c, g72c, y72_0⟩ := hp72
            have f72c : mm_fr [] [4, 5] h h72c := mm_fr_tr f0 g72c (by decide +kernel)
            have q72c_8 : h72c.1 1 5 = h.1 1 5 := g72c.1 1 5 (by decide)
            have q72c_9 : h72c.1 1 6 = h.1 1 6 := g72c.1 1 6 (by decide)
            have q72c_10 : h72c.1 22 8 = h.1 22 8 := g72c.1 22 8 (by decide)
            refine mm_iconst C (mm_dec dk_X11_wall 44 rfl) ⟨by decide, by decide⟩ ?_
            exact mm_zret C T (mm_dec dk_X11_wall 45 rfl) (by decide : 1 ≤ 1) (by decide : 6 ≤ 6) (by omega) ⟨_, rfl, ⟨⟨by omega, by omega⟩, i72c, f72c, by omega, by omega, by first | exact ⟨0, 0, Or.inl ⟨rfl, rfl, rfl⟩, mm_up_no (by decide) (fun _ => rfl), mm_up_no (by decide) (fun _ => rfl)⟩ | (rw [← zc]; exact (let ⟨f, g, hf, uf, ug⟩ := y72_0; ⟨f, g, by omega, uf, ug⟩))⟩⟩
          · skip
            refine mm_iconst C (mm_dec dk_X11_wall 36 rfl) ⟨by decide, by decide⟩ ?_
            exact mm_zret C T (mm_dec dk_X11_wall 37 rfl) (by decide : 1 ≤ 1) (by decide : 6 ≤ 6) (by omega) ⟨_, rfl, ⟨⟨by omega, by omega⟩, i0, f0, by omega, by omega, by first | exact ⟨0, 0, Or.inl ⟨rfl, rfl, rfl⟩, mm_up_no (by decide) (fun _ => rfl), mm_up_no (by decide) (fun _ => rfl)⟩ | (rw [← zc]; exact (let ⟨f, g, hf, uf, ug⟩ := y72_0; ⟨f, g, by omega, uf, ug⟩))⟩⟩
        refine mm_icmp_ne (tgt := 54) C (mm_dec dk_X11_wall 28 rfl) (by decide) (fun c45 => ?_) (fun c45 => ?_)
        · skip
          refine mm_iload_n C (mm_dec dk_X11_wall 33 rfl) rfl ?_
          refine mm_fgt 2 ?_
          exact J55 p2 ⟨by omega, by omega⟩ (by omega) (by omega) (by omega)
        · skip
          refine mm_iload_n C (mm_dec dk_X11_wall 29 rfl) rfl ?_
          refine mm_iconst C (mm_dec dk_X11_wall 30 rfl) ⟨by decide, by decide⟩ ?_
          refine mm_iadd C (mm_dec dk_X11_wall 31 rfl) ⟨by omega, by omega⟩ ?_
          refine mm_goto (tgt := 55) C (mm_dec dk_X11_wall 32 rfl) (by decide) ?_
          refine mm_fgt 2 ?_
          exact J55 (p2 + 1) ⟨by omega, by omega⟩ (by omega) (by omega) (by omega)
      refine mm_icmp_ne (tgt := 42) C (mm_dec dk_X11_wall 20 rfl) (by decide) (fun c33 => ?_) (fun c33 => ?_)
      · skip
        refine mm_iload_n C (mm_dec dk_X11_wall 25 rfl) rfl ?_
        refine mm_fgt 1 ?_
        exact J43 p1 ⟨by omega, by omega⟩ (by omega) (by omega) (by omega)
      · skip
        refine mm_iload_n C (mm_dec dk_X11_wall 21 rfl) rfl ?_
        refine mm_iconst C (mm_dec dk_X11_wall 22 rfl) ⟨by decide, by decide⟩ ?_
        refine mm_iadd C (mm_dec dk_X11_wall 23 rfl) ⟨by omega, by omega⟩ ?_
        refine mm_goto (tgt := 43) C (mm_dec dk_X11_wall 24 rfl) (by decide) ?_
        refine mm_fgt 1 ?_
        exact J43 (p1 + 1) ⟨by omega, by omega⟩ (by omega) (by omega) (by omega)
    refine mm_icmp_eq (tgt := 27) C (mm_dec dk_X11_wall 10 rfl) (by decide) (fun c17 => ?_) (fun c17 => ?_)
    · skip
      exact J27 (by omega) (by omega) (by omega)
    · skip
      refine mm_iload_n C (mm_dec dk_X11_wall 11 rfl) rfl ?_
      refine mm_iconst C (mm_dec dk_X11_wall 12 rfl) ⟨by decide, by decide⟩ ?_
      refine mm_icmp_eq (tgt := 27) C (mm_dec dk_X11_wall 13 rfl) (by decide) (fun c22 => ?_) (fun c22 => ?_)
      · skip
        exact J27 (by omega) (by omega) (by omega)
      · skip
        refine mm_fgt 0 ?_
        refine mm_fgt 1 ?_
        refine mm_fgt 2 ?_
        refine mm_fgt 3 ?_
        refine mm_fgt 4 ?_
        refine mm_fgt 5 ?_
        exact J25 (by omega) (by omega)
set_option maxRecDepth 100000 in
set_option maxHeartbeats 4000000 in
theorem c_X12_wall_q (l : Launch) (hl : l.stackTraces = false) (d : Nat) (hd : 3 ≤ d) (h : mH) (i0 : mm_inv h) (p1 : Int) (p2 : Int) (p3 : Int) (p4 : Int) (bp4 : 0 ≤ p4 ∧ p4 ≤ 1) : mm_Met l d yX12_wall cX12_wall 5 (some .boolean) [mR 66, mI p1, mI p2, mI p3, mI p4] h (mm_pi fun r h2 => (0 ≤ r ∧ r ≤ 1) ∧ mm_inv h2 ∧ mm_fr [(66, 0)] [70, 71] h h2 ∧ (((0 ≤ p1 ∧ p1 < h.1 66 1 ∧ 0 ≤ p2 ∧ p2 < h.1 66 2) ∧ h2.1 66 0 = 0 ∧ ((r = 1 ∧ (h.1 66 23 ≤ 0 ∧ ((p3 = 1 ∧ p1 + 1 < h.1 66 1) ∨ (p3 = 2 ∧ p2 + 1 < h.1 66 2)))) ∨ (r = 0 ∧ (0 < h.1 66 23 ∨ (p3 ≠ 1 ∧ p3 ≠ 2) ∨ (p3 = 1 ∧ h.1 66 1 ≤ p1 + 1) ∨ (p3 = 2 ∧ h.1 66 2 ≤ p2 + 1))))) ∨ ((p1 < 0 ∨ h.1 66 1 ≤ p1 ∨ p2 < 0 ∨ h.1 66 2 ≤ p2) ∧ h2.1 66 0 = 1 ∧ r = 0)) ∧ (∃ f g : Int, ((r = 0 ∧ f = 0 ∧ g = 0) ∨ (r = 1 ∧ p3 = 1 ∧ f = 1 ∧ g = 0) ∨ (r = 1 ∧ p3 ≠ 1 ∧ f = 0 ∧ g = 1)) ∧ mm_up h h2 70 (20 * p2 + p1) p4 f ∧ mm_up h h2 71 (20 * p2 + p1) p4 g)) mm_nx 0 0 := by
  refine mm_ofW (ls := [mR 66, mI p1, mI p2, mI p3, mI p4]) hl (by decide) rfl (Nat.le_of_ble_eq_true rfl) ?_
  intro x hxl C T hnm htb
  subst hxl
  have C1 := mm_OK_le (d' := d - 1 + 1) (by omega) C
  refine mm_rng (fun hr _ => ?_)
  have ap1 : -2147483648 ≤ p1 ∧ p1 < 2147483648 := mm_ok_at hr (i := 1) rfl
  have ap2 : -2147483648 ≤ p2 ∧ p2 < 2147483648 := mm_ok_at hr (i := 2) rfl
  have ap3 : -2147483648 ≤ p3 ∧ p3 < 2147483648 := mm_ok_at hr (i := 3) rfl
  have ap4 : -2147483648 ≤ p4 ∧ p4 < 2147483648 := mm_ok_at hr (i := 4) rfl
  have f0 : mm_fr [(66, 0)] [70, 71] h h := mm_fr_rf
  have g1 : -2147483648 ≤ h.1 66 0 ∧ h.1 66 0 ≤ 2147483647 := i0.1 66 0
  have g2 : 1 ≤ h.1 66 1 ∧ h.1 66 1 ≤ 20 := i0.1 66 1
  have g3 : 1 ≤ h.1 66 2 ∧ h.1 66 2 ≤ 20 := i0.1 66 2
  have g4 : 0 ≤ h.1 66 23 ∧ h.1 66 23 ≤ 40 := i0.1 66 23
  refine mm_aload_n C (mm_dec dk_X12_wall 0 rfl) rfl ?_
  refine mm_iload_n C (mm_dec dk_X12_wall 1 rfl) rfl ?_
  refine mm_iload_n C (mm_dec dk_X12_wall 2 rfl) rfl ?_
  refine mm_cVi (rest := []) C1 ev_X12_255 (mm_dec dk_X12_wall 3 rfl) (c_X12_isCell_q x.2.1 hl (d - 1) (by omega) h i0 p1 p2) rfl rfl (Nat.le_of_ble_eq_true rfl) ⟨by decide, by decide⟩ rfl (fun r3 h3c hp3 => ?_) (fun _ _ q => q.elim)
  obtain ⟨b3, i3c, g3c, y3_0, y3_1⟩ := hp3
  have f3c : mm_fr [(66, 0)] [70, 71] h h3c := mm_fr_tr f0 g3c (by decide +kernel)
  have q3c_6 : h3c.1 66 1 = h.1 66 1 := g3c.1 66 1 (by decide)
  have q3c_7 : h3c.1 66 2 = h.1 66 2 := g3c.1 66 2 (by decide)
  have q3c_8 : h3c.1 66 23 = h.1 66 23 := g3c.1 66 23 (by decide)
  have g9 : -2147483648 ≤ (h3c.1 66 0) ∧ (h3c.1 66 0) ≤ 2147483647 := i3c.1 66 0
  have J26 : ∀ (w26_0 : (((0 ≤ p1 ∧ p1 < h.1 66 1 ∧ 0 ≤ p2 ∧ p2 < h.1 66 2) ∧ h3c.1 66 0 = 0 ∧ (0 < h.1 66 23 ∨ (p3 ≠ 1 ∧ p3 ≠ 2))) ∨ ((p1 < 0 ∨ h.1 66 1 ≤ p1 ∨ p2 < 0 ∨ h.1 66 2 ≤ p2) ∧ h3c.1 66 0 = 1))) (w26_1 : ∀ j, h3c.2.1 70 j = h.2.1 70 j) (w26_2 : ∀ j, h3c.2.1 71 j = h.2.1 71 j), mm_W x 0 0 26 [mU, mU, mU, mU, mU] [] h3c := by
    intro w26_0 w26_1 w26_2
    refine mm_iconst C (mm_dec dk_X12_wall 14 rfl) ⟨by decide, by decide⟩ ?_
    exact mm_zret C T (mm_dec dk_X12_wall 15 rfl) (by decide : 0 ≤ 0) (by decide : 0 ≤ 0) (by omega) ⟨_, rfl, ⟨⟨by omega, by omega⟩, i3c, f3c, by omega, by first | exact ⟨0, 0, Or.inl ⟨rfl, rfl, rfl⟩, mm_up_no (by decide) w26_1, mm_up_no (by decide) w26_2⟩ | exact ⟨0, 0, Or.inl ⟨rfl, rfl, rfl⟩, mm_up_no (by decide) (fun j => g3c.2 70 (by decide) j), mm_up_no (by decide) (fun j => g3c.2 71 (by decide) j)⟩ | exact (let ⟨f, g, hf, uf, ug⟩ := w92_3; ⟨f, g, by omega, uf, ug⟩)⟩⟩
  refine mm_if_eq (tgt := 26) C (mm_dec dk_X12_wall 4 rfl) (by decide) (fun c6 => ?_) (fun c6 => ?_)
  · skip
    refine mm_fgt 0 ?_
    refine mm_fgt 1 ?_
    refine mm_fgt 2 ?_
    refine mm_fgt 3 ?_
    refine mm_fgt 4 ?_
    exact J26 (by omega) (by exact (fun j => g3c.2 70 (by decide) j)) (by exact (fun j => g3c.2 71 (by decide) j))
  · skip
    refine mm_aload_n C (mm_dec dk_X12_wall 5 rfl) rfl ?_
    refine mm_geti C fl_X12_222 (mm_dec dk_X12_wall 6 rfl) rfl rfl (Or.inl rfl) ?_
    refine mm_if_gt (tgt := 26) C (mm_dec dk_X12_wall 7 rfl) (by decide) (fun c13 => ?_) (fun c13 => ?_)
    · skip
      refine mm_fgt 0 ?_
      refine mm_fgt 1 ?_
      refine mm_fgt 2 ?_
      refine mm_fgt 3 ?_
      refine mm_fgt 4 ?_
      exact J26 (by omega) (by exact (fun j => g3c.2 70 (by decide) j)) (by exact (fun j => g3c.2 71 (by decide) j))
    · skip
      refine mm_iload_n C (mm_dec dk_X12_wall 8 rfl) rfl ?_
      refine mm_iconst C (mm_dec dk_X12_wall 9 rfl) ⟨by decide, by decide⟩ ?_
      have J28 : ∀ (w28_0 : (0 ≤ p1 ∧ p1 < h.1 66 1 ∧ 0 ≤ p2 ∧ p2 < h.1 66 2)) (w28_1 : h3c.1 66 0 = 0) (w28_2 : h.1 66 23 ≤ 0) (w28_3 : (p3 = 1 ∨ p3 = 2)), mm_W x 0 0 28 [mR 66, mI p1, mI p2, mI p3, mI p4] [] h3c := by
        intro w28_0 w28_1 w28_2 w28_3
        refine mm_iload_n C (mm_dec dk_X12_wall 16 rfl) rfl ?_
        refine mm_iconst C (mm_dec dk_X12_wall 17 rfl) ⟨by decide, by decide⟩ ?_
        have J58 : ∀ (w58_0 : (0 ≤ p1 ∧ p1 < h.1 66 1 ∧ 0 ≤ p2 ∧ p2 < h.1 66 2)) (w58_1 : h3c.1 66 0 = 0) (w58_2 : (h.1 66 23 ≤ 0 ∧ ((p3 = 1 ∧ p1 + 1 < h.1 66 1) ∨ (p3 = 2 ∧ p2 + 1 < h.1 66 2)))), mm_W x 0 0 58 [mR 66, mI p1, mI p2, mI p3, mI p4] [] h3c := by
          intro w58_0 w58_1 w58_2
          refine mm_iload_n C (mm_dec dk_X12_wall 34 rfl) rfl ?_
          refine mm_iconst C (mm_dec dk_X12_wall 35 rfl) ⟨by decide, by decide⟩ ?_
          have J92 : ∀ (h92_ : mH) (i92_ : mm_inv h92_) (f92_ : mm_fr [(66, 0)] [70, 71] h h92_) (w92_0 : (0 ≤ p1 ∧ p1 < h.1 66 1 ∧ 0 ≤ p2 ∧ p2 < h.1 66 2)) (w92_1 : h92_.1 66 0 = 0) (w92_2 : (h.1 66 23 ≤ 0 ∧ ((p3 = 1 ∧ p1 + 1 < h.1 66 1) ∨ (p3 = 2 ∧ p2 + 1 < h.1 66 2)))) (w92_3 : (∃ f g : Int, ((p3 = 1 ∧ f = 1 ∧ g = 0) ∨ (p3 ≠ 1 ∧ f = 0 ∧ g = 1)) ∧ mm_up h h92_ 70 (20 * p2 + p1) p4 f ∧ mm_up h h92_ 71 (20 * p2 + p1) p4 g)), mm_W x 0 0 92 [mU, mU, mU, mU, mU] [] h92_ := by
            intro h92_ i92_ f92_ w92_0 w92_1 w92_2 w92_3
            have g10 : -2147483648 ≤ h92_.1 66 0 ∧ h92_.1 66 0 ≤ 2147483647 := i92_.1 66 0
            have g11 : 1 ≤ h92_.1 66 1 ∧ h92_.1 66 1 ≤ 20 := i92_.1 66 1
            have g12 : 1 ≤ h92_.1 66 2 ∧ h92_.1 66 2 ≤ 20 := i92_.1 66 2
            have g13 : 0 ≤ h92_.1 66 23 ∧ h92_.1 66 23 ≤ 40 := i92_.1 66 23
            have g14 : h92_.1 66 1 = h.1 66 1 := f92_.1 66 1 (by decide)
            have g15 : h92_.1 66 2 = h.1 66 2 := f92_.1 66 2 (by decide)
            have g16 : h92_.1 66 23 = h.1 66 23 := f92_.1 66 23 (by decide)
            refine mm_iconst C (mm_dec dk_X12_wall 56 rfl) ⟨by decide, by decide⟩ ?_
            exact mm_zret C T (mm_dec dk_X12_wall 57 rfl) (by decide : 0 ≤ 0) (by decide : 0 ≤ 0) (by omega) ⟨_, rfl, ⟨⟨by omega, by omega⟩, i92_, f92_, by omega, by first | exact ⟨0, 0, Or.inl ⟨rfl, rfl, rfl⟩, mm_up_no (by decide) w26_1, mm_up_no (by decide) w26_2⟩ | exact ⟨0, 0, Or.inl ⟨rfl, rfl, rfl⟩, mm_up_no (by decide) (fun j => g3c.2 70 (by decide) j), mm_up_no (by decide) (fun j => g3c.2 71 (by decide) j)⟩ | exact (let ⟨f, g, hf, uf, ug⟩ := w92_3; ⟨f, g, by omega, uf, ug⟩)⟩⟩
          refine mm_icmp_ne (tgt := 79) C (mm_dec dk_X12_wall 36 rfl) (by decide) (fun c60 => ?_) (fun c60 => ?_)
          · skip
            refine mm_aload_n C (mm_dec dk_X12_wall 47 rfl) rfl ?_
            refine mm_getr (t := 71) C fl_X12_23 (mm_dec dk_X12_wall 48 rfl) rfl rfl (mm_ref i3c rfl) ?_
            refine mm_bipush C (mm_dec dk_X12_wall 49 rfl) ⟨by decide, by decide⟩ ?_
            refine mm_iload_n C (mm_dec dk_X12_wall 50 rfl) rfl ?_
            refine mm_imul C (mm_dec dk_X12_wall 51 rfl) ⟨by omega, by omega⟩ ?_
            refine mm_iload_n C (mm_dec dk_X12_wall 52 rfl) rfl ?_
            refine mm_iadd C (mm_dec dk_X12_wall 53 rfl) ⟨by omega, by omega⟩ ?_
            refine mm_iload C (mm_dec dk_X12_wall 54 rfl) rfl ?_
            refine mm_zast C (mm_dec dk_X12_wall 55 rfl) rfl (by omega) (by omega) (by omega) ?_
            have i2 : mm_inv (mm_pa h3c 71 ((20 * p2) + p1) p4) := mm_inv_pa i3c (show 0 ≤ p4 ∧ p4 ≤ 1 from ⟨by omega, by omega⟩)
            have f2 : mm_fr [(66, 0)] [70, 71] h (mm_pa h3c 71 ((20 * p2) + p1) p4) := mm_fr_pa f3c (by decide)
            obtain ⟨h2, eh2⟩ : ∃ z, z = mm_pa h3c 71 ((20 * p2) + p1) p4 := ⟨_, rfl⟩
            rw [← eh2] at i2 f2 ⊢
            have qh2_17 : h2.1 66 0 = h3c.1 66 0 := by rw [eh2]; rfl
            have qh2_18 : h2.1 66 1 = h3c.1 66 1 := by rw [eh2]; rfl
            have qh2_19 : h2.1 66 2 = h3c.1 66 2 := by rw [eh2]; rfl
            have qh2_20 : h2.1 66 23 = h3c.1 66 23 := by rw [eh2]; rfl
            refine mm_fgt 0 ?_
            refine mm_fgt 1 ?_
            refine mm_fgt 2 ?_
            refine mm_fgt 3 ?_
            refine mm_fgt 4 ?_
            exact J92 h2 i2 f2 (by omega) (by omega) (by omega) (by first | exact ⟨1, 0, Or.inl ⟨by omega, rfl, rfl⟩, mm_up_pav (fun j => g3c.2 70 (by decide) j) eh3 (fun _ => rfl) (by omega) rfl rfl, mm_up_no (by decide) (fun _ => ((mm_sm_pa 71 eh3 (by decide) _).trans (g3c.2 71 (by decide) _)))⟩ | exact ⟨0, 1, Or.inr ⟨by omega, rfl, rfl⟩, mm_up_no (by decide) (fun _ => ((mm_sm_pa 70 eh2 (by decide) _).trans (g3c.2 70 (by decide) _))), mm_up_pav (fun j => g3c.2 71 (by decide) j) eh2 (fun _ => rfl) (by omega) rfl rfl⟩)
          · skip
            refine mm_aload_n C (mm_dec dk_X12_wall 37 rfl) rfl ?_
            refine mm_getr (t := 70) C fl_X12_19 (mm_dec dk_X12_wall 38 rfl) rfl rfl (mm_ref i3c rfl) ?_
            refine mm_bipush C (mm_dec dk_X12_wall 39 rfl) ⟨by decide, by decide⟩ ?_
            refine mm_iload_n C (mm_dec dk_X12_wall 40 rfl) rfl ?_
            refine mm_imul C (mm_dec dk_X12_wall 41 rfl) ⟨by omega, by omega⟩ ?_
            refine mm_iload_n C (mm_dec dk_X12_wall 42 rfl) rfl ?_
            refine mm_iadd C (mm_dec dk_X12_wall 43 rfl) ⟨by omega, by omega⟩ ?_
            refine mm_iload C (mm_dec dk_X12_wall 44 rfl) rfl ?_
            refine mm_zast C (mm_dec dk_X12_wall 45 rfl) rfl (by omega) (by omega) (by omega) ?_
            have i3 : mm_inv (mm_pa h3c 70 ((20 * p2) + p1) p4) := mm_inv_pa i3c (show 0 ≤ p4 ∧ p4 ≤ 1 from ⟨by omega, by omega⟩)
            have f3 : mm_fr [(66, 0)] [70, 71] h (mm_pa h3c 70 ((20 * p2) + p1) p4) := mm_fr_pa f3c (by decide)
            obtain ⟨h3, eh3⟩ : ∃ z, z = mm_pa h3c 70 ((20 * p2) + p1) p4 := ⟨_, rfl⟩
            rw [← eh3] at i3 f3 ⊢
            have qh3_21 : h3.1 66 0 = h3c.1 66 0 := by rw [eh3]; rfl
            have qh3_22 : h3.1 66 1 = h3c.1 66 1 := by rw [eh3]; rfl
            have qh3_23 : h3.1 66 2 = h3c.1 66 2 := by rw [eh3]; rfl
            have qh3_24 : h3.1 66 23 = h3c.1 66 23 := by rw [eh3]; rfl
            refine mm_goto (tgt := 92) C (mm_dec dk_X12_wall 46 rfl) (by decide) ?_
            refine mm_fgt 0 ?_
            refine mm_fgt 1 ?_
            refine mm_fgt 2 ?_
            refine mm_fgt 3 ?_
            refine mm_fgt 4 ?_
            exact J92 h3 i3 f3 (by omega) (by omega) (by omega) (by first | exact ⟨1, 0, Or.inl ⟨by omega, rfl, rfl⟩, mm_up_pav (fun j => g3c.2 70 (by decide) j) eh3 (fun _ => rfl) (by omega) rfl rfl, mm_up_no (by decide) (fun _ => ((mm_sm_pa 71 eh3 (by decide) _).trans (g3c.2 71 (by decide) _)))⟩ | exact ⟨0, 1, Or.inr ⟨by omega, rfl, rfl⟩, mm_up_no (by decide) (fun _ => ((mm_sm_pa 70 eh2 (by decide) _).trans (g3c.2 70 (by decide) _))), mm_up_pav (fun j => g3c.2 71 (by decide) j) eh2 (fun _ => rfl) (by omega) rfl rfl⟩)
        have J56 : ∀ (w56_0 : (0 ≤ p1 ∧ p1 < h.1 66 1 ∧ 0 ≤ p2 ∧ p2 < h.1 66 2)) (w56_1 : h3c.1 66 0 = 0) (w56_2 : (0 < h.1 66 23 ∨ (p3 ≠ 1 ∧ p3 ≠ 2) ∨ (p3 = 1 ∧ h.1 66 1 ≤ p1 + 1) ∨ (p3 = 2 ∧ h.1 66 2 ≤ p2 + 1))), mm_W x 0 0 56 [mU, mU, mU, mU, mU] [] h3c := by
          intro w56_0 w56_1 w56_2
          refine mm_iconst C (mm_dec dk_X12_wall 32 rfl) ⟨by decide, by decide⟩ ?_
          exact mm_zret C T (mm_dec dk_X12_wall 33 rfl) (by decide : 0 ≤ 0) (by decide : 0 ≤ 0) (by omega) ⟨_, rfl, ⟨⟨by omega, by omega⟩, i3c, f3c, by omega, by first | exact ⟨0, 0, Or.inl ⟨rfl, rfl, rfl⟩, mm_up_no (by decide) w26_1, mm_up_no (by decide) w26_2⟩ | exact ⟨0, 0, Or.inl ⟨rfl, rfl, rfl⟩, mm_up_no (by decide) (fun j => g3c.2 70 (by decide) j), mm_up_no (by decide) (fun j => g3c.2 71 (by decide) j)⟩ | exact (let ⟨f, g, hf, uf, ug⟩ := w92_3; ⟨f, g, by omega, uf, ug⟩)⟩⟩
        refine mm_icmp_ne (tgt := 46) C (mm_dec dk_X12_wall 18 rfl) (by decide) (fun c30 => ?_) (fun c30 => ?_)
        · skip
          refine mm_iload_n C (mm_dec dk_X12_wall 26 rfl) rfl ?_
          refine mm_iconst C (mm_dec dk_X12_wall 27 rfl) ⟨by decide, by decide⟩ ?_
          refine mm_iadd C (mm_dec dk_X12_wall 28 rfl) ⟨by omega, by omega⟩ ?_
          refine mm_aload_n C (mm_dec dk_X12_wall 29 rfl) rfl ?_
          refine mm_geti C fl_X12_195 (mm_dec dk_X12_wall 30 rfl) rfl rfl (Or.inl rfl) ?_
          refine mm_icmp_lt (tgt := 58) C (mm_dec dk_X12_wall 31 rfl) (by decide) (fun c53 => ?_) (fun c53 => ?_)
          · skip
            exact J58 (by omega) (by omega) (by omega)
          · skip
            refine mm_fgt 0 ?_
            refine mm_fgt 1 ?_
            refine mm_fgt 2 ?_
            refine mm_fgt 3 ?_
            refine mm_fgt 4 ?_
            exact J56 (by omega) (by omega) (by omega)
        · skip
          refine mm_iload_n C (mm_dec dk_X12_wall 19 rfl) rfl ?_
          refine mm_iconst C (mm_dec dk_X12_wall 20 rfl) ⟨by decide, by decide⟩ ?_
          refine mm_iadd C (mm_dec dk_X12_wall 21 rfl) ⟨by omega, by omega⟩ ?_
          refine mm_aload_n C (mm_dec dk_X12_wall 22 rfl) rfl ?_
          refine mm_geti C fl_X12_192 (mm_dec dk_X12_wall 23 rfl) rfl rfl (Or.inl rfl) ?_
          refine mm_icmp_lt (tgt := 58) C (mm_dec dk_X12_wall 24 rfl) (by decide) (fun c40 => ?_) (fun c40 => ?_)
          · skip
            exact J58 (by omega) (by omega) (by omega)
          · skip
            refine mm_goto (tgt := 56) C (mm_dec dk_X12_wall 25 rfl) (by decide) ?_
            refine mm_fgt 0 ?_
            refine mm_fgt 1 ?_
            refine mm_fgt 2 ?_
            refine mm_fgt 3 ?_
            refine mm_fgt 4 ?_
            exact J56 (by omega) (by omega) (by omega)
      refine mm_icmp_eq (tgt := 28) C (mm_dec dk_X12_wall 10 rfl) (by decide) (fun c18 => ?_) (fun c18 => ?_)
      · skip
        exact J28 (by omega) (by omega) (by omega) (by omega)
      · skip
        refine mm_iload_n C (mm_dec dk_X12_wall 11 rfl) rfl ?_
        refine mm_iconst C (mm_dec dk_X12_wall 12 rfl) ⟨by decide, by decide⟩ ?_
        refine mm_icmp_eq (tgt := 28) C (mm_dec dk_X12_wall 13 rfl) (by decide) (fun c23 => ?_) (fun c23 => ?_)
        · skip
          exact J28 (by omega) (by omega) (by omega) (by omega)
        · skip
          refine mm_fgt 0 ?_
          refine mm_fgt 1 ?_
          refine mm_fgt 2 ?_
          refine mm_fgt 3 ?_
          refine mm_fgt 4 ?_
          exact J26 (by omega) (by exact (fun j => g3c.2 70 (by decide) j)) (by exact (fun j => g3c.2 71 (by decide) j))
set_option maxRecDepth 100000 in
set_option maxHeartbeats 4000000 in
theorem c_X11_gates_q (l : Launch) (hl : l.stackTraces = false) (d : Nat) (hd : 9 ≤ d) (h : mH) (i0 : mm_inv h) (p1 : Int) (p2 : Int) (p3 : Int) (p4 : Int) : mm_Met l d yX11_gates cX11_gates 7 (some .boolean) [mR 0, mI p1, mI p2, mI p3, mI p4] h (mm_pi fun r h2 => (0 ≤ r ∧ r ≤ 1) ∧ mm_inv h2 ∧ mm_fr [(1, 7), (1, 8)] [] h h2 ∧ (0 ≤ p1 ∧ p1 < h.1 1 5 ∧ 0 ≤ p2 ∧ p2 < h.1 1 6) ∧ (0 ≤ p3 ∧ p3 < h.1 1 5 ∧ 0 ≤ p4 ∧ p4 < h.1 1 6) ∧ ((r = 1 ∧ h.1 22 8 ≤ 0) ∨ (r = 0 ∧ 0 < h.1 22 8)) ∧ ((r = 1 ∧ h2.1 1 7 = 20 * p2 + p1) ∨ (r = 0 ∧ h2.1 1 7 = h.1 1 7)) ∧ ((r = 1 ∧ h2.1 1 8 = 20 * p4 + p3) ∨ (r = 0 ∧ h2.1 1 8 = h.1 1 8))) (fun E h' => mm_xn h E h' ∧ ((p1 < 0 ∨ h.1 1 5 ≤ p1 ∨ p2 < 0 ∨ h.1 1 6 ≤ p2) ∨ (p3 < 0 ∨ h.1 1 5 ≤ p3 ∨ p4 < 0 ∨ h.1 1 6 ≤ p4))) 2 12 := by
  refine mm_ofW (ls := [mR 0, mI p1, mI p2, mI p3, mI p4, mU, mU]) hl (by decide) rfl (Nat.le_of_ble_eq_true rfl) ?_
  intro x hxl C T hnm htb
  subst hxl
  have C1 := mm_OK_le (d' := d - 1 + 1) (by omega) C
  have C8 := mm_OK_le (d' := d - 8 + 8) (by omega) C
  refine mm_rng (fun hr _ => ?_)
  have ap1 : -2147483648 ≤ p1 ∧ p1 < 2147483648 := mm_ok_at hr (i := 1) rfl
  have ap2 : -2147483648 ≤ p2 ∧ p2 < 2147483648 := mm_ok_at hr (i := 2) rfl
  have ap3 : -2147483648 ≤ p3 ∧ p3 < 2147483648 := mm_ok_at hr (i := 3) rfl
  have ap4 : -2147483648 ≤ p4 ∧ p4 < 2147483648 := mm_ok_at hr (i := 4) rfl
  have f0 : mm_fr [(1, 7), (1, 8)] [] h h := mm_fr_rf
  have g1 : 0 ≤ h.1 1 7 ∧ h.1 1 7 ≤ 399 := i0.1 1 7
  have g2 : 0 ≤ h.1 1 8 ∧ h.1 1 8 ≤ 399 := i0.1 1 8
  refine mm_aload_n C (mm_dec dk_X11_gates 0 rfl) rfl ?_
  refine mm_iload_n C (mm_dec dk_X11_gates 1 rfl) rfl ?_
  refine mm_iload_n C (mm_dec dk_X11_gates 2 rfl) rfl ?_
  refine mm_cVi (rest := []) C1 ev_X11_122 (mm_dec dk_X11_gates 3 rfl) (c_X11_needCell_q x.2.1 hl (d - 1) (by omega) h i0 p1 p2) rfl rfl (Nat.le_of_ble_eq_true rfl) ⟨by decide, by decide⟩ rfl (fun r3 h3c hp3 => ?_) (fun E hx q => mm_out C T htb (by decide) (by decide) (by obtain ⟨q1, q2⟩ := q; exact ⟨q1, by omega⟩))
  obtain ⟨z3, k3_0, k3_1, k3_2, k3_3, k3_4, y3⟩ := hp3
  rw [z3, y3]
  have g4 : 1 ≤ (h.1 1 5) ∧ (h.1 1 5) ≤ 20 := i0.1 1 5
  have g5 : 1 ≤ (h.1 1 6) ∧ (h.1 1 6) ≤ 20 := i0.1 1 6
  refine mm_istoreL (ls2 := [mR 0, mI p1, mI p2, mI p3, mI p4, mI ((p2 * 20) + p1), mU]) C (mm_dec dk_X11_gates 4 rfl) (by decide) rfl ?_
  refine mm_aload_n C (mm_dec dk_X11_gates 5 rfl) rfl ?_
  refine mm_iload_n C (mm_dec dk_X11_gates 6 rfl) rfl ?_
  refine mm_iload C (mm_dec dk_X11_gates 7 rfl) rfl ?_
  refine mm_cVi (rest := []) C1 ev_X11_122 (mm_dec dk_X11_gates 8 rfl) (c_X11_needCell_q x.2.1 hl (d - 1) (by omega) h i0 p3 p4) rfl rfl (Nat.le_of_ble_eq_true rfl) ⟨by decide, by decide⟩ rfl (fun r12 h12c hp12 => ?_) (fun E hx q => mm_out C T htb (by decide) (by decide) (by obtain ⟨q1, q2⟩ := q; exact ⟨q1, by omega⟩))
  obtain ⟨z12, k12_0, k12_1, k12_2, k12_3, k12_4, y12⟩ := hp12
  rw [z12, y12]
  refine mm_istoreL (ls2 := [mR 0, mI p1, mI p2, mI p3, mI p4, mI ((p2 * 20) + p1), mI ((p4 * 20) + p3)]) C (mm_dec dk_X11_gates 9 rfl) (by decide) rfl ?_
  refine mm_aload_n C (mm_dec dk_X11_gates 10 rfl) rfl ?_
  refine mm_cVi (rest := []) C1 ev_X11_126 (mm_dec dk_X11_gates 11 rfl) (c_X11_landIsFixed x.2.1 hl (d - 1) (by omega) h i0 ) rfl rfl (Nat.le_of_ble_eq_true rfl) ⟨by decide, by decide⟩ rfl (fun r18 h18c hp18 => ?_) (fun _ _ q => q.elim)
  obtain ⟨z18, y18⟩ := hp18
  rw [z18]
  have g8 : 0 ≤ (h.1 22 8) ∧ (h.1 22 8) ≤ 40 := i0.1 22 8
  refine mm_if_eq (tgt := 26) C (mm_dec dk_X11_gates 12 rfl) (by decide) (fun c21 => ?_) (fun c21 => ?_)
  · skip
    refine mm_aload_n C (mm_dec dk_X11_gates 15 rfl) rfl ?_
    refine mm_getr (t := 1) C fl_X11_12 (mm_dec dk_X11_gates 16 rfl) rfl rfl (mm_ref i0 rfl) ?_
    refine mm_iload C (mm_dec dk_X11_gates 17 rfl) rfl ?_
    refine mm_puti C fl_X11_166 (mm_dec dk_X11_gates 18 rfl) rfl rfl rfl (Or.inl ⟨rfl, rfl⟩) ?_
    have i1 : mm_inv (mm_pf h 1 7 ((p2 * 20) + p1)) := mm_inv_pf i0 (show 0 ≤ ((p2 * 20) + p1) ∧ ((p2 * 20) + p1) ≤ 399 from ⟨by omega, by omega⟩) (by decide)
    have f1 : mm_fr [(1, 7), (1, 8)] [] h (mm_pf h 1 7 ((p2 * 20) + p1)) := mm_fr_pf f0 (by decide)
    obtain ⟨h1, eh1⟩ : ∃ z, z = mm_pf h 1 7 ((p2 * 20) + p1) := ⟨_, rfl⟩
    rw [← eh1] at i1 f1 ⊢
    have qh1 : h1.1 1 7 = ((p2 * 20) + p1) := by rw [eh1]; exact mm_pf_same _ _ _ _
    have qh1_9 : h1.1 1 5 = h.1 1 5 := by rw [eh1]; exact mm_pf_ne _ _ (by decide)
    have qh1_10 : h1.1 1 6 = h.1 1 6 := by rw [eh1]; exact mm_pf_ne _ _ (by decide)
    have qh1_11 : h1.1 1 8 = h.1 1 8 := by rw [eh1]; exact mm_pf_ne _ _ (by decide)
    have qh1_12 : h1.1 22 8 = h.1 22 8 := by rw [eh1]; exact mm_pf_ne _ _ (by decide)
    refine mm_aload_n C (mm_dec dk_X11_gates 19 rfl) rfl ?_
    refine mm_getr (t := 1) C fl_X11_12 (mm_dec dk_X11_gates 20 rfl) rfl rfl (mm_ref i1 rfl) ?_
    refine mm_iload C (mm_dec dk_X11_gates 21 rfl) rfl ?_
    refine mm_puti C fl_X11_169 (mm_dec dk_X11_gates 22 rfl) rfl rfl rfl (Or.inl ⟨rfl, rfl⟩) ?_
    have i2 : mm_inv (mm_pf h1 1 8 ((p4 * 20) + p3)) := mm_inv_pf i1 (show 0 ≤ ((p4 * 20) + p3) ∧ ((p4 * 20) + p3) ≤ 399 from ⟨by omega, by omega⟩) (by decide)
    have f2 : mm_fr [(1, 7), (1, 8)] [] h (mm_pf h1 1 8 ((p4 * 20) + p3)) := mm_fr_pf f1 (by decide)
    obtain ⟨h2, eh2⟩ : ∃ z, z = mm_pf h1 1 8 ((p4 * 20) + p3) := ⟨_, rfl⟩
    rw [← eh2] at i2 f2 ⊢
    have qh2 : h2.1 1 8 = ((p4 * 20) + p3) := by rw [eh2]; exact mm_pf_same _ _ _ _
    have qh2_13 : h2.1 1 5 = h1.1 1 5 := by rw [eh2]; exact mm_pf_ne _ _ (by decide)
    have qh2_14 : h2.1 1 6 = h1.1 1 6 := by rw [eh2]; exact mm_pf_ne _ _ (by decide)
    have qh2_15 : h2.1 1 7 = h1.1 1 7 := by rw [eh2]; exact mm_pf_ne _ _ (by decide)
    have qh2_16 : h2.1 22 8 = h1.1 22 8 := by rw [eh2]; exact mm_pf_ne _ _ (by decide)
    refine mm_iconst C (mm_dec dk_X11_gates 23 rfl) ⟨by decide, by decide⟩ ?_
    exact mm_zret C T (mm_dec dk_X11_gates 24 rfl) (by decide : 2 ≤ 2) (by decide : 12 ≤ 12) (by omega) ⟨_, rfl, ⟨⟨by omega, by omega⟩, i2, f2, by omega, by omega, by omega, by omega, by omega⟩⟩
  · skip
    refine mm_iconst C (mm_dec dk_X11_gates 13 rfl) ⟨by decide, by decide⟩ ?_
    exact mm_zret C T (mm_dec dk_X11_gates 14 rfl) (by decide : 2 ≤ 2) (by decide : 12 ≤ 12) (by omega) ⟨_, rfl, ⟨⟨by omega, by omega⟩, i0, f0, by omega, by omega, by omega, by omega, by omega⟩⟩
set_option maxRecDepth 100000 in
set_option maxHeartbeats 4000000 in
theorem c_X12_gates_q (l : Launch) (hl : l.stackTraces = false) (d : Nat) (hd : 3 ≤ d) (h : mH) (i0 : mm_inv h) (p1 : Int) (p2 : Int) (p3 : Int) (p4 : Int) : mm_Met l d yX12_gates cX12_gates 5 (some .boolean) [mR 66, mI p1, mI p2, mI p3, mI p4] h (mm_pi fun r h2 => (0 ≤ r ∧ r ≤ 1) ∧ mm_inv h2 ∧ mm_fr [(66, 0), (66, 9), (66, 10), (66, 11), (66, 12)] [] h h2 ∧ (((0 ≤ p1 ∧ p1 < h.1 66 1 ∧ 0 ≤ p2 ∧ p2 < h.1 66 2) ∧ (0 ≤ p3 ∧ p3 < h.1 66 1 ∧ 0 ≤ p4 ∧ p4 < h.1 66 2) ∧ h2.1 66 0 = 0 ∧ ((r = 1 ∧ h.1 66 23 ≤ 0) ∨ (r = 0 ∧ 0 < h.1 66 23))) ∨ (((p1 < 0 ∨ h.1 66 1 ≤ p1 ∨ p2 < 0 ∨ h.1 66 2 ≤ p2) ∨ (p3 < 0 ∨ h.1 66 1 ≤ p3 ∨ p4 < 0 ∨ h.1 66 2 ≤ p4)) ∧ h2.1 66 0 = 1 ∧ r = 0)) ∧ ((r = 1 ∧ h2.1 66 9 = p1 ∧ h2.1 66 10 = p2) ∨ (r = 0 ∧ h2.1 66 9 = h.1 66 9 ∧ h2.1 66 10 = h.1 66 10)) ∧ ((r = 1 ∧ h2.1 66 11 = p3 ∧ h2.1 66 12 = p4) ∨ (r = 0 ∧ h2.1 66 11 = h.1 66 11 ∧ h2.1 66 12 = h.1 66 12))) mm_nx 0 0 := by
  refine mm_ofW (ls := [mR 66, mI p1, mI p2, mI p3, mI p4]) hl (by decide) rfl (Nat.le_of_ble_eq_true rfl) ?_
  intro x hxl C T hnm htb
  subst hxl
  have C1 := mm_OK_le (d' := d - 1 + 1) (by omega) C
  refine mm_rng (fun hr _ => ?_)
  have ap1 : -2147483648 ≤ p1 ∧ p1 < 2147483648 := mm_ok_at hr (i := 1) rfl
  have ap2 : -2147483648 ≤ p2 ∧ p2 < 2147483648 := mm_ok_at hr (i := 2) rfl
  have ap3 : -2147483648 ≤ p3 ∧ p3 < 2147483648 := mm_ok_at hr (i := 3) rfl
  have ap4 : -2147483648 ≤ p4 ∧ p4 < 2147483648 := mm_ok_at hr (i := 4) rfl
  have f0 : mm_fr [(66, 0), (66, 9), (66, 10), (66, 11), (66, 12)] [] h h := mm_fr_rf
  have g1 : -2147483648 ≤ h.1 66 0 ∧ h.1 66 0 ≤ 2147483647 := i0.1 66 0
  have g2 : 1 ≤ h.1 66 1 ∧ h.1 66 1 ≤ 20 := i0.1 66 1
  have g3 : 1 ≤ h.1 66 2 ∧ h.1 66 2 ≤ 20 := i0.1 66 2
  have g4 : 0 ≤ h.1 66 23 ∧ h.1 66 23 ≤ 40 := i0.1 66 23
  have g5 : 0 ≤ h.1 66 9 ∧ h.1 66 9 ≤ 19 := i0.1 66 9
  have g6 : 0 ≤ h.1 66 10 ∧ h.1 66 10 ≤ 19 := i0.1 66 10
  have g7 : 0 ≤ h.1 66 11 ∧ h.1 66 11 ≤ 19 := i0.1 66 11
  have g8 : 0 ≤ h.1 66 12 ∧ h.1 66 12 ≤ 19 := i0.1 66 12
  refine mm_aload_n C (mm_dec dk_X12_gates 0 rfl) rfl ?_
  refine mm_iload_n C (mm_dec dk_X12_gates 1 rfl) rfl ?_
  refine mm_iload_n C (mm_dec dk_X12_gates 2 rfl) rfl ?_
  refine mm_cVi (rest := []) C1 ev_X12_255 (mm_dec dk_X12_gates 3 rfl) (c_X12_isCell_q x.2.1 hl (d - 1) (by omega) h i0 p1 p2) rfl rfl (Nat.le_of_ble_eq_true rfl) ⟨by decide, by decide⟩ rfl (fun r3 h3c hp3 => ?_) (fun _ _ q => q.elim)
  obtain ⟨b3, i3c, g3c, y3_0, y3_1⟩ := hp3
  have f3c : mm_fr [(66, 0), (66, 9), (66, 10), (66, 11), (66, 12)] [] h h3c := mm_fr_tr f0 g3c (by decide +kernel)
  have q3c_10 : h3c.1 66 1 = h.1 66 1 := g3c.1 66 1 (by decide)
  have q3c_11 : h3c.1 66 2 = h.1 66 2 := g3c.1 66 2 (by decide)
  have q3c_12 : h3c.1 66 9 = h.1 66 9 := g3c.1 66 9 (by decide)
  have q3c_13 : h3c.1 66 10 = h.1 66 10 := g3c.1 66 10 (by decide)
  have q3c_14 : h3c.1 66 11 = h.1 66 11 := g3c.1 66 11 (by decide)
  have q3c_15 : h3c.1 66 12 = h.1 66 12 := g3c.1 66 12 (by decide)
  have q3c_16 : h3c.1 66 23 = h.1 66 23 := g3c.1 66 23 (by decide)
  have g17 : -2147483648 ≤ (h3c.1 66 0) ∧ (h3c.1 66 0) ≤ 2147483647 := i3c.1 66 0
  have J26 : ∀ (h26_ : mH) (i26_ : mm_inv h26_) (f26_ : mm_fr [(66, 0), (66, 9), (66, 10), (66, 11), (66, 12)] [] h h26_) (w26_0 : (((0 ≤ p1 ∧ p1 < h.1 66 1 ∧ 0 ≤ p2 ∧ p2 < h.1 66 2) ∧ (0 ≤ p3 ∧ p3 < h.1 66 1 ∧ 0 ≤ p4 ∧ p4 < h.1 66 2) ∧ h26_.1 66 0 = 0 ∧ 0 < h.1 66 23) ∨ (((p1 < 0 ∨ h.1 66 1 ≤ p1 ∨ p2 < 0 ∨ h.1 66 2 ≤ p2) ∨ (p3 < 0 ∨ h.1 66 1 ≤ p3 ∨ p4 < 0 ∨ h.1 66 2 ≤ p4)) ∧ h26_.1 66 0 = 1))) (w26_1 : h26_.1 66 9 = h.1 66 9) (w26_2 : h26_.1 66 10 = h.1 66 10) (w26_3 : h26_.1 66 11 = h.1 66 11) (w26_4 : h26_.1 66 12 = h.1 66 12), mm_W x 0 0 26 [mU, mU, mU, mU, mU] [] h26_ := by
    intro h26_ i26_ f26_ w26_0 w26_1 w26_2 w26_3 w26_4
    have g18 : -2147483648 ≤ h26_.1 66 0 ∧ h26_.1 66 0 ≤ 2147483647 := i26_.1 66 0
    have g19 : 1 ≤ h26_.1 66 1 ∧ h26_.1 66 1 ≤ 20 := i26_.1 66 1
    have g20 : 1 ≤ h26_.1 66 2 ∧ h26_.1 66 2 ≤ 20 := i26_.1 66 2
    have g21 : 0 ≤ h26_.1 66 23 ∧ h26_.1 66 23 ≤ 40 := i26_.1 66 23
    have g22 : 0 ≤ h26_.1 66 9 ∧ h26_.1 66 9 ≤ 19 := i26_.1 66 9
    have g23 : 0 ≤ h26_.1 66 10 ∧ h26_.1 66 10 ≤ 19 := i26_.1 66 10
    have g24 : 0 ≤ h26_.1 66 11 ∧ h26_.1 66 11 ≤ 19 := i26_.1 66 11
    have g25 : 0 ≤ h26_.1 66 12 ∧ h26_.1 66 12 ≤ 19 := i26_.1 66 12
    have g26 : h26_.1 66 1 = h.1 66 1 := f26_.1 66 1 (by decide)
    have g27 : h26_.1 66 2 = h.1 66 2 := f26_.1 66 2 (by decide)
    have g28 : h26_.1 66 23 = h.1 66 23 := f26_.1 66 23 (by decide)
    refine mm_iconst C (mm_dec dk_X12_gates 13 rfl) ⟨by decide, by decide⟩ ?_
    exact mm_zret C T (mm_dec dk_X12_gates 14 rfl) (by decide : 0 ≤ 0) (by decide : 0 ≤ 0) (by omega) ⟨_, rfl, ⟨⟨by omega, by omega⟩, i26_, f26_, by omega, by omega, by omega⟩⟩
  refine mm_if_eq (tgt := 26) C (mm_dec dk_X12_gates 4 rfl) (by decide) (fun c6 => ?_) (fun c6 => ?_)
  · skip
    refine mm_fgt 0 ?_
    refine mm_fgt 1 ?_
    refine mm_fgt 2 ?_
    refine mm_fgt 3 ?_
    refine mm_fgt 4 ?_
    exact J26 h3c i3c f3c (by omega) (by omega) (by omega) (by omega) (by omega)
  · skip
    refine mm_aload_n C (mm_dec dk_X12_gates 5 rfl) rfl ?_
    refine mm_iload_n C (mm_dec dk_X12_gates 6 rfl) rfl ?_
    refine mm_iload C (mm_dec dk_X12_gates 7 rfl) rfl ?_
    refine mm_cVi (rest := []) C1 ev_X12_247 (mm_dec dk_X12_gates 8 rfl) (c_X12_inside_q x.2.1 hl (d - 1) (by omega) h3c i3c p3 p4) rfl rfl (Nat.le_of_ble_eq_true rfl) ⟨by decide, by decide⟩ rfl (fun r13 h13c hp13 => ?_) (fun _ _ q => q.elim)
    obtain ⟨b13, i13c, g13c, y13_0, y13_1⟩ := hp13
    have f13c : mm_fr [(66, 0), (66, 9), (66, 10), (66, 11), (66, 12)] [] h h13c := mm_fr_tr f3c g13c (by decide +kernel)
    have q13c_30 : h13c.1 66 1 = h3c.1 66 1 := g13c.1 66 1 (by decide)
    have q13c_31 : h13c.1 66 2 = h3c.1 66 2 := g13c.1 66 2 (by decide)
    have q13c_32 : h13c.1 66 9 = h3c.1 66 9 := g13c.1 66 9 (by decide)
    have q13c_33 : h13c.1 66 10 = h3c.1 66 10 := g13c.1 66 10 (by decide)
    have q13c_34 : h13c.1 66 11 = h3c.1 66 11 := g13c.1 66 11 (by decide)
    have q13c_35 : h13c.1 66 12 = h3c.1 66 12 := g13c.1 66 12 (by decide)
    have q13c_36 : h13c.1 66 23 = h3c.1 66 23 := g13c.1 66 23 (by decide)
    have g37 : -2147483648 ≤ (h13c.1 66 0) ∧ (h13c.1 66 0) ≤ 2147483647 := i13c.1 66 0
    refine mm_if_eq (tgt := 26) C (mm_dec dk_X12_gates 9 rfl) (by decide) (fun c16 => ?_) (fun c16 => ?_)
    · skip
      refine mm_fgt 0 ?_
      refine mm_fgt 1 ?_
      refine mm_fgt 2 ?_
      refine mm_fgt 3 ?_
      refine mm_fgt 4 ?_
      exact J26 h13c i13c f13c (by omega) (by omega) (by omega) (by omega) (by omega)
    · skip
      refine mm_aload_n C (mm_dec dk_X12_gates 10 rfl) rfl ?_
      refine mm_geti C fl_X12_222 (mm_dec dk_X12_gates 11 rfl) rfl rfl (Or.inl rfl) ?_
      refine mm_if_le (tgt := 28) C (mm_dec dk_X12_gates 12 rfl) (by decide) (fun c23 => ?_) (fun c23 => ?_)
      · skip
        refine mm_aload_n C (mm_dec dk_X12_gates 15 rfl) rfl ?_
        refine mm_iload_n C (mm_dec dk_X12_gates 16 rfl) rfl ?_
        refine mm_puti C fl_X12_201 (mm_dec dk_X12_gates 17 rfl) rfl rfl rfl (Or.inl ⟨rfl, rfl⟩) ?_
        have i3 : mm_inv (mm_pf h13c 66 9 p1) := mm_inv_pf i13c (show 0 ≤ p1 ∧ p1 ≤ 19 from ⟨by omega, by omega⟩) (by decide)
        have f3 : mm_fr [(66, 0), (66, 9), (66, 10), (66, 11), (66, 12)] [] h (mm_pf h13c 66 9 p1) := mm_fr_pf f13c (by decide)
        obtain ⟨h3, eh3⟩ : ∃ z, z = mm_pf h13c 66 9 p1 := ⟨_, rfl⟩
        rw [← eh3] at i3 f3 ⊢
        have qh3 : h3.1 66 9 = p1 := by rw [eh3]; exact mm_pf_same _ _ _ _
        have qh3_38 : h3.1 66 0 = h13c.1 66 0 := by rw [eh3]; exact mm_pf_ne _ _ (by decide)
        have qh3_39 : h3.1 66 1 = h13c.1 66 1 := by rw [eh3]; exact mm_pf_ne _ _ (by decide)
        have qh3_40 : h3.1 66 2 = h13c.1 66 2 := by rw [eh3]; exact mm_pf_ne _ _ (by decide)
        have qh3_41 : h3.1 66 10 = h13c.1 66 10 := by rw [eh3]; exact mm_pf_ne _ _ (by decide)
        have qh3_42 : h3.1 66 11 = h13c.1 66 11 := by rw [eh3]; exact mm_pf_ne _ _ (by decide)
        have qh3_43 : h3.1 66 12 = h13c.1 66 12 := by rw [eh3]; exact mm_pf_ne _ _ (by decide)
        have qh3_44 : h3.1 66 23 = h13c.1 66 23 := by rw [eh3]; exact mm_pf_ne _ _ (by decide)
        refine mm_aload_n C (mm_dec dk_X12_gates 18 rfl) rfl ?_
        refine mm_iload_n C (mm_dec dk_X12_gates 19 rfl) rfl ?_
        refine mm_puti C fl_X12_204 (mm_dec dk_X12_gates 20 rfl) rfl rfl rfl (Or.inl ⟨rfl, rfl⟩) ?_
        have i4 : mm_inv (mm_pf h3 66 10 p2) := mm_inv_pf i3 (show 0 ≤ p2 ∧ p2 ≤ 19 from ⟨by omega, by omega⟩) (by decide)
        have f4 : mm_fr [(66, 0), (66, 9), (66, 10), (66, 11), (66, 12)] [] h (mm_pf h3 66 10 p2) := mm_fr_pf f3 (by decide)
        obtain ⟨h4, eh4⟩ : ∃ z, z = mm_pf h3 66 10 p2 := ⟨_, rfl⟩
        rw [← eh4] at i4 f4 ⊢
        have qh4 : h4.1 66 10 = p2 := by rw [eh4]; exact mm_pf_same _ _ _ _
        have qh4_45 : h4.1 66 0 = h3.1 66 0 := by rw [eh4]; exact mm_pf_ne _ _ (by decide)
        have qh4_46 : h4.1 66 1 = h3.1 66 1 := by rw [eh4]; exact mm_pf_ne _ _ (by decide)
        have qh4_47 : h4.1 66 2 = h3.1 66 2 := by rw [eh4]; exact mm_pf_ne _ _ (by decide)
        have qh4_48 : h4.1 66 9 = h3.1 66 9 := by rw [eh4]; exact mm_pf_ne _ _ (by decide)
        have qh4_49 : h4.1 66 11 = h3.1 66 11 := by rw [eh4]; exact mm_pf_ne _ _ (by decide)
        have qh4_50 : h4.1 66 12 = h3.1 66 12 := by rw [eh4]; exact mm_pf_ne _ _ (by decide)
        have qh4_51 : h4.1 66 23 = h3.1 66 23 := by rw [eh4]; exact mm_pf_ne _ _ (by decide)
        refine mm_aload_n C (mm_dec dk_X12_gates 21 rfl) rfl ?_
        refine mm_iload_n C (mm_dec dk_X12_gates 22 rfl) rfl ?_
        refine mm_puti C fl_X12_207 (mm_dec dk_X12_gates 23 rfl) rfl rfl rfl (Or.inl ⟨rfl, rfl⟩) ?_
        have i5 : mm_inv (mm_pf h4 66 11 p3) := mm_inv_pf i4 (show 0 ≤ p3 ∧ p3 ≤ 19 from ⟨by omega, by omega⟩) (by decide)
        have f5 : mm_fr [(66, 0), (66, 9), (66, 10), (66, 11), (66, 12)] [] h (mm_pf h4 66 11 p3) := mm_fr_pf f4 (by decide)
        obtain ⟨h5, eh5⟩ : ∃ z, z = mm_pf h4 66 11 p3 := ⟨_, rfl⟩
        rw [← eh5] at i5 f5 ⊢
        have qh5 : h5.1 66 11 = p3 := by rw [eh5]; exact mm_pf_same _ _ _ _
        have qh5_52 : h5.1 66 0 = h4.1 66 0 := by rw [eh5]; exact mm_pf_ne _ _ (by decide)
        have qh5_53 : h5.1 66 1 = h4.1 66 1 := by rw [eh5]; exact mm_pf_ne _ _ (by decide)
        have qh5_54 : h5.1 66 2 = h4.1 66 2 := by rw [eh5]; exact mm_pf_ne _ _ (by decide)
        have qh5_55 : h5.1 66 9 = h4.1 66 9 := by rw [eh5]; exact mm_pf_ne _ _ (by decide)
        have qh5_56 : h5.1 66 10 = h4.1 66 10 := by rw [eh5]; exact mm_pf_ne _ _ (by decide)
        have qh5_57 : h5.1 66 12 = h4.1 66 12 := by rw [eh5]; exact mm_pf_ne _ _ (by decide)
        have qh5_58 : h5.1 66 23 = h4.1 66 23 := by rw [eh5]; exact mm_pf_ne _ _ (by decide)
        refine mm_aload_n C (mm_dec dk_X12_gates 24 rfl) rfl ?_
        refine mm_iload C (mm_dec dk_X12_gates 25 rfl) rfl ?_
        refine mm_puti C fl_X12_210 (mm_dec dk_X12_gates 26 rfl) rfl rfl rfl (Or.inl ⟨rfl, rfl⟩) ?_
        have i6 : mm_inv (mm_pf h5 66 12 p4) := mm_inv_pf i5 (show 0 ≤ p4 ∧ p4 ≤ 19 from ⟨by omega, by omega⟩) (by decide)
        have f6 : mm_fr [(66, 0), (66, 9), (66, 10), (66, 11), (66, 12)] [] h (mm_pf h5 66 12 p4) := mm_fr_pf f5 (by decide)
        obtain ⟨h6, eh6⟩ : ∃ z, z = mm_pf h5 66 12 p4 := ⟨_, rfl⟩
        rw [← eh6] at i6 f6 ⊢
        have qh6 : h6.1 66 12 = p4 := by rw [eh6]; exact mm_pf_same _ _ _ _
        have qh6_59 : h6.1 66 0 = h5.1 66 0 := by rw [eh6]; exact mm_pf_ne _ _ (by decide)
        have qh6_60 : h6.1 66 1 = h5.1 66 1 := by rw [eh6]; exact mm_pf_ne _ _ (by decide)
        have qh6_61 : h6.1 66 2 = h5.1 66 2 := by rw [eh6]; exact mm_pf_ne _ _ (by decide)
        have qh6_62 : h6.1 66 9 = h5.1 66 9 := by rw [eh6]; exact mm_pf_ne _ _ (by decide)
        have qh6_63 : h6.1 66 10 = h5.1 66 10 := by rw [eh6]; exact mm_pf_ne _ _ (by decide)
        have qh6_64 : h6.1 66 11 = h5.1 66 11 := by rw [eh6]; exact mm_pf_ne _ _ (by decide)
        have qh6_65 : h6.1 66 23 = h5.1 66 23 := by rw [eh6]; exact mm_pf_ne _ _ (by decide)
        refine mm_iconst C (mm_dec dk_X12_gates 27 rfl) ⟨by decide, by decide⟩ ?_
        exact mm_zret C T (mm_dec dk_X12_gates 28 rfl) (by decide : 0 ≤ 0) (by decide : 0 ≤ 0) (by omega) ⟨_, rfl, ⟨⟨by omega, by omega⟩, i6, f6, by omega, by omega, by omega⟩⟩
      · skip
        refine mm_fgt 0 ?_
        refine mm_fgt 1 ?_
        refine mm_fgt 2 ?_
        refine mm_fgt 3 ?_
        refine mm_fgt 4 ?_
        exact J26 h13c i13c f13c (by omega) (by omega) (by omega) (by omega) (by omega)
set_option maxRecDepth 100000 in
set_option maxHeartbeats 4000000 in
theorem c_X11_putOnTape_q (l : Launch) (hl : l.stackTraces = false) (d : Nat) (hd : 0 ≤ d) (h : mH) (i0 : mm_inv h) (p1 : Int) (u0 : (h.1 0 12) ≤ 496) : mm_Met l d yX11_putOnTape cX11_putOnTape 3 none [mR 0, mI p1] h (mm_pv fun h2 => mm_inv h2 ∧ mm_fr [(0, 12)] [62] h h2 ∧ h2.1 0 12 = h.1 0 12 + 4 ∧ mm_tp h h2 62 (h.1 0 12) (h.1 0 12 + 4) (fun j => mm_bt p1 (24 - 8 * (j - h.1 0 12)))) mm_nx 0 0 := by
  refine mm_ofW (ls := [mR 0, mI p1, mU]) hl (by decide) rfl (Nat.le_of_ble_eq_true rfl) ?_
  intro x hxl C T hnm htb
  subst hxl
  refine mm_rng (fun hr _ => ?_)
  have ap1 : -2147483648 ≤ p1 ∧ p1 < 2147483648 := mm_ok_at hr (i := 1) rfl
  have f0 : mm_fr [(0, 12)] [62] h h := mm_fr_rf
  have g1 : 0 ≤ h.1 0 12 ∧ h.1 0 12 ≤ 500 := i0.1 0 12
  refine mm_bipush C (mm_dec dk_X11_putOnTape 0 rfl) ⟨by decide, by decide⟩ ?_
  have J3 : ∀ (n : Nat) (x3_2 : Int) (bx3_2 : -8 ≤ x3_2 ∧ x3_2 ≤ 24) (h3_ : mH) (i3_ : mm_inv h3_) (f3_ : mm_fr [(0, 12)] [62] h h3_) (w3_0 : 8 * h3_.1 0 12 + x3_2 = 8 * h.1 0 12 + 24) (w3_1 : mm_tp h h3_ 62 (h.1 0 12) (h3_.1 0 12) (fun j => mm_bt p1 (24 - 8 * (j - h.1 0 12)))), (x3_2 - (-8) : Int) < n → mm_W x 0 0 3 [mR 0, mI p1, mI x3_2] [] h3_ := by
    intro n
    induction n with
    | zero =>
      intro x3_2 bx3_2 h3_ i3_ f3_ w3_0 w3_1 hm
      have g2 : 0 ≤ h3_.1 0 12 ∧ h3_.1 0 12 ≤ 500 := i3_.1 0 12
      exfalso; omega
    | succ n ih3 =>
      intro x3_2 bx3_2 h3_ i3_ f3_ w3_0 w3_1 hm3
      have g3 : 0 ≤ h3_.1 0 12 ∧ h3_.1 0 12 ≤ 500 := i3_.1 0 12
      refine mm_iload_n C (mm_dec dk_X11_putOnTape 2 rfl) rfl ?_
      have J49 : ∀ (w49_0 : h3_.1 0 12 = h.1 0 12 + 4) (w49_1 : mm_tp h h3_ 62 (h.1 0 12) (h3_.1 0 12) (fun j => mm_bt p1 (24 - 8 * (j - h.1 0 12)))), mm_W x 0 0 49 [mU, mU, mU] [] h3_ := by
        intro w49_0 w49_1
        have g4 : 0 ≤ h3_.1 0 12 ∧ h3_.1 0 12 ≤ 500 := i3_.1 0 12
        exact mm_vret C T (mm_dec dk_X11_putOnTape 26 rfl) (by decide : 0 ≤ 0) (by decide : 0 ≤ 0) ⟨rfl, ⟨i3_, f3_, by omega, by first | (rw [show h.1 0 12 + 4 = h3_.1 0 12 by omega]; exact w3_1) | (rw [show h.1 0 12 + 4 = h3_.1 0 12 by omega]; exact w49_1)⟩⟩
      refine mm_if_lt (tgt := 49) C (mm_dec dk_X11_putOnTape 3 rfl) (by decide) (fun c4 => ?_) (fun c4 => ?_)
      · skip
        refine mm_fgt 0 ?_
        refine mm_fgt 1 ?_
        refine mm_fgt 2 ?_
        exact J49 (by omega) (by exact w3_1)
      · skip
        refine mm_aload_n C (mm_dec dk_X11_putOnTape 4 rfl) rfl ?_
        refine mm_geti C fl_X11_98 (mm_dec dk_X11_putOnTape 5 rfl) rfl rfl (Or.inl rfl) ?_
        refine mm_sipush C (mm_dec dk_X11_putOnTape 6 rfl) ⟨by decide, by decide⟩ ?_
        refine mm_icmp_ge (tgt := 49) C (mm_dec dk_X11_putOnTape 7 rfl) (by decide) (fun c14 => ?_) (fun c14 => ?_)
        · skip
          refine mm_fgt 0 ?_
          refine mm_fgt 1 ?_
          refine mm_fgt 2 ?_
          exact J49 (by omega) (by exact w3_1)
        · skip
          refine mm_aload_n C (mm_dec dk_X11_putOnTape 8 rfl) rfl ?_
          refine mm_getr (t := 62) C fl_X11_86 (mm_dec dk_X11_putOnTape 9 rfl) rfl rfl (mm_ref i3_ rfl) ?_
          refine mm_aload_n C (mm_dec dk_X11_putOnTape 10 rfl) rfl ?_
          refine mm_geti C fl_X11_98 (mm_dec dk_X11_putOnTape 11 rfl) rfl rfl (Or.inl rfl) ?_
          refine mm_iload_n C (mm_dec dk_X11_putOnTape 12 rfl) rfl ?_
          refine mm_iload_n C (mm_dec dk_X11_putOnTape 13 rfl) rfl ?_
          refine mm_iushr C (mm_dec dk_X11_putOnTape 14 rfl) ?_
          have g5 : -2147483648 ≤ (mm_viushr p1 x3_2) ∧ (mm_viushr p1 x3_2) < 2147483648 := fb_rng _
          refine mm_sipush C (mm_dec dk_X11_putOnTape 15 rfl) ⟨by decide, by decide⟩ ?_
          refine mm_iand C (mm_dec dk_X11_putOnTape 16 rfl) ?_
          have g7 : 0 ≤ (mm_viand (mm_viushr p1 x3_2) 255) ∧ (mm_viand (mm_viushr p1 x3_2) 255) ≤ 255 := mm_and_rg2 (by omega) (by omega)
          refine mm_iast C (mm_dec dk_X11_putOnTape 17 rfl) rfl (by omega) (by omega) ?_
          have i1 : mm_inv (mm_pa h3_ 62 (h3_.1 0 12) (mm_viand (mm_viushr p1 x3_2) 255)) := mm_inv_pa i3_ (show -2147483648 ≤ (mm_viand (mm_viushr p1 x3_2) 255) ∧ (mm_viand (mm_viushr p1 x3_2) 255) ≤ 2147483647 from ⟨by omega, by omega⟩)
          have f1 : mm_fr [(0, 12)] [62] h (mm_pa h3_ 62 (h3_.1 0 12) (mm_viand (mm_viushr p1 x3_2) 255)) := mm_fr_pa f3_ (by decide)
          obtain ⟨h1, eh1⟩ : ∃ z, z = mm_pa h3_ 62 (h3_.1 0 12) (mm_viand (mm_viushr p1 x3_2) 255) := ⟨_, rfl⟩
          rw [← eh1] at i1 f1 ⊢
          have qh1_8 : h1.1 0 12 = h3_.1 0 12 := by rw [eh1]; rfl
          refine mm_aload_n C (mm_dec dk_X11_putOnTape 18 rfl) rfl ?_
          refine mm_dup C (mm_dec dk_X11_putOnTape 19 rfl) (show (2 : Nat) ≠ 1 by decide) ?_
          refine mm_geti C fl_X11_98 (mm_dec dk_X11_putOnTape 20 rfl) rfl rfl (Or.inl rfl) ?_
          refine mm_iconst C (mm_dec dk_X11_putOnTape 21 rfl) ⟨by decide, by decide⟩ ?_
          refine mm_iadd C (mm_dec dk_X11_putOnTape 22 rfl) ⟨by omega, by omega⟩ ?_
          refine mm_puti C fl_X11_98 (mm_dec dk_X11_putOnTape 23 rfl) rfl rfl rfl (Or.inl ⟨rfl, rfl⟩) ?_
          have i2 : mm_inv (mm_pf h1 0 12 ((h1.1 0 12) + 1)) := mm_inv_pf i1 (show 0 ≤ ((h1.1 0 12) + 1) ∧ ((h1.1 0 12) + 1) ≤ 500 from ⟨by omega, by omega⟩) (by decide)
          have f2 : mm_fr [(0, 12)] [62] h (mm_pf h1 0 12 ((h1.1 0 12) + 1)) := mm_fr_pf f1 (by decide)
          obtain ⟨h2, eh2⟩ : ∃ z, z = mm_pf h1 0 12 ((h1.1 0 12) + 1) := ⟨_, rfl⟩
          rw [← eh2] at i2 f2 ⊢
          have qh2 : h2.1 0 12 = ((h1.1 0 12) + 1) := by rw [eh2]; exact mm_pf_same _ _ _ _
          refine mm_iincL (ls2 := [mR 0, mI p1, mI (x3_2 + (-8))]) C (mm_dec dk_X11_putOnTape 24 rfl) rfl (by decide) ⟨by omega, by omega⟩ rfl ?_
          refine mm_goto (tgt := 3) C (mm_dec dk_X11_putOnTape 25 rfl) (by decide) ?_
          exact ih3 (x3_2 + (-8)) ⟨by omega, by omega⟩ h2 i2 f2 (by omega) (by first | exact mm_tp_0 (fun _ => rfl) (by omega) | exact mm_tp_s w3_1 eh1 (fun _ => (mm_sm_pf 62 eh2 _)) rfl (by omega) ((mm_bt_u p1 (by omega)).trans (congrArg (mm_bt p1) (show x3_2 = 24 - 8 * (h3_.1 0 12 - h.1 0 12) by omega))) (by omega)) (by omega)
  refine mm_istore_nL (ls2 := [mR 0, mI p1, mI 24]) C (mm_dec dk_X11_putOnTape 1 rfl) (by decide) rfl ?_
  exact J3 (((24 - (-8)) : Int) + 1).toNat 24 ⟨by omega, by omega⟩ h i0 f0 (by omega) (by first | exact mm_tp_0 (fun _ => rfl) (by omega) | exact mm_tp_s w3_1 eh1 (fun _ => (mm_sm_pf 62 eh2 _)) rfl (by omega) ((mm_bt_u p1 (by omega)).trans (congrArg (mm_bt p1) (show x3_2 = 24 - 8 * (h3_.1 0 12 - h.1 0 12) by omega))) (by omega)) (by omega)
set_option maxRecDepth 100000 in
set_option maxHeartbeats 4000000 in
theorem c_X12_lays_q (l : Launch) (hl : l.stackTraces = false) (d : Nat) (hd : 0 ≤ d) (h : mH) (i0 : mm_inv h) (p1 : Int) (u0 : (h.1 66 56) ≤ 496) : mm_Met l d yX12_lays cX12_lays 3 none [mR 66, mI p1] h (mm_pv fun h2 => mm_inv h2 ∧ mm_fr [(66, 56)] [101] h h2 ∧ h2.1 66 56 = h.1 66 56 + 4 ∧ mm_tp h h2 101 (h.1 66 56) (h.1 66 56 + 4) (fun j => mm_bt p1 (24 - 8 * (j - h.1 66 56)))) mm_nx 0 0 := by
  refine mm_ofW (ls := [mR 66, mI p1, mU]) hl (by decide) rfl (Nat.le_of_ble_eq_true rfl) ?_
  intro x hxl C T hnm htb
  subst hxl
  refine mm_rng (fun hr _ => ?_)
  have ap1 : -2147483648 ≤ p1 ∧ p1 < 2147483648 := mm_ok_at hr (i := 1) rfl
  have f0 : mm_fr [(66, 56)] [101] h h := mm_fr_rf
  have g1 : 0 ≤ h.1 66 56 ∧ h.1 66 56 ≤ 500 := i0.1 66 56
  refine mm_bipush C (mm_dec dk_X12_lays 0 rfl) ⟨by decide, by decide⟩ ?_
  have J3 : ∀ (n : Nat) (x3_2 : Int) (bx3_2 : -8 ≤ x3_2 ∧ x3_2 ≤ 24) (h3_ : mH) (i3_ : mm_inv h3_) (f3_ : mm_fr [(66, 56)] [101] h h3_) (w3_0 : 8 * h3_.1 66 56 + x3_2 = 8 * h.1 66 56 + 24) (w3_1 : mm_tp h h3_ 101 (h.1 66 56) (h3_.1 66 56) (fun j => mm_bt p1 (24 - 8 * (j - h.1 66 56)))), (x3_2 - (-8) : Int) < n → mm_W x 0 0 3 [mR 66, mI p1, mI x3_2] [] h3_ := by
    intro n
    induction n with
    | zero =>
      intro x3_2 bx3_2 h3_ i3_ f3_ w3_0 w3_1 hm
      have g2 : 0 ≤ h3_.1 66 56 ∧ h3_.1 66 56 ≤ 500 := i3_.1 66 56
      exfalso; omega
    | succ n ih3 =>
      intro x3_2 bx3_2 h3_ i3_ f3_ w3_0 w3_1 hm3
      have g3 : 0 ≤ h3_.1 66 56 ∧ h3_.1 66 56 ≤ 500 := i3_.1 66 56
      refine mm_iload_n C (mm_dec dk_X12_lays 2 rfl) rfl ?_
      refine mm_if_lt (tgt := 39) C (mm_dec dk_X12_lays 3 rfl) (by decide) (fun c4 => ?_) (fun c4 => ?_)
      · skip
        exact mm_vret C T (mm_dec dk_X12_lays 22 rfl) (by decide : 0 ≤ 0) (by decide : 0 ≤ 0) ⟨rfl, ⟨i3_, f3_, by omega, by first | (rw [show h.1 66 56 + 4 = h3_.1 66 56 by omega]; exact w3_1) | (rw [show h.1 66 56 + 4 = h3_.1 66 56 by omega]; exact w49_1)⟩⟩
      · skip
        refine mm_aload_n C (mm_dec dk_X12_lays 4 rfl) rfl ?_
        refine mm_getr (t := 101) C fl_X12_114 (mm_dec dk_X12_lays 5 rfl) rfl rfl (mm_ref i3_ rfl) ?_
        refine mm_aload_n C (mm_dec dk_X12_lays 6 rfl) rfl ?_
        refine mm_geti C fl_X12_350 (mm_dec dk_X12_lays 7 rfl) rfl rfl (Or.inl rfl) ?_
        refine mm_iload_n C (mm_dec dk_X12_lays 8 rfl) rfl ?_
        refine mm_iload_n C (mm_dec dk_X12_lays 9 rfl) rfl ?_
        refine mm_ishr C (mm_dec dk_X12_lays 10 rfl) ?_
        have g4 : -2147483648 ≤ (mm_vishr p1 x3_2) ∧ (mm_vishr p1 x3_2) < 2147483648 := fb_rng _
        refine mm_sipush C (mm_dec dk_X12_lays 11 rfl) ⟨by decide, by decide⟩ ?_
        refine mm_iand C (mm_dec dk_X12_lays 12 rfl) ?_
        have g6 : 0 ≤ (mm_viand (mm_vishr p1 x3_2) 255) ∧ (mm_viand (mm_vishr p1 x3_2) 255) ≤ 255 := mm_and_rg2 (by omega) (by omega)
        refine mm_iast C (mm_dec dk_X12_lays 13 rfl) rfl (by omega) (by omega) ?_
        have i1 : mm_inv (mm_pa h3_ 101 (h3_.1 66 56) (mm_viand (mm_vishr p1 x3_2) 255)) := mm_inv_pa i3_ (show -2147483648 ≤ (mm_viand (mm_vishr p1 x3_2) 255) ∧ (mm_viand (mm_vishr p1 x3_2) 255) ≤ 2147483647 from ⟨by omega, by omega⟩)
        have f1 : mm_fr [(66, 56)] [101] h (mm_pa h3_ 101 (h3_.1 66 56) (mm_viand (mm_vishr p1 x3_2) 255)) := mm_fr_pa f3_ (by decide)
        obtain ⟨h1, eh1⟩ : ∃ z, z = mm_pa h3_ 101 (h3_.1 66 56) (mm_viand (mm_vishr p1 x3_2) 255) := ⟨_, rfl⟩
        rw [← eh1] at i1 f1 ⊢
        have qh1_7 : h1.1 66 56 = h3_.1 66 56 := by rw [eh1]; rfl
        refine mm_aload_n C (mm_dec dk_X12_lays 14 rfl) rfl ?_
        refine mm_dup C (mm_dec dk_X12_lays 15 rfl) (show (2 : Nat) ≠ 1 by decide) ?_
        refine mm_geti C fl_X12_350 (mm_dec dk_X12_lays 16 rfl) rfl rfl (Or.inl rfl) ?_
        refine mm_iconst C (mm_dec dk_X12_lays 17 rfl) ⟨by decide, by decide⟩ ?_
        refine mm_iadd C (mm_dec dk_X12_lays 18 rfl) ⟨by omega, by omega⟩ ?_
        refine mm_puti C fl_X12_350 (mm_dec dk_X12_lays 19 rfl) rfl rfl rfl (Or.inl ⟨rfl, rfl⟩) ?_
        have i2 : mm_inv (mm_pf h1 66 56 ((h1.1 66 56) + 1)) := mm_inv_pf i1 (show 0 ≤ ((h1.1 66 56) + 1) ∧ ((h1.1 66 56) + 1) ≤ 500 from ⟨by omega, by omega⟩) (by decide)
        have f2 : mm_fr [(66, 56)] [101] h (mm_pf h1 66 56 ((h1.1 66 56) + 1)) := mm_fr_pf f1 (by decide)
        obtain ⟨h2, eh2⟩ : ∃ z, z = mm_pf h1 66 56 ((h1.1 66 56) + 1) := ⟨_, rfl⟩
        rw [← eh2] at i2 f2 ⊢
        have qh2 : h2.1 66 56 = ((h1.1 66 56) + 1) := by rw [eh2]; exact mm_pf_same _ _ _ _
        refine mm_iincL (ls2 := [mR 66, mI p1, mI (x3_2 + (-8))]) C (mm_dec dk_X12_lays 20 rfl) rfl (by decide) ⟨by omega, by omega⟩ rfl ?_
        refine mm_goto (tgt := 3) C (mm_dec dk_X12_lays 21 rfl) (by decide) ?_
        exact ih3 (x3_2 + (-8)) ⟨by omega, by omega⟩ h2 i2 f2 (by omega) (by first | exact mm_tp_0 (fun _ => rfl) (by omega) | exact mm_tp_s w3_1 eh1 (fun _ => (mm_sm_pf 101 eh2 _)) rfl (by omega) (congrArg (mm_bt p1) (show x3_2 = 24 - 8 * (h3_.1 66 56 - h.1 66 56) by omega)) (by omega)) (by omega)
  refine mm_istore_nL (ls2 := [mR 66, mI p1, mI 24]) C (mm_dec dk_X12_lays 1 rfl) (by decide) rfl ?_
  exact J3 (((24 - (-8)) : Int) + 1).toNat 24 ⟨by omega, by omega⟩ h i0 f0 (by omega) (by first | exact mm_tp_0 (fun _ => rfl) (by omega) | exact mm_tp_s w3_1 eh1 (fun _ => (mm_sm_pf 101 eh2 _)) rfl (by omega) (congrArg (mm_bt p1) (show x3_2 = 24 - 8 * (h3_.1 66 56 - h.1 66 56) by omega)) (by omega)) (by omega)
set_option maxRecDepth 100000 in
set_option maxHeartbeats 4000000 in
theorem c_X11_feed_q (l : Launch) (hl : l.stackTraces = false) (d : Nat) (hd : 1 ≤ d) (h : mH) (i0 : mm_inv h) (p1 : Int) (p2 : Int) (p3 : Int) (p4 : Int) (p5 : Int) : mm_Met l d yX11_feed cX11_feed 6 (some .int) [mR 0, mI p1, mI p2, mI p3, mI p4, mI p5] h (mm_pi fun r h2 => (-1 ≤ r ∧ r ≤ 500) ∧ mm_inv h2 ∧ mm_fr [(0, 12)] [62] h h2 ∧ ((h.1 0 12 ≤ 480 ∧ r = h.1 0 12 + 20 ∧ h2.1 0 12 = h.1 0 12 + 20) ∨ (480 < h.1 0 12 ∧ r = -1 ∧ h2.1 0 12 = h.1 0 12)) ∧ (∃ n : Int, ((h.1 0 12 ≤ 480 ∧ n = h.1 0 12 + 20) ∨ (480 < h.1 0 12 ∧ n = h.1 0 12)) ∧ mm_tp h h2 62 (h.1 0 12) n (mm_F p1 p2 p3 p4 p5 (h.1 0 12)))) mm_nx 0 0 := by
  refine mm_ofW (ls := [mR 0, mI p1, mI p2, mI p3, mI p4, mI p5]) hl (by decide) rfl (Nat.le_of_ble_eq_true rfl) ?_
  intro x hxl C T hnm htb
  subst hxl
  have C1 := mm_OK_le (d' := d - 1 + 1) (by omega) C
  refine mm_rng (fun hr _ => ?_)
  have ap1 : -2147483648 ≤ p1 ∧ p1 < 2147483648 := mm_ok_at hr (i := 1) rfl
  have ap2 : -2147483648 ≤ p2 ∧ p2 < 2147483648 := mm_ok_at hr (i := 2) rfl
  have ap3 : -2147483648 ≤ p3 ∧ p3 < 2147483648 := mm_ok_at hr (i := 3) rfl
  have ap4 : -2147483648 ≤ p4 ∧ p4 < 2147483648 := mm_ok_at hr (i := 4) rfl
  have ap5 : -2147483648 ≤ p5 ∧ p5 < 2147483648 := mm_ok_at hr (i := 5) rfl
  have f0 : mm_fr [(0, 12)] [62] h h := mm_fr_rf
  have g1 : 0 ≤ h.1 0 12 ∧ h.1 0 12 ≤ 500 := i0.1 0 12
  refine mm_aload_n C (mm_dec dk_X11_feed 0 rfl) rfl ?_
  refine mm_geti C fl_X11_98 (mm_dec dk_X11_feed 1 rfl) rfl rfl (Or.inl rfl) ?_
  refine mm_sipush C (mm_dec dk_X11_feed 2 rfl) ⟨by decide, by decide⟩ ?_
  refine mm_icmp_le (tgt := 12) C (mm_dec dk_X11_feed 3 rfl) (by decide) (fun c7 => ?_) (fun c7 => ?_)
  · skip
    refine mm_aload_n C (mm_dec dk_X11_feed 6 rfl) rfl ?_
    refine mm_iload_n C (mm_dec dk_X11_feed 7 rfl) rfl ?_
    refine mm_cVv (rest := []) C1 ev_X11_309 (mm_dec dk_X11_feed 8 rfl) (c_X11_putOnTape_q x.2.1 hl (d - 1) (by omega) h i0 p1 (by omega)) rfl rfl (Nat.le_of_ble_eq_true rfl) ⟨by decide, by decide⟩ rfl (fun h14c hp14 => ?_) (fun _ _ q => q.elim)
    obtain ⟨i14c, g14c, y14_0, y14_1⟩ := hp14
    have f14c : mm_fr [(0, 12)] [62] h h14c := mm_fr_tr f0 g14c (by decide +kernel)
    have g3 : 0 ≤ (h14c.1 0 12) ∧ (h14c.1 0 12) ≤ 500 := i14c.1 0 12
    refine mm_aload_n C (mm_dec dk_X11_feed 9 rfl) rfl ?_
    refine mm_iload_n C (mm_dec dk_X11_feed 10 rfl) rfl ?_
    refine mm_cVv (rest := []) C1 ev_X11_309 (mm_dec dk_X11_feed 11 rfl) (c_X11_putOnTape_q x.2.1 hl (d - 1) (by omega) h14c i14c p2 (by omega)) rfl rfl (Nat.le_of_ble_eq_true rfl) ⟨by decide, by decide⟩ rfl (fun h19c hp19 => ?_) (fun _ _ q => q.elim)
    obtain ⟨i19c, g19c, y19_0, y19_1⟩ := hp19
    have f19c : mm_fr [(0, 12)] [62] h h19c := mm_fr_tr f14c g19c (by decide +kernel)
    have g5 : 0 ≤ (h19c.1 0 12) ∧ (h19c.1 0 12) ≤ 500 := i19c.1 0 12
    refine mm_aload_n C (mm_dec dk_X11_feed 12 rfl) rfl ?_
    refine mm_iload_n C (mm_dec dk_X11_feed 13 rfl) rfl ?_
    refine mm_cVv (rest := []) C1 ev_X11_309 (mm_dec dk_X11_feed 14 rfl) (c_X11_putOnTape_q x.2.1 hl (d - 1) (by omega) h19c i19c p3 (by omega)) rfl rfl (Nat.le_of_ble_eq_true rfl) ⟨by decide, by decide⟩ rfl (fun h24c hp24 => ?_) (fun _ _ q => q.elim)
    obtain ⟨i24c, g24c, y24_0, y24_1⟩ := hp24
    have f24c : mm_fr [(0, 12)] [62] h h24c := mm_fr_tr f19c g24c (by decide +kernel)
    have g7 : 0 ≤ (h24c.1 0 12) ∧ (h24c.1 0 12) ≤ 500 := i24c.1 0 12
    refine mm_aload_n C (mm_dec dk_X11_feed 15 rfl) rfl ?_
    refine mm_iload C (mm_dec dk_X11_feed 16 rfl) rfl ?_
    refine mm_cVv (rest := []) C1 ev_X11_309 (mm_dec dk_X11_feed 17 rfl) (c_X11_putOnTape_q x.2.1 hl (d - 1) (by omega) h24c i24c p4 (by omega)) rfl rfl (Nat.le_of_ble_eq_true rfl) ⟨by decide, by decide⟩ rfl (fun h30c hp30 => ?_) (fun _ _ q => q.elim)
    obtain ⟨i30c, g30c, y30_0, y30_1⟩ := hp30
    have f30c : mm_fr [(0, 12)] [62] h h30c := mm_fr_tr f24c g30c (by decide +kernel)
    have g9 : 0 ≤ (h30c.1 0 12) ∧ (h30c.1 0 12) ≤ 500 := i30c.1 0 12
    refine mm_aload_n C (mm_dec dk_X11_feed 18 rfl) rfl ?_
    refine mm_iload C (mm_dec dk_X11_feed 19 rfl) rfl ?_
    refine mm_cVv (rest := []) C1 ev_X11_309 (mm_dec dk_X11_feed 20 rfl) (c_X11_putOnTape_q x.2.1 hl (d - 1) (by omega) h30c i30c p5 (by omega)) rfl rfl (Nat.le_of_ble_eq_true rfl) ⟨by decide, by decide⟩ rfl (fun h36c hp36 => ?_) (fun _ _ q => q.elim)
    obtain ⟨i36c, g36c, y36_0, y36_1⟩ := hp36
    have f36c : mm_fr [(0, 12)] [62] h h36c := mm_fr_tr f30c g36c (by decide +kernel)
    have g11 : 0 ≤ (h36c.1 0 12) ∧ (h36c.1 0 12) ≤ 500 := i36c.1 0 12
    refine mm_aload_n C (mm_dec dk_X11_feed 21 rfl) rfl ?_
    refine mm_geti C fl_X11_98 (mm_dec dk_X11_feed 22 rfl) rfl rfl (Or.inl rfl) ?_
    exact mm_iret C T (mm_dec dk_X11_feed 23 rfl) (by decide : 0 ≤ 0) (by decide : 0 ≤ 0) ⟨_, rfl, ⟨⟨by omega, by omega⟩, i36c, f36c, by omega, by first | exact ⟨h.1 0 12, Or.inr ⟨by omega, rfl⟩, mm_tp_0 (fun _ => rfl) (by omega)⟩ | exact ⟨h.1 0 12, Or.inr ⟨by omega, rfl⟩, mm_tp_0 (fun j => mm_sm_pf 62 eh1 j) (by omega)⟩ | exact ⟨h.1 0 12 + 20, Or.inl ⟨by omega, rfl⟩, mm_tp_5 y14_1 y19_1 y24_1 y30_1 y36_1 (by omega) (by omega) (by omega) (by omega) rfl⟩⟩⟩
  · skip
    refine mm_iconst C (mm_dec dk_X11_feed 4 rfl) ⟨by decide, by decide⟩ ?_
    exact mm_iret C T (mm_dec dk_X11_feed 5 rfl) (by decide : 0 ≤ 0) (by decide : 0 ≤ 0) ⟨_, rfl, ⟨⟨by omega, by omega⟩, i0, f0, by omega, by first | exact ⟨h.1 0 12, Or.inr ⟨by omega, rfl⟩, mm_tp_0 (fun _ => rfl) (by omega)⟩ | exact ⟨h.1 0 12, Or.inr ⟨by omega, rfl⟩, mm_tp_0 (fun j => mm_sm_pf 62 eh1 j) (by omega)⟩ | exact ⟨h.1 0 12 + 20, Or.inl ⟨by omega, rfl⟩, mm_tp_5 y14_1 y19_1 y24_1 y30_1 y36_1 (by omega) (by omega) (by omega) (by omega) rfl⟩⟩⟩
set_option maxRecDepth 100000 in
set_option maxHeartbeats 4000000 in
theorem c_X12_feed_q (l : Launch) (hl : l.stackTraces = false) (d : Nat) (hd : 1 ≤ d) (h : mH) (i0 : mm_inv h) (p1 : Int) (p2 : Int) (p3 : Int) (p4 : Int) (p5 : Int) : mm_Met l d yX12_feed cX12_feed 6 (some .int) [mR 66, mI p1, mI p2, mI p3, mI p4, mI p5] h (mm_pi fun r h2 => (-1 ≤ r ∧ r ≤ 500) ∧ mm_inv h2 ∧ mm_fr [(66, 0), (66, 56)] [101] h h2 ∧ ((h.1 66 56 ≤ 480 ∧ r = h.1 66 56 + 20 ∧ h2.1 66 56 = h.1 66 56 + 20) ∨ (480 < h.1 66 56 ∧ r = -1 ∧ h2.1 66 56 = h.1 66 56)) ∧ (∃ n : Int, ((h.1 66 56 ≤ 480 ∧ n = h.1 66 56 + 20) ∨ (480 < h.1 66 56 ∧ n = h.1 66 56)) ∧ mm_tp h h2 101 (h.1 66 56) n (mm_F p1 p2 p3 p4 p5 (h.1 66 56)))) mm_nx 0 0 := by
  refine mm_ofW (ls := [mR 66, mI p1, mI p2, mI p3, mI p4, mI p5]) hl (by decide) rfl (Nat.le_of_ble_eq_true rfl) ?_
  intro x hxl C T hnm htb
  subst hxl
  have C1 := mm_OK_le (d' := d - 1 + 1) (by omega) C
  refine mm_rng (fun hr _ => ?_)
  have ap1 : -2147483648 ≤ p1 ∧ p1 < 2147483648 := mm_ok_at hr (i := 1) rfl
  have ap2 : -2147483648 ≤ p2 ∧ p2 < 2147483648 := mm_ok_at hr (i := 2) rfl
  have ap3 : -2147483648 ≤ p3 ∧ p3 < 2147483648 := mm_ok_at hr (i := 3) rfl
  have ap4 : -2147483648 ≤ p4 ∧ p4 < 2147483648 := mm_ok_at hr (i := 4) rfl
  have ap5 : -2147483648 ≤ p5 ∧ p5 < 2147483648 := mm_ok_at hr (i := 5) rfl
  have f0 : mm_fr [(66, 0), (66, 56)] [101] h h := mm_fr_rf
  have g1 : 0 ≤ h.1 66 56 ∧ h.1 66 56 ≤ 500 := i0.1 66 56
  refine mm_aload_n C (mm_dec dk_X12_feed 0 rfl) rfl ?_
  refine mm_iconst C (mm_dec dk_X12_feed 1 rfl) ⟨by decide, by decide⟩ ?_
  refine mm_puti C fl_X12_188 (mm_dec dk_X12_feed 2 rfl) rfl rfl rfl (Or.inl ⟨rfl, rfl⟩) ?_
  have i1 : mm_inv (mm_pf h 66 0 0) := mm_inv_pf i0 (show -2147483648 ≤ 0 ∧ 0 ≤ 2147483647 from ⟨by omega, by omega⟩) (by decide)
  have f1 : mm_fr [(66, 0), (66, 56)] [101] h (mm_pf h 66 0 0) := mm_fr_pf f0 (by decide)
  obtain ⟨h1, eh1⟩ : ∃ z, z = mm_pf h 66 0 0 := ⟨_, rfl⟩
  rw [← eh1] at i1 f1 ⊢
  have qh1 : h1.1 66 0 = 0 := by rw [eh1]; exact mm_pf_same _ _ _ _
  have qh1_2 : h1.1 66 56 = h.1 66 56 := by rw [eh1]; exact mm_pf_ne _ _ (by decide)
  refine mm_aload_n C (mm_dec dk_X12_feed 3 rfl) rfl ?_
  refine mm_geti C fl_X12_350 (mm_dec dk_X12_feed 4 rfl) rfl rfl (Or.inl rfl) ?_
  refine mm_bipush C (mm_dec dk_X12_feed 5 rfl) ⟨by decide, by decide⟩ ?_
  refine mm_iadd C (mm_dec dk_X12_feed 6 rfl) ⟨by omega, by omega⟩ ?_
  refine mm_sipush C (mm_dec dk_X12_feed 7 rfl) ⟨by decide, by decide⟩ ?_
  refine mm_icmp_le (tgt := 20) C (mm_dec dk_X12_feed 8 rfl) (by decide) (fun c15 => ?_) (fun c15 => ?_)
  · skip
    refine mm_aload_n C (mm_dec dk_X12_feed 11 rfl) rfl ?_
    refine mm_iload_n C (mm_dec dk_X12_feed 12 rfl) rfl ?_
    refine mm_cVv (rest := []) C1 ev_X12_353 (mm_dec dk_X12_feed 13 rfl) (c_X12_lays_q x.2.1 hl (d - 1) (by omega) h1 i1 p1 (by omega)) rfl rfl (Nat.le_of_ble_eq_true rfl) ⟨by decide, by decide⟩ rfl (fun h22c hp22 => ?_) (fun _ _ q => q.elim)
    obtain ⟨i22c, g22c, y22_0, y22_1⟩ := hp22
    have f22c : mm_fr [(66, 0), (66, 56)] [101] h h22c := mm_fr_tr f1 g22c (by decide +kernel)
    have q22c_4 : h22c.1 66 0 = h1.1 66 0 := g22c.1 66 0 (by decide)
    have g5 : 0 ≤ (h22c.1 66 56) ∧ (h22c.1 66 56) ≤ 500 := i22c.1 66 56
    refine mm_aload_n C (mm_dec dk_X12_feed 14 rfl) rfl ?_
    refine mm_iload_n C (mm_dec dk_X12_feed 15 rfl) rfl ?_
    refine mm_cVv (rest := []) C1 ev_X12_353 (mm_dec dk_X12_feed 16 rfl) (c_X12_lays_q x.2.1 hl (d - 1) (by omega) h22c i22c p2 (by omega)) rfl rfl (Nat.le_of_ble_eq_true rfl) ⟨by decide, by decide⟩ rfl (fun h27c hp27 => ?_) (fun _ _ q => q.elim)
    obtain ⟨i27c, g27c, y27_0, y27_1⟩ := hp27
    have f27c : mm_fr [(66, 0), (66, 56)] [101] h h27c := mm_fr_tr f22c g27c (by decide +kernel)
    have q27c_7 : h27c.1 66 0 = h22c.1 66 0 := g27c.1 66 0 (by decide)
    have g8 : 0 ≤ (h27c.1 66 56) ∧ (h27c.1 66 56) ≤ 500 := i27c.1 66 56
    refine mm_aload_n C (mm_dec dk_X12_feed 17 rfl) rfl ?_
    refine mm_iload_n C (mm_dec dk_X12_feed 18 rfl) rfl ?_
    refine mm_cVv (rest := []) C1 ev_X12_353 (mm_dec dk_X12_feed 19 rfl) (c_X12_lays_q x.2.1 hl (d - 1) (by omega) h27c i27c p3 (by omega)) rfl rfl (Nat.le_of_ble_eq_true rfl) ⟨by decide, by decide⟩ rfl (fun h32c hp32 => ?_) (fun _ _ q => q.elim)
    obtain ⟨i32c, g32c, y32_0, y32_1⟩ := hp32
    have f32c : mm_fr [(66, 0), (66, 56)] [101] h h32c := mm_fr_tr f27c g32c (by decide +kernel)
    have q32c_10 : h32c.1 66 0 = h27c.1 66 0 := g32c.1 66 0 (by decide)
    have g11 : 0 ≤ (h32c.1 66 56) ∧ (h32c.1 66 56) ≤ 500 := i32c.1 66 56
    refine mm_aload_n C (mm_dec dk_X12_feed 20 rfl) rfl ?_
    refine mm_iload C (mm_dec dk_X12_feed 21 rfl) rfl ?_
    refine mm_cVv (rest := []) C1 ev_X12_353 (mm_dec dk_X12_feed 22 rfl) (c_X12_lays_q x.2.1 hl (d - 1) (by omega) h32c i32c p4 (by omega)) rfl rfl (Nat.le_of_ble_eq_true rfl) ⟨by decide, by decide⟩ rfl (fun h38c hp38 => ?_) (fun _ _ q => q.elim)
    obtain ⟨i38c, g38c, y38_0, y38_1⟩ := hp38
    have f38c : mm_fr [(66, 0), (66, 56)] [101] h h38c := mm_fr_tr f32c g38c (by decide +kernel)
    have q38c_13 : h38c.1 66 0 = h32c.1 66 0 := g38c.1 66 0 (by decide)
    have g14 : 0 ≤ (h38c.1 66 56) ∧ (h38c.1 66 56) ≤ 500 := i38c.1 66 56
    refine mm_aload_n C (mm_dec dk_X12_feed 23 rfl) rfl ?_
    refine mm_iload C (mm_dec dk_X12_feed 24 rfl) rfl ?_
    refine mm_cVv (rest := []) C1 ev_X12_353 (mm_dec dk_X12_feed 25 rfl) (c_X12_lays_q x.2.1 hl (d - 1) (by omega) h38c i38c p5 (by omega)) rfl rfl (Nat.le_of_ble_eq_true rfl) ⟨by decide, by decide⟩ rfl (fun h44c hp44 => ?_) (fun _ _ q => q.elim)
    obtain ⟨i44c, g44c, y44_0, y44_1⟩ := hp44
    have f44c : mm_fr [(66, 0), (66, 56)] [101] h h44c := mm_fr_tr f38c g44c (by decide +kernel)
    have q44c_16 : h44c.1 66 0 = h38c.1 66 0 := g44c.1 66 0 (by decide)
    have g17 : 0 ≤ (h44c.1 66 56) ∧ (h44c.1 66 56) ≤ 500 := i44c.1 66 56
    refine mm_aload_n C (mm_dec dk_X12_feed 26 rfl) rfl ?_
    refine mm_geti C fl_X12_350 (mm_dec dk_X12_feed 27 rfl) rfl rfl (Or.inl rfl) ?_
    exact mm_iret C T (mm_dec dk_X12_feed 28 rfl) (by decide : 0 ≤ 0) (by decide : 0 ≤ 0) ⟨_, rfl, ⟨⟨by omega, by omega⟩, i44c, f44c, by omega, by first | exact ⟨h.1 66 56, Or.inr ⟨by omega, rfl⟩, mm_tp_0 (fun _ => rfl) (by omega)⟩ | exact ⟨h.1 66 56, Or.inr ⟨by omega, rfl⟩, mm_tp_0 (fun j => mm_sm_pf 101 eh1 j) (by omega)⟩ | exact ⟨h.1 66 56 + 20, Or.inl ⟨by omega, rfl⟩, mm_tp_5 (by rw [show h.1 66 56 = h1.1 66 56 by omega]; exact mm_tp_tr (fun j => (mm_sm_pf 101 eh1 j)) y22_1 (fun _ => rfl)) y27_1 y32_1 y38_1 y44_1 (by omega) (by omega) (by omega) (by omega) rfl⟩⟩⟩
  · skip
    refine mm_iconst C (mm_dec dk_X12_feed 9 rfl) ⟨by decide, by decide⟩ ?_
    exact mm_iret C T (mm_dec dk_X12_feed 10 rfl) (by decide : 0 ≤ 0) (by decide : 0 ≤ 0) ⟨_, rfl, ⟨⟨by omega, by omega⟩, i1, f1, by omega, by first | exact ⟨h.1 66 56, Or.inr ⟨by omega, rfl⟩, mm_tp_0 (fun _ => rfl) (by omega)⟩ | exact ⟨h.1 66 56, Or.inr ⟨by omega, rfl⟩, mm_tp_0 (fun j => mm_sm_pf 101 eh1 j) (by omega)⟩ | exact ⟨h.1 66 56 + 20, Or.inl ⟨by omega, rfl⟩, mm_tp_5 (by rw [show h.1 66 56 = h1.1 66 56 by omega]; exact mm_tp_tr (fun j => (mm_sm_pf 101 eh1 j)) y22_1 (fun _ => rfl)) y27_1 y32_1 y38_1 y44_1 (by omega) (by omega) (by omega) (by omega) rfl⟩⟩⟩
set_option maxRecDepth 100000 in
set_option maxHeartbeats 4000000 in
theorem c_X11_needBytes_q (l : Launch) (hl : l.stackTraces = false) (d : Nat) (hd : 8 ≤ d) (h : mH) (i0 : mm_inv h) (p1 : Int) : mm_Met l d yX11_needBytes cX11_needBytes 2 none [mR 0, mI p1] h (mm_pv fun h2 => h2 = h ∧ 0 ≤ p1 ∧ p1 ≤ (h.1 0 12)) (fun E h' => mm_xi h E h' ∧ (p1 < 0 ∨ h.1 0 12 < p1)) 1 6 := by
  refine mm_ofW (ls := [mR 0, mI p1]) hl (by decide) rfl (Nat.le_of_ble_eq_true rfl) ?_
  intro x hxl C T hnm htb
  subst hxl
  have C1 := mm_OK_le (d' := d - 1 + 1) (by omega) C
  have C8 := mm_OK_le (d' := d - 8 + 8) (by omega) C
  refine mm_rng (fun hr _ => ?_)
  have ap1 : -2147483648 ≤ p1 ∧ p1 < 2147483648 := mm_ok_at hr (i := 1) rfl
  have f0 : mm_fr [] [] h h := mm_fr_rf
  have g1 : 0 ≤ h.1 0 12 ∧ h.1 0 12 ≤ 500 := i0.1 0 12
  refine mm_iload_n C (mm_dec dk_X11_needBytes 0 rfl) rfl ?_
  refine mm_if_lt (tgt := 12) C (mm_dec dk_X11_needBytes 1 rfl) (by decide) (fun c1 => ?_) (fun c1 => ?_)
  · skip
    exact mm_throwXW C8 T htb th_iae (i := 14) rfl (mm_dec dk_X11_needBytes 6 rfl) (mm_dec dk_X11_needBytes 7 rfl) (mm_dec dk_X11_needBytes 8 rfl) (mm_dec dk_X11_needBytes 9 rfl) (mm_dec dk_X11_needBytes 10 rfl) (Nat.le_of_ble_eq_true rfl) ⟨by decide, by decide⟩ ⟨by decide, by decide⟩ (⟨⟨rfl, rfl⟩, by omega⟩)
  · skip
    refine mm_iload_n C (mm_dec dk_X11_needBytes 2 rfl) rfl ?_
    refine mm_aload_n C (mm_dec dk_X11_needBytes 3 rfl) rfl ?_
    refine mm_geti C fl_X11_98 (mm_dec dk_X11_needBytes 4 rfl) rfl rfl (Or.inl rfl) ?_
    refine mm_icmp_le (tgt := 23) C (mm_dec dk_X11_needBytes 5 rfl) (by decide) (fun c9 => ?_) (fun c9 => ?_)
    · skip
      exact mm_vret C T (mm_dec dk_X11_needBytes 11 rfl) (by decide : 0 ≤ 1) (by decide : 0 ≤ 6) ⟨rfl, ⟨rfl, by omega, by omega⟩⟩
    · skip
      exact mm_throwXW C8 T htb th_iae (i := 14) rfl (mm_dec dk_X11_needBytes 6 rfl) (mm_dec dk_X11_needBytes 7 rfl) (mm_dec dk_X11_needBytes 8 rfl) (mm_dec dk_X11_needBytes 9 rfl) (mm_dec dk_X11_needBytes 10 rfl) (Nat.le_of_ble_eq_true rfl) ⟨by decide, by decide⟩ ⟨by decide, by decide⟩ (⟨⟨rfl, rfl⟩, by omega⟩)
set_option maxRecDepth 100000 in
set_option maxHeartbeats 4000000 in
theorem c_X5_secondsOf_q (l : Launch) (hl : l.stackTraces = false) (d : Nat) (hd : 0 ≤ d) (h : mH) (i0 : mm_inv h) (p1 : Int) (p2 : Int) (bp1 : 0 ≤ p1 ∧ p1 ≤ 399) (bp2 : 0 ≤ p2 ∧ p2 ≤ 399) : mm_Met l d yX5_secondsOf cX5_secondsOf 4 (some .int) [mR 1, mI p1, mI p2] h (mm_pi fun r h2 => (0 ≤ r ∧ r ≤ 9900) ∧ h2 = h ∧ r = mm_sx h p1 p2) mm_nx 0 0 := by
  refine mm_ofW (ls := [mR 1, mI p1, mI p2, mU]) hl (by decide) rfl (Nat.le_of_ble_eq_true rfl) ?_
  intro x hxl C T hnm htb
  subst hxl
  refine mm_rng (fun hr _ => ?_)
  have ap1 : -2147483648 ≤ p1 ∧ p1 < 2147483648 := mm_ok_at hr (i := 1) rfl
  have ap2 : -2147483648 ≤ p2 ∧ p2 < 2147483648 := mm_ok_at hr (i := 2) rfl
  have f0 : mm_fr [] [] h h := mm_fr_rf
  refine mm_aload_n C (mm_dec dk_X5_secondsOf 0 rfl) rfl ?_
  refine mm_getr (t := 3) C fl_X5_15 (mm_dec dk_X5_secondsOf 1 rfl) rfl rfl (mm_ref i0 rfl) ?_
  refine mm_iload_n C (mm_dec dk_X5_secondsOf 2 rfl) rfl ?_
  refine mm_iald C (mm_dec dk_X5_secondsOf 3 rfl) rfl (by omega) (by omega) ?_
  have g1 : 0 ≤ (h.2.1 3 p2) ∧ (h.2.1 3 p2) ≤ 99 := i0.2.1 3 p2
  refine mm_aload_n C (mm_dec dk_X5_secondsOf 4 rfl) rfl ?_
  refine mm_getr (t := 3) C fl_X5_15 (mm_dec dk_X5_secondsOf 5 rfl) rfl rfl (mm_ref i0 rfl) ?_
  refine mm_iload_n C (mm_dec dk_X5_secondsOf 6 rfl) rfl ?_
  refine mm_iald C (mm_dec dk_X5_secondsOf 7 rfl) rfl (by omega) (by omega) ?_
  have g2 : 0 ≤ (h.2.1 3 p1) ∧ (h.2.1 3 p1) ≤ 99 := i0.2.1 3 p1
  refine mm_isub C (mm_dec dk_X5_secondsOf 8 rfl) ⟨by omega, by omega⟩ ?_
  refine mm_istore_nL (ls2 := [mR 1, mI p1, mI p2, mI ((h.2.1 3 p2) - (h.2.1 3 p1))]) C (mm_dec dk_X5_secondsOf 9 rfl) (by decide) rfl ?_
  refine mm_aload_n C (mm_dec dk_X5_secondsOf 10 rfl) rfl ?_
  refine mm_getr (t := 6) C fl_X5_25 (mm_dec dk_X5_secondsOf 11 rfl) rfl rfl (mm_ref i0 rfl) ?_
  refine mm_aload_n C (mm_dec dk_X5_secondsOf 12 rfl) rfl ?_
  refine mm_getr (t := 2) C fl_X5_9 (mm_dec dk_X5_secondsOf 13 rfl) rfl rfl (mm_ref i0 rfl) ?_
  refine mm_iload_n C (mm_dec dk_X5_secondsOf 14 rfl) rfl ?_
  refine mm_iald C (mm_dec dk_X5_secondsOf 15 rfl) rfl (by omega) (by omega) ?_
  have g3 : 0 ≤ (h.2.1 2 p2) ∧ (h.2.1 2 p2) ≤ 7 := i0.2.1 2 p2
  refine mm_iald C (mm_dec dk_X5_secondsOf 16 rfl) rfl (by omega) (by omega) ?_
  have g4 : 0 ≤ (h.2.1 6 (h.2.1 2 p2)) ∧ (h.2.1 6 (h.2.1 2 p2)) ≤ 99 := i0.2.1 6 (h.2.1 2 p2)
  refine mm_iload_n C (mm_dec dk_X5_secondsOf 17 rfl) rfl ?_
  refine mm_if_le (tgt := 41) C (mm_dec dk_X5_secondsOf 18 rfl) (by decide) (fun c26 => ?_) (fun c26 => ?_)
  · skip
    refine mm_iconst C (mm_dec dk_X5_secondsOf 26 rfl) ⟨by decide, by decide⟩ ?_
    refine mm_iadd C (mm_dec dk_X5_secondsOf 27 rfl) ⟨by omega, by omega⟩ ?_
    exact mm_iret C T (mm_dec dk_X5_secondsOf 28 rfl) (by decide : 0 ≤ 0) (by decide : 0 ≤ 0) ⟨_, rfl, ⟨⟨by omega, by omega⟩, rfl, by first | (have zk := mm_cm_0 (k := h.2.1 6 8) (u := h.2.1 3 p2 - h.2.1 3 p1) (by omega); show _ = h.2.1 6 (h.2.1 2 p2) + mm_cm (h.2.1 6 8) (h.2.1 3 p2 - h.2.1 3 p1); omega) | (have zk := mm_cm_p (k := h.2.1 6 8) (u := h.2.1 3 p2 - h.2.1 3 p1) (by omega) rfl; show _ = h.2.1 6 (h.2.1 2 p2) + mm_cm (h.2.1 6 8) (h.2.1 3 p2 - h.2.1 3 p1); omega)⟩⟩
  · skip
    refine mm_iload_n C (mm_dec dk_X5_secondsOf 19 rfl) rfl ?_
    refine mm_aload_n C (mm_dec dk_X5_secondsOf 20 rfl) rfl ?_
    refine mm_getr (t := 6) C fl_X5_25 (mm_dec dk_X5_secondsOf 21 rfl) rfl rfl (mm_ref i0 rfl) ?_
    refine mm_bipush C (mm_dec dk_X5_secondsOf 22 rfl) ⟨by decide, by decide⟩ ?_
    refine mm_iald C (mm_dec dk_X5_secondsOf 23 rfl) rfl (by omega) (by omega) ?_
    have g5 : 0 ≤ (h.2.1 6 8) ∧ (h.2.1 6 8) ≤ 99 := i0.2.1 6 8
    have g6 : 0 ≤ ((h.2.1 3 p2) - (h.2.1 3 p1)) * (h.2.1 6 8) ∧ ((h.2.1 3 p2) - (h.2.1 3 p1)) * (h.2.1 6 8) ≤ 99 * 99 := mm_mul_rg ⟨by omega, by omega⟩ ⟨by omega, by omega⟩
    refine mm_imul C (mm_dec dk_X5_secondsOf 24 rfl) ⟨by omega, by omega⟩ ?_
    refine mm_goto (tgt := 42) C (mm_dec dk_X5_secondsOf 25 rfl) (by decide) ?_
    refine mm_iadd C (mm_dec dk_X5_secondsOf 27 rfl) ⟨by omega, by omega⟩ ?_
    exact mm_iret C T (mm_dec dk_X5_secondsOf 28 rfl) (by decide : 0 ≤ 0) (by decide : 0 ≤ 0) ⟨_, rfl, ⟨⟨by omega, by omega⟩, rfl, by first | (have zk := mm_cm_0 (k := h.2.1 6 8) (u := h.2.1 3 p2 - h.2.1 3 p1) (by omega); show _ = h.2.1 6 (h.2.1 2 p2) + mm_cm (h.2.1 6 8) (h.2.1 3 p2 - h.2.1 3 p1); omega) | (have zk := mm_cm_p (k := h.2.1 6 8) (u := h.2.1 3 p2 - h.2.1 3 p1) (by omega) rfl; show _ = h.2.1 6 (h.2.1 2 p2) + mm_cm (h.2.1 6 8) (h.2.1 3 p2 - h.2.1 3 p1); omega)⟩⟩
set_option maxRecDepth 100000 in
set_option maxHeartbeats 4000000 in
theorem c_X10_walk_62_61_q (l : Launch) (hl : l.stackTraces = false) (d : Nat) (hd : 2 ≤ d) (h : mH) (i0 : mm_inv h) (p2 : Int) (p4 : Int) (bp2 : 0 ≤ p2 ∧ p2 ≤ 500) (bp4 : 0 ≤ p4 ∧ p4 ≤ 12) : mm_Met l d yX10_walk cX10_walk 11 (some .int) [mR 7, mR 62, mI p2, mR 61, mI p4] h (mm_pi fun r h2 => (-2147483648 ≤ r ∧ r ≤ 2147483647) ∧ mm_inv h2 ∧ mm_fr [(7, 10), (7, 11)] [] h h2 ∧ r = mm_wX h p2 ∧ mm_fp (mm_WX h) p2 (h2.1 7 10)) mm_nx 0 0 := by
  refine mm_ofW (ls := [mR 7, mR 62, mI p2, mR 61, mI p4, mU, mU, mU, mU, mU, mU]) hl (by decide) rfl (Nat.le_of_ble_eq_true rfl) ?_
  intro x hxl C T hnm htb
  subst hxl
  have C1 := mm_OK_le (d' := d - 1 + 1) (by omega) C
  refine mm_rng (fun hr _ => ?_)
  have ap2 : -2147483648 ≤ p2 ∧ p2 < 2147483648 := mm_ok_at hr (i := 2) rfl
  have ap4 : -2147483648 ≤ p4 ∧ p4 < 2147483648 := mm_ok_at hr (i := 4) rfl
  have f0 : mm_fr [(7, 10), (7, 11)] [] h h := mm_fr_rf
  have g1 : -2147483648 ≤ h.1 7 10 ∧ h.1 7 10 ≤ 2147483647 := i0.1 7 10
  refine mm_aload_n C (mm_dec dk_X10_walk 0 rfl) rfl ?_
  refine mm_iconst C (mm_dec dk_X10_walk 1 rfl) ⟨by decide, by decide⟩ ?_
  refine mm_puti C fl_X10_41 (mm_dec dk_X10_walk 2 rfl) rfl rfl rfl (Or.inl ⟨rfl, rfl⟩) ?_
  have i1 : mm_inv (mm_pf h 7 10 (-1)) := mm_inv_pf i0 (show -2147483648 ≤ (-1) ∧ (-1) ≤ 2147483647 from ⟨by omega, by omega⟩) (by decide)
  have f1 : mm_fr [(7, 10), (7, 11)] [] h (mm_pf h 7 10 (-1)) := mm_fr_pf f0 (by decide)
  obtain ⟨h1, eh1⟩ : ∃ z, z = mm_pf h 7 10 (-1) := ⟨_, rfl⟩
  rw [← eh1] at i1 f1 ⊢
  have qh1 : h1.1 7 10 = (-1) := by rw [eh1]; exact mm_pf_same _ _ _ _
  have zW9 : mm_WX h1 = mm_WX h := by rw [eh1]; rfl
  refine mm_aload_n C (mm_dec dk_X10_walk 3 rfl) rfl ?_
  refine mm_getr (t := 1) C fl_X10_48 (mm_dec dk_X10_walk 4 rfl) rfl rfl (mm_ref i1 rfl) ?_
  refine mm_geti C fl_X10_74 (mm_dec dk_X10_walk 5 rfl) rfl rfl (Or.inl rfl) ?_
  have g2 : 0 ≤ (h1.1 1 7) ∧ (h1.1 1 7) ≤ 399 := i1.1 1 7
  refine mm_istoreL (ls2 := [mR 7, mR 62, mI p2, mR 61, mI p4, mI (h1.1 1 7), mU, mU, mU, mU, mU]) C (mm_dec dk_X10_walk 6 rfl) (by decide) rfl ?_
  refine mm_iload C (mm_dec dk_X10_walk 7 rfl) rfl ?_
  refine mm_aload_n C (mm_dec dk_X10_walk 8 rfl) rfl ?_
  refine mm_iconst C (mm_dec dk_X10_walk 9 rfl) ⟨by decide, by decide⟩ ?_
  refine mm_iload C (mm_dec dk_X10_walk 10 rfl) rfl ?_
  refine mm_cSi (rest := []) C1 es_X10_80 (mm_dec dk_X10_walk 11 rfl) (c_X10_passed_61 x.2.1 hl (d - 1) (by omega) h1 i1 (h1.1 1 7) 0 p4 ⟨by omega, by omega⟩ ⟨by omega, by omega⟩ ⟨by omega, by omega⟩) rfl (Nat.le_of_ble_eq_true rfl) ⟨by decide, by decide⟩ rfl (fun r20 h20c hp20 => ?_) (fun _ _ q => q.elim)
  obtain ⟨b20, z20⟩ := hp20
  rw [z20]
  refine mm_istoreL (ls2 := [mR 7, mR 62, mI p2, mR 61, mI p4, mI (h1.1 1 7), mI r20, mU, mU, mU, mU]) C (mm_dec dk_X10_walk 12 rfl) (by decide) rfl ?_
  refine mm_iconst C (mm_dec dk_X10_walk 13 rfl) ⟨by decide, by decide⟩ ?_
  refine mm_istoreL (ls2 := [mR 7, mR 62, mI p2, mR 61, mI p4, mI (h1.1 1 7), mI r20, mI 0, mU, mU, mU]) C (mm_dec dk_X10_walk 14 rfl) (by decide) rfl ?_
  refine mm_iconst C (mm_dec dk_X10_walk 15 rfl) ⟨by decide, by decide⟩ ?_
  have J31 : ∀ (n : Nat) (x31_5 : Int) (bx31_5 : 0 ≤ x31_5 ∧ x31_5 ≤ 399) (x31_6 : Int) (bx31_6 : 0 ≤ x31_6 ∧ x31_6 ≤ 12) (x31_7 : Int) (bx31_7 : -2147483648 ≤ x31_7 ∧ x31_7 ≤ 2147483647) (x31_8 : Int) (bx31_8 : 0 ≤ x31_8 ∧ x31_8 ≤ 500) (w31_0 : mm_wk (mm_bx h1) (mm_sx h1) (h1.2.1 62) (h1.1 1 7) (x31_8).toNat = (x31_5, x31_7)) (w31_1 : x31_8 ≤ p2), (500 - x31_8 : Int) < n → mm_W x 0 0 31 [mR 7, mR 62, mI p2, mR 61, mI p4, mI x31_5, mI x31_6, mI x31_7, mI x31_8, mU, mU] [] h1 := by
    intro n
    induction n with
    | zero =>
      intro x31_5 bx31_5 x31_6 bx31_6 x31_7 bx31_7 x31_8 bx31_8 w31_0 w31_1 hm
      exfalso; omega
    | succ n ih31 =>
      intro x31_5 bx31_5 x31_6 bx31_6 x31_7 bx31_7 x31_8 bx31_8 w31_0 w31_1 hm31
      refine mm_iload C (mm_dec dk_X10_walk 17 rfl) rfl ?_
      refine mm_iload_n C (mm_dec dk_X10_walk 18 rfl) rfl ?_
      refine mm_icmp_ge (tgt := 155) C (mm_dec dk_X10_walk 19 rfl) (by decide) (fun c34 => ?_) (fun c34 => ?_)
      · skip
        refine mm_aload_n C (mm_dec dk_X10_walk 76 rfl) rfl ?_
        refine mm_iload C (mm_dec dk_X10_walk 77 rfl) rfl ?_
        refine mm_iload C (mm_dec dk_X10_walk 78 rfl) rfl ?_
        have J180 : ∀ (s180_1 : Int) (bs180_1 : 0 ≤ s180_1 ∧ s180_1 ≤ 1) (w180_0 : x31_7 = mm_wr (mm_wk (mm_bx h1) (mm_sx h1) (h1.2.1 62) (h1.1 1 7) p2.toNat)) (vs180_1 : (s180_1 = 0) ∨ (x31_6 = p4 ∧ x31_5 = (h1.1 1 8) ∧ s180_1 = 1)), mm_W x 0 0 180 [mU, mU, mU, mU, mU, mU, mU, mI x31_7, mU, mU, mU] [mI s180_1, mR 7] h1 := by
          intro s180_1 bs180_1 w180_0 vs180_1
          refine mm_puti C fl_X10_44 (mm_dec dk_X10_walk 88 rfl) rfl rfl rfl (Or.inr ⟨rfl, rfl, by omega⟩) ?_
          have i2 : mm_inv (mm_pf h1 7 11 s180_1) := mm_inv_pf i1 (show 0 ≤ s180_1 ∧ s180_1 ≤ 1 from ⟨by omega, by omega⟩) (by decide)
          have f2 : mm_fr [(7, 10), (7, 11)] [] h (mm_pf h1 7 11 s180_1) := mm_fr_pf f1 (by decide)
          obtain ⟨h2, eh2⟩ : ∃ z, z = mm_pf h1 7 11 s180_1 := ⟨_, rfl⟩
          rw [← eh2] at i2 f2 ⊢
          have qh2 : h2.1 7 11 = s180_1 := by rw [eh2]; exact mm_pf_same _ _ _ _
          have qh2_4 : h2.1 1 7 = h1.1 1 7 := by rw [eh2]; exact mm_pf_ne _ _ (by decide)
          have qh2_5 : h2.1 7 10 = h1.1 7 10 := by rw [eh2]; exact mm_pf_ne _ _ (by decide)
          refine mm_iload C (mm_dec dk_X10_walk 89 rfl) rfl ?_
          exact mm_iret C T (mm_dec dk_X10_walk 90 rfl) (by decide : 0 ≤ 0) (by decide : 0 ≤ 0) ⟨_, rfl, ⟨⟨by omega, by omega⟩, i2, f2, by first | (refine (show _ = mm_wX h1 p2 from w180_0).trans ?_; rw [eh1]; rfl) | (refine (show _ = mm_wX h1 p2 from w116_0).trans ?_; rw [eh1]; rfl), by first | (rw [← zW9, show h2.1 7 10 = x31_8 by omega]; exact Or.inr ⟨by omega, by omega, by (have e9 : (mm_WX h1 x31_8.toNat).1 = x31_5 := congrArg Prod.fst w31_0; omega), zn9⟩) | (rw [← zW9]; exact Or.inl ⟨by omega, by (have e9 : (mm_WX h1 p2.toNat).1 = x31_5 := by (rw [show p2 = x31_8 by omega]; exact congrArg Prod.fst w31_0)); omega⟩)⟩⟩
        have J179 : ∀ (w179_0 : x31_7 = mm_wr (mm_wk (mm_bx h1) (mm_sx h1) (h1.2.1 62) (h1.1 1 7) p2.toNat)), mm_W x 0 0 179 [mU, mU, mU, mU, mU, mU, mU, mI x31_7, mU, mU, mU] [mR 7] h1 := by
          intro w179_0
          refine mm_iconst C (mm_dec dk_X10_walk 87 rfl) ⟨by decide, by decide⟩ ?_
          exact J180 0 ⟨by omega, by omega⟩ (by first | exact mm_wk_end w31_0 (by omega) (by omega) | exact w179_0) (Or.inl rfl)
        refine mm_icmp_ne (tgt := 179) C (mm_dec dk_X10_walk 79 rfl) (by decide) (fun c160 => ?_) (fun c160 => ?_)
        · skip
          refine mm_fgt 0 ?_
          refine mm_fgt 1 ?_
          refine mm_fgt 2 ?_
          refine mm_fgt 3 ?_
          refine mm_fgt 4 ?_
          refine mm_fgt 5 ?_
          refine mm_fgt 6 ?_
          refine mm_fgt 8 ?_
          exact J179 (by exact mm_wk_end w31_0 (by omega) (by omega))
        · skip
          refine mm_iload C (mm_dec dk_X10_walk 80 rfl) rfl ?_
          refine mm_aload_n C (mm_dec dk_X10_walk 81 rfl) rfl ?_
          refine mm_getr (t := 1) C fl_X10_48 (mm_dec dk_X10_walk 82 rfl) rfl rfl (mm_ref i1 rfl) ?_
          refine mm_geti C fl_X10_77 (mm_dec dk_X10_walk 83 rfl) rfl rfl (Or.inl rfl) ?_
          have g6 : 0 ≤ (h1.1 1 8) ∧ (h1.1 1 8) ≤ 399 := i1.1 1 8
          refine mm_icmp_ne (tgt := 179) C (mm_dec dk_X10_walk 84 rfl) (by decide) (fun c172 => ?_) (fun c172 => ?_)
          · skip
            refine mm_fgt 0 ?_
            refine mm_fgt 1 ?_
            refine mm_fgt 2 ?_
            refine mm_fgt 3 ?_
            refine mm_fgt 4 ?_
            refine mm_fgt 5 ?_
            refine mm_fgt 6 ?_
            refine mm_fgt 8 ?_
            exact J179 (by exact mm_wk_end w31_0 (by omega) (by omega))
          · skip
            refine mm_iconst C (mm_dec dk_X10_walk 85 rfl) ⟨by decide, by decide⟩ ?_
            refine mm_goto (tgt := 180) C (mm_dec dk_X10_walk 86 rfl) (by decide) ?_
            refine mm_fgt 0 ?_
            refine mm_fgt 1 ?_
            refine mm_fgt 2 ?_
            refine mm_fgt 3 ?_
            refine mm_fgt 4 ?_
            refine mm_fgt 5 ?_
            refine mm_fgt 6 ?_
            refine mm_fgt 8 ?_
            exact J180 1 ⟨by omega, by omega⟩ (by first | exact mm_wk_end w31_0 (by omega) (by omega) | exact w179_0) (Or.inr (⟨by omega, by omega, rfl⟩))
      · skip
        refine mm_aload_n C (mm_dec dk_X10_walk 20 rfl) rfl ?_
        refine mm_iload C (mm_dec dk_X10_walk 21 rfl) rfl ?_
        refine mm_iald C (mm_dec dk_X10_walk 22 rfl) rfl (by omega) (by omega) ?_
        have g7 : -2147483648 ≤ (h1.2.1 62 x31_8) ∧ (h1.2.1 62 x31_8) ≤ 2147483647 := i1.2.1 62 x31_8
        refine mm_cSi (rest := []) C1 es_X10_84 (mm_dec dk_X10_walk 23 rfl) (c_X10_moveOf x.2.1 hl (d - 1) (by omega) h1 i1 (h1.2.1 62 x31_8)) rfl (Nat.le_of_ble_eq_true rfl) ⟨by decide, by decide⟩ rfl (fun r41 h41c hp41 => ?_) (fun _ _ q => q.elim)
        obtain ⟨z41, y41⟩ := hp41
        rw [z41]
        have zm : mm_mv (h1.2.1 62 x31_8) = r41 := mm_mv_x (by omega)
        refine mm_istoreL (ls2 := [mR 7, mR 62, mI p2, mR 61, mI p4, mI x31_5, mI x31_6, mI x31_7, mI x31_8, mI r41, mU]) C (mm_dec dk_X10_walk 24 rfl) (by decide) rfl ?_
        refine mm_iload C (mm_dec dk_X10_walk 25 rfl) rfl ?_
        refine mm_bipush C (mm_dec dk_X10_walk 26 rfl) ⟨by decide, by decide⟩ ?_
        have J149 : ∀ (x149_5 : Int) (bx149_5 : 0 ≤ x149_5 ∧ x149_5 ≤ 399) (x149_6 : Int) (bx149_6 : 0 ≤ x149_6 ∧ x149_6 ≤ 12) (x149_7 : Int) (bx149_7 : -2147483648 ≤ x149_7 ∧ x149_7 ≤ 2147483647) (w149_0 : mm_wk (mm_bx h1) (mm_sx h1) (h1.2.1 62) (h1.1 1 7) (x31_8 + 1).toNat = (x149_5, x149_7)), mm_W x 0 0 149 [mR 7, mR 62, mI p2, mR 61, mI p4, mI x149_5, mI x149_6, mI x149_7, mI x31_8, mU, mU] [] h1 := by
          intro x149_5 bx149_5 x149_6 bx149_6 x149_7 bx149_7 w149_0
          refine mm_iincL (ls2 := [mR 7, mR 62, mI p2, mR 61, mI p4, mI x149_5, mI x149_6, mI x149_7, mI (x31_8 + 1), mU, mU]) C (mm_dec dk_X10_walk 74 rfl) rfl (by decide) ⟨by omega, by omega⟩ rfl ?_
          refine mm_goto (tgt := 31) C (mm_dec dk_X10_walk 75 rfl) (by decide) ?_
          exact ih31 x149_5 ⟨by omega, by omega⟩ x149_6 ⟨by omega, by omega⟩ x149_7 ⟨by omega, by omega⟩ (x31_8 + 1) ⟨by omega, by omega⟩ (by first | rfl | exact w149_0) (by omega) (by omega)
        refine mm_icmp_ne (tgt := 56) C (mm_dec dk_X10_walk 27 rfl) (by decide) (fun c50 => ?_) (fun c50 => ?_)
        · skip
          refine mm_iload C (mm_dec dk_X10_walk 29 rfl) rfl ?_
          refine mm_iconst C (mm_dec dk_X10_walk 30 rfl) ⟨by decide, by decide⟩ ?_
          have J77 : ∀ (s77_0 : Int) (bs77_0 : -1 ≤ s77_0 ∧ s77_0 ≤ 399) (w77_0 : ((r41 = -1 ∧ s77_0 = -1) ∨ (r41 ≠ -1 ∧ s77_0 = mm_bes h1 x31_5 r41))), mm_W x 0 0 77 [mR 7, mR 62, mI p2, mR 61, mI p4, mI x31_5, mI x31_6, mI x31_7, mI x31_8, mI r41, mU] [mI s77_0] h1 := by
            intro s77_0 bs77_0 w77_0
            refine mm_istoreL (ls2 := [mR 7, mR 62, mI p2, mR 61, mI p4, mI x31_5, mI x31_6, mI x31_7, mI x31_8, mI r41, mI s77_0]) C (mm_dec dk_X10_walk 39 rfl) (by decide) rfl ?_
            refine mm_iload C (mm_dec dk_X10_walk 40 rfl) rfl ?_
            refine mm_iconst C (mm_dec dk_X10_walk 41 rfl) ⟨by decide, by decide⟩ ?_
            have J97 : ∀ (w97_0 : (r41 = -1 ∨ (r41 ≠ -1 ∧ mm_bx h1 x31_5 r41 = -1))), mm_W x 0 0 97 [mR 7, mU, mU, mU, mU, mU, mU, mU, mI x31_8, mI r41, mU] [] h1 := by
              intro w97_0
              have zn9 : (mm_WX h1 (x31_8 + 1).toNat).1 < 0 := mm_wk_fn w31_0 (by omega) (by omega) zm (by omega) w97_0
              refine mm_aload_n C (mm_dec dk_X10_walk 48 rfl) rfl ?_
              refine mm_iload C (mm_dec dk_X10_walk 49 rfl) rfl ?_
              refine mm_puti C fl_X10_41 (mm_dec dk_X10_walk 50 rfl) rfl rfl rfl (Or.inl ⟨rfl, rfl⟩) ?_
              have i3 : mm_inv (mm_pf h1 7 10 x31_8) := mm_inv_pf i1 (show -2147483648 ≤ x31_8 ∧ x31_8 ≤ 2147483647 from ⟨by omega, by omega⟩) (by decide)
              have f3 : mm_fr [(7, 10), (7, 11)] [] h (mm_pf h1 7 10 x31_8) := mm_fr_pf f1 (by decide)
              obtain ⟨h3, eh3⟩ : ∃ z, z = mm_pf h1 7 10 x31_8 := ⟨_, rfl⟩
              rw [← eh3] at i3 f3 ⊢
              have qh3 : h3.1 7 10 = x31_8 := by rw [eh3]; exact mm_pf_same _ _ _ _
              have qh3_9 : h3.1 1 7 = h1.1 1 7 := by rw [eh3]; exact mm_pf_ne _ _ (by decide)
              refine mm_iload C (mm_dec dk_X10_walk 51 rfl) rfl ?_
              refine mm_iconst C (mm_dec dk_X10_walk 52 rfl) ⟨by decide, by decide⟩ ?_
              have J116 : ∀ (s116_0 : Int) (bs116_0 : -3 ≤ s116_0 ∧ s116_0 ≤ -2) (w116_0 : s116_0 = mm_wr (mm_wk (mm_bx h1) (mm_sx h1) (h1.2.1 62) (h1.1 1 7) p2.toNat)) (vs116_0 : (r41 ≠ (-1) ∧ s116_0 = -3) ∨ (r41 = (-1) ∧ s116_0 = -2)), mm_W x 0 0 116 [mU, mU, mU, mU, mU, mU, mU, mU, mU, mU, mU] [mI s116_0] h3 := by
                intro s116_0 bs116_0 w116_0 vs116_0
                exact mm_iret C T (mm_dec dk_X10_walk 57 rfl) (by decide : 0 ≤ 0) (by decide : 0 ≤ 0) ⟨_, rfl, ⟨⟨by omega, by omega⟩, i3, f3, by first | (refine (show _ = mm_wX h1 p2 from w180_0).trans ?_; rw [eh1]; rfl) | (refine (show _ = mm_wX h1 p2 from w116_0).trans ?_; rw [eh1]; rfl), by first | (rw [← zW9, show h3.1 7 10 = x31_8 by omega]; exact Or.inr ⟨by omega, by omega, by (have e9 : (mm_WX h1 x31_8.toNat).1 = x31_5 := congrArg Prod.fst w31_0; omega), zn9⟩) | (rw [← zW9]; exact Or.inl ⟨by omega, by (have e9 : (mm_WX h1 p2.toNat).1 = x31_5 := by (rw [show p2 = x31_8 by omega]; exact congrArg Prod.fst w31_0)); omega⟩)⟩⟩
              refine mm_icmp_ne (tgt := 114) C (mm_dec dk_X10_walk 53 rfl) (by decide) (fun c106 => ?_) (fun c106 => ?_)
              · skip
                refine mm_bipush C (mm_dec dk_X10_walk 56 rfl) ⟨by decide, by decide⟩ ?_
                refine mm_fgt 0 ?_
                refine mm_fgt 8 ?_
                refine mm_fgt 9 ?_
                exact J116 (-3) ⟨by omega, by omega⟩ (by first | exact mm_wk_f2 w31_0 (by omega) (by omega) (by omega) (by omega) | exact mm_wk_f3 w31_0 (by omega) (by omega) zm (by omega) (by omega) (by omega) (by omega)) (Or.inl ⟨by omega, rfl⟩)
              · skip
                refine mm_bipush C (mm_dec dk_X10_walk 54 rfl) ⟨by decide, by decide⟩ ?_
                refine mm_goto (tgt := 116) C (mm_dec dk_X10_walk 55 rfl) (by decide) ?_
                refine mm_fgt 0 ?_
                refine mm_fgt 8 ?_
                refine mm_fgt 9 ?_
                exact J116 (-2) ⟨by omega, by omega⟩ (by first | exact mm_wk_f2 w31_0 (by omega) (by omega) (by omega) (by omega) | exact mm_wk_f3 w31_0 (by omega) (by omega) zm (by omega) (by omega) (by omega) (by omega)) (Or.inr (⟨by omega, rfl⟩))
            refine mm_icmp_eq (tgt := 97) C (mm_dec dk_X10_walk 42 rfl) (by decide) (fun c82 => ?_) (fun c82 => ?_)
            · skip
              refine mm_fgt 1 ?_
              refine mm_fgt 2 ?_
              refine mm_fgt 3 ?_
              refine mm_fgt 4 ?_
              refine mm_fgt 5 ?_
              refine mm_fgt 6 ?_
              refine mm_fgt 7 ?_
              refine mm_fgt 10 ?_
              exact J97 (by first | exact Or.inl (by omega) | exact Or.inr ⟨by omega, mm_bx_1 (v := s77_0) (by omega) (by omega)⟩ | (rcases w77_0 with ⟨q1, q2⟩ | ⟨q1, q2⟩; exact Or.inl q1; exact Or.inr ⟨q1, mm_bx_1 q2 (by omega)⟩))
            · skip
              refine mm_aload_n C (mm_dec dk_X10_walk 43 rfl) rfl ?_
              refine mm_getr (t := 1) C fl_X10_48 (mm_dec dk_X10_walk 44 rfl) rfl rfl (mm_ref i1 rfl) ?_
              refine mm_iload C (mm_dec dk_X10_walk 45 rfl) rfl ?_
              refine mm_cVi (rest := []) C1 ev_X10_87 (mm_dec dk_X10_walk 46 rfl) (c_X5_canEnter x.2.1 hl (d - 1) (by omega) h1 i1 s77_0 ⟨by omega, by omega⟩) rfl rfl (Nat.le_of_ble_eq_true rfl) ⟨by decide, by decide⟩ rfl (fun r91 h91c hp91 => ?_) (fun _ _ q => q.elim)
              obtain ⟨z91, y91⟩ := hp91
              rw [z91]
              have g11 : 0 ≤ (h1.2.1 6 (h1.2.1 2 s77_0)) ∧ (h1.2.1 6 (h1.2.1 2 s77_0)) ≤ 99 := i1.2.1 6 (h1.2.1 2 s77_0)
              have g12 : 0 ≤ (h1.2.1 2 s77_0) ∧ (h1.2.1 2 s77_0) ≤ 7 := i1.2.1 2 s77_0
              refine mm_if_ne (tgt := 117) C (mm_dec dk_X10_walk 47 rfl) (by decide) (fun c94 => ?_) (fun c94 => ?_)
              · skip
                have zb : mm_bx h1 x31_5 r41 = s77_0 := mm_bx_2 (by omega) (by omega) (by omega)
                refine mm_iload C (mm_dec dk_X10_walk 58 rfl) rfl ?_
                refine mm_aload_n C (mm_dec dk_X10_walk 59 rfl) rfl ?_
                refine mm_getr (t := 1) C fl_X10_48 (mm_dec dk_X10_walk 60 rfl) rfl rfl (mm_ref i1 rfl) ?_
                refine mm_iload C (mm_dec dk_X10_walk 61 rfl) rfl ?_
                refine mm_iload C (mm_dec dk_X10_walk 62 rfl) rfl ?_
                refine mm_cVi (rest := [mI x31_7]) C1 ev_X10_91 (mm_dec dk_X10_walk 63 rfl) (c_X5_secondsOf_q x.2.1 hl (d - 1) (by omega) h1 i1 x31_5 s77_0 ⟨by omega, by omega⟩ ⟨by omega, by omega⟩) rfl rfl (Nat.le_of_ble_eq_true rfl) ⟨by decide, by decide⟩ rfl (fun r127 h127c hp127 => ?_) (fun _ _ q => q.elim)
                obtain ⟨b127, z127, y127_0⟩ := hp127
                rw [z127]
                refine mm_iaddw C (mm_dec dk_X10_walk 64 rfl) ?_
                have g14 : -2147483648 ≤ (mm_w (x31_7 + r127)) ∧ (mm_w (x31_7 + r127)) < 2147483648 := mm_w_rg _
                refine mm_istoreL (ls2 := [mR 7, mR 62, mI p2, mR 61, mI p4, mI x31_5, mI x31_6, mI (mm_w (x31_7 + r127)), mI x31_8, mI r41, mI s77_0]) C (mm_dec dk_X10_walk 65 rfl) (by decide) rfl ?_
                refine mm_iload C (mm_dec dk_X10_walk 66 rfl) rfl ?_
                refine mm_istoreL (ls2 := [mR 7, mR 62, mI p2, mR 61, mI p4, mI s77_0, mI x31_6, mI (mm_w (x31_7 + r127)), mI x31_8, mI r41, mI s77_0]) C (mm_dec dk_X10_walk 67 rfl) (by decide) rfl ?_
                refine mm_iload C (mm_dec dk_X10_walk 68 rfl) rfl ?_
                refine mm_aload_n C (mm_dec dk_X10_walk 69 rfl) rfl ?_
                refine mm_iload C (mm_dec dk_X10_walk 70 rfl) rfl ?_
                refine mm_iload C (mm_dec dk_X10_walk 71 rfl) rfl ?_
                refine mm_cSi (rest := []) C1 es_X10_80 (mm_dec dk_X10_walk 72 rfl) (c_X10_passed_61 x.2.1 hl (d - 1) (by omega) h1 i1 s77_0 x31_6 p4 ⟨by omega, by omega⟩ ⟨by omega, by omega⟩ ⟨by omega, by omega⟩) rfl (Nat.le_of_ble_eq_true rfl) ⟨by decide, by decide⟩ rfl (fun r144 h144c hp144 => ?_) (fun _ _ q => q.elim)
                obtain ⟨b144, z144⟩ := hp144
                rw [z144]
                refine mm_istoreL (ls2 := [mR 7, mR 62, mI p2, mR 61, mI p4, mI s77_0, mI r144, mI (mm_w (x31_7 + r127)), mI x31_8, mI r41, mI s77_0]) C (mm_dec dk_X10_walk 73 rfl) (by decide) rfl ?_
                refine mm_fgt 9 ?_
                refine mm_fgt 10 ?_
                exact J149 s77_0 ⟨by omega, by omega⟩ r144 ⟨by omega, by omega⟩ (mm_w (x31_7 + r127)) ⟨by omega, by omega⟩ (by first | exact mm_wk_skip w31_0 (by omega) (by omega) (by omega) | exact mm_wk_go w31_0 (by omega) (by omega) zm (by omega) (by omega) zb (by omega) (by rw [y127_0]))
              · skip
                refine mm_fgt 1 ?_
                refine mm_fgt 2 ?_
                refine mm_fgt 3 ?_
                refine mm_fgt 4 ?_
                refine mm_fgt 5 ?_
                refine mm_fgt 6 ?_
                refine mm_fgt 7 ?_
                refine mm_fgt 10 ?_
                exact J97 (by first | exact Or.inl (by omega) | exact Or.inr ⟨by omega, mm_bx_1 (v := s77_0) (by omega) (by omega)⟩ | (rcases w77_0 with ⟨q1, q2⟩ | ⟨q1, q2⟩; exact Or.inl q1; exact Or.inr ⟨q1, mm_bx_1 q2 (by omega)⟩))
          refine mm_icmp_ne (tgt := 66) C (mm_dec dk_X10_walk 31 rfl) (by decide) (fun c59 => ?_) (fun c59 => ?_)
          · skip
            refine mm_aload_n C (mm_dec dk_X10_walk 34 rfl) rfl ?_
            refine mm_getr (t := 1) C fl_X10_48 (mm_dec dk_X10_walk 35 rfl) rfl rfl (mm_ref i1 rfl) ?_
            refine mm_iload C (mm_dec dk_X10_walk 36 rfl) rfl ?_
            refine mm_iload C (mm_dec dk_X10_walk 37 rfl) rfl ?_
            refine mm_cVi (rest := []) C1 ev_X10_61 (mm_dec dk_X10_walk 38 rfl) (c_X5_beside x.2.1 hl (d - 1) (by omega) h1 i1 x31_5 r41 ⟨by omega, by omega⟩) rfl rfl (Nat.le_of_ble_eq_true rfl) ⟨by decide, by decide⟩ rfl (fun r74 h74c hp74 => ?_) (fun _ _ q => q.elim)
            obtain ⟨b74, z74, y74_0⟩ := hp74
            rw [z74]
            exact J77 r74 ⟨by omega, by omega⟩ (by omega)
          · skip
            refine mm_iconst C (mm_dec dk_X10_walk 32 rfl) ⟨by decide, by decide⟩ ?_
            refine mm_goto (tgt := 77) C (mm_dec dk_X10_walk 33 rfl) (by decide) ?_
            exact J77 (-1) ⟨by omega, by omega⟩ (by omega)
        · skip
          refine mm_goto (tgt := 149) C (mm_dec dk_X10_walk 28 rfl) (by decide) ?_
          refine mm_fgt 9 ?_
          exact J149 x31_5 ⟨by omega, by omega⟩ x31_6 ⟨by omega, by omega⟩ x31_7 ⟨by omega, by omega⟩ (by first | exact mm_wk_skip w31_0 (by omega) (by omega) (by omega) | exact mm_wk_go w31_0 (by omega) (by omega) zm (by omega) (by omega) zb (by omega) (by rw [y127_0]))
  refine mm_istoreL (ls2 := [mR 7, mR 62, mI p2, mR 61, mI p4, mI (h1.1 1 7), mI r20, mI 0, mI 0, mU, mU]) C (mm_dec dk_X10_walk 16 rfl) (by decide) rfl ?_
  exact J31 (((500 - 0) : Int) + 1).toNat (h1.1 1 7) ⟨by omega, by omega⟩ r20 ⟨by omega, by omega⟩ 0 ⟨by omega, by omega⟩ 0 ⟨by omega, by omega⟩ (by first | rfl | exact w149_0) (by omega) (by omega)
set_option maxRecDepth 100000 in
set_option maxHeartbeats 4000000 in
theorem c_X11_track_q (l : Launch) (hl : l.stackTraces = false) (d : Nat) (hd : 9 ≤ d) (h : mH) (i0 : mm_inv h) (p1 : Int) (p2 : Int) : mm_Met l d yX11_track cX11_track 5 (some .int) [mR 0, mI p1, mI p2] h (mm_pi fun r h2 => (-2147483648 ≤ r ∧ r ≤ 2147483647) ∧ mm_inv h2 ∧ mm_fr [(0, 12), (0, 14), (7, 10), (7, 11)] [26, 61] h h2 ∧ (0 ≤ p1 ∧ p1 < h.1 22 8 ∧ 0 ≤ p2 ∧ p2 ≤ h.1 0 12 ∧ h2.1 0 12 = 0) ∧ r = mm_wX h p2 ∧ mm_fp (mm_WX h) p2 (h2.1 0 14)) (fun E h' => (mm_xn h E h' ∧ (p1 < 0 ∨ h.1 22 8 ≤ p1)) ∨ (mm_xi h E h' ∧ (0 ≤ p1 ∧ p1 < h.1 22 8 ∧ (p2 < 0 ∨ h.1 0 12 < p2)))) 2 12 := by
  refine mm_ofW (ls := [mR 0, mI p1, mI p2, mU, mU]) hl (by decide) rfl (Nat.le_of_ble_eq_true rfl) ?_
  intro x hxl C T hnm htb
  subst hxl
  have C1 := mm_OK_le (d' := d - 1 + 1) (by omega) C
  have C8 := mm_OK_le (d' := d - 8 + 8) (by omega) C
  refine mm_rng (fun hr _ => ?_)
  have ap1 : -2147483648 ≤ p1 ∧ p1 < 2147483648 := mm_ok_at hr (i := 1) rfl
  have ap2 : -2147483648 ≤ p2 ∧ p2 < 2147483648 := mm_ok_at hr (i := 2) rfl
  have f0 : mm_fr [(0, 12), (0, 14), (7, 10), (7, 11)] [26, 61] h h := mm_fr_rf
  have g1 : 0 ≤ h.1 0 12 ∧ h.1 0 12 ≤ 500 := i0.1 0 12
  have g2 : 0 ≤ h.1 22 8 ∧ h.1 22 8 ≤ 40 := i0.1 22 8
  have g3 : -2147483648 ≤ h.1 0 14 ∧ h.1 0 14 ≤ 2147483647 := i0.1 0 14
  have g4 : -2147483648 ≤ h.1 7 10 ∧ h.1 7 10 ≤ 2147483647 := i0.1 7 10
  refine mm_aload_n C (mm_dec dk_X11_track 0 rfl) rfl ?_
  refine mm_iload_n C (mm_dec dk_X11_track 1 rfl) rfl ?_
  refine mm_cVv (rest := []) C1 ev_X11_235 (mm_dec dk_X11_track 2 rfl) (c_X11_needRunner_q x.2.1 hl (d - 1) (by omega) h i0 p1) rfl rfl (Nat.le_of_ble_eq_true rfl) ⟨by decide, by decide⟩ rfl (fun h2c hp2 => ?_) (fun E hx q => mm_out C T htb (by decide) (by decide) (by obtain ⟨q1, q2⟩ := q; exact Or.inl ⟨q1, by omega⟩))
  obtain ⟨z2, k2_0, k2_1⟩ := hp2
  rw [z2]
  refine mm_aload_n C (mm_dec dk_X11_track 3 rfl) rfl ?_
  refine mm_iload_n C (mm_dec dk_X11_track 4 rfl) rfl ?_
  refine mm_cVv (rest := []) C1 ev_X11_312 (mm_dec dk_X11_track 5 rfl) (c_X11_needBytes_q x.2.1 hl (d - 1) (by omega) h i0 p2) rfl rfl (Nat.le_of_ble_eq_true rfl) ⟨by decide, by decide⟩ rfl (fun h7c hp7 => ?_) (fun E hx q => mm_out C T htb (by decide) (by decide) (by obtain ⟨q1, q2⟩ := q; exact Or.inr ⟨q1, by omega⟩))
  obtain ⟨z7, k7_0, k7_1⟩ := hp7
  rw [z7]
  refine mm_aload_n C (mm_dec dk_X11_track 6 rfl) rfl ?_
  refine mm_iload_n C (mm_dec dk_X11_track 7 rfl) rfl ?_
  refine mm_cVi (rest := []) C1 ev_X11_371 (mm_dec dk_X11_track 8 rfl) (c_X11_fillStops x.2.1 hl (d - 1) (by omega) h i0 p1 ⟨by omega, by omega⟩) rfl rfl (Nat.le_of_ble_eq_true rfl) ⟨by decide, by decide⟩ rfl (fun r12 h12c hp12 => ?_) (fun _ _ q => q.elim)
  obtain ⟨b12, i12c, g12c⟩ := hp12
  have f12c : mm_fr [(0, 12), (0, 14), (7, 10), (7, 11)] [26, 61] h h12c := mm_fr_tr f0 g12c (by decide +kernel)
  have q12c_8 : h12c.1 0 12 = h.1 0 12 := g12c.1 0 12 (by decide)
  have q12c_9 : h12c.1 0 14 = h.1 0 14 := g12c.1 0 14 (by decide)
  have q12c_10 : h12c.1 7 10 = h.1 7 10 := g12c.1 7 10 (by decide)
  have q12c_11 : h12c.1 22 8 = h.1 22 8 := g12c.1 22 8 (by decide)
  refine mm_istore_nL (ls2 := [mR 0, mI p1, mI p2, mI r12, mU]) C (mm_dec dk_X11_track 9 rfl) (by decide) rfl ?_
  refine mm_aload_n C (mm_dec dk_X11_track 10 rfl) rfl ?_
  refine mm_getr (t := 7) C fl_X11_21 (mm_dec dk_X11_track 11 rfl) rfl rfl (mm_ref i12c rfl) ?_
  refine mm_aload_n C (mm_dec dk_X11_track 12 rfl) rfl ?_
  refine mm_getr (t := 62) C fl_X11_86 (mm_dec dk_X11_track 13 rfl) rfl rfl (mm_ref i12c rfl) ?_
  refine mm_iload_n C (mm_dec dk_X11_track 14 rfl) rfl ?_
  refine mm_aload_n C (mm_dec dk_X11_track 15 rfl) rfl ?_
  refine mm_getr (t := 61) C fl_X11_82 (mm_dec dk_X11_track 16 rfl) rfl rfl (mm_ref i12c rfl) ?_
  refine mm_iload_n C (mm_dec dk_X11_track 17 rfl) rfl ?_
  refine mm_cVi (rest := []) C1 ev_X11_374 (mm_dec dk_X11_track 18 rfl) (c_X10_walk_62_61_q x.2.1 hl (d - 1) (by omega) h12c i12c p2 r12 ⟨by omega, by omega⟩ ⟨by omega, by omega⟩) rfl rfl (Nat.le_of_ble_eq_true rfl) ⟨by decide, by decide⟩ rfl (fun r30 h30c hp30 => ?_) (fun _ _ q => q.elim)
  obtain ⟨b30, i30c, g30c, y30_0, y30_1⟩ := hp30
  have f30c : mm_fr [(0, 12), (0, 14), (7, 10), (7, 11)] [26, 61] h h30c := mm_fr_tr f12c g30c (by decide +kernel)
  have q30c_13 : h30c.1 0 12 = h12c.1 0 12 := g30c.1 0 12 (by decide)
  have q30c_14 : h30c.1 0 14 = h12c.1 0 14 := g30c.1 0 14 (by decide)
  have q30c_15 : h30c.1 22 8 = h12c.1 22 8 := g30c.1 22 8 (by decide)
  have g16 : -2147483648 ≤ (h30c.1 7 10) ∧ (h30c.1 7 10) ≤ 2147483647 := i30c.1 7 10
  refine mm_istoreL (ls2 := [mR 0, mI p1, mI p2, mI r12, mI r30]) C (mm_dec dk_X11_track 19 rfl) (by decide) rfl ?_
  refine mm_aload_n C (mm_dec dk_X11_track 20 rfl) rfl ?_
  refine mm_iconst C (mm_dec dk_X11_track 21 rfl) ⟨by decide, by decide⟩ ?_
  refine mm_puti C fl_X11_98 (mm_dec dk_X11_track 22 rfl) rfl rfl rfl (Or.inl ⟨rfl, rfl⟩) ?_
  have i3 : mm_inv (mm_pf h30c 0 12 0) := mm_inv_pf i30c (show 0 ≤ 0 ∧ 0 ≤ 500 from ⟨by omega, by omega⟩) (by decide)
  have f3 : mm_fr [(0, 12), (0, 14), (7, 10), (7, 11)] [26, 61] h (mm_pf h30c 0 12 0) := mm_fr_pf f30c (by decide)
  obtain ⟨h3, eh3⟩ : ∃ z, z = mm_pf h30c 0 12 0 := ⟨_, rfl⟩
  rw [← eh3] at i3 f3 ⊢
  have qh3 : h3.1 0 12 = 0 := by rw [eh3]; exact mm_pf_same _ _ _ _
  have qh3_17 : h3.1 0 14 = h30c.1 0 14 := by rw [eh3]; exact mm_pf_ne _ _ (by decide)
  have qh3_18 : h3.1 7 10 = h30c.1 7 10 := by rw [eh3]; exact mm_pf_ne _ _ (by decide)
  have qh3_19 : h3.1 22 8 = h30c.1 22 8 := by rw [eh3]; exact mm_pf_ne _ _ (by decide)
  refine mm_aload_n C (mm_dec dk_X11_track 23 rfl) rfl ?_
  refine mm_aload_n C (mm_dec dk_X11_track 24 rfl) rfl ?_
  refine mm_getr (t := 7) C fl_X11_21 (mm_dec dk_X11_track 25 rfl) rfl rfl (mm_ref i3 rfl) ?_
  refine mm_cVi (rest := [mR 0]) C1 ev_X11_378 (mm_dec dk_X11_track 26 rfl) (c_X10_walkFaultAt x.2.1 hl (d - 1) (by omega) h3 i3 ) rfl rfl (Nat.le_of_ble_eq_true rfl) ⟨by decide, by decide⟩ rfl (fun r45 h45c hp45 => ?_) (fun _ _ q => q.elim)
  obtain ⟨z45, y45⟩ := hp45
  rw [z45, y45]
  refine mm_puti C fl_X11_105 (mm_dec dk_X11_track 27 rfl) rfl rfl rfl (Or.inl ⟨rfl, rfl⟩) ?_
  have i4 : mm_inv (mm_pf h3 0 14 (h3.1 7 10)) := mm_inv_pf i3 (show -2147483648 ≤ (h3.1 7 10) ∧ (h3.1 7 10) ≤ 2147483647 from ⟨by omega, by omega⟩) (by decide)
  have f4 : mm_fr [(0, 12), (0, 14), (7, 10), (7, 11)] [26, 61] h (mm_pf h3 0 14 (h3.1 7 10)) := mm_fr_pf f3 (by decide)
  obtain ⟨h4, eh4⟩ : ∃ z, z = mm_pf h3 0 14 (h3.1 7 10) := ⟨_, rfl⟩
  rw [← eh4] at i4 f4 ⊢
  have qh4 : h4.1 0 14 = (h3.1 7 10) := by rw [eh4]; exact mm_pf_same _ _ _ _
  have qh4_21 : h4.1 0 12 = h3.1 0 12 := by rw [eh4]; exact mm_pf_ne _ _ (by decide)
  have qh4_22 : h4.1 7 10 = h3.1 7 10 := by rw [eh4]; exact mm_pf_ne _ _ (by decide)
  have qh4_23 : h4.1 22 8 = h3.1 22 8 := by rw [eh4]; exact mm_pf_ne _ _ (by decide)
  refine mm_aload_n C (mm_dec dk_X11_track 28 rfl) rfl ?_
  refine mm_geti C fl_X11_105 (mm_dec dk_X11_track 29 rfl) rfl rfl (Or.inl rfl) ?_
  refine mm_iconst C (mm_dec dk_X11_track 30 rfl) ⟨by decide, by decide⟩ ?_
  have J83 : ∀ (h83_ : mH) (i83_ : mm_inv h83_) (f83_ : mm_fr [(0, 12), (0, 14), (7, 10), (7, 11)] [26, 61] h h83_) (w83_0 : h83_.1 0 12 = 0) (w83_1 : h83_.1 0 14 = h30c.1 7 10), mm_W x 2 12 83 [mU, mU, mU, mU, mI r30] [] h83_ := by
    intro h83_ i83_ f83_ w83_0 w83_1
    have g24 : 0 ≤ h83_.1 0 12 ∧ h83_.1 0 12 ≤ 500 := i83_.1 0 12
    have g25 : 0 ≤ h83_.1 22 8 ∧ h83_.1 22 8 ≤ 40 := i83_.1 22 8
    have g26 : -2147483648 ≤ h83_.1 0 14 ∧ h83_.1 0 14 ≤ 2147483647 := i83_.1 0 14
    have g27 : -2147483648 ≤ h83_.1 7 10 ∧ h83_.1 7 10 ≤ 2147483647 := i83_.1 7 10
    have g28 : h83_.1 22 8 = h.1 22 8 := f83_.1 22 8 (by decide)
    refine mm_iload C (mm_dec dk_X11_track 43 rfl) rfl ?_
    exact mm_iret C T (mm_dec dk_X11_track 44 rfl) (by decide : 2 ≤ 2) (by decide : 12 ≤ 12) ⟨_, rfl, ⟨⟨by omega, by omega⟩, i83_, f83_, by omega, by exact y30_0.trans (mm_wX_fr p2 (g12c.1 1 5 (by decide)) (g12c.1 1 6 (by decide)) (g12c.1 1 7 (by decide)) (g12c.2 2 (by decide)) (g12c.2 3 (by decide)) (g12c.2 4 (by decide)) (g12c.2 5 (by decide)) (g12c.2 6 (by decide)) (g12c.2 62 (by decide))), by (rw [show h83_.1 0 14 = h30c.1 7 10 by omega, ← (mm_WX_fr (g12c.1 1 5 (by decide)) (g12c.1 1 6 (by decide)) (g12c.1 1 7 (by decide)) (g12c.2 2 (by decide)) (g12c.2 3 (by decide)) (g12c.2 4 (by decide)) (g12c.2 5 (by decide)) (g12c.2 6 (by decide)) (g12c.2 62 (by decide)))]; exact y30_1)⟩⟩
  refine mm_icmp_ne (tgt := 83) C (mm_dec dk_X11_track 31 rfl) (by decide) (fun c56 => ?_) (fun c56 => ?_)
  · skip
    refine mm_fgt 0 ?_
    refine mm_fgt 1 ?_
    refine mm_fgt 2 ?_
    refine mm_fgt 3 ?_
    exact J83 h4 i4 f4 (by omega) (by omega)
  · skip
    refine mm_aload_n C (mm_dec dk_X11_track 32 rfl) rfl ?_
    refine mm_getr (t := 22) C fl_X11_37 (mm_dec dk_X11_track 33 rfl) rfl rfl (mm_ref i4 rfl) ?_
    refine mm_iload_n C (mm_dec dk_X11_track 34 rfl) rfl ?_
    refine mm_aload_n C (mm_dec dk_X11_track 35 rfl) rfl ?_
    refine mm_getr (t := 7) C fl_X11_21 (mm_dec dk_X11_track 36 rfl) rfl rfl (mm_ref i4 rfl) ?_
    refine mm_cVi (rest := [mI p1, mR 22]) C1 ev_X11_381 (mm_dec dk_X11_track 37 rfl) (c_X10_walkCameBy x.2.1 hl (d - 1) (by omega) h4 i4 ) rfl rfl (Nat.le_of_ble_eq_true rfl) ⟨by decide, by decide⟩ rfl (fun r68 h68c hp68 => ?_) (fun _ _ q => q.elim)
    obtain ⟨z68, y68⟩ := hp68
    rw [z68, y68]
    have g30 : 0 ≤ (h4.1 7 11) ∧ (h4.1 7 11) ≤ 1 := i4.1 7 11
    have J80 : ∀ (s80_2 : Int) (bs80_2 : -2147483648 ≤ s80_2 ∧ s80_2 ≤ 2147483647), mm_W x 2 12 80 [mU, mU, mU, mU, mI r30] [mI s80_2, mI p1, mR 22] h4 := by
      intro s80_2 bs80_2
      refine mm_cVv (rest := []) C1 ev_X11_384 (mm_dec dk_X11_track 42 rfl) (c_X9_keepTrack x.2.1 hl (d - 1) (by omega) h4 i4 p1 s80_2 ⟨by omega, by omega⟩) rfl rfl (Nat.le_of_ble_eq_true rfl) ⟨by decide, by decide⟩ rfl (fun h80c hp80 => ?_) (fun _ _ q => q.elim)
      obtain ⟨i80c, g80c⟩ := hp80
      have f80c : mm_fr [(0, 12), (0, 14), (7, 10), (7, 11)] [26, 61] h h80c := mm_fr_tr f4 g80c (by decide +kernel)
      have q80c_32 : h80c.1 0 12 = h4.1 0 12 := g80c.1 0 12 (by decide)
      have q80c_33 : h80c.1 0 14 = h4.1 0 14 := g80c.1 0 14 (by decide)
      have q80c_34 : h80c.1 7 10 = h4.1 7 10 := g80c.1 7 10 (by decide)
      have q80c_35 : h80c.1 7 11 = h4.1 7 11 := g80c.1 7 11 (by decide)
      have q80c_36 : h80c.1 22 8 = h4.1 22 8 := g80c.1 22 8 (by decide)
      exact J83 h80c i80c f80c (by omega) (by omega)
    refine mm_if_eq (tgt := 79) C (mm_dec dk_X11_track 38 rfl) (by decide) (fun c71 => ?_) (fun c71 => ?_)
    · skip
      refine mm_iconst C (mm_dec dk_X11_track 41 rfl) ⟨by decide, by decide⟩ ?_
      refine mm_fgt 0 ?_
      refine mm_fgt 1 ?_
      refine mm_fgt 2 ?_
      refine mm_fgt 3 ?_
      exact J80 (-1) ⟨by omega, by omega⟩
    · skip
      refine mm_iload C (mm_dec dk_X11_track 39 rfl) rfl ?_
      refine mm_goto (tgt := 80) C (mm_dec dk_X11_track 40 rfl) (by decide) ?_
      refine mm_fgt 0 ?_
      refine mm_fgt 1 ?_
      refine mm_fgt 2 ?_
      refine mm_fgt 3 ?_
      exact J80 r30 ⟨by omega, by omega⟩
set_option maxRecDepth 100000 in
set_option maxHeartbeats 4000000 in
theorem c_X12_seconds_q (l : Launch) (hl : l.stackTraces = false) (d : Nat) (hd : 0 ≤ d) (h : mH) (i0 : mm_inv h) (p1 : Int) (p2 : Int) (bp1 : 0 ≤ p1 ∧ p1 ≤ 399) (bp2 : 0 ≤ p2 ∧ p2 ≤ 399) : mm_Met l d yX12_seconds cX12_seconds 4 (some .int) [mR 66, mI p1, mI p2] h (mm_pi fun r h2 => (0 ≤ r ∧ r ≤ 990) ∧ h2 = h ∧ r = mm_sy h p1 p2) mm_nx 0 0 := by
  refine mm_ofW (ls := [mR 66, mI p1, mI p2, mU]) hl (by decide) rfl (Nat.le_of_ble_eq_true rfl) ?_
  intro x hxl C T hnm htb
  subst hxl
  refine mm_rng (fun hr _ => ?_)
  have ap1 : -2147483648 ≤ p1 ∧ p1 < 2147483648 := mm_ok_at hr (i := 1) rfl
  have ap2 : -2147483648 ≤ p2 ∧ p2 < 2147483648 := mm_ok_at hr (i := 2) rfl
  have f0 : mm_fr [] [] h h := mm_fr_rf
  refine mm_aload_n C (mm_dec dk_X12_seconds 0 rfl) rfl ?_
  refine mm_getr (t := 68) C fl_X12_13 (mm_dec dk_X12_seconds 1 rfl) rfl rfl (mm_ref i0 rfl) ?_
  refine mm_iload_n C (mm_dec dk_X12_seconds 2 rfl) rfl ?_
  refine mm_iald C (mm_dec dk_X12_seconds 3 rfl) rfl (by omega) (by omega) ?_
  have g1 : 0 ≤ (h.2.1 68 p2) ∧ (h.2.1 68 p2) ≤ 99 := i0.2.1 68 p2
  refine mm_aload_n C (mm_dec dk_X12_seconds 4 rfl) rfl ?_
  refine mm_getr (t := 68) C fl_X12_13 (mm_dec dk_X12_seconds 5 rfl) rfl rfl (mm_ref i0 rfl) ?_
  refine mm_iload_n C (mm_dec dk_X12_seconds 6 rfl) rfl ?_
  refine mm_iald C (mm_dec dk_X12_seconds 7 rfl) rfl (by omega) (by omega) ?_
  have g2 : 0 ≤ (h.2.1 68 p1) ∧ (h.2.1 68 p1) ≤ 99 := i0.2.1 68 p1
  refine mm_isub C (mm_dec dk_X12_seconds 8 rfl) ⟨by omega, by omega⟩ ?_
  refine mm_istore_nL (ls2 := [mR 66, mI p1, mI p2, mI ((h.2.1 68 p2) - (h.2.1 68 p1))]) C (mm_dec dk_X12_seconds 9 rfl) (by decide) rfl ?_
  refine mm_aload_n C (mm_dec dk_X12_seconds 10 rfl) rfl ?_
  refine mm_getr (t := 69) C fl_X12_16 (mm_dec dk_X12_seconds 11 rfl) rfl rfl (mm_ref i0 rfl) ?_
  refine mm_aload_n C (mm_dec dk_X12_seconds 12 rfl) rfl ?_
  refine mm_getr (t := 67) C fl_X12_7 (mm_dec dk_X12_seconds 13 rfl) rfl rfl (mm_ref i0 rfl) ?_
  refine mm_iload_n C (mm_dec dk_X12_seconds 14 rfl) rfl ?_
  refine mm_iald C (mm_dec dk_X12_seconds 15 rfl) rfl (by omega) (by omega) ?_
  have g3 : 0 ≤ (h.2.1 67 p2) ∧ (h.2.1 67 p2) ≤ 7 := i0.2.1 67 p2
  refine mm_iald C (mm_dec dk_X12_seconds 16 rfl) rfl (by omega) (by omega) ?_
  have g4 : 0 ≤ (h.2.1 69 (h.2.1 67 p2)) ∧ (h.2.1 69 (h.2.1 67 p2)) ≤ 99 := i0.2.1 69 (h.2.1 67 p2)
  refine mm_iload_n C (mm_dec dk_X12_seconds 17 rfl) rfl ?_
  refine mm_if_le (tgt := 38) C (mm_dec dk_X12_seconds 18 rfl) (by decide) (fun c26 => ?_) (fun c26 => ?_)
  · skip
    refine mm_iconst C (mm_dec dk_X12_seconds 24 rfl) ⟨by decide, by decide⟩ ?_
    refine mm_iadd C (mm_dec dk_X12_seconds 25 rfl) ⟨by omega, by omega⟩ ?_
    exact mm_iret C T (mm_dec dk_X12_seconds 26 rfl) (by decide : 0 ≤ 0) (by decide : 0 ≤ 0) ⟨_, rfl, ⟨⟨by omega, by omega⟩, rfl, by first | (have zk := mm_cm_0 (k := h.1 66 3) (u := h.2.1 68 p2 - h.2.1 68 p1) (by omega); show _ = h.2.1 69 (h.2.1 67 p2) + mm_cm (h.1 66 3) (h.2.1 68 p2 - h.2.1 68 p1); omega) | (have zk := mm_cm_q (k := h.1 66 3) (u := h.2.1 68 p2 - h.2.1 68 p1) (by omega) rfl; show _ = h.2.1 69 (h.2.1 67 p2) + mm_cm (h.1 66 3) (h.2.1 68 p2 - h.2.1 68 p1); omega)⟩⟩
  · skip
    refine mm_aload_n C (mm_dec dk_X12_seconds 19 rfl) rfl ?_
    refine mm_geti C fl_X12_198 (mm_dec dk_X12_seconds 20 rfl) rfl rfl (Or.inl rfl) ?_
    have g5 : 0 ≤ (h.1 66 3) ∧ (h.1 66 3) ≤ 9 := i0.1 66 3
    refine mm_iload_n C (mm_dec dk_X12_seconds 21 rfl) rfl ?_
    have g6 : 0 ≤ (h.1 66 3) * ((h.2.1 68 p2) - (h.2.1 68 p1)) ∧ (h.1 66 3) * ((h.2.1 68 p2) - (h.2.1 68 p1)) ≤ 9 * 99 := mm_mul_rg ⟨by omega, by omega⟩ ⟨by omega, by omega⟩
    refine mm_imul C (mm_dec dk_X12_seconds 22 rfl) ⟨by omega, by omega⟩ ?_
    refine mm_goto (tgt := 39) C (mm_dec dk_X12_seconds 23 rfl) (by decide) ?_
    refine mm_iadd C (mm_dec dk_X12_seconds 25 rfl) ⟨by omega, by omega⟩ ?_
    exact mm_iret C T (mm_dec dk_X12_seconds 26 rfl) (by decide : 0 ≤ 0) (by decide : 0 ≤ 0) ⟨_, rfl, ⟨⟨by omega, by omega⟩, rfl, by first | (have zk := mm_cm_0 (k := h.1 66 3) (u := h.2.1 68 p2 - h.2.1 68 p1) (by omega); show _ = h.2.1 69 (h.2.1 67 p2) + mm_cm (h.1 66 3) (h.2.1 68 p2 - h.2.1 68 p1); omega) | (have zk := mm_cm_q (k := h.1 66 3) (u := h.2.1 68 p2 - h.2.1 68 p1) (by omega) rfl; show _ = h.2.1 69 (h.2.1 67 p2) + mm_cm (h.1 66 3) (h.2.1 68 p2 - h.2.1 68 p1); omega)⟩⟩
set_option maxRecDepth 100000 in
set_option maxHeartbeats 4000000 in
theorem c_X12_leads_q (l : Launch) (hl : l.stackTraces = false) (d : Nat) (hd : 0 ≤ d) (h : mH) (i0 : mm_inv h) (p1 : Int) (p2 : Int) (bp1 : 0 ≤ p1 ∧ p1 ≤ 399) (bp2 : 0 ≤ p2 ∧ p2 ≤ 3) : mm_Met l d yX12_leads cX12_leads 7 (some .int) [mR 66, mI p1, mI p2] h (mm_pi fun r h2 => (-1 ≤ r ∧ r ≤ 399) ∧ h2 = h ∧ r = mm_by h p1 p2) mm_nx 0 0 := by
  refine mm_ofW (ls := [mR 66, mI p1, mI p2, mU, mU, mU, mU]) hl (by decide) rfl (Nat.le_of_ble_eq_true rfl) ?_
  intro x hxl C T hnm htb
  subst hxl
  refine mm_rng (fun hr _ => ?_)
  have ap1 : -2147483648 ≤ p1 ∧ p1 < 2147483648 := mm_ok_at hr (i := 1) rfl
  have ap2 : -2147483648 ≤ p2 ∧ p2 < 2147483648 := mm_ok_at hr (i := 2) rfl
  have f0 : mm_fr [] [] h h := mm_fr_rf
  refine mm_iload_n C (mm_dec dk_X12_leads 0 rfl) rfl ?_
  refine mm_bipush C (mm_dec dk_X12_leads 1 rfl) ⟨by decide, by decide⟩ ?_
  refine mm_irem C (mm_dec dk_X12_leads 2 rfl) (by omega) (by omega) ?_
  refine mm_iload_n C (mm_dec dk_X12_leads 3 rfl) rfl ?_
  refine mm_iconst C (mm_dec dk_X12_leads 4 rfl) ⟨by decide, by decide⟩ ?_
  have J23 : ∀ (s23_1 : Int) (bs23_1 : -1 ≤ s23_1 ∧ s23_1 ≤ 1) (vs23_1 : (p2 ≠ 1 ∧ p2 = 3 ∧ s23_1 = -1) ∨ (p2 ≠ 1 ∧ p2 ≠ 3 ∧ s23_1 = 0) ∨ (p2 = 1 ∧ s23_1 = 1)), mm_W x 0 0 23 [mR 66, mI p1, mI p2, mU, mU, mU, mU] [mI s23_1, mI (p1 % 20)] h := by
    intro s23_1 bs23_1 vs23_1
    have zx : s23_1 = mm_dx p2 := mm_dx_x (by omega)
    refine mm_iadd C (mm_dec dk_X12_leads 14 rfl) ⟨by omega, by omega⟩ ?_
    refine mm_istore_nL (ls2 := [mR 66, mI p1, mI p2, mI ((p1 % 20) + s23_1), mU, mU, mU]) C (mm_dec dk_X12_leads 15 rfl) (by decide) rfl ?_
    refine mm_iload_n C (mm_dec dk_X12_leads 16 rfl) rfl ?_
    refine mm_bipush C (mm_dec dk_X12_leads 17 rfl) ⟨by decide, by decide⟩ ?_
    refine mm_idiv C (mm_dec dk_X12_leads 18 rfl) ⟨by omega, by omega⟩ (by omega) ?_
    refine mm_iload_n C (mm_dec dk_X12_leads 19 rfl) rfl ?_
    refine mm_iconst C (mm_dec dk_X12_leads 20 rfl) ⟨by decide, by decide⟩ ?_
    have J47 : ∀ (s47_1 : Int) (bs47_1 : -1 ≤ s47_1 ∧ s47_1 ≤ 1) (vs47_1 : (p2 ≠ 2 ∧ p2 = 0 ∧ s47_1 = -1) ∨ (p2 ≠ 2 ∧ p2 ≠ 0 ∧ s47_1 = 0) ∨ (p2 = 2 ∧ s47_1 = 1)), mm_W x 0 0 47 [mR 66, mI p1, mI p2, mI ((p1 % 20) + s23_1), mU, mU, mU] [mI s47_1, mI (p1 / 20)] h := by
      intro s47_1 bs47_1 vs47_1
      have zy : s47_1 = mm_dy p2 := mm_dy_x (by omega)
      refine mm_iadd C (mm_dec dk_X12_leads 29 rfl) ⟨by omega, by omega⟩ ?_
      refine mm_istoreL (ls2 := [mR 66, mI p1, mI p2, mI ((p1 % 20) + s23_1), mI ((p1 / 20) + s47_1), mU, mU]) C (mm_dec dk_X12_leads 30 rfl) (by decide) rfl ?_
      refine mm_iload_n C (mm_dec dk_X12_leads 31 rfl) rfl ?_
      have J76 : ∀ (w76_0 : (p1 % 20 + s23_1 < 0 ∨ p1 / 20 + s47_1 < 0 ∨ h.1 66 1 ≤ p1 % 20 + s23_1 ∨ h.1 66 2 ≤ p1 / 20 + s47_1)), mm_W x 0 0 76 [mU, mU, mU, mU, mU, mU, mU] [] h := by
        intro w76_0
        refine mm_iconst C (mm_dec dk_X12_leads 43 rfl) ⟨by decide, by decide⟩ ?_
        exact mm_iret C T (mm_dec dk_X12_leads 44 rfl) (by decide : 0 ≤ 0) (by decide : 0 ≤ 0) ⟨_, rfl, ⟨⟨by omega, by omega⟩, rfl, by first | exact w165_0 | exact mm_by_0 zx zy w76_0⟩⟩
      refine mm_if_lt (tgt := 76) C (mm_dec dk_X12_leads 32 rfl) (by decide) (fun c51 => ?_) (fun c51 => ?_)
      · skip
        refine mm_fgt 0 ?_
        refine mm_fgt 1 ?_
        refine mm_fgt 2 ?_
        refine mm_fgt 3 ?_
        refine mm_fgt 4 ?_
        exact J76 (by omega)
      · skip
        refine mm_iload C (mm_dec dk_X12_leads 33 rfl) rfl ?_
        refine mm_if_lt (tgt := 76) C (mm_dec dk_X12_leads 34 rfl) (by decide) (fun c56 => ?_) (fun c56 => ?_)
        · skip
          refine mm_fgt 0 ?_
          refine mm_fgt 1 ?_
          refine mm_fgt 2 ?_
          refine mm_fgt 3 ?_
          refine mm_fgt 4 ?_
          exact J76 (by omega)
        · skip
          refine mm_iload_n C (mm_dec dk_X12_leads 35 rfl) rfl ?_
          refine mm_aload_n C (mm_dec dk_X12_leads 36 rfl) rfl ?_
          refine mm_geti C fl_X12_192 (mm_dec dk_X12_leads 37 rfl) rfl rfl (Or.inl rfl) ?_
          have g1 : 1 ≤ (h.1 66 1) ∧ (h.1 66 1) ≤ 20 := i0.1 66 1
          refine mm_icmp_ge (tgt := 76) C (mm_dec dk_X12_leads 38 rfl) (by decide) (fun c64 => ?_) (fun c64 => ?_)
          · skip
            refine mm_fgt 0 ?_
            refine mm_fgt 1 ?_
            refine mm_fgt 2 ?_
            refine mm_fgt 3 ?_
            refine mm_fgt 4 ?_
            exact J76 (by omega)
          · skip
            refine mm_iload C (mm_dec dk_X12_leads 39 rfl) rfl ?_
            refine mm_aload_n C (mm_dec dk_X12_leads 40 rfl) rfl ?_
            refine mm_geti C fl_X12_195 (mm_dec dk_X12_leads 41 rfl) rfl rfl (Or.inl rfl) ?_
            have g2 : 1 ≤ (h.1 66 2) ∧ (h.1 66 2) ≤ 20 := i0.1 66 2
            refine mm_icmp_lt (tgt := 78) C (mm_dec dk_X12_leads 42 rfl) (by decide) (fun c73 => ?_) (fun c73 => ?_)
            · skip
              refine mm_bipush C (mm_dec dk_X12_leads 45 rfl) ⟨by decide, by decide⟩ ?_
              refine mm_iload C (mm_dec dk_X12_leads 46 rfl) rfl ?_
              refine mm_imul C (mm_dec dk_X12_leads 47 rfl) ⟨by omega, by omega⟩ ?_
              refine mm_iload_n C (mm_dec dk_X12_leads 48 rfl) rfl ?_
              refine mm_iadd C (mm_dec dk_X12_leads 49 rfl) ⟨by omega, by omega⟩ ?_
              refine mm_istoreL (ls2 := [mR 66, mI p1, mI p2, mI ((p1 % 20) + s23_1), mI ((p1 / 20) + s47_1), mI ((20 * ((p1 / 20) + s47_1)) + ((p1 % 20) + s23_1)), mU]) C (mm_dec dk_X12_leads 50 rfl) (by decide) rfl ?_
              refine mm_iload_n C (mm_dec dk_X12_leads 51 rfl) rfl ?_
              refine mm_iconst C (mm_dec dk_X12_leads 52 rfl) ⟨by decide, by decide⟩ ?_
              have J137 : ∀ (s137_0 : Int) (bs137_0 : 0 ≤ s137_0 ∧ s137_0 ≤ 1) (w137_0 : s137_0 = mm_wl h p1 p2 (20 * (p1 / 20 + s47_1) + (p1 % 20 + s23_1))), mm_W x 0 0 137 [mR 66, mU, mU, mU, mU, mI ((20 * ((p1 / 20) + s47_1)) + ((p1 % 20) + s23_1)), mU] [mI s137_0] h := by
                intro s137_0 bs137_0 w137_0
                refine mm_istoreL (ls2 := [mR 66, mU, mU, mU, mU, mI ((20 * ((p1 / 20) + s47_1)) + ((p1 % 20) + s23_1)), mI s137_0]) C (mm_dec dk_X12_leads 79 rfl) (by decide) rfl ?_
                refine mm_iload C (mm_dec dk_X12_leads 80 rfl) rfl ?_
                have J165 : ∀ (s165_0 : Int) (bs165_0 : -1 ≤ s165_0 ∧ s165_0 ≤ 399) (w165_0 : s165_0 = mm_by h p1 p2), mm_W x 0 0 165 [mU, mU, mU, mU, mU, mU, mU] [mI s165_0] h := by
                  intro s165_0 bs165_0 w165_0
                  exact mm_iret C T (mm_dec dk_X12_leads 93 rfl) (by decide : 0 ≤ 0) (by decide : 0 ≤ 0) ⟨_, rfl, ⟨⟨by omega, by omega⟩, rfl, by first | exact w165_0 | exact mm_by_0 zx zy w76_0⟩⟩
                have J159 : ∀ (w159_0 : (s137_0 ≠ 0 ∨ h.2.1 69 (h.2.1 67 (20 * (p1 / 20 + s47_1) + (p1 % 20 + s23_1))) = 0)), mm_W x 0 0 159 [mU, mU, mU, mU, mU, mU, mU] [] h := by
                  intro w159_0
                  refine mm_iconst C (mm_dec dk_X12_leads 90 rfl) ⟨by decide, by decide⟩ ?_
                  refine mm_goto (tgt := 165) C (mm_dec dk_X12_leads 91 rfl) (by decide) ?_
                  exact J165 (-1) ⟨by omega, by omega⟩ (by first | exact mm_by_2 (v := s137_0) zx zy (by omega) w137_0 (by omega) | exact mm_by_1 (v := s137_0) zx zy (by omega) w137_0 w159_0 | exact mm_by_1 (v := s137_0) zx zy (by omega) w137_0 (by omega))
                refine mm_if_ne (tgt := 159) C (mm_dec dk_X12_leads 81 rfl) (by decide) (fun c141 => ?_) (fun c141 => ?_)
                · skip
                  refine mm_fgt 0 ?_
                  refine mm_fgt 5 ?_
                  refine mm_fgt 6 ?_
                  exact J159 (by omega)
                · skip
                  refine mm_aload_n C (mm_dec dk_X12_leads 82 rfl) rfl ?_
                  refine mm_getr (t := 69) C fl_X12_16 (mm_dec dk_X12_leads 83 rfl) rfl rfl (mm_ref i0 rfl) ?_
                  refine mm_aload_n C (mm_dec dk_X12_leads 84 rfl) rfl ?_
                  refine mm_getr (t := 67) C fl_X12_7 (mm_dec dk_X12_leads 85 rfl) rfl rfl (mm_ref i0 rfl) ?_
                  refine mm_iload C (mm_dec dk_X12_leads 86 rfl) rfl ?_
                  refine mm_iald C (mm_dec dk_X12_leads 87 rfl) rfl (by omega) (by omega) ?_
                  have g3 : 0 ≤ (h.2.1 67 ((20 * ((p1 / 20) + s47_1)) + ((p1 % 20) + s23_1))) ∧ (h.2.1 67 ((20 * ((p1 / 20) + s47_1)) + ((p1 % 20) + s23_1))) ≤ 7 := i0.2.1 67 ((20 * ((p1 / 20) + s47_1)) + ((p1 % 20) + s23_1))
                  refine mm_iald C (mm_dec dk_X12_leads 88 rfl) rfl (by omega) (by omega) ?_
                  have g4 : 0 ≤ (h.2.1 69 (h.2.1 67 ((20 * ((p1 / 20) + s47_1)) + ((p1 % 20) + s23_1)))) ∧ (h.2.1 69 (h.2.1 67 ((20 * ((p1 / 20) + s47_1)) + ((p1 % 20) + s23_1)))) ≤ 99 := i0.2.1 69 (h.2.1 67 ((20 * ((p1 / 20) + s47_1)) + ((p1 % 20) + s23_1)))
                  refine mm_if_ne (tgt := 163) C (mm_dec dk_X12_leads 89 rfl) (by decide) (fun c156 => ?_) (fun c156 => ?_)
                  · skip
                    refine mm_iload C (mm_dec dk_X12_leads 92 rfl) rfl ?_
                    refine mm_fgt 0 ?_
                    refine mm_fgt 5 ?_
                    refine mm_fgt 6 ?_
                    exact J165 ((20 * ((p1 / 20) + s47_1)) + ((p1 % 20) + s23_1)) ⟨by omega, by omega⟩ (by first | exact mm_by_2 (v := s137_0) zx zy (by omega) w137_0 (by omega) | exact mm_by_1 (v := s137_0) zx zy (by omega) w137_0 w159_0 | exact mm_by_1 (v := s137_0) zx zy (by omega) w137_0 (by omega))
                  · skip
                    refine mm_fgt 0 ?_
                    refine mm_fgt 5 ?_
                    refine mm_fgt 6 ?_
                    exact J159 (by omega)
              refine mm_icmp_ne (tgt := 101) C (mm_dec dk_X12_leads 53 rfl) (by decide) (fun c89 => ?_) (fun c89 => ?_)
              · skip
                refine mm_iload_n C (mm_dec dk_X12_leads 59 rfl) rfl ?_
                refine mm_iconst C (mm_dec dk_X12_leads 60 rfl) ⟨by decide, by decide⟩ ?_
                refine mm_icmp_ne (tgt := 116) C (mm_dec dk_X12_leads 61 rfl) (by decide) (fun c103 => ?_) (fun c103 => ?_)
                · skip
                  refine mm_iload_n C (mm_dec dk_X12_leads 67 rfl) rfl ?_
                  refine mm_iconst C (mm_dec dk_X12_leads 68 rfl) ⟨by decide, by decide⟩ ?_
                  refine mm_icmp_ne (tgt := 130) C (mm_dec dk_X12_leads 69 rfl) (by decide) (fun c118 => ?_) (fun c118 => ?_)
                  · skip
                    refine mm_aload_n C (mm_dec dk_X12_leads 75 rfl) rfl ?_
                    refine mm_getr (t := 71) C fl_X12_23 (mm_dec dk_X12_leads 76 rfl) rfl rfl (mm_ref i0 rfl) ?_
                    refine mm_iload C (mm_dec dk_X12_leads 77 rfl) rfl ?_
                    refine mm_zald C (mm_dec dk_X12_leads 78 rfl) rfl (by omega) (by omega) ?_
                    have g5 : 0 ≤ (h.2.1 71 ((20 * ((p1 / 20) + s47_1)) + ((p1 % 20) + s23_1))) ∧ (h.2.1 71 ((20 * ((p1 / 20) + s47_1)) + ((p1 % 20) + s23_1))) ≤ 1 := i0.2.1 71 ((20 * ((p1 / 20) + s47_1)) + ((p1 % 20) + s23_1))
                    refine mm_fgt 1 ?_
                    refine mm_fgt 2 ?_
                    refine mm_fgt 3 ?_
                    refine mm_fgt 4 ?_
                    exact J137 (h.2.1 71 ((20 * ((p1 / 20) + s47_1)) + ((p1 % 20) + s23_1))) ⟨by omega, by omega⟩ (by exact mm_wl_x (by omega))
                  · skip
                    refine mm_aload_n C (mm_dec dk_X12_leads 70 rfl) rfl ?_
                    refine mm_getr (t := 71) C fl_X12_23 (mm_dec dk_X12_leads 71 rfl) rfl rfl (mm_ref i0 rfl) ?_
                    refine mm_iload_n C (mm_dec dk_X12_leads 72 rfl) rfl ?_
                    refine mm_zald C (mm_dec dk_X12_leads 73 rfl) rfl (by omega) (by omega) ?_
                    have g6 : 0 ≤ (h.2.1 71 p1) ∧ (h.2.1 71 p1) ≤ 1 := i0.2.1 71 p1
                    refine mm_goto (tgt := 137) C (mm_dec dk_X12_leads 74 rfl) (by decide) ?_
                    refine mm_fgt 1 ?_
                    refine mm_fgt 2 ?_
                    refine mm_fgt 3 ?_
                    refine mm_fgt 4 ?_
                    exact J137 (h.2.1 71 p1) ⟨by omega, by omega⟩ (by exact mm_wl_x (by omega))
                · skip
                  refine mm_aload_n C (mm_dec dk_X12_leads 62 rfl) rfl ?_
                  refine mm_getr (t := 70) C fl_X12_19 (mm_dec dk_X12_leads 63 rfl) rfl rfl (mm_ref i0 rfl) ?_
                  refine mm_iload C (mm_dec dk_X12_leads 64 rfl) rfl ?_
                  refine mm_zald C (mm_dec dk_X12_leads 65 rfl) rfl (by omega) (by omega) ?_
                  have g7 : 0 ≤ (h.2.1 70 ((20 * ((p1 / 20) + s47_1)) + ((p1 % 20) + s23_1))) ∧ (h.2.1 70 ((20 * ((p1 / 20) + s47_1)) + ((p1 % 20) + s23_1))) ≤ 1 := i0.2.1 70 ((20 * ((p1 / 20) + s47_1)) + ((p1 % 20) + s23_1))
                  refine mm_goto (tgt := 137) C (mm_dec dk_X12_leads 66 rfl) (by decide) ?_
                  refine mm_fgt 1 ?_
                  refine mm_fgt 2 ?_
                  refine mm_fgt 3 ?_
                  refine mm_fgt 4 ?_
                  exact J137 (h.2.1 70 ((20 * ((p1 / 20) + s47_1)) + ((p1 % 20) + s23_1))) ⟨by omega, by omega⟩ (by exact mm_wl_x (by omega))
              · skip
                refine mm_aload_n C (mm_dec dk_X12_leads 54 rfl) rfl ?_
                refine mm_getr (t := 70) C fl_X12_19 (mm_dec dk_X12_leads 55 rfl) rfl rfl (mm_ref i0 rfl) ?_
                refine mm_iload_n C (mm_dec dk_X12_leads 56 rfl) rfl ?_
                refine mm_zald C (mm_dec dk_X12_leads 57 rfl) rfl (by omega) (by omega) ?_
                have g8 : 0 ≤ (h.2.1 70 p1) ∧ (h.2.1 70 p1) ≤ 1 := i0.2.1 70 p1
                refine mm_goto (tgt := 137) C (mm_dec dk_X12_leads 58 rfl) (by decide) ?_
                refine mm_fgt 1 ?_
                refine mm_fgt 2 ?_
                refine mm_fgt 3 ?_
                refine mm_fgt 4 ?_
                exact J137 (h.2.1 70 p1) ⟨by omega, by omega⟩ (by exact mm_wl_x (by omega))
            · skip
              refine mm_fgt 0 ?_
              refine mm_fgt 1 ?_
              refine mm_fgt 2 ?_
              refine mm_fgt 3 ?_
              refine mm_fgt 4 ?_
              exact J76 (by omega)
    refine mm_icmp_ne (tgt := 38) C (mm_dec dk_X12_leads 21 rfl) (by decide) (fun c31 => ?_) (fun c31 => ?_)
    · skip
      refine mm_iload_n C (mm_dec dk_X12_leads 24 rfl) rfl ?_
      refine mm_if_ne (tgt := 46) C (mm_dec dk_X12_leads 25 rfl) (by decide) (fun c39 => ?_) (fun c39 => ?_)
      · skip
        refine mm_iconst C (mm_dec dk_X12_leads 28 rfl) ⟨by decide, by decide⟩ ?_
        exact J47 0 ⟨by omega, by omega⟩ (Or.inr (Or.inl ⟨by omega, by omega, rfl⟩))
      · skip
        refine mm_iconst C (mm_dec dk_X12_leads 26 rfl) ⟨by decide, by decide⟩ ?_
        refine mm_goto (tgt := 47) C (mm_dec dk_X12_leads 27 rfl) (by decide) ?_
        exact J47 (-1) ⟨by omega, by omega⟩ (Or.inl ⟨by omega, by omega, rfl⟩)
    · skip
      refine mm_iconst C (mm_dec dk_X12_leads 22 rfl) ⟨by decide, by decide⟩ ?_
      refine mm_goto (tgt := 47) C (mm_dec dk_X12_leads 23 rfl) (by decide) ?_
      exact J47 1 ⟨by omega, by omega⟩ (Or.inr (Or.inr (⟨by omega, rfl⟩)))
  refine mm_icmp_ne (tgt := 13) C (mm_dec dk_X12_leads 5 rfl) (by decide) (fun c6 => ?_) (fun c6 => ?_)
  · skip
    refine mm_iload_n C (mm_dec dk_X12_leads 8 rfl) rfl ?_
    refine mm_iconst C (mm_dec dk_X12_leads 9 rfl) ⟨by decide, by decide⟩ ?_
    refine mm_icmp_ne (tgt := 22) C (mm_dec dk_X12_leads 10 rfl) (by decide) (fun c15 => ?_) (fun c15 => ?_)
    · skip
      refine mm_iconst C (mm_dec dk_X12_leads 13 rfl) ⟨by decide, by decide⟩ ?_
      exact J23 0 ⟨by omega, by omega⟩ (Or.inr (Or.inl ⟨by omega, by omega, rfl⟩))
    · skip
      refine mm_iconst C (mm_dec dk_X12_leads 11 rfl) ⟨by decide, by decide⟩ ?_
      refine mm_goto (tgt := 23) C (mm_dec dk_X12_leads 12 rfl) (by decide) ?_
      exact J23 (-1) ⟨by omega, by omega⟩ (Or.inl ⟨by omega, by omega, rfl⟩)
  · skip
    refine mm_iconst C (mm_dec dk_X12_leads 6 rfl) ⟨by decide, by decide⟩ ?_
    refine mm_goto (tgt := 23) C (mm_dec dk_X12_leads 7 rfl) (by decide) ?_
    exact J23 1 ⟨by omega, by omega⟩ (Or.inr (Or.inr (⟨by omega, rfl⟩)))
set_option maxRecDepth 100000 in
set_option maxHeartbeats 4000000 in
theorem c_X12_track_q (l : Launch) (hl : l.stackTraces = false) (d : Nat) (hd : 2 ≤ d) (h : mH) (i0 : mm_inv h) (p1 : Int) (p2 : Int) : mm_Met l d yX12_track cX12_track 10 (some .int) [mR 66, mI p1, mI p2] h (mm_pi fun r h2 => (-2147483648 ≤ r ∧ r ≤ 2147483647) ∧ mm_inv h2 ∧ mm_fr [(66, 0), (66, 39), (66, 56), (66, 58)] [91, 122, 123] h h2 ∧ (((0 ≤ p1 ∧ p1 < h.1 66 23) ∧ (0 ≤ p2 ∧ p2 ≤ h.1 66 56) ∧ h2.1 66 56 = 0 ∧ h2.1 66 0 = 0 ∧ r = mm_wY h p2) ∨ ((p1 < 0 ∨ h.1 66 23 ≤ p1) ∧ h2.1 66 56 = h.1 66 56 ∧ h2.1 66 0 = 1 ∧ r = 0) ∨ ((0 ≤ p1 ∧ p1 < h.1 66 23) ∧ (p2 < 0 ∨ h.1 66 56 < p2) ∧ h2.1 66 56 = h.1 66 56 ∧ h2.1 66 0 = 2 ∧ r = 0)) ∧ (((0 ≤ p1 ∧ p1 < h.1 66 23) ∧ (0 ≤ p2 ∧ p2 ≤ h.1 66 56) ∧ mm_fp (mm_WY h) p2 (h2.1 66 58)) ∨ (((p1 < 0 ∨ h.1 66 23 ≤ p1) ∨ (p2 < 0 ∨ h.1 66 56 < p2)) ∧ h2.1 66 58 = h.1 66 58))) mm_nx 0 0 := by
  refine mm_ofW (ls := [mR 66, mI p1, mI p2, mU, mU, mU, mU, mU, mU, mU]) hl (by decide) rfl (Nat.le_of_ble_eq_true rfl) ?_
  intro x hxl C T hnm htb
  subst hxl
  have C1 := mm_OK_le (d' := d - 1 + 1) (by omega) C
  refine mm_rng (fun hr _ => ?_)
  have ap1 : -2147483648 ≤ p1 ∧ p1 < 2147483648 := mm_ok_at hr (i := 1) rfl
  have ap2 : -2147483648 ≤ p2 ∧ p2 < 2147483648 := mm_ok_at hr (i := 2) rfl
  have f0 : mm_fr [(66, 0), (66, 39), (66, 56), (66, 58)] [91, 122, 123] h h := mm_fr_rf
  have g1 : 0 ≤ h.1 66 56 ∧ h.1 66 56 ≤ 500 := i0.1 66 56
  have g2 : 0 ≤ h.1 66 39 ∧ h.1 66 39 ≤ 12 := i0.1 66 39
  have g3 : 0 ≤ h.1 66 23 ∧ h.1 66 23 ≤ 40 := i0.1 66 23
  have g4 : -2147483648 ≤ h.1 66 0 ∧ h.1 66 0 ≤ 2147483647 := i0.1 66 0
  have g5 : -2147483648 ≤ h.1 66 58 ∧ h.1 66 58 ≤ 2147483647 := i0.1 66 58
  refine mm_aload_n C (mm_dec dk_X12_track 0 rfl) rfl ?_
  refine mm_iload_n C (mm_dec dk_X12_track 1 rfl) rfl ?_
  refine mm_cVi (rest := []) C1 ev_X12_308 (mm_dec dk_X12_track 2 rfl) (c_X12_isRunner_q x.2.1 hl (d - 1) (by omega) h i0 p1) rfl rfl (Nat.le_of_ble_eq_true rfl) ⟨by decide, by decide⟩ rfl (fun r2 h2c hp2 => ?_) (fun _ _ q => q.elim)
  obtain ⟨b2, i2c, g2c, y2_0, y2_1⟩ := hp2
  have f2c : mm_fr [(66, 0), (66, 39), (66, 56), (66, 58)] [91, 122, 123] h h2c := mm_fr_tr f0 g2c (by decide +kernel)
  have q2c_7 : h2c.1 66 23 = h.1 66 23 := g2c.1 66 23 (by decide)
  have q2c_8 : h2c.1 66 39 = h.1 66 39 := g2c.1 66 39 (by decide)
  have q2c_9 : h2c.1 66 56 = h.1 66 56 := g2c.1 66 56 (by decide)
  have q2c_10 : h2c.1 66 58 = h.1 66 58 := g2c.1 66 58 (by decide)
  have g11 : -2147483648 ≤ (h2c.1 66 0) ∧ (h2c.1 66 0) ≤ 2147483647 := i2c.1 66 0
  have J33 : ∀ (h33_ : mH) (i33_ : mm_inv h33_) (f33_ : mm_fr [(66, 0), (66, 39), (66, 56), (66, 58)] [91, 122, 123] h h33_) (w33_0 : (((p1 < 0 ∨ h.1 66 23 ≤ p1) ∧ h33_.1 66 0 = 1) ∨ ((0 ≤ p1 ∧ p1 < h.1 66 23) ∧ (p2 < 0 ∨ h.1 66 56 < p2) ∧ h33_.1 66 0 = 2))) (w33_1 : h33_.1 66 56 = h.1 66 56) (w33_2 : h33_.1 66 58 = h.1 66 58), mm_W x 0 0 33 [mU, mU, mU, mU, mU, mU, mU, mU, mU, mU] [] h33_ := by
    intro h33_ i33_ f33_ w33_0 w33_1 w33_2
    have g12 : 0 ≤ h33_.1 66 56 ∧ h33_.1 66 56 ≤ 500 := i33_.1 66 56
    have g13 : 0 ≤ h33_.1 66 39 ∧ h33_.1 66 39 ≤ 12 := i33_.1 66 39
    have g14 : 0 ≤ h33_.1 66 23 ∧ h33_.1 66 23 ≤ 40 := i33_.1 66 23
    have g15 : -2147483648 ≤ h33_.1 66 0 ∧ h33_.1 66 0 ≤ 2147483647 := i33_.1 66 0
    have g16 : -2147483648 ≤ h33_.1 66 58 ∧ h33_.1 66 58 ≤ 2147483647 := i33_.1 66 58
    have g17 : h33_.1 66 23 = h.1 66 23 := f33_.1 66 23 (by decide)
    refine mm_iconst C (mm_dec dk_X12_track 17 rfl) ⟨by decide, by decide⟩ ?_
    exact mm_iret C T (mm_dec dk_X12_track 18 rfl) (by decide : 0 ≤ 0) (by decide : 0 ≤ 0) ⟨_, rfl, ⟨⟨by omega, by omega⟩, i33_, f33_, by first | omega | (have zr := (mm_wY_fr p2 (f47c.1 66 1 (by decide)) (f47c.1 66 2 (by decide)) (f47c.1 66 3 (by decide)) (f47c.1 66 9 (by decide)) (f47c.1 66 10 (by decide)) (f47c.2 67 (by decide)) (f47c.2 68 (by decide)) (f47c.2 69 (by decide)) (f47c.2 70 (by decide)) (f47c.2 71 (by decide)) (f47c.2 101 (by decide))); omega), by first | exact Or.inr ⟨by omega, by omega⟩ | exact Or.inl ⟨by omega, by omega, (by rw [← (mm_WY_fr (f47c.1 66 1 (by decide)) (f47c.1 66 2 (by decide)) (f47c.1 66 3 (by decide)) (f47c.1 66 9 (by decide)) (f47c.1 66 10 (by decide)) (f47c.2 67 (by decide)) (f47c.2 68 (by decide)) (f47c.2 69 (by decide)) (f47c.2 70 (by decide)) (f47c.2 71 (by decide)) (f47c.2 101 (by decide)))]; exact w200_5)⟩ | exact Or.inl ⟨by omega, by omega, (by rw [← (mm_WY_fr (f47c.1 66 1 (by decide)) (f47c.1 66 2 (by decide)) (f47c.1 66 3 (by decide)) (f47c.1 66 9 (by decide)) (f47c.1 66 10 (by decide)) (f47c.2 67 (by decide)) (f47c.2 68 (by decide)) (f47c.2 69 (by decide)) (f47c.2 70 (by decide)) (f47c.2 71 (by decide)) (f47c.2 101 (by decide)))]; exact Or.inl ⟨by omega, zl9⟩)⟩⟩⟩
  refine mm_if_eq (tgt := 33) C (mm_dec dk_X12_track 3 rfl) (by decide) (fun c5 => ?_) (fun c5 => ?_)
  · skip
    refine mm_fgt 0 ?_
    refine mm_fgt 1 ?_
    refine mm_fgt 2 ?_
    exact J33 h2c i2c f2c (by omega) (by omega) (by omega)
  · skip
    refine mm_aload_n C (mm_dec dk_X12_track 4 rfl) rfl ?_
    refine mm_iload_n C (mm_dec dk_X12_track 5 rfl) rfl ?_
    have J26 : ∀ (s26_1 : Int) (bs26_1 : 0 ≤ s26_1 ∧ s26_1 ≤ 1) (w26_0 : (0 ≤ p1 ∧ p1 < h.1 66 23)) (w26_1 : ((s26_1 = 1 ∧ (0 ≤ p2 ∧ p2 ≤ h.1 66 56)) ∨ (s26_1 = 0 ∧ (p2 < 0 ∨ h.1 66 56 < p2)))) (w26_2 : h2c.1 66 0 = 0) (w26_3 : h2c.1 66 56 = h.1 66 56) (w26_4 : h2c.1 66 58 = h.1 66 58) (vs26_1 : (s26_1 = 0) ∨ (0 ≤ p2 ∧ p2 ≤ (h2c.1 66 56) ∧ s26_1 = 1)), mm_W x 0 0 26 [mR 66, mI p1, mI p2, mU, mU, mU, mU, mU, mU, mU] [mI s26_1, mR 66] h2c := by
      intro s26_1 bs26_1 w26_0 w26_1 w26_2 w26_3 w26_4 vs26_1
      refine mm_iconst C (mm_dec dk_X12_track 14 rfl) ⟨by decide, by decide⟩ ?_
      refine mm_cVi (rest := []) C1 ev_X12_251 (mm_dec dk_X12_track 15 rfl) (c_X12_right_q x.2.1 hl (d - 1) (by omega) h2c i2c s26_1 2 ⟨by omega, by omega⟩ (by omega)) rfl rfl (Nat.le_of_ble_eq_true rfl) ⟨by decide, by decide⟩ rfl (fun r27 h27c hp27 => ?_) (fun _ _ q => q.elim)
      obtain ⟨b27, i27c, g27c, y27_0⟩ := hp27
      have f27c : mm_fr [(66, 0), (66, 39), (66, 56), (66, 58)] [91, 122, 123] h h27c := mm_fr_tr f2c g27c (by decide +kernel)
      have q27c_19 : h27c.1 66 23 = h2c.1 66 23 := g27c.1 66 23 (by decide)
      have q27c_20 : h27c.1 66 39 = h2c.1 66 39 := g27c.1 66 39 (by decide)
      have q27c_21 : h27c.1 66 56 = h2c.1 66 56 := g27c.1 66 56 (by decide)
      have q27c_22 : h27c.1 66 58 = h2c.1 66 58 := g27c.1 66 58 (by decide)
      have g23 : -2147483648 ≤ (h27c.1 66 0) ∧ (h27c.1 66 0) ≤ 2147483647 := i27c.1 66 0
      refine mm_if_ne (tgt := 35) C (mm_dec dk_X12_track 16 rfl) (by decide) (fun c30 => ?_) (fun c30 => ?_)
      · skip
        refine mm_aload_n C (mm_dec dk_X12_track 19 rfl) rfl ?_
        refine mm_iconst C (mm_dec dk_X12_track 20 rfl) ⟨by decide, by decide⟩ ?_
        refine mm_puti C fl_X12_350 (mm_dec dk_X12_track 21 rfl) rfl rfl rfl (Or.inl ⟨rfl, rfl⟩) ?_
        have i3 : mm_inv (mm_pf h27c 66 56 0) := mm_inv_pf i27c (show 0 ≤ 0 ∧ 0 ≤ 500 from ⟨by omega, by omega⟩) (by decide)
        have f3 : mm_fr [(66, 0), (66, 39), (66, 56), (66, 58)] [91, 122, 123] h (mm_pf h27c 66 56 0) := mm_fr_pf f27c (by decide)
        obtain ⟨h3, eh3⟩ : ∃ z, z = mm_pf h27c 66 56 0 := ⟨_, rfl⟩
        rw [← eh3] at i3 f3 ⊢
        have qh3 : h3.1 66 56 = 0 := by rw [eh3]; exact mm_pf_same _ _ _ _
        have qh3_24 : h3.1 66 0 = h27c.1 66 0 := by rw [eh3]; exact mm_pf_ne _ _ (by decide)
        have qh3_25 : h3.1 66 23 = h27c.1 66 23 := by rw [eh3]; exact mm_pf_ne _ _ (by decide)
        have qh3_26 : h3.1 66 39 = h27c.1 66 39 := by rw [eh3]; exact mm_pf_ne _ _ (by decide)
        have qh3_27 : h3.1 66 58 = h27c.1 66 58 := by rw [eh3]; exact mm_pf_ne _ _ (by decide)
        refine mm_aload_n C (mm_dec dk_X12_track 22 rfl) rfl ?_
        refine mm_iconst C (mm_dec dk_X12_track 23 rfl) ⟨by decide, by decide⟩ ?_
        refine mm_puti C fl_X12_237 (mm_dec dk_X12_track 24 rfl) rfl rfl rfl (Or.inl ⟨rfl, rfl⟩) ?_
        have i4 : mm_inv (mm_pf h3 66 58 (-1)) := mm_inv_pf i3 (show -2147483648 ≤ (-1) ∧ (-1) ≤ 2147483647 from ⟨by omega, by omega⟩) (by decide)
        have f4 : mm_fr [(66, 0), (66, 39), (66, 56), (66, 58)] [91, 122, 123] h (mm_pf h3 66 58 (-1)) := mm_fr_pf f3 (by decide)
        obtain ⟨h4, eh4⟩ : ∃ z, z = mm_pf h3 66 58 (-1) := ⟨_, rfl⟩
        rw [← eh4] at i4 f4 ⊢
        have qh4 : h4.1 66 58 = (-1) := by rw [eh4]; exact mm_pf_same _ _ _ _
        have qh4_28 : h4.1 66 0 = h3.1 66 0 := by rw [eh4]; exact mm_pf_ne _ _ (by decide)
        have qh4_29 : h4.1 66 23 = h3.1 66 23 := by rw [eh4]; exact mm_pf_ne _ _ (by decide)
        have qh4_30 : h4.1 66 39 = h3.1 66 39 := by rw [eh4]; exact mm_pf_ne _ _ (by decide)
        have qh4_31 : h4.1 66 56 = h3.1 66 56 := by rw [eh4]; exact mm_pf_ne _ _ (by decide)
        refine mm_aload_n C (mm_dec dk_X12_track 25 rfl) rfl ?_
        refine mm_iload_n C (mm_dec dk_X12_track 26 rfl) rfl ?_
        refine mm_cVv (rest := []) C1 ev_X12_302 (mm_dec dk_X12_track 27 rfl) (c_X12_rows x.2.1 hl (d - 1) (by omega) h4 i4 p1 ⟨by omega, by omega⟩) rfl rfl (Nat.le_of_ble_eq_true rfl) ⟨by decide, by decide⟩ rfl (fun h47c hp47 => ?_) (fun _ _ q => q.elim)
        obtain ⟨i47c, g47c⟩ := hp47
        have f47c : mm_fr [(66, 0), (66, 39), (66, 56), (66, 58)] [91, 122, 123] h h47c := mm_fr_tr f4 g47c (by decide +kernel)
        have q47c_33 : h47c.1 66 0 = h4.1 66 0 := g47c.1 66 0 (by decide)
        have q47c_34 : h47c.1 66 23 = h4.1 66 23 := g47c.1 66 23 (by decide)
        have q47c_35 : h47c.1 66 56 = h4.1 66 56 := g47c.1 66 56 (by decide)
        have q47c_36 : h47c.1 66 58 = h4.1 66 58 := g47c.1 66 58 (by decide)
        have g37 : 0 ≤ (h47c.1 66 39) ∧ (h47c.1 66 39) ≤ 12 := i47c.1 66 39
        refine mm_bipush C (mm_dec dk_X12_track 28 rfl) ⟨by decide, by decide⟩ ?_
        refine mm_aload_n C (mm_dec dk_X12_track 29 rfl) rfl ?_
        refine mm_geti C fl_X12_204 (mm_dec dk_X12_track 30 rfl) rfl rfl (Or.inl rfl) ?_
        have g38 : 0 ≤ (h47c.1 66 10) ∧ (h47c.1 66 10) ≤ 19 := i47c.1 66 10
        refine mm_imul C (mm_dec dk_X12_track 31 rfl) ⟨by omega, by omega⟩ ?_
        refine mm_aload_n C (mm_dec dk_X12_track 32 rfl) rfl ?_
        refine mm_geti C fl_X12_201 (mm_dec dk_X12_track 33 rfl) rfl rfl (Or.inl rfl) ?_
        have g39 : 0 ≤ (h47c.1 66 9) ∧ (h47c.1 66 9) ≤ 19 := i47c.1 66 9
        refine mm_iadd C (mm_dec dk_X12_track 34 rfl) ⟨by omega, by omega⟩ ?_
        refine mm_istore_nL (ls2 := [mR 66, mI p1, mI p2, mI ((20 * (h47c.1 66 10)) + (h47c.1 66 9)), mU, mU, mU, mU, mU, mU]) C (mm_dec dk_X12_track 35 rfl) (by decide) rfl ?_
        refine mm_iconst C (mm_dec dk_X12_track 36 rfl) ⟨by decide, by decide⟩ ?_
        refine mm_istoreL (ls2 := [mR 66, mI p1, mI p2, mI ((20 * (h47c.1 66 10)) + (h47c.1 66 9)), mI 0, mU, mU, mU, mU, mU]) C (mm_dec dk_X12_track 37 rfl) (by decide) rfl ?_
        refine mm_aload_n C (mm_dec dk_X12_track 38 rfl) rfl ?_
        refine mm_iconst C (mm_dec dk_X12_track 39 rfl) ⟨by decide, by decide⟩ ?_
        refine mm_iload_n C (mm_dec dk_X12_track 40 rfl) rfl ?_
        refine mm_cVi (rest := []) C1 ev_X12_539 (mm_dec dk_X12_track 41 rfl) (c_X12_comesBy x.2.1 hl (d - 1) (by omega) h47c i47c 0 ((20 * (h47c.1 66 10)) + (h47c.1 66 9)) ⟨by omega, by omega⟩) rfl rfl (Nat.le_of_ble_eq_true rfl) ⟨by decide, by decide⟩ rfl (fun r69 h69c hp69 => ?_) (fun _ _ q => q.elim)
        obtain ⟨b69, z69⟩ := hp69
        rw [z69]
        refine mm_istoreL (ls2 := [mR 66, mI p1, mI p2, mI ((20 * (h47c.1 66 10)) + (h47c.1 66 9)), mI 0, mI r69, mU, mU, mU, mU]) C (mm_dec dk_X12_track 42 rfl) (by decide) rfl ?_
        refine mm_iconst C (mm_dec dk_X12_track 43 rfl) ⟨by decide, by decide⟩ ?_
        have J77 : ∀ (n : Nat) (x77_3 : Int) (bx77_3 : 0 ≤ x77_3 ∧ x77_3 ≤ 399) (x77_4 : Int) (bx77_4 : -2147483648 ≤ x77_4 ∧ x77_4 ≤ 2147483647) (x77_5 : Int) (bx77_5 : 0 ≤ x77_5 ∧ x77_5 ≤ 12) (x77_6 : Int) (bx77_6 : 0 ≤ x77_6 ∧ x77_6 ≤ 2147483647) (w77_0 : h47c.1 66 56 = 0) (w77_1 : (0 ≤ p1 ∧ p1 < h.1 66 23)) (w77_2 : (0 ≤ p2 ∧ p2 ≤ h.1 66 56)) (w77_3 : h47c.1 66 0 = 0) (w77_4 : mm_wk (mm_by h47c) (mm_sy h47c) (h47c.2.1 101) (20 * h47c.1 66 10 + h47c.1 66 9) (x77_6).toNat = (x77_3, x77_4)) (w77_5 : x77_6 ≤ p2), (2147483647 - x77_6 : Int) < n → mm_W x 0 0 77 [mR 66, mI p1, mI p2, mI x77_3, mI x77_4, mI x77_5, mI x77_6, mU, mU, mU] [] h47c := by
          intro n
          induction n with
          | zero =>
            intro x77_3 bx77_3 x77_4 bx77_4 x77_5 bx77_5 x77_6 bx77_6 w77_0 w77_1 w77_2 w77_3 w77_4 w77_5 hm
            exfalso; omega
          | succ n ih77 =>
            intro x77_3 bx77_3 x77_4 bx77_4 x77_5 bx77_5 x77_6 bx77_6 w77_0 w77_1 w77_2 w77_3 w77_4 w77_5 hm77
            refine mm_iload C (mm_dec dk_X12_track 45 rfl) rfl ?_
            refine mm_iload_n C (mm_dec dk_X12_track 46 rfl) rfl ?_
            refine mm_icmp_ge (tgt := 231) C (mm_dec dk_X12_track 47 rfl) (by decide) (fun c80 => ?_) (fun c80 => ?_)
            · skip
              have zs : x77_4 = mm_wY h47c p2 := mm_wk_end w77_4 (by omega) (by omega)
              have zl9 : 0 ≤ (mm_WY h47c p2.toNat).1 := by (have e9 : (mm_WY h47c p2.toNat).1 = x77_3 := by (rw [show p2 = x77_6 by omega]; exact congrArg Prod.fst w77_4)); omega
              refine mm_aload_n C (mm_dec dk_X12_track 121 rfl) rfl ?_
              refine mm_getr (t := 122) C fl_X12_178 (mm_dec dk_X12_track 122 rfl) rfl rfl (mm_ref i47c rfl) ?_
              refine mm_iload_n C (mm_dec dk_X12_track 123 rfl) rfl ?_
              refine mm_iload C (mm_dec dk_X12_track 124 rfl) rfl ?_
              refine mm_iast C (mm_dec dk_X12_track 125 rfl) rfl (by omega) (by omega) ?_
              have i6 : mm_inv (mm_pa h47c 122 p1 x77_4) := mm_inv_pa i47c (show -2147483648 ≤ x77_4 ∧ x77_4 ≤ 2147483647 from ⟨by omega, by omega⟩)
              have f6 : mm_fr [(66, 0), (66, 39), (66, 56), (66, 58)] [91, 122, 123] h (mm_pa h47c 122 p1 x77_4) := mm_fr_pa f47c (by decide)
              obtain ⟨h6, eh6⟩ : ∃ z, z = mm_pa h47c 122 p1 x77_4 := ⟨_, rfl⟩
              rw [← eh6] at i6 f6 ⊢
              have qh6_41 : h6.1 66 0 = h47c.1 66 0 := by rw [eh6]; rfl
              have qh6_42 : h6.1 66 9 = h47c.1 66 9 := by rw [eh6]; rfl
              have qh6_43 : h6.1 66 10 = h47c.1 66 10 := by rw [eh6]; rfl
              have qh6_44 : h6.1 66 23 = h47c.1 66 23 := by rw [eh6]; rfl
              have qh6_45 : h6.1 66 39 = h47c.1 66 39 := by rw [eh6]; rfl
              have qh6_46 : h6.1 66 56 = h47c.1 66 56 := by rw [eh6]; rfl
              have qh6_47 : h6.1 66 58 = h47c.1 66 58 := by rw [eh6]; rfl
              refine mm_aload_n C (mm_dec dk_X12_track 126 rfl) rfl ?_
              refine mm_getr (t := 123) C fl_X12_181 (mm_dec dk_X12_track 127 rfl) rfl rfl (mm_ref i6 rfl) ?_
              refine mm_iload_n C (mm_dec dk_X12_track 128 rfl) rfl ?_
              refine mm_iload C (mm_dec dk_X12_track 129 rfl) rfl ?_
              refine mm_aload_n C (mm_dec dk_X12_track 130 rfl) rfl ?_
              refine mm_geti C fl_X12_296 (mm_dec dk_X12_track 131 rfl) rfl rfl (Or.inl rfl) ?_
              have J274 : ∀ (s274_2 : Int) (bs274_2 : 0 ≤ s274_2 ∧ s274_2 ≤ 1) (w274_0 : h6.1 66 56 = 0) (w274_1 : (0 ≤ p1 ∧ p1 < h.1 66 23)) (w274_2 : (0 ≤ p2 ∧ p2 ≤ h.1 66 56)) (w274_3 : h6.1 66 0 = 0) (w274_4 : h6.1 66 58 = -1) (vs274_2 : (s274_2 = 0) ∨ (x77_5 = (h6.1 66 39) ∧ x77_3 = ((20 * (h6.1 66 12)) + (h6.1 66 11)) ∧ s274_2 = 1)), mm_W x 0 0 274 [mU, mU, mU, mU, mI x77_4, mU, mU, mU, mU, mU] [mI s274_2, mI p1, mR 123] h6 := by
                intro s274_2 bs274_2 w274_0 w274_1 w274_2 w274_3 w274_4 vs274_2
                refine mm_zast C (mm_dec dk_X12_track 145 rfl) rfl (by omega) (by omega) (by omega) ?_
                have i7 : mm_inv (mm_pa h6 123 p1 s274_2) := mm_inv_pa i6 (show 0 ≤ s274_2 ∧ s274_2 ≤ 1 from ⟨by omega, by omega⟩)
                have f7 : mm_fr [(66, 0), (66, 39), (66, 56), (66, 58)] [91, 122, 123] h (mm_pa h6 123 p1 s274_2) := mm_fr_pa f6 (by decide)
                obtain ⟨h7, eh7⟩ : ∃ z, z = mm_pa h6 123 p1 s274_2 := ⟨_, rfl⟩
                rw [← eh7] at i7 f7 ⊢
                have qh7_48 : h7.1 66 0 = h6.1 66 0 := by rw [eh7]; rfl
                have qh7_49 : h7.1 66 9 = h6.1 66 9 := by rw [eh7]; rfl
                have qh7_50 : h7.1 66 10 = h6.1 66 10 := by rw [eh7]; rfl
                have qh7_51 : h7.1 66 23 = h6.1 66 23 := by rw [eh7]; rfl
                have qh7_52 : h7.1 66 39 = h6.1 66 39 := by rw [eh7]; rfl
                have qh7_53 : h7.1 66 56 = h6.1 66 56 := by rw [eh7]; rfl
                have qh7_54 : h7.1 66 58 = h6.1 66 58 := by rw [eh7]; rfl
                refine mm_iload C (mm_dec dk_X12_track 146 rfl) rfl ?_
                exact mm_iret C T (mm_dec dk_X12_track 147 rfl) (by decide : 0 ≤ 0) (by decide : 0 ≤ 0) ⟨_, rfl, ⟨⟨by omega, by omega⟩, i7, f7, by first | omega | (have zr := (mm_wY_fr p2 (f47c.1 66 1 (by decide)) (f47c.1 66 2 (by decide)) (f47c.1 66 3 (by decide)) (f47c.1 66 9 (by decide)) (f47c.1 66 10 (by decide)) (f47c.2 67 (by decide)) (f47c.2 68 (by decide)) (f47c.2 69 (by decide)) (f47c.2 70 (by decide)) (f47c.2 71 (by decide)) (f47c.2 101 (by decide))); omega), by first | exact Or.inr ⟨by omega, by omega⟩ | exact Or.inl ⟨by omega, by omega, (by rw [← (mm_WY_fr (f47c.1 66 1 (by decide)) (f47c.1 66 2 (by decide)) (f47c.1 66 3 (by decide)) (f47c.1 66 9 (by decide)) (f47c.1 66 10 (by decide)) (f47c.2 67 (by decide)) (f47c.2 68 (by decide)) (f47c.2 69 (by decide)) (f47c.2 70 (by decide)) (f47c.2 71 (by decide)) (f47c.2 101 (by decide)))]; exact w200_5)⟩ | exact Or.inl ⟨by omega, by omega, (by rw [← (mm_WY_fr (f47c.1 66 1 (by decide)) (f47c.1 66 2 (by decide)) (f47c.1 66 3 (by decide)) (f47c.1 66 9 (by decide)) (f47c.1 66 10 (by decide)) (f47c.2 67 (by decide)) (f47c.2 68 (by decide)) (f47c.2 69 (by decide)) (f47c.2 70 (by decide)) (f47c.2 71 (by decide)) (f47c.2 101 (by decide)))]; exact Or.inl ⟨by omega, zl9⟩)⟩⟩⟩
              have J273 : ∀ (w273_0 : h6.1 66 56 = 0) (w273_1 : (0 ≤ p1 ∧ p1 < h.1 66 23)) (w273_2 : (0 ≤ p2 ∧ p2 ≤ h.1 66 56)) (w273_3 : h6.1 66 0 = 0) (w273_4 : h6.1 66 58 = -1), mm_W x 0 0 273 [mU, mU, mU, mU, mI x77_4, mU, mU, mU, mU, mU] [mI p1, mR 123] h6 := by
                intro w273_0 w273_1 w273_2 w273_3 w273_4
                refine mm_iconst C (mm_dec dk_X12_track 144 rfl) ⟨by decide, by decide⟩ ?_
                exact J274 0 ⟨by omega, by omega⟩ (by omega) (by omega) (by omega) (by omega) (by omega) (Or.inl rfl)
              refine mm_icmp_ne (tgt := 273) C (mm_dec dk_X12_track 132 rfl) (by decide) (fun c250 => ?_) (fun c250 => ?_)
              · skip
                refine mm_fgt 0 ?_
                refine mm_fgt 1 ?_
                refine mm_fgt 2 ?_
                refine mm_fgt 3 ?_
                refine mm_fgt 5 ?_
                refine mm_fgt 6 ?_
                exact J273 (by omega) (by omega) (by omega) (by omega) (by omega)
              · skip
                refine mm_iload_n C (mm_dec dk_X12_track 133 rfl) rfl ?_
                refine mm_bipush C (mm_dec dk_X12_track 134 rfl) ⟨by decide, by decide⟩ ?_
                refine mm_aload_n C (mm_dec dk_X12_track 135 rfl) rfl ?_
                refine mm_geti C fl_X12_210 (mm_dec dk_X12_track 136 rfl) rfl rfl (Or.inl rfl) ?_
                have g55 : 0 ≤ (h6.1 66 12) ∧ (h6.1 66 12) ≤ 19 := i6.1 66 12
                refine mm_imul C (mm_dec dk_X12_track 137 rfl) ⟨by omega, by omega⟩ ?_
                refine mm_aload_n C (mm_dec dk_X12_track 138 rfl) rfl ?_
                refine mm_geti C fl_X12_207 (mm_dec dk_X12_track 139 rfl) rfl rfl (Or.inl rfl) ?_
                have g56 : 0 ≤ (h6.1 66 11) ∧ (h6.1 66 11) ≤ 19 := i6.1 66 11
                refine mm_iadd C (mm_dec dk_X12_track 140 rfl) ⟨by omega, by omega⟩ ?_
                refine mm_icmp_ne (tgt := 273) C (mm_dec dk_X12_track 141 rfl) (by decide) (fun c266 => ?_) (fun c266 => ?_)
                · skip
                  refine mm_fgt 0 ?_
                  refine mm_fgt 1 ?_
                  refine mm_fgt 2 ?_
                  refine mm_fgt 3 ?_
                  refine mm_fgt 5 ?_
                  refine mm_fgt 6 ?_
                  exact J273 (by omega) (by omega) (by omega) (by omega) (by omega)
                · skip
                  refine mm_iconst C (mm_dec dk_X12_track 142 rfl) ⟨by decide, by decide⟩ ?_
                  refine mm_goto (tgt := 274) C (mm_dec dk_X12_track 143 rfl) (by decide) ?_
                  refine mm_fgt 0 ?_
                  refine mm_fgt 1 ?_
                  refine mm_fgt 2 ?_
                  refine mm_fgt 3 ?_
                  refine mm_fgt 5 ?_
                  refine mm_fgt 6 ?_
                  exact J274 1 ⟨by omega, by omega⟩ (by omega) (by omega) (by omega) (by omega) (by omega) (Or.inr (⟨by omega, by omega, rfl⟩))
            · skip
              refine mm_aload_n C (mm_dec dk_X12_track 48 rfl) rfl ?_
              refine mm_getr (t := 101) C fl_X12_114 (mm_dec dk_X12_track 49 rfl) rfl rfl (mm_ref i47c rfl) ?_
              refine mm_iload C (mm_dec dk_X12_track 50 rfl) rfl ?_
              refine mm_iald C (mm_dec dk_X12_track 51 rfl) rfl (by omega) (by omega) ?_
              have g57 : -2147483648 ≤ (h47c.2.1 101 x77_6) ∧ (h47c.2.1 101 x77_6) ≤ 2147483647 := i47c.2.1 101 x77_6
              refine mm_istoreL (ls2 := [mR 66, mI p1, mI p2, mI x77_3, mI x77_4, mI x77_5, mI x77_6, mI (h47c.2.1 101 x77_6), mU, mU]) C (mm_dec dk_X12_track 52 rfl) (by decide) rfl ?_
              refine mm_iload C (mm_dec dk_X12_track 53 rfl) rfl ?_
              refine mm_bipush C (mm_dec dk_X12_track 54 rfl) ⟨by decide, by decide⟩ ?_
              have J225 : ∀ (x225_3 : Int) (bx225_3 : 0 ≤ x225_3 ∧ x225_3 ≤ 399) (x225_4 : Int) (bx225_4 : -2147483648 ≤ x225_4 ∧ x225_4 ≤ 2147483647) (x225_5 : Int) (bx225_5 : 0 ≤ x225_5 ∧ x225_5 ≤ 12) (w225_0 : h47c.1 66 56 = 0) (w225_1 : (0 ≤ p1 ∧ p1 < h.1 66 23)) (w225_2 : (0 ≤ p2 ∧ p2 ≤ h.1 66 56)) (w225_3 : h47c.1 66 0 = 0) (w225_4 : mm_wk (mm_by h47c) (mm_sy h47c) (h47c.2.1 101) (20 * h47c.1 66 10 + h47c.1 66 9) (x77_6 + 1).toNat = (x225_3, x225_4)), mm_W x 0 0 225 [mR 66, mI p1, mI p2, mI x225_3, mI x225_4, mI x225_5, mI x77_6, mU, mU, mU] [] h47c := by
                intro x225_3 bx225_3 x225_4 bx225_4 x225_5 bx225_5 w225_0 w225_1 w225_2 w225_3 w225_4
                refine mm_iincL (ls2 := [mR 66, mI p1, mI p2, mI x225_3, mI x225_4, mI x225_5, mI (x77_6 + 1), mU, mU, mU]) C (mm_dec dk_X12_track 119 rfl) rfl (by decide) ⟨by omega, by omega⟩ rfl ?_
                refine mm_goto (tgt := 77) C (mm_dec dk_X12_track 120 rfl) (by decide) ?_
                exact ih77 x225_3 ⟨by omega, by omega⟩ x225_4 ⟨by omega, by omega⟩ x225_5 ⟨by omega, by omega⟩ (x77_6 + 1) ⟨by omega, by omega⟩ (by omega) (by omega) (by omega) (by omega) (by first | rfl | exact w225_4) (by omega) (by omega)
              refine mm_icmp_eq (tgt := 225) C (mm_dec dk_X12_track 55 rfl) (by decide) (fun c96 => ?_) (fun c96 => ?_)
              · skip
                refine mm_fgt 7 ?_
                exact J225 x77_3 ⟨by omega, by omega⟩ x77_4 ⟨by omega, by omega⟩ x77_5 ⟨by omega, by omega⟩ (by omega) (by omega) (by omega) (by omega) (by first | exact mm_wk_skip w77_4 (by omega) (by omega) (mm_mv_x (by omega)) | exact mm_wk_go w77_4 (by omega) (by omega) w154_4 (by omega) (by omega) zb (by omega) (by rw [y207_0]))
              · skip
                refine mm_iload C (mm_dec dk_X12_track 56 rfl) rfl ?_
                refine mm_bipush C (mm_dec dk_X12_track 57 rfl) ⟨by decide, by decide⟩ ?_
                refine mm_icmp_ne (tgt := 109) C (mm_dec dk_X12_track 58 rfl) (by decide) (fun c103 => ?_) (fun c103 => ?_)
                · skip
                  refine mm_iload C (mm_dec dk_X12_track 60 rfl) rfl ?_
                  refine mm_bipush C (mm_dec dk_X12_track 61 rfl) ⟨by decide, by decide⟩ ?_
                  have J154 : ∀ (s154_0 : Int) (bs154_0 : -1 ≤ s154_0 ∧ s154_0 ≤ 3) (w154_0 : h47c.1 66 56 = 0) (w154_1 : (0 ≤ p1 ∧ p1 < h.1 66 23)) (w154_2 : (0 ≤ p2 ∧ p2 ≤ h.1 66 56)) (w154_3 : h47c.1 66 0 = 0) (w154_4 : mm_mv (h47c.2.1 101 x77_6) = s154_0), mm_W x 0 0 154 [mR 66, mI p1, mI p2, mI x77_3, mI x77_4, mI x77_5, mI x77_6, mU, mU, mU] [mI s154_0] h47c := by
                    intro s154_0 bs154_0 w154_0 w154_1 w154_2 w154_3 w154_4
                    refine mm_istoreL (ls2 := [mR 66, mI p1, mI p2, mI x77_3, mI x77_4, mI x77_5, mI x77_6, mU, mI s154_0, mU]) C (mm_dec dk_X12_track 81 rfl) (by decide) rfl ?_
                    refine mm_iload C (mm_dec dk_X12_track 82 rfl) rfl ?_
                    refine mm_iconst C (mm_dec dk_X12_track 83 rfl) ⟨by decide, by decide⟩ ?_
                    have J173 : ∀ (s173_0 : Int) (bs173_0 : -1 ≤ s173_0 ∧ s173_0 ≤ 399) (w173_0 : h47c.1 66 56 = 0) (w173_1 : (0 ≤ p1 ∧ p1 < h.1 66 23)) (w173_2 : (0 ≤ p2 ∧ p2 ≤ h.1 66 56)) (w173_3 : h47c.1 66 0 = 0) (w173_4 : ((s154_0 = -1 ∧ s173_0 = -1) ∨ (s154_0 ≠ -1 ∧ s173_0 = mm_by h47c x77_3 s154_0))), mm_W x 0 0 173 [mR 66, mI p1, mI p2, mI x77_3, mI x77_4, mI x77_5, mI x77_6, mU, mI s154_0, mU] [mI s173_0] h47c := by
                      intro s173_0 bs173_0 w173_0 w173_1 w173_2 w173_3 w173_4
                      refine mm_istoreL (ls2 := [mR 66, mI p1, mI p2, mI x77_3, mI x77_4, mI x77_5, mI x77_6, mU, mI s154_0, mI s173_0]) C (mm_dec dk_X12_track 91 rfl) (by decide) rfl ?_
                      refine mm_iload C (mm_dec dk_X12_track 92 rfl) rfl ?_
                      refine mm_iconst C (mm_dec dk_X12_track 93 rfl) ⟨by decide, by decide⟩ ?_
                      refine mm_icmp_ne (tgt := 201) C (mm_dec dk_X12_track 94 rfl) (by decide) (fun c178 => ?_) (fun c178 => ?_)
                      · skip
                        have zb : mm_by h47c x77_3 s154_0 = s173_0 := by omega
                        refine mm_iload C (mm_dec dk_X12_track 105 rfl) rfl ?_
                        refine mm_aload_n C (mm_dec dk_X12_track 106 rfl) rfl ?_
                        refine mm_iload_n C (mm_dec dk_X12_track 107 rfl) rfl ?_
                        refine mm_iload C (mm_dec dk_X12_track 108 rfl) rfl ?_
                        refine mm_cVi (rest := [mI x77_4]) C1 ev_X12_275 (mm_dec dk_X12_track 109 rfl) (c_X12_seconds_q x.2.1 hl (d - 1) (by omega) h47c i47c x77_3 s173_0 ⟨by omega, by omega⟩ ⟨by omega, by omega⟩) rfl rfl (Nat.le_of_ble_eq_true rfl) ⟨by decide, by decide⟩ rfl (fun r207 h207c hp207 => ?_) (fun _ _ q => q.elim)
                        obtain ⟨b207, z207, y207_0⟩ := hp207
                        rw [z207]
                        refine mm_iaddw C (mm_dec dk_X12_track 110 rfl) ?_
                        have g59 : -2147483648 ≤ (mm_w (x77_4 + r207)) ∧ (mm_w (x77_4 + r207)) < 2147483648 := mm_w_rg _
                        refine mm_istoreL (ls2 := [mR 66, mI p1, mI p2, mI x77_3, mI (mm_w (x77_4 + r207)), mI x77_5, mI x77_6, mU, mI s154_0, mI s173_0]) C (mm_dec dk_X12_track 111 rfl) (by decide) rfl ?_
                        refine mm_iload C (mm_dec dk_X12_track 112 rfl) rfl ?_
                        refine mm_istore_nL (ls2 := [mR 66, mI p1, mI p2, mI s173_0, mI (mm_w (x77_4 + r207)), mI x77_5, mI x77_6, mU, mI s154_0, mI s173_0]) C (mm_dec dk_X12_track 113 rfl) (by decide) rfl ?_
                        refine mm_aload_n C (mm_dec dk_X12_track 114 rfl) rfl ?_
                        refine mm_iload C (mm_dec dk_X12_track 115 rfl) rfl ?_
                        refine mm_iload_n C (mm_dec dk_X12_track 116 rfl) rfl ?_
                        refine mm_cVi (rest := []) C1 ev_X12_539 (mm_dec dk_X12_track 117 rfl) (c_X12_comesBy x.2.1 hl (d - 1) (by omega) h47c i47c x77_5 s173_0 ⟨by omega, by omega⟩) rfl rfl (Nat.le_of_ble_eq_true rfl) ⟨by decide, by decide⟩ rfl (fun r220 h220c hp220 => ?_) (fun _ _ q => q.elim)
                        obtain ⟨b220, z220⟩ := hp220
                        rw [z220]
                        refine mm_istoreL (ls2 := [mR 66, mI p1, mI p2, mI s173_0, mI (mm_w (x77_4 + r207)), mI r220, mI x77_6, mU, mI s154_0, mI s173_0]) C (mm_dec dk_X12_track 118 rfl) (by decide) rfl ?_
                        refine mm_fgt 8 ?_
                        refine mm_fgt 9 ?_
                        exact J225 s173_0 ⟨by omega, by omega⟩ (mm_w (x77_4 + r207)) ⟨by omega, by omega⟩ r220 ⟨by omega, by omega⟩ (by omega) (by omega) (by omega) (by omega) (by first | exact mm_wk_skip w77_4 (by omega) (by omega) (mm_mv_x (by omega)) | exact mm_wk_go w77_4 (by omega) (by omega) w154_4 (by omega) (by omega) zb (by omega) (by rw [y207_0]))
                      · skip
                        have zn9 : (mm_WY h47c (x77_6 + 1).toNat).1 < 0 := mm_wk_fn w77_4 (by omega) (by omega) w154_4 (by omega) (by omega)
                        refine mm_aload_n C (mm_dec dk_X12_track 95 rfl) rfl ?_
                        refine mm_iload C (mm_dec dk_X12_track 96 rfl) rfl ?_
                        refine mm_puti C fl_X12_237 (mm_dec dk_X12_track 97 rfl) rfl rfl rfl (Or.inl ⟨rfl, rfl⟩) ?_
                        have i8 : mm_inv (mm_pf h47c 66 58 x77_6) := mm_inv_pf i47c (show -2147483648 ≤ x77_6 ∧ x77_6 ≤ 2147483647 from ⟨by omega, by omega⟩) (by decide)
                        have f8 : mm_fr [(66, 0), (66, 39), (66, 56), (66, 58)] [91, 122, 123] h (mm_pf h47c 66 58 x77_6) := mm_fr_pf f47c (by decide)
                        obtain ⟨h8, eh8⟩ : ∃ z, z = mm_pf h47c 66 58 x77_6 := ⟨_, rfl⟩
                        rw [← eh8] at i8 f8 ⊢
                        have qh8 : h8.1 66 58 = x77_6 := by rw [eh8]; exact mm_pf_same _ _ _ _
                        have qh8_61 : h8.1 66 0 = h47c.1 66 0 := by rw [eh8]; exact mm_pf_ne _ _ (by decide)
                        have qh8_62 : h8.1 66 9 = h47c.1 66 9 := by rw [eh8]; exact mm_pf_ne _ _ (by decide)
                        have qh8_63 : h8.1 66 10 = h47c.1 66 10 := by rw [eh8]; exact mm_pf_ne _ _ (by decide)
                        have qh8_64 : h8.1 66 23 = h47c.1 66 23 := by rw [eh8]; exact mm_pf_ne _ _ (by decide)
                        have qh8_65 : h8.1 66 39 = h47c.1 66 39 := by rw [eh8]; exact mm_pf_ne _ _ (by decide)
                        have qh8_66 : h8.1 66 56 = h47c.1 66 56 := by rw [eh8]; exact mm_pf_ne _ _ (by decide)
                        refine mm_iload C (mm_dec dk_X12_track 98 rfl) rfl ?_
                        refine mm_iconst C (mm_dec dk_X12_track 99 rfl) ⟨by decide, by decide⟩ ?_
                        have J200 : ∀ (s200_0 : Int) (bs200_0 : -3 ≤ s200_0 ∧ s200_0 ≤ -2) (w200_0 : h8.1 66 56 = 0) (w200_1 : (0 ≤ p1 ∧ p1 < h.1 66 23)) (w200_2 : (0 ≤ p2 ∧ p2 ≤ h.1 66 56)) (w200_3 : h8.1 66 0 = 0) (w200_4 : s200_0 = mm_wY h47c p2) (w200_5 : mm_fp (mm_WY h47c) p2 (h8.1 66 58)) (vs200_0 : (s154_0 ≠ (-1) ∧ s200_0 = -3) ∨ (s154_0 = (-1) ∧ s200_0 = -2)), mm_W x 0 0 200 [mU, mU, mU, mU, mU, mU, mU, mU, mU, mU] [mI s200_0] h8 := by
                          intro s200_0 bs200_0 w200_0 w200_1 w200_2 w200_3 w200_4 w200_5 vs200_0
                          exact mm_iret C T (mm_dec dk_X12_track 104 rfl) (by decide : 0 ≤ 0) (by decide : 0 ≤ 0) ⟨_, rfl, ⟨⟨by omega, by omega⟩, i8, f8, by first | omega | (have zr := (mm_wY_fr p2 (f47c.1 66 1 (by decide)) (f47c.1 66 2 (by decide)) (f47c.1 66 3 (by decide)) (f47c.1 66 9 (by decide)) (f47c.1 66 10 (by decide)) (f47c.2 67 (by decide)) (f47c.2 68 (by decide)) (f47c.2 69 (by decide)) (f47c.2 70 (by decide)) (f47c.2 71 (by decide)) (f47c.2 101 (by decide))); omega), by first | exact Or.inr ⟨by omega, by omega⟩ | exact Or.inl ⟨by omega, by omega, (by rw [← (mm_WY_fr (f47c.1 66 1 (by decide)) (f47c.1 66 2 (by decide)) (f47c.1 66 3 (by decide)) (f47c.1 66 9 (by decide)) (f47c.1 66 10 (by decide)) (f47c.2 67 (by decide)) (f47c.2 68 (by decide)) (f47c.2 69 (by decide)) (f47c.2 70 (by decide)) (f47c.2 71 (by decide)) (f47c.2 101 (by decide)))]; exact w200_5)⟩ | exact Or.inl ⟨by omega, by omega, (by rw [← (mm_WY_fr (f47c.1 66 1 (by decide)) (f47c.1 66 2 (by decide)) (f47c.1 66 3 (by decide)) (f47c.1 66 9 (by decide)) (f47c.1 66 10 (by decide)) (f47c.2 67 (by decide)) (f47c.2 68 (by decide)) (f47c.2 69 (by decide)) (f47c.2 70 (by decide)) (f47c.2 71 (by decide)) (f47c.2 101 (by decide)))]; exact Or.inl ⟨by omega, zl9⟩)⟩⟩⟩
                        refine mm_icmp_ne (tgt := 198) C (mm_dec dk_X12_track 100 rfl) (by decide) (fun c190 => ?_) (fun c190 => ?_)
                        · skip
                          refine mm_bipush C (mm_dec dk_X12_track 103 rfl) ⟨by decide, by decide⟩ ?_
                          refine mm_fgt 0 ?_
                          refine mm_fgt 1 ?_
                          refine mm_fgt 2 ?_
                          refine mm_fgt 3 ?_
                          refine mm_fgt 4 ?_
                          refine mm_fgt 5 ?_
                          refine mm_fgt 6 ?_
                          refine mm_fgt 8 ?_
                          refine mm_fgt 9 ?_
                          exact J200 (-3) ⟨by omega, by omega⟩ (by omega) (by omega) (by omega) (by omega) (by first | exact mm_wk_f2 w77_4 (by omega) (by omega) (by omega) (by omega) | exact mm_wk_f3 w77_4 (by omega) (by omega) w154_4 (by omega) (by omega) (by omega) (by omega)) (by (rw [show h8.1 66 58 = x77_6 by omega]; exact Or.inr ⟨by omega, by omega, by (have e9 : (mm_WY h47c x77_6.toNat).1 = x77_3 := congrArg Prod.fst w77_4; omega), zn9⟩)) (Or.inl ⟨by omega, rfl⟩)
                        · skip
                          refine mm_bipush C (mm_dec dk_X12_track 101 rfl) ⟨by decide, by decide⟩ ?_
                          refine mm_goto (tgt := 200) C (mm_dec dk_X12_track 102 rfl) (by decide) ?_
                          refine mm_fgt 0 ?_
                          refine mm_fgt 1 ?_
                          refine mm_fgt 2 ?_
                          refine mm_fgt 3 ?_
                          refine mm_fgt 4 ?_
                          refine mm_fgt 5 ?_
                          refine mm_fgt 6 ?_
                          refine mm_fgt 8 ?_
                          refine mm_fgt 9 ?_
                          exact J200 (-2) ⟨by omega, by omega⟩ (by omega) (by omega) (by omega) (by omega) (by first | exact mm_wk_f2 w77_4 (by omega) (by omega) (by omega) (by omega) | exact mm_wk_f3 w77_4 (by omega) (by omega) w154_4 (by omega) (by omega) (by omega) (by omega)) (by (rw [show h8.1 66 58 = x77_6 by omega]; exact Or.inr ⟨by omega, by omega, by (have e9 : (mm_WY h47c x77_6.toNat).1 = x77_3 := congrArg Prod.fst w77_4; omega), zn9⟩)) (Or.inr (⟨by omega, rfl⟩))
                    refine mm_icmp_ne (tgt := 166) C (mm_dec dk_X12_track 84 rfl) (by decide) (fun c159 => ?_) (fun c159 => ?_)
                    · skip
                      refine mm_aload_n C (mm_dec dk_X12_track 87 rfl) rfl ?_
                      refine mm_iload_n C (mm_dec dk_X12_track 88 rfl) rfl ?_
                      refine mm_iload C (mm_dec dk_X12_track 89 rfl) rfl ?_
                      refine mm_cVi (rest := []) C1 ev_X12_271 (mm_dec dk_X12_track 90 rfl) (c_X12_leads_q x.2.1 hl (d - 1) (by omega) h47c i47c x77_3 s154_0 ⟨by omega, by omega⟩ ⟨by omega, by omega⟩) rfl rfl (Nat.le_of_ble_eq_true rfl) ⟨by decide, by decide⟩ rfl (fun r170 h170c hp170 => ?_) (fun _ _ q => q.elim)
                      obtain ⟨b170, z170, y170_0⟩ := hp170
                      rw [z170]
                      exact J173 r170 ⟨by omega, by omega⟩ (by omega) (by omega) (by omega) (by omega) (by omega)
                    · skip
                      refine mm_iconst C (mm_dec dk_X12_track 85 rfl) ⟨by decide, by decide⟩ ?_
                      refine mm_goto (tgt := 173) C (mm_dec dk_X12_track 86 rfl) (by decide) ?_
                      exact J173 (-1) ⟨by omega, by omega⟩ (by omega) (by omega) (by omega) (by omega) (by omega)
                  refine mm_icmp_ne (tgt := 120) C (mm_dec dk_X12_track 62 rfl) (by decide) (fun c113 => ?_) (fun c113 => ?_)
                  · skip
                    refine mm_iload C (mm_dec dk_X12_track 65 rfl) rfl ?_
                    refine mm_bipush C (mm_dec dk_X12_track 66 rfl) ⟨by decide, by decide⟩ ?_
                    refine mm_icmp_ne (tgt := 131) C (mm_dec dk_X12_track 67 rfl) (by decide) (fun c124 => ?_) (fun c124 => ?_)
                    · skip
                      refine mm_iload C (mm_dec dk_X12_track 70 rfl) rfl ?_
                      refine mm_bipush C (mm_dec dk_X12_track 71 rfl) ⟨by decide, by decide⟩ ?_
                      refine mm_icmp_ne (tgt := 142) C (mm_dec dk_X12_track 72 rfl) (by decide) (fun c135 => ?_) (fun c135 => ?_)
                      · skip
                        refine mm_iload C (mm_dec dk_X12_track 75 rfl) rfl ?_
                        refine mm_bipush C (mm_dec dk_X12_track 76 rfl) ⟨by decide, by decide⟩ ?_
                        refine mm_icmp_ne (tgt := 153) C (mm_dec dk_X12_track 77 rfl) (by decide) (fun c146 => ?_) (fun c146 => ?_)
                        · skip
                          refine mm_iconst C (mm_dec dk_X12_track 80 rfl) ⟨by decide, by decide⟩ ?_
                          refine mm_fgt 7 ?_
                          exact J154 (-1) ⟨by omega, by omega⟩ (by omega) (by omega) (by omega) (by omega) (by exact mm_mv_x (by omega))
                        · skip
                          refine mm_iconst C (mm_dec dk_X12_track 78 rfl) ⟨by decide, by decide⟩ ?_
                          refine mm_goto (tgt := 154) C (mm_dec dk_X12_track 79 rfl) (by decide) ?_
                          refine mm_fgt 7 ?_
                          exact J154 3 ⟨by omega, by omega⟩ (by omega) (by omega) (by omega) (by omega) (by exact mm_mv_x (by omega))
                      · skip
                        refine mm_iconst C (mm_dec dk_X12_track 73 rfl) ⟨by decide, by decide⟩ ?_
                        refine mm_goto (tgt := 154) C (mm_dec dk_X12_track 74 rfl) (by decide) ?_
                        refine mm_fgt 7 ?_
                        exact J154 2 ⟨by omega, by omega⟩ (by omega) (by omega) (by omega) (by omega) (by exact mm_mv_x (by omega))
                    · skip
                      refine mm_iconst C (mm_dec dk_X12_track 68 rfl) ⟨by decide, by decide⟩ ?_
                      refine mm_goto (tgt := 154) C (mm_dec dk_X12_track 69 rfl) (by decide) ?_
                      refine mm_fgt 7 ?_
                      exact J154 1 ⟨by omega, by omega⟩ (by omega) (by omega) (by omega) (by omega) (by exact mm_mv_x (by omega))
                  · skip
                    refine mm_iconst C (mm_dec dk_X12_track 63 rfl) ⟨by decide, by decide⟩ ?_
                    refine mm_goto (tgt := 154) C (mm_dec dk_X12_track 64 rfl) (by decide) ?_
                    refine mm_fgt 7 ?_
                    exact J154 0 ⟨by omega, by omega⟩ (by omega) (by omega) (by omega) (by omega) (by exact mm_mv_x (by omega))
                · skip
                  refine mm_goto (tgt := 225) C (mm_dec dk_X12_track 59 rfl) (by decide) ?_
                  refine mm_fgt 7 ?_
                  exact J225 x77_3 ⟨by omega, by omega⟩ x77_4 ⟨by omega, by omega⟩ x77_5 ⟨by omega, by omega⟩ (by omega) (by omega) (by omega) (by omega) (by first | exact mm_wk_skip w77_4 (by omega) (by omega) (mm_mv_x (by omega)) | exact mm_wk_go w77_4 (by omega) (by omega) w154_4 (by omega) (by omega) zb (by omega) (by rw [y207_0]))
        refine mm_istoreL (ls2 := [mR 66, mI p1, mI p2, mI ((20 * (h47c.1 66 10)) + (h47c.1 66 9)), mI 0, mI r69, mI 0, mU, mU, mU]) C (mm_dec dk_X12_track 44 rfl) (by decide) rfl ?_
        exact J77 (((2147483647 - 0) : Int) + 1).toNat ((20 * (h47c.1 66 10)) + (h47c.1 66 9)) ⟨by omega, by omega⟩ 0 ⟨by omega, by omega⟩ r69 ⟨by omega, by omega⟩ 0 ⟨by omega, by omega⟩ (by omega) (by omega) (by omega) (by omega) (by first | rfl | exact w225_4) (by omega) (by omega)
      · skip
        refine mm_fgt 0 ?_
        refine mm_fgt 1 ?_
        refine mm_fgt 2 ?_
        exact J33 h27c i27c f27c (by omega) (by omega) (by omega)
    have J25 : ∀ (w25_0 : (0 ≤ p1 ∧ p1 < h.1 66 23)) (w25_1 : (p2 < 0 ∨ h.1 66 56 < p2)) (w25_2 : h2c.1 66 0 = 0) (w25_3 : h2c.1 66 56 = h.1 66 56) (w25_4 : h2c.1 66 58 = h.1 66 58), mm_W x 0 0 25 [mR 66, mI p1, mI p2, mU, mU, mU, mU, mU, mU, mU] [mR 66] h2c := by
      intro w25_0 w25_1 w25_2 w25_3 w25_4
      refine mm_iconst C (mm_dec dk_X12_track 13 rfl) ⟨by decide, by decide⟩ ?_
      exact J26 0 ⟨by omega, by omega⟩ (by omega) (by omega) (by omega) (by omega) (by omega) (Or.inl rfl)
    refine mm_if_lt (tgt := 25) C (mm_dec dk_X12_track 6 rfl) (by decide) (fun c10 => ?_) (fun c10 => ?_)
    · skip
      exact J25 (by omega) (by omega) (by omega) (by omega) (by omega)
    · skip
      refine mm_iload_n C (mm_dec dk_X12_track 7 rfl) rfl ?_
      refine mm_aload_n C (mm_dec dk_X12_track 8 rfl) rfl ?_
      refine mm_geti C fl_X12_350 (mm_dec dk_X12_track 9 rfl) rfl rfl (Or.inl rfl) ?_
      refine mm_icmp_gt (tgt := 25) C (mm_dec dk_X12_track 10 rfl) (by decide) (fun c18 => ?_) (fun c18 => ?_)
      · skip
        exact J25 (by omega) (by omega) (by omega) (by omega) (by omega)
      · skip
        refine mm_iconst C (mm_dec dk_X12_track 11 rfl) ⟨by decide, by decide⟩ ?_
        refine mm_goto (tgt := 26) C (mm_dec dk_X12_track 12 rfl) (by decide) ?_
        exact J26 1 ⟨by omega, by omega⟩ (by omega) (by omega) (by omega) (by omega) (by omega) (Or.inr (⟨by omega, by omega, rfl⟩))
