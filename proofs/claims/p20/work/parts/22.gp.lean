section
variable {x : mX} {d cs ss : Nat} {cc : ByteArray} {own : String} {nL : Nat} {ret : Option FieldType} {a b pc : Nat} {ls st : List mV} {h : mH} {post : Option mV → mH → Prop} {xp : String → mH → Prop} {mc ms : Nat}
theorem mm_tb8x {i : Int} (C : mm_OK d cs ss cc own nL ret x) (hd : decode cc pc = .ok (.baload, 1)) (h0 : 0 ≤ i) (h1 : i < 90) (kk : mm_W x a b (pc + 1) ls (mI (mm_words.getD i.toNat 0).toInt :: st) h) : mm_W x a b pc ls (mI i :: mR 2000 :: st) h := by
  obtain ⟨p, l, e, R, s, m, args, below, meth, c, G, ad0, A, n0, Q⟩ := x
  intro ad H locs jl h3 h4 h5 h6
  obtain ⟨c1, c2, c3, c4, c5, c6, c7, c8, c9, c10, c11, c12, c13, c14, c15⟩ := C
  have hw := fb_rng (mm_words.getD i.toNat 0)
  have k := kk ad H locs jl h3 h4 h5 (mm_ok_cons hw (mm_ok_tl (mm_ok_tl h6)))
  rw [List.map_cons, show mm_j ad (mI (mm_words.getD i.toNat 0).toInt) = .int (mm_words.getD i.toNat 0) from by show Value.int (Int32.ofInt _) = _; rw [Int32.ofInt_toInt]] at k
  rw [List.map_cons, List.map_cons, mm_jc h3 (show 1000 ≤ 2000 by decide)]
  refine va_tb c1 c2 (c10.2.2.2.2.2.2.1.1 0 (by decide)).2.2.2 h3.2.2.2.1 (i := Int32.ofInt i) (mm_vin h0 (by show i < ((mm_words.length : Nat) : Int); rw [mm_wlen]; omega) (by omega)) (v := .int (mm_words.getD i.toNat 0)) ?_ hd k
  rw [mm_clamp h0 (by omega)]
  rfl
end
theorem mm_cp_o {h : mH} {o o0 o1 : Nat} {n j : Int} (ne : o ≠ o1) : (mm_cp h o0 o1 n).2.1 o j = h.2.1 o j := if_neg (fun q => ne q.1)
theorem mm_cp_in {h : mH} {o0 o1 : Nat} {n j : Int} (j0 : 0 ≤ j) (j1 : j < n) : (mm_cp h o0 o1 n).2.1 o1 j = h.2.1 o0 j := if_pos ⟨rfl, j0, j1⟩
set_option maxRecDepth 100000 in
set_option maxHeartbeats 4000000 in
theorem c_J1_charAt_x (l : Launch) (hl : l.stackTraces = false) (d : Nat) (hd : 2 ≤ d) (h : mH) (p1 : Int) (u0 : 0 ≤ p1) (u1 : p1 < 90) : mm_Met l d yJ1_charAt_3b067 cJ1_charAt_3b067 2 (some .char) [mR 2000, mI p1] h (mm_pi fun r h2 => (0 ≤ r ∧ r ≤ 65535) ∧ r = mm_viand ((mm_words.getD p1.toNat 0).toInt) 255 ∧ h2 = h) mm_nx 0 0 := by
  refine mm_ofW (ls := [mR 2000, mI p1]) hl (by decide) rfl (Nat.le_of_ble_eq_true rfl) ?_
  intro x hxl C T hnm htb
  subst hxl
  have C1 := mm_OK_le (d' := d - 1 + 1) (by omega) C
  refine mm_iload_n C (mm_dec dk_J1_charAt_3b067 0 rfl) rfl ?_
  refine mm_aload_n C (mm_dec dk_J1_charAt_3b067 1 rfl) rfl ?_
  refine mm_tlen C (mm_dec dk_J1_charAt_3b067 2 rfl) ?_
  refine mm_cSv (rest := []) C1 ⟨mw_J0_checkIndex_df160, ms_9, sm_J0_checkIndex_df160⟩ (mm_dec dk_J1_charAt_3b067 3 rfl) (c_J0_checkIndex_df160 x.2.1 hl (d - 1) (by omega) h p1 90 u0 u1) rfl (Nat.le_of_ble_eq_true rfl) ⟨by decide, by decide⟩ rfl (fun h3c hp3 => ?_) (fun _ _ q => q.elim)
  rw [hp3]
  refine mm_aload_n C (mm_dec dk_J1_charAt_3b067 4 rfl) rfl ?_
  refine mm_iload_n C (mm_dec dk_J1_charAt_3b067 5 rfl) rfl ?_
  refine mm_tb8x C (mm_dec dk_J1_charAt_3b067 6 rfl) u0 u1 ?_
  obtain ⟨w, hw⟩ : ∃ w, w = (mm_words.getD p1.toNat 0).toInt := ⟨_, rfl⟩
  rw [← hw]
  refine mm_sipush C (mm_dec dk_J1_charAt_3b067 7 rfl) ⟨by decide, by decide⟩ ?_
  refine mm_iand C (mm_dec dk_J1_charAt_3b067 8 rfl) ?_
  refine mm_i2cA C (mm_dec dk_J1_charAt_3b067 9 rfl) ?_
  refine mm_zretT C T (mm_dec dk_J1_charAt_3b067 10 rfl) (by decide : 0 ≤ 0) (by decide : 0 ≤ 0) ?_ ⟨_, rfl, (by have := mm_and_rg2 (u := w) (v := 255) (by decide) (by decide); omega), by rw [hw], rfl⟩
  rw [show Int32.ofInt (mm_viand w 255) = Int32.ofInt w &&& 255 from by rw [mm_viand, Int32.ofInt_toInt]; rfl]
  exact sc_nar _
set_option maxRecDepth 100000 in
set_option maxHeartbeats 4000000 in
theorem c_J0_charAt_x (l : Launch) (hl : l.stackTraces = false) (d : Nat) (hd : 3 ≤ d) (h : mH) (p1 : Int) (u0 : 0 ≤ p1) (u1 : p1 < 90) : mm_Met l d yJ0_charAt_5068e cJ0_charAt_5068e 2 (some .char) [mR mm_tx, mI p1] h (mm_pi fun r h2 => (0 ≤ r ∧ r ≤ 65535) ∧ r = mm_wl9.getD p1.toNat 0 ∧ h2 = h) mm_nx 0 0 := by
  refine mm_ofW (ls := [mR mm_tx, mI p1]) hl (by decide) rfl (Nat.le_of_ble_eq_true rfl) ?_
  intro x hxl C T hnm htb
  subst hxl
  have C1 := mm_OK_le (d' := d - 1 + 1) (by omega) C
  refine mm_aload_n C (mm_dec dk_J0_charAt_5068e 0 rfl) rfl ?_
  refine mm_cTi (rest := []) C1 mw_J0_isLatin1_aae02 rfl ms_492 im_J0_isLatin1_aae02 se_J0_isLatin1_aae02 (mm_dec dk_J0_charAt_5068e 1 rfl) (c_J0_isLatin1_aae02 x.2.1 hl (d - 1) (by omega) h) rfl (Nat.le_of_ble_eq_true rfl) ⟨by decide, by decide⟩ rfl (fun r1 h1c hp1 => ?_)
  obtain ⟨z1, y1⟩ := hp1
  rw [z1, y1]
  refine mm_if_eq (tgt := 16) C (mm_dec dk_J0_charAt_5068e 2 rfl) (by decide) (fun c4 => ?_) (fun c4 => ?_)
  · exfalso; omega
  · refine mm_aload_n C (mm_dec dk_J0_charAt_5068e 3 rfl) rfl ?_
    refine mm_getV C fs_9 (mm_dec dk_J0_charAt_5068e 4 rfl) ?_
    refine mm_iload_n C (mm_dec dk_J0_charAt_5068e 5 rfl) rfl ?_
    refine mm_cSi (rest := []) C1 ⟨mw_J1_charAt_3b067, ms_495, sm_J1_charAt_3b067⟩ (mm_dec dk_J0_charAt_5068e 6 rfl) (c_J1_charAt_x x.2.1 hl (d - 1) (by omega) h p1 u0 u1) rfl (Nat.le_of_ble_eq_true rfl) ⟨by decide, by decide⟩ rfl (fun r12 h12c hp12 => ?_) (fun _ _ q => q.elim)
    obtain ⟨b12, y12, z12⟩ := hp12
    rw [z12]
    refine mm_zretT C T (mm_dec dk_J0_charAt_5068e 7 rfl) (by decide : 0 ≤ 0) (by decide : 0 ≤ 0) ?_ ⟨_, rfl, b12, y12.trans (mm_wl9_at p1.toNat (by omega)), rfl⟩
    exact mm_nchar b12.1 b12.2


set_option maxRecDepth 100000 in
set_option maxHeartbeats 4000000 in
theorem c_X7_kindOf_q (l : Launch) (hl : l.stackTraces = false) (d : Nat) (hd : 0 ≤ d) (h : mH) (i0 : mm_inv h) (p0 : Int) : mm_Met l d yX7_kindOf cX7_kindOf 1 (some .int) [mI p0] h (mm_pi fun r h2 => (1 ≤ r ∧ r ≤ 4) ∧ h2 = h ∧ r = mm_kd p0) mm_nx 0 0 := by
  refine mm_ofW (ls := [mI p0]) hl (by decide) rfl (Nat.le_of_ble_eq_true rfl) ?_
  intro x hxl C T hnm htb
  subst hxl
  refine mm_rng (fun hr _ => ?_)
  have ap0 : -2147483648 ≤ p0 ∧ p0 < 2147483648 := mm_ok_at hr (i := 0) rfl
  have f0 : mm_fr [] [] h h := mm_fr_rf
  refine mm_iload_n C (mm_dec dk_X7_kindOf 0 rfl) rfl ?_
  refine mm_bipush C (mm_dec dk_X7_kindOf 1 rfl) ⟨by decide, by decide⟩ ?_
  refine mm_icmp_lt (tgt := 14) C (mm_dec dk_X7_kindOf 2 rfl) (by decide) (fun c3 => ?_) (fun c3 => ?_)
  · skip
    refine mm_iload_n C (mm_dec dk_X7_kindOf 8 rfl) rfl ?_
    refine mm_bipush C (mm_dec dk_X7_kindOf 9 rfl) ⟨by decide, by decide⟩ ?_
    refine mm_icmp_lt (tgt := 28) C (mm_dec dk_X7_kindOf 10 rfl) (by decide) (fun c17 => ?_) (fun c17 => ?_)
    · skip
      refine mm_iload_n C (mm_dec dk_X7_kindOf 16 rfl) rfl ?_
      refine mm_table (t0 := 134) [132, 132, 132, 132, 134, 132, 134, 132, 134, 134, 134, 134, 134, 134, 134, 134, 134, 134, 134, 132, 132, 132] C (mm_dec dk_X7_kindOf 17 rfl) (by decide) (by decide) (by decide +kernel) (fun c29 => ?_) (fun k29 hk29 c29 => ?_)
      · skip
        refine mm_iconst C (mm_dec dk_X7_kindOf 20 rfl) ⟨by decide, by decide⟩ ?_
        exact mm_iret C T (mm_dec dk_X7_kindOf 21 rfl) (by decide : 0 ≤ 0) (by decide : 0 ≤ 0) ⟨_, rfl, ⟨⟨by omega, by omega⟩, rfl, by unfold mm_kd; (repeat' split) <;> omega⟩⟩
      · have hq29 : k29 < 22 := hk29
        rcases (by omega : k29 = 0 ∨ k29 = 1 ∨ k29 = 2 ∨ k29 = 3 ∨ k29 = 4 ∨ k29 = 5 ∨ k29 = 6 ∨ k29 = 7 ∨ k29 = 8 ∨ k29 = 9 ∨ k29 = 10 ∨ k29 = 11 ∨ k29 = 12 ∨ k29 = 13 ∨ k29 = 14 ∨ k29 = 15 ∨ k29 = 16 ∨ k29 = 17 ∨ k29 = 18 ∨ k29 = 19 ∨ k29 = 20 ∨ k29 = 21) with rfl | rfl | rfl | rfl | rfl | rfl | rfl | rfl | rfl | rfl | rfl | rfl | rfl | rfl | rfl | rfl | rfl | rfl | rfl | rfl | rfl | rfl
        · show mm_W x 0 0 132 _ _ _
          refine mm_iconst C (mm_dec dk_X7_kindOf 18 rfl) ⟨by decide, by decide⟩ ?_
          exact mm_iret C T (mm_dec dk_X7_kindOf 19 rfl) (by decide : 0 ≤ 0) (by decide : 0 ≤ 0) ⟨_, rfl, ⟨⟨by omega, by omega⟩, rfl, by unfold mm_kd; (repeat' split) <;> omega⟩⟩
        · show mm_W x 0 0 132 _ _ _
          refine mm_iconst C (mm_dec dk_X7_kindOf 18 rfl) ⟨by decide, by decide⟩ ?_
          exact mm_iret C T (mm_dec dk_X7_kindOf 19 rfl) (by decide : 0 ≤ 0) (by decide : 0 ≤ 0) ⟨_, rfl, ⟨⟨by omega, by omega⟩, rfl, by unfold mm_kd; (repeat' split) <;> omega⟩⟩
        · show mm_W x 0 0 132 _ _ _
          refine mm_iconst C (mm_dec dk_X7_kindOf 18 rfl) ⟨by decide, by decide⟩ ?_
          exact mm_iret C T (mm_dec dk_X7_kindOf 19 rfl) (by decide : 0 ≤ 0) (by decide : 0 ≤ 0) ⟨_, rfl, ⟨⟨by omega, by omega⟩, rfl, by unfold mm_kd; (repeat' split) <;> omega⟩⟩
        · show mm_W x 0 0 132 _ _ _
          refine mm_iconst C (mm_dec dk_X7_kindOf 18 rfl) ⟨by decide, by decide⟩ ?_
          exact mm_iret C T (mm_dec dk_X7_kindOf 19 rfl) (by decide : 0 ≤ 0) (by decide : 0 ≤ 0) ⟨_, rfl, ⟨⟨by omega, by omega⟩, rfl, by unfold mm_kd; (repeat' split) <;> omega⟩⟩
        · show mm_W x 0 0 134 _ _ _
          refine mm_iconst C (mm_dec dk_X7_kindOf 20 rfl) ⟨by decide, by decide⟩ ?_
          exact mm_iret C T (mm_dec dk_X7_kindOf 21 rfl) (by decide : 0 ≤ 0) (by decide : 0 ≤ 0) ⟨_, rfl, ⟨⟨by omega, by omega⟩, rfl, by unfold mm_kd; (repeat' split) <;> omega⟩⟩
        · show mm_W x 0 0 132 _ _ _
          refine mm_iconst C (mm_dec dk_X7_kindOf 18 rfl) ⟨by decide, by decide⟩ ?_
          exact mm_iret C T (mm_dec dk_X7_kindOf 19 rfl) (by decide : 0 ≤ 0) (by decide : 0 ≤ 0) ⟨_, rfl, ⟨⟨by omega, by omega⟩, rfl, by unfold mm_kd; (repeat' split) <;> omega⟩⟩
        · show mm_W x 0 0 134 _ _ _
          refine mm_iconst C (mm_dec dk_X7_kindOf 20 rfl) ⟨by decide, by decide⟩ ?_
          exact mm_iret C T (mm_dec dk_X7_kindOf 21 rfl) (by decide : 0 ≤ 0) (by decide : 0 ≤ 0) ⟨_, rfl, ⟨⟨by omega, by omega⟩, rfl, by unfold mm_kd; (repeat' split) <;> omega⟩⟩
        · show mm_W x 0 0 132 _ _ _
          refine mm_iconst C (mm_dec dk_X7_kindOf 18 rfl) ⟨by decide, by decide⟩ ?_
          exact mm_iret C T (mm_dec dk_X7_kindOf 19 rfl) (by decide : 0 ≤ 0) (by decide : 0 ≤ 0) ⟨_, rfl, ⟨⟨by omega, by omega⟩, rfl, by unfold mm_kd; (repeat' split) <;> omega⟩⟩
        · show mm_W x 0 0 134 _ _ _
          refine mm_iconst C (mm_dec dk_X7_kindOf 20 rfl) ⟨by decide, by decide⟩ ?_
          exact mm_iret C T (mm_dec dk_X7_kindOf 21 rfl) (by decide : 0 ≤ 0) (by decide : 0 ≤ 0) ⟨_, rfl, ⟨⟨by omega, by omega⟩, rfl, by unfold mm_kd; (repeat' split) <;> omega⟩⟩
        · show mm_W x 0 0 134 _ _ _
          refine mm_iconst C (mm_dec dk_X7_kindOf 20 rfl) ⟨by decide, by decide⟩ ?_
          exact mm_iret C T (mm_dec dk_X7_kindOf 21 rfl) (by decide : 0 ≤ 0) (by decide : 0 ≤ 0) ⟨_, rfl, ⟨⟨by omega, by omega⟩, rfl, by unfold mm_kd; (repeat' split) <;> omega⟩⟩
        · show mm_W x 0 0 134 _ _ _
          refine mm_iconst C (mm_dec dk_X7_kindOf 20 rfl) ⟨by decide, by decide⟩ ?_
          exact mm_iret C T (mm_dec dk_X7_kindOf 21 rfl) (by decide : 0 ≤ 0) (by decide : 0 ≤ 0) ⟨_, rfl, ⟨⟨by omega, by omega⟩, rfl, by unfold mm_kd; (repeat' split) <;> omega⟩⟩
        · show mm_W x 0 0 134 _ _ _
          refine mm_iconst C (mm_dec dk_X7_kindOf 20 rfl) ⟨by decide, by decide⟩ ?_
          exact mm_iret C T (mm_dec dk_X7_kindOf 21 rfl) (by decide : 0 ≤ 0) (by decide : 0 ≤ 0) ⟨_, rfl, ⟨⟨by omega, by omega⟩, rfl, by unfold mm_kd; (repeat' split) <;> omega⟩⟩
        · show mm_W x 0 0 134 _ _ _
          refine mm_iconst C (mm_dec dk_X7_kindOf 20 rfl) ⟨by decide, by decide⟩ ?_
          exact mm_iret C T (mm_dec dk_X7_kindOf 21 rfl) (by decide : 0 ≤ 0) (by decide : 0 ≤ 0) ⟨_, rfl, ⟨⟨by omega, by omega⟩, rfl, by unfold mm_kd; (repeat' split) <;> omega⟩⟩
        · show mm_W x 0 0 134 _ _ _
          refine mm_iconst C (mm_dec dk_X7_kindOf 20 rfl) ⟨by decide, by decide⟩ ?_
          exact mm_iret C T (mm_dec dk_X7_kindOf 21 rfl) (by decide : 0 ≤ 0) (by decide : 0 ≤ 0) ⟨_, rfl, ⟨⟨by omega, by omega⟩, rfl, by unfold mm_kd; (repeat' split) <;> omega⟩⟩
        · show mm_W x 0 0 134 _ _ _
          refine mm_iconst C (mm_dec dk_X7_kindOf 20 rfl) ⟨by decide, by decide⟩ ?_
          exact mm_iret C T (mm_dec dk_X7_kindOf 21 rfl) (by decide : 0 ≤ 0) (by decide : 0 ≤ 0) ⟨_, rfl, ⟨⟨by omega, by omega⟩, rfl, by unfold mm_kd; (repeat' split) <;> omega⟩⟩
        · show mm_W x 0 0 134 _ _ _
          refine mm_iconst C (mm_dec dk_X7_kindOf 20 rfl) ⟨by decide, by decide⟩ ?_
          exact mm_iret C T (mm_dec dk_X7_kindOf 21 rfl) (by decide : 0 ≤ 0) (by decide : 0 ≤ 0) ⟨_, rfl, ⟨⟨by omega, by omega⟩, rfl, by unfold mm_kd; (repeat' split) <;> omega⟩⟩
        · show mm_W x 0 0 134 _ _ _
          refine mm_iconst C (mm_dec dk_X7_kindOf 20 rfl) ⟨by decide, by decide⟩ ?_
          exact mm_iret C T (mm_dec dk_X7_kindOf 21 rfl) (by decide : 0 ≤ 0) (by decide : 0 ≤ 0) ⟨_, rfl, ⟨⟨by omega, by omega⟩, rfl, by unfold mm_kd; (repeat' split) <;> omega⟩⟩
        · show mm_W x 0 0 134 _ _ _
          refine mm_iconst C (mm_dec dk_X7_kindOf 20 rfl) ⟨by decide, by decide⟩ ?_
          exact mm_iret C T (mm_dec dk_X7_kindOf 21 rfl) (by decide : 0 ≤ 0) (by decide : 0 ≤ 0) ⟨_, rfl, ⟨⟨by omega, by omega⟩, rfl, by unfold mm_kd; (repeat' split) <;> omega⟩⟩
        · show mm_W x 0 0 134 _ _ _
          refine mm_iconst C (mm_dec dk_X7_kindOf 20 rfl) ⟨by decide, by decide⟩ ?_
          exact mm_iret C T (mm_dec dk_X7_kindOf 21 rfl) (by decide : 0 ≤ 0) (by decide : 0 ≤ 0) ⟨_, rfl, ⟨⟨by omega, by omega⟩, rfl, by unfold mm_kd; (repeat' split) <;> omega⟩⟩
        · show mm_W x 0 0 132 _ _ _
          refine mm_iconst C (mm_dec dk_X7_kindOf 18 rfl) ⟨by decide, by decide⟩ ?_
          exact mm_iret C T (mm_dec dk_X7_kindOf 19 rfl) (by decide : 0 ≤ 0) (by decide : 0 ≤ 0) ⟨_, rfl, ⟨⟨by omega, by omega⟩, rfl, by unfold mm_kd; (repeat' split) <;> omega⟩⟩
        · show mm_W x 0 0 132 _ _ _
          refine mm_iconst C (mm_dec dk_X7_kindOf 18 rfl) ⟨by decide, by decide⟩ ?_
          exact mm_iret C T (mm_dec dk_X7_kindOf 19 rfl) (by decide : 0 ≤ 0) (by decide : 0 ≤ 0) ⟨_, rfl, ⟨⟨by omega, by omega⟩, rfl, by unfold mm_kd; (repeat' split) <;> omega⟩⟩
        · show mm_W x 0 0 132 _ _ _
          refine mm_iconst C (mm_dec dk_X7_kindOf 18 rfl) ⟨by decide, by decide⟩ ?_
          exact mm_iret C T (mm_dec dk_X7_kindOf 19 rfl) (by decide : 0 ≤ 0) (by decide : 0 ≤ 0) ⟨_, rfl, ⟨⟨by omega, by omega⟩, rfl, by unfold mm_kd; (repeat' split) <;> omega⟩⟩
    · skip
      refine mm_iload_n C (mm_dec dk_X7_kindOf 11 rfl) rfl ?_
      refine mm_bipush C (mm_dec dk_X7_kindOf 12 rfl) ⟨by decide, by decide⟩ ?_
      refine mm_icmp_gt (tgt := 28) C (mm_dec dk_X7_kindOf 13 rfl) (by decide) (fun c23 => ?_) (fun c23 => ?_)
      · skip
        refine mm_iload_n C (mm_dec dk_X7_kindOf 16 rfl) rfl ?_
        refine mm_table (t0 := 134) [132, 132, 132, 132, 134, 132, 134, 132, 134, 134, 134, 134, 134, 134, 134, 134, 134, 134, 134, 132, 132, 132] C (mm_dec dk_X7_kindOf 17 rfl) (by decide) (by decide) (by decide +kernel) (fun c29 => ?_) (fun k29 hk29 c29 => ?_)
        · skip
          refine mm_iconst C (mm_dec dk_X7_kindOf 20 rfl) ⟨by decide, by decide⟩ ?_
          exact mm_iret C T (mm_dec dk_X7_kindOf 21 rfl) (by decide : 0 ≤ 0) (by decide : 0 ≤ 0) ⟨_, rfl, ⟨⟨by omega, by omega⟩, rfl, by unfold mm_kd; (repeat' split) <;> omega⟩⟩
        · have hq29 : k29 < 22 := hk29
          rcases (by omega : k29 = 0 ∨ k29 = 1 ∨ k29 = 2 ∨ k29 = 3 ∨ k29 = 4 ∨ k29 = 5 ∨ k29 = 6 ∨ k29 = 7 ∨ k29 = 8 ∨ k29 = 9 ∨ k29 = 10 ∨ k29 = 11 ∨ k29 = 12 ∨ k29 = 13 ∨ k29 = 14 ∨ k29 = 15 ∨ k29 = 16 ∨ k29 = 17 ∨ k29 = 18 ∨ k29 = 19 ∨ k29 = 20 ∨ k29 = 21) with rfl | rfl | rfl | rfl | rfl | rfl | rfl | rfl | rfl | rfl | rfl | rfl | rfl | rfl | rfl | rfl | rfl | rfl | rfl | rfl | rfl | rfl
          · show mm_W x 0 0 132 _ _ _
            refine mm_iconst C (mm_dec dk_X7_kindOf 18 rfl) ⟨by decide, by decide⟩ ?_
            exact mm_iret C T (mm_dec dk_X7_kindOf 19 rfl) (by decide : 0 ≤ 0) (by decide : 0 ≤ 0) ⟨_, rfl, ⟨⟨by omega, by omega⟩, rfl, by unfold mm_kd; (repeat' split) <;> omega⟩⟩
          · show mm_W x 0 0 132 _ _ _
            refine mm_iconst C (mm_dec dk_X7_kindOf 18 rfl) ⟨by decide, by decide⟩ ?_
            exact mm_iret C T (mm_dec dk_X7_kindOf 19 rfl) (by decide : 0 ≤ 0) (by decide : 0 ≤ 0) ⟨_, rfl, ⟨⟨by omega, by omega⟩, rfl, by unfold mm_kd; (repeat' split) <;> omega⟩⟩
          · show mm_W x 0 0 132 _ _ _
            refine mm_iconst C (mm_dec dk_X7_kindOf 18 rfl) ⟨by decide, by decide⟩ ?_
            exact mm_iret C T (mm_dec dk_X7_kindOf 19 rfl) (by decide : 0 ≤ 0) (by decide : 0 ≤ 0) ⟨_, rfl, ⟨⟨by omega, by omega⟩, rfl, by unfold mm_kd; (repeat' split) <;> omega⟩⟩
          · show mm_W x 0 0 132 _ _ _
            refine mm_iconst C (mm_dec dk_X7_kindOf 18 rfl) ⟨by decide, by decide⟩ ?_
            exact mm_iret C T (mm_dec dk_X7_kindOf 19 rfl) (by decide : 0 ≤ 0) (by decide : 0 ≤ 0) ⟨_, rfl, ⟨⟨by omega, by omega⟩, rfl, by unfold mm_kd; (repeat' split) <;> omega⟩⟩
          · show mm_W x 0 0 134 _ _ _
            refine mm_iconst C (mm_dec dk_X7_kindOf 20 rfl) ⟨by decide, by decide⟩ ?_
            exact mm_iret C T (mm_dec dk_X7_kindOf 21 rfl) (by decide : 0 ≤ 0) (by decide : 0 ≤ 0) ⟨_, rfl, ⟨⟨by omega, by omega⟩, rfl, by unfold mm_kd; (repeat' split) <;> omega⟩⟩
          · show mm_W x 0 0 132 _ _ _
            refine mm_iconst C (mm_dec dk_X7_kindOf 18 rfl) ⟨by decide, by decide⟩ ?_
            exact mm_iret C T (mm_dec dk_X7_kindOf 19 rfl) (by decide : 0 ≤ 0) (by decide : 0 ≤ 0) ⟨_, rfl, ⟨⟨by omega, by omega⟩, rfl, by unfold mm_kd; (repeat' split) <;> omega⟩⟩
          · show mm_W x 0 0 134 _ _ _
            refine mm_iconst C (mm_dec dk_X7_kindOf 20 rfl) ⟨by decide, by decide⟩ ?_
            exact mm_iret C T (mm_dec dk_X7_kindOf 21 rfl) (by decide : 0 ≤ 0) (by decide : 0 ≤ 0) ⟨_, rfl, ⟨⟨by omega, by omega⟩, rfl, by unfold mm_kd; (repeat' split) <;> omega⟩⟩
          · show mm_W x 0 0 132 _ _ _
            refine mm_iconst C (mm_dec dk_X7_kindOf 18 rfl) ⟨by decide, by decide⟩ ?_
            exact mm_iret C T (mm_dec dk_X7_kindOf 19 rfl) (by decide : 0 ≤ 0) (by decide : 0 ≤ 0) ⟨_, rfl, ⟨⟨by omega, by omega⟩, rfl, by unfold mm_kd; (repeat' split) <;> omega⟩⟩
          · show mm_W x 0 0 134 _ _ _
            refine mm_iconst C (mm_dec dk_X7_kindOf 20 rfl) ⟨by decide, by decide⟩ ?_
            exact mm_iret C T (mm_dec dk_X7_kindOf 21 rfl) (by decide : 0 ≤ 0) (by decide : 0 ≤ 0) ⟨_, rfl, ⟨⟨by omega, by omega⟩, rfl, by unfold mm_kd; (repeat' split) <;> omega⟩⟩
          · show mm_W x 0 0 134 _ _ _
            refine mm_iconst C (mm_dec dk_X7_kindOf 20 rfl) ⟨by decide, by decide⟩ ?_
            exact mm_iret C T (mm_dec dk_X7_kindOf 21 rfl) (by decide : 0 ≤ 0) (by decide : 0 ≤ 0) ⟨_, rfl, ⟨⟨by omega, by omega⟩, rfl, by unfold mm_kd; (repeat' split) <;> omega⟩⟩
          · show mm_W x 0 0 134 _ _ _
            refine mm_iconst C (mm_dec dk_X7_kindOf 20 rfl) ⟨by decide, by decide⟩ ?_
            exact mm_iret C T (mm_dec dk_X7_kindOf 21 rfl) (by decide : 0 ≤ 0) (by decide : 0 ≤ 0) ⟨_, rfl, ⟨⟨by omega, by omega⟩, rfl, by unfold mm_kd; (repeat' split) <;> omega⟩⟩
          · show mm_W x 0 0 134 _ _ _
            refine mm_iconst C (mm_dec dk_X7_kindOf 20 rfl) ⟨by decide, by decide⟩ ?_
            exact mm_iret C T (mm_dec dk_X7_kindOf 21 rfl) (by decide : 0 ≤ 0) (by decide : 0 ≤ 0) ⟨_, rfl, ⟨⟨by omega, by omega⟩, rfl, by unfold mm_kd; (repeat' split) <;> omega⟩⟩
          · show mm_W x 0 0 134 _ _ _
            refine mm_iconst C (mm_dec dk_X7_kindOf 20 rfl) ⟨by decide, by decide⟩ ?_
            exact mm_iret C T (mm_dec dk_X7_kindOf 21 rfl) (by decide : 0 ≤ 0) (by decide : 0 ≤ 0) ⟨_, rfl, ⟨⟨by omega, by omega⟩, rfl, by unfold mm_kd; (repeat' split) <;> omega⟩⟩
          · show mm_W x 0 0 134 _ _ _
            refine mm_iconst C (mm_dec dk_X7_kindOf 20 rfl) ⟨by decide, by decide⟩ ?_
            exact mm_iret C T (mm_dec dk_X7_kindOf 21 rfl) (by decide : 0 ≤ 0) (by decide : 0 ≤ 0) ⟨_, rfl, ⟨⟨by omega, by omega⟩, rfl, by unfold mm_kd; (repeat' split) <;> omega⟩⟩
          · show mm_W x 0 0 134 _ _ _
            refine mm_iconst C (mm_dec dk_X7_kindOf 20 rfl) ⟨by decide, by decide⟩ ?_
            exact mm_iret C T (mm_dec dk_X7_kindOf 21 rfl) (by decide : 0 ≤ 0) (by decide : 0 ≤ 0) ⟨_, rfl, ⟨⟨by omega, by omega⟩, rfl, by unfold mm_kd; (repeat' split) <;> omega⟩⟩
          · show mm_W x 0 0 134 _ _ _
            refine mm_iconst C (mm_dec dk_X7_kindOf 20 rfl) ⟨by decide, by decide⟩ ?_
            exact mm_iret C T (mm_dec dk_X7_kindOf 21 rfl) (by decide : 0 ≤ 0) (by decide : 0 ≤ 0) ⟨_, rfl, ⟨⟨by omega, by omega⟩, rfl, by unfold mm_kd; (repeat' split) <;> omega⟩⟩
          · show mm_W x 0 0 134 _ _ _
            refine mm_iconst C (mm_dec dk_X7_kindOf 20 rfl) ⟨by decide, by decide⟩ ?_
            exact mm_iret C T (mm_dec dk_X7_kindOf 21 rfl) (by decide : 0 ≤ 0) (by decide : 0 ≤ 0) ⟨_, rfl, ⟨⟨by omega, by omega⟩, rfl, by unfold mm_kd; (repeat' split) <;> omega⟩⟩
          · show mm_W x 0 0 134 _ _ _
            refine mm_iconst C (mm_dec dk_X7_kindOf 20 rfl) ⟨by decide, by decide⟩ ?_
            exact mm_iret C T (mm_dec dk_X7_kindOf 21 rfl) (by decide : 0 ≤ 0) (by decide : 0 ≤ 0) ⟨_, rfl, ⟨⟨by omega, by omega⟩, rfl, by unfold mm_kd; (repeat' split) <;> omega⟩⟩
          · show mm_W x 0 0 134 _ _ _
            refine mm_iconst C (mm_dec dk_X7_kindOf 20 rfl) ⟨by decide, by decide⟩ ?_
            exact mm_iret C T (mm_dec dk_X7_kindOf 21 rfl) (by decide : 0 ≤ 0) (by decide : 0 ≤ 0) ⟨_, rfl, ⟨⟨by omega, by omega⟩, rfl, by unfold mm_kd; (repeat' split) <;> omega⟩⟩
          · show mm_W x 0 0 132 _ _ _
            refine mm_iconst C (mm_dec dk_X7_kindOf 18 rfl) ⟨by decide, by decide⟩ ?_
            exact mm_iret C T (mm_dec dk_X7_kindOf 19 rfl) (by decide : 0 ≤ 0) (by decide : 0 ≤ 0) ⟨_, rfl, ⟨⟨by omega, by omega⟩, rfl, by unfold mm_kd; (repeat' split) <;> omega⟩⟩
          · show mm_W x 0 0 132 _ _ _
            refine mm_iconst C (mm_dec dk_X7_kindOf 18 rfl) ⟨by decide, by decide⟩ ?_
            exact mm_iret C T (mm_dec dk_X7_kindOf 19 rfl) (by decide : 0 ≤ 0) (by decide : 0 ≤ 0) ⟨_, rfl, ⟨⟨by omega, by omega⟩, rfl, by unfold mm_kd; (repeat' split) <;> omega⟩⟩
          · show mm_W x 0 0 132 _ _ _
            refine mm_iconst C (mm_dec dk_X7_kindOf 18 rfl) ⟨by decide, by decide⟩ ?_
            exact mm_iret C T (mm_dec dk_X7_kindOf 19 rfl) (by decide : 0 ≤ 0) (by decide : 0 ≤ 0) ⟨_, rfl, ⟨⟨by omega, by omega⟩, rfl, by unfold mm_kd; (repeat' split) <;> omega⟩⟩
      · skip
        refine mm_iconst C (mm_dec dk_X7_kindOf 14 rfl) ⟨by decide, by decide⟩ ?_
        exact mm_iret C T (mm_dec dk_X7_kindOf 15 rfl) (by decide : 0 ≤ 0) (by decide : 0 ≤ 0) ⟨_, rfl, ⟨⟨by omega, by omega⟩, rfl, by unfold mm_kd; (repeat' split) <;> omega⟩⟩
  · skip
    refine mm_iload_n C (mm_dec dk_X7_kindOf 3 rfl) rfl ?_
    refine mm_bipush C (mm_dec dk_X7_kindOf 4 rfl) ⟨by decide, by decide⟩ ?_
    refine mm_icmp_gt (tgt := 14) C (mm_dec dk_X7_kindOf 5 rfl) (by decide) (fun c9 => ?_) (fun c9 => ?_)
    · skip
      refine mm_iload_n C (mm_dec dk_X7_kindOf 8 rfl) rfl ?_
      refine mm_bipush C (mm_dec dk_X7_kindOf 9 rfl) ⟨by decide, by decide⟩ ?_
      refine mm_icmp_lt (tgt := 28) C (mm_dec dk_X7_kindOf 10 rfl) (by decide) (fun c17 => ?_) (fun c17 => ?_)
      · skip
        exfalso; omega
      · skip
        refine mm_iload_n C (mm_dec dk_X7_kindOf 11 rfl) rfl ?_
        refine mm_bipush C (mm_dec dk_X7_kindOf 12 rfl) ⟨by decide, by decide⟩ ?_
        refine mm_icmp_gt (tgt := 28) C (mm_dec dk_X7_kindOf 13 rfl) (by decide) (fun c23 => ?_) (fun c23 => ?_)
        · skip
          refine mm_iload_n C (mm_dec dk_X7_kindOf 16 rfl) rfl ?_
          refine mm_table (t0 := 134) [132, 132, 132, 132, 134, 132, 134, 132, 134, 134, 134, 134, 134, 134, 134, 134, 134, 134, 134, 132, 132, 132] C (mm_dec dk_X7_kindOf 17 rfl) (by decide) (by decide) (by decide +kernel) (fun c29 => ?_) (fun k29 hk29 c29 => ?_)
          · skip
            refine mm_iconst C (mm_dec dk_X7_kindOf 20 rfl) ⟨by decide, by decide⟩ ?_
            exact mm_iret C T (mm_dec dk_X7_kindOf 21 rfl) (by decide : 0 ≤ 0) (by decide : 0 ≤ 0) ⟨_, rfl, ⟨⟨by omega, by omega⟩, rfl, by unfold mm_kd; (repeat' split) <;> omega⟩⟩
          · have hq29 : k29 < 22 := hk29
            rcases (by omega : k29 = 0 ∨ k29 = 1 ∨ k29 = 2 ∨ k29 = 3 ∨ k29 = 4 ∨ k29 = 5 ∨ k29 = 6 ∨ k29 = 7 ∨ k29 = 8 ∨ k29 = 9 ∨ k29 = 10 ∨ k29 = 11 ∨ k29 = 12 ∨ k29 = 13 ∨ k29 = 14 ∨ k29 = 15 ∨ k29 = 16 ∨ k29 = 17 ∨ k29 = 18 ∨ k29 = 19 ∨ k29 = 20 ∨ k29 = 21) with rfl | rfl | rfl | rfl | rfl | rfl | rfl | rfl | rfl | rfl | rfl | rfl | rfl | rfl | rfl | rfl | rfl | rfl | rfl | rfl | rfl | rfl
            · show mm_W x 0 0 132 _ _ _
              refine mm_iconst C (mm_dec dk_X7_kindOf 18 rfl) ⟨by decide, by decide⟩ ?_
              exact mm_iret C T (mm_dec dk_X7_kindOf 19 rfl) (by decide : 0 ≤ 0) (by decide : 0 ≤ 0) ⟨_, rfl, ⟨⟨by omega, by omega⟩, rfl, by unfold mm_kd; (repeat' split) <;> omega⟩⟩
            · show mm_W x 0 0 132 _ _ _
              refine mm_iconst C (mm_dec dk_X7_kindOf 18 rfl) ⟨by decide, by decide⟩ ?_
              exact mm_iret C T (mm_dec dk_X7_kindOf 19 rfl) (by decide : 0 ≤ 0) (by decide : 0 ≤ 0) ⟨_, rfl, ⟨⟨by omega, by omega⟩, rfl, by unfold mm_kd; (repeat' split) <;> omega⟩⟩
            · show mm_W x 0 0 132 _ _ _
              refine mm_iconst C (mm_dec dk_X7_kindOf 18 rfl) ⟨by decide, by decide⟩ ?_
              exact mm_iret C T (mm_dec dk_X7_kindOf 19 rfl) (by decide : 0 ≤ 0) (by decide : 0 ≤ 0) ⟨_, rfl, ⟨⟨by omega, by omega⟩, rfl, by unfold mm_kd; (repeat' split) <;> omega⟩⟩
            · show mm_W x 0 0 132 _ _ _
              refine mm_iconst C (mm_dec dk_X7_kindOf 18 rfl) ⟨by decide, by decide⟩ ?_
              exact mm_iret C T (mm_dec dk_X7_kindOf 19 rfl) (by decide : 0 ≤ 0) (by decide : 0 ≤ 0) ⟨_, rfl, ⟨⟨by omega, by omega⟩, rfl, by unfold mm_kd; (repeat' split) <;> omega⟩⟩
            · show mm_W x 0 0 134 _ _ _
              refine mm_iconst C (mm_dec dk_X7_kindOf 20 rfl) ⟨by decide, by decide⟩ ?_
              exact mm_iret C T (mm_dec dk_X7_kindOf 21 rfl) (by decide : 0 ≤ 0) (by decide : 0 ≤ 0) ⟨_, rfl, ⟨⟨by omega, by omega⟩, rfl, by unfold mm_kd; (repeat' split) <;> omega⟩⟩
            · show mm_W x 0 0 132 _ _ _
              refine mm_iconst C (mm_dec dk_X7_kindOf 18 rfl) ⟨by decide, by decide⟩ ?_
              exact mm_iret C T (mm_dec dk_X7_kindOf 19 rfl) (by decide : 0 ≤ 0) (by decide : 0 ≤ 0) ⟨_, rfl, ⟨⟨by omega, by omega⟩, rfl, by unfold mm_kd; (repeat' split) <;> omega⟩⟩
            · show mm_W x 0 0 134 _ _ _
              refine mm_iconst C (mm_dec dk_X7_kindOf 20 rfl) ⟨by decide, by decide⟩ ?_
              exact mm_iret C T (mm_dec dk_X7_kindOf 21 rfl) (by decide : 0 ≤ 0) (by decide : 0 ≤ 0) ⟨_, rfl, ⟨⟨by omega, by omega⟩, rfl, by unfold mm_kd; (repeat' split) <;> omega⟩⟩
            · show mm_W x 0 0 132 _ _ _
              refine mm_iconst C (mm_dec dk_X7_kindOf 18 rfl) ⟨by decide, by decide⟩ ?_
              exact mm_iret C T (mm_dec dk_X7_kindOf 19 rfl) (by decide : 0 ≤ 0) (by decide : 0 ≤ 0) ⟨_, rfl, ⟨⟨by omega, by omega⟩, rfl, by unfold mm_kd; (repeat' split) <;> omega⟩⟩
            · show mm_W x 0 0 134 _ _ _
              refine mm_iconst C (mm_dec dk_X7_kindOf 20 rfl) ⟨by decide, by decide⟩ ?_
              exact mm_iret C T (mm_dec dk_X7_kindOf 21 rfl) (by decide : 0 ≤ 0) (by decide : 0 ≤ 0) ⟨_, rfl, ⟨⟨by omega, by omega⟩, rfl, by unfold mm_kd; (repeat' split) <;> omega⟩⟩
            · show mm_W x 0 0 134 _ _ _
              refine mm_iconst C (mm_dec dk_X7_kindOf 20 rfl) ⟨by decide, by decide⟩ ?_
              exact mm_iret C T (mm_dec dk_X7_kindOf 21 rfl) (by decide : 0 ≤ 0) (by decide : 0 ≤ 0) ⟨_, rfl, ⟨⟨by omega, by omega⟩, rfl, by unfold mm_kd; (repeat' split) <;> omega⟩⟩
            · show mm_W x 0 0 134 _ _ _
              refine mm_iconst C (mm_dec dk_X7_kindOf 20 rfl) ⟨by decide, by decide⟩ ?_
              exact mm_iret C T (mm_dec dk_X7_kindOf 21 rfl) (by decide : 0 ≤ 0) (by decide : 0 ≤ 0) ⟨_, rfl, ⟨⟨by omega, by omega⟩, rfl, by unfold mm_kd; (repeat' split) <;> omega⟩⟩
            · show mm_W x 0 0 134 _ _ _
              refine mm_iconst C (mm_dec dk_X7_kindOf 20 rfl) ⟨by decide, by decide⟩ ?_
              exact mm_iret C T (mm_dec dk_X7_kindOf 21 rfl) (by decide : 0 ≤ 0) (by decide : 0 ≤ 0) ⟨_, rfl, ⟨⟨by omega, by omega⟩, rfl, by unfold mm_kd; (repeat' split) <;> omega⟩⟩
            · show mm_W x 0 0 134 _ _ _
              refine mm_iconst C (mm_dec dk_X7_kindOf 20 rfl) ⟨by decide, by decide⟩ ?_
              exact mm_iret C T (mm_dec dk_X7_kindOf 21 rfl) (by decide : 0 ≤ 0) (by decide : 0 ≤ 0) ⟨_, rfl, ⟨⟨by omega, by omega⟩, rfl, by unfold mm_kd; (repeat' split) <;> omega⟩⟩
            · show mm_W x 0 0 134 _ _ _
              refine mm_iconst C (mm_dec dk_X7_kindOf 20 rfl) ⟨by decide, by decide⟩ ?_
              exact mm_iret C T (mm_dec dk_X7_kindOf 21 rfl) (by decide : 0 ≤ 0) (by decide : 0 ≤ 0) ⟨_, rfl, ⟨⟨by omega, by omega⟩, rfl, by unfold mm_kd; (repeat' split) <;> omega⟩⟩
            · show mm_W x 0 0 134 _ _ _
              refine mm_iconst C (mm_dec dk_X7_kindOf 20 rfl) ⟨by decide, by decide⟩ ?_
              exact mm_iret C T (mm_dec dk_X7_kindOf 21 rfl) (by decide : 0 ≤ 0) (by decide : 0 ≤ 0) ⟨_, rfl, ⟨⟨by omega, by omega⟩, rfl, by unfold mm_kd; (repeat' split) <;> omega⟩⟩
            · show mm_W x 0 0 134 _ _ _
              refine mm_iconst C (mm_dec dk_X7_kindOf 20 rfl) ⟨by decide, by decide⟩ ?_
              exact mm_iret C T (mm_dec dk_X7_kindOf 21 rfl) (by decide : 0 ≤ 0) (by decide : 0 ≤ 0) ⟨_, rfl, ⟨⟨by omega, by omega⟩, rfl, by unfold mm_kd; (repeat' split) <;> omega⟩⟩
            · show mm_W x 0 0 134 _ _ _
              refine mm_iconst C (mm_dec dk_X7_kindOf 20 rfl) ⟨by decide, by decide⟩ ?_
              exact mm_iret C T (mm_dec dk_X7_kindOf 21 rfl) (by decide : 0 ≤ 0) (by decide : 0 ≤ 0) ⟨_, rfl, ⟨⟨by omega, by omega⟩, rfl, by unfold mm_kd; (repeat' split) <;> omega⟩⟩
            · show mm_W x 0 0 134 _ _ _
              refine mm_iconst C (mm_dec dk_X7_kindOf 20 rfl) ⟨by decide, by decide⟩ ?_
              exact mm_iret C T (mm_dec dk_X7_kindOf 21 rfl) (by decide : 0 ≤ 0) (by decide : 0 ≤ 0) ⟨_, rfl, ⟨⟨by omega, by omega⟩, rfl, by unfold mm_kd; (repeat' split) <;> omega⟩⟩
            · show mm_W x 0 0 134 _ _ _
              refine mm_iconst C (mm_dec dk_X7_kindOf 20 rfl) ⟨by decide, by decide⟩ ?_
              exact mm_iret C T (mm_dec dk_X7_kindOf 21 rfl) (by decide : 0 ≤ 0) (by decide : 0 ≤ 0) ⟨_, rfl, ⟨⟨by omega, by omega⟩, rfl, by unfold mm_kd; (repeat' split) <;> omega⟩⟩
            · show mm_W x 0 0 132 _ _ _
              refine mm_iconst C (mm_dec dk_X7_kindOf 18 rfl) ⟨by decide, by decide⟩ ?_
              exact mm_iret C T (mm_dec dk_X7_kindOf 19 rfl) (by decide : 0 ≤ 0) (by decide : 0 ≤ 0) ⟨_, rfl, ⟨⟨by omega, by omega⟩, rfl, by unfold mm_kd; (repeat' split) <;> omega⟩⟩
            · show mm_W x 0 0 132 _ _ _
              refine mm_iconst C (mm_dec dk_X7_kindOf 18 rfl) ⟨by decide, by decide⟩ ?_
              exact mm_iret C T (mm_dec dk_X7_kindOf 19 rfl) (by decide : 0 ≤ 0) (by decide : 0 ≤ 0) ⟨_, rfl, ⟨⟨by omega, by omega⟩, rfl, by unfold mm_kd; (repeat' split) <;> omega⟩⟩
            · show mm_W x 0 0 132 _ _ _
              refine mm_iconst C (mm_dec dk_X7_kindOf 18 rfl) ⟨by decide, by decide⟩ ?_
              exact mm_iret C T (mm_dec dk_X7_kindOf 19 rfl) (by decide : 0 ≤ 0) (by decide : 0 ≤ 0) ⟨_, rfl, ⟨⟨by omega, by omega⟩, rfl, by unfold mm_kd; (repeat' split) <;> omega⟩⟩
        · skip
          exfalso; omega
    · skip
      refine mm_iconst C (mm_dec dk_X7_kindOf 6 rfl) ⟨by decide, by decide⟩ ?_
      exact mm_iret C T (mm_dec dk_X7_kindOf 7 rfl) (by decide : 0 ≤ 0) (by decide : 0 ≤ 0) ⟨_, rfl, ⟨⟨by omega, by omega⟩, rfl, by unfold mm_kd; (repeat' split) <;> omega⟩⟩
set_option maxRecDepth 100000 in
set_option maxHeartbeats 4000000 in
theorem c_X7_wordOfToken_q (l : Launch) (hl : l.stackTraces = false) (d : Nat) (hd : 4 ≤ d) (h : mH) (i0 : mm_inv h) (t0 : h.1 63 8 ≤ h.1 63 3) : mm_Met l d yX7_wordOfToken cX7_wordOfToken 6 (some .int) [mR 63] h (mm_pi fun r h2 => (-1 ≤ r ∧ r ≤ 90) ∧ h2 = h ∧ r = mm_wf (mm_UX h) (h.1 63 7) (h.1 63 8) mm_wl9 0 (h.1 63 7) 1) mm_nx 0 0 := by
  refine mm_ofW (ls := [mR 63, mU, mU, mU, mU, mU]) hl (by decide) rfl (Nat.le_of_ble_eq_true rfl) ?_
  intro x hxl C T hnm htb
  subst hxl
  have C1 := mm_OK_le (d' := d - 1 + 1) (by omega) C
  have f0 : mm_fr [] [] h h := mm_fr_rf
  have g1 : 0 ≤ h.1 63 7 ∧ h.1 63 7 ≤ 500 := i0.1 63 7
  have g2 : 0 ≤ h.1 63 8 ∧ h.1 63 8 ≤ 500 := i0.1 63 8
  have g3 : 0 ≤ h.1 63 3 ∧ h.1 63 3 ≤ 500 := i0.1 63 3
  refine mm_iconst C (mm_dec dk_X7_wordOfToken 0 rfl) ⟨by decide, by decide⟩ ?_
  refine mm_istore_nL (ls2 := [mR 63, mI 0, mU, mU, mU, mU]) C (mm_dec dk_X7_wordOfToken 1 rfl) (by decide) rfl ?_
  refine mm_aload_n C (mm_dec dk_X7_wordOfToken 2 rfl) rfl ?_
  refine mm_geti C fl_X7_31 (mm_dec dk_X7_wordOfToken 3 rfl) rfl rfl (Or.inl rfl) ?_
  refine mm_istore_nL (ls2 := [mR 63, mI 0, mI (h.1 63 7), mU, mU, mU]) C (mm_dec dk_X7_wordOfToken 4 rfl) (by decide) rfl ?_
  refine mm_iconst C (mm_dec dk_X7_wordOfToken 5 rfl) ⟨by decide, by decide⟩ ?_
  refine mm_istore_nL (ls2 := [mR 63, mI 0, mI (h.1 63 7), mI 1, mU, mU]) C (mm_dec dk_X7_wordOfToken 6 rfl) (by decide) rfl ?_
  refine mm_iconst C (mm_dec dk_X7_wordOfToken 7 rfl) ⟨by decide, by decide⟩ ?_
  have J12 : ∀ (n : Nat) (x12_1 : Int) (bx12_1 : 0 ≤ x12_1 ∧ x12_1 ≤ 90) (x12_2 : Int) (bx12_2 : 0 ≤ x12_2 ∧ x12_2 ≤ 600) (x12_3 : Int) (bx12_3 : 0 ≤ x12_3 ∧ x12_3 ≤ 1) (x12_4 : Int) (bx12_4 : 0 ≤ x12_4 ∧ x12_4 ≤ 90) (w12_0 : x12_2 ≤ 500 + x12_4) (w12_1 : x12_1 ≤ x12_4) (w12_2 : mm_wf (mm_UX h) (h.1 63 7) (h.1 63 8) (mm_wl9.drop (x12_4).toNat) x12_1 x12_2 x12_3 = mm_wf (mm_UX h) (h.1 63 7) (h.1 63 8) mm_wl9 0 (h.1 63 7) 1) (w12_3 : h.1 63 7 ≤ x12_2), (90 - x12_4 : Int) < n → mm_W x 0 0 12 [mR 63, mI x12_1, mI x12_2, mI x12_3, mI x12_4, mU] [] h := by
    intro n
    induction n with
    | zero =>
      intro x12_1 bx12_1 x12_2 bx12_2 x12_3 bx12_3 x12_4 bx12_4 w12_0 w12_1 w12_2 w12_3 hm
      have g4 : 0 ≤ h.1 63 7 ∧ h.1 63 7 ≤ 500 := i0.1 63 7
      have g5 : 0 ≤ h.1 63 8 ∧ h.1 63 8 ≤ 500 := i0.1 63 8
      have g6 : 0 ≤ h.1 63 3 ∧ h.1 63 3 ≤ 500 := i0.1 63 3
      exfalso; omega
    | succ n ih12 =>
      intro x12_1 bx12_1 x12_2 bx12_2 x12_3 bx12_3 x12_4 bx12_4 w12_0 w12_1 w12_2 w12_3 hm12
      have g7 : 0 ≤ h.1 63 7 ∧ h.1 63 7 ≤ 500 := i0.1 63 7
      have g8 : 0 ≤ h.1 63 8 ∧ h.1 63 8 ≤ 500 := i0.1 63 8
      have g9 : 0 ≤ h.1 63 3 ∧ h.1 63 3 ≤ 500 := i0.1 63 3
      refine mm_iload C (mm_dec dk_X7_wordOfToken 9 rfl) rfl ?_
      refine mm_ldcS (i := 15) C rfl (mm_dec dk_X7_wordOfToken 10 rfl) ?_
      refine mm_cTi (rest := [mI x12_4]) C1 mw_J0_length_8abf5 rfl ml_X7_140 im_J0_length_8abf5 se_J0_length_8abf5 (mm_dec dk_X7_wordOfToken 11 rfl) (c_J0_length_8abf5 x.2.1 hl (d - 1) (by omega) h) rfl (Nat.le_of_ble_eq_true rfl) ⟨by decide, by decide⟩ rfl (fun r16 h16c hp16 => ?_)
      obtain ⟨z16, y16⟩ := hp16
      rw [z16, y16]
      refine mm_icmp_ge (tgt := 103) C (mm_dec dk_X7_wordOfToken 12 rfl) (by decide) (fun c19 => ?_) (fun c19 => ?_)
      · skip
        refine mm_iconst C (mm_dec dk_X7_wordOfToken 54 rfl) ⟨by decide, by decide⟩ ?_
        exact mm_iret C T (mm_dec dk_X7_wordOfToken 55 rfl) (by decide : 0 ≤ 0) (by decide : 0 ≤ 0) ⟨_, rfl, ⟨⟨by omega, by omega⟩, rfl, by first | exact mm_wf_hit zc w12_2 (by omega) (by omega) (by omega) | exact mm_wf_out w12_2 (by omega)⟩⟩
      · skip
        refine mm_ldcS (i := 15) C rfl (mm_dec dk_X7_wordOfToken 13 rfl) ?_
        refine mm_iload C (mm_dec dk_X7_wordOfToken 14 rfl) rfl ?_
        refine mm_cTi (rest := []) C1 mw_J0_charAt_5068e rfl ml_X7_145 im_J0_charAt_5068e se_J0_charAt_5068e (mm_dec dk_X7_wordOfToken 15 rfl) (c_J0_charAt_x x.2.1 hl (d - 1) (by omega) h x12_4 (by omega) (by omega)) rfl (Nat.le_of_ble_eq_true rfl) ⟨by decide, by decide⟩ rfl (fun r26 h26c hp26 => ?_)
        obtain ⟨b26, y26, z26⟩ := hp26
        rw [z26]
        have zc := mm_wf_at (c := r26) (i := x12_4) ⟨by omega, by omega⟩ y26
        have zu : x12_2 < h.1 63 8 → mm_UX h x12_2 = h.2.1 62 x12_2 := fun q => mm_tr_in (by omega) (by omega)
        refine mm_istoreL (ls2 := [mR 63, mI x12_1, mI x12_2, mI x12_3, mI x12_4, mI r26]) C (mm_dec dk_X7_wordOfToken 16 rfl) (by decide) rfl ?_
        refine mm_iload C (mm_dec dk_X7_wordOfToken 17 rfl) rfl ?_
        refine mm_bipush C (mm_dec dk_X7_wordOfToken 18 rfl) ⟨by decide, by decide⟩ ?_
        have J97 : ∀ (x97_1 : Int) (bx97_1 : 0 ≤ x97_1 ∧ x97_1 ≤ 91) (x97_2 : Int) (bx97_2 : 0 ≤ x97_2 ∧ x97_2 ≤ 601) (x97_3 : Int) (bx97_3 : 0 ≤ x97_3 ∧ x97_3 ≤ 1) (w97_0 : x97_2 ≤ 501 + x12_4) (w97_1 : x97_1 ≤ x12_4 + 1) (w97_2 : mm_wf (mm_UX h) (h.1 63 7) (h.1 63 8) (mm_wl9.drop (x12_4 + 1).toNat) x97_1 x97_2 x97_3 = mm_wf (mm_UX h) (h.1 63 7) (h.1 63 8) mm_wl9 0 (h.1 63 7) 1) (w97_3 : h.1 63 7 ≤ x97_2), mm_W x 0 0 97 [mR 63, mI x97_1, mI x97_2, mI x97_3, mI x12_4, mU] [] h := by
          intro x97_1 bx97_1 x97_2 bx97_2 x97_3 bx97_3 w97_0 w97_1 w97_2 w97_3
          have g10 : 0 ≤ h.1 63 7 ∧ h.1 63 7 ≤ 500 := i0.1 63 7
          have g11 : 0 ≤ h.1 63 8 ∧ h.1 63 8 ≤ 500 := i0.1 63 8
          have g12 : 0 ≤ h.1 63 3 ∧ h.1 63 3 ≤ 500 := i0.1 63 3
          refine mm_iincL (ls2 := [mR 63, mI x97_1, mI x97_2, mI x97_3, mI (x12_4 + 1), mU]) C (mm_dec dk_X7_wordOfToken 52 rfl) rfl (by decide) ⟨by omega, by omega⟩ rfl ?_
          refine mm_goto (tgt := 12) C (mm_dec dk_X7_wordOfToken 53 rfl) (by decide) ?_
          exact ih12 x97_1 ⟨by omega, by omega⟩ x97_2 ⟨by omega, by omega⟩ x97_3 ⟨by omega, by omega⟩ (x12_4 + 1) ⟨by omega, by omega⟩ (by omega) (by omega) (by first | rfl | exact w97_2) (by omega) (by omega)
        refine mm_icmp_eq (tgt := 73) C (mm_dec dk_X7_wordOfToken 19 rfl) (by decide) (fun c35 => ?_) (fun c35 => ?_)
        · skip
          refine mm_iload_n C (mm_dec dk_X7_wordOfToken 38 rfl) rfl ?_
          have J87 : ∀ (w87_0 : (x12_3 ≠ 1 ∨ x12_2 ≠ h.1 63 8)), mm_W x 0 0 87 [mR 63, mI x12_1, mU, mU, mI x12_4, mU] [] h := by
            intro w87_0
            have g13 : 0 ≤ h.1 63 7 ∧ h.1 63 7 ≤ 500 := i0.1 63 7
            have g14 : 0 ≤ h.1 63 8 ∧ h.1 63 8 ≤ 500 := i0.1 63 8
            have g15 : 0 ≤ h.1 63 3 ∧ h.1 63 3 ≤ 500 := i0.1 63 3
            refine mm_iincL (ls2 := [mR 63, mI (x12_1 + 1), mU, mU, mI x12_4, mU]) C (mm_dec dk_X7_wordOfToken 46 rfl) rfl (by decide) ⟨by omega, by omega⟩ rfl ?_
            refine mm_aload_n C (mm_dec dk_X7_wordOfToken 47 rfl) rfl ?_
            refine mm_geti C fl_X7_31 (mm_dec dk_X7_wordOfToken 48 rfl) rfl rfl (Or.inl rfl) ?_
            refine mm_istore_nL (ls2 := [mR 63, mI (x12_1 + 1), mI (h.1 63 7), mU, mI x12_4, mU]) C (mm_dec dk_X7_wordOfToken 49 rfl) (by decide) rfl ?_
            refine mm_iconst C (mm_dec dk_X7_wordOfToken 50 rfl) ⟨by decide, by decide⟩ ?_
            refine mm_istore_nL (ls2 := [mR 63, mI (x12_1 + 1), mI (h.1 63 7), mI 1, mI x12_4, mU]) C (mm_dec dk_X7_wordOfToken 51 rfl) (by decide) rfl ?_
            exact J97 (x12_1 + 1) ⟨by omega, by omega⟩ (h.1 63 7) ⟨by omega, by omega⟩ 1 ⟨by omega, by omega⟩ (by omega) (by omega) (by first | exact mm_wf_sp zc w12_2 (by omega) (by omega) | exact mm_wf_ch zc w12_2 (by omega) w66_0) (by omega)
          refine mm_if_eq (tgt := 87) C (mm_dec dk_X7_wordOfToken 39 rfl) (by decide) (fun c74 => ?_) (fun c74 => ?_)
          · skip
            refine mm_fgt 2 ?_
            refine mm_fgt 3 ?_
            refine mm_fgt 5 ?_
            exact J87 (by omega)
          · skip
            refine mm_iload_n C (mm_dec dk_X7_wordOfToken 40 rfl) rfl ?_
            refine mm_aload_n C (mm_dec dk_X7_wordOfToken 41 rfl) rfl ?_
            refine mm_geti C fl_X7_34 (mm_dec dk_X7_wordOfToken 42 rfl) rfl rfl (Or.inl rfl) ?_
            refine mm_icmp_ne (tgt := 87) C (mm_dec dk_X7_wordOfToken 43 rfl) (by decide) (fun c82 => ?_) (fun c82 => ?_)
            · skip
              refine mm_fgt 2 ?_
              refine mm_fgt 3 ?_
              refine mm_fgt 5 ?_
              exact J87 (by omega)
            · skip
              refine mm_iload_n C (mm_dec dk_X7_wordOfToken 44 rfl) rfl ?_
              exact mm_iret C T (mm_dec dk_X7_wordOfToken 45 rfl) (by decide : 0 ≤ 0) (by decide : 0 ≤ 0) ⟨_, rfl, ⟨⟨by omega, by omega⟩, rfl, by first | exact mm_wf_hit zc w12_2 (by omega) (by omega) (by omega) | exact mm_wf_out w12_2 (by omega)⟩⟩
        · skip
          refine mm_iload_n C (mm_dec dk_X7_wordOfToken 20 rfl) rfl ?_
          have J66 : ∀ (s66_0 : Int) (bs66_0 : 0 ≤ s66_0 ∧ s66_0 ≤ 1) (w66_0 : s66_0 = (if x12_3 = 1 ∧ x12_2 < h.1 63 8 ∧ mm_UX h x12_2 = r26 then 1 else 0)) (vs66_0 : (s66_0 = 0) ∨ (x12_3 ≠ 0 ∧ x12_2 < (h.1 63 8) ∧ (h.2.1 62 x12_2) = r26 ∧ s66_0 = 1)), mm_W x 0 0 66 [mR 63, mI x12_1, mI x12_2, mU, mI x12_4, mU] [mI s66_0] h := by
            intro s66_0 bs66_0 w66_0 vs66_0
            have g16 : 0 ≤ h.1 63 7 ∧ h.1 63 7 ≤ 500 := i0.1 63 7
            have g17 : 0 ≤ h.1 63 8 ∧ h.1 63 8 ≤ 500 := i0.1 63 8
            have g18 : 0 ≤ h.1 63 3 ∧ h.1 63 3 ≤ 500 := i0.1 63 3
            refine mm_istore_nL (ls2 := [mR 63, mI x12_1, mI x12_2, mI s66_0, mI x12_4, mU]) C (mm_dec dk_X7_wordOfToken 35 rfl) (by decide) rfl ?_
            refine mm_iincL (ls2 := [mR 63, mI x12_1, mI (x12_2 + 1), mI s66_0, mI x12_4, mU]) C (mm_dec dk_X7_wordOfToken 36 rfl) rfl (by decide) ⟨by omega, by omega⟩ rfl ?_
            refine mm_goto (tgt := 97) C (mm_dec dk_X7_wordOfToken 37 rfl) (by decide) ?_
            exact J97 x12_1 ⟨by omega, by omega⟩ (x12_2 + 1) ⟨by omega, by omega⟩ s66_0 ⟨by omega, by omega⟩ (by omega) (by omega) (by first | exact mm_wf_sp zc w12_2 (by omega) (by omega) | exact mm_wf_ch zc w12_2 (by omega) w66_0) (by omega)
          have J65 : ∀ (w65_0 : (x12_3 ≠ 1 ∨ h.1 63 8 ≤ x12_2 ∨ mm_UX h x12_2 ≠ r26)), mm_W x 0 0 65 [mR 63, mI x12_1, mI x12_2, mU, mI x12_4, mU] [] h := by
            intro w65_0
            have g19 : 0 ≤ h.1 63 7 ∧ h.1 63 7 ≤ 500 := i0.1 63 7
            have g20 : 0 ≤ h.1 63 8 ∧ h.1 63 8 ≤ 500 := i0.1 63 8
            have g21 : 0 ≤ h.1 63 3 ∧ h.1 63 3 ≤ 500 := i0.1 63 3
            refine mm_iconst C (mm_dec dk_X7_wordOfToken 34 rfl) ⟨by decide, by decide⟩ ?_
            exact J66 0 ⟨by omega, by omega⟩ (by first | exact (if_pos ⟨by omega, by omega, by have := zu (by omega); omega⟩).symm | exact (if_neg (by omega)).symm | exact (if_neg (fun q => by have := zu q.2.1; omega)).symm) (Or.inl rfl)
          refine mm_if_eq (tgt := 65) C (mm_dec dk_X7_wordOfToken 21 rfl) (by decide) (fun c39 => ?_) (fun c39 => ?_)
          · skip
            refine mm_fgt 3 ?_
            refine mm_fgt 5 ?_
            exact J65 (by first | omega | (have z := zu (by omega); omega))
          · skip
            refine mm_iload_n C (mm_dec dk_X7_wordOfToken 22 rfl) rfl ?_
            refine mm_aload_n C (mm_dec dk_X7_wordOfToken 23 rfl) rfl ?_
            refine mm_geti C fl_X7_34 (mm_dec dk_X7_wordOfToken 24 rfl) rfl rfl (Or.inl rfl) ?_
            refine mm_icmp_ge (tgt := 65) C (mm_dec dk_X7_wordOfToken 25 rfl) (by decide) (fun c47 => ?_) (fun c47 => ?_)
            · skip
              refine mm_fgt 3 ?_
              refine mm_fgt 5 ?_
              exact J65 (by first | omega | (have z := zu (by omega); omega))
            · skip
              refine mm_aload_n C (mm_dec dk_X7_wordOfToken 26 rfl) rfl ?_
              refine mm_getr (t := 62) C fl_X7_43 (mm_dec dk_X7_wordOfToken 27 rfl) rfl rfl (mm_ref i0 rfl) ?_
              refine mm_iload_n C (mm_dec dk_X7_wordOfToken 28 rfl) rfl ?_
              refine mm_iald C (mm_dec dk_X7_wordOfToken 29 rfl) rfl (by omega) (by omega) ?_
              have g22 : -2147483648 ≤ (h.2.1 62 x12_2) ∧ (h.2.1 62 x12_2) ≤ 2147483647 := i0.2.1 62 x12_2
              refine mm_iload C (mm_dec dk_X7_wordOfToken 30 rfl) rfl ?_
              refine mm_icmp_ne (tgt := 65) C (mm_dec dk_X7_wordOfToken 31 rfl) (by decide) (fun c58 => ?_) (fun c58 => ?_)
              · skip
                refine mm_fgt 3 ?_
                refine mm_fgt 5 ?_
                exact J65 (by first | omega | (have z := zu (by omega); omega))
              · skip
                refine mm_iconst C (mm_dec dk_X7_wordOfToken 32 rfl) ⟨by decide, by decide⟩ ?_
                refine mm_goto (tgt := 66) C (mm_dec dk_X7_wordOfToken 33 rfl) (by decide) ?_
                refine mm_fgt 3 ?_
                refine mm_fgt 5 ?_
                exact J66 1 ⟨by omega, by omega⟩ (by first | exact (if_pos ⟨by omega, by omega, by have := zu (by omega); omega⟩).symm | exact (if_neg (by omega)).symm | exact (if_neg (fun q => by have := zu q.2.1; omega)).symm) (Or.inr (⟨by omega, by omega, by omega, rfl⟩))
  refine mm_istoreL (ls2 := [mR 63, mI 0, mI (h.1 63 7), mI 1, mI 0, mU]) C (mm_dec dk_X7_wordOfToken 8 rfl) (by decide) rfl ?_
  exact J12 (((90 - 0) : Int) + 1).toNat 0 ⟨by omega, by omega⟩ (h.1 63 7) ⟨by omega, by omega⟩ 1 ⟨by omega, by omega⟩ 0 ⟨by omega, by omega⟩ (by omega) (by omega) (by first | rfl | exact w97_2) (by omega) (by omega)
set_option maxRecDepth 100000 in
set_option maxHeartbeats 4000000 in
theorem c_X7_step_q (l : Launch) (hl : l.stackTraces = false) (d : Nat) (hd : 5 ≤ d) (h : mH) (i0 : mm_inv h) : mm_Met l d yX7_step cX7_step 2 none [mR 63] h (mm_pv fun h2 => mm_inv h2 ∧ mm_fr [(63, 5), (63, 6), (63, 7), (63, 8)] [] h h2 ∧ (h2.1 63 5 = 0 ∨ h2.1 63 7 ≤ 499) ∧ mm_aX h2 ∧ h2.1 63 7 = mm_skp (mm_UX h) (h.1 63 3) (h.1 63 8)) mm_nx 0 0 := by
  refine mm_ofW (ls := [mR 63, mU]) hl (by decide) rfl (Nat.le_of_ble_eq_true rfl) ?_
  intro x hxl C T hnm htb
  subst hxl
  have C1 := mm_OK_le (d' := d - 1 + 1) (by omega) C
  have f0 : mm_fr [(63, 5), (63, 6), (63, 7), (63, 8)] [] h h := mm_fr_rf
  have g1 : -2147483648 ≤ h.1 63 5 ∧ h.1 63 5 ≤ 2147483647 := i0.1 63 5
  have g2 : 0 ≤ h.1 63 7 ∧ h.1 63 7 ≤ 500 := i0.1 63 7
  have g3 : 0 ≤ h.1 63 8 ∧ h.1 63 8 ≤ 500 := i0.1 63 8
  have g4 : 0 ≤ h.1 63 3 ∧ h.1 63 3 ≤ 500 := i0.1 63 3
  have g5 : -2147483648 ≤ h.1 63 6 ∧ h.1 63 6 ≤ 2147483647 := i0.1 63 6
  have g6 : -2147483648 ≤ h.1 63 9 ∧ h.1 63 9 ≤ 2147483647 := i0.1 63 9
  have g7 : -2147483648 ≤ h.1 63 10 ∧ h.1 63 10 ≤ 2147483647 := i0.1 63 10
  refine mm_aload_n C (mm_dec dk_X7_step 0 rfl) rfl ?_
  refine mm_aload_n C (mm_dec dk_X7_step 1 rfl) rfl ?_
  refine mm_geti C fl_X7_34 (mm_dec dk_X7_step 2 rfl) rfl rfl (Or.inl rfl) ?_
  have J8 : ∀ (n : Nat) (h8_ : mH) (i8_ : mm_inv h8_) (f8_ : mm_fr [(63, 5), (63, 6), (63, 7), (63, 8)] [] h h8_) (w8_0 : mm_skp (mm_UX h) (h.1 63 3) (h8_.1 63 7) = mm_skp (mm_UX h) (h.1 63 3) (h.1 63 8)), (500 - h8_.1 63 7 : Int) < n → mm_W x 0 0 8 [mR 63, mU] [] h8_ := by
    intro n
    induction n with
    | zero =>
      intro h8_ i8_ f8_ w8_0 hm
      have g8 : -2147483648 ≤ h8_.1 63 5 ∧ h8_.1 63 5 ≤ 2147483647 := i8_.1 63 5
      have g9 : 0 ≤ h8_.1 63 7 ∧ h8_.1 63 7 ≤ 500 := i8_.1 63 7
      have g10 : 0 ≤ h8_.1 63 8 ∧ h8_.1 63 8 ≤ 500 := i8_.1 63 8
      have g11 : 0 ≤ h8_.1 63 3 ∧ h8_.1 63 3 ≤ 500 := i8_.1 63 3
      have g12 : -2147483648 ≤ h8_.1 63 6 ∧ h8_.1 63 6 ≤ 2147483647 := i8_.1 63 6
      have g13 : -2147483648 ≤ h8_.1 63 9 ∧ h8_.1 63 9 ≤ 2147483647 := i8_.1 63 9
      have g14 : -2147483648 ≤ h8_.1 63 10 ∧ h8_.1 63 10 ≤ 2147483647 := i8_.1 63 10
      exfalso; omega
    | succ n ih8 =>
      intro h8_ i8_ f8_ w8_0 hm8
      have g15 : -2147483648 ≤ h8_.1 63 5 ∧ h8_.1 63 5 ≤ 2147483647 := i8_.1 63 5
      have g16 : 0 ≤ h8_.1 63 7 ∧ h8_.1 63 7 ≤ 500 := i8_.1 63 7
      have g17 : 0 ≤ h8_.1 63 8 ∧ h8_.1 63 8 ≤ 500 := i8_.1 63 8
      have g18 : 0 ≤ h8_.1 63 3 ∧ h8_.1 63 3 ≤ 500 := i8_.1 63 3
      have g19 : -2147483648 ≤ h8_.1 63 6 ∧ h8_.1 63 6 ≤ 2147483647 := i8_.1 63 6
      have g20 : -2147483648 ≤ h8_.1 63 9 ∧ h8_.1 63 9 ≤ 2147483647 := i8_.1 63 9
      have g21 : -2147483648 ≤ h8_.1 63 10 ∧ h8_.1 63 10 ≤ 2147483647 := i8_.1 63 10
      have g22 : h8_.1 63 3 = h.1 63 3 := f8_.1 63 3 (by decide)
      have g23 : h8_.1 63 9 = h.1 63 9 := f8_.1 63 9 (by decide)
      have g24 : h8_.1 63 10 = h.1 63 10 := f8_.1 63 10 (by decide)
      refine mm_aload_n C (mm_dec dk_X7_step 4 rfl) rfl ?_
      refine mm_geti C fl_X7_31 (mm_dec dk_X7_step 5 rfl) rfl rfl (Or.inl rfl) ?_
      refine mm_aload_n C (mm_dec dk_X7_step 6 rfl) rfl ?_
      refine mm_geti C fl_X7_18 (mm_dec dk_X7_step 7 rfl) rfl rfl (Or.inl rfl) ?_
      have J47 : ∀ (w47_0 : h8_.1 63 7 = mm_skp (mm_UX h) (h.1 63 3) (h.1 63 8)) (w47_1 : (h.1 63 3 ≤ h8_.1 63 7 ∨ h8_.1 63 7 < h.1 63 3)), mm_W x 0 0 47 [mR 63, mU] [] h8_ := by
        intro w47_0 w47_1
        have g25 : -2147483648 ≤ h8_.1 63 5 ∧ h8_.1 63 5 ≤ 2147483647 := i8_.1 63 5
        have g26 : 0 ≤ h8_.1 63 7 ∧ h8_.1 63 7 ≤ 500 := i8_.1 63 7
        have g27 : 0 ≤ h8_.1 63 8 ∧ h8_.1 63 8 ≤ 500 := i8_.1 63 8
        have g28 : 0 ≤ h8_.1 63 3 ∧ h8_.1 63 3 ≤ 500 := i8_.1 63 3
        have g29 : -2147483648 ≤ h8_.1 63 6 ∧ h8_.1 63 6 ≤ 2147483647 := i8_.1 63 6
        have g30 : -2147483648 ≤ h8_.1 63 9 ∧ h8_.1 63 9 ≤ 2147483647 := i8_.1 63 9
        have g31 : -2147483648 ≤ h8_.1 63 10 ∧ h8_.1 63 10 ≤ 2147483647 := i8_.1 63 10
        refine mm_aload_n C (mm_dec dk_X7_step 23 rfl) rfl ?_
        refine mm_aload_n C (mm_dec dk_X7_step 24 rfl) rfl ?_
        refine mm_geti C fl_X7_31 (mm_dec dk_X7_step 25 rfl) rfl rfl (Or.inl rfl) ?_
        refine mm_puti C fl_X7_34 (mm_dec dk_X7_step 26 rfl) rfl rfl rfl (Or.inl ⟨rfl, rfl⟩) ?_
        have i1 : mm_inv (mm_pf h8_ 63 8 (h8_.1 63 7)) := mm_inv_pf i8_ (show 0 ≤ (h8_.1 63 7) ∧ (h8_.1 63 7) ≤ 500 from ⟨by omega, by omega⟩) (by decide)
        have f1 : mm_fr [(63, 5), (63, 6), (63, 7), (63, 8)] [] h (mm_pf h8_ 63 8 (h8_.1 63 7)) := mm_fr_pf f8_ (by decide)
        obtain ⟨h1, eh1⟩ : ∃ z, z = mm_pf h8_ 63 8 (h8_.1 63 7) := ⟨_, rfl⟩
        rw [← eh1] at i1 f1 ⊢
        have qh1 : h1.1 63 8 = (h8_.1 63 7) := by rw [eh1]; exact mm_pf_same _ _ _ _
        have qh1_32 : h1.1 63 3 = h8_.1 63 3 := by rw [eh1]; exact mm_pf_ne _ _ (by decide)
        have qh1_33 : h1.1 63 5 = h8_.1 63 5 := by rw [eh1]; exact mm_pf_ne _ _ (by decide)
        have qh1_34 : h1.1 63 6 = h8_.1 63 6 := by rw [eh1]; exact mm_pf_ne _ _ (by decide)
        have qh1_35 : h1.1 63 7 = h8_.1 63 7 := by rw [eh1]; exact mm_pf_ne _ _ (by decide)
        have qh1_36 : h1.1 63 9 = h8_.1 63 9 := by rw [eh1]; exact mm_pf_ne _ _ (by decide)
        have qh1_37 : h1.1 63 10 = h8_.1 63 10 := by rw [eh1]; exact mm_pf_ne _ _ (by decide)
        refine mm_aload_n C (mm_dec dk_X7_step 27 rfl) rfl ?_
        refine mm_iconst C (mm_dec dk_X7_step 28 rfl) ⟨by decide, by decide⟩ ?_
        refine mm_puti C fl_X7_25 (mm_dec dk_X7_step 29 rfl) rfl rfl rfl (Or.inl ⟨rfl, rfl⟩) ?_
        have i2 : mm_inv (mm_pf h1 63 5 0) := mm_inv_pf i1 (show -2147483648 ≤ 0 ∧ 0 ≤ 2147483647 from ⟨by omega, by omega⟩) (by decide)
        have f2 : mm_fr [(63, 5), (63, 6), (63, 7), (63, 8)] [] h (mm_pf h1 63 5 0) := mm_fr_pf f1 (by decide)
        obtain ⟨h2, eh2⟩ : ∃ z, z = mm_pf h1 63 5 0 := ⟨_, rfl⟩
        rw [← eh2] at i2 f2 ⊢
        have qh2 : h2.1 63 5 = 0 := by rw [eh2]; exact mm_pf_same _ _ _ _
        have qh2_38 : h2.1 63 3 = h1.1 63 3 := by rw [eh2]; exact mm_pf_ne _ _ (by decide)
        have qh2_39 : h2.1 63 6 = h1.1 63 6 := by rw [eh2]; exact mm_pf_ne _ _ (by decide)
        have qh2_40 : h2.1 63 7 = h1.1 63 7 := by rw [eh2]; exact mm_pf_ne _ _ (by decide)
        have qh2_41 : h2.1 63 8 = h1.1 63 8 := by rw [eh2]; exact mm_pf_ne _ _ (by decide)
        have qh2_42 : h2.1 63 9 = h1.1 63 9 := by rw [eh2]; exact mm_pf_ne _ _ (by decide)
        have qh2_43 : h2.1 63 10 = h1.1 63 10 := by rw [eh2]; exact mm_pf_ne _ _ (by decide)
        refine mm_aload_n C (mm_dec dk_X7_step 30 rfl) rfl ?_
        refine mm_iconst C (mm_dec dk_X7_step 31 rfl) ⟨by decide, by decide⟩ ?_
        refine mm_puti C fl_X7_28 (mm_dec dk_X7_step 32 rfl) rfl rfl rfl (Or.inl ⟨rfl, rfl⟩) ?_
        have i3 : mm_inv (mm_pf h2 63 6 (-1)) := mm_inv_pf i2 (show -2147483648 ≤ (-1) ∧ (-1) ≤ 2147483647 from ⟨by omega, by omega⟩) (by decide)
        have f3 : mm_fr [(63, 5), (63, 6), (63, 7), (63, 8)] [] h (mm_pf h2 63 6 (-1)) := mm_fr_pf f2 (by decide)
        obtain ⟨h3, eh3⟩ : ∃ z, z = mm_pf h2 63 6 (-1) := ⟨_, rfl⟩
        rw [← eh3] at i3 f3 ⊢
        have qh3 : h3.1 63 6 = (-1) := by rw [eh3]; exact mm_pf_same _ _ _ _
        have qh3_44 : h3.1 63 3 = h2.1 63 3 := by rw [eh3]; exact mm_pf_ne _ _ (by decide)
        have qh3_45 : h3.1 63 5 = h2.1 63 5 := by rw [eh3]; exact mm_pf_ne _ _ (by decide)
        have qh3_46 : h3.1 63 7 = h2.1 63 7 := by rw [eh3]; exact mm_pf_ne _ _ (by decide)
        have qh3_47 : h3.1 63 8 = h2.1 63 8 := by rw [eh3]; exact mm_pf_ne _ _ (by decide)
        have qh3_48 : h3.1 63 9 = h2.1 63 9 := by rw [eh3]; exact mm_pf_ne _ _ (by decide)
        have qh3_49 : h3.1 63 10 = h2.1 63 10 := by rw [eh3]; exact mm_pf_ne _ _ (by decide)
        refine mm_aload_n C (mm_dec dk_X7_step 33 rfl) rfl ?_
        refine mm_geti C fl_X7_31 (mm_dec dk_X7_step 34 rfl) rfl rfl (Or.inl rfl) ?_
        refine mm_aload_n C (mm_dec dk_X7_step 35 rfl) rfl ?_
        refine mm_geti C fl_X7_18 (mm_dec dk_X7_step 36 rfl) rfl rfl (Or.inl rfl) ?_
        refine mm_icmp_lt (tgt := 77) C (mm_dec dk_X7_step 37 rfl) (by decide) (fun c73 => ?_) (fun c73 => ?_)
        · skip
          have zu : mm_UX h (h3.1 63 7) = h3.2.1 62 (h3.1 63 7) := (mm_tr_in (by omega) (by omega)).trans (f3.2 62 (by decide) _).symm
          refine mm_aload_n C (mm_dec dk_X7_step 39 rfl) rfl ?_
          refine mm_aload_n C (mm_dec dk_X7_step 40 rfl) rfl ?_
          refine mm_getr (t := 62) C fl_X7_43 (mm_dec dk_X7_step 41 rfl) rfl rfl (mm_ref i3 rfl) ?_
          refine mm_aload_n C (mm_dec dk_X7_step 42 rfl) rfl ?_
          refine mm_geti C fl_X7_31 (mm_dec dk_X7_step 43 rfl) rfl rfl (Or.inl rfl) ?_
          refine mm_iald C (mm_dec dk_X7_step 44 rfl) rfl (by omega) (by omega) ?_
          have g50 : -2147483648 ≤ (h3.2.1 62 (h3.1 63 7)) ∧ (h3.2.1 62 (h3.1 63 7)) ≤ 2147483647 := i3.2.1 62 (h3.1 63 7)
          refine mm_cSi (rest := [mR 63]) C1 es_X7_131 (mm_dec dk_X7_step 45 rfl) (c_X7_kindOf_q x.2.1 hl (d - 1) (by omega) h3 i3 (h3.2.1 62 (h3.1 63 7))) rfl (Nat.le_of_ble_eq_true rfl) ⟨by decide, by decide⟩ rfl (fun r87 h87c hp87 => ?_) (fun _ _ q => q.elim)
          obtain ⟨b87, z87, y87_0⟩ := hp87
          rw [z87]
          have zk : r87 = mm_kd (mm_UX h (h3.1 63 7)) := by rw [zu]; exact y87_0
          refine mm_puti C fl_X7_25 (mm_dec dk_X7_step 46 rfl) rfl rfl rfl (Or.inl ⟨rfl, rfl⟩) ?_
          have i4 : mm_inv (mm_pf h3 63 5 r87) := mm_inv_pf i3 (show -2147483648 ≤ r87 ∧ r87 ≤ 2147483647 from ⟨by omega, by omega⟩) (by decide)
          have f4 : mm_fr [(63, 5), (63, 6), (63, 7), (63, 8)] [] h (mm_pf h3 63 5 r87) := mm_fr_pf f3 (by decide)
          obtain ⟨h4, eh4⟩ : ∃ z, z = mm_pf h3 63 5 r87 := ⟨_, rfl⟩
          rw [← eh4] at i4 f4 ⊢
          have qh4 : h4.1 63 5 = r87 := by rw [eh4]; exact mm_pf_same _ _ _ _
          have qh4_52 : h4.1 63 3 = h3.1 63 3 := by rw [eh4]; exact mm_pf_ne _ _ (by decide)
          have qh4_53 : h4.1 63 6 = h3.1 63 6 := by rw [eh4]; exact mm_pf_ne _ _ (by decide)
          have qh4_54 : h4.1 63 7 = h3.1 63 7 := by rw [eh4]; exact mm_pf_ne _ _ (by decide)
          have qh4_55 : h4.1 63 8 = h3.1 63 8 := by rw [eh4]; exact mm_pf_ne _ _ (by decide)
          have qh4_56 : h4.1 63 9 = h3.1 63 9 := by rw [eh4]; exact mm_pf_ne _ _ (by decide)
          have qh4_57 : h4.1 63 10 = h3.1 63 10 := by rw [eh4]; exact mm_pf_ne _ _ (by decide)
          refine mm_aload_n C (mm_dec dk_X7_step 47 rfl) rfl ?_
          refine mm_dup C (mm_dec dk_X7_step 48 rfl) (show (2 : Nat) ≠ 1 by decide) ?_
          refine mm_geti C fl_X7_34 (mm_dec dk_X7_step 49 rfl) rfl rfl (Or.inl rfl) ?_
          refine mm_iconst C (mm_dec dk_X7_step 50 rfl) ⟨by decide, by decide⟩ ?_
          refine mm_iadd C (mm_dec dk_X7_step 51 rfl) ⟨by omega, by omega⟩ ?_
          refine mm_puti C fl_X7_34 (mm_dec dk_X7_step 52 rfl) rfl rfl rfl (Or.inl ⟨rfl, rfl⟩) ?_
          have i5 : mm_inv (mm_pf h4 63 8 ((h4.1 63 8) + 1)) := mm_inv_pf i4 (show 0 ≤ ((h4.1 63 8) + 1) ∧ ((h4.1 63 8) + 1) ≤ 500 from ⟨by omega, by omega⟩) (by decide)
          have f5 : mm_fr [(63, 5), (63, 6), (63, 7), (63, 8)] [] h (mm_pf h4 63 8 ((h4.1 63 8) + 1)) := mm_fr_pf f4 (by decide)
          obtain ⟨h5, eh5⟩ : ∃ z, z = mm_pf h4 63 8 ((h4.1 63 8) + 1) := ⟨_, rfl⟩
          rw [← eh5] at i5 f5 ⊢
          have qh5 : h5.1 63 8 = ((h4.1 63 8) + 1) := by rw [eh5]; exact mm_pf_same _ _ _ _
          have qh5_58 : h5.1 63 3 = h4.1 63 3 := by rw [eh5]; exact mm_pf_ne _ _ (by decide)
          have qh5_59 : h5.1 63 5 = h4.1 63 5 := by rw [eh5]; exact mm_pf_ne _ _ (by decide)
          have qh5_60 : h5.1 63 6 = h4.1 63 6 := by rw [eh5]; exact mm_pf_ne _ _ (by decide)
          have qh5_61 : h5.1 63 7 = h4.1 63 7 := by rw [eh5]; exact mm_pf_ne _ _ (by decide)
          have qh5_62 : h5.1 63 9 = h4.1 63 9 := by rw [eh5]; exact mm_pf_ne _ _ (by decide)
          have qh5_63 : h5.1 63 10 = h4.1 63 10 := by rw [eh5]; exact mm_pf_ne _ _ (by decide)
          refine mm_aload_n C (mm_dec dk_X7_step 53 rfl) rfl ?_
          refine mm_geti C fl_X7_25 (mm_dec dk_X7_step 54 rfl) rfl rfl (Or.inl rfl) ?_
          refine mm_iconst C (mm_dec dk_X7_step 55 rfl) ⟨by decide, by decide⟩ ?_
          have J124 : ∀ (s124_0 : Int) (bs124_0 : 0 ≤ s124_0 ∧ s124_0 ≤ 1) (w124_0 : ((s124_0 = 1 ∧ (h5.1 63 5 = 2 ∨ h5.1 63 5 = 3)) ∨ (s124_0 = 0 ∧ h5.1 63 5 ≠ 2 ∧ h5.1 63 5 ≠ 3))) (vs124_0 : ((h5.1 63 5) ≠ 2 ∧ (h5.1 63 5) ≠ 3 ∧ s124_0 = 0) ∨ (s124_0 = 1)), mm_W x 0 0 124 [mR 63, mU] [mI s124_0] h5 := by
            intro s124_0 bs124_0 w124_0 vs124_0
            have J125 : ∀ (n : Nat) (x125_1 : Int) (bx125_1 : 0 ≤ x125_1 ∧ x125_1 ≤ 1) (h125_ : mH) (i125_ : mm_inv h125_) (f125_ : mm_fr [(63, 5), (63, 6), (63, 7), (63, 8)] [] h h125_) (w125_0 : h125_.1 63 7 ≤ 499) (w125_1 : h125_.1 63 7 = mm_skp (mm_UX h) (h.1 63 3) (h.1 63 8)) (w125_2 : h125_.1 63 7 < h.1 63 3) (w125_3 : h125_.1 63 5 = mm_kd (mm_UX h (h125_.1 63 7))) (w125_4 : h125_.1 63 6 = -1) (w125_5 : ((x125_1 = 1 ∧ (h125_.1 63 5 = 2 ∨ h125_.1 63 5 = 3)) ∨ (x125_1 = 0 ∧ h125_.1 63 5 ≠ 2 ∧ h125_.1 63 5 ≠ 3))) (w125_6 : (x125_1 = 1 → mm_runw (mm_UX h) (h.1 63 3) (h125_.1 63 5) (h125_.1 63 8) = mm_runw (mm_UX h) (h.1 63 3) (h125_.1 63 5) (h125_.1 63 7 + 1))) (w125_7 : h125_.1 63 7 + 1 ≤ h125_.1 63 8) (w125_8 : (x125_1 = 0 → h125_.1 63 8 = h125_.1 63 7 + 1)) (w125_9 : h125_.1 63 8 ≤ h.1 63 3), (500 - h125_.1 63 8 : Int) < n → mm_W x 0 0 125 [mR 63, mI x125_1] [] h125_ := by
              intro n
              induction n with
              | zero =>
                intro x125_1 bx125_1 h125_ i125_ f125_ w125_0 w125_1 w125_2 w125_3 w125_4 w125_5 w125_6 w125_7 w125_8 w125_9 hm
                have g64 : -2147483648 ≤ h125_.1 63 5 ∧ h125_.1 63 5 ≤ 2147483647 := i125_.1 63 5
                have g65 : 0 ≤ h125_.1 63 7 ∧ h125_.1 63 7 ≤ 500 := i125_.1 63 7
                have g66 : 0 ≤ h125_.1 63 8 ∧ h125_.1 63 8 ≤ 500 := i125_.1 63 8
                have g67 : 0 ≤ h125_.1 63 3 ∧ h125_.1 63 3 ≤ 500 := i125_.1 63 3
                have g68 : -2147483648 ≤ h125_.1 63 6 ∧ h125_.1 63 6 ≤ 2147483647 := i125_.1 63 6
                have g69 : -2147483648 ≤ h125_.1 63 9 ∧ h125_.1 63 9 ≤ 2147483647 := i125_.1 63 9
                have g70 : -2147483648 ≤ h125_.1 63 10 ∧ h125_.1 63 10 ≤ 2147483647 := i125_.1 63 10
                exfalso; omega
              | succ n ih125 =>
                intro x125_1 bx125_1 h125_ i125_ f125_ w125_0 w125_1 w125_2 w125_3 w125_4 w125_5 w125_6 w125_7 w125_8 w125_9 hm125
                have g71 : -2147483648 ≤ h125_.1 63 5 ∧ h125_.1 63 5 ≤ 2147483647 := i125_.1 63 5
                have g72 : 0 ≤ h125_.1 63 7 ∧ h125_.1 63 7 ≤ 500 := i125_.1 63 7
                have g73 : 0 ≤ h125_.1 63 8 ∧ h125_.1 63 8 ≤ 500 := i125_.1 63 8
                have g74 : 0 ≤ h125_.1 63 3 ∧ h125_.1 63 3 ≤ 500 := i125_.1 63 3
                have g75 : -2147483648 ≤ h125_.1 63 6 ∧ h125_.1 63 6 ≤ 2147483647 := i125_.1 63 6
                have g76 : -2147483648 ≤ h125_.1 63 9 ∧ h125_.1 63 9 ≤ 2147483647 := i125_.1 63 9
                have g77 : -2147483648 ≤ h125_.1 63 10 ∧ h125_.1 63 10 ≤ 2147483647 := i125_.1 63 10
                have g78 : h125_.1 63 3 = h.1 63 3 := f125_.1 63 3 (by decide)
                have g79 : h125_.1 63 9 = h.1 63 9 := f125_.1 63 9 (by decide)
                have g80 : h125_.1 63 10 = h.1 63 10 := f125_.1 63 10 (by decide)
                refine mm_iload_n C (mm_dec dk_X7_step 65 rfl) rfl ?_
                have J172 : ∀ (w172_0 : h125_.1 63 8 = mm_te (mm_UX h) (h.1 63 3) (h125_.1 63 7)), mm_W x 0 0 172 [mR 63, mU] [] h125_ := by
                  intro w172_0
                  have g81 : -2147483648 ≤ h125_.1 63 5 ∧ h125_.1 63 5 ≤ 2147483647 := i125_.1 63 5
                  have g82 : 0 ≤ h125_.1 63 7 ∧ h125_.1 63 7 ≤ 500 := i125_.1 63 7
                  have g83 : 0 ≤ h125_.1 63 8 ∧ h125_.1 63 8 ≤ 500 := i125_.1 63 8
                  have g84 : 0 ≤ h125_.1 63 3 ∧ h125_.1 63 3 ≤ 500 := i125_.1 63 3
                  have g85 : -2147483648 ≤ h125_.1 63 6 ∧ h125_.1 63 6 ≤ 2147483647 := i125_.1 63 6
                  have g86 : -2147483648 ≤ h125_.1 63 9 ∧ h125_.1 63 9 ≤ 2147483647 := i125_.1 63 9
                  have g87 : -2147483648 ≤ h125_.1 63 10 ∧ h125_.1 63 10 ≤ 2147483647 := i125_.1 63 10
                  have zT : mm_TXx h h125_ := mm_TXx_fr f125_ (by decide)
                  refine mm_aload_n C (mm_dec dk_X7_step 88 rfl) rfl ?_
                  refine mm_geti C fl_X7_25 (mm_dec dk_X7_step 89 rfl) rfl rfl (Or.inl rfl) ?_
                  refine mm_iconst C (mm_dec dk_X7_step 90 rfl) ⟨by decide, by decide⟩ ?_
                  have J188 : ∀ (h188_ : mH) (i188_ : mm_inv h188_) (f188_ : mm_fr [(63, 5), (63, 6), (63, 7), (63, 8)] [] h h188_) (w188_0 : h188_.1 63 7 ≤ 499) (w188_1 : mm_aX h188_) (w188_2 : h188_.1 63 7 = mm_skp (mm_UX h) (h.1 63 3) (h.1 63 8)), mm_W x 0 0 188 [mU, mU] [] h188_ := by
                    intro h188_ i188_ f188_ w188_0 w188_1 w188_2
                    have g88 : -2147483648 ≤ h188_.1 63 5 ∧ h188_.1 63 5 ≤ 2147483647 := i188_.1 63 5
                    have g89 : 0 ≤ h188_.1 63 7 ∧ h188_.1 63 7 ≤ 500 := i188_.1 63 7
                    have g90 : 0 ≤ h188_.1 63 8 ∧ h188_.1 63 8 ≤ 500 := i188_.1 63 8
                    have g91 : 0 ≤ h188_.1 63 3 ∧ h188_.1 63 3 ≤ 500 := i188_.1 63 3
                    have g92 : -2147483648 ≤ h188_.1 63 6 ∧ h188_.1 63 6 ≤ 2147483647 := i188_.1 63 6
                    have g93 : -2147483648 ≤ h188_.1 63 9 ∧ h188_.1 63 9 ≤ 2147483647 := i188_.1 63 9
                    have g94 : -2147483648 ≤ h188_.1 63 10 ∧ h188_.1 63 10 ≤ 2147483647 := i188_.1 63 10
                    have g95 : h188_.1 63 3 = h.1 63 3 := f188_.1 63 3 (by decide)
                    have g96 : h188_.1 63 9 = h.1 63 9 := f188_.1 63 9 (by decide)
                    have g97 : h188_.1 63 10 = h.1 63 10 := f188_.1 63 10 (by decide)
                    exact mm_vret C T (mm_dec dk_X7_step 96 rfl) (by decide : 0 ≤ 0) (by decide : 0 ≤ 0) ⟨rfl, ⟨i188_, f188_, by omega, by first | exact w188_1 | exact mm_aX_end (mm_TXx_fr f188_ (by decide)) (by omega) (by omega) (by omega) (by omega), by omega⟩⟩
                  refine mm_icmp_ne (tgt := 188) C (mm_dec dk_X7_step 91 rfl) (by decide) (fun c177 => ?_) (fun c177 => ?_)
                  · skip
                    refine mm_fgt 0 ?_
                    exact J188 h125_ i125_ f125_ (by omega) (by first | exact mm_aX_in zT w125_2 w125_3 w172_0 (Or.inl ⟨by omega, by omega⟩) | exact mm_aX_in (mm_TXx_fr f125_ (by decide)) (by omega) (by rw [show h125_.1 63 5 = h125_.1 63 5 by omega, show h125_.1 63 7 = h125_.1 63 7 by omega]; exact w125_3) (by rw [show h125_.1 63 7 = h125_.1 63 7 by omega, show h125_.1 63 8 = h125_.1 63 8 by omega]; exact w172_0) (Or.inr ⟨by omega, by rw [show h125_.1 63 6 = r182 by omega, show h125_.1 63 7 = h125_.1 63 7 by omega, show h125_.1 63 8 = h125_.1 63 8 by omega, ← mm_TXx_U zT]; exact y182_0⟩)) (by omega)
                  · skip
                    refine mm_aload_n C (mm_dec dk_X7_step 92 rfl) rfl ?_
                    refine mm_aload_n C (mm_dec dk_X7_step 93 rfl) rfl ?_
                    refine mm_cVi (rest := [mR 63]) C1 ev_X7_135 (mm_dec dk_X7_step 94 rfl) (c_X7_wordOfToken_q x.2.1 hl (d - 1) (by omega) h125_ i125_ (by omega)) rfl rfl (Nat.le_of_ble_eq_true rfl) ⟨by decide, by decide⟩ rfl (fun r182 h182c hp182 => ?_) (fun _ _ q => q.elim)
                    obtain ⟨b182, z182, y182_0⟩ := hp182
                    rw [z182]
                    refine mm_puti C fl_X7_28 (mm_dec dk_X7_step 95 rfl) rfl rfl rfl (Or.inl ⟨rfl, rfl⟩) ?_
                    have i6 : mm_inv (mm_pf h125_ 63 6 r182) := mm_inv_pf i125_ (show -2147483648 ≤ r182 ∧ r182 ≤ 2147483647 from ⟨by omega, by omega⟩) (by decide)
                    have f6 : mm_fr [(63, 5), (63, 6), (63, 7), (63, 8)] [] h (mm_pf h125_ 63 6 r182) := mm_fr_pf f125_ (by decide)
                    obtain ⟨h6, eh6⟩ : ∃ z, z = mm_pf h125_ 63 6 r182 := ⟨_, rfl⟩
                    rw [← eh6] at i6 f6 ⊢
                    have qh6 : h6.1 63 6 = r182 := by rw [eh6]; exact mm_pf_same _ _ _ _
                    have qh6_99 : h6.1 63 3 = h125_.1 63 3 := by rw [eh6]; exact mm_pf_ne _ _ (by decide)
                    have qh6_100 : h6.1 63 5 = h125_.1 63 5 := by rw [eh6]; exact mm_pf_ne _ _ (by decide)
                    have qh6_101 : h6.1 63 7 = h125_.1 63 7 := by rw [eh6]; exact mm_pf_ne _ _ (by decide)
                    have qh6_102 : h6.1 63 8 = h125_.1 63 8 := by rw [eh6]; exact mm_pf_ne _ _ (by decide)
                    have qh6_103 : h6.1 63 9 = h125_.1 63 9 := by rw [eh6]; exact mm_pf_ne _ _ (by decide)
                    have qh6_104 : h6.1 63 10 = h125_.1 63 10 := by rw [eh6]; exact mm_pf_ne _ _ (by decide)
                    refine mm_fgt 0 ?_
                    exact J188 h6 i6 f6 (by omega) (by first | exact mm_aX_in zT w125_2 w125_3 w172_0 (Or.inl ⟨by omega, by omega⟩) | exact mm_aX_in (mm_TXx_fr f6 (by decide)) (by omega) (by rw [show h6.1 63 5 = h125_.1 63 5 by omega, show h6.1 63 7 = h125_.1 63 7 by omega]; exact w125_3) (by rw [show h6.1 63 7 = h125_.1 63 7 by omega, show h6.1 63 8 = h125_.1 63 8 by omega]; exact w172_0) (Or.inr ⟨by omega, by rw [show h6.1 63 6 = r182 by omega, show h6.1 63 7 = h125_.1 63 7 by omega, show h6.1 63 8 = h125_.1 63 8 by omega, ← mm_TXx_U zT]; exact y182_0⟩)) (by omega)
                refine mm_if_eq (tgt := 172) C (mm_dec dk_X7_step 66 rfl) (by decide) (fun c126 => ?_) (fun c126 => ?_)
                · skip
                  refine mm_fgt 1 ?_
                  exact J172 (by first | exact mm_te_0 (by omega) (by omega) (by omega) (w125_8 (by omega)) | exact mm_te_1 (by omega) w125_3 (by omega) (w125_6 (by omega)) (by omega))
                · skip
                  refine mm_aload_n C (mm_dec dk_X7_step 67 rfl) rfl ?_
                  refine mm_geti C fl_X7_34 (mm_dec dk_X7_step 68 rfl) rfl rfl (Or.inl rfl) ?_
                  refine mm_aload_n C (mm_dec dk_X7_step 69 rfl) rfl ?_
                  refine mm_geti C fl_X7_18 (mm_dec dk_X7_step 70 rfl) rfl rfl (Or.inl rfl) ?_
                  refine mm_icmp_ge (tgt := 172) C (mm_dec dk_X7_step 71 rfl) (by decide) (fun c137 => ?_) (fun c137 => ?_)
                  · skip
                    refine mm_fgt 1 ?_
                    exact J172 (by first | exact mm_te_0 (by omega) (by omega) (by omega) (w125_8 (by omega)) | exact mm_te_1 (by omega) w125_3 (by omega) (w125_6 (by omega)) (by omega))
                  · skip
                    have zv : mm_UX h (h125_.1 63 8) = h125_.2.1 62 (h125_.1 63 8) := (mm_tr_in (by omega) (by omega)).trans (f125_.2 62 (by decide) _).symm
                    refine mm_aload_n C (mm_dec dk_X7_step 72 rfl) rfl ?_
                    refine mm_getr (t := 62) C fl_X7_43 (mm_dec dk_X7_step 73 rfl) rfl rfl (mm_ref i125_ rfl) ?_
                    refine mm_aload_n C (mm_dec dk_X7_step 74 rfl) rfl ?_
                    refine mm_geti C fl_X7_34 (mm_dec dk_X7_step 75 rfl) rfl rfl (Or.inl rfl) ?_
                    refine mm_iald C (mm_dec dk_X7_step 76 rfl) rfl (by omega) (by omega) ?_
                    have g105 : -2147483648 ≤ (h125_.2.1 62 (h125_.1 63 8)) ∧ (h125_.2.1 62 (h125_.1 63 8)) ≤ 2147483647 := i125_.2.1 62 (h125_.1 63 8)
                    refine mm_cSi (rest := []) C1 es_X7_131 (mm_dec dk_X7_step 77 rfl) (c_X7_kindOf_q x.2.1 hl (d - 1) (by omega) h125_ i125_ (h125_.2.1 62 (h125_.1 63 8))) rfl (Nat.le_of_ble_eq_true rfl) ⟨by decide, by decide⟩ rfl (fun r149 h149c hp149 => ?_) (fun _ _ q => q.elim)
                    obtain ⟨b149, z149, y149_0⟩ := hp149
                    rw [z149]
                    have zx : r149 = mm_kd (mm_UX h (h125_.1 63 8)) := by rw [zv]; exact y149_0
                    refine mm_aload_n C (mm_dec dk_X7_step 78 rfl) rfl ?_
                    refine mm_geti C fl_X7_25 (mm_dec dk_X7_step 79 rfl) rfl rfl (Or.inl rfl) ?_
                    refine mm_icmp_ne (tgt := 172) C (mm_dec dk_X7_step 80 rfl) (by decide) (fun c156 => ?_) (fun c156 => ?_)
                    · skip
                      refine mm_fgt 1 ?_
                      exact J172 (by first | exact mm_te_0 (by omega) (by omega) (by omega) (w125_8 (by omega)) | exact mm_te_1 (by omega) w125_3 (by omega) (w125_6 (by omega)) (by omega))
                    · skip
                      refine mm_aload_n C (mm_dec dk_X7_step 81 rfl) rfl ?_
                      refine mm_dup C (mm_dec dk_X7_step 82 rfl) (show (2 : Nat) ≠ 1 by decide) ?_
                      refine mm_geti C fl_X7_34 (mm_dec dk_X7_step 83 rfl) rfl rfl (Or.inl rfl) ?_
                      refine mm_iconst C (mm_dec dk_X7_step 84 rfl) ⟨by decide, by decide⟩ ?_
                      refine mm_iadd C (mm_dec dk_X7_step 85 rfl) ⟨by omega, by omega⟩ ?_
                      refine mm_puti C fl_X7_34 (mm_dec dk_X7_step 86 rfl) rfl rfl rfl (Or.inl ⟨rfl, rfl⟩) ?_
                      have i7 : mm_inv (mm_pf h125_ 63 8 ((h125_.1 63 8) + 1)) := mm_inv_pf i125_ (show 0 ≤ ((h125_.1 63 8) + 1) ∧ ((h125_.1 63 8) + 1) ≤ 500 from ⟨by omega, by omega⟩) (by decide)
                      have f7 : mm_fr [(63, 5), (63, 6), (63, 7), (63, 8)] [] h (mm_pf h125_ 63 8 ((h125_.1 63 8) + 1)) := mm_fr_pf f125_ (by decide)
                      obtain ⟨h7, eh7⟩ : ∃ z, z = mm_pf h125_ 63 8 ((h125_.1 63 8) + 1) := ⟨_, rfl⟩
                      rw [← eh7] at i7 f7 ⊢
                      have qh7 : h7.1 63 8 = ((h125_.1 63 8) + 1) := by rw [eh7]; exact mm_pf_same _ _ _ _
                      have qh7_107 : h7.1 63 3 = h125_.1 63 3 := by rw [eh7]; exact mm_pf_ne _ _ (by decide)
                      have qh7_108 : h7.1 63 5 = h125_.1 63 5 := by rw [eh7]; exact mm_pf_ne _ _ (by decide)
                      have qh7_109 : h7.1 63 6 = h125_.1 63 6 := by rw [eh7]; exact mm_pf_ne _ _ (by decide)
                      have qh7_110 : h7.1 63 7 = h125_.1 63 7 := by rw [eh7]; exact mm_pf_ne _ _ (by decide)
                      have qh7_111 : h7.1 63 9 = h125_.1 63 9 := by rw [eh7]; exact mm_pf_ne _ _ (by decide)
                      have qh7_112 : h7.1 63 10 = h125_.1 63 10 := by rw [eh7]; exact mm_pf_ne _ _ (by decide)
                      refine mm_goto (tgt := 125) C (mm_dec dk_X7_step 87 rfl) (by decide) ?_
                      exact ih125 x125_1 ⟨by omega, by omega⟩ h7 i7 f7 (by omega) (by omega) (by omega) (by first | omega | (rw [show h7.1 63 5 = h125_.1 63 5 by omega, show h7.1 63 7 = h125_.1 63 7 by omega]; exact w125_3) | (rw [show h7.1 63 5 = r87 by omega, zk]; exact congrArg (fun z => mm_kd (mm_UX h z)) (by omega))) (by omega) (by omega) (by first | exact fun q => (by rw [show h7.1 63 8 = h7.1 63 7 + 1 by omega]) | exact fun q => (by rw [show h7.1 63 5 = h125_.1 63 5 by omega, show h7.1 63 7 = h125_.1 63 7 by omega, show h7.1 63 8 = h125_.1 63 8 + 1 by omega]; exact (mm_runw_s (by omega) (by omega)).symm.trans (w125_6 (by omega)))) (by omega) (by first | exact fun q => (by omega) | exact fun q => absurd q (by omega)) (by omega) (by omega)
            refine mm_istore_nL (ls2 := [mR 63, mI s124_0]) C (mm_dec dk_X7_step 64 rfl) (by decide) rfl ?_
            exact J125 (((500 - h5.1 63 8) : Int) + 1).toNat s124_0 ⟨by omega, by omega⟩ h5 i5 f5 (by omega) (by omega) (by omega) (by first | omega | (rw [show h5.1 63 5 = h125_.1 63 5 by omega, show h5.1 63 7 = h125_.1 63 7 by omega]; exact w125_3) | (rw [show h5.1 63 5 = r87 by omega, zk]; exact congrArg (fun z => mm_kd (mm_UX h z)) (by omega))) (by omega) (by omega) (by first | exact fun q => (by rw [show h5.1 63 8 = h5.1 63 7 + 1 by omega]) | exact fun q => (by rw [show h5.1 63 5 = h125_.1 63 5 by omega, show h5.1 63 7 = h125_.1 63 7 by omega, show h5.1 63 8 = h125_.1 63 8 + 1 by omega]; exact (mm_runw_s (by omega) (by omega)).symm.trans (w125_6 (by omega)))) (by omega) (by first | exact fun q => (by omega) | exact fun q => absurd q (by omega)) (by omega) (by omega)
          have J119 : ∀ (w119_0 : (h5.1 63 5 = 2 ∨ h5.1 63 5 = 3)), mm_W x 0 0 119 [mR 63, mU] [] h5 := by
            intro w119_0
            refine mm_iconst C (mm_dec dk_X7_step 61 rfl) ⟨by decide, by decide⟩ ?_
            refine mm_goto (tgt := 124) C (mm_dec dk_X7_step 62 rfl) (by decide) ?_
            exact J124 1 ⟨by omega, by omega⟩ (by omega) (Or.inr (rfl))
          refine mm_icmp_eq (tgt := 119) C (mm_dec dk_X7_step 56 rfl) (by decide) (fun c108 => ?_) (fun c108 => ?_)
          · skip
            exact J119 (by omega)
          · skip
            refine mm_aload_n C (mm_dec dk_X7_step 57 rfl) rfl ?_
            refine mm_geti C fl_X7_25 (mm_dec dk_X7_step 58 rfl) rfl rfl (Or.inl rfl) ?_
            refine mm_iconst C (mm_dec dk_X7_step 59 rfl) ⟨by decide, by decide⟩ ?_
            refine mm_icmp_ne (tgt := 123) C (mm_dec dk_X7_step 60 rfl) (by decide) (fun c116 => ?_) (fun c116 => ?_)
            · skip
              refine mm_iconst C (mm_dec dk_X7_step 63 rfl) ⟨by decide, by decide⟩ ?_
              exact J124 0 ⟨by omega, by omega⟩ (by omega) (Or.inl ⟨by omega, by omega, rfl⟩)
            · skip
              exact J119 (by omega)
        · skip
          exact mm_vret C T (mm_dec dk_X7_step 38 rfl) (by decide : 0 ≤ 0) (by decide : 0 ≤ 0) ⟨rfl, ⟨i3, f3, by omega, by first | exact w188_1 | exact mm_aX_end (mm_TXx_fr f3 (by decide)) (by omega) (by omega) (by omega) (by omega), by omega⟩⟩
      refine mm_icmp_ge (tgt := 47) C (mm_dec dk_X7_step 8 rfl) (by decide) (fun c16 => ?_) (fun c16 => ?_)
      · skip
        exact J47 (by first | exact (mm_skp_e (Or.inl (by omega))).symm.trans w8_0 | exact (mm_skp_e (Or.inr ⟨by omega, by omega⟩)).symm.trans w8_0) (by omega)
      · skip
        have zu : mm_UX h (h8_.1 63 7) = h8_.2.1 62 (h8_.1 63 7) := (mm_tr_in (by omega) (by omega)).trans (f8_.2 62 (by decide) _).symm
        refine mm_aload_n C (mm_dec dk_X7_step 9 rfl) rfl ?_
        refine mm_getr (t := 62) C fl_X7_43 (mm_dec dk_X7_step 10 rfl) rfl rfl (mm_ref i8_ rfl) ?_
        refine mm_aload_n C (mm_dec dk_X7_step 11 rfl) rfl ?_
        refine mm_geti C fl_X7_31 (mm_dec dk_X7_step 12 rfl) rfl rfl (Or.inl rfl) ?_
        refine mm_iald C (mm_dec dk_X7_step 13 rfl) rfl (by omega) (by omega) ?_
        have g113 : -2147483648 ≤ (h8_.2.1 62 (h8_.1 63 7)) ∧ (h8_.2.1 62 (h8_.1 63 7)) ≤ 2147483647 := i8_.2.1 62 (h8_.1 63 7)
        refine mm_cSi (rest := []) C1 es_X7_128 (mm_dec dk_X7_step 14 rfl) (c_X7_isBlank x.2.1 hl (d - 1) (by omega) h8_ i8_ (h8_.2.1 62 (h8_.1 63 7))) rfl (Nat.le_of_ble_eq_true rfl) ⟨by decide, by decide⟩ rfl (fun r28 h28c hp28 => ?_) (fun _ _ q => q.elim)
        obtain ⟨z28, y28⟩ := hp28
        rw [z28]
        refine mm_if_eq (tgt := 47) C (mm_dec dk_X7_step 15 rfl) (by decide) (fun c31 => ?_) (fun c31 => ?_)
        · skip
          exact J47 (by first | exact (mm_skp_e (Or.inl (by omega))).symm.trans w8_0 | exact (mm_skp_e (Or.inr ⟨by omega, by omega⟩)).symm.trans w8_0) (by omega)
        · skip
          refine mm_aload_n C (mm_dec dk_X7_step 16 rfl) rfl ?_
          refine mm_dup C (mm_dec dk_X7_step 17 rfl) (show (2 : Nat) ≠ 1 by decide) ?_
          refine mm_geti C fl_X7_31 (mm_dec dk_X7_step 18 rfl) rfl rfl (Or.inl rfl) ?_
          refine mm_iconst C (mm_dec dk_X7_step 19 rfl) ⟨by decide, by decide⟩ ?_
          refine mm_iadd C (mm_dec dk_X7_step 20 rfl) ⟨by omega, by omega⟩ ?_
          refine mm_puti C fl_X7_31 (mm_dec dk_X7_step 21 rfl) rfl rfl rfl (Or.inl ⟨rfl, rfl⟩) ?_
          have i8 : mm_inv (mm_pf h8_ 63 7 ((h8_.1 63 7) + 1)) := mm_inv_pf i8_ (show 0 ≤ ((h8_.1 63 7) + 1) ∧ ((h8_.1 63 7) + 1) ≤ 500 from ⟨by omega, by omega⟩) (by decide)
          have f8 : mm_fr [(63, 5), (63, 6), (63, 7), (63, 8)] [] h (mm_pf h8_ 63 7 ((h8_.1 63 7) + 1)) := mm_fr_pf f8_ (by decide)
          obtain ⟨h8, eh8⟩ : ∃ z, z = mm_pf h8_ 63 7 ((h8_.1 63 7) + 1) := ⟨_, rfl⟩
          rw [← eh8] at i8 f8 ⊢
          have qh8 : h8.1 63 7 = ((h8_.1 63 7) + 1) := by rw [eh8]; exact mm_pf_same _ _ _ _
          have qh8_115 : h8.1 63 3 = h8_.1 63 3 := by rw [eh8]; exact mm_pf_ne _ _ (by decide)
          have qh8_116 : h8.1 63 5 = h8_.1 63 5 := by rw [eh8]; exact mm_pf_ne _ _ (by decide)
          have qh8_117 : h8.1 63 6 = h8_.1 63 6 := by rw [eh8]; exact mm_pf_ne _ _ (by decide)
          have qh8_118 : h8.1 63 8 = h8_.1 63 8 := by rw [eh8]; exact mm_pf_ne _ _ (by decide)
          have qh8_119 : h8.1 63 9 = h8_.1 63 9 := by rw [eh8]; exact mm_pf_ne _ _ (by decide)
          have qh8_120 : h8.1 63 10 = h8_.1 63 10 := by rw [eh8]; exact mm_pf_ne _ _ (by decide)
          refine mm_goto (tgt := 8) C (mm_dec dk_X7_step 22 rfl) (by decide) ?_
          exact ih8 h8 i8 f8 (by first | (rw [show h8.1 63 7 = h.1 63 8 by omega]) | (rw [show h8.1 63 7 = h8_.1 63 7 + 1 by omega]; exact (mm_skp_s (by omega) (by omega)).symm.trans w8_0)) (by omega)
  refine mm_puti C fl_X7_31 (mm_dec dk_X7_step 3 rfl) rfl rfl rfl (Or.inl ⟨rfl, rfl⟩) ?_
  have i9 : mm_inv (mm_pf h 63 7 (h.1 63 8)) := mm_inv_pf i0 (show 0 ≤ (h.1 63 8) ∧ (h.1 63 8) ≤ 500 from ⟨by omega, by omega⟩) (by decide)
  have f9 : mm_fr [(63, 5), (63, 6), (63, 7), (63, 8)] [] h (mm_pf h 63 7 (h.1 63 8)) := mm_fr_pf f0 (by decide)
  obtain ⟨h9, eh9⟩ : ∃ z, z = mm_pf h 63 7 (h.1 63 8) := ⟨_, rfl⟩
  rw [← eh9] at i9 f9 ⊢
  have qh9 : h9.1 63 7 = (h.1 63 8) := by rw [eh9]; exact mm_pf_same _ _ _ _
  have qh9_121 : h9.1 63 3 = h.1 63 3 := by rw [eh9]; exact mm_pf_ne _ _ (by decide)
  have qh9_122 : h9.1 63 5 = h.1 63 5 := by rw [eh9]; exact mm_pf_ne _ _ (by decide)
  have qh9_123 : h9.1 63 6 = h.1 63 6 := by rw [eh9]; exact mm_pf_ne _ _ (by decide)
  have qh9_124 : h9.1 63 8 = h.1 63 8 := by rw [eh9]; exact mm_pf_ne _ _ (by decide)
  have qh9_125 : h9.1 63 9 = h.1 63 9 := by rw [eh9]; exact mm_pf_ne _ _ (by decide)
  have qh9_126 : h9.1 63 10 = h.1 63 10 := by rw [eh9]; exact mm_pf_ne _ _ (by decide)
  exact J8 (((500 - h9.1 63 7) : Int) + 1).toNat h9 i9 f9 (by first | (rw [show h9.1 63 7 = h.1 63 8 by omega]) | (rw [show h9.1 63 7 = h8_.1 63 7 + 1 by omega]; exact (mm_skp_s (by omega) (by omega)).symm.trans w8_0)) (by omega)
set_option maxRecDepth 100000 in
set_option maxHeartbeats 4000000 in
theorem c_X7_refuse_q (l : Launch) (hl : l.stackTraces = false) (d : Nat) (hd : 0 ≤ d) (h : mH) (i0 : mm_inv h) (p1 : Int) : mm_Met l d yX7_refuse cX7_refuse 2 (some .boolean) [mR 63, mI p1] h (mm_pi fun r h2 => (0 ≤ r ∧ r ≤ 0) ∧ mm_inv h2 ∧ mm_fr [(63, 9), (63, 10)] [] h h2 ∧ h2.1 63 9 = p1 ∧ h2.1 63 10 = h.1 63 7) mm_nx 0 0 := by
  refine mm_ofW (ls := [mR 63, mI p1]) hl (by decide) rfl (Nat.le_of_ble_eq_true rfl) ?_
  intro x hxl C T hnm htb
  subst hxl
  refine mm_rng (fun hr _ => ?_)
  have ap1 : -2147483648 ≤ p1 ∧ p1 < 2147483648 := mm_ok_at hr (i := 1) rfl
  have f0 : mm_fr [(63, 9), (63, 10)] [] h h := mm_fr_rf
  have g1 : 0 ≤ h.1 63 7 ∧ h.1 63 7 ≤ 500 := i0.1 63 7
  have g2 : -2147483648 ≤ h.1 63 9 ∧ h.1 63 9 ≤ 2147483647 := i0.1 63 9
  have g3 : -2147483648 ≤ h.1 63 10 ∧ h.1 63 10 ≤ 2147483647 := i0.1 63 10
  refine mm_aload_n C (mm_dec dk_X7_refuse 0 rfl) rfl ?_
  refine mm_iload_n C (mm_dec dk_X7_refuse 1 rfl) rfl ?_
  refine mm_puti C fl_X7_37 (mm_dec dk_X7_refuse 2 rfl) rfl rfl rfl (Or.inl ⟨rfl, rfl⟩) ?_
  have i1 : mm_inv (mm_pf h 63 9 p1) := mm_inv_pf i0 (show -2147483648 ≤ p1 ∧ p1 ≤ 2147483647 from ⟨by omega, by omega⟩) (by decide)
  have f1 : mm_fr [(63, 9), (63, 10)] [] h (mm_pf h 63 9 p1) := mm_fr_pf f0 (by decide)
  obtain ⟨h1, eh1⟩ : ∃ z, z = mm_pf h 63 9 p1 := ⟨_, rfl⟩
  rw [← eh1] at i1 f1 ⊢
  have qh1 : h1.1 63 9 = p1 := by rw [eh1]; exact mm_pf_same _ _ _ _
  have qh1_4 : h1.1 63 7 = h.1 63 7 := by rw [eh1]; exact mm_pf_ne _ _ (by decide)
  have qh1_5 : h1.1 63 10 = h.1 63 10 := by rw [eh1]; exact mm_pf_ne _ _ (by decide)
  refine mm_aload_n C (mm_dec dk_X7_refuse 3 rfl) rfl ?_
  refine mm_aload_n C (mm_dec dk_X7_refuse 4 rfl) rfl ?_
  refine mm_geti C fl_X7_31 (mm_dec dk_X7_refuse 5 rfl) rfl rfl (Or.inl rfl) ?_
  refine mm_puti C fl_X7_40 (mm_dec dk_X7_refuse 6 rfl) rfl rfl rfl (Or.inl ⟨rfl, rfl⟩) ?_
  have i2 : mm_inv (mm_pf h1 63 10 (h1.1 63 7)) := mm_inv_pf i1 (show -2147483648 ≤ (h1.1 63 7) ∧ (h1.1 63 7) ≤ 2147483647 from ⟨by omega, by omega⟩) (by decide)
  have f2 : mm_fr [(63, 9), (63, 10)] [] h (mm_pf h1 63 10 (h1.1 63 7)) := mm_fr_pf f1 (by decide)
  obtain ⟨h2, eh2⟩ : ∃ z, z = mm_pf h1 63 10 (h1.1 63 7) := ⟨_, rfl⟩
  rw [← eh2] at i2 f2 ⊢
  have qh2 : h2.1 63 10 = (h1.1 63 7) := by rw [eh2]; exact mm_pf_same _ _ _ _
  have qh2_6 : h2.1 63 7 = h1.1 63 7 := by rw [eh2]; exact mm_pf_ne _ _ (by decide)
  have qh2_7 : h2.1 63 9 = h1.1 63 9 := by rw [eh2]; exact mm_pf_ne _ _ (by decide)
  refine mm_iconst C (mm_dec dk_X7_refuse 7 rfl) ⟨by decide, by decide⟩ ?_
  exact mm_zret C T (mm_dec dk_X7_refuse 8 rfl) (by decide : 0 ≤ 0) (by decide : 0 ≤ 0) (by omega) ⟨_, rfl, ⟨⟨by omega, by omega⟩, i2, f2, by omega, by omega⟩⟩
set_option maxRecDepth 100000 in
set_option maxHeartbeats 4000000 in
theorem c_X7_isNumber_q (l : Launch) (hl : l.stackTraces = false) (d : Nat) (hd : 1 ≤ d) (h : mH) (i0 : mm_inv h) : mm_Met l d yX7_isNumber cX7_isNumber 1 (some .boolean) [mR 63] h (mm_pi fun r h2 => (0 ≤ r ∧ r ≤ 1) ∧ mm_inv h2 ∧ mm_fr [(63, 9), (63, 10)] [] h h2 ∧ ((r = 1 ∧ h.1 63 5 = 3 ∧ h.1 63 8 - h.1 63 7 ≤ 5 ∧ mm_em h h2) ∨ (r = 0 ∧ ((h.1 63 5 ≠ 3 ∧ h2.1 63 9 = 1) ∨ (h.1 63 5 = 3 ∧ 5 < h.1 63 8 - h.1 63 7 ∧ h2.1 63 9 = 2)) ∧ h2.1 63 10 = h.1 63 7))) mm_nx 0 0 := by
  refine mm_ofW (ls := [mR 63]) hl (by decide) rfl (Nat.le_of_ble_eq_true rfl) ?_
  intro x hxl C T hnm htb
  subst hxl
  have C1 := mm_OK_le (d' := d - 1 + 1) (by omega) C
  have f0 : mm_fr [(63, 9), (63, 10)] [] h h := mm_fr_rf
  have g1 : -2147483648 ≤ h.1 63 5 ∧ h.1 63 5 ≤ 2147483647 := i0.1 63 5
  have g2 : 0 ≤ h.1 63 7 ∧ h.1 63 7 ≤ 500 := i0.1 63 7
  have g3 : 0 ≤ h.1 63 8 ∧ h.1 63 8 ≤ 500 := i0.1 63 8
  have g4 : 0 ≤ h.1 63 3 ∧ h.1 63 3 ≤ 500 := i0.1 63 3
  have g5 : -2147483648 ≤ h.1 63 6 ∧ h.1 63 6 ≤ 2147483647 := i0.1 63 6
  have g6 : -2147483648 ≤ h.1 63 9 ∧ h.1 63 9 ≤ 2147483647 := i0.1 63 9
  have g7 : -2147483648 ≤ h.1 63 10 ∧ h.1 63 10 ≤ 2147483647 := i0.1 63 10
  refine mm_aload_n C (mm_dec dk_X7_isNumber 0 rfl) rfl ?_
  refine mm_geti C fl_X7_25 (mm_dec dk_X7_isNumber 1 rfl) rfl rfl (Or.inl rfl) ?_
  refine mm_iconst C (mm_dec dk_X7_isNumber 2 rfl) ⟨by decide, by decide⟩ ?_
  refine mm_icmp_eq (tgt := 14) C (mm_dec dk_X7_isNumber 3 rfl) (by decide) (fun c5 => ?_) (fun c5 => ?_)
  · skip
    refine mm_aload_n C (mm_dec dk_X7_isNumber 8 rfl) rfl ?_
    refine mm_geti C fl_X7_34 (mm_dec dk_X7_isNumber 9 rfl) rfl rfl (Or.inl rfl) ?_
    refine mm_aload_n C (mm_dec dk_X7_isNumber 10 rfl) rfl ?_
    refine mm_geti C fl_X7_31 (mm_dec dk_X7_isNumber 11 rfl) rfl rfl (Or.inl rfl) ?_
    refine mm_isub C (mm_dec dk_X7_isNumber 12 rfl) ⟨by omega, by omega⟩ ?_
    refine mm_iconst C (mm_dec dk_X7_isNumber 13 rfl) ⟨by decide, by decide⟩ ?_
    have J40 : ∀ (s40_0 : Int) (bs40_0 : 0 ≤ s40_0 ∧ s40_0 ≤ 1) (h40_ : mH) (i40_ : mm_inv h40_) (f40_ : mm_fr [(63, 9), (63, 10)] [] h h40_) (w40_0 : ((s40_0 = 1 ∧ h.1 63 5 = 3 ∧ h.1 63 8 - h.1 63 7 ≤ 5 ∧ mm_em h h40_) ∨ (s40_0 = 0 ∧ ((h.1 63 5 ≠ 3 ∧ h40_.1 63 9 = 1) ∨ (h.1 63 5 = 3 ∧ 5 < h.1 63 8 - h.1 63 7 ∧ h40_.1 63 9 = 2)) ∧ h40_.1 63 10 = h.1 63 7))), mm_W x 0 0 40 [mU] [mI s40_0] h40_ := by
      intro s40_0 bs40_0 h40_ i40_ f40_ w40_0
      have g8 : -2147483648 ≤ h40_.1 63 5 ∧ h40_.1 63 5 ≤ 2147483647 := i40_.1 63 5
      have g9 : 0 ≤ h40_.1 63 7 ∧ h40_.1 63 7 ≤ 500 := i40_.1 63 7
      have g10 : 0 ≤ h40_.1 63 8 ∧ h40_.1 63 8 ≤ 500 := i40_.1 63 8
      have g11 : 0 ≤ h40_.1 63 3 ∧ h40_.1 63 3 ≤ 500 := i40_.1 63 3
      have g12 : -2147483648 ≤ h40_.1 63 6 ∧ h40_.1 63 6 ≤ 2147483647 := i40_.1 63 6
      have g13 : -2147483648 ≤ h40_.1 63 9 ∧ h40_.1 63 9 ≤ 2147483647 := i40_.1 63 9
      have g14 : -2147483648 ≤ h40_.1 63 10 ∧ h40_.1 63 10 ≤ 2147483647 := i40_.1 63 10
      have g15 : h40_.1 63 5 = h.1 63 5 := f40_.1 63 5 (by decide)
      have g16 : h40_.1 63 7 = h.1 63 7 := f40_.1 63 7 (by decide)
      have g17 : h40_.1 63 8 = h.1 63 8 := f40_.1 63 8 (by decide)
      have g18 : h40_.1 63 3 = h.1 63 3 := f40_.1 63 3 (by decide)
      have g19 : h40_.1 63 6 = h.1 63 6 := f40_.1 63 6 (by decide)
      exact mm_zret C T (mm_dec dk_X7_isNumber 22 rfl) (by decide : 0 ≤ 0) (by decide : 0 ≤ 0) (by omega) ⟨_, rfl, ⟨⟨by omega, by omega⟩, i40_, f40_, by first | exact w40_0 | exact Or.inr ⟨by omega, Or.inl ⟨by omega, by omega⟩, by omega⟩⟩⟩
    have J35 : ∀ (h35_ : mH) (i35_ : mm_inv h35_) (f35_ : mm_fr [(63, 9), (63, 10)] [] h h35_) (w35_0 : mm_em h h35_) (w35_1 : h.1 63 5 = 3) (w35_2 : h.1 63 8 - h.1 63 7 ≤ 5), mm_W x 0 0 35 [mU] [] h35_ := by
      intro h35_ i35_ f35_ w35_0 w35_1 w35_2
      have g20 : -2147483648 ≤ h35_.1 63 5 ∧ h35_.1 63 5 ≤ 2147483647 := i35_.1 63 5
      have g21 : 0 ≤ h35_.1 63 7 ∧ h35_.1 63 7 ≤ 500 := i35_.1 63 7
      have g22 : 0 ≤ h35_.1 63 8 ∧ h35_.1 63 8 ≤ 500 := i35_.1 63 8
      have g23 : 0 ≤ h35_.1 63 3 ∧ h35_.1 63 3 ≤ 500 := i35_.1 63 3
      have g24 : -2147483648 ≤ h35_.1 63 6 ∧ h35_.1 63 6 ≤ 2147483647 := i35_.1 63 6
      have g25 : -2147483648 ≤ h35_.1 63 9 ∧ h35_.1 63 9 ≤ 2147483647 := i35_.1 63 9
      have g26 : -2147483648 ≤ h35_.1 63 10 ∧ h35_.1 63 10 ≤ 2147483647 := i35_.1 63 10
      have g27 : h35_.1 63 5 = h.1 63 5 := f35_.1 63 5 (by decide)
      have g28 : h35_.1 63 7 = h.1 63 7 := f35_.1 63 7 (by decide)
      have g29 : h35_.1 63 8 = h.1 63 8 := f35_.1 63 8 (by decide)
      have g30 : h35_.1 63 3 = h.1 63 3 := f35_.1 63 3 (by decide)
      have g31 : h35_.1 63 6 = h.1 63 6 := f35_.1 63 6 (by decide)
      refine mm_iconst C (mm_dec dk_X7_isNumber 19 rfl) ⟨by decide, by decide⟩ ?_
      refine mm_goto (tgt := 40) C (mm_dec dk_X7_isNumber 20 rfl) (by decide) ?_
      exact J40 1 ⟨by omega, by omega⟩ h35_ i35_ f35_ (by first | exact Or.inl ⟨rfl, w35_1, w35_2, w35_0⟩ | exact Or.inr ⟨rfl, Or.inr ⟨by omega, by omega, by omega⟩, by omega⟩)
    refine mm_icmp_le (tgt := 35) C (mm_dec dk_X7_isNumber 14 rfl) (by decide) (fun c24 => ?_) (fun c24 => ?_)
    · skip
      refine mm_fgt 0 ?_
      exact J35 h i0 f0 (by exact mm_em_rf) (by omega) (by omega)
    · skip
      refine mm_aload_n C (mm_dec dk_X7_isNumber 15 rfl) rfl ?_
      refine mm_iconst C (mm_dec dk_X7_isNumber 16 rfl) ⟨by decide, by decide⟩ ?_
      refine mm_cVi (rest := []) C1 ev_X7_65 (mm_dec dk_X7_isNumber 17 rfl) (c_X7_refuse_q x.2.1 hl (d - 1) (by omega) h i0 2) rfl rfl (Nat.le_of_ble_eq_true rfl) ⟨by decide, by decide⟩ rfl (fun r29 h29c hp29 => ?_) (fun _ _ q => q.elim)
      obtain ⟨b29, i29c, g29c, y29_0, y29_1⟩ := hp29
      have f29c : mm_fr [(63, 9), (63, 10)] [] h h29c := mm_fr_tr f0 g29c (by decide +kernel)
      have q29c_33 : h29c.1 63 3 = h.1 63 3 := g29c.1 63 3 (by decide)
      have q29c_34 : h29c.1 63 5 = h.1 63 5 := g29c.1 63 5 (by decide)
      have q29c_35 : h29c.1 63 6 = h.1 63 6 := g29c.1 63 6 (by decide)
      have q29c_36 : h29c.1 63 7 = h.1 63 7 := g29c.1 63 7 (by decide)
      have q29c_37 : h29c.1 63 8 = h.1 63 8 := g29c.1 63 8 (by decide)
      have g38 : -2147483648 ≤ (h29c.1 63 9) ∧ (h29c.1 63 9) ≤ 2147483647 := i29c.1 63 9
      have g39 : -2147483648 ≤ (h29c.1 63 10) ∧ (h29c.1 63 10) ≤ 2147483647 := i29c.1 63 10
      refine mm_if_eq (tgt := 39) C (mm_dec dk_X7_isNumber 18 rfl) (by decide) (fun c32 => ?_) (fun c32 => ?_)
      · skip
        refine mm_iconst C (mm_dec dk_X7_isNumber 21 rfl) ⟨by decide, by decide⟩ ?_
        refine mm_fgt 0 ?_
        exact J40 0 ⟨by omega, by omega⟩ h29c i29c f29c (by first | exact Or.inl ⟨rfl, w35_1, w35_2, w35_0⟩ | exact Or.inr ⟨rfl, Or.inr ⟨by omega, by omega, by omega⟩, by omega⟩)
      · skip
        exfalso; omega
  · skip
    refine mm_aload_n C (mm_dec dk_X7_isNumber 4 rfl) rfl ?_
    refine mm_iconst C (mm_dec dk_X7_isNumber 5 rfl) ⟨by decide, by decide⟩ ?_
    refine mm_cVi (rest := []) C1 ev_X7_65 (mm_dec dk_X7_isNumber 6 rfl) (c_X7_refuse_q x.2.1 hl (d - 1) (by omega) h i0 1) rfl rfl (Nat.le_of_ble_eq_true rfl) ⟨by decide, by decide⟩ rfl (fun r10 h10c hp10 => ?_) (fun _ _ q => q.elim)
    obtain ⟨b10, i10c, g10c, y10_0, y10_1⟩ := hp10
    have f10c : mm_fr [(63, 9), (63, 10)] [] h h10c := mm_fr_tr f0 g10c (by decide +kernel)
    have q10c_41 : h10c.1 63 3 = h.1 63 3 := g10c.1 63 3 (by decide)
    have q10c_42 : h10c.1 63 5 = h.1 63 5 := g10c.1 63 5 (by decide)
    have q10c_43 : h10c.1 63 6 = h.1 63 6 := g10c.1 63 6 (by decide)
    have q10c_44 : h10c.1 63 7 = h.1 63 7 := g10c.1 63 7 (by decide)
    have q10c_45 : h10c.1 63 8 = h.1 63 8 := g10c.1 63 8 (by decide)
    have g46 : -2147483648 ≤ (h10c.1 63 9) ∧ (h10c.1 63 9) ≤ 2147483647 := i10c.1 63 9
    have g47 : -2147483648 ≤ (h10c.1 63 10) ∧ (h10c.1 63 10) ≤ 2147483647 := i10c.1 63 10
    exact mm_zret C T (mm_dec dk_X7_isNumber 7 rfl) (by decide : 0 ≤ 0) (by decide : 0 ≤ 0) (by omega) ⟨_, rfl, ⟨⟨by omega, by omega⟩, i10c, f10c, by first | exact w40_0 | exact Or.inr ⟨by omega, Or.inl ⟨by omega, by omega⟩, by omega⟩⟩⟩
set_option maxRecDepth 100000 in
set_option maxHeartbeats 4000000 in
theorem c_X7_readSign_q (l : Launch) (hl : l.stackTraces = false) (d : Nat) (hd : 6 ≤ d) (h : mH) (i0 : mm_inv h) (p1 : Int) (bp1 : 40 ≤ p1 ∧ p1 ≤ 61) (t0 : mm_aX h) : mm_Met l d yX7_readSign cX7_readSign 2 (some .boolean) [mR 63, mI p1] h (mm_pi fun r h2 => (0 ≤ r ∧ r ≤ 1) ∧ mm_inv h2 ∧ mm_fr [(63, 5), (63, 6), (63, 7), (63, 8), (63, 9), (63, 10)] [] h h2 ∧ ((r = 1 ∧ mm_cX h = 100 + p1 ∧ mm_st7 h h2) ∨ (r = 0 ∧ mm_cX h ≠ 100 + p1 ∧ h2.1 63 9 = 1 ∧ h2.1 63 10 = h.1 63 7))) mm_nx 0 0 := by
  refine mm_ofW (ls := [mR 63, mI p1]) hl (by decide) rfl (Nat.le_of_ble_eq_true rfl) ?_
  intro x hxl C T hnm htb
  subst hxl
  have C1 := mm_OK_le (d' := d - 1 + 1) (by omega) C
  refine mm_rng (fun hr _ => ?_)
  have ap1 : -2147483648 ≤ p1 ∧ p1 < 2147483648 := mm_ok_at hr (i := 1) rfl
  have f0 : mm_fr [(63, 5), (63, 6), (63, 7), (63, 8), (63, 9), (63, 10)] [] h h := mm_fr_rf
  have g1 : -2147483648 ≤ h.1 63 5 ∧ h.1 63 5 ≤ 2147483647 := i0.1 63 5
  have g2 : 0 ≤ h.1 63 7 ∧ h.1 63 7 ≤ 500 := i0.1 63 7
  have g3 : 0 ≤ h.1 63 8 ∧ h.1 63 8 ≤ 500 := i0.1 63 8
  have g4 : 0 ≤ h.1 63 3 ∧ h.1 63 3 ≤ 500 := i0.1 63 3
  have g5 : -2147483648 ≤ h.1 63 6 ∧ h.1 63 6 ≤ 2147483647 := i0.1 63 6
  have g6 : -2147483648 ≤ h.1 63 9 ∧ h.1 63 9 ≤ 2147483647 := i0.1 63 9
  have g7 : -2147483648 ≤ h.1 63 10 ∧ h.1 63 10 ≤ 2147483647 := i0.1 63 10
  have tf := mm_cX_h i0 t0
  have tr := mm_cX_r i0 t0
  refine mm_aload_n C (mm_dec dk_X7_readSign 0 rfl) rfl ?_
  refine mm_iload_n C (mm_dec dk_X7_readSign 1 rfl) rfl ?_
  refine mm_cVi (rest := []) C1 ev_X7_96 (mm_dec dk_X7_readSign 2 rfl) (c_X7_isSign x.2.1 hl (d - 1) (by omega) h i0 p1 (by omega)) rfl rfl (Nat.le_of_ble_eq_true rfl) ⟨by decide, by decide⟩ rfl (fun r2 h2c hp2 => ?_) (fun _ _ q => q.elim)
  obtain ⟨z2, y2⟩ := hp2
  rw [z2]
  have g9 : -2147483648 ≤ (h.2.1 62 (h.1 63 7)) ∧ (h.2.1 62 (h.1 63 7)) ≤ 2147483647 := i0.2.1 62 (h.1 63 7)
  refine mm_if_ne (tgt := 14) C (mm_dec dk_X7_readSign 3 rfl) (by decide) (fun c5 => ?_) (fun c5 => ?_)
  · skip
    refine mm_aload_n C (mm_dec dk_X7_readSign 8 rfl) rfl ?_
    refine mm_cVv (rest := []) C1 ev_X7_52 (mm_dec dk_X7_readSign 9 rfl) (c_X7_step_q x.2.1 hl (d - 1) (by omega) h i0 ) rfl rfl (Nat.le_of_ble_eq_true rfl) ⟨by decide, by decide⟩ rfl (fun h15c hp15 => ?_) (fun _ _ q => q.elim)
    obtain ⟨i15c, g15c, y15_0, y15_1, y15_2⟩ := hp15
    have f15c : mm_fr [(63, 5), (63, 6), (63, 7), (63, 8), (63, 9), (63, 10)] [] h h15c := mm_fr_tr f0 g15c (by decide +kernel)
    have q15c_11 : h15c.1 63 3 = h.1 63 3 := g15c.1 63 3 (by decide)
    have q15c_12 : h15c.1 63 9 = h.1 63 9 := g15c.1 63 9 (by decide)
    have q15c_13 : h15c.1 63 10 = h.1 63 10 := g15c.1 63 10 (by decide)
    have g14 : -2147483648 ≤ (h15c.1 63 5) ∧ (h15c.1 63 5) ≤ 2147483647 := i15c.1 63 5
    have g15 : 0 ≤ (h15c.1 63 7) ∧ (h15c.1 63 7) ≤ 500 := i15c.1 63 7
    have g16 : 0 ≤ (h15c.1 63 8) ∧ (h15c.1 63 8) ≤ 500 := i15c.1 63 8
    have g17 : -2147483648 ≤ (h15c.1 63 6) ∧ (h15c.1 63 6) ≤ 2147483647 := i15c.1 63 6
    refine mm_iconst C (mm_dec dk_X7_readSign 10 rfl) ⟨by decide, by decide⟩ ?_
    exact mm_zret C T (mm_dec dk_X7_readSign 11 rfl) (by decide : 0 ≤ 0) (by decide : 0 ≤ 0) (by omega) ⟨_, rfl, ⟨⟨by omega, by omega⟩, i15c, f15c, by first | exact Or.inl ⟨rfl, (by have zz := mm_hdx tf; omega), mm_st7_of t0 y15_1 y15_2 g15c (by decide)⟩ | exact Or.inr ⟨by omega, (by have zz := mm_hdx tf; omega), y10_0, y10_1⟩⟩⟩
  · skip
    refine mm_aload_n C (mm_dec dk_X7_readSign 4 rfl) rfl ?_
    refine mm_iconst C (mm_dec dk_X7_readSign 5 rfl) ⟨by decide, by decide⟩ ?_
    refine mm_cVi (rest := []) C1 ev_X7_65 (mm_dec dk_X7_readSign 6 rfl) (c_X7_refuse_q x.2.1 hl (d - 1) (by omega) h i0 1) rfl rfl (Nat.le_of_ble_eq_true rfl) ⟨by decide, by decide⟩ rfl (fun r10 h10c hp10 => ?_) (fun _ _ q => q.elim)
    obtain ⟨b10, i10c, g10c, y10_0, y10_1⟩ := hp10
    have f10c : mm_fr [(63, 5), (63, 6), (63, 7), (63, 8), (63, 9), (63, 10)] [] h h10c := mm_fr_tr f0 g10c (by decide +kernel)
    have q10c_19 : h10c.1 63 3 = h.1 63 3 := g10c.1 63 3 (by decide)
    have q10c_20 : h10c.1 63 5 = h.1 63 5 := g10c.1 63 5 (by decide)
    have q10c_21 : h10c.1 63 6 = h.1 63 6 := g10c.1 63 6 (by decide)
    have q10c_22 : h10c.1 63 7 = h.1 63 7 := g10c.1 63 7 (by decide)
    have q10c_23 : h10c.1 63 8 = h.1 63 8 := g10c.1 63 8 (by decide)
    have g24 : -2147483648 ≤ (h10c.1 63 9) ∧ (h10c.1 63 9) ≤ 2147483647 := i10c.1 63 9
    have g25 : -2147483648 ≤ (h10c.1 63 10) ∧ (h10c.1 63 10) ≤ 2147483647 := i10c.1 63 10
    exact mm_zret C T (mm_dec dk_X7_readSign 7 rfl) (by decide : 0 ≤ 0) (by decide : 0 ≤ 0) (by omega) ⟨_, rfl, ⟨⟨by omega, by omega⟩, i10c, f10c, by first | exact Or.inl ⟨rfl, (by have zz := mm_hdx tf; omega), mm_st7_of t0 y15_1 y15_2 g15c (by decide)⟩ | exact Or.inr ⟨by omega, (by have zz := mm_hdx tf; omega), y10_0, y10_1⟩⟩⟩
set_option maxRecDepth 100000 in
set_option maxHeartbeats 4000000 in
theorem c_X7_numberOfToken_q (l : Launch) (hl : l.stackTraces = false) (d : Nat) (hd : 0 ≤ d) (h : mH) (i0 : mm_inv h) (t0 : mm_aX h) (t1 : h.1 63 5 = 3) (t2 : h.1 63 8 - h.1 63 7 ≤ 5) : mm_Met l d yX7_numberOfToken cX7_numberOfToken 3 (some .int) [mR 63] h (mm_pi fun r h2 => (0 ≤ r ∧ r ≤ 99999) ∧ h2 = h ∧ r = mm_tv (mm_UX h) (h.1 63 3) (h.1 63 7)) mm_nx 0 0 := by
  refine mm_ofW (ls := [mR 63, mU, mU]) hl (by decide) rfl (Nat.le_of_ble_eq_true rfl) ?_
  intro x hxl C T hnm htb
  subst hxl
  have f0 : mm_fr [] [] h h := mm_fr_rf
  have g1 : 0 ≤ h.1 63 7 ∧ h.1 63 7 ≤ 500 := i0.1 63 7
  have g2 : 0 ≤ h.1 63 8 ∧ h.1 63 8 ≤ 500 := i0.1 63 8
  have g3 : -2147483648 ≤ h.1 63 5 ∧ h.1 63 5 ≤ 2147483647 := i0.1 63 5
  refine mm_iconst C (mm_dec dk_X7_numberOfToken 0 rfl) ⟨by decide, by decide⟩ ?_
  refine mm_istore_nL (ls2 := [mR 63, mI 0, mU]) C (mm_dec dk_X7_numberOfToken 1 rfl) (by decide) rfl ?_
  refine mm_aload_n C (mm_dec dk_X7_numberOfToken 2 rfl) rfl ?_
  refine mm_geti C fl_X7_31 (mm_dec dk_X7_numberOfToken 3 rfl) rfl rfl (Or.inl rfl) ?_
  have J7 : ∀ (n : Nat) (x7_1 : Int) (bx7_1 : 0 ≤ x7_1 ∧ x7_1 ≤ 99999) (x7_2 : Int) (bx7_2 : 0 ≤ x7_2 ∧ x7_2 ≤ 500) (w7_0 : x7_1 = mm_nv (mm_UX h) (h.1 63 7) (x7_2 - h.1 63 7).toNat) (w7_1 : h.1 63 7 ≤ x7_2) (w7_2 : (x7_2 ≤ h.1 63 8 ∨ x7_2 = h.1 63 7)) (w7_3 : ((x7_2 = h.1 63 7 ∧ x7_1 ≤ 0) ∨ (x7_2 = h.1 63 7 + 1 ∧ x7_1 ≤ 9) ∨ (x7_2 = h.1 63 7 + 2 ∧ x7_1 ≤ 99) ∨ (x7_2 = h.1 63 7 + 3 ∧ x7_1 ≤ 999) ∨ (x7_2 = h.1 63 7 + 4 ∧ x7_1 ≤ 9999) ∨ (x7_2 = h.1 63 7 + 5 ∧ x7_1 ≤ 99999))), (500 - x7_2 : Int) < n → mm_W x 0 0 7 [mR 63, mI x7_1, mI x7_2] [] h := by
    intro n
    induction n with
    | zero =>
      intro x7_1 bx7_1 x7_2 bx7_2 w7_0 w7_1 w7_2 w7_3 hm
      have g4 : 0 ≤ h.1 63 7 ∧ h.1 63 7 ≤ 500 := i0.1 63 7
      have g5 : 0 ≤ h.1 63 8 ∧ h.1 63 8 ≤ 500 := i0.1 63 8
      have g6 : -2147483648 ≤ h.1 63 5 ∧ h.1 63 5 ≤ 2147483647 := i0.1 63 5
      exfalso; omega
    | succ n ih7 =>
      intro x7_1 bx7_1 x7_2 bx7_2 w7_0 w7_1 w7_2 w7_3 hm7
      have g7 : 0 ≤ h.1 63 7 ∧ h.1 63 7 ≤ 500 := i0.1 63 7
      have g8 : 0 ≤ h.1 63 8 ∧ h.1 63 8 ≤ 500 := i0.1 63 8
      have g9 : -2147483648 ≤ h.1 63 5 ∧ h.1 63 5 ≤ 2147483647 := i0.1 63 5
      refine mm_iload_n C (mm_dec dk_X7_numberOfToken 5 rfl) rfl ?_
      refine mm_aload_n C (mm_dec dk_X7_numberOfToken 6 rfl) rfl ?_
      refine mm_geti C fl_X7_34 (mm_dec dk_X7_numberOfToken 7 rfl) rfl rfl (Or.inl rfl) ?_
      refine mm_icmp_ge (tgt := 36) C (mm_dec dk_X7_numberOfToken 8 rfl) (by decide) (fun c12 => ?_) (fun c12 => ?_)
      · skip
        have ze := mm_te_f (mm_UX h) (h.1 63 3) (h.1 63 7)
        rw [← t0.1, ← t0.2.2] at ze
        refine mm_iload_n C (mm_dec dk_X7_numberOfToken 22 rfl) rfl ?_
        exact mm_iret C T (mm_dec dk_X7_numberOfToken 23 rfl) (by decide : 0 ≤ 0) (by decide : 0 ≤ 0) ⟨_, rfl, ⟨⟨by omega, by omega⟩, rfl, by rw [mm_tv_of t0, show h.1 63 8 = x7_2 by omega]; exact w7_0⟩⟩
      · skip
        have zd := mm_dig i0 t0 t1 x7_2 (by omega) (by omega)
        refine mm_iload_n C (mm_dec dk_X7_numberOfToken 9 rfl) rfl ?_
        refine mm_bipush C (mm_dec dk_X7_numberOfToken 10 rfl) ⟨by decide, by decide⟩ ?_
        refine mm_imul C (mm_dec dk_X7_numberOfToken 11 rfl) ⟨by omega, by omega⟩ ?_
        refine mm_aload_n C (mm_dec dk_X7_numberOfToken 12 rfl) rfl ?_
        refine mm_getr (t := 62) C fl_X7_43 (mm_dec dk_X7_numberOfToken 13 rfl) rfl rfl (mm_ref i0 rfl) ?_
        refine mm_iload_n C (mm_dec dk_X7_numberOfToken 14 rfl) rfl ?_
        refine mm_iald C (mm_dec dk_X7_numberOfToken 15 rfl) rfl (by omega) (by omega) ?_
        have g10 : -2147483648 ≤ (h.2.1 62 x7_2) ∧ (h.2.1 62 x7_2) ≤ 2147483647 := i0.2.1 62 x7_2
        refine mm_iaddw C (mm_dec dk_X7_numberOfToken 16 rfl) ?_
        have g11 : -2147483648 ≤ (mm_w ((x7_1 * 10) + (h.2.1 62 x7_2))) ∧ (mm_w ((x7_1 * 10) + (h.2.1 62 x7_2))) < 2147483648 := mm_w_rg _
        refine mm_bipush C (mm_dec dk_X7_numberOfToken 17 rfl) ⟨by decide, by decide⟩ ?_
        have zw1 : mm_w ((x7_1 * 10) + (h.2.1 62 x7_2)) = (x7_1 * 10) + (h.2.1 62 x7_2) := mm_w_id ⟨by omega, by omega⟩
        have zw2 : mm_w (mm_w ((x7_1 * 10) + (h.2.1 62 x7_2)) - 48) = (x7_1 * 10) + (h.2.1 62 x7_2) - 48 := by rw [zw1]; exact mm_w_id ⟨by omega, by omega⟩
        refine mm_isubw C (mm_dec dk_X7_numberOfToken 18 rfl) ?_
        have g12 : -2147483648 ≤ (mm_w ((mm_w ((x7_1 * 10) + (h.2.1 62 x7_2))) - 48)) ∧ (mm_w ((mm_w ((x7_1 * 10) + (h.2.1 62 x7_2))) - 48)) < 2147483648 := mm_w_rg _
        refine mm_istore_nL (ls2 := [mR 63, mI (mm_w ((mm_w ((x7_1 * 10) + (h.2.1 62 x7_2))) - 48)), mI x7_2]) C (mm_dec dk_X7_numberOfToken 19 rfl) (by decide) rfl ?_
        refine mm_iincL (ls2 := [mR 63, mI (mm_w ((mm_w ((x7_1 * 10) + (h.2.1 62 x7_2))) - 48)), mI (x7_2 + 1)]) C (mm_dec dk_X7_numberOfToken 20 rfl) rfl (by decide) ⟨by omega, by omega⟩ rfl ?_
        refine mm_goto (tgt := 7) C (mm_dec dk_X7_numberOfToken 21 rfl) (by decide) ?_
        exact ih7 (mm_w ((mm_w ((x7_1 * 10) + (h.2.1 62 x7_2))) - 48)) ⟨by omega, by omega⟩ (x7_2 + 1) ⟨by omega, by omega⟩ (by first | exact mm_nv_0.symm | (rw [mm_nv_s (by omega), ← w7_0]; omega)) (by omega) (by omega) (by omega) (by omega)
  refine mm_istore_nL (ls2 := [mR 63, mI 0, mI (h.1 63 7)]) C (mm_dec dk_X7_numberOfToken 4 rfl) (by decide) rfl ?_
  exact J7 (((500 - (h.1 63 7)) : Int) + 1).toNat 0 ⟨by omega, by omega⟩ (h.1 63 7) ⟨by omega, by omega⟩ (by first | exact mm_nv_0.symm | (rw [mm_nv_s (by omega), ← w7_0]; omega)) (by omega) (by omega) (by omega) (by omega)
set_option maxRecDepth 100000 in
set_option maxHeartbeats 4000000 in
theorem c_X7_readOr_q6 (l : Launch) (hl : l.stackTraces = false) (d : Nat) (hd : 1 ≤ d) (h : mH) (i0 : mm_inv h) (p1 : Int) (bp1 : 6 ≤ p1 ∧ p1 ≤ 6) (t0 : mm_aX h) : mm_Met l d yX7_readOr cX7_readOr 3 (some .boolean) [mR 63, mI p1] h (mm_pi fun r h2 => (0 ≤ r ∧ r ≤ 0) ∧ mm_inv h2 ∧ mm_fr [(63, 9), (63, 10)] [] h h2 ∧ (r = 0 ∧ mm_d7 h h2)) mm_nx 0 0 := by
  refine mm_ofW (ls := [mR 63, mI p1, mU]) hl (by decide) rfl (Nat.le_of_ble_eq_true rfl) ?_
  intro x hxl C T hnm htb
  subst hxl
  have C1 := mm_OK_le (d' := d - 1 + 1) (by omega) C
  refine mm_rng (fun hr _ => ?_)
  have ap1 : -2147483648 ≤ p1 ∧ p1 < 2147483648 := mm_ok_at hr (i := 1) rfl
  have f0 : mm_fr [(63, 9), (63, 10)] [] h h := mm_fr_rf
  have g1 : -2147483648 ≤ h.1 63 5 ∧ h.1 63 5 ≤ 2147483647 := i0.1 63 5
  have g2 : 0 ≤ h.1 63 7 ∧ h.1 63 7 ≤ 500 := i0.1 63 7
  have g3 : 0 ≤ h.1 63 8 ∧ h.1 63 8 ≤ 500 := i0.1 63 8
  have g4 : 0 ≤ h.1 63 3 ∧ h.1 63 3 ≤ 500 := i0.1 63 3
  have g5 : -2147483648 ≤ h.1 63 6 ∧ h.1 63 6 ≤ 2147483647 := i0.1 63 6
  have g6 : -2147483648 ≤ h.1 63 9 ∧ h.1 63 9 ≤ 2147483647 := i0.1 63 9
  have g7 : -2147483648 ≤ h.1 63 10 ∧ h.1 63 10 ≤ 2147483647 := i0.1 63 10
  have tf := mm_cX_h i0 t0
  have tr := mm_cX_r i0 t0
  refine mm_iload_n C (mm_dec dk_X7_readOr 0 rfl) rfl ?_
  refine mm_bipush C (mm_dec dk_X7_readOr 1 rfl) ⟨by decide, by decide⟩ ?_
  refine mm_icmp_lt (tgt := 41) C (mm_dec dk_X7_readOr 2 rfl) (by decide) (fun c3 => ?_) (fun c3 => ?_)
  · skip
    exfalso; omega
  · skip
    refine mm_aload_n C (mm_dec dk_X7_readOr 3 rfl) rfl ?_
    refine mm_aload_n C (mm_dec dk_X7_readOr 4 rfl) rfl ?_
    refine mm_geti C fl_X7_25 (mm_dec dk_X7_readOr 5 rfl) rfl rfl (Or.inl rfl) ?_
    refine mm_iconst C (mm_dec dk_X7_readOr 6 rfl) ⟨by decide, by decide⟩ ?_
    have J37 : ∀ (s37_1 : Int) (bs37_1 : 1 ≤ s37_1 ∧ s37_1 ≤ 2) (w37_0 : ((s37_1 = 2 ∧ (mm_cX h ≤ 19 ∨ mm_cX h = 140)) ∨ (s37_1 = 1 ∧ ¬ (mm_cX h ≤ 19 ∨ mm_cX h = 140)))) (vs37_1 : ((h.1 63 5) ≠ 2 ∧ (h.1 63 5) ≠ 3 ∧ s37_1 = 1) ∨ (s37_1 = 2)), mm_W x 0 0 37 [mU, mU, mU] [mI s37_1, mR 63] h := by
      intro s37_1 bs37_1 w37_0 vs37_1
      have g8 : -2147483648 ≤ h.1 63 5 ∧ h.1 63 5 ≤ 2147483647 := i0.1 63 5
      have g9 : 0 ≤ h.1 63 7 ∧ h.1 63 7 ≤ 500 := i0.1 63 7
      have g10 : 0 ≤ h.1 63 8 ∧ h.1 63 8 ≤ 500 := i0.1 63 8
      have g11 : 0 ≤ h.1 63 3 ∧ h.1 63 3 ≤ 500 := i0.1 63 3
      have g12 : -2147483648 ≤ h.1 63 6 ∧ h.1 63 6 ≤ 2147483647 := i0.1 63 6
      have g13 : -2147483648 ≤ h.1 63 9 ∧ h.1 63 9 ≤ 2147483647 := i0.1 63 9
      have g14 : -2147483648 ≤ h.1 63 10 ∧ h.1 63 10 ≤ 2147483647 := i0.1 63 10
      refine mm_cVi (rest := []) C1 ev_X7_65 (mm_dec dk_X7_readOr 19 rfl) (c_X7_refuse_q x.2.1 hl (d - 1) (by omega) h i0 s37_1) rfl rfl (Nat.le_of_ble_eq_true rfl) ⟨by decide, by decide⟩ rfl (fun r37 h37c hp37 => ?_) (fun _ _ q => q.elim)
      obtain ⟨b37, i37c, g37c, y37_0, y37_1⟩ := hp37
      have f37c : mm_fr [(63, 9), (63, 10)] [] h h37c := mm_fr_tr f0 g37c (by decide +kernel)
      have q37c_16 : h37c.1 63 3 = h.1 63 3 := g37c.1 63 3 (by decide)
      have q37c_17 : h37c.1 63 5 = h.1 63 5 := g37c.1 63 5 (by decide)
      have q37c_18 : h37c.1 63 6 = h.1 63 6 := g37c.1 63 6 (by decide)
      have q37c_19 : h37c.1 63 7 = h.1 63 7 := g37c.1 63 7 (by decide)
      have q37c_20 : h37c.1 63 8 = h.1 63 8 := g37c.1 63 8 (by decide)
      have g21 : -2147483648 ≤ (h37c.1 63 9) ∧ (h37c.1 63 9) ≤ 2147483647 := i37c.1 63 9
      have g22 : -2147483648 ≤ (h37c.1 63 10) ∧ (h37c.1 63 10) ≤ 2147483647 := i37c.1 63 10
      exact mm_zret C T (mm_dec dk_X7_readOr 20 rfl) (by decide : 0 ≤ 0) (by decide : 0 ≤ 0) (by omega) ⟨_, rfl, ⟨⟨by omega, by omega⟩, i37c, f37c, by exact ⟨by omega, mm_d7_1 y37_1 (by rcases w37_0 with ⟨q, w⟩ | ⟨q, w⟩; exact Or.inl ⟨by omega, w⟩; exact Or.inr ⟨by omega, w⟩)⟩⟩⟩
    have J32 : ∀ (w32_0 : (mm_cX h ≤ 19 ∨ mm_cX h = 140)), mm_W x 0 0 32 [mU, mU, mU] [mR 63] h := by
      intro w32_0
      have g23 : -2147483648 ≤ h.1 63 5 ∧ h.1 63 5 ≤ 2147483647 := i0.1 63 5
      have g24 : 0 ≤ h.1 63 7 ∧ h.1 63 7 ≤ 500 := i0.1 63 7
      have g25 : 0 ≤ h.1 63 8 ∧ h.1 63 8 ≤ 500 := i0.1 63 8
      have g26 : 0 ≤ h.1 63 3 ∧ h.1 63 3 ≤ 500 := i0.1 63 3
      have g27 : -2147483648 ≤ h.1 63 6 ∧ h.1 63 6 ≤ 2147483647 := i0.1 63 6
      have g28 : -2147483648 ≤ h.1 63 9 ∧ h.1 63 9 ≤ 2147483647 := i0.1 63 9
      have g29 : -2147483648 ≤ h.1 63 10 ∧ h.1 63 10 ≤ 2147483647 := i0.1 63 10
      refine mm_iconst C (mm_dec dk_X7_readOr 16 rfl) ⟨by decide, by decide⟩ ?_
      refine mm_goto (tgt := 37) C (mm_dec dk_X7_readOr 17 rfl) (by decide) ?_
      exact J37 2 ⟨by omega, by omega⟩ (by have zz := mm_hdx tf; omega) (Or.inr (rfl))
    refine mm_icmp_eq (tgt := 32) C (mm_dec dk_X7_readOr 7 rfl) (by decide) (fun c12 => ?_) (fun c12 => ?_)
    · skip
      refine mm_fgt 0 ?_
      refine mm_fgt 1 ?_
      exact J32 (by have zz := mm_hdx tf; omega)
    · skip
      refine mm_aload_n C (mm_dec dk_X7_readOr 8 rfl) rfl ?_
      refine mm_geti C fl_X7_25 (mm_dec dk_X7_readOr 9 rfl) rfl rfl (Or.inl rfl) ?_
      refine mm_iconst C (mm_dec dk_X7_readOr 10 rfl) ⟨by decide, by decide⟩ ?_
      refine mm_icmp_eq (tgt := 32) C (mm_dec dk_X7_readOr 11 rfl) (by decide) (fun c20 => ?_) (fun c20 => ?_)
      · skip
        refine mm_fgt 0 ?_
        refine mm_fgt 1 ?_
        exact J32 (by have zz := mm_hdx tf; omega)
      · skip
        refine mm_aload_n C (mm_dec dk_X7_readOr 12 rfl) rfl ?_
        refine mm_bipush C (mm_dec dk_X7_readOr 13 rfl) ⟨by decide, by decide⟩ ?_
        refine mm_cVi (rest := [mR 63]) C1 ev_X7_96 (mm_dec dk_X7_readOr 14 rfl) (c_X7_isSign x.2.1 hl (d - 1) (by omega) h i0 40 (by omega)) rfl rfl (Nat.le_of_ble_eq_true rfl) ⟨by decide, by decide⟩ rfl (fun r26 h26c hp26 => ?_) (fun _ _ q => q.elim)
        obtain ⟨z26, y26⟩ := hp26
        rw [z26]
        have g31 : -2147483648 ≤ (h.2.1 62 (h.1 63 7)) ∧ (h.2.1 62 (h.1 63 7)) ≤ 2147483647 := i0.2.1 62 (h.1 63 7)
        refine mm_if_eq (tgt := 36) C (mm_dec dk_X7_readOr 15 rfl) (by decide) (fun c29 => ?_) (fun c29 => ?_)
        · skip
          refine mm_iconst C (mm_dec dk_X7_readOr 18 rfl) ⟨by decide, by decide⟩ ?_
          refine mm_fgt 0 ?_
          refine mm_fgt 1 ?_
          exact J37 1 ⟨by omega, by omega⟩ (by have zz := mm_hdx tf; omega) (Or.inl ⟨by omega, by omega, rfl⟩)
        · skip
          refine mm_fgt 0 ?_
          refine mm_fgt 1 ?_
          exact J32 (by have zz := mm_hdx tf; omega)
set_option maxRecDepth 100000 in
set_option maxHeartbeats 4000000 in
theorem c_X7_readPart_q5 (l : Launch) (hl : l.stackTraces = false) (d : Nat) (hd : 6 ≤ d) (h : mH) (i0 : mm_inv h) (p1 : Int) (bp1 : 5 ≤ p1 ∧ p1 ≤ 5) (t0 : mm_aX h) : mm_Met l d yX7_readPart cX7_readPart 2 (some .boolean) [mR 63, mI p1] h (mm_pi fun r h2 => (0 ≤ r ∧ r ≤ 1) ∧ mm_inv h2 ∧ mm_fr [(63, 4), (63, 5), (63, 6), (63, 7), (63, 8), (63, 9), (63, 10)] [64] h h2 ∧ ((r = 1 ∧ mm_p7 5 h h2) ∨ (r = 0 ∧ mm_g7 5 h h2))) mm_nx 0 0 := by
  refine mm_ofW (ls := [mR 63, mI p1]) hl (by decide) rfl (Nat.le_of_ble_eq_true rfl) ?_
  intro x hxl C T hnm htb
  subst hxl
  have C1 := mm_OK_le (d' := d - 1 + 1) (by omega) C
  refine mm_rng (fun hr _ => ?_)
  have ap1 : -2147483648 ≤ p1 ∧ p1 < 2147483648 := mm_ok_at hr (i := 1) rfl
  have f0 : mm_fr [(63, 4), (63, 5), (63, 6), (63, 7), (63, 8), (63, 9), (63, 10)] [64] h h := mm_fr_rf
  have g1 : -2147483648 ≤ h.1 63 5 ∧ h.1 63 5 ≤ 2147483647 := i0.1 63 5
  have g2 : 0 ≤ h.1 63 7 ∧ h.1 63 7 ≤ 500 := i0.1 63 7
  have g3 : 0 ≤ h.1 63 8 ∧ h.1 63 8 ≤ 500 := i0.1 63 8
  have g4 : 0 ≤ h.1 63 3 ∧ h.1 63 3 ≤ 500 := i0.1 63 3
  have g5 : -2147483648 ≤ h.1 63 6 ∧ h.1 63 6 ≤ 2147483647 := i0.1 63 6
  have g6 : -2147483648 ≤ h.1 63 9 ∧ h.1 63 9 ≤ 2147483647 := i0.1 63 9
  have g7 : -2147483648 ≤ h.1 63 10 ∧ h.1 63 10 ≤ 2147483647 := i0.1 63 10
  have tf := mm_cX_h i0 t0
  have tr := mm_cX_r i0 t0
  refine mm_aload_n C (mm_dec dk_X7_readPart 0 rfl) rfl ?_
  refine mm_bipush C (mm_dec dk_X7_readPart 1 rfl) ⟨by decide, by decide⟩ ?_
  refine mm_cVi (rest := []) C1 ev_X7_96 (mm_dec dk_X7_readPart 2 rfl) (c_X7_isSign x.2.1 hl (d - 1) (by omega) h i0 40 (by omega)) rfl rfl (Nat.le_of_ble_eq_true rfl) ⟨by decide, by decide⟩ rfl (fun r3 h3c hp3 => ?_) (fun _ _ q => q.elim)
  obtain ⟨z3, y3⟩ := hp3
  rw [z3]
  have g9 : -2147483648 ≤ (h.2.1 62 (h.1 63 7)) ∧ (h.2.1 62 (h.1 63 7)) ≤ 2147483647 := i0.2.1 62 (h.1 63 7)
  refine mm_if_eq (tgt := 38) C (mm_dec dk_X7_readPart 3 rfl) (by decide) (fun c6 => ?_) (fun c6 => ?_)
  · skip
    refine mm_aload_n C (mm_dec dk_X7_readPart 20 rfl) rfl ?_
    refine mm_geti C fl_X7_25 (mm_dec dk_X7_readPart 21 rfl) rfl rfl (Or.inl rfl) ?_
    refine mm_iconst C (mm_dec dk_X7_readPart 22 rfl) ⟨by decide, by decide⟩ ?_
    have J117 : ∀ (h117_ : mH) (i117_ : mm_inv h117_) (f117_ : mm_fr [(63, 4), (63, 5), (63, 6), (63, 7), (63, 8), (63, 9), (63, 10)] [64] h h117_) (w117_0 : mm_em h h117_) (w117_1 : (mm_cX h = 18 ∨ (7 ≤ mm_cX h ∧ mm_cX h ≤ 16))), mm_W x 0 0 117 [mR 63, mU] [] h117_ := by
      intro h117_ i117_ f117_ w117_0 w117_1
      have g10 : -2147483648 ≤ h117_.1 63 5 ∧ h117_.1 63 5 ≤ 2147483647 := i117_.1 63 5
      have g11 : 0 ≤ h117_.1 63 7 ∧ h117_.1 63 7 ≤ 500 := i117_.1 63 7
      have g12 : 0 ≤ h117_.1 63 8 ∧ h117_.1 63 8 ≤ 500 := i117_.1 63 8
      have g13 : 0 ≤ h117_.1 63 3 ∧ h117_.1 63 3 ≤ 500 := i117_.1 63 3
      have g14 : -2147483648 ≤ h117_.1 63 6 ∧ h117_.1 63 6 ≤ 2147483647 := i117_.1 63 6
      have g15 : -2147483648 ≤ h117_.1 63 9 ∧ h117_.1 63 9 ≤ 2147483647 := i117_.1 63 9
      have g16 : -2147483648 ≤ h117_.1 63 10 ∧ h117_.1 63 10 ≤ 2147483647 := i117_.1 63 10
      have g17 : h117_.1 63 3 = h.1 63 3 := f117_.1 63 3 (by decide)
      refine mm_aload_n C (mm_dec dk_X7_readPart 61 rfl) rfl ?_
      refine mm_cVv (rest := []) C1 ev_X7_52 (mm_dec dk_X7_readPart 62 rfl) (c_X7_step_q x.2.1 hl (d - 1) (by omega) h117_ i117_ ) rfl rfl (Nat.le_of_ble_eq_true rfl) ⟨by decide, by decide⟩ rfl (fun h118c hp118 => ?_) (fun _ _ q => q.elim)
      obtain ⟨i118c, g118c, y118_0, y118_1, y118_2⟩ := hp118
      have f118c : mm_fr [(63, 4), (63, 5), (63, 6), (63, 7), (63, 8), (63, 9), (63, 10)] [64] h h118c := mm_fr_tr f117_ g118c (by decide +kernel)
      have q118c_19 : h118c.1 63 3 = h117_.1 63 3 := g118c.1 63 3 (by decide)
      have q118c_20 : h118c.1 63 9 = h117_.1 63 9 := g118c.1 63 9 (by decide)
      have q118c_21 : h118c.1 63 10 = h117_.1 63 10 := g118c.1 63 10 (by decide)
      have g22 : -2147483648 ≤ (h118c.1 63 5) ∧ (h118c.1 63 5) ≤ 2147483647 := i118c.1 63 5
      have g23 : 0 ≤ (h118c.1 63 7) ∧ (h118c.1 63 7) ≤ 500 := i118c.1 63 7
      have g24 : 0 ≤ (h118c.1 63 8) ∧ (h118c.1 63 8) ≤ 500 := i118c.1 63 8
      have g25 : -2147483648 ≤ (h118c.1 63 6) ∧ (h118c.1 63 6) ≤ 2147483647 := i118c.1 63 6
      refine mm_iconst C (mm_dec dk_X7_readPart 63 rfl) ⟨by decide, by decide⟩ ?_
      exact mm_zret C T (mm_dec dk_X7_readPart 64 rfl) (by decide : 0 ≤ 0) (by decide : 0 ≤ 0) (by omega) ⟨_, rfl, ⟨⟨by omega, by omega⟩, i118c, f118c, by first | exact Or.inr w37_0 | exact Or.inr ⟨by omega, mm_g7_bad (by have zz := mm_hdx tf; have zy := y57_0; omega) y57_1⟩ | (have z := mm_or0 y101_0 (by omega); exact Or.inr ⟨rfl, mm_g7_bad (by have := z.1; have zz := mm_hdx tf; omega) z.2⟩) | exact Or.inl ⟨rfl, mm_p7_part w117_1 w117_0 (mm_st7_of (mm_em_a w117_0 t0) y118_1 y118_2 g118c (by decide))⟩⟩⟩
    refine mm_icmp_ne (tgt := 100) C (mm_dec dk_X7_readPart 23 rfl) (by decide) (fun c43 => ?_) (fun c43 => ?_)
    · skip
      refine mm_aload_n C (mm_dec dk_X7_readPart 52 rfl) rfl ?_
      refine mm_cVi (rest := []) C1 ev_X7_89 (mm_dec dk_X7_readPart 53 rfl) (c_X7_isNumber_q x.2.1 hl (d - 1) (by omega) h i0 ) rfl rfl (Nat.le_of_ble_eq_true rfl) ⟨by decide, by decide⟩ rfl (fun r101 h101c hp101 => ?_) (fun _ _ q => q.elim)
      obtain ⟨b101, i101c, g101c, y101_0⟩ := hp101
      have f101c : mm_fr [(63, 4), (63, 5), (63, 6), (63, 7), (63, 8), (63, 9), (63, 10)] [64] h h101c := mm_fr_tr f0 g101c (by decide +kernel)
      have q101c_27 : h101c.1 63 3 = h.1 63 3 := g101c.1 63 3 (by decide)
      have q101c_28 : h101c.1 63 5 = h.1 63 5 := g101c.1 63 5 (by decide)
      have q101c_29 : h101c.1 63 6 = h.1 63 6 := g101c.1 63 6 (by decide)
      have q101c_30 : h101c.1 63 7 = h.1 63 7 := g101c.1 63 7 (by decide)
      have q101c_31 : h101c.1 63 8 = h.1 63 8 := g101c.1 63 8 (by decide)
      have g32 : -2147483648 ≤ (h101c.1 63 9) ∧ (h101c.1 63 9) ≤ 2147483647 := i101c.1 63 9
      have g33 : -2147483648 ≤ (h101c.1 63 10) ∧ (h101c.1 63 10) ≤ 2147483647 := i101c.1 63 10
      refine mm_if_ne (tgt := 109) C (mm_dec dk_X7_readPart 54 rfl) (by decide) (fun c104 => ?_) (fun c104 => ?_)
      · skip
        refine mm_aload_n C (mm_dec dk_X7_readPart 57 rfl) rfl ?_
        refine mm_aload_n C (mm_dec dk_X7_readPart 58 rfl) rfl ?_
        refine mm_cVi (rest := [mR 63]) C1 ev_X7_92 (mm_dec dk_X7_readPart 59 rfl) (c_X7_numberOfToken_q x.2.1 hl (d - 1) (by omega) h101c i101c (by first | exact mm_em_a (mm_or1 y101_0 (by omega)).2.2 t0 | (have z := (mm_or1 y101_0 (by omega)).2.2; have z5 := z.2.1; have z7 := z.2.2.2.1; have z8 := z.2.2.2.2.1; omega)) (by first | exact mm_em_a (mm_or1 y101_0 (by omega)).2.2 t0 | (have z := (mm_or1 y101_0 (by omega)).2.2; have z5 := z.2.1; have z7 := z.2.2.2.1; have z8 := z.2.2.2.2.1; omega)) (by first | exact mm_em_a (mm_or1 y101_0 (by omega)).2.2 t0 | (have z := (mm_or1 y101_0 (by omega)).2.2; have z5 := z.2.1; have z7 := z.2.2.2.1; have z8 := z.2.2.2.2.1; omega))) rfl rfl (Nat.le_of_ble_eq_true rfl) ⟨by decide, by decide⟩ rfl (fun r111 h111c hp111 => ?_) (fun _ _ q => q.elim)
        obtain ⟨b111, z111, y111_0⟩ := hp111
        rw [z111]
        refine mm_cVv (rest := []) C1 ev_X7_79 (mm_dec dk_X7_readPart 60 rfl) (c_X7_emit x.2.1 hl (d - 1) (by omega) h101c i101c r111) rfl rfl (Nat.le_of_ble_eq_true rfl) ⟨by decide, by decide⟩ rfl (fun h114c hp114 => ?_) (fun _ _ q => q.elim)
        obtain ⟨i114c, g114c⟩ := hp114
        have f114c : mm_fr [(63, 4), (63, 5), (63, 6), (63, 7), (63, 8), (63, 9), (63, 10)] [64] h h114c := mm_fr_tr f101c g114c (by decide +kernel)
        have q114c_36 : h114c.1 63 3 = h101c.1 63 3 := g114c.1 63 3 (by decide)
        have q114c_37 : h114c.1 63 5 = h101c.1 63 5 := g114c.1 63 5 (by decide)
        have q114c_38 : h114c.1 63 6 = h101c.1 63 6 := g114c.1 63 6 (by decide)
        have q114c_39 : h114c.1 63 7 = h101c.1 63 7 := g114c.1 63 7 (by decide)
        have q114c_40 : h114c.1 63 8 = h101c.1 63 8 := g114c.1 63 8 (by decide)
        have q114c_41 : h114c.1 63 9 = h101c.1 63 9 := g114c.1 63 9 (by decide)
        have q114c_42 : h114c.1 63 10 = h101c.1 63 10 := g114c.1 63 10 (by decide)
        refine mm_fgt 1 ?_
        exact J117 h114c i114c f114c (by first | exact mm_em_fr g94c (by decide) | exact mm_em_tr (mm_or1 y101_0 (by omega)).2.2 (mm_em_fr g114c (by decide))) (by first | (have zz := mm_hdx tf; omega) | (have z := mm_or1 y101_0 (by omega); have z1 := z.1; have z2 := z.2.1; have zz := mm_hdx tf; omega))
      · skip
        refine mm_iconst C (mm_dec dk_X7_readPart 55 rfl) ⟨by decide, by decide⟩ ?_
        exact mm_zret C T (mm_dec dk_X7_readPart 56 rfl) (by decide : 0 ≤ 0) (by decide : 0 ≤ 0) (by omega) ⟨_, rfl, ⟨⟨by omega, by omega⟩, i101c, f101c, by first | exact Or.inr w37_0 | exact Or.inr ⟨by omega, mm_g7_bad (by have zz := mm_hdx tf; have zy := y57_0; omega) y57_1⟩ | (have z := mm_or0 y101_0 (by omega); exact Or.inr ⟨rfl, mm_g7_bad (by have := z.1; have zz := mm_hdx tf; omega) z.2⟩) | exact Or.inl ⟨rfl, mm_p7_part w117_1 w117_0 (mm_st7_of (mm_em_a w117_0 t0) y118_1 y118_2 g118c (by decide))⟩⟩⟩
    · skip
      refine mm_aload_n C (mm_dec dk_X7_readPart 24 rfl) rfl ?_
      refine mm_geti C fl_X7_28 (mm_dec dk_X7_readPart 25 rfl) rfl rfl (Or.inl rfl) ?_
      refine mm_bipush C (mm_dec dk_X7_readPart 26 rfl) ⟨by decide, by decide⟩ ?_
      refine mm_icmp_ge (tgt := 61) C (mm_dec dk_X7_readPart 27 rfl) (by decide) (fun c52 => ?_) (fun c52 => ?_)
      · skip
        refine mm_aload_n C (mm_dec dk_X7_readPart 32 rfl) rfl ?_
        refine mm_aload_n C (mm_dec dk_X7_readPart 33 rfl) rfl ?_
        refine mm_geti C fl_X7_28 (mm_dec dk_X7_readPart 34 rfl) rfl rfl (Or.inl rfl) ?_
        refine mm_bipush C (mm_dec dk_X7_readPart 35 rfl) ⟨by decide, by decide⟩ ?_
        have J94 : ∀ (s94_1 : Int) (bs94_1 : -2147483648 ≤ s94_1 ∧ s94_1 ≤ 2147483647), mm_W x 0 0 94 [mR 63, mU] [mI s94_1, mR 63] h := by
          intro s94_1 bs94_1
          have g43 : -2147483648 ≤ h.1 63 5 ∧ h.1 63 5 ≤ 2147483647 := i0.1 63 5
          have g44 : 0 ≤ h.1 63 7 ∧ h.1 63 7 ≤ 500 := i0.1 63 7
          have g45 : 0 ≤ h.1 63 8 ∧ h.1 63 8 ≤ 500 := i0.1 63 8
          have g46 : 0 ≤ h.1 63 3 ∧ h.1 63 3 ≤ 500 := i0.1 63 3
          have g47 : -2147483648 ≤ h.1 63 6 ∧ h.1 63 6 ≤ 2147483647 := i0.1 63 6
          have g48 : -2147483648 ≤ h.1 63 9 ∧ h.1 63 9 ≤ 2147483647 := i0.1 63 9
          have g49 : -2147483648 ≤ h.1 63 10 ∧ h.1 63 10 ≤ 2147483647 := i0.1 63 10
          refine mm_cVv (rest := []) C1 ev_X7_79 (mm_dec dk_X7_readPart 50 rfl) (c_X7_emit x.2.1 hl (d - 1) (by omega) h i0 s94_1) rfl rfl (Nat.le_of_ble_eq_true rfl) ⟨by decide, by decide⟩ rfl (fun h94c hp94 => ?_) (fun _ _ q => q.elim)
          obtain ⟨i94c, g94c⟩ := hp94
          have f94c : mm_fr [(63, 4), (63, 5), (63, 6), (63, 7), (63, 8), (63, 9), (63, 10)] [64] h h94c := mm_fr_tr f0 g94c (by decide +kernel)
          have q94c_51 : h94c.1 63 3 = h.1 63 3 := g94c.1 63 3 (by decide)
          have q94c_52 : h94c.1 63 5 = h.1 63 5 := g94c.1 63 5 (by decide)
          have q94c_53 : h94c.1 63 6 = h.1 63 6 := g94c.1 63 6 (by decide)
          have q94c_54 : h94c.1 63 7 = h.1 63 7 := g94c.1 63 7 (by decide)
          have q94c_55 : h94c.1 63 8 = h.1 63 8 := g94c.1 63 8 (by decide)
          have q94c_56 : h94c.1 63 9 = h.1 63 9 := g94c.1 63 9 (by decide)
          have q94c_57 : h94c.1 63 10 = h.1 63 10 := g94c.1 63 10 (by decide)
          refine mm_goto (tgt := 117) C (mm_dec dk_X7_readPart 51 rfl) (by decide) ?_
          exact J117 h94c i94c f94c (by first | exact mm_em_fr g94c (by decide) | exact mm_em_tr (mm_or1 y101_0 (by omega)).2.2 (mm_em_fr g114c (by decide))) (by first | (have zz := mm_hdx tf; omega) | (have z := mm_or1 y101_0 (by omega); have z1 := z.1; have z2 := z.2.1; have zz := mm_hdx tf; omega))
        refine mm_icmp_ge (tgt := 84) C (mm_dec dk_X7_readPart 36 rfl) (by decide) (fun c68 => ?_) (fun c68 => ?_)
        · skip
          refine mm_ldc (z := 100000) C (mm_dec dk_X7_readPart 44 rfl) kc_X7_127 (by decide) ?_
          refine mm_aload_n C (mm_dec dk_X7_readPart 45 rfl) rfl ?_
          refine mm_geti C fl_X7_28 (mm_dec dk_X7_readPart 46 rfl) rfl rfl (Or.inl rfl) ?_
          refine mm_iaddw C (mm_dec dk_X7_readPart 47 rfl) ?_
          have g58 : -2147483648 ≤ (mm_w (100000 + (h.1 63 6))) ∧ (mm_w (100000 + (h.1 63 6))) < 2147483648 := mm_w_rg _
          refine mm_bipush C (mm_dec dk_X7_readPart 48 rfl) ⟨by decide, by decide⟩ ?_
          refine mm_isubw C (mm_dec dk_X7_readPart 49 rfl) ?_
          have g59 : -2147483648 ≤ (mm_w ((mm_w (100000 + (h.1 63 6))) - 10)) ∧ (mm_w ((mm_w (100000 + (h.1 63 6))) - 10)) < 2147483648 := mm_w_rg _
          refine mm_fgt 1 ?_
          exact J94 (mm_w ((mm_w (100000 + (h.1 63 6))) - 10)) ⟨by omega, by omega⟩
        · skip
          refine mm_ldc (z := 100007) C (mm_dec dk_X7_readPart 37 rfl) kc_X7_126 (by decide) ?_
          refine mm_aload_n C (mm_dec dk_X7_readPart 38 rfl) rfl ?_
          refine mm_geti C fl_X7_28 (mm_dec dk_X7_readPart 39 rfl) rfl rfl (Or.inl rfl) ?_
          refine mm_iadd C (mm_dec dk_X7_readPart 40 rfl) ⟨by omega, by omega⟩ ?_
          refine mm_bipush C (mm_dec dk_X7_readPart 41 rfl) ⟨by decide, by decide⟩ ?_
          refine mm_isub C (mm_dec dk_X7_readPart 42 rfl) ⟨by omega, by omega⟩ ?_
          refine mm_goto (tgt := 94) C (mm_dec dk_X7_readPart 43 rfl) (by decide) ?_
          refine mm_fgt 1 ?_
          exact J94 ((100007 + (h.1 63 6)) - 7) ⟨by omega, by omega⟩
      · skip
        refine mm_aload_n C (mm_dec dk_X7_readPart 28 rfl) rfl ?_
        refine mm_iconst C (mm_dec dk_X7_readPart 29 rfl) ⟨by decide, by decide⟩ ?_
        refine mm_cVi (rest := []) C1 ev_X7_65 (mm_dec dk_X7_readPart 30 rfl) (c_X7_refuse_q x.2.1 hl (d - 1) (by omega) h i0 3) rfl rfl (Nat.le_of_ble_eq_true rfl) ⟨by decide, by decide⟩ rfl (fun r57 h57c hp57 => ?_) (fun _ _ q => q.elim)
        obtain ⟨b57, i57c, g57c, y57_0, y57_1⟩ := hp57
        have f57c : mm_fr [(63, 4), (63, 5), (63, 6), (63, 7), (63, 8), (63, 9), (63, 10)] [64] h h57c := mm_fr_tr f0 g57c (by decide +kernel)
        have q57c_61 : h57c.1 63 3 = h.1 63 3 := g57c.1 63 3 (by decide)
        have q57c_62 : h57c.1 63 5 = h.1 63 5 := g57c.1 63 5 (by decide)
        have q57c_63 : h57c.1 63 6 = h.1 63 6 := g57c.1 63 6 (by decide)
        have q57c_64 : h57c.1 63 7 = h.1 63 7 := g57c.1 63 7 (by decide)
        have q57c_65 : h57c.1 63 8 = h.1 63 8 := g57c.1 63 8 (by decide)
        have g66 : -2147483648 ≤ (h57c.1 63 9) ∧ (h57c.1 63 9) ≤ 2147483647 := i57c.1 63 9
        have g67 : -2147483648 ≤ (h57c.1 63 10) ∧ (h57c.1 63 10) ≤ 2147483647 := i57c.1 63 10
        exact mm_zret C T (mm_dec dk_X7_readPart 31 rfl) (by decide : 0 ≤ 0) (by decide : 0 ≤ 0) (by omega) ⟨_, rfl, ⟨⟨by omega, by omega⟩, i57c, f57c, by first | exact Or.inr w37_0 | exact Or.inr ⟨by omega, mm_g7_bad (by have zz := mm_hdx tf; have zy := y57_0; omega) y57_1⟩ | (have z := mm_or0 y101_0 (by omega); exact Or.inr ⟨rfl, mm_g7_bad (by have := z.1; have zz := mm_hdx tf; omega) z.2⟩) | exact Or.inl ⟨rfl, mm_p7_part w117_1 w117_0 (mm_st7_of (mm_em_a w117_0 t0) y118_1 y118_2 g118c (by decide))⟩⟩⟩
  · skip
    refine mm_aload_n C (mm_dec dk_X7_readPart 4 rfl) rfl ?_
    refine mm_cVv (rest := []) C1 ev_X7_52 (mm_dec dk_X7_readPart 5 rfl) (c_X7_step_q x.2.1 hl (d - 1) (by omega) h i0 ) rfl rfl (Nat.le_of_ble_eq_true rfl) ⟨by decide, by decide⟩ rfl (fun h10c hp10 => ?_) (fun _ _ q => q.elim)
    obtain ⟨i10c, g10c, y10_0, y10_1, y10_2⟩ := hp10
    have f10c : mm_fr [(63, 4), (63, 5), (63, 6), (63, 7), (63, 8), (63, 9), (63, 10)] [64] h h10c := mm_fr_tr f0 g10c (by decide +kernel)
    have q10c_69 : h10c.1 63 3 = h.1 63 3 := g10c.1 63 3 (by decide)
    have q10c_70 : h10c.1 63 9 = h.1 63 9 := g10c.1 63 9 (by decide)
    have q10c_71 : h10c.1 63 10 = h.1 63 10 := g10c.1 63 10 (by decide)
    have g72 : -2147483648 ≤ (h10c.1 63 5) ∧ (h10c.1 63 5) ≤ 2147483647 := i10c.1 63 5
    have g73 : 0 ≤ (h10c.1 63 7) ∧ (h10c.1 63 7) ≤ 500 := i10c.1 63 7
    have g74 : 0 ≤ (h10c.1 63 8) ∧ (h10c.1 63 8) ≤ 500 := i10c.1 63 8
    have g75 : -2147483648 ≤ (h10c.1 63 6) ∧ (h10c.1 63 6) ≤ 2147483647 := i10c.1 63 6
    have zs := mm_st7_of t0 y10_1 y10_2 g10c (by decide)
    refine mm_aload_n C (mm_dec dk_X7_readPart 6 rfl) rfl ?_
    refine mm_iload_n C (mm_dec dk_X7_readPart 7 rfl) rfl ?_
    refine mm_iconst C (mm_dec dk_X7_readPart 8 rfl) ⟨by decide, by decide⟩ ?_
    refine mm_iadd C (mm_dec dk_X7_readPart 9 rfl) ⟨by omega, by omega⟩ ?_
    refine mm_cVi (rest := []) C1 ev_X7_75 (mm_dec dk_X7_readPart 10 rfl) (c_X7_readOr_q6 x.2.1 hl (d - 1) (by omega) h10c i10c (p1 + 1) ⟨by omega, by omega⟩ (by exact y10_1)) rfl rfl (Nat.le_of_ble_eq_true rfl) ⟨by decide, by decide⟩ rfl (fun r17 h17c hp17 => ?_) (fun _ _ q => q.elim)
    obtain ⟨b17, i17c, g17c, y17_0⟩ := hp17
    have f17c : mm_fr [(63, 4), (63, 5), (63, 6), (63, 7), (63, 8), (63, 9), (63, 10)] [64] h h17c := mm_fr_tr f10c g17c (by decide +kernel)
    have q17c_77 : h17c.1 63 3 = h10c.1 63 3 := g17c.1 63 3 (by decide)
    have q17c_78 : h17c.1 63 5 = h10c.1 63 5 := g17c.1 63 5 (by decide)
    have q17c_79 : h17c.1 63 6 = h10c.1 63 6 := g17c.1 63 6 (by decide)
    have q17c_80 : h17c.1 63 7 = h10c.1 63 7 := g17c.1 63 7 (by decide)
    have q17c_81 : h17c.1 63 8 = h10c.1 63 8 := g17c.1 63 8 (by decide)
    have g82 : -2147483648 ≤ (h17c.1 63 9) ∧ (h17c.1 63 9) ≤ 2147483647 := i17c.1 63 9
    have g83 : -2147483648 ≤ (h17c.1 63 10) ∧ (h17c.1 63 10) ≤ 2147483647 := i17c.1 63 10
    have J37 : ∀ (s37_0 : Int) (bs37_0 : 0 ≤ s37_0 ∧ s37_0 ≤ 0) (w37_0 : (s37_0 = 0 ∧ mm_g7 5 h h17c)), mm_W x 0 0 37 [mU, mU] [mI s37_0] h17c := by
      intro s37_0 bs37_0 w37_0
      exact mm_zret C T (mm_dec dk_X7_readPart 19 rfl) (by decide : 0 ≤ 0) (by decide : 0 ≤ 0) (by omega) ⟨_, rfl, ⟨⟨by omega, by omega⟩, i17c, f17c, by first | exact Or.inr w37_0 | exact Or.inr ⟨by omega, mm_g7_bad (by have zz := mm_hdx tf; have zy := y57_0; omega) y57_1⟩ | (have z := mm_or0 y101_0 (by omega); exact Or.inr ⟨rfl, mm_g7_bad (by have := z.1; have zz := mm_hdx tf; omega) z.2⟩) | exact Or.inl ⟨rfl, mm_p7_part w117_1 w117_0 (mm_st7_of (mm_em_a w117_0 t0) y118_1 y118_2 g118c (by decide))⟩⟩⟩
    have J36 : ∀ (w36_0 : mm_g7 5 h h17c), mm_W x 0 0 36 [mU, mU] [] h17c := by
      intro w36_0
      refine mm_iconst C (mm_dec dk_X7_readPart 18 rfl) ⟨by decide, by decide⟩ ?_
      exact J37 0 ⟨by omega, by omega⟩ (by exact ⟨rfl, w36_0⟩)
    refine mm_if_eq (tgt := 36) C (mm_dec dk_X7_readPart 11 rfl) (by decide) (fun c20 => ?_) (fun c20 => ?_)
    · skip
      refine mm_fgt 0 ?_
      refine mm_fgt 1 ?_
      exact J36 (by exact mm_g7_deep (by have zz := mm_hdx tf; omega) zs y17_0.2)
    · skip
      exfalso; omega
set_option maxRecDepth 100000 in
set_option maxHeartbeats 4000000 in
theorem c_X7_readProduct_q5 (l : Launch) (hl : l.stackTraces = false) (d : Nat) (hd : 7 ≤ d) (h : mH) (i0 : mm_inv h) (p1 : Int) (bp1 : 5 ≤ p1 ∧ p1 ≤ 5) (t0 : mm_aX h) : mm_Met l d yX7_readProduct cX7_readProduct 4 (some .boolean) [mR 63, mI p1] h (mm_pi fun r h2 => (0 ≤ r ∧ r ≤ 1) ∧ mm_inv h2 ∧ mm_fr [(63, 4), (63, 5), (63, 6), (63, 7), (63, 8), (63, 9), (63, 10)] [64] h h2 ∧ ((r = 1 ∧ mm_p7 5 h h2 ∧ mm_nA h2) ∨ (r = 0 ∧ mm_g7 5 h h2))) mm_nx 0 0 := by
  refine mm_ofW (ls := [mR 63, mI p1, mU, mU]) hl (by decide) rfl (Nat.le_of_ble_eq_true rfl) ?_
  intro x hxl C T hnm htb
  subst hxl
  have C1 := mm_OK_le (d' := d - 1 + 1) (by omega) C
  refine mm_rng (fun hr _ => ?_)
  have ap1 : -2147483648 ≤ p1 ∧ p1 < 2147483648 := mm_ok_at hr (i := 1) rfl
  have f0 : mm_fr [(63, 4), (63, 5), (63, 6), (63, 7), (63, 8), (63, 9), (63, 10)] [64] h h := mm_fr_rf
  have g1 : -2147483648 ≤ h.1 63 5 ∧ h.1 63 5 ≤ 2147483647 := i0.1 63 5
  have g2 : 0 ≤ h.1 63 7 ∧ h.1 63 7 ≤ 500 := i0.1 63 7
  have g3 : 0 ≤ h.1 63 8 ∧ h.1 63 8 ≤ 500 := i0.1 63 8
  have g4 : 0 ≤ h.1 63 3 ∧ h.1 63 3 ≤ 500 := i0.1 63 3
  have g5 : -2147483648 ≤ h.1 63 6 ∧ h.1 63 6 ≤ 2147483647 := i0.1 63 6
  have g6 : -2147483648 ≤ h.1 63 9 ∧ h.1 63 9 ≤ 2147483647 := i0.1 63 9
  have g7 : -2147483648 ≤ h.1 63 10 ∧ h.1 63 10 ≤ 2147483647 := i0.1 63 10
  have tf := mm_cX_h i0 t0
  have tr := mm_cX_r i0 t0
  refine mm_aload_n C (mm_dec dk_X7_readProduct 0 rfl) rfl ?_
  refine mm_iload_n C (mm_dec dk_X7_readProduct 1 rfl) rfl ?_
  refine mm_cVi (rest := []) C1 ev_X7_121 (mm_dec dk_X7_readProduct 2 rfl) (c_X7_readPart_q5 x.2.1 hl (d - 1) (by omega) h i0 p1 ⟨by omega, by omega⟩ (by exact t0)) rfl rfl (Nat.le_of_ble_eq_true rfl) ⟨by decide, by decide⟩ rfl (fun r2 h2c hp2 => ?_) (fun _ _ q => q.elim)
  obtain ⟨b2, i2c, g2c, y2_0⟩ := hp2
  have f2c : mm_fr [(63, 4), (63, 5), (63, 6), (63, 7), (63, 8), (63, 9), (63, 10)] [64] h h2c := mm_fr_tr f0 g2c (by decide +kernel)
  have q2c_9 : h2c.1 63 3 = h.1 63 3 := g2c.1 63 3 (by decide)
  have g10 : -2147483648 ≤ (h2c.1 63 5) ∧ (h2c.1 63 5) ≤ 2147483647 := i2c.1 63 5
  have g11 : 0 ≤ (h2c.1 63 7) ∧ (h2c.1 63 7) ≤ 500 := i2c.1 63 7
  have g12 : 0 ≤ (h2c.1 63 8) ∧ (h2c.1 63 8) ≤ 500 := i2c.1 63 8
  have g13 : -2147483648 ≤ (h2c.1 63 6) ∧ (h2c.1 63 6) ≤ 2147483647 := i2c.1 63 6
  have g14 : -2147483648 ≤ (h2c.1 63 9) ∧ (h2c.1 63 9) ≤ 2147483647 := i2c.1 63 9
  have g15 : -2147483648 ≤ (h2c.1 63 10) ∧ (h2c.1 63 10) ≤ 2147483647 := i2c.1 63 10
  refine mm_if_ne (tgt := 10) C (mm_dec dk_X7_readProduct 3 rfl) (by decide) (fun c5 => ?_) (fun c5 => ?_)
  · skip
    refine mm_iconst C (mm_dec dk_X7_readProduct 6 rfl) ⟨by decide, by decide⟩ ?_
    have J12 : ∀ (n : Nat) (x12_2 : Int) (bx12_2 : 0 ≤ x12_2 ∧ x12_2 ≤ 500) (h12_ : mH) (i12_ : mm_inv h12_) (f12_ : mm_fr [(63, 4), (63, 5), (63, 6), (63, 7), (63, 8), (63, 9), (63, 10)] [64] h h12_) (w12_0 : mm_p7 5 h h12_) (w12_1 : x12_2 ≤ h12_.1 63 7), (500 - x12_2 : Int) < n → mm_W x 0 0 12 [mR 63, mI p1, mI x12_2, mU] [] h12_ := by
      intro n
      induction n with
      | zero =>
        intro x12_2 bx12_2 h12_ i12_ f12_ w12_0 w12_1 hm
        have g16 : -2147483648 ≤ h12_.1 63 5 ∧ h12_.1 63 5 ≤ 2147483647 := i12_.1 63 5
        have g17 : 0 ≤ h12_.1 63 7 ∧ h12_.1 63 7 ≤ 500 := i12_.1 63 7
        have g18 : 0 ≤ h12_.1 63 8 ∧ h12_.1 63 8 ≤ 500 := i12_.1 63 8
        have g19 : 0 ≤ h12_.1 63 3 ∧ h12_.1 63 3 ≤ 500 := i12_.1 63 3
        have g20 : -2147483648 ≤ h12_.1 63 6 ∧ h12_.1 63 6 ≤ 2147483647 := i12_.1 63 6
        have g21 : -2147483648 ≤ h12_.1 63 9 ∧ h12_.1 63 9 ≤ 2147483647 := i12_.1 63 9
        have g22 : -2147483648 ≤ h12_.1 63 10 ∧ h12_.1 63 10 ≤ 2147483647 := i12_.1 63 10
        exfalso; omega
      | succ n ih12 =>
        intro x12_2 bx12_2 h12_ i12_ f12_ w12_0 w12_1 hm12
        have g23 : -2147483648 ≤ h12_.1 63 5 ∧ h12_.1 63 5 ≤ 2147483647 := i12_.1 63 5
        have g24 : 0 ≤ h12_.1 63 7 ∧ h12_.1 63 7 ≤ 500 := i12_.1 63 7
        have g25 : 0 ≤ h12_.1 63 8 ∧ h12_.1 63 8 ≤ 500 := i12_.1 63 8
        have g26 : 0 ≤ h12_.1 63 3 ∧ h12_.1 63 3 ≤ 500 := i12_.1 63 3
        have g27 : -2147483648 ≤ h12_.1 63 6 ∧ h12_.1 63 6 ≤ 2147483647 := i12_.1 63 6
        have g28 : -2147483648 ≤ h12_.1 63 9 ∧ h12_.1 63 9 ≤ 2147483647 := i12_.1 63 9
        have g29 : -2147483648 ≤ h12_.1 63 10 ∧ h12_.1 63 10 ≤ 2147483647 := i12_.1 63 10
        have g30 : h12_.1 63 3 = h.1 63 3 := f12_.1 63 3 (by decide)
        have tf12 := mm_cX_h i12_ w12_0.1.2.1
        have tr12 := mm_cX_r i12_ w12_0.1.2.1
        refine mm_iload_n C (mm_dec dk_X7_readProduct 8 rfl) rfl ?_
        refine mm_sipush C (mm_dec dk_X7_readProduct 9 rfl) ⟨by decide, by decide⟩ ?_
        have J79 : ∀ (w79_0 : mm_nA h12_), mm_W x 0 0 79 [mU, mU, mU, mU] [] h12_ := by
          intro w79_0
          have g31 : -2147483648 ≤ h12_.1 63 5 ∧ h12_.1 63 5 ≤ 2147483647 := i12_.1 63 5
          have g32 : 0 ≤ h12_.1 63 7 ∧ h12_.1 63 7 ≤ 500 := i12_.1 63 7
          have g33 : 0 ≤ h12_.1 63 8 ∧ h12_.1 63 8 ≤ 500 := i12_.1 63 8
          have g34 : 0 ≤ h12_.1 63 3 ∧ h12_.1 63 3 ≤ 500 := i12_.1 63 3
          have g35 : -2147483648 ≤ h12_.1 63 6 ∧ h12_.1 63 6 ≤ 2147483647 := i12_.1 63 6
          have g36 : -2147483648 ≤ h12_.1 63 9 ∧ h12_.1 63 9 ≤ 2147483647 := i12_.1 63 9
          have g37 : -2147483648 ≤ h12_.1 63 10 ∧ h12_.1 63 10 ≤ 2147483647 := i12_.1 63 10
          refine mm_iconst C (mm_dec dk_X7_readProduct 40 rfl) ⟨by decide, by decide⟩ ?_
          exact mm_zret C T (mm_dec dk_X7_readProduct 41 rfl) (by decide : 0 ≤ 0) (by decide : 0 ≤ 0) (by omega) ⟨_, rfl, ⟨⟨by omega, by omega⟩, i12_, f12_, by first | exact Or.inl ⟨rfl, w12_0, w79_0⟩ | exact Or.inr ⟨rfl, mm_or0 y2_0 (by omega)⟩ | exact Or.inr ⟨rfl, mm_g7_op w12_0 (by omega) zs (mm_or0 y60_0 (by omega))⟩⟩⟩
        refine mm_icmp_ge (tgt := 79) C (mm_dec dk_X7_readProduct 10 rfl) (by decide) (fun c16 => ?_) (fun c16 => ?_)
        · skip
          refine mm_fgt 0 ?_
          refine mm_fgt 1 ?_
          refine mm_fgt 2 ?_
          exact J79 (by (unfold mm_nA; have zz := mm_hdx tf12; omega))
        · skip
          refine mm_aload_n C (mm_dec dk_X7_readProduct 11 rfl) rfl ?_
          refine mm_bipush C (mm_dec dk_X7_readProduct 12 rfl) ⟨by decide, by decide⟩ ?_
          refine mm_cVi (rest := []) C1 ev_X7_96 (mm_dec dk_X7_readProduct 13 rfl) (c_X7_isSign x.2.1 hl (d - 1) (by omega) h12_ i12_ 42 (by omega)) rfl rfl (Nat.le_of_ble_eq_true rfl) ⟨by decide, by decide⟩ rfl (fun r22 h22c hp22 => ?_) (fun _ _ q => q.elim)
          obtain ⟨z22, y22⟩ := hp22
          rw [z22]
          have g39 : -2147483648 ≤ (h12_.2.1 62 (h12_.1 63 7)) ∧ (h12_.2.1 62 (h12_.1 63 7)) ≤ 2147483647 := i12_.2.1 62 (h12_.1 63 7)
          have J37 : ∀ (w37_0 : (mm_cX h12_ = 142 ∨ mm_cX h12_ = 147)), mm_W x 0 0 37 [mR 63, mI p1, mI x12_2, mU] [] h12_ := by
            intro w37_0
            have g40 : -2147483648 ≤ h12_.1 63 5 ∧ h12_.1 63 5 ≤ 2147483647 := i12_.1 63 5
            have g41 : 0 ≤ h12_.1 63 7 ∧ h12_.1 63 7 ≤ 500 := i12_.1 63 7
            have g42 : 0 ≤ h12_.1 63 8 ∧ h12_.1 63 8 ≤ 500 := i12_.1 63 8
            have g43 : 0 ≤ h12_.1 63 3 ∧ h12_.1 63 3 ≤ 500 := i12_.1 63 3
            have g44 : -2147483648 ≤ h12_.1 63 6 ∧ h12_.1 63 6 ≤ 2147483647 := i12_.1 63 6
            have g45 : -2147483648 ≤ h12_.1 63 9 ∧ h12_.1 63 9 ≤ 2147483647 := i12_.1 63 9
            have g46 : -2147483648 ≤ h12_.1 63 10 ∧ h12_.1 63 10 ≤ 2147483647 := i12_.1 63 10
            refine mm_aload_n C (mm_dec dk_X7_readProduct 19 rfl) rfl ?_
            refine mm_bipush C (mm_dec dk_X7_readProduct 20 rfl) ⟨by decide, by decide⟩ ?_
            refine mm_cVi (rest := []) C1 ev_X7_96 (mm_dec dk_X7_readProduct 21 rfl) (c_X7_isSign x.2.1 hl (d - 1) (by omega) h12_ i12_ 42 (by omega)) rfl rfl (Nat.le_of_ble_eq_true rfl) ⟨by decide, by decide⟩ rfl (fun r40 h40c hp40 => ?_) (fun _ _ q => q.elim)
            obtain ⟨z40, y40⟩ := hp40
            rw [z40]
            have J53 : ∀ (s53_0 : Int) (bs53_0 : 100017 ≤ s53_0 ∧ s53_0 ≤ 100018) (vs53_0 : (r40 ≠ 0 ∧ s53_0 = 100017) ∨ (r40 = 0 ∧ s53_0 = 100018)), mm_W x 0 0 53 [mR 63, mI p1, mI x12_2, mU] [mI s53_0] h12_ := by
              intro s53_0 bs53_0 vs53_0
              have g48 : -2147483648 ≤ h12_.1 63 5 ∧ h12_.1 63 5 ≤ 2147483647 := i12_.1 63 5
              have g49 : 0 ≤ h12_.1 63 7 ∧ h12_.1 63 7 ≤ 500 := i12_.1 63 7
              have g50 : 0 ≤ h12_.1 63 8 ∧ h12_.1 63 8 ≤ 500 := i12_.1 63 8
              have g51 : 0 ≤ h12_.1 63 3 ∧ h12_.1 63 3 ≤ 500 := i12_.1 63 3
              have g52 : -2147483648 ≤ h12_.1 63 6 ∧ h12_.1 63 6 ≤ 2147483647 := i12_.1 63 6
              have g53 : -2147483648 ≤ h12_.1 63 9 ∧ h12_.1 63 9 ≤ 2147483647 := i12_.1 63 9
              have g54 : -2147483648 ≤ h12_.1 63 10 ∧ h12_.1 63 10 ≤ 2147483647 := i12_.1 63 10
              refine mm_istore_nL (ls2 := [mR 63, mI p1, mI x12_2, mI s53_0]) C (mm_dec dk_X7_readProduct 26 rfl) (by decide) rfl ?_
              refine mm_aload_n C (mm_dec dk_X7_readProduct 27 rfl) rfl ?_
              refine mm_cVv (rest := []) C1 ev_X7_52 (mm_dec dk_X7_readProduct 28 rfl) (c_X7_step_q x.2.1 hl (d - 1) (by omega) h12_ i12_ ) rfl rfl (Nat.le_of_ble_eq_true rfl) ⟨by decide, by decide⟩ rfl (fun h55c hp55 => ?_) (fun _ _ q => q.elim)
              obtain ⟨i55c, g55c, y55_0, y55_1, y55_2⟩ := hp55
              have f55c : mm_fr [(63, 4), (63, 5), (63, 6), (63, 7), (63, 8), (63, 9), (63, 10)] [64] h h55c := mm_fr_tr f12_ g55c (by decide +kernel)
              have q55c_56 : h55c.1 63 3 = h12_.1 63 3 := g55c.1 63 3 (by decide)
              have q55c_57 : h55c.1 63 9 = h12_.1 63 9 := g55c.1 63 9 (by decide)
              have q55c_58 : h55c.1 63 10 = h12_.1 63 10 := g55c.1 63 10 (by decide)
              have g59 : -2147483648 ≤ (h55c.1 63 5) ∧ (h55c.1 63 5) ≤ 2147483647 := i55c.1 63 5
              have g60 : 0 ≤ (h55c.1 63 7) ∧ (h55c.1 63 7) ≤ 500 := i55c.1 63 7
              have g61 : 0 ≤ (h55c.1 63 8) ∧ (h55c.1 63 8) ≤ 500 := i55c.1 63 8
              have g62 : -2147483648 ≤ (h55c.1 63 6) ∧ (h55c.1 63 6) ≤ 2147483647 := i55c.1 63 6
              have zs := mm_st7_of w12_0.1.2.1 y55_1 y55_2 g55c (by decide)
              have zl := mm_st7_lt zs (by omega)
              refine mm_aload_n C (mm_dec dk_X7_readProduct 29 rfl) rfl ?_
              refine mm_iload_n C (mm_dec dk_X7_readProduct 30 rfl) rfl ?_
              refine mm_cVi (rest := []) C1 ev_X7_121 (mm_dec dk_X7_readProduct 31 rfl) (c_X7_readPart_q5 x.2.1 hl (d - 1) (by omega) h55c i55c p1 ⟨by omega, by omega⟩ (by exact y55_1)) rfl rfl (Nat.le_of_ble_eq_true rfl) ⟨by decide, by decide⟩ rfl (fun r60 h60c hp60 => ?_) (fun _ _ q => q.elim)
              obtain ⟨b60, i60c, g60c, y60_0⟩ := hp60
              have f60c : mm_fr [(63, 4), (63, 5), (63, 6), (63, 7), (63, 8), (63, 9), (63, 10)] [64] h h60c := mm_fr_tr f55c g60c (by decide +kernel)
              have q60c_64 : h60c.1 63 3 = h55c.1 63 3 := g60c.1 63 3 (by decide)
              have g65 : -2147483648 ≤ (h60c.1 63 5) ∧ (h60c.1 63 5) ≤ 2147483647 := i60c.1 63 5
              have g66 : 0 ≤ (h60c.1 63 7) ∧ (h60c.1 63 7) ≤ 500 := i60c.1 63 7
              have g67 : 0 ≤ (h60c.1 63 8) ∧ (h60c.1 63 8) ≤ 500 := i60c.1 63 8
              have g68 : -2147483648 ≤ (h60c.1 63 6) ∧ (h60c.1 63 6) ≤ 2147483647 := i60c.1 63 6
              have g69 : -2147483648 ≤ (h60c.1 63 9) ∧ (h60c.1 63 9) ≤ 2147483647 := i60c.1 63 9
              have g70 : -2147483648 ≤ (h60c.1 63 10) ∧ (h60c.1 63 10) ≤ 2147483647 := i60c.1 63 10
              refine mm_if_ne (tgt := 68) C (mm_dec dk_X7_readProduct 32 rfl) (by decide) (fun c63 => ?_) (fun c63 => ?_)
              · skip
                refine mm_aload_n C (mm_dec dk_X7_readProduct 35 rfl) rfl ?_
                refine mm_iload_n C (mm_dec dk_X7_readProduct 36 rfl) rfl ?_
                refine mm_cVv (rest := []) C1 ev_X7_79 (mm_dec dk_X7_readProduct 37 rfl) (c_X7_emit x.2.1 hl (d - 1) (by omega) h60c i60c s53_0) rfl rfl (Nat.le_of_ble_eq_true rfl) ⟨by decide, by decide⟩ rfl (fun h70c hp70 => ?_) (fun _ _ q => q.elim)
                obtain ⟨i70c, g70c⟩ := hp70
                have f70c : mm_fr [(63, 4), (63, 5), (63, 6), (63, 7), (63, 8), (63, 9), (63, 10)] [64] h h70c := mm_fr_tr f60c g70c (by decide +kernel)
                have q70c_72 : h70c.1 63 3 = h60c.1 63 3 := g70c.1 63 3 (by decide)
                have q70c_73 : h70c.1 63 5 = h60c.1 63 5 := g70c.1 63 5 (by decide)
                have q70c_74 : h70c.1 63 6 = h60c.1 63 6 := g70c.1 63 6 (by decide)
                have q70c_75 : h70c.1 63 7 = h60c.1 63 7 := g70c.1 63 7 (by decide)
                have q70c_76 : h70c.1 63 8 = h60c.1 63 8 := g70c.1 63 8 (by decide)
                have q70c_77 : h70c.1 63 9 = h60c.1 63 9 := g70c.1 63 9 (by decide)
                have q70c_78 : h70c.1 63 10 = h60c.1 63 10 := g70c.1 63 10 (by decide)
                have zt := g70c.1 63 7 (by decide)
                have zu := (mm_or1 y60_0 (by omega)).2.1
                refine mm_iincL (ls2 := [mR 63, mI p1, mI (x12_2 + 1), mI s53_0]) C (mm_dec dk_X7_readProduct 38 rfl) rfl (by decide) ⟨by omega, by omega⟩ rfl ?_
                refine mm_goto (tgt := 12) C (mm_dec dk_X7_readProduct 39 rfl) (by decide) ?_
                refine mm_fgt 3 ?_
                exact ih12 (x12_2 + 1) ⟨by omega, by omega⟩ h70c i70c f70c (by first | exact (mm_or1 y2_0 (by omega)) | exact mm_p7_em (mm_p7_op w12_0 (by omega) zs (mm_or1 y60_0 (by omega))) (mm_em_fr g70c (by decide))) (by omega) (by omega)
              · skip
                refine mm_iconst C (mm_dec dk_X7_readProduct 33 rfl) ⟨by decide, by decide⟩ ?_
                exact mm_zret C T (mm_dec dk_X7_readProduct 34 rfl) (by decide : 0 ≤ 0) (by decide : 0 ≤ 0) (by omega) ⟨_, rfl, ⟨⟨by omega, by omega⟩, i60c, f60c, by first | exact Or.inl ⟨rfl, w12_0, w79_0⟩ | exact Or.inr ⟨rfl, mm_or0 y2_0 (by omega)⟩ | exact Or.inr ⟨rfl, mm_g7_op w12_0 (by omega) zs (mm_or0 y60_0 (by omega))⟩⟩⟩
            refine mm_if_eq (tgt := 51) C (mm_dec dk_X7_readProduct 22 rfl) (by decide) (fun c43 => ?_) (fun c43 => ?_)
            · skip
              refine mm_ldc (z := 100018) C (mm_dec dk_X7_readProduct 25 rfl) kc_X7_125 (by decide) ?_
              exact J53 100018 ⟨by omega, by omega⟩ (Or.inr (⟨by omega, rfl⟩))
            · skip
              refine mm_ldc (z := 100017) C (mm_dec dk_X7_readProduct 23 rfl) kc_X7_124 (by decide) ?_
              refine mm_goto (tgt := 53) C (mm_dec dk_X7_readProduct 24 rfl) (by decide) ?_
              exact J53 100017 ⟨by omega, by omega⟩ (Or.inl ⟨by omega, rfl⟩)
          refine mm_if_ne (tgt := 37) C (mm_dec dk_X7_readProduct 14 rfl) (by decide) (fun c25 => ?_) (fun c25 => ?_)
          · skip
            exact J37 (by have zz := mm_hdx tf12; omega)
          · skip
            refine mm_aload_n C (mm_dec dk_X7_readProduct 15 rfl) rfl ?_
            refine mm_bipush C (mm_dec dk_X7_readProduct 16 rfl) ⟨by decide, by decide⟩ ?_
            refine mm_cVi (rest := []) C1 ev_X7_96 (mm_dec dk_X7_readProduct 17 rfl) (c_X7_isSign x.2.1 hl (d - 1) (by omega) h12_ i12_ 47 (by omega)) rfl rfl (Nat.le_of_ble_eq_true rfl) ⟨by decide, by decide⟩ rfl (fun r31 h31c hp31 => ?_) (fun _ _ q => q.elim)
            obtain ⟨z31, y31⟩ := hp31
            rw [z31]
            refine mm_if_eq (tgt := 79) C (mm_dec dk_X7_readProduct 18 rfl) (by decide) (fun c34 => ?_) (fun c34 => ?_)
            · skip
              refine mm_fgt 0 ?_
              refine mm_fgt 1 ?_
              refine mm_fgt 2 ?_
              exact J79 (by (unfold mm_nA; have zz := mm_hdx tf12; omega))
            · skip
              exact J37 (by have zz := mm_hdx tf12; omega)
    refine mm_istore_nL (ls2 := [mR 63, mI p1, mI 0, mU]) C (mm_dec dk_X7_readProduct 7 rfl) (by decide) rfl ?_
    exact J12 (((500 - 0) : Int) + 1).toNat 0 ⟨by omega, by omega⟩ h2c i2c f2c (by first | exact (mm_or1 y2_0 (by omega)) | exact mm_p7_em (mm_p7_op w12_0 (by omega) zs (mm_or1 y60_0 (by omega))) (mm_em_fr g70c (by decide))) (by omega) (by omega)
  · skip
    refine mm_iconst C (mm_dec dk_X7_readProduct 4 rfl) ⟨by decide, by decide⟩ ?_
    exact mm_zret C T (mm_dec dk_X7_readProduct 5 rfl) (by decide : 0 ≤ 0) (by decide : 0 ≤ 0) (by omega) ⟨_, rfl, ⟨⟨by omega, by omega⟩, i2c, f2c, by first | exact Or.inl ⟨rfl, w12_0, w79_0⟩ | exact Or.inr ⟨rfl, mm_or0 y2_0 (by omega)⟩ | exact Or.inr ⟨rfl, mm_g7_op w12_0 (by omega) zs (mm_or0 y60_0 (by omega))⟩⟩⟩
set_option maxRecDepth 100000 in
set_option maxHeartbeats 4000000 in
theorem c_X7_readSum_q5 (l : Launch) (hl : l.stackTraces = false) (d : Nat) (hd : 8 ≤ d) (h : mH) (i0 : mm_inv h) (p1 : Int) (bp1 : 5 ≤ p1 ∧ p1 ≤ 5) (t0 : mm_aX h) : mm_Met l d yX7_readSum cX7_readSum 4 (some .boolean) [mR 63, mI p1] h (mm_pi fun r h2 => (0 ≤ r ∧ r ≤ 1) ∧ mm_inv h2 ∧ mm_fr [(63, 4), (63, 5), (63, 6), (63, 7), (63, 8), (63, 9), (63, 10)] [64] h h2 ∧ ((r = 1 ∧ mm_p7 5 h h2 ∧ mm_nB h2) ∨ (r = 0 ∧ mm_g7 5 h h2))) mm_nx 0 0 := by
  refine mm_ofW (ls := [mR 63, mI p1, mU, mU]) hl (by decide) rfl (Nat.le_of_ble_eq_true rfl) ?_
  intro x hxl C T hnm htb
  subst hxl
  have C1 := mm_OK_le (d' := d - 1 + 1) (by omega) C
  have C8 := mm_OK_le (d' := d - 8 + 8) (by omega) C
  refine mm_rng (fun hr _ => ?_)
  have ap1 : -2147483648 ≤ p1 ∧ p1 < 2147483648 := mm_ok_at hr (i := 1) rfl
  have f0 : mm_fr [(63, 4), (63, 5), (63, 6), (63, 7), (63, 8), (63, 9), (63, 10)] [64] h h := mm_fr_rf
  have g1 : -2147483648 ≤ h.1 63 5 ∧ h.1 63 5 ≤ 2147483647 := i0.1 63 5
  have g2 : 0 ≤ h.1 63 7 ∧ h.1 63 7 ≤ 500 := i0.1 63 7
  have g3 : 0 ≤ h.1 63 8 ∧ h.1 63 8 ≤ 500 := i0.1 63 8
  have g4 : 0 ≤ h.1 63 3 ∧ h.1 63 3 ≤ 500 := i0.1 63 3
  have g5 : -2147483648 ≤ h.1 63 6 ∧ h.1 63 6 ≤ 2147483647 := i0.1 63 6
  have g6 : -2147483648 ≤ h.1 63 9 ∧ h.1 63 9 ≤ 2147483647 := i0.1 63 9
  have g7 : -2147483648 ≤ h.1 63 10 ∧ h.1 63 10 ≤ 2147483647 := i0.1 63 10
  have tf := mm_cX_h i0 t0
  have tr := mm_cX_r i0 t0
  refine mm_aload_n C (mm_dec dk_X7_readSum 0 rfl) rfl ?_
  refine mm_iload_n C (mm_dec dk_X7_readSum 1 rfl) rfl ?_
  refine mm_cVi (rest := []) C1 ev_X7_116 (mm_dec dk_X7_readSum 2 rfl) (c_X7_readProduct_q5 x.2.1 hl (d - 1) (by omega) h i0 p1 ⟨by omega, by omega⟩ (by exact t0)) rfl rfl (Nat.le_of_ble_eq_true rfl) ⟨by decide, by decide⟩ rfl (fun r2 h2c hp2 => ?_) (fun _ _ q => q.elim)
  obtain ⟨b2, i2c, g2c, y2_0⟩ := hp2
  have f2c : mm_fr [(63, 4), (63, 5), (63, 6), (63, 7), (63, 8), (63, 9), (63, 10)] [64] h h2c := mm_fr_tr f0 g2c (by decide +kernel)
  have q2c_9 : h2c.1 63 3 = h.1 63 3 := g2c.1 63 3 (by decide)
  have g10 : -2147483648 ≤ (h2c.1 63 5) ∧ (h2c.1 63 5) ≤ 2147483647 := i2c.1 63 5
  have g11 : 0 ≤ (h2c.1 63 7) ∧ (h2c.1 63 7) ≤ 500 := i2c.1 63 7
  have g12 : 0 ≤ (h2c.1 63 8) ∧ (h2c.1 63 8) ≤ 500 := i2c.1 63 8
  have g13 : -2147483648 ≤ (h2c.1 63 6) ∧ (h2c.1 63 6) ≤ 2147483647 := i2c.1 63 6
  have g14 : -2147483648 ≤ (h2c.1 63 9) ∧ (h2c.1 63 9) ≤ 2147483647 := i2c.1 63 9
  have g15 : -2147483648 ≤ (h2c.1 63 10) ∧ (h2c.1 63 10) ≤ 2147483647 := i2c.1 63 10
  refine mm_if_ne (tgt := 10) C (mm_dec dk_X7_readSum 3 rfl) (by decide) (fun c5 => ?_) (fun c5 => ?_)
  · skip
    refine mm_iconst C (mm_dec dk_X7_readSum 6 rfl) ⟨by decide, by decide⟩ ?_
    have J12 : ∀ (n : Nat) (x12_2 : Int) (bx12_2 : 0 ≤ x12_2 ∧ x12_2 ≤ 500) (h12_ : mH) (i12_ : mm_inv h12_) (f12_ : mm_fr [(63, 4), (63, 5), (63, 6), (63, 7), (63, 8), (63, 9), (63, 10)] [64] h h12_) (w12_0 : mm_p7 5 h h12_) (w12_1 : x12_2 ≤ h12_.1 63 7) (w12_2 : mm_nA h12_), (500 - x12_2 : Int) < n → mm_W x 0 0 12 [mR 63, mI p1, mI x12_2, mU] [] h12_ := by
      intro n
      induction n with
      | zero =>
        intro x12_2 bx12_2 h12_ i12_ f12_ w12_0 w12_1 w12_2 hm
        have g16 : -2147483648 ≤ h12_.1 63 5 ∧ h12_.1 63 5 ≤ 2147483647 := i12_.1 63 5
        have g17 : 0 ≤ h12_.1 63 7 ∧ h12_.1 63 7 ≤ 500 := i12_.1 63 7
        have g18 : 0 ≤ h12_.1 63 8 ∧ h12_.1 63 8 ≤ 500 := i12_.1 63 8
        have g19 : 0 ≤ h12_.1 63 3 ∧ h12_.1 63 3 ≤ 500 := i12_.1 63 3
        have g20 : -2147483648 ≤ h12_.1 63 6 ∧ h12_.1 63 6 ≤ 2147483647 := i12_.1 63 6
        have g21 : -2147483648 ≤ h12_.1 63 9 ∧ h12_.1 63 9 ≤ 2147483647 := i12_.1 63 9
        have g22 : -2147483648 ≤ h12_.1 63 10 ∧ h12_.1 63 10 ≤ 2147483647 := i12_.1 63 10
        exfalso; omega
      | succ n ih12 =>
        intro x12_2 bx12_2 h12_ i12_ f12_ w12_0 w12_1 w12_2 hm12
        have g23 : -2147483648 ≤ h12_.1 63 5 ∧ h12_.1 63 5 ≤ 2147483647 := i12_.1 63 5
        have g24 : 0 ≤ h12_.1 63 7 ∧ h12_.1 63 7 ≤ 500 := i12_.1 63 7
        have g25 : 0 ≤ h12_.1 63 8 ∧ h12_.1 63 8 ≤ 500 := i12_.1 63 8
        have g26 : 0 ≤ h12_.1 63 3 ∧ h12_.1 63 3 ≤ 500 := i12_.1 63 3
        have g27 : -2147483648 ≤ h12_.1 63 6 ∧ h12_.1 63 6 ≤ 2147483647 := i12_.1 63 6
        have g28 : -2147483648 ≤ h12_.1 63 9 ∧ h12_.1 63 9 ≤ 2147483647 := i12_.1 63 9
        have g29 : -2147483648 ≤ h12_.1 63 10 ∧ h12_.1 63 10 ≤ 2147483647 := i12_.1 63 10
        have g30 : h12_.1 63 3 = h.1 63 3 := f12_.1 63 3 (by decide)
        have tf12 := mm_cX_h i12_ w12_0.1.2.1
        have tr12 := mm_cX_r i12_ w12_0.1.2.1
        refine mm_iload_n C (mm_dec dk_X7_readSum 8 rfl) rfl ?_
        refine mm_sipush C (mm_dec dk_X7_readSum 9 rfl) ⟨by decide, by decide⟩ ?_
        have J79 : ∀ (w79_0 : mm_nB h12_), mm_W x 0 0 79 [mU, mU, mU, mU] [] h12_ := by
          intro w79_0
          have g31 : -2147483648 ≤ h12_.1 63 5 ∧ h12_.1 63 5 ≤ 2147483647 := i12_.1 63 5
          have g32 : 0 ≤ h12_.1 63 7 ∧ h12_.1 63 7 ≤ 500 := i12_.1 63 7
          have g33 : 0 ≤ h12_.1 63 8 ∧ h12_.1 63 8 ≤ 500 := i12_.1 63 8
          have g34 : 0 ≤ h12_.1 63 3 ∧ h12_.1 63 3 ≤ 500 := i12_.1 63 3
          have g35 : -2147483648 ≤ h12_.1 63 6 ∧ h12_.1 63 6 ≤ 2147483647 := i12_.1 63 6
          have g36 : -2147483648 ≤ h12_.1 63 9 ∧ h12_.1 63 9 ≤ 2147483647 := i12_.1 63 9
          have g37 : -2147483648 ≤ h12_.1 63 10 ∧ h12_.1 63 10 ≤ 2147483647 := i12_.1 63 10
          refine mm_iconst C (mm_dec dk_X7_readSum 40 rfl) ⟨by decide, by decide⟩ ?_
          exact mm_zret C T (mm_dec dk_X7_readSum 41 rfl) (by decide : 0 ≤ 0) (by decide : 0 ≤ 0) (by omega) ⟨_, rfl, ⟨⟨by omega, by omega⟩, i12_, f12_, by first | exact Or.inl ⟨rfl, w12_0, w79_0⟩ | exact Or.inr ⟨rfl, mm_or0 y2_0 (by omega)⟩ | exact Or.inr ⟨rfl, mm_g7_op w12_0 (by omega) zs (mm_or0 y60_0 (by omega))⟩⟩⟩
        refine mm_icmp_ge (tgt := 79) C (mm_dec dk_X7_readSum 10 rfl) (by decide) (fun c16 => ?_) (fun c16 => ?_)
        · skip
          refine mm_fgt 0 ?_
          refine mm_fgt 1 ?_
          refine mm_fgt 2 ?_
          exact J79 (by (unfold mm_nB; have zz := mm_hdx tf12; have z := w12_2; unfold mm_nA at z; omega))
        · skip
          refine mm_aload_n C (mm_dec dk_X7_readSum 11 rfl) rfl ?_
          refine mm_bipush C (mm_dec dk_X7_readSum 12 rfl) ⟨by decide, by decide⟩ ?_
          refine mm_cVi (rest := []) C1 ev_X7_96 (mm_dec dk_X7_readSum 13 rfl) (c_X7_isSign x.2.1 hl (d - 1) (by omega) h12_ i12_ 43 (by omega)) rfl rfl (Nat.le_of_ble_eq_true rfl) ⟨by decide, by decide⟩ rfl (fun r22 h22c hp22 => ?_) (fun _ _ q => q.elim)
          obtain ⟨z22, y22⟩ := hp22
          rw [z22]
          have g39 : -2147483648 ≤ (h12_.2.1 62 (h12_.1 63 7)) ∧ (h12_.2.1 62 (h12_.1 63 7)) ≤ 2147483647 := i12_.2.1 62 (h12_.1 63 7)
          have J37 : ∀ (w37_0 : (mm_cX h12_ = 143 ∨ mm_cX h12_ = 145)), mm_W x 0 0 37 [mR 63, mI p1, mI x12_2, mU] [] h12_ := by
            intro w37_0
            have g40 : -2147483648 ≤ h12_.1 63 5 ∧ h12_.1 63 5 ≤ 2147483647 := i12_.1 63 5
            have g41 : 0 ≤ h12_.1 63 7 ∧ h12_.1 63 7 ≤ 500 := i12_.1 63 7
            have g42 : 0 ≤ h12_.1 63 8 ∧ h12_.1 63 8 ≤ 500 := i12_.1 63 8
            have g43 : 0 ≤ h12_.1 63 3 ∧ h12_.1 63 3 ≤ 500 := i12_.1 63 3
            have g44 : -2147483648 ≤ h12_.1 63 6 ∧ h12_.1 63 6 ≤ 2147483647 := i12_.1 63 6
            have g45 : -2147483648 ≤ h12_.1 63 9 ∧ h12_.1 63 9 ≤ 2147483647 := i12_.1 63 9
            have g46 : -2147483648 ≤ h12_.1 63 10 ∧ h12_.1 63 10 ≤ 2147483647 := i12_.1 63 10
            refine mm_aload_n C (mm_dec dk_X7_readSum 19 rfl) rfl ?_
            refine mm_bipush C (mm_dec dk_X7_readSum 20 rfl) ⟨by decide, by decide⟩ ?_
            refine mm_cVi (rest := []) C1 ev_X7_96 (mm_dec dk_X7_readSum 21 rfl) (c_X7_isSign x.2.1 hl (d - 1) (by omega) h12_ i12_ 43 (by omega)) rfl rfl (Nat.le_of_ble_eq_true rfl) ⟨by decide, by decide⟩ rfl (fun r40 h40c hp40 => ?_) (fun _ _ q => q.elim)
            obtain ⟨z40, y40⟩ := hp40
            rw [z40]
            have J53 : ∀ (s53_0 : Int) (bs53_0 : 100015 ≤ s53_0 ∧ s53_0 ≤ 100016) (vs53_0 : (r40 ≠ 0 ∧ s53_0 = 100015) ∨ (r40 = 0 ∧ s53_0 = 100016)), mm_W x 0 0 53 [mR 63, mI p1, mI x12_2, mU] [mI s53_0] h12_ := by
              intro s53_0 bs53_0 vs53_0
              have g48 : -2147483648 ≤ h12_.1 63 5 ∧ h12_.1 63 5 ≤ 2147483647 := i12_.1 63 5
              have g49 : 0 ≤ h12_.1 63 7 ∧ h12_.1 63 7 ≤ 500 := i12_.1 63 7
              have g50 : 0 ≤ h12_.1 63 8 ∧ h12_.1 63 8 ≤ 500 := i12_.1 63 8
              have g51 : 0 ≤ h12_.1 63 3 ∧ h12_.1 63 3 ≤ 500 := i12_.1 63 3
              have g52 : -2147483648 ≤ h12_.1 63 6 ∧ h12_.1 63 6 ≤ 2147483647 := i12_.1 63 6
              have g53 : -2147483648 ≤ h12_.1 63 9 ∧ h12_.1 63 9 ≤ 2147483647 := i12_.1 63 9
              have g54 : -2147483648 ≤ h12_.1 63 10 ∧ h12_.1 63 10 ≤ 2147483647 := i12_.1 63 10
              refine mm_istore_nL (ls2 := [mR 63, mI p1, mI x12_2, mI s53_0]) C (mm_dec dk_X7_readSum 26 rfl) (by decide) rfl ?_
              refine mm_aload_n C (mm_dec dk_X7_readSum 27 rfl) rfl ?_
              refine mm_cVv (rest := []) C1 ev_X7_52 (mm_dec dk_X7_readSum 28 rfl) (c_X7_step_q x.2.1 hl (d - 1) (by omega) h12_ i12_ ) rfl rfl (Nat.le_of_ble_eq_true rfl) ⟨by decide, by decide⟩ rfl (fun h55c hp55 => ?_) (fun _ _ q => q.elim)
              obtain ⟨i55c, g55c, y55_0, y55_1, y55_2⟩ := hp55
              have f55c : mm_fr [(63, 4), (63, 5), (63, 6), (63, 7), (63, 8), (63, 9), (63, 10)] [64] h h55c := mm_fr_tr f12_ g55c (by decide +kernel)
              have q55c_56 : h55c.1 63 3 = h12_.1 63 3 := g55c.1 63 3 (by decide)
              have q55c_57 : h55c.1 63 9 = h12_.1 63 9 := g55c.1 63 9 (by decide)
              have q55c_58 : h55c.1 63 10 = h12_.1 63 10 := g55c.1 63 10 (by decide)
              have g59 : -2147483648 ≤ (h55c.1 63 5) ∧ (h55c.1 63 5) ≤ 2147483647 := i55c.1 63 5
              have g60 : 0 ≤ (h55c.1 63 7) ∧ (h55c.1 63 7) ≤ 500 := i55c.1 63 7
              have g61 : 0 ≤ (h55c.1 63 8) ∧ (h55c.1 63 8) ≤ 500 := i55c.1 63 8
              have g62 : -2147483648 ≤ (h55c.1 63 6) ∧ (h55c.1 63 6) ≤ 2147483647 := i55c.1 63 6
              have zs := mm_st7_of w12_0.1.2.1 y55_1 y55_2 g55c (by decide)
              have zl := mm_st7_lt zs (by omega)
              refine mm_aload_n C (mm_dec dk_X7_readSum 29 rfl) rfl ?_
              refine mm_iload_n C (mm_dec dk_X7_readSum 30 rfl) rfl ?_
              refine mm_cVi (rest := []) C1 ev_X7_116 (mm_dec dk_X7_readSum 31 rfl) (c_X7_readProduct_q5 x.2.1 hl (d - 1) (by omega) h55c i55c p1 ⟨by omega, by omega⟩ (by exact y55_1)) rfl rfl (Nat.le_of_ble_eq_true rfl) ⟨by decide, by decide⟩ rfl (fun r60 h60c hp60 => ?_) (fun _ _ q => q.elim)
              obtain ⟨b60, i60c, g60c, y60_0⟩ := hp60
              have f60c : mm_fr [(63, 4), (63, 5), (63, 6), (63, 7), (63, 8), (63, 9), (63, 10)] [64] h h60c := mm_fr_tr f55c g60c (by decide +kernel)
              have q60c_64 : h60c.1 63 3 = h55c.1 63 3 := g60c.1 63 3 (by decide)
              have g65 : -2147483648 ≤ (h60c.1 63 5) ∧ (h60c.1 63 5) ≤ 2147483647 := i60c.1 63 5
              have g66 : 0 ≤ (h60c.1 63 7) ∧ (h60c.1 63 7) ≤ 500 := i60c.1 63 7
              have g67 : 0 ≤ (h60c.1 63 8) ∧ (h60c.1 63 8) ≤ 500 := i60c.1 63 8
              have g68 : -2147483648 ≤ (h60c.1 63 6) ∧ (h60c.1 63 6) ≤ 2147483647 := i60c.1 63 6
              have g69 : -2147483648 ≤ (h60c.1 63 9) ∧ (h60c.1 63 9) ≤ 2147483647 := i60c.1 63 9
              have g70 : -2147483648 ≤ (h60c.1 63 10) ∧ (h60c.1 63 10) ≤ 2147483647 := i60c.1 63 10
              refine mm_if_ne (tgt := 68) C (mm_dec dk_X7_readSum 32 rfl) (by decide) (fun c63 => ?_) (fun c63 => ?_)
              · skip
                refine mm_aload_n C (mm_dec dk_X7_readSum 35 rfl) rfl ?_
                refine mm_iload_n C (mm_dec dk_X7_readSum 36 rfl) rfl ?_
                refine mm_cVv (rest := []) C1 ev_X7_79 (mm_dec dk_X7_readSum 37 rfl) (c_X7_emit x.2.1 hl (d - 1) (by omega) h60c i60c s53_0) rfl rfl (Nat.le_of_ble_eq_true rfl) ⟨by decide, by decide⟩ rfl (fun h70c hp70 => ?_) (fun _ _ q => q.elim)
                obtain ⟨i70c, g70c⟩ := hp70
                have f70c : mm_fr [(63, 4), (63, 5), (63, 6), (63, 7), (63, 8), (63, 9), (63, 10)] [64] h h70c := mm_fr_tr f60c g70c (by decide +kernel)
                have q70c_72 : h70c.1 63 3 = h60c.1 63 3 := g70c.1 63 3 (by decide)
                have q70c_73 : h70c.1 63 5 = h60c.1 63 5 := g70c.1 63 5 (by decide)
                have q70c_74 : h70c.1 63 6 = h60c.1 63 6 := g70c.1 63 6 (by decide)
                have q70c_75 : h70c.1 63 7 = h60c.1 63 7 := g70c.1 63 7 (by decide)
                have q70c_76 : h70c.1 63 8 = h60c.1 63 8 := g70c.1 63 8 (by decide)
                have q70c_77 : h70c.1 63 9 = h60c.1 63 9 := g70c.1 63 9 (by decide)
                have q70c_78 : h70c.1 63 10 = h60c.1 63 10 := g70c.1 63 10 (by decide)
                have zt := g70c.1 63 7 (by decide)
                have zu := (mm_or1 y60_0 (by omega)).1.2.1
                refine mm_iincL (ls2 := [mR 63, mI p1, mI (x12_2 + 1), mI s53_0]) C (mm_dec dk_X7_readSum 38 rfl) rfl (by decide) ⟨by omega, by omega⟩ rfl ?_
                refine mm_goto (tgt := 12) C (mm_dec dk_X7_readSum 39 rfl) (by decide) ?_
                refine mm_fgt 3 ?_
                exact ih12 (x12_2 + 1) ⟨by omega, by omega⟩ h70c i70c f70c (by first | exact (mm_or1 y2_0 (by omega)).1 | exact mm_p7_em (mm_p7_op w12_0 (by omega) zs (mm_or1 y60_0 (by omega)).1) (mm_em_fr g70c (by decide))) (by omega) (by first | exact (mm_or1 y2_0 (by omega)).2 | exact mm_nA_em (mm_or1 y60_0 (by omega)).2 (mm_em_fr g70c (by decide))) (by omega)
              · skip
                refine mm_iconst C (mm_dec dk_X7_readSum 33 rfl) ⟨by decide, by decide⟩ ?_
                exact mm_zret C T (mm_dec dk_X7_readSum 34 rfl) (by decide : 0 ≤ 0) (by decide : 0 ≤ 0) (by omega) ⟨_, rfl, ⟨⟨by omega, by omega⟩, i60c, f60c, by first | exact Or.inl ⟨rfl, w12_0, w79_0⟩ | exact Or.inr ⟨rfl, mm_or0 y2_0 (by omega)⟩ | exact Or.inr ⟨rfl, mm_g7_op w12_0 (by omega) zs (mm_or0 y60_0 (by omega))⟩⟩⟩
            refine mm_if_eq (tgt := 51) C (mm_dec dk_X7_readSum 22 rfl) (by decide) (fun c43 => ?_) (fun c43 => ?_)
            · skip
              refine mm_ldc (z := 100016) C (mm_dec dk_X7_readSum 25 rfl) kc_X7_120 (by decide) ?_
              exact J53 100016 ⟨by omega, by omega⟩ (Or.inr (⟨by omega, rfl⟩))
            · skip
              refine mm_ldc (z := 100015) C (mm_dec dk_X7_readSum 23 rfl) kc_X7_119 (by decide) ?_
              refine mm_goto (tgt := 53) C (mm_dec dk_X7_readSum 24 rfl) (by decide) ?_
              exact J53 100015 ⟨by omega, by omega⟩ (Or.inl ⟨by omega, rfl⟩)
          refine mm_if_ne (tgt := 37) C (mm_dec dk_X7_readSum 14 rfl) (by decide) (fun c25 => ?_) (fun c25 => ?_)
          · skip
            exact J37 (by have zz := mm_hdx tf12; omega)
          · skip
            refine mm_aload_n C (mm_dec dk_X7_readSum 15 rfl) rfl ?_
            refine mm_bipush C (mm_dec dk_X7_readSum 16 rfl) ⟨by decide, by decide⟩ ?_
            refine mm_cVi (rest := []) C1 ev_X7_96 (mm_dec dk_X7_readSum 17 rfl) (c_X7_isSign x.2.1 hl (d - 1) (by omega) h12_ i12_ 45 (by omega)) rfl rfl (Nat.le_of_ble_eq_true rfl) ⟨by decide, by decide⟩ rfl (fun r31 h31c hp31 => ?_) (fun _ _ q => q.elim)
            obtain ⟨z31, y31⟩ := hp31
            rw [z31]
            refine mm_if_eq (tgt := 79) C (mm_dec dk_X7_readSum 18 rfl) (by decide) (fun c34 => ?_) (fun c34 => ?_)
            · skip
              refine mm_fgt 0 ?_
              refine mm_fgt 1 ?_
              refine mm_fgt 2 ?_
              exact J79 (by (unfold mm_nB; have zz := mm_hdx tf12; have z := w12_2; unfold mm_nA at z; omega))
            · skip
              exact J37 (by have zz := mm_hdx tf12; omega)
    refine mm_istore_nL (ls2 := [mR 63, mI p1, mI 0, mU]) C (mm_dec dk_X7_readSum 7 rfl) (by decide) rfl ?_
    exact J12 (((500 - 0) : Int) + 1).toNat 0 ⟨by omega, by omega⟩ h2c i2c f2c (by first | exact (mm_or1 y2_0 (by omega)).1 | exact mm_p7_em (mm_p7_op w12_0 (by omega) zs (mm_or1 y60_0 (by omega)).1) (mm_em_fr g70c (by decide))) (by omega) (by first | exact (mm_or1 y2_0 (by omega)).2 | exact mm_nA_em (mm_or1 y60_0 (by omega)).2 (mm_em_fr g70c (by decide))) (by omega)
  · skip
    refine mm_iconst C (mm_dec dk_X7_readSum 4 rfl) ⟨by decide, by decide⟩ ?_
    exact mm_zret C T (mm_dec dk_X7_readSum 5 rfl) (by decide : 0 ≤ 0) (by decide : 0 ≤ 0) (by omega) ⟨_, rfl, ⟨⟨by omega, by omega⟩, i2c, f2c, by first | exact Or.inl ⟨rfl, w12_0, w79_0⟩ | exact Or.inr ⟨rfl, mm_or0 y2_0 (by omega)⟩ | exact Or.inr ⟨rfl, mm_g7_op w12_0 (by omega) zs (mm_or0 y60_0 (by omega))⟩⟩⟩
set_option maxRecDepth 100000 in
set_option maxHeartbeats 4000000 in
theorem c_X7_readTest_q5 (l : Launch) (hl : l.stackTraces = false) (d : Nat) (hd : 9 ≤ d) (h : mH) (i0 : mm_inv h) (p1 : Int) (bp1 : 5 ≤ p1 ∧ p1 ≤ 5) (t0 : mm_aX h) : mm_Met l d yX7_readTest cX7_readTest 3 (some .boolean) [mR 63, mI p1] h (mm_pi fun r h2 => (0 ≤ r ∧ r ≤ 1) ∧ mm_inv h2 ∧ mm_fr [(63, 4), (63, 5), (63, 6), (63, 7), (63, 8), (63, 9), (63, 10)] [64] h h2 ∧ ((r = 1 ∧ mm_q7 1 5 h h2 ∧ mm_nB h2) ∨ (r = 0 ∧ mm_f7 1 5 h h2))) mm_nx 0 0 := by
  refine mm_ofW (ls := [mR 63, mI p1, mU]) hl (by decide) rfl (Nat.le_of_ble_eq_true rfl) ?_
  intro x hxl C T hnm htb
  subst hxl
  have C1 := mm_OK_le (d' := d - 1 + 1) (by omega) C
  have C8 := mm_OK_le (d' := d - 8 + 8) (by omega) C
  refine mm_rng (fun hr _ => ?_)
  have ap1 : -2147483648 ≤ p1 ∧ p1 < 2147483648 := mm_ok_at hr (i := 1) rfl
  have f0 : mm_fr [(63, 4), (63, 5), (63, 6), (63, 7), (63, 8), (63, 9), (63, 10)] [64] h h := mm_fr_rf
  have g1 : -2147483648 ≤ h.1 63 5 ∧ h.1 63 5 ≤ 2147483647 := i0.1 63 5
  have g2 : 0 ≤ h.1 63 7 ∧ h.1 63 7 ≤ 500 := i0.1 63 7
  have g3 : 0 ≤ h.1 63 8 ∧ h.1 63 8 ≤ 500 := i0.1 63 8
  have g4 : 0 ≤ h.1 63 3 ∧ h.1 63 3 ≤ 500 := i0.1 63 3
  have g5 : -2147483648 ≤ h.1 63 6 ∧ h.1 63 6 ≤ 2147483647 := i0.1 63 6
  have g6 : -2147483648 ≤ h.1 63 9 ∧ h.1 63 9 ≤ 2147483647 := i0.1 63 9
  have g7 : -2147483648 ≤ h.1 63 10 ∧ h.1 63 10 ≤ 2147483647 := i0.1 63 10
  have tf := mm_cX_h i0 t0
  have tr := mm_cX_r i0 t0
  refine mm_aload_n C (mm_dec dk_X7_readTest 0 rfl) rfl ?_
  refine mm_iload_n C (mm_dec dk_X7_readTest 1 rfl) rfl ?_
  refine mm_cVi (rest := []) C1 ev_X7_111 (mm_dec dk_X7_readTest 2 rfl) (c_X7_readSum_q5 x.2.1 hl (d - 1) (by omega) h i0 p1 ⟨by omega, by omega⟩ (by exact t0)) rfl rfl (Nat.le_of_ble_eq_true rfl) ⟨by decide, by decide⟩ rfl (fun r2 h2c hp2 => ?_) (fun _ _ q => q.elim)
  obtain ⟨b2, i2c, g2c, y2_0⟩ := hp2
  have f2c : mm_fr [(63, 4), (63, 5), (63, 6), (63, 7), (63, 8), (63, 9), (63, 10)] [64] h h2c := mm_fr_tr f0 g2c (by decide +kernel)
  have q2c_9 : h2c.1 63 3 = h.1 63 3 := g2c.1 63 3 (by decide)
  have g10 : -2147483648 ≤ (h2c.1 63 5) ∧ (h2c.1 63 5) ≤ 2147483647 := i2c.1 63 5
  have g11 : 0 ≤ (h2c.1 63 7) ∧ (h2c.1 63 7) ≤ 500 := i2c.1 63 7
  have g12 : 0 ≤ (h2c.1 63 8) ∧ (h2c.1 63 8) ≤ 500 := i2c.1 63 8
  have g13 : -2147483648 ≤ (h2c.1 63 6) ∧ (h2c.1 63 6) ≤ 2147483647 := i2c.1 63 6
  have g14 : -2147483648 ≤ (h2c.1 63 9) ∧ (h2c.1 63 9) ≤ 2147483647 := i2c.1 63 9
  have g15 : -2147483648 ≤ (h2c.1 63 10) ∧ (h2c.1 63 10) ≤ 2147483647 := i2c.1 63 10
  refine mm_if_ne (tgt := 10) C (mm_dec dk_X7_readTest 3 rfl) (by decide) (fun c5 => ?_) (fun c5 => ?_)
  · skip
    have zp := mm_or1 y2_0 (by omega)
    have tg := mm_cX_h i2c zp.1.1.2.1
    have th := mm_cX_r i2c zp.1.1.2.1
    refine mm_aload_n C (mm_dec dk_X7_readTest 6 rfl) rfl ?_
    refine mm_bipush C (mm_dec dk_X7_readTest 7 rfl) ⟨by decide, by decide⟩ ?_
    refine mm_cVi (rest := []) C1 ev_X7_96 (mm_dec dk_X7_readTest 8 rfl) (c_X7_isSign x.2.1 hl (d - 1) (by omega) h2c i2c 60 (by omega)) rfl rfl (Nat.le_of_ble_eq_true rfl) ⟨by decide, by decide⟩ rfl (fun r13 h13c hp13 => ?_) (fun _ _ q => q.elim)
    obtain ⟨z13, y13⟩ := hp13
    rw [z13]
    have g17 : -2147483648 ≤ (h2c.2.1 62 (h2c.1 63 7)) ∧ (h2c.2.1 62 (h2c.1 63 7)) ≤ 2147483647 := i2c.2.1 62 (h2c.1 63 7)
    have J39 : ∀ (s39_0 : Int) (bs39_0 : -1 ≤ s39_0 ∧ s39_0 ≤ 100014) (w39_0 : ((s39_0 ≠ -1 ∧ (mm_cX h2c = 160 ∨ mm_cX h2c = 161)) ∨ (s39_0 = -1 ∧ mm_cX h2c ≠ 160 ∧ mm_cX h2c ≠ 161))) (vs39_0 : (r13 = 0 ∧ s39_0 = -1) ∨ (r13 ≠ 0 ∧ s39_0 = 100013) ∨ (r13 = 0 ∧ s39_0 = 100014)), mm_W x 0 0 39 [mR 63, mI p1, mU] [mI s39_0] h2c := by
      intro s39_0 bs39_0 w39_0 vs39_0
      refine mm_istore_nL (ls2 := [mR 63, mI p1, mI s39_0]) C (mm_dec dk_X7_readTest 19 rfl) (by decide) rfl ?_
      refine mm_iload_n C (mm_dec dk_X7_readTest 20 rfl) rfl ?_
      refine mm_iconst C (mm_dec dk_X7_readTest 21 rfl) ⟨by decide, by decide⟩ ?_
      have J64 : ∀ (h64_ : mH) (i64_ : mm_inv h64_) (f64_ : mm_fr [(63, 4), (63, 5), (63, 6), (63, 7), (63, 8), (63, 9), (63, 10)] [64] h h64_) (w64_0 : mm_q7 1 5 h h64_) (w64_1 : mm_nB h64_), mm_W x 0 0 64 [mU, mU, mU] [] h64_ := by
        intro h64_ i64_ f64_ w64_0 w64_1
        have g18 : -2147483648 ≤ h64_.1 63 5 ∧ h64_.1 63 5 ≤ 2147483647 := i64_.1 63 5
        have g19 : 0 ≤ h64_.1 63 7 ∧ h64_.1 63 7 ≤ 500 := i64_.1 63 7
        have g20 : 0 ≤ h64_.1 63 8 ∧ h64_.1 63 8 ≤ 500 := i64_.1 63 8
        have g21 : 0 ≤ h64_.1 63 3 ∧ h64_.1 63 3 ≤ 500 := i64_.1 63 3
        have g22 : -2147483648 ≤ h64_.1 63 6 ∧ h64_.1 63 6 ≤ 2147483647 := i64_.1 63 6
        have g23 : -2147483648 ≤ h64_.1 63 9 ∧ h64_.1 63 9 ≤ 2147483647 := i64_.1 63 9
        have g24 : -2147483648 ≤ h64_.1 63 10 ∧ h64_.1 63 10 ≤ 2147483647 := i64_.1 63 10
        have g25 : h64_.1 63 3 = h.1 63 3 := f64_.1 63 3 (by decide)
        refine mm_iconst C (mm_dec dk_X7_readTest 34 rfl) ⟨by decide, by decide⟩ ?_
        exact mm_zret C T (mm_dec dk_X7_readTest 35 rfl) (by decide : 0 ≤ 0) (by decide : 0 ≤ 0) (by omega) ⟨_, rfl, ⟨⟨by omega, by omega⟩, i64_, f64_, by first | exact Or.inl ⟨rfl, w64_0, w64_1⟩ | exact Or.inr ⟨rfl, mm_f7_sum (mm_or0 y2_0 (by omega))⟩ | exact Or.inr ⟨rfl, mm_f7_lt zp.1 (by omega) zs (mm_or0 y51_0 (by omega))⟩⟩⟩
      refine mm_icmp_eq (tgt := 64) C (mm_dec dk_X7_readTest 22 rfl) (by decide) (fun c42 => ?_) (fun c42 => ?_)
      · skip
        refine mm_fgt 0 ?_
        refine mm_fgt 1 ?_
        refine mm_fgt 2 ?_
        exact J64 h2c i2c f2c (by first | exact mm_q7_sum zp.1 (by omega) | exact mm_q7_em (mm_q7_lt zp.1 (by omega) zs (mm_or1 y51_0 (by omega)).1) (mm_em_fr g61c (by decide))) (by first | exact zp.2 | exact mm_nB_em (mm_or1 y51_0 (by omega)).2 (mm_em_fr g61c (by decide)))
      · skip
        refine mm_aload_n C (mm_dec dk_X7_readTest 23 rfl) rfl ?_
        refine mm_cVv (rest := []) C1 ev_X7_52 (mm_dec dk_X7_readTest 24 rfl) (c_X7_step_q x.2.1 hl (d - 1) (by omega) h2c i2c ) rfl rfl (Nat.le_of_ble_eq_true rfl) ⟨by decide, by decide⟩ rfl (fun h46c hp46 => ?_) (fun _ _ q => q.elim)
        obtain ⟨i46c, g46c, y46_0, y46_1, y46_2⟩ := hp46
        have f46c : mm_fr [(63, 4), (63, 5), (63, 6), (63, 7), (63, 8), (63, 9), (63, 10)] [64] h h46c := mm_fr_tr f2c g46c (by decide +kernel)
        have q46c_27 : h46c.1 63 3 = h2c.1 63 3 := g46c.1 63 3 (by decide)
        have q46c_28 : h46c.1 63 9 = h2c.1 63 9 := g46c.1 63 9 (by decide)
        have q46c_29 : h46c.1 63 10 = h2c.1 63 10 := g46c.1 63 10 (by decide)
        have g30 : -2147483648 ≤ (h46c.1 63 5) ∧ (h46c.1 63 5) ≤ 2147483647 := i46c.1 63 5
        have g31 : 0 ≤ (h46c.1 63 7) ∧ (h46c.1 63 7) ≤ 500 := i46c.1 63 7
        have g32 : 0 ≤ (h46c.1 63 8) ∧ (h46c.1 63 8) ≤ 500 := i46c.1 63 8
        have g33 : -2147483648 ≤ (h46c.1 63 6) ∧ (h46c.1 63 6) ≤ 2147483647 := i46c.1 63 6
        have zs := mm_st7_of zp.1.1.2.1 y46_1 y46_2 g46c (by decide)
        refine mm_aload_n C (mm_dec dk_X7_readTest 25 rfl) rfl ?_
        refine mm_iload_n C (mm_dec dk_X7_readTest 26 rfl) rfl ?_
        refine mm_cVi (rest := []) C1 ev_X7_111 (mm_dec dk_X7_readTest 27 rfl) (c_X7_readSum_q5 x.2.1 hl (d - 1) (by omega) h46c i46c p1 ⟨by omega, by omega⟩ (by exact y46_1)) rfl rfl (Nat.le_of_ble_eq_true rfl) ⟨by decide, by decide⟩ rfl (fun r51 h51c hp51 => ?_) (fun _ _ q => q.elim)
        obtain ⟨b51, i51c, g51c, y51_0⟩ := hp51
        have f51c : mm_fr [(63, 4), (63, 5), (63, 6), (63, 7), (63, 8), (63, 9), (63, 10)] [64] h h51c := mm_fr_tr f46c g51c (by decide +kernel)
        have q51c_35 : h51c.1 63 3 = h46c.1 63 3 := g51c.1 63 3 (by decide)
        have g36 : -2147483648 ≤ (h51c.1 63 5) ∧ (h51c.1 63 5) ≤ 2147483647 := i51c.1 63 5
        have g37 : 0 ≤ (h51c.1 63 7) ∧ (h51c.1 63 7) ≤ 500 := i51c.1 63 7
        have g38 : 0 ≤ (h51c.1 63 8) ∧ (h51c.1 63 8) ≤ 500 := i51c.1 63 8
        have g39 : -2147483648 ≤ (h51c.1 63 6) ∧ (h51c.1 63 6) ≤ 2147483647 := i51c.1 63 6
        have g40 : -2147483648 ≤ (h51c.1 63 9) ∧ (h51c.1 63 9) ≤ 2147483647 := i51c.1 63 9
        have g41 : -2147483648 ≤ (h51c.1 63 10) ∧ (h51c.1 63 10) ≤ 2147483647 := i51c.1 63 10
        refine mm_if_ne (tgt := 59) C (mm_dec dk_X7_readTest 28 rfl) (by decide) (fun c54 => ?_) (fun c54 => ?_)
        · skip
          refine mm_aload_n C (mm_dec dk_X7_readTest 31 rfl) rfl ?_
          refine mm_iload_n C (mm_dec dk_X7_readTest 32 rfl) rfl ?_
          refine mm_cVv (rest := []) C1 ev_X7_79 (mm_dec dk_X7_readTest 33 rfl) (c_X7_emit x.2.1 hl (d - 1) (by omega) h51c i51c s39_0) rfl rfl (Nat.le_of_ble_eq_true rfl) ⟨by decide, by decide⟩ rfl (fun h61c hp61 => ?_) (fun _ _ q => q.elim)
          obtain ⟨i61c, g61c⟩ := hp61
          have f61c : mm_fr [(63, 4), (63, 5), (63, 6), (63, 7), (63, 8), (63, 9), (63, 10)] [64] h h61c := mm_fr_tr f51c g61c (by decide +kernel)
          have q61c_43 : h61c.1 63 3 = h51c.1 63 3 := g61c.1 63 3 (by decide)
          have q61c_44 : h61c.1 63 5 = h51c.1 63 5 := g61c.1 63 5 (by decide)
          have q61c_45 : h61c.1 63 6 = h51c.1 63 6 := g61c.1 63 6 (by decide)
          have q61c_46 : h61c.1 63 7 = h51c.1 63 7 := g61c.1 63 7 (by decide)
          have q61c_47 : h61c.1 63 8 = h51c.1 63 8 := g61c.1 63 8 (by decide)
          have q61c_48 : h61c.1 63 9 = h51c.1 63 9 := g61c.1 63 9 (by decide)
          have q61c_49 : h61c.1 63 10 = h51c.1 63 10 := g61c.1 63 10 (by decide)
          refine mm_fgt 0 ?_
          refine mm_fgt 1 ?_
          refine mm_fgt 2 ?_
          exact J64 h61c i61c f61c (by first | exact mm_q7_sum zp.1 (by omega) | exact mm_q7_em (mm_q7_lt zp.1 (by omega) zs (mm_or1 y51_0 (by omega)).1) (mm_em_fr g61c (by decide))) (by first | exact zp.2 | exact mm_nB_em (mm_or1 y51_0 (by omega)).2 (mm_em_fr g61c (by decide)))
        · skip
          refine mm_iconst C (mm_dec dk_X7_readTest 29 rfl) ⟨by decide, by decide⟩ ?_
          exact mm_zret C T (mm_dec dk_X7_readTest 30 rfl) (by decide : 0 ≤ 0) (by decide : 0 ≤ 0) (by omega) ⟨_, rfl, ⟨⟨by omega, by omega⟩, i51c, f51c, by first | exact Or.inl ⟨rfl, w64_0, w64_1⟩ | exact Or.inr ⟨rfl, mm_f7_sum (mm_or0 y2_0 (by omega))⟩ | exact Or.inr ⟨rfl, mm_f7_lt zp.1 (by omega) zs (mm_or0 y51_0 (by omega))⟩⟩⟩
    refine mm_if_eq (tgt := 24) C (mm_dec dk_X7_readTest 9 rfl) (by decide) (fun c16 => ?_) (fun c16 => ?_)
    · skip
      refine mm_aload_n C (mm_dec dk_X7_readTest 12 rfl) rfl ?_
      refine mm_bipush C (mm_dec dk_X7_readTest 13 rfl) ⟨by decide, by decide⟩ ?_
      refine mm_cVi (rest := []) C1 ev_X7_96 (mm_dec dk_X7_readTest 14 rfl) (c_X7_isSign x.2.1 hl (d - 1) (by omega) h2c i2c 61 (by omega)) rfl rfl (Nat.le_of_ble_eq_true rfl) ⟨by decide, by decide⟩ rfl (fun r27 h27c hp27 => ?_) (fun _ _ q => q.elim)
      obtain ⟨z27, y27⟩ := hp27
      rw [z27]
      refine mm_if_eq (tgt := 38) C (mm_dec dk_X7_readTest 15 rfl) (by decide) (fun c30 => ?_) (fun c30 => ?_)
      · skip
        refine mm_iconst C (mm_dec dk_X7_readTest 18 rfl) ⟨by decide, by decide⟩ ?_
        exact J39 (-1) ⟨by omega, by omega⟩ (by have zz := mm_hdx tg; omega) (Or.inl ⟨by omega, rfl⟩)
      · skip
        refine mm_ldc (z := 100014) C (mm_dec dk_X7_readTest 16 rfl) kc_X7_115 (by decide) ?_
        refine mm_goto (tgt := 39) C (mm_dec dk_X7_readTest 17 rfl) (by decide) ?_
        exact J39 100014 ⟨by omega, by omega⟩ (by have zz := mm_hdx tg; omega) (Or.inr (Or.inr (⟨by omega, rfl⟩)))
    · skip
      refine mm_ldc (z := 100013) C (mm_dec dk_X7_readTest 10 rfl) kc_X7_114 (by decide) ?_
      refine mm_goto (tgt := 39) C (mm_dec dk_X7_readTest 11 rfl) (by decide) ?_
      exact J39 100013 ⟨by omega, by omega⟩ (by have zz := mm_hdx tg; omega) (Or.inr (Or.inl ⟨by omega, rfl⟩))
  · skip
    refine mm_iconst C (mm_dec dk_X7_readTest 4 rfl) ⟨by decide, by decide⟩ ?_
    exact mm_zret C T (mm_dec dk_X7_readTest 5 rfl) (by decide : 0 ≤ 0) (by decide : 0 ≤ 0) (by omega) ⟨_, rfl, ⟨⟨by omega, by omega⟩, i2c, f2c, by first | exact Or.inl ⟨rfl, w64_0, w64_1⟩ | exact Or.inr ⟨rfl, mm_f7_sum (mm_or0 y2_0 (by omega))⟩ | exact Or.inr ⟨rfl, mm_f7_lt zp.1 (by omega) zs (mm_or0 y51_0 (by omega))⟩⟩⟩
set_option maxRecDepth 100000 in
set_option maxHeartbeats 4000000 in
theorem c_X7_readNot_q5 (l : Launch) (hl : l.stackTraces = false) (d : Nat) (hd : 10 ≤ d) (h : mH) (i0 : mm_inv h) (p1 : Int) (bp1 : 5 ≤ p1 ∧ p1 ≤ 5) (t0 : mm_aX h) : mm_Met l d yX7_readNot cX7_readNot 4 (some .boolean) [mR 63, mI p1] h (mm_pi fun r h2 => (0 ≤ r ∧ r ≤ 1) ∧ mm_inv h2 ∧ mm_fr [(63, 4), (63, 5), (63, 6), (63, 7), (63, 8), (63, 9), (63, 10)] [64] h h2 ∧ ((r = 1 ∧ mm_q7 0 5 h h2 ∧ mm_nB h2) ∨ (r = 0 ∧ mm_f7 0 5 h h2))) mm_nx 0 0 := by
  refine mm_ofW (ls := [mR 63, mI p1, mU, mU]) hl (by decide) rfl (Nat.le_of_ble_eq_true rfl) ?_
  intro x hxl C T hnm htb
  subst hxl
  have C1 := mm_OK_le (d' := d - 1 + 1) (by omega) C
  have C8 := mm_OK_le (d' := d - 8 + 8) (by omega) C
  refine mm_rng (fun hr _ => ?_)
  have ap1 : -2147483648 ≤ p1 ∧ p1 < 2147483648 := mm_ok_at hr (i := 1) rfl
  have f0 : mm_fr [(63, 4), (63, 5), (63, 6), (63, 7), (63, 8), (63, 9), (63, 10)] [64] h h := mm_fr_rf
  have g1 : -2147483648 ≤ h.1 63 5 ∧ h.1 63 5 ≤ 2147483647 := i0.1 63 5
  have g2 : 0 ≤ h.1 63 7 ∧ h.1 63 7 ≤ 500 := i0.1 63 7
  have g3 : 0 ≤ h.1 63 8 ∧ h.1 63 8 ≤ 500 := i0.1 63 8
  have g4 : 0 ≤ h.1 63 3 ∧ h.1 63 3 ≤ 500 := i0.1 63 3
  have g5 : -2147483648 ≤ h.1 63 6 ∧ h.1 63 6 ≤ 2147483647 := i0.1 63 6
  have g6 : -2147483648 ≤ h.1 63 9 ∧ h.1 63 9 ≤ 2147483647 := i0.1 63 9
  have g7 : -2147483648 ≤ h.1 63 10 ∧ h.1 63 10 ≤ 2147483647 := i0.1 63 10
  refine mm_iconst C (mm_dec dk_X7_readNot 0 rfl) ⟨by decide, by decide⟩ ?_
  have J2 : ∀ (n : Nat) (x2_2 : Int) (bx2_2 : 0 ≤ x2_2 ∧ x2_2 ≤ 6) (h2_ : mH) (i2_ : mm_inv h2_) (f2_ : mm_fr [(63, 4), (63, 5), (63, 6), (63, 7), (63, 8), (63, 9), (63, 10)] [64] h h2_) (w2_0 : mm_n7 5 x2_2 h h2_), (6 - x2_2 : Int) < n → mm_W x 0 0 2 [mR 63, mI p1, mI x2_2, mU] [] h2_ := by
    intro n
    induction n with
    | zero =>
      intro x2_2 bx2_2 h2_ i2_ f2_ w2_0 hm
      have g8 : -2147483648 ≤ h2_.1 63 5 ∧ h2_.1 63 5 ≤ 2147483647 := i2_.1 63 5
      have g9 : 0 ≤ h2_.1 63 7 ∧ h2_.1 63 7 ≤ 500 := i2_.1 63 7
      have g10 : 0 ≤ h2_.1 63 8 ∧ h2_.1 63 8 ≤ 500 := i2_.1 63 8
      have g11 : 0 ≤ h2_.1 63 3 ∧ h2_.1 63 3 ≤ 500 := i2_.1 63 3
      have g12 : -2147483648 ≤ h2_.1 63 6 ∧ h2_.1 63 6 ≤ 2147483647 := i2_.1 63 6
      have g13 : -2147483648 ≤ h2_.1 63 9 ∧ h2_.1 63 9 ≤ 2147483647 := i2_.1 63 9
      have g14 : -2147483648 ≤ h2_.1 63 10 ∧ h2_.1 63 10 ≤ 2147483647 := i2_.1 63 10
      exfalso; omega
    | succ n ih2 =>
      intro x2_2 bx2_2 h2_ i2_ f2_ w2_0 hm2
      have g15 : -2147483648 ≤ h2_.1 63 5 ∧ h2_.1 63 5 ≤ 2147483647 := i2_.1 63 5
      have g16 : 0 ≤ h2_.1 63 7 ∧ h2_.1 63 7 ≤ 500 := i2_.1 63 7
      have g17 : 0 ≤ h2_.1 63 8 ∧ h2_.1 63 8 ≤ 500 := i2_.1 63 8
      have g18 : 0 ≤ h2_.1 63 3 ∧ h2_.1 63 3 ≤ 500 := i2_.1 63 3
      have g19 : -2147483648 ≤ h2_.1 63 6 ∧ h2_.1 63 6 ≤ 2147483647 := i2_.1 63 6
      have g20 : -2147483648 ≤ h2_.1 63 9 ∧ h2_.1 63 9 ≤ 2147483647 := i2_.1 63 9
      have g21 : -2147483648 ≤ h2_.1 63 10 ∧ h2_.1 63 10 ≤ 2147483647 := i2_.1 63 10
      have g22 : h2_.1 63 3 = h.1 63 3 := f2_.1 63 3 (by decide)
      have tf2 := mm_cX_h i2_ w2_0.1.2.1
      have tr2 := mm_cX_r i2_ w2_0.1.2.1
      refine mm_iload_n C (mm_dec dk_X7_readNot 2 rfl) rfl ?_
      refine mm_bipush C (mm_dec dk_X7_readNot 3 rfl) ⟨by decide, by decide⟩ ?_
      have J27 : ∀ (w27_0 : (6 ≤ x2_2 ∨ mm_cX h2_ ≠ 6)), mm_W x 0 0 27 [mR 63, mI p1, mI x2_2, mU] [] h2_ := by
        intro w27_0
        have g23 : -2147483648 ≤ h2_.1 63 5 ∧ h2_.1 63 5 ≤ 2147483647 := i2_.1 63 5
        have g24 : 0 ≤ h2_.1 63 7 ∧ h2_.1 63 7 ≤ 500 := i2_.1 63 7
        have g25 : 0 ≤ h2_.1 63 8 ∧ h2_.1 63 8 ≤ 500 := i2_.1 63 8
        have g26 : 0 ≤ h2_.1 63 3 ∧ h2_.1 63 3 ≤ 500 := i2_.1 63 3
        have g27 : -2147483648 ≤ h2_.1 63 6 ∧ h2_.1 63 6 ≤ 2147483647 := i2_.1 63 6
        have g28 : -2147483648 ≤ h2_.1 63 9 ∧ h2_.1 63 9 ≤ 2147483647 := i2_.1 63 9
        have g29 : -2147483648 ≤ h2_.1 63 10 ∧ h2_.1 63 10 ≤ 2147483647 := i2_.1 63 10
        refine mm_iload_n C (mm_dec dk_X7_readNot 13 rfl) rfl ?_
        refine mm_bipush C (mm_dec dk_X7_readNot 14 rfl) ⟨by decide, by decide⟩ ?_
        have J48 : ∀ (w48_0 : mm_cX h2_ ≠ 6), mm_W x 0 0 48 [mR 63, mI p1, mI x2_2, mU] [] h2_ := by
          intro w48_0
          have g30 : -2147483648 ≤ h2_.1 63 5 ∧ h2_.1 63 5 ≤ 2147483647 := i2_.1 63 5
          have g31 : 0 ≤ h2_.1 63 7 ∧ h2_.1 63 7 ≤ 500 := i2_.1 63 7
          have g32 : 0 ≤ h2_.1 63 8 ∧ h2_.1 63 8 ≤ 500 := i2_.1 63 8
          have g33 : 0 ≤ h2_.1 63 3 ∧ h2_.1 63 3 ≤ 500 := i2_.1 63 3
          have g34 : -2147483648 ≤ h2_.1 63 6 ∧ h2_.1 63 6 ≤ 2147483647 := i2_.1 63 6
          have g35 : -2147483648 ≤ h2_.1 63 9 ∧ h2_.1 63 9 ≤ 2147483647 := i2_.1 63 9
          have g36 : -2147483648 ≤ h2_.1 63 10 ∧ h2_.1 63 10 ≤ 2147483647 := i2_.1 63 10
          refine mm_aload_n C (mm_dec dk_X7_readNot 24 rfl) rfl ?_
          refine mm_iload_n C (mm_dec dk_X7_readNot 25 rfl) rfl ?_
          refine mm_cVi (rest := []) C1 ev_X7_107 (mm_dec dk_X7_readNot 26 rfl) (c_X7_readTest_q5 x.2.1 hl (d - 1) (by omega) h2_ i2_ p1 ⟨by omega, by omega⟩ (by exact w2_0.1.2.1)) rfl rfl (Nat.le_of_ble_eq_true rfl) ⟨by decide, by decide⟩ rfl (fun r50 h50c hp50 => ?_) (fun _ _ q => q.elim)
          obtain ⟨b50, i50c, g50c, y50_0⟩ := hp50
          have f50c : mm_fr [(63, 4), (63, 5), (63, 6), (63, 7), (63, 8), (63, 9), (63, 10)] [64] h h50c := mm_fr_tr f2_ g50c (by decide +kernel)
          have q50c_38 : h50c.1 63 3 = h2_.1 63 3 := g50c.1 63 3 (by decide)
          have g39 : -2147483648 ≤ (h50c.1 63 5) ∧ (h50c.1 63 5) ≤ 2147483647 := i50c.1 63 5
          have g40 : 0 ≤ (h50c.1 63 7) ∧ (h50c.1 63 7) ≤ 500 := i50c.1 63 7
          have g41 : 0 ≤ (h50c.1 63 8) ∧ (h50c.1 63 8) ≤ 500 := i50c.1 63 8
          have g42 : -2147483648 ≤ (h50c.1 63 6) ∧ (h50c.1 63 6) ≤ 2147483647 := i50c.1 63 6
          have g43 : -2147483648 ≤ (h50c.1 63 9) ∧ (h50c.1 63 9) ≤ 2147483647 := i50c.1 63 9
          have g44 : -2147483648 ≤ (h50c.1 63 10) ∧ (h50c.1 63 10) ≤ 2147483647 := i50c.1 63 10
          refine mm_if_ne (tgt := 58) C (mm_dec dk_X7_readNot 27 rfl) (by decide) (fun c53 => ?_) (fun c53 => ?_)
          · skip
            refine mm_iconst C (mm_dec dk_X7_readNot 30 rfl) ⟨by decide, by decide⟩ ?_
            have J60 : ∀ (n : Nat) (x60_3 : Int) (bx60_3 : 0 ≤ x60_3 ∧ x60_3 ≤ 7) (h60_ : mH) (i60_ : mm_inv h60_) (f60_ : mm_fr [(63, 4), (63, 5), (63, 6), (63, 7), (63, 8), (63, 9), (63, 10)] [64] h h60_) (w60_0 : mm_q7 0 5 h h60_) (w60_1 : mm_nB h60_), (7 - x60_3 : Int) < n → mm_W x 0 0 60 [mR 63, mU, mI x2_2, mI x60_3] [] h60_ := by
              intro n
              induction n with
              | zero =>
                intro x60_3 bx60_3 h60_ i60_ f60_ w60_0 w60_1 hm
                have g45 : -2147483648 ≤ h60_.1 63 5 ∧ h60_.1 63 5 ≤ 2147483647 := i60_.1 63 5
                have g46 : 0 ≤ h60_.1 63 7 ∧ h60_.1 63 7 ≤ 500 := i60_.1 63 7
                have g47 : 0 ≤ h60_.1 63 8 ∧ h60_.1 63 8 ≤ 500 := i60_.1 63 8
                have g48 : 0 ≤ h60_.1 63 3 ∧ h60_.1 63 3 ≤ 500 := i60_.1 63 3
                have g49 : -2147483648 ≤ h60_.1 63 6 ∧ h60_.1 63 6 ≤ 2147483647 := i60_.1 63 6
                have g50 : -2147483648 ≤ h60_.1 63 9 ∧ h60_.1 63 9 ≤ 2147483647 := i60_.1 63 9
                have g51 : -2147483648 ≤ h60_.1 63 10 ∧ h60_.1 63 10 ≤ 2147483647 := i60_.1 63 10
                exfalso; omega
              | succ n ih60 =>
                intro x60_3 bx60_3 h60_ i60_ f60_ w60_0 w60_1 hm60
                have g52 : -2147483648 ≤ h60_.1 63 5 ∧ h60_.1 63 5 ≤ 2147483647 := i60_.1 63 5
                have g53 : 0 ≤ h60_.1 63 7 ∧ h60_.1 63 7 ≤ 500 := i60_.1 63 7
                have g54 : 0 ≤ h60_.1 63 8 ∧ h60_.1 63 8 ≤ 500 := i60_.1 63 8
                have g55 : 0 ≤ h60_.1 63 3 ∧ h60_.1 63 3 ≤ 500 := i60_.1 63 3
                have g56 : -2147483648 ≤ h60_.1 63 6 ∧ h60_.1 63 6 ≤ 2147483647 := i60_.1 63 6
                have g57 : -2147483648 ≤ h60_.1 63 9 ∧ h60_.1 63 9 ≤ 2147483647 := i60_.1 63 9
                have g58 : -2147483648 ≤ h60_.1 63 10 ∧ h60_.1 63 10 ≤ 2147483647 := i60_.1 63 10
                have g59 : h60_.1 63 3 = h.1 63 3 := f60_.1 63 3 (by decide)
                refine mm_iload_n C (mm_dec dk_X7_readNot 32 rfl) rfl ?_
                refine mm_iload_n C (mm_dec dk_X7_readNot 33 rfl) rfl ?_
                refine mm_icmp_ge (tgt := 77) C (mm_dec dk_X7_readNot 34 rfl) (by decide) (fun c62 => ?_) (fun c62 => ?_)
                · skip
                  refine mm_iconst C (mm_dec dk_X7_readNot 40 rfl) ⟨by decide, by decide⟩ ?_
                  exact mm_zret C T (mm_dec dk_X7_readNot 41 rfl) (by decide : 0 ≤ 0) (by decide : 0 ≤ 0) (by omega) ⟨_, rfl, ⟨⟨by omega, by omega⟩, i60_, f60_, by first | exact Or.inl ⟨rfl, w60_0, w60_1⟩ | exact Or.inr ⟨rfl, mm_f7_not w2_0 w48_0 (mm_or0 y50_0 (by omega))⟩ | exact Or.inr ⟨by omega, mm_f7_nots (by rw [show (6 : Int) = x2_2 by omega]; exact w2_0) (by have zz := mm_hdx tf2; omega) y44_0 y44_1⟩⟩⟩
                · skip
                  refine mm_aload_n C (mm_dec dk_X7_readNot 35 rfl) rfl ?_
                  refine mm_ldc (z := 100010) C (mm_dec dk_X7_readNot 36 rfl) kc_X7_110 (by decide) ?_
                  refine mm_cVv (rest := []) C1 ev_X7_79 (mm_dec dk_X7_readNot 37 rfl) (c_X7_emit x.2.1 hl (d - 1) (by omega) h60_ i60_ 100010) rfl rfl (Nat.le_of_ble_eq_true rfl) ⟨by decide, by decide⟩ rfl (fun h68c hp68 => ?_) (fun _ _ q => q.elim)
                  obtain ⟨i68c, g68c⟩ := hp68
                  have f68c : mm_fr [(63, 4), (63, 5), (63, 6), (63, 7), (63, 8), (63, 9), (63, 10)] [64] h h68c := mm_fr_tr f60_ g68c (by decide +kernel)
                  have q68c_61 : h68c.1 63 3 = h60_.1 63 3 := g68c.1 63 3 (by decide)
                  have q68c_62 : h68c.1 63 5 = h60_.1 63 5 := g68c.1 63 5 (by decide)
                  have q68c_63 : h68c.1 63 6 = h60_.1 63 6 := g68c.1 63 6 (by decide)
                  have q68c_64 : h68c.1 63 7 = h60_.1 63 7 := g68c.1 63 7 (by decide)
                  have q68c_65 : h68c.1 63 8 = h60_.1 63 8 := g68c.1 63 8 (by decide)
                  have q68c_66 : h68c.1 63 9 = h60_.1 63 9 := g68c.1 63 9 (by decide)
                  have q68c_67 : h68c.1 63 10 = h60_.1 63 10 := g68c.1 63 10 (by decide)
                  refine mm_iincL (ls2 := [mR 63, mU, mI x2_2, mI (x60_3 + 1)]) C (mm_dec dk_X7_readNot 38 rfl) rfl (by decide) ⟨by omega, by omega⟩ rfl ?_
                  refine mm_goto (tgt := 60) C (mm_dec dk_X7_readNot 39 rfl) (by decide) ?_
                  exact ih60 (x60_3 + 1) ⟨by omega, by omega⟩ h68c i68c f68c (by first | exact mm_q7_not w2_0 w48_0 (mm_or1 y50_0 (by omega)).1 | exact mm_q7_em w60_0 (mm_em_fr g68c (by decide))) (by first | exact (mm_or1 y50_0 (by omega)).2 | exact mm_nB_em w60_1 (mm_em_fr g68c (by decide))) (by omega)
            refine mm_istore_nL (ls2 := [mR 63, mI p1, mI x2_2, mI 0]) C (mm_dec dk_X7_readNot 31 rfl) (by decide) rfl ?_
            refine mm_fgt 1 ?_
            exact J60 (((7 - 0) : Int) + 1).toNat 0 ⟨by omega, by omega⟩ h50c i50c f50c (by first | exact mm_q7_not w2_0 w48_0 (mm_or1 y50_0 (by omega)).1 | exact mm_q7_em w60_0 (mm_em_fr g68c (by decide))) (by first | exact (mm_or1 y50_0 (by omega)).2 | exact mm_nB_em w60_1 (mm_em_fr g68c (by decide))) (by omega)
          · skip
            refine mm_iconst C (mm_dec dk_X7_readNot 28 rfl) ⟨by decide, by decide⟩ ?_
            exact mm_zret C T (mm_dec dk_X7_readNot 29 rfl) (by decide : 0 ≤ 0) (by decide : 0 ≤ 0) (by omega) ⟨_, rfl, ⟨⟨by omega, by omega⟩, i50c, f50c, by first | exact Or.inl ⟨rfl, w60_0, w60_1⟩ | exact Or.inr ⟨rfl, mm_f7_not w2_0 w48_0 (mm_or0 y50_0 (by omega))⟩ | exact Or.inr ⟨by omega, mm_f7_nots (by rw [show (6 : Int) = x2_2 by omega]; exact w2_0) (by have zz := mm_hdx tf2; omega) y44_0 y44_1⟩⟩⟩
        refine mm_icmp_ne (tgt := 48) C (mm_dec dk_X7_readNot 15 rfl) (by decide) (fun c30 => ?_) (fun c30 => ?_)
        · skip
          exact J48 (by have zz := mm_hdx tf2; omega)
        · skip
          refine mm_aload_n C (mm_dec dk_X7_readNot 16 rfl) rfl ?_
          refine mm_geti C fl_X7_28 (mm_dec dk_X7_readNot 17 rfl) rfl rfl (Or.inl rfl) ?_
          refine mm_bipush C (mm_dec dk_X7_readNot 18 rfl) ⟨by decide, by decide⟩ ?_
          refine mm_icmp_ne (tgt := 48) C (mm_dec dk_X7_readNot 19 rfl) (by decide) (fun c39 => ?_) (fun c39 => ?_)
          · skip
            exact J48 (by have zz := mm_hdx tf2; omega)
          · skip
            refine mm_aload_n C (mm_dec dk_X7_readNot 20 rfl) rfl ?_
            refine mm_iconst C (mm_dec dk_X7_readNot 21 rfl) ⟨by decide, by decide⟩ ?_
            refine mm_cVi (rest := []) C1 ev_X7_65 (mm_dec dk_X7_readNot 22 rfl) (c_X7_refuse_q x.2.1 hl (d - 1) (by omega) h2_ i2_ 2) rfl rfl (Nat.le_of_ble_eq_true rfl) ⟨by decide, by decide⟩ rfl (fun r44 h44c hp44 => ?_) (fun _ _ q => q.elim)
            obtain ⟨b44, i44c, g44c, y44_0, y44_1⟩ := hp44
            have f44c : mm_fr [(63, 4), (63, 5), (63, 6), (63, 7), (63, 8), (63, 9), (63, 10)] [64] h h44c := mm_fr_tr f2_ g44c (by decide +kernel)
            have q44c_69 : h44c.1 63 3 = h2_.1 63 3 := g44c.1 63 3 (by decide)
            have q44c_70 : h44c.1 63 5 = h2_.1 63 5 := g44c.1 63 5 (by decide)
            have q44c_71 : h44c.1 63 6 = h2_.1 63 6 := g44c.1 63 6 (by decide)
            have q44c_72 : h44c.1 63 7 = h2_.1 63 7 := g44c.1 63 7 (by decide)
            have q44c_73 : h44c.1 63 8 = h2_.1 63 8 := g44c.1 63 8 (by decide)
            have g74 : -2147483648 ≤ (h44c.1 63 9) ∧ (h44c.1 63 9) ≤ 2147483647 := i44c.1 63 9
            have g75 : -2147483648 ≤ (h44c.1 63 10) ∧ (h44c.1 63 10) ≤ 2147483647 := i44c.1 63 10
            exact mm_zret C T (mm_dec dk_X7_readNot 23 rfl) (by decide : 0 ≤ 0) (by decide : 0 ≤ 0) (by omega) ⟨_, rfl, ⟨⟨by omega, by omega⟩, i44c, f44c, by first | exact Or.inl ⟨rfl, w60_0, w60_1⟩ | exact Or.inr ⟨rfl, mm_f7_not w2_0 w48_0 (mm_or0 y50_0 (by omega))⟩ | exact Or.inr ⟨by omega, mm_f7_nots (by rw [show (6 : Int) = x2_2 by omega]; exact w2_0) (by have zz := mm_hdx tf2; omega) y44_0 y44_1⟩⟩⟩
      refine mm_icmp_ge (tgt := 27) C (mm_dec dk_X7_readNot 4 rfl) (by decide) (fun c5 => ?_) (fun c5 => ?_)
      · skip
        exact J27 (by have zz := mm_hdx tf2; omega)
      · skip
        refine mm_aload_n C (mm_dec dk_X7_readNot 5 rfl) rfl ?_
        refine mm_geti C fl_X7_28 (mm_dec dk_X7_readNot 6 rfl) rfl rfl (Or.inl rfl) ?_
        refine mm_bipush C (mm_dec dk_X7_readNot 7 rfl) ⟨by decide, by decide⟩ ?_
        refine mm_icmp_ne (tgt := 27) C (mm_dec dk_X7_readNot 8 rfl) (by decide) (fun c14 => ?_) (fun c14 => ?_)
        · skip
          exact J27 (by have zz := mm_hdx tf2; omega)
        · skip
          refine mm_iincL (ls2 := [mR 63, mI p1, mI (x2_2 + 1), mU]) C (mm_dec dk_X7_readNot 9 rfl) rfl (by decide) ⟨by omega, by omega⟩ rfl ?_
          refine mm_aload_n C (mm_dec dk_X7_readNot 10 rfl) rfl ?_
          refine mm_cVv (rest := []) C1 ev_X7_52 (mm_dec dk_X7_readNot 11 rfl) (c_X7_step_q x.2.1 hl (d - 1) (by omega) h2_ i2_ ) rfl rfl (Nat.le_of_ble_eq_true rfl) ⟨by decide, by decide⟩ rfl (fun h21c hp21 => ?_) (fun _ _ q => q.elim)
          obtain ⟨i21c, g21c, y21_0, y21_1, y21_2⟩ := hp21
          have f21c : mm_fr [(63, 4), (63, 5), (63, 6), (63, 7), (63, 8), (63, 9), (63, 10)] [64] h h21c := mm_fr_tr f2_ g21c (by decide +kernel)
          have q21c_77 : h21c.1 63 3 = h2_.1 63 3 := g21c.1 63 3 (by decide)
          have q21c_78 : h21c.1 63 9 = h2_.1 63 9 := g21c.1 63 9 (by decide)
          have q21c_79 : h21c.1 63 10 = h2_.1 63 10 := g21c.1 63 10 (by decide)
          have g80 : -2147483648 ≤ (h21c.1 63 5) ∧ (h21c.1 63 5) ≤ 2147483647 := i21c.1 63 5
          have g81 : 0 ≤ (h21c.1 63 7) ∧ (h21c.1 63 7) ≤ 500 := i21c.1 63 7
          have g82 : 0 ≤ (h21c.1 63 8) ∧ (h21c.1 63 8) ≤ 500 := i21c.1 63 8
          have g83 : -2147483648 ≤ (h21c.1 63 6) ∧ (h21c.1 63 6) ≤ 2147483647 := i21c.1 63 6
          refine mm_goto (tgt := 2) C (mm_dec dk_X7_readNot 12 rfl) (by decide) ?_
          exact ih2 (x2_2 + 1) ⟨by omega, by omega⟩ h21c i21c f21c (by first | exact mm_n7_0 t0 | exact mm_n7_s w2_0 (by have zz := mm_hdx tf2; omega) (by omega) (mm_st7_of w2_0.1.2.1 y21_1 y21_2 g21c (by decide))) (by omega)
  refine mm_istore_nL (ls2 := [mR 63, mI p1, mI 0, mU]) C (mm_dec dk_X7_readNot 1 rfl) (by decide) rfl ?_
  exact J2 (((6 - 0) : Int) + 1).toNat 0 ⟨by omega, by omega⟩ h i0 f0 (by first | exact mm_n7_0 t0 | exact mm_n7_s w2_0 (by have zz := mm_hdx tf2; omega) (by omega) (mm_st7_of w2_0.1.2.1 y21_1 y21_2 g21c (by decide))) (by omega)
set_option maxRecDepth 100000 in
set_option maxHeartbeats 4000000 in
theorem c_X7_readAnd_q5 (l : Launch) (hl : l.stackTraces = false) (d : Nat) (hd : 11 ≤ d) (h : mH) (i0 : mm_inv h) (p1 : Int) (bp1 : 5 ≤ p1 ∧ p1 ≤ 5) (t0 : mm_aX h) : mm_Met l d yX7_readAnd cX7_readAnd 3 (some .boolean) [mR 63, mI p1] h (mm_pi fun r h2 => (0 ≤ r ∧ r ≤ 1) ∧ mm_inv h2 ∧ mm_fr [(63, 4), (63, 5), (63, 6), (63, 7), (63, 8), (63, 9), (63, 10)] [64] h h2 ∧ ((r = 1 ∧ mm_q7 0 5 h h2 ∧ mm_nC h2) ∨ (r = 0 ∧ mm_f7 0 5 h h2))) mm_nx 0 0 := by
  refine mm_ofW (ls := [mR 63, mI p1, mU]) hl (by decide) rfl (Nat.le_of_ble_eq_true rfl) ?_
  intro x hxl C T hnm htb
  subst hxl
  have C1 := mm_OK_le (d' := d - 1 + 1) (by omega) C
  have C8 := mm_OK_le (d' := d - 8 + 8) (by omega) C
  refine mm_rng (fun hr _ => ?_)
  have ap1 : -2147483648 ≤ p1 ∧ p1 < 2147483648 := mm_ok_at hr (i := 1) rfl
  have f0 : mm_fr [(63, 4), (63, 5), (63, 6), (63, 7), (63, 8), (63, 9), (63, 10)] [64] h h := mm_fr_rf
  have g1 : -2147483648 ≤ h.1 63 5 ∧ h.1 63 5 ≤ 2147483647 := i0.1 63 5
  have g2 : 0 ≤ h.1 63 7 ∧ h.1 63 7 ≤ 500 := i0.1 63 7
  have g3 : 0 ≤ h.1 63 8 ∧ h.1 63 8 ≤ 500 := i0.1 63 8
  have g4 : 0 ≤ h.1 63 3 ∧ h.1 63 3 ≤ 500 := i0.1 63 3
  have g5 : -2147483648 ≤ h.1 63 6 ∧ h.1 63 6 ≤ 2147483647 := i0.1 63 6
  have g6 : -2147483648 ≤ h.1 63 9 ∧ h.1 63 9 ≤ 2147483647 := i0.1 63 9
  have g7 : -2147483648 ≤ h.1 63 10 ∧ h.1 63 10 ≤ 2147483647 := i0.1 63 10
  refine mm_aload_n C (mm_dec dk_X7_readAnd 0 rfl) rfl ?_
  refine mm_iload_n C (mm_dec dk_X7_readAnd 1 rfl) rfl ?_
  refine mm_cVi (rest := []) C1 ev_X7_103 (mm_dec dk_X7_readAnd 2 rfl) (c_X7_readNot_q5 x.2.1 hl (d - 1) (by omega) h i0 p1 ⟨by omega, by omega⟩ (by exact t0)) rfl rfl (Nat.le_of_ble_eq_true rfl) ⟨by decide, by decide⟩ rfl (fun r2 h2c hp2 => ?_) (fun _ _ q => q.elim)
  obtain ⟨b2, i2c, g2c, y2_0⟩ := hp2
  have f2c : mm_fr [(63, 4), (63, 5), (63, 6), (63, 7), (63, 8), (63, 9), (63, 10)] [64] h h2c := mm_fr_tr f0 g2c (by decide +kernel)
  have q2c_9 : h2c.1 63 3 = h.1 63 3 := g2c.1 63 3 (by decide)
  have g10 : -2147483648 ≤ (h2c.1 63 5) ∧ (h2c.1 63 5) ≤ 2147483647 := i2c.1 63 5
  have g11 : 0 ≤ (h2c.1 63 7) ∧ (h2c.1 63 7) ≤ 500 := i2c.1 63 7
  have g12 : 0 ≤ (h2c.1 63 8) ∧ (h2c.1 63 8) ≤ 500 := i2c.1 63 8
  have g13 : -2147483648 ≤ (h2c.1 63 6) ∧ (h2c.1 63 6) ≤ 2147483647 := i2c.1 63 6
  have g14 : -2147483648 ≤ (h2c.1 63 9) ∧ (h2c.1 63 9) ≤ 2147483647 := i2c.1 63 9
  have g15 : -2147483648 ≤ (h2c.1 63 10) ∧ (h2c.1 63 10) ≤ 2147483647 := i2c.1 63 10
  refine mm_if_ne (tgt := 10) C (mm_dec dk_X7_readAnd 3 rfl) (by decide) (fun c5 => ?_) (fun c5 => ?_)
  · skip
    refine mm_iconst C (mm_dec dk_X7_readAnd 6 rfl) ⟨by decide, by decide⟩ ?_
    have J12 : ∀ (n : Nat) (x12_2 : Int) (bx12_2 : 0 ≤ x12_2 ∧ x12_2 ≤ 500) (h12_ : mH) (i12_ : mm_inv h12_) (f12_ : mm_fr [(63, 4), (63, 5), (63, 6), (63, 7), (63, 8), (63, 9), (63, 10)] [64] h h12_) (w12_0 : mm_q7 0 5 h h12_) (w12_1 : x12_2 ≤ h12_.1 63 7) (w12_2 : mm_nB h12_), (500 - x12_2 : Int) < n → mm_W x 0 0 12 [mR 63, mI p1, mI x12_2] [] h12_ := by
      intro n
      induction n with
      | zero =>
        intro x12_2 bx12_2 h12_ i12_ f12_ w12_0 w12_1 w12_2 hm
        have g16 : -2147483648 ≤ h12_.1 63 5 ∧ h12_.1 63 5 ≤ 2147483647 := i12_.1 63 5
        have g17 : 0 ≤ h12_.1 63 7 ∧ h12_.1 63 7 ≤ 500 := i12_.1 63 7
        have g18 : 0 ≤ h12_.1 63 8 ∧ h12_.1 63 8 ≤ 500 := i12_.1 63 8
        have g19 : 0 ≤ h12_.1 63 3 ∧ h12_.1 63 3 ≤ 500 := i12_.1 63 3
        have g20 : -2147483648 ≤ h12_.1 63 6 ∧ h12_.1 63 6 ≤ 2147483647 := i12_.1 63 6
        have g21 : -2147483648 ≤ h12_.1 63 9 ∧ h12_.1 63 9 ≤ 2147483647 := i12_.1 63 9
        have g22 : -2147483648 ≤ h12_.1 63 10 ∧ h12_.1 63 10 ≤ 2147483647 := i12_.1 63 10
        exfalso; omega
      | succ n ih12 =>
        intro x12_2 bx12_2 h12_ i12_ f12_ w12_0 w12_1 w12_2 hm12
        have g23 : -2147483648 ≤ h12_.1 63 5 ∧ h12_.1 63 5 ≤ 2147483647 := i12_.1 63 5
        have g24 : 0 ≤ h12_.1 63 7 ∧ h12_.1 63 7 ≤ 500 := i12_.1 63 7
        have g25 : 0 ≤ h12_.1 63 8 ∧ h12_.1 63 8 ≤ 500 := i12_.1 63 8
        have g26 : 0 ≤ h12_.1 63 3 ∧ h12_.1 63 3 ≤ 500 := i12_.1 63 3
        have g27 : -2147483648 ≤ h12_.1 63 6 ∧ h12_.1 63 6 ≤ 2147483647 := i12_.1 63 6
        have g28 : -2147483648 ≤ h12_.1 63 9 ∧ h12_.1 63 9 ≤ 2147483647 := i12_.1 63 9
        have g29 : -2147483648 ≤ h12_.1 63 10 ∧ h12_.1 63 10 ≤ 2147483647 := i12_.1 63 10
        have g30 : h12_.1 63 3 = h.1 63 3 := f12_.1 63 3 (by decide)
        have tf12 := mm_cX_h i12_ w12_0.1.2.1
        have tr12 := mm_cX_r i12_ w12_0.1.2.1
        refine mm_iload_n C (mm_dec dk_X7_readAnd 8 rfl) rfl ?_
        refine mm_sipush C (mm_dec dk_X7_readAnd 9 rfl) ⟨by decide, by decide⟩ ?_
        have J53 : ∀ (w53_0 : mm_nC h12_), mm_W x 0 0 53 [mU, mU, mU] [] h12_ := by
          intro w53_0
          have g31 : -2147483648 ≤ h12_.1 63 5 ∧ h12_.1 63 5 ≤ 2147483647 := i12_.1 63 5
          have g32 : 0 ≤ h12_.1 63 7 ∧ h12_.1 63 7 ≤ 500 := i12_.1 63 7
          have g33 : 0 ≤ h12_.1 63 8 ∧ h12_.1 63 8 ≤ 500 := i12_.1 63 8
          have g34 : 0 ≤ h12_.1 63 3 ∧ h12_.1 63 3 ≤ 500 := i12_.1 63 3
          have g35 : -2147483648 ≤ h12_.1 63 6 ∧ h12_.1 63 6 ≤ 2147483647 := i12_.1 63 6
          have g36 : -2147483648 ≤ h12_.1 63 9 ∧ h12_.1 63 9 ≤ 2147483647 := i12_.1 63 9
          have g37 : -2147483648 ≤ h12_.1 63 10 ∧ h12_.1 63 10 ≤ 2147483647 := i12_.1 63 10
          refine mm_iconst C (mm_dec dk_X7_readAnd 28 rfl) ⟨by decide, by decide⟩ ?_
          exact mm_zret C T (mm_dec dk_X7_readAnd 29 rfl) (by decide : 0 ≤ 0) (by decide : 0 ≤ 0) (by omega) ⟨_, rfl, ⟨⟨by omega, by omega⟩, i12_, f12_, by first | exact Or.inl ⟨rfl, w12_0, w53_0⟩ | exact Or.inr ⟨rfl, mm_or0 y2_0 (by omega)⟩ | exact Or.inr ⟨rfl, mm_f7_and w12_0 zc zs (mm_or0 y33_0 (by omega))⟩⟩⟩
        refine mm_icmp_ge (tgt := 53) C (mm_dec dk_X7_readAnd 10 rfl) (by decide) (fun c16 => ?_) (fun c16 => ?_)
        · skip
          refine mm_fgt 0 ?_
          refine mm_fgt 1 ?_
          refine mm_fgt 2 ?_
          exact J53 (by (have z := w12_2; unfold mm_nB at z; unfold mm_nC; have zz := mm_hdx tf12; omega))
        · skip
          refine mm_aload_n C (mm_dec dk_X7_readAnd 11 rfl) rfl ?_
          refine mm_geti C fl_X7_28 (mm_dec dk_X7_readAnd 12 rfl) rfl rfl (Or.inl rfl) ?_
          refine mm_iconst C (mm_dec dk_X7_readAnd 13 rfl) ⟨by decide, by decide⟩ ?_
          refine mm_icmp_ne (tgt := 53) C (mm_dec dk_X7_readAnd 14 rfl) (by decide) (fun c24 => ?_) (fun c24 => ?_)
          · skip
            refine mm_fgt 0 ?_
            refine mm_fgt 1 ?_
            refine mm_fgt 2 ?_
            exact J53 (by (have z := w12_2; unfold mm_nB at z; unfold mm_nC; have zz := mm_hdx tf12; omega))
          · skip
            refine mm_aload_n C (mm_dec dk_X7_readAnd 15 rfl) rfl ?_
            refine mm_cVv (rest := []) C1 ev_X7_52 (mm_dec dk_X7_readAnd 16 rfl) (c_X7_step_q x.2.1 hl (d - 1) (by omega) h12_ i12_ ) rfl rfl (Nat.le_of_ble_eq_true rfl) ⟨by decide, by decide⟩ rfl (fun h28c hp28 => ?_) (fun _ _ q => q.elim)
            obtain ⟨i28c, g28c, y28_0, y28_1, y28_2⟩ := hp28
            have f28c : mm_fr [(63, 4), (63, 5), (63, 6), (63, 7), (63, 8), (63, 9), (63, 10)] [64] h h28c := mm_fr_tr f12_ g28c (by decide +kernel)
            have q28c_39 : h28c.1 63 3 = h12_.1 63 3 := g28c.1 63 3 (by decide)
            have q28c_40 : h28c.1 63 9 = h12_.1 63 9 := g28c.1 63 9 (by decide)
            have q28c_41 : h28c.1 63 10 = h12_.1 63 10 := g28c.1 63 10 (by decide)
            have g42 : -2147483648 ≤ (h28c.1 63 5) ∧ (h28c.1 63 5) ≤ 2147483647 := i28c.1 63 5
            have g43 : 0 ≤ (h28c.1 63 7) ∧ (h28c.1 63 7) ≤ 500 := i28c.1 63 7
            have g44 : 0 ≤ (h28c.1 63 8) ∧ (h28c.1 63 8) ≤ 500 := i28c.1 63 8
            have g45 : -2147483648 ≤ (h28c.1 63 6) ∧ (h28c.1 63 6) ≤ 2147483647 := i28c.1 63 6
            have zs := mm_st7_of w12_0.1.2.1 y28_1 y28_2 g28c (by decide)
            have zc : mm_cX h12_ = 4 ∨ mm_cX h12_ = 5 := by have zz := mm_hdx tf12; omega
            have zl := mm_st7_lt zs (by omega)
            refine mm_aload_n C (mm_dec dk_X7_readAnd 17 rfl) rfl ?_
            refine mm_iload_n C (mm_dec dk_X7_readAnd 18 rfl) rfl ?_
            refine mm_cVi (rest := []) C1 ev_X7_103 (mm_dec dk_X7_readAnd 19 rfl) (c_X7_readNot_q5 x.2.1 hl (d - 1) (by omega) h28c i28c p1 ⟨by omega, by omega⟩ (by exact y28_1)) rfl rfl (Nat.le_of_ble_eq_true rfl) ⟨by decide, by decide⟩ rfl (fun r33 h33c hp33 => ?_) (fun _ _ q => q.elim)
            obtain ⟨b33, i33c, g33c, y33_0⟩ := hp33
            have f33c : mm_fr [(63, 4), (63, 5), (63, 6), (63, 7), (63, 8), (63, 9), (63, 10)] [64] h h33c := mm_fr_tr f28c g33c (by decide +kernel)
            have q33c_47 : h33c.1 63 3 = h28c.1 63 3 := g33c.1 63 3 (by decide)
            have g48 : -2147483648 ≤ (h33c.1 63 5) ∧ (h33c.1 63 5) ≤ 2147483647 := i33c.1 63 5
            have g49 : 0 ≤ (h33c.1 63 7) ∧ (h33c.1 63 7) ≤ 500 := i33c.1 63 7
            have g50 : 0 ≤ (h33c.1 63 8) ∧ (h33c.1 63 8) ≤ 500 := i33c.1 63 8
            have g51 : -2147483648 ≤ (h33c.1 63 6) ∧ (h33c.1 63 6) ≤ 2147483647 := i33c.1 63 6
            have g52 : -2147483648 ≤ (h33c.1 63 9) ∧ (h33c.1 63 9) ≤ 2147483647 := i33c.1 63 9
            have g53 : -2147483648 ≤ (h33c.1 63 10) ∧ (h33c.1 63 10) ≤ 2147483647 := i33c.1 63 10
            refine mm_if_ne (tgt := 41) C (mm_dec dk_X7_readAnd 20 rfl) (by decide) (fun c36 => ?_) (fun c36 => ?_)
            · skip
              refine mm_aload_n C (mm_dec dk_X7_readAnd 23 rfl) rfl ?_
              refine mm_ldc (z := 100012) C (mm_dec dk_X7_readAnd 24 rfl) kc_X7_106 (by decide) ?_
              refine mm_cVv (rest := []) C1 ev_X7_79 (mm_dec dk_X7_readAnd 25 rfl) (c_X7_emit x.2.1 hl (d - 1) (by omega) h33c i33c 100012) rfl rfl (Nat.le_of_ble_eq_true rfl) ⟨by decide, by decide⟩ rfl (fun h44c hp44 => ?_) (fun _ _ q => q.elim)
              obtain ⟨i44c, g44c⟩ := hp44
              have f44c : mm_fr [(63, 4), (63, 5), (63, 6), (63, 7), (63, 8), (63, 9), (63, 10)] [64] h h44c := mm_fr_tr f33c g44c (by decide +kernel)
              have q44c_55 : h44c.1 63 3 = h33c.1 63 3 := g44c.1 63 3 (by decide)
              have q44c_56 : h44c.1 63 5 = h33c.1 63 5 := g44c.1 63 5 (by decide)
              have q44c_57 : h44c.1 63 6 = h33c.1 63 6 := g44c.1 63 6 (by decide)
              have q44c_58 : h44c.1 63 7 = h33c.1 63 7 := g44c.1 63 7 (by decide)
              have q44c_59 : h44c.1 63 8 = h33c.1 63 8 := g44c.1 63 8 (by decide)
              have q44c_60 : h44c.1 63 9 = h33c.1 63 9 := g44c.1 63 9 (by decide)
              have q44c_61 : h44c.1 63 10 = h33c.1 63 10 := g44c.1 63 10 (by decide)
              have zt := g44c.1 63 7 (by decide)
              have zu := (mm_or1 y33_0 (by omega)).1.2.1
              refine mm_iincL (ls2 := [mR 63, mI p1, mI (x12_2 + 1)]) C (mm_dec dk_X7_readAnd 26 rfl) rfl (by decide) ⟨by omega, by omega⟩ rfl ?_
              refine mm_goto (tgt := 12) C (mm_dec dk_X7_readAnd 27 rfl) (by decide) ?_
              exact ih12 (x12_2 + 1) ⟨by omega, by omega⟩ h44c i44c f44c (by first | exact (mm_or1 y2_0 (by omega)).1 | exact mm_q7_em (mm_q7_and w12_0 zc zs (mm_or1 y33_0 (by omega)).1) (mm_em_fr g44c (by decide))) (by omega) (by first | exact (mm_or1 y2_0 (by omega)).2 | exact mm_nB_em (mm_or1 y33_0 (by omega)).2 (mm_em_fr g44c (by decide))) (by omega)
            · skip
              refine mm_iconst C (mm_dec dk_X7_readAnd 21 rfl) ⟨by decide, by decide⟩ ?_
              exact mm_zret C T (mm_dec dk_X7_readAnd 22 rfl) (by decide : 0 ≤ 0) (by decide : 0 ≤ 0) (by omega) ⟨_, rfl, ⟨⟨by omega, by omega⟩, i33c, f33c, by first | exact Or.inl ⟨rfl, w12_0, w53_0⟩ | exact Or.inr ⟨rfl, mm_or0 y2_0 (by omega)⟩ | exact Or.inr ⟨rfl, mm_f7_and w12_0 zc zs (mm_or0 y33_0 (by omega))⟩⟩⟩
    refine mm_istore_nL (ls2 := [mR 63, mI p1, mI 0]) C (mm_dec dk_X7_readAnd 7 rfl) (by decide) rfl ?_
    exact J12 (((500 - 0) : Int) + 1).toNat 0 ⟨by omega, by omega⟩ h2c i2c f2c (by first | exact (mm_or1 y2_0 (by omega)).1 | exact mm_q7_em (mm_q7_and w12_0 zc zs (mm_or1 y33_0 (by omega)).1) (mm_em_fr g44c (by decide))) (by omega) (by first | exact (mm_or1 y2_0 (by omega)).2 | exact mm_nB_em (mm_or1 y33_0 (by omega)).2 (mm_em_fr g44c (by decide))) (by omega)
  · skip
    refine mm_iconst C (mm_dec dk_X7_readAnd 4 rfl) ⟨by decide, by decide⟩ ?_
    exact mm_zret C T (mm_dec dk_X7_readAnd 5 rfl) (by decide : 0 ≤ 0) (by decide : 0 ≤ 0) (by omega) ⟨_, rfl, ⟨⟨by omega, by omega⟩, i2c, f2c, by first | exact Or.inl ⟨rfl, w12_0, w53_0⟩ | exact Or.inr ⟨rfl, mm_or0 y2_0 (by omega)⟩ | exact Or.inr ⟨rfl, mm_f7_and w12_0 zc zs (mm_or0 y33_0 (by omega))⟩⟩⟩
set_option maxRecDepth 100000 in
set_option maxHeartbeats 4000000 in
theorem c_X7_readOr_q5 (l : Launch) (hl : l.stackTraces = false) (d : Nat) (hd : 12 ≤ d) (h : mH) (i0 : mm_inv h) (p1 : Int) (bp1 : 5 ≤ p1 ∧ p1 ≤ 5) (t0 : mm_aX h) : mm_Met l d yX7_readOr cX7_readOr 3 (some .boolean) [mR 63, mI p1] h (mm_pi fun r h2 => (0 ≤ r ∧ r ≤ 1) ∧ mm_inv h2 ∧ mm_fr [(63, 4), (63, 5), (63, 6), (63, 7), (63, 8), (63, 9), (63, 10)] [64] h h2 ∧ ((r = 1 ∧ mm_q7 0 5 h h2 ∧ mm_nD h2) ∨ (r = 0 ∧ mm_f7 0 5 h h2))) mm_nx 0 0 := by
  refine mm_ofW (ls := [mR 63, mI p1, mU]) hl (by decide) rfl (Nat.le_of_ble_eq_true rfl) ?_
  intro x hxl C T hnm htb
  subst hxl
  have C1 := mm_OK_le (d' := d - 1 + 1) (by omega) C
  have C8 := mm_OK_le (d' := d - 8 + 8) (by omega) C
  refine mm_rng (fun hr _ => ?_)
  have ap1 : -2147483648 ≤ p1 ∧ p1 < 2147483648 := mm_ok_at hr (i := 1) rfl
  have f0 : mm_fr [(63, 4), (63, 5), (63, 6), (63, 7), (63, 8), (63, 9), (63, 10)] [64] h h := mm_fr_rf
  have g1 : -2147483648 ≤ h.1 63 5 ∧ h.1 63 5 ≤ 2147483647 := i0.1 63 5
  have g2 : 0 ≤ h.1 63 7 ∧ h.1 63 7 ≤ 500 := i0.1 63 7
  have g3 : 0 ≤ h.1 63 8 ∧ h.1 63 8 ≤ 500 := i0.1 63 8
  have g4 : 0 ≤ h.1 63 3 ∧ h.1 63 3 ≤ 500 := i0.1 63 3
  have g5 : -2147483648 ≤ h.1 63 6 ∧ h.1 63 6 ≤ 2147483647 := i0.1 63 6
  have g6 : -2147483648 ≤ h.1 63 9 ∧ h.1 63 9 ≤ 2147483647 := i0.1 63 9
  have g7 : -2147483648 ≤ h.1 63 10 ∧ h.1 63 10 ≤ 2147483647 := i0.1 63 10
  refine mm_iload_n C (mm_dec dk_X7_readOr 0 rfl) rfl ?_
  refine mm_bipush C (mm_dec dk_X7_readOr 1 rfl) ⟨by decide, by decide⟩ ?_
  refine mm_icmp_lt (tgt := 41) C (mm_dec dk_X7_readOr 2 rfl) (by decide) (fun c3 => ?_) (fun c3 => ?_)
  · skip
    refine mm_aload_n C (mm_dec dk_X7_readOr 21 rfl) rfl ?_
    refine mm_iload_n C (mm_dec dk_X7_readOr 22 rfl) rfl ?_
    refine mm_cVi (rest := []) C1 ev_X7_99 (mm_dec dk_X7_readOr 23 rfl) (c_X7_readAnd_q5 x.2.1 hl (d - 1) (by omega) h i0 p1 ⟨by omega, by omega⟩ (by exact t0)) rfl rfl (Nat.le_of_ble_eq_true rfl) ⟨by decide, by decide⟩ rfl (fun r43 h43c hp43 => ?_) (fun _ _ q => q.elim)
    obtain ⟨b43, i43c, g43c, y43_0⟩ := hp43
    have f43c : mm_fr [(63, 4), (63, 5), (63, 6), (63, 7), (63, 8), (63, 9), (63, 10)] [64] h h43c := mm_fr_tr f0 g43c (by decide +kernel)
    have q43c_9 : h43c.1 63 3 = h.1 63 3 := g43c.1 63 3 (by decide)
    have g10 : -2147483648 ≤ (h43c.1 63 5) ∧ (h43c.1 63 5) ≤ 2147483647 := i43c.1 63 5
    have g11 : 0 ≤ (h43c.1 63 7) ∧ (h43c.1 63 7) ≤ 500 := i43c.1 63 7
    have g12 : 0 ≤ (h43c.1 63 8) ∧ (h43c.1 63 8) ≤ 500 := i43c.1 63 8
    have g13 : -2147483648 ≤ (h43c.1 63 6) ∧ (h43c.1 63 6) ≤ 2147483647 := i43c.1 63 6
    have g14 : -2147483648 ≤ (h43c.1 63 9) ∧ (h43c.1 63 9) ≤ 2147483647 := i43c.1 63 9
    have g15 : -2147483648 ≤ (h43c.1 63 10) ∧ (h43c.1 63 10) ≤ 2147483647 := i43c.1 63 10
    refine mm_if_ne (tgt := 51) C (mm_dec dk_X7_readOr 24 rfl) (by decide) (fun c46 => ?_) (fun c46 => ?_)
    · skip
      refine mm_iconst C (mm_dec dk_X7_readOr 27 rfl) ⟨by decide, by decide⟩ ?_
      have J53 : ∀ (n : Nat) (x53_2 : Int) (bx53_2 : 0 ≤ x53_2 ∧ x53_2 ≤ 500) (h53_ : mH) (i53_ : mm_inv h53_) (f53_ : mm_fr [(63, 4), (63, 5), (63, 6), (63, 7), (63, 8), (63, 9), (63, 10)] [64] h h53_) (w53_0 : mm_q7 0 5 h h53_) (w53_1 : x53_2 ≤ h53_.1 63 7) (w53_2 : mm_nC h53_), (500 - x53_2 : Int) < n → mm_W x 0 0 53 [mR 63, mI p1, mI x53_2] [] h53_ := by
        intro n
        induction n with
        | zero =>
          intro x53_2 bx53_2 h53_ i53_ f53_ w53_0 w53_1 w53_2 hm
          have g16 : -2147483648 ≤ h53_.1 63 5 ∧ h53_.1 63 5 ≤ 2147483647 := i53_.1 63 5
          have g17 : 0 ≤ h53_.1 63 7 ∧ h53_.1 63 7 ≤ 500 := i53_.1 63 7
          have g18 : 0 ≤ h53_.1 63 8 ∧ h53_.1 63 8 ≤ 500 := i53_.1 63 8
          have g19 : 0 ≤ h53_.1 63 3 ∧ h53_.1 63 3 ≤ 500 := i53_.1 63 3
          have g20 : -2147483648 ≤ h53_.1 63 6 ∧ h53_.1 63 6 ≤ 2147483647 := i53_.1 63 6
          have g21 : -2147483648 ≤ h53_.1 63 9 ∧ h53_.1 63 9 ≤ 2147483647 := i53_.1 63 9
          have g22 : -2147483648 ≤ h53_.1 63 10 ∧ h53_.1 63 10 ≤ 2147483647 := i53_.1 63 10
          exfalso; omega
        | succ n ih53 =>
          intro x53_2 bx53_2 h53_ i53_ f53_ w53_0 w53_1 w53_2 hm53
          have g23 : -2147483648 ≤ h53_.1 63 5 ∧ h53_.1 63 5 ≤ 2147483647 := i53_.1 63 5
          have g24 : 0 ≤ h53_.1 63 7 ∧ h53_.1 63 7 ≤ 500 := i53_.1 63 7
          have g25 : 0 ≤ h53_.1 63 8 ∧ h53_.1 63 8 ≤ 500 := i53_.1 63 8
          have g26 : 0 ≤ h53_.1 63 3 ∧ h53_.1 63 3 ≤ 500 := i53_.1 63 3
          have g27 : -2147483648 ≤ h53_.1 63 6 ∧ h53_.1 63 6 ≤ 2147483647 := i53_.1 63 6
          have g28 : -2147483648 ≤ h53_.1 63 9 ∧ h53_.1 63 9 ≤ 2147483647 := i53_.1 63 9
          have g29 : -2147483648 ≤ h53_.1 63 10 ∧ h53_.1 63 10 ≤ 2147483647 := i53_.1 63 10
          have g30 : h53_.1 63 3 = h.1 63 3 := f53_.1 63 3 (by decide)
          have tf12 := mm_cX_h i53_ w53_0.1.2.1
          have tr12 := mm_cX_r i53_ w53_0.1.2.1
          refine mm_iload_n C (mm_dec dk_X7_readOr 29 rfl) rfl ?_
          refine mm_sipush C (mm_dec dk_X7_readOr 30 rfl) ⟨by decide, by decide⟩ ?_
          have J94 : ∀ (w94_0 : mm_nD h53_), mm_W x 0 0 94 [mU, mU, mU] [] h53_ := by
            intro w94_0
            have g31 : -2147483648 ≤ h53_.1 63 5 ∧ h53_.1 63 5 ≤ 2147483647 := i53_.1 63 5
            have g32 : 0 ≤ h53_.1 63 7 ∧ h53_.1 63 7 ≤ 500 := i53_.1 63 7
            have g33 : 0 ≤ h53_.1 63 8 ∧ h53_.1 63 8 ≤ 500 := i53_.1 63 8
            have g34 : 0 ≤ h53_.1 63 3 ∧ h53_.1 63 3 ≤ 500 := i53_.1 63 3
            have g35 : -2147483648 ≤ h53_.1 63 6 ∧ h53_.1 63 6 ≤ 2147483647 := i53_.1 63 6
            have g36 : -2147483648 ≤ h53_.1 63 9 ∧ h53_.1 63 9 ≤ 2147483647 := i53_.1 63 9
            have g37 : -2147483648 ≤ h53_.1 63 10 ∧ h53_.1 63 10 ≤ 2147483647 := i53_.1 63 10
            refine mm_iconst C (mm_dec dk_X7_readOr 49 rfl) ⟨by decide, by decide⟩ ?_
            exact mm_zret C T (mm_dec dk_X7_readOr 50 rfl) (by decide : 0 ≤ 0) (by decide : 0 ≤ 0) (by omega) ⟨_, rfl, ⟨⟨by omega, by omega⟩, i53_, f53_, by first | exact Or.inl ⟨rfl, w53_0, w94_0⟩ | exact Or.inr ⟨rfl, mm_or0 y43_0 (by omega)⟩ | exact Or.inr ⟨rfl, mm_f7_and w53_0 zc zs (mm_or0 y74_0 (by omega))⟩⟩⟩
          refine mm_icmp_ge (tgt := 94) C (mm_dec dk_X7_readOr 31 rfl) (by decide) (fun c57 => ?_) (fun c57 => ?_)
          · skip
            refine mm_fgt 0 ?_
            refine mm_fgt 1 ?_
            refine mm_fgt 2 ?_
            exact J94 (by (have z := w53_2; unfold mm_nC at z; unfold mm_nD; have zz := mm_hdx tf12; omega))
          · skip
            refine mm_aload_n C (mm_dec dk_X7_readOr 32 rfl) rfl ?_
            refine mm_geti C fl_X7_28 (mm_dec dk_X7_readOr 33 rfl) rfl rfl (Or.inl rfl) ?_
            refine mm_iconst C (mm_dec dk_X7_readOr 34 rfl) ⟨by decide, by decide⟩ ?_
            refine mm_icmp_ne (tgt := 94) C (mm_dec dk_X7_readOr 35 rfl) (by decide) (fun c65 => ?_) (fun c65 => ?_)
            · skip
              refine mm_fgt 0 ?_
              refine mm_fgt 1 ?_
              refine mm_fgt 2 ?_
              exact J94 (by (have z := w53_2; unfold mm_nC at z; unfold mm_nD; have zz := mm_hdx tf12; omega))
            · skip
              refine mm_aload_n C (mm_dec dk_X7_readOr 36 rfl) rfl ?_
              refine mm_cVv (rest := []) C1 ev_X7_52 (mm_dec dk_X7_readOr 37 rfl) (c_X7_step_q x.2.1 hl (d - 1) (by omega) h53_ i53_ ) rfl rfl (Nat.le_of_ble_eq_true rfl) ⟨by decide, by decide⟩ rfl (fun h69c hp69 => ?_) (fun _ _ q => q.elim)
              obtain ⟨i69c, g69c, y69_0, y69_1, y69_2⟩ := hp69
              have f69c : mm_fr [(63, 4), (63, 5), (63, 6), (63, 7), (63, 8), (63, 9), (63, 10)] [64] h h69c := mm_fr_tr f53_ g69c (by decide +kernel)
              have q69c_39 : h69c.1 63 3 = h53_.1 63 3 := g69c.1 63 3 (by decide)
              have q69c_40 : h69c.1 63 9 = h53_.1 63 9 := g69c.1 63 9 (by decide)
              have q69c_41 : h69c.1 63 10 = h53_.1 63 10 := g69c.1 63 10 (by decide)
              have g42 : -2147483648 ≤ (h69c.1 63 5) ∧ (h69c.1 63 5) ≤ 2147483647 := i69c.1 63 5
              have g43 : 0 ≤ (h69c.1 63 7) ∧ (h69c.1 63 7) ≤ 500 := i69c.1 63 7
              have g44 : 0 ≤ (h69c.1 63 8) ∧ (h69c.1 63 8) ≤ 500 := i69c.1 63 8
              have g45 : -2147483648 ≤ (h69c.1 63 6) ∧ (h69c.1 63 6) ≤ 2147483647 := i69c.1 63 6
              have zs := mm_st7_of w53_0.1.2.1 y69_1 y69_2 g69c (by decide)
              have zc : mm_cX h53_ = 4 ∨ mm_cX h53_ = 5 := by have zz := mm_hdx tf12; omega
              have zl := mm_st7_lt zs (by omega)
              refine mm_aload_n C (mm_dec dk_X7_readOr 38 rfl) rfl ?_
              refine mm_iload_n C (mm_dec dk_X7_readOr 39 rfl) rfl ?_
              refine mm_cVi (rest := []) C1 ev_X7_99 (mm_dec dk_X7_readOr 40 rfl) (c_X7_readAnd_q5 x.2.1 hl (d - 1) (by omega) h69c i69c p1 ⟨by omega, by omega⟩ (by exact y69_1)) rfl rfl (Nat.le_of_ble_eq_true rfl) ⟨by decide, by decide⟩ rfl (fun r74 h74c hp74 => ?_) (fun _ _ q => q.elim)
              obtain ⟨b74, i74c, g74c, y74_0⟩ := hp74
              have f74c : mm_fr [(63, 4), (63, 5), (63, 6), (63, 7), (63, 8), (63, 9), (63, 10)] [64] h h74c := mm_fr_tr f69c g74c (by decide +kernel)
              have q74c_47 : h74c.1 63 3 = h69c.1 63 3 := g74c.1 63 3 (by decide)
              have g48 : -2147483648 ≤ (h74c.1 63 5) ∧ (h74c.1 63 5) ≤ 2147483647 := i74c.1 63 5
              have g49 : 0 ≤ (h74c.1 63 7) ∧ (h74c.1 63 7) ≤ 500 := i74c.1 63 7
              have g50 : 0 ≤ (h74c.1 63 8) ∧ (h74c.1 63 8) ≤ 500 := i74c.1 63 8
              have g51 : -2147483648 ≤ (h74c.1 63 6) ∧ (h74c.1 63 6) ≤ 2147483647 := i74c.1 63 6
              have g52 : -2147483648 ≤ (h74c.1 63 9) ∧ (h74c.1 63 9) ≤ 2147483647 := i74c.1 63 9
              have g53 : -2147483648 ≤ (h74c.1 63 10) ∧ (h74c.1 63 10) ≤ 2147483647 := i74c.1 63 10
              refine mm_if_ne (tgt := 82) C (mm_dec dk_X7_readOr 41 rfl) (by decide) (fun c77 => ?_) (fun c77 => ?_)
              · skip
                refine mm_aload_n C (mm_dec dk_X7_readOr 44 rfl) rfl ?_
                refine mm_ldc (z := 100011) C (mm_dec dk_X7_readOr 45 rfl) kc_X7_102 (by decide) ?_
                refine mm_cVv (rest := []) C1 ev_X7_79 (mm_dec dk_X7_readOr 46 rfl) (c_X7_emit x.2.1 hl (d - 1) (by omega) h74c i74c 100011) rfl rfl (Nat.le_of_ble_eq_true rfl) ⟨by decide, by decide⟩ rfl (fun h85c hp85 => ?_) (fun _ _ q => q.elim)
                obtain ⟨i85c, g85c⟩ := hp85
                have f85c : mm_fr [(63, 4), (63, 5), (63, 6), (63, 7), (63, 8), (63, 9), (63, 10)] [64] h h85c := mm_fr_tr f74c g85c (by decide +kernel)
                have q85c_55 : h85c.1 63 3 = h74c.1 63 3 := g85c.1 63 3 (by decide)
                have q85c_56 : h85c.1 63 5 = h74c.1 63 5 := g85c.1 63 5 (by decide)
                have q85c_57 : h85c.1 63 6 = h74c.1 63 6 := g85c.1 63 6 (by decide)
                have q85c_58 : h85c.1 63 7 = h74c.1 63 7 := g85c.1 63 7 (by decide)
                have q85c_59 : h85c.1 63 8 = h74c.1 63 8 := g85c.1 63 8 (by decide)
                have q85c_60 : h85c.1 63 9 = h74c.1 63 9 := g85c.1 63 9 (by decide)
                have q85c_61 : h85c.1 63 10 = h74c.1 63 10 := g85c.1 63 10 (by decide)
                have zt := g85c.1 63 7 (by decide)
                have zu := (mm_or1 y74_0 (by omega)).1.2.1
                refine mm_iincL (ls2 := [mR 63, mI p1, mI (x53_2 + 1)]) C (mm_dec dk_X7_readOr 47 rfl) rfl (by decide) ⟨by omega, by omega⟩ rfl ?_
                refine mm_goto (tgt := 53) C (mm_dec dk_X7_readOr 48 rfl) (by decide) ?_
                exact ih53 (x53_2 + 1) ⟨by omega, by omega⟩ h85c i85c f85c (by first | exact (mm_or1 y43_0 (by omega)).1 | exact mm_q7_em (mm_q7_and w53_0 zc zs (mm_or1 y74_0 (by omega)).1) (mm_em_fr g85c (by decide))) (by omega) (by first | exact (mm_or1 y43_0 (by omega)).2 | exact mm_nC_em (mm_or1 y74_0 (by omega)).2 (mm_em_fr g85c (by decide))) (by omega)
              · skip
                refine mm_iconst C (mm_dec dk_X7_readOr 42 rfl) ⟨by decide, by decide⟩ ?_
                exact mm_zret C T (mm_dec dk_X7_readOr 43 rfl) (by decide : 0 ≤ 0) (by decide : 0 ≤ 0) (by omega) ⟨_, rfl, ⟨⟨by omega, by omega⟩, i74c, f74c, by first | exact Or.inl ⟨rfl, w53_0, w94_0⟩ | exact Or.inr ⟨rfl, mm_or0 y43_0 (by omega)⟩ | exact Or.inr ⟨rfl, mm_f7_and w53_0 zc zs (mm_or0 y74_0 (by omega))⟩⟩⟩
      refine mm_istore_nL (ls2 := [mR 63, mI p1, mI 0]) C (mm_dec dk_X7_readOr 28 rfl) (by decide) rfl ?_
      exact J53 (((500 - 0) : Int) + 1).toNat 0 ⟨by omega, by omega⟩ h43c i43c f43c (by first | exact (mm_or1 y43_0 (by omega)).1 | exact mm_q7_em (mm_q7_and w53_0 zc zs (mm_or1 y74_0 (by omega)).1) (mm_em_fr g85c (by decide))) (by omega) (by first | exact (mm_or1 y43_0 (by omega)).2 | exact mm_nC_em (mm_or1 y74_0 (by omega)).2 (mm_em_fr g85c (by decide))) (by omega)
    · skip
      refine mm_iconst C (mm_dec dk_X7_readOr 25 rfl) ⟨by decide, by decide⟩ ?_
      exact mm_zret C T (mm_dec dk_X7_readOr 26 rfl) (by decide : 0 ≤ 0) (by decide : 0 ≤ 0) (by omega) ⟨_, rfl, ⟨⟨by omega, by omega⟩, i43c, f43c, by first | exact Or.inl ⟨rfl, w53_0, w94_0⟩ | exact Or.inr ⟨rfl, mm_or0 y43_0 (by omega)⟩ | exact Or.inr ⟨rfl, mm_f7_and w53_0 zc zs (mm_or0 y74_0 (by omega))⟩⟩⟩
  · skip
    exfalso; omega
set_option maxRecDepth 100000 in
set_option maxHeartbeats 4000000 in
theorem c_X7_readPart_q4 (l : Launch) (hl : l.stackTraces = false) (d : Nat) (hd : 13 ≤ d) (h : mH) (i0 : mm_inv h) (p1 : Int) (bp1 : 4 ≤ p1 ∧ p1 ≤ 4) (t0 : mm_aX h) : mm_Met l d yX7_readPart cX7_readPart 2 (some .boolean) [mR 63, mI p1] h (mm_pi fun r h2 => (0 ≤ r ∧ r ≤ 1) ∧ mm_inv h2 ∧ mm_fr [(63, 4), (63, 5), (63, 6), (63, 7), (63, 8), (63, 9), (63, 10)] [64] h h2 ∧ ((r = 1 ∧ mm_p7 4 h h2) ∨ (r = 0 ∧ mm_g7 4 h h2))) mm_nx 0 0 := by
  refine mm_ofW (ls := [mR 63, mI p1]) hl (by decide) rfl (Nat.le_of_ble_eq_true rfl) ?_
  intro x hxl C T hnm htb
  subst hxl
  have C1 := mm_OK_le (d' := d - 1 + 1) (by omega) C
  have C8 := mm_OK_le (d' := d - 8 + 8) (by omega) C
  refine mm_rng (fun hr _ => ?_)
  have ap1 : -2147483648 ≤ p1 ∧ p1 < 2147483648 := mm_ok_at hr (i := 1) rfl
  have f0 : mm_fr [(63, 4), (63, 5), (63, 6), (63, 7), (63, 8), (63, 9), (63, 10)] [64] h h := mm_fr_rf
  have g1 : -2147483648 ≤ h.1 63 5 ∧ h.1 63 5 ≤ 2147483647 := i0.1 63 5
  have g2 : 0 ≤ h.1 63 7 ∧ h.1 63 7 ≤ 500 := i0.1 63 7
  have g3 : 0 ≤ h.1 63 8 ∧ h.1 63 8 ≤ 500 := i0.1 63 8
  have g4 : 0 ≤ h.1 63 3 ∧ h.1 63 3 ≤ 500 := i0.1 63 3
  have g5 : -2147483648 ≤ h.1 63 6 ∧ h.1 63 6 ≤ 2147483647 := i0.1 63 6
  have g6 : -2147483648 ≤ h.1 63 9 ∧ h.1 63 9 ≤ 2147483647 := i0.1 63 9
  have g7 : -2147483648 ≤ h.1 63 10 ∧ h.1 63 10 ≤ 2147483647 := i0.1 63 10
  have tf := mm_cX_h i0 t0
  have tr := mm_cX_r i0 t0
  refine mm_aload_n C (mm_dec dk_X7_readPart 0 rfl) rfl ?_
  refine mm_bipush C (mm_dec dk_X7_readPart 1 rfl) ⟨by decide, by decide⟩ ?_
  refine mm_cVi (rest := []) C1 ev_X7_96 (mm_dec dk_X7_readPart 2 rfl) (c_X7_isSign x.2.1 hl (d - 1) (by omega) h i0 40 (by omega)) rfl rfl (Nat.le_of_ble_eq_true rfl) ⟨by decide, by decide⟩ rfl (fun r3 h3c hp3 => ?_) (fun _ _ q => q.elim)
  obtain ⟨z3, y3⟩ := hp3
  rw [z3]
  have g9 : -2147483648 ≤ (h.2.1 62 (h.1 63 7)) ∧ (h.2.1 62 (h.1 63 7)) ≤ 2147483647 := i0.2.1 62 (h.1 63 7)
  refine mm_if_eq (tgt := 38) C (mm_dec dk_X7_readPart 3 rfl) (by decide) (fun c6 => ?_) (fun c6 => ?_)
  · skip
    refine mm_aload_n C (mm_dec dk_X7_readPart 20 rfl) rfl ?_
    refine mm_geti C fl_X7_25 (mm_dec dk_X7_readPart 21 rfl) rfl rfl (Or.inl rfl) ?_
    refine mm_iconst C (mm_dec dk_X7_readPart 22 rfl) ⟨by decide, by decide⟩ ?_
    have J117 : ∀ (h117_ : mH) (i117_ : mm_inv h117_) (f117_ : mm_fr [(63, 4), (63, 5), (63, 6), (63, 7), (63, 8), (63, 9), (63, 10)] [64] h h117_) (w117_0 : mm_em h h117_) (w117_1 : (mm_cX h = 18 ∨ (7 ≤ mm_cX h ∧ mm_cX h ≤ 16))), mm_W x 0 0 117 [mR 63, mU] [] h117_ := by
      intro h117_ i117_ f117_ w117_0 w117_1
      have g10 : -2147483648 ≤ h117_.1 63 5 ∧ h117_.1 63 5 ≤ 2147483647 := i117_.1 63 5
      have g11 : 0 ≤ h117_.1 63 7 ∧ h117_.1 63 7 ≤ 500 := i117_.1 63 7
      have g12 : 0 ≤ h117_.1 63 8 ∧ h117_.1 63 8 ≤ 500 := i117_.1 63 8
      have g13 : 0 ≤ h117_.1 63 3 ∧ h117_.1 63 3 ≤ 500 := i117_.1 63 3
      have g14 : -2147483648 ≤ h117_.1 63 6 ∧ h117_.1 63 6 ≤ 2147483647 := i117_.1 63 6
      have g15 : -2147483648 ≤ h117_.1 63 9 ∧ h117_.1 63 9 ≤ 2147483647 := i117_.1 63 9
      have g16 : -2147483648 ≤ h117_.1 63 10 ∧ h117_.1 63 10 ≤ 2147483647 := i117_.1 63 10
      have g17 : h117_.1 63 3 = h.1 63 3 := f117_.1 63 3 (by decide)
      refine mm_aload_n C (mm_dec dk_X7_readPart 61 rfl) rfl ?_
      refine mm_cVv (rest := []) C1 ev_X7_52 (mm_dec dk_X7_readPart 62 rfl) (c_X7_step_q x.2.1 hl (d - 1) (by omega) h117_ i117_ ) rfl rfl (Nat.le_of_ble_eq_true rfl) ⟨by decide, by decide⟩ rfl (fun h118c hp118 => ?_) (fun _ _ q => q.elim)
      obtain ⟨i118c, g118c, y118_0, y118_1, y118_2⟩ := hp118
      have f118c : mm_fr [(63, 4), (63, 5), (63, 6), (63, 7), (63, 8), (63, 9), (63, 10)] [64] h h118c := mm_fr_tr f117_ g118c (by decide +kernel)
      have q118c_19 : h118c.1 63 3 = h117_.1 63 3 := g118c.1 63 3 (by decide)
      have q118c_20 : h118c.1 63 9 = h117_.1 63 9 := g118c.1 63 9 (by decide)
      have q118c_21 : h118c.1 63 10 = h117_.1 63 10 := g118c.1 63 10 (by decide)
      have g22 : -2147483648 ≤ (h118c.1 63 5) ∧ (h118c.1 63 5) ≤ 2147483647 := i118c.1 63 5
      have g23 : 0 ≤ (h118c.1 63 7) ∧ (h118c.1 63 7) ≤ 500 := i118c.1 63 7
      have g24 : 0 ≤ (h118c.1 63 8) ∧ (h118c.1 63 8) ≤ 500 := i118c.1 63 8
      have g25 : -2147483648 ≤ (h118c.1 63 6) ∧ (h118c.1 63 6) ≤ 2147483647 := i118c.1 63 6
      refine mm_iconst C (mm_dec dk_X7_readPart 63 rfl) ⟨by decide, by decide⟩ ?_
      exact mm_zret C T (mm_dec dk_X7_readPart 64 rfl) (by decide : 0 ≤ 0) (by decide : 0 ≤ 0) (by omega) ⟨_, rfl, ⟨⟨by omega, by omega⟩, i118c, f118c, by first | exact w37_0 | exact Or.inr ⟨by omega, mm_g7_bad (by have zz := mm_hdx tf; have zy := y57_0; omega) y57_1⟩ | (have z := mm_or0 y101_0 (by omega); exact Or.inr ⟨rfl, mm_g7_bad (by have := z.1; have zz := mm_hdx tf; omega) z.2⟩) | exact Or.inl ⟨rfl, mm_p7_part w117_1 w117_0 (mm_st7_of (mm_em_a w117_0 t0) y118_1 y118_2 g118c (by decide))⟩⟩⟩
    refine mm_icmp_ne (tgt := 100) C (mm_dec dk_X7_readPart 23 rfl) (by decide) (fun c43 => ?_) (fun c43 => ?_)
    · skip
      refine mm_aload_n C (mm_dec dk_X7_readPart 52 rfl) rfl ?_
      refine mm_cVi (rest := []) C1 ev_X7_89 (mm_dec dk_X7_readPart 53 rfl) (c_X7_isNumber_q x.2.1 hl (d - 1) (by omega) h i0 ) rfl rfl (Nat.le_of_ble_eq_true rfl) ⟨by decide, by decide⟩ rfl (fun r101 h101c hp101 => ?_) (fun _ _ q => q.elim)
      obtain ⟨b101, i101c, g101c, y101_0⟩ := hp101
      have f101c : mm_fr [(63, 4), (63, 5), (63, 6), (63, 7), (63, 8), (63, 9), (63, 10)] [64] h h101c := mm_fr_tr f0 g101c (by decide +kernel)
      have q101c_27 : h101c.1 63 3 = h.1 63 3 := g101c.1 63 3 (by decide)
      have q101c_28 : h101c.1 63 5 = h.1 63 5 := g101c.1 63 5 (by decide)
      have q101c_29 : h101c.1 63 6 = h.1 63 6 := g101c.1 63 6 (by decide)
      have q101c_30 : h101c.1 63 7 = h.1 63 7 := g101c.1 63 7 (by decide)
      have q101c_31 : h101c.1 63 8 = h.1 63 8 := g101c.1 63 8 (by decide)
      have g32 : -2147483648 ≤ (h101c.1 63 9) ∧ (h101c.1 63 9) ≤ 2147483647 := i101c.1 63 9
      have g33 : -2147483648 ≤ (h101c.1 63 10) ∧ (h101c.1 63 10) ≤ 2147483647 := i101c.1 63 10
      refine mm_if_ne (tgt := 109) C (mm_dec dk_X7_readPart 54 rfl) (by decide) (fun c104 => ?_) (fun c104 => ?_)
      · skip
        refine mm_aload_n C (mm_dec dk_X7_readPart 57 rfl) rfl ?_
        refine mm_aload_n C (mm_dec dk_X7_readPart 58 rfl) rfl ?_
        refine mm_cVi (rest := [mR 63]) C1 ev_X7_92 (mm_dec dk_X7_readPart 59 rfl) (c_X7_numberOfToken_q x.2.1 hl (d - 1) (by omega) h101c i101c (by first | exact mm_em_a (mm_or1 y101_0 (by omega)).2.2 t0 | (have z := (mm_or1 y101_0 (by omega)).2.2; have z5 := z.2.1; have z7 := z.2.2.2.1; have z8 := z.2.2.2.2.1; omega)) (by first | exact mm_em_a (mm_or1 y101_0 (by omega)).2.2 t0 | (have z := (mm_or1 y101_0 (by omega)).2.2; have z5 := z.2.1; have z7 := z.2.2.2.1; have z8 := z.2.2.2.2.1; omega)) (by first | exact mm_em_a (mm_or1 y101_0 (by omega)).2.2 t0 | (have z := (mm_or1 y101_0 (by omega)).2.2; have z5 := z.2.1; have z7 := z.2.2.2.1; have z8 := z.2.2.2.2.1; omega))) rfl rfl (Nat.le_of_ble_eq_true rfl) ⟨by decide, by decide⟩ rfl (fun r111 h111c hp111 => ?_) (fun _ _ q => q.elim)
        obtain ⟨b111, z111, y111_0⟩ := hp111
        rw [z111]
        refine mm_cVv (rest := []) C1 ev_X7_79 (mm_dec dk_X7_readPart 60 rfl) (c_X7_emit x.2.1 hl (d - 1) (by omega) h101c i101c r111) rfl rfl (Nat.le_of_ble_eq_true rfl) ⟨by decide, by decide⟩ rfl (fun h114c hp114 => ?_) (fun _ _ q => q.elim)
        obtain ⟨i114c, g114c⟩ := hp114
        have f114c : mm_fr [(63, 4), (63, 5), (63, 6), (63, 7), (63, 8), (63, 9), (63, 10)] [64] h h114c := mm_fr_tr f101c g114c (by decide +kernel)
        have q114c_36 : h114c.1 63 3 = h101c.1 63 3 := g114c.1 63 3 (by decide)
        have q114c_37 : h114c.1 63 5 = h101c.1 63 5 := g114c.1 63 5 (by decide)
        have q114c_38 : h114c.1 63 6 = h101c.1 63 6 := g114c.1 63 6 (by decide)
        have q114c_39 : h114c.1 63 7 = h101c.1 63 7 := g114c.1 63 7 (by decide)
        have q114c_40 : h114c.1 63 8 = h101c.1 63 8 := g114c.1 63 8 (by decide)
        have q114c_41 : h114c.1 63 9 = h101c.1 63 9 := g114c.1 63 9 (by decide)
        have q114c_42 : h114c.1 63 10 = h101c.1 63 10 := g114c.1 63 10 (by decide)
        refine mm_fgt 1 ?_
        exact J117 h114c i114c f114c (by first | exact mm_em_fr g94c (by decide) | exact mm_em_tr (mm_or1 y101_0 (by omega)).2.2 (mm_em_fr g114c (by decide))) (by first | (have zz := mm_hdx tf; omega) | (have z := mm_or1 y101_0 (by omega); have z1 := z.1; have z2 := z.2.1; have zz := mm_hdx tf; omega))
      · skip
        refine mm_iconst C (mm_dec dk_X7_readPart 55 rfl) ⟨by decide, by decide⟩ ?_
        exact mm_zret C T (mm_dec dk_X7_readPart 56 rfl) (by decide : 0 ≤ 0) (by decide : 0 ≤ 0) (by omega) ⟨_, rfl, ⟨⟨by omega, by omega⟩, i101c, f101c, by first | exact w37_0 | exact Or.inr ⟨by omega, mm_g7_bad (by have zz := mm_hdx tf; have zy := y57_0; omega) y57_1⟩ | (have z := mm_or0 y101_0 (by omega); exact Or.inr ⟨rfl, mm_g7_bad (by have := z.1; have zz := mm_hdx tf; omega) z.2⟩) | exact Or.inl ⟨rfl, mm_p7_part w117_1 w117_0 (mm_st7_of (mm_em_a w117_0 t0) y118_1 y118_2 g118c (by decide))⟩⟩⟩
    · skip
      refine mm_aload_n C (mm_dec dk_X7_readPart 24 rfl) rfl ?_
      refine mm_geti C fl_X7_28 (mm_dec dk_X7_readPart 25 rfl) rfl rfl (Or.inl rfl) ?_
      refine mm_bipush C (mm_dec dk_X7_readPart 26 rfl) ⟨by decide, by decide⟩ ?_
      refine mm_icmp_ge (tgt := 61) C (mm_dec dk_X7_readPart 27 rfl) (by decide) (fun c52 => ?_) (fun c52 => ?_)
      · skip
        refine mm_aload_n C (mm_dec dk_X7_readPart 32 rfl) rfl ?_
        refine mm_aload_n C (mm_dec dk_X7_readPart 33 rfl) rfl ?_
        refine mm_geti C fl_X7_28 (mm_dec dk_X7_readPart 34 rfl) rfl rfl (Or.inl rfl) ?_
        refine mm_bipush C (mm_dec dk_X7_readPart 35 rfl) ⟨by decide, by decide⟩ ?_
        have J94 : ∀ (s94_1 : Int) (bs94_1 : -2147483648 ≤ s94_1 ∧ s94_1 ≤ 2147483647), mm_W x 0 0 94 [mR 63, mU] [mI s94_1, mR 63] h := by
          intro s94_1 bs94_1
          have g43 : -2147483648 ≤ h.1 63 5 ∧ h.1 63 5 ≤ 2147483647 := i0.1 63 5
          have g44 : 0 ≤ h.1 63 7 ∧ h.1 63 7 ≤ 500 := i0.1 63 7
          have g45 : 0 ≤ h.1 63 8 ∧ h.1 63 8 ≤ 500 := i0.1 63 8
          have g46 : 0 ≤ h.1 63 3 ∧ h.1 63 3 ≤ 500 := i0.1 63 3
          have g47 : -2147483648 ≤ h.1 63 6 ∧ h.1 63 6 ≤ 2147483647 := i0.1 63 6
          have g48 : -2147483648 ≤ h.1 63 9 ∧ h.1 63 9 ≤ 2147483647 := i0.1 63 9
          have g49 : -2147483648 ≤ h.1 63 10 ∧ h.1 63 10 ≤ 2147483647 := i0.1 63 10
          refine mm_cVv (rest := []) C1 ev_X7_79 (mm_dec dk_X7_readPart 50 rfl) (c_X7_emit x.2.1 hl (d - 1) (by omega) h i0 s94_1) rfl rfl (Nat.le_of_ble_eq_true rfl) ⟨by decide, by decide⟩ rfl (fun h94c hp94 => ?_) (fun _ _ q => q.elim)
          obtain ⟨i94c, g94c⟩ := hp94
          have f94c : mm_fr [(63, 4), (63, 5), (63, 6), (63, 7), (63, 8), (63, 9), (63, 10)] [64] h h94c := mm_fr_tr f0 g94c (by decide +kernel)
          have q94c_51 : h94c.1 63 3 = h.1 63 3 := g94c.1 63 3 (by decide)
          have q94c_52 : h94c.1 63 5 = h.1 63 5 := g94c.1 63 5 (by decide)
          have q94c_53 : h94c.1 63 6 = h.1 63 6 := g94c.1 63 6 (by decide)
          have q94c_54 : h94c.1 63 7 = h.1 63 7 := g94c.1 63 7 (by decide)
          have q94c_55 : h94c.1 63 8 = h.1 63 8 := g94c.1 63 8 (by decide)
          have q94c_56 : h94c.1 63 9 = h.1 63 9 := g94c.1 63 9 (by decide)
          have q94c_57 : h94c.1 63 10 = h.1 63 10 := g94c.1 63 10 (by decide)
          refine mm_goto (tgt := 117) C (mm_dec dk_X7_readPart 51 rfl) (by decide) ?_
          exact J117 h94c i94c f94c (by first | exact mm_em_fr g94c (by decide) | exact mm_em_tr (mm_or1 y101_0 (by omega)).2.2 (mm_em_fr g114c (by decide))) (by first | (have zz := mm_hdx tf; omega) | (have z := mm_or1 y101_0 (by omega); have z1 := z.1; have z2 := z.2.1; have zz := mm_hdx tf; omega))
        refine mm_icmp_ge (tgt := 84) C (mm_dec dk_X7_readPart 36 rfl) (by decide) (fun c68 => ?_) (fun c68 => ?_)
        · skip
          refine mm_ldc (z := 100000) C (mm_dec dk_X7_readPart 44 rfl) kc_X7_127 (by decide) ?_
          refine mm_aload_n C (mm_dec dk_X7_readPart 45 rfl) rfl ?_
          refine mm_geti C fl_X7_28 (mm_dec dk_X7_readPart 46 rfl) rfl rfl (Or.inl rfl) ?_
          refine mm_iaddw C (mm_dec dk_X7_readPart 47 rfl) ?_
          have g58 : -2147483648 ≤ (mm_w (100000 + (h.1 63 6))) ∧ (mm_w (100000 + (h.1 63 6))) < 2147483648 := mm_w_rg _
          refine mm_bipush C (mm_dec dk_X7_readPart 48 rfl) ⟨by decide, by decide⟩ ?_
          refine mm_isubw C (mm_dec dk_X7_readPart 49 rfl) ?_
          have g59 : -2147483648 ≤ (mm_w ((mm_w (100000 + (h.1 63 6))) - 10)) ∧ (mm_w ((mm_w (100000 + (h.1 63 6))) - 10)) < 2147483648 := mm_w_rg _
          refine mm_fgt 1 ?_
          exact J94 (mm_w ((mm_w (100000 + (h.1 63 6))) - 10)) ⟨by omega, by omega⟩
        · skip
          refine mm_ldc (z := 100007) C (mm_dec dk_X7_readPart 37 rfl) kc_X7_126 (by decide) ?_
          refine mm_aload_n C (mm_dec dk_X7_readPart 38 rfl) rfl ?_
          refine mm_geti C fl_X7_28 (mm_dec dk_X7_readPart 39 rfl) rfl rfl (Or.inl rfl) ?_
          refine mm_iadd C (mm_dec dk_X7_readPart 40 rfl) ⟨by omega, by omega⟩ ?_
          refine mm_bipush C (mm_dec dk_X7_readPart 41 rfl) ⟨by decide, by decide⟩ ?_
          refine mm_isub C (mm_dec dk_X7_readPart 42 rfl) ⟨by omega, by omega⟩ ?_
          refine mm_goto (tgt := 94) C (mm_dec dk_X7_readPart 43 rfl) (by decide) ?_
          refine mm_fgt 1 ?_
          exact J94 ((100007 + (h.1 63 6)) - 7) ⟨by omega, by omega⟩
      · skip
        refine mm_aload_n C (mm_dec dk_X7_readPart 28 rfl) rfl ?_
        refine mm_iconst C (mm_dec dk_X7_readPart 29 rfl) ⟨by decide, by decide⟩ ?_
        refine mm_cVi (rest := []) C1 ev_X7_65 (mm_dec dk_X7_readPart 30 rfl) (c_X7_refuse_q x.2.1 hl (d - 1) (by omega) h i0 3) rfl rfl (Nat.le_of_ble_eq_true rfl) ⟨by decide, by decide⟩ rfl (fun r57 h57c hp57 => ?_) (fun _ _ q => q.elim)
        obtain ⟨b57, i57c, g57c, y57_0, y57_1⟩ := hp57
        have f57c : mm_fr [(63, 4), (63, 5), (63, 6), (63, 7), (63, 8), (63, 9), (63, 10)] [64] h h57c := mm_fr_tr f0 g57c (by decide +kernel)
        have q57c_61 : h57c.1 63 3 = h.1 63 3 := g57c.1 63 3 (by decide)
        have q57c_62 : h57c.1 63 5 = h.1 63 5 := g57c.1 63 5 (by decide)
        have q57c_63 : h57c.1 63 6 = h.1 63 6 := g57c.1 63 6 (by decide)
        have q57c_64 : h57c.1 63 7 = h.1 63 7 := g57c.1 63 7 (by decide)
        have q57c_65 : h57c.1 63 8 = h.1 63 8 := g57c.1 63 8 (by decide)
        have g66 : -2147483648 ≤ (h57c.1 63 9) ∧ (h57c.1 63 9) ≤ 2147483647 := i57c.1 63 9
        have g67 : -2147483648 ≤ (h57c.1 63 10) ∧ (h57c.1 63 10) ≤ 2147483647 := i57c.1 63 10
        exact mm_zret C T (mm_dec dk_X7_readPart 31 rfl) (by decide : 0 ≤ 0) (by decide : 0 ≤ 0) (by omega) ⟨_, rfl, ⟨⟨by omega, by omega⟩, i57c, f57c, by first | exact w37_0 | exact Or.inr ⟨by omega, mm_g7_bad (by have zz := mm_hdx tf; have zy := y57_0; omega) y57_1⟩ | (have z := mm_or0 y101_0 (by omega); exact Or.inr ⟨rfl, mm_g7_bad (by have := z.1; have zz := mm_hdx tf; omega) z.2⟩) | exact Or.inl ⟨rfl, mm_p7_part w117_1 w117_0 (mm_st7_of (mm_em_a w117_0 t0) y118_1 y118_2 g118c (by decide))⟩⟩⟩
  · skip
    refine mm_aload_n C (mm_dec dk_X7_readPart 4 rfl) rfl ?_
    refine mm_cVv (rest := []) C1 ev_X7_52 (mm_dec dk_X7_readPart 5 rfl) (c_X7_step_q x.2.1 hl (d - 1) (by omega) h i0 ) rfl rfl (Nat.le_of_ble_eq_true rfl) ⟨by decide, by decide⟩ rfl (fun h10c hp10 => ?_) (fun _ _ q => q.elim)
    obtain ⟨i10c, g10c, y10_0, y10_1, y10_2⟩ := hp10
    have f10c : mm_fr [(63, 4), (63, 5), (63, 6), (63, 7), (63, 8), (63, 9), (63, 10)] [64] h h10c := mm_fr_tr f0 g10c (by decide +kernel)
    have q10c_69 : h10c.1 63 3 = h.1 63 3 := g10c.1 63 3 (by decide)
    have q10c_70 : h10c.1 63 9 = h.1 63 9 := g10c.1 63 9 (by decide)
    have q10c_71 : h10c.1 63 10 = h.1 63 10 := g10c.1 63 10 (by decide)
    have g72 : -2147483648 ≤ (h10c.1 63 5) ∧ (h10c.1 63 5) ≤ 2147483647 := i10c.1 63 5
    have g73 : 0 ≤ (h10c.1 63 7) ∧ (h10c.1 63 7) ≤ 500 := i10c.1 63 7
    have g74 : 0 ≤ (h10c.1 63 8) ∧ (h10c.1 63 8) ≤ 500 := i10c.1 63 8
    have g75 : -2147483648 ≤ (h10c.1 63 6) ∧ (h10c.1 63 6) ≤ 2147483647 := i10c.1 63 6
    have zs := mm_st7_of t0 y10_1 y10_2 g10c (by decide)
    refine mm_aload_n C (mm_dec dk_X7_readPart 6 rfl) rfl ?_
    refine mm_iload_n C (mm_dec dk_X7_readPart 7 rfl) rfl ?_
    refine mm_iconst C (mm_dec dk_X7_readPart 8 rfl) ⟨by decide, by decide⟩ ?_
    refine mm_iadd C (mm_dec dk_X7_readPart 9 rfl) ⟨by omega, by omega⟩ ?_
    refine mm_cVi (rest := []) C1 ev_X7_75 (mm_dec dk_X7_readPart 10 rfl) (c_X7_readOr_q5 x.2.1 hl (d - 1) (by omega) h10c i10c (p1 + 1) ⟨by omega, by omega⟩ (by exact y10_1)) rfl rfl (Nat.le_of_ble_eq_true rfl) ⟨by decide, by decide⟩ rfl (fun r17 h17c hp17 => ?_) (fun _ _ q => q.elim)
    obtain ⟨b17, i17c, g17c, y17_0⟩ := hp17
    have f17c : mm_fr [(63, 4), (63, 5), (63, 6), (63, 7), (63, 8), (63, 9), (63, 10)] [64] h h17c := mm_fr_tr f10c g17c (by decide +kernel)
    have q17c_77 : h17c.1 63 3 = h10c.1 63 3 := g17c.1 63 3 (by decide)
    have g78 : -2147483648 ≤ (h17c.1 63 5) ∧ (h17c.1 63 5) ≤ 2147483647 := i17c.1 63 5
    have g79 : 0 ≤ (h17c.1 63 7) ∧ (h17c.1 63 7) ≤ 500 := i17c.1 63 7
    have g80 : 0 ≤ (h17c.1 63 8) ∧ (h17c.1 63 8) ≤ 500 := i17c.1 63 8
    have g81 : -2147483648 ≤ (h17c.1 63 6) ∧ (h17c.1 63 6) ≤ 2147483647 := i17c.1 63 6
    have g82 : -2147483648 ≤ (h17c.1 63 9) ∧ (h17c.1 63 9) ≤ 2147483647 := i17c.1 63 9
    have g83 : -2147483648 ≤ (h17c.1 63 10) ∧ (h17c.1 63 10) ≤ 2147483647 := i17c.1 63 10
    have J37 : ∀ (s37_0 : Int) (bs37_0 : 0 ≤ s37_0 ∧ s37_0 ≤ 1) (h37_ : mH) (i37_ : mm_inv h37_) (f37_ : mm_fr [(63, 4), (63, 5), (63, 6), (63, 7), (63, 8), (63, 9), (63, 10)] [64] h h37_) (w37_0 : ((s37_0 = 1 ∧ mm_p7 4 h h37_) ∨ (s37_0 = 0 ∧ mm_g7 4 h h37_))), mm_W x 0 0 37 [mU, mU] [mI s37_0] h37_ := by
      intro s37_0 bs37_0 h37_ i37_ f37_ w37_0
      have g84 : -2147483648 ≤ h37_.1 63 5 ∧ h37_.1 63 5 ≤ 2147483647 := i37_.1 63 5
      have g85 : 0 ≤ h37_.1 63 7 ∧ h37_.1 63 7 ≤ 500 := i37_.1 63 7
      have g86 : 0 ≤ h37_.1 63 8 ∧ h37_.1 63 8 ≤ 500 := i37_.1 63 8
      have g87 : 0 ≤ h37_.1 63 3 ∧ h37_.1 63 3 ≤ 500 := i37_.1 63 3
      have g88 : -2147483648 ≤ h37_.1 63 6 ∧ h37_.1 63 6 ≤ 2147483647 := i37_.1 63 6
      have g89 : -2147483648 ≤ h37_.1 63 9 ∧ h37_.1 63 9 ≤ 2147483647 := i37_.1 63 9
      have g90 : -2147483648 ≤ h37_.1 63 10 ∧ h37_.1 63 10 ≤ 2147483647 := i37_.1 63 10
      have g91 : h37_.1 63 3 = h.1 63 3 := f37_.1 63 3 (by decide)
      exact mm_zret C T (mm_dec dk_X7_readPart 19 rfl) (by decide : 0 ≤ 0) (by decide : 0 ≤ 0) (by omega) ⟨_, rfl, ⟨⟨by omega, by omega⟩, i37_, f37_, by first | exact w37_0 | exact Or.inr ⟨by omega, mm_g7_bad (by have zz := mm_hdx tf; have zy := y57_0; omega) y57_1⟩ | (have z := mm_or0 y101_0 (by omega); exact Or.inr ⟨rfl, mm_g7_bad (by have := z.1; have zz := mm_hdx tf; omega) z.2⟩) | exact Or.inl ⟨rfl, mm_p7_part w117_1 w117_0 (mm_st7_of (mm_em_a w117_0 t0) y118_1 y118_2 g118c (by decide))⟩⟩⟩
    have J36 : ∀ (h36_ : mH) (i36_ : mm_inv h36_) (f36_ : mm_fr [(63, 4), (63, 5), (63, 6), (63, 7), (63, 8), (63, 9), (63, 10)] [64] h h36_) (w36_0 : mm_g7 4 h h36_), mm_W x 0 0 36 [mU, mU] [] h36_ := by
      intro h36_ i36_ f36_ w36_0
      have g92 : -2147483648 ≤ h36_.1 63 5 ∧ h36_.1 63 5 ≤ 2147483647 := i36_.1 63 5
      have g93 : 0 ≤ h36_.1 63 7 ∧ h36_.1 63 7 ≤ 500 := i36_.1 63 7
      have g94 : 0 ≤ h36_.1 63 8 ∧ h36_.1 63 8 ≤ 500 := i36_.1 63 8
      have g95 : 0 ≤ h36_.1 63 3 ∧ h36_.1 63 3 ≤ 500 := i36_.1 63 3
      have g96 : -2147483648 ≤ h36_.1 63 6 ∧ h36_.1 63 6 ≤ 2147483647 := i36_.1 63 6
      have g97 : -2147483648 ≤ h36_.1 63 9 ∧ h36_.1 63 9 ≤ 2147483647 := i36_.1 63 9
      have g98 : -2147483648 ≤ h36_.1 63 10 ∧ h36_.1 63 10 ≤ 2147483647 := i36_.1 63 10
      have g99 : h36_.1 63 3 = h.1 63 3 := f36_.1 63 3 (by decide)
      refine mm_iconst C (mm_dec dk_X7_readPart 18 rfl) ⟨by decide, by decide⟩ ?_
      exact J37 0 ⟨by omega, by omega⟩ h36_ i36_ f36_ (by first | exact Or.inr ⟨rfl, w36_0⟩ | (have z := mm_or1 y26_0 (by omega); exact Or.inl ⟨rfl, mm_p7_par (by decide) (by have zz := mm_hdx tf; omega) zs zq.1 (by have := z.1; omega) z.2⟩))
    refine mm_if_eq (tgt := 36) C (mm_dec dk_X7_readPart 11 rfl) (by decide) (fun c20 => ?_) (fun c20 => ?_)
    · skip
      refine mm_fgt 0 ?_
      refine mm_fgt 1 ?_
      exact J36 h17c i17c f17c (by first | exact mm_g7_par (by decide) (by have zz := mm_hdx tf; omega) zs (mm_or0 y17_0 (by omega)) | (have z := mm_or0 y26_0 (by omega); exact mm_g7_shut (by decide) (by have zz := mm_hdx tf; omega) zs zq.1 zq.2 (fun q => z.1 (by omega)) z.2.1 z.2.2))
    · skip
      have zq := mm_or1 y17_0 (by omega)
      have tg := mm_cX_h i17c zq.1.1.2.1
      have th := mm_cX_r i17c zq.1.1.2.1
      refine mm_aload_n C (mm_dec dk_X7_readPart 12 rfl) rfl ?_
      refine mm_bipush C (mm_dec dk_X7_readPart 13 rfl) ⟨by decide, by decide⟩ ?_
      refine mm_cVi (rest := []) C1 ev_X7_72 (mm_dec dk_X7_readPart 14 rfl) (c_X7_readSign_q x.2.1 hl (d - 1) (by omega) h17c i17c 41 ⟨by omega, by omega⟩ (by exact zq.1.1.2.1)) rfl rfl (Nat.le_of_ble_eq_true rfl) ⟨by decide, by decide⟩ rfl (fun r26 h26c hp26 => ?_) (fun _ _ q => q.elim)
      obtain ⟨b26, i26c, g26c, y26_0⟩ := hp26
      have f26c : mm_fr [(63, 4), (63, 5), (63, 6), (63, 7), (63, 8), (63, 9), (63, 10)] [64] h h26c := mm_fr_tr f17c g26c (by decide +kernel)
      have q26c_101 : h26c.1 63 3 = h17c.1 63 3 := g26c.1 63 3 (by decide)
      have g102 : -2147483648 ≤ (h26c.1 63 5) ∧ (h26c.1 63 5) ≤ 2147483647 := i26c.1 63 5
      have g103 : 0 ≤ (h26c.1 63 7) ∧ (h26c.1 63 7) ≤ 500 := i26c.1 63 7
      have g104 : 0 ≤ (h26c.1 63 8) ∧ (h26c.1 63 8) ≤ 500 := i26c.1 63 8
      have g105 : -2147483648 ≤ (h26c.1 63 6) ∧ (h26c.1 63 6) ≤ 2147483647 := i26c.1 63 6
      have g106 : -2147483648 ≤ (h26c.1 63 9) ∧ (h26c.1 63 9) ≤ 2147483647 := i26c.1 63 9
      have g107 : -2147483648 ≤ (h26c.1 63 10) ∧ (h26c.1 63 10) ≤ 2147483647 := i26c.1 63 10
      refine mm_if_eq (tgt := 36) C (mm_dec dk_X7_readPart 15 rfl) (by decide) (fun c29 => ?_) (fun c29 => ?_)
      · skip
        refine mm_fgt 0 ?_
        refine mm_fgt 1 ?_
        exact J36 h26c i26c f26c (by first | exact mm_g7_par (by decide) (by have zz := mm_hdx tf; omega) zs (mm_or0 y17_0 (by omega)) | (have z := mm_or0 y26_0 (by omega); exact mm_g7_shut (by decide) (by have zz := mm_hdx tf; omega) zs zq.1 zq.2 (fun q => z.1 (by omega)) z.2.1 z.2.2))
      · skip
        refine mm_iconst C (mm_dec dk_X7_readPart 16 rfl) ⟨by decide, by decide⟩ ?_
        refine mm_goto (tgt := 37) C (mm_dec dk_X7_readPart 17 rfl) (by decide) ?_
        refine mm_fgt 0 ?_
        refine mm_fgt 1 ?_
        exact J37 1 ⟨by omega, by omega⟩ h26c i26c f26c (by first | exact Or.inr ⟨rfl, w36_0⟩ | (have z := mm_or1 y26_0 (by omega); exact Or.inl ⟨rfl, mm_p7_par (by decide) (by have zz := mm_hdx tf; omega) zs zq.1 (by have := z.1; omega) z.2⟩))
set_option maxRecDepth 100000 in
set_option maxHeartbeats 4000000 in
theorem c_X7_readProduct_q4 (l : Launch) (hl : l.stackTraces = false) (d : Nat) (hd : 14 ≤ d) (h : mH) (i0 : mm_inv h) (p1 : Int) (bp1 : 4 ≤ p1 ∧ p1 ≤ 4) (t0 : mm_aX h) : mm_Met l d yX7_readProduct cX7_readProduct 4 (some .boolean) [mR 63, mI p1] h (mm_pi fun r h2 => (0 ≤ r ∧ r ≤ 1) ∧ mm_inv h2 ∧ mm_fr [(63, 4), (63, 5), (63, 6), (63, 7), (63, 8), (63, 9), (63, 10)] [64] h h2 ∧ ((r = 1 ∧ mm_p7 4 h h2 ∧ mm_nA h2) ∨ (r = 0 ∧ mm_g7 4 h h2))) mm_nx 0 0 := by
  refine mm_ofW (ls := [mR 63, mI p1, mU, mU]) hl (by decide) rfl (Nat.le_of_ble_eq_true rfl) ?_
  intro x hxl C T hnm htb
  subst hxl
  have C1 := mm_OK_le (d' := d - 1 + 1) (by omega) C
  have C8 := mm_OK_le (d' := d - 8 + 8) (by omega) C
  refine mm_rng (fun hr _ => ?_)
  have ap1 : -2147483648 ≤ p1 ∧ p1 < 2147483648 := mm_ok_at hr (i := 1) rfl
  have f0 : mm_fr [(63, 4), (63, 5), (63, 6), (63, 7), (63, 8), (63, 9), (63, 10)] [64] h h := mm_fr_rf
  have g1 : -2147483648 ≤ h.1 63 5 ∧ h.1 63 5 ≤ 2147483647 := i0.1 63 5
  have g2 : 0 ≤ h.1 63 7 ∧ h.1 63 7 ≤ 500 := i0.1 63 7
  have g3 : 0 ≤ h.1 63 8 ∧ h.1 63 8 ≤ 500 := i0.1 63 8
  have g4 : 0 ≤ h.1 63 3 ∧ h.1 63 3 ≤ 500 := i0.1 63 3
  have g5 : -2147483648 ≤ h.1 63 6 ∧ h.1 63 6 ≤ 2147483647 := i0.1 63 6
  have g6 : -2147483648 ≤ h.1 63 9 ∧ h.1 63 9 ≤ 2147483647 := i0.1 63 9
  have g7 : -2147483648 ≤ h.1 63 10 ∧ h.1 63 10 ≤ 2147483647 := i0.1 63 10
  have tf := mm_cX_h i0 t0
  have tr := mm_cX_r i0 t0
  refine mm_aload_n C (mm_dec dk_X7_readProduct 0 rfl) rfl ?_
  refine mm_iload_n C (mm_dec dk_X7_readProduct 1 rfl) rfl ?_
  refine mm_cVi (rest := []) C1 ev_X7_121 (mm_dec dk_X7_readProduct 2 rfl) (c_X7_readPart_q4 x.2.1 hl (d - 1) (by omega) h i0 p1 ⟨by omega, by omega⟩ (by exact t0)) rfl rfl (Nat.le_of_ble_eq_true rfl) ⟨by decide, by decide⟩ rfl (fun r2 h2c hp2 => ?_) (fun _ _ q => q.elim)
  obtain ⟨b2, i2c, g2c, y2_0⟩ := hp2
  have f2c : mm_fr [(63, 4), (63, 5), (63, 6), (63, 7), (63, 8), (63, 9), (63, 10)] [64] h h2c := mm_fr_tr f0 g2c (by decide +kernel)
  have q2c_9 : h2c.1 63 3 = h.1 63 3 := g2c.1 63 3 (by decide)
  have g10 : -2147483648 ≤ (h2c.1 63 5) ∧ (h2c.1 63 5) ≤ 2147483647 := i2c.1 63 5
  have g11 : 0 ≤ (h2c.1 63 7) ∧ (h2c.1 63 7) ≤ 500 := i2c.1 63 7
  have g12 : 0 ≤ (h2c.1 63 8) ∧ (h2c.1 63 8) ≤ 500 := i2c.1 63 8
  have g13 : -2147483648 ≤ (h2c.1 63 6) ∧ (h2c.1 63 6) ≤ 2147483647 := i2c.1 63 6
  have g14 : -2147483648 ≤ (h2c.1 63 9) ∧ (h2c.1 63 9) ≤ 2147483647 := i2c.1 63 9
  have g15 : -2147483648 ≤ (h2c.1 63 10) ∧ (h2c.1 63 10) ≤ 2147483647 := i2c.1 63 10
  refine mm_if_ne (tgt := 10) C (mm_dec dk_X7_readProduct 3 rfl) (by decide) (fun c5 => ?_) (fun c5 => ?_)
  · skip
    refine mm_iconst C (mm_dec dk_X7_readProduct 6 rfl) ⟨by decide, by decide⟩ ?_
    have J12 : ∀ (n : Nat) (x12_2 : Int) (bx12_2 : 0 ≤ x12_2 ∧ x12_2 ≤ 500) (h12_ : mH) (i12_ : mm_inv h12_) (f12_ : mm_fr [(63, 4), (63, 5), (63, 6), (63, 7), (63, 8), (63, 9), (63, 10)] [64] h h12_) (w12_0 : mm_p7 4 h h12_) (w12_1 : x12_2 ≤ h12_.1 63 7), (500 - x12_2 : Int) < n → mm_W x 0 0 12 [mR 63, mI p1, mI x12_2, mU] [] h12_ := by
      intro n
      induction n with
      | zero =>
        intro x12_2 bx12_2 h12_ i12_ f12_ w12_0 w12_1 hm
        have g16 : -2147483648 ≤ h12_.1 63 5 ∧ h12_.1 63 5 ≤ 2147483647 := i12_.1 63 5
        have g17 : 0 ≤ h12_.1 63 7 ∧ h12_.1 63 7 ≤ 500 := i12_.1 63 7
        have g18 : 0 ≤ h12_.1 63 8 ∧ h12_.1 63 8 ≤ 500 := i12_.1 63 8
        have g19 : 0 ≤ h12_.1 63 3 ∧ h12_.1 63 3 ≤ 500 := i12_.1 63 3
        have g20 : -2147483648 ≤ h12_.1 63 6 ∧ h12_.1 63 6 ≤ 2147483647 := i12_.1 63 6
        have g21 : -2147483648 ≤ h12_.1 63 9 ∧ h12_.1 63 9 ≤ 2147483647 := i12_.1 63 9
        have g22 : -2147483648 ≤ h12_.1 63 10 ∧ h12_.1 63 10 ≤ 2147483647 := i12_.1 63 10
        exfalso; omega
      | succ n ih12 =>
        intro x12_2 bx12_2 h12_ i12_ f12_ w12_0 w12_1 hm12
        have g23 : -2147483648 ≤ h12_.1 63 5 ∧ h12_.1 63 5 ≤ 2147483647 := i12_.1 63 5
        have g24 : 0 ≤ h12_.1 63 7 ∧ h12_.1 63 7 ≤ 500 := i12_.1 63 7
        have g25 : 0 ≤ h12_.1 63 8 ∧ h12_.1 63 8 ≤ 500 := i12_.1 63 8
        have g26 : 0 ≤ h12_.1 63 3 ∧ h12_.1 63 3 ≤ 500 := i12_.1 63 3
        have g27 : -2147483648 ≤ h12_.1 63 6 ∧ h12_.1 63 6 ≤ 2147483647 := i12_.1 63 6
        have g28 : -2147483648 ≤ h12_.1 63 9 ∧ h12_.1 63 9 ≤ 2147483647 := i12_.1 63 9
        have g29 : -2147483648 ≤ h12_.1 63 10 ∧ h12_.1 63 10 ≤ 2147483647 := i12_.1 63 10
        have g30 : h12_.1 63 3 = h.1 63 3 := f12_.1 63 3 (by decide)
        have tf12 := mm_cX_h i12_ w12_0.1.2.1
        have tr12 := mm_cX_r i12_ w12_0.1.2.1
        refine mm_iload_n C (mm_dec dk_X7_readProduct 8 rfl) rfl ?_
        refine mm_sipush C (mm_dec dk_X7_readProduct 9 rfl) ⟨by decide, by decide⟩ ?_
        have J79 : ∀ (w79_0 : mm_nA h12_), mm_W x 0 0 79 [mU, mU, mU, mU] [] h12_ := by
          intro w79_0
          have g31 : -2147483648 ≤ h12_.1 63 5 ∧ h12_.1 63 5 ≤ 2147483647 := i12_.1 63 5
          have g32 : 0 ≤ h12_.1 63 7 ∧ h12_.1 63 7 ≤ 500 := i12_.1 63 7
          have g33 : 0 ≤ h12_.1 63 8 ∧ h12_.1 63 8 ≤ 500 := i12_.1 63 8
          have g34 : 0 ≤ h12_.1 63 3 ∧ h12_.1 63 3 ≤ 500 := i12_.1 63 3
          have g35 : -2147483648 ≤ h12_.1 63 6 ∧ h12_.1 63 6 ≤ 2147483647 := i12_.1 63 6
          have g36 : -2147483648 ≤ h12_.1 63 9 ∧ h12_.1 63 9 ≤ 2147483647 := i12_.1 63 9
          have g37 : -2147483648 ≤ h12_.1 63 10 ∧ h12_.1 63 10 ≤ 2147483647 := i12_.1 63 10
          refine mm_iconst C (mm_dec dk_X7_readProduct 40 rfl) ⟨by decide, by decide⟩ ?_
          exact mm_zret C T (mm_dec dk_X7_readProduct 41 rfl) (by decide : 0 ≤ 0) (by decide : 0 ≤ 0) (by omega) ⟨_, rfl, ⟨⟨by omega, by omega⟩, i12_, f12_, by first | exact Or.inl ⟨rfl, w12_0, w79_0⟩ | exact Or.inr ⟨rfl, mm_or0 y2_0 (by omega)⟩ | exact Or.inr ⟨rfl, mm_g7_op w12_0 (by omega) zs (mm_or0 y60_0 (by omega))⟩⟩⟩
        refine mm_icmp_ge (tgt := 79) C (mm_dec dk_X7_readProduct 10 rfl) (by decide) (fun c16 => ?_) (fun c16 => ?_)
        · skip
          refine mm_fgt 0 ?_
          refine mm_fgt 1 ?_
          refine mm_fgt 2 ?_
          exact J79 (by (unfold mm_nA; have zz := mm_hdx tf12; omega))
        · skip
          refine mm_aload_n C (mm_dec dk_X7_readProduct 11 rfl) rfl ?_
          refine mm_bipush C (mm_dec dk_X7_readProduct 12 rfl) ⟨by decide, by decide⟩ ?_
          refine mm_cVi (rest := []) C1 ev_X7_96 (mm_dec dk_X7_readProduct 13 rfl) (c_X7_isSign x.2.1 hl (d - 1) (by omega) h12_ i12_ 42 (by omega)) rfl rfl (Nat.le_of_ble_eq_true rfl) ⟨by decide, by decide⟩ rfl (fun r22 h22c hp22 => ?_) (fun _ _ q => q.elim)
          obtain ⟨z22, y22⟩ := hp22
          rw [z22]
          have g39 : -2147483648 ≤ (h12_.2.1 62 (h12_.1 63 7)) ∧ (h12_.2.1 62 (h12_.1 63 7)) ≤ 2147483647 := i12_.2.1 62 (h12_.1 63 7)
          have J37 : ∀ (w37_0 : (mm_cX h12_ = 142 ∨ mm_cX h12_ = 147)), mm_W x 0 0 37 [mR 63, mI p1, mI x12_2, mU] [] h12_ := by
            intro w37_0
            have g40 : -2147483648 ≤ h12_.1 63 5 ∧ h12_.1 63 5 ≤ 2147483647 := i12_.1 63 5
            have g41 : 0 ≤ h12_.1 63 7 ∧ h12_.1 63 7 ≤ 500 := i12_.1 63 7
            have g42 : 0 ≤ h12_.1 63 8 ∧ h12_.1 63 8 ≤ 500 := i12_.1 63 8
            have g43 : 0 ≤ h12_.1 63 3 ∧ h12_.1 63 3 ≤ 500 := i12_.1 63 3
            have g44 : -2147483648 ≤ h12_.1 63 6 ∧ h12_.1 63 6 ≤ 2147483647 := i12_.1 63 6
            have g45 : -2147483648 ≤ h12_.1 63 9 ∧ h12_.1 63 9 ≤ 2147483647 := i12_.1 63 9
            have g46 : -2147483648 ≤ h12_.1 63 10 ∧ h12_.1 63 10 ≤ 2147483647 := i12_.1 63 10
            refine mm_aload_n C (mm_dec dk_X7_readProduct 19 rfl) rfl ?_
            refine mm_bipush C (mm_dec dk_X7_readProduct 20 rfl) ⟨by decide, by decide⟩ ?_
            refine mm_cVi (rest := []) C1 ev_X7_96 (mm_dec dk_X7_readProduct 21 rfl) (c_X7_isSign x.2.1 hl (d - 1) (by omega) h12_ i12_ 42 (by omega)) rfl rfl (Nat.le_of_ble_eq_true rfl) ⟨by decide, by decide⟩ rfl (fun r40 h40c hp40 => ?_) (fun _ _ q => q.elim)
            obtain ⟨z40, y40⟩ := hp40
            rw [z40]
            have J53 : ∀ (s53_0 : Int) (bs53_0 : 100017 ≤ s53_0 ∧ s53_0 ≤ 100018) (vs53_0 : (r40 ≠ 0 ∧ s53_0 = 100017) ∨ (r40 = 0 ∧ s53_0 = 100018)), mm_W x 0 0 53 [mR 63, mI p1, mI x12_2, mU] [mI s53_0] h12_ := by
              intro s53_0 bs53_0 vs53_0
              have g48 : -2147483648 ≤ h12_.1 63 5 ∧ h12_.1 63 5 ≤ 2147483647 := i12_.1 63 5
              have g49 : 0 ≤ h12_.1 63 7 ∧ h12_.1 63 7 ≤ 500 := i12_.1 63 7
              have g50 : 0 ≤ h12_.1 63 8 ∧ h12_.1 63 8 ≤ 500 := i12_.1 63 8
              have g51 : 0 ≤ h12_.1 63 3 ∧ h12_.1 63 3 ≤ 500 := i12_.1 63 3
              have g52 : -2147483648 ≤ h12_.1 63 6 ∧ h12_.1 63 6 ≤ 2147483647 := i12_.1 63 6
              have g53 : -2147483648 ≤ h12_.1 63 9 ∧ h12_.1 63 9 ≤ 2147483647 := i12_.1 63 9
              have g54 : -2147483648 ≤ h12_.1 63 10 ∧ h12_.1 63 10 ≤ 2147483647 := i12_.1 63 10
              refine mm_istore_nL (ls2 := [mR 63, mI p1, mI x12_2, mI s53_0]) C (mm_dec dk_X7_readProduct 26 rfl) (by decide) rfl ?_
              refine mm_aload_n C (mm_dec dk_X7_readProduct 27 rfl) rfl ?_
              refine mm_cVv (rest := []) C1 ev_X7_52 (mm_dec dk_X7_readProduct 28 rfl) (c_X7_step_q x.2.1 hl (d - 1) (by omega) h12_ i12_ ) rfl rfl (Nat.le_of_ble_eq_true rfl) ⟨by decide, by decide⟩ rfl (fun h55c hp55 => ?_) (fun _ _ q => q.elim)
              obtain ⟨i55c, g55c, y55_0, y55_1, y55_2⟩ := hp55
              have f55c : mm_fr [(63, 4), (63, 5), (63, 6), (63, 7), (63, 8), (63, 9), (63, 10)] [64] h h55c := mm_fr_tr f12_ g55c (by decide +kernel)
              have q55c_56 : h55c.1 63 3 = h12_.1 63 3 := g55c.1 63 3 (by decide)
              have q55c_57 : h55c.1 63 9 = h12_.1 63 9 := g55c.1 63 9 (by decide)
              have q55c_58 : h55c.1 63 10 = h12_.1 63 10 := g55c.1 63 10 (by decide)
              have g59 : -2147483648 ≤ (h55c.1 63 5) ∧ (h55c.1 63 5) ≤ 2147483647 := i55c.1 63 5
              have g60 : 0 ≤ (h55c.1 63 7) ∧ (h55c.1 63 7) ≤ 500 := i55c.1 63 7
              have g61 : 0 ≤ (h55c.1 63 8) ∧ (h55c.1 63 8) ≤ 500 := i55c.1 63 8
              have g62 : -2147483648 ≤ (h55c.1 63 6) ∧ (h55c.1 63 6) ≤ 2147483647 := i55c.1 63 6
              have zs := mm_st7_of w12_0.1.2.1 y55_1 y55_2 g55c (by decide)
              have zl := mm_st7_lt zs (by omega)
              refine mm_aload_n C (mm_dec dk_X7_readProduct 29 rfl) rfl ?_
              refine mm_iload_n C (mm_dec dk_X7_readProduct 30 rfl) rfl ?_
              refine mm_cVi (rest := []) C1 ev_X7_121 (mm_dec dk_X7_readProduct 31 rfl) (c_X7_readPart_q4 x.2.1 hl (d - 1) (by omega) h55c i55c p1 ⟨by omega, by omega⟩ (by exact y55_1)) rfl rfl (Nat.le_of_ble_eq_true rfl) ⟨by decide, by decide⟩ rfl (fun r60 h60c hp60 => ?_) (fun _ _ q => q.elim)
              obtain ⟨b60, i60c, g60c, y60_0⟩ := hp60
              have f60c : mm_fr [(63, 4), (63, 5), (63, 6), (63, 7), (63, 8), (63, 9), (63, 10)] [64] h h60c := mm_fr_tr f55c g60c (by decide +kernel)
              have q60c_64 : h60c.1 63 3 = h55c.1 63 3 := g60c.1 63 3 (by decide)
              have g65 : -2147483648 ≤ (h60c.1 63 5) ∧ (h60c.1 63 5) ≤ 2147483647 := i60c.1 63 5
              have g66 : 0 ≤ (h60c.1 63 7) ∧ (h60c.1 63 7) ≤ 500 := i60c.1 63 7
              have g67 : 0 ≤ (h60c.1 63 8) ∧ (h60c.1 63 8) ≤ 500 := i60c.1 63 8
              have g68 : -2147483648 ≤ (h60c.1 63 6) ∧ (h60c.1 63 6) ≤ 2147483647 := i60c.1 63 6
              have g69 : -2147483648 ≤ (h60c.1 63 9) ∧ (h60c.1 63 9) ≤ 2147483647 := i60c.1 63 9
              have g70 : -2147483648 ≤ (h60c.1 63 10) ∧ (h60c.1 63 10) ≤ 2147483647 := i60c.1 63 10
              refine mm_if_ne (tgt := 68) C (mm_dec dk_X7_readProduct 32 rfl) (by decide) (fun c63 => ?_) (fun c63 => ?_)
              · skip
                refine mm_aload_n C (mm_dec dk_X7_readProduct 35 rfl) rfl ?_
                refine mm_iload_n C (mm_dec dk_X7_readProduct 36 rfl) rfl ?_
                refine mm_cVv (rest := []) C1 ev_X7_79 (mm_dec dk_X7_readProduct 37 rfl) (c_X7_emit x.2.1 hl (d - 1) (by omega) h60c i60c s53_0) rfl rfl (Nat.le_of_ble_eq_true rfl) ⟨by decide, by decide⟩ rfl (fun h70c hp70 => ?_) (fun _ _ q => q.elim)
                obtain ⟨i70c, g70c⟩ := hp70
                have f70c : mm_fr [(63, 4), (63, 5), (63, 6), (63, 7), (63, 8), (63, 9), (63, 10)] [64] h h70c := mm_fr_tr f60c g70c (by decide +kernel)
                have q70c_72 : h70c.1 63 3 = h60c.1 63 3 := g70c.1 63 3 (by decide)
                have q70c_73 : h70c.1 63 5 = h60c.1 63 5 := g70c.1 63 5 (by decide)
                have q70c_74 : h70c.1 63 6 = h60c.1 63 6 := g70c.1 63 6 (by decide)
                have q70c_75 : h70c.1 63 7 = h60c.1 63 7 := g70c.1 63 7 (by decide)
                have q70c_76 : h70c.1 63 8 = h60c.1 63 8 := g70c.1 63 8 (by decide)
                have q70c_77 : h70c.1 63 9 = h60c.1 63 9 := g70c.1 63 9 (by decide)
                have q70c_78 : h70c.1 63 10 = h60c.1 63 10 := g70c.1 63 10 (by decide)
                have zt := g70c.1 63 7 (by decide)
                have zu := (mm_or1 y60_0 (by omega)).2.1
                refine mm_iincL (ls2 := [mR 63, mI p1, mI (x12_2 + 1), mI s53_0]) C (mm_dec dk_X7_readProduct 38 rfl) rfl (by decide) ⟨by omega, by omega⟩ rfl ?_
                refine mm_goto (tgt := 12) C (mm_dec dk_X7_readProduct 39 rfl) (by decide) ?_
                refine mm_fgt 3 ?_
                exact ih12 (x12_2 + 1) ⟨by omega, by omega⟩ h70c i70c f70c (by first | exact (mm_or1 y2_0 (by omega)) | exact mm_p7_em (mm_p7_op w12_0 (by omega) zs (mm_or1 y60_0 (by omega))) (mm_em_fr g70c (by decide))) (by omega) (by omega)
              · skip
                refine mm_iconst C (mm_dec dk_X7_readProduct 33 rfl) ⟨by decide, by decide⟩ ?_
                exact mm_zret C T (mm_dec dk_X7_readProduct 34 rfl) (by decide : 0 ≤ 0) (by decide : 0 ≤ 0) (by omega) ⟨_, rfl, ⟨⟨by omega, by omega⟩, i60c, f60c, by first | exact Or.inl ⟨rfl, w12_0, w79_0⟩ | exact Or.inr ⟨rfl, mm_or0 y2_0 (by omega)⟩ | exact Or.inr ⟨rfl, mm_g7_op w12_0 (by omega) zs (mm_or0 y60_0 (by omega))⟩⟩⟩
            refine mm_if_eq (tgt := 51) C (mm_dec dk_X7_readProduct 22 rfl) (by decide) (fun c43 => ?_) (fun c43 => ?_)
            · skip
              refine mm_ldc (z := 100018) C (mm_dec dk_X7_readProduct 25 rfl) kc_X7_125 (by decide) ?_
              exact J53 100018 ⟨by omega, by omega⟩ (Or.inr (⟨by omega, rfl⟩))
            · skip
              refine mm_ldc (z := 100017) C (mm_dec dk_X7_readProduct 23 rfl) kc_X7_124 (by decide) ?_
              refine mm_goto (tgt := 53) C (mm_dec dk_X7_readProduct 24 rfl) (by decide) ?_
              exact J53 100017 ⟨by omega, by omega⟩ (Or.inl ⟨by omega, rfl⟩)
          refine mm_if_ne (tgt := 37) C (mm_dec dk_X7_readProduct 14 rfl) (by decide) (fun c25 => ?_) (fun c25 => ?_)
          · skip
            exact J37 (by have zz := mm_hdx tf12; omega)
          · skip
            refine mm_aload_n C (mm_dec dk_X7_readProduct 15 rfl) rfl ?_
            refine mm_bipush C (mm_dec dk_X7_readProduct 16 rfl) ⟨by decide, by decide⟩ ?_
            refine mm_cVi (rest := []) C1 ev_X7_96 (mm_dec dk_X7_readProduct 17 rfl) (c_X7_isSign x.2.1 hl (d - 1) (by omega) h12_ i12_ 47 (by omega)) rfl rfl (Nat.le_of_ble_eq_true rfl) ⟨by decide, by decide⟩ rfl (fun r31 h31c hp31 => ?_) (fun _ _ q => q.elim)
            obtain ⟨z31, y31⟩ := hp31
            rw [z31]
            refine mm_if_eq (tgt := 79) C (mm_dec dk_X7_readProduct 18 rfl) (by decide) (fun c34 => ?_) (fun c34 => ?_)
            · skip
              refine mm_fgt 0 ?_
              refine mm_fgt 1 ?_
              refine mm_fgt 2 ?_
              exact J79 (by (unfold mm_nA; have zz := mm_hdx tf12; omega))
            · skip
              exact J37 (by have zz := mm_hdx tf12; omega)
    refine mm_istore_nL (ls2 := [mR 63, mI p1, mI 0, mU]) C (mm_dec dk_X7_readProduct 7 rfl) (by decide) rfl ?_
    exact J12 (((500 - 0) : Int) + 1).toNat 0 ⟨by omega, by omega⟩ h2c i2c f2c (by first | exact (mm_or1 y2_0 (by omega)) | exact mm_p7_em (mm_p7_op w12_0 (by omega) zs (mm_or1 y60_0 (by omega))) (mm_em_fr g70c (by decide))) (by omega) (by omega)
  · skip
    refine mm_iconst C (mm_dec dk_X7_readProduct 4 rfl) ⟨by decide, by decide⟩ ?_
    exact mm_zret C T (mm_dec dk_X7_readProduct 5 rfl) (by decide : 0 ≤ 0) (by decide : 0 ≤ 0) (by omega) ⟨_, rfl, ⟨⟨by omega, by omega⟩, i2c, f2c, by first | exact Or.inl ⟨rfl, w12_0, w79_0⟩ | exact Or.inr ⟨rfl, mm_or0 y2_0 (by omega)⟩ | exact Or.inr ⟨rfl, mm_g7_op w12_0 (by omega) zs (mm_or0 y60_0 (by omega))⟩⟩⟩
set_option maxRecDepth 100000 in
set_option maxHeartbeats 4000000 in
theorem c_X7_readSum_q4 (l : Launch) (hl : l.stackTraces = false) (d : Nat) (hd : 15 ≤ d) (h : mH) (i0 : mm_inv h) (p1 : Int) (bp1 : 4 ≤ p1 ∧ p1 ≤ 4) (t0 : mm_aX h) : mm_Met l d yX7_readSum cX7_readSum 4 (some .boolean) [mR 63, mI p1] h (mm_pi fun r h2 => (0 ≤ r ∧ r ≤ 1) ∧ mm_inv h2 ∧ mm_fr [(63, 4), (63, 5), (63, 6), (63, 7), (63, 8), (63, 9), (63, 10)] [64] h h2 ∧ ((r = 1 ∧ mm_p7 4 h h2 ∧ mm_nB h2) ∨ (r = 0 ∧ mm_g7 4 h h2))) mm_nx 0 0 := by
  refine mm_ofW (ls := [mR 63, mI p1, mU, mU]) hl (by decide) rfl (Nat.le_of_ble_eq_true rfl) ?_
  intro x hxl C T hnm htb
  subst hxl
  have C1 := mm_OK_le (d' := d - 1 + 1) (by omega) C
  have C8 := mm_OK_le (d' := d - 8 + 8) (by omega) C
  refine mm_rng (fun hr _ => ?_)
  have ap1 : -2147483648 ≤ p1 ∧ p1 < 2147483648 := mm_ok_at hr (i := 1) rfl
  have f0 : mm_fr [(63, 4), (63, 5), (63, 6), (63, 7), (63, 8), (63, 9), (63, 10)] [64] h h := mm_fr_rf
  have g1 : -2147483648 ≤ h.1 63 5 ∧ h.1 63 5 ≤ 2147483647 := i0.1 63 5
  have g2 : 0 ≤ h.1 63 7 ∧ h.1 63 7 ≤ 500 := i0.1 63 7
  have g3 : 0 ≤ h.1 63 8 ∧ h.1 63 8 ≤ 500 := i0.1 63 8
  have g4 : 0 ≤ h.1 63 3 ∧ h.1 63 3 ≤ 500 := i0.1 63 3
  have g5 : -2147483648 ≤ h.1 63 6 ∧ h.1 63 6 ≤ 2147483647 := i0.1 63 6
  have g6 : -2147483648 ≤ h.1 63 9 ∧ h.1 63 9 ≤ 2147483647 := i0.1 63 9
  have g7 : -2147483648 ≤ h.1 63 10 ∧ h.1 63 10 ≤ 2147483647 := i0.1 63 10
  have tf := mm_cX_h i0 t0
  have tr := mm_cX_r i0 t0
  refine mm_aload_n C (mm_dec dk_X7_readSum 0 rfl) rfl ?_
  refine mm_iload_n C (mm_dec dk_X7_readSum 1 rfl) rfl ?_
  refine mm_cVi (rest := []) C1 ev_X7_116 (mm_dec dk_X7_readSum 2 rfl) (c_X7_readProduct_q4 x.2.1 hl (d - 1) (by omega) h i0 p1 ⟨by omega, by omega⟩ (by exact t0)) rfl rfl (Nat.le_of_ble_eq_true rfl) ⟨by decide, by decide⟩ rfl (fun r2 h2c hp2 => ?_) (fun _ _ q => q.elim)
  obtain ⟨b2, i2c, g2c, y2_0⟩ := hp2
  have f2c : mm_fr [(63, 4), (63, 5), (63, 6), (63, 7), (63, 8), (63, 9), (63, 10)] [64] h h2c := mm_fr_tr f0 g2c (by decide +kernel)
  have q2c_9 : h2c.1 63 3 = h.1 63 3 := g2c.1 63 3 (by decide)
  have g10 : -2147483648 ≤ (h2c.1 63 5) ∧ (h2c.1 63 5) ≤ 2147483647 := i2c.1 63 5
  have g11 : 0 ≤ (h2c.1 63 7) ∧ (h2c.1 63 7) ≤ 500 := i2c.1 63 7
  have g12 : 0 ≤ (h2c.1 63 8) ∧ (h2c.1 63 8) ≤ 500 := i2c.1 63 8
  have g13 : -2147483648 ≤ (h2c.1 63 6) ∧ (h2c.1 63 6) ≤ 2147483647 := i2c.1 63 6
  have g14 : -2147483648 ≤ (h2c.1 63 9) ∧ (h2c.1 63 9) ≤ 2147483647 := i2c.1 63 9
  have g15 : -2147483648 ≤ (h2c.1 63 10) ∧ (h2c.1 63 10) ≤ 2147483647 := i2c.1 63 10
  refine mm_if_ne (tgt := 10) C (mm_dec dk_X7_readSum 3 rfl) (by decide) (fun c5 => ?_) (fun c5 => ?_)
  · skip
    refine mm_iconst C (mm_dec dk_X7_readSum 6 rfl) ⟨by decide, by decide⟩ ?_
    have J12 : ∀ (n : Nat) (x12_2 : Int) (bx12_2 : 0 ≤ x12_2 ∧ x12_2 ≤ 500) (h12_ : mH) (i12_ : mm_inv h12_) (f12_ : mm_fr [(63, 4), (63, 5), (63, 6), (63, 7), (63, 8), (63, 9), (63, 10)] [64] h h12_) (w12_0 : mm_p7 4 h h12_) (w12_1 : x12_2 ≤ h12_.1 63 7) (w12_2 : mm_nA h12_), (500 - x12_2 : Int) < n → mm_W x 0 0 12 [mR 63, mI p1, mI x12_2, mU] [] h12_ := by
      intro n
      induction n with
      | zero =>
        intro x12_2 bx12_2 h12_ i12_ f12_ w12_0 w12_1 w12_2 hm
        have g16 : -2147483648 ≤ h12_.1 63 5 ∧ h12_.1 63 5 ≤ 2147483647 := i12_.1 63 5
        have g17 : 0 ≤ h12_.1 63 7 ∧ h12_.1 63 7 ≤ 500 := i12_.1 63 7
        have g18 : 0 ≤ h12_.1 63 8 ∧ h12_.1 63 8 ≤ 500 := i12_.1 63 8
        have g19 : 0 ≤ h12_.1 63 3 ∧ h12_.1 63 3 ≤ 500 := i12_.1 63 3
        have g20 : -2147483648 ≤ h12_.1 63 6 ∧ h12_.1 63 6 ≤ 2147483647 := i12_.1 63 6
        have g21 : -2147483648 ≤ h12_.1 63 9 ∧ h12_.1 63 9 ≤ 2147483647 := i12_.1 63 9
        have g22 : -2147483648 ≤ h12_.1 63 10 ∧ h12_.1 63 10 ≤ 2147483647 := i12_.1 63 10
        exfalso; omega
      | succ n ih12 =>
        intro x12_2 bx12_2 h12_ i12_ f12_ w12_0 w12_1 w12_2 hm12
        have g23 : -2147483648 ≤ h12_.1 63 5 ∧ h12_.1 63 5 ≤ 2147483647 := i12_.1 63 5
        have g24 : 0 ≤ h12_.1 63 7 ∧ h12_.1 63 7 ≤ 500 := i12_.1 63 7
        have g25 : 0 ≤ h12_.1 63 8 ∧ h12_.1 63 8 ≤ 500 := i12_.1 63 8
        have g26 : 0 ≤ h12_.1 63 3 ∧ h12_.1 63 3 ≤ 500 := i12_.1 63 3
        have g27 : -2147483648 ≤ h12_.1 63 6 ∧ h12_.1 63 6 ≤ 2147483647 := i12_.1 63 6
        have g28 : -2147483648 ≤ h12_.1 63 9 ∧ h12_.1 63 9 ≤ 2147483647 := i12_.1 63 9
        have g29 : -2147483648 ≤ h12_.1 63 10 ∧ h12_.1 63 10 ≤ 2147483647 := i12_.1 63 10
        have g30 : h12_.1 63 3 = h.1 63 3 := f12_.1 63 3 (by decide)
        have tf12 := mm_cX_h i12_ w12_0.1.2.1
        have tr12 := mm_cX_r i12_ w12_0.1.2.1
        refine mm_iload_n C (mm_dec dk_X7_readSum 8 rfl) rfl ?_
        refine mm_sipush C (mm_dec dk_X7_readSum 9 rfl) ⟨by decide, by decide⟩ ?_
        have J79 : ∀ (w79_0 : mm_nB h12_), mm_W x 0 0 79 [mU, mU, mU, mU] [] h12_ := by
          intro w79_0
          have g31 : -2147483648 ≤ h12_.1 63 5 ∧ h12_.1 63 5 ≤ 2147483647 := i12_.1 63 5
          have g32 : 0 ≤ h12_.1 63 7 ∧ h12_.1 63 7 ≤ 500 := i12_.1 63 7
          have g33 : 0 ≤ h12_.1 63 8 ∧ h12_.1 63 8 ≤ 500 := i12_.1 63 8
          have g34 : 0 ≤ h12_.1 63 3 ∧ h12_.1 63 3 ≤ 500 := i12_.1 63 3
          have g35 : -2147483648 ≤ h12_.1 63 6 ∧ h12_.1 63 6 ≤ 2147483647 := i12_.1 63 6
          have g36 : -2147483648 ≤ h12_.1 63 9 ∧ h12_.1 63 9 ≤ 2147483647 := i12_.1 63 9
          have g37 : -2147483648 ≤ h12_.1 63 10 ∧ h12_.1 63 10 ≤ 2147483647 := i12_.1 63 10
          refine mm_iconst C (mm_dec dk_X7_readSum 40 rfl) ⟨by decide, by decide⟩ ?_
          exact mm_zret C T (mm_dec dk_X7_readSum 41 rfl) (by decide : 0 ≤ 0) (by decide : 0 ≤ 0) (by omega) ⟨_, rfl, ⟨⟨by omega, by omega⟩, i12_, f12_, by first | exact Or.inl ⟨rfl, w12_0, w79_0⟩ | exact Or.inr ⟨rfl, mm_or0 y2_0 (by omega)⟩ | exact Or.inr ⟨rfl, mm_g7_op w12_0 (by omega) zs (mm_or0 y60_0 (by omega))⟩⟩⟩
        refine mm_icmp_ge (tgt := 79) C (mm_dec dk_X7_readSum 10 rfl) (by decide) (fun c16 => ?_) (fun c16 => ?_)
        · skip
          refine mm_fgt 0 ?_
          refine mm_fgt 1 ?_
          refine mm_fgt 2 ?_
          exact J79 (by (unfold mm_nB; have zz := mm_hdx tf12; have z := w12_2; unfold mm_nA at z; omega))
        · skip
          refine mm_aload_n C (mm_dec dk_X7_readSum 11 rfl) rfl ?_
          refine mm_bipush C (mm_dec dk_X7_readSum 12 rfl) ⟨by decide, by decide⟩ ?_
          refine mm_cVi (rest := []) C1 ev_X7_96 (mm_dec dk_X7_readSum 13 rfl) (c_X7_isSign x.2.1 hl (d - 1) (by omega) h12_ i12_ 43 (by omega)) rfl rfl (Nat.le_of_ble_eq_true rfl) ⟨by decide, by decide⟩ rfl (fun r22 h22c hp22 => ?_) (fun _ _ q => q.elim)
          obtain ⟨z22, y22⟩ := hp22
          rw [z22]
          have g39 : -2147483648 ≤ (h12_.2.1 62 (h12_.1 63 7)) ∧ (h12_.2.1 62 (h12_.1 63 7)) ≤ 2147483647 := i12_.2.1 62 (h12_.1 63 7)
          have J37 : ∀ (w37_0 : (mm_cX h12_ = 143 ∨ mm_cX h12_ = 145)), mm_W x 0 0 37 [mR 63, mI p1, mI x12_2, mU] [] h12_ := by
            intro w37_0
            have g40 : -2147483648 ≤ h12_.1 63 5 ∧ h12_.1 63 5 ≤ 2147483647 := i12_.1 63 5
            have g41 : 0 ≤ h12_.1 63 7 ∧ h12_.1 63 7 ≤ 500 := i12_.1 63 7
            have g42 : 0 ≤ h12_.1 63 8 ∧ h12_.1 63 8 ≤ 500 := i12_.1 63 8
            have g43 : 0 ≤ h12_.1 63 3 ∧ h12_.1 63 3 ≤ 500 := i12_.1 63 3
            have g44 : -2147483648 ≤ h12_.1 63 6 ∧ h12_.1 63 6 ≤ 2147483647 := i12_.1 63 6
            have g45 : -2147483648 ≤ h12_.1 63 9 ∧ h12_.1 63 9 ≤ 2147483647 := i12_.1 63 9
            have g46 : -2147483648 ≤ h12_.1 63 10 ∧ h12_.1 63 10 ≤ 2147483647 := i12_.1 63 10
            refine mm_aload_n C (mm_dec dk_X7_readSum 19 rfl) rfl ?_
            refine mm_bipush C (mm_dec dk_X7_readSum 20 rfl) ⟨by decide, by decide⟩ ?_
            refine mm_cVi (rest := []) C1 ev_X7_96 (mm_dec dk_X7_readSum 21 rfl) (c_X7_isSign x.2.1 hl (d - 1) (by omega) h12_ i12_ 43 (by omega)) rfl rfl (Nat.le_of_ble_eq_true rfl) ⟨by decide, by decide⟩ rfl (fun r40 h40c hp40 => ?_) (fun _ _ q => q.elim)
            obtain ⟨z40, y40⟩ := hp40
            rw [z40]
            have J53 : ∀ (s53_0 : Int) (bs53_0 : 100015 ≤ s53_0 ∧ s53_0 ≤ 100016) (vs53_0 : (r40 ≠ 0 ∧ s53_0 = 100015) ∨ (r40 = 0 ∧ s53_0 = 100016)), mm_W x 0 0 53 [mR 63, mI p1, mI x12_2, mU] [mI s53_0] h12_ := by
              intro s53_0 bs53_0 vs53_0
              have g48 : -2147483648 ≤ h12_.1 63 5 ∧ h12_.1 63 5 ≤ 2147483647 := i12_.1 63 5
              have g49 : 0 ≤ h12_.1 63 7 ∧ h12_.1 63 7 ≤ 500 := i12_.1 63 7
              have g50 : 0 ≤ h12_.1 63 8 ∧ h12_.1 63 8 ≤ 500 := i12_.1 63 8
              have g51 : 0 ≤ h12_.1 63 3 ∧ h12_.1 63 3 ≤ 500 := i12_.1 63 3
              have g52 : -2147483648 ≤ h12_.1 63 6 ∧ h12_.1 63 6 ≤ 2147483647 := i12_.1 63 6
              have g53 : -2147483648 ≤ h12_.1 63 9 ∧ h12_.1 63 9 ≤ 2147483647 := i12_.1 63 9
              have g54 : -2147483648 ≤ h12_.1 63 10 ∧ h12_.1 63 10 ≤ 2147483647 := i12_.1 63 10
              refine mm_istore_nL (ls2 := [mR 63, mI p1, mI x12_2, mI s53_0]) C (mm_dec dk_X7_readSum 26 rfl) (by decide) rfl ?_
              refine mm_aload_n C (mm_dec dk_X7_readSum 27 rfl) rfl ?_
              refine mm_cVv (rest := []) C1 ev_X7_52 (mm_dec dk_X7_readSum 28 rfl) (c_X7_step_q x.2.1 hl (d - 1) (by omega) h12_ i12_ ) rfl rfl (Nat.le_of_ble_eq_true rfl) ⟨by decide, by decide⟩ rfl (fun h55c hp55 => ?_) (fun _ _ q => q.elim)
              obtain ⟨i55c, g55c, y55_0, y55_1, y55_2⟩ := hp55
              have f55c : mm_fr [(63, 4), (63, 5), (63, 6), (63, 7), (63, 8), (63, 9), (63, 10)] [64] h h55c := mm_fr_tr f12_ g55c (by decide +kernel)
              have q55c_56 : h55c.1 63 3 = h12_.1 63 3 := g55c.1 63 3 (by decide)
              have q55c_57 : h55c.1 63 9 = h12_.1 63 9 := g55c.1 63 9 (by decide)
              have q55c_58 : h55c.1 63 10 = h12_.1 63 10 := g55c.1 63 10 (by decide)
              have g59 : -2147483648 ≤ (h55c.1 63 5) ∧ (h55c.1 63 5) ≤ 2147483647 := i55c.1 63 5
              have g60 : 0 ≤ (h55c.1 63 7) ∧ (h55c.1 63 7) ≤ 500 := i55c.1 63 7
              have g61 : 0 ≤ (h55c.1 63 8) ∧ (h55c.1 63 8) ≤ 500 := i55c.1 63 8
              have g62 : -2147483648 ≤ (h55c.1 63 6) ∧ (h55c.1 63 6) ≤ 2147483647 := i55c.1 63 6
              have zs := mm_st7_of w12_0.1.2.1 y55_1 y55_2 g55c (by decide)
              have zl := mm_st7_lt zs (by omega)
              refine mm_aload_n C (mm_dec dk_X7_readSum 29 rfl) rfl ?_
              refine mm_iload_n C (mm_dec dk_X7_readSum 30 rfl) rfl ?_
              refine mm_cVi (rest := []) C1 ev_X7_116 (mm_dec dk_X7_readSum 31 rfl) (c_X7_readProduct_q4 x.2.1 hl (d - 1) (by omega) h55c i55c p1 ⟨by omega, by omega⟩ (by exact y55_1)) rfl rfl (Nat.le_of_ble_eq_true rfl) ⟨by decide, by decide⟩ rfl (fun r60 h60c hp60 => ?_) (fun _ _ q => q.elim)
              obtain ⟨b60, i60c, g60c, y60_0⟩ := hp60
              have f60c : mm_fr [(63, 4), (63, 5), (63, 6), (63, 7), (63, 8), (63, 9), (63, 10)] [64] h h60c := mm_fr_tr f55c g60c (by decide +kernel)
              have q60c_64 : h60c.1 63 3 = h55c.1 63 3 := g60c.1 63 3 (by decide)
              have g65 : -2147483648 ≤ (h60c.1 63 5) ∧ (h60c.1 63 5) ≤ 2147483647 := i60c.1 63 5
              have g66 : 0 ≤ (h60c.1 63 7) ∧ (h60c.1 63 7) ≤ 500 := i60c.1 63 7
              have g67 : 0 ≤ (h60c.1 63 8) ∧ (h60c.1 63 8) ≤ 500 := i60c.1 63 8
              have g68 : -2147483648 ≤ (h60c.1 63 6) ∧ (h60c.1 63 6) ≤ 2147483647 := i60c.1 63 6
              have g69 : -2147483648 ≤ (h60c.1 63 9) ∧ (h60c.1 63 9) ≤ 2147483647 := i60c.1 63 9
              have g70 : -2147483648 ≤ (h60c.1 63 10) ∧ (h60c.1 63 10) ≤ 2147483647 := i60c.1 63 10
              refine mm_if_ne (tgt := 68) C (mm_dec dk_X7_readSum 32 rfl) (by decide) (fun c63 => ?_) (fun c63 => ?_)
              · skip
                refine mm_aload_n C (mm_dec dk_X7_readSum 35 rfl) rfl ?_
                refine mm_iload_n C (mm_dec dk_X7_readSum 36 rfl) rfl ?_
                refine mm_cVv (rest := []) C1 ev_X7_79 (mm_dec dk_X7_readSum 37 rfl) (c_X7_emit x.2.1 hl (d - 1) (by omega) h60c i60c s53_0) rfl rfl (Nat.le_of_ble_eq_true rfl) ⟨by decide, by decide⟩ rfl (fun h70c hp70 => ?_) (fun _ _ q => q.elim)
                obtain ⟨i70c, g70c⟩ := hp70
                have f70c : mm_fr [(63, 4), (63, 5), (63, 6), (63, 7), (63, 8), (63, 9), (63, 10)] [64] h h70c := mm_fr_tr f60c g70c (by decide +kernel)
                have q70c_72 : h70c.1 63 3 = h60c.1 63 3 := g70c.1 63 3 (by decide)
                have q70c_73 : h70c.1 63 5 = h60c.1 63 5 := g70c.1 63 5 (by decide)
                have q70c_74 : h70c.1 63 6 = h60c.1 63 6 := g70c.1 63 6 (by decide)
                have q70c_75 : h70c.1 63 7 = h60c.1 63 7 := g70c.1 63 7 (by decide)
                have q70c_76 : h70c.1 63 8 = h60c.1 63 8 := g70c.1 63 8 (by decide)
                have q70c_77 : h70c.1 63 9 = h60c.1 63 9 := g70c.1 63 9 (by decide)
                have q70c_78 : h70c.1 63 10 = h60c.1 63 10 := g70c.1 63 10 (by decide)
                have zt := g70c.1 63 7 (by decide)
                have zu := (mm_or1 y60_0 (by omega)).1.2.1
                refine mm_iincL (ls2 := [mR 63, mI p1, mI (x12_2 + 1), mI s53_0]) C (mm_dec dk_X7_readSum 38 rfl) rfl (by decide) ⟨by omega, by omega⟩ rfl ?_
                refine mm_goto (tgt := 12) C (mm_dec dk_X7_readSum 39 rfl) (by decide) ?_
                refine mm_fgt 3 ?_
                exact ih12 (x12_2 + 1) ⟨by omega, by omega⟩ h70c i70c f70c (by first | exact (mm_or1 y2_0 (by omega)).1 | exact mm_p7_em (mm_p7_op w12_0 (by omega) zs (mm_or1 y60_0 (by omega)).1) (mm_em_fr g70c (by decide))) (by omega) (by first | exact (mm_or1 y2_0 (by omega)).2 | exact mm_nA_em (mm_or1 y60_0 (by omega)).2 (mm_em_fr g70c (by decide))) (by omega)
              · skip
                refine mm_iconst C (mm_dec dk_X7_readSum 33 rfl) ⟨by decide, by decide⟩ ?_
                exact mm_zret C T (mm_dec dk_X7_readSum 34 rfl) (by decide : 0 ≤ 0) (by decide : 0 ≤ 0) (by omega) ⟨_, rfl, ⟨⟨by omega, by omega⟩, i60c, f60c, by first | exact Or.inl ⟨rfl, w12_0, w79_0⟩ | exact Or.inr ⟨rfl, mm_or0 y2_0 (by omega)⟩ | exact Or.inr ⟨rfl, mm_g7_op w12_0 (by omega) zs (mm_or0 y60_0 (by omega))⟩⟩⟩
            refine mm_if_eq (tgt := 51) C (mm_dec dk_X7_readSum 22 rfl) (by decide) (fun c43 => ?_) (fun c43 => ?_)
            · skip
              refine mm_ldc (z := 100016) C (mm_dec dk_X7_readSum 25 rfl) kc_X7_120 (by decide) ?_
              exact J53 100016 ⟨by omega, by omega⟩ (Or.inr (⟨by omega, rfl⟩))
            · skip
              refine mm_ldc (z := 100015) C (mm_dec dk_X7_readSum 23 rfl) kc_X7_119 (by decide) ?_
              refine mm_goto (tgt := 53) C (mm_dec dk_X7_readSum 24 rfl) (by decide) ?_
              exact J53 100015 ⟨by omega, by omega⟩ (Or.inl ⟨by omega, rfl⟩)
          refine mm_if_ne (tgt := 37) C (mm_dec dk_X7_readSum 14 rfl) (by decide) (fun c25 => ?_) (fun c25 => ?_)
          · skip
            exact J37 (by have zz := mm_hdx tf12; omega)
          · skip
            refine mm_aload_n C (mm_dec dk_X7_readSum 15 rfl) rfl ?_
            refine mm_bipush C (mm_dec dk_X7_readSum 16 rfl) ⟨by decide, by decide⟩ ?_
            refine mm_cVi (rest := []) C1 ev_X7_96 (mm_dec dk_X7_readSum 17 rfl) (c_X7_isSign x.2.1 hl (d - 1) (by omega) h12_ i12_ 45 (by omega)) rfl rfl (Nat.le_of_ble_eq_true rfl) ⟨by decide, by decide⟩ rfl (fun r31 h31c hp31 => ?_) (fun _ _ q => q.elim)
            obtain ⟨z31, y31⟩ := hp31
            rw [z31]
            refine mm_if_eq (tgt := 79) C (mm_dec dk_X7_readSum 18 rfl) (by decide) (fun c34 => ?_) (fun c34 => ?_)
            · skip
              refine mm_fgt 0 ?_
              refine mm_fgt 1 ?_
              refine mm_fgt 2 ?_
              exact J79 (by (unfold mm_nB; have zz := mm_hdx tf12; have z := w12_2; unfold mm_nA at z; omega))
            · skip
              exact J37 (by have zz := mm_hdx tf12; omega)
    refine mm_istore_nL (ls2 := [mR 63, mI p1, mI 0, mU]) C (mm_dec dk_X7_readSum 7 rfl) (by decide) rfl ?_
    exact J12 (((500 - 0) : Int) + 1).toNat 0 ⟨by omega, by omega⟩ h2c i2c f2c (by first | exact (mm_or1 y2_0 (by omega)).1 | exact mm_p7_em (mm_p7_op w12_0 (by omega) zs (mm_or1 y60_0 (by omega)).1) (mm_em_fr g70c (by decide))) (by omega) (by first | exact (mm_or1 y2_0 (by omega)).2 | exact mm_nA_em (mm_or1 y60_0 (by omega)).2 (mm_em_fr g70c (by decide))) (by omega)
  · skip
    refine mm_iconst C (mm_dec dk_X7_readSum 4 rfl) ⟨by decide, by decide⟩ ?_
    exact mm_zret C T (mm_dec dk_X7_readSum 5 rfl) (by decide : 0 ≤ 0) (by decide : 0 ≤ 0) (by omega) ⟨_, rfl, ⟨⟨by omega, by omega⟩, i2c, f2c, by first | exact Or.inl ⟨rfl, w12_0, w79_0⟩ | exact Or.inr ⟨rfl, mm_or0 y2_0 (by omega)⟩ | exact Or.inr ⟨rfl, mm_g7_op w12_0 (by omega) zs (mm_or0 y60_0 (by omega))⟩⟩⟩
set_option maxRecDepth 100000 in
set_option maxHeartbeats 4000000 in
theorem c_X7_readTest_q4 (l : Launch) (hl : l.stackTraces = false) (d : Nat) (hd : 16 ≤ d) (h : mH) (i0 : mm_inv h) (p1 : Int) (bp1 : 4 ≤ p1 ∧ p1 ≤ 4) (t0 : mm_aX h) : mm_Met l d yX7_readTest cX7_readTest 3 (some .boolean) [mR 63, mI p1] h (mm_pi fun r h2 => (0 ≤ r ∧ r ≤ 1) ∧ mm_inv h2 ∧ mm_fr [(63, 4), (63, 5), (63, 6), (63, 7), (63, 8), (63, 9), (63, 10)] [64] h h2 ∧ ((r = 1 ∧ mm_q7 1 4 h h2 ∧ mm_nB h2) ∨ (r = 0 ∧ mm_f7 1 4 h h2))) mm_nx 0 0 := by
  refine mm_ofW (ls := [mR 63, mI p1, mU]) hl (by decide) rfl (Nat.le_of_ble_eq_true rfl) ?_
  intro x hxl C T hnm htb
  subst hxl
  have C1 := mm_OK_le (d' := d - 1 + 1) (by omega) C
  have C8 := mm_OK_le (d' := d - 8 + 8) (by omega) C
  refine mm_rng (fun hr _ => ?_)
  have ap1 : -2147483648 ≤ p1 ∧ p1 < 2147483648 := mm_ok_at hr (i := 1) rfl
  have f0 : mm_fr [(63, 4), (63, 5), (63, 6), (63, 7), (63, 8), (63, 9), (63, 10)] [64] h h := mm_fr_rf
  have g1 : -2147483648 ≤ h.1 63 5 ∧ h.1 63 5 ≤ 2147483647 := i0.1 63 5
  have g2 : 0 ≤ h.1 63 7 ∧ h.1 63 7 ≤ 500 := i0.1 63 7
  have g3 : 0 ≤ h.1 63 8 ∧ h.1 63 8 ≤ 500 := i0.1 63 8
  have g4 : 0 ≤ h.1 63 3 ∧ h.1 63 3 ≤ 500 := i0.1 63 3
  have g5 : -2147483648 ≤ h.1 63 6 ∧ h.1 63 6 ≤ 2147483647 := i0.1 63 6
  have g6 : -2147483648 ≤ h.1 63 9 ∧ h.1 63 9 ≤ 2147483647 := i0.1 63 9
  have g7 : -2147483648 ≤ h.1 63 10 ∧ h.1 63 10 ≤ 2147483647 := i0.1 63 10
  have tf := mm_cX_h i0 t0
  have tr := mm_cX_r i0 t0
  refine mm_aload_n C (mm_dec dk_X7_readTest 0 rfl) rfl ?_
  refine mm_iload_n C (mm_dec dk_X7_readTest 1 rfl) rfl ?_
  refine mm_cVi (rest := []) C1 ev_X7_111 (mm_dec dk_X7_readTest 2 rfl) (c_X7_readSum_q4 x.2.1 hl (d - 1) (by omega) h i0 p1 ⟨by omega, by omega⟩ (by exact t0)) rfl rfl (Nat.le_of_ble_eq_true rfl) ⟨by decide, by decide⟩ rfl (fun r2 h2c hp2 => ?_) (fun _ _ q => q.elim)
  obtain ⟨b2, i2c, g2c, y2_0⟩ := hp2
  have f2c : mm_fr [(63, 4), (63, 5), (63, 6), (63, 7), (63, 8), (63, 9), (63, 10)] [64] h h2c := mm_fr_tr f0 g2c (by decide +kernel)
  have q2c_9 : h2c.1 63 3 = h.1 63 3 := g2c.1 63 3 (by decide)
  have g10 : -2147483648 ≤ (h2c.1 63 5) ∧ (h2c.1 63 5) ≤ 2147483647 := i2c.1 63 5
  have g11 : 0 ≤ (h2c.1 63 7) ∧ (h2c.1 63 7) ≤ 500 := i2c.1 63 7
  have g12 : 0 ≤ (h2c.1 63 8) ∧ (h2c.1 63 8) ≤ 500 := i2c.1 63 8
  have g13 : -2147483648 ≤ (h2c.1 63 6) ∧ (h2c.1 63 6) ≤ 2147483647 := i2c.1 63 6
  have g14 : -2147483648 ≤ (h2c.1 63 9) ∧ (h2c.1 63 9) ≤ 2147483647 := i2c.1 63 9
  have g15 : -2147483648 ≤ (h2c.1 63 10) ∧ (h2c.1 63 10) ≤ 2147483647 := i2c.1 63 10
  refine mm_if_ne (tgt := 10) C (mm_dec dk_X7_readTest 3 rfl) (by decide) (fun c5 => ?_) (fun c5 => ?_)
  · skip
    have zp := mm_or1 y2_0 (by omega)
    have tg := mm_cX_h i2c zp.1.1.2.1
    have th := mm_cX_r i2c zp.1.1.2.1
    refine mm_aload_n C (mm_dec dk_X7_readTest 6 rfl) rfl ?_
    refine mm_bipush C (mm_dec dk_X7_readTest 7 rfl) ⟨by decide, by decide⟩ ?_
    refine mm_cVi (rest := []) C1 ev_X7_96 (mm_dec dk_X7_readTest 8 rfl) (c_X7_isSign x.2.1 hl (d - 1) (by omega) h2c i2c 60 (by omega)) rfl rfl (Nat.le_of_ble_eq_true rfl) ⟨by decide, by decide⟩ rfl (fun r13 h13c hp13 => ?_) (fun _ _ q => q.elim)
    obtain ⟨z13, y13⟩ := hp13
    rw [z13]
    have g17 : -2147483648 ≤ (h2c.2.1 62 (h2c.1 63 7)) ∧ (h2c.2.1 62 (h2c.1 63 7)) ≤ 2147483647 := i2c.2.1 62 (h2c.1 63 7)
    have J39 : ∀ (s39_0 : Int) (bs39_0 : -1 ≤ s39_0 ∧ s39_0 ≤ 100014) (w39_0 : ((s39_0 ≠ -1 ∧ (mm_cX h2c = 160 ∨ mm_cX h2c = 161)) ∨ (s39_0 = -1 ∧ mm_cX h2c ≠ 160 ∧ mm_cX h2c ≠ 161))) (vs39_0 : (r13 = 0 ∧ s39_0 = -1) ∨ (r13 ≠ 0 ∧ s39_0 = 100013) ∨ (r13 = 0 ∧ s39_0 = 100014)), mm_W x 0 0 39 [mR 63, mI p1, mU] [mI s39_0] h2c := by
      intro s39_0 bs39_0 w39_0 vs39_0
      refine mm_istore_nL (ls2 := [mR 63, mI p1, mI s39_0]) C (mm_dec dk_X7_readTest 19 rfl) (by decide) rfl ?_
      refine mm_iload_n C (mm_dec dk_X7_readTest 20 rfl) rfl ?_
      refine mm_iconst C (mm_dec dk_X7_readTest 21 rfl) ⟨by decide, by decide⟩ ?_
      have J64 : ∀ (h64_ : mH) (i64_ : mm_inv h64_) (f64_ : mm_fr [(63, 4), (63, 5), (63, 6), (63, 7), (63, 8), (63, 9), (63, 10)] [64] h h64_) (w64_0 : mm_q7 1 4 h h64_) (w64_1 : mm_nB h64_), mm_W x 0 0 64 [mU, mU, mU] [] h64_ := by
        intro h64_ i64_ f64_ w64_0 w64_1
        have g18 : -2147483648 ≤ h64_.1 63 5 ∧ h64_.1 63 5 ≤ 2147483647 := i64_.1 63 5
        have g19 : 0 ≤ h64_.1 63 7 ∧ h64_.1 63 7 ≤ 500 := i64_.1 63 7
        have g20 : 0 ≤ h64_.1 63 8 ∧ h64_.1 63 8 ≤ 500 := i64_.1 63 8
        have g21 : 0 ≤ h64_.1 63 3 ∧ h64_.1 63 3 ≤ 500 := i64_.1 63 3
        have g22 : -2147483648 ≤ h64_.1 63 6 ∧ h64_.1 63 6 ≤ 2147483647 := i64_.1 63 6
        have g23 : -2147483648 ≤ h64_.1 63 9 ∧ h64_.1 63 9 ≤ 2147483647 := i64_.1 63 9
        have g24 : -2147483648 ≤ h64_.1 63 10 ∧ h64_.1 63 10 ≤ 2147483647 := i64_.1 63 10
        have g25 : h64_.1 63 3 = h.1 63 3 := f64_.1 63 3 (by decide)
        refine mm_iconst C (mm_dec dk_X7_readTest 34 rfl) ⟨by decide, by decide⟩ ?_
        exact mm_zret C T (mm_dec dk_X7_readTest 35 rfl) (by decide : 0 ≤ 0) (by decide : 0 ≤ 0) (by omega) ⟨_, rfl, ⟨⟨by omega, by omega⟩, i64_, f64_, by first | exact Or.inl ⟨rfl, w64_0, w64_1⟩ | exact Or.inr ⟨rfl, mm_f7_sum (mm_or0 y2_0 (by omega))⟩ | exact Or.inr ⟨rfl, mm_f7_lt zp.1 (by omega) zs (mm_or0 y51_0 (by omega))⟩⟩⟩
      refine mm_icmp_eq (tgt := 64) C (mm_dec dk_X7_readTest 22 rfl) (by decide) (fun c42 => ?_) (fun c42 => ?_)
      · skip
        refine mm_fgt 0 ?_
        refine mm_fgt 1 ?_
        refine mm_fgt 2 ?_
        exact J64 h2c i2c f2c (by first | exact mm_q7_sum zp.1 (by omega) | exact mm_q7_em (mm_q7_lt zp.1 (by omega) zs (mm_or1 y51_0 (by omega)).1) (mm_em_fr g61c (by decide))) (by first | exact zp.2 | exact mm_nB_em (mm_or1 y51_0 (by omega)).2 (mm_em_fr g61c (by decide)))
      · skip
        refine mm_aload_n C (mm_dec dk_X7_readTest 23 rfl) rfl ?_
        refine mm_cVv (rest := []) C1 ev_X7_52 (mm_dec dk_X7_readTest 24 rfl) (c_X7_step_q x.2.1 hl (d - 1) (by omega) h2c i2c ) rfl rfl (Nat.le_of_ble_eq_true rfl) ⟨by decide, by decide⟩ rfl (fun h46c hp46 => ?_) (fun _ _ q => q.elim)
        obtain ⟨i46c, g46c, y46_0, y46_1, y46_2⟩ := hp46
        have f46c : mm_fr [(63, 4), (63, 5), (63, 6), (63, 7), (63, 8), (63, 9), (63, 10)] [64] h h46c := mm_fr_tr f2c g46c (by decide +kernel)
        have q46c_27 : h46c.1 63 3 = h2c.1 63 3 := g46c.1 63 3 (by decide)
        have q46c_28 : h46c.1 63 9 = h2c.1 63 9 := g46c.1 63 9 (by decide)
        have q46c_29 : h46c.1 63 10 = h2c.1 63 10 := g46c.1 63 10 (by decide)
        have g30 : -2147483648 ≤ (h46c.1 63 5) ∧ (h46c.1 63 5) ≤ 2147483647 := i46c.1 63 5
        have g31 : 0 ≤ (h46c.1 63 7) ∧ (h46c.1 63 7) ≤ 500 := i46c.1 63 7
        have g32 : 0 ≤ (h46c.1 63 8) ∧ (h46c.1 63 8) ≤ 500 := i46c.1 63 8
        have g33 : -2147483648 ≤ (h46c.1 63 6) ∧ (h46c.1 63 6) ≤ 2147483647 := i46c.1 63 6
        have zs := mm_st7_of zp.1.1.2.1 y46_1 y46_2 g46c (by decide)
        refine mm_aload_n C (mm_dec dk_X7_readTest 25 rfl) rfl ?_
        refine mm_iload_n C (mm_dec dk_X7_readTest 26 rfl) rfl ?_
        refine mm_cVi (rest := []) C1 ev_X7_111 (mm_dec dk_X7_readTest 27 rfl) (c_X7_readSum_q4 x.2.1 hl (d - 1) (by omega) h46c i46c p1 ⟨by omega, by omega⟩ (by exact y46_1)) rfl rfl (Nat.le_of_ble_eq_true rfl) ⟨by decide, by decide⟩ rfl (fun r51 h51c hp51 => ?_) (fun _ _ q => q.elim)
        obtain ⟨b51, i51c, g51c, y51_0⟩ := hp51
        have f51c : mm_fr [(63, 4), (63, 5), (63, 6), (63, 7), (63, 8), (63, 9), (63, 10)] [64] h h51c := mm_fr_tr f46c g51c (by decide +kernel)
        have q51c_35 : h51c.1 63 3 = h46c.1 63 3 := g51c.1 63 3 (by decide)
        have g36 : -2147483648 ≤ (h51c.1 63 5) ∧ (h51c.1 63 5) ≤ 2147483647 := i51c.1 63 5
        have g37 : 0 ≤ (h51c.1 63 7) ∧ (h51c.1 63 7) ≤ 500 := i51c.1 63 7
        have g38 : 0 ≤ (h51c.1 63 8) ∧ (h51c.1 63 8) ≤ 500 := i51c.1 63 8
        have g39 : -2147483648 ≤ (h51c.1 63 6) ∧ (h51c.1 63 6) ≤ 2147483647 := i51c.1 63 6
        have g40 : -2147483648 ≤ (h51c.1 63 9) ∧ (h51c.1 63 9) ≤ 2147483647 := i51c.1 63 9
        have g41 : -2147483648 ≤ (h51c.1 63 10) ∧ (h51c.1 63 10) ≤ 2147483647 := i51c.1 63 10
        refine mm_if_ne (tgt := 59) C (mm_dec dk_X7_readTest 28 rfl) (by decide) (fun c54 => ?_) (fun c54 => ?_)
        · skip
          refine mm_aload_n C (mm_dec dk_X7_readTest 31 rfl) rfl ?_
          refine mm_iload_n C (mm_dec dk_X7_readTest 32 rfl) rfl ?_
          refine mm_cVv (rest := []) C1 ev_X7_79 (mm_dec dk_X7_readTest 33 rfl) (c_X7_emit x.2.1 hl (d - 1) (by omega) h51c i51c s39_0) rfl rfl (Nat.le_of_ble_eq_true rfl) ⟨by decide, by decide⟩ rfl (fun h61c hp61 => ?_) (fun _ _ q => q.elim)
          obtain ⟨i61c, g61c⟩ := hp61
          have f61c : mm_fr [(63, 4), (63, 5), (63, 6), (63, 7), (63, 8), (63, 9), (63, 10)] [64] h h61c := mm_fr_tr f51c g61c (by decide +kernel)
          have q61c_43 : h61c.1 63 3 = h51c.1 63 3 := g61c.1 63 3 (by decide)
          have q61c_44 : h61c.1 63 5 = h51c.1 63 5 := g61c.1 63 5 (by decide)
          have q61c_45 : h61c.1 63 6 = h51c.1 63 6 := g61c.1 63 6 (by decide)
          have q61c_46 : h61c.1 63 7 = h51c.1 63 7 := g61c.1 63 7 (by decide)
          have q61c_47 : h61c.1 63 8 = h51c.1 63 8 := g61c.1 63 8 (by decide)
          have q61c_48 : h61c.1 63 9 = h51c.1 63 9 := g61c.1 63 9 (by decide)
          have q61c_49 : h61c.1 63 10 = h51c.1 63 10 := g61c.1 63 10 (by decide)
          refine mm_fgt 0 ?_
          refine mm_fgt 1 ?_
          refine mm_fgt 2 ?_
          exact J64 h61c i61c f61c (by first | exact mm_q7_sum zp.1 (by omega) | exact mm_q7_em (mm_q7_lt zp.1 (by omega) zs (mm_or1 y51_0 (by omega)).1) (mm_em_fr g61c (by decide))) (by first | exact zp.2 | exact mm_nB_em (mm_or1 y51_0 (by omega)).2 (mm_em_fr g61c (by decide)))
        · skip
          refine mm_iconst C (mm_dec dk_X7_readTest 29 rfl) ⟨by decide, by decide⟩ ?_
          exact mm_zret C T (mm_dec dk_X7_readTest 30 rfl) (by decide : 0 ≤ 0) (by decide : 0 ≤ 0) (by omega) ⟨_, rfl, ⟨⟨by omega, by omega⟩, i51c, f51c, by first | exact Or.inl ⟨rfl, w64_0, w64_1⟩ | exact Or.inr ⟨rfl, mm_f7_sum (mm_or0 y2_0 (by omega))⟩ | exact Or.inr ⟨rfl, mm_f7_lt zp.1 (by omega) zs (mm_or0 y51_0 (by omega))⟩⟩⟩
    refine mm_if_eq (tgt := 24) C (mm_dec dk_X7_readTest 9 rfl) (by decide) (fun c16 => ?_) (fun c16 => ?_)
    · skip
      refine mm_aload_n C (mm_dec dk_X7_readTest 12 rfl) rfl ?_
      refine mm_bipush C (mm_dec dk_X7_readTest 13 rfl) ⟨by decide, by decide⟩ ?_
      refine mm_cVi (rest := []) C1 ev_X7_96 (mm_dec dk_X7_readTest 14 rfl) (c_X7_isSign x.2.1 hl (d - 1) (by omega) h2c i2c 61 (by omega)) rfl rfl (Nat.le_of_ble_eq_true rfl) ⟨by decide, by decide⟩ rfl (fun r27 h27c hp27 => ?_) (fun _ _ q => q.elim)
      obtain ⟨z27, y27⟩ := hp27
      rw [z27]
      refine mm_if_eq (tgt := 38) C (mm_dec dk_X7_readTest 15 rfl) (by decide) (fun c30 => ?_) (fun c30 => ?_)
      · skip
        refine mm_iconst C (mm_dec dk_X7_readTest 18 rfl) ⟨by decide, by decide⟩ ?_
        exact J39 (-1) ⟨by omega, by omega⟩ (by have zz := mm_hdx tg; omega) (Or.inl ⟨by omega, rfl⟩)
      · skip
        refine mm_ldc (z := 100014) C (mm_dec dk_X7_readTest 16 rfl) kc_X7_115 (by decide) ?_
        refine mm_goto (tgt := 39) C (mm_dec dk_X7_readTest 17 rfl) (by decide) ?_
        exact J39 100014 ⟨by omega, by omega⟩ (by have zz := mm_hdx tg; omega) (Or.inr (Or.inr (⟨by omega, rfl⟩)))
    · skip
      refine mm_ldc (z := 100013) C (mm_dec dk_X7_readTest 10 rfl) kc_X7_114 (by decide) ?_
      refine mm_goto (tgt := 39) C (mm_dec dk_X7_readTest 11 rfl) (by decide) ?_
      exact J39 100013 ⟨by omega, by omega⟩ (by have zz := mm_hdx tg; omega) (Or.inr (Or.inl ⟨by omega, rfl⟩))
  · skip
    refine mm_iconst C (mm_dec dk_X7_readTest 4 rfl) ⟨by decide, by decide⟩ ?_
    exact mm_zret C T (mm_dec dk_X7_readTest 5 rfl) (by decide : 0 ≤ 0) (by decide : 0 ≤ 0) (by omega) ⟨_, rfl, ⟨⟨by omega, by omega⟩, i2c, f2c, by first | exact Or.inl ⟨rfl, w64_0, w64_1⟩ | exact Or.inr ⟨rfl, mm_f7_sum (mm_or0 y2_0 (by omega))⟩ | exact Or.inr ⟨rfl, mm_f7_lt zp.1 (by omega) zs (mm_or0 y51_0 (by omega))⟩⟩⟩
set_option maxRecDepth 100000 in
set_option maxHeartbeats 4000000 in
theorem c_X7_readNot_q4 (l : Launch) (hl : l.stackTraces = false) (d : Nat) (hd : 17 ≤ d) (h : mH) (i0 : mm_inv h) (p1 : Int) (bp1 : 4 ≤ p1 ∧ p1 ≤ 4) (t0 : mm_aX h) : mm_Met l d yX7_readNot cX7_readNot 4 (some .boolean) [mR 63, mI p1] h (mm_pi fun r h2 => (0 ≤ r ∧ r ≤ 1) ∧ mm_inv h2 ∧ mm_fr [(63, 4), (63, 5), (63, 6), (63, 7), (63, 8), (63, 9), (63, 10)] [64] h h2 ∧ ((r = 1 ∧ mm_q7 0 4 h h2 ∧ mm_nB h2) ∨ (r = 0 ∧ mm_f7 0 4 h h2))) mm_nx 0 0 := by
  refine mm_ofW (ls := [mR 63, mI p1, mU, mU]) hl (by decide) rfl (Nat.le_of_ble_eq_true rfl) ?_
  intro x hxl C T hnm htb
  subst hxl
  have C1 := mm_OK_le (d' := d - 1 + 1) (by omega) C
  have C8 := mm_OK_le (d' := d - 8 + 8) (by omega) C
  refine mm_rng (fun hr _ => ?_)
  have ap1 : -2147483648 ≤ p1 ∧ p1 < 2147483648 := mm_ok_at hr (i := 1) rfl
  have f0 : mm_fr [(63, 4), (63, 5), (63, 6), (63, 7), (63, 8), (63, 9), (63, 10)] [64] h h := mm_fr_rf
  have g1 : -2147483648 ≤ h.1 63 5 ∧ h.1 63 5 ≤ 2147483647 := i0.1 63 5
  have g2 : 0 ≤ h.1 63 7 ∧ h.1 63 7 ≤ 500 := i0.1 63 7
  have g3 : 0 ≤ h.1 63 8 ∧ h.1 63 8 ≤ 500 := i0.1 63 8
  have g4 : 0 ≤ h.1 63 3 ∧ h.1 63 3 ≤ 500 := i0.1 63 3
  have g5 : -2147483648 ≤ h.1 63 6 ∧ h.1 63 6 ≤ 2147483647 := i0.1 63 6
  have g6 : -2147483648 ≤ h.1 63 9 ∧ h.1 63 9 ≤ 2147483647 := i0.1 63 9
  have g7 : -2147483648 ≤ h.1 63 10 ∧ h.1 63 10 ≤ 2147483647 := i0.1 63 10
  refine mm_iconst C (mm_dec dk_X7_readNot 0 rfl) ⟨by decide, by decide⟩ ?_
  have J2 : ∀ (n : Nat) (x2_2 : Int) (bx2_2 : 0 ≤ x2_2 ∧ x2_2 ≤ 6) (h2_ : mH) (i2_ : mm_inv h2_) (f2_ : mm_fr [(63, 4), (63, 5), (63, 6), (63, 7), (63, 8), (63, 9), (63, 10)] [64] h h2_) (w2_0 : mm_n7 4 x2_2 h h2_), (6 - x2_2 : Int) < n → mm_W x 0 0 2 [mR 63, mI p1, mI x2_2, mU] [] h2_ := by
    intro n
    induction n with
    | zero =>
      intro x2_2 bx2_2 h2_ i2_ f2_ w2_0 hm
      have g8 : -2147483648 ≤ h2_.1 63 5 ∧ h2_.1 63 5 ≤ 2147483647 := i2_.1 63 5
      have g9 : 0 ≤ h2_.1 63 7 ∧ h2_.1 63 7 ≤ 500 := i2_.1 63 7
      have g10 : 0 ≤ h2_.1 63 8 ∧ h2_.1 63 8 ≤ 500 := i2_.1 63 8
      have g11 : 0 ≤ h2_.1 63 3 ∧ h2_.1 63 3 ≤ 500 := i2_.1 63 3
      have g12 : -2147483648 ≤ h2_.1 63 6 ∧ h2_.1 63 6 ≤ 2147483647 := i2_.1 63 6
      have g13 : -2147483648 ≤ h2_.1 63 9 ∧ h2_.1 63 9 ≤ 2147483647 := i2_.1 63 9
      have g14 : -2147483648 ≤ h2_.1 63 10 ∧ h2_.1 63 10 ≤ 2147483647 := i2_.1 63 10
      exfalso; omega
    | succ n ih2 =>
      intro x2_2 bx2_2 h2_ i2_ f2_ w2_0 hm2
      have g15 : -2147483648 ≤ h2_.1 63 5 ∧ h2_.1 63 5 ≤ 2147483647 := i2_.1 63 5
      have g16 : 0 ≤ h2_.1 63 7 ∧ h2_.1 63 7 ≤ 500 := i2_.1 63 7
      have g17 : 0 ≤ h2_.1 63 8 ∧ h2_.1 63 8 ≤ 500 := i2_.1 63 8
      have g18 : 0 ≤ h2_.1 63 3 ∧ h2_.1 63 3 ≤ 500 := i2_.1 63 3
      have g19 : -2147483648 ≤ h2_.1 63 6 ∧ h2_.1 63 6 ≤ 2147483647 := i2_.1 63 6
      have g20 : -2147483648 ≤ h2_.1 63 9 ∧ h2_.1 63 9 ≤ 2147483647 := i2_.1 63 9
      have g21 : -2147483648 ≤ h2_.1 63 10 ∧ h2_.1 63 10 ≤ 2147483647 := i2_.1 63 10
      have g22 : h2_.1 63 3 = h.1 63 3 := f2_.1 63 3 (by decide)
      have tf2 := mm_cX_h i2_ w2_0.1.2.1
      have tr2 := mm_cX_r i2_ w2_0.1.2.1
      refine mm_iload_n C (mm_dec dk_X7_readNot 2 rfl) rfl ?_
      refine mm_bipush C (mm_dec dk_X7_readNot 3 rfl) ⟨by decide, by decide⟩ ?_
      have J27 : ∀ (w27_0 : (6 ≤ x2_2 ∨ mm_cX h2_ ≠ 6)), mm_W x 0 0 27 [mR 63, mI p1, mI x2_2, mU] [] h2_ := by
        intro w27_0
        have g23 : -2147483648 ≤ h2_.1 63 5 ∧ h2_.1 63 5 ≤ 2147483647 := i2_.1 63 5
        have g24 : 0 ≤ h2_.1 63 7 ∧ h2_.1 63 7 ≤ 500 := i2_.1 63 7
        have g25 : 0 ≤ h2_.1 63 8 ∧ h2_.1 63 8 ≤ 500 := i2_.1 63 8
        have g26 : 0 ≤ h2_.1 63 3 ∧ h2_.1 63 3 ≤ 500 := i2_.1 63 3
        have g27 : -2147483648 ≤ h2_.1 63 6 ∧ h2_.1 63 6 ≤ 2147483647 := i2_.1 63 6
        have g28 : -2147483648 ≤ h2_.1 63 9 ∧ h2_.1 63 9 ≤ 2147483647 := i2_.1 63 9
        have g29 : -2147483648 ≤ h2_.1 63 10 ∧ h2_.1 63 10 ≤ 2147483647 := i2_.1 63 10
        refine mm_iload_n C (mm_dec dk_X7_readNot 13 rfl) rfl ?_
        refine mm_bipush C (mm_dec dk_X7_readNot 14 rfl) ⟨by decide, by decide⟩ ?_
        have J48 : ∀ (w48_0 : mm_cX h2_ ≠ 6), mm_W x 0 0 48 [mR 63, mI p1, mI x2_2, mU] [] h2_ := by
          intro w48_0
          have g30 : -2147483648 ≤ h2_.1 63 5 ∧ h2_.1 63 5 ≤ 2147483647 := i2_.1 63 5
          have g31 : 0 ≤ h2_.1 63 7 ∧ h2_.1 63 7 ≤ 500 := i2_.1 63 7
          have g32 : 0 ≤ h2_.1 63 8 ∧ h2_.1 63 8 ≤ 500 := i2_.1 63 8
          have g33 : 0 ≤ h2_.1 63 3 ∧ h2_.1 63 3 ≤ 500 := i2_.1 63 3
          have g34 : -2147483648 ≤ h2_.1 63 6 ∧ h2_.1 63 6 ≤ 2147483647 := i2_.1 63 6
          have g35 : -2147483648 ≤ h2_.1 63 9 ∧ h2_.1 63 9 ≤ 2147483647 := i2_.1 63 9
          have g36 : -2147483648 ≤ h2_.1 63 10 ∧ h2_.1 63 10 ≤ 2147483647 := i2_.1 63 10
          refine mm_aload_n C (mm_dec dk_X7_readNot 24 rfl) rfl ?_
          refine mm_iload_n C (mm_dec dk_X7_readNot 25 rfl) rfl ?_
          refine mm_cVi (rest := []) C1 ev_X7_107 (mm_dec dk_X7_readNot 26 rfl) (c_X7_readTest_q4 x.2.1 hl (d - 1) (by omega) h2_ i2_ p1 ⟨by omega, by omega⟩ (by exact w2_0.1.2.1)) rfl rfl (Nat.le_of_ble_eq_true rfl) ⟨by decide, by decide⟩ rfl (fun r50 h50c hp50 => ?_) (fun _ _ q => q.elim)
          obtain ⟨b50, i50c, g50c, y50_0⟩ := hp50
          have f50c : mm_fr [(63, 4), (63, 5), (63, 6), (63, 7), (63, 8), (63, 9), (63, 10)] [64] h h50c := mm_fr_tr f2_ g50c (by decide +kernel)
          have q50c_38 : h50c.1 63 3 = h2_.1 63 3 := g50c.1 63 3 (by decide)
          have g39 : -2147483648 ≤ (h50c.1 63 5) ∧ (h50c.1 63 5) ≤ 2147483647 := i50c.1 63 5
          have g40 : 0 ≤ (h50c.1 63 7) ∧ (h50c.1 63 7) ≤ 500 := i50c.1 63 7
          have g41 : 0 ≤ (h50c.1 63 8) ∧ (h50c.1 63 8) ≤ 500 := i50c.1 63 8
          have g42 : -2147483648 ≤ (h50c.1 63 6) ∧ (h50c.1 63 6) ≤ 2147483647 := i50c.1 63 6
          have g43 : -2147483648 ≤ (h50c.1 63 9) ∧ (h50c.1 63 9) ≤ 2147483647 := i50c.1 63 9
          have g44 : -2147483648 ≤ (h50c.1 63 10) ∧ (h50c.1 63 10) ≤ 2147483647 := i50c.1 63 10
          refine mm_if_ne (tgt := 58) C (mm_dec dk_X7_readNot 27 rfl) (by decide) (fun c53 => ?_) (fun c53 => ?_)
          · skip
            refine mm_iconst C (mm_dec dk_X7_readNot 30 rfl) ⟨by decide, by decide⟩ ?_
            have J60 : ∀ (n : Nat) (x60_3 : Int) (bx60_3 : 0 ≤ x60_3 ∧ x60_3 ≤ 7) (h60_ : mH) (i60_ : mm_inv h60_) (f60_ : mm_fr [(63, 4), (63, 5), (63, 6), (63, 7), (63, 8), (63, 9), (63, 10)] [64] h h60_) (w60_0 : mm_q7 0 4 h h60_) (w60_1 : mm_nB h60_), (7 - x60_3 : Int) < n → mm_W x 0 0 60 [mR 63, mU, mI x2_2, mI x60_3] [] h60_ := by
              intro n
              induction n with
              | zero =>
                intro x60_3 bx60_3 h60_ i60_ f60_ w60_0 w60_1 hm
                have g45 : -2147483648 ≤ h60_.1 63 5 ∧ h60_.1 63 5 ≤ 2147483647 := i60_.1 63 5
                have g46 : 0 ≤ h60_.1 63 7 ∧ h60_.1 63 7 ≤ 500 := i60_.1 63 7
                have g47 : 0 ≤ h60_.1 63 8 ∧ h60_.1 63 8 ≤ 500 := i60_.1 63 8
                have g48 : 0 ≤ h60_.1 63 3 ∧ h60_.1 63 3 ≤ 500 := i60_.1 63 3
                have g49 : -2147483648 ≤ h60_.1 63 6 ∧ h60_.1 63 6 ≤ 2147483647 := i60_.1 63 6
                have g50 : -2147483648 ≤ h60_.1 63 9 ∧ h60_.1 63 9 ≤ 2147483647 := i60_.1 63 9
                have g51 : -2147483648 ≤ h60_.1 63 10 ∧ h60_.1 63 10 ≤ 2147483647 := i60_.1 63 10
                exfalso; omega
              | succ n ih60 =>
                intro x60_3 bx60_3 h60_ i60_ f60_ w60_0 w60_1 hm60
                have g52 : -2147483648 ≤ h60_.1 63 5 ∧ h60_.1 63 5 ≤ 2147483647 := i60_.1 63 5
                have g53 : 0 ≤ h60_.1 63 7 ∧ h60_.1 63 7 ≤ 500 := i60_.1 63 7
                have g54 : 0 ≤ h60_.1 63 8 ∧ h60_.1 63 8 ≤ 500 := i60_.1 63 8
                have g55 : 0 ≤ h60_.1 63 3 ∧ h60_.1 63 3 ≤ 500 := i60_.1 63 3
                have g56 : -2147483648 ≤ h60_.1 63 6 ∧ h60_.1 63 6 ≤ 2147483647 := i60_.1 63 6
                have g57 : -2147483648 ≤ h60_.1 63 9 ∧ h60_.1 63 9 ≤ 2147483647 := i60_.1 63 9
                have g58 : -2147483648 ≤ h60_.1 63 10 ∧ h60_.1 63 10 ≤ 2147483647 := i60_.1 63 10
                have g59 : h60_.1 63 3 = h.1 63 3 := f60_.1 63 3 (by decide)
                refine mm_iload_n C (mm_dec dk_X7_readNot 32 rfl) rfl ?_
                refine mm_iload_n C (mm_dec dk_X7_readNot 33 rfl) rfl ?_
                refine mm_icmp_ge (tgt := 77) C (mm_dec dk_X7_readNot 34 rfl) (by decide) (fun c62 => ?_) (fun c62 => ?_)
                · skip
                  refine mm_iconst C (mm_dec dk_X7_readNot 40 rfl) ⟨by decide, by decide⟩ ?_
                  exact mm_zret C T (mm_dec dk_X7_readNot 41 rfl) (by decide : 0 ≤ 0) (by decide : 0 ≤ 0) (by omega) ⟨_, rfl, ⟨⟨by omega, by omega⟩, i60_, f60_, by first | exact Or.inl ⟨rfl, w60_0, w60_1⟩ | exact Or.inr ⟨rfl, mm_f7_not w2_0 w48_0 (mm_or0 y50_0 (by omega))⟩ | exact Or.inr ⟨by omega, mm_f7_nots (by rw [show (6 : Int) = x2_2 by omega]; exact w2_0) (by have zz := mm_hdx tf2; omega) y44_0 y44_1⟩⟩⟩
                · skip
                  refine mm_aload_n C (mm_dec dk_X7_readNot 35 rfl) rfl ?_
                  refine mm_ldc (z := 100010) C (mm_dec dk_X7_readNot 36 rfl) kc_X7_110 (by decide) ?_
                  refine mm_cVv (rest := []) C1 ev_X7_79 (mm_dec dk_X7_readNot 37 rfl) (c_X7_emit x.2.1 hl (d - 1) (by omega) h60_ i60_ 100010) rfl rfl (Nat.le_of_ble_eq_true rfl) ⟨by decide, by decide⟩ rfl (fun h68c hp68 => ?_) (fun _ _ q => q.elim)
                  obtain ⟨i68c, g68c⟩ := hp68
                  have f68c : mm_fr [(63, 4), (63, 5), (63, 6), (63, 7), (63, 8), (63, 9), (63, 10)] [64] h h68c := mm_fr_tr f60_ g68c (by decide +kernel)
                  have q68c_61 : h68c.1 63 3 = h60_.1 63 3 := g68c.1 63 3 (by decide)
                  have q68c_62 : h68c.1 63 5 = h60_.1 63 5 := g68c.1 63 5 (by decide)
                  have q68c_63 : h68c.1 63 6 = h60_.1 63 6 := g68c.1 63 6 (by decide)
                  have q68c_64 : h68c.1 63 7 = h60_.1 63 7 := g68c.1 63 7 (by decide)
                  have q68c_65 : h68c.1 63 8 = h60_.1 63 8 := g68c.1 63 8 (by decide)
                  have q68c_66 : h68c.1 63 9 = h60_.1 63 9 := g68c.1 63 9 (by decide)
                  have q68c_67 : h68c.1 63 10 = h60_.1 63 10 := g68c.1 63 10 (by decide)
                  refine mm_iincL (ls2 := [mR 63, mU, mI x2_2, mI (x60_3 + 1)]) C (mm_dec dk_X7_readNot 38 rfl) rfl (by decide) ⟨by omega, by omega⟩ rfl ?_
                  refine mm_goto (tgt := 60) C (mm_dec dk_X7_readNot 39 rfl) (by decide) ?_
                  exact ih60 (x60_3 + 1) ⟨by omega, by omega⟩ h68c i68c f68c (by first | exact mm_q7_not w2_0 w48_0 (mm_or1 y50_0 (by omega)).1 | exact mm_q7_em w60_0 (mm_em_fr g68c (by decide))) (by first | exact (mm_or1 y50_0 (by omega)).2 | exact mm_nB_em w60_1 (mm_em_fr g68c (by decide))) (by omega)
            refine mm_istore_nL (ls2 := [mR 63, mI p1, mI x2_2, mI 0]) C (mm_dec dk_X7_readNot 31 rfl) (by decide) rfl ?_
            refine mm_fgt 1 ?_
            exact J60 (((7 - 0) : Int) + 1).toNat 0 ⟨by omega, by omega⟩ h50c i50c f50c (by first | exact mm_q7_not w2_0 w48_0 (mm_or1 y50_0 (by omega)).1 | exact mm_q7_em w60_0 (mm_em_fr g68c (by decide))) (by first | exact (mm_or1 y50_0 (by omega)).2 | exact mm_nB_em w60_1 (mm_em_fr g68c (by decide))) (by omega)
          · skip
            refine mm_iconst C (mm_dec dk_X7_readNot 28 rfl) ⟨by decide, by decide⟩ ?_
            exact mm_zret C T (mm_dec dk_X7_readNot 29 rfl) (by decide : 0 ≤ 0) (by decide : 0 ≤ 0) (by omega) ⟨_, rfl, ⟨⟨by omega, by omega⟩, i50c, f50c, by first | exact Or.inl ⟨rfl, w60_0, w60_1⟩ | exact Or.inr ⟨rfl, mm_f7_not w2_0 w48_0 (mm_or0 y50_0 (by omega))⟩ | exact Or.inr ⟨by omega, mm_f7_nots (by rw [show (6 : Int) = x2_2 by omega]; exact w2_0) (by have zz := mm_hdx tf2; omega) y44_0 y44_1⟩⟩⟩
        refine mm_icmp_ne (tgt := 48) C (mm_dec dk_X7_readNot 15 rfl) (by decide) (fun c30 => ?_) (fun c30 => ?_)
        · skip
          exact J48 (by have zz := mm_hdx tf2; omega)
        · skip
          refine mm_aload_n C (mm_dec dk_X7_readNot 16 rfl) rfl ?_
          refine mm_geti C fl_X7_28 (mm_dec dk_X7_readNot 17 rfl) rfl rfl (Or.inl rfl) ?_
          refine mm_bipush C (mm_dec dk_X7_readNot 18 rfl) ⟨by decide, by decide⟩ ?_
          refine mm_icmp_ne (tgt := 48) C (mm_dec dk_X7_readNot 19 rfl) (by decide) (fun c39 => ?_) (fun c39 => ?_)
          · skip
            exact J48 (by have zz := mm_hdx tf2; omega)
          · skip
            refine mm_aload_n C (mm_dec dk_X7_readNot 20 rfl) rfl ?_
            refine mm_iconst C (mm_dec dk_X7_readNot 21 rfl) ⟨by decide, by decide⟩ ?_
            refine mm_cVi (rest := []) C1 ev_X7_65 (mm_dec dk_X7_readNot 22 rfl) (c_X7_refuse_q x.2.1 hl (d - 1) (by omega) h2_ i2_ 2) rfl rfl (Nat.le_of_ble_eq_true rfl) ⟨by decide, by decide⟩ rfl (fun r44 h44c hp44 => ?_) (fun _ _ q => q.elim)
            obtain ⟨b44, i44c, g44c, y44_0, y44_1⟩ := hp44
            have f44c : mm_fr [(63, 4), (63, 5), (63, 6), (63, 7), (63, 8), (63, 9), (63, 10)] [64] h h44c := mm_fr_tr f2_ g44c (by decide +kernel)
            have q44c_69 : h44c.1 63 3 = h2_.1 63 3 := g44c.1 63 3 (by decide)
            have q44c_70 : h44c.1 63 5 = h2_.1 63 5 := g44c.1 63 5 (by decide)
            have q44c_71 : h44c.1 63 6 = h2_.1 63 6 := g44c.1 63 6 (by decide)
            have q44c_72 : h44c.1 63 7 = h2_.1 63 7 := g44c.1 63 7 (by decide)
            have q44c_73 : h44c.1 63 8 = h2_.1 63 8 := g44c.1 63 8 (by decide)
            have g74 : -2147483648 ≤ (h44c.1 63 9) ∧ (h44c.1 63 9) ≤ 2147483647 := i44c.1 63 9
            have g75 : -2147483648 ≤ (h44c.1 63 10) ∧ (h44c.1 63 10) ≤ 2147483647 := i44c.1 63 10
            exact mm_zret C T (mm_dec dk_X7_readNot 23 rfl) (by decide : 0 ≤ 0) (by decide : 0 ≤ 0) (by omega) ⟨_, rfl, ⟨⟨by omega, by omega⟩, i44c, f44c, by first | exact Or.inl ⟨rfl, w60_0, w60_1⟩ | exact Or.inr ⟨rfl, mm_f7_not w2_0 w48_0 (mm_or0 y50_0 (by omega))⟩ | exact Or.inr ⟨by omega, mm_f7_nots (by rw [show (6 : Int) = x2_2 by omega]; exact w2_0) (by have zz := mm_hdx tf2; omega) y44_0 y44_1⟩⟩⟩
      refine mm_icmp_ge (tgt := 27) C (mm_dec dk_X7_readNot 4 rfl) (by decide) (fun c5 => ?_) (fun c5 => ?_)
      · skip
        exact J27 (by have zz := mm_hdx tf2; omega)
      · skip
        refine mm_aload_n C (mm_dec dk_X7_readNot 5 rfl) rfl ?_
        refine mm_geti C fl_X7_28 (mm_dec dk_X7_readNot 6 rfl) rfl rfl (Or.inl rfl) ?_
        refine mm_bipush C (mm_dec dk_X7_readNot 7 rfl) ⟨by decide, by decide⟩ ?_
        refine mm_icmp_ne (tgt := 27) C (mm_dec dk_X7_readNot 8 rfl) (by decide) (fun c14 => ?_) (fun c14 => ?_)
        · skip
          exact J27 (by have zz := mm_hdx tf2; omega)
        · skip
          refine mm_iincL (ls2 := [mR 63, mI p1, mI (x2_2 + 1), mU]) C (mm_dec dk_X7_readNot 9 rfl) rfl (by decide) ⟨by omega, by omega⟩ rfl ?_
          refine mm_aload_n C (mm_dec dk_X7_readNot 10 rfl) rfl ?_
          refine mm_cVv (rest := []) C1 ev_X7_52 (mm_dec dk_X7_readNot 11 rfl) (c_X7_step_q x.2.1 hl (d - 1) (by omega) h2_ i2_ ) rfl rfl (Nat.le_of_ble_eq_true rfl) ⟨by decide, by decide⟩ rfl (fun h21c hp21 => ?_) (fun _ _ q => q.elim)
          obtain ⟨i21c, g21c, y21_0, y21_1, y21_2⟩ := hp21
          have f21c : mm_fr [(63, 4), (63, 5), (63, 6), (63, 7), (63, 8), (63, 9), (63, 10)] [64] h h21c := mm_fr_tr f2_ g21c (by decide +kernel)
          have q21c_77 : h21c.1 63 3 = h2_.1 63 3 := g21c.1 63 3 (by decide)
          have q21c_78 : h21c.1 63 9 = h2_.1 63 9 := g21c.1 63 9 (by decide)
          have q21c_79 : h21c.1 63 10 = h2_.1 63 10 := g21c.1 63 10 (by decide)
          have g80 : -2147483648 ≤ (h21c.1 63 5) ∧ (h21c.1 63 5) ≤ 2147483647 := i21c.1 63 5
          have g81 : 0 ≤ (h21c.1 63 7) ∧ (h21c.1 63 7) ≤ 500 := i21c.1 63 7
          have g82 : 0 ≤ (h21c.1 63 8) ∧ (h21c.1 63 8) ≤ 500 := i21c.1 63 8
          have g83 : -2147483648 ≤ (h21c.1 63 6) ∧ (h21c.1 63 6) ≤ 2147483647 := i21c.1 63 6
          refine mm_goto (tgt := 2) C (mm_dec dk_X7_readNot 12 rfl) (by decide) ?_
          exact ih2 (x2_2 + 1) ⟨by omega, by omega⟩ h21c i21c f21c (by first | exact mm_n7_0 t0 | exact mm_n7_s w2_0 (by have zz := mm_hdx tf2; omega) (by omega) (mm_st7_of w2_0.1.2.1 y21_1 y21_2 g21c (by decide))) (by omega)
  refine mm_istore_nL (ls2 := [mR 63, mI p1, mI 0, mU]) C (mm_dec dk_X7_readNot 1 rfl) (by decide) rfl ?_
  exact J2 (((6 - 0) : Int) + 1).toNat 0 ⟨by omega, by omega⟩ h i0 f0 (by first | exact mm_n7_0 t0 | exact mm_n7_s w2_0 (by have zz := mm_hdx tf2; omega) (by omega) (mm_st7_of w2_0.1.2.1 y21_1 y21_2 g21c (by decide))) (by omega)
set_option maxRecDepth 100000 in
set_option maxHeartbeats 4000000 in
theorem c_X7_readAnd_q4 (l : Launch) (hl : l.stackTraces = false) (d : Nat) (hd : 18 ≤ d) (h : mH) (i0 : mm_inv h) (p1 : Int) (bp1 : 4 ≤ p1 ∧ p1 ≤ 4) (t0 : mm_aX h) : mm_Met l d yX7_readAnd cX7_readAnd 3 (some .boolean) [mR 63, mI p1] h (mm_pi fun r h2 => (0 ≤ r ∧ r ≤ 1) ∧ mm_inv h2 ∧ mm_fr [(63, 4), (63, 5), (63, 6), (63, 7), (63, 8), (63, 9), (63, 10)] [64] h h2 ∧ ((r = 1 ∧ mm_q7 0 4 h h2 ∧ mm_nC h2) ∨ (r = 0 ∧ mm_f7 0 4 h h2))) mm_nx 0 0 := by
  refine mm_ofW (ls := [mR 63, mI p1, mU]) hl (by decide) rfl (Nat.le_of_ble_eq_true rfl) ?_
  intro x hxl C T hnm htb
  subst hxl
  have C1 := mm_OK_le (d' := d - 1 + 1) (by omega) C
  have C8 := mm_OK_le (d' := d - 8 + 8) (by omega) C
  refine mm_rng (fun hr _ => ?_)
  have ap1 : -2147483648 ≤ p1 ∧ p1 < 2147483648 := mm_ok_at hr (i := 1) rfl
  have f0 : mm_fr [(63, 4), (63, 5), (63, 6), (63, 7), (63, 8), (63, 9), (63, 10)] [64] h h := mm_fr_rf
  have g1 : -2147483648 ≤ h.1 63 5 ∧ h.1 63 5 ≤ 2147483647 := i0.1 63 5
  have g2 : 0 ≤ h.1 63 7 ∧ h.1 63 7 ≤ 500 := i0.1 63 7
  have g3 : 0 ≤ h.1 63 8 ∧ h.1 63 8 ≤ 500 := i0.1 63 8
  have g4 : 0 ≤ h.1 63 3 ∧ h.1 63 3 ≤ 500 := i0.1 63 3
  have g5 : -2147483648 ≤ h.1 63 6 ∧ h.1 63 6 ≤ 2147483647 := i0.1 63 6
  have g6 : -2147483648 ≤ h.1 63 9 ∧ h.1 63 9 ≤ 2147483647 := i0.1 63 9
  have g7 : -2147483648 ≤ h.1 63 10 ∧ h.1 63 10 ≤ 2147483647 := i0.1 63 10
  refine mm_aload_n C (mm_dec dk_X7_readAnd 0 rfl) rfl ?_
  refine mm_iload_n C (mm_dec dk_X7_readAnd 1 rfl) rfl ?_
  refine mm_cVi (rest := []) C1 ev_X7_103 (mm_dec dk_X7_readAnd 2 rfl) (c_X7_readNot_q4 x.2.1 hl (d - 1) (by omega) h i0 p1 ⟨by omega, by omega⟩ (by exact t0)) rfl rfl (Nat.le_of_ble_eq_true rfl) ⟨by decide, by decide⟩ rfl (fun r2 h2c hp2 => ?_) (fun _ _ q => q.elim)
  obtain ⟨b2, i2c, g2c, y2_0⟩ := hp2
  have f2c : mm_fr [(63, 4), (63, 5), (63, 6), (63, 7), (63, 8), (63, 9), (63, 10)] [64] h h2c := mm_fr_tr f0 g2c (by decide +kernel)
  have q2c_9 : h2c.1 63 3 = h.1 63 3 := g2c.1 63 3 (by decide)
  have g10 : -2147483648 ≤ (h2c.1 63 5) ∧ (h2c.1 63 5) ≤ 2147483647 := i2c.1 63 5
  have g11 : 0 ≤ (h2c.1 63 7) ∧ (h2c.1 63 7) ≤ 500 := i2c.1 63 7
  have g12 : 0 ≤ (h2c.1 63 8) ∧ (h2c.1 63 8) ≤ 500 := i2c.1 63 8
  have g13 : -2147483648 ≤ (h2c.1 63 6) ∧ (h2c.1 63 6) ≤ 2147483647 := i2c.1 63 6
  have g14 : -2147483648 ≤ (h2c.1 63 9) ∧ (h2c.1 63 9) ≤ 2147483647 := i2c.1 63 9
  have g15 : -2147483648 ≤ (h2c.1 63 10) ∧ (h2c.1 63 10) ≤ 2147483647 := i2c.1 63 10
  refine mm_if_ne (tgt := 10) C (mm_dec dk_X7_readAnd 3 rfl) (by decide) (fun c5 => ?_) (fun c5 => ?_)
  · skip
    refine mm_iconst C (mm_dec dk_X7_readAnd 6 rfl) ⟨by decide, by decide⟩ ?_
    have J12 : ∀ (n : Nat) (x12_2 : Int) (bx12_2 : 0 ≤ x12_2 ∧ x12_2 ≤ 500) (h12_ : mH) (i12_ : mm_inv h12_) (f12_ : mm_fr [(63, 4), (63, 5), (63, 6), (63, 7), (63, 8), (63, 9), (63, 10)] [64] h h12_) (w12_0 : mm_q7 0 4 h h12_) (w12_1 : x12_2 ≤ h12_.1 63 7) (w12_2 : mm_nB h12_), (500 - x12_2 : Int) < n → mm_W x 0 0 12 [mR 63, mI p1, mI x12_2] [] h12_ := by
      intro n
      induction n with
      | zero =>
        intro x12_2 bx12_2 h12_ i12_ f12_ w12_0 w12_1 w12_2 hm
        have g16 : -2147483648 ≤ h12_.1 63 5 ∧ h12_.1 63 5 ≤ 2147483647 := i12_.1 63 5
        have g17 : 0 ≤ h12_.1 63 7 ∧ h12_.1 63 7 ≤ 500 := i12_.1 63 7
        have g18 : 0 ≤ h12_.1 63 8 ∧ h12_.1 63 8 ≤ 500 := i12_.1 63 8
        have g19 : 0 ≤ h12_.1 63 3 ∧ h12_.1 63 3 ≤ 500 := i12_.1 63 3
        have g20 : -2147483648 ≤ h12_.1 63 6 ∧ h12_.1 63 6 ≤ 2147483647 := i12_.1 63 6
        have g21 : -2147483648 ≤ h12_.1 63 9 ∧ h12_.1 63 9 ≤ 2147483647 := i12_.1 63 9
        have g22 : -2147483648 ≤ h12_.1 63 10 ∧ h12_.1 63 10 ≤ 2147483647 := i12_.1 63 10
        exfalso; omega
      | succ n ih12 =>
        intro x12_2 bx12_2 h12_ i12_ f12_ w12_0 w12_1 w12_2 hm12
        have g23 : -2147483648 ≤ h12_.1 63 5 ∧ h12_.1 63 5 ≤ 2147483647 := i12_.1 63 5
        have g24 : 0 ≤ h12_.1 63 7 ∧ h12_.1 63 7 ≤ 500 := i12_.1 63 7
        have g25 : 0 ≤ h12_.1 63 8 ∧ h12_.1 63 8 ≤ 500 := i12_.1 63 8
        have g26 : 0 ≤ h12_.1 63 3 ∧ h12_.1 63 3 ≤ 500 := i12_.1 63 3
        have g27 : -2147483648 ≤ h12_.1 63 6 ∧ h12_.1 63 6 ≤ 2147483647 := i12_.1 63 6
        have g28 : -2147483648 ≤ h12_.1 63 9 ∧ h12_.1 63 9 ≤ 2147483647 := i12_.1 63 9
        have g29 : -2147483648 ≤ h12_.1 63 10 ∧ h12_.1 63 10 ≤ 2147483647 := i12_.1 63 10
        have g30 : h12_.1 63 3 = h.1 63 3 := f12_.1 63 3 (by decide)
        have tf12 := mm_cX_h i12_ w12_0.1.2.1
        have tr12 := mm_cX_r i12_ w12_0.1.2.1
        refine mm_iload_n C (mm_dec dk_X7_readAnd 8 rfl) rfl ?_
        refine mm_sipush C (mm_dec dk_X7_readAnd 9 rfl) ⟨by decide, by decide⟩ ?_
        have J53 : ∀ (w53_0 : mm_nC h12_), mm_W x 0 0 53 [mU, mU, mU] [] h12_ := by
          intro w53_0
          have g31 : -2147483648 ≤ h12_.1 63 5 ∧ h12_.1 63 5 ≤ 2147483647 := i12_.1 63 5
          have g32 : 0 ≤ h12_.1 63 7 ∧ h12_.1 63 7 ≤ 500 := i12_.1 63 7
          have g33 : 0 ≤ h12_.1 63 8 ∧ h12_.1 63 8 ≤ 500 := i12_.1 63 8
          have g34 : 0 ≤ h12_.1 63 3 ∧ h12_.1 63 3 ≤ 500 := i12_.1 63 3
          have g35 : -2147483648 ≤ h12_.1 63 6 ∧ h12_.1 63 6 ≤ 2147483647 := i12_.1 63 6
          have g36 : -2147483648 ≤ h12_.1 63 9 ∧ h12_.1 63 9 ≤ 2147483647 := i12_.1 63 9
          have g37 : -2147483648 ≤ h12_.1 63 10 ∧ h12_.1 63 10 ≤ 2147483647 := i12_.1 63 10
          refine mm_iconst C (mm_dec dk_X7_readAnd 28 rfl) ⟨by decide, by decide⟩ ?_
          exact mm_zret C T (mm_dec dk_X7_readAnd 29 rfl) (by decide : 0 ≤ 0) (by decide : 0 ≤ 0) (by omega) ⟨_, rfl, ⟨⟨by omega, by omega⟩, i12_, f12_, by first | exact Or.inl ⟨rfl, w12_0, w53_0⟩ | exact Or.inr ⟨rfl, mm_or0 y2_0 (by omega)⟩ | exact Or.inr ⟨rfl, mm_f7_and w12_0 zc zs (mm_or0 y33_0 (by omega))⟩⟩⟩
        refine mm_icmp_ge (tgt := 53) C (mm_dec dk_X7_readAnd 10 rfl) (by decide) (fun c16 => ?_) (fun c16 => ?_)
        · skip
          refine mm_fgt 0 ?_
          refine mm_fgt 1 ?_
          refine mm_fgt 2 ?_
          exact J53 (by (have z := w12_2; unfold mm_nB at z; unfold mm_nC; have zz := mm_hdx tf12; omega))
        · skip
          refine mm_aload_n C (mm_dec dk_X7_readAnd 11 rfl) rfl ?_
          refine mm_geti C fl_X7_28 (mm_dec dk_X7_readAnd 12 rfl) rfl rfl (Or.inl rfl) ?_
          refine mm_iconst C (mm_dec dk_X7_readAnd 13 rfl) ⟨by decide, by decide⟩ ?_
          refine mm_icmp_ne (tgt := 53) C (mm_dec dk_X7_readAnd 14 rfl) (by decide) (fun c24 => ?_) (fun c24 => ?_)
          · skip
            refine mm_fgt 0 ?_
            refine mm_fgt 1 ?_
            refine mm_fgt 2 ?_
            exact J53 (by (have z := w12_2; unfold mm_nB at z; unfold mm_nC; have zz := mm_hdx tf12; omega))
          · skip
            refine mm_aload_n C (mm_dec dk_X7_readAnd 15 rfl) rfl ?_
            refine mm_cVv (rest := []) C1 ev_X7_52 (mm_dec dk_X7_readAnd 16 rfl) (c_X7_step_q x.2.1 hl (d - 1) (by omega) h12_ i12_ ) rfl rfl (Nat.le_of_ble_eq_true rfl) ⟨by decide, by decide⟩ rfl (fun h28c hp28 => ?_) (fun _ _ q => q.elim)
            obtain ⟨i28c, g28c, y28_0, y28_1, y28_2⟩ := hp28
            have f28c : mm_fr [(63, 4), (63, 5), (63, 6), (63, 7), (63, 8), (63, 9), (63, 10)] [64] h h28c := mm_fr_tr f12_ g28c (by decide +kernel)
            have q28c_39 : h28c.1 63 3 = h12_.1 63 3 := g28c.1 63 3 (by decide)
            have q28c_40 : h28c.1 63 9 = h12_.1 63 9 := g28c.1 63 9 (by decide)
            have q28c_41 : h28c.1 63 10 = h12_.1 63 10 := g28c.1 63 10 (by decide)
            have g42 : -2147483648 ≤ (h28c.1 63 5) ∧ (h28c.1 63 5) ≤ 2147483647 := i28c.1 63 5
            have g43 : 0 ≤ (h28c.1 63 7) ∧ (h28c.1 63 7) ≤ 500 := i28c.1 63 7
            have g44 : 0 ≤ (h28c.1 63 8) ∧ (h28c.1 63 8) ≤ 500 := i28c.1 63 8
            have g45 : -2147483648 ≤ (h28c.1 63 6) ∧ (h28c.1 63 6) ≤ 2147483647 := i28c.1 63 6
            have zs := mm_st7_of w12_0.1.2.1 y28_1 y28_2 g28c (by decide)
            have zc : mm_cX h12_ = 4 ∨ mm_cX h12_ = 5 := by have zz := mm_hdx tf12; omega
            have zl := mm_st7_lt zs (by omega)
            refine mm_aload_n C (mm_dec dk_X7_readAnd 17 rfl) rfl ?_
            refine mm_iload_n C (mm_dec dk_X7_readAnd 18 rfl) rfl ?_
            refine mm_cVi (rest := []) C1 ev_X7_103 (mm_dec dk_X7_readAnd 19 rfl) (c_X7_readNot_q4 x.2.1 hl (d - 1) (by omega) h28c i28c p1 ⟨by omega, by omega⟩ (by exact y28_1)) rfl rfl (Nat.le_of_ble_eq_true rfl) ⟨by decide, by decide⟩ rfl (fun r33 h33c hp33 => ?_) (fun _ _ q => q.elim)
            obtain ⟨b33, i33c, g33c, y33_0⟩ := hp33
            have f33c : mm_fr [(63, 4), (63, 5), (63, 6), (63, 7), (63, 8), (63, 9), (63, 10)] [64] h h33c := mm_fr_tr f28c g33c (by decide +kernel)
            have q33c_47 : h33c.1 63 3 = h28c.1 63 3 := g33c.1 63 3 (by decide)
            have g48 : -2147483648 ≤ (h33c.1 63 5) ∧ (h33c.1 63 5) ≤ 2147483647 := i33c.1 63 5
            have g49 : 0 ≤ (h33c.1 63 7) ∧ (h33c.1 63 7) ≤ 500 := i33c.1 63 7
            have g50 : 0 ≤ (h33c.1 63 8) ∧ (h33c.1 63 8) ≤ 500 := i33c.1 63 8
            have g51 : -2147483648 ≤ (h33c.1 63 6) ∧ (h33c.1 63 6) ≤ 2147483647 := i33c.1 63 6
            have g52 : -2147483648 ≤ (h33c.1 63 9) ∧ (h33c.1 63 9) ≤ 2147483647 := i33c.1 63 9
            have g53 : -2147483648 ≤ (h33c.1 63 10) ∧ (h33c.1 63 10) ≤ 2147483647 := i33c.1 63 10
            refine mm_if_ne (tgt := 41) C (mm_dec dk_X7_readAnd 20 rfl) (by decide) (fun c36 => ?_) (fun c36 => ?_)
            · skip
              refine mm_aload_n C (mm_dec dk_X7_readAnd 23 rfl) rfl ?_
              refine mm_ldc (z := 100012) C (mm_dec dk_X7_readAnd 24 rfl) kc_X7_106 (by decide) ?_
              refine mm_cVv (rest := []) C1 ev_X7_79 (mm_dec dk_X7_readAnd 25 rfl) (c_X7_emit x.2.1 hl (d - 1) (by omega) h33c i33c 100012) rfl rfl (Nat.le_of_ble_eq_true rfl) ⟨by decide, by decide⟩ rfl (fun h44c hp44 => ?_) (fun _ _ q => q.elim)
              obtain ⟨i44c, g44c⟩ := hp44
              have f44c : mm_fr [(63, 4), (63, 5), (63, 6), (63, 7), (63, 8), (63, 9), (63, 10)] [64] h h44c := mm_fr_tr f33c g44c (by decide +kernel)
              have q44c_55 : h44c.1 63 3 = h33c.1 63 3 := g44c.1 63 3 (by decide)
              have q44c_56 : h44c.1 63 5 = h33c.1 63 5 := g44c.1 63 5 (by decide)
              have q44c_57 : h44c.1 63 6 = h33c.1 63 6 := g44c.1 63 6 (by decide)
              have q44c_58 : h44c.1 63 7 = h33c.1 63 7 := g44c.1 63 7 (by decide)
              have q44c_59 : h44c.1 63 8 = h33c.1 63 8 := g44c.1 63 8 (by decide)
              have q44c_60 : h44c.1 63 9 = h33c.1 63 9 := g44c.1 63 9 (by decide)
              have q44c_61 : h44c.1 63 10 = h33c.1 63 10 := g44c.1 63 10 (by decide)
              have zt := g44c.1 63 7 (by decide)
              have zu := (mm_or1 y33_0 (by omega)).1.2.1
              refine mm_iincL (ls2 := [mR 63, mI p1, mI (x12_2 + 1)]) C (mm_dec dk_X7_readAnd 26 rfl) rfl (by decide) ⟨by omega, by omega⟩ rfl ?_
              refine mm_goto (tgt := 12) C (mm_dec dk_X7_readAnd 27 rfl) (by decide) ?_
              exact ih12 (x12_2 + 1) ⟨by omega, by omega⟩ h44c i44c f44c (by first | exact (mm_or1 y2_0 (by omega)).1 | exact mm_q7_em (mm_q7_and w12_0 zc zs (mm_or1 y33_0 (by omega)).1) (mm_em_fr g44c (by decide))) (by omega) (by first | exact (mm_or1 y2_0 (by omega)).2 | exact mm_nB_em (mm_or1 y33_0 (by omega)).2 (mm_em_fr g44c (by decide))) (by omega)
            · skip
              refine mm_iconst C (mm_dec dk_X7_readAnd 21 rfl) ⟨by decide, by decide⟩ ?_
              exact mm_zret C T (mm_dec dk_X7_readAnd 22 rfl) (by decide : 0 ≤ 0) (by decide : 0 ≤ 0) (by omega) ⟨_, rfl, ⟨⟨by omega, by omega⟩, i33c, f33c, by first | exact Or.inl ⟨rfl, w12_0, w53_0⟩ | exact Or.inr ⟨rfl, mm_or0 y2_0 (by omega)⟩ | exact Or.inr ⟨rfl, mm_f7_and w12_0 zc zs (mm_or0 y33_0 (by omega))⟩⟩⟩
    refine mm_istore_nL (ls2 := [mR 63, mI p1, mI 0]) C (mm_dec dk_X7_readAnd 7 rfl) (by decide) rfl ?_
    exact J12 (((500 - 0) : Int) + 1).toNat 0 ⟨by omega, by omega⟩ h2c i2c f2c (by first | exact (mm_or1 y2_0 (by omega)).1 | exact mm_q7_em (mm_q7_and w12_0 zc zs (mm_or1 y33_0 (by omega)).1) (mm_em_fr g44c (by decide))) (by omega) (by first | exact (mm_or1 y2_0 (by omega)).2 | exact mm_nB_em (mm_or1 y33_0 (by omega)).2 (mm_em_fr g44c (by decide))) (by omega)
  · skip
    refine mm_iconst C (mm_dec dk_X7_readAnd 4 rfl) ⟨by decide, by decide⟩ ?_
    exact mm_zret C T (mm_dec dk_X7_readAnd 5 rfl) (by decide : 0 ≤ 0) (by decide : 0 ≤ 0) (by omega) ⟨_, rfl, ⟨⟨by omega, by omega⟩, i2c, f2c, by first | exact Or.inl ⟨rfl, w12_0, w53_0⟩ | exact Or.inr ⟨rfl, mm_or0 y2_0 (by omega)⟩ | exact Or.inr ⟨rfl, mm_f7_and w12_0 zc zs (mm_or0 y33_0 (by omega))⟩⟩⟩
set_option maxRecDepth 100000 in
set_option maxHeartbeats 4000000 in
theorem c_X7_readOr_q4 (l : Launch) (hl : l.stackTraces = false) (d : Nat) (hd : 19 ≤ d) (h : mH) (i0 : mm_inv h) (p1 : Int) (bp1 : 4 ≤ p1 ∧ p1 ≤ 4) (t0 : mm_aX h) : mm_Met l d yX7_readOr cX7_readOr 3 (some .boolean) [mR 63, mI p1] h (mm_pi fun r h2 => (0 ≤ r ∧ r ≤ 1) ∧ mm_inv h2 ∧ mm_fr [(63, 4), (63, 5), (63, 6), (63, 7), (63, 8), (63, 9), (63, 10)] [64] h h2 ∧ ((r = 1 ∧ mm_q7 0 4 h h2 ∧ mm_nD h2) ∨ (r = 0 ∧ mm_f7 0 4 h h2))) mm_nx 0 0 := by
  refine mm_ofW (ls := [mR 63, mI p1, mU]) hl (by decide) rfl (Nat.le_of_ble_eq_true rfl) ?_
  intro x hxl C T hnm htb
  subst hxl
  have C1 := mm_OK_le (d' := d - 1 + 1) (by omega) C
  have C8 := mm_OK_le (d' := d - 8 + 8) (by omega) C
  refine mm_rng (fun hr _ => ?_)
  have ap1 : -2147483648 ≤ p1 ∧ p1 < 2147483648 := mm_ok_at hr (i := 1) rfl
  have f0 : mm_fr [(63, 4), (63, 5), (63, 6), (63, 7), (63, 8), (63, 9), (63, 10)] [64] h h := mm_fr_rf
  have g1 : -2147483648 ≤ h.1 63 5 ∧ h.1 63 5 ≤ 2147483647 := i0.1 63 5
  have g2 : 0 ≤ h.1 63 7 ∧ h.1 63 7 ≤ 500 := i0.1 63 7
  have g3 : 0 ≤ h.1 63 8 ∧ h.1 63 8 ≤ 500 := i0.1 63 8
  have g4 : 0 ≤ h.1 63 3 ∧ h.1 63 3 ≤ 500 := i0.1 63 3
  have g5 : -2147483648 ≤ h.1 63 6 ∧ h.1 63 6 ≤ 2147483647 := i0.1 63 6
  have g6 : -2147483648 ≤ h.1 63 9 ∧ h.1 63 9 ≤ 2147483647 := i0.1 63 9
  have g7 : -2147483648 ≤ h.1 63 10 ∧ h.1 63 10 ≤ 2147483647 := i0.1 63 10
  refine mm_iload_n C (mm_dec dk_X7_readOr 0 rfl) rfl ?_
  refine mm_bipush C (mm_dec dk_X7_readOr 1 rfl) ⟨by decide, by decide⟩ ?_
  refine mm_icmp_lt (tgt := 41) C (mm_dec dk_X7_readOr 2 rfl) (by decide) (fun c3 => ?_) (fun c3 => ?_)
  · skip
    refine mm_aload_n C (mm_dec dk_X7_readOr 21 rfl) rfl ?_
    refine mm_iload_n C (mm_dec dk_X7_readOr 22 rfl) rfl ?_
    refine mm_cVi (rest := []) C1 ev_X7_99 (mm_dec dk_X7_readOr 23 rfl) (c_X7_readAnd_q4 x.2.1 hl (d - 1) (by omega) h i0 p1 ⟨by omega, by omega⟩ (by exact t0)) rfl rfl (Nat.le_of_ble_eq_true rfl) ⟨by decide, by decide⟩ rfl (fun r43 h43c hp43 => ?_) (fun _ _ q => q.elim)
    obtain ⟨b43, i43c, g43c, y43_0⟩ := hp43
    have f43c : mm_fr [(63, 4), (63, 5), (63, 6), (63, 7), (63, 8), (63, 9), (63, 10)] [64] h h43c := mm_fr_tr f0 g43c (by decide +kernel)
    have q43c_9 : h43c.1 63 3 = h.1 63 3 := g43c.1 63 3 (by decide)
    have g10 : -2147483648 ≤ (h43c.1 63 5) ∧ (h43c.1 63 5) ≤ 2147483647 := i43c.1 63 5
    have g11 : 0 ≤ (h43c.1 63 7) ∧ (h43c.1 63 7) ≤ 500 := i43c.1 63 7
    have g12 : 0 ≤ (h43c.1 63 8) ∧ (h43c.1 63 8) ≤ 500 := i43c.1 63 8
    have g13 : -2147483648 ≤ (h43c.1 63 6) ∧ (h43c.1 63 6) ≤ 2147483647 := i43c.1 63 6
    have g14 : -2147483648 ≤ (h43c.1 63 9) ∧ (h43c.1 63 9) ≤ 2147483647 := i43c.1 63 9
    have g15 : -2147483648 ≤ (h43c.1 63 10) ∧ (h43c.1 63 10) ≤ 2147483647 := i43c.1 63 10
    refine mm_if_ne (tgt := 51) C (mm_dec dk_X7_readOr 24 rfl) (by decide) (fun c46 => ?_) (fun c46 => ?_)
    · skip
      refine mm_iconst C (mm_dec dk_X7_readOr 27 rfl) ⟨by decide, by decide⟩ ?_
      have J53 : ∀ (n : Nat) (x53_2 : Int) (bx53_2 : 0 ≤ x53_2 ∧ x53_2 ≤ 500) (h53_ : mH) (i53_ : mm_inv h53_) (f53_ : mm_fr [(63, 4), (63, 5), (63, 6), (63, 7), (63, 8), (63, 9), (63, 10)] [64] h h53_) (w53_0 : mm_q7 0 4 h h53_) (w53_1 : x53_2 ≤ h53_.1 63 7) (w53_2 : mm_nC h53_), (500 - x53_2 : Int) < n → mm_W x 0 0 53 [mR 63, mI p1, mI x53_2] [] h53_ := by
        intro n
        induction n with
        | zero =>
          intro x53_2 bx53_2 h53_ i53_ f53_ w53_0 w53_1 w53_2 hm
          have g16 : -2147483648 ≤ h53_.1 63 5 ∧ h53_.1 63 5 ≤ 2147483647 := i53_.1 63 5
          have g17 : 0 ≤ h53_.1 63 7 ∧ h53_.1 63 7 ≤ 500 := i53_.1 63 7
          have g18 : 0 ≤ h53_.1 63 8 ∧ h53_.1 63 8 ≤ 500 := i53_.1 63 8
          have g19 : 0 ≤ h53_.1 63 3 ∧ h53_.1 63 3 ≤ 500 := i53_.1 63 3
          have g20 : -2147483648 ≤ h53_.1 63 6 ∧ h53_.1 63 6 ≤ 2147483647 := i53_.1 63 6
          have g21 : -2147483648 ≤ h53_.1 63 9 ∧ h53_.1 63 9 ≤ 2147483647 := i53_.1 63 9
          have g22 : -2147483648 ≤ h53_.1 63 10 ∧ h53_.1 63 10 ≤ 2147483647 := i53_.1 63 10
          exfalso; omega
        | succ n ih53 =>
          intro x53_2 bx53_2 h53_ i53_ f53_ w53_0 w53_1 w53_2 hm53
          have g23 : -2147483648 ≤ h53_.1 63 5 ∧ h53_.1 63 5 ≤ 2147483647 := i53_.1 63 5
          have g24 : 0 ≤ h53_.1 63 7 ∧ h53_.1 63 7 ≤ 500 := i53_.1 63 7
          have g25 : 0 ≤ h53_.1 63 8 ∧ h53_.1 63 8 ≤ 500 := i53_.1 63 8
          have g26 : 0 ≤ h53_.1 63 3 ∧ h53_.1 63 3 ≤ 500 := i53_.1 63 3
          have g27 : -2147483648 ≤ h53_.1 63 6 ∧ h53_.1 63 6 ≤ 2147483647 := i53_.1 63 6
          have g28 : -2147483648 ≤ h53_.1 63 9 ∧ h53_.1 63 9 ≤ 2147483647 := i53_.1 63 9
          have g29 : -2147483648 ≤ h53_.1 63 10 ∧ h53_.1 63 10 ≤ 2147483647 := i53_.1 63 10
          have g30 : h53_.1 63 3 = h.1 63 3 := f53_.1 63 3 (by decide)
          have tf12 := mm_cX_h i53_ w53_0.1.2.1
          have tr12 := mm_cX_r i53_ w53_0.1.2.1
          refine mm_iload_n C (mm_dec dk_X7_readOr 29 rfl) rfl ?_
          refine mm_sipush C (mm_dec dk_X7_readOr 30 rfl) ⟨by decide, by decide⟩ ?_
          have J94 : ∀ (w94_0 : mm_nD h53_), mm_W x 0 0 94 [mU, mU, mU] [] h53_ := by
            intro w94_0
            have g31 : -2147483648 ≤ h53_.1 63 5 ∧ h53_.1 63 5 ≤ 2147483647 := i53_.1 63 5
            have g32 : 0 ≤ h53_.1 63 7 ∧ h53_.1 63 7 ≤ 500 := i53_.1 63 7
            have g33 : 0 ≤ h53_.1 63 8 ∧ h53_.1 63 8 ≤ 500 := i53_.1 63 8
            have g34 : 0 ≤ h53_.1 63 3 ∧ h53_.1 63 3 ≤ 500 := i53_.1 63 3
            have g35 : -2147483648 ≤ h53_.1 63 6 ∧ h53_.1 63 6 ≤ 2147483647 := i53_.1 63 6
            have g36 : -2147483648 ≤ h53_.1 63 9 ∧ h53_.1 63 9 ≤ 2147483647 := i53_.1 63 9
            have g37 : -2147483648 ≤ h53_.1 63 10 ∧ h53_.1 63 10 ≤ 2147483647 := i53_.1 63 10
            refine mm_iconst C (mm_dec dk_X7_readOr 49 rfl) ⟨by decide, by decide⟩ ?_
            exact mm_zret C T (mm_dec dk_X7_readOr 50 rfl) (by decide : 0 ≤ 0) (by decide : 0 ≤ 0) (by omega) ⟨_, rfl, ⟨⟨by omega, by omega⟩, i53_, f53_, by first | exact Or.inl ⟨rfl, w53_0, w94_0⟩ | exact Or.inr ⟨rfl, mm_or0 y43_0 (by omega)⟩ | exact Or.inr ⟨rfl, mm_f7_and w53_0 zc zs (mm_or0 y74_0 (by omega))⟩⟩⟩
          refine mm_icmp_ge (tgt := 94) C (mm_dec dk_X7_readOr 31 rfl) (by decide) (fun c57 => ?_) (fun c57 => ?_)
          · skip
            refine mm_fgt 0 ?_
            refine mm_fgt 1 ?_
            refine mm_fgt 2 ?_
            exact J94 (by (have z := w53_2; unfold mm_nC at z; unfold mm_nD; have zz := mm_hdx tf12; omega))
          · skip
            refine mm_aload_n C (mm_dec dk_X7_readOr 32 rfl) rfl ?_
            refine mm_geti C fl_X7_28 (mm_dec dk_X7_readOr 33 rfl) rfl rfl (Or.inl rfl) ?_
            refine mm_iconst C (mm_dec dk_X7_readOr 34 rfl) ⟨by decide, by decide⟩ ?_
            refine mm_icmp_ne (tgt := 94) C (mm_dec dk_X7_readOr 35 rfl) (by decide) (fun c65 => ?_) (fun c65 => ?_)
            · skip
              refine mm_fgt 0 ?_
              refine mm_fgt 1 ?_
              refine mm_fgt 2 ?_
              exact J94 (by (have z := w53_2; unfold mm_nC at z; unfold mm_nD; have zz := mm_hdx tf12; omega))
            · skip
              refine mm_aload_n C (mm_dec dk_X7_readOr 36 rfl) rfl ?_
              refine mm_cVv (rest := []) C1 ev_X7_52 (mm_dec dk_X7_readOr 37 rfl) (c_X7_step_q x.2.1 hl (d - 1) (by omega) h53_ i53_ ) rfl rfl (Nat.le_of_ble_eq_true rfl) ⟨by decide, by decide⟩ rfl (fun h69c hp69 => ?_) (fun _ _ q => q.elim)
              obtain ⟨i69c, g69c, y69_0, y69_1, y69_2⟩ := hp69
              have f69c : mm_fr [(63, 4), (63, 5), (63, 6), (63, 7), (63, 8), (63, 9), (63, 10)] [64] h h69c := mm_fr_tr f53_ g69c (by decide +kernel)
              have q69c_39 : h69c.1 63 3 = h53_.1 63 3 := g69c.1 63 3 (by decide)
              have q69c_40 : h69c.1 63 9 = h53_.1 63 9 := g69c.1 63 9 (by decide)
              have q69c_41 : h69c.1 63 10 = h53_.1 63 10 := g69c.1 63 10 (by decide)
              have g42 : -2147483648 ≤ (h69c.1 63 5) ∧ (h69c.1 63 5) ≤ 2147483647 := i69c.1 63 5
              have g43 : 0 ≤ (h69c.1 63 7) ∧ (h69c.1 63 7) ≤ 500 := i69c.1 63 7
              have g44 : 0 ≤ (h69c.1 63 8) ∧ (h69c.1 63 8) ≤ 500 := i69c.1 63 8
              have g45 : -2147483648 ≤ (h69c.1 63 6) ∧ (h69c.1 63 6) ≤ 2147483647 := i69c.1 63 6
              have zs := mm_st7_of w53_0.1.2.1 y69_1 y69_2 g69c (by decide)
              have zc : mm_cX h53_ = 4 ∨ mm_cX h53_ = 5 := by have zz := mm_hdx tf12; omega
              have zl := mm_st7_lt zs (by omega)
              refine mm_aload_n C (mm_dec dk_X7_readOr 38 rfl) rfl ?_
              refine mm_iload_n C (mm_dec dk_X7_readOr 39 rfl) rfl ?_
              refine mm_cVi (rest := []) C1 ev_X7_99 (mm_dec dk_X7_readOr 40 rfl) (c_X7_readAnd_q4 x.2.1 hl (d - 1) (by omega) h69c i69c p1 ⟨by omega, by omega⟩ (by exact y69_1)) rfl rfl (Nat.le_of_ble_eq_true rfl) ⟨by decide, by decide⟩ rfl (fun r74 h74c hp74 => ?_) (fun _ _ q => q.elim)
              obtain ⟨b74, i74c, g74c, y74_0⟩ := hp74
              have f74c : mm_fr [(63, 4), (63, 5), (63, 6), (63, 7), (63, 8), (63, 9), (63, 10)] [64] h h74c := mm_fr_tr f69c g74c (by decide +kernel)
              have q74c_47 : h74c.1 63 3 = h69c.1 63 3 := g74c.1 63 3 (by decide)
              have g48 : -2147483648 ≤ (h74c.1 63 5) ∧ (h74c.1 63 5) ≤ 2147483647 := i74c.1 63 5
              have g49 : 0 ≤ (h74c.1 63 7) ∧ (h74c.1 63 7) ≤ 500 := i74c.1 63 7
              have g50 : 0 ≤ (h74c.1 63 8) ∧ (h74c.1 63 8) ≤ 500 := i74c.1 63 8
              have g51 : -2147483648 ≤ (h74c.1 63 6) ∧ (h74c.1 63 6) ≤ 2147483647 := i74c.1 63 6
              have g52 : -2147483648 ≤ (h74c.1 63 9) ∧ (h74c.1 63 9) ≤ 2147483647 := i74c.1 63 9
              have g53 : -2147483648 ≤ (h74c.1 63 10) ∧ (h74c.1 63 10) ≤ 2147483647 := i74c.1 63 10
              refine mm_if_ne (tgt := 82) C (mm_dec dk_X7_readOr 41 rfl) (by decide) (fun c77 => ?_) (fun c77 => ?_)
              · skip
                refine mm_aload_n C (mm_dec dk_X7_readOr 44 rfl) rfl ?_
                refine mm_ldc (z := 100011) C (mm_dec dk_X7_readOr 45 rfl) kc_X7_102 (by decide) ?_
                refine mm_cVv (rest := []) C1 ev_X7_79 (mm_dec dk_X7_readOr 46 rfl) (c_X7_emit x.2.1 hl (d - 1) (by omega) h74c i74c 100011) rfl rfl (Nat.le_of_ble_eq_true rfl) ⟨by decide, by decide⟩ rfl (fun h85c hp85 => ?_) (fun _ _ q => q.elim)
                obtain ⟨i85c, g85c⟩ := hp85
                have f85c : mm_fr [(63, 4), (63, 5), (63, 6), (63, 7), (63, 8), (63, 9), (63, 10)] [64] h h85c := mm_fr_tr f74c g85c (by decide +kernel)
                have q85c_55 : h85c.1 63 3 = h74c.1 63 3 := g85c.1 63 3 (by decide)
                have q85c_56 : h85c.1 63 5 = h74c.1 63 5 := g85c.1 63 5 (by decide)
                have q85c_57 : h85c.1 63 6 = h74c.1 63 6 := g85c.1 63 6 (by decide)
                have q85c_58 : h85c.1 63 7 = h74c.1 63 7 := g85c.1 63 7 (by decide)
                have q85c_59 : h85c.1 63 8 = h74c.1 63 8 := g85c.1 63 8 (by decide)
                have q85c_60 : h85c.1 63 9 = h74c.1 63 9 := g85c.1 63 9 (by decide)
                have q85c_61 : h85c.1 63 10 = h74c.1 63 10 := g85c.1 63 10 (by decide)
                have zt := g85c.1 63 7 (by decide)
                have zu := (mm_or1 y74_0 (by omega)).1.2.1
                refine mm_iincL (ls2 := [mR 63, mI p1, mI (x53_2 + 1)]) C (mm_dec dk_X7_readOr 47 rfl) rfl (by decide) ⟨by omega, by omega⟩ rfl ?_
                refine mm_goto (tgt := 53) C (mm_dec dk_X7_readOr 48 rfl) (by decide) ?_
                exact ih53 (x53_2 + 1) ⟨by omega, by omega⟩ h85c i85c f85c (by first | exact (mm_or1 y43_0 (by omega)).1 | exact mm_q7_em (mm_q7_and w53_0 zc zs (mm_or1 y74_0 (by omega)).1) (mm_em_fr g85c (by decide))) (by omega) (by first | exact (mm_or1 y43_0 (by omega)).2 | exact mm_nC_em (mm_or1 y74_0 (by omega)).2 (mm_em_fr g85c (by decide))) (by omega)
              · skip
                refine mm_iconst C (mm_dec dk_X7_readOr 42 rfl) ⟨by decide, by decide⟩ ?_
                exact mm_zret C T (mm_dec dk_X7_readOr 43 rfl) (by decide : 0 ≤ 0) (by decide : 0 ≤ 0) (by omega) ⟨_, rfl, ⟨⟨by omega, by omega⟩, i74c, f74c, by first | exact Or.inl ⟨rfl, w53_0, w94_0⟩ | exact Or.inr ⟨rfl, mm_or0 y43_0 (by omega)⟩ | exact Or.inr ⟨rfl, mm_f7_and w53_0 zc zs (mm_or0 y74_0 (by omega))⟩⟩⟩
      refine mm_istore_nL (ls2 := [mR 63, mI p1, mI 0]) C (mm_dec dk_X7_readOr 28 rfl) (by decide) rfl ?_
      exact J53 (((500 - 0) : Int) + 1).toNat 0 ⟨by omega, by omega⟩ h43c i43c f43c (by first | exact (mm_or1 y43_0 (by omega)).1 | exact mm_q7_em (mm_q7_and w53_0 zc zs (mm_or1 y74_0 (by omega)).1) (mm_em_fr g85c (by decide))) (by omega) (by first | exact (mm_or1 y43_0 (by omega)).2 | exact mm_nC_em (mm_or1 y74_0 (by omega)).2 (mm_em_fr g85c (by decide))) (by omega)
    · skip
      refine mm_iconst C (mm_dec dk_X7_readOr 25 rfl) ⟨by decide, by decide⟩ ?_
      exact mm_zret C T (mm_dec dk_X7_readOr 26 rfl) (by decide : 0 ≤ 0) (by decide : 0 ≤ 0) (by omega) ⟨_, rfl, ⟨⟨by omega, by omega⟩, i43c, f43c, by first | exact Or.inl ⟨rfl, w53_0, w94_0⟩ | exact Or.inr ⟨rfl, mm_or0 y43_0 (by omega)⟩ | exact Or.inr ⟨rfl, mm_f7_and w53_0 zc zs (mm_or0 y74_0 (by omega))⟩⟩⟩
  · skip
    exfalso; omega
set_option maxRecDepth 100000 in
set_option maxHeartbeats 4000000 in
theorem c_X7_readPart_q3 (l : Launch) (hl : l.stackTraces = false) (d : Nat) (hd : 20 ≤ d) (h : mH) (i0 : mm_inv h) (p1 : Int) (bp1 : 3 ≤ p1 ∧ p1 ≤ 3) (t0 : mm_aX h) : mm_Met l d yX7_readPart cX7_readPart 2 (some .boolean) [mR 63, mI p1] h (mm_pi fun r h2 => (0 ≤ r ∧ r ≤ 1) ∧ mm_inv h2 ∧ mm_fr [(63, 4), (63, 5), (63, 6), (63, 7), (63, 8), (63, 9), (63, 10)] [64] h h2 ∧ ((r = 1 ∧ mm_p7 3 h h2) ∨ (r = 0 ∧ mm_g7 3 h h2))) mm_nx 0 0 := by
  refine mm_ofW (ls := [mR 63, mI p1]) hl (by decide) rfl (Nat.le_of_ble_eq_true rfl) ?_
  intro x hxl C T hnm htb
  subst hxl
  have C1 := mm_OK_le (d' := d - 1 + 1) (by omega) C
  have C8 := mm_OK_le (d' := d - 8 + 8) (by omega) C
  refine mm_rng (fun hr _ => ?_)
  have ap1 : -2147483648 ≤ p1 ∧ p1 < 2147483648 := mm_ok_at hr (i := 1) rfl
  have f0 : mm_fr [(63, 4), (63, 5), (63, 6), (63, 7), (63, 8), (63, 9), (63, 10)] [64] h h := mm_fr_rf
  have g1 : -2147483648 ≤ h.1 63 5 ∧ h.1 63 5 ≤ 2147483647 := i0.1 63 5
  have g2 : 0 ≤ h.1 63 7 ∧ h.1 63 7 ≤ 500 := i0.1 63 7
  have g3 : 0 ≤ h.1 63 8 ∧ h.1 63 8 ≤ 500 := i0.1 63 8
  have g4 : 0 ≤ h.1 63 3 ∧ h.1 63 3 ≤ 500 := i0.1 63 3
  have g5 : -2147483648 ≤ h.1 63 6 ∧ h.1 63 6 ≤ 2147483647 := i0.1 63 6
  have g6 : -2147483648 ≤ h.1 63 9 ∧ h.1 63 9 ≤ 2147483647 := i0.1 63 9
  have g7 : -2147483648 ≤ h.1 63 10 ∧ h.1 63 10 ≤ 2147483647 := i0.1 63 10
  have tf := mm_cX_h i0 t0
  have tr := mm_cX_r i0 t0
  refine mm_aload_n C (mm_dec dk_X7_readPart 0 rfl) rfl ?_
  refine mm_bipush C (mm_dec dk_X7_readPart 1 rfl) ⟨by decide, by decide⟩ ?_
  refine mm_cVi (rest := []) C1 ev_X7_96 (mm_dec dk_X7_readPart 2 rfl) (c_X7_isSign x.2.1 hl (d - 1) (by omega) h i0 40 (by omega)) rfl rfl (Nat.le_of_ble_eq_true rfl) ⟨by decide, by decide⟩ rfl (fun r3 h3c hp3 => ?_) (fun _ _ q => q.elim)
  obtain ⟨z3, y3⟩ := hp3
  rw [z3]
  have g9 : -2147483648 ≤ (h.2.1 62 (h.1 63 7)) ∧ (h.2.1 62 (h.1 63 7)) ≤ 2147483647 := i0.2.1 62 (h.1 63 7)
  refine mm_if_eq (tgt := 38) C (mm_dec dk_X7_readPart 3 rfl) (by decide) (fun c6 => ?_) (fun c6 => ?_)
  · skip
    refine mm_aload_n C (mm_dec dk_X7_readPart 20 rfl) rfl ?_
    refine mm_geti C fl_X7_25 (mm_dec dk_X7_readPart 21 rfl) rfl rfl (Or.inl rfl) ?_
    refine mm_iconst C (mm_dec dk_X7_readPart 22 rfl) ⟨by decide, by decide⟩ ?_
    have J117 : ∀ (h117_ : mH) (i117_ : mm_inv h117_) (f117_ : mm_fr [(63, 4), (63, 5), (63, 6), (63, 7), (63, 8), (63, 9), (63, 10)] [64] h h117_) (w117_0 : mm_em h h117_) (w117_1 : (mm_cX h = 18 ∨ (7 ≤ mm_cX h ∧ mm_cX h ≤ 16))), mm_W x 0 0 117 [mR 63, mU] [] h117_ := by
      intro h117_ i117_ f117_ w117_0 w117_1
      have g10 : -2147483648 ≤ h117_.1 63 5 ∧ h117_.1 63 5 ≤ 2147483647 := i117_.1 63 5
      have g11 : 0 ≤ h117_.1 63 7 ∧ h117_.1 63 7 ≤ 500 := i117_.1 63 7
      have g12 : 0 ≤ h117_.1 63 8 ∧ h117_.1 63 8 ≤ 500 := i117_.1 63 8
      have g13 : 0 ≤ h117_.1 63 3 ∧ h117_.1 63 3 ≤ 500 := i117_.1 63 3
      have g14 : -2147483648 ≤ h117_.1 63 6 ∧ h117_.1 63 6 ≤ 2147483647 := i117_.1 63 6
      have g15 : -2147483648 ≤ h117_.1 63 9 ∧ h117_.1 63 9 ≤ 2147483647 := i117_.1 63 9
      have g16 : -2147483648 ≤ h117_.1 63 10 ∧ h117_.1 63 10 ≤ 2147483647 := i117_.1 63 10
      have g17 : h117_.1 63 3 = h.1 63 3 := f117_.1 63 3 (by decide)
      refine mm_aload_n C (mm_dec dk_X7_readPart 61 rfl) rfl ?_
      refine mm_cVv (rest := []) C1 ev_X7_52 (mm_dec dk_X7_readPart 62 rfl) (c_X7_step_q x.2.1 hl (d - 1) (by omega) h117_ i117_ ) rfl rfl (Nat.le_of_ble_eq_true rfl) ⟨by decide, by decide⟩ rfl (fun h118c hp118 => ?_) (fun _ _ q => q.elim)
      obtain ⟨i118c, g118c, y118_0, y118_1, y118_2⟩ := hp118
      have f118c : mm_fr [(63, 4), (63, 5), (63, 6), (63, 7), (63, 8), (63, 9), (63, 10)] [64] h h118c := mm_fr_tr f117_ g118c (by decide +kernel)
      have q118c_19 : h118c.1 63 3 = h117_.1 63 3 := g118c.1 63 3 (by decide)
      have q118c_20 : h118c.1 63 9 = h117_.1 63 9 := g118c.1 63 9 (by decide)
      have q118c_21 : h118c.1 63 10 = h117_.1 63 10 := g118c.1 63 10 (by decide)
      have g22 : -2147483648 ≤ (h118c.1 63 5) ∧ (h118c.1 63 5) ≤ 2147483647 := i118c.1 63 5
      have g23 : 0 ≤ (h118c.1 63 7) ∧ (h118c.1 63 7) ≤ 500 := i118c.1 63 7
      have g24 : 0 ≤ (h118c.1 63 8) ∧ (h118c.1 63 8) ≤ 500 := i118c.1 63 8
      have g25 : -2147483648 ≤ (h118c.1 63 6) ∧ (h118c.1 63 6) ≤ 2147483647 := i118c.1 63 6
      refine mm_iconst C (mm_dec dk_X7_readPart 63 rfl) ⟨by decide, by decide⟩ ?_
      exact mm_zret C T (mm_dec dk_X7_readPart 64 rfl) (by decide : 0 ≤ 0) (by decide : 0 ≤ 0) (by omega) ⟨_, rfl, ⟨⟨by omega, by omega⟩, i118c, f118c, by first | exact w37_0 | exact Or.inr ⟨by omega, mm_g7_bad (by have zz := mm_hdx tf; have zy := y57_0; omega) y57_1⟩ | (have z := mm_or0 y101_0 (by omega); exact Or.inr ⟨rfl, mm_g7_bad (by have := z.1; have zz := mm_hdx tf; omega) z.2⟩) | exact Or.inl ⟨rfl, mm_p7_part w117_1 w117_0 (mm_st7_of (mm_em_a w117_0 t0) y118_1 y118_2 g118c (by decide))⟩⟩⟩
    refine mm_icmp_ne (tgt := 100) C (mm_dec dk_X7_readPart 23 rfl) (by decide) (fun c43 => ?_) (fun c43 => ?_)
    · skip
      refine mm_aload_n C (mm_dec dk_X7_readPart 52 rfl) rfl ?_
      refine mm_cVi (rest := []) C1 ev_X7_89 (mm_dec dk_X7_readPart 53 rfl) (c_X7_isNumber_q x.2.1 hl (d - 1) (by omega) h i0 ) rfl rfl (Nat.le_of_ble_eq_true rfl) ⟨by decide, by decide⟩ rfl (fun r101 h101c hp101 => ?_) (fun _ _ q => q.elim)
      obtain ⟨b101, i101c, g101c, y101_0⟩ := hp101
      have f101c : mm_fr [(63, 4), (63, 5), (63, 6), (63, 7), (63, 8), (63, 9), (63, 10)] [64] h h101c := mm_fr_tr f0 g101c (by decide +kernel)
      have q101c_27 : h101c.1 63 3 = h.1 63 3 := g101c.1 63 3 (by decide)
      have q101c_28 : h101c.1 63 5 = h.1 63 5 := g101c.1 63 5 (by decide)
      have q101c_29 : h101c.1 63 6 = h.1 63 6 := g101c.1 63 6 (by decide)
      have q101c_30 : h101c.1 63 7 = h.1 63 7 := g101c.1 63 7 (by decide)
      have q101c_31 : h101c.1 63 8 = h.1 63 8 := g101c.1 63 8 (by decide)
      have g32 : -2147483648 ≤ (h101c.1 63 9) ∧ (h101c.1 63 9) ≤ 2147483647 := i101c.1 63 9
      have g33 : -2147483648 ≤ (h101c.1 63 10) ∧ (h101c.1 63 10) ≤ 2147483647 := i101c.1 63 10
      refine mm_if_ne (tgt := 109) C (mm_dec dk_X7_readPart 54 rfl) (by decide) (fun c104 => ?_) (fun c104 => ?_)
      · skip
        refine mm_aload_n C (mm_dec dk_X7_readPart 57 rfl) rfl ?_
        refine mm_aload_n C (mm_dec dk_X7_readPart 58 rfl) rfl ?_
        refine mm_cVi (rest := [mR 63]) C1 ev_X7_92 (mm_dec dk_X7_readPart 59 rfl) (c_X7_numberOfToken_q x.2.1 hl (d - 1) (by omega) h101c i101c (by first | exact mm_em_a (mm_or1 y101_0 (by omega)).2.2 t0 | (have z := (mm_or1 y101_0 (by omega)).2.2; have z5 := z.2.1; have z7 := z.2.2.2.1; have z8 := z.2.2.2.2.1; omega)) (by first | exact mm_em_a (mm_or1 y101_0 (by omega)).2.2 t0 | (have z := (mm_or1 y101_0 (by omega)).2.2; have z5 := z.2.1; have z7 := z.2.2.2.1; have z8 := z.2.2.2.2.1; omega)) (by first | exact mm_em_a (mm_or1 y101_0 (by omega)).2.2 t0 | (have z := (mm_or1 y101_0 (by omega)).2.2; have z5 := z.2.1; have z7 := z.2.2.2.1; have z8 := z.2.2.2.2.1; omega))) rfl rfl (Nat.le_of_ble_eq_true rfl) ⟨by decide, by decide⟩ rfl (fun r111 h111c hp111 => ?_) (fun _ _ q => q.elim)
        obtain ⟨b111, z111, y111_0⟩ := hp111
        rw [z111]
        refine mm_cVv (rest := []) C1 ev_X7_79 (mm_dec dk_X7_readPart 60 rfl) (c_X7_emit x.2.1 hl (d - 1) (by omega) h101c i101c r111) rfl rfl (Nat.le_of_ble_eq_true rfl) ⟨by decide, by decide⟩ rfl (fun h114c hp114 => ?_) (fun _ _ q => q.elim)
        obtain ⟨i114c, g114c⟩ := hp114
        have f114c : mm_fr [(63, 4), (63, 5), (63, 6), (63, 7), (63, 8), (63, 9), (63, 10)] [64] h h114c := mm_fr_tr f101c g114c (by decide +kernel)
        have q114c_36 : h114c.1 63 3 = h101c.1 63 3 := g114c.1 63 3 (by decide)
        have q114c_37 : h114c.1 63 5 = h101c.1 63 5 := g114c.1 63 5 (by decide)
        have q114c_38 : h114c.1 63 6 = h101c.1 63 6 := g114c.1 63 6 (by decide)
        have q114c_39 : h114c.1 63 7 = h101c.1 63 7 := g114c.1 63 7 (by decide)
        have q114c_40 : h114c.1 63 8 = h101c.1 63 8 := g114c.1 63 8 (by decide)
        have q114c_41 : h114c.1 63 9 = h101c.1 63 9 := g114c.1 63 9 (by decide)
        have q114c_42 : h114c.1 63 10 = h101c.1 63 10 := g114c.1 63 10 (by decide)
        refine mm_fgt 1 ?_
        exact J117 h114c i114c f114c (by first | exact mm_em_fr g94c (by decide) | exact mm_em_tr (mm_or1 y101_0 (by omega)).2.2 (mm_em_fr g114c (by decide))) (by first | (have zz := mm_hdx tf; omega) | (have z := mm_or1 y101_0 (by omega); have z1 := z.1; have z2 := z.2.1; have zz := mm_hdx tf; omega))
      · skip
        refine mm_iconst C (mm_dec dk_X7_readPart 55 rfl) ⟨by decide, by decide⟩ ?_
        exact mm_zret C T (mm_dec dk_X7_readPart 56 rfl) (by decide : 0 ≤ 0) (by decide : 0 ≤ 0) (by omega) ⟨_, rfl, ⟨⟨by omega, by omega⟩, i101c, f101c, by first | exact w37_0 | exact Or.inr ⟨by omega, mm_g7_bad (by have zz := mm_hdx tf; have zy := y57_0; omega) y57_1⟩ | (have z := mm_or0 y101_0 (by omega); exact Or.inr ⟨rfl, mm_g7_bad (by have := z.1; have zz := mm_hdx tf; omega) z.2⟩) | exact Or.inl ⟨rfl, mm_p7_part w117_1 w117_0 (mm_st7_of (mm_em_a w117_0 t0) y118_1 y118_2 g118c (by decide))⟩⟩⟩
    · skip
      refine mm_aload_n C (mm_dec dk_X7_readPart 24 rfl) rfl ?_
      refine mm_geti C fl_X7_28 (mm_dec dk_X7_readPart 25 rfl) rfl rfl (Or.inl rfl) ?_
      refine mm_bipush C (mm_dec dk_X7_readPart 26 rfl) ⟨by decide, by decide⟩ ?_
      refine mm_icmp_ge (tgt := 61) C (mm_dec dk_X7_readPart 27 rfl) (by decide) (fun c52 => ?_) (fun c52 => ?_)
      · skip
        refine mm_aload_n C (mm_dec dk_X7_readPart 32 rfl) rfl ?_
        refine mm_aload_n C (mm_dec dk_X7_readPart 33 rfl) rfl ?_
        refine mm_geti C fl_X7_28 (mm_dec dk_X7_readPart 34 rfl) rfl rfl (Or.inl rfl) ?_
        refine mm_bipush C (mm_dec dk_X7_readPart 35 rfl) ⟨by decide, by decide⟩ ?_
        have J94 : ∀ (s94_1 : Int) (bs94_1 : -2147483648 ≤ s94_1 ∧ s94_1 ≤ 2147483647), mm_W x 0 0 94 [mR 63, mU] [mI s94_1, mR 63] h := by
          intro s94_1 bs94_1
          have g43 : -2147483648 ≤ h.1 63 5 ∧ h.1 63 5 ≤ 2147483647 := i0.1 63 5
          have g44 : 0 ≤ h.1 63 7 ∧ h.1 63 7 ≤ 500 := i0.1 63 7
          have g45 : 0 ≤ h.1 63 8 ∧ h.1 63 8 ≤ 500 := i0.1 63 8
          have g46 : 0 ≤ h.1 63 3 ∧ h.1 63 3 ≤ 500 := i0.1 63 3
          have g47 : -2147483648 ≤ h.1 63 6 ∧ h.1 63 6 ≤ 2147483647 := i0.1 63 6
          have g48 : -2147483648 ≤ h.1 63 9 ∧ h.1 63 9 ≤ 2147483647 := i0.1 63 9
          have g49 : -2147483648 ≤ h.1 63 10 ∧ h.1 63 10 ≤ 2147483647 := i0.1 63 10
          refine mm_cVv (rest := []) C1 ev_X7_79 (mm_dec dk_X7_readPart 50 rfl) (c_X7_emit x.2.1 hl (d - 1) (by omega) h i0 s94_1) rfl rfl (Nat.le_of_ble_eq_true rfl) ⟨by decide, by decide⟩ rfl (fun h94c hp94 => ?_) (fun _ _ q => q.elim)
          obtain ⟨i94c, g94c⟩ := hp94
          have f94c : mm_fr [(63, 4), (63, 5), (63, 6), (63, 7), (63, 8), (63, 9), (63, 10)] [64] h h94c := mm_fr_tr f0 g94c (by decide +kernel)
          have q94c_51 : h94c.1 63 3 = h.1 63 3 := g94c.1 63 3 (by decide)
          have q94c_52 : h94c.1 63 5 = h.1 63 5 := g94c.1 63 5 (by decide)
          have q94c_53 : h94c.1 63 6 = h.1 63 6 := g94c.1 63 6 (by decide)
          have q94c_54 : h94c.1 63 7 = h.1 63 7 := g94c.1 63 7 (by decide)
          have q94c_55 : h94c.1 63 8 = h.1 63 8 := g94c.1 63 8 (by decide)
          have q94c_56 : h94c.1 63 9 = h.1 63 9 := g94c.1 63 9 (by decide)
          have q94c_57 : h94c.1 63 10 = h.1 63 10 := g94c.1 63 10 (by decide)
          refine mm_goto (tgt := 117) C (mm_dec dk_X7_readPart 51 rfl) (by decide) ?_
          exact J117 h94c i94c f94c (by first | exact mm_em_fr g94c (by decide) | exact mm_em_tr (mm_or1 y101_0 (by omega)).2.2 (mm_em_fr g114c (by decide))) (by first | (have zz := mm_hdx tf; omega) | (have z := mm_or1 y101_0 (by omega); have z1 := z.1; have z2 := z.2.1; have zz := mm_hdx tf; omega))
        refine mm_icmp_ge (tgt := 84) C (mm_dec dk_X7_readPart 36 rfl) (by decide) (fun c68 => ?_) (fun c68 => ?_)
        · skip
          refine mm_ldc (z := 100000) C (mm_dec dk_X7_readPart 44 rfl) kc_X7_127 (by decide) ?_
          refine mm_aload_n C (mm_dec dk_X7_readPart 45 rfl) rfl ?_
          refine mm_geti C fl_X7_28 (mm_dec dk_X7_readPart 46 rfl) rfl rfl (Or.inl rfl) ?_
          refine mm_iaddw C (mm_dec dk_X7_readPart 47 rfl) ?_
          have g58 : -2147483648 ≤ (mm_w (100000 + (h.1 63 6))) ∧ (mm_w (100000 + (h.1 63 6))) < 2147483648 := mm_w_rg _
          refine mm_bipush C (mm_dec dk_X7_readPart 48 rfl) ⟨by decide, by decide⟩ ?_
          refine mm_isubw C (mm_dec dk_X7_readPart 49 rfl) ?_
          have g59 : -2147483648 ≤ (mm_w ((mm_w (100000 + (h.1 63 6))) - 10)) ∧ (mm_w ((mm_w (100000 + (h.1 63 6))) - 10)) < 2147483648 := mm_w_rg _
          refine mm_fgt 1 ?_
          exact J94 (mm_w ((mm_w (100000 + (h.1 63 6))) - 10)) ⟨by omega, by omega⟩
        · skip
          refine mm_ldc (z := 100007) C (mm_dec dk_X7_readPart 37 rfl) kc_X7_126 (by decide) ?_
          refine mm_aload_n C (mm_dec dk_X7_readPart 38 rfl) rfl ?_
          refine mm_geti C fl_X7_28 (mm_dec dk_X7_readPart 39 rfl) rfl rfl (Or.inl rfl) ?_
          refine mm_iadd C (mm_dec dk_X7_readPart 40 rfl) ⟨by omega, by omega⟩ ?_
          refine mm_bipush C (mm_dec dk_X7_readPart 41 rfl) ⟨by decide, by decide⟩ ?_
          refine mm_isub C (mm_dec dk_X7_readPart 42 rfl) ⟨by omega, by omega⟩ ?_
          refine mm_goto (tgt := 94) C (mm_dec dk_X7_readPart 43 rfl) (by decide) ?_
          refine mm_fgt 1 ?_
          exact J94 ((100007 + (h.1 63 6)) - 7) ⟨by omega, by omega⟩
      · skip
        refine mm_aload_n C (mm_dec dk_X7_readPart 28 rfl) rfl ?_
        refine mm_iconst C (mm_dec dk_X7_readPart 29 rfl) ⟨by decide, by decide⟩ ?_
        refine mm_cVi (rest := []) C1 ev_X7_65 (mm_dec dk_X7_readPart 30 rfl) (c_X7_refuse_q x.2.1 hl (d - 1) (by omega) h i0 3) rfl rfl (Nat.le_of_ble_eq_true rfl) ⟨by decide, by decide⟩ rfl (fun r57 h57c hp57 => ?_) (fun _ _ q => q.elim)
        obtain ⟨b57, i57c, g57c, y57_0, y57_1⟩ := hp57
        have f57c : mm_fr [(63, 4), (63, 5), (63, 6), (63, 7), (63, 8), (63, 9), (63, 10)] [64] h h57c := mm_fr_tr f0 g57c (by decide +kernel)
        have q57c_61 : h57c.1 63 3 = h.1 63 3 := g57c.1 63 3 (by decide)
        have q57c_62 : h57c.1 63 5 = h.1 63 5 := g57c.1 63 5 (by decide)
        have q57c_63 : h57c.1 63 6 = h.1 63 6 := g57c.1 63 6 (by decide)
        have q57c_64 : h57c.1 63 7 = h.1 63 7 := g57c.1 63 7 (by decide)
        have q57c_65 : h57c.1 63 8 = h.1 63 8 := g57c.1 63 8 (by decide)
        have g66 : -2147483648 ≤ (h57c.1 63 9) ∧ (h57c.1 63 9) ≤ 2147483647 := i57c.1 63 9
        have g67 : -2147483648 ≤ (h57c.1 63 10) ∧ (h57c.1 63 10) ≤ 2147483647 := i57c.1 63 10
        exact mm_zret C T (mm_dec dk_X7_readPart 31 rfl) (by decide : 0 ≤ 0) (by decide : 0 ≤ 0) (by omega) ⟨_, rfl, ⟨⟨by omega, by omega⟩, i57c, f57c, by first | exact w37_0 | exact Or.inr ⟨by omega, mm_g7_bad (by have zz := mm_hdx tf; have zy := y57_0; omega) y57_1⟩ | (have z := mm_or0 y101_0 (by omega); exact Or.inr ⟨rfl, mm_g7_bad (by have := z.1; have zz := mm_hdx tf; omega) z.2⟩) | exact Or.inl ⟨rfl, mm_p7_part w117_1 w117_0 (mm_st7_of (mm_em_a w117_0 t0) y118_1 y118_2 g118c (by decide))⟩⟩⟩
  · skip
    refine mm_aload_n C (mm_dec dk_X7_readPart 4 rfl) rfl ?_
    refine mm_cVv (rest := []) C1 ev_X7_52 (mm_dec dk_X7_readPart 5 rfl) (c_X7_step_q x.2.1 hl (d - 1) (by omega) h i0 ) rfl rfl (Nat.le_of_ble_eq_true rfl) ⟨by decide, by decide⟩ rfl (fun h10c hp10 => ?_) (fun _ _ q => q.elim)
    obtain ⟨i10c, g10c, y10_0, y10_1, y10_2⟩ := hp10
    have f10c : mm_fr [(63, 4), (63, 5), (63, 6), (63, 7), (63, 8), (63, 9), (63, 10)] [64] h h10c := mm_fr_tr f0 g10c (by decide +kernel)
    have q10c_69 : h10c.1 63 3 = h.1 63 3 := g10c.1 63 3 (by decide)
    have q10c_70 : h10c.1 63 9 = h.1 63 9 := g10c.1 63 9 (by decide)
    have q10c_71 : h10c.1 63 10 = h.1 63 10 := g10c.1 63 10 (by decide)
    have g72 : -2147483648 ≤ (h10c.1 63 5) ∧ (h10c.1 63 5) ≤ 2147483647 := i10c.1 63 5
    have g73 : 0 ≤ (h10c.1 63 7) ∧ (h10c.1 63 7) ≤ 500 := i10c.1 63 7
    have g74 : 0 ≤ (h10c.1 63 8) ∧ (h10c.1 63 8) ≤ 500 := i10c.1 63 8
    have g75 : -2147483648 ≤ (h10c.1 63 6) ∧ (h10c.1 63 6) ≤ 2147483647 := i10c.1 63 6
    have zs := mm_st7_of t0 y10_1 y10_2 g10c (by decide)
    refine mm_aload_n C (mm_dec dk_X7_readPart 6 rfl) rfl ?_
    refine mm_iload_n C (mm_dec dk_X7_readPart 7 rfl) rfl ?_
    refine mm_iconst C (mm_dec dk_X7_readPart 8 rfl) ⟨by decide, by decide⟩ ?_
    refine mm_iadd C (mm_dec dk_X7_readPart 9 rfl) ⟨by omega, by omega⟩ ?_
    refine mm_cVi (rest := []) C1 ev_X7_75 (mm_dec dk_X7_readPart 10 rfl) (c_X7_readOr_q4 x.2.1 hl (d - 1) (by omega) h10c i10c (p1 + 1) ⟨by omega, by omega⟩ (by exact y10_1)) rfl rfl (Nat.le_of_ble_eq_true rfl) ⟨by decide, by decide⟩ rfl (fun r17 h17c hp17 => ?_) (fun _ _ q => q.elim)
    obtain ⟨b17, i17c, g17c, y17_0⟩ := hp17
    have f17c : mm_fr [(63, 4), (63, 5), (63, 6), (63, 7), (63, 8), (63, 9), (63, 10)] [64] h h17c := mm_fr_tr f10c g17c (by decide +kernel)
    have q17c_77 : h17c.1 63 3 = h10c.1 63 3 := g17c.1 63 3 (by decide)
    have g78 : -2147483648 ≤ (h17c.1 63 5) ∧ (h17c.1 63 5) ≤ 2147483647 := i17c.1 63 5
    have g79 : 0 ≤ (h17c.1 63 7) ∧ (h17c.1 63 7) ≤ 500 := i17c.1 63 7
    have g80 : 0 ≤ (h17c.1 63 8) ∧ (h17c.1 63 8) ≤ 500 := i17c.1 63 8
    have g81 : -2147483648 ≤ (h17c.1 63 6) ∧ (h17c.1 63 6) ≤ 2147483647 := i17c.1 63 6
    have g82 : -2147483648 ≤ (h17c.1 63 9) ∧ (h17c.1 63 9) ≤ 2147483647 := i17c.1 63 9
    have g83 : -2147483648 ≤ (h17c.1 63 10) ∧ (h17c.1 63 10) ≤ 2147483647 := i17c.1 63 10
    have J37 : ∀ (s37_0 : Int) (bs37_0 : 0 ≤ s37_0 ∧ s37_0 ≤ 1) (h37_ : mH) (i37_ : mm_inv h37_) (f37_ : mm_fr [(63, 4), (63, 5), (63, 6), (63, 7), (63, 8), (63, 9), (63, 10)] [64] h h37_) (w37_0 : ((s37_0 = 1 ∧ mm_p7 3 h h37_) ∨ (s37_0 = 0 ∧ mm_g7 3 h h37_))), mm_W x 0 0 37 [mU, mU] [mI s37_0] h37_ := by
      intro s37_0 bs37_0 h37_ i37_ f37_ w37_0
      have g84 : -2147483648 ≤ h37_.1 63 5 ∧ h37_.1 63 5 ≤ 2147483647 := i37_.1 63 5
      have g85 : 0 ≤ h37_.1 63 7 ∧ h37_.1 63 7 ≤ 500 := i37_.1 63 7
      have g86 : 0 ≤ h37_.1 63 8 ∧ h37_.1 63 8 ≤ 500 := i37_.1 63 8
      have g87 : 0 ≤ h37_.1 63 3 ∧ h37_.1 63 3 ≤ 500 := i37_.1 63 3
      have g88 : -2147483648 ≤ h37_.1 63 6 ∧ h37_.1 63 6 ≤ 2147483647 := i37_.1 63 6
      have g89 : -2147483648 ≤ h37_.1 63 9 ∧ h37_.1 63 9 ≤ 2147483647 := i37_.1 63 9
      have g90 : -2147483648 ≤ h37_.1 63 10 ∧ h37_.1 63 10 ≤ 2147483647 := i37_.1 63 10
      have g91 : h37_.1 63 3 = h.1 63 3 := f37_.1 63 3 (by decide)
      exact mm_zret C T (mm_dec dk_X7_readPart 19 rfl) (by decide : 0 ≤ 0) (by decide : 0 ≤ 0) (by omega) ⟨_, rfl, ⟨⟨by omega, by omega⟩, i37_, f37_, by first | exact w37_0 | exact Or.inr ⟨by omega, mm_g7_bad (by have zz := mm_hdx tf; have zy := y57_0; omega) y57_1⟩ | (have z := mm_or0 y101_0 (by omega); exact Or.inr ⟨rfl, mm_g7_bad (by have := z.1; have zz := mm_hdx tf; omega) z.2⟩) | exact Or.inl ⟨rfl, mm_p7_part w117_1 w117_0 (mm_st7_of (mm_em_a w117_0 t0) y118_1 y118_2 g118c (by decide))⟩⟩⟩
    have J36 : ∀ (h36_ : mH) (i36_ : mm_inv h36_) (f36_ : mm_fr [(63, 4), (63, 5), (63, 6), (63, 7), (63, 8), (63, 9), (63, 10)] [64] h h36_) (w36_0 : mm_g7 3 h h36_), mm_W x 0 0 36 [mU, mU] [] h36_ := by
      intro h36_ i36_ f36_ w36_0
      have g92 : -2147483648 ≤ h36_.1 63 5 ∧ h36_.1 63 5 ≤ 2147483647 := i36_.1 63 5
      have g93 : 0 ≤ h36_.1 63 7 ∧ h36_.1 63 7 ≤ 500 := i36_.1 63 7
      have g94 : 0 ≤ h36_.1 63 8 ∧ h36_.1 63 8 ≤ 500 := i36_.1 63 8
      have g95 : 0 ≤ h36_.1 63 3 ∧ h36_.1 63 3 ≤ 500 := i36_.1 63 3
      have g96 : -2147483648 ≤ h36_.1 63 6 ∧ h36_.1 63 6 ≤ 2147483647 := i36_.1 63 6
      have g97 : -2147483648 ≤ h36_.1 63 9 ∧ h36_.1 63 9 ≤ 2147483647 := i36_.1 63 9
      have g98 : -2147483648 ≤ h36_.1 63 10 ∧ h36_.1 63 10 ≤ 2147483647 := i36_.1 63 10
      have g99 : h36_.1 63 3 = h.1 63 3 := f36_.1 63 3 (by decide)
      refine mm_iconst C (mm_dec dk_X7_readPart 18 rfl) ⟨by decide, by decide⟩ ?_
      exact J37 0 ⟨by omega, by omega⟩ h36_ i36_ f36_ (by first | exact Or.inr ⟨rfl, w36_0⟩ | (have z := mm_or1 y26_0 (by omega); exact Or.inl ⟨rfl, mm_p7_par (by decide) (by have zz := mm_hdx tf; omega) zs zq.1 (by have := z.1; omega) z.2⟩))
    refine mm_if_eq (tgt := 36) C (mm_dec dk_X7_readPart 11 rfl) (by decide) (fun c20 => ?_) (fun c20 => ?_)
    · skip
      refine mm_fgt 0 ?_
      refine mm_fgt 1 ?_
      exact J36 h17c i17c f17c (by first | exact mm_g7_par (by decide) (by have zz := mm_hdx tf; omega) zs (mm_or0 y17_0 (by omega)) | (have z := mm_or0 y26_0 (by omega); exact mm_g7_shut (by decide) (by have zz := mm_hdx tf; omega) zs zq.1 zq.2 (fun q => z.1 (by omega)) z.2.1 z.2.2))
    · skip
      have zq := mm_or1 y17_0 (by omega)
      have tg := mm_cX_h i17c zq.1.1.2.1
      have th := mm_cX_r i17c zq.1.1.2.1
      refine mm_aload_n C (mm_dec dk_X7_readPart 12 rfl) rfl ?_
      refine mm_bipush C (mm_dec dk_X7_readPart 13 rfl) ⟨by decide, by decide⟩ ?_
      refine mm_cVi (rest := []) C1 ev_X7_72 (mm_dec dk_X7_readPart 14 rfl) (c_X7_readSign_q x.2.1 hl (d - 1) (by omega) h17c i17c 41 ⟨by omega, by omega⟩ (by exact zq.1.1.2.1)) rfl rfl (Nat.le_of_ble_eq_true rfl) ⟨by decide, by decide⟩ rfl (fun r26 h26c hp26 => ?_) (fun _ _ q => q.elim)
      obtain ⟨b26, i26c, g26c, y26_0⟩ := hp26
      have f26c : mm_fr [(63, 4), (63, 5), (63, 6), (63, 7), (63, 8), (63, 9), (63, 10)] [64] h h26c := mm_fr_tr f17c g26c (by decide +kernel)
      have q26c_101 : h26c.1 63 3 = h17c.1 63 3 := g26c.1 63 3 (by decide)
      have g102 : -2147483648 ≤ (h26c.1 63 5) ∧ (h26c.1 63 5) ≤ 2147483647 := i26c.1 63 5
      have g103 : 0 ≤ (h26c.1 63 7) ∧ (h26c.1 63 7) ≤ 500 := i26c.1 63 7
      have g104 : 0 ≤ (h26c.1 63 8) ∧ (h26c.1 63 8) ≤ 500 := i26c.1 63 8
      have g105 : -2147483648 ≤ (h26c.1 63 6) ∧ (h26c.1 63 6) ≤ 2147483647 := i26c.1 63 6
      have g106 : -2147483648 ≤ (h26c.1 63 9) ∧ (h26c.1 63 9) ≤ 2147483647 := i26c.1 63 9
      have g107 : -2147483648 ≤ (h26c.1 63 10) ∧ (h26c.1 63 10) ≤ 2147483647 := i26c.1 63 10
      refine mm_if_eq (tgt := 36) C (mm_dec dk_X7_readPart 15 rfl) (by decide) (fun c29 => ?_) (fun c29 => ?_)
      · skip
        refine mm_fgt 0 ?_
        refine mm_fgt 1 ?_
        exact J36 h26c i26c f26c (by first | exact mm_g7_par (by decide) (by have zz := mm_hdx tf; omega) zs (mm_or0 y17_0 (by omega)) | (have z := mm_or0 y26_0 (by omega); exact mm_g7_shut (by decide) (by have zz := mm_hdx tf; omega) zs zq.1 zq.2 (fun q => z.1 (by omega)) z.2.1 z.2.2))
      · skip
        refine mm_iconst C (mm_dec dk_X7_readPart 16 rfl) ⟨by decide, by decide⟩ ?_
        refine mm_goto (tgt := 37) C (mm_dec dk_X7_readPart 17 rfl) (by decide) ?_
        refine mm_fgt 0 ?_
        refine mm_fgt 1 ?_
        exact J37 1 ⟨by omega, by omega⟩ h26c i26c f26c (by first | exact Or.inr ⟨rfl, w36_0⟩ | (have z := mm_or1 y26_0 (by omega); exact Or.inl ⟨rfl, mm_p7_par (by decide) (by have zz := mm_hdx tf; omega) zs zq.1 (by have := z.1; omega) z.2⟩))
set_option maxRecDepth 100000 in
set_option maxHeartbeats 4000000 in
theorem c_X7_readProduct_q3 (l : Launch) (hl : l.stackTraces = false) (d : Nat) (hd : 21 ≤ d) (h : mH) (i0 : mm_inv h) (p1 : Int) (bp1 : 3 ≤ p1 ∧ p1 ≤ 3) (t0 : mm_aX h) : mm_Met l d yX7_readProduct cX7_readProduct 4 (some .boolean) [mR 63, mI p1] h (mm_pi fun r h2 => (0 ≤ r ∧ r ≤ 1) ∧ mm_inv h2 ∧ mm_fr [(63, 4), (63, 5), (63, 6), (63, 7), (63, 8), (63, 9), (63, 10)] [64] h h2 ∧ ((r = 1 ∧ mm_p7 3 h h2 ∧ mm_nA h2) ∨ (r = 0 ∧ mm_g7 3 h h2))) mm_nx 0 0 := by
  refine mm_ofW (ls := [mR 63, mI p1, mU, mU]) hl (by decide) rfl (Nat.le_of_ble_eq_true rfl) ?_
  intro x hxl C T hnm htb
  subst hxl
  have C1 := mm_OK_le (d' := d - 1 + 1) (by omega) C
  have C8 := mm_OK_le (d' := d - 8 + 8) (by omega) C
  refine mm_rng (fun hr _ => ?_)
  have ap1 : -2147483648 ≤ p1 ∧ p1 < 2147483648 := mm_ok_at hr (i := 1) rfl
  have f0 : mm_fr [(63, 4), (63, 5), (63, 6), (63, 7), (63, 8), (63, 9), (63, 10)] [64] h h := mm_fr_rf
  have g1 : -2147483648 ≤ h.1 63 5 ∧ h.1 63 5 ≤ 2147483647 := i0.1 63 5
  have g2 : 0 ≤ h.1 63 7 ∧ h.1 63 7 ≤ 500 := i0.1 63 7
  have g3 : 0 ≤ h.1 63 8 ∧ h.1 63 8 ≤ 500 := i0.1 63 8
  have g4 : 0 ≤ h.1 63 3 ∧ h.1 63 3 ≤ 500 := i0.1 63 3
  have g5 : -2147483648 ≤ h.1 63 6 ∧ h.1 63 6 ≤ 2147483647 := i0.1 63 6
  have g6 : -2147483648 ≤ h.1 63 9 ∧ h.1 63 9 ≤ 2147483647 := i0.1 63 9
  have g7 : -2147483648 ≤ h.1 63 10 ∧ h.1 63 10 ≤ 2147483647 := i0.1 63 10
  have tf := mm_cX_h i0 t0
  have tr := mm_cX_r i0 t0
  refine mm_aload_n C (mm_dec dk_X7_readProduct 0 rfl) rfl ?_
  refine mm_iload_n C (mm_dec dk_X7_readProduct 1 rfl) rfl ?_
  refine mm_cVi (rest := []) C1 ev_X7_121 (mm_dec dk_X7_readProduct 2 rfl) (c_X7_readPart_q3 x.2.1 hl (d - 1) (by omega) h i0 p1 ⟨by omega, by omega⟩ (by exact t0)) rfl rfl (Nat.le_of_ble_eq_true rfl) ⟨by decide, by decide⟩ rfl (fun r2 h2c hp2 => ?_) (fun _ _ q => q.elim)
  obtain ⟨b2, i2c, g2c, y2_0⟩ := hp2
  have f2c : mm_fr [(63, 4), (63, 5), (63, 6), (63, 7), (63, 8), (63, 9), (63, 10)] [64] h h2c := mm_fr_tr f0 g2c (by decide +kernel)
  have q2c_9 : h2c.1 63 3 = h.1 63 3 := g2c.1 63 3 (by decide)
  have g10 : -2147483648 ≤ (h2c.1 63 5) ∧ (h2c.1 63 5) ≤ 2147483647 := i2c.1 63 5
  have g11 : 0 ≤ (h2c.1 63 7) ∧ (h2c.1 63 7) ≤ 500 := i2c.1 63 7
  have g12 : 0 ≤ (h2c.1 63 8) ∧ (h2c.1 63 8) ≤ 500 := i2c.1 63 8
  have g13 : -2147483648 ≤ (h2c.1 63 6) ∧ (h2c.1 63 6) ≤ 2147483647 := i2c.1 63 6
  have g14 : -2147483648 ≤ (h2c.1 63 9) ∧ (h2c.1 63 9) ≤ 2147483647 := i2c.1 63 9
  have g15 : -2147483648 ≤ (h2c.1 63 10) ∧ (h2c.1 63 10) ≤ 2147483647 := i2c.1 63 10
  refine mm_if_ne (tgt := 10) C (mm_dec dk_X7_readProduct 3 rfl) (by decide) (fun c5 => ?_) (fun c5 => ?_)
  · skip
    refine mm_iconst C (mm_dec dk_X7_readProduct 6 rfl) ⟨by decide, by decide⟩ ?_
    have J12 : ∀ (n : Nat) (x12_2 : Int) (bx12_2 : 0 ≤ x12_2 ∧ x12_2 ≤ 500) (h12_ : mH) (i12_ : mm_inv h12_) (f12_ : mm_fr [(63, 4), (63, 5), (63, 6), (63, 7), (63, 8), (63, 9), (63, 10)] [64] h h12_) (w12_0 : mm_p7 3 h h12_) (w12_1 : x12_2 ≤ h12_.1 63 7), (500 - x12_2 : Int) < n → mm_W x 0 0 12 [mR 63, mI p1, mI x12_2, mU] [] h12_ := by
      intro n
      induction n with
      | zero =>
        intro x12_2 bx12_2 h12_ i12_ f12_ w12_0 w12_1 hm
        have g16 : -2147483648 ≤ h12_.1 63 5 ∧ h12_.1 63 5 ≤ 2147483647 := i12_.1 63 5
        have g17 : 0 ≤ h12_.1 63 7 ∧ h12_.1 63 7 ≤ 500 := i12_.1 63 7
        have g18 : 0 ≤ h12_.1 63 8 ∧ h12_.1 63 8 ≤ 500 := i12_.1 63 8
        have g19 : 0 ≤ h12_.1 63 3 ∧ h12_.1 63 3 ≤ 500 := i12_.1 63 3
        have g20 : -2147483648 ≤ h12_.1 63 6 ∧ h12_.1 63 6 ≤ 2147483647 := i12_.1 63 6
        have g21 : -2147483648 ≤ h12_.1 63 9 ∧ h12_.1 63 9 ≤ 2147483647 := i12_.1 63 9
        have g22 : -2147483648 ≤ h12_.1 63 10 ∧ h12_.1 63 10 ≤ 2147483647 := i12_.1 63 10
        exfalso; omega
      | succ n ih12 =>
        intro x12_2 bx12_2 h12_ i12_ f12_ w12_0 w12_1 hm12
        have g23 : -2147483648 ≤ h12_.1 63 5 ∧ h12_.1 63 5 ≤ 2147483647 := i12_.1 63 5
        have g24 : 0 ≤ h12_.1 63 7 ∧ h12_.1 63 7 ≤ 500 := i12_.1 63 7
        have g25 : 0 ≤ h12_.1 63 8 ∧ h12_.1 63 8 ≤ 500 := i12_.1 63 8
        have g26 : 0 ≤ h12_.1 63 3 ∧ h12_.1 63 3 ≤ 500 := i12_.1 63 3
        have g27 : -2147483648 ≤ h12_.1 63 6 ∧ h12_.1 63 6 ≤ 2147483647 := i12_.1 63 6
        have g28 : -2147483648 ≤ h12_.1 63 9 ∧ h12_.1 63 9 ≤ 2147483647 := i12_.1 63 9
        have g29 : -2147483648 ≤ h12_.1 63 10 ∧ h12_.1 63 10 ≤ 2147483647 := i12_.1 63 10
        have g30 : h12_.1 63 3 = h.1 63 3 := f12_.1 63 3 (by decide)
        have tf12 := mm_cX_h i12_ w12_0.1.2.1
        have tr12 := mm_cX_r i12_ w12_0.1.2.1
        refine mm_iload_n C (mm_dec dk_X7_readProduct 8 rfl) rfl ?_
        refine mm_sipush C (mm_dec dk_X7_readProduct 9 rfl) ⟨by decide, by decide⟩ ?_
        have J79 : ∀ (w79_0 : mm_nA h12_), mm_W x 0 0 79 [mU, mU, mU, mU] [] h12_ := by
          intro w79_0
          have g31 : -2147483648 ≤ h12_.1 63 5 ∧ h12_.1 63 5 ≤ 2147483647 := i12_.1 63 5
          have g32 : 0 ≤ h12_.1 63 7 ∧ h12_.1 63 7 ≤ 500 := i12_.1 63 7
          have g33 : 0 ≤ h12_.1 63 8 ∧ h12_.1 63 8 ≤ 500 := i12_.1 63 8
          have g34 : 0 ≤ h12_.1 63 3 ∧ h12_.1 63 3 ≤ 500 := i12_.1 63 3
          have g35 : -2147483648 ≤ h12_.1 63 6 ∧ h12_.1 63 6 ≤ 2147483647 := i12_.1 63 6
          have g36 : -2147483648 ≤ h12_.1 63 9 ∧ h12_.1 63 9 ≤ 2147483647 := i12_.1 63 9
          have g37 : -2147483648 ≤ h12_.1 63 10 ∧ h12_.1 63 10 ≤ 2147483647 := i12_.1 63 10
          refine mm_iconst C (mm_dec dk_X7_readProduct 40 rfl) ⟨by decide, by decide⟩ ?_
          exact mm_zret C T (mm_dec dk_X7_readProduct 41 rfl) (by decide : 0 ≤ 0) (by decide : 0 ≤ 0) (by omega) ⟨_, rfl, ⟨⟨by omega, by omega⟩, i12_, f12_, by first | exact Or.inl ⟨rfl, w12_0, w79_0⟩ | exact Or.inr ⟨rfl, mm_or0 y2_0 (by omega)⟩ | exact Or.inr ⟨rfl, mm_g7_op w12_0 (by omega) zs (mm_or0 y60_0 (by omega))⟩⟩⟩
        refine mm_icmp_ge (tgt := 79) C (mm_dec dk_X7_readProduct 10 rfl) (by decide) (fun c16 => ?_) (fun c16 => ?_)
        · skip
          refine mm_fgt 0 ?_
          refine mm_fgt 1 ?_
          refine mm_fgt 2 ?_
          exact J79 (by (unfold mm_nA; have zz := mm_hdx tf12; omega))
        · skip
          refine mm_aload_n C (mm_dec dk_X7_readProduct 11 rfl) rfl ?_
          refine mm_bipush C (mm_dec dk_X7_readProduct 12 rfl) ⟨by decide, by decide⟩ ?_
          refine mm_cVi (rest := []) C1 ev_X7_96 (mm_dec dk_X7_readProduct 13 rfl) (c_X7_isSign x.2.1 hl (d - 1) (by omega) h12_ i12_ 42 (by omega)) rfl rfl (Nat.le_of_ble_eq_true rfl) ⟨by decide, by decide⟩ rfl (fun r22 h22c hp22 => ?_) (fun _ _ q => q.elim)
          obtain ⟨z22, y22⟩ := hp22
          rw [z22]
          have g39 : -2147483648 ≤ (h12_.2.1 62 (h12_.1 63 7)) ∧ (h12_.2.1 62 (h12_.1 63 7)) ≤ 2147483647 := i12_.2.1 62 (h12_.1 63 7)
          have J37 : ∀ (w37_0 : (mm_cX h12_ = 142 ∨ mm_cX h12_ = 147)), mm_W x 0 0 37 [mR 63, mI p1, mI x12_2, mU] [] h12_ := by
            intro w37_0
            have g40 : -2147483648 ≤ h12_.1 63 5 ∧ h12_.1 63 5 ≤ 2147483647 := i12_.1 63 5
            have g41 : 0 ≤ h12_.1 63 7 ∧ h12_.1 63 7 ≤ 500 := i12_.1 63 7
            have g42 : 0 ≤ h12_.1 63 8 ∧ h12_.1 63 8 ≤ 500 := i12_.1 63 8
            have g43 : 0 ≤ h12_.1 63 3 ∧ h12_.1 63 3 ≤ 500 := i12_.1 63 3
            have g44 : -2147483648 ≤ h12_.1 63 6 ∧ h12_.1 63 6 ≤ 2147483647 := i12_.1 63 6
            have g45 : -2147483648 ≤ h12_.1 63 9 ∧ h12_.1 63 9 ≤ 2147483647 := i12_.1 63 9
            have g46 : -2147483648 ≤ h12_.1 63 10 ∧ h12_.1 63 10 ≤ 2147483647 := i12_.1 63 10
            refine mm_aload_n C (mm_dec dk_X7_readProduct 19 rfl) rfl ?_
            refine mm_bipush C (mm_dec dk_X7_readProduct 20 rfl) ⟨by decide, by decide⟩ ?_
            refine mm_cVi (rest := []) C1 ev_X7_96 (mm_dec dk_X7_readProduct 21 rfl) (c_X7_isSign x.2.1 hl (d - 1) (by omega) h12_ i12_ 42 (by omega)) rfl rfl (Nat.le_of_ble_eq_true rfl) ⟨by decide, by decide⟩ rfl (fun r40 h40c hp40 => ?_) (fun _ _ q => q.elim)
            obtain ⟨z40, y40⟩ := hp40
            rw [z40]
            have J53 : ∀ (s53_0 : Int) (bs53_0 : 100017 ≤ s53_0 ∧ s53_0 ≤ 100018) (vs53_0 : (r40 ≠ 0 ∧ s53_0 = 100017) ∨ (r40 = 0 ∧ s53_0 = 100018)), mm_W x 0 0 53 [mR 63, mI p1, mI x12_2, mU] [mI s53_0] h12_ := by
              intro s53_0 bs53_0 vs53_0
              have g48 : -2147483648 ≤ h12_.1 63 5 ∧ h12_.1 63 5 ≤ 2147483647 := i12_.1 63 5
              have g49 : 0 ≤ h12_.1 63 7 ∧ h12_.1 63 7 ≤ 500 := i12_.1 63 7
              have g50 : 0 ≤ h12_.1 63 8 ∧ h12_.1 63 8 ≤ 500 := i12_.1 63 8
              have g51 : 0 ≤ h12_.1 63 3 ∧ h12_.1 63 3 ≤ 500 := i12_.1 63 3
              have g52 : -2147483648 ≤ h12_.1 63 6 ∧ h12_.1 63 6 ≤ 2147483647 := i12_.1 63 6
              have g53 : -2147483648 ≤ h12_.1 63 9 ∧ h12_.1 63 9 ≤ 2147483647 := i12_.1 63 9
              have g54 : -2147483648 ≤ h12_.1 63 10 ∧ h12_.1 63 10 ≤ 2147483647 := i12_.1 63 10
              refine mm_istore_nL (ls2 := [mR 63, mI p1, mI x12_2, mI s53_0]) C (mm_dec dk_X7_readProduct 26 rfl) (by decide) rfl ?_
              refine mm_aload_n C (mm_dec dk_X7_readProduct 27 rfl) rfl ?_
              refine mm_cVv (rest := []) C1 ev_X7_52 (mm_dec dk_X7_readProduct 28 rfl) (c_X7_step_q x.2.1 hl (d - 1) (by omega) h12_ i12_ ) rfl rfl (Nat.le_of_ble_eq_true rfl) ⟨by decide, by decide⟩ rfl (fun h55c hp55 => ?_) (fun _ _ q => q.elim)
              obtain ⟨i55c, g55c, y55_0, y55_1, y55_2⟩ := hp55
              have f55c : mm_fr [(63, 4), (63, 5), (63, 6), (63, 7), (63, 8), (63, 9), (63, 10)] [64] h h55c := mm_fr_tr f12_ g55c (by decide +kernel)
              have q55c_56 : h55c.1 63 3 = h12_.1 63 3 := g55c.1 63 3 (by decide)
              have q55c_57 : h55c.1 63 9 = h12_.1 63 9 := g55c.1 63 9 (by decide)
              have q55c_58 : h55c.1 63 10 = h12_.1 63 10 := g55c.1 63 10 (by decide)
              have g59 : -2147483648 ≤ (h55c.1 63 5) ∧ (h55c.1 63 5) ≤ 2147483647 := i55c.1 63 5
              have g60 : 0 ≤ (h55c.1 63 7) ∧ (h55c.1 63 7) ≤ 500 := i55c.1 63 7
              have g61 : 0 ≤ (h55c.1 63 8) ∧ (h55c.1 63 8) ≤ 500 := i55c.1 63 8
              have g62 : -2147483648 ≤ (h55c.1 63 6) ∧ (h55c.1 63 6) ≤ 2147483647 := i55c.1 63 6
              have zs := mm_st7_of w12_0.1.2.1 y55_1 y55_2 g55c (by decide)
              have zl := mm_st7_lt zs (by omega)
              refine mm_aload_n C (mm_dec dk_X7_readProduct 29 rfl) rfl ?_
              refine mm_iload_n C (mm_dec dk_X7_readProduct 30 rfl) rfl ?_
              refine mm_cVi (rest := []) C1 ev_X7_121 (mm_dec dk_X7_readProduct 31 rfl) (c_X7_readPart_q3 x.2.1 hl (d - 1) (by omega) h55c i55c p1 ⟨by omega, by omega⟩ (by exact y55_1)) rfl rfl (Nat.le_of_ble_eq_true rfl) ⟨by decide, by decide⟩ rfl (fun r60 h60c hp60 => ?_) (fun _ _ q => q.elim)
              obtain ⟨b60, i60c, g60c, y60_0⟩ := hp60
              have f60c : mm_fr [(63, 4), (63, 5), (63, 6), (63, 7), (63, 8), (63, 9), (63, 10)] [64] h h60c := mm_fr_tr f55c g60c (by decide +kernel)
              have q60c_64 : h60c.1 63 3 = h55c.1 63 3 := g60c.1 63 3 (by decide)
              have g65 : -2147483648 ≤ (h60c.1 63 5) ∧ (h60c.1 63 5) ≤ 2147483647 := i60c.1 63 5
              have g66 : 0 ≤ (h60c.1 63 7) ∧ (h60c.1 63 7) ≤ 500 := i60c.1 63 7
              have g67 : 0 ≤ (h60c.1 63 8) ∧ (h60c.1 63 8) ≤ 500 := i60c.1 63 8
              have g68 : -2147483648 ≤ (h60c.1 63 6) ∧ (h60c.1 63 6) ≤ 2147483647 := i60c.1 63 6
              have g69 : -2147483648 ≤ (h60c.1 63 9) ∧ (h60c.1 63 9) ≤ 2147483647 := i60c.1 63 9
              have g70 : -2147483648 ≤ (h60c.1 63 10) ∧ (h60c.1 63 10) ≤ 2147483647 := i60c.1 63 10
              refine mm_if_ne (tgt := 68) C (mm_dec dk_X7_readProduct 32 rfl) (by decide) (fun c63 => ?_) (fun c63 => ?_)
              · skip
                refine mm_aload_n C (mm_dec dk_X7_readProduct 35 rfl) rfl ?_
                refine mm_iload_n C (mm_dec dk_X7_readProduct 36 rfl) rfl ?_
                refine mm_cVv (rest := []) C1 ev_X7_79 (mm_dec dk_X7_readProduct 37 rfl) (c_X7_emit x.2.1 hl (d - 1) (by omega) h60c i60c s53_0) rfl rfl (Nat.le_of_ble_eq_true rfl) ⟨by decide, by decide⟩ rfl (fun h70c hp70 => ?_) (fun _ _ q => q.elim)
                obtain ⟨i70c, g70c⟩ := hp70
                have f70c : mm_fr [(63, 4), (63, 5), (63, 6), (63, 7), (63, 8), (63, 9), (63, 10)] [64] h h70c := mm_fr_tr f60c g70c (by decide +kernel)
                have q70c_72 : h70c.1 63 3 = h60c.1 63 3 := g70c.1 63 3 (by decide)
                have q70c_73 : h70c.1 63 5 = h60c.1 63 5 := g70c.1 63 5 (by decide)
                have q70c_74 : h70c.1 63 6 = h60c.1 63 6 := g70c.1 63 6 (by decide)
                have q70c_75 : h70c.1 63 7 = h60c.1 63 7 := g70c.1 63 7 (by decide)
                have q70c_76 : h70c.1 63 8 = h60c.1 63 8 := g70c.1 63 8 (by decide)
                have q70c_77 : h70c.1 63 9 = h60c.1 63 9 := g70c.1 63 9 (by decide)
                have q70c_78 : h70c.1 63 10 = h60c.1 63 10 := g70c.1 63 10 (by decide)
                have zt := g70c.1 63 7 (by decide)
                have zu := (mm_or1 y60_0 (by omega)).2.1
                refine mm_iincL (ls2 := [mR 63, mI p1, mI (x12_2 + 1), mI s53_0]) C (mm_dec dk_X7_readProduct 38 rfl) rfl (by decide) ⟨by omega, by omega⟩ rfl ?_
                refine mm_goto (tgt := 12) C (mm_dec dk_X7_readProduct 39 rfl) (by decide) ?_
                refine mm_fgt 3 ?_
                exact ih12 (x12_2 + 1) ⟨by omega, by omega⟩ h70c i70c f70c (by first | exact (mm_or1 y2_0 (by omega)) | exact mm_p7_em (mm_p7_op w12_0 (by omega) zs (mm_or1 y60_0 (by omega))) (mm_em_fr g70c (by decide))) (by omega) (by omega)
              · skip
                refine mm_iconst C (mm_dec dk_X7_readProduct 33 rfl) ⟨by decide, by decide⟩ ?_
                exact mm_zret C T (mm_dec dk_X7_readProduct 34 rfl) (by decide : 0 ≤ 0) (by decide : 0 ≤ 0) (by omega) ⟨_, rfl, ⟨⟨by omega, by omega⟩, i60c, f60c, by first | exact Or.inl ⟨rfl, w12_0, w79_0⟩ | exact Or.inr ⟨rfl, mm_or0 y2_0 (by omega)⟩ | exact Or.inr ⟨rfl, mm_g7_op w12_0 (by omega) zs (mm_or0 y60_0 (by omega))⟩⟩⟩
            refine mm_if_eq (tgt := 51) C (mm_dec dk_X7_readProduct 22 rfl) (by decide) (fun c43 => ?_) (fun c43 => ?_)
            · skip
              refine mm_ldc (z := 100018) C (mm_dec dk_X7_readProduct 25 rfl) kc_X7_125 (by decide) ?_
              exact J53 100018 ⟨by omega, by omega⟩ (Or.inr (⟨by omega, rfl⟩))
            · skip
              refine mm_ldc (z := 100017) C (mm_dec dk_X7_readProduct 23 rfl) kc_X7_124 (by decide) ?_
              refine mm_goto (tgt := 53) C (mm_dec dk_X7_readProduct 24 rfl) (by decide) ?_
              exact J53 100017 ⟨by omega, by omega⟩ (Or.inl ⟨by omega, rfl⟩)
          refine mm_if_ne (tgt := 37) C (mm_dec dk_X7_readProduct 14 rfl) (by decide) (fun c25 => ?_) (fun c25 => ?_)
          · skip
            exact J37 (by have zz := mm_hdx tf12; omega)
          · skip
            refine mm_aload_n C (mm_dec dk_X7_readProduct 15 rfl) rfl ?_
            refine mm_bipush C (mm_dec dk_X7_readProduct 16 rfl) ⟨by decide, by decide⟩ ?_
            refine mm_cVi (rest := []) C1 ev_X7_96 (mm_dec dk_X7_readProduct 17 rfl) (c_X7_isSign x.2.1 hl (d - 1) (by omega) h12_ i12_ 47 (by omega)) rfl rfl (Nat.le_of_ble_eq_true rfl) ⟨by decide, by decide⟩ rfl (fun r31 h31c hp31 => ?_) (fun _ _ q => q.elim)
            obtain ⟨z31, y31⟩ := hp31
            rw [z31]
            refine mm_if_eq (tgt := 79) C (mm_dec dk_X7_readProduct 18 rfl) (by decide) (fun c34 => ?_) (fun c34 => ?_)
            · skip
              refine mm_fgt 0 ?_
              refine mm_fgt 1 ?_
              refine mm_fgt 2 ?_
              exact J79 (by (unfold mm_nA; have zz := mm_hdx tf12; omega))
            · skip
              exact J37 (by have zz := mm_hdx tf12; omega)
    refine mm_istore_nL (ls2 := [mR 63, mI p1, mI 0, mU]) C (mm_dec dk_X7_readProduct 7 rfl) (by decide) rfl ?_
    exact J12 (((500 - 0) : Int) + 1).toNat 0 ⟨by omega, by omega⟩ h2c i2c f2c (by first | exact (mm_or1 y2_0 (by omega)) | exact mm_p7_em (mm_p7_op w12_0 (by omega) zs (mm_or1 y60_0 (by omega))) (mm_em_fr g70c (by decide))) (by omega) (by omega)
  · skip
    refine mm_iconst C (mm_dec dk_X7_readProduct 4 rfl) ⟨by decide, by decide⟩ ?_
    exact mm_zret C T (mm_dec dk_X7_readProduct 5 rfl) (by decide : 0 ≤ 0) (by decide : 0 ≤ 0) (by omega) ⟨_, rfl, ⟨⟨by omega, by omega⟩, i2c, f2c, by first | exact Or.inl ⟨rfl, w12_0, w79_0⟩ | exact Or.inr ⟨rfl, mm_or0 y2_0 (by omega)⟩ | exact Or.inr ⟨rfl, mm_g7_op w12_0 (by omega) zs (mm_or0 y60_0 (by omega))⟩⟩⟩
set_option maxRecDepth 100000 in
set_option maxHeartbeats 4000000 in
theorem c_X7_readSum_q3 (l : Launch) (hl : l.stackTraces = false) (d : Nat) (hd : 22 ≤ d) (h : mH) (i0 : mm_inv h) (p1 : Int) (bp1 : 3 ≤ p1 ∧ p1 ≤ 3) (t0 : mm_aX h) : mm_Met l d yX7_readSum cX7_readSum 4 (some .boolean) [mR 63, mI p1] h (mm_pi fun r h2 => (0 ≤ r ∧ r ≤ 1) ∧ mm_inv h2 ∧ mm_fr [(63, 4), (63, 5), (63, 6), (63, 7), (63, 8), (63, 9), (63, 10)] [64] h h2 ∧ ((r = 1 ∧ mm_p7 3 h h2 ∧ mm_nB h2) ∨ (r = 0 ∧ mm_g7 3 h h2))) mm_nx 0 0 := by
  refine mm_ofW (ls := [mR 63, mI p1, mU, mU]) hl (by decide) rfl (Nat.le_of_ble_eq_true rfl) ?_
  intro x hxl C T hnm htb
  subst hxl
  have C1 := mm_OK_le (d' := d - 1 + 1) (by omega) C
  have C8 := mm_OK_le (d' := d - 8 + 8) (by omega) C
  refine mm_rng (fun hr _ => ?_)
  have ap1 : -2147483648 ≤ p1 ∧ p1 < 2147483648 := mm_ok_at hr (i := 1) rfl
  have f0 : mm_fr [(63, 4), (63, 5), (63, 6), (63, 7), (63, 8), (63, 9), (63, 10)] [64] h h := mm_fr_rf
  have g1 : -2147483648 ≤ h.1 63 5 ∧ h.1 63 5 ≤ 2147483647 := i0.1 63 5
  have g2 : 0 ≤ h.1 63 7 ∧ h.1 63 7 ≤ 500 := i0.1 63 7
  have g3 : 0 ≤ h.1 63 8 ∧ h.1 63 8 ≤ 500 := i0.1 63 8
  have g4 : 0 ≤ h.1 63 3 ∧ h.1 63 3 ≤ 500 := i0.1 63 3
  have g5 : -2147483648 ≤ h.1 63 6 ∧ h.1 63 6 ≤ 2147483647 := i0.1 63 6
  have g6 : -2147483648 ≤ h.1 63 9 ∧ h.1 63 9 ≤ 2147483647 := i0.1 63 9
  have g7 : -2147483648 ≤ h.1 63 10 ∧ h.1 63 10 ≤ 2147483647 := i0.1 63 10
  have tf := mm_cX_h i0 t0
  have tr := mm_cX_r i0 t0
  refine mm_aload_n C (mm_dec dk_X7_readSum 0 rfl) rfl ?_
  refine mm_iload_n C (mm_dec dk_X7_readSum 1 rfl) rfl ?_
  refine mm_cVi (rest := []) C1 ev_X7_116 (mm_dec dk_X7_readSum 2 rfl) (c_X7_readProduct_q3 x.2.1 hl (d - 1) (by omega) h i0 p1 ⟨by omega, by omega⟩ (by exact t0)) rfl rfl (Nat.le_of_ble_eq_true rfl) ⟨by decide, by decide⟩ rfl (fun r2 h2c hp2 => ?_) (fun _ _ q => q.elim)
  obtain ⟨b2, i2c, g2c, y2_0⟩ := hp2
  have f2c : mm_fr [(63, 4), (63, 5), (63, 6), (63, 7), (63, 8), (63, 9), (63, 10)] [64] h h2c := mm_fr_tr f0 g2c (by decide +kernel)
  have q2c_9 : h2c.1 63 3 = h.1 63 3 := g2c.1 63 3 (by decide)
  have g10 : -2147483648 ≤ (h2c.1 63 5) ∧ (h2c.1 63 5) ≤ 2147483647 := i2c.1 63 5
  have g11 : 0 ≤ (h2c.1 63 7) ∧ (h2c.1 63 7) ≤ 500 := i2c.1 63 7
  have g12 : 0 ≤ (h2c.1 63 8) ∧ (h2c.1 63 8) ≤ 500 := i2c.1 63 8
  have g13 : -2147483648 ≤ (h2c.1 63 6) ∧ (h2c.1 63 6) ≤ 2147483647 := i2c.1 63 6
  have g14 : -2147483648 ≤ (h2c.1 63 9) ∧ (h2c.1 63 9) ≤ 2147483647 := i2c.1 63 9
  have g15 : -2147483648 ≤ (h2c.1 63 10) ∧ (h2c.1 63 10) ≤ 2147483647 := i2c.1 63 10
  refine mm_if_ne (tgt := 10) C (mm_dec dk_X7_readSum 3 rfl) (by decide) (fun c5 => ?_) (fun c5 => ?_)
  · skip
    refine mm_iconst C (mm_dec dk_X7_readSum 6 rfl) ⟨by decide, by decide⟩ ?_
    have J12 : ∀ (n : Nat) (x12_2 : Int) (bx12_2 : 0 ≤ x12_2 ∧ x12_2 ≤ 500) (h12_ : mH) (i12_ : mm_inv h12_) (f12_ : mm_fr [(63, 4), (63, 5), (63, 6), (63, 7), (63, 8), (63, 9), (63, 10)] [64] h h12_) (w12_0 : mm_p7 3 h h12_) (w12_1 : x12_2 ≤ h12_.1 63 7) (w12_2 : mm_nA h12_), (500 - x12_2 : Int) < n → mm_W x 0 0 12 [mR 63, mI p1, mI x12_2, mU] [] h12_ := by
      intro n
      induction n with
      | zero =>
        intro x12_2 bx12_2 h12_ i12_ f12_ w12_0 w12_1 w12_2 hm
        have g16 : -2147483648 ≤ h12_.1 63 5 ∧ h12_.1 63 5 ≤ 2147483647 := i12_.1 63 5
        have g17 : 0 ≤ h12_.1 63 7 ∧ h12_.1 63 7 ≤ 500 := i12_.1 63 7
        have g18 : 0 ≤ h12_.1 63 8 ∧ h12_.1 63 8 ≤ 500 := i12_.1 63 8
        have g19 : 0 ≤ h12_.1 63 3 ∧ h12_.1 63 3 ≤ 500 := i12_.1 63 3
        have g20 : -2147483648 ≤ h12_.1 63 6 ∧ h12_.1 63 6 ≤ 2147483647 := i12_.1 63 6
        have g21 : -2147483648 ≤ h12_.1 63 9 ∧ h12_.1 63 9 ≤ 2147483647 := i12_.1 63 9
        have g22 : -2147483648 ≤ h12_.1 63 10 ∧ h12_.1 63 10 ≤ 2147483647 := i12_.1 63 10
        exfalso; omega
      | succ n ih12 =>
        intro x12_2 bx12_2 h12_ i12_ f12_ w12_0 w12_1 w12_2 hm12
        have g23 : -2147483648 ≤ h12_.1 63 5 ∧ h12_.1 63 5 ≤ 2147483647 := i12_.1 63 5
        have g24 : 0 ≤ h12_.1 63 7 ∧ h12_.1 63 7 ≤ 500 := i12_.1 63 7
        have g25 : 0 ≤ h12_.1 63 8 ∧ h12_.1 63 8 ≤ 500 := i12_.1 63 8
        have g26 : 0 ≤ h12_.1 63 3 ∧ h12_.1 63 3 ≤ 500 := i12_.1 63 3
        have g27 : -2147483648 ≤ h12_.1 63 6 ∧ h12_.1 63 6 ≤ 2147483647 := i12_.1 63 6
        have g28 : -2147483648 ≤ h12_.1 63 9 ∧ h12_.1 63 9 ≤ 2147483647 := i12_.1 63 9
        have g29 : -2147483648 ≤ h12_.1 63 10 ∧ h12_.1 63 10 ≤ 2147483647 := i12_.1 63 10
        have g30 : h12_.1 63 3 = h.1 63 3 := f12_.1 63 3 (by decide)
        have tf12 := mm_cX_h i12_ w12_0.1.2.1
        have tr12 := mm_cX_r i12_ w12_0.1.2.1
        refine mm_iload_n C (mm_dec dk_X7_readSum 8 rfl) rfl ?_
        refine mm_sipush C (mm_dec dk_X7_readSum 9 rfl) ⟨by decide, by decide⟩ ?_
        have J79 : ∀ (w79_0 : mm_nB h12_), mm_W x 0 0 79 [mU, mU, mU, mU] [] h12_ := by
          intro w79_0
          have g31 : -2147483648 ≤ h12_.1 63 5 ∧ h12_.1 63 5 ≤ 2147483647 := i12_.1 63 5
          have g32 : 0 ≤ h12_.1 63 7 ∧ h12_.1 63 7 ≤ 500 := i12_.1 63 7
          have g33 : 0 ≤ h12_.1 63 8 ∧ h12_.1 63 8 ≤ 500 := i12_.1 63 8
          have g34 : 0 ≤ h12_.1 63 3 ∧ h12_.1 63 3 ≤ 500 := i12_.1 63 3
          have g35 : -2147483648 ≤ h12_.1 63 6 ∧ h12_.1 63 6 ≤ 2147483647 := i12_.1 63 6
          have g36 : -2147483648 ≤ h12_.1 63 9 ∧ h12_.1 63 9 ≤ 2147483647 := i12_.1 63 9
          have g37 : -2147483648 ≤ h12_.1 63 10 ∧ h12_.1 63 10 ≤ 2147483647 := i12_.1 63 10
          refine mm_iconst C (mm_dec dk_X7_readSum 40 rfl) ⟨by decide, by decide⟩ ?_
          exact mm_zret C T (mm_dec dk_X7_readSum 41 rfl) (by decide : 0 ≤ 0) (by decide : 0 ≤ 0) (by omega) ⟨_, rfl, ⟨⟨by omega, by omega⟩, i12_, f12_, by first | exact Or.inl ⟨rfl, w12_0, w79_0⟩ | exact Or.inr ⟨rfl, mm_or0 y2_0 (by omega)⟩ | exact Or.inr ⟨rfl, mm_g7_op w12_0 (by omega) zs (mm_or0 y60_0 (by omega))⟩⟩⟩
        refine mm_icmp_ge (tgt := 79) C (mm_dec dk_X7_readSum 10 rfl) (by decide) (fun c16 => ?_) (fun c16 => ?_)
        · skip
          refine mm_fgt 0 ?_
          refine mm_fgt 1 ?_
          refine mm_fgt 2 ?_
          exact J79 (by (unfold mm_nB; have zz := mm_hdx tf12; have z := w12_2; unfold mm_nA at z; omega))
        · skip
          refine mm_aload_n C (mm_dec dk_X7_readSum 11 rfl) rfl ?_
          refine mm_bipush C (mm_dec dk_X7_readSum 12 rfl) ⟨by decide, by decide⟩ ?_
          refine mm_cVi (rest := []) C1 ev_X7_96 (mm_dec dk_X7_readSum 13 rfl) (c_X7_isSign x.2.1 hl (d - 1) (by omega) h12_ i12_ 43 (by omega)) rfl rfl (Nat.le_of_ble_eq_true rfl) ⟨by decide, by decide⟩ rfl (fun r22 h22c hp22 => ?_) (fun _ _ q => q.elim)
          obtain ⟨z22, y22⟩ := hp22
          rw [z22]
          have g39 : -2147483648 ≤ (h12_.2.1 62 (h12_.1 63 7)) ∧ (h12_.2.1 62 (h12_.1 63 7)) ≤ 2147483647 := i12_.2.1 62 (h12_.1 63 7)
          have J37 : ∀ (w37_0 : (mm_cX h12_ = 143 ∨ mm_cX h12_ = 145)), mm_W x 0 0 37 [mR 63, mI p1, mI x12_2, mU] [] h12_ := by
            intro w37_0
            have g40 : -2147483648 ≤ h12_.1 63 5 ∧ h12_.1 63 5 ≤ 2147483647 := i12_.1 63 5
            have g41 : 0 ≤ h12_.1 63 7 ∧ h12_.1 63 7 ≤ 500 := i12_.1 63 7
            have g42 : 0 ≤ h12_.1 63 8 ∧ h12_.1 63 8 ≤ 500 := i12_.1 63 8
            have g43 : 0 ≤ h12_.1 63 3 ∧ h12_.1 63 3 ≤ 500 := i12_.1 63 3
            have g44 : -2147483648 ≤ h12_.1 63 6 ∧ h12_.1 63 6 ≤ 2147483647 := i12_.1 63 6
            have g45 : -2147483648 ≤ h12_.1 63 9 ∧ h12_.1 63 9 ≤ 2147483647 := i12_.1 63 9
            have g46 : -2147483648 ≤ h12_.1 63 10 ∧ h12_.1 63 10 ≤ 2147483647 := i12_.1 63 10
            refine mm_aload_n C (mm_dec dk_X7_readSum 19 rfl) rfl ?_
            refine mm_bipush C (mm_dec dk_X7_readSum 20 rfl) ⟨by decide, by decide⟩ ?_
            refine mm_cVi (rest := []) C1 ev_X7_96 (mm_dec dk_X7_readSum 21 rfl) (c_X7_isSign x.2.1 hl (d - 1) (by omega) h12_ i12_ 43 (by omega)) rfl rfl (Nat.le_of_ble_eq_true rfl) ⟨by decide, by decide⟩ rfl (fun r40 h40c hp40 => ?_) (fun _ _ q => q.elim)
            obtain ⟨z40, y40⟩ := hp40
            rw [z40]
            have J53 : ∀ (s53_0 : Int) (bs53_0 : 100015 ≤ s53_0 ∧ s53_0 ≤ 100016) (vs53_0 : (r40 ≠ 0 ∧ s53_0 = 100015) ∨ (r40 = 0 ∧ s53_0 = 100016)), mm_W x 0 0 53 [mR 63, mI p1, mI x12_2, mU] [mI s53_0] h12_ := by
              intro s53_0 bs53_0 vs53_0
              have g48 : -2147483648 ≤ h12_.1 63 5 ∧ h12_.1 63 5 ≤ 2147483647 := i12_.1 63 5
              have g49 : 0 ≤ h12_.1 63 7 ∧ h12_.1 63 7 ≤ 500 := i12_.1 63 7
              have g50 : 0 ≤ h12_.1 63 8 ∧ h12_.1 63 8 ≤ 500 := i12_.1 63 8
              have g51 : 0 ≤ h12_.1 63 3 ∧ h12_.1 63 3 ≤ 500 := i12_.1 63 3
              have g52 : -2147483648 ≤ h12_.1 63 6 ∧ h12_.1 63 6 ≤ 2147483647 := i12_.1 63 6
              have g53 : -2147483648 ≤ h12_.1 63 9 ∧ h12_.1 63 9 ≤ 2147483647 := i12_.1 63 9
              have g54 : -2147483648 ≤ h12_.1 63 10 ∧ h12_.1 63 10 ≤ 2147483647 := i12_.1 63 10
              refine mm_istore_nL (ls2 := [mR 63, mI p1, mI x12_2, mI s53_0]) C (mm_dec dk_X7_readSum 26 rfl) (by decide) rfl ?_
              refine mm_aload_n C (mm_dec dk_X7_readSum 27 rfl) rfl ?_
              refine mm_cVv (rest := []) C1 ev_X7_52 (mm_dec dk_X7_readSum 28 rfl) (c_X7_step_q x.2.1 hl (d - 1) (by omega) h12_ i12_ ) rfl rfl (Nat.le_of_ble_eq_true rfl) ⟨by decide, by decide⟩ rfl (fun h55c hp55 => ?_) (fun _ _ q => q.elim)
              obtain ⟨i55c, g55c, y55_0, y55_1, y55_2⟩ := hp55
              have f55c : mm_fr [(63, 4), (63, 5), (63, 6), (63, 7), (63, 8), (63, 9), (63, 10)] [64] h h55c := mm_fr_tr f12_ g55c (by decide +kernel)
              have q55c_56 : h55c.1 63 3 = h12_.1 63 3 := g55c.1 63 3 (by decide)
              have q55c_57 : h55c.1 63 9 = h12_.1 63 9 := g55c.1 63 9 (by decide)
              have q55c_58 : h55c.1 63 10 = h12_.1 63 10 := g55c.1 63 10 (by decide)
              have g59 : -2147483648 ≤ (h55c.1 63 5) ∧ (h55c.1 63 5) ≤ 2147483647 := i55c.1 63 5
              have g60 : 0 ≤ (h55c.1 63 7) ∧ (h55c.1 63 7) ≤ 500 := i55c.1 63 7
              have g61 : 0 ≤ (h55c.1 63 8) ∧ (h55c.1 63 8) ≤ 500 := i55c.1 63 8
              have g62 : -2147483648 ≤ (h55c.1 63 6) ∧ (h55c.1 63 6) ≤ 2147483647 := i55c.1 63 6
              have zs := mm_st7_of w12_0.1.2.1 y55_1 y55_2 g55c (by decide)
              have zl := mm_st7_lt zs (by omega)
              refine mm_aload_n C (mm_dec dk_X7_readSum 29 rfl) rfl ?_
              refine mm_iload_n C (mm_dec dk_X7_readSum 30 rfl) rfl ?_
              refine mm_cVi (rest := []) C1 ev_X7_116 (mm_dec dk_X7_readSum 31 rfl) (c_X7_readProduct_q3 x.2.1 hl (d - 1) (by omega) h55c i55c p1 ⟨by omega, by omega⟩ (by exact y55_1)) rfl rfl (Nat.le_of_ble_eq_true rfl) ⟨by decide, by decide⟩ rfl (fun r60 h60c hp60 => ?_) (fun _ _ q => q.elim)
              obtain ⟨b60, i60c, g60c, y60_0⟩ := hp60
              have f60c : mm_fr [(63, 4), (63, 5), (63, 6), (63, 7), (63, 8), (63, 9), (63, 10)] [64] h h60c := mm_fr_tr f55c g60c (by decide +kernel)
              have q60c_64 : h60c.1 63 3 = h55c.1 63 3 := g60c.1 63 3 (by decide)
              have g65 : -2147483648 ≤ (h60c.1 63 5) ∧ (h60c.1 63 5) ≤ 2147483647 := i60c.1 63 5
              have g66 : 0 ≤ (h60c.1 63 7) ∧ (h60c.1 63 7) ≤ 500 := i60c.1 63 7
              have g67 : 0 ≤ (h60c.1 63 8) ∧ (h60c.1 63 8) ≤ 500 := i60c.1 63 8
              have g68 : -2147483648 ≤ (h60c.1 63 6) ∧ (h60c.1 63 6) ≤ 2147483647 := i60c.1 63 6
              have g69 : -2147483648 ≤ (h60c.1 63 9) ∧ (h60c.1 63 9) ≤ 2147483647 := i60c.1 63 9
              have g70 : -2147483648 ≤ (h60c.1 63 10) ∧ (h60c.1 63 10) ≤ 2147483647 := i60c.1 63 10
              refine mm_if_ne (tgt := 68) C (mm_dec dk_X7_readSum 32 rfl) (by decide) (fun c63 => ?_) (fun c63 => ?_)
              · skip
                refine mm_aload_n C (mm_dec dk_X7_readSum 35 rfl) rfl ?_
                refine mm_iload_n C (mm_dec dk_X7_readSum 36 rfl) rfl ?_
                refine mm_cVv (rest := []) C1 ev_X7_79 (mm_dec dk_X7_readSum 37 rfl) (c_X7_emit x.2.1 hl (d - 1) (by omega) h60c i60c s53_0) rfl rfl (Nat.le_of_ble_eq_true rfl) ⟨by decide, by decide⟩ rfl (fun h70c hp70 => ?_) (fun _ _ q => q.elim)
                obtain ⟨i70c, g70c⟩ := hp70
                have f70c : mm_fr [(63, 4), (63, 5), (63, 6), (63, 7), (63, 8), (63, 9), (63, 10)] [64] h h70c := mm_fr_tr f60c g70c (by decide +kernel)
                have q70c_72 : h70c.1 63 3 = h60c.1 63 3 := g70c.1 63 3 (by decide)
                have q70c_73 : h70c.1 63 5 = h60c.1 63 5 := g70c.1 63 5 (by decide)
                have q70c_74 : h70c.1 63 6 = h60c.1 63 6 := g70c.1 63 6 (by decide)
                have q70c_75 : h70c.1 63 7 = h60c.1 63 7 := g70c.1 63 7 (by decide)
                have q70c_76 : h70c.1 63 8 = h60c.1 63 8 := g70c.1 63 8 (by decide)
                have q70c_77 : h70c.1 63 9 = h60c.1 63 9 := g70c.1 63 9 (by decide)
                have q70c_78 : h70c.1 63 10 = h60c.1 63 10 := g70c.1 63 10 (by decide)
                have zt := g70c.1 63 7 (by decide)
                have zu := (mm_or1 y60_0 (by omega)).1.2.1
                refine mm_iincL (ls2 := [mR 63, mI p1, mI (x12_2 + 1), mI s53_0]) C (mm_dec dk_X7_readSum 38 rfl) rfl (by decide) ⟨by omega, by omega⟩ rfl ?_
                refine mm_goto (tgt := 12) C (mm_dec dk_X7_readSum 39 rfl) (by decide) ?_
                refine mm_fgt 3 ?_
                exact ih12 (x12_2 + 1) ⟨by omega, by omega⟩ h70c i70c f70c (by first | exact (mm_or1 y2_0 (by omega)).1 | exact mm_p7_em (mm_p7_op w12_0 (by omega) zs (mm_or1 y60_0 (by omega)).1) (mm_em_fr g70c (by decide))) (by omega) (by first | exact (mm_or1 y2_0 (by omega)).2 | exact mm_nA_em (mm_or1 y60_0 (by omega)).2 (mm_em_fr g70c (by decide))) (by omega)
              · skip
                refine mm_iconst C (mm_dec dk_X7_readSum 33 rfl) ⟨by decide, by decide⟩ ?_
                exact mm_zret C T (mm_dec dk_X7_readSum 34 rfl) (by decide : 0 ≤ 0) (by decide : 0 ≤ 0) (by omega) ⟨_, rfl, ⟨⟨by omega, by omega⟩, i60c, f60c, by first | exact Or.inl ⟨rfl, w12_0, w79_0⟩ | exact Or.inr ⟨rfl, mm_or0 y2_0 (by omega)⟩ | exact Or.inr ⟨rfl, mm_g7_op w12_0 (by omega) zs (mm_or0 y60_0 (by omega))⟩⟩⟩
            refine mm_if_eq (tgt := 51) C (mm_dec dk_X7_readSum 22 rfl) (by decide) (fun c43 => ?_) (fun c43 => ?_)
            · skip
              refine mm_ldc (z := 100016) C (mm_dec dk_X7_readSum 25 rfl) kc_X7_120 (by decide) ?_
              exact J53 100016 ⟨by omega, by omega⟩ (Or.inr (⟨by omega, rfl⟩))
            · skip
              refine mm_ldc (z := 100015) C (mm_dec dk_X7_readSum 23 rfl) kc_X7_119 (by decide) ?_
              refine mm_goto (tgt := 53) C (mm_dec dk_X7_readSum 24 rfl) (by decide) ?_
              exact J53 100015 ⟨by omega, by omega⟩ (Or.inl ⟨by omega, rfl⟩)
          refine mm_if_ne (tgt := 37) C (mm_dec dk_X7_readSum 14 rfl) (by decide) (fun c25 => ?_) (fun c25 => ?_)
          · skip
            exact J37 (by have zz := mm_hdx tf12; omega)
          · skip
            refine mm_aload_n C (mm_dec dk_X7_readSum 15 rfl) rfl ?_
            refine mm_bipush C (mm_dec dk_X7_readSum 16 rfl) ⟨by decide, by decide⟩ ?_
            refine mm_cVi (rest := []) C1 ev_X7_96 (mm_dec dk_X7_readSum 17 rfl) (c_X7_isSign x.2.1 hl (d - 1) (by omega) h12_ i12_ 45 (by omega)) rfl rfl (Nat.le_of_ble_eq_true rfl) ⟨by decide, by decide⟩ rfl (fun r31 h31c hp31 => ?_) (fun _ _ q => q.elim)
            obtain ⟨z31, y31⟩ := hp31
            rw [z31]
            refine mm_if_eq (tgt := 79) C (mm_dec dk_X7_readSum 18 rfl) (by decide) (fun c34 => ?_) (fun c34 => ?_)
            · skip
              refine mm_fgt 0 ?_
              refine mm_fgt 1 ?_
              refine mm_fgt 2 ?_
              exact J79 (by (unfold mm_nB; have zz := mm_hdx tf12; have z := w12_2; unfold mm_nA at z; omega))
            · skip
              exact J37 (by have zz := mm_hdx tf12; omega)
    refine mm_istore_nL (ls2 := [mR 63, mI p1, mI 0, mU]) C (mm_dec dk_X7_readSum 7 rfl) (by decide) rfl ?_
    exact J12 (((500 - 0) : Int) + 1).toNat 0 ⟨by omega, by omega⟩ h2c i2c f2c (by first | exact (mm_or1 y2_0 (by omega)).1 | exact mm_p7_em (mm_p7_op w12_0 (by omega) zs (mm_or1 y60_0 (by omega)).1) (mm_em_fr g70c (by decide))) (by omega) (by first | exact (mm_or1 y2_0 (by omega)).2 | exact mm_nA_em (mm_or1 y60_0 (by omega)).2 (mm_em_fr g70c (by decide))) (by omega)
  · skip
    refine mm_iconst C (mm_dec dk_X7_readSum 4 rfl) ⟨by decide, by decide⟩ ?_
    exact mm_zret C T (mm_dec dk_X7_readSum 5 rfl) (by decide : 0 ≤ 0) (by decide : 0 ≤ 0) (by omega) ⟨_, rfl, ⟨⟨by omega, by omega⟩, i2c, f2c, by first | exact Or.inl ⟨rfl, w12_0, w79_0⟩ | exact Or.inr ⟨rfl, mm_or0 y2_0 (by omega)⟩ | exact Or.inr ⟨rfl, mm_g7_op w12_0 (by omega) zs (mm_or0 y60_0 (by omega))⟩⟩⟩
set_option maxRecDepth 100000 in
set_option maxHeartbeats 4000000 in
theorem c_X7_readTest_q3 (l : Launch) (hl : l.stackTraces = false) (d : Nat) (hd : 23 ≤ d) (h : mH) (i0 : mm_inv h) (p1 : Int) (bp1 : 3 ≤ p1 ∧ p1 ≤ 3) (t0 : mm_aX h) : mm_Met l d yX7_readTest cX7_readTest 3 (some .boolean) [mR 63, mI p1] h (mm_pi fun r h2 => (0 ≤ r ∧ r ≤ 1) ∧ mm_inv h2 ∧ mm_fr [(63, 4), (63, 5), (63, 6), (63, 7), (63, 8), (63, 9), (63, 10)] [64] h h2 ∧ ((r = 1 ∧ mm_q7 1 3 h h2 ∧ mm_nB h2) ∨ (r = 0 ∧ mm_f7 1 3 h h2))) mm_nx 0 0 := by
  refine mm_ofW (ls := [mR 63, mI p1, mU]) hl (by decide) rfl (Nat.le_of_ble_eq_true rfl) ?_
  intro x hxl C T hnm htb
  subst hxl
  have C1 := mm_OK_le (d' := d - 1 + 1) (by omega) C
  have C8 := mm_OK_le (d' := d - 8 + 8) (by omega) C
  refine mm_rng (fun hr _ => ?_)
  have ap1 : -2147483648 ≤ p1 ∧ p1 < 2147483648 := mm_ok_at hr (i := 1) rfl
  have f0 : mm_fr [(63, 4), (63, 5), (63, 6), (63, 7), (63, 8), (63, 9), (63, 10)] [64] h h := mm_fr_rf
  have g1 : -2147483648 ≤ h.1 63 5 ∧ h.1 63 5 ≤ 2147483647 := i0.1 63 5
  have g2 : 0 ≤ h.1 63 7 ∧ h.1 63 7 ≤ 500 := i0.1 63 7
  have g3 : 0 ≤ h.1 63 8 ∧ h.1 63 8 ≤ 500 := i0.1 63 8
  have g4 : 0 ≤ h.1 63 3 ∧ h.1 63 3 ≤ 500 := i0.1 63 3
  have g5 : -2147483648 ≤ h.1 63 6 ∧ h.1 63 6 ≤ 2147483647 := i0.1 63 6
  have g6 : -2147483648 ≤ h.1 63 9 ∧ h.1 63 9 ≤ 2147483647 := i0.1 63 9
  have g7 : -2147483648 ≤ h.1 63 10 ∧ h.1 63 10 ≤ 2147483647 := i0.1 63 10
  have tf := mm_cX_h i0 t0
  have tr := mm_cX_r i0 t0
  refine mm_aload_n C (mm_dec dk_X7_readTest 0 rfl) rfl ?_
  refine mm_iload_n C (mm_dec dk_X7_readTest 1 rfl) rfl ?_
  refine mm_cVi (rest := []) C1 ev_X7_111 (mm_dec dk_X7_readTest 2 rfl) (c_X7_readSum_q3 x.2.1 hl (d - 1) (by omega) h i0 p1 ⟨by omega, by omega⟩ (by exact t0)) rfl rfl (Nat.le_of_ble_eq_true rfl) ⟨by decide, by decide⟩ rfl (fun r2 h2c hp2 => ?_) (fun _ _ q => q.elim)
  obtain ⟨b2, i2c, g2c, y2_0⟩ := hp2
  have f2c : mm_fr [(63, 4), (63, 5), (63, 6), (63, 7), (63, 8), (63, 9), (63, 10)] [64] h h2c := mm_fr_tr f0 g2c (by decide +kernel)
  have q2c_9 : h2c.1 63 3 = h.1 63 3 := g2c.1 63 3 (by decide)
  have g10 : -2147483648 ≤ (h2c.1 63 5) ∧ (h2c.1 63 5) ≤ 2147483647 := i2c.1 63 5
  have g11 : 0 ≤ (h2c.1 63 7) ∧ (h2c.1 63 7) ≤ 500 := i2c.1 63 7
  have g12 : 0 ≤ (h2c.1 63 8) ∧ (h2c.1 63 8) ≤ 500 := i2c.1 63 8
  have g13 : -2147483648 ≤ (h2c.1 63 6) ∧ (h2c.1 63 6) ≤ 2147483647 := i2c.1 63 6
  have g14 : -2147483648 ≤ (h2c.1 63 9) ∧ (h2c.1 63 9) ≤ 2147483647 := i2c.1 63 9
  have g15 : -2147483648 ≤ (h2c.1 63 10) ∧ (h2c.1 63 10) ≤ 2147483647 := i2c.1 63 10
  refine mm_if_ne (tgt := 10) C (mm_dec dk_X7_readTest 3 rfl) (by decide) (fun c5 => ?_) (fun c5 => ?_)
  · skip
    have zp := mm_or1 y2_0 (by omega)
    have tg := mm_cX_h i2c zp.1.1.2.1
    have th := mm_cX_r i2c zp.1.1.2.1
    refine mm_aload_n C (mm_dec dk_X7_readTest 6 rfl) rfl ?_
    refine mm_bipush C (mm_dec dk_X7_readTest 7 rfl) ⟨by decide, by decide⟩ ?_
    refine mm_cVi (rest := []) C1 ev_X7_96 (mm_dec dk_X7_readTest 8 rfl) (c_X7_isSign x.2.1 hl (d - 1) (by omega) h2c i2c 60 (by omega)) rfl rfl (Nat.le_of_ble_eq_true rfl) ⟨by decide, by decide⟩ rfl (fun r13 h13c hp13 => ?_) (fun _ _ q => q.elim)
    obtain ⟨z13, y13⟩ := hp13
    rw [z13]
    have g17 : -2147483648 ≤ (h2c.2.1 62 (h2c.1 63 7)) ∧ (h2c.2.1 62 (h2c.1 63 7)) ≤ 2147483647 := i2c.2.1 62 (h2c.1 63 7)
    have J39 : ∀ (s39_0 : Int) (bs39_0 : -1 ≤ s39_0 ∧ s39_0 ≤ 100014) (w39_0 : ((s39_0 ≠ -1 ∧ (mm_cX h2c = 160 ∨ mm_cX h2c = 161)) ∨ (s39_0 = -1 ∧ mm_cX h2c ≠ 160 ∧ mm_cX h2c ≠ 161))) (vs39_0 : (r13 = 0 ∧ s39_0 = -1) ∨ (r13 ≠ 0 ∧ s39_0 = 100013) ∨ (r13 = 0 ∧ s39_0 = 100014)), mm_W x 0 0 39 [mR 63, mI p1, mU] [mI s39_0] h2c := by
      intro s39_0 bs39_0 w39_0 vs39_0
      refine mm_istore_nL (ls2 := [mR 63, mI p1, mI s39_0]) C (mm_dec dk_X7_readTest 19 rfl) (by decide) rfl ?_
      refine mm_iload_n C (mm_dec dk_X7_readTest 20 rfl) rfl ?_
      refine mm_iconst C (mm_dec dk_X7_readTest 21 rfl) ⟨by decide, by decide⟩ ?_
      have J64 : ∀ (h64_ : mH) (i64_ : mm_inv h64_) (f64_ : mm_fr [(63, 4), (63, 5), (63, 6), (63, 7), (63, 8), (63, 9), (63, 10)] [64] h h64_) (w64_0 : mm_q7 1 3 h h64_) (w64_1 : mm_nB h64_), mm_W x 0 0 64 [mU, mU, mU] [] h64_ := by
        intro h64_ i64_ f64_ w64_0 w64_1
        have g18 : -2147483648 ≤ h64_.1 63 5 ∧ h64_.1 63 5 ≤ 2147483647 := i64_.1 63 5
        have g19 : 0 ≤ h64_.1 63 7 ∧ h64_.1 63 7 ≤ 500 := i64_.1 63 7
        have g20 : 0 ≤ h64_.1 63 8 ∧ h64_.1 63 8 ≤ 500 := i64_.1 63 8
        have g21 : 0 ≤ h64_.1 63 3 ∧ h64_.1 63 3 ≤ 500 := i64_.1 63 3
        have g22 : -2147483648 ≤ h64_.1 63 6 ∧ h64_.1 63 6 ≤ 2147483647 := i64_.1 63 6
        have g23 : -2147483648 ≤ h64_.1 63 9 ∧ h64_.1 63 9 ≤ 2147483647 := i64_.1 63 9
        have g24 : -2147483648 ≤ h64_.1 63 10 ∧ h64_.1 63 10 ≤ 2147483647 := i64_.1 63 10
        have g25 : h64_.1 63 3 = h.1 63 3 := f64_.1 63 3 (by decide)
        refine mm_iconst C (mm_dec dk_X7_readTest 34 rfl) ⟨by decide, by decide⟩ ?_
        exact mm_zret C T (mm_dec dk_X7_readTest 35 rfl) (by decide : 0 ≤ 0) (by decide : 0 ≤ 0) (by omega) ⟨_, rfl, ⟨⟨by omega, by omega⟩, i64_, f64_, by first | exact Or.inl ⟨rfl, w64_0, w64_1⟩ | exact Or.inr ⟨rfl, mm_f7_sum (mm_or0 y2_0 (by omega))⟩ | exact Or.inr ⟨rfl, mm_f7_lt zp.1 (by omega) zs (mm_or0 y51_0 (by omega))⟩⟩⟩
      refine mm_icmp_eq (tgt := 64) C (mm_dec dk_X7_readTest 22 rfl) (by decide) (fun c42 => ?_) (fun c42 => ?_)
      · skip
        refine mm_fgt 0 ?_
        refine mm_fgt 1 ?_
        refine mm_fgt 2 ?_
        exact J64 h2c i2c f2c (by first | exact mm_q7_sum zp.1 (by omega) | exact mm_q7_em (mm_q7_lt zp.1 (by omega) zs (mm_or1 y51_0 (by omega)).1) (mm_em_fr g61c (by decide))) (by first | exact zp.2 | exact mm_nB_em (mm_or1 y51_0 (by omega)).2 (mm_em_fr g61c (by decide)))
      · skip
        refine mm_aload_n C (mm_dec dk_X7_readTest 23 rfl) rfl ?_
        refine mm_cVv (rest := []) C1 ev_X7_52 (mm_dec dk_X7_readTest 24 rfl) (c_X7_step_q x.2.1 hl (d - 1) (by omega) h2c i2c ) rfl rfl (Nat.le_of_ble_eq_true rfl) ⟨by decide, by decide⟩ rfl (fun h46c hp46 => ?_) (fun _ _ q => q.elim)
        obtain ⟨i46c, g46c, y46_0, y46_1, y46_2⟩ := hp46
        have f46c : mm_fr [(63, 4), (63, 5), (63, 6), (63, 7), (63, 8), (63, 9), (63, 10)] [64] h h46c := mm_fr_tr f2c g46c (by decide +kernel)
        have q46c_27 : h46c.1 63 3 = h2c.1 63 3 := g46c.1 63 3 (by decide)
        have q46c_28 : h46c.1 63 9 = h2c.1 63 9 := g46c.1 63 9 (by decide)
        have q46c_29 : h46c.1 63 10 = h2c.1 63 10 := g46c.1 63 10 (by decide)
        have g30 : -2147483648 ≤ (h46c.1 63 5) ∧ (h46c.1 63 5) ≤ 2147483647 := i46c.1 63 5
        have g31 : 0 ≤ (h46c.1 63 7) ∧ (h46c.1 63 7) ≤ 500 := i46c.1 63 7
        have g32 : 0 ≤ (h46c.1 63 8) ∧ (h46c.1 63 8) ≤ 500 := i46c.1 63 8
        have g33 : -2147483648 ≤ (h46c.1 63 6) ∧ (h46c.1 63 6) ≤ 2147483647 := i46c.1 63 6
        have zs := mm_st7_of zp.1.1.2.1 y46_1 y46_2 g46c (by decide)
        refine mm_aload_n C (mm_dec dk_X7_readTest 25 rfl) rfl ?_
        refine mm_iload_n C (mm_dec dk_X7_readTest 26 rfl) rfl ?_
        refine mm_cVi (rest := []) C1 ev_X7_111 (mm_dec dk_X7_readTest 27 rfl) (c_X7_readSum_q3 x.2.1 hl (d - 1) (by omega) h46c i46c p1 ⟨by omega, by omega⟩ (by exact y46_1)) rfl rfl (Nat.le_of_ble_eq_true rfl) ⟨by decide, by decide⟩ rfl (fun r51 h51c hp51 => ?_) (fun _ _ q => q.elim)
        obtain ⟨b51, i51c, g51c, y51_0⟩ := hp51
        have f51c : mm_fr [(63, 4), (63, 5), (63, 6), (63, 7), (63, 8), (63, 9), (63, 10)] [64] h h51c := mm_fr_tr f46c g51c (by decide +kernel)
        have q51c_35 : h51c.1 63 3 = h46c.1 63 3 := g51c.1 63 3 (by decide)
        have g36 : -2147483648 ≤ (h51c.1 63 5) ∧ (h51c.1 63 5) ≤ 2147483647 := i51c.1 63 5
        have g37 : 0 ≤ (h51c.1 63 7) ∧ (h51c.1 63 7) ≤ 500 := i51c.1 63 7
        have g38 : 0 ≤ (h51c.1 63 8) ∧ (h51c.1 63 8) ≤ 500 := i51c.1 63 8
        have g39 : -2147483648 ≤ (h51c.1 63 6) ∧ (h51c.1 63 6) ≤ 2147483647 := i51c.1 63 6
        have g40 : -2147483648 ≤ (h51c.1 63 9) ∧ (h51c.1 63 9) ≤ 2147483647 := i51c.1 63 9
        have g41 : -2147483648 ≤ (h51c.1 63 10) ∧ (h51c.1 63 10) ≤ 2147483647 := i51c.1 63 10
        refine mm_if_ne (tgt := 59) C (mm_dec dk_X7_readTest 28 rfl) (by decide) (fun c54 => ?_) (fun c54 => ?_)
        · skip
          refine mm_aload_n C (mm_dec dk_X7_readTest 31 rfl) rfl ?_
          refine mm_iload_n C (mm_dec dk_X7_readTest 32 rfl) rfl ?_
          refine mm_cVv (rest := []) C1 ev_X7_79 (mm_dec dk_X7_readTest 33 rfl) (c_X7_emit x.2.1 hl (d - 1) (by omega) h51c i51c s39_0) rfl rfl (Nat.le_of_ble_eq_true rfl) ⟨by decide, by decide⟩ rfl (fun h61c hp61 => ?_) (fun _ _ q => q.elim)
          obtain ⟨i61c, g61c⟩ := hp61
          have f61c : mm_fr [(63, 4), (63, 5), (63, 6), (63, 7), (63, 8), (63, 9), (63, 10)] [64] h h61c := mm_fr_tr f51c g61c (by decide +kernel)
          have q61c_43 : h61c.1 63 3 = h51c.1 63 3 := g61c.1 63 3 (by decide)
          have q61c_44 : h61c.1 63 5 = h51c.1 63 5 := g61c.1 63 5 (by decide)
          have q61c_45 : h61c.1 63 6 = h51c.1 63 6 := g61c.1 63 6 (by decide)
          have q61c_46 : h61c.1 63 7 = h51c.1 63 7 := g61c.1 63 7 (by decide)
          have q61c_47 : h61c.1 63 8 = h51c.1 63 8 := g61c.1 63 8 (by decide)
          have q61c_48 : h61c.1 63 9 = h51c.1 63 9 := g61c.1 63 9 (by decide)
          have q61c_49 : h61c.1 63 10 = h51c.1 63 10 := g61c.1 63 10 (by decide)
          refine mm_fgt 0 ?_
          refine mm_fgt 1 ?_
          refine mm_fgt 2 ?_
          exact J64 h61c i61c f61c (by first | exact mm_q7_sum zp.1 (by omega) | exact mm_q7_em (mm_q7_lt zp.1 (by omega) zs (mm_or1 y51_0 (by omega)).1) (mm_em_fr g61c (by decide))) (by first | exact zp.2 | exact mm_nB_em (mm_or1 y51_0 (by omega)).2 (mm_em_fr g61c (by decide)))
        · skip
          refine mm_iconst C (mm_dec dk_X7_readTest 29 rfl) ⟨by decide, by decide⟩ ?_
          exact mm_zret C T (mm_dec dk_X7_readTest 30 rfl) (by decide : 0 ≤ 0) (by decide : 0 ≤ 0) (by omega) ⟨_, rfl, ⟨⟨by omega, by omega⟩, i51c, f51c, by first | exact Or.inl ⟨rfl, w64_0, w64_1⟩ | exact Or.inr ⟨rfl, mm_f7_sum (mm_or0 y2_0 (by omega))⟩ | exact Or.inr ⟨rfl, mm_f7_lt zp.1 (by omega) zs (mm_or0 y51_0 (by omega))⟩⟩⟩
    refine mm_if_eq (tgt := 24) C (mm_dec dk_X7_readTest 9 rfl) (by decide) (fun c16 => ?_) (fun c16 => ?_)
    · skip
      refine mm_aload_n C (mm_dec dk_X7_readTest 12 rfl) rfl ?_
      refine mm_bipush C (mm_dec dk_X7_readTest 13 rfl) ⟨by decide, by decide⟩ ?_
      refine mm_cVi (rest := []) C1 ev_X7_96 (mm_dec dk_X7_readTest 14 rfl) (c_X7_isSign x.2.1 hl (d - 1) (by omega) h2c i2c 61 (by omega)) rfl rfl (Nat.le_of_ble_eq_true rfl) ⟨by decide, by decide⟩ rfl (fun r27 h27c hp27 => ?_) (fun _ _ q => q.elim)
      obtain ⟨z27, y27⟩ := hp27
      rw [z27]
      refine mm_if_eq (tgt := 38) C (mm_dec dk_X7_readTest 15 rfl) (by decide) (fun c30 => ?_) (fun c30 => ?_)
      · skip
        refine mm_iconst C (mm_dec dk_X7_readTest 18 rfl) ⟨by decide, by decide⟩ ?_
        exact J39 (-1) ⟨by omega, by omega⟩ (by have zz := mm_hdx tg; omega) (Or.inl ⟨by omega, rfl⟩)
      · skip
        refine mm_ldc (z := 100014) C (mm_dec dk_X7_readTest 16 rfl) kc_X7_115 (by decide) ?_
        refine mm_goto (tgt := 39) C (mm_dec dk_X7_readTest 17 rfl) (by decide) ?_
        exact J39 100014 ⟨by omega, by omega⟩ (by have zz := mm_hdx tg; omega) (Or.inr (Or.inr (⟨by omega, rfl⟩)))
    · skip
      refine mm_ldc (z := 100013) C (mm_dec dk_X7_readTest 10 rfl) kc_X7_114 (by decide) ?_
      refine mm_goto (tgt := 39) C (mm_dec dk_X7_readTest 11 rfl) (by decide) ?_
      exact J39 100013 ⟨by omega, by omega⟩ (by have zz := mm_hdx tg; omega) (Or.inr (Or.inl ⟨by omega, rfl⟩))
  · skip
    refine mm_iconst C (mm_dec dk_X7_readTest 4 rfl) ⟨by decide, by decide⟩ ?_
    exact mm_zret C T (mm_dec dk_X7_readTest 5 rfl) (by decide : 0 ≤ 0) (by decide : 0 ≤ 0) (by omega) ⟨_, rfl, ⟨⟨by omega, by omega⟩, i2c, f2c, by first | exact Or.inl ⟨rfl, w64_0, w64_1⟩ | exact Or.inr ⟨rfl, mm_f7_sum (mm_or0 y2_0 (by omega))⟩ | exact Or.inr ⟨rfl, mm_f7_lt zp.1 (by omega) zs (mm_or0 y51_0 (by omega))⟩⟩⟩
set_option maxRecDepth 100000 in
set_option maxHeartbeats 4000000 in
theorem c_X7_readNot_q3 (l : Launch) (hl : l.stackTraces = false) (d : Nat) (hd : 24 ≤ d) (h : mH) (i0 : mm_inv h) (p1 : Int) (bp1 : 3 ≤ p1 ∧ p1 ≤ 3) (t0 : mm_aX h) : mm_Met l d yX7_readNot cX7_readNot 4 (some .boolean) [mR 63, mI p1] h (mm_pi fun r h2 => (0 ≤ r ∧ r ≤ 1) ∧ mm_inv h2 ∧ mm_fr [(63, 4), (63, 5), (63, 6), (63, 7), (63, 8), (63, 9), (63, 10)] [64] h h2 ∧ ((r = 1 ∧ mm_q7 0 3 h h2 ∧ mm_nB h2) ∨ (r = 0 ∧ mm_f7 0 3 h h2))) mm_nx 0 0 := by
  refine mm_ofW (ls := [mR 63, mI p1, mU, mU]) hl (by decide) rfl (Nat.le_of_ble_eq_true rfl) ?_
  intro x hxl C T hnm htb
  subst hxl
  have C1 := mm_OK_le (d' := d - 1 + 1) (by omega) C
  have C8 := mm_OK_le (d' := d - 8 + 8) (by omega) C
  refine mm_rng (fun hr _ => ?_)
  have ap1 : -2147483648 ≤ p1 ∧ p1 < 2147483648 := mm_ok_at hr (i := 1) rfl
  have f0 : mm_fr [(63, 4), (63, 5), (63, 6), (63, 7), (63, 8), (63, 9), (63, 10)] [64] h h := mm_fr_rf
  have g1 : -2147483648 ≤ h.1 63 5 ∧ h.1 63 5 ≤ 2147483647 := i0.1 63 5
  have g2 : 0 ≤ h.1 63 7 ∧ h.1 63 7 ≤ 500 := i0.1 63 7
  have g3 : 0 ≤ h.1 63 8 ∧ h.1 63 8 ≤ 500 := i0.1 63 8
  have g4 : 0 ≤ h.1 63 3 ∧ h.1 63 3 ≤ 500 := i0.1 63 3
  have g5 : -2147483648 ≤ h.1 63 6 ∧ h.1 63 6 ≤ 2147483647 := i0.1 63 6
  have g6 : -2147483648 ≤ h.1 63 9 ∧ h.1 63 9 ≤ 2147483647 := i0.1 63 9
  have g7 : -2147483648 ≤ h.1 63 10 ∧ h.1 63 10 ≤ 2147483647 := i0.1 63 10
  refine mm_iconst C (mm_dec dk_X7_readNot 0 rfl) ⟨by decide, by decide⟩ ?_
  have J2 : ∀ (n : Nat) (x2_2 : Int) (bx2_2 : 0 ≤ x2_2 ∧ x2_2 ≤ 6) (h2_ : mH) (i2_ : mm_inv h2_) (f2_ : mm_fr [(63, 4), (63, 5), (63, 6), (63, 7), (63, 8), (63, 9), (63, 10)] [64] h h2_) (w2_0 : mm_n7 3 x2_2 h h2_), (6 - x2_2 : Int) < n → mm_W x 0 0 2 [mR 63, mI p1, mI x2_2, mU] [] h2_ := by
    intro n
    induction n with
    | zero =>
      intro x2_2 bx2_2 h2_ i2_ f2_ w2_0 hm
      have g8 : -2147483648 ≤ h2_.1 63 5 ∧ h2_.1 63 5 ≤ 2147483647 := i2_.1 63 5
      have g9 : 0 ≤ h2_.1 63 7 ∧ h2_.1 63 7 ≤ 500 := i2_.1 63 7
      have g10 : 0 ≤ h2_.1 63 8 ∧ h2_.1 63 8 ≤ 500 := i2_.1 63 8
      have g11 : 0 ≤ h2_.1 63 3 ∧ h2_.1 63 3 ≤ 500 := i2_.1 63 3
      have g12 : -2147483648 ≤ h2_.1 63 6 ∧ h2_.1 63 6 ≤ 2147483647 := i2_.1 63 6
      have g13 : -2147483648 ≤ h2_.1 63 9 ∧ h2_.1 63 9 ≤ 2147483647 := i2_.1 63 9
      have g14 : -2147483648 ≤ h2_.1 63 10 ∧ h2_.1 63 10 ≤ 2147483647 := i2_.1 63 10
      exfalso; omega
    | succ n ih2 =>
      intro x2_2 bx2_2 h2_ i2_ f2_ w2_0 hm2
      have g15 : -2147483648 ≤ h2_.1 63 5 ∧ h2_.1 63 5 ≤ 2147483647 := i2_.1 63 5
      have g16 : 0 ≤ h2_.1 63 7 ∧ h2_.1 63 7 ≤ 500 := i2_.1 63 7
      have g17 : 0 ≤ h2_.1 63 8 ∧ h2_.1 63 8 ≤ 500 := i2_.1 63 8
      have g18 : 0 ≤ h2_.1 63 3 ∧ h2_.1 63 3 ≤ 500 := i2_.1 63 3
      have g19 : -2147483648 ≤ h2_.1 63 6 ∧ h2_.1 63 6 ≤ 2147483647 := i2_.1 63 6
      have g20 : -2147483648 ≤ h2_.1 63 9 ∧ h2_.1 63 9 ≤ 2147483647 := i2_.1 63 9
      have g21 : -2147483648 ≤ h2_.1 63 10 ∧ h2_.1 63 10 ≤ 2147483647 := i2_.1 63 10
      have g22 : h2_.1 63 3 = h.1 63 3 := f2_.1 63 3 (by decide)
      have tf2 := mm_cX_h i2_ w2_0.1.2.1
      have tr2 := mm_cX_r i2_ w2_0.1.2.1
      refine mm_iload_n C (mm_dec dk_X7_readNot 2 rfl) rfl ?_
      refine mm_bipush C (mm_dec dk_X7_readNot 3 rfl) ⟨by decide, by decide⟩ ?_
      have J27 : ∀ (w27_0 : (6 ≤ x2_2 ∨ mm_cX h2_ ≠ 6)), mm_W x 0 0 27 [mR 63, mI p1, mI x2_2, mU] [] h2_ := by
        intro w27_0
        have g23 : -2147483648 ≤ h2_.1 63 5 ∧ h2_.1 63 5 ≤ 2147483647 := i2_.1 63 5
        have g24 : 0 ≤ h2_.1 63 7 ∧ h2_.1 63 7 ≤ 500 := i2_.1 63 7
        have g25 : 0 ≤ h2_.1 63 8 ∧ h2_.1 63 8 ≤ 500 := i2_.1 63 8
        have g26 : 0 ≤ h2_.1 63 3 ∧ h2_.1 63 3 ≤ 500 := i2_.1 63 3
        have g27 : -2147483648 ≤ h2_.1 63 6 ∧ h2_.1 63 6 ≤ 2147483647 := i2_.1 63 6
        have g28 : -2147483648 ≤ h2_.1 63 9 ∧ h2_.1 63 9 ≤ 2147483647 := i2_.1 63 9
        have g29 : -2147483648 ≤ h2_.1 63 10 ∧ h2_.1 63 10 ≤ 2147483647 := i2_.1 63 10
        refine mm_iload_n C (mm_dec dk_X7_readNot 13 rfl) rfl ?_
        refine mm_bipush C (mm_dec dk_X7_readNot 14 rfl) ⟨by decide, by decide⟩ ?_
        have J48 : ∀ (w48_0 : mm_cX h2_ ≠ 6), mm_W x 0 0 48 [mR 63, mI p1, mI x2_2, mU] [] h2_ := by
          intro w48_0
          have g30 : -2147483648 ≤ h2_.1 63 5 ∧ h2_.1 63 5 ≤ 2147483647 := i2_.1 63 5
          have g31 : 0 ≤ h2_.1 63 7 ∧ h2_.1 63 7 ≤ 500 := i2_.1 63 7
          have g32 : 0 ≤ h2_.1 63 8 ∧ h2_.1 63 8 ≤ 500 := i2_.1 63 8
          have g33 : 0 ≤ h2_.1 63 3 ∧ h2_.1 63 3 ≤ 500 := i2_.1 63 3
          have g34 : -2147483648 ≤ h2_.1 63 6 ∧ h2_.1 63 6 ≤ 2147483647 := i2_.1 63 6
          have g35 : -2147483648 ≤ h2_.1 63 9 ∧ h2_.1 63 9 ≤ 2147483647 := i2_.1 63 9
          have g36 : -2147483648 ≤ h2_.1 63 10 ∧ h2_.1 63 10 ≤ 2147483647 := i2_.1 63 10
          refine mm_aload_n C (mm_dec dk_X7_readNot 24 rfl) rfl ?_
          refine mm_iload_n C (mm_dec dk_X7_readNot 25 rfl) rfl ?_
          refine mm_cVi (rest := []) C1 ev_X7_107 (mm_dec dk_X7_readNot 26 rfl) (c_X7_readTest_q3 x.2.1 hl (d - 1) (by omega) h2_ i2_ p1 ⟨by omega, by omega⟩ (by exact w2_0.1.2.1)) rfl rfl (Nat.le_of_ble_eq_true rfl) ⟨by decide, by decide⟩ rfl (fun r50 h50c hp50 => ?_) (fun _ _ q => q.elim)
          obtain ⟨b50, i50c, g50c, y50_0⟩ := hp50
          have f50c : mm_fr [(63, 4), (63, 5), (63, 6), (63, 7), (63, 8), (63, 9), (63, 10)] [64] h h50c := mm_fr_tr f2_ g50c (by decide +kernel)
          have q50c_38 : h50c.1 63 3 = h2_.1 63 3 := g50c.1 63 3 (by decide)
          have g39 : -2147483648 ≤ (h50c.1 63 5) ∧ (h50c.1 63 5) ≤ 2147483647 := i50c.1 63 5
          have g40 : 0 ≤ (h50c.1 63 7) ∧ (h50c.1 63 7) ≤ 500 := i50c.1 63 7
          have g41 : 0 ≤ (h50c.1 63 8) ∧ (h50c.1 63 8) ≤ 500 := i50c.1 63 8
          have g42 : -2147483648 ≤ (h50c.1 63 6) ∧ (h50c.1 63 6) ≤ 2147483647 := i50c.1 63 6
          have g43 : -2147483648 ≤ (h50c.1 63 9) ∧ (h50c.1 63 9) ≤ 2147483647 := i50c.1 63 9
          have g44 : -2147483648 ≤ (h50c.1 63 10) ∧ (h50c.1 63 10) ≤ 2147483647 := i50c.1 63 10
          refine mm_if_ne (tgt := 58) C (mm_dec dk_X7_readNot 27 rfl) (by decide) (fun c53 => ?_) (fun c53 => ?_)
          · skip
            refine mm_iconst C (mm_dec dk_X7_readNot 30 rfl) ⟨by decide, by decide⟩ ?_
            have J60 : ∀ (n : Nat) (x60_3 : Int) (bx60_3 : 0 ≤ x60_3 ∧ x60_3 ≤ 7) (h60_ : mH) (i60_ : mm_inv h60_) (f60_ : mm_fr [(63, 4), (63, 5), (63, 6), (63, 7), (63, 8), (63, 9), (63, 10)] [64] h h60_) (w60_0 : mm_q7 0 3 h h60_) (w60_1 : mm_nB h60_), (7 - x60_3 : Int) < n → mm_W x 0 0 60 [mR 63, mU, mI x2_2, mI x60_3] [] h60_ := by
              intro n
              induction n with
              | zero =>
                intro x60_3 bx60_3 h60_ i60_ f60_ w60_0 w60_1 hm
                have g45 : -2147483648 ≤ h60_.1 63 5 ∧ h60_.1 63 5 ≤ 2147483647 := i60_.1 63 5
                have g46 : 0 ≤ h60_.1 63 7 ∧ h60_.1 63 7 ≤ 500 := i60_.1 63 7
                have g47 : 0 ≤ h60_.1 63 8 ∧ h60_.1 63 8 ≤ 500 := i60_.1 63 8
                have g48 : 0 ≤ h60_.1 63 3 ∧ h60_.1 63 3 ≤ 500 := i60_.1 63 3
                have g49 : -2147483648 ≤ h60_.1 63 6 ∧ h60_.1 63 6 ≤ 2147483647 := i60_.1 63 6
                have g50 : -2147483648 ≤ h60_.1 63 9 ∧ h60_.1 63 9 ≤ 2147483647 := i60_.1 63 9
                have g51 : -2147483648 ≤ h60_.1 63 10 ∧ h60_.1 63 10 ≤ 2147483647 := i60_.1 63 10
                exfalso; omega
              | succ n ih60 =>
                intro x60_3 bx60_3 h60_ i60_ f60_ w60_0 w60_1 hm60
                have g52 : -2147483648 ≤ h60_.1 63 5 ∧ h60_.1 63 5 ≤ 2147483647 := i60_.1 63 5
                have g53 : 0 ≤ h60_.1 63 7 ∧ h60_.1 63 7 ≤ 500 := i60_.1 63 7
                have g54 : 0 ≤ h60_.1 63 8 ∧ h60_.1 63 8 ≤ 500 := i60_.1 63 8
                have g55 : 0 ≤ h60_.1 63 3 ∧ h60_.1 63 3 ≤ 500 := i60_.1 63 3
                have g56 : -2147483648 ≤ h60_.1 63 6 ∧ h60_.1 63 6 ≤ 2147483647 := i60_.1 63 6
                have g57 : -2147483648 ≤ h60_.1 63 9 ∧ h60_.1 63 9 ≤ 2147483647 := i60_.1 63 9
                have g58 : -2147483648 ≤ h60_.1 63 10 ∧ h60_.1 63 10 ≤ 2147483647 := i60_.1 63 10
                have g59 : h60_.1 63 3 = h.1 63 3 := f60_.1 63 3 (by decide)
                refine mm_iload_n C (mm_dec dk_X7_readNot 32 rfl) rfl ?_
                refine mm_iload_n C (mm_dec dk_X7_readNot 33 rfl) rfl ?_
                refine mm_icmp_ge (tgt := 77) C (mm_dec dk_X7_readNot 34 rfl) (by decide) (fun c62 => ?_) (fun c62 => ?_)
                · skip
                  refine mm_iconst C (mm_dec dk_X7_readNot 40 rfl) ⟨by decide, by decide⟩ ?_
                  exact mm_zret C T (mm_dec dk_X7_readNot 41 rfl) (by decide : 0 ≤ 0) (by decide : 0 ≤ 0) (by omega) ⟨_, rfl, ⟨⟨by omega, by omega⟩, i60_, f60_, by first | exact Or.inl ⟨rfl, w60_0, w60_1⟩ | exact Or.inr ⟨rfl, mm_f7_not w2_0 w48_0 (mm_or0 y50_0 (by omega))⟩ | exact Or.inr ⟨by omega, mm_f7_nots (by rw [show (6 : Int) = x2_2 by omega]; exact w2_0) (by have zz := mm_hdx tf2; omega) y44_0 y44_1⟩⟩⟩
                · skip
                  refine mm_aload_n C (mm_dec dk_X7_readNot 35 rfl) rfl ?_
                  refine mm_ldc (z := 100010) C (mm_dec dk_X7_readNot 36 rfl) kc_X7_110 (by decide) ?_
                  refine mm_cVv (rest := []) C1 ev_X7_79 (mm_dec dk_X7_readNot 37 rfl) (c_X7_emit x.2.1 hl (d - 1) (by omega) h60_ i60_ 100010) rfl rfl (Nat.le_of_ble_eq_true rfl) ⟨by decide, by decide⟩ rfl (fun h68c hp68 => ?_) (fun _ _ q => q.elim)
                  obtain ⟨i68c, g68c⟩ := hp68
                  have f68c : mm_fr [(63, 4), (63, 5), (63, 6), (63, 7), (63, 8), (63, 9), (63, 10)] [64] h h68c := mm_fr_tr f60_ g68c (by decide +kernel)
                  have q68c_61 : h68c.1 63 3 = h60_.1 63 3 := g68c.1 63 3 (by decide)
                  have q68c_62 : h68c.1 63 5 = h60_.1 63 5 := g68c.1 63 5 (by decide)
                  have q68c_63 : h68c.1 63 6 = h60_.1 63 6 := g68c.1 63 6 (by decide)
                  have q68c_64 : h68c.1 63 7 = h60_.1 63 7 := g68c.1 63 7 (by decide)
                  have q68c_65 : h68c.1 63 8 = h60_.1 63 8 := g68c.1 63 8 (by decide)
                  have q68c_66 : h68c.1 63 9 = h60_.1 63 9 := g68c.1 63 9 (by decide)
                  have q68c_67 : h68c.1 63 10 = h60_.1 63 10 := g68c.1 63 10 (by decide)
                  refine mm_iincL (ls2 := [mR 63, mU, mI x2_2, mI (x60_3 + 1)]) C (mm_dec dk_X7_readNot 38 rfl) rfl (by decide) ⟨by omega, by omega⟩ rfl ?_
                  refine mm_goto (tgt := 60) C (mm_dec dk_X7_readNot 39 rfl) (by decide) ?_
                  exact ih60 (x60_3 + 1) ⟨by omega, by omega⟩ h68c i68c f68c (by first | exact mm_q7_not w2_0 w48_0 (mm_or1 y50_0 (by omega)).1 | exact mm_q7_em w60_0 (mm_em_fr g68c (by decide))) (by first | exact (mm_or1 y50_0 (by omega)).2 | exact mm_nB_em w60_1 (mm_em_fr g68c (by decide))) (by omega)
            refine mm_istore_nL (ls2 := [mR 63, mI p1, mI x2_2, mI 0]) C (mm_dec dk_X7_readNot 31 rfl) (by decide) rfl ?_
            refine mm_fgt 1 ?_
            exact J60 (((7 - 0) : Int) + 1).toNat 0 ⟨by omega, by omega⟩ h50c i50c f50c (by first | exact mm_q7_not w2_0 w48_0 (mm_or1 y50_0 (by omega)).1 | exact mm_q7_em w60_0 (mm_em_fr g68c (by decide))) (by first | exact (mm_or1 y50_0 (by omega)).2 | exact mm_nB_em w60_1 (mm_em_fr g68c (by decide))) (by omega)
          · skip
            refine mm_iconst C (mm_dec dk_X7_readNot 28 rfl) ⟨by decide, by decide⟩ ?_
            exact mm_zret C T (mm_dec dk_X7_readNot 29 rfl) (by decide : 0 ≤ 0) (by decide : 0 ≤ 0) (by omega) ⟨_, rfl, ⟨⟨by omega, by omega⟩, i50c, f50c, by first | exact Or.inl ⟨rfl, w60_0, w60_1⟩ | exact Or.inr ⟨rfl, mm_f7_not w2_0 w48_0 (mm_or0 y50_0 (by omega))⟩ | exact Or.inr ⟨by omega, mm_f7_nots (by rw [show (6 : Int) = x2_2 by omega]; exact w2_0) (by have zz := mm_hdx tf2; omega) y44_0 y44_1⟩⟩⟩
        refine mm_icmp_ne (tgt := 48) C (mm_dec dk_X7_readNot 15 rfl) (by decide) (fun c30 => ?_) (fun c30 => ?_)
        · skip
          exact J48 (by have zz := mm_hdx tf2; omega)
        · skip
          refine mm_aload_n C (mm_dec dk_X7_readNot 16 rfl) rfl ?_
          refine mm_geti C fl_X7_28 (mm_dec dk_X7_readNot 17 rfl) rfl rfl (Or.inl rfl) ?_
          refine mm_bipush C (mm_dec dk_X7_readNot 18 rfl) ⟨by decide, by decide⟩ ?_
          refine mm_icmp_ne (tgt := 48) C (mm_dec dk_X7_readNot 19 rfl) (by decide) (fun c39 => ?_) (fun c39 => ?_)
          · skip
            exact J48 (by have zz := mm_hdx tf2; omega)
          · skip
            refine mm_aload_n C (mm_dec dk_X7_readNot 20 rfl) rfl ?_
            refine mm_iconst C (mm_dec dk_X7_readNot 21 rfl) ⟨by decide, by decide⟩ ?_
            refine mm_cVi (rest := []) C1 ev_X7_65 (mm_dec dk_X7_readNot 22 rfl) (c_X7_refuse_q x.2.1 hl (d - 1) (by omega) h2_ i2_ 2) rfl rfl (Nat.le_of_ble_eq_true rfl) ⟨by decide, by decide⟩ rfl (fun r44 h44c hp44 => ?_) (fun _ _ q => q.elim)
            obtain ⟨b44, i44c, g44c, y44_0, y44_1⟩ := hp44
            have f44c : mm_fr [(63, 4), (63, 5), (63, 6), (63, 7), (63, 8), (63, 9), (63, 10)] [64] h h44c := mm_fr_tr f2_ g44c (by decide +kernel)
            have q44c_69 : h44c.1 63 3 = h2_.1 63 3 := g44c.1 63 3 (by decide)
            have q44c_70 : h44c.1 63 5 = h2_.1 63 5 := g44c.1 63 5 (by decide)
            have q44c_71 : h44c.1 63 6 = h2_.1 63 6 := g44c.1 63 6 (by decide)
            have q44c_72 : h44c.1 63 7 = h2_.1 63 7 := g44c.1 63 7 (by decide)
            have q44c_73 : h44c.1 63 8 = h2_.1 63 8 := g44c.1 63 8 (by decide)
            have g74 : -2147483648 ≤ (h44c.1 63 9) ∧ (h44c.1 63 9) ≤ 2147483647 := i44c.1 63 9
            have g75 : -2147483648 ≤ (h44c.1 63 10) ∧ (h44c.1 63 10) ≤ 2147483647 := i44c.1 63 10
            exact mm_zret C T (mm_dec dk_X7_readNot 23 rfl) (by decide : 0 ≤ 0) (by decide : 0 ≤ 0) (by omega) ⟨_, rfl, ⟨⟨by omega, by omega⟩, i44c, f44c, by first | exact Or.inl ⟨rfl, w60_0, w60_1⟩ | exact Or.inr ⟨rfl, mm_f7_not w2_0 w48_0 (mm_or0 y50_0 (by omega))⟩ | exact Or.inr ⟨by omega, mm_f7_nots (by rw [show (6 : Int) = x2_2 by omega]; exact w2_0) (by have zz := mm_hdx tf2; omega) y44_0 y44_1⟩⟩⟩
      refine mm_icmp_ge (tgt := 27) C (mm_dec dk_X7_readNot 4 rfl) (by decide) (fun c5 => ?_) (fun c5 => ?_)
      · skip
        exact J27 (by have zz := mm_hdx tf2; omega)
      · skip
        refine mm_aload_n C (mm_dec dk_X7_readNot 5 rfl) rfl ?_
        refine mm_geti C fl_X7_28 (mm_dec dk_X7_readNot 6 rfl) rfl rfl (Or.inl rfl) ?_
        refine mm_bipush C (mm_dec dk_X7_readNot 7 rfl) ⟨by decide, by decide⟩ ?_
        refine mm_icmp_ne (tgt := 27) C (mm_dec dk_X7_readNot 8 rfl) (by decide) (fun c14 => ?_) (fun c14 => ?_)
        · skip
          exact J27 (by have zz := mm_hdx tf2; omega)
        · skip
          refine mm_iincL (ls2 := [mR 63, mI p1, mI (x2_2 + 1), mU]) C (mm_dec dk_X7_readNot 9 rfl) rfl (by decide) ⟨by omega, by omega⟩ rfl ?_
          refine mm_aload_n C (mm_dec dk_X7_readNot 10 rfl) rfl ?_
          refine mm_cVv (rest := []) C1 ev_X7_52 (mm_dec dk_X7_readNot 11 rfl) (c_X7_step_q x.2.1 hl (d - 1) (by omega) h2_ i2_ ) rfl rfl (Nat.le_of_ble_eq_true rfl) ⟨by decide, by decide⟩ rfl (fun h21c hp21 => ?_) (fun _ _ q => q.elim)
          obtain ⟨i21c, g21c, y21_0, y21_1, y21_2⟩ := hp21
          have f21c : mm_fr [(63, 4), (63, 5), (63, 6), (63, 7), (63, 8), (63, 9), (63, 10)] [64] h h21c := mm_fr_tr f2_ g21c (by decide +kernel)
          have q21c_77 : h21c.1 63 3 = h2_.1 63 3 := g21c.1 63 3 (by decide)
          have q21c_78 : h21c.1 63 9 = h2_.1 63 9 := g21c.1 63 9 (by decide)
          have q21c_79 : h21c.1 63 10 = h2_.1 63 10 := g21c.1 63 10 (by decide)
          have g80 : -2147483648 ≤ (h21c.1 63 5) ∧ (h21c.1 63 5) ≤ 2147483647 := i21c.1 63 5
          have g81 : 0 ≤ (h21c.1 63 7) ∧ (h21c.1 63 7) ≤ 500 := i21c.1 63 7
          have g82 : 0 ≤ (h21c.1 63 8) ∧ (h21c.1 63 8) ≤ 500 := i21c.1 63 8
          have g83 : -2147483648 ≤ (h21c.1 63 6) ∧ (h21c.1 63 6) ≤ 2147483647 := i21c.1 63 6
          refine mm_goto (tgt := 2) C (mm_dec dk_X7_readNot 12 rfl) (by decide) ?_
          exact ih2 (x2_2 + 1) ⟨by omega, by omega⟩ h21c i21c f21c (by first | exact mm_n7_0 t0 | exact mm_n7_s w2_0 (by have zz := mm_hdx tf2; omega) (by omega) (mm_st7_of w2_0.1.2.1 y21_1 y21_2 g21c (by decide))) (by omega)
  refine mm_istore_nL (ls2 := [mR 63, mI p1, mI 0, mU]) C (mm_dec dk_X7_readNot 1 rfl) (by decide) rfl ?_
  exact J2 (((6 - 0) : Int) + 1).toNat 0 ⟨by omega, by omega⟩ h i0 f0 (by first | exact mm_n7_0 t0 | exact mm_n7_s w2_0 (by have zz := mm_hdx tf2; omega) (by omega) (mm_st7_of w2_0.1.2.1 y21_1 y21_2 g21c (by decide))) (by omega)
set_option maxRecDepth 100000 in
set_option maxHeartbeats 4000000 in
theorem c_X7_readAnd_q3 (l : Launch) (hl : l.stackTraces = false) (d : Nat) (hd : 25 ≤ d) (h : mH) (i0 : mm_inv h) (p1 : Int) (bp1 : 3 ≤ p1 ∧ p1 ≤ 3) (t0 : mm_aX h) : mm_Met l d yX7_readAnd cX7_readAnd 3 (some .boolean) [mR 63, mI p1] h (mm_pi fun r h2 => (0 ≤ r ∧ r ≤ 1) ∧ mm_inv h2 ∧ mm_fr [(63, 4), (63, 5), (63, 6), (63, 7), (63, 8), (63, 9), (63, 10)] [64] h h2 ∧ ((r = 1 ∧ mm_q7 0 3 h h2 ∧ mm_nC h2) ∨ (r = 0 ∧ mm_f7 0 3 h h2))) mm_nx 0 0 := by
  refine mm_ofW (ls := [mR 63, mI p1, mU]) hl (by decide) rfl (Nat.le_of_ble_eq_true rfl) ?_
  intro x hxl C T hnm htb
  subst hxl
  have C1 := mm_OK_le (d' := d - 1 + 1) (by omega) C
  have C8 := mm_OK_le (d' := d - 8 + 8) (by omega) C
  refine mm_rng (fun hr _ => ?_)
  have ap1 : -2147483648 ≤ p1 ∧ p1 < 2147483648 := mm_ok_at hr (i := 1) rfl
  have f0 : mm_fr [(63, 4), (63, 5), (63, 6), (63, 7), (63, 8), (63, 9), (63, 10)] [64] h h := mm_fr_rf
  have g1 : -2147483648 ≤ h.1 63 5 ∧ h.1 63 5 ≤ 2147483647 := i0.1 63 5
  have g2 : 0 ≤ h.1 63 7 ∧ h.1 63 7 ≤ 500 := i0.1 63 7
  have g3 : 0 ≤ h.1 63 8 ∧ h.1 63 8 ≤ 500 := i0.1 63 8
  have g4 : 0 ≤ h.1 63 3 ∧ h.1 63 3 ≤ 500 := i0.1 63 3
  have g5 : -2147483648 ≤ h.1 63 6 ∧ h.1 63 6 ≤ 2147483647 := i0.1 63 6
  have g6 : -2147483648 ≤ h.1 63 9 ∧ h.1 63 9 ≤ 2147483647 := i0.1 63 9
  have g7 : -2147483648 ≤ h.1 63 10 ∧ h.1 63 10 ≤ 2147483647 := i0.1 63 10
  refine mm_aload_n C (mm_dec dk_X7_readAnd 0 rfl) rfl ?_
  refine mm_iload_n C (mm_dec dk_X7_readAnd 1 rfl) rfl ?_
  refine mm_cVi (rest := []) C1 ev_X7_103 (mm_dec dk_X7_readAnd 2 rfl) (c_X7_readNot_q3 x.2.1 hl (d - 1) (by omega) h i0 p1 ⟨by omega, by omega⟩ (by exact t0)) rfl rfl (Nat.le_of_ble_eq_true rfl) ⟨by decide, by decide⟩ rfl (fun r2 h2c hp2 => ?_) (fun _ _ q => q.elim)
  obtain ⟨b2, i2c, g2c, y2_0⟩ := hp2
  have f2c : mm_fr [(63, 4), (63, 5), (63, 6), (63, 7), (63, 8), (63, 9), (63, 10)] [64] h h2c := mm_fr_tr f0 g2c (by decide +kernel)
  have q2c_9 : h2c.1 63 3 = h.1 63 3 := g2c.1 63 3 (by decide)
  have g10 : -2147483648 ≤ (h2c.1 63 5) ∧ (h2c.1 63 5) ≤ 2147483647 := i2c.1 63 5
  have g11 : 0 ≤ (h2c.1 63 7) ∧ (h2c.1 63 7) ≤ 500 := i2c.1 63 7
  have g12 : 0 ≤ (h2c.1 63 8) ∧ (h2c.1 63 8) ≤ 500 := i2c.1 63 8
  have g13 : -2147483648 ≤ (h2c.1 63 6) ∧ (h2c.1 63 6) ≤ 2147483647 := i2c.1 63 6
  have g14 : -2147483648 ≤ (h2c.1 63 9) ∧ (h2c.1 63 9) ≤ 2147483647 := i2c.1 63 9
  have g15 : -2147483648 ≤ (h2c.1 63 10) ∧ (h2c.1 63 10) ≤ 2147483647 := i2c.1 63 10
  refine mm_if_ne (tgt := 10) C (mm_dec dk_X7_readAnd 3 rfl) (by decide) (fun c5 => ?_) (fun c5 => ?_)
  · skip
    refine mm_iconst C (mm_dec dk_X7_readAnd 6 rfl) ⟨by decide, by decide⟩ ?_
    have J12 : ∀ (n : Nat) (x12_2 : Int) (bx12_2 : 0 ≤ x12_2 ∧ x12_2 ≤ 500) (h12_ : mH) (i12_ : mm_inv h12_) (f12_ : mm_fr [(63, 4), (63, 5), (63, 6), (63, 7), (63, 8), (63, 9), (63, 10)] [64] h h12_) (w12_0 : mm_q7 0 3 h h12_) (w12_1 : x12_2 ≤ h12_.1 63 7) (w12_2 : mm_nB h12_), (500 - x12_2 : Int) < n → mm_W x 0 0 12 [mR 63, mI p1, mI x12_2] [] h12_ := by
      intro n
      induction n with
      | zero =>
        intro x12_2 bx12_2 h12_ i12_ f12_ w12_0 w12_1 w12_2 hm
        have g16 : -2147483648 ≤ h12_.1 63 5 ∧ h12_.1 63 5 ≤ 2147483647 := i12_.1 63 5
        have g17 : 0 ≤ h12_.1 63 7 ∧ h12_.1 63 7 ≤ 500 := i12_.1 63 7
        have g18 : 0 ≤ h12_.1 63 8 ∧ h12_.1 63 8 ≤ 500 := i12_.1 63 8
        have g19 : 0 ≤ h12_.1 63 3 ∧ h12_.1 63 3 ≤ 500 := i12_.1 63 3
        have g20 : -2147483648 ≤ h12_.1 63 6 ∧ h12_.1 63 6 ≤ 2147483647 := i12_.1 63 6
        have g21 : -2147483648 ≤ h12_.1 63 9 ∧ h12_.1 63 9 ≤ 2147483647 := i12_.1 63 9
        have g22 : -2147483648 ≤ h12_.1 63 10 ∧ h12_.1 63 10 ≤ 2147483647 := i12_.1 63 10
        exfalso; omega
      | succ n ih12 =>
        intro x12_2 bx12_2 h12_ i12_ f12_ w12_0 w12_1 w12_2 hm12
        have g23 : -2147483648 ≤ h12_.1 63 5 ∧ h12_.1 63 5 ≤ 2147483647 := i12_.1 63 5
        have g24 : 0 ≤ h12_.1 63 7 ∧ h12_.1 63 7 ≤ 500 := i12_.1 63 7
        have g25 : 0 ≤ h12_.1 63 8 ∧ h12_.1 63 8 ≤ 500 := i12_.1 63 8
        have g26 : 0 ≤ h12_.1 63 3 ∧ h12_.1 63 3 ≤ 500 := i12_.1 63 3
        have g27 : -2147483648 ≤ h12_.1 63 6 ∧ h12_.1 63 6 ≤ 2147483647 := i12_.1 63 6
        have g28 : -2147483648 ≤ h12_.1 63 9 ∧ h12_.1 63 9 ≤ 2147483647 := i12_.1 63 9
        have g29 : -2147483648 ≤ h12_.1 63 10 ∧ h12_.1 63 10 ≤ 2147483647 := i12_.1 63 10
        have g30 : h12_.1 63 3 = h.1 63 3 := f12_.1 63 3 (by decide)
        have tf12 := mm_cX_h i12_ w12_0.1.2.1
        have tr12 := mm_cX_r i12_ w12_0.1.2.1
        refine mm_iload_n C (mm_dec dk_X7_readAnd 8 rfl) rfl ?_
        refine mm_sipush C (mm_dec dk_X7_readAnd 9 rfl) ⟨by decide, by decide⟩ ?_
        have J53 : ∀ (w53_0 : mm_nC h12_), mm_W x 0 0 53 [mU, mU, mU] [] h12_ := by
          intro w53_0
          have g31 : -2147483648 ≤ h12_.1 63 5 ∧ h12_.1 63 5 ≤ 2147483647 := i12_.1 63 5
          have g32 : 0 ≤ h12_.1 63 7 ∧ h12_.1 63 7 ≤ 500 := i12_.1 63 7
          have g33 : 0 ≤ h12_.1 63 8 ∧ h12_.1 63 8 ≤ 500 := i12_.1 63 8
          have g34 : 0 ≤ h12_.1 63 3 ∧ h12_.1 63 3 ≤ 500 := i12_.1 63 3
          have g35 : -2147483648 ≤ h12_.1 63 6 ∧ h12_.1 63 6 ≤ 2147483647 := i12_.1 63 6
          have g36 : -2147483648 ≤ h12_.1 63 9 ∧ h12_.1 63 9 ≤ 2147483647 := i12_.1 63 9
          have g37 : -2147483648 ≤ h12_.1 63 10 ∧ h12_.1 63 10 ≤ 2147483647 := i12_.1 63 10
          refine mm_iconst C (mm_dec dk_X7_readAnd 28 rfl) ⟨by decide, by decide⟩ ?_
          exact mm_zret C T (mm_dec dk_X7_readAnd 29 rfl) (by decide : 0 ≤ 0) (by decide : 0 ≤ 0) (by omega) ⟨_, rfl, ⟨⟨by omega, by omega⟩, i12_, f12_, by first | exact Or.inl ⟨rfl, w12_0, w53_0⟩ | exact Or.inr ⟨rfl, mm_or0 y2_0 (by omega)⟩ | exact Or.inr ⟨rfl, mm_f7_and w12_0 zc zs (mm_or0 y33_0 (by omega))⟩⟩⟩
        refine mm_icmp_ge (tgt := 53) C (mm_dec dk_X7_readAnd 10 rfl) (by decide) (fun c16 => ?_) (fun c16 => ?_)
        · skip
          refine mm_fgt 0 ?_
          refine mm_fgt 1 ?_
          refine mm_fgt 2 ?_
          exact J53 (by (have z := w12_2; unfold mm_nB at z; unfold mm_nC; have zz := mm_hdx tf12; omega))
        · skip
          refine mm_aload_n C (mm_dec dk_X7_readAnd 11 rfl) rfl ?_
          refine mm_geti C fl_X7_28 (mm_dec dk_X7_readAnd 12 rfl) rfl rfl (Or.inl rfl) ?_
          refine mm_iconst C (mm_dec dk_X7_readAnd 13 rfl) ⟨by decide, by decide⟩ ?_
          refine mm_icmp_ne (tgt := 53) C (mm_dec dk_X7_readAnd 14 rfl) (by decide) (fun c24 => ?_) (fun c24 => ?_)
          · skip
            refine mm_fgt 0 ?_
            refine mm_fgt 1 ?_
            refine mm_fgt 2 ?_
            exact J53 (by (have z := w12_2; unfold mm_nB at z; unfold mm_nC; have zz := mm_hdx tf12; omega))
          · skip
            refine mm_aload_n C (mm_dec dk_X7_readAnd 15 rfl) rfl ?_
            refine mm_cVv (rest := []) C1 ev_X7_52 (mm_dec dk_X7_readAnd 16 rfl) (c_X7_step_q x.2.1 hl (d - 1) (by omega) h12_ i12_ ) rfl rfl (Nat.le_of_ble_eq_true rfl) ⟨by decide, by decide⟩ rfl (fun h28c hp28 => ?_) (fun _ _ q => q.elim)
            obtain ⟨i28c, g28c, y28_0, y28_1, y28_2⟩ := hp28
            have f28c : mm_fr [(63, 4), (63, 5), (63, 6), (63, 7), (63, 8), (63, 9), (63, 10)] [64] h h28c := mm_fr_tr f12_ g28c (by decide +kernel)
            have q28c_39 : h28c.1 63 3 = h12_.1 63 3 := g28c.1 63 3 (by decide)
            have q28c_40 : h28c.1 63 9 = h12_.1 63 9 := g28c.1 63 9 (by decide)
            have q28c_41 : h28c.1 63 10 = h12_.1 63 10 := g28c.1 63 10 (by decide)
            have g42 : -2147483648 ≤ (h28c.1 63 5) ∧ (h28c.1 63 5) ≤ 2147483647 := i28c.1 63 5
            have g43 : 0 ≤ (h28c.1 63 7) ∧ (h28c.1 63 7) ≤ 500 := i28c.1 63 7
            have g44 : 0 ≤ (h28c.1 63 8) ∧ (h28c.1 63 8) ≤ 500 := i28c.1 63 8
            have g45 : -2147483648 ≤ (h28c.1 63 6) ∧ (h28c.1 63 6) ≤ 2147483647 := i28c.1 63 6
            have zs := mm_st7_of w12_0.1.2.1 y28_1 y28_2 g28c (by decide)
            have zc : mm_cX h12_ = 4 ∨ mm_cX h12_ = 5 := by have zz := mm_hdx tf12; omega
            have zl := mm_st7_lt zs (by omega)
            refine mm_aload_n C (mm_dec dk_X7_readAnd 17 rfl) rfl ?_
            refine mm_iload_n C (mm_dec dk_X7_readAnd 18 rfl) rfl ?_
            refine mm_cVi (rest := []) C1 ev_X7_103 (mm_dec dk_X7_readAnd 19 rfl) (c_X7_readNot_q3 x.2.1 hl (d - 1) (by omega) h28c i28c p1 ⟨by omega, by omega⟩ (by exact y28_1)) rfl rfl (Nat.le_of_ble_eq_true rfl) ⟨by decide, by decide⟩ rfl (fun r33 h33c hp33 => ?_) (fun _ _ q => q.elim)
            obtain ⟨b33, i33c, g33c, y33_0⟩ := hp33
            have f33c : mm_fr [(63, 4), (63, 5), (63, 6), (63, 7), (63, 8), (63, 9), (63, 10)] [64] h h33c := mm_fr_tr f28c g33c (by decide +kernel)
            have q33c_47 : h33c.1 63 3 = h28c.1 63 3 := g33c.1 63 3 (by decide)
            have g48 : -2147483648 ≤ (h33c.1 63 5) ∧ (h33c.1 63 5) ≤ 2147483647 := i33c.1 63 5
            have g49 : 0 ≤ (h33c.1 63 7) ∧ (h33c.1 63 7) ≤ 500 := i33c.1 63 7
            have g50 : 0 ≤ (h33c.1 63 8) ∧ (h33c.1 63 8) ≤ 500 := i33c.1 63 8
            have g51 : -2147483648 ≤ (h33c.1 63 6) ∧ (h33c.1 63 6) ≤ 2147483647 := i33c.1 63 6
            have g52 : -2147483648 ≤ (h33c.1 63 9) ∧ (h33c.1 63 9) ≤ 2147483647 := i33c.1 63 9
            have g53 : -2147483648 ≤ (h33c.1 63 10) ∧ (h33c.1 63 10) ≤ 2147483647 := i33c.1 63 10
            refine mm_if_ne (tgt := 41) C (mm_dec dk_X7_readAnd 20 rfl) (by decide) (fun c36 => ?_) (fun c36 => ?_)
            · skip
              refine mm_aload_n C (mm_dec dk_X7_readAnd 23 rfl) rfl ?_
              refine mm_ldc (z := 100012) C (mm_dec dk_X7_readAnd 24 rfl) kc_X7_106 (by decide) ?_
              refine mm_cVv (rest := []) C1 ev_X7_79 (mm_dec dk_X7_readAnd 25 rfl) (c_X7_emit x.2.1 hl (d - 1) (by omega) h33c i33c 100012) rfl rfl (Nat.le_of_ble_eq_true rfl) ⟨by decide, by decide⟩ rfl (fun h44c hp44 => ?_) (fun _ _ q => q.elim)
              obtain ⟨i44c, g44c⟩ := hp44
              have f44c : mm_fr [(63, 4), (63, 5), (63, 6), (63, 7), (63, 8), (63, 9), (63, 10)] [64] h h44c := mm_fr_tr f33c g44c (by decide +kernel)
              have q44c_55 : h44c.1 63 3 = h33c.1 63 3 := g44c.1 63 3 (by decide)
              have q44c_56 : h44c.1 63 5 = h33c.1 63 5 := g44c.1 63 5 (by decide)
              have q44c_57 : h44c.1 63 6 = h33c.1 63 6 := g44c.1 63 6 (by decide)
              have q44c_58 : h44c.1 63 7 = h33c.1 63 7 := g44c.1 63 7 (by decide)
              have q44c_59 : h44c.1 63 8 = h33c.1 63 8 := g44c.1 63 8 (by decide)
              have q44c_60 : h44c.1 63 9 = h33c.1 63 9 := g44c.1 63 9 (by decide)
              have q44c_61 : h44c.1 63 10 = h33c.1 63 10 := g44c.1 63 10 (by decide)
              have zt := g44c.1 63 7 (by decide)
              have zu := (mm_or1 y33_0 (by omega)).1.2.1
              refine mm_iincL (ls2 := [mR 63, mI p1, mI (x12_2 + 1)]) C (mm_dec dk_X7_readAnd 26 rfl) rfl (by decide) ⟨by omega, by omega⟩ rfl ?_
              refine mm_goto (tgt := 12) C (mm_dec dk_X7_readAnd 27 rfl) (by decide) ?_
              exact ih12 (x12_2 + 1) ⟨by omega, by omega⟩ h44c i44c f44c (by first | exact (mm_or1 y2_0 (by omega)).1 | exact mm_q7_em (mm_q7_and w12_0 zc zs (mm_or1 y33_0 (by omega)).1) (mm_em_fr g44c (by decide))) (by omega) (by first | exact (mm_or1 y2_0 (by omega)).2 | exact mm_nB_em (mm_or1 y33_0 (by omega)).2 (mm_em_fr g44c (by decide))) (by omega)
            · skip
              refine mm_iconst C (mm_dec dk_X7_readAnd 21 rfl) ⟨by decide, by decide⟩ ?_
              exact mm_zret C T (mm_dec dk_X7_readAnd 22 rfl) (by decide : 0 ≤ 0) (by decide : 0 ≤ 0) (by omega) ⟨_, rfl, ⟨⟨by omega, by omega⟩, i33c, f33c, by first | exact Or.inl ⟨rfl, w12_0, w53_0⟩ | exact Or.inr ⟨rfl, mm_or0 y2_0 (by omega)⟩ | exact Or.inr ⟨rfl, mm_f7_and w12_0 zc zs (mm_or0 y33_0 (by omega))⟩⟩⟩
    refine mm_istore_nL (ls2 := [mR 63, mI p1, mI 0]) C (mm_dec dk_X7_readAnd 7 rfl) (by decide) rfl ?_
    exact J12 (((500 - 0) : Int) + 1).toNat 0 ⟨by omega, by omega⟩ h2c i2c f2c (by first | exact (mm_or1 y2_0 (by omega)).1 | exact mm_q7_em (mm_q7_and w12_0 zc zs (mm_or1 y33_0 (by omega)).1) (mm_em_fr g44c (by decide))) (by omega) (by first | exact (mm_or1 y2_0 (by omega)).2 | exact mm_nB_em (mm_or1 y33_0 (by omega)).2 (mm_em_fr g44c (by decide))) (by omega)
  · skip
    refine mm_iconst C (mm_dec dk_X7_readAnd 4 rfl) ⟨by decide, by decide⟩ ?_
    exact mm_zret C T (mm_dec dk_X7_readAnd 5 rfl) (by decide : 0 ≤ 0) (by decide : 0 ≤ 0) (by omega) ⟨_, rfl, ⟨⟨by omega, by omega⟩, i2c, f2c, by first | exact Or.inl ⟨rfl, w12_0, w53_0⟩ | exact Or.inr ⟨rfl, mm_or0 y2_0 (by omega)⟩ | exact Or.inr ⟨rfl, mm_f7_and w12_0 zc zs (mm_or0 y33_0 (by omega))⟩⟩⟩
set_option maxRecDepth 100000 in
set_option maxHeartbeats 4000000 in
theorem c_X7_readOr_q3 (l : Launch) (hl : l.stackTraces = false) (d : Nat) (hd : 26 ≤ d) (h : mH) (i0 : mm_inv h) (p1 : Int) (bp1 : 3 ≤ p1 ∧ p1 ≤ 3) (t0 : mm_aX h) : mm_Met l d yX7_readOr cX7_readOr 3 (some .boolean) [mR 63, mI p1] h (mm_pi fun r h2 => (0 ≤ r ∧ r ≤ 1) ∧ mm_inv h2 ∧ mm_fr [(63, 4), (63, 5), (63, 6), (63, 7), (63, 8), (63, 9), (63, 10)] [64] h h2 ∧ ((r = 1 ∧ mm_q7 0 3 h h2 ∧ mm_nD h2) ∨ (r = 0 ∧ mm_f7 0 3 h h2))) mm_nx 0 0 := by
  refine mm_ofW (ls := [mR 63, mI p1, mU]) hl (by decide) rfl (Nat.le_of_ble_eq_true rfl) ?_
  intro x hxl C T hnm htb
  subst hxl
  have C1 := mm_OK_le (d' := d - 1 + 1) (by omega) C
  have C8 := mm_OK_le (d' := d - 8 + 8) (by omega) C
  refine mm_rng (fun hr _ => ?_)
  have ap1 : -2147483648 ≤ p1 ∧ p1 < 2147483648 := mm_ok_at hr (i := 1) rfl
  have f0 : mm_fr [(63, 4), (63, 5), (63, 6), (63, 7), (63, 8), (63, 9), (63, 10)] [64] h h := mm_fr_rf
  have g1 : -2147483648 ≤ h.1 63 5 ∧ h.1 63 5 ≤ 2147483647 := i0.1 63 5
  have g2 : 0 ≤ h.1 63 7 ∧ h.1 63 7 ≤ 500 := i0.1 63 7
  have g3 : 0 ≤ h.1 63 8 ∧ h.1 63 8 ≤ 500 := i0.1 63 8
  have g4 : 0 ≤ h.1 63 3 ∧ h.1 63 3 ≤ 500 := i0.1 63 3
  have g5 : -2147483648 ≤ h.1 63 6 ∧ h.1 63 6 ≤ 2147483647 := i0.1 63 6
  have g6 : -2147483648 ≤ h.1 63 9 ∧ h.1 63 9 ≤ 2147483647 := i0.1 63 9
  have g7 : -2147483648 ≤ h.1 63 10 ∧ h.1 63 10 ≤ 2147483647 := i0.1 63 10
  refine mm_iload_n C (mm_dec dk_X7_readOr 0 rfl) rfl ?_
  refine mm_bipush C (mm_dec dk_X7_readOr 1 rfl) ⟨by decide, by decide⟩ ?_
  refine mm_icmp_lt (tgt := 41) C (mm_dec dk_X7_readOr 2 rfl) (by decide) (fun c3 => ?_) (fun c3 => ?_)
  · skip
    refine mm_aload_n C (mm_dec dk_X7_readOr 21 rfl) rfl ?_
    refine mm_iload_n C (mm_dec dk_X7_readOr 22 rfl) rfl ?_
    refine mm_cVi (rest := []) C1 ev_X7_99 (mm_dec dk_X7_readOr 23 rfl) (c_X7_readAnd_q3 x.2.1 hl (d - 1) (by omega) h i0 p1 ⟨by omega, by omega⟩ (by exact t0)) rfl rfl (Nat.le_of_ble_eq_true rfl) ⟨by decide, by decide⟩ rfl (fun r43 h43c hp43 => ?_) (fun _ _ q => q.elim)
    obtain ⟨b43, i43c, g43c, y43_0⟩ := hp43
    have f43c : mm_fr [(63, 4), (63, 5), (63, 6), (63, 7), (63, 8), (63, 9), (63, 10)] [64] h h43c := mm_fr_tr f0 g43c (by decide +kernel)
    have q43c_9 : h43c.1 63 3 = h.1 63 3 := g43c.1 63 3 (by decide)
    have g10 : -2147483648 ≤ (h43c.1 63 5) ∧ (h43c.1 63 5) ≤ 2147483647 := i43c.1 63 5
    have g11 : 0 ≤ (h43c.1 63 7) ∧ (h43c.1 63 7) ≤ 500 := i43c.1 63 7
    have g12 : 0 ≤ (h43c.1 63 8) ∧ (h43c.1 63 8) ≤ 500 := i43c.1 63 8
    have g13 : -2147483648 ≤ (h43c.1 63 6) ∧ (h43c.1 63 6) ≤ 2147483647 := i43c.1 63 6
    have g14 : -2147483648 ≤ (h43c.1 63 9) ∧ (h43c.1 63 9) ≤ 2147483647 := i43c.1 63 9
    have g15 : -2147483648 ≤ (h43c.1 63 10) ∧ (h43c.1 63 10) ≤ 2147483647 := i43c.1 63 10
    refine mm_if_ne (tgt := 51) C (mm_dec dk_X7_readOr 24 rfl) (by decide) (fun c46 => ?_) (fun c46 => ?_)
    · skip
      refine mm_iconst C (mm_dec dk_X7_readOr 27 rfl) ⟨by decide, by decide⟩ ?_
      have J53 : ∀ (n : Nat) (x53_2 : Int) (bx53_2 : 0 ≤ x53_2 ∧ x53_2 ≤ 500) (h53_ : mH) (i53_ : mm_inv h53_) (f53_ : mm_fr [(63, 4), (63, 5), (63, 6), (63, 7), (63, 8), (63, 9), (63, 10)] [64] h h53_) (w53_0 : mm_q7 0 3 h h53_) (w53_1 : x53_2 ≤ h53_.1 63 7) (w53_2 : mm_nC h53_), (500 - x53_2 : Int) < n → mm_W x 0 0 53 [mR 63, mI p1, mI x53_2] [] h53_ := by
        intro n
        induction n with
        | zero =>
          intro x53_2 bx53_2 h53_ i53_ f53_ w53_0 w53_1 w53_2 hm
          have g16 : -2147483648 ≤ h53_.1 63 5 ∧ h53_.1 63 5 ≤ 2147483647 := i53_.1 63 5
          have g17 : 0 ≤ h53_.1 63 7 ∧ h53_.1 63 7 ≤ 500 := i53_.1 63 7
          have g18 : 0 ≤ h53_.1 63 8 ∧ h53_.1 63 8 ≤ 500 := i53_.1 63 8
          have g19 : 0 ≤ h53_.1 63 3 ∧ h53_.1 63 3 ≤ 500 := i53_.1 63 3
          have g20 : -2147483648 ≤ h53_.1 63 6 ∧ h53_.1 63 6 ≤ 2147483647 := i53_.1 63 6
          have g21 : -2147483648 ≤ h53_.1 63 9 ∧ h53_.1 63 9 ≤ 2147483647 := i53_.1 63 9
          have g22 : -2147483648 ≤ h53_.1 63 10 ∧ h53_.1 63 10 ≤ 2147483647 := i53_.1 63 10
          exfalso; omega
        | succ n ih53 =>
          intro x53_2 bx53_2 h53_ i53_ f53_ w53_0 w53_1 w53_2 hm53
          have g23 : -2147483648 ≤ h53_.1 63 5 ∧ h53_.1 63 5 ≤ 2147483647 := i53_.1 63 5
          have g24 : 0 ≤ h53_.1 63 7 ∧ h53_.1 63 7 ≤ 500 := i53_.1 63 7
          have g25 : 0 ≤ h53_.1 63 8 ∧ h53_.1 63 8 ≤ 500 := i53_.1 63 8
          have g26 : 0 ≤ h53_.1 63 3 ∧ h53_.1 63 3 ≤ 500 := i53_.1 63 3
          have g27 : -2147483648 ≤ h53_.1 63 6 ∧ h53_.1 63 6 ≤ 2147483647 := i53_.1 63 6
          have g28 : -2147483648 ≤ h53_.1 63 9 ∧ h53_.1 63 9 ≤ 2147483647 := i53_.1 63 9
          have g29 : -2147483648 ≤ h53_.1 63 10 ∧ h53_.1 63 10 ≤ 2147483647 := i53_.1 63 10
          have g30 : h53_.1 63 3 = h.1 63 3 := f53_.1 63 3 (by decide)
          have tf12 := mm_cX_h i53_ w53_0.1.2.1
          have tr12 := mm_cX_r i53_ w53_0.1.2.1
          refine mm_iload_n C (mm_dec dk_X7_readOr 29 rfl) rfl ?_
          refine mm_sipush C (mm_dec dk_X7_readOr 30 rfl) ⟨by decide, by decide⟩ ?_
          have J94 : ∀ (w94_0 : mm_nD h53_), mm_W x 0 0 94 [mU, mU, mU] [] h53_ := by
            intro w94_0
            have g31 : -2147483648 ≤ h53_.1 63 5 ∧ h53_.1 63 5 ≤ 2147483647 := i53_.1 63 5
            have g32 : 0 ≤ h53_.1 63 7 ∧ h53_.1 63 7 ≤ 500 := i53_.1 63 7
            have g33 : 0 ≤ h53_.1 63 8 ∧ h53_.1 63 8 ≤ 500 := i53_.1 63 8
            have g34 : 0 ≤ h53_.1 63 3 ∧ h53_.1 63 3 ≤ 500 := i53_.1 63 3
            have g35 : -2147483648 ≤ h53_.1 63 6 ∧ h53_.1 63 6 ≤ 2147483647 := i53_.1 63 6
            have g36 : -2147483648 ≤ h53_.1 63 9 ∧ h53_.1 63 9 ≤ 2147483647 := i53_.1 63 9
            have g37 : -2147483648 ≤ h53_.1 63 10 ∧ h53_.1 63 10 ≤ 2147483647 := i53_.1 63 10
            refine mm_iconst C (mm_dec dk_X7_readOr 49 rfl) ⟨by decide, by decide⟩ ?_
            exact mm_zret C T (mm_dec dk_X7_readOr 50 rfl) (by decide : 0 ≤ 0) (by decide : 0 ≤ 0) (by omega) ⟨_, rfl, ⟨⟨by omega, by omega⟩, i53_, f53_, by first | exact Or.inl ⟨rfl, w53_0, w94_0⟩ | exact Or.inr ⟨rfl, mm_or0 y43_0 (by omega)⟩ | exact Or.inr ⟨rfl, mm_f7_and w53_0 zc zs (mm_or0 y74_0 (by omega))⟩⟩⟩
          refine mm_icmp_ge (tgt := 94) C (mm_dec dk_X7_readOr 31 rfl) (by decide) (fun c57 => ?_) (fun c57 => ?_)
          · skip
            refine mm_fgt 0 ?_
            refine mm_fgt 1 ?_
            refine mm_fgt 2 ?_
            exact J94 (by (have z := w53_2; unfold mm_nC at z; unfold mm_nD; have zz := mm_hdx tf12; omega))
          · skip
            refine mm_aload_n C (mm_dec dk_X7_readOr 32 rfl) rfl ?_
            refine mm_geti C fl_X7_28 (mm_dec dk_X7_readOr 33 rfl) rfl rfl (Or.inl rfl) ?_
            refine mm_iconst C (mm_dec dk_X7_readOr 34 rfl) ⟨by decide, by decide⟩ ?_
            refine mm_icmp_ne (tgt := 94) C (mm_dec dk_X7_readOr 35 rfl) (by decide) (fun c65 => ?_) (fun c65 => ?_)
            · skip
              refine mm_fgt 0 ?_
              refine mm_fgt 1 ?_
              refine mm_fgt 2 ?_
              exact J94 (by (have z := w53_2; unfold mm_nC at z; unfold mm_nD; have zz := mm_hdx tf12; omega))
            · skip
              refine mm_aload_n C (mm_dec dk_X7_readOr 36 rfl) rfl ?_
              refine mm_cVv (rest := []) C1 ev_X7_52 (mm_dec dk_X7_readOr 37 rfl) (c_X7_step_q x.2.1 hl (d - 1) (by omega) h53_ i53_ ) rfl rfl (Nat.le_of_ble_eq_true rfl) ⟨by decide, by decide⟩ rfl (fun h69c hp69 => ?_) (fun _ _ q => q.elim)
              obtain ⟨i69c, g69c, y69_0, y69_1, y69_2⟩ := hp69
              have f69c : mm_fr [(63, 4), (63, 5), (63, 6), (63, 7), (63, 8), (63, 9), (63, 10)] [64] h h69c := mm_fr_tr f53_ g69c (by decide +kernel)
              have q69c_39 : h69c.1 63 3 = h53_.1 63 3 := g69c.1 63 3 (by decide)
              have q69c_40 : h69c.1 63 9 = h53_.1 63 9 := g69c.1 63 9 (by decide)
              have q69c_41 : h69c.1 63 10 = h53_.1 63 10 := g69c.1 63 10 (by decide)
              have g42 : -2147483648 ≤ (h69c.1 63 5) ∧ (h69c.1 63 5) ≤ 2147483647 := i69c.1 63 5
              have g43 : 0 ≤ (h69c.1 63 7) ∧ (h69c.1 63 7) ≤ 500 := i69c.1 63 7
              have g44 : 0 ≤ (h69c.1 63 8) ∧ (h69c.1 63 8) ≤ 500 := i69c.1 63 8
              have g45 : -2147483648 ≤ (h69c.1 63 6) ∧ (h69c.1 63 6) ≤ 2147483647 := i69c.1 63 6
              have zs := mm_st7_of w53_0.1.2.1 y69_1 y69_2 g69c (by decide)
              have zc : mm_cX h53_ = 4 ∨ mm_cX h53_ = 5 := by have zz := mm_hdx tf12; omega
              have zl := mm_st7_lt zs (by omega)
              refine mm_aload_n C (mm_dec dk_X7_readOr 38 rfl) rfl ?_
              refine mm_iload_n C (mm_dec dk_X7_readOr 39 rfl) rfl ?_
              refine mm_cVi (rest := []) C1 ev_X7_99 (mm_dec dk_X7_readOr 40 rfl) (c_X7_readAnd_q3 x.2.1 hl (d - 1) (by omega) h69c i69c p1 ⟨by omega, by omega⟩ (by exact y69_1)) rfl rfl (Nat.le_of_ble_eq_true rfl) ⟨by decide, by decide⟩ rfl (fun r74 h74c hp74 => ?_) (fun _ _ q => q.elim)
              obtain ⟨b74, i74c, g74c, y74_0⟩ := hp74
              have f74c : mm_fr [(63, 4), (63, 5), (63, 6), (63, 7), (63, 8), (63, 9), (63, 10)] [64] h h74c := mm_fr_tr f69c g74c (by decide +kernel)
              have q74c_47 : h74c.1 63 3 = h69c.1 63 3 := g74c.1 63 3 (by decide)
              have g48 : -2147483648 ≤ (h74c.1 63 5) ∧ (h74c.1 63 5) ≤ 2147483647 := i74c.1 63 5
              have g49 : 0 ≤ (h74c.1 63 7) ∧ (h74c.1 63 7) ≤ 500 := i74c.1 63 7
              have g50 : 0 ≤ (h74c.1 63 8) ∧ (h74c.1 63 8) ≤ 500 := i74c.1 63 8
              have g51 : -2147483648 ≤ (h74c.1 63 6) ∧ (h74c.1 63 6) ≤ 2147483647 := i74c.1 63 6
              have g52 : -2147483648 ≤ (h74c.1 63 9) ∧ (h74c.1 63 9) ≤ 2147483647 := i74c.1 63 9
              have g53 : -2147483648 ≤ (h74c.1 63 10) ∧ (h74c.1 63 10) ≤ 2147483647 := i74c.1 63 10
              refine mm_if_ne (tgt := 82) C (mm_dec dk_X7_readOr 41 rfl) (by decide) (fun c77 => ?_) (fun c77 => ?_)
              · skip
                refine mm_aload_n C (mm_dec dk_X7_readOr 44 rfl) rfl ?_
                refine mm_ldc (z := 100011) C (mm_dec dk_X7_readOr 45 rfl) kc_X7_102 (by decide) ?_
                refine mm_cVv (rest := []) C1 ev_X7_79 (mm_dec dk_X7_readOr 46 rfl) (c_X7_emit x.2.1 hl (d - 1) (by omega) h74c i74c 100011) rfl rfl (Nat.le_of_ble_eq_true rfl) ⟨by decide, by decide⟩ rfl (fun h85c hp85 => ?_) (fun _ _ q => q.elim)
                obtain ⟨i85c, g85c⟩ := hp85
                have f85c : mm_fr [(63, 4), (63, 5), (63, 6), (63, 7), (63, 8), (63, 9), (63, 10)] [64] h h85c := mm_fr_tr f74c g85c (by decide +kernel)
                have q85c_55 : h85c.1 63 3 = h74c.1 63 3 := g85c.1 63 3 (by decide)
                have q85c_56 : h85c.1 63 5 = h74c.1 63 5 := g85c.1 63 5 (by decide)
                have q85c_57 : h85c.1 63 6 = h74c.1 63 6 := g85c.1 63 6 (by decide)
                have q85c_58 : h85c.1 63 7 = h74c.1 63 7 := g85c.1 63 7 (by decide)
                have q85c_59 : h85c.1 63 8 = h74c.1 63 8 := g85c.1 63 8 (by decide)
                have q85c_60 : h85c.1 63 9 = h74c.1 63 9 := g85c.1 63 9 (by decide)
                have q85c_61 : h85c.1 63 10 = h74c.1 63 10 := g85c.1 63 10 (by decide)
                have zt := g85c.1 63 7 (by decide)
                have zu := (mm_or1 y74_0 (by omega)).1.2.1
                refine mm_iincL (ls2 := [mR 63, mI p1, mI (x53_2 + 1)]) C (mm_dec dk_X7_readOr 47 rfl) rfl (by decide) ⟨by omega, by omega⟩ rfl ?_
                refine mm_goto (tgt := 53) C (mm_dec dk_X7_readOr 48 rfl) (by decide) ?_
                exact ih53 (x53_2 + 1) ⟨by omega, by omega⟩ h85c i85c f85c (by first | exact (mm_or1 y43_0 (by omega)).1 | exact mm_q7_em (mm_q7_and w53_0 zc zs (mm_or1 y74_0 (by omega)).1) (mm_em_fr g85c (by decide))) (by omega) (by first | exact (mm_or1 y43_0 (by omega)).2 | exact mm_nC_em (mm_or1 y74_0 (by omega)).2 (mm_em_fr g85c (by decide))) (by omega)
              · skip
                refine mm_iconst C (mm_dec dk_X7_readOr 42 rfl) ⟨by decide, by decide⟩ ?_
                exact mm_zret C T (mm_dec dk_X7_readOr 43 rfl) (by decide : 0 ≤ 0) (by decide : 0 ≤ 0) (by omega) ⟨_, rfl, ⟨⟨by omega, by omega⟩, i74c, f74c, by first | exact Or.inl ⟨rfl, w53_0, w94_0⟩ | exact Or.inr ⟨rfl, mm_or0 y43_0 (by omega)⟩ | exact Or.inr ⟨rfl, mm_f7_and w53_0 zc zs (mm_or0 y74_0 (by omega))⟩⟩⟩
      refine mm_istore_nL (ls2 := [mR 63, mI p1, mI 0]) C (mm_dec dk_X7_readOr 28 rfl) (by decide) rfl ?_
      exact J53 (((500 - 0) : Int) + 1).toNat 0 ⟨by omega, by omega⟩ h43c i43c f43c (by first | exact (mm_or1 y43_0 (by omega)).1 | exact mm_q7_em (mm_q7_and w53_0 zc zs (mm_or1 y74_0 (by omega)).1) (mm_em_fr g85c (by decide))) (by omega) (by first | exact (mm_or1 y43_0 (by omega)).2 | exact mm_nC_em (mm_or1 y74_0 (by omega)).2 (mm_em_fr g85c (by decide))) (by omega)
    · skip
      refine mm_iconst C (mm_dec dk_X7_readOr 25 rfl) ⟨by decide, by decide⟩ ?_
      exact mm_zret C T (mm_dec dk_X7_readOr 26 rfl) (by decide : 0 ≤ 0) (by decide : 0 ≤ 0) (by omega) ⟨_, rfl, ⟨⟨by omega, by omega⟩, i43c, f43c, by first | exact Or.inl ⟨rfl, w53_0, w94_0⟩ | exact Or.inr ⟨rfl, mm_or0 y43_0 (by omega)⟩ | exact Or.inr ⟨rfl, mm_f7_and w53_0 zc zs (mm_or0 y74_0 (by omega))⟩⟩⟩
  · skip
    exfalso; omega
set_option maxRecDepth 100000 in
set_option maxHeartbeats 4000000 in
theorem c_X7_readPart_q2 (l : Launch) (hl : l.stackTraces = false) (d : Nat) (hd : 27 ≤ d) (h : mH) (i0 : mm_inv h) (p1 : Int) (bp1 : 2 ≤ p1 ∧ p1 ≤ 2) (t0 : mm_aX h) : mm_Met l d yX7_readPart cX7_readPart 2 (some .boolean) [mR 63, mI p1] h (mm_pi fun r h2 => (0 ≤ r ∧ r ≤ 1) ∧ mm_inv h2 ∧ mm_fr [(63, 4), (63, 5), (63, 6), (63, 7), (63, 8), (63, 9), (63, 10)] [64] h h2 ∧ ((r = 1 ∧ mm_p7 2 h h2) ∨ (r = 0 ∧ mm_g7 2 h h2))) mm_nx 0 0 := by
  refine mm_ofW (ls := [mR 63, mI p1]) hl (by decide) rfl (Nat.le_of_ble_eq_true rfl) ?_
  intro x hxl C T hnm htb
  subst hxl
  have C1 := mm_OK_le (d' := d - 1 + 1) (by omega) C
  have C8 := mm_OK_le (d' := d - 8 + 8) (by omega) C
  refine mm_rng (fun hr _ => ?_)
  have ap1 : -2147483648 ≤ p1 ∧ p1 < 2147483648 := mm_ok_at hr (i := 1) rfl
  have f0 : mm_fr [(63, 4), (63, 5), (63, 6), (63, 7), (63, 8), (63, 9), (63, 10)] [64] h h := mm_fr_rf
  have g1 : -2147483648 ≤ h.1 63 5 ∧ h.1 63 5 ≤ 2147483647 := i0.1 63 5
  have g2 : 0 ≤ h.1 63 7 ∧ h.1 63 7 ≤ 500 := i0.1 63 7
  have g3 : 0 ≤ h.1 63 8 ∧ h.1 63 8 ≤ 500 := i0.1 63 8
  have g4 : 0 ≤ h.1 63 3 ∧ h.1 63 3 ≤ 500 := i0.1 63 3
  have g5 : -2147483648 ≤ h.1 63 6 ∧ h.1 63 6 ≤ 2147483647 := i0.1 63 6
  have g6 : -2147483648 ≤ h.1 63 9 ∧ h.1 63 9 ≤ 2147483647 := i0.1 63 9
  have g7 : -2147483648 ≤ h.1 63 10 ∧ h.1 63 10 ≤ 2147483647 := i0.1 63 10
  have tf := mm_cX_h i0 t0
  have tr := mm_cX_r i0 t0
  refine mm_aload_n C (mm_dec dk_X7_readPart 0 rfl) rfl ?_
  refine mm_bipush C (mm_dec dk_X7_readPart 1 rfl) ⟨by decide, by decide⟩ ?_
  refine mm_cVi (rest := []) C1 ev_X7_96 (mm_dec dk_X7_readPart 2 rfl) (c_X7_isSign x.2.1 hl (d - 1) (by omega) h i0 40 (by omega)) rfl rfl (Nat.le_of_ble_eq_true rfl) ⟨by decide, by decide⟩ rfl (fun r3 h3c hp3 => ?_) (fun _ _ q => q.elim)
  obtain ⟨z3, y3⟩ := hp3
  rw [z3]
  have g9 : -2147483648 ≤ (h.2.1 62 (h.1 63 7)) ∧ (h.2.1 62 (h.1 63 7)) ≤ 2147483647 := i0.2.1 62 (h.1 63 7)
  refine mm_if_eq (tgt := 38) C (mm_dec dk_X7_readPart 3 rfl) (by decide) (fun c6 => ?_) (fun c6 => ?_)
  · skip
    refine mm_aload_n C (mm_dec dk_X7_readPart 20 rfl) rfl ?_
    refine mm_geti C fl_X7_25 (mm_dec dk_X7_readPart 21 rfl) rfl rfl (Or.inl rfl) ?_
    refine mm_iconst C (mm_dec dk_X7_readPart 22 rfl) ⟨by decide, by decide⟩ ?_
    have J117 : ∀ (h117_ : mH) (i117_ : mm_inv h117_) (f117_ : mm_fr [(63, 4), (63, 5), (63, 6), (63, 7), (63, 8), (63, 9), (63, 10)] [64] h h117_) (w117_0 : mm_em h h117_) (w117_1 : (mm_cX h = 18 ∨ (7 ≤ mm_cX h ∧ mm_cX h ≤ 16))), mm_W x 0 0 117 [mR 63, mU] [] h117_ := by
      intro h117_ i117_ f117_ w117_0 w117_1
      have g10 : -2147483648 ≤ h117_.1 63 5 ∧ h117_.1 63 5 ≤ 2147483647 := i117_.1 63 5
      have g11 : 0 ≤ h117_.1 63 7 ∧ h117_.1 63 7 ≤ 500 := i117_.1 63 7
      have g12 : 0 ≤ h117_.1 63 8 ∧ h117_.1 63 8 ≤ 500 := i117_.1 63 8
      have g13 : 0 ≤ h117_.1 63 3 ∧ h117_.1 63 3 ≤ 500 := i117_.1 63 3
      have g14 : -2147483648 ≤ h117_.1 63 6 ∧ h117_.1 63 6 ≤ 2147483647 := i117_.1 63 6
      have g15 : -2147483648 ≤ h117_.1 63 9 ∧ h117_.1 63 9 ≤ 2147483647 := i117_.1 63 9
      have g16 : -2147483648 ≤ h117_.1 63 10 ∧ h117_.1 63 10 ≤ 2147483647 := i117_.1 63 10
      have g17 : h117_.1 63 3 = h.1 63 3 := f117_.1 63 3 (by decide)
      refine mm_aload_n C (mm_dec dk_X7_readPart 61 rfl) rfl ?_
      refine mm_cVv (rest := []) C1 ev_X7_52 (mm_dec dk_X7_readPart 62 rfl) (c_X7_step_q x.2.1 hl (d - 1) (by omega) h117_ i117_ ) rfl rfl (Nat.le_of_ble_eq_true rfl) ⟨by decide, by decide⟩ rfl (fun h118c hp118 => ?_) (fun _ _ q => q.elim)
      obtain ⟨i118c, g118c, y118_0, y118_1, y118_2⟩ := hp118
      have f118c : mm_fr [(63, 4), (63, 5), (63, 6), (63, 7), (63, 8), (63, 9), (63, 10)] [64] h h118c := mm_fr_tr f117_ g118c (by decide +kernel)
      have q118c_19 : h118c.1 63 3 = h117_.1 63 3 := g118c.1 63 3 (by decide)
      have q118c_20 : h118c.1 63 9 = h117_.1 63 9 := g118c.1 63 9 (by decide)
      have q118c_21 : h118c.1 63 10 = h117_.1 63 10 := g118c.1 63 10 (by decide)
      have g22 : -2147483648 ≤ (h118c.1 63 5) ∧ (h118c.1 63 5) ≤ 2147483647 := i118c.1 63 5
      have g23 : 0 ≤ (h118c.1 63 7) ∧ (h118c.1 63 7) ≤ 500 := i118c.1 63 7
      have g24 : 0 ≤ (h118c.1 63 8) ∧ (h118c.1 63 8) ≤ 500 := i118c.1 63 8
      have g25 : -2147483648 ≤ (h118c.1 63 6) ∧ (h118c.1 63 6) ≤ 2147483647 := i118c.1 63 6
      refine mm_iconst C (mm_dec dk_X7_readPart 63 rfl) ⟨by decide, by decide⟩ ?_
      exact mm_zret C T (mm_dec dk_X7_readPart 64 rfl) (by decide : 0 ≤ 0) (by decide : 0 ≤ 0) (by omega) ⟨_, rfl, ⟨⟨by omega, by omega⟩, i118c, f118c, by first | exact w37_0 | exact Or.inr ⟨by omega, mm_g7_bad (by have zz := mm_hdx tf; have zy := y57_0; omega) y57_1⟩ | (have z := mm_or0 y101_0 (by omega); exact Or.inr ⟨rfl, mm_g7_bad (by have := z.1; have zz := mm_hdx tf; omega) z.2⟩) | exact Or.inl ⟨rfl, mm_p7_part w117_1 w117_0 (mm_st7_of (mm_em_a w117_0 t0) y118_1 y118_2 g118c (by decide))⟩⟩⟩
    refine mm_icmp_ne (tgt := 100) C (mm_dec dk_X7_readPart 23 rfl) (by decide) (fun c43 => ?_) (fun c43 => ?_)
    · skip
      refine mm_aload_n C (mm_dec dk_X7_readPart 52 rfl) rfl ?_
      refine mm_cVi (rest := []) C1 ev_X7_89 (mm_dec dk_X7_readPart 53 rfl) (c_X7_isNumber_q x.2.1 hl (d - 1) (by omega) h i0 ) rfl rfl (Nat.le_of_ble_eq_true rfl) ⟨by decide, by decide⟩ rfl (fun r101 h101c hp101 => ?_) (fun _ _ q => q.elim)
      obtain ⟨b101, i101c, g101c, y101_0⟩ := hp101
      have f101c : mm_fr [(63, 4), (63, 5), (63, 6), (63, 7), (63, 8), (63, 9), (63, 10)] [64] h h101c := mm_fr_tr f0 g101c (by decide +kernel)
      have q101c_27 : h101c.1 63 3 = h.1 63 3 := g101c.1 63 3 (by decide)
      have q101c_28 : h101c.1 63 5 = h.1 63 5 := g101c.1 63 5 (by decide)
      have q101c_29 : h101c.1 63 6 = h.1 63 6 := g101c.1 63 6 (by decide)
      have q101c_30 : h101c.1 63 7 = h.1 63 7 := g101c.1 63 7 (by decide)
      have q101c_31 : h101c.1 63 8 = h.1 63 8 := g101c.1 63 8 (by decide)
      have g32 : -2147483648 ≤ (h101c.1 63 9) ∧ (h101c.1 63 9) ≤ 2147483647 := i101c.1 63 9
      have g33 : -2147483648 ≤ (h101c.1 63 10) ∧ (h101c.1 63 10) ≤ 2147483647 := i101c.1 63 10
      refine mm_if_ne (tgt := 109) C (mm_dec dk_X7_readPart 54 rfl) (by decide) (fun c104 => ?_) (fun c104 => ?_)
      · skip
        refine mm_aload_n C (mm_dec dk_X7_readPart 57 rfl) rfl ?_
        refine mm_aload_n C (mm_dec dk_X7_readPart 58 rfl) rfl ?_
        refine mm_cVi (rest := [mR 63]) C1 ev_X7_92 (mm_dec dk_X7_readPart 59 rfl) (c_X7_numberOfToken_q x.2.1 hl (d - 1) (by omega) h101c i101c (by first | exact mm_em_a (mm_or1 y101_0 (by omega)).2.2 t0 | (have z := (mm_or1 y101_0 (by omega)).2.2; have z5 := z.2.1; have z7 := z.2.2.2.1; have z8 := z.2.2.2.2.1; omega)) (by first | exact mm_em_a (mm_or1 y101_0 (by omega)).2.2 t0 | (have z := (mm_or1 y101_0 (by omega)).2.2; have z5 := z.2.1; have z7 := z.2.2.2.1; have z8 := z.2.2.2.2.1; omega)) (by first | exact mm_em_a (mm_or1 y101_0 (by omega)).2.2 t0 | (have z := (mm_or1 y101_0 (by omega)).2.2; have z5 := z.2.1; have z7 := z.2.2.2.1; have z8 := z.2.2.2.2.1; omega))) rfl rfl (Nat.le_of_ble_eq_true rfl) ⟨by decide, by decide⟩ rfl (fun r111 h111c hp111 => ?_) (fun _ _ q => q.elim)
        obtain ⟨b111, z111, y111_0⟩ := hp111
        rw [z111]
        refine mm_cVv (rest := []) C1 ev_X7_79 (mm_dec dk_X7_readPart 60 rfl) (c_X7_emit x.2.1 hl (d - 1) (by omega) h101c i101c r111) rfl rfl (Nat.le_of_ble_eq_true rfl) ⟨by decide, by decide⟩ rfl (fun h114c hp114 => ?_) (fun _ _ q => q.elim)
        obtain ⟨i114c, g114c⟩ := hp114
        have f114c : mm_fr [(63, 4), (63, 5), (63, 6), (63, 7), (63, 8), (63, 9), (63, 10)] [64] h h114c := mm_fr_tr f101c g114c (by decide +kernel)
        have q114c_36 : h114c.1 63 3 = h101c.1 63 3 := g114c.1 63 3 (by decide)
        have q114c_37 : h114c.1 63 5 = h101c.1 63 5 := g114c.1 63 5 (by decide)
        have q114c_38 : h114c.1 63 6 = h101c.1 63 6 := g114c.1 63 6 (by decide)
        have q114c_39 : h114c.1 63 7 = h101c.1 63 7 := g114c.1 63 7 (by decide)
        have q114c_40 : h114c.1 63 8 = h101c.1 63 8 := g114c.1 63 8 (by decide)
        have q114c_41 : h114c.1 63 9 = h101c.1 63 9 := g114c.1 63 9 (by decide)
        have q114c_42 : h114c.1 63 10 = h101c.1 63 10 := g114c.1 63 10 (by decide)
        refine mm_fgt 1 ?_
        exact J117 h114c i114c f114c (by first | exact mm_em_fr g94c (by decide) | exact mm_em_tr (mm_or1 y101_0 (by omega)).2.2 (mm_em_fr g114c (by decide))) (by first | (have zz := mm_hdx tf; omega) | (have z := mm_or1 y101_0 (by omega); have z1 := z.1; have z2 := z.2.1; have zz := mm_hdx tf; omega))
      · skip
        refine mm_iconst C (mm_dec dk_X7_readPart 55 rfl) ⟨by decide, by decide⟩ ?_
        exact mm_zret C T (mm_dec dk_X7_readPart 56 rfl) (by decide : 0 ≤ 0) (by decide : 0 ≤ 0) (by omega) ⟨_, rfl, ⟨⟨by omega, by omega⟩, i101c, f101c, by first | exact w37_0 | exact Or.inr ⟨by omega, mm_g7_bad (by have zz := mm_hdx tf; have zy := y57_0; omega) y57_1⟩ | (have z := mm_or0 y101_0 (by omega); exact Or.inr ⟨rfl, mm_g7_bad (by have := z.1; have zz := mm_hdx tf; omega) z.2⟩) | exact Or.inl ⟨rfl, mm_p7_part w117_1 w117_0 (mm_st7_of (mm_em_a w117_0 t0) y118_1 y118_2 g118c (by decide))⟩⟩⟩
    · skip
      refine mm_aload_n C (mm_dec dk_X7_readPart 24 rfl) rfl ?_
      refine mm_geti C fl_X7_28 (mm_dec dk_X7_readPart 25 rfl) rfl rfl (Or.inl rfl) ?_
      refine mm_bipush C (mm_dec dk_X7_readPart 26 rfl) ⟨by decide, by decide⟩ ?_
      refine mm_icmp_ge (tgt := 61) C (mm_dec dk_X7_readPart 27 rfl) (by decide) (fun c52 => ?_) (fun c52 => ?_)
      · skip
        refine mm_aload_n C (mm_dec dk_X7_readPart 32 rfl) rfl ?_
        refine mm_aload_n C (mm_dec dk_X7_readPart 33 rfl) rfl ?_
        refine mm_geti C fl_X7_28 (mm_dec dk_X7_readPart 34 rfl) rfl rfl (Or.inl rfl) ?_
        refine mm_bipush C (mm_dec dk_X7_readPart 35 rfl) ⟨by decide, by decide⟩ ?_
        have J94 : ∀ (s94_1 : Int) (bs94_1 : -2147483648 ≤ s94_1 ∧ s94_1 ≤ 2147483647), mm_W x 0 0 94 [mR 63, mU] [mI s94_1, mR 63] h := by
          intro s94_1 bs94_1
          have g43 : -2147483648 ≤ h.1 63 5 ∧ h.1 63 5 ≤ 2147483647 := i0.1 63 5
          have g44 : 0 ≤ h.1 63 7 ∧ h.1 63 7 ≤ 500 := i0.1 63 7
          have g45 : 0 ≤ h.1 63 8 ∧ h.1 63 8 ≤ 500 := i0.1 63 8
          have g46 : 0 ≤ h.1 63 3 ∧ h.1 63 3 ≤ 500 := i0.1 63 3
          have g47 : -2147483648 ≤ h.1 63 6 ∧ h.1 63 6 ≤ 2147483647 := i0.1 63 6
          have g48 : -2147483648 ≤ h.1 63 9 ∧ h.1 63 9 ≤ 2147483647 := i0.1 63 9
          have g49 : -2147483648 ≤ h.1 63 10 ∧ h.1 63 10 ≤ 2147483647 := i0.1 63 10
          refine mm_cVv (rest := []) C1 ev_X7_79 (mm_dec dk_X7_readPart 50 rfl) (c_X7_emit x.2.1 hl (d - 1) (by omega) h i0 s94_1) rfl rfl (Nat.le_of_ble_eq_true rfl) ⟨by decide, by decide⟩ rfl (fun h94c hp94 => ?_) (fun _ _ q => q.elim)
          obtain ⟨i94c, g94c⟩ := hp94
          have f94c : mm_fr [(63, 4), (63, 5), (63, 6), (63, 7), (63, 8), (63, 9), (63, 10)] [64] h h94c := mm_fr_tr f0 g94c (by decide +kernel)
          have q94c_51 : h94c.1 63 3 = h.1 63 3 := g94c.1 63 3 (by decide)
          have q94c_52 : h94c.1 63 5 = h.1 63 5 := g94c.1 63 5 (by decide)
          have q94c_53 : h94c.1 63 6 = h.1 63 6 := g94c.1 63 6 (by decide)
          have q94c_54 : h94c.1 63 7 = h.1 63 7 := g94c.1 63 7 (by decide)
          have q94c_55 : h94c.1 63 8 = h.1 63 8 := g94c.1 63 8 (by decide)
          have q94c_56 : h94c.1 63 9 = h.1 63 9 := g94c.1 63 9 (by decide)
          have q94c_57 : h94c.1 63 10 = h.1 63 10 := g94c.1 63 10 (by decide)
          refine mm_goto (tgt := 117) C (mm_dec dk_X7_readPart 51 rfl) (by decide) ?_
          exact J117 h94c i94c f94c (by first | exact mm_em_fr g94c (by decide) | exact mm_em_tr (mm_or1 y101_0 (by omega)).2.2 (mm_em_fr g114c (by decide))) (by first | (have zz := mm_hdx tf; omega) | (have z := mm_or1 y101_0 (by omega); have z1 := z.1; have z2 := z.2.1; have zz := mm_hdx tf; omega))
        refine mm_icmp_ge (tgt := 84) C (mm_dec dk_X7_readPart 36 rfl) (by decide) (fun c68 => ?_) (fun c68 => ?_)
        · skip
          refine mm_ldc (z := 100000) C (mm_dec dk_X7_readPart 44 rfl) kc_X7_127 (by decide) ?_
          refine mm_aload_n C (mm_dec dk_X7_readPart 45 rfl) rfl ?_
          refine mm_geti C fl_X7_28 (mm_dec dk_X7_readPart 46 rfl) rfl rfl (Or.inl rfl) ?_
          refine mm_iaddw C (mm_dec dk_X7_readPart 47 rfl) ?_
          have g58 : -2147483648 ≤ (mm_w (100000 + (h.1 63 6))) ∧ (mm_w (100000 + (h.1 63 6))) < 2147483648 := mm_w_rg _
          refine mm_bipush C (mm_dec dk_X7_readPart 48 rfl) ⟨by decide, by decide⟩ ?_
          refine mm_isubw C (mm_dec dk_X7_readPart 49 rfl) ?_
          have g59 : -2147483648 ≤ (mm_w ((mm_w (100000 + (h.1 63 6))) - 10)) ∧ (mm_w ((mm_w (100000 + (h.1 63 6))) - 10)) < 2147483648 := mm_w_rg _
          refine mm_fgt 1 ?_
          exact J94 (mm_w ((mm_w (100000 + (h.1 63 6))) - 10)) ⟨by omega, by omega⟩
        · skip
          refine mm_ldc (z := 100007) C (mm_dec dk_X7_readPart 37 rfl) kc_X7_126 (by decide) ?_
          refine mm_aload_n C (mm_dec dk_X7_readPart 38 rfl) rfl ?_
          refine mm_geti C fl_X7_28 (mm_dec dk_X7_readPart 39 rfl) rfl rfl (Or.inl rfl) ?_
          refine mm_iadd C (mm_dec dk_X7_readPart 40 rfl) ⟨by omega, by omega⟩ ?_
          refine mm_bipush C (mm_dec dk_X7_readPart 41 rfl) ⟨by decide, by decide⟩ ?_
          refine mm_isub C (mm_dec dk_X7_readPart 42 rfl) ⟨by omega, by omega⟩ ?_
          refine mm_goto (tgt := 94) C (mm_dec dk_X7_readPart 43 rfl) (by decide) ?_
          refine mm_fgt 1 ?_
          exact J94 ((100007 + (h.1 63 6)) - 7) ⟨by omega, by omega⟩
      · skip
        refine mm_aload_n C (mm_dec dk_X7_readPart 28 rfl) rfl ?_
        refine mm_iconst C (mm_dec dk_X7_readPart 29 rfl) ⟨by decide, by decide⟩ ?_
        refine mm_cVi (rest := []) C1 ev_X7_65 (mm_dec dk_X7_readPart 30 rfl) (c_X7_refuse_q x.2.1 hl (d - 1) (by omega) h i0 3) rfl rfl (Nat.le_of_ble_eq_true rfl) ⟨by decide, by decide⟩ rfl (fun r57 h57c hp57 => ?_) (fun _ _ q => q.elim)
        obtain ⟨b57, i57c, g57c, y57_0, y57_1⟩ := hp57
        have f57c : mm_fr [(63, 4), (63, 5), (63, 6), (63, 7), (63, 8), (63, 9), (63, 10)] [64] h h57c := mm_fr_tr f0 g57c (by decide +kernel)
        have q57c_61 : h57c.1 63 3 = h.1 63 3 := g57c.1 63 3 (by decide)
        have q57c_62 : h57c.1 63 5 = h.1 63 5 := g57c.1 63 5 (by decide)
        have q57c_63 : h57c.1 63 6 = h.1 63 6 := g57c.1 63 6 (by decide)
        have q57c_64 : h57c.1 63 7 = h.1 63 7 := g57c.1 63 7 (by decide)
        have q57c_65 : h57c.1 63 8 = h.1 63 8 := g57c.1 63 8 (by decide)
        have g66 : -2147483648 ≤ (h57c.1 63 9) ∧ (h57c.1 63 9) ≤ 2147483647 := i57c.1 63 9
        have g67 : -2147483648 ≤ (h57c.1 63 10) ∧ (h57c.1 63 10) ≤ 2147483647 := i57c.1 63 10
        exact mm_zret C T (mm_dec dk_X7_readPart 31 rfl) (by decide : 0 ≤ 0) (by decide : 0 ≤ 0) (by omega) ⟨_, rfl, ⟨⟨by omega, by omega⟩, i57c, f57c, by first | exact w37_0 | exact Or.inr ⟨by omega, mm_g7_bad (by have zz := mm_hdx tf; have zy := y57_0; omega) y57_1⟩ | (have z := mm_or0 y101_0 (by omega); exact Or.inr ⟨rfl, mm_g7_bad (by have := z.1; have zz := mm_hdx tf; omega) z.2⟩) | exact Or.inl ⟨rfl, mm_p7_part w117_1 w117_0 (mm_st7_of (mm_em_a w117_0 t0) y118_1 y118_2 g118c (by decide))⟩⟩⟩
  · skip
    refine mm_aload_n C (mm_dec dk_X7_readPart 4 rfl) rfl ?_
    refine mm_cVv (rest := []) C1 ev_X7_52 (mm_dec dk_X7_readPart 5 rfl) (c_X7_step_q x.2.1 hl (d - 1) (by omega) h i0 ) rfl rfl (Nat.le_of_ble_eq_true rfl) ⟨by decide, by decide⟩ rfl (fun h10c hp10 => ?_) (fun _ _ q => q.elim)
    obtain ⟨i10c, g10c, y10_0, y10_1, y10_2⟩ := hp10
    have f10c : mm_fr [(63, 4), (63, 5), (63, 6), (63, 7), (63, 8), (63, 9), (63, 10)] [64] h h10c := mm_fr_tr f0 g10c (by decide +kernel)
    have q10c_69 : h10c.1 63 3 = h.1 63 3 := g10c.1 63 3 (by decide)
    have q10c_70 : h10c.1 63 9 = h.1 63 9 := g10c.1 63 9 (by decide)
    have q10c_71 : h10c.1 63 10 = h.1 63 10 := g10c.1 63 10 (by decide)
    have g72 : -2147483648 ≤ (h10c.1 63 5) ∧ (h10c.1 63 5) ≤ 2147483647 := i10c.1 63 5
    have g73 : 0 ≤ (h10c.1 63 7) ∧ (h10c.1 63 7) ≤ 500 := i10c.1 63 7
    have g74 : 0 ≤ (h10c.1 63 8) ∧ (h10c.1 63 8) ≤ 500 := i10c.1 63 8
    have g75 : -2147483648 ≤ (h10c.1 63 6) ∧ (h10c.1 63 6) ≤ 2147483647 := i10c.1 63 6
    have zs := mm_st7_of t0 y10_1 y10_2 g10c (by decide)
    refine mm_aload_n C (mm_dec dk_X7_readPart 6 rfl) rfl ?_
    refine mm_iload_n C (mm_dec dk_X7_readPart 7 rfl) rfl ?_
    refine mm_iconst C (mm_dec dk_X7_readPart 8 rfl) ⟨by decide, by decide⟩ ?_
    refine mm_iadd C (mm_dec dk_X7_readPart 9 rfl) ⟨by omega, by omega⟩ ?_
    refine mm_cVi (rest := []) C1 ev_X7_75 (mm_dec dk_X7_readPart 10 rfl) (c_X7_readOr_q3 x.2.1 hl (d - 1) (by omega) h10c i10c (p1 + 1) ⟨by omega, by omega⟩ (by exact y10_1)) rfl rfl (Nat.le_of_ble_eq_true rfl) ⟨by decide, by decide⟩ rfl (fun r17 h17c hp17 => ?_) (fun _ _ q => q.elim)
    obtain ⟨b17, i17c, g17c, y17_0⟩ := hp17
    have f17c : mm_fr [(63, 4), (63, 5), (63, 6), (63, 7), (63, 8), (63, 9), (63, 10)] [64] h h17c := mm_fr_tr f10c g17c (by decide +kernel)
    have q17c_77 : h17c.1 63 3 = h10c.1 63 3 := g17c.1 63 3 (by decide)
    have g78 : -2147483648 ≤ (h17c.1 63 5) ∧ (h17c.1 63 5) ≤ 2147483647 := i17c.1 63 5
    have g79 : 0 ≤ (h17c.1 63 7) ∧ (h17c.1 63 7) ≤ 500 := i17c.1 63 7
    have g80 : 0 ≤ (h17c.1 63 8) ∧ (h17c.1 63 8) ≤ 500 := i17c.1 63 8
    have g81 : -2147483648 ≤ (h17c.1 63 6) ∧ (h17c.1 63 6) ≤ 2147483647 := i17c.1 63 6
    have g82 : -2147483648 ≤ (h17c.1 63 9) ∧ (h17c.1 63 9) ≤ 2147483647 := i17c.1 63 9
    have g83 : -2147483648 ≤ (h17c.1 63 10) ∧ (h17c.1 63 10) ≤ 2147483647 := i17c.1 63 10
    have J37 : ∀ (s37_0 : Int) (bs37_0 : 0 ≤ s37_0 ∧ s37_0 ≤ 1) (h37_ : mH) (i37_ : mm_inv h37_) (f37_ : mm_fr [(63, 4), (63, 5), (63, 6), (63, 7), (63, 8), (63, 9), (63, 10)] [64] h h37_) (w37_0 : ((s37_0 = 1 ∧ mm_p7 2 h h37_) ∨ (s37_0 = 0 ∧ mm_g7 2 h h37_))), mm_W x 0 0 37 [mU, mU] [mI s37_0] h37_ := by
      intro s37_0 bs37_0 h37_ i37_ f37_ w37_0
      have g84 : -2147483648 ≤ h37_.1 63 5 ∧ h37_.1 63 5 ≤ 2147483647 := i37_.1 63 5
      have g85 : 0 ≤ h37_.1 63 7 ∧ h37_.1 63 7 ≤ 500 := i37_.1 63 7
      have g86 : 0 ≤ h37_.1 63 8 ∧ h37_.1 63 8 ≤ 500 := i37_.1 63 8
      have g87 : 0 ≤ h37_.1 63 3 ∧ h37_.1 63 3 ≤ 500 := i37_.1 63 3
      have g88 : -2147483648 ≤ h37_.1 63 6 ∧ h37_.1 63 6 ≤ 2147483647 := i37_.1 63 6
      have g89 : -2147483648 ≤ h37_.1 63 9 ∧ h37_.1 63 9 ≤ 2147483647 := i37_.1 63 9
      have g90 : -2147483648 ≤ h37_.1 63 10 ∧ h37_.1 63 10 ≤ 2147483647 := i37_.1 63 10
      have g91 : h37_.1 63 3 = h.1 63 3 := f37_.1 63 3 (by decide)
      exact mm_zret C T (mm_dec dk_X7_readPart 19 rfl) (by decide : 0 ≤ 0) (by decide : 0 ≤ 0) (by omega) ⟨_, rfl, ⟨⟨by omega, by omega⟩, i37_, f37_, by first | exact w37_0 | exact Or.inr ⟨by omega, mm_g7_bad (by have zz := mm_hdx tf; have zy := y57_0; omega) y57_1⟩ | (have z := mm_or0 y101_0 (by omega); exact Or.inr ⟨rfl, mm_g7_bad (by have := z.1; have zz := mm_hdx tf; omega) z.2⟩) | exact Or.inl ⟨rfl, mm_p7_part w117_1 w117_0 (mm_st7_of (mm_em_a w117_0 t0) y118_1 y118_2 g118c (by decide))⟩⟩⟩
    have J36 : ∀ (h36_ : mH) (i36_ : mm_inv h36_) (f36_ : mm_fr [(63, 4), (63, 5), (63, 6), (63, 7), (63, 8), (63, 9), (63, 10)] [64] h h36_) (w36_0 : mm_g7 2 h h36_), mm_W x 0 0 36 [mU, mU] [] h36_ := by
      intro h36_ i36_ f36_ w36_0
      have g92 : -2147483648 ≤ h36_.1 63 5 ∧ h36_.1 63 5 ≤ 2147483647 := i36_.1 63 5
      have g93 : 0 ≤ h36_.1 63 7 ∧ h36_.1 63 7 ≤ 500 := i36_.1 63 7
      have g94 : 0 ≤ h36_.1 63 8 ∧ h36_.1 63 8 ≤ 500 := i36_.1 63 8
      have g95 : 0 ≤ h36_.1 63 3 ∧ h36_.1 63 3 ≤ 500 := i36_.1 63 3
      have g96 : -2147483648 ≤ h36_.1 63 6 ∧ h36_.1 63 6 ≤ 2147483647 := i36_.1 63 6
      have g97 : -2147483648 ≤ h36_.1 63 9 ∧ h36_.1 63 9 ≤ 2147483647 := i36_.1 63 9
      have g98 : -2147483648 ≤ h36_.1 63 10 ∧ h36_.1 63 10 ≤ 2147483647 := i36_.1 63 10
      have g99 : h36_.1 63 3 = h.1 63 3 := f36_.1 63 3 (by decide)
      refine mm_iconst C (mm_dec dk_X7_readPart 18 rfl) ⟨by decide, by decide⟩ ?_
      exact J37 0 ⟨by omega, by omega⟩ h36_ i36_ f36_ (by first | exact Or.inr ⟨rfl, w36_0⟩ | (have z := mm_or1 y26_0 (by omega); exact Or.inl ⟨rfl, mm_p7_par (by decide) (by have zz := mm_hdx tf; omega) zs zq.1 (by have := z.1; omega) z.2⟩))
    refine mm_if_eq (tgt := 36) C (mm_dec dk_X7_readPart 11 rfl) (by decide) (fun c20 => ?_) (fun c20 => ?_)
    · skip
      refine mm_fgt 0 ?_
      refine mm_fgt 1 ?_
      exact J36 h17c i17c f17c (by first | exact mm_g7_par (by decide) (by have zz := mm_hdx tf; omega) zs (mm_or0 y17_0 (by omega)) | (have z := mm_or0 y26_0 (by omega); exact mm_g7_shut (by decide) (by have zz := mm_hdx tf; omega) zs zq.1 zq.2 (fun q => z.1 (by omega)) z.2.1 z.2.2))
    · skip
      have zq := mm_or1 y17_0 (by omega)
      have tg := mm_cX_h i17c zq.1.1.2.1
      have th := mm_cX_r i17c zq.1.1.2.1
      refine mm_aload_n C (mm_dec dk_X7_readPart 12 rfl) rfl ?_
      refine mm_bipush C (mm_dec dk_X7_readPart 13 rfl) ⟨by decide, by decide⟩ ?_
      refine mm_cVi (rest := []) C1 ev_X7_72 (mm_dec dk_X7_readPart 14 rfl) (c_X7_readSign_q x.2.1 hl (d - 1) (by omega) h17c i17c 41 ⟨by omega, by omega⟩ (by exact zq.1.1.2.1)) rfl rfl (Nat.le_of_ble_eq_true rfl) ⟨by decide, by decide⟩ rfl (fun r26 h26c hp26 => ?_) (fun _ _ q => q.elim)
      obtain ⟨b26, i26c, g26c, y26_0⟩ := hp26
      have f26c : mm_fr [(63, 4), (63, 5), (63, 6), (63, 7), (63, 8), (63, 9), (63, 10)] [64] h h26c := mm_fr_tr f17c g26c (by decide +kernel)
      have q26c_101 : h26c.1 63 3 = h17c.1 63 3 := g26c.1 63 3 (by decide)
      have g102 : -2147483648 ≤ (h26c.1 63 5) ∧ (h26c.1 63 5) ≤ 2147483647 := i26c.1 63 5
      have g103 : 0 ≤ (h26c.1 63 7) ∧ (h26c.1 63 7) ≤ 500 := i26c.1 63 7
      have g104 : 0 ≤ (h26c.1 63 8) ∧ (h26c.1 63 8) ≤ 500 := i26c.1 63 8
      have g105 : -2147483648 ≤ (h26c.1 63 6) ∧ (h26c.1 63 6) ≤ 2147483647 := i26c.1 63 6
      have g106 : -2147483648 ≤ (h26c.1 63 9) ∧ (h26c.1 63 9) ≤ 2147483647 := i26c.1 63 9
      have g107 : -2147483648 ≤ (h26c.1 63 10) ∧ (h26c.1 63 10) ≤ 2147483647 := i26c.1 63 10
      refine mm_if_eq (tgt := 36) C (mm_dec dk_X7_readPart 15 rfl) (by decide) (fun c29 => ?_) (fun c29 => ?_)
      · skip
        refine mm_fgt 0 ?_
        refine mm_fgt 1 ?_
        exact J36 h26c i26c f26c (by first | exact mm_g7_par (by decide) (by have zz := mm_hdx tf; omega) zs (mm_or0 y17_0 (by omega)) | (have z := mm_or0 y26_0 (by omega); exact mm_g7_shut (by decide) (by have zz := mm_hdx tf; omega) zs zq.1 zq.2 (fun q => z.1 (by omega)) z.2.1 z.2.2))
      · skip
        refine mm_iconst C (mm_dec dk_X7_readPart 16 rfl) ⟨by decide, by decide⟩ ?_
        refine mm_goto (tgt := 37) C (mm_dec dk_X7_readPart 17 rfl) (by decide) ?_
        refine mm_fgt 0 ?_
        refine mm_fgt 1 ?_
        exact J37 1 ⟨by omega, by omega⟩ h26c i26c f26c (by first | exact Or.inr ⟨rfl, w36_0⟩ | (have z := mm_or1 y26_0 (by omega); exact Or.inl ⟨rfl, mm_p7_par (by decide) (by have zz := mm_hdx tf; omega) zs zq.1 (by have := z.1; omega) z.2⟩))
set_option maxRecDepth 100000 in
set_option maxHeartbeats 4000000 in
theorem c_X7_readProduct_q2 (l : Launch) (hl : l.stackTraces = false) (d : Nat) (hd : 28 ≤ d) (h : mH) (i0 : mm_inv h) (p1 : Int) (bp1 : 2 ≤ p1 ∧ p1 ≤ 2) (t0 : mm_aX h) : mm_Met l d yX7_readProduct cX7_readProduct 4 (some .boolean) [mR 63, mI p1] h (mm_pi fun r h2 => (0 ≤ r ∧ r ≤ 1) ∧ mm_inv h2 ∧ mm_fr [(63, 4), (63, 5), (63, 6), (63, 7), (63, 8), (63, 9), (63, 10)] [64] h h2 ∧ ((r = 1 ∧ mm_p7 2 h h2 ∧ mm_nA h2) ∨ (r = 0 ∧ mm_g7 2 h h2))) mm_nx 0 0 := by
  refine mm_ofW (ls := [mR 63, mI p1, mU, mU]) hl (by decide) rfl (Nat.le_of_ble_eq_true rfl) ?_
  intro x hxl C T hnm htb
  subst hxl
  have C1 := mm_OK_le (d' := d - 1 + 1) (by omega) C
  have C8 := mm_OK_le (d' := d - 8 + 8) (by omega) C
  refine mm_rng (fun hr _ => ?_)
  have ap1 : -2147483648 ≤ p1 ∧ p1 < 2147483648 := mm_ok_at hr (i := 1) rfl
  have f0 : mm_fr [(63, 4), (63, 5), (63, 6), (63, 7), (63, 8), (63, 9), (63, 10)] [64] h h := mm_fr_rf
  have g1 : -2147483648 ≤ h.1 63 5 ∧ h.1 63 5 ≤ 2147483647 := i0.1 63 5
  have g2 : 0 ≤ h.1 63 7 ∧ h.1 63 7 ≤ 500 := i0.1 63 7
  have g3 : 0 ≤ h.1 63 8 ∧ h.1 63 8 ≤ 500 := i0.1 63 8
  have g4 : 0 ≤ h.1 63 3 ∧ h.1 63 3 ≤ 500 := i0.1 63 3
  have g5 : -2147483648 ≤ h.1 63 6 ∧ h.1 63 6 ≤ 2147483647 := i0.1 63 6
  have g6 : -2147483648 ≤ h.1 63 9 ∧ h.1 63 9 ≤ 2147483647 := i0.1 63 9
  have g7 : -2147483648 ≤ h.1 63 10 ∧ h.1 63 10 ≤ 2147483647 := i0.1 63 10
  have tf := mm_cX_h i0 t0
  have tr := mm_cX_r i0 t0
  refine mm_aload_n C (mm_dec dk_X7_readProduct 0 rfl) rfl ?_
  refine mm_iload_n C (mm_dec dk_X7_readProduct 1 rfl) rfl ?_
  refine mm_cVi (rest := []) C1 ev_X7_121 (mm_dec dk_X7_readProduct 2 rfl) (c_X7_readPart_q2 x.2.1 hl (d - 1) (by omega) h i0 p1 ⟨by omega, by omega⟩ (by exact t0)) rfl rfl (Nat.le_of_ble_eq_true rfl) ⟨by decide, by decide⟩ rfl (fun r2 h2c hp2 => ?_) (fun _ _ q => q.elim)
  obtain ⟨b2, i2c, g2c, y2_0⟩ := hp2
  have f2c : mm_fr [(63, 4), (63, 5), (63, 6), (63, 7), (63, 8), (63, 9), (63, 10)] [64] h h2c := mm_fr_tr f0 g2c (by decide +kernel)
  have q2c_9 : h2c.1 63 3 = h.1 63 3 := g2c.1 63 3 (by decide)
  have g10 : -2147483648 ≤ (h2c.1 63 5) ∧ (h2c.1 63 5) ≤ 2147483647 := i2c.1 63 5
  have g11 : 0 ≤ (h2c.1 63 7) ∧ (h2c.1 63 7) ≤ 500 := i2c.1 63 7
  have g12 : 0 ≤ (h2c.1 63 8) ∧ (h2c.1 63 8) ≤ 500 := i2c.1 63 8
  have g13 : -2147483648 ≤ (h2c.1 63 6) ∧ (h2c.1 63 6) ≤ 2147483647 := i2c.1 63 6
  have g14 : -2147483648 ≤ (h2c.1 63 9) ∧ (h2c.1 63 9) ≤ 2147483647 := i2c.1 63 9
  have g15 : -2147483648 ≤ (h2c.1 63 10) ∧ (h2c.1 63 10) ≤ 2147483647 := i2c.1 63 10
  refine mm_if_ne (tgt := 10) C (mm_dec dk_X7_readProduct 3 rfl) (by decide) (fun c5 => ?_) (fun c5 => ?_)
  · skip
    refine mm_iconst C (mm_dec dk_X7_readProduct 6 rfl) ⟨by decide, by decide⟩ ?_
    have J12 : ∀ (n : Nat) (x12_2 : Int) (bx12_2 : 0 ≤ x12_2 ∧ x12_2 ≤ 500) (h12_ : mH) (i12_ : mm_inv h12_) (f12_ : mm_fr [(63, 4), (63, 5), (63, 6), (63, 7), (63, 8), (63, 9), (63, 10)] [64] h h12_) (w12_0 : mm_p7 2 h h12_) (w12_1 : x12_2 ≤ h12_.1 63 7), (500 - x12_2 : Int) < n → mm_W x 0 0 12 [mR 63, mI p1, mI x12_2, mU] [] h12_ := by
      intro n
      induction n with
      | zero =>
        intro x12_2 bx12_2 h12_ i12_ f12_ w12_0 w12_1 hm
        have g16 : -2147483648 ≤ h12_.1 63 5 ∧ h12_.1 63 5 ≤ 2147483647 := i12_.1 63 5
        have g17 : 0 ≤ h12_.1 63 7 ∧ h12_.1 63 7 ≤ 500 := i12_.1 63 7
        have g18 : 0 ≤ h12_.1 63 8 ∧ h12_.1 63 8 ≤ 500 := i12_.1 63 8
        have g19 : 0 ≤ h12_.1 63 3 ∧ h12_.1 63 3 ≤ 500 := i12_.1 63 3
        have g20 : -2147483648 ≤ h12_.1 63 6 ∧ h12_.1 63 6 ≤ 2147483647 := i12_.1 63 6
        have g21 : -2147483648 ≤ h12_.1 63 9 ∧ h12_.1 63 9 ≤ 2147483647 := i12_.1 63 9
        have g22 : -2147483648 ≤ h12_.1 63 10 ∧ h12_.1 63 10 ≤ 2147483647 := i12_.1 63 10
        exfalso; omega
      | succ n ih12 =>
        intro x12_2 bx12_2 h12_ i12_ f12_ w12_0 w12_1 hm12
        have g23 : -2147483648 ≤ h12_.1 63 5 ∧ h12_.1 63 5 ≤ 2147483647 := i12_.1 63 5
        have g24 : 0 ≤ h12_.1 63 7 ∧ h12_.1 63 7 ≤ 500 := i12_.1 63 7
        have g25 : 0 ≤ h12_.1 63 8 ∧ h12_.1 63 8 ≤ 500 := i12_.1 63 8
        have g26 : 0 ≤ h12_.1 63 3 ∧ h12_.1 63 3 ≤ 500 := i12_.1 63 3
        have g27 : -2147483648 ≤ h12_.1 63 6 ∧ h12_.1 63 6 ≤ 2147483647 := i12_.1 63 6
        have g28 : -2147483648 ≤ h12_.1 63 9 ∧ h12_.1 63 9 ≤ 2147483647 := i12_.1 63 9
        have g29 : -2147483648 ≤ h12_.1 63 10 ∧ h12_.1 63 10 ≤ 2147483647 := i12_.1 63 10
        have g30 : h12_.1 63 3 = h.1 63 3 := f12_.1 63 3 (by decide)
        have tf12 := mm_cX_h i12_ w12_0.1.2.1
        have tr12 := mm_cX_r i12_ w12_0.1.2.1
        refine mm_iload_n C (mm_dec dk_X7_readProduct 8 rfl) rfl ?_
        refine mm_sipush C (mm_dec dk_X7_readProduct 9 rfl) ⟨by decide, by decide⟩ ?_
        have J79 : ∀ (w79_0 : mm_nA h12_), mm_W x 0 0 79 [mU, mU, mU, mU] [] h12_ := by
          intro w79_0
          have g31 : -2147483648 ≤ h12_.1 63 5 ∧ h12_.1 63 5 ≤ 2147483647 := i12_.1 63 5
          have g32 : 0 ≤ h12_.1 63 7 ∧ h12_.1 63 7 ≤ 500 := i12_.1 63 7
          have g33 : 0 ≤ h12_.1 63 8 ∧ h12_.1 63 8 ≤ 500 := i12_.1 63 8
          have g34 : 0 ≤ h12_.1 63 3 ∧ h12_.1 63 3 ≤ 500 := i12_.1 63 3
          have g35 : -2147483648 ≤ h12_.1 63 6 ∧ h12_.1 63 6 ≤ 2147483647 := i12_.1 63 6
          have g36 : -2147483648 ≤ h12_.1 63 9 ∧ h12_.1 63 9 ≤ 2147483647 := i12_.1 63 9
          have g37 : -2147483648 ≤ h12_.1 63 10 ∧ h12_.1 63 10 ≤ 2147483647 := i12_.1 63 10
          refine mm_iconst C (mm_dec dk_X7_readProduct 40 rfl) ⟨by decide, by decide⟩ ?_
          exact mm_zret C T (mm_dec dk_X7_readProduct 41 rfl) (by decide : 0 ≤ 0) (by decide : 0 ≤ 0) (by omega) ⟨_, rfl, ⟨⟨by omega, by omega⟩, i12_, f12_, by first | exact Or.inl ⟨rfl, w12_0, w79_0⟩ | exact Or.inr ⟨rfl, mm_or0 y2_0 (by omega)⟩ | exact Or.inr ⟨rfl, mm_g7_op w12_0 (by omega) zs (mm_or0 y60_0 (by omega))⟩⟩⟩
        refine mm_icmp_ge (tgt := 79) C (mm_dec dk_X7_readProduct 10 rfl) (by decide) (fun c16 => ?_) (fun c16 => ?_)
        · skip
          refine mm_fgt 0 ?_
          refine mm_fgt 1 ?_
          refine mm_fgt 2 ?_
          exact J79 (by (unfold mm_nA; have zz := mm_hdx tf12; omega))
        · skip
          refine mm_aload_n C (mm_dec dk_X7_readProduct 11 rfl) rfl ?_
          refine mm_bipush C (mm_dec dk_X7_readProduct 12 rfl) ⟨by decide, by decide⟩ ?_
          refine mm_cVi (rest := []) C1 ev_X7_96 (mm_dec dk_X7_readProduct 13 rfl) (c_X7_isSign x.2.1 hl (d - 1) (by omega) h12_ i12_ 42 (by omega)) rfl rfl (Nat.le_of_ble_eq_true rfl) ⟨by decide, by decide⟩ rfl (fun r22 h22c hp22 => ?_) (fun _ _ q => q.elim)
          obtain ⟨z22, y22⟩ := hp22
          rw [z22]
          have g39 : -2147483648 ≤ (h12_.2.1 62 (h12_.1 63 7)) ∧ (h12_.2.1 62 (h12_.1 63 7)) ≤ 2147483647 := i12_.2.1 62 (h12_.1 63 7)
          have J37 : ∀ (w37_0 : (mm_cX h12_ = 142 ∨ mm_cX h12_ = 147)), mm_W x 0 0 37 [mR 63, mI p1, mI x12_2, mU] [] h12_ := by
            intro w37_0
            have g40 : -2147483648 ≤ h12_.1 63 5 ∧ h12_.1 63 5 ≤ 2147483647 := i12_.1 63 5
            have g41 : 0 ≤ h12_.1 63 7 ∧ h12_.1 63 7 ≤ 500 := i12_.1 63 7
            have g42 : 0 ≤ h12_.1 63 8 ∧ h12_.1 63 8 ≤ 500 := i12_.1 63 8
            have g43 : 0 ≤ h12_.1 63 3 ∧ h12_.1 63 3 ≤ 500 := i12_.1 63 3
            have g44 : -2147483648 ≤ h12_.1 63 6 ∧ h12_.1 63 6 ≤ 2147483647 := i12_.1 63 6
            have g45 : -2147483648 ≤ h12_.1 63 9 ∧ h12_.1 63 9 ≤ 2147483647 := i12_.1 63 9
            have g46 : -2147483648 ≤ h12_.1 63 10 ∧ h12_.1 63 10 ≤ 2147483647 := i12_.1 63 10
            refine mm_aload_n C (mm_dec dk_X7_readProduct 19 rfl) rfl ?_
            refine mm_bipush C (mm_dec dk_X7_readProduct 20 rfl) ⟨by decide, by decide⟩ ?_
            refine mm_cVi (rest := []) C1 ev_X7_96 (mm_dec dk_X7_readProduct 21 rfl) (c_X7_isSign x.2.1 hl (d - 1) (by omega) h12_ i12_ 42 (by omega)) rfl rfl (Nat.le_of_ble_eq_true rfl) ⟨by decide, by decide⟩ rfl (fun r40 h40c hp40 => ?_) (fun _ _ q => q.elim)
            obtain ⟨z40, y40⟩ := hp40
            rw [z40]
            have J53 : ∀ (s53_0 : Int) (bs53_0 : 100017 ≤ s53_0 ∧ s53_0 ≤ 100018) (vs53_0 : (r40 ≠ 0 ∧ s53_0 = 100017) ∨ (r40 = 0 ∧ s53_0 = 100018)), mm_W x 0 0 53 [mR 63, mI p1, mI x12_2, mU] [mI s53_0] h12_ := by
              intro s53_0 bs53_0 vs53_0
              have g48 : -2147483648 ≤ h12_.1 63 5 ∧ h12_.1 63 5 ≤ 2147483647 := i12_.1 63 5
              have g49 : 0 ≤ h12_.1 63 7 ∧ h12_.1 63 7 ≤ 500 := i12_.1 63 7
              have g50 : 0 ≤ h12_.1 63 8 ∧ h12_.1 63 8 ≤ 500 := i12_.1 63 8
              have g51 : 0 ≤ h12_.1 63 3 ∧ h12_.1 63 3 ≤ 500 := i12_.1 63 3
              have g52 : -2147483648 ≤ h12_.1 63 6 ∧ h12_.1 63 6 ≤ 2147483647 := i12_.1 63 6
              have g53 : -2147483648 ≤ h12_.1 63 9 ∧ h12_.1 63 9 ≤ 2147483647 := i12_.1 63 9
              have g54 : -2147483648 ≤ h12_.1 63 10 ∧ h12_.1 63 10 ≤ 2147483647 := i12_.1 63 10
              refine mm_istore_nL (ls2 := [mR 63, mI p1, mI x12_2, mI s53_0]) C (mm_dec dk_X7_readProduct 26 rfl) (by decide) rfl ?_
              refine mm_aload_n C (mm_dec dk_X7_readProduct 27 rfl) rfl ?_
              refine mm_cVv (rest := []) C1 ev_X7_52 (mm_dec dk_X7_readProduct 28 rfl) (c_X7_step_q x.2.1 hl (d - 1) (by omega) h12_ i12_ ) rfl rfl (Nat.le_of_ble_eq_true rfl) ⟨by decide, by decide⟩ rfl (fun h55c hp55 => ?_) (fun _ _ q => q.elim)
              obtain ⟨i55c, g55c, y55_0, y55_1, y55_2⟩ := hp55
              have f55c : mm_fr [(63, 4), (63, 5), (63, 6), (63, 7), (63, 8), (63, 9), (63, 10)] [64] h h55c := mm_fr_tr f12_ g55c (by decide +kernel)
              have q55c_56 : h55c.1 63 3 = h12_.1 63 3 := g55c.1 63 3 (by decide)
              have q55c_57 : h55c.1 63 9 = h12_.1 63 9 := g55c.1 63 9 (by decide)
              have q55c_58 : h55c.1 63 10 = h12_.1 63 10 := g55c.1 63 10 (by decide)
              have g59 : -2147483648 ≤ (h55c.1 63 5) ∧ (h55c.1 63 5) ≤ 2147483647 := i55c.1 63 5
              have g60 : 0 ≤ (h55c.1 63 7) ∧ (h55c.1 63 7) ≤ 500 := i55c.1 63 7
              have g61 : 0 ≤ (h55c.1 63 8) ∧ (h55c.1 63 8) ≤ 500 := i55c.1 63 8
              have g62 : -2147483648 ≤ (h55c.1 63 6) ∧ (h55c.1 63 6) ≤ 2147483647 := i55c.1 63 6
              have zs := mm_st7_of w12_0.1.2.1 y55_1 y55_2 g55c (by decide)
              have zl := mm_st7_lt zs (by omega)
              refine mm_aload_n C (mm_dec dk_X7_readProduct 29 rfl) rfl ?_
              refine mm_iload_n C (mm_dec dk_X7_readProduct 30 rfl) rfl ?_
              refine mm_cVi (rest := []) C1 ev_X7_121 (mm_dec dk_X7_readProduct 31 rfl) (c_X7_readPart_q2 x.2.1 hl (d - 1) (by omega) h55c i55c p1 ⟨by omega, by omega⟩ (by exact y55_1)) rfl rfl (Nat.le_of_ble_eq_true rfl) ⟨by decide, by decide⟩ rfl (fun r60 h60c hp60 => ?_) (fun _ _ q => q.elim)
              obtain ⟨b60, i60c, g60c, y60_0⟩ := hp60
              have f60c : mm_fr [(63, 4), (63, 5), (63, 6), (63, 7), (63, 8), (63, 9), (63, 10)] [64] h h60c := mm_fr_tr f55c g60c (by decide +kernel)
              have q60c_64 : h60c.1 63 3 = h55c.1 63 3 := g60c.1 63 3 (by decide)
              have g65 : -2147483648 ≤ (h60c.1 63 5) ∧ (h60c.1 63 5) ≤ 2147483647 := i60c.1 63 5
              have g66 : 0 ≤ (h60c.1 63 7) ∧ (h60c.1 63 7) ≤ 500 := i60c.1 63 7
              have g67 : 0 ≤ (h60c.1 63 8) ∧ (h60c.1 63 8) ≤ 500 := i60c.1 63 8
              have g68 : -2147483648 ≤ (h60c.1 63 6) ∧ (h60c.1 63 6) ≤ 2147483647 := i60c.1 63 6
              have g69 : -2147483648 ≤ (h60c.1 63 9) ∧ (h60c.1 63 9) ≤ 2147483647 := i60c.1 63 9
              have g70 : -2147483648 ≤ (h60c.1 63 10) ∧ (h60c.1 63 10) ≤ 2147483647 := i60c.1 63 10
              refine mm_if_ne (tgt := 68) C (mm_dec dk_X7_readProduct 32 rfl) (by decide) (fun c63 => ?_) (fun c63 => ?_)
              · skip
                refine mm_aload_n C (mm_dec dk_X7_readProduct 35 rfl) rfl ?_
                refine mm_iload_n C (mm_dec dk_X7_readProduct 36 rfl) rfl ?_
                refine mm_cVv (rest := []) C1 ev_X7_79 (mm_dec dk_X7_readProduct 37 rfl) (c_X7_emit x.2.1 hl (d - 1) (by omega) h60c i60c s53_0) rfl rfl (Nat.le_of_ble_eq_true rfl) ⟨by decide, by decide⟩ rfl (fun h70c hp70 => ?_) (fun _ _ q => q.elim)
                obtain ⟨i70c, g70c⟩ := hp70
                have f70c : mm_fr [(63, 4), (63, 5), (63, 6), (63, 7), (63, 8), (63, 9), (63, 10)] [64] h h70c := mm_fr_tr f60c g70c (by decide +kernel)
                have q70c_72 : h70c.1 63 3 = h60c.1 63 3 := g70c.1 63 3 (by decide)
                have q70c_73 : h70c.1 63 5 = h60c.1 63 5 := g70c.1 63 5 (by decide)
                have q70c_74 : h70c.1 63 6 = h60c.1 63 6 := g70c.1 63 6 (by decide)
                have q70c_75 : h70c.1 63 7 = h60c.1 63 7 := g70c.1 63 7 (by decide)
                have q70c_76 : h70c.1 63 8 = h60c.1 63 8 := g70c.1 63 8 (by decide)
                have q70c_77 : h70c.1 63 9 = h60c.1 63 9 := g70c.1 63 9 (by decide)
                have q70c_78 : h70c.1 63 10 = h60c.1 63 10 := g70c.1 63 10 (by decide)
                have zt := g70c.1 63 7 (by decide)
                have zu := (mm_or1 y60_0 (by omega)).2.1
                refine mm_iincL (ls2 := [mR 63, mI p1, mI (x12_2 + 1), mI s53_0]) C (mm_dec dk_X7_readProduct 38 rfl) rfl (by decide) ⟨by omega, by omega⟩ rfl ?_
                refine mm_goto (tgt := 12) C (mm_dec dk_X7_readProduct 39 rfl) (by decide) ?_
                refine mm_fgt 3 ?_
                exact ih12 (x12_2 + 1) ⟨by omega, by omega⟩ h70c i70c f70c (by first | exact (mm_or1 y2_0 (by omega)) | exact mm_p7_em (mm_p7_op w12_0 (by omega) zs (mm_or1 y60_0 (by omega))) (mm_em_fr g70c (by decide))) (by omega) (by omega)
              · skip
                refine mm_iconst C (mm_dec dk_X7_readProduct 33 rfl) ⟨by decide, by decide⟩ ?_
                exact mm_zret C T (mm_dec dk_X7_readProduct 34 rfl) (by decide : 0 ≤ 0) (by decide : 0 ≤ 0) (by omega) ⟨_, rfl, ⟨⟨by omega, by omega⟩, i60c, f60c, by first | exact Or.inl ⟨rfl, w12_0, w79_0⟩ | exact Or.inr ⟨rfl, mm_or0 y2_0 (by omega)⟩ | exact Or.inr ⟨rfl, mm_g7_op w12_0 (by omega) zs (mm_or0 y60_0 (by omega))⟩⟩⟩
            refine mm_if_eq (tgt := 51) C (mm_dec dk_X7_readProduct 22 rfl) (by decide) (fun c43 => ?_) (fun c43 => ?_)
            · skip
              refine mm_ldc (z := 100018) C (mm_dec dk_X7_readProduct 25 rfl) kc_X7_125 (by decide) ?_
              exact J53 100018 ⟨by omega, by omega⟩ (Or.inr (⟨by omega, rfl⟩))
            · skip
              refine mm_ldc (z := 100017) C (mm_dec dk_X7_readProduct 23 rfl) kc_X7_124 (by decide) ?_
              refine mm_goto (tgt := 53) C (mm_dec dk_X7_readProduct 24 rfl) (by decide) ?_
              exact J53 100017 ⟨by omega, by omega⟩ (Or.inl ⟨by omega, rfl⟩)
          refine mm_if_ne (tgt := 37) C (mm_dec dk_X7_readProduct 14 rfl) (by decide) (fun c25 => ?_) (fun c25 => ?_)
          · skip
            exact J37 (by have zz := mm_hdx tf12; omega)
          · skip
            refine mm_aload_n C (mm_dec dk_X7_readProduct 15 rfl) rfl ?_
            refine mm_bipush C (mm_dec dk_X7_readProduct 16 rfl) ⟨by decide, by decide⟩ ?_
            refine mm_cVi (rest := []) C1 ev_X7_96 (mm_dec dk_X7_readProduct 17 rfl) (c_X7_isSign x.2.1 hl (d - 1) (by omega) h12_ i12_ 47 (by omega)) rfl rfl (Nat.le_of_ble_eq_true rfl) ⟨by decide, by decide⟩ rfl (fun r31 h31c hp31 => ?_) (fun _ _ q => q.elim)
            obtain ⟨z31, y31⟩ := hp31
            rw [z31]
            refine mm_if_eq (tgt := 79) C (mm_dec dk_X7_readProduct 18 rfl) (by decide) (fun c34 => ?_) (fun c34 => ?_)
            · skip
              refine mm_fgt 0 ?_
              refine mm_fgt 1 ?_
              refine mm_fgt 2 ?_
              exact J79 (by (unfold mm_nA; have zz := mm_hdx tf12; omega))
            · skip
              exact J37 (by have zz := mm_hdx tf12; omega)
    refine mm_istore_nL (ls2 := [mR 63, mI p1, mI 0, mU]) C (mm_dec dk_X7_readProduct 7 rfl) (by decide) rfl ?_
    exact J12 (((500 - 0) : Int) + 1).toNat 0 ⟨by omega, by omega⟩ h2c i2c f2c (by first | exact (mm_or1 y2_0 (by omega)) | exact mm_p7_em (mm_p7_op w12_0 (by omega) zs (mm_or1 y60_0 (by omega))) (mm_em_fr g70c (by decide))) (by omega) (by omega)
  · skip
    refine mm_iconst C (mm_dec dk_X7_readProduct 4 rfl) ⟨by decide, by decide⟩ ?_
    exact mm_zret C T (mm_dec dk_X7_readProduct 5 rfl) (by decide : 0 ≤ 0) (by decide : 0 ≤ 0) (by omega) ⟨_, rfl, ⟨⟨by omega, by omega⟩, i2c, f2c, by first | exact Or.inl ⟨rfl, w12_0, w79_0⟩ | exact Or.inr ⟨rfl, mm_or0 y2_0 (by omega)⟩ | exact Or.inr ⟨rfl, mm_g7_op w12_0 (by omega) zs (mm_or0 y60_0 (by omega))⟩⟩⟩
set_option maxRecDepth 100000 in
set_option maxHeartbeats 4000000 in
theorem c_X7_readSum_q2 (l : Launch) (hl : l.stackTraces = false) (d : Nat) (hd : 29 ≤ d) (h : mH) (i0 : mm_inv h) (p1 : Int) (bp1 : 2 ≤ p1 ∧ p1 ≤ 2) (t0 : mm_aX h) : mm_Met l d yX7_readSum cX7_readSum 4 (some .boolean) [mR 63, mI p1] h (mm_pi fun r h2 => (0 ≤ r ∧ r ≤ 1) ∧ mm_inv h2 ∧ mm_fr [(63, 4), (63, 5), (63, 6), (63, 7), (63, 8), (63, 9), (63, 10)] [64] h h2 ∧ ((r = 1 ∧ mm_p7 2 h h2 ∧ mm_nB h2) ∨ (r = 0 ∧ mm_g7 2 h h2))) mm_nx 0 0 := by
  refine mm_ofW (ls := [mR 63, mI p1, mU, mU]) hl (by decide) rfl (Nat.le_of_ble_eq_true rfl) ?_
  intro x hxl C T hnm htb
  subst hxl
  have C1 := mm_OK_le (d' := d - 1 + 1) (by omega) C
  have C8 := mm_OK_le (d' := d - 8 + 8) (by omega) C
  refine mm_rng (fun hr _ => ?_)
  have ap1 : -2147483648 ≤ p1 ∧ p1 < 2147483648 := mm_ok_at hr (i := 1) rfl
  have f0 : mm_fr [(63, 4), (63, 5), (63, 6), (63, 7), (63, 8), (63, 9), (63, 10)] [64] h h := mm_fr_rf
  have g1 : -2147483648 ≤ h.1 63 5 ∧ h.1 63 5 ≤ 2147483647 := i0.1 63 5
  have g2 : 0 ≤ h.1 63 7 ∧ h.1 63 7 ≤ 500 := i0.1 63 7
  have g3 : 0 ≤ h.1 63 8 ∧ h.1 63 8 ≤ 500 := i0.1 63 8
  have g4 : 0 ≤ h.1 63 3 ∧ h.1 63 3 ≤ 500 := i0.1 63 3
  have g5 : -2147483648 ≤ h.1 63 6 ∧ h.1 63 6 ≤ 2147483647 := i0.1 63 6
  have g6 : -2147483648 ≤ h.1 63 9 ∧ h.1 63 9 ≤ 2147483647 := i0.1 63 9
  have g7 : -2147483648 ≤ h.1 63 10 ∧ h.1 63 10 ≤ 2147483647 := i0.1 63 10
  have tf := mm_cX_h i0 t0
  have tr := mm_cX_r i0 t0
  refine mm_aload_n C (mm_dec dk_X7_readSum 0 rfl) rfl ?_
  refine mm_iload_n C (mm_dec dk_X7_readSum 1 rfl) rfl ?_
  refine mm_cVi (rest := []) C1 ev_X7_116 (mm_dec dk_X7_readSum 2 rfl) (c_X7_readProduct_q2 x.2.1 hl (d - 1) (by omega) h i0 p1 ⟨by omega, by omega⟩ (by exact t0)) rfl rfl (Nat.le_of_ble_eq_true rfl) ⟨by decide, by decide⟩ rfl (fun r2 h2c hp2 => ?_) (fun _ _ q => q.elim)
  obtain ⟨b2, i2c, g2c, y2_0⟩ := hp2
  have f2c : mm_fr [(63, 4), (63, 5), (63, 6), (63, 7), (63, 8), (63, 9), (63, 10)] [64] h h2c := mm_fr_tr f0 g2c (by decide +kernel)
  have q2c_9 : h2c.1 63 3 = h.1 63 3 := g2c.1 63 3 (by decide)
  have g10 : -2147483648 ≤ (h2c.1 63 5) ∧ (h2c.1 63 5) ≤ 2147483647 := i2c.1 63 5
  have g11 : 0 ≤ (h2c.1 63 7) ∧ (h2c.1 63 7) ≤ 500 := i2c.1 63 7
  have g12 : 0 ≤ (h2c.1 63 8) ∧ (h2c.1 63 8) ≤ 500 := i2c.1 63 8
  have g13 : -2147483648 ≤ (h2c.1 63 6) ∧ (h2c.1 63 6) ≤ 2147483647 := i2c.1 63 6
  have g14 : -2147483648 ≤ (h2c.1 63 9) ∧ (h2c.1 63 9) ≤ 2147483647 := i2c.1 63 9
  have g15 : -2147483648 ≤ (h2c.1 63 10) ∧ (h2c.1 63 10) ≤ 2147483647 := i2c.1 63 10
  refine mm_if_ne (tgt := 10) C (mm_dec dk_X7_readSum 3 rfl) (by decide) (fun c5 => ?_) (fun c5 => ?_)
  · skip
    refine mm_iconst C (mm_dec dk_X7_readSum 6 rfl) ⟨by decide, by decide⟩ ?_
    have J12 : ∀ (n : Nat) (x12_2 : Int) (bx12_2 : 0 ≤ x12_2 ∧ x12_2 ≤ 500) (h12_ : mH) (i12_ : mm_inv h12_) (f12_ : mm_fr [(63, 4), (63, 5), (63, 6), (63, 7), (63, 8), (63, 9), (63, 10)] [64] h h12_) (w12_0 : mm_p7 2 h h12_) (w12_1 : x12_2 ≤ h12_.1 63 7) (w12_2 : mm_nA h12_), (500 - x12_2 : Int) < n → mm_W x 0 0 12 [mR 63, mI p1, mI x12_2, mU] [] h12_ := by
      intro n
      induction n with
      | zero =>
        intro x12_2 bx12_2 h12_ i12_ f12_ w12_0 w12_1 w12_2 hm
        have g16 : -2147483648 ≤ h12_.1 63 5 ∧ h12_.1 63 5 ≤ 2147483647 := i12_.1 63 5
        have g17 : 0 ≤ h12_.1 63 7 ∧ h12_.1 63 7 ≤ 500 := i12_.1 63 7
        have g18 : 0 ≤ h12_.1 63 8 ∧ h12_.1 63 8 ≤ 500 := i12_.1 63 8
        have g19 : 0 ≤ h12_.1 63 3 ∧ h12_.1 63 3 ≤ 500 := i12_.1 63 3
        have g20 : -2147483648 ≤ h12_.1 63 6 ∧ h12_.1 63 6 ≤ 2147483647 := i12_.1 63 6
        have g21 : -2147483648 ≤ h12_.1 63 9 ∧ h12_.1 63 9 ≤ 2147483647 := i12_.1 63 9
        have g22 : -2147483648 ≤ h12_.1 63 10 ∧ h12_.1 63 10 ≤ 2147483647 := i12_.1 63 10
        exfalso; omega
      | succ n ih12 =>
        intro x12_2 bx12_2 h12_ i12_ f12_ w12_0 w12_1 w12_2 hm12
        have g23 : -2147483648 ≤ h12_.1 63 5 ∧ h12_.1 63 5 ≤ 2147483647 := i12_.1 63 5
        have g24 : 0 ≤ h12_.1 63 7 ∧ h12_.1 63 7 ≤ 500 := i12_.1 63 7
        have g25 : 0 ≤ h12_.1 63 8 ∧ h12_.1 63 8 ≤ 500 := i12_.1 63 8
        have g26 : 0 ≤ h12_.1 63 3 ∧ h12_.1 63 3 ≤ 500 := i12_.1 63 3
        have g27 : -2147483648 ≤ h12_.1 63 6 ∧ h12_.1 63 6 ≤ 2147483647 := i12_.1 63 6
        have g28 : -2147483648 ≤ h12_.1 63 9 ∧ h12_.1 63 9 ≤ 2147483647 := i12_.1 63 9
        have g29 : -2147483648 ≤ h12_.1 63 10 ∧ h12_.1 63 10 ≤ 2147483647 := i12_.1 63 10
        have g30 : h12_.1 63 3 = h.1 63 3 := f12_.1 63 3 (by decide)
        have tf12 := mm_cX_h i12_ w12_0.1.2.1
        have tr12 := mm_cX_r i12_ w12_0.1.2.1
        refine mm_iload_n C (mm_dec dk_X7_readSum 8 rfl) rfl ?_
        refine mm_sipush C (mm_dec dk_X7_readSum 9 rfl) ⟨by decide, by decide⟩ ?_
        have J79 : ∀ (w79_0 : mm_nB h12_), mm_W x 0 0 79 [mU, mU, mU, mU] [] h12_ := by
          intro w79_0
          have g31 : -2147483648 ≤ h12_.1 63 5 ∧ h12_.1 63 5 ≤ 2147483647 := i12_.1 63 5
          have g32 : 0 ≤ h12_.1 63 7 ∧ h12_.1 63 7 ≤ 500 := i12_.1 63 7
          have g33 : 0 ≤ h12_.1 63 8 ∧ h12_.1 63 8 ≤ 500 := i12_.1 63 8
          have g34 : 0 ≤ h12_.1 63 3 ∧ h12_.1 63 3 ≤ 500 := i12_.1 63 3
          have g35 : -2147483648 ≤ h12_.1 63 6 ∧ h12_.1 63 6 ≤ 2147483647 := i12_.1 63 6
          have g36 : -2147483648 ≤ h12_.1 63 9 ∧ h12_.1 63 9 ≤ 2147483647 := i12_.1 63 9
          have g37 : -2147483648 ≤ h12_.1 63 10 ∧ h12_.1 63 10 ≤ 2147483647 := i12_.1 63 10
          refine mm_iconst C (mm_dec dk_X7_readSum 40 rfl) ⟨by decide, by decide⟩ ?_
          exact mm_zret C T (mm_dec dk_X7_readSum 41 rfl) (by decide : 0 ≤ 0) (by decide : 0 ≤ 0) (by omega) ⟨_, rfl, ⟨⟨by omega, by omega⟩, i12_, f12_, by first | exact Or.inl ⟨rfl, w12_0, w79_0⟩ | exact Or.inr ⟨rfl, mm_or0 y2_0 (by omega)⟩ | exact Or.inr ⟨rfl, mm_g7_op w12_0 (by omega) zs (mm_or0 y60_0 (by omega))⟩⟩⟩
        refine mm_icmp_ge (tgt := 79) C (mm_dec dk_X7_readSum 10 rfl) (by decide) (fun c16 => ?_) (fun c16 => ?_)
        · skip
          refine mm_fgt 0 ?_
          refine mm_fgt 1 ?_
          refine mm_fgt 2 ?_
          exact J79 (by (unfold mm_nB; have zz := mm_hdx tf12; have z := w12_2; unfold mm_nA at z; omega))
        · skip
          refine mm_aload_n C (mm_dec dk_X7_readSum 11 rfl) rfl ?_
          refine mm_bipush C (mm_dec dk_X7_readSum 12 rfl) ⟨by decide, by decide⟩ ?_
          refine mm_cVi (rest := []) C1 ev_X7_96 (mm_dec dk_X7_readSum 13 rfl) (c_X7_isSign x.2.1 hl (d - 1) (by omega) h12_ i12_ 43 (by omega)) rfl rfl (Nat.le_of_ble_eq_true rfl) ⟨by decide, by decide⟩ rfl (fun r22 h22c hp22 => ?_) (fun _ _ q => q.elim)
          obtain ⟨z22, y22⟩ := hp22
          rw [z22]
          have g39 : -2147483648 ≤ (h12_.2.1 62 (h12_.1 63 7)) ∧ (h12_.2.1 62 (h12_.1 63 7)) ≤ 2147483647 := i12_.2.1 62 (h12_.1 63 7)
          have J37 : ∀ (w37_0 : (mm_cX h12_ = 143 ∨ mm_cX h12_ = 145)), mm_W x 0 0 37 [mR 63, mI p1, mI x12_2, mU] [] h12_ := by
            intro w37_0
            have g40 : -2147483648 ≤ h12_.1 63 5 ∧ h12_.1 63 5 ≤ 2147483647 := i12_.1 63 5
            have g41 : 0 ≤ h12_.1 63 7 ∧ h12_.1 63 7 ≤ 500 := i12_.1 63 7
            have g42 : 0 ≤ h12_.1 63 8 ∧ h12_.1 63 8 ≤ 500 := i12_.1 63 8
            have g43 : 0 ≤ h12_.1 63 3 ∧ h12_.1 63 3 ≤ 500 := i12_.1 63 3
            have g44 : -2147483648 ≤ h12_.1 63 6 ∧ h12_.1 63 6 ≤ 2147483647 := i12_.1 63 6
            have g45 : -2147483648 ≤ h12_.1 63 9 ∧ h12_.1 63 9 ≤ 2147483647 := i12_.1 63 9
            have g46 : -2147483648 ≤ h12_.1 63 10 ∧ h12_.1 63 10 ≤ 2147483647 := i12_.1 63 10
            refine mm_aload_n C (mm_dec dk_X7_readSum 19 rfl) rfl ?_
            refine mm_bipush C (mm_dec dk_X7_readSum 20 rfl) ⟨by decide, by decide⟩ ?_
            refine mm_cVi (rest := []) C1 ev_X7_96 (mm_dec dk_X7_readSum 21 rfl) (c_X7_isSign x.2.1 hl (d - 1) (by omega) h12_ i12_ 43 (by omega)) rfl rfl (Nat.le_of_ble_eq_true rfl) ⟨by decide, by decide⟩ rfl (fun r40 h40c hp40 => ?_) (fun _ _ q => q.elim)
            obtain ⟨z40, y40⟩ := hp40
            rw [z40]
            have J53 : ∀ (s53_0 : Int) (bs53_0 : 100015 ≤ s53_0 ∧ s53_0 ≤ 100016) (vs53_0 : (r40 ≠ 0 ∧ s53_0 = 100015) ∨ (r40 = 0 ∧ s53_0 = 100016)), mm_W x 0 0 53 [mR 63, mI p1, mI x12_2, mU] [mI s53_0] h12_ := by
              intro s53_0 bs53_0 vs53_0
              have g48 : -2147483648 ≤ h12_.1 63 5 ∧ h12_.1 63 5 ≤ 2147483647 := i12_.1 63 5
              have g49 : 0 ≤ h12_.1 63 7 ∧ h12_.1 63 7 ≤ 500 := i12_.1 63 7
              have g50 : 0 ≤ h12_.1 63 8 ∧ h12_.1 63 8 ≤ 500 := i12_.1 63 8
              have g51 : 0 ≤ h12_.1 63 3 ∧ h12_.1 63 3 ≤ 500 := i12_.1 63 3
              have g52 : -2147483648 ≤ h12_.1 63 6 ∧ h12_.1 63 6 ≤ 2147483647 := i12_.1 63 6
              have g53 : -2147483648 ≤ h12_.1 63 9 ∧ h12_.1 63 9 ≤ 2147483647 := i12_.1 63 9
              have g54 : -2147483648 ≤ h12_.1 63 10 ∧ h12_.1 63 10 ≤ 2147483647 := i12_.1 63 10
              refine mm_istore_nL (ls2 := [mR 63, mI p1, mI x12_2, mI s53_0]) C (mm_dec dk_X7_readSum 26 rfl) (by decide) rfl ?_
              refine mm_aload_n C (mm_dec dk_X7_readSum 27 rfl) rfl ?_
              refine mm_cVv (rest := []) C1 ev_X7_52 (mm_dec dk_X7_readSum 28 rfl) (c_X7_step_q x.2.1 hl (d - 1) (by omega) h12_ i12_ ) rfl rfl (Nat.le_of_ble_eq_true rfl) ⟨by decide, by decide⟩ rfl (fun h55c hp55 => ?_) (fun _ _ q => q.elim)
              obtain ⟨i55c, g55c, y55_0, y55_1, y55_2⟩ := hp55
              have f55c : mm_fr [(63, 4), (63, 5), (63, 6), (63, 7), (63, 8), (63, 9), (63, 10)] [64] h h55c := mm_fr_tr f12_ g55c (by decide +kernel)
              have q55c_56 : h55c.1 63 3 = h12_.1 63 3 := g55c.1 63 3 (by decide)
              have q55c_57 : h55c.1 63 9 = h12_.1 63 9 := g55c.1 63 9 (by decide)
              have q55c_58 : h55c.1 63 10 = h12_.1 63 10 := g55c.1 63 10 (by decide)
              have g59 : -2147483648 ≤ (h55c.1 63 5) ∧ (h55c.1 63 5) ≤ 2147483647 := i55c.1 63 5
              have g60 : 0 ≤ (h55c.1 63 7) ∧ (h55c.1 63 7) ≤ 500 := i55c.1 63 7
              have g61 : 0 ≤ (h55c.1 63 8) ∧ (h55c.1 63 8) ≤ 500 := i55c.1 63 8
              have g62 : -2147483648 ≤ (h55c.1 63 6) ∧ (h55c.1 63 6) ≤ 2147483647 := i55c.1 63 6
              have zs := mm_st7_of w12_0.1.2.1 y55_1 y55_2 g55c (by decide)
              have zl := mm_st7_lt zs (by omega)
              refine mm_aload_n C (mm_dec dk_X7_readSum 29 rfl) rfl ?_
              refine mm_iload_n C (mm_dec dk_X7_readSum 30 rfl) rfl ?_
              refine mm_cVi (rest := []) C1 ev_X7_116 (mm_dec dk_X7_readSum 31 rfl) (c_X7_readProduct_q2 x.2.1 hl (d - 1) (by omega) h55c i55c p1 ⟨by omega, by omega⟩ (by exact y55_1)) rfl rfl (Nat.le_of_ble_eq_true rfl) ⟨by decide, by decide⟩ rfl (fun r60 h60c hp60 => ?_) (fun _ _ q => q.elim)
              obtain ⟨b60, i60c, g60c, y60_0⟩ := hp60
              have f60c : mm_fr [(63, 4), (63, 5), (63, 6), (63, 7), (63, 8), (63, 9), (63, 10)] [64] h h60c := mm_fr_tr f55c g60c (by decide +kernel)
              have q60c_64 : h60c.1 63 3 = h55c.1 63 3 := g60c.1 63 3 (by decide)
              have g65 : -2147483648 ≤ (h60c.1 63 5) ∧ (h60c.1 63 5) ≤ 2147483647 := i60c.1 63 5
              have g66 : 0 ≤ (h60c.1 63 7) ∧ (h60c.1 63 7) ≤ 500 := i60c.1 63 7
              have g67 : 0 ≤ (h60c.1 63 8) ∧ (h60c.1 63 8) ≤ 500 := i60c.1 63 8
              have g68 : -2147483648 ≤ (h60c.1 63 6) ∧ (h60c.1 63 6) ≤ 2147483647 := i60c.1 63 6
              have g69 : -2147483648 ≤ (h60c.1 63 9) ∧ (h60c.1 63 9) ≤ 2147483647 := i60c.1 63 9
              have g70 : -2147483648 ≤ (h60c.1 63 10) ∧ (h60c.1 63 10) ≤ 2147483647 := i60c.1 63 10
              refine mm_if_ne (tgt := 68) C (mm_dec dk_X7_readSum 32 rfl) (by decide) (fun c63 => ?_) (fun c63 => ?_)
              · skip
                refine mm_aload_n C (mm_dec dk_X7_readSum 35 rfl) rfl ?_
                refine mm_iload_n C (mm_dec dk_X7_readSum 36 rfl) rfl ?_
                refine mm_cVv (rest := []) C1 ev_X7_79 (mm_dec dk_X7_readSum 37 rfl) (c_X7_emit x.2.1 hl (d - 1) (by omega) h60c i60c s53_0) rfl rfl (Nat.le_of_ble_eq_true rfl) ⟨by decide, by decide⟩ rfl (fun h70c hp70 => ?_) (fun _ _ q => q.elim)
                obtain ⟨i70c, g70c⟩ := hp70
                have f70c : mm_fr [(63, 4), (63, 5), (63, 6), (63, 7), (63, 8), (63, 9), (63, 10)] [64] h h70c := mm_fr_tr f60c g70c (by decide +kernel)
                have q70c_72 : h70c.1 63 3 = h60c.1 63 3 := g70c.1 63 3 (by decide)
                have q70c_73 : h70c.1 63 5 = h60c.1 63 5 := g70c.1 63 5 (by decide)
                have q70c_74 : h70c.1 63 6 = h60c.1 63 6 := g70c.1 63 6 (by decide)
                have q70c_75 : h70c.1 63 7 = h60c.1 63 7 := g70c.1 63 7 (by decide)
                have q70c_76 : h70c.1 63 8 = h60c.1 63 8 := g70c.1 63 8 (by decide)
                have q70c_77 : h70c.1 63 9 = h60c.1 63 9 := g70c.1 63 9 (by decide)
                have q70c_78 : h70c.1 63 10 = h60c.1 63 10 := g70c.1 63 10 (by decide)
                have zt := g70c.1 63 7 (by decide)
                have zu := (mm_or1 y60_0 (by omega)).1.2.1
                refine mm_iincL (ls2 := [mR 63, mI p1, mI (x12_2 + 1), mI s53_0]) C (mm_dec dk_X7_readSum 38 rfl) rfl (by decide) ⟨by omega, by omega⟩ rfl ?_
                refine mm_goto (tgt := 12) C (mm_dec dk_X7_readSum 39 rfl) (by decide) ?_
                refine mm_fgt 3 ?_
                exact ih12 (x12_2 + 1) ⟨by omega, by omega⟩ h70c i70c f70c (by first | exact (mm_or1 y2_0 (by omega)).1 | exact mm_p7_em (mm_p7_op w12_0 (by omega) zs (mm_or1 y60_0 (by omega)).1) (mm_em_fr g70c (by decide))) (by omega) (by first | exact (mm_or1 y2_0 (by omega)).2 | exact mm_nA_em (mm_or1 y60_0 (by omega)).2 (mm_em_fr g70c (by decide))) (by omega)
              · skip
                refine mm_iconst C (mm_dec dk_X7_readSum 33 rfl) ⟨by decide, by decide⟩ ?_
                exact mm_zret C T (mm_dec dk_X7_readSum 34 rfl) (by decide : 0 ≤ 0) (by decide : 0 ≤ 0) (by omega) ⟨_, rfl, ⟨⟨by omega, by omega⟩, i60c, f60c, by first | exact Or.inl ⟨rfl, w12_0, w79_0⟩ | exact Or.inr ⟨rfl, mm_or0 y2_0 (by omega)⟩ | exact Or.inr ⟨rfl, mm_g7_op w12_0 (by omega) zs (mm_or0 y60_0 (by omega))⟩⟩⟩
            refine mm_if_eq (tgt := 51) C (mm_dec dk_X7_readSum 22 rfl) (by decide) (fun c43 => ?_) (fun c43 => ?_)
            · skip
              refine mm_ldc (z := 100016) C (mm_dec dk_X7_readSum 25 rfl) kc_X7_120 (by decide) ?_
              exact J53 100016 ⟨by omega, by omega⟩ (Or.inr (⟨by omega, rfl⟩))
            · skip
              refine mm_ldc (z := 100015) C (mm_dec dk_X7_readSum 23 rfl) kc_X7_119 (by decide) ?_
              refine mm_goto (tgt := 53) C (mm_dec dk_X7_readSum 24 rfl) (by decide) ?_
              exact J53 100015 ⟨by omega, by omega⟩ (Or.inl ⟨by omega, rfl⟩)
          refine mm_if_ne (tgt := 37) C (mm_dec dk_X7_readSum 14 rfl) (by decide) (fun c25 => ?_) (fun c25 => ?_)
          · skip
            exact J37 (by have zz := mm_hdx tf12; omega)
          · skip
            refine mm_aload_n C (mm_dec dk_X7_readSum 15 rfl) rfl ?_
            refine mm_bipush C (mm_dec dk_X7_readSum 16 rfl) ⟨by decide, by decide⟩ ?_
            refine mm_cVi (rest := []) C1 ev_X7_96 (mm_dec dk_X7_readSum 17 rfl) (c_X7_isSign x.2.1 hl (d - 1) (by omega) h12_ i12_ 45 (by omega)) rfl rfl (Nat.le_of_ble_eq_true rfl) ⟨by decide, by decide⟩ rfl (fun r31 h31c hp31 => ?_) (fun _ _ q => q.elim)
            obtain ⟨z31, y31⟩ := hp31
            rw [z31]
            refine mm_if_eq (tgt := 79) C (mm_dec dk_X7_readSum 18 rfl) (by decide) (fun c34 => ?_) (fun c34 => ?_)
            · skip
              refine mm_fgt 0 ?_
              refine mm_fgt 1 ?_
              refine mm_fgt 2 ?_
              exact J79 (by (unfold mm_nB; have zz := mm_hdx tf12; have z := w12_2; unfold mm_nA at z; omega))
            · skip
              exact J37 (by have zz := mm_hdx tf12; omega)
    refine mm_istore_nL (ls2 := [mR 63, mI p1, mI 0, mU]) C (mm_dec dk_X7_readSum 7 rfl) (by decide) rfl ?_
    exact J12 (((500 - 0) : Int) + 1).toNat 0 ⟨by omega, by omega⟩ h2c i2c f2c (by first | exact (mm_or1 y2_0 (by omega)).1 | exact mm_p7_em (mm_p7_op w12_0 (by omega) zs (mm_or1 y60_0 (by omega)).1) (mm_em_fr g70c (by decide))) (by omega) (by first | exact (mm_or1 y2_0 (by omega)).2 | exact mm_nA_em (mm_or1 y60_0 (by omega)).2 (mm_em_fr g70c (by decide))) (by omega)
  · skip
    refine mm_iconst C (mm_dec dk_X7_readSum 4 rfl) ⟨by decide, by decide⟩ ?_
    exact mm_zret C T (mm_dec dk_X7_readSum 5 rfl) (by decide : 0 ≤ 0) (by decide : 0 ≤ 0) (by omega) ⟨_, rfl, ⟨⟨by omega, by omega⟩, i2c, f2c, by first | exact Or.inl ⟨rfl, w12_0, w79_0⟩ | exact Or.inr ⟨rfl, mm_or0 y2_0 (by omega)⟩ | exact Or.inr ⟨rfl, mm_g7_op w12_0 (by omega) zs (mm_or0 y60_0 (by omega))⟩⟩⟩
set_option maxRecDepth 100000 in
set_option maxHeartbeats 4000000 in
theorem c_X7_readTest_q2 (l : Launch) (hl : l.stackTraces = false) (d : Nat) (hd : 30 ≤ d) (h : mH) (i0 : mm_inv h) (p1 : Int) (bp1 : 2 ≤ p1 ∧ p1 ≤ 2) (t0 : mm_aX h) : mm_Met l d yX7_readTest cX7_readTest 3 (some .boolean) [mR 63, mI p1] h (mm_pi fun r h2 => (0 ≤ r ∧ r ≤ 1) ∧ mm_inv h2 ∧ mm_fr [(63, 4), (63, 5), (63, 6), (63, 7), (63, 8), (63, 9), (63, 10)] [64] h h2 ∧ ((r = 1 ∧ mm_q7 1 2 h h2 ∧ mm_nB h2) ∨ (r = 0 ∧ mm_f7 1 2 h h2))) mm_nx 0 0 := by
  refine mm_ofW (ls := [mR 63, mI p1, mU]) hl (by decide) rfl (Nat.le_of_ble_eq_true rfl) ?_
  intro x hxl C T hnm htb
  subst hxl
  have C1 := mm_OK_le (d' := d - 1 + 1) (by omega) C
  have C8 := mm_OK_le (d' := d - 8 + 8) (by omega) C
  refine mm_rng (fun hr _ => ?_)
  have ap1 : -2147483648 ≤ p1 ∧ p1 < 2147483648 := mm_ok_at hr (i := 1) rfl
  have f0 : mm_fr [(63, 4), (63, 5), (63, 6), (63, 7), (63, 8), (63, 9), (63, 10)] [64] h h := mm_fr_rf
  have g1 : -2147483648 ≤ h.1 63 5 ∧ h.1 63 5 ≤ 2147483647 := i0.1 63 5
  have g2 : 0 ≤ h.1 63 7 ∧ h.1 63 7 ≤ 500 := i0.1 63 7
  have g3 : 0 ≤ h.1 63 8 ∧ h.1 63 8 ≤ 500 := i0.1 63 8
  have g4 : 0 ≤ h.1 63 3 ∧ h.1 63 3 ≤ 500 := i0.1 63 3
  have g5 : -2147483648 ≤ h.1 63 6 ∧ h.1 63 6 ≤ 2147483647 := i0.1 63 6
  have g6 : -2147483648 ≤ h.1 63 9 ∧ h.1 63 9 ≤ 2147483647 := i0.1 63 9
  have g7 : -2147483648 ≤ h.1 63 10 ∧ h.1 63 10 ≤ 2147483647 := i0.1 63 10
  have tf := mm_cX_h i0 t0
  have tr := mm_cX_r i0 t0
  refine mm_aload_n C (mm_dec dk_X7_readTest 0 rfl) rfl ?_
  refine mm_iload_n C (mm_dec dk_X7_readTest 1 rfl) rfl ?_
  refine mm_cVi (rest := []) C1 ev_X7_111 (mm_dec dk_X7_readTest 2 rfl) (c_X7_readSum_q2 x.2.1 hl (d - 1) (by omega) h i0 p1 ⟨by omega, by omega⟩ (by exact t0)) rfl rfl (Nat.le_of_ble_eq_true rfl) ⟨by decide, by decide⟩ rfl (fun r2 h2c hp2 => ?_) (fun _ _ q => q.elim)
  obtain ⟨b2, i2c, g2c, y2_0⟩ := hp2
  have f2c : mm_fr [(63, 4), (63, 5), (63, 6), (63, 7), (63, 8), (63, 9), (63, 10)] [64] h h2c := mm_fr_tr f0 g2c (by decide +kernel)
  have q2c_9 : h2c.1 63 3 = h.1 63 3 := g2c.1 63 3 (by decide)
  have g10 : -2147483648 ≤ (h2c.1 63 5) ∧ (h2c.1 63 5) ≤ 2147483647 := i2c.1 63 5
  have g11 : 0 ≤ (h2c.1 63 7) ∧ (h2c.1 63 7) ≤ 500 := i2c.1 63 7
  have g12 : 0 ≤ (h2c.1 63 8) ∧ (h2c.1 63 8) ≤ 500 := i2c.1 63 8
  have g13 : -2147483648 ≤ (h2c.1 63 6) ∧ (h2c.1 63 6) ≤ 2147483647 := i2c.1 63 6
  have g14 : -2147483648 ≤ (h2c.1 63 9) ∧ (h2c.1 63 9) ≤ 2147483647 := i2c.1 63 9
  have g15 : -2147483648 ≤ (h2c.1 63 10) ∧ (h2c.1 63 10) ≤ 2147483647 := i2c.1 63 10
  refine mm_if_ne (tgt := 10) C (mm_dec dk_X7_readTest 3 rfl) (by decide) (fun c5 => ?_) (fun c5 => ?_)
  · skip
    have zp := mm_or1 y2_0 (by omega)
    have tg := mm_cX_h i2c zp.1.1.2.1
    have th := mm_cX_r i2c zp.1.1.2.1
    refine mm_aload_n C (mm_dec dk_X7_readTest 6 rfl) rfl ?_
    refine mm_bipush C (mm_dec dk_X7_readTest 7 rfl) ⟨by decide, by decide⟩ ?_
    refine mm_cVi (rest := []) C1 ev_X7_96 (mm_dec dk_X7_readTest 8 rfl) (c_X7_isSign x.2.1 hl (d - 1) (by omega) h2c i2c 60 (by omega)) rfl rfl (Nat.le_of_ble_eq_true rfl) ⟨by decide, by decide⟩ rfl (fun r13 h13c hp13 => ?_) (fun _ _ q => q.elim)
    obtain ⟨z13, y13⟩ := hp13
    rw [z13]
    have g17 : -2147483648 ≤ (h2c.2.1 62 (h2c.1 63 7)) ∧ (h2c.2.1 62 (h2c.1 63 7)) ≤ 2147483647 := i2c.2.1 62 (h2c.1 63 7)
    have J39 : ∀ (s39_0 : Int) (bs39_0 : -1 ≤ s39_0 ∧ s39_0 ≤ 100014) (w39_0 : ((s39_0 ≠ -1 ∧ (mm_cX h2c = 160 ∨ mm_cX h2c = 161)) ∨ (s39_0 = -1 ∧ mm_cX h2c ≠ 160 ∧ mm_cX h2c ≠ 161))) (vs39_0 : (r13 = 0 ∧ s39_0 = -1) ∨ (r13 ≠ 0 ∧ s39_0 = 100013) ∨ (r13 = 0 ∧ s39_0 = 100014)), mm_W x 0 0 39 [mR 63, mI p1, mU] [mI s39_0] h2c := by
      intro s39_0 bs39_0 w39_0 vs39_0
      refine mm_istore_nL (ls2 := [mR 63, mI p1, mI s39_0]) C (mm_dec dk_X7_readTest 19 rfl) (by decide) rfl ?_
      refine mm_iload_n C (mm_dec dk_X7_readTest 20 rfl) rfl ?_
      refine mm_iconst C (mm_dec dk_X7_readTest 21 rfl) ⟨by decide, by decide⟩ ?_
      have J64 : ∀ (h64_ : mH) (i64_ : mm_inv h64_) (f64_ : mm_fr [(63, 4), (63, 5), (63, 6), (63, 7), (63, 8), (63, 9), (63, 10)] [64] h h64_) (w64_0 : mm_q7 1 2 h h64_) (w64_1 : mm_nB h64_), mm_W x 0 0 64 [mU, mU, mU] [] h64_ := by
        intro h64_ i64_ f64_ w64_0 w64_1
        have g18 : -2147483648 ≤ h64_.1 63 5 ∧ h64_.1 63 5 ≤ 2147483647 := i64_.1 63 5
        have g19 : 0 ≤ h64_.1 63 7 ∧ h64_.1 63 7 ≤ 500 := i64_.1 63 7
        have g20 : 0 ≤ h64_.1 63 8 ∧ h64_.1 63 8 ≤ 500 := i64_.1 63 8
        have g21 : 0 ≤ h64_.1 63 3 ∧ h64_.1 63 3 ≤ 500 := i64_.1 63 3
        have g22 : -2147483648 ≤ h64_.1 63 6 ∧ h64_.1 63 6 ≤ 2147483647 := i64_.1 63 6
        have g23 : -2147483648 ≤ h64_.1 63 9 ∧ h64_.1 63 9 ≤ 2147483647 := i64_.1 63 9
        have g24 : -2147483648 ≤ h64_.1 63 10 ∧ h64_.1 63 10 ≤ 2147483647 := i64_.1 63 10
        have g25 : h64_.1 63 3 = h.1 63 3 := f64_.1 63 3 (by decide)
        refine mm_iconst C (mm_dec dk_X7_readTest 34 rfl) ⟨by decide, by decide⟩ ?_
        exact mm_zret C T (mm_dec dk_X7_readTest 35 rfl) (by decide : 0 ≤ 0) (by decide : 0 ≤ 0) (by omega) ⟨_, rfl, ⟨⟨by omega, by omega⟩, i64_, f64_, by first | exact Or.inl ⟨rfl, w64_0, w64_1⟩ | exact Or.inr ⟨rfl, mm_f7_sum (mm_or0 y2_0 (by omega))⟩ | exact Or.inr ⟨rfl, mm_f7_lt zp.1 (by omega) zs (mm_or0 y51_0 (by omega))⟩⟩⟩
      refine mm_icmp_eq (tgt := 64) C (mm_dec dk_X7_readTest 22 rfl) (by decide) (fun c42 => ?_) (fun c42 => ?_)
      · skip
        refine mm_fgt 0 ?_
        refine mm_fgt 1 ?_
        refine mm_fgt 2 ?_
        exact J64 h2c i2c f2c (by first | exact mm_q7_sum zp.1 (by omega) | exact mm_q7_em (mm_q7_lt zp.1 (by omega) zs (mm_or1 y51_0 (by omega)).1) (mm_em_fr g61c (by decide))) (by first | exact zp.2 | exact mm_nB_em (mm_or1 y51_0 (by omega)).2 (mm_em_fr g61c (by decide)))
      · skip
        refine mm_aload_n C (mm_dec dk_X7_readTest 23 rfl) rfl ?_
        refine mm_cVv (rest := []) C1 ev_X7_52 (mm_dec dk_X7_readTest 24 rfl) (c_X7_step_q x.2.1 hl (d - 1) (by omega) h2c i2c ) rfl rfl (Nat.le_of_ble_eq_true rfl) ⟨by decide, by decide⟩ rfl (fun h46c hp46 => ?_) (fun _ _ q => q.elim)
        obtain ⟨i46c, g46c, y46_0, y46_1, y46_2⟩ := hp46
        have f46c : mm_fr [(63, 4), (63, 5), (63, 6), (63, 7), (63, 8), (63, 9), (63, 10)] [64] h h46c := mm_fr_tr f2c g46c (by decide +kernel)
        have q46c_27 : h46c.1 63 3 = h2c.1 63 3 := g46c.1 63 3 (by decide)
        have q46c_28 : h46c.1 63 9 = h2c.1 63 9 := g46c.1 63 9 (by decide)
        have q46c_29 : h46c.1 63 10 = h2c.1 63 10 := g46c.1 63 10 (by decide)
        have g30 : -2147483648 ≤ (h46c.1 63 5) ∧ (h46c.1 63 5) ≤ 2147483647 := i46c.1 63 5
        have g31 : 0 ≤ (h46c.1 63 7) ∧ (h46c.1 63 7) ≤ 500 := i46c.1 63 7
        have g32 : 0 ≤ (h46c.1 63 8) ∧ (h46c.1 63 8) ≤ 500 := i46c.1 63 8
        have g33 : -2147483648 ≤ (h46c.1 63 6) ∧ (h46c.1 63 6) ≤ 2147483647 := i46c.1 63 6
        have zs := mm_st7_of zp.1.1.2.1 y46_1 y46_2 g46c (by decide)
        refine mm_aload_n C (mm_dec dk_X7_readTest 25 rfl) rfl ?_
        refine mm_iload_n C (mm_dec dk_X7_readTest 26 rfl) rfl ?_
        refine mm_cVi (rest := []) C1 ev_X7_111 (mm_dec dk_X7_readTest 27 rfl) (c_X7_readSum_q2 x.2.1 hl (d - 1) (by omega) h46c i46c p1 ⟨by omega, by omega⟩ (by exact y46_1)) rfl rfl (Nat.le_of_ble_eq_true rfl) ⟨by decide, by decide⟩ rfl (fun r51 h51c hp51 => ?_) (fun _ _ q => q.elim)
        obtain ⟨b51, i51c, g51c, y51_0⟩ := hp51
        have f51c : mm_fr [(63, 4), (63, 5), (63, 6), (63, 7), (63, 8), (63, 9), (63, 10)] [64] h h51c := mm_fr_tr f46c g51c (by decide +kernel)
        have q51c_35 : h51c.1 63 3 = h46c.1 63 3 := g51c.1 63 3 (by decide)
        have g36 : -2147483648 ≤ (h51c.1 63 5) ∧ (h51c.1 63 5) ≤ 2147483647 := i51c.1 63 5
        have g37 : 0 ≤ (h51c.1 63 7) ∧ (h51c.1 63 7) ≤ 500 := i51c.1 63 7
        have g38 : 0 ≤ (h51c.1 63 8) ∧ (h51c.1 63 8) ≤ 500 := i51c.1 63 8
        have g39 : -2147483648 ≤ (h51c.1 63 6) ∧ (h51c.1 63 6) ≤ 2147483647 := i51c.1 63 6
        have g40 : -2147483648 ≤ (h51c.1 63 9) ∧ (h51c.1 63 9) ≤ 2147483647 := i51c.1 63 9
        have g41 : -2147483648 ≤ (h51c.1 63 10) ∧ (h51c.1 63 10) ≤ 2147483647 := i51c.1 63 10
        refine mm_if_ne (tgt := 59) C (mm_dec dk_X7_readTest 28 rfl) (by decide) (fun c54 => ?_) (fun c54 => ?_)
        · skip
          refine mm_aload_n C (mm_dec dk_X7_readTest 31 rfl) rfl ?_
          refine mm_iload_n C (mm_dec dk_X7_readTest 32 rfl) rfl ?_
          refine mm_cVv (rest := []) C1 ev_X7_79 (mm_dec dk_X7_readTest 33 rfl) (c_X7_emit x.2.1 hl (d - 1) (by omega) h51c i51c s39_0) rfl rfl (Nat.le_of_ble_eq_true rfl) ⟨by decide, by decide⟩ rfl (fun h61c hp61 => ?_) (fun _ _ q => q.elim)
          obtain ⟨i61c, g61c⟩ := hp61
          have f61c : mm_fr [(63, 4), (63, 5), (63, 6), (63, 7), (63, 8), (63, 9), (63, 10)] [64] h h61c := mm_fr_tr f51c g61c (by decide +kernel)
          have q61c_43 : h61c.1 63 3 = h51c.1 63 3 := g61c.1 63 3 (by decide)
          have q61c_44 : h61c.1 63 5 = h51c.1 63 5 := g61c.1 63 5 (by decide)
          have q61c_45 : h61c.1 63 6 = h51c.1 63 6 := g61c.1 63 6 (by decide)
          have q61c_46 : h61c.1 63 7 = h51c.1 63 7 := g61c.1 63 7 (by decide)
          have q61c_47 : h61c.1 63 8 = h51c.1 63 8 := g61c.1 63 8 (by decide)
          have q61c_48 : h61c.1 63 9 = h51c.1 63 9 := g61c.1 63 9 (by decide)
          have q61c_49 : h61c.1 63 10 = h51c.1 63 10 := g61c.1 63 10 (by decide)
          refine mm_fgt 0 ?_
          refine mm_fgt 1 ?_
          refine mm_fgt 2 ?_
          exact J64 h61c i61c f61c (by first | exact mm_q7_sum zp.1 (by omega) | exact mm_q7_em (mm_q7_lt zp.1 (by omega) zs (mm_or1 y51_0 (by omega)).1) (mm_em_fr g61c (by decide))) (by first | exact zp.2 | exact mm_nB_em (mm_or1 y51_0 (by omega)).2 (mm_em_fr g61c (by decide)))
        · skip
          refine mm_iconst C (mm_dec dk_X7_readTest 29 rfl) ⟨by decide, by decide⟩ ?_
          exact mm_zret C T (mm_dec dk_X7_readTest 30 rfl) (by decide : 0 ≤ 0) (by decide : 0 ≤ 0) (by omega) ⟨_, rfl, ⟨⟨by omega, by omega⟩, i51c, f51c, by first | exact Or.inl ⟨rfl, w64_0, w64_1⟩ | exact Or.inr ⟨rfl, mm_f7_sum (mm_or0 y2_0 (by omega))⟩ | exact Or.inr ⟨rfl, mm_f7_lt zp.1 (by omega) zs (mm_or0 y51_0 (by omega))⟩⟩⟩
    refine mm_if_eq (tgt := 24) C (mm_dec dk_X7_readTest 9 rfl) (by decide) (fun c16 => ?_) (fun c16 => ?_)
    · skip
      refine mm_aload_n C (mm_dec dk_X7_readTest 12 rfl) rfl ?_
      refine mm_bipush C (mm_dec dk_X7_readTest 13 rfl) ⟨by decide, by decide⟩ ?_
      refine mm_cVi (rest := []) C1 ev_X7_96 (mm_dec dk_X7_readTest 14 rfl) (c_X7_isSign x.2.1 hl (d - 1) (by omega) h2c i2c 61 (by omega)) rfl rfl (Nat.le_of_ble_eq_true rfl) ⟨by decide, by decide⟩ rfl (fun r27 h27c hp27 => ?_) (fun _ _ q => q.elim)
      obtain ⟨z27, y27⟩ := hp27
      rw [z27]
      refine mm_if_eq (tgt := 38) C (mm_dec dk_X7_readTest 15 rfl) (by decide) (fun c30 => ?_) (fun c30 => ?_)
      · skip
        refine mm_iconst C (mm_dec dk_X7_readTest 18 rfl) ⟨by decide, by decide⟩ ?_
        exact J39 (-1) ⟨by omega, by omega⟩ (by have zz := mm_hdx tg; omega) (Or.inl ⟨by omega, rfl⟩)
      · skip
        refine mm_ldc (z := 100014) C (mm_dec dk_X7_readTest 16 rfl) kc_X7_115 (by decide) ?_
        refine mm_goto (tgt := 39) C (mm_dec dk_X7_readTest 17 rfl) (by decide) ?_
        exact J39 100014 ⟨by omega, by omega⟩ (by have zz := mm_hdx tg; omega) (Or.inr (Or.inr (⟨by omega, rfl⟩)))
    · skip
      refine mm_ldc (z := 100013) C (mm_dec dk_X7_readTest 10 rfl) kc_X7_114 (by decide) ?_
      refine mm_goto (tgt := 39) C (mm_dec dk_X7_readTest 11 rfl) (by decide) ?_
      exact J39 100013 ⟨by omega, by omega⟩ (by have zz := mm_hdx tg; omega) (Or.inr (Or.inl ⟨by omega, rfl⟩))
  · skip
    refine mm_iconst C (mm_dec dk_X7_readTest 4 rfl) ⟨by decide, by decide⟩ ?_
    exact mm_zret C T (mm_dec dk_X7_readTest 5 rfl) (by decide : 0 ≤ 0) (by decide : 0 ≤ 0) (by omega) ⟨_, rfl, ⟨⟨by omega, by omega⟩, i2c, f2c, by first | exact Or.inl ⟨rfl, w64_0, w64_1⟩ | exact Or.inr ⟨rfl, mm_f7_sum (mm_or0 y2_0 (by omega))⟩ | exact Or.inr ⟨rfl, mm_f7_lt zp.1 (by omega) zs (mm_or0 y51_0 (by omega))⟩⟩⟩
set_option maxRecDepth 100000 in
set_option maxHeartbeats 4000000 in
theorem c_X7_readNot_q2 (l : Launch) (hl : l.stackTraces = false) (d : Nat) (hd : 31 ≤ d) (h : mH) (i0 : mm_inv h) (p1 : Int) (bp1 : 2 ≤ p1 ∧ p1 ≤ 2) (t0 : mm_aX h) : mm_Met l d yX7_readNot cX7_readNot 4 (some .boolean) [mR 63, mI p1] h (mm_pi fun r h2 => (0 ≤ r ∧ r ≤ 1) ∧ mm_inv h2 ∧ mm_fr [(63, 4), (63, 5), (63, 6), (63, 7), (63, 8), (63, 9), (63, 10)] [64] h h2 ∧ ((r = 1 ∧ mm_q7 0 2 h h2 ∧ mm_nB h2) ∨ (r = 0 ∧ mm_f7 0 2 h h2))) mm_nx 0 0 := by
  refine mm_ofW (ls := [mR 63, mI p1, mU, mU]) hl (by decide) rfl (Nat.le_of_ble_eq_true rfl) ?_
  intro x hxl C T hnm htb
  subst hxl
  have C1 := mm_OK_le (d' := d - 1 + 1) (by omega) C
  have C8 := mm_OK_le (d' := d - 8 + 8) (by omega) C
  refine mm_rng (fun hr _ => ?_)
  have ap1 : -2147483648 ≤ p1 ∧ p1 < 2147483648 := mm_ok_at hr (i := 1) rfl
  have f0 : mm_fr [(63, 4), (63, 5), (63, 6), (63, 7), (63, 8), (63, 9), (63, 10)] [64] h h := mm_fr_rf
  have g1 : -2147483648 ≤ h.1 63 5 ∧ h.1 63 5 ≤ 2147483647 := i0.1 63 5
  have g2 : 0 ≤ h.1 63 7 ∧ h.1 63 7 ≤ 500 := i0.1 63 7
  have g3 : 0 ≤ h.1 63 8 ∧ h.1 63 8 ≤ 500 := i0.1 63 8
  have g4 : 0 ≤ h.1 63 3 ∧ h.1 63 3 ≤ 500 := i0.1 63 3
  have g5 : -2147483648 ≤ h.1 63 6 ∧ h.1 63 6 ≤ 2147483647 := i0.1 63 6
  have g6 : -2147483648 ≤ h.1 63 9 ∧ h.1 63 9 ≤ 2147483647 := i0.1 63 9
  have g7 : -2147483648 ≤ h.1 63 10 ∧ h.1 63 10 ≤ 2147483647 := i0.1 63 10
  refine mm_iconst C (mm_dec dk_X7_readNot 0 rfl) ⟨by decide, by decide⟩ ?_
  have J2 : ∀ (n : Nat) (x2_2 : Int) (bx2_2 : 0 ≤ x2_2 ∧ x2_2 ≤ 6) (h2_ : mH) (i2_ : mm_inv h2_) (f2_ : mm_fr [(63, 4), (63, 5), (63, 6), (63, 7), (63, 8), (63, 9), (63, 10)] [64] h h2_) (w2_0 : mm_n7 2 x2_2 h h2_), (6 - x2_2 : Int) < n → mm_W x 0 0 2 [mR 63, mI p1, mI x2_2, mU] [] h2_ := by
    intro n
    induction n with
    | zero =>
      intro x2_2 bx2_2 h2_ i2_ f2_ w2_0 hm
      have g8 : -2147483648 ≤ h2_.1 63 5 ∧ h2_.1 63 5 ≤ 2147483647 := i2_.1 63 5
      have g9 : 0 ≤ h2_.1 63 7 ∧ h2_.1 63 7 ≤ 500 := i2_.1 63 7
      have g10 : 0 ≤ h2_.1 63 8 ∧ h2_.1 63 8 ≤ 500 := i2_.1 63 8
      have g11 : 0 ≤ h2_.1 63 3 ∧ h2_.1 63 3 ≤ 500 := i2_.1 63 3
      have g12 : -2147483648 ≤ h2_.1 63 6 ∧ h2_.1 63 6 ≤ 2147483647 := i2_.1 63 6
      have g13 : -2147483648 ≤ h2_.1 63 9 ∧ h2_.1 63 9 ≤ 2147483647 := i2_.1 63 9
      have g14 : -2147483648 ≤ h2_.1 63 10 ∧ h2_.1 63 10 ≤ 2147483647 := i2_.1 63 10
      exfalso; omega
    | succ n ih2 =>
      intro x2_2 bx2_2 h2_ i2_ f2_ w2_0 hm2
      have g15 : -2147483648 ≤ h2_.1 63 5 ∧ h2_.1 63 5 ≤ 2147483647 := i2_.1 63 5
      have g16 : 0 ≤ h2_.1 63 7 ∧ h2_.1 63 7 ≤ 500 := i2_.1 63 7
      have g17 : 0 ≤ h2_.1 63 8 ∧ h2_.1 63 8 ≤ 500 := i2_.1 63 8
      have g18 : 0 ≤ h2_.1 63 3 ∧ h2_.1 63 3 ≤ 500 := i2_.1 63 3
      have g19 : -2147483648 ≤ h2_.1 63 6 ∧ h2_.1 63 6 ≤ 2147483647 := i2_.1 63 6
      have g20 : -2147483648 ≤ h2_.1 63 9 ∧ h2_.1 63 9 ≤ 2147483647 := i2_.1 63 9
      have g21 : -2147483648 ≤ h2_.1 63 10 ∧ h2_.1 63 10 ≤ 2147483647 := i2_.1 63 10
      have g22 : h2_.1 63 3 = h.1 63 3 := f2_.1 63 3 (by decide)
      have tf2 := mm_cX_h i2_ w2_0.1.2.1
      have tr2 := mm_cX_r i2_ w2_0.1.2.1
      refine mm_iload_n C (mm_dec dk_X7_readNot 2 rfl) rfl ?_
      refine mm_bipush C (mm_dec dk_X7_readNot 3 rfl) ⟨by decide, by decide⟩ ?_
      have J27 : ∀ (w27_0 : (6 ≤ x2_2 ∨ mm_cX h2_ ≠ 6)), mm_W x 0 0 27 [mR 63, mI p1, mI x2_2, mU] [] h2_ := by
        intro w27_0
        have g23 : -2147483648 ≤ h2_.1 63 5 ∧ h2_.1 63 5 ≤ 2147483647 := i2_.1 63 5
        have g24 : 0 ≤ h2_.1 63 7 ∧ h2_.1 63 7 ≤ 500 := i2_.1 63 7
        have g25 : 0 ≤ h2_.1 63 8 ∧ h2_.1 63 8 ≤ 500 := i2_.1 63 8
        have g26 : 0 ≤ h2_.1 63 3 ∧ h2_.1 63 3 ≤ 500 := i2_.1 63 3
        have g27 : -2147483648 ≤ h2_.1 63 6 ∧ h2_.1 63 6 ≤ 2147483647 := i2_.1 63 6
        have g28 : -2147483648 ≤ h2_.1 63 9 ∧ h2_.1 63 9 ≤ 2147483647 := i2_.1 63 9
        have g29 : -2147483648 ≤ h2_.1 63 10 ∧ h2_.1 63 10 ≤ 2147483647 := i2_.1 63 10
        refine mm_iload_n C (mm_dec dk_X7_readNot 13 rfl) rfl ?_
        refine mm_bipush C (mm_dec dk_X7_readNot 14 rfl) ⟨by decide, by decide⟩ ?_
        have J48 : ∀ (w48_0 : mm_cX h2_ ≠ 6), mm_W x 0 0 48 [mR 63, mI p1, mI x2_2, mU] [] h2_ := by
          intro w48_0
          have g30 : -2147483648 ≤ h2_.1 63 5 ∧ h2_.1 63 5 ≤ 2147483647 := i2_.1 63 5
          have g31 : 0 ≤ h2_.1 63 7 ∧ h2_.1 63 7 ≤ 500 := i2_.1 63 7
          have g32 : 0 ≤ h2_.1 63 8 ∧ h2_.1 63 8 ≤ 500 := i2_.1 63 8
          have g33 : 0 ≤ h2_.1 63 3 ∧ h2_.1 63 3 ≤ 500 := i2_.1 63 3
          have g34 : -2147483648 ≤ h2_.1 63 6 ∧ h2_.1 63 6 ≤ 2147483647 := i2_.1 63 6
          have g35 : -2147483648 ≤ h2_.1 63 9 ∧ h2_.1 63 9 ≤ 2147483647 := i2_.1 63 9
          have g36 : -2147483648 ≤ h2_.1 63 10 ∧ h2_.1 63 10 ≤ 2147483647 := i2_.1 63 10
          refine mm_aload_n C (mm_dec dk_X7_readNot 24 rfl) rfl ?_
          refine mm_iload_n C (mm_dec dk_X7_readNot 25 rfl) rfl ?_
          refine mm_cVi (rest := []) C1 ev_X7_107 (mm_dec dk_X7_readNot 26 rfl) (c_X7_readTest_q2 x.2.1 hl (d - 1) (by omega) h2_ i2_ p1 ⟨by omega, by omega⟩ (by exact w2_0.1.2.1)) rfl rfl (Nat.le_of_ble_eq_true rfl) ⟨by decide, by decide⟩ rfl (fun r50 h50c hp50 => ?_) (fun _ _ q => q.elim)
          obtain ⟨b50, i50c, g50c, y50_0⟩ := hp50
          have f50c : mm_fr [(63, 4), (63, 5), (63, 6), (63, 7), (63, 8), (63, 9), (63, 10)] [64] h h50c := mm_fr_tr f2_ g50c (by decide +kernel)
          have q50c_38 : h50c.1 63 3 = h2_.1 63 3 := g50c.1 63 3 (by decide)
          have g39 : -2147483648 ≤ (h50c.1 63 5) ∧ (h50c.1 63 5) ≤ 2147483647 := i50c.1 63 5
          have g40 : 0 ≤ (h50c.1 63 7) ∧ (h50c.1 63 7) ≤ 500 := i50c.1 63 7
          have g41 : 0 ≤ (h50c.1 63 8) ∧ (h50c.1 63 8) ≤ 500 := i50c.1 63 8
          have g42 : -2147483648 ≤ (h50c.1 63 6) ∧ (h50c.1 63 6) ≤ 2147483647 := i50c.1 63 6
          have g43 : -2147483648 ≤ (h50c.1 63 9) ∧ (h50c.1 63 9) ≤ 2147483647 := i50c.1 63 9
          have g44 : -2147483648 ≤ (h50c.1 63 10) ∧ (h50c.1 63 10) ≤ 2147483647 := i50c.1 63 10
          refine mm_if_ne (tgt := 58) C (mm_dec dk_X7_readNot 27 rfl) (by decide) (fun c53 => ?_) (fun c53 => ?_)
          · skip
            refine mm_iconst C (mm_dec dk_X7_readNot 30 rfl) ⟨by decide, by decide⟩ ?_
            have J60 : ∀ (n : Nat) (x60_3 : Int) (bx60_3 : 0 ≤ x60_3 ∧ x60_3 ≤ 7) (h60_ : mH) (i60_ : mm_inv h60_) (f60_ : mm_fr [(63, 4), (63, 5), (63, 6), (63, 7), (63, 8), (63, 9), (63, 10)] [64] h h60_) (w60_0 : mm_q7 0 2 h h60_) (w60_1 : mm_nB h60_), (7 - x60_3 : Int) < n → mm_W x 0 0 60 [mR 63, mU, mI x2_2, mI x60_3] [] h60_ := by
              intro n
              induction n with
              | zero =>
                intro x60_3 bx60_3 h60_ i60_ f60_ w60_0 w60_1 hm
                have g45 : -2147483648 ≤ h60_.1 63 5 ∧ h60_.1 63 5 ≤ 2147483647 := i60_.1 63 5
                have g46 : 0 ≤ h60_.1 63 7 ∧ h60_.1 63 7 ≤ 500 := i60_.1 63 7
                have g47 : 0 ≤ h60_.1 63 8 ∧ h60_.1 63 8 ≤ 500 := i60_.1 63 8
                have g48 : 0 ≤ h60_.1 63 3 ∧ h60_.1 63 3 ≤ 500 := i60_.1 63 3
                have g49 : -2147483648 ≤ h60_.1 63 6 ∧ h60_.1 63 6 ≤ 2147483647 := i60_.1 63 6
                have g50 : -2147483648 ≤ h60_.1 63 9 ∧ h60_.1 63 9 ≤ 2147483647 := i60_.1 63 9
                have g51 : -2147483648 ≤ h60_.1 63 10 ∧ h60_.1 63 10 ≤ 2147483647 := i60_.1 63 10
                exfalso; omega
              | succ n ih60 =>
                intro x60_3 bx60_3 h60_ i60_ f60_ w60_0 w60_1 hm60
                have g52 : -2147483648 ≤ h60_.1 63 5 ∧ h60_.1 63 5 ≤ 2147483647 := i60_.1 63 5
                have g53 : 0 ≤ h60_.1 63 7 ∧ h60_.1 63 7 ≤ 500 := i60_.1 63 7
                have g54 : 0 ≤ h60_.1 63 8 ∧ h60_.1 63 8 ≤ 500 := i60_.1 63 8
                have g55 : 0 ≤ h60_.1 63 3 ∧ h60_.1 63 3 ≤ 500 := i60_.1 63 3
                have g56 : -2147483648 ≤ h60_.1 63 6 ∧ h60_.1 63 6 ≤ 2147483647 := i60_.1 63 6
                have g57 : -2147483648 ≤ h60_.1 63 9 ∧ h60_.1 63 9 ≤ 2147483647 := i60_.1 63 9
                have g58 : -2147483648 ≤ h60_.1 63 10 ∧ h60_.1 63 10 ≤ 2147483647 := i60_.1 63 10
                have g59 : h60_.1 63 3 = h.1 63 3 := f60_.1 63 3 (by decide)
                refine mm_iload_n C (mm_dec dk_X7_readNot 32 rfl) rfl ?_
                refine mm_iload_n C (mm_dec dk_X7_readNot 33 rfl) rfl ?_
                refine mm_icmp_ge (tgt := 77) C (mm_dec dk_X7_readNot 34 rfl) (by decide) (fun c62 => ?_) (fun c62 => ?_)
                · skip
                  refine mm_iconst C (mm_dec dk_X7_readNot 40 rfl) ⟨by decide, by decide⟩ ?_
                  exact mm_zret C T (mm_dec dk_X7_readNot 41 rfl) (by decide : 0 ≤ 0) (by decide : 0 ≤ 0) (by omega) ⟨_, rfl, ⟨⟨by omega, by omega⟩, i60_, f60_, by first | exact Or.inl ⟨rfl, w60_0, w60_1⟩ | exact Or.inr ⟨rfl, mm_f7_not w2_0 w48_0 (mm_or0 y50_0 (by omega))⟩ | exact Or.inr ⟨by omega, mm_f7_nots (by rw [show (6 : Int) = x2_2 by omega]; exact w2_0) (by have zz := mm_hdx tf2; omega) y44_0 y44_1⟩⟩⟩
                · skip
                  refine mm_aload_n C (mm_dec dk_X7_readNot 35 rfl) rfl ?_
                  refine mm_ldc (z := 100010) C (mm_dec dk_X7_readNot 36 rfl) kc_X7_110 (by decide) ?_
                  refine mm_cVv (rest := []) C1 ev_X7_79 (mm_dec dk_X7_readNot 37 rfl) (c_X7_emit x.2.1 hl (d - 1) (by omega) h60_ i60_ 100010) rfl rfl (Nat.le_of_ble_eq_true rfl) ⟨by decide, by decide⟩ rfl (fun h68c hp68 => ?_) (fun _ _ q => q.elim)
                  obtain ⟨i68c, g68c⟩ := hp68
                  have f68c : mm_fr [(63, 4), (63, 5), (63, 6), (63, 7), (63, 8), (63, 9), (63, 10)] [64] h h68c := mm_fr_tr f60_ g68c (by decide +kernel)
                  have q68c_61 : h68c.1 63 3 = h60_.1 63 3 := g68c.1 63 3 (by decide)
                  have q68c_62 : h68c.1 63 5 = h60_.1 63 5 := g68c.1 63 5 (by decide)
                  have q68c_63 : h68c.1 63 6 = h60_.1 63 6 := g68c.1 63 6 (by decide)
                  have q68c_64 : h68c.1 63 7 = h60_.1 63 7 := g68c.1 63 7 (by decide)
                  have q68c_65 : h68c.1 63 8 = h60_.1 63 8 := g68c.1 63 8 (by decide)
                  have q68c_66 : h68c.1 63 9 = h60_.1 63 9 := g68c.1 63 9 (by decide)
                  have q68c_67 : h68c.1 63 10 = h60_.1 63 10 := g68c.1 63 10 (by decide)
                  refine mm_iincL (ls2 := [mR 63, mU, mI x2_2, mI (x60_3 + 1)]) C (mm_dec dk_X7_readNot 38 rfl) rfl (by decide) ⟨by omega, by omega⟩ rfl ?_
                  refine mm_goto (tgt := 60) C (mm_dec dk_X7_readNot 39 rfl) (by decide) ?_
                  exact ih60 (x60_3 + 1) ⟨by omega, by omega⟩ h68c i68c f68c (by first | exact mm_q7_not w2_0 w48_0 (mm_or1 y50_0 (by omega)).1 | exact mm_q7_em w60_0 (mm_em_fr g68c (by decide))) (by first | exact (mm_or1 y50_0 (by omega)).2 | exact mm_nB_em w60_1 (mm_em_fr g68c (by decide))) (by omega)
            refine mm_istore_nL (ls2 := [mR 63, mI p1, mI x2_2, mI 0]) C (mm_dec dk_X7_readNot 31 rfl) (by decide) rfl ?_
            refine mm_fgt 1 ?_
            exact J60 (((7 - 0) : Int) + 1).toNat 0 ⟨by omega, by omega⟩ h50c i50c f50c (by first | exact mm_q7_not w2_0 w48_0 (mm_or1 y50_0 (by omega)).1 | exact mm_q7_em w60_0 (mm_em_fr g68c (by decide))) (by first | exact (mm_or1 y50_0 (by omega)).2 | exact mm_nB_em w60_1 (mm_em_fr g68c (by decide))) (by omega)
          · skip
            refine mm_iconst C (mm_dec dk_X7_readNot 28 rfl) ⟨by decide, by decide⟩ ?_
            exact mm_zret C T (mm_dec dk_X7_readNot 29 rfl) (by decide : 0 ≤ 0) (by decide : 0 ≤ 0) (by omega) ⟨_, rfl, ⟨⟨by omega, by omega⟩, i50c, f50c, by first | exact Or.inl ⟨rfl, w60_0, w60_1⟩ | exact Or.inr ⟨rfl, mm_f7_not w2_0 w48_0 (mm_or0 y50_0 (by omega))⟩ | exact Or.inr ⟨by omega, mm_f7_nots (by rw [show (6 : Int) = x2_2 by omega]; exact w2_0) (by have zz := mm_hdx tf2; omega) y44_0 y44_1⟩⟩⟩
        refine mm_icmp_ne (tgt := 48) C (mm_dec dk_X7_readNot 15 rfl) (by decide) (fun c30 => ?_) (fun c30 => ?_)
        · skip
          exact J48 (by have zz := mm_hdx tf2; omega)
        · skip
          refine mm_aload_n C (mm_dec dk_X7_readNot 16 rfl) rfl ?_
          refine mm_geti C fl_X7_28 (mm_dec dk_X7_readNot 17 rfl) rfl rfl (Or.inl rfl) ?_
          refine mm_bipush C (mm_dec dk_X7_readNot 18 rfl) ⟨by decide, by decide⟩ ?_
          refine mm_icmp_ne (tgt := 48) C (mm_dec dk_X7_readNot 19 rfl) (by decide) (fun c39 => ?_) (fun c39 => ?_)
          · skip
            exact J48 (by have zz := mm_hdx tf2; omega)
          · skip
            refine mm_aload_n C (mm_dec dk_X7_readNot 20 rfl) rfl ?_
            refine mm_iconst C (mm_dec dk_X7_readNot 21 rfl) ⟨by decide, by decide⟩ ?_
            refine mm_cVi (rest := []) C1 ev_X7_65 (mm_dec dk_X7_readNot 22 rfl) (c_X7_refuse_q x.2.1 hl (d - 1) (by omega) h2_ i2_ 2) rfl rfl (Nat.le_of_ble_eq_true rfl) ⟨by decide, by decide⟩ rfl (fun r44 h44c hp44 => ?_) (fun _ _ q => q.elim)
            obtain ⟨b44, i44c, g44c, y44_0, y44_1⟩ := hp44
            have f44c : mm_fr [(63, 4), (63, 5), (63, 6), (63, 7), (63, 8), (63, 9), (63, 10)] [64] h h44c := mm_fr_tr f2_ g44c (by decide +kernel)
            have q44c_69 : h44c.1 63 3 = h2_.1 63 3 := g44c.1 63 3 (by decide)
            have q44c_70 : h44c.1 63 5 = h2_.1 63 5 := g44c.1 63 5 (by decide)
            have q44c_71 : h44c.1 63 6 = h2_.1 63 6 := g44c.1 63 6 (by decide)
            have q44c_72 : h44c.1 63 7 = h2_.1 63 7 := g44c.1 63 7 (by decide)
            have q44c_73 : h44c.1 63 8 = h2_.1 63 8 := g44c.1 63 8 (by decide)
            have g74 : -2147483648 ≤ (h44c.1 63 9) ∧ (h44c.1 63 9) ≤ 2147483647 := i44c.1 63 9
            have g75 : -2147483648 ≤ (h44c.1 63 10) ∧ (h44c.1 63 10) ≤ 2147483647 := i44c.1 63 10
            exact mm_zret C T (mm_dec dk_X7_readNot 23 rfl) (by decide : 0 ≤ 0) (by decide : 0 ≤ 0) (by omega) ⟨_, rfl, ⟨⟨by omega, by omega⟩, i44c, f44c, by first | exact Or.inl ⟨rfl, w60_0, w60_1⟩ | exact Or.inr ⟨rfl, mm_f7_not w2_0 w48_0 (mm_or0 y50_0 (by omega))⟩ | exact Or.inr ⟨by omega, mm_f7_nots (by rw [show (6 : Int) = x2_2 by omega]; exact w2_0) (by have zz := mm_hdx tf2; omega) y44_0 y44_1⟩⟩⟩
      refine mm_icmp_ge (tgt := 27) C (mm_dec dk_X7_readNot 4 rfl) (by decide) (fun c5 => ?_) (fun c5 => ?_)
      · skip
        exact J27 (by have zz := mm_hdx tf2; omega)
      · skip
        refine mm_aload_n C (mm_dec dk_X7_readNot 5 rfl) rfl ?_
        refine mm_geti C fl_X7_28 (mm_dec dk_X7_readNot 6 rfl) rfl rfl (Or.inl rfl) ?_
        refine mm_bipush C (mm_dec dk_X7_readNot 7 rfl) ⟨by decide, by decide⟩ ?_
        refine mm_icmp_ne (tgt := 27) C (mm_dec dk_X7_readNot 8 rfl) (by decide) (fun c14 => ?_) (fun c14 => ?_)
        · skip
          exact J27 (by have zz := mm_hdx tf2; omega)
        · skip
          refine mm_iincL (ls2 := [mR 63, mI p1, mI (x2_2 + 1), mU]) C (mm_dec dk_X7_readNot 9 rfl) rfl (by decide) ⟨by omega, by omega⟩ rfl ?_
          refine mm_aload_n C (mm_dec dk_X7_readNot 10 rfl) rfl ?_
          refine mm_cVv (rest := []) C1 ev_X7_52 (mm_dec dk_X7_readNot 11 rfl) (c_X7_step_q x.2.1 hl (d - 1) (by omega) h2_ i2_ ) rfl rfl (Nat.le_of_ble_eq_true rfl) ⟨by decide, by decide⟩ rfl (fun h21c hp21 => ?_) (fun _ _ q => q.elim)
          obtain ⟨i21c, g21c, y21_0, y21_1, y21_2⟩ := hp21
          have f21c : mm_fr [(63, 4), (63, 5), (63, 6), (63, 7), (63, 8), (63, 9), (63, 10)] [64] h h21c := mm_fr_tr f2_ g21c (by decide +kernel)
          have q21c_77 : h21c.1 63 3 = h2_.1 63 3 := g21c.1 63 3 (by decide)
          have q21c_78 : h21c.1 63 9 = h2_.1 63 9 := g21c.1 63 9 (by decide)
          have q21c_79 : h21c.1 63 10 = h2_.1 63 10 := g21c.1 63 10 (by decide)
          have g80 : -2147483648 ≤ (h21c.1 63 5) ∧ (h21c.1 63 5) ≤ 2147483647 := i21c.1 63 5
          have g81 : 0 ≤ (h21c.1 63 7) ∧ (h21c.1 63 7) ≤ 500 := i21c.1 63 7
          have g82 : 0 ≤ (h21c.1 63 8) ∧ (h21c.1 63 8) ≤ 500 := i21c.1 63 8
          have g83 : -2147483648 ≤ (h21c.1 63 6) ∧ (h21c.1 63 6) ≤ 2147483647 := i21c.1 63 6
          refine mm_goto (tgt := 2) C (mm_dec dk_X7_readNot 12 rfl) (by decide) ?_
          exact ih2 (x2_2 + 1) ⟨by omega, by omega⟩ h21c i21c f21c (by first | exact mm_n7_0 t0 | exact mm_n7_s w2_0 (by have zz := mm_hdx tf2; omega) (by omega) (mm_st7_of w2_0.1.2.1 y21_1 y21_2 g21c (by decide))) (by omega)
  refine mm_istore_nL (ls2 := [mR 63, mI p1, mI 0, mU]) C (mm_dec dk_X7_readNot 1 rfl) (by decide) rfl ?_
  exact J2 (((6 - 0) : Int) + 1).toNat 0 ⟨by omega, by omega⟩ h i0 f0 (by first | exact mm_n7_0 t0 | exact mm_n7_s w2_0 (by have zz := mm_hdx tf2; omega) (by omega) (mm_st7_of w2_0.1.2.1 y21_1 y21_2 g21c (by decide))) (by omega)
set_option maxRecDepth 100000 in
set_option maxHeartbeats 4000000 in
theorem c_X7_readAnd_q2 (l : Launch) (hl : l.stackTraces = false) (d : Nat) (hd : 32 ≤ d) (h : mH) (i0 : mm_inv h) (p1 : Int) (bp1 : 2 ≤ p1 ∧ p1 ≤ 2) (t0 : mm_aX h) : mm_Met l d yX7_readAnd cX7_readAnd 3 (some .boolean) [mR 63, mI p1] h (mm_pi fun r h2 => (0 ≤ r ∧ r ≤ 1) ∧ mm_inv h2 ∧ mm_fr [(63, 4), (63, 5), (63, 6), (63, 7), (63, 8), (63, 9), (63, 10)] [64] h h2 ∧ ((r = 1 ∧ mm_q7 0 2 h h2 ∧ mm_nC h2) ∨ (r = 0 ∧ mm_f7 0 2 h h2))) mm_nx 0 0 := by
  refine mm_ofW (ls := [mR 63, mI p1, mU]) hl (by decide) rfl (Nat.le_of_ble_eq_true rfl) ?_
  intro x hxl C T hnm htb
  subst hxl
  have C1 := mm_OK_le (d' := d - 1 + 1) (by omega) C
  have C8 := mm_OK_le (d' := d - 8 + 8) (by omega) C
  refine mm_rng (fun hr _ => ?_)
  have ap1 : -2147483648 ≤ p1 ∧ p1 < 2147483648 := mm_ok_at hr (i := 1) rfl
  have f0 : mm_fr [(63, 4), (63, 5), (63, 6), (63, 7), (63, 8), (63, 9), (63, 10)] [64] h h := mm_fr_rf
  have g1 : -2147483648 ≤ h.1 63 5 ∧ h.1 63 5 ≤ 2147483647 := i0.1 63 5
  have g2 : 0 ≤ h.1 63 7 ∧ h.1 63 7 ≤ 500 := i0.1 63 7
  have g3 : 0 ≤ h.1 63 8 ∧ h.1 63 8 ≤ 500 := i0.1 63 8
  have g4 : 0 ≤ h.1 63 3 ∧ h.1 63 3 ≤ 500 := i0.1 63 3
  have g5 : -2147483648 ≤ h.1 63 6 ∧ h.1 63 6 ≤ 2147483647 := i0.1 63 6
  have g6 : -2147483648 ≤ h.1 63 9 ∧ h.1 63 9 ≤ 2147483647 := i0.1 63 9
  have g7 : -2147483648 ≤ h.1 63 10 ∧ h.1 63 10 ≤ 2147483647 := i0.1 63 10
  refine mm_aload_n C (mm_dec dk_X7_readAnd 0 rfl) rfl ?_
  refine mm_iload_n C (mm_dec dk_X7_readAnd 1 rfl) rfl ?_
  refine mm_cVi (rest := []) C1 ev_X7_103 (mm_dec dk_X7_readAnd 2 rfl) (c_X7_readNot_q2 x.2.1 hl (d - 1) (by omega) h i0 p1 ⟨by omega, by omega⟩ (by exact t0)) rfl rfl (Nat.le_of_ble_eq_true rfl) ⟨by decide, by decide⟩ rfl (fun r2 h2c hp2 => ?_) (fun _ _ q => q.elim)
  obtain ⟨b2, i2c, g2c, y2_0⟩ := hp2
  have f2c : mm_fr [(63, 4), (63, 5), (63, 6), (63, 7), (63, 8), (63, 9), (63, 10)] [64] h h2c := mm_fr_tr f0 g2c (by decide +kernel)
  have q2c_9 : h2c.1 63 3 = h.1 63 3 := g2c.1 63 3 (by decide)
  have g10 : -2147483648 ≤ (h2c.1 63 5) ∧ (h2c.1 63 5) ≤ 2147483647 := i2c.1 63 5
  have g11 : 0 ≤ (h2c.1 63 7) ∧ (h2c.1 63 7) ≤ 500 := i2c.1 63 7
  have g12 : 0 ≤ (h2c.1 63 8) ∧ (h2c.1 63 8) ≤ 500 := i2c.1 63 8
  have g13 : -2147483648 ≤ (h2c.1 63 6) ∧ (h2c.1 63 6) ≤ 2147483647 := i2c.1 63 6
  have g14 : -2147483648 ≤ (h2c.1 63 9) ∧ (h2c.1 63 9) ≤ 2147483647 := i2c.1 63 9
  have g15 : -2147483648 ≤ (h2c.1 63 10) ∧ (h2c.1 63 10) ≤ 2147483647 := i2c.1 63 10
  refine mm_if_ne (tgt := 10) C (mm_dec dk_X7_readAnd 3 rfl) (by decide) (fun c5 => ?_) (fun c5 => ?_)
  · skip
    refine mm_iconst C (mm_dec dk_X7_readAnd 6 rfl) ⟨by decide, by decide⟩ ?_
    have J12 : ∀ (n : Nat) (x12_2 : Int) (bx12_2 : 0 ≤ x12_2 ∧ x12_2 ≤ 500) (h12_ : mH) (i12_ : mm_inv h12_) (f12_ : mm_fr [(63, 4), (63, 5), (63, 6), (63, 7), (63, 8), (63, 9), (63, 10)] [64] h h12_) (w12_0 : mm_q7 0 2 h h12_) (w12_1 : x12_2 ≤ h12_.1 63 7) (w12_2 : mm_nB h12_), (500 - x12_2 : Int) < n → mm_W x 0 0 12 [mR 63, mI p1, mI x12_2] [] h12_ := by
      intro n
      induction n with
      | zero =>
        intro x12_2 bx12_2 h12_ i12_ f12_ w12_0 w12_1 w12_2 hm
        have g16 : -2147483648 ≤ h12_.1 63 5 ∧ h12_.1 63 5 ≤ 2147483647 := i12_.1 63 5
        have g17 : 0 ≤ h12_.1 63 7 ∧ h12_.1 63 7 ≤ 500 := i12_.1 63 7
        have g18 : 0 ≤ h12_.1 63 8 ∧ h12_.1 63 8 ≤ 500 := i12_.1 63 8
        have g19 : 0 ≤ h12_.1 63 3 ∧ h12_.1 63 3 ≤ 500 := i12_.1 63 3
        have g20 : -2147483648 ≤ h12_.1 63 6 ∧ h12_.1 63 6 ≤ 2147483647 := i12_.1 63 6
        have g21 : -2147483648 ≤ h12_.1 63 9 ∧ h12_.1 63 9 ≤ 2147483647 := i12_.1 63 9
        have g22 : -2147483648 ≤ h12_.1 63 10 ∧ h12_.1 63 10 ≤ 2147483647 := i12_.1 63 10
        exfalso; omega
      | succ n ih12 =>
        intro x12_2 bx12_2 h12_ i12_ f12_ w12_0 w12_1 w12_2 hm12
        have g23 : -2147483648 ≤ h12_.1 63 5 ∧ h12_.1 63 5 ≤ 2147483647 := i12_.1 63 5
        have g24 : 0 ≤ h12_.1 63 7 ∧ h12_.1 63 7 ≤ 500 := i12_.1 63 7
        have g25 : 0 ≤ h12_.1 63 8 ∧ h12_.1 63 8 ≤ 500 := i12_.1 63 8
        have g26 : 0 ≤ h12_.1 63 3 ∧ h12_.1 63 3 ≤ 500 := i12_.1 63 3
        have g27 : -2147483648 ≤ h12_.1 63 6 ∧ h12_.1 63 6 ≤ 2147483647 := i12_.1 63 6
        have g28 : -2147483648 ≤ h12_.1 63 9 ∧ h12_.1 63 9 ≤ 2147483647 := i12_.1 63 9
        have g29 : -2147483648 ≤ h12_.1 63 10 ∧ h12_.1 63 10 ≤ 2147483647 := i12_.1 63 10
        have g30 : h12_.1 63 3 = h.1 63 3 := f12_.1 63 3 (by decide)
        have tf12 := mm_cX_h i12_ w12_0.1.2.1
        have tr12 := mm_cX_r i12_ w12_0.1.2.1
        refine mm_iload_n C (mm_dec dk_X7_readAnd 8 rfl) rfl ?_
        refine mm_sipush C (mm_dec dk_X7_readAnd 9 rfl) ⟨by decide, by decide⟩ ?_
        have J53 : ∀ (w53_0 : mm_nC h12_), mm_W x 0 0 53 [mU, mU, mU] [] h12_ := by
          intro w53_0
          have g31 : -2147483648 ≤ h12_.1 63 5 ∧ h12_.1 63 5 ≤ 2147483647 := i12_.1 63 5
          have g32 : 0 ≤ h12_.1 63 7 ∧ h12_.1 63 7 ≤ 500 := i12_.1 63 7
          have g33 : 0 ≤ h12_.1 63 8 ∧ h12_.1 63 8 ≤ 500 := i12_.1 63 8
          have g34 : 0 ≤ h12_.1 63 3 ∧ h12_.1 63 3 ≤ 500 := i12_.1 63 3
          have g35 : -2147483648 ≤ h12_.1 63 6 ∧ h12_.1 63 6 ≤ 2147483647 := i12_.1 63 6
          have g36 : -2147483648 ≤ h12_.1 63 9 ∧ h12_.1 63 9 ≤ 2147483647 := i12_.1 63 9
          have g37 : -2147483648 ≤ h12_.1 63 10 ∧ h12_.1 63 10 ≤ 2147483647 := i12_.1 63 10
          refine mm_iconst C (mm_dec dk_X7_readAnd 28 rfl) ⟨by decide, by decide⟩ ?_
          exact mm_zret C T (mm_dec dk_X7_readAnd 29 rfl) (by decide : 0 ≤ 0) (by decide : 0 ≤ 0) (by omega) ⟨_, rfl, ⟨⟨by omega, by omega⟩, i12_, f12_, by first | exact Or.inl ⟨rfl, w12_0, w53_0⟩ | exact Or.inr ⟨rfl, mm_or0 y2_0 (by omega)⟩ | exact Or.inr ⟨rfl, mm_f7_and w12_0 zc zs (mm_or0 y33_0 (by omega))⟩⟩⟩
        refine mm_icmp_ge (tgt := 53) C (mm_dec dk_X7_readAnd 10 rfl) (by decide) (fun c16 => ?_) (fun c16 => ?_)
        · skip
          refine mm_fgt 0 ?_
          refine mm_fgt 1 ?_
          refine mm_fgt 2 ?_
          exact J53 (by (have z := w12_2; unfold mm_nB at z; unfold mm_nC; have zz := mm_hdx tf12; omega))
        · skip
          refine mm_aload_n C (mm_dec dk_X7_readAnd 11 rfl) rfl ?_
          refine mm_geti C fl_X7_28 (mm_dec dk_X7_readAnd 12 rfl) rfl rfl (Or.inl rfl) ?_
          refine mm_iconst C (mm_dec dk_X7_readAnd 13 rfl) ⟨by decide, by decide⟩ ?_
          refine mm_icmp_ne (tgt := 53) C (mm_dec dk_X7_readAnd 14 rfl) (by decide) (fun c24 => ?_) (fun c24 => ?_)
          · skip
            refine mm_fgt 0 ?_
            refine mm_fgt 1 ?_
            refine mm_fgt 2 ?_
            exact J53 (by (have z := w12_2; unfold mm_nB at z; unfold mm_nC; have zz := mm_hdx tf12; omega))
          · skip
            refine mm_aload_n C (mm_dec dk_X7_readAnd 15 rfl) rfl ?_
            refine mm_cVv (rest := []) C1 ev_X7_52 (mm_dec dk_X7_readAnd 16 rfl) (c_X7_step_q x.2.1 hl (d - 1) (by omega) h12_ i12_ ) rfl rfl (Nat.le_of_ble_eq_true rfl) ⟨by decide, by decide⟩ rfl (fun h28c hp28 => ?_) (fun _ _ q => q.elim)
            obtain ⟨i28c, g28c, y28_0, y28_1, y28_2⟩ := hp28
            have f28c : mm_fr [(63, 4), (63, 5), (63, 6), (63, 7), (63, 8), (63, 9), (63, 10)] [64] h h28c := mm_fr_tr f12_ g28c (by decide +kernel)
            have q28c_39 : h28c.1 63 3 = h12_.1 63 3 := g28c.1 63 3 (by decide)
            have q28c_40 : h28c.1 63 9 = h12_.1 63 9 := g28c.1 63 9 (by decide)
            have q28c_41 : h28c.1 63 10 = h12_.1 63 10 := g28c.1 63 10 (by decide)
            have g42 : -2147483648 ≤ (h28c.1 63 5) ∧ (h28c.1 63 5) ≤ 2147483647 := i28c.1 63 5
            have g43 : 0 ≤ (h28c.1 63 7) ∧ (h28c.1 63 7) ≤ 500 := i28c.1 63 7
            have g44 : 0 ≤ (h28c.1 63 8) ∧ (h28c.1 63 8) ≤ 500 := i28c.1 63 8
            have g45 : -2147483648 ≤ (h28c.1 63 6) ∧ (h28c.1 63 6) ≤ 2147483647 := i28c.1 63 6
            have zs := mm_st7_of w12_0.1.2.1 y28_1 y28_2 g28c (by decide)
            have zc : mm_cX h12_ = 4 ∨ mm_cX h12_ = 5 := by have zz := mm_hdx tf12; omega
            have zl := mm_st7_lt zs (by omega)
            refine mm_aload_n C (mm_dec dk_X7_readAnd 17 rfl) rfl ?_
            refine mm_iload_n C (mm_dec dk_X7_readAnd 18 rfl) rfl ?_
            refine mm_cVi (rest := []) C1 ev_X7_103 (mm_dec dk_X7_readAnd 19 rfl) (c_X7_readNot_q2 x.2.1 hl (d - 1) (by omega) h28c i28c p1 ⟨by omega, by omega⟩ (by exact y28_1)) rfl rfl (Nat.le_of_ble_eq_true rfl) ⟨by decide, by decide⟩ rfl (fun r33 h33c hp33 => ?_) (fun _ _ q => q.elim)
            obtain ⟨b33, i33c, g33c, y33_0⟩ := hp33
            have f33c : mm_fr [(63, 4), (63, 5), (63, 6), (63, 7), (63, 8), (63, 9), (63, 10)] [64] h h33c := mm_fr_tr f28c g33c (by decide +kernel)
            have q33c_47 : h33c.1 63 3 = h28c.1 63 3 := g33c.1 63 3 (by decide)
            have g48 : -2147483648 ≤ (h33c.1 63 5) ∧ (h33c.1 63 5) ≤ 2147483647 := i33c.1 63 5
            have g49 : 0 ≤ (h33c.1 63 7) ∧ (h33c.1 63 7) ≤ 500 := i33c.1 63 7
            have g50 : 0 ≤ (h33c.1 63 8) ∧ (h33c.1 63 8) ≤ 500 := i33c.1 63 8
            have g51 : -2147483648 ≤ (h33c.1 63 6) ∧ (h33c.1 63 6) ≤ 2147483647 := i33c.1 63 6
            have g52 : -2147483648 ≤ (h33c.1 63 9) ∧ (h33c.1 63 9) ≤ 2147483647 := i33c.1 63 9
            have g53 : -2147483648 ≤ (h33c.1 63 10) ∧ (h33c.1 63 10) ≤ 2147483647 := i33c.1 63 10
            refine mm_if_ne (tgt := 41) C (mm_dec dk_X7_readAnd 20 rfl) (by decide) (fun c36 => ?_) (fun c36 => ?_)
            · skip
              refine mm_aload_n C (mm_dec dk_X7_readAnd 23 rfl) rfl ?_
              refine mm_ldc (z := 100012) C (mm_dec dk_X7_readAnd 24 rfl) kc_X7_106 (by decide) ?_
              refine mm_cVv (rest := []) C1 ev_X7_79 (mm_dec dk_X7_readAnd 25 rfl) (c_X7_emit x.2.1 hl (d - 1) (by omega) h33c i33c 100012) rfl rfl (Nat.le_of_ble_eq_true rfl) ⟨by decide, by decide⟩ rfl (fun h44c hp44 => ?_) (fun _ _ q => q.elim)
              obtain ⟨i44c, g44c⟩ := hp44
              have f44c : mm_fr [(63, 4), (63, 5), (63, 6), (63, 7), (63, 8), (63, 9), (63, 10)] [64] h h44c := mm_fr_tr f33c g44c (by decide +kernel)
              have q44c_55 : h44c.1 63 3 = h33c.1 63 3 := g44c.1 63 3 (by decide)
              have q44c_56 : h44c.1 63 5 = h33c.1 63 5 := g44c.1 63 5 (by decide)
              have q44c_57 : h44c.1 63 6 = h33c.1 63 6 := g44c.1 63 6 (by decide)
              have q44c_58 : h44c.1 63 7 = h33c.1 63 7 := g44c.1 63 7 (by decide)
              have q44c_59 : h44c.1 63 8 = h33c.1 63 8 := g44c.1 63 8 (by decide)
              have q44c_60 : h44c.1 63 9 = h33c.1 63 9 := g44c.1 63 9 (by decide)
              have q44c_61 : h44c.1 63 10 = h33c.1 63 10 := g44c.1 63 10 (by decide)
              have zt := g44c.1 63 7 (by decide)
              have zu := (mm_or1 y33_0 (by omega)).1.2.1
              refine mm_iincL (ls2 := [mR 63, mI p1, mI (x12_2 + 1)]) C (mm_dec dk_X7_readAnd 26 rfl) rfl (by decide) ⟨by omega, by omega⟩ rfl ?_
              refine mm_goto (tgt := 12) C (mm_dec dk_X7_readAnd 27 rfl) (by decide) ?_
              exact ih12 (x12_2 + 1) ⟨by omega, by omega⟩ h44c i44c f44c (by first | exact (mm_or1 y2_0 (by omega)).1 | exact mm_q7_em (mm_q7_and w12_0 zc zs (mm_or1 y33_0 (by omega)).1) (mm_em_fr g44c (by decide))) (by omega) (by first | exact (mm_or1 y2_0 (by omega)).2 | exact mm_nB_em (mm_or1 y33_0 (by omega)).2 (mm_em_fr g44c (by decide))) (by omega)
            · skip
              refine mm_iconst C (mm_dec dk_X7_readAnd 21 rfl) ⟨by decide, by decide⟩ ?_
              exact mm_zret C T (mm_dec dk_X7_readAnd 22 rfl) (by decide : 0 ≤ 0) (by decide : 0 ≤ 0) (by omega) ⟨_, rfl, ⟨⟨by omega, by omega⟩, i33c, f33c, by first | exact Or.inl ⟨rfl, w12_0, w53_0⟩ | exact Or.inr ⟨rfl, mm_or0 y2_0 (by omega)⟩ | exact Or.inr ⟨rfl, mm_f7_and w12_0 zc zs (mm_or0 y33_0 (by omega))⟩⟩⟩
    refine mm_istore_nL (ls2 := [mR 63, mI p1, mI 0]) C (mm_dec dk_X7_readAnd 7 rfl) (by decide) rfl ?_
    exact J12 (((500 - 0) : Int) + 1).toNat 0 ⟨by omega, by omega⟩ h2c i2c f2c (by first | exact (mm_or1 y2_0 (by omega)).1 | exact mm_q7_em (mm_q7_and w12_0 zc zs (mm_or1 y33_0 (by omega)).1) (mm_em_fr g44c (by decide))) (by omega) (by first | exact (mm_or1 y2_0 (by omega)).2 | exact mm_nB_em (mm_or1 y33_0 (by omega)).2 (mm_em_fr g44c (by decide))) (by omega)
  · skip
    refine mm_iconst C (mm_dec dk_X7_readAnd 4 rfl) ⟨by decide, by decide⟩ ?_
    exact mm_zret C T (mm_dec dk_X7_readAnd 5 rfl) (by decide : 0 ≤ 0) (by decide : 0 ≤ 0) (by omega) ⟨_, rfl, ⟨⟨by omega, by omega⟩, i2c, f2c, by first | exact Or.inl ⟨rfl, w12_0, w53_0⟩ | exact Or.inr ⟨rfl, mm_or0 y2_0 (by omega)⟩ | exact Or.inr ⟨rfl, mm_f7_and w12_0 zc zs (mm_or0 y33_0 (by omega))⟩⟩⟩
set_option maxRecDepth 100000 in
set_option maxHeartbeats 4000000 in
theorem c_X7_readOr_q2 (l : Launch) (hl : l.stackTraces = false) (d : Nat) (hd : 33 ≤ d) (h : mH) (i0 : mm_inv h) (p1 : Int) (bp1 : 2 ≤ p1 ∧ p1 ≤ 2) (t0 : mm_aX h) : mm_Met l d yX7_readOr cX7_readOr 3 (some .boolean) [mR 63, mI p1] h (mm_pi fun r h2 => (0 ≤ r ∧ r ≤ 1) ∧ mm_inv h2 ∧ mm_fr [(63, 4), (63, 5), (63, 6), (63, 7), (63, 8), (63, 9), (63, 10)] [64] h h2 ∧ ((r = 1 ∧ mm_q7 0 2 h h2 ∧ mm_nD h2) ∨ (r = 0 ∧ mm_f7 0 2 h h2))) mm_nx 0 0 := by
  refine mm_ofW (ls := [mR 63, mI p1, mU]) hl (by decide) rfl (Nat.le_of_ble_eq_true rfl) ?_
  intro x hxl C T hnm htb
  subst hxl
  have C1 := mm_OK_le (d' := d - 1 + 1) (by omega) C
  have C8 := mm_OK_le (d' := d - 8 + 8) (by omega) C
  refine mm_rng (fun hr _ => ?_)
  have ap1 : -2147483648 ≤ p1 ∧ p1 < 2147483648 := mm_ok_at hr (i := 1) rfl
  have f0 : mm_fr [(63, 4), (63, 5), (63, 6), (63, 7), (63, 8), (63, 9), (63, 10)] [64] h h := mm_fr_rf
  have g1 : -2147483648 ≤ h.1 63 5 ∧ h.1 63 5 ≤ 2147483647 := i0.1 63 5
  have g2 : 0 ≤ h.1 63 7 ∧ h.1 63 7 ≤ 500 := i0.1 63 7
  have g3 : 0 ≤ h.1 63 8 ∧ h.1 63 8 ≤ 500 := i0.1 63 8
  have g4 : 0 ≤ h.1 63 3 ∧ h.1 63 3 ≤ 500 := i0.1 63 3
  have g5 : -2147483648 ≤ h.1 63 6 ∧ h.1 63 6 ≤ 2147483647 := i0.1 63 6
  have g6 : -2147483648 ≤ h.1 63 9 ∧ h.1 63 9 ≤ 2147483647 := i0.1 63 9
  have g7 : -2147483648 ≤ h.1 63 10 ∧ h.1 63 10 ≤ 2147483647 := i0.1 63 10
  refine mm_iload_n C (mm_dec dk_X7_readOr 0 rfl) rfl ?_
  refine mm_bipush C (mm_dec dk_X7_readOr 1 rfl) ⟨by decide, by decide⟩ ?_
  refine mm_icmp_lt (tgt := 41) C (mm_dec dk_X7_readOr 2 rfl) (by decide) (fun c3 => ?_) (fun c3 => ?_)
  · skip
    refine mm_aload_n C (mm_dec dk_X7_readOr 21 rfl) rfl ?_
    refine mm_iload_n C (mm_dec dk_X7_readOr 22 rfl) rfl ?_
    refine mm_cVi (rest := []) C1 ev_X7_99 (mm_dec dk_X7_readOr 23 rfl) (c_X7_readAnd_q2 x.2.1 hl (d - 1) (by omega) h i0 p1 ⟨by omega, by omega⟩ (by exact t0)) rfl rfl (Nat.le_of_ble_eq_true rfl) ⟨by decide, by decide⟩ rfl (fun r43 h43c hp43 => ?_) (fun _ _ q => q.elim)
    obtain ⟨b43, i43c, g43c, y43_0⟩ := hp43
    have f43c : mm_fr [(63, 4), (63, 5), (63, 6), (63, 7), (63, 8), (63, 9), (63, 10)] [64] h h43c := mm_fr_tr f0 g43c (by decide +kernel)
    have q43c_9 : h43c.1 63 3 = h.1 63 3 := g43c.1 63 3 (by decide)
    have g10 : -2147483648 ≤ (h43c.1 63 5) ∧ (h43c.1 63 5) ≤ 2147483647 := i43c.1 63 5
    have g11 : 0 ≤ (h43c.1 63 7) ∧ (h43c.1 63 7) ≤ 500 := i43c.1 63 7
    have g12 : 0 ≤ (h43c.1 63 8) ∧ (h43c.1 63 8) ≤ 500 := i43c.1 63 8
    have g13 : -2147483648 ≤ (h43c.1 63 6) ∧ (h43c.1 63 6) ≤ 2147483647 := i43c.1 63 6
    have g14 : -2147483648 ≤ (h43c.1 63 9) ∧ (h43c.1 63 9) ≤ 2147483647 := i43c.1 63 9
    have g15 : -2147483648 ≤ (h43c.1 63 10) ∧ (h43c.1 63 10) ≤ 2147483647 := i43c.1 63 10
    refine mm_if_ne (tgt := 51) C (mm_dec dk_X7_readOr 24 rfl) (by decide) (fun c46 => ?_) (fun c46 => ?_)
    · skip
      refine mm_iconst C (mm_dec dk_X7_readOr 27 rfl) ⟨by decide, by decide⟩ ?_
      have J53 : ∀ (n : Nat) (x53_2 : Int) (bx53_2 : 0 ≤ x53_2 ∧ x53_2 ≤ 500) (h53_ : mH) (i53_ : mm_inv h53_) (f53_ : mm_fr [(63, 4), (63, 5), (63, 6), (63, 7), (63, 8), (63, 9), (63, 10)] [64] h h53_) (w53_0 : mm_q7 0 2 h h53_) (w53_1 : x53_2 ≤ h53_.1 63 7) (w53_2 : mm_nC h53_), (500 - x53_2 : Int) < n → mm_W x 0 0 53 [mR 63, mI p1, mI x53_2] [] h53_ := by
        intro n
        induction n with
        | zero =>
          intro x53_2 bx53_2 h53_ i53_ f53_ w53_0 w53_1 w53_2 hm
          have g16 : -2147483648 ≤ h53_.1 63 5 ∧ h53_.1 63 5 ≤ 2147483647 := i53_.1 63 5
          have g17 : 0 ≤ h53_.1 63 7 ∧ h53_.1 63 7 ≤ 500 := i53_.1 63 7
          have g18 : 0 ≤ h53_.1 63 8 ∧ h53_.1 63 8 ≤ 500 := i53_.1 63 8
          have g19 : 0 ≤ h53_.1 63 3 ∧ h53_.1 63 3 ≤ 500 := i53_.1 63 3
          have g20 : -2147483648 ≤ h53_.1 63 6 ∧ h53_.1 63 6 ≤ 2147483647 := i53_.1 63 6
          have g21 : -2147483648 ≤ h53_.1 63 9 ∧ h53_.1 63 9 ≤ 2147483647 := i53_.1 63 9
          have g22 : -2147483648 ≤ h53_.1 63 10 ∧ h53_.1 63 10 ≤ 2147483647 := i53_.1 63 10
          exfalso; omega
        | succ n ih53 =>
          intro x53_2 bx53_2 h53_ i53_ f53_ w53_0 w53_1 w53_2 hm53
          have g23 : -2147483648 ≤ h53_.1 63 5 ∧ h53_.1 63 5 ≤ 2147483647 := i53_.1 63 5
          have g24 : 0 ≤ h53_.1 63 7 ∧ h53_.1 63 7 ≤ 500 := i53_.1 63 7
          have g25 : 0 ≤ h53_.1 63 8 ∧ h53_.1 63 8 ≤ 500 := i53_.1 63 8
          have g26 : 0 ≤ h53_.1 63 3 ∧ h53_.1 63 3 ≤ 500 := i53_.1 63 3
          have g27 : -2147483648 ≤ h53_.1 63 6 ∧ h53_.1 63 6 ≤ 2147483647 := i53_.1 63 6
          have g28 : -2147483648 ≤ h53_.1 63 9 ∧ h53_.1 63 9 ≤ 2147483647 := i53_.1 63 9
          have g29 : -2147483648 ≤ h53_.1 63 10 ∧ h53_.1 63 10 ≤ 2147483647 := i53_.1 63 10
          have g30 : h53_.1 63 3 = h.1 63 3 := f53_.1 63 3 (by decide)
          have tf12 := mm_cX_h i53_ w53_0.1.2.1
          have tr12 := mm_cX_r i53_ w53_0.1.2.1
          refine mm_iload_n C (mm_dec dk_X7_readOr 29 rfl) rfl ?_
          refine mm_sipush C (mm_dec dk_X7_readOr 30 rfl) ⟨by decide, by decide⟩ ?_
          have J94 : ∀ (w94_0 : mm_nD h53_), mm_W x 0 0 94 [mU, mU, mU] [] h53_ := by
            intro w94_0
            have g31 : -2147483648 ≤ h53_.1 63 5 ∧ h53_.1 63 5 ≤ 2147483647 := i53_.1 63 5
            have g32 : 0 ≤ h53_.1 63 7 ∧ h53_.1 63 7 ≤ 500 := i53_.1 63 7
            have g33 : 0 ≤ h53_.1 63 8 ∧ h53_.1 63 8 ≤ 500 := i53_.1 63 8
            have g34 : 0 ≤ h53_.1 63 3 ∧ h53_.1 63 3 ≤ 500 := i53_.1 63 3
            have g35 : -2147483648 ≤ h53_.1 63 6 ∧ h53_.1 63 6 ≤ 2147483647 := i53_.1 63 6
            have g36 : -2147483648 ≤ h53_.1 63 9 ∧ h53_.1 63 9 ≤ 2147483647 := i53_.1 63 9
            have g37 : -2147483648 ≤ h53_.1 63 10 ∧ h53_.1 63 10 ≤ 2147483647 := i53_.1 63 10
            refine mm_iconst C (mm_dec dk_X7_readOr 49 rfl) ⟨by decide, by decide⟩ ?_
            exact mm_zret C T (mm_dec dk_X7_readOr 50 rfl) (by decide : 0 ≤ 0) (by decide : 0 ≤ 0) (by omega) ⟨_, rfl, ⟨⟨by omega, by omega⟩, i53_, f53_, by first | exact Or.inl ⟨rfl, w53_0, w94_0⟩ | exact Or.inr ⟨rfl, mm_or0 y43_0 (by omega)⟩ | exact Or.inr ⟨rfl, mm_f7_and w53_0 zc zs (mm_or0 y74_0 (by omega))⟩⟩⟩
          refine mm_icmp_ge (tgt := 94) C (mm_dec dk_X7_readOr 31 rfl) (by decide) (fun c57 => ?_) (fun c57 => ?_)
          · skip
            refine mm_fgt 0 ?_
            refine mm_fgt 1 ?_
            refine mm_fgt 2 ?_
            exact J94 (by (have z := w53_2; unfold mm_nC at z; unfold mm_nD; have zz := mm_hdx tf12; omega))
          · skip
            refine mm_aload_n C (mm_dec dk_X7_readOr 32 rfl) rfl ?_
            refine mm_geti C fl_X7_28 (mm_dec dk_X7_readOr 33 rfl) rfl rfl (Or.inl rfl) ?_
            refine mm_iconst C (mm_dec dk_X7_readOr 34 rfl) ⟨by decide, by decide⟩ ?_
            refine mm_icmp_ne (tgt := 94) C (mm_dec dk_X7_readOr 35 rfl) (by decide) (fun c65 => ?_) (fun c65 => ?_)
            · skip
              refine mm_fgt 0 ?_
              refine mm_fgt 1 ?_
              refine mm_fgt 2 ?_
              exact J94 (by (have z := w53_2; unfold mm_nC at z; unfold mm_nD; have zz := mm_hdx tf12; omega))
            · skip
              refine mm_aload_n C (mm_dec dk_X7_readOr 36 rfl) rfl ?_
              refine mm_cVv (rest := []) C1 ev_X7_52 (mm_dec dk_X7_readOr 37 rfl) (c_X7_step_q x.2.1 hl (d - 1) (by omega) h53_ i53_ ) rfl rfl (Nat.le_of_ble_eq_true rfl) ⟨by decide, by decide⟩ rfl (fun h69c hp69 => ?_) (fun _ _ q => q.elim)
              obtain ⟨i69c, g69c, y69_0, y69_1, y69_2⟩ := hp69
              have f69c : mm_fr [(63, 4), (63, 5), (63, 6), (63, 7), (63, 8), (63, 9), (63, 10)] [64] h h69c := mm_fr_tr f53_ g69c (by decide +kernel)
              have q69c_39 : h69c.1 63 3 = h53_.1 63 3 := g69c.1 63 3 (by decide)
              have q69c_40 : h69c.1 63 9 = h53_.1 63 9 := g69c.1 63 9 (by decide)
              have q69c_41 : h69c.1 63 10 = h53_.1 63 10 := g69c.1 63 10 (by decide)
              have g42 : -2147483648 ≤ (h69c.1 63 5) ∧ (h69c.1 63 5) ≤ 2147483647 := i69c.1 63 5
              have g43 : 0 ≤ (h69c.1 63 7) ∧ (h69c.1 63 7) ≤ 500 := i69c.1 63 7
              have g44 : 0 ≤ (h69c.1 63 8) ∧ (h69c.1 63 8) ≤ 500 := i69c.1 63 8
              have g45 : -2147483648 ≤ (h69c.1 63 6) ∧ (h69c.1 63 6) ≤ 2147483647 := i69c.1 63 6
              have zs := mm_st7_of w53_0.1.2.1 y69_1 y69_2 g69c (by decide)
              have zc : mm_cX h53_ = 4 ∨ mm_cX h53_ = 5 := by have zz := mm_hdx tf12; omega
              have zl := mm_st7_lt zs (by omega)
              refine mm_aload_n C (mm_dec dk_X7_readOr 38 rfl) rfl ?_
              refine mm_iload_n C (mm_dec dk_X7_readOr 39 rfl) rfl ?_
              refine mm_cVi (rest := []) C1 ev_X7_99 (mm_dec dk_X7_readOr 40 rfl) (c_X7_readAnd_q2 x.2.1 hl (d - 1) (by omega) h69c i69c p1 ⟨by omega, by omega⟩ (by exact y69_1)) rfl rfl (Nat.le_of_ble_eq_true rfl) ⟨by decide, by decide⟩ rfl (fun r74 h74c hp74 => ?_) (fun _ _ q => q.elim)
              obtain ⟨b74, i74c, g74c, y74_0⟩ := hp74
              have f74c : mm_fr [(63, 4), (63, 5), (63, 6), (63, 7), (63, 8), (63, 9), (63, 10)] [64] h h74c := mm_fr_tr f69c g74c (by decide +kernel)
              have q74c_47 : h74c.1 63 3 = h69c.1 63 3 := g74c.1 63 3 (by decide)
              have g48 : -2147483648 ≤ (h74c.1 63 5) ∧ (h74c.1 63 5) ≤ 2147483647 := i74c.1 63 5
              have g49 : 0 ≤ (h74c.1 63 7) ∧ (h74c.1 63 7) ≤ 500 := i74c.1 63 7
              have g50 : 0 ≤ (h74c.1 63 8) ∧ (h74c.1 63 8) ≤ 500 := i74c.1 63 8
              have g51 : -2147483648 ≤ (h74c.1 63 6) ∧ (h74c.1 63 6) ≤ 2147483647 := i74c.1 63 6
              have g52 : -2147483648 ≤ (h74c.1 63 9) ∧ (h74c.1 63 9) ≤ 2147483647 := i74c.1 63 9
              have g53 : -2147483648 ≤ (h74c.1 63 10) ∧ (h74c.1 63 10) ≤ 2147483647 := i74c.1 63 10
              refine mm_if_ne (tgt := 82) C (mm_dec dk_X7_readOr 41 rfl) (by decide) (fun c77 => ?_) (fun c77 => ?_)
              · skip
                refine mm_aload_n C (mm_dec dk_X7_readOr 44 rfl) rfl ?_
                refine mm_ldc (z := 100011) C (mm_dec dk_X7_readOr 45 rfl) kc_X7_102 (by decide) ?_
                refine mm_cVv (rest := []) C1 ev_X7_79 (mm_dec dk_X7_readOr 46 rfl) (c_X7_emit x.2.1 hl (d - 1) (by omega) h74c i74c 100011) rfl rfl (Nat.le_of_ble_eq_true rfl) ⟨by decide, by decide⟩ rfl (fun h85c hp85 => ?_) (fun _ _ q => q.elim)
                obtain ⟨i85c, g85c⟩ := hp85
                have f85c : mm_fr [(63, 4), (63, 5), (63, 6), (63, 7), (63, 8), (63, 9), (63, 10)] [64] h h85c := mm_fr_tr f74c g85c (by decide +kernel)
                have q85c_55 : h85c.1 63 3 = h74c.1 63 3 := g85c.1 63 3 (by decide)
                have q85c_56 : h85c.1 63 5 = h74c.1 63 5 := g85c.1 63 5 (by decide)
                have q85c_57 : h85c.1 63 6 = h74c.1 63 6 := g85c.1 63 6 (by decide)
                have q85c_58 : h85c.1 63 7 = h74c.1 63 7 := g85c.1 63 7 (by decide)
                have q85c_59 : h85c.1 63 8 = h74c.1 63 8 := g85c.1 63 8 (by decide)
                have q85c_60 : h85c.1 63 9 = h74c.1 63 9 := g85c.1 63 9 (by decide)
                have q85c_61 : h85c.1 63 10 = h74c.1 63 10 := g85c.1 63 10 (by decide)
                have zt := g85c.1 63 7 (by decide)
                have zu := (mm_or1 y74_0 (by omega)).1.2.1
                refine mm_iincL (ls2 := [mR 63, mI p1, mI (x53_2 + 1)]) C (mm_dec dk_X7_readOr 47 rfl) rfl (by decide) ⟨by omega, by omega⟩ rfl ?_
                refine mm_goto (tgt := 53) C (mm_dec dk_X7_readOr 48 rfl) (by decide) ?_
                exact ih53 (x53_2 + 1) ⟨by omega, by omega⟩ h85c i85c f85c (by first | exact (mm_or1 y43_0 (by omega)).1 | exact mm_q7_em (mm_q7_and w53_0 zc zs (mm_or1 y74_0 (by omega)).1) (mm_em_fr g85c (by decide))) (by omega) (by first | exact (mm_or1 y43_0 (by omega)).2 | exact mm_nC_em (mm_or1 y74_0 (by omega)).2 (mm_em_fr g85c (by decide))) (by omega)
              · skip
                refine mm_iconst C (mm_dec dk_X7_readOr 42 rfl) ⟨by decide, by decide⟩ ?_
                exact mm_zret C T (mm_dec dk_X7_readOr 43 rfl) (by decide : 0 ≤ 0) (by decide : 0 ≤ 0) (by omega) ⟨_, rfl, ⟨⟨by omega, by omega⟩, i74c, f74c, by first | exact Or.inl ⟨rfl, w53_0, w94_0⟩ | exact Or.inr ⟨rfl, mm_or0 y43_0 (by omega)⟩ | exact Or.inr ⟨rfl, mm_f7_and w53_0 zc zs (mm_or0 y74_0 (by omega))⟩⟩⟩
      refine mm_istore_nL (ls2 := [mR 63, mI p1, mI 0]) C (mm_dec dk_X7_readOr 28 rfl) (by decide) rfl ?_
      exact J53 (((500 - 0) : Int) + 1).toNat 0 ⟨by omega, by omega⟩ h43c i43c f43c (by first | exact (mm_or1 y43_0 (by omega)).1 | exact mm_q7_em (mm_q7_and w53_0 zc zs (mm_or1 y74_0 (by omega)).1) (mm_em_fr g85c (by decide))) (by omega) (by first | exact (mm_or1 y43_0 (by omega)).2 | exact mm_nC_em (mm_or1 y74_0 (by omega)).2 (mm_em_fr g85c (by decide))) (by omega)
    · skip
      refine mm_iconst C (mm_dec dk_X7_readOr 25 rfl) ⟨by decide, by decide⟩ ?_
      exact mm_zret C T (mm_dec dk_X7_readOr 26 rfl) (by decide : 0 ≤ 0) (by decide : 0 ≤ 0) (by omega) ⟨_, rfl, ⟨⟨by omega, by omega⟩, i43c, f43c, by first | exact Or.inl ⟨rfl, w53_0, w94_0⟩ | exact Or.inr ⟨rfl, mm_or0 y43_0 (by omega)⟩ | exact Or.inr ⟨rfl, mm_f7_and w53_0 zc zs (mm_or0 y74_0 (by omega))⟩⟩⟩
  · skip
    exfalso; omega
set_option maxRecDepth 100000 in
set_option maxHeartbeats 4000000 in
theorem c_X7_readPart_q1 (l : Launch) (hl : l.stackTraces = false) (d : Nat) (hd : 34 ≤ d) (h : mH) (i0 : mm_inv h) (p1 : Int) (bp1 : 1 ≤ p1 ∧ p1 ≤ 1) (t0 : mm_aX h) : mm_Met l d yX7_readPart cX7_readPart 2 (some .boolean) [mR 63, mI p1] h (mm_pi fun r h2 => (0 ≤ r ∧ r ≤ 1) ∧ mm_inv h2 ∧ mm_fr [(63, 4), (63, 5), (63, 6), (63, 7), (63, 8), (63, 9), (63, 10)] [64] h h2 ∧ ((r = 1 ∧ mm_p7 1 h h2) ∨ (r = 0 ∧ mm_g7 1 h h2))) mm_nx 0 0 := by
  refine mm_ofW (ls := [mR 63, mI p1]) hl (by decide) rfl (Nat.le_of_ble_eq_true rfl) ?_
  intro x hxl C T hnm htb
  subst hxl
  have C1 := mm_OK_le (d' := d - 1 + 1) (by omega) C
  have C8 := mm_OK_le (d' := d - 8 + 8) (by omega) C
  refine mm_rng (fun hr _ => ?_)
  have ap1 : -2147483648 ≤ p1 ∧ p1 < 2147483648 := mm_ok_at hr (i := 1) rfl
  have f0 : mm_fr [(63, 4), (63, 5), (63, 6), (63, 7), (63, 8), (63, 9), (63, 10)] [64] h h := mm_fr_rf
  have g1 : -2147483648 ≤ h.1 63 5 ∧ h.1 63 5 ≤ 2147483647 := i0.1 63 5
  have g2 : 0 ≤ h.1 63 7 ∧ h.1 63 7 ≤ 500 := i0.1 63 7
  have g3 : 0 ≤ h.1 63 8 ∧ h.1 63 8 ≤ 500 := i0.1 63 8
  have g4 : 0 ≤ h.1 63 3 ∧ h.1 63 3 ≤ 500 := i0.1 63 3
  have g5 : -2147483648 ≤ h.1 63 6 ∧ h.1 63 6 ≤ 2147483647 := i0.1 63 6
  have g6 : -2147483648 ≤ h.1 63 9 ∧ h.1 63 9 ≤ 2147483647 := i0.1 63 9
  have g7 : -2147483648 ≤ h.1 63 10 ∧ h.1 63 10 ≤ 2147483647 := i0.1 63 10
  have tf := mm_cX_h i0 t0
  have tr := mm_cX_r i0 t0
  refine mm_aload_n C (mm_dec dk_X7_readPart 0 rfl) rfl ?_
  refine mm_bipush C (mm_dec dk_X7_readPart 1 rfl) ⟨by decide, by decide⟩ ?_
  refine mm_cVi (rest := []) C1 ev_X7_96 (mm_dec dk_X7_readPart 2 rfl) (c_X7_isSign x.2.1 hl (d - 1) (by omega) h i0 40 (by omega)) rfl rfl (Nat.le_of_ble_eq_true rfl) ⟨by decide, by decide⟩ rfl (fun r3 h3c hp3 => ?_) (fun _ _ q => q.elim)
  obtain ⟨z3, y3⟩ := hp3
  rw [z3]
  have g9 : -2147483648 ≤ (h.2.1 62 (h.1 63 7)) ∧ (h.2.1 62 (h.1 63 7)) ≤ 2147483647 := i0.2.1 62 (h.1 63 7)
  refine mm_if_eq (tgt := 38) C (mm_dec dk_X7_readPart 3 rfl) (by decide) (fun c6 => ?_) (fun c6 => ?_)
  · skip
    refine mm_aload_n C (mm_dec dk_X7_readPart 20 rfl) rfl ?_
    refine mm_geti C fl_X7_25 (mm_dec dk_X7_readPart 21 rfl) rfl rfl (Or.inl rfl) ?_
    refine mm_iconst C (mm_dec dk_X7_readPart 22 rfl) ⟨by decide, by decide⟩ ?_
    have J117 : ∀ (h117_ : mH) (i117_ : mm_inv h117_) (f117_ : mm_fr [(63, 4), (63, 5), (63, 6), (63, 7), (63, 8), (63, 9), (63, 10)] [64] h h117_) (w117_0 : mm_em h h117_) (w117_1 : (mm_cX h = 18 ∨ (7 ≤ mm_cX h ∧ mm_cX h ≤ 16))), mm_W x 0 0 117 [mR 63, mU] [] h117_ := by
      intro h117_ i117_ f117_ w117_0 w117_1
      have g10 : -2147483648 ≤ h117_.1 63 5 ∧ h117_.1 63 5 ≤ 2147483647 := i117_.1 63 5
      have g11 : 0 ≤ h117_.1 63 7 ∧ h117_.1 63 7 ≤ 500 := i117_.1 63 7
      have g12 : 0 ≤ h117_.1 63 8 ∧ h117_.1 63 8 ≤ 500 := i117_.1 63 8
      have g13 : 0 ≤ h117_.1 63 3 ∧ h117_.1 63 3 ≤ 500 := i117_.1 63 3
      have g14 : -2147483648 ≤ h117_.1 63 6 ∧ h117_.1 63 6 ≤ 2147483647 := i117_.1 63 6
      have g15 : -2147483648 ≤ h117_.1 63 9 ∧ h117_.1 63 9 ≤ 2147483647 := i117_.1 63 9
      have g16 : -2147483648 ≤ h117_.1 63 10 ∧ h117_.1 63 10 ≤ 2147483647 := i117_.1 63 10
      have g17 : h117_.1 63 3 = h.1 63 3 := f117_.1 63 3 (by decide)
      refine mm_aload_n C (mm_dec dk_X7_readPart 61 rfl) rfl ?_
      refine mm_cVv (rest := []) C1 ev_X7_52 (mm_dec dk_X7_readPart 62 rfl) (c_X7_step_q x.2.1 hl (d - 1) (by omega) h117_ i117_ ) rfl rfl (Nat.le_of_ble_eq_true rfl) ⟨by decide, by decide⟩ rfl (fun h118c hp118 => ?_) (fun _ _ q => q.elim)
      obtain ⟨i118c, g118c, y118_0, y118_1, y118_2⟩ := hp118
      have f118c : mm_fr [(63, 4), (63, 5), (63, 6), (63, 7), (63, 8), (63, 9), (63, 10)] [64] h h118c := mm_fr_tr f117_ g118c (by decide +kernel)
      have q118c_19 : h118c.1 63 3 = h117_.1 63 3 := g118c.1 63 3 (by decide)
      have q118c_20 : h118c.1 63 9 = h117_.1 63 9 := g118c.1 63 9 (by decide)
      have q118c_21 : h118c.1 63 10 = h117_.1 63 10 := g118c.1 63 10 (by decide)
      have g22 : -2147483648 ≤ (h118c.1 63 5) ∧ (h118c.1 63 5) ≤ 2147483647 := i118c.1 63 5
      have g23 : 0 ≤ (h118c.1 63 7) ∧ (h118c.1 63 7) ≤ 500 := i118c.1 63 7
      have g24 : 0 ≤ (h118c.1 63 8) ∧ (h118c.1 63 8) ≤ 500 := i118c.1 63 8
      have g25 : -2147483648 ≤ (h118c.1 63 6) ∧ (h118c.1 63 6) ≤ 2147483647 := i118c.1 63 6
      refine mm_iconst C (mm_dec dk_X7_readPart 63 rfl) ⟨by decide, by decide⟩ ?_
      exact mm_zret C T (mm_dec dk_X7_readPart 64 rfl) (by decide : 0 ≤ 0) (by decide : 0 ≤ 0) (by omega) ⟨_, rfl, ⟨⟨by omega, by omega⟩, i118c, f118c, by first | exact w37_0 | exact Or.inr ⟨by omega, mm_g7_bad (by have zz := mm_hdx tf; have zy := y57_0; omega) y57_1⟩ | (have z := mm_or0 y101_0 (by omega); exact Or.inr ⟨rfl, mm_g7_bad (by have := z.1; have zz := mm_hdx tf; omega) z.2⟩) | exact Or.inl ⟨rfl, mm_p7_part w117_1 w117_0 (mm_st7_of (mm_em_a w117_0 t0) y118_1 y118_2 g118c (by decide))⟩⟩⟩
    refine mm_icmp_ne (tgt := 100) C (mm_dec dk_X7_readPart 23 rfl) (by decide) (fun c43 => ?_) (fun c43 => ?_)
    · skip
      refine mm_aload_n C (mm_dec dk_X7_readPart 52 rfl) rfl ?_
      refine mm_cVi (rest := []) C1 ev_X7_89 (mm_dec dk_X7_readPart 53 rfl) (c_X7_isNumber_q x.2.1 hl (d - 1) (by omega) h i0 ) rfl rfl (Nat.le_of_ble_eq_true rfl) ⟨by decide, by decide⟩ rfl (fun r101 h101c hp101 => ?_) (fun _ _ q => q.elim)
      obtain ⟨b101, i101c, g101c, y101_0⟩ := hp101
      have f101c : mm_fr [(63, 4), (63, 5), (63, 6), (63, 7), (63, 8), (63, 9), (63, 10)] [64] h h101c := mm_fr_tr f0 g101c (by decide +kernel)
      have q101c_27 : h101c.1 63 3 = h.1 63 3 := g101c.1 63 3 (by decide)
      have q101c_28 : h101c.1 63 5 = h.1 63 5 := g101c.1 63 5 (by decide)
      have q101c_29 : h101c.1 63 6 = h.1 63 6 := g101c.1 63 6 (by decide)
      have q101c_30 : h101c.1 63 7 = h.1 63 7 := g101c.1 63 7 (by decide)
      have q101c_31 : h101c.1 63 8 = h.1 63 8 := g101c.1 63 8 (by decide)
      have g32 : -2147483648 ≤ (h101c.1 63 9) ∧ (h101c.1 63 9) ≤ 2147483647 := i101c.1 63 9
      have g33 : -2147483648 ≤ (h101c.1 63 10) ∧ (h101c.1 63 10) ≤ 2147483647 := i101c.1 63 10
      refine mm_if_ne (tgt := 109) C (mm_dec dk_X7_readPart 54 rfl) (by decide) (fun c104 => ?_) (fun c104 => ?_)
      · skip
        refine mm_aload_n C (mm_dec dk_X7_readPart 57 rfl) rfl ?_
        refine mm_aload_n C (mm_dec dk_X7_readPart 58 rfl) rfl ?_
        refine mm_cVi (rest := [mR 63]) C1 ev_X7_92 (mm_dec dk_X7_readPart 59 rfl) (c_X7_numberOfToken_q x.2.1 hl (d - 1) (by omega) h101c i101c (by first | exact mm_em_a (mm_or1 y101_0 (by omega)).2.2 t0 | (have z := (mm_or1 y101_0 (by omega)).2.2; have z5 := z.2.1; have z7 := z.2.2.2.1; have z8 := z.2.2.2.2.1; omega)) (by first | exact mm_em_a (mm_or1 y101_0 (by omega)).2.2 t0 | (have z := (mm_or1 y101_0 (by omega)).2.2; have z5 := z.2.1; have z7 := z.2.2.2.1; have z8 := z.2.2.2.2.1; omega)) (by first | exact mm_em_a (mm_or1 y101_0 (by omega)).2.2 t0 | (have z := (mm_or1 y101_0 (by omega)).2.2; have z5 := z.2.1; have z7 := z.2.2.2.1; have z8 := z.2.2.2.2.1; omega))) rfl rfl (Nat.le_of_ble_eq_true rfl) ⟨by decide, by decide⟩ rfl (fun r111 h111c hp111 => ?_) (fun _ _ q => q.elim)
        obtain ⟨b111, z111, y111_0⟩ := hp111
        rw [z111]
        refine mm_cVv (rest := []) C1 ev_X7_79 (mm_dec dk_X7_readPart 60 rfl) (c_X7_emit x.2.1 hl (d - 1) (by omega) h101c i101c r111) rfl rfl (Nat.le_of_ble_eq_true rfl) ⟨by decide, by decide⟩ rfl (fun h114c hp114 => ?_) (fun _ _ q => q.elim)
        obtain ⟨i114c, g114c⟩ := hp114
        have f114c : mm_fr [(63, 4), (63, 5), (63, 6), (63, 7), (63, 8), (63, 9), (63, 10)] [64] h h114c := mm_fr_tr f101c g114c (by decide +kernel)
        have q114c_36 : h114c.1 63 3 = h101c.1 63 3 := g114c.1 63 3 (by decide)
        have q114c_37 : h114c.1 63 5 = h101c.1 63 5 := g114c.1 63 5 (by decide)
        have q114c_38 : h114c.1 63 6 = h101c.1 63 6 := g114c.1 63 6 (by decide)
        have q114c_39 : h114c.1 63 7 = h101c.1 63 7 := g114c.1 63 7 (by decide)
        have q114c_40 : h114c.1 63 8 = h101c.1 63 8 := g114c.1 63 8 (by decide)
        have q114c_41 : h114c.1 63 9 = h101c.1 63 9 := g114c.1 63 9 (by decide)
        have q114c_42 : h114c.1 63 10 = h101c.1 63 10 := g114c.1 63 10 (by decide)
        refine mm_fgt 1 ?_
        exact J117 h114c i114c f114c (by first | exact mm_em_fr g94c (by decide) | exact mm_em_tr (mm_or1 y101_0 (by omega)).2.2 (mm_em_fr g114c (by decide))) (by first | (have zz := mm_hdx tf; omega) | (have z := mm_or1 y101_0 (by omega); have z1 := z.1; have z2 := z.2.1; have zz := mm_hdx tf; omega))
      · skip
        refine mm_iconst C (mm_dec dk_X7_readPart 55 rfl) ⟨by decide, by decide⟩ ?_
        exact mm_zret C T (mm_dec dk_X7_readPart 56 rfl) (by decide : 0 ≤ 0) (by decide : 0 ≤ 0) (by omega) ⟨_, rfl, ⟨⟨by omega, by omega⟩, i101c, f101c, by first | exact w37_0 | exact Or.inr ⟨by omega, mm_g7_bad (by have zz := mm_hdx tf; have zy := y57_0; omega) y57_1⟩ | (have z := mm_or0 y101_0 (by omega); exact Or.inr ⟨rfl, mm_g7_bad (by have := z.1; have zz := mm_hdx tf; omega) z.2⟩) | exact Or.inl ⟨rfl, mm_p7_part w117_1 w117_0 (mm_st7_of (mm_em_a w117_0 t0) y118_1 y118_2 g118c (by decide))⟩⟩⟩
    · skip
      refine mm_aload_n C (mm_dec dk_X7_readPart 24 rfl) rfl ?_
      refine mm_geti C fl_X7_28 (mm_dec dk_X7_readPart 25 rfl) rfl rfl (Or.inl rfl) ?_
      refine mm_bipush C (mm_dec dk_X7_readPart 26 rfl) ⟨by decide, by decide⟩ ?_
      refine mm_icmp_ge (tgt := 61) C (mm_dec dk_X7_readPart 27 rfl) (by decide) (fun c52 => ?_) (fun c52 => ?_)
      · skip
        refine mm_aload_n C (mm_dec dk_X7_readPart 32 rfl) rfl ?_
        refine mm_aload_n C (mm_dec dk_X7_readPart 33 rfl) rfl ?_
        refine mm_geti C fl_X7_28 (mm_dec dk_X7_readPart 34 rfl) rfl rfl (Or.inl rfl) ?_
        refine mm_bipush C (mm_dec dk_X7_readPart 35 rfl) ⟨by decide, by decide⟩ ?_
        have J94 : ∀ (s94_1 : Int) (bs94_1 : -2147483648 ≤ s94_1 ∧ s94_1 ≤ 2147483647), mm_W x 0 0 94 [mR 63, mU] [mI s94_1, mR 63] h := by
          intro s94_1 bs94_1
          have g43 : -2147483648 ≤ h.1 63 5 ∧ h.1 63 5 ≤ 2147483647 := i0.1 63 5
          have g44 : 0 ≤ h.1 63 7 ∧ h.1 63 7 ≤ 500 := i0.1 63 7
          have g45 : 0 ≤ h.1 63 8 ∧ h.1 63 8 ≤ 500 := i0.1 63 8
          have g46 : 0 ≤ h.1 63 3 ∧ h.1 63 3 ≤ 500 := i0.1 63 3
          have g47 : -2147483648 ≤ h.1 63 6 ∧ h.1 63 6 ≤ 2147483647 := i0.1 63 6
          have g48 : -2147483648 ≤ h.1 63 9 ∧ h.1 63 9 ≤ 2147483647 := i0.1 63 9
          have g49 : -2147483648 ≤ h.1 63 10 ∧ h.1 63 10 ≤ 2147483647 := i0.1 63 10
          refine mm_cVv (rest := []) C1 ev_X7_79 (mm_dec dk_X7_readPart 50 rfl) (c_X7_emit x.2.1 hl (d - 1) (by omega) h i0 s94_1) rfl rfl (Nat.le_of_ble_eq_true rfl) ⟨by decide, by decide⟩ rfl (fun h94c hp94 => ?_) (fun _ _ q => q.elim)
          obtain ⟨i94c, g94c⟩ := hp94
          have f94c : mm_fr [(63, 4), (63, 5), (63, 6), (63, 7), (63, 8), (63, 9), (63, 10)] [64] h h94c := mm_fr_tr f0 g94c (by decide +kernel)
          have q94c_51 : h94c.1 63 3 = h.1 63 3 := g94c.1 63 3 (by decide)
          have q94c_52 : h94c.1 63 5 = h.1 63 5 := g94c.1 63 5 (by decide)
          have q94c_53 : h94c.1 63 6 = h.1 63 6 := g94c.1 63 6 (by decide)
          have q94c_54 : h94c.1 63 7 = h.1 63 7 := g94c.1 63 7 (by decide)
          have q94c_55 : h94c.1 63 8 = h.1 63 8 := g94c.1 63 8 (by decide)
          have q94c_56 : h94c.1 63 9 = h.1 63 9 := g94c.1 63 9 (by decide)
          have q94c_57 : h94c.1 63 10 = h.1 63 10 := g94c.1 63 10 (by decide)
          refine mm_goto (tgt := 117) C (mm_dec dk_X7_readPart 51 rfl) (by decide) ?_
          exact J117 h94c i94c f94c (by first | exact mm_em_fr g94c (by decide) | exact mm_em_tr (mm_or1 y101_0 (by omega)).2.2 (mm_em_fr g114c (by decide))) (by first | (have zz := mm_hdx tf; omega) | (have z := mm_or1 y101_0 (by omega); have z1 := z.1; have z2 := z.2.1; have zz := mm_hdx tf; omega))
        refine mm_icmp_ge (tgt := 84) C (mm_dec dk_X7_readPart 36 rfl) (by decide) (fun c68 => ?_) (fun c68 => ?_)
        · skip
          refine mm_ldc (z := 100000) C (mm_dec dk_X7_readPart 44 rfl) kc_X7_127 (by decide) ?_
          refine mm_aload_n C (mm_dec dk_X7_readPart 45 rfl) rfl ?_
          refine mm_geti C fl_X7_28 (mm_dec dk_X7_readPart 46 rfl) rfl rfl (Or.inl rfl) ?_
          refine mm_iaddw C (mm_dec dk_X7_readPart 47 rfl) ?_
          have g58 : -2147483648 ≤ (mm_w (100000 + (h.1 63 6))) ∧ (mm_w (100000 + (h.1 63 6))) < 2147483648 := mm_w_rg _
          refine mm_bipush C (mm_dec dk_X7_readPart 48 rfl) ⟨by decide, by decide⟩ ?_
          refine mm_isubw C (mm_dec dk_X7_readPart 49 rfl) ?_
          have g59 : -2147483648 ≤ (mm_w ((mm_w (100000 + (h.1 63 6))) - 10)) ∧ (mm_w ((mm_w (100000 + (h.1 63 6))) - 10)) < 2147483648 := mm_w_rg _
          refine mm_fgt 1 ?_
          exact J94 (mm_w ((mm_w (100000 + (h.1 63 6))) - 10)) ⟨by omega, by omega⟩
        · skip
          refine mm_ldc (z := 100007) C (mm_dec dk_X7_readPart 37 rfl) kc_X7_126 (by decide) ?_
          refine mm_aload_n C (mm_dec dk_X7_readPart 38 rfl) rfl ?_
          refine mm_geti C fl_X7_28 (mm_dec dk_X7_readPart 39 rfl) rfl rfl (Or.inl rfl) ?_
          refine mm_iadd C (mm_dec dk_X7_readPart 40 rfl) ⟨by omega, by omega⟩ ?_
          refine mm_bipush C (mm_dec dk_X7_readPart 41 rfl) ⟨by decide, by decide⟩ ?_
          refine mm_isub C (mm_dec dk_X7_readPart 42 rfl) ⟨by omega, by omega⟩ ?_
          refine mm_goto (tgt := 94) C (mm_dec dk_X7_readPart 43 rfl) (by decide) ?_
          refine mm_fgt 1 ?_
          exact J94 ((100007 + (h.1 63 6)) - 7) ⟨by omega, by omega⟩
      · skip
        refine mm_aload_n C (mm_dec dk_X7_readPart 28 rfl) rfl ?_
        refine mm_iconst C (mm_dec dk_X7_readPart 29 rfl) ⟨by decide, by decide⟩ ?_
        refine mm_cVi (rest := []) C1 ev_X7_65 (mm_dec dk_X7_readPart 30 rfl) (c_X7_refuse_q x.2.1 hl (d - 1) (by omega) h i0 3) rfl rfl (Nat.le_of_ble_eq_true rfl) ⟨by decide, by decide⟩ rfl (fun r57 h57c hp57 => ?_) (fun _ _ q => q.elim)
        obtain ⟨b57, i57c, g57c, y57_0, y57_1⟩ := hp57
        have f57c : mm_fr [(63, 4), (63, 5), (63, 6), (63, 7), (63, 8), (63, 9), (63, 10)] [64] h h57c := mm_fr_tr f0 g57c (by decide +kernel)
        have q57c_61 : h57c.1 63 3 = h.1 63 3 := g57c.1 63 3 (by decide)
        have q57c_62 : h57c.1 63 5 = h.1 63 5 := g57c.1 63 5 (by decide)
        have q57c_63 : h57c.1 63 6 = h.1 63 6 := g57c.1 63 6 (by decide)
        have q57c_64 : h57c.1 63 7 = h.1 63 7 := g57c.1 63 7 (by decide)
        have q57c_65 : h57c.1 63 8 = h.1 63 8 := g57c.1 63 8 (by decide)
        have g66 : -2147483648 ≤ (h57c.1 63 9) ∧ (h57c.1 63 9) ≤ 2147483647 := i57c.1 63 9
        have g67 : -2147483648 ≤ (h57c.1 63 10) ∧ (h57c.1 63 10) ≤ 2147483647 := i57c.1 63 10
        exact mm_zret C T (mm_dec dk_X7_readPart 31 rfl) (by decide : 0 ≤ 0) (by decide : 0 ≤ 0) (by omega) ⟨_, rfl, ⟨⟨by omega, by omega⟩, i57c, f57c, by first | exact w37_0 | exact Or.inr ⟨by omega, mm_g7_bad (by have zz := mm_hdx tf; have zy := y57_0; omega) y57_1⟩ | (have z := mm_or0 y101_0 (by omega); exact Or.inr ⟨rfl, mm_g7_bad (by have := z.1; have zz := mm_hdx tf; omega) z.2⟩) | exact Or.inl ⟨rfl, mm_p7_part w117_1 w117_0 (mm_st7_of (mm_em_a w117_0 t0) y118_1 y118_2 g118c (by decide))⟩⟩⟩
  · skip
    refine mm_aload_n C (mm_dec dk_X7_readPart 4 rfl) rfl ?_
    refine mm_cVv (rest := []) C1 ev_X7_52 (mm_dec dk_X7_readPart 5 rfl) (c_X7_step_q x.2.1 hl (d - 1) (by omega) h i0 ) rfl rfl (Nat.le_of_ble_eq_true rfl) ⟨by decide, by decide⟩ rfl (fun h10c hp10 => ?_) (fun _ _ q => q.elim)
    obtain ⟨i10c, g10c, y10_0, y10_1, y10_2⟩ := hp10
    have f10c : mm_fr [(63, 4), (63, 5), (63, 6), (63, 7), (63, 8), (63, 9), (63, 10)] [64] h h10c := mm_fr_tr f0 g10c (by decide +kernel)
    have q10c_69 : h10c.1 63 3 = h.1 63 3 := g10c.1 63 3 (by decide)
    have q10c_70 : h10c.1 63 9 = h.1 63 9 := g10c.1 63 9 (by decide)
    have q10c_71 : h10c.1 63 10 = h.1 63 10 := g10c.1 63 10 (by decide)
    have g72 : -2147483648 ≤ (h10c.1 63 5) ∧ (h10c.1 63 5) ≤ 2147483647 := i10c.1 63 5
    have g73 : 0 ≤ (h10c.1 63 7) ∧ (h10c.1 63 7) ≤ 500 := i10c.1 63 7
    have g74 : 0 ≤ (h10c.1 63 8) ∧ (h10c.1 63 8) ≤ 500 := i10c.1 63 8
    have g75 : -2147483648 ≤ (h10c.1 63 6) ∧ (h10c.1 63 6) ≤ 2147483647 := i10c.1 63 6
    have zs := mm_st7_of t0 y10_1 y10_2 g10c (by decide)
    refine mm_aload_n C (mm_dec dk_X7_readPart 6 rfl) rfl ?_
    refine mm_iload_n C (mm_dec dk_X7_readPart 7 rfl) rfl ?_
    refine mm_iconst C (mm_dec dk_X7_readPart 8 rfl) ⟨by decide, by decide⟩ ?_
    refine mm_iadd C (mm_dec dk_X7_readPart 9 rfl) ⟨by omega, by omega⟩ ?_
    refine mm_cVi (rest := []) C1 ev_X7_75 (mm_dec dk_X7_readPart 10 rfl) (c_X7_readOr_q2 x.2.1 hl (d - 1) (by omega) h10c i10c (p1 + 1) ⟨by omega, by omega⟩ (by exact y10_1)) rfl rfl (Nat.le_of_ble_eq_true rfl) ⟨by decide, by decide⟩ rfl (fun r17 h17c hp17 => ?_) (fun _ _ q => q.elim)
    obtain ⟨b17, i17c, g17c, y17_0⟩ := hp17
    have f17c : mm_fr [(63, 4), (63, 5), (63, 6), (63, 7), (63, 8), (63, 9), (63, 10)] [64] h h17c := mm_fr_tr f10c g17c (by decide +kernel)
    have q17c_77 : h17c.1 63 3 = h10c.1 63 3 := g17c.1 63 3 (by decide)
    have g78 : -2147483648 ≤ (h17c.1 63 5) ∧ (h17c.1 63 5) ≤ 2147483647 := i17c.1 63 5
    have g79 : 0 ≤ (h17c.1 63 7) ∧ (h17c.1 63 7) ≤ 500 := i17c.1 63 7
    have g80 : 0 ≤ (h17c.1 63 8) ∧ (h17c.1 63 8) ≤ 500 := i17c.1 63 8
    have g81 : -2147483648 ≤ (h17c.1 63 6) ∧ (h17c.1 63 6) ≤ 2147483647 := i17c.1 63 6
    have g82 : -2147483648 ≤ (h17c.1 63 9) ∧ (h17c.1 63 9) ≤ 2147483647 := i17c.1 63 9
    have g83 : -2147483648 ≤ (h17c.1 63 10) ∧ (h17c.1 63 10) ≤ 2147483647 := i17c.1 63 10
    have J37 : ∀ (s37_0 : Int) (bs37_0 : 0 ≤ s37_0 ∧ s37_0 ≤ 1) (h37_ : mH) (i37_ : mm_inv h37_) (f37_ : mm_fr [(63, 4), (63, 5), (63, 6), (63, 7), (63, 8), (63, 9), (63, 10)] [64] h h37_) (w37_0 : ((s37_0 = 1 ∧ mm_p7 1 h h37_) ∨ (s37_0 = 0 ∧ mm_g7 1 h h37_))), mm_W x 0 0 37 [mU, mU] [mI s37_0] h37_ := by
      intro s37_0 bs37_0 h37_ i37_ f37_ w37_0
      have g84 : -2147483648 ≤ h37_.1 63 5 ∧ h37_.1 63 5 ≤ 2147483647 := i37_.1 63 5
      have g85 : 0 ≤ h37_.1 63 7 ∧ h37_.1 63 7 ≤ 500 := i37_.1 63 7
      have g86 : 0 ≤ h37_.1 63 8 ∧ h37_.1 63 8 ≤ 500 := i37_.1 63 8
      have g87 : 0 ≤ h37_.1 63 3 ∧ h37_.1 63 3 ≤ 500 := i37_.1 63 3
      have g88 : -2147483648 ≤ h37_.1 63 6 ∧ h37_.1 63 6 ≤ 2147483647 := i37_.1 63 6
      have g89 : -2147483648 ≤ h37_.1 63 9 ∧ h37_.1 63 9 ≤ 2147483647 := i37_.1 63 9
      have g90 : -2147483648 ≤ h37_.1 63 10 ∧ h37_.1 63 10 ≤ 2147483647 := i37_.1 63 10
      have g91 : h37_.1 63 3 = h.1 63 3 := f37_.1 63 3 (by decide)
      exact mm_zret C T (mm_dec dk_X7_readPart 19 rfl) (by decide : 0 ≤ 0) (by decide : 0 ≤ 0) (by omega) ⟨_, rfl, ⟨⟨by omega, by omega⟩, i37_, f37_, by first | exact w37_0 | exact Or.inr ⟨by omega, mm_g7_bad (by have zz := mm_hdx tf; have zy := y57_0; omega) y57_1⟩ | (have z := mm_or0 y101_0 (by omega); exact Or.inr ⟨rfl, mm_g7_bad (by have := z.1; have zz := mm_hdx tf; omega) z.2⟩) | exact Or.inl ⟨rfl, mm_p7_part w117_1 w117_0 (mm_st7_of (mm_em_a w117_0 t0) y118_1 y118_2 g118c (by decide))⟩⟩⟩
    have J36 : ∀ (h36_ : mH) (i36_ : mm_inv h36_) (f36_ : mm_fr [(63, 4), (63, 5), (63, 6), (63, 7), (63, 8), (63, 9), (63, 10)] [64] h h36_) (w36_0 : mm_g7 1 h h36_), mm_W x 0 0 36 [mU, mU] [] h36_ := by
      intro h36_ i36_ f36_ w36_0
      have g92 : -2147483648 ≤ h36_.1 63 5 ∧ h36_.1 63 5 ≤ 2147483647 := i36_.1 63 5
      have g93 : 0 ≤ h36_.1 63 7 ∧ h36_.1 63 7 ≤ 500 := i36_.1 63 7
      have g94 : 0 ≤ h36_.1 63 8 ∧ h36_.1 63 8 ≤ 500 := i36_.1 63 8
      have g95 : 0 ≤ h36_.1 63 3 ∧ h36_.1 63 3 ≤ 500 := i36_.1 63 3
      have g96 : -2147483648 ≤ h36_.1 63 6 ∧ h36_.1 63 6 ≤ 2147483647 := i36_.1 63 6
      have g97 : -2147483648 ≤ h36_.1 63 9 ∧ h36_.1 63 9 ≤ 2147483647 := i36_.1 63 9
      have g98 : -2147483648 ≤ h36_.1 63 10 ∧ h36_.1 63 10 ≤ 2147483647 := i36_.1 63 10
      have g99 : h36_.1 63 3 = h.1 63 3 := f36_.1 63 3 (by decide)
      refine mm_iconst C (mm_dec dk_X7_readPart 18 rfl) ⟨by decide, by decide⟩ ?_
      exact J37 0 ⟨by omega, by omega⟩ h36_ i36_ f36_ (by first | exact Or.inr ⟨rfl, w36_0⟩ | (have z := mm_or1 y26_0 (by omega); exact Or.inl ⟨rfl, mm_p7_par (by decide) (by have zz := mm_hdx tf; omega) zs zq.1 (by have := z.1; omega) z.2⟩))
    refine mm_if_eq (tgt := 36) C (mm_dec dk_X7_readPart 11 rfl) (by decide) (fun c20 => ?_) (fun c20 => ?_)
    · skip
      refine mm_fgt 0 ?_
      refine mm_fgt 1 ?_
      exact J36 h17c i17c f17c (by first | exact mm_g7_par (by decide) (by have zz := mm_hdx tf; omega) zs (mm_or0 y17_0 (by omega)) | (have z := mm_or0 y26_0 (by omega); exact mm_g7_shut (by decide) (by have zz := mm_hdx tf; omega) zs zq.1 zq.2 (fun q => z.1 (by omega)) z.2.1 z.2.2))
    · skip
      have zq := mm_or1 y17_0 (by omega)
      have tg := mm_cX_h i17c zq.1.1.2.1
      have th := mm_cX_r i17c zq.1.1.2.1
      refine mm_aload_n C (mm_dec dk_X7_readPart 12 rfl) rfl ?_
      refine mm_bipush C (mm_dec dk_X7_readPart 13 rfl) ⟨by decide, by decide⟩ ?_
      refine mm_cVi (rest := []) C1 ev_X7_72 (mm_dec dk_X7_readPart 14 rfl) (c_X7_readSign_q x.2.1 hl (d - 1) (by omega) h17c i17c 41 ⟨by omega, by omega⟩ (by exact zq.1.1.2.1)) rfl rfl (Nat.le_of_ble_eq_true rfl) ⟨by decide, by decide⟩ rfl (fun r26 h26c hp26 => ?_) (fun _ _ q => q.elim)
      obtain ⟨b26, i26c, g26c, y26_0⟩ := hp26
      have f26c : mm_fr [(63, 4), (63, 5), (63, 6), (63, 7), (63, 8), (63, 9), (63, 10)] [64] h h26c := mm_fr_tr f17c g26c (by decide +kernel)
      have q26c_101 : h26c.1 63 3 = h17c.1 63 3 := g26c.1 63 3 (by decide)
      have g102 : -2147483648 ≤ (h26c.1 63 5) ∧ (h26c.1 63 5) ≤ 2147483647 := i26c.1 63 5
      have g103 : 0 ≤ (h26c.1 63 7) ∧ (h26c.1 63 7) ≤ 500 := i26c.1 63 7
      have g104 : 0 ≤ (h26c.1 63 8) ∧ (h26c.1 63 8) ≤ 500 := i26c.1 63 8
      have g105 : -2147483648 ≤ (h26c.1 63 6) ∧ (h26c.1 63 6) ≤ 2147483647 := i26c.1 63 6
      have g106 : -2147483648 ≤ (h26c.1 63 9) ∧ (h26c.1 63 9) ≤ 2147483647 := i26c.1 63 9
      have g107 : -2147483648 ≤ (h26c.1 63 10) ∧ (h26c.1 63 10) ≤ 2147483647 := i26c.1 63 10
      refine mm_if_eq (tgt := 36) C (mm_dec dk_X7_readPart 15 rfl) (by decide) (fun c29 => ?_) (fun c29 => ?_)
      · skip
        refine mm_fgt 0 ?_
        refine mm_fgt 1 ?_
        exact J36 h26c i26c f26c (by first | exact mm_g7_par (by decide) (by have zz := mm_hdx tf; omega) zs (mm_or0 y17_0 (by omega)) | (have z := mm_or0 y26_0 (by omega); exact mm_g7_shut (by decide) (by have zz := mm_hdx tf; omega) zs zq.1 zq.2 (fun q => z.1 (by omega)) z.2.1 z.2.2))
      · skip
        refine mm_iconst C (mm_dec dk_X7_readPart 16 rfl) ⟨by decide, by decide⟩ ?_
        refine mm_goto (tgt := 37) C (mm_dec dk_X7_readPart 17 rfl) (by decide) ?_
        refine mm_fgt 0 ?_
        refine mm_fgt 1 ?_
        exact J37 1 ⟨by omega, by omega⟩ h26c i26c f26c (by first | exact Or.inr ⟨rfl, w36_0⟩ | (have z := mm_or1 y26_0 (by omega); exact Or.inl ⟨rfl, mm_p7_par (by decide) (by have zz := mm_hdx tf; omega) zs zq.1 (by have := z.1; omega) z.2⟩))
set_option maxRecDepth 100000 in
set_option maxHeartbeats 4000000 in
theorem c_X7_readProduct_q1 (l : Launch) (hl : l.stackTraces = false) (d : Nat) (hd : 35 ≤ d) (h : mH) (i0 : mm_inv h) (p1 : Int) (bp1 : 1 ≤ p1 ∧ p1 ≤ 1) (t0 : mm_aX h) : mm_Met l d yX7_readProduct cX7_readProduct 4 (some .boolean) [mR 63, mI p1] h (mm_pi fun r h2 => (0 ≤ r ∧ r ≤ 1) ∧ mm_inv h2 ∧ mm_fr [(63, 4), (63, 5), (63, 6), (63, 7), (63, 8), (63, 9), (63, 10)] [64] h h2 ∧ ((r = 1 ∧ mm_p7 1 h h2 ∧ mm_nA h2) ∨ (r = 0 ∧ mm_g7 1 h h2))) mm_nx 0 0 := by
  refine mm_ofW (ls := [mR 63, mI p1, mU, mU]) hl (by decide) rfl (Nat.le_of_ble_eq_true rfl) ?_
  intro x hxl C T hnm htb
  subst hxl
  have C1 := mm_OK_le (d' := d - 1 + 1) (by omega) C
  have C8 := mm_OK_le (d' := d - 8 + 8) (by omega) C
  refine mm_rng (fun hr _ => ?_)
  have ap1 : -2147483648 ≤ p1 ∧ p1 < 2147483648 := mm_ok_at hr (i := 1) rfl
  have f0 : mm_fr [(63, 4), (63, 5), (63, 6), (63, 7), (63, 8), (63, 9), (63, 10)] [64] h h := mm_fr_rf
  have g1 : -2147483648 ≤ h.1 63 5 ∧ h.1 63 5 ≤ 2147483647 := i0.1 63 5
  have g2 : 0 ≤ h.1 63 7 ∧ h.1 63 7 ≤ 500 := i0.1 63 7
  have g3 : 0 ≤ h.1 63 8 ∧ h.1 63 8 ≤ 500 := i0.1 63 8
  have g4 : 0 ≤ h.1 63 3 ∧ h.1 63 3 ≤ 500 := i0.1 63 3
  have g5 : -2147483648 ≤ h.1 63 6 ∧ h.1 63 6 ≤ 2147483647 := i0.1 63 6
  have g6 : -2147483648 ≤ h.1 63 9 ∧ h.1 63 9 ≤ 2147483647 := i0.1 63 9
  have g7 : -2147483648 ≤ h.1 63 10 ∧ h.1 63 10 ≤ 2147483647 := i0.1 63 10
  have tf := mm_cX_h i0 t0
  have tr := mm_cX_r i0 t0
  refine mm_aload_n C (mm_dec dk_X7_readProduct 0 rfl) rfl ?_
  refine mm_iload_n C (mm_dec dk_X7_readProduct 1 rfl) rfl ?_
  refine mm_cVi (rest := []) C1 ev_X7_121 (mm_dec dk_X7_readProduct 2 rfl) (c_X7_readPart_q1 x.2.1 hl (d - 1) (by omega) h i0 p1 ⟨by omega, by omega⟩ (by exact t0)) rfl rfl (Nat.le_of_ble_eq_true rfl) ⟨by decide, by decide⟩ rfl (fun r2 h2c hp2 => ?_) (fun _ _ q => q.elim)
  obtain ⟨b2, i2c, g2c, y2_0⟩ := hp2
  have f2c : mm_fr [(63, 4), (63, 5), (63, 6), (63, 7), (63, 8), (63, 9), (63, 10)] [64] h h2c := mm_fr_tr f0 g2c (by decide +kernel)
  have q2c_9 : h2c.1 63 3 = h.1 63 3 := g2c.1 63 3 (by decide)
  have g10 : -2147483648 ≤ (h2c.1 63 5) ∧ (h2c.1 63 5) ≤ 2147483647 := i2c.1 63 5
  have g11 : 0 ≤ (h2c.1 63 7) ∧ (h2c.1 63 7) ≤ 500 := i2c.1 63 7
  have g12 : 0 ≤ (h2c.1 63 8) ∧ (h2c.1 63 8) ≤ 500 := i2c.1 63 8
  have g13 : -2147483648 ≤ (h2c.1 63 6) ∧ (h2c.1 63 6) ≤ 2147483647 := i2c.1 63 6
  have g14 : -2147483648 ≤ (h2c.1 63 9) ∧ (h2c.1 63 9) ≤ 2147483647 := i2c.1 63 9
  have g15 : -2147483648 ≤ (h2c.1 63 10) ∧ (h2c.1 63 10) ≤ 2147483647 := i2c.1 63 10
  refine mm_if_ne (tgt := 10) C (mm_dec dk_X7_readProduct 3 rfl) (by decide) (fun c5 => ?_) (fun c5 => ?_)
  · skip
    refine mm_iconst C (mm_dec dk_X7_readProduct 6 rfl) ⟨by decide, by decide⟩ ?_
    have J12 : ∀ (n : Nat) (x12_2 : Int) (bx12_2 : 0 ≤ x12_2 ∧ x12_2 ≤ 500) (h12_ : mH) (i12_ : mm_inv h12_) (f12_ : mm_fr [(63, 4), (63, 5), (63, 6), (63, 7), (63, 8), (63, 9), (63, 10)] [64] h h12_) (w12_0 : mm_p7 1 h h12_) (w12_1 : x12_2 ≤ h12_.1 63 7), (500 - x12_2 : Int) < n → mm_W x 0 0 12 [mR 63, mI p1, mI x12_2, mU] [] h12_ := by
      intro n
      induction n with
      | zero =>
        intro x12_2 bx12_2 h12_ i12_ f12_ w12_0 w12_1 hm
        have g16 : -2147483648 ≤ h12_.1 63 5 ∧ h12_.1 63 5 ≤ 2147483647 := i12_.1 63 5
        have g17 : 0 ≤ h12_.1 63 7 ∧ h12_.1 63 7 ≤ 500 := i12_.1 63 7
        have g18 : 0 ≤ h12_.1 63 8 ∧ h12_.1 63 8 ≤ 500 := i12_.1 63 8
        have g19 : 0 ≤ h12_.1 63 3 ∧ h12_.1 63 3 ≤ 500 := i12_.1 63 3
        have g20 : -2147483648 ≤ h12_.1 63 6 ∧ h12_.1 63 6 ≤ 2147483647 := i12_.1 63 6
        have g21 : -2147483648 ≤ h12_.1 63 9 ∧ h12_.1 63 9 ≤ 2147483647 := i12_.1 63 9
        have g22 : -2147483648 ≤ h12_.1 63 10 ∧ h12_.1 63 10 ≤ 2147483647 := i12_.1 63 10
        exfalso; omega
      | succ n ih12 =>
        intro x12_2 bx12_2 h12_ i12_ f12_ w12_0 w12_1 hm12
        have g23 : -2147483648 ≤ h12_.1 63 5 ∧ h12_.1 63 5 ≤ 2147483647 := i12_.1 63 5
        have g24 : 0 ≤ h12_.1 63 7 ∧ h12_.1 63 7 ≤ 500 := i12_.1 63 7
        have g25 : 0 ≤ h12_.1 63 8 ∧ h12_.1 63 8 ≤ 500 := i12_.1 63 8
        have g26 : 0 ≤ h12_.1 63 3 ∧ h12_.1 63 3 ≤ 500 := i12_.1 63 3
        have g27 : -2147483648 ≤ h12_.1 63 6 ∧ h12_.1 63 6 ≤ 2147483647 := i12_.1 63 6
        have g28 : -2147483648 ≤ h12_.1 63 9 ∧ h12_.1 63 9 ≤ 2147483647 := i12_.1 63 9
        have g29 : -2147483648 ≤ h12_.1 63 10 ∧ h12_.1 63 10 ≤ 2147483647 := i12_.1 63 10
        have g30 : h12_.1 63 3 = h.1 63 3 := f12_.1 63 3 (by decide)
        have tf12 := mm_cX_h i12_ w12_0.1.2.1
        have tr12 := mm_cX_r i12_ w12_0.1.2.1
        refine mm_iload_n C (mm_dec dk_X7_readProduct 8 rfl) rfl ?_
        refine mm_sipush C (mm_dec dk_X7_readProduct 9 rfl) ⟨by decide, by decide⟩ ?_
        have J79 : ∀ (w79_0 : mm_nA h12_), mm_W x 0 0 79 [mU, mU, mU, mU] [] h12_ := by
          intro w79_0
          have g31 : -2147483648 ≤ h12_.1 63 5 ∧ h12_.1 63 5 ≤ 2147483647 := i12_.1 63 5
          have g32 : 0 ≤ h12_.1 63 7 ∧ h12_.1 63 7 ≤ 500 := i12_.1 63 7
          have g33 : 0 ≤ h12_.1 63 8 ∧ h12_.1 63 8 ≤ 500 := i12_.1 63 8
          have g34 : 0 ≤ h12_.1 63 3 ∧ h12_.1 63 3 ≤ 500 := i12_.1 63 3
          have g35 : -2147483648 ≤ h12_.1 63 6 ∧ h12_.1 63 6 ≤ 2147483647 := i12_.1 63 6
          have g36 : -2147483648 ≤ h12_.1 63 9 ∧ h12_.1 63 9 ≤ 2147483647 := i12_.1 63 9
          have g37 : -2147483648 ≤ h12_.1 63 10 ∧ h12_.1 63 10 ≤ 2147483647 := i12_.1 63 10
          refine mm_iconst C (mm_dec dk_X7_readProduct 40 rfl) ⟨by decide, by decide⟩ ?_
          exact mm_zret C T (mm_dec dk_X7_readProduct 41 rfl) (by decide : 0 ≤ 0) (by decide : 0 ≤ 0) (by omega) ⟨_, rfl, ⟨⟨by omega, by omega⟩, i12_, f12_, by first | exact Or.inl ⟨rfl, w12_0, w79_0⟩ | exact Or.inr ⟨rfl, mm_or0 y2_0 (by omega)⟩ | exact Or.inr ⟨rfl, mm_g7_op w12_0 (by omega) zs (mm_or0 y60_0 (by omega))⟩⟩⟩
        refine mm_icmp_ge (tgt := 79) C (mm_dec dk_X7_readProduct 10 rfl) (by decide) (fun c16 => ?_) (fun c16 => ?_)
        · skip
          refine mm_fgt 0 ?_
          refine mm_fgt 1 ?_
          refine mm_fgt 2 ?_
          exact J79 (by (unfold mm_nA; have zz := mm_hdx tf12; omega))
        · skip
          refine mm_aload_n C (mm_dec dk_X7_readProduct 11 rfl) rfl ?_
          refine mm_bipush C (mm_dec dk_X7_readProduct 12 rfl) ⟨by decide, by decide⟩ ?_
          refine mm_cVi (rest := []) C1 ev_X7_96 (mm_dec dk_X7_readProduct 13 rfl) (c_X7_isSign x.2.1 hl (d - 1) (by omega) h12_ i12_ 42 (by omega)) rfl rfl (Nat.le_of_ble_eq_true rfl) ⟨by decide, by decide⟩ rfl (fun r22 h22c hp22 => ?_) (fun _ _ q => q.elim)
          obtain ⟨z22, y22⟩ := hp22
          rw [z22]
          have g39 : -2147483648 ≤ (h12_.2.1 62 (h12_.1 63 7)) ∧ (h12_.2.1 62 (h12_.1 63 7)) ≤ 2147483647 := i12_.2.1 62 (h12_.1 63 7)
          have J37 : ∀ (w37_0 : (mm_cX h12_ = 142 ∨ mm_cX h12_ = 147)), mm_W x 0 0 37 [mR 63, mI p1, mI x12_2, mU] [] h12_ := by
            intro w37_0
            have g40 : -2147483648 ≤ h12_.1 63 5 ∧ h12_.1 63 5 ≤ 2147483647 := i12_.1 63 5
            have g41 : 0 ≤ h12_.1 63 7 ∧ h12_.1 63 7 ≤ 500 := i12_.1 63 7
            have g42 : 0 ≤ h12_.1 63 8 ∧ h12_.1 63 8 ≤ 500 := i12_.1 63 8
            have g43 : 0 ≤ h12_.1 63 3 ∧ h12_.1 63 3 ≤ 500 := i12_.1 63 3
            have g44 : -2147483648 ≤ h12_.1 63 6 ∧ h12_.1 63 6 ≤ 2147483647 := i12_.1 63 6
            have g45 : -2147483648 ≤ h12_.1 63 9 ∧ h12_.1 63 9 ≤ 2147483647 := i12_.1 63 9
            have g46 : -2147483648 ≤ h12_.1 63 10 ∧ h12_.1 63 10 ≤ 2147483647 := i12_.1 63 10
            refine mm_aload_n C (mm_dec dk_X7_readProduct 19 rfl) rfl ?_
            refine mm_bipush C (mm_dec dk_X7_readProduct 20 rfl) ⟨by decide, by decide⟩ ?_
            refine mm_cVi (rest := []) C1 ev_X7_96 (mm_dec dk_X7_readProduct 21 rfl) (c_X7_isSign x.2.1 hl (d - 1) (by omega) h12_ i12_ 42 (by omega)) rfl rfl (Nat.le_of_ble_eq_true rfl) ⟨by decide, by decide⟩ rfl (fun r40 h40c hp40 => ?_) (fun _ _ q => q.elim)
            obtain ⟨z40, y40⟩ := hp40
            rw [z40]
            have J53 : ∀ (s53_0 : Int) (bs53_0 : 100017 ≤ s53_0 ∧ s53_0 ≤ 100018) (vs53_0 : (r40 ≠ 0 ∧ s53_0 = 100017) ∨ (r40 = 0 ∧ s53_0 = 100018)), mm_W x 0 0 53 [mR 63, mI p1, mI x12_2, mU] [mI s53_0] h12_ := by
              intro s53_0 bs53_0 vs53_0
              have g48 : -2147483648 ≤ h12_.1 63 5 ∧ h12_.1 63 5 ≤ 2147483647 := i12_.1 63 5
              have g49 : 0 ≤ h12_.1 63 7 ∧ h12_.1 63 7 ≤ 500 := i12_.1 63 7
              have g50 : 0 ≤ h12_.1 63 8 ∧ h12_.1 63 8 ≤ 500 := i12_.1 63 8
              have g51 : 0 ≤ h12_.1 63 3 ∧ h12_.1 63 3 ≤ 500 := i12_.1 63 3
              have g52 : -2147483648 ≤ h12_.1 63 6 ∧ h12_.1 63 6 ≤ 2147483647 := i12_.1 63 6
              have g53 : -2147483648 ≤ h12_.1 63 9 ∧ h12_.1 63 9 ≤ 2147483647 := i12_.1 63 9
              have g54 : -2147483648 ≤ h12_.1 63 10 ∧ h12_.1 63 10 ≤ 2147483647 := i12_.1 63 10
              refine mm_istore_nL (ls2 := [mR 63, mI p1, mI x12_2, mI s53_0]) C (mm_dec dk_X7_readProduct 26 rfl) (by decide) rfl ?_
              refine mm_aload_n C (mm_dec dk_X7_readProduct 27 rfl) rfl ?_
              refine mm_cVv (rest := []) C1 ev_X7_52 (mm_dec dk_X7_readProduct 28 rfl) (c_X7_step_q x.2.1 hl (d - 1) (by omega) h12_ i12_ ) rfl rfl (Nat.le_of_ble_eq_true rfl) ⟨by decide, by decide⟩ rfl (fun h55c hp55 => ?_) (fun _ _ q => q.elim)
              obtain ⟨i55c, g55c, y55_0, y55_1, y55_2⟩ := hp55
              have f55c : mm_fr [(63, 4), (63, 5), (63, 6), (63, 7), (63, 8), (63, 9), (63, 10)] [64] h h55c := mm_fr_tr f12_ g55c (by decide +kernel)
              have q55c_56 : h55c.1 63 3 = h12_.1 63 3 := g55c.1 63 3 (by decide)
              have q55c_57 : h55c.1 63 9 = h12_.1 63 9 := g55c.1 63 9 (by decide)
              have q55c_58 : h55c.1 63 10 = h12_.1 63 10 := g55c.1 63 10 (by decide)
              have g59 : -2147483648 ≤ (h55c.1 63 5) ∧ (h55c.1 63 5) ≤ 2147483647 := i55c.1 63 5
              have g60 : 0 ≤ (h55c.1 63 7) ∧ (h55c.1 63 7) ≤ 500 := i55c.1 63 7
              have g61 : 0 ≤ (h55c.1 63 8) ∧ (h55c.1 63 8) ≤ 500 := i55c.1 63 8
              have g62 : -2147483648 ≤ (h55c.1 63 6) ∧ (h55c.1 63 6) ≤ 2147483647 := i55c.1 63 6
              have zs := mm_st7_of w12_0.1.2.1 y55_1 y55_2 g55c (by decide)
              have zl := mm_st7_lt zs (by omega)
              refine mm_aload_n C (mm_dec dk_X7_readProduct 29 rfl) rfl ?_
              refine mm_iload_n C (mm_dec dk_X7_readProduct 30 rfl) rfl ?_
              refine mm_cVi (rest := []) C1 ev_X7_121 (mm_dec dk_X7_readProduct 31 rfl) (c_X7_readPart_q1 x.2.1 hl (d - 1) (by omega) h55c i55c p1 ⟨by omega, by omega⟩ (by exact y55_1)) rfl rfl (Nat.le_of_ble_eq_true rfl) ⟨by decide, by decide⟩ rfl (fun r60 h60c hp60 => ?_) (fun _ _ q => q.elim)
              obtain ⟨b60, i60c, g60c, y60_0⟩ := hp60
              have f60c : mm_fr [(63, 4), (63, 5), (63, 6), (63, 7), (63, 8), (63, 9), (63, 10)] [64] h h60c := mm_fr_tr f55c g60c (by decide +kernel)
              have q60c_64 : h60c.1 63 3 = h55c.1 63 3 := g60c.1 63 3 (by decide)
              have g65 : -2147483648 ≤ (h60c.1 63 5) ∧ (h60c.1 63 5) ≤ 2147483647 := i60c.1 63 5
              have g66 : 0 ≤ (h60c.1 63 7) ∧ (h60c.1 63 7) ≤ 500 := i60c.1 63 7
              have g67 : 0 ≤ (h60c.1 63 8) ∧ (h60c.1 63 8) ≤ 500 := i60c.1 63 8
              have g68 : -2147483648 ≤ (h60c.1 63 6) ∧ (h60c.1 63 6) ≤ 2147483647 := i60c.1 63 6
              have g69 : -2147483648 ≤ (h60c.1 63 9) ∧ (h60c.1 63 9) ≤ 2147483647 := i60c.1 63 9
              have g70 : -2147483648 ≤ (h60c.1 63 10) ∧ (h60c.1 63 10) ≤ 2147483647 := i60c.1 63 10
              refine mm_if_ne (tgt := 68) C (mm_dec dk_X7_readProduct 32 rfl) (by decide) (fun c63 => ?_) (fun c63 => ?_)
              · skip
                refine mm_aload_n C (mm_dec dk_X7_readProduct 35 rfl) rfl ?_
                refine mm_iload_n C (mm_dec dk_X7_readProduct 36 rfl) rfl ?_
                refine mm_cVv (rest := []) C1 ev_X7_79 (mm_dec dk_X7_readProduct 37 rfl) (c_X7_emit x.2.1 hl (d - 1) (by omega) h60c i60c s53_0) rfl rfl (Nat.le_of_ble_eq_true rfl) ⟨by decide, by decide⟩ rfl (fun h70c hp70 => ?_) (fun _ _ q => q.elim)
                obtain ⟨i70c, g70c⟩ := hp70
                have f70c : mm_fr [(63, 4), (63, 5), (63, 6), (63, 7), (63, 8), (63, 9), (63, 10)] [64] h h70c := mm_fr_tr f60c g70c (by decide +kernel)
                have q70c_72 : h70c.1 63 3 = h60c.1 63 3 := g70c.1 63 3 (by decide)
                have q70c_73 : h70c.1 63 5 = h60c.1 63 5 := g70c.1 63 5 (by decide)
                have q70c_74 : h70c.1 63 6 = h60c.1 63 6 := g70c.1 63 6 (by decide)
                have q70c_75 : h70c.1 63 7 = h60c.1 63 7 := g70c.1 63 7 (by decide)
                have q70c_76 : h70c.1 63 8 = h60c.1 63 8 := g70c.1 63 8 (by decide)
                have q70c_77 : h70c.1 63 9 = h60c.1 63 9 := g70c.1 63 9 (by decide)
                have q70c_78 : h70c.1 63 10 = h60c.1 63 10 := g70c.1 63 10 (by decide)
                have zt := g70c.1 63 7 (by decide)
                have zu := (mm_or1 y60_0 (by omega)).2.1
                refine mm_iincL (ls2 := [mR 63, mI p1, mI (x12_2 + 1), mI s53_0]) C (mm_dec dk_X7_readProduct 38 rfl) rfl (by decide) ⟨by omega, by omega⟩ rfl ?_
                refine mm_goto (tgt := 12) C (mm_dec dk_X7_readProduct 39 rfl) (by decide) ?_
                refine mm_fgt 3 ?_
                exact ih12 (x12_2 + 1) ⟨by omega, by omega⟩ h70c i70c f70c (by first | exact (mm_or1 y2_0 (by omega)) | exact mm_p7_em (mm_p7_op w12_0 (by omega) zs (mm_or1 y60_0 (by omega))) (mm_em_fr g70c (by decide))) (by omega) (by omega)
              · skip
                refine mm_iconst C (mm_dec dk_X7_readProduct 33 rfl) ⟨by decide, by decide⟩ ?_
                exact mm_zret C T (mm_dec dk_X7_readProduct 34 rfl) (by decide : 0 ≤ 0) (by decide : 0 ≤ 0) (by omega) ⟨_, rfl, ⟨⟨by omega, by omega⟩, i60c, f60c, by first | exact Or.inl ⟨rfl, w12_0, w79_0⟩ | exact Or.inr ⟨rfl, mm_or0 y2_0 (by omega)⟩ | exact Or.inr ⟨rfl, mm_g7_op w12_0 (by omega) zs (mm_or0 y60_0 (by omega))⟩⟩⟩
            refine mm_if_eq (tgt := 51) C (mm_dec dk_X7_readProduct 22 rfl) (by decide) (fun c43 => ?_) (fun c43 => ?_)
            · skip
              refine mm_ldc (z := 100018) C (mm_dec dk_X7_readProduct 25 rfl) kc_X7_125 (by decide) ?_
              exact J53 100018 ⟨by omega, by omega⟩ (Or.inr (⟨by omega, rfl⟩))
            · skip
              refine mm_ldc (z := 100017) C (mm_dec dk_X7_readProduct 23 rfl) kc_X7_124 (by decide) ?_
              refine mm_goto (tgt := 53) C (mm_dec dk_X7_readProduct 24 rfl) (by decide) ?_
              exact J53 100017 ⟨by omega, by omega⟩ (Or.inl ⟨by omega, rfl⟩)
          refine mm_if_ne (tgt := 37) C (mm_dec dk_X7_readProduct 14 rfl) (by decide) (fun c25 => ?_) (fun c25 => ?_)
          · skip
            exact J37 (by have zz := mm_hdx tf12; omega)
          · skip
            refine mm_aload_n C (mm_dec dk_X7_readProduct 15 rfl) rfl ?_
            refine mm_bipush C (mm_dec dk_X7_readProduct 16 rfl) ⟨by decide, by decide⟩ ?_
            refine mm_cVi (rest := []) C1 ev_X7_96 (mm_dec dk_X7_readProduct 17 rfl) (c_X7_isSign x.2.1 hl (d - 1) (by omega) h12_ i12_ 47 (by omega)) rfl rfl (Nat.le_of_ble_eq_true rfl) ⟨by decide, by decide⟩ rfl (fun r31 h31c hp31 => ?_) (fun _ _ q => q.elim)
            obtain ⟨z31, y31⟩ := hp31
            rw [z31]
            refine mm_if_eq (tgt := 79) C (mm_dec dk_X7_readProduct 18 rfl) (by decide) (fun c34 => ?_) (fun c34 => ?_)
            · skip
              refine mm_fgt 0 ?_
              refine mm_fgt 1 ?_
              refine mm_fgt 2 ?_
              exact J79 (by (unfold mm_nA; have zz := mm_hdx tf12; omega))
            · skip
              exact J37 (by have zz := mm_hdx tf12; omega)
    refine mm_istore_nL (ls2 := [mR 63, mI p1, mI 0, mU]) C (mm_dec dk_X7_readProduct 7 rfl) (by decide) rfl ?_
    exact J12 (((500 - 0) : Int) + 1).toNat 0 ⟨by omega, by omega⟩ h2c i2c f2c (by first | exact (mm_or1 y2_0 (by omega)) | exact mm_p7_em (mm_p7_op w12_0 (by omega) zs (mm_or1 y60_0 (by omega))) (mm_em_fr g70c (by decide))) (by omega) (by omega)
  · skip
    refine mm_iconst C (mm_dec dk_X7_readProduct 4 rfl) ⟨by decide, by decide⟩ ?_
    exact mm_zret C T (mm_dec dk_X7_readProduct 5 rfl) (by decide : 0 ≤ 0) (by decide : 0 ≤ 0) (by omega) ⟨_, rfl, ⟨⟨by omega, by omega⟩, i2c, f2c, by first | exact Or.inl ⟨rfl, w12_0, w79_0⟩ | exact Or.inr ⟨rfl, mm_or0 y2_0 (by omega)⟩ | exact Or.inr ⟨rfl, mm_g7_op w12_0 (by omega) zs (mm_or0 y60_0 (by omega))⟩⟩⟩
set_option maxRecDepth 100000 in
set_option maxHeartbeats 4000000 in
theorem c_X7_readSum_q1 (l : Launch) (hl : l.stackTraces = false) (d : Nat) (hd : 36 ≤ d) (h : mH) (i0 : mm_inv h) (p1 : Int) (bp1 : 1 ≤ p1 ∧ p1 ≤ 1) (t0 : mm_aX h) : mm_Met l d yX7_readSum cX7_readSum 4 (some .boolean) [mR 63, mI p1] h (mm_pi fun r h2 => (0 ≤ r ∧ r ≤ 1) ∧ mm_inv h2 ∧ mm_fr [(63, 4), (63, 5), (63, 6), (63, 7), (63, 8), (63, 9), (63, 10)] [64] h h2 ∧ ((r = 1 ∧ mm_p7 1 h h2 ∧ mm_nB h2) ∨ (r = 0 ∧ mm_g7 1 h h2))) mm_nx 0 0 := by
  refine mm_ofW (ls := [mR 63, mI p1, mU, mU]) hl (by decide) rfl (Nat.le_of_ble_eq_true rfl) ?_
  intro x hxl C T hnm htb
  subst hxl
  have C1 := mm_OK_le (d' := d - 1 + 1) (by omega) C
  have C8 := mm_OK_le (d' := d - 8 + 8) (by omega) C
  refine mm_rng (fun hr _ => ?_)
  have ap1 : -2147483648 ≤ p1 ∧ p1 < 2147483648 := mm_ok_at hr (i := 1) rfl
  have f0 : mm_fr [(63, 4), (63, 5), (63, 6), (63, 7), (63, 8), (63, 9), (63, 10)] [64] h h := mm_fr_rf
  have g1 : -2147483648 ≤ h.1 63 5 ∧ h.1 63 5 ≤ 2147483647 := i0.1 63 5
  have g2 : 0 ≤ h.1 63 7 ∧ h.1 63 7 ≤ 500 := i0.1 63 7
  have g3 : 0 ≤ h.1 63 8 ∧ h.1 63 8 ≤ 500 := i0.1 63 8
  have g4 : 0 ≤ h.1 63 3 ∧ h.1 63 3 ≤ 500 := i0.1 63 3
  have g5 : -2147483648 ≤ h.1 63 6 ∧ h.1 63 6 ≤ 2147483647 := i0.1 63 6
  have g6 : -2147483648 ≤ h.1 63 9 ∧ h.1 63 9 ≤ 2147483647 := i0.1 63 9
  have g7 : -2147483648 ≤ h.1 63 10 ∧ h.1 63 10 ≤ 2147483647 := i0.1 63 10
  have tf := mm_cX_h i0 t0
  have tr := mm_cX_r i0 t0
  refine mm_aload_n C (mm_dec dk_X7_readSum 0 rfl) rfl ?_
  refine mm_iload_n C (mm_dec dk_X7_readSum 1 rfl) rfl ?_
  refine mm_cVi (rest := []) C1 ev_X7_116 (mm_dec dk_X7_readSum 2 rfl) (c_X7_readProduct_q1 x.2.1 hl (d - 1) (by omega) h i0 p1 ⟨by omega, by omega⟩ (by exact t0)) rfl rfl (Nat.le_of_ble_eq_true rfl) ⟨by decide, by decide⟩ rfl (fun r2 h2c hp2 => ?_) (fun _ _ q => q.elim)
  obtain ⟨b2, i2c, g2c, y2_0⟩ := hp2
  have f2c : mm_fr [(63, 4), (63, 5), (63, 6), (63, 7), (63, 8), (63, 9), (63, 10)] [64] h h2c := mm_fr_tr f0 g2c (by decide +kernel)
  have q2c_9 : h2c.1 63 3 = h.1 63 3 := g2c.1 63 3 (by decide)
  have g10 : -2147483648 ≤ (h2c.1 63 5) ∧ (h2c.1 63 5) ≤ 2147483647 := i2c.1 63 5
  have g11 : 0 ≤ (h2c.1 63 7) ∧ (h2c.1 63 7) ≤ 500 := i2c.1 63 7
  have g12 : 0 ≤ (h2c.1 63 8) ∧ (h2c.1 63 8) ≤ 500 := i2c.1 63 8
  have g13 : -2147483648 ≤ (h2c.1 63 6) ∧ (h2c.1 63 6) ≤ 2147483647 := i2c.1 63 6
  have g14 : -2147483648 ≤ (h2c.1 63 9) ∧ (h2c.1 63 9) ≤ 2147483647 := i2c.1 63 9
  have g15 : -2147483648 ≤ (h2c.1 63 10) ∧ (h2c.1 63 10) ≤ 2147483647 := i2c.1 63 10
  refine mm_if_ne (tgt := 10) C (mm_dec dk_X7_readSum 3 rfl) (by decide) (fun c5 => ?_) (fun c5 => ?_)
  · skip
    refine mm_iconst C (mm_dec dk_X7_readSum 6 rfl) ⟨by decide, by decide⟩ ?_
    have J12 : ∀ (n : Nat) (x12_2 : Int) (bx12_2 : 0 ≤ x12_2 ∧ x12_2 ≤ 500) (h12_ : mH) (i12_ : mm_inv h12_) (f12_ : mm_fr [(63, 4), (63, 5), (63, 6), (63, 7), (63, 8), (63, 9), (63, 10)] [64] h h12_) (w12_0 : mm_p7 1 h h12_) (w12_1 : x12_2 ≤ h12_.1 63 7) (w12_2 : mm_nA h12_), (500 - x12_2 : Int) < n → mm_W x 0 0 12 [mR 63, mI p1, mI x12_2, mU] [] h12_ := by
      intro n
      induction n with
      | zero =>
        intro x12_2 bx12_2 h12_ i12_ f12_ w12_0 w12_1 w12_2 hm
        have g16 : -2147483648 ≤ h12_.1 63 5 ∧ h12_.1 63 5 ≤ 2147483647 := i12_.1 63 5
        have g17 : 0 ≤ h12_.1 63 7 ∧ h12_.1 63 7 ≤ 500 := i12_.1 63 7
        have g18 : 0 ≤ h12_.1 63 8 ∧ h12_.1 63 8 ≤ 500 := i12_.1 63 8
        have g19 : 0 ≤ h12_.1 63 3 ∧ h12_.1 63 3 ≤ 500 := i12_.1 63 3
        have g20 : -2147483648 ≤ h12_.1 63 6 ∧ h12_.1 63 6 ≤ 2147483647 := i12_.1 63 6
        have g21 : -2147483648 ≤ h12_.1 63 9 ∧ h12_.1 63 9 ≤ 2147483647 := i12_.1 63 9
        have g22 : -2147483648 ≤ h12_.1 63 10 ∧ h12_.1 63 10 ≤ 2147483647 := i12_.1 63 10
        exfalso; omega
      | succ n ih12 =>
        intro x12_2 bx12_2 h12_ i12_ f12_ w12_0 w12_1 w12_2 hm12
        have g23 : -2147483648 ≤ h12_.1 63 5 ∧ h12_.1 63 5 ≤ 2147483647 := i12_.1 63 5
        have g24 : 0 ≤ h12_.1 63 7 ∧ h12_.1 63 7 ≤ 500 := i12_.1 63 7
        have g25 : 0 ≤ h12_.1 63 8 ∧ h12_.1 63 8 ≤ 500 := i12_.1 63 8
        have g26 : 0 ≤ h12_.1 63 3 ∧ h12_.1 63 3 ≤ 500 := i12_.1 63 3
        have g27 : -2147483648 ≤ h12_.1 63 6 ∧ h12_.1 63 6 ≤ 2147483647 := i12_.1 63 6
        have g28 : -2147483648 ≤ h12_.1 63 9 ∧ h12_.1 63 9 ≤ 2147483647 := i12_.1 63 9
        have g29 : -2147483648 ≤ h12_.1 63 10 ∧ h12_.1 63 10 ≤ 2147483647 := i12_.1 63 10
        have g30 : h12_.1 63 3 = h.1 63 3 := f12_.1 63 3 (by decide)
        have tf12 := mm_cX_h i12_ w12_0.1.2.1
        have tr12 := mm_cX_r i12_ w12_0.1.2.1
        refine mm_iload_n C (mm_dec dk_X7_readSum 8 rfl) rfl ?_
        refine mm_sipush C (mm_dec dk_X7_readSum 9 rfl) ⟨by decide, by decide⟩ ?_
        have J79 : ∀ (w79_0 : mm_nB h12_), mm_W x 0 0 79 [mU, mU, mU, mU] [] h12_ := by
          intro w79_0
          have g31 : -2147483648 ≤ h12_.1 63 5 ∧ h12_.1 63 5 ≤ 2147483647 := i12_.1 63 5
          have g32 : 0 ≤ h12_.1 63 7 ∧ h12_.1 63 7 ≤ 500 := i12_.1 63 7
          have g33 : 0 ≤ h12_.1 63 8 ∧ h12_.1 63 8 ≤ 500 := i12_.1 63 8
          have g34 : 0 ≤ h12_.1 63 3 ∧ h12_.1 63 3 ≤ 500 := i12_.1 63 3
          have g35 : -2147483648 ≤ h12_.1 63 6 ∧ h12_.1 63 6 ≤ 2147483647 := i12_.1 63 6
          have g36 : -2147483648 ≤ h12_.1 63 9 ∧ h12_.1 63 9 ≤ 2147483647 := i12_.1 63 9
          have g37 : -2147483648 ≤ h12_.1 63 10 ∧ h12_.1 63 10 ≤ 2147483647 := i12_.1 63 10
          refine mm_iconst C (mm_dec dk_X7_readSum 40 rfl) ⟨by decide, by decide⟩ ?_
          exact mm_zret C T (mm_dec dk_X7_readSum 41 rfl) (by decide : 0 ≤ 0) (by decide : 0 ≤ 0) (by omega) ⟨_, rfl, ⟨⟨by omega, by omega⟩, i12_, f12_, by first | exact Or.inl ⟨rfl, w12_0, w79_0⟩ | exact Or.inr ⟨rfl, mm_or0 y2_0 (by omega)⟩ | exact Or.inr ⟨rfl, mm_g7_op w12_0 (by omega) zs (mm_or0 y60_0 (by omega))⟩⟩⟩
        refine mm_icmp_ge (tgt := 79) C (mm_dec dk_X7_readSum 10 rfl) (by decide) (fun c16 => ?_) (fun c16 => ?_)
        · skip
          refine mm_fgt 0 ?_
          refine mm_fgt 1 ?_
          refine mm_fgt 2 ?_
          exact J79 (by (unfold mm_nB; have zz := mm_hdx tf12; have z := w12_2; unfold mm_nA at z; omega))
        · skip
          refine mm_aload_n C (mm_dec dk_X7_readSum 11 rfl) rfl ?_
          refine mm_bipush C (mm_dec dk_X7_readSum 12 rfl) ⟨by decide, by decide⟩ ?_
          refine mm_cVi (rest := []) C1 ev_X7_96 (mm_dec dk_X7_readSum 13 rfl) (c_X7_isSign x.2.1 hl (d - 1) (by omega) h12_ i12_ 43 (by omega)) rfl rfl (Nat.le_of_ble_eq_true rfl) ⟨by decide, by decide⟩ rfl (fun r22 h22c hp22 => ?_) (fun _ _ q => q.elim)
          obtain ⟨z22, y22⟩ := hp22
          rw [z22]
          have g39 : -2147483648 ≤ (h12_.2.1 62 (h12_.1 63 7)) ∧ (h12_.2.1 62 (h12_.1 63 7)) ≤ 2147483647 := i12_.2.1 62 (h12_.1 63 7)
          have J37 : ∀ (w37_0 : (mm_cX h12_ = 143 ∨ mm_cX h12_ = 145)), mm_W x 0 0 37 [mR 63, mI p1, mI x12_2, mU] [] h12_ := by
            intro w37_0
            have g40 : -2147483648 ≤ h12_.1 63 5 ∧ h12_.1 63 5 ≤ 2147483647 := i12_.1 63 5
            have g41 : 0 ≤ h12_.1 63 7 ∧ h12_.1 63 7 ≤ 500 := i12_.1 63 7
            have g42 : 0 ≤ h12_.1 63 8 ∧ h12_.1 63 8 ≤ 500 := i12_.1 63 8
            have g43 : 0 ≤ h12_.1 63 3 ∧ h12_.1 63 3 ≤ 500 := i12_.1 63 3
            have g44 : -2147483648 ≤ h12_.1 63 6 ∧ h12_.1 63 6 ≤ 2147483647 := i12_.1 63 6
            have g45 : -2147483648 ≤ h12_.1 63 9 ∧ h12_.1 63 9 ≤ 2147483647 := i12_.1 63 9
            have g46 : -2147483648 ≤ h12_.1 63 10 ∧ h12_.1 63 10 ≤ 2147483647 := i12_.1 63 10
            refine mm_aload_n C (mm_dec dk_X7_readSum 19 rfl) rfl ?_
            refine mm_bipush C (mm_dec dk_X7_readSum 20 rfl) ⟨by decide, by decide⟩ ?_
            refine mm_cVi (rest := []) C1 ev_X7_96 (mm_dec dk_X7_readSum 21 rfl) (c_X7_isSign x.2.1 hl (d - 1) (by omega) h12_ i12_ 43 (by omega)) rfl rfl (Nat.le_of_ble_eq_true rfl) ⟨by decide, by decide⟩ rfl (fun r40 h40c hp40 => ?_) (fun _ _ q => q.elim)
            obtain ⟨z40, y40⟩ := hp40
            rw [z40]
            have J53 : ∀ (s53_0 : Int) (bs53_0 : 100015 ≤ s53_0 ∧ s53_0 ≤ 100016) (vs53_0 : (r40 ≠ 0 ∧ s53_0 = 100015) ∨ (r40 = 0 ∧ s53_0 = 100016)), mm_W x 0 0 53 [mR 63, mI p1, mI x12_2, mU] [mI s53_0] h12_ := by
              intro s53_0 bs53_0 vs53_0
              have g48 : -2147483648 ≤ h12_.1 63 5 ∧ h12_.1 63 5 ≤ 2147483647 := i12_.1 63 5
              have g49 : 0 ≤ h12_.1 63 7 ∧ h12_.1 63 7 ≤ 500 := i12_.1 63 7
              have g50 : 0 ≤ h12_.1 63 8 ∧ h12_.1 63 8 ≤ 500 := i12_.1 63 8
              have g51 : 0 ≤ h12_.1 63 3 ∧ h12_.1 63 3 ≤ 500 := i12_.1 63 3
              have g52 : -2147483648 ≤ h12_.1 63 6 ∧ h12_.1 63 6 ≤ 2147483647 := i12_.1 63 6
              have g53 : -2147483648 ≤ h12_.1 63 9 ∧ h12_.1 63 9 ≤ 2147483647 := i12_.1 63 9
              have g54 : -2147483648 ≤ h12_.1 63 10 ∧ h12_.1 63 10 ≤ 2147483647 := i12_.1 63 10
              refine mm_istore_nL (ls2 := [mR 63, mI p1, mI x12_2, mI s53_0]) C (mm_dec dk_X7_readSum 26 rfl) (by decide) rfl ?_
              refine mm_aload_n C (mm_dec dk_X7_readSum 27 rfl) rfl ?_
              refine mm_cVv (rest := []) C1 ev_X7_52 (mm_dec dk_X7_readSum 28 rfl) (c_X7_step_q x.2.1 hl (d - 1) (by omega) h12_ i12_ ) rfl rfl (Nat.le_of_ble_eq_true rfl) ⟨by decide, by decide⟩ rfl (fun h55c hp55 => ?_) (fun _ _ q => q.elim)
              obtain ⟨i55c, g55c, y55_0, y55_1, y55_2⟩ := hp55
              have f55c : mm_fr [(63, 4), (63, 5), (63, 6), (63, 7), (63, 8), (63, 9), (63, 10)] [64] h h55c := mm_fr_tr f12_ g55c (by decide +kernel)
              have q55c_56 : h55c.1 63 3 = h12_.1 63 3 := g55c.1 63 3 (by decide)
              have q55c_57 : h55c.1 63 9 = h12_.1 63 9 := g55c.1 63 9 (by decide)
              have q55c_58 : h55c.1 63 10 = h12_.1 63 10 := g55c.1 63 10 (by decide)
              have g59 : -2147483648 ≤ (h55c.1 63 5) ∧ (h55c.1 63 5) ≤ 2147483647 := i55c.1 63 5
              have g60 : 0 ≤ (h55c.1 63 7) ∧ (h55c.1 63 7) ≤ 500 := i55c.1 63 7
              have g61 : 0 ≤ (h55c.1 63 8) ∧ (h55c.1 63 8) ≤ 500 := i55c.1 63 8
              have g62 : -2147483648 ≤ (h55c.1 63 6) ∧ (h55c.1 63 6) ≤ 2147483647 := i55c.1 63 6
              have zs := mm_st7_of w12_0.1.2.1 y55_1 y55_2 g55c (by decide)
              have zl := mm_st7_lt zs (by omega)
              refine mm_aload_n C (mm_dec dk_X7_readSum 29 rfl) rfl ?_
              refine mm_iload_n C (mm_dec dk_X7_readSum 30 rfl) rfl ?_
              refine mm_cVi (rest := []) C1 ev_X7_116 (mm_dec dk_X7_readSum 31 rfl) (c_X7_readProduct_q1 x.2.1 hl (d - 1) (by omega) h55c i55c p1 ⟨by omega, by omega⟩ (by exact y55_1)) rfl rfl (Nat.le_of_ble_eq_true rfl) ⟨by decide, by decide⟩ rfl (fun r60 h60c hp60 => ?_) (fun _ _ q => q.elim)
              obtain ⟨b60, i60c, g60c, y60_0⟩ := hp60
              have f60c : mm_fr [(63, 4), (63, 5), (63, 6), (63, 7), (63, 8), (63, 9), (63, 10)] [64] h h60c := mm_fr_tr f55c g60c (by decide +kernel)
              have q60c_64 : h60c.1 63 3 = h55c.1 63 3 := g60c.1 63 3 (by decide)
              have g65 : -2147483648 ≤ (h60c.1 63 5) ∧ (h60c.1 63 5) ≤ 2147483647 := i60c.1 63 5
              have g66 : 0 ≤ (h60c.1 63 7) ∧ (h60c.1 63 7) ≤ 500 := i60c.1 63 7
              have g67 : 0 ≤ (h60c.1 63 8) ∧ (h60c.1 63 8) ≤ 500 := i60c.1 63 8
              have g68 : -2147483648 ≤ (h60c.1 63 6) ∧ (h60c.1 63 6) ≤ 2147483647 := i60c.1 63 6
              have g69 : -2147483648 ≤ (h60c.1 63 9) ∧ (h60c.1 63 9) ≤ 2147483647 := i60c.1 63 9
              have g70 : -2147483648 ≤ (h60c.1 63 10) ∧ (h60c.1 63 10) ≤ 2147483647 := i60c.1 63 10
              refine mm_if_ne (tgt := 68) C (mm_dec dk_X7_readSum 32 rfl) (by decide) (fun c63 => ?_) (fun c63 => ?_)
              · skip
                refine mm_aload_n C (mm_dec dk_X7_readSum 35 rfl) rfl ?_
                refine mm_iload_n C (mm_dec dk_X7_readSum 36 rfl) rfl ?_
                refine mm_cVv (rest := []) C1 ev_X7_79 (mm_dec dk_X7_readSum 37 rfl) (c_X7_emit x.2.1 hl (d - 1) (by omega) h60c i60c s53_0) rfl rfl (Nat.le_of_ble_eq_true rfl) ⟨by decide, by decide⟩ rfl (fun h70c hp70 => ?_) (fun _ _ q => q.elim)
                obtain ⟨i70c, g70c⟩ := hp70
                have f70c : mm_fr [(63, 4), (63, 5), (63, 6), (63, 7), (63, 8), (63, 9), (63, 10)] [64] h h70c := mm_fr_tr f60c g70c (by decide +kernel)
                have q70c_72 : h70c.1 63 3 = h60c.1 63 3 := g70c.1 63 3 (by decide)
                have q70c_73 : h70c.1 63 5 = h60c.1 63 5 := g70c.1 63 5 (by decide)
                have q70c_74 : h70c.1 63 6 = h60c.1 63 6 := g70c.1 63 6 (by decide)
                have q70c_75 : h70c.1 63 7 = h60c.1 63 7 := g70c.1 63 7 (by decide)
                have q70c_76 : h70c.1 63 8 = h60c.1 63 8 := g70c.1 63 8 (by decide)
                have q70c_77 : h70c.1 63 9 = h60c.1 63 9 := g70c.1 63 9 (by decide)
                have q70c_78 : h70c.1 63 10 = h60c.1 63 10 := g70c.1 63 10 (by decide)
                have zt := g70c.1 63 7 (by decide)
                have zu := (mm_or1 y60_0 (by omega)).1.2.1
                refine mm_iincL (ls2 := [mR 63, mI p1, mI (x12_2 + 1), mI s53_0]) C (mm_dec dk_X7_readSum 38 rfl) rfl (by decide) ⟨by omega, by omega⟩ rfl ?_
                refine mm_goto (tgt := 12) C (mm_dec dk_X7_readSum 39 rfl) (by decide) ?_
                refine mm_fgt 3 ?_
                exact ih12 (x12_2 + 1) ⟨by omega, by omega⟩ h70c i70c f70c (by first | exact (mm_or1 y2_0 (by omega)).1 | exact mm_p7_em (mm_p7_op w12_0 (by omega) zs (mm_or1 y60_0 (by omega)).1) (mm_em_fr g70c (by decide))) (by omega) (by first | exact (mm_or1 y2_0 (by omega)).2 | exact mm_nA_em (mm_or1 y60_0 (by omega)).2 (mm_em_fr g70c (by decide))) (by omega)
              · skip
                refine mm_iconst C (mm_dec dk_X7_readSum 33 rfl) ⟨by decide, by decide⟩ ?_
                exact mm_zret C T (mm_dec dk_X7_readSum 34 rfl) (by decide : 0 ≤ 0) (by decide : 0 ≤ 0) (by omega) ⟨_, rfl, ⟨⟨by omega, by omega⟩, i60c, f60c, by first | exact Or.inl ⟨rfl, w12_0, w79_0⟩ | exact Or.inr ⟨rfl, mm_or0 y2_0 (by omega)⟩ | exact Or.inr ⟨rfl, mm_g7_op w12_0 (by omega) zs (mm_or0 y60_0 (by omega))⟩⟩⟩
            refine mm_if_eq (tgt := 51) C (mm_dec dk_X7_readSum 22 rfl) (by decide) (fun c43 => ?_) (fun c43 => ?_)
            · skip
              refine mm_ldc (z := 100016) C (mm_dec dk_X7_readSum 25 rfl) kc_X7_120 (by decide) ?_
              exact J53 100016 ⟨by omega, by omega⟩ (Or.inr (⟨by omega, rfl⟩))
            · skip
              refine mm_ldc (z := 100015) C (mm_dec dk_X7_readSum 23 rfl) kc_X7_119 (by decide) ?_
              refine mm_goto (tgt := 53) C (mm_dec dk_X7_readSum 24 rfl) (by decide) ?_
              exact J53 100015 ⟨by omega, by omega⟩ (Or.inl ⟨by omega, rfl⟩)
          refine mm_if_ne (tgt := 37) C (mm_dec dk_X7_readSum 14 rfl) (by decide) (fun c25 => ?_) (fun c25 => ?_)
          · skip
            exact J37 (by have zz := mm_hdx tf12; omega)
          · skip
            refine mm_aload_n C (mm_dec dk_X7_readSum 15 rfl) rfl ?_
            refine mm_bipush C (mm_dec dk_X7_readSum 16 rfl) ⟨by decide, by decide⟩ ?_
            refine mm_cVi (rest := []) C1 ev_X7_96 (mm_dec dk_X7_readSum 17 rfl) (c_X7_isSign x.2.1 hl (d - 1) (by omega) h12_ i12_ 45 (by omega)) rfl rfl (Nat.le_of_ble_eq_true rfl) ⟨by decide, by decide⟩ rfl (fun r31 h31c hp31 => ?_) (fun _ _ q => q.elim)
            obtain ⟨z31, y31⟩ := hp31
            rw [z31]
            refine mm_if_eq (tgt := 79) C (mm_dec dk_X7_readSum 18 rfl) (by decide) (fun c34 => ?_) (fun c34 => ?_)
            · skip
              refine mm_fgt 0 ?_
              refine mm_fgt 1 ?_
              refine mm_fgt 2 ?_
              exact J79 (by (unfold mm_nB; have zz := mm_hdx tf12; have z := w12_2; unfold mm_nA at z; omega))
            · skip
              exact J37 (by have zz := mm_hdx tf12; omega)
    refine mm_istore_nL (ls2 := [mR 63, mI p1, mI 0, mU]) C (mm_dec dk_X7_readSum 7 rfl) (by decide) rfl ?_
    exact J12 (((500 - 0) : Int) + 1).toNat 0 ⟨by omega, by omega⟩ h2c i2c f2c (by first | exact (mm_or1 y2_0 (by omega)).1 | exact mm_p7_em (mm_p7_op w12_0 (by omega) zs (mm_or1 y60_0 (by omega)).1) (mm_em_fr g70c (by decide))) (by omega) (by first | exact (mm_or1 y2_0 (by omega)).2 | exact mm_nA_em (mm_or1 y60_0 (by omega)).2 (mm_em_fr g70c (by decide))) (by omega)
  · skip
    refine mm_iconst C (mm_dec dk_X7_readSum 4 rfl) ⟨by decide, by decide⟩ ?_
    exact mm_zret C T (mm_dec dk_X7_readSum 5 rfl) (by decide : 0 ≤ 0) (by decide : 0 ≤ 0) (by omega) ⟨_, rfl, ⟨⟨by omega, by omega⟩, i2c, f2c, by first | exact Or.inl ⟨rfl, w12_0, w79_0⟩ | exact Or.inr ⟨rfl, mm_or0 y2_0 (by omega)⟩ | exact Or.inr ⟨rfl, mm_g7_op w12_0 (by omega) zs (mm_or0 y60_0 (by omega))⟩⟩⟩
set_option maxRecDepth 100000 in
set_option maxHeartbeats 4000000 in
theorem c_X7_readTest_q1 (l : Launch) (hl : l.stackTraces = false) (d : Nat) (hd : 37 ≤ d) (h : mH) (i0 : mm_inv h) (p1 : Int) (bp1 : 1 ≤ p1 ∧ p1 ≤ 1) (t0 : mm_aX h) : mm_Met l d yX7_readTest cX7_readTest 3 (some .boolean) [mR 63, mI p1] h (mm_pi fun r h2 => (0 ≤ r ∧ r ≤ 1) ∧ mm_inv h2 ∧ mm_fr [(63, 4), (63, 5), (63, 6), (63, 7), (63, 8), (63, 9), (63, 10)] [64] h h2 ∧ ((r = 1 ∧ mm_q7 1 1 h h2 ∧ mm_nB h2) ∨ (r = 0 ∧ mm_f7 1 1 h h2))) mm_nx 0 0 := by
  refine mm_ofW (ls := [mR 63, mI p1, mU]) hl (by decide) rfl (Nat.le_of_ble_eq_true rfl) ?_
  intro x hxl C T hnm htb
  subst hxl
  have C1 := mm_OK_le (d' := d - 1 + 1) (by omega) C
  have C8 := mm_OK_le (d' := d - 8 + 8) (by omega) C
  refine mm_rng (fun hr _ => ?_)
  have ap1 : -2147483648 ≤ p1 ∧ p1 < 2147483648 := mm_ok_at hr (i := 1) rfl
  have f0 : mm_fr [(63, 4), (63, 5), (63, 6), (63, 7), (63, 8), (63, 9), (63, 10)] [64] h h := mm_fr_rf
  have g1 : -2147483648 ≤ h.1 63 5 ∧ h.1 63 5 ≤ 2147483647 := i0.1 63 5
  have g2 : 0 ≤ h.1 63 7 ∧ h.1 63 7 ≤ 500 := i0.1 63 7
  have g3 : 0 ≤ h.1 63 8 ∧ h.1 63 8 ≤ 500 := i0.1 63 8
  have g4 : 0 ≤ h.1 63 3 ∧ h.1 63 3 ≤ 500 := i0.1 63 3
  have g5 : -2147483648 ≤ h.1 63 6 ∧ h.1 63 6 ≤ 2147483647 := i0.1 63 6
  have g6 : -2147483648 ≤ h.1 63 9 ∧ h.1 63 9 ≤ 2147483647 := i0.1 63 9
  have g7 : -2147483648 ≤ h.1 63 10 ∧ h.1 63 10 ≤ 2147483647 := i0.1 63 10
  have tf := mm_cX_h i0 t0
  have tr := mm_cX_r i0 t0
  refine mm_aload_n C (mm_dec dk_X7_readTest 0 rfl) rfl ?_
  refine mm_iload_n C (mm_dec dk_X7_readTest 1 rfl) rfl ?_
  refine mm_cVi (rest := []) C1 ev_X7_111 (mm_dec dk_X7_readTest 2 rfl) (c_X7_readSum_q1 x.2.1 hl (d - 1) (by omega) h i0 p1 ⟨by omega, by omega⟩ (by exact t0)) rfl rfl (Nat.le_of_ble_eq_true rfl) ⟨by decide, by decide⟩ rfl (fun r2 h2c hp2 => ?_) (fun _ _ q => q.elim)
  obtain ⟨b2, i2c, g2c, y2_0⟩ := hp2
  have f2c : mm_fr [(63, 4), (63, 5), (63, 6), (63, 7), (63, 8), (63, 9), (63, 10)] [64] h h2c := mm_fr_tr f0 g2c (by decide +kernel)
  have q2c_9 : h2c.1 63 3 = h.1 63 3 := g2c.1 63 3 (by decide)
  have g10 : -2147483648 ≤ (h2c.1 63 5) ∧ (h2c.1 63 5) ≤ 2147483647 := i2c.1 63 5
  have g11 : 0 ≤ (h2c.1 63 7) ∧ (h2c.1 63 7) ≤ 500 := i2c.1 63 7
  have g12 : 0 ≤ (h2c.1 63 8) ∧ (h2c.1 63 8) ≤ 500 := i2c.1 63 8
  have g13 : -2147483648 ≤ (h2c.1 63 6) ∧ (h2c.1 63 6) ≤ 2147483647 := i2c.1 63 6
  have g14 : -2147483648 ≤ (h2c.1 63 9) ∧ (h2c.1 63 9) ≤ 2147483647 := i2c.1 63 9
  have g15 : -2147483648 ≤ (h2c.1 63 10) ∧ (h2c.1 63 10) ≤ 2147483647 := i2c.1 63 10
  refine mm_if_ne (tgt := 10) C (mm_dec dk_X7_readTest 3 rfl) (by decide) (fun c5 => ?_) (fun c5 => ?_)
  · skip
    have zp := mm_or1 y2_0 (by omega)
    have tg := mm_cX_h i2c zp.1.1.2.1
    have th := mm_cX_r i2c zp.1.1.2.1
    refine mm_aload_n C (mm_dec dk_X7_readTest 6 rfl) rfl ?_
    refine mm_bipush C (mm_dec dk_X7_readTest 7 rfl) ⟨by decide, by decide⟩ ?_
    refine mm_cVi (rest := []) C1 ev_X7_96 (mm_dec dk_X7_readTest 8 rfl) (c_X7_isSign x.2.1 hl (d - 1) (by omega) h2c i2c 60 (by omega)) rfl rfl (Nat.le_of_ble_eq_true rfl) ⟨by decide, by decide⟩ rfl (fun r13 h13c hp13 => ?_) (fun _ _ q => q.elim)
    obtain ⟨z13, y13⟩ := hp13
    rw [z13]
    have g17 : -2147483648 ≤ (h2c.2.1 62 (h2c.1 63 7)) ∧ (h2c.2.1 62 (h2c.1 63 7)) ≤ 2147483647 := i2c.2.1 62 (h2c.1 63 7)
    have J39 : ∀ (s39_0 : Int) (bs39_0 : -1 ≤ s39_0 ∧ s39_0 ≤ 100014) (w39_0 : ((s39_0 ≠ -1 ∧ (mm_cX h2c = 160 ∨ mm_cX h2c = 161)) ∨ (s39_0 = -1 ∧ mm_cX h2c ≠ 160 ∧ mm_cX h2c ≠ 161))) (vs39_0 : (r13 = 0 ∧ s39_0 = -1) ∨ (r13 ≠ 0 ∧ s39_0 = 100013) ∨ (r13 = 0 ∧ s39_0 = 100014)), mm_W x 0 0 39 [mR 63, mI p1, mU] [mI s39_0] h2c := by
      intro s39_0 bs39_0 w39_0 vs39_0
      refine mm_istore_nL (ls2 := [mR 63, mI p1, mI s39_0]) C (mm_dec dk_X7_readTest 19 rfl) (by decide) rfl ?_
      refine mm_iload_n C (mm_dec dk_X7_readTest 20 rfl) rfl ?_
      refine mm_iconst C (mm_dec dk_X7_readTest 21 rfl) ⟨by decide, by decide⟩ ?_
      have J64 : ∀ (h64_ : mH) (i64_ : mm_inv h64_) (f64_ : mm_fr [(63, 4), (63, 5), (63, 6), (63, 7), (63, 8), (63, 9), (63, 10)] [64] h h64_) (w64_0 : mm_q7 1 1 h h64_) (w64_1 : mm_nB h64_), mm_W x 0 0 64 [mU, mU, mU] [] h64_ := by
        intro h64_ i64_ f64_ w64_0 w64_1
        have g18 : -2147483648 ≤ h64_.1 63 5 ∧ h64_.1 63 5 ≤ 2147483647 := i64_.1 63 5
        have g19 : 0 ≤ h64_.1 63 7 ∧ h64_.1 63 7 ≤ 500 := i64_.1 63 7
        have g20 : 0 ≤ h64_.1 63 8 ∧ h64_.1 63 8 ≤ 500 := i64_.1 63 8
        have g21 : 0 ≤ h64_.1 63 3 ∧ h64_.1 63 3 ≤ 500 := i64_.1 63 3
        have g22 : -2147483648 ≤ h64_.1 63 6 ∧ h64_.1 63 6 ≤ 2147483647 := i64_.1 63 6
        have g23 : -2147483648 ≤ h64_.1 63 9 ∧ h64_.1 63 9 ≤ 2147483647 := i64_.1 63 9
        have g24 : -2147483648 ≤ h64_.1 63 10 ∧ h64_.1 63 10 ≤ 2147483647 := i64_.1 63 10
        have g25 : h64_.1 63 3 = h.1 63 3 := f64_.1 63 3 (by decide)
        refine mm_iconst C (mm_dec dk_X7_readTest 34 rfl) ⟨by decide, by decide⟩ ?_
        exact mm_zret C T (mm_dec dk_X7_readTest 35 rfl) (by decide : 0 ≤ 0) (by decide : 0 ≤ 0) (by omega) ⟨_, rfl, ⟨⟨by omega, by omega⟩, i64_, f64_, by first | exact Or.inl ⟨rfl, w64_0, w64_1⟩ | exact Or.inr ⟨rfl, mm_f7_sum (mm_or0 y2_0 (by omega))⟩ | exact Or.inr ⟨rfl, mm_f7_lt zp.1 (by omega) zs (mm_or0 y51_0 (by omega))⟩⟩⟩
      refine mm_icmp_eq (tgt := 64) C (mm_dec dk_X7_readTest 22 rfl) (by decide) (fun c42 => ?_) (fun c42 => ?_)
      · skip
        refine mm_fgt 0 ?_
        refine mm_fgt 1 ?_
        refine mm_fgt 2 ?_
        exact J64 h2c i2c f2c (by first | exact mm_q7_sum zp.1 (by omega) | exact mm_q7_em (mm_q7_lt zp.1 (by omega) zs (mm_or1 y51_0 (by omega)).1) (mm_em_fr g61c (by decide))) (by first | exact zp.2 | exact mm_nB_em (mm_or1 y51_0 (by omega)).2 (mm_em_fr g61c (by decide)))
      · skip
        refine mm_aload_n C (mm_dec dk_X7_readTest 23 rfl) rfl ?_
        refine mm_cVv (rest := []) C1 ev_X7_52 (mm_dec dk_X7_readTest 24 rfl) (c_X7_step_q x.2.1 hl (d - 1) (by omega) h2c i2c ) rfl rfl (Nat.le_of_ble_eq_true rfl) ⟨by decide, by decide⟩ rfl (fun h46c hp46 => ?_) (fun _ _ q => q.elim)
        obtain ⟨i46c, g46c, y46_0, y46_1, y46_2⟩ := hp46
        have f46c : mm_fr [(63, 4), (63, 5), (63, 6), (63, 7), (63, 8), (63, 9), (63, 10)] [64] h h46c := mm_fr_tr f2c g46c (by decide +kernel)
        have q46c_27 : h46c.1 63 3 = h2c.1 63 3 := g46c.1 63 3 (by decide)
        have q46c_28 : h46c.1 63 9 = h2c.1 63 9 := g46c.1 63 9 (by decide)
        have q46c_29 : h46c.1 63 10 = h2c.1 63 10 := g46c.1 63 10 (by decide)
        have g30 : -2147483648 ≤ (h46c.1 63 5) ∧ (h46c.1 63 5) ≤ 2147483647 := i46c.1 63 5
        have g31 : 0 ≤ (h46c.1 63 7) ∧ (h46c.1 63 7) ≤ 500 := i46c.1 63 7
        have g32 : 0 ≤ (h46c.1 63 8) ∧ (h46c.1 63 8) ≤ 500 := i46c.1 63 8
        have g33 : -2147483648 ≤ (h46c.1 63 6) ∧ (h46c.1 63 6) ≤ 2147483647 := i46c.1 63 6
        have zs := mm_st7_of zp.1.1.2.1 y46_1 y46_2 g46c (by decide)
        refine mm_aload_n C (mm_dec dk_X7_readTest 25 rfl) rfl ?_
        refine mm_iload_n C (mm_dec dk_X7_readTest 26 rfl) rfl ?_
        refine mm_cVi (rest := []) C1 ev_X7_111 (mm_dec dk_X7_readTest 27 rfl) (c_X7_readSum_q1 x.2.1 hl (d - 1) (by omega) h46c i46c p1 ⟨by omega, by omega⟩ (by exact y46_1)) rfl rfl (Nat.le_of_ble_eq_true rfl) ⟨by decide, by decide⟩ rfl (fun r51 h51c hp51 => ?_) (fun _ _ q => q.elim)
        obtain ⟨b51, i51c, g51c, y51_0⟩ := hp51
        have f51c : mm_fr [(63, 4), (63, 5), (63, 6), (63, 7), (63, 8), (63, 9), (63, 10)] [64] h h51c := mm_fr_tr f46c g51c (by decide +kernel)
        have q51c_35 : h51c.1 63 3 = h46c.1 63 3 := g51c.1 63 3 (by decide)
        have g36 : -2147483648 ≤ (h51c.1 63 5) ∧ (h51c.1 63 5) ≤ 2147483647 := i51c.1 63 5
        have g37 : 0 ≤ (h51c.1 63 7) ∧ (h51c.1 63 7) ≤ 500 := i51c.1 63 7
        have g38 : 0 ≤ (h51c.1 63 8) ∧ (h51c.1 63 8) ≤ 500 := i51c.1 63 8
        have g39 : -2147483648 ≤ (h51c.1 63 6) ∧ (h51c.1 63 6) ≤ 2147483647 := i51c.1 63 6
        have g40 : -2147483648 ≤ (h51c.1 63 9) ∧ (h51c.1 63 9) ≤ 2147483647 := i51c.1 63 9
        have g41 : -2147483648 ≤ (h51c.1 63 10) ∧ (h51c.1 63 10) ≤ 2147483647 := i51c.1 63 10
        refine mm_if_ne (tgt := 59) C (mm_dec dk_X7_readTest 28 rfl) (by decide) (fun c54 => ?_) (fun c54 => ?_)
        · skip
          refine mm_aload_n C (mm_dec dk_X7_readTest 31 rfl) rfl ?_
          refine mm_iload_n C (mm_dec dk_X7_readTest 32 rfl) rfl ?_
          refine mm_cVv (rest := []) C1 ev_X7_79 (mm_dec dk_X7_readTest 33 rfl) (c_X7_emit x.2.1 hl (d - 1) (by omega) h51c i51c s39_0) rfl rfl (Nat.le_of_ble_eq_true rfl) ⟨by decide, by decide⟩ rfl (fun h61c hp61 => ?_) (fun _ _ q => q.elim)
          obtain ⟨i61c, g61c⟩ := hp61
          have f61c : mm_fr [(63, 4), (63, 5), (63, 6), (63, 7), (63, 8), (63, 9), (63, 10)] [64] h h61c := mm_fr_tr f51c g61c (by decide +kernel)
          have q61c_43 : h61c.1 63 3 = h51c.1 63 3 := g61c.1 63 3 (by decide)
          have q61c_44 : h61c.1 63 5 = h51c.1 63 5 := g61c.1 63 5 (by decide)
          have q61c_45 : h61c.1 63 6 = h51c.1 63 6 := g61c.1 63 6 (by decide)
          have q61c_46 : h61c.1 63 7 = h51c.1 63 7 := g61c.1 63 7 (by decide)
          have q61c_47 : h61c.1 63 8 = h51c.1 63 8 := g61c.1 63 8 (by decide)
          have q61c_48 : h61c.1 63 9 = h51c.1 63 9 := g61c.1 63 9 (by decide)
          have q61c_49 : h61c.1 63 10 = h51c.1 63 10 := g61c.1 63 10 (by decide)
          refine mm_fgt 0 ?_
          refine mm_fgt 1 ?_
          refine mm_fgt 2 ?_
          exact J64 h61c i61c f61c (by first | exact mm_q7_sum zp.1 (by omega) | exact mm_q7_em (mm_q7_lt zp.1 (by omega) zs (mm_or1 y51_0 (by omega)).1) (mm_em_fr g61c (by decide))) (by first | exact zp.2 | exact mm_nB_em (mm_or1 y51_0 (by omega)).2 (mm_em_fr g61c (by decide)))
        · skip
          refine mm_iconst C (mm_dec dk_X7_readTest 29 rfl) ⟨by decide, by decide⟩ ?_
          exact mm_zret C T (mm_dec dk_X7_readTest 30 rfl) (by decide : 0 ≤ 0) (by decide : 0 ≤ 0) (by omega) ⟨_, rfl, ⟨⟨by omega, by omega⟩, i51c, f51c, by first | exact Or.inl ⟨rfl, w64_0, w64_1⟩ | exact Or.inr ⟨rfl, mm_f7_sum (mm_or0 y2_0 (by omega))⟩ | exact Or.inr ⟨rfl, mm_f7_lt zp.1 (by omega) zs (mm_or0 y51_0 (by omega))⟩⟩⟩
    refine mm_if_eq (tgt := 24) C (mm_dec dk_X7_readTest 9 rfl) (by decide) (fun c16 => ?_) (fun c16 => ?_)
    · skip
      refine mm_aload_n C (mm_dec dk_X7_readTest 12 rfl) rfl ?_
      refine mm_bipush C (mm_dec dk_X7_readTest 13 rfl) ⟨by decide, by decide⟩ ?_
      refine mm_cVi (rest := []) C1 ev_X7_96 (mm_dec dk_X7_readTest 14 rfl) (c_X7_isSign x.2.1 hl (d - 1) (by omega) h2c i2c 61 (by omega)) rfl rfl (Nat.le_of_ble_eq_true rfl) ⟨by decide, by decide⟩ rfl (fun r27 h27c hp27 => ?_) (fun _ _ q => q.elim)
      obtain ⟨z27, y27⟩ := hp27
      rw [z27]
      refine mm_if_eq (tgt := 38) C (mm_dec dk_X7_readTest 15 rfl) (by decide) (fun c30 => ?_) (fun c30 => ?_)
      · skip
        refine mm_iconst C (mm_dec dk_X7_readTest 18 rfl) ⟨by decide, by decide⟩ ?_
        exact J39 (-1) ⟨by omega, by omega⟩ (by have zz := mm_hdx tg; omega) (Or.inl ⟨by omega, rfl⟩)
      · skip
        refine mm_ldc (z := 100014) C (mm_dec dk_X7_readTest 16 rfl) kc_X7_115 (by decide) ?_
        refine mm_goto (tgt := 39) C (mm_dec dk_X7_readTest 17 rfl) (by decide) ?_
        exact J39 100014 ⟨by omega, by omega⟩ (by have zz := mm_hdx tg; omega) (Or.inr (Or.inr (⟨by omega, rfl⟩)))
    · skip
      refine mm_ldc (z := 100013) C (mm_dec dk_X7_readTest 10 rfl) kc_X7_114 (by decide) ?_
      refine mm_goto (tgt := 39) C (mm_dec dk_X7_readTest 11 rfl) (by decide) ?_
      exact J39 100013 ⟨by omega, by omega⟩ (by have zz := mm_hdx tg; omega) (Or.inr (Or.inl ⟨by omega, rfl⟩))
  · skip
    refine mm_iconst C (mm_dec dk_X7_readTest 4 rfl) ⟨by decide, by decide⟩ ?_
    exact mm_zret C T (mm_dec dk_X7_readTest 5 rfl) (by decide : 0 ≤ 0) (by decide : 0 ≤ 0) (by omega) ⟨_, rfl, ⟨⟨by omega, by omega⟩, i2c, f2c, by first | exact Or.inl ⟨rfl, w64_0, w64_1⟩ | exact Or.inr ⟨rfl, mm_f7_sum (mm_or0 y2_0 (by omega))⟩ | exact Or.inr ⟨rfl, mm_f7_lt zp.1 (by omega) zs (mm_or0 y51_0 (by omega))⟩⟩⟩
set_option maxRecDepth 100000 in
set_option maxHeartbeats 4000000 in
theorem c_X7_readNot_q1 (l : Launch) (hl : l.stackTraces = false) (d : Nat) (hd : 38 ≤ d) (h : mH) (i0 : mm_inv h) (p1 : Int) (bp1 : 1 ≤ p1 ∧ p1 ≤ 1) (t0 : mm_aX h) : mm_Met l d yX7_readNot cX7_readNot 4 (some .boolean) [mR 63, mI p1] h (mm_pi fun r h2 => (0 ≤ r ∧ r ≤ 1) ∧ mm_inv h2 ∧ mm_fr [(63, 4), (63, 5), (63, 6), (63, 7), (63, 8), (63, 9), (63, 10)] [64] h h2 ∧ ((r = 1 ∧ mm_q7 0 1 h h2 ∧ mm_nB h2) ∨ (r = 0 ∧ mm_f7 0 1 h h2))) mm_nx 0 0 := by
  refine mm_ofW (ls := [mR 63, mI p1, mU, mU]) hl (by decide) rfl (Nat.le_of_ble_eq_true rfl) ?_
  intro x hxl C T hnm htb
  subst hxl
  have C1 := mm_OK_le (d' := d - 1 + 1) (by omega) C
  have C8 := mm_OK_le (d' := d - 8 + 8) (by omega) C
  refine mm_rng (fun hr _ => ?_)
  have ap1 : -2147483648 ≤ p1 ∧ p1 < 2147483648 := mm_ok_at hr (i := 1) rfl
  have f0 : mm_fr [(63, 4), (63, 5), (63, 6), (63, 7), (63, 8), (63, 9), (63, 10)] [64] h h := mm_fr_rf
  have g1 : -2147483648 ≤ h.1 63 5 ∧ h.1 63 5 ≤ 2147483647 := i0.1 63 5
  have g2 : 0 ≤ h.1 63 7 ∧ h.1 63 7 ≤ 500 := i0.1 63 7
  have g3 : 0 ≤ h.1 63 8 ∧ h.1 63 8 ≤ 500 := i0.1 63 8
  have g4 : 0 ≤ h.1 63 3 ∧ h.1 63 3 ≤ 500 := i0.1 63 3
  have g5 : -2147483648 ≤ h.1 63 6 ∧ h.1 63 6 ≤ 2147483647 := i0.1 63 6
  have g6 : -2147483648 ≤ h.1 63 9 ∧ h.1 63 9 ≤ 2147483647 := i0.1 63 9
  have g7 : -2147483648 ≤ h.1 63 10 ∧ h.1 63 10 ≤ 2147483647 := i0.1 63 10
  refine mm_iconst C (mm_dec dk_X7_readNot 0 rfl) ⟨by decide, by decide⟩ ?_
  have J2 : ∀ (n : Nat) (x2_2 : Int) (bx2_2 : 0 ≤ x2_2 ∧ x2_2 ≤ 6) (h2_ : mH) (i2_ : mm_inv h2_) (f2_ : mm_fr [(63, 4), (63, 5), (63, 6), (63, 7), (63, 8), (63, 9), (63, 10)] [64] h h2_) (w2_0 : mm_n7 1 x2_2 h h2_), (6 - x2_2 : Int) < n → mm_W x 0 0 2 [mR 63, mI p1, mI x2_2, mU] [] h2_ := by
    intro n
    induction n with
    | zero =>
      intro x2_2 bx2_2 h2_ i2_ f2_ w2_0 hm
      have g8 : -2147483648 ≤ h2_.1 63 5 ∧ h2_.1 63 5 ≤ 2147483647 := i2_.1 63 5
      have g9 : 0 ≤ h2_.1 63 7 ∧ h2_.1 63 7 ≤ 500 := i2_.1 63 7
      have g10 : 0 ≤ h2_.1 63 8 ∧ h2_.1 63 8 ≤ 500 := i2_.1 63 8
      have g11 : 0 ≤ h2_.1 63 3 ∧ h2_.1 63 3 ≤ 500 := i2_.1 63 3
      have g12 : -2147483648 ≤ h2_.1 63 6 ∧ h2_.1 63 6 ≤ 2147483647 := i2_.1 63 6
      have g13 : -2147483648 ≤ h2_.1 63 9 ∧ h2_.1 63 9 ≤ 2147483647 := i2_.1 63 9
      have g14 : -2147483648 ≤ h2_.1 63 10 ∧ h2_.1 63 10 ≤ 2147483647 := i2_.1 63 10
      exfalso; omega
    | succ n ih2 =>
      intro x2_2 bx2_2 h2_ i2_ f2_ w2_0 hm2
      have g15 : -2147483648 ≤ h2_.1 63 5 ∧ h2_.1 63 5 ≤ 2147483647 := i2_.1 63 5
      have g16 : 0 ≤ h2_.1 63 7 ∧ h2_.1 63 7 ≤ 500 := i2_.1 63 7
      have g17 : 0 ≤ h2_.1 63 8 ∧ h2_.1 63 8 ≤ 500 := i2_.1 63 8
      have g18 : 0 ≤ h2_.1 63 3 ∧ h2_.1 63 3 ≤ 500 := i2_.1 63 3
      have g19 : -2147483648 ≤ h2_.1 63 6 ∧ h2_.1 63 6 ≤ 2147483647 := i2_.1 63 6
      have g20 : -2147483648 ≤ h2_.1 63 9 ∧ h2_.1 63 9 ≤ 2147483647 := i2_.1 63 9
      have g21 : -2147483648 ≤ h2_.1 63 10 ∧ h2_.1 63 10 ≤ 2147483647 := i2_.1 63 10
      have g22 : h2_.1 63 3 = h.1 63 3 := f2_.1 63 3 (by decide)
      have tf2 := mm_cX_h i2_ w2_0.1.2.1
      have tr2 := mm_cX_r i2_ w2_0.1.2.1
      refine mm_iload_n C (mm_dec dk_X7_readNot 2 rfl) rfl ?_
      refine mm_bipush C (mm_dec dk_X7_readNot 3 rfl) ⟨by decide, by decide⟩ ?_
      have J27 : ∀ (w27_0 : (6 ≤ x2_2 ∨ mm_cX h2_ ≠ 6)), mm_W x 0 0 27 [mR 63, mI p1, mI x2_2, mU] [] h2_ := by
        intro w27_0
        have g23 : -2147483648 ≤ h2_.1 63 5 ∧ h2_.1 63 5 ≤ 2147483647 := i2_.1 63 5
        have g24 : 0 ≤ h2_.1 63 7 ∧ h2_.1 63 7 ≤ 500 := i2_.1 63 7
        have g25 : 0 ≤ h2_.1 63 8 ∧ h2_.1 63 8 ≤ 500 := i2_.1 63 8
        have g26 : 0 ≤ h2_.1 63 3 ∧ h2_.1 63 3 ≤ 500 := i2_.1 63 3
        have g27 : -2147483648 ≤ h2_.1 63 6 ∧ h2_.1 63 6 ≤ 2147483647 := i2_.1 63 6
        have g28 : -2147483648 ≤ h2_.1 63 9 ∧ h2_.1 63 9 ≤ 2147483647 := i2_.1 63 9
        have g29 : -2147483648 ≤ h2_.1 63 10 ∧ h2_.1 63 10 ≤ 2147483647 := i2_.1 63 10
        refine mm_iload_n C (mm_dec dk_X7_readNot 13 rfl) rfl ?_
        refine mm_bipush C (mm_dec dk_X7_readNot 14 rfl) ⟨by decide, by decide⟩ ?_
        have J48 : ∀ (w48_0 : mm_cX h2_ ≠ 6), mm_W x 0 0 48 [mR 63, mI p1, mI x2_2, mU] [] h2_ := by
          intro w48_0
          have g30 : -2147483648 ≤ h2_.1 63 5 ∧ h2_.1 63 5 ≤ 2147483647 := i2_.1 63 5
          have g31 : 0 ≤ h2_.1 63 7 ∧ h2_.1 63 7 ≤ 500 := i2_.1 63 7
          have g32 : 0 ≤ h2_.1 63 8 ∧ h2_.1 63 8 ≤ 500 := i2_.1 63 8
          have g33 : 0 ≤ h2_.1 63 3 ∧ h2_.1 63 3 ≤ 500 := i2_.1 63 3
          have g34 : -2147483648 ≤ h2_.1 63 6 ∧ h2_.1 63 6 ≤ 2147483647 := i2_.1 63 6
          have g35 : -2147483648 ≤ h2_.1 63 9 ∧ h2_.1 63 9 ≤ 2147483647 := i2_.1 63 9
          have g36 : -2147483648 ≤ h2_.1 63 10 ∧ h2_.1 63 10 ≤ 2147483647 := i2_.1 63 10
          refine mm_aload_n C (mm_dec dk_X7_readNot 24 rfl) rfl ?_
          refine mm_iload_n C (mm_dec dk_X7_readNot 25 rfl) rfl ?_
          refine mm_cVi (rest := []) C1 ev_X7_107 (mm_dec dk_X7_readNot 26 rfl) (c_X7_readTest_q1 x.2.1 hl (d - 1) (by omega) h2_ i2_ p1 ⟨by omega, by omega⟩ (by exact w2_0.1.2.1)) rfl rfl (Nat.le_of_ble_eq_true rfl) ⟨by decide, by decide⟩ rfl (fun r50 h50c hp50 => ?_) (fun _ _ q => q.elim)
          obtain ⟨b50, i50c, g50c, y50_0⟩ := hp50
          have f50c : mm_fr [(63, 4), (63, 5), (63, 6), (63, 7), (63, 8), (63, 9), (63, 10)] [64] h h50c := mm_fr_tr f2_ g50c (by decide +kernel)
          have q50c_38 : h50c.1 63 3 = h2_.1 63 3 := g50c.1 63 3 (by decide)
          have g39 : -2147483648 ≤ (h50c.1 63 5) ∧ (h50c.1 63 5) ≤ 2147483647 := i50c.1 63 5
          have g40 : 0 ≤ (h50c.1 63 7) ∧ (h50c.1 63 7) ≤ 500 := i50c.1 63 7
          have g41 : 0 ≤ (h50c.1 63 8) ∧ (h50c.1 63 8) ≤ 500 := i50c.1 63 8
          have g42 : -2147483648 ≤ (h50c.1 63 6) ∧ (h50c.1 63 6) ≤ 2147483647 := i50c.1 63 6
          have g43 : -2147483648 ≤ (h50c.1 63 9) ∧ (h50c.1 63 9) ≤ 2147483647 := i50c.1 63 9
          have g44 : -2147483648 ≤ (h50c.1 63 10) ∧ (h50c.1 63 10) ≤ 2147483647 := i50c.1 63 10
          refine mm_if_ne (tgt := 58) C (mm_dec dk_X7_readNot 27 rfl) (by decide) (fun c53 => ?_) (fun c53 => ?_)
          · skip
            refine mm_iconst C (mm_dec dk_X7_readNot 30 rfl) ⟨by decide, by decide⟩ ?_
            have J60 : ∀ (n : Nat) (x60_3 : Int) (bx60_3 : 0 ≤ x60_3 ∧ x60_3 ≤ 7) (h60_ : mH) (i60_ : mm_inv h60_) (f60_ : mm_fr [(63, 4), (63, 5), (63, 6), (63, 7), (63, 8), (63, 9), (63, 10)] [64] h h60_) (w60_0 : mm_q7 0 1 h h60_) (w60_1 : mm_nB h60_), (7 - x60_3 : Int) < n → mm_W x 0 0 60 [mR 63, mU, mI x2_2, mI x60_3] [] h60_ := by
              intro n
              induction n with
              | zero =>
                intro x60_3 bx60_3 h60_ i60_ f60_ w60_0 w60_1 hm
                have g45 : -2147483648 ≤ h60_.1 63 5 ∧ h60_.1 63 5 ≤ 2147483647 := i60_.1 63 5
                have g46 : 0 ≤ h60_.1 63 7 ∧ h60_.1 63 7 ≤ 500 := i60_.1 63 7
                have g47 : 0 ≤ h60_.1 63 8 ∧ h60_.1 63 8 ≤ 500 := i60_.1 63 8
                have g48 : 0 ≤ h60_.1 63 3 ∧ h60_.1 63 3 ≤ 500 := i60_.1 63 3
                have g49 : -2147483648 ≤ h60_.1 63 6 ∧ h60_.1 63 6 ≤ 2147483647 := i60_.1 63 6
                have g50 : -2147483648 ≤ h60_.1 63 9 ∧ h60_.1 63 9 ≤ 2147483647 := i60_.1 63 9
                have g51 : -2147483648 ≤ h60_.1 63 10 ∧ h60_.1 63 10 ≤ 2147483647 := i60_.1 63 10
                exfalso; omega
              | succ n ih60 =>
                intro x60_3 bx60_3 h60_ i60_ f60_ w60_0 w60_1 hm60
                have g52 : -2147483648 ≤ h60_.1 63 5 ∧ h60_.1 63 5 ≤ 2147483647 := i60_.1 63 5
                have g53 : 0 ≤ h60_.1 63 7 ∧ h60_.1 63 7 ≤ 500 := i60_.1 63 7
                have g54 : 0 ≤ h60_.1 63 8 ∧ h60_.1 63 8 ≤ 500 := i60_.1 63 8
                have g55 : 0 ≤ h60_.1 63 3 ∧ h60_.1 63 3 ≤ 500 := i60_.1 63 3
                have g56 : -2147483648 ≤ h60_.1 63 6 ∧ h60_.1 63 6 ≤ 2147483647 := i60_.1 63 6
                have g57 : -2147483648 ≤ h60_.1 63 9 ∧ h60_.1 63 9 ≤ 2147483647 := i60_.1 63 9
                have g58 : -2147483648 ≤ h60_.1 63 10 ∧ h60_.1 63 10 ≤ 2147483647 := i60_.1 63 10
                have g59 : h60_.1 63 3 = h.1 63 3 := f60_.1 63 3 (by decide)
                refine mm_iload_n C (mm_dec dk_X7_readNot 32 rfl) rfl ?_
                refine mm_iload_n C (mm_dec dk_X7_readNot 33 rfl) rfl ?_
                refine mm_icmp_ge (tgt := 77) C (mm_dec dk_X7_readNot 34 rfl) (by decide) (fun c62 => ?_) (fun c62 => ?_)
                · skip
                  refine mm_iconst C (mm_dec dk_X7_readNot 40 rfl) ⟨by decide, by decide⟩ ?_
                  exact mm_zret C T (mm_dec dk_X7_readNot 41 rfl) (by decide : 0 ≤ 0) (by decide : 0 ≤ 0) (by omega) ⟨_, rfl, ⟨⟨by omega, by omega⟩, i60_, f60_, by first | exact Or.inl ⟨rfl, w60_0, w60_1⟩ | exact Or.inr ⟨rfl, mm_f7_not w2_0 w48_0 (mm_or0 y50_0 (by omega))⟩ | exact Or.inr ⟨by omega, mm_f7_nots (by rw [show (6 : Int) = x2_2 by omega]; exact w2_0) (by have zz := mm_hdx tf2; omega) y44_0 y44_1⟩⟩⟩
                · skip
                  refine mm_aload_n C (mm_dec dk_X7_readNot 35 rfl) rfl ?_
                  refine mm_ldc (z := 100010) C (mm_dec dk_X7_readNot 36 rfl) kc_X7_110 (by decide) ?_
                  refine mm_cVv (rest := []) C1 ev_X7_79 (mm_dec dk_X7_readNot 37 rfl) (c_X7_emit x.2.1 hl (d - 1) (by omega) h60_ i60_ 100010) rfl rfl (Nat.le_of_ble_eq_true rfl) ⟨by decide, by decide⟩ rfl (fun h68c hp68 => ?_) (fun _ _ q => q.elim)
                  obtain ⟨i68c, g68c⟩ := hp68
                  have f68c : mm_fr [(63, 4), (63, 5), (63, 6), (63, 7), (63, 8), (63, 9), (63, 10)] [64] h h68c := mm_fr_tr f60_ g68c (by decide +kernel)
                  have q68c_61 : h68c.1 63 3 = h60_.1 63 3 := g68c.1 63 3 (by decide)
                  have q68c_62 : h68c.1 63 5 = h60_.1 63 5 := g68c.1 63 5 (by decide)
                  have q68c_63 : h68c.1 63 6 = h60_.1 63 6 := g68c.1 63 6 (by decide)
                  have q68c_64 : h68c.1 63 7 = h60_.1 63 7 := g68c.1 63 7 (by decide)
                  have q68c_65 : h68c.1 63 8 = h60_.1 63 8 := g68c.1 63 8 (by decide)
                  have q68c_66 : h68c.1 63 9 = h60_.1 63 9 := g68c.1 63 9 (by decide)
                  have q68c_67 : h68c.1 63 10 = h60_.1 63 10 := g68c.1 63 10 (by decide)
                  refine mm_iincL (ls2 := [mR 63, mU, mI x2_2, mI (x60_3 + 1)]) C (mm_dec dk_X7_readNot 38 rfl) rfl (by decide) ⟨by omega, by omega⟩ rfl ?_
                  refine mm_goto (tgt := 60) C (mm_dec dk_X7_readNot 39 rfl) (by decide) ?_
                  exact ih60 (x60_3 + 1) ⟨by omega, by omega⟩ h68c i68c f68c (by first | exact mm_q7_not w2_0 w48_0 (mm_or1 y50_0 (by omega)).1 | exact mm_q7_em w60_0 (mm_em_fr g68c (by decide))) (by first | exact (mm_or1 y50_0 (by omega)).2 | exact mm_nB_em w60_1 (mm_em_fr g68c (by decide))) (by omega)
            refine mm_istore_nL (ls2 := [mR 63, mI p1, mI x2_2, mI 0]) C (mm_dec dk_X7_readNot 31 rfl) (by decide) rfl ?_
            refine mm_fgt 1 ?_
            exact J60 (((7 - 0) : Int) + 1).toNat 0 ⟨by omega, by omega⟩ h50c i50c f50c (by first | exact mm_q7_not w2_0 w48_0 (mm_or1 y50_0 (by omega)).1 | exact mm_q7_em w60_0 (mm_em_fr g68c (by decide))) (by first | exact (mm_or1 y50_0 (by omega)).2 | exact mm_nB_em w60_1 (mm_em_fr g68c (by decide))) (by omega)
          · skip
            refine mm_iconst C (mm_dec dk_X7_readNot 28 rfl) ⟨by decide, by decide⟩ ?_
            exact mm_zret C T (mm_dec dk_X7_readNot 29 rfl) (by decide : 0 ≤ 0) (by decide : 0 ≤ 0) (by omega) ⟨_, rfl, ⟨⟨by omega, by omega⟩, i50c, f50c, by first | exact Or.inl ⟨rfl, w60_0, w60_1⟩ | exact Or.inr ⟨rfl, mm_f7_not w2_0 w48_0 (mm_or0 y50_0 (by omega))⟩ | exact Or.inr ⟨by omega, mm_f7_nots (by rw [show (6 : Int) = x2_2 by omega]; exact w2_0) (by have zz := mm_hdx tf2; omega) y44_0 y44_1⟩⟩⟩
        refine mm_icmp_ne (tgt := 48) C (mm_dec dk_X7_readNot 15 rfl) (by decide) (fun c30 => ?_) (fun c30 => ?_)
        · skip
          exact J48 (by have zz := mm_hdx tf2; omega)
        · skip
          refine mm_aload_n C (mm_dec dk_X7_readNot 16 rfl) rfl ?_
          refine mm_geti C fl_X7_28 (mm_dec dk_X7_readNot 17 rfl) rfl rfl (Or.inl rfl) ?_
          refine mm_bipush C (mm_dec dk_X7_readNot 18 rfl) ⟨by decide, by decide⟩ ?_
          refine mm_icmp_ne (tgt := 48) C (mm_dec dk_X7_readNot 19 rfl) (by decide) (fun c39 => ?_) (fun c39 => ?_)
          · skip
            exact J48 (by have zz := mm_hdx tf2; omega)
          · skip
            refine mm_aload_n C (mm_dec dk_X7_readNot 20 rfl) rfl ?_
            refine mm_iconst C (mm_dec dk_X7_readNot 21 rfl) ⟨by decide, by decide⟩ ?_
            refine mm_cVi (rest := []) C1 ev_X7_65 (mm_dec dk_X7_readNot 22 rfl) (c_X7_refuse_q x.2.1 hl (d - 1) (by omega) h2_ i2_ 2) rfl rfl (Nat.le_of_ble_eq_true rfl) ⟨by decide, by decide⟩ rfl (fun r44 h44c hp44 => ?_) (fun _ _ q => q.elim)
            obtain ⟨b44, i44c, g44c, y44_0, y44_1⟩ := hp44
            have f44c : mm_fr [(63, 4), (63, 5), (63, 6), (63, 7), (63, 8), (63, 9), (63, 10)] [64] h h44c := mm_fr_tr f2_ g44c (by decide +kernel)
            have q44c_69 : h44c.1 63 3 = h2_.1 63 3 := g44c.1 63 3 (by decide)
            have q44c_70 : h44c.1 63 5 = h2_.1 63 5 := g44c.1 63 5 (by decide)
            have q44c_71 : h44c.1 63 6 = h2_.1 63 6 := g44c.1 63 6 (by decide)
            have q44c_72 : h44c.1 63 7 = h2_.1 63 7 := g44c.1 63 7 (by decide)
            have q44c_73 : h44c.1 63 8 = h2_.1 63 8 := g44c.1 63 8 (by decide)
            have g74 : -2147483648 ≤ (h44c.1 63 9) ∧ (h44c.1 63 9) ≤ 2147483647 := i44c.1 63 9
            have g75 : -2147483648 ≤ (h44c.1 63 10) ∧ (h44c.1 63 10) ≤ 2147483647 := i44c.1 63 10
            exact mm_zret C T (mm_dec dk_X7_readNot 23 rfl) (by decide : 0 ≤ 0) (by decide : 0 ≤ 0) (by omega) ⟨_, rfl, ⟨⟨by omega, by omega⟩, i44c, f44c, by first | exact Or.inl ⟨rfl, w60_0, w60_1⟩ | exact Or.inr ⟨rfl, mm_f7_not w2_0 w48_0 (mm_or0 y50_0 (by omega))⟩ | exact Or.inr ⟨by omega, mm_f7_nots (by rw [show (6 : Int) = x2_2 by omega]; exact w2_0) (by have zz := mm_hdx tf2; omega) y44_0 y44_1⟩⟩⟩
      refine mm_icmp_ge (tgt := 27) C (mm_dec dk_X7_readNot 4 rfl) (by decide) (fun c5 => ?_) (fun c5 => ?_)
      · skip
        exact J27 (by have zz := mm_hdx tf2; omega)
      · skip
        refine mm_aload_n C (mm_dec dk_X7_readNot 5 rfl) rfl ?_
        refine mm_geti C fl_X7_28 (mm_dec dk_X7_readNot 6 rfl) rfl rfl (Or.inl rfl) ?_
        refine mm_bipush C (mm_dec dk_X7_readNot 7 rfl) ⟨by decide, by decide⟩ ?_
        refine mm_icmp_ne (tgt := 27) C (mm_dec dk_X7_readNot 8 rfl) (by decide) (fun c14 => ?_) (fun c14 => ?_)
        · skip
          exact J27 (by have zz := mm_hdx tf2; omega)
        · skip
          refine mm_iincL (ls2 := [mR 63, mI p1, mI (x2_2 + 1), mU]) C (mm_dec dk_X7_readNot 9 rfl) rfl (by decide) ⟨by omega, by omega⟩ rfl ?_
          refine mm_aload_n C (mm_dec dk_X7_readNot 10 rfl) rfl ?_
          refine mm_cVv (rest := []) C1 ev_X7_52 (mm_dec dk_X7_readNot 11 rfl) (c_X7_step_q x.2.1 hl (d - 1) (by omega) h2_ i2_ ) rfl rfl (Nat.le_of_ble_eq_true rfl) ⟨by decide, by decide⟩ rfl (fun h21c hp21 => ?_) (fun _ _ q => q.elim)
          obtain ⟨i21c, g21c, y21_0, y21_1, y21_2⟩ := hp21
          have f21c : mm_fr [(63, 4), (63, 5), (63, 6), (63, 7), (63, 8), (63, 9), (63, 10)] [64] h h21c := mm_fr_tr f2_ g21c (by decide +kernel)
          have q21c_77 : h21c.1 63 3 = h2_.1 63 3 := g21c.1 63 3 (by decide)
          have q21c_78 : h21c.1 63 9 = h2_.1 63 9 := g21c.1 63 9 (by decide)
          have q21c_79 : h21c.1 63 10 = h2_.1 63 10 := g21c.1 63 10 (by decide)
          have g80 : -2147483648 ≤ (h21c.1 63 5) ∧ (h21c.1 63 5) ≤ 2147483647 := i21c.1 63 5
          have g81 : 0 ≤ (h21c.1 63 7) ∧ (h21c.1 63 7) ≤ 500 := i21c.1 63 7
          have g82 : 0 ≤ (h21c.1 63 8) ∧ (h21c.1 63 8) ≤ 500 := i21c.1 63 8
          have g83 : -2147483648 ≤ (h21c.1 63 6) ∧ (h21c.1 63 6) ≤ 2147483647 := i21c.1 63 6
          refine mm_goto (tgt := 2) C (mm_dec dk_X7_readNot 12 rfl) (by decide) ?_
          exact ih2 (x2_2 + 1) ⟨by omega, by omega⟩ h21c i21c f21c (by first | exact mm_n7_0 t0 | exact mm_n7_s w2_0 (by have zz := mm_hdx tf2; omega) (by omega) (mm_st7_of w2_0.1.2.1 y21_1 y21_2 g21c (by decide))) (by omega)
  refine mm_istore_nL (ls2 := [mR 63, mI p1, mI 0, mU]) C (mm_dec dk_X7_readNot 1 rfl) (by decide) rfl ?_
  exact J2 (((6 - 0) : Int) + 1).toNat 0 ⟨by omega, by omega⟩ h i0 f0 (by first | exact mm_n7_0 t0 | exact mm_n7_s w2_0 (by have zz := mm_hdx tf2; omega) (by omega) (mm_st7_of w2_0.1.2.1 y21_1 y21_2 g21c (by decide))) (by omega)
set_option maxRecDepth 100000 in
set_option maxHeartbeats 4000000 in
theorem c_X7_readAnd_q1 (l : Launch) (hl : l.stackTraces = false) (d : Nat) (hd : 39 ≤ d) (h : mH) (i0 : mm_inv h) (p1 : Int) (bp1 : 1 ≤ p1 ∧ p1 ≤ 1) (t0 : mm_aX h) : mm_Met l d yX7_readAnd cX7_readAnd 3 (some .boolean) [mR 63, mI p1] h (mm_pi fun r h2 => (0 ≤ r ∧ r ≤ 1) ∧ mm_inv h2 ∧ mm_fr [(63, 4), (63, 5), (63, 6), (63, 7), (63, 8), (63, 9), (63, 10)] [64] h h2 ∧ ((r = 1 ∧ mm_q7 0 1 h h2 ∧ mm_nC h2) ∨ (r = 0 ∧ mm_f7 0 1 h h2))) mm_nx 0 0 := by
  refine mm_ofW (ls := [mR 63, mI p1, mU]) hl (by decide) rfl (Nat.le_of_ble_eq_true rfl) ?_
  intro x hxl C T hnm htb
  subst hxl
  have C1 := mm_OK_le (d' := d - 1 + 1) (by omega) C
  have C8 := mm_OK_le (d' := d - 8 + 8) (by omega) C
  refine mm_rng (fun hr _ => ?_)
  have ap1 : -2147483648 ≤ p1 ∧ p1 < 2147483648 := mm_ok_at hr (i := 1) rfl
  have f0 : mm_fr [(63, 4), (63, 5), (63, 6), (63, 7), (63, 8), (63, 9), (63, 10)] [64] h h := mm_fr_rf
  have g1 : -2147483648 ≤ h.1 63 5 ∧ h.1 63 5 ≤ 2147483647 := i0.1 63 5
  have g2 : 0 ≤ h.1 63 7 ∧ h.1 63 7 ≤ 500 := i0.1 63 7
  have g3 : 0 ≤ h.1 63 8 ∧ h.1 63 8 ≤ 500 := i0.1 63 8
  have g4 : 0 ≤ h.1 63 3 ∧ h.1 63 3 ≤ 500 := i0.1 63 3
  have g5 : -2147483648 ≤ h.1 63 6 ∧ h.1 63 6 ≤ 2147483647 := i0.1 63 6
  have g6 : -2147483648 ≤ h.1 63 9 ∧ h.1 63 9 ≤ 2147483647 := i0.1 63 9
  have g7 : -2147483648 ≤ h.1 63 10 ∧ h.1 63 10 ≤ 2147483647 := i0.1 63 10
  refine mm_aload_n C (mm_dec dk_X7_readAnd 0 rfl) rfl ?_
  refine mm_iload_n C (mm_dec dk_X7_readAnd 1 rfl) rfl ?_
  refine mm_cVi (rest := []) C1 ev_X7_103 (mm_dec dk_X7_readAnd 2 rfl) (c_X7_readNot_q1 x.2.1 hl (d - 1) (by omega) h i0 p1 ⟨by omega, by omega⟩ (by exact t0)) rfl rfl (Nat.le_of_ble_eq_true rfl) ⟨by decide, by decide⟩ rfl (fun r2 h2c hp2 => ?_) (fun _ _ q => q.elim)
  obtain ⟨b2, i2c, g2c, y2_0⟩ := hp2
  have f2c : mm_fr [(63, 4), (63, 5), (63, 6), (63, 7), (63, 8), (63, 9), (63, 10)] [64] h h2c := mm_fr_tr f0 g2c (by decide +kernel)
  have q2c_9 : h2c.1 63 3 = h.1 63 3 := g2c.1 63 3 (by decide)
  have g10 : -2147483648 ≤ (h2c.1 63 5) ∧ (h2c.1 63 5) ≤ 2147483647 := i2c.1 63 5
  have g11 : 0 ≤ (h2c.1 63 7) ∧ (h2c.1 63 7) ≤ 500 := i2c.1 63 7
  have g12 : 0 ≤ (h2c.1 63 8) ∧ (h2c.1 63 8) ≤ 500 := i2c.1 63 8
  have g13 : -2147483648 ≤ (h2c.1 63 6) ∧ (h2c.1 63 6) ≤ 2147483647 := i2c.1 63 6
  have g14 : -2147483648 ≤ (h2c.1 63 9) ∧ (h2c.1 63 9) ≤ 2147483647 := i2c.1 63 9
  have g15 : -2147483648 ≤ (h2c.1 63 10) ∧ (h2c.1 63 10) ≤ 2147483647 := i2c.1 63 10
  refine mm_if_ne (tgt := 10) C (mm_dec dk_X7_readAnd 3 rfl) (by decide) (fun c5 => ?_) (fun c5 => ?_)
  · skip
    refine mm_iconst C (mm_dec dk_X7_readAnd 6 rfl) ⟨by decide, by decide⟩ ?_
    have J12 : ∀ (n : Nat) (x12_2 : Int) (bx12_2 : 0 ≤ x12_2 ∧ x12_2 ≤ 500) (h12_ : mH) (i12_ : mm_inv h12_) (f12_ : mm_fr [(63, 4), (63, 5), (63, 6), (63, 7), (63, 8), (63, 9), (63, 10)] [64] h h12_) (w12_0 : mm_q7 0 1 h h12_) (w12_1 : x12_2 ≤ h12_.1 63 7) (w12_2 : mm_nB h12_), (500 - x12_2 : Int) < n → mm_W x 0 0 12 [mR 63, mI p1, mI x12_2] [] h12_ := by
      intro n
      induction n with
      | zero =>
        intro x12_2 bx12_2 h12_ i12_ f12_ w12_0 w12_1 w12_2 hm
        have g16 : -2147483648 ≤ h12_.1 63 5 ∧ h12_.1 63 5 ≤ 2147483647 := i12_.1 63 5
        have g17 : 0 ≤ h12_.1 63 7 ∧ h12_.1 63 7 ≤ 500 := i12_.1 63 7
        have g18 : 0 ≤ h12_.1 63 8 ∧ h12_.1 63 8 ≤ 500 := i12_.1 63 8
        have g19 : 0 ≤ h12_.1 63 3 ∧ h12_.1 63 3 ≤ 500 := i12_.1 63 3
        have g20 : -2147483648 ≤ h12_.1 63 6 ∧ h12_.1 63 6 ≤ 2147483647 := i12_.1 63 6
        have g21 : -2147483648 ≤ h12_.1 63 9 ∧ h12_.1 63 9 ≤ 2147483647 := i12_.1 63 9
        have g22 : -2147483648 ≤ h12_.1 63 10 ∧ h12_.1 63 10 ≤ 2147483647 := i12_.1 63 10
        exfalso; omega
      | succ n ih12 =>
        intro x12_2 bx12_2 h12_ i12_ f12_ w12_0 w12_1 w12_2 hm12
        have g23 : -2147483648 ≤ h12_.1 63 5 ∧ h12_.1 63 5 ≤ 2147483647 := i12_.1 63 5
        have g24 : 0 ≤ h12_.1 63 7 ∧ h12_.1 63 7 ≤ 500 := i12_.1 63 7
        have g25 : 0 ≤ h12_.1 63 8 ∧ h12_.1 63 8 ≤ 500 := i12_.1 63 8
        have g26 : 0 ≤ h12_.1 63 3 ∧ h12_.1 63 3 ≤ 500 := i12_.1 63 3
        have g27 : -2147483648 ≤ h12_.1 63 6 ∧ h12_.1 63 6 ≤ 2147483647 := i12_.1 63 6
        have g28 : -2147483648 ≤ h12_.1 63 9 ∧ h12_.1 63 9 ≤ 2147483647 := i12_.1 63 9
        have g29 : -2147483648 ≤ h12_.1 63 10 ∧ h12_.1 63 10 ≤ 2147483647 := i12_.1 63 10
        have g30 : h12_.1 63 3 = h.1 63 3 := f12_.1 63 3 (by decide)
        have tf12 := mm_cX_h i12_ w12_0.1.2.1
        have tr12 := mm_cX_r i12_ w12_0.1.2.1
        refine mm_iload_n C (mm_dec dk_X7_readAnd 8 rfl) rfl ?_
        refine mm_sipush C (mm_dec dk_X7_readAnd 9 rfl) ⟨by decide, by decide⟩ ?_
        have J53 : ∀ (w53_0 : mm_nC h12_), mm_W x 0 0 53 [mU, mU, mU] [] h12_ := by
          intro w53_0
          have g31 : -2147483648 ≤ h12_.1 63 5 ∧ h12_.1 63 5 ≤ 2147483647 := i12_.1 63 5
          have g32 : 0 ≤ h12_.1 63 7 ∧ h12_.1 63 7 ≤ 500 := i12_.1 63 7
          have g33 : 0 ≤ h12_.1 63 8 ∧ h12_.1 63 8 ≤ 500 := i12_.1 63 8
          have g34 : 0 ≤ h12_.1 63 3 ∧ h12_.1 63 3 ≤ 500 := i12_.1 63 3
          have g35 : -2147483648 ≤ h12_.1 63 6 ∧ h12_.1 63 6 ≤ 2147483647 := i12_.1 63 6
          have g36 : -2147483648 ≤ h12_.1 63 9 ∧ h12_.1 63 9 ≤ 2147483647 := i12_.1 63 9
          have g37 : -2147483648 ≤ h12_.1 63 10 ∧ h12_.1 63 10 ≤ 2147483647 := i12_.1 63 10
          refine mm_iconst C (mm_dec dk_X7_readAnd 28 rfl) ⟨by decide, by decide⟩ ?_
          exact mm_zret C T (mm_dec dk_X7_readAnd 29 rfl) (by decide : 0 ≤ 0) (by decide : 0 ≤ 0) (by omega) ⟨_, rfl, ⟨⟨by omega, by omega⟩, i12_, f12_, by first | exact Or.inl ⟨rfl, w12_0, w53_0⟩ | exact Or.inr ⟨rfl, mm_or0 y2_0 (by omega)⟩ | exact Or.inr ⟨rfl, mm_f7_and w12_0 zc zs (mm_or0 y33_0 (by omega))⟩⟩⟩
        refine mm_icmp_ge (tgt := 53) C (mm_dec dk_X7_readAnd 10 rfl) (by decide) (fun c16 => ?_) (fun c16 => ?_)
        · skip
          refine mm_fgt 0 ?_
          refine mm_fgt 1 ?_
          refine mm_fgt 2 ?_
          exact J53 (by (have z := w12_2; unfold mm_nB at z; unfold mm_nC; have zz := mm_hdx tf12; omega))
        · skip
          refine mm_aload_n C (mm_dec dk_X7_readAnd 11 rfl) rfl ?_
          refine mm_geti C fl_X7_28 (mm_dec dk_X7_readAnd 12 rfl) rfl rfl (Or.inl rfl) ?_
          refine mm_iconst C (mm_dec dk_X7_readAnd 13 rfl) ⟨by decide, by decide⟩ ?_
          refine mm_icmp_ne (tgt := 53) C (mm_dec dk_X7_readAnd 14 rfl) (by decide) (fun c24 => ?_) (fun c24 => ?_)
          · skip
            refine mm_fgt 0 ?_
            refine mm_fgt 1 ?_
            refine mm_fgt 2 ?_
            exact J53 (by (have z := w12_2; unfold mm_nB at z; unfold mm_nC; have zz := mm_hdx tf12; omega))
          · skip
            refine mm_aload_n C (mm_dec dk_X7_readAnd 15 rfl) rfl ?_
            refine mm_cVv (rest := []) C1 ev_X7_52 (mm_dec dk_X7_readAnd 16 rfl) (c_X7_step_q x.2.1 hl (d - 1) (by omega) h12_ i12_ ) rfl rfl (Nat.le_of_ble_eq_true rfl) ⟨by decide, by decide⟩ rfl (fun h28c hp28 => ?_) (fun _ _ q => q.elim)
            obtain ⟨i28c, g28c, y28_0, y28_1, y28_2⟩ := hp28
            have f28c : mm_fr [(63, 4), (63, 5), (63, 6), (63, 7), (63, 8), (63, 9), (63, 10)] [64] h h28c := mm_fr_tr f12_ g28c (by decide +kernel)
            have q28c_39 : h28c.1 63 3 = h12_.1 63 3 := g28c.1 63 3 (by decide)
            have q28c_40 : h28c.1 63 9 = h12_.1 63 9 := g28c.1 63 9 (by decide)
            have q28c_41 : h28c.1 63 10 = h12_.1 63 10 := g28c.1 63 10 (by decide)
            have g42 : -2147483648 ≤ (h28c.1 63 5) ∧ (h28c.1 63 5) ≤ 2147483647 := i28c.1 63 5
            have g43 : 0 ≤ (h28c.1 63 7) ∧ (h28c.1 63 7) ≤ 500 := i28c.1 63 7
            have g44 : 0 ≤ (h28c.1 63 8) ∧ (h28c.1 63 8) ≤ 500 := i28c.1 63 8
            have g45 : -2147483648 ≤ (h28c.1 63 6) ∧ (h28c.1 63 6) ≤ 2147483647 := i28c.1 63 6
            have zs := mm_st7_of w12_0.1.2.1 y28_1 y28_2 g28c (by decide)
            have zc : mm_cX h12_ = 4 ∨ mm_cX h12_ = 5 := by have zz := mm_hdx tf12; omega
            have zl := mm_st7_lt zs (by omega)
            refine mm_aload_n C (mm_dec dk_X7_readAnd 17 rfl) rfl ?_
            refine mm_iload_n C (mm_dec dk_X7_readAnd 18 rfl) rfl ?_
            refine mm_cVi (rest := []) C1 ev_X7_103 (mm_dec dk_X7_readAnd 19 rfl) (c_X7_readNot_q1 x.2.1 hl (d - 1) (by omega) h28c i28c p1 ⟨by omega, by omega⟩ (by exact y28_1)) rfl rfl (Nat.le_of_ble_eq_true rfl) ⟨by decide, by decide⟩ rfl (fun r33 h33c hp33 => ?_) (fun _ _ q => q.elim)
            obtain ⟨b33, i33c, g33c, y33_0⟩ := hp33
            have f33c : mm_fr [(63, 4), (63, 5), (63, 6), (63, 7), (63, 8), (63, 9), (63, 10)] [64] h h33c := mm_fr_tr f28c g33c (by decide +kernel)
            have q33c_47 : h33c.1 63 3 = h28c.1 63 3 := g33c.1 63 3 (by decide)
            have g48 : -2147483648 ≤ (h33c.1 63 5) ∧ (h33c.1 63 5) ≤ 2147483647 := i33c.1 63 5
            have g49 : 0 ≤ (h33c.1 63 7) ∧ (h33c.1 63 7) ≤ 500 := i33c.1 63 7
            have g50 : 0 ≤ (h33c.1 63 8) ∧ (h33c.1 63 8) ≤ 500 := i33c.1 63 8
            have g51 : -2147483648 ≤ (h33c.1 63 6) ∧ (h33c.1 63 6) ≤ 2147483647 := i33c.1 63 6
            have g52 : -2147483648 ≤ (h33c.1 63 9) ∧ (h33c.1 63 9) ≤ 2147483647 := i33c.1 63 9
            have g53 : -2147483648 ≤ (h33c.1 63 10) ∧ (h33c.1 63 10) ≤ 2147483647 := i33c.1 63 10
            refine mm_if_ne (tgt := 41) C (mm_dec dk_X7_readAnd 20 rfl) (by decide) (fun c36 => ?_) (fun c36 => ?_)
            · skip
              refine mm_aload_n C (mm_dec dk_X7_readAnd 23 rfl) rfl ?_
              refine mm_ldc (z := 100012) C (mm_dec dk_X7_readAnd 24 rfl) kc_X7_106 (by decide) ?_
              refine mm_cVv (rest := []) C1 ev_X7_79 (mm_dec dk_X7_readAnd 25 rfl) (c_X7_emit x.2.1 hl (d - 1) (by omega) h33c i33c 100012) rfl rfl (Nat.le_of_ble_eq_true rfl) ⟨by decide, by decide⟩ rfl (fun h44c hp44 => ?_) (fun _ _ q => q.elim)
              obtain ⟨i44c, g44c⟩ := hp44
              have f44c : mm_fr [(63, 4), (63, 5), (63, 6), (63, 7), (63, 8), (63, 9), (63, 10)] [64] h h44c := mm_fr_tr f33c g44c (by decide +kernel)
              have q44c_55 : h44c.1 63 3 = h33c.1 63 3 := g44c.1 63 3 (by decide)
              have q44c_56 : h44c.1 63 5 = h33c.1 63 5 := g44c.1 63 5 (by decide)
              have q44c_57 : h44c.1 63 6 = h33c.1 63 6 := g44c.1 63 6 (by decide)
              have q44c_58 : h44c.1 63 7 = h33c.1 63 7 := g44c.1 63 7 (by decide)
              have q44c_59 : h44c.1 63 8 = h33c.1 63 8 := g44c.1 63 8 (by decide)
              have q44c_60 : h44c.1 63 9 = h33c.1 63 9 := g44c.1 63 9 (by decide)
              have q44c_61 : h44c.1 63 10 = h33c.1 63 10 := g44c.1 63 10 (by decide)
              have zt := g44c.1 63 7 (by decide)
              have zu := (mm_or1 y33_0 (by omega)).1.2.1
              refine mm_iincL (ls2 := [mR 63, mI p1, mI (x12_2 + 1)]) C (mm_dec dk_X7_readAnd 26 rfl) rfl (by decide) ⟨by omega, by omega⟩ rfl ?_
              refine mm_goto (tgt := 12) C (mm_dec dk_X7_readAnd 27 rfl) (by decide) ?_
              exact ih12 (x12_2 + 1) ⟨by omega, by omega⟩ h44c i44c f44c (by first | exact (mm_or1 y2_0 (by omega)).1 | exact mm_q7_em (mm_q7_and w12_0 zc zs (mm_or1 y33_0 (by omega)).1) (mm_em_fr g44c (by decide))) (by omega) (by first | exact (mm_or1 y2_0 (by omega)).2 | exact mm_nB_em (mm_or1 y33_0 (by omega)).2 (mm_em_fr g44c (by decide))) (by omega)
            · skip
              refine mm_iconst C (mm_dec dk_X7_readAnd 21 rfl) ⟨by decide, by decide⟩ ?_
              exact mm_zret C T (mm_dec dk_X7_readAnd 22 rfl) (by decide : 0 ≤ 0) (by decide : 0 ≤ 0) (by omega) ⟨_, rfl, ⟨⟨by omega, by omega⟩, i33c, f33c, by first | exact Or.inl ⟨rfl, w12_0, w53_0⟩ | exact Or.inr ⟨rfl, mm_or0 y2_0 (by omega)⟩ | exact Or.inr ⟨rfl, mm_f7_and w12_0 zc zs (mm_or0 y33_0 (by omega))⟩⟩⟩
    refine mm_istore_nL (ls2 := [mR 63, mI p1, mI 0]) C (mm_dec dk_X7_readAnd 7 rfl) (by decide) rfl ?_
    exact J12 (((500 - 0) : Int) + 1).toNat 0 ⟨by omega, by omega⟩ h2c i2c f2c (by first | exact (mm_or1 y2_0 (by omega)).1 | exact mm_q7_em (mm_q7_and w12_0 zc zs (mm_or1 y33_0 (by omega)).1) (mm_em_fr g44c (by decide))) (by omega) (by first | exact (mm_or1 y2_0 (by omega)).2 | exact mm_nB_em (mm_or1 y33_0 (by omega)).2 (mm_em_fr g44c (by decide))) (by omega)
  · skip
    refine mm_iconst C (mm_dec dk_X7_readAnd 4 rfl) ⟨by decide, by decide⟩ ?_
    exact mm_zret C T (mm_dec dk_X7_readAnd 5 rfl) (by decide : 0 ≤ 0) (by decide : 0 ≤ 0) (by omega) ⟨_, rfl, ⟨⟨by omega, by omega⟩, i2c, f2c, by first | exact Or.inl ⟨rfl, w12_0, w53_0⟩ | exact Or.inr ⟨rfl, mm_or0 y2_0 (by omega)⟩ | exact Or.inr ⟨rfl, mm_f7_and w12_0 zc zs (mm_or0 y33_0 (by omega))⟩⟩⟩
set_option maxRecDepth 100000 in
set_option maxHeartbeats 4000000 in
theorem c_X7_readOr_q1 (l : Launch) (hl : l.stackTraces = false) (d : Nat) (hd : 40 ≤ d) (h : mH) (i0 : mm_inv h) (p1 : Int) (bp1 : 1 ≤ p1 ∧ p1 ≤ 1) (t0 : mm_aX h) : mm_Met l d yX7_readOr cX7_readOr 3 (some .boolean) [mR 63, mI p1] h (mm_pi fun r h2 => (0 ≤ r ∧ r ≤ 1) ∧ mm_inv h2 ∧ mm_fr [(63, 4), (63, 5), (63, 6), (63, 7), (63, 8), (63, 9), (63, 10)] [64] h h2 ∧ ((r = 1 ∧ mm_q7 0 1 h h2 ∧ mm_nD h2) ∨ (r = 0 ∧ mm_f7 0 1 h h2))) mm_nx 0 0 := by
  refine mm_ofW (ls := [mR 63, mI p1, mU]) hl (by decide) rfl (Nat.le_of_ble_eq_true rfl) ?_
  intro x hxl C T hnm htb
  subst hxl
  have C1 := mm_OK_le (d' := d - 1 + 1) (by omega) C
  have C8 := mm_OK_le (d' := d - 8 + 8) (by omega) C
  refine mm_rng (fun hr _ => ?_)
  have ap1 : -2147483648 ≤ p1 ∧ p1 < 2147483648 := mm_ok_at hr (i := 1) rfl
  have f0 : mm_fr [(63, 4), (63, 5), (63, 6), (63, 7), (63, 8), (63, 9), (63, 10)] [64] h h := mm_fr_rf
  have g1 : -2147483648 ≤ h.1 63 5 ∧ h.1 63 5 ≤ 2147483647 := i0.1 63 5
  have g2 : 0 ≤ h.1 63 7 ∧ h.1 63 7 ≤ 500 := i0.1 63 7
  have g3 : 0 ≤ h.1 63 8 ∧ h.1 63 8 ≤ 500 := i0.1 63 8
  have g4 : 0 ≤ h.1 63 3 ∧ h.1 63 3 ≤ 500 := i0.1 63 3
  have g5 : -2147483648 ≤ h.1 63 6 ∧ h.1 63 6 ≤ 2147483647 := i0.1 63 6
  have g6 : -2147483648 ≤ h.1 63 9 ∧ h.1 63 9 ≤ 2147483647 := i0.1 63 9
  have g7 : -2147483648 ≤ h.1 63 10 ∧ h.1 63 10 ≤ 2147483647 := i0.1 63 10
  refine mm_iload_n C (mm_dec dk_X7_readOr 0 rfl) rfl ?_
  refine mm_bipush C (mm_dec dk_X7_readOr 1 rfl) ⟨by decide, by decide⟩ ?_
  refine mm_icmp_lt (tgt := 41) C (mm_dec dk_X7_readOr 2 rfl) (by decide) (fun c3 => ?_) (fun c3 => ?_)
  · skip
    refine mm_aload_n C (mm_dec dk_X7_readOr 21 rfl) rfl ?_
    refine mm_iload_n C (mm_dec dk_X7_readOr 22 rfl) rfl ?_
    refine mm_cVi (rest := []) C1 ev_X7_99 (mm_dec dk_X7_readOr 23 rfl) (c_X7_readAnd_q1 x.2.1 hl (d - 1) (by omega) h i0 p1 ⟨by omega, by omega⟩ (by exact t0)) rfl rfl (Nat.le_of_ble_eq_true rfl) ⟨by decide, by decide⟩ rfl (fun r43 h43c hp43 => ?_) (fun _ _ q => q.elim)
    obtain ⟨b43, i43c, g43c, y43_0⟩ := hp43
    have f43c : mm_fr [(63, 4), (63, 5), (63, 6), (63, 7), (63, 8), (63, 9), (63, 10)] [64] h h43c := mm_fr_tr f0 g43c (by decide +kernel)
    have q43c_9 : h43c.1 63 3 = h.1 63 3 := g43c.1 63 3 (by decide)
    have g10 : -2147483648 ≤ (h43c.1 63 5) ∧ (h43c.1 63 5) ≤ 2147483647 := i43c.1 63 5
    have g11 : 0 ≤ (h43c.1 63 7) ∧ (h43c.1 63 7) ≤ 500 := i43c.1 63 7
    have g12 : 0 ≤ (h43c.1 63 8) ∧ (h43c.1 63 8) ≤ 500 := i43c.1 63 8
    have g13 : -2147483648 ≤ (h43c.1 63 6) ∧ (h43c.1 63 6) ≤ 2147483647 := i43c.1 63 6
    have g14 : -2147483648 ≤ (h43c.1 63 9) ∧ (h43c.1 63 9) ≤ 2147483647 := i43c.1 63 9
    have g15 : -2147483648 ≤ (h43c.1 63 10) ∧ (h43c.1 63 10) ≤ 2147483647 := i43c.1 63 10
    refine mm_if_ne (tgt := 51) C (mm_dec dk_X7_readOr 24 rfl) (by decide) (fun c46 => ?_) (fun c46 => ?_)
    · skip
      refine mm_iconst C (mm_dec dk_X7_readOr 27 rfl) ⟨by decide, by decide⟩ ?_
      have J53 : ∀ (n : Nat) (x53_2 : Int) (bx53_2 : 0 ≤ x53_2 ∧ x53_2 ≤ 500) (h53_ : mH) (i53_ : mm_inv h53_) (f53_ : mm_fr [(63, 4), (63, 5), (63, 6), (63, 7), (63, 8), (63, 9), (63, 10)] [64] h h53_) (w53_0 : mm_q7 0 1 h h53_) (w53_1 : x53_2 ≤ h53_.1 63 7) (w53_2 : mm_nC h53_), (500 - x53_2 : Int) < n → mm_W x 0 0 53 [mR 63, mI p1, mI x53_2] [] h53_ := by
        intro n
        induction n with
        | zero =>
          intro x53_2 bx53_2 h53_ i53_ f53_ w53_0 w53_1 w53_2 hm
          have g16 : -2147483648 ≤ h53_.1 63 5 ∧ h53_.1 63 5 ≤ 2147483647 := i53_.1 63 5
          have g17 : 0 ≤ h53_.1 63 7 ∧ h53_.1 63 7 ≤ 500 := i53_.1 63 7
          have g18 : 0 ≤ h53_.1 63 8 ∧ h53_.1 63 8 ≤ 500 := i53_.1 63 8
          have g19 : 0 ≤ h53_.1 63 3 ∧ h53_.1 63 3 ≤ 500 := i53_.1 63 3
          have g20 : -2147483648 ≤ h53_.1 63 6 ∧ h53_.1 63 6 ≤ 2147483647 := i53_.1 63 6
          have g21 : -2147483648 ≤ h53_.1 63 9 ∧ h53_.1 63 9 ≤ 2147483647 := i53_.1 63 9
          have g22 : -2147483648 ≤ h53_.1 63 10 ∧ h53_.1 63 10 ≤ 2147483647 := i53_.1 63 10
          exfalso; omega
        | succ n ih53 =>
          intro x53_2 bx53_2 h53_ i53_ f53_ w53_0 w53_1 w53_2 hm53
          have g23 : -2147483648 ≤ h53_.1 63 5 ∧ h53_.1 63 5 ≤ 2147483647 := i53_.1 63 5
          have g24 : 0 ≤ h53_.1 63 7 ∧ h53_.1 63 7 ≤ 500 := i53_.1 63 7
          have g25 : 0 ≤ h53_.1 63 8 ∧ h53_.1 63 8 ≤ 500 := i53_.1 63 8
          have g26 : 0 ≤ h53_.1 63 3 ∧ h53_.1 63 3 ≤ 500 := i53_.1 63 3
          have g27 : -2147483648 ≤ h53_.1 63 6 ∧ h53_.1 63 6 ≤ 2147483647 := i53_.1 63 6
          have g28 : -2147483648 ≤ h53_.1 63 9 ∧ h53_.1 63 9 ≤ 2147483647 := i53_.1 63 9
          have g29 : -2147483648 ≤ h53_.1 63 10 ∧ h53_.1 63 10 ≤ 2147483647 := i53_.1 63 10
          have g30 : h53_.1 63 3 = h.1 63 3 := f53_.1 63 3 (by decide)
          have tf12 := mm_cX_h i53_ w53_0.1.2.1
          have tr12 := mm_cX_r i53_ w53_0.1.2.1
          refine mm_iload_n C (mm_dec dk_X7_readOr 29 rfl) rfl ?_
          refine mm_sipush C (mm_dec dk_X7_readOr 30 rfl) ⟨by decide, by decide⟩ ?_
          have J94 : ∀ (w94_0 : mm_nD h53_), mm_W x 0 0 94 [mU, mU, mU] [] h53_ := by
            intro w94_0
            have g31 : -2147483648 ≤ h53_.1 63 5 ∧ h53_.1 63 5 ≤ 2147483647 := i53_.1 63 5
            have g32 : 0 ≤ h53_.1 63 7 ∧ h53_.1 63 7 ≤ 500 := i53_.1 63 7
            have g33 : 0 ≤ h53_.1 63 8 ∧ h53_.1 63 8 ≤ 500 := i53_.1 63 8
            have g34 : 0 ≤ h53_.1 63 3 ∧ h53_.1 63 3 ≤ 500 := i53_.1 63 3
            have g35 : -2147483648 ≤ h53_.1 63 6 ∧ h53_.1 63 6 ≤ 2147483647 := i53_.1 63 6
            have g36 : -2147483648 ≤ h53_.1 63 9 ∧ h53_.1 63 9 ≤ 2147483647 := i53_.1 63 9
            have g37 : -2147483648 ≤ h53_.1 63 10 ∧ h53_.1 63 10 ≤ 2147483647 := i53_.1 63 10
            refine mm_iconst C (mm_dec dk_X7_readOr 49 rfl) ⟨by decide, by decide⟩ ?_
            exact mm_zret C T (mm_dec dk_X7_readOr 50 rfl) (by decide : 0 ≤ 0) (by decide : 0 ≤ 0) (by omega) ⟨_, rfl, ⟨⟨by omega, by omega⟩, i53_, f53_, by first | exact Or.inl ⟨rfl, w53_0, w94_0⟩ | exact Or.inr ⟨rfl, mm_or0 y43_0 (by omega)⟩ | exact Or.inr ⟨rfl, mm_f7_and w53_0 zc zs (mm_or0 y74_0 (by omega))⟩⟩⟩
          refine mm_icmp_ge (tgt := 94) C (mm_dec dk_X7_readOr 31 rfl) (by decide) (fun c57 => ?_) (fun c57 => ?_)
          · skip
            refine mm_fgt 0 ?_
            refine mm_fgt 1 ?_
            refine mm_fgt 2 ?_
            exact J94 (by (have z := w53_2; unfold mm_nC at z; unfold mm_nD; have zz := mm_hdx tf12; omega))
          · skip
            refine mm_aload_n C (mm_dec dk_X7_readOr 32 rfl) rfl ?_
            refine mm_geti C fl_X7_28 (mm_dec dk_X7_readOr 33 rfl) rfl rfl (Or.inl rfl) ?_
            refine mm_iconst C (mm_dec dk_X7_readOr 34 rfl) ⟨by decide, by decide⟩ ?_
            refine mm_icmp_ne (tgt := 94) C (mm_dec dk_X7_readOr 35 rfl) (by decide) (fun c65 => ?_) (fun c65 => ?_)
            · skip
              refine mm_fgt 0 ?_
              refine mm_fgt 1 ?_
              refine mm_fgt 2 ?_
              exact J94 (by (have z := w53_2; unfold mm_nC at z; unfold mm_nD; have zz := mm_hdx tf12; omega))
            · skip
              refine mm_aload_n C (mm_dec dk_X7_readOr 36 rfl) rfl ?_
              refine mm_cVv (rest := []) C1 ev_X7_52 (mm_dec dk_X7_readOr 37 rfl) (c_X7_step_q x.2.1 hl (d - 1) (by omega) h53_ i53_ ) rfl rfl (Nat.le_of_ble_eq_true rfl) ⟨by decide, by decide⟩ rfl (fun h69c hp69 => ?_) (fun _ _ q => q.elim)
              obtain ⟨i69c, g69c, y69_0, y69_1, y69_2⟩ := hp69
              have f69c : mm_fr [(63, 4), (63, 5), (63, 6), (63, 7), (63, 8), (63, 9), (63, 10)] [64] h h69c := mm_fr_tr f53_ g69c (by decide +kernel)
              have q69c_39 : h69c.1 63 3 = h53_.1 63 3 := g69c.1 63 3 (by decide)
              have q69c_40 : h69c.1 63 9 = h53_.1 63 9 := g69c.1 63 9 (by decide)
              have q69c_41 : h69c.1 63 10 = h53_.1 63 10 := g69c.1 63 10 (by decide)
              have g42 : -2147483648 ≤ (h69c.1 63 5) ∧ (h69c.1 63 5) ≤ 2147483647 := i69c.1 63 5
              have g43 : 0 ≤ (h69c.1 63 7) ∧ (h69c.1 63 7) ≤ 500 := i69c.1 63 7
              have g44 : 0 ≤ (h69c.1 63 8) ∧ (h69c.1 63 8) ≤ 500 := i69c.1 63 8
              have g45 : -2147483648 ≤ (h69c.1 63 6) ∧ (h69c.1 63 6) ≤ 2147483647 := i69c.1 63 6
              have zs := mm_st7_of w53_0.1.2.1 y69_1 y69_2 g69c (by decide)
              have zc : mm_cX h53_ = 4 ∨ mm_cX h53_ = 5 := by have zz := mm_hdx tf12; omega
              have zl := mm_st7_lt zs (by omega)
              refine mm_aload_n C (mm_dec dk_X7_readOr 38 rfl) rfl ?_
              refine mm_iload_n C (mm_dec dk_X7_readOr 39 rfl) rfl ?_
              refine mm_cVi (rest := []) C1 ev_X7_99 (mm_dec dk_X7_readOr 40 rfl) (c_X7_readAnd_q1 x.2.1 hl (d - 1) (by omega) h69c i69c p1 ⟨by omega, by omega⟩ (by exact y69_1)) rfl rfl (Nat.le_of_ble_eq_true rfl) ⟨by decide, by decide⟩ rfl (fun r74 h74c hp74 => ?_) (fun _ _ q => q.elim)
              obtain ⟨b74, i74c, g74c, y74_0⟩ := hp74
              have f74c : mm_fr [(63, 4), (63, 5), (63, 6), (63, 7), (63, 8), (63, 9), (63, 10)] [64] h h74c := mm_fr_tr f69c g74c (by decide +kernel)
              have q74c_47 : h74c.1 63 3 = h69c.1 63 3 := g74c.1 63 3 (by decide)
              have g48 : -2147483648 ≤ (h74c.1 63 5) ∧ (h74c.1 63 5) ≤ 2147483647 := i74c.1 63 5
              have g49 : 0 ≤ (h74c.1 63 7) ∧ (h74c.1 63 7) ≤ 500 := i74c.1 63 7
              have g50 : 0 ≤ (h74c.1 63 8) ∧ (h74c.1 63 8) ≤ 500 := i74c.1 63 8
              have g51 : -2147483648 ≤ (h74c.1 63 6) ∧ (h74c.1 63 6) ≤ 2147483647 := i74c.1 63 6
              have g52 : -2147483648 ≤ (h74c.1 63 9) ∧ (h74c.1 63 9) ≤ 2147483647 := i74c.1 63 9
              have g53 : -2147483648 ≤ (h74c.1 63 10) ∧ (h74c.1 63 10) ≤ 2147483647 := i74c.1 63 10
              refine mm_if_ne (tgt := 82) C (mm_dec dk_X7_readOr 41 rfl) (by decide) (fun c77 => ?_) (fun c77 => ?_)
              · skip
                refine mm_aload_n C (mm_dec dk_X7_readOr 44 rfl) rfl ?_
                refine mm_ldc (z := 100011) C (mm_dec dk_X7_readOr 45 rfl) kc_X7_102 (by decide) ?_
                refine mm_cVv (rest := []) C1 ev_X7_79 (mm_dec dk_X7_readOr 46 rfl) (c_X7_emit x.2.1 hl (d - 1) (by omega) h74c i74c 100011) rfl rfl (Nat.le_of_ble_eq_true rfl) ⟨by decide, by decide⟩ rfl (fun h85c hp85 => ?_) (fun _ _ q => q.elim)
                obtain ⟨i85c, g85c⟩ := hp85
                have f85c : mm_fr [(63, 4), (63, 5), (63, 6), (63, 7), (63, 8), (63, 9), (63, 10)] [64] h h85c := mm_fr_tr f74c g85c (by decide +kernel)
                have q85c_55 : h85c.1 63 3 = h74c.1 63 3 := g85c.1 63 3 (by decide)
                have q85c_56 : h85c.1 63 5 = h74c.1 63 5 := g85c.1 63 5 (by decide)
                have q85c_57 : h85c.1 63 6 = h74c.1 63 6 := g85c.1 63 6 (by decide)
                have q85c_58 : h85c.1 63 7 = h74c.1 63 7 := g85c.1 63 7 (by decide)
                have q85c_59 : h85c.1 63 8 = h74c.1 63 8 := g85c.1 63 8 (by decide)
                have q85c_60 : h85c.1 63 9 = h74c.1 63 9 := g85c.1 63 9 (by decide)
                have q85c_61 : h85c.1 63 10 = h74c.1 63 10 := g85c.1 63 10 (by decide)
                have zt := g85c.1 63 7 (by decide)
                have zu := (mm_or1 y74_0 (by omega)).1.2.1
                refine mm_iincL (ls2 := [mR 63, mI p1, mI (x53_2 + 1)]) C (mm_dec dk_X7_readOr 47 rfl) rfl (by decide) ⟨by omega, by omega⟩ rfl ?_
                refine mm_goto (tgt := 53) C (mm_dec dk_X7_readOr 48 rfl) (by decide) ?_
                exact ih53 (x53_2 + 1) ⟨by omega, by omega⟩ h85c i85c f85c (by first | exact (mm_or1 y43_0 (by omega)).1 | exact mm_q7_em (mm_q7_and w53_0 zc zs (mm_or1 y74_0 (by omega)).1) (mm_em_fr g85c (by decide))) (by omega) (by first | exact (mm_or1 y43_0 (by omega)).2 | exact mm_nC_em (mm_or1 y74_0 (by omega)).2 (mm_em_fr g85c (by decide))) (by omega)
              · skip
                refine mm_iconst C (mm_dec dk_X7_readOr 42 rfl) ⟨by decide, by decide⟩ ?_
                exact mm_zret C T (mm_dec dk_X7_readOr 43 rfl) (by decide : 0 ≤ 0) (by decide : 0 ≤ 0) (by omega) ⟨_, rfl, ⟨⟨by omega, by omega⟩, i74c, f74c, by first | exact Or.inl ⟨rfl, w53_0, w94_0⟩ | exact Or.inr ⟨rfl, mm_or0 y43_0 (by omega)⟩ | exact Or.inr ⟨rfl, mm_f7_and w53_0 zc zs (mm_or0 y74_0 (by omega))⟩⟩⟩
      refine mm_istore_nL (ls2 := [mR 63, mI p1, mI 0]) C (mm_dec dk_X7_readOr 28 rfl) (by decide) rfl ?_
      exact J53 (((500 - 0) : Int) + 1).toNat 0 ⟨by omega, by omega⟩ h43c i43c f43c (by first | exact (mm_or1 y43_0 (by omega)).1 | exact mm_q7_em (mm_q7_and w53_0 zc zs (mm_or1 y74_0 (by omega)).1) (mm_em_fr g85c (by decide))) (by omega) (by first | exact (mm_or1 y43_0 (by omega)).2 | exact mm_nC_em (mm_or1 y74_0 (by omega)).2 (mm_em_fr g85c (by decide))) (by omega)
    · skip
      refine mm_iconst C (mm_dec dk_X7_readOr 25 rfl) ⟨by decide, by decide⟩ ?_
      exact mm_zret C T (mm_dec dk_X7_readOr 26 rfl) (by decide : 0 ≤ 0) (by decide : 0 ≤ 0) (by omega) ⟨_, rfl, ⟨⟨by omega, by omega⟩, i43c, f43c, by first | exact Or.inl ⟨rfl, w53_0, w94_0⟩ | exact Or.inr ⟨rfl, mm_or0 y43_0 (by omega)⟩ | exact Or.inr ⟨rfl, mm_f7_and w53_0 zc zs (mm_or0 y74_0 (by omega))⟩⟩⟩
  · skip
    exfalso; omega
set_option maxRecDepth 100000 in
set_option maxHeartbeats 4000000 in
theorem c_X7_readPart_q0 (l : Launch) (hl : l.stackTraces = false) (d : Nat) (hd : 41 ≤ d) (h : mH) (i0 : mm_inv h) (p1 : Int) (bp1 : 0 ≤ p1 ∧ p1 ≤ 0) (t0 : mm_aX h) : mm_Met l d yX7_readPart cX7_readPart 2 (some .boolean) [mR 63, mI p1] h (mm_pi fun r h2 => (0 ≤ r ∧ r ≤ 1) ∧ mm_inv h2 ∧ mm_fr [(63, 4), (63, 5), (63, 6), (63, 7), (63, 8), (63, 9), (63, 10)] [64] h h2 ∧ ((r = 1 ∧ mm_p7 0 h h2) ∨ (r = 0 ∧ mm_g7 0 h h2))) mm_nx 0 0 := by
  refine mm_ofW (ls := [mR 63, mI p1]) hl (by decide) rfl (Nat.le_of_ble_eq_true rfl) ?_
  intro x hxl C T hnm htb
  subst hxl
  have C1 := mm_OK_le (d' := d - 1 + 1) (by omega) C
  have C8 := mm_OK_le (d' := d - 8 + 8) (by omega) C
  refine mm_rng (fun hr _ => ?_)
  have ap1 : -2147483648 ≤ p1 ∧ p1 < 2147483648 := mm_ok_at hr (i := 1) rfl
  have f0 : mm_fr [(63, 4), (63, 5), (63, 6), (63, 7), (63, 8), (63, 9), (63, 10)] [64] h h := mm_fr_rf
  have g1 : -2147483648 ≤ h.1 63 5 ∧ h.1 63 5 ≤ 2147483647 := i0.1 63 5
  have g2 : 0 ≤ h.1 63 7 ∧ h.1 63 7 ≤ 500 := i0.1 63 7
  have g3 : 0 ≤ h.1 63 8 ∧ h.1 63 8 ≤ 500 := i0.1 63 8
  have g4 : 0 ≤ h.1 63 3 ∧ h.1 63 3 ≤ 500 := i0.1 63 3
  have g5 : -2147483648 ≤ h.1 63 6 ∧ h.1 63 6 ≤ 2147483647 := i0.1 63 6
  have g6 : -2147483648 ≤ h.1 63 9 ∧ h.1 63 9 ≤ 2147483647 := i0.1 63 9
  have g7 : -2147483648 ≤ h.1 63 10 ∧ h.1 63 10 ≤ 2147483647 := i0.1 63 10
  have tf := mm_cX_h i0 t0
  have tr := mm_cX_r i0 t0
  refine mm_aload_n C (mm_dec dk_X7_readPart 0 rfl) rfl ?_
  refine mm_bipush C (mm_dec dk_X7_readPart 1 rfl) ⟨by decide, by decide⟩ ?_
  refine mm_cVi (rest := []) C1 ev_X7_96 (mm_dec dk_X7_readPart 2 rfl) (c_X7_isSign x.2.1 hl (d - 1) (by omega) h i0 40 (by omega)) rfl rfl (Nat.le_of_ble_eq_true rfl) ⟨by decide, by decide⟩ rfl (fun r3 h3c hp3 => ?_) (fun _ _ q => q.elim)
  obtain ⟨z3, y3⟩ := hp3
  rw [z3]
  have g9 : -2147483648 ≤ (h.2.1 62 (h.1 63 7)) ∧ (h.2.1 62 (h.1 63 7)) ≤ 2147483647 := i0.2.1 62 (h.1 63 7)
  refine mm_if_eq (tgt := 38) C (mm_dec dk_X7_readPart 3 rfl) (by decide) (fun c6 => ?_) (fun c6 => ?_)
  · skip
    refine mm_aload_n C (mm_dec dk_X7_readPart 20 rfl) rfl ?_
    refine mm_geti C fl_X7_25 (mm_dec dk_X7_readPart 21 rfl) rfl rfl (Or.inl rfl) ?_
    refine mm_iconst C (mm_dec dk_X7_readPart 22 rfl) ⟨by decide, by decide⟩ ?_
    have J117 : ∀ (h117_ : mH) (i117_ : mm_inv h117_) (f117_ : mm_fr [(63, 4), (63, 5), (63, 6), (63, 7), (63, 8), (63, 9), (63, 10)] [64] h h117_) (w117_0 : mm_em h h117_) (w117_1 : (mm_cX h = 18 ∨ (7 ≤ mm_cX h ∧ mm_cX h ≤ 16))), mm_W x 0 0 117 [mR 63, mU] [] h117_ := by
      intro h117_ i117_ f117_ w117_0 w117_1
      have g10 : -2147483648 ≤ h117_.1 63 5 ∧ h117_.1 63 5 ≤ 2147483647 := i117_.1 63 5
      have g11 : 0 ≤ h117_.1 63 7 ∧ h117_.1 63 7 ≤ 500 := i117_.1 63 7
      have g12 : 0 ≤ h117_.1 63 8 ∧ h117_.1 63 8 ≤ 500 := i117_.1 63 8
      have g13 : 0 ≤ h117_.1 63 3 ∧ h117_.1 63 3 ≤ 500 := i117_.1 63 3
      have g14 : -2147483648 ≤ h117_.1 63 6 ∧ h117_.1 63 6 ≤ 2147483647 := i117_.1 63 6
      have g15 : -2147483648 ≤ h117_.1 63 9 ∧ h117_.1 63 9 ≤ 2147483647 := i117_.1 63 9
      have g16 : -2147483648 ≤ h117_.1 63 10 ∧ h117_.1 63 10 ≤ 2147483647 := i117_.1 63 10
      have g17 : h117_.1 63 3 = h.1 63 3 := f117_.1 63 3 (by decide)
      refine mm_aload_n C (mm_dec dk_X7_readPart 61 rfl) rfl ?_
      refine mm_cVv (rest := []) C1 ev_X7_52 (mm_dec dk_X7_readPart 62 rfl) (c_X7_step_q x.2.1 hl (d - 1) (by omega) h117_ i117_ ) rfl rfl (Nat.le_of_ble_eq_true rfl) ⟨by decide, by decide⟩ rfl (fun h118c hp118 => ?_) (fun _ _ q => q.elim)
      obtain ⟨i118c, g118c, y118_0, y118_1, y118_2⟩ := hp118
      have f118c : mm_fr [(63, 4), (63, 5), (63, 6), (63, 7), (63, 8), (63, 9), (63, 10)] [64] h h118c := mm_fr_tr f117_ g118c (by decide +kernel)
      have q118c_19 : h118c.1 63 3 = h117_.1 63 3 := g118c.1 63 3 (by decide)
      have q118c_20 : h118c.1 63 9 = h117_.1 63 9 := g118c.1 63 9 (by decide)
      have q118c_21 : h118c.1 63 10 = h117_.1 63 10 := g118c.1 63 10 (by decide)
      have g22 : -2147483648 ≤ (h118c.1 63 5) ∧ (h118c.1 63 5) ≤ 2147483647 := i118c.1 63 5
      have g23 : 0 ≤ (h118c.1 63 7) ∧ (h118c.1 63 7) ≤ 500 := i118c.1 63 7
      have g24 : 0 ≤ (h118c.1 63 8) ∧ (h118c.1 63 8) ≤ 500 := i118c.1 63 8
      have g25 : -2147483648 ≤ (h118c.1 63 6) ∧ (h118c.1 63 6) ≤ 2147483647 := i118c.1 63 6
      refine mm_iconst C (mm_dec dk_X7_readPart 63 rfl) ⟨by decide, by decide⟩ ?_
      exact mm_zret C T (mm_dec dk_X7_readPart 64 rfl) (by decide : 0 ≤ 0) (by decide : 0 ≤ 0) (by omega) ⟨_, rfl, ⟨⟨by omega, by omega⟩, i118c, f118c, by first | exact w37_0 | exact Or.inr ⟨by omega, mm_g7_bad (by have zz := mm_hdx tf; have zy := y57_0; omega) y57_1⟩ | (have z := mm_or0 y101_0 (by omega); exact Or.inr ⟨rfl, mm_g7_bad (by have := z.1; have zz := mm_hdx tf; omega) z.2⟩) | exact Or.inl ⟨rfl, mm_p7_part w117_1 w117_0 (mm_st7_of (mm_em_a w117_0 t0) y118_1 y118_2 g118c (by decide))⟩⟩⟩
    refine mm_icmp_ne (tgt := 100) C (mm_dec dk_X7_readPart 23 rfl) (by decide) (fun c43 => ?_) (fun c43 => ?_)
    · skip
      refine mm_aload_n C (mm_dec dk_X7_readPart 52 rfl) rfl ?_
      refine mm_cVi (rest := []) C1 ev_X7_89 (mm_dec dk_X7_readPart 53 rfl) (c_X7_isNumber_q x.2.1 hl (d - 1) (by omega) h i0 ) rfl rfl (Nat.le_of_ble_eq_true rfl) ⟨by decide, by decide⟩ rfl (fun r101 h101c hp101 => ?_) (fun _ _ q => q.elim)
      obtain ⟨b101, i101c, g101c, y101_0⟩ := hp101
      have f101c : mm_fr [(63, 4), (63, 5), (63, 6), (63, 7), (63, 8), (63, 9), (63, 10)] [64] h h101c := mm_fr_tr f0 g101c (by decide +kernel)
      have q101c_27 : h101c.1 63 3 = h.1 63 3 := g101c.1 63 3 (by decide)
      have q101c_28 : h101c.1 63 5 = h.1 63 5 := g101c.1 63 5 (by decide)
      have q101c_29 : h101c.1 63 6 = h.1 63 6 := g101c.1 63 6 (by decide)
      have q101c_30 : h101c.1 63 7 = h.1 63 7 := g101c.1 63 7 (by decide)
      have q101c_31 : h101c.1 63 8 = h.1 63 8 := g101c.1 63 8 (by decide)
      have g32 : -2147483648 ≤ (h101c.1 63 9) ∧ (h101c.1 63 9) ≤ 2147483647 := i101c.1 63 9
      have g33 : -2147483648 ≤ (h101c.1 63 10) ∧ (h101c.1 63 10) ≤ 2147483647 := i101c.1 63 10
      refine mm_if_ne (tgt := 109) C (mm_dec dk_X7_readPart 54 rfl) (by decide) (fun c104 => ?_) (fun c104 => ?_)
      · skip
        refine mm_aload_n C (mm_dec dk_X7_readPart 57 rfl) rfl ?_
        refine mm_aload_n C (mm_dec dk_X7_readPart 58 rfl) rfl ?_
        refine mm_cVi (rest := [mR 63]) C1 ev_X7_92 (mm_dec dk_X7_readPart 59 rfl) (c_X7_numberOfToken_q x.2.1 hl (d - 1) (by omega) h101c i101c (by first | exact mm_em_a (mm_or1 y101_0 (by omega)).2.2 t0 | (have z := (mm_or1 y101_0 (by omega)).2.2; have z5 := z.2.1; have z7 := z.2.2.2.1; have z8 := z.2.2.2.2.1; omega)) (by first | exact mm_em_a (mm_or1 y101_0 (by omega)).2.2 t0 | (have z := (mm_or1 y101_0 (by omega)).2.2; have z5 := z.2.1; have z7 := z.2.2.2.1; have z8 := z.2.2.2.2.1; omega)) (by first | exact mm_em_a (mm_or1 y101_0 (by omega)).2.2 t0 | (have z := (mm_or1 y101_0 (by omega)).2.2; have z5 := z.2.1; have z7 := z.2.2.2.1; have z8 := z.2.2.2.2.1; omega))) rfl rfl (Nat.le_of_ble_eq_true rfl) ⟨by decide, by decide⟩ rfl (fun r111 h111c hp111 => ?_) (fun _ _ q => q.elim)
        obtain ⟨b111, z111, y111_0⟩ := hp111
        rw [z111]
        refine mm_cVv (rest := []) C1 ev_X7_79 (mm_dec dk_X7_readPart 60 rfl) (c_X7_emit x.2.1 hl (d - 1) (by omega) h101c i101c r111) rfl rfl (Nat.le_of_ble_eq_true rfl) ⟨by decide, by decide⟩ rfl (fun h114c hp114 => ?_) (fun _ _ q => q.elim)
        obtain ⟨i114c, g114c⟩ := hp114
        have f114c : mm_fr [(63, 4), (63, 5), (63, 6), (63, 7), (63, 8), (63, 9), (63, 10)] [64] h h114c := mm_fr_tr f101c g114c (by decide +kernel)
        have q114c_36 : h114c.1 63 3 = h101c.1 63 3 := g114c.1 63 3 (by decide)
        have q114c_37 : h114c.1 63 5 = h101c.1 63 5 := g114c.1 63 5 (by decide)
        have q114c_38 : h114c.1 63 6 = h101c.1 63 6 := g114c.1 63 6 (by decide)
        have q114c_39 : h114c.1 63 7 = h101c.1 63 7 := g114c.1 63 7 (by decide)
        have q114c_40 : h114c.1 63 8 = h101c.1 63 8 := g114c.1 63 8 (by decide)
        have q114c_41 : h114c.1 63 9 = h101c.1 63 9 := g114c.1 63 9 (by decide)
        have q114c_42 : h114c.1 63 10 = h101c.1 63 10 := g114c.1 63 10 (by decide)
        refine mm_fgt 1 ?_
        exact J117 h114c i114c f114c (by first | exact mm_em_fr g94c (by decide) | exact mm_em_tr (mm_or1 y101_0 (by omega)).2.2 (mm_em_fr g114c (by decide))) (by first | (have zz := mm_hdx tf; omega) | (have z := mm_or1 y101_0 (by omega); have z1 := z.1; have z2 := z.2.1; have zz := mm_hdx tf; omega))
      · skip
        refine mm_iconst C (mm_dec dk_X7_readPart 55 rfl) ⟨by decide, by decide⟩ ?_
        exact mm_zret C T (mm_dec dk_X7_readPart 56 rfl) (by decide : 0 ≤ 0) (by decide : 0 ≤ 0) (by omega) ⟨_, rfl, ⟨⟨by omega, by omega⟩, i101c, f101c, by first | exact w37_0 | exact Or.inr ⟨by omega, mm_g7_bad (by have zz := mm_hdx tf; have zy := y57_0; omega) y57_1⟩ | (have z := mm_or0 y101_0 (by omega); exact Or.inr ⟨rfl, mm_g7_bad (by have := z.1; have zz := mm_hdx tf; omega) z.2⟩) | exact Or.inl ⟨rfl, mm_p7_part w117_1 w117_0 (mm_st7_of (mm_em_a w117_0 t0) y118_1 y118_2 g118c (by decide))⟩⟩⟩
    · skip
      refine mm_aload_n C (mm_dec dk_X7_readPart 24 rfl) rfl ?_
      refine mm_geti C fl_X7_28 (mm_dec dk_X7_readPart 25 rfl) rfl rfl (Or.inl rfl) ?_
      refine mm_bipush C (mm_dec dk_X7_readPart 26 rfl) ⟨by decide, by decide⟩ ?_
      refine mm_icmp_ge (tgt := 61) C (mm_dec dk_X7_readPart 27 rfl) (by decide) (fun c52 => ?_) (fun c52 => ?_)
      · skip
        refine mm_aload_n C (mm_dec dk_X7_readPart 32 rfl) rfl ?_
        refine mm_aload_n C (mm_dec dk_X7_readPart 33 rfl) rfl ?_
        refine mm_geti C fl_X7_28 (mm_dec dk_X7_readPart 34 rfl) rfl rfl (Or.inl rfl) ?_
        refine mm_bipush C (mm_dec dk_X7_readPart 35 rfl) ⟨by decide, by decide⟩ ?_
        have J94 : ∀ (s94_1 : Int) (bs94_1 : -2147483648 ≤ s94_1 ∧ s94_1 ≤ 2147483647), mm_W x 0 0 94 [mR 63, mU] [mI s94_1, mR 63] h := by
          intro s94_1 bs94_1
          have g43 : -2147483648 ≤ h.1 63 5 ∧ h.1 63 5 ≤ 2147483647 := i0.1 63 5
          have g44 : 0 ≤ h.1 63 7 ∧ h.1 63 7 ≤ 500 := i0.1 63 7
          have g45 : 0 ≤ h.1 63 8 ∧ h.1 63 8 ≤ 500 := i0.1 63 8
          have g46 : 0 ≤ h.1 63 3 ∧ h.1 63 3 ≤ 500 := i0.1 63 3
          have g47 : -2147483648 ≤ h.1 63 6 ∧ h.1 63 6 ≤ 2147483647 := i0.1 63 6
          have g48 : -2147483648 ≤ h.1 63 9 ∧ h.1 63 9 ≤ 2147483647 := i0.1 63 9
          have g49 : -2147483648 ≤ h.1 63 10 ∧ h.1 63 10 ≤ 2147483647 := i0.1 63 10
          refine mm_cVv (rest := []) C1 ev_X7_79 (mm_dec dk_X7_readPart 50 rfl) (c_X7_emit x.2.1 hl (d - 1) (by omega) h i0 s94_1) rfl rfl (Nat.le_of_ble_eq_true rfl) ⟨by decide, by decide⟩ rfl (fun h94c hp94 => ?_) (fun _ _ q => q.elim)
          obtain ⟨i94c, g94c⟩ := hp94
          have f94c : mm_fr [(63, 4), (63, 5), (63, 6), (63, 7), (63, 8), (63, 9), (63, 10)] [64] h h94c := mm_fr_tr f0 g94c (by decide +kernel)
          have q94c_51 : h94c.1 63 3 = h.1 63 3 := g94c.1 63 3 (by decide)
          have q94c_52 : h94c.1 63 5 = h.1 63 5 := g94c.1 63 5 (by decide)
          have q94c_53 : h94c.1 63 6 = h.1 63 6 := g94c.1 63 6 (by decide)
          have q94c_54 : h94c.1 63 7 = h.1 63 7 := g94c.1 63 7 (by decide)
          have q94c_55 : h94c.1 63 8 = h.1 63 8 := g94c.1 63 8 (by decide)
          have q94c_56 : h94c.1 63 9 = h.1 63 9 := g94c.1 63 9 (by decide)
          have q94c_57 : h94c.1 63 10 = h.1 63 10 := g94c.1 63 10 (by decide)
          refine mm_goto (tgt := 117) C (mm_dec dk_X7_readPart 51 rfl) (by decide) ?_
          exact J117 h94c i94c f94c (by first | exact mm_em_fr g94c (by decide) | exact mm_em_tr (mm_or1 y101_0 (by omega)).2.2 (mm_em_fr g114c (by decide))) (by first | (have zz := mm_hdx tf; omega) | (have z := mm_or1 y101_0 (by omega); have z1 := z.1; have z2 := z.2.1; have zz := mm_hdx tf; omega))
        refine mm_icmp_ge (tgt := 84) C (mm_dec dk_X7_readPart 36 rfl) (by decide) (fun c68 => ?_) (fun c68 => ?_)
        · skip
          refine mm_ldc (z := 100000) C (mm_dec dk_X7_readPart 44 rfl) kc_X7_127 (by decide) ?_
          refine mm_aload_n C (mm_dec dk_X7_readPart 45 rfl) rfl ?_
          refine mm_geti C fl_X7_28 (mm_dec dk_X7_readPart 46 rfl) rfl rfl (Or.inl rfl) ?_
          refine mm_iaddw C (mm_dec dk_X7_readPart 47 rfl) ?_
          have g58 : -2147483648 ≤ (mm_w (100000 + (h.1 63 6))) ∧ (mm_w (100000 + (h.1 63 6))) < 2147483648 := mm_w_rg _
          refine mm_bipush C (mm_dec dk_X7_readPart 48 rfl) ⟨by decide, by decide⟩ ?_
          refine mm_isubw C (mm_dec dk_X7_readPart 49 rfl) ?_
          have g59 : -2147483648 ≤ (mm_w ((mm_w (100000 + (h.1 63 6))) - 10)) ∧ (mm_w ((mm_w (100000 + (h.1 63 6))) - 10)) < 2147483648 := mm_w_rg _
          refine mm_fgt 1 ?_
          exact J94 (mm_w ((mm_w (100000 + (h.1 63 6))) - 10)) ⟨by omega, by omega⟩
        · skip
          refine mm_ldc (z := 100007) C (mm_dec dk_X7_readPart 37 rfl) kc_X7_126 (by decide) ?_
          refine mm_aload_n C (mm_dec dk_X7_readPart 38 rfl) rfl ?_
          refine mm_geti C fl_X7_28 (mm_dec dk_X7_readPart 39 rfl) rfl rfl (Or.inl rfl) ?_
          refine mm_iadd C (mm_dec dk_X7_readPart 40 rfl) ⟨by omega, by omega⟩ ?_
          refine mm_bipush C (mm_dec dk_X7_readPart 41 rfl) ⟨by decide, by decide⟩ ?_
          refine mm_isub C (mm_dec dk_X7_readPart 42 rfl) ⟨by omega, by omega⟩ ?_
          refine mm_goto (tgt := 94) C (mm_dec dk_X7_readPart 43 rfl) (by decide) ?_
          refine mm_fgt 1 ?_
          exact J94 ((100007 + (h.1 63 6)) - 7) ⟨by omega, by omega⟩
      · skip
        refine mm_aload_n C (mm_dec dk_X7_readPart 28 rfl) rfl ?_
        refine mm_iconst C (mm_dec dk_X7_readPart 29 rfl) ⟨by decide, by decide⟩ ?_
        refine mm_cVi (rest := []) C1 ev_X7_65 (mm_dec dk_X7_readPart 30 rfl) (c_X7_refuse_q x.2.1 hl (d - 1) (by omega) h i0 3) rfl rfl (Nat.le_of_ble_eq_true rfl) ⟨by decide, by decide⟩ rfl (fun r57 h57c hp57 => ?_) (fun _ _ q => q.elim)
        obtain ⟨b57, i57c, g57c, y57_0, y57_1⟩ := hp57
        have f57c : mm_fr [(63, 4), (63, 5), (63, 6), (63, 7), (63, 8), (63, 9), (63, 10)] [64] h h57c := mm_fr_tr f0 g57c (by decide +kernel)
        have q57c_61 : h57c.1 63 3 = h.1 63 3 := g57c.1 63 3 (by decide)
        have q57c_62 : h57c.1 63 5 = h.1 63 5 := g57c.1 63 5 (by decide)
        have q57c_63 : h57c.1 63 6 = h.1 63 6 := g57c.1 63 6 (by decide)
        have q57c_64 : h57c.1 63 7 = h.1 63 7 := g57c.1 63 7 (by decide)
        have q57c_65 : h57c.1 63 8 = h.1 63 8 := g57c.1 63 8 (by decide)
        have g66 : -2147483648 ≤ (h57c.1 63 9) ∧ (h57c.1 63 9) ≤ 2147483647 := i57c.1 63 9
        have g67 : -2147483648 ≤ (h57c.1 63 10) ∧ (h57c.1 63 10) ≤ 2147483647 := i57c.1 63 10
        exact mm_zret C T (mm_dec dk_X7_readPart 31 rfl) (by decide : 0 ≤ 0) (by decide : 0 ≤ 0) (by omega) ⟨_, rfl, ⟨⟨by omega, by omega⟩, i57c, f57c, by first | exact w37_0 | exact Or.inr ⟨by omega, mm_g7_bad (by have zz := mm_hdx tf; have zy := y57_0; omega) y57_1⟩ | (have z := mm_or0 y101_0 (by omega); exact Or.inr ⟨rfl, mm_g7_bad (by have := z.1; have zz := mm_hdx tf; omega) z.2⟩) | exact Or.inl ⟨rfl, mm_p7_part w117_1 w117_0 (mm_st7_of (mm_em_a w117_0 t0) y118_1 y118_2 g118c (by decide))⟩⟩⟩
  · skip
    refine mm_aload_n C (mm_dec dk_X7_readPart 4 rfl) rfl ?_
    refine mm_cVv (rest := []) C1 ev_X7_52 (mm_dec dk_X7_readPart 5 rfl) (c_X7_step_q x.2.1 hl (d - 1) (by omega) h i0 ) rfl rfl (Nat.le_of_ble_eq_true rfl) ⟨by decide, by decide⟩ rfl (fun h10c hp10 => ?_) (fun _ _ q => q.elim)
    obtain ⟨i10c, g10c, y10_0, y10_1, y10_2⟩ := hp10
    have f10c : mm_fr [(63, 4), (63, 5), (63, 6), (63, 7), (63, 8), (63, 9), (63, 10)] [64] h h10c := mm_fr_tr f0 g10c (by decide +kernel)
    have q10c_69 : h10c.1 63 3 = h.1 63 3 := g10c.1 63 3 (by decide)
    have q10c_70 : h10c.1 63 9 = h.1 63 9 := g10c.1 63 9 (by decide)
    have q10c_71 : h10c.1 63 10 = h.1 63 10 := g10c.1 63 10 (by decide)
    have g72 : -2147483648 ≤ (h10c.1 63 5) ∧ (h10c.1 63 5) ≤ 2147483647 := i10c.1 63 5
    have g73 : 0 ≤ (h10c.1 63 7) ∧ (h10c.1 63 7) ≤ 500 := i10c.1 63 7
    have g74 : 0 ≤ (h10c.1 63 8) ∧ (h10c.1 63 8) ≤ 500 := i10c.1 63 8
    have g75 : -2147483648 ≤ (h10c.1 63 6) ∧ (h10c.1 63 6) ≤ 2147483647 := i10c.1 63 6
    have zs := mm_st7_of t0 y10_1 y10_2 g10c (by decide)
    refine mm_aload_n C (mm_dec dk_X7_readPart 6 rfl) rfl ?_
    refine mm_iload_n C (mm_dec dk_X7_readPart 7 rfl) rfl ?_
    refine mm_iconst C (mm_dec dk_X7_readPart 8 rfl) ⟨by decide, by decide⟩ ?_
    refine mm_iadd C (mm_dec dk_X7_readPart 9 rfl) ⟨by omega, by omega⟩ ?_
    refine mm_cVi (rest := []) C1 ev_X7_75 (mm_dec dk_X7_readPart 10 rfl) (c_X7_readOr_q1 x.2.1 hl (d - 1) (by omega) h10c i10c (p1 + 1) ⟨by omega, by omega⟩ (by exact y10_1)) rfl rfl (Nat.le_of_ble_eq_true rfl) ⟨by decide, by decide⟩ rfl (fun r17 h17c hp17 => ?_) (fun _ _ q => q.elim)
    obtain ⟨b17, i17c, g17c, y17_0⟩ := hp17
    have f17c : mm_fr [(63, 4), (63, 5), (63, 6), (63, 7), (63, 8), (63, 9), (63, 10)] [64] h h17c := mm_fr_tr f10c g17c (by decide +kernel)
    have q17c_77 : h17c.1 63 3 = h10c.1 63 3 := g17c.1 63 3 (by decide)
    have g78 : -2147483648 ≤ (h17c.1 63 5) ∧ (h17c.1 63 5) ≤ 2147483647 := i17c.1 63 5
    have g79 : 0 ≤ (h17c.1 63 7) ∧ (h17c.1 63 7) ≤ 500 := i17c.1 63 7
    have g80 : 0 ≤ (h17c.1 63 8) ∧ (h17c.1 63 8) ≤ 500 := i17c.1 63 8
    have g81 : -2147483648 ≤ (h17c.1 63 6) ∧ (h17c.1 63 6) ≤ 2147483647 := i17c.1 63 6
    have g82 : -2147483648 ≤ (h17c.1 63 9) ∧ (h17c.1 63 9) ≤ 2147483647 := i17c.1 63 9
    have g83 : -2147483648 ≤ (h17c.1 63 10) ∧ (h17c.1 63 10) ≤ 2147483647 := i17c.1 63 10
    have J37 : ∀ (s37_0 : Int) (bs37_0 : 0 ≤ s37_0 ∧ s37_0 ≤ 1) (h37_ : mH) (i37_ : mm_inv h37_) (f37_ : mm_fr [(63, 4), (63, 5), (63, 6), (63, 7), (63, 8), (63, 9), (63, 10)] [64] h h37_) (w37_0 : ((s37_0 = 1 ∧ mm_p7 0 h h37_) ∨ (s37_0 = 0 ∧ mm_g7 0 h h37_))), mm_W x 0 0 37 [mU, mU] [mI s37_0] h37_ := by
      intro s37_0 bs37_0 h37_ i37_ f37_ w37_0
      have g84 : -2147483648 ≤ h37_.1 63 5 ∧ h37_.1 63 5 ≤ 2147483647 := i37_.1 63 5
      have g85 : 0 ≤ h37_.1 63 7 ∧ h37_.1 63 7 ≤ 500 := i37_.1 63 7
      have g86 : 0 ≤ h37_.1 63 8 ∧ h37_.1 63 8 ≤ 500 := i37_.1 63 8
      have g87 : 0 ≤ h37_.1 63 3 ∧ h37_.1 63 3 ≤ 500 := i37_.1 63 3
      have g88 : -2147483648 ≤ h37_.1 63 6 ∧ h37_.1 63 6 ≤ 2147483647 := i37_.1 63 6
      have g89 : -2147483648 ≤ h37_.1 63 9 ∧ h37_.1 63 9 ≤ 2147483647 := i37_.1 63 9
      have g90 : -2147483648 ≤ h37_.1 63 10 ∧ h37_.1 63 10 ≤ 2147483647 := i37_.1 63 10
      have g91 : h37_.1 63 3 = h.1 63 3 := f37_.1 63 3 (by decide)
      exact mm_zret C T (mm_dec dk_X7_readPart 19 rfl) (by decide : 0 ≤ 0) (by decide : 0 ≤ 0) (by omega) ⟨_, rfl, ⟨⟨by omega, by omega⟩, i37_, f37_, by first | exact w37_0 | exact Or.inr ⟨by omega, mm_g7_bad (by have zz := mm_hdx tf; have zy := y57_0; omega) y57_1⟩ | (have z := mm_or0 y101_0 (by omega); exact Or.inr ⟨rfl, mm_g7_bad (by have := z.1; have zz := mm_hdx tf; omega) z.2⟩) | exact Or.inl ⟨rfl, mm_p7_part w117_1 w117_0 (mm_st7_of (mm_em_a w117_0 t0) y118_1 y118_2 g118c (by decide))⟩⟩⟩
    have J36 : ∀ (h36_ : mH) (i36_ : mm_inv h36_) (f36_ : mm_fr [(63, 4), (63, 5), (63, 6), (63, 7), (63, 8), (63, 9), (63, 10)] [64] h h36_) (w36_0 : mm_g7 0 h h36_), mm_W x 0 0 36 [mU, mU] [] h36_ := by
      intro h36_ i36_ f36_ w36_0
      have g92 : -2147483648 ≤ h36_.1 63 5 ∧ h36_.1 63 5 ≤ 2147483647 := i36_.1 63 5
      have g93 : 0 ≤ h36_.1 63 7 ∧ h36_.1 63 7 ≤ 500 := i36_.1 63 7
      have g94 : 0 ≤ h36_.1 63 8 ∧ h36_.1 63 8 ≤ 500 := i36_.1 63 8
      have g95 : 0 ≤ h36_.1 63 3 ∧ h36_.1 63 3 ≤ 500 := i36_.1 63 3
      have g96 : -2147483648 ≤ h36_.1 63 6 ∧ h36_.1 63 6 ≤ 2147483647 := i36_.1 63 6
      have g97 : -2147483648 ≤ h36_.1 63 9 ∧ h36_.1 63 9 ≤ 2147483647 := i36_.1 63 9
      have g98 : -2147483648 ≤ h36_.1 63 10 ∧ h36_.1 63 10 ≤ 2147483647 := i36_.1 63 10
      have g99 : h36_.1 63 3 = h.1 63 3 := f36_.1 63 3 (by decide)
      refine mm_iconst C (mm_dec dk_X7_readPart 18 rfl) ⟨by decide, by decide⟩ ?_
      exact J37 0 ⟨by omega, by omega⟩ h36_ i36_ f36_ (by first | exact Or.inr ⟨rfl, w36_0⟩ | (have z := mm_or1 y26_0 (by omega); exact Or.inl ⟨rfl, mm_p7_par (by decide) (by have zz := mm_hdx tf; omega) zs zq.1 (by have := z.1; omega) z.2⟩))
    refine mm_if_eq (tgt := 36) C (mm_dec dk_X7_readPart 11 rfl) (by decide) (fun c20 => ?_) (fun c20 => ?_)
    · skip
      refine mm_fgt 0 ?_
      refine mm_fgt 1 ?_
      exact J36 h17c i17c f17c (by first | exact mm_g7_par (by decide) (by have zz := mm_hdx tf; omega) zs (mm_or0 y17_0 (by omega)) | (have z := mm_or0 y26_0 (by omega); exact mm_g7_shut (by decide) (by have zz := mm_hdx tf; omega) zs zq.1 zq.2 (fun q => z.1 (by omega)) z.2.1 z.2.2))
    · skip
      have zq := mm_or1 y17_0 (by omega)
      have tg := mm_cX_h i17c zq.1.1.2.1
      have th := mm_cX_r i17c zq.1.1.2.1
      refine mm_aload_n C (mm_dec dk_X7_readPart 12 rfl) rfl ?_
      refine mm_bipush C (mm_dec dk_X7_readPart 13 rfl) ⟨by decide, by decide⟩ ?_
      refine mm_cVi (rest := []) C1 ev_X7_72 (mm_dec dk_X7_readPart 14 rfl) (c_X7_readSign_q x.2.1 hl (d - 1) (by omega) h17c i17c 41 ⟨by omega, by omega⟩ (by exact zq.1.1.2.1)) rfl rfl (Nat.le_of_ble_eq_true rfl) ⟨by decide, by decide⟩ rfl (fun r26 h26c hp26 => ?_) (fun _ _ q => q.elim)
      obtain ⟨b26, i26c, g26c, y26_0⟩ := hp26
      have f26c : mm_fr [(63, 4), (63, 5), (63, 6), (63, 7), (63, 8), (63, 9), (63, 10)] [64] h h26c := mm_fr_tr f17c g26c (by decide +kernel)
      have q26c_101 : h26c.1 63 3 = h17c.1 63 3 := g26c.1 63 3 (by decide)
      have g102 : -2147483648 ≤ (h26c.1 63 5) ∧ (h26c.1 63 5) ≤ 2147483647 := i26c.1 63 5
      have g103 : 0 ≤ (h26c.1 63 7) ∧ (h26c.1 63 7) ≤ 500 := i26c.1 63 7
      have g104 : 0 ≤ (h26c.1 63 8) ∧ (h26c.1 63 8) ≤ 500 := i26c.1 63 8
      have g105 : -2147483648 ≤ (h26c.1 63 6) ∧ (h26c.1 63 6) ≤ 2147483647 := i26c.1 63 6
      have g106 : -2147483648 ≤ (h26c.1 63 9) ∧ (h26c.1 63 9) ≤ 2147483647 := i26c.1 63 9
      have g107 : -2147483648 ≤ (h26c.1 63 10) ∧ (h26c.1 63 10) ≤ 2147483647 := i26c.1 63 10
      refine mm_if_eq (tgt := 36) C (mm_dec dk_X7_readPart 15 rfl) (by decide) (fun c29 => ?_) (fun c29 => ?_)
      · skip
        refine mm_fgt 0 ?_
        refine mm_fgt 1 ?_
        exact J36 h26c i26c f26c (by first | exact mm_g7_par (by decide) (by have zz := mm_hdx tf; omega) zs (mm_or0 y17_0 (by omega)) | (have z := mm_or0 y26_0 (by omega); exact mm_g7_shut (by decide) (by have zz := mm_hdx tf; omega) zs zq.1 zq.2 (fun q => z.1 (by omega)) z.2.1 z.2.2))
      · skip
        refine mm_iconst C (mm_dec dk_X7_readPart 16 rfl) ⟨by decide, by decide⟩ ?_
        refine mm_goto (tgt := 37) C (mm_dec dk_X7_readPart 17 rfl) (by decide) ?_
        refine mm_fgt 0 ?_
        refine mm_fgt 1 ?_
        exact J37 1 ⟨by omega, by omega⟩ h26c i26c f26c (by first | exact Or.inr ⟨rfl, w36_0⟩ | (have z := mm_or1 y26_0 (by omega); exact Or.inl ⟨rfl, mm_p7_par (by decide) (by have zz := mm_hdx tf; omega) zs zq.1 (by have := z.1; omega) z.2⟩))
set_option maxRecDepth 100000 in
set_option maxHeartbeats 4000000 in
theorem c_X7_readProduct_q0 (l : Launch) (hl : l.stackTraces = false) (d : Nat) (hd : 42 ≤ d) (h : mH) (i0 : mm_inv h) (p1 : Int) (bp1 : 0 ≤ p1 ∧ p1 ≤ 0) (t0 : mm_aX h) : mm_Met l d yX7_readProduct cX7_readProduct 4 (some .boolean) [mR 63, mI p1] h (mm_pi fun r h2 => (0 ≤ r ∧ r ≤ 1) ∧ mm_inv h2 ∧ mm_fr [(63, 4), (63, 5), (63, 6), (63, 7), (63, 8), (63, 9), (63, 10)] [64] h h2 ∧ ((r = 1 ∧ mm_p7 0 h h2 ∧ mm_nA h2) ∨ (r = 0 ∧ mm_g7 0 h h2))) mm_nx 0 0 := by
  refine mm_ofW (ls := [mR 63, mI p1, mU, mU]) hl (by decide) rfl (Nat.le_of_ble_eq_true rfl) ?_
  intro x hxl C T hnm htb
  subst hxl
  have C1 := mm_OK_le (d' := d - 1 + 1) (by omega) C
  have C8 := mm_OK_le (d' := d - 8 + 8) (by omega) C
  refine mm_rng (fun hr _ => ?_)
  have ap1 : -2147483648 ≤ p1 ∧ p1 < 2147483648 := mm_ok_at hr (i := 1) rfl
  have f0 : mm_fr [(63, 4), (63, 5), (63, 6), (63, 7), (63, 8), (63, 9), (63, 10)] [64] h h := mm_fr_rf
  have g1 : -2147483648 ≤ h.1 63 5 ∧ h.1 63 5 ≤ 2147483647 := i0.1 63 5
  have g2 : 0 ≤ h.1 63 7 ∧ h.1 63 7 ≤ 500 := i0.1 63 7
  have g3 : 0 ≤ h.1 63 8 ∧ h.1 63 8 ≤ 500 := i0.1 63 8
  have g4 : 0 ≤ h.1 63 3 ∧ h.1 63 3 ≤ 500 := i0.1 63 3
  have g5 : -2147483648 ≤ h.1 63 6 ∧ h.1 63 6 ≤ 2147483647 := i0.1 63 6
  have g6 : -2147483648 ≤ h.1 63 9 ∧ h.1 63 9 ≤ 2147483647 := i0.1 63 9
  have g7 : -2147483648 ≤ h.1 63 10 ∧ h.1 63 10 ≤ 2147483647 := i0.1 63 10
  have tf := mm_cX_h i0 t0
  have tr := mm_cX_r i0 t0
  refine mm_aload_n C (mm_dec dk_X7_readProduct 0 rfl) rfl ?_
  refine mm_iload_n C (mm_dec dk_X7_readProduct 1 rfl) rfl ?_
  refine mm_cVi (rest := []) C1 ev_X7_121 (mm_dec dk_X7_readProduct 2 rfl) (c_X7_readPart_q0 x.2.1 hl (d - 1) (by omega) h i0 p1 ⟨by omega, by omega⟩ (by exact t0)) rfl rfl (Nat.le_of_ble_eq_true rfl) ⟨by decide, by decide⟩ rfl (fun r2 h2c hp2 => ?_) (fun _ _ q => q.elim)
  obtain ⟨b2, i2c, g2c, y2_0⟩ := hp2
  have f2c : mm_fr [(63, 4), (63, 5), (63, 6), (63, 7), (63, 8), (63, 9), (63, 10)] [64] h h2c := mm_fr_tr f0 g2c (by decide +kernel)
  have q2c_9 : h2c.1 63 3 = h.1 63 3 := g2c.1 63 3 (by decide)
  have g10 : -2147483648 ≤ (h2c.1 63 5) ∧ (h2c.1 63 5) ≤ 2147483647 := i2c.1 63 5
  have g11 : 0 ≤ (h2c.1 63 7) ∧ (h2c.1 63 7) ≤ 500 := i2c.1 63 7
  have g12 : 0 ≤ (h2c.1 63 8) ∧ (h2c.1 63 8) ≤ 500 := i2c.1 63 8
  have g13 : -2147483648 ≤ (h2c.1 63 6) ∧ (h2c.1 63 6) ≤ 2147483647 := i2c.1 63 6
  have g14 : -2147483648 ≤ (h2c.1 63 9) ∧ (h2c.1 63 9) ≤ 2147483647 := i2c.1 63 9
  have g15 : -2147483648 ≤ (h2c.1 63 10) ∧ (h2c.1 63 10) ≤ 2147483647 := i2c.1 63 10
  refine mm_if_ne (tgt := 10) C (mm_dec dk_X7_readProduct 3 rfl) (by decide) (fun c5 => ?_) (fun c5 => ?_)
  · skip
    refine mm_iconst C (mm_dec dk_X7_readProduct 6 rfl) ⟨by decide, by decide⟩ ?_
    have J12 : ∀ (n : Nat) (x12_2 : Int) (bx12_2 : 0 ≤ x12_2 ∧ x12_2 ≤ 500) (h12_ : mH) (i12_ : mm_inv h12_) (f12_ : mm_fr [(63, 4), (63, 5), (63, 6), (63, 7), (63, 8), (63, 9), (63, 10)] [64] h h12_) (w12_0 : mm_p7 0 h h12_) (w12_1 : x12_2 ≤ h12_.1 63 7), (500 - x12_2 : Int) < n → mm_W x 0 0 12 [mR 63, mI p1, mI x12_2, mU] [] h12_ := by
      intro n
      induction n with
      | zero =>
        intro x12_2 bx12_2 h12_ i12_ f12_ w12_0 w12_1 hm
        have g16 : -2147483648 ≤ h12_.1 63 5 ∧ h12_.1 63 5 ≤ 2147483647 := i12_.1 63 5
        have g17 : 0 ≤ h12_.1 63 7 ∧ h12_.1 63 7 ≤ 500 := i12_.1 63 7
        have g18 : 0 ≤ h12_.1 63 8 ∧ h12_.1 63 8 ≤ 500 := i12_.1 63 8
        have g19 : 0 ≤ h12_.1 63 3 ∧ h12_.1 63 3 ≤ 500 := i12_.1 63 3
        have g20 : -2147483648 ≤ h12_.1 63 6 ∧ h12_.1 63 6 ≤ 2147483647 := i12_.1 63 6
        have g21 : -2147483648 ≤ h12_.1 63 9 ∧ h12_.1 63 9 ≤ 2147483647 := i12_.1 63 9
        have g22 : -2147483648 ≤ h12_.1 63 10 ∧ h12_.1 63 10 ≤ 2147483647 := i12_.1 63 10
        exfalso; omega
      | succ n ih12 =>
        intro x12_2 bx12_2 h12_ i12_ f12_ w12_0 w12_1 hm12
        have g23 : -2147483648 ≤ h12_.1 63 5 ∧ h12_.1 63 5 ≤ 2147483647 := i12_.1 63 5
        have g24 : 0 ≤ h12_.1 63 7 ∧ h12_.1 63 7 ≤ 500 := i12_.1 63 7
        have g25 : 0 ≤ h12_.1 63 8 ∧ h12_.1 63 8 ≤ 500 := i12_.1 63 8
        have g26 : 0 ≤ h12_.1 63 3 ∧ h12_.1 63 3 ≤ 500 := i12_.1 63 3
        have g27 : -2147483648 ≤ h12_.1 63 6 ∧ h12_.1 63 6 ≤ 2147483647 := i12_.1 63 6
        have g28 : -2147483648 ≤ h12_.1 63 9 ∧ h12_.1 63 9 ≤ 2147483647 := i12_.1 63 9
        have g29 : -2147483648 ≤ h12_.1 63 10 ∧ h12_.1 63 10 ≤ 2147483647 := i12_.1 63 10
        have g30 : h12_.1 63 3 = h.1 63 3 := f12_.1 63 3 (by decide)
        have tf12 := mm_cX_h i12_ w12_0.1.2.1
        have tr12 := mm_cX_r i12_ w12_0.1.2.1
        refine mm_iload_n C (mm_dec dk_X7_readProduct 8 rfl) rfl ?_
        refine mm_sipush C (mm_dec dk_X7_readProduct 9 rfl) ⟨by decide, by decide⟩ ?_
        have J79 : ∀ (w79_0 : mm_nA h12_), mm_W x 0 0 79 [mU, mU, mU, mU] [] h12_ := by
          intro w79_0
          have g31 : -2147483648 ≤ h12_.1 63 5 ∧ h12_.1 63 5 ≤ 2147483647 := i12_.1 63 5
          have g32 : 0 ≤ h12_.1 63 7 ∧ h12_.1 63 7 ≤ 500 := i12_.1 63 7
          have g33 : 0 ≤ h12_.1 63 8 ∧ h12_.1 63 8 ≤ 500 := i12_.1 63 8
          have g34 : 0 ≤ h12_.1 63 3 ∧ h12_.1 63 3 ≤ 500 := i12_.1 63 3
          have g35 : -2147483648 ≤ h12_.1 63 6 ∧ h12_.1 63 6 ≤ 2147483647 := i12_.1 63 6
          have g36 : -2147483648 ≤ h12_.1 63 9 ∧ h12_.1 63 9 ≤ 2147483647 := i12_.1 63 9
          have g37 : -2147483648 ≤ h12_.1 63 10 ∧ h12_.1 63 10 ≤ 2147483647 := i12_.1 63 10
          refine mm_iconst C (mm_dec dk_X7_readProduct 40 rfl) ⟨by decide, by decide⟩ ?_
          exact mm_zret C T (mm_dec dk_X7_readProduct 41 rfl) (by decide : 0 ≤ 0) (by decide : 0 ≤ 0) (by omega) ⟨_, rfl, ⟨⟨by omega, by omega⟩, i12_, f12_, by first | exact Or.inl ⟨rfl, w12_0, w79_0⟩ | exact Or.inr ⟨rfl, mm_or0 y2_0 (by omega)⟩ | exact Or.inr ⟨rfl, mm_g7_op w12_0 (by omega) zs (mm_or0 y60_0 (by omega))⟩⟩⟩
        refine mm_icmp_ge (tgt := 79) C (mm_dec dk_X7_readProduct 10 rfl) (by decide) (fun c16 => ?_) (fun c16 => ?_)
        · skip
          refine mm_fgt 0 ?_
          refine mm_fgt 1 ?_
          refine mm_fgt 2 ?_
          exact J79 (by (unfold mm_nA; have zz := mm_hdx tf12; omega))
        · skip
          refine mm_aload_n C (mm_dec dk_X7_readProduct 11 rfl) rfl ?_
          refine mm_bipush C (mm_dec dk_X7_readProduct 12 rfl) ⟨by decide, by decide⟩ ?_
          refine mm_cVi (rest := []) C1 ev_X7_96 (mm_dec dk_X7_readProduct 13 rfl) (c_X7_isSign x.2.1 hl (d - 1) (by omega) h12_ i12_ 42 (by omega)) rfl rfl (Nat.le_of_ble_eq_true rfl) ⟨by decide, by decide⟩ rfl (fun r22 h22c hp22 => ?_) (fun _ _ q => q.elim)
          obtain ⟨z22, y22⟩ := hp22
          rw [z22]
          have g39 : -2147483648 ≤ (h12_.2.1 62 (h12_.1 63 7)) ∧ (h12_.2.1 62 (h12_.1 63 7)) ≤ 2147483647 := i12_.2.1 62 (h12_.1 63 7)
          have J37 : ∀ (w37_0 : (mm_cX h12_ = 142 ∨ mm_cX h12_ = 147)), mm_W x 0 0 37 [mR 63, mI p1, mI x12_2, mU] [] h12_ := by
            intro w37_0
            have g40 : -2147483648 ≤ h12_.1 63 5 ∧ h12_.1 63 5 ≤ 2147483647 := i12_.1 63 5
            have g41 : 0 ≤ h12_.1 63 7 ∧ h12_.1 63 7 ≤ 500 := i12_.1 63 7
            have g42 : 0 ≤ h12_.1 63 8 ∧ h12_.1 63 8 ≤ 500 := i12_.1 63 8
            have g43 : 0 ≤ h12_.1 63 3 ∧ h12_.1 63 3 ≤ 500 := i12_.1 63 3
            have g44 : -2147483648 ≤ h12_.1 63 6 ∧ h12_.1 63 6 ≤ 2147483647 := i12_.1 63 6
            have g45 : -2147483648 ≤ h12_.1 63 9 ∧ h12_.1 63 9 ≤ 2147483647 := i12_.1 63 9
            have g46 : -2147483648 ≤ h12_.1 63 10 ∧ h12_.1 63 10 ≤ 2147483647 := i12_.1 63 10
            refine mm_aload_n C (mm_dec dk_X7_readProduct 19 rfl) rfl ?_
            refine mm_bipush C (mm_dec dk_X7_readProduct 20 rfl) ⟨by decide, by decide⟩ ?_
            refine mm_cVi (rest := []) C1 ev_X7_96 (mm_dec dk_X7_readProduct 21 rfl) (c_X7_isSign x.2.1 hl (d - 1) (by omega) h12_ i12_ 42 (by omega)) rfl rfl (Nat.le_of_ble_eq_true rfl) ⟨by decide, by decide⟩ rfl (fun r40 h40c hp40 => ?_) (fun _ _ q => q.elim)
            obtain ⟨z40, y40⟩ := hp40
            rw [z40]
            have J53 : ∀ (s53_0 : Int) (bs53_0 : 100017 ≤ s53_0 ∧ s53_0 ≤ 100018) (vs53_0 : (r40 ≠ 0 ∧ s53_0 = 100017) ∨ (r40 = 0 ∧ s53_0 = 100018)), mm_W x 0 0 53 [mR 63, mI p1, mI x12_2, mU] [mI s53_0] h12_ := by
              intro s53_0 bs53_0 vs53_0
              have g48 : -2147483648 ≤ h12_.1 63 5 ∧ h12_.1 63 5 ≤ 2147483647 := i12_.1 63 5
              have g49 : 0 ≤ h12_.1 63 7 ∧ h12_.1 63 7 ≤ 500 := i12_.1 63 7
              have g50 : 0 ≤ h12_.1 63 8 ∧ h12_.1 63 8 ≤ 500 := i12_.1 63 8
              have g51 : 0 ≤ h12_.1 63 3 ∧ h12_.1 63 3 ≤ 500 := i12_.1 63 3
              have g52 : -2147483648 ≤ h12_.1 63 6 ∧ h12_.1 63 6 ≤ 2147483647 := i12_.1 63 6
              have g53 : -2147483648 ≤ h12_.1 63 9 ∧ h12_.1 63 9 ≤ 2147483647 := i12_.1 63 9
              have g54 : -2147483648 ≤ h12_.1 63 10 ∧ h12_.1 63 10 ≤ 2147483647 := i12_.1 63 10
              refine mm_istore_nL (ls2 := [mR 63, mI p1, mI x12_2, mI s53_0]) C (mm_dec dk_X7_readProduct 26 rfl) (by decide) rfl ?_
              refine mm_aload_n C (mm_dec dk_X7_readProduct 27 rfl) rfl ?_
              refine mm_cVv (rest := []) C1 ev_X7_52 (mm_dec dk_X7_readProduct 28 rfl) (c_X7_step_q x.2.1 hl (d - 1) (by omega) h12_ i12_ ) rfl rfl (Nat.le_of_ble_eq_true rfl) ⟨by decide, by decide⟩ rfl (fun h55c hp55 => ?_) (fun _ _ q => q.elim)
              obtain ⟨i55c, g55c, y55_0, y55_1, y55_2⟩ := hp55
              have f55c : mm_fr [(63, 4), (63, 5), (63, 6), (63, 7), (63, 8), (63, 9), (63, 10)] [64] h h55c := mm_fr_tr f12_ g55c (by decide +kernel)
              have q55c_56 : h55c.1 63 3 = h12_.1 63 3 := g55c.1 63 3 (by decide)
              have q55c_57 : h55c.1 63 9 = h12_.1 63 9 := g55c.1 63 9 (by decide)
              have q55c_58 : h55c.1 63 10 = h12_.1 63 10 := g55c.1 63 10 (by decide)
              have g59 : -2147483648 ≤ (h55c.1 63 5) ∧ (h55c.1 63 5) ≤ 2147483647 := i55c.1 63 5
              have g60 : 0 ≤ (h55c.1 63 7) ∧ (h55c.1 63 7) ≤ 500 := i55c.1 63 7
              have g61 : 0 ≤ (h55c.1 63 8) ∧ (h55c.1 63 8) ≤ 500 := i55c.1 63 8
              have g62 : -2147483648 ≤ (h55c.1 63 6) ∧ (h55c.1 63 6) ≤ 2147483647 := i55c.1 63 6
              have zs := mm_st7_of w12_0.1.2.1 y55_1 y55_2 g55c (by decide)
              have zl := mm_st7_lt zs (by omega)
              refine mm_aload_n C (mm_dec dk_X7_readProduct 29 rfl) rfl ?_
              refine mm_iload_n C (mm_dec dk_X7_readProduct 30 rfl) rfl ?_
              refine mm_cVi (rest := []) C1 ev_X7_121 (mm_dec dk_X7_readProduct 31 rfl) (c_X7_readPart_q0 x.2.1 hl (d - 1) (by omega) h55c i55c p1 ⟨by omega, by omega⟩ (by exact y55_1)) rfl rfl (Nat.le_of_ble_eq_true rfl) ⟨by decide, by decide⟩ rfl (fun r60 h60c hp60 => ?_) (fun _ _ q => q.elim)
              obtain ⟨b60, i60c, g60c, y60_0⟩ := hp60
              have f60c : mm_fr [(63, 4), (63, 5), (63, 6), (63, 7), (63, 8), (63, 9), (63, 10)] [64] h h60c := mm_fr_tr f55c g60c (by decide +kernel)
              have q60c_64 : h60c.1 63 3 = h55c.1 63 3 := g60c.1 63 3 (by decide)
              have g65 : -2147483648 ≤ (h60c.1 63 5) ∧ (h60c.1 63 5) ≤ 2147483647 := i60c.1 63 5
              have g66 : 0 ≤ (h60c.1 63 7) ∧ (h60c.1 63 7) ≤ 500 := i60c.1 63 7
              have g67 : 0 ≤ (h60c.1 63 8) ∧ (h60c.1 63 8) ≤ 500 := i60c.1 63 8
              have g68 : -2147483648 ≤ (h60c.1 63 6) ∧ (h60c.1 63 6) ≤ 2147483647 := i60c.1 63 6
              have g69 : -2147483648 ≤ (h60c.1 63 9) ∧ (h60c.1 63 9) ≤ 2147483647 := i60c.1 63 9
              have g70 : -2147483648 ≤ (h60c.1 63 10) ∧ (h60c.1 63 10) ≤ 2147483647 := i60c.1 63 10
              refine mm_if_ne (tgt := 68) C (mm_dec dk_X7_readProduct 32 rfl) (by decide) (fun c63 => ?_) (fun c63 => ?_)
              · skip
                refine mm_aload_n C (mm_dec dk_X7_readProduct 35 rfl) rfl ?_
                refine mm_iload_n C (mm_dec dk_X7_readProduct 36 rfl) rfl ?_
                refine mm_cVv (rest := []) C1 ev_X7_79 (mm_dec dk_X7_readProduct 37 rfl) (c_X7_emit x.2.1 hl (d - 1) (by omega) h60c i60c s53_0) rfl rfl (Nat.le_of_ble_eq_true rfl) ⟨by decide, by decide⟩ rfl (fun h70c hp70 => ?_) (fun _ _ q => q.elim)
                obtain ⟨i70c, g70c⟩ := hp70
                have f70c : mm_fr [(63, 4), (63, 5), (63, 6), (63, 7), (63, 8), (63, 9), (63, 10)] [64] h h70c := mm_fr_tr f60c g70c (by decide +kernel)
                have q70c_72 : h70c.1 63 3 = h60c.1 63 3 := g70c.1 63 3 (by decide)
                have q70c_73 : h70c.1 63 5 = h60c.1 63 5 := g70c.1 63 5 (by decide)
                have q70c_74 : h70c.1 63 6 = h60c.1 63 6 := g70c.1 63 6 (by decide)
                have q70c_75 : h70c.1 63 7 = h60c.1 63 7 := g70c.1 63 7 (by decide)
                have q70c_76 : h70c.1 63 8 = h60c.1 63 8 := g70c.1 63 8 (by decide)
                have q70c_77 : h70c.1 63 9 = h60c.1 63 9 := g70c.1 63 9 (by decide)
                have q70c_78 : h70c.1 63 10 = h60c.1 63 10 := g70c.1 63 10 (by decide)
                have zt := g70c.1 63 7 (by decide)
                have zu := (mm_or1 y60_0 (by omega)).2.1
                refine mm_iincL (ls2 := [mR 63, mI p1, mI (x12_2 + 1), mI s53_0]) C (mm_dec dk_X7_readProduct 38 rfl) rfl (by decide) ⟨by omega, by omega⟩ rfl ?_
                refine mm_goto (tgt := 12) C (mm_dec dk_X7_readProduct 39 rfl) (by decide) ?_
                refine mm_fgt 3 ?_
                exact ih12 (x12_2 + 1) ⟨by omega, by omega⟩ h70c i70c f70c (by first | exact (mm_or1 y2_0 (by omega)) | exact mm_p7_em (mm_p7_op w12_0 (by omega) zs (mm_or1 y60_0 (by omega))) (mm_em_fr g70c (by decide))) (by omega) (by omega)
              · skip
                refine mm_iconst C (mm_dec dk_X7_readProduct 33 rfl) ⟨by decide, by decide⟩ ?_
                exact mm_zret C T (mm_dec dk_X7_readProduct 34 rfl) (by decide : 0 ≤ 0) (by decide : 0 ≤ 0) (by omega) ⟨_, rfl, ⟨⟨by omega, by omega⟩, i60c, f60c, by first | exact Or.inl ⟨rfl, w12_0, w79_0⟩ | exact Or.inr ⟨rfl, mm_or0 y2_0 (by omega)⟩ | exact Or.inr ⟨rfl, mm_g7_op w12_0 (by omega) zs (mm_or0 y60_0 (by omega))⟩⟩⟩
            refine mm_if_eq (tgt := 51) C (mm_dec dk_X7_readProduct 22 rfl) (by decide) (fun c43 => ?_) (fun c43 => ?_)
            · skip
              refine mm_ldc (z := 100018) C (mm_dec dk_X7_readProduct 25 rfl) kc_X7_125 (by decide) ?_
              exact J53 100018 ⟨by omega, by omega⟩ (Or.inr (⟨by omega, rfl⟩))
            · skip
              refine mm_ldc (z := 100017) C (mm_dec dk_X7_readProduct 23 rfl) kc_X7_124 (by decide) ?_
              refine mm_goto (tgt := 53) C (mm_dec dk_X7_readProduct 24 rfl) (by decide) ?_
              exact J53 100017 ⟨by omega, by omega⟩ (Or.inl ⟨by omega, rfl⟩)
          refine mm_if_ne (tgt := 37) C (mm_dec dk_X7_readProduct 14 rfl) (by decide) (fun c25 => ?_) (fun c25 => ?_)
          · skip
            exact J37 (by have zz := mm_hdx tf12; omega)
          · skip
            refine mm_aload_n C (mm_dec dk_X7_readProduct 15 rfl) rfl ?_
            refine mm_bipush C (mm_dec dk_X7_readProduct 16 rfl) ⟨by decide, by decide⟩ ?_
            refine mm_cVi (rest := []) C1 ev_X7_96 (mm_dec dk_X7_readProduct 17 rfl) (c_X7_isSign x.2.1 hl (d - 1) (by omega) h12_ i12_ 47 (by omega)) rfl rfl (Nat.le_of_ble_eq_true rfl) ⟨by decide, by decide⟩ rfl (fun r31 h31c hp31 => ?_) (fun _ _ q => q.elim)
            obtain ⟨z31, y31⟩ := hp31
            rw [z31]
            refine mm_if_eq (tgt := 79) C (mm_dec dk_X7_readProduct 18 rfl) (by decide) (fun c34 => ?_) (fun c34 => ?_)
            · skip
              refine mm_fgt 0 ?_
              refine mm_fgt 1 ?_
              refine mm_fgt 2 ?_
              exact J79 (by (unfold mm_nA; have zz := mm_hdx tf12; omega))
            · skip
              exact J37 (by have zz := mm_hdx tf12; omega)
    refine mm_istore_nL (ls2 := [mR 63, mI p1, mI 0, mU]) C (mm_dec dk_X7_readProduct 7 rfl) (by decide) rfl ?_
    exact J12 (((500 - 0) : Int) + 1).toNat 0 ⟨by omega, by omega⟩ h2c i2c f2c (by first | exact (mm_or1 y2_0 (by omega)) | exact mm_p7_em (mm_p7_op w12_0 (by omega) zs (mm_or1 y60_0 (by omega))) (mm_em_fr g70c (by decide))) (by omega) (by omega)
  · skip
    refine mm_iconst C (mm_dec dk_X7_readProduct 4 rfl) ⟨by decide, by decide⟩ ?_
    exact mm_zret C T (mm_dec dk_X7_readProduct 5 rfl) (by decide : 0 ≤ 0) (by decide : 0 ≤ 0) (by omega) ⟨_, rfl, ⟨⟨by omega, by omega⟩, i2c, f2c, by first | exact Or.inl ⟨rfl, w12_0, w79_0⟩ | exact Or.inr ⟨rfl, mm_or0 y2_0 (by omega)⟩ | exact Or.inr ⟨rfl, mm_g7_op w12_0 (by omega) zs (mm_or0 y60_0 (by omega))⟩⟩⟩
set_option maxRecDepth 100000 in
set_option maxHeartbeats 4000000 in
theorem c_X7_readSum_q0 (l : Launch) (hl : l.stackTraces = false) (d : Nat) (hd : 43 ≤ d) (h : mH) (i0 : mm_inv h) (p1 : Int) (bp1 : 0 ≤ p1 ∧ p1 ≤ 0) (t0 : mm_aX h) : mm_Met l d yX7_readSum cX7_readSum 4 (some .boolean) [mR 63, mI p1] h (mm_pi fun r h2 => (0 ≤ r ∧ r ≤ 1) ∧ mm_inv h2 ∧ mm_fr [(63, 4), (63, 5), (63, 6), (63, 7), (63, 8), (63, 9), (63, 10)] [64] h h2 ∧ ((r = 1 ∧ mm_p7 0 h h2 ∧ mm_nB h2) ∨ (r = 0 ∧ mm_g7 0 h h2))) mm_nx 0 0 := by
  refine mm_ofW (ls := [mR 63, mI p1, mU, mU]) hl (by decide) rfl (Nat.le_of_ble_eq_true rfl) ?_
  intro x hxl C T hnm htb
  subst hxl
  have C1 := mm_OK_le (d' := d - 1 + 1) (by omega) C
  have C8 := mm_OK_le (d' := d - 8 + 8) (by omega) C
  refine mm_rng (fun hr _ => ?_)
  have ap1 : -2147483648 ≤ p1 ∧ p1 < 2147483648 := mm_ok_at hr (i := 1) rfl
  have f0 : mm_fr [(63, 4), (63, 5), (63, 6), (63, 7), (63, 8), (63, 9), (63, 10)] [64] h h := mm_fr_rf
  have g1 : -2147483648 ≤ h.1 63 5 ∧ h.1 63 5 ≤ 2147483647 := i0.1 63 5
  have g2 : 0 ≤ h.1 63 7 ∧ h.1 63 7 ≤ 500 := i0.1 63 7
  have g3 : 0 ≤ h.1 63 8 ∧ h.1 63 8 ≤ 500 := i0.1 63 8
  have g4 : 0 ≤ h.1 63 3 ∧ h.1 63 3 ≤ 500 := i0.1 63 3
  have g5 : -2147483648 ≤ h.1 63 6 ∧ h.1 63 6 ≤ 2147483647 := i0.1 63 6
  have g6 : -2147483648 ≤ h.1 63 9 ∧ h.1 63 9 ≤ 2147483647 := i0.1 63 9
  have g7 : -2147483648 ≤ h.1 63 10 ∧ h.1 63 10 ≤ 2147483647 := i0.1 63 10
  have tf := mm_cX_h i0 t0
  have tr := mm_cX_r i0 t0
  refine mm_aload_n C (mm_dec dk_X7_readSum 0 rfl) rfl ?_
  refine mm_iload_n C (mm_dec dk_X7_readSum 1 rfl) rfl ?_
  refine mm_cVi (rest := []) C1 ev_X7_116 (mm_dec dk_X7_readSum 2 rfl) (c_X7_readProduct_q0 x.2.1 hl (d - 1) (by omega) h i0 p1 ⟨by omega, by omega⟩ (by exact t0)) rfl rfl (Nat.le_of_ble_eq_true rfl) ⟨by decide, by decide⟩ rfl (fun r2 h2c hp2 => ?_) (fun _ _ q => q.elim)
  obtain ⟨b2, i2c, g2c, y2_0⟩ := hp2
  have f2c : mm_fr [(63, 4), (63, 5), (63, 6), (63, 7), (63, 8), (63, 9), (63, 10)] [64] h h2c := mm_fr_tr f0 g2c (by decide +kernel)
  have q2c_9 : h2c.1 63 3 = h.1 63 3 := g2c.1 63 3 (by decide)
  have g10 : -2147483648 ≤ (h2c.1 63 5) ∧ (h2c.1 63 5) ≤ 2147483647 := i2c.1 63 5
  have g11 : 0 ≤ (h2c.1 63 7) ∧ (h2c.1 63 7) ≤ 500 := i2c.1 63 7
  have g12 : 0 ≤ (h2c.1 63 8) ∧ (h2c.1 63 8) ≤ 500 := i2c.1 63 8
  have g13 : -2147483648 ≤ (h2c.1 63 6) ∧ (h2c.1 63 6) ≤ 2147483647 := i2c.1 63 6
  have g14 : -2147483648 ≤ (h2c.1 63 9) ∧ (h2c.1 63 9) ≤ 2147483647 := i2c.1 63 9
  have g15 : -2147483648 ≤ (h2c.1 63 10) ∧ (h2c.1 63 10) ≤ 2147483647 := i2c.1 63 10
  refine mm_if_ne (tgt := 10) C (mm_dec dk_X7_readSum 3 rfl) (by decide) (fun c5 => ?_) (fun c5 => ?_)
  · skip
    refine mm_iconst C (mm_dec dk_X7_readSum 6 rfl) ⟨by decide, by decide⟩ ?_
    have J12 : ∀ (n : Nat) (x12_2 : Int) (bx12_2 : 0 ≤ x12_2 ∧ x12_2 ≤ 500) (h12_ : mH) (i12_ : mm_inv h12_) (f12_ : mm_fr [(63, 4), (63, 5), (63, 6), (63, 7), (63, 8), (63, 9), (63, 10)] [64] h h12_) (w12_0 : mm_p7 0 h h12_) (w12_1 : x12_2 ≤ h12_.1 63 7) (w12_2 : mm_nA h12_), (500 - x12_2 : Int) < n → mm_W x 0 0 12 [mR 63, mI p1, mI x12_2, mU] [] h12_ := by
      intro n
      induction n with
      | zero =>
        intro x12_2 bx12_2 h12_ i12_ f12_ w12_0 w12_1 w12_2 hm
        have g16 : -2147483648 ≤ h12_.1 63 5 ∧ h12_.1 63 5 ≤ 2147483647 := i12_.1 63 5
        have g17 : 0 ≤ h12_.1 63 7 ∧ h12_.1 63 7 ≤ 500 := i12_.1 63 7
        have g18 : 0 ≤ h12_.1 63 8 ∧ h12_.1 63 8 ≤ 500 := i12_.1 63 8
        have g19 : 0 ≤ h12_.1 63 3 ∧ h12_.1 63 3 ≤ 500 := i12_.1 63 3
        have g20 : -2147483648 ≤ h12_.1 63 6 ∧ h12_.1 63 6 ≤ 2147483647 := i12_.1 63 6
        have g21 : -2147483648 ≤ h12_.1 63 9 ∧ h12_.1 63 9 ≤ 2147483647 := i12_.1 63 9
        have g22 : -2147483648 ≤ h12_.1 63 10 ∧ h12_.1 63 10 ≤ 2147483647 := i12_.1 63 10
        exfalso; omega
      | succ n ih12 =>
        intro x12_2 bx12_2 h12_ i12_ f12_ w12_0 w12_1 w12_2 hm12
        have g23 : -2147483648 ≤ h12_.1 63 5 ∧ h12_.1 63 5 ≤ 2147483647 := i12_.1 63 5
        have g24 : 0 ≤ h12_.1 63 7 ∧ h12_.1 63 7 ≤ 500 := i12_.1 63 7
        have g25 : 0 ≤ h12_.1 63 8 ∧ h12_.1 63 8 ≤ 500 := i12_.1 63 8
        have g26 : 0 ≤ h12_.1 63 3 ∧ h12_.1 63 3 ≤ 500 := i12_.1 63 3
        have g27 : -2147483648 ≤ h12_.1 63 6 ∧ h12_.1 63 6 ≤ 2147483647 := i12_.1 63 6
        have g28 : -2147483648 ≤ h12_.1 63 9 ∧ h12_.1 63 9 ≤ 2147483647 := i12_.1 63 9
        have g29 : -2147483648 ≤ h12_.1 63 10 ∧ h12_.1 63 10 ≤ 2147483647 := i12_.1 63 10
        have g30 : h12_.1 63 3 = h.1 63 3 := f12_.1 63 3 (by decide)
        have tf12 := mm_cX_h i12_ w12_0.1.2.1
        have tr12 := mm_cX_r i12_ w12_0.1.2.1
        refine mm_iload_n C (mm_dec dk_X7_readSum 8 rfl) rfl ?_
        refine mm_sipush C (mm_dec dk_X7_readSum 9 rfl) ⟨by decide, by decide⟩ ?_
        have J79 : ∀ (w79_0 : mm_nB h12_), mm_W x 0 0 79 [mU, mU, mU, mU] [] h12_ := by
          intro w79_0
          have g31 : -2147483648 ≤ h12_.1 63 5 ∧ h12_.1 63 5 ≤ 2147483647 := i12_.1 63 5
          have g32 : 0 ≤ h12_.1 63 7 ∧ h12_.1 63 7 ≤ 500 := i12_.1 63 7
          have g33 : 0 ≤ h12_.1 63 8 ∧ h12_.1 63 8 ≤ 500 := i12_.1 63 8
          have g34 : 0 ≤ h12_.1 63 3 ∧ h12_.1 63 3 ≤ 500 := i12_.1 63 3
          have g35 : -2147483648 ≤ h12_.1 63 6 ∧ h12_.1 63 6 ≤ 2147483647 := i12_.1 63 6
          have g36 : -2147483648 ≤ h12_.1 63 9 ∧ h12_.1 63 9 ≤ 2147483647 := i12_.1 63 9
          have g37 : -2147483648 ≤ h12_.1 63 10 ∧ h12_.1 63 10 ≤ 2147483647 := i12_.1 63 10
          refine mm_iconst C (mm_dec dk_X7_readSum 40 rfl) ⟨by decide, by decide⟩ ?_
          exact mm_zret C T (mm_dec dk_X7_readSum 41 rfl) (by decide : 0 ≤ 0) (by decide : 0 ≤ 0) (by omega) ⟨_, rfl, ⟨⟨by omega, by omega⟩, i12_, f12_, by first | exact Or.inl ⟨rfl, w12_0, w79_0⟩ | exact Or.inr ⟨rfl, mm_or0 y2_0 (by omega)⟩ | exact Or.inr ⟨rfl, mm_g7_op w12_0 (by omega) zs (mm_or0 y60_0 (by omega))⟩⟩⟩
        refine mm_icmp_ge (tgt := 79) C (mm_dec dk_X7_readSum 10 rfl) (by decide) (fun c16 => ?_) (fun c16 => ?_)
        · skip
          refine mm_fgt 0 ?_
          refine mm_fgt 1 ?_
          refine mm_fgt 2 ?_
          exact J79 (by (unfold mm_nB; have zz := mm_hdx tf12; have z := w12_2; unfold mm_nA at z; omega))
        · skip
          refine mm_aload_n C (mm_dec dk_X7_readSum 11 rfl) rfl ?_
          refine mm_bipush C (mm_dec dk_X7_readSum 12 rfl) ⟨by decide, by decide⟩ ?_
          refine mm_cVi (rest := []) C1 ev_X7_96 (mm_dec dk_X7_readSum 13 rfl) (c_X7_isSign x.2.1 hl (d - 1) (by omega) h12_ i12_ 43 (by omega)) rfl rfl (Nat.le_of_ble_eq_true rfl) ⟨by decide, by decide⟩ rfl (fun r22 h22c hp22 => ?_) (fun _ _ q => q.elim)
          obtain ⟨z22, y22⟩ := hp22
          rw [z22]
          have g39 : -2147483648 ≤ (h12_.2.1 62 (h12_.1 63 7)) ∧ (h12_.2.1 62 (h12_.1 63 7)) ≤ 2147483647 := i12_.2.1 62 (h12_.1 63 7)
          have J37 : ∀ (w37_0 : (mm_cX h12_ = 143 ∨ mm_cX h12_ = 145)), mm_W x 0 0 37 [mR 63, mI p1, mI x12_2, mU] [] h12_ := by
            intro w37_0
            have g40 : -2147483648 ≤ h12_.1 63 5 ∧ h12_.1 63 5 ≤ 2147483647 := i12_.1 63 5
            have g41 : 0 ≤ h12_.1 63 7 ∧ h12_.1 63 7 ≤ 500 := i12_.1 63 7
            have g42 : 0 ≤ h12_.1 63 8 ∧ h12_.1 63 8 ≤ 500 := i12_.1 63 8
            have g43 : 0 ≤ h12_.1 63 3 ∧ h12_.1 63 3 ≤ 500 := i12_.1 63 3
            have g44 : -2147483648 ≤ h12_.1 63 6 ∧ h12_.1 63 6 ≤ 2147483647 := i12_.1 63 6
            have g45 : -2147483648 ≤ h12_.1 63 9 ∧ h12_.1 63 9 ≤ 2147483647 := i12_.1 63 9
            have g46 : -2147483648 ≤ h12_.1 63 10 ∧ h12_.1 63 10 ≤ 2147483647 := i12_.1 63 10
            refine mm_aload_n C (mm_dec dk_X7_readSum 19 rfl) rfl ?_
            refine mm_bipush C (mm_dec dk_X7_readSum 20 rfl) ⟨by decide, by decide⟩ ?_
            refine mm_cVi (rest := []) C1 ev_X7_96 (mm_dec dk_X7_readSum 21 rfl) (c_X7_isSign x.2.1 hl (d - 1) (by omega) h12_ i12_ 43 (by omega)) rfl rfl (Nat.le_of_ble_eq_true rfl) ⟨by decide, by decide⟩ rfl (fun r40 h40c hp40 => ?_) (fun _ _ q => q.elim)
            obtain ⟨z40, y40⟩ := hp40
            rw [z40]
            have J53 : ∀ (s53_0 : Int) (bs53_0 : 100015 ≤ s53_0 ∧ s53_0 ≤ 100016) (vs53_0 : (r40 ≠ 0 ∧ s53_0 = 100015) ∨ (r40 = 0 ∧ s53_0 = 100016)), mm_W x 0 0 53 [mR 63, mI p1, mI x12_2, mU] [mI s53_0] h12_ := by
              intro s53_0 bs53_0 vs53_0
              have g48 : -2147483648 ≤ h12_.1 63 5 ∧ h12_.1 63 5 ≤ 2147483647 := i12_.1 63 5
              have g49 : 0 ≤ h12_.1 63 7 ∧ h12_.1 63 7 ≤ 500 := i12_.1 63 7
              have g50 : 0 ≤ h12_.1 63 8 ∧ h12_.1 63 8 ≤ 500 := i12_.1 63 8
              have g51 : 0 ≤ h12_.1 63 3 ∧ h12_.1 63 3 ≤ 500 := i12_.1 63 3
              have g52 : -2147483648 ≤ h12_.1 63 6 ∧ h12_.1 63 6 ≤ 2147483647 := i12_.1 63 6
              have g53 : -2147483648 ≤ h12_.1 63 9 ∧ h12_.1 63 9 ≤ 2147483647 := i12_.1 63 9
              have g54 : -2147483648 ≤ h12_.1 63 10 ∧ h12_.1 63 10 ≤ 2147483647 := i12_.1 63 10
              refine mm_istore_nL (ls2 := [mR 63, mI p1, mI x12_2, mI s53_0]) C (mm_dec dk_X7_readSum 26 rfl) (by decide) rfl ?_
              refine mm_aload_n C (mm_dec dk_X7_readSum 27 rfl) rfl ?_
              refine mm_cVv (rest := []) C1 ev_X7_52 (mm_dec dk_X7_readSum 28 rfl) (c_X7_step_q x.2.1 hl (d - 1) (by omega) h12_ i12_ ) rfl rfl (Nat.le_of_ble_eq_true rfl) ⟨by decide, by decide⟩ rfl (fun h55c hp55 => ?_) (fun _ _ q => q.elim)
              obtain ⟨i55c, g55c, y55_0, y55_1, y55_2⟩ := hp55
              have f55c : mm_fr [(63, 4), (63, 5), (63, 6), (63, 7), (63, 8), (63, 9), (63, 10)] [64] h h55c := mm_fr_tr f12_ g55c (by decide +kernel)
              have q55c_56 : h55c.1 63 3 = h12_.1 63 3 := g55c.1 63 3 (by decide)
              have q55c_57 : h55c.1 63 9 = h12_.1 63 9 := g55c.1 63 9 (by decide)
              have q55c_58 : h55c.1 63 10 = h12_.1 63 10 := g55c.1 63 10 (by decide)
              have g59 : -2147483648 ≤ (h55c.1 63 5) ∧ (h55c.1 63 5) ≤ 2147483647 := i55c.1 63 5
              have g60 : 0 ≤ (h55c.1 63 7) ∧ (h55c.1 63 7) ≤ 500 := i55c.1 63 7
              have g61 : 0 ≤ (h55c.1 63 8) ∧ (h55c.1 63 8) ≤ 500 := i55c.1 63 8
              have g62 : -2147483648 ≤ (h55c.1 63 6) ∧ (h55c.1 63 6) ≤ 2147483647 := i55c.1 63 6
              have zs := mm_st7_of w12_0.1.2.1 y55_1 y55_2 g55c (by decide)
              have zl := mm_st7_lt zs (by omega)
              refine mm_aload_n C (mm_dec dk_X7_readSum 29 rfl) rfl ?_
              refine mm_iload_n C (mm_dec dk_X7_readSum 30 rfl) rfl ?_
              refine mm_cVi (rest := []) C1 ev_X7_116 (mm_dec dk_X7_readSum 31 rfl) (c_X7_readProduct_q0 x.2.1 hl (d - 1) (by omega) h55c i55c p1 ⟨by omega, by omega⟩ (by exact y55_1)) rfl rfl (Nat.le_of_ble_eq_true rfl) ⟨by decide, by decide⟩ rfl (fun r60 h60c hp60 => ?_) (fun _ _ q => q.elim)
              obtain ⟨b60, i60c, g60c, y60_0⟩ := hp60
              have f60c : mm_fr [(63, 4), (63, 5), (63, 6), (63, 7), (63, 8), (63, 9), (63, 10)] [64] h h60c := mm_fr_tr f55c g60c (by decide +kernel)
              have q60c_64 : h60c.1 63 3 = h55c.1 63 3 := g60c.1 63 3 (by decide)
              have g65 : -2147483648 ≤ (h60c.1 63 5) ∧ (h60c.1 63 5) ≤ 2147483647 := i60c.1 63 5
              have g66 : 0 ≤ (h60c.1 63 7) ∧ (h60c.1 63 7) ≤ 500 := i60c.1 63 7
              have g67 : 0 ≤ (h60c.1 63 8) ∧ (h60c.1 63 8) ≤ 500 := i60c.1 63 8
              have g68 : -2147483648 ≤ (h60c.1 63 6) ∧ (h60c.1 63 6) ≤ 2147483647 := i60c.1 63 6
              have g69 : -2147483648 ≤ (h60c.1 63 9) ∧ (h60c.1 63 9) ≤ 2147483647 := i60c.1 63 9
              have g70 : -2147483648 ≤ (h60c.1 63 10) ∧ (h60c.1 63 10) ≤ 2147483647 := i60c.1 63 10
              refine mm_if_ne (tgt := 68) C (mm_dec dk_X7_readSum 32 rfl) (by decide) (fun c63 => ?_) (fun c63 => ?_)
              · skip
                refine mm_aload_n C (mm_dec dk_X7_readSum 35 rfl) rfl ?_
                refine mm_iload_n C (mm_dec dk_X7_readSum 36 rfl) rfl ?_
                refine mm_cVv (rest := []) C1 ev_X7_79 (mm_dec dk_X7_readSum 37 rfl) (c_X7_emit x.2.1 hl (d - 1) (by omega) h60c i60c s53_0) rfl rfl (Nat.le_of_ble_eq_true rfl) ⟨by decide, by decide⟩ rfl (fun h70c hp70 => ?_) (fun _ _ q => q.elim)
                obtain ⟨i70c, g70c⟩ := hp70
                have f70c : mm_fr [(63, 4), (63, 5), (63, 6), (63, 7), (63, 8), (63, 9), (63, 10)] [64] h h70c := mm_fr_tr f60c g70c (by decide +kernel)
                have q70c_72 : h70c.1 63 3 = h60c.1 63 3 := g70c.1 63 3 (by decide)
                have q70c_73 : h70c.1 63 5 = h60c.1 63 5 := g70c.1 63 5 (by decide)
                have q70c_74 : h70c.1 63 6 = h60c.1 63 6 := g70c.1 63 6 (by decide)
                have q70c_75 : h70c.1 63 7 = h60c.1 63 7 := g70c.1 63 7 (by decide)
                have q70c_76 : h70c.1 63 8 = h60c.1 63 8 := g70c.1 63 8 (by decide)
                have q70c_77 : h70c.1 63 9 = h60c.1 63 9 := g70c.1 63 9 (by decide)
                have q70c_78 : h70c.1 63 10 = h60c.1 63 10 := g70c.1 63 10 (by decide)
                have zt := g70c.1 63 7 (by decide)
                have zu := (mm_or1 y60_0 (by omega)).1.2.1
                refine mm_iincL (ls2 := [mR 63, mI p1, mI (x12_2 + 1), mI s53_0]) C (mm_dec dk_X7_readSum 38 rfl) rfl (by decide) ⟨by omega, by omega⟩ rfl ?_
                refine mm_goto (tgt := 12) C (mm_dec dk_X7_readSum 39 rfl) (by decide) ?_
                refine mm_fgt 3 ?_
                exact ih12 (x12_2 + 1) ⟨by omega, by omega⟩ h70c i70c f70c (by first | exact (mm_or1 y2_0 (by omega)).1 | exact mm_p7_em (mm_p7_op w12_0 (by omega) zs (mm_or1 y60_0 (by omega)).1) (mm_em_fr g70c (by decide))) (by omega) (by first | exact (mm_or1 y2_0 (by omega)).2 | exact mm_nA_em (mm_or1 y60_0 (by omega)).2 (mm_em_fr g70c (by decide))) (by omega)
              · skip
                refine mm_iconst C (mm_dec dk_X7_readSum 33 rfl) ⟨by decide, by decide⟩ ?_
                exact mm_zret C T (mm_dec dk_X7_readSum 34 rfl) (by decide : 0 ≤ 0) (by decide : 0 ≤ 0) (by omega) ⟨_, rfl, ⟨⟨by omega, by omega⟩, i60c, f60c, by first | exact Or.inl ⟨rfl, w12_0, w79_0⟩ | exact Or.inr ⟨rfl, mm_or0 y2_0 (by omega)⟩ | exact Or.inr ⟨rfl, mm_g7_op w12_0 (by omega) zs (mm_or0 y60_0 (by omega))⟩⟩⟩
            refine mm_if_eq (tgt := 51) C (mm_dec dk_X7_readSum 22 rfl) (by decide) (fun c43 => ?_) (fun c43 => ?_)
            · skip
              refine mm_ldc (z := 100016) C (mm_dec dk_X7_readSum 25 rfl) kc_X7_120 (by decide) ?_
              exact J53 100016 ⟨by omega, by omega⟩ (Or.inr (⟨by omega, rfl⟩))
            · skip
              refine mm_ldc (z := 100015) C (mm_dec dk_X7_readSum 23 rfl) kc_X7_119 (by decide) ?_
              refine mm_goto (tgt := 53) C (mm_dec dk_X7_readSum 24 rfl) (by decide) ?_
              exact J53 100015 ⟨by omega, by omega⟩ (Or.inl ⟨by omega, rfl⟩)
          refine mm_if_ne (tgt := 37) C (mm_dec dk_X7_readSum 14 rfl) (by decide) (fun c25 => ?_) (fun c25 => ?_)
          · skip
            exact J37 (by have zz := mm_hdx tf12; omega)
          · skip
            refine mm_aload_n C (mm_dec dk_X7_readSum 15 rfl) rfl ?_
            refine mm_bipush C (mm_dec dk_X7_readSum 16 rfl) ⟨by decide, by decide⟩ ?_
            refine mm_cVi (rest := []) C1 ev_X7_96 (mm_dec dk_X7_readSum 17 rfl) (c_X7_isSign x.2.1 hl (d - 1) (by omega) h12_ i12_ 45 (by omega)) rfl rfl (Nat.le_of_ble_eq_true rfl) ⟨by decide, by decide⟩ rfl (fun r31 h31c hp31 => ?_) (fun _ _ q => q.elim)
            obtain ⟨z31, y31⟩ := hp31
            rw [z31]
            refine mm_if_eq (tgt := 79) C (mm_dec dk_X7_readSum 18 rfl) (by decide) (fun c34 => ?_) (fun c34 => ?_)
            · skip
              refine mm_fgt 0 ?_
              refine mm_fgt 1 ?_
              refine mm_fgt 2 ?_
              exact J79 (by (unfold mm_nB; have zz := mm_hdx tf12; have z := w12_2; unfold mm_nA at z; omega))
            · skip
              exact J37 (by have zz := mm_hdx tf12; omega)
    refine mm_istore_nL (ls2 := [mR 63, mI p1, mI 0, mU]) C (mm_dec dk_X7_readSum 7 rfl) (by decide) rfl ?_
    exact J12 (((500 - 0) : Int) + 1).toNat 0 ⟨by omega, by omega⟩ h2c i2c f2c (by first | exact (mm_or1 y2_0 (by omega)).1 | exact mm_p7_em (mm_p7_op w12_0 (by omega) zs (mm_or1 y60_0 (by omega)).1) (mm_em_fr g70c (by decide))) (by omega) (by first | exact (mm_or1 y2_0 (by omega)).2 | exact mm_nA_em (mm_or1 y60_0 (by omega)).2 (mm_em_fr g70c (by decide))) (by omega)
  · skip
    refine mm_iconst C (mm_dec dk_X7_readSum 4 rfl) ⟨by decide, by decide⟩ ?_
    exact mm_zret C T (mm_dec dk_X7_readSum 5 rfl) (by decide : 0 ≤ 0) (by decide : 0 ≤ 0) (by omega) ⟨_, rfl, ⟨⟨by omega, by omega⟩, i2c, f2c, by first | exact Or.inl ⟨rfl, w12_0, w79_0⟩ | exact Or.inr ⟨rfl, mm_or0 y2_0 (by omega)⟩ | exact Or.inr ⟨rfl, mm_g7_op w12_0 (by omega) zs (mm_or0 y60_0 (by omega))⟩⟩⟩
set_option maxRecDepth 100000 in
set_option maxHeartbeats 4000000 in
theorem c_X7_readTest_q0 (l : Launch) (hl : l.stackTraces = false) (d : Nat) (hd : 44 ≤ d) (h : mH) (i0 : mm_inv h) (p1 : Int) (bp1 : 0 ≤ p1 ∧ p1 ≤ 0) (t0 : mm_aX h) : mm_Met l d yX7_readTest cX7_readTest 3 (some .boolean) [mR 63, mI p1] h (mm_pi fun r h2 => (0 ≤ r ∧ r ≤ 1) ∧ mm_inv h2 ∧ mm_fr [(63, 4), (63, 5), (63, 6), (63, 7), (63, 8), (63, 9), (63, 10)] [64] h h2 ∧ ((r = 1 ∧ mm_q7 1 0 h h2 ∧ mm_nB h2) ∨ (r = 0 ∧ mm_f7 1 0 h h2))) mm_nx 0 0 := by
  refine mm_ofW (ls := [mR 63, mI p1, mU]) hl (by decide) rfl (Nat.le_of_ble_eq_true rfl) ?_
  intro x hxl C T hnm htb
  subst hxl
  have C1 := mm_OK_le (d' := d - 1 + 1) (by omega) C
  have C8 := mm_OK_le (d' := d - 8 + 8) (by omega) C
  refine mm_rng (fun hr _ => ?_)
  have ap1 : -2147483648 ≤ p1 ∧ p1 < 2147483648 := mm_ok_at hr (i := 1) rfl
  have f0 : mm_fr [(63, 4), (63, 5), (63, 6), (63, 7), (63, 8), (63, 9), (63, 10)] [64] h h := mm_fr_rf
  have g1 : -2147483648 ≤ h.1 63 5 ∧ h.1 63 5 ≤ 2147483647 := i0.1 63 5
  have g2 : 0 ≤ h.1 63 7 ∧ h.1 63 7 ≤ 500 := i0.1 63 7
  have g3 : 0 ≤ h.1 63 8 ∧ h.1 63 8 ≤ 500 := i0.1 63 8
  have g4 : 0 ≤ h.1 63 3 ∧ h.1 63 3 ≤ 500 := i0.1 63 3
  have g5 : -2147483648 ≤ h.1 63 6 ∧ h.1 63 6 ≤ 2147483647 := i0.1 63 6
  have g6 : -2147483648 ≤ h.1 63 9 ∧ h.1 63 9 ≤ 2147483647 := i0.1 63 9
  have g7 : -2147483648 ≤ h.1 63 10 ∧ h.1 63 10 ≤ 2147483647 := i0.1 63 10
  have tf := mm_cX_h i0 t0
  have tr := mm_cX_r i0 t0
  refine mm_aload_n C (mm_dec dk_X7_readTest 0 rfl) rfl ?_
  refine mm_iload_n C (mm_dec dk_X7_readTest 1 rfl) rfl ?_
  refine mm_cVi (rest := []) C1 ev_X7_111 (mm_dec dk_X7_readTest 2 rfl) (c_X7_readSum_q0 x.2.1 hl (d - 1) (by omega) h i0 p1 ⟨by omega, by omega⟩ (by exact t0)) rfl rfl (Nat.le_of_ble_eq_true rfl) ⟨by decide, by decide⟩ rfl (fun r2 h2c hp2 => ?_) (fun _ _ q => q.elim)
  obtain ⟨b2, i2c, g2c, y2_0⟩ := hp2
  have f2c : mm_fr [(63, 4), (63, 5), (63, 6), (63, 7), (63, 8), (63, 9), (63, 10)] [64] h h2c := mm_fr_tr f0 g2c (by decide +kernel)
  have q2c_9 : h2c.1 63 3 = h.1 63 3 := g2c.1 63 3 (by decide)
  have g10 : -2147483648 ≤ (h2c.1 63 5) ∧ (h2c.1 63 5) ≤ 2147483647 := i2c.1 63 5
  have g11 : 0 ≤ (h2c.1 63 7) ∧ (h2c.1 63 7) ≤ 500 := i2c.1 63 7
  have g12 : 0 ≤ (h2c.1 63 8) ∧ (h2c.1 63 8) ≤ 500 := i2c.1 63 8
  have g13 : -2147483648 ≤ (h2c.1 63 6) ∧ (h2c.1 63 6) ≤ 2147483647 := i2c.1 63 6
  have g14 : -2147483648 ≤ (h2c.1 63 9) ∧ (h2c.1 63 9) ≤ 2147483647 := i2c.1 63 9
  have g15 : -2147483648 ≤ (h2c.1 63 10) ∧ (h2c.1 63 10) ≤ 2147483647 := i2c.1 63 10
  refine mm_if_ne (tgt := 10) C (mm_dec dk_X7_readTest 3 rfl) (by decide) (fun c5 => ?_) (fun c5 => ?_)
  · skip
    have zp := mm_or1 y2_0 (by omega)
    have tg := mm_cX_h i2c zp.1.1.2.1
    have th := mm_cX_r i2c zp.1.1.2.1
    refine mm_aload_n C (mm_dec dk_X7_readTest 6 rfl) rfl ?_
    refine mm_bipush C (mm_dec dk_X7_readTest 7 rfl) ⟨by decide, by decide⟩ ?_
    refine mm_cVi (rest := []) C1 ev_X7_96 (mm_dec dk_X7_readTest 8 rfl) (c_X7_isSign x.2.1 hl (d - 1) (by omega) h2c i2c 60 (by omega)) rfl rfl (Nat.le_of_ble_eq_true rfl) ⟨by decide, by decide⟩ rfl (fun r13 h13c hp13 => ?_) (fun _ _ q => q.elim)
    obtain ⟨z13, y13⟩ := hp13
    rw [z13]
    have g17 : -2147483648 ≤ (h2c.2.1 62 (h2c.1 63 7)) ∧ (h2c.2.1 62 (h2c.1 63 7)) ≤ 2147483647 := i2c.2.1 62 (h2c.1 63 7)
    have J39 : ∀ (s39_0 : Int) (bs39_0 : -1 ≤ s39_0 ∧ s39_0 ≤ 100014) (w39_0 : ((s39_0 ≠ -1 ∧ (mm_cX h2c = 160 ∨ mm_cX h2c = 161)) ∨ (s39_0 = -1 ∧ mm_cX h2c ≠ 160 ∧ mm_cX h2c ≠ 161))) (vs39_0 : (r13 = 0 ∧ s39_0 = -1) ∨ (r13 ≠ 0 ∧ s39_0 = 100013) ∨ (r13 = 0 ∧ s39_0 = 100014)), mm_W x 0 0 39 [mR 63, mI p1, mU] [mI s39_0] h2c := by
      intro s39_0 bs39_0 w39_0 vs39_0
      refine mm_istore_nL (ls2 := [mR 63, mI p1, mI s39_0]) C (mm_dec dk_X7_readTest 19 rfl) (by decide) rfl ?_
      refine mm_iload_n C (mm_dec dk_X7_readTest 20 rfl) rfl ?_
      refine mm_iconst C (mm_dec dk_X7_readTest 21 rfl) ⟨by decide, by decide⟩ ?_
      have J64 : ∀ (h64_ : mH) (i64_ : mm_inv h64_) (f64_ : mm_fr [(63, 4), (63, 5), (63, 6), (63, 7), (63, 8), (63, 9), (63, 10)] [64] h h64_) (w64_0 : mm_q7 1 0 h h64_) (w64_1 : mm_nB h64_), mm_W x 0 0 64 [mU, mU, mU] [] h64_ := by
        intro h64_ i64_ f64_ w64_0 w64_1
        have g18 : -2147483648 ≤ h64_.1 63 5 ∧ h64_.1 63 5 ≤ 2147483647 := i64_.1 63 5
        have g19 : 0 ≤ h64_.1 63 7 ∧ h64_.1 63 7 ≤ 500 := i64_.1 63 7
        have g20 : 0 ≤ h64_.1 63 8 ∧ h64_.1 63 8 ≤ 500 := i64_.1 63 8
        have g21 : 0 ≤ h64_.1 63 3 ∧ h64_.1 63 3 ≤ 500 := i64_.1 63 3
        have g22 : -2147483648 ≤ h64_.1 63 6 ∧ h64_.1 63 6 ≤ 2147483647 := i64_.1 63 6
        have g23 : -2147483648 ≤ h64_.1 63 9 ∧ h64_.1 63 9 ≤ 2147483647 := i64_.1 63 9
        have g24 : -2147483648 ≤ h64_.1 63 10 ∧ h64_.1 63 10 ≤ 2147483647 := i64_.1 63 10
        have g25 : h64_.1 63 3 = h.1 63 3 := f64_.1 63 3 (by decide)
        refine mm_iconst C (mm_dec dk_X7_readTest 34 rfl) ⟨by decide, by decide⟩ ?_
        exact mm_zret C T (mm_dec dk_X7_readTest 35 rfl) (by decide : 0 ≤ 0) (by decide : 0 ≤ 0) (by omega) ⟨_, rfl, ⟨⟨by omega, by omega⟩, i64_, f64_, by first | exact Or.inl ⟨rfl, w64_0, w64_1⟩ | exact Or.inr ⟨rfl, mm_f7_sum (mm_or0 y2_0 (by omega))⟩ | exact Or.inr ⟨rfl, mm_f7_lt zp.1 (by omega) zs (mm_or0 y51_0 (by omega))⟩⟩⟩
      refine mm_icmp_eq (tgt := 64) C (mm_dec dk_X7_readTest 22 rfl) (by decide) (fun c42 => ?_) (fun c42 => ?_)
      · skip
        refine mm_fgt 0 ?_
        refine mm_fgt 1 ?_
        refine mm_fgt 2 ?_
        exact J64 h2c i2c f2c (by first | exact mm_q7_sum zp.1 (by omega) | exact mm_q7_em (mm_q7_lt zp.1 (by omega) zs (mm_or1 y51_0 (by omega)).1) (mm_em_fr g61c (by decide))) (by first | exact zp.2 | exact mm_nB_em (mm_or1 y51_0 (by omega)).2 (mm_em_fr g61c (by decide)))
      · skip
        refine mm_aload_n C (mm_dec dk_X7_readTest 23 rfl) rfl ?_
        refine mm_cVv (rest := []) C1 ev_X7_52 (mm_dec dk_X7_readTest 24 rfl) (c_X7_step_q x.2.1 hl (d - 1) (by omega) h2c i2c ) rfl rfl (Nat.le_of_ble_eq_true rfl) ⟨by decide, by decide⟩ rfl (fun h46c hp46 => ?_) (fun _ _ q => q.elim)
        obtain ⟨i46c, g46c, y46_0, y46_1, y46_2⟩ := hp46
        have f46c : mm_fr [(63, 4), (63, 5), (63, 6), (63, 7), (63, 8), (63, 9), (63, 10)] [64] h h46c := mm_fr_tr f2c g46c (by decide +kernel)
        have q46c_27 : h46c.1 63 3 = h2c.1 63 3 := g46c.1 63 3 (by decide)
        have q46c_28 : h46c.1 63 9 = h2c.1 63 9 := g46c.1 63 9 (by decide)
        have q46c_29 : h46c.1 63 10 = h2c.1 63 10 := g46c.1 63 10 (by decide)
        have g30 : -2147483648 ≤ (h46c.1 63 5) ∧ (h46c.1 63 5) ≤ 2147483647 := i46c.1 63 5
        have g31 : 0 ≤ (h46c.1 63 7) ∧ (h46c.1 63 7) ≤ 500 := i46c.1 63 7
        have g32 : 0 ≤ (h46c.1 63 8) ∧ (h46c.1 63 8) ≤ 500 := i46c.1 63 8
        have g33 : -2147483648 ≤ (h46c.1 63 6) ∧ (h46c.1 63 6) ≤ 2147483647 := i46c.1 63 6
        have zs := mm_st7_of zp.1.1.2.1 y46_1 y46_2 g46c (by decide)
        refine mm_aload_n C (mm_dec dk_X7_readTest 25 rfl) rfl ?_
        refine mm_iload_n C (mm_dec dk_X7_readTest 26 rfl) rfl ?_
        refine mm_cVi (rest := []) C1 ev_X7_111 (mm_dec dk_X7_readTest 27 rfl) (c_X7_readSum_q0 x.2.1 hl (d - 1) (by omega) h46c i46c p1 ⟨by omega, by omega⟩ (by exact y46_1)) rfl rfl (Nat.le_of_ble_eq_true rfl) ⟨by decide, by decide⟩ rfl (fun r51 h51c hp51 => ?_) (fun _ _ q => q.elim)
        obtain ⟨b51, i51c, g51c, y51_0⟩ := hp51
        have f51c : mm_fr [(63, 4), (63, 5), (63, 6), (63, 7), (63, 8), (63, 9), (63, 10)] [64] h h51c := mm_fr_tr f46c g51c (by decide +kernel)
        have q51c_35 : h51c.1 63 3 = h46c.1 63 3 := g51c.1 63 3 (by decide)
        have g36 : -2147483648 ≤ (h51c.1 63 5) ∧ (h51c.1 63 5) ≤ 2147483647 := i51c.1 63 5
        have g37 : 0 ≤ (h51c.1 63 7) ∧ (h51c.1 63 7) ≤ 500 := i51c.1 63 7
        have g38 : 0 ≤ (h51c.1 63 8) ∧ (h51c.1 63 8) ≤ 500 := i51c.1 63 8
        have g39 : -2147483648 ≤ (h51c.1 63 6) ∧ (h51c.1 63 6) ≤ 2147483647 := i51c.1 63 6
        have g40 : -2147483648 ≤ (h51c.1 63 9) ∧ (h51c.1 63 9) ≤ 2147483647 := i51c.1 63 9
        have g41 : -2147483648 ≤ (h51c.1 63 10) ∧ (h51c.1 63 10) ≤ 2147483647 := i51c.1 63 10
        refine mm_if_ne (tgt := 59) C (mm_dec dk_X7_readTest 28 rfl) (by decide) (fun c54 => ?_) (fun c54 => ?_)
        · skip
          refine mm_aload_n C (mm_dec dk_X7_readTest 31 rfl) rfl ?_
          refine mm_iload_n C (mm_dec dk_X7_readTest 32 rfl) rfl ?_
          refine mm_cVv (rest := []) C1 ev_X7_79 (mm_dec dk_X7_readTest 33 rfl) (c_X7_emit x.2.1 hl (d - 1) (by omega) h51c i51c s39_0) rfl rfl (Nat.le_of_ble_eq_true rfl) ⟨by decide, by decide⟩ rfl (fun h61c hp61 => ?_) (fun _ _ q => q.elim)
          obtain ⟨i61c, g61c⟩ := hp61
          have f61c : mm_fr [(63, 4), (63, 5), (63, 6), (63, 7), (63, 8), (63, 9), (63, 10)] [64] h h61c := mm_fr_tr f51c g61c (by decide +kernel)
          have q61c_43 : h61c.1 63 3 = h51c.1 63 3 := g61c.1 63 3 (by decide)
          have q61c_44 : h61c.1 63 5 = h51c.1 63 5 := g61c.1 63 5 (by decide)
          have q61c_45 : h61c.1 63 6 = h51c.1 63 6 := g61c.1 63 6 (by decide)
          have q61c_46 : h61c.1 63 7 = h51c.1 63 7 := g61c.1 63 7 (by decide)
          have q61c_47 : h61c.1 63 8 = h51c.1 63 8 := g61c.1 63 8 (by decide)
          have q61c_48 : h61c.1 63 9 = h51c.1 63 9 := g61c.1 63 9 (by decide)
          have q61c_49 : h61c.1 63 10 = h51c.1 63 10 := g61c.1 63 10 (by decide)
          refine mm_fgt 0 ?_
          refine mm_fgt 1 ?_
          refine mm_fgt 2 ?_
          exact J64 h61c i61c f61c (by first | exact mm_q7_sum zp.1 (by omega) | exact mm_q7_em (mm_q7_lt zp.1 (by omega) zs (mm_or1 y51_0 (by omega)).1) (mm_em_fr g61c (by decide))) (by first | exact zp.2 | exact mm_nB_em (mm_or1 y51_0 (by omega)).2 (mm_em_fr g61c (by decide)))
        · skip
          refine mm_iconst C (mm_dec dk_X7_readTest 29 rfl) ⟨by decide, by decide⟩ ?_
          exact mm_zret C T (mm_dec dk_X7_readTest 30 rfl) (by decide : 0 ≤ 0) (by decide : 0 ≤ 0) (by omega) ⟨_, rfl, ⟨⟨by omega, by omega⟩, i51c, f51c, by first | exact Or.inl ⟨rfl, w64_0, w64_1⟩ | exact Or.inr ⟨rfl, mm_f7_sum (mm_or0 y2_0 (by omega))⟩ | exact Or.inr ⟨rfl, mm_f7_lt zp.1 (by omega) zs (mm_or0 y51_0 (by omega))⟩⟩⟩
    refine mm_if_eq (tgt := 24) C (mm_dec dk_X7_readTest 9 rfl) (by decide) (fun c16 => ?_) (fun c16 => ?_)
    · skip
      refine mm_aload_n C (mm_dec dk_X7_readTest 12 rfl) rfl ?_
      refine mm_bipush C (mm_dec dk_X7_readTest 13 rfl) ⟨by decide, by decide⟩ ?_
      refine mm_cVi (rest := []) C1 ev_X7_96 (mm_dec dk_X7_readTest 14 rfl) (c_X7_isSign x.2.1 hl (d - 1) (by omega) h2c i2c 61 (by omega)) rfl rfl (Nat.le_of_ble_eq_true rfl) ⟨by decide, by decide⟩ rfl (fun r27 h27c hp27 => ?_) (fun _ _ q => q.elim)
      obtain ⟨z27, y27⟩ := hp27
      rw [z27]
      refine mm_if_eq (tgt := 38) C (mm_dec dk_X7_readTest 15 rfl) (by decide) (fun c30 => ?_) (fun c30 => ?_)
      · skip
        refine mm_iconst C (mm_dec dk_X7_readTest 18 rfl) ⟨by decide, by decide⟩ ?_
        exact J39 (-1) ⟨by omega, by omega⟩ (by have zz := mm_hdx tg; omega) (Or.inl ⟨by omega, rfl⟩)
      · skip
        refine mm_ldc (z := 100014) C (mm_dec dk_X7_readTest 16 rfl) kc_X7_115 (by decide) ?_
        refine mm_goto (tgt := 39) C (mm_dec dk_X7_readTest 17 rfl) (by decide) ?_
        exact J39 100014 ⟨by omega, by omega⟩ (by have zz := mm_hdx tg; omega) (Or.inr (Or.inr (⟨by omega, rfl⟩)))
    · skip
      refine mm_ldc (z := 100013) C (mm_dec dk_X7_readTest 10 rfl) kc_X7_114 (by decide) ?_
      refine mm_goto (tgt := 39) C (mm_dec dk_X7_readTest 11 rfl) (by decide) ?_
      exact J39 100013 ⟨by omega, by omega⟩ (by have zz := mm_hdx tg; omega) (Or.inr (Or.inl ⟨by omega, rfl⟩))
  · skip
    refine mm_iconst C (mm_dec dk_X7_readTest 4 rfl) ⟨by decide, by decide⟩ ?_
    exact mm_zret C T (mm_dec dk_X7_readTest 5 rfl) (by decide : 0 ≤ 0) (by decide : 0 ≤ 0) (by omega) ⟨_, rfl, ⟨⟨by omega, by omega⟩, i2c, f2c, by first | exact Or.inl ⟨rfl, w64_0, w64_1⟩ | exact Or.inr ⟨rfl, mm_f7_sum (mm_or0 y2_0 (by omega))⟩ | exact Or.inr ⟨rfl, mm_f7_lt zp.1 (by omega) zs (mm_or0 y51_0 (by omega))⟩⟩⟩
set_option maxRecDepth 100000 in
set_option maxHeartbeats 4000000 in
theorem c_X7_readNot_q0 (l : Launch) (hl : l.stackTraces = false) (d : Nat) (hd : 45 ≤ d) (h : mH) (i0 : mm_inv h) (p1 : Int) (bp1 : 0 ≤ p1 ∧ p1 ≤ 0) (t0 : mm_aX h) : mm_Met l d yX7_readNot cX7_readNot 4 (some .boolean) [mR 63, mI p1] h (mm_pi fun r h2 => (0 ≤ r ∧ r ≤ 1) ∧ mm_inv h2 ∧ mm_fr [(63, 4), (63, 5), (63, 6), (63, 7), (63, 8), (63, 9), (63, 10)] [64] h h2 ∧ ((r = 1 ∧ mm_q7 0 0 h h2 ∧ mm_nB h2) ∨ (r = 0 ∧ mm_f7 0 0 h h2))) mm_nx 0 0 := by
  refine mm_ofW (ls := [mR 63, mI p1, mU, mU]) hl (by decide) rfl (Nat.le_of_ble_eq_true rfl) ?_
  intro x hxl C T hnm htb
  subst hxl
  have C1 := mm_OK_le (d' := d - 1 + 1) (by omega) C
  have C8 := mm_OK_le (d' := d - 8 + 8) (by omega) C
  refine mm_rng (fun hr _ => ?_)
  have ap1 : -2147483648 ≤ p1 ∧ p1 < 2147483648 := mm_ok_at hr (i := 1) rfl
  have f0 : mm_fr [(63, 4), (63, 5), (63, 6), (63, 7), (63, 8), (63, 9), (63, 10)] [64] h h := mm_fr_rf
  have g1 : -2147483648 ≤ h.1 63 5 ∧ h.1 63 5 ≤ 2147483647 := i0.1 63 5
  have g2 : 0 ≤ h.1 63 7 ∧ h.1 63 7 ≤ 500 := i0.1 63 7
  have g3 : 0 ≤ h.1 63 8 ∧ h.1 63 8 ≤ 500 := i0.1 63 8
  have g4 : 0 ≤ h.1 63 3 ∧ h.1 63 3 ≤ 500 := i0.1 63 3
  have g5 : -2147483648 ≤ h.1 63 6 ∧ h.1 63 6 ≤ 2147483647 := i0.1 63 6
  have g6 : -2147483648 ≤ h.1 63 9 ∧ h.1 63 9 ≤ 2147483647 := i0.1 63 9
  have g7 : -2147483648 ≤ h.1 63 10 ∧ h.1 63 10 ≤ 2147483647 := i0.1 63 10
  refine mm_iconst C (mm_dec dk_X7_readNot 0 rfl) ⟨by decide, by decide⟩ ?_
  have J2 : ∀ (n : Nat) (x2_2 : Int) (bx2_2 : 0 ≤ x2_2 ∧ x2_2 ≤ 6) (h2_ : mH) (i2_ : mm_inv h2_) (f2_ : mm_fr [(63, 4), (63, 5), (63, 6), (63, 7), (63, 8), (63, 9), (63, 10)] [64] h h2_) (w2_0 : mm_n7 0 x2_2 h h2_), (6 - x2_2 : Int) < n → mm_W x 0 0 2 [mR 63, mI p1, mI x2_2, mU] [] h2_ := by
    intro n
    induction n with
    | zero =>
      intro x2_2 bx2_2 h2_ i2_ f2_ w2_0 hm
      have g8 : -2147483648 ≤ h2_.1 63 5 ∧ h2_.1 63 5 ≤ 2147483647 := i2_.1 63 5
      have g9 : 0 ≤ h2_.1 63 7 ∧ h2_.1 63 7 ≤ 500 := i2_.1 63 7
      have g10 : 0 ≤ h2_.1 63 8 ∧ h2_.1 63 8 ≤ 500 := i2_.1 63 8
      have g11 : 0 ≤ h2_.1 63 3 ∧ h2_.1 63 3 ≤ 500 := i2_.1 63 3
      have g12 : -2147483648 ≤ h2_.1 63 6 ∧ h2_.1 63 6 ≤ 2147483647 := i2_.1 63 6
      have g13 : -2147483648 ≤ h2_.1 63 9 ∧ h2_.1 63 9 ≤ 2147483647 := i2_.1 63 9
      have g14 : -2147483648 ≤ h2_.1 63 10 ∧ h2_.1 63 10 ≤ 2147483647 := i2_.1 63 10
      exfalso; omega
    | succ n ih2 =>
      intro x2_2 bx2_2 h2_ i2_ f2_ w2_0 hm2
      have g15 : -2147483648 ≤ h2_.1 63 5 ∧ h2_.1 63 5 ≤ 2147483647 := i2_.1 63 5
      have g16 : 0 ≤ h2_.1 63 7 ∧ h2_.1 63 7 ≤ 500 := i2_.1 63 7
      have g17 : 0 ≤ h2_.1 63 8 ∧ h2_.1 63 8 ≤ 500 := i2_.1 63 8
      have g18 : 0 ≤ h2_.1 63 3 ∧ h2_.1 63 3 ≤ 500 := i2_.1 63 3
      have g19 : -2147483648 ≤ h2_.1 63 6 ∧ h2_.1 63 6 ≤ 2147483647 := i2_.1 63 6
      have g20 : -2147483648 ≤ h2_.1 63 9 ∧ h2_.1 63 9 ≤ 2147483647 := i2_.1 63 9
      have g21 : -2147483648 ≤ h2_.1 63 10 ∧ h2_.1 63 10 ≤ 2147483647 := i2_.1 63 10
      have g22 : h2_.1 63 3 = h.1 63 3 := f2_.1 63 3 (by decide)
      have tf2 := mm_cX_h i2_ w2_0.1.2.1
      have tr2 := mm_cX_r i2_ w2_0.1.2.1
      refine mm_iload_n C (mm_dec dk_X7_readNot 2 rfl) rfl ?_
      refine mm_bipush C (mm_dec dk_X7_readNot 3 rfl) ⟨by decide, by decide⟩ ?_
      have J27 : ∀ (w27_0 : (6 ≤ x2_2 ∨ mm_cX h2_ ≠ 6)), mm_W x 0 0 27 [mR 63, mI p1, mI x2_2, mU] [] h2_ := by
        intro w27_0
        have g23 : -2147483648 ≤ h2_.1 63 5 ∧ h2_.1 63 5 ≤ 2147483647 := i2_.1 63 5
        have g24 : 0 ≤ h2_.1 63 7 ∧ h2_.1 63 7 ≤ 500 := i2_.1 63 7
        have g25 : 0 ≤ h2_.1 63 8 ∧ h2_.1 63 8 ≤ 500 := i2_.1 63 8
        have g26 : 0 ≤ h2_.1 63 3 ∧ h2_.1 63 3 ≤ 500 := i2_.1 63 3
        have g27 : -2147483648 ≤ h2_.1 63 6 ∧ h2_.1 63 6 ≤ 2147483647 := i2_.1 63 6
        have g28 : -2147483648 ≤ h2_.1 63 9 ∧ h2_.1 63 9 ≤ 2147483647 := i2_.1 63 9
        have g29 : -2147483648 ≤ h2_.1 63 10 ∧ h2_.1 63 10 ≤ 2147483647 := i2_.1 63 10
        refine mm_iload_n C (mm_dec dk_X7_readNot 13 rfl) rfl ?_
        refine mm_bipush C (mm_dec dk_X7_readNot 14 rfl) ⟨by decide, by decide⟩ ?_
        have J48 : ∀ (w48_0 : mm_cX h2_ ≠ 6), mm_W x 0 0 48 [mR 63, mI p1, mI x2_2, mU] [] h2_ := by
          intro w48_0
          have g30 : -2147483648 ≤ h2_.1 63 5 ∧ h2_.1 63 5 ≤ 2147483647 := i2_.1 63 5
          have g31 : 0 ≤ h2_.1 63 7 ∧ h2_.1 63 7 ≤ 500 := i2_.1 63 7
          have g32 : 0 ≤ h2_.1 63 8 ∧ h2_.1 63 8 ≤ 500 := i2_.1 63 8
          have g33 : 0 ≤ h2_.1 63 3 ∧ h2_.1 63 3 ≤ 500 := i2_.1 63 3
          have g34 : -2147483648 ≤ h2_.1 63 6 ∧ h2_.1 63 6 ≤ 2147483647 := i2_.1 63 6
          have g35 : -2147483648 ≤ h2_.1 63 9 ∧ h2_.1 63 9 ≤ 2147483647 := i2_.1 63 9
          have g36 : -2147483648 ≤ h2_.1 63 10 ∧ h2_.1 63 10 ≤ 2147483647 := i2_.1 63 10
          refine mm_aload_n C (mm_dec dk_X7_readNot 24 rfl) rfl ?_
          refine mm_iload_n C (mm_dec dk_X7_readNot 25 rfl) rfl ?_
          refine mm_cVi (rest := []) C1 ev_X7_107 (mm_dec dk_X7_readNot 26 rfl) (c_X7_readTest_q0 x.2.1 hl (d - 1) (by omega) h2_ i2_ p1 ⟨by omega, by omega⟩ (by exact w2_0.1.2.1)) rfl rfl (Nat.le_of_ble_eq_true rfl) ⟨by decide, by decide⟩ rfl (fun r50 h50c hp50 => ?_) (fun _ _ q => q.elim)
          obtain ⟨b50, i50c, g50c, y50_0⟩ := hp50
          have f50c : mm_fr [(63, 4), (63, 5), (63, 6), (63, 7), (63, 8), (63, 9), (63, 10)] [64] h h50c := mm_fr_tr f2_ g50c (by decide +kernel)
          have q50c_38 : h50c.1 63 3 = h2_.1 63 3 := g50c.1 63 3 (by decide)
          have g39 : -2147483648 ≤ (h50c.1 63 5) ∧ (h50c.1 63 5) ≤ 2147483647 := i50c.1 63 5
          have g40 : 0 ≤ (h50c.1 63 7) ∧ (h50c.1 63 7) ≤ 500 := i50c.1 63 7
          have g41 : 0 ≤ (h50c.1 63 8) ∧ (h50c.1 63 8) ≤ 500 := i50c.1 63 8
          have g42 : -2147483648 ≤ (h50c.1 63 6) ∧ (h50c.1 63 6) ≤ 2147483647 := i50c.1 63 6
          have g43 : -2147483648 ≤ (h50c.1 63 9) ∧ (h50c.1 63 9) ≤ 2147483647 := i50c.1 63 9
          have g44 : -2147483648 ≤ (h50c.1 63 10) ∧ (h50c.1 63 10) ≤ 2147483647 := i50c.1 63 10
          refine mm_if_ne (tgt := 58) C (mm_dec dk_X7_readNot 27 rfl) (by decide) (fun c53 => ?_) (fun c53 => ?_)
          · skip
            refine mm_iconst C (mm_dec dk_X7_readNot 30 rfl) ⟨by decide, by decide⟩ ?_
            have J60 : ∀ (n : Nat) (x60_3 : Int) (bx60_3 : 0 ≤ x60_3 ∧ x60_3 ≤ 7) (h60_ : mH) (i60_ : mm_inv h60_) (f60_ : mm_fr [(63, 4), (63, 5), (63, 6), (63, 7), (63, 8), (63, 9), (63, 10)] [64] h h60_) (w60_0 : mm_q7 0 0 h h60_) (w60_1 : mm_nB h60_), (7 - x60_3 : Int) < n → mm_W x 0 0 60 [mR 63, mU, mI x2_2, mI x60_3] [] h60_ := by
              intro n
              induction n with
              | zero =>
                intro x60_3 bx60_3 h60_ i60_ f60_ w60_0 w60_1 hm
                have g45 : -2147483648 ≤ h60_.1 63 5 ∧ h60_.1 63 5 ≤ 2147483647 := i60_.1 63 5
                have g46 : 0 ≤ h60_.1 63 7 ∧ h60_.1 63 7 ≤ 500 := i60_.1 63 7
                have g47 : 0 ≤ h60_.1 63 8 ∧ h60_.1 63 8 ≤ 500 := i60_.1 63 8
                have g48 : 0 ≤ h60_.1 63 3 ∧ h60_.1 63 3 ≤ 500 := i60_.1 63 3
                have g49 : -2147483648 ≤ h60_.1 63 6 ∧ h60_.1 63 6 ≤ 2147483647 := i60_.1 63 6
                have g50 : -2147483648 ≤ h60_.1 63 9 ∧ h60_.1 63 9 ≤ 2147483647 := i60_.1 63 9
                have g51 : -2147483648 ≤ h60_.1 63 10 ∧ h60_.1 63 10 ≤ 2147483647 := i60_.1 63 10
                exfalso; omega
              | succ n ih60 =>
                intro x60_3 bx60_3 h60_ i60_ f60_ w60_0 w60_1 hm60
                have g52 : -2147483648 ≤ h60_.1 63 5 ∧ h60_.1 63 5 ≤ 2147483647 := i60_.1 63 5
                have g53 : 0 ≤ h60_.1 63 7 ∧ h60_.1 63 7 ≤ 500 := i60_.1 63 7
                have g54 : 0 ≤ h60_.1 63 8 ∧ h60_.1 63 8 ≤ 500 := i60_.1 63 8
                have g55 : 0 ≤ h60_.1 63 3 ∧ h60_.1 63 3 ≤ 500 := i60_.1 63 3
                have g56 : -2147483648 ≤ h60_.1 63 6 ∧ h60_.1 63 6 ≤ 2147483647 := i60_.1 63 6
                have g57 : -2147483648 ≤ h60_.1 63 9 ∧ h60_.1 63 9 ≤ 2147483647 := i60_.1 63 9
                have g58 : -2147483648 ≤ h60_.1 63 10 ∧ h60_.1 63 10 ≤ 2147483647 := i60_.1 63 10
                have g59 : h60_.1 63 3 = h.1 63 3 := f60_.1 63 3 (by decide)
                refine mm_iload_n C (mm_dec dk_X7_readNot 32 rfl) rfl ?_
                refine mm_iload_n C (mm_dec dk_X7_readNot 33 rfl) rfl ?_
                refine mm_icmp_ge (tgt := 77) C (mm_dec dk_X7_readNot 34 rfl) (by decide) (fun c62 => ?_) (fun c62 => ?_)
                · skip
                  refine mm_iconst C (mm_dec dk_X7_readNot 40 rfl) ⟨by decide, by decide⟩ ?_
                  exact mm_zret C T (mm_dec dk_X7_readNot 41 rfl) (by decide : 0 ≤ 0) (by decide : 0 ≤ 0) (by omega) ⟨_, rfl, ⟨⟨by omega, by omega⟩, i60_, f60_, by first | exact Or.inl ⟨rfl, w60_0, w60_1⟩ | exact Or.inr ⟨rfl, mm_f7_not w2_0 w48_0 (mm_or0 y50_0 (by omega))⟩ | exact Or.inr ⟨by omega, mm_f7_nots (by rw [show (6 : Int) = x2_2 by omega]; exact w2_0) (by have zz := mm_hdx tf2; omega) y44_0 y44_1⟩⟩⟩
                · skip
                  refine mm_aload_n C (mm_dec dk_X7_readNot 35 rfl) rfl ?_
                  refine mm_ldc (z := 100010) C (mm_dec dk_X7_readNot 36 rfl) kc_X7_110 (by decide) ?_
                  refine mm_cVv (rest := []) C1 ev_X7_79 (mm_dec dk_X7_readNot 37 rfl) (c_X7_emit x.2.1 hl (d - 1) (by omega) h60_ i60_ 100010) rfl rfl (Nat.le_of_ble_eq_true rfl) ⟨by decide, by decide⟩ rfl (fun h68c hp68 => ?_) (fun _ _ q => q.elim)
                  obtain ⟨i68c, g68c⟩ := hp68
                  have f68c : mm_fr [(63, 4), (63, 5), (63, 6), (63, 7), (63, 8), (63, 9), (63, 10)] [64] h h68c := mm_fr_tr f60_ g68c (by decide +kernel)
                  have q68c_61 : h68c.1 63 3 = h60_.1 63 3 := g68c.1 63 3 (by decide)
                  have q68c_62 : h68c.1 63 5 = h60_.1 63 5 := g68c.1 63 5 (by decide)
                  have q68c_63 : h68c.1 63 6 = h60_.1 63 6 := g68c.1 63 6 (by decide)
                  have q68c_64 : h68c.1 63 7 = h60_.1 63 7 := g68c.1 63 7 (by decide)
                  have q68c_65 : h68c.1 63 8 = h60_.1 63 8 := g68c.1 63 8 (by decide)
                  have q68c_66 : h68c.1 63 9 = h60_.1 63 9 := g68c.1 63 9 (by decide)
                  have q68c_67 : h68c.1 63 10 = h60_.1 63 10 := g68c.1 63 10 (by decide)
                  refine mm_iincL (ls2 := [mR 63, mU, mI x2_2, mI (x60_3 + 1)]) C (mm_dec dk_X7_readNot 38 rfl) rfl (by decide) ⟨by omega, by omega⟩ rfl ?_
                  refine mm_goto (tgt := 60) C (mm_dec dk_X7_readNot 39 rfl) (by decide) ?_
                  exact ih60 (x60_3 + 1) ⟨by omega, by omega⟩ h68c i68c f68c (by first | exact mm_q7_not w2_0 w48_0 (mm_or1 y50_0 (by omega)).1 | exact mm_q7_em w60_0 (mm_em_fr g68c (by decide))) (by first | exact (mm_or1 y50_0 (by omega)).2 | exact mm_nB_em w60_1 (mm_em_fr g68c (by decide))) (by omega)
            refine mm_istore_nL (ls2 := [mR 63, mI p1, mI x2_2, mI 0]) C (mm_dec dk_X7_readNot 31 rfl) (by decide) rfl ?_
            refine mm_fgt 1 ?_
            exact J60 (((7 - 0) : Int) + 1).toNat 0 ⟨by omega, by omega⟩ h50c i50c f50c (by first | exact mm_q7_not w2_0 w48_0 (mm_or1 y50_0 (by omega)).1 | exact mm_q7_em w60_0 (mm_em_fr g68c (by decide))) (by first | exact (mm_or1 y50_0 (by omega)).2 | exact mm_nB_em w60_1 (mm_em_fr g68c (by decide))) (by omega)
          · skip
            refine mm_iconst C (mm_dec dk_X7_readNot 28 rfl) ⟨by decide, by decide⟩ ?_
            exact mm_zret C T (mm_dec dk_X7_readNot 29 rfl) (by decide : 0 ≤ 0) (by decide : 0 ≤ 0) (by omega) ⟨_, rfl, ⟨⟨by omega, by omega⟩, i50c, f50c, by first | exact Or.inl ⟨rfl, w60_0, w60_1⟩ | exact Or.inr ⟨rfl, mm_f7_not w2_0 w48_0 (mm_or0 y50_0 (by omega))⟩ | exact Or.inr ⟨by omega, mm_f7_nots (by rw [show (6 : Int) = x2_2 by omega]; exact w2_0) (by have zz := mm_hdx tf2; omega) y44_0 y44_1⟩⟩⟩
        refine mm_icmp_ne (tgt := 48) C (mm_dec dk_X7_readNot 15 rfl) (by decide) (fun c30 => ?_) (fun c30 => ?_)
        · skip
          exact J48 (by have zz := mm_hdx tf2; omega)
        · skip
          refine mm_aload_n C (mm_dec dk_X7_readNot 16 rfl) rfl ?_
          refine mm_geti C fl_X7_28 (mm_dec dk_X7_readNot 17 rfl) rfl rfl (Or.inl rfl) ?_
          refine mm_bipush C (mm_dec dk_X7_readNot 18 rfl) ⟨by decide, by decide⟩ ?_
          refine mm_icmp_ne (tgt := 48) C (mm_dec dk_X7_readNot 19 rfl) (by decide) (fun c39 => ?_) (fun c39 => ?_)
          · skip
            exact J48 (by have zz := mm_hdx tf2; omega)
          · skip
            refine mm_aload_n C (mm_dec dk_X7_readNot 20 rfl) rfl ?_
            refine mm_iconst C (mm_dec dk_X7_readNot 21 rfl) ⟨by decide, by decide⟩ ?_
            refine mm_cVi (rest := []) C1 ev_X7_65 (mm_dec dk_X7_readNot 22 rfl) (c_X7_refuse_q x.2.1 hl (d - 1) (by omega) h2_ i2_ 2) rfl rfl (Nat.le_of_ble_eq_true rfl) ⟨by decide, by decide⟩ rfl (fun r44 h44c hp44 => ?_) (fun _ _ q => q.elim)
            obtain ⟨b44, i44c, g44c, y44_0, y44_1⟩ := hp44
            have f44c : mm_fr [(63, 4), (63, 5), (63, 6), (63, 7), (63, 8), (63, 9), (63, 10)] [64] h h44c := mm_fr_tr f2_ g44c (by decide +kernel)
            have q44c_69 : h44c.1 63 3 = h2_.1 63 3 := g44c.1 63 3 (by decide)
            have q44c_70 : h44c.1 63 5 = h2_.1 63 5 := g44c.1 63 5 (by decide)
            have q44c_71 : h44c.1 63 6 = h2_.1 63 6 := g44c.1 63 6 (by decide)
            have q44c_72 : h44c.1 63 7 = h2_.1 63 7 := g44c.1 63 7 (by decide)
            have q44c_73 : h44c.1 63 8 = h2_.1 63 8 := g44c.1 63 8 (by decide)
            have g74 : -2147483648 ≤ (h44c.1 63 9) ∧ (h44c.1 63 9) ≤ 2147483647 := i44c.1 63 9
            have g75 : -2147483648 ≤ (h44c.1 63 10) ∧ (h44c.1 63 10) ≤ 2147483647 := i44c.1 63 10
            exact mm_zret C T (mm_dec dk_X7_readNot 23 rfl) (by decide : 0 ≤ 0) (by decide : 0 ≤ 0) (by omega) ⟨_, rfl, ⟨⟨by omega, by omega⟩, i44c, f44c, by first | exact Or.inl ⟨rfl, w60_0, w60_1⟩ | exact Or.inr ⟨rfl, mm_f7_not w2_0 w48_0 (mm_or0 y50_0 (by omega))⟩ | exact Or.inr ⟨by omega, mm_f7_nots (by rw [show (6 : Int) = x2_2 by omega]; exact w2_0) (by have zz := mm_hdx tf2; omega) y44_0 y44_1⟩⟩⟩
      refine mm_icmp_ge (tgt := 27) C (mm_dec dk_X7_readNot 4 rfl) (by decide) (fun c5 => ?_) (fun c5 => ?_)
      · skip
        exact J27 (by have zz := mm_hdx tf2; omega)
      · skip
        refine mm_aload_n C (mm_dec dk_X7_readNot 5 rfl) rfl ?_
        refine mm_geti C fl_X7_28 (mm_dec dk_X7_readNot 6 rfl) rfl rfl (Or.inl rfl) ?_
        refine mm_bipush C (mm_dec dk_X7_readNot 7 rfl) ⟨by decide, by decide⟩ ?_
        refine mm_icmp_ne (tgt := 27) C (mm_dec dk_X7_readNot 8 rfl) (by decide) (fun c14 => ?_) (fun c14 => ?_)
        · skip
          exact J27 (by have zz := mm_hdx tf2; omega)
        · skip
          refine mm_iincL (ls2 := [mR 63, mI p1, mI (x2_2 + 1), mU]) C (mm_dec dk_X7_readNot 9 rfl) rfl (by decide) ⟨by omega, by omega⟩ rfl ?_
          refine mm_aload_n C (mm_dec dk_X7_readNot 10 rfl) rfl ?_
          refine mm_cVv (rest := []) C1 ev_X7_52 (mm_dec dk_X7_readNot 11 rfl) (c_X7_step_q x.2.1 hl (d - 1) (by omega) h2_ i2_ ) rfl rfl (Nat.le_of_ble_eq_true rfl) ⟨by decide, by decide⟩ rfl (fun h21c hp21 => ?_) (fun _ _ q => q.elim)
          obtain ⟨i21c, g21c, y21_0, y21_1, y21_2⟩ := hp21
          have f21c : mm_fr [(63, 4), (63, 5), (63, 6), (63, 7), (63, 8), (63, 9), (63, 10)] [64] h h21c := mm_fr_tr f2_ g21c (by decide +kernel)
          have q21c_77 : h21c.1 63 3 = h2_.1 63 3 := g21c.1 63 3 (by decide)
          have q21c_78 : h21c.1 63 9 = h2_.1 63 9 := g21c.1 63 9 (by decide)
          have q21c_79 : h21c.1 63 10 = h2_.1 63 10 := g21c.1 63 10 (by decide)
          have g80 : -2147483648 ≤ (h21c.1 63 5) ∧ (h21c.1 63 5) ≤ 2147483647 := i21c.1 63 5
          have g81 : 0 ≤ (h21c.1 63 7) ∧ (h21c.1 63 7) ≤ 500 := i21c.1 63 7
          have g82 : 0 ≤ (h21c.1 63 8) ∧ (h21c.1 63 8) ≤ 500 := i21c.1 63 8
          have g83 : -2147483648 ≤ (h21c.1 63 6) ∧ (h21c.1 63 6) ≤ 2147483647 := i21c.1 63 6
          refine mm_goto (tgt := 2) C (mm_dec dk_X7_readNot 12 rfl) (by decide) ?_
          exact ih2 (x2_2 + 1) ⟨by omega, by omega⟩ h21c i21c f21c (by first | exact mm_n7_0 t0 | exact mm_n7_s w2_0 (by have zz := mm_hdx tf2; omega) (by omega) (mm_st7_of w2_0.1.2.1 y21_1 y21_2 g21c (by decide))) (by omega)
  refine mm_istore_nL (ls2 := [mR 63, mI p1, mI 0, mU]) C (mm_dec dk_X7_readNot 1 rfl) (by decide) rfl ?_
  exact J2 (((6 - 0) : Int) + 1).toNat 0 ⟨by omega, by omega⟩ h i0 f0 (by first | exact mm_n7_0 t0 | exact mm_n7_s w2_0 (by have zz := mm_hdx tf2; omega) (by omega) (mm_st7_of w2_0.1.2.1 y21_1 y21_2 g21c (by decide))) (by omega)
set_option maxRecDepth 100000 in
set_option maxHeartbeats 4000000 in
theorem c_X7_readAnd_q0 (l : Launch) (hl : l.stackTraces = false) (d : Nat) (hd : 46 ≤ d) (h : mH) (i0 : mm_inv h) (p1 : Int) (bp1 : 0 ≤ p1 ∧ p1 ≤ 0) (t0 : mm_aX h) : mm_Met l d yX7_readAnd cX7_readAnd 3 (some .boolean) [mR 63, mI p1] h (mm_pi fun r h2 => (0 ≤ r ∧ r ≤ 1) ∧ mm_inv h2 ∧ mm_fr [(63, 4), (63, 5), (63, 6), (63, 7), (63, 8), (63, 9), (63, 10)] [64] h h2 ∧ ((r = 1 ∧ mm_q7 0 0 h h2 ∧ mm_nC h2) ∨ (r = 0 ∧ mm_f7 0 0 h h2))) mm_nx 0 0 := by
  refine mm_ofW (ls := [mR 63, mI p1, mU]) hl (by decide) rfl (Nat.le_of_ble_eq_true rfl) ?_
  intro x hxl C T hnm htb
  subst hxl
  have C1 := mm_OK_le (d' := d - 1 + 1) (by omega) C
  have C8 := mm_OK_le (d' := d - 8 + 8) (by omega) C
  refine mm_rng (fun hr _ => ?_)
  have ap1 : -2147483648 ≤ p1 ∧ p1 < 2147483648 := mm_ok_at hr (i := 1) rfl
  have f0 : mm_fr [(63, 4), (63, 5), (63, 6), (63, 7), (63, 8), (63, 9), (63, 10)] [64] h h := mm_fr_rf
  have g1 : -2147483648 ≤ h.1 63 5 ∧ h.1 63 5 ≤ 2147483647 := i0.1 63 5
  have g2 : 0 ≤ h.1 63 7 ∧ h.1 63 7 ≤ 500 := i0.1 63 7
  have g3 : 0 ≤ h.1 63 8 ∧ h.1 63 8 ≤ 500 := i0.1 63 8
  have g4 : 0 ≤ h.1 63 3 ∧ h.1 63 3 ≤ 500 := i0.1 63 3
  have g5 : -2147483648 ≤ h.1 63 6 ∧ h.1 63 6 ≤ 2147483647 := i0.1 63 6
  have g6 : -2147483648 ≤ h.1 63 9 ∧ h.1 63 9 ≤ 2147483647 := i0.1 63 9
  have g7 : -2147483648 ≤ h.1 63 10 ∧ h.1 63 10 ≤ 2147483647 := i0.1 63 10
  refine mm_aload_n C (mm_dec dk_X7_readAnd 0 rfl) rfl ?_
  refine mm_iload_n C (mm_dec dk_X7_readAnd 1 rfl) rfl ?_
  refine mm_cVi (rest := []) C1 ev_X7_103 (mm_dec dk_X7_readAnd 2 rfl) (c_X7_readNot_q0 x.2.1 hl (d - 1) (by omega) h i0 p1 ⟨by omega, by omega⟩ (by exact t0)) rfl rfl (Nat.le_of_ble_eq_true rfl) ⟨by decide, by decide⟩ rfl (fun r2 h2c hp2 => ?_) (fun _ _ q => q.elim)
  obtain ⟨b2, i2c, g2c, y2_0⟩ := hp2
  have f2c : mm_fr [(63, 4), (63, 5), (63, 6), (63, 7), (63, 8), (63, 9), (63, 10)] [64] h h2c := mm_fr_tr f0 g2c (by decide +kernel)
  have q2c_9 : h2c.1 63 3 = h.1 63 3 := g2c.1 63 3 (by decide)
  have g10 : -2147483648 ≤ (h2c.1 63 5) ∧ (h2c.1 63 5) ≤ 2147483647 := i2c.1 63 5
  have g11 : 0 ≤ (h2c.1 63 7) ∧ (h2c.1 63 7) ≤ 500 := i2c.1 63 7
  have g12 : 0 ≤ (h2c.1 63 8) ∧ (h2c.1 63 8) ≤ 500 := i2c.1 63 8
  have g13 : -2147483648 ≤ (h2c.1 63 6) ∧ (h2c.1 63 6) ≤ 2147483647 := i2c.1 63 6
  have g14 : -2147483648 ≤ (h2c.1 63 9) ∧ (h2c.1 63 9) ≤ 2147483647 := i2c.1 63 9
  have g15 : -2147483648 ≤ (h2c.1 63 10) ∧ (h2c.1 63 10) ≤ 2147483647 := i2c.1 63 10
  refine mm_if_ne (tgt := 10) C (mm_dec dk_X7_readAnd 3 rfl) (by decide) (fun c5 => ?_) (fun c5 => ?_)
  · skip
    refine mm_iconst C (mm_dec dk_X7_readAnd 6 rfl) ⟨by decide, by decide⟩ ?_
    have J12 : ∀ (n : Nat) (x12_2 : Int) (bx12_2 : 0 ≤ x12_2 ∧ x12_2 ≤ 500) (h12_ : mH) (i12_ : mm_inv h12_) (f12_ : mm_fr [(63, 4), (63, 5), (63, 6), (63, 7), (63, 8), (63, 9), (63, 10)] [64] h h12_) (w12_0 : mm_q7 0 0 h h12_) (w12_1 : x12_2 ≤ h12_.1 63 7) (w12_2 : mm_nB h12_), (500 - x12_2 : Int) < n → mm_W x 0 0 12 [mR 63, mI p1, mI x12_2] [] h12_ := by
      intro n
      induction n with
      | zero =>
        intro x12_2 bx12_2 h12_ i12_ f12_ w12_0 w12_1 w12_2 hm
        have g16 : -2147483648 ≤ h12_.1 63 5 ∧ h12_.1 63 5 ≤ 2147483647 := i12_.1 63 5
        have g17 : 0 ≤ h12_.1 63 7 ∧ h12_.1 63 7 ≤ 500 := i12_.1 63 7
        have g18 : 0 ≤ h12_.1 63 8 ∧ h12_.1 63 8 ≤ 500 := i12_.1 63 8
        have g19 : 0 ≤ h12_.1 63 3 ∧ h12_.1 63 3 ≤ 500 := i12_.1 63 3
        have g20 : -2147483648 ≤ h12_.1 63 6 ∧ h12_.1 63 6 ≤ 2147483647 := i12_.1 63 6
        have g21 : -2147483648 ≤ h12_.1 63 9 ∧ h12_.1 63 9 ≤ 2147483647 := i12_.1 63 9
        have g22 : -2147483648 ≤ h12_.1 63 10 ∧ h12_.1 63 10 ≤ 2147483647 := i12_.1 63 10
        exfalso; omega
      | succ n ih12 =>
        intro x12_2 bx12_2 h12_ i12_ f12_ w12_0 w12_1 w12_2 hm12
        have g23 : -2147483648 ≤ h12_.1 63 5 ∧ h12_.1 63 5 ≤ 2147483647 := i12_.1 63 5
        have g24 : 0 ≤ h12_.1 63 7 ∧ h12_.1 63 7 ≤ 500 := i12_.1 63 7
        have g25 : 0 ≤ h12_.1 63 8 ∧ h12_.1 63 8 ≤ 500 := i12_.1 63 8
        have g26 : 0 ≤ h12_.1 63 3 ∧ h12_.1 63 3 ≤ 500 := i12_.1 63 3
        have g27 : -2147483648 ≤ h12_.1 63 6 ∧ h12_.1 63 6 ≤ 2147483647 := i12_.1 63 6
        have g28 : -2147483648 ≤ h12_.1 63 9 ∧ h12_.1 63 9 ≤ 2147483647 := i12_.1 63 9
        have g29 : -2147483648 ≤ h12_.1 63 10 ∧ h12_.1 63 10 ≤ 2147483647 := i12_.1 63 10
        have g30 : h12_.1 63 3 = h.1 63 3 := f12_.1 63 3 (by decide)
        have tf12 := mm_cX_h i12_ w12_0.1.2.1
        have tr12 := mm_cX_r i12_ w12_0.1.2.1
        refine mm_iload_n C (mm_dec dk_X7_readAnd 8 rfl) rfl ?_
        refine mm_sipush C (mm_dec dk_X7_readAnd 9 rfl) ⟨by decide, by decide⟩ ?_
        have J53 : ∀ (w53_0 : mm_nC h12_), mm_W x 0 0 53 [mU, mU, mU] [] h12_ := by
          intro w53_0
          have g31 : -2147483648 ≤ h12_.1 63 5 ∧ h12_.1 63 5 ≤ 2147483647 := i12_.1 63 5
          have g32 : 0 ≤ h12_.1 63 7 ∧ h12_.1 63 7 ≤ 500 := i12_.1 63 7
          have g33 : 0 ≤ h12_.1 63 8 ∧ h12_.1 63 8 ≤ 500 := i12_.1 63 8
          have g34 : 0 ≤ h12_.1 63 3 ∧ h12_.1 63 3 ≤ 500 := i12_.1 63 3
          have g35 : -2147483648 ≤ h12_.1 63 6 ∧ h12_.1 63 6 ≤ 2147483647 := i12_.1 63 6
          have g36 : -2147483648 ≤ h12_.1 63 9 ∧ h12_.1 63 9 ≤ 2147483647 := i12_.1 63 9
          have g37 : -2147483648 ≤ h12_.1 63 10 ∧ h12_.1 63 10 ≤ 2147483647 := i12_.1 63 10
          refine mm_iconst C (mm_dec dk_X7_readAnd 28 rfl) ⟨by decide, by decide⟩ ?_
          exact mm_zret C T (mm_dec dk_X7_readAnd 29 rfl) (by decide : 0 ≤ 0) (by decide : 0 ≤ 0) (by omega) ⟨_, rfl, ⟨⟨by omega, by omega⟩, i12_, f12_, by first | exact Or.inl ⟨rfl, w12_0, w53_0⟩ | exact Or.inr ⟨rfl, mm_or0 y2_0 (by omega)⟩ | exact Or.inr ⟨rfl, mm_f7_and w12_0 zc zs (mm_or0 y33_0 (by omega))⟩⟩⟩
        refine mm_icmp_ge (tgt := 53) C (mm_dec dk_X7_readAnd 10 rfl) (by decide) (fun c16 => ?_) (fun c16 => ?_)
        · skip
          refine mm_fgt 0 ?_
          refine mm_fgt 1 ?_
          refine mm_fgt 2 ?_
          exact J53 (by (have z := w12_2; unfold mm_nB at z; unfold mm_nC; have zz := mm_hdx tf12; omega))
        · skip
          refine mm_aload_n C (mm_dec dk_X7_readAnd 11 rfl) rfl ?_
          refine mm_geti C fl_X7_28 (mm_dec dk_X7_readAnd 12 rfl) rfl rfl (Or.inl rfl) ?_
          refine mm_iconst C (mm_dec dk_X7_readAnd 13 rfl) ⟨by decide, by decide⟩ ?_
          refine mm_icmp_ne (tgt := 53) C (mm_dec dk_X7_readAnd 14 rfl) (by decide) (fun c24 => ?_) (fun c24 => ?_)
          · skip
            refine mm_fgt 0 ?_
            refine mm_fgt 1 ?_
            refine mm_fgt 2 ?_
            exact J53 (by (have z := w12_2; unfold mm_nB at z; unfold mm_nC; have zz := mm_hdx tf12; omega))
          · skip
            refine mm_aload_n C (mm_dec dk_X7_readAnd 15 rfl) rfl ?_
            refine mm_cVv (rest := []) C1 ev_X7_52 (mm_dec dk_X7_readAnd 16 rfl) (c_X7_step_q x.2.1 hl (d - 1) (by omega) h12_ i12_ ) rfl rfl (Nat.le_of_ble_eq_true rfl) ⟨by decide, by decide⟩ rfl (fun h28c hp28 => ?_) (fun _ _ q => q.elim)
            obtain ⟨i28c, g28c, y28_0, y28_1, y28_2⟩ := hp28
            have f28c : mm_fr [(63, 4), (63, 5), (63, 6), (63, 7), (63, 8), (63, 9), (63, 10)] [64] h h28c := mm_fr_tr f12_ g28c (by decide +kernel)
            have q28c_39 : h28c.1 63 3 = h12_.1 63 3 := g28c.1 63 3 (by decide)
            have q28c_40 : h28c.1 63 9 = h12_.1 63 9 := g28c.1 63 9 (by decide)
            have q28c_41 : h28c.1 63 10 = h12_.1 63 10 := g28c.1 63 10 (by decide)
            have g42 : -2147483648 ≤ (h28c.1 63 5) ∧ (h28c.1 63 5) ≤ 2147483647 := i28c.1 63 5
            have g43 : 0 ≤ (h28c.1 63 7) ∧ (h28c.1 63 7) ≤ 500 := i28c.1 63 7
            have g44 : 0 ≤ (h28c.1 63 8) ∧ (h28c.1 63 8) ≤ 500 := i28c.1 63 8
            have g45 : -2147483648 ≤ (h28c.1 63 6) ∧ (h28c.1 63 6) ≤ 2147483647 := i28c.1 63 6
            have zs := mm_st7_of w12_0.1.2.1 y28_1 y28_2 g28c (by decide)
            have zc : mm_cX h12_ = 4 ∨ mm_cX h12_ = 5 := by have zz := mm_hdx tf12; omega
            have zl := mm_st7_lt zs (by omega)
            refine mm_aload_n C (mm_dec dk_X7_readAnd 17 rfl) rfl ?_
            refine mm_iload_n C (mm_dec dk_X7_readAnd 18 rfl) rfl ?_
            refine mm_cVi (rest := []) C1 ev_X7_103 (mm_dec dk_X7_readAnd 19 rfl) (c_X7_readNot_q0 x.2.1 hl (d - 1) (by omega) h28c i28c p1 ⟨by omega, by omega⟩ (by exact y28_1)) rfl rfl (Nat.le_of_ble_eq_true rfl) ⟨by decide, by decide⟩ rfl (fun r33 h33c hp33 => ?_) (fun _ _ q => q.elim)
            obtain ⟨b33, i33c, g33c, y33_0⟩ := hp33
            have f33c : mm_fr [(63, 4), (63, 5), (63, 6), (63, 7), (63, 8), (63, 9), (63, 10)] [64] h h33c := mm_fr_tr f28c g33c (by decide +kernel)
            have q33c_47 : h33c.1 63 3 = h28c.1 63 3 := g33c.1 63 3 (by decide)
            have g48 : -2147483648 ≤ (h33c.1 63 5) ∧ (h33c.1 63 5) ≤ 2147483647 := i33c.1 63 5
            have g49 : 0 ≤ (h33c.1 63 7) ∧ (h33c.1 63 7) ≤ 500 := i33c.1 63 7
            have g50 : 0 ≤ (h33c.1 63 8) ∧ (h33c.1 63 8) ≤ 500 := i33c.1 63 8
            have g51 : -2147483648 ≤ (h33c.1 63 6) ∧ (h33c.1 63 6) ≤ 2147483647 := i33c.1 63 6
            have g52 : -2147483648 ≤ (h33c.1 63 9) ∧ (h33c.1 63 9) ≤ 2147483647 := i33c.1 63 9
            have g53 : -2147483648 ≤ (h33c.1 63 10) ∧ (h33c.1 63 10) ≤ 2147483647 := i33c.1 63 10
            refine mm_if_ne (tgt := 41) C (mm_dec dk_X7_readAnd 20 rfl) (by decide) (fun c36 => ?_) (fun c36 => ?_)
            · skip
              refine mm_aload_n C (mm_dec dk_X7_readAnd 23 rfl) rfl ?_
              refine mm_ldc (z := 100012) C (mm_dec dk_X7_readAnd 24 rfl) kc_X7_106 (by decide) ?_
              refine mm_cVv (rest := []) C1 ev_X7_79 (mm_dec dk_X7_readAnd 25 rfl) (c_X7_emit x.2.1 hl (d - 1) (by omega) h33c i33c 100012) rfl rfl (Nat.le_of_ble_eq_true rfl) ⟨by decide, by decide⟩ rfl (fun h44c hp44 => ?_) (fun _ _ q => q.elim)
              obtain ⟨i44c, g44c⟩ := hp44
              have f44c : mm_fr [(63, 4), (63, 5), (63, 6), (63, 7), (63, 8), (63, 9), (63, 10)] [64] h h44c := mm_fr_tr f33c g44c (by decide +kernel)
              have q44c_55 : h44c.1 63 3 = h33c.1 63 3 := g44c.1 63 3 (by decide)
              have q44c_56 : h44c.1 63 5 = h33c.1 63 5 := g44c.1 63 5 (by decide)
              have q44c_57 : h44c.1 63 6 = h33c.1 63 6 := g44c.1 63 6 (by decide)
              have q44c_58 : h44c.1 63 7 = h33c.1 63 7 := g44c.1 63 7 (by decide)
              have q44c_59 : h44c.1 63 8 = h33c.1 63 8 := g44c.1 63 8 (by decide)
              have q44c_60 : h44c.1 63 9 = h33c.1 63 9 := g44c.1 63 9 (by decide)
              have q44c_61 : h44c.1 63 10 = h33c.1 63 10 := g44c.1 63 10 (by decide)
              have zt := g44c.1 63 7 (by decide)
              have zu := (mm_or1 y33_0 (by omega)).1.2.1
              refine mm_iincL (ls2 := [mR 63, mI p1, mI (x12_2 + 1)]) C (mm_dec dk_X7_readAnd 26 rfl) rfl (by decide) ⟨by omega, by omega⟩ rfl ?_
              refine mm_goto (tgt := 12) C (mm_dec dk_X7_readAnd 27 rfl) (by decide) ?_
              exact ih12 (x12_2 + 1) ⟨by omega, by omega⟩ h44c i44c f44c (by first | exact (mm_or1 y2_0 (by omega)).1 | exact mm_q7_em (mm_q7_and w12_0 zc zs (mm_or1 y33_0 (by omega)).1) (mm_em_fr g44c (by decide))) (by omega) (by first | exact (mm_or1 y2_0 (by omega)).2 | exact mm_nB_em (mm_or1 y33_0 (by omega)).2 (mm_em_fr g44c (by decide))) (by omega)
            · skip
              refine mm_iconst C (mm_dec dk_X7_readAnd 21 rfl) ⟨by decide, by decide⟩ ?_
              exact mm_zret C T (mm_dec dk_X7_readAnd 22 rfl) (by decide : 0 ≤ 0) (by decide : 0 ≤ 0) (by omega) ⟨_, rfl, ⟨⟨by omega, by omega⟩, i33c, f33c, by first | exact Or.inl ⟨rfl, w12_0, w53_0⟩ | exact Or.inr ⟨rfl, mm_or0 y2_0 (by omega)⟩ | exact Or.inr ⟨rfl, mm_f7_and w12_0 zc zs (mm_or0 y33_0 (by omega))⟩⟩⟩
    refine mm_istore_nL (ls2 := [mR 63, mI p1, mI 0]) C (mm_dec dk_X7_readAnd 7 rfl) (by decide) rfl ?_
    exact J12 (((500 - 0) : Int) + 1).toNat 0 ⟨by omega, by omega⟩ h2c i2c f2c (by first | exact (mm_or1 y2_0 (by omega)).1 | exact mm_q7_em (mm_q7_and w12_0 zc zs (mm_or1 y33_0 (by omega)).1) (mm_em_fr g44c (by decide))) (by omega) (by first | exact (mm_or1 y2_0 (by omega)).2 | exact mm_nB_em (mm_or1 y33_0 (by omega)).2 (mm_em_fr g44c (by decide))) (by omega)
  · skip
    refine mm_iconst C (mm_dec dk_X7_readAnd 4 rfl) ⟨by decide, by decide⟩ ?_
    exact mm_zret C T (mm_dec dk_X7_readAnd 5 rfl) (by decide : 0 ≤ 0) (by decide : 0 ≤ 0) (by omega) ⟨_, rfl, ⟨⟨by omega, by omega⟩, i2c, f2c, by first | exact Or.inl ⟨rfl, w12_0, w53_0⟩ | exact Or.inr ⟨rfl, mm_or0 y2_0 (by omega)⟩ | exact Or.inr ⟨rfl, mm_f7_and w12_0 zc zs (mm_or0 y33_0 (by omega))⟩⟩⟩
set_option maxRecDepth 100000 in
set_option maxHeartbeats 4000000 in
theorem c_X7_readOr_q0 (l : Launch) (hl : l.stackTraces = false) (d : Nat) (hd : 47 ≤ d) (h : mH) (i0 : mm_inv h) (p1 : Int) (bp1 : 0 ≤ p1 ∧ p1 ≤ 0) (t0 : mm_aX h) : mm_Met l d yX7_readOr cX7_readOr 3 (some .boolean) [mR 63, mI p1] h (mm_pi fun r h2 => (0 ≤ r ∧ r ≤ 1) ∧ mm_inv h2 ∧ mm_fr [(63, 4), (63, 5), (63, 6), (63, 7), (63, 8), (63, 9), (63, 10)] [64] h h2 ∧ ((r = 1 ∧ mm_q7 0 0 h h2 ∧ mm_nD h2) ∨ (r = 0 ∧ mm_f7 0 0 h h2))) mm_nx 0 0 := by
  refine mm_ofW (ls := [mR 63, mI p1, mU]) hl (by decide) rfl (Nat.le_of_ble_eq_true rfl) ?_
  intro x hxl C T hnm htb
  subst hxl
  have C1 := mm_OK_le (d' := d - 1 + 1) (by omega) C
  have C8 := mm_OK_le (d' := d - 8 + 8) (by omega) C
  refine mm_rng (fun hr _ => ?_)
  have ap1 : -2147483648 ≤ p1 ∧ p1 < 2147483648 := mm_ok_at hr (i := 1) rfl
  have f0 : mm_fr [(63, 4), (63, 5), (63, 6), (63, 7), (63, 8), (63, 9), (63, 10)] [64] h h := mm_fr_rf
  have g1 : -2147483648 ≤ h.1 63 5 ∧ h.1 63 5 ≤ 2147483647 := i0.1 63 5
  have g2 : 0 ≤ h.1 63 7 ∧ h.1 63 7 ≤ 500 := i0.1 63 7
  have g3 : 0 ≤ h.1 63 8 ∧ h.1 63 8 ≤ 500 := i0.1 63 8
  have g4 : 0 ≤ h.1 63 3 ∧ h.1 63 3 ≤ 500 := i0.1 63 3
  have g5 : -2147483648 ≤ h.1 63 6 ∧ h.1 63 6 ≤ 2147483647 := i0.1 63 6
  have g6 : -2147483648 ≤ h.1 63 9 ∧ h.1 63 9 ≤ 2147483647 := i0.1 63 9
  have g7 : -2147483648 ≤ h.1 63 10 ∧ h.1 63 10 ≤ 2147483647 := i0.1 63 10
  refine mm_iload_n C (mm_dec dk_X7_readOr 0 rfl) rfl ?_
  refine mm_bipush C (mm_dec dk_X7_readOr 1 rfl) ⟨by decide, by decide⟩ ?_
  refine mm_icmp_lt (tgt := 41) C (mm_dec dk_X7_readOr 2 rfl) (by decide) (fun c3 => ?_) (fun c3 => ?_)
  · skip
    refine mm_aload_n C (mm_dec dk_X7_readOr 21 rfl) rfl ?_
    refine mm_iload_n C (mm_dec dk_X7_readOr 22 rfl) rfl ?_
    refine mm_cVi (rest := []) C1 ev_X7_99 (mm_dec dk_X7_readOr 23 rfl) (c_X7_readAnd_q0 x.2.1 hl (d - 1) (by omega) h i0 p1 ⟨by omega, by omega⟩ (by exact t0)) rfl rfl (Nat.le_of_ble_eq_true rfl) ⟨by decide, by decide⟩ rfl (fun r43 h43c hp43 => ?_) (fun _ _ q => q.elim)
    obtain ⟨b43, i43c, g43c, y43_0⟩ := hp43
    have f43c : mm_fr [(63, 4), (63, 5), (63, 6), (63, 7), (63, 8), (63, 9), (63, 10)] [64] h h43c := mm_fr_tr f0 g43c (by decide +kernel)
    have q43c_9 : h43c.1 63 3 = h.1 63 3 := g43c.1 63 3 (by decide)
    have g10 : -2147483648 ≤ (h43c.1 63 5) ∧ (h43c.1 63 5) ≤ 2147483647 := i43c.1 63 5
    have g11 : 0 ≤ (h43c.1 63 7) ∧ (h43c.1 63 7) ≤ 500 := i43c.1 63 7
    have g12 : 0 ≤ (h43c.1 63 8) ∧ (h43c.1 63 8) ≤ 500 := i43c.1 63 8
    have g13 : -2147483648 ≤ (h43c.1 63 6) ∧ (h43c.1 63 6) ≤ 2147483647 := i43c.1 63 6
    have g14 : -2147483648 ≤ (h43c.1 63 9) ∧ (h43c.1 63 9) ≤ 2147483647 := i43c.1 63 9
    have g15 : -2147483648 ≤ (h43c.1 63 10) ∧ (h43c.1 63 10) ≤ 2147483647 := i43c.1 63 10
    refine mm_if_ne (tgt := 51) C (mm_dec dk_X7_readOr 24 rfl) (by decide) (fun c46 => ?_) (fun c46 => ?_)
    · skip
      refine mm_iconst C (mm_dec dk_X7_readOr 27 rfl) ⟨by decide, by decide⟩ ?_
      have J53 : ∀ (n : Nat) (x53_2 : Int) (bx53_2 : 0 ≤ x53_2 ∧ x53_2 ≤ 500) (h53_ : mH) (i53_ : mm_inv h53_) (f53_ : mm_fr [(63, 4), (63, 5), (63, 6), (63, 7), (63, 8), (63, 9), (63, 10)] [64] h h53_) (w53_0 : mm_q7 0 0 h h53_) (w53_1 : x53_2 ≤ h53_.1 63 7) (w53_2 : mm_nC h53_), (500 - x53_2 : Int) < n → mm_W x 0 0 53 [mR 63, mI p1, mI x53_2] [] h53_ := by
        intro n
        induction n with
        | zero =>
          intro x53_2 bx53_2 h53_ i53_ f53_ w53_0 w53_1 w53_2 hm
          have g16 : -2147483648 ≤ h53_.1 63 5 ∧ h53_.1 63 5 ≤ 2147483647 := i53_.1 63 5
          have g17 : 0 ≤ h53_.1 63 7 ∧ h53_.1 63 7 ≤ 500 := i53_.1 63 7
          have g18 : 0 ≤ h53_.1 63 8 ∧ h53_.1 63 8 ≤ 500 := i53_.1 63 8
          have g19 : 0 ≤ h53_.1 63 3 ∧ h53_.1 63 3 ≤ 500 := i53_.1 63 3
          have g20 : -2147483648 ≤ h53_.1 63 6 ∧ h53_.1 63 6 ≤ 2147483647 := i53_.1 63 6
          have g21 : -2147483648 ≤ h53_.1 63 9 ∧ h53_.1 63 9 ≤ 2147483647 := i53_.1 63 9
          have g22 : -2147483648 ≤ h53_.1 63 10 ∧ h53_.1 63 10 ≤ 2147483647 := i53_.1 63 10
          exfalso; omega
        | succ n ih53 =>
          intro x53_2 bx53_2 h53_ i53_ f53_ w53_0 w53_1 w53_2 hm53
          have g23 : -2147483648 ≤ h53_.1 63 5 ∧ h53_.1 63 5 ≤ 2147483647 := i53_.1 63 5
          have g24 : 0 ≤ h53_.1 63 7 ∧ h53_.1 63 7 ≤ 500 := i53_.1 63 7
          have g25 : 0 ≤ h53_.1 63 8 ∧ h53_.1 63 8 ≤ 500 := i53_.1 63 8
          have g26 : 0 ≤ h53_.1 63 3 ∧ h53_.1 63 3 ≤ 500 := i53_.1 63 3
          have g27 : -2147483648 ≤ h53_.1 63 6 ∧ h53_.1 63 6 ≤ 2147483647 := i53_.1 63 6
          have g28 : -2147483648 ≤ h53_.1 63 9 ∧ h53_.1 63 9 ≤ 2147483647 := i53_.1 63 9
          have g29 : -2147483648 ≤ h53_.1 63 10 ∧ h53_.1 63 10 ≤ 2147483647 := i53_.1 63 10
          have g30 : h53_.1 63 3 = h.1 63 3 := f53_.1 63 3 (by decide)
          have tf12 := mm_cX_h i53_ w53_0.1.2.1
          have tr12 := mm_cX_r i53_ w53_0.1.2.1
          refine mm_iload_n C (mm_dec dk_X7_readOr 29 rfl) rfl ?_
          refine mm_sipush C (mm_dec dk_X7_readOr 30 rfl) ⟨by decide, by decide⟩ ?_
          have J94 : ∀ (w94_0 : mm_nD h53_), mm_W x 0 0 94 [mU, mU, mU] [] h53_ := by
            intro w94_0
            have g31 : -2147483648 ≤ h53_.1 63 5 ∧ h53_.1 63 5 ≤ 2147483647 := i53_.1 63 5
            have g32 : 0 ≤ h53_.1 63 7 ∧ h53_.1 63 7 ≤ 500 := i53_.1 63 7
            have g33 : 0 ≤ h53_.1 63 8 ∧ h53_.1 63 8 ≤ 500 := i53_.1 63 8
            have g34 : 0 ≤ h53_.1 63 3 ∧ h53_.1 63 3 ≤ 500 := i53_.1 63 3
            have g35 : -2147483648 ≤ h53_.1 63 6 ∧ h53_.1 63 6 ≤ 2147483647 := i53_.1 63 6
            have g36 : -2147483648 ≤ h53_.1 63 9 ∧ h53_.1 63 9 ≤ 2147483647 := i53_.1 63 9
            have g37 : -2147483648 ≤ h53_.1 63 10 ∧ h53_.1 63 10 ≤ 2147483647 := i53_.1 63 10
            refine mm_iconst C (mm_dec dk_X7_readOr 49 rfl) ⟨by decide, by decide⟩ ?_
            exact mm_zret C T (mm_dec dk_X7_readOr 50 rfl) (by decide : 0 ≤ 0) (by decide : 0 ≤ 0) (by omega) ⟨_, rfl, ⟨⟨by omega, by omega⟩, i53_, f53_, by first | exact Or.inl ⟨rfl, w53_0, w94_0⟩ | exact Or.inr ⟨rfl, mm_or0 y43_0 (by omega)⟩ | exact Or.inr ⟨rfl, mm_f7_and w53_0 zc zs (mm_or0 y74_0 (by omega))⟩⟩⟩
          refine mm_icmp_ge (tgt := 94) C (mm_dec dk_X7_readOr 31 rfl) (by decide) (fun c57 => ?_) (fun c57 => ?_)
          · skip
            refine mm_fgt 0 ?_
            refine mm_fgt 1 ?_
            refine mm_fgt 2 ?_
            exact J94 (by (have z := w53_2; unfold mm_nC at z; unfold mm_nD; have zz := mm_hdx tf12; omega))
          · skip
            refine mm_aload_n C (mm_dec dk_X7_readOr 32 rfl) rfl ?_
            refine mm_geti C fl_X7_28 (mm_dec dk_X7_readOr 33 rfl) rfl rfl (Or.inl rfl) ?_
            refine mm_iconst C (mm_dec dk_X7_readOr 34 rfl) ⟨by decide, by decide⟩ ?_
            refine mm_icmp_ne (tgt := 94) C (mm_dec dk_X7_readOr 35 rfl) (by decide) (fun c65 => ?_) (fun c65 => ?_)
            · skip
              refine mm_fgt 0 ?_
              refine mm_fgt 1 ?_
              refine mm_fgt 2 ?_
              exact J94 (by (have z := w53_2; unfold mm_nC at z; unfold mm_nD; have zz := mm_hdx tf12; omega))
            · skip
              refine mm_aload_n C (mm_dec dk_X7_readOr 36 rfl) rfl ?_
              refine mm_cVv (rest := []) C1 ev_X7_52 (mm_dec dk_X7_readOr 37 rfl) (c_X7_step_q x.2.1 hl (d - 1) (by omega) h53_ i53_ ) rfl rfl (Nat.le_of_ble_eq_true rfl) ⟨by decide, by decide⟩ rfl (fun h69c hp69 => ?_) (fun _ _ q => q.elim)
              obtain ⟨i69c, g69c, y69_0, y69_1, y69_2⟩ := hp69
              have f69c : mm_fr [(63, 4), (63, 5), (63, 6), (63, 7), (63, 8), (63, 9), (63, 10)] [64] h h69c := mm_fr_tr f53_ g69c (by decide +kernel)
              have q69c_39 : h69c.1 63 3 = h53_.1 63 3 := g69c.1 63 3 (by decide)
              have q69c_40 : h69c.1 63 9 = h53_.1 63 9 := g69c.1 63 9 (by decide)
              have q69c_41 : h69c.1 63 10 = h53_.1 63 10 := g69c.1 63 10 (by decide)
              have g42 : -2147483648 ≤ (h69c.1 63 5) ∧ (h69c.1 63 5) ≤ 2147483647 := i69c.1 63 5
              have g43 : 0 ≤ (h69c.1 63 7) ∧ (h69c.1 63 7) ≤ 500 := i69c.1 63 7
              have g44 : 0 ≤ (h69c.1 63 8) ∧ (h69c.1 63 8) ≤ 500 := i69c.1 63 8
              have g45 : -2147483648 ≤ (h69c.1 63 6) ∧ (h69c.1 63 6) ≤ 2147483647 := i69c.1 63 6
              have zs := mm_st7_of w53_0.1.2.1 y69_1 y69_2 g69c (by decide)
              have zc : mm_cX h53_ = 4 ∨ mm_cX h53_ = 5 := by have zz := mm_hdx tf12; omega
              have zl := mm_st7_lt zs (by omega)
              refine mm_aload_n C (mm_dec dk_X7_readOr 38 rfl) rfl ?_
              refine mm_iload_n C (mm_dec dk_X7_readOr 39 rfl) rfl ?_
              refine mm_cVi (rest := []) C1 ev_X7_99 (mm_dec dk_X7_readOr 40 rfl) (c_X7_readAnd_q0 x.2.1 hl (d - 1) (by omega) h69c i69c p1 ⟨by omega, by omega⟩ (by exact y69_1)) rfl rfl (Nat.le_of_ble_eq_true rfl) ⟨by decide, by decide⟩ rfl (fun r74 h74c hp74 => ?_) (fun _ _ q => q.elim)
              obtain ⟨b74, i74c, g74c, y74_0⟩ := hp74
              have f74c : mm_fr [(63, 4), (63, 5), (63, 6), (63, 7), (63, 8), (63, 9), (63, 10)] [64] h h74c := mm_fr_tr f69c g74c (by decide +kernel)
              have q74c_47 : h74c.1 63 3 = h69c.1 63 3 := g74c.1 63 3 (by decide)
              have g48 : -2147483648 ≤ (h74c.1 63 5) ∧ (h74c.1 63 5) ≤ 2147483647 := i74c.1 63 5
              have g49 : 0 ≤ (h74c.1 63 7) ∧ (h74c.1 63 7) ≤ 500 := i74c.1 63 7
              have g50 : 0 ≤ (h74c.1 63 8) ∧ (h74c.1 63 8) ≤ 500 := i74c.1 63 8
              have g51 : -2147483648 ≤ (h74c.1 63 6) ∧ (h74c.1 63 6) ≤ 2147483647 := i74c.1 63 6
              have g52 : -2147483648 ≤ (h74c.1 63 9) ∧ (h74c.1 63 9) ≤ 2147483647 := i74c.1 63 9
              have g53 : -2147483648 ≤ (h74c.1 63 10) ∧ (h74c.1 63 10) ≤ 2147483647 := i74c.1 63 10
              refine mm_if_ne (tgt := 82) C (mm_dec dk_X7_readOr 41 rfl) (by decide) (fun c77 => ?_) (fun c77 => ?_)
              · skip
                refine mm_aload_n C (mm_dec dk_X7_readOr 44 rfl) rfl ?_
                refine mm_ldc (z := 100011) C (mm_dec dk_X7_readOr 45 rfl) kc_X7_102 (by decide) ?_
                refine mm_cVv (rest := []) C1 ev_X7_79 (mm_dec dk_X7_readOr 46 rfl) (c_X7_emit x.2.1 hl (d - 1) (by omega) h74c i74c 100011) rfl rfl (Nat.le_of_ble_eq_true rfl) ⟨by decide, by decide⟩ rfl (fun h85c hp85 => ?_) (fun _ _ q => q.elim)
                obtain ⟨i85c, g85c⟩ := hp85
                have f85c : mm_fr [(63, 4), (63, 5), (63, 6), (63, 7), (63, 8), (63, 9), (63, 10)] [64] h h85c := mm_fr_tr f74c g85c (by decide +kernel)
                have q85c_55 : h85c.1 63 3 = h74c.1 63 3 := g85c.1 63 3 (by decide)
                have q85c_56 : h85c.1 63 5 = h74c.1 63 5 := g85c.1 63 5 (by decide)
                have q85c_57 : h85c.1 63 6 = h74c.1 63 6 := g85c.1 63 6 (by decide)
                have q85c_58 : h85c.1 63 7 = h74c.1 63 7 := g85c.1 63 7 (by decide)
                have q85c_59 : h85c.1 63 8 = h74c.1 63 8 := g85c.1 63 8 (by decide)
                have q85c_60 : h85c.1 63 9 = h74c.1 63 9 := g85c.1 63 9 (by decide)
                have q85c_61 : h85c.1 63 10 = h74c.1 63 10 := g85c.1 63 10 (by decide)
                have zt := g85c.1 63 7 (by decide)
                have zu := (mm_or1 y74_0 (by omega)).1.2.1
                refine mm_iincL (ls2 := [mR 63, mI p1, mI (x53_2 + 1)]) C (mm_dec dk_X7_readOr 47 rfl) rfl (by decide) ⟨by omega, by omega⟩ rfl ?_
                refine mm_goto (tgt := 53) C (mm_dec dk_X7_readOr 48 rfl) (by decide) ?_
                exact ih53 (x53_2 + 1) ⟨by omega, by omega⟩ h85c i85c f85c (by first | exact (mm_or1 y43_0 (by omega)).1 | exact mm_q7_em (mm_q7_and w53_0 zc zs (mm_or1 y74_0 (by omega)).1) (mm_em_fr g85c (by decide))) (by omega) (by first | exact (mm_or1 y43_0 (by omega)).2 | exact mm_nC_em (mm_or1 y74_0 (by omega)).2 (mm_em_fr g85c (by decide))) (by omega)
              · skip
                refine mm_iconst C (mm_dec dk_X7_readOr 42 rfl) ⟨by decide, by decide⟩ ?_
                exact mm_zret C T (mm_dec dk_X7_readOr 43 rfl) (by decide : 0 ≤ 0) (by decide : 0 ≤ 0) (by omega) ⟨_, rfl, ⟨⟨by omega, by omega⟩, i74c, f74c, by first | exact Or.inl ⟨rfl, w53_0, w94_0⟩ | exact Or.inr ⟨rfl, mm_or0 y43_0 (by omega)⟩ | exact Or.inr ⟨rfl, mm_f7_and w53_0 zc zs (mm_or0 y74_0 (by omega))⟩⟩⟩
      refine mm_istore_nL (ls2 := [mR 63, mI p1, mI 0]) C (mm_dec dk_X7_readOr 28 rfl) (by decide) rfl ?_
      exact J53 (((500 - 0) : Int) + 1).toNat 0 ⟨by omega, by omega⟩ h43c i43c f43c (by first | exact (mm_or1 y43_0 (by omega)).1 | exact mm_q7_em (mm_q7_and w53_0 zc zs (mm_or1 y74_0 (by omega)).1) (mm_em_fr g85c (by decide))) (by omega) (by first | exact (mm_or1 y43_0 (by omega)).2 | exact mm_nC_em (mm_or1 y74_0 (by omega)).2 (mm_em_fr g85c (by decide))) (by omega)
    · skip
      refine mm_iconst C (mm_dec dk_X7_readOr 25 rfl) ⟨by decide, by decide⟩ ?_
      exact mm_zret C T (mm_dec dk_X7_readOr 26 rfl) (by decide : 0 ≤ 0) (by decide : 0 ≤ 0) (by omega) ⟨_, rfl, ⟨⟨by omega, by omega⟩, i43c, f43c, by first | exact Or.inl ⟨rfl, w53_0, w94_0⟩ | exact Or.inr ⟨rfl, mm_or0 y43_0 (by omega)⟩ | exact Or.inr ⟨rfl, mm_f7_and w53_0 zc zs (mm_or0 y74_0 (by omega))⟩⟩⟩
  · skip
    exfalso; omega
