section
variable {x : mX} {d cs ss : Nat} {cc : ByteArray} {own : String} {nL : Nat} {ret : Option FieldType} {a b pc : Nat} {ls st : List mV} {h : mH} {post : Option mV → mH → Prop} {xp : String → mH → Prop} {mc ms : Nat}
theorem mm_tb8x {i : Int} (C : mm_OK d cs ss cc own nL ret x) (hd : decode cc pc = .ok (.baload, 1)) (h0 : 0 ≤ i) (h1 : i < 90) (kk : mm_W x a b (pc + 1) ls (mI (mm_words.getD i.toNat 0).toInt :: st) h) : mm_W x a b pc ls (mI i :: mR 2000 :: st) h := by
  obtain ⟨p, l, e, R, s, m, args, below, meth, c, G, ad0, A, n0, Q⟩ := x
  intro ad H locs jl h3 h4 h5 h6
  obtain ⟨c1, c2, c3, c4, c5, c6, c7, c8, c9, c10, c11, c12, c13, c14, c15⟩ := C
  have hw := fb_rng (mm_words.getD i.toNat 0)
  have k := kk ad H locs jl h3 h4 h5 (mm_ok_cons hw (mm_ok_tl (mm_ok_tl h6)))
  rw [List.map_cons, show mm_j ad (mI (mm_words.getD i.toNat 0).toInt) = .int (mm_words.getD i.toNat 0) from by show Value.int (Int32.ofInt _) = _; rw [Int32.ofInt_toInt]] at k
  rw [List.map_cons, List.map_cons, mm_jc h3 (show 1000 ≤ 2000 by decide)]
  refine va_tb c1 c2 (c10.2.2.2.2.2.2.1.1 0 (by decide)).2.2.2 h3.2.2.2.1 (i := Int32.ofInt i) (mm_vin h0 (by show i < ((mm_words.length : Nat) : Int); rw [mm_wlen]; omega) (by omega)) (v := .int (mm_words.getD i.toNat 0)) ?_ hd k
  rw [mm_clamp h0 (by omega)]
  rfl
end
theorem mm_cp_o {h : mH} {o o0 o1 : Nat} {n j : Int} (ne : o ≠ o1) : (mm_cp h o0 o1 n).2.1 o j = h.2.1 o j := if_neg (fun q => ne q.1)
theorem mm_cp_in {h : mH} {o0 o1 : Nat} {n j : Int} (j0 : 0 ≤ j) (j1 : j < n) : (mm_cp h o0 o1 n).2.1 o1 j = h.2.1 o0 j := if_pos ⟨rfl, j0, j1⟩
set_option maxRecDepth 100000 in
set_option maxHeartbeats 4000000 in
theorem c_J1_charAt_x (l : Launch) (hl : l.stackTraces = false) (d : Nat) (hd : 2 ≤ d) (h : mH) (p1 : Int) (u0 : 0 ≤ p1) (u1 : p1 < 90) : mm_Met l d yJ1_charAt_3b067 cJ1_charAt_3b067 2 (some .char) [mR 2000, mI p1] h (mm_pi fun r h2 => (0 ≤ r ∧ r ≤ 65535) ∧ r = mm_viand ((mm_words.getD p1.toNat 0).toInt) 255 ∧ h2 = h) mm_nx 0 0 := by
  refine mm_ofW (ls := [mR 2000, mI p1]) hl (by decide) rfl (Nat.le_of_ble_eq_true rfl) ?_
  intro x hxl C T hnm htb
  subst hxl
  have C1 := mm_OK_le (d' := d - 1 + 1) (by omega) C
  refine mm_iload_n C (mm_dec dk_J1_charAt_3b067 0 rfl) rfl ?_
  refine mm_aload_n C (mm_dec dk_J1_charAt_3b067 1 rfl) rfl ?_
  refine mm_tlen C (mm_dec dk_J1_charAt_3b067 2 rfl) ?_
  refine mm_cSv (rest := []) C1 ⟨mw_J0_checkIndex_df160, ms_9, sm_J0_checkIndex_df160⟩ (mm_dec dk_J1_charAt_3b067 3 rfl) (c_J0_checkIndex_df160 x.2.1 hl (d - 1) (by omega) h p1 90 u0 u1) rfl (Nat.le_of_ble_eq_true rfl) ⟨by decide, by decide⟩ rfl (fun h3c hp3 => ?_) (fun _ _ q => q.elim)
  rw [hp3]
  refine mm_aload_n C (mm_dec dk_J1_charAt_3b067 4 rfl) rfl ?_
  refine mm_iload_n C (mm_dec dk_J1_charAt_3b067 5 rfl) rfl ?_
  refine mm_tb8x C (mm_dec dk_J1_charAt_3b067 6 rfl) u0 u1 ?_
  obtain ⟨w, hw⟩ : ∃ w, w = (mm_words.getD p1.toNat 0).toInt := ⟨_, rfl⟩
  rw [← hw]
  refine mm_sipush C (mm_dec dk_J1_charAt_3b067 7 rfl) ⟨by decide, by decide⟩ ?_
  refine mm_iand C (mm_dec dk_J1_charAt_3b067 8 rfl) ?_
  refine mm_i2cA C (mm_dec dk_J1_charAt_3b067 9 rfl) ?_
  refine mm_zretT C T (mm_dec dk_J1_charAt_3b067 10 rfl) (by decide : 0 ≤ 0) (by decide : 0 ≤ 0) ?_ ⟨_, rfl, (by have := mm_and_rg2 (u := w) (v := 255) (by decide) (by decide); omega), by rw [hw], rfl⟩
  rw [show Int32.ofInt (mm_viand w 255) = Int32.ofInt w &&& 255 from by rw [mm_viand, Int32.ofInt_toInt]; rfl]
  exact sc_nar _
set_option maxRecDepth 100000 in
set_option maxHeartbeats 4000000 in
theorem c_J0_charAt_x (l : Launch) (hl : l.stackTraces = false) (d : Nat) (hd : 3 ≤ d) (h : mH) (p1 : Int) (u0 : 0 ≤ p1) (u1 : p1 < 90) : mm_Met l d yJ0_charAt_5068e cJ0_charAt_5068e 2 (some .char) [mR mm_tx, mI p1] h (mm_pi fun r h2 => (0 ≤ r ∧ r ≤ 65535) ∧ r = mm_wl9.getD p1.toNat 0 ∧ h2 = h) mm_nx 0 0 := by
  refine mm_ofW (ls := [mR mm_tx, mI p1]) hl (by decide) rfl (Nat.le_of_ble_eq_true rfl) ?_
  intro x hxl C T hnm htb
  subst hxl
  have C1 := mm_OK_le (d' := d - 1 + 1) (by omega) C
  refine mm_aload_n C (mm_dec dk_J0_charAt_5068e 0 rfl) rfl ?_
  refine mm_cTi (rest := []) C1 mw_J0_isLatin1_aae02 rfl ms_492 im_J0_isLatin1_aae02 se_J0_isLatin1_aae02 (mm_dec dk_J0_charAt_5068e 1 rfl) (c_J0_isLatin1_aae02 x.2.1 hl (d - 1) (by omega) h) rfl (Nat.le_of_ble_eq_true rfl) ⟨by decide, by decide⟩ rfl (fun r1 h1c hp1 => ?_)
  obtain ⟨z1, y1⟩ := hp1
  rw [z1, y1]
  refine mm_if_eq (tgt := 16) C (mm_dec dk_J0_charAt_5068e 2 rfl) (by decide) (fun c4 => ?_) (fun c4 => ?_)
  · exfalso; omega
  · refine mm_aload_n C (mm_dec dk_J0_charAt_5068e 3 rfl) rfl ?_
    refine mm_getV C fs_9 (mm_dec dk_J0_charAt_5068e 4 rfl) ?_
    refine mm_iload_n C (mm_dec dk_J0_charAt_5068e 5 rfl) rfl ?_
    refine mm_cSi (rest := []) C1 ⟨mw_J1_charAt_3b067, ms_495, sm_J1_charAt_3b067⟩ (mm_dec dk_J0_charAt_5068e 6 rfl) (c_J1_charAt_x x.2.1 hl (d - 1) (by omega) h p1 u0 u1) rfl (Nat.le_of_ble_eq_true rfl) ⟨by decide, by decide⟩ rfl (fun r12 h12c hp12 => ?_) (fun _ _ q => q.elim)
    obtain ⟨b12, y12, z12⟩ := hp12
    rw [z12]
    refine mm_zretT C T (mm_dec dk_J0_charAt_5068e 7 rfl) (by decide : 0 ≤ 0) (by decide : 0 ≤ 0) ?_ ⟨_, rfl, b12, y12.trans (mm_wl9_at p1.toNat (by omega)), rfl⟩
    exact mm_nchar b12.1 b12.2


set_option maxRecDepth 100000 in
set_option maxHeartbeats 4000000 in
theorem c_X7_kindOf_q (l : Launch) (hl : l.stackTraces = false) (d : Nat) (hd : 0 ≤ d) (h : mH) (i0 : mm_inv h) (p0 : Int) : mm_Met l d yX7_kindOf cX7_kindOf 1 (some .int) [mI p0] h (mm_pi fun r h2 => (1 ≤ r ∧ r ≤ 4) ∧ h2 = h ∧ r = mm_kd p0) mm_nx 0 0 := by
  refine mm_ofW (ls := [mI p0]) hl (by decide) rfl (Nat.le_of_ble_eq_true rfl) ?_
  intro x hxl C T hnm htb
  subst hxl
  refine mm_rng (fun hr _ => ?_)
  have ap0 : -2147483648 ≤ p0 ∧ p0 < 2147483648 := mm_ok_at hr (i := 0) rfl
  have f0 : mm_fr [] [] h h := mm_fr_rf
  refine mm_iload_n C (mm_dec dk_X7_kindOf 0 rfl) rfl ?_
  refine mm_bipush C (mm_dec dk_X7_kindOf 1 rfl) ⟨by decide, by decide⟩ ?_
  refine mm_icmp_lt (tgt := 14) C (mm_dec dk_X7_kindOf 2 rfl) (by decide) (fun c3 => ?_) (fun c3 => ?_)
  · skip
    refine mm_iload_n C (mm_dec dk_X7_kindOf 8 rfl) rfl ?_
    refine mm_bipush C (mm_dec dk_X7_kindOf 9 rfl) ⟨by decide, by decide⟩ ?_
    refine mm_icmp_lt (tgt := 28) C (mm_dec dk_X7_kindOf 10 rfl) (by decide) (fun c17 => ?_) (fun c17 => ?_)
    · skip
      refine mm_iload_n C (mm_dec dk_X7_kindOf 16 rfl) rfl ?_
      refine mm_table (t0 := 134) [132, 132, 132, 132, 134, 132, 134, 132, 134, 134, 134, 134, 134, 134, 134, 134, 134, 134, 134, 132, 132, 132] C (mm_dec dk_X7_kindOf 17 rfl) (by decide) (by decide) (by decide +kernel) (fun c29 => ?_) (fun k29 hk29 c29 => ?_)
      · skip
        refine mm_iconst C (mm_dec dk_X7_kindOf 20 rfl) ⟨by decide, by decide⟩ ?_
        exact mm_iret C T (mm_dec dk_X7_kindOf 21 rfl) (by decide : 0 ≤ 0) (by decide : 0 ≤ 0) ⟨_, rfl, ⟨⟨by omega, by omega⟩, rfl, by unfold mm_kd; (repeat' split) <;> omega⟩⟩
      · have hq29 : k29 < 22 := hk29
        rcases (by omega : k29 = 0 ∨ k29 = 1 ∨ k29 = 2 ∨ k29 = 3 ∨ k29 = 4 ∨ k29 = 5 ∨ k29 = 6 ∨ k29 = 7 ∨ k29 = 8 ∨ k29 = 9 ∨ k29 = 10 ∨ k29 = 11 ∨ k29 = 12 ∨ k29 = 13 ∨ k29 = 14 ∨ k29 = 15 ∨ k29 = 16 ∨ k29 = 17 ∨ k29 = 18 ∨ k29 = 19 ∨ k29 = 20 ∨ k29 = 21) with rfl | rfl | rfl | rfl | rfl | rfl | rfl | rfl | rfl | rfl | rfl | rfl | rfl | rfl | rfl | rfl | rfl | rfl | rfl | rfl | rfl | rfl
        · show mm_W x 0 0 132 _ _ _
          refine mm_iconst C (mm_dec dk_X7_kindOf 18 rfl) ⟨by decide, by decide⟩ ?_
          exact mm_iret C T (mm_dec dk_X7_kindOf 19 rfl) (by decide : 0 ≤ 0) (by decide : 0 ≤ 0) ⟨_, rfl, ⟨⟨by omega, by omega⟩, rfl, by unfold mm_kd; (repeat' split) <;> omega⟩⟩
        · show mm_W x 0 0 132 _ _ _
          refine mm_iconst C (mm_dec dk_X7_kindOf 18 rfl) ⟨by decide, by decide⟩ ?_
          exact mm_iret C T (mm_dec dk_X7_kindOf 19 rfl) (by decide : 0 ≤ 0) (by decide : 0 ≤ 0) ⟨_, rfl, ⟨⟨by omega, by omega⟩, rfl, by unfold mm_kd; (repeat' split) <;> omega⟩⟩
        · show mm_W x 0 0 132 _ _ _
          refine mm_iconst C (mm_dec dk_X7_kindOf 18 rfl) ⟨by decide, by decide⟩ ?_
          exact mm_iret C T (mm_dec dk_X7_kindOf 19 rfl) (by decide : 0 ≤ 0) (by decide : 0 ≤ 0) ⟨_, rfl, ⟨⟨by omega, by omega⟩, rfl, by unfold mm_kd; (repeat' split) <;> omega⟩⟩
        · show mm_W x 0 0 132 _ _ _
          refine mm_iconst C (mm_dec dk_X7_kindOf 18 rfl) ⟨by decide, by decide⟩ ?_
          exact mm_iret C T (mm_dec dk_X7_kindOf 19 rfl) (by decide : 0 ≤ 0) (by decide : 0 ≤ 0) ⟨_, rfl, ⟨⟨by omega, by omega⟩, rfl, by unfold mm_kd; (repeat' split) <;> omega⟩⟩
        · show mm_W x 0 0 134 _ _ _
          refine mm_iconst C (mm_dec dk_X7_kindOf 20 rfl) ⟨by decide, by decide⟩ ?_
          exact mm_iret C T (mm_dec dk_X7_kindOf 21 rfl) (by decide : 0 ≤ 0) (by decide : 0 ≤ 0) ⟨_, rfl, ⟨⟨by omega, by omega⟩, rfl, by unfold mm_kd; (repeat' split) <;> omega⟩⟩
        · show mm_W x 0 0 132 _ _ _
          refine mm_iconst C (mm_dec dk_X7_kindOf 18 rfl) ⟨by decide, by decide⟩ ?_
          exact mm_iret C T (mm_dec dk_X7_kindOf 19 rfl) (by decide : 0 ≤ 0) (by decide : 0 ≤ 0) ⟨_, rfl, ⟨⟨by omega, by omega⟩, rfl, by unfold mm_kd; (repeat' split) <;> omega⟩⟩
        · show mm_W x 0 0 134 _ _ _
          refine mm_iconst C (mm_dec dk_X7_kindOf 20 rfl) ⟨by decide, by decide⟩ ?_
          exact mm_iret C T (mm_dec dk_X7_kindOf 21 rfl) (by decide : 0 ≤ 0) (by decide : 0 ≤ 0) ⟨_, rfl, ⟨⟨by omega, by omega⟩, rfl, by unfold mm_kd; (repeat' split) <;> omega⟩⟩
        · show mm_W x 0 0 132 _ _ _
          refine mm_iconst C (mm_dec dk_X7_kindOf 18 rfl) ⟨by decide, by decide⟩ ?_
          exact mm_iret C T (mm_dec dk_X7_kindOf 19 rfl) (by decide : 0 ≤ 0) (by decide : 0 ≤ 0) ⟨_, rfl, ⟨⟨by omega, by omega⟩, rfl, by unfold mm_kd; (repeat' split) <;> omega⟩⟩
        · show mm_W x 0 0 134 _ _ _
          refine mm_iconst C (mm_dec dk_X7_kindOf 20 rfl) ⟨by decide, by decide⟩ ?_
          exact mm_iret C T (mm_dec dk_X7_kindOf 21 rfl) (by decide : 0 ≤ 0) (by decide : 0 ≤ 0) ⟨_, rfl, ⟨⟨by omega, by omega⟩, rfl, by unfold mm_kd; (repeat' split) <;> omega⟩⟩
        · show mm_W x 0 0 134 _ _ _
          refine mm_iconst C (mm_dec dk_X7_kindOf 20 rfl) ⟨by decide, by decide⟩ ?_
          exact mm_iret C T (mm_dec dk_X7_kindOf 21 rfl) (by decide : 0 ≤ 0) (by decide : 0 ≤ 0) ⟨_, rfl, ⟨⟨by omega, by omega⟩, rfl, by unfold mm_kd; (repeat' split) <;> omega⟩⟩
        · show mm_W x 0 0 134 _ _ _
          refine mm_iconst C (mm_dec dk_X7_kindOf 20 rfl) ⟨by decide, by decide⟩ ?_
          exact mm_iret C T (mm_dec dk_X7_kindOf 21 rfl) (by decide : 0 ≤ 0) (by decide : 0 ≤ 0) ⟨_, rfl, ⟨⟨by omega, by omega⟩, rfl, by unfold mm_kd; (repeat' split) <;> omega⟩⟩
        · show mm_W x 0 0 134 _ _ _
          refine mm_iconst C (mm_dec dk_X7_kindOf 20 rfl) ⟨by decide, by decide⟩ ?_
          exact mm_iret C T (mm_dec dk_X7_kindOf 21 rfl) (by decide : 0 ≤ 0) (by decide : 0 ≤ 0) ⟨_, rfl, ⟨⟨by omega, by omega⟩, rfl, by unfold mm_kd; (repeat' split) <;> omega⟩⟩
        · show mm_W x 0 0 134 _ _ _
          refine mm_iconst C (mm_dec dk_X7_kindOf 20 rfl) ⟨by decide, by decide⟩ ?_
          exact mm_iret C T (mm_dec dk_X7_kindOf 21 rfl) (by decide : 0 ≤ 0) (by decide : 0 ≤ 0) ⟨_, rfl, ⟨⟨by omega, by omega⟩, rfl, by unfold mm_kd; (repeat' split) <;> omega⟩⟩
        · show mm_W x 0 0 134 _ _ _
          refine mm_iconst C (mm_dec dk_X7_kindOf 20 rfl) ⟨by decide, by decide⟩ ?_
          exact mm_iret C T (mm_dec dk_X7_kindOf 21 rfl) (by decide : 0 ≤ 0) (by decide : 0 ≤ 0) ⟨_, rfl, ⟨⟨by omega, by omega⟩, rfl, by unfold mm_kd; (repeat' split) <;> omega⟩⟩
        · show mm_W x 0 0 134 _ _ _
          refine mm_iconst C (mm_dec dk_X7_kindOf 20 rfl) ⟨by decide, by decide⟩ ?_
          exact mm_iret C T (mm_dec dk_X7_kindOf 21 rfl) (by decide : 0 ≤ 0) (by decide : 0 ≤ 0) ⟨_, rfl, ⟨⟨by omega, by omega⟩, rfl, by unfold mm_kd; (repeat' split) <;> omega⟩⟩
        · show mm_W x 0 0 134 _ _ _
          refine mm_iconst C (mm_dec dk_X7_kindOf 20 rfl) ⟨by decide, by decide⟩ ?_
          exact mm_iret C T (mm_dec dk_X7_kindOf 21 rfl) (by decide : 0 ≤ 0) (by decide : 0 ≤ 0) ⟨_, rfl, ⟨⟨by omega, by omega⟩, rfl, by unfold mm_kd; (repeat' split) <;> omega⟩⟩
        · show mm_W x 0 0 134 _ _ _
          refine mm_iconst C (mm_dec dk_X7_kindOf 20 rfl) ⟨by decide, by decide⟩ ?_
          exact mm_iret C T (mm_dec dk_X7_kindOf 21 rfl) (by decide : 0 ≤ 0) (by decide : 0 ≤ 0) ⟨_, rfl, ⟨⟨by omega, by omega⟩, rfl, by unfold mm_kd; (repeat' split) <;> omega⟩⟩
        · show mm_W x 0 0 134 _ _ _
          refine mm_iconst C (mm_dec dk_X7_kindOf 20 rfl) ⟨by decide, by decide⟩ ?_
          exact mm_iret C T (mm_dec dk_X7_kindOf 21 rfl) (by decide : 0 ≤ 0) (by decide : 0 ≤ 0) ⟨_, rfl, ⟨⟨by omega, by omega⟩, rfl, by unfold mm_kd; (repeat' split) <;> omega⟩⟩
        · show mm_W x 0 0 134 _ _ _
          refine mm_iconst C (mm_dec dk_X7_kindOf 20 rfl) ⟨by decide, by decide⟩ ?_
          exact mm_iret C T (mm_dec dk_X7_kindOf 21 rfl) (by decide : 0 ≤ 0) (by decide : 0 ≤ 0) ⟨_, rfl, ⟨⟨by omega, by omega⟩, rfl, by unfold mm_kd; (repeat' split) <;> omega⟩⟩
        · show mm_W x 0 0 132 _ _ _
          refine mm_iconst C (mm_dec dk_X7_kindOf 18 rfl) ⟨by decide, by decide⟩ ?_
          exact mm_iret C T (mm_dec dk_X7_kindOf 19 rfl) (by decide : 0 ≤ 0) (by decide : 0 ≤ 0) ⟨_, rfl, ⟨⟨by omega, by omega⟩, rfl, by unfold mm_kd; (repeat' split) <;> omega⟩⟩
        · show mm_W x 0 0 132 _ _ _
          refine mm_iconst C (mm_dec dk_X7_kindOf 18 rfl) ⟨by decide, by decide⟩ ?_
          exact mm_iret C T (mm_dec dk_X7_kindOf 19 rfl) (by decide : 0 ≤ 0) (by decide : 0 ≤ 0) ⟨_, rfl, ⟨⟨by omega, by omega⟩, rfl, by unfold mm_kd; (repeat' split) <;> omega⟩⟩
        · show mm_W x 0 0 132 _ _ _
          refine mm_iconst C (mm_dec dk_X7_kindOf 18 rfl) ⟨by decide, by decide⟩ ?_
          exact mm_iret C T (mm_dec dk_X7_kindOf 19 rfl) (by decide : 0 ≤ 0) (by decide : 0 ≤ 0) ⟨_, rfl, ⟨⟨by omega, by omega⟩, rfl, by unfold mm_kd; (repeat' split) <;> omega⟩⟩
    · skip
      refine mm_iload_n C (mm_dec dk_X7_kindOf 11 rfl) rfl ?_
      refine mm_bipush C (mm_dec dk_X7_kindOf 12 rfl) ⟨by decide, by decide⟩ ?_
      refine mm_icmp_gt (tgt := 28) C (mm_dec dk_X7_kindOf 13 rfl) (by decide) (fun c23 => ?_) (fun c23 => ?_)
      · skip
        refine mm_iload_n C (mm_dec dk_X7_kindOf 16 rfl) rfl ?_
        refine mm_table (t0 := 134) [132, 132, 132, 132, 134, 132, 134, 132, 134, 134, 134, 134, 134, 134, 134, 134, 134, 134, 134, 132, 132, 132] C (mm_dec dk_X7_kindOf 17 rfl) (by decide) (by decide) (by decide +kernel) (fun c29 => ?_) (fun k29 hk29 c29 => ?_)
        · skip
          refine mm_iconst C (mm_dec dk_X7_kindOf 20 rfl) ⟨by decide, by decide⟩ ?_
          exact mm_iret C T (mm_dec dk_X7_kindOf 21 rfl) (by decide : 0 ≤ 0) (by decide : 0 ≤ 0) ⟨_, rfl, ⟨⟨by omega, by omega⟩, rfl, by unfold mm_kd; (repeat' split) <;> omega⟩⟩
        · have hq29 : k29 < 22 := hk29
          rcases (by omega : k29 = 0 ∨ k29 = 1 ∨ k29 = 2 ∨ k29 = 3 ∨ k29 = 4 ∨ k29 = 5 ∨ k29 = 6 ∨ k29 = 7 ∨ k29 = 8 ∨ k29 = 9 ∨ k29 = 10 ∨ k29 = 11 ∨ k29 = 12 ∨ k29 = 13 ∨ k29 = 14 ∨ k29 = 15 ∨ k29 = 16 ∨ k29 = 17 ∨ k29 = 18 ∨ k29 = 19 ∨ k29 = 20 ∨ k29 = 21) with rfl | rfl | rfl | rfl | rfl | rfl | rfl | rfl | rfl | rfl | rfl | rfl | rfl | rfl | rfl | rfl | rfl | rfl | rfl | rfl | rfl | rfl
          · show mm_W x 0 0 132 _ _ _
            refine mm_iconst C (mm_dec dk_X7_kindOf 18 rfl) ⟨by decide, by decide⟩ ?_
            exact mm_iret C T (mm_dec dk_X7_kindOf 19 rfl) (by decide : 0 ≤ 0) (by decide : 0 ≤ 0) ⟨_, rfl, ⟨⟨by omega, by omega⟩, rfl, by unfold mm_kd; (repeat' split) <;> omega⟩⟩
          · show mm_W x 0 0 132 _ _ _
            refine mm_iconst C (mm_dec dk_X7_kindOf 18 rfl) ⟨by decide, by decide⟩ ?_
            exact mm_iret C T (mm_dec dk_X7_kindOf 19 rfl) (by decide : 0 ≤ 0) (by decide : 0 ≤ 0) ⟨_, rfl, ⟨⟨by omega, by omega⟩, rfl, by unfold mm_kd; (repeat' split) <;> omega⟩⟩
          · show mm_W x 0 0 132 _ _ _
            refine mm_iconst C (mm_dec dk_X7_kindOf 18 rfl) ⟨by decide, by decide⟩ ?_
            exact mm_iret C T (mm_dec dk_X7_kindOf 19 rfl) (by decide : 0 ≤ 0) (by decide : 0 ≤ 0) ⟨_, rfl, ⟨⟨by omega, by omega⟩, rfl, by unfold mm_kd; (repeat' split) <;> omega⟩⟩
          · show mm_W x 0 0 132 _ _ _
            refine mm_iconst C (mm_dec dk_X7_kindOf 18 rfl) ⟨by decide, by decide⟩ ?_
            exact mm_iret C T (mm_dec dk_X7_kindOf 19 rfl) (by decide : 0 ≤ 0) (by decide : 0 ≤ 0) ⟨_, rfl, ⟨⟨by omega, by omega⟩, rfl, by unfold mm_kd; (repeat' split) <;> omega⟩⟩
          · show mm_W x 0 0 134 _ _ _
            refine mm_iconst C (mm_dec dk_X7_kindOf 20 rfl) ⟨by decide, by decide⟩ ?_
            exact mm_iret C T (mm_dec dk_X7_kindOf 21 rfl) (by decide : 0 ≤ 0) (by decide : 0 ≤ 0) ⟨_, rfl, ⟨⟨by omega, by omega⟩, rfl, by unfold mm_kd; (repeat' split) <;> omega⟩⟩
          · show mm_W x 0 0 132 _ _ _
            refine mm_iconst C (mm_dec dk_X7_kindOf 18 rfl) ⟨by decide, by decide⟩ ?_
            exact mm_iret C T (mm_dec dk_X7_kindOf 19 rfl) (by decide : 0 ≤ 0) (by decide : 0 ≤ 0) ⟨_, rfl, ⟨⟨by omega, by omega⟩, rfl, by unfold mm_kd; (repeat' split) <;> omega⟩⟩
          · show mm_W x 0 0 134 _ _ _
            refine mm_iconst C (mm_dec dk_X7_kindOf 20 rfl) ⟨by decide, by decide⟩ ?_
            exact mm_iret C T (mm_dec dk_X7_kindOf 21 rfl) (by decide : 0 ≤ 0) (by decide : 0 ≤ 0) ⟨_, rfl, ⟨⟨by omega, by omega⟩, rfl, by unfold mm_kd; (repeat' split) <;> omega⟩⟩
          · show mm_W x 0 0 132 _ _ _
            refine mm_iconst C (mm_dec dk_X7_kindOf 18 rfl) ⟨by decide, by decide⟩ ?_
            exact mm_iret C T (mm_dec dk_X7_kindOf 19 rfl) (by decide : 0 ≤ 0) (by decide : 0 ≤ 0) ⟨_, rfl, ⟨⟨by omega, by omega⟩, rfl, by unfold mm_kd; (repeat' split) <;> omega⟩⟩
          · show mm_W x 0 0 134 _ _ _
            refine mm_iconst C (mm_dec dk_X7_kindOf 20 rfl) ⟨by decide, by decide⟩ ?_
            exact mm_iret C T (mm_dec dk_X7_kindOf 21 rfl) (by decide : 0 ≤ 0) (by decide : 0 ≤ 0) ⟨_, rfl, ⟨⟨by omega, by omega⟩, rfl, by unfold mm_kd; (repeat' split) <;> omega⟩⟩
          · show mm_W x 0 0 134 _ _ _
            refine mm_iconst C (mm_dec dk_X7_kindOf 20 rfl) ⟨by decide, by decide⟩ ?_
            exact mm_iret C T (mm_dec dk_X7_kindOf 21 rfl) (by decide : 0 ≤ 0) (by decide : 0 ≤ 0) ⟨_, rfl, ⟨⟨by omega, by omega⟩, rfl, by unfold mm_kd; (repeat' split) <;> omega⟩⟩
          · show mm_W x 0 0 134 _ _ _
            refine mm_iconst C (mm_dec dk_X7_kindOf 20 rfl) ⟨by decide, by decide⟩ ?_
            exact mm_iret C T (mm_dec dk_X7_kindOf 21 rfl) (by decide : 0 ≤ 0) (by decide : 0 ≤ 0) ⟨_, rfl, ⟨⟨by omega, by omega⟩, rfl, by unfold mm_kd; (repeat' split) <;> omega⟩⟩
          · show mm_W x 0 0 134 _ _ _
            refine mm_iconst C (mm_dec dk_X7_kindOf 20 rfl) ⟨by decide, by decide⟩ ?_
            exact mm_iret C T (mm_dec dk_X7_kindOf 21 rfl) (by decide : 0 ≤ 0) (by decide : 0 ≤ 0) ⟨_, rfl, ⟨⟨by omega, by omega⟩, rfl, by unfold mm_kd; (repeat' split) <;> omega⟩⟩
          · show mm_W x 0 0 134 _ _ _
            refine mm_iconst C (mm_dec dk_X7_kindOf 20 rfl) ⟨by decide, by decide⟩ ?_
            exact mm_iret C T (mm_dec dk_X7_kindOf 21 rfl) (by decide : 0 ≤ 0) (by decide : 0 ≤ 0) ⟨_, rfl, ⟨⟨by omega, by omega⟩, rfl, by unfold mm_kd; (repeat' split) <;> omega⟩⟩
          · show mm_W x 0 0 134 _ _ _
            refine mm_iconst C (mm_dec dk_X7_kindOf 20 rfl) ⟨by decide, by decide⟩ ?_
            exact mm_iret C T (mm_dec dk_X7_kindOf 21 rfl) (by decide : 0 ≤ 0) (by decide : 0 ≤ 0) ⟨_, rfl, ⟨⟨by omega, by omega⟩, rfl, by unfold mm_kd; (repeat' split) <;> omega⟩⟩
          · show mm_W x 0 0 134 _ _ _
            refine mm_iconst C (mm_dec dk_X7_kindOf 20 rfl) ⟨by decide, by decide⟩ ?_
            exact mm_iret C T (mm_dec dk_X7_kindOf 21 rfl) (by decide : 0 ≤ 0) (by decide : 0 ≤ 0) ⟨_, rfl, ⟨⟨by omega, by omega⟩, rfl, by unfold mm_kd; (repeat' split) <;> omega⟩⟩
          · show mm_W x 0 0 134 _ _ _
            refine mm_iconst C (mm_dec dk_X7_kindOf 20 rfl) ⟨by decide, by decide⟩ ?_
            exact mm_iret C T (mm_dec dk_X7_kindOf 21 rfl) (by decide : 0 ≤ 0) (by decide : 0 ≤ 0) ⟨_, rfl, ⟨⟨by omega, by omega⟩, rfl, by unfold mm_kd; (repeat' split) <;> omega⟩⟩
          · show mm_W x 0 0 134 _ _ _
            refine mm_iconst C (mm_dec dk_X7_kindOf 20 rfl) ⟨by decide, by decide⟩ ?_
            exact mm_iret C T (mm_dec dk_X7_kindOf 21 rfl) (by decide : 0 ≤ 0) (by decide : 0 ≤ 0) ⟨_, rfl, ⟨⟨by omega, by omega⟩, rfl, by unfold mm_kd; (repeat' split) <;> omega⟩⟩
          · show mm_W x 0 0 134 _ _ _
            refine mm_iconst C (mm_dec dk_X7_kindOf 20 rfl) ⟨by decide, by decide⟩ ?_
            exact mm_iret C T (mm_dec dk_X7_kindOf 21 rfl) (by decide : 0 ≤ 0) (by decide : 0 ≤ 0) ⟨_, rfl, ⟨⟨by omega, by omega⟩, rfl, by unfold mm_kd; (repeat' split) <;> omega⟩⟩
          · show mm_W x 0 0 134 _ _ _
            refine mm_iconst C (mm_dec dk_X7_kindOf 20 rfl) ⟨by decide, by decide⟩ ?_
            exact mm_iret C T (mm_dec dk_X7_kindOf 21 rfl) (by decide : 0 ≤ 0) (by decide : 0 ≤ 0) ⟨_, rfl, ⟨⟨by omega, by omega⟩, rfl, by unfold mm_kd; (repeat' split) <;> omega⟩⟩
          · show mm_W x 0 0 132 _ _ _
            refine mm_iconst C (mm_dec dk_X7_kindOf 18 rfl) ⟨by decide, by decide⟩ ?_
            exact mm_iret C T (mm_dec dk_X7_kindOf 19 rfl) (by decide : 0 ≤ 0) (by decide : 0 ≤ 0) ⟨_, rfl, ⟨⟨by omega, by omega⟩, rfl, by unfold mm_kd; (repeat' split) <;> omega⟩⟩
          · show mm_W x 0 0 132 _ _ _
            refine mm_iconst C (mm_dec dk_X7_kindOf 18 rfl) ⟨by decide, by decide⟩ ?_
            exact mm_iret C T (mm_dec dk_X7_kindOf 19 rfl) (by decide : 0 ≤ 0) (by decide : 0 ≤ 0) ⟨_, rfl, ⟨⟨by omega, by omega⟩, rfl, by unfold mm_kd; (repeat' split) <;> omega⟩⟩
          · show mm_W x 0 0 132 _ _ _
            refine mm_iconst C (mm_dec dk_X7_kindOf 18 rfl) ⟨by decide, by decide⟩ ?_
            exact mm_iret C T (mm_dec dk_X7_kindOf 19 rfl) (by decide : 0 ≤ 0) (by decide : 0 ≤ 0) ⟨_, rfl, ⟨⟨by omega, by omega⟩, rfl, by unfold mm_kd; (repeat' split) <;> omega⟩⟩
      · skip
        refine mm_iconst C (mm_dec dk_X7_kindOf 14 rfl) ⟨by decide, by decide⟩ ?_
        exact mm_iret C T (mm_dec dk_X7_kindOf 15 rfl) (by decide : 0 ≤ 0) (by decide : 0 ≤ 0) ⟨_, rfl, ⟨⟨by omega, by omega⟩, rfl, by unfold mm_kd; (repeat' split) <;> omega⟩⟩
  · skip
    refine mm_iload_n C (mm_dec dk_X7_kindOf 3 rfl) rfl ?_
    refine mm_bipush C (mm_dec dk_X7_kindOf 4 rfl) ⟨by decide, by decide⟩ ?_
    refine mm_icmp_gt (tgt := 14) C (mm_dec dk_X7_kindOf 5 rfl) (by decide) (fun c9 => ?_) (fun c9 => ?_)
    · skip
      refine mm_iload_n C (mm_dec dk_X7_kindOf 8 rfl) rfl ?_
      refine mm_bipush C (mm_dec dk_X7_kindOf 9 rfl) ⟨by decide, by decide⟩ ?_
      refine mm_icmp_lt (tgt := 28) C (mm_dec dk_X7_kindOf 10 rfl) (by decide) (fun c17 => ?_) (fun c17 => ?_)
      · skip
        exfalso; omega
      · skip
        refine mm_iload_n C (mm_dec dk_X7_kindOf 11 rfl) rfl ?_
        refine mm_bipush C (mm_dec dk_X7_kindOf 12 rfl) ⟨by decide, by decide⟩ ?_
        refine mm_icmp_gt (tgt := 28) C (mm_dec dk_X7_kindOf 13 rfl) (by decide) (fun c23 => ?_) (fun c23 => ?_)
        · skip
          refine mm_iload_n C (mm_dec dk_X7_kindOf 16 rfl) rfl ?_
          refine mm_table (t0 := 134) [132, 132, 132, 132, 134, 132, 134, 132, 134, 134, 134, 134, 134, 134, 134, 134, 134, 134, 134, 132, 132, 132] C (mm_dec dk_X7_kindOf 17 rfl) (by decide) (by decide) (by decide +kernel) (fun c29 => ?_) (fun k29 hk29 c29 => ?_)
          · skip
            refine mm_iconst C (mm_dec dk_X7_kindOf 20 rfl) ⟨by decide, by decide⟩ ?_
            exact mm_iret C T (mm_dec dk_X7_kindOf 21 rfl) (by decide : 0 ≤ 0) (by decide : 0 ≤ 0) ⟨_, rfl, ⟨⟨by omega, by omega⟩, rfl, by unfold mm_kd; (repeat' split) <;> omega⟩⟩
          · have hq29 : k29 < 22 := hk29
            rcases (by omega : k29 = 0 ∨ k29 = 1 ∨ k29 = 2 ∨ k29 = 3 ∨ k29 = 4 ∨ k29 = 5 ∨ k29 = 6 ∨ k29 = 7 ∨ k29 = 8 ∨ k29 = 9 ∨ k29 = 10 ∨ k29 = 11 ∨ k29 = 12 ∨ k29 = 13 ∨ k29 = 14 ∨ k29 = 15 ∨ k29 = 16 ∨ k29 = 17 ∨ k29 = 18 ∨ k29 = 19 ∨ k29 = 20 ∨ k29 = 21) with rfl | rfl | rfl | rfl | rfl | rfl | rfl | rfl | rfl | rfl | rfl | rfl | rfl | rfl | rfl | rfl | rfl | rfl | rfl | rfl | rfl | rfl
            · show mm_W x 0 0 132 _ _ _
              refine mm_iconst C (mm_dec dk_X7_kindOf 18 rfl) ⟨by decide, by decide⟩ ?_
              exact mm_iret C T (mm_dec dk_X7_kindOf 19 rfl) (by decide : 0 ≤ 0) (by decide : 0 ≤ 0) ⟨_, rfl, ⟨⟨by omega, by omega⟩, rfl, by unfold mm_kd; (repeat' split) <;> omega⟩⟩
            · show mm_W x 0 0 132 _ _ _
              refine mm_iconst C (mm_dec dk_X7_kindOf 18 rfl) ⟨by decide, by decide⟩ ?_
              exact mm_iret C T (mm_dec dk_X7_kindOf 19 rfl) (by decide : 0 ≤ 0) (by decide : 0 ≤ 0) ⟨_, rfl, ⟨⟨by omega, by omega⟩, rfl, by unfold mm_kd; (repeat' split) <;> omega⟩⟩
            · show mm_W x 0 0 132 _ _ _
              refine mm_iconst C (mm_dec dk_X7_kindOf 18 rfl) ⟨by decide, by decide⟩ ?_
              exact mm_iret C T (mm_dec dk_X7_kindOf 19 rfl) (by decide : 0 ≤ 0) (by decide : 0 ≤ 0) ⟨_, rfl, ⟨⟨by omega, by omega⟩, rfl, by unfold mm_kd; (repeat' split) <;> omega⟩⟩
            · show mm_W x 0 0 132 _ _ _
              refine mm_iconst C (mm_dec dk_X7_kindOf 18 rfl) ⟨by decide, by decide⟩ ?_
              exact mm_iret C T (mm_dec dk_X7_kindOf 19 rfl) (by decide : 0 ≤ 0) (by decide : 0 ≤ 0) ⟨_, rfl, ⟨⟨by omega, by omega⟩, rfl, by unfold mm_kd; (repeat' split) <;> omega⟩⟩
            · show mm_W x 0 0 134 _ _ _
              refine mm_iconst C (mm_dec dk_X7_kindOf 20 rfl) ⟨by decide, by decide⟩ ?_
              exact mm_iret C T (mm_dec dk_X7_kindOf 21 rfl) (by decide : 0 ≤ 0) (by decide : 0 ≤ 0) ⟨_, rfl, ⟨⟨by omega, by omega⟩, rfl, by unfold mm_kd; (repeat' split) <;> omega⟩⟩
            · show mm_W x 0 0 132 _ _ _
              refine mm_iconst C (mm_dec dk_X7_kindOf 18 rfl) ⟨by decide, by decide⟩ ?_
              exact mm_iret C T (mm_dec dk_X7_kindOf 19 rfl) (by decide : 0 ≤ 0) (by decide : 0 ≤ 0) ⟨_, rfl, ⟨⟨by omega, by omega⟩, rfl, by unfold mm_kd; (repeat' split) <;> omega⟩⟩
            · show mm_W x 0 0 134 _ _ _
              refine mm_iconst C (mm_dec dk_X7_kindOf 20 rfl) ⟨by decide, by decide⟩ ?_
              exact mm_iret C T (mm_dec dk_X7_kindOf 21 rfl) (by decide : 0 ≤ 0) (by decide : 0 ≤ 0) ⟨_, rfl, ⟨⟨by omega, by omega⟩, rfl, by unfold mm_kd; (repeat' split) <;> omega⟩⟩
            · show mm_W x 0 0 132 _ _ _
              refine mm_iconst C (mm_dec dk_X7_kindOf 18 rfl) ⟨by decide, by decide⟩ ?_
              exact mm_iret C T (mm_dec dk_X7_kindOf 19 rfl) (by decide : 0 ≤ 0) (by decide : 0 ≤ 0) ⟨_, rfl, ⟨⟨by omega, by omega⟩, rfl, by unfold mm_kd; (repeat' split) <;> omega⟩⟩
            · show mm_W x 0 0 134 _ _ _
              refine mm_iconst C (mm_dec dk_X7_kindOf 20 rfl) ⟨by decide, by decide⟩ ?_
              exact mm_iret C T (mm_dec dk_X7_kindOf 21 rfl) (by decide : 0 ≤ 0) (by decide : 0 ≤ 0) ⟨_, rfl, ⟨⟨by omega, by omega⟩, rfl, by unfold mm_kd; (repeat' split) <;> omega⟩⟩
            · show mm_W x 0 0 134 _ _ _
              refine mm_iconst C (mm_dec dk_X7_kindOf 20 rfl) ⟨by decide, by decide⟩ ?_
              exact mm_iret C T (mm_dec dk_X7_kindOf 21 rfl) (by decide : 0 ≤ 0) (by decide : 0 ≤ 0) ⟨_, rfl, ⟨⟨by omega, by omega⟩, rfl, by unfold mm_kd; (repeat' split) <;> omega⟩⟩
            · show mm_W x 0 0 134 _ _ _
              refine mm_iconst C (mm_dec dk_X7_kindOf 20 rfl) ⟨by decide, by decide⟩ ?_
              exact mm_iret C T (mm_dec dk_X7_kindOf 21 rfl) (by decide : 0 ≤ 0) (by decide : 0 ≤ 0) ⟨_, rfl, ⟨⟨by omega, by omega⟩, rfl, by unfold mm_kd; (repeat' split) <;> omega⟩⟩
            · show mm_W x 0 0 134 _ _ _
              refine mm_iconst C (mm_dec dk_X7_kindOf 20 rfl) ⟨by decide, by decide⟩ ?_
              exact mm_iret C T (mm_dec dk_X7_kindOf 21 rfl) (by decide : 0 ≤ 0) (by decide : 0 ≤ 0) ⟨_, rfl, ⟨⟨by omega, by omega⟩, rfl, by unfold mm_kd; (repeat' split) <;> omega⟩⟩
            · show mm_W x 0 0 134 _ _ _
              refine mm_iconst C (mm_dec dk_X7_kindOf 20 rfl) ⟨by decide, by decide⟩ ?_
              exact mm_iret C T (mm_dec dk_X7_kindOf 21 rfl) (by decide : 0 ≤ 0) (by decide : 0 ≤ 0) ⟨_, rfl, ⟨⟨by omega, by omega⟩, rfl, by unfold mm_kd; (repeat' split) <;> omega⟩⟩
            · show mm_W x 0 0 134 _ _ _
              refine mm_iconst C (mm_dec dk_X7_kindOf 20 rfl) ⟨by decide, by decide⟩ ?_
              exact mm_iret C T (mm_dec dk_X7_kindOf 21 rfl) (by decide : 0 ≤ 0) (by decide : 0 ≤ 0) ⟨_, rfl, ⟨⟨by omega, by omega⟩, rfl, by unfold mm_kd; (repeat' split) <;> omega⟩⟩
            · show mm_W x 0 0 134 _ _ _
              refine mm_iconst C (mm_dec dk_X7_kindOf 20 rfl) ⟨by decide, by decide⟩ ?_
              exact mm_iret C T (mm_dec dk_X7_kindOf 21 rfl) (by decide : 0 ≤ 0) (by decide : 0 ≤ 0) ⟨_, rfl, ⟨⟨by omega, by omega⟩, rfl, by unfold mm_kd; (repeat' split) <;> omega⟩⟩
            · show mm_W x 0 0 134 _ _ _
              refine mm_iconst C (mm_dec dk_X7_kindOf 20 rfl) ⟨by decide, by decide⟩ ?_
              exact mm_iret C T (mm_dec dk_X7_kindOf 21 rfl) (by decide : 0 ≤ 0) (by decide : 0 ≤ 0) ⟨_, rfl, ⟨⟨by omega, by omega⟩, rfl, by unfold mm_kd; (repeat' split) <;> omega⟩⟩
            · show mm_W x 0 0 134 _ _ _
              refine mm_iconst C (mm_dec dk_X7_kindOf 20 rfl) ⟨by decide, by decide⟩ ?_
              exact mm_iret C T (mm_dec dk_X7_kindOf 21 rfl) (by decide : 0 ≤ 0) (by decide : 0 ≤ 0) ⟨_, rfl, ⟨⟨by omega, by omega⟩, rfl, by unfold mm_kd; (repeat' split) <;> omega⟩⟩
            · show mm_W x 0 0 134 _ _ _
              refine mm_iconst C (mm_dec dk_X7_kindOf 20 rfl) ⟨by decide, by decide⟩ ?_
              exact mm_iret C T (mm_dec dk_X7_kindOf 21 rfl) (by decide : 0 ≤ 0) (by decide : 0 ≤ 0) ⟨_, rfl, ⟨⟨by omega, by omega⟩, rfl, by unfold mm_kd; (repeat' split) <;> omega⟩⟩
            · show mm_W x 0 0 134 _ _ _
              refine mm_iconst C (mm_dec dk_X7_kindOf 20 rfl) ⟨by decide, by decide⟩ ?_
              exact mm_iret C T (mm_dec dk_X7_kindOf 21 rfl) (by decide : 0 ≤ 0) (by decide : 0 ≤ 0) ⟨_, rfl, ⟨⟨by omega, by omega⟩, rfl, by unfold mm_kd; (repeat' split) <;> omega⟩⟩
            · show mm_W x 0 0 132 _ _ _
              refine mm_iconst C (mm_dec dk_X7_kindOf 18 rfl) ⟨by decide, by decide⟩ ?_
              exact mm_iret C T (mm_dec dk_X7_kindOf 19 rfl) (by decide : 0 ≤ 0) (by decide : 0 ≤ 0) ⟨_, rfl, ⟨⟨by omega, by omega⟩, rfl, by unfold mm_kd; (repeat' split) <;> omega⟩⟩
            · show mm_W x 0 0 132 _ _ _
              refine mm_iconst C (mm_dec dk_X7_kindOf 18 rfl) ⟨by decide, by decide⟩ ?_
              exact mm_iret C T (mm_dec dk_X7_kindOf 19 rfl) (by decide : 0 ≤ 0) (by decide : 0 ≤ 0) ⟨_, rfl, ⟨⟨by omega, by omega⟩, rfl, by unfold mm_kd; (repeat' split) <;> omega⟩⟩
            · show mm_W x 0 0 132 _ _ _
              refine mm_iconst C (mm_dec dk_X7_kindOf 18 rfl) ⟨by decide, by decide⟩ ?_
              exact mm_iret C T (mm_dec dk_X7_kindOf 19 rfl) (by decide : 0 ≤ 0) (by decide : 0 ≤ 0) ⟨_, rfl, ⟨⟨by omega, by omega⟩, rfl, by unfold mm_kd; (repeat' split) <;> omega⟩⟩
        · skip
          exfalso; omega
    · skip
      refine mm_iconst C (mm_dec dk_X7_kindOf 6 rfl) ⟨by decide, by decide⟩ ?_
      exact mm_iret C T (mm_dec dk_X7_kindOf 7 rfl) (by decide : 0 ≤ 0) (by decide : 0 ≤ 0) ⟨_, rfl, ⟨⟨by omega, by omega⟩, rfl, by unfold mm_kd; (repeat' split) <;> omega⟩⟩
set_option maxRecDepth 100000 in
set_option maxHeartbeats 4000000 in
theorem c_X7_wordOfToken_q (l : Launch) (hl : l.stackTraces = false) (d : Nat) (hd : 4 ≤ d) (h : mH) (i0 : mm_inv h) (t0 : h.1 63 8 ≤ h.1 63 3) : mm_Met l d yX7_wordOfToken cX7_wordOfToken 6 (some .int) [mR 63] h (mm_pi fun r h2 => (-1 ≤ r ∧ r ≤ 90) ∧ h2 = h ∧ r = mm_wf (mm_UX h) (h.1 63 7) (h.1 63 8) mm_wl9 0 (h.1 63 7) 1) mm_nx 0 0 := by
  refine mm_ofW (ls := [mR 63, mU, mU, mU, mU, mU]) hl (by decide) rfl (Nat.le_of_ble_eq_true rfl) ?_
  intro x hxl C T hnm htb
  subst hxl
  have C1 := mm_OK_le (d' := d - 1 + 1) (by omega) C
  have f0 : mm_fr [] [] h h := mm_fr_rf
  have g1 : 0 ≤ h.1 63 7 ∧ h.1 63 7 ≤ 500 := i0.1 63 7
  have g2 : 0 ≤ h.1 63 8 ∧ h.1 63 8 ≤ 500 := i0.1 63 8
  have g3 : 0 ≤ h.1 63 3 ∧ h.1 63 3 ≤ 500 := i0.1 63 3
  refine mm_iconst C (mm_dec dk_X7_wordOfToken 0 rfl) ⟨by decide, by decide⟩ ?_
  refine mm_istore_nL (ls2 := [mR 63, mI 0, mU, mU, mU, mU]) C (mm_dec dk_X7_wordOfToken 1 rfl) (by decide) rfl ?_
  refine mm_aload_n C (mm_dec dk_X7_wordOfToken 2 rfl) rfl ?_
  refine mm_geti C fl_X7_31 (mm_dec dk_X7_wordOfToken 3 rfl) rfl rfl (Or.inl rfl) ?_
  refine mm_istore_nL (ls2 := [mR 63, mI 0, mI (h.1 63 7), mU, mU, mU]) C (mm_dec dk_X7_wordOfToken 4 rfl) (by decide) rfl ?_
  refine mm_iconst C (mm_dec dk_X7_wordOfToken 5 rfl) ⟨by decide, by decide⟩ ?_
  refine mm_istore_nL (ls2 := [mR 63, mI 0, mI (h.1 63 7), mI 1, mU, mU]) C (mm_dec dk_X7_wordOfToken 6 rfl) (by decide) rfl ?_
  refine mm_iconst C (mm_dec dk_X7_wordOfToken 7 rfl) ⟨by decide, by decide⟩ ?_
  have J12 : ∀ (n : Nat) (x12_1 : Int) (bx12_1 : 0 ≤ x12_1 ∧ x12_1 ≤ 90) (x12_2 : Int) (bx12_2 : 0 ≤ x12_2 ∧ x12_2 ≤ 600) (x12_3 : Int) (bx12_3 : 0 ≤ x12_3 ∧ x12_3 ≤ 1) (x12_4 : Int) (bx12_4 : 0 ≤ x12_4 ∧ x12_4 ≤ 90) (w12_0 : x12_2 ≤ 500 + x12_4) (w12_1 : x12_1 ≤ x12_4) (w12_2 : mm_wf (mm_UX h) (h.1 63 7) (h.1 63 8) (mm_wl9.drop (x12_4).toNat) x12_1 x12_2 x12_3 = mm_wf (mm_UX h) (h.1 63 7) (h.1 63 8) mm_wl9 0 (h.1 63 7) 1) (w12_3 : h.1 63 7 ≤ x12_2), (90 - x12_4 : Int) < n → mm_W x 0 0 12 [mR 63, mI x12_1, mI x12_2, mI x12_3, mI x12_4, mU] [] h := by
    intro n
    induction n with
    | zero =>
      intro x12_1 bx12_1 x12_2 bx12_2 x12_3 bx12_3 x12_4 bx12_4 w12_0 w12_1 w12_2 w12_3 hm
      have g4 : 0 ≤ h.1 63 7 ∧ h.1 63 7 ≤ 500 := i0.1 63 7
      have g5 : 0 ≤ h.1 63 8 ∧ h.1 63 8 ≤ 500 := i0.1 63 8
      have g6 : 0 ≤ h.1 63 3 ∧ h.1 63 3 ≤ 500 := i0.1 63 3
      exfalso; omega
    | succ n ih12 =>
      intro x12_1 bx12_1 x12_2 bx12_2 x12_3 bx12_3 x12_4 bx12_4 w12_0 w12_1 w12_2 w12_3 hm12
      have g7 : 0 ≤ h.1 63 7 ∧ h.1 63 7 ≤ 500 := i0.1 63 7
      have g8 : 0 ≤ h.1 63 8 ∧ h.1 63 8 ≤ 500 := i0.1 63 8
      have g9 : 0 ≤ h.1 63 3 ∧ h.1 63 3 ≤ 500 := i0.1 63 3
      refine mm_iload C (mm_dec dk_X7_wordOfToken 9 rfl) rfl ?_
      refine mm_ldcS (i := 15) C rfl (mm_dec dk_X7_wordOfToken 10 rfl) ?_
      refine mm_cTi (rest := [mI x12_4]) C1 mw_J0_length_8abf5 rfl ml_X7_140 im_J0_length_8abf5 se_J0_length_8abf5 (mm_dec dk_X7_wordOfToken 11 rfl) (c_J0_length_8abf5 x.2.1 hl (d - 1) (by omega) h) rfl (Nat.le_of_ble_eq_true rfl) ⟨by decide, by decide⟩ rfl (fun r16 h16c hp16 => ?_)
      obtain ⟨z16, y16⟩ := hp16
      rw [z16, y16]
      refine mm_icmp_ge (tgt := 103) C (mm_dec dk_X7_wordOfToken 12 rfl) (by decide) (fun c19 => ?_) (fun c19 => ?_)
      · skip
        refine mm_iconst C (mm_dec dk_X7_wordOfToken 54 rfl) ⟨by decide, by decide⟩ ?_
        exact mm_iret C T (mm_dec dk_X7_wordOfToken 55 rfl) (by decide : 0 ≤ 0) (by decide : 0 ≤ 0) ⟨_, rfl, ⟨⟨by omega, by omega⟩, rfl, by first | exact mm_wf_hit zc w12_2 (by omega) (by omega) (by omega) | exact mm_wf_out w12_2 (by omega)⟩⟩
      · skip
        refine mm_ldcS (i := 15) C rfl (mm_dec dk_X7_wordOfToken 13 rfl) ?_
        refine mm_iload C (mm_dec dk_X7_wordOfToken 14 rfl) rfl ?_
        refine mm_cTi (rest := []) C1 mw_J0_charAt_5068e rfl ml_X7_145 im_J0_charAt_5068e se_J0_charAt_5068e (mm_dec dk_X7_wordOfToken 15 rfl) (c_J0_charAt_x x.2.1 hl (d - 1) (by omega) h x12_4 (by omega) (by omega)) rfl (Nat.le_of_ble_eq_true rfl) ⟨by decide, by decide⟩ rfl (fun r26 h26c hp26 => ?_)
        obtain ⟨b26, y26, z26⟩ := hp26
        rw [z26]
        have zc := mm_wf_at (c := r26) (i := x12_4) ⟨by omega, by omega⟩ y26
        have zu : x12_2 < h.1 63 8 → mm_UX h x12_2 = h.2.1 62 x12_2 := fun q => mm_tr_in (by omega) (by omega)
        refine mm_istoreL (ls2 := [mR 63, mI x12_1, mI x12_2, mI x12_3, mI x12_4, mI r26]) C (mm_dec dk_X7_wordOfToken 16 rfl) (by decide) rfl ?_
        refine mm_iload C (mm_dec dk_X7_wordOfToken 17 rfl) rfl ?_
        refine mm_bipush C (mm_dec dk_X7_wordOfToken 18 rfl) ⟨by decide, by decide⟩ ?_
        have J97 : ∀ (x97_1 : Int) (bx97_1 : 0 ≤ x97_1 ∧ x97_1 ≤ 91) (x97_2 : Int) (bx97_2 : 0 ≤ x97_2 ∧ x97_2 ≤ 601) (x97_3 : Int) (bx97_3 : 0 ≤ x97_3 ∧ x97_3 ≤ 1) (w97_0 : x97_2 ≤ 501 + x12_4) (w97_1 : x97_1 ≤ x12_4 + 1) (w97_2 : mm_wf (mm_UX h) (h.1 63 7) (h.1 63 8) (mm_wl9.drop (x12_4 + 1).toNat) x97_1 x97_2 x97_3 = mm_wf (mm_UX h) (h.1 63 7) (h.1 63 8) mm_wl9 0 (h.1 63 7) 1) (w97_3 : h.1 63 7 ≤ x97_2), mm_W x 0 0 97 [mR 63, mI x97_1, mI x97_2, mI x97_3, mI x12_4, mU] [] h := by
          intro x97_1 bx97_1 x97_2 bx97_2 x97_3 bx97_3 w97_0 w97_1 w97_2 w97_3
          have g10 : 0 ≤ h.1 63 7 ∧ h.1 63 7 ≤ 500 := i0.1 63 7
          have g11 : 0 ≤ h.1 63 8 ∧ h.1 63 8 ≤ 500 := i0.1 63 8
          have g12 : 0 ≤ h.1 63 3 ∧ h.1 63 3 ≤ 500 := i0.1 63 3
          refine mm_iincL (ls2 := [mR 63, mI x97_1, mI x97_2, mI x97_3, mI (x12_4 + 1), mU]) C (mm_dec dk_X7_wordOfToken 52 rfl) rfl (by decide) ⟨by omega, by omega⟩ rfl ?_
          refine mm_goto (tgt := 12) C (mm_dec dk_X7_wordOfToken 53 rfl) (by decide) ?_
          exact ih12 x97_1 ⟨by omega, by omega⟩ x97_2 ⟨by omega, by omega⟩ x97_3 ⟨by omega, by omega⟩ (x12_4 + 1) ⟨by omega, by omega⟩ (by omega) (by omega) (by first | rfl | exact w97_2) (by omega) (by omega)
        refine mm_icmp_eq (tgt := 73) C (mm_dec dk_X7_wordOfToken 19 rfl) (by decide) (fun c35 => ?_) (fun c35 => ?_)
        · skip
          refine mm_iload_n C (mm_dec dk_X7_wordOfToken 38 rfl) rfl ?_
          have J87 : ∀ (w87_0 : (x12_3 ≠ 1 ∨ x12_2 ≠ h.1 63 8)), mm_W x 0 0 87 [mR 63, mI x12_1, mU, mU, mI x12_4, mU] [] h := by
            intro w87_0
            have g13 : 0 ≤ h.1 63 7 ∧ h.1 63 7 ≤ 500 := i0.1 63 7
            have g14 : 0 ≤ h.1 63 8 ∧ h.1 63 8 ≤ 500 := i0.1 63 8
            have g15 : 0 ≤ h.1 63 3 ∧ h.1 63 3 ≤ 500 := i0.1 63 3
            refine mm_iincL (ls2 := [mR 63, mI (x12_1 + 1), mU, mU, mI x12_4, mU]) C (mm_dec dk_X7_wordOfToken 46 rfl) rfl (by decide) ⟨by omega, by omega⟩ rfl ?_
            refine mm_aload_n C (mm_dec dk_X7_wordOfToken 47 rfl) rfl ?_
            refine mm_geti C fl_X7_31 (mm_dec dk_X7_wordOfToken 48 rfl) rfl rfl (Or.inl rfl) ?_
            refine mm_istore_nL (ls2 := [mR 63, mI (x12_1 + 1), mI (h.1 63 7), mU, mI x12_4, mU]) C (mm_dec dk_X7_wordOfToken 49 rfl) (by decide) rfl ?_
            refine mm_iconst C (mm_dec dk_X7_wordOfToken 50 rfl) ⟨by decide, by decide⟩ ?_
            refine mm_istore_nL (ls2 := [mR 63, mI (x12_1 + 1), mI (h.1 63 7), mI 1, mI x12_4, mU]) C (mm_dec dk_X7_wordOfToken 51 rfl) (by decide) rfl ?_
            exact J97 (x12_1 + 1) ⟨by omega, by omega⟩ (h.1 63 7) ⟨by omega, by omega⟩ 1 ⟨by omega, by omega⟩ (by omega) (by omega) (by first | exact mm_wf_sp zc w12_2 (by omega) (by omega) | exact mm_wf_ch zc w12_2 (by omega) w66_0) (by omega)
          refine mm_if_eq (tgt := 87) C (mm_dec dk_X7_wordOfToken 39 rfl) (by decide) (fun c74 => ?_) (fun c74 => ?_)
          · skip
            refine mm_fgt 2 ?_
            refine mm_fgt 3 ?_
            refine mm_fgt 5 ?_
            exact J87 (by omega)
          · skip
            refine mm_iload_n C (mm_dec dk_X7_wordOfToken 40 rfl) rfl ?_
            refine mm_aload_n C (mm_dec dk_X7_wordOfToken 41 rfl) rfl ?_
            refine mm_geti C fl_X7_34 (mm_dec dk_X7_wordOfToken 42 rfl) rfl rfl (Or.inl rfl) ?_
            refine mm_icmp_ne (tgt := 87) C (mm_dec dk_X7_wordOfToken 43 rfl) (by decide) (fun c82 => ?_) (fun c82 => ?_)
            · skip
              refine mm_fgt 2 ?_
              refine mm_fgt 3 ?_
              refine mm_fgt 5 ?_
              exact J87 (by omega)
            · skip
              refine mm_iload_n C (mm_dec dk_X7_wordOfToken 44 rfl) rfl ?_
              exact mm_iret C T (mm_dec dk_X7_wordOfToken 45 rfl) (by decide : 0 ≤ 0) (by decide : 0 ≤ 0) ⟨_, rfl, ⟨⟨by omega, by omega⟩, rfl, by first | exact mm_wf_hit zc w12_2 (by omega) (by omega) (by omega) | exact mm_wf_out w12_2 (by omega)⟩⟩
        · skip
          refine mm_iload_n C (mm_dec dk_X7_wordOfToken 20 rfl) rfl ?_
          have J66 : ∀ (s66_0 : Int) (bs66_0 : 0 ≤ s66_0 ∧ s66_0 ≤ 1) (w66_0 : s66_0 = (if x12_3 = 1 ∧ x12_2 < h.1 63 8 ∧ mm_UX h x12_2 = r26 then 1 else 0)) (vs66_0 : (s66_0 = 0) ∨ (x12_3 ≠ 0 ∧ x12_2 < (h.1 63 8) ∧ (h.2.1 62 x12_2) = r26 ∧ s66_0 = 1)), mm_W x 0 0 66 [mR 63, mI x12_1, mI x12_2, mU, mI x12_4, mU] [mI s66_0] h := by
            intro s66_0 bs66_0 w66_0 vs66_0
            have g16 : 0 ≤ h.1 63 7 ∧ h.1 63 7 ≤ 500 := i0.1 63 7
            have g17 : 0 ≤ h.1 63 8 ∧ h.1 63 8 ≤ 500 := i0.1 63 8
            have g18 : 0 ≤ h.1 63 3 ∧ h.1 63 3 ≤ 500 := i0.1 63 3
            refine mm_istore_nL (ls2 := [mR 63, mI x12_1, mI x12_2, mI s66_0, mI x12_4, mU]) C (mm_dec dk_X7_wordOfToken 35 rfl) (by decide) rfl ?_
            refine mm_iincL (ls2 := [mR 63, mI x12_1, mI (x12_2 + 1), mI s66_0, mI x12_4, mU]) C (mm_dec dk_X7_wordOfToken 36 rfl) rfl (by decide) ⟨by omega, by omega⟩ rfl ?_
            refine mm_goto (tgt := 97) C (mm_dec dk_X7_wordOfToken 37 rfl) (by decide) ?_
            exact J97 x12_1 ⟨by omega, by omega⟩ (x12_2 + 1) ⟨by omega, by omega⟩ s66_0 ⟨by omega, by omega⟩ (by omega) (by omega) (by first | exact mm_wf_sp zc w12_2 (by omega) (by omega) | exact mm_wf_ch zc w12_2 (by omega) w66_0) (by omega)
          have J65 : ∀ (w65_0 : (x12_3 ≠ 1 ∨ h.1 63 8 ≤ x12_2 ∨ mm_UX h x12_2 ≠ r26)), mm_W x 0 0 65 [mR 63, mI x12_1, mI x12_2, mU, mI x12_4, mU] [] h := by
            intro w65_0
            have g19 : 0 ≤ h.1 63 7 ∧ h.1 63 7 ≤ 500 := i0.1 63 7
            have g20 : 0 ≤ h.1 63 8 ∧ h.1 63 8 ≤ 500 := i0.1 63 8
            have g21 : 0 ≤ h.1 63 3 ∧ h.1 63 3 ≤ 500 := i0.1 63 3
            refine mm_iconst C (mm_dec dk_X7_wordOfToken 34 rfl) ⟨by decide, by decide⟩ ?_
            exact J66 0 ⟨by omega, by omega⟩ (by first | exact (if_pos ⟨by omega, by omega, by have := zu (by omega); omega⟩).symm | exact (if_neg (by omega)).symm | exact (if_neg (fun q => by have := zu q.2.1; omega)).symm) (Or.inl rfl)
          refine mm_if_eq (tgt := 65) C (mm_dec dk_X7_wordOfToken 21 rfl) (by decide) (fun c39 => ?_) (fun c39 => ?_)
          · skip
            refine mm_fgt 3 ?_
            refine mm_fgt 5 ?_
            exact J65 (by first | omega | (have z := zu (by omega); omega))
          · skip
            refine mm_iload_n C (mm_dec dk_X7_wordOfToken 22 rfl) rfl ?_
            refine mm_aload_n C (mm_dec dk_X7_wordOfToken 23 rfl) rfl ?_
            refine mm_geti C fl_X7_34 (mm_dec dk_X7_wordOfToken 24 rfl) rfl rfl (Or.inl rfl) ?_
            refine mm_icmp_ge (tgt := 65) C (mm_dec dk_X7_wordOfToken 25 rfl) (by decide) (fun c47 => ?_) (fun c47 => ?_)
            · skip
              refine mm_fgt 3 ?_
              refine mm_fgt 5 ?_
              exact J65 (by first | omega | (have z := zu (by omega); omega))
            · skip
              refine mm_aload_n C (mm_dec dk_X7_wordOfToken 26 rfl) rfl ?_
              refine mm_getr (t := 62) C fl_X7_43 (mm_dec dk_X7_wordOfToken 27 rfl) rfl rfl (mm_ref i0 rfl) ?_
              refine mm_iload_n C (mm_dec dk_X7_wordOfToken 28 rfl) rfl ?_
              refine mm_iald C (mm_dec dk_X7_wordOfToken 29 rfl) rfl (by omega) (by omega) ?_
              have g22 : -2147483648 ≤ (h.2.1 62 x12_2) ∧ (h.2.1 62 x12_2) ≤ 2147483647 := i0.2.1 62 x12_2
              refine mm_iload C (mm_dec dk_X7_wordOfToken 30 rfl) rfl ?_
              refine mm_icmp_ne (tgt := 65) C (mm_dec dk_X7_wordOfToken 31 rfl) (by decide) (fun c58 => ?_) (fun c58 => ?_)
              · skip
                refine mm_fgt 3 ?_
                refine mm_fgt 5 ?_
                exact J65 (by first | omega | (have z := zu (by omega); omega))
              · skip
                refine mm_iconst C (mm_dec dk_X7_wordOfToken 32 rfl) ⟨by decide, by decide⟩ ?_
                refine mm_goto (tgt := 66) C (mm_dec dk_X7_wordOfToken 33 rfl) (by decide) ?_
                refine mm_fgt 3 ?_
                refine mm_fgt 5 ?_
                exact J66 1 ⟨by omega, by omega⟩ (by first | exact (if_pos ⟨by omega, by omega, by have := zu (by omega); omega⟩).symm | exact (if_neg (by omega)).symm | exact (if_neg (fun q => by have := zu q.2.1; omega)).symm) (Or.inr (⟨by omega, by omega, by omega, rfl⟩))
  refine mm_istoreL (ls2 := [mR 63, mI 0, mI (h.1 63 7), mI 1, mI 0, mU]) C (mm_dec dk_X7_wordOfToken 8 rfl) (by decide) rfl ?_
  exact J12 (((90 - 0) : Int) + 1).toNat 0 ⟨by omega, by omega⟩ (h.1 63 7) ⟨by omega, by omega⟩ 1 ⟨by omega, by omega⟩ 0 ⟨by omega, by omega⟩ (by omega) (by omega) (by first | rfl | exact w97_2) (by omega) (by omega)
set_option maxRecDepth 100000 in
set_option maxHeartbeats 4000000 in
theorem c_X7_step_q (l : Launch) (hl : l.stackTraces = false) (d : Nat) (hd : 5 ≤ d) (h : mH) (i0 : mm_inv h) : mm_Met l d yX7_step cX7_step 2 none [mR 63] h (mm_pv fun h2 => mm_inv h2 ∧ mm_fr [(63, 5), (63, 6), (63, 7), (63, 8)] [] h h2 ∧ (h2.1 63 5 = 0 ∨ h2.1 63 7 ≤ 499) ∧ mm_aX h2 ∧ h2.1 63 7 = mm_skp (mm_UX h) (h.1 63 3) (h.1 63 8)) mm_nx 0 0 := by
  refine mm_ofW (ls := [mR 63, mU]) hl (by decide) rfl (Nat.le_of_ble_eq_true rfl) ?_
  intro x hxl C T hnm htb
  subst hxl
  have C1 := mm_OK_le (d' := d - 1 + 1) (by omega) C
  have f0 : mm_fr [(63, 5), (63, 6), (63, 7), (63, 8)] [] h h := mm_fr_rf
  have g1 : -2147483648 ≤ h.1 63 5 ∧ h.1 63 5 ≤ 2147483647 := i0.1 63 5
  have g2 : 0 ≤ h.1 63 7 ∧ h.1 63 7 ≤ 500 := i0.1 63 7
  have g3 : 0 ≤ h.1 63 8 ∧ h.1 63 8 ≤ 500 := i0.1 63 8
  have g4 : 0 ≤ h.1 63 3 ∧ h.1 63 3 ≤ 500 := i0.1 63 3
  have g5 : -2147483648 ≤ h.1 63 6 ∧ h.1 63 6 ≤ 2147483647 := i0.1 63 6
  have g6 : -2147483648 ≤ h.1 63 9 ∧ h.1 63 9 ≤ 2147483647 := i0.1 63 9
  have g7 : -2147483648 ≤ h.1 63 10 ∧ h.1 63 10 ≤ 2147483647 := i0.1 63 10
  refine mm_aload_n C (mm_dec dk_X7_step 0 rfl) rfl ?_
  refine mm_aload_n C (mm_dec dk_X7_step 1 rfl) rfl ?_
  refine mm_geti C fl_X7_34 (mm_dec dk_X7_step 2 rfl) rfl rfl (Or.inl rfl) ?_
  have J8 : ∀ (n : Nat) (h8_ : mH) (i8_ : mm_inv h8_) (f8_ : mm_fr [(63, 5), (63, 6), (63, 7), (63, 8)] [] h h8_) (w8_0 : mm_skp (mm_UX h) (h.1 63 3) (h8_.1 63 7) = mm_skp (mm_UX h) (h.1 63 3) (h.1 63 8)), (500 - h8_.1 63 7 : Int) < n → mm_W x 0 0 8 [mR 63, mU] [] h8_ := by
    intro n
    induction n with
    | zero =>
      intro h8_ i8_ f8_ w8_0 hm
      have g8 : -2147483648 ≤ h8_.1 63 5 ∧ h8_.1 63 5 ≤ 2147483647 := i8_.1 63 5
      have g9 : 0 ≤ h8_.1 63 7 ∧ h8_.1 63 7 ≤ 500 := i8_.1 63 7
      have g10 : 0 ≤ h8_.1 63 8 ∧ h8_.1 63 8 ≤ 500 := i8_.1 63 8
      have g11 : 0 ≤ h8_.1 63 3 ∧ h8_.1 63 3 ≤ 500 := i8_.1 63 3
      have g12 : -2147483648 ≤ h8_.1 63 6 ∧ h8_.1 63 6 ≤ 2147483647 := i8_.1 63 6
      have g13 : -2147483648 ≤ h8_.1 63 9 ∧ h8_.1 63 9 ≤ 2147483647 := i8_.1 63 9
      have g14 : -2147483648 ≤ h8_.1 63 10 ∧ h8_.1 63 10 ≤ 2147483647 := i8_.1 63 10
      exfalso; omega
    | succ n ih8 =>
      intro h8_ i8_ f8_ w8_0 hm8
      have g15 : -2147483648 ≤ h8_.1 63 5 ∧ h8_.1 63 5 ≤ 2147483647 := i8_.1 63 5
      have g16 : 0 ≤ h8_.1 63 7 ∧ h8_.1 63 7 ≤ 500 := i8_.1 63 7
      have g17 : 0 ≤ h8_.1 63 8 ∧ h8_.1 63 8 ≤ 500 := i8_.1 63 8
      have g18 : 0 ≤ h8_.1 63 3 ∧ h8_.1 63 3 ≤ 500 := i8_.1 63 3
      have g19 : -2147483648 ≤ h8_.1 63 6 ∧ h8_.1 63 6 ≤ 2147483647 := i8_.1 63 6
      have g20 : -2147483648 ≤ h8_.1 63 9 ∧ h8_.1 63 9 ≤ 2147483647 := i8_.1 63 9
      have g21 : -2147483648 ≤ h8_.1 63 10 ∧ h8_.1 63 10 ≤ 2147483647 := i8_.1 63 10
      have g22 : h8_.1 63 3 = h.1 63 3 := f8_.1 63 3 (by decide)
      have g23 : h8_.1 63 9 = h.1 63 9 := f8_.1 63 9 (by decide)
      have g24 : h8_.1 63 10 = h.1 63 10 := f8_.1 63 10 (by decide)
      refine mm_aload_n C (mm_dec dk_X7_step 4 rfl) rfl ?_
      refine mm_geti C fl_X7_31 (mm_dec dk_X7_step 5 rfl) rfl rfl (Or.inl rfl) ?_
      refine mm_aload_n C (mm_dec dk_X7_step 6 rfl) rfl ?_
      refine mm_geti C fl_X7_18 (mm_dec dk_X7_step 7 rfl) rfl rfl (Or.inl rfl) ?_
      have J47 : ∀ (w47_0 : h8_.1 63 7 = mm_skp (mm_UX h) (h.1 63 3) (h.1 63 8)) (w47_1 : (h.1 63 3 ≤ h8_.1 63 7 ∨ h8_.1 63 7 < h.1 63 3)), mm_W x 0 0 47 [mR 63, mU] [] h8_ := by
        intro w47_0 w47_1
        have g25 : -2147483648 ≤ h8_.1 63 5 ∧ h8_.1 63 5 ≤ 2147483647 := i8_.1 63 5
        have g26 : 0 ≤ h8_.1 63 7 ∧ h8_.1 63 7 ≤ 500 := i8_.1 63 7
        have g27 : 0 ≤ h8_.1 63 8 ∧ h8_.1 63 8 ≤ 500 := i8_.1 63 8
        have g28 : 0 ≤ h8_.1 63 3 ∧ h8_.1 63 3 ≤ 500 := i8_.1 63 3
        have g29 : -2147483648 ≤ h8_.1 63 6 ∧ h8_.1 63 6 ≤ 2147483647 := i8_.1 63 6
        have g30 : -2147483648 ≤ h8_.1 63 9 ∧ h8_.1 63 9 ≤ 2147483647 := i8_.1 63 9
        have g31 : -2147483648 ≤ h8_.1 63 10 ∧ h8_.1 63 10 ≤ 2147483647 := i8_.1 63 10
        refine mm_aload_n C (mm_dec dk_X7_step 23 rfl) rfl ?_
        refine mm_aload_n C (mm_dec dk_X7_step 24 rfl) rfl ?_
        refine mm_geti C fl_X7_31 (mm_dec dk_X7_step 25 rfl) rfl rfl (Or.inl rfl) ?_
        refine mm_puti C fl_X7_34 (mm_dec dk_X7_step 26 rfl) rfl rfl rfl (Or.inl ⟨rfl, rfl⟩) ?_
        have i1 : mm_inv (mm_pf h8_ 63 8 (h8_.1 63 7)) := mm_inv_pf i8_ (show 0 ≤ (h8_.1 63 7) ∧ (h8_.1 63 7) ≤ 500 from ⟨by omega, by omega⟩) (by decide)
        have f1 : mm_fr [(63, 5), (63, 6), (63, 7), (63, 8)] [] h (mm_pf h8_ 63 8 (h8_.1 63 7)) := mm_fr_pf f8_ (by decide)
        obtain ⟨h1, eh1⟩ : ∃ z, z = mm_pf h8_ 63 8 (h8_.1 63 7) := ⟨_, rfl⟩
        rw [← eh1] at i1 f1 ⊢
        have qh1 : h1.1 63 8 = (h8_.1 63 7) := by rw [eh1]; exact mm_pf_same _ _ _ _
        have qh1_32 : h1.1 63 3 = h8_.1 63 3 := by rw [eh1]; exact mm_pf_ne _ _ (by decide)
        have qh1_33 : h1.1 63 5 = h8_.1 63 5 := by rw [eh1]; exact mm_pf_ne _ _ (by decide)
        have qh1_34 : h1.1 63 6 = h8_.1 63 6 := by rw [eh1]; exact mm_pf_ne _ _ (by decide)
        have qh1_35 : h1.1 63 7 = h8_.1 63 7 := by rw [eh1]; exact mm_pf_ne _ _ (by decide)
        have qh1_36 : h1.1 63 9 = h8_.1 63 9 := by rw [eh1]; exact mm_pf_ne _ _ (by decide)
        have qh1_37 : h1.1 63 10 = h8_.1 63 10 := by rw [eh1]; exact mm_pf_ne _ _ (by decide)
        refine mm_aload_n C (mm_dec dk_X7_step 27 rfl) rfl ?_
        refine mm_iconst C (mm_dec dk_X7_step 28 rfl) ⟨by decide, by decide⟩ ?_
        refine mm_puti C fl_X7_25 (mm_dec dk_X7_step 29 rfl) rfl rfl rfl (Or.inl ⟨rfl, rfl⟩) ?_
        have i2 : mm_inv (mm_pf h1 63 5 0) := mm_inv_pf i1 (show -2147483648 ≤ 0 ∧ 0 ≤ 2147483647 from ⟨by omega, by omega⟩) (by decide)
        have f2 : mm_fr [(63, 5), (63, 6), (63, 7), (63, 8)] [] h (mm_pf h1 63 5 0) := mm_fr_pf f1 (by decide)
        obtain ⟨h2, eh2⟩ : ∃ z, z = mm_pf h1 63 5 0 := ⟨_, rfl⟩
        rw [← eh2] at i2 f2 ⊢
        have qh2 : h2.1 63 5 = 0 := by rw [eh2]; exact mm_pf_same _ _ _ _
        have qh2_38 : h2.1 63 3 = h1.1 63 3 := by rw [eh2]; exact mm_pf_ne _ _ (by decide)
        have qh2_39 : h2.1 63 6 = h1.1 63 6 := by rw [eh2]; exact mm_pf_ne _ _ (by decide)
        have qh2_40 : h2.1 63 7 = h1.1 63 7 := by rw [eh2]; exact mm_pf_ne _ _ (by decide)
        have qh2_41 : h2.1 63 8 = h1.1 63 8 := by rw [eh2]; exact mm_pf_ne _ _ (by decide)
        have qh2_42 : h2.1 63 9 = h1.1 63 9 := by rw [eh2]; exact mm_pf_ne _ _ (by decide)
        have qh2_43 : h2.1 63 10 = h1.1 63 10 := by rw [eh2]; exact mm_pf_ne _ _ (by decide)
        refine mm_aload_n C (mm_dec dk_X7_step 30 rfl) rfl ?_
        refine mm_iconst C (mm_dec dk_X7_step 31 rfl) ⟨by decide, by decide⟩ ?_
        refine mm_puti C fl_X7_28 (mm_dec dk_X7_step 32 rfl) rfl rfl rfl (Or.inl ⟨rfl, rfl⟩) ?_
        have i3 : mm_inv (mm_pf h2 63 6 (-1)) := mm_inv_pf i2 (show -2147483648 ≤ (-1) ∧ (-1) ≤ 2147483647 from ⟨by omega, by omega⟩) (by decide)
        have f3 : mm_fr [(63, 5), (63, 6), (63, 7), (63, 8)] [] h (mm_pf h2 63 6 (-1)) := mm_fr_pf f2 (by decide)
        obtain ⟨h3, eh3⟩ : ∃ z, z = mm_pf h2 63 6 (-1) := ⟨_, rfl⟩
        rw [← eh3] at i3 f3 ⊢
        have qh3 : h3.1 63 6 = (-1) := by rw [eh3]; exact mm_pf_same _ _ _ _
        have qh3_44 : h3.1 63 3 = h2.1 63 3 := by rw [eh3]; exact mm_pf_ne _ _ (by decide)
        have qh3_45 : h3.1 63 5 = h2.1 63 5 := by rw [eh3]; exact mm_pf_ne _ _ (by decide)
        have qh3_46 : h3.1 63 7 = h2.1 63 7 := by rw [eh3]; exact mm_pf_ne _ _ (by decide)
        have qh3_47 : h3.1 63 8 = h2.1 63 8 := by rw [eh3]; exact mm_pf_ne _ _ (by decide)
        have qh3_48 : h3.1 63 9 = h2.1 63 9 := by rw [eh3]; exact mm_pf_ne _ _ (by decide)
        have qh3_49 : h3.1 63 10 = h2.1 63 10 := by rw [eh3]; exact mm_pf_ne _ _ (by decide)
        refine mm_aload_n C (mm_dec dk_X7_step 33 rfl) rfl ?_
        refine mm_geti C fl_X7_31 (mm_dec dk_X7_step 34 rfl) rfl rfl (Or.inl rfl) ?_
        refine mm_aload_n C (mm_dec dk_X7_step 35 rfl) rfl ?_
        refine mm_geti C fl_X7_18 (mm_dec dk_X7_step 36 rfl) rfl rfl (Or.inl rfl) ?_
        refine mm_icmp_lt (tgt := 77) C (mm_dec dk_X7_step 37 rfl) (by decide) (fun c73 => ?_) (fun c73 => ?_)
        · skip
          have zu : mm_UX h (h3.1 63 7) = h3.2.1 62 (h3.1 63 7) := (mm_tr_in (by omega) (by omega)).trans (f3.2 62 (by decide) _).symm
          refine mm_aload_n C (mm_dec dk_X7_step 39 rfl) rfl ?_
          refine mm_aload_n C (mm_dec dk_X7_step 40 rfl) rfl ?_
          refine mm_getr (t := 62) C fl_X7_43 (mm_dec dk_X7_step 41 rfl) rfl rfl (mm_ref i3 rfl) ?_
          refine mm_aload_n C (mm_dec dk_X7_step 42 rfl) rfl ?_
          refine mm_geti C fl_X7_31 (mm_dec dk_X7_step 43 rfl) rfl rfl (Or.inl rfl) ?_
          refine mm_iald C (mm_dec dk_X7_step 44 rfl) rfl (by omega) (by omega) ?_
          have g50 : -2147483648 ≤ (h3.2.1 62 (h3.1 63 7)) ∧ (h3.2.1 62 (h3.1 63 7)) ≤ 2147483647 := i3.2.1 62 (h3.1 63 7)
          refine mm_cSi (rest := [mR 63]) C1 es_X7_131 (mm_dec dk_X7_step 45 rfl) (c_X7_kindOf_q x.2.1 hl (d - 1) (by omega) h3 i3 (h3.2.1 62 (h3.1 63 7))) rfl (Nat.le_of_ble_eq_true rfl) ⟨by decide, by decide⟩ rfl (fun r87 h87c hp87 => ?_) (fun _ _ q => q.elim)
          obtain ⟨b87, z87, y87_0⟩ := hp87
          rw [z87]
          have zk : r87 = mm_kd (mm_UX h (h3.1 63 7)) := by rw [zu]; exact y87_0
          refine mm_puti C fl_X7_25 (mm_dec dk_X7_step 46 rfl) rfl rfl rfl (Or.inl ⟨rfl, rfl⟩) ?_
          have i4 : mm_inv (mm_pf h3 63 5 r87) := mm_inv_pf i3 (show -2147483648 ≤ r87 ∧ r87 ≤ 2147483647 from ⟨by omega, by omega⟩) (by decide)
          have f4 : mm_fr [(63, 5), (63, 6), (63, 7), (63, 8)] [] h (mm_pf h3 63 5 r87) := mm_fr_pf f3 (by decide)
          obtain ⟨h4, eh4⟩ : ∃ z, z = mm_pf h3 63 5 r87 := ⟨_, rfl⟩
          rw [← eh4] at i4 f4 ⊢
          have qh4 : h4.1 63 5 = r87 := by rw [eh4]; exact mm_pf_same _ _ _ _
          have qh4_52 : h4.1 63 3 = h3.1 63 3 := by rw [eh4]; exact mm_pf_ne _ _ (by decide)
          have qh4_53 : h4.1 63 6 = h3.1 63 6 := by rw [eh4]; exact mm_pf_ne _ _ (by decide)
          have qh4_54 : h4.1 63 7 = h3.1 63 7 := by rw [eh4]; exact mm_pf_ne _ _ (by decide)
          have qh4_55 : h4.1 63 8 = h3.1 63 8 := by rw [eh4]; exact mm_pf_ne _ _ (by decide)
          have qh4_56 : h4.1 63 9 = h3.1 63 9 := by rw [eh4]; exact mm_pf_ne _ _ (by decide)
          have qh4_57 : h4.1 63 10 = h3.1 63 10 := by rw [eh4]; exact mm_pf_ne _ _ (by decide)
          refine mm_aload_n C (mm_dec dk_X7_step 47 rfl) rfl ?_
          refine mm_dup C (mm_dec dk_X7_step 48 rfl) (show (2 : Nat) ≠ 1 by decide) ?_
          refine mm_geti C fl_X7_34 (mm_dec dk_X7_step 49 rfl) rfl rfl (Or.inl rfl) ?_
          refine mm_iconst C (mm_dec dk_X7_step 50 rfl) ⟨by decide, by decide⟩ ?_
          refine mm_iadd C (mm_dec dk_X7_step 51 rfl) ⟨by omega, by omega⟩ ?_
          refine mm_puti C fl_X7_34 (mm_dec dk_X7_step 52 rfl) rfl rfl rfl (Or.inl ⟨rfl, rfl⟩) ?_
          have i5 : mm_inv (mm_pf h4 63 8 ((h4.1 63 8) + 1)) := mm_inv_pf i4 (show 0 ≤ ((h4.1 63 8) + 1) ∧ ((h4.1 63 8) + 1) ≤ 500 from ⟨by omega, by omega⟩) (by decide)
          have f5 : mm_fr [(63, 5), (63, 6), (63, 7), (63, 8)] [] h (mm_pf h4 63 8 ((h4.1 63 8) + 1)) := mm_fr_pf f4 (by decide)
          obtain ⟨h5, eh5⟩ : ∃ z, z = mm_pf h4 63 8 ((h4.1 63 8) + 1) := ⟨_, rfl⟩
          rw [← eh5] at i5 f5 ⊢
          have qh5 : h5.1 63 8 = ((h4.1 63 8) + 1) := by rw [eh5]; exact mm_pf_same _ _ _ _
          have qh5_58 : h5.1 63 3 = h4.1 63 3 := by rw [eh5]; exact mm_pf_ne _ _ (by decide)
          have qh5_59 : h5.1 63 5 = h4.1 63 5 := by rw [eh5]; exact mm_pf_ne _ _ (by decide)
          have qh5_60 : h5.1 63 6 = h4.1 63 6 := by rw [eh5]; exact mm_pf_ne _ _ (by decide)
          have qh5_61 : h5.1 63 7 = h4.1 63 7 := by rw [eh5]; exact mm_pf_ne _ _ (by decide)
          have qh5_62 : h5.1 63 9 = h4.1 63 9 := by rw [eh5]; exact mm_pf_ne _ _ (by decide)
          have qh5_63 : h5.1 63 10 = h4.1 63 10 := by rw [eh5]; exact mm_pf_ne _ _ (by decide)
          refine mm_aload_n C (mm_dec dk_X7_step 53 rfl) rfl ?_
          refine mm_geti C fl_X7_25 (mm_dec dk_X7_step 54 rfl) rfl rfl (Or.inl rfl) ?_
          refine mm_iconst C (mm_dec dk_X7_step 55 rfl) ⟨by decide, by decide⟩ ?_
          have J124 : ∀ (s124_0 : Int) (bs124_0 : 0 ≤ s124_0 ∧ s124_0 ≤ 1) (w124_0 : ((s124_0 = 1 ∧ (h5.1 63 5 = 2 ∨ h5.1 63 5 = 3)) ∨ (s124_0 = 0 ∧ h5.1 63 5 ≠ 2 ∧ h5.1 63 5 ≠ 3))) (vs124_0 : ((h5.1 63 5) ≠ 2 ∧ (h5.1 63 5) ≠ 3 ∧ s124_0 = 0) ∨ (s124_0 = 1)), mm_W x 0 0 124 [mR 63, mU] [mI s124_0] h5 := by
            intro s124_0 bs124_0 w124_0 vs124_0
            have J125 : ∀ (n : Nat) (x125_1 : Int) (bx125_1 : 0 ≤ x125_1 ∧ x125_1 ≤ 1) (h125_ : mH) (i125_ : mm_inv h125_) (f125_ : mm_fr [(63, 5), (63, 6), (63, 7), (63, 8)] [] h h125_) (w125_0 : h125_.1 63 7 ≤ 499) (w125_1 : h125_.1 63 7 = mm_skp (mm_UX h) (h.1 63 3) (h.1 63 8)) (w125_2 : h125_.1 63 7 < h.1 63 3) (w125_3 : h125_.1 63 5 = mm_kd (mm_UX h (h125_.1 63 7))) (w125_4 : h125_.1 63 6 = -1) (w125_5 : ((x125_1 = 1 ∧ (h125_.1 63 5 = 2 ∨ h125_.1 63 5 = 3)) ∨ (x125_1 = 0 ∧ h125_.1 63 5 ≠ 2 ∧ h125_.1 63 5 ≠ 3))) (w125_6 : (x125_1 = 1 → mm_runw (mm_UX h) (h.1 63 3) (h125_.1 63 5) (h125_.1 63 8) = mm_runw (mm_UX h) (h.1 63 3) (h125_.1 63 5) (h125_.1 63 7 + 1))) (w125_7 : h125_.1 63 7 + 1 ≤ h125_.1 63 8) (w125_8 : (x125_1 = 0 → h125_.1 63 8 = h125_.1 63 7 + 1)) (w125_9 : h125_.1 63 8 ≤ h.1 63 3), (500 - h125_.1 63 8 : Int) < n → mm_W x 0 0 125 [mR 63, mI x125_1] [] h125_ := by
              intro n
              induction n with
              | zero =>
                intro x125_1 bx125_1 h125_ i125_ f125_ w125_0 w125_1 w125_2 w125_3 w125_4 w125_5 w125_6 w125_7 w125_8 w125_9 hm
                have g64 : -2147483648 ≤ h125_.1 63 5 ∧ h125_.1 63 5 ≤ 2147483647 := i125_.1 63 5
                have g65 : 0 ≤ h125_.1 63 7 ∧ h125_.1 63 7 ≤ 500 := i125_.1 63 7
                have g66 : 0 ≤ h125_.1 63 8 ∧ h125_.1 63 8 ≤ 500 := i125_.1 63 8
                have g67 : 0 ≤ h125_.1 63 3 ∧ h125_.1 63 3 ≤ 500 := i125_.1 63 3
                have g68 : -2147483648 ≤ h125_.1 63 6 ∧ h125_.1 63 6 ≤ 2147483647 := i125_.1 63 6
                have g69 : -2147483648 ≤ h125_.1 63 9 ∧ h125_.1 63 9 ≤ 2147483647 := i125_.1 63 9
                have g70 : -2147483648 ≤ h125_.1 63 10 ∧ h125_.1 63 10 ≤ 2147483647 := i125_.1 63 10
                exfalso; omega
              | succ n ih125 =>
                intro x125_1 bx125_1 h125_ i125_ f125_ w125_0 w125_1 w125_2 w125_3 w125_4 w125_5 w125_6 w125_7 w125_8 w125_9 hm125
                have g71 : -2147483648 ≤ h125_.1 63 5 ∧ h125_.1 63 5 ≤ 2147483647 := i125_.1 63 5
                have g72 : 0 ≤ h125_.1 63 7 ∧ h125_.1 63 7 ≤ 500 := i125_.1 63 7
                have g73 : 0 ≤ h125_.1 63 8 ∧ h125_.1 63 8 ≤ 500 := i125_.1 63 8
                have g74 : 0 ≤ h125_.1 63 3 ∧ h125_.1 63 3 ≤ 500 := i125_.1 63 3
                have g75 : -2147483648 ≤ h125_.1 63 6 ∧ h125_.1 63 6 ≤ 2147483647 := i125_.1 63 6
                have g76 : -2147483648 ≤ h125_.1 63 9 ∧ h125_.1 63 9 ≤ 2147483647 := i125_.1 63 9
                have g77 : -2147483648 ≤ h125_.1 63 10 ∧ h125_.1 63 10 ≤ 2147483647 := i125_.1 63 10
                have g78 : h125_.1 63 3 = h.1 63 3 := f125_.1 63 3 (by decide)
                have g79 : h125_.1 63 9 = h.1 63 9 := f125_.1 63 9 (by decide)
                have g80 : h125_.1 63 10 = h.1 63 10 := f125_.1 63 10 (by decide)
                refine mm_iload_n C (mm_dec dk_X7_step 65 rfl) rfl ?_
                have J172 : ∀ (w172_0 : h125_.1 63 8 = mm_te (mm_UX h) (h.1 63 3) (h125_.1 63 7)), mm_W x 0 0 172 [mR 63, mU] [] h125_ := by
                  intro w172_0
                  have g81 : -2147483648 ≤ h125_.1 63 5 ∧ h125_.1 63 5 ≤ 2147483647 := i125_.1 63 5
                  have g82 : 0 ≤ h125_.1 63 7 ∧ h125_.1 63 7 ≤ 500 := i125_.1 63 7
                  have g83 : 0 ≤ h125_.1 63 8 ∧ h125_.1 63 8 ≤ 500 := i125_.1 63 8
                  have g84 : 0 ≤ h125_.1 63 3 ∧ h125_.1 63 3 ≤ 500 := i125_.1 63 3
                  have g85 : -2147483648 ≤ h125_.1 63 6 ∧ h125_.1 63 6 ≤ 2147483647 := i125_.1 63 6
                  have g86 : -2147483648 ≤ h125_.1 63 9 ∧ h125_.1 63 9 ≤ 2147483647 := i125_.1 63 9
                  have g87 : -2147483648 ≤ h125_.1 63 10 ∧ h125_.1 63 10 ≤ 2147483647 := i125_.1 63 10
                  have zT : mm_TXx h h125_ := mm_TXx_fr f125_ (by decide)
                  refine mm_aload_n C (mm_dec dk_X7_step 88 rfl) rfl ?_
                  refine mm_geti C fl_X7_25 (mm_dec dk_X7_step 89 rfl) rfl rfl (Or.inl rfl) ?_
                  refine mm_iconst C (mm_dec dk_X7_step 90 rfl) ⟨by decide, by decide⟩ ?_
                  have J188 : ∀ (h188_ : mH) (i188_ : mm_inv h188_) (f188_ : mm_fr [(63, 5), (63, 6), (63, 7), (63, 8)] [] h h188_) (w188_0 : h188_.1 63 7 ≤ 499) (w188_1 : mm_aX h188_) (w188_2 : h188_.1 63 7 = mm_skp (mm_UX h) (h.1 63 3) (h.1 63 8)), mm_W x 0 0 188 [mU, mU] [] h188_ := by
                    intro h188_ i188_ f188_ w188_0 w188_1 w188_2
                    have g88 : -2147483648 ≤ h188_.1 63 5 ∧ h188_.1 63 5 ≤ 2147483647 := i188_.1 63 5
                    have g89 : 0 ≤ h188_.1 63 7 ∧ h188_.1 63 7 ≤ 500 := i188_.1 63 7
                    have g90 : 0 ≤ h188_.1 63 8 ∧ h188_.1 63 8 ≤ 500 := i188_.1 63 8
                    have g91 : 0 ≤ h188_.1 63 3 ∧ h188_.1 63 3 ≤ 500 := i188_.1 63 3
                    have g92 : -2147483648 ≤ h188_.1 63 6 ∧ h188_.1 63 6 ≤ 2147483647 := i188_.1 63 6
                    have g93 : -2147483648 ≤ h188_.1 63 9 ∧ h188_.1 63 9 ≤ 2147483647 := i188_.1 63 9
                    have g94 : -2147483648 ≤ h188_.1 63 10 ∧ h188_.1 63 10 ≤ 2147483647 := i188_.1 63 10
                    have g95 : h188_.1 63 3 = h.1 63 3 := f188_.1 63 3 (by decide)
                    have g96 : h188_.1 63 9 = h.1 63 9 := f188_.1 63 9 (by decide)
                    have g97 : h188_.1 63 10 = h.1 63 10 := f188_.1 63 10 (by decide)
                    exact mm_vret C T (mm_dec dk_X7_step 96 rfl) (by decide : 0 ≤ 0) (by decide : 0 ≤ 0) ⟨rfl, ⟨i188_, f188_, by omega, by first | exact w188_1 | exact mm_aX_end (mm_TXx_fr f188_ (by decide)) (by omega) (by omega) (by omega) (by omega), by omega⟩⟩
                  refine mm_icmp_ne (tgt := 188) C (mm_dec dk_X7_step 91 rfl) (by decide) (fun c177 => ?_) (fun c177 => ?_)
                  · skip
                    refine mm_fgt 0 ?_
                    exact J188 h125_ i125_ f125_ (by omega) (by first | exact mm_aX_in zT w125_2 w125_3 w172_0 (Or.inl ⟨by omega, by omega⟩) | exact mm_aX_in (mm_TXx_fr f125_ (by decide)) (by omega) (by rw [show h125_.1 63 5 = h125_.1 63 5 by omega, show h125_.1 63 7 = h125_.1 63 7 by omega]; exact w125_3) (by rw [show h125_.1 63 7 = h125_.1 63 7 by omega, show h125_.1 63 8 = h125_.1 63 8 by omega]; exact w172_0) (Or.inr ⟨by omega, by rw [show h125_.1 63 6 = r182 by omega, show h125_.1 63 7 = h125_.1 63 7 by omega, show h125_.1 63 8 = h125_.1 63 8 by omega, ← mm_TXx_U zT]; exact y182_0⟩)) (by omega)
                  · skip
                    refine mm_aload_n C (mm_dec dk_X7_step 92 rfl) rfl ?_
                    refine mm_aload_n C (mm_dec dk_X7_step 93 rfl) rfl ?_
                    refine mm_cVi (rest := [mR 63]) C1 ev_X7_135 (mm_dec dk_X7_step 94 rfl) (c_X7_wordOfToken_q x.2.1 hl (d - 1) (by omega) h125_ i125_ (by omega)) rfl rfl (Nat.le_of_ble_eq_true rfl) ⟨by decide, by decide⟩ rfl (fun r182 h182c hp182 => ?_) (fun _ _ q => q.elim)
                    obtain ⟨b182, z182, y182_0⟩ := hp182
                    rw [z182]
                    refine mm_puti C fl_X7_28 (mm_dec dk_X7_step 95 rfl) rfl rfl rfl (Or.inl ⟨rfl, rfl⟩) ?_
                    have i6 : mm_inv (mm_pf h125_ 63 6 r182) := mm_inv_pf i125_ (show -2147483648 ≤ r182 ∧ r182 ≤ 2147483647 from ⟨by omega, by omega⟩) (by decide)
                    have f6 : mm_fr [(63, 5), (63, 6), (63, 7), (63, 8)] [] h (mm_pf h125_ 63 6 r182) := mm_fr_pf f125_ (by decide)
                    obtain ⟨h6, eh6⟩ : ∃ z, z = mm_pf h125_ 63 6 r182 := ⟨_, rfl⟩
                    rw [← eh6] at i6 f6 ⊢
                    have qh6 : h6.1 63 6 = r182 := by rw [eh6]; exact mm_pf_same _ _ _ _
                    have qh6_99 : h6.1 63 3 = h125_.1 63 3 := by rw [eh6]; exact mm_pf_ne _ _ (by decide)
                    have qh6_100 : h6.1 63 5 = h125_.1 63 5 := by rw [eh6]; exact mm_pf_ne _ _ (by decide)
                    have qh6_101 : h6.1 63 7 = h125_.1 63 7 := by rw [eh6]; exact mm_pf_ne _ _ (by decide)
                    have qh6_102 : h6.1 63 8 = h125_.1 63 8 := by rw [eh6]; exact mm_pf_ne _ _ (by decide)
                    have qh6_103 : h6.1 63 9 = h125_.1 63 9 := by rw [eh6]; exact mm_pf_ne _ _ (by decide)
                    have qh6_104 : h6.1 63 10 = h125_.1 63 10 := by rw [eh6]; exact mm_pf_ne _ _ (by decide)
                    refine mm_fgt 0 ?_
                    exact J188 h6 i6 f6 (by omega) (by first | exact mm_aX_in zT w125_2 w125_3 w172_0 (Or.inl ⟨by omega, by omega⟩) | exact mm_aX_in (mm_TXx_fr f6 (by decide)) (by omega) (by rw [show h6.1 63 5 = h125_.1 63 5 by omega, show h6.1 63 7 = h125_.1 63 7 by omega]; exact w125_3) (by rw [show h6.1 63 7 = h125_.1 63 7 by omega, show h6.1 63 8 = h125_.1 63 8 by omega]; exact w172_0) (Or.inr ⟨by omega, by rw [show h6.1 63 6 = r182 by omega, show h6.1 63 7 = h125_.1 63 7 by omega, show h6.1 63 8 = h125_.1 63 8 by omega, ← mm_TXx_U zT]; exact y182_0⟩)) (by omega)
                refine mm_if_eq (tgt := 172) C (mm_dec dk_X7_step 66 rfl) (by decide) (fun c126 => ?_) (fun c126 => ?_)
                · skip
                  refine mm_fgt 1 ?_
                  exact J172 (by first | exact mm_te_0 (by omega) (by omega) (by omega) (w125_8 (by omega)) | exact mm_te_1 (by omega) w125_3 (by omega) (w125_6 (by omega)) (by omega))
                · skip
                  refine mm_aload_n C (mm_dec dk_X7_step 67 rfl) rfl ?_
                  refine mm_geti C fl_X7_34 (mm_dec dk_X7_step 68 rfl) rfl rfl (Or.inl rfl) ?_
                  refine mm_aload_n C (mm_dec dk_X7_step 69 rfl) rfl ?_
                  refine mm_geti C fl_X7_18 (mm_dec dk_X7_step 70 rfl) rfl rfl (Or.inl rfl) ?_
                  refine mm_icmp_ge (tgt := 172) C (mm_dec dk_X7_step 71 rfl) (by decide) (fun c137 => ?_) (fun c137 => ?_)
                  · skip
                    refine mm_fgt 1 ?_
                    exact J172 (by first | exact mm_te_0 (by omega) (by omega) (by omega) (w125_8 (by omega)) | exact mm_te_1 (by omega) w125_3 (by omega) (w125_6 (by omega)) (by omega))
                  · skip
                    have zv : mm_UX h (h125_.1 63 8) = h125_.2.1 62 (h125_.1 63 8) := (mm_tr_in (by omega) (by omega)).trans (f125_.2 62 (by decide) _).symm
                    refine mm_aload_n C (mm_dec dk_X7_step 72 rfl) rfl ?_
                    refine mm_getr (t := 62) C fl_X7_43 (mm_dec dk_X7_step 73 rfl) rfl rfl (mm_ref i125_ rfl) ?_
                    refine mm_aload_n C (mm_dec dk_X7_step 74 rfl) rfl ?_
                    refine mm_geti C fl_X7_34 (mm_dec dk_X7_step 75 rfl) rfl rfl (Or.inl rfl) ?_
                    refine mm_iald C (mm_dec dk_X7_step 76 rfl) rfl (by omega) (by omega) ?_
                    have g105 : -2147483648 ≤ (h125_.2.1 62 (h125_.1 63 8)) ∧ (h125_.2.1 62 (h125_.1 63 8)) ≤ 2147483647 := i125_.2.1 62 (h125_.1 63 8)
                    refine mm_cSi (rest := []) C1 es_X7_131 (mm_dec dk_X7_step 77 rfl) (c_X7_kindOf_q x.2.1 hl (d - 1) (by omega) h125_ i125_ (h125_.2.1 62 (h125_.1 63 8))) rfl (Nat.le_of_ble_eq_true rfl) ⟨by decide, by decide⟩ rfl (fun r149 h149c hp149 => ?_) (fun _ _ q => q.elim)
                    obtain ⟨b149, z149, y149_0⟩ := hp149
                    rw [z149]
                    have zx : r149 = mm_kd (mm_UX h (h125_.1 63 8)) := by rw [zv]; exact y149_0
                    refine mm_aload_n C (mm_dec dk_X7_step 78 rfl) rfl ?_
                    refine mm_geti C fl_X7_25 (mm_dec dk_X7_step 79 rfl) rfl rfl (Or.inl rfl) ?_
                    refine mm_icmp_ne (tgt := 172) C (mm_dec dk_X7_step 80 rfl) (by decide) (fun c156 => ?_) (fun c156 => ?_)
                    · skip
                      refine mm_fgt 1 ?_
                      exact J172 (by first | exact mm_te_0 (by omega) (by omega) (by omega) (w125_8 (by omega)) | exact mm_te_1 (by omega) w125_3 (by omega) (w125_6 (by omega)) (by omega))
                    · skip
                      refine mm_aload_n C (mm_dec dk_X7_step 81 rfl) rfl ?_
                      refine mm_dup C (mm_dec dk_X7_step 82 rfl) (show (2 : Nat) ≠ 1 by decide) ?_
                      refine mm_geti C fl_X7_34 (mm_dec dk_X7_step 83 rfl) rfl rfl (Or.inl rfl) ?_
                      refine mm_iconst C (mm_dec dk_X7_step 84 rfl) ⟨by decide, by decide⟩ ?_
                      refine mm_iadd C (mm_dec dk_X7_step 85 rfl) ⟨by omega, by omega⟩ ?_
                      refine mm_puti C fl_X7_34 (mm_dec dk_X7_step 86 rfl) rfl rfl rfl (Or.inl ⟨rfl, rfl⟩) ?_
                      have i7 : mm_inv (mm_pf h125_ 63 8 ((h125_.1 63 8) + 1)) := mm_inv_pf i125_ (show 0 ≤ ((h125_.1 63 8) + 1) ∧ ((h125_.1 63 8) + 1) ≤ 500 from ⟨by omega, by omega⟩) (by decide)
                      have f7 : mm_fr [(63, 5), (63, 6), (63, 7), (63, 8)] [] h (mm_pf h125_ 63 8 ((h125_.1 63 8) + 1)) := mm_fr_pf f125_ (by decide)
                      obtain ⟨h7, eh7⟩ : ∃ z, z = mm_pf h125_ 63 8 ((h125_.1 63 8) + 1) := ⟨_, rfl⟩
                      rw [← eh7] at i7 f7 ⊢
                      have qh7 : h7.1 63 8 = ((h125_.1 63 8) + 1) := by rw [eh7]; exact mm_pf_same _ _ _ _
                      have qh7_107 : h7.1 63 3 = h125_.1 63 3 := by rw [eh7]; exact mm_pf_ne _ _ (by decide)
                      have qh7_108 : h7.1 63 5 = h125_.1 63 5 := by rw [eh7]; exact mm_pf_ne _ _ (by decide)
                      have qh7_109 : h7.1 63 6 = h125_.1 63 6 := by rw [eh7]; exact mm_pf_ne _ _ (by decide)
                      have qh7_110 : h7.1 63 7 = h125_.1 63 7 := by rw [eh7]; exact mm_pf_ne _ _ (by decide)
                      have qh7_111 : h7.1 63 9 = h125_.1 63 9 := by rw [eh7]; exact mm_pf_ne _ _ (by decide)
                      have qh7_112 : h7.1 63 10 = h125_.1 63 10 := by rw [eh7]; exact mm_pf_ne _ _ (by decide)
                      refine mm_goto (tgt := 125) C (mm_dec dk_X7_step 87 rfl) (by decide) ?_
                      exact ih125 x125_1 ⟨by omega, by omega⟩ h7 i7 f7 (by omega) (by omega) (by omega) (by first | omega | (rw [show h7.1 63 5 = h125_.1 63 5 by omega, show h7.1 63 7 = h125_.1 63 7 by omega]; exact w125_3) | (rw [show h7.1 63 5 = r87 by omega, zk]; exact congrArg (fun z => mm_kd (mm_UX h z)) (by omega))) (by omega) (by omega) (by first | exact fun q => (by rw [show h7.1 63 8 = h7.1 63 7 + 1 by omega]) | exact fun q => (by rw [show h7.1 63 5 = h125_.1 63 5 by omega, show h7.1 63 7 = h125_.1 63 7 by omega, show h7.1 63 8 = h125_.1 63 8 + 1 by omega]; exact (mm_runw_s (by omega) (by omega)).symm.trans (w125_6 (by omega)))) (by omega) (by first | exact fun q => (by omega) | exact fun q => absurd q (by omega)) (by omega) (by omega)
            refine mm_istore_nL (ls2 := [mR 63, mI s124_0]) C (mm_dec dk_X7_step 64 rfl) (by decide) rfl ?_
            exact J125 (((500 - h5.1 63 8) : Int) + 1).toNat s124_0 ⟨by omega, by omega⟩ h5 i5 f5 (by omega) (by omega) (by omega) (by first | omega | (rw [show h5.1 63 5 = h125_.1 63 5 by omega, show h5.1 63 7 = h125_.1 63 7 by omega]; exact w125_3) | (rw [show h5.1 63 5 = r87 by omega, zk]; exact congrArg (fun z => mm_kd (mm_UX h z)) (by omega))) (by omega) (by omega) (by first | exact fun q => (by rw [show h5.1 63 8 = h5.1 63 7 + 1 by omega]) | exact fun q => (by rw [show h5.1 63 5 = h125_.1 63 5 by omega, show h5.1 63 7 = h125_.1 63 7 by omega, show h5.1 63 8 = h125_.1 63 8 + 1 by omega]; exact (mm_runw_s (by omega) (by omega)).symm.trans (w125_6 (by omega)))) (by omega) (by first | exact fun q => (by omega) | exact fun q => absurd q (by omega)) (by omega) (by omega)
          have J119 : ∀ (w119_0 : (h5.1 63 5 = 2 ∨ h5.1 63 5 = 3)), mm_W x 0 0 119 [mR 63, mU] [] h5 := by
            intro w119_0
            refine mm_iconst C (mm_dec dk_X7_step 61 rfl) ⟨by decide, by decide⟩ ?_
            refine mm_goto (tgt := 124) C (mm_dec dk_X7_step 62 rfl) (by decide) ?_
            exact J124 1 ⟨by omega, by omega⟩ (by omega) (Or.inr (rfl))
          refine mm_icmp_eq (tgt := 119) C (mm_dec dk_X7_step 56 rfl) (by decide) (fun c108 => ?_) (fun c108 => ?_)
          · skip
            exact J119 (by omega)
          · skip
            refine mm_aload_n C (mm_dec dk_X7_step 57 rfl) rfl ?_
            refine mm_geti C fl_X7_25 (mm_dec dk_X7_step 58 rfl) rfl rfl (Or.inl rfl) ?_
            refine mm_iconst C (mm_dec dk_X7_step 59 rfl) ⟨by decide, by decide⟩ ?_
            refine mm_icmp_ne (tgt := 123) C (mm_dec dk_X7_step 60 rfl) (by decide) (fun c116 => ?_) (fun c116 => ?_)
            · skip
              refine mm_iconst C (mm_dec dk_X7_step 63 rfl) ⟨by decide, by decide⟩ ?_
              exact J124 0 ⟨by omega, by omega⟩ (by omega) (Or.inl ⟨by omega, by omega, rfl⟩)
            · skip
              exact J119 (by omega)
        · skip
          exact mm_vret C T (mm_dec dk_X7_step 38 rfl) (by decide : 0 ≤ 0) (by decide : 0 ≤ 0) ⟨rfl, ⟨i3, f3, by omega, by first | exact w188_1 | exact mm_aX_end (mm_TXx_fr f3 (by decide)) (by omega) (by omega) (by omega) (by omega), by omega⟩⟩
      refine mm_icmp_ge (tgt := 47) C (mm_dec dk_X7_step 8 rfl) (by decide) (fun c16 => ?_) (fun c16 => ?_)
      · skip
        exact J47 (by first | exact (mm_skp_e (Or.inl (by omega))).symm.trans w8_0 | exact (mm_skp_e (Or.inr ⟨by omega, by omega⟩)).symm.trans w8_0) (by omega)
      · skip
        have zu : mm_UX h (h8_.1 63 7) = h8_.2.1 62 (h8_.1 63 7) := (mm_tr_in (by omega) (by omega)).trans (f8_.2 62 (by decide) _).symm
        refine mm_aload_n C (mm_dec dk_X7_step 9 rfl) rfl ?_
        refine mm_getr (t := 62) C fl_X7_43 (mm_dec dk_X7_step 10 rfl) rfl rfl (mm_ref i8_ rfl) ?_
        refine mm_aload_n C (mm_dec dk_X7_step 11 rfl) rfl ?_
        refine mm_geti C fl_X7_31 (mm_dec dk_X7_step 12 rfl) rfl rfl (Or.inl rfl) ?_
        refine mm_iald C (mm_dec dk_X7_step 13 rfl) rfl (by omega) (by omega) ?_
        have g113 : -2147483648 ≤ (h8_.2.1 62 (h8_.1 63 7)) ∧ (h8_.2.1 62 (h8_.1 63 7)) ≤ 2147483647 := i8_.2.1 62 (h8_.1 63 7)
        refine mm_cSi (rest := []) C1 es_X7_128 (mm_dec dk_X7_step 14 rfl) (c_X7_isBlank x.2.1 hl (d - 1) (by omega) h8_ i8_ (h8_.2.1 62 (h8_.1 63 7))) rfl (Nat.le_of_ble_eq_true rfl) ⟨by decide, by decide⟩ rfl (fun r28 h28c hp28 => ?_) (fun _ _ q => q.elim)
        obtain ⟨z28, y28⟩ := hp28
        rw [z28]
        refine mm_if_eq (tgt := 47) C (mm_dec dk_X7_step 15 rfl) (by decide) (fun c31 => ?_) (fun c31 => ?_)
        · skip
          exact J47 (by first | exact (mm_skp_e (Or.inl (by omega))).symm.trans w8_0 | exact (mm_skp_e (Or.inr ⟨by omega, by omega⟩)).symm.trans w8_0) (by omega)
        · skip
          refine mm_aload_n C (mm_dec dk_X7_step 16 rfl) rfl ?_
          refine mm_dup C (mm_dec dk_X7_step 17 rfl) (show (2 : Nat) ≠ 1 by decide) ?_
          refine mm_geti C fl_X7_31 (mm_dec dk_X7_step 18 rfl) rfl rfl (Or.inl rfl) ?_
          refine mm_iconst C (mm_dec dk_X7_step 19 rfl) ⟨by decide, by decide⟩ ?_
          refine mm_iadd C (mm_dec dk_X7_step 20 rfl) ⟨by omega, by omega⟩ ?_
          refine mm_puti C fl_X7_31 (mm_dec dk_X7_step 21 rfl) rfl rfl rfl (Or.inl ⟨rfl, rfl⟩) ?_
          have i8 : mm_inv (mm_pf h8_ 63 7 ((h8_.1 63 7) + 1)) := mm_inv_pf i8_ (show 0 ≤ ((h8_.1 63 7) + 1) ∧ ((h8_.1 63 7) + 1) ≤ 500 from ⟨by omega, by omega⟩) (by decide)
          have f8 : mm_fr [(63, 5), (63, 6), (63, 7), (63, 8)] [] h (mm_pf h8_ 63 7 ((h8_.1 63 7) + 1)) := mm_fr_pf f8_ (by decide)
          obtain ⟨h8, eh8⟩ : ∃ z, z = mm_pf h8_ 63 7 ((h8_.1 63 7) + 1) := ⟨_, rfl⟩
          rw [← eh8] at i8 f8 ⊢
          have qh8 : h8.1 63 7 = ((h8_.1 63 7) + 1) := by rw [eh8]; exact mm_pf_same _ _ _ _
          have qh8_115 : h8.1 63 3 = h8_.1 63 3 := by rw [eh8]; exact mm_pf_ne _ _ (by decide)
          have qh8_116 : h8.1 63 5 = h8_.1 63 5 := by rw [eh8]; exact mm_pf_ne _ _ (by decide)
          have qh8_117 : h8.1 63 6 = h8_.1 63 6 := by rw [eh8]; exact mm_pf_ne _ _ (by decide)
          have qh8_118 : h8.1 63 8 = h8_.1 63 8 := by rw [eh8]; exact mm_pf_ne _ _ (by decide)
          have qh8_119 : h8.1 63 9 = h8_.1 63 9 := by rw [eh8]; exact mm_pf_ne _ _ (by decide)
          have qh8_120 : h8.1 63 10 = h8_.1 63 10 := by rw [eh8]; exact mm_pf_ne _ _ (by decide)
          refine mm_goto (tgt := 8) C (mm_dec dk_X7_step 22 rfl) (by decide) ?_
          exact ih8 h8 i8 f8 (by first | (rw [show h8.1 63 7 = h.1 63 8 by omega]) | (rw [show h8.1 63 7 = h8_.1 63 7 + 1 by omega]; exact (mm_skp_s (by omega) (by omega)).symm.trans w8_0)) (by omega)
  refine mm_puti C fl_X7_31 (mm_dec dk_X7_step 3 rfl) rfl rfl rfl (Or.inl ⟨rfl, rfl⟩) ?_
  have i9 : mm_inv (mm_pf h 63 7 (h.1 63 8)) := mm_inv_pf i0 (show 0 ≤ (h.1 63 8) ∧ (h.1 63 8) ≤ 500 from ⟨by omega, by omega⟩) (by decide)
  have f9 : mm_fr [(63, 5), (63, 6), (63, 7), (63, 8)] [] h (mm_pf h 63 7 (h.1 63 8)) := mm_fr_pf f0 (by decide)
  obtain ⟨h9, eh9⟩ : ∃ z, z = mm_pf h 63 7 (h.1 63 8) := ⟨_, rfl⟩
  rw [← eh9] at i9 f9 ⊢
  have qh9 : h9.1 63 7 = (h.1 63 8) := by rw [eh9]; exact mm_pf_same _ _ _ _
  have qh9_121 : h9.1 63 3 = h.1 63 3 := by rw [eh9]; exact mm_pf_ne _ _ (by decide)
  have qh9_122 : h9.1 63 5 = h.1 63 5 := by rw [eh9]; exact mm_pf_ne _ _ (by decide)
  have qh9_123 : h9.1 63 6 = h.1 63 6 := by rw [eh9]; exact mm_pf_ne _ _ (by decide)
  have qh9_124 : h9.1 63 8 = h.1 63 8 := by rw [eh9]; exact mm_pf_ne _ _ (by decide)
  have qh9_125 : h9.1 63 9 = h.1 63 9 := by rw [eh9]; exact mm_pf_ne _ _ (by decide)
  have qh9_126 : h9.1 63 10 = h.1 63 10 := by rw [eh9]; exact mm_pf_ne _ _ (by decide)
  exact J8 (((500 - h9.1 63 7) : Int) + 1).toNat h9 i9 f9 (by first | (rw [show h9.1 63 7 = h.1 63 8 by omega]) | (rw [show h9.1 63 7 = h8_.1 63 7 + 1 by omega]; exact (mm_skp_s (by omega) (by omega)).symm.trans w8_0)) (by omega)
set_option maxRecDepth 100000 in
set_option maxHeartbeats 4000000 in
theorem c_X7_refuse_q (l : Launch) (hl : l.stackTraces = false) (d : Nat) (hd : 0 ≤ d) (h : mH) (i0 : mm_inv h) (p1 : Int) : mm_Met l d yX7_refuse cX7_refuse 2 (some .boolean) [mR 63, mI p1] h (mm_pi fun r h2 => (0 ≤ r ∧ r ≤ 0) ∧ mm_inv h2 ∧ mm_fr [(63, 9), (63, 10)] [] h h2 ∧ h2.1 63 9 = p1 ∧ h2.1 63 10 = h.1 63 7) mm_nx 0 0 := by
  refine mm_ofW (ls := [mR 63, mI p1]) hl (by decide) rfl (Nat.le_of_ble_eq_true rfl) ?_
  intro x hxl C T hnm htb
  subst hxl
  refine mm_rng (fun hr _ => ?_)
  have ap1 : -2147483648 ≤ p1 ∧ p1 < 2147483648 := mm_ok_at hr (i := 1) rfl
  have f0 : mm_fr [(63, 9), (63, 10)] [] h h := mm_fr_rf
  have g1 : 0 ≤ h.1 63 7 ∧ h.1 63 7 ≤ 500 := i0.1 63 7
  have g2 : -2147483648 ≤ h.1 63 9 ∧ h.1 63 9 ≤ 2147483647 := i0.1 63 9
  have g3 : -2147483648 ≤ h.1 63 10 ∧ h.1 63 10 ≤ 2147483647 := i0.1 63 10
  refine mm_aload_n C (mm_dec dk_X7_refuse 0 rfl) rfl ?_
  refine mm_iload_n C (mm_dec dk_X7_refuse 1 rfl) rfl ?_
  refine mm_puti C fl_X7_37 (mm_dec dk_X7_refuse 2 rfl) rfl rfl rfl (Or.inl ⟨rfl, rfl⟩) ?_
  have i1 : mm_inv (mm_pf h 63 9 p1) := mm_inv_pf i0 (show -2147483648 ≤ p1 ∧ p1 ≤ 2147483647 from ⟨by omega, by omega⟩) (by decide)
  have f1 : mm_fr [(63, 9), (63, 10)] [] h (mm_pf h 63 9 p1) := mm_fr_pf f0 (by decide)
  obtain ⟨h1, eh1⟩ : ∃ z, z = mm_pf h 63 9 p1 := ⟨_, rfl⟩
  rw [← eh1] at i1 f1 ⊢
  have qh1 : h1.1 63 9 = p1 := by rw [eh1]; exact mm_pf_same _ _ _ _
  have qh1_4 : h1.1 63 7 = h.1 63 7 := by rw [eh1]; exact mm_pf_ne _ _ (by decide)
  have qh1_5 : h1.1 63 10 = h.1 63 10 := by rw [eh1]; exact mm_pf_ne _ _ (by decide)
  refine mm_aload_n C (mm_dec dk_X7_refuse 3 rfl) rfl ?_
  refine mm_aload_n C (mm_dec dk_X7_refuse 4 rfl) rfl ?_
  refine mm_geti C fl_X7_31 (mm_dec dk_X7_refuse 5 rfl) rfl rfl (Or.inl rfl) ?_
  refine mm_puti C fl_X7_40 (mm_dec dk_X7_refuse 6 rfl) rfl rfl rfl (Or.inl ⟨rfl, rfl⟩) ?_
  have i2 : mm_inv (mm_pf h1 63 10 (h1.1 63 7)) := mm_inv_pf i1 (show -2147483648 ≤ (h1.1 63 7) ∧ (h1.1 63 7) ≤ 2147483647 from ⟨by omega, by omega⟩) (by decide)
  have f2 : mm_fr [(63, 9), (63, 10)] [] h (mm_pf h1 63 10 (h1.1 63 7)) := mm_fr_pf f1 (by decide)
  obtain ⟨h2, eh2⟩ : ∃ z, z = mm_pf h1 63 10 (h1.1 63 7) := ⟨_, rfl⟩
  rw [← eh2] at i2 f2 ⊢
  have qh2 : h2.1 63 10 = (h1.1 63 7) := by rw [eh2]; exact mm_pf_same _ _ _ _
  have qh2_6 : h2.1 63 7 = h1.1 63 7 := by rw [eh2]; exact mm_pf_ne _ _ (by decide)
  have qh2_7 : h2.1 63 9 = h1.1 63 9 := by rw [eh2]; exact mm_pf_ne _ _ (by decide)
  refine mm_iconst C (mm_dec dk_X7_refuse 7 rfl) ⟨by decide, by decide⟩ ?_
  exact mm_zret C T (mm_dec dk_X7_refuse 8 rfl) (by decide : 0 ≤ 0) (by decide : 0 ≤ 0) (by omega) ⟨_, rfl, ⟨⟨by omega, by omega⟩, i2, f2, by omega, by omega⟩⟩
set_option maxRecDepth 100000 in
set_option maxHeartbeats 4000000 in
theorem c_X7_isNumber_q (l : Launch) (hl : l.stackTraces = false) (d : Nat) (hd : 1 ≤ d) (h : mH) (i0 : mm_inv h) : mm_Met l d yX7_isNumber cX7_isNumber 1 (some .boolean) [mR 63] h (mm_pi fun r h2 => (0 ≤ r ∧ r ≤ 1) ∧ mm_inv h2 ∧ mm_fr [(63, 9), (63, 10)] [] h h2 ∧ ((r = 1 ∧ h.1 63 5 = 3 ∧ h.1 63 8 - h.1 63 7 ≤ 5 ∧ mm_em h h2) ∨ (r = 0 ∧ ((h.1 63 5 ≠ 3 ∧ h2.1 63 9 = 1) ∨ (h.1 63 5 = 3 ∧ 5 < h.1 63 8 - h.1 63 7 ∧ h2.1 63 9 = 2)) ∧ h2.1 63 10 = h.1 63 7))) mm_nx 0 0 := by
  refine mm_ofW (ls := [mR 63]) hl (by decide) rfl (Nat.le_of_ble_eq_true rfl) ?_
  intro x hxl C T hnm htb
  subst hxl
  have C1 := mm_OK_le (d' := d - 1 + 1) (by omega) C
  have f0 : mm_fr [(63, 9), (63, 10)] [] h h := mm_fr_rf
  have g1 : -2147483648 ≤ h.1 63 5 ∧ h.1 63 5 ≤ 2147483647 := i0.1 63 5
  have g2 : 0 ≤ h.1 63 7 ∧ h.1 63 7 ≤ 500 := i0.1 63 7
  have g3 : 0 ≤ h.1 63 8 ∧ h.1 63 8 ≤ 500 := i0.1 63 8
  have g4 : 0 ≤ h.1 63 3 ∧ h.1 63 3 ≤ 500 := i0.1 63 3
  have g5 : -2147483648 ≤ h.1 63 6 ∧ h.1 63 6 ≤ 2147483647 := i0.1 63 6
  have g6 : -2147483648 ≤ h.1 63 9 ∧ h.1 63 9 ≤ 2147483647 := i0.1 63 9
  have g7 : -2147483648 ≤ h.1 63 10 ∧ h.1 63 10 ≤ 2147483647 := i0.1 63 10
  refine mm_aload_n C (mm_dec dk_X7_isNumber 0 rfl) rfl ?_
  refine mm_geti C fl_X7_25 (mm_dec dk_X7_isNumber 1 rfl) rfl rfl (Or.inl rfl) ?_
  refine mm_iconst C (mm_dec dk_X7_isNumber 2 rfl) ⟨by decide, by decide⟩ ?_
  refine mm_icmp_eq (tgt := 14) C (mm_dec dk_X7_isNumber 3 rfl) (by decide) (fun c5 => ?_) (fun c5 => ?_)
  · skip
    refine mm_aload_n C (mm_dec dk_X7_isNumber 8 rfl) rfl ?_
    refine mm_geti C fl_X7_34 (mm_dec dk_X7_isNumber 9 rfl) rfl rfl (Or.inl rfl) ?_
    refine mm_aload_n C (mm_dec dk_X7_isNumber 10 rfl) rfl ?_
    refine mm_geti C fl_X7_31 (mm_dec dk_X7_isNumber 11 rfl) rfl rfl (Or.inl rfl) ?_
    refine mm_isub C (mm_dec dk_X7_isNumber 12 rfl) ⟨by omega, by omega⟩ ?_
    refine mm_iconst C (mm_dec dk_X7_isNumber 13 rfl) ⟨by decide, by decide⟩ ?_
    have J40 : ∀ (s40_0 : Int) (bs40_0 : 0 ≤ s40_0 ∧ s40_0 ≤ 1) (h40_ : mH) (i40_ : mm_inv h40_) (f40_ : mm_fr [(63, 9), (63, 10)] [] h h40_) (w40_0 : ((s40_0 = 1 ∧ h.1 63 5 = 3 ∧ h.1 63 8 - h.1 63 7 ≤ 5 ∧ mm_em h h40_) ∨ (s40_0 = 0 ∧ ((h.1 63 5 ≠ 3 ∧ h40_.1 63 9 = 1) ∨ (h.1 63 5 = 3 ∧ 5 < h.1 63 8 - h.1 63 7 ∧ h40_.1 63 9 = 2)) ∧ h40_.1 63 10 = h.1 63 7))), mm_W x 0 0 40 [mU] [mI s40_0] h40_ := by
      intro s40_0 bs40_0 h40_ i40_ f40_ w40_0
      have g8 : -2147483648 ≤ h40_.1 63 5 ∧ h40_.1 63 5 ≤ 2147483647 := i40_.1 63 5
      have g9 : 0 ≤ h40_.1 63 7 ∧ h40_.1 63 7 ≤ 500 := i40_.1 63 7
      have g10 : 0 ≤ h40_.1 63 8 ∧ h40_.1 63 8 ≤ 500 := i40_.1 63 8
      have g11 : 0 ≤ h40_.1 63 3 ∧ h40_.1 63 3 ≤ 500 := i40_.1 63 3
      have g12 : -2147483648 ≤ h40_.1 63 6 ∧ h40_.1 63 6 ≤ 2147483647 := i40_.1 63 6
      have g13 : -2147483648 ≤ h40_.1 63 9 ∧ h40_.1 63 9 ≤ 2147483647 := i40_.1 63 9
      have g14 : -2147483648 ≤ h40_.1 63 10 ∧ h40_.1 63 10 ≤ 2147483647 := i40_.1 63 10
      have g15 : h40_.1 63 5 = h.1 63 5 := f40_.1 63 5 (by decide)
      have g16 : h40_.1 63 7 = h.1 63 7 := f40_.1 63 7 (by decide)
      have g17 : h40_.1 63 8 = h.1 63 8 := f40_.1 63 8 (by decide)
      have g18 : h40_.1 63 3 = h.1 63 3 := f40_.1 63 3 (by decide)
      have g19 : h40_.1 63 6 = h.1 63 6 := f40_.1 63 6 (by decide)
      exact mm_zret C T (mm_dec dk_X7_isNumber 22 rfl) (by decide : 0 ≤ 0) (by decide : 0 ≤ 0) (by omega) ⟨_, rfl, ⟨⟨by omega, by omega⟩, i40_, f40_, by first | exact w40_0 | exact Or.inr ⟨by omega, Or.inl ⟨by omega, by omega⟩, by omega⟩⟩⟩
    have J35 : ∀ (h35_ : mH) (i35_ : mm_inv h35_) (f35_ : mm_fr [(63, 9), (63, 10)] [] h h35_) (w35_0 : mm_em h h35_) (w35_1 : h.1 63 5 = 3) (w35_2 : h.1 63 8 - h.1 63 7 ≤ 5), mm_W x 0 0 35 [mU] [] h35_ := by
      intro h35_ i35_ f35_ w35_0 w35_1 w35_2
      have g20 : -2147483648 ≤ h35_.1 63 5 ∧ h35_.1 63 5 ≤ 2147483647 := i35_.1 63 5
      have g21 : 0 ≤ h35_.1 63 7 ∧ h35_.1 63 7 ≤ 500 := i35_.1 63 7
      have g22 : 0 ≤ h35_.1 63 8 ∧ h35_.1 63 8 ≤ 500 := i35_.1 63 8
      have g23 : 0 ≤ h35_.1 63 3 ∧ h35_.1 63 3 ≤ 500 := i35_.1 63 3
      have g24 : -2147483648 ≤ h35_.1 63 6 ∧ h35_.1 63 6 ≤ 2147483647 := i35_.1 63 6
      have g25 : -2147483648 ≤ h35_.1 63 9 ∧ h35_.1 63 9 ≤ 2147483647 := i35_.1 63 9
      have g26 : -2147483648 ≤ h35_.1 63 10 ∧ h35_.1 63 10 ≤ 2147483647 := i35_.1 63 10
      have g27 : h35_.1 63 5 = h.1 63 5 := f35_.1 63 5 (by decide)
      have g28 : h35_.1 63 7 = h.1 63 7 := f35_.1 63 7 (by decide)
      have g29 : h35_.1 63 8 = h.1 63 8 := f35_.1 63 8 (by decide)
      have g30 : h35_.1 63 3 = h.1 63 3 := f35_.1 63 3 (by decide)
      have g31 : h35_.1 63 6 = h.1 63 6 := f35_.1 63 6 (by decide)
      refine mm_iconst C (mm_dec dk_X7_isNumber 19 rfl) ⟨by decide, by decide⟩ ?_
      refine mm_goto (tgt := 40) C (mm_dec dk_X7_isNumber 20 rfl) (by decide) ?_
      exact J40 1 ⟨by omega, by omega⟩ h35_ i35_ f35_ (by first | exact Or.inl ⟨rfl, w35_1, w35_2, w35_0⟩ | exact Or.inr ⟨rfl, Or.inr ⟨by omega, by omega, by omega⟩, by omega⟩)
    refine mm_icmp_le (tgt := 35) C (mm_dec dk_X7_isNumber 14 rfl) (by decide) (fun c24 => ?_) (fun c24 => ?_)
    · skip
      refine mm_fgt 0 ?_
      exact J35 h i0 f0 (by exact mm_em_rf) (by omega) (by omega)
    · skip
      refine mm_aload_n C (mm_dec dk_X7_isNumber 15 rfl) rfl ?_
      refine mm_iconst C (mm_dec dk_X7_isNumber 16 rfl) ⟨by decide, by decide⟩ ?_
      refine mm_cVi (rest := []) C1 ev_X7_65 (mm_dec dk_X7_isNumber 17 rfl) (c_X7_refuse_q x.2.1 hl (d - 1) (by omega) h i0 2) rfl rfl (Nat.le_of_ble_eq_true rfl) ⟨by decide, by decide⟩ rfl (fun r29 h29c hp29 => ?_) (fun _ _ q => q.elim)
      obtain ⟨b29, i29c, g29c, y29_0, y29_1⟩ := hp29
      have f29c : mm_fr [(63, 9), (63, 10)] [] h h29c := mm_fr_tr f0 g29c (by decide +kernel)
      have q29c_33 : h29c.1 63 3 = h.1 63 3 := g29c.1 63 3 (by decide)
      have q29c_34 : h29c.1 63 5 = h.1 63 5 := g29c.1 63 5 (by decide)
      have q29c_35 : h29c.1 63 6 = h.1 63 6 := g29c.1 63 6 (by decide)
      have q29c_36 : h29c.1 63 7 = h.1 63 7 := g29c.1 63 7 (by decide)
      have q29c_37 : h29c.1 63 8 = h.1 63 8 := g29c.1 63 8 (by decide)
      have g38 : -2147483648 ≤ (h29c.1 63 9) ∧ (h29c.1 63 9) ≤ 2147483647 := i29c.1 63 9
      have g39 : -2147483648 ≤ (h29c.1 63 10) ∧ (h29c.1 63 10) ≤ 2147483647 := i29c.1 63 10
      refine mm_if_eq (tgt := 39) C (mm_dec dk_X7_isNumber 18 rfl) (by decide) (fun c32 => ?_) (fun c32 => ?_)
      · skip
        refine mm_iconst C (mm_dec dk_X7_isNumber 21 rfl) ⟨by decide, by decide⟩ ?_
        refine mm_fgt 0 ?_
        exact J40 0 ⟨by omega, by omega⟩ h29c i29c f29c (by first | exact Or.inl ⟨rfl, w35_1, w35_2, w35_0⟩ | exact Or.inr ⟨rfl, Or.inr ⟨by omega, by omega, by omega⟩, by omega⟩)
      · skip
        exfalso; omega
  · skip
    refine mm_aload_n C (mm_dec dk_X7_isNumber 4 rfl) rfl ?_
    refine mm_iconst C (mm_dec dk_X7_isNumber 5 rfl) ⟨by decide, by decide⟩ ?_
    refine mm_cVi (rest := []) C1 ev_X7_65 (mm_dec dk_X7_isNumber 6 rfl) (c_X7_refuse_q x.2.1 hl (d - 1) (by omega) h i0 1) rfl rfl (Nat.le_of_ble_eq_true rfl) ⟨by decide, by decide⟩ rfl (fun r10 h10c hp10 => ?_) (fun _ _ q => q.elim)
    obtain ⟨b10, i10c, g10c, y10_0, y10_1⟩ := hp10
    have f10c : mm_fr [(63, 9), (63, 10)] [] h h10c := mm_fr_tr f0 g10c (by decide +kernel)
    have q10c_41 : h10c.1 63 3 = h.1 63 3 := g10c.1 63 3 (by decide)
    have q10c_42 : h10c.1 63 5 = h.1 63 5 := g10c.1 63 5 (by decide)
    have q10c_43 : h10c.1 63 6 = h.1 63 6 := g10c.1 63 6 (by decide)
    have q10c_44 : h10c.1 63 7 = h.1 63 7 := g10c.1 63 7 (by decide)
    have q10c_45 : h10c.1 63 8 = h.1 63 8 := g10c.1 63 8 (by decide)
    have g46 : -2147483648 ≤ (h10c.1 63 9) ∧ (h10c.1 63 9) ≤ 2147483647 := i10c.1 63 9
    have g47 : -2147483648 ≤ (h10c.1 63 10) ∧ (h10c.1 63 10) ≤ 2147483647 := i10c.1 63 10
    exact mm_zret C T (mm_dec dk_X7_isNumber 7 rfl) (by decide : 0 ≤ 0) (by decide : 0 ≤ 0) (by omega) ⟨_, rfl, ⟨⟨by omega, by omega⟩, i10c, f10c, by first | exact w40_0 | exact Or.inr ⟨by omega, Or.inl ⟨by omega, by omega⟩, by omega⟩⟩⟩
set_option maxRecDepth 100000 in
set_option maxHeartbeats 4000000 in
theorem c_X7_readSign_q (l : Launch) (hl : l.stackTraces = false) (d : Nat) (hd : 6 ≤ d) (h : mH) (i0 : mm_inv h) (p1 : Int) (bp1 : 40 ≤ p1 ∧ p1 ≤ 61) (t0 : mm_aX h) : mm_Met l d yX7_readSign cX7_readSign 2 (some .boolean) [mR 63, mI p1] h (mm_pi fun r h2 => (0 ≤ r ∧ r ≤ 1) ∧ mm_inv h2 ∧ mm_fr [(63, 5), (63, 6), (63, 7), (63, 8), (63, 9), (63, 10)] [] h h2 ∧ ((r = 1 ∧ mm_cX h = 100 + p1 ∧ mm_st7 h h2) ∨ (r = 0 ∧ mm_cX h ≠ 100 + p1 ∧ h2.1 63 9 = 1 ∧ h2.1 63 10 = h.1 63 7))) mm_nx 0 0 := by
  refine mm_ofW (ls := [mR 63, mI p1]) hl (by decide) rfl (Nat.le_of_ble_eq_true rfl) ?_
  intro x hxl C T hnm htb
  subst hxl
  have C1 := mm_OK_le (d' := d - 1 + 1) (by omega) C
  refine mm_rng (fun hr _ => ?_)
  have ap1 : -2147483648 ≤ p1 ∧ p1 < 2147483648 := mm_ok_at hr (i := 1) rfl
  have f0 : mm_fr [(63, 5), (63, 6), (63, 7), (63, 8), (63, 9), (63, 10)] [] h h := mm_fr_rf
  have g1 : -2147483648 ≤ h.1 63 5 ∧ h.1 63 5 ≤ 2147483647 := i0.1 63 5
  have g2 : 0 ≤ h.1 63 7 ∧ h.1 63 7 ≤ 500 := i0.1 63 7
  have g3 : 0 ≤ h.1 63 8 ∧ h.1 63 8 ≤ 500 := i0.1 63 8
  have g4 : 0 ≤ h.1 63 3 ∧ h.1 63 3 ≤ 500 := i0.1 63 3
  have g5 : -2147483648 ≤ h.1 63 6 ∧ h.1 63 6 ≤ 2147483647 := i0.1 63 6
  have g6 : -2147483648 ≤ h.1 63 9 ∧ h.1 63 9 ≤ 2147483647 := i0.1 63 9
  have g7 : -2147483648 ≤ h.1 63 10 ∧ h.1 63 10 ≤ 2147483647 := i0.1 63 10
  have tf := mm_cX_h i0 t0
  have tr := mm_cX_r i0 t0
  refine mm_aload_n C (mm_dec dk_X7_readSign 0 rfl) rfl ?_
  refine mm_iload_n C (mm_dec dk_X7_readSign 1 rfl) rfl ?_
  refine mm_cVi (rest := []) C1 ev_X7_96 (mm_dec dk_X7_readSign 2 rfl) (c_X7_isSign x.2.1 hl (d - 1) (by omega) h i0 p1 (by omega)) rfl rfl (Nat.le_of_ble_eq_true rfl) ⟨by decide, by decide⟩ rfl (fun r2 h2c hp2 => ?_) (fun _ _ q => q.elim)
  obtain ⟨z2, y2⟩ := hp2
  rw [z2]
  have g9 : -2147483648 ≤ (h.2.1 62 (h.1 63 7)) ∧ (h.2.1 62 (h.1 63 7)) ≤ 2147483647 := i0.2.1 62 (h.1 63 7)
  refine mm_if_ne (tgt := 14) C (mm_dec dk_X7_readSign 3 rfl) (by decide) (fun c5 => ?_) (fun c5 => ?_)
  · skip
    refine mm_aload_n C (mm_dec dk_X7_readSign 8 rfl) rfl ?_
    refine mm_cVv (rest := []) C1 ev_X7_52 (mm_dec dk_X7_readSign 9 rfl) (c_X7_step_q x.2.1 hl (d - 1) (by omega) h i0 ) rfl rfl (Nat.le_of_ble_eq_true rfl) ⟨by decide, by decide⟩ rfl (fun h15c hp15 => ?_) (fun _ _ q => q.elim)
    obtain ⟨i15c, g15c, y15_0, y15_1, y15_2⟩ := hp15
    have f15c : mm_fr [(63, 5), (63, 6), (63, 7), (63, 8), (63, 9), (63, 10)] [] h h15c := mm_fr_tr f0 g15c (by decide +kernel)
    have q15c_11 : h15c.1 63 3 = h.1 63 3 := g15c.1 63 3 (by decide)
    have q15c_12 : h15c.1 63 9 = h.1 63 9 := g15c.1 63 9 (by decide)
    have q15c_13 : h15c.1 63 10 = h.1 63 10 := g15c.1 63 10 (by decide)
    have g14 : -2147483648 ≤ (h15c.1 63 5) ∧ (h15c.1 63 5) ≤ 2147483647 := i15c.1 63 5
    have g15 : 0 ≤ (h15c.1 63 7) ∧ (h15c.1 63 7) ≤ 500 := i15c.1 63 7
    have g16 : 0 ≤ (h15c.1 63 8) ∧ (h15c.1 63 8) ≤ 500 := i15c.1 63 8
    have g17 : -2147483648 ≤ (h15c.1 63 6) ∧ (h15c.1 63 6) ≤ 2147483647 := i15c.1 63 6
    refine mm_iconst C (mm_dec dk_X7_readSign 10 rfl) ⟨by decide, by decide⟩ ?_
    exact mm_zret C T (mm_dec dk_X7_readSign 11 rfl) (by decide : 0 ≤ 0) (by decide : 0 ≤ 0) (by omega) ⟨_, rfl, ⟨⟨by omega, by omega⟩, i15c, f15c, by first | exact Or.inl ⟨rfl, (by have zz := mm_hdx tf; omega), mm_st7_of t0 y15_1 y15_2 g15c (by decide)⟩ | exact Or.inr ⟨by omega, (by have zz := mm_hdx tf; omega), y10_0, y10_1⟩⟩⟩
  · skip
    refine mm_aload_n C (mm_dec dk_X7_readSign 4 rfl) rfl ?_
    refine mm_iconst C (mm_dec dk_X7_readSign 5 rfl) ⟨by decide, by decide⟩ ?_
    refine mm_cVi (rest := []) C1 ev_X7_65 (mm_dec dk_X7_readSign 6 rfl) (c_X7_refuse_q x.2.1 hl (d - 1) (by omega) h i0 1) rfl rfl (Nat.le_of_ble_eq_true rfl) ⟨by decide, by decide⟩ rfl (fun r10 h10c hp10 => ?_) (fun _ _ q => q.elim)
    obtain ⟨b10, i10c, g10c, y10_0, y10_1⟩ := hp10
    have f10c : mm_fr [(63, 5), (63, 6), (63, 7), (63, 8), (63, 9), (63, 10)] [] h h10c := mm_fr_tr f0 g10c (by decide +kernel)
    have q10c_19 : h10c.1 63 3 = h.1 63 3 := g10c.1 63 3 (by decide)
    have q10c_20 : h10c.1 63 5 = h.1 63 5 := g10c.1 63 5 (by decide)
    have q10c_21 : h10c.1 63 6 = h.1 63 6 := g10c.1 63 6 (by decide)
    have q10c_22 : h10c.1 63 7 = h.1 63 7 := g10c.1 63 7 (by decide)
    have q10c_23 : h10c.1 63 8 = h.1 63 8 := g10c.1 63 8 (by decide)
    have g24 : -2147483648 ≤ (h10c.1 63 9) ∧ (h10c.1 63 9) ≤ 2147483647 := i10c.1 63 9
    have g25 : -2147483648 ≤ (h10c.1 63 10) ∧ (h10c.1 63 10) ≤ 2147483647 := i10c.1 63 10
    exact mm_zret C T (mm_dec dk_X7_readSign 7 rfl) (by decide : 0 ≤ 0) (by decide : 0 ≤ 0) (by omega) ⟨_, rfl, ⟨⟨by omega, by omega⟩, i10c, f10c, by first | exact Or.inl ⟨rfl, (by have zz := mm_hdx tf; omega), mm_st7_of t0 y15_1 y15_2 g15c (by decide)⟩ | exact Or.inr ⟨by omega, (by have zz := mm_hdx tf; omega), y10_0, y10_1⟩⟩⟩
set_option maxRecDepth 100000 in
set_option maxHeartbeats 4000000 in
theorem c_X7_numberOfToken_q (l : Launch) (hl : l.stackTraces = false) (d : Nat) (hd : 0 ≤ d) (h : mH) (i0 : mm_inv h) (t0 : mm_aX h) (t1 : h.1 63 5 = 3) (t2 : h.1 63 8 - h.1 63 7 ≤ 5) : mm_Met l d yX7_numberOfToken cX7_numberOfToken 3 (some .int) [mR 63] h (mm_pi fun r h2 => (0 ≤ r ∧ r ≤ 99999) ∧ h2 = h ∧ r = mm_tv (mm_UX h) (h.1 63 3) (h.1 63 7)) mm_nx 0 0 := by
  refine mm_ofW (ls := [mR 63, mU, mU]) hl (by decide) rfl (Nat.le_of_ble_eq_true rfl) ?_
  intro x hxl C T hnm htb
  subst hxl
  have f0 : mm_fr [] [] h h := mm_fr_rf
  have g1 : 0 ≤ h.1 63 7 ∧ h.1 63 7 ≤ 500 := i0.1 63 7
  have g2 : 0 ≤ h.1 63 8 ∧ h.1 63 8 ≤ 500 := i0.1 63 8
  have g3 : -2147483648 ≤ h.1 63 5 ∧ h.1 63 5 ≤ 2147483647 := i0.1 63 5
  refine mm_iconst C (mm_dec dk_X7_numberOfToken 0 rfl) ⟨by decide, by decide⟩ ?_
  refine mm_istore_nL (ls2 := [mR 63, mI 0, mU]) C (mm_dec dk_X7_numberOfToken 1 rfl) (by decide) rfl ?_
  refine mm_aload_n C (mm_dec dk_X7_numberOfToken 2 rfl) rfl ?_
  refine mm_geti C fl_X7_31 (mm_dec dk_X7_numberOfToken 3 rfl) rfl rfl (Or.inl rfl) ?_
  have J7 : ∀ (n : Nat) (x7_1 : Int) (bx7_1 : 0 ≤ x7_1 ∧ x7_1 ≤ 99999) (x7_2 : Int) (bx7_2 : 0 ≤ x7_2 ∧ x7_2 ≤ 500) (w7_0 : x7_1 = mm_nv (mm_UX h) (h.1 63 7) (x7_2 - h.1 63 7).toNat) (w7_1 : h.1 63 7 ≤ x7_2) (w7_2 : (x7_2 ≤ h.1 63 8 ∨ x7_2 = h.1 63 7)) (w7_3 : ((x7_2 = h.1 63 7 ∧ x7_1 ≤ 0) ∨ (x7_2 = h.1 63 7 + 1 ∧ x7_1 ≤ 9) ∨ (x7_2 = h.1 63 7 + 2 ∧ x7_1 ≤ 99) ∨ (x7_2 = h.1 63 7 + 3 ∧ x7_1 ≤ 999) ∨ (x7_2 = h.1 63 7 + 4 ∧ x7_1 ≤ 9999) ∨ (x7_2 = h.1 63 7 + 5 ∧ x7_1 ≤ 99999))), (500 - x7_2 : Int) < n → mm_W x 0 0 7 [mR 63, mI x7_1, mI x7_2] [] h := by
    intro n
    induction n with
    | zero =>
      intro x7_1 bx7_1 x7_2 bx7_2 w7_0 w7_1 w7_2 w7_3 hm
      have g4 : 0 ≤ h.1 63 7 ∧ h.1 63 7 ≤ 500 := i0.1 63 7
      have g5 : 0 ≤ h.1 63 8 ∧ h.1 63 8 ≤ 500 := i0.1 63 8
      have g6 : -2147483648 ≤ h.1 63 5 ∧ h.1 63 5 ≤ 2147483647 := i0.1 63 5
      exfalso; omega
    | succ n ih7 =>
      intro x7_1 bx7_1 x7_2 bx7_2 w7_0 w7_1 w7_2 w7_3 hm7
      have g7 : 0 ≤ h.1 63 7 ∧ h.1 63 7 ≤ 500 := i0.1 63 7
      have g8 : 0 ≤ h.1 63 8 ∧ h.1 63 8 ≤ 500 := i0.1 63 8
      have g9 : -2147483648 ≤ h.1 63 5 ∧ h.1 63 5 ≤ 2147483647 := i0.1 63 5
      refine mm_iload_n C (mm_dec dk_X7_numberOfToken 5 rfl) rfl ?_
      refine mm_aload_n C (mm_dec dk_X7_numberOfToken 6 rfl) rfl ?_
      refine mm_geti C fl_X7_34 (mm_dec dk_X7_numberOfToken 7 rfl) rfl rfl (Or.inl rfl) ?_
      refine mm_icmp_ge (tgt := 36) C (mm_dec dk_X7_numberOfToken 8 rfl) (by decide) (fun c12 => ?_) (fun c12 => ?_)
      · skip
        have ze := mm_te_f (mm_UX h) (h.1 63 3) (h.1 63 7)
        rw [← t0.1, ← t0.2.2] at ze
        refine mm_iload_n C (mm_dec dk_X7_numberOfToken 22 rfl) rfl ?_
        exact mm_iret C T (mm_dec dk_X7_numberOfToken 23 rfl) (by decide : 0 ≤ 0) (by decide : 0 ≤ 0) ⟨_, rfl, ⟨⟨by omega, by omega⟩, rfl, by rw [mm_tv_of t0, show h.1 63 8 = x7_2 by omega]; exact w7_0⟩⟩
      · skip
        have zd := mm_dig i0 t0 t1 x7_2 (by omega) (by omega)
        refine mm_iload_n C (mm_dec dk_X7_numberOfToken 9 rfl) rfl ?_
        refine mm_bipush C (mm_dec dk_X7_numberOfToken 10 rfl) ⟨by decide, by decide⟩ ?_
        refine mm_imul C (mm_dec dk_X7_numberOfToken 11 rfl) ⟨by omega, by omega⟩ ?_
        refine mm_aload_n C (mm_dec dk_X7_numberOfToken 12 rfl) rfl ?_
        refine mm_getr (t := 62) C fl_X7_43 (mm_dec dk_X7_numberOfToken 13 rfl) rfl rfl (mm_ref i0 rfl) ?_
        refine mm_iload_n C (mm_dec dk_X7_numberOfToken 14 rfl) rfl ?_
        refine mm_iald C (mm_dec dk_X7_numberOfToken 15 rfl) rfl (by omega) (by omega) ?_
        have g10 : -2147483648 ≤ (h.2.1 62 x7_2) ∧ (h.2.1 62 x7_2) ≤ 2147483647 := i0.2.1 62 x7_2
        refine mm_iaddw C (mm_dec dk_X7_numberOfToken 16 rfl) ?_
        have g11 : -2147483648 ≤ (mm_w ((x7_1 * 10) + (h.2.1 62 x7_2))) ∧ (mm_w ((x7_1 * 10) + (h.2.1 62 x7_2))) < 2147483648 := mm_w_rg _
        refine mm_bipush C (mm_dec dk_X7_numberOfToken 17 rfl) ⟨by decide, by decide⟩ ?_
        have zw1 : mm_w ((x7_1 * 10) + (h.2.1 62 x7_2)) = (x7_1 * 10) + (h.2.1 62 x7_2) := mm_w_id ⟨by omega, by omega⟩
        have zw2 : mm_w (mm_w ((x7_1 * 10) + (h.2.1 62 x7_2)) - 48) = (x7_1 * 10) + (h.2.1 62 x7_2) - 48 := by rw [zw1]; exact mm_w_id ⟨by omega, by omega⟩
        refine mm_isubw C (mm_dec dk_X7_numberOfToken 18 rfl) ?_
        have g12 : -2147483648 ≤ (mm_w ((mm_w ((x7_1 * 10) + (h.2.1 62 x7_2))) - 48)) ∧ (mm_w ((mm_w ((x7_1 * 10) + (h.2.1 62 x7_2))) - 48)) < 2147483648 := mm_w_rg _
        refine mm_istore_nL (ls2 := [mR 63, mI (mm_w ((mm_w ((x7_1 * 10) + (h.2.1 62 x7_2))) - 48)), mI x7_2]) C (mm_dec dk_X7_numberOfToken 19 rfl) (by decide) rfl ?_
        refine mm_iincL (ls2 := [mR 63, mI (mm_w ((mm_w ((x7_1 * 10) + (h.2.1 62 x7_2))) - 48)), mI (x7_2 + 1)]) C (mm_dec dk_X7_numberOfToken 20 rfl) rfl (by decide) ⟨by omega, by omega⟩ rfl ?_
        refine mm_goto (tgt := 7) C (mm_dec dk_X7_numberOfToken 21 rfl) (by decide) ?_
        exact ih7 (mm_w ((mm_w ((x7_1 * 10) + (h.2.1 62 x7_2))) - 48)) ⟨by omega, by omega⟩ (x7_2 + 1) ⟨by omega, by omega⟩ (by first | exact mm_nv_0.symm | (rw [mm_nv_s (by omega), ← w7_0]; omega)) (by omega) (by omega) (by omega) (by omega)
  refine mm_istore_nL (ls2 := [mR 63, mI 0, mI (h.1 63 7)]) C (mm_dec dk_X7_numberOfToken 4 rfl) (by decide) rfl ?_
  exact J7 (((500 - (h.1 63 7)) : Int) + 1).toNat 0 ⟨by omega, by omega⟩ (h.1 63 7) ⟨by omega, by omega⟩ (by first | exact mm_nv_0.symm | (rw [mm_nv_s (by omega), ← w7_0]; omega)) (by omega) (by omega) (by omega) (by omega)
/-! ===== what the readers of rules lay down ===== -/
abbrev mm_J9 := List Int × List Int × List (Int × Int × Int)
def mm_sgj (x : Int) : Int := if x = 13 then 0 else if x = 6 then 1 else if x = 5 then 2 else if x = 4 then 3 else if x = 7 ∨ x = 8 then 4 else if x = 9 ∨ x = 10 then 5 else 6
def mm_drj (l : Int) : List Int → List Int → List Int × List Int
  | [], O => ([], O)
  | x :: W, O => if x ≠ 13 ∧ l ≤ mm_sgj x then mm_drj l W (x :: O) else (x :: W, O)
theorem mm_drj_y {l x : Int} {W O : List Int} (h : x ≠ 13) (h2 : l ≤ mm_sgj x) : mm_drj l (x :: W) O = mm_drj l W (x :: O) := if_pos ⟨h, h2⟩
theorem mm_drj_n {l x : Int} {W O : List Int} (h : x = 13 ∨ mm_sgj x < l) : mm_drj l (x :: W) O = (x :: W, O) := if_neg (fun z => by omega)
theorem mm_drj_dr {l l' : Int} (h : l ≤ l') : ∀ W O : List Int, mm_drj l (mm_drj l' W O).1 (mm_drj l' W O).2 = mm_drj l W O
  | [], O => rfl
  | x :: W, O => by
    by_cases q : x ≠ 13 ∧ l' ≤ mm_sgj x
    · rw [mm_drj_y q.1 q.2, mm_drj_y q.1 (by omega)]
      exact mm_drj_dr h W (x :: O)
    · rw [mm_drj_n (show x = 13 ∨ mm_sgj x < l' by omega)]
theorem mm_drj_le {l l' : Int} (h : l ≤ l') {W O W2 O2 : List Int} (e : mm_drj l' W O = (W2, O2)) : mm_drj l W O = mm_drj l W2 O2 := by
  rw [← mm_drj_dr h, e]
/-- nothing that waits is as strong -/
def mm_lo (l : Int) (W : List Int) : Prop := ∀ O : List Int, mm_drj l W O = (W, O)
theorem mm_lo_0 {l : Int} : mm_lo l [] := fun _ => rfl
theorem mm_lo_c {l x : Int} {W : List Int} (h : x = 13 ∨ mm_sgj x < l) : mm_lo l (x :: W) := fun _ => mm_drj_n h
theorem mm_lo_le {l l' : Int} {W : List Int} (h : l ≤ l') (L : mm_lo l W) : mm_lo l' W := by
  cases W with
  | nil => exact mm_lo_0
  | cons x W =>
    refine mm_lo_c ?_
    by_cases q : x ≠ 13 ∧ l ≤ mm_sgj x
    · have z := L []
      rw [mm_drj_y q.1 q.2] at z
      have w : ∀ (W O : List Int), (mm_drj l W O).1.length ≤ W.length := by
        intro W
        induction W with
        | nil => intro O; exact Nat.le_refl _
        | cons y W ih =>
          intro O
          by_cases q : y ≠ 13 ∧ l ≤ mm_sgj y
          · rw [mm_drj_y q.1 q.2]; exact Nat.le_succ_of_le (ih _)
          · rw [mm_drj_n (show y = 13 ∨ mm_sgj y < l by omega)]
            exact Nat.le_refl _
      have y := w W [x]
      rw [z, List.length_cons] at y
      omega
    · omega
def mm_dp (l a : Int) (w : mm_J9) : mm_J9 := (a :: (mm_drj l w.1 w.2.1).1, (mm_drj l w.1 w.2.1).2, w.2.2)
def mm_un9 (n : Int) : List (Int × Int × Int) → List (Int × Int × Int)
  | [] => []
  | q :: K => (q.1, q.2.1, n) :: K
def mm_ojp (c V : Int → Int) (p : Int) (w : mm_J9) : mm_J9 := if c p = 18 then (w.1, V p :: 1 :: w.2.1, w.2.2) else if c p ≤ 9 then (w.1, (c p - 7) :: 3 :: w.2.1, w.2.2) else (w.1, (c p - 10) :: 2 :: w.2.1, w.2.2)
def mm_ojo (c V : Int → Int) (p : Int) (w : mm_J9) : mm_J9 := if c p = 140 then (13 :: w.1, w.2.1, w.2.2) else mm_ojp c V p w
def mm_oja (c : Int → Int) (p : Int) (w : mm_J9) : List Int → mm_J9
  | [] => w
  | b :: s => if c p = 4 then mm_dp 1 6 w else if c p = 5 then mm_dp 2 5 w else if c p = 160 ∧ b = 0 then mm_dp 4 7 w else if c p = 161 ∧ b = 0 then mm_dp 4 8 w else if c p = 143 then mm_dp 5 9 w else if c p = 145 then mm_dp 5 10 w else if c p = 142 then mm_dp 6 11 w else if c p = 147 then mm_dp 6 12 w else if c p = 141 ∧ s ≠ [] then ((mm_drj 0 w.1 w.2.1).1.tail, (mm_drj 0 w.1 w.2.1).2, w.2.2) else ((mm_drj 0 w.1 w.2.1).1, 0 :: (mm_drj 0 w.1 w.2.1).2, w.2.2)
def mm_oj (c V : Int → Int) (g : mm_G9) (w : mm_J9) : mm_J9 :=
  if g.1 = 0 then (if c g.2.2.1 = 6 then (4 :: w.1, w.2.1, w.2.2) else mm_ojo c V g.2.2.1 w)
  else if g.1 = 1 then mm_ojo c V g.2.2.1 w
  else if g.1 = 2 then mm_oja c g.2.2.1 w g.2.1
  else if g.1 = 4 then (if g.2.2.2.2.2.1 = 0 ∧ c g.2.2.1 = 3 then ([], w.2.1, mm_un9 w.2.1.length w.2.2) else w)
  else if g.1 = 10 then (if c g.2.2.1 = 2 then ([], w.2.1, (2, 0, 0) :: w.2.2) else if c g.2.2.1 = 0 ∨ c g.2.2.1 = 1 then ([], w.2.1, (c g.2.2.1, w.2.1.length, -1) :: w.2.2) else w)
  else w
abbrev mm_H9 := mm_G9 × mm_J9
def mm_sj (c N V : Int → Int) (x : mm_H9) : mm_H9 := (mm_stp c N V x.1, mm_oj c V x.1 x.2)
def mm_itj (f : mm_H9 → mm_H9) : Nat → mm_H9 → mm_H9
  | 0, x => x
  | n + 1, x => mm_itj f n (f x)
def mm_Sj (f : mm_H9 → mm_H9) (A B : mm_H9) : Prop := ∃ n : Nat, mm_itj f n A = B
theorem mm_Sj_rf {f : mm_H9 → mm_H9} {A : mm_H9} : mm_Sj f A A := ⟨0, rfl⟩
theorem mm_itj_add (f : mm_H9 → mm_H9) : ∀ (a b : Nat) (x : mm_H9), mm_itj f (a + b) x = mm_itj f b (mm_itj f a x)
  | 0, b, x => by rw [Nat.zero_add]; rfl
  | a + 1, b, x => by
    rw [show a + 1 + b = (a + b) + 1 by omega]
    exact mm_itj_add f a b (f x)
theorem mm_Sj_tr {f : mm_H9 → mm_H9} {A B C : mm_H9} (p : mm_Sj f A B) (q : mm_Sj f B C) : mm_Sj f A C := by
  obtain ⟨a, h⟩ := p
  obtain ⟨b, k⟩ := q
  exact ⟨a + b, by rw [mm_itj_add, h, k]⟩
theorem mm_Sj_1 {f : mm_H9 → mm_H9} {A B : mm_H9} (h : f A = B) : mm_Sj f A B := ⟨1, h⟩
theorem mm_itj_fix {f : mm_H9 → mm_H9} {x : mm_H9} (h : f x = x) : ∀ n : Nat, mm_itj f n x = x
  | 0 => rfl
  | n + 1 => by show mm_itj f n (f x) = x; rw [h]; exact mm_itj_fix h n
theorem mm_Sj_un {f : mm_H9 → mm_H9} {A B C : mm_H9} (p : mm_Sj f A B) (q : mm_Sj f A C) (hB : f B = B) (hC : f C = C) : B = C := by
  obtain ⟨a, h⟩ := p
  obtain ⟨b, k⟩ := q
  have e1 : mm_itj f (a + b) A = B := by rw [mm_itj_add, h, mm_itj_fix hB]
  have e2 : mm_itj f (a + b) A = C := by rw [Nat.add_comm, mm_itj_add, k, mm_itj_fix hC]
  exact e1.symm.trans e2
theorem mm_Sj_ne {f : mm_H9 → mm_H9} {A A' B : mm_H9} (p : mm_Sj f A B) (hm : A.1.1 ≠ B.1.1) (e : f A' = f A) : mm_Sj f A' B := by
  obtain ⟨a, h⟩ := p
  cases a with
  | zero => exact absurd (congrArg (fun x : mm_H9 => x.1.1) h) hm
  | succ a => exact ⟨a + 1, by show mm_itj f a (f A') = B; rw [e]; exact h⟩
section
variable {c N V : Int → Int} {s : List Int} {b p j i r : Int} {P : Int → Int} {w : mm_J9} {X : mm_G9}
theorem mm_sj_of {g : mm_G9} {w' : mm_J9} (h : mm_stp c N V g = X) (k : mm_oj c V g w = w') : mm_sj c N V (g, w) = (X, w') := by
  unfold mm_sj
  rw [h, k]
theorem mm_oj_0 (h : c p ≠ 6) : mm_oj c V ⟨0, s, p, j, i, r, P⟩ w = mm_ojo c V p w := by
  unfold mm_oj
  rw [if_pos rfl, if_neg h]
theorem mm_oj_not (h : c p = 6) : mm_oj c V ⟨0, s, p, j, i, r, P⟩ w = (4 :: w.1, w.2.1, w.2.2) := by
  unfold mm_oj
  rw [if_pos rfl, if_pos h]
theorem mm_oj_1 : mm_oj c V ⟨1, s, p, j, i, r, P⟩ w = mm_ojo c V p w := by
  unfold mm_oj
  rw [if_neg (show ¬ (1 : Int) = 0 by decide), if_pos rfl]
theorem mm_oj_open (h : c p = 140) : mm_ojo c V p w = (13 :: w.1, w.2.1, w.2.2) := if_pos h
theorem mm_oj_part (h : c p = 18 ∨ (7 ≤ c p ∧ c p ≤ 16)) : mm_ojo c V p w = mm_ojp c V p w := if_neg (by omega)
theorem mm_oj_2 : mm_oj c V ⟨2, b :: s, p, j, i, r, P⟩ w = mm_oja c p w (b :: s) := by
  unfold mm_oj
  rw [if_neg (show ¬ (2 : Int) = 0 by decide), if_neg (show ¬ (2 : Int) = 1 by decide), if_pos rfl]
theorem mm_oja_c : mm_oja c p w (b :: s) = (if c p = 4 then mm_dp 1 6 w else if c p = 5 then mm_dp 2 5 w else if c p = 160 ∧ b = 0 then mm_dp 4 7 w else if c p = 161 ∧ b = 0 then mm_dp 4 8 w else if c p = 143 then mm_dp 5 9 w else if c p = 145 then mm_dp 5 10 w else if c p = 142 then mm_dp 6 11 w else if c p = 147 then mm_dp 6 12 w else if c p = 141 ∧ s ≠ [] then ((mm_drj 0 w.1 w.2.1).1.tail, (mm_drj 0 w.1 w.2.1).2, w.2.2) else ((mm_drj 0 w.1 w.2.1).1, 0 :: (mm_drj 0 w.1 w.2.1).2, w.2.2)) := rfl
theorem mm_oj_or (h : c p = 4) : mm_oja c p w (b :: s) = mm_dp 1 6 w := if_pos h
theorem mm_oj_and (h : c p = 5) : mm_oja c p w (b :: s) = mm_dp 2 5 w := by rw [mm_oja_c, if_neg (by omega), if_pos h]
theorem mm_oj_lt (h : c p = 160) : mm_oja c p w (0 :: s) = mm_dp 4 7 w := by rw [mm_oja_c, if_neg (by omega), if_neg (by omega), if_pos ⟨h, rfl⟩]
theorem mm_oj_eq (h : c p = 161) : mm_oja c p w (0 :: s) = mm_dp 4 8 w := by rw [mm_oja_c, if_neg (by omega), if_neg (by omega), if_neg (by omega), if_pos ⟨h, rfl⟩]
theorem mm_oj_pl (h : c p = 143) : mm_oja c p w (b :: s) = mm_dp 5 9 w := by rw [mm_oja_c, if_neg (by omega), if_neg (by omega), if_neg (by omega), if_neg (by omega), if_pos h]
theorem mm_oj_mi (h : c p = 145) : mm_oja c p w (b :: s) = mm_dp 5 10 w := by rw [mm_oja_c, if_neg (by omega), if_neg (by omega), if_neg (by omega), if_neg (by omega), if_neg (by omega), if_pos h]
theorem mm_oj_ti (h : c p = 142) : mm_oja c p w (b :: s) = mm_dp 6 11 w := by rw [mm_oja_c, if_neg (by omega), if_neg (by omega), if_neg (by omega), if_neg (by omega), if_neg (by omega), if_neg (by omega), if_pos h]
theorem mm_oj_by (h : c p = 147) : mm_oja c p w (b :: s) = mm_dp 6 12 w := by rw [mm_oja_c, if_neg (by omega), if_neg (by omega), if_neg (by omega), if_neg (by omega), if_neg (by omega), if_neg (by omega), if_neg (by omega), if_pos h]
theorem mm_oj_cl (h : c p = 141) (hs : s ≠ []) : mm_oja c p w (b :: s) = ((mm_drj 0 w.1 w.2.1).1.tail, (mm_drj 0 w.1 w.2.1).2, w.2.2) := by
  rw [mm_oja_c, if_neg (by omega), if_neg (by omega), if_neg (by omega), if_neg (by omega), if_neg (by omega), if_neg (by omega), if_neg (by omega), if_neg (by omega), if_pos ⟨h, hs⟩]
theorem mm_oj_end (h : mm_nF (c p) b) : mm_oja c p w [b] = ((mm_drj 0 w.1 w.2.1).1, 0 :: (mm_drj 0 w.1 w.2.1).2, w.2.2) := by
  unfold mm_nF at h
  rw [mm_oja_c, if_neg (by omega), if_neg (by omega), if_neg (by omega), if_neg (by omega), if_neg (by omega), if_neg (by omega), if_neg (by omega), if_neg (by omega), if_neg (fun z => z.2 rfl)]
theorem mm_oj_4u (h : c p = 3) : mm_oj c V ⟨4, s, p, j, i, 0, P⟩ w = ([], w.2.1, mm_un9 w.2.1.length w.2.2) := by
  unfold mm_oj
  rw [if_neg (show ¬ (4 : Int) = 0 by decide), if_neg (show ¬ (4 : Int) = 1 by decide), if_neg (show ¬ (4 : Int) = 2 by decide), if_pos rfl, if_pos ⟨rfl, h⟩]
theorem mm_oj_4 (h : r = 1 ∨ c p ≠ 3) : mm_oj c V ⟨4, s, p, j, i, r, P⟩ w = w := by
  unfold mm_oj
  rw [if_neg (show ¬ (4 : Int) = 0 by decide), if_neg (show ¬ (4 : Int) = 1 by decide), if_neg (show ¬ (4 : Int) = 2 by decide), if_pos rfl, if_neg (show ¬ (r = 0 ∧ c p = 3) by omega)]
theorem mm_oj_10 : mm_oj c V ⟨10, s, p, j, i, r, P⟩ w = (if c p = 2 then ([], w.2.1, (2, 0, 0) :: w.2.2) else if c p = 0 ∨ c p = 1 then ([], w.2.1, (c p, w.2.1.length, -1) :: w.2.2) else w) := by
  unfold mm_oj
  rw [if_neg (show ¬ (10 : Int) = 0 by decide), if_neg (show ¬ (10 : Int) = 1 by decide), if_neg (show ¬ (10 : Int) = 2 by decide), if_neg (show ¬ (10 : Int) = 4 by decide), if_pos rfl]
theorem mm_oj_hi {m : Int} (h : m = 3 ∨ m = 11 ∨ m = 12 ∨ m = 13 ∨ m = 20) : mm_oj c V ⟨m, s, p, j, i, r, P⟩ w = w := by
  unfold mm_oj
  rw [if_neg (show ¬ m = 0 by omega), if_neg (show ¬ m = 1 by omega), if_neg (show ¬ m = 2 by omega), if_neg (show ¬ m = 4 by omega), if_neg (show ¬ m = 10 by omega)]
theorem mm_sj_0 (h : c p ≠ 6) : mm_sj c N V (⟨0, s, p, j, i, r, P⟩, w) = mm_sj c N V (⟨1, s, p, 0, i, r, P⟩, w) := by
  unfold mm_sj
  show (_, _) = (_, _)
  rw [mm_sp_0 h, mm_oj_0 h, mm_oj_1]
end
/-! ===== codes, and what they are worth ===== -/
def mm_en (c : Int) : List Int := if c < 100000 then [1, c] else if c < 100007 then [2, c - 100000] else if c < 100010 then [3, c - 100007] else if c = 100011 then [6] else if c = 100012 then [5] else [c - 100006]
def mm_re (A : List Int) : List Int := (A.flatMap mm_en).reverse
theorem mm_re_app (A B : List Int) : mm_re (A ++ B) = mm_re B ++ mm_re A := by
  unfold mm_re
  rw [List.flatMap_append, List.reverse_append]
theorem mm_re_nil : mm_re [] = [] := rfl
theorem mm_re_1 (c : Int) : mm_re [c] = (mm_en c).reverse := by
  unfold mm_re
  rw [List.flatMap_cons, List.flatMap_nil, List.append_nil]
def mm_jn (c a b : Int) : Int := if c = 100011 then (if a ≠ 0 ∨ b ≠ 0 then 1 else 0) else if c = 100012 then (if a ≠ 0 ∧ b ≠ 0 then 1 else 0) else if c = 100013 then (if a < b then 1 else 0) else if c = 100014 then (if a = b then 1 else 0) else if c = 100015 then mm_w (a + b) else if c = 100016 then mm_w (a - b) else if c = 100017 then mm_w (a * b) else if c = 100018 then (if b = 0 then 0 else mm_w (Int.tdiv a b)) else if c = 100019 then (if b ≠ 0 then 0 else a) else 0
def mm_x1 (v p : Int → Int) (c : Int) (S : List Int) : List Int := if c < 100000 then c :: S else if c < 100007 then v (c - 100000) :: S else if c < 100010 then p (c - 100007) :: S else if c = 100010 then (match S with | x :: T => (if x = 0 then 1 else 0) :: T | [] => []) else match S with | y :: x :: T => mm_jn c x y :: T | T => T
def mm_xs (v p : Int → Int) : List Int → List Int → List Int
  | [], S => S
  | c :: A, S => mm_xs v p A (mm_x1 v p c S)
theorem mm_xs_app (v p : Int → Int) : ∀ (A B S : List Int), mm_xs v p (A ++ B) S = mm_xs v p B (mm_xs v p A S)
  | [], _, _ => rfl
  | c :: A, B, S => mm_xs_app v p A B (mm_x1 v p c S)
/-- while A runs the row on the pile is never longer than n, and never too short -/
def mm_hx (v p : Int → Int) (n : Nat) : List Int → List Int → Prop
  | [], S => S.length ≤ n
  | c :: A, S => S.length ≤ n ∧ ((c = 100010 → 1 ≤ S.length) ∧ (100011 ≤ c → 2 ≤ S.length)) ∧ mm_hx v p n A (mm_x1 v p c S)
theorem mm_hx_app {v p : Int → Int} {n : Nat} : ∀ {A B S : List Int}, mm_hx v p n A S → mm_hx v p n B (mm_xs v p A S) → mm_hx v p n (A ++ B) S
  | [], _, _, _, k => k
  | _ :: _, _, _, h, k => ⟨h.1, h.2.1, mm_hx_app h.2.2 k⟩
theorem mm_hx_le {v p : Int → Int} {n n' : Nat} (l : n ≤ n') : ∀ {A S : List Int}, mm_hx v p n A S → mm_hx v p n' A S
  | [], _, h => Nat.le_trans h l
  | _ :: _, _, h => ⟨Nat.le_trans h.1 l, h.2.1, mm_hx_le l h.2.2⟩
theorem mm_hx_0 {v p : Int → Int} {n : Nat} : ∀ {A S : List Int}, mm_hx v p n A S → S.length ≤ n
  | [], _, h => h
  | _ :: _, _, h => h.1
theorem mm_hx_end {v p : Int → Int} {n : Nat} : ∀ {A S : List Int}, mm_hx v p n A S → (mm_xs v p A S).length ≤ n
  | [], _, h => h
  | _ :: A, _, h => mm_hx_end (A := A) h.2.2
/-- an expression's codes: one value more, H room; every code is one that an expression has -/
def mm_exj (H : Nat) (A : List Int) : Prop := (∀ c ∈ A, 0 ≤ c ∧ c ≤ 100018) ∧ A ≠ [] ∧ ∀ v p S, ∃ x, mm_xs v p A S = x :: S ∧ mm_hx v p (S.length + H) A S
theorem mm_exj_le {H H' : Nat} {A : List Int} (l : H ≤ H') (e : mm_exj H A) : mm_exj H' A := ⟨e.1, e.2.1, fun v p S => by
  obtain ⟨x, a, b⟩ := e.2.2 v p S
  exact ⟨x, a, mm_hx_le (by omega) b⟩⟩
theorem mm_exj_1 {c : Int} (h : 0 ≤ c ∧ c < 100010) : mm_exj 1 [c] := ⟨fun d hd => by rw [List.mem_singleton.mp hd]; omega, List.cons_ne_nil _ _, fun v p S => by
  have k : ∃ x, mm_x1 v p c S = x :: S := by
    unfold mm_x1
    by_cases q : c < 100000
    · rw [if_pos q]; exact ⟨_, rfl⟩
    · by_cases q2 : c < 100007
      · rw [if_neg q, if_pos q2]; exact ⟨_, rfl⟩
      · rw [if_neg q, if_neg q2, if_pos h.2]; exact ⟨_, rfl⟩
  obtain ⟨x, k⟩ := k
  refine ⟨x, k, Nat.le_succ _, ⟨fun q => by omega, fun q => by omega⟩, ?_⟩
  show (mm_x1 v p c S).length ≤ _
  rw [k, List.length_cons]; exact Nat.le_refl _⟩
theorem mm_x1_not (v p : Int → Int) (x : Int) (S : List Int) : mm_x1 v p 100010 (x :: S) = (if x = 0 then 1 else 0) :: S := rfl
theorem mm_x1_op {v p : Int → Int} {c x y : Int} {S : List Int} (h : 100011 ≤ c) : mm_x1 v p c (y :: x :: S) = mm_jn c x y :: S := by
  unfold mm_x1
  rw [if_neg (by omega), if_neg (by omega), if_neg (by omega), if_neg (by omega)]
theorem mm_exj_not {H : Nat} {A : List Int} (e : mm_exj H A) : mm_exj H (A ++ [100010]) := by
  refine ⟨fun c hc => ?_, fun q => e.2.1 (List.append_eq_nil_iff.mp q).1, fun v p S => ?_⟩
  · rcases List.mem_append.mp hc with h | h
    · exact e.1 c h
    · rw [List.mem_singleton.mp h]; omega
  · obtain ⟨x, a, b⟩ := e.2.2 v p S
    have l := mm_hx_end b
    rw [a] at l
    refine ⟨_, by rw [mm_xs_app, a]; rfl, mm_hx_app b ?_⟩
    rw [a]
    exact ⟨l, ⟨fun _ => by rw [List.length_cons]; omega, fun q => absurd q (by decide)⟩, l⟩
theorem mm_exj_op {H : Nat} {A B : List Int} {c : Int} (e : mm_exj (H + 1) A) (f : mm_exj H B) (hc : 100011 ≤ c ∧ c ≤ 100018) : mm_exj (H + 1) (A ++ B ++ [c]) := by
  refine ⟨fun d hd => ?_, fun q => e.2.1 (List.append_eq_nil_iff.mp (List.append_eq_nil_iff.mp q).1).1, fun v p S => ?_⟩
  · rcases List.mem_append.mp hd with h | h
    · rcases List.mem_append.mp h with h | h
      · exact e.1 d h
      · exact f.1 d h
    · rw [List.mem_singleton.mp h]; omega
  · obtain ⟨x, a, b⟩ := e.2.2 v p S
    obtain ⟨y, a2, b2⟩ := f.2.2 v p (x :: S)
    have l := mm_hx_end b2
    rw [a2, List.length_cons, List.length_cons] at l
    refine ⟨mm_jn c x y, by rw [mm_xs_app, mm_xs_app, a, a2]; exact mm_x1_op hc.1, mm_hx_app (mm_hx_app b (by rw [a]; exact mm_hx_le (by rw [List.length_cons]; omega) b2)) ?_⟩
    rw [mm_xs_app, a, a2]
    refine ⟨by rw [List.length_cons, List.length_cons]; omega, ⟨fun q => by omega, fun _ => by rw [List.length_cons, List.length_cons]; omega⟩, ?_⟩
    show (mm_x1 v p c (y :: x :: S)).length ≤ _
    rw [mm_x1_op hc.1, List.length_cons]; omega

/-! ===== the class's reader: codes laid down ===== -/
def mm_fXj (h : mH) : mm_H9 → mm_H9 := mm_sj (mm_tc (mm_UX h) (h.1 63 3)) (mm_tn (mm_UX h) (h.1 63 3)) (mm_tv (mm_UX h) (h.1 63 3))
theorem mm_fXj_eq {h h2 : mH} (t : mm_TXx h h2) : mm_fXj h2 = mm_fXj h := by
  unfold mm_fXj
  rw [mm_TXx_U t, t.2]
def mm_cq (d : Int) (h h2 : mH) (A : List Int) : Prop := h.1 63 4 ≤ h.1 63 7 → h2.1 63 4 = h.1 63 4 + A.length ∧ A.length + d ≤ h2.1 63 7 - h.1 63 7 ∧ (∀ j, j < h.1 63 4 → h2.2.1 64 j = h.2.1 64 j) ∧ ∀ i : Nat, i < A.length → h2.2.1 64 (h.1 63 4 + i) = A.getD i 0
def mm_ey (h h2 : mH) : Prop := h2.1 63 4 = h.1 63 4 ∧ ∀ j, h2.2.1 64 j = h.2.1 64 j
theorem mm_ey_fr {wf : List (Nat × Nat)} {wa : List Nat} {h h2 : mH} (f : mm_fr wf wa h h2) (hw : (63, 4) ∉ wf ∧ 64 ∉ wa) : mm_ey h h2 := ⟨f.1 63 4 hw.1, f.2 64 hw.2⟩
theorem mm_ey_rf {h : mH} : mm_ey h h := ⟨rfl, fun _ => rfl⟩
theorem mm_ey_tr {h h1 h2 : mH} (p : mm_ey h h1) (q : mm_ey h1 h2) : mm_ey h h2 := ⟨q.1.trans p.1, fun j => (q.2 j).trans (p.2 j)⟩
def mm_e1j (h h2 : mH) (c : Int) : Prop := (h.1 63 4 ≤ 499 → h2.1 63 4 = h.1 63 4 + 1 ∧ ∀ j, h2.2.1 64 j = if j = h.1 63 4 then c else h.2.1 64 j) ∧ h2.1 63 7 = h.1 63 7
theorem mm_e1j_ey {h h1 h2 : mH} {c : Int} (y : mm_ey h h1) (e7 : h1.1 63 7 = h.1 63 7) (e : mm_e1j h1 h2 c) : mm_e1j h h2 c := by
  refine ⟨fun q => ?_, e.2.trans e7⟩
  have z := e.1 (by rw [y.1]; exact q)
  rw [y.1] at z
  exact ⟨z.1, fun j => by rw [z.2 j, y.2 j]⟩
theorem mm_cq_0 {d : Int} {h h2 : mH} (y : mm_ey h h2) (l : h.1 63 7 + d ≤ h2.1 63 7) : mm_cq d h h2 [] := fun _ => ⟨by rw [y.1]; exact (Int.add_zero _).symm, by show (0 : Int) + d ≤ _; omega, fun j _ => y.2 j, fun i hi => absurd hi (Nat.not_lt_zero _)⟩
theorem mm_cq_le {d d' : Int} {h h2 : mH} {A : List Int} (C : mm_cq d h h2 A) (l : d' ≤ d) : mm_cq d' h h2 A := fun q => by
  obtain ⟨a, b, c, e⟩ := C q
  exact ⟨a, by omega, c, e⟩
theorem mm_cq_tr {d d' : Int} {h h1 h2 : mH} {A B : List Int} (C : mm_cq d h h1 A) (D : mm_cq d' h1 h2 B) (d0 : 0 ≤ d) : mm_cq (d + d') h h2 (A ++ B) := fun q => by
  obtain ⟨a1, a2, a3, a4⟩ := C q
  obtain ⟨b1, b2, b3, b4⟩ := D (by omega)
  have l : (A ++ B).length = A.length + B.length := List.length_append
  refine ⟨by rw [l]; omega, by rw [l]; omega, fun j hj => by rw [b3 j (by omega), a3 j hj], fun i hi => ?_⟩
  rw [List.getD_eq_getElem?_getD]
  by_cases z : i < A.length
  · rw [b3 _ (by omega), a4 i z, List.getElem?_append_left z, List.getD_eq_getElem?_getD]
  · have k := b4 (i - A.length) (by omega)
    rw [a1, show h.1 63 4 + (A.length : Int) + ((i - A.length : Nat) : Int) = h.1 63 4 + (i : Int) by omega] at k
    rw [k, List.getElem?_append_right (by omega), List.getD_eq_getElem?_getD]
theorem mm_cq_e1 {d : Int} {h h1 h2 : mH} {A : List Int} {c : Int} (C : mm_cq d h h1 A) (d1 : 1 ≤ d) (e : mm_e1j h1 h2 c) (b : h1.1 63 7 ≤ 500) : mm_cq (d - 1) h h2 (A ++ [c]) := fun q => by
  obtain ⟨a1, a2, a3, a4⟩ := C q
  obtain ⟨e1, e2⟩ := e.1 (by omega)
  have e7 := e.2
  have l : (A ++ [c]).length = A.length + 1 := List.length_append
  refine ⟨by rw [l]; omega, by rw [l]; omega, fun j hj => by rw [e2 j, if_neg (by omega), a3 j hj], fun i hi => ?_⟩
  rw [List.getD_eq_getElem?_getD]
  by_cases z : i < A.length
  · rw [e2, if_neg (by omega), a4 i z, List.getElem?_append_left z, List.getD_eq_getElem?_getD]
  · have iz : i = A.length := by omega
    rw [iz, e2, if_pos (by omega), List.getElem?_append_right (Nat.le_refl _), Nat.sub_self]
    rfl
theorem mm_cq_ey {d : Int} {h h1 h2 : mH} {A : List Int} (C : mm_cq d h h1 A) (y : mm_ey h1 h2) (e7 : h1.1 63 7 ≤ h2.1 63 7) (d0 : 0 ≤ d) : mm_cq d h h2 A := by
  have z := mm_cq_tr C (mm_cq_0 (d := 0) y (by omega)) d0
  rw [List.append_nil, Int.add_zero] at z
  exact z
/-- a number, a param, a value -/
def mm_pc9 (h : mH) (c : Int) : Prop := (mm_cX h = 18 ∧ c = mm_tv (mm_UX h) (h.1 63 3) (h.1 63 7) ∧ 0 ≤ c ∧ c ≤ 99999) ∨ (7 ≤ mm_cX h ∧ mm_cX h ≤ 9 ∧ c = 100000 + mm_cX h) ∨ (10 ≤ mm_cX h ∧ mm_cX h ≤ 16 ∧ c = 99990 + mm_cX h)
def mm_pe9 (h h2 : mH) : Prop := ∃ c, mm_e1j h h2 c ∧ mm_pc9 h c
def mm_pJ (l : Int) (H k : Nat) (h h2 : mH) : Prop := ∃ A, mm_cq 0 h h2 A ∧ mm_exj H A ∧ ∀ (b : Int) (s : List Int) (i r : Int) (P : Int → Int) (W O : List Int) (K : List (Int × Int × Int)), s.length = k → mm_lo l W → ∃ W' O', mm_Sj (mm_fXj h) (⟨1, b :: s, h.1 63 7, 0, i, r, P⟩, (W, O, K)) (⟨2, b :: s, h2.1 63 7, 0, i, r, P⟩, (W', O', K)) ∧ mm_drj l W' O' = (W, mm_re A ++ O)
def mm_qJ (M l : Int) (H k : Nat) (h h2 : mH) : Prop := ∃ A b, (b = 1 ∨ (mm_cX h2 ≠ 160 ∧ mm_cX h2 ≠ 161)) ∧ mm_cq 0 h h2 A ∧ mm_exj H A ∧ ∀ (s : List Int) (i r : Int) (P : Int → Int) (W O : List Int) (K : List (Int × Int × Int)), s.length = k → mm_lo l W → ∃ W' O', mm_Sj (mm_fXj h) (⟨M, 0 :: s, h.1 63 7, 0, i, r, P⟩, (W, O, K)) (⟨2, b :: s, h2.1 63 7, 0, i, r, P⟩, (W', O', K)) ∧ mm_drj l W' O' = (W, mm_re A ++ O)
theorem mm_pJ_le {l l' : Int} {H H' k : Nat} {h h2 : mH} (hl : l' ≤ l) (hH : H ≤ H') (p : mm_pJ l H k h h2) : mm_pJ l' H' k h h2 := by
  obtain ⟨A, c, e, z⟩ := p
  refine ⟨A, c, mm_exj_le hH e, fun b s i r P W O K hs lo => ?_⟩
  obtain ⟨W', O', x, y⟩ := z b s i r P W O K hs (mm_lo_le hl lo)
  exact ⟨W', O', x, by rw [mm_drj_le hl y]; exact lo _⟩
theorem mm_qJ_le {M l l' : Int} {H H' k : Nat} {h h2 : mH} (hl : l' ≤ l) (hH : H ≤ H') (p : mm_qJ M l H k h h2) : mm_qJ M l' H' k h h2 := by
  obtain ⟨A, b, hb, c, e, z⟩ := p
  refine ⟨A, b, hb, c, mm_exj_le hH e, fun s i r P W O K hs lo => ?_⟩
  obtain ⟨W', O', x, y⟩ := z s i r P W O K hs (mm_lo_le hl lo)
  exact ⟨W', O', x, by rw [mm_drj_le hl y]; exact lo _⟩
theorem mm_pJ_part {k : Nat} {h h1 h2 : mH} (pe : mm_pe9 h h1) (e : mm_em h h1) (s : mm_st7 h1 h2) (y : mm_ey h1 h2) (b : h.1 63 7 ≤ 499) : mm_pJ 7 1 k h h2 := by
  obtain ⟨c, e1, pc⟩ := pe
  have n : h2.1 63 7 = mm_nX9 h := by rw [s.2.2.1]; unfold mm_nX9; rw [mm_TXx_U e.1, e.1.2, e.2.2.2.1]
  have ck : mm_cX h = 18 ∨ (7 ≤ mm_cX h ∧ mm_cX h ≤ 16) := by unfold mm_pc9 at pc; omega
  have l := mm_st7_lt s (by rw [mm_em_c e]; omega)
  rw [e.2.2.2.1] at l
  have cr : 0 ≤ c ∧ c < 100010 := by unfold mm_pc9 at pc; omega
  refine ⟨[c], ?_, mm_exj_1 cr, fun b t i r P W O K _ lo => ⟨W, mm_re [c] ++ O, mm_Sj_1 (mm_sj_of ?_ ?_), ?_⟩⟩
  · intro q
    obtain ⟨z1, z2⟩ := e1.1 (by omega)
    refine ⟨by rw [y.1, z1]; rfl, by show (1 : Int) + 0 ≤ _; omega, fun j hj => by rw [y.2, z2, if_neg (by omega)], fun i hi => ?_⟩
    have i0 : i = 0 := by have : [c].length = 1 := rfl; omega
    subst i0
    rw [y.2, z2]
    exact if_pos (Int.add_zero _)
  · rw [n]
    exact mm_sp_part ck
  · unfold mm_cX at ck
    rw [mm_oj_1, mm_oj_part ck, mm_re_1]
    unfold mm_pc9 mm_cX at pc
    unfold mm_ojp mm_en
    rcases pc with ⟨p1, p2, p3, p4⟩ | ⟨p1, p2, p3⟩ | ⟨p1, p2, p3⟩
    · rw [if_pos p1, if_pos (show c < 100000 by omega), p2]; rfl
    · rw [if_neg (by omega), if_pos p2, if_neg (show ¬ c < 100000 by omega), if_neg (show ¬ c < 100007 by omega), if_pos (show c < 100010 by omega), p3, show ∀ x : Int, 100000 + x - 100007 = x - 7 by intro x; omega]; rfl
    · rw [if_neg (by omega), if_neg (by omega), if_neg (show ¬ c < 100000 by omega), if_pos (show c < 100007 by omega), p3, show ∀ x : Int, 99990 + x - 100000 = x - 10 by intro x; omega]; rfl
  · exact lo _
/-- which code a sign or a word stands for, at which strength -/
def mm_op9 (x l a c : Int) : Prop := (x = 4 ∧ l = 1 ∧ a = 6 ∧ c = 100011) ∨ (x = 5 ∧ l = 2 ∧ a = 5 ∧ c = 100012) ∨ (x = 160 ∧ l = 4 ∧ a = 7 ∧ c = 100013) ∨ (x = 161 ∧ l = 4 ∧ a = 8 ∧ c = 100014) ∨ (x = 143 ∧ l = 5 ∧ a = 9 ∧ c = 100015) ∨ (x = 145 ∧ l = 5 ∧ a = 10 ∧ c = 100016) ∨ (x = 142 ∧ l = 6 ∧ a = 11 ∧ c = 100017) ∨ (x = 147 ∧ l = 6 ∧ a = 12 ∧ c = 100018)
theorem mm_op9_f {x l a c : Int} (o : mm_op9 x l a c) : mm_sgj a = l ∧ a ≠ 13 ∧ mm_en c = [a] ∧ 100011 ≤ c ∧ c ≤ 100018 := by
  rcases o with ⟨_, h2, h3, h4⟩ | ⟨_, h2, h3, h4⟩ | ⟨_, h2, h3, h4⟩ | ⟨_, h2, h3, h4⟩ | ⟨_, h2, h3, h4⟩ | ⟨_, h2, h3, h4⟩ | ⟨_, h2, h3, h4⟩ | ⟨_, h2, h3, h4⟩ <;> subst h2 h3 h4 <;> decide
/-- the operator is dropped behind its second operand -/
theorem mm_drj_op {x l a c : Int} {W W' O' : List Int} {A B O : List Int} (o : mm_op9 x l a c) (lo : mm_lo l W) (y : mm_drj (l + 1) W' O' = (a :: W, mm_re B ++ (mm_re A ++ O))) : mm_drj l W' O' = (W, mm_re (A ++ B ++ [c]) ++ O) := by
  obtain ⟨f1, f2, f3, f4, f5⟩ := mm_op9_f o
  rw [mm_drj_le (show l ≤ l + 1 by omega) y, mm_drj_y f2 (by omega), lo, mm_re_app, mm_re_app, mm_re_1, f3, List.append_assoc, List.append_assoc]
  rfl
theorem mm_lo_op {x l a c : Int} {W : List Int} (o : mm_op9 x l a c) : mm_lo (l + 1) (a :: W) := by
  have f := mm_op9_f o
  exact mm_lo_c (Or.inr (by omega))
/-- a sum goes on, a product goes on -/
theorem mm_pJ_op {l a c : Int} {H k : Nat} {h h1 hs h2 h3 : mH} (p : mm_p7 k h h1) (pj : mm_pJ l (H + 1) k h h1) (o : mm_op9 (mm_cX h1) l a c) (hl : l = 5 ∨ l = 6) (s : mm_st7 h1 hs) (sy : mm_ey h1 hs) (qj : mm_pJ (l + 1) H k hs h2) (e : mm_e1j h2 h3 c) (i2 : h2.1 63 7 ≤ 500) : mm_pJ l (H + 1) k h h3 := by
  obtain ⟨A, ca, ea, za⟩ := pj
  obtain ⟨B, cb, eb, zb⟩ := qj
  have f := mm_op9_f o
  have ck : mm_cX h1 = 142 ∨ mm_cX h1 = 147 ∨ mm_cX h1 = 143 ∨ mm_cX h1 = 145 := by unfold mm_op9 at o; omega
  have lt := mm_st7_lt s (by omega)
  have cs := mm_cq_tr (mm_cq_tr ca (mm_cq_0 (d := 1) sy (by omega)) (by omega)) cb (by omega)
  rw [List.append_nil] at cs
  have cc := mm_cq_e1 cs (by omega) e i2
  refine ⟨A ++ B ++ [c], mm_cq_le cc (by omega), mm_exj_op ea eb f.2.2.2, fun b t i r P W O K ht lo => ?_⟩
  obtain ⟨W1, O1, x1, y1⟩ := za b t i r P W O K ht lo
  obtain ⟨W2, O2, x2, y2⟩ := zb b t i r P (a :: W) (mm_re A ++ O) K ht (mm_lo_op o)
  rw [mm_fXj_eq s.1, mm_fXj_eq p.1.1] at x2
  refine ⟨W2, O2, mm_Sj_tr x1 (mm_Sj_tr (mm_Sj_1 (mm_sj_of (X := ⟨1, b :: t, hs.1 63 7, 0, i, r, P⟩) ?_ ?_)) (by rw [e.2]; exact x2)), mm_drj_op o lo y2⟩
  · have z : mm_stp (mm_tc (mm_UX h1) (h1.1 63 3)) (mm_tn (mm_UX h1) (h1.1 63 3)) (mm_tv (mm_UX h1) (h1.1 63 3)) ⟨2, b :: t, h1.1 63 7, 0, i, r, P⟩ = ⟨1, b :: t, hs.1 63 7, 0, i, r, P⟩ := by
      rw [s.2.2.1]; exact mm_sp_op ck
    have u := p.1.1
    rw [← mm_TXx_U u, ← u.2]; exact z
  · have u := p.1.1
    rw [← mm_TXx_U u, ← u.2, mm_oj_2]
    unfold mm_op9 mm_cX at o
    have k : mm_oja (mm_tc (mm_UX h1) (h1.1 63 3)) (h1.1 63 7) (W1, O1, K) (b :: t) = mm_dp l a (W1, O1, K) := by
      rcases o with ⟨q, q2, q3, q4⟩ | ⟨q, q2, q3, q4⟩ | ⟨q, q2, q3, q4⟩ | ⟨q, q2, q3, q4⟩ | ⟨q, q2, q3, q4⟩ | ⟨q, q2, q3, q4⟩ | ⟨q, q2, q3, q4⟩ | ⟨q, q2, q3, q4⟩
      · omega
      · omega
      · omega
      · omega
      · rw [q2, q3]; exact mm_oj_pl q
      · rw [q2, q3]; exact mm_oj_mi q
      · rw [q2, q3]; exact mm_oj_ti q
      · rw [q2, q3]; exact mm_oj_by q
    rw [k]
    unfold mm_dp
    rw [y1]
/-! tests -/
theorem mm_qJ_sum {H k : Nat} {h h1 : mH} (p : mm_pJ 5 H k h h1) (c : mm_cX h1 ≠ 160 ∧ mm_cX h1 ≠ 161) : mm_qJ 1 4 (H + 1) k h h1 := by
  obtain ⟨A, ca, ea, za⟩ := mm_pJ_le (show (4 : Int) ≤ 5 by decide) (show H ≤ H + 1 by omega) p
  exact ⟨A, 0, Or.inr c, ca, ea, fun s i r P W O K hs lo => za 0 s i r P W O K hs lo⟩
theorem mm_qJ_lt {a c : Int} {H k : Nat} {h h1 hs h2 h3 : mH} (p : mm_p7 k h h1) (pj : mm_pJ 5 H k h h1) (o : mm_op9 (mm_cX h1) 4 a c) (s : mm_st7 h1 hs) (sy : mm_ey h1 hs) (qj : mm_pJ 5 H k hs h2) (e : mm_e1j h2 h3 c) (i2 : h2.1 63 7 ≤ 500) : mm_qJ 1 4 (H + 1) k h h3 := by
  obtain ⟨A, ca, ea, za⟩ := mm_pJ_le (show (4 : Int) ≤ 5 by decide) (show H ≤ H + 1 by omega) pj
  obtain ⟨B, cb, eb, zb⟩ := qj
  have f := mm_op9_f o
  have ck : mm_cX h1 = 160 ∨ mm_cX h1 = 161 := by unfold mm_op9 at o; omega
  have lt := mm_st7_lt s (by omega)
  have cs := mm_cq_tr (mm_cq_tr ca (mm_cq_0 (d := 1) sy (by omega)) (by omega)) cb (by omega)
  rw [List.append_nil] at cs
  have cc := mm_cq_e1 cs (by omega) e i2
  refine ⟨A ++ B ++ [c], 1, Or.inl rfl, mm_cq_le cc (by omega), mm_exj_op ea eb f.2.2.2, fun t i r P W O K ht lo => ?_⟩
  obtain ⟨W1, O1, x1, y1⟩ := za 0 t i r P W O K ht lo
  obtain ⟨W2, O2, x2, y2⟩ := zb 1 t i r P (a :: W) (mm_re A ++ O) K ht (mm_lo_op o)
  rw [mm_fXj_eq s.1, mm_fXj_eq p.1.1] at x2
  refine ⟨W2, O2, mm_Sj_tr x1 (mm_Sj_tr (mm_Sj_1 (mm_sj_of (X := ⟨1, 1 :: t, hs.1 63 7, 0, i, r, P⟩) ?_ ?_)) (by rw [e.2]; exact x2)), mm_drj_op o lo y2⟩
  · have z : mm_stp (mm_tc (mm_UX h1) (h1.1 63 3)) (mm_tn (mm_UX h1) (h1.1 63 3)) (mm_tv (mm_UX h1) (h1.1 63 3)) ⟨2, 0 :: t, h1.1 63 7, 0, i, r, P⟩ = ⟨1, 1 :: t, hs.1 63 7, 0, i, r, P⟩ := by
      rw [s.2.2.1]; exact mm_sp_lt ck
    have u := p.1.1
    rw [← mm_TXx_U u, ← u.2]; exact z
  · have u := p.1.1
    rw [← mm_TXx_U u, ← u.2, mm_oj_2]
    unfold mm_op9 mm_cX at o
    have k : mm_oja (mm_tc (mm_UX h1) (h1.1 63 3)) (h1.1 63 7) (W1, O1, K) (0 :: t) = mm_dp 4 a (W1, O1, K) := by
      rcases o with ⟨q, q2, q3, q4⟩ | ⟨q, q2, q3, q4⟩ | ⟨q, q2, q3, q4⟩ | ⟨q, q2, q3, q4⟩ | ⟨q, q2, q3, q4⟩ | ⟨q, q2, q3, q4⟩ | ⟨q, q2, q3, q4⟩ | ⟨q, q2, q3, q4⟩
      · omega
      · omega
      · rw [q3]; exact mm_oj_lt q
      · rw [q3]; exact mm_oj_eq q
      · omega
      · omega
      · omega
      · omega
    rw [k]
    unfold mm_dp
    rw [y1]
/-! nots -/
def mm_nJ (k : Nat) (j : Int) (h h2 : mH) : Prop := 0 ≤ j ∧ mm_cq j h h2 [] ∧ ∀ (s : List Int) (i r : Int) (P : Int → Int) (W O : List Int) (K : List (Int × Int × Int)), s.length = k → mm_Sj (mm_fXj h) (⟨0, 0 :: s, h.1 63 7, 0, i, r, P⟩, (W, O, K)) (⟨0, 0 :: s, h2.1 63 7, j, i, r, P⟩, (List.replicate j.toNat 4 ++ W, O, K))
theorem mm_nJ_0 {k : Nat} {h : mH} : mm_nJ k 0 h h := ⟨Int.le_refl _, mm_cq_0 mm_ey_rf (by omega), fun _ _ _ _ _ _ _ _ => mm_Sj_rf⟩
theorem mm_nJ_s {k : Nat} {j : Int} {h h1 hs : mH} (p : mm_n7 k j h h1) (pj : mm_nJ k j h h1) (c : mm_cX h1 = 6) (hj : j ≠ 6) (s : mm_st7 h1 hs) (sy : mm_ey h1 hs) : mm_nJ k (j + 1) h hs := by
  obtain ⟨j0, cj, z⟩ := pj
  have lt := mm_st7_lt s (by omega)
  have cc := mm_cq_tr cj (mm_cq_0 (d := 1) sy (by omega)) j0
  refine ⟨by omega, cc, fun t i r P W O K ht => ?_⟩
  have u := p.1.1
  refine mm_Sj_tr (z t i r P W O K ht) (mm_Sj_1 (mm_sj_of ?_ ?_))
  · rw [s.2.2.1, ← mm_TXx_U u, ← u.2]
    exact mm_sp_not c hj
  · rw [← mm_TXx_U u, ← u.2, mm_oj_not c, show (j + 1).toNat = j.toNat + 1 by omega, List.replicate_succ]
    rfl
/-- a test behind n nots, m of which are laid down -/
def mm_rJ (n m : Int) (H k : Nat) (h h2 : mH) : Prop := 0 ≤ m ∧ m ≤ n ∧ ∃ A b, (b = 1 ∨ (mm_cX h2 ≠ 160 ∧ mm_cX h2 ≠ 161)) ∧ mm_cq (n - m) h h2 (A ++ List.replicate m.toNat 100010) ∧ mm_exj H A ∧ ∀ (s : List Int) (i r : Int) (P : Int → Int) (W O : List Int) (K : List (Int × Int × Int)), s.length = k → mm_lo 3 W → ∃ W' O', mm_Sj (mm_fXj h) (⟨0, 0 :: s, h.1 63 7, 0, i, r, P⟩, (W, O, K)) (⟨2, b :: s, h2.1 63 7, 0, i, r, P⟩, (W', O', K)) ∧ mm_drj 4 W' O' = (List.replicate n.toNat 4 ++ W, mm_re A ++ O)
theorem mm_lo_nots {W : List Int} (lo : mm_lo 3 W) : ∀ n : Nat, mm_lo 4 (List.replicate n 4 ++ W)
  | 0 => mm_lo_le (show (3 : Int) ≤ 4 by decide) lo
  | n + 1 => by
    rw [List.replicate_succ]
    exact mm_lo_c (Or.inr (by decide))
theorem mm_rJ_0 {j : Int} {H k : Nat} {h h1 h2 : mH} (p : mm_n7 k j h h1) (pj : mm_nJ k j h h1) (c : mm_cX h1 ≠ 6) (qj : mm_qJ 1 4 H k h1 h2) : mm_rJ j 0 H k h h2 := by
  obtain ⟨j0, cj, z⟩ := pj
  obtain ⟨A, b, hb, ca, ea, za⟩ := qj
  have u := p.1.1
  have cc := mm_cq_tr cj ca j0
  rw [List.nil_append] at cc
  refine ⟨Int.le_refl _, j0, A, b, hb, ?_, ea, fun t i r P W O K ht lo => ?_⟩
  · rw [show (0 : Int).toNat = 0 from rfl, List.replicate_zero, List.append_nil]
    exact mm_cq_le cc (by omega)
  · obtain ⟨W1, O1, x1, y1⟩ := za t i r P (List.replicate j.toNat 4 ++ W) O K ht (mm_lo_nots lo _)
    refine ⟨W1, O1, mm_Sj_tr (z t i r P W O K ht) ?_, y1⟩
    rw [← mm_fXj_eq u]
    refine mm_Sj_ne x1 (show (1 : Int) ≠ 2 by decide) ?_
    unfold mm_fXj mm_sj
    show (_, _) = (_, _)
    rw [mm_sp_0 c, mm_oj_0 c, mm_oj_1]
theorem mm_rJ_s {n m : Int} {H k : Nat} {h h2 h3 : mH} (R : mm_rJ n m H k h h2) (l : m < n) (e : mm_e1j h2 h3 100010) (em : mm_cX h3 = mm_cX h2) (i2 : h2.1 63 7 ≤ 500) : mm_rJ n (m + 1) H k h h3 := by
  obtain ⟨m0, m1, A, b, hb, ca, ea, za⟩ := R
  have cc := mm_cq_e1 ca (by omega) e i2
  refine ⟨by omega, by omega, A, b, by rw [em]; exact hb, ?_, ea, fun t i r P W O K ht lo => ?_⟩
  · rw [show (m + 1).toNat = m.toNat + 1 by omega, List.replicate_succ', ← List.append_assoc]
    exact mm_cq_le cc (by omega)
  · rw [e.2]
    exact za t i r P W O K ht lo
theorem mm_exj_nots {H : Nat} {A : List Int} (e : mm_exj H A) : ∀ n : Nat, mm_exj H (A ++ List.replicate n 100010)
  | 0 => by rw [List.replicate_zero, List.append_nil]; exact e
  | n + 1 => by
    rw [List.replicate_succ', ← List.append_assoc]
    exact mm_exj_not (mm_exj_nots e n)
theorem mm_re_nots : ∀ n : Nat, mm_re (List.replicate n 100010) = List.replicate n 4
  | 0 => rfl
  | n + 1 => by
    rw [List.replicate_succ', mm_re_app, mm_re_nots n, List.replicate_succ, mm_re_1]
    rfl
theorem mm_drj_nots {W : List Int} (lo : mm_lo 3 W) : ∀ (n : Nat) (O : List Int), mm_drj 3 (List.replicate n 4 ++ W) O = (W, List.replicate n 4 ++ O)
  | 0, O => lo O
  | n + 1, O => by
    rw [List.replicate_succ, List.cons_append, mm_drj_y (by decide) (by decide), mm_drj_nots lo n (4 :: O), ← List.replicate_succ, List.replicate_succ', List.append_assoc]
    rfl
theorem mm_qJ_not {n : Int} {H k : Nat} {h h2 : mH} (R : mm_rJ n n H k h h2) : mm_qJ 0 3 H k h h2 := by
  obtain ⟨m0, m1, A, b, hb, ca, ea, za⟩ := R
  refine ⟨_, b, hb, mm_cq_le ca (by omega), mm_exj_nots ea n.toNat, fun t i r P W O K ht lo => ?_⟩
  obtain ⟨W1, O1, x1, y1⟩ := za t i r P W O K ht lo
  refine ⟨W1, O1, x1, ?_⟩
  rw [mm_drj_le (show (3 : Int) ≤ 4 by decide) y1, mm_drj_nots lo, mm_re_app, mm_re_nots, List.append_assoc]
/-! and, or -/
theorem mm_qJ_and {l a c : Int} {H k : Nat} {h h1 hs h2 h3 : mH} (p : mm_TXx h h1) (pj : mm_qJ 0 l (H + 1) k h h1) (o : mm_op9 (mm_cX h1) l a c) (hl : l = 1 ∨ l = 2) (s : mm_st7 h1 hs) (sy : mm_ey h1 hs) (qj : mm_qJ 0 (l + 1) H k hs h2) (e : mm_e1j h2 h3 c) (em : mm_cX h3 = mm_cX h2) (i2 : h2.1 63 7 ≤ 500) : mm_qJ 0 l (H + 1) k h h3 := by
  obtain ⟨A, b, hb, ca, ea, za⟩ := pj
  obtain ⟨B, b2, hb2, cb, eb, zb⟩ := qj
  have f := mm_op9_f o
  have ck : mm_cX h1 = 4 ∨ mm_cX h1 = 5 := by unfold mm_op9 at o; omega
  have lt := mm_st7_lt s (by omega)
  have cs := mm_cq_tr (mm_cq_tr ca (mm_cq_0 (d := 1) sy (by omega)) (by omega)) cb (by omega)
  rw [List.append_nil] at cs
  have cc := mm_cq_e1 cs (by omega) e i2
  refine ⟨A ++ B ++ [c], b2, by rw [em]; exact hb2, mm_cq_le cc (by omega), mm_exj_op ea eb f.2.2.2, fun t i r P W O K ht lo => ?_⟩
  obtain ⟨W1, O1, x1, y1⟩ := za t i r P W O K ht lo
  obtain ⟨W2, O2, x2, y2⟩ := zb t i r P (a :: W) (mm_re A ++ O) K ht (mm_lo_op o)
  rw [mm_fXj_eq s.1, mm_fXj_eq p] at x2
  refine ⟨W2, O2, mm_Sj_tr x1 (mm_Sj_tr (mm_Sj_1 (mm_sj_of (X := ⟨0, 0 :: t, hs.1 63 7, 0, i, r, P⟩) ?_ ?_)) (by rw [e.2]; exact x2)), mm_drj_op o lo y2⟩
  · have z : mm_stp (mm_tc (mm_UX h1) (h1.1 63 3)) (mm_tn (mm_UX h1) (h1.1 63 3)) (mm_tv (mm_UX h1) (h1.1 63 3)) ⟨2, b :: t, h1.1 63 7, 0, i, r, P⟩ = ⟨0, 0 :: t, hs.1 63 7, 0, i, r, P⟩ := by
      rw [s.2.2.1]; exact mm_sp_and ck
    rw [← mm_TXx_U p, ← p.2]; exact z
  · rw [← mm_TXx_U p, ← p.2, mm_oj_2]
    unfold mm_op9 mm_cX at o
    have k : mm_oja (mm_tc (mm_UX h1) (h1.1 63 3)) (h1.1 63 7) (W1, O1, K) (b :: t) = mm_dp l a (W1, O1, K) := by
      rcases o with ⟨q, q2, q3, q4⟩ | ⟨q, q2, q3, q4⟩ | ⟨q, q2, q3, q4⟩ | ⟨q, q2, q3, q4⟩ | ⟨q, q2, q3, q4⟩ | ⟨q, q2, q3, q4⟩ | ⟨q, q2, q3, q4⟩ | ⟨q, q2, q3, q4⟩
      · rw [q2, q3]; exact mm_oj_or q
      · rw [q2, q3]; exact mm_oj_and q
      · omega
      · omega
      · omega
      · omega
      · omega
      · omega
    rw [k]
    unfold mm_dp
    rw [y1]
/-! parentheses -/
theorem mm_pJ_par {H k : Nat} {h hs h1 h2 : mH} (hk : k < 5) (c : mm_cX h = 140) (s : mm_st7 h hs) (sy : mm_ey h hs) (t1 : mm_TXx hs h1) (q : mm_qJ 0 1 H (k + 1) hs h1) (c2 : mm_cX h1 = 141) (s2 : mm_st7 h1 h2) (sy2 : mm_ey h1 h2) : mm_pJ 7 H k h h2 := by
  obtain ⟨A, b, hb, ca, ea, za⟩ := q
  have l := mm_st7_le s
  have l2 := mm_st7_le s2
  have u := mm_TXx_tr s.1 t1
  have cs := mm_cq_tr (mm_cq_0 (d := 0) sy (by omega)) ca (by omega)
  rw [List.nil_append] at cs
  refine ⟨A, mm_cq_ey (mm_cq_le cs (by omega)) sy2 (by omega) (by omega), ea, fun b0 t i r P W O K ht lo => ?_⟩
  obtain ⟨W1, O1, x1, y1⟩ := za (b0 :: t) i r P (13 :: W) O K (by rw [List.length_cons, ht]) (mm_lo_c (Or.inl rfl))
  rw [mm_fXj_eq s.1] at x1
  have y0 : mm_drj 0 W1 O1 = (13 :: W, mm_re A ++ O) := by
    have z : ∀ W O : List Int, mm_drj 0 W O = mm_drj 1 W O := by
      intro W
      induction W with
      | nil => intro O; rfl
      | cons x W ih =>
        intro O
        by_cases q : x = 13
        · rw [mm_drj_n (Or.inl q), mm_drj_n (Or.inl q)]
        · have g : 1 ≤ mm_sgj x := by
            unfold mm_sgj
            rw [if_neg q]
            (repeat' split) <;> omega
          rw [mm_drj_y q (by omega), mm_drj_y q g, ih]
    rw [z, y1]
  refine ⟨W, mm_re A ++ O, mm_Sj_tr (mm_Sj_1 (mm_sj_of (X := ⟨0, 0 :: b0 :: t, hs.1 63 7, 0, i, r, P⟩) ?_ ?_)) (mm_Sj_tr x1 (mm_Sj_1 (mm_sj_of ?_ ?_))), lo _⟩
  · rw [s.2.2.1]
    exact mm_sp_open c (by rw [List.length_cons]; omega)
  · rw [mm_oj_1]
    exact mm_oj_open c
  · rw [s2.2.2.1, ← mm_TXx_U u, ← u.2]
    exact mm_sp_close c2 (List.cons_ne_nil _ _)
  · rw [← mm_TXx_U u, ← u.2, mm_oj_2, mm_oj_cl c2 (List.cons_ne_nil _ _)]
    show ((mm_drj 0 W1 O1).1.tail, (mm_drj 0 W1 O1).2, K) = _
    rw [y0]
    rfl

/-! ===== clauses laid down ===== -/
theorem mm_drj01 : ∀ W O : List Int, mm_drj 0 W O = mm_drj 1 W O
  | [], _ => rfl
  | x :: W, O => by
    by_cases q : x = 13
    · rw [mm_drj_n (Or.inl q), mm_drj_n (Or.inl q)]
    · have g : 1 ≤ mm_sgj x := by
        unfold mm_sgj
        rw [if_neg q]
        (repeat' split) <;> omega
      rw [mm_drj_y q (by omega), mm_drj_y q g, mm_drj01 W]
abbrev mm_C3 := Int × List Int × List Int
abbrev mm_O3 := List Int × List (Int × Int × Int)
def mm_cbj (q : mm_C3) : List Int := if q.1 = 2 then [] else q.2.1 ++ (if q.2.2 = [] then [] else q.2.2 ++ [100019])
def mm_cc9 (q : mm_C3) : List Int := if q.1 = 2 then [] else mm_cbj q ++ [100020 + q.1]
def mm_wc9 (q : mm_C3) : Prop := q.1 = 2 ∨ ((q.1 = 0 ∨ q.1 = 1) ∧ mm_exj 31 q.2.1 ∧ (q.2.2 = [] ∨ mm_exj 31 q.2.2))
def mm_bl9 (q : mm_C3) (w : mm_O3) : mm_O3 := if q.1 = 2 then (w.1, (2, 0, 0) :: w.2) else if q.2.2 = [] then (0 :: (mm_re q.2.1 ++ w.1), (q.1, (w.1.length : Int), -1) :: w.2) else (0 :: (mm_re q.2.2 ++ (0 :: (mm_re q.2.1 ++ w.1))), (q.1, (w.1.length : Int), ((0 :: (mm_re q.2.1 ++ w.1)).length : Int)) :: w.2)
def mm_bs9 : List mm_C3 → mm_O3 → mm_O3
  | [], w => w
  | q :: L, w => mm_bs9 L (mm_bl9 q w)
theorem mm_bs9_app : ∀ (L : List mm_C3) (q : mm_C3) (w : mm_O3), mm_bs9 (L ++ [q]) w = mm_bl9 q (mm_bs9 L w)
  | [], _, _ => rfl
  | _ :: L, q, w => mm_bs9_app L q _
def mm_mJ (p : Int) (h h2 : mH) : Prop := ∃ A, mm_exj 31 A ∧ mm_cq 1 h h2 A ∧ ∀ (O : List Int) (K : List (Int × Int × Int)), mm_Sj (mm_fXj h) (⟨10, [], h.1 63 7, 0, p, 0, mm_PX h⟩, ([], O, K)) (⟨4, [], h2.1 63 7, 0, p, 0, mm_PX h2⟩, ([], 0 :: (mm_re A ++ O), (mm_cX h, (O.length : Int), -1) :: K))
/-- an expression from its first token on -/
theorem mm_exJ {p r : Int} {P : Int → Int} {H : Nat} {h h2 : mH} (t : mm_TXx h h2) (q : mm_qJ 0 1 H 0 h h2) (n : mm_nD h2) : ∃ A, mm_cq 0 h h2 A ∧ mm_exj H A ∧ ∀ (O : List Int) (K : List (Int × Int × Int)), mm_Sj (mm_fXj h) (⟨0, [0], h.1 63 7, 0, p, r, P⟩, ([], O, K)) (⟨4, [], h2.1 63 7, 0, p, r, P⟩, ([], 0 :: (mm_re A ++ O), K)) := by
  obtain ⟨A, b, hb, ca, ea, za⟩ := q
  refine ⟨A, ca, ea, fun O K => ?_⟩
  obtain ⟨W1, O1, x1, y1⟩ := za [] p r P [] O K rfl mm_lo_0
  refine mm_Sj_tr x1 (mm_Sj_1 (mm_sj_of ?_ ?_))
  · rw [← mm_TXx_U t, ← t.2]
    exact mm_sp_end (mm_nD_F n hb)
  · rw [← mm_TXx_U t, ← t.2, mm_oj_2, mm_oj_end (mm_nD_F n hb)]
    show ((mm_drj 0 W1 O1).1, 0 :: (mm_drj 0 W1 O1).2, K) = _
    rw [mm_drj01, y1]
theorem mm_opJ {p : Int} {h hs : mH} (c : mm_cX h = 0 ∨ mm_cX h = 1) (hp : p ≤ 19) (s : mm_st7 h hs) (e : ∀ j, hs.2.1 65 j = h.2.1 65 j) (O : List Int) (K : List (Int × Int × Int)) : mm_Sj (mm_fXj h) (⟨10, [], h.1 63 7, 0, p, 0, mm_PX h⟩, ([], O, K)) (⟨0, [0], hs.1 63 7, 0, p, 0, mm_PX hs⟩, ([], O, (mm_cX h, (O.length : Int), -1) :: K)) := by
  refine mm_Sj_1 (mm_sj_of (mm_sp_10.trans ?_) (mm_oj_10.trans ?_))
  · unfold mm_cX at c
    rw [if_neg (by omega), if_neg (by omega), if_neg (by omega), if_neg (by omega), s.2.2.1, mm_PX_eq e]
    rfl
  · unfold mm_cX at c
    rw [if_neg (by omega), if_pos c]
    rfl
theorem mm_mJ_1 {p : Int} {h hs h2 : mH} (c : mm_cX h = 0 ∨ mm_cX h = 1) (hp : p ≤ 19) (s : mm_st7 h hs) (sy : mm_ey h hs) (e : ∀ j, hs.2.1 65 j = h.2.1 65 j) (t : mm_TXx hs h2) (q : mm_qJ 0 1 31 0 hs h2) (n : mm_nD h2) (e2 : ∀ j, h2.2.1 65 j = hs.2.1 65 j) : mm_mJ p h h2 := by
  obtain ⟨A, ca, ea, z⟩ := mm_exJ (p := p) (r := 0) (P := mm_PX hs) t q n
  have l := mm_st7_lt s (by omega)
  have cc := mm_cq_tr (mm_cq_0 (d := 1) sy (by omega)) ca (by omega)
  refine ⟨A, ea, cc, fun O K => mm_Sj_tr (mm_opJ c hp s e O K) ?_⟩
  have y := z O ((mm_cX h, (O.length : Int), -1) :: K)
  rw [mm_fXj_eq s.1] at y
  rw [mm_PX_eq e2]
  exact y
/-- before the ; -/
def mm_wJ (p : Int) (h h2 : mH) : Prop := ∃ q : mm_C3, mm_wc9 q ∧ q.1 = mm_cX h ∧ mm_cq 1 h h2 (mm_cbj q) ∧ ∃ r, ∀ (O : List Int) (K : List (Int × Int × Int)), mm_Sj (mm_fXj h) (⟨10, [], h.1 63 7, 0, p, 0, mm_PX h⟩, ([], O, K)) (⟨13, [], h2.1 63 7, 0, p, r, mm_PX h2⟩, ([], mm_bl9 q (O, K)))
theorem mm_wJ_1 {p : Int} {h h2 : mH} (t : mm_TXx h h2) (m : mm_mJ p h h2) (ck : mm_cX h = 0 ∨ mm_cX h = 1) (c : mm_cX h2 ≠ 3) : mm_wJ p h h2 := by
  obtain ⟨A, ea, ca, z⟩ := m
  have n2 : mm_cX h ≠ 2 := by omega
  refine ⟨(mm_cX h, A, []), Or.inr ⟨ck, ea, Or.inl rfl⟩, rfl, ?_, 0, fun O K => mm_Sj_tr (z O K) (mm_Sj_1 (mm_sj_of ?_ ?_))⟩
  · have k : mm_cbj (mm_cX h, A, []) = A := by
      unfold mm_cbj
      rw [if_neg n2, if_pos rfl]
      exact List.append_nil A
    rw [k]; exact ca
  · rw [← mm_TXx_U t, ← t.2]
    exact mm_sp_4 (Or.inr c)
  · rw [← mm_TXx_U t, ← t.2, mm_oj_4 (Or.inr c)]
    unfold mm_bl9
    rw [if_neg n2, if_pos rfl]
theorem mm_wJ_2 {p : Int} {h h1 hs h2 h3 : mH} (t1 : mm_TXx h h1) (m : mm_mJ p h h1) (ck : mm_cX h = 0 ∨ mm_cX h = 1) (c : mm_cX h1 = 3) (s : mm_st7 h1 hs) (sy : mm_ey h1 hs) (e : ∀ j, hs.2.1 65 j = h1.2.1 65 j) (t : mm_TXx hs h2) (q : mm_qJ 0 1 31 0 hs h2) (n : mm_nD h2) (e2 : ∀ j, h2.2.1 65 j = hs.2.1 65 j) (e1 : mm_e1j h2 h3 100019) (e3 : ∀ j, h3.2.1 65 j = h2.2.1 65 j) (i2 : h2.1 63 7 ≤ 500) : mm_wJ p h h3 := by
  obtain ⟨A, ea, ca, z⟩ := m
  obtain ⟨B, cb, eb, y⟩ := mm_exJ (p := p) (r := 1) (P := mm_PX h1) t q n
  have n2 : mm_cX h ≠ 2 := by omega
  have l := mm_st7_lt s (by omega)
  have cs := mm_cq_tr (mm_cq_tr ca (mm_cq_0 (d := 1) sy (by omega)) (by omega)) cb (by omega)
  rw [List.append_nil] at cs
  have cc := mm_cq_e1 cs (by omega) e1 i2
  have t4 := mm_TXx_tr t1 (mm_TXx_tr s.1 t)
  refine ⟨(mm_cX h, A, B), Or.inr ⟨ck, ea, Or.inr eb⟩, rfl, ?_, 1, fun O K => mm_Sj_tr (z O K) (mm_Sj_tr (mm_Sj_1 (B := (⟨0, [0], hs.1 63 7, 0, p, 1, mm_PX h1⟩, ([], 0 :: (mm_re A ++ O), (mm_cX h, (O.length : Int), ((0 :: (mm_re A ++ O)).length : Int)) :: K))) (mm_sj_of ?_ ?_)) (mm_Sj_tr ?_ (mm_Sj_1 (mm_sj_of (c := mm_tc (mm_UX h) (h.1 63 3)) (g := ⟨4, [], h2.1 63 7, 0, p, 1, mm_PX h1⟩) (w := ([], 0 :: (mm_re B ++ (0 :: (mm_re A ++ O))), (mm_cX h, (O.length : Int), ((0 :: (mm_re A ++ O)).length : Int)) :: K)) ?_ ?_))))⟩
  · have k : mm_cbj (mm_cX h, A, B) = A ++ B ++ [100019] := by
      unfold mm_cbj
      rw [if_neg n2, if_neg eb.2.1, List.append_assoc]
    rw [k]; exact mm_cq_le cc (by omega)
  · rw [s.2.2.1, ← mm_TXx_U t1, ← t1.2]
    exact mm_sp_4u c
  · rw [← mm_TXx_U t1, ← t1.2]
    exact mm_oj_4u c
  · have y2 := y (0 :: (mm_re A ++ O)) ((mm_cX h, (O.length : Int), ((0 :: (mm_re A ++ O)).length : Int)) :: K)
    rw [mm_fXj_eq s.1, mm_fXj_eq t1] at y2
    exact y2
  · rw [e1.2, mm_PX_eq e3, mm_PX_eq e2, mm_PX_eq e]
    exact mm_sp_4 (Or.inl rfl)
  · rw [mm_oj_4 (Or.inl rfl)]
    unfold mm_bl9
    rw [if_neg n2, if_neg eb.2.1]
/-- set -/
def mm_kJ (p : Int) (h h2 : mH) : Prop := ∀ w : mm_J9, mm_Sj (mm_fXj h) (⟨11, [], h.1 63 7, 0, p, 0, mm_PX h⟩, w) (⟨13, [], h2.1 63 7, 0, p, 0, mm_PX h2⟩, w)
theorem mm_kJ_set {p : Int} {h hs h1 h2 : mH} (c : 7 ≤ mm_cX h ∧ mm_cX h ≤ 9) (s : mm_st7 h hs) (c2 : mm_cX hs = 18) (e : mm_em hs h1) (u : mm_up h h1 65 (mm_cX h - 7) (mm_tv (mm_UX hs) (hs.1 63 3) (hs.1 63 7)) 1) (s2 : mm_st7 h1 h2) (e2 : ∀ j, h2.2.1 65 j = h1.2.1 65 j) : mm_kJ p h h2 := fun w => by
  have n2 : h2.1 63 7 = mm_nX9 hs := by rw [s2.2.2.1]; unfold mm_nX9; rw [mm_TXx_U e.1, e.1.2, e.2.2.2.1]
  refine mm_Sj_tr (mm_Sj_1 (B := (⟨12, [], hs.1 63 7, mm_cX h - 7, p, 0, mm_PX h⟩, w)) (mm_sj_of ?_ (mm_oj_hi (Or.inr (Or.inl rfl))))) (mm_Sj_1 (mm_sj_of ?_ (mm_oj_hi (Or.inr (Or.inr (Or.inl rfl))))))
  · rw [s.2.2.1]
    refine mm_sp_11.trans ?_
    rw [if_neg (show ¬ 18 ≤ mm_tc (mm_UX h) (h.1 63 3) (h.1 63 7) from fun z => by unfold mm_cX at c; omega), if_neg (show ¬ ¬ (7 ≤ mm_tc (mm_UX h) (h.1 63 3) (h.1 63 7) ∧ mm_tc (mm_UX h) (h.1 63 3) (h.1 63 7) ≤ 9) from fun z => z c)]
    rfl
  · rw [n2, mm_PX_eq e2, mm_PX_put u (by omega), ← mm_TXx_U s.1, ← s.1.2]
    exact mm_sp_12.trans (if_pos c2)
theorem mm_wJ_set {p : Int} {h hs h2 : mH} (c : mm_cX h = 2) (hp : p ≤ 19) (s : mm_st7 h hs) (sy : mm_ey h hs) (e : ∀ j, hs.2.1 65 j = h.2.1 65 j) (k : mm_kJ p hs h2) (ky : mm_ey hs h2) (l2 : hs.1 63 7 ≤ h2.1 63 7) : mm_wJ p h h2 := by
  have l := mm_st7_lt s (by omega)
  refine ⟨(2, [], []), Or.inl rfl, c.symm, ?_, 0, fun O K => mm_Sj_tr (mm_Sj_1 (B := (⟨11, [], hs.1 63 7, 0, p, 0, mm_PX hs⟩, ([], O, (2, 0, 0) :: K))) (mm_sj_of (mm_sp_10.trans ?_) (mm_oj_10.trans ?_))) ?_⟩
  · exact mm_cq_0 (mm_ey_tr sy ky) (by omega)
  · unfold mm_cX at c
    rw [if_neg (by omega), if_neg (by omega), if_neg (by omega), if_pos c, s.2.2.1, mm_PX_eq e]
    rfl
  · unfold mm_cX at c
    rw [if_pos c]
  · have z := k ([], O, (2, 0, 0) :: K)
    rw [mm_fXj_eq s.1] at z
    exact z
def mm_KJ (p : Int) (h h2 : mH) : Prop := ∃ q : mm_C3, mm_wc9 q ∧ mm_cq 0 h h2 (mm_cc9 q) ∧ ∀ (O : List Int) (K : List (Int × Int × Int)), mm_Sj (mm_fXj h) (⟨10, [], h.1 63 7, 0, p, 0, mm_PX h⟩, ([], O, K)) (⟨10, [], h2.1 63 7, 0, p + 1, 0, mm_PX h2⟩, ([], mm_bl9 q (O, K)))
theorem mm_KJ_set {p : Int} {h h1 h2 : mH} (w : mm_wJ p h h1) (t : mm_TXx h h1) (k2 : mm_cX h = 2) (c : mm_cX h1 = 159) (s : mm_st7 h1 h2) (sy : mm_ey h1 h2) (e : ∀ j, h2.2.1 65 j = h1.2.1 65 j) : mm_KJ p h h2 := by
  obtain ⟨q, wq, kq, cq, r, z⟩ := w
  have l := mm_st7_le s
  refine ⟨q, wq, ?_, fun O K => mm_Sj_tr (z O K) (mm_Sj_1 (mm_sj_of ?_ (mm_oj_hi (Or.inr (Or.inr (Or.inr (Or.inl rfl)))))))⟩
  · have k : mm_cc9 q = mm_cbj q := by
      unfold mm_cc9 mm_cbj
      rw [if_pos (kq.trans k2), if_pos (kq.trans k2)]
    rw [k]
    exact mm_cq_le (mm_cq_ey cq sy l (by omega)) (by omega)
  · rw [s.2.2.1, mm_PX_eq e, ← mm_TXx_U t, ← t.2]
    exact mm_sp_13.trans (if_pos c)
theorem mm_KJ_w {p v : Int} {h h1 h2 h3 : mH} (w : mm_wJ p h h1) (t : mm_TXx h h1) (k2 : mm_cX h ≠ 2) (c : mm_cX h1 = 159) (s : mm_st7 h1 h2) (sy : mm_ey h1 h2) (e : ∀ j, h2.2.1 65 j = h1.2.1 65 j) (e1 : mm_e1j h2 h3 v) (hv : v = 100020 + mm_cX h) (e3 : ∀ j, h3.2.1 65 j = h2.2.1 65 j) (i2 : h2.1 63 7 ≤ 500) : mm_KJ p h h3 := by
  obtain ⟨q, wq, kq, cq, r, z⟩ := w
  subst hv
  have l := mm_st7_lt s (by omega)
  have cs := mm_cq_tr cq (mm_cq_0 (d := 1) sy (by omega)) (by omega)
  rw [List.append_nil] at cs
  have cc := mm_cq_e1 cs (by omega) e1 i2
  refine ⟨q, wq, ?_, fun O K => mm_Sj_tr (z O K) (mm_Sj_1 (mm_sj_of ?_ (mm_oj_hi (Or.inr (Or.inr (Or.inr (Or.inl rfl)))))))⟩
  · have k : mm_cc9 q = mm_cbj q ++ [100020 + mm_cX h] := by
      unfold mm_cc9
      rw [if_neg (fun y => k2 (kq.symm.trans y)), kq]
    rw [k]
    exact mm_cq_le cc (by omega)
  · rw [e1.2, mm_PX_eq e3, s.2.2.1, mm_PX_eq e, ← mm_TXx_U t, ← t.2]
    exact mm_sp_13.trans (if_pos c)
/-! the whole text -/
def mm_fTj (T : Int → Int) (n : Int) : mm_H9 → mm_H9 := mm_sj (mm_tc (mm_tr T n) n) (mm_tn (mm_tr T n) n) (mm_tv (mm_tr T n) n)
def mm_lc9 (L : List mm_C3) : List Int := L.flatMap mm_cc9
def mm_RJ (T : Int → Int) (n i : Int) (h : mH) : Prop := ∃ L : List mm_C3, (∀ q ∈ L, mm_wc9 q) ∧ h.1 63 4 = (mm_lc9 L).length ∧ h.1 63 4 ≤ h.1 63 7 ∧ (∀ k : Nat, k < (mm_lc9 L).length → h.2.1 64 k = (mm_lc9 L).getD k 0) ∧ mm_Sj (mm_fTj T n) (mm_A0 T n, ([], [], [])) (⟨10, [], h.1 63 7, 0, i, 0, mm_PX h⟩, ([], mm_bs9 L ([], [])))
theorem mm_fXj_T {T : Int → Int} {n : Int} {h : mH} (t : (∀ j, h.2.1 62 j = T j) ∧ h.1 63 3 = n) : mm_fXj h = mm_fTj T n := by
  obtain ⟨t1, t2⟩ := t
  subst t2
  have e : h.2.1 62 = T := funext t1
  subst e
  rfl
theorem mm_RJ_0 {T : Int → Int} {n : Int} {h : mH} (R : h.1 63 7 = mm_skp (mm_tr T n) n 0) (p : mm_PX h = mm_P0) (z : h.1 63 4 = 0) (l : 0 ≤ h.1 63 7) : mm_RJ T n 0 h := by
  refine ⟨[], fun q hq => absurd hq List.not_mem_nil, z, by omega, fun k hk => absurd hk (Nat.not_lt_zero _), ?_⟩
  rw [R, p]
  exact mm_Sj_rf
theorem mm_P0_of {h : mH} (p0 : h.2.1 65 0 = 3600) (p1 : h.2.1 65 1 = 60) (p2 : h.2.1 65 2 = 900) : mm_PX h = mm_P0 := funext fun x => by
  unfold mm_PX mm_P0
  by_cases q0 : x = 0
  · rw [q0, p0]; rfl
  · by_cases q1 : x = 1
    · rw [q1, p1]; rfl
    · by_cases q2 : x = 2
      · rw [q2, p2]; rfl
      · rw [if_neg (by omega), if_neg q0, if_neg q1, if_neg q2]
theorem mm_RJ_s {T : Int → Int} {n i : Int} {h h2 : mH} (R7 : mm_R7 T n i h) (R : mm_RJ T n i h) (K : mm_KJ i h h2) : mm_RJ T n (i + 1) h2 := by
  obtain ⟨L, wl, s1, s2, s3, z⟩ := R
  obtain ⟨q, wq, cq, y⟩ := K
  obtain ⟨c1, c2, c3, c4⟩ := cq s2
  have e : mm_lc9 (L ++ [q]) = mm_lc9 L ++ mm_cc9 q := by
    unfold mm_lc9
    rw [List.flatMap_append, List.flatMap_cons, List.flatMap_nil, List.append_nil]
  refine ⟨L ++ [q], fun x hx => ?_, ?_, by omega, fun k hk => ?_, ?_⟩
  · rcases List.mem_append.mp hx with h | h
    · exact wl x h
    · rw [List.mem_singleton.mp h]; exact wq
  · rw [e, List.length_append]; omega
  · rw [e, List.length_append] at hk
    rw [e, List.getD_eq_getElem?_getD]
    by_cases w : k < (mm_lc9 L).length
    · rw [c3 _ (by omega), s3 k w, List.getElem?_append_left w, List.getD_eq_getElem?_getD]
    · have g := c4 (k - (mm_lc9 L).length) (by omega)
      rw [s1, show ((mm_lc9 L).length : Int) + ((k - (mm_lc9 L).length : Nat) : Int) = (k : Int) by omega] at g
      rw [g, List.getElem?_append_right (by omega), List.getD_eq_getElem?_getD]
  · rw [mm_bs9_app]
    refine mm_Sj_tr z ?_
    have g := y (mm_bs9 L ([], [])).1 (mm_bs9 L ([], [])).2
    rw [mm_fXj_T R7.2.1] at g
    exact g
def mm_RDj (T : Int → Int) (n : Int) (w : mm_O3) : Prop := ∃ a i P, mm_Sj (mm_fTj T n) (mm_A0 T n, ([], [], [])) (⟨20, [], a, 0, i, 0, P⟩, ([], w))
/-- the codes that the reader holds, those that count -/
def mm_cdj (s : Int) (f : Int → Int) (L : List mm_C3) : Prop := (∀ q ∈ L, mm_wc9 q) ∧ s = (mm_lc9 L).length ∧ ∀ k : Nat, k < (mm_lc9 L).length → f k = (mm_lc9 L).getD k 0
theorem mm_RJ_end {T : Int → Int} {n i : Int} {h : mH} (R7 : mm_R7 T n i h) (R : mm_RJ T n i h) (c : mm_cX h = 21) : ∃ L, mm_cdj (h.1 63 4) (h.2.1 64) L ∧ mm_RDj T n (mm_bs9 L ([], [])) := by
  obtain ⟨L, wl, s1, s2, s3, z⟩ := R
  refine ⟨L, ⟨wl, s1, s3⟩, h.1 63 7, i, mm_PX h, mm_Sj_tr z (mm_Sj_1 ?_)⟩
  rw [← mm_fXj_T R7.2.1]
  refine mm_sj_of (mm_sp_10.trans (if_pos c)) (mm_oj_10.trans ?_)
  unfold mm_cX at c
  rw [if_neg (by omega), if_neg (by omega)]
theorem mm_RDj_un {T : Int → Int} {n : Int} {w w' : mm_O3} (A : mm_RDj T n w) (B : mm_RDj T n w') : w = w' := by
  obtain ⟨a, i, P, z⟩ := A
  obtain ⟨a', i', P', z'⟩ := B
  have e := mm_Sj_un z z' (mm_sj_of mm_sp_20 (mm_oj_hi (Or.inr (Or.inr (Or.inr (Or.inr rfl)))))) (mm_sj_of mm_sp_20 (mm_oj_hi (Or.inr (Or.inr (Or.inr (Or.inr rfl))))))
  exact congrArg (fun x : mm_H9 => x.2.2) e
theorem mm_e1j_of {h h2 : mH} {c : Int} (u : mm_up h h2 64 (h.1 63 4) c 1) (e4 : h2.1 63 4 = h.1 63 4 + 1) (e7 : h2.1 63 7 = h.1 63 7) : mm_e1j h h2 c := ⟨fun _ => ⟨e4, fun j => by
  rw [u j]
  by_cases q : j = h.1 63 4
  · rw [if_pos ⟨q, rfl⟩, if_pos q]
  · rw [if_neg (fun z => q z.1), if_neg q]⟩, e7⟩
theorem mm_cdj_cp {s s' : Int} {f f' : Int → Int} {L : List mm_C3} (C : mm_cdj s f L) (es : s' = s) (e : ∀ j, 0 ≤ j → j < s → f' j = f j) : mm_cdj s' f' L := by
  obtain ⟨a, b, c⟩ := C
  exact ⟨a, es.trans b, fun k hk => by rw [e k (by omega) (by omega)]; exact c k hk⟩
def mm_RCj (h h2 : mH) (n k : Int) : Prop := (k = 0 ∧ ∃ L, mm_cdj (h2.1 42 3) (h2.2.1 43) L ∧ mm_RDj (h.2.1 62) n (mm_bs9 L ([], []))) ∨ (k ≠ 0 ∧ h2.1 42 3 = h.1 42 3 ∧ ∀ j, h2.2.1 43 j = h.2.1 43 j)
theorem mm_opP {x s : Int} (h : (x = 142 ∧ s = 100017) ∨ (x = 147 ∧ s = 100018)) : mm_op9 x 6 (s - 100006) s := by
  rcases h with ⟨h, k⟩ | ⟨h, k⟩ <;> subst h k
  · exact Or.inr (Or.inr (Or.inr (Or.inr (Or.inr (Or.inr (Or.inl ⟨rfl, rfl, rfl, rfl⟩))))))
  · exact Or.inr (Or.inr (Or.inr (Or.inr (Or.inr (Or.inr (Or.inr ⟨rfl, rfl, rfl, rfl⟩))))))
theorem mm_opS {x s : Int} (h : (x = 143 ∧ s = 100015) ∨ (x = 145 ∧ s = 100016)) : mm_op9 x 5 (s - 100006) s := by
  rcases h with ⟨h, k⟩ | ⟨h, k⟩ <;> subst h k
  · exact Or.inr (Or.inr (Or.inr (Or.inr (Or.inl ⟨rfl, rfl, rfl, rfl⟩))))
  · exact Or.inr (Or.inr (Or.inr (Or.inr (Or.inr (Or.inl ⟨rfl, rfl, rfl, rfl⟩)))))
theorem mm_opT {x s : Int} (h : (x = 160 ∧ s = 100013) ∨ (x = 161 ∧ s = 100014) ∨ s = -1) (n : s ≠ -1) : mm_op9 x 4 (s - 100006) s := by
  rcases h with ⟨h, k⟩ | ⟨h, k⟩ | h
  · subst h k
    exact Or.inr (Or.inr (Or.inl ⟨rfl, rfl, rfl, rfl⟩))
  · subst h k
    exact Or.inr (Or.inr (Or.inr (Or.inl ⟨rfl, rfl, rfl, rfl⟩)))
  · exact absurd h n
theorem mm_opA {x : Int} (h : x = 5) : mm_op9 x 2 5 100012 := Or.inr (Or.inl ⟨h, rfl, rfl, rfl⟩)
theorem mm_opO {x : Int} (h : x = 4) : mm_op9 x 1 6 100011 := Or.inl ⟨h, rfl, rfl, rfl⟩

set_option maxRecDepth 100000 in
set_option maxHeartbeats 4000000 in
theorem c_X7_emit_q (l : Launch) (hl : l.stackTraces = false) (d : Nat) (hd : 0 ≤ d) (h : mH) (i0 : mm_inv h) (p1 : Int) : mm_Met l d yX7_emit cX7_emit 2 none [mR 63, mI p1] h (mm_pv fun h2 => mm_inv h2 ∧ mm_fr [(63, 4)] [64] h h2 ∧ mm_e1j h h2 p1) mm_nx 0 0 := by
  refine mm_ofW (ls := [mR 63, mI p1]) hl (by decide) rfl (Nat.le_of_ble_eq_true rfl) ?_
  intro x hxl C T hnm htb
  subst hxl
  refine mm_rng (fun hr _ => ?_)
  have ap1 : -2147483648 ≤ p1 ∧ p1 < 2147483648 := mm_ok_at hr (i := 1) rfl
  have f0 : mm_fr [(63, 4)] [64] h h := mm_fr_rf
  have g1 : 0 ≤ h.1 63 4 ∧ h.1 63 4 ≤ 500 := i0.1 63 4
  refine mm_aload_n C (mm_dec dk_X7_emit 0 rfl) rfl ?_
  refine mm_geti C fl_X7_22 (mm_dec dk_X7_emit 1 rfl) rfl rfl (Or.inl rfl) ?_
  refine mm_sipush C (mm_dec dk_X7_emit 2 rfl) ⟨by decide, by decide⟩ ?_
  have J30 : ∀ (h30_ : mH) (i30_ : mm_inv h30_) (f30_ : mm_fr [(63, 4)] [64] h h30_) (w30_0 : mm_e1j h h30_ p1), mm_W x 0 0 30 [mU, mU] [] h30_ := by
    intro h30_ i30_ f30_ w30_0
    have g2 : 0 ≤ h30_.1 63 4 ∧ h30_.1 63 4 ≤ 500 := i30_.1 63 4
    exact mm_vret C T (mm_dec dk_X7_emit 16 rfl) (by decide : 0 ≤ 0) (by decide : 0 ≤ 0) ⟨rfl, ⟨i30_, f30_, by exact w30_0⟩⟩
  refine mm_icmp_ge (tgt := 30) C (mm_dec dk_X7_emit 3 rfl) (by decide) (fun c7 => ?_) (fun c7 => ?_)
  · skip
    refine mm_fgt 0 ?_
    refine mm_fgt 1 ?_
    exact J30 h i0 f0 (by first | exact ⟨fun q => absurd q (by omega), rfl⟩ | exact mm_e1j_of (mm_up_pa (fun _ => rfl) eh1 (fun j => mm_sm_pf 64 eh2 j) rfl rfl) (by omega) (f0.1 63 7 (by decide)))
  · skip
    refine mm_aload_n C (mm_dec dk_X7_emit 4 rfl) rfl ?_
    refine mm_getr (t := 64) C fl_X7_11 (mm_dec dk_X7_emit 5 rfl) rfl rfl (mm_ref i0 rfl) ?_
    refine mm_aload_n C (mm_dec dk_X7_emit 6 rfl) rfl ?_
    refine mm_geti C fl_X7_22 (mm_dec dk_X7_emit 7 rfl) rfl rfl (Or.inl rfl) ?_
    refine mm_iload_n C (mm_dec dk_X7_emit 8 rfl) rfl ?_
    refine mm_iast C (mm_dec dk_X7_emit 9 rfl) rfl (by omega) (by omega) ?_
    have i1 : mm_inv (mm_pa h 64 (h.1 63 4) p1) := mm_inv_pa i0 (show -2147483648 ≤ p1 ∧ p1 ≤ 2147483647 from ⟨by omega, by omega⟩)
    have f1 : mm_fr [(63, 4)] [64] h (mm_pa h 64 (h.1 63 4) p1) := mm_fr_pa f0 (by decide)
    obtain ⟨h1, eh1⟩ : ∃ z, z = mm_pa h 64 (h.1 63 4) p1 := ⟨_, rfl⟩
    rw [← eh1] at i1 f1 ⊢
    have qh1_3 : h1.1 63 4 = h.1 63 4 := by rw [eh1]; rfl
    refine mm_aload_n C (mm_dec dk_X7_emit 10 rfl) rfl ?_
    refine mm_dup C (mm_dec dk_X7_emit 11 rfl) (show (2 : Nat) ≠ 1 by decide) ?_
    refine mm_geti C fl_X7_22 (mm_dec dk_X7_emit 12 rfl) rfl rfl (Or.inl rfl) ?_
    refine mm_iconst C (mm_dec dk_X7_emit 13 rfl) ⟨by decide, by decide⟩ ?_
    refine mm_iadd C (mm_dec dk_X7_emit 14 rfl) ⟨by omega, by omega⟩ ?_
    refine mm_puti C fl_X7_22 (mm_dec dk_X7_emit 15 rfl) rfl rfl rfl (Or.inl ⟨rfl, rfl⟩) ?_
    have i2 : mm_inv (mm_pf h1 63 4 ((h1.1 63 4) + 1)) := mm_inv_pf i1 (show 0 ≤ ((h1.1 63 4) + 1) ∧ ((h1.1 63 4) + 1) ≤ 500 from ⟨by omega, by omega⟩) (by decide)
    have f2 : mm_fr [(63, 4)] [64] h (mm_pf h1 63 4 ((h1.1 63 4) + 1)) := mm_fr_pf f1 (by decide)
    obtain ⟨h2, eh2⟩ : ∃ z, z = mm_pf h1 63 4 ((h1.1 63 4) + 1) := ⟨_, rfl⟩
    rw [← eh2] at i2 f2 ⊢
    have qh2 : h2.1 63 4 = ((h1.1 63 4) + 1) := by rw [eh2]; exact mm_pf_same _ _ _ _
    refine mm_fgt 0 ?_
    refine mm_fgt 1 ?_
    exact J30 h2 i2 f2 (by first | exact ⟨fun q => absurd q (by omega), rfl⟩ | exact mm_e1j_of (mm_up_pa (fun _ => rfl) eh1 (fun j => mm_sm_pf 64 eh2 j) rfl rfl) (by omega) (f2.1 63 7 (by decide)))
set_option maxRecDepth 100000 in
set_option maxHeartbeats 4000000 in
theorem c_X7_readOr_q6 (l : Launch) (hl : l.stackTraces = false) (d : Nat) (hd : 1 ≤ d) (h : mH) (i0 : mm_inv h) (p1 : Int) (bp1 : 6 ≤ p1 ∧ p1 ≤ 6) (t0 : mm_aX h) : mm_Met l d yX7_readOr cX7_readOr 3 (some .boolean) [mR 63, mI p1] h (mm_pi fun r h2 => (0 ≤ r ∧ r ≤ 0) ∧ mm_inv h2 ∧ mm_fr [(63, 9), (63, 10)] [] h h2 ∧ (r = 0 ∧ mm_d7 h h2)) mm_nx 0 0 := by
  refine mm_ofW (ls := [mR 63, mI p1, mU]) hl (by decide) rfl (Nat.le_of_ble_eq_true rfl) ?_
  intro x hxl C T hnm htb
  subst hxl
  have C1 := mm_OK_le (d' := d - 1 + 1) (by omega) C
  refine mm_rng (fun hr _ => ?_)
  have ap1 : -2147483648 ≤ p1 ∧ p1 < 2147483648 := mm_ok_at hr (i := 1) rfl
  have f0 : mm_fr [(63, 9), (63, 10)] [] h h := mm_fr_rf
  have g1 : -2147483648 ≤ h.1 63 5 ∧ h.1 63 5 ≤ 2147483647 := i0.1 63 5
  have g2 : 0 ≤ h.1 63 7 ∧ h.1 63 7 ≤ 500 := i0.1 63 7
  have g3 : 0 ≤ h.1 63 8 ∧ h.1 63 8 ≤ 500 := i0.1 63 8
  have g4 : 0 ≤ h.1 63 3 ∧ h.1 63 3 ≤ 500 := i0.1 63 3
  have g5 : -2147483648 ≤ h.1 63 6 ∧ h.1 63 6 ≤ 2147483647 := i0.1 63 6
  have g6 : -2147483648 ≤ h.1 63 9 ∧ h.1 63 9 ≤ 2147483647 := i0.1 63 9
  have g7 : -2147483648 ≤ h.1 63 10 ∧ h.1 63 10 ≤ 2147483647 := i0.1 63 10
  have tf := mm_cX_h i0 t0
  have tr := mm_cX_r i0 t0
  refine mm_iload_n C (mm_dec dk_X7_readOr 0 rfl) rfl ?_
  refine mm_bipush C (mm_dec dk_X7_readOr 1 rfl) ⟨by decide, by decide⟩ ?_
  refine mm_icmp_lt (tgt := 41) C (mm_dec dk_X7_readOr 2 rfl) (by decide) (fun c3 => ?_) (fun c3 => ?_)
  · skip
    exfalso; omega
  · skip
    refine mm_aload_n C (mm_dec dk_X7_readOr 3 rfl) rfl ?_
    refine mm_aload_n C (mm_dec dk_X7_readOr 4 rfl) rfl ?_
    refine mm_geti C fl_X7_25 (mm_dec dk_X7_readOr 5 rfl) rfl rfl (Or.inl rfl) ?_
    refine mm_iconst C (mm_dec dk_X7_readOr 6 rfl) ⟨by decide, by decide⟩ ?_
    have J37 : ∀ (s37_1 : Int) (bs37_1 : 1 ≤ s37_1 ∧ s37_1 ≤ 2) (w37_0 : ((s37_1 = 2 ∧ (mm_cX h ≤ 19 ∨ mm_cX h = 140)) ∨ (s37_1 = 1 ∧ ¬ (mm_cX h ≤ 19 ∨ mm_cX h = 140)))) (vs37_1 : ((h.1 63 5) ≠ 2 ∧ (h.1 63 5) ≠ 3 ∧ s37_1 = 1) ∨ (s37_1 = 2)), mm_W x 0 0 37 [mU, mU, mU] [mI s37_1, mR 63] h := by
      intro s37_1 bs37_1 w37_0 vs37_1
      have g8 : -2147483648 ≤ h.1 63 5 ∧ h.1 63 5 ≤ 2147483647 := i0.1 63 5
      have g9 : 0 ≤ h.1 63 7 ∧ h.1 63 7 ≤ 500 := i0.1 63 7
      have g10 : 0 ≤ h.1 63 8 ∧ h.1 63 8 ≤ 500 := i0.1 63 8
      have g11 : 0 ≤ h.1 63 3 ∧ h.1 63 3 ≤ 500 := i0.1 63 3
      have g12 : -2147483648 ≤ h.1 63 6 ∧ h.1 63 6 ≤ 2147483647 := i0.1 63 6
      have g13 : -2147483648 ≤ h.1 63 9 ∧ h.1 63 9 ≤ 2147483647 := i0.1 63 9
      have g14 : -2147483648 ≤ h.1 63 10 ∧ h.1 63 10 ≤ 2147483647 := i0.1 63 10
      refine mm_cVi (rest := []) C1 ev_X7_65 (mm_dec dk_X7_readOr 19 rfl) (c_X7_refuse_q x.2.1 hl (d - 1) (by omega) h i0 s37_1) rfl rfl (Nat.le_of_ble_eq_true rfl) ⟨by decide, by decide⟩ rfl (fun r37 h37c hp37 => ?_) (fun _ _ q => q.elim)
      obtain ⟨b37, i37c, g37c, y37_0, y37_1⟩ := hp37
      have f37c : mm_fr [(63, 9), (63, 10)] [] h h37c := mm_fr_tr f0 g37c (by decide +kernel)
      have q37c_16 : h37c.1 63 3 = h.1 63 3 := g37c.1 63 3 (by decide)
      have q37c_17 : h37c.1 63 5 = h.1 63 5 := g37c.1 63 5 (by decide)
      have q37c_18 : h37c.1 63 6 = h.1 63 6 := g37c.1 63 6 (by decide)
      have q37c_19 : h37c.1 63 7 = h.1 63 7 := g37c.1 63 7 (by decide)
      have q37c_20 : h37c.1 63 8 = h.1 63 8 := g37c.1 63 8 (by decide)
      have g21 : -2147483648 ≤ (h37c.1 63 9) ∧ (h37c.1 63 9) ≤ 2147483647 := i37c.1 63 9
      have g22 : -2147483648 ≤ (h37c.1 63 10) ∧ (h37c.1 63 10) ≤ 2147483647 := i37c.1 63 10
      exact mm_zret C T (mm_dec dk_X7_readOr 20 rfl) (by decide : 0 ≤ 0) (by decide : 0 ≤ 0) (by omega) ⟨_, rfl, ⟨⟨by omega, by omega⟩, i37c, f37c, by exact ⟨by omega, mm_d7_1 y37_1 (by rcases w37_0 with ⟨q, w⟩ | ⟨q, w⟩; exact Or.inl ⟨by omega, w⟩; exact Or.inr ⟨by omega, w⟩)⟩⟩⟩
    have J32 : ∀ (w32_0 : (mm_cX h ≤ 19 ∨ mm_cX h = 140)), mm_W x 0 0 32 [mU, mU, mU] [mR 63] h := by
      intro w32_0
      have g23 : -2147483648 ≤ h.1 63 5 ∧ h.1 63 5 ≤ 2147483647 := i0.1 63 5
      have g24 : 0 ≤ h.1 63 7 ∧ h.1 63 7 ≤ 500 := i0.1 63 7
      have g25 : 0 ≤ h.1 63 8 ∧ h.1 63 8 ≤ 500 := i0.1 63 8
      have g26 : 0 ≤ h.1 63 3 ∧ h.1 63 3 ≤ 500 := i0.1 63 3
      have g27 : -2147483648 ≤ h.1 63 6 ∧ h.1 63 6 ≤ 2147483647 := i0.1 63 6
      have g28 : -2147483648 ≤ h.1 63 9 ∧ h.1 63 9 ≤ 2147483647 := i0.1 63 9
      have g29 : -2147483648 ≤ h.1 63 10 ∧ h.1 63 10 ≤ 2147483647 := i0.1 63 10
      refine mm_iconst C (mm_dec dk_X7_readOr 16 rfl) ⟨by decide, by decide⟩ ?_
      refine mm_goto (tgt := 37) C (mm_dec dk_X7_readOr 17 rfl) (by decide) ?_
      exact J37 2 ⟨by omega, by omega⟩ (by have zz := mm_hdx tf; omega) (Or.inr (rfl))
    refine mm_icmp_eq (tgt := 32) C (mm_dec dk_X7_readOr 7 rfl) (by decide) (fun c12 => ?_) (fun c12 => ?_)
    · skip
      refine mm_fgt 0 ?_
      refine mm_fgt 1 ?_
      exact J32 (by have zz := mm_hdx tf; omega)
    · skip
      refine mm_aload_n C (mm_dec dk_X7_readOr 8 rfl) rfl ?_
      refine mm_geti C fl_X7_25 (mm_dec dk_X7_readOr 9 rfl) rfl rfl (Or.inl rfl) ?_
      refine mm_iconst C (mm_dec dk_X7_readOr 10 rfl) ⟨by decide, by decide⟩ ?_
      refine mm_icmp_eq (tgt := 32) C (mm_dec dk_X7_readOr 11 rfl) (by decide) (fun c20 => ?_) (fun c20 => ?_)
      · skip
        refine mm_fgt 0 ?_
        refine mm_fgt 1 ?_
        exact J32 (by have zz := mm_hdx tf; omega)
      · skip
        refine mm_aload_n C (mm_dec dk_X7_readOr 12 rfl) rfl ?_
        refine mm_bipush C (mm_dec dk_X7_readOr 13 rfl) ⟨by decide, by decide⟩ ?_
        refine mm_cVi (rest := [mR 63]) C1 ev_X7_96 (mm_dec dk_X7_readOr 14 rfl) (c_X7_isSign x.2.1 hl (d - 1) (by omega) h i0 40 (by omega)) rfl rfl (Nat.le_of_ble_eq_true rfl) ⟨by decide, by decide⟩ rfl (fun r26 h26c hp26 => ?_) (fun _ _ q => q.elim)
        obtain ⟨z26, y26⟩ := hp26
        rw [z26]
        have g31 : -2147483648 ≤ (h.2.1 62 (h.1 63 7)) ∧ (h.2.1 62 (h.1 63 7)) ≤ 2147483647 := i0.2.1 62 (h.1 63 7)
        refine mm_if_eq (tgt := 36) C (mm_dec dk_X7_readOr 15 rfl) (by decide) (fun c29 => ?_) (fun c29 => ?_)
        · skip
          refine mm_iconst C (mm_dec dk_X7_readOr 18 rfl) ⟨by decide, by decide⟩ ?_
          refine mm_fgt 0 ?_
          refine mm_fgt 1 ?_
          exact J37 1 ⟨by omega, by omega⟩ (by have zz := mm_hdx tf; omega) (Or.inl ⟨by omega, by omega, rfl⟩)
        · skip
          refine mm_fgt 0 ?_
          refine mm_fgt 1 ?_
          exact J32 (by have zz := mm_hdx tf; omega)
