/-! ===== the start ===== -/
def mm_h0 : mH := (fun o k => if (mm_bG o k).1 ≤ 0 then 0 else (mm_bG o k).1, fun _ _ => 0, 0)
theorem mm_bf_ok : mm_bf.all (fun r => r.all (fun q => decide (q.1 ≤ q.2) && (decide (0 ≤ q.2) && decide (q.1 ≤ 1000)))) = true := by decide +kernel
theorem mm_ba_ok : mm_ba.all (fun q => decide (q.1 ≤ 0) && decide (0 ≤ q.2)) = true := by decide +kernel
theorem mm_bG_rg (o k : Nat) : (mm_bG o k).1 ≤ (mm_bG o k).2 ∧ 0 ≤ (mm_bG o k).2 ∧ (mm_bG o k).1 ≤ 1000 := by
  cases hc9 : mm_z0.contains (o, k)
  case true => rw [mm_bG_in hc9]; decide
  cases hc8 : mm_z1.contains (o, k)
  case true => rw [mm_bG_in1 hc9 hc8]; decide
  rw [mm_bG_out hc9 hc8]
  · unfold mm_bF
    split
    · decide
    · rw [List.getD_eq_getElem?_getD]
      cases hk : (mm_bf.getD o [])[k]? with
      | none => decide
      | some q =>
        show q.1 ≤ q.2 ∧ 0 ≤ q.2 ∧ q.1 ≤ 1000
        have hm : q ∈ mm_bf.getD o [] := List.mem_of_getElem? hk
        rw [List.getD_eq_getElem?_getD] at hm
        cases ho : mm_bf[o]? with
        | none => rw [ho] at hm; exact absurd hm List.not_mem_nil
        | some r =>
          rw [ho] at hm
          have h1 := List.all_eq_true.mp mm_bf_ok r (List.mem_of_getElem? ho)
          have h2 := List.all_eq_true.mp h1 q hm
          simpa using h2
theorem mm_bA_0 (o : Nat) : (mm_bA o).1 ≤ 0 ∧ 0 ≤ (mm_bA o).2 := by
  unfold mm_bA
  rw [List.getD_eq_getElem?_getD]
  cases ho : mm_ba[o]? with
  | none => decide
  | some q =>
    have h2 := List.all_eq_true.mp mm_ba_ok q (List.mem_of_getElem? ho)
    simpa using h2
theorem mm_h0_rgv (o k : Nat) : 0 ≤ mm_h0.1 o k ∧ mm_h0.1 o k ≤ 1000 := by
  have h := mm_bG_rg o k
  show 0 ≤ (if (mm_bG o k).1 ≤ 0 then 0 else (mm_bG o k).1) ∧ (if (mm_bG o k).1 ≤ 0 then 0 else (mm_bG o k).1) ≤ 1000
  split <;> omega
theorem mm_h0_inp : mm_inp [] 0 mm_h0 := by
  refine ⟨fun o k => ?_, fun o j => mm_bA_0 o, rfl⟩
  have h := mm_bG_rg o k
  show (mm_bG o k).1 ≤ (if (mm_bG o k).1 ≤ 0 then 0 else (mm_bG o k).1) ∧ (if (mm_bG o k).1 ≤ 0 then 0 else (mm_bG o k).1) ≤ (mm_bG o k).2
  split <;> omega
theorem mm_h0_rg : mm_rg mm_h0 := by
  refine ⟨fun o k => ?_, fun o k _ => ?_, fun o j _ => mm_0, fun o j => (show mm_i64 0 from ⟨by decide, by decide⟩), fun o k t h => absurd h (Nat.not_lt_zero _)⟩
  · have h := mm_h0_rgv o k
    exact ⟨by omega, by omega⟩
  · have h := mm_h0_rgv o k
    exact ⟨by omega, by omega⟩
set_option maxRecDepth 100000 in
set_option maxHeartbeats 4000000 in
theorem lw_begin {x : mX} {L : Nat} {xs : Nat → Int32} (C : mm_OK 60 601024 7293034 code RL 8 ret x) (X : mm_scr x L xs) (hl : x.2.1.stackTraces = false) (hL : L ≤ 3072) (E : ∀ (a b : Nat) (ls : List mV) (h : mH), a ≤ 601024 → b ≤ 7293034 → mm_W x a b 1674 ls [] h) : mm_W x 0 0 0 [mR 3000, mU, mU, mU, mU, mU, mU, mU] [] mm_h0 := by
  refine mm_new (n := 0) C mm_cl_11 ck_L_8 ci_11 cn_11 (mm_dec dk_law0 0 rfl) rfl (by decide) rfl (mm_df_11 _ rfl) (by decide) (by decide) ?_
  have i1 : mm_inp [(0, 0), (0, 1), (0, 2), (0, 3), (0, 4), (0, 5), (0, 6), (0, 7), (0, 8), (0, 9), (0, 10), (0, 11)] 1 (mm_nw mm_h0) := mm_inp_nw mm_h0_inp (by decide) rfl (by decide +kernel) (by decide +kernel)
  obtain ⟨h1, e1⟩ : ∃ z, z = mm_nw mm_h0 := ⟨_, rfl⟩
  rw [← e1] at i1 ⊢
  refine mm_dup C (mm_dec dk_law0 1 rfl) (show (2 : Nat) ≠ 1 by decide) ?_
  refine mm_callI (d := 59) (rest := [mR 0]) C mw_X11_init ml_L_105 im_X11_init rfl (c_X11_init x.2.1 hl 59 (by decide) h1 i1) (mm_dec dk_law0 2 rfl) rfl (Nat.le_of_ble_eq_true rfl) ⟨by decide, by decide⟩ rfl (fun v4 h4 hp4 => ?_)
  obtain ⟨rfl, i4, a4, b4, c3_4, c4_4, c5_4, d8_4, u14_4, r4_0, r4_1, r4_2⟩ := hp4
  show mm_W _ _ _ _ _ [mR 0] _
  refine mm_astore_nL (ls2 := [mR 3000, mR 0, mU, mU, mU, mU, mU, mU]) C (mm_dec dk_law0 3 rfl) (by decide) rfl ?_
  refine mm_new (n := 66) C mm_cl_12 ck_L_106 ci_12 cn_12 (mm_dec dk_law0 4 rfl) i4.2.2 (by decide) rfl (mm_df_12 _ rfl) (by decide) (by decide) ?_
  have i8 : mm_inp [(66, 1), (66, 2), (66, 4), (66, 5), (66, 6), (66, 7), (66, 8), (66, 13), (66, 14), (66, 15), (66, 16), (66, 17), (66, 20), (66, 25), (66, 26), (66, 27), (66, 28), (66, 29), (66, 30), (66, 31), (66, 32), (66, 33), (66, 34), (66, 35), (66, 36), (66, 37), (66, 38), (66, 42), (66, 43), (66, 44), (66, 45), (66, 46), (66, 47), (66, 49), (66, 50), (66, 51), (66, 55), (66, 72), (66, 73), (66, 74), (66, 75), (66, 76), (66, 77), (66, 78), (66, 79), (66, 80), (66, 81), (66, 83), (66, 84), (66, 85), (66, 86), (66, 90), (66, 92), (66, 93), (66, 94), (66, 98), (66, 99), (66, 100), (66, 101)] 67 (mm_nw h4) := mm_inp_nw i4 (by decide) rfl (by decide +kernel) (by decide +kernel)
  have a8 := mm_al_nw a4 i4 (by decide)
  have b8 := mm_al_nw b4 i4 (by decide)
  have c3_8 := mm_al_nw c3_4 i4 (by decide)
  have c4_8 := mm_al_nw c4_4 i4 (by decide)
  have c5_8 := mm_al_nw c5_4 i4 (by decide)
  have d8_8 := mm_va_nw d8_4 i4 (by decide)
  have u14_8 := mm_fi_nw u14_4 i4 (by decide)
  have r8_0 := mm_va_nw r4_0 i4 (by decide)
  have r8_1 := mm_va_nw r4_1 i4 (by decide)
  have r8_2 := mm_va_nw r4_2 i4 (by decide)
  obtain ⟨h8, e8⟩ : ∃ z, z = mm_nw h4 := ⟨_, rfl⟩
  rw [← e8] at i8 a8 b8 c3_8 c4_8 c5_8 d8_8 u14_8 r8_0 r8_1 r8_2 ⊢
  refine mm_dup C (mm_dec dk_law0 5 rfl) (show (2 : Nat) ≠ 1 by decide) ?_
  refine mm_callI (d := 59) (rest := [mR 66]) C mw_X12_init ml_L_108 im_X12_init rfl (c_X12_init x.2.1 hl 59 (by decide) h8 i8) (mm_dec dk_law0 6 rfl) rfl (Nat.le_of_ble_eq_true rfl) ⟨by decide, by decide⟩ rfl (fun v12 h12 hp12 => ?_)
  obtain ⟨rfl, i12, y12, k12, c12, d12, e3_12, e4_12, e5_12, z3_12, l12, v58_12⟩ := hp12
  show mm_W _ _ _ _ _ [mR 66] _
  refine mm_astore_nL (ls2 := [mR 3000, mR 0, mR 66, mU, mU, mU, mU, mU]) C (mm_dec dk_law0 7 rfl) (by decide) rfl ?_
  refine mm_iconst C (mm_dec dk_law0 8 rfl) ⟨by decide, by decide⟩ ?_
  refine mm_newa (atype := .long) (n := 124) (len := 1) C ac_long (mm_dec dk_law0 9 rfl) i12.2.2 (by decide) rfl (Or.inr (Or.inr ⟨rfl, rfl⟩)) rfl (by decide) (by decide) (by decide) ?_
  have i17 : mm_inp [] 125 (mm_nw h12) := mm_inp_nw i12 (by decide) rfl (by decide +kernel) (by decide +kernel)
  have y17 : (mm_nw h12).1 66 67 = 0 := by
    show (if 66 = h12.2.2 then 0 else h12.1 66 67) = 0
    split
    · rfl
    · exact y12
  have a17 := mm_al_nw (mm_al_ke a8 k12 (by decide)) i12 (by decide)
  have b17 := mm_al_nw (mm_al_ke b8 k12 (by decide)) i12 (by decide)
  have c3_17 := mm_al_nw (mm_al_ke c3_8 k12 (by decide)) i12 (by decide)
  have e3_17 := mm_al_nw e3_12 i12 (by decide)
  have c4_17 := mm_al_nw (mm_al_ke c4_8 k12 (by decide)) i12 (by decide)
  have e4_17 := mm_al_nw e4_12 i12 (by decide)
  have c5_17 := mm_al_nw (mm_al_ke c5_8 k12 (by decide)) i12 (by decide)
  have e5_17 := mm_al_nw e5_12 i12 (by decide)
  have d8_17 := mm_va_nw ((k12 6 (by decide) 8).trans d8_8) i12 (by decide)
  have z3_17 := mm_fi_nw z3_12 i12 (by decide)
  have u14_17 := mm_fi_nw ((l12 14).trans u14_8) i12 (by decide)
  have v58_17 := mm_fi_nw v58_12 i12 (by decide)
  have r17_0 := mm_va_nw ((k12 44 (by decide) 0).trans r8_0) i12 (by decide)
  have r17_1 := mm_va_nw ((k12 44 (by decide) 1).trans r8_1) i12 (by decide)
  have r17_2 := mm_va_nw ((k12 44 (by decide) 2).trans r8_2) i12 (by decide)
  have c17 := mm_al_nw c12 i12 (by decide)
  have d17 := mm_al_nw d12 i12 (by decide)
  obtain ⟨h17, e17⟩ : ∃ z, z = mm_nw h12 := ⟨_, rfl⟩
  rw [← e17] at i17 y17 a17 b17 c17 d17 c3_17 e3_17 c4_17 e4_17 c5_17 e5_17 d8_17 z3_17 u14_17 v58_17 r17_0 r17_1 r17_2 ⊢
  refine mm_astore_nL (ls2 := [mR 3000, mR 0, mR 66, mR 124, mU, mU, mU, mU]) C (mm_dec dk_law0 10 rfl) (by decide) rfl ?_
  refine mm_iconst C (mm_dec dk_law0 11 rfl) ⟨by decide, by decide⟩ ?_
  refine mm_istoreL (ls2 := mm_lls 0) C (mm_dec dk_law0 12 rfl) (by decide) rfl ?_
  have ea : mm_aA 0 h17 = 200 + (0 : Int).toNat + (mm_zf h17).1 := rfl
  have eb : mm_bB 0 h17 = 90000 + 6 * (0 : Int).toNat + (mm_zf h17).2 := rfl
  refine mm_widen (k := mm_aA 0 h17) (n := mm_bB 0 h17) (by rw [ea]; omega) (by rw [eb]; omega) ?_
  exact lw_loop C X hl hL E (L + 1) 0 h17 (by omega) (by omega) (by omega) (mm_inp_inv i17) (Or.inl y17) (by unfold mm_Rl; exact ⟨(mm_inp_z1 i17 (by decide) (by decide)).trans (mm_inp_z1 i17 (by decide) (by decide)).symm, (mm_inp_z1 i17 (by decide) (by decide)).trans (mm_inp_z1 i17 (by decide) (by decide)).symm, (mm_inp_z0 i17 (by decide)).trans (mm_inp_z0 i17 (by decide)).symm, (mm_inp_z0 i17 (by decide)).trans (mm_inp_z0 i17 (by decide)).symm, (mm_inp_z0 i17 (by decide)).trans (mm_inp_z0 i17 (by decide)).symm, (mm_inp_z0 i17 (by decide)).trans (mm_inp_z0 i17 (by decide)).symm, (mm_inp_z0 i17 (by decide)).trans (mm_inp_z0 i17 (by decide)).symm, u14_17.trans v58_17.symm, (mm_inp_z0 i17 (by decide)).trans (mm_inp_z0 i17 (by decide)).symm, (mm_inp_z0 i17 (by decide)).trans (mm_inp_z0 i17 (by decide)).symm, (mm_inp_z0 i17 (by decide)).trans (mm_inp_z0 i17 (by decide)).symm, (by have z9 := mm_inp_z0 i17 (o := 66) (k := 91) (by decide); omega), (by have z9 := mm_inp_z0 i17 (o := 66) (k := 91) (by decide); omega), mm_eq_const a17 c17, mm_eq_const b17 d17, mm_eq_nil (by have z9 := mm_inp_z0 i17 (o := 14) (k := 7) (by decide); omega), mm_eq_nil (by have z9 := mm_inp_z0 i17 (o := 14) (k := 8) (by decide); omega), mm_eq_nil (by have z9 := mm_inp_z0 i17 (o := 14) (k := 8) (by decide); omega), mm_eq_nil (by have z9 := mm_inp_z0 i17 (o := 14) (k := 8) (by decide); omega), mm_tk_nil (mm_inp_z0 i17 (by decide)), mm_cb_nil (mm_inp_z0 i17 (by decide)), mm_fb_nil (mm_inp_z0 i17 (by decide)), mm_eq_const c3_17 e3_17, mm_eq_const c4_17 e4_17, mm_eq_const c5_17 e5_17, mm_eq_nil (by have z9 := mm_inp_z0 i17 (o := 0) (k := 12) (by decide); omega), (by unfold mm_go; have z7 := mm_inp_z0 i17 (o := 1) (k := 7) (by decide); have z10 := mm_inp_z0 i17 (o := 66) (k := 10) (by decide); have z9 := mm_inp_z0 i17 (o := 66) (k := 9) (by decide); have w5 := mm_inp_z1 i17 (o := 1) (k := 5) (by decide) (by decide); have w6 := mm_inp_z1 i17 (o := 1) (k := 6) (by decide) (by decide); omega), mm_eq_nil (by have z9 := mm_inp_z0 i17 (o := 22) (k := 8) (by decide); omega), mm_eq_nil (by have z9 := mm_inp_z0 i17 (o := 22) (k := 8) (by decide); omega), mm_it_nil (mm_inp_z0 i17 (by decide)), mm_br_nil (mm_inp_z0 i17 (by decide)), (by unfold mm_gn; have z7 := mm_inp_z0 i17 (o := 1) (k := 8) (by decide); have z10 := mm_inp_z0 i17 (o := 66) (k := 11) (by decide); have z9 := mm_inp_z0 i17 (o := 66) (k := 12) (by decide); have w5 := mm_inp_z1 i17 (o := 1) (k := 5) (by decide) (by decide); have w6 := mm_inp_z1 i17 (o := 1) (k := 6) (by decide) (by decide); omega), mm_pc_nil (mm_inp_z0 i17 (by decide)), mm_bv_nil (mm_inp_z0 i17 (by decide)), mm_eq_nil (by have z9 := mm_inp_z0 i17 (o := 30) (k := 6) (by decide); omega), mm_eq_nil (by have z9 := mm_inp_z0 i17 (o := 30) (k := 6) (by decide); omega), mm_eq_nil (by have z9 := mm_inp_z0 i17 (o := 30) (k := 6) (by decide); omega), mm_eq_nil (by have z9 := mm_inp_z0 i17 (o := 30) (k := 6) (by decide); omega), mm_eq_nil (by have z9 := mm_inp_z0 i17 (o := 30) (k := 12) (by decide); omega), mm_eq_nil (by have z9 := mm_inp_z0 i17 (o := 22) (k := 8) (by decide); omega), mm_ah_nil (mm_inp_z0 i17 (by decide)), mm_pw9_nil r17_0 r17_1 r17_2 y17, mm_eq_nil (by have z9 := mm_inp_z0 i17 (o := 30) (k := 6) (by decide); omega), mm_ep8_nil (mm_inp_z0 i17 (by decide)), mm_ab8_nil (mm_inp_z0 i17 (by decide)), mm_eq_nil (by have z9 := mm_inp_z0 i17 (o := 14) (k := 7) (by decide); omega), mm_cJ_nil (by have z9 := mm_inp_z0 i17 (o := 42) (k := 3) (by decide); omega) y17, mm_pt9_nil (by have z9 := mm_inp_z0 i17 (o := 30) (k := 12) (by decide); omega) (by have z9 := mm_inp_z0 i17 (o := 30) (k := 13) (by decide); omega) (by have z9 := mm_inp_z0 i17 (o := 66) (k := 91) (by decide); omega), mm_tm9_nil (by have z9 := mm_inp_z0 i17 (o := 22) (k := 9) (by decide); omega)⟩)
theorem lw_end {p : Program} {l : Launch} {e : Env} {s : State} {m : MethodId} {below : List Frame} {meth : Method} {c : Code} {b : Nat} {G : mG} {ad0 : Nat → Nat} (C : mm_OK 60 601024 7293034 code RL 8 ret (p, l, e, room_1, s, m, #[Value.ref b], below, meth, c, G, ad0, (fun q : Nat => s.heap.size ≤ q), 0, lw_Z below #[Value.ref b] s)) (a b' : Nat) (ls : List mV) (h : mH) (ha : a ≤ 601024) (hb : b' ≤ 7293034) : mm_W (p, l, e, room_1, s, m, #[Value.ref b], below, meth, c, G, ad0, (fun q : Nat => s.heap.size ≤ q), 0, lw_Z below #[Value.ref b] s) a b' 1674 ls [] h := by
  refine mm_iconst C (mm_dec dk_law18 8 rfl) ⟨by decide, by decide⟩ ?_
  intro ad H locs jl h3 h4 h5 h6
  refine W.widen ha hb (va_forget (fun q hq => h3.2.2.2.1.2.2 q hq) ?_)
  exact lw_ret C.1 C.2.1 C.2.2.2.2.2.2.2.2.2.2.1 C.2.2.2.2.2.2.2.1 (mm_dec dk_law18 9 rfl)
set_option maxRecDepth 100000 in
set_option maxHeartbeats 4000000 in
theorem whole_start {p : Program} {e : Env} {s : State} {m : MethodId} {below : List Frame} {meth : Method} {c : Code} (l : Launch) (hl : l.stackTraces = false) {b L : Nat} {xs : Nat → Int32} (hL : L ≤ 3072) (C0 : lw_At p s m meth c b L xs) : W p l e room_1 s m #[Value.ref b] below meth c s.heap [] 0 0 (lw_Z below #[Value.ref b] s) (entryFrame m ([Value.ref b] : List Value).toArray 8) := by
  obtain ⟨hx, hb, hr, hml, hown, hts, hX, hbl, hlocks, hgv⟩ := C0
  have hs : ∀ w ∈ nn_fl, w.before #[Value.ref b] s = true := flat_of_before _ hgv
  have hT : ∀ w ∈ mm_T, w.before #[Value.ref b] s = true := fun w hw => hts w (List.mem_filter.mp hw).1
  have hA : ∀ a : Nat, a < s.heap.size → ¬ (fun q : Nat => s.heap.size ≤ q) a := fun a ha => Nat.not_le.mpr ha
  have hcl : ∀ k : Nat, ∃ z : ClassId × (Nat → Nat), ∀ q : vw_C, vwCl[k]? = some q → u_Kn s q.1 q.2.1 q.2.2 z.1 z.2 := by
    intro k
    match k with
    | 0 => obtain ⟨c0, s0, h0⟩ := u_known (n := 11) hT mm_cl_0.2.1 (hT _ ci_0); exact ⟨(c0, s0), fun q hq => by cases hq; exact h0⟩
    | 1 => obtain ⟨c0, s0, h0⟩ := u_known (n := 10) hT mm_cl_1.2.1 (hT _ ci_1); exact ⟨(c0, s0), fun q hq => by cases hq; exact h0⟩
    | 2 => obtain ⟨c0, s0, h0⟩ := u_known (n := 9) hT mm_cl_2.2.1 (hT _ ci_2); exact ⟨(c0, s0), fun q hq => by cases hq; exact h0⟩
    | 3 => obtain ⟨c0, s0, h0⟩ := u_known (n := 6) hT mm_cl_3.2.1 (hT _ ci_3); exact ⟨(c0, s0), fun q hq => by cases hq; exact h0⟩
    | 4 => obtain ⟨c0, s0, h0⟩ := u_known (n := 12) hT mm_cl_4.2.1 (hT _ ci_4); exact ⟨(c0, s0), fun q hq => by cases hq; exact h0⟩
    | 5 => obtain ⟨c0, s0, h0⟩ := u_known (n := 9) hT mm_cl_5.2.1 (hT _ ci_5); exact ⟨(c0, s0), fun q hq => by cases hq; exact h0⟩
    | 6 => obtain ⟨c0, s0, h0⟩ := u_known (n := 14) hT mm_cl_6.2.1 (hT _ ci_6); exact ⟨(c0, s0), fun q hq => by cases hq; exact h0⟩
    | 7 => obtain ⟨c0, s0, h0⟩ := u_known (n := 11) hT mm_cl_7.2.1 (hT _ ci_7); exact ⟨(c0, s0), fun q hq => by cases hq; exact h0⟩
    | 8 => obtain ⟨c0, s0, h0⟩ := u_known (n := 7) hT mm_cl_8.2.1 (hT _ ci_8); exact ⟨(c0, s0), fun q hq => by cases hq; exact h0⟩
    | 9 => obtain ⟨c0, s0, h0⟩ := u_known (n := 10) hT mm_cl_9.2.1 (hT _ ci_9); exact ⟨(c0, s0), fun q hq => by cases hq; exact h0⟩
    | 10 => obtain ⟨c0, s0, h0⟩ := u_known (n := 12) hT mm_cl_10.2.1 (hT _ ci_10); exact ⟨(c0, s0), fun q hq => by cases hq; exact h0⟩
    | 11 => obtain ⟨c0, s0, h0⟩ := u_known (n := 15) hT mm_cl_11.2.1 (hT _ ci_11); exact ⟨(c0, s0), fun q hq => by cases hq; exact h0⟩
    | 12 => obtain ⟨c0, s0, h0⟩ := u_known (n := 102) hT mm_cl_12.2.1 (hT _ ci_12); exact ⟨(c0, s0), fun q hq => by cases hq; exact h0⟩
    | k + 13 => obtain ⟨c0, s0, h0⟩ := u_known (n := 11) hT mm_cl_0.2.1 (hT _ ci_0); exact ⟨(c0, s0), fun q hq => absurd hq (by simp [vwCl])⟩
  obtain ⟨dd, hdd⟩ := Classical.axiomOfChoice hcl
  obtain ⟨cI, kI, pI, a1, a2, a3⟩ := Cond.arrayClass_spec (hT _ ac_int)
  obtain ⟨cB, kB, pB, b1, b2, b3⟩ := Cond.arrayClass_spec (hT _ ac_boolean)
  obtain ⟨cJ, kJ, pJ, j1, j2, j3⟩ := Cond.arrayClass_spec (hT _ ac_long)
  obtain ⟨G, hG⟩ : ∃ G : mG, G = (fun k => (dd k).1, fun k => (dd k).2, cI, cB, cJ) := ⟨_, rfl⟩
  have hK : va_K (G.1, G.2.1) vwCl (mm_tys G) s := by
    subst hG
    refine ⟨fun k q hq => hdd k q hq, fun k q hq => ?_⟩
    match k, hq with
    | 0, hq => cases hq; exact ⟨fun n z => ⟨fun k h => (by cases h), kI, a2, pI, a3⟩, a1⟩
    | 1, hq => cases hq; exact ⟨fun n z => ⟨fun k h => (by cases h), kB, b2, pB, b3⟩, b1⟩
    | 2, hq => cases hq; exact ⟨fun n z => ⟨fun k h => (by cases h), kJ, j2, pJ, j3⟩, j1⟩
    | k + 3, hq => exact absurd hq (by simp [mm_tys])
  have hstr : ∀ i : Nat, ∃ a : Nat, ∀ q : String × Nat × String, mm_str[i]? = some q → vk_R q.1 q.2.1 q.2.2 a s := by
    intro i
    cases hi : mm_str[i]? with
    | none => exact ⟨0, fun q hq => by cases hq⟩
    | some q =>
      obtain ⟨a, c9, cA, kA, q1, -⟩ := Cond.exactly_spec (args := #[Value.ref b]) (first := s) (o := none) (s := s) (idx := []) (t := .string q.1 q.2.1) (cls := "java/lang/String") (hs _ (of_decide_eq_true (List.all_eq_true.mp nn_exact q (List.mem_of_getElem? hi))))
      exact ⟨a, fun q' hq' => by cases hq'; exact vk_R.of (hts _ (nr_all i q hi)) q1⟩
  obtain ⟨fs, hfs⟩ := Classical.axiomOfChoice hstr
  have hex : (Cond.exactly (.string "MapRun$Reader" 138) "java/lang/String").before #[Value.ref b] s = true := hs _ (of_decide_eq_true (List.all_eq_true.mp nn_exact ("MapRun$Reader", 138, _) (List.mem_of_getElem? (i := 15) rfl)))
  obtain ⟨adK, adV, hVS, hVe⟩ := vk_Sof (args := #[Value.ref b]) (s := s) (N := 1) (tm := fun _ => .string "MapRun$Reader" 138) (len := [mm_words.length]) (byt := [mm_words]) (A := fun q : Nat => s.heap.size ≤ q)
    (fun i hi => by rw [show i = 0 by omega]; decide) (fun i hi => hex) (fun i hi => hs _ nn_co) (fun i hi => hs _ nn_ar)
    (fun i hi => by rw [show i = 0 by omega]; exact hs _ nn_le) (fun i hi j hj => by
      have e : i = 0 := by omega
      subst e
      exact hs _ (nn_el j hj)) (fun i j hi hj hij => absurd (show i = j by omega) hij) hA
  have h15 : fs 15 = adK 0 := by
    have h1 := (hfs 15 _ rfl).2
    have h2 := hVe 0 (by decide)
    have h3 := h1.symm.trans h2
    injection h3 with h4
    injection h4
  obtain ⟨ft, hft⟩ : ∃ ft : Nat, va_Z mm_preC mm_preN mm_preD .null (fun q : Nat => s.heap.size ≤ q) s s.heap ∨ va_Z mm_preC mm_preN mm_preD (.ref ft) (fun q : Nat => s.heap.size ≤ q) s s.heap := by
    rcases va_Zqof (A := fun q : Nat => s.heap.size ≤ q) (hts _ nl_4) (hts _ ni_4) (hs _ nn_s4) hA with z | ⟨t, z⟩
    · exact ⟨0, Or.inl z⟩
    · exact ⟨t, Or.inr z⟩
  obtain ⟨ad0, hd1, hd2, hd3, hd4⟩ : ∃ ad0 : Nat → Nat, ad0 3000 = b ∧ ad0 2000 = adV 0 ∧ ad0 2001 = ft ∧ ∀ i, i < 20 → ad0 (1000 + i) = fs i := by
    refine ⟨fun o => if o = 3000 then b else if o = 2000 then adV 0 else if o = 2001 then ft else fs (o - 1000), rfl, rfl, rfl, fun i hi => ?_⟩
    show (if 1000 + i = 3000 then b else if 1000 + i = 2000 then adV 0 else if 1000 + i = 2001 then ft else fs (1000 + i - 1000)) = fs i
    rw [if_neg (by omega), if_neg (by omega), if_neg (by omega), show 1000 + i - 1000 = i by omega]
  have hZ : mm_Z (fun q : Nat => s.heap.size ≤ q) ad0 s s.heap := by
    refine ⟨vx_Zqof (hts _ nl_1) (hts _ ni_1) (hs _ nn_s1) hA, vx_Zqof (hts _ nl_2) (hts _ ni_1) (hs _ nn_s2) hA, fun i q hq => ?_, fun q hq => va_Nw.of rfl (hts _ (of_decide_eq_true (List.all_eq_true.mp nn_nest q hq))), fun q hq => va_Nw.of rfl (hts _ (of_decide_eq_true (List.all_eq_true.mp nn_cast q hq))), fun q hq => va_Nc.of (hs _ (of_decide_eq_true (List.all_eq_true.mp nn_ncast q hq))), ?_, va_Zof (hts _ nl_3) (hts _ ni_3) (va_eqt (hs _ nn_s3)) hA, fun q hq => va_Nw.of rfl (hts _ (of_decide_eq_true (List.all_eq_true.mp nn_decl q hq))), ?_⟩
    · have hi : i < 20 := (List.getElem?_eq_some_iff.mp hq).1
      rw [hd4 i hi]
      exact hfs i q hq
    · have e15 : ad0 (1000 + mm_wordsAt) = adK 0 := (hd4 15 (by decide)).trans h15
      rw [e15, hd2]
      refine ⟨fun i hi => ?_, fun i j hi hj _ => by omega⟩
      have e : i = 0 := by omega
      subst e
      exact hVS.1 0 (by decide)
    · rw [hd3]; exact hft
  have C : mm_OK 60 601024 7293034 code RL 8 ret (p, l, e, room_1, s, m, #[Value.ref b], below, meth, c, G, ad0, (fun q : Nat => s.heap.size ≤ q), 0, lw_Z below #[Value.ref b] s) :=
    ⟨hx, hb, hml, hown, hT, hK, fun q hq => hq, hlocks, hl, hZ, hr, by decide, by decide, by decide, by decide⟩
  have X : mm_scr (p, l, e, room_1, s, m, #[Value.ref b], below, meth, c, G, ad0, (fun q : Nat => s.heap.size ≤ q), 0, lw_Z below #[Value.ref b] s) L xs := by
    refine ⟨?_, ?_, ?_⟩
    · rw [hd1]; exact hX
    · rw [hd1]; exact hbl
    · rw [hd1]; exact hA b hbl
  have k := lw_begin C X hl hL (lw_end C)
  have hl0 := lv_entry ([Value.ref b]) (n := 8) (Nat.le_of_ble_eq_true rfl)
  rw [lg_entry_eq]
  have hws : mm_ws G ad0 mm_h0 = [] := rfl
  refine k ad0 s.heap [] _ ⟨by rw [hws]; exact fun k q h => by simp at h, by rw [hws]; exact ⟨fun i j p q h => by simp at h, fun k q h => by simp at h⟩, mm_h0_rg, va_S.rf, fun _ _ => rfl, Nat.le_refl _⟩ ?_ ?_ (fun _ q => by cases q)
  · rw [hml]
    refine ⟨hl0.1, hl0.2.1, fun q hq => hl0.2.2 q ?_⟩
    have e : mm_lv ad0 0 [mR 3000, mU, mU, mU, mU, mU, mU, mU] = [(0, .ref b)] := by
      show [(0, Value.ref (ad0 3000))] = _
      rw [hd1]
    rw [e] at hq
    exact hq
  · intro v hv
    simp only [List.mem_cons, List.not_mem_nil, or_false] at hv
    rcases hv with rfl | rfl | rfl | rfl | rfl | rfl | rfl | rfl
    · exact mm_okc _ (by decide)
    all_goals trivial
