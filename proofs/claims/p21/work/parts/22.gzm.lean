/-! ===== what the reference asks ===== -/
theorem mm_x1_cg {v v' p : Int → Int} {c : Int} {S : List Int} (e : ∀ j, 0 ≤ j → j ≤ 6 → v' j = v j) : mm_x1 v' p c S = mm_x1 v p c S := by
  unfold mm_x1
  by_cases q1 : c < 100000
  · rw [if_pos q1, if_pos q1]
  · by_cases q2 : c < 100007
    · rw [if_neg q1, if_pos q2, if_neg q1, if_pos q2, e (c - 100000) (by omega) (by omega)]
    · rw [if_neg q1, if_neg q2, if_neg q1, if_neg q2]
theorem mm_xs_cg {v v' p : Int → Int} (e : ∀ j, 0 ≤ j → j ≤ 6 → v' j = v j) : ∀ (A S : List Int), mm_xs v' p A S = mm_xs v p A S
  | [], _ => rfl
  | c :: A, S => by
    show mm_xs v' p A (mm_x1 v' p c S) = mm_xs v p A (mm_x1 v p c S)
    rw [mm_x1_cg e, mm_xs_cg e A]
theorem mm_cw9_cg {v v' p : Int → Int} (e : ∀ j, 0 ≤ j → j ≤ 6 → v' j = v j) (q : mm_C3) : mm_cw9 v' p q = mm_cw9 v p q := by
  unfold mm_cw9 mm_ev9
  rw [mm_xs_cg e, mm_xs_cg e]
theorem mm_asks_c {h h1 : mH} {k r : Int} {V : Int → Int} (y : ∀ q, mm_wc9 q → q.1 ≠ 2 → mm_lq9 h1 k q → r = mm_cw9 (h1.2.1 110) (mm_pr h1) q) (e : ∀ j, 0 ≤ j → j ≤ 6 → h1.2.1 110 j = V j) (e5 : ∀ j, h1.2.1 105 j = h.2.1 105 j) (e6 : ∀ j, h1.2.1 106 j = h.2.1 106 j) (e7 : ∀ j, h1.2.1 107 j = h.2.1 107 j) (e2 : ∀ j, h1.2.1 102 j = h.2.1 102 j) (e67 : h1.1 66 67 = h.1 66 67) (e68 : h1.1 66 68 = h.1 66 68) : ∀ q, mm_wc9 q → q.1 ≠ 2 → mm_lq9 h k q → r = mm_cw9 V (mm_pr h) q := fun q w n l => by
  rw [y q w n (mm_lq9_fr l e5 e6 e7), mm_cw9_cg e, show mm_pr h1 = mm_pr h from funext fun w => mm_pr_sm e2 e67 e68]
theorem mm_asks_s {h : mH} {V : Int → Int} {L : List mm_C3} {k y1 y2 z1 z2 : Int} (wf : ∀ q ∈ L, mm_wc9 q) (l : mm_lL9 h L) (k0 : 0 ≤ k) (kl : k < h.2.1 103 (h.1 66 68)) (hr : h.1 66 67 ≠ 0) (W : (y1, y2) = mm_cls V (mm_pr h) (L.take k.toNat) (0, 0)) (b2 : y2 = 0 ∨ y2 = 1)
    (S : (h.2.1 104 (20 * h.1 66 68 + k) = 3 ∧ z1 = y1 ∧ z2 = y2) ∨ (h.2.1 104 (20 * h.1 66 68 + k) ≠ 3 ∧ ∃ v, (∀ q, mm_wc9 q → q.1 ≠ 2 → mm_lq9 h (20 * h.1 66 68 + k) q → v = mm_cw9 V (mm_pr h) q) ∧ ((h.2.1 104 (20 * h.1 66 68 + k) = 0 ∧ z1 = mm_w (y1 + mm_clp v) ∧ z2 = y2) ∨ (h.2.1 104 (20 * h.1 66 68 + k) ≠ 0 ∧ z1 = y1 ∧ ((z2 = 1 ∧ (y2 ≠ 0 ∨ v ≠ 0)) ∨ (z2 = 0 ∧ y2 = 0 ∧ v = 0)))))) : (z1, z2) = mm_cls V (mm_pr h) (L.take (k + 1).toNat) (0, 0) := by
  rcases l with ⟨a, _⟩ | ⟨_, len, c⟩
  · exact absurd a hr
  · have hk : k.toNat < L.length := by omega
    have hq : L[k.toNat]? = some L[k.toNat] := List.getElem?_eq_getElem hk
    have cq := c k.toNat _ hq
    rw [Int.toNat_of_nonneg k0] at cq
    refine mm_cls_s k0 hq W ?_
    have wq := wf _ (List.getElem_mem hk)
    unfold mm_clr
    rcases cq with ⟨q2, k3⟩ | ⟨q01, kq, lq⟩
    · rw [if_pos q2]
      rcases S with ⟨_, e1, e2⟩ | ⟨n, _⟩
      · rw [e1, e2]
      · exact absurd k3 n
    · rw [if_neg (by omega)]
      rcases S with ⟨k3, _⟩ | ⟨n, v, hv, S⟩
      · omega
      · have ev := hv _ wq (by omega) lq
        rw [← ev]
        rcases S with ⟨k0', e1, e2⟩ | ⟨k1, e1, S⟩
        · rw [mm_ed9_p (by omega), e1, e2]
        · rcases S with ⟨e2, o⟩ | ⟨e2, o1, o2⟩
          · by_cases v0 : v = 0
            · rw [mm_ed9_n (by omega) v0, e1, e2]
              have : y2 = 1 := by omega
              rw [this]
            · rw [mm_ed9_y (by omega) v0, e1, e2]
          · rw [mm_ed9_n (by omega) o2, e1, e2, o1]
theorem mm_asks_e {h : mH} {V : Int → Int} {L : List mm_C3} {k y1 y2 : Int} (l : mm_lL9 h L) (k0 : 0 ≤ k) (e : h.1 66 67 = 0 ∨ h.2.1 103 (h.1 66 68) ≤ k) (W : (y1, y2) = mm_cls V (mm_pr h) (L.take k.toNat) (0, 0)) : (y1, y2) = mm_cls V (mm_pr h) L (0, 0) := by
  rcases l with ⟨a, b⟩ | ⟨a, len, c⟩
  · rw [b] at W ⊢
    rw [List.take_nil] at W
    exact W
  · rw [List.take_of_length_le (by omega)] at W
    exact W
def mm_yV9 (h b : mH) (p s f : Int) : Int → Int := mm_vv9 (b.1 66 52) (b.1 66 53) (mm_rn9 s f) (b.1 66 54) (mm_nY h p) (h.2.1 86 p) (if h.2.1 83 (h.2.1 85 p) ≠ 0 then 1 else 0)
def mm_AY (h b : mH) (p k s f : Int) : Prop := mm_sY8 h p k s ∧ mm_tm8 (h.2.1 95) (mm_k2 h 2 p k) (h.1 66 40) f ∧ mm_jY8 h p k (b.2.1 100) (b.2.1 98) (b.1 66 48) ∧ mm_mi9 h p (b.1 66 52) (b.2.1 100) ∧ mm_wr8 (mm_k2 h 1 p k) (mm_rY h p) (mm_nY h p).toNat (h.2.1 94) (h.1 66 40).toNat (b.1 66 53) ∧ b.1 66 54 = mm_sc9 (b.2.1 100) (mm_rY h p) (h.2.1 79) (mm_nY h p).toNat ∧ b.2.1 110 2 = mm_rn9 s f ∧ ∀ L, (∀ q ∈ L, mm_wc9 q) → mm_lL9 h L → (b.1 66 87, b.1 66 88) = mm_cls (mm_yV9 h b p s f) (mm_pr h) L (0, 0)
theorem mm_AY_of {h a b : mH} {p k s f : Int} (S : mm_sY8 h p k s) (T : mm_tm8 (h.2.1 95) (mm_k2 h 2 p k) (h.1 66 40) f) (J : mm_jY8 h p k (a.2.1 100) (a.2.1 98) (a.1 66 48)) (M : mm_mi9 h p (a.1 66 52) (a.2.1 100)) (W : mm_wr8 (mm_k2 h 1 p k) (mm_rY h p) (mm_nY h p).toNat (h.2.1 94) (h.1 66 40).toNat (a.1 66 53)) (C : a.1 66 54 = mm_sc9 (a.2.1 100) (mm_rY h p) (h.2.1 79) (mm_nY h p).toNat) (e100 : ∀ j, b.2.1 100 j = a.2.1 100 j) (e98 : ∀ j, b.2.1 98 j = a.2.1 98 j) (n48 : b.1 66 48 = a.1 66 48) (n52 : b.1 66 52 = a.1 66 52) (n53 : b.1 66 53 = a.1 66 53) (n54 : b.1 66 54 = a.1 66 54) (v : ∀ j, 0 ≤ j → j ≤ 6 → b.2.1 110 j = mm_yV9 h a p s f j) (L : ∀ L, (∀ q ∈ L, mm_wc9 q) → mm_lL9 h L → (b.1 66 87, b.1 66 88) = mm_cls (mm_yV9 h a p s f) (mm_pr h) L (0, 0)) : mm_AY h b p k s f := by
  unfold mm_AY
  rw [show mm_yV9 h b p s f = mm_yV9 h a p s f from by unfold mm_yV9; rw [n52, n53, n54], n48, n52, n53, n54, show b.2.1 100 = a.2.1 100 from funext e100, show b.2.1 98 = a.2.1 98 from funext e98]
  exact ⟨S, T, J, M, W, C, v 2 (by decide) (by decide), L⟩

set_option maxRecDepth 100000 in
set_option maxHeartbeats 4000000 in
theorem c_X12_asks_q (l : Launch) (hl : l.stackTraces = false) (d : Nat) (hd : 4 ≤ d) (h : mH) (i0 : mm_inv h) (p1 : Int) (p2 : Int) (bp1 : 0 ≤ p1 ∧ p1 ≤ 39) (t0 : mm_RO h) : mm_Met l d yX12_asks cX12_asks 8 none [mR 66, mI p1, mI p2] h (mm_pv fun h2 => mm_inv h2 ∧ mm_fr [(66, 39), (66, 48), (66, 52), (66, 53), (66, 54), (66, 87), (66, 88)] [91, 98, 99, 100, 110, 111] h h2 ∧ ∃ s f, mm_AY h h2 p1 p2 s f) mm_nx 0 0 := by
  refine mm_ofW (ls := [mR 66, mI p1, mI p2, mU, mU, mU, mU, mU]) hl (by decide) rfl (Nat.le_of_ble_eq_true rfl) ?_
  intro x hxl C T hnm htb
  subst hxl
  have C1 := mm_OK_le (d' := d - 1 + 1) (by omega) C
  refine mm_rng (fun hr _ => ?_)
  have ap1 : -2147483648 ≤ p1 ∧ p1 < 2147483648 := mm_ok_at hr (i := 1) rfl
  have ap2 : -2147483648 ≤ p2 ∧ p2 < 2147483648 := mm_ok_at hr (i := 2) rfl
  have f0 : mm_fr [(66, 39), (66, 48), (66, 52), (66, 53), (66, 54), (66, 87), (66, 88)] [91, 98, 99, 100, 110, 111] h h := mm_fr_rf
  have g1 : 0 ≤ h.1 66 39 ∧ h.1 66 39 ≤ 12 := i0.1 66 39
  have g2 : 0 ≤ h.1 66 40 ∧ h.1 66 40 ≤ 500 := i0.1 66 40
  have g3 : 0 ≤ h.1 66 48 ∧ h.1 66 48 ≤ 500 := i0.1 66 48
  have g4 : -2147483648 ≤ h.1 66 52 ∧ h.1 66 52 ≤ 2147483647 := i0.1 66 52
  have g5 : -2147483648 ≤ h.1 66 53 ∧ h.1 66 53 ≤ 2147483647 := i0.1 66 53
  have g6 : -2147483648 ≤ h.1 66 54 ∧ h.1 66 54 ≤ 2147483647 := i0.1 66 54
  have g7 : -2147483648 ≤ h.1 66 87 ∧ h.1 66 87 ≤ 2147483647 := i0.1 66 87
  have g8 : 0 ≤ h.1 66 88 ∧ h.1 66 88 ≤ 1 := i0.1 66 88
  refine mm_aload_n C (mm_dec dk_X12_asks 0 rfl) rfl ?_
  refine mm_iload_n C (mm_dec dk_X12_asks 1 rfl) rfl ?_
  refine mm_iload_n C (mm_dec dk_X12_asks 2 rfl) rfl ?_
  refine mm_cVv (rest := []) C1 ev_X12_469 (mm_dec dk_X12_asks 3 rfl) (c_X12_judges_q x.2.1 hl (d - 1) (by omega) h i0 p1 p2 ⟨by omega, by omega⟩) rfl rfl (Nat.le_of_ble_eq_true rfl) ⟨by decide, by decide⟩ rfl (fun h3c hp3 => ?_) (fun _ _ q => q.elim)
  obtain ⟨i3c, g3c, y3_0, y3_1, y3_2, y3_3, y3_4⟩ := hp3
  have f3c : mm_fr [(66, 39), (66, 48), (66, 52), (66, 53), (66, 54), (66, 87), (66, 88)] [91, 98, 99, 100, 110, 111] h h3c := mm_fr_tr f0 g3c (by decide +kernel)
  have q3c_10 : h3c.1 66 40 = h.1 66 40 := g3c.1 66 40 (by decide)
  have q3c_11 : h3c.1 66 87 = h.1 66 87 := g3c.1 66 87 (by decide)
  have q3c_12 : h3c.1 66 88 = h.1 66 88 := g3c.1 66 88 (by decide)
  have g13 : 0 ≤ (h3c.1 66 39) ∧ (h3c.1 66 39) ≤ 12 := i3c.1 66 39
  have g14 : 0 ≤ (h3c.1 66 48) ∧ (h3c.1 66 48) ≤ 500 := i3c.1 66 48
  have g15 : -2147483648 ≤ (h3c.1 66 52) ∧ (h3c.1 66 52) ≤ 2147483647 := i3c.1 66 52
  have g16 : -2147483648 ≤ (h3c.1 66 53) ∧ (h3c.1 66 53) ≤ 2147483647 := i3c.1 66 53
  have g17 : -2147483648 ≤ (h3c.1 66 54) ∧ (h3c.1 66 54) ≤ 2147483647 := i3c.1 66 54
  have zJ := y3_0
  have z39 : h3c.1 66 39 = mm_nY h p1 := y3_4
  refine mm_aload_n C (mm_dec dk_X12_asks 4 rfl) rfl ?_
  refine mm_iload_n C (mm_dec dk_X12_asks 5 rfl) rfl ?_
  refine mm_iload_n C (mm_dec dk_X12_asks 6 rfl) rfl ?_
  refine mm_cVi (rest := []) C1 ev_X12_472 (mm_dec dk_X12_asks 7 rfl) (c_X12_startOf_q x.2.1 hl (d - 1) (by omega) h3c i3c p1 p2 ⟨by omega, by omega⟩) rfl rfl (Nat.le_of_ble_eq_true rfl) ⟨by decide, by decide⟩ rfl (fun r9 h9c hp9 => ?_) (fun _ _ q => q.elim)
  obtain ⟨b9, z9, y9_0⟩ := hp9
  rw [z9]
  have zS : mm_sY8 h p1 p2 r9 := mm_sY8_fr y9_0 (mm_k2_fr f3c (by decide)) (f3c.2 88 (by decide)) (f3c.2 89 (by decide)) (f3c.2 90 (by decide)) (f3c.2 95 (by decide)) (f3c.1 66 40 (by decide))
  refine mm_istore_nL (ls2 := [mR 66, mI p1, mI p2, mI r9, mU, mU, mU, mU]) C (mm_dec dk_X12_asks 8 rfl) (by decide) rfl ?_
  refine mm_aload_n C (mm_dec dk_X12_asks 9 rfl) rfl ?_
  refine mm_iload_n C (mm_dec dk_X12_asks 10 rfl) rfl ?_
  refine mm_iload_n C (mm_dec dk_X12_asks 11 rfl) rfl ?_
  refine mm_cVi (rest := []) C1 ev_X12_326 (mm_dec dk_X12_asks 12 rfl) (c_X12_finishOf_q x.2.1 hl (d - 1) (by omega) h3c i3c p1 p2 ⟨by omega, by omega⟩) rfl rfl (Nat.le_of_ble_eq_true rfl) ⟨by decide, by decide⟩ rfl (fun r16 h16c hp16 => ?_) (fun _ _ q => q.elim)
  obtain ⟨b16, z16, y16_0⟩ := hp16
  rw [z16]
  have zT : mm_tm8 (h.2.1 95) (mm_k2 h 2 p1 p2) (h.1 66 40) r16 := (by have z := y16_0; rw [show h3c.2.1 95 = h.2.1 95 from funext (f3c.2 95 (by decide)), mm_k2_fr f3c (by decide), f3c.1 66 40 (by decide)] at z; exact z)
  refine mm_istoreL (ls2 := [mR 66, mI p1, mI p2, mI r9, mI r16, mU, mU, mU]) C (mm_dec dk_X12_asks 13 rfl) (by decide) rfl ?_
  refine mm_aload_n C (mm_dec dk_X12_asks 14 rfl) rfl ?_
  refine mm_getr (t := 110) C fl_X12_141 (mm_dec dk_X12_asks 15 rfl) rfl rfl (mm_ref i3c rfl) ?_
  refine mm_iconst C (mm_dec dk_X12_asks 16 rfl) ⟨by decide, by decide⟩ ?_
  refine mm_aload_n C (mm_dec dk_X12_asks 17 rfl) rfl ?_
  refine mm_geti C fl_X12_341 (mm_dec dk_X12_asks 18 rfl) rfl rfl (Or.inl rfl) ?_
  refine mm_iast C (mm_dec dk_X12_asks 19 rfl) rfl (by omega) (by omega) ?_
  have i2 : mm_inv (mm_pa h3c 110 0 (h3c.1 66 52)) := mm_inv_pa i3c (show -2147483648 ≤ (h3c.1 66 52) ∧ (h3c.1 66 52) ≤ 2147483647 from ⟨by omega, by omega⟩)
  have f2 : mm_fr [(66, 39), (66, 48), (66, 52), (66, 53), (66, 54), (66, 87), (66, 88)] [91, 98, 99, 100, 110, 111] h (mm_pa h3c 110 0 (h3c.1 66 52)) := mm_fr_pa f3c (by decide)
  obtain ⟨h2, eh2⟩ : ∃ z, z = mm_pa h3c 110 0 (h3c.1 66 52) := ⟨_, rfl⟩
  rw [← eh2] at i2 f2 ⊢
  have qh2_20 : h2.1 66 39 = h3c.1 66 39 := by rw [eh2]; rfl
  have qh2_21 : h2.1 66 40 = h3c.1 66 40 := by rw [eh2]; rfl
  have qh2_22 : h2.1 66 48 = h3c.1 66 48 := by rw [eh2]; rfl
  have qh2_23 : h2.1 66 52 = h3c.1 66 52 := by rw [eh2]; rfl
  have qh2_24 : h2.1 66 53 = h3c.1 66 53 := by rw [eh2]; rfl
  have qh2_25 : h2.1 66 54 = h3c.1 66 54 := by rw [eh2]; rfl
  have qh2_26 : h2.1 66 87 = h3c.1 66 87 := by rw [eh2]; rfl
  have qh2_27 : h2.1 66 88 = h3c.1 66 88 := by rw [eh2]; rfl
  refine mm_aload_n C (mm_dec dk_X12_asks 20 rfl) rfl ?_
  refine mm_getr (t := 110) C fl_X12_141 (mm_dec dk_X12_asks 21 rfl) rfl rfl (mm_ref i2 rfl) ?_
  refine mm_iconst C (mm_dec dk_X12_asks 22 rfl) ⟨by decide, by decide⟩ ?_
  refine mm_aload_n C (mm_dec dk_X12_asks 23 rfl) rfl ?_
  refine mm_geti C fl_X12_332 (mm_dec dk_X12_asks 24 rfl) rfl rfl (Or.inl rfl) ?_
  refine mm_iast C (mm_dec dk_X12_asks 25 rfl) rfl (by omega) (by omega) ?_
  have i3 : mm_inv (mm_pa h2 110 1 (h2.1 66 53)) := mm_inv_pa i2 (show -2147483648 ≤ (h2.1 66 53) ∧ (h2.1 66 53) ≤ 2147483647 from ⟨by omega, by omega⟩)
  have f3 : mm_fr [(66, 39), (66, 48), (66, 52), (66, 53), (66, 54), (66, 87), (66, 88)] [91, 98, 99, 100, 110, 111] h (mm_pa h2 110 1 (h2.1 66 53)) := mm_fr_pa f2 (by decide)
  obtain ⟨h3, eh3⟩ : ∃ z, z = mm_pa h2 110 1 (h2.1 66 53) := ⟨_, rfl⟩
  rw [← eh3] at i3 f3 ⊢
  have qh3_28 : h3.1 66 39 = h2.1 66 39 := by rw [eh3]; rfl
  have qh3_29 : h3.1 66 40 = h2.1 66 40 := by rw [eh3]; rfl
  have qh3_30 : h3.1 66 48 = h2.1 66 48 := by rw [eh3]; rfl
  have qh3_31 : h3.1 66 52 = h2.1 66 52 := by rw [eh3]; rfl
  have qh3_32 : h3.1 66 53 = h2.1 66 53 := by rw [eh3]; rfl
  have qh3_33 : h3.1 66 54 = h2.1 66 54 := by rw [eh3]; rfl
  have qh3_34 : h3.1 66 87 = h2.1 66 87 := by rw [eh3]; rfl
  have qh3_35 : h3.1 66 88 = h2.1 66 88 := by rw [eh3]; rfl
  refine mm_aload_n C (mm_dec dk_X12_asks 26 rfl) rfl ?_
  refine mm_getr (t := 110) C fl_X12_141 (mm_dec dk_X12_asks 27 rfl) rfl rfl (mm_ref i3 rfl) ?_
  refine mm_iconst C (mm_dec dk_X12_asks 28 rfl) ⟨by decide, by decide⟩ ?_
  refine mm_iload_n C (mm_dec dk_X12_asks 29 rfl) rfl ?_
  refine mm_iconst C (mm_dec dk_X12_asks 30 rfl) ⟨by decide, by decide⟩ ?_
  have J65 : ∀ (s65_2 : Int) (bs65_2 : -2147483648 ≤ s65_2 ∧ s65_2 ≤ 2147483647) (w65_0 : s65_2 = mm_rn9 r9 r16), mm_W x 0 0 65 [mR 66, mI p1, mU, mU, mU, mU, mU, mU] [mI s65_2, mI 2, mR 110] h3 := by
    intro s65_2 bs65_2 w65_0
    refine mm_iast C (mm_dec dk_X12_asks 40 rfl) rfl (by omega) (by omega) ?_
    have i4 : mm_inv (mm_pa h3 110 2 s65_2) := mm_inv_pa i3 (show -2147483648 ≤ s65_2 ∧ s65_2 ≤ 2147483647 from ⟨by omega, by omega⟩)
    have f4 : mm_fr [(66, 39), (66, 48), (66, 52), (66, 53), (66, 54), (66, 87), (66, 88)] [91, 98, 99, 100, 110, 111] h (mm_pa h3 110 2 s65_2) := mm_fr_pa f3 (by decide)
    obtain ⟨h4, eh4⟩ : ∃ z, z = mm_pa h3 110 2 s65_2 := ⟨_, rfl⟩
    rw [← eh4] at i4 f4 ⊢
    have qh4_36 : h4.1 66 39 = h3.1 66 39 := by rw [eh4]; rfl
    have qh4_37 : h4.1 66 40 = h3.1 66 40 := by rw [eh4]; rfl
    have qh4_38 : h4.1 66 48 = h3.1 66 48 := by rw [eh4]; rfl
    have qh4_39 : h4.1 66 52 = h3.1 66 52 := by rw [eh4]; rfl
    have qh4_40 : h4.1 66 53 = h3.1 66 53 := by rw [eh4]; rfl
    have qh4_41 : h4.1 66 54 = h3.1 66 54 := by rw [eh4]; rfl
    have qh4_42 : h4.1 66 87 = h3.1 66 87 := by rw [eh4]; rfl
    have qh4_43 : h4.1 66 88 = h3.1 66 88 := by rw [eh4]; rfl
    refine mm_aload_n C (mm_dec dk_X12_asks 41 rfl) rfl ?_
    refine mm_getr (t := 110) C fl_X12_141 (mm_dec dk_X12_asks 42 rfl) rfl rfl (mm_ref i4 rfl) ?_
    refine mm_iconst C (mm_dec dk_X12_asks 43 rfl) ⟨by decide, by decide⟩ ?_
    refine mm_aload_n C (mm_dec dk_X12_asks 44 rfl) rfl ?_
    refine mm_geti C fl_X12_347 (mm_dec dk_X12_asks 45 rfl) rfl rfl (Or.inl rfl) ?_
    refine mm_iast C (mm_dec dk_X12_asks 46 rfl) rfl (by omega) (by omega) ?_
    have i5 : mm_inv (mm_pa h4 110 3 (h4.1 66 54)) := mm_inv_pa i4 (show -2147483648 ≤ (h4.1 66 54) ∧ (h4.1 66 54) ≤ 2147483647 from ⟨by omega, by omega⟩)
    have f5 : mm_fr [(66, 39), (66, 48), (66, 52), (66, 53), (66, 54), (66, 87), (66, 88)] [91, 98, 99, 100, 110, 111] h (mm_pa h4 110 3 (h4.1 66 54)) := mm_fr_pa f4 (by decide)
    obtain ⟨h5, eh5⟩ : ∃ z, z = mm_pa h4 110 3 (h4.1 66 54) := ⟨_, rfl⟩
    rw [← eh5] at i5 f5 ⊢
    have qh5_44 : h5.1 66 39 = h4.1 66 39 := by rw [eh5]; rfl
    have qh5_45 : h5.1 66 40 = h4.1 66 40 := by rw [eh5]; rfl
    have qh5_46 : h5.1 66 48 = h4.1 66 48 := by rw [eh5]; rfl
    have qh5_47 : h5.1 66 52 = h4.1 66 52 := by rw [eh5]; rfl
    have qh5_48 : h5.1 66 53 = h4.1 66 53 := by rw [eh5]; rfl
    have qh5_49 : h5.1 66 54 = h4.1 66 54 := by rw [eh5]; rfl
    have qh5_50 : h5.1 66 87 = h4.1 66 87 := by rw [eh5]; rfl
    have qh5_51 : h5.1 66 88 = h4.1 66 88 := by rw [eh5]; rfl
    refine mm_aload_n C (mm_dec dk_X12_asks 47 rfl) rfl ?_
    refine mm_getr (t := 110) C fl_X12_141 (mm_dec dk_X12_asks 48 rfl) rfl rfl (mm_ref i5 rfl) ?_
    refine mm_iconst C (mm_dec dk_X12_asks 49 rfl) ⟨by decide, by decide⟩ ?_
    refine mm_aload_n C (mm_dec dk_X12_asks 50 rfl) rfl ?_
    refine mm_geti C fl_X12_296 (mm_dec dk_X12_asks 51 rfl) rfl rfl (Or.inl rfl) ?_
    refine mm_iast C (mm_dec dk_X12_asks 52 rfl) rfl (by omega) (by omega) ?_
    have i6 : mm_inv (mm_pa h5 110 4 (h5.1 66 39)) := mm_inv_pa i5 (show -2147483648 ≤ (h5.1 66 39) ∧ (h5.1 66 39) ≤ 2147483647 from ⟨by omega, by omega⟩)
    have f6 : mm_fr [(66, 39), (66, 48), (66, 52), (66, 53), (66, 54), (66, 87), (66, 88)] [91, 98, 99, 100, 110, 111] h (mm_pa h5 110 4 (h5.1 66 39)) := mm_fr_pa f5 (by decide)
    obtain ⟨h6, eh6⟩ : ∃ z, z = mm_pa h5 110 4 (h5.1 66 39) := ⟨_, rfl⟩
    rw [← eh6] at i6 f6 ⊢
    have qh6_52 : h6.1 66 39 = h5.1 66 39 := by rw [eh6]; rfl
    have qh6_53 : h6.1 66 40 = h5.1 66 40 := by rw [eh6]; rfl
    have qh6_54 : h6.1 66 48 = h5.1 66 48 := by rw [eh6]; rfl
    have qh6_55 : h6.1 66 52 = h5.1 66 52 := by rw [eh6]; rfl
    have qh6_56 : h6.1 66 53 = h5.1 66 53 := by rw [eh6]; rfl
    have qh6_57 : h6.1 66 54 = h5.1 66 54 := by rw [eh6]; rfl
    have qh6_58 : h6.1 66 87 = h5.1 66 87 := by rw [eh6]; rfl
    have qh6_59 : h6.1 66 88 = h5.1 66 88 := by rw [eh6]; rfl
    refine mm_aload_n C (mm_dec dk_X12_asks 53 rfl) rfl ?_
    refine mm_getr (t := 110) C fl_X12_141 (mm_dec dk_X12_asks 54 rfl) rfl rfl (mm_ref i6 rfl) ?_
    refine mm_iconst C (mm_dec dk_X12_asks 55 rfl) ⟨by decide, by decide⟩ ?_
    refine mm_aload_n C (mm_dec dk_X12_asks 56 rfl) rfl ?_
    have z86 : h6.2.1 86 p1 = h.2.1 86 p1 := f6.2 86 (by decide) _
    refine mm_getr (t := 86) C fl_X12_69 (mm_dec dk_X12_asks 57 rfl) rfl rfl (mm_ref i6 rfl) ?_
    refine mm_iload_n C (mm_dec dk_X12_asks 58 rfl) rfl ?_
    refine mm_iald C (mm_dec dk_X12_asks 59 rfl) rfl (by omega) (by omega) ?_
    have g60 : 0 ≤ (h6.2.1 86 p1) ∧ (h6.2.1 86 p1) ≤ 9 := i6.2.1 86 p1
    refine mm_iast C (mm_dec dk_X12_asks 60 rfl) rfl (by omega) (by omega) ?_
    have i7 : mm_inv (mm_pa h6 110 5 (h6.2.1 86 p1)) := mm_inv_pa i6 (show -2147483648 ≤ (h6.2.1 86 p1) ∧ (h6.2.1 86 p1) ≤ 2147483647 from ⟨by omega, by omega⟩)
    have f7 : mm_fr [(66, 39), (66, 48), (66, 52), (66, 53), (66, 54), (66, 87), (66, 88)] [91, 98, 99, 100, 110, 111] h (mm_pa h6 110 5 (h6.2.1 86 p1)) := mm_fr_pa f6 (by decide)
    obtain ⟨h7, eh7⟩ : ∃ z, z = mm_pa h6 110 5 (h6.2.1 86 p1) := ⟨_, rfl⟩
    rw [← eh7] at i7 f7 ⊢
    have qh7_61 : h7.1 66 39 = h6.1 66 39 := by rw [eh7]; rfl
    have qh7_62 : h7.1 66 40 = h6.1 66 40 := by rw [eh7]; rfl
    have qh7_63 : h7.1 66 48 = h6.1 66 48 := by rw [eh7]; rfl
    have qh7_64 : h7.1 66 52 = h6.1 66 52 := by rw [eh7]; rfl
    have qh7_65 : h7.1 66 53 = h6.1 66 53 := by rw [eh7]; rfl
    have qh7_66 : h7.1 66 54 = h6.1 66 54 := by rw [eh7]; rfl
    have qh7_67 : h7.1 66 87 = h6.1 66 87 := by rw [eh7]; rfl
    have qh7_68 : h7.1 66 88 = h6.1 66 88 := by rw [eh7]; rfl
    have zfr : h7.2.1 83 (h7.2.1 85 p1) = h.2.1 83 (h.2.1 85 p1) := by rw [f7.2 83 (by decide), f7.2 85 (by decide)]
    refine mm_aload_n C (mm_dec dk_X12_asks 61 rfl) rfl ?_
    refine mm_getr (t := 110) C fl_X12_141 (mm_dec dk_X12_asks 62 rfl) rfl rfl (mm_ref i7 rfl) ?_
    refine mm_bipush C (mm_dec dk_X12_asks 63 rfl) ⟨by decide, by decide⟩ ?_
    refine mm_aload_n C (mm_dec dk_X12_asks 64 rfl) rfl ?_
    refine mm_getr (t := 83) C fl_X12_60 (mm_dec dk_X12_asks 65 rfl) rfl rfl (mm_ref i7 rfl) ?_
    refine mm_aload_n C (mm_dec dk_X12_asks 66 rfl) rfl ?_
    refine mm_getr (t := 85) C fl_X12_66 (mm_dec dk_X12_asks 67 rfl) rfl rfl (mm_ref i7 rfl) ?_
    refine mm_iload_n C (mm_dec dk_X12_asks 68 rfl) rfl ?_
    refine mm_iald C (mm_dec dk_X12_asks 69 rfl) rfl (by omega) (by omega) ?_
    have g69 : 0 ≤ (h7.2.1 85 p1) ∧ (h7.2.1 85 p1) ≤ 7 := i7.2.1 85 p1
    refine mm_zald C (mm_dec dk_X12_asks 70 rfl) rfl (by omega) (by omega) ?_
    have g70 : 0 ≤ (h7.2.1 83 (h7.2.1 85 p1)) ∧ (h7.2.1 83 (h7.2.1 85 p1)) ≤ 1 := i7.2.1 83 (h7.2.1 85 p1)
    have J123 : ∀ (s123_2 : Int) (bs123_2 : 0 ≤ s123_2 ∧ s123_2 ≤ 1) (w123_0 : s123_2 = (if h.2.1 83 (h.2.1 85 p1) ≠ 0 then (1 : Int) else 0)) (vs123_2 : ((h7.2.1 83 (h7.2.1 85 p1)) = 0 ∧ s123_2 = 0) ∨ ((h7.2.1 83 (h7.2.1 85 p1)) ≠ 0 ∧ s123_2 = 1)), mm_W x 0 0 123 [mR 66, mU, mU, mU, mU, mU, mU, mU] [mI s123_2, mI 6, mR 110] h7 := by
      intro s123_2 bs123_2 w123_0 vs123_2
      refine mm_iast C (mm_dec dk_X12_asks 75 rfl) rfl (by omega) (by omega) ?_
      have i8 : mm_inv (mm_pa h7 110 6 s123_2) := mm_inv_pa i7 (show -2147483648 ≤ s123_2 ∧ s123_2 ≤ 2147483647 from ⟨by omega, by omega⟩)
      have f8 : mm_fr [(66, 39), (66, 48), (66, 52), (66, 53), (66, 54), (66, 87), (66, 88)] [91, 98, 99, 100, 110, 111] h (mm_pa h7 110 6 s123_2) := mm_fr_pa f7 (by decide)
      obtain ⟨h8, eh8⟩ : ∃ z, z = mm_pa h7 110 6 s123_2 := ⟨_, rfl⟩
      rw [← eh8] at i8 f8 ⊢
      have qh8_71 : h8.1 66 39 = h7.1 66 39 := by rw [eh8]; rfl
      have qh8_72 : h8.1 66 40 = h7.1 66 40 := by rw [eh8]; rfl
      have qh8_73 : h8.1 66 48 = h7.1 66 48 := by rw [eh8]; rfl
      have qh8_74 : h8.1 66 52 = h7.1 66 52 := by rw [eh8]; rfl
      have qh8_75 : h8.1 66 53 = h7.1 66 53 := by rw [eh8]; rfl
      have qh8_76 : h8.1 66 54 = h7.1 66 54 := by rw [eh8]; rfl
      have qh8_77 : h8.1 66 87 = h7.1 66 87 := by rw [eh8]; rfl
      have qh8_78 : h8.1 66 88 = h7.1 66 88 := by rw [eh8]; rfl
      refine mm_aload_n C (mm_dec dk_X12_asks 76 rfl) rfl ?_
      refine mm_iconst C (mm_dec dk_X12_asks 77 rfl) ⟨by decide, by decide⟩ ?_
      refine mm_puti C fl_X12_475 (mm_dec dk_X12_asks 78 rfl) rfl rfl rfl (Or.inl ⟨rfl, rfl⟩) ?_
      have i9 : mm_inv (mm_pf h8 66 87 0) := mm_inv_pf i8 (show -2147483648 ≤ 0 ∧ 0 ≤ 2147483647 from ⟨by omega, by omega⟩) (by decide)
      have f9 : mm_fr [(66, 39), (66, 48), (66, 52), (66, 53), (66, 54), (66, 87), (66, 88)] [91, 98, 99, 100, 110, 111] h (mm_pf h8 66 87 0) := mm_fr_pf f8 (by decide)
      obtain ⟨h9, eh9⟩ : ∃ z, z = mm_pf h8 66 87 0 := ⟨_, rfl⟩
      rw [← eh9] at i9 f9 ⊢
      have qh9 : h9.1 66 87 = 0 := by rw [eh9]; exact mm_pf_same _ _ _ _
      have qh9_79 : h9.1 66 39 = h8.1 66 39 := by rw [eh9]; exact mm_pf_ne _ _ (by decide)
      have qh9_80 : h9.1 66 40 = h8.1 66 40 := by rw [eh9]; exact mm_pf_ne _ _ (by decide)
      have qh9_81 : h9.1 66 48 = h8.1 66 48 := by rw [eh9]; exact mm_pf_ne _ _ (by decide)
      have qh9_82 : h9.1 66 52 = h8.1 66 52 := by rw [eh9]; exact mm_pf_ne _ _ (by decide)
      have qh9_83 : h9.1 66 53 = h8.1 66 53 := by rw [eh9]; exact mm_pf_ne _ _ (by decide)
      have qh9_84 : h9.1 66 54 = h8.1 66 54 := by rw [eh9]; exact mm_pf_ne _ _ (by decide)
      have qh9_85 : h9.1 66 88 = h8.1 66 88 := by rw [eh9]; exact mm_pf_ne _ _ (by decide)
      refine mm_aload_n C (mm_dec dk_X12_asks 79 rfl) rfl ?_
      refine mm_iconst C (mm_dec dk_X12_asks 80 rfl) ⟨by decide, by decide⟩ ?_
      refine mm_puti C fl_X12_478 (mm_dec dk_X12_asks 81 rfl) rfl rfl rfl (Or.inr ⟨rfl, rfl, by omega⟩) ?_
      have i10 : mm_inv (mm_pf h9 66 88 0) := mm_inv_pf i9 (show 0 ≤ 0 ∧ 0 ≤ 1 from ⟨by omega, by omega⟩) (by decide)
      have f10 : mm_fr [(66, 39), (66, 48), (66, 52), (66, 53), (66, 54), (66, 87), (66, 88)] [91, 98, 99, 100, 110, 111] h (mm_pf h9 66 88 0) := mm_fr_pf f9 (by decide)
      obtain ⟨h10, eh10⟩ : ∃ z, z = mm_pf h9 66 88 0 := ⟨_, rfl⟩
      rw [← eh10] at i10 f10 ⊢
      have qh10 : h10.1 66 88 = 0 := by rw [eh10]; exact mm_pf_same _ _ _ _
      have qh10_86 : h10.1 66 39 = h9.1 66 39 := by rw [eh10]; exact mm_pf_ne _ _ (by decide)
      have qh10_87 : h10.1 66 40 = h9.1 66 40 := by rw [eh10]; exact mm_pf_ne _ _ (by decide)
      have qh10_88 : h10.1 66 48 = h9.1 66 48 := by rw [eh10]; exact mm_pf_ne _ _ (by decide)
      have qh10_89 : h10.1 66 52 = h9.1 66 52 := by rw [eh10]; exact mm_pf_ne _ _ (by decide)
      have qh10_90 : h10.1 66 53 = h9.1 66 53 := by rw [eh10]; exact mm_pf_ne _ _ (by decide)
      have qh10_91 : h10.1 66 54 = h9.1 66 54 := by rw [eh10]; exact mm_pf_ne _ _ (by decide)
      have qh10_92 : h10.1 66 87 = h9.1 66 87 := by rw [eh10]; exact mm_pf_ne _ _ (by decide)
      refine mm_iconst C (mm_dec dk_X12_asks 82 rfl) ⟨by decide, by decide⟩ ?_
      have J137 : ∀ (n : Nat) (x137_5 : Int) (bx137_5 : 0 ≤ x137_5 ∧ x137_5 ≤ 20) (h137_ : mH) (i137_ : mm_inv h137_) (f137_ : mm_fr [(66, 39), (66, 48), (66, 52), (66, 53), (66, 54), (66, 87), (66, 88)] [91, 98, 99, 100, 110, 111] h h137_) (w137_0 : ∀ L, (∀ q ∈ L, mm_wc9 q) → mm_lL9 h L → (h137_.1 66 87, h137_.1 66 88) = mm_cls (mm_yV9 h h3c p1 r9 r16) (mm_pr h) (L.take (x137_5).toNat) (0, 0)) (w137_1 : ∀ j, 0 ≤ j → j ≤ 6 → h137_.2.1 110 j = mm_yV9 h h3c p1 r9 r16 j) (w137_2 : ∀ j, h137_.2.1 100 j = h3c.2.1 100 j) (w137_3 : ∀ j, h137_.2.1 98 j = h3c.2.1 98 j) (w137_4 : h137_.1 66 48 = h3c.1 66 48) (w137_5 : h137_.1 66 52 = h3c.1 66 52) (w137_6 : h137_.1 66 53 = h3c.1 66 53) (w137_7 : h137_.1 66 54 = h3c.1 66 54), (20 - x137_5 : Int) < n → mm_W x 0 0 137 [mR 66, mU, mU, mU, mU, mI x137_5, mU, mU] [] h137_ := by
        intro n
        induction n with
        | zero =>
          intro x137_5 bx137_5 h137_ i137_ f137_ w137_0 w137_1 w137_2 w137_3 w137_4 w137_5 w137_6 w137_7 hm
          have g93 : 0 ≤ h137_.1 66 39 ∧ h137_.1 66 39 ≤ 12 := i137_.1 66 39
          have g94 : 0 ≤ h137_.1 66 40 ∧ h137_.1 66 40 ≤ 500 := i137_.1 66 40
          have g95 : 0 ≤ h137_.1 66 48 ∧ h137_.1 66 48 ≤ 500 := i137_.1 66 48
          have g96 : -2147483648 ≤ h137_.1 66 52 ∧ h137_.1 66 52 ≤ 2147483647 := i137_.1 66 52
          have g97 : -2147483648 ≤ h137_.1 66 53 ∧ h137_.1 66 53 ≤ 2147483647 := i137_.1 66 53
          have g98 : -2147483648 ≤ h137_.1 66 54 ∧ h137_.1 66 54 ≤ 2147483647 := i137_.1 66 54
          have g99 : -2147483648 ≤ h137_.1 66 87 ∧ h137_.1 66 87 ≤ 2147483647 := i137_.1 66 87
          have g100 : 0 ≤ h137_.1 66 88 ∧ h137_.1 66 88 ≤ 1 := i137_.1 66 88
          exfalso; omega
        | succ n ih137 =>
          intro x137_5 bx137_5 h137_ i137_ f137_ w137_0 w137_1 w137_2 w137_3 w137_4 w137_5 w137_6 w137_7 hm137
          have g101 : 0 ≤ h137_.1 66 39 ∧ h137_.1 66 39 ≤ 12 := i137_.1 66 39
          have g102 : 0 ≤ h137_.1 66 40 ∧ h137_.1 66 40 ≤ 500 := i137_.1 66 40
          have g103 : 0 ≤ h137_.1 66 48 ∧ h137_.1 66 48 ≤ 500 := i137_.1 66 48
          have g104 : -2147483648 ≤ h137_.1 66 52 ∧ h137_.1 66 52 ≤ 2147483647 := i137_.1 66 52
          have g105 : -2147483648 ≤ h137_.1 66 53 ∧ h137_.1 66 53 ≤ 2147483647 := i137_.1 66 53
          have g106 : -2147483648 ≤ h137_.1 66 54 ∧ h137_.1 66 54 ≤ 2147483647 := i137_.1 66 54
          have g107 : -2147483648 ≤ h137_.1 66 87 ∧ h137_.1 66 87 ≤ 2147483647 := i137_.1 66 87
          have g108 : 0 ≤ h137_.1 66 88 ∧ h137_.1 66 88 ≤ 1 := i137_.1 66 88
          have g109 : h137_.1 66 40 = h.1 66 40 := f137_.1 66 40 (by decide)
          have y67 : h137_.1 66 67 = h.1 66 67 := f137_.1 66 67 (by decide)
          have y68 : h137_.1 66 68 = h.1 66 68 := f137_.1 66 68 (by decide)
          have y103 : h137_.2.1 103 (h137_.1 66 68) = h.2.1 103 (h.1 66 68) := by rw [f137_.2 103 (by decide), f137_.1 66 68 (by decide)]
          have y104 : h137_.2.1 104 (20 * h137_.1 66 68 + x137_5) = h.2.1 104 (20 * h.1 66 68 + x137_5) := by rw [f137_.2 104 (by decide), f137_.1 66 68 (by decide)]
          refine mm_aload_n C (mm_dec dk_X12_asks 84 rfl) rfl ?_
          refine mm_geti C fl_X12_240 (mm_dec dk_X12_asks 85 rfl) rfl rfl (Or.inr rfl) ?_
          have g110 : 0 ≤ (h137_.1 66 67) ∧ (h137_.1 66 67) ≤ 1 := i137_.1 66 67
          have J271 : ∀ (w271_0 : (h.1 66 67 = 0 ∨ h.2.1 103 (h.1 66 68) ≤ x137_5)), mm_W x 0 0 271 [mU, mU, mU, mU, mU, mU, mU, mU] [] h137_ := by
            intro w271_0
            exact mm_vret C T (mm_dec dk_X12_asks 146 rfl) (by decide : 0 ≤ 0) (by decide : 0 ≤ 0) ⟨rfl, ⟨i137_, f137_, by exact ⟨r9, r16, mm_AY_of zS zT zJ y3_1 y3_2 y3_3 w137_2 w137_3 (by omega) (by omega) (by omega) (by omega) w137_1 (fun L w l => mm_asks_e l (by omega) w271_0 (w137_0 L w l))⟩⟩⟩
          refine mm_if_eq (tgt := 271) C (mm_dec dk_X12_asks 86 rfl) (by decide) (fun c141 => ?_) (fun c141 => ?_)
          · skip
            refine mm_fgt 0 ?_
            refine mm_fgt 5 ?_
            exact J271 (by omega)
          · skip
            refine mm_iload C (mm_dec dk_X12_asks 87 rfl) rfl ?_
            refine mm_aload_n C (mm_dec dk_X12_asks 88 rfl) rfl ?_
            refine mm_getr (t := 103) C fl_X12_120 (mm_dec dk_X12_asks 89 rfl) rfl rfl (mm_ref i137_ rfl) ?_
            refine mm_aload_n C (mm_dec dk_X12_asks 90 rfl) rfl ?_
            refine mm_geti C fl_X12_454 (mm_dec dk_X12_asks 91 rfl) rfl rfl (Or.inl rfl) ?_
            have g119 : 0 ≤ (h137_.1 66 68) ∧ (h137_.1 66 68) ≤ 1 := i137_.1 66 68
            refine mm_iald C (mm_dec dk_X12_asks 92 rfl) rfl (by omega) (by omega) ?_
            have g120 : 0 ≤ (h137_.2.1 103 (h137_.1 66 68)) ∧ (h137_.2.1 103 (h137_.1 66 68)) ≤ 20 := i137_.2.1 103 (h137_.1 66 68)
            refine mm_icmp_ge (tgt := 271) C (mm_dec dk_X12_asks 93 rfl) (by decide) (fun c155 => ?_) (fun c155 => ?_)
            · skip
              refine mm_fgt 0 ?_
              refine mm_fgt 5 ?_
              exact J271 (by omega)
            · skip
              refine mm_bipush C (mm_dec dk_X12_asks 94 rfl) ⟨by decide, by decide⟩ ?_
              refine mm_aload_n C (mm_dec dk_X12_asks 95 rfl) rfl ?_
              refine mm_geti C fl_X12_454 (mm_dec dk_X12_asks 96 rfl) rfl rfl (Or.inl rfl) ?_
              refine mm_imul C (mm_dec dk_X12_asks 97 rfl) ⟨by omega, by omega⟩ ?_
              refine mm_iload C (mm_dec dk_X12_asks 98 rfl) rfl ?_
              refine mm_iadd C (mm_dec dk_X12_asks 99 rfl) ⟨by omega, by omega⟩ ?_
              refine mm_istoreL (ls2 := [mR 66, mU, mU, mU, mU, mI x137_5, mI ((20 * (h137_.1 66 68)) + x137_5), mU]) C (mm_dec dk_X12_asks 100 rfl) (by decide) rfl ?_
              refine mm_aload_n C (mm_dec dk_X12_asks 101 rfl) rfl ?_
              refine mm_getr (t := 104) C fl_X12_123 (mm_dec dk_X12_asks 102 rfl) rfl rfl (mm_ref i137_ rfl) ?_
              refine mm_iload C (mm_dec dk_X12_asks 103 rfl) rfl ?_
              refine mm_iald C (mm_dec dk_X12_asks 104 rfl) rfl (by omega) (by omega) ?_
              have g121 : -2147483648 ≤ (h137_.2.1 104 ((20 * (h137_.1 66 68)) + x137_5)) ∧ (h137_.2.1 104 ((20 * (h137_.1 66 68)) + x137_5)) ≤ 2147483647 := i137_.2.1 104 ((20 * (h137_.1 66 68)) + x137_5)
              refine mm_iconst C (mm_dec dk_X12_asks 105 rfl) ⟨by decide, by decide⟩ ?_
              have J265 : ∀ (h265_ : mH) (i265_ : mm_inv h265_) (f265_ : mm_fr [(66, 39), (66, 48), (66, 52), (66, 53), (66, 54), (66, 87), (66, 88)] [91, 98, 99, 100, 110, 111] h h265_) (w265_0 : ∀ L, (∀ q ∈ L, mm_wc9 q) → mm_lL9 h L → (h265_.1 66 87, h265_.1 66 88) = mm_cls (mm_yV9 h h3c p1 r9 r16) (mm_pr h) (L.take (x137_5 + 1).toNat) (0, 0)) (w265_1 : ∀ j, 0 ≤ j → j ≤ 6 → h265_.2.1 110 j = mm_yV9 h h3c p1 r9 r16 j) (w265_2 : ∀ j, h265_.2.1 100 j = h3c.2.1 100 j) (w265_3 : ∀ j, h265_.2.1 98 j = h3c.2.1 98 j) (w265_4 : h265_.1 66 48 = h3c.1 66 48) (w265_5 : h265_.1 66 52 = h3c.1 66 52) (w265_6 : h265_.1 66 53 = h3c.1 66 53) (w265_7 : h265_.1 66 54 = h3c.1 66 54), mm_W x 0 0 265 [mR 66, mU, mU, mU, mU, mI x137_5, mU, mU] [] h265_ := by
                intro h265_ i265_ f265_ w265_0 w265_1 w265_2 w265_3 w265_4 w265_5 w265_6 w265_7
                have g122 : 0 ≤ h265_.1 66 39 ∧ h265_.1 66 39 ≤ 12 := i265_.1 66 39
                have g123 : 0 ≤ h265_.1 66 40 ∧ h265_.1 66 40 ≤ 500 := i265_.1 66 40
                have g124 : 0 ≤ h265_.1 66 48 ∧ h265_.1 66 48 ≤ 500 := i265_.1 66 48
                have g125 : -2147483648 ≤ h265_.1 66 52 ∧ h265_.1 66 52 ≤ 2147483647 := i265_.1 66 52
                have g126 : -2147483648 ≤ h265_.1 66 53 ∧ h265_.1 66 53 ≤ 2147483647 := i265_.1 66 53
                have g127 : -2147483648 ≤ h265_.1 66 54 ∧ h265_.1 66 54 ≤ 2147483647 := i265_.1 66 54
                have g128 : -2147483648 ≤ h265_.1 66 87 ∧ h265_.1 66 87 ≤ 2147483647 := i265_.1 66 87
                have g129 : 0 ≤ h265_.1 66 88 ∧ h265_.1 66 88 ≤ 1 := i265_.1 66 88
                have g130 : h265_.1 66 40 = h.1 66 40 := f265_.1 66 40 (by decide)
                refine mm_iincL (ls2 := [mR 66, mU, mU, mU, mU, mI (x137_5 + 1), mU, mU]) C (mm_dec dk_X12_asks 144 rfl) rfl (by decide) ⟨by omega, by omega⟩ rfl ?_
                refine mm_goto (tgt := 137) C (mm_dec dk_X12_asks 145 rfl) (by decide) ?_
                exact ih137 (x137_5 + 1) ⟨by omega, by omega⟩ h265_ i265_ f265_ (by first | exact w265_0 | exact fun L w l => mm_two (by omega) (by omega)) (by first | exact w265_1 | exact fun j j0 j1 => (show h10.2.1 110 j = h8.2.1 110 j from (by rw [eh10, eh9]; rfl)).trans (mm_vv9_at (a := h3c.1 66 52) (b := h3c.1 66 53) (c := mm_rn9 r9 r16) (d := h3c.1 66 54) (e := mm_nY h p1) (f := h.2.1 86 p1) (g := if h.2.1 83 (h.2.1 85 p1) ≠ 0 then 1 else 0) (((mm_pa_off eh8 (by omega)).trans ((mm_pa_off eh7 (by omega)).trans ((mm_pa_off eh6 (by omega)).trans ((mm_pa_off eh5 (by omega)).trans ((mm_pa_off eh4 (by omega)).trans ((mm_pa_off eh3 (by omega)).trans (mm_pa_at eh2 (by omega)))))))).trans (by omega)) (((mm_pa_off eh8 (by omega)).trans ((mm_pa_off eh7 (by omega)).trans ((mm_pa_off eh6 (by omega)).trans ((mm_pa_off eh5 (by omega)).trans ((mm_pa_off eh4 (by omega)).trans (mm_pa_at eh3 (by omega))))))).trans (by omega)) (((mm_pa_off eh8 (by omega)).trans ((mm_pa_off eh7 (by omega)).trans ((mm_pa_off eh6 (by omega)).trans ((mm_pa_off eh5 (by omega)).trans (mm_pa_at eh4 (by omega)))))).trans w65_0) (((mm_pa_off eh8 (by omega)).trans ((mm_pa_off eh7 (by omega)).trans ((mm_pa_off eh6 (by omega)).trans (mm_pa_at eh5 (by omega))))).trans (by omega)) (((mm_pa_off eh8 (by omega)).trans ((mm_pa_off eh7 (by omega)).trans (mm_pa_at eh6 (by omega)))).trans (by omega)) (((mm_pa_off eh8 (by omega)).trans (mm_pa_at eh7 (by omega))).trans z86) ((mm_pa_at eh8 (by omega)).trans w123_0) j j0 j1)) (by first | exact w265_2 | exact (fun j => (show h10.2.1 100 j = h8.2.1 100 j from by rw [eh10, eh9]; rfl).trans ((mm_sm_pa 100 eh8 (by decide) j).trans ((mm_sm_pa 100 eh7 (by decide) j).trans ((mm_sm_pa 100 eh6 (by decide) j).trans ((mm_sm_pa 100 eh5 (by decide) j).trans ((mm_sm_pa 100 eh4 (by decide) j).trans ((mm_sm_pa 100 eh3 (by decide) j).trans ((mm_sm_pa 100 eh2 (by decide) j)))))))))) (by first | exact w265_3 | exact (fun j => (show h10.2.1 98 j = h8.2.1 98 j from by rw [eh10, eh9]; rfl).trans ((mm_sm_pa 98 eh8 (by decide) j).trans ((mm_sm_pa 98 eh7 (by decide) j).trans ((mm_sm_pa 98 eh6 (by decide) j).trans ((mm_sm_pa 98 eh5 (by decide) j).trans ((mm_sm_pa 98 eh4 (by decide) j).trans ((mm_sm_pa 98 eh3 (by decide) j).trans ((mm_sm_pa 98 eh2 (by decide) j)))))))))) (by omega) (by omega) (by omega) (by omega) (by omega)
              refine mm_icmp_ne (tgt := 184) C (mm_dec dk_X12_asks 106 rfl) (by decide) (fun c178 => ?_) (fun c178 => ?_)
              · skip
                refine mm_aload_n C (mm_dec dk_X12_asks 108 rfl) rfl ?_
                refine mm_iload C (mm_dec dk_X12_asks 109 rfl) rfl ?_
                refine mm_cVi (rest := []) C1 ev_X12_481 (mm_dec dk_X12_asks 110 rfl) (c_X12_clauseWorth_q x.2.1 hl (d - 1) (by omega) h137_ i137_ ((20 * (h137_.1 66 68)) + x137_5) ⟨by omega, by omega⟩ (by exact mm_RO_use (mm_RO_fr t0 f137_ (by decide)) (by omega) (by omega) (by omega) (by omega))) rfl rfl (Nat.le_of_ble_eq_true rfl) ⟨by decide, by decide⟩ rfl (fun r187 h187c hp187 => ?_) (fun _ _ q => q.elim)
                obtain ⟨b187, i187c, g187c, y187_0⟩ := hp187
                have f187c : mm_fr [(66, 39), (66, 48), (66, 52), (66, 53), (66, 54), (66, 87), (66, 88)] [91, 98, 99, 100, 110, 111] h h187c := mm_fr_tr f137_ g187c (by decide +kernel)
                have q187c_132 : h187c.1 66 39 = h137_.1 66 39 := g187c.1 66 39 (by decide)
                have q187c_133 : h187c.1 66 40 = h137_.1 66 40 := g187c.1 66 40 (by decide)
                have q187c_134 : h187c.1 66 48 = h137_.1 66 48 := g187c.1 66 48 (by decide)
                have q187c_135 : h187c.1 66 52 = h137_.1 66 52 := g187c.1 66 52 (by decide)
                have q187c_136 : h187c.1 66 53 = h137_.1 66 53 := g187c.1 66 53 (by decide)
                have q187c_137 : h187c.1 66 54 = h137_.1 66 54 := g187c.1 66 54 (by decide)
                have q187c_138 : h187c.1 66 67 = h137_.1 66 67 := g187c.1 66 67 (by decide)
                have q187c_139 : h187c.1 66 68 = h137_.1 66 68 := g187c.1 66 68 (by decide)
                have q187c_140 : h187c.1 66 87 = h137_.1 66 87 := g187c.1 66 87 (by decide)
                have q187c_141 : h187c.1 66 88 = h137_.1 66 88 := g187c.1 66 88 (by decide)
                have zc := mm_asks_c y187_0 w137_1 (f137_.2 105 (by decide)) (f137_.2 106 (by decide)) (f137_.2 107 (by decide)) (f137_.2 102 (by decide)) (f137_.1 66 67 (by decide)) (f137_.1 66 68 (by decide))
                rw [f137_.1 66 68 (by decide)] at zc
                have y104b : h187c.2.1 104 (20 * h137_.1 66 68 + x137_5) = h.2.1 104 (20 * h.1 66 68 + x137_5) := (g187c.2 104 (by decide) _).trans y104
                refine mm_istoreL (ls2 := [mR 66, mU, mU, mU, mU, mI x137_5, mI ((20 * (h137_.1 66 68)) + x137_5), mI r187]) C (mm_dec dk_X12_asks 111 rfl) (by decide) rfl ?_
                refine mm_aload_n C (mm_dec dk_X12_asks 112 rfl) rfl ?_
                refine mm_getr (t := 104) C fl_X12_123 (mm_dec dk_X12_asks 113 rfl) rfl rfl (mm_ref i187c rfl) ?_
                refine mm_iload C (mm_dec dk_X12_asks 114 rfl) rfl ?_
                refine mm_iald C (mm_dec dk_X12_asks 115 rfl) rfl (by omega) (by omega) ?_
                have g142 : -2147483648 ≤ (h187c.2.1 104 ((20 * (h137_.1 66 68)) + x137_5)) ∧ (h187c.2.1 104 ((20 * (h137_.1 66 68)) + x137_5)) ≤ 2147483647 := i187c.2.1 104 ((20 * (h137_.1 66 68)) + x137_5)
                refine mm_if_ne (tgt := 244) C (mm_dec dk_X12_asks 116 rfl) (by decide) (fun c199 => ?_) (fun c199 => ?_)
                · skip
                  refine mm_aload_n C (mm_dec dk_X12_asks 134 rfl) rfl ?_
                  refine mm_aload_n C (mm_dec dk_X12_asks 135 rfl) rfl ?_
                  refine mm_geti C fl_X12_478 (mm_dec dk_X12_asks 136 rfl) rfl rfl (Or.inr rfl) ?_
                  have J262 : ∀ (s262_1 : Int) (bs262_1 : 0 ≤ s262_1 ∧ s262_1 ≤ 1) (w262_0 : ((s262_1 = 1 ∧ (h187c.1 66 88 ≠ 0 ∨ r187 ≠ 0)) ∨ (s262_1 = 0 ∧ h187c.1 66 88 = 0 ∧ r187 = 0))) (vs262_1 : ((h187c.1 66 88) = 0 ∧ r187 = 0 ∧ s262_1 = 0) ∨ (s262_1 = 1)), mm_W x 0 0 262 [mR 66, mU, mU, mU, mU, mI x137_5, mU, mU] [mI s262_1, mR 66] h187c := by
                    intro s262_1 bs262_1 w262_0 vs262_1
                    refine mm_puti C fl_X12_478 (mm_dec dk_X12_asks 143 rfl) rfl rfl rfl (Or.inr ⟨rfl, rfl, by omega⟩) ?_
                    have i12 : mm_inv (mm_pf h187c 66 88 s262_1) := mm_inv_pf i187c (show 0 ≤ s262_1 ∧ s262_1 ≤ 1 from ⟨by omega, by omega⟩) (by decide)
                    have f12 : mm_fr [(66, 39), (66, 48), (66, 52), (66, 53), (66, 54), (66, 87), (66, 88)] [91, 98, 99, 100, 110, 111] h (mm_pf h187c 66 88 s262_1) := mm_fr_pf f187c (by decide)
                    obtain ⟨h12, eh12⟩ : ∃ z, z = mm_pf h187c 66 88 s262_1 := ⟨_, rfl⟩
                    rw [← eh12] at i12 f12 ⊢
                    have qh12 : h12.1 66 88 = s262_1 := by rw [eh12]; exact mm_pf_same _ _ _ _
                    have qh12_143 : h12.1 66 39 = h187c.1 66 39 := by rw [eh12]; exact mm_pf_ne _ _ (by decide)
                    have qh12_144 : h12.1 66 40 = h187c.1 66 40 := by rw [eh12]; exact mm_pf_ne _ _ (by decide)
                    have qh12_145 : h12.1 66 48 = h187c.1 66 48 := by rw [eh12]; exact mm_pf_ne _ _ (by decide)
                    have qh12_146 : h12.1 66 52 = h187c.1 66 52 := by rw [eh12]; exact mm_pf_ne _ _ (by decide)
                    have qh12_147 : h12.1 66 53 = h187c.1 66 53 := by rw [eh12]; exact mm_pf_ne _ _ (by decide)
                    have qh12_148 : h12.1 66 54 = h187c.1 66 54 := by rw [eh12]; exact mm_pf_ne _ _ (by decide)
                    have qh12_149 : h12.1 66 67 = h187c.1 66 67 := by rw [eh12]; exact mm_pf_ne _ _ (by decide)
                    have qh12_150 : h12.1 66 68 = h187c.1 66 68 := by rw [eh12]; exact mm_pf_ne _ _ (by decide)
                    have qh12_151 : h12.1 66 87 = h187c.1 66 87 := by rw [eh12]; exact mm_pf_ne _ _ (by decide)
                    exact J265 h12 i12 f12 (by first | exact fun L w l => mm_asks_s w l (by omega) (by omega) (by omega) (w137_0 L w l) (by omega) (Or.inl ⟨by omega, rfl, rfl⟩) | exact fun L w l => mm_asks_s w l (by omega) (by omega) (by omega) (w137_0 L w l) (by omega) (Or.inr ⟨by omega, r187, zc, Or.inl ⟨by omega, (show _ = mm_w (h187c.1 66 87 + s237_2) by first | omega | assumption).trans (by rw [w237_0, show h187c.1 66 87 = h137_.1 66 87 by omega]), by omega⟩⟩) | exact fun L w l => mm_asks_s w l (by omega) (by omega) (by omega) (w137_0 L w l) (by omega) (Or.inr ⟨by omega, r187, zc, Or.inr ⟨by omega, by omega, by omega⟩⟩)) (by first | exact w137_1 | exact fun j a b => (show h12.2.1 110 j = _ from (by (first | rw [eh12] | rw [eh13] | skip); exact g187c.2 110 (by decide) j)).trans (w137_1 j a b)) (by first | exact w137_2 | exact fun j => (show h12.2.1 100 j = _ from (by (first | rw [eh12] | rw [eh13] | skip); exact g187c.2 100 (by decide) j)).trans (w137_2 j)) (by first | exact w137_3 | exact fun j => (show h12.2.1 98 j = _ from (by (first | rw [eh12] | rw [eh13] | skip); exact g187c.2 98 (by decide) j)).trans (w137_3 j)) (by omega) (by omega) (by omega) (by omega)
                  have J257 : ∀ (w257_0 : (h187c.1 66 88 ≠ 0 ∨ r187 ≠ 0)), mm_W x 0 0 257 [mR 66, mU, mU, mU, mU, mI x137_5, mU, mU] [mR 66] h187c := by
                    intro w257_0
                    refine mm_iconst C (mm_dec dk_X12_asks 140 rfl) ⟨by decide, by decide⟩ ?_
                    refine mm_goto (tgt := 262) C (mm_dec dk_X12_asks 141 rfl) (by decide) ?_
                    exact J262 1 ⟨by omega, by omega⟩ (by omega) (Or.inr (rfl))
                  refine mm_if_ne (tgt := 257) C (mm_dec dk_X12_asks 137 rfl) (by decide) (fun c249 => ?_) (fun c249 => ?_)
                  · skip
                    refine mm_fgt 6 ?_
                    refine mm_fgt 7 ?_
                    exact J257 (by omega)
                  · skip
                    refine mm_iload C (mm_dec dk_X12_asks 138 rfl) rfl ?_
                    refine mm_if_eq (tgt := 261) C (mm_dec dk_X12_asks 139 rfl) (by decide) (fun c254 => ?_) (fun c254 => ?_)
                    · skip
                      refine mm_iconst C (mm_dec dk_X12_asks 142 rfl) ⟨by decide, by decide⟩ ?_
                      refine mm_fgt 6 ?_
                      refine mm_fgt 7 ?_
                      exact J262 0 ⟨by omega, by omega⟩ (by omega) (Or.inl ⟨by omega, by omega, rfl⟩)
                    · skip
                      refine mm_fgt 6 ?_
                      refine mm_fgt 7 ?_
                      exact J257 (by omega)
                · skip
                  refine mm_aload_n C (mm_dec dk_X12_asks 117 rfl) rfl ?_
                  refine mm_dup C (mm_dec dk_X12_asks 118 rfl) (show (2 : Nat) ≠ 1 by decide) ?_
                  refine mm_geti C fl_X12_475 (mm_dec dk_X12_asks 119 rfl) rfl rfl (Or.inl rfl) ?_
                  refine mm_iload C (mm_dec dk_X12_asks 120 rfl) rfl ?_
                  refine mm_sipush C (mm_dec dk_X12_asks 121 rfl) ⟨by decide, by decide⟩ ?_
                  have J237 : ∀ (s237_2 : Int) (bs237_2 : -9999 ≤ s237_2 ∧ s237_2 ≤ 9999) (w237_0 : s237_2 = mm_clp r187), mm_W x 0 0 237 [mR 66, mU, mU, mU, mU, mI x137_5, mU, mU] [mI s237_2, mI (h187c.1 66 87), mR 66] h187c := by
                    intro s237_2 bs237_2 w237_0
                    refine mm_iaddw C (mm_dec dk_X12_asks 131 rfl) ?_
                    have g152 : -2147483648 ≤ (mm_w ((h187c.1 66 87) + s237_2)) ∧ (mm_w ((h187c.1 66 87) + s237_2)) < 2147483648 := mm_w_rg _
                    refine mm_puti C fl_X12_475 (mm_dec dk_X12_asks 132 rfl) rfl rfl rfl (Or.inl ⟨rfl, rfl⟩) ?_
                    have i13 : mm_inv (mm_pf h187c 66 87 (mm_w ((h187c.1 66 87) + s237_2))) := mm_inv_pf i187c (show -2147483648 ≤ (mm_w ((h187c.1 66 87) + s237_2)) ∧ (mm_w ((h187c.1 66 87) + s237_2)) ≤ 2147483647 from ⟨by omega, by omega⟩) (by decide)
                    have f13 : mm_fr [(66, 39), (66, 48), (66, 52), (66, 53), (66, 54), (66, 87), (66, 88)] [91, 98, 99, 100, 110, 111] h (mm_pf h187c 66 87 (mm_w ((h187c.1 66 87) + s237_2))) := mm_fr_pf f187c (by decide)
                    obtain ⟨h13, eh13⟩ : ∃ z, z = mm_pf h187c 66 87 (mm_w ((h187c.1 66 87) + s237_2)) := ⟨_, rfl⟩
                    rw [← eh13] at i13 f13 ⊢
                    have qh13 : h13.1 66 87 = (mm_w ((h187c.1 66 87) + s237_2)) := by rw [eh13]; exact mm_pf_same _ _ _ _
                    have qh13_153 : h13.1 66 39 = h187c.1 66 39 := by rw [eh13]; exact mm_pf_ne _ _ (by decide)
                    have qh13_154 : h13.1 66 40 = h187c.1 66 40 := by rw [eh13]; exact mm_pf_ne _ _ (by decide)
                    have qh13_155 : h13.1 66 48 = h187c.1 66 48 := by rw [eh13]; exact mm_pf_ne _ _ (by decide)
                    have qh13_156 : h13.1 66 52 = h187c.1 66 52 := by rw [eh13]; exact mm_pf_ne _ _ (by decide)
                    have qh13_157 : h13.1 66 53 = h187c.1 66 53 := by rw [eh13]; exact mm_pf_ne _ _ (by decide)
                    have qh13_158 : h13.1 66 54 = h187c.1 66 54 := by rw [eh13]; exact mm_pf_ne _ _ (by decide)
                    have qh13_159 : h13.1 66 67 = h187c.1 66 67 := by rw [eh13]; exact mm_pf_ne _ _ (by decide)
                    have qh13_160 : h13.1 66 68 = h187c.1 66 68 := by rw [eh13]; exact mm_pf_ne _ _ (by decide)
                    have qh13_161 : h13.1 66 88 = h187c.1 66 88 := by rw [eh13]; exact mm_pf_ne _ _ (by decide)
                    refine mm_goto (tgt := 265) C (mm_dec dk_X12_asks 133 rfl) (by decide) ?_
                    exact J265 h13 i13 f13 (by first | exact fun L w l => mm_asks_s w l (by omega) (by omega) (by omega) (w137_0 L w l) (by omega) (Or.inl ⟨by omega, rfl, rfl⟩) | exact fun L w l => mm_asks_s w l (by omega) (by omega) (by omega) (w137_0 L w l) (by omega) (Or.inr ⟨by omega, r187, zc, Or.inl ⟨by omega, (show _ = mm_w (h187c.1 66 87 + s237_2) by first | omega | assumption).trans (by rw [w237_0, show h187c.1 66 87 = h137_.1 66 87 by omega]), by omega⟩⟩) | exact fun L w l => mm_asks_s w l (by omega) (by omega) (by omega) (w137_0 L w l) (by omega) (Or.inr ⟨by omega, r187, zc, Or.inr ⟨by omega, by omega, by omega⟩⟩)) (by first | exact w137_1 | exact fun j a b => (show h13.2.1 110 j = _ from (by (first | rw [eh12] | rw [eh13] | skip); exact g187c.2 110 (by decide) j)).trans (w137_1 j a b)) (by first | exact w137_2 | exact fun j => (show h13.2.1 100 j = _ from (by (first | rw [eh12] | rw [eh13] | skip); exact g187c.2 100 (by decide) j)).trans (w137_2 j)) (by first | exact w137_3 | exact fun j => (show h13.2.1 98 j = _ from (by (first | rw [eh12] | rw [eh13] | skip); exact g187c.2 98 (by decide) j)).trans (w137_3 j)) (by omega) (by omega) (by omega) (by omega)
                  refine mm_icmp_ge (tgt := 221) C (mm_dec dk_X12_asks 122 rfl) (by decide) (fun c212 => ?_) (fun c212 => ?_)
                  · skip
                    refine mm_iload C (mm_dec dk_X12_asks 125 rfl) rfl ?_
                    refine mm_sipush C (mm_dec dk_X12_asks 126 rfl) ⟨by decide, by decide⟩ ?_
                    refine mm_icmp_le (tgt := 235) C (mm_dec dk_X12_asks 127 rfl) (by decide) (fun c226 => ?_) (fun c226 => ?_)
                    · skip
                      refine mm_iload C (mm_dec dk_X12_asks 130 rfl) rfl ?_
                      refine mm_fgt 6 ?_
                      refine mm_fgt 7 ?_
                      exact J237 r187 ⟨by omega, by omega⟩ (by (unfold mm_clp; (repeat' split) <;> omega))
                    · skip
                      refine mm_sipush C (mm_dec dk_X12_asks 128 rfl) ⟨by decide, by decide⟩ ?_
                      refine mm_goto (tgt := 237) C (mm_dec dk_X12_asks 129 rfl) (by decide) ?_
                      refine mm_fgt 6 ?_
                      refine mm_fgt 7 ?_
                      exact J237 9999 ⟨by omega, by omega⟩ (by (unfold mm_clp; (repeat' split) <;> omega))
                  · skip
                    refine mm_sipush C (mm_dec dk_X12_asks 123 rfl) ⟨by decide, by decide⟩ ?_
                    refine mm_goto (tgt := 237) C (mm_dec dk_X12_asks 124 rfl) (by decide) ?_
                    refine mm_fgt 6 ?_
                    refine mm_fgt 7 ?_
                    exact J237 (-9999) ⟨by omega, by omega⟩ (by (unfold mm_clp; (repeat' split) <;> omega))
              · skip
                refine mm_goto (tgt := 265) C (mm_dec dk_X12_asks 107 rfl) (by decide) ?_
                refine mm_fgt 6 ?_
                exact J265 h137_ i137_ f137_ (by first | exact fun L w l => mm_asks_s w l (by omega) (by omega) (by omega) (w137_0 L w l) (by omega) (Or.inl ⟨by omega, rfl, rfl⟩) | exact fun L w l => mm_asks_s w l (by omega) (by omega) (by omega) (w137_0 L w l) (by omega) (Or.inr ⟨by omega, r187, zc, Or.inl ⟨by omega, (show _ = mm_w (h187c.1 66 87 + s237_2) by first | omega | assumption).trans (by rw [w237_0, show h187c.1 66 87 = h137_.1 66 87 by omega]), by omega⟩⟩) | exact fun L w l => mm_asks_s w l (by omega) (by omega) (by omega) (w137_0 L w l) (by omega) (Or.inr ⟨by omega, r187, zc, Or.inr ⟨by omega, by omega, by omega⟩⟩)) (by first | exact w137_1 | exact fun j a b => (show h137_.2.1 110 j = _ from (by (first | rw [eh12] | rw [eh13] | skip); exact g187c.2 110 (by decide) j)).trans (w137_1 j a b)) (by first | exact w137_2 | exact fun j => (show h137_.2.1 100 j = _ from (by (first | rw [eh12] | rw [eh13] | skip); exact g187c.2 100 (by decide) j)).trans (w137_2 j)) (by first | exact w137_3 | exact fun j => (show h137_.2.1 98 j = _ from (by (first | rw [eh12] | rw [eh13] | skip); exact g187c.2 98 (by decide) j)).trans (w137_3 j)) (by omega) (by omega) (by omega) (by omega)
      refine mm_istoreL (ls2 := [mR 66, mU, mU, mU, mU, mI 0, mU, mU]) C (mm_dec dk_X12_asks 83 rfl) (by decide) rfl ?_
      exact J137 (((20 - 0) : Int) + 1).toNat 0 ⟨by omega, by omega⟩ h10 i10 f10 (by first | exact w265_0 | exact fun L w l => mm_two (by omega) (by omega)) (by first | exact w265_1 | exact fun j j0 j1 => (show h10.2.1 110 j = h8.2.1 110 j from (by rw [eh10, eh9]; rfl)).trans (mm_vv9_at (a := h3c.1 66 52) (b := h3c.1 66 53) (c := mm_rn9 r9 r16) (d := h3c.1 66 54) (e := mm_nY h p1) (f := h.2.1 86 p1) (g := if h.2.1 83 (h.2.1 85 p1) ≠ 0 then 1 else 0) (((mm_pa_off eh8 (by omega)).trans ((mm_pa_off eh7 (by omega)).trans ((mm_pa_off eh6 (by omega)).trans ((mm_pa_off eh5 (by omega)).trans ((mm_pa_off eh4 (by omega)).trans ((mm_pa_off eh3 (by omega)).trans (mm_pa_at eh2 (by omega)))))))).trans (by omega)) (((mm_pa_off eh8 (by omega)).trans ((mm_pa_off eh7 (by omega)).trans ((mm_pa_off eh6 (by omega)).trans ((mm_pa_off eh5 (by omega)).trans ((mm_pa_off eh4 (by omega)).trans (mm_pa_at eh3 (by omega))))))).trans (by omega)) (((mm_pa_off eh8 (by omega)).trans ((mm_pa_off eh7 (by omega)).trans ((mm_pa_off eh6 (by omega)).trans ((mm_pa_off eh5 (by omega)).trans (mm_pa_at eh4 (by omega)))))).trans w65_0) (((mm_pa_off eh8 (by omega)).trans ((mm_pa_off eh7 (by omega)).trans ((mm_pa_off eh6 (by omega)).trans (mm_pa_at eh5 (by omega))))).trans (by omega)) (((mm_pa_off eh8 (by omega)).trans ((mm_pa_off eh7 (by omega)).trans (mm_pa_at eh6 (by omega)))).trans (by omega)) (((mm_pa_off eh8 (by omega)).trans (mm_pa_at eh7 (by omega))).trans z86) ((mm_pa_at eh8 (by omega)).trans w123_0) j j0 j1)) (by first | exact w265_2 | exact (fun j => (show h10.2.1 100 j = h8.2.1 100 j from by rw [eh10, eh9]; rfl).trans ((mm_sm_pa 100 eh8 (by decide) j).trans ((mm_sm_pa 100 eh7 (by decide) j).trans ((mm_sm_pa 100 eh6 (by decide) j).trans ((mm_sm_pa 100 eh5 (by decide) j).trans ((mm_sm_pa 100 eh4 (by decide) j).trans ((mm_sm_pa 100 eh3 (by decide) j).trans ((mm_sm_pa 100 eh2 (by decide) j)))))))))) (by first | exact w265_3 | exact (fun j => (show h10.2.1 98 j = h8.2.1 98 j from by rw [eh10, eh9]; rfl).trans ((mm_sm_pa 98 eh8 (by decide) j).trans ((mm_sm_pa 98 eh7 (by decide) j).trans ((mm_sm_pa 98 eh6 (by decide) j).trans ((mm_sm_pa 98 eh5 (by decide) j).trans ((mm_sm_pa 98 eh4 (by decide) j).trans ((mm_sm_pa 98 eh3 (by decide) j).trans ((mm_sm_pa 98 eh2 (by decide) j)))))))))) (by omega) (by omega) (by omega) (by omega) (by omega)
    refine mm_if_eq (tgt := 122) C (mm_dec dk_X12_asks 71 rfl) (by decide) (fun c115 => ?_) (fun c115 => ?_)
    · skip
      refine mm_iconst C (mm_dec dk_X12_asks 74 rfl) ⟨by decide, by decide⟩ ?_
      refine mm_fgt 1 ?_
      exact J123 0 ⟨by omega, by omega⟩ (by first | exact (if_pos (by omega)).symm | exact (if_neg (by omega)).symm) (Or.inl ⟨by omega, rfl⟩)
    · skip
      refine mm_iconst C (mm_dec dk_X12_asks 72 rfl) ⟨by decide, by decide⟩ ?_
      refine mm_goto (tgt := 123) C (mm_dec dk_X12_asks 73 rfl) (by decide) ?_
      refine mm_fgt 1 ?_
      exact J123 1 ⟨by omega, by omega⟩ (by first | exact (if_pos (by omega)).symm | exact (if_neg (by omega)).symm) (Or.inr (⟨by omega, rfl⟩))
  have J57 : ∀ (w57_0 : (r9 = -1 ∨ r16 = -1)), mm_W x 0 0 57 [mR 66, mI p1, mU, mU, mU, mU, mU, mU] [mI 2, mR 110] h3 := by
    intro w57_0
    refine mm_iconst C (mm_dec dk_X12_asks 35 rfl) ⟨by decide, by decide⟩ ?_
    refine mm_goto (tgt := 65) C (mm_dec dk_X12_asks 36 rfl) (by decide) ?_
    exact J65 0 ⟨by omega, by omega⟩ (by first | exact (if_pos w57_0).symm | exact (if_neg (by omega)).symm)
  refine mm_icmp_eq (tgt := 57) C (mm_dec dk_X12_asks 31 rfl) (by decide) (fun c48 => ?_) (fun c48 => ?_)
  · skip
    refine mm_fgt 2 ?_
    refine mm_fgt 3 ?_
    refine mm_fgt 4 ?_
    exact J57 (by omega)
  · skip
    refine mm_iload C (mm_dec dk_X12_asks 32 rfl) rfl ?_
    refine mm_iconst C (mm_dec dk_X12_asks 33 rfl) ⟨by decide, by decide⟩ ?_
    refine mm_icmp_ne (tgt := 61) C (mm_dec dk_X12_asks 34 rfl) (by decide) (fun c54 => ?_) (fun c54 => ?_)
    · skip
      refine mm_iload C (mm_dec dk_X12_asks 37 rfl) rfl ?_
      refine mm_iload_n C (mm_dec dk_X12_asks 38 rfl) rfl ?_
      refine mm_isubw C (mm_dec dk_X12_asks 39 rfl) ?_
      have g162 : -2147483648 ≤ (mm_w (r16 - r9)) ∧ (mm_w (r16 - r9)) < 2147483648 := mm_w_rg _
      refine mm_fgt 2 ?_
      refine mm_fgt 3 ?_
      refine mm_fgt 4 ?_
      exact J65 (mm_w (r16 - r9)) ⟨by omega, by omega⟩ (by first | exact (if_pos w57_0).symm | exact (if_neg (by omega)).symm)
    · skip
      refine mm_fgt 2 ?_
      refine mm_fgt 3 ?_
      refine mm_fgt 4 ?_
      exact J57 (by omega)
/-! ===== states, totals and places of the reference ===== -/
def mm_sb9 (ve ou mi : Int) : Int := if ve = 2 ∨ (ve = 0 ∧ ou ≠ 0) then 2 else if ve = 0 ∧ 0 < mi then 3 else 4
def mm_vY9 (h : mH) (p k : Int) : Int := if mm_vb9 (h.2.1 112) (h.2.1 113) (h.2.1 114) (h.2.1 116) p k (h.1 66 82).toNat = -1 then 0 else h.2.1 114 (mm_vb9 (h.2.1 112) (h.2.1 113) (h.2.1 114) (h.2.1 116) p k (h.1 66 82).toNat)
def mm_aY9 (h : mH) (p k : Int) : Int := mm_ad9 (h.2.1 112) (h.2.1 113) (h.2.1 114) (h.2.1 115) p k (h.1 66 82).toNat
def mm_ZY9 (h b : mH) (p k r : Int) : Prop := ∃ s, mm_sY8 h p k s ∧ (((s = -1 ∨ k < s) ∧ r = 0) ∨ (s ≠ -1 ∧ s ≤ k ∧ ∃ f, mm_tm8 (h.2.1 95) (mm_k2 h 2 p k) (h.1 66 40) f ∧ (((f = -1 ∨ f < s) ∧ r = 1) ∨ (f ≠ -1 ∧ s ≤ f ∧ (∃ s' f', mm_AY h b p k s' f') ∧ r = mm_sb9 (mm_vY9 h p k) (b.1 66 88) (b.1 66 52)))))
def mm_tz9 (fr sc ru pe ad : Int) : Int := if fr ≠ 0 then mm_w (mm_w (sc - pe) - ad) else mm_w (mm_w (ru + pe) + ad)
def mm_TY9 (h : mH) (p k r : Int) : Prop := ∃ b st, mm_ZY9 h b p k st ∧ ((st ≠ 4 ∧ r = -100000) ∨ (st = 4 ∧ r = mm_tz9 (h.2.1 83 (h.2.1 85 p)) (b.1 66 54) (b.2.1 110 2) (b.1 66 87) (mm_aY9 h p k)))
def mm_fY9 (h : mH) (p k r : Int) : Prop := mm_tm8 (h.2.1 95) (mm_k2 h 2 p k) (h.1 66 40) r
theorem mm_AY_fr {h a b : mH} {p k s f : Int} (X : mm_AY a b p k s f) (ek : mm_k2 a = mm_k2 h) (e79 : ∀ j, a.2.1 79 j = h.2.1 79 j) (e80 : ∀ j, a.2.1 80 j = h.2.1 80 j) (e82 : ∀ j, a.2.1 82 j = h.2.1 82 j) (e83 : ∀ j, a.2.1 83 j = h.2.1 83 j) (e84 : ∀ j, a.2.1 84 j = h.2.1 84 j) (e85 : ∀ j, a.2.1 85 j = h.2.1 85 j) (e86 : ∀ j, a.2.1 86 j = h.2.1 86 j) (e87 : ∀ j, a.2.1 87 j = h.2.1 87 j) (e88 : ∀ j, a.2.1 88 j = h.2.1 88 j) (e89 : ∀ j, a.2.1 89 j = h.2.1 89 j) (e90 : ∀ j, a.2.1 90 j = h.2.1 90 j) (e94 : ∀ j, a.2.1 94 j = h.2.1 94 j) (e95 : ∀ j, a.2.1 95 j = h.2.1 95 j) (e112 : ∀ j, a.2.1 112 j = h.2.1 112 j) (e113 : ∀ j, a.2.1 113 j = h.2.1 113 j) (e114 : ∀ j, a.2.1 114 j = h.2.1 114 j) (e115 : ∀ j, a.2.1 115 j = h.2.1 115 j) (e116 : ∀ j, a.2.1 116 j = h.2.1 116 j) (e102 : ∀ j, a.2.1 102 j = h.2.1 102 j) (e103 : ∀ j, a.2.1 103 j = h.2.1 103 j) (e104 : ∀ j, a.2.1 104 j = h.2.1 104 j) (e105 : ∀ j, a.2.1 105 j = h.2.1 105 j) (e106 : ∀ j, a.2.1 106 j = h.2.1 106 j) (e107 : ∀ j, a.2.1 107 j = h.2.1 107 j) (n40 : a.1 66 40 = h.1 66 40) (n82 : a.1 66 82 = h.1 66 82) (n67 : a.1 66 67 = h.1 66 67) (n68 : a.1 66 68 = h.1 66 68) : mm_AY h b p k s f := by
  obtain ⟨x1, x2, x3, x4, x5, x6, x7, x8⟩ := X
  unfold mm_sY8 at x1
  unfold mm_jY8 mm_rY mm_nY at x3
  unfold mm_mi9 mm_nY at x4
  unfold mm_rY mm_nY at x5 x6
  unfold mm_AY mm_sY8 mm_jY8 mm_mi9 mm_rY mm_nY
  rw [ek, show a.2.1 88 = h.2.1 88 from funext e88, show a.2.1 89 = h.2.1 89 from funext e89, show a.2.1 90 = h.2.1 90 from funext e90, show a.2.1 95 = h.2.1 95 from funext e95, n40] at x1
  rw [ek, show a.2.1 95 = h.2.1 95 from funext e95, n40] at x2
  rw [ek, show a.2.1 80 = h.2.1 80 from funext e80, show a.2.1 82 = h.2.1 82 from funext e82, show a.2.1 83 = h.2.1 83 from funext e83, show a.2.1 84 = h.2.1 84 from funext e84, show a.2.1 85 = h.2.1 85 from funext e85, show a.2.1 87 = h.2.1 87 from funext e87, show a.2.1 94 = h.2.1 94 from funext e94, show a.2.1 95 = h.2.1 95 from funext e95, n40] at x3
  rw [show a.2.1 80 = h.2.1 80 from funext e80, show a.2.1 83 = h.2.1 83 from funext e83, show a.2.1 85 = h.2.1 85 from funext e85] at x4
  rw [ek, show a.2.1 80 = h.2.1 80 from funext e80, show a.2.1 82 = h.2.1 82 from funext e82, show a.2.1 84 = h.2.1 84 from funext e84, show a.2.1 85 = h.2.1 85 from funext e85, show a.2.1 87 = h.2.1 87 from funext e87, show a.2.1 94 = h.2.1 94 from funext e94, n40] at x5
  rw [show a.2.1 80 = h.2.1 80 from funext e80, show a.2.1 82 = h.2.1 82 from funext e82, show a.2.1 84 = h.2.1 84 from funext e84, show a.2.1 85 = h.2.1 85 from funext e85, show a.2.1 87 = h.2.1 87 from funext e87, show a.2.1 79 = h.2.1 79 from funext e79] at x6
  refine ⟨x1, x2, x3, x4, x5, x6, x7, fun L w l => ?_⟩
  have y := x8 L w (mm_lL9_fr l n67 n68 e103 e104 e105 e106 e107)
  rw [show mm_pr a = mm_pr h from funext fun w => mm_pr_sm e102 n67 n68] at y
  unfold mm_yV9 mm_nY at y ⊢
  rw [show a.2.1 80 = h.2.1 80 from funext e80, show a.2.1 83 = h.2.1 83 from funext e83, show a.2.1 85 = h.2.1 85 from funext e85, show a.2.1 86 = h.2.1 86 from funext e86] at y
  exact y
theorem mm_ZY9_fr {h a b : mH} {p k r : Int} (X : mm_ZY9 a b p k r) (ek : mm_k2 a = mm_k2 h) (e79 : ∀ j, a.2.1 79 j = h.2.1 79 j) (e80 : ∀ j, a.2.1 80 j = h.2.1 80 j) (e82 : ∀ j, a.2.1 82 j = h.2.1 82 j) (e83 : ∀ j, a.2.1 83 j = h.2.1 83 j) (e84 : ∀ j, a.2.1 84 j = h.2.1 84 j) (e85 : ∀ j, a.2.1 85 j = h.2.1 85 j) (e86 : ∀ j, a.2.1 86 j = h.2.1 86 j) (e87 : ∀ j, a.2.1 87 j = h.2.1 87 j) (e88 : ∀ j, a.2.1 88 j = h.2.1 88 j) (e89 : ∀ j, a.2.1 89 j = h.2.1 89 j) (e90 : ∀ j, a.2.1 90 j = h.2.1 90 j) (e94 : ∀ j, a.2.1 94 j = h.2.1 94 j) (e95 : ∀ j, a.2.1 95 j = h.2.1 95 j) (e112 : ∀ j, a.2.1 112 j = h.2.1 112 j) (e113 : ∀ j, a.2.1 113 j = h.2.1 113 j) (e114 : ∀ j, a.2.1 114 j = h.2.1 114 j) (e115 : ∀ j, a.2.1 115 j = h.2.1 115 j) (e116 : ∀ j, a.2.1 116 j = h.2.1 116 j) (e102 : ∀ j, a.2.1 102 j = h.2.1 102 j) (e103 : ∀ j, a.2.1 103 j = h.2.1 103 j) (e104 : ∀ j, a.2.1 104 j = h.2.1 104 j) (e105 : ∀ j, a.2.1 105 j = h.2.1 105 j) (e106 : ∀ j, a.2.1 106 j = h.2.1 106 j) (e107 : ∀ j, a.2.1 107 j = h.2.1 107 j) (n40 : a.1 66 40 = h.1 66 40) (n82 : a.1 66 82 = h.1 66 82) (n67 : a.1 66 67 = h.1 66 67) (n68 : a.1 66 68 = h.1 66 68) : mm_ZY9 h b p k r := by
  obtain ⟨s, S, X⟩ := X
  refine ⟨s, mm_sY8_fr S ek e88 e89 e90 e95 n40, ?_⟩
  rcases X with X | ⟨a1, a2, f, T, X⟩
  · exact Or.inl X
  · refine Or.inr ⟨a1, a2, f, by rw [ek, show a.2.1 95 = h.2.1 95 from funext e95, n40] at T; exact T, ?_⟩
    rcases X with X | ⟨b1, b2, ⟨s', f', A⟩, e⟩
    · exact Or.inl X
    · refine Or.inr ⟨b1, b2, ⟨s', f', mm_AY_fr A ek e79 e80 e82 e83 e84 e85 e86 e87 e88 e89 e90 e94 e95 e112 e113 e114 e115 e116 e102 e103 e104 e105 e106 e107 n40 n82 n67 n68⟩, ?_⟩
      unfold mm_vY9 at e ⊢
      rw [show a.2.1 112 = h.2.1 112 from funext e112, show a.2.1 113 = h.2.1 113 from funext e113, show a.2.1 114 = h.2.1 114 from funext e114, show a.2.1 116 = h.2.1 116 from funext e116, n82] at e
      exact e
theorem mm_aY9_fr {h a : mH} {p k r : Int} (y : r = mm_ad9 (a.2.1 112) (a.2.1 113) (a.2.1 114) (a.2.1 115) p k (a.1 66 82).toNat) (e112 : ∀ j, a.2.1 112 j = h.2.1 112 j) (e113 : ∀ j, a.2.1 113 j = h.2.1 113 j) (e114 : ∀ j, a.2.1 114 j = h.2.1 114 j) (e115 : ∀ j, a.2.1 115 j = h.2.1 115 j) (n : a.1 66 82 = h.1 66 82) : r = mm_aY9 h p k := by
  rw [y, show a.2.1 112 = h.2.1 112 from funext e112, show a.2.1 113 = h.2.1 113 from funext e113, show a.2.1 114 = h.2.1 114 from funext e114, show a.2.1 115 = h.2.1 115 from funext e115, n]
  rfl
theorem mm_vY9_fr {h a : mH} {p k r : Int} (y : r = (if mm_vb9 (a.2.1 112) (a.2.1 113) (a.2.1 114) (a.2.1 116) p k (a.1 66 82).toNat = -1 then 0 else a.2.1 114 (mm_vb9 (a.2.1 112) (a.2.1 113) (a.2.1 114) (a.2.1 116) p k (a.1 66 82).toNat))) (e112 : ∀ j, a.2.1 112 j = h.2.1 112 j) (e113 : ∀ j, a.2.1 113 j = h.2.1 113 j) (e114 : ∀ j, a.2.1 114 j = h.2.1 114 j) (e116 : ∀ j, a.2.1 116 j = h.2.1 116 j) (n : a.1 66 82 = h.1 66 82) : r = mm_vY9 h p k := by
  rw [y, show a.2.1 112 = h.2.1 112 from funext e112, show a.2.1 113 = h.2.1 113 from funext e113, show a.2.1 114 = h.2.1 114 from funext e114, show a.2.1 116 = h.2.1 116 from funext e116, n]
  rfl
theorem mm_TY9_fr {h a : mH} {p k r : Int} (X : mm_TY9 a p k r) (ek : mm_k2 a = mm_k2 h) (e79 : ∀ j, a.2.1 79 j = h.2.1 79 j) (e80 : ∀ j, a.2.1 80 j = h.2.1 80 j) (e82 : ∀ j, a.2.1 82 j = h.2.1 82 j) (e83 : ∀ j, a.2.1 83 j = h.2.1 83 j) (e84 : ∀ j, a.2.1 84 j = h.2.1 84 j) (e85 : ∀ j, a.2.1 85 j = h.2.1 85 j) (e86 : ∀ j, a.2.1 86 j = h.2.1 86 j) (e87 : ∀ j, a.2.1 87 j = h.2.1 87 j) (e88 : ∀ j, a.2.1 88 j = h.2.1 88 j) (e89 : ∀ j, a.2.1 89 j = h.2.1 89 j) (e90 : ∀ j, a.2.1 90 j = h.2.1 90 j) (e94 : ∀ j, a.2.1 94 j = h.2.1 94 j) (e95 : ∀ j, a.2.1 95 j = h.2.1 95 j) (e112 : ∀ j, a.2.1 112 j = h.2.1 112 j) (e113 : ∀ j, a.2.1 113 j = h.2.1 113 j) (e114 : ∀ j, a.2.1 114 j = h.2.1 114 j) (e115 : ∀ j, a.2.1 115 j = h.2.1 115 j) (e116 : ∀ j, a.2.1 116 j = h.2.1 116 j) (e102 : ∀ j, a.2.1 102 j = h.2.1 102 j) (e103 : ∀ j, a.2.1 103 j = h.2.1 103 j) (e104 : ∀ j, a.2.1 104 j = h.2.1 104 j) (e105 : ∀ j, a.2.1 105 j = h.2.1 105 j) (e106 : ∀ j, a.2.1 106 j = h.2.1 106 j) (e107 : ∀ j, a.2.1 107 j = h.2.1 107 j) (n40 : a.1 66 40 = h.1 66 40) (n82 : a.1 66 82 = h.1 66 82) (n67 : a.1 66 67 = h.1 66 67) (n68 : a.1 66 68 = h.1 66 68) : mm_TY9 h p k r := by
  obtain ⟨b, st, Z, X⟩ := X
  refine ⟨b, st, mm_ZY9_fr Z ek e79 e80 e82 e83 e84 e85 e86 e87 e88 e89 e90 e94 e95 e112 e113 e114 e115 e116 e102 e103 e104 e105 e106 e107 n40 n82 n67 n68, ?_⟩
  rw [e83, e85, show mm_aY9 a p k = mm_aY9 h p k from mm_aY9_fr rfl e112 e113 e114 e115 n82] at X
  exact X
theorem mm_fY9_fr {h a : mH} {p k r : Int} (T : mm_fY9 a p k r) (ek : mm_k2 a = mm_k2 h) (e95 : ∀ j, a.2.1 95 j = h.2.1 95 j) (n40 : a.1 66 40 = h.1 66 40) : mm_fY9 h p k r := by
  unfold mm_fY9 at T ⊢
  rw [ek, show a.2.1 95 = h.2.1 95 from funext e95, n40] at T
  exact T
/-- who is better -/
def mm_bY9 (h : mH) (fr own run o k : Int) (yes : Prop) : Prop := ∃ to, mm_TY9 h o k to ∧ ((fr = 0 ∧ (yes ↔ to < own)) ∨ (fr ≠ 0 ∧ to ≠ own ∧ (yes ↔ own < to)) ∨ (fr ≠ 0 ∧ to = own ∧ ∃ s f, mm_sY8 h o k s ∧ mm_fY9 h o k f ∧ (yes ↔ mm_w (f - s) < run)))
def mm_PY9 (h : mH) (p k own run : Int) : Nat → Int → Prop
  | 0, n => n = 1
  | i + 1, n => (((i : Int) = p ∨ h.2.1 85 (i : Int) ≠ h.2.1 85 p) ∧ mm_PY9 h p k own run i n) ∨ ((i : Int) ≠ p ∧ h.2.1 85 (i : Int) = h.2.1 85 p ∧ ∃ b st, mm_ZY9 h b (i : Int) k st ∧ ((st ≠ 4 ∧ mm_PY9 h p k own run i n) ∨ (st = 4 ∧ ((mm_bY9 h (h.2.1 83 (h.2.1 85 p)) own run (i : Int) k True ∧ mm_PY9 h p k own run i (n - 1)) ∨ (mm_bY9 h (h.2.1 83 (h.2.1 85 p)) own run (i : Int) k False ∧ mm_PY9 h p k own run i n)))))
theorem mm_PY9_rg {h : mH} {p k own run : Int} : ∀ (i : Nat) (n : Int), mm_PY9 h p k own run i n → 1 ≤ n ∧ n ≤ (i : Int) + 1
  | 0, n, h => by
    have z : n = 1 := h
    omega
  | i + 1, n, h => by
    rcases h with ⟨_, h⟩ | ⟨_, _, b, st, _, ⟨_, h⟩ | ⟨_, ⟨_, h⟩ | ⟨_, h⟩⟩⟩ <;> (have := mm_PY9_rg i _ h; omega)
theorem mm_PY9_n {h : mH} {p k own run i n : Int} (W : mm_PY9 h p k own run i.toNat n) (i0 : 0 ≤ i) (e : i = p ∨ h.2.1 85 i ≠ h.2.1 85 p) : mm_PY9 h p k own run (i + 1).toNat n := by
  rw [show (i + 1).toNat = i.toNat + 1 by omega]
  refine Or.inl ⟨?_, W⟩
  rw [Int.toNat_of_nonneg i0]
  exact e
theorem mm_PY9_z {h b : mH} {p k own run i n st : Int} (W : mm_PY9 h p k own run i.toNat n) (i0 : 0 ≤ i) (e : i ≠ p) (e2 : h.2.1 85 i = h.2.1 85 p) (Z : mm_ZY9 h b i k st) (q : st ≠ 4) : mm_PY9 h p k own run (i + 1).toNat n := by
  rw [show (i + 1).toNat = i.toNat + 1 by omega]
  refine Or.inr ?_
  rw [Int.toNat_of_nonneg i0]
  exact ⟨e, e2, b, st, Z, Or.inl ⟨q, W⟩⟩
theorem mm_PY9_y {h b : mH} {p k own run i n st : Int} (W : mm_PY9 h p k own run i.toNat n) (i0 : 0 ≤ i) (e : i ≠ p) (e2 : h.2.1 85 i = h.2.1 85 p) (Z : mm_ZY9 h b i k st) (q : st = 4) (B : mm_bY9 h (h.2.1 83 (h.2.1 85 p)) own run i k True) : mm_PY9 h p k own run (i + 1).toNat (n + 1) := by
  rw [show (i + 1).toNat = i.toNat + 1 by omega]
  refine Or.inr ?_
  rw [Int.toNat_of_nonneg i0]
  exact ⟨e, e2, b, st, Z, Or.inr ⟨q, Or.inl ⟨B, by rw [show n + 1 - 1 = n by omega]; exact W⟩⟩⟩
theorem mm_PY9_w {h b : mH} {p k own run i n st : Int} (W : mm_PY9 h p k own run i.toNat n) (i0 : 0 ≤ i) (e : i ≠ p) (e2 : h.2.1 85 i = h.2.1 85 p) (Z : mm_ZY9 h b i k st) (q : st = 4) (B : mm_bY9 h (h.2.1 83 (h.2.1 85 p)) own run i k False) : mm_PY9 h p k own run (i + 1).toNat n := by
  rw [show (i + 1).toNat = i.toNat + 1 by omega]
  refine Or.inr ?_
  rw [Int.toNat_of_nonneg i0]
  exact ⟨e, e2, b, st, Z, Or.inr ⟨q, Or.inr ⟨B, W⟩⟩⟩
def mm_plY9 (h : mH) (p k r : Int) : Prop := ∃ b st, mm_ZY9 h b p k st ∧ ((st ≠ 4 ∧ r = -1) ∨ (st = 4 ∧ ∃ own s f, mm_TY9 h p k own ∧ mm_sY8 h p k s ∧ mm_fY9 h p k f ∧ mm_PY9 h p k own (mm_w (f - s)) (h.1 66 23).toNat r))
/-! teams -/
def mm_tY9 (h : mH) (t k : Int) : Nat → Int → Prop
  | 0, s => s = 0
  | i + 1, s => ∃ b st s0, mm_tY9 h t k i s0 ∧ mm_ZY9 h b (h.2.1 90 (3 * t + i)) k st ∧ st = 4 ∧ s = mm_w (s0 + mm_w (b.1 66 87 + mm_aY9 h (h.2.1 90 (3 * t + i)) k))
def mm_UY9 (h : mH) (t k x r : Int) : Prop := (x = 1 ∧ ∃ s f st, mm_tY9 h t k 3 s ∧ mm_fY9 h (h.2.1 90 (3 * t + 2)) k f ∧ mm_sY8 h (h.2.1 90 (3 * t)) k st ∧ r = mm_w (mm_w (s + f) - st)) ∨ (x = 0 ∧ r = -100000 ∧ ∃ (i : Nat) (s : Int) (b : mH) (st : Int), i < 3 ∧ mm_tY9 h t k i s ∧ mm_ZY9 h b (h.2.1 90 (3 * t + i)) k st ∧ st ≠ 4)
def mm_QY9 (h : mH) (t k own : Int) : Nat → Int → Prop
  | 0, n => n = 1
  | i + 1, n => (h.2.1 85 (h.2.1 90 (3 * (i : Int))) ≠ h.2.1 85 (h.2.1 90 (3 * t)) ∧ mm_QY9 h t k own i n) ∨ (h.2.1 85 (h.2.1 90 (3 * (i : Int))) = h.2.1 85 (h.2.1 90 (3 * t)) ∧ ∃ x v, mm_UY9 h (i : Int) k x v ∧ ((x = 1 ∧ v < own ∧ mm_QY9 h t k own i (n - 1)) ∨ ((x = 0 ∨ own ≤ v) ∧ mm_QY9 h t k own i n)))
theorem mm_QY9_rg {h : mH} {t k own : Int} : ∀ (i : Nat) (n : Int), mm_QY9 h t k own i n → 1 ≤ n ∧ n ≤ (i : Int) + 1
  | 0, n, h => by
    have z : n = 1 := h
    omega
  | i + 1, n, h => by
    rcases h with ⟨_, h⟩ | ⟨_, x, v, _, ⟨_, _, h⟩ | ⟨_, h⟩⟩ <;> (have := mm_QY9_rg i _ h; omega)
theorem mm_QY9_n {h : mH} {t k own i n : Int} (W : mm_QY9 h t k own i.toNat n) (i0 : 0 ≤ i) (e : h.2.1 85 (h.2.1 90 (3 * i)) ≠ h.2.1 85 (h.2.1 90 (3 * t))) : mm_QY9 h t k own (i + 1).toNat n := by
  rw [show (i + 1).toNat = i.toNat + 1 by omega]
  refine Or.inl ⟨?_, W⟩
  rw [Int.toNat_of_nonneg i0]
  exact e
theorem mm_QY9_y {h : mH} {t k own i n x v : Int} (W : mm_QY9 h t k own i.toNat n) (i0 : 0 ≤ i) (e : h.2.1 85 (h.2.1 90 (3 * i)) = h.2.1 85 (h.2.1 90 (3 * t))) (U : mm_UY9 h i k x v) (B : x = 1 ∧ v < own) : mm_QY9 h t k own (i + 1).toNat (n + 1) := by
  rw [show (i + 1).toNat = i.toNat + 1 by omega]
  refine Or.inr ?_
  rw [Int.toNat_of_nonneg i0]
  exact ⟨e, x, v, U, Or.inl ⟨B.1, B.2, by rw [show n + 1 - 1 = n by omega]; exact W⟩⟩
theorem mm_QY9_w {h : mH} {t k own i n x v : Int} (W : mm_QY9 h t k own i.toNat n) (i0 : 0 ≤ i) (e : h.2.1 85 (h.2.1 90 (3 * i)) = h.2.1 85 (h.2.1 90 (3 * t))) (U : mm_UY9 h i k x v) (B : x = 0 ∨ own ≤ v) : mm_QY9 h t k own (i + 1).toNat n := by
  rw [show (i + 1).toNat = i.toNat + 1 by omega]
  refine Or.inr ?_
  rw [Int.toNat_of_nonneg i0]
  exact ⟨e, x, v, U, Or.inr ⟨B, W⟩⟩
theorem mm_tY9_s {h b : mH} {t k i s v st m : Int} (W : mm_tY9 h t k i.toNat s) (i0 : 0 ≤ i) (hm : m = h.2.1 90 (3 * t + i)) (Z : mm_ZY9 h b m k st) (q : st = 4) (hv : v = mm_w (s + mm_w (b.1 66 87 + mm_aY9 h m k))) : mm_tY9 h t k (i + 1).toNat v := by
  subst hm
  rw [show (i + 1).toNat = i.toNat + 1 by omega]
  exact ⟨b, st, s, W, by rw [Int.toNat_of_nonneg i0]; exact Z, q, by rw [Int.toNat_of_nonneg i0]; exact hv⟩
theorem mm_tY9_fr {h a : mH} {t k : Int} (ek : mm_k2 a = mm_k2 h) (e79 : ∀ j, a.2.1 79 j = h.2.1 79 j) (e80 : ∀ j, a.2.1 80 j = h.2.1 80 j) (e82 : ∀ j, a.2.1 82 j = h.2.1 82 j) (e83 : ∀ j, a.2.1 83 j = h.2.1 83 j) (e84 : ∀ j, a.2.1 84 j = h.2.1 84 j) (e85 : ∀ j, a.2.1 85 j = h.2.1 85 j) (e86 : ∀ j, a.2.1 86 j = h.2.1 86 j) (e87 : ∀ j, a.2.1 87 j = h.2.1 87 j) (e88 : ∀ j, a.2.1 88 j = h.2.1 88 j) (e89 : ∀ j, a.2.1 89 j = h.2.1 89 j) (e90 : ∀ j, a.2.1 90 j = h.2.1 90 j) (e94 : ∀ j, a.2.1 94 j = h.2.1 94 j) (e95 : ∀ j, a.2.1 95 j = h.2.1 95 j) (e112 : ∀ j, a.2.1 112 j = h.2.1 112 j) (e113 : ∀ j, a.2.1 113 j = h.2.1 113 j) (e114 : ∀ j, a.2.1 114 j = h.2.1 114 j) (e115 : ∀ j, a.2.1 115 j = h.2.1 115 j) (e116 : ∀ j, a.2.1 116 j = h.2.1 116 j) (e102 : ∀ j, a.2.1 102 j = h.2.1 102 j) (e103 : ∀ j, a.2.1 103 j = h.2.1 103 j) (e104 : ∀ j, a.2.1 104 j = h.2.1 104 j) (e105 : ∀ j, a.2.1 105 j = h.2.1 105 j) (e106 : ∀ j, a.2.1 106 j = h.2.1 106 j) (e107 : ∀ j, a.2.1 107 j = h.2.1 107 j) (n40 : a.1 66 40 = h.1 66 40) (n82 : a.1 66 82 = h.1 66 82) (n67 : a.1 66 67 = h.1 66 67) (n68 : a.1 66 68 = h.1 66 68) : ∀ (i : Nat) (s : Int), mm_tY9 a t k i s → mm_tY9 h t k i s
  | 0, _, w => w
  | i + 1, s, ⟨b, st, s0, w, Z, q, e⟩ => ⟨b, st, s0, mm_tY9_fr ek e79 e80 e82 e83 e84 e85 e86 e87 e88 e89 e90 e94 e95 e112 e113 e114 e115 e116 e102 e103 e104 e105 e106 e107 n40 n82 n67 n68 i s0 w, by rw [← e90]; exact mm_ZY9_fr Z ek e79 e80 e82 e83 e84 e85 e86 e87 e88 e89 e90 e94 e95 e112 e113 e114 e115 e116 e102 e103 e104 e105 e106 e107 n40 n82 n67 n68, q, by rw [← e90, ← show mm_aY9 a (a.2.1 90 (3 * t + i)) k = mm_aY9 h (a.2.1 90 (3 * t + i)) k from mm_aY9_fr rfl e112 e113 e114 e115 n82]; exact e⟩
theorem mm_UY9_fr {h a : mH} {t k x r : Int} (X : mm_UY9 a t k x r) (ek : mm_k2 a = mm_k2 h) (e79 : ∀ j, a.2.1 79 j = h.2.1 79 j) (e80 : ∀ j, a.2.1 80 j = h.2.1 80 j) (e82 : ∀ j, a.2.1 82 j = h.2.1 82 j) (e83 : ∀ j, a.2.1 83 j = h.2.1 83 j) (e84 : ∀ j, a.2.1 84 j = h.2.1 84 j) (e85 : ∀ j, a.2.1 85 j = h.2.1 85 j) (e86 : ∀ j, a.2.1 86 j = h.2.1 86 j) (e87 : ∀ j, a.2.1 87 j = h.2.1 87 j) (e88 : ∀ j, a.2.1 88 j = h.2.1 88 j) (e89 : ∀ j, a.2.1 89 j = h.2.1 89 j) (e90 : ∀ j, a.2.1 90 j = h.2.1 90 j) (e94 : ∀ j, a.2.1 94 j = h.2.1 94 j) (e95 : ∀ j, a.2.1 95 j = h.2.1 95 j) (e112 : ∀ j, a.2.1 112 j = h.2.1 112 j) (e113 : ∀ j, a.2.1 113 j = h.2.1 113 j) (e114 : ∀ j, a.2.1 114 j = h.2.1 114 j) (e115 : ∀ j, a.2.1 115 j = h.2.1 115 j) (e116 : ∀ j, a.2.1 116 j = h.2.1 116 j) (e102 : ∀ j, a.2.1 102 j = h.2.1 102 j) (e103 : ∀ j, a.2.1 103 j = h.2.1 103 j) (e104 : ∀ j, a.2.1 104 j = h.2.1 104 j) (e105 : ∀ j, a.2.1 105 j = h.2.1 105 j) (e106 : ∀ j, a.2.1 106 j = h.2.1 106 j) (e107 : ∀ j, a.2.1 107 j = h.2.1 107 j) (n40 : a.1 66 40 = h.1 66 40) (n82 : a.1 66 82 = h.1 66 82) (n67 : a.1 66 67 = h.1 66 67) (n68 : a.1 66 68 = h.1 66 68) : mm_UY9 h t k x r := by
  rcases X with ⟨e, s, f, st, w, F, S, er⟩ | ⟨e, er, i, s, b, st, li, w, Z, q⟩
  · exact Or.inl ⟨e, s, f, st, mm_tY9_fr ek e79 e80 e82 e83 e84 e85 e86 e87 e88 e89 e90 e94 e95 e112 e113 e114 e115 e116 e102 e103 e104 e105 e106 e107 n40 n82 n67 n68 3 s w, by rw [← e90]; exact mm_fY9_fr F ek e95 n40, by rw [← e90]; exact mm_sY8_fr S ek e88 e89 e90 e95 n40, er⟩
  · exact Or.inr ⟨e, er, i, s, b, st, li, mm_tY9_fr ek e79 e80 e82 e83 e84 e85 e86 e87 e88 e89 e90 e94 e95 e112 e113 e114 e115 e116 e102 e103 e104 e105 e106 e107 n40 n82 n67 n68 i s w, by rw [← e90]; exact mm_ZY9_fr Z ek e79 e80 e82 e83 e84 e85 e86 e87 e88 e89 e90 e94 e95 e112 e113 e114 e115 e116 e102 e103 e104 e105 e106 e107 n40 n82 n67 n68, q⟩
def mm_jY9 (h : mH) (p w k r : Int) : Prop := (w = 0 ∧ ∃ b, mm_ZY9 h b p k r) ∨ (w = 1 ∧ mm_sY8 h p k r) ∨ (w = 2 ∧ mm_fY9 h p k r) ∨ (w = 7 ∧ mm_TY9 h p k r) ∨ (w = 8 ∧ mm_plY9 h p k r) ∨ (3 ≤ w ∧ w ≤ 6 ∧ ∃ b s f, mm_AY h b p k s f ∧ ((w = 3 ∧ r = b.1 66 52) ∨ (w = 4 ∧ r = b.1 66 53) ∨ (w = 5 ∧ r = b.1 66 54) ∨ (w = 6 ∧ r = b.1 66 87)))
def mm_oY9 (h : mH) (t w k r : Int) : Prop := ∃ x own, mm_UY9 h t k x own ∧ ((w = 0 ∧ r = own) ∨ (w ≠ 0 ∧ x = 0 ∧ r = -1) ∨ (w ≠ 0 ∧ x = 1 ∧ mm_QY9 h t k own (h.1 66 24).toNat r))
theorem mm_bY9_fr {h a : mH} {fr own run o k : Int} {y : Prop} (X : mm_bY9 a fr own run o k y) (ek : mm_k2 a = mm_k2 h) (e79 : ∀ j, a.2.1 79 j = h.2.1 79 j) (e80 : ∀ j, a.2.1 80 j = h.2.1 80 j) (e82 : ∀ j, a.2.1 82 j = h.2.1 82 j) (e83 : ∀ j, a.2.1 83 j = h.2.1 83 j) (e84 : ∀ j, a.2.1 84 j = h.2.1 84 j) (e85 : ∀ j, a.2.1 85 j = h.2.1 85 j) (e86 : ∀ j, a.2.1 86 j = h.2.1 86 j) (e87 : ∀ j, a.2.1 87 j = h.2.1 87 j) (e88 : ∀ j, a.2.1 88 j = h.2.1 88 j) (e89 : ∀ j, a.2.1 89 j = h.2.1 89 j) (e90 : ∀ j, a.2.1 90 j = h.2.1 90 j) (e94 : ∀ j, a.2.1 94 j = h.2.1 94 j) (e95 : ∀ j, a.2.1 95 j = h.2.1 95 j) (e112 : ∀ j, a.2.1 112 j = h.2.1 112 j) (e113 : ∀ j, a.2.1 113 j = h.2.1 113 j) (e114 : ∀ j, a.2.1 114 j = h.2.1 114 j) (e115 : ∀ j, a.2.1 115 j = h.2.1 115 j) (e116 : ∀ j, a.2.1 116 j = h.2.1 116 j) (e102 : ∀ j, a.2.1 102 j = h.2.1 102 j) (e103 : ∀ j, a.2.1 103 j = h.2.1 103 j) (e104 : ∀ j, a.2.1 104 j = h.2.1 104 j) (e105 : ∀ j, a.2.1 105 j = h.2.1 105 j) (e106 : ∀ j, a.2.1 106 j = h.2.1 106 j) (e107 : ∀ j, a.2.1 107 j = h.2.1 107 j) (n40 : a.1 66 40 = h.1 66 40) (n82 : a.1 66 82 = h.1 66 82) (n67 : a.1 66 67 = h.1 66 67) (n68 : a.1 66 68 = h.1 66 68) : mm_bY9 h fr own run o k y := by
  obtain ⟨to, T, X⟩ := X
  refine ⟨to, mm_TY9_fr T ek e79 e80 e82 e83 e84 e85 e86 e87 e88 e89 e90 e94 e95 e112 e113 e114 e115 e116 e102 e103 e104 e105 e106 e107 n40 n82 n67 n68, ?_⟩
  rcases X with X | X | ⟨x1, x2, s, f, S, F, x3⟩
  · exact Or.inl X
  · exact Or.inr (Or.inl X)
  · exact Or.inr (Or.inr ⟨x1, x2, s, f, mm_sY8_fr S ek e88 e89 e90 e95 n40, mm_fY9_fr F ek e95 n40, x3⟩)
theorem mm_PY9_fr {h a : mH} {p k own run : Int} (ek : mm_k2 a = mm_k2 h) (e79 : ∀ j, a.2.1 79 j = h.2.1 79 j) (e80 : ∀ j, a.2.1 80 j = h.2.1 80 j) (e82 : ∀ j, a.2.1 82 j = h.2.1 82 j) (e83 : ∀ j, a.2.1 83 j = h.2.1 83 j) (e84 : ∀ j, a.2.1 84 j = h.2.1 84 j) (e85 : ∀ j, a.2.1 85 j = h.2.1 85 j) (e86 : ∀ j, a.2.1 86 j = h.2.1 86 j) (e87 : ∀ j, a.2.1 87 j = h.2.1 87 j) (e88 : ∀ j, a.2.1 88 j = h.2.1 88 j) (e89 : ∀ j, a.2.1 89 j = h.2.1 89 j) (e90 : ∀ j, a.2.1 90 j = h.2.1 90 j) (e94 : ∀ j, a.2.1 94 j = h.2.1 94 j) (e95 : ∀ j, a.2.1 95 j = h.2.1 95 j) (e112 : ∀ j, a.2.1 112 j = h.2.1 112 j) (e113 : ∀ j, a.2.1 113 j = h.2.1 113 j) (e114 : ∀ j, a.2.1 114 j = h.2.1 114 j) (e115 : ∀ j, a.2.1 115 j = h.2.1 115 j) (e116 : ∀ j, a.2.1 116 j = h.2.1 116 j) (e102 : ∀ j, a.2.1 102 j = h.2.1 102 j) (e103 : ∀ j, a.2.1 103 j = h.2.1 103 j) (e104 : ∀ j, a.2.1 104 j = h.2.1 104 j) (e105 : ∀ j, a.2.1 105 j = h.2.1 105 j) (e106 : ∀ j, a.2.1 106 j = h.2.1 106 j) (e107 : ∀ j, a.2.1 107 j = h.2.1 107 j) (n40 : a.1 66 40 = h.1 66 40) (n82 : a.1 66 82 = h.1 66 82) (n67 : a.1 66 67 = h.1 66 67) (n68 : a.1 66 68 = h.1 66 68) : ∀ (i : Nat) (n : Int), mm_PY9 a p k own run i n → mm_PY9 h p k own run i n
  | 0, _, w => w
  | i + 1, n, w => by
    have ih := mm_PY9_fr (p := p) (k := k) (own := own) (run := run) ek e79 e80 e82 e83 e84 e85 e86 e87 e88 e89 e90 e94 e95 e112 e113 e114 e115 e116 e102 e103 e104 e105 e106 e107 n40 n82 n67 n68 i
    rcases w with ⟨x, w⟩ | ⟨x1, x2, b, st, Z, w⟩
    · refine Or.inl ⟨?_, ih _ w⟩
      rw [← e85, ← e85]; exact x
    · refine Or.inr ⟨x1, by rw [← e85, ← e85]; exact x2, b, st, mm_ZY9_fr Z ek e79 e80 e82 e83 e84 e85 e86 e87 e88 e89 e90 e94 e95 e112 e113 e114 e115 e116 e102 e103 e104 e105 e106 e107 n40 n82 n67 n68, ?_⟩
      rcases w with ⟨q, w⟩ | ⟨q, ⟨B, w⟩ | ⟨B, w⟩⟩
      · exact Or.inl ⟨q, ih _ w⟩
      · rw [e83, e85] at B
        exact Or.inr ⟨q, Or.inl ⟨mm_bY9_fr B ek e79 e80 e82 e83 e84 e85 e86 e87 e88 e89 e90 e94 e95 e112 e113 e114 e115 e116 e102 e103 e104 e105 e106 e107 n40 n82 n67 n68, ih _ w⟩⟩
      · rw [e83, e85] at B
        exact Or.inr ⟨q, Or.inr ⟨mm_bY9_fr B ek e79 e80 e82 e83 e84 e85 e86 e87 e88 e89 e90 e94 e95 e112 e113 e114 e115 e116 e102 e103 e104 e105 e106 e107 n40 n82 n67 n68, ih _ w⟩⟩
theorem mm_plY9_fr {h a : mH} {p k r : Int} (X : mm_plY9 a p k r) (ek : mm_k2 a = mm_k2 h) (e79 : ∀ j, a.2.1 79 j = h.2.1 79 j) (e80 : ∀ j, a.2.1 80 j = h.2.1 80 j) (e82 : ∀ j, a.2.1 82 j = h.2.1 82 j) (e83 : ∀ j, a.2.1 83 j = h.2.1 83 j) (e84 : ∀ j, a.2.1 84 j = h.2.1 84 j) (e85 : ∀ j, a.2.1 85 j = h.2.1 85 j) (e86 : ∀ j, a.2.1 86 j = h.2.1 86 j) (e87 : ∀ j, a.2.1 87 j = h.2.1 87 j) (e88 : ∀ j, a.2.1 88 j = h.2.1 88 j) (e89 : ∀ j, a.2.1 89 j = h.2.1 89 j) (e90 : ∀ j, a.2.1 90 j = h.2.1 90 j) (e94 : ∀ j, a.2.1 94 j = h.2.1 94 j) (e95 : ∀ j, a.2.1 95 j = h.2.1 95 j) (e112 : ∀ j, a.2.1 112 j = h.2.1 112 j) (e113 : ∀ j, a.2.1 113 j = h.2.1 113 j) (e114 : ∀ j, a.2.1 114 j = h.2.1 114 j) (e115 : ∀ j, a.2.1 115 j = h.2.1 115 j) (e116 : ∀ j, a.2.1 116 j = h.2.1 116 j) (e102 : ∀ j, a.2.1 102 j = h.2.1 102 j) (e103 : ∀ j, a.2.1 103 j = h.2.1 103 j) (e104 : ∀ j, a.2.1 104 j = h.2.1 104 j) (e105 : ∀ j, a.2.1 105 j = h.2.1 105 j) (e106 : ∀ j, a.2.1 106 j = h.2.1 106 j) (e107 : ∀ j, a.2.1 107 j = h.2.1 107 j) (n40 : a.1 66 40 = h.1 66 40) (n82 : a.1 66 82 = h.1 66 82) (n67 : a.1 66 67 = h.1 66 67) (n68 : a.1 66 68 = h.1 66 68) (n23 : a.1 66 23 = h.1 66 23) : mm_plY9 h p k r := by
  obtain ⟨b, st, Z, X⟩ := X
  refine ⟨b, st, mm_ZY9_fr Z ek e79 e80 e82 e83 e84 e85 e86 e87 e88 e89 e90 e94 e95 e112 e113 e114 e115 e116 e102 e103 e104 e105 e106 e107 n40 n82 n67 n68, ?_⟩
  rcases X with X | ⟨q, own, s, f, T, S, F, P⟩
  · exact Or.inl X
  · rw [n23] at P
    exact Or.inr ⟨q, own, s, f, mm_TY9_fr T ek e79 e80 e82 e83 e84 e85 e86 e87 e88 e89 e90 e94 e95 e112 e113 e114 e115 e116 e102 e103 e104 e105 e106 e107 n40 n82 n67 n68, mm_sY8_fr S ek e88 e89 e90 e95 n40, mm_fY9_fr F ek e95 n40, mm_PY9_fr ek e79 e80 e82 e83 e84 e85 e86 e87 e88 e89 e90 e94 e95 e112 e113 e114 e115 e116 e102 e103 e104 e105 e106 e107 n40 n82 n67 n68 _ _ P⟩
theorem mm_jY9_fr {h a : mH} {p w k r : Int} (X : mm_jY9 a p w k r) (ek : mm_k2 a = mm_k2 h) (e79 : ∀ j, a.2.1 79 j = h.2.1 79 j) (e80 : ∀ j, a.2.1 80 j = h.2.1 80 j) (e82 : ∀ j, a.2.1 82 j = h.2.1 82 j) (e83 : ∀ j, a.2.1 83 j = h.2.1 83 j) (e84 : ∀ j, a.2.1 84 j = h.2.1 84 j) (e85 : ∀ j, a.2.1 85 j = h.2.1 85 j) (e86 : ∀ j, a.2.1 86 j = h.2.1 86 j) (e87 : ∀ j, a.2.1 87 j = h.2.1 87 j) (e88 : ∀ j, a.2.1 88 j = h.2.1 88 j) (e89 : ∀ j, a.2.1 89 j = h.2.1 89 j) (e90 : ∀ j, a.2.1 90 j = h.2.1 90 j) (e94 : ∀ j, a.2.1 94 j = h.2.1 94 j) (e95 : ∀ j, a.2.1 95 j = h.2.1 95 j) (e112 : ∀ j, a.2.1 112 j = h.2.1 112 j) (e113 : ∀ j, a.2.1 113 j = h.2.1 113 j) (e114 : ∀ j, a.2.1 114 j = h.2.1 114 j) (e115 : ∀ j, a.2.1 115 j = h.2.1 115 j) (e116 : ∀ j, a.2.1 116 j = h.2.1 116 j) (e102 : ∀ j, a.2.1 102 j = h.2.1 102 j) (e103 : ∀ j, a.2.1 103 j = h.2.1 103 j) (e104 : ∀ j, a.2.1 104 j = h.2.1 104 j) (e105 : ∀ j, a.2.1 105 j = h.2.1 105 j) (e106 : ∀ j, a.2.1 106 j = h.2.1 106 j) (e107 : ∀ j, a.2.1 107 j = h.2.1 107 j) (n40 : a.1 66 40 = h.1 66 40) (n82 : a.1 66 82 = h.1 66 82) (n67 : a.1 66 67 = h.1 66 67) (n68 : a.1 66 68 = h.1 66 68) (n23 : a.1 66 23 = h.1 66 23) : mm_jY9 h p w k r := by
  rcases X with ⟨x, b, Z⟩ | ⟨x, S⟩ | ⟨x, F⟩ | ⟨x, T⟩ | ⟨x, P⟩ | ⟨x1, x2, b, s, f, A, X⟩
  · exact Or.inl ⟨x, b, mm_ZY9_fr Z ek e79 e80 e82 e83 e84 e85 e86 e87 e88 e89 e90 e94 e95 e112 e113 e114 e115 e116 e102 e103 e104 e105 e106 e107 n40 n82 n67 n68⟩
  · exact Or.inr (Or.inl ⟨x, mm_sY8_fr S ek e88 e89 e90 e95 n40⟩)
  · exact Or.inr (Or.inr (Or.inl ⟨x, mm_fY9_fr F ek e95 n40⟩))
  · exact Or.inr (Or.inr (Or.inr (Or.inl ⟨x, mm_TY9_fr T ek e79 e80 e82 e83 e84 e85 e86 e87 e88 e89 e90 e94 e95 e112 e113 e114 e115 e116 e102 e103 e104 e105 e106 e107 n40 n82 n67 n68⟩)))
  · exact Or.inr (Or.inr (Or.inr (Or.inr (Or.inl ⟨x, mm_plY9_fr P ek e79 e80 e82 e83 e84 e85 e86 e87 e88 e89 e90 e94 e95 e112 e113 e114 e115 e116 e102 e103 e104 e105 e106 e107 n40 n82 n67 n68 n23⟩))))
  · exact Or.inr (Or.inr (Or.inr (Or.inr (Or.inr ⟨x1, x2, b, s, f, mm_AY_fr A ek e79 e80 e82 e83 e84 e85 e86 e87 e88 e89 e90 e94 e95 e112 e113 e114 e115 e116 e102 e103 e104 e105 e106 e107 n40 n82 n67 n68, X⟩))))
theorem mm_QY9_fr {h a : mH} {t k own : Int} (ek : mm_k2 a = mm_k2 h) (e79 : ∀ j, a.2.1 79 j = h.2.1 79 j) (e80 : ∀ j, a.2.1 80 j = h.2.1 80 j) (e82 : ∀ j, a.2.1 82 j = h.2.1 82 j) (e83 : ∀ j, a.2.1 83 j = h.2.1 83 j) (e84 : ∀ j, a.2.1 84 j = h.2.1 84 j) (e85 : ∀ j, a.2.1 85 j = h.2.1 85 j) (e86 : ∀ j, a.2.1 86 j = h.2.1 86 j) (e87 : ∀ j, a.2.1 87 j = h.2.1 87 j) (e88 : ∀ j, a.2.1 88 j = h.2.1 88 j) (e89 : ∀ j, a.2.1 89 j = h.2.1 89 j) (e90 : ∀ j, a.2.1 90 j = h.2.1 90 j) (e94 : ∀ j, a.2.1 94 j = h.2.1 94 j) (e95 : ∀ j, a.2.1 95 j = h.2.1 95 j) (e112 : ∀ j, a.2.1 112 j = h.2.1 112 j) (e113 : ∀ j, a.2.1 113 j = h.2.1 113 j) (e114 : ∀ j, a.2.1 114 j = h.2.1 114 j) (e115 : ∀ j, a.2.1 115 j = h.2.1 115 j) (e116 : ∀ j, a.2.1 116 j = h.2.1 116 j) (e102 : ∀ j, a.2.1 102 j = h.2.1 102 j) (e103 : ∀ j, a.2.1 103 j = h.2.1 103 j) (e104 : ∀ j, a.2.1 104 j = h.2.1 104 j) (e105 : ∀ j, a.2.1 105 j = h.2.1 105 j) (e106 : ∀ j, a.2.1 106 j = h.2.1 106 j) (e107 : ∀ j, a.2.1 107 j = h.2.1 107 j) (n40 : a.1 66 40 = h.1 66 40) (n82 : a.1 66 82 = h.1 66 82) (n67 : a.1 66 67 = h.1 66 67) (n68 : a.1 66 68 = h.1 66 68) : ∀ (i : Nat) (n : Int), mm_QY9 a t k own i n → mm_QY9 h t k own i n
  | 0, _, w => w
  | i + 1, n, w => by
    have ih := mm_QY9_fr (t := t) (k := k) (own := own) ek e79 e80 e82 e83 e84 e85 e86 e87 e88 e89 e90 e94 e95 e112 e113 e114 e115 e116 e102 e103 e104 e105 e106 e107 n40 n82 n67 n68 i
    unfold mm_QY9 at w ⊢
    rw [e90, e90, e85, e85] at w
    rcases w with ⟨x, w⟩ | ⟨x, y, v, U, ⟨q, l, w⟩ | ⟨q, w⟩⟩
    · exact Or.inl ⟨x, ih _ w⟩
    · exact Or.inr ⟨x, y, v, mm_UY9_fr U ek e79 e80 e82 e83 e84 e85 e86 e87 e88 e89 e90 e94 e95 e112 e113 e114 e115 e116 e102 e103 e104 e105 e106 e107 n40 n82 n67 n68, Or.inl ⟨q, l, ih _ w⟩⟩
    · exact Or.inr ⟨x, y, v, mm_UY9_fr U ek e79 e80 e82 e83 e84 e85 e86 e87 e88 e89 e90 e94 e95 e112 e113 e114 e115 e116 e102 e103 e104 e105 e106 e107 n40 n82 n67 n68, Or.inr ⟨q, ih _ w⟩⟩
theorem mm_oY9_fr {h a : mH} {t w k r : Int} (X : mm_oY9 a t w k r) (ek : mm_k2 a = mm_k2 h) (e79 : ∀ j, a.2.1 79 j = h.2.1 79 j) (e80 : ∀ j, a.2.1 80 j = h.2.1 80 j) (e82 : ∀ j, a.2.1 82 j = h.2.1 82 j) (e83 : ∀ j, a.2.1 83 j = h.2.1 83 j) (e84 : ∀ j, a.2.1 84 j = h.2.1 84 j) (e85 : ∀ j, a.2.1 85 j = h.2.1 85 j) (e86 : ∀ j, a.2.1 86 j = h.2.1 86 j) (e87 : ∀ j, a.2.1 87 j = h.2.1 87 j) (e88 : ∀ j, a.2.1 88 j = h.2.1 88 j) (e89 : ∀ j, a.2.1 89 j = h.2.1 89 j) (e90 : ∀ j, a.2.1 90 j = h.2.1 90 j) (e94 : ∀ j, a.2.1 94 j = h.2.1 94 j) (e95 : ∀ j, a.2.1 95 j = h.2.1 95 j) (e112 : ∀ j, a.2.1 112 j = h.2.1 112 j) (e113 : ∀ j, a.2.1 113 j = h.2.1 113 j) (e114 : ∀ j, a.2.1 114 j = h.2.1 114 j) (e115 : ∀ j, a.2.1 115 j = h.2.1 115 j) (e116 : ∀ j, a.2.1 116 j = h.2.1 116 j) (e102 : ∀ j, a.2.1 102 j = h.2.1 102 j) (e103 : ∀ j, a.2.1 103 j = h.2.1 103 j) (e104 : ∀ j, a.2.1 104 j = h.2.1 104 j) (e105 : ∀ j, a.2.1 105 j = h.2.1 105 j) (e106 : ∀ j, a.2.1 106 j = h.2.1 106 j) (e107 : ∀ j, a.2.1 107 j = h.2.1 107 j) (n40 : a.1 66 40 = h.1 66 40) (n82 : a.1 66 82 = h.1 66 82) (n67 : a.1 66 67 = h.1 66 67) (n68 : a.1 66 68 = h.1 66 68) (n24 : a.1 66 24 = h.1 66 24) : mm_oY9 h t w k r := by
  obtain ⟨x, own, U, X⟩ := X
  refine ⟨x, own, mm_UY9_fr U ek e79 e80 e82 e83 e84 e85 e86 e87 e88 e89 e90 e94 e95 e112 e113 e114 e115 e116 e102 e103 e104 e105 e106 e107 n40 n82 n67 n68, ?_⟩
  rcases X with X | X | ⟨a1, a2, Q⟩
  · exact Or.inl X
  · exact Or.inr (Or.inl X)
  · rw [n24] at Q
    exact Or.inr (Or.inr ⟨a1, a2, mm_QY9_fr ek e79 e80 e82 e83 e84 e85 e86 e87 e88 e89 e90 e94 e95 e112 e113 e114 e115 e116 e102 e103 e104 e105 e106 e107 n40 n82 n67 n68 _ _ Q⟩)
