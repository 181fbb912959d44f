/-! ===== protests ===== -/
abbrev mm_uh9 (a d v : Int → Int) (r k i : Int) : Prop := a i = r ∧ d i ≠ -1 ∧ d i ≤ k ∧ v i ≠ 0
def mm_ad9 (a d v g : Int → Int) (r k : Int) : Nat → Int
  | 0 => 0
  | n + 1 => if mm_uh9 a d v r k (n : Int) then mm_w (mm_ad9 a d v g r k n + g (n : Int)) else mm_ad9 a d v g r k n
theorem mm_ad9_y {a d v g : Int → Int} {r k i s : Int} (W : s = mm_ad9 a d v g r k i.toNat) (i0 : 0 ≤ i) (u : mm_uh9 a d v r k i) : mm_w (s + g i) = mm_ad9 a d v g r k (i + 1).toNat := by
  rw [show (i + 1).toNat = i.toNat + 1 by omega]
  show _ = if mm_uh9 a d v r k (i.toNat : Int) then mm_w (mm_ad9 a d v g r k i.toNat + g (i.toNat : Int)) else _
  rw [Int.toNat_of_nonneg i0, if_pos u, W]
theorem mm_ad9_n {a d v g : Int → Int} {r k i s : Int} (W : s = mm_ad9 a d v g r k i.toNat) (i0 : 0 ≤ i) (u : ¬ mm_uh9 a d v r k i) : s = mm_ad9 a d v g r k (i + 1).toNat := by
  rw [show (i + 1).toNat = i.toNat + 1 by omega]
  show _ = if mm_uh9 a d v r k (i.toNat : Int) then mm_w (mm_ad9 a d v g r k i.toNat + g (i.toNat : Int)) else _
  rw [Int.toNat_of_nonneg i0, if_neg u, W]
def mm_ve9 (a d v t : Int → Int) (r k : Int) : Nat → Int × Int
  | 0 => (-1, 0)
  | n + 1 => if mm_uh9 a d v r k (n : Int) ∧ (mm_ve9 a d v t r k n).1 < t (n : Int) then (t (n : Int), v (n : Int)) else mm_ve9 a d v t r k n
theorem mm_ve9_y {a d v t : Int → Int} {r k i x y : Int} (W : (x, y) = mm_ve9 a d v t r k i.toNat) (i0 : 0 ≤ i) (u : mm_uh9 a d v r k i) (l : x < t i) : (t i, v i) = mm_ve9 a d v t r k (i + 1).toNat := by
  rw [show (i + 1).toNat = i.toNat + 1 by omega]
  show _ = if mm_uh9 a d v r k (i.toNat : Int) ∧ (mm_ve9 a d v t r k i.toNat).1 < t (i.toNat : Int) then (t (i.toNat : Int), v (i.toNat : Int)) else _
  rw [Int.toNat_of_nonneg i0, ← W, if_pos ⟨u, l⟩]
theorem mm_ve9_n {a d v t : Int → Int} {r k i x y : Int} (W : (x, y) = mm_ve9 a d v t r k i.toNat) (i0 : 0 ≤ i) (u : ¬ mm_uh9 a d v r k i ∨ t i ≤ x) : (x, y) = mm_ve9 a d v t r k (i + 1).toNat := by
  rw [show (i + 1).toNat = i.toNat + 1 by omega]
  show _ = if mm_uh9 a d v r k (i.toNat : Int) ∧ (mm_ve9 a d v t r k i.toNat).1 < t (i.toNat : Int) then (t (i.toNat : Int), v (i.toNat : Int)) else _
  rw [Int.toNat_of_nonneg i0, ← W, if_neg (fun z => by
    rcases u with u | u
    · exact u z.1
    · have := z.2
      have e : ((x, y) : Int × Int).1 = x := rfl
      omega)]
def mm_vb9 (a d v t : Int → Int) (r k : Int) : Nat → Int
  | 0 => -1
  | n + 1 => if mm_uh9 a d v r k (n : Int) ∧ (mm_vb9 a d v t r k n = -1 ∨ t (mm_vb9 a d v t r k n) < t (n : Int)) then (n : Int) else mm_vb9 a d v t r k n
theorem mm_vb9_y {a d v t : Int → Int} {r k i x : Int} (W : x = mm_vb9 a d v t r k i.toNat) (i0 : 0 ≤ i) (u : mm_uh9 a d v r k i) (l : x = -1 ∨ t x < t i) : i = mm_vb9 a d v t r k (i + 1).toNat := by
  rw [show (i + 1).toNat = i.toNat + 1 by omega]
  show _ = if mm_uh9 a d v r k (i.toNat : Int) ∧ (mm_vb9 a d v t r k i.toNat = -1 ∨ t (mm_vb9 a d v t r k i.toNat) < t (i.toNat : Int)) then (i.toNat : Int) else _
  rw [Int.toNat_of_nonneg i0, ← W, if_pos ⟨u, l⟩]
theorem mm_vb9_n {a d v t : Int → Int} {r k i x : Int} (W : x = mm_vb9 a d v t r k i.toNat) (i0 : 0 ≤ i) (u : ¬ mm_uh9 a d v r k i ∨ (x ≠ -1 ∧ t i ≤ t x)) : x = mm_vb9 a d v t r k (i + 1).toNat := by
  rw [show (i + 1).toNat = i.toNat + 1 by omega]
  show _ = if mm_uh9 a d v r k (i.toNat : Int) ∧ (mm_vb9 a d v t r k i.toNat = -1 ∨ t (mm_vb9 a d v t r k i.toNat) < t (i.toNat : Int)) then (i.toNat : Int) else _
  rw [Int.toNat_of_nonneg i0, ← W, if_neg (fun z => by
    rcases u with u | u
    · exact u z.1
    · rcases z.2 with q | q <;> omega)]
theorem mm_uh9_cg {a d v a' d' v' : Int → Int} {r k i : Int} (ea : a' i = a i) (ed : d' i = d i) (ev : d i ≠ -1 → v' i = v i) : mm_uh9 a' d' v' r k i ↔ mm_uh9 a d v r k i := by
  unfold mm_uh9
  rw [ea, ed]
  constructor
  · rintro ⟨x, y, z, u⟩; exact ⟨x, y, z, by rw [← ev y]; exact u⟩
  · rintro ⟨x, y, z, u⟩; exact ⟨x, y, z, by rw [ev y]; exact u⟩
theorem mm_ad9_eq {a d v g a' d' v' g' : Int → Int} {r k : Int} : ∀ n : Nat, (∀ i, 0 ≤ i → i < (n : Int) → a' i = a i ∧ d' i = d i ∧ (d i ≠ -1 → v' i = v i ∧ g' i = g i)) → mm_ad9 a' d' v' g' r k n = mm_ad9 a d v g r k n
  | 0, _ => rfl
  | n + 1, e => by
    have z := e (n : Int) (by omega) (by omega)
    have ih := mm_ad9_eq (r := r) (k := k) n (fun i a b => e i a (by omega))
    have u := mm_uh9_cg (r := r) (k := k) z.1 z.2.1 (fun q => (z.2.2 q).1)
    show (if mm_uh9 a' d' v' r k (n : Int) then mm_w (mm_ad9 a' d' v' g' r k n + g' (n : Int)) else mm_ad9 a' d' v' g' r k n) = (if mm_uh9 a d v r k (n : Int) then mm_w (mm_ad9 a d v g r k n + g (n : Int)) else mm_ad9 a d v g r k n)
    by_cases q : mm_uh9 a d v r k (n : Int)
    · rw [if_pos q, if_pos (u.mpr q), ih, (z.2.2 q.2.1).2]
    · rw [if_neg q, if_neg (fun w => q (u.mp w)), ih]
theorem mm_ve9_eq {a d v t a' d' v' t' : Int → Int} {r k c : Int} : ∀ n : Nat, (∀ i, 0 ≤ i → i < (n : Int) → a' i = a i ∧ d' i = d i ∧ (d i ≠ -1 → v' i = v i ∧ t' i = t i + c ∧ 0 ≤ t i)) → (mm_vb9 a' d' v' t' r k n = -1 ∧ mm_ve9 a d v t r k n = (-1, 0)) ∨ (0 ≤ mm_vb9 a' d' v' t' r k n ∧ mm_vb9 a' d' v' t' r k n < n ∧ mm_uh9 a d v r k (mm_vb9 a' d' v' t' r k n) ∧ mm_ve9 a d v t r k n = (t (mm_vb9 a' d' v' t' r k n), v (mm_vb9 a' d' v' t' r k n)))
  | 0, _ => Or.inl ⟨rfl, rfl⟩
  | n + 1, e => by
    have z := e (n : Int) (by omega) (by omega)
    have u := mm_uh9_cg (r := r) (k := k) z.1 z.2.1 (fun q => (z.2.2 q).1)
    have ih := mm_ve9_eq (r := r) (k := k) (c := c) n (fun i a b => e i a (by omega))
    have d1 : mm_vb9 a' d' v' t' r k (n + 1) = if mm_uh9 a' d' v' r k (n : Int) ∧ (mm_vb9 a' d' v' t' r k n = -1 ∨ t' (mm_vb9 a' d' v' t' r k n) < t' (n : Int)) then (n : Int) else mm_vb9 a' d' v' t' r k n := rfl
    have d2 : mm_ve9 a d v t r k (n + 1) = if mm_uh9 a d v r k (n : Int) ∧ (mm_ve9 a d v t r k n).1 < t (n : Int) then (t (n : Int), v (n : Int)) else mm_ve9 a d v t r k n := rfl
    by_cases q : mm_uh9 a d v r k (n : Int)
    · have zq := z.2.2 q.2.1
      rcases ih with ⟨x, y⟩ | ⟨x, x2, w, y⟩
      · rw [d1, d2, if_pos ⟨u.mpr q, Or.inl x⟩, y]
        have l : ((-1, 0) : Int × Int).1 < t (n : Int) := by show (-1 : Int) < _; omega
        rw [if_pos ⟨q, l⟩]
        exact Or.inr ⟨by omega, by omega, q, rfl⟩
      · have eb := (e _ x (by omega)).2.2 w.2.1
        by_cases l : t (mm_vb9 a' d' v' t' r k n) < t (n : Int)
        · rw [d1, d2, if_pos ⟨u.mpr q, Or.inr (by rw [eb.2.1, zq.2.1]; omega)⟩, y]
          have l2 : ((t (mm_vb9 a' d' v' t' r k n), v (mm_vb9 a' d' v' t' r k n)) : Int × Int).1 < t (n : Int) := l
          rw [if_pos ⟨q, l2⟩]
          exact Or.inr ⟨by omega, by omega, q, rfl⟩
        · have n1 : ¬ (mm_uh9 a' d' v' r k (n : Int) ∧ (mm_vb9 a' d' v' t' r k n = -1 ∨ t' (mm_vb9 a' d' v' t' r k n) < t' (n : Int))) := fun g => by
            rcases g.2 with g | g
            · omega
            · rw [eb.2.1, zq.2.1] at g; omega
          rw [d1, if_neg n1, d2, y]
          have n2 : ¬ (mm_uh9 a d v r k (n : Int) ∧ ((t (mm_vb9 a' d' v' t' r k n), v (mm_vb9 a' d' v' t' r k n)) : Int × Int).1 < t (n : Int)) := fun g => l g.2
          rw [if_neg n2]
          exact Or.inr ⟨x, by omega, w, rfl⟩
    · rw [d1, if_neg (fun g => q (u.mp g.1)), d2, if_neg (fun g => q g.1)]
      rcases ih with ⟨x, y⟩ | ⟨x, x2, w, y⟩
      · exact Or.inl ⟨x, y⟩
      · exact Or.inr ⟨x, by omega, w, y⟩

set_option maxRecDepth 100000 in
set_option maxHeartbeats 4000000 in
theorem c_X1_unkept_q (l : Launch) (hl : l.stackTraces = false) (d : Nat) (hd : 0 ≤ d) (h : mH) (i0 : mm_inv h) : mm_Met l d yX1_unkept cX1_unkept 3 (some .int) [mR 48] h (mm_pi fun r h2 => (0 ≤ r ∧ r ≤ 12) ∧ h2 = h ∧ r = mm_uk9 (h.2.1 52) (h.1 48 8).toNat) mm_nx 0 0 := by
  refine mm_ofW (ls := [mR 48, mU, mU]) hl (by decide) rfl (Nat.le_of_ble_eq_true rfl) ?_
  intro x hxl C T hnm htb
  subst hxl
  have f0 : mm_fr [] [] h h := mm_fr_rf
  have zn8 : 0 ≤ h.1 48 8 ∧ h.1 48 8 ≤ 12 := i0.1 48 8
  have zm8 : 0 ≤ h.1 48 9 ∧ h.1 48 9 ≤ 500 := i0.1 48 9
  refine mm_iconst C (mm_dec dk_X1_unkept 0 rfl) ⟨by decide, by decide⟩ ?_
  refine mm_istore_nL (ls2 := [mR 48, mI 0, mU]) C (mm_dec dk_X1_unkept 1 rfl) (by decide) rfl ?_
  refine mm_iconst C (mm_dec dk_X1_unkept 2 rfl) ⟨by decide, by decide⟩ ?_
  have J4 : ∀ (n : Nat) (x4_1 : Int) (bx4_1 : 0 ≤ x4_1 ∧ x4_1 ≤ 12) (x4_2 : Int) (bx4_2 : 0 ≤ x4_2 ∧ x4_2 ≤ 12) (w4_0 : x4_1 = mm_uk9 (h.2.1 52) (x4_2).toNat) (w4_1 : x4_2 ≤ h.1 48 8) (w4_2 : x4_1 ≤ x4_2), (12 - x4_2 : Int) < n → mm_W x 0 0 4 [mR 48, mI x4_1, mI x4_2] [] h := by
    intro n
    induction n with
    | zero =>
      intro x4_1 bx4_1 x4_2 bx4_2 w4_0 w4_1 w4_2 hm
      exfalso; omega
    | succ n ih4 =>
      intro x4_1 bx4_1 x4_2 bx4_2 w4_0 w4_1 w4_2 hm4
      refine mm_iload_n C (mm_dec dk_X1_unkept 4 rfl) rfl ?_
      refine mm_aload_n C (mm_dec dk_X1_unkept 5 rfl) rfl ?_
      refine mm_geti C fl_X1_27 (mm_dec dk_X1_unkept 6 rfl) rfl rfl (Or.inl rfl) ?_
      have g1 : 0 ≤ (h.1 48 8) ∧ (h.1 48 8) ≤ 12 := i0.1 48 8
      refine mm_icmp_ge (tgt := 31) C (mm_dec dk_X1_unkept 7 rfl) (by decide) (fun c9 => ?_) (fun c9 => ?_)
      · skip
        refine mm_iload_n C (mm_dec dk_X1_unkept 17 rfl) rfl ?_
        exact mm_iret C T (mm_dec dk_X1_unkept 18 rfl) (by decide : 0 ≤ 0) (by decide : 0 ≤ 0) ⟨_, rfl, ⟨⟨by omega, by omega⟩, rfl, by (rw [show h.1 48 8 = x4_2 by omega]; exact w4_0)⟩⟩
      · skip
        refine mm_aload_n C (mm_dec dk_X1_unkept 8 rfl) rfl ?_
        refine mm_getr (t := 52) C fl_X1_21 (mm_dec dk_X1_unkept 9 rfl) rfl rfl (mm_ref i0 rfl) ?_
        refine mm_iload_n C (mm_dec dk_X1_unkept 10 rfl) rfl ?_
        refine mm_iald C (mm_dec dk_X1_unkept 11 rfl) rfl (by omega) (by omega) ?_
        have g2 : -1 ≤ (h.2.1 52 x4_2) ∧ (h.2.1 52 x4_2) ≤ 499 := i0.2.1 52 x4_2
        refine mm_iconst C (mm_dec dk_X1_unkept 12 rfl) ⟨by decide, by decide⟩ ?_
        have J25 : ∀ (x25_1 : Int) (bx25_1 : 0 ≤ x25_1 ∧ x25_1 ≤ 12) (w25_0 : x25_1 = mm_uk9 (h.2.1 52) (x4_2 + 1).toNat) (w25_1 : x25_1 ≤ x4_2 + 1), mm_W x 0 0 25 [mR 48, mI x25_1, mI x4_2] [] h := by
          intro x25_1 bx25_1 w25_0 w25_1
          refine mm_iincL (ls2 := [mR 48, mI x25_1, mI (x4_2 + 1)]) C (mm_dec dk_X1_unkept 15 rfl) rfl (by decide) ⟨by omega, by omega⟩ rfl ?_
          refine mm_goto (tgt := 4) C (mm_dec dk_X1_unkept 16 rfl) (by decide) ?_
          exact ih4 x25_1 ⟨by omega, by omega⟩ (x4_2 + 1) ⟨by omega, by omega⟩ (by first | rfl | exact w25_0) (by omega) (by omega) (by omega)
        refine mm_icmp_ne (tgt := 25) C (mm_dec dk_X1_unkept 13 rfl) (by decide) (fun c19 => ?_) (fun c19 => ?_)
        · skip
          exact J25 x4_1 ⟨by omega, by omega⟩ (by first | exact mm_uk9_y w4_0 (by omega) (by omega) | exact mm_uk9_n w4_0 (by omega) (by omega)) (by omega)
        · skip
          refine mm_iincL (ls2 := [mR 48, mI (x4_1 + 1), mI x4_2]) C (mm_dec dk_X1_unkept 14 rfl) rfl (by decide) ⟨by omega, by omega⟩ rfl ?_
          exact J25 (x4_1 + 1) ⟨by omega, by omega⟩ (by first | exact mm_uk9_y w4_0 (by omega) (by omega) | exact mm_uk9_n w4_0 (by omega) (by omega)) (by omega)
  refine mm_istore_nL (ls2 := [mR 48, mI 0, mI 0]) C (mm_dec dk_X1_unkept 3 rfl) (by decide) rfl ?_
  exact J4 (((12 - 0) : Int) + 1).toNat 0 ⟨by omega, by omega⟩ 0 ⟨by omega, by omega⟩ (by first | rfl | exact w25_0) (by omega) (by omega) (by omega)
set_option maxRecDepth 100000 in
set_option maxHeartbeats 4000000 in
theorem c_X1_isInRow_q (l : Launch) (hl : l.stackTraces = false) (d : Nat) (hd : 0 ≤ d) (h : mH) (i0 : mm_inv h) (p1 : Int) : mm_Met l d yX1_isInRow cX1_isInRow 3 (some .boolean) [mR 48, mI p1] h (mm_pi fun r h2 => (0 ≤ r ∧ r ≤ 1) ∧ h2 = h ∧ r = mm_ir9 (h.2.1 49) p1 (h.1 48 8).toNat) mm_nx 0 0 := by
  refine mm_ofW (ls := [mR 48, mI p1, mU]) hl (by decide) rfl (Nat.le_of_ble_eq_true rfl) ?_
  intro x hxl C T hnm htb
  subst hxl
  refine mm_rng (fun hr _ => ?_)
  have ap1 : -2147483648 ≤ p1 ∧ p1 < 2147483648 := mm_ok_at hr (i := 1) rfl
  have f0 : mm_fr [] [] h h := mm_fr_rf
  have zn8 : 0 ≤ h.1 48 8 ∧ h.1 48 8 ≤ 12 := i0.1 48 8
  have zm8 : 0 ≤ h.1 48 9 ∧ h.1 48 9 ≤ 500 := i0.1 48 9
  refine mm_iconst C (mm_dec dk_X1_isInRow 0 rfl) ⟨by decide, by decide⟩ ?_
  have J2 : ∀ (n : Nat) (x2_2 : Int) (bx2_2 : 0 ≤ x2_2 ∧ x2_2 ≤ 12) (w2_0 : ∀ j, 0 ≤ j → j < x2_2 → h.2.1 49 j ≠ p1) (w2_1 : x2_2 ≤ h.1 48 8), (12 - x2_2 : Int) < n → mm_W x 0 0 2 [mR 48, mI p1, mI x2_2] [] h := by
    intro n
    induction n with
    | zero =>
      intro x2_2 bx2_2 w2_0 w2_1 hm
      exfalso; omega
    | succ n ih2 =>
      intro x2_2 bx2_2 w2_0 w2_1 hm2
      refine mm_iload_n C (mm_dec dk_X1_isInRow 2 rfl) rfl ?_
      refine mm_aload_n C (mm_dec dk_X1_isInRow 3 rfl) rfl ?_
      refine mm_geti C fl_X1_27 (mm_dec dk_X1_isInRow 4 rfl) rfl rfl (Or.inl rfl) ?_
      have g1 : 0 ≤ (h.1 48 8) ∧ (h.1 48 8) ≤ 12 := i0.1 48 8
      refine mm_icmp_ge (tgt := 28) C (mm_dec dk_X1_isInRow 5 rfl) (by decide) (fun c7 => ?_) (fun c7 => ?_)
      · skip
        refine mm_iconst C (mm_dec dk_X1_isInRow 16 rfl) ⟨by decide, by decide⟩ ?_
        exact mm_zret C T (mm_dec dk_X1_isInRow 17 rfl) (by decide : 0 ≤ 0) (by decide : 0 ≤ 0) (by omega) ⟨_, rfl, ⟨⟨by omega, by omega⟩, rfl, by first | exact (mm_ir9_1 (j := x2_2) (by omega) (by omega) _ (by omega)).symm | exact (mm_ir9_0 _ (fun j a b => w2_0 j a (by omega))).symm⟩⟩
      · skip
        refine mm_aload_n C (mm_dec dk_X1_isInRow 6 rfl) rfl ?_
        refine mm_getr (t := 49) C fl_X1_9 (mm_dec dk_X1_isInRow 7 rfl) rfl rfl (mm_ref i0 rfl) ?_
        refine mm_iload_n C (mm_dec dk_X1_isInRow 8 rfl) rfl ?_
        refine mm_iald C (mm_dec dk_X1_isInRow 9 rfl) rfl (by omega) (by omega) ?_
        have g2 : 0 ≤ (h.2.1 49 x2_2) ∧ (h.2.1 49 x2_2) ≤ 19 := i0.2.1 49 x2_2
        refine mm_iload_n C (mm_dec dk_X1_isInRow 10 rfl) rfl ?_
        refine mm_icmp_ne (tgt := 22) C (mm_dec dk_X1_isInRow 11 rfl) (by decide) (fun c17 => ?_) (fun c17 => ?_)
        · skip
          refine mm_iincL (ls2 := [mR 48, mI p1, mI (x2_2 + 1)]) C (mm_dec dk_X1_isInRow 14 rfl) rfl (by decide) ⟨by omega, by omega⟩ rfl ?_
          refine mm_goto (tgt := 2) C (mm_dec dk_X1_isInRow 15 rfl) (by decide) ?_
          exact ih2 (x2_2 + 1) ⟨by omega, by omega⟩ (by first | exact fun j a b => (by omega) | exact fun j a b => (by by_cases q : j = x2_2; (rw [q]; omega); exact w2_0 j a (by omega))) (by omega) (by omega)
        · skip
          refine mm_iconst C (mm_dec dk_X1_isInRow 12 rfl) ⟨by decide, by decide⟩ ?_
          exact mm_zret C T (mm_dec dk_X1_isInRow 13 rfl) (by decide : 0 ≤ 0) (by decide : 0 ≤ 0) (by omega) ⟨_, rfl, ⟨⟨by omega, by omega⟩, rfl, by first | exact (mm_ir9_1 (j := x2_2) (by omega) (by omega) _ (by omega)).symm | exact (mm_ir9_0 _ (fun j a b => w2_0 j a (by omega))).symm⟩⟩
  refine mm_istore_nL (ls2 := [mR 48, mI p1, mI 0]) C (mm_dec dk_X1_isInRow 1 rfl) (by decide) rfl ?_
  exact J2 (((12 - 0) : Int) + 1).toNat 0 ⟨by omega, by omega⟩ (by first | exact fun j a b => (by omega) | exact fun j a b => (by by_cases q : j = x2_2; (rw [q]; omega); exact w2_0 j a (by omega))) (by omega) (by omega)
set_option maxRecDepth 100000 in
set_option maxHeartbeats 4000000 in
theorem c_X1_wrong_q (l : Launch) (hl : l.stackTraces = false) (d : Nat) (hd : 1 ≤ d) (h : mH) (i0 : mm_inv h) : mm_Met l d yX1_wrong cX1_wrong 3 (some .int) [mR 48] h (mm_pi fun r h2 => (0 ≤ r ∧ r ≤ 500) ∧ h2 = h ∧ r = mm_wg9 (h.2.1 49) (h.1 48 8).toNat (h.2.1 50) (h.1 48 9).toNat) mm_nx 0 0 := by
  refine mm_ofW (ls := [mR 48, mU, mU]) hl (by decide) rfl (Nat.le_of_ble_eq_true rfl) ?_
  intro x hxl C T hnm htb
  subst hxl
  have C1 := mm_OK_le (d' := d - 1 + 1) (by omega) C
  have f0 : mm_fr [] [] h h := mm_fr_rf
  have zn8 : 0 ≤ h.1 48 8 ∧ h.1 48 8 ≤ 12 := i0.1 48 8
  have zm8 : 0 ≤ h.1 48 9 ∧ h.1 48 9 ≤ 500 := i0.1 48 9
  refine mm_iconst C (mm_dec dk_X1_wrong 0 rfl) ⟨by decide, by decide⟩ ?_
  refine mm_istore_nL (ls2 := [mR 48, mI 0, mU]) C (mm_dec dk_X1_wrong 1 rfl) (by decide) rfl ?_
  refine mm_iconst C (mm_dec dk_X1_wrong 2 rfl) ⟨by decide, by decide⟩ ?_
  have J4 : ∀ (n : Nat) (x4_1 : Int) (bx4_1 : 0 ≤ x4_1 ∧ x4_1 ≤ 500) (x4_2 : Int) (bx4_2 : 0 ≤ x4_2 ∧ x4_2 ≤ 500) (w4_0 : x4_1 = mm_wg9 (h.2.1 49) (h.1 48 8).toNat (h.2.1 50) (x4_2).toNat) (w4_1 : x4_2 ≤ h.1 48 9) (w4_2 : x4_1 ≤ x4_2), (500 - x4_2 : Int) < n → mm_W x 0 0 4 [mR 48, mI x4_1, mI x4_2] [] h := by
    intro n
    induction n with
    | zero =>
      intro x4_1 bx4_1 x4_2 bx4_2 w4_0 w4_1 w4_2 hm
      exfalso; omega
    | succ n ih4 =>
      intro x4_1 bx4_1 x4_2 bx4_2 w4_0 w4_1 w4_2 hm4
      refine mm_iload_n C (mm_dec dk_X1_wrong 4 rfl) rfl ?_
      refine mm_aload_n C (mm_dec dk_X1_wrong 5 rfl) rfl ?_
      refine mm_geti C fl_X1_31 (mm_dec dk_X1_wrong 6 rfl) rfl rfl (Or.inl rfl) ?_
      have g1 : 0 ≤ (h.1 48 9) ∧ (h.1 48 9) ≤ 500 := i0.1 48 9
      refine mm_icmp_ge (tgt := 34) C (mm_dec dk_X1_wrong 7 rfl) (by decide) (fun c9 => ?_) (fun c9 => ?_)
      · skip
        refine mm_iload_n C (mm_dec dk_X1_wrong 18 rfl) rfl ?_
        exact mm_iret C T (mm_dec dk_X1_wrong 19 rfl) (by decide : 0 ≤ 0) (by decide : 0 ≤ 0) ⟨_, rfl, ⟨⟨by omega, by omega⟩, rfl, by (rw [show h.1 48 9 = x4_2 by omega]; exact w4_0)⟩⟩
      · skip
        refine mm_aload_n C (mm_dec dk_X1_wrong 8 rfl) rfl ?_
        refine mm_aload_n C (mm_dec dk_X1_wrong 9 rfl) rfl ?_
        refine mm_getr (t := 50) C fl_X1_15 (mm_dec dk_X1_wrong 10 rfl) rfl rfl (mm_ref i0 rfl) ?_
        refine mm_iload_n C (mm_dec dk_X1_wrong 11 rfl) rfl ?_
        refine mm_iald C (mm_dec dk_X1_wrong 12 rfl) rfl (by omega) (by omega) ?_
        have g2 : -2147483648 ≤ (h.2.1 50 x4_2) ∧ (h.2.1 50 x4_2) ≤ 2147483647 := i0.2.1 50 x4_2
        refine mm_cVi (rest := []) C1 ev_X1_75 (mm_dec dk_X1_wrong 13 rfl) (c_X1_isInRow_q x.2.1 hl (d - 1) (by omega) h i0 (h.2.1 50 x4_2)) rfl rfl (Nat.le_of_ble_eq_true rfl) ⟨by decide, by decide⟩ rfl (fun r19 h19c hp19 => ?_) (fun _ _ q => q.elim)
        obtain ⟨b19, z19, y19_0⟩ := hp19
        rw [z19]
        have J28 : ∀ (x28_1 : Int) (bx28_1 : 0 ≤ x28_1 ∧ x28_1 ≤ 500) (w28_0 : x28_1 = mm_wg9 (h.2.1 49) (h.1 48 8).toNat (h.2.1 50) (x4_2 + 1).toNat) (w28_1 : x28_1 ≤ x4_2 + 1), mm_W x 0 0 28 [mR 48, mI x28_1, mI x4_2] [] h := by
          intro x28_1 bx28_1 w28_0 w28_1
          refine mm_iincL (ls2 := [mR 48, mI x28_1, mI (x4_2 + 1)]) C (mm_dec dk_X1_wrong 16 rfl) rfl (by decide) ⟨by omega, by omega⟩ rfl ?_
          refine mm_goto (tgt := 4) C (mm_dec dk_X1_wrong 17 rfl) (by decide) ?_
          exact ih4 x28_1 ⟨by omega, by omega⟩ (x4_2 + 1) ⟨by omega, by omega⟩ (by first | rfl | exact w28_0) (by omega) (by omega) (by omega)
        refine mm_if_ne (tgt := 28) C (mm_dec dk_X1_wrong 14 rfl) (by decide) (fun c22 => ?_) (fun c22 => ?_)
        · skip
          exact J28 x4_1 ⟨by omega, by omega⟩ (by first | exact mm_wg9_y w4_0 (by omega) (by omega) | exact mm_wg9_n w4_0 (by omega) (by omega)) (by omega)
        · skip
          refine mm_iincL (ls2 := [mR 48, mI (x4_1 + 1), mI x4_2]) C (mm_dec dk_X1_wrong 15 rfl) rfl (by decide) ⟨by omega, by omega⟩ rfl ?_
          exact J28 (x4_1 + 1) ⟨by omega, by omega⟩ (by first | exact mm_wg9_y w4_0 (by omega) (by omega) | exact mm_wg9_n w4_0 (by omega) (by omega)) (by omega)
  refine mm_istore_nL (ls2 := [mR 48, mI 0, mI 0]) C (mm_dec dk_X1_wrong 3 rfl) (by decide) rfl ?_
  exact J4 (((500 - 0) : Int) + 1).toNat 0 ⟨by omega, by omega⟩ 0 ⟨by omega, by omega⟩ (by first | rfl | exact w28_0) (by omega) (by omega) (by omega)
set_option maxRecDepth 100000 in
set_option maxHeartbeats 4000000 in
theorem c_X2_pointsOf_q (l : Launch) (hl : l.stackTraces = false) (d : Nat) (hd : 0 ≤ d) (h : mH) (i0 : mm_inv h) (p1 : Int) (bp1 : 0 ≤ p1 ∧ p1 ≤ 19) : mm_Met l d yX2_pointsOf cX2_pointsOf 2 (some .int) [mR 14, mI p1] h (mm_pi fun r h2 => h2 = h ∧ (r = (h.2.1 16 p1))) mm_nx 0 0 := by
  refine mm_ofW (ls := [mR 14, mI p1]) hl (by decide) rfl (Nat.le_of_ble_eq_true rfl) ?_
  intro x hxl C T hnm htb
  subst hxl
  refine mm_rng (fun hr _ => ?_)
  have ap1 : -2147483648 ≤ p1 ∧ p1 < 2147483648 := mm_ok_at hr (i := 1) rfl
  have f0 : mm_fr [] [] h h := mm_fr_rf
  refine mm_aload_n C (mm_dec dk_X2_pointsOf 0 rfl) rfl ?_
  refine mm_getr (t := 16) C fl_X2_15 (mm_dec dk_X2_pointsOf 1 rfl) rfl rfl (mm_ref i0 rfl) ?_
  refine mm_iload_n C (mm_dec dk_X2_pointsOf 2 rfl) rfl ?_
  refine mm_iald C (mm_dec dk_X2_pointsOf 3 rfl) rfl (by omega) (by omega) ?_
  have g1 : 0 ≤ (h.2.1 16 p1) ∧ (h.2.1 16 p1) ≤ 99 := i0.2.1 16 p1
  exact mm_iret C T (mm_dec dk_X2_pointsOf 4 rfl) (by decide : 0 ≤ 0) (by decide : 0 ≤ 0) ⟨_, rfl, ⟨rfl, rfl⟩⟩
set_option maxRecDepth 100000 in
set_option maxHeartbeats 4000000 in
theorem c_X1_score_q (l : Launch) (hl : l.stackTraces = false) (d : Nat) (hd : 1 ≤ d) (h : mH) (i0 : mm_inv h) : mm_Met l d yX1_score cX1_score 3 (some .int) [mR 48] h (mm_pi fun r h2 => (-2147483648 ≤ r ∧ r ≤ 2147483647) ∧ h2 = h ∧ r = mm_sc9 (h.2.1 52) (h.2.1 49) (h.2.1 16) (h.1 48 8).toNat) mm_nx 0 0 := by
  refine mm_ofW (ls := [mR 48, mU, mU]) hl (by decide) rfl (Nat.le_of_ble_eq_true rfl) ?_
  intro x hxl C T hnm htb
  subst hxl
  have C1 := mm_OK_le (d' := d - 1 + 1) (by omega) C
  have f0 : mm_fr [] [] h h := mm_fr_rf
  have zn8 : 0 ≤ h.1 48 8 ∧ h.1 48 8 ≤ 12 := i0.1 48 8
  have zm8 : 0 ≤ h.1 48 9 ∧ h.1 48 9 ≤ 500 := i0.1 48 9
  refine mm_iconst C (mm_dec dk_X1_score 0 rfl) ⟨by decide, by decide⟩ ?_
  refine mm_istore_nL (ls2 := [mR 48, mI 0, mU]) C (mm_dec dk_X1_score 1 rfl) (by decide) rfl ?_
  refine mm_iconst C (mm_dec dk_X1_score 2 rfl) ⟨by decide, by decide⟩ ?_
  have J4 : ∀ (n : Nat) (x4_1 : Int) (bx4_1 : -2147483648 ≤ x4_1 ∧ x4_1 ≤ 2147483647) (x4_2 : Int) (bx4_2 : 0 ≤ x4_2 ∧ x4_2 ≤ 12) (w4_0 : x4_1 = mm_sc9 (h.2.1 52) (h.2.1 49) (h.2.1 16) (x4_2).toNat) (w4_1 : x4_2 ≤ h.1 48 8), (12 - x4_2 : Int) < n → mm_W x 0 0 4 [mR 48, mI x4_1, mI x4_2] [] h := by
    intro n
    induction n with
    | zero =>
      intro x4_1 bx4_1 x4_2 bx4_2 w4_0 w4_1 hm
      exfalso; omega
    | succ n ih4 =>
      intro x4_1 bx4_1 x4_2 bx4_2 w4_0 w4_1 hm4
      refine mm_iload_n C (mm_dec dk_X1_score 4 rfl) rfl ?_
      refine mm_aload_n C (mm_dec dk_X1_score 5 rfl) rfl ?_
      refine mm_geti C fl_X1_27 (mm_dec dk_X1_score 6 rfl) rfl rfl (Or.inl rfl) ?_
      have g1 : 0 ≤ (h.1 48 8) ∧ (h.1 48 8) ≤ 12 := i0.1 48 8
      refine mm_icmp_ge (tgt := 44) C (mm_dec dk_X1_score 7 rfl) (by decide) (fun c9 => ?_) (fun c9 => ?_)
      · skip
        refine mm_iload_n C (mm_dec dk_X1_score 26 rfl) rfl ?_
        exact mm_iret C T (mm_dec dk_X1_score 27 rfl) (by decide : 0 ≤ 0) (by decide : 0 ≤ 0) ⟨_, rfl, ⟨⟨by omega, by omega⟩, rfl, by (rw [show h.1 48 8 = x4_2 by omega]; exact w4_0)⟩⟩
      · skip
        refine mm_aload_n C (mm_dec dk_X1_score 8 rfl) rfl ?_
        refine mm_getr (t := 52) C fl_X1_21 (mm_dec dk_X1_score 9 rfl) rfl rfl (mm_ref i0 rfl) ?_
        refine mm_iload_n C (mm_dec dk_X1_score 10 rfl) rfl ?_
        refine mm_iald C (mm_dec dk_X1_score 11 rfl) rfl (by omega) (by omega) ?_
        have g2 : -1 ≤ (h.2.1 52 x4_2) ∧ (h.2.1 52 x4_2) ≤ 499 := i0.2.1 52 x4_2
        refine mm_iconst C (mm_dec dk_X1_score 12 rfl) ⟨by decide, by decide⟩ ?_
        have J38 : ∀ (x38_1 : Int) (bx38_1 : -2147483648 ≤ x38_1 ∧ x38_1 ≤ 2147483647) (w38_0 : x38_1 = mm_sc9 (h.2.1 52) (h.2.1 49) (h.2.1 16) (x4_2 + 1).toNat), mm_W x 0 0 38 [mR 48, mI x38_1, mI x4_2] [] h := by
          intro x38_1 bx38_1 w38_0
          refine mm_iincL (ls2 := [mR 48, mI x38_1, mI (x4_2 + 1)]) C (mm_dec dk_X1_score 24 rfl) rfl (by decide) ⟨by omega, by omega⟩ rfl ?_
          refine mm_goto (tgt := 4) C (mm_dec dk_X1_score 25 rfl) (by decide) ?_
          exact ih4 x38_1 ⟨by omega, by omega⟩ (x4_2 + 1) ⟨by omega, by omega⟩ (by first | rfl | exact w38_0) (by omega) (by omega)
        refine mm_icmp_eq (tgt := 38) C (mm_dec dk_X1_score 13 rfl) (by decide) (fun c19 => ?_) (fun c19 => ?_)
        · skip
          exact J38 x4_1 ⟨by omega, by omega⟩ (by first | exact mm_sc9_y w4_0 (by omega) (by omega) rfl | exact mm_sc9_n w4_0 (by omega) (by omega))
        · skip
          refine mm_iload_n C (mm_dec dk_X1_score 14 rfl) rfl ?_
          refine mm_aload_n C (mm_dec dk_X1_score 15 rfl) rfl ?_
          refine mm_getr (t := 14) C fl_X1_34 (mm_dec dk_X1_score 16 rfl) rfl rfl (mm_ref i0 rfl) ?_
          refine mm_aload_n C (mm_dec dk_X1_score 17 rfl) rfl ?_
          refine mm_getr (t := 49) C fl_X1_9 (mm_dec dk_X1_score 18 rfl) rfl rfl (mm_ref i0 rfl) ?_
          refine mm_iload_n C (mm_dec dk_X1_score 19 rfl) rfl ?_
          refine mm_iald C (mm_dec dk_X1_score 20 rfl) rfl (by omega) (by omega) ?_
          have g3 : 0 ≤ (h.2.1 49 x4_2) ∧ (h.2.1 49 x4_2) ≤ 19 := i0.2.1 49 x4_2
          refine mm_cVi (rest := [mI x4_1]) C1 ev_X1_78 (mm_dec dk_X1_score 21 rfl) (c_X2_pointsOf_q x.2.1 hl (d - 1) (by omega) h i0 (h.2.1 49 x4_2) ⟨by omega, by omega⟩) rfl rfl (Nat.le_of_ble_eq_true rfl) ⟨by decide, by decide⟩ rfl (fun r33 h33c hp33 => ?_) (fun _ _ q => q.elim)
          obtain ⟨z33, y33⟩ := hp33
          rw [z33, y33]
          have g5 : 0 ≤ (h.2.1 16 (h.2.1 49 x4_2)) ∧ (h.2.1 16 (h.2.1 49 x4_2)) ≤ 99 := i0.2.1 16 (h.2.1 49 x4_2)
          refine mm_iaddw C (mm_dec dk_X1_score 22 rfl) ?_
          have g6 : -2147483648 ≤ (mm_w (x4_1 + (h.2.1 16 (h.2.1 49 x4_2)))) ∧ (mm_w (x4_1 + (h.2.1 16 (h.2.1 49 x4_2)))) < 2147483648 := mm_w_rg _
          refine mm_istore_nL (ls2 := [mR 48, mI (mm_w (x4_1 + (h.2.1 16 (h.2.1 49 x4_2)))), mI x4_2]) C (mm_dec dk_X1_score 23 rfl) (by decide) rfl ?_
          exact J38 (mm_w (x4_1 + (h.2.1 16 (h.2.1 49 x4_2)))) ⟨by omega, by omega⟩ (by first | exact mm_sc9_y w4_0 (by omega) (by omega) rfl | exact mm_sc9_n w4_0 (by omega) (by omega))
  refine mm_istore_nL (ls2 := [mR 48, mI 0, mI 0]) C (mm_dec dk_X1_score 3 rfl) (by decide) rfl ?_
  exact J4 (((12 - 0) : Int) + 1).toNat 0 ⟨by omega, by omega⟩ 0 ⟨by omega, by omega⟩ (by first | rfl | exact w38_0) (by omega) (by omega)
set_option maxRecDepth 100000 in
set_option maxHeartbeats 4000000 in
theorem c_X6_isUpheld_q (l : Launch) (hl : l.stackTraces = false) (d : Nat) (hd : 0 ≤ d) (h : mH) (i0 : mm_inv h) (p1 : Int) (p2 : Int) (p3 : Int) (bp1 : 0 ≤ p1 ∧ p1 ≤ 39) (bp2 : 0 ≤ p2 ∧ p2 ≤ 39) : mm_Met l d yX6_isUpheld cX6_isUpheld 4 (some .boolean) [mR 30, mI p1, mI p2, mI p3] h (mm_pi fun r h2 => (0 ≤ r ∧ r ≤ 1) ∧ h2 = h ∧ ((r = 1 ∧ mm_uh9 (h.2.1 37) (h.2.1 40) (h.2.1 38) p2 p3 p1) ∨ (r = 0 ∧ ¬ mm_uh9 (h.2.1 37) (h.2.1 40) (h.2.1 38) p2 p3 p1))) mm_nx 0 0 := by
  refine mm_ofW (ls := [mR 30, mI p1, mI p2, mI p3]) hl (by decide) rfl (Nat.le_of_ble_eq_true rfl) ?_
  intro x hxl C T hnm htb
  subst hxl
  refine mm_rng (fun hr _ => ?_)
  have ap1 : -2147483648 ≤ p1 ∧ p1 < 2147483648 := mm_ok_at hr (i := 1) rfl
  have ap2 : -2147483648 ≤ p2 ∧ p2 < 2147483648 := mm_ok_at hr (i := 2) rfl
  have ap3 : -2147483648 ≤ p3 ∧ p3 < 2147483648 := mm_ok_at hr (i := 3) rfl
  have f0 : mm_fr [] [] h h := mm_fr_rf
  refine mm_aload_n C (mm_dec dk_X6_isUpheld 0 rfl) rfl ?_
  refine mm_getr (t := 37) C fl_X6_34 (mm_dec dk_X6_isUpheld 1 rfl) rfl rfl (mm_ref i0 rfl) ?_
  refine mm_iload_n C (mm_dec dk_X6_isUpheld 2 rfl) rfl ?_
  refine mm_iald C (mm_dec dk_X6_isUpheld 3 rfl) rfl (by omega) (by omega) ?_
  have g1 : -2147483648 ≤ (h.2.1 37 p1) ∧ (h.2.1 37 p1) ≤ 2147483647 := i0.2.1 37 p1
  refine mm_iload_n C (mm_dec dk_X6_isUpheld 4 rfl) rfl ?_
  have J44 : ∀ (s44_0 : Int) (bs44_0 : 0 ≤ s44_0 ∧ s44_0 ≤ 1) (w44_0 : ((s44_0 = 1 ∧ mm_uh9 (h.2.1 37) (h.2.1 40) (h.2.1 38) p2 p3 p1) ∨ (s44_0 = 0 ∧ ¬ mm_uh9 (h.2.1 37) (h.2.1 40) (h.2.1 38) p2 p3 p1))) (vs44_0 : (s44_0 = 0) ∨ ((h.2.1 37 p1) = p2 ∧ (h.2.1 40 p1) ≠ (-1) ∧ (h.2.1 40 p1) ≤ p3 ∧ (h.2.1 38 p1) ≠ 0 ∧ s44_0 = 1)), mm_W x 0 0 44 [mU, mU, mU, mU] [mI s44_0] h := by
    intro s44_0 bs44_0 w44_0 vs44_0
    exact mm_zret C T (mm_dec dk_X6_isUpheld 26 rfl) (by decide : 0 ≤ 0) (by decide : 0 ≤ 0) (by omega) ⟨_, rfl, ⟨⟨by omega, by omega⟩, rfl, by exact w44_0⟩⟩
  have J43 : ∀ (w43_0 : ¬ mm_uh9 (h.2.1 37) (h.2.1 40) (h.2.1 38) p2 p3 p1), mm_W x 0 0 43 [mU, mU, mU, mU] [] h := by
    intro w43_0
    refine mm_iconst C (mm_dec dk_X6_isUpheld 25 rfl) ⟨by decide, by decide⟩ ?_
    exact J44 0 ⟨by omega, by omega⟩ (by first | exact Or.inl ⟨rfl, by omega, by omega, by omega, by omega⟩ | exact Or.inr ⟨rfl, w43_0⟩) (Or.inl rfl)
  refine mm_icmp_ne (tgt := 43) C (mm_dec dk_X6_isUpheld 5 rfl) (by decide) (fun c7 => ?_) (fun c7 => ?_)
  · skip
    refine mm_fgt 0 ?_
    refine mm_fgt 1 ?_
    refine mm_fgt 2 ?_
    refine mm_fgt 3 ?_
    exact J43 (by exact fun q => by have q1 := q.1; have q2 := q.2.1; have q3 := q.2.2.1; have q4 := q.2.2.2; omega)
  · skip
    refine mm_aload_n C (mm_dec dk_X6_isUpheld 6 rfl) rfl ?_
    refine mm_getr (t := 40) C fl_X6_43 (mm_dec dk_X6_isUpheld 7 rfl) rfl rfl (mm_ref i0 rfl) ?_
    refine mm_iload_n C (mm_dec dk_X6_isUpheld 8 rfl) rfl ?_
    refine mm_iald C (mm_dec dk_X6_isUpheld 9 rfl) rfl (by omega) (by omega) ?_
    have g2 : -2147483648 ≤ (h.2.1 40 p1) ∧ (h.2.1 40 p1) ≤ 2147483647 := i0.2.1 40 p1
    refine mm_iconst C (mm_dec dk_X6_isUpheld 10 rfl) ⟨by decide, by decide⟩ ?_
    refine mm_icmp_eq (tgt := 43) C (mm_dec dk_X6_isUpheld 11 rfl) (by decide) (fun c17 => ?_) (fun c17 => ?_)
    · skip
      refine mm_fgt 0 ?_
      refine mm_fgt 1 ?_
      refine mm_fgt 2 ?_
      refine mm_fgt 3 ?_
      exact J43 (by exact fun q => by have q1 := q.1; have q2 := q.2.1; have q3 := q.2.2.1; have q4 := q.2.2.2; omega)
    · skip
      refine mm_aload_n C (mm_dec dk_X6_isUpheld 12 rfl) rfl ?_
      refine mm_getr (t := 40) C fl_X6_43 (mm_dec dk_X6_isUpheld 13 rfl) rfl rfl (mm_ref i0 rfl) ?_
      refine mm_iload_n C (mm_dec dk_X6_isUpheld 14 rfl) rfl ?_
      refine mm_iald C (mm_dec dk_X6_isUpheld 15 rfl) rfl (by omega) (by omega) ?_
      refine mm_iload_n C (mm_dec dk_X6_isUpheld 16 rfl) rfl ?_
      refine mm_icmp_gt (tgt := 43) C (mm_dec dk_X6_isUpheld 17 rfl) (by decide) (fun c27 => ?_) (fun c27 => ?_)
      · skip
        refine mm_fgt 0 ?_
        refine mm_fgt 1 ?_
        refine mm_fgt 2 ?_
        refine mm_fgt 3 ?_
        exact J43 (by exact fun q => by have q1 := q.1; have q2 := q.2.1; have q3 := q.2.2.1; have q4 := q.2.2.2; omega)
      · skip
        refine mm_aload_n C (mm_dec dk_X6_isUpheld 18 rfl) rfl ?_
        refine mm_getr (t := 38) C fl_X6_37 (mm_dec dk_X6_isUpheld 19 rfl) rfl rfl (mm_ref i0 rfl) ?_
        refine mm_iload_n C (mm_dec dk_X6_isUpheld 20 rfl) rfl ?_
        refine mm_iald C (mm_dec dk_X6_isUpheld 21 rfl) rfl (by omega) (by omega) ?_
        have g3 : -2147483648 ≤ (h.2.1 38 p1) ∧ (h.2.1 38 p1) ≤ 2147483647 := i0.2.1 38 p1
        refine mm_if_eq (tgt := 43) C (mm_dec dk_X6_isUpheld 22 rfl) (by decide) (fun c36 => ?_) (fun c36 => ?_)
        · skip
          refine mm_fgt 0 ?_
          refine mm_fgt 1 ?_
          refine mm_fgt 2 ?_
          refine mm_fgt 3 ?_
          exact J43 (by exact fun q => by have q1 := q.1; have q2 := q.2.1; have q3 := q.2.2.1; have q4 := q.2.2.2; omega)
        · skip
          refine mm_iconst C (mm_dec dk_X6_isUpheld 23 rfl) ⟨by decide, by decide⟩ ?_
          refine mm_goto (tgt := 44) C (mm_dec dk_X6_isUpheld 24 rfl) (by decide) ?_
          refine mm_fgt 0 ?_
          refine mm_fgt 1 ?_
          refine mm_fgt 2 ?_
          refine mm_fgt 3 ?_
          exact J44 1 ⟨by omega, by omega⟩ (by first | exact Or.inl ⟨rfl, by omega, by omega, by omega, by omega⟩ | exact Or.inr ⟨rfl, w43_0⟩) (Or.inr (⟨by omega, by omega, by omega, by omega, rfl⟩))
set_option maxRecDepth 100000 in
set_option maxHeartbeats 4000000 in
theorem c_X6_verdictOn_q (l : Launch) (hl : l.stackTraces = false) (d : Nat) (hd : 1 ≤ d) (h : mH) (i0 : mm_inv h) (p1 : Int) (p2 : Int) (bp1 : 0 ≤ p1 ∧ p1 ≤ 39) : mm_Met l d yX6_verdictOn cX6_verdictOn 6 (some .int) [mR 30, mI p1, mI p2] h (mm_pi fun r h2 => (-2147483648 ≤ r ∧ r ≤ 2147483647) ∧ h2 = h ∧ r = (mm_ve9 (h.2.1 37) (h.2.1 40) (h.2.1 38) (h.2.1 41) p1 p2 (h.1 30 12).toNat).2) mm_nx 0 0 := by
  refine mm_ofW (ls := [mR 30, mI p1, mI p2, mU, mU, mU]) hl (by decide) rfl (Nat.le_of_ble_eq_true rfl) ?_
  intro x hxl C T hnm htb
  subst hxl
  have C1 := mm_OK_le (d' := d - 1 + 1) (by omega) C
  refine mm_rng (fun hr _ => ?_)
  have ap1 : -2147483648 ≤ p1 ∧ p1 < 2147483648 := mm_ok_at hr (i := 1) rfl
  have ap2 : -2147483648 ≤ p2 ∧ p2 < 2147483648 := mm_ok_at hr (i := 2) rfl
  have f0 : mm_fr [] [] h h := mm_fr_rf
  have zp30 : 0 ≤ h.1 30 12 ∧ h.1 30 12 ≤ 40 := i0.1 30 12
  refine mm_iconst C (mm_dec dk_X6_verdictOn 0 rfl) ⟨by decide, by decide⟩ ?_
  refine mm_istore_nL (ls2 := [mR 30, mI p1, mI p2, mI (-1), mU, mU]) C (mm_dec dk_X6_verdictOn 1 rfl) (by decide) rfl ?_
  refine mm_iconst C (mm_dec dk_X6_verdictOn 2 rfl) ⟨by decide, by decide⟩ ?_
  refine mm_istoreL (ls2 := [mR 30, mI p1, mI p2, mI (-1), mI 0, mU]) C (mm_dec dk_X6_verdictOn 3 rfl) (by decide) rfl ?_
  refine mm_iconst C (mm_dec dk_X6_verdictOn 4 rfl) ⟨by decide, by decide⟩ ?_
  have J8 : ∀ (n : Nat) (x8_3 : Int) (bx8_3 : -1 ≤ x8_3 ∧ x8_3 ≤ 2147483647) (x8_4 : Int) (bx8_4 : -2147483648 ≤ x8_4 ∧ x8_4 ≤ 2147483647) (x8_5 : Int) (bx8_5 : 0 ≤ x8_5 ∧ x8_5 ≤ 40) (w8_0 : (x8_3, x8_4) = mm_ve9 (h.2.1 37) (h.2.1 40) (h.2.1 38) (h.2.1 41) p1 p2 (x8_5).toNat) (w8_1 : x8_5 ≤ h.1 30 12), (40 - x8_5 : Int) < n → mm_W x 0 0 8 [mR 30, mI p1, mI p2, mI x8_3, mI x8_4, mI x8_5] [] h := by
    intro n
    induction n with
    | zero =>
      intro x8_3 bx8_3 x8_4 bx8_4 x8_5 bx8_5 w8_0 w8_1 hm
      exfalso; omega
    | succ n ih8 =>
      intro x8_3 bx8_3 x8_4 bx8_4 x8_5 bx8_5 w8_0 w8_1 hm8
      refine mm_iload C (mm_dec dk_X6_verdictOn 6 rfl) rfl ?_
      refine mm_aload_n C (mm_dec dk_X6_verdictOn 7 rfl) rfl ?_
      refine mm_geti C fl_X6_49 (mm_dec dk_X6_verdictOn 8 rfl) rfl rfl (Or.inl rfl) ?_
      have g1 : 0 ≤ (h.1 30 12) ∧ (h.1 30 12) ≤ 40 := i0.1 30 12
      refine mm_icmp_ge (tgt := 62) C (mm_dec dk_X6_verdictOn 9 rfl) (by decide) (fun c14 => ?_) (fun c14 => ?_)
      · skip
        refine mm_iload C (mm_dec dk_X6_verdictOn 34 rfl) rfl ?_
        exact mm_iret C T (mm_dec dk_X6_verdictOn 35 rfl) (by decide : 0 ≤ 0) (by decide : 0 ≤ 0) ⟨_, rfl, ⟨⟨by omega, by omega⟩, rfl, by (rw [show h.1 30 12 = x8_5 by omega, ← w8_0])⟩⟩
      · skip
        refine mm_aload_n C (mm_dec dk_X6_verdictOn 10 rfl) rfl ?_
        refine mm_iload C (mm_dec dk_X6_verdictOn 11 rfl) rfl ?_
        refine mm_iload_n C (mm_dec dk_X6_verdictOn 12 rfl) rfl ?_
        refine mm_iload_n C (mm_dec dk_X6_verdictOn 13 rfl) rfl ?_
        refine mm_cVi (rest := []) C1 ev_X6_59 (mm_dec dk_X6_verdictOn 14 rfl) (c_X6_isUpheld_q x.2.1 hl (d - 1) (by omega) h i0 x8_5 p1 p2 ⟨by omega, by omega⟩ ⟨by omega, by omega⟩) rfl rfl (Nat.le_of_ble_eq_true rfl) ⟨by decide, by decide⟩ rfl (fun r22 h22c hp22 => ?_) (fun _ _ q => q.elim)
        obtain ⟨b22, z22, y22_0⟩ := hp22
        rw [z22]
        have J56 : ∀ (x56_3 : Int) (bx56_3 : -1 ≤ x56_3 ∧ x56_3 ≤ 2147483647) (x56_4 : Int) (bx56_4 : -2147483648 ≤ x56_4 ∧ x56_4 ≤ 2147483647) (w56_0 : (x56_3, x56_4) = mm_ve9 (h.2.1 37) (h.2.1 40) (h.2.1 38) (h.2.1 41) p1 p2 (x8_5 + 1).toNat), mm_W x 0 0 56 [mR 30, mI p1, mI p2, mI x56_3, mI x56_4, mI x8_5] [] h := by
          intro x56_3 bx56_3 x56_4 bx56_4 w56_0
          refine mm_iincL (ls2 := [mR 30, mI p1, mI p2, mI x56_3, mI x56_4, mI (x8_5 + 1)]) C (mm_dec dk_X6_verdictOn 32 rfl) rfl (by decide) ⟨by omega, by omega⟩ rfl ?_
          refine mm_goto (tgt := 8) C (mm_dec dk_X6_verdictOn 33 rfl) (by decide) ?_
          exact ih8 x56_3 ⟨by omega, by omega⟩ x56_4 ⟨by omega, by omega⟩ (x8_5 + 1) ⟨by omega, by omega⟩ (by first | rfl | exact w56_0) (by omega) (by omega)
        refine mm_if_eq (tgt := 56) C (mm_dec dk_X6_verdictOn 15 rfl) (by decide) (fun c25 => ?_) (fun c25 => ?_)
        · skip
          exact J56 x8_3 ⟨by omega, by omega⟩ x8_4 ⟨by omega, by omega⟩ (by first | exact mm_ve9_y w8_0 (by omega) (by exact (y22_0.resolve_right (fun z => by have z1 := z.1; omega)).2) (by omega) | exact mm_ve9_n w8_0 (by omega) (Or.inl (by exact (y22_0.resolve_left (fun z => by have z1 := z.1; omega)).2)) | exact mm_ve9_n w8_0 (by omega) (Or.inr (by omega)))
        · skip
          refine mm_aload_n C (mm_dec dk_X6_verdictOn 16 rfl) rfl ?_
          refine mm_getr (t := 41) C fl_X6_46 (mm_dec dk_X6_verdictOn 17 rfl) rfl rfl (mm_ref i0 rfl) ?_
          refine mm_iload C (mm_dec dk_X6_verdictOn 18 rfl) rfl ?_
          refine mm_iald C (mm_dec dk_X6_verdictOn 19 rfl) rfl (by omega) (by omega) ?_
          have g3 : -2147483648 ≤ (h.2.1 41 x8_5) ∧ (h.2.1 41 x8_5) ≤ 2147483647 := i0.2.1 41 x8_5
          refine mm_iload_n C (mm_dec dk_X6_verdictOn 20 rfl) rfl ?_
          refine mm_icmp_le (tgt := 56) C (mm_dec dk_X6_verdictOn 21 rfl) (by decide) (fun c36 => ?_) (fun c36 => ?_)
          · skip
            exact J56 x8_3 ⟨by omega, by omega⟩ x8_4 ⟨by omega, by omega⟩ (by first | exact mm_ve9_y w8_0 (by omega) (by exact (y22_0.resolve_right (fun z => by have z1 := z.1; omega)).2) (by omega) | exact mm_ve9_n w8_0 (by omega) (Or.inl (by exact (y22_0.resolve_left (fun z => by have z1 := z.1; omega)).2)) | exact mm_ve9_n w8_0 (by omega) (Or.inr (by omega)))
          · skip
            refine mm_aload_n C (mm_dec dk_X6_verdictOn 22 rfl) rfl ?_
            refine mm_getr (t := 41) C fl_X6_46 (mm_dec dk_X6_verdictOn 23 rfl) rfl rfl (mm_ref i0 rfl) ?_
            refine mm_iload C (mm_dec dk_X6_verdictOn 24 rfl) rfl ?_
            refine mm_iald C (mm_dec dk_X6_verdictOn 25 rfl) rfl (by omega) (by omega) ?_
            refine mm_istore_nL (ls2 := [mR 30, mI p1, mI p2, mI (h.2.1 41 x8_5), mI x8_4, mI x8_5]) C (mm_dec dk_X6_verdictOn 26 rfl) (by decide) rfl ?_
            refine mm_aload_n C (mm_dec dk_X6_verdictOn 27 rfl) rfl ?_
            refine mm_getr (t := 38) C fl_X6_37 (mm_dec dk_X6_verdictOn 28 rfl) rfl rfl (mm_ref i0 rfl) ?_
            refine mm_iload C (mm_dec dk_X6_verdictOn 29 rfl) rfl ?_
            refine mm_iald C (mm_dec dk_X6_verdictOn 30 rfl) rfl (by omega) (by omega) ?_
            have g4 : -2147483648 ≤ (h.2.1 38 x8_5) ∧ (h.2.1 38 x8_5) ≤ 2147483647 := i0.2.1 38 x8_5
            refine mm_istoreL (ls2 := [mR 30, mI p1, mI p2, mI (h.2.1 41 x8_5), mI (h.2.1 38 x8_5), mI x8_5]) C (mm_dec dk_X6_verdictOn 31 rfl) (by decide) rfl ?_
            exact J56 (h.2.1 41 x8_5) ⟨by omega, by omega⟩ (h.2.1 38 x8_5) ⟨by omega, by omega⟩ (by first | exact mm_ve9_y w8_0 (by omega) (by exact (y22_0.resolve_right (fun z => by have z1 := z.1; omega)).2) (by omega) | exact mm_ve9_n w8_0 (by omega) (Or.inl (by exact (y22_0.resolve_left (fun z => by have z1 := z.1; omega)).2)) | exact mm_ve9_n w8_0 (by omega) (Or.inr (by omega)))
  refine mm_istoreL (ls2 := [mR 30, mI p1, mI p2, mI (-1), mI 0, mI 0]) C (mm_dec dk_X6_verdictOn 5 rfl) (by decide) rfl ?_
  exact J8 (((40 - 0) : Int) + 1).toNat (-1) ⟨by omega, by omega⟩ 0 ⟨by omega, by omega⟩ 0 ⟨by omega, by omega⟩ (by first | rfl | exact w56_0) (by omega) (by omega)
set_option maxRecDepth 100000 in
set_option maxHeartbeats 4000000 in
theorem c_X6_addedTo_q (l : Launch) (hl : l.stackTraces = false) (d : Nat) (hd : 1 ≤ d) (h : mH) (i0 : mm_inv h) (p1 : Int) (p2 : Int) (bp1 : 0 ≤ p1 ∧ p1 ≤ 39) : mm_Met l d yX6_addedTo cX6_addedTo 5 (some .int) [mR 30, mI p1, mI p2] h (mm_pi fun r h2 => (-2147483648 ≤ r ∧ r ≤ 2147483647) ∧ h2 = h ∧ r = mm_ad9 (h.2.1 37) (h.2.1 40) (h.2.1 38) (h.2.1 39) p1 p2 (h.1 30 12).toNat) mm_nx 0 0 := by
  refine mm_ofW (ls := [mR 30, mI p1, mI p2, mU, mU]) hl (by decide) rfl (Nat.le_of_ble_eq_true rfl) ?_
  intro x hxl C T hnm htb
  subst hxl
  have C1 := mm_OK_le (d' := d - 1 + 1) (by omega) C
  refine mm_rng (fun hr _ => ?_)
  have ap1 : -2147483648 ≤ p1 ∧ p1 < 2147483648 := mm_ok_at hr (i := 1) rfl
  have ap2 : -2147483648 ≤ p2 ∧ p2 < 2147483648 := mm_ok_at hr (i := 2) rfl
  have f0 : mm_fr [] [] h h := mm_fr_rf
  have zp30 : 0 ≤ h.1 30 12 ∧ h.1 30 12 ≤ 40 := i0.1 30 12
  refine mm_iconst C (mm_dec dk_X6_addedTo 0 rfl) ⟨by decide, by decide⟩ ?_
  refine mm_istore_nL (ls2 := [mR 30, mI p1, mI p2, mI 0, mU]) C (mm_dec dk_X6_addedTo 1 rfl) (by decide) rfl ?_
  refine mm_iconst C (mm_dec dk_X6_addedTo 2 rfl) ⟨by decide, by decide⟩ ?_
  have J5 : ∀ (n : Nat) (x5_3 : Int) (bx5_3 : -2147483648 ≤ x5_3 ∧ x5_3 ≤ 2147483647) (x5_4 : Int) (bx5_4 : 0 ≤ x5_4 ∧ x5_4 ≤ 40) (w5_0 : x5_3 = mm_ad9 (h.2.1 37) (h.2.1 40) (h.2.1 38) (h.2.1 39) p1 p2 (x5_4).toNat) (w5_1 : x5_4 ≤ h.1 30 12), (40 - x5_4 : Int) < n → mm_W x 0 0 5 [mR 30, mI p1, mI p2, mI x5_3, mI x5_4] [] h := by
    intro n
    induction n with
    | zero =>
      intro x5_3 bx5_3 x5_4 bx5_4 w5_0 w5_1 hm
      exfalso; omega
    | succ n ih5 =>
      intro x5_3 bx5_3 x5_4 bx5_4 w5_0 w5_1 hm5
      refine mm_iload C (mm_dec dk_X6_addedTo 4 rfl) rfl ?_
      refine mm_aload_n C (mm_dec dk_X6_addedTo 5 rfl) rfl ?_
      refine mm_geti C fl_X6_49 (mm_dec dk_X6_addedTo 6 rfl) rfl rfl (Or.inl rfl) ?_
      have g1 : 0 ≤ (h.1 30 12) ∧ (h.1 30 12) ≤ 40 := i0.1 30 12
      refine mm_icmp_ge (tgt := 41) C (mm_dec dk_X6_addedTo 7 rfl) (by decide) (fun c11 => ?_) (fun c11 => ?_)
      · skip
        refine mm_iload_n C (mm_dec dk_X6_addedTo 23 rfl) rfl ?_
        exact mm_iret C T (mm_dec dk_X6_addedTo 24 rfl) (by decide : 0 ≤ 0) (by decide : 0 ≤ 0) ⟨_, rfl, ⟨⟨by omega, by omega⟩, rfl, by (rw [show h.1 30 12 = x5_4 by omega]; exact w5_0)⟩⟩
      · skip
        refine mm_aload_n C (mm_dec dk_X6_addedTo 8 rfl) rfl ?_
        refine mm_iload C (mm_dec dk_X6_addedTo 9 rfl) rfl ?_
        refine mm_iload_n C (mm_dec dk_X6_addedTo 10 rfl) rfl ?_
        refine mm_iload_n C (mm_dec dk_X6_addedTo 11 rfl) rfl ?_
        refine mm_cVi (rest := []) C1 ev_X6_59 (mm_dec dk_X6_addedTo 12 rfl) (c_X6_isUpheld_q x.2.1 hl (d - 1) (by omega) h i0 x5_4 p1 p2 ⟨by omega, by omega⟩ ⟨by omega, by omega⟩) rfl rfl (Nat.le_of_ble_eq_true rfl) ⟨by decide, by decide⟩ rfl (fun r19 h19c hp19 => ?_) (fun _ _ q => q.elim)
        obtain ⟨b19, z19, y19_0⟩ := hp19
        rw [z19]
        have J35 : ∀ (x35_3 : Int) (bx35_3 : -2147483648 ≤ x35_3 ∧ x35_3 ≤ 2147483647) (w35_0 : x35_3 = mm_ad9 (h.2.1 37) (h.2.1 40) (h.2.1 38) (h.2.1 39) p1 p2 (x5_4 + 1).toNat), mm_W x 0 0 35 [mR 30, mI p1, mI p2, mI x35_3, mI x5_4] [] h := by
          intro x35_3 bx35_3 w35_0
          refine mm_iincL (ls2 := [mR 30, mI p1, mI p2, mI x35_3, mI (x5_4 + 1)]) C (mm_dec dk_X6_addedTo 21 rfl) rfl (by decide) ⟨by omega, by omega⟩ rfl ?_
          refine mm_goto (tgt := 5) C (mm_dec dk_X6_addedTo 22 rfl) (by decide) ?_
          exact ih5 x35_3 ⟨by omega, by omega⟩ (x5_4 + 1) ⟨by omega, by omega⟩ (by first | rfl | exact w35_0) (by omega) (by omega)
        refine mm_if_eq (tgt := 35) C (mm_dec dk_X6_addedTo 13 rfl) (by decide) (fun c22 => ?_) (fun c22 => ?_)
        · skip
          exact J35 x5_3 ⟨by omega, by omega⟩ (by first | exact mm_ad9_y w5_0 (by omega) (by exact (y19_0.resolve_right (fun z => by have z1 := z.1; omega)).2) | exact mm_ad9_n w5_0 (by omega) (by exact (y19_0.resolve_left (fun z => by have z1 := z.1; omega)).2))
        · skip
          refine mm_iload_n C (mm_dec dk_X6_addedTo 14 rfl) rfl ?_
          refine mm_aload_n C (mm_dec dk_X6_addedTo 15 rfl) rfl ?_
          refine mm_getr (t := 39) C fl_X6_40 (mm_dec dk_X6_addedTo 16 rfl) rfl rfl (mm_ref i0 rfl) ?_
          refine mm_iload C (mm_dec dk_X6_addedTo 17 rfl) rfl ?_
          refine mm_iald C (mm_dec dk_X6_addedTo 18 rfl) rfl (by omega) (by omega) ?_
          have g3 : -2147483648 ≤ (h.2.1 39 x5_4) ∧ (h.2.1 39 x5_4) ≤ 2147483647 := i0.2.1 39 x5_4
          refine mm_iaddw C (mm_dec dk_X6_addedTo 19 rfl) ?_
          have g4 : -2147483648 ≤ (mm_w (x5_3 + (h.2.1 39 x5_4))) ∧ (mm_w (x5_3 + (h.2.1 39 x5_4))) < 2147483648 := mm_w_rg _
          refine mm_istore_nL (ls2 := [mR 30, mI p1, mI p2, mI (mm_w (x5_3 + (h.2.1 39 x5_4))), mI x5_4]) C (mm_dec dk_X6_addedTo 20 rfl) (by decide) rfl ?_
          exact J35 (mm_w (x5_3 + (h.2.1 39 x5_4))) ⟨by omega, by omega⟩ (by first | exact mm_ad9_y w5_0 (by omega) (by exact (y19_0.resolve_right (fun z => by have z1 := z.1; omega)).2) | exact mm_ad9_n w5_0 (by omega) (by exact (y19_0.resolve_left (fun z => by have z1 := z.1; omega)).2))
  refine mm_istoreL (ls2 := [mR 30, mI p1, mI p2, mI 0, mI 0]) C (mm_dec dk_X6_addedTo 3 rfl) (by decide) rfl ?_
  exact J5 (((40 - 0) : Int) + 1).toNat 0 ⟨by omega, by omega⟩ 0 ⟨by omega, by omega⟩ (by first | rfl | exact w35_0) (by omega) (by omega)
