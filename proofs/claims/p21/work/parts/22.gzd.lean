/-! ===== the judging: punches in order, what is kept ===== -/
/-- the event e put into the row Q of m events that lie in order of A -/
def mm_in8 (A Q : Int → Int) (m e : Int) (Q' : Int → Int) : Prop := ∃ p, 0 ≤ p ∧ p ≤ m ∧ (∀ j, 0 ≤ j → j < p → Q' j = Q j) ∧ Q' p = e ∧ (∀ j, p ≤ j → j < m → Q' (j + 1) = Q j) ∧ (p = 0 ∨ A (Q (p - 1)) ≤ A e) ∧ (∀ j, p ≤ j → j < m → A e < A (Q j))
theorem mm_in8_un {A A' Q R Q' R' : Int → Int} {m e : Int} (X : mm_in8 A Q m e Q') (Y : mm_in8 A' R m e R') (eq : ∀ j, 0 ≤ j → j < m → R j = Q j) (ea : ∀ j, 0 ≤ j → j < m → A' (Q j) = A (Q j)) (ee : A' e = A e) : ∀ j, 0 ≤ j → j < m + 1 → R' j = Q' j := by
  obtain ⟨p, p0, pm, x1, x2, x3, x4, x5⟩ := X
  obtain ⟨q, q0, qm, y1, y2, y3, y4, y5⟩ := Y
  have hpq : p = q := by
    by_cases l : p < q
    · have a := x5 (q - 1) (by omega) (by omega)
      have b : A' (R (q - 1)) ≤ A' e := by rcases y4 with y4 | y4
                                           · omega
                                           · exact y4
      rw [eq (q - 1) (by omega) (by omega), ea (q - 1) (by omega) (by omega), ee] at b
      omega
    · by_cases g : q < p
      · have a := y5 (p - 1) (by omega) (by omega)
        have b : A (Q (p - 1)) ≤ A e := by rcases x4 with x4 | x4
                                           · omega
                                           · exact x4
        rw [eq (p - 1) (by omega) (by omega), ea (p - 1) (by omega) (by omega), ee] at a
        omega
      · omega
  subst hpq
  intro j j0 j1
  by_cases a : j < p
  · rw [x1 j j0 a, y1 j j0 a, eq j j0 (by omega)]
  · by_cases b : j = p
    · rw [b, x2, y2]
    · have u := x3 (j - 1) (by omega) (by omega)
      have v := y3 (j - 1) (by omega) (by omega)
      rw [show j - 1 + 1 = j by omega] at u v
      rw [u, v, eq (j - 1) (by omega) (by omega)]
/-- of the first i events those with P, in order of A -/
def mm_so8 (P : Int → Prop) (A : Int → Int) : Nat → Int → (Int → Int) → Prop
  | 0, m, _ => m = 0
  | i + 1, m, Q => (P (i : Int) ∧ ∃ Q0, mm_so8 P A i (m - 1) Q0 ∧ mm_in8 A Q0 (m - 1) (i : Int) Q) ∨ (¬ P (i : Int) ∧ mm_so8 P A i m Q)
theorem mm_so8_rg {P : Int → Prop} {A : Int → Int} : ∀ (i : Nat) (m : Int) (Q : Int → Int), mm_so8 P A i m Q → 0 ≤ m ∧ m ≤ i ∧ ∀ j, 0 ≤ j → j < m → 0 ≤ Q j ∧ Q j < i
  | 0, m, _, h => by
    have h' : m = 0 := h
    exact ⟨by omega, by omega, fun k a b => by omega⟩
  | i + 1, m, Q, h => by
    rcases h with ⟨_, Q0, d, p, p0, pm, x1, x2, x3, _⟩ | ⟨_, d⟩
    · have z := mm_so8_rg i (m - 1) Q0 d
      refine ⟨by omega, by omega, fun j a b => ?_⟩
      by_cases c : j < p
      · rw [x1 j a c]
        have := z.2.2 j a (by omega)
        omega
      · by_cases g : j = p
        · rw [g, x2]; omega
        · have u := x3 (j - 1) (by omega) (by omega)
          rw [show j - 1 + 1 = j by omega] at u
          rw [u]
          have := z.2.2 (j - 1) (by omega) (by omega)
          omega
    · have z := mm_so8_rg i m Q d
      refine ⟨by omega, by omega, fun k x y => ?_⟩
      have := z.2.2 k x y
      omega
theorem mm_so8_un {P P' : Int → Prop} {A A' : Int → Int} : ∀ (i : Nat) (m m' : Int) (Q Q' : Int → Int), mm_so8 P A i m Q → mm_so8 P' A' i m' Q' → (∀ e, 0 ≤ e → e < (i : Int) → (P e ↔ P' e)) → (∀ e, 0 ≤ e → e < (i : Int) → A' e = A e) → m = m' ∧ ∀ j, 0 ≤ j → j < m → Q' j = Q j
  | 0, m, m', _, _, X, Y, _, _ => by
    have a : m = 0 := X
    have b : m' = 0 := Y
    exact ⟨by omega, fun j x y => by omega⟩
  | i + 1, m, m', Q, Q', X, Y, e, ea => by
    have ei := e (i : Int) (by omega) (by omega)
    rcases X with ⟨a, Q0, b, c⟩ | ⟨a, b⟩ <;> rcases Y with ⟨a', R0, b', c'⟩ | ⟨a', b'⟩
    · have z := mm_so8_un i _ _ _ _ b b' (fun k x y => e k x (by omega)) (fun k x y => ea k x (by omega))
      have w := mm_so8_rg i _ _ b
      have hm : m' = m := by omega
      subst hm
      refine ⟨rfl, ?_⟩
      have y := mm_in8_un c c' z.2 (fun j x y => ea _ (w.2.2 j x y).1 (by have := (w.2.2 j x y).2; omega)) (ea _ (by omega) (by omega))
      exact fun j x g => y j x (by omega)
    · exact absurd (ei.mp a) a'
    · exact absurd (ei.mpr a') a
    · exact mm_so8_un i _ _ _ _ b b' (fun k x y => e k x (by omega)) (fun k x y => ea k x (by omega))
theorem mm_so8_y {P : Int → Prop} {A Q Q' : Int → Int} {i m : Int} (S : mm_so8 P A i.toNat m Q) (hi : 0 ≤ i) (p : P i) (I : mm_in8 A Q m i Q') : mm_so8 P A (i + 1).toNat (m + 1) Q' := by
  rw [show (i + 1).toNat = i.toNat + 1 by omega]
  refine Or.inl ⟨by rw [Int.toNat_of_nonneg hi]; exact p, Q, ?_, ?_⟩
  · rw [show m + 1 - 1 = m by omega]; exact S
  · rw [show m + 1 - 1 = m by omega, Int.toNat_of_nonneg hi]; exact I
theorem mm_so8_n {P : Int → Prop} {A Q : Int → Int} {i m : Int} (S : mm_so8 P A i.toNat m Q) (hi : 0 ≤ i) (p : ¬ P i) : mm_so8 P A (i + 1).toNat m Q := by
  rw [show (i + 1).toNat = i.toNat + 1 by omega]
  exact Or.inr ⟨by rw [Int.toNat_of_nonneg hi]; exact p, S⟩
/-! the longest common row -/
def mm_LS8 (L : Int → Int → Int) (w V : Int → Int) (n m : Int) : Prop := (∀ i p, 0 ≤ i → 0 ≤ p → (n ≤ i ∨ m ≤ p) → i ≤ n → p ≤ m → L i p = 0) ∧ (∀ i p, 0 ≤ i → i < n → 0 ≤ p → p < m → L (i + 1) p ≤ L i p ∧ L i (p + 1) ≤ L i p ∧ (V p = w i → L (i + 1) (p + 1) + 1 ≤ L i p) ∧ (L i p = L (i + 1) p ∨ L i p = L i (p + 1) ∨ (V p = w i ∧ L i p = L (i + 1) (p + 1) + 1)))
theorem mm_LS8_0 {L : Int → Int → Int} {w V : Int → Int} {n m : Int} (S : mm_LS8 L w V n m) : ∀ (a b : Nat) (i p : Int), 0 ≤ i → i ≤ n → 0 ≤ p → p ≤ m → n - i = a → m - p = b → 0 ≤ L i p ∧ L i p ≤ n - i
  | 0, b, i, p, i0, i1, p0, p1, ha, hb => by
    have := S.1 i p i0 p0 (by omega) i1 p1
    omega
  | a + 1, 0, i, p, i0, i1, p0, p1, ha, hb => by
    have := S.1 i p i0 p0 (by omega) i1 p1
    omega
  | a + 1, b + 1, i, p, i0, i1, p0, p1, ha, hb => by
    have z := S.2 i p i0 (by omega) p0 (by omega)
    have z1 := mm_LS8_0 S a (b + 1) (i + 1) p (by omega) (by omega) p0 p1 (by omega) (by omega)
    have z2 := mm_LS8_0 S (a + 1) b i (p + 1) (by omega) (by omega) (by omega) (by omega) (by omega) (by omega)
    have z3 := mm_LS8_0 S a b (i + 1) (p + 1) (by omega) (by omega) (by omega) (by omega) (by omega) (by omega)
    rcases z.2.2.2 with y | y | ⟨_, y⟩ <;> omega
theorem mm_LS8_rg {L : Int → Int → Int} {w V : Int → Int} {n m i p : Int} (S : mm_LS8 L w V n m) (i0 : 0 ≤ i) (i1 : i ≤ n) (p0 : 0 ≤ p) (p1 : p ≤ m) : 0 ≤ L i p ∧ L i p ≤ n - i := mm_LS8_0 S (n - i).toNat (m - p).toNat i p i0 i1 p0 p1 (by omega) (by omega)
/-- v is the last place from which on k can be found, -1 if there is none -/
def mm_lt8 (L : Int → Int → Int) (m i k v : Int) : Prop := -1 ≤ v ∧ v ≤ m ∧ ∀ p, 0 ≤ p → p ≤ m → (k ≤ L i p ↔ p ≤ v)
theorem mm_lt8_0 {L : Int → Int → Int} {w V : Int → Int} {n m i : Int} (S : mm_LS8 L w V n m) (i0 : 0 ≤ i) (i1 : i ≤ n) (hm : 0 ≤ m) : mm_lt8 L m i 0 m := ⟨by omega, by omega, fun p a b => by
  have := mm_LS8_rg S i0 i1 a b
  omega⟩
theorem mm_lt8_n {L : Int → Int → Int} {w V : Int → Int} {n m i k : Int} (S : mm_LS8 L w V n m) (i0 : 0 ≤ i) (i1 : i ≤ n) (hm : 0 ≤ m) (hk : n - i < k) : mm_lt8 L m i k (-1) := ⟨by omega, by omega, fun p a b => by
  have := mm_LS8_rg S i0 i1 a b
  omega⟩
/-- by this place or without it: k ≤ L i p in words of the next place -/
theorem mm_LS8_st {L : Int → Int → Int} {w V : Int → Int} {n m i k : Int} (S : mm_LS8 L w V n m) (i0 : 0 ≤ i) (i1 : i < n) (hk : 1 ≤ k) : ∀ (b : Nat) (p : Int), 0 ≤ p → p ≤ m → m - p = b → (k ≤ L i p ↔ (k ≤ L (i + 1) p ∨ ∃ j, p ≤ j ∧ j < m ∧ V j = w i ∧ k - 1 ≤ L (i + 1) (j + 1)))
  | 0, p, p0, p1, hb => by
    have x := S.1 i p i0 p0 (by omega) (by omega) p1
    have y := S.1 (i + 1) p (by omega) p0 (by omega) (by omega) p1
    constructor
    · intro h; omega
    · rintro (h | ⟨j, a, b, _⟩) <;> omega
  | b + 1, p, p0, p1, hb => by
    have z := S.2 i p i0 i1 p0 (by omega)
    have y := mm_LS8_st S i0 i1 hk b (p + 1) (by omega) (by omega) (by omega)
    constructor
    · intro h
      rcases z.2.2.2 with u | u | ⟨u, v⟩
      · left; omega
      · rcases y.mp (by omega) with g | ⟨j, a, c, d, f⟩
        · by_cases q : k ≤ L (i + 1) p
          · exact Or.inl q
          · exfalso
            have : L (i + 1) (p + 1) ≤ L (i + 1) p := by
              by_cases t : i + 1 < n
              · exact (S.2 (i + 1) p (by omega) t p0 (by omega)).2.1
              · have a1 := S.1 (i + 1) p (by omega) p0 (by omega) (by omega) p1
                have a2 := S.1 (i + 1) (p + 1) (by omega) (by omega) (by omega) (by omega) (by omega)
                omega
            omega
        · exact Or.inr ⟨j, by omega, c, d, f⟩
      · exact Or.inr ⟨p, by omega, by omega, u, by omega⟩
    · rintro (h | ⟨j, a, c, d, f⟩)
      · omega
      · by_cases q : j = p
        · have := z.2.2.1 (q ▸ d)
          rw [q] at f
          omega
        · have := y.mpr (Or.inr ⟨j, by omega, c, d, f⟩)
          omega
theorem mm_lt8_s {L : Int → Int → Int} {w V : Int → Int} {n m i k wo re v : Int} (S : mm_LS8 L w V n m) (i0 : 0 ≤ i) (i1 : i < n) (hk : 1 ≤ k) (W : mm_lt8 L m (i + 1) k wo) (R : mm_lt8 L m (i + 1) (k - 1) re) (h : (wo < v ∧ v < re ∧ V v = w i ∧ ∀ j, v < j → j < re → V j ≠ w i) ∨ (v = wo ∧ ∀ j, wo < j → j < re → V j ≠ w i)) : mm_lt8 L m i k v := by
  have hv : -1 ≤ v ∧ v ≤ m := by
    have := W.1; have := W.2.1; have := R.1; have := R.2.1
    rcases h with ⟨a, b, _⟩ | ⟨a, _⟩ <;> omega
  refine ⟨hv.1, hv.2, fun p p0 p1 => ?_⟩
  rw [mm_LS8_st S i0 i1 hk (m - p).toNat p p0 p1 (by omega)]
  have hW := W.2.2 p p0 p1
  constructor
  · rintro (g | ⟨j, a, b, c, d⟩)
    · have := hW.mp g
      rcases h with ⟨x, _⟩ | ⟨x, _⟩ <;> omega
    · have := (R.2.2 (j + 1) (by omega) (by omega)).mp d
      rcases h with ⟨x, y, z, u⟩ | ⟨x, u⟩
      · by_cases q : v < j
        · exact absurd c (u j q (by omega))
        · omega
      · by_cases q : wo < j
        · exact absurd c (u j q (by omega))
        · omega
  · intro g
    rcases h with ⟨x, y, z, u⟩ | ⟨x, u⟩
    · refine Or.inr ⟨v, g, by have := R.2.1; omega, z, ?_⟩
      exact (R.2.2 (v + 1) (by have := W.1; omega) (by have := R.2.1; omega)).mpr (by omega)
    · exact Or.inl (hW.mpr (by omega))
/-! what is kept -/
def mm_ff8 (V : Int → Int) (m x f r : Int) : Prop := (r = -1 ∧ ∀ j, f ≤ j → j < m → V j ≠ x) ∨ (f ≤ r ∧ r < m ∧ V r = x ∧ ∀ j, f ≤ j → j < r → V j ≠ x)
theorem mm_ff8_un {V V' : Int → Int} {m x f r s : Int} (X : mm_ff8 V m x f r) (Y : mm_ff8 V' m x f s) (hf : 0 ≤ f) (e : ∀ j, 0 ≤ j → j < m → V' j = V j) : r = s := by
  rcases X with ⟨a, b⟩ | ⟨a, b, c, d⟩ <;> rcases Y with ⟨a', b'⟩ | ⟨a', b', c', d'⟩
  · omega
  · exact absurd (by rw [← e s (by omega) b']; exact c') (b s a' b')
  · exact absurd (by rw [e r (by omega) b]; exact c) (b' r a b)
  · by_cases q : r < s
    · exact absurd (by rw [e r (by omega) b]; exact c) (d' r a q)
    · by_cases g : s < r
      · exact absurd (by rw [← e s (by omega) b']; exact c') (d s a' g)
      · omega
/-- after i places: from where on punches are free, how many are wanted; K tells what the places before i are kept by -/
def mm_kp8 (L : Int → Int → Int) (w V : Int → Int) (m : Int) : Nat → Int → Int → (Int → Int) → Prop
  | 0, f, l, _ => f = 0 ∧ l = L 0 0
  | i + 1, f, l, K => ∃ f0 l0, mm_kp8 L w V m i f0 l0 K ∧ ((l0 ≤ 0 ∧ K (i : Int) = -1 ∧ f = f0 ∧ l = l0) ∨ (0 < l0 ∧ ∃ r, mm_ff8 V m (w (i : Int)) f0 r ∧ ((r ≠ -1 ∧ l0 ≤ L ((i : Int) + 1) (r + 1) + 1 ∧ K (i : Int) = r ∧ f = r + 1 ∧ l = l0 - 1) ∨ ((r = -1 ∨ L ((i : Int) + 1) (r + 1) + 1 < l0) ∧ K (i : Int) = -1 ∧ f = f0 ∧ l = l0))))
theorem mm_kp8_cg {L : Int → Int → Int} {w V : Int → Int} {m : Int} {K K' : Int → Int} : ∀ (i : Nat) (f l : Int), mm_kp8 L w V m i f l K → (∀ j, 0 ≤ j → j < (i : Int) → K' j = K j) → mm_kp8 L w V m i f l K'
  | 0, _, _, h, _ => h
  | i + 1, f, l, h, e => by
    obtain ⟨f0, l0, a, b⟩ := h
    refine ⟨f0, l0, mm_kp8_cg i f0 l0 a (fun j x y => e j x (by omega)), ?_⟩
    rw [e (i : Int) (by omega) (by omega)]
    exact b
theorem mm_kp8_rg {L : Int → Int → Int} {w V : Int → Int} {m n : Int} {K : Int → Int} (S : mm_LS8 L w V n m) (hm : 0 ≤ m) (hn : 0 ≤ n) : ∀ (i : Nat) (f l : Int), (i : Int) ≤ n → mm_kp8 L w V m i f l K → 0 ≤ f ∧ f ≤ m ∧ L i f ≤ l ∧ 0 ≤ l
  | 0, f, l, _, h => by
    obtain ⟨a, b⟩ := h
    subst a
    have := mm_LS8_rg S (i := 0) (p := 0) (by omega) hn (by omega) hm
    exact ⟨by omega, by omega, by rw [b]; exact Int.le_refl _, by omega⟩
  | i + 1, f, l, hi, h => by
    obtain ⟨f0, l0, a, b⟩ := h
    have z := mm_kp8_rg S hm hn i f0 l0 (by omega) a
    have mono : L ((i : Int) + 1) f0 ≤ L (i : Int) f0 := by
      by_cases t : f0 < m
      · exact (S.2 (i : Int) f0 (by omega) (by omega) z.1 t).1
      · have a1 := S.1 (i : Int) f0 (by omega) z.1 (by omega) (by omega) z.2.1
        have a2 := S.1 ((i : Int) + 1) f0 (by omega) z.1 (by omega) (by omega) z.2.1
        omega
    rw [show ((i + 1 : Nat) : Int) = (i : Int) + 1 by omega]
    rcases b with ⟨c, _, d, e⟩ | ⟨c, r, q, ⟨x, y, _, u, v⟩ | ⟨_, _, u, v⟩⟩
    · subst d e; exact ⟨z.1, z.2.1, by omega, z.2.2.2⟩
    · have q' : f0 ≤ r ∧ r < m ∧ V r = w (i : Int) := by
        rcases q with ⟨q, _⟩ | ⟨q1, q2, q3, _⟩
        · exact absurd q x
        · exact ⟨q1, q2, q3⟩
      have a1 := (S.2 (i : Int) r (by omega) (by omega) (by omega) q'.2.1).2.2.1 q'.2.2
      have a2 : L (i : Int) r ≤ L (i : Int) f0 := by
        have mono2 : ∀ (b : Nat) (p : Int), 0 ≤ p → p + b < m → L (i : Int) (p + b) ≤ L (i : Int) p := by
          intro b
          induction b with
          | zero => intro p _ _; rw [show p + ((0 : Nat) : Int) = p by omega]; exact Int.le_refl _
          | succ b ih =>
            intro p p0 p1
            have e1 := ih (p + 1) (by omega) (by omega)
            have e2 := (S.2 (i : Int) p (by omega) (by omega) p0 (by omega)).2.1
            rw [show p + ((b + 1 : Nat) : Int) = p + 1 + (b : Int) by omega]
            omega
        have := mono2 (r - f0).toNat f0 z.1 (by omega)
        rwa [show f0 + ((r - f0).toNat : Int) = r by omega] at this
      subst u v
      exact ⟨by omega, by omega, by omega, by omega⟩
    · subst u v; exact ⟨z.1, z.2.1, by omega, z.2.2.2⟩
theorem mm_kp8_un {L : Int → Int → Int} {w w' V V' : Int → Int} {m n : Int} {K K' : Int → Int} (ew : ∀ j, 0 ≤ j → j < n → w' j = w j) (ev : ∀ j, 0 ≤ j → j < m → V' j = V j) : ∀ (i : Nat) (f l f' l' : Int), (i : Int) ≤ n → mm_kp8 L w V m i f l K → mm_kp8 L w' V' m i f' l' K' → f = f' ∧ l = l' ∧ 0 ≤ f ∧ ∀ j, 0 ≤ j → j < (i : Int) → K' j = K j
  | 0, _, _, _, _, _, ⟨a, b⟩, ⟨a', b'⟩ => ⟨by omega, by omega, by omega, fun j x y => by omega⟩
  | i + 1, f, l, f', l', hi, ⟨f0, l0, a, b⟩, ⟨g0, k0, a', b'⟩ => by
    have z := mm_kp8_un ew ev i _ _ _ _ (by omega) a a'
    obtain ⟨rfl, rfl, z0, z1⟩ := z
    have hK : K' (i : Int) = K (i : Int) ∧ f = f' ∧ l = l' ∧ 0 ≤ f := by
      rcases b with ⟨c, d, e, g⟩ | ⟨c, r, q, b⟩ <;> rcases b' with ⟨c', d', e', g'⟩ | ⟨c', r', q', b'⟩
      · exact ⟨by omega, by omega, by omega, by omega⟩
      · omega
      · omega
      · rw [ew (i : Int) (by omega) (by omega)] at q'
        have hr := mm_ff8_un q q' z0 ev
        subst hr
        rcases b with ⟨x, y, u, v, t⟩ | ⟨x, u, v, t⟩ <;> rcases b' with ⟨x', y', u', v', t'⟩ | ⟨x', u', v', t'⟩
        · refine ⟨by omega, by omega, by omega, ?_⟩
          rcases q with ⟨q, _⟩ | ⟨q1, _⟩ <;> omega
        · omega
        · omega
        · exact ⟨by omega, by omega, by omega, by omega⟩
    refine ⟨hK.2.1, hK.2.2.1, hK.2.2.2, fun j x y => ?_⟩
    by_cases t : j = (i : Int)
    · rw [t]; exact hK.1
    · exact z1 j x (by omega)
/-! ===== the card over the heap ===== -/
def mm_is8 (h h' : mH) (m a t : Int) : Prop := (∀ j, j < a → h'.2.1 50 j = h.2.1 50 j ∧ h'.2.1 51 j = h.2.1 51 j) ∧ (∀ j, a ≤ j → j < m → h'.2.1 50 (j + 1) = h.2.1 50 j ∧ h'.2.1 51 (j + 1) = h.2.1 51 j ∧ t < h.2.1 51 j)
theorem mm_is8_0 {h : mH} {m t : Int} : mm_is8 h h m m t := ⟨fun _ _ => ⟨rfl, rfl⟩, fun j a b => by omega⟩
theorem mm_is8_s {h h' h1 h2 : mH} {m a t : Int} (S : mm_is8 h h' m a t) (e1 : h1 = mm_pa h' 50 a (h'.2.1 50 (a - 1))) (e2 : h2 = mm_pa h1 51 a (h1.2.1 51 (a - 1))) (a0 : 0 < a) (ht : t < h'.2.1 51 (a - 1)) : mm_is8 h h2 m (a + (-1)) t := by
  have E50 : ∀ j, h2.2.1 50 j = if j = a then h'.2.1 50 (a - 1) else h'.2.1 50 j := fun j => by
    rw [mm_sm_pa 50 e2 (by decide) j, e1]
    by_cases q : j = a
    · rw [q, if_pos rfl]; exact mm_pa_same _ _ _ _
    · rw [if_neg q]; exact mm_pa_j _ q
  have E51 : ∀ j, h2.2.1 51 j = if j = a then h'.2.1 51 (a - 1) else h'.2.1 51 j := fun j => by
    have z : ∀ i, h1.2.1 51 i = h'.2.1 51 i := fun i => mm_sm_pa 51 e1 (by decide) i
    rw [e2]
    by_cases q : j = a
    · rw [q, if_pos rfl, ← z]; exact mm_pa_same _ _ _ _
    · rw [if_neg q, ← z]; exact mm_pa_j _ q
  constructor
  · intro j hj
    rw [E50, E51, if_neg (by omega), if_neg (by omega)]
    exact S.1 j (by omega)
  · intro j j0 j1
    by_cases q : j = a - 1
    · have z := S.1 (a - 1) (by omega)
      rw [E50, E51, if_pos (by omega), if_pos (by omega), q]
      exact ⟨z.1, z.2, by rw [← z.2]; exact ht⟩
    · rw [E50, E51, if_neg (by omega), if_neg (by omega)]
      exact S.2 j (by omega) j1
def mm_ic8 (h h2 : mH) (m p t : Int) : Prop := ∃ a, 0 ≤ a ∧ a ≤ m ∧ (a = 0 ∨ h.2.1 51 (a - 1) ≤ t) ∧ (∀ j, a ≤ j → j < m → t < h.2.1 51 j) ∧ (∀ j, j < a → h2.2.1 50 j = h.2.1 50 j ∧ h2.2.1 51 j = h.2.1 51 j) ∧ h2.2.1 50 a = p ∧ h2.2.1 51 a = t ∧ (∀ j, a ≤ j → j < m → h2.2.1 50 (j + 1) = h.2.1 50 j ∧ h2.2.1 51 (j + 1) = h.2.1 51 j)
theorem mm_ic8_of {h h' h1 h2 h3 : mH} {m a p t v : Int} (S : mm_is8 h h' m a t) (e1 : h1 = mm_pa h' 50 a p) (e2 : h2 = mm_pa h1 51 a t) (e3 : h3 = mm_pf h2 48 9 v) (a0 : 0 ≤ a) (am : a ≤ m) (ht : a ≤ 0 ∨ h.2.1 51 (a - 1) ≤ t) : mm_ic8 h h3 m p t := by
  have E50 : ∀ j, h3.2.1 50 j = if j = a then p else h'.2.1 50 j := fun j => by
    have z : h3.2.1 50 j = h2.2.1 50 j := by rw [e3]; rfl
    rw [z, mm_sm_pa 50 e2 (by decide) j, e1]
    by_cases q : j = a
    · rw [q, if_pos rfl]; exact mm_pa_same _ _ _ _
    · rw [if_neg q]; exact mm_pa_j _ q
  have E51 : ∀ j, h3.2.1 51 j = if j = a then t else h'.2.1 51 j := fun j => by
    have z : ∀ i, h1.2.1 51 i = h'.2.1 51 i := fun i => mm_sm_pa 51 e1 (by decide) i
    have z3 : h3.2.1 51 j = h2.2.1 51 j := by rw [e3]; rfl
    rw [z3, e2]
    by_cases q : j = a
    · rw [q, if_pos rfl]; exact mm_pa_same _ _ _ _
    · rw [if_neg q, ← z]; exact mm_pa_j _ q
  refine ⟨a, a0, am, by omega, fun j x y => (S.2 j x y).2.2, fun j x => ?_, by rw [E50, if_pos rfl], by rw [E51, if_pos rfl], fun j x y => ?_⟩
  · rw [E50, E51, if_neg (by omega), if_neg (by omega)]
    exact S.1 j x
  · rw [E50, E51, if_neg (by omega), if_neg (by omega)]
    exact ⟨(S.2 j x y).1, (S.2 j x y).2.1⟩
/-- the first i events have been collected -/
def mm_cl8 (h0 h : mH) (r k i : Int) : Prop := ∃ Q : Int → Int, mm_so8 (mm_k1 h0 1 r k) (h0.2.1 34) i.toNat (h.1 48 9) Q ∧ ∀ j, 0 ≤ j → j < h.1 48 9 → h.2.1 50 j = h0.2.1 33 (Q j) ∧ h.2.1 51 j = h0.2.1 34 (Q j)
theorem mm_cl8_0 {h0 h : mH} {r k : Int} (e : h.1 48 9 = 0) : mm_cl8 h0 h r k 0 := ⟨fun _ => 0, e, fun j a b => by omega⟩
theorem mm_cl8_n {h0 h : mH} {r k i : Int} (C : mm_cl8 h0 h r k i) (hi : 0 ≤ i) (p : ¬ mm_k1 h0 1 r k i) : mm_cl8 h0 h r k (i + 1) := by
  obtain ⟨Q, S, e⟩ := C
  exact ⟨Q, mm_so8_n S hi p, e⟩
theorem mm_cl8_y {h0 h h2 : mH} {r k i a b : Int} (C : mm_cl8 h0 h r k i) (hi : 0 ≤ i) (p : mm_k1 h0 1 r k i) (I : mm_ic8 h h2 (h.1 48 9) a b) (ha : a = h0.2.1 33 i) (hb : b = h0.2.1 34 i) (en : h2.1 48 9 = h.1 48 9 + 1) : mm_cl8 h0 h2 r k (i + 1) := by
  obtain ⟨Q, S, e⟩ := C
  obtain ⟨q, q0, qm, x1, x2, x3, x4, x5, x6⟩ := I
  refine ⟨fun j => if j < q then Q j else if j = q then i else Q (j - 1), ?_, fun j j0 j1 => ?_⟩
  · rw [en]
    refine mm_so8_y S hi p ⟨q, q0, qm, fun j _ y => if_pos y, ?_, fun j x y => ?_, ?_, fun j x y => ?_⟩
    · dsimp only; rw [if_neg (by omega), if_pos rfl]
    · dsimp only; rw [if_neg (by omega), if_neg (by omega), show j + 1 - 1 = j by omega]
    · rcases x1 with x1 | x1
      · exact Or.inl x1
      · by_cases z : q = 0
        · exact Or.inl z
        · rw [(e (q - 1) (by omega) (by omega)).2, hb] at x1
          exact Or.inr x1
    · have z := x2 j x y
      rw [(e j (by omega) y).2, hb] at z
      exact z
  · rw [en] at j1
    dsimp only
    by_cases z : j < q
    · rw [if_pos z, (x3 j z).1, (x3 j z).2]
      exact e j j0 (by omega)
    · by_cases y : j = q
      · rw [if_neg z, if_pos y, y, x4, x5, ha, hb]
        exact ⟨rfl, rfl⟩
      · have u := x6 (j - 1) (by omega) (by omega)
        rw [show j - 1 + 1 = j by omega] at u
        rw [if_neg z, if_neg y, u.1, u.2]
        exact e (j - 1) (by omega) (by omega)
/-- the rests of the places behind i are measured -/
def mm_tb8r (h0 h : mH) (L : Int → Int → Int) (i : Int) : Prop := ∀ a, i < a → a ≤ h0.1 48 8 → ∀ k, 0 ≤ k → k ≤ 12 → mm_lt8 L (h0.1 48 9) a k (h.2.1 53 (a * 13 + k))
def mm_S8 (h : mH) (L : Int → Int → Int) : Prop := mm_LS8 L (h.2.1 49) (h.2.1 50) (h.1 48 8) (h.1 48 9)
def mm_mr8 (h0 h : mH) (i : Int) : Prop := (∀ L, mm_S8 h0 L → mm_tb8r h0 h L i) ∧ ∀ j, 0 ≤ j → j < (i + 1) * 13 → h.2.1 53 j = -1
theorem mm_mr8_0 {h0 h1 h2 : mH} {n m i : Int} (A : mm_al h1 53 168 (-1)) (e2 : h2 = mm_pa h1 53 (n * 13) m) (hn : n = h0.1 48 8) (hm : m = h0.1 48 9) (n0 : 0 ≤ n ∧ n ≤ 12) (m0 : 0 ≤ m) (hi : i = n - 1) : mm_mr8 h0 h2 i := by
  have E : ∀ j, h2.2.1 53 j = if j = n * 13 then m else h1.2.1 53 j := fun j => by
    rw [e2]
    by_cases q : j = n * 13
    · rw [q, if_pos rfl]; exact mm_pa_same _ _ _ _
    · rw [if_neg q]; exact mm_pa_j _ q
  constructor
  · intro L S a a0 a1 k k0 k1
    have : a = n := by omega
    subst this
    rw [E]
    by_cases q : k = 0
    · rw [q, if_pos (by omega), hm]
      exact mm_lt8_0 S (by omega) a1 (by omega)
    · rw [if_neg (by omega), A (a * 13 + k) (by omega) (by omega)]
      exact mm_lt8_n S (by omega) a1 (by omega) (by omega)
  · intro j j0 j1
    rw [E, if_neg (by omega)]
    exact A j j0 (by omega)
/-- of the place i the first k rests are measured too -/
def mm_mi8 (h0 h : mH) (i k : Int) : Prop := (∀ L, mm_S8 h0 L → mm_tb8r h0 h L i ∧ ∀ c, 0 ≤ c → c < k → mm_lt8 L (h0.1 48 9) i c (h.2.1 53 (i * 13 + c))) ∧ ∀ j, 0 ≤ j → j < i * 13 ∨ (i * 13 + k ≤ j ∧ j < (i + 1) * 13) → h.2.1 53 j = -1
theorem mm_mi8_0 {h0 h h2 : mH} {i m : Int} (M : mm_mr8 h0 h i) (e2 : h2 = mm_pa h 53 (i * 13) m) (hm : m = h0.1 48 9) (hi : 0 ≤ i ∧ i ≤ h0.1 48 8) (m0 : 0 ≤ m) : mm_mi8 h0 h2 i 1 := by
  have E : ∀ j, h2.2.1 53 j = if j = i * 13 then m else h.2.1 53 j := fun j => by
    rw [e2]
    by_cases q : j = i * 13
    · rw [q, if_pos rfl]; exact mm_pa_same _ _ _ _
    · rw [if_neg q]; exact mm_pa_j _ q
  constructor
  · intro L S
    constructor
    · intro a a0 a1 k k0 k1
      rw [E, if_neg (by omega)]
      exact M.1 L S a a0 a1 k k0 k1
    · intro c c0 c1
      have : c = 0 := by omega
      subst this
      rw [E, if_pos (by omega), hm]
      exact mm_lt8_0 S hi.1 hi.2 (by omega)
  · intro j j0 j1
    rw [E, if_neg (by omega)]
    exact M.2 j j0 (by omega)
def mm_lw8 (h : mH) (i k r : Int) : Prop := (h.2.1 53 ((i + 1) * 13 + k) < r ∧ r < h.2.1 53 ((i + 1) * 13 + k - 1) ∧ h.2.1 50 r = h.2.1 49 i ∧ ∀ j, r < j → j < h.2.1 53 ((i + 1) * 13 + k - 1) → h.2.1 50 j ≠ h.2.1 49 i) ∨ (r = h.2.1 53 ((i + 1) * 13 + k) ∧ ∀ j, r < j → j < h.2.1 53 ((i + 1) * 13 + k - 1) → h.2.1 50 j ≠ h.2.1 49 i)
theorem mm_mi8_s {h0 h hc h2 : mH} {i k r : Int} (M : mm_mi8 h0 h i k) (X : mm_lw8 h i k r) (ec : ∀ j, hc.2.1 53 j = h.2.1 53 j) (e2 : h2 = mm_pa hc 53 (i * 13 + k) r) (e50 : ∀ j, h.2.1 50 j = h0.2.1 50 j) (e49 : ∀ j, h.2.1 49 j = h0.2.1 49 j) (hi : 0 ≤ i ∧ i < h0.1 48 8) (hk : 1 ≤ k ∧ k ≤ 12) : mm_mi8 h0 h2 i (k + 1) := by
  have E : ∀ j, h2.2.1 53 j = if j = i * 13 + k then r else h.2.1 53 j := fun j => by
    rw [e2]
    by_cases q : j = i * 13 + k
    · rw [q, if_pos rfl]; exact mm_pa_same _ _ _ _
    · rw [if_neg q, ← ec]; exact mm_pa_j _ q
  constructor
  · intro L S
    have z := M.1 L S
    constructor
    · intro a a0 a1 c c0 c1
      rw [E, if_neg (by omega)]
      exact z.1 a a0 a1 c c0 c1
    · intro c c0 c1
      by_cases q : c = k
      · rw [q, E, if_pos rfl]
        have W := z.1 (i + 1) (by omega) (by omega) k (by omega) (by omega)
        have R := z.1 (i + 1) (by omega) (by omega) (k - 1) (by omega) (by omega)
        rw [show (i + 1) * 13 + (k - 1) = (i + 1) * 13 + k - 1 by omega] at R
        refine mm_lt8_s S hi.1 hi.2 (by omega) W R ?_
        rcases X with ⟨a, b, x, d⟩ | ⟨a, b⟩
        · exact Or.inl ⟨a, b, by rw [← e50, ← e49]; exact x, fun j u v => by rw [← e50, ← e49]; exact d j u v⟩
        · exact Or.inr ⟨a, fun j u v => by rw [← e50, ← e49]; exact b j (by rw [a]; exact u) v⟩
      · rw [E, if_neg (by omega)]
        exact z.2 c c0 (by omega)
  · intro j j0 j1
    rw [E, if_neg (by omega)]
    exact M.2 j j0 (by omega)
theorem mm_mi8_e {h0 h : mH} {i k : Int} (M : mm_mi8 h0 h i k) (hi : 0 ≤ i ∧ i ≤ h0.1 48 8) (hk : h0.1 48 8 - i < k) (m0 : 0 ≤ h0.1 48 9) : mm_mr8 h0 h (i + (-1)) := by
  constructor
  · intro L S a a0 a1 c c0 c1
    by_cases q : a = i
    · subst q
      by_cases t : c < k
      · exact (M.1 L S).2 c c0 t
      · rw [M.2 (a * 13 + c) (by omega) (by omega)]
        exact mm_lt8_n S hi.1 hi.2 m0 (by omega)
    · exact (M.1 L S).1 a (by omega) a1 c c0 c1
  · intro j j0 j1
    exact M.2 j j0 (by omega)
/-! what is kept, over the heap -/
theorem mm_wn_0 {h : mH} {L : Int → Int → Int} (S : mm_S8 h L) (n0 : 0 ≤ h.1 48 8) (m0 : 0 ≤ h.1 48 9) : 0 ≤ L 0 0 ∧ L 0 0 ≤ h.1 48 8 := by
  have := mm_LS8_rg S (i := 0) (p := 0) (by omega) n0 (by omega) m0
  omega
theorem mm_wn_s {h : mH} {L : Int → Int → Int} {x v : Int} (S : mm_S8 h L) (T : mm_tb8r h h L (-1)) (ev : v = h.2.1 53 (x + 1)) (hv : v ≠ -1) (x0 : 0 ≤ x) (x1 : x ≤ 11) (n0 : 0 ≤ h.1 48 8) (m0 : 0 ≤ h.1 48 9) : x + 1 ≤ L 0 0 := by
  have z := T 0 (by omega) n0 (x + 1) (by omega) (by omega)
  rw [show (0 : Int) * 13 + (x + 1) = x + 1 by omega, ← ev] at z
  exact (z.2.2 0 (by omega) m0).mpr (by have := z.1; omega)
theorem mm_wn_e {h : mH} {L : Int → Int → Int} {x : Int} (S : mm_S8 h L) (T : mm_tb8r h h L (-1)) (b : x ≤ L 0 0) (e : h.1 48 8 ≤ x ∨ h.2.1 53 (x + 1) = -1) (x0 : 0 ≤ x) (x1 : x ≤ 12) (n0 : 0 ≤ h.1 48 8 ∧ h.1 48 8 ≤ 12) (m0 : 0 ≤ h.1 48 9) : x = L 0 0 := by
  have y := mm_wn_0 S n0.1 m0
  by_cases q : h.1 48 8 ≤ x
  · omega
  · have z := T 0 (by omega) n0.1 (x + 1) (by omega) (by omega)
    rw [show (0 : Int) * 13 + (x + 1) = x + 1 by omega, e.resolve_left q] at z
    have w := z.2.2 0 (by omega) m0
    by_cases g : x + 1 ≤ L 0 0
    · have := w.mp g
      omega
    · omega
def mm_kl8 (h0 h : mH) (i f l : Int) : Prop := (∀ L, mm_S8 h0 L → mm_tb8r h0 h0 L (-1) → mm_kp8 L (h0.2.1 49) (h0.2.1 50) (h0.1 48 9) i.toNat f l (h.2.1 52)) ∧ ∀ j, i ≤ j → j ≤ 11 → h.2.1 52 j = -1
theorem mm_kl8_0 {h : mH} {x : Int} (A : mm_al h 52 11 (-1)) (e : ∀ L, mm_S8 h L → mm_tb8r h h L (-1) → x = L 0 0) : mm_kl8 h h 0 0 x := ⟨fun L S T => ⟨rfl, e L S T⟩, fun j a b => A j a b⟩
theorem mm_kl8_y {h0 h h2 : mH} {i f l x r v m : Int} {V : Int → Int} (K : mm_kl8 h0 h i f l) (X : mm_ff8 V m x f r) (eV : V = h0.2.1 50) (em : m = h0.1 48 9) (ex : x = h0.2.1 49 i) (ev : v = h0.2.1 53 ((i + 1) * 13 + l - 1)) (e2 : h2 = mm_pa h 52 i r) (hr : r ≠ -1) (hv : r < v) (l0 : 0 < l ∧ l ≤ 12) (i0 : 0 ≤ i ∧ i < h0.1 48 8) (f0 : 0 ≤ f) : mm_kl8 h0 h2 (i + 1) (r + 1) (l + (-1)) := by
  subst eV em
  constructor
  · intro L S T
    rw [show (i + 1).toNat = i.toNat + 1 by omega]
    refine ⟨f, l, mm_kp8_cg i.toNat f l (K.1 L S T) (fun j a b => mm_pa_off e2 (by omega)), Or.inr ⟨l0.1, r, ?_, Or.inl ⟨hr, ?_, ?_, rfl, by omega⟩⟩⟩
    · rw [Int.toNat_of_nonneg i0.1, ← ex]; exact X
    · have z := T (i + 1) (by omega) (by omega) (l - 1) (by omega) (by omega)
      rw [show (i + 1) * 13 + (l - 1) = (i + 1) * 13 + l - 1 by omega, ← ev] at z
      have hrm : f ≤ r ∧ r < h0.1 48 9 := by
        rcases X with ⟨a, _⟩ | ⟨a, b, _⟩
        · exact absurd a hr
        · exact ⟨a, b⟩
      have := (z.2.2 (r + 1) (by omega) (by omega)).mpr (by omega)
      rw [Int.toNat_of_nonneg i0.1]
      omega
    · rw [Int.toNat_of_nonneg i0.1]; exact mm_pa_at e2 rfl
  · intro j a b
    rw [mm_pa_off e2 (by omega)]
    exact K.2 j (by omega) b
theorem mm_kl8_n {h0 h : mH} {i f l x r m : Int} {V : Int → Int} (K : mm_kl8 h0 h i f l) (X : mm_ff8 V m x f r) (eV : V = h0.2.1 50) (em : m = h0.1 48 9) (ex : x = h0.2.1 49 i) (hr : r = -1 ∨ h0.2.1 53 ((i + 1) * 13 + l - 1) ≤ r) (l0 : 0 < l ∧ l ≤ 12) (i0 : 0 ≤ i ∧ i < h0.1 48 8) (f0 : 0 ≤ f) (n1 : h0.1 48 8 ≤ 12) : mm_kl8 h0 h (i + 1) f l := by
  subst eV em
  constructor
  · intro L S T
    rw [show (i + 1).toNat = i.toNat + 1 by omega]
    refine ⟨f, l, K.1 L S T, Or.inr ⟨l0.1, r, ?_, Or.inr ⟨?_, ?_, rfl, rfl⟩⟩⟩
    · rw [Int.toNat_of_nonneg i0.1, ← ex]; exact X
    · by_cases q : r = -1
      · exact Or.inl q
      · have z := T (i + 1) (by omega) (by omega) (l - 1) (by omega) (by omega)
        rw [show (i + 1) * 13 + (l - 1) = (i + 1) * 13 + l - 1 by omega] at z
        have hrm : f ≤ r ∧ r < h0.1 48 9 := by
          rcases X with ⟨a, _⟩ | ⟨a, b, _⟩
          · exact absurd a q
          · exact ⟨a, b⟩
        have w := z.2.2 (r + 1) (by omega) (by omega)
        refine Or.inr ?_
        rw [Int.toNat_of_nonneg i0.1]
        by_cases g : l - 1 ≤ L (i + 1) (r + 1)
        · have := w.mp g
          have := hr.resolve_left q
          omega
        · omega
    · rw [Int.toNat_of_nonneg i0.1]; exact K.2 i (by omega) (by omega)
  · exact fun j a b => K.2 j (by omega) b
theorem mm_kp8_ex {L : Int → Int → Int} {w V : Int → Int} {m f l : Int} {K : Int → Int} (hl : l ≤ 0) : ∀ (d i : Nat), mm_kp8 L w V m i f l K → (∀ j : Int, i ≤ j → j < (i : Int) + d → K j = -1) → mm_kp8 L w V m (i + d) f l K
  | 0, _, h, _ => h
  | d + 1, i, h, e => ⟨f, l, mm_kp8_ex hl d i h (fun j a b => e j a (by omega)), Or.inl ⟨hl, e ((i + d : Nat) : Int) (by omega) (by omega), rfl, rfl⟩⟩
def mm_kq8 (h h2 : mH) : Prop := ∀ L, mm_S8 h L → mm_tb8r h h L (-1) → ∃ f l, mm_kp8 L (h.2.1 49) (h.2.1 50) (h.1 48 9) (h.1 48 8).toNat f l (h2.2.1 52)
theorem mm_kl8_e {h0 h : mH} {i f l : Int} (K : mm_kl8 h0 h i f l) (e : h0.1 48 8 ≤ i ∨ l ≤ 0) (i0 : 0 ≤ i ∧ i ≤ h0.1 48 8) (n1 : h0.1 48 8 ≤ 12) : mm_kq8 h0 h := fun L S T => by
  have z := K.1 L S T
  by_cases q : h0.1 48 8 ≤ i
  · exact ⟨f, l, by rw [show (h0.1 48 8).toNat = i.toNat by omega]; exact z⟩
  · refine ⟨f, l, ?_⟩
    have w := mm_kp8_ex (e.resolve_left q) (h0.1 48 8 - i).toNat i.toNat z (fun j a b => K.2 j (by omega) (by omega))
    rw [show (h0.1 48 8).toNat = i.toNat + (h0.1 48 8 - i).toNat by omega]
    exact w
def mm_kf8 (h h2 : mH) (n : Int) : Prop := ∀ j, 0 ≤ j → j < n → mm_ff8 (h.2.1 50) (h.1 48 9) (h.2.1 49 j) 0 (h2.2.1 52 j)
theorem mm_kf8_s {h h1 h2 : mH} {n r x m : Int} {V : Int → Int} (K : mm_kf8 h h1 n) (X : mm_ff8 V m x 0 r) (eV : V = h.2.1 50) (em : m = h.1 48 9) (ex : x = h.2.1 49 n) (e2 : h2 = mm_pa h1 52 n r) : mm_kf8 h h2 (n + 1) := fun j a b => by
  subst eV em ex
  by_cases q : j = n
  · rw [mm_pa_at e2 q, q]; exact X
  · rw [mm_pa_off e2 q]; exact K j a (by omega)

set_option maxRecDepth 100000 in
set_option maxHeartbeats 4000000 in
theorem c_X1_firstPunch_q (l : Launch) (hl : l.stackTraces = false) (d : Nat) (hd : 0 ≤ d) (h : mH) (i0 : mm_inv h) (p1 : Int) (p2 : Int) (bp2 : 0 ≤ p2 ∧ p2 ≤ 500) : mm_Met l d yX1_firstPunch cX1_firstPunch 4 (some .int) [mR 48, mI p1, mI p2] h (mm_pi fun r h2 => (-1 ≤ r ∧ r ≤ 499) ∧ h2 = h ∧ mm_ff8 (h.2.1 50) (h.1 48 9) p1 p2 r) mm_nx 0 0 := by
  refine mm_ofW (ls := [mR 48, mI p1, mI p2, mU]) hl (by decide) rfl (Nat.le_of_ble_eq_true rfl) ?_
  intro x hxl C T hnm htb
  subst hxl
  refine mm_rng (fun hr _ => ?_)
  have ap1 : -2147483648 ≤ p1 ∧ p1 < 2147483648 := mm_ok_at hr (i := 1) rfl
  have ap2 : -2147483648 ≤ p2 ∧ p2 < 2147483648 := mm_ok_at hr (i := 2) rfl
  have f0 : mm_fr [] [] h h := mm_fr_rf
  refine mm_iload_n C (mm_dec dk_X1_firstPunch 0 rfl) rfl ?_
  have J2 : ∀ (n : Nat) (x2_3 : Int) (bx2_3 : 0 ≤ x2_3 ∧ x2_3 ≤ 500) (w2_0 : ∀ j, p2 ≤ j → j < x2_3 → h.2.1 50 j ≠ p1) (w2_1 : p2 ≤ x2_3), (500 - x2_3 : Int) < n → mm_W x 0 0 2 [mR 48, mI p1, mU, mI x2_3] [] h := by
    intro n
    induction n with
    | zero =>
      intro x2_3 bx2_3 w2_0 w2_1 hm
      exfalso; omega
    | succ n ih2 =>
      intro x2_3 bx2_3 w2_0 w2_1 hm2
      refine mm_iload_n C (mm_dec dk_X1_firstPunch 2 rfl) rfl ?_
      refine mm_aload_n C (mm_dec dk_X1_firstPunch 3 rfl) rfl ?_
      refine mm_geti C fl_X1_31 (mm_dec dk_X1_firstPunch 4 rfl) rfl rfl (Or.inl rfl) ?_
      have g1 : 0 ≤ (h.1 48 9) ∧ (h.1 48 9) ≤ 500 := i0.1 48 9
      refine mm_icmp_ge (tgt := 28) C (mm_dec dk_X1_firstPunch 5 rfl) (by decide) (fun c7 => ?_) (fun c7 => ?_)
      · skip
        refine mm_iconst C (mm_dec dk_X1_firstPunch 16 rfl) ⟨by decide, by decide⟩ ?_
        exact mm_iret C T (mm_dec dk_X1_firstPunch 17 rfl) (by decide : 0 ≤ 0) (by decide : 0 ≤ 0) ⟨_, rfl, ⟨⟨by omega, by omega⟩, rfl, by first | exact Or.inr ⟨by omega, by omega, by omega, w2_0⟩ | exact Or.inl ⟨rfl, fun j a b => w2_0 j a (by omega)⟩⟩⟩
      · skip
        refine mm_aload_n C (mm_dec dk_X1_firstPunch 6 rfl) rfl ?_
        refine mm_getr (t := 50) C fl_X1_15 (mm_dec dk_X1_firstPunch 7 rfl) rfl rfl (mm_ref i0 rfl) ?_
        refine mm_iload_n C (mm_dec dk_X1_firstPunch 8 rfl) rfl ?_
        refine mm_iald C (mm_dec dk_X1_firstPunch 9 rfl) rfl (by omega) (by omega) ?_
        have g2 : -2147483648 ≤ (h.2.1 50 x2_3) ∧ (h.2.1 50 x2_3) ≤ 2147483647 := i0.2.1 50 x2_3
        refine mm_iload_n C (mm_dec dk_X1_firstPunch 10 rfl) rfl ?_
        refine mm_icmp_ne (tgt := 22) C (mm_dec dk_X1_firstPunch 11 rfl) (by decide) (fun c17 => ?_) (fun c17 => ?_)
        · skip
          refine mm_iincL (ls2 := [mR 48, mI p1, mU, mI (x2_3 + 1)]) C (mm_dec dk_X1_firstPunch 14 rfl) rfl (by decide) ⟨by omega, by omega⟩ rfl ?_
          refine mm_goto (tgt := 2) C (mm_dec dk_X1_firstPunch 15 rfl) (by decide) ?_
          exact ih2 (x2_3 + 1) ⟨by omega, by omega⟩ (by first | exact fun j a b => (by omega) | exact fun j a b => (by by_cases q : j = x2_3; (rw [q]; omega); exact w2_0 j a (by omega))) (by omega) (by omega)
        · skip
          refine mm_iload_n C (mm_dec dk_X1_firstPunch 12 rfl) rfl ?_
          exact mm_iret C T (mm_dec dk_X1_firstPunch 13 rfl) (by decide : 0 ≤ 0) (by decide : 0 ≤ 0) ⟨_, rfl, ⟨⟨by omega, by omega⟩, rfl, by first | exact Or.inr ⟨by omega, by omega, by omega, w2_0⟩ | exact Or.inl ⟨rfl, fun j a b => w2_0 j a (by omega)⟩⟩⟩
  refine mm_istore_nL (ls2 := [mR 48, mI p1, mI p2, mI p2]) C (mm_dec dk_X1_firstPunch 1 rfl) (by decide) rfl ?_
  refine mm_fgt 2 ?_
  exact J2 (((500 - p2) : Int) + 1).toNat p2 ⟨by omega, by omega⟩ (by first | exact fun j a b => (by omega) | exact fun j a b => (by by_cases q : j = x2_3; (rw [q]; omega); exact w2_0 j a (by omega))) (by omega) (by omega)
set_option maxRecDepth 100000 in
set_option maxHeartbeats 4000000 in
theorem c_X1_insert_q (l : Launch) (hl : l.stackTraces = false) (d : Nat) (hd : 0 ≤ d) (h : mH) (i0 : mm_inv h) (p1 : Int) (p2 : Int) (u0 : (h.1 48 9) ≤ 499) : mm_Met l d yX1_insert cX1_insert 4 none [mR 48, mI p1, mI p2] h (mm_pv fun h2 => mm_inv h2 ∧ mm_fr [(48, 9)] [50, 51] h h2 ∧ mm_ic8 h h2 (h.1 48 9) p1 p2 ∧ h2.1 48 9 = h.1 48 9 + 1) mm_nx 0 0 := by
  refine mm_ofW (ls := [mR 48, mI p1, mI p2, mU]) hl (by decide) rfl (Nat.le_of_ble_eq_true rfl) ?_
  intro x hxl C T hnm htb
  subst hxl
  refine mm_rng (fun hr _ => ?_)
  have ap1 : -2147483648 ≤ p1 ∧ p1 < 2147483648 := mm_ok_at hr (i := 1) rfl
  have ap2 : -2147483648 ≤ p2 ∧ p2 < 2147483648 := mm_ok_at hr (i := 2) rfl
  have f0 : mm_fr [(48, 9)] [50, 51] h h := mm_fr_rf
  have g1 : 0 ≤ h.1 48 9 ∧ h.1 48 9 ≤ 500 := i0.1 48 9
  refine mm_aload_n C (mm_dec dk_X1_insert 0 rfl) rfl ?_
  refine mm_geti C fl_X1_31 (mm_dec dk_X1_insert 1 rfl) rfl rfl (Or.inl rfl) ?_
  have J5 : ∀ (n : Nat) (x5_3 : Int) (bx5_3 : 0 ≤ x5_3 ∧ x5_3 ≤ 499) (h5_ : mH) (i5_ : mm_inv h5_) (f5_ : mm_fr [(48, 9)] [50, 51] h h5_) (w5_0 : mm_is8 h h5_ (h.1 48 9) x5_3 p2) (w5_1 : x5_3 ≤ h.1 48 9) (w5_2 : h5_.1 48 9 = h.1 48 9), (x5_3 - (0) : Int) < n → mm_W x 0 0 5 [mR 48, mI p1, mI p2, mI x5_3] [] h5_ := by
    intro n
    induction n with
    | zero =>
      intro x5_3 bx5_3 h5_ i5_ f5_ w5_0 w5_1 w5_2 hm
      have g2 : 0 ≤ h5_.1 48 9 ∧ h5_.1 48 9 ≤ 500 := i5_.1 48 9
      exfalso; omega
    | succ n ih5 =>
      intro x5_3 bx5_3 h5_ i5_ f5_ w5_0 w5_1 w5_2 hm5
      have g3 : 0 ≤ h5_.1 48 9 ∧ h5_.1 48 9 ≤ 500 := i5_.1 48 9
      refine mm_iload_n C (mm_dec dk_X1_insert 3 rfl) rfl ?_
      have J55 : ∀ (w55_0 : mm_is8 h h5_ (h.1 48 9) x5_3 p2) (w55_1 : x5_3 ≤ h.1 48 9) (w55_2 : (x5_3 ≤ 0 ∨ h.2.1 51 (x5_3 - 1) ≤ p2)) (w55_3 : h5_.1 48 9 = h.1 48 9), mm_W x 0 0 55 [mR 48, mI p1, mI p2, mI x5_3] [] h5_ := by
        intro w55_0 w55_1 w55_2 w55_3
        have g4 : 0 ≤ h5_.1 48 9 ∧ h5_.1 48 9 ≤ 500 := i5_.1 48 9
        refine mm_aload_n C (mm_dec dk_X1_insert 35 rfl) rfl ?_
        refine mm_getr (t := 50) C fl_X1_15 (mm_dec dk_X1_insert 36 rfl) rfl rfl (mm_ref i5_ rfl) ?_
        refine mm_iload_n C (mm_dec dk_X1_insert 37 rfl) rfl ?_
        refine mm_iload_n C (mm_dec dk_X1_insert 38 rfl) rfl ?_
        refine mm_iast C (mm_dec dk_X1_insert 39 rfl) rfl (by omega) (by omega) ?_
        have i1 : mm_inv (mm_pa h5_ 50 x5_3 p1) := mm_inv_pa i5_ (show -2147483648 ≤ p1 ∧ p1 ≤ 2147483647 from ⟨by omega, by omega⟩)
        have f1 : mm_fr [(48, 9)] [50, 51] h (mm_pa h5_ 50 x5_3 p1) := mm_fr_pa f5_ (by decide)
        obtain ⟨h1, eh1⟩ : ∃ z, z = mm_pa h5_ 50 x5_3 p1 := ⟨_, rfl⟩
        rw [← eh1] at i1 f1 ⊢
        have qh1_5 : h1.1 48 9 = h5_.1 48 9 := by rw [eh1]; rfl
        refine mm_aload_n C (mm_dec dk_X1_insert 40 rfl) rfl ?_
        refine mm_getr (t := 51) C fl_X1_18 (mm_dec dk_X1_insert 41 rfl) rfl rfl (mm_ref i1 rfl) ?_
        refine mm_iload_n C (mm_dec dk_X1_insert 42 rfl) rfl ?_
        refine mm_iload_n C (mm_dec dk_X1_insert 43 rfl) rfl ?_
        refine mm_iast C (mm_dec dk_X1_insert 44 rfl) rfl (by omega) (by omega) ?_
        have i2 : mm_inv (mm_pa h1 51 x5_3 p2) := mm_inv_pa i1 (show -2147483648 ≤ p2 ∧ p2 ≤ 2147483647 from ⟨by omega, by omega⟩)
        have f2 : mm_fr [(48, 9)] [50, 51] h (mm_pa h1 51 x5_3 p2) := mm_fr_pa f1 (by decide)
        obtain ⟨h2, eh2⟩ : ∃ z, z = mm_pa h1 51 x5_3 p2 := ⟨_, rfl⟩
        rw [← eh2] at i2 f2 ⊢
        have qh2_6 : h2.1 48 9 = h1.1 48 9 := by rw [eh2]; rfl
        refine mm_aload_n C (mm_dec dk_X1_insert 45 rfl) rfl ?_
        refine mm_dup C (mm_dec dk_X1_insert 46 rfl) (show (2 : Nat) ≠ 1 by decide) ?_
        refine mm_geti C fl_X1_31 (mm_dec dk_X1_insert 47 rfl) rfl rfl (Or.inl rfl) ?_
        refine mm_iconst C (mm_dec dk_X1_insert 48 rfl) ⟨by decide, by decide⟩ ?_
        refine mm_iadd C (mm_dec dk_X1_insert 49 rfl) ⟨by omega, by omega⟩ ?_
        refine mm_puti C fl_X1_31 (mm_dec dk_X1_insert 50 rfl) rfl rfl rfl (Or.inl ⟨rfl, rfl⟩) ?_
        have i3 : mm_inv (mm_pf h2 48 9 ((h2.1 48 9) + 1)) := mm_inv_pf i2 (show 0 ≤ ((h2.1 48 9) + 1) ∧ ((h2.1 48 9) + 1) ≤ 500 from ⟨by omega, by omega⟩) (by decide)
        have f3 : mm_fr [(48, 9)] [50, 51] h (mm_pf h2 48 9 ((h2.1 48 9) + 1)) := mm_fr_pf f2 (by decide)
        obtain ⟨h3, eh3⟩ : ∃ z, z = mm_pf h2 48 9 ((h2.1 48 9) + 1) := ⟨_, rfl⟩
        rw [← eh3] at i3 f3 ⊢
        have qh3 : h3.1 48 9 = ((h2.1 48 9) + 1) := by rw [eh3]; exact mm_pf_same _ _ _ _
        exact mm_vret C T (mm_dec dk_X1_insert 51 rfl) (by decide : 0 ≤ 0) (by decide : 0 ≤ 0) ⟨rfl, ⟨i3, f3, by exact mm_ic8_of w55_0 eh1 eh2 eh3 (by omega) (by omega) w55_2, by omega⟩⟩
      refine mm_if_le (tgt := 55) C (mm_dec dk_X1_insert 4 rfl) (by decide) (fun c6 => ?_) (fun c6 => ?_)
      · skip
        exact J55 (by exact w5_0) (by omega) (by first | exact Or.inl (by omega) | exact Or.inr (by rw [← (w5_0.1 (x5_3 - 1) (by omega)).2]; omega)) (by omega)
      · skip
        refine mm_aload_n C (mm_dec dk_X1_insert 5 rfl) rfl ?_
        refine mm_getr (t := 51) C fl_X1_18 (mm_dec dk_X1_insert 6 rfl) rfl rfl (mm_ref i5_ rfl) ?_
        refine mm_iload_n C (mm_dec dk_X1_insert 7 rfl) rfl ?_
        refine mm_iconst C (mm_dec dk_X1_insert 8 rfl) ⟨by decide, by decide⟩ ?_
        refine mm_isub C (mm_dec dk_X1_insert 9 rfl) ⟨by omega, by omega⟩ ?_
        refine mm_iald C (mm_dec dk_X1_insert 10 rfl) rfl (by omega) (by omega) ?_
        have g7 : -2147483648 ≤ (h5_.2.1 51 (x5_3 - 1)) ∧ (h5_.2.1 51 (x5_3 - 1)) ≤ 2147483647 := i5_.2.1 51 (x5_3 - 1)
        refine mm_iload_n C (mm_dec dk_X1_insert 11 rfl) rfl ?_
        refine mm_icmp_le (tgt := 55) C (mm_dec dk_X1_insert 12 rfl) (by decide) (fun c18 => ?_) (fun c18 => ?_)
        · skip
          exact J55 (by exact w5_0) (by omega) (by first | exact Or.inl (by omega) | exact Or.inr (by rw [← (w5_0.1 (x5_3 - 1) (by omega)).2]; omega)) (by omega)
        · skip
          refine mm_aload_n C (mm_dec dk_X1_insert 13 rfl) rfl ?_
          refine mm_getr (t := 50) C fl_X1_15 (mm_dec dk_X1_insert 14 rfl) rfl rfl (mm_ref i5_ rfl) ?_
          refine mm_iload_n C (mm_dec dk_X1_insert 15 rfl) rfl ?_
          refine mm_aload_n C (mm_dec dk_X1_insert 16 rfl) rfl ?_
          refine mm_getr (t := 50) C fl_X1_15 (mm_dec dk_X1_insert 17 rfl) rfl rfl (mm_ref i5_ rfl) ?_
          refine mm_iload_n C (mm_dec dk_X1_insert 18 rfl) rfl ?_
          refine mm_iconst C (mm_dec dk_X1_insert 19 rfl) ⟨by decide, by decide⟩ ?_
          refine mm_isub C (mm_dec dk_X1_insert 20 rfl) ⟨by omega, by omega⟩ ?_
          refine mm_iald C (mm_dec dk_X1_insert 21 rfl) rfl (by omega) (by omega) ?_
          have g8 : -2147483648 ≤ (h5_.2.1 50 (x5_3 - 1)) ∧ (h5_.2.1 50 (x5_3 - 1)) ≤ 2147483647 := i5_.2.1 50 (x5_3 - 1)
          refine mm_iast C (mm_dec dk_X1_insert 22 rfl) rfl (by omega) (by omega) ?_
          have i4 : mm_inv (mm_pa h5_ 50 x5_3 (h5_.2.1 50 (x5_3 - 1))) := mm_inv_pa i5_ (show -2147483648 ≤ (h5_.2.1 50 (x5_3 - 1)) ∧ (h5_.2.1 50 (x5_3 - 1)) ≤ 2147483647 from ⟨by omega, by omega⟩)
          have f4 : mm_fr [(48, 9)] [50, 51] h (mm_pa h5_ 50 x5_3 (h5_.2.1 50 (x5_3 - 1))) := mm_fr_pa f5_ (by decide)
          obtain ⟨h4, eh4⟩ : ∃ z, z = mm_pa h5_ 50 x5_3 (h5_.2.1 50 (x5_3 - 1)) := ⟨_, rfl⟩
          rw [← eh4] at i4 f4 ⊢
          have qh4_9 : h4.1 48 9 = h5_.1 48 9 := by rw [eh4]; rfl
          refine mm_aload_n C (mm_dec dk_X1_insert 23 rfl) rfl ?_
          refine mm_getr (t := 51) C fl_X1_18 (mm_dec dk_X1_insert 24 rfl) rfl rfl (mm_ref i4 rfl) ?_
          refine mm_iload_n C (mm_dec dk_X1_insert 25 rfl) rfl ?_
          refine mm_aload_n C (mm_dec dk_X1_insert 26 rfl) rfl ?_
          refine mm_getr (t := 51) C fl_X1_18 (mm_dec dk_X1_insert 27 rfl) rfl rfl (mm_ref i4 rfl) ?_
          refine mm_iload_n C (mm_dec dk_X1_insert 28 rfl) rfl ?_
          refine mm_iconst C (mm_dec dk_X1_insert 29 rfl) ⟨by decide, by decide⟩ ?_
          refine mm_isub C (mm_dec dk_X1_insert 30 rfl) ⟨by omega, by omega⟩ ?_
          refine mm_iald C (mm_dec dk_X1_insert 31 rfl) rfl (by omega) (by omega) ?_
          have g10 : -2147483648 ≤ (h4.2.1 51 (x5_3 - 1)) ∧ (h4.2.1 51 (x5_3 - 1)) ≤ 2147483647 := i4.2.1 51 (x5_3 - 1)
          refine mm_iast C (mm_dec dk_X1_insert 32 rfl) rfl (by omega) (by omega) ?_
          have i5 : mm_inv (mm_pa h4 51 x5_3 (h4.2.1 51 (x5_3 - 1))) := mm_inv_pa i4 (show -2147483648 ≤ (h4.2.1 51 (x5_3 - 1)) ∧ (h4.2.1 51 (x5_3 - 1)) ≤ 2147483647 from ⟨by omega, by omega⟩)
          have f5 : mm_fr [(48, 9)] [50, 51] h (mm_pa h4 51 x5_3 (h4.2.1 51 (x5_3 - 1))) := mm_fr_pa f4 (by decide)
          obtain ⟨h5, eh5⟩ : ∃ z, z = mm_pa h4 51 x5_3 (h4.2.1 51 (x5_3 - 1)) := ⟨_, rfl⟩
          rw [← eh5] at i5 f5 ⊢
          have qh5_11 : h5.1 48 9 = h4.1 48 9 := by rw [eh5]; rfl
          refine mm_iincL (ls2 := [mR 48, mI p1, mI p2, mI (x5_3 + (-1))]) C (mm_dec dk_X1_insert 33 rfl) rfl (by decide) ⟨by omega, by omega⟩ rfl ?_
          refine mm_goto (tgt := 5) C (mm_dec dk_X1_insert 34 rfl) (by decide) ?_
          exact ih5 (x5_3 + (-1)) ⟨by omega, by omega⟩ h5 i5 f5 (by first | exact mm_is8_0 | exact mm_is8_s w5_0 eh4 eh5 (by omega) (by omega)) (by omega) (by omega) (by omega)
  refine mm_istore_nL (ls2 := [mR 48, mI p1, mI p2, mI (h.1 48 9)]) C (mm_dec dk_X1_insert 2 rfl) (by decide) rfl ?_
  exact J5 ((((h.1 48 9) - (0)) : Int) + 1).toNat (h.1 48 9) ⟨by omega, by omega⟩ h i0 f0 (by first | exact mm_is8_0 | exact mm_is8_s w5_0 eh4 eh5 (by omega) (by omega)) (by omega) (by omega) (by omega)
set_option maxRecDepth 100000 in
set_option maxHeartbeats 4000000 in
theorem c_X6_timeOf_q (l : Launch) (hl : l.stackTraces = false) (d : Nat) (hd : 0 ≤ d) (h : mH) (i0 : mm_inv h) (p1 : Int) (bp1 : -1 ≤ p1 ∧ p1 ≤ 499) : mm_Met l d yX6_timeOf cX6_timeOf 2 (some .int) [mR 30, mI p1] h (mm_pi fun r h2 => (-2147483648 ≤ r ∧ r ≤ 2147483647) ∧ h2 = h ∧ ((p1 = -1 ∧ r = -1) ∨ (p1 ≠ -1 ∧ r = h.2.1 34 p1))) mm_nx 0 0 := by
  refine mm_ofW (ls := [mR 30, mI p1]) hl (by decide) rfl (Nat.le_of_ble_eq_true rfl) ?_
  intro x hxl C T hnm htb
  subst hxl
  refine mm_rng (fun hr _ => ?_)
  have ap1 : -2147483648 ≤ p1 ∧ p1 < 2147483648 := mm_ok_at hr (i := 1) rfl
  have f0 : mm_fr [] [] h h := mm_fr_rf
  refine mm_iload_n C (mm_dec dk_X6_timeOf 0 rfl) rfl ?_
  refine mm_iconst C (mm_dec dk_X6_timeOf 1 rfl) ⟨by decide, by decide⟩ ?_
  have J15 : ∀ (s15_0 : Int) (bs15_0 : -2147483648 ≤ s15_0 ∧ s15_0 ≤ 2147483647) (w15_0 : ((p1 = -1 ∧ s15_0 = -1) ∨ (p1 ≠ -1 ∧ s15_0 = h.2.1 34 p1))), mm_W x 0 0 15 [mU, mU] [mI s15_0] h := by
    intro s15_0 bs15_0 w15_0
    exact mm_iret C T (mm_dec dk_X6_timeOf 9 rfl) (by decide : 0 ≤ 0) (by decide : 0 ≤ 0) ⟨_, rfl, ⟨⟨by omega, by omega⟩, rfl, by omega⟩⟩
  refine mm_icmp_ne (tgt := 9) C (mm_dec dk_X6_timeOf 2 rfl) (by decide) (fun c2 => ?_) (fun c2 => ?_)
  · skip
    refine mm_aload_n C (mm_dec dk_X6_timeOf 5 rfl) rfl ?_
    refine mm_getr (t := 34) C fl_X6_21 (mm_dec dk_X6_timeOf 6 rfl) rfl rfl (mm_ref i0 rfl) ?_
    refine mm_iload_n C (mm_dec dk_X6_timeOf 7 rfl) rfl ?_
    refine mm_iald C (mm_dec dk_X6_timeOf 8 rfl) rfl (by omega) (by omega) ?_
    have g1 : -2147483648 ≤ (h.2.1 34 p1) ∧ (h.2.1 34 p1) ≤ 2147483647 := i0.2.1 34 p1
    refine mm_fgt 0 ?_
    refine mm_fgt 1 ?_
    exact J15 (h.2.1 34 p1) ⟨by omega, by omega⟩ (by omega)
  · skip
    refine mm_iconst C (mm_dec dk_X6_timeOf 3 rfl) ⟨by decide, by decide⟩ ?_
    refine mm_goto (tgt := 15) C (mm_dec dk_X6_timeOf 4 rfl) (by decide) ?_
    refine mm_fgt 0 ?_
    refine mm_fgt 1 ?_
    exact J15 (-1) ⟨by omega, by omega⟩ (by omega)
set_option maxRecDepth 100000 in
set_option maxHeartbeats 4000000 in
theorem c_X1_collect_q (l : Launch) (hl : l.stackTraces = false) (d : Nat) (hd : 1 ≤ d) (h : mH) (i0 : mm_inv h) (p1 : Int) (p2 : Int) (bp1 : 0 ≤ p1 ∧ p1 ≤ 39) : mm_Met l d yX1_collect cX1_collect 4 none [mR 48, mI p1, mI p2] h (mm_pv fun h2 => mm_inv h2 ∧ mm_fr [(48, 9)] [50, 51] h h2 ∧ mm_cl8 h h2 p1 p2 (h.1 30 6)) mm_nx 0 0 := by
  refine mm_ofW (ls := [mR 48, mI p1, mI p2, mU]) hl (by decide) rfl (Nat.le_of_ble_eq_true rfl) ?_
  intro x hxl C T hnm htb
  subst hxl
  have C1 := mm_OK_le (d' := d - 1 + 1) (by omega) C
  refine mm_rng (fun hr _ => ?_)
  have ap1 : -2147483648 ≤ p1 ∧ p1 < 2147483648 := mm_ok_at hr (i := 1) rfl
  have ap2 : -2147483648 ≤ p2 ∧ p2 < 2147483648 := mm_ok_at hr (i := 2) rfl
  have f0 : mm_fr [(48, 9)] [50, 51] h h := mm_fr_rf
  have g1 : 0 ≤ h.1 48 9 ∧ h.1 48 9 ≤ 500 := i0.1 48 9
  have ze0 : 0 ≤ h.1 30 6 ∧ h.1 30 6 ≤ 500 := i0.1 30 6
  refine mm_aload_n C (mm_dec dk_X1_collect 0 rfl) rfl ?_
  refine mm_iconst C (mm_dec dk_X1_collect 1 rfl) ⟨by decide, by decide⟩ ?_
  refine mm_puti C fl_X1_31 (mm_dec dk_X1_collect 2 rfl) rfl rfl rfl (Or.inl ⟨rfl, rfl⟩) ?_
  have i1 : mm_inv (mm_pf h 48 9 0) := mm_inv_pf i0 (show 0 ≤ 0 ∧ 0 ≤ 500 from ⟨by omega, by omega⟩) (by decide)
  have f1 : mm_fr [(48, 9)] [50, 51] h (mm_pf h 48 9 0) := mm_fr_pf f0 (by decide)
  obtain ⟨h1, eh1⟩ : ∃ z, z = mm_pf h 48 9 0 := ⟨_, rfl⟩
  rw [← eh1] at i1 f1 ⊢
  have qh1 : h1.1 48 9 = 0 := by rw [eh1]; exact mm_pf_same _ _ _ _
  refine mm_iconst C (mm_dec dk_X1_collect 3 rfl) ⟨by decide, by decide⟩ ?_
  have J7 : ∀ (n : Nat) (x7_3 : Int) (bx7_3 : 0 ≤ x7_3 ∧ x7_3 ≤ 500) (h7_ : mH) (i7_ : mm_inv h7_) (f7_ : mm_fr [(48, 9)] [50, 51] h h7_) (w7_0 : mm_cl8 h h7_ p1 p2 x7_3) (w7_1 : x7_3 ≤ h.1 30 6) (w7_2 : h7_.1 48 9 ≤ x7_3), (500 - x7_3 : Int) < n → mm_W x 0 0 7 [mR 48, mI p1, mI p2, mI x7_3] [] h7_ := by
    intro n
    induction n with
    | zero =>
      intro x7_3 bx7_3 h7_ i7_ f7_ w7_0 w7_1 w7_2 hm
      have g2 : 0 ≤ h7_.1 48 9 ∧ h7_.1 48 9 ≤ 500 := i7_.1 48 9
      exfalso; omega
    | succ n ih7 =>
      intro x7_3 bx7_3 h7_ i7_ f7_ w7_0 w7_1 w7_2 hm7
      have g3 : 0 ≤ h7_.1 48 9 ∧ h7_.1 48 9 ≤ 500 := i7_.1 48 9
      have zk9 : mm_k1 h7_ = mm_k1 h := mm_k1_fr f7_ (by decide)
      have ze9 : h7_.1 30 6 = h.1 30 6 := f7_.1 30 6 (by decide)
      refine mm_iload_n C (mm_dec dk_X1_collect 5 rfl) rfl ?_
      refine mm_aload_n C (mm_dec dk_X1_collect 6 rfl) rfl ?_
      refine mm_getr (t := 30) C fl_X1_42 (mm_dec dk_X1_collect 7 rfl) rfl rfl (mm_ref i7_ rfl) ?_
      refine mm_cVi (rest := [mI x7_3]) C1 ev_X1_84 (mm_dec dk_X1_collect 8 rfl) (c_X6_events x.2.1 hl (d - 1) (by omega) h7_ i7_ ) rfl rfl (Nat.le_of_ble_eq_true rfl) ⟨by decide, by decide⟩ rfl (fun r12 h12c hp12 => ?_) (fun _ _ q => q.elim)
      obtain ⟨z12, y12⟩ := hp12
      rw [z12, y12]
      have g5 : 0 ≤ (h7_.1 30 6) ∧ (h7_.1 30 6) ≤ 500 := i7_.1 30 6
      refine mm_icmp_ge (tgt := 58) C (mm_dec dk_X1_collect 9 rfl) (by decide) (fun c15 => ?_) (fun c15 => ?_)
      · skip
        exact mm_vret C T (mm_dec dk_X1_collect 30 rfl) (by decide : 0 ≤ 0) (by decide : 0 ≤ 0) ⟨rfl, ⟨i7_, f7_, by (rw [show h.1 30 6 = x7_3 by omega]; exact w7_0)⟩⟩
      · skip
        refine mm_aload_n C (mm_dec dk_X1_collect 10 rfl) rfl ?_
        refine mm_getr (t := 30) C fl_X1_42 (mm_dec dk_X1_collect 11 rfl) rfl rfl (mm_ref i7_ rfl) ?_
        refine mm_iload_n C (mm_dec dk_X1_collect 12 rfl) rfl ?_
        refine mm_iconst C (mm_dec dk_X1_collect 13 rfl) ⟨by decide, by decide⟩ ?_
        refine mm_iload_n C (mm_dec dk_X1_collect 14 rfl) rfl ?_
        refine mm_iload_n C (mm_dec dk_X1_collect 15 rfl) rfl ?_
        refine mm_cVi (rest := []) C1 ev_X1_90 (mm_dec dk_X1_collect 16 rfl) (c_X6_isKnown_q x.2.1 hl (d - 1) (by omega) h7_ i7_ x7_3 1 p1 p2 ⟨by omega, by omega⟩ ⟨by omega, by omega⟩) rfl rfl (Nat.le_of_ble_eq_true rfl) ⟨by decide, by decide⟩ rfl (fun r26 h26c hp26 => ?_) (fun _ _ q => q.elim)
        obtain ⟨b26, z26, y26_0⟩ := hp26
        rw [z26]
        have J52 : ∀ (h52_ : mH) (i52_ : mm_inv h52_) (f52_ : mm_fr [(48, 9)] [50, 51] h h52_) (w52_0 : mm_cl8 h h52_ p1 p2 (x7_3 + 1)) (w52_1 : h52_.1 48 9 ≤ x7_3 + 1), mm_W x 0 0 52 [mR 48, mI p1, mI p2, mI x7_3] [] h52_ := by
          intro h52_ i52_ f52_ w52_0 w52_1
          have g7 : 0 ≤ h52_.1 48 9 ∧ h52_.1 48 9 ≤ 500 := i52_.1 48 9
          refine mm_iincL (ls2 := [mR 48, mI p1, mI p2, mI (x7_3 + 1)]) C (mm_dec dk_X1_collect 28 rfl) rfl (by decide) ⟨by omega, by omega⟩ rfl ?_
          refine mm_goto (tgt := 7) C (mm_dec dk_X1_collect 29 rfl) (by decide) ?_
          exact ih7 (x7_3 + 1) ⟨by omega, by omega⟩ h52_ i52_ f52_ (by first | exact mm_cl8_0 (by omega) | exact w52_0) (by omega) (by omega) (by omega)
        refine mm_if_eq (tgt := 52) C (mm_dec dk_X1_collect 17 rfl) (by decide) (fun c29 => ?_) (fun c29 => ?_)
        · skip
          exact J52 h7_ i7_ f7_ (by first | exact mm_cl8_n w7_0 (by omega) (by rw [← zk9]; exact (y26_0.resolve_left (fun z => by have z1 := z.1; omega)).2) | exact mm_cl8_y w7_0 (by omega) (by rw [← zk9]; exact (y26_0.resolve_right (fun z => by have z1 := z.1; omega)).2) y49_0 (f7_.2 33 (by decide) _) (by have z := f7_.2 34 (by decide) x7_3; omega) y49_1) (by omega)
        · skip
          refine mm_aload_n C (mm_dec dk_X1_collect 18 rfl) rfl ?_
          refine mm_aload_n C (mm_dec dk_X1_collect 19 rfl) rfl ?_
          refine mm_getr (t := 30) C fl_X1_42 (mm_dec dk_X1_collect 20 rfl) rfl rfl (mm_ref i7_ rfl) ?_
          refine mm_iload_n C (mm_dec dk_X1_collect 21 rfl) rfl ?_
          refine mm_cVi (rest := [mR 48]) C1 ev_X1_94 (mm_dec dk_X1_collect 22 rfl) (c_X6_postOf x.2.1 hl (d - 1) (by omega) h7_ i7_ x7_3 ⟨by omega, by omega⟩) rfl rfl (Nat.le_of_ble_eq_true rfl) ⟨by decide, by decide⟩ rfl (fun r38 h38c hp38 => ?_) (fun _ _ q => q.elim)
          obtain ⟨z38, y38⟩ := hp38
          rw [z38, y38]
          have g9 : -2147483648 ≤ (h7_.2.1 33 x7_3) ∧ (h7_.2.1 33 x7_3) ≤ 2147483647 := i7_.2.1 33 x7_3
          refine mm_aload_n C (mm_dec dk_X1_collect 23 rfl) rfl ?_
          refine mm_getr (t := 30) C fl_X1_42 (mm_dec dk_X1_collect 24 rfl) rfl rfl (mm_ref i7_ rfl) ?_
          refine mm_iload_n C (mm_dec dk_X1_collect 25 rfl) rfl ?_
          refine mm_cVi (rest := [mI (h7_.2.1 33 x7_3), mR 48]) C1 ev_X1_97 (mm_dec dk_X1_collect 26 rfl) (c_X6_timeOf_q x.2.1 hl (d - 1) (by omega) h7_ i7_ x7_3 ⟨by omega, by omega⟩) rfl rfl (Nat.le_of_ble_eq_true rfl) ⟨by decide, by decide⟩ rfl (fun r46 h46c hp46 => ?_) (fun _ _ q => q.elim)
          obtain ⟨b46, z46, y46_0⟩ := hp46
          rw [z46]
          refine mm_cVv (rest := []) C1 ev_X1_100 (mm_dec dk_X1_collect 27 rfl) (c_X1_insert_q x.2.1 hl (d - 1) (by omega) h7_ i7_ (h7_.2.1 33 x7_3) r46 (by omega)) rfl rfl (Nat.le_of_ble_eq_true rfl) ⟨by decide, by decide⟩ rfl (fun h49c hp49 => ?_) (fun _ _ q => q.elim)
          obtain ⟨i49c, g49c, y49_0, y49_1⟩ := hp49
          have f49c : mm_fr [(48, 9)] [50, 51] h h49c := mm_fr_tr f7_ g49c (by decide +kernel)
          have q49c_12 : h49c.1 30 6 = h7_.1 30 6 := g49c.1 30 6 (by decide)
          have g13 : 0 ≤ (h49c.1 48 9) ∧ (h49c.1 48 9) ≤ 500 := i49c.1 48 9
          exact J52 h49c i49c f49c (by first | exact mm_cl8_n w7_0 (by omega) (by rw [← zk9]; exact (y26_0.resolve_left (fun z => by have z1 := z.1; omega)).2) | exact mm_cl8_y w7_0 (by omega) (by rw [← zk9]; exact (y26_0.resolve_right (fun z => by have z1 := z.1; omega)).2) y49_0 (f7_.2 33 (by decide) _) (by have z := f7_.2 34 (by decide) x7_3; omega) y49_1) (by omega)
  refine mm_istore_nL (ls2 := [mR 48, mI p1, mI p2, mI 0]) C (mm_dec dk_X1_collect 4 rfl) (by decide) rfl ?_
  exact J7 (((500 - 0) : Int) + 1).toNat 0 ⟨by omega, by omega⟩ h1 i1 f1 (by first | exact mm_cl8_0 (by omega) | exact w52_0) (by omega) (by omega) (by omega)
set_option maxRecDepth 100000 in
set_option maxHeartbeats 4000000 in
theorem c_X1_latestWith_q (l : Launch) (hl : l.stackTraces = false) (d : Nat) (hd : 0 ≤ d) (h : mH) (i0 : mm_inv h) (p1 : Int) (p2 : Int) (bp1 : 0 ≤ p1 ∧ p1 ≤ 11) (bp2 : 1 ≤ p2 ∧ p2 ≤ 12) : mm_Met l d yX1_latestWith cX1_latestWith 6 (some .int) [mR 48, mI p1, mI p2] h (mm_pi fun r h2 => (-1 ≤ r ∧ r ≤ 500) ∧ h2 = h ∧ mm_lw8 h p1 p2 r) mm_nx 0 0 := by
  refine mm_ofW (ls := [mR 48, mI p1, mI p2, mU, mU, mU]) hl (by decide) rfl (Nat.le_of_ble_eq_true rfl) ?_
  intro x hxl C T hnm htb
  subst hxl
  refine mm_rng (fun hr _ => ?_)
  have ap1 : -2147483648 ≤ p1 ∧ p1 < 2147483648 := mm_ok_at hr (i := 1) rfl
  have ap2 : -2147483648 ≤ p2 ∧ p2 < 2147483648 := mm_ok_at hr (i := 2) rfl
  have f0 : mm_fr [] [] h h := mm_fr_rf
  refine mm_aload_n C (mm_dec dk_X1_latestWith 0 rfl) rfl ?_
  refine mm_getr (t := 53) C fl_X1_24 (mm_dec dk_X1_latestWith 1 rfl) rfl rfl (mm_ref i0 rfl) ?_
  refine mm_iload_n C (mm_dec dk_X1_latestWith 2 rfl) rfl ?_
  refine mm_iconst C (mm_dec dk_X1_latestWith 3 rfl) ⟨by decide, by decide⟩ ?_
  refine mm_iadd C (mm_dec dk_X1_latestWith 4 rfl) ⟨by omega, by omega⟩ ?_
  refine mm_bipush C (mm_dec dk_X1_latestWith 5 rfl) ⟨by decide, by decide⟩ ?_
  refine mm_imul C (mm_dec dk_X1_latestWith 6 rfl) ⟨by omega, by omega⟩ ?_
  refine mm_iload_n C (mm_dec dk_X1_latestWith 7 rfl) rfl ?_
  refine mm_iadd C (mm_dec dk_X1_latestWith 8 rfl) ⟨by omega, by omega⟩ ?_
  refine mm_iald C (mm_dec dk_X1_latestWith 9 rfl) rfl (by omega) (by omega) ?_
  have g1 : -1 ≤ (h.2.1 53 (((p1 + 1) * 13) + p2)) ∧ (h.2.1 53 (((p1 + 1) * 13) + p2)) ≤ 500 := i0.2.1 53 (((p1 + 1) * 13) + p2)
  refine mm_istore_nL (ls2 := [mR 48, mI p1, mI p2, mI (h.2.1 53 (((p1 + 1) * 13) + p2)), mU, mU]) C (mm_dec dk_X1_latestWith 10 rfl) (by decide) rfl ?_
  refine mm_aload_n C (mm_dec dk_X1_latestWith 11 rfl) rfl ?_
  refine mm_getr (t := 53) C fl_X1_24 (mm_dec dk_X1_latestWith 12 rfl) rfl rfl (mm_ref i0 rfl) ?_
  refine mm_iload_n C (mm_dec dk_X1_latestWith 13 rfl) rfl ?_
  refine mm_iconst C (mm_dec dk_X1_latestWith 14 rfl) ⟨by decide, by decide⟩ ?_
  refine mm_iadd C (mm_dec dk_X1_latestWith 15 rfl) ⟨by omega, by omega⟩ ?_
  refine mm_bipush C (mm_dec dk_X1_latestWith 16 rfl) ⟨by decide, by decide⟩ ?_
  refine mm_imul C (mm_dec dk_X1_latestWith 17 rfl) ⟨by omega, by omega⟩ ?_
  refine mm_iload_n C (mm_dec dk_X1_latestWith 18 rfl) rfl ?_
  refine mm_iadd C (mm_dec dk_X1_latestWith 19 rfl) ⟨by omega, by omega⟩ ?_
  refine mm_iconst C (mm_dec dk_X1_latestWith 20 rfl) ⟨by decide, by decide⟩ ?_
  refine mm_isub C (mm_dec dk_X1_latestWith 21 rfl) ⟨by omega, by omega⟩ ?_
  refine mm_iald C (mm_dec dk_X1_latestWith 22 rfl) rfl (by omega) (by omega) ?_
  have g2 : -1 ≤ (h.2.1 53 ((((p1 + 1) * 13) + p2) - 1)) ∧ (h.2.1 53 ((((p1 + 1) * 13) + p2) - 1)) ≤ 500 := i0.2.1 53 ((((p1 + 1) * 13) + p2) - 1)
  refine mm_istoreL (ls2 := [mR 48, mI p1, mI p2, mI (h.2.1 53 (((p1 + 1) * 13) + p2)), mI (h.2.1 53 ((((p1 + 1) * 13) + p2) - 1)), mU]) C (mm_dec dk_X1_latestWith 23 rfl) (by decide) rfl ?_
  refine mm_iload C (mm_dec dk_X1_latestWith 24 rfl) rfl ?_
  refine mm_iconst C (mm_dec dk_X1_latestWith 25 rfl) ⟨by decide, by decide⟩ ?_
  refine mm_isub C (mm_dec dk_X1_latestWith 26 rfl) ⟨by omega, by omega⟩ ?_
  have J37 : ∀ (n : Nat) (x37_5 : Int) (bx37_5 : -2 ≤ x37_5 ∧ x37_5 ≤ 499) (w37_0 : ∀ j, x37_5 < j → j < h.2.1 53 (((p1 + 1) * 13) + p2 - 1) → h.2.1 50 j ≠ h.2.1 49 p1) (w37_1 : x37_5 < h.2.1 53 (((p1 + 1) * 13) + p2 - 1)), (x37_5 - (-2) : Int) < n → mm_W x 0 0 37 [mR 48, mI p1, mU, mI (h.2.1 53 (((p1 + 1) * 13) + p2)), mU, mI x37_5] [] h := by
    intro n
    induction n with
    | zero =>
      intro x37_5 bx37_5 w37_0 w37_1 hm
      exfalso; omega
    | succ n ih37 =>
      intro x37_5 bx37_5 w37_0 w37_1 hm37
      refine mm_iload C (mm_dec dk_X1_latestWith 28 rfl) rfl ?_
      refine mm_iload_n C (mm_dec dk_X1_latestWith 29 rfl) rfl ?_
      refine mm_icmp_le (tgt := 68) C (mm_dec dk_X1_latestWith 30 rfl) (by decide) (fun c40 => ?_) (fun c40 => ?_)
      · skip
        refine mm_iload_n C (mm_dec dk_X1_latestWith 44 rfl) rfl ?_
        exact mm_iret C T (mm_dec dk_X1_latestWith 45 rfl) (by decide : 0 ≤ 0) (by decide : 0 ≤ 0) ⟨_, rfl, ⟨⟨by omega, by omega⟩, rfl, by first | exact Or.inl ⟨by omega, by omega, by omega, w37_0⟩ | exact Or.inr ⟨by omega, fun j a b => w37_0 j (by omega) (by omega)⟩⟩⟩
      · skip
        refine mm_aload_n C (mm_dec dk_X1_latestWith 31 rfl) rfl ?_
        refine mm_getr (t := 50) C fl_X1_15 (mm_dec dk_X1_latestWith 32 rfl) rfl rfl (mm_ref i0 rfl) ?_
        refine mm_iload C (mm_dec dk_X1_latestWith 33 rfl) rfl ?_
        refine mm_iald C (mm_dec dk_X1_latestWith 34 rfl) rfl (by omega) (by omega) ?_
        have g3 : -2147483648 ≤ (h.2.1 50 x37_5) ∧ (h.2.1 50 x37_5) ≤ 2147483647 := i0.2.1 50 x37_5
        refine mm_aload_n C (mm_dec dk_X1_latestWith 35 rfl) rfl ?_
        refine mm_getr (t := 49) C fl_X1_9 (mm_dec dk_X1_latestWith 36 rfl) rfl rfl (mm_ref i0 rfl) ?_
        refine mm_iload_n C (mm_dec dk_X1_latestWith 37 rfl) rfl ?_
        refine mm_iald C (mm_dec dk_X1_latestWith 38 rfl) rfl (by omega) (by omega) ?_
        have g4 : 0 ≤ (h.2.1 49 p1) ∧ (h.2.1 49 p1) ≤ 19 := i0.2.1 49 p1
        refine mm_icmp_ne (tgt := 62) C (mm_dec dk_X1_latestWith 39 rfl) (by decide) (fun c56 => ?_) (fun c56 => ?_)
        · skip
          refine mm_iincL (ls2 := [mR 48, mI p1, mU, mI (h.2.1 53 (((p1 + 1) * 13) + p2)), mU, mI (x37_5 + (-1))]) C (mm_dec dk_X1_latestWith 42 rfl) rfl (by decide) ⟨by omega, by omega⟩ rfl ?_
          refine mm_goto (tgt := 37) C (mm_dec dk_X1_latestWith 43 rfl) (by decide) ?_
          exact ih37 (x37_5 + (-1)) ⟨by omega, by omega⟩ (by first | exact fun j a b => (by omega) | exact fun j a b => (by by_cases q : j = x37_5; (rw [q]; omega); exact w37_0 j (by omega) b)) (by omega) (by omega)
        · skip
          refine mm_iload C (mm_dec dk_X1_latestWith 40 rfl) rfl ?_
          exact mm_iret C T (mm_dec dk_X1_latestWith 41 rfl) (by decide : 0 ≤ 0) (by decide : 0 ≤ 0) ⟨_, rfl, ⟨⟨by omega, by omega⟩, rfl, by first | exact Or.inl ⟨by omega, by omega, by omega, w37_0⟩ | exact Or.inr ⟨by omega, fun j a b => w37_0 j (by omega) (by omega)⟩⟩⟩
  refine mm_istoreL (ls2 := [mR 48, mI p1, mI p2, mI (h.2.1 53 (((p1 + 1) * 13) + p2)), mI (h.2.1 53 ((((p1 + 1) * 13) + p2) - 1)), mI ((h.2.1 53 ((((p1 + 1) * 13) + p2) - 1)) - 1)]) C (mm_dec dk_X1_latestWith 27 rfl) (by decide) rfl ?_
  refine mm_fgt 2 ?_
  refine mm_fgt 4 ?_
  exact J37 (((((h.2.1 53 ((((p1 + 1) * 13) + p2) - 1)) - 1) - (-2)) : Int) + 1).toNat ((h.2.1 53 ((((p1 + 1) * 13) + p2) - 1)) - 1) ⟨by omega, by omega⟩ (by first | exact fun j a b => (by omega) | exact fun j a b => (by by_cases q : j = x37_5; (rw [q]; omega); exact w37_0 j (by omega) b)) (by omega) (by omega)
set_option maxRecDepth 100000 in
set_option maxHeartbeats 4000000 in
theorem c_J7_fill_53178_52_q (l : Launch) (hl : l.stackTraces = false) (d : Nat) (hd : 0 ≤ d) (h : mH) (i0 : mm_inv h) (p1 : Int) (bp1 : -1 ≤ p1 ∧ p1 ≤ 499) : mm_Met l d yJ7_fill_53178 cJ7_fill_53178 4 none [mR 52, mI p1] h (mm_pv fun h2 => mm_inv h2 ∧ mm_fr [] [52] h h2 ∧ mm_al h2 52 11 p1) mm_nx 0 0 := by
  refine mm_ofW (ls := [mR 52, mI p1, mU, mU]) hl (by decide) rfl (Nat.le_of_ble_eq_true rfl) ?_
  intro x hxl C T hnm htb
  subst hxl
  refine mm_rng (fun hr _ => ?_)
  have ap1 : -2147483648 ≤ p1 ∧ p1 < 2147483648 := mm_ok_at hr (i := 1) rfl
  have f0 : mm_fr [] [52] h h := mm_fr_rf
  refine mm_iconst C (mm_dec dk_J7_fill_53178 0 rfl) ⟨by decide, by decide⟩ ?_
  refine mm_istore_nL (ls2 := [mR 52, mI p1, mI 0, mU]) C (mm_dec dk_J7_fill_53178 1 rfl) (by decide) rfl ?_
  refine mm_aload_n C (mm_dec dk_J7_fill_53178 2 rfl) rfl ?_
  refine mm_alenz (z := 12) C (mm_dec dk_J7_fill_53178 3 rfl) rfl (by decide) (by decide) rfl ?_
  have J5 : ∀ (n : Nat) (x5_2 : Int) (bx5_2 : 0 ≤ x5_2 ∧ x5_2 ≤ 12) (x5_3 : Int) (bx5_3 : 12 ≤ x5_3 ∧ x5_3 ≤ 12) (h5_ : mH) (i5_ : mm_inv h5_) (f5_ : mm_fr [] [52] h h5_) (w5_0 : mm_al h5_ 52 (x5_2 - 1) p1), (12 - x5_2 : Int) < n → mm_W x 0 0 5 [mR 52, mI p1, mI x5_2, mI x5_3] [] h5_ := by
    intro n
    induction n with
    | zero =>
      intro x5_2 bx5_2 x5_3 bx5_3 h5_ i5_ f5_ w5_0 hm
      exfalso; omega
    | succ n ih5 =>
      intro x5_2 bx5_2 x5_3 bx5_3 h5_ i5_ f5_ w5_0 hm5
      refine mm_iload_n C (mm_dec dk_J7_fill_53178 5 rfl) rfl ?_
      refine mm_iload_n C (mm_dec dk_J7_fill_53178 6 rfl) rfl ?_
      refine mm_icmp_ge (tgt := 20) C (mm_dec dk_J7_fill_53178 7 rfl) (by decide) (fun c7 => ?_) (fun c7 => ?_)
      · skip
        exact mm_vret C T (mm_dec dk_J7_fill_53178 14 rfl) (by decide : 0 ≤ 0) (by decide : 0 ≤ 0) ⟨rfl, ⟨i5_, f5_, by exact mm_al_le w5_0 (by omega)⟩⟩
      · skip
        refine mm_aload_n C (mm_dec dk_J7_fill_53178 8 rfl) rfl ?_
        refine mm_iload_n C (mm_dec dk_J7_fill_53178 9 rfl) rfl ?_
        refine mm_iload_n C (mm_dec dk_J7_fill_53178 10 rfl) rfl ?_
        refine mm_iast C (mm_dec dk_J7_fill_53178 11 rfl) rfl (by omega) (by omega) ?_
        have i1 : mm_inv (mm_pa h5_ 52 x5_2 p1) := mm_inv_pa i5_ (show -1 ≤ p1 ∧ p1 ≤ 499 from ⟨by omega, by omega⟩)
        have f1 : mm_fr [] [52] h (mm_pa h5_ 52 x5_2 p1) := mm_fr_pa f5_ (by decide)
        obtain ⟨h1, eh1⟩ : ∃ z, z = mm_pa h5_ 52 x5_2 p1 := ⟨_, rfl⟩
        rw [← eh1] at i1 f1 ⊢
        refine mm_iincL (ls2 := [mR 52, mI p1, mI (x5_2 + 1), mI x5_3]) C (mm_dec dk_J7_fill_53178 12 rfl) rfl (by decide) ⟨by omega, by omega⟩ rfl ?_
        refine mm_goto (tgt := 5) C (mm_dec dk_J7_fill_53178 13 rfl) (by decide) ?_
        exact ih5 (x5_2 + 1) ⟨by omega, by omega⟩ x5_3 ⟨by omega, by omega⟩ h1 i1 f1 (by first | exact mm_al_nil (by omega) | (rw [show x5_2 + 1 - 1 = x5_2 by omega]; exact mm_al_put w5_0 eh1)) (by omega)
  refine mm_istore_nL (ls2 := [mR 52, mI p1, mI 0, mI 12]) C (mm_dec dk_J7_fill_53178 4 rfl) (by decide) rfl ?_
  exact J5 (((12 - 0) : Int) + 1).toNat 0 ⟨by omega, by omega⟩ 12 ⟨by omega, by omega⟩ h i0 f0 (by first | exact mm_al_nil (by omega) | (rw [show x5_2 + 1 - 1 = x5_2 by omega]; exact mm_al_put w5_0 eh)) (by omega)
set_option maxRecDepth 100000 in
set_option maxHeartbeats 4000000 in
theorem c_J7_fill_53178_53_q (l : Launch) (hl : l.stackTraces = false) (d : Nat) (hd : 0 ≤ d) (h : mH) (i0 : mm_inv h) (p1 : Int) (bp1 : -1 ≤ p1 ∧ p1 ≤ 500) : mm_Met l d yJ7_fill_53178 cJ7_fill_53178 4 none [mR 53, mI p1] h (mm_pv fun h2 => mm_inv h2 ∧ mm_fr [] [53] h h2 ∧ mm_al h2 53 168 p1) mm_nx 0 0 := by
  refine mm_ofW (ls := [mR 53, mI p1, mU, mU]) hl (by decide) rfl (Nat.le_of_ble_eq_true rfl) ?_
  intro x hxl C T hnm htb
  subst hxl
  refine mm_rng (fun hr _ => ?_)
  have ap1 : -2147483648 ≤ p1 ∧ p1 < 2147483648 := mm_ok_at hr (i := 1) rfl
  have f0 : mm_fr [] [53] h h := mm_fr_rf
  refine mm_iconst C (mm_dec dk_J7_fill_53178 0 rfl) ⟨by decide, by decide⟩ ?_
  refine mm_istore_nL (ls2 := [mR 53, mI p1, mI 0, mU]) C (mm_dec dk_J7_fill_53178 1 rfl) (by decide) rfl ?_
  refine mm_aload_n C (mm_dec dk_J7_fill_53178 2 rfl) rfl ?_
  refine mm_alenz (z := 169) C (mm_dec dk_J7_fill_53178 3 rfl) rfl (by decide) (by decide) rfl ?_
  have J5 : ∀ (n : Nat) (x5_2 : Int) (bx5_2 : 0 ≤ x5_2 ∧ x5_2 ≤ 169) (x5_3 : Int) (bx5_3 : 169 ≤ x5_3 ∧ x5_3 ≤ 169) (h5_ : mH) (i5_ : mm_inv h5_) (f5_ : mm_fr [] [53] h h5_) (w5_0 : mm_al h5_ 53 (x5_2 - 1) p1), (169 - x5_2 : Int) < n → mm_W x 0 0 5 [mR 53, mI p1, mI x5_2, mI x5_3] [] h5_ := by
    intro n
    induction n with
    | zero =>
      intro x5_2 bx5_2 x5_3 bx5_3 h5_ i5_ f5_ w5_0 hm
      exfalso; omega
    | succ n ih5 =>
      intro x5_2 bx5_2 x5_3 bx5_3 h5_ i5_ f5_ w5_0 hm5
      refine mm_iload_n C (mm_dec dk_J7_fill_53178 5 rfl) rfl ?_
      refine mm_iload_n C (mm_dec dk_J7_fill_53178 6 rfl) rfl ?_
      refine mm_icmp_ge (tgt := 20) C (mm_dec dk_J7_fill_53178 7 rfl) (by decide) (fun c7 => ?_) (fun c7 => ?_)
      · skip
        exact mm_vret C T (mm_dec dk_J7_fill_53178 14 rfl) (by decide : 0 ≤ 0) (by decide : 0 ≤ 0) ⟨rfl, ⟨i5_, f5_, by exact mm_al_le w5_0 (by omega)⟩⟩
      · skip
        refine mm_aload_n C (mm_dec dk_J7_fill_53178 8 rfl) rfl ?_
        refine mm_iload_n C (mm_dec dk_J7_fill_53178 9 rfl) rfl ?_
        refine mm_iload_n C (mm_dec dk_J7_fill_53178 10 rfl) rfl ?_
        refine mm_iast C (mm_dec dk_J7_fill_53178 11 rfl) rfl (by omega) (by omega) ?_
        have i1 : mm_inv (mm_pa h5_ 53 x5_2 p1) := mm_inv_pa i5_ (show -1 ≤ p1 ∧ p1 ≤ 500 from ⟨by omega, by omega⟩)
        have f1 : mm_fr [] [53] h (mm_pa h5_ 53 x5_2 p1) := mm_fr_pa f5_ (by decide)
        obtain ⟨h1, eh1⟩ : ∃ z, z = mm_pa h5_ 53 x5_2 p1 := ⟨_, rfl⟩
        rw [← eh1] at i1 f1 ⊢
        refine mm_iincL (ls2 := [mR 53, mI p1, mI (x5_2 + 1), mI x5_3]) C (mm_dec dk_J7_fill_53178 12 rfl) rfl (by decide) ⟨by omega, by omega⟩ rfl ?_
        refine mm_goto (tgt := 5) C (mm_dec dk_J7_fill_53178 13 rfl) (by decide) ?_
        exact ih5 (x5_2 + 1) ⟨by omega, by omega⟩ x5_3 ⟨by omega, by omega⟩ h1 i1 f1 (by first | exact mm_al_nil (by omega) | (rw [show x5_2 + 1 - 1 = x5_2 by omega]; exact mm_al_put w5_0 eh1)) (by omega)
  refine mm_istore_nL (ls2 := [mR 53, mI p1, mI 0, mI 169]) C (mm_dec dk_J7_fill_53178 4 rfl) (by decide) rfl ?_
  exact J5 (((169 - 0) : Int) + 1).toNat 0 ⟨by omega, by omega⟩ 169 ⟨by omega, by omega⟩ h i0 f0 (by first | exact mm_al_nil (by omega) | (rw [show x5_2 + 1 - 1 = x5_2 by omega]; exact mm_al_put w5_0 eh)) (by omega)
set_option maxRecDepth 100000 in
set_option maxHeartbeats 4000000 in
theorem c_X1_measureRests_q (l : Launch) (hl : l.stackTraces = false) (d : Nat) (hd : 1 ≤ d) (h : mH) (i0 : mm_inv h) : mm_Met l d yX1_measureRests cX1_measureRests 3 none [mR 48] h (mm_pv fun h2 => mm_inv h2 ∧ mm_fr [] [53] h h2 ∧ mm_mr8 h h2 (-1)) mm_nx 0 0 := by
  refine mm_ofW (ls := [mR 48, mU, mU]) hl (by decide) rfl (Nat.le_of_ble_eq_true rfl) ?_
  intro x hxl C T hnm htb
  subst hxl
  have C1 := mm_OK_le (d' := d - 1 + 1) (by omega) C
  have f0 : mm_fr [] [53] h h := mm_fr_rf
  have zn8 : 0 ≤ h.1 48 8 ∧ h.1 48 8 ≤ 12 := i0.1 48 8
  have zm8 : 0 ≤ h.1 48 9 ∧ h.1 48 9 ≤ 500 := i0.1 48 9
  refine mm_aload_n C (mm_dec dk_X1_measureRests 0 rfl) rfl ?_
  refine mm_getr (t := 53) C fl_X1_24 (mm_dec dk_X1_measureRests 1 rfl) rfl rfl (mm_ref i0 rfl) ?_
  refine mm_iconst C (mm_dec dk_X1_measureRests 2 rfl) ⟨by decide, by decide⟩ ?_
  refine mm_cSv (rest := []) C1 es_X1_56 (mm_dec dk_X1_measureRests 3 rfl) (c_J7_fill_53178_53_q x.2.1 hl (d - 1) (by omega) h i0 (-1) ⟨by omega, by omega⟩) rfl (Nat.le_of_ble_eq_true rfl) ⟨by decide, by decide⟩ rfl (fun h5c hp5 => ?_) (fun _ _ q => q.elim)
  obtain ⟨i5c, g5c, y5_0⟩ := hp5
  have f5c : mm_fr [] [53] h h5c := mm_fr_tr f0 g5c (by decide +kernel)
  have zg8 : h5c.1 48 8 = h.1 48 8 := g5c.1 48 8 (by decide)
  have zg9 : h5c.1 48 9 = h.1 48 9 := g5c.1 48 9 (by decide)
  refine mm_aload_n C (mm_dec dk_X1_measureRests 4 rfl) rfl ?_
  refine mm_getr (t := 53) C fl_X1_24 (mm_dec dk_X1_measureRests 5 rfl) rfl rfl (mm_ref i5c rfl) ?_
  refine mm_aload_n C (mm_dec dk_X1_measureRests 6 rfl) rfl ?_
  refine mm_geti C fl_X1_27 (mm_dec dk_X1_measureRests 7 rfl) rfl rfl (Or.inl rfl) ?_
  have g2 : 0 ≤ (h5c.1 48 8) ∧ (h5c.1 48 8) ≤ 12 := i5c.1 48 8
  refine mm_bipush C (mm_dec dk_X1_measureRests 8 rfl) ⟨by decide, by decide⟩ ?_
  refine mm_imul C (mm_dec dk_X1_measureRests 9 rfl) ⟨by omega, by omega⟩ ?_
  refine mm_aload_n C (mm_dec dk_X1_measureRests 10 rfl) rfl ?_
  refine mm_geti C fl_X1_31 (mm_dec dk_X1_measureRests 11 rfl) rfl rfl (Or.inl rfl) ?_
  have g3 : 0 ≤ (h5c.1 48 9) ∧ (h5c.1 48 9) ≤ 500 := i5c.1 48 9
  refine mm_iast C (mm_dec dk_X1_measureRests 12 rfl) rfl (by omega) (by omega) ?_
  have i2 : mm_inv (mm_pa h5c 53 ((h5c.1 48 8) * 13) (h5c.1 48 9)) := mm_inv_pa i5c (show -1 ≤ (h5c.1 48 9) ∧ (h5c.1 48 9) ≤ 500 from ⟨by omega, by omega⟩)
  have f2 : mm_fr [] [53] h (mm_pa h5c 53 ((h5c.1 48 8) * 13) (h5c.1 48 9)) := mm_fr_pa f5c (by decide)
  obtain ⟨h2, eh2⟩ : ∃ z, z = mm_pa h5c 53 ((h5c.1 48 8) * 13) (h5c.1 48 9) := ⟨_, rfl⟩
  rw [← eh2] at i2 f2 ⊢
  have qh2_4 : h2.1 48 8 = h5c.1 48 8 := by rw [eh2]; rfl
  have qh2_5 : h2.1 48 9 = h5c.1 48 9 := by rw [eh2]; rfl
  refine mm_aload_n C (mm_dec dk_X1_measureRests 13 rfl) rfl ?_
  refine mm_geti C fl_X1_27 (mm_dec dk_X1_measureRests 14 rfl) rfl rfl (Or.inl rfl) ?_
  refine mm_iconst C (mm_dec dk_X1_measureRests 15 rfl) ⟨by decide, by decide⟩ ?_
  refine mm_isub C (mm_dec dk_X1_measureRests 16 rfl) ⟨by omega, by omega⟩ ?_
  have J31 : ∀ (n : Nat) (x31_1 : Int) (bx31_1 : -1 ≤ x31_1 ∧ x31_1 ≤ 11) (h31_ : mH) (i31_ : mm_inv h31_) (f31_ : mm_fr [] [53] h h31_) (w31_0 : mm_mr8 h h31_ x31_1) (w31_1 : x31_1 ≤ h.1 48 8 - 1), (x31_1 - (-1) : Int) < n → mm_W x 0 0 31 [mR 48, mI x31_1, mU] [] h31_ := by
    intro n
    induction n with
    | zero =>
      intro x31_1 bx31_1 h31_ i31_ f31_ w31_0 w31_1 hm
      exfalso; omega
    | succ n ih31 =>
      intro x31_1 bx31_1 h31_ i31_ f31_ w31_0 w31_1 hm31
      have ze8 : h31_.1 48 8 = h.1 48 8 := f31_.1 48 8 (by decide)
      have ze9 : h31_.1 48 9 = h.1 48 9 := f31_.1 48 9 (by decide)
      refine mm_iload_n C (mm_dec dk_X1_measureRests 18 rfl) rfl ?_
      refine mm_if_lt (tgt := 89) C (mm_dec dk_X1_measureRests 19 rfl) (by decide) (fun c32 => ?_) (fun c32 => ?_)
      · skip
        exact mm_vret C T (mm_dec dk_X1_measureRests 52 rfl) (by decide : 0 ≤ 0) (by decide : 0 ≤ 0) ⟨rfl, ⟨i31_, f31_, by first | (rw [show (-1 : Int) = x31_1 by omega]; exact w31_0)⟩⟩
      · skip
        refine mm_aload_n C (mm_dec dk_X1_measureRests 20 rfl) rfl ?_
        refine mm_getr (t := 53) C fl_X1_24 (mm_dec dk_X1_measureRests 21 rfl) rfl rfl (mm_ref i31_ rfl) ?_
        refine mm_iload_n C (mm_dec dk_X1_measureRests 22 rfl) rfl ?_
        refine mm_bipush C (mm_dec dk_X1_measureRests 23 rfl) ⟨by decide, by decide⟩ ?_
        refine mm_imul C (mm_dec dk_X1_measureRests 24 rfl) ⟨by omega, by omega⟩ ?_
        refine mm_aload_n C (mm_dec dk_X1_measureRests 25 rfl) rfl ?_
        refine mm_geti C fl_X1_31 (mm_dec dk_X1_measureRests 26 rfl) rfl rfl (Or.inl rfl) ?_
        have g6 : 0 ≤ (h31_.1 48 9) ∧ (h31_.1 48 9) ≤ 500 := i31_.1 48 9
        refine mm_iast C (mm_dec dk_X1_measureRests 27 rfl) rfl (by omega) (by omega) ?_
        have i3 : mm_inv (mm_pa h31_ 53 (x31_1 * 13) (h31_.1 48 9)) := mm_inv_pa i31_ (show -1 ≤ (h31_.1 48 9) ∧ (h31_.1 48 9) ≤ 500 from ⟨by omega, by omega⟩)
        have f3 : mm_fr [] [53] h (mm_pa h31_ 53 (x31_1 * 13) (h31_.1 48 9)) := mm_fr_pa f31_ (by decide)
        obtain ⟨h3, eh3⟩ : ∃ z, z = mm_pa h31_ 53 (x31_1 * 13) (h31_.1 48 9) := ⟨_, rfl⟩
        rw [← eh3] at i3 f3 ⊢
        have qh3_7 : h3.1 48 9 = h31_.1 48 9 := by rw [eh3]; rfl
        refine mm_iconst C (mm_dec dk_X1_measureRests 28 rfl) ⟨by decide, by decide⟩ ?_
        have J50 : ∀ (n : Nat) (x50_2 : Int) (bx50_2 : 1 ≤ x50_2 ∧ x50_2 ≤ 13) (h50_ : mH) (i50_ : mm_inv h50_) (f50_ : mm_fr [] [53] h h50_) (w50_0 : mm_mi8 h h50_ x31_1 x50_2) (w50_1 : x31_1 ≤ h.1 48 8 - 1) (w50_2 : 0 ≤ x31_1), (13 - x50_2 : Int) < n → mm_W x 0 0 50 [mR 48, mI x31_1, mI x50_2] [] h50_ := by
          intro n
          induction n with
          | zero =>
            intro x50_2 bx50_2 h50_ i50_ f50_ w50_0 w50_1 w50_2 hm
            exfalso; omega
          | succ n ih50 =>
            intro x50_2 bx50_2 h50_ i50_ f50_ w50_0 w50_1 w50_2 hm50
            have zf8 : h50_.1 48 8 = h.1 48 8 := f50_.1 48 8 (by decide)
            refine mm_iload_n C (mm_dec dk_X1_measureRests 30 rfl) rfl ?_
            refine mm_aload_n C (mm_dec dk_X1_measureRests 31 rfl) rfl ?_
            refine mm_geti C fl_X1_27 (mm_dec dk_X1_measureRests 32 rfl) rfl rfl (Or.inl rfl) ?_
            have g8 : 0 ≤ (h50_.1 48 8) ∧ (h50_.1 48 8) ≤ 12 := i50_.1 48 8
            refine mm_iload_n C (mm_dec dk_X1_measureRests 33 rfl) rfl ?_
            refine mm_isub C (mm_dec dk_X1_measureRests 34 rfl) ⟨by omega, by omega⟩ ?_
            refine mm_icmp_gt (tgt := 83) C (mm_dec dk_X1_measureRests 35 rfl) (by decide) (fun c57 => ?_) (fun c57 => ?_)
            · skip
              refine mm_iincL (ls2 := [mR 48, mI (x31_1 + (-1)), mI x50_2]) C (mm_dec dk_X1_measureRests 50 rfl) rfl (by decide) ⟨by omega, by omega⟩ rfl ?_
              refine mm_goto (tgt := 31) C (mm_dec dk_X1_measureRests 51 rfl) (by decide) ?_
              refine mm_fgt 2 ?_
              exact ih31 (x31_1 + (-1)) ⟨by omega, by omega⟩ h50_ i50_ f50_ (by first | exact mm_mr8_0 y5_0 eh2 (by omega) (by omega) (by omega) (by omega) (by omega) | exact mm_mi8_e w50_0 (by omega) (by omega) (by omega)) (by omega) (by omega)
            · skip
              refine mm_aload_n C (mm_dec dk_X1_measureRests 36 rfl) rfl ?_
              refine mm_getr (t := 53) C fl_X1_24 (mm_dec dk_X1_measureRests 37 rfl) rfl rfl (mm_ref i50_ rfl) ?_
              refine mm_iload_n C (mm_dec dk_X1_measureRests 38 rfl) rfl ?_
              refine mm_bipush C (mm_dec dk_X1_measureRests 39 rfl) ⟨by decide, by decide⟩ ?_
              refine mm_imul C (mm_dec dk_X1_measureRests 40 rfl) ⟨by omega, by omega⟩ ?_
              refine mm_iload_n C (mm_dec dk_X1_measureRests 41 rfl) rfl ?_
              refine mm_iadd C (mm_dec dk_X1_measureRests 42 rfl) ⟨by omega, by omega⟩ ?_
              refine mm_aload_n C (mm_dec dk_X1_measureRests 43 rfl) rfl ?_
              refine mm_iload_n C (mm_dec dk_X1_measureRests 44 rfl) rfl ?_
              refine mm_iload_n C (mm_dec dk_X1_measureRests 45 rfl) rfl ?_
              refine mm_cVi (rest := [mI ((x31_1 * 13) + x50_2), mR 53]) C1 ev_X1_107 (mm_dec dk_X1_measureRests 46 rfl) (c_X1_latestWith_q x.2.1 hl (d - 1) (by omega) h50_ i50_ x31_1 x50_2 ⟨by omega, by omega⟩ ⟨by omega, by omega⟩) rfl rfl (Nat.le_of_ble_eq_true rfl) ⟨by decide, by decide⟩ rfl (fun r73 h73c hp73 => ?_) (fun _ _ q => q.elim)
              obtain ⟨b73, z73, y73_0⟩ := hp73
              rw [z73]
              refine mm_iast C (mm_dec dk_X1_measureRests 47 rfl) rfl (by omega) (by omega) ?_
              have i4 : mm_inv (mm_pa h50_ 53 ((x31_1 * 13) + x50_2) r73) := mm_inv_pa i50_ (show -1 ≤ r73 ∧ r73 ≤ 500 from ⟨by omega, by omega⟩)
              have f4 : mm_fr [] [53] h (mm_pa h50_ 53 ((x31_1 * 13) + x50_2) r73) := mm_fr_pa f50_ (by decide)
              obtain ⟨h4, eh4⟩ : ∃ z, z = mm_pa h50_ 53 ((x31_1 * 13) + x50_2) r73 := ⟨_, rfl⟩
              rw [← eh4] at i4 f4 ⊢
              have qh4_10 : h4.1 48 8 = h50_.1 48 8 := by rw [eh4]; rfl
              refine mm_iincL (ls2 := [mR 48, mI x31_1, mI (x50_2 + 1)]) C (mm_dec dk_X1_measureRests 48 rfl) rfl (by decide) ⟨by omega, by omega⟩ rfl ?_
              refine mm_goto (tgt := 50) C (mm_dec dk_X1_measureRests 49 rfl) (by decide) ?_
              exact ih50 (x50_2 + 1) ⟨by omega, by omega⟩ h4 i4 f4 (by first | exact mm_mi8_0 w31_0 eh3 (by omega) (by omega) (by omega) | exact mm_mi8_s w50_0 y73_0 (fun _ => rfl) eh4 (f50_.2 50 (by decide)) (f50_.2 49 (by decide)) (by omega) (by omega)) (by omega) (by omega) (by omega)
        refine mm_istore_nL (ls2 := [mR 48, mI x31_1, mI 1]) C (mm_dec dk_X1_measureRests 29 rfl) (by decide) rfl ?_
        exact J50 (((13 - 1) : Int) + 1).toNat 1 ⟨by omega, by omega⟩ h3 i3 f3 (by first | exact mm_mi8_0 w31_0 eh3 (by omega) (by omega) (by omega) | exact mm_mi8_s w50_0 y73_0 (fun _ => rfl) eh4 (f50_.2 50 (by decide)) (f50_.2 49 (by decide)) (by omega) (by omega)) (by omega) (by omega) (by omega)
  refine mm_istore_nL (ls2 := [mR 48, mI ((h2.1 48 8) - 1), mU]) C (mm_dec dk_X1_measureRests 17 rfl) (by decide) rfl ?_
  exact J31 (((((h2.1 48 8) - 1) - (-1)) : Int) + 1).toNat ((h2.1 48 8) - 1) ⟨by omega, by omega⟩ h2 i2 f2 (by first | exact mm_mr8_0 y5_0 eh2 (by omega) (by omega) (by omega) (by omega) (by omega) | exact mm_mi8_e w50_0 (by omega) (by omega) (by omega)) (by omega) (by omega)
set_option maxRecDepth 100000 in
set_option maxHeartbeats 4000000 in
theorem c_X1_keepPunched_q (l : Launch) (hl : l.stackTraces = false) (d : Nat) (hd : 1 ≤ d) (h : mH) (i0 : mm_inv h) : mm_Met l d yX1_keepPunched cX1_keepPunched 2 none [mR 48] h (mm_pv fun h2 => mm_inv h2 ∧ mm_fr [] [52] h h2 ∧ mm_kf8 h h2 (h.1 48 8)) mm_nx 0 0 := by
  refine mm_ofW (ls := [mR 48, mU]) hl (by decide) rfl (Nat.le_of_ble_eq_true rfl) ?_
  intro x hxl C T hnm htb
  subst hxl
  have C1 := mm_OK_le (d' := d - 1 + 1) (by omega) C
  have f0 : mm_fr [] [52] h h := mm_fr_rf
  have zn8 : 0 ≤ h.1 48 8 ∧ h.1 48 8 ≤ 12 := i0.1 48 8
  refine mm_iconst C (mm_dec dk_X1_keepPunched 0 rfl) ⟨by decide, by decide⟩ ?_
  have J2 : ∀ (n : Nat) (x2_1 : Int) (bx2_1 : 0 ≤ x2_1 ∧ x2_1 ≤ 12) (h2_ : mH) (i2_ : mm_inv h2_) (f2_ : mm_fr [] [52] h h2_) (w2_0 : mm_kf8 h h2_ x2_1) (w2_1 : x2_1 ≤ h.1 48 8), (12 - x2_1 : Int) < n → mm_W x 0 0 2 [mR 48, mI x2_1] [] h2_ := by
    intro n
    induction n with
    | zero =>
      intro x2_1 bx2_1 h2_ i2_ f2_ w2_0 w2_1 hm
      exfalso; omega
    | succ n ih2 =>
      intro x2_1 bx2_1 h2_ i2_ f2_ w2_0 w2_1 hm2
      have ze8 : h2_.1 48 8 = h.1 48 8 := f2_.1 48 8 (by decide)
      refine mm_iload_n C (mm_dec dk_X1_keepPunched 2 rfl) rfl ?_
      refine mm_aload_n C (mm_dec dk_X1_keepPunched 3 rfl) rfl ?_
      refine mm_geti C fl_X1_27 (mm_dec dk_X1_keepPunched 4 rfl) rfl rfl (Or.inl rfl) ?_
      have g1 : 0 ≤ (h2_.1 48 8) ∧ (h2_.1 48 8) ≤ 12 := i2_.1 48 8
      refine mm_icmp_ge (tgt := 33) C (mm_dec dk_X1_keepPunched 5 rfl) (by decide) (fun c7 => ?_) (fun c7 => ?_)
      · skip
        exact mm_vret C T (mm_dec dk_X1_keepPunched 19 rfl) (by decide : 0 ≤ 0) (by decide : 0 ≤ 0) ⟨rfl, ⟨i2_, f2_, by (rw [show h.1 48 8 = x2_1 by have z := f2_.1 48 8 (by decide); omega]; exact w2_0)⟩⟩
      · skip
        refine mm_aload_n C (mm_dec dk_X1_keepPunched 6 rfl) rfl ?_
        refine mm_getr (t := 52) C fl_X1_21 (mm_dec dk_X1_keepPunched 7 rfl) rfl rfl (mm_ref i2_ rfl) ?_
        refine mm_iload_n C (mm_dec dk_X1_keepPunched 8 rfl) rfl ?_
        refine mm_aload_n C (mm_dec dk_X1_keepPunched 9 rfl) rfl ?_
        refine mm_aload_n C (mm_dec dk_X1_keepPunched 10 rfl) rfl ?_
        refine mm_getr (t := 49) C fl_X1_9 (mm_dec dk_X1_keepPunched 11 rfl) rfl rfl (mm_ref i2_ rfl) ?_
        refine mm_iload_n C (mm_dec dk_X1_keepPunched 12 rfl) rfl ?_
        refine mm_iald C (mm_dec dk_X1_keepPunched 13 rfl) rfl (by omega) (by omega) ?_
        have g2 : 0 ≤ (h2_.2.1 49 x2_1) ∧ (h2_.2.1 49 x2_1) ≤ 19 := i2_.2.1 49 x2_1
        refine mm_iconst C (mm_dec dk_X1_keepPunched 14 rfl) ⟨by decide, by decide⟩ ?_
        refine mm_cVi (rest := [mI x2_1, mR 52]) C1 ev_X1_103 (mm_dec dk_X1_keepPunched 15 rfl) (c_X1_firstPunch_q x.2.1 hl (d - 1) (by omega) h2_ i2_ (h2_.2.1 49 x2_1) 0 ⟨by omega, by omega⟩) rfl rfl (Nat.le_of_ble_eq_true rfl) ⟨by decide, by decide⟩ rfl (fun r23 h23c hp23 => ?_) (fun _ _ q => q.elim)
        obtain ⟨b23, z23, y23_0⟩ := hp23
        rw [z23]
        refine mm_iast C (mm_dec dk_X1_keepPunched 16 rfl) rfl (by omega) (by omega) ?_
        have i1 : mm_inv (mm_pa h2_ 52 x2_1 r23) := mm_inv_pa i2_ (show -1 ≤ r23 ∧ r23 ≤ 499 from ⟨by omega, by omega⟩)
        have f1 : mm_fr [] [52] h (mm_pa h2_ 52 x2_1 r23) := mm_fr_pa f2_ (by decide)
        obtain ⟨h1, eh1⟩ : ∃ z, z = mm_pa h2_ 52 x2_1 r23 := ⟨_, rfl⟩
        rw [← eh1] at i1 f1 ⊢
        have qh1_4 : h1.1 48 8 = h2_.1 48 8 := by rw [eh1]; rfl
        refine mm_iincL (ls2 := [mR 48, mI (x2_1 + 1)]) C (mm_dec dk_X1_keepPunched 17 rfl) rfl (by decide) ⟨by omega, by omega⟩ rfl ?_
        refine mm_goto (tgt := 2) C (mm_dec dk_X1_keepPunched 18 rfl) (by decide) ?_
        exact ih2 (x2_1 + 1) ⟨by omega, by omega⟩ h1 i1 f1 (by first | exact fun j a b => absurd b (by omega) | exact mm_kf8_s w2_0 y23_0 (funext fun j => f2_.2 50 (by decide) j) (f2_.1 48 9 (by decide)) (f2_.2 49 (by decide) _) eh1) (by omega) (by omega)
  refine mm_istore_nL (ls2 := [mR 48, mI 0]) C (mm_dec dk_X1_keepPunched 1 rfl) (by decide) rfl ?_
  exact J2 (((12 - 0) : Int) + 1).toNat 0 ⟨by omega, by omega⟩ h i0 f0 (by first | exact fun j a b => absurd b (by omega) | exact mm_kf8_s w2_0 y23_0 (funext fun j => f2_.2 50 (by decide) j) (f2_.1 48 9 (by decide)) (f2_.2 49 (by decide) _) eh1) (by omega) (by omega)
set_option maxRecDepth 100000 in
set_option maxHeartbeats 4000000 in
theorem c_X1_keepLongest_q (l : Launch) (hl : l.stackTraces = false) (d : Nat) (hd : 1 ≤ d) (h : mH) (i0 : mm_inv h) (t0 : mm_al h 52 11 (-1)) : mm_Met l d yX1_keepLongest cX1_keepLongest 5 none [mR 48] h (mm_pv fun h2 => mm_inv h2 ∧ mm_fr [] [52] h h2 ∧ mm_kq8 h h2) mm_nx 0 0 := by
  refine mm_ofW (ls := [mR 48, mU, mU, mU, mU]) hl (by decide) rfl (Nat.le_of_ble_eq_true rfl) ?_
  intro x hxl C T hnm htb
  subst hxl
  have C1 := mm_OK_le (d' := d - 1 + 1) (by omega) C
  have f0 : mm_fr [] [52] h h := mm_fr_rf
  have zn8 : 0 ≤ h.1 48 8 ∧ h.1 48 8 ≤ 12 := i0.1 48 8
  have zm8 : 0 ≤ h.1 48 9 ∧ h.1 48 9 ≤ 500 := i0.1 48 9
  refine mm_iconst C (mm_dec dk_X1_keepLongest 0 rfl) ⟨by decide, by decide⟩ ?_
  have J2 : ∀ (n : Nat) (x2_1 : Int) (bx2_1 : 0 ≤ x2_1 ∧ x2_1 ≤ 12) (w2_0 : ∀ L, mm_S8 h L → mm_tb8r h h L (-1) → x2_1 ≤ L 0 0), (12 - x2_1 : Int) < n → mm_W x 0 0 2 [mR 48, mI x2_1, mU, mU, mU] [] h := by
    intro n
    induction n with
    | zero =>
      intro x2_1 bx2_1 w2_0 hm
      exfalso; omega
    | succ n ih2 =>
      intro x2_1 bx2_1 w2_0 hm2
      refine mm_iload_n C (mm_dec dk_X1_keepLongest 2 rfl) rfl ?_
      refine mm_aload_n C (mm_dec dk_X1_keepLongest 3 rfl) rfl ?_
      refine mm_geti C fl_X1_27 (mm_dec dk_X1_keepLongest 4 rfl) rfl rfl (Or.inl rfl) ?_
      have g1 : 0 ≤ (h.1 48 8) ∧ (h.1 48 8) ≤ 12 := i0.1 48 8
      have J28 : ∀ (w28_0 : ∀ L, mm_S8 h L → mm_tb8r h h L (-1) → x2_1 = L 0 0), mm_W x 0 0 28 [mR 48, mI x2_1, mU, mU, mU] [] h := by
        intro w28_0
        refine mm_iconst C (mm_dec dk_X1_keepLongest 16 rfl) ⟨by decide, by decide⟩ ?_
        refine mm_istore_nL (ls2 := [mR 48, mI x2_1, mI 0, mU, mU]) C (mm_dec dk_X1_keepLongest 17 rfl) (by decide) rfl ?_
        refine mm_iconst C (mm_dec dk_X1_keepLongest 18 rfl) ⟨by decide, by decide⟩ ?_
        have J32 : ∀ (n : Nat) (x32_1 : Int) (bx32_1 : 0 ≤ x32_1 ∧ x32_1 ≤ 12) (x32_2 : Int) (bx32_2 : 0 ≤ x32_2 ∧ x32_2 ≤ 500) (x32_3 : Int) (bx32_3 : 0 ≤ x32_3 ∧ x32_3 ≤ 12) (h32_ : mH) (i32_ : mm_inv h32_) (f32_ : mm_fr [] [52] h h32_) (w32_0 : mm_kl8 h h32_ x32_3 x32_2 x32_1) (w32_1 : x32_3 ≤ h.1 48 8), (12 - x32_3 : Int) < n → mm_W x 0 0 32 [mR 48, mI x32_1, mI x32_2, mI x32_3, mU] [] h32_ := by
          intro n
          induction n with
          | zero =>
            intro x32_1 bx32_1 x32_2 bx32_2 x32_3 bx32_3 h32_ i32_ f32_ w32_0 w32_1 hm
            exfalso; omega
          | succ n ih32 =>
            intro x32_1 bx32_1 x32_2 bx32_2 x32_3 bx32_3 h32_ i32_ f32_ w32_0 w32_1 hm32
            have ze8 : h32_.1 48 8 = h.1 48 8 := f32_.1 48 8 (by decide)
            have z53 : ∀ j, h32_.2.1 53 j = h.2.1 53 j := fun j => f32_.2 53 (by decide) j
            refine mm_iload_n C (mm_dec dk_X1_keepLongest 20 rfl) rfl ?_
            refine mm_aload_n C (mm_dec dk_X1_keepLongest 21 rfl) rfl ?_
            refine mm_geti C fl_X1_27 (mm_dec dk_X1_keepLongest 22 rfl) rfl rfl (Or.inl rfl) ?_
            have g2 : 0 ≤ (h32_.1 48 8) ∧ (h32_.1 48 8) ≤ 12 := i32_.1 48 8
            have J105 : ∀ (w105_0 : mm_kl8 h h32_ x32_3 x32_2 x32_1) (w105_1 : (h.1 48 8 ≤ x32_3 ∨ x32_1 ≤ 0)), mm_W x 0 0 105 [mU, mU, mU, mU, mU] [] h32_ := by
              intro w105_0 w105_1
              exact mm_vret C T (mm_dec dk_X1_keepLongest 63 rfl) (by decide : 0 ≤ 0) (by decide : 0 ≤ 0) ⟨rfl, ⟨i32_, f32_, by exact mm_kl8_e w105_0 w105_1 (by omega) (by omega)⟩⟩
            refine mm_icmp_ge (tgt := 105) C (mm_dec dk_X1_keepLongest 23 rfl) (by decide) (fun c37 => ?_) (fun c37 => ?_)
            · skip
              refine mm_fgt 0 ?_
              refine mm_fgt 1 ?_
              refine mm_fgt 2 ?_
              refine mm_fgt 3 ?_
              exact J105 (by exact w32_0) (by omega)
            · skip
              refine mm_iload_n C (mm_dec dk_X1_keepLongest 24 rfl) rfl ?_
              refine mm_if_le (tgt := 105) C (mm_dec dk_X1_keepLongest 25 rfl) (by decide) (fun c41 => ?_) (fun c41 => ?_)
              · skip
                refine mm_fgt 0 ?_
                refine mm_fgt 1 ?_
                refine mm_fgt 2 ?_
                refine mm_fgt 3 ?_
                exact J105 (by exact w32_0) (by omega)
              · skip
                refine mm_aload_n C (mm_dec dk_X1_keepLongest 26 rfl) rfl ?_
                refine mm_aload_n C (mm_dec dk_X1_keepLongest 27 rfl) rfl ?_
                refine mm_getr (t := 49) C fl_X1_9 (mm_dec dk_X1_keepLongest 28 rfl) rfl rfl (mm_ref i32_ rfl) ?_
                refine mm_iload_n C (mm_dec dk_X1_keepLongest 29 rfl) rfl ?_
                refine mm_iald C (mm_dec dk_X1_keepLongest 30 rfl) rfl (by omega) (by omega) ?_
                have g3 : 0 ≤ (h32_.2.1 49 x32_3) ∧ (h32_.2.1 49 x32_3) ≤ 19 := i32_.2.1 49 x32_3
                refine mm_iload_n C (mm_dec dk_X1_keepLongest 31 rfl) rfl ?_
                refine mm_cVi (rest := []) C1 ev_X1_103 (mm_dec dk_X1_keepLongest 32 rfl) (c_X1_firstPunch_q x.2.1 hl (d - 1) (by omega) h32_ i32_ (h32_.2.1 49 x32_3) x32_2 ⟨by omega, by omega⟩) rfl rfl (Nat.le_of_ble_eq_true rfl) ⟨by decide, by decide⟩ rfl (fun r52 h52c hp52 => ?_) (fun _ _ q => q.elim)
                obtain ⟨b52, z52, y52_0⟩ := hp52
                rw [z52]
                refine mm_istoreL (ls2 := [mR 48, mI x32_1, mI x32_2, mI x32_3, mI r52]) C (mm_dec dk_X1_keepLongest 33 rfl) (by decide) rfl ?_
                refine mm_iload C (mm_dec dk_X1_keepLongest 34 rfl) rfl ?_
                refine mm_iconst C (mm_dec dk_X1_keepLongest 35 rfl) ⟨by decide, by decide⟩ ?_
                have J99 : ∀ (x99_1 : Int) (bx99_1 : 0 ≤ x99_1 ∧ x99_1 ≤ 12) (x99_2 : Int) (bx99_2 : 0 ≤ x99_2 ∧ x99_2 ≤ 500) (h99_ : mH) (i99_ : mm_inv h99_) (f99_ : mm_fr [] [52] h h99_) (w99_0 : mm_kl8 h h99_ (x32_3 + 1) x99_2 x99_1), mm_W x 0 0 99 [mR 48, mI x99_1, mI x99_2, mI x32_3, mU] [] h99_ := by
                  intro x99_1 bx99_1 x99_2 bx99_2 h99_ i99_ f99_ w99_0
                  refine mm_iincL (ls2 := [mR 48, mI x99_1, mI x99_2, mI (x32_3 + 1), mU]) C (mm_dec dk_X1_keepLongest 61 rfl) rfl (by decide) ⟨by omega, by omega⟩ rfl ?_
                  refine mm_goto (tgt := 32) C (mm_dec dk_X1_keepLongest 62 rfl) (by decide) ?_
                  exact ih32 x99_1 ⟨by omega, by omega⟩ x99_2 ⟨by omega, by omega⟩ (x32_3 + 1) ⟨by omega, by omega⟩ h99_ i99_ f99_ (by first | exact mm_kl8_0 t0 w28_0 | exact w99_0) (by omega) (by omega)
                refine mm_icmp_eq (tgt := 99) C (mm_dec dk_X1_keepLongest 36 rfl) (by decide) (fun c60 => ?_) (fun c60 => ?_)
                · skip
                  refine mm_fgt 4 ?_
                  exact J99 x32_1 ⟨by omega, by omega⟩ x32_2 ⟨by omega, by omega⟩ h32_ i32_ f32_ (by first | exact mm_kl8_y w32_0 y52_0 (funext fun j => f32_.2 50 (by decide) j) (f32_.1 48 9 (by decide)) (f32_.2 49 (by decide) _) (z53 _) eh1 (by omega) (by omega) (by omega) (by omega) (by omega) | exact mm_kl8_n w32_0 y52_0 (funext fun j => f32_.2 50 (by decide) j) (f32_.1 48 9 (by decide)) (f32_.2 49 (by decide) _) (by rw [← z53]; omega) (by omega) (by omega) (by omega) (by omega))
                · skip
                  refine mm_aload_n C (mm_dec dk_X1_keepLongest 37 rfl) rfl ?_
                  refine mm_getr (t := 53) C fl_X1_24 (mm_dec dk_X1_keepLongest 38 rfl) rfl rfl (mm_ref i32_ rfl) ?_
                  refine mm_iload_n C (mm_dec dk_X1_keepLongest 39 rfl) rfl ?_
                  refine mm_iconst C (mm_dec dk_X1_keepLongest 40 rfl) ⟨by decide, by decide⟩ ?_
                  refine mm_iadd C (mm_dec dk_X1_keepLongest 41 rfl) ⟨by omega, by omega⟩ ?_
                  refine mm_bipush C (mm_dec dk_X1_keepLongest 42 rfl) ⟨by decide, by decide⟩ ?_
                  refine mm_imul C (mm_dec dk_X1_keepLongest 43 rfl) ⟨by omega, by omega⟩ ?_
                  refine mm_iload_n C (mm_dec dk_X1_keepLongest 44 rfl) rfl ?_
                  refine mm_iadd C (mm_dec dk_X1_keepLongest 45 rfl) ⟨by omega, by omega⟩ ?_
                  refine mm_iconst C (mm_dec dk_X1_keepLongest 46 rfl) ⟨by decide, by decide⟩ ?_
                  refine mm_isub C (mm_dec dk_X1_keepLongest 47 rfl) ⟨by omega, by omega⟩ ?_
                  refine mm_iald C (mm_dec dk_X1_keepLongest 48 rfl) rfl (by omega) (by omega) ?_
                  have g5 : -1 ≤ (h32_.2.1 53 ((((x32_3 + 1) * 13) + x32_1) - 1)) ∧ (h32_.2.1 53 ((((x32_3 + 1) * 13) + x32_1) - 1)) ≤ 500 := i32_.2.1 53 ((((x32_3 + 1) * 13) + x32_1) - 1)
                  refine mm_iload C (mm_dec dk_X1_keepLongest 49 rfl) rfl ?_
                  refine mm_icmp_le (tgt := 99) C (mm_dec dk_X1_keepLongest 50 rfl) (by decide) (fun c80 => ?_) (fun c80 => ?_)
                  · skip
                    refine mm_fgt 4 ?_
                    exact J99 x32_1 ⟨by omega, by omega⟩ x32_2 ⟨by omega, by omega⟩ h32_ i32_ f32_ (by first | exact mm_kl8_y w32_0 y52_0 (funext fun j => f32_.2 50 (by decide) j) (f32_.1 48 9 (by decide)) (f32_.2 49 (by decide) _) (z53 _) eh1 (by omega) (by omega) (by omega) (by omega) (by omega) | exact mm_kl8_n w32_0 y52_0 (funext fun j => f32_.2 50 (by decide) j) (f32_.1 48 9 (by decide)) (f32_.2 49 (by decide) _) (by rw [← z53]; omega) (by omega) (by omega) (by omega) (by omega))
                  · skip
                    refine mm_aload_n C (mm_dec dk_X1_keepLongest 51 rfl) rfl ?_
                    refine mm_getr (t := 52) C fl_X1_21 (mm_dec dk_X1_keepLongest 52 rfl) rfl rfl (mm_ref i32_ rfl) ?_
                    refine mm_iload_n C (mm_dec dk_X1_keepLongest 53 rfl) rfl ?_
                    refine mm_iload C (mm_dec dk_X1_keepLongest 54 rfl) rfl ?_
                    refine mm_iast C (mm_dec dk_X1_keepLongest 55 rfl) rfl (by omega) (by omega) ?_
                    have i1 : mm_inv (mm_pa h32_ 52 x32_3 r52) := mm_inv_pa i32_ (show -1 ≤ r52 ∧ r52 ≤ 499 from ⟨by omega, by omega⟩)
                    have f1 : mm_fr [] [52] h (mm_pa h32_ 52 x32_3 r52) := mm_fr_pa f32_ (by decide)
                    obtain ⟨h1, eh1⟩ : ∃ z, z = mm_pa h32_ 52 x32_3 r52 := ⟨_, rfl⟩
                    rw [← eh1] at i1 f1 ⊢
                    have qh1_6 : h1.1 48 8 = h32_.1 48 8 := by rw [eh1]; rfl
                    refine mm_iload C (mm_dec dk_X1_keepLongest 56 rfl) rfl ?_
                    refine mm_iconst C (mm_dec dk_X1_keepLongest 57 rfl) ⟨by decide, by decide⟩ ?_
                    refine mm_iadd C (mm_dec dk_X1_keepLongest 58 rfl) ⟨by omega, by omega⟩ ?_
                    refine mm_istore_nL (ls2 := [mR 48, mI x32_1, mI (r52 + 1), mI x32_3, mI r52]) C (mm_dec dk_X1_keepLongest 59 rfl) (by decide) rfl ?_
                    refine mm_iincL (ls2 := [mR 48, mI (x32_1 + (-1)), mI (r52 + 1), mI x32_3, mI r52]) C (mm_dec dk_X1_keepLongest 60 rfl) rfl (by decide) ⟨by omega, by omega⟩ rfl ?_
                    refine mm_fgt 4 ?_
                    exact J99 (x32_1 + (-1)) ⟨by omega, by omega⟩ (r52 + 1) ⟨by omega, by omega⟩ h1 i1 f1 (by first | exact mm_kl8_y w32_0 y52_0 (funext fun j => f32_.2 50 (by decide) j) (f32_.1 48 9 (by decide)) (f32_.2 49 (by decide) _) (z53 _) eh1 (by omega) (by omega) (by omega) (by omega) (by omega) | exact mm_kl8_n w32_0 y52_0 (funext fun j => f32_.2 50 (by decide) j) (f32_.1 48 9 (by decide)) (f32_.2 49 (by decide) _) (by rw [← z53]; omega) (by omega) (by omega) (by omega) (by omega))
        refine mm_istore_nL (ls2 := [mR 48, mI x2_1, mI 0, mI 0, mU]) C (mm_dec dk_X1_keepLongest 19 rfl) (by decide) rfl ?_
        exact J32 (((12 - 0) : Int) + 1).toNat x2_1 ⟨by omega, by omega⟩ 0 ⟨by omega, by omega⟩ 0 ⟨by omega, by omega⟩ h i0 f0 (by first | exact mm_kl8_0 t0 w28_0 | exact w99_0) (by omega) (by omega)
      refine mm_icmp_ge (tgt := 28) C (mm_dec dk_X1_keepLongest 5 rfl) (by decide) (fun c7 => ?_) (fun c7 => ?_)
      · skip
        exact J28 (by exact fun L S T => mm_wn_e S T (w2_0 L S T) (by omega) (by omega) (by omega) zn8 zm8.1)
      · skip
        refine mm_aload_n C (mm_dec dk_X1_keepLongest 6 rfl) rfl ?_
        refine mm_getr (t := 53) C fl_X1_24 (mm_dec dk_X1_keepLongest 7 rfl) rfl rfl (mm_ref i0 rfl) ?_
        refine mm_iload_n C (mm_dec dk_X1_keepLongest 8 rfl) rfl ?_
        refine mm_iconst C (mm_dec dk_X1_keepLongest 9 rfl) ⟨by decide, by decide⟩ ?_
        refine mm_iadd C (mm_dec dk_X1_keepLongest 10 rfl) ⟨by omega, by omega⟩ ?_
        refine mm_iald C (mm_dec dk_X1_keepLongest 11 rfl) rfl (by omega) (by omega) ?_
        have g7 : -1 ≤ (h.2.1 53 (x2_1 + 1)) ∧ (h.2.1 53 (x2_1 + 1)) ≤ 500 := i0.2.1 53 (x2_1 + 1)
        refine mm_iconst C (mm_dec dk_X1_keepLongest 12 rfl) ⟨by decide, by decide⟩ ?_
        refine mm_icmp_eq (tgt := 28) C (mm_dec dk_X1_keepLongest 13 rfl) (by decide) (fun c19 => ?_) (fun c19 => ?_)
        · skip
          exact J28 (by exact fun L S T => mm_wn_e S T (w2_0 L S T) (by omega) (by omega) (by omega) zn8 zm8.1)
        · skip
          refine mm_iincL (ls2 := [mR 48, mI (x2_1 + 1), mU, mU, mU]) C (mm_dec dk_X1_keepLongest 14 rfl) rfl (by decide) ⟨by omega, by omega⟩ rfl ?_
          refine mm_goto (tgt := 2) C (mm_dec dk_X1_keepLongest 15 rfl) (by decide) ?_
          exact ih2 (x2_1 + 1) ⟨by omega, by omega⟩ (by first | exact fun L S _ => (mm_wn_0 S zn8.1 zm8.1).1 | exact fun L S T => mm_wn_s S T rfl (by omega) (by omega) (by omega) zn8.1 zm8.1) (by omega)
  refine mm_istore_nL (ls2 := [mR 48, mI 0, mU, mU, mU]) C (mm_dec dk_X1_keepLongest 1 rfl) (by decide) rfl ?_
  exact J2 (((12 - 0) : Int) + 1).toNat 0 ⟨by omega, by omega⟩ (by first | exact fun L S _ => (mm_wn_0 S zn8.1 zm8.1).1 | exact fun L S T => mm_wn_s S T rfl (by omega) (by omega) (by omega) zn8.1 zm8.1) (by omega)
set_option maxRecDepth 100000 in
set_option maxHeartbeats 4000000 in
theorem c_X2_fillRow_49_q (l : Launch) (hl : l.stackTraces = false) (d : Nat) (hd : 0 ≤ d) (h : mH) (i0 : mm_inv h) (p1 : Int) (p2 : Int) (bp1 : 0 ≤ p1 ∧ p1 ≤ 7) (bp2 : 0 ≤ p2 ∧ p2 ≤ 80) : mm_Met l d yX2_fillRow cX2_fillRow 7 (some .int) [mR 14, mI p1, mI p2, mR 49] h (mm_pi fun r h2 => (0 ≤ r ∧ r ≤ 12) ∧ mm_inv h2 ∧ mm_fr [] [49] h h2 ∧ mm_rb h2 49 0 r 0 19 ∧ mm_rw h2 49 (mm_rr (h.2.1 21) (mm_fk (h.2.1 21) p1) p1 p2) r ∧ r = h.2.1 19 p1) mm_nx 0 0 := by
  refine mm_ofW (ls := [mR 14, mI p1, mI p2, mR 49, mU, mU, mU]) hl (by decide) rfl (Nat.le_of_ble_eq_true rfl) ?_
  intro x hxl C T hnm htb
  subst hxl
  refine mm_rng (fun hr _ => ?_)
  have ap1 : -2147483648 ≤ p1 ∧ p1 < 2147483648 := mm_ok_at hr (i := 1) rfl
  have ap2 : -2147483648 ≤ p2 ∧ p2 < 2147483648 := mm_ok_at hr (i := 2) rfl
  have f0 : mm_fr [] [49] h h := mm_fr_rf
  refine mm_iload_n C (mm_dec dk_X2_fillRow 0 rfl) rfl ?_
  refine mm_istoreL (ls2 := [mR 14, mI p1, mI p2, mR 49, mI p2, mU, mU]) C (mm_dec dk_X2_fillRow 1 rfl) (by decide) rfl ?_
  refine mm_iconst C (mm_dec dk_X2_fillRow 2 rfl) ⟨by decide, by decide⟩ ?_
  have J6 : ∀ (n : Nat) (x6_4 : Int) (bx6_4 : 0 ≤ x6_4 ∧ x6_4 ≤ 80) (x6_5 : Int) (bx6_5 : 0 ≤ x6_5 ∧ x6_5 ≤ 12) (h6_ : mH) (i6_ : mm_inv h6_) (f6_ : mm_fr [] [49] h h6_) (w6_0 : mm_rb h6_ 49 0 x6_5 0 19) (w6_1 : mm_rw h6_ 49 (mm_rr (h.2.1 21) (mm_fk (h.2.1 21) p1) p1 p2) x6_5) (w6_2 : x6_4 = mm_dv p2 (mm_fn (mm_fk (h.2.1 21) p1) (x6_5).toNat)), (12 - x6_5 : Int) < n → mm_W x 0 0 6 [mR 14, mI p1, mU, mR 49, mI x6_4, mI x6_5, mU] [] h6_ := by
    intro n
    induction n with
    | zero =>
      intro x6_4 bx6_4 x6_5 bx6_5 h6_ i6_ f6_ w6_0 w6_1 w6_2 hm
      exfalso; omega
    | succ n ih6 =>
      intro x6_4 bx6_4 x6_5 bx6_5 h6_ i6_ f6_ w6_0 w6_1 w6_2 hm6
      refine mm_iload C (mm_dec dk_X2_fillRow 4 rfl) rfl ?_
      refine mm_aload_n C (mm_dec dk_X2_fillRow 5 rfl) rfl ?_
      refine mm_getr (t := 19) C fl_X2_25 (mm_dec dk_X2_fillRow 6 rfl) rfl rfl (mm_ref i6_ rfl) ?_
      refine mm_iload_n C (mm_dec dk_X2_fillRow 7 rfl) rfl ?_
      refine mm_iald C (mm_dec dk_X2_fillRow 8 rfl) rfl (by omega) (by omega) ?_
      have g1 : 0 ≤ (h6_.2.1 19 p1) ∧ (h6_.2.1 19 p1) ≤ 12 := i6_.2.1 19 p1
      refine mm_icmp_ge (tgt := 86) C (mm_dec dk_X2_fillRow 9 rfl) (by decide) (fun c14 => ?_) (fun c14 => ?_)
      · skip
        refine mm_aload_n C (mm_dec dk_X2_fillRow 53 rfl) rfl ?_
        refine mm_getr (t := 19) C fl_X2_25 (mm_dec dk_X2_fillRow 54 rfl) rfl rfl (mm_ref i6_ rfl) ?_
        refine mm_iload_n C (mm_dec dk_X2_fillRow 55 rfl) rfl ?_
        refine mm_iald C (mm_dec dk_X2_fillRow 56 rfl) rfl (by omega) (by omega) ?_
        exact mm_iret C T (mm_dec dk_X2_fillRow 57 rfl) (by decide : 0 ≤ 0) (by decide : 0 ≤ 0) ⟨_, rfl, ⟨⟨by omega, by omega⟩, i6_, f6_, by exact mm_rb_sub w6_0 (by omega) (by omega), by exact fun j a b => w6_1 j a (by omega), by first | rfl | exact f6_.2 19 (by decide) _⟩⟩
      · skip
        refine mm_iload_n C (mm_dec dk_X2_fillRow 10 rfl) rfl ?_
        refine mm_bipush C (mm_dec dk_X2_fillRow 11 rfl) ⟨by decide, by decide⟩ ?_
        refine mm_imul C (mm_dec dk_X2_fillRow 12 rfl) ⟨by omega, by omega⟩ ?_
        refine mm_iload C (mm_dec dk_X2_fillRow 13 rfl) rfl ?_
        refine mm_iadd C (mm_dec dk_X2_fillRow 14 rfl) ⟨by omega, by omega⟩ ?_
        refine mm_iconst C (mm_dec dk_X2_fillRow 15 rfl) ⟨by decide, by decide⟩ ?_
        refine mm_imul C (mm_dec dk_X2_fillRow 16 rfl) ⟨by omega, by omega⟩ ?_
        refine mm_istoreL (ls2 := [mR 14, mI p1, mU, mR 49, mI x6_4, mI x6_5, mI (((p1 * 12) + x6_5) * 3)]) C (mm_dec dk_X2_fillRow 17 rfl) (by decide) rfl ?_
        have za : h6_.2.1 21 (((p1 * 12) + x6_5) * 3) = h.2.1 21 (36 * p1 + 3 * x6_5) := by rw [f6_.2 21 (by decide), show ((p1 * 12) + x6_5) * 3 = 36 * p1 + 3 * x6_5 by omega]
        have zb : h6_.2.1 21 (((p1 * 12) + x6_5) * 3 + 1) = h.2.1 21 (36 * p1 + 3 * x6_5 + 1) := by rw [f6_.2 21 (by decide), show ((p1 * 12) + x6_5) * 3 + 1 = 36 * p1 + 3 * x6_5 + 1 by omega]
        refine mm_aload_n C (mm_dec dk_X2_fillRow 18 rfl) rfl ?_
        refine mm_iload C (mm_dec dk_X2_fillRow 19 rfl) rfl ?_
        refine mm_aload_n C (mm_dec dk_X2_fillRow 20 rfl) rfl ?_
        refine mm_getr (t := 21) C fl_X2_31 (mm_dec dk_X2_fillRow 21 rfl) rfl rfl (mm_ref i6_ rfl) ?_
        refine mm_iload C (mm_dec dk_X2_fillRow 22 rfl) rfl ?_
        refine mm_iald C (mm_dec dk_X2_fillRow 23 rfl) rfl (by omega) (by omega) ?_
        have g2 : 0 ≤ (h6_.2.1 21 (((p1 * 12) + x6_5) * 3)) ∧ (h6_.2.1 21 (((p1 * 12) + x6_5) * 3)) ≤ 19 := i6_.2.1 21 (((p1 * 12) + x6_5) * 3)
        refine mm_iast C (mm_dec dk_X2_fillRow 24 rfl) rfl (by omega) (by omega) ?_
        have i1 : mm_inv (mm_pa h6_ 49 x6_5 (h6_.2.1 21 (((p1 * 12) + x6_5) * 3))) := mm_inv_pa i6_ (show 0 ≤ (h6_.2.1 21 (((p1 * 12) + x6_5) * 3)) ∧ (h6_.2.1 21 (((p1 * 12) + x6_5) * 3)) ≤ 19 from ⟨by omega, by omega⟩)
        have f1 : mm_fr [] [49] h (mm_pa h6_ 49 x6_5 (h6_.2.1 21 (((p1 * 12) + x6_5) * 3))) := mm_fr_pa f6_ (by decide)
        obtain ⟨h1, eh1⟩ : ∃ z, z = mm_pa h6_ 49 x6_5 (h6_.2.1 21 (((p1 * 12) + x6_5) * 3)) := ⟨_, rfl⟩
        rw [← eh1] at i1 f1 ⊢
        have zc : h1.2.1 21 (((p1 * 12) + x6_5) * 3) = h6_.2.1 21 (((p1 * 12) + x6_5) * 3) := mm_sm_pa 21 eh1 (by decide) _
        have zd : h1.2.1 21 (((p1 * 12) + x6_5) * 3 + 1) = h6_.2.1 21 (((p1 * 12) + x6_5) * 3 + 1) := mm_sm_pa 21 eh1 (by decide) _
        refine mm_aload_n C (mm_dec dk_X2_fillRow 25 rfl) rfl ?_
        refine mm_getr (t := 21) C fl_X2_31 (mm_dec dk_X2_fillRow 26 rfl) rfl rfl (mm_ref i1 rfl) ?_
        refine mm_iload C (mm_dec dk_X2_fillRow 27 rfl) rfl ?_
        refine mm_iconst C (mm_dec dk_X2_fillRow 28 rfl) ⟨by decide, by decide⟩ ?_
        refine mm_iadd C (mm_dec dk_X2_fillRow 29 rfl) ⟨by omega, by omega⟩ ?_
        refine mm_iald C (mm_dec dk_X2_fillRow 30 rfl) rfl (by omega) (by omega) ?_
        have g3 : 0 ≤ (h1.2.1 21 ((((p1 * 12) + x6_5) * 3) + 1)) ∧ (h1.2.1 21 ((((p1 * 12) + x6_5) * 3) + 1)) ≤ 19 := i1.2.1 21 ((((p1 * 12) + x6_5) * 3) + 1)
        refine mm_aload_n C (mm_dec dk_X2_fillRow 31 rfl) rfl ?_
        refine mm_getr (t := 21) C fl_X2_31 (mm_dec dk_X2_fillRow 32 rfl) rfl rfl (mm_ref i1 rfl) ?_
        refine mm_iload C (mm_dec dk_X2_fillRow 33 rfl) rfl ?_
        refine mm_iald C (mm_dec dk_X2_fillRow 34 rfl) rfl (by omega) (by omega) ?_
        have g4 : 0 ≤ (h1.2.1 21 (((p1 * 12) + x6_5) * 3)) ∧ (h1.2.1 21 (((p1 * 12) + x6_5) * 3)) ≤ 19 := i1.2.1 21 (((p1 * 12) + x6_5) * 3)
        have J80 : ∀ (x80_4 : Int) (bx80_4 : 0 ≤ x80_4 ∧ x80_4 ≤ 80) (h80_ : mH) (i80_ : mm_inv h80_) (f80_ : mm_fr [] [49] h h80_) (w80_0 : mm_rb h80_ 49 0 (x6_5 + 1) 0 19) (w80_1 : mm_rw h80_ 49 (mm_rr (h.2.1 21) (mm_fk (h.2.1 21) p1) p1 p2) (x6_5 + 1)) (w80_2 : x80_4 = mm_dv p2 (mm_fn (mm_fk (h.2.1 21) p1) (x6_5 + 1).toNat)), mm_W x 0 0 80 [mR 14, mI p1, mU, mR 49, mI x80_4, mI x6_5, mU] [] h80_ := by
          intro x80_4 bx80_4 h80_ i80_ f80_ w80_0 w80_1 w80_2
          refine mm_iincL (ls2 := [mR 14, mI p1, mU, mR 49, mI x80_4, mI (x6_5 + 1), mU]) C (mm_dec dk_X2_fillRow 51 rfl) rfl (by decide) ⟨by omega, by omega⟩ rfl ?_
          refine mm_goto (tgt := 6) C (mm_dec dk_X2_fillRow 52 rfl) (by decide) ?_
          exact ih6 x80_4 ⟨by omega, by omega⟩ (x6_5 + 1) ⟨by omega, by omega⟩ h80_ i80_ f80_ (by first | exact mm_rb_nil (by omega) | exact w80_0) (by first | exact mm_rw_0 | exact w80_1) (by first | rfl | exact w80_2) (by omega)
        refine mm_icmp_eq (tgt := 80) C (mm_dec dk_X2_fillRow 35 rfl) (by decide) (fun c55 => ?_) (fun c55 => ?_)
        · skip
          refine mm_fgt 6 ?_
          exact J80 x6_4 ⟨by omega, by omega⟩ h1 i1 f1 (by first | (rw [eh2]; exact mm_rb_put (by rw [eh1]; exact mm_rb_add w6_0 ⟨by omega, by omega⟩) ⟨by omega, by omega⟩) | (rw [eh1]; exact mm_rb_add w6_0 ⟨by omega, by omega⟩)) (by first | exact mm_rw_2 w6_1 eh1 eh2 (mm_rr_1 zk (congrArg (· % 3) w6_2) ze) | exact mm_rw_s w6_1 eh1 (mm_rr_0 (mm_fk_0 (by omega)) za)) (by first | exact mm_dg_1 w6_2 (by omega) zk | exact mm_dg_0 w6_2 (by omega) (mm_fk_0 (by omega)))
        · skip
          have zk : mm_fk (h.2.1 21) p1 x6_5 = 1 := mm_fk_1 (by omega)
          have ze : h1.2.1 21 (((p1 * 12) + x6_5) * 3 + (x6_4 % 3)) = h.2.1 21 (36 * p1 + 3 * x6_5 + (x6_4 % 3)) := (mm_sm_pa 21 eh1 (by decide) _).trans (by rw [f6_.2 21 (by decide), show ((p1 * 12) + x6_5) * 3 + (x6_4 % 3) = 36 * p1 + 3 * x6_5 + (x6_4 % 3) by omega])
          refine mm_aload_n C (mm_dec dk_X2_fillRow 36 rfl) rfl ?_
          refine mm_iload C (mm_dec dk_X2_fillRow 37 rfl) rfl ?_
          refine mm_aload_n C (mm_dec dk_X2_fillRow 38 rfl) rfl ?_
          refine mm_getr (t := 21) C fl_X2_31 (mm_dec dk_X2_fillRow 39 rfl) rfl rfl (mm_ref i1 rfl) ?_
          refine mm_iload C (mm_dec dk_X2_fillRow 40 rfl) rfl ?_
          refine mm_iload C (mm_dec dk_X2_fillRow 41 rfl) rfl ?_
          refine mm_iconst C (mm_dec dk_X2_fillRow 42 rfl) ⟨by decide, by decide⟩ ?_
          refine mm_irem C (mm_dec dk_X2_fillRow 43 rfl) (by omega) (by omega) ?_
          refine mm_iadd C (mm_dec dk_X2_fillRow 44 rfl) ⟨by omega, by omega⟩ ?_
          refine mm_iald C (mm_dec dk_X2_fillRow 45 rfl) rfl (by omega) (by omega) ?_
          have g5 : 0 ≤ (h1.2.1 21 ((((p1 * 12) + x6_5) * 3) + (x6_4 % 3))) ∧ (h1.2.1 21 ((((p1 * 12) + x6_5) * 3) + (x6_4 % 3))) ≤ 19 := i1.2.1 21 ((((p1 * 12) + x6_5) * 3) + (x6_4 % 3))
          refine mm_iast C (mm_dec dk_X2_fillRow 46 rfl) rfl (by omega) (by omega) ?_
          have i2 : mm_inv (mm_pa h1 49 x6_5 (h1.2.1 21 ((((p1 * 12) + x6_5) * 3) + (x6_4 % 3)))) := mm_inv_pa i1 (show 0 ≤ (h1.2.1 21 ((((p1 * 12) + x6_5) * 3) + (x6_4 % 3))) ∧ (h1.2.1 21 ((((p1 * 12) + x6_5) * 3) + (x6_4 % 3))) ≤ 19 from ⟨by omega, by omega⟩)
          have f2 : mm_fr [] [49] h (mm_pa h1 49 x6_5 (h1.2.1 21 ((((p1 * 12) + x6_5) * 3) + (x6_4 % 3)))) := mm_fr_pa f1 (by decide)
          obtain ⟨h2, eh2⟩ : ∃ z, z = mm_pa h1 49 x6_5 (h1.2.1 21 ((((p1 * 12) + x6_5) * 3) + (x6_4 % 3))) := ⟨_, rfl⟩
          rw [← eh2] at i2 f2 ⊢
          refine mm_iload C (mm_dec dk_X2_fillRow 47 rfl) rfl ?_
          refine mm_iconst C (mm_dec dk_X2_fillRow 48 rfl) ⟨by decide, by decide⟩ ?_
          refine mm_idiv C (mm_dec dk_X2_fillRow 49 rfl) ⟨by omega, by omega⟩ (by omega) ?_
          refine mm_istoreL (ls2 := [mR 14, mI p1, mU, mR 49, mI (x6_4 / 3), mI x6_5, mI (((p1 * 12) + x6_5) * 3)]) C (mm_dec dk_X2_fillRow 50 rfl) (by decide) rfl ?_
          refine mm_fgt 6 ?_
          exact J80 (x6_4 / 3) ⟨by omega, by omega⟩ h2 i2 f2 (by first | (rw [eh2]; exact mm_rb_put (by rw [eh1]; exact mm_rb_add w6_0 ⟨by omega, by omega⟩) ⟨by omega, by omega⟩) | (rw [eh1]; exact mm_rb_add w6_0 ⟨by omega, by omega⟩)) (by first | exact mm_rw_2 w6_1 eh1 eh2 (mm_rr_1 zk (congrArg (· % 3) w6_2) ze) | exact mm_rw_s w6_1 eh1 (mm_rr_0 (mm_fk_0 (by omega)) za)) (by first | exact mm_dg_1 w6_2 (by omega) zk | exact mm_dg_0 w6_2 (by omega) (mm_fk_0 (by omega)))
  refine mm_istoreL (ls2 := [mR 14, mI p1, mI p2, mR 49, mI p2, mI 0, mU]) C (mm_dec dk_X2_fillRow 3 rfl) (by decide) rfl ?_
  refine mm_fgt 2 ?_
  exact J6 (((12 - 0) : Int) + 1).toNat p2 ⟨by omega, by omega⟩ 0 ⟨by omega, by omega⟩ h i0 f0 (by first | exact mm_rb_nil (by omega) | exact w80_0) (by first | exact mm_rw_0 | exact w80_1) (by first | rfl | exact w80_2) (by omega)
set_option maxRecDepth 100000 in
set_option maxHeartbeats 4000000 in
theorem c_X9_fillPosts_49_q (l : Launch) (hl : l.stackTraces = false) (d : Nat) (hd : 1 ≤ d) (h : mH) (i0 : mm_inv h) (p1 : Int) (bp1 : 0 ≤ p1 ∧ p1 ≤ 39) : mm_Met l d yX9_fillPosts cX9_fillPosts 3 (some .int) [mR 22, mI p1, mR 49] h (mm_pi fun r h2 => (0 ≤ r ∧ r ≤ 12) ∧ mm_inv h2 ∧ mm_fr [] [49] h h2 ∧ mm_rb h2 49 0 r 0 19 ∧ mm_rw h2 49 (mm_rr (h.2.1 21) (mm_fk (h.2.1 21) (h.2.1 23 p1)) (h.2.1 23 p1) (h.2.1 25 p1)) r ∧ r = h.2.1 19 (h.2.1 23 p1)) mm_nx 0 0 := by
  refine mm_ofW (ls := [mR 22, mI p1, mR 49]) hl (by decide) rfl (Nat.le_of_ble_eq_true rfl) ?_
  intro x hxl C T hnm htb
  subst hxl
  have C1 := mm_OK_le (d' := d - 1 + 1) (by omega) C
  refine mm_rng (fun hr _ => ?_)
  have ap1 : -2147483648 ≤ p1 ∧ p1 < 2147483648 := mm_ok_at hr (i := 1) rfl
  have f0 : mm_fr [] [49] h h := mm_fr_rf
  refine mm_aload_n C (mm_dec dk_X9_fillPosts 0 rfl) rfl ?_
  refine mm_getr (t := 14) C fl_X9_41 (mm_dec dk_X9_fillPosts 1 rfl) rfl rfl (mm_ref i0 rfl) ?_
  refine mm_aload_n C (mm_dec dk_X9_fillPosts 2 rfl) rfl ?_
  refine mm_getr (t := 23) C fl_X9_9 (mm_dec dk_X9_fillPosts 3 rfl) rfl rfl (mm_ref i0 rfl) ?_
  refine mm_iload_n C (mm_dec dk_X9_fillPosts 4 rfl) rfl ?_
  refine mm_iald C (mm_dec dk_X9_fillPosts 5 rfl) rfl (by omega) (by omega) ?_
  have g1 : 0 ≤ (h.2.1 23 p1) ∧ (h.2.1 23 p1) ≤ 7 := i0.2.1 23 p1
  refine mm_aload_n C (mm_dec dk_X9_fillPosts 6 rfl) rfl ?_
  refine mm_getr (t := 25) C fl_X9_18 (mm_dec dk_X9_fillPosts 7 rfl) rfl rfl (mm_ref i0 rfl) ?_
  refine mm_iload_n C (mm_dec dk_X9_fillPosts 8 rfl) rfl ?_
  refine mm_iald C (mm_dec dk_X9_fillPosts 9 rfl) rfl (by omega) (by omega) ?_
  have g2 : 0 ≤ (h.2.1 25 p1) ∧ (h.2.1 25 p1) ≤ 80 := i0.2.1 25 p1
  refine mm_aload_n C (mm_dec dk_X9_fillPosts 10 rfl) rfl ?_
  refine mm_cVi (rest := []) C1 ev_X9_59 (mm_dec dk_X9_fillPosts 11 rfl) (c_X2_fillRow_49_q x.2.1 hl (d - 1) (by omega) h i0 (h.2.1 23 p1) (h.2.1 25 p1) ⟨by omega, by omega⟩ ⟨by omega, by omega⟩) rfl rfl (Nat.le_of_ble_eq_true rfl) ⟨by decide, by decide⟩ rfl (fun r17 h17c hp17 => ?_) (fun _ _ q => q.elim)
  obtain ⟨b17, i17c, g17c, y17_0, y17_1, y17_2⟩ := hp17
  have f17c : mm_fr [] [49] h h17c := mm_fr_tr f0 g17c (by decide +kernel)
  exact mm_iret C T (mm_dec dk_X9_fillPosts 12 rfl) (by decide : 0 ≤ 0) (by decide : 0 ≤ 0) ⟨_, rfl, ⟨⟨by omega, by omega⟩, i17c, f17c, by exact y17_0, by exact y17_1, by exact y17_2⟩⟩
/-! ===== the judging of both sides ===== -/
theorem mm_LS8_cg {L : Int → Int → Int} {w w' V V' : Int → Int} {n m : Int} (S : mm_LS8 L w V n m) (ew : ∀ j, 0 ≤ j → j < n → w' j = w j) (ev : ∀ j, 0 ≤ j → j < m → V' j = V j) : mm_LS8 L w' V' n m :=
  ⟨S.1, fun i p i0 i1 p0 p1 => by rw [ew i i0 i1, ev p p0 p1]; exact S.2 i p i0 i1 p0 p1⟩
theorem mm_ff8_cg {V V' : Int → Int} {m x f r : Int} (X : mm_ff8 V m x f r) (hf : 0 ≤ f) (e : ∀ j, 0 ≤ j → j < m → V' j = V j) : mm_ff8 V' m x f r := by
  rcases X with ⟨a, b⟩ | ⟨a, b, c, d⟩
  · exact Or.inl ⟨a, fun j x y => by rw [e j (by omega) y]; exact b j x y⟩
  · exact Or.inr ⟨a, b, by rw [e r (by omega) b]; exact c, fun j x y => by rw [e j (by omega) (by omega)]; exact d j x y⟩
theorem mm_kp8_w {L : Int → Int → Int} {w w' V V' : Int → Int} {m n : Int} {K : Int → Int} (ew : ∀ j, 0 ≤ j → j < n → w' j = w j) (ev : ∀ j, 0 ≤ j → j < m → V' j = V j) : ∀ (i : Nat) (f l : Int), (i : Int) ≤ n → mm_kp8 L w V m i f l K → 0 ≤ f ∧ mm_kp8 L w' V' m i f l K
  | 0, _, _, _, ⟨a, b⟩ => ⟨by omega, a, b⟩
  | i + 1, f, l, hi, ⟨f0, l0, a, b⟩ => by
    have z := mm_kp8_w ew ev i _ _ (by omega) a
    refine ⟨?_, f0, l0, z.2, ?_⟩
    · rcases b with ⟨c, _, d, e⟩ | ⟨c, r, q, ⟨x, y, _, u, v⟩ | ⟨_, _, u, v⟩⟩
      · omega
      · rcases q with ⟨q, _⟩ | ⟨q, _⟩ <;> omega
      · omega
    · rcases b with b | ⟨c, r, q, b⟩
      · exact Or.inl b
      · exact Or.inr ⟨c, r, by rw [ew (i : Int) (by omega) (by omega)]; exact mm_ff8_cg q z.1 ev, b⟩
/-- who is known to have been where, in order; and what the places are kept by -/
def mm_jj8 (fr : Prop) (w : Int → Int) (n : Int) (P : Int → Prop) (A U : Int → Int) (N : Nat) (X : (Int → Int) → Int → (Int → Int) → Prop) (K Q : Int → Int) (m : Int) : Prop := mm_so8 P A N m Q ∧ ((fr ∧ ∀ j, 0 ≤ j → j < n → mm_ff8 (fun j => U (Q j)) m (w j) 0 (K j)) ∨ (¬ fr ∧ X (fun j => U (Q j)) m K))
def mm_xX8 (w : Int → Int) (n : Int) (V : Int → Int) (m : Int) (K : Int → Int) : Prop := ∀ L, mm_LS8 L w V n m → ∃ f l, mm_kp8 L w V m n.toNat f l K
def mm_xY8 (w : Int → Int) (n : Int) (V : Int → Int) (m : Int) (K : Int → Int) : Prop := ∃ L, mm_LS8 L w V n m ∧ ∃ f l, mm_kp8 L w V m n.toNat f l K
theorem mm_so8_P {P : Int → Prop} {A : Int → Int} : ∀ (i : Nat) (m : Int) (Q : Int → Int), mm_so8 P A i m Q → ∀ j, 0 ≤ j → j < m → P (Q j)
  | 0, m, _, h, j, j0, j1 => by
    have h' : m = 0 := h
    omega
  | i + 1, m, Q, h, j, j0, j1 => by
    rcases h with ⟨p, Q0, d, q, p0, pm, x1, x2, x3, _⟩ | ⟨_, d⟩
    · by_cases c : j < q
      · rw [x1 j j0 c]; exact mm_so8_P i (m - 1) Q0 d j j0 (by omega)
      · by_cases g : j = q
        · rw [g, x2]; exact p
        · have u := x3 (j - 1) (by omega) (by omega)
          rw [show j - 1 + 1 = j by omega] at u
          rw [u]; exact mm_so8_P i (m - 1) Q0 d (j - 1) (by omega) (by omega)
    · exact mm_so8_P i m Q d j j0 j1
theorem mm_jj8_eq {fr fr' : Prop} {w w' : Int → Int} {n n' : Int} {P P' : Int → Prop} {A A' U U' : Int → Int} {N N' : Nat} {K K' Q Q' : Int → Int} {m m' : Int} (X : mm_jj8 fr w n P A U N (mm_xX8 w n) K Q m) (Y : mm_jj8 fr' w' n' P' A' U' N' (mm_xY8 w' n') K' Q' m') (ef : fr ↔ fr') (en : n' = n) (eN : N' = N) (n0 : 0 ≤ n) (ew : ∀ j, 0 ≤ j → j < n → w' j = w j) (eP : ∀ e, 0 ≤ e → e < (N : Int) → (P e ↔ P' e)) (eA : ∀ e, 0 ≤ e → e < (N : Int) → A' e = A e) (eU : ∀ e, 0 ≤ e → e < (N : Int) → P e → U' e = U e) : m' = m ∧ (∀ j, 0 ≤ j → j < m → Q' j = Q j ∧ 0 ≤ Q j ∧ Q j < N) ∧ ∀ j, 0 ≤ j → j < n → K' j = K j ∧ -1 ≤ K j ∧ K j < m := by
  subst en eN
  obtain ⟨S, X⟩ := X
  obtain ⟨T, Y⟩ := Y
  have z := mm_so8_un _ _ _ _ _ S T eP eA
  have g := mm_so8_rg _ _ _ S
  obtain ⟨z1, z2⟩ := z
  subst z1
  have ev : ∀ j, 0 ≤ j → j < m → U' (Q' j) = U (Q j) := fun j a b => by rw [z2 j a b]; exact eU _ (g.2.2 j a b).1 (g.2.2 j a b).2 (mm_so8_P _ _ _ S j a b)
  refine ⟨rfl, fun j a b => ⟨z2 j a b, g.2.2 j a b⟩, ?_⟩
  rcases X with ⟨a, X⟩ | ⟨a, X⟩ <;> rcases Y with ⟨b, Y⟩ | ⟨b, Y⟩
  · intro j j0 j1
    have x := X j j0 j1
    have y := Y j j0 j1
    rw [ew j j0 j1] at y
    refine ⟨(mm_ff8_un x y (by omega) ev).symm, ?_⟩
    rcases x with ⟨x, _⟩ | ⟨x1, x2, _⟩ <;> omega
  · exact absurd (ef.mp a) b
  · exact absurd (ef.mpr b) a
  · obtain ⟨L, LS, f', l', y⟩ := Y
    have LS' : mm_LS8 L w (fun j => U (Q j)) n' m := mm_LS8_cg LS (fun j a b => (ew j a b).symm) (fun j a b => (ev j a b).symm)
    obtain ⟨f, l, x⟩ := X L LS'
    have u := mm_kp8_un ew ev n'.toNat _ _ _ _ (by omega) x y
    have kb : ∀ (i : Nat) (f l : Int), mm_kp8 L w (fun j => U (Q j)) m i f l K → ∀ j, 0 ≤ j → j < (i : Int) → -1 ≤ K j ∧ K j < m := by
      intro i
      induction i with
      | zero => intro _ _ _ j a b; omega
      | succ i ih =>
        rintro f l ⟨f0, l0, a, b⟩ j j0 j1
        by_cases q : j = (i : Int)
        · have w0 : 0 ≤ f0 := by
            by_cases t : (i : Int) ≤ n'
            · exact (mm_kp8_w (w' := w) (V' := fun j => U (Q j)) (n := (i : Int)) (fun _ _ _ => rfl) (fun _ _ _ => rfl) i f0 l0 (by omega) a).1
            · exact (mm_kp8_w (w' := w) (V' := fun j => U (Q j)) (n := (i : Int)) (fun _ _ _ => rfl) (fun _ _ _ => rfl) i f0 l0 (by omega) a).1
          rw [q]
          rcases b with ⟨c, d, _⟩ | ⟨c, r, t, ⟨x, y, d, _⟩ | ⟨_, d, _⟩⟩
          · omega
          · rcases t with ⟨t, _⟩ | ⟨t1, t2, _⟩ <;> omega
          · omega
        · exact ih f0 l0 a j j0 (by omega)
    exact fun j a b => ⟨u.2.2.2 j a (by omega), kb n'.toNat f l x j a (by omega)⟩
/-! the time of the latest event -/
def mm_tm8 (A : Int → Int) (P : Int → Prop) (n r : Int) : Prop := ∃ e, mm_lat P n e ∧ ((e = -1 ∧ r = -1) ∨ (e ≠ -1 ∧ r = A e))
theorem mm_tm8_un {A A' : Int → Int} {P P' : Int → Prop} {n n' r r' : Int} (X : mm_tm8 A P n r) (Y : mm_tm8 A' P' n' r') (hn : n' = n) (e : ∀ j, 0 ≤ j → j < n → (P j ↔ P' j)) (eA : ∀ j, 0 ≤ j → j < n → A' j = A j) : r' = r := by
  obtain ⟨x, x1, x2⟩ := X
  obtain ⟨y, y1, y2⟩ := Y
  have z := mm_lat_un x1 y1 hn e
  subst z
  rcases x2 with ⟨a, b⟩ | ⟨a, b⟩ <;> rcases y2 with ⟨c, d⟩ | ⟨c, d⟩
  · omega
  · omega
  · omega
  · rcases x1 with ⟨q, _⟩ | ⟨q1, q2, _⟩
    · omega
    · rw [d, b, eA x q1 q2]
def mm_sX8 (h : mH) (p k r : Int) : Prop := (h.2.1 27 p = -1 ∧ mm_tm8 (h.2.1 34) (mm_k1 h 0 p k) (h.1 30 6) r) ∨ (h.2.1 27 p ≠ -1 ∧ mm_tm8 (h.2.1 34) (mm_k1 h 2 (h.2.1 27 p) k) (h.1 30 6) r)
def mm_sY8 (h : mH) (p k r : Int) : Prop := ((h.2.1 88 p = -1 ∨ h.2.1 89 p ≤ 0) ∧ mm_tm8 (h.2.1 95) (mm_k2 h 0 p k) (h.1 66 40) r) ∨ (h.2.1 88 p ≠ -1 ∧ 0 < h.2.1 89 p ∧ mm_tm8 (h.2.1 95) (mm_k2 h 2 (h.2.1 90 (3 * h.2.1 88 p + h.2.1 89 p - 1)) k) (h.1 66 40) r)
/-- whoever runs ahead of p on both sides -/
def mm_aa8 (h : mH) : Prop := ∀ p, 0 ≤ p → p ≤ h.1 22 8 - 1 → (h.2.1 27 p = -1 ∧ (h.2.1 88 p = -1 ∨ h.2.1 89 p ≤ 0)) ∨ (h.2.1 27 p ≠ -1 ∧ h.2.1 88 p ≠ -1 ∧ 0 < h.2.1 89 p ∧ h.2.1 90 (3 * h.2.1 88 p + h.2.1 89 p - 1) = h.2.1 27 p)
def mm_jX8 (h : mH) (p k : Int) (K Q : Int → Int) (m : Int) : Prop := mm_jj8 (h.2.1 17 (h.2.1 23 p) ≠ 0) (mm_rX h p) (mm_nX h p) (mm_k1 h 1 p k) (h.2.1 34) (h.2.1 33) (h.1 30 6).toNat (mm_xX8 (mm_rX h p) (mm_nX h p)) K Q m
def mm_jY8 (h : mH) (p k : Int) (K Q : Int → Int) (m : Int) : Prop := mm_jj8 (h.2.1 83 (h.2.1 85 p) ≠ 0) (mm_rY h p) (mm_nY h p) (mm_k2 h 1 p k) (h.2.1 95) (h.2.1 94) (h.1 66 40).toNat (mm_xY8 (mm_rY h p) (mm_nY h p)) K Q m
def mm_vX8 (h : mH) (p q k r : Int) : Prop := ∃ (s : Int) (K Q T : Int → Int) (m : Int), mm_sX8 h p k s ∧ mm_jX8 h p k K Q m ∧ (∀ j, 0 ≤ j → j < m → T j = h.2.1 34 (Q j)) ∧ (((s = -1 ∨ K q = -1) ∧ r = -1) ∨ (s ≠ -1 ∧ K q ≠ -1 ∧ r = mm_w (T (K q) - s)))
def mm_vY8 (h : mH) (p q k r : Int) : Prop := ∃ (s : Int) (K Q : Int → Int) (m : Int), mm_sY8 h p k s ∧ mm_jY8 h p k K Q m ∧ (((s = -1 ∨ K q = -1) ∧ r = -1) ∨ (s ≠ -1 ∧ K q ≠ -1 ∧ r = mm_w (h.2.1 95 (Q (K q)) - s)))
theorem mm_sXY {h : mH} {p k s t : Int} (X : mm_sX8 h p k s) (Y : mm_sY8 h p k t) (aa : mm_aa8 h) (p0 : 0 ≤ p ∧ p < h.1 22 8) (en : h.1 66 40 = h.1 30 6) (eA : ∀ e, 0 ≤ e → e < h.1 30 6 → h.2.1 95 e = h.2.1 34 e) (eP : ∀ kd r e, 0 ≤ e → e < h.1 30 6 → (mm_k1 h kd r k e ↔ mm_k2 h kd r k e)) : t = s := by
  rcases aa p p0.1 (by omega) with ⟨a, b⟩ | ⟨a, b, c, d⟩ <;> rcases X with ⟨x, X⟩ | ⟨x, X⟩ <;> rcases Y with ⟨y, Y⟩ | ⟨y, y', Y⟩
  · exact mm_tm8_un X Y en (eP 0 p) eA
  · omega
  · exact absurd a x
  · exact absurd a x
  · exact absurd x a
  · exact absurd x a
  · omega
  · rw [d] at Y
    exact mm_tm8_un X Y en (eP 2 _) eA
theorem mm_split_eq {h : mH} {p q k r r' : Int} (X : mm_vX8 h p q k r) (Y : mm_vY8 h p q k r') (aa : mm_aa8 h) (p0 : 0 ≤ p ∧ p < h.1 22 8) (q0 : 0 ≤ q ∧ q < mm_nX h p) (en : h.1 66 40 = h.1 30 6) (n0 : 0 ≤ h.1 30 6) (eA : ∀ e, 0 ≤ e → e < h.1 30 6 → h.2.1 95 e = h.2.1 34 e) (eU : ∀ e, 0 ≤ e → e < h.1 30 6 → h.2.1 31 e = 1 → h.2.1 94 e = h.2.1 33 e) (eP : ∀ kd r e, 0 ≤ e → e < h.1 30 6 → (mm_k1 h kd r k e ↔ mm_k2 h kd r k e)) (enX : mm_nY h p = mm_nX h p) (ew : ∀ j, 0 ≤ j → j < mm_nX h p → mm_rY h p j = mm_rX h p j) (ef : h.2.1 17 (h.2.1 23 p) ≠ 0 ↔ h.2.1 83 (h.2.1 85 p) ≠ 0) : r' = r := by
  obtain ⟨s, K, Q, T, m, X1, X2, X3, X4⟩ := X
  obtain ⟨s', K', Q', m', Y1, Y2, Y4⟩ := Y
  have es := mm_sXY X1 Y1 aa p0 en eA eP
  subst es
  have N : ((h.1 30 6).toNat : Int) = h.1 30 6 := Int.toNat_of_nonneg n0
  obtain ⟨em, eQ, eK⟩ := mm_jj8_eq X2 Y2 ef enX (by rw [en]) (by omega) ew (fun e a b => eP 1 p e a (by omega)) (fun e a b => eA e a (by omega)) (fun e a b z => eU e a (by omega) z.1)
  have z := eK q q0.1 q0.2
  rw [z.1] at Y4
  rcases X4 with ⟨a, b⟩ | ⟨a, b, c⟩ <;> rcases Y4 with ⟨a', b'⟩ | ⟨a', b', c'⟩
  · omega
  · omega
  · omega
  · have u := eQ (K q) (by omega) z.2.2
    rw [c', c, X3 _ (by omega) z.2.2, u.1, eA _ u.2.1 (by omega)]
/-! ===== the class's card is the judging ===== -/
def mm_kz8 (h : mH) : Prop := ∀ L, mm_S8 h L → ∃ f l, mm_kp8 L (h.2.1 49) (h.2.1 50) (h.1 48 9) (h.1 48 8).toNat f l (h.2.1 52)
theorem mm_S8_cg {h a : mH} {L : Int → Int → Int} (S : mm_S8 h L) (e49 : ∀ j, a.2.1 49 j = h.2.1 49 j) (e50 : ∀ j, a.2.1 50 j = h.2.1 50 j) (n : a.1 48 8 = h.1 48 8) (m : a.1 48 9 = h.1 48 9) : mm_S8 a L := by
  unfold mm_S8 at S ⊢
  rw [n, m]
  exact mm_LS8_cg S (fun j _ _ => e49 j) (fun j _ _ => e50 j)
theorem mm_kz8_of {h a b : mH} (M : mm_mr8 h a (-1)) (K : mm_kq8 a b) (e49 : ∀ j, a.2.1 49 j = h.2.1 49 j) (e50 : ∀ j, a.2.1 50 j = h.2.1 50 j) (n : a.1 48 8 = h.1 48 8) (m : a.1 48 9 = h.1 48 9) (f49 : ∀ j, b.2.1 49 j = a.2.1 49 j) (f50 : ∀ j, b.2.1 50 j = a.2.1 50 j) (fn : b.1 48 8 = a.1 48 8) (fm : b.1 48 9 = a.1 48 9) : mm_kz8 b := fun L S => by
  have Sa : mm_S8 a L := mm_S8_cg S (fun j => (f49 j).symm) (fun j => (f50 j).symm) fn.symm fm.symm
  have Sh : mm_S8 h L := mm_S8_cg Sa (fun j => (e49 j).symm) (fun j => (e50 j).symm) n.symm m.symm
  have T : mm_tb8r a a L (-1) := fun i i0 i1 k k0 k1 => by
    have z := M.1 L Sh i i0 (by rw [← n]; exact i1) k k0 k1
    rw [m]; exact z
  have z := K L Sa T
  rw [show b.2.1 49 = a.2.1 49 from funext f49, show b.2.1 50 = a.2.1 50 from funext f50, fn, fm]
  exact z
theorem mm_kf8_cg {h a b : mH} {n : Int} (K : mm_kf8 h b n) (e49 : ∀ j, a.2.1 49 j = h.2.1 49 j) (e50 : ∀ j, a.2.1 50 j = h.2.1 50 j) (m : a.1 48 9 = h.1 48 9) : mm_kf8 a b n := fun j j0 j1 => by
  rw [e49, m]
  exact mm_ff8_cg (K j j0 j1) (by omega) (fun j _ _ => e50 j)
theorem mm_cl8_cg {h0 h1 h a : mH} {r k i : Int} (C : mm_cl8 h1 h r k i) (e : mm_k1 h1 = mm_k1 h0) (e33 : ∀ j, h1.2.1 33 j = h0.2.1 33 j) (e34 : ∀ j, h1.2.1 34 j = h0.2.1 34 j) (e50 : ∀ j, a.2.1 50 j = h.2.1 50 j) (e51 : ∀ j, a.2.1 51 j = h.2.1 51 j) (m : a.1 48 9 = h.1 48 9) : mm_cl8 h0 a r k i := by
  obtain ⟨Q, S, q⟩ := C
  refine ⟨Q, ?_, fun j j0 j1 => ?_⟩
  · rw [m, ← e, show h0.2.1 34 = h1.2.1 34 from (funext e34).symm]; exact S
  · rw [e50, e51, ← e33, ← e34]; exact q j j0 (by rw [← m]; exact j1)
def mm_cd8 (h h2 : mH) (p k : Int) : Prop := h2.1 48 8 = mm_nX h p ∧ mm_rw h2 49 (mm_rX h p) (mm_nX h p) ∧ mm_cl8 h h2 p k (h.1 30 6) ∧ ((h.2.1 17 (h.2.1 23 p) ≠ 0 ∧ mm_kf8 h2 h2 (h2.1 48 8)) ∨ (h.2.1 17 (h.2.1 23 p) = 0 ∧ mm_kz8 h2))
theorem mm_cd8_j {h h2 : mH} {p k : Int} (C : mm_cd8 h h2 p k) : ∃ Q : Int → Int, mm_jX8 h p k (h2.2.1 52) Q (h2.1 48 9) ∧ ∀ j, 0 ≤ j → j < h2.1 48 9 → h2.2.1 51 j = h.2.1 34 (Q j) := by
  obtain ⟨en, R, ⟨Q, S, q⟩, c⟩ := C
  refine ⟨Q, ⟨S, ?_⟩, fun j a b => (q j a b).2⟩
  rcases c with ⟨a, b⟩ | ⟨a, b⟩
  · refine Or.inl ⟨a, fun j j0 j1 => ?_⟩
    have z := b j j0 (by rw [en]; exact j1)
    rw [R j j0 j1] at z
    exact mm_ff8_cg z (by omega) (fun i i0 i1 => (q i i0 i1).1.symm)
  · refine Or.inr ⟨fun z => z a, fun L LS => ?_⟩
    have S2 : mm_S8 h2 L := by
      unfold mm_S8
      rw [en]
      exact mm_LS8_cg LS (fun j j0 j1 => R j j0 j1) (fun j j0 j1 => (q j j0 j1).1)
    obtain ⟨f, l, z⟩ := b L S2
    rw [en] at z
    refine ⟨f, l, ?_⟩
    by_cases n0 : 0 ≤ mm_nX h p
    · exact (mm_kp8_w (n := mm_nX h p) (fun j j0 j1 => (R j j0 j1).symm) (fun j j0 j1 => (q j j0 j1).1.symm) _ f l (by omega) z).2
    · exact (mm_kp8_w (n := 0) (fun j j0 j1 => absurd j1 (by omega)) (fun j j0 j1 => (q j j0 j1).1.symm) _ f l (by omega) z).2
theorem mm_tm8_cg {A A' : Int → Int} {P P' : Int → Prop} {n n' r : Int} (X : mm_tm8 A P n r) (eA : A' = A) (eP : P' = P) (en : n' = n) : mm_tm8 A' P' n' r := by rw [eA, eP, en]; exact X
theorem mm_sX8_fr {h a : mH} {p k r : Int} (X : mm_sX8 a p k r) (e : mm_k1 a = mm_k1 h) (e27 : ∀ j, a.2.1 27 j = h.2.1 27 j) (e34 : ∀ j, a.2.1 34 j = h.2.1 34 j) (n : a.1 30 6 = h.1 30 6) : mm_sX8 h p k r := by
  unfold mm_sX8 at X ⊢
  rw [e, e27, show a.2.1 34 = h.2.1 34 from funext e34, n] at X
  exact X
theorem mm_vX8_of {h h2 : mH} {p q k s r : Int} (C : mm_cd8 h h2 p k) (S : mm_sX8 h p k s) (e : ((s = -1 ∨ h2.2.1 52 q = -1) ∧ r = -1) ∨ (s ≠ -1 ∧ h2.2.1 52 q ≠ -1 ∧ r = mm_w (h2.2.1 51 (h2.2.1 52 q) - s))) : mm_vX8 h p q k r := by
  obtain ⟨Q, J, t⟩ := mm_cd8_j C
  exact ⟨s, h2.2.1 52, Q, h2.2.1 51, h2.1 48 9, S, J, t, e⟩

set_option maxRecDepth 100000 in
set_option maxHeartbeats 4000000 in
theorem c_X1_fill_q (l : Launch) (hl : l.stackTraces = false) (d : Nat) (hd : 2 ≤ d) (h : mH) (i0 : mm_inv h) (p1 : Int) (p2 : Int) (bp1 : 0 ≤ p1 ∧ p1 ≤ 39) : mm_Met l d yX1_fill cX1_fill 3 none [mR 48, mI p1, mI p2] h (mm_pv fun h2 => mm_inv h2 ∧ mm_fr [(48, 8), (48, 9)] [49, 50, 51, 52, 53] h h2 ∧ mm_cd8 h h2 p1 p2) mm_nx 0 0 := by
  refine mm_ofW (ls := [mR 48, mI p1, mI p2]) hl (by decide) rfl (Nat.le_of_ble_eq_true rfl) ?_
  intro x hxl C T hnm htb
  subst hxl
  have C1 := mm_OK_le (d' := d - 1 + 1) (by omega) C
  refine mm_rng (fun hr _ => ?_)
  have ap1 : -2147483648 ≤ p1 ∧ p1 < 2147483648 := mm_ok_at hr (i := 1) rfl
  have ap2 : -2147483648 ≤ p2 ∧ p2 < 2147483648 := mm_ok_at hr (i := 2) rfl
  have f0 : mm_fr [(48, 8), (48, 9)] [49, 50, 51, 52, 53] h h := mm_fr_rf
  refine mm_aload_n C (mm_dec dk_X1_fill 0 rfl) rfl ?_
  refine mm_aload_n C (mm_dec dk_X1_fill 1 rfl) rfl ?_
  refine mm_getr (t := 22) C fl_X1_38 (mm_dec dk_X1_fill 2 rfl) rfl rfl (mm_ref i0 rfl) ?_
  refine mm_iload_n C (mm_dec dk_X1_fill 3 rfl) rfl ?_
  refine mm_aload_n C (mm_dec dk_X1_fill 4 rfl) rfl ?_
  refine mm_getr (t := 49) C fl_X1_9 (mm_dec dk_X1_fill 5 rfl) rfl rfl (mm_ref i0 rfl) ?_
  refine mm_cVi (rest := [mR 48]) C1 ev_X1_46 (mm_dec dk_X1_fill 6 rfl) (c_X9_fillPosts_49_q x.2.1 hl (d - 1) (by omega) h i0 p1 ⟨by omega, by omega⟩) rfl rfl (Nat.le_of_ble_eq_true rfl) ⟨by decide, by decide⟩ rfl (fun r10 h10c hp10 => ?_) (fun _ _ q => q.elim)
  obtain ⟨b10, i10c, g10c, y10_0, y10_1, y10_2⟩ := hp10
  have f10c : mm_fr [(48, 8), (48, 9)] [49, 50, 51, 52, 53] h h10c := mm_fr_tr f0 g10c (by decide +kernel)
  refine mm_puti C fl_X1_27 (mm_dec dk_X1_fill 7 rfl) rfl rfl rfl (Or.inl ⟨rfl, rfl⟩) ?_
  have i2 : mm_inv (mm_pf h10c 48 8 r10) := mm_inv_pf i10c (show 0 ≤ r10 ∧ r10 ≤ 12 from ⟨by omega, by omega⟩) (by decide)
  have f2 : mm_fr [(48, 8), (48, 9)] [49, 50, 51, 52, 53] h (mm_pf h10c 48 8 r10) := mm_fr_pf f10c (by decide)
  obtain ⟨h2, eh2⟩ : ∃ z, z = mm_pf h10c 48 8 r10 := ⟨_, rfl⟩
  rw [← eh2] at i2 f2 ⊢
  have qh2 : h2.1 48 8 = r10 := by rw [eh2]; exact mm_pf_same _ _ _ _
  refine mm_aload_n C (mm_dec dk_X1_fill 8 rfl) rfl ?_
  refine mm_iload_n C (mm_dec dk_X1_fill 9 rfl) rfl ?_
  refine mm_iload_n C (mm_dec dk_X1_fill 10 rfl) rfl ?_
  have za_9 : mm_k1 h2 = mm_k1 h := mm_k1_fr f2 (by decide)
  refine mm_cVv (rest := []) C1 ev_X1_52 (mm_dec dk_X1_fill 11 rfl) (c_X1_collect_q x.2.1 hl (d - 1) (by omega) h2 i2 p1 p2 ⟨by omega, by omega⟩) rfl rfl (Nat.le_of_ble_eq_true rfl) ⟨by decide, by decide⟩ rfl (fun h19c hp19 => ?_) (fun _ _ q => q.elim)
  obtain ⟨i19c, g19c, y19_0⟩ := hp19
  have f19c : mm_fr [(48, 8), (48, 9)] [49, 50, 51, 52, 53] h h19c := mm_fr_tr f2 g19c (by decide +kernel)
  have q19c_3 : h19c.1 48 8 = h2.1 48 8 := g19c.1 48 8 (by decide)
  refine mm_aload_n C (mm_dec dk_X1_fill 12 rfl) rfl ?_
  refine mm_getr (t := 52) C fl_X1_21 (mm_dec dk_X1_fill 13 rfl) rfl rfl (mm_ref i19c rfl) ?_
  refine mm_iconst C (mm_dec dk_X1_fill 14 rfl) ⟨by decide, by decide⟩ ?_
  refine mm_cSv (rest := []) C1 es_X1_56 (mm_dec dk_X1_fill 15 rfl) (c_J7_fill_53178_52_q x.2.1 hl (d - 1) (by omega) h19c i19c (-1) ⟨by omega, by omega⟩) rfl (Nat.le_of_ble_eq_true rfl) ⟨by decide, by decide⟩ rfl (fun h27c hp27 => ?_) (fun _ _ q => q.elim)
  obtain ⟨i27c, g27c, y27_0⟩ := hp27
  have f27c : mm_fr [(48, 8), (48, 9)] [49, 50, 51, 52, 53] h h27c := mm_fr_tr f19c g27c (by decide +kernel)
  have q27c_5 : h27c.1 48 8 = h19c.1 48 8 := g27c.1 48 8 (by decide)
  have zc_49 : ∀ j, h27c.2.1 49 j = h10c.2.1 49 j := fun j => (g27c.2 49 (by decide) j).trans ((g19c.2 49 (by decide) j).trans (by rw [eh2]; rfl))
  have zc_n : h27c.1 48 8 = r10 := (g27c.1 48 8 (by decide)).trans ((g19c.1 48 8 (by decide)).trans (by rw [eh2]; exact mm_pf_same _ _ _ _))
  have zc_50 : ∀ j, h27c.2.1 50 j = h19c.2.1 50 j := fun j => g27c.2 50 (by decide) j
  have zc_51 : ∀ j, h27c.2.1 51 j = h19c.2.1 51 j := fun j => g27c.2 51 (by decide) j
  have zc_m : h27c.1 48 9 = h19c.1 48 9 := g27c.1 48 9 (by decide)
  have zcl : mm_cl8 h h27c p1 p2 (h.1 30 6) := mm_cl8_cg (by rw [← f2.1 30 6 (by decide)]; exact y19_0) za_9 (f2.2 33 (by decide)) (f2.2 34 (by decide)) zc_50 zc_51 zc_m
  have zrw : mm_rw h27c 49 (mm_rX h p1) r10 := mm_rw_sm y10_1 zc_49
  have zi : h27c.2.1 17 (h27c.2.1 23 p1) = h.2.1 17 (h.2.1 23 p1) := by rw [f27c.2 17 (by decide), f27c.2 23 (by decide)]
  refine mm_aload_n C (mm_dec dk_X1_fill 16 rfl) rfl ?_
  refine mm_getr (t := 22) C fl_X1_38 (mm_dec dk_X1_fill 17 rfl) rfl rfl (mm_ref i27c rfl) ?_
  refine mm_iload_n C (mm_dec dk_X1_fill 18 rfl) rfl ?_
  refine mm_cVi (rest := []) C1 ev_X1_62 (mm_dec dk_X1_fill 19 rfl) (c_X9_runsFree x.2.1 hl (d - 1) (by omega) h27c i27c p1 ⟨by omega, by omega⟩) rfl rfl (Nat.le_of_ble_eq_true rfl) ⟨by decide, by decide⟩ rfl (fun r35 h35c hp35 => ?_) (fun _ _ q => q.elim)
  obtain ⟨z35, y35⟩ := hp35
  rw [z35, y35]
  have g7 : 0 ≤ (h27c.2.1 17 (h27c.2.1 23 p1)) ∧ (h27c.2.1 17 (h27c.2.1 23 p1)) ≤ 1 := i27c.2.1 17 (h27c.2.1 23 p1)
  have g8 : 0 ≤ (h27c.2.1 23 p1) ∧ (h27c.2.1 23 p1) ≤ 7 := i27c.2.1 23 p1
  have J56 : ∀ (h56_ : mH) (i56_ : mm_inv h56_) (f56_ : mm_fr [(48, 8), (48, 9)] [49, 50, 51, 52, 53] h h56_) (w56_0 : mm_cd8 h h56_ p1 p2), mm_W x 0 0 56 [mU, mU, mU] [] h56_ := by
    intro h56_ i56_ f56_ w56_0
    exact mm_vret C T (mm_dec dk_X1_fill 28 rfl) (by decide : 0 ≤ 0) (by decide : 0 ≤ 0) ⟨rfl, ⟨i56_, f56_, by exact w56_0⟩⟩
  refine mm_if_eq (tgt := 48) C (mm_dec dk_X1_fill 20 rfl) (by decide) (fun c38 => ?_) (fun c38 => ?_)
  · skip
    refine mm_aload_n C (mm_dec dk_X1_fill 24 rfl) rfl ?_
    refine mm_cVv (rest := []) C1 ev_X1_69 (mm_dec dk_X1_fill 25 rfl) (c_X1_measureRests_q x.2.1 hl (d - 1) (by omega) h27c i27c ) rfl rfl (Nat.le_of_ble_eq_true rfl) ⟨by decide, by decide⟩ rfl (fun h49c hp49 => ?_) (fun _ _ q => q.elim)
    obtain ⟨i49c, g49c, y49_0⟩ := hp49
    have f49c : mm_fr [(48, 8), (48, 9)] [49, 50, 51, 52, 53] h h49c := mm_fr_tr f27c g49c (by decide +kernel)
    have q49c_10 : h49c.1 48 8 = h27c.1 48 8 := g49c.1 48 8 (by decide)
    refine mm_aload_n C (mm_dec dk_X1_fill 26 rfl) rfl ?_
    refine mm_cVv (rest := []) C1 ev_X1_72 (mm_dec dk_X1_fill 27 rfl) (c_X1_keepLongest_q x.2.1 hl (d - 1) (by omega) h49c i49c (by exact fun j a b => (g49c.2 52 (by decide) j).trans (y27_0 j a b))) rfl rfl (Nat.le_of_ble_eq_true rfl) ⟨by decide, by decide⟩ rfl (fun h53c hp53 => ?_) (fun _ _ q => q.elim)
    obtain ⟨i53c, g53c, y53_0⟩ := hp53
    have f53c : mm_fr [(48, 8), (48, 9)] [49, 50, 51, 52, 53] h h53c := mm_fr_tr f49c g53c (by decide +kernel)
    have q53c_12 : h53c.1 48 8 = h49c.1 48 8 := g53c.1 48 8 (by decide)
    refine mm_fgt 0 ?_
    refine mm_fgt 1 ?_
    refine mm_fgt 2 ?_
    exact J56 h53c i53c f53c (by first | exact zd | exact ⟨(g53c.1 48 8 (by decide)).trans ((g49c.1 48 8 (by decide)).trans (zc_n.trans y10_2)), by rw [show mm_nX h p1 = r10 from y10_2.symm]; exact mm_rw_sm zrw (fun j => (g53c.2 49 (by decide) j).trans (g49c.2 49 (by decide) j)), mm_cl8_cg zcl rfl (fun _ => rfl) (fun _ => rfl) (fun j => (g53c.2 50 (by decide) j).trans (g49c.2 50 (by decide) j)) (fun j => (g53c.2 51 (by decide) j).trans (g49c.2 51 (by decide) j)) ((g53c.1 48 9 (by decide)).trans (g49c.1 48 9 (by decide))), Or.inr ⟨by omega, mm_kz8_of y49_0 y53_0 (fun j => g49c.2 49 (by decide) j) (fun j => g49c.2 50 (by decide) j) (g49c.1 48 8 (by decide)) (g49c.1 48 9 (by decide)) (fun j => g53c.2 49 (by decide) j) (fun j => g53c.2 50 (by decide) j) (g53c.1 48 8 (by decide)) (g53c.1 48 9 (by decide))⟩⟩)
  · skip
    refine mm_aload_n C (mm_dec dk_X1_fill 21 rfl) rfl ?_
    refine mm_cVv (rest := []) C1 ev_X1_66 (mm_dec dk_X1_fill 22 rfl) (c_X1_keepPunched_q x.2.1 hl (d - 1) (by omega) h27c i27c ) rfl rfl (Nat.le_of_ble_eq_true rfl) ⟨by decide, by decide⟩ rfl (fun h42c hp42 => ?_) (fun _ _ q => q.elim)
    obtain ⟨i42c, g42c, y42_0⟩ := hp42
    have f42c : mm_fr [(48, 8), (48, 9)] [49, 50, 51, 52, 53] h h42c := mm_fr_tr f27c g42c (by decide +kernel)
    have q42c_14 : h42c.1 48 8 = h27c.1 48 8 := g42c.1 48 8 (by decide)
    have zd : mm_cd8 h h42c p1 p2 := ⟨(g42c.1 48 8 (by decide)).trans (zc_n.trans y10_2), by rw [show mm_nX h p1 = r10 from y10_2.symm]; exact mm_rw_sm zrw (fun j => g42c.2 49 (by decide) j), mm_cl8_cg zcl rfl (fun _ => rfl) (fun _ => rfl) (fun j => g42c.2 50 (by decide) j) (fun j => g42c.2 51 (by decide) j) (g42c.1 48 9 (by decide)), Or.inl ⟨by omega, by rw [g42c.1 48 8 (by decide)]; exact mm_kf8_cg y42_0 (fun j => g42c.2 49 (by decide) j) (fun j => g42c.2 50 (by decide) j) (g42c.1 48 9 (by decide))⟩⟩
    refine mm_goto (tgt := 56) C (mm_dec dk_X1_fill 23 rfl) (by decide) ?_
    refine mm_fgt 0 ?_
    refine mm_fgt 1 ?_
    refine mm_fgt 2 ?_
    exact J56 h42c i42c f42c (by first | exact zd | exact ⟨(g53c.1 48 8 (by decide)).trans ((g49c.1 48 8 (by decide)).trans (zc_n.trans y10_2)), by rw [show mm_nX h p1 = r10 from y10_2.symm]; exact mm_rw_sm zrw (fun j => (g53c.2 49 (by decide) j).trans (g49c.2 49 (by decide) j)), mm_cl8_cg zcl rfl (fun _ => rfl) (fun _ => rfl) (fun j => (g53c.2 50 (by decide) j).trans (g49c.2 50 (by decide) j)) (fun j => (g53c.2 51 (by decide) j).trans (g49c.2 51 (by decide) j)) ((g53c.1 48 9 (by decide)).trans (g49c.1 48 9 (by decide))), Or.inr ⟨by omega, mm_kz8_of y49_0 y53_0 (fun j => g49c.2 49 (by decide) j) (fun j => g49c.2 50 (by decide) j) (g49c.1 48 8 (by decide)) (g49c.1 48 9 (by decide)) (fun j => g53c.2 49 (by decide) j) (fun j => g53c.2 50 (by decide) j) (g53c.1 48 8 (by decide)) (g53c.1 48 9 (by decide))⟩⟩)
set_option maxRecDepth 100000 in
set_option maxHeartbeats 4000000 in
theorem c_X1_isKept_q (l : Launch) (hl : l.stackTraces = false) (d : Nat) (hd : 0 ≤ d) (h : mH) (i0 : mm_inv h) (p1 : Int) (bp1 : 0 ≤ p1 ∧ p1 ≤ 11) : mm_Met l d yX1_isKept cX1_isKept 2 (some .boolean) [mR 48, mI p1] h (mm_pi fun r h2 => (0 ≤ r ∧ r ≤ 1) ∧ h2 = h ∧ ((r = 1 ∧ h.2.1 52 p1 ≠ -1) ∨ (r = 0 ∧ h.2.1 52 p1 = -1))) mm_nx 0 0 := by
  refine mm_ofW (ls := [mR 48, mI p1]) hl (by decide) rfl (Nat.le_of_ble_eq_true rfl) ?_
  intro x hxl C T hnm htb
  subst hxl
  refine mm_rng (fun hr _ => ?_)
  have ap1 : -2147483648 ≤ p1 ∧ p1 < 2147483648 := mm_ok_at hr (i := 1) rfl
  have f0 : mm_fr [] [] h h := mm_fr_rf
  refine mm_aload_n C (mm_dec dk_X1_isKept 0 rfl) rfl ?_
  refine mm_getr (t := 52) C fl_X1_21 (mm_dec dk_X1_isKept 1 rfl) rfl rfl (mm_ref i0 rfl) ?_
  refine mm_iload_n C (mm_dec dk_X1_isKept 2 rfl) rfl ?_
  refine mm_iald C (mm_dec dk_X1_isKept 3 rfl) rfl (by omega) (by omega) ?_
  have g1 : -1 ≤ (h.2.1 52 p1) ∧ (h.2.1 52 p1) ≤ 499 := i0.2.1 52 p1
  refine mm_iconst C (mm_dec dk_X1_isKept 4 rfl) ⟨by decide, by decide⟩ ?_
  have J15 : ∀ (s15_0 : Int) (bs15_0 : 0 ≤ s15_0 ∧ s15_0 ≤ 1) (w15_0 : ((s15_0 = 1 ∧ h.2.1 52 p1 ≠ -1) ∨ (s15_0 = 0 ∧ h.2.1 52 p1 = -1))) (vs15_0 : ((h.2.1 52 p1) = (-1) ∧ s15_0 = 0) ∨ ((h.2.1 52 p1) ≠ (-1) ∧ s15_0 = 1)), mm_W x 0 0 15 [mU, mU] [mI s15_0] h := by
    intro s15_0 bs15_0 w15_0 vs15_0
    exact mm_zret C T (mm_dec dk_X1_isKept 9 rfl) (by decide : 0 ≤ 0) (by decide : 0 ≤ 0) (by omega) ⟨_, rfl, ⟨⟨by omega, by omega⟩, rfl, by omega⟩⟩
  refine mm_icmp_eq (tgt := 14) C (mm_dec dk_X1_isKept 5 rfl) (by decide) (fun c7 => ?_) (fun c7 => ?_)
  · skip
    refine mm_iconst C (mm_dec dk_X1_isKept 8 rfl) ⟨by decide, by decide⟩ ?_
    refine mm_fgt 0 ?_
    refine mm_fgt 1 ?_
    exact J15 0 ⟨by omega, by omega⟩ (by omega) (Or.inl ⟨by omega, rfl⟩)
  · skip
    refine mm_iconst C (mm_dec dk_X1_isKept 6 rfl) ⟨by decide, by decide⟩ ?_
    refine mm_goto (tgt := 15) C (mm_dec dk_X1_isKept 7 rfl) (by decide) ?_
    refine mm_fgt 0 ?_
    refine mm_fgt 1 ?_
    exact J15 1 ⟨by omega, by omega⟩ (by omega) (Or.inr (⟨by omega, rfl⟩))
set_option maxRecDepth 100000 in
set_option maxHeartbeats 4000000 in
theorem c_X1_timeOf_q (l : Launch) (hl : l.stackTraces = false) (d : Nat) (hd : 0 ≤ d) (h : mH) (i0 : mm_inv h) (p1 : Int) (bp1 : 0 ≤ p1 ∧ p1 ≤ 11) : mm_Met l d yX1_timeOf cX1_timeOf 2 (some .int) [mR 48, mI p1] h (mm_pi fun r h2 => (-2147483648 ≤ r ∧ r ≤ 2147483647) ∧ h2 = h ∧ ((h.2.1 52 p1 = -1 ∧ r = -1) ∨ (h.2.1 52 p1 ≠ -1 ∧ r = h.2.1 51 (h.2.1 52 p1)))) mm_nx 0 0 := by
  refine mm_ofW (ls := [mR 48, mI p1]) hl (by decide) rfl (Nat.le_of_ble_eq_true rfl) ?_
  intro x hxl C T hnm htb
  subst hxl
  refine mm_rng (fun hr _ => ?_)
  have ap1 : -2147483648 ≤ p1 ∧ p1 < 2147483648 := mm_ok_at hr (i := 1) rfl
  have f0 : mm_fr [] [] h h := mm_fr_rf
  refine mm_aload_n C (mm_dec dk_X1_timeOf 0 rfl) rfl ?_
  refine mm_getr (t := 52) C fl_X1_21 (mm_dec dk_X1_timeOf 1 rfl) rfl rfl (mm_ref i0 rfl) ?_
  refine mm_iload_n C (mm_dec dk_X1_timeOf 2 rfl) rfl ?_
  refine mm_iald C (mm_dec dk_X1_timeOf 3 rfl) rfl (by omega) (by omega) ?_
  have g1 : -1 ≤ (h.2.1 52 p1) ∧ (h.2.1 52 p1) ≤ 499 := i0.2.1 52 p1
  refine mm_iconst C (mm_dec dk_X1_timeOf 4 rfl) ⟨by decide, by decide⟩ ?_
  have J25 : ∀ (s25_0 : Int) (bs25_0 : -2147483648 ≤ s25_0 ∧ s25_0 ≤ 2147483647) (w25_0 : ((h.2.1 52 p1 = -1 ∧ s25_0 = -1) ∨ (h.2.1 52 p1 ≠ -1 ∧ s25_0 = h.2.1 51 (h.2.1 52 p1)))), mm_W x 0 0 25 [mU, mU] [mI s25_0] h := by
    intro s25_0 bs25_0 w25_0
    exact mm_iret C T (mm_dec dk_X1_timeOf 15 rfl) (by decide : 0 ≤ 0) (by decide : 0 ≤ 0) ⟨_, rfl, ⟨⟨by omega, by omega⟩, rfl, by omega⟩⟩
  refine mm_icmp_ne (tgt := 14) C (mm_dec dk_X1_timeOf 5 rfl) (by decide) (fun c7 => ?_) (fun c7 => ?_)
  · skip
    refine mm_aload_n C (mm_dec dk_X1_timeOf 8 rfl) rfl ?_
    refine mm_getr (t := 51) C fl_X1_18 (mm_dec dk_X1_timeOf 9 rfl) rfl rfl (mm_ref i0 rfl) ?_
    refine mm_aload_n C (mm_dec dk_X1_timeOf 10 rfl) rfl ?_
    refine mm_getr (t := 52) C fl_X1_21 (mm_dec dk_X1_timeOf 11 rfl) rfl rfl (mm_ref i0 rfl) ?_
    refine mm_iload_n C (mm_dec dk_X1_timeOf 12 rfl) rfl ?_
    refine mm_iald C (mm_dec dk_X1_timeOf 13 rfl) rfl (by omega) (by omega) ?_
    refine mm_iald C (mm_dec dk_X1_timeOf 14 rfl) rfl (by omega) (by omega) ?_
    have g2 : -2147483648 ≤ (h.2.1 51 (h.2.1 52 p1)) ∧ (h.2.1 51 (h.2.1 52 p1)) ≤ 2147483647 := i0.2.1 51 (h.2.1 52 p1)
    refine mm_fgt 0 ?_
    refine mm_fgt 1 ?_
    exact J25 (h.2.1 51 (h.2.1 52 p1)) ⟨by omega, by omega⟩ (by omega)
  · skip
    refine mm_iconst C (mm_dec dk_X1_timeOf 6 rfl) ⟨by decide, by decide⟩ ?_
    refine mm_goto (tgt := 25) C (mm_dec dk_X1_timeOf 7 rfl) (by decide) ?_
    refine mm_fgt 0 ?_
    refine mm_fgt 1 ?_
    exact J25 (-1) ⟨by omega, by omega⟩ (by omega)
set_option maxRecDepth 100000 in
set_option maxHeartbeats 4000000 in
theorem c_X4_startOf_q (l : Launch) (hl : l.stackTraces = false) (d : Nat) (hd : 2 ≤ d) (h : mH) (i0 : mm_inv h) (p1 : Int) (p2 : Int) (bp1 : 0 ≤ p1 ∧ p1 ≤ 39) : mm_Met l d yX4_startOf cX4_startOf 4 (some .int) [mR 46, mI p1, mI p2] h (mm_pi fun r h2 => (-2147483648 ≤ r ∧ r ≤ 2147483647) ∧ h2 = h ∧ mm_sX8 h p1 p2 r) mm_nx 0 0 := by
  refine mm_ofW (ls := [mR 46, mI p1, mI p2, mU]) hl (by decide) rfl (Nat.le_of_ble_eq_true rfl) ?_
  intro x hxl C T hnm htb
  subst hxl
  have C1 := mm_OK_le (d' := d - 1 + 1) (by omega) C
  refine mm_rng (fun hr _ => ?_)
  have ap1 : -2147483648 ≤ p1 ∧ p1 < 2147483648 := mm_ok_at hr (i := 1) rfl
  have ap2 : -2147483648 ≤ p2 ∧ p2 < 2147483648 := mm_ok_at hr (i := 2) rfl
  have f0 : mm_fr [] [] h h := mm_fr_rf
  refine mm_aload_n C (mm_dec dk_X4_startOf 0 rfl) rfl ?_
  refine mm_getr (t := 22) C fl_X4_38 (mm_dec dk_X4_startOf 1 rfl) rfl rfl (mm_ref i0 rfl) ?_
  refine mm_iload_n C (mm_dec dk_X4_startOf 2 rfl) rfl ?_
  refine mm_cVi (rest := []) C1 ev_X4_134 (mm_dec dk_X4_startOf 3 rfl) (c_X9_aheadOf x.2.1 hl (d - 1) (by omega) h i0 p1 ⟨by omega, by omega⟩) rfl rfl (Nat.le_of_ble_eq_true rfl) ⟨by decide, by decide⟩ rfl (fun r5 h5c hp5 => ?_) (fun _ _ q => q.elim)
  obtain ⟨z5, y5⟩ := hp5
  rw [z5, y5]
  have g2 : -1 ≤ (h.2.1 27 p1) ∧ (h.2.1 27 p1) ≤ 39 := i0.2.1 27 p1
  refine mm_istore_nL (ls2 := [mR 46, mI p1, mI p2, mI (h.2.1 27 p1)]) C (mm_dec dk_X4_startOf 4 rfl) (by decide) rfl ?_
  refine mm_aload_n C (mm_dec dk_X4_startOf 5 rfl) rfl ?_
  refine mm_getr (t := 30) C fl_X4_42 (mm_dec dk_X4_startOf 6 rfl) rfl rfl (mm_ref i0 rfl) ?_
  refine mm_iload_n C (mm_dec dk_X4_startOf 7 rfl) rfl ?_
  refine mm_iconst C (mm_dec dk_X4_startOf 8 rfl) ⟨by decide, by decide⟩ ?_
  have J41 : ∀ (s41_1 : Int) (bs41_1 : -1 ≤ s41_1 ∧ s41_1 ≤ 499) (w41_0 : ((h.2.1 27 p1 = -1 ∧ mm_lat (mm_k1 h 0 p1 p2) (h.1 30 6) s41_1) ∨ (h.2.1 27 p1 ≠ -1 ∧ mm_lat (mm_k1 h 2 (h.2.1 27 p1) p2) (h.1 30 6) s41_1))), mm_W x 0 0 41 [mU, mU, mU, mU] [mI s41_1, mR 30] h := by
    intro s41_1 bs41_1 w41_0
    refine mm_cVi (rest := []) C1 ev_X4_73 (mm_dec dk_X4_startOf 23 rfl) (c_X6_timeOf_q x.2.1 hl (d - 1) (by omega) h i0 s41_1 ⟨by omega, by omega⟩) rfl rfl (Nat.le_of_ble_eq_true rfl) ⟨by decide, by decide⟩ rfl (fun r41 h41c hp41 => ?_) (fun _ _ q => q.elim)
    obtain ⟨b41, z41, y41_0⟩ := hp41
    rw [z41]
    exact mm_iret C T (mm_dec dk_X4_startOf 24 rfl) (by decide : 0 ≤ 0) (by decide : 0 ≤ 0) ⟨_, rfl, ⟨⟨by omega, by omega⟩, rfl, by rcases w41_0 with ⟨a, b⟩ | ⟨a, b⟩; exact Or.inl ⟨a, _, b, by omega⟩; exact Or.inr ⟨a, _, b, by omega⟩⟩⟩
  refine mm_icmp_ne (tgt := 31) C (mm_dec dk_X4_startOf 9 rfl) (by decide) (fun c15 => ?_) (fun c15 => ?_)
  · skip
    refine mm_aload_n C (mm_dec dk_X4_startOf 17 rfl) rfl ?_
    refine mm_getr (t := 30) C fl_X4_42 (mm_dec dk_X4_startOf 18 rfl) rfl rfl (mm_ref i0 rfl) ?_
    refine mm_iconst C (mm_dec dk_X4_startOf 19 rfl) ⟨by decide, by decide⟩ ?_
    refine mm_iload_n C (mm_dec dk_X4_startOf 20 rfl) rfl ?_
    refine mm_iload_n C (mm_dec dk_X4_startOf 21 rfl) rfl ?_
    refine mm_cVi (rest := [mR 30]) C1 ev_X4_67 (mm_dec dk_X4_startOf 22 rfl) (c_X6_latest_q x.2.1 hl (d - 1) (by omega) h i0 2 (h.2.1 27 p1) p2 ⟨by omega, by omega⟩) rfl rfl (Nat.le_of_ble_eq_true rfl) ⟨by decide, by decide⟩ rfl (fun r38 h38c hp38 => ?_) (fun _ _ q => q.elim)
    obtain ⟨b38, z38, y38_0⟩ := hp38
    rw [z38]
    refine mm_fgt 0 ?_
    refine mm_fgt 1 ?_
    refine mm_fgt 2 ?_
    refine mm_fgt 3 ?_
    exact J41 r38 ⟨by omega, by omega⟩ (by first | exact Or.inl ⟨by omega, y25_0⟩ | exact Or.inr ⟨by omega, y38_0⟩)
  · skip
    refine mm_aload_n C (mm_dec dk_X4_startOf 10 rfl) rfl ?_
    refine mm_getr (t := 30) C fl_X4_42 (mm_dec dk_X4_startOf 11 rfl) rfl rfl (mm_ref i0 rfl) ?_
    refine mm_iconst C (mm_dec dk_X4_startOf 12 rfl) ⟨by decide, by decide⟩ ?_
    refine mm_iload_n C (mm_dec dk_X4_startOf 13 rfl) rfl ?_
    refine mm_iload_n C (mm_dec dk_X4_startOf 14 rfl) rfl ?_
    refine mm_cVi (rest := [mR 30]) C1 ev_X4_67 (mm_dec dk_X4_startOf 15 rfl) (c_X6_latest_q x.2.1 hl (d - 1) (by omega) h i0 0 p1 p2 ⟨by omega, by omega⟩) rfl rfl (Nat.le_of_ble_eq_true rfl) ⟨by decide, by decide⟩ rfl (fun r25 h25c hp25 => ?_) (fun _ _ q => q.elim)
    obtain ⟨b25, z25, y25_0⟩ := hp25
    rw [z25]
    refine mm_goto (tgt := 41) C (mm_dec dk_X4_startOf 16 rfl) (by decide) ?_
    refine mm_fgt 0 ?_
    refine mm_fgt 1 ?_
    refine mm_fgt 2 ?_
    refine mm_fgt 3 ?_
    exact J41 r25 ⟨by omega, by omega⟩ (by first | exact Or.inl ⟨by omega, y25_0⟩ | exact Or.inr ⟨by omega, y38_0⟩)
set_option maxRecDepth 100000 in
set_option maxHeartbeats 4000000 in
theorem c_X4_splitOf_q (l : Launch) (hl : l.stackTraces = false) (d : Nat) (hd : 3 ≤ d) (h : mH) (i0 : mm_inv h) (p1 : Int) (p2 : Int) (p3 : Int) (bp1 : 0 ≤ p1 ∧ p1 ≤ 39) (bp2 : 0 ≤ p2 ∧ p2 ≤ 11) : mm_Met l d yX4_splitOf cX4_splitOf 5 (some .int) [mR 46, mI p1, mI p2, mI p3] h (mm_pi fun r h2 => (-2147483648 ≤ r ∧ r ≤ 2147483647) ∧ mm_inv h2 ∧ mm_fr [(48, 8), (48, 9)] [49, 50, 51, 52, 53] h h2 ∧ mm_vX8 h p1 p2 p3 r) mm_nx 0 0 := by
  refine mm_ofW (ls := [mR 46, mI p1, mI p2, mI p3, mU]) hl (by decide) rfl (Nat.le_of_ble_eq_true rfl) ?_
  intro x hxl C T hnm htb
  subst hxl
  have C1 := mm_OK_le (d' := d - 1 + 1) (by omega) C
  refine mm_rng (fun hr _ => ?_)
  have ap1 : -2147483648 ≤ p1 ∧ p1 < 2147483648 := mm_ok_at hr (i := 1) rfl
  have ap2 : -2147483648 ≤ p2 ∧ p2 < 2147483648 := mm_ok_at hr (i := 2) rfl
  have ap3 : -2147483648 ≤ p3 ∧ p3 < 2147483648 := mm_ok_at hr (i := 3) rfl
  have f0 : mm_fr [(48, 8), (48, 9)] [49, 50, 51, 52, 53] h h := mm_fr_rf
  refine mm_aload_n C (mm_dec dk_X4_splitOf 0 rfl) rfl ?_
  refine mm_getr (t := 48) C fl_X4_55 (mm_dec dk_X4_splitOf 1 rfl) rfl rfl (mm_ref i0 rfl) ?_
  refine mm_iload_n C (mm_dec dk_X4_splitOf 2 rfl) rfl ?_
  refine mm_iload_n C (mm_dec dk_X4_splitOf 3 rfl) rfl ?_
  refine mm_cVv (rest := []) C1 ev_X4_59 (mm_dec dk_X4_splitOf 4 rfl) (c_X1_fill_q x.2.1 hl (d - 1) (by omega) h i0 p1 p3 ⟨by omega, by omega⟩) rfl rfl (Nat.le_of_ble_eq_true rfl) ⟨by decide, by decide⟩ rfl (fun h6c hp6 => ?_) (fun _ _ q => q.elim)
  obtain ⟨i6c, g6c, y6_0⟩ := hp6
  have f6c : mm_fr [(48, 8), (48, 9)] [49, 50, 51, 52, 53] h h6c := mm_fr_tr f0 g6c (by decide +kernel)
  refine mm_aload_n C (mm_dec dk_X4_splitOf 5 rfl) rfl ?_
  refine mm_iload_n C (mm_dec dk_X4_splitOf 6 rfl) rfl ?_
  refine mm_iload_n C (mm_dec dk_X4_splitOf 7 rfl) rfl ?_
  refine mm_cVi (rest := []) C1 ev_X4_63 (mm_dec dk_X4_splitOf 8 rfl) (c_X4_startOf_q x.2.1 hl (d - 1) (by omega) h6c i6c p1 p3 ⟨by omega, by omega⟩) rfl rfl (Nat.le_of_ble_eq_true rfl) ⟨by decide, by decide⟩ rfl (fun r12 h12c hp12 => ?_) (fun _ _ q => q.elim)
  obtain ⟨b12, z12, y12_0⟩ := hp12
  rw [z12]
  have zk9 : mm_k1 h6c = mm_k1 h := mm_k1_fr g6c (by decide)
  have zS : mm_sX8 h p1 p3 r12 := mm_sX8_fr y12_0 zk9 (g6c.2 27 (by decide)) (g6c.2 34 (by decide)) (g6c.1 30 6 (by decide))
  refine mm_istoreL (ls2 := [mR 46, mI p1, mI p2, mI p3, mI r12]) C (mm_dec dk_X4_splitOf 9 rfl) (by decide) rfl ?_
  refine mm_iload C (mm_dec dk_X4_splitOf 10 rfl) rfl ?_
  refine mm_iconst C (mm_dec dk_X4_splitOf 11 rfl) ⟨by decide, by decide⟩ ?_
  have J34 : ∀ (w34_0 : (r12 = -1 ∨ h6c.2.1 52 p2 = -1)), mm_W x 0 0 34 [mU, mU, mU, mU, mU] [] h6c := by
    intro w34_0
    refine mm_iconst C (mm_dec dk_X4_splitOf 18 rfl) ⟨by decide, by decide⟩ ?_
    exact mm_iret C T (mm_dec dk_X4_splitOf 19 rfl) (by decide : 0 ≤ 0) (by decide : 0 ≤ 0) ⟨_, rfl, ⟨⟨by omega, by omega⟩, i6c, f6c, by first | exact mm_vX8_of y6_0 zS (Or.inl ⟨by omega, by omega⟩) | exact mm_vX8_of y6_0 zS (Or.inr ⟨by omega, by omega, by rw [show h6c.2.1 51 (h6c.2.1 52 p2) = r41 by omega]⟩)⟩⟩
  refine mm_icmp_eq (tgt := 34) C (mm_dec dk_X4_splitOf 12 rfl) (by decide) (fun c20 => ?_) (fun c20 => ?_)
  · skip
    refine mm_fgt 0 ?_
    refine mm_fgt 1 ?_
    refine mm_fgt 2 ?_
    refine mm_fgt 3 ?_
    refine mm_fgt 4 ?_
    exact J34 (by omega)
  · skip
    refine mm_aload_n C (mm_dec dk_X4_splitOf 13 rfl) rfl ?_
    refine mm_getr (t := 48) C fl_X4_55 (mm_dec dk_X4_splitOf 14 rfl) rfl rfl (mm_ref i6c rfl) ?_
    refine mm_iload_n C (mm_dec dk_X4_splitOf 15 rfl) rfl ?_
    refine mm_cVi (rest := []) C1 ev_X4_105 (mm_dec dk_X4_splitOf 16 rfl) (c_X1_isKept_q x.2.1 hl (d - 1) (by omega) h6c i6c p2 ⟨by omega, by omega⟩) rfl rfl (Nat.le_of_ble_eq_true rfl) ⟨by decide, by decide⟩ rfl (fun r28 h28c hp28 => ?_) (fun _ _ q => q.elim)
    obtain ⟨b28, z28, y28_0⟩ := hp28
    rw [z28]
    refine mm_if_ne (tgt := 36) C (mm_dec dk_X4_splitOf 17 rfl) (by decide) (fun c31 => ?_) (fun c31 => ?_)
    · skip
      refine mm_aload_n C (mm_dec dk_X4_splitOf 20 rfl) rfl ?_
      refine mm_getr (t := 48) C fl_X4_55 (mm_dec dk_X4_splitOf 21 rfl) rfl rfl (mm_ref i6c rfl) ?_
      refine mm_iload_n C (mm_dec dk_X4_splitOf 22 rfl) rfl ?_
      refine mm_cVi (rest := []) C1 ev_X4_108 (mm_dec dk_X4_splitOf 23 rfl) (c_X1_timeOf_q x.2.1 hl (d - 1) (by omega) h6c i6c p2 ⟨by omega, by omega⟩) rfl rfl (Nat.le_of_ble_eq_true rfl) ⟨by decide, by decide⟩ rfl (fun r41 h41c hp41 => ?_) (fun _ _ q => q.elim)
      obtain ⟨b41, z41, y41_0⟩ := hp41
      rw [z41]
      refine mm_iload C (mm_dec dk_X4_splitOf 24 rfl) rfl ?_
      refine mm_isubw C (mm_dec dk_X4_splitOf 25 rfl) ?_
      have g5 : -2147483648 ≤ (mm_w (r41 - r12)) ∧ (mm_w (r41 - r12)) < 2147483648 := mm_w_rg _
      exact mm_iret C T (mm_dec dk_X4_splitOf 26 rfl) (by decide : 0 ≤ 0) (by decide : 0 ≤ 0) ⟨_, rfl, ⟨⟨by omega, by omega⟩, i6c, f6c, by first | exact mm_vX8_of y6_0 zS (Or.inl ⟨by omega, by omega⟩) | exact mm_vX8_of y6_0 zS (Or.inr ⟨by omega, by omega, by rw [show h6c.2.1 51 (h6c.2.1 52 p2) = r41 by omega]⟩)⟩⟩
    · skip
      refine mm_fgt 0 ?_
      refine mm_fgt 1 ?_
      refine mm_fgt 2 ?_
      refine mm_fgt 3 ?_
      refine mm_fgt 4 ?_
      exact J34 (by omega)
