/-! ===== the reference's judging over the heap ===== -/
def mm_ir8 (h h' : mH) (m a t : Int) : Prop := (∀ j, j < a → h'.2.1 98 j = h.2.1 98 j) ∧ (∀ j, a ≤ j → j < m → h'.2.1 98 (j + 1) = h.2.1 98 j ∧ t < h.2.1 95 (h.2.1 98 j))
theorem mm_ir8_0 {h : mH} {m t : Int} : mm_ir8 h h m m t := ⟨fun _ _ => rfl, fun j a b => by omega⟩
theorem mm_ir8_s {h h' h1 : mH} {m a t v : Int} (S : mm_ir8 h h' m a t) (e1 : h1 = mm_pa h' 98 a v) (hv : v = h'.2.1 98 (a - 1)) (ht : t < h'.2.1 95 (h'.2.1 98 (a - 1))) (e95 : ∀ j, h'.2.1 95 j = h.2.1 95 j) : mm_ir8 h h1 m (a + (-1)) t := by
  have z := S.1 (a - 1) (by omega)
  constructor
  · intro j hj
    rw [mm_pa_off e1 (by omega)]
    exact S.1 j (by omega)
  · intro j j0 j1
    by_cases q : j = a - 1
    · rw [mm_pa_at e1 (by omega), hv, q, ← z]
      exact ⟨rfl, by rw [← e95]; exact ht⟩
    · rw [mm_pa_off e1 (by omega)]
      exact S.2 j (by omega) j1
theorem mm_ir8_in {h h' h1 : mH} {m a t e : Int} {A : Int → Int} (S : mm_ir8 h h' m a t) (e1 : h1 = mm_pa h' 98 a e) (a0 : 0 ≤ a) (am : a ≤ m) (ht : a ≤ 0 ∨ h.2.1 95 (h.2.1 98 (a - 1)) ≤ t) (et : t = A e) (eA : ∀ j, h.2.1 95 j = A j) : mm_in8 A (h.2.1 98) m e (h1.2.1 98) := by
  refine ⟨a, a0, am, fun j _ y => by rw [mm_pa_off e1 (by omega)]; exact S.1 j y, mm_pa_at e1 rfl, fun j x y => by rw [mm_pa_off e1 (by omega)]; exact (S.2 j x y).1, ?_, fun j x y => by rw [← et, ← eA]; exact (S.2 j x y).2⟩
  by_cases q : a = 0
  · exact Or.inl q
  · exact Or.inr (by rw [← et, ← eA]; exact ht.resolve_left (by omega))
/-! the table -/
def mm_Lh (h : mH) : Int → Int → Int := fun i p => h.2.1 99 (501 * i + p)
def mm_Vh (h : mH) : Int → Int := fun j => h.2.1 94 (h.2.1 98 j)
def mm_cv8 (h0 h : mH) (i p v : Int) : Prop := ((h0.1 66 39 ≤ i ∨ h0.1 66 48 ≤ p) → v = 0) ∧ (i < h0.1 66 39 → p < h0.1 66 48 → h.2.1 99 (501 * (i + 1) + p) ≤ v ∧ h.2.1 99 (501 * i + p + 1) ≤ v ∧ (mm_Vh h0 p = h0.2.1 91 i → h.2.1 99 (501 * (i + 1) + p + 1) + 1 ≤ v) ∧ (v = h.2.1 99 (501 * (i + 1) + p) ∨ v = h.2.1 99 (501 * i + p + 1) ∨ (mm_Vh h0 p = h0.2.1 91 i ∧ v = h.2.1 99 (501 * (i + 1) + p + 1) + 1)))
def mm_ld8 (h0 h : mH) (t : Int) : Prop := ∀ a b, 0 ≤ a → a ≤ 12 → 0 ≤ b → b ≤ 500 → t ≤ 501 * a + b → mm_cv8 h0 h a b (h.2.1 99 (501 * a + b)) ∧ 0 ≤ h.2.1 99 (501 * a + b) ∧ h.2.1 99 (501 * a + b) ≤ 12 - a
theorem mm_ld8_b {h0 h : mH} {t a b k : Int} (S : mm_ld8 h0 h t) (e : k = 501 * a + b) (a0 : 0 ≤ a ∧ a ≤ 12) (b0 : 0 ≤ b ∧ b ≤ 500) (w : t ≤ 501 * a + b) : 0 ≤ h.2.1 99 k ∧ h.2.1 99 k ≤ 12 - a := by
  rw [e]; exact (S a b a0.1 a0.2 b0.1 b0.2 w).2
theorem mm_ld8_0 {h0 h : mH} {t : Int} (ht : 6513 ≤ t) : mm_ld8 h0 h t := fun a b a0 a1 b0 b1 w => by omega
theorem mm_ld8_s {h0 h h1 : mH} {t i p v : Int} (S : mm_ld8 h0 h (t + 1)) (e1 : h1 = mm_pa h 99 t v) (C : mm_cv8 h0 h i p v) (v0 : 0 ≤ v) (v1 : v ≤ 12 - i) (ht : t = 501 * i + p) (m1 : h0.1 66 48 ≤ 500) (hp : 0 ≤ p ∧ p ≤ 500) (hi : 0 ≤ i ∧ i ≤ 12) : mm_ld8 h0 h1 t := fun a b a0 a1 b0 b1 w => by
  have E : ∀ j, t < j → h1.2.1 99 j = h.2.1 99 j := fun j hj => mm_pa_off e1 (by omega)
  have key : ∀ v', mm_cv8 h0 h a b v' → t ≤ 501 * a + b → mm_cv8 h0 h1 a b v' := fun v' c _ => by
    refine ⟨c.1, fun x y => ?_⟩
    rw [E (501 * (a + 1) + b) (by omega), E (501 * a + b + 1) (by omega), E (501 * (a + 1) + b + 1) (by omega)]
    exact c.2 x y
  by_cases q : t = 501 * a + b
  · have ea : a = i := by omega
    have eb : b = p := by omega
    subst ea eb
    rw [mm_pa_at e1 q.symm]
    exact ⟨key v C w, v0, v1⟩
  · rw [E _ (by omega)]
    have z := S a b a0 a1 b0 b1 (by omega)
    exact ⟨key _ z.1 w, z.2⟩
theorem mm_ld8_LS {h0 h : mH} (S : mm_ld8 h0 h 0) (n1 : 0 ≤ h0.1 66 39 ∧ h0.1 66 39 ≤ 12) (m1 : 0 ≤ h0.1 66 48 ∧ h0.1 66 48 ≤ 500) : mm_LS8 (mm_Lh h) (h0.2.1 91) (mm_Vh h0) (h0.1 66 39) (h0.1 66 48) := by
  constructor
  · intro i p i0 p0 e i1 p1
    exact (S i p i0 (by omega) p0 (by omega) (by omega)).1.1 e
  · intro i p i0 i1 p0 p1
    have z := (S i p i0 (by omega) p0 (by omega) (by omega)).1.2 i1 p1
    unfold mm_Lh
    rw [show 501 * i + (p + 1) = 501 * i + p + 1 by omega, show 501 * (i + 1) + (p + 1) = 501 * (i + 1) + p + 1 by omega]
    exact z
/-! what is kept -/
def mm_ko8 (h0 hL h : mH) (i f l : Int) : Prop := mm_kp8 (mm_Lh hL) (h0.2.1 91) (mm_Vh h0) (h0.1 66 48) i.toNat f l (h.2.1 100) ∧ ∀ j, i ≤ j → j ≤ 11 → h.2.1 100 j = -1
theorem mm_ko8_0 {h0 hL h : mH} {x : Int} (A : ∀ j, 0 ≤ j → j ≤ 11 → h.2.1 100 j = -1) (e : x = hL.2.1 99 0) : mm_ko8 h0 hL h 0 0 x := ⟨⟨rfl, e⟩, fun j a b => A j a b⟩
theorem mm_ko8_y {h0 hL h h2 : mH} {i f l x r m v : Int} {V : Int → Int} (K : mm_ko8 h0 hL h i f l) (X : mm_ff8 V m x f r) (eV : V = mm_Vh h0) (em : m = h0.1 66 48) (ex : x = h0.2.1 91 i) (e2 : h2 = mm_pa h 100 i r) (hr : r ≠ -1) (ev : v = hL.2.1 99 (501 * (i + 1) + r + 1)) (hv : v + 1 = l) (l0 : 0 < l) (i0 : 0 ≤ i) : mm_ko8 h0 hL h2 (i + 1) (r + 1) (l + (-1)) := by
  subst eV em
  constructor
  · rw [show (i + 1).toNat = i.toNat + 1 by omega]
    refine ⟨f, l, mm_kp8_cg i.toNat f l K.1 (fun j a b => mm_pa_off e2 (by omega)), Or.inr ⟨l0, r, ?_, Or.inl ⟨hr, ?_, ?_, rfl, by omega⟩⟩⟩
    · rw [Int.toNat_of_nonneg i0, ← ex]; exact X
    · rw [Int.toNat_of_nonneg i0]
      unfold mm_Lh
      rw [show 501 * (i + 1) + (r + 1) = 501 * (i + 1) + r + 1 by omega, ← ev]
      omega
    · rw [Int.toNat_of_nonneg i0]; exact mm_pa_at e2 rfl
  · intro j a b
    rw [mm_pa_off e2 (by omega)]
    exact K.2 j (by omega) b
theorem mm_ko8_n {h0 hL h : mH} {i f l x r m v : Int} {V : Int → Int} (K : mm_ko8 h0 hL h i f l) (LS : mm_LS8 (mm_Lh hL) (h0.2.1 91) (mm_Vh h0) (h0.1 66 39) (h0.1 66 48)) (X : mm_ff8 V m x f r) (eV : V = mm_Vh h0) (em : m = h0.1 66 48) (ex : x = h0.2.1 91 i) (hr : r = -1 ∨ (v = hL.2.1 99 (501 * (i + 1) + r + 1) ∧ v + 1 ≠ l)) (l0 : 0 < l) (i0 : 0 ≤ i ∧ i < h0.1 66 39) (n1 : h0.1 66 39 ≤ 12) (m0 : 0 ≤ h0.1 66 48) : mm_ko8 h0 hL h (i + 1) f l := by
  subst eV em
  constructor
  · rw [show (i + 1).toNat = i.toNat + 1 by omega]
    refine ⟨f, l, K.1, Or.inr ⟨l0, r, ?_, Or.inr ⟨?_, ?_, rfl, rfl⟩⟩⟩
    · rw [Int.toNat_of_nonneg i0.1, ← ex]; exact X
    · rcases hr with hr | ⟨a, b⟩
      · exact Or.inl hr
      · by_cases q : r = -1
        · exact Or.inl q
        · refine Or.inr ?_
          have g := mm_kp8_rg LS m0 (by omega) i.toNat f l (by omega) K.1
          rw [Int.toNat_of_nonneg i0.1] at g ⊢
          have hrm : f ≤ r ∧ r < h0.1 66 48 ∧ mm_Vh h0 r = h0.2.1 91 i := by
            rcases X with ⟨c, _⟩ | ⟨c, d, e, _⟩
            · exact absurd c q
            · exact ⟨c, d, by rw [e, ex]⟩
          have y := (LS.2 i r i0.1 i0.2 (by omega) hrm.2.1).2.2.1 hrm.2.2
          have mono : ∀ (b : Nat) (p : Int), 0 ≤ p → p + b < h0.1 66 48 → mm_Lh hL i (p + b) ≤ mm_Lh hL i p := by
            intro b
            induction b with
            | zero => intro p _ _; rw [show p + ((0 : Nat) : Int) = p by omega]; exact Int.le_refl _
            | succ b ih =>
              intro p p0 p1
              have e1 := ih (p + 1) (by omega) (by omega)
              have e2 := (LS.2 i p i0.1 i0.2 p0 (by omega)).2.1
              rw [show p + ((b + 1 : Nat) : Int) = p + 1 + (b : Int) by omega]
              omega
          have u := mono (r - f).toNat f g.1 (by omega)
          rw [show f + ((r - f).toNat : Int) = r by omega] at u
          have vv : v = mm_Lh hL (i + 1) (r + 1) := by
            unfold mm_Lh
            rw [show 501 * (i + 1) + (r + 1) = 501 * (i + 1) + r + 1 by omega]; exact a
          omega
    · rw [Int.toNat_of_nonneg i0.1]; exact K.2 i (by omega) (by omega)
  · exact fun j a b => K.2 j (by omega) b
theorem mm_ko8_e {h0 hL h : mH} {i f l : Int} (K : mm_ko8 h0 hL h i f l) (LS : mm_LS8 (mm_Lh hL) (h0.2.1 91) (mm_Vh h0) (h0.1 66 39) (h0.1 66 48)) (e : h0.1 66 39 ≤ i ∨ l ≤ 0) (i0 : 0 ≤ i ∧ i ≤ h0.1 66 39) (n1 : h0.1 66 39 ≤ 12) : mm_xY8 (h0.2.1 91) (h0.1 66 39) (mm_Vh h0) (h0.1 66 48) (h.2.1 100) := by
  refine ⟨mm_Lh hL, LS, f, l, ?_⟩
  by_cases q : h0.1 66 39 ≤ i
  · rw [show (h0.1 66 39).toNat = i.toNat by omega]; exact K.1
  · have w := mm_kp8_ex (e.resolve_left q) (h0.1 66 39 - i).toNat i.toNat K.1 (fun j a b => K.2 j (by omega) (by omega))
    rw [show (h0.1 66 39).toNat = i.toNat + (h0.1 66 39 - i).toNat by omega]
    exact w
/-! all of the reference -/
theorem mm_xY8_cg {w w' V V' K K' : Int → Int} {n m : Int} (X : mm_xY8 w n V m K) (n0 : 0 ≤ n) (ew : ∀ j, 0 ≤ j → j < n → w' j = w j) (ev : ∀ j, 0 ≤ j → j < m → V' j = V j) (ek : ∀ j, 0 ≤ j → j < n → K' j = K j) : mm_xY8 w' n V' m K' := by
  obtain ⟨L, LS, f, l, k⟩ := X
  refine ⟨L, mm_LS8_cg LS ew ev, f, l, ?_⟩
  exact mm_kp8_cg _ _ _ (mm_kp8_w ew ev _ f l (by omega) k).2 (fun j a b => ek j a (by omega))
theorem mm_sY8_fr {h a : mH} {p k r : Int} (X : mm_sY8 a p k r) (e : mm_k2 a = mm_k2 h) (e88 : ∀ j, a.2.1 88 j = h.2.1 88 j) (e89 : ∀ j, a.2.1 89 j = h.2.1 89 j) (e90 : ∀ j, a.2.1 90 j = h.2.1 90 j) (e95 : ∀ j, a.2.1 95 j = h.2.1 95 j) (n : a.1 66 40 = h.1 66 40) : mm_sY8 h p k r := by
  unfold mm_sY8 at X ⊢
  rw [e, e88, e89, e90, show a.2.1 95 = h.2.1 95 from funext e95, n] at X
  exact X

/-! ===== counts of a judging ===== -/
/-- how many of the first n aren't kept -/
def mm_uk9 (K : Int → Int) : Nat → Int
  | 0 => 0
  | n + 1 => if K (n : Int) = -1 then mm_uk9 K n + 1 else mm_uk9 K n
theorem mm_uk9_y {K : Int → Int} {i s : Int} (w : s = mm_uk9 K i.toNat) (i0 : 0 ≤ i) (k : K i = -1) : s + 1 = mm_uk9 K (i + 1).toNat := by
  rw [show (i + 1).toNat = i.toNat + 1 by omega]
  show _ = if K (i.toNat : Int) = -1 then _ else _
  rw [Int.toNat_of_nonneg i0, if_pos k, w]
theorem mm_uk9_n {K : Int → Int} {i s : Int} (w : s = mm_uk9 K i.toNat) (i0 : 0 ≤ i) (k : K i ≠ -1) : s = mm_uk9 K (i + 1).toNat := by
  rw [show (i + 1).toNat = i.toNat + 1 by omega]
  show _ = if K (i.toNat : Int) = -1 then _ else _
  rw [Int.toNat_of_nonneg i0, if_neg k, w]
theorem mm_uk9_rg (K : Int → Int) : ∀ n : Nat, 0 ≤ mm_uk9 K n ∧ mm_uk9 K n ≤ n
  | 0 => ⟨Int.le_refl _, Int.le_refl _⟩
  | n + 1 => by
    have z := mm_uk9_rg K n
    show 0 ≤ (if K (n : Int) = -1 then mm_uk9 K n + 1 else mm_uk9 K n) ∧ (if K (n : Int) = -1 then mm_uk9 K n + 1 else mm_uk9 K n) ≤ _
    split <;> omega
theorem mm_uk9_cg {K K' : Int → Int} : ∀ n : Nat, (∀ j, 0 ≤ j → j < (n : Int) → K' j = K j) → mm_uk9 K' n = mm_uk9 K n
  | 0, _ => rfl
  | n + 1, e => by
    show (if K' (n : Int) = -1 then mm_uk9 K' n + 1 else mm_uk9 K' n) = (if K (n : Int) = -1 then mm_uk9 K n + 1 else mm_uk9 K n)
    rw [e (n : Int) (by omega) (by omega), mm_uk9_cg n (fun j a b => e j a (by omega))]
/-- whether x lies in the first n of w -/
def mm_ir9 (w : Int → Int) (x : Int) : Nat → Int
  | 0 => 0
  | n + 1 => if w (n : Int) = x then 1 else mm_ir9 w x n
theorem mm_ir9_0 {w : Int → Int} {x : Int} : ∀ n : Nat, (∀ j, 0 ≤ j → j < (n : Int) → w j ≠ x) → mm_ir9 w x n = 0
  | 0, _ => rfl
  | n + 1, e => by
    show (if w (n : Int) = x then 1 else mm_ir9 w x n) = 0
    rw [if_neg (e (n : Int) (by omega) (by omega)), mm_ir9_0 n (fun j a b => e j a (by omega))]
theorem mm_ir9_1 {w : Int → Int} {x j : Int} (j0 : 0 ≤ j) (e : w j = x) : ∀ n : Nat, j < (n : Int) → mm_ir9 w x n = 1
  | 0, h => by omega
  | n + 1, h => by
    show (if w (n : Int) = x then 1 else mm_ir9 w x n) = 1
    by_cases q : w (n : Int) = x
    · exact if_pos q
    · rw [if_neg q]
      exact mm_ir9_1 j0 e n (by
        by_cases z : j = (n : Int)
        · rw [← z] at q; exact absurd e q
        · omega)
theorem mm_ir9_cg {w w' : Int → Int} {x : Int} : ∀ n : Nat, (∀ j, 0 ≤ j → j < (n : Int) → w' j = w j) → mm_ir9 w' x n = mm_ir9 w x n
  | 0, _ => rfl
  | n + 1, e => by
    show (if w' (n : Int) = x then 1 else mm_ir9 w' x n) = (if w (n : Int) = x then 1 else mm_ir9 w x n)
    rw [e (n : Int) (by omega) (by omega), mm_ir9_cg n (fun j a b => e j a (by omega))]
theorem mm_ir9_s1 {w : Int → Int} {x i s : Int} (i0 : 0 ≤ i) (W : s = mm_ir9 w x i.toNat) (k : s ≠ 0 ∨ w i = x) (hs : s = 0 ∨ s = 1) : 1 = mm_ir9 w x (i + 1).toNat := by
  rw [show (i + 1).toNat = i.toNat + 1 by omega]
  show _ = if w (i.toNat : Int) = x then 1 else mm_ir9 w x i.toNat
  rw [Int.toNat_of_nonneg i0]
  split
  · rfl
  · rw [← W]
    rcases k with k | k
    · omega
    · contradiction
theorem mm_ir9_s0 {w : Int → Int} {x i s : Int} (i0 : 0 ≤ i) (W : s = mm_ir9 w x i.toNat) (k : w i ≠ x) (hs : s = 0) : 0 = mm_ir9 w x (i + 1).toNat := by
  rw [show (i + 1).toNat = i.toNat + 1 by omega]
  show _ = if w (i.toNat : Int) = x then 1 else mm_ir9 w x i.toNat
  rw [Int.toNat_of_nonneg i0, if_neg k, ← W, hs]
/-- how many of the first n of V lie outside of the row -/
def mm_wg9 (w : Int → Int) (m : Nat) (V : Int → Int) : Nat → Int
  | 0 => 0
  | n + 1 => if mm_ir9 w (V (n : Int)) m = 0 then mm_wg9 w m V n + 1 else mm_wg9 w m V n
theorem mm_wg9_y {w V : Int → Int} {m : Nat} {i s : Int} (W : s = mm_wg9 w m V i.toNat) (i0 : 0 ≤ i) (k : mm_ir9 w (V i) m = 0) : s + 1 = mm_wg9 w m V (i + 1).toNat := by
  rw [show (i + 1).toNat = i.toNat + 1 by omega]
  show _ = if mm_ir9 w (V (i.toNat : Int)) m = 0 then _ else _
  rw [Int.toNat_of_nonneg i0, if_pos k, W]
theorem mm_wg9_n {w V : Int → Int} {m : Nat} {i s : Int} (W : s = mm_wg9 w m V i.toNat) (i0 : 0 ≤ i) (k : mm_ir9 w (V i) m ≠ 0) : s = mm_wg9 w m V (i + 1).toNat := by
  rw [show (i + 1).toNat = i.toNat + 1 by omega]
  show _ = if mm_ir9 w (V (i.toNat : Int)) m = 0 then _ else _
  rw [Int.toNat_of_nonneg i0, if_neg k, W]
theorem mm_wg9_rg (w V : Int → Int) (m : Nat) : ∀ n : Nat, 0 ≤ mm_wg9 w m V n ∧ mm_wg9 w m V n ≤ n
  | 0 => ⟨Int.le_refl _, Int.le_refl _⟩
  | n + 1 => by
    have z := mm_wg9_rg w V m n
    show 0 ≤ (if mm_ir9 w (V (n : Int)) m = 0 then mm_wg9 w m V n + 1 else mm_wg9 w m V n) ∧ (if mm_ir9 w (V (n : Int)) m = 0 then mm_wg9 w m V n + 1 else mm_wg9 w m V n) ≤ _
    split <;> omega
theorem mm_wg9_cg {w w' V V' : Int → Int} {m : Nat} (ew : ∀ j, 0 ≤ j → j < (m : Int) → w' j = w j) : ∀ n : Nat, (∀ j, 0 ≤ j → j < (n : Int) → V' j = V j) → mm_wg9 w' m V' n = mm_wg9 w m V n
  | 0, _ => rfl
  | n + 1, e => by
    show (if mm_ir9 w' (V' (n : Int)) m = 0 then mm_wg9 w' m V' n + 1 else mm_wg9 w' m V' n) = (if mm_ir9 w (V (n : Int)) m = 0 then mm_wg9 w m V n + 1 else mm_wg9 w m V n)
    rw [e (n : Int) (by omega) (by omega), mm_ir9_cg m ew, mm_wg9_cg ew n (fun j a b => e j a (by omega))]
/-- the same of the events told -/
def mm_wr8 (P : Int → Prop) (w : Int → Int) (m : Nat) (U : Int → Int) : Nat → Int → Prop
  | 0, s => s = 0
  | i + 1, s => (P (i : Int) ∧ mm_ir9 w (U (i : Int)) m = 0 ∧ mm_wr8 P w m U i (s - 1)) ∨ ((¬ P (i : Int) ∨ mm_ir9 w (U (i : Int)) m ≠ 0) ∧ mm_wr8 P w m U i s)
theorem mm_wr8_y {P : Int → Prop} {w U : Int → Int} {m : Nat} {i s : Int} (W : mm_wr8 P w m U i.toNat s) (i0 : 0 ≤ i) (p : P i) (k : mm_ir9 w (U i) m = 0) : mm_wr8 P w m U (i + 1).toNat (s + 1) := by
  rw [show (i + 1).toNat = i.toNat + 1 by omega]
  refine Or.inl ⟨by rw [Int.toNat_of_nonneg i0]; exact p, by rw [Int.toNat_of_nonneg i0]; exact k, ?_⟩
  rw [show s + 1 - 1 = s by omega]
  exact W
theorem mm_wr8_n {P : Int → Prop} {w U : Int → Int} {m : Nat} {i s : Int} (W : mm_wr8 P w m U i.toNat s) (i0 : 0 ≤ i) (k : ¬ P i ∨ mm_ir9 w (U i) m ≠ 0) : mm_wr8 P w m U (i + 1).toNat s := by
  rw [show (i + 1).toNat = i.toNat + 1 by omega]
  exact Or.inr ⟨by rw [Int.toNat_of_nonneg i0]; exact k, W⟩
theorem mm_wr8_rg {P : Int → Prop} {w U : Int → Int} {m : Nat} : ∀ (i : Nat) (s : Int), mm_wr8 P w m U i s → 0 ≤ s ∧ s ≤ i
  | 0, s, h => by
    have z : s = 0 := h
    omega
  | i + 1, s, h => by
    rcases h with ⟨_, _, h⟩ | ⟨_, h⟩
    · have := mm_wr8_rg i _ h; omega
    · have := mm_wr8_rg i _ h; omega
theorem mm_wg9_in {w A U : Int → Int} {m : Nat} {Q Q' : Int → Int} {n e : Int} (X : mm_in8 A Q n e Q') : mm_wg9 w m (fun j => U (Q' j)) (n + 1).toNat = mm_wg9 w m (fun j => U (Q j)) n.toNat + (if mm_ir9 w (U e) m = 0 then 1 else 0) := by
  obtain ⟨p, p0, pm, x1, x2, x3, _⟩ := X
  have lo : ∀ k : Nat, (k : Int) ≤ p → mm_wg9 w m (fun j => U (Q' j)) k = mm_wg9 w m (fun j => U (Q j)) k := fun k hk =>
    mm_wg9_cg (fun _ _ _ => rfl) k (fun j a b => by show U (Q' j) = U (Q j); rw [x1 j a (by omega)])
  have hi : ∀ k : Nat, ((p.toNat + k : Nat) : Int) ≤ n → mm_wg9 w m (fun j => U (Q' j)) (p.toNat + k + 1) = mm_wg9 w m (fun j => U (Q j)) (p.toNat + k) + (if mm_ir9 w (U e) m = 0 then 1 else 0) := by
    intro k
    induction k with
    | zero =>
      intro hk
      show (if mm_ir9 w (U (Q' ((p.toNat + 0 : Nat) : Int))) m = 0 then mm_wg9 w m (fun j => U (Q' j)) p.toNat + 1 else mm_wg9 w m (fun j => U (Q' j)) p.toNat) = _
      rw [lo p.toNat (by omega), show ((p.toNat + 0 : Nat) : Int) = p by omega, x2]
      show _ = mm_wg9 w m (fun j => U (Q j)) p.toNat + _
      split <;> omega
    | succ k ih =>
      intro hk
      have z := ih (by omega)
      show (if mm_ir9 w (U (Q' ((p.toNat + (k + 1) : Nat) : Int))) m = 0 then mm_wg9 w m (fun j => U (Q' j)) (p.toNat + k + 1) + 1 else mm_wg9 w m (fun j => U (Q' j)) (p.toNat + k + 1)) = (if mm_ir9 w (U (Q ((p.toNat + k : Nat) : Int))) m = 0 then mm_wg9 w m (fun j => U (Q j)) (p.toNat + k) + 1 else mm_wg9 w m (fun j => U (Q j)) (p.toNat + k)) + _
      have y := x3 ((p.toNat + k : Nat) : Int) (by omega) (by omega)
      rw [show ((p.toNat + (k + 1) : Nat) : Int) = ((p.toNat + k : Nat) : Int) + 1 by omega, y, z]
      split <;> split <;> omega
  have z := hi (n - p).toNat (by omega)
  rw [show p.toNat + (n - p).toNat = n.toNat by omega] at z
  rw [show (n + 1).toNat = n.toNat + 1 by omega]
  exact z
theorem mm_so8_wr {P : Int → Prop} {A w U : Int → Int} {m : Nat} : ∀ (i : Nat) (n : Int) (Q : Int → Int) (s : Int), mm_so8 P A i n Q → mm_wr8 P w m U i s → s = mm_wg9 w m (fun j => U (Q j)) n.toNat
  | 0, n, Q, s, h, h2 => by
    have a : n = 0 := h
    have b : s = 0 := h2
    rw [a, b]; rfl
  | i + 1, n, Q, s, h, h2 => by
    rcases h with ⟨p, Q0, d, x⟩ | ⟨p, d⟩
    · have z := mm_wg9_in (w := w) (U := U) (m := m) x
      have g := mm_so8_rg i _ _ d
      rw [show n - 1 + 1 = n by omega] at z
      rw [z]
      rcases h2 with ⟨_, k, h2⟩ | ⟨k, h2⟩
      · rw [if_pos k, ← mm_so8_wr i (n - 1) Q0 (s - 1) d h2]; omega
      · rw [if_neg (k.resolve_left (fun q => q p)), ← mm_so8_wr i (n - 1) Q0 s d h2]; omega
    · rcases h2 with ⟨k, _⟩ | ⟨_, h2⟩
      · exact absurd k p
      · exact mm_so8_wr i n Q s d h2
theorem mm_wr8_cg {P P' : Int → Prop} {w w' U U' : Int → Int} {m : Nat} (ew : ∀ j, 0 ≤ j → j < (m : Int) → w' j = w j) : ∀ (i : Nat) (s : Int), (∀ e, 0 ≤ e → e < (i : Int) → (P e ↔ P' e)) → (∀ e, 0 ≤ e → e < (i : Int) → P e → U' e = U e) → mm_wr8 P' w' m U' i s → mm_wr8 P w m U i s
  | 0, _, _, _, h => h
  | i + 1, s, eP, eU, h => by
    have ei := eP (i : Int) (by omega) (by omega)
    have rc9 := fun t => mm_wr8_cg ew i t (fun e a b => eP e a (by omega)) (fun e a b => eU e a (by omega))
    rcases h with ⟨p, k, h⟩ | ⟨k, h⟩
    · rw [eU (i : Int) (by omega) (by omega) (ei.mpr p), mm_ir9_cg m ew] at k
      exact Or.inl ⟨ei.mpr p, k, rc9 _ h⟩
    · refine Or.inr ⟨?_, rc9 _ h⟩
      rcases k with k | k
      · exact Or.inl (fun q => k (ei.mp q))
      · by_cases q : P (i : Int)
        · rw [eU (i : Int) (by omega) (by omega) q, mm_ir9_cg m ew] at k
          exact Or.inr k
        · exact Or.inl q
/-- the points -/
def mm_sc9 (K w g : Int → Int) : Nat → Int
  | 0 => 0
  | n + 1 => if K (n : Int) ≠ -1 then mm_w (mm_sc9 K w g n + g (w (n : Int))) else mm_sc9 K w g n
theorem mm_sc9_y {K w g : Int → Int} {i s t : Int} (W : s = mm_sc9 K w g i.toNat) (i0 : 0 ≤ i) (k : K i ≠ -1) (e : t = g (w i)) : mm_w (s + t) = mm_sc9 K w g (i + 1).toNat := by
  rw [show (i + 1).toNat = i.toNat + 1 by omega]
  show _ = if K (i.toNat : Int) ≠ -1 then mm_w (mm_sc9 K w g i.toNat + g (w (i.toNat : Int))) else _
  rw [Int.toNat_of_nonneg i0, if_pos k, W, e]
theorem mm_sc9_n {K w g : Int → Int} {i s : Int} (W : s = mm_sc9 K w g i.toNat) (i0 : 0 ≤ i) (k : K i = -1) : s = mm_sc9 K w g (i + 1).toNat := by
  rw [show (i + 1).toNat = i.toNat + 1 by omega]
  show _ = if K (i.toNat : Int) ≠ -1 then mm_w (mm_sc9 K w g i.toNat + g (w (i.toNat : Int))) else _
  rw [Int.toNat_of_nonneg i0, if_neg (fun z => z k), W]
theorem mm_sc9_cg {K K' w w' g g' : Int → Int} : ∀ n : Nat, (∀ j, 0 ≤ j → j < (n : Int) → K' j = K j) → (∀ j, 0 ≤ j → j < (n : Int) → g' (w' j) = g (w j)) → mm_sc9 K' w' g' n = mm_sc9 K w g n
  | 0, _, _ => rfl
  | n + 1, e, e2 => by
    show (if K' (n : Int) ≠ -1 then mm_w (mm_sc9 K' w' g' n + g' (w' (n : Int))) else mm_sc9 K' w' g' n) = (if K (n : Int) ≠ -1 then mm_w (mm_sc9 K w g n + g (w (n : Int))) else mm_sc9 K w g n)
    rw [e (n : Int) (by omega) (by omega), e2 (n : Int) (by omega) (by omega), mm_sc9_cg n (fun j a b => e j a (by omega)) (fun j a b => e2 j a (by omega))]
/-- all of the longest row is found: what isn't kept is what the longest leaves -/
theorem mm_kp8_l {L : Int → Int → Int} {w V : Int → Int} {m n : Int} {K : Int → Int} (S : mm_LS8 L w V n m) (hm : 0 ≤ m) (hn : 0 ≤ n) : ∀ (i : Nat) (f l : Int), (i : Int) ≤ n → mm_kp8 L w V m i f l K → l = L i f ∧ (i : Int) - mm_uk9 K i = L 0 0 - l
  | 0, f, l, _, h => by
    obtain ⟨a, b⟩ := h
    subst a
    refine ⟨b, ?_⟩
    show ((0 : Nat) : Int) - 0 = _
    omega
  | i + 1, f, l, hi, h => by
    obtain ⟨f0, l0, a, b⟩ := h
    obtain ⟨e, u⟩ := mm_kp8_l S hm hn i f0 l0 (by omega) a
    have g := mm_kp8_rg S hm hn i f0 l0 (by omega) a
    have mono : ∀ (b : Nat) (p : Int), 0 ≤ p → p + b ≤ m → L ((i : Int) + 1) (p + b) ≤ L ((i : Int) + 1) p := by
      intro b
      induction b with
      | zero => intro p _ _; rw [show p + ((0 : Nat) : Int) = p by omega]; exact Int.le_refl _
      | succ b ih =>
        intro p q0 q1
        have e1 := ih (p + 1) (by omega) (by omega)
        rw [show p + ((b + 1 : Nat) : Int) = p + 1 + (b : Int) by omega]
        by_cases t : (i : Int) + 1 < n
        · have e2 := (S.2 ((i : Int) + 1) p (by omega) t q0 (by omega)).2.1
          omega
        · have a1 := S.1 ((i : Int) + 1) p (by omega) q0 (by omega) (by omega) (by omega)
          have a2 := S.1 ((i : Int) + 1) (p + 1) (by omega) (by omega) (by omega) (by omega) (by omega)
          omega
    have down : L ((i : Int) + 1) f0 ≤ L (i : Int) f0 := by
      by_cases t : f0 < m
      · exact (S.2 (i : Int) f0 (by omega) (by omega) g.1 t).1
      · have a1 := S.1 (i : Int) f0 (by omega) g.1 (by omega) (by omega) g.2.1
        have a2 := S.1 ((i : Int) + 1) f0 (by omega) g.1 (by omega) (by omega) g.2.1
        omega
    have low := mm_LS8_rg S (i := (i : Int) + 1) (p := f0) (by omega) (by omega) g.1 g.2.1
    have un : mm_uk9 K (i + 1) = if K (i : Int) = -1 then mm_uk9 K i + 1 else mm_uk9 K i := rfl
    rw [show ((i + 1 : Nat) : Int) = (i : Int) + 1 by omega, un]
    rcases b with ⟨c, k, d, q⟩ | ⟨c, r, q, ⟨x, y, k, d, v⟩ | ⟨x, k, d, v⟩⟩
    · subst d q
      rw [if_pos k]
      exact ⟨by omega, by omega⟩
    · have q' : f0 ≤ r ∧ r < m ∧ V r = w (i : Int) := by
        rcases q with ⟨q, _⟩ | ⟨q1, q2, q3, _⟩
        · exact absurd q x
        · exact ⟨q1, q2, q3⟩
      have a1 := (S.2 (i : Int) r (by omega) (by omega) (by omega) q'.2.1).2.2.1 q'.2.2
      have a2 : L (i : Int) r ≤ L (i : Int) f0 := by
        have mono2 : ∀ (b : Nat) (p : Int), 0 ≤ p → p + b < m → L (i : Int) (p + b) ≤ L (i : Int) p := by
          intro b
          induction b with
          | zero => intro p _ _; rw [show p + ((0 : Nat) : Int) = p by omega]; exact Int.le_refl _
          | succ b ih =>
            intro p p0 p1
            have e1 := ih (p + 1) (by omega) (by omega)
            have e2 := (S.2 (i : Int) p (by omega) (by omega) p0 (by omega)).2.1
            rw [show p + ((b + 1 : Nat) : Int) = p + 1 + (b : Int) by omega]
            omega
        have := mono2 (r - f0).toNat f0 g.1 (by omega)
        rwa [show f0 + ((r - f0).toNat : Int) = r by omega] at this
      rw [if_neg (by omega)]
      subst d v
      exact ⟨by omega, by omega⟩
    · rw [if_pos k]
      subst d v
      refine ⟨?_, by omega⟩
      have st := mm_LS8_st S (i := (i : Int)) (k := l) (by omega) (by omega) (by omega) (m - f).toNat f g.1 g.2.1 (by omega)
      rcases st.mp (by omega) with z | ⟨j, j0, j1, j2, j3⟩
      · omega
      · exfalso
        rcases q with ⟨_, q⟩ | ⟨q1, q2, q3, q4⟩
        · exact q j j0 j1 j2
        · by_cases t : j < r
          · exact q4 j j0 t j2
          · have := mono (j - r).toNat (r + 1) (by omega) (by omega)
            rw [show r + 1 + ((j - r).toNat : Int) = j + 1 by omega] at this
            rcases x with x | x
            · omega
            · omega
theorem mm_kp8_e {L : Int → Int → Int} {w V : Int → Int} {m n f l : Int} {K : Int → Int} (S : mm_LS8 L w V n m) (hm : 0 ≤ m) (hn : 0 ≤ n) (k : mm_kp8 L w V m n.toNat f l K) : mm_uk9 K n.toNat = n - L 0 0 := by
  have z := mm_kp8_l S hm hn n.toNat f l (by omega) k
  have g := mm_kp8_rg S hm hn n.toNat f l (by omega) k
  have e := S.1 ((n.toNat : Nat) : Int) f (by omega) g.1 (by omega) (by omega) g.2.1
  omega
theorem mm_ko8_u {h0 hL h : mH} {i f l x : Int} (K : mm_ko8 h0 hL h i f l) (LS : mm_LS8 (mm_Lh hL) (h0.2.1 91) (mm_Vh h0) (h0.1 66 39) (h0.1 66 48)) (e : h0.1 66 39 ≤ i ∨ l ≤ 0) (i0 : 0 ≤ i ∧ i ≤ h0.1 66 39) (n1 : h0.1 66 39 ≤ 12) (m0 : 0 ≤ h0.1 66 48) (hx : x = h0.1 66 39 - hL.2.1 99 0) : x = mm_uk9 (h.2.1 100) (h0.1 66 39).toNat := by
  have k : mm_kp8 (mm_Lh hL) (h0.2.1 91) (mm_Vh h0) (h0.1 66 48) (h0.1 66 39).toNat f l (h.2.1 100) := by
    by_cases q : h0.1 66 39 ≤ i
    · rw [show (h0.1 66 39).toNat = i.toNat by omega]; exact K.1
    · have w := mm_kp8_ex (e.resolve_left q) (h0.1 66 39 - i).toNat i.toNat K.1 (fun j a b => K.2 j (by omega) (by omega))
      rw [show (h0.1 66 39).toNat = i.toNat + (h0.1 66 39 - i).toNat by omega]
      exact w
  rw [mm_kp8_e LS m0 (by omega) k, hx]
  rfl
/-- what is missed -/
def mm_mi9 (h : mH) (p m : Int) (K : Int → Int) : Prop := (h.2.1 83 (h.2.1 85 p) ≠ 0 ∧ m = 0) ∨ (h.2.1 83 (h.2.1 85 p) = 0 ∧ m = mm_uk9 K (mm_nY h p).toNat)
theorem mm_mi9_h {h a b : mH} {p m m' : Int} (X : mm_mi9 h p m (a.2.1 100)) (e : m' = m) (eK : ∀ j, b.2.1 100 j = a.2.1 100 j) : mm_mi9 h p m' (b.2.1 100) := by
  rw [e, show b.2.1 100 = a.2.1 100 from funext eK]; exact X
theorem mm_sc9_h {a b : mH} {w g : Int → Int} {s s' : Int} {n : Nat} (X : s = mm_sc9 (a.2.1 100) w g n) (e : s' = s) (eK : ∀ j, b.2.1 100 j = a.2.1 100 j) : s' = mm_sc9 (b.2.1 100) w g n := by
  rw [e, show b.2.1 100 = a.2.1 100 from funext eK]; exact X

set_option maxRecDepth 100000 in
set_option maxHeartbeats 4000000 in
theorem c_X12_nextPunch_q (l : Launch) (hl : l.stackTraces = false) (d : Nat) (hd : 0 ≤ d) (h : mH) (i0 : mm_inv h) (p1 : Int) (p2 : Int) (bp1 : 0 ≤ p1 ∧ p1 ≤ 11) (bp2 : 0 ≤ p2 ∧ p2 ≤ 500) : mm_Met l d yX12_nextPunch cX12_nextPunch 4 (some .int) [mR 66, mI p1, mI p2] h (mm_pi fun r h2 => (-1 ≤ r ∧ r ≤ 499) ∧ h2 = h ∧ mm_ff8 (mm_Vh h) (h.1 66 48) (h.2.1 91 p1) p2 r) mm_nx 0 0 := by
  refine mm_ofW (ls := [mR 66, mI p1, mI p2, mU]) hl (by decide) rfl (Nat.le_of_ble_eq_true rfl) ?_
  intro x hxl C T hnm htb
  subst hxl
  refine mm_rng (fun hr _ => ?_)
  have ap1 : -2147483648 ≤ p1 ∧ p1 < 2147483648 := mm_ok_at hr (i := 1) rfl
  have ap2 : -2147483648 ≤ p2 ∧ p2 < 2147483648 := mm_ok_at hr (i := 2) rfl
  have f0 : mm_fr [] [] h h := mm_fr_rf
  refine mm_iload_n C (mm_dec dk_X12_nextPunch 0 rfl) rfl ?_
  have J2 : ∀ (n : Nat) (x2_3 : Int) (bx2_3 : 0 ≤ x2_3 ∧ x2_3 ≤ 500) (w2_0 : ∀ j, p2 ≤ j → j < x2_3 → mm_Vh h j ≠ h.2.1 91 p1) (w2_1 : p2 ≤ x2_3), (500 - x2_3 : Int) < n → mm_W x 0 0 2 [mR 66, mI p1, mU, mI x2_3] [] h := by
    intro n
    induction n with
    | zero =>
      intro x2_3 bx2_3 w2_0 w2_1 hm
      exfalso; omega
    | succ n ih2 =>
      intro x2_3 bx2_3 w2_0 w2_1 hm2
      refine mm_iload_n C (mm_dec dk_X12_nextPunch 2 rfl) rfl ?_
      refine mm_aload_n C (mm_dec dk_X12_nextPunch 3 rfl) rfl ?_
      refine mm_geti C fl_X12_329 (mm_dec dk_X12_nextPunch 4 rfl) rfl rfl (Or.inl rfl) ?_
      have g1 : 0 ≤ (h.1 66 48) ∧ (h.1 66 48) ≤ 500 := i0.1 66 48
      refine mm_icmp_ge (tgt := 38) C (mm_dec dk_X12_nextPunch 5 rfl) (by decide) (fun c7 => ?_) (fun c7 => ?_)
      · skip
        refine mm_iconst C (mm_dec dk_X12_nextPunch 22 rfl) ⟨by decide, by decide⟩ ?_
        exact mm_iret C T (mm_dec dk_X12_nextPunch 23 rfl) (by decide : 0 ≤ 0) (by decide : 0 ≤ 0) ⟨_, rfl, ⟨⟨by omega, by omega⟩, rfl, by first | exact Or.inr ⟨by omega, by omega, by show h.2.1 94 (h.2.1 98 _) = h.2.1 91 p1; omega, w2_0⟩ | exact Or.inl ⟨rfl, fun j a b => w2_0 j a (by omega)⟩⟩⟩
      · skip
        refine mm_aload_n C (mm_dec dk_X12_nextPunch 6 rfl) rfl ?_
        refine mm_getr (t := 94) C fl_X12_93 (mm_dec dk_X12_nextPunch 7 rfl) rfl rfl (mm_ref i0 rfl) ?_
        refine mm_aload_n C (mm_dec dk_X12_nextPunch 8 rfl) rfl ?_
        refine mm_getr (t := 98) C fl_X12_105 (mm_dec dk_X12_nextPunch 9 rfl) rfl rfl (mm_ref i0 rfl) ?_
        refine mm_iload_n C (mm_dec dk_X12_nextPunch 10 rfl) rfl ?_
        refine mm_iald C (mm_dec dk_X12_nextPunch 11 rfl) rfl (by omega) (by omega) ?_
        have g2 : 0 ≤ (h.2.1 98 x2_3) ∧ (h.2.1 98 x2_3) ≤ 499 := i0.2.1 98 x2_3
        refine mm_iald C (mm_dec dk_X12_nextPunch 12 rfl) rfl (by omega) (by omega) ?_
        have g3 : -2147483648 ≤ (h.2.1 94 (h.2.1 98 x2_3)) ∧ (h.2.1 94 (h.2.1 98 x2_3)) ≤ 2147483647 := i0.2.1 94 (h.2.1 98 x2_3)
        refine mm_aload_n C (mm_dec dk_X12_nextPunch 13 rfl) rfl ?_
        refine mm_getr (t := 91) C fl_X12_84 (mm_dec dk_X12_nextPunch 14 rfl) rfl rfl (mm_ref i0 rfl) ?_
        refine mm_iload_n C (mm_dec dk_X12_nextPunch 15 rfl) rfl ?_
        refine mm_iald C (mm_dec dk_X12_nextPunch 16 rfl) rfl (by omega) (by omega) ?_
        have g4 : 0 ≤ (h.2.1 91 p1) ∧ (h.2.1 91 p1) ≤ 19 := i0.2.1 91 p1
        refine mm_icmp_ne (tgt := 32) C (mm_dec dk_X12_nextPunch 17 rfl) (by decide) (fun c27 => ?_) (fun c27 => ?_)
        · skip
          refine mm_iincL (ls2 := [mR 66, mI p1, mU, mI (x2_3 + 1)]) C (mm_dec dk_X12_nextPunch 20 rfl) rfl (by decide) ⟨by omega, by omega⟩ rfl ?_
          refine mm_goto (tgt := 2) C (mm_dec dk_X12_nextPunch 21 rfl) (by decide) ?_
          exact ih2 (x2_3 + 1) ⟨by omega, by omega⟩ (by first | exact fun j a b => (by omega) | exact fun j a b => (by by_cases q : j = x2_3; (rw [q]; show h.2.1 94 (h.2.1 98 x2_3) ≠ h.2.1 91 p1; omega); exact w2_0 j a (by omega))) (by omega) (by omega)
        · skip
          refine mm_iload_n C (mm_dec dk_X12_nextPunch 18 rfl) rfl ?_
          exact mm_iret C T (mm_dec dk_X12_nextPunch 19 rfl) (by decide : 0 ≤ 0) (by decide : 0 ≤ 0) ⟨_, rfl, ⟨⟨by omega, by omega⟩, rfl, by first | exact Or.inr ⟨by omega, by omega, by show h.2.1 94 (h.2.1 98 _) = h.2.1 91 p1; omega, w2_0⟩ | exact Or.inl ⟨rfl, fun j a b => w2_0 j a (by omega)⟩⟩⟩
  refine mm_istore_nL (ls2 := [mR 66, mI p1, mI p2, mI p2]) C (mm_dec dk_X12_nextPunch 1 rfl) (by decide) rfl ?_
  refine mm_fgt 2 ?_
  exact J2 (((500 - p2) : Int) + 1).toNat p2 ⟨by omega, by omega⟩ (by first | exact fun j a b => (by omega) | exact fun j a b => (by by_cases q : j = x2_3; (rw [q]; show h.2.1 94 (h.2.1 98 x2_3) ≠ h.2.1 91 p1; omega); exact w2_0 j a (by omega))) (by omega) (by omega)
set_option maxRecDepth 100000 in
set_option maxHeartbeats 4000000 in
theorem c_X12_inOrder_q (l : Launch) (hl : l.stackTraces = false) (d : Nat) (hd : 1 ≤ d) (h : mH) (i0 : mm_inv h) (t0 : mm_al h 100 11 (-1)) : mm_Met l d yX12_inOrder cX12_inOrder 6 none [mR 66] h (mm_pv fun h2 => mm_inv h2 ∧ mm_fr [(66, 52)] [99, 100] h h2 ∧ mm_xY8 (h.2.1 91) (h.1 66 39) (mm_Vh h) (h.1 66 48) (h2.2.1 100) ∧ h2.1 66 52 = mm_uk9 (h2.2.1 100) (h.1 66 39).toNat) mm_nx 0 0 := by
  refine mm_ofW (ls := [mR 66, mU, mU, mU, mU, mU]) hl (by decide) rfl (Nat.le_of_ble_eq_true rfl) ?_
  intro x hxl C T hnm htb
  subst hxl
  have C1 := mm_OK_le (d' := d - 1 + 1) (by omega) C
  have f0 : mm_fr [(66, 52)] [99, 100] h h := mm_fr_rf
  have g1 : -2147483648 ≤ h.1 66 52 ∧ h.1 66 52 ≤ 2147483647 := i0.1 66 52
  have zn8 : 0 ≤ h.1 66 39 ∧ h.1 66 39 ≤ 12 := i0.1 66 39
  have zm8 : 0 ≤ h.1 66 48 ∧ h.1 66 48 ≤ 500 := i0.1 66 48
  refine mm_bipush C (mm_dec dk_X12_inOrder 0 rfl) ⟨by decide, by decide⟩ ?_
  have J3 : ∀ (n : Nat) (x3_1 : Int) (bx3_1 : -1 ≤ x3_1 ∧ x3_1 ≤ 12) (h3_ : mH) (i3_ : mm_inv h3_) (f3_ : mm_fr [(66, 52)] [99, 100] h h3_) (w3_0 : mm_ld8 h h3_ (501 * (x3_1 + 1))) (w3_1 : ∀ j, h3_.2.1 100 j = h.2.1 100 j), (x3_1 - (-1) : Int) < n → mm_W x 0 0 3 [mR 66, mI x3_1, mU, mU, mU, mU] [] h3_ := by
    intro n
    induction n with
    | zero =>
      intro x3_1 bx3_1 h3_ i3_ f3_ w3_0 w3_1 hm
      have g2 : -2147483648 ≤ h3_.1 66 52 ∧ h3_.1 66 52 ≤ 2147483647 := i3_.1 66 52
      exfalso; omega
    | succ n ih3 =>
      intro x3_1 bx3_1 h3_ i3_ f3_ w3_0 w3_1 hm3
      have g3 : -2147483648 ≤ h3_.1 66 52 ∧ h3_.1 66 52 ≤ 2147483647 := i3_.1 66 52
      refine mm_iload_n C (mm_dec dk_X12_inOrder 2 rfl) rfl ?_
      refine mm_if_lt (tgt := 166) C (mm_dec dk_X12_inOrder 3 rfl) (by decide) (fun c4 => ?_) (fun c4 => ?_)
      · skip
        have z30 : mm_ld8 h h3_ 0 := (by rw [show (0 : Int) = 501 * (x3_1 + 1) by omega]; exact w3_0)
        have zLS := mm_ld8_LS z30 zn8 zm8
        have z00 := mm_ld8_b (k := 0) (a := 0) (b := 0) z30 (by omega) (by omega) (by omega) (by omega)
        have zq39a : h3_.1 66 39 = h.1 66 39 := f3_.1 66 39 (by decide)
        have z0w : mm_w (h3_.1 66 39 - h3_.2.1 99 0) = h3_.1 66 39 - h3_.2.1 99 0 := mm_w_id ⟨by omega, by omega⟩
        have z0v : mm_w (h.1 66 39 - h3_.2.1 99 0) = h.1 66 39 - h3_.2.1 99 0 := mm_w_id ⟨by omega, by omega⟩
        refine mm_iconst C (mm_dec dk_X12_inOrder 103 rfl) ⟨by decide, by decide⟩ ?_
        refine mm_istore_nL (ls2 := [mR 66, mI 0, mU, mU, mU, mU]) C (mm_dec dk_X12_inOrder 104 rfl) (by decide) rfl ?_
        refine mm_aload_n C (mm_dec dk_X12_inOrder 105 rfl) rfl ?_
        refine mm_getr (t := 99) C fl_X12_108 (mm_dec dk_X12_inOrder 106 rfl) rfl rfl (mm_ref i3_ rfl) ?_
        refine mm_iconst C (mm_dec dk_X12_inOrder 107 rfl) ⟨by decide, by decide⟩ ?_
        refine mm_iald C (mm_dec dk_X12_inOrder 108 rfl) rfl (by omega) (by omega) ?_
        have g4 : -2147483648 ≤ (h3_.2.1 99 0) ∧ (h3_.2.1 99 0) ≤ 2147483647 := i3_.2.1 99 0
        refine mm_istore_nL (ls2 := [mR 66, mI 0, mI (h3_.2.1 99 0), mU, mU, mU]) C (mm_dec dk_X12_inOrder 109 rfl) (by decide) rfl ?_
        refine mm_aload_n C (mm_dec dk_X12_inOrder 110 rfl) rfl ?_
        refine mm_aload_n C (mm_dec dk_X12_inOrder 111 rfl) rfl ?_
        refine mm_geti C fl_X12_296 (mm_dec dk_X12_inOrder 112 rfl) rfl rfl (Or.inl rfl) ?_
        have g5 : 0 ≤ (h3_.1 66 39) ∧ (h3_.1 66 39) ≤ 12 := i3_.1 66 39
        refine mm_iload_n C (mm_dec dk_X12_inOrder 113 rfl) rfl ?_
        refine mm_isubw C (mm_dec dk_X12_inOrder 114 rfl) ?_
        have g6 : -2147483648 ≤ (mm_w ((h3_.1 66 39) - (h3_.2.1 99 0))) ∧ (mm_w ((h3_.1 66 39) - (h3_.2.1 99 0))) < 2147483648 := mm_w_rg _
        refine mm_puti C fl_X12_341 (mm_dec dk_X12_inOrder 115 rfl) rfl rfl rfl (Or.inl ⟨rfl, rfl⟩) ?_
        have i1 : mm_inv (mm_pf h3_ 66 52 (mm_w ((h3_.1 66 39) - (h3_.2.1 99 0)))) := mm_inv_pf i3_ (show -2147483648 ≤ (mm_w ((h3_.1 66 39) - (h3_.2.1 99 0))) ∧ (mm_w ((h3_.1 66 39) - (h3_.2.1 99 0))) ≤ 2147483647 from ⟨by omega, by omega⟩) (by decide)
        have f1 : mm_fr [(66, 52)] [99, 100] h (mm_pf h3_ 66 52 (mm_w ((h3_.1 66 39) - (h3_.2.1 99 0)))) := mm_fr_pf f3_ (by decide)
        obtain ⟨h1, eh1⟩ : ∃ z, z = mm_pf h3_ 66 52 (mm_w ((h3_.1 66 39) - (h3_.2.1 99 0))) := ⟨_, rfl⟩
        rw [← eh1] at i1 f1 ⊢
        have qh1 : h1.1 66 52 = (mm_w ((h3_.1 66 39) - (h3_.2.1 99 0))) := by rw [eh1]; exact mm_pf_same _ _ _ _
        have qh1_7 : h1.1 66 39 = h3_.1 66 39 := by rw [eh1]; exact mm_pf_ne _ _ (by decide)
        refine mm_iconst C (mm_dec dk_X12_inOrder 116 rfl) ⟨by decide, by decide⟩ ?_
        have J187 : ∀ (n : Nat) (x187_1 : Int) (bx187_1 : 0 ≤ x187_1 ∧ x187_1 ≤ 500) (x187_2 : Int) (bx187_2 : -2147483648 ≤ x187_2 ∧ x187_2 ≤ 2147483647) (x187_3 : Int) (bx187_3 : 0 ≤ x187_3 ∧ x187_3 ≤ 12) (h187_ : mH) (i187_ : mm_inv h187_) (f187_ : mm_fr [(66, 52)] [99, 100] h h187_) (w187_0 : mm_ko8 h h3_ h187_ x187_3 x187_1 x187_2) (w187_1 : ∀ j, h187_.2.1 99 j = h3_.2.1 99 j) (w187_2 : x187_3 ≤ h.1 66 39) (w187_3 : h187_.1 66 52 = h.1 66 39 - h3_.2.1 99 0), (12 - x187_3 : Int) < n → mm_W x 0 0 187 [mR 66, mI x187_1, mI x187_2, mI x187_3, mU, mU] [] h187_ := by
          intro n
          induction n with
          | zero =>
            intro x187_1 bx187_1 x187_2 bx187_2 x187_3 bx187_3 h187_ i187_ f187_ w187_0 w187_1 w187_2 w187_3 hm
            have g8 : -2147483648 ≤ h187_.1 66 52 ∧ h187_.1 66 52 ≤ 2147483647 := i187_.1 66 52
            exfalso; omega
          | succ n ih187 =>
            intro x187_1 bx187_1 x187_2 bx187_2 x187_3 bx187_3 h187_ i187_ f187_ w187_0 w187_1 w187_2 w187_3 hm187
            have g9 : -2147483648 ≤ h187_.1 66 52 ∧ h187_.1 66 52 ≤ 2147483647 := i187_.1 66 52
            have zq39 : h187_.1 66 39 = h.1 66 39 := f187_.1 66 39 (by decide)
            have zq48 : h187_.1 66 48 = h.1 66 48 := f187_.1 66 48 (by decide)
            refine mm_iload_n C (mm_dec dk_X12_inOrder 118 rfl) rfl ?_
            refine mm_aload_n C (mm_dec dk_X12_inOrder 119 rfl) rfl ?_
            refine mm_geti C fl_X12_296 (mm_dec dk_X12_inOrder 120 rfl) rfl rfl (Or.inl rfl) ?_
            have g10 : 0 ≤ (h187_.1 66 39) ∧ (h187_.1 66 39) ≤ 12 := i187_.1 66 39
            have J261 : ∀ (w261_0 : mm_xY8 (h.2.1 91) (h.1 66 39) (mm_Vh h) (h.1 66 48) (h187_.2.1 100)) (w261_1 : h187_.1 66 52 = mm_uk9 (h187_.2.1 100) (h.1 66 39).toNat), mm_W x 0 0 261 [mU, mU, mU, mU, mU, mU] [] h187_ := by
              intro w261_0 w261_1
              have g11 : -2147483648 ≤ h187_.1 66 52 ∧ h187_.1 66 52 ≤ 2147483647 := i187_.1 66 52
              exact mm_vret C T (mm_dec dk_X12_inOrder 161 rfl) (by decide : 0 ≤ 0) (by decide : 0 ≤ 0) ⟨rfl, ⟨i187_, f187_, by exact w261_0, by exact w261_1⟩⟩
            refine mm_icmp_ge (tgt := 261) C (mm_dec dk_X12_inOrder 121 rfl) (by decide) (fun c192 => ?_) (fun c192 => ?_)
            · skip
              refine mm_fgt 0 ?_
              refine mm_fgt 1 ?_
              refine mm_fgt 2 ?_
              refine mm_fgt 3 ?_
              exact J261 (by exact mm_ko8_e w187_0 zLS (by omega) (by omega) (by omega)) (by exact mm_ko8_u w187_0 zLS (by omega) (by omega) (by omega) (by omega) w187_3)
            · skip
              refine mm_iload_n C (mm_dec dk_X12_inOrder 122 rfl) rfl ?_
              refine mm_if_le (tgt := 261) C (mm_dec dk_X12_inOrder 123 rfl) (by decide) (fun c196 => ?_) (fun c196 => ?_)
              · skip
                refine mm_fgt 0 ?_
                refine mm_fgt 1 ?_
                refine mm_fgt 2 ?_
                refine mm_fgt 3 ?_
                exact J261 (by exact mm_ko8_e w187_0 zLS (by omega) (by omega) (by omega)) (by exact mm_ko8_u w187_0 zLS (by omega) (by omega) (by omega) (by omega) w187_3)
              · skip
                refine mm_aload_n C (mm_dec dk_X12_inOrder 124 rfl) rfl ?_
                refine mm_iload_n C (mm_dec dk_X12_inOrder 125 rfl) rfl ?_
                refine mm_iload_n C (mm_dec dk_X12_inOrder 126 rfl) rfl ?_
                refine mm_cVi (rest := []) C1 ev_X12_338 (mm_dec dk_X12_inOrder 127 rfl) (c_X12_nextPunch_q x.2.1 hl (d - 1) (by omega) h187_ i187_ x187_3 x187_1 ⟨by omega, by omega⟩ ⟨by omega, by omega⟩) rfl rfl (Nat.le_of_ble_eq_true rfl) ⟨by decide, by decide⟩ rfl (fun r202 h202c hp202 => ?_) (fun _ _ q => q.elim)
                obtain ⟨b202, z202, y202_0⟩ := hp202
                rw [z202]
                refine mm_istoreL (ls2 := [mR 66, mI x187_1, mI x187_2, mI x187_3, mI r202, mU]) C (mm_dec dk_X12_inOrder 128 rfl) (by decide) rfl ?_
                refine mm_iload C (mm_dec dk_X12_inOrder 129 rfl) rfl ?_
                refine mm_iconst C (mm_dec dk_X12_inOrder 130 rfl) ⟨by decide, by decide⟩ ?_
                have J255 : ∀ (x255_1 : Int) (bx255_1 : 0 ≤ x255_1 ∧ x255_1 ≤ 500) (x255_2 : Int) (bx255_2 : 0 ≤ x255_2 ∧ x255_2 ≤ 2147483647) (h255_ : mH) (i255_ : mm_inv h255_) (f255_ : mm_fr [(66, 52)] [99, 100] h h255_) (w255_0 : mm_ko8 h h3_ h255_ (x187_3 + 1) x255_1 x255_2) (w255_1 : ∀ j, h255_.2.1 99 j = h3_.2.1 99 j) (w255_2 : h255_.1 66 52 = h.1 66 39 - h3_.2.1 99 0), mm_W x 0 0 255 [mR 66, mI x255_1, mI x255_2, mI x187_3, mU, mU] [] h255_ := by
                  intro x255_1 bx255_1 x255_2 bx255_2 h255_ i255_ f255_ w255_0 w255_1 w255_2
                  have g13 : -2147483648 ≤ h255_.1 66 52 ∧ h255_.1 66 52 ≤ 2147483647 := i255_.1 66 52
                  refine mm_iincL (ls2 := [mR 66, mI x255_1, mI x255_2, mI (x187_3 + 1), mU, mU]) C (mm_dec dk_X12_inOrder 159 rfl) rfl (by decide) ⟨by omega, by omega⟩ rfl ?_
                  refine mm_goto (tgt := 187) C (mm_dec dk_X12_inOrder 160 rfl) (by decide) ?_
                  exact ih187 x255_1 ⟨by omega, by omega⟩ x255_2 ⟨by omega, by omega⟩ (x187_3 + 1) ⟨by omega, by omega⟩ h255_ i255_ f255_ (by first | exact w255_0 | exact mm_ko8_0 (fun j a b => (by rw [eh1]; exact (w3_1 j).trans (t0 j a b))) rfl) (by first | exact w255_1 | exact fun j => (by rw [eh1]; rfl)) (by omega) (by omega) (by omega)
                refine mm_icmp_eq (tgt := 255) C (mm_dec dk_X12_inOrder 131 rfl) (by decide) (fun c210 => ?_) (fun c210 => ?_)
                · skip
                  refine mm_fgt 4 ?_
                  exact J255 x187_1 ⟨by omega, by omega⟩ x187_2 ⟨by omega, by omega⟩ h187_ i187_ f187_ (by first | exact mm_ko8_y w187_0 y202_0 (show mm_Vh h187_ = mm_Vh h from funext fun j => by unfold mm_Vh; rw [f187_.2 94 (by decide), f187_.2 98 (by decide)]) (f187_.1 66 48 (by decide)) (f187_.2 91 (by decide) _) eh2 (by omega) (w187_1 _) (by omega) (by omega) (by omega) | exact mm_ko8_n (v := h187_.2.1 99 (((501 * (x187_3 + 1)) + r202) + 1)) w187_0 zLS y202_0 (show mm_Vh h187_ = mm_Vh h from funext fun j => by unfold mm_Vh; rw [f187_.2 94 (by decide), f187_.2 98 (by decide)]) (f187_.1 66 48 (by decide)) (f187_.2 91 (by decide) _) (by first | exact Or.inl (by omega) | exact Or.inr ⟨w187_1 _, by omega⟩) (by omega) (by omega) (by omega) (by omega)) (by first | exact w187_1 | exact fun j => (mm_sm_pa 99 eh2 (by decide) j).trans (w187_1 j)) (by omega)
                · skip
                  have zv := mm_ld8_b (k := ((501 * (x187_3 + 1)) + r202) + 1) (a := x187_3 + 1) (b := r202 + 1) z30 (by omega) (by omega) (by omega) (by omega)
                  rw [← w187_1] at zv
                  have zvw : mm_w (h187_.2.1 99 (((501 * (x187_3 + 1)) + r202) + 1) + 1) = h187_.2.1 99 (((501 * (x187_3 + 1)) + r202) + 1) + 1 := mm_w_id ⟨by omega, by omega⟩
                  refine mm_aload_n C (mm_dec dk_X12_inOrder 132 rfl) rfl ?_
                  refine mm_getr (t := 99) C fl_X12_108 (mm_dec dk_X12_inOrder 133 rfl) rfl rfl (mm_ref i187_ rfl) ?_
                  refine mm_sipush C (mm_dec dk_X12_inOrder 134 rfl) ⟨by decide, by decide⟩ ?_
                  refine mm_iload_n C (mm_dec dk_X12_inOrder 135 rfl) rfl ?_
                  refine mm_iconst C (mm_dec dk_X12_inOrder 136 rfl) ⟨by decide, by decide⟩ ?_
                  refine mm_iadd C (mm_dec dk_X12_inOrder 137 rfl) ⟨by omega, by omega⟩ ?_
                  refine mm_imul C (mm_dec dk_X12_inOrder 138 rfl) ⟨by omega, by omega⟩ ?_
                  refine mm_iload C (mm_dec dk_X12_inOrder 139 rfl) rfl ?_
                  refine mm_iadd C (mm_dec dk_X12_inOrder 140 rfl) ⟨by omega, by omega⟩ ?_
                  refine mm_iconst C (mm_dec dk_X12_inOrder 141 rfl) ⟨by decide, by decide⟩ ?_
                  refine mm_iadd C (mm_dec dk_X12_inOrder 142 rfl) ⟨by omega, by omega⟩ ?_
                  refine mm_iald C (mm_dec dk_X12_inOrder 143 rfl) rfl (by omega) (by omega) ?_
                  have g14 : -2147483648 ≤ (h187_.2.1 99 (((501 * (x187_3 + 1)) + r202) + 1)) ∧ (h187_.2.1 99 (((501 * (x187_3 + 1)) + r202) + 1)) ≤ 2147483647 := i187_.2.1 99 (((501 * (x187_3 + 1)) + r202) + 1)
                  refine mm_iconst C (mm_dec dk_X12_inOrder 144 rfl) ⟨by decide, by decide⟩ ?_
                  refine mm_iaddw C (mm_dec dk_X12_inOrder 145 rfl) ?_
                  have g15 : -2147483648 ≤ (mm_w ((h187_.2.1 99 (((501 * (x187_3 + 1)) + r202) + 1)) + 1)) ∧ (mm_w ((h187_.2.1 99 (((501 * (x187_3 + 1)) + r202) + 1)) + 1)) < 2147483648 := mm_w_rg _
                  refine mm_iload_n C (mm_dec dk_X12_inOrder 146 rfl) rfl ?_
                  refine mm_icmp_eq (tgt := 239) C (mm_dec dk_X12_inOrder 147 rfl) (by decide) (fun c233 => ?_) (fun c233 => ?_)
                  · skip
                    refine mm_aload_n C (mm_dec dk_X12_inOrder 149 rfl) rfl ?_
                    refine mm_getr (t := 100) C fl_X12_111 (mm_dec dk_X12_inOrder 150 rfl) rfl rfl (mm_ref i187_ rfl) ?_
                    refine mm_iload_n C (mm_dec dk_X12_inOrder 151 rfl) rfl ?_
                    refine mm_iload C (mm_dec dk_X12_inOrder 152 rfl) rfl ?_
                    refine mm_iast C (mm_dec dk_X12_inOrder 153 rfl) rfl (by omega) (by omega) ?_
                    have i2 : mm_inv (mm_pa h187_ 100 x187_3 r202) := mm_inv_pa i187_ (show -1 ≤ r202 ∧ r202 ≤ 499 from ⟨by omega, by omega⟩)
                    have f2 : mm_fr [(66, 52)] [99, 100] h (mm_pa h187_ 100 x187_3 r202) := mm_fr_pa f187_ (by decide)
                    obtain ⟨h2, eh2⟩ : ∃ z, z = mm_pa h187_ 100 x187_3 r202 := ⟨_, rfl⟩
                    rw [← eh2] at i2 f2 ⊢
                    have qh2_16 : h2.1 66 39 = h187_.1 66 39 := by rw [eh2]; rfl
                    have qh2_17 : h2.1 66 52 = h187_.1 66 52 := by rw [eh2]; rfl
                    refine mm_iload C (mm_dec dk_X12_inOrder 154 rfl) rfl ?_
                    refine mm_iconst C (mm_dec dk_X12_inOrder 155 rfl) ⟨by decide, by decide⟩ ?_
                    refine mm_iadd C (mm_dec dk_X12_inOrder 156 rfl) ⟨by omega, by omega⟩ ?_
                    refine mm_istore_nL (ls2 := [mR 66, mI (r202 + 1), mI x187_2, mI x187_3, mI r202, mU]) C (mm_dec dk_X12_inOrder 157 rfl) (by decide) rfl ?_
                    refine mm_iincL (ls2 := [mR 66, mI (r202 + 1), mI (x187_2 + (-1)), mI x187_3, mI r202, mU]) C (mm_dec dk_X12_inOrder 158 rfl) rfl (by decide) ⟨by omega, by omega⟩ rfl ?_
                    refine mm_fgt 4 ?_
                    exact J255 (r202 + 1) ⟨by omega, by omega⟩ (x187_2 + (-1)) ⟨by omega, by omega⟩ h2 i2 f2 (by first | exact mm_ko8_y w187_0 y202_0 (show mm_Vh h187_ = mm_Vh h from funext fun j => by unfold mm_Vh; rw [f187_.2 94 (by decide), f187_.2 98 (by decide)]) (f187_.1 66 48 (by decide)) (f187_.2 91 (by decide) _) eh2 (by omega) (w187_1 _) (by omega) (by omega) (by omega) | exact mm_ko8_n (v := h187_.2.1 99 (((501 * (x187_3 + 1)) + r202) + 1)) w187_0 zLS y202_0 (show mm_Vh h187_ = mm_Vh h from funext fun j => by unfold mm_Vh; rw [f187_.2 94 (by decide), f187_.2 98 (by decide)]) (f187_.1 66 48 (by decide)) (f187_.2 91 (by decide) _) (by first | exact Or.inl (by omega) | exact Or.inr ⟨w187_1 _, by omega⟩) (by omega) (by omega) (by omega) (by omega)) (by first | exact w187_1 | exact fun j => (mm_sm_pa 99 eh2 (by decide) j).trans (w187_1 j)) (by omega)
                  · skip
                    refine mm_goto (tgt := 255) C (mm_dec dk_X12_inOrder 148 rfl) (by decide) ?_
                    refine mm_fgt 4 ?_
                    exact J255 x187_1 ⟨by omega, by omega⟩ x187_2 ⟨by omega, by omega⟩ h187_ i187_ f187_ (by first | exact mm_ko8_y w187_0 y202_0 (show mm_Vh h187_ = mm_Vh h from funext fun j => by unfold mm_Vh; rw [f187_.2 94 (by decide), f187_.2 98 (by decide)]) (f187_.1 66 48 (by decide)) (f187_.2 91 (by decide) _) eh2 (by omega) (w187_1 _) (by omega) (by omega) (by omega) | exact mm_ko8_n (v := h187_.2.1 99 (((501 * (x187_3 + 1)) + r202) + 1)) w187_0 zLS y202_0 (show mm_Vh h187_ = mm_Vh h from funext fun j => by unfold mm_Vh; rw [f187_.2 94 (by decide), f187_.2 98 (by decide)]) (f187_.1 66 48 (by decide)) (f187_.2 91 (by decide) _) (by first | exact Or.inl (by omega) | exact Or.inr ⟨w187_1 _, by omega⟩) (by omega) (by omega) (by omega) (by omega)) (by first | exact w187_1 | exact fun j => (mm_sm_pa 99 eh2 (by decide) j).trans (w187_1 j)) (by omega)
        refine mm_istore_nL (ls2 := [mR 66, mI 0, mI (h3_.2.1 99 0), mI 0, mU, mU]) C (mm_dec dk_X12_inOrder 117 rfl) (by decide) rfl ?_
        exact J187 (((12 - 0) : Int) + 1).toNat 0 ⟨by omega, by omega⟩ (h3_.2.1 99 0) ⟨by omega, by omega⟩ 0 ⟨by omega, by omega⟩ h1 i1 f1 (by first | exact w255_0 | exact mm_ko8_0 (fun j a b => (by rw [eh1]; exact (w3_1 j).trans (t0 j a b))) rfl) (by first | exact w255_1 | exact fun j => (by rw [eh1]; rfl)) (by omega) (by omega) (by omega)
      · skip
        refine mm_sipush C (mm_dec dk_X12_inOrder 4 rfl) ⟨by decide, by decide⟩ ?_
        have J11 : ∀ (n : Nat) (x11_2 : Int) (bx11_2 : -1 ≤ x11_2 ∧ x11_2 ≤ 500) (h11_ : mH) (i11_ : mm_inv h11_) (f11_ : mm_fr [(66, 52)] [99, 100] h h11_) (w11_0 : mm_ld8 h h11_ (501 * x3_1 + x11_2 + 1)) (w11_1 : ∀ j, h11_.2.1 100 j = h.2.1 100 j), (x11_2 - (-1) : Int) < n → mm_W x 0 0 11 [mR 66, mI x3_1, mI x11_2, mU, mU, mU] [] h11_ := by
          intro n
          induction n with
          | zero =>
            intro x11_2 bx11_2 h11_ i11_ f11_ w11_0 w11_1 hm
            have g18 : -2147483648 ≤ h11_.1 66 52 ∧ h11_.1 66 52 ≤ 2147483647 := i11_.1 66 52
            exfalso; omega
          | succ n ih11 =>
            intro x11_2 bx11_2 h11_ i11_ f11_ w11_0 w11_1 hm11
            have g19 : -2147483648 ≤ h11_.1 66 52 ∧ h11_.1 66 52 ≤ 2147483647 := i11_.1 66 52
            have ze39 : h11_.1 66 39 = h.1 66 39 := f11_.1 66 39 (by decide)
            have ze48 : h11_.1 66 48 = h.1 66 48 := f11_.1 66 48 (by decide)
            have zV : mm_Vh h x11_2 = h11_.2.1 94 (h11_.2.1 98 x11_2) := by unfold mm_Vh; rw [f11_.2 94 (by decide), f11_.2 98 (by decide)]
            have zw : h11_.2.1 91 x3_1 = h.2.1 91 x3_1 := f11_.2 91 (by decide) _
            refine mm_iload_n C (mm_dec dk_X12_inOrder 6 rfl) rfl ?_
            refine mm_if_lt (tgt := 160) C (mm_dec dk_X12_inOrder 7 rfl) (by decide) (fun c12 => ?_) (fun c12 => ?_)
            · skip
              refine mm_iincL (ls2 := [mR 66, mI (x3_1 + (-1)), mI x11_2, mU, mU, mU]) C (mm_dec dk_X12_inOrder 101 rfl) rfl (by decide) ⟨by omega, by omega⟩ rfl ?_
              refine mm_goto (tgt := 3) C (mm_dec dk_X12_inOrder 102 rfl) (by decide) ?_
              refine mm_fgt 2 ?_
              exact ih3 (x3_1 + (-1)) ⟨by omega, by omega⟩ h11_ i11_ f11_ (by first | exact mm_ld8_0 (by omega) | (rw [show 501 * (x3_1 + (-1) + 1) = 501 * x3_1 + x11_2 + 1 by omega]; exact w11_0)) (by first | exact fun _ => rfl | exact w11_1) (by omega)
            · skip
              refine mm_iconst C (mm_dec dk_X12_inOrder 8 rfl) ⟨by decide, by decide⟩ ?_
              refine mm_istore_nL (ls2 := [mR 66, mI x3_1, mI x11_2, mI 0, mU, mU]) C (mm_dec dk_X12_inOrder 9 rfl) (by decide) rfl ?_
              refine mm_iload_n C (mm_dec dk_X12_inOrder 10 rfl) rfl ?_
              refine mm_aload_n C (mm_dec dk_X12_inOrder 11 rfl) rfl ?_
              refine mm_geti C fl_X12_296 (mm_dec dk_X12_inOrder 12 rfl) rfl rfl (Or.inl rfl) ?_
              have g20 : 0 ≤ (h11_.1 66 39) ∧ (h11_.1 66 39) ≤ 12 := i11_.1 66 39
              have J141 : ∀ (x141_3 : Int) (bx141_3 : -2147483648 ≤ x141_3 ∧ x141_3 ≤ 2147483647) (w141_0 : mm_cv8 h h11_ x3_1 x11_2 x141_3) (w141_1 : 0 ≤ x141_3) (w141_2 : x141_3 ≤ 12 - x3_1), mm_W x 0 0 141 [mR 66, mI x3_1, mI x11_2, mI x141_3, mU, mU] [] h11_ := by
                intro x141_3 bx141_3 w141_0 w141_1 w141_2
                have g21 : -2147483648 ≤ h11_.1 66 52 ∧ h11_.1 66 52 ≤ 2147483647 := i11_.1 66 52
                refine mm_aload_n C (mm_dec dk_X12_inOrder 90 rfl) rfl ?_
                refine mm_getr (t := 99) C fl_X12_108 (mm_dec dk_X12_inOrder 91 rfl) rfl rfl (mm_ref i11_ rfl) ?_
                refine mm_sipush C (mm_dec dk_X12_inOrder 92 rfl) ⟨by decide, by decide⟩ ?_
                refine mm_iload_n C (mm_dec dk_X12_inOrder 93 rfl) rfl ?_
                refine mm_imul C (mm_dec dk_X12_inOrder 94 rfl) ⟨by omega, by omega⟩ ?_
                refine mm_iload_n C (mm_dec dk_X12_inOrder 95 rfl) rfl ?_
                refine mm_iadd C (mm_dec dk_X12_inOrder 96 rfl) ⟨by omega, by omega⟩ ?_
                refine mm_iload_n C (mm_dec dk_X12_inOrder 97 rfl) rfl ?_
                refine mm_iast C (mm_dec dk_X12_inOrder 98 rfl) rfl (by omega) (by omega) ?_
                have i3 : mm_inv (mm_pa h11_ 99 ((501 * x3_1) + x11_2) x141_3) := mm_inv_pa i11_ (show -2147483648 ≤ x141_3 ∧ x141_3 ≤ 2147483647 from ⟨by omega, by omega⟩)
                have f3 : mm_fr [(66, 52)] [99, 100] h (mm_pa h11_ 99 ((501 * x3_1) + x11_2) x141_3) := mm_fr_pa f11_ (by decide)
                obtain ⟨h3, eh3⟩ : ∃ z, z = mm_pa h11_ 99 ((501 * x3_1) + x11_2) x141_3 := ⟨_, rfl⟩
                rw [← eh3] at i3 f3 ⊢
                have qh3_22 : h3.1 66 39 = h11_.1 66 39 := by rw [eh3]; rfl
                have qh3_23 : h3.1 66 52 = h11_.1 66 52 := by rw [eh3]; rfl
                refine mm_iincL (ls2 := [mR 66, mI x3_1, mI (x11_2 + (-1)), mI x141_3, mU, mU]) C (mm_dec dk_X12_inOrder 99 rfl) rfl (by decide) ⟨by omega, by omega⟩ rfl ?_
                refine mm_goto (tgt := 11) C (mm_dec dk_X12_inOrder 100 rfl) (by decide) ?_
                refine mm_fgt 3 ?_
                exact ih11 (x11_2 + (-1)) ⟨by omega, by omega⟩ h3 i3 f3 (by first | exact (by rw [show 501 * x3_1 + 500 + 1 = 501 * (x3_1 + 1) by omega]; exact w3_0) | exact (by rw [show 501 * x3_1 + (x11_2 + (-1)) + 1 = 501 * x3_1 + x11_2 by omega]; exact mm_ld8_s w11_0 eh3 w141_0 w141_1 w141_2 rfl (by omega) (by omega) (by omega))) (by first | exact w3_1 | exact fun j => (mm_sm_pa 100 eh3 (by decide) j).trans (w11_1 j)) (by omega)
              refine mm_icmp_ge (tgt := 141) C (mm_dec dk_X12_inOrder 13 rfl) (by decide) (fun c22 => ?_) (fun c22 => ?_)
              · skip
                exact J141 0 ⟨by omega, by omega⟩ (by first | exact ⟨fun _ => rfl, fun a b => by omega⟩ | exact ⟨fun _ => by omega, fun a b => ⟨by omega, by omega, fun q => by rw [zV] at q; omega, by rcases w79_0 with q | q; exact Or.inl q; exact Or.inr (Or.inl q)⟩⟩ | exact ⟨fun _ => by omega, fun a b => ⟨by omega, by omega, fun q => by omega, Or.inr (Or.inr ⟨by rw [zV]; omega, by omega⟩)⟩⟩) (by omega) (by omega)
              · skip
                refine mm_iload_n C (mm_dec dk_X12_inOrder 14 rfl) rfl ?_
                refine mm_aload_n C (mm_dec dk_X12_inOrder 15 rfl) rfl ?_
                refine mm_geti C fl_X12_329 (mm_dec dk_X12_inOrder 16 rfl) rfl rfl (Or.inl rfl) ?_
                have g24 : 0 ≤ (h11_.1 66 48) ∧ (h11_.1 66 48) ≤ 500 := i11_.1 66 48
                refine mm_icmp_ge (tgt := 141) C (mm_dec dk_X12_inOrder 17 rfl) (by decide) (fun c30 => ?_) (fun c30 => ?_)
                · skip
                  exact J141 0 ⟨by omega, by omega⟩ (by first | exact ⟨fun _ => rfl, fun a b => by omega⟩ | exact ⟨fun _ => by omega, fun a b => ⟨by omega, by omega, fun q => by rw [zV] at q; omega, by rcases w79_0 with q | q; exact Or.inl q; exact Or.inr (Or.inl q)⟩⟩ | exact ⟨fun _ => by omega, fun a b => ⟨by omega, by omega, fun q => by omega, Or.inr (Or.inr ⟨by rw [zV]; omega, by omega⟩)⟩⟩) (by omega) (by omega)
                · skip
                  have zA := mm_ld8_b (k := (501 * (x3_1 + 1)) + x11_2) (a := x3_1 + 1) (b := x11_2) w11_0 (by omega) (by omega) (by omega) (by omega)
                  have zB := mm_ld8_b (k := ((501 * x3_1) + x11_2) + 1) (a := x3_1) (b := x11_2 + 1) w11_0 (by omega) (by omega) (by omega) (by omega)
                  have zC := mm_ld8_b (k := ((501 * (x3_1 + 1)) + x11_2) + 1) (a := x3_1 + 1) (b := x11_2 + 1) w11_0 (by omega) (by omega) (by omega) (by omega)
                  have zCw : mm_w (h11_.2.1 99 (((501 * (x3_1 + 1)) + x11_2) + 1) + 1) = h11_.2.1 99 (((501 * (x3_1 + 1)) + x11_2) + 1) + 1 := mm_w_id ⟨by omega, by omega⟩
                  refine mm_aload_n C (mm_dec dk_X12_inOrder 18 rfl) rfl ?_
                  refine mm_getr (t := 99) C fl_X12_108 (mm_dec dk_X12_inOrder 19 rfl) rfl rfl (mm_ref i11_ rfl) ?_
                  refine mm_sipush C (mm_dec dk_X12_inOrder 20 rfl) ⟨by decide, by decide⟩ ?_
                  refine mm_iload_n C (mm_dec dk_X12_inOrder 21 rfl) rfl ?_
                  refine mm_iconst C (mm_dec dk_X12_inOrder 22 rfl) ⟨by decide, by decide⟩ ?_
                  refine mm_iadd C (mm_dec dk_X12_inOrder 23 rfl) ⟨by omega, by omega⟩ ?_
                  refine mm_imul C (mm_dec dk_X12_inOrder 24 rfl) ⟨by omega, by omega⟩ ?_
                  refine mm_iload_n C (mm_dec dk_X12_inOrder 25 rfl) rfl ?_
                  refine mm_iadd C (mm_dec dk_X12_inOrder 26 rfl) ⟨by omega, by omega⟩ ?_
                  refine mm_iald C (mm_dec dk_X12_inOrder 27 rfl) rfl (by omega) (by omega) ?_
                  have g25 : -2147483648 ≤ (h11_.2.1 99 ((501 * (x3_1 + 1)) + x11_2)) ∧ (h11_.2.1 99 ((501 * (x3_1 + 1)) + x11_2)) ≤ 2147483647 := i11_.2.1 99 ((501 * (x3_1 + 1)) + x11_2)
                  refine mm_istoreL (ls2 := [mR 66, mI x3_1, mI x11_2, mI 0, mI (h11_.2.1 99 ((501 * (x3_1 + 1)) + x11_2)), mU]) C (mm_dec dk_X12_inOrder 28 rfl) (by decide) rfl ?_
                  refine mm_aload_n C (mm_dec dk_X12_inOrder 29 rfl) rfl ?_
                  refine mm_getr (t := 99) C fl_X12_108 (mm_dec dk_X12_inOrder 30 rfl) rfl rfl (mm_ref i11_ rfl) ?_
                  refine mm_sipush C (mm_dec dk_X12_inOrder 31 rfl) ⟨by decide, by decide⟩ ?_
                  refine mm_iload_n C (mm_dec dk_X12_inOrder 32 rfl) rfl ?_
                  refine mm_imul C (mm_dec dk_X12_inOrder 33 rfl) ⟨by omega, by omega⟩ ?_
                  refine mm_iload_n C (mm_dec dk_X12_inOrder 34 rfl) rfl ?_
                  refine mm_iadd C (mm_dec dk_X12_inOrder 35 rfl) ⟨by omega, by omega⟩ ?_
                  refine mm_iconst C (mm_dec dk_X12_inOrder 36 rfl) ⟨by decide, by decide⟩ ?_
                  refine mm_iadd C (mm_dec dk_X12_inOrder 37 rfl) ⟨by omega, by omega⟩ ?_
                  refine mm_iald C (mm_dec dk_X12_inOrder 38 rfl) rfl (by omega) (by omega) ?_
                  have g26 : -2147483648 ≤ (h11_.2.1 99 (((501 * x3_1) + x11_2) + 1)) ∧ (h11_.2.1 99 (((501 * x3_1) + x11_2) + 1)) ≤ 2147483647 := i11_.2.1 99 (((501 * x3_1) + x11_2) + 1)
                  refine mm_istoreL (ls2 := [mR 66, mI x3_1, mI x11_2, mI 0, mI (h11_.2.1 99 ((501 * (x3_1 + 1)) + x11_2)), mI (h11_.2.1 99 (((501 * x3_1) + x11_2) + 1))]) C (mm_dec dk_X12_inOrder 39 rfl) (by decide) rfl ?_
                  refine mm_iload C (mm_dec dk_X12_inOrder 40 rfl) rfl ?_
                  refine mm_iload C (mm_dec dk_X12_inOrder 41 rfl) rfl ?_
                  have J79 : ∀ (s79_0 : Int) (bs79_0 : -2147483648 ≤ s79_0 ∧ s79_0 ≤ 2147483647) (w79_0 : (s79_0 = h11_.2.1 99 ((501 * (x3_1 + 1)) + x11_2) ∨ s79_0 = h11_.2.1 99 (((501 * x3_1) + x11_2) + 1))) (w79_1 : h11_.2.1 99 ((501 * (x3_1 + 1)) + x11_2) ≤ s79_0) (w79_2 : h11_.2.1 99 (((501 * x3_1) + x11_2) + 1) ≤ s79_0), mm_W x 0 0 79 [mR 66, mI x3_1, mI x11_2, mU, mU, mU] [mI s79_0] h11_ := by
                    intro s79_0 bs79_0 w79_0 w79_1 w79_2
                    have g27 : -2147483648 ≤ h11_.1 66 52 ∧ h11_.1 66 52 ≤ 2147483647 := i11_.1 66 52
                    refine mm_istore_nL (ls2 := [mR 66, mI x3_1, mI x11_2, mI s79_0, mU, mU]) C (mm_dec dk_X12_inOrder 46 rfl) (by decide) rfl ?_
                    refine mm_aload_n C (mm_dec dk_X12_inOrder 47 rfl) rfl ?_
                    refine mm_getr (t := 94) C fl_X12_93 (mm_dec dk_X12_inOrder 48 rfl) rfl rfl (mm_ref i11_ rfl) ?_
                    refine mm_aload_n C (mm_dec dk_X12_inOrder 49 rfl) rfl ?_
                    refine mm_getr (t := 98) C fl_X12_105 (mm_dec dk_X12_inOrder 50 rfl) rfl rfl (mm_ref i11_ rfl) ?_
                    refine mm_iload_n C (mm_dec dk_X12_inOrder 51 rfl) rfl ?_
                    refine mm_iald C (mm_dec dk_X12_inOrder 52 rfl) rfl (by omega) (by omega) ?_
                    have g28 : 0 ≤ (h11_.2.1 98 x11_2) ∧ (h11_.2.1 98 x11_2) ≤ 499 := i11_.2.1 98 x11_2
                    refine mm_iald C (mm_dec dk_X12_inOrder 53 rfl) rfl (by omega) (by omega) ?_
                    have g29 : -2147483648 ≤ (h11_.2.1 94 (h11_.2.1 98 x11_2)) ∧ (h11_.2.1 94 (h11_.2.1 98 x11_2)) ≤ 2147483647 := i11_.2.1 94 (h11_.2.1 98 x11_2)
                    refine mm_aload_n C (mm_dec dk_X12_inOrder 54 rfl) rfl ?_
                    refine mm_getr (t := 91) C fl_X12_84 (mm_dec dk_X12_inOrder 55 rfl) rfl rfl (mm_ref i11_ rfl) ?_
                    refine mm_iload_n C (mm_dec dk_X12_inOrder 56 rfl) rfl ?_
                    refine mm_iald C (mm_dec dk_X12_inOrder 57 rfl) rfl (by omega) (by omega) ?_
                    have g30 : 0 ≤ (h11_.2.1 91 x3_1) ∧ (h11_.2.1 91 x3_1) ≤ 19 := i11_.2.1 91 x3_1
                    refine mm_icmp_ne (tgt := 141) C (mm_dec dk_X12_inOrder 58 rfl) (by decide) (fun c97 => ?_) (fun c97 => ?_)
                    · skip
                      exact J141 s79_0 ⟨by omega, by omega⟩ (by first | exact ⟨fun _ => rfl, fun a b => by omega⟩ | exact ⟨fun _ => by omega, fun a b => ⟨by omega, by omega, fun q => by rw [zV] at q; omega, by rcases w79_0 with q | q; exact Or.inl q; exact Or.inr (Or.inl q)⟩⟩ | exact ⟨fun _ => by omega, fun a b => ⟨by omega, by omega, fun q => by omega, Or.inr (Or.inr ⟨by rw [zV]; omega, by omega⟩)⟩⟩) (by omega) (by omega)
                    · skip
                      refine mm_aload_n C (mm_dec dk_X12_inOrder 59 rfl) rfl ?_
                      refine mm_getr (t := 99) C fl_X12_108 (mm_dec dk_X12_inOrder 60 rfl) rfl rfl (mm_ref i11_ rfl) ?_
                      refine mm_sipush C (mm_dec dk_X12_inOrder 61 rfl) ⟨by decide, by decide⟩ ?_
                      refine mm_iload_n C (mm_dec dk_X12_inOrder 62 rfl) rfl ?_
                      refine mm_iconst C (mm_dec dk_X12_inOrder 63 rfl) ⟨by decide, by decide⟩ ?_
                      refine mm_iadd C (mm_dec dk_X12_inOrder 64 rfl) ⟨by omega, by omega⟩ ?_
                      refine mm_imul C (mm_dec dk_X12_inOrder 65 rfl) ⟨by omega, by omega⟩ ?_
                      refine mm_iload_n C (mm_dec dk_X12_inOrder 66 rfl) rfl ?_
                      refine mm_iadd C (mm_dec dk_X12_inOrder 67 rfl) ⟨by omega, by omega⟩ ?_
                      refine mm_iconst C (mm_dec dk_X12_inOrder 68 rfl) ⟨by decide, by decide⟩ ?_
                      refine mm_iadd C (mm_dec dk_X12_inOrder 69 rfl) ⟨by omega, by omega⟩ ?_
                      refine mm_iald C (mm_dec dk_X12_inOrder 70 rfl) rfl (by omega) (by omega) ?_
                      have g31 : -2147483648 ≤ (h11_.2.1 99 (((501 * (x3_1 + 1)) + x11_2) + 1)) ∧ (h11_.2.1 99 (((501 * (x3_1 + 1)) + x11_2) + 1)) ≤ 2147483647 := i11_.2.1 99 (((501 * (x3_1 + 1)) + x11_2) + 1)
                      refine mm_iconst C (mm_dec dk_X12_inOrder 71 rfl) ⟨by decide, by decide⟩ ?_
                      refine mm_iaddw C (mm_dec dk_X12_inOrder 72 rfl) ?_
                      have g32 : -2147483648 ≤ (mm_w ((h11_.2.1 99 (((501 * (x3_1 + 1)) + x11_2) + 1)) + 1)) ∧ (mm_w ((h11_.2.1 99 (((501 * (x3_1 + 1)) + x11_2) + 1)) + 1)) < 2147483648 := mm_w_rg _
                      refine mm_iload_n C (mm_dec dk_X12_inOrder 73 rfl) rfl ?_
                      refine mm_icmp_le (tgt := 141) C (mm_dec dk_X12_inOrder 74 rfl) (by decide) (fun c119 => ?_) (fun c119 => ?_)
                      · skip
                        exact J141 s79_0 ⟨by omega, by omega⟩ (by first | exact ⟨fun _ => rfl, fun a b => by omega⟩ | exact ⟨fun _ => by omega, fun a b => ⟨by omega, by omega, fun q => by rw [zV] at q; omega, by rcases w79_0 with q | q; exact Or.inl q; exact Or.inr (Or.inl q)⟩⟩ | exact ⟨fun _ => by omega, fun a b => ⟨by omega, by omega, fun q => by omega, Or.inr (Or.inr ⟨by rw [zV]; omega, by omega⟩)⟩⟩) (by omega) (by omega)
                      · skip
                        refine mm_aload_n C (mm_dec dk_X12_inOrder 75 rfl) rfl ?_
                        refine mm_getr (t := 99) C fl_X12_108 (mm_dec dk_X12_inOrder 76 rfl) rfl rfl (mm_ref i11_ rfl) ?_
                        refine mm_sipush C (mm_dec dk_X12_inOrder 77 rfl) ⟨by decide, by decide⟩ ?_
                        refine mm_iload_n C (mm_dec dk_X12_inOrder 78 rfl) rfl ?_
                        refine mm_iconst C (mm_dec dk_X12_inOrder 79 rfl) ⟨by decide, by decide⟩ ?_
                        refine mm_iadd C (mm_dec dk_X12_inOrder 80 rfl) ⟨by omega, by omega⟩ ?_
                        refine mm_imul C (mm_dec dk_X12_inOrder 81 rfl) ⟨by omega, by omega⟩ ?_
                        refine mm_iload_n C (mm_dec dk_X12_inOrder 82 rfl) rfl ?_
                        refine mm_iadd C (mm_dec dk_X12_inOrder 83 rfl) ⟨by omega, by omega⟩ ?_
                        refine mm_iconst C (mm_dec dk_X12_inOrder 84 rfl) ⟨by decide, by decide⟩ ?_
                        refine mm_iadd C (mm_dec dk_X12_inOrder 85 rfl) ⟨by omega, by omega⟩ ?_
                        refine mm_iald C (mm_dec dk_X12_inOrder 86 rfl) rfl (by omega) (by omega) ?_
                        refine mm_iconst C (mm_dec dk_X12_inOrder 87 rfl) ⟨by decide, by decide⟩ ?_
                        refine mm_iaddw C (mm_dec dk_X12_inOrder 88 rfl) ?_
                        have g33 : -2147483648 ≤ (mm_w ((h11_.2.1 99 (((501 * (x3_1 + 1)) + x11_2) + 1)) + 1)) ∧ (mm_w ((h11_.2.1 99 (((501 * (x3_1 + 1)) + x11_2) + 1)) + 1)) < 2147483648 := mm_w_rg _
                        refine mm_istore_nL (ls2 := [mR 66, mI x3_1, mI x11_2, mI (mm_w ((h11_.2.1 99 (((501 * (x3_1 + 1)) + x11_2) + 1)) + 1)), mU, mU]) C (mm_dec dk_X12_inOrder 89 rfl) (by decide) rfl ?_
                        exact J141 (mm_w ((h11_.2.1 99 (((501 * (x3_1 + 1)) + x11_2) + 1)) + 1)) ⟨by omega, by omega⟩ (by first | exact ⟨fun _ => rfl, fun a b => by omega⟩ | exact ⟨fun _ => by omega, fun a b => ⟨by omega, by omega, fun q => by rw [zV] at q; omega, by rcases w79_0 with q | q; exact Or.inl q; exact Or.inr (Or.inl q)⟩⟩ | exact ⟨fun _ => by omega, fun a b => ⟨by omega, by omega, fun q => by omega, Or.inr (Or.inr ⟨by rw [zV]; omega, by omega⟩)⟩⟩) (by omega) (by omega)
                  refine mm_icmp_le (tgt := 77) C (mm_dec dk_X12_inOrder 42 rfl) (by decide) (fun c69 => ?_) (fun c69 => ?_)
                  · skip
                    refine mm_iload C (mm_dec dk_X12_inOrder 45 rfl) rfl ?_
                    refine mm_fgt 3 ?_
                    refine mm_fgt 4 ?_
                    refine mm_fgt 5 ?_
                    exact J79 (h11_.2.1 99 (((501 * x3_1) + x11_2) + 1)) ⟨by omega, by omega⟩ (by omega) (by omega) (by omega)
                  · skip
                    refine mm_iload C (mm_dec dk_X12_inOrder 43 rfl) rfl ?_
                    refine mm_goto (tgt := 79) C (mm_dec dk_X12_inOrder 44 rfl) (by decide) ?_
                    refine mm_fgt 3 ?_
                    refine mm_fgt 4 ?_
                    refine mm_fgt 5 ?_
                    exact J79 (h11_.2.1 99 ((501 * (x3_1 + 1)) + x11_2)) ⟨by omega, by omega⟩ (by omega) (by omega) (by omega)
        refine mm_istore_nL (ls2 := [mR 66, mI x3_1, mI 500, mU, mU, mU]) C (mm_dec dk_X12_inOrder 5 rfl) (by decide) rfl ?_
        exact J11 (((500 - (-1)) : Int) + 1).toNat 500 ⟨by omega, by omega⟩ h3_ i3_ f3_ (by first | exact (by rw [show 501 * x3_1 + 500 + 1 = 501 * (x3_1 + 1) by omega]; exact w3_0) | exact (by rw [show 501 * x3_1 + (x11_2 + (-1)) + 1 = 501 * x3_1 + x11_2 by omega]; exact mm_ld8_s w11_0 eh3 w141_0 w141_1 w141_2 rfl (by omega) (by omega) (by omega))) (by first | exact w3_1 | exact fun j => (mm_sm_pa 100 eh3 (by decide) j).trans (w11_1 j)) (by omega)
  refine mm_istore_nL (ls2 := [mR 66, mI 12, mU, mU, mU, mU]) C (mm_dec dk_X12_inOrder 1 rfl) (by decide) rfl ?_
  exact J3 (((12 - (-1)) : Int) + 1).toNat 12 ⟨by omega, by omega⟩ h i0 f0 (by first | exact mm_ld8_0 (by omega) | (rw [show 501 * (x3_1 + (-1) + 1) = 501 * x3_1 + x11_2 + 1 by omega]; exact w11_0)) (by first | exact fun _ => rfl | exact w11_1) (by omega)
set_option maxRecDepth 100000 in
set_option maxHeartbeats 4000000 in
theorem c_X12_finishOf_q (l : Launch) (hl : l.stackTraces = false) (d : Nat) (hd : 2 ≤ d) (h : mH) (i0 : mm_inv h) (p1 : Int) (p2 : Int) (bp1 : 0 ≤ p1 ∧ p1 ≤ 39) : mm_Met l d yX12_finishOf cX12_finishOf 4 (some .int) [mR 66, mI p1, mI p2] h (mm_pi fun r h2 => (-2147483648 ≤ r ∧ r ≤ 2147483647) ∧ h2 = h ∧ mm_tm8 (h.2.1 95) (mm_k2 h 2 p1 p2) (h.1 66 40) r) mm_nx 0 0 := by
  refine mm_ofW (ls := [mR 66, mI p1, mI p2, mU]) hl (by decide) rfl (Nat.le_of_ble_eq_true rfl) ?_
  intro x hxl C T hnm htb
  subst hxl
  have C1 := mm_OK_le (d' := d - 1 + 1) (by omega) C
  refine mm_rng (fun hr _ => ?_)
  have ap1 : -2147483648 ≤ p1 ∧ p1 < 2147483648 := mm_ok_at hr (i := 1) rfl
  have ap2 : -2147483648 ≤ p2 ∧ p2 < 2147483648 := mm_ok_at hr (i := 2) rfl
  have f0 : mm_fr [] [] h h := mm_fr_rf
  refine mm_aload_n C (mm_dec dk_X12_finishOf 0 rfl) rfl ?_
  refine mm_iconst C (mm_dec dk_X12_finishOf 1 rfl) ⟨by decide, by decide⟩ ?_
  refine mm_iload_n C (mm_dec dk_X12_finishOf 2 rfl) rfl ?_
  refine mm_iload_n C (mm_dec dk_X12_finishOf 3 rfl) rfl ?_
  refine mm_cVi (rest := []) C1 ev_X12_322 (mm_dec dk_X12_finishOf 4 rfl) (c_X12_latest_q x.2.1 hl (d - 1) (by omega) h i0 2 p1 p2) rfl rfl (Nat.le_of_ble_eq_true rfl) ⟨by decide, by decide⟩ rfl (fun r4 h4c hp4 => ?_) (fun _ _ q => q.elim)
  obtain ⟨b4, z4, y4_0⟩ := hp4
  rw [z4]
  refine mm_istore_nL (ls2 := [mR 66, mI p1, mI p2, mI r4]) C (mm_dec dk_X12_finishOf 5 rfl) (by decide) rfl ?_
  refine mm_iload_n C (mm_dec dk_X12_finishOf 6 rfl) rfl ?_
  refine mm_iconst C (mm_dec dk_X12_finishOf 7 rfl) ⟨by decide, by decide⟩ ?_
  have J23 : ∀ (s23_0 : Int) (bs23_0 : -2147483648 ≤ s23_0 ∧ s23_0 ≤ 2147483647) (w23_0 : ((r4 = -1 ∧ s23_0 = -1) ∨ (r4 ≠ -1 ∧ s23_0 = h.2.1 95 r4))), mm_W x 0 0 23 [mU, mU, mU, mU] [mI s23_0] h := by
    intro s23_0 bs23_0 w23_0
    exact mm_iret C T (mm_dec dk_X12_finishOf 15 rfl) (by decide : 0 ≤ 0) (by decide : 0 ≤ 0) ⟨_, rfl, ⟨⟨by omega, by omega⟩, rfl, by exact ⟨r4, y4_0, by omega⟩⟩⟩
  refine mm_icmp_ne (tgt := 17) C (mm_dec dk_X12_finishOf 8 rfl) (by decide) (fun c10 => ?_) (fun c10 => ?_)
  · skip
    refine mm_aload_n C (mm_dec dk_X12_finishOf 11 rfl) rfl ?_
    refine mm_getr (t := 95) C fl_X12_96 (mm_dec dk_X12_finishOf 12 rfl) rfl rfl (mm_ref i0 rfl) ?_
    refine mm_iload_n C (mm_dec dk_X12_finishOf 13 rfl) rfl ?_
    refine mm_iald C (mm_dec dk_X12_finishOf 14 rfl) rfl (by omega) (by omega) ?_
    have g2 : -2147483648 ≤ (h.2.1 95 r4) ∧ (h.2.1 95 r4) ≤ 2147483647 := i0.2.1 95 r4
    refine mm_fgt 0 ?_
    refine mm_fgt 1 ?_
    refine mm_fgt 2 ?_
    refine mm_fgt 3 ?_
    exact J23 (h.2.1 95 r4) ⟨by omega, by omega⟩ (by omega)
  · skip
    refine mm_iconst C (mm_dec dk_X12_finishOf 9 rfl) ⟨by decide, by decide⟩ ?_
    refine mm_goto (tgt := 23) C (mm_dec dk_X12_finishOf 10 rfl) (by decide) ?_
    refine mm_fgt 0 ?_
    refine mm_fgt 1 ?_
    refine mm_fgt 2 ?_
    refine mm_fgt 3 ?_
    exact J23 (-1) ⟨by omega, by omega⟩ (by omega)
set_option maxRecDepth 100000 in
set_option maxHeartbeats 4000000 in
theorem c_X12_startOf_q (l : Launch) (hl : l.stackTraces = false) (d : Nat) (hd : 3 ≤ d) (h : mH) (i0 : mm_inv h) (p1 : Int) (p2 : Int) (bp1 : 0 ≤ p1 ∧ p1 ≤ 39) : mm_Met l d yX12_startOf cX12_startOf 4 (some .int) [mR 66, mI p1, mI p2] h (mm_pi fun r h2 => (-2147483648 ≤ r ∧ r ≤ 2147483647) ∧ h2 = h ∧ mm_sY8 h p1 p2 r) mm_nx 0 0 := by
  refine mm_ofW (ls := [mR 66, mI p1, mI p2, mU]) hl (by decide) rfl (Nat.le_of_ble_eq_true rfl) ?_
  intro x hxl C T hnm htb
  subst hxl
  have C1 := mm_OK_le (d' := d - 1 + 1) (by omega) C
  refine mm_rng (fun hr _ => ?_)
  have ap1 : -2147483648 ≤ p1 ∧ p1 < 2147483648 := mm_ok_at hr (i := 1) rfl
  have ap2 : -2147483648 ≤ p2 ∧ p2 < 2147483648 := mm_ok_at hr (i := 2) rfl
  have f0 : mm_fr [] [] h h := mm_fr_rf
  refine mm_aload_n C (mm_dec dk_X12_startOf 0 rfl) rfl ?_
  refine mm_getr (t := 88) C fl_X12_75 (mm_dec dk_X12_startOf 1 rfl) rfl rfl (mm_ref i0 rfl) ?_
  refine mm_iload_n C (mm_dec dk_X12_startOf 2 rfl) rfl ?_
  refine mm_iald C (mm_dec dk_X12_startOf 3 rfl) rfl (by omega) (by omega) ?_
  have g1 : -1 ≤ (h.2.1 88 p1) ∧ (h.2.1 88 p1) ≤ 9 := i0.2.1 88 p1
  refine mm_iconst C (mm_dec dk_X12_startOf 4 rfl) ⟨by decide, by decide⟩ ?_
  have J47 : ∀ (w47_0 : (h.2.1 88 p1 = -1 ∨ h.2.1 89 p1 ≤ 0)), mm_W x 0 0 47 [mR 66, mI p1, mI p2, mU] [] h := by
    intro w47_0
    refine mm_aload_n C (mm_dec dk_X12_startOf 31 rfl) rfl ?_
    refine mm_iconst C (mm_dec dk_X12_startOf 32 rfl) ⟨by decide, by decide⟩ ?_
    refine mm_iload_n C (mm_dec dk_X12_startOf 33 rfl) rfl ?_
    refine mm_iload_n C (mm_dec dk_X12_startOf 34 rfl) rfl ?_
    refine mm_cVi (rest := []) C1 ev_X12_322 (mm_dec dk_X12_startOf 35 rfl) (c_X12_latest_q x.2.1 hl (d - 1) (by omega) h i0 0 p1 p2) rfl rfl (Nat.le_of_ble_eq_true rfl) ⟨by decide, by decide⟩ rfl (fun r51 h51c hp51 => ?_) (fun _ _ q => q.elim)
    obtain ⟨b51, z51, y51_0⟩ := hp51
    rw [z51]
    refine mm_istore_nL (ls2 := [mR 66, mI p1, mI p2, mI r51]) C (mm_dec dk_X12_startOf 36 rfl) (by decide) rfl ?_
    refine mm_iload_n C (mm_dec dk_X12_startOf 37 rfl) rfl ?_
    refine mm_iconst C (mm_dec dk_X12_startOf 38 rfl) ⟨by decide, by decide⟩ ?_
    have J70 : ∀ (s70_0 : Int) (bs70_0 : -2147483648 ≤ s70_0 ∧ s70_0 ≤ 2147483647) (w70_0 : ((r51 = -1 ∧ s70_0 = -1) ∨ (r51 ≠ -1 ∧ s70_0 = h.2.1 95 r51))), mm_W x 0 0 70 [mU, mU, mU, mU] [mI s70_0] h := by
      intro s70_0 bs70_0 w70_0
      exact mm_iret C T (mm_dec dk_X12_startOf 46 rfl) (by decide : 0 ≤ 0) (by decide : 0 ≤ 0) ⟨_, rfl, ⟨⟨by omega, by omega⟩, rfl, by first | exact Or.inl ⟨w47_0, r51, y51_0, by omega⟩ | exact Or.inr ⟨by omega, by omega, y43_0⟩⟩⟩
    refine mm_icmp_ne (tgt := 64) C (mm_dec dk_X12_startOf 39 rfl) (by decide) (fun c57 => ?_) (fun c57 => ?_)
    · skip
      refine mm_aload_n C (mm_dec dk_X12_startOf 42 rfl) rfl ?_
      refine mm_getr (t := 95) C fl_X12_96 (mm_dec dk_X12_startOf 43 rfl) rfl rfl (mm_ref i0 rfl) ?_
      refine mm_iload_n C (mm_dec dk_X12_startOf 44 rfl) rfl ?_
      refine mm_iald C (mm_dec dk_X12_startOf 45 rfl) rfl (by omega) (by omega) ?_
      have g3 : -2147483648 ≤ (h.2.1 95 r51) ∧ (h.2.1 95 r51) ≤ 2147483647 := i0.2.1 95 r51
      refine mm_fgt 0 ?_
      refine mm_fgt 1 ?_
      refine mm_fgt 2 ?_
      refine mm_fgt 3 ?_
      exact J70 (h.2.1 95 r51) ⟨by omega, by omega⟩ (by omega)
    · skip
      refine mm_iconst C (mm_dec dk_X12_startOf 40 rfl) ⟨by decide, by decide⟩ ?_
      refine mm_goto (tgt := 70) C (mm_dec dk_X12_startOf 41 rfl) (by decide) ?_
      refine mm_fgt 0 ?_
      refine mm_fgt 1 ?_
      refine mm_fgt 2 ?_
      refine mm_fgt 3 ?_
      exact J70 (-1) ⟨by omega, by omega⟩ (by omega)
  refine mm_icmp_eq (tgt := 47) C (mm_dec dk_X12_startOf 5 rfl) (by decide) (fun c7 => ?_) (fun c7 => ?_)
  · skip
    exact J47 (by omega)
  · skip
    refine mm_aload_n C (mm_dec dk_X12_startOf 6 rfl) rfl ?_
    refine mm_getr (t := 89) C fl_X12_78 (mm_dec dk_X12_startOf 7 rfl) rfl rfl (mm_ref i0 rfl) ?_
    refine mm_iload_n C (mm_dec dk_X12_startOf 8 rfl) rfl ?_
    refine mm_iald C (mm_dec dk_X12_startOf 9 rfl) rfl (by omega) (by omega) ?_
    have g4 : 0 ≤ (h.2.1 89 p1) ∧ (h.2.1 89 p1) ≤ 2 := i0.2.1 89 p1
    refine mm_if_le (tgt := 47) C (mm_dec dk_X12_startOf 10 rfl) (by decide) (fun c16 => ?_) (fun c16 => ?_)
    · skip
      exact J47 (by omega)
    · skip
      refine mm_aload_n C (mm_dec dk_X12_startOf 11 rfl) rfl ?_
      refine mm_aload_n C (mm_dec dk_X12_startOf 12 rfl) rfl ?_
      refine mm_getr (t := 90) C fl_X12_81 (mm_dec dk_X12_startOf 13 rfl) rfl rfl (mm_ref i0 rfl) ?_
      refine mm_iconst C (mm_dec dk_X12_startOf 14 rfl) ⟨by decide, by decide⟩ ?_
      refine mm_aload_n C (mm_dec dk_X12_startOf 15 rfl) rfl ?_
      refine mm_getr (t := 88) C fl_X12_75 (mm_dec dk_X12_startOf 16 rfl) rfl rfl (mm_ref i0 rfl) ?_
      refine mm_iload_n C (mm_dec dk_X12_startOf 17 rfl) rfl ?_
      refine mm_iald C (mm_dec dk_X12_startOf 18 rfl) rfl (by omega) (by omega) ?_
      refine mm_imul C (mm_dec dk_X12_startOf 19 rfl) ⟨by omega, by omega⟩ ?_
      refine mm_aload_n C (mm_dec dk_X12_startOf 20 rfl) rfl ?_
      refine mm_getr (t := 89) C fl_X12_78 (mm_dec dk_X12_startOf 21 rfl) rfl rfl (mm_ref i0 rfl) ?_
      refine mm_iload_n C (mm_dec dk_X12_startOf 22 rfl) rfl ?_
      refine mm_iald C (mm_dec dk_X12_startOf 23 rfl) rfl (by omega) (by omega) ?_
      refine mm_iadd C (mm_dec dk_X12_startOf 24 rfl) ⟨by omega, by omega⟩ ?_
      refine mm_iconst C (mm_dec dk_X12_startOf 25 rfl) ⟨by decide, by decide⟩ ?_
      refine mm_isub C (mm_dec dk_X12_startOf 26 rfl) ⟨by omega, by omega⟩ ?_
      refine mm_iald C (mm_dec dk_X12_startOf 27 rfl) rfl (by omega) (by omega) ?_
      have g5 : 0 ≤ (h.2.1 90 (((3 * (h.2.1 88 p1)) + (h.2.1 89 p1)) - 1)) ∧ (h.2.1 90 (((3 * (h.2.1 88 p1)) + (h.2.1 89 p1)) - 1)) ≤ 39 := i0.2.1 90 (((3 * (h.2.1 88 p1)) + (h.2.1 89 p1)) - 1)
      refine mm_iload_n C (mm_dec dk_X12_startOf 28 rfl) rfl ?_
      refine mm_cVi (rest := []) C1 ev_X12_326 (mm_dec dk_X12_startOf 29 rfl) (c_X12_finishOf_q x.2.1 hl (d - 1) (by omega) h i0 (h.2.1 90 (((3 * (h.2.1 88 p1)) + (h.2.1 89 p1)) - 1)) p2 ⟨by omega, by omega⟩) rfl rfl (Nat.le_of_ble_eq_true rfl) ⟨by decide, by decide⟩ rfl (fun r43 h43c hp43 => ?_) (fun _ _ q => q.elim)
      obtain ⟨b43, z43, y43_0⟩ := hp43
      rw [z43]
      exact mm_iret C T (mm_dec dk_X12_startOf 30 rfl) (by decide : 0 ≤ 0) (by decide : 0 ≤ 0) ⟨_, rfl, ⟨⟨by omega, by omega⟩, rfl, by first | exact Or.inl ⟨w47_0, r51, y51_0, by omega⟩ | exact Or.inr ⟨by omega, by omega, y43_0⟩⟩⟩
