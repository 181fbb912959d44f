/-! ===== lengths: legs one after another ===== -/
/-- k legs are done: their sum, and where they end; Q tells a leg, T its goal -/
def mm_LW (Q : Int → Int → Int → Prop) (T : Int → Int) (s : Int) : Nat → Int → Int → Prop
  | 0, m, a => m = 0 ∧ a = s
  | k + 1, m, a => ∃ m' a' l, mm_LW Q T s k m' a' ∧ Q a' (T (k : Int)) l ∧ l ≠ -1 ∧ m = mm_w (m' + l) ∧ a = T (k : Int)
theorem mm_LW_0 {Q : Int → Int → Int → Prop} {T : Int → Int} {s : Int} : mm_LW Q T s 0 0 s := ⟨rfl, rfl⟩
theorem mm_LW_s {Q : Int → Int → Int → Prop} {T : Int → Int} {s i m a l t m' : Int} (w : mm_LW Q T s i.toNat m a) (i0 : 0 ≤ i) (q : Q a t l) (ht : t = T i) (l1 : l ≠ -1) (hm : m' = mm_w (m + l)) : mm_LW Q T s (i + 1).toNat m' t := by
  rw [show (i + 1).toNat = i.toNat + 1 by omega]
  refine ⟨m, a, l, w, ?_, l1, hm, ?_⟩
  · rw [Int.toNat_of_nonneg i0, ← ht]; exact q
  · rw [Int.toNat_of_nonneg i0]; exact ht
theorem mm_LW_un {Q Q' : Int → Int → Int → Prop} {T T' : Int → Int} {s : Int} {V : Int → Prop} (vs : V s) (k : Nat) (vt : ∀ j : Int, 0 ≤ j → j < k → V (T j)) (et : ∀ j : Int, 0 ≤ j → j < k → T' j = T j) (u : ∀ a b x y, V a → V b → Q a b x → Q' a b y → x = y) : ∀ m a m' a', mm_LW Q T s k m a → mm_LW Q' T' s k m' a' → m = m' ∧ a = a' ∧ V a := by
  induction k with
  | zero =>
    intro m a m' a' w w'
    obtain ⟨w1, w2⟩ := w
    obtain ⟨w3, w4⟩ := w'
    exact ⟨by omega, by omega, by rw [w2]; exact vs⟩
  | succ k ih =>
    intro m a m' a' w w'
    obtain ⟨m1, a1, l1, w1, w2, w3, w4, w5⟩ := w
    obtain ⟨m2, a2, l2, z1, z2, z3, z4, z5⟩ := w'
    have vk := vt (k : Int) (by omega) (by omega)
    have ek := et (k : Int) (by omega) (by omega)
    obtain ⟨y1, y2, y3⟩ := ih (fun j a b => vt j a (by omega)) (fun j a b => et j a (by omega)) m1 a1 m2 a2 w1 z1
    rw [ek, ← y2] at z2
    have y4 := u a1 (T (k : Int)) l1 l2 y3 vk w2 z2
    refine ⟨by rw [w4, z4, y1, y4], by rw [w5, z5, ek], by rw [w5]; exact vk⟩
/-- the whole length over n + 1 legs: the sum, or -1 where a leg isn't there -/
def mm_LR (Q : Int → Int → Int → Prop) (T : Int → Int) (s n r : Int) : Prop := (∃ a, mm_LW Q T s (n + 1).toNat r a) ∨ (r = -1 ∧ ∃ k m a, 0 ≤ k ∧ k ≤ n ∧ mm_LW Q T s k.toNat m a ∧ Q a (T k) (-1))
theorem mm_LW_pre {Q : Int → Int → Int → Prop} {T : Int → Int} {s : Int} (k d : Nat) : ∀ m a, mm_LW Q T s (k + d + 1) m a → ∃ m' a' l, mm_LW Q T s k m' a' ∧ Q a' (T (k : Int)) l ∧ l ≠ -1 := by
  induction d with
  | zero =>
    intro m a w
    obtain ⟨m1, a1, l1, w1, w2, w3, _, _⟩ := w
    exact ⟨m1, a1, l1, w1, w2, w3⟩
  | succ d ih =>
    intro m a w
    obtain ⟨m1, a1, l1, w1, _⟩ := w
    exact ih m1 a1 w1
theorem mm_LR_un {Q Q' : Int → Int → Int → Prop} {T T' : Int → Int} {s n r r' : Int} {V : Int → Prop} (n0 : 0 ≤ n) (vs : V s) (vt : ∀ j : Int, 0 ≤ j → j ≤ n → V (T j)) (et : ∀ j : Int, 0 ≤ j → j ≤ n → T' j = T j) (u : ∀ a b x y, V a → V b → Q a b x → Q' a b y → x = y) (A : mm_LR Q T s n r) (B : mm_LR Q' T' s n r') : r = r' := by
  have un : ∀ k : Nat, (k : Int) ≤ n + 1 → ∀ m a m' a', mm_LW Q T s k m a → mm_LW Q' T' s k m' a' → m = m' ∧ a = a' ∧ V a := fun k hk => mm_LW_un vs k (fun j a b => vt j a (by omega)) (fun j a b => et j a (by omega)) u
  have clash : ∀ k : Int, 0 ≤ k → k ≤ n → ∀ m a m' a' l, mm_LW Q T s k.toNat m a → mm_LW Q' T' s k.toNat m' a' → Q a (T k) l → Q' a' (T' k) (-1) → l = -1 := fun k k0 k1 m a m' a' l w w' q q' => by
    obtain ⟨_, y2, y3⟩ := un k.toNat (by omega) m a m' a' w w'
    rw [et k k0 k1, ← y2] at q'
    exact u a (T k) l (-1) y3 (vt k k0 k1) q q'
  have clash2 : ∀ k : Int, 0 ≤ k → k ≤ n → ∀ m a m' a' l, mm_LW Q T s k.toNat m a → mm_LW Q' T' s k.toNat m' a' → Q a (T k) (-1) → Q' a' (T' k) l → l = -1 := fun k k0 k1 m a m' a' l w w' q q' => by
    obtain ⟨_, y2, y3⟩ := un k.toNat (by omega) m a m' a' w w'
    rw [et k k0 k1, ← y2] at q'
    exact (u a (T k) (-1) l y3 (vt k k0 k1) q q').symm
  rcases A with ⟨a, wa⟩ | ⟨ra, k, m, a, k0, k1, wk, qk⟩
  · rcases B with ⟨b, wb⟩ | ⟨rb, k, m, a', k0, k1, wk, qk⟩
    · exact (un (n + 1).toNat (by omega) r a r' b wa wb).1
    · exfalso
      rw [show (n + 1).toNat = k.toNat + (n - k).toNat + 1 by omega] at wa
      obtain ⟨m1, a1, l1, w1, w2, w3⟩ := mm_LW_pre _ _ _ _ wa
      rw [Int.toNat_of_nonneg k0] at w2
      exact w3 (clash k k0 k1 m1 a1 m a' l1 w1 wk w2 qk)
  · rcases B with ⟨b, wb⟩ | ⟨rb, _⟩
    · exfalso
      rw [show (n + 1).toNat = k.toNat + (n - k).toNat + 1 by omega] at wb
      obtain ⟨m1, a1, l1, w1, w2, w3⟩ := mm_LW_pre _ _ _ _ wb
      rw [Int.toNat_of_nonneg k0] at w2
      exact w3 (clash2 k k0 k1 m a m1 a1 l1 wk w1 qk w2)
    · rw [ra, rb]
/-- a leg of the class, of the reference -/
def mm_lgX (h : mH) (a b l : Int) : Prop := ∀ d, mm_MS h b d → mm_inl h a → l = mm_dq (d a)
def mm_lgY (h : mH) (a b l : Int) : Prop := ∃ hT : mH, mm_inv hT ∧ mm_lnd h hT ∧ mm_FT hT b ∧ l = mm_ry hT a
/-! ===== finish, where posts stand, what courses name ===== -/
def mm_gn (h : mH) : Prop := h.1 1 8 = 20 * h.1 66 12 + h.1 66 11 ∧ h.1 66 11 < h.1 1 5 ∧ h.1 66 12 < h.1 1 6
theorem mm_gn_sm {h h2 : mH} (G : mm_gn h) (a1 : h2.1 1 8 = h.1 1 8) (a2 : h2.1 66 12 = h.1 66 12) (a3 : h2.1 66 11 = h.1 66 11) (a4 : h2.1 1 5 = h.1 1 5) (a5 : h2.1 1 6 = h.1 1 6) : mm_gn h2 := by
  unfold mm_gn at G ⊢; omega
def mm_pc (h : mH) : Prop := ∀ j, 0 ≤ j → j ≤ h.1 14 7 - 1 → mm_inl h (h.2.1 15 j)
theorem mm_inl_sm {h h2 : mH} {c : Int} (v : mm_inl h c) (a4 : h2.1 1 5 = h.1 1 5) (a5 : h2.1 1 6 = h.1 1 6) : mm_inl h2 c := by
  unfold mm_inl at v ⊢; omega
theorem mm_pc_sm {h h2 : mH} (T : mm_pc h) (e : ∀ j, h2.2.1 15 j = h.2.1 15 j) (n : h2.1 14 7 = h.1 14 7) (a4 : h2.1 1 5 = h.1 1 5) (a5 : h2.1 1 6 = h.1 1 6) : mm_pc h2 := fun j a b => by
  rw [e]; exact mm_inl_sm (T j a (by omega)) a4 a5
theorem mm_pc_nil {h : mH} (n : h.1 14 7 = 0) : mm_pc h := fun j a b => absurd (Int.le_trans a b) (by omega)
theorem mm_pc_post {h h1 h2 : mH} {c f : Int} (T : mm_pc h) (u : mm_up h h1 15 (h.1 14 7) c f) (e : ∀ j, h2.2.1 15 j = h1.2.1 15 j) (a4 : h2.1 1 5 = h.1 1 5) (a5 : h2.1 1 6 = h.1 1 6) (m : (f = 1 ∧ h2.1 14 7 = h.1 14 7 + 1 ∧ mm_inl h c) ∨ (f = 0 ∧ h2.1 14 7 = h.1 14 7)) : mm_pc h2 := fun j a b => by
  rw [e, u j]
  by_cases q : j = h.1 14 7 ∧ f = 1
  · rw [if_pos q]
    rcases m with ⟨_, _, v⟩ | ⟨m1, _⟩
    · exact mm_inl_sm v a4 a5
    · have := q.2; omega
  · rw [if_neg q]
    exact mm_inl_sm (T j a (by rcases m with ⟨m1, m2, _⟩ | ⟨_, m2⟩ <;> omega)) a4 a5
def mm_bv (h : mH) : Prop := ∀ c, 0 ≤ c → c ≤ h.1 14 8 - 1 → ∀ i, 0 ≤ i → i ≤ h.2.1 19 c - 1 → ∀ k, 0 ≤ k → k ≤ 2 → 0 ≤ h.2.1 21 (36 * c + 3 * i + k) ∧ h.2.1 21 (36 * c + 3 * i + k) ≤ h.1 14 7 - 1
theorem mm_bv_sm {h h2 : mH} (T : mm_bv h) (e21 : ∀ j, h2.2.1 21 j = h.2.1 21 j) (e19 : ∀ j, h2.2.1 19 j = h.2.1 19 j) (n : h2.1 14 8 = h.1 14 8) (m : h.1 14 7 ≤ h2.1 14 7) : mm_bv h2 := fun c c0 c1 i i0 i1 k k0 k1 => by
  rw [e21]
  have t := T c c0 (by omega) i i0 (by rw [e19] at i1; exact i1) k k0 k1
  omega
theorem mm_bv_nil {h : mH} (n : h.1 14 8 = 0) : mm_bv h := fun c x y => absurd (Int.le_trans x y) (by omega)
theorem mm_bv_course {h h1 h2 : mH} {f : Int} (T : mm_bv h) (u : mm_up h h1 19 (h.1 14 8) 0 f) (e19 : ∀ j, h2.2.1 19 j = h1.2.1 19 j) (e21 : ∀ j, h2.2.1 21 j = h.2.1 21 j) (m : (f = 1 ∧ h2.1 14 8 = h.1 14 8 + 1) ∨ (f = 0 ∧ h2.1 14 8 = h.1 14 8)) (n7 : h2.1 14 7 = h.1 14 7) : mm_bv h2 := fun c c0 c1 i i0 i1 k k0 k1 => by
  rw [e19, u c] at i1
  by_cases q : c = h.1 14 8 ∧ f = 1
  · rw [if_pos q] at i1; omega
  · rw [if_neg q] at i1
    rw [e21]
    have t := T c c0 (by omega) i i0 i1 k k0 k1
    omega
theorem mm_bv_add {h h1 h2 : mH} {p a b c f s B : Int} (T : mm_bv h) (hs : s = h.2.1 19 p) (s0 : 0 ≤ s) (s1 : ∀ j, h.2.1 19 j ≤ 12) (sf : f = 1 → s ≤ 11) (u19 : mm_up h h1 19 p (s + 1) f) (e19 : ∀ j, h2.2.1 19 j = h1.2.1 19 j) (u : mm_w3 h h1 21 B a b c f) (e21 : ∀ j, h2.2.1 21 j = h1.2.1 21 j) (hB : f = 1 → B = 36 * p + 3 * s) (n : h2.1 14 8 = h.1 14 8) (n7 : h2.1 14 7 = h.1 14 7) (g : f = 1 → 0 ≤ a ∧ a < h.1 14 7 ∧ 0 ≤ b ∧ b < h.1 14 7 ∧ 0 ≤ c ∧ c < h.1 14 7) : mm_bv h2 := fun k k0 k1 i i0 i1 x x0 x1 => by
  rw [e19, u19 k] at i1
  rw [e21, u]
  by_cases q : f = 1
  · have eB := hB q
    have s11 := sf q
    have sk := s1 k
    have gq := g q
    by_cases r : k = p ∧ i = s
    · obtain ⟨r1, r2⟩ := r
      subst r1
      subst r2
      have xc : x = 0 ∨ x = 1 ∨ x = 2 := by omega
      rcases xc with y | y | y <;> subst y
      · rw [if_pos ⟨q, by omega⟩]; omega
      · rw [if_neg (fun z => by omega), if_pos ⟨q, by omega⟩]; omega
      · rw [if_neg (fun z => by omega), if_neg (fun z => by omega), if_pos ⟨q, by omega⟩]; omega
    · have ik : i ≤ h.2.1 19 k - 1 := by
        by_cases y : k = p
        · subst y
          rw [if_pos ⟨rfl, q⟩] at i1
          omega
        · rw [if_neg (fun z => y z.1)] at i1; exact i1
      rw [if_neg (fun z => by omega), if_neg (fun z => by omega), if_neg (fun z => by omega)]
      have t := T k k0 (by omega) i i0 ik x x0 x1
      omega
  · rw [if_neg (fun z => q z.2)] at i1
    rw [if_neg (fun z => q z.1), if_neg (fun z => q z.1), if_neg (fun z => q z.1)]
    have t := T k k0 (by omega) i i0 i1 x x0 x1
    omega
/-! legs over heaps that keep the land -/
theorem mm_lgX_fr {h h' : mH} (e : mm_ldx h h') {a b l : Int} (y : mm_lgX h' a b l) : mm_lgX h a b l := fun d M v => by
  have z := mm_ldx_eq e
  refine y d ?_ (by rw [z.1]; exact v)
  unfold mm_MS at M ⊢
  rw [z.1, z.2.1, z.2.2.1, e.2.2.2.2.2.2]
  exact M
theorem mm_lgX_of {h h1 : mH} {a b l : Int} (y : ∀ d, mm_MS h b d → mm_inl h a → h1.2.1 8 a = d a) (q : (h1.2.1 8 a = 2000000000 ∧ l = -1) ∨ (h1.2.1 8 a ≠ 2000000000 ∧ l = mm_w (Int.tdiv (h1.2.1 8 a) 512))) : mm_lgX h a b l := fun d M v => mm_dq_2 (y d M v) q
theorem mm_lgY_fr {h h' : mH} (e : mm_lnd h h') {a b l : Int} (y : mm_lgY h' a b l) : mm_lgY h a b l := by
  obtain ⟨hT, i, l1, F, r⟩ := y
  exact ⟨hT, i, mm_lnd_tr e l1, F, r⟩
theorem mm_lg_eq {h hy : mH} (i : mm_inv h) (hw : h.1 66 1 = h.1 1 5) (hh : h.1 66 2 = h.1 1 6) (E2 : mm_eq h 2 67 399) (E6 : mm_eq h 6 69 7) (E3 : mm_eq h 3 68 399) (E4 : mm_eq h 4 70 399) (E5 : mm_eq h 5 71 399) (c6 : h.2.1 6 8 = h.1 66 3) (L : mm_lnd h hy) : ∀ a b x y, mm_inl h a → mm_inl h b → mm_lgX h a b x → mm_lgY hy a b y → x = y := fun a b x y va vb X Y => by
  obtain ⟨hT, iT, lT, fT, rT⟩ := Y
  have w5 : 1 ≤ h.1 1 5 ∧ h.1 1 5 ≤ 20 := i.1 1 5
  have w6 : 1 ≤ h.1 1 6 ∧ h.1 1 6 ≤ 20 := i.1 1 6
  have M := mm_MS_of i iT hw hh E2 E6 E3 E4 E5 c6 (mm_lnd_tr L lT) fT vb
  rw [X _ M va, rT]
  unfold mm_inl at va
  exact mm_dq_eq (h := h) iT fT (by omega) (by omega)
theorem mm_LW_cg {Q Q' : Int → Int → Int → Prop} {T T' : Int → Int} {s : Int} (u : ∀ a b x, Q a b x → Q' a b x) (k : Nat) (et : ∀ j : Int, 0 ≤ j → j < k → T j = T' j) : ∀ m a, mm_LW Q T s k m a → mm_LW Q' T' s k m a := by
  induction k with
  | zero => intro m a w; exact w
  | succ k ih =>
    intro m a w
    obtain ⟨m1, a1, l1, w1, w2, w3, w4, w5⟩ := w
    have ek := et (k : Int) (by omega) (by omega)
    refine ⟨m1, a1, l1, ih (fun j a b => et j a (by omega)) m1 a1 w1, ?_, w3, w4, ?_⟩
    · rw [← ek]; exact u _ _ _ w2
    · rw [← ek]; exact w5
theorem mm_LR_cg {Q Q' : Int → Int → Int → Prop} {T T' : Int → Int} {s n r s' n' : Int} (A : mm_LR Q T s n r) (u : ∀ a b x, Q a b x → Q' a b x) (et : ∀ j : Int, 0 ≤ j → j ≤ n → T j = T' j) (n0 : 0 ≤ n) (es : s' = s) (en : n' = n) : mm_LR Q' T' s' n' r := by
  subst es
  subst en
  rcases A with ⟨a, w⟩ | ⟨ra, k, m, a, k0, k1, w, q⟩
  · exact Or.inl ⟨a, mm_LW_cg u _ (fun j a b => et j a (by omega)) _ _ w⟩
  · refine Or.inr ⟨ra, k, m, a, k0, k1, mm_LW_cg u _ (fun j a b => et j a (by omega)) _ _ w, ?_⟩
    rw [← et k k0 k1]; exact u _ _ _ q
/-- the row of runner p, as class and reference tell it; the cells it stops at -/
def mm_rX (h : mH) (p : Int) : Int → Int := mm_rr (h.2.1 21) (mm_fk (h.2.1 21) (h.2.1 23 p)) (h.2.1 23 p) (h.2.1 25 p)
def mm_nX (h : mH) (p : Int) : Int := h.2.1 19 (h.2.1 23 p)
def mm_tX (h : mH) (p : Int) (j : Int) : Int := if j < mm_nX h p then h.2.1 15 (mm_rX h p j) else h.1 1 8
def mm_rY (h : mH) (p : Int) : Int → Int := mm_rr (h.2.1 82) (fun j => h.2.1 84 (12 * h.2.1 85 p + j)) (h.2.1 85 p) (h.2.1 87 p)
def mm_nY (h : mH) (p : Int) : Int := h.2.1 80 (h.2.1 85 p)
def mm_tY (h : mH) (p : Int) (j : Int) : Int := if j < mm_nY h p then h.2.1 78 (mm_rY h p j) else 20 * h.1 66 12 + h.1 66 11
def mm_lX (h : mH) (p r : Int) : Prop := mm_LR (mm_lgX h) (mm_tX h p) (h.1 1 7) (mm_nX h p) r
def mm_lY (h : mH) (p r : Int) : Prop := mm_LR (mm_lgY h) (mm_tY h p) (20 * h.1 66 10 + h.1 66 9) (mm_nY h p) r
/-- what row answers -/
def mm_wX9 (h : mH) (p q r : Int) : Prop := (q = -1 ∧ r = mm_nX h p) ∨ (q = 100 ∧ mm_lX h p r) ∨ (0 ≤ q ∧ q < mm_nX h p ∧ r = mm_rX h p q)
def mm_wY9 (h : mH) (p q r : Int) : Prop := (q = -1 ∧ r = mm_nY h p) ∨ (q = 100 ∧ mm_lY h p r) ∨ (0 ≤ q ∧ q < mm_nY h p ∧ r = mm_rY h p q)
theorem mm_lX_of {h h1 : mH} {p n n1 r : Int} (hn : n = h.2.1 19 (h.2.1 23 p)) (W : mm_rw h1 61 (fun j => h.2.1 15 (mm_rr (h.2.1 21) (mm_fk (h.2.1 21) (h.2.1 23 p)) (h.2.1 23 p) (h.2.1 25 p) j)) n1) (en : n1 = n) (e : mm_ldx h h1) (e7 : h1.1 1 7 = h.1 1 7) (e8 : h1.1 1 8 = h.1 1 8) (n0 : 0 ≤ n) (A : mm_LR (mm_lgX h1) (fun j => if j < n1 then h1.2.1 61 j else h1.1 1 8) (h1.1 1 7) n1 r) : mm_lX h p r := by
  subst en
  refine mm_LR_cg A (fun a b x y => mm_lgX_fr e y) (fun j j0 j1 => ?_) n0 e7.symm hn.symm
  show (if j < n1 then h1.2.1 61 j else h1.1 1 8) = mm_tX h p j
  unfold mm_tX mm_nX
  rw [← hn]
  by_cases q : j < n1
  · rw [if_pos q, if_pos q]; exact W j j0 q
  · rw [if_neg q, if_neg q]; exact e8
theorem mm_tY_in {h h1 : mH} {p j : Int} (W : mm_rw h1 91 (mm_rY h p) (mm_nY h p)) (e : ∀ j, h1.2.1 78 j = h.2.1 78 j) (j0 : 0 ≤ j) (j1 : j < mm_nY h p) : h1.2.1 78 (h1.2.1 91 j) = mm_tY h p j := by
  unfold mm_tY; rw [if_pos j1, W j j0 j1, e]
theorem mm_tY_out {h : mH} {p j v : Int} (j1 : mm_nY h p ≤ j) (e : v = 20 * h.1 66 12 + h.1 66 11) : v = mm_tY h p j := by
  unfold mm_tY; rw [if_neg (by omega)]; exact e
theorem mm_rY_fr {h h1 : mH} (p : Int) (e80 : ∀ j, h1.2.1 80 j = h.2.1 80 j) (e82 : ∀ j, h1.2.1 82 j = h.2.1 82 j) (e84 : ∀ j, h1.2.1 84 j = h.2.1 84 j) (e85 : ∀ j, h1.2.1 85 j = h.2.1 85 j) (e87 : ∀ j, h1.2.1 87 j = h.2.1 87 j) : mm_rY h1 p = mm_rY h p ∧ mm_nY h1 p = mm_nY h p := by
  have E82 : h1.2.1 82 = h.2.1 82 := funext e82
  have E84 : h1.2.1 84 = h.2.1 84 := funext e84
  unfold mm_rY mm_nY
  rw [E82, E84, e85, e87, e80]
  exact ⟨rfl, rfl⟩
theorem mm_lY_fr {h h1 : mH} {p r : Int} (A : mm_lY h1 p r) (L : mm_lnd h h1) (e78 : ∀ j, h1.2.1 78 j = h.2.1 78 j) (e80 : ∀ j, h1.2.1 80 j = h.2.1 80 j) (e82 : ∀ j, h1.2.1 82 j = h.2.1 82 j) (e84 : ∀ j, h1.2.1 84 j = h.2.1 84 j) (e85 : ∀ j, h1.2.1 85 j = h.2.1 85 j) (e87 : ∀ j, h1.2.1 87 j = h.2.1 87 j) (a9 : h1.1 66 9 = h.1 66 9) (a10 : h1.1 66 10 = h.1 66 10) (a11 : h1.1 66 11 = h.1 66 11) (a12 : h1.1 66 12 = h.1 66 12) (n0 : 0 ≤ mm_nY h p) : mm_lY h p r := by
  have z := mm_rY_fr p e80 e82 e84 e85 e87
  refine mm_LR_cg A (fun a b x y => mm_lgY_fr L y) (fun j _ _ => ?_) (by rw [z.2]; exact n0) (by rw [a9, a10]) z.2.symm
  unfold mm_tY
  rw [z.1, z.2, a11, a12, e78]
theorem mm_wY9_fr {h h1 : mH} {p q r : Int} (A : mm_wY9 h1 p q r) (L : mm_lnd h h1) (e78 : ∀ j, h1.2.1 78 j = h.2.1 78 j) (e80 : ∀ j, h1.2.1 80 j = h.2.1 80 j) (e82 : ∀ j, h1.2.1 82 j = h.2.1 82 j) (e84 : ∀ j, h1.2.1 84 j = h.2.1 84 j) (e85 : ∀ j, h1.2.1 85 j = h.2.1 85 j) (e87 : ∀ j, h1.2.1 87 j = h.2.1 87 j) (a9 : h1.1 66 9 = h.1 66 9) (a10 : h1.1 66 10 = h.1 66 10) (a11 : h1.1 66 11 = h.1 66 11) (a12 : h1.1 66 12 = h.1 66 12) (n0 : 0 ≤ mm_nY h p) : mm_wY9 h p q r := by
  have z := mm_rY_fr p e80 e82 e84 e85 e87
  rcases A with ⟨a, b⟩ | ⟨a, b⟩ | ⟨a, b, c⟩
  · exact Or.inl ⟨a, by rw [← z.2]; exact b⟩
  · exact Or.inr (Or.inl ⟨a, mm_lY_fr b L e78 e80 e82 e84 e85 e87 a9 a10 a11 a12 n0⟩)
  · exact Or.inr (Or.inr ⟨a, by rw [← z.2]; exact b, by rw [← z.1]; exact c⟩)
/-- runner p's course, and what is told of it -/
def mm_RW (h : mH) : Prop := (mm_inv h) ∧ (h.1 66 1 = h.1 1 5) ∧ (h.1 66 2 = h.1 1 6) ∧ (h.1 14 8 = h.1 66 22) ∧ (h.1 22 8 = h.1 66 23) ∧ (mm_eq h 2 67 399) ∧ (mm_eq h 6 69 7) ∧ (mm_eq h 3 68 399) ∧ (mm_eq h 4 70 399) ∧ (mm_eq h 5 71 399) ∧ (mm_go h) ∧ (mm_gn h) ∧ (mm_pc h) ∧ (mm_bv h) ∧ (mm_br h) ∧ (mm_cb h) ∧ (mm_eq h 15 78 (h.1 14 7 - 1)) ∧ (mm_eq h 19 80 (h.1 14 8 - 1)) ∧ (mm_eq h 23 85 (h.1 22 8 - 1)) ∧ (mm_eq h 25 87 (h.1 22 8 - 1))
theorem mm_RW.inv {h : mH} (R : mm_RW h) : mm_inv h := R.1
theorem mm_RW.w {h : mH} (R : mm_RW h) : h.1 66 1 = h.1 1 5 := R.2.1
theorem mm_RW.hh {h : mH} (R : mm_RW h) : h.1 66 2 = h.1 1 6 := R.2.2.1
theorem mm_RW.cs {h : mH} (R : mm_RW h) : h.1 14 8 = h.1 66 22 := R.2.2.2.1
theorem mm_RW.rs {h : mH} (R : mm_RW h) : h.1 22 8 = h.1 66 23 := R.2.2.2.2.1
theorem mm_RW.E2 {h : mH} (R : mm_RW h) : mm_eq h 2 67 399 := R.2.2.2.2.2.1
theorem mm_RW.E6 {h : mH} (R : mm_RW h) : mm_eq h 6 69 7 := R.2.2.2.2.2.2.1
theorem mm_RW.E3 {h : mH} (R : mm_RW h) : mm_eq h 3 68 399 := R.2.2.2.2.2.2.2.1
theorem mm_RW.E4 {h : mH} (R : mm_RW h) : mm_eq h 4 70 399 := R.2.2.2.2.2.2.2.2.1
theorem mm_RW.E5 {h : mH} (R : mm_RW h) : mm_eq h 5 71 399 := R.2.2.2.2.2.2.2.2.2.1
theorem mm_RW.go {h : mH} (R : mm_RW h) : mm_go h := R.2.2.2.2.2.2.2.2.2.2.1
theorem mm_RW.gn {h : mH} (R : mm_RW h) : mm_gn h := R.2.2.2.2.2.2.2.2.2.2.2.1
theorem mm_RW.pc {h : mH} (R : mm_RW h) : mm_pc h := R.2.2.2.2.2.2.2.2.2.2.2.2.1
theorem mm_RW.bv {h : mH} (R : mm_RW h) : mm_bv h := R.2.2.2.2.2.2.2.2.2.2.2.2.2.1
theorem mm_RW.br {h : mH} (R : mm_RW h) : mm_br h := R.2.2.2.2.2.2.2.2.2.2.2.2.2.2.1
theorem mm_RW.cb {h : mH} (R : mm_RW h) : mm_cb h := R.2.2.2.2.2.2.2.2.2.2.2.2.2.2.2.1
theorem mm_RW.E15 {h : mH} (R : mm_RW h) : mm_eq h 15 78 (h.1 14 7 - 1) := R.2.2.2.2.2.2.2.2.2.2.2.2.2.2.2.2.1
theorem mm_RW.E19 {h : mH} (R : mm_RW h) : mm_eq h 19 80 (h.1 14 8 - 1) := R.2.2.2.2.2.2.2.2.2.2.2.2.2.2.2.2.2.1
theorem mm_RW.E23 {h : mH} (R : mm_RW h) : mm_eq h 23 85 (h.1 22 8 - 1) := R.2.2.2.2.2.2.2.2.2.2.2.2.2.2.2.2.2.2.1
theorem mm_RW.E25 {h : mH} (R : mm_RW h) : mm_eq h 25 87 (h.1 22 8 - 1) := R.2.2.2.2.2.2.2.2.2.2.2.2.2.2.2.2.2.2.2
theorem mm_RW_c {h : mH} (R : mm_RW h) {p : Int} (p0 : 0 ≤ p) (p1 : p < h.1 22 8) : h.2.1 23 p = h.2.1 85 p ∧ h.2.1 25 p = h.2.1 87 p ∧ 0 ≤ h.2.1 23 p ∧ h.2.1 23 p ≤ h.1 14 8 - 1 ∧ mm_nY h p = mm_nX h p ∧ 0 ≤ mm_nX h p ∧ mm_nX h p ≤ 12 := by
  have a := R.E23 p p0 (by omega)
  have b := R.E25 p p0 (by omega)
  have c := R.cb p p0 (by have := R.rs; omega)
  have d : 0 ≤ h.2.1 23 p ∧ h.2.1 23 p ≤ 7 := R.inv.2.1 23 p
  have cs := R.cs
  have e := R.E19 (h.2.1 23 p) d.1 (by omega)
  have f : 0 ≤ h.2.1 19 (h.2.1 23 p) ∧ h.2.1 19 (h.2.1 23 p) ≤ 12 := R.inv.2.1 19 _
  refine ⟨a, b, d.1, by omega, ?_, f.1, f.2⟩
  unfold mm_nY mm_nX
  rw [← a]; exact e.symm
theorem mm_RW_r {h : mH} (R : mm_RW h) {p : Int} (p0 : 0 ≤ p) (p1 : p < h.1 22 8) (j : Int) (j0 : 0 ≤ j) (j1 : j < mm_nX h p) : mm_rX h p j = mm_rY h p j ∧ 0 ≤ mm_rX h p j ∧ mm_rX h p j ≤ h.1 14 7 - 1 := by
  obtain ⟨a, b, c0, c1, n1, n2, n3⟩ := mm_RW_c R p0 p1
  have v0 : ∀ k, 0 ≤ mm_dv (h.2.1 25 p) k % 3 ∧ mm_dv (h.2.1 25 p) k % 3 ≤ 2 := fun k => by omega
  refine ⟨?_, ?_⟩
  · unfold mm_rX mm_rY
    rw [← a, ← b]
    exact mm_rr_eq R.br c0 c1 (Int.le_refl _) v0 j j0 j1
  · unfold mm_rX mm_rr
    have t := fun k => R.bv (h.2.1 23 p) c0 c1 j j0 (by unfold mm_nX at j1; omega) k
    split
    · exact t _ (v0 _).1 (v0 _).2
    · have z := t 0 (by decide) (by decide)
      rw [Int.add_zero] at z
      exact z
theorem mm_len_eq {h h1 : mH} (R : mm_RW h) {p r r' : Int} (p0 : 0 ≤ p) (p1 : p < h.1 22 8) (X : mm_lX h p r) (Y : mm_lY h p r') : r = r' := by
  obtain ⟨a, b, c0, c1, n1, n2, n3⟩ := mm_RW_c R p0 p1
  have w5 : 1 ≤ h.1 1 5 ∧ h.1 1 5 ≤ 20 := R.inv.1 1 5
  have w6 : 1 ≤ h.1 1 6 ∧ h.1 1 6 ≤ 20 := R.inv.1 1 6
  have x9 : 0 ≤ h.1 66 9 ∧ h.1 66 9 ≤ 19 := R.inv.1 66 9
  have x10 : 0 ≤ h.1 66 10 ∧ h.1 66 10 ≤ 19 := R.inv.1 66 10
  have x11 : 0 ≤ h.1 66 11 ∧ h.1 66 11 ≤ 19 := R.inv.1 66 11
  have x12 : 0 ≤ h.1 66 12 ∧ h.1 66 12 ≤ 19 := R.inv.1 66 12
  have go := R.go
  have gn := R.gn
  unfold mm_go at go
  unfold mm_gn at gn
  unfold mm_lX at X
  unfold mm_lY at Y
  rw [n1, ← go.1] at Y
  refine mm_LR_un (V := mm_inl h) n2 ?_ (fun j j0 j1 => ?_) (fun j j0 j1 => ?_) (mm_lg_eq R.inv R.w R.hh R.E2 R.E6 R.E3 R.E4 R.E5 go.2.2.2 ⟨rfl, rfl, rfl, fun _ => rfl, fun _ => rfl, fun _ => rfl, fun _ => rfl, fun _ => rfl⟩) X Y
  · unfold mm_inl; omega
  · unfold mm_tX
    split
    · rename_i q
      have z := (mm_RW_r R p0 p1 j j0 q).2
      exact R.pc _ z.1 z.2
    · unfold mm_inl; omega
  · unfold mm_tX mm_tY
    rw [n1]
    by_cases q : j < mm_nX h p
    · rw [if_pos q, if_pos q]
      have z := mm_RW_r R p0 p1 j j0 q
      rw [← z.1]
      exact (R.E15 _ z.2.1 z.2.2).symm
    · rw [if_neg q, if_neg q]; exact gn.1.symm
theorem mm_row_eq {h : mH} (R : mm_RW h) {p q r r' : Int} (p0 : 0 ≤ p) (p1 : p < h.1 22 8) (X : mm_wX9 h p q r) (Y : mm_wY9 h p q r') : r = r' := by
  obtain ⟨a, b, c0, c1, n1, n2, n3⟩ := mm_RW_c R p0 p1
  unfold mm_wX9 at X
  unfold mm_wY9 at Y
  rw [n1] at Y
  rcases X with ⟨x1, x2⟩ | ⟨x1, x2⟩ | ⟨x1, x2, x3⟩
  · rcases Y with ⟨y1, y2⟩ | ⟨y1, y2⟩ | ⟨y1, y2, y3⟩
    · rw [x2, y2]
    · omega
    · omega
  · rcases Y with ⟨y1, y2⟩ | ⟨y1, y2⟩ | ⟨y1, y2, y3⟩
    · omega
    · exact mm_len_eq (h1 := h) R p0 p1 x2 y2
    · omega
  · rcases Y with ⟨y1, y2⟩ | ⟨y1, y2⟩ | ⟨y1, y2, y3⟩
    · omega
    · omega
    · rw [x3, y3]; exact (mm_RW_r R p0 p1 q x1 x2).1
theorem mm_br_add2 {h h1 h2 : mH} {p a b c f f' X : Int} (T : mm_br h) (i0 : mm_inv h) (u19 : mm_up h h1 19 p (h.2.1 19 p + 1) f) (e19 : ∀ j, h2.2.1 19 j = h1.2.1 19 j) (u : mm_w3 h h1 21 ((p * 12 + h.2.1 19 p) * 3) a b c f) (e21 : ∀ j, h2.2.1 21 j = h1.2.1 21 j) (w : mm_w3 h1 h2 82 (3 * (12 * p + X)) a b c f') (g82 : ∀ j, h1.2.1 82 j = h.2.1 82 j) (W : ∃ v9 : Int, ((v9 = 1 ∧ a ≠ b) ∨ (v9 = 0 ∧ a = b)) ∧ mm_up h1 h2 84 (12 * p + X) v9 f') (g84 : ∀ j, h1.2.1 84 j = h.2.1 84 j) (ff : f = f') (sf : f ≠ 1 ∨ (h.2.1 19 p ≤ 11 ∧ h.2.1 19 p = X)) (n : h2.1 14 8 = h.1 14 8) : mm_br h2 := by
  obtain ⟨v9, v, w84⟩ := W
  by_cases q : f = 1
  · obtain ⟨s1, s2⟩ := sf.resolve_left (fun z => z q)
    subst s2
    exact mm_br_add T rfl (i0.2.1 19 p).1 (fun j => (i0.2.1 19 j).2) (fun _ => s1) u19 e19 u e21 w g82 w84 g84 (fun _ => by omega) (by omega) ff (by rw [ff]) v n
  · refine mm_br_sm T (fun j => ?_) (fun j => ?_) (fun j => ?_) (fun j => ?_) n
    · rw [e21, u j, if_neg (fun z => q z.1), if_neg (fun z => q z.1), if_neg (fun z => q z.1)]
    · rw [w j, if_neg (fun z => q (ff.trans z.1)), if_neg (fun z => q (ff.trans z.1)), if_neg (fun z => q (ff.trans z.1)), g82]
    · rw [w84 j, if_neg (fun z => q (ff.trans z.2)), g84]
    · rw [e19, u19 j, if_neg (fun z => q z.2)]
theorem mm_bv_add2 {h h1 h2 : mH} {p a b c f : Int} (T : mm_bv h) (i0 : mm_inv h) (u19 : mm_up h h1 19 p (h.2.1 19 p + 1) f) (e19 : ∀ j, h2.2.1 19 j = h1.2.1 19 j) (u : mm_w3 h h1 21 ((p * 12 + h.2.1 19 p) * 3) a b c f) (e21 : ∀ j, h2.2.1 21 j = h1.2.1 21 j) (n : h2.1 14 8 = h.1 14 8) (n7 : h2.1 14 7 = h.1 14 7) (g : f ≠ 1 ∨ (h.2.1 19 p ≤ 11 ∧ 0 ≤ a ∧ a < h.1 14 7 ∧ 0 ≤ b ∧ b < h.1 14 7 ∧ 0 ≤ c ∧ c < h.1 14 7)) : mm_bv h2 :=
  mm_bv_add T rfl (i0.2.1 19 p).1 (fun j => (i0.2.1 19 j).2) (fun q => (g.resolve_left (fun z => z q)).1) u19 e19 u e21 (fun _ => by omega) n n7 (fun q => (g.resolve_left (fun z => z q)).2)

set_option maxRecDepth 100000 in
set_option maxHeartbeats 4000000 in
theorem c_X2_fillRow_61_q (l : Launch) (hl : l.stackTraces = false) (d : Nat) (hd : 0 ≤ d) (h : mH) (i0 : mm_inv h) (p1 : Int) (p2 : Int) (bp1 : 0 ≤ p1 ∧ p1 ≤ 7) (bp2 : 0 ≤ p2 ∧ p2 ≤ 80) : mm_Met l d yX2_fillRow cX2_fillRow 7 (some .int) [mR 14, mI p1, mI p2, mR 61] h (mm_pi fun r h2 => (0 ≤ r ∧ r ≤ 12) ∧ mm_inv h2 ∧ mm_fr [] [61] h h2 ∧ mm_rb h2 61 0 r 0 19 ∧ mm_rw h2 61 (mm_rr (h.2.1 21) (mm_fk (h.2.1 21) p1) p1 p2) r ∧ r = h.2.1 19 p1) mm_nx 0 0 := by
  refine mm_ofW (ls := [mR 14, mI p1, mI p2, mR 61, mU, mU, mU]) hl (by decide) rfl (Nat.le_of_ble_eq_true rfl) ?_
  intro x hxl C T hnm htb
  subst hxl
  refine mm_rng (fun hr _ => ?_)
  have ap1 : -2147483648 ≤ p1 ∧ p1 < 2147483648 := mm_ok_at hr (i := 1) rfl
  have ap2 : -2147483648 ≤ p2 ∧ p2 < 2147483648 := mm_ok_at hr (i := 2) rfl
  have f0 : mm_fr [] [61] h h := mm_fr_rf
  refine mm_iload_n C (mm_dec dk_X2_fillRow 0 rfl) rfl ?_
  refine mm_istoreL (ls2 := [mR 14, mI p1, mI p2, mR 61, mI p2, mU, mU]) C (mm_dec dk_X2_fillRow 1 rfl) (by decide) rfl ?_
  refine mm_iconst C (mm_dec dk_X2_fillRow 2 rfl) ⟨by decide, by decide⟩ ?_
  have J6 : ∀ (n : Nat) (x6_4 : Int) (bx6_4 : 0 ≤ x6_4 ∧ x6_4 ≤ 80) (x6_5 : Int) (bx6_5 : 0 ≤ x6_5 ∧ x6_5 ≤ 12) (h6_ : mH) (i6_ : mm_inv h6_) (f6_ : mm_fr [] [61] h h6_) (w6_0 : mm_rb h6_ 61 0 x6_5 0 19) (w6_1 : mm_rw h6_ 61 (mm_rr (h.2.1 21) (mm_fk (h.2.1 21) p1) p1 p2) x6_5) (w6_2 : x6_4 = mm_dv p2 (mm_fn (mm_fk (h.2.1 21) p1) (x6_5).toNat)), (12 - x6_5 : Int) < n → mm_W x 0 0 6 [mR 14, mI p1, mU, mR 61, mI x6_4, mI x6_5, mU] [] h6_ := by
    intro n
    induction n with
    | zero =>
      intro x6_4 bx6_4 x6_5 bx6_5 h6_ i6_ f6_ w6_0 w6_1 w6_2 hm
      exfalso; omega
    | succ n ih6 =>
      intro x6_4 bx6_4 x6_5 bx6_5 h6_ i6_ f6_ w6_0 w6_1 w6_2 hm6
      refine mm_iload C (mm_dec dk_X2_fillRow 4 rfl) rfl ?_
      refine mm_aload_n C (mm_dec dk_X2_fillRow 5 rfl) rfl ?_
      refine mm_getr (t := 19) C fl_X2_25 (mm_dec dk_X2_fillRow 6 rfl) rfl rfl (mm_ref i6_ rfl) ?_
      refine mm_iload_n C (mm_dec dk_X2_fillRow 7 rfl) rfl ?_
      refine mm_iald C (mm_dec dk_X2_fillRow 8 rfl) rfl (by omega) (by omega) ?_
      have g1 : 0 ≤ (h6_.2.1 19 p1) ∧ (h6_.2.1 19 p1) ≤ 12 := i6_.2.1 19 p1
      refine mm_icmp_ge (tgt := 86) C (mm_dec dk_X2_fillRow 9 rfl) (by decide) (fun c14 => ?_) (fun c14 => ?_)
      · skip
        refine mm_aload_n C (mm_dec dk_X2_fillRow 53 rfl) rfl ?_
        refine mm_getr (t := 19) C fl_X2_25 (mm_dec dk_X2_fillRow 54 rfl) rfl rfl (mm_ref i6_ rfl) ?_
        refine mm_iload_n C (mm_dec dk_X2_fillRow 55 rfl) rfl ?_
        refine mm_iald C (mm_dec dk_X2_fillRow 56 rfl) rfl (by omega) (by omega) ?_
        exact mm_iret C T (mm_dec dk_X2_fillRow 57 rfl) (by decide : 0 ≤ 0) (by decide : 0 ≤ 0) ⟨_, rfl, ⟨⟨by omega, by omega⟩, i6_, f6_, by exact mm_rb_sub w6_0 (by omega) (by omega), by exact fun j a b => w6_1 j a (by omega), by first | rfl | exact f6_.2 19 (by decide) _⟩⟩
      · skip
        refine mm_iload_n C (mm_dec dk_X2_fillRow 10 rfl) rfl ?_
        refine mm_bipush C (mm_dec dk_X2_fillRow 11 rfl) ⟨by decide, by decide⟩ ?_
        refine mm_imul C (mm_dec dk_X2_fillRow 12 rfl) ⟨by omega, by omega⟩ ?_
        refine mm_iload C (mm_dec dk_X2_fillRow 13 rfl) rfl ?_
        refine mm_iadd C (mm_dec dk_X2_fillRow 14 rfl) ⟨by omega, by omega⟩ ?_
        refine mm_iconst C (mm_dec dk_X2_fillRow 15 rfl) ⟨by decide, by decide⟩ ?_
        refine mm_imul C (mm_dec dk_X2_fillRow 16 rfl) ⟨by omega, by omega⟩ ?_
        refine mm_istoreL (ls2 := [mR 14, mI p1, mU, mR 61, mI x6_4, mI x6_5, mI (((p1 * 12) + x6_5) * 3)]) C (mm_dec dk_X2_fillRow 17 rfl) (by decide) rfl ?_
        have za : h6_.2.1 21 (((p1 * 12) + x6_5) * 3) = h.2.1 21 (36 * p1 + 3 * x6_5) := by rw [f6_.2 21 (by decide), show ((p1 * 12) + x6_5) * 3 = 36 * p1 + 3 * x6_5 by omega]
        have zb : h6_.2.1 21 (((p1 * 12) + x6_5) * 3 + 1) = h.2.1 21 (36 * p1 + 3 * x6_5 + 1) := by rw [f6_.2 21 (by decide), show ((p1 * 12) + x6_5) * 3 + 1 = 36 * p1 + 3 * x6_5 + 1 by omega]
        refine mm_aload_n C (mm_dec dk_X2_fillRow 18 rfl) rfl ?_
        refine mm_iload C (mm_dec dk_X2_fillRow 19 rfl) rfl ?_
        refine mm_aload_n C (mm_dec dk_X2_fillRow 20 rfl) rfl ?_
        refine mm_getr (t := 21) C fl_X2_31 (mm_dec dk_X2_fillRow 21 rfl) rfl rfl (mm_ref i6_ rfl) ?_
        refine mm_iload C (mm_dec dk_X2_fillRow 22 rfl) rfl ?_
        refine mm_iald C (mm_dec dk_X2_fillRow 23 rfl) rfl (by omega) (by omega) ?_
        have g2 : 0 ≤ (h6_.2.1 21 (((p1 * 12) + x6_5) * 3)) ∧ (h6_.2.1 21 (((p1 * 12) + x6_5) * 3)) ≤ 19 := i6_.2.1 21 (((p1 * 12) + x6_5) * 3)
        refine mm_iast C (mm_dec dk_X2_fillRow 24 rfl) rfl (by omega) (by omega) ?_
        have i1 : mm_inv (mm_pa h6_ 61 x6_5 (h6_.2.1 21 (((p1 * 12) + x6_5) * 3))) := mm_inv_pa i6_ (show 0 ≤ (h6_.2.1 21 (((p1 * 12) + x6_5) * 3)) ∧ (h6_.2.1 21 (((p1 * 12) + x6_5) * 3)) ≤ 399 from ⟨by omega, by omega⟩)
        have f1 : mm_fr [] [61] h (mm_pa h6_ 61 x6_5 (h6_.2.1 21 (((p1 * 12) + x6_5) * 3))) := mm_fr_pa f6_ (by decide)
        obtain ⟨h1, eh1⟩ : ∃ z, z = mm_pa h6_ 61 x6_5 (h6_.2.1 21 (((p1 * 12) + x6_5) * 3)) := ⟨_, rfl⟩
        rw [← eh1] at i1 f1 ⊢
        have zc : h1.2.1 21 (((p1 * 12) + x6_5) * 3) = h6_.2.1 21 (((p1 * 12) + x6_5) * 3) := mm_sm_pa 21 eh1 (by decide) _
        have zd : h1.2.1 21 (((p1 * 12) + x6_5) * 3 + 1) = h6_.2.1 21 (((p1 * 12) + x6_5) * 3 + 1) := mm_sm_pa 21 eh1 (by decide) _
        refine mm_aload_n C (mm_dec dk_X2_fillRow 25 rfl) rfl ?_
        refine mm_getr (t := 21) C fl_X2_31 (mm_dec dk_X2_fillRow 26 rfl) rfl rfl (mm_ref i1 rfl) ?_
        refine mm_iload C (mm_dec dk_X2_fillRow 27 rfl) rfl ?_
        refine mm_iconst C (mm_dec dk_X2_fillRow 28 rfl) ⟨by decide, by decide⟩ ?_
        refine mm_iadd C (mm_dec dk_X2_fillRow 29 rfl) ⟨by omega, by omega⟩ ?_
        refine mm_iald C (mm_dec dk_X2_fillRow 30 rfl) rfl (by omega) (by omega) ?_
        have g3 : 0 ≤ (h1.2.1 21 ((((p1 * 12) + x6_5) * 3) + 1)) ∧ (h1.2.1 21 ((((p1 * 12) + x6_5) * 3) + 1)) ≤ 19 := i1.2.1 21 ((((p1 * 12) + x6_5) * 3) + 1)
        refine mm_aload_n C (mm_dec dk_X2_fillRow 31 rfl) rfl ?_
        refine mm_getr (t := 21) C fl_X2_31 (mm_dec dk_X2_fillRow 32 rfl) rfl rfl (mm_ref i1 rfl) ?_
        refine mm_iload C (mm_dec dk_X2_fillRow 33 rfl) rfl ?_
        refine mm_iald C (mm_dec dk_X2_fillRow 34 rfl) rfl (by omega) (by omega) ?_
        have g4 : 0 ≤ (h1.2.1 21 (((p1 * 12) + x6_5) * 3)) ∧ (h1.2.1 21 (((p1 * 12) + x6_5) * 3)) ≤ 19 := i1.2.1 21 (((p1 * 12) + x6_5) * 3)
        have J80 : ∀ (x80_4 : Int) (bx80_4 : 0 ≤ x80_4 ∧ x80_4 ≤ 80) (h80_ : mH) (i80_ : mm_inv h80_) (f80_ : mm_fr [] [61] h h80_) (w80_0 : mm_rb h80_ 61 0 (x6_5 + 1) 0 19) (w80_1 : mm_rw h80_ 61 (mm_rr (h.2.1 21) (mm_fk (h.2.1 21) p1) p1 p2) (x6_5 + 1)) (w80_2 : x80_4 = mm_dv p2 (mm_fn (mm_fk (h.2.1 21) p1) (x6_5 + 1).toNat)), mm_W x 0 0 80 [mR 14, mI p1, mU, mR 61, mI x80_4, mI x6_5, mU] [] h80_ := by
          intro x80_4 bx80_4 h80_ i80_ f80_ w80_0 w80_1 w80_2
          refine mm_iincL (ls2 := [mR 14, mI p1, mU, mR 61, mI x80_4, mI (x6_5 + 1), mU]) C (mm_dec dk_X2_fillRow 51 rfl) rfl (by decide) ⟨by omega, by omega⟩ rfl ?_
          refine mm_goto (tgt := 6) C (mm_dec dk_X2_fillRow 52 rfl) (by decide) ?_
          exact ih6 x80_4 ⟨by omega, by omega⟩ (x6_5 + 1) ⟨by omega, by omega⟩ h80_ i80_ f80_ (by first | exact mm_rb_nil (by omega) | exact w80_0) (by first | exact mm_rw_0 | exact w80_1) (by first | rfl | exact w80_2) (by omega)
        refine mm_icmp_eq (tgt := 80) C (mm_dec dk_X2_fillRow 35 rfl) (by decide) (fun c55 => ?_) (fun c55 => ?_)
        · skip
          refine mm_fgt 6 ?_
          exact J80 x6_4 ⟨by omega, by omega⟩ h1 i1 f1 (by first | (rw [eh2]; exact mm_rb_put (by rw [eh1]; exact mm_rb_add w6_0 ⟨by omega, by omega⟩) ⟨by omega, by omega⟩) | (rw [eh1]; exact mm_rb_add w6_0 ⟨by omega, by omega⟩)) (by first | exact mm_rw_2 w6_1 eh1 eh2 (mm_rr_1 zk (congrArg (· % 3) w6_2) ze) | exact mm_rw_s w6_1 eh1 (mm_rr_0 (mm_fk_0 (by omega)) za)) (by first | exact mm_dg_1 w6_2 (by omega) zk | exact mm_dg_0 w6_2 (by omega) (mm_fk_0 (by omega)))
        · skip
          have zk : mm_fk (h.2.1 21) p1 x6_5 = 1 := mm_fk_1 (by omega)
          have ze : h1.2.1 21 (((p1 * 12) + x6_5) * 3 + (x6_4 % 3)) = h.2.1 21 (36 * p1 + 3 * x6_5 + (x6_4 % 3)) := (mm_sm_pa 21 eh1 (by decide) _).trans (by rw [f6_.2 21 (by decide), show ((p1 * 12) + x6_5) * 3 + (x6_4 % 3) = 36 * p1 + 3 * x6_5 + (x6_4 % 3) by omega])
          refine mm_aload_n C (mm_dec dk_X2_fillRow 36 rfl) rfl ?_
          refine mm_iload C (mm_dec dk_X2_fillRow 37 rfl) rfl ?_
          refine mm_aload_n C (mm_dec dk_X2_fillRow 38 rfl) rfl ?_
          refine mm_getr (t := 21) C fl_X2_31 (mm_dec dk_X2_fillRow 39 rfl) rfl rfl (mm_ref i1 rfl) ?_
          refine mm_iload C (mm_dec dk_X2_fillRow 40 rfl) rfl ?_
          refine mm_iload C (mm_dec dk_X2_fillRow 41 rfl) rfl ?_
          refine mm_iconst C (mm_dec dk_X2_fillRow 42 rfl) ⟨by decide, by decide⟩ ?_
          refine mm_irem C (mm_dec dk_X2_fillRow 43 rfl) (by omega) (by omega) ?_
          refine mm_iadd C (mm_dec dk_X2_fillRow 44 rfl) ⟨by omega, by omega⟩ ?_
          refine mm_iald C (mm_dec dk_X2_fillRow 45 rfl) rfl (by omega) (by omega) ?_
          have g5 : 0 ≤ (h1.2.1 21 ((((p1 * 12) + x6_5) * 3) + (x6_4 % 3))) ∧ (h1.2.1 21 ((((p1 * 12) + x6_5) * 3) + (x6_4 % 3))) ≤ 19 := i1.2.1 21 ((((p1 * 12) + x6_5) * 3) + (x6_4 % 3))
          refine mm_iast C (mm_dec dk_X2_fillRow 46 rfl) rfl (by omega) (by omega) ?_
          have i2 : mm_inv (mm_pa h1 61 x6_5 (h1.2.1 21 ((((p1 * 12) + x6_5) * 3) + (x6_4 % 3)))) := mm_inv_pa i1 (show 0 ≤ (h1.2.1 21 ((((p1 * 12) + x6_5) * 3) + (x6_4 % 3))) ∧ (h1.2.1 21 ((((p1 * 12) + x6_5) * 3) + (x6_4 % 3))) ≤ 399 from ⟨by omega, by omega⟩)
          have f2 : mm_fr [] [61] h (mm_pa h1 61 x6_5 (h1.2.1 21 ((((p1 * 12) + x6_5) * 3) + (x6_4 % 3)))) := mm_fr_pa f1 (by decide)
          obtain ⟨h2, eh2⟩ : ∃ z, z = mm_pa h1 61 x6_5 (h1.2.1 21 ((((p1 * 12) + x6_5) * 3) + (x6_4 % 3))) := ⟨_, rfl⟩
          rw [← eh2] at i2 f2 ⊢
          refine mm_iload C (mm_dec dk_X2_fillRow 47 rfl) rfl ?_
          refine mm_iconst C (mm_dec dk_X2_fillRow 48 rfl) ⟨by decide, by decide⟩ ?_
          refine mm_idiv C (mm_dec dk_X2_fillRow 49 rfl) ⟨by omega, by omega⟩ (by omega) ?_
          refine mm_istoreL (ls2 := [mR 14, mI p1, mU, mR 61, mI (x6_4 / 3), mI x6_5, mI (((p1 * 12) + x6_5) * 3)]) C (mm_dec dk_X2_fillRow 50 rfl) (by decide) rfl ?_
          refine mm_fgt 6 ?_
          exact J80 (x6_4 / 3) ⟨by omega, by omega⟩ h2 i2 f2 (by first | (rw [eh2]; exact mm_rb_put (by rw [eh1]; exact mm_rb_add w6_0 ⟨by omega, by omega⟩) ⟨by omega, by omega⟩) | (rw [eh1]; exact mm_rb_add w6_0 ⟨by omega, by omega⟩)) (by first | exact mm_rw_2 w6_1 eh1 eh2 (mm_rr_1 zk (congrArg (· % 3) w6_2) ze) | exact mm_rw_s w6_1 eh1 (mm_rr_0 (mm_fk_0 (by omega)) za)) (by first | exact mm_dg_1 w6_2 (by omega) zk | exact mm_dg_0 w6_2 (by omega) (mm_fk_0 (by omega)))
  refine mm_istoreL (ls2 := [mR 14, mI p1, mI p2, mR 61, mI p2, mI 0, mU]) C (mm_dec dk_X2_fillRow 3 rfl) (by decide) rfl ?_
  refine mm_fgt 2 ?_
  exact J6 (((12 - 0) : Int) + 1).toNat p2 ⟨by omega, by omega⟩ 0 ⟨by omega, by omega⟩ h i0 f0 (by first | exact mm_rb_nil (by omega) | exact w80_0) (by first | exact mm_rw_0 | exact w80_1) (by first | rfl | exact w80_2) (by omega)
set_option maxRecDepth 100000 in
set_option maxHeartbeats 4000000 in
theorem c_X9_fillPosts_61_q (l : Launch) (hl : l.stackTraces = false) (d : Nat) (hd : 1 ≤ d) (h : mH) (i0 : mm_inv h) (p1 : Int) (bp1 : 0 ≤ p1 ∧ p1 ≤ 39) : mm_Met l d yX9_fillPosts cX9_fillPosts 3 (some .int) [mR 22, mI p1, mR 61] h (mm_pi fun r h2 => (0 ≤ r ∧ r ≤ 12) ∧ mm_inv h2 ∧ mm_fr [] [61] h h2 ∧ mm_rb h2 61 0 r 0 19 ∧ mm_rw h2 61 (mm_rr (h.2.1 21) (mm_fk (h.2.1 21) (h.2.1 23 p1)) (h.2.1 23 p1) (h.2.1 25 p1)) r ∧ r = h.2.1 19 (h.2.1 23 p1)) mm_nx 0 0 := by
  refine mm_ofW (ls := [mR 22, mI p1, mR 61]) hl (by decide) rfl (Nat.le_of_ble_eq_true rfl) ?_
  intro x hxl C T hnm htb
  subst hxl
  have C1 := mm_OK_le (d' := d - 1 + 1) (by omega) C
  refine mm_rng (fun hr _ => ?_)
  have ap1 : -2147483648 ≤ p1 ∧ p1 < 2147483648 := mm_ok_at hr (i := 1) rfl
  have f0 : mm_fr [] [61] h h := mm_fr_rf
  refine mm_aload_n C (mm_dec dk_X9_fillPosts 0 rfl) rfl ?_
  refine mm_getr (t := 14) C fl_X9_41 (mm_dec dk_X9_fillPosts 1 rfl) rfl rfl (mm_ref i0 rfl) ?_
  refine mm_aload_n C (mm_dec dk_X9_fillPosts 2 rfl) rfl ?_
  refine mm_getr (t := 23) C fl_X9_9 (mm_dec dk_X9_fillPosts 3 rfl) rfl rfl (mm_ref i0 rfl) ?_
  refine mm_iload_n C (mm_dec dk_X9_fillPosts 4 rfl) rfl ?_
  refine mm_iald C (mm_dec dk_X9_fillPosts 5 rfl) rfl (by omega) (by omega) ?_
  have g1 : 0 ≤ (h.2.1 23 p1) ∧ (h.2.1 23 p1) ≤ 7 := i0.2.1 23 p1
  refine mm_aload_n C (mm_dec dk_X9_fillPosts 6 rfl) rfl ?_
  refine mm_getr (t := 25) C fl_X9_18 (mm_dec dk_X9_fillPosts 7 rfl) rfl rfl (mm_ref i0 rfl) ?_
  refine mm_iload_n C (mm_dec dk_X9_fillPosts 8 rfl) rfl ?_
  refine mm_iald C (mm_dec dk_X9_fillPosts 9 rfl) rfl (by omega) (by omega) ?_
  have g2 : 0 ≤ (h.2.1 25 p1) ∧ (h.2.1 25 p1) ≤ 80 := i0.2.1 25 p1
  refine mm_aload_n C (mm_dec dk_X9_fillPosts 10 rfl) rfl ?_
  refine mm_cVi (rest := []) C1 ev_X9_59 (mm_dec dk_X9_fillPosts 11 rfl) (c_X2_fillRow_61_q x.2.1 hl (d - 1) (by omega) h i0 (h.2.1 23 p1) (h.2.1 25 p1) ⟨by omega, by omega⟩ ⟨by omega, by omega⟩) rfl rfl (Nat.le_of_ble_eq_true rfl) ⟨by decide, by decide⟩ rfl (fun r17 h17c hp17 => ?_) (fun _ _ q => q.elim)
  obtain ⟨b17, i17c, g17c, y17_0, y17_1, y17_2⟩ := hp17
  have f17c : mm_fr [] [61] h h17c := mm_fr_tr f0 g17c (by decide +kernel)
  exact mm_iret C T (mm_dec dk_X9_fillPosts 12 rfl) (by decide : 0 ≤ 0) (by decide : 0 ≤ 0) ⟨_, rfl, ⟨⟨by omega, by omega⟩, i17c, f17c, by exact y17_0, by exact y17_1, by exact y17_2⟩⟩
set_option maxRecDepth 100000 in
set_option maxHeartbeats 4000000 in
theorem c_X11_fillStops_q (l : Launch) (hl : l.stackTraces = false) (d : Nat) (hd : 2 ≤ d) (h : mH) (i0 : mm_inv h) (p1 : Int) (bp1 : 0 ≤ p1 ∧ p1 ≤ 39) : mm_Met l d yX11_fillStops cX11_fillStops 4 (some .int) [mR 0, mI p1] h (mm_pi fun r h2 => (0 ≤ r ∧ r ≤ 12) ∧ mm_inv h2 ∧ mm_fr [] [61] h h2 ∧ mm_rw h2 61 (fun j => h.2.1 15 ((mm_rr (h.2.1 21) (mm_fk (h.2.1 21) (h.2.1 23 p1)) (h.2.1 23 p1) (h.2.1 25 p1)) j)) r ∧ r = h.2.1 19 (h.2.1 23 p1)) mm_nx 0 0 := by
  refine mm_ofW (ls := [mR 0, mI p1, mU, mU]) hl (by decide) rfl (Nat.le_of_ble_eq_true rfl) ?_
  intro x hxl C T hnm htb
  subst hxl
  have C1 := mm_OK_le (d' := d - 1 + 1) (by omega) C
  refine mm_rng (fun hr _ => ?_)
  have ap1 : -2147483648 ≤ p1 ∧ p1 < 2147483648 := mm_ok_at hr (i := 1) rfl
  have f0 : mm_fr [] [61] h h := mm_fr_rf
  refine mm_aload_n C (mm_dec dk_X11_fillStops 0 rfl) rfl ?_
  refine mm_getr (t := 22) C fl_X11_37 (mm_dec dk_X11_fillStops 1 rfl) rfl rfl (mm_ref i0 rfl) ?_
  refine mm_iload_n C (mm_dec dk_X11_fillStops 2 rfl) rfl ?_
  refine mm_aload_n C (mm_dec dk_X11_fillStops 3 rfl) rfl ?_
  refine mm_getr (t := 61) C fl_X11_82 (mm_dec dk_X11_fillStops 4 rfl) rfl rfl (mm_ref i0 rfl) ?_
  refine mm_cVi (rest := []) C1 ev_X11_247 (mm_dec dk_X11_fillStops 5 rfl) (c_X9_fillPosts_61_q x.2.1 hl (d - 1) (by omega) h i0 p1 ⟨by omega, by omega⟩) rfl rfl (Nat.le_of_ble_eq_true rfl) ⟨by decide, by decide⟩ rfl (fun r9 h9c hp9 => ?_) (fun _ _ q => q.elim)
  obtain ⟨b9, i9c, g9c, y9_0, y9_1, y9_2⟩ := hp9
  have f9c : mm_fr [] [61] h h9c := mm_fr_tr f0 g9c (by decide +kernel)
  refine mm_istore_nL (ls2 := [mR 0, mI p1, mI r9, mU]) C (mm_dec dk_X11_fillStops 6 rfl) (by decide) rfl ?_
  refine mm_iconst C (mm_dec dk_X11_fillStops 7 rfl) ⟨by decide, by decide⟩ ?_
  have J15 : ∀ (n : Nat) (x15_3 : Int) (bx15_3 : 0 ≤ x15_3 ∧ x15_3 ≤ 12) (h15_ : mH) (i15_ : mm_inv h15_) (f15_ : mm_fr [] [61] h h15_) (w15_0 : mm_rb h15_ 61 x15_3 r9 0 19) (w15_1 : mm_rw h15_ 61 (fun j => if j < x15_3 then h.2.1 15 ((mm_rr (h.2.1 21) (mm_fk (h.2.1 21) (h.2.1 23 p1)) (h.2.1 23 p1) (h.2.1 25 p1)) j) else (mm_rr (h.2.1 21) (mm_fk (h.2.1 21) (h.2.1 23 p1)) (h.2.1 23 p1) (h.2.1 25 p1)) j) r9), (12 - x15_3 : Int) < n → mm_W x 0 0 15 [mR 0, mU, mI r9, mI x15_3] [] h15_ := by
    intro n
    induction n with
    | zero =>
      intro x15_3 bx15_3 h15_ i15_ f15_ w15_0 w15_1 hm
      exfalso; omega
    | succ n ih15 =>
      intro x15_3 bx15_3 h15_ i15_ f15_ w15_0 w15_1 hm15
      refine mm_iload_n C (mm_dec dk_X11_fillStops 9 rfl) rfl ?_
      refine mm_iload_n C (mm_dec dk_X11_fillStops 10 rfl) rfl ?_
      refine mm_icmp_ge (tgt := 45) C (mm_dec dk_X11_fillStops 11 rfl) (by decide) (fun c17 => ?_) (fun c17 => ?_)
      · skip
        refine mm_iload_n C (mm_dec dk_X11_fillStops 25 rfl) rfl ?_
        exact mm_iret C T (mm_dec dk_X11_fillStops 26 rfl) (by decide : 0 ≤ 0) (by decide : 0 ≤ 0) ⟨_, rfl, ⟨⟨by omega, by omega⟩, i15_, f15_, by exact mm_rw_cn w15_1 (by omega), by first | exact y9_2 | omega⟩⟩
      · skip
        refine mm_aload_n C (mm_dec dk_X11_fillStops 12 rfl) rfl ?_
        refine mm_getr (t := 61) C fl_X11_82 (mm_dec dk_X11_fillStops 13 rfl) rfl rfl (mm_ref i15_ rfl) ?_
        refine mm_iload_n C (mm_dec dk_X11_fillStops 14 rfl) rfl ?_
        refine mm_aload_n C (mm_dec dk_X11_fillStops 15 rfl) rfl ?_
        refine mm_getr (t := 14) C fl_X11_28 (mm_dec dk_X11_fillStops 16 rfl) rfl rfl (mm_ref i15_ rfl) ?_
        refine mm_aload_n C (mm_dec dk_X11_fillStops 17 rfl) rfl ?_
        refine mm_getr (t := 61) C fl_X11_82 (mm_dec dk_X11_fillStops 18 rfl) rfl rfl (mm_ref i15_ rfl) ?_
        refine mm_iload_n C (mm_dec dk_X11_fillStops 19 rfl) rfl ?_
        refine mm_iald C (mm_dec dk_X11_fillStops 20 rfl) rfl (by omega) (by omega) ?_
        have g2 : 0 ≤ (h15_.2.1 61 x15_3) ∧ (h15_.2.1 61 x15_3) ≤ 399 := i15_.2.1 61 x15_3
        have zz := w15_0 x15_3 (by omega) (by omega)
        refine mm_cVi (rest := [mI x15_3, mR 61]) C1 ev_X11_392 (mm_dec dk_X11_fillStops 21 rfl) (c_X2_cellOf x.2.1 hl (d - 1) (by omega) h15_ i15_ (h15_.2.1 61 x15_3) ⟨by omega, by omega⟩) rfl rfl (Nat.le_of_ble_eq_true rfl) ⟨by decide, by decide⟩ rfl (fun r35 h35c hp35 => ?_) (fun _ _ q => q.elim)
        obtain ⟨z35, y35⟩ := hp35
        rw [z35, y35]
        have g4 : 0 ≤ (h15_.2.1 15 (h15_.2.1 61 x15_3)) ∧ (h15_.2.1 15 (h15_.2.1 61 x15_3)) ≤ 399 := i15_.2.1 15 (h15_.2.1 61 x15_3)
        refine mm_iast C (mm_dec dk_X11_fillStops 22 rfl) rfl (by omega) (by omega) ?_
        have i2 : mm_inv (mm_pa h15_ 61 x15_3 (h15_.2.1 15 (h15_.2.1 61 x15_3))) := mm_inv_pa i15_ (show 0 ≤ (h15_.2.1 15 (h15_.2.1 61 x15_3)) ∧ (h15_.2.1 15 (h15_.2.1 61 x15_3)) ≤ 399 from ⟨by omega, by omega⟩)
        have f2 : mm_fr [] [61] h (mm_pa h15_ 61 x15_3 (h15_.2.1 15 (h15_.2.1 61 x15_3))) := mm_fr_pa f15_ (by decide)
        obtain ⟨h2, eh2⟩ : ∃ z, z = mm_pa h15_ 61 x15_3 (h15_.2.1 15 (h15_.2.1 61 x15_3)) := ⟨_, rfl⟩
        rw [← eh2] at i2 f2 ⊢
        refine mm_iincL (ls2 := [mR 0, mU, mI r9, mI (x15_3 + 1)]) C (mm_dec dk_X11_fillStops 23 rfl) rfl (by decide) ⟨by omega, by omega⟩ rfl ?_
        refine mm_goto (tgt := 15) C (mm_dec dk_X11_fillStops 24 rfl) (by decide) ?_
        exact ih15 (x15_3 + 1) ⟨by omega, by omega⟩ h2 i2 f2 (by first | exact y9_0 | (rw [eh2]; exact mm_rb_rest w15_0)) (by first | exact mm_rw_c0 (P := h.2.1 15) y9_1 | exact mm_rw_cell w15_1 eh2 (f15_.2 15 (by decide) _) (by omega) (by omega)) (by omega)
  refine mm_istore_nL (ls2 := [mR 0, mI p1, mI r9, mI 0]) C (mm_dec dk_X11_fillStops 8 rfl) (by decide) rfl ?_
  refine mm_fgt 1 ?_
  exact J15 (((12 - 0) : Int) + 1).toNat 0 ⟨by omega, by omega⟩ h9c i9c f9c (by first | exact y9_0 | (rw [eh9c]; exact mm_rb_rest w15_0)) (by first | exact mm_rw_c0 (P := h.2.1 15) y9_1 | exact mm_rw_cell w15_1 eh9c (f15_.2 15 (by decide) _) (by omega) (by omega)) (by omega)
set_option maxRecDepth 100000 in
set_option maxHeartbeats 4000000 in
theorem c_X12_rows_q (l : Launch) (hl : l.stackTraces = false) (d : Nat) (hd : 1 ≤ d) (h : mH) (i0 : mm_inv h) (p1 : Int) (bp1 : 0 ≤ p1 ∧ p1 ≤ 39) : mm_Met l d yX12_rows cX12_rows 6 none [mR 66, mI p1] h (mm_pv fun h2 => mm_inv h2 ∧ mm_fr [(66, 39)] [91] h h2 ∧ mm_rw h2 91 (mm_rr (h.2.1 82) (fun j => h.2.1 84 (12 * (h.2.1 85 p1) + j)) (h.2.1 85 p1) (h.2.1 87 p1)) (h2.1 66 39) ∧ h2.1 66 39 = h.2.1 80 (h.2.1 85 p1)) mm_nx 0 0 := by
  refine mm_ofW (ls := [mR 66, mI p1, mU, mU, mU, mU]) hl (by decide) rfl (Nat.le_of_ble_eq_true rfl) ?_
  intro x hxl C T hnm htb
  subst hxl
  have C1 := mm_OK_le (d' := d - 1 + 1) (by omega) C
  refine mm_rng (fun hr _ => ?_)
  have ap1 : -2147483648 ≤ p1 ∧ p1 < 2147483648 := mm_ok_at hr (i := 1) rfl
  have f0 : mm_fr [(66, 39)] [91] h h := mm_fr_rf
  have g1 : 0 ≤ h.1 66 39 ∧ h.1 66 39 ≤ 12 := i0.1 66 39
  refine mm_aload_n C (mm_dec dk_X12_rows 0 rfl) rfl ?_
  refine mm_getr (t := 85) C fl_X12_66 (mm_dec dk_X12_rows 1 rfl) rfl rfl (mm_ref i0 rfl) ?_
  refine mm_iload_n C (mm_dec dk_X12_rows 2 rfl) rfl ?_
  refine mm_iald C (mm_dec dk_X12_rows 3 rfl) rfl (by omega) (by omega) ?_
  have g2 : 0 ≤ (h.2.1 85 p1) ∧ (h.2.1 85 p1) ≤ 7 := i0.2.1 85 p1
  refine mm_istore_nL (ls2 := [mR 66, mI p1, mI (h.2.1 85 p1), mU, mU, mU]) C (mm_dec dk_X12_rows 4 rfl) (by decide) rfl ?_
  refine mm_iconst C (mm_dec dk_X12_rows 5 rfl) ⟨by decide, by decide⟩ ?_
  refine mm_istore_nL (ls2 := [mR 66, mI p1, mI (h.2.1 85 p1), mI 0, mU, mU]) C (mm_dec dk_X12_rows 6 rfl) (by decide) rfl ?_
  refine mm_aload_n C (mm_dec dk_X12_rows 7 rfl) rfl ?_
  refine mm_aload_n C (mm_dec dk_X12_rows 8 rfl) rfl ?_
  refine mm_getr (t := 80) C fl_X12_51 (mm_dec dk_X12_rows 9 rfl) rfl rfl (mm_ref i0 rfl) ?_
  refine mm_iload_n C (mm_dec dk_X12_rows 10 rfl) rfl ?_
  refine mm_iald C (mm_dec dk_X12_rows 11 rfl) rfl (by omega) (by omega) ?_
  have g3 : 0 ≤ (h.2.1 80 (h.2.1 85 p1)) ∧ (h.2.1 80 (h.2.1 85 p1)) ≤ 12 := i0.2.1 80 (h.2.1 85 p1)
  refine mm_puti C fl_X12_296 (mm_dec dk_X12_rows 12 rfl) rfl rfl rfl (Or.inl ⟨rfl, rfl⟩) ?_
  have i1 : mm_inv (mm_pf h 66 39 (h.2.1 80 (h.2.1 85 p1))) := mm_inv_pf i0 (show 0 ≤ (h.2.1 80 (h.2.1 85 p1)) ∧ (h.2.1 80 (h.2.1 85 p1)) ≤ 12 from ⟨by omega, by omega⟩) (by decide)
  have f1 : mm_fr [(66, 39)] [91] h (mm_pf h 66 39 (h.2.1 80 (h.2.1 85 p1))) := mm_fr_pf f0 (by decide)
  obtain ⟨h1, eh1⟩ : ∃ z, z = mm_pf h 66 39 (h.2.1 80 (h.2.1 85 p1)) := ⟨_, rfl⟩
  rw [← eh1] at i1 f1 ⊢
  have qh1 : h1.1 66 39 = (h.2.1 80 (h.2.1 85 p1)) := by rw [eh1]; exact mm_pf_same _ _ _ _
  refine mm_iconst C (mm_dec dk_X12_rows 13 rfl) ⟨by decide, by decide⟩ ?_
  have J22 : ∀ (n : Nat) (x22_3 : Int) (bx22_3 : -2147483648 ≤ x22_3 ∧ x22_3 ≤ 2147483647) (x22_4 : Int) (bx22_4 : 0 ≤ x22_4 ∧ x22_4 ≤ 12) (h22_ : mH) (i22_ : mm_inv h22_) (f22_ : mm_fr [(66, 39)] [91] h h22_) (w22_0 : mm_rw h22_ 91 (mm_rr (h.2.1 82) (fun j => h.2.1 84 (12 * (h.2.1 85 p1) + j)) (h.2.1 85 p1) (h.2.1 87 p1)) x22_4) (w22_1 : x22_3 = (mm_fn (fun j => h.2.1 84 (12 * (h.2.1 85 p1) + j)) (x22_4).toNat : Int)) (w22_2 : h22_.1 66 39 = h.2.1 80 (h.2.1 85 p1)), (12 - x22_4 : Int) < n → mm_W x 0 0 22 [mR 66, mI p1, mI (h.2.1 85 p1), mI x22_3, mI x22_4, mU] [] h22_ := by
    intro n
    induction n with
    | zero =>
      intro x22_3 bx22_3 x22_4 bx22_4 h22_ i22_ f22_ w22_0 w22_1 w22_2 hm
      have g4 : 0 ≤ h22_.1 66 39 ∧ h22_.1 66 39 ≤ 12 := i22_.1 66 39
      exfalso; omega
    | succ n ih22 =>
      intro x22_3 bx22_3 x22_4 bx22_4 h22_ i22_ f22_ w22_0 w22_1 w22_2 hm22
      have g5 : 0 ≤ h22_.1 66 39 ∧ h22_.1 66 39 ≤ 12 := i22_.1 66 39
      refine mm_iload C (mm_dec dk_X12_rows 15 rfl) rfl ?_
      refine mm_aload_n C (mm_dec dk_X12_rows 16 rfl) rfl ?_
      refine mm_geti C fl_X12_296 (mm_dec dk_X12_rows 17 rfl) rfl rfl (Or.inl rfl) ?_
      refine mm_icmp_ge (tgt := 100) C (mm_dec dk_X12_rows 18 rfl) (by decide) (fun c28 => ?_) (fun c28 => ?_)
      · skip
        exact mm_vret C T (mm_dec dk_X12_rows 57 rfl) (by decide : 0 ≤ 0) (by decide : 0 ≤ 0) ⟨rfl, ⟨i22_, f22_, by exact fun j a b => w22_0 j a (by omega), by omega⟩⟩
      · skip
        have z84 : h22_.2.1 84 (12 * (h.2.1 85 p1) + x22_4) = h.2.1 84 (12 * (h.2.1 85 p1) + x22_4) := f22_.2 84 (by decide) _
        have zfn := mm_fn_le (fun j => h.2.1 84 (12 * (h.2.1 85 p1) + j)) (x22_4).toNat
        refine mm_bipush C (mm_dec dk_X12_rows 19 rfl) ⟨by decide, by decide⟩ ?_
        refine mm_iload_n C (mm_dec dk_X12_rows 20 rfl) rfl ?_
        refine mm_imul C (mm_dec dk_X12_rows 21 rfl) ⟨by omega, by omega⟩ ?_
        refine mm_iload C (mm_dec dk_X12_rows 22 rfl) rfl ?_
        refine mm_iadd C (mm_dec dk_X12_rows 23 rfl) ⟨by omega, by omega⟩ ?_
        refine mm_istoreL (ls2 := [mR 66, mI p1, mI (h.2.1 85 p1), mI x22_3, mI x22_4, mI ((12 * (h.2.1 85 p1)) + x22_4)]) C (mm_dec dk_X12_rows 24 rfl) (by decide) rfl ?_
        refine mm_aload_n C (mm_dec dk_X12_rows 25 rfl) rfl ?_
        refine mm_getr (t := 91) C fl_X12_84 (mm_dec dk_X12_rows 26 rfl) rfl rfl (mm_ref i22_ rfl) ?_
        refine mm_iload C (mm_dec dk_X12_rows 27 rfl) rfl ?_
        refine mm_aload_n C (mm_dec dk_X12_rows 28 rfl) rfl ?_
        refine mm_getr (t := 82) C fl_X12_57 (mm_dec dk_X12_rows 29 rfl) rfl rfl (mm_ref i22_ rfl) ?_
        refine mm_iconst C (mm_dec dk_X12_rows 30 rfl) ⟨by decide, by decide⟩ ?_
        refine mm_iload C (mm_dec dk_X12_rows 31 rfl) rfl ?_
        refine mm_imul C (mm_dec dk_X12_rows 32 rfl) ⟨by omega, by omega⟩ ?_
        refine mm_aload_n C (mm_dec dk_X12_rows 33 rfl) rfl ?_
        refine mm_getr (t := 84) C fl_X12_63 (mm_dec dk_X12_rows 34 rfl) rfl rfl (mm_ref i22_ rfl) ?_
        refine mm_iload C (mm_dec dk_X12_rows 35 rfl) rfl ?_
        refine mm_zald C (mm_dec dk_X12_rows 36 rfl) rfl (by omega) (by omega) ?_
        have g6 : 0 ≤ (h22_.2.1 84 ((12 * (h.2.1 85 p1)) + x22_4)) ∧ (h22_.2.1 84 ((12 * (h.2.1 85 p1)) + x22_4)) ≤ 1 := i22_.2.1 84 ((12 * (h.2.1 85 p1)) + x22_4)
        have J78 : ∀ (s78_4 : Int) (bs78_4 : 0 ≤ s78_4 ∧ s78_4 ≤ 2) (w78_0 : ((h.2.1 84 (12 * (h.2.1 85 p1) + x22_4) = 1 ∧ s78_4 = mm_dv (h.2.1 87 p1) (mm_fn (fun j => h.2.1 84 (12 * (h.2.1 85 p1) + j)) (x22_4).toNat) % 3) ∨ (h.2.1 84 (12 * (h.2.1 85 p1) + x22_4) ≠ 1 ∧ s78_4 = 0))), mm_W x 0 0 78 [mR 66, mI p1, mI (h.2.1 85 p1), mI x22_3, mI x22_4, mI ((12 * (h.2.1 85 p1)) + x22_4)] [mI s78_4, mI (3 * ((12 * (h.2.1 85 p1)) + x22_4)), mR 82, mI x22_4, mR 91] h22_ := by
          intro s78_4 bs78_4 w78_0
          have g7 : 0 ≤ h22_.1 66 39 ∧ h22_.1 66 39 ≤ 12 := i22_.1 66 39
          refine mm_iadd C (mm_dec dk_X12_rows 46 rfl) ⟨by omega, by omega⟩ ?_
          refine mm_iald C (mm_dec dk_X12_rows 47 rfl) rfl (by omega) (by omega) ?_
          have g8 : 0 ≤ (h22_.2.1 82 ((3 * ((12 * (h.2.1 85 p1)) + x22_4)) + s78_4)) ∧ (h22_.2.1 82 ((3 * ((12 * (h.2.1 85 p1)) + x22_4)) + s78_4)) ≤ 19 := i22_.2.1 82 ((3 * ((12 * (h.2.1 85 p1)) + x22_4)) + s78_4)
          have ze : h22_.2.1 82 ((3 * ((12 * (h.2.1 85 p1)) + x22_4)) + s78_4) = h.2.1 82 (36 * (h.2.1 85 p1) + 3 * x22_4 + s78_4) := by rw [f22_.2 82 (by decide), show (3 * ((12 * (h.2.1 85 p1)) + x22_4)) + s78_4 = 36 * (h.2.1 85 p1) + 3 * x22_4 + s78_4 by omega]
          have zr : h22_.2.1 82 ((3 * ((12 * (h.2.1 85 p1)) + x22_4)) + s78_4) = (mm_rr (h.2.1 82) (fun j => h.2.1 84 (12 * (h.2.1 85 p1) + j)) (h.2.1 85 p1) (h.2.1 87 p1)) x22_4 := by rcases w78_0 with ⟨q1, q2⟩ | ⟨q1, q2⟩; exact mm_rr_1 q1 q2 ze; exact mm_rr_0 q1 (by rw [ze, q2, Int.add_zero])
          refine mm_iast C (mm_dec dk_X12_rows 48 rfl) rfl (by omega) (by omega) ?_
          have i2 : mm_inv (mm_pa h22_ 91 x22_4 (h22_.2.1 82 ((3 * ((12 * (h.2.1 85 p1)) + x22_4)) + s78_4))) := mm_inv_pa i22_ (show 0 ≤ (h22_.2.1 82 ((3 * ((12 * (h.2.1 85 p1)) + x22_4)) + s78_4)) ∧ (h22_.2.1 82 ((3 * ((12 * (h.2.1 85 p1)) + x22_4)) + s78_4)) ≤ 19 from ⟨by omega, by omega⟩)
          have f2 : mm_fr [(66, 39)] [91] h (mm_pa h22_ 91 x22_4 (h22_.2.1 82 ((3 * ((12 * (h.2.1 85 p1)) + x22_4)) + s78_4))) := mm_fr_pa f22_ (by decide)
          obtain ⟨h2, eh2⟩ : ∃ z, z = mm_pa h22_ 91 x22_4 (h22_.2.1 82 ((3 * ((12 * (h.2.1 85 p1)) + x22_4)) + s78_4)) := ⟨_, rfl⟩
          rw [← eh2] at i2 f2 ⊢
          have qh2_9 : h2.1 66 39 = h22_.1 66 39 := by rw [eh2]; rfl
          refine mm_aload_n C (mm_dec dk_X12_rows 49 rfl) rfl ?_
          refine mm_getr (t := 84) C fl_X12_63 (mm_dec dk_X12_rows 50 rfl) rfl rfl (mm_ref i2 rfl) ?_
          refine mm_iload C (mm_dec dk_X12_rows 51 rfl) rfl ?_
          refine mm_zald C (mm_dec dk_X12_rows 52 rfl) rfl (by omega) (by omega) ?_
          have g10 : 0 ≤ (h2.2.1 84 ((12 * (h.2.1 85 p1)) + x22_4)) ∧ (h2.2.1 84 ((12 * (h.2.1 85 p1)) + x22_4)) ≤ 1 := i2.2.1 84 ((12 * (h.2.1 85 p1)) + x22_4)
          have J94 : ∀ (x94_3 : Int) (bx94_3 : -2147483648 ≤ x94_3 ∧ x94_3 ≤ 2147483647) (w94_0 : x94_3 = (mm_fn (fun j => h.2.1 84 (12 * (h.2.1 85 p1) + j)) (x22_4 + 1).toNat : Int)), mm_W x 0 0 94 [mR 66, mI p1, mI (h.2.1 85 p1), mI x94_3, mI x22_4, mU] [] h2 := by
            intro x94_3 bx94_3 w94_0
            refine mm_iincL (ls2 := [mR 66, mI p1, mI (h.2.1 85 p1), mI x94_3, mI (x22_4 + 1), mU]) C (mm_dec dk_X12_rows 55 rfl) rfl (by decide) ⟨by omega, by omega⟩ rfl ?_
            refine mm_goto (tgt := 22) C (mm_dec dk_X12_rows 56 rfl) (by decide) ?_
            exact ih22 x94_3 ⟨by omega, by omega⟩ (x22_4 + 1) ⟨by omega, by omega⟩ h2 i2 f2 (by first | exact mm_rw_0 | exact mm_rw_s w22_0 (by assumption) zr) (by first | rfl | exact w94_0) (by omega) (by omega)
          have z85 : h2.2.1 84 (12 * (h.2.1 85 p1) + x22_4) = h.2.1 84 (12 * (h.2.1 85 p1) + x22_4) := f2.2 84 (by decide) _
          refine mm_if_eq (tgt := 94) C (mm_dec dk_X12_rows 53 rfl) (by decide) (fun c88 => ?_) (fun c88 => ?_)
          · skip
            refine mm_fgt 5 ?_
            exact J94 x22_3 ⟨by omega, by omega⟩ (by first | exact mm_fo_0 w22_1 (by omega) (show h.2.1 84 (12 * (h.2.1 85 p1) + x22_4) ≠ 1 by omega) | (rw [mm_w_id ⟨by omega, by omega⟩]; exact mm_fo_1 w22_1 (by omega) (show h.2.1 84 (12 * (h.2.1 85 p1) + x22_4) = 1 by omega)))
          · skip
            refine mm_iincwL (ls2 := [mR 66, mI p1, mI (h.2.1 85 p1), mI (mm_w (x22_3 + 1)), mI x22_4, mI ((12 * (h.2.1 85 p1)) + x22_4)]) C (mm_dec dk_X12_rows 54 rfl) rfl (by decide) rfl ?_
            have g11 : -2147483648 ≤ (mm_w (x22_3 + 1)) ∧ (mm_w (x22_3 + 1)) < 2147483648 := mm_w_rg _
            refine mm_fgt 5 ?_
            exact J94 (mm_w (x22_3 + 1)) ⟨by omega, by omega⟩ (by first | exact mm_fo_0 w22_1 (by omega) (show h.2.1 84 (12 * (h.2.1 85 p1) + x22_4) ≠ 1 by omega) | (rw [mm_w_id ⟨by omega, by omega⟩]; exact mm_fo_1 w22_1 (by omega) (show h.2.1 84 (12 * (h.2.1 85 p1) + x22_4) = 1 by omega)))
        refine mm_if_eq (tgt := 77) C (mm_dec dk_X12_rows 37 rfl) (by decide) (fun c61 => ?_) (fun c61 => ?_)
        · skip
          refine mm_iconst C (mm_dec dk_X12_rows 45 rfl) ⟨by decide, by decide⟩ ?_
          exact J78 0 ⟨by omega, by omega⟩ (by omega)
        · skip
          refine mm_aload_n C (mm_dec dk_X12_rows 38 rfl) rfl ?_
          refine mm_getr (t := 87) C fl_X12_72 (mm_dec dk_X12_rows 39 rfl) rfl rfl (mm_ref i22_ rfl) ?_
          refine mm_iload_n C (mm_dec dk_X12_rows 40 rfl) rfl ?_
          refine mm_iald C (mm_dec dk_X12_rows 41 rfl) rfl (by omega) (by omega) ?_
          have g12 : 0 ≤ (h22_.2.1 87 p1) ∧ (h22_.2.1 87 p1) ≤ 80 := i22_.2.1 87 p1
          refine mm_iload_n C (mm_dec dk_X12_rows 42 rfl) rfl ?_
          refine mm_cSi (rest := [mI (3 * ((12 * (h.2.1 85 p1)) + x22_4)), mR 82, mI x22_4, mR 91]) C1 es_X12_299 (mm_dec dk_X12_rows 43 rfl) (c_X12_digit_q x.2.1 hl (d - 1) (by omega) h22_ i22_ (h22_.2.1 87 p1) x22_3 ⟨by omega, by omega⟩) rfl (Nat.le_of_ble_eq_true rfl) ⟨by decide, by decide⟩ rfl (fun r71 h71c hp71 => ?_) (fun _ _ q => q.elim)
          obtain ⟨b71, z71, y71_0⟩ := hp71
          rw [z71]
          have zd : r71 = mm_dv (h.2.1 87 p1) (mm_fn (fun j => h.2.1 84 (12 * (h.2.1 85 p1) + j)) (x22_4).toNat) % 3 := by have y := y71_0; rw [f22_.2 87 (by decide), w22_1, Int.toNat_natCast] at y; exact y
          refine mm_goto (tgt := 78) C (mm_dec dk_X12_rows 44 rfl) (by decide) ?_
          exact J78 r71 ⟨by omega, by omega⟩ (by omega)
  refine mm_istoreL (ls2 := [mR 66, mI p1, mI (h.2.1 85 p1), mI 0, mI 0, mU]) C (mm_dec dk_X12_rows 14 rfl) (by decide) rfl ?_
  exact J22 (((12 - 0) : Int) + 1).toNat 0 ⟨by omega, by omega⟩ 0 ⟨by omega, by omega⟩ h1 i1 f1 (by first | exact mm_rw_0 | exact mm_rw_s w22_0 (by assumption) zr) (by first | rfl | exact w94_0) (by omega) (by omega)
set_option maxRecDepth 100000 in
set_option maxHeartbeats 4000000 in
theorem c_X10_through_61_q (l : Launch) (hl : l.stackTraces = false) (d : Nat) (hd : 4 ≤ d) (h : mH) (i0 : mm_inv h) (p2 : Int) (bp2 : 0 ≤ p2 ∧ p2 ≤ 12) : mm_Met l d yX10_through cX10_through 8 (some .int) [mR 7, mR 61, mI p2] h (mm_pi fun r h2 => (-2147483648 ≤ r ∧ r ≤ 2147483647) ∧ mm_inv h2 ∧ mm_fr [(7, 7), (7, 8)] [8, 9, 10, 11] h h2 ∧ mm_LR (mm_lgX h) (fun j => if j < p2 then h.2.1 61 j else h.1 1 8) (h.1 1 7) p2 r) mm_nx 0 0 := by
  refine mm_ofW (ls := [mR 7, mR 61, mI p2, mU, mU, mU, mU, mU]) hl (by decide) rfl (Nat.le_of_ble_eq_true rfl) ?_
  intro x hxl C T hnm htb
  subst hxl
  have C1 := mm_OK_le (d' := d - 1 + 1) (by omega) C
  refine mm_rng (fun hr _ => ?_)
  have ap2 : -2147483648 ≤ p2 ∧ p2 < 2147483648 := mm_ok_at hr (i := 2) rfl
  have f0 : mm_fr [(7, 7), (7, 8)] [8, 9, 10, 11] h h := mm_fr_rf
  refine mm_iconst C (mm_dec dk_X10_through 0 rfl) ⟨by decide, by decide⟩ ?_
  refine mm_istore_nL (ls2 := [mR 7, mR 61, mI p2, mI 0, mU, mU, mU, mU]) C (mm_dec dk_X10_through 1 rfl) (by decide) rfl ?_
  refine mm_aload_n C (mm_dec dk_X10_through 2 rfl) rfl ?_
  refine mm_getr (t := 1) C fl_X10_48 (mm_dec dk_X10_through 3 rfl) rfl rfl (mm_ref i0 rfl) ?_
  refine mm_geti C fl_X10_74 (mm_dec dk_X10_through 4 rfl) rfl rfl (Or.inl rfl) ?_
  have g1 : 0 ≤ (h.1 1 7) ∧ (h.1 1 7) ≤ 399 := i0.1 1 7
  refine mm_istoreL (ls2 := [mR 7, mR 61, mI p2, mI 0, mI (h.1 1 7), mU, mU, mU]) C (mm_dec dk_X10_through 5 rfl) (by decide) rfl ?_
  refine mm_iconst C (mm_dec dk_X10_through 6 rfl) ⟨by decide, by decide⟩ ?_
  have J14 : ∀ (n : Nat) (x14_3 : Int) (bx14_3 : -2147483648 ≤ x14_3 ∧ x14_3 ≤ 2147483647) (x14_4 : Int) (bx14_4 : 0 ≤ x14_4 ∧ x14_4 ≤ 399) (x14_5 : Int) (bx14_5 : 0 ≤ x14_5 ∧ x14_5 ≤ 13) (h14_ : mH) (i14_ : mm_inv h14_) (f14_ : mm_fr [(7, 7), (7, 8)] [8, 9, 10, 11] h h14_) (w14_0 : mm_LW (mm_lgX h) (fun j => if j < p2 then h.2.1 61 j else h.1 1 8) (h.1 1 7) (x14_5).toNat x14_3 x14_4) (w14_1 : x14_5 ≤ p2 + 1), (13 - x14_5 : Int) < n → mm_W x 0 0 14 [mR 7, mR 61, mI p2, mI x14_3, mI x14_4, mI x14_5, mU, mU] [] h14_ := by
    intro n
    induction n with
    | zero =>
      intro x14_3 bx14_3 x14_4 bx14_4 x14_5 bx14_5 h14_ i14_ f14_ w14_0 w14_1 hm
      exfalso; omega
    | succ n ih14 =>
      intro x14_3 bx14_3 x14_4 bx14_4 x14_5 bx14_5 h14_ i14_ f14_ w14_0 w14_1 hm14
      refine mm_iload C (mm_dec dk_X10_through 8 rfl) rfl ?_
      refine mm_iload_n C (mm_dec dk_X10_through 9 rfl) rfl ?_
      refine mm_icmp_gt (tgt := 81) C (mm_dec dk_X10_through 10 rfl) (by decide) (fun c17 => ?_) (fun c17 => ?_)
      · skip
        refine mm_iload_n C (mm_dec dk_X10_through 43 rfl) rfl ?_
        exact mm_iret C T (mm_dec dk_X10_through 44 rfl) (by decide : 0 ≤ 0) (by decide : 0 ≤ 0) ⟨_, rfl, ⟨⟨by omega, by omega⟩, i14_, f14_, by first | exact Or.inl ⟨_, by rw [show p2 + 1 = x14_5 by omega]; exact w14_0⟩ | exact Or.inr ⟨rfl, x14_5, _, _, by omega, by omega, w14_0, by rw [show ((fun j => if j < p2 then h.2.1 61 j else h.1 1 8) x14_5) = s40_0 from w40_0.symm]; rw [show (-1 : Int) = r53 by omega]; exact zq⟩⟩⟩
      · skip
        refine mm_iload C (mm_dec dk_X10_through 11 rfl) rfl ?_
        refine mm_iload_n C (mm_dec dk_X10_through 12 rfl) rfl ?_
        have J40 : ∀ (s40_0 : Int) (bs40_0 : 0 ≤ s40_0 ∧ s40_0 ≤ 399) (w40_0 : s40_0 = (if x14_5 < p2 then h.2.1 61 x14_5 else h.1 1 8)), mm_W x 0 0 40 [mR 7, mR 61, mI p2, mI x14_3, mI x14_4, mI x14_5, mU, mU] [mI s40_0] h14_ := by
          intro s40_0 bs40_0 w40_0
          refine mm_istoreL (ls2 := [mR 7, mR 61, mI p2, mI x14_3, mI x14_4, mI x14_5, mI s40_0, mU]) C (mm_dec dk_X10_through 21 rfl) (by decide) rfl ?_
          refine mm_aload_n C (mm_dec dk_X10_through 22 rfl) rfl ?_
          refine mm_iload C (mm_dec dk_X10_through 23 rfl) rfl ?_
          refine mm_iload C (mm_dec dk_X10_through 24 rfl) rfl ?_
          refine mm_cVv (rest := []) C1 ev_X10_52 (mm_dec dk_X10_through 25 rfl) (c_X10_measure_q x.2.1 hl (d - 1) (by omega) h14_ i14_ s40_0 x14_4 ⟨by omega, by omega⟩ ⟨by omega, by omega⟩) rfl rfl (Nat.le_of_ble_eq_true rfl) ⟨by decide, by decide⟩ rfl (fun h47c hp47 => ?_) (fun _ _ q => q.elim)
          obtain ⟨i47c, g47c, y47_0⟩ := hp47
          have f47c : mm_fr [(7, 7), (7, 8)] [8, 9, 10, 11] h h47c := mm_fr_tr f14_ g47c (by decide +kernel)
          refine mm_aload_n C (mm_dec dk_X10_through 26 rfl) rfl ?_
          refine mm_iload C (mm_dec dk_X10_through 27 rfl) rfl ?_
          refine mm_cVi (rest := []) C1 ev_X10_67 (mm_dec dk_X10_through 28 rfl) (c_X10_secondsFrom x.2.1 hl (d - 1) (by omega) h47c i47c x14_4 ⟨by omega, by omega⟩) rfl rfl (Nat.le_of_ble_eq_true rfl) ⟨by decide, by decide⟩ rfl (fun r53 h53c hp53 => ?_) (fun _ _ q => q.elim)
          obtain ⟨z53, y53⟩ := hp53
          rw [z53]
          have g4 : -2147483648 ≤ (h47c.2.1 8 x14_4) ∧ (h47c.2.1 8 x14_4) ≤ 2147483647 := i47c.2.1 8 x14_4
          have g5 : -2147483648 ≤ (mm_w (Int.tdiv (h47c.2.1 8 x14_4) 512)) ∧ (mm_w (Int.tdiv (h47c.2.1 8 x14_4) 512)) < 2147483648 := mm_w_rg _
          refine mm_istoreL (ls2 := [mR 7, mR 61, mI p2, mI x14_3, mI x14_4, mI x14_5, mI s40_0, mI r53]) C (mm_dec dk_X10_through 29 rfl) (by decide) rfl ?_
          have zq : mm_lgX h x14_4 s40_0 r53 := mm_lgX_fr (mm_ldx_fr f14_ (by decide)) (mm_lgX_of y47_0 (by omega))
          refine mm_iload C (mm_dec dk_X10_through 30 rfl) rfl ?_
          refine mm_iconst C (mm_dec dk_X10_through 31 rfl) ⟨by decide, by decide⟩ ?_
          refine mm_icmp_ne (tgt := 66) C (mm_dec dk_X10_through 32 rfl) (by decide) (fun c61 => ?_) (fun c61 => ?_)
          · skip
            refine mm_iload_n C (mm_dec dk_X10_through 35 rfl) rfl ?_
            refine mm_iload C (mm_dec dk_X10_through 36 rfl) rfl ?_
            refine mm_iaddw C (mm_dec dk_X10_through 37 rfl) ?_
            have g6 : -2147483648 ≤ (mm_w (x14_3 + r53)) ∧ (mm_w (x14_3 + r53)) < 2147483648 := mm_w_rg _
            refine mm_istore_nL (ls2 := [mR 7, mR 61, mI p2, mI (mm_w (x14_3 + r53)), mI x14_4, mI x14_5, mI s40_0, mI r53]) C (mm_dec dk_X10_through 38 rfl) (by decide) rfl ?_
            refine mm_iload C (mm_dec dk_X10_through 39 rfl) rfl ?_
            refine mm_istoreL (ls2 := [mR 7, mR 61, mI p2, mI (mm_w (x14_3 + r53)), mI s40_0, mI x14_5, mI s40_0, mI r53]) C (mm_dec dk_X10_through 40 rfl) (by decide) rfl ?_
            refine mm_iincL (ls2 := [mR 7, mR 61, mI p2, mI (mm_w (x14_3 + r53)), mI s40_0, mI (x14_5 + 1), mI s40_0, mI r53]) C (mm_dec dk_X10_through 41 rfl) rfl (by decide) ⟨by omega, by omega⟩ rfl ?_
            refine mm_goto (tgt := 14) C (mm_dec dk_X10_through 42 rfl) (by decide) ?_
            refine mm_fgt 6 ?_
            refine mm_fgt 7 ?_
            exact ih14 (mm_w (x14_3 + r53)) ⟨by omega, by omega⟩ s40_0 ⟨by omega, by omega⟩ (x14_5 + 1) ⟨by omega, by omega⟩ h47c i47c f47c (by first | exact mm_LW_0 | exact mm_LW_s w14_0 (by omega) zq w40_0 (by omega) rfl) (by omega) (by omega)
          · skip
            refine mm_iconst C (mm_dec dk_X10_through 33 rfl) ⟨by decide, by decide⟩ ?_
            exact mm_iret C T (mm_dec dk_X10_through 34 rfl) (by decide : 0 ≤ 0) (by decide : 0 ≤ 0) ⟨_, rfl, ⟨⟨by omega, by omega⟩, i47c, f47c, by first | exact Or.inl ⟨_, by rw [show p2 + 1 = x14_5 by omega]; exact w14_0⟩ | exact Or.inr ⟨rfl, x14_5, _, _, by omega, by omega, w14_0, by rw [show ((fun j => if j < p2 then h.2.1 61 j else h.1 1 8) x14_5) = s40_0 from w40_0.symm]; rw [show (-1 : Int) = r53 by omega]; exact zq⟩⟩⟩
        refine mm_icmp_ge (tgt := 33) C (mm_dec dk_X10_through 13 rfl) (by decide) (fun c23 => ?_) (fun c23 => ?_)
        · skip
          refine mm_aload_n C (mm_dec dk_X10_through 18 rfl) rfl ?_
          refine mm_getr (t := 1) C fl_X10_48 (mm_dec dk_X10_through 19 rfl) rfl rfl (mm_ref i14_ rfl) ?_
          refine mm_geti C fl_X10_77 (mm_dec dk_X10_through 20 rfl) rfl rfl (Or.inl rfl) ?_
          have g7 : 0 ≤ (h14_.1 1 8) ∧ (h14_.1 1 8) ≤ 399 := i14_.1 1 8
          exact J40 (h14_.1 1 8) ⟨by omega, by omega⟩ (by first | (rw [if_pos (by omega)]; first | rfl | exact f14_.2 61 (by decide) _) | (rw [if_neg (by omega)]; first | rfl | exact f14_.1 1 8 (by decide)))
        · skip
          refine mm_aload_n C (mm_dec dk_X10_through 14 rfl) rfl ?_
          refine mm_iload C (mm_dec dk_X10_through 15 rfl) rfl ?_
          refine mm_iald C (mm_dec dk_X10_through 16 rfl) rfl (by omega) (by omega) ?_
          have g8 : 0 ≤ (h14_.2.1 61 x14_5) ∧ (h14_.2.1 61 x14_5) ≤ 399 := i14_.2.1 61 x14_5
          refine mm_goto (tgt := 40) C (mm_dec dk_X10_through 17 rfl) (by decide) ?_
          exact J40 (h14_.2.1 61 x14_5) ⟨by omega, by omega⟩ (by first | (rw [if_pos (by omega)]; first | rfl | exact f14_.2 61 (by decide) _) | (rw [if_neg (by omega)]; first | rfl | exact f14_.1 1 8 (by decide)))
  refine mm_istoreL (ls2 := [mR 7, mR 61, mI p2, mI 0, mI (h.1 1 7), mI 0, mU, mU]) C (mm_dec dk_X10_through 7 rfl) (by decide) rfl ?_
  exact J14 (((13 - 0) : Int) + 1).toNat 0 ⟨by omega, by omega⟩ (h.1 1 7) ⟨by omega, by omega⟩ 0 ⟨by omega, by omega⟩ h i0 f0 (by first | exact mm_LW_0 | exact mm_LW_s w14_0 (by omega) zq w40_0 (by omega) rfl) (by omega) (by omega)
set_option maxRecDepth 100000 in
set_option maxHeartbeats 4000000 in
theorem c_X11_lengthOf_q (l : Launch) (hl : l.stackTraces = false) (d : Nat) (hd : 5 ≤ d) (h : mH) (i0 : mm_inv h) (p1 : Int) (bp1 : 0 ≤ p1 ∧ p1 ≤ 39) : mm_Met l d yX11_lengthOf cX11_lengthOf 3 (some .int) [mR 0, mI p1] h (mm_pi fun r h2 => (-2147483648 ≤ r ∧ r ≤ 2147483647) ∧ mm_inv h2 ∧ mm_fr [(7, 7), (7, 8)] [8, 9, 10, 11, 61] h h2 ∧ mm_lX h p1 r) mm_nx 0 0 := by
  refine mm_ofW (ls := [mR 0, mI p1, mU]) hl (by decide) rfl (Nat.le_of_ble_eq_true rfl) ?_
  intro x hxl C T hnm htb
  subst hxl
  have C1 := mm_OK_le (d' := d - 1 + 1) (by omega) C
  refine mm_rng (fun hr _ => ?_)
  have ap1 : -2147483648 ≤ p1 ∧ p1 < 2147483648 := mm_ok_at hr (i := 1) rfl
  have f0 : mm_fr [(7, 7), (7, 8)] [8, 9, 10, 11, 61] h h := mm_fr_rf
  have z19 : 0 ≤ h.2.1 19 (h.2.1 23 p1) := (i0.2.1 19 _).1
  refine mm_aload_n C (mm_dec dk_X11_lengthOf 0 rfl) rfl ?_
  refine mm_iload_n C (mm_dec dk_X11_lengthOf 1 rfl) rfl ?_
  refine mm_cVi (rest := []) C1 ev_X11_371 (mm_dec dk_X11_lengthOf 2 rfl) (c_X11_fillStops_q x.2.1 hl (d - 1) (by omega) h i0 p1 ⟨by omega, by omega⟩) rfl rfl (Nat.le_of_ble_eq_true rfl) ⟨by decide, by decide⟩ rfl (fun r2 h2c hp2 => ?_) (fun _ _ q => q.elim)
  obtain ⟨b2, i2c, g2c, y2_0, y2_1⟩ := hp2
  have f2c : mm_fr [(7, 7), (7, 8)] [8, 9, 10, 11, 61] h h2c := mm_fr_tr f0 g2c (by decide +kernel)
  refine mm_istore_nL (ls2 := [mR 0, mI p1, mI r2]) C (mm_dec dk_X11_lengthOf 3 rfl) (by decide) rfl ?_
  refine mm_aload_n C (mm_dec dk_X11_lengthOf 4 rfl) rfl ?_
  refine mm_getr (t := 7) C fl_X11_21 (mm_dec dk_X11_lengthOf 5 rfl) rfl rfl (mm_ref i2c rfl) ?_
  refine mm_aload_n C (mm_dec dk_X11_lengthOf 6 rfl) rfl ?_
  refine mm_getr (t := 61) C fl_X11_82 (mm_dec dk_X11_lengthOf 7 rfl) rfl rfl (mm_ref i2c rfl) ?_
  refine mm_iload_n C (mm_dec dk_X11_lengthOf 8 rfl) rfl ?_
  refine mm_cVi (rest := []) C1 ev_X11_398 (mm_dec dk_X11_lengthOf 9 rfl) (c_X10_through_61_q x.2.1 hl (d - 1) (by omega) h2c i2c r2 ⟨by omega, by omega⟩) rfl rfl (Nat.le_of_ble_eq_true rfl) ⟨by decide, by decide⟩ rfl (fun r15 h15c hp15 => ?_) (fun _ _ q => q.elim)
  obtain ⟨b15, i15c, g15c, y15_0⟩ := hp15
  have f15c : mm_fr [(7, 7), (7, 8)] [8, 9, 10, 11, 61] h h15c := mm_fr_tr f2c g15c (by decide +kernel)
  exact mm_iret C T (mm_dec dk_X11_lengthOf 10 rfl) (by decide : 0 ≤ 0) (by decide : 0 ≤ 0) ⟨_, rfl, ⟨⟨by omega, by omega⟩, i15c, f15c, by exact mm_lX_of y2_1 y2_0 rfl (mm_ldx_fr g2c (by decide)) (g2c.1 1 7 (by decide)) (g2c.1 1 8 (by decide)) (by omega) y15_0⟩⟩
set_option maxRecDepth 100000 in
set_option maxHeartbeats 4000000 in
theorem c_X12_between_q (l : Launch) (hl : l.stackTraces = false) (d : Nat) (hd : 3 ≤ d) (h : mH) (i0 : mm_inv h) (p1 : Int) (p2 : Int) (bp1 : 0 ≤ p1 ∧ p1 ≤ 399) (bp2 : 0 ≤ p2 ∧ p2 ≤ 399) : mm_Met l d yX12_between cX12_between 3 (some .int) [mR 66, mI p1, mI p2] h (mm_pi fun r h2 => (-1 ≤ r ∧ r ≤ 999999999) ∧ mm_inv h2 ∧ mm_fr [(66, 18)] [72, 73, 75, 76] h h2 ∧ mm_lgY h p1 p2 r) mm_nx 0 0 := by
  refine mm_ofW (ls := [mR 66, mI p1, mI p2]) hl (by decide) rfl (Nat.le_of_ble_eq_true rfl) ?_
  intro x hxl C T hnm htb
  subst hxl
  have C1 := mm_OK_le (d' := d - 1 + 1) (by omega) C
  refine mm_rng (fun hr _ => ?_)
  have ap1 : -2147483648 ≤ p1 ∧ p1 < 2147483648 := mm_ok_at hr (i := 1) rfl
  have ap2 : -2147483648 ≤ p2 ∧ p2 < 2147483648 := mm_ok_at hr (i := 2) rfl
  have f0 : mm_fr [(66, 18)] [72, 73, 75, 76] h h := mm_fr_rf
  refine mm_aload_n C (mm_dec dk_X12_between 0 rfl) rfl ?_
  refine mm_iload_n C (mm_dec dk_X12_between 1 rfl) rfl ?_
  refine mm_cVv (rest := []) C1 ev_X12_280 (mm_dec dk_X12_between 2 rfl) (c_X12_towards_q x.2.1 hl (d - 1) (by omega) h i0 p2 ⟨by omega, by omega⟩) rfl rfl (Nat.le_of_ble_eq_true rfl) ⟨by decide, by decide⟩ rfl (fun h2c hp2 => ?_) (fun _ _ q => q.elim)
  obtain ⟨i2c, g2c, y2_0⟩ := hp2
  have f2c : mm_fr [(66, 18)] [72, 73, 75, 76] h h2c := mm_fr_tr f0 g2c (by decide +kernel)
  refine mm_aload_n C (mm_dec dk_X12_between 3 rfl) rfl ?_
  refine mm_getr (t := 72) C fl_X12_26 (mm_dec dk_X12_between 4 rfl) rfl rfl (mm_ref i2c rfl) ?_
  refine mm_iload_n C (mm_dec dk_X12_between 5 rfl) rfl ?_
  refine mm_iald C (mm_dec dk_X12_between 6 rfl) rfl (by omega) (by omega) ?_
  have g2 : 0 ≤ (h2c.2.1 72 p1) ∧ (h2c.2.1 72 p1) ≤ 1000000000 := i2c.2.1 72 p1
  refine mm_ldcw (z := 1000000000) C (mm_dec dk_X12_between 7 rfl) kc_X12_258 (by decide) ?_
  have J27 : ∀ (s27_0 : Int) (bs27_0 : -1 ≤ s27_0 ∧ s27_0 ≤ 999999999) (w27_0 : s27_0 = mm_ry h2c p1), mm_W x 0 0 27 [mU, mU, mU] [mI s27_0] h2c := by
    intro s27_0 bs27_0 w27_0
    exact mm_iret C T (mm_dec dk_X12_between 15 rfl) (by decide : 0 ≤ 0) (by decide : 0 ≤ 0) ⟨_, rfl, ⟨⟨by omega, by omega⟩, i2c, f2c, by exact ⟨h2c, i2c, mm_lnd_fr f2c (by decide), y2_0, w27_0⟩⟩⟩
  refine mm_icmp_ne (tgt := 21) C (mm_dec dk_X12_between 8 rfl) (by decide) (fun c14 => ?_) (fun c14 => ?_)
  · skip
    refine mm_aload_n C (mm_dec dk_X12_between 11 rfl) rfl ?_
    refine mm_getr (t := 72) C fl_X12_26 (mm_dec dk_X12_between 12 rfl) rfl rfl (mm_ref i2c rfl) ?_
    refine mm_iload_n C (mm_dec dk_X12_between 13 rfl) rfl ?_
    refine mm_iald C (mm_dec dk_X12_between 14 rfl) rfl (by omega) (by omega) ?_
    refine mm_fgt 0 ?_
    refine mm_fgt 1 ?_
    refine mm_fgt 2 ?_
    exact J27 (h2c.2.1 72 p1) ⟨by omega, by omega⟩ (by first | exact mm_ry_1 (by omega) | exact mm_ry_2 rfl (by omega))
  · skip
    refine mm_iconst C (mm_dec dk_X12_between 9 rfl) ⟨by decide, by decide⟩ ?_
    refine mm_goto (tgt := 27) C (mm_dec dk_X12_between 10 rfl) (by decide) ?_
    refine mm_fgt 0 ?_
    refine mm_fgt 1 ?_
    refine mm_fgt 2 ?_
    exact J27 (-1) ⟨by omega, by omega⟩ (by first | exact mm_ry_1 (by omega) | exact mm_ry_2 rfl (by omega))
set_option maxRecDepth 100000 in
set_option maxHeartbeats 4000000 in
theorem c_X12_lengthOf_q (l : Launch) (hl : l.stackTraces = false) (d : Nat) (hd : 4 ≤ d) (h : mH) (i0 : mm_inv h) (p1 : Int) (bp1 : 0 ≤ p1 ∧ p1 ≤ 39) : mm_Met l d yX12_lengthOf cX12_lengthOf 7 (some .int) [mR 66, mI p1] h (mm_pi fun r h2 => (-2147483648 ≤ r ∧ r ≤ 2147483647) ∧ mm_inv h2 ∧ mm_fr [(66, 18), (66, 39)] [72, 73, 75, 76, 91] h h2 ∧ mm_lY h p1 r) mm_nx 0 0 := by
  refine mm_ofW (ls := [mR 66, mI p1, mU, mU, mU, mU, mU]) hl (by decide) rfl (Nat.le_of_ble_eq_true rfl) ?_
  intro x hxl C T hnm htb
  subst hxl
  have C1 := mm_OK_le (d' := d - 1 + 1) (by omega) C
  refine mm_rng (fun hr _ => ?_)
  have ap1 : -2147483648 ≤ p1 ∧ p1 < 2147483648 := mm_ok_at hr (i := 1) rfl
  have f0 : mm_fr [(66, 18), (66, 39)] [72, 73, 75, 76, 91] h h := mm_fr_rf
  have g1 : 0 ≤ h.1 66 39 ∧ h.1 66 39 ≤ 12 := i0.1 66 39
  refine mm_aload_n C (mm_dec dk_X12_lengthOf 0 rfl) rfl ?_
  refine mm_iload_n C (mm_dec dk_X12_lengthOf 1 rfl) rfl ?_
  refine mm_cVv (rest := []) C1 ev_X12_302 (mm_dec dk_X12_lengthOf 2 rfl) (c_X12_rows_q x.2.1 hl (d - 1) (by omega) h i0 p1 ⟨by omega, by omega⟩) rfl rfl (Nat.le_of_ble_eq_true rfl) ⟨by decide, by decide⟩ rfl (fun h2c hp2 => ?_) (fun _ _ q => q.elim)
  obtain ⟨i2c, g2c, y2_0, y2_1⟩ := hp2
  have f2c : mm_fr [(66, 18), (66, 39)] [72, 73, 75, 76, 91] h h2c := mm_fr_tr f0 g2c (by decide +kernel)
  have g3 : 0 ≤ (h2c.1 66 39) ∧ (h2c.1 66 39) ≤ 12 := i2c.1 66 39
  refine mm_bipush C (mm_dec dk_X12_lengthOf 3 rfl) ⟨by decide, by decide⟩ ?_
  refine mm_aload_n C (mm_dec dk_X12_lengthOf 4 rfl) rfl ?_
  refine mm_geti C fl_X12_204 (mm_dec dk_X12_lengthOf 5 rfl) rfl rfl (Or.inl rfl) ?_
  have g4 : 0 ≤ (h2c.1 66 10) ∧ (h2c.1 66 10) ≤ 19 := i2c.1 66 10
  refine mm_imul C (mm_dec dk_X12_lengthOf 6 rfl) ⟨by omega, by omega⟩ ?_
  refine mm_aload_n C (mm_dec dk_X12_lengthOf 7 rfl) rfl ?_
  refine mm_geti C fl_X12_201 (mm_dec dk_X12_lengthOf 8 rfl) rfl rfl (Or.inl rfl) ?_
  have g5 : 0 ≤ (h2c.1 66 9) ∧ (h2c.1 66 9) ≤ 19 := i2c.1 66 9
  refine mm_iadd C (mm_dec dk_X12_lengthOf 9 rfl) ⟨by omega, by omega⟩ ?_
  refine mm_istore_nL (ls2 := [mR 66, mI p1, mI ((20 * (h2c.1 66 10)) + (h2c.1 66 9)), mU, mU, mU, mU]) C (mm_dec dk_X12_lengthOf 10 rfl) (by decide) rfl ?_
  refine mm_iconst C (mm_dec dk_X12_lengthOf 11 rfl) ⟨by decide, by decide⟩ ?_
  refine mm_istore_nL (ls2 := [mR 66, mI p1, mI ((20 * (h2c.1 66 10)) + (h2c.1 66 9)), mI 0, mU, mU, mU]) C (mm_dec dk_X12_lengthOf 12 rfl) (by decide) rfl ?_
  refine mm_iconst C (mm_dec dk_X12_lengthOf 13 rfl) ⟨by decide, by decide⟩ ?_
  have J23 : ∀ (n : Nat) (x23_2 : Int) (bx23_2 : 0 ≤ x23_2 ∧ x23_2 ≤ 399) (x23_3 : Int) (bx23_3 : -2147483648 ≤ x23_3 ∧ x23_3 ≤ 2147483647) (x23_4 : Int) (bx23_4 : 0 ≤ x23_4 ∧ x23_4 ≤ 13) (h23_ : mH) (i23_ : mm_inv h23_) (f23_ : mm_fr [(66, 18), (66, 39)] [72, 73, 75, 76, 91] h h23_) (w23_0 : mm_LW (mm_lgY h) (mm_tY h p1) (20 * h.1 66 10 + h.1 66 9) (x23_4).toNat x23_3 x23_2) (w23_1 : mm_rw h23_ 91 (mm_rY h p1) (mm_nY h p1)) (w23_2 : h23_.1 66 39 = mm_nY h p1) (w23_3 : x23_4 ≤ h23_.1 66 39 + 1), (13 - x23_4 : Int) < n → mm_W x 0 0 23 [mR 66, mU, mI x23_2, mI x23_3, mI x23_4, mU, mU] [] h23_ := by
    intro n
    induction n with
    | zero =>
      intro x23_2 bx23_2 x23_3 bx23_3 x23_4 bx23_4 h23_ i23_ f23_ w23_0 w23_1 w23_2 w23_3 hm
      have g6 : 0 ≤ h23_.1 66 39 ∧ h23_.1 66 39 ≤ 12 := i23_.1 66 39
      exfalso; omega
    | succ n ih23 =>
      intro x23_2 bx23_2 x23_3 bx23_3 x23_4 bx23_4 h23_ i23_ f23_ w23_0 w23_1 w23_2 w23_3 hm23
      have g7 : 0 ≤ h23_.1 66 39 ∧ h23_.1 66 39 ≤ 12 := i23_.1 66 39
      refine mm_iload C (mm_dec dk_X12_lengthOf 15 rfl) rfl ?_
      refine mm_aload_n C (mm_dec dk_X12_lengthOf 16 rfl) rfl ?_
      refine mm_geti C fl_X12_296 (mm_dec dk_X12_lengthOf 17 rfl) rfl rfl (Or.inl rfl) ?_
      refine mm_icmp_gt (tgt := 101) C (mm_dec dk_X12_lengthOf 18 rfl) (by decide) (fun c29 => ?_) (fun c29 => ?_)
      · skip
        refine mm_iload_n C (mm_dec dk_X12_lengthOf 57 rfl) rfl ?_
        exact mm_iret C T (mm_dec dk_X12_lengthOf 58 rfl) (by decide : 0 ≤ 0) (by decide : 0 ≤ 0) ⟨_, rfl, ⟨⟨by omega, by omega⟩, i23_, f23_, by first | exact Or.inl ⟨_, by rw [show mm_nY h p1 + 1 = x23_4 by omega]; exact w23_0⟩ | exact Or.inr ⟨rfl, x23_4, _, _, by omega, by omega, w23_0, by rw [← w68_0]; rw [show (-1 : Int) = r74 by omega]; exact zq⟩⟩⟩
      · skip
        refine mm_iload C (mm_dec dk_X12_lengthOf 19 rfl) rfl ?_
        refine mm_aload_n C (mm_dec dk_X12_lengthOf 20 rfl) rfl ?_
        refine mm_geti C fl_X12_296 (mm_dec dk_X12_lengthOf 21 rfl) rfl rfl (Or.inl rfl) ?_
        have J68 : ∀ (s68_0 : Int) (bs68_0 : 0 ≤ s68_0 ∧ s68_0 ≤ 399) (w68_0 : s68_0 = mm_tY h p1 x23_4), mm_W x 0 0 68 [mR 66, mU, mI x23_2, mI x23_3, mI x23_4, mU, mU] [mI s68_0] h23_ := by
          intro s68_0 bs68_0 w68_0
          have g8 : 0 ≤ h23_.1 66 39 ∧ h23_.1 66 39 ≤ 12 := i23_.1 66 39
          refine mm_istoreL (ls2 := [mR 66, mU, mI x23_2, mI x23_3, mI x23_4, mI s68_0, mU]) C (mm_dec dk_X12_lengthOf 38 rfl) (by decide) rfl ?_
          refine mm_aload_n C (mm_dec dk_X12_lengthOf 39 rfl) rfl ?_
          refine mm_iload_n C (mm_dec dk_X12_lengthOf 40 rfl) rfl ?_
          refine mm_iload C (mm_dec dk_X12_lengthOf 41 rfl) rfl ?_
          refine mm_cVi (rest := []) C1 ev_X12_305 (mm_dec dk_X12_lengthOf 42 rfl) (c_X12_between_q x.2.1 hl (d - 1) (by omega) h23_ i23_ x23_2 s68_0 ⟨by omega, by omega⟩ ⟨by omega, by omega⟩) rfl rfl (Nat.le_of_ble_eq_true rfl) ⟨by decide, by decide⟩ rfl (fun r74 h74c hp74 => ?_) (fun _ _ q => q.elim)
          obtain ⟨b74, i74c, g74c, y74_0⟩ := hp74
          have f74c : mm_fr [(66, 18), (66, 39)] [72, 73, 75, 76, 91] h h74c := mm_fr_tr f23_ g74c (by decide +kernel)
          have q74c_10 : h74c.1 66 39 = h23_.1 66 39 := g74c.1 66 39 (by decide)
          refine mm_istoreL (ls2 := [mR 66, mU, mI x23_2, mI x23_3, mI x23_4, mI s68_0, mI r74]) C (mm_dec dk_X12_lengthOf 43 rfl) (by decide) rfl ?_
          have zq : mm_lgY h x23_2 s68_0 r74 := mm_lgY_fr (mm_lnd_fr f23_ (by decide)) y74_0
          refine mm_iload C (mm_dec dk_X12_lengthOf 44 rfl) rfl ?_
          refine mm_iconst C (mm_dec dk_X12_lengthOf 45 rfl) ⟨by decide, by decide⟩ ?_
          refine mm_icmp_ne (tgt := 87) C (mm_dec dk_X12_lengthOf 46 rfl) (by decide) (fun c82 => ?_) (fun c82 => ?_)
          · skip
            refine mm_iload_n C (mm_dec dk_X12_lengthOf 49 rfl) rfl ?_
            refine mm_iload C (mm_dec dk_X12_lengthOf 50 rfl) rfl ?_
            refine mm_iaddw C (mm_dec dk_X12_lengthOf 51 rfl) ?_
            have g11 : -2147483648 ≤ (mm_w (x23_3 + r74)) ∧ (mm_w (x23_3 + r74)) < 2147483648 := mm_w_rg _
            refine mm_istore_nL (ls2 := [mR 66, mU, mI x23_2, mI (mm_w (x23_3 + r74)), mI x23_4, mI s68_0, mI r74]) C (mm_dec dk_X12_lengthOf 52 rfl) (by decide) rfl ?_
            refine mm_iload C (mm_dec dk_X12_lengthOf 53 rfl) rfl ?_
            refine mm_istore_nL (ls2 := [mR 66, mU, mI s68_0, mI (mm_w (x23_3 + r74)), mI x23_4, mI s68_0, mI r74]) C (mm_dec dk_X12_lengthOf 54 rfl) (by decide) rfl ?_
            refine mm_iincL (ls2 := [mR 66, mU, mI s68_0, mI (mm_w (x23_3 + r74)), mI (x23_4 + 1), mI s68_0, mI r74]) C (mm_dec dk_X12_lengthOf 55 rfl) rfl (by decide) ⟨by omega, by omega⟩ rfl ?_
            refine mm_goto (tgt := 23) C (mm_dec dk_X12_lengthOf 56 rfl) (by decide) ?_
            refine mm_fgt 5 ?_
            refine mm_fgt 6 ?_
            exact ih23 s68_0 ⟨by omega, by omega⟩ (mm_w (x23_3 + r74)) ⟨by omega, by omega⟩ (x23_4 + 1) ⟨by omega, by omega⟩ h74c i74c f74c (by first | exact mm_LW_s w23_0 (by omega) zq w68_0 (by omega) rfl | (rw [show 20 * h2c.1 66 10 + h2c.1 66 9 = 20 * h.1 66 10 + h.1 66 9 by rw [g2c.1 66 10 (by decide), g2c.1 66 9 (by decide)]]; exact mm_LW_0)) (by first | exact mm_rw_sm w23_1 (fun j => g74c.2 91 (by decide) j) | exact (show mm_rw h2c 91 (mm_rY h p1) (mm_nY h p1) from (show h2c.1 66 39 = mm_nY h p1 from y2_1) ▸ y2_0)) (by first | exact y2_1 | omega) (by omega) (by omega)
          · skip
            refine mm_iconst C (mm_dec dk_X12_lengthOf 47 rfl) ⟨by decide, by decide⟩ ?_
            exact mm_iret C T (mm_dec dk_X12_lengthOf 48 rfl) (by decide : 0 ≤ 0) (by decide : 0 ≤ 0) ⟨_, rfl, ⟨⟨by omega, by omega⟩, i74c, f74c, by first | exact Or.inl ⟨_, by rw [show mm_nY h p1 + 1 = x23_4 by omega]; exact w23_0⟩ | exact Or.inr ⟨rfl, x23_4, _, _, by omega, by omega, w23_0, by rw [← w68_0]; rw [show (-1 : Int) = r74 by omega]; exact zq⟩⟩⟩
        refine mm_icmp_ge (tgt := 56) C (mm_dec dk_X12_lengthOf 22 rfl) (by decide) (fun c38 => ?_) (fun c38 => ?_)
        · skip
          refine mm_bipush C (mm_dec dk_X12_lengthOf 31 rfl) ⟨by decide, by decide⟩ ?_
          refine mm_aload_n C (mm_dec dk_X12_lengthOf 32 rfl) rfl ?_
          refine mm_geti C fl_X12_210 (mm_dec dk_X12_lengthOf 33 rfl) rfl rfl (Or.inl rfl) ?_
          have g12 : 0 ≤ (h23_.1 66 12) ∧ (h23_.1 66 12) ≤ 19 := i23_.1 66 12
          refine mm_imul C (mm_dec dk_X12_lengthOf 34 rfl) ⟨by omega, by omega⟩ ?_
          refine mm_aload_n C (mm_dec dk_X12_lengthOf 35 rfl) rfl ?_
          refine mm_geti C fl_X12_207 (mm_dec dk_X12_lengthOf 36 rfl) rfl rfl (Or.inl rfl) ?_
          have g13 : 0 ≤ (h23_.1 66 11) ∧ (h23_.1 66 11) ≤ 19 := i23_.1 66 11
          refine mm_iadd C (mm_dec dk_X12_lengthOf 37 rfl) ⟨by omega, by omega⟩ ?_
          exact J68 ((20 * (h23_.1 66 12)) + (h23_.1 66 11)) ⟨by omega, by omega⟩ (by first | exact mm_tY_in w23_1 (fun j => f23_.2 78 (by decide) j) (by omega) (by omega) | exact mm_tY_out (by omega) (by rw [f23_.1 66 12 (by decide), f23_.1 66 11 (by decide)]))
        · skip
          refine mm_aload_n C (mm_dec dk_X12_lengthOf 23 rfl) rfl ?_
          refine mm_getr (t := 78) C fl_X12_45 (mm_dec dk_X12_lengthOf 24 rfl) rfl rfl (mm_ref i23_ rfl) ?_
          refine mm_aload_n C (mm_dec dk_X12_lengthOf 25 rfl) rfl ?_
          refine mm_getr (t := 91) C fl_X12_84 (mm_dec dk_X12_lengthOf 26 rfl) rfl rfl (mm_ref i23_ rfl) ?_
          refine mm_iload C (mm_dec dk_X12_lengthOf 27 rfl) rfl ?_
          refine mm_iald C (mm_dec dk_X12_lengthOf 28 rfl) rfl (by omega) (by omega) ?_
          have g14 : 0 ≤ (h23_.2.1 91 x23_4) ∧ (h23_.2.1 91 x23_4) ≤ 19 := i23_.2.1 91 x23_4
          refine mm_iald C (mm_dec dk_X12_lengthOf 29 rfl) rfl (by omega) (by omega) ?_
          have g15 : 0 ≤ (h23_.2.1 78 (h23_.2.1 91 x23_4)) ∧ (h23_.2.1 78 (h23_.2.1 91 x23_4)) ≤ 399 := i23_.2.1 78 (h23_.2.1 91 x23_4)
          refine mm_goto (tgt := 68) C (mm_dec dk_X12_lengthOf 30 rfl) (by decide) ?_
          exact J68 (h23_.2.1 78 (h23_.2.1 91 x23_4)) ⟨by omega, by omega⟩ (by first | exact mm_tY_in w23_1 (fun j => f23_.2 78 (by decide) j) (by omega) (by omega) | exact mm_tY_out (by omega) (by rw [f23_.1 66 12 (by decide), f23_.1 66 11 (by decide)]))
  refine mm_istoreL (ls2 := [mR 66, mI p1, mI ((20 * (h2c.1 66 10)) + (h2c.1 66 9)), mI 0, mI 0, mU, mU]) C (mm_dec dk_X12_lengthOf 14 rfl) (by decide) rfl ?_
  refine mm_fgt 1 ?_
  exact J23 (((13 - 0) : Int) + 1).toNat ((20 * (h2c.1 66 10)) + (h2c.1 66 9)) ⟨by omega, by omega⟩ 0 ⟨by omega, by omega⟩ 0 ⟨by omega, by omega⟩ h2c i2c f2c (by first | exact mm_LW_s w23_0 (by omega) zq w68_0 (by omega) rfl | (rw [show 20 * h2c.1 66 10 + h2c.1 66 9 = 20 * h.1 66 10 + h.1 66 9 by rw [g2c.1 66 10 (by decide), g2c.1 66 9 (by decide)]]; exact mm_LW_0)) (by first | exact mm_rw_sm w23_1 (fun j => g74c.2 91 (by decide) j) | exact (show mm_rw h2c 91 (mm_rY h p1) (mm_nY h p1) from (show h2c.1 66 39 = mm_nY h p1 from y2_1) ▸ y2_0)) (by first | exact y2_1 | omega) (by omega) (by omega)
set_option maxRecDepth 100000 in
set_option maxHeartbeats 4000000 in
theorem c_X11_needPlace_q (l : Launch) (hl : l.stackTraces = false) (d : Nat) (hd : 8 ≤ d) (h : mH) (i0 : mm_inv h) (p1 : Int) (p2 : Int) (bp1 : 0 ≤ p1 ∧ p1 ≤ 39) : mm_Met l d yX11_needPlace cX11_needPlace 3 none [mR 0, mI p1, mI p2] h (mm_pv fun h2 => h2 = h ∧ 0 ≤ p2 ∧ p2 < (h.2.1 19 (h.2.1 23 p1))) (fun E h' => mm_xn h E h' ∧ (p2 < 0 ∨ h.2.1 19 (h.2.1 23 p1) ≤ p2)) 1 6 := by
  refine mm_ofW (ls := [mR 0, mI p1, mI p2]) hl (by decide) rfl (Nat.le_of_ble_eq_true rfl) ?_
  intro x hxl C T hnm htb
  subst hxl
  have C1 := mm_OK_le (d' := d - 1 + 1) (by omega) C
  have C8 := mm_OK_le (d' := d - 8 + 8) (by omega) C
  refine mm_rng (fun hr _ => ?_)
  have ap1 : -2147483648 ≤ p1 ∧ p1 < 2147483648 := mm_ok_at hr (i := 1) rfl
  have ap2 : -2147483648 ≤ p2 ∧ p2 < 2147483648 := mm_ok_at hr (i := 2) rfl
  have f0 : mm_fr [] [] h h := mm_fr_rf
  refine mm_iload_n C (mm_dec dk_X11_needPlace 0 rfl) rfl ?_
  refine mm_if_lt (tgt := 16) C (mm_dec dk_X11_needPlace 1 rfl) (by decide) (fun c1 => ?_) (fun c1 => ?_)
  · skip
    exact mm_throwXW C8 T htb th_nse (i := 7) rfl (mm_dec dk_X11_needPlace 8 rfl) (mm_dec dk_X11_needPlace 9 rfl) (mm_dec dk_X11_needPlace 10 rfl) (mm_dec dk_X11_needPlace 11 rfl) (mm_dec dk_X11_needPlace 12 rfl) (Nat.le_of_ble_eq_true rfl) ⟨by decide, by decide⟩ ⟨by decide, by decide⟩ (⟨⟨rfl, rfl⟩, by omega⟩)
  · skip
    refine mm_iload_n C (mm_dec dk_X11_needPlace 2 rfl) rfl ?_
    refine mm_aload_n C (mm_dec dk_X11_needPlace 3 rfl) rfl ?_
    refine mm_getr (t := 22) C fl_X11_37 (mm_dec dk_X11_needPlace 4 rfl) rfl rfl (mm_ref i0 rfl) ?_
    refine mm_iload_n C (mm_dec dk_X11_needPlace 5 rfl) rfl ?_
    refine mm_cVi (rest := [mI p2]) C1 ev_X11_238 (mm_dec dk_X11_needPlace 6 rfl) (c_X9_rowSize x.2.1 hl (d - 1) (by omega) h i0 p1 ⟨by omega, by omega⟩) rfl rfl (Nat.le_of_ble_eq_true rfl) ⟨by decide, by decide⟩ rfl (fun r10 h10c hp10 => ?_) (fun _ _ q => q.elim)
    obtain ⟨z10, y10⟩ := hp10
    rw [z10, y10]
    have g2 : 0 ≤ (h.2.1 19 (h.2.1 23 p1)) ∧ (h.2.1 19 (h.2.1 23 p1)) ≤ 12 := i0.2.1 19 (h.2.1 23 p1)
    have g3 : 0 ≤ (h.2.1 23 p1) ∧ (h.2.1 23 p1) ≤ 7 := i0.2.1 23 p1
    refine mm_icmp_lt (tgt := 27) C (mm_dec dk_X11_needPlace 7 rfl) (by decide) (fun c13 => ?_) (fun c13 => ?_)
    · skip
      exact mm_vret C T (mm_dec dk_X11_needPlace 13 rfl) (by decide : 0 ≤ 1) (by decide : 0 ≤ 6) ⟨rfl, ⟨rfl, by omega, by omega⟩⟩
    · skip
      exact mm_throwXW C8 T htb th_nse (i := 7) rfl (mm_dec dk_X11_needPlace 8 rfl) (mm_dec dk_X11_needPlace 9 rfl) (mm_dec dk_X11_needPlace 10 rfl) (mm_dec dk_X11_needPlace 11 rfl) (mm_dec dk_X11_needPlace 12 rfl) (Nat.le_of_ble_eq_true rfl) ⟨by decide, by decide⟩ ⟨by decide, by decide⟩ (⟨⟨rfl, rfl⟩, by omega⟩)
set_option maxRecDepth 100000 in
set_option maxHeartbeats 4000000 in
theorem c_X11_row_q (l : Launch) (hl : l.stackTraces = false) (d : Nat) (hd : 9 ≤ d) (h : mH) (i0 : mm_inv h) (p1 : Int) (p2 : Int) : mm_Met l d yX11_row cX11_row 3 (some .int) [mR 0, mI p1, mI p2] h (mm_pi fun r h2 => (-2147483648 ≤ r ∧ r ≤ 2147483647) ∧ mm_inv h2 ∧ mm_fr [(7, 7), (7, 8)] [8, 9, 10, 11, 61] h h2 ∧ (0 ≤ p1 ∧ p1 < h.1 22 8 ∧ ((-1 ≤ p2 ∧ p2 < h.2.1 19 (h.2.1 23 p1)) ∨ p2 = 100)) ∧ mm_wX9 h p1 p2 r) (fun E h' => mm_xn h E h' ∧ (p1 < 0 ∨ h.1 22 8 ≤ p1 ∨ ((p2 < -1 ∨ h.2.1 19 (h.2.1 23 p1) ≤ p2) ∧ p2 ≠ 100))) 2 12 := by
  refine mm_ofW (ls := [mR 0, mI p1, mI p2]) hl (by decide) rfl (Nat.le_of_ble_eq_true rfl) ?_
  intro x hxl C T hnm htb
  subst hxl
  have C1 := mm_OK_le (d' := d - 1 + 1) (by omega) C
  have C8 := mm_OK_le (d' := d - 8 + 8) (by omega) C
  refine mm_rng (fun hr _ => ?_)
  have ap1 : -2147483648 ≤ p1 ∧ p1 < 2147483648 := mm_ok_at hr (i := 1) rfl
  have ap2 : -2147483648 ≤ p2 ∧ p2 < 2147483648 := mm_ok_at hr (i := 2) rfl
  have f0 : mm_fr [(7, 7), (7, 8)] [8, 9, 10, 11, 61] h h := mm_fr_rf
  have z19 : 0 ≤ h.2.1 19 (h.2.1 23 p1) := (i0.2.1 19 _).1
  refine mm_aload_n C (mm_dec dk_X11_row 0 rfl) rfl ?_
  refine mm_iload_n C (mm_dec dk_X11_row 1 rfl) rfl ?_
  refine mm_cVv (rest := []) C1 ev_X11_235 (mm_dec dk_X11_row 2 rfl) (c_X11_needRunner_q x.2.1 hl (d - 1) (by omega) h i0 p1) rfl rfl (Nat.le_of_ble_eq_true rfl) ⟨by decide, by decide⟩ rfl (fun h2c hp2 => ?_) (fun E hx q => mm_out C T htb (by decide) (by decide) (by obtain ⟨q1, q2⟩ := q; exact ⟨q1, by omega⟩))
  obtain ⟨z2, k2_0, k2_1⟩ := hp2
  rw [z2]
  have g2 : 0 ≤ (h.1 22 8) ∧ (h.1 22 8) ≤ 40 := i0.1 22 8
  refine mm_iload_n C (mm_dec dk_X11_row 3 rfl) rfl ?_
  refine mm_iconst C (mm_dec dk_X11_row 4 rfl) ⟨by decide, by decide⟩ ?_
  refine mm_icmp_ne (tgt := 19) C (mm_dec dk_X11_row 5 rfl) (by decide) (fun c7 => ?_) (fun c7 => ?_)
  · skip
    refine mm_iload_n C (mm_dec dk_X11_row 11 rfl) rfl ?_
    refine mm_bipush C (mm_dec dk_X11_row 12 rfl) ⟨by decide, by decide⟩ ?_
    refine mm_icmp_ne (tgt := 31) C (mm_dec dk_X11_row 13 rfl) (by decide) (fun c22 => ?_) (fun c22 => ?_)
    · skip
      refine mm_aload_n C (mm_dec dk_X11_row 18 rfl) rfl ?_
      refine mm_iload_n C (mm_dec dk_X11_row 19 rfl) rfl ?_
      refine mm_iload_n C (mm_dec dk_X11_row 20 rfl) rfl ?_
      refine mm_cVv (rest := []) C1 ev_X11_244 (mm_dec dk_X11_row 21 rfl) (c_X11_needPlace_q x.2.1 hl (d - 1) (by omega) h i0 p1 p2 ⟨by omega, by omega⟩) rfl rfl (Nat.le_of_ble_eq_true rfl) ⟨by decide, by decide⟩ rfl (fun h34c hp34 => ?_) (fun E hx q => mm_out C T htb (by decide) (by decide) (by obtain ⟨q1, q2⟩ := q; exact ⟨q1, by omega⟩))
      obtain ⟨z34, k34_0, k34_1⟩ := hp34
      rw [z34]
      have g4 : 0 ≤ (h.2.1 19 (h.2.1 23 p1)) ∧ (h.2.1 19 (h.2.1 23 p1)) ≤ 12 := i0.2.1 19 (h.2.1 23 p1)
      have g5 : 0 ≤ (h.2.1 23 p1) ∧ (h.2.1 23 p1) ≤ 7 := i0.2.1 23 p1
      refine mm_aload_n C (mm_dec dk_X11_row 22 rfl) rfl ?_
      refine mm_getr (t := 22) C fl_X11_37 (mm_dec dk_X11_row 23 rfl) rfl rfl (mm_ref i0 rfl) ?_
      refine mm_iload_n C (mm_dec dk_X11_row 24 rfl) rfl ?_
      refine mm_aload_n C (mm_dec dk_X11_row 25 rfl) rfl ?_
      refine mm_getr (t := 61) C fl_X11_82 (mm_dec dk_X11_row 26 rfl) rfl rfl (mm_ref i0 rfl) ?_
      refine mm_cVi (rest := []) C1 ev_X11_247 (mm_dec dk_X11_row 27 rfl) (c_X9_fillPosts_61_q x.2.1 hl (d - 1) (by omega) h i0 p1 ⟨by omega, by omega⟩) rfl rfl (Nat.le_of_ble_eq_true rfl) ⟨by decide, by decide⟩ rfl (fun r46 h46c hp46 => ?_) (fun _ _ q => q.elim)
      obtain ⟨b46, i46c, g46c, y46_0, y46_1, y46_2⟩ := hp46
      have f46c : mm_fr [(7, 7), (7, 8)] [8, 9, 10, 11, 61] h h46c := mm_fr_tr f0 g46c (by decide +kernel)
      have q46c_7 : h46c.1 22 8 = h.1 22 8 := g46c.1 22 8 (by decide)
      refine mm_pop C (mm_dec dk_X11_row 28 rfl) (show (0 : Nat) ≠ 1 by decide) ?_
      refine mm_aload_n C (mm_dec dk_X11_row 29 rfl) rfl ?_
      refine mm_getr (t := 61) C fl_X11_82 (mm_dec dk_X11_row 30 rfl) rfl rfl (mm_ref i46c rfl) ?_
      refine mm_iload_n C (mm_dec dk_X11_row 31 rfl) rfl ?_
      refine mm_iald C (mm_dec dk_X11_row 32 rfl) rfl (by omega) (by omega) ?_
      have g8 : 0 ≤ (h46c.2.1 61 p2) ∧ (h46c.2.1 61 p2) ≤ 399 := i46c.2.1 61 p2
      exact mm_iret C T (mm_dec dk_X11_row 33 rfl) (by decide : 2 ≤ 2) (by decide : 12 ≤ 12) ⟨_, rfl, ⟨⟨by omega, by omega⟩, i46c, f46c, by omega, by first | exact Or.inl ⟨by omega, by first | rfl | (show _ = h.2.1 19 (h.2.1 23 p1); omega)⟩ | exact Or.inr (Or.inl ⟨by omega, y26_0⟩) | exact Or.inr (Or.inl ⟨by omega, y27_0⟩) | exact Or.inr (Or.inr ⟨by omega, by show p2 < h.2.1 19 (h.2.1 23 p1); omega, y46_1 p2 (by omega) (by omega)⟩)⟩⟩
    · skip
      refine mm_aload_n C (mm_dec dk_X11_row 14 rfl) rfl ?_
      refine mm_iload_n C (mm_dec dk_X11_row 15 rfl) rfl ?_
      refine mm_cVi (rest := []) C1 ev_X11_241 (mm_dec dk_X11_row 16 rfl) (c_X11_lengthOf_q x.2.1 hl (d - 1) (by omega) h i0 p1 ⟨by omega, by omega⟩) rfl rfl (Nat.le_of_ble_eq_true rfl) ⟨by decide, by decide⟩ rfl (fun r27 h27c hp27 => ?_) (fun _ _ q => q.elim)
      obtain ⟨b27, i27c, g27c, y27_0⟩ := hp27
      have f27c : mm_fr [(7, 7), (7, 8)] [8, 9, 10, 11, 61] h h27c := mm_fr_tr f0 g27c (by decide +kernel)
      have q27c_10 : h27c.1 22 8 = h.1 22 8 := g27c.1 22 8 (by decide)
      exact mm_iret C T (mm_dec dk_X11_row 17 rfl) (by decide : 1 ≤ 2) (by decide : 6 ≤ 12) ⟨_, rfl, ⟨⟨by omega, by omega⟩, i27c, f27c, by omega, by first | exact Or.inl ⟨by omega, by first | rfl | (show _ = h.2.1 19 (h.2.1 23 p1); omega)⟩ | exact Or.inr (Or.inl ⟨by omega, y26_0⟩) | exact Or.inr (Or.inl ⟨by omega, y27_0⟩) | exact Or.inr (Or.inr ⟨by omega, by show p2 < h.2.1 19 (h.2.1 23 p1); omega, y46_1 p2 (by omega) (by omega)⟩)⟩⟩
  · skip
    refine mm_aload_n C (mm_dec dk_X11_row 6 rfl) rfl ?_
    refine mm_getr (t := 22) C fl_X11_37 (mm_dec dk_X11_row 7 rfl) rfl rfl (mm_ref i0 rfl) ?_
    refine mm_iload_n C (mm_dec dk_X11_row 8 rfl) rfl ?_
    refine mm_cVi (rest := []) C1 ev_X11_238 (mm_dec dk_X11_row 9 rfl) (c_X9_rowSize x.2.1 hl (d - 1) (by omega) h i0 p1 ⟨by omega, by omega⟩) rfl rfl (Nat.le_of_ble_eq_true rfl) ⟨by decide, by decide⟩ rfl (fun r15 h15c hp15 => ?_) (fun _ _ q => q.elim)
    obtain ⟨z15, y15⟩ := hp15
    rw [z15, y15]
    have g12 : 0 ≤ (h.2.1 19 (h.2.1 23 p1)) ∧ (h.2.1 19 (h.2.1 23 p1)) ≤ 12 := i0.2.1 19 (h.2.1 23 p1)
    have g13 : 0 ≤ (h.2.1 23 p1) ∧ (h.2.1 23 p1) ≤ 7 := i0.2.1 23 p1
    exact mm_iret C T (mm_dec dk_X11_row 10 rfl) (by decide : 1 ≤ 2) (by decide : 6 ≤ 12) ⟨_, rfl, ⟨⟨by omega, by omega⟩, i0, f0, by omega, by first | exact Or.inl ⟨by omega, by first | rfl | (show _ = h.2.1 19 (h.2.1 23 p1); omega)⟩ | exact Or.inr (Or.inl ⟨by omega, y26_0⟩) | exact Or.inr (Or.inl ⟨by omega, y27_0⟩) | exact Or.inr (Or.inr ⟨by omega, by show p2 < h.2.1 19 (h.2.1 23 p1); omega, y46_1 p2 (by omega) (by omega)⟩)⟩⟩
set_option maxRecDepth 100000 in
set_option maxHeartbeats 4000000 in
theorem c_X12_row_q (l : Launch) (hl : l.stackTraces = false) (d : Nat) (hd : 5 ≤ d) (h : mH) (i0 : mm_inv h) (p1 : Int) (p2 : Int) : mm_Met l d yX12_row cX12_row 3 (some .int) [mR 66, mI p1, mI p2] h (mm_pi fun r h2 => (-2147483648 ≤ r ∧ r ≤ 2147483647) ∧ mm_inv h2 ∧ mm_fr [(66, 0), (66, 18), (66, 39)] [72, 73, 75, 76, 91] h h2 ∧ (((0 ≤ p1 ∧ p1 < h.1 66 23 ∧ ((-1 ≤ p2 ∧ p2 < h.2.1 80 (h.2.1 85 p1)) ∨ p2 = 100)) ∧ h2.1 66 0 = 0) ∨ ((p1 < 0 ∨ h.1 66 23 ≤ p1 ∨ ((p2 < -1 ∨ h.2.1 80 (h.2.1 85 p1) ≤ p2) ∧ p2 ≠ 100)) ∧ h2.1 66 0 = 1 ∧ r = 0)) ∧ (h2.1 66 0 = 0 → mm_wY9 h p1 p2 r)) mm_nx 0 0 := by
  refine mm_ofW (ls := [mR 66, mI p1, mI p2]) hl (by decide) rfl (Nat.le_of_ble_eq_true rfl) ?_
  intro x hxl C T hnm htb
  subst hxl
  have C1 := mm_OK_le (d' := d - 1 + 1) (by omega) C
  refine mm_rng (fun hr _ => ?_)
  have ap1 : -2147483648 ≤ p1 ∧ p1 < 2147483648 := mm_ok_at hr (i := 1) rfl
  have ap2 : -2147483648 ≤ p2 ∧ p2 < 2147483648 := mm_ok_at hr (i := 2) rfl
  have f0 : mm_fr [(66, 0), (66, 18), (66, 39)] [72, 73, 75, 76, 91] h h := mm_fr_rf
  have g1 : 0 ≤ h.1 66 39 ∧ h.1 66 39 ≤ 12 := i0.1 66 39
  have g2 : 0 ≤ h.1 66 23 ∧ h.1 66 23 ≤ 40 := i0.1 66 23
  have g3 : -2147483648 ≤ h.1 66 0 ∧ h.1 66 0 ≤ 2147483647 := i0.1 66 0
  have z80 : 0 ≤ h.2.1 80 (h.2.1 85 p1) := (i0.2.1 80 _).1
  refine mm_aload_n C (mm_dec dk_X12_row 0 rfl) rfl ?_
  refine mm_iload_n C (mm_dec dk_X12_row 1 rfl) rfl ?_
  refine mm_cVi (rest := []) C1 ev_X12_308 (mm_dec dk_X12_row 2 rfl) (c_X12_isRunner_q x.2.1 hl (d - 1) (by omega) h i0 p1) rfl rfl (Nat.le_of_ble_eq_true rfl) ⟨by decide, by decide⟩ rfl (fun r2 h2c hp2 => ?_) (fun _ _ q => q.elim)
  obtain ⟨b2, i2c, g2c, y2_0, y2_1⟩ := hp2
  have f2c : mm_fr [(66, 0), (66, 18), (66, 39)] [72, 73, 75, 76, 91] h h2c := mm_fr_tr f0 g2c (by decide +kernel)
  have q2c_5 : h2c.1 66 23 = h.1 66 23 := g2c.1 66 23 (by decide)
  have q2c_6 : h2c.1 66 39 = h.1 66 39 := g2c.1 66 39 (by decide)
  have g7 : -2147483648 ≤ (h2c.1 66 0) ∧ (h2c.1 66 0) ≤ 2147483647 := i2c.1 66 0
  refine mm_if_ne (tgt := 10) C (mm_dec dk_X12_row 3 rfl) (by decide) (fun c5 => ?_) (fun c5 => ?_)
  · skip
    refine mm_aload_n C (mm_dec dk_X12_row 6 rfl) rfl ?_
    refine mm_iload_n C (mm_dec dk_X12_row 7 rfl) rfl ?_
    refine mm_cVv (rest := []) C1 ev_X12_302 (mm_dec dk_X12_row 8 rfl) (c_X12_rows_q x.2.1 hl (d - 1) (by omega) h2c i2c p1 ⟨by omega, by omega⟩) rfl rfl (Nat.le_of_ble_eq_true rfl) ⟨by decide, by decide⟩ rfl (fun h12c hp12 => ?_) (fun _ _ q => q.elim)
    obtain ⟨i12c, g12c, y12_0, y12_1⟩ := hp12
    have f12c : mm_fr [(66, 0), (66, 18), (66, 39)] [72, 73, 75, 76, 91] h h12c := mm_fr_tr f2c g12c (by decide +kernel)
    have q12c_9 : h12c.1 66 0 = h2c.1 66 0 := g12c.1 66 0 (by decide)
    have q12c_10 : h12c.1 66 23 = h2c.1 66 23 := g12c.1 66 23 (by decide)
    have g11 : 0 ≤ (h12c.1 66 39) ∧ (h12c.1 66 39) ≤ 12 := i12c.1 66 39
    have zN : h12c.1 66 39 = h.2.1 80 (h.2.1 85 p1) := y12_1.trans (by rw [g2c.2 80 (by decide), g2c.2 85 (by decide)])
    refine mm_aload_n C (mm_dec dk_X12_row 9 rfl) rfl ?_
    refine mm_iload_n C (mm_dec dk_X12_row 10 rfl) rfl ?_
    refine mm_iconst C (mm_dec dk_X12_row 11 rfl) ⟨by decide, by decide⟩ ?_
    have J40 : ∀ (s40_1 : Int) (bs40_1 : 0 ≤ s40_1 ∧ s40_1 ≤ 1) (w40_0 : ((s40_1 = 1 ∧ ((-1 ≤ p2 ∧ p2 < h.2.1 80 (h.2.1 85 p1)) ∨ p2 = 100)) ∨ (s40_1 = 0 ∧ ((p2 < -1 ∨ h.2.1 80 (h.2.1 85 p1) ≤ p2) ∧ p2 ≠ 100)))) (vs40_1 : (p2 ≠ 100 ∧ s40_1 = 0) ∨ (s40_1 = 1)), mm_W x 0 0 40 [mR 66, mI p1, mI p2] [mI s40_1, mR 66] h12c := by
      intro s40_1 bs40_1 w40_0 vs40_1
      refine mm_iconst C (mm_dec dk_X12_row 23 rfl) ⟨by decide, by decide⟩ ?_
      refine mm_cVi (rest := []) C1 ev_X12_251 (mm_dec dk_X12_row 24 rfl) (c_X12_right_q x.2.1 hl (d - 1) (by omega) h12c i12c s40_1 1 ⟨by omega, by omega⟩ (by omega)) rfl rfl (Nat.le_of_ble_eq_true rfl) ⟨by decide, by decide⟩ rfl (fun r41 h41c hp41 => ?_) (fun _ _ q => q.elim)
      obtain ⟨b41, i41c, g41c, y41_0⟩ := hp41
      have f41c : mm_fr [(66, 0), (66, 18), (66, 39)] [72, 73, 75, 76, 91] h h41c := mm_fr_tr f12c g41c (by decide +kernel)
      have q41c_13 : h41c.1 66 23 = h12c.1 66 23 := g41c.1 66 23 (by decide)
      have q41c_14 : h41c.1 66 39 = h12c.1 66 39 := g41c.1 66 39 (by decide)
      have g15 : -2147483648 ≤ (h41c.1 66 0) ∧ (h41c.1 66 0) ≤ 2147483647 := i41c.1 66 0
      refine mm_if_ne (tgt := 49) C (mm_dec dk_X12_row 25 rfl) (by decide) (fun c44 => ?_) (fun c44 => ?_)
      · skip
        have zr : mm_rY h2c p1 = mm_rY h p1 := (mm_rY_fr p1 (fun j => g2c.2 80 (by decide) j) (fun j => g2c.2 82 (by decide) j) (fun j => g2c.2 84 (by decide) j) (fun j => g2c.2 85 (by decide) j) (fun j => g2c.2 87 (by decide) j)).1
        refine mm_iload_n C (mm_dec dk_X12_row 28 rfl) rfl ?_
        refine mm_iconst C (mm_dec dk_X12_row 29 rfl) ⟨by decide, by decide⟩ ?_
        have J81 : ∀ (s81_0 : Int) (bs81_0 : -2147483648 ≤ s81_0 ∧ s81_0 ≤ 2147483647) (h81_ : mH) (i81_ : mm_inv h81_) (f81_ : mm_fr [(66, 0), (66, 18), (66, 39)] [72, 73, 75, 76, 91] h h81_) (w81_0 : mm_wY9 h p1 p2 s81_0) (w81_1 : h81_.1 66 0 = 0), mm_W x 0 0 81 [mU, mU, mU] [mI s81_0] h81_ := by
          intro s81_0 bs81_0 h81_ i81_ f81_ w81_0 w81_1
          have g16 : 0 ≤ h81_.1 66 39 ∧ h81_.1 66 39 ≤ 12 := i81_.1 66 39
          have g17 : 0 ≤ h81_.1 66 23 ∧ h81_.1 66 23 ≤ 40 := i81_.1 66 23
          have g18 : -2147483648 ≤ h81_.1 66 0 ∧ h81_.1 66 0 ≤ 2147483647 := i81_.1 66 0
          have g19 : h81_.1 66 23 = h.1 66 23 := f81_.1 66 23 (by decide)
          exact mm_iret C T (mm_dec dk_X12_row 45 rfl) (by decide : 0 ≤ 0) (by decide : 0 ≤ 0) ⟨_, rfl, ⟨⟨by omega, by omega⟩, i81_, f81_, by omega, by first | exact fun q => absurd q (by omega) | exact fun _ => w81_0⟩⟩
        refine mm_icmp_ne (tgt := 61) C (mm_dec dk_X12_row 30 rfl) (by decide) (fun c51 => ?_) (fun c51 => ?_)
        · skip
          refine mm_iload_n C (mm_dec dk_X12_row 34 rfl) rfl ?_
          refine mm_bipush C (mm_dec dk_X12_row 35 rfl) ⟨by decide, by decide⟩ ?_
          refine mm_icmp_ne (tgt := 75) C (mm_dec dk_X12_row 36 rfl) (by decide) (fun c64 => ?_) (fun c64 => ?_)
          · skip
            refine mm_aload_n C (mm_dec dk_X12_row 41 rfl) rfl ?_
            refine mm_getr (t := 91) C fl_X12_84 (mm_dec dk_X12_row 42 rfl) rfl rfl (mm_ref i41c rfl) ?_
            refine mm_iload_n C (mm_dec dk_X12_row 43 rfl) rfl ?_
            refine mm_iald C (mm_dec dk_X12_row 44 rfl) rfl (by omega) (by omega) ?_
            have g20 : 0 ≤ (h41c.2.1 91 p2) ∧ (h41c.2.1 91 p2) ≤ 19 := i41c.2.1 91 p2
            refine mm_fgt 0 ?_
            refine mm_fgt 1 ?_
            refine mm_fgt 2 ?_
            exact J81 (h41c.2.1 91 p2) ⟨by omega, by omega⟩ h41c i41c f41c (by first | exact Or.inl ⟨by omega, by show _ = h.2.1 80 (h.2.1 85 p1); omega⟩ | exact Or.inr (Or.inl ⟨by omega, mm_lY_fr y69_0 (mm_lnd_fr f41c (by decide)) (fun j => f41c.2 78 (by decide) j) (fun j => f41c.2 80 (by decide) j) (fun j => f41c.2 82 (by decide) j) (fun j => f41c.2 84 (by decide) j) (fun j => f41c.2 85 (by decide) j) (fun j => f41c.2 87 (by decide) j) (f41c.1 66 9 (by decide)) (f41c.1 66 10 (by decide)) (f41c.1 66 11 (by decide)) (f41c.1 66 12 (by decide)) z80⟩) | exact Or.inr (Or.inr ⟨by omega, by show p2 < h.2.1 80 (h.2.1 85 p1); omega, (g41c.2 91 (by decide) p2).trans ((y12_0 p2 (by omega) (by omega)).trans (congrFun zr p2))⟩)) (by omega)
          · skip
            refine mm_aload_n C (mm_dec dk_X12_row 37 rfl) rfl ?_
            refine mm_iload_n C (mm_dec dk_X12_row 38 rfl) rfl ?_
            refine mm_cVi (rest := []) C1 ev_X12_311 (mm_dec dk_X12_row 39 rfl) (c_X12_lengthOf_q x.2.1 hl (d - 1) (by omega) h41c i41c p1 ⟨by omega, by omega⟩) rfl rfl (Nat.le_of_ble_eq_true rfl) ⟨by decide, by decide⟩ rfl (fun r69 h69c hp69 => ?_) (fun _ _ q => q.elim)
            obtain ⟨b69, i69c, g69c, y69_0⟩ := hp69
            have f69c : mm_fr [(66, 0), (66, 18), (66, 39)] [72, 73, 75, 76, 91] h h69c := mm_fr_tr f41c g69c (by decide +kernel)
            have q69c_22 : h69c.1 66 0 = h41c.1 66 0 := g69c.1 66 0 (by decide)
            have q69c_23 : h69c.1 66 23 = h41c.1 66 23 := g69c.1 66 23 (by decide)
            have g24 : 0 ≤ (h69c.1 66 39) ∧ (h69c.1 66 39) ≤ 12 := i69c.1 66 39
            refine mm_goto (tgt := 81) C (mm_dec dk_X12_row 40 rfl) (by decide) ?_
            refine mm_fgt 0 ?_
            refine mm_fgt 1 ?_
            refine mm_fgt 2 ?_
            exact J81 r69 ⟨by omega, by omega⟩ h69c i69c f69c (by first | exact Or.inl ⟨by omega, by show _ = h.2.1 80 (h.2.1 85 p1); omega⟩ | exact Or.inr (Or.inl ⟨by omega, mm_lY_fr y69_0 (mm_lnd_fr f41c (by decide)) (fun j => f41c.2 78 (by decide) j) (fun j => f41c.2 80 (by decide) j) (fun j => f41c.2 82 (by decide) j) (fun j => f41c.2 84 (by decide) j) (fun j => f41c.2 85 (by decide) j) (fun j => f41c.2 87 (by decide) j) (f41c.1 66 9 (by decide)) (f41c.1 66 10 (by decide)) (f41c.1 66 11 (by decide)) (f41c.1 66 12 (by decide)) z80⟩) | exact Or.inr (Or.inr ⟨by omega, by show p2 < h.2.1 80 (h.2.1 85 p1); omega, (g41c.2 91 (by decide) p2).trans ((y12_0 p2 (by omega) (by omega)).trans (congrFun zr p2))⟩)) (by omega)
        · skip
          refine mm_aload_n C (mm_dec dk_X12_row 31 rfl) rfl ?_
          refine mm_geti C fl_X12_296 (mm_dec dk_X12_row 32 rfl) rfl rfl (Or.inl rfl) ?_
          refine mm_goto (tgt := 81) C (mm_dec dk_X12_row 33 rfl) (by decide) ?_
          refine mm_fgt 0 ?_
          refine mm_fgt 1 ?_
          refine mm_fgt 2 ?_
          exact J81 (h41c.1 66 39) ⟨by omega, by omega⟩ h41c i41c f41c (by first | exact Or.inl ⟨by omega, by show _ = h.2.1 80 (h.2.1 85 p1); omega⟩ | exact Or.inr (Or.inl ⟨by omega, mm_lY_fr y69_0 (mm_lnd_fr f41c (by decide)) (fun j => f41c.2 78 (by decide) j) (fun j => f41c.2 80 (by decide) j) (fun j => f41c.2 82 (by decide) j) (fun j => f41c.2 84 (by decide) j) (fun j => f41c.2 85 (by decide) j) (fun j => f41c.2 87 (by decide) j) (f41c.1 66 9 (by decide)) (f41c.1 66 10 (by decide)) (f41c.1 66 11 (by decide)) (f41c.1 66 12 (by decide)) z80⟩) | exact Or.inr (Or.inr ⟨by omega, by show p2 < h.2.1 80 (h.2.1 85 p1); omega, (g41c.2 91 (by decide) p2).trans ((y12_0 p2 (by omega) (by omega)).trans (congrFun zr p2))⟩)) (by omega)
      · skip
        refine mm_iconst C (mm_dec dk_X12_row 26 rfl) ⟨by decide, by decide⟩ ?_
        exact mm_iret C T (mm_dec dk_X12_row 27 rfl) (by decide : 0 ≤ 0) (by decide : 0 ≤ 0) ⟨_, rfl, ⟨⟨by omega, by omega⟩, i41c, f41c, by omega, by first | exact fun q => absurd q (by omega) | exact fun _ => w81_0⟩⟩
    have J35 : ∀ (w35_0 : ((-1 ≤ p2 ∧ p2 < h.2.1 80 (h.2.1 85 p1)) ∨ p2 = 100)), mm_W x 0 0 35 [mR 66, mI p1, mI p2] [mR 66] h12c := by
      intro w35_0
      refine mm_iconst C (mm_dec dk_X12_row 20 rfl) ⟨by decide, by decide⟩ ?_
      refine mm_goto (tgt := 40) C (mm_dec dk_X12_row 21 rfl) (by decide) ?_
      exact J40 1 ⟨by omega, by omega⟩ (by omega) (Or.inr (rfl))
    have J29 : ∀ (w29_0 : (p2 < -1 ∨ h.2.1 80 (h.2.1 85 p1) ≤ p2)), mm_W x 0 0 29 [mR 66, mI p1, mI p2] [mR 66] h12c := by
      intro w29_0
      refine mm_iload_n C (mm_dec dk_X12_row 17 rfl) rfl ?_
      refine mm_bipush C (mm_dec dk_X12_row 18 rfl) ⟨by decide, by decide⟩ ?_
      refine mm_icmp_ne (tgt := 39) C (mm_dec dk_X12_row 19 rfl) (by decide) (fun c32 => ?_) (fun c32 => ?_)
      · skip
        refine mm_iconst C (mm_dec dk_X12_row 22 rfl) ⟨by decide, by decide⟩ ?_
        exact J40 0 ⟨by omega, by omega⟩ (by omega) (Or.inl ⟨by omega, rfl⟩)
      · skip
        exact J35 (by omega)
    refine mm_icmp_lt (tgt := 29) C (mm_dec dk_X12_row 12 rfl) (by decide) (fun c18 => ?_) (fun c18 => ?_)
    · skip
      exact J29 (by omega)
    · skip
      refine mm_iload_n C (mm_dec dk_X12_row 13 rfl) rfl ?_
      refine mm_aload_n C (mm_dec dk_X12_row 14 rfl) rfl ?_
      refine mm_geti C fl_X12_296 (mm_dec dk_X12_row 15 rfl) rfl rfl (Or.inl rfl) ?_
      refine mm_icmp_lt (tgt := 35) C (mm_dec dk_X12_row 16 rfl) (by decide) (fun c26 => ?_) (fun c26 => ?_)
      · skip
        exact J35 (by omega)
      · skip
        exact J29 (by omega)
  · skip
    refine mm_iconst C (mm_dec dk_X12_row 4 rfl) ⟨by decide, by decide⟩ ?_
    exact mm_iret C T (mm_dec dk_X12_row 5 rfl) (by decide : 0 ≤ 0) (by decide : 0 ≤ 0) ⟨_, rfl, ⟨⟨by omega, by omega⟩, i2c, f2c, by omega, by first | exact fun q => absurd q (by omega) | exact fun _ => w81_0⟩⟩
