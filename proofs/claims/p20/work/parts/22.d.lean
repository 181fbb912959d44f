/-! ===== what a sign's test tells, kept away from omega ===== -/
def mm_hq9 (P : Prop) : Prop := P
theorem mm_hq9x {P : Prop} (h : mm_hq9 P) : P := h
def mm_hs9 (h : mH) (r v : Int) : Prop := (r ≠ 0 ∧ h.1 66 61 = 3 ∧ mm_cY h = v) ∨ (r = 0 ∧ mm_cY h ≠ v)
theorem mm_sgn9 {h : mH} {r c v : Int} (t : mm_hd9 h) (hc : 40 ≤ c ∧ c ≤ 61) (hv : v = 100 + c) (y : (h.1 66 61 ≠ 3 ∧ r = 0) ∨ (h.1 66 61 = 3 ∧ h.1 66 65 ≠ c ∧ r = 0) ∨ (h.1 66 61 = 3 ∧ h.1 66 65 = c ∧ r = 1)) : mm_hs9 h r v := by
  have z := mm_hd9x t
  unfold mm_hs9
  omega
theorem mm_hs9_y {h : mH} {r v : Int} (H : mm_hs9 h r v) (q : r ≠ 0) : h.1 66 61 = 3 ∧ mm_cY h = v := by
  rcases H with ⟨_, a, b⟩ | ⟨a, _⟩
  · exact ⟨a, b⟩
  · exact absurd a q
theorem mm_hs9_n {h : mH} {r v : Int} (H : mm_hs9 h r v) (q : r = 0) : mm_cY h ≠ v := by
  rcases H with ⟨a, _⟩ | ⟨_, a⟩
  · exact absurd q a
  · exact a

theorem mm_hq9i {P : Prop} (h : P) : mm_hq9 P := h
/-! ===== the latest event, who is gathered, the shuffle, the draw's steps ===== -/
def mm_lat (P : Int → Prop) (n r : Int) : Prop := (r = -1 ∧ ∀ e, 0 ≤ e → e < n → ¬ P e) ∨ (0 ≤ r ∧ r < n ∧ P r ∧ ∀ e, r < e → e < n → ¬ P e)
theorem mm_lat_un {P Q : Int → Prop} {n m r s : Int} (A : mm_lat P n r) (B : mm_lat Q m s) (hm : m = n) (e : ∀ j, 0 ≤ j → j < n → (P j ↔ Q j)) : r = s := by
  subst hm
  rcases A with ⟨a, b⟩ | ⟨a, b, c, d⟩ <;> rcases B with ⟨a', b'⟩ | ⟨a', b', c', d'⟩
  · omega
  · exact absurd ((e s a' b').mpr c') (b s a' b')
  · exact absurd ((e r a b).mp c) (b' r a b)
  · by_cases q : r < s
    · exact absurd ((e s a' b').mpr c') (d s q b')
    · by_cases w : s < r
      · exact absurd ((e r a b).mp c) (d' r w b)
      · omega
theorem mm_lat_0 {P : Int → Prop} : mm_lat P 0 (-1) := Or.inl ⟨rfl, fun e a b => absurd b (by omega)⟩
theorem mm_lat_1 {P : Int → Prop} {n : Int} (hn : 0 ≤ n) (p : P n) : mm_lat P (n + 1) n := Or.inr ⟨hn, by omega, p, fun e a b => by omega⟩
theorem mm_lat_2 {P : Int → Prop} {n r : Int} (A : mm_lat P n r) (p : ¬ P n) : mm_lat P (n + 1) r := by
  rcases A with ⟨a, b⟩ | ⟨a, b, c, d⟩
  · refine Or.inl ⟨a, fun e x y => ?_⟩
    by_cases q : e = n
    · rw [q]; exact p
    · exact b e x (by omega)
  · refine Or.inr ⟨a, by omega, c, fun e x y => ?_⟩
    by_cases q : e = n
    · rw [q]; exact p
    · exact d e x (by omega)
theorem mm_lat_dn {P : Int → Prop} {n i : Int} (a : ∀ e, i < e → e < n → ¬ P e) (p : ¬ P i) : ∀ e, i - 1 < e → e < n → ¬ P e := fun e x y => by
  by_cases q : e = i
  · rw [q]; exact p
  · exact a e (by omega) y
theorem mm_lat_no {P : Int → Prop} {n r : Int} (A : mm_lat P n r) : (r = -1 ∧ ∀ e, 0 ≤ e → e < n → ¬ P e) ∨ (r ≠ -1 ∧ ¬ ∀ e, 0 ≤ e → e < n → ¬ P e) := by
  rcases A with ⟨a, b⟩ | ⟨a, b, c, d⟩
  · exact Or.inl ⟨a, b⟩
  · exact Or.inr ⟨by omega, fun z => z r a b c⟩
def mm_kn (A B C D : Int → Int) (kd r k e : Int) : Prop := A e = kd ∧ B e = r ∧ C e ≤ k ∧ (D e = -1 ∨ k < D e)
theorem mm_kn_cg {A B C D A' B' C' D' : Int → Int} {kd r k k' e : Int} (hk : k' = k) (a : A' e = A e) (b : B' e = B e) (c : C' e = C e) (d : D' e = D e) : mm_kn A B C D kd r k e ↔ mm_kn A' B' C' D' kd r k' e := by
  unfold mm_kn
  rw [hk, a, b, c, d]
/-! who is gathered -/
def mm_gh (Q : Int → Prop) (R : Int → Int) : Nat → Int → Prop
  | 0, m => m = 0
  | i + 1, m => (Q (i : Int) ∧ 1 ≤ m ∧ R (m - 1) = (i : Int) ∧ mm_gh Q R i (m - 1)) ∨ (¬ Q (i : Int) ∧ mm_gh Q R i m)
theorem mm_gh_rg {Q : Int → Prop} {R : Int → Int} : ∀ (i : Nat) (m : Int), mm_gh Q R i m → 0 ≤ m ∧ m ≤ i ∧ ∀ k, 0 ≤ k → k < m → 0 ≤ R k ∧ R k < i
  | 0, m, h => by
    have h' : m = 0 := h
    exact ⟨by omega, by omega, fun k a b => by omega⟩
  | i + 1, m, h => by
    rcases h with ⟨_, b, c, d⟩ | ⟨_, d⟩
    · have z := mm_gh_rg i (m - 1) d
      refine ⟨by omega, by omega, fun k x y => ?_⟩
      by_cases q : k = m - 1
      · rw [q, c]; omega
      · have := z.2.2 k x (by omega)
        omega
    · have z := mm_gh_rg i m d
      refine ⟨by omega, by omega, fun k x y => ?_⟩
      have := z.2.2 k x y
      omega
theorem mm_gh_cg {Q : Int → Prop} {R R' : Int → Int} : ∀ (i : Nat) (m : Int), mm_gh Q R i m → (∀ k, 0 ≤ k → k < m → R' k = R k) → mm_gh Q R' i m
  | 0, _, h, _ => h
  | i + 1, m, h, e => by
    rcases h with ⟨a, b, c, d⟩ | ⟨a, d⟩
    · exact Or.inl ⟨a, b, (e (m - 1) (by omega) (by omega)).trans c, mm_gh_cg i (m - 1) d (fun k x y => e k x (by omega))⟩
    · exact Or.inr ⟨a, mm_gh_cg i m d e⟩
theorem mm_gh_un {Q Q' : Int → Prop} {R R' : Int → Int} : ∀ (i : Nat) (m m' : Int), mm_gh Q R i m → mm_gh Q' R' i m' → (∀ r, 0 ≤ r → r < (i : Int) → (Q r ↔ Q' r)) → m = m' ∧ ∀ k, 0 ≤ k → k < m → R k = R' k
  | 0, m, m', h, h', _ => by
    have a : m = 0 := h
    have b : m' = 0 := h'
    exact ⟨by omega, fun k x y => by omega⟩
  | i + 1, m, m', h, h', e => by
    have ei := e (i : Int) (by omega) (by omega)
    rcases h with ⟨a, b, c, d⟩ | ⟨a, d⟩ <;> rcases h' with ⟨a', b', c', d'⟩ | ⟨a', d'⟩
    · have z := mm_gh_un i (m - 1) (m' - 1) d d' (fun r x y => e r x (by omega))
      have hm : m = m' := by omega
      subst hm
      refine ⟨rfl, fun k x y => ?_⟩
      by_cases q : k = m - 1
      · rw [q, c, c']
      · exact z.2 k x (by omega)
    · exact absurd (ei.mp a) a'
    · exact absurd (ei.mpr a') a
    · exact mm_gh_un i m m' d d' (fun r x y => e r x (by omega))
theorem mm_gh_inj {Q : Int → Prop} {R : Int → Int} : ∀ (i : Nat) (m : Int), mm_gh Q R i m → ∀ a b, 0 ≤ a → a < m → 0 ≤ b → b < m → R a = R b → a = b
  | 0, m, h, a, b, a0, a1, _, _, _ => by
    have h' : m = 0 := h
    omega
  | i + 1, m, h, a, b, a0, a1, b0, b1, e => by
    rcases h with ⟨_, _, c, d⟩ | ⟨_, d⟩
    · have z := (mm_gh_rg i (m - 1) d).2.2
      by_cases q : a = m - 1
      · by_cases w : b = m - 1
        · omega
        · have := z b b0 (by omega)
          rw [q, c] at e
          omega
      · by_cases w : b = m - 1
        · have := z a a0 (by omega)
          rw [w, c] at e
          omega
        · exact mm_gh_inj i (m - 1) d a b a0 (by omega) b0 (by omega) e
    · exact mm_gh_inj i m d a b a0 a1 b0 b1 e
theorem mm_gh_y {Q : Int → Prop} {R R' : Int → Int} {i m : Int} (G : mm_gh Q R i.toNat m) (hi : 0 ≤ i) (q : Q i) (e : ∀ k, R' k = if k = m then i else R k) : mm_gh Q R' (i + 1).toNat (m + 1) := by
  have g := mm_gh_rg _ _ G
  rw [show (i + 1).toNat = i.toNat + 1 by omega]
  refine Or.inl ⟨by rw [Int.toNat_of_nonneg hi]; exact q, by omega, ?_, ?_⟩
  · rw [show m + 1 - 1 = m by omega, e, if_pos rfl, Int.toNat_of_nonneg hi]
  · rw [show m + 1 - 1 = m by omega]
    exact mm_gh_cg _ _ G (fun k x y => by rw [e, if_neg (by omega)])
theorem mm_gh_n {Q : Int → Prop} {R R' : Int → Int} {i m : Int} (G : mm_gh Q R i.toNat m) (hi : 0 ≤ i) (q : ¬ Q i) (e : ∀ k, R' k = R k) : mm_gh Q R' (i + 1).toNat m := by
  rw [show (i + 1).toNat = i.toNat + 1 by omega]
  exact Or.inr ⟨by rw [Int.toNat_of_nonneg hi]; exact q, mm_gh_cg _ _ G (fun k _ _ => e k)⟩
def mm_lk (cl R : Int → Int) : Nat → Int → Int
  | 0, _ => 0
  | m + 1, c => mm_lk cl R m c + (if c = cl (R (m : Int)) then 1 else 0)
theorem mm_lk_cg {cl cl' R R' : Int → Int} : ∀ (m : Nat) (c : Int), (∀ k : Int, 0 ≤ k → k < m → R' k = R k ∧ cl' (R k) = cl (R k)) → mm_lk cl' R' m c = mm_lk cl R m c
  | 0, _, _ => rfl
  | m + 1, c, e => by
    have z := mm_lk_cg m c (fun k a b => e k a (by omega))
    have y := e (m : Int) (by omega) (by omega)
    unfold mm_lk
    rw [z, y.1, y.2]
theorem mm_lk_rg (cl R : Int → Int) : ∀ (m : Nat) (c : Int), 0 ≤ mm_lk cl R m c ∧ mm_lk cl R m c ≤ m
  | 0, _ => ⟨Int.le_refl _, Int.le_refl _⟩
  | m + 1, c => by
    have z := mm_lk_rg cl R m c
    unfold mm_lk
    split <;> omega
theorem mm_lk_y {cl R R' : Int → Int} {m r c : Int} (hm : 0 ≤ m) (e : ∀ k, R' k = if k = m then r else R k) : mm_lk cl R' (m + 1).toNat c = if c = cl r then mm_lk cl R m.toNat c + 1 else mm_lk cl R m.toNat c := by
  rw [show (m + 1).toNat = m.toNat + 1 by omega]
  show mm_lk cl R' m.toNat c + _ = _
  rw [mm_lk_cg (R := R) (cl := cl) m.toNat c (fun k a b => ⟨by rw [e, if_neg (by omega)], rfl⟩), Int.toNat_of_nonneg hm, e, if_pos rfl]
  split <;> omega
/-! the steps -/
def mm_rf (L : Int → Int) (c m : Int) : Prop := ∀ d, 0 ≤ d → d < 10 → (d = c → L d - 1 ≤ m / 2) ∧ (d ≠ c → L d ≤ (m + 1) / 2)
theorem mm_rf_cg {L L' : Int → Int} {c m : Int} (e : ∀ d, 0 ≤ d → d < 10 → L' d = L d) (F : mm_rf L c m) : mm_rf L' c m := fun d a b => by rw [e d a b]; exact F d a b
def mm_dL (cl D L0 : Int → Int) (q : Nat → Int) : Nat → Int → Int
  | 0, c => L0 c
  | j + 1, c => mm_dL cl D L0 q j c - (if c = cl (D (q j)) then 1 else 0)
def mm_la9 (cl D : Int → Int) (q : Nat → Int) : Nat → Int
  | 0 => -1
  | j + 1 => cl (D (q j))
def mm_ok9 (cl D L0 : Int → Int) (n : Int) (q : Nat → Int) (j : Nat) (k : Int) : Prop := (∀ l, l < j → q l ≠ k) ∧ cl (D k) ≠ mm_la9 cl D q j ∧ mm_rf (mm_dL cl D L0 q j) (cl (D k)) (n - j - 1)
def mm_fs9 (P : Int → Prop) (n r : Int) : Prop := 0 ≤ r ∧ r < n ∧ P r ∧ ∀ k, 0 ≤ k → k < r → ¬ P k
def mm_tc9 (cl D L0 : Int → Int) (n : Int) (q : Nat → Int) (i : Nat) : Prop := ∀ j, j < i → mm_fs9 (mm_ok9 cl D L0 n q j) n (q j)
theorem mm_fs9_un {P Q : Int → Prop} {n r s : Int} (A : mm_fs9 P n r) (B : mm_fs9 Q n s) (e : ∀ k, 0 ≤ k → k < n → (P k ↔ Q k)) : r = s := by
  obtain ⟨a, b, c, d⟩ := A
  obtain ⟨a', b', c', d'⟩ := B
  by_cases q : r < s
  · exact absurd ((e r a b).mp c) (d' r a q)
  · by_cases w : s < r
    · exact absurd ((e s a' b').mpr c') (d s a' w)
    · omega
theorem mm_dL_cg {cl cl' D D' L0 L0' : Int → Int} {n : Int} {q q' : Nat → Int} (hc : ∀ k, 0 ≤ k → k < n → cl' (D' k) = cl (D k)) (hL : ∀ c, 0 ≤ c → c < 10 → L0' c = L0 c) : ∀ (j : Nat), (∀ l, l < j → q' l = q l ∧ 0 ≤ q l ∧ q l < n) → ∀ c, 0 ≤ c → c < 10 → mm_dL cl' D' L0' q' j c = mm_dL cl D L0 q j c
  | 0, _, c, a, b => hL c a b
  | j + 1, h, c, a, b => by
    have z := mm_dL_cg hc hL j (fun l y => h l (by omega)) c a b
    have y := h j (by omega)
    unfold mm_dL
    rw [z, y.1, hc (q j) y.2.1 y.2.2]
theorem mm_la9_cg {cl cl' D D' : Int → Int} {n : Int} {q q' : Nat → Int} (hc : ∀ k, 0 ≤ k → k < n → cl' (D' k) = cl (D k)) : ∀ (j : Nat), (∀ l, l < j → q' l = q l ∧ 0 ≤ q l ∧ q l < n) → mm_la9 cl' D' q' j = mm_la9 cl D q j
  | 0, _ => rfl
  | j + 1, h => by
    have y := h j (by omega)
    show cl' (D' (q' j)) = cl (D (q j))
    rw [y.1, hc (q j) y.2.1 y.2.2]
theorem mm_ok9_cg {cl cl' D D' L0 L0' : Int → Int} {n : Int} {q q' : Nat → Int} (hc : ∀ k, 0 ≤ k → k < n → cl' (D' k) = cl (D k)) (hL : ∀ c, 0 ≤ c → c < 10 → L0' c = L0 c) {j : Nat} (h : ∀ l, l < j → q' l = q l ∧ 0 ≤ q l ∧ q l < n) {k : Int} (k0 : 0 ≤ k) (k1 : k < n) : mm_ok9 cl' D' L0' n q' j k ↔ mm_ok9 cl D L0 n q j k := by
  have z := mm_dL_cg hc hL j h
  unfold mm_ok9
  rw [mm_la9_cg hc j h, hc k k0 k1]
  constructor
  · intro ⟨a, b, c⟩
    exact ⟨fun l y => by rw [← (h l y).1]; exact a l y, b, mm_rf_cg (fun d x y => (z d x y).symm) c⟩
  · intro ⟨a, b, c⟩
    exact ⟨fun l y => by rw [(h l y).1]; exact a l y, b, mm_rf_cg (fun d x y => z d x y) c⟩
theorem mm_tc9_cg {cl D L0 : Int → Int} {n : Int} {q q' : Nat → Int} {i : Nat} (T : mm_tc9 cl D L0 n q i) (e : ∀ l, l < i → q' l = q l) : mm_tc9 cl D L0 n q' i := fun j hj => by
  have t := T j hj
  have hl : ∀ l, l < j → q' l = q l ∧ 0 ≤ q l ∧ q l < n := fun l y => ⟨e l (by omega), (T l (by omega)).1, (T l (by omega)).2.1⟩
  rw [e j hj]
  exact ⟨t.1, t.2.1, (mm_ok9_cg (fun _ _ _ => rfl) (fun _ _ _ => rfl) hl t.1 t.2.1).mpr t.2.2.1, fun k a b c => t.2.2.2 k a b ((mm_ok9_cg (fun _ _ _ => rfl) (fun _ _ _ => rfl) hl a (by have := t.2.1; omega)).mp c)⟩
theorem mm_tc9_un {cl cl' D D' L0 L0' : Int → Int} {n : Int} {q q' : Nat → Int} (hc : ∀ k, 0 ≤ k → k < n → cl' (D' k) = cl (D k)) (hL : ∀ c, 0 ≤ c → c < 10 → L0' c = L0 c) : ∀ (i : Nat), mm_tc9 cl D L0 n q i → mm_tc9 cl' D' L0' n q' i → ∀ l, l < i → q' l = q l ∧ 0 ≤ q l ∧ q l < n
  | 0, _, _, l, z => absurd z (Nat.not_lt_zero l)
  | i + 1, T, T', l, z => by
    have ih := mm_tc9_un hc hL i (fun j hj => T j (by omega)) (fun j hj => T' j (by omega))
    by_cases w : l = i
    · subst w
      have t := T l z
      have t' := T' l z
      exact ⟨(mm_fs9_un t t' (fun k a b => (mm_ok9_cg hc hL ih a b).symm)).symm, t.1, t.2.1⟩
    · exact ih l (by omega)
/-- one stuck, the other not -/
theorem mm_tc9_st {cl cl' D D' L0 L0' : Int → Int} {n : Int} {q q' : Nat → Int} (hc : ∀ k, 0 ≤ k → k < n → cl' (D' k) = cl (D k)) (hL : ∀ c, 0 ≤ c → c < 10 → L0' c = L0 c) {i i' : Nat} (T : mm_tc9 cl D L0 n q i) (S : ∀ k, 0 ≤ k → k < n → ¬ mm_ok9 cl D L0 n q i k) (T' : mm_tc9 cl' D' L0' n q' i') (hi : i < i') : False := by
  have e := mm_tc9_un hc hL i T (fun j hj => T' j (by omega))
  have t := T' i hi
  exact S (q' i) t.1 t.2.1 ((mm_ok9_cg hc hL e t.1 t.2.1).mp t.2.2.1)
theorem mm_tc9_s {cl D L0 : Int → Int} {n : Int} {q : Nat → Int} {i : Nat} {k : Int} (T : mm_tc9 cl D L0 n q i) (F : mm_fs9 (mm_ok9 cl D L0 n q i) n k) : mm_tc9 cl D L0 n (fun l => if l = i then k else q l) (i + 1) := fun j hj => by
  have e : ∀ l, l < i → (fun l => if l = i then k else q l) l = q l := fun l h => if_neg (by omega)
  by_cases w : j = i
  · subst w
    have hl : ∀ l, l < j → (fun l => if l = j then k else q l) l = q l ∧ 0 ≤ q l ∧ q l < n := fun l y => ⟨e l y, (T l y).1, (T l y).2.1⟩
    show mm_fs9 _ n (if j = j then k else q j)
    rw [if_pos rfl]
    exact ⟨F.1, F.2.1, (mm_ok9_cg (fun _ _ _ => rfl) (fun _ _ _ => rfl) hl F.1 F.2.1).mpr F.2.2.1, fun k' a b c => F.2.2.2 k' a b ((mm_ok9_cg (fun _ _ _ => rfl) (fun _ _ _ => rfl) hl a (by have := F.2.1; omega)).mp c)⟩
  · exact mm_tc9_cg T e j (by omega)
theorem mm_tc9_cf {cl D L0 : Int → Int} {n : Int} {q : Nat → Int} (hn : 0 ≤ n) (T : mm_tc9 cl D L0 n q n.toNat) (hz : n = 0 → ∀ c, 0 ≤ c → c < 10 → L0 c ≤ 0) : ∀ c, 0 ≤ c → c < 10 → L0 c ≤ (if c = -1 then n / 2 else (n + 1) / 2) := fun c a b => by
  rw [if_neg (by omega)]
  by_cases w : n = 0
  · have := hz w c a b
    omega
  · have t := (T 0 (by omega)).2.2.1.2.2 c a b
    have e : mm_dL cl D L0 q 0 c = L0 c := rfl
    rw [e] at t
    by_cases y : c = cl (D (q 0))
    · have := t.1 y
      omega
    · have := t.2 y
      omega

/-! ===== the shuffle and the draw, over the heap ===== -/
def mm_t9 (i j k : Int) : Int := if k = j then i else if k = i then j else k
def mm_sw9 (R : Int → Int) (i j : Int) : Int → Int := fun k => R (mm_t9 i j k)
theorem mm_t9_rg {n i j k : Int} (hi : 0 ≤ i ∧ i < n) (hj : 0 ≤ j ∧ j < n) (hk : 0 ≤ k ∧ k < n) : 0 ≤ mm_t9 i j k ∧ mm_t9 i j k < n := by
  unfold mm_t9
  split
  · exact hi
  · split
    · exact hj
    · exact hk
theorem mm_t9_inj {i j a b : Int} (e : mm_t9 i j a = mm_t9 i j b) : a = b := by
  unfold mm_t9 at e
  split at e <;> split at e <;> (try split at e) <;> (try split at e) <;> omega
def mm_sd9 (s : Int) : Int := mm_vladd (mm_vlmul s 6364136223846793005) 1442695040888963407
def mm_jd9 (s b : Int) : Int := mm_vl2i (mm_vlrem (mm_vlushr s 33) b)
def mm_sh9 : Nat → Int → (Int → Int) → (Int → Int)
  | 0, _, R => R
  | i + 1, s, R => mm_sh9 i (mm_sd9 s) (mm_sw9 R ((i : Int) + 1) (mm_jd9 (mm_sd9 s) ((i : Int) + 1 + 1)))
theorem mm_sh9_e (i : Nat) (s : Int) (R : Int → Int) : mm_sh9 (i + 1) s R = mm_sh9 i (mm_sd9 s) (mm_sw9 R ((i : Int) + 1) (mm_jd9 (mm_sd9 s) ((i : Int) + 1 + 1))) := rfl
theorem mm_jd9_rg (s : Int) (i : Nat) {n : Int} (hn : (i : Int) + 1 < n) (hm : n ≤ 1000) : 0 ≤ mm_jd9 s ((i : Int) + 1 + 1) ∧ mm_jd9 s ((i : Int) + 1 + 1) < n := by
  have z := mm_lot (u := s) (b := (i : Int) + 1 + 1) ⟨by omega, by omega⟩
  exact ⟨z.1, by have y : mm_jd9 s ((i : Int) + 1 + 1) < (i : Int) + 1 + 1 := z.2; omega⟩
theorem mm_sh9_cg {n : Int} (hm : n ≤ 1000) : ∀ (i : Nat) (s : Int) (R R' : Int → Int), ((i : Int) < n ∨ i = 0) → (∀ k, 0 ≤ k → k < n → R' k = R k) → ∀ k, 0 ≤ k → k < n → mm_sh9 i s R' k = mm_sh9 i s R k
  | 0, _, _, _, _, e, k, a, b => e k a b
  | i + 1, s, R, R', hi, e, k, a, b => by
    refine mm_sh9_cg hm i _ _ _ (Or.inl (by omega)) (fun k x y => ?_) k a b
    have z := mm_t9_rg (i := (i : Int) + 1) ⟨by omega, by omega⟩ (mm_jd9_rg (mm_sd9 s) i (by omega) hm) ⟨x, y⟩
    exact e _ z.1 z.2
theorem mm_sh9_im {n : Int} (hm : n ≤ 1000) : ∀ (i : Nat) (s : Int) (R : Int → Int), ((i : Int) < n ∨ i = 0) → ∃ t : Int → Int, (∀ k, mm_sh9 i s R k = R (t k)) ∧ (∀ k, 0 ≤ k → k < n → 0 ≤ t k ∧ t k < n) ∧ ∀ a b, t a = t b → a = b
  | 0, _, _, _ => ⟨fun k => k, fun _ => rfl, fun k a b => ⟨a, b⟩, fun _ _ e => e⟩
  | i + 1, s, R, hi => by
    obtain ⟨t, t1, t2, t3⟩ := mm_sh9_im hm i (mm_sd9 s) (mm_sw9 R ((i : Int) + 1) (mm_jd9 (mm_sd9 s) ((i : Int) + 1 + 1))) (Or.inl (by omega))
    refine ⟨fun k => mm_t9 ((i : Int) + 1) (mm_jd9 (mm_sd9 s) ((i : Int) + 1 + 1)) (t k), fun k => t1 k, fun k a b => ?_, fun a b e => t3 a b (mm_t9_inj e)⟩
    have z := t2 k a b
    exact mm_t9_rg (i := (i : Int) + 1) ⟨by omega, by omega⟩ (mm_jd9_rg (mm_sd9 s) i (by omega) hm) z
theorem mm_sh9_s {h h1 h2 : mH} {o : Nat} {i i' j s y1 y2 : Int} (e1 : y1 = mm_vlmul s 6364136223846793005) (e2 : y2 = mm_vladd y1 1442695040888963407) (e3 : j = mm_vl2i (mm_vlrem (mm_vlushr y2 33) (i + 1))) (hi : 1 ≤ i) (hi' : i' = i - 1) (a1 : h1 = mm_pa h o i (h.2.1 o j)) (a2 : h2 = mm_pa h1 o j (h.2.1 o i)) : mm_sh9 i'.toNat y2 (h2.2.1 o) = mm_sh9 i.toNat s (h.2.1 o) := by
  have es : y2 = mm_sd9 s := by rw [e2, e1]; rfl
  have ej : j = mm_jd9 (mm_sd9 s) (i + 1) := by rw [e3, es]; rfl
  have en : i.toNat = i'.toNat + 1 := by omega
  have ei : ((i'.toNat : Nat) : Int) + 1 = i := by omega
  have er : h2.2.1 o = mm_sw9 (h.2.1 o) i j := by
    funext k
    show _ = h.2.1 o (mm_t9 i j k)
    rw [a2]
    unfold mm_t9
    by_cases q : k = j
    · rw [if_pos q, q, mm_pa_same]
    · rw [if_neg q, mm_pa_j o q, a1]
      by_cases w : k = i
      · rw [if_pos w, w, mm_pa_same]
      · rw [if_neg w, mm_pa_j o w]
  rw [en, es, er, mm_sh9_e, ei, ej]
/-! what is known, on both sides -/
def mm_k1 (h : mH) : Int → Int → Int → Int → Prop := mm_kn (h.2.1 31) (h.2.1 32) (h.2.1 35) (h.2.1 36)
def mm_k2 (h : mH) : Int → Int → Int → Int → Prop := mm_kn (h.2.1 92) (h.2.1 93) (h.2.1 96) (h.2.1 97)
theorem mm_k1_eq {h h' : mH} (a : ∀ j, h'.2.1 31 j = h.2.1 31 j) (b : ∀ j, h'.2.1 32 j = h.2.1 32 j) (c : ∀ j, h'.2.1 35 j = h.2.1 35 j) (d : ∀ j, h'.2.1 36 j = h.2.1 36 j) : mm_k1 h' = mm_k1 h := by
  unfold mm_k1
  rw [funext a, funext b, funext c, funext d]
theorem mm_k2_eq {h h' : mH} (a : ∀ j, h'.2.1 92 j = h.2.1 92 j) (b : ∀ j, h'.2.1 93 j = h.2.1 93 j) (c : ∀ j, h'.2.1 96 j = h.2.1 96 j) (d : ∀ j, h'.2.1 97 j = h.2.1 97 j) : mm_k2 h' = mm_k2 h := by
  unfold mm_k2
  rw [funext a, funext b, funext c, funext d]
theorem mm_k1_fr {wf : List (Nat × Nat)} {wa : List Nat} {h h' : mH} (f : mm_fr wf wa h h') (w : 31 ∉ wa ∧ 32 ∉ wa ∧ 35 ∉ wa ∧ 36 ∉ wa) : mm_k1 h' = mm_k1 h := mm_k1_eq (f.2 31 w.1) (f.2 32 w.2.1) (f.2 35 w.2.2.1) (f.2 36 w.2.2.2)
theorem mm_k2_fr {wf : List (Nat × Nat)} {wa : List Nat} {h h' : mH} (f : mm_fr wf wa h h') (w : 92 ∉ wa ∧ 93 ∉ wa ∧ 96 ∉ wa ∧ 97 ∉ wa) : mm_k2 h' = mm_k2 h := mm_k2_eq (f.2 92 w.1) (f.2 93 w.2.1) (f.2 96 w.2.2.1) (f.2 97 w.2.2.2)
def mm_ev (h : mH) : Prop := mm_eq h 31 92 (h.1 30 6 - 1) ∧ mm_eq h 32 93 (h.1 30 6 - 1) ∧ mm_eq h 35 96 (h.1 30 6 - 1) ∧ mm_eq h 36 97 (h.1 30 6 - 1)
theorem mm_kk {h h1 : mH} {kd r k k' e : Int} (a : mm_eq h 31 92 (h.1 30 6 - 1)) (b : mm_eq h 32 93 (h.1 30 6 - 1)) (c : mm_eq h 35 96 (h.1 30 6 - 1)) (d : mm_eq h 36 97 (h.1 30 6 - 1)) (e1 : mm_k2 h1 = mm_k2 h) (hk : k' = k) (e0 : 0 ≤ e) (e9 : e < h.1 30 6) : mm_k1 h kd r k e ↔ mm_k2 h1 kd r k' e := by
  rw [e1]
  exact mm_kn_cg hk (a e e0 (by omega)).symm (b e e0 (by omega)).symm (c e e0 (by omega)).symm (d e e0 (by omega)).symm
def mm_Q1 (h : mH) (c k r : Int) : Prop := h.2.1 23 r = c ∧ h.2.1 27 r = -1 ∧ ∀ e, 0 ≤ e → e < h.1 30 6 → ¬ mm_k1 h 0 r k e
def mm_Q2 (h : mH) (c k r : Int) : Prop := h.2.1 85 r = c ∧ (h.2.1 88 r = -1 ∨ h.2.1 89 r ≤ 0) ∧ ∀ e, 0 ≤ e → e < h.1 66 40 → ¬ mm_k2 h 0 r k e
/-! the class's arranging -/
def mm_pk (h : mH) (a m k : Int) : Prop := h.2.1 55 k ≠ -1 ∧ h.2.1 24 (h.2.1 55 k) ≠ a ∧ mm_rf (h.2.1 57) (h.2.1 24 (h.2.1 55 k)) m
theorem mm_dL_rg (cl D L0 : Int → Int) (q : Nat → Int) (c : Int) : ∀ j : Nat, L0 c - j ≤ mm_dL cl D L0 q j c ∧ mm_dL cl D L0 q j c ≤ L0 c
  | 0 => ⟨by show _ ≤ L0 c; omega, Int.le_refl _⟩
  | j + 1 => by
    have z := mm_dL_rg cl D L0 q c j
    unfold mm_dL
    split <;> omega
def mm_nn9 (h : mH) : Prop := ∀ k, 0 ≤ k → k < h.1 54 5 → 0 ≤ h.2.1 55 k
def mm_lg9 (h : mH) (b : Int) : Prop := ∀ c, 0 ≤ c → c < 10 → -b ≤ h.2.1 57 c ∧ h.2.1 57 c ≤ b
def mm_ag (hs h : mH) (i a : Int) : Prop := ∃ q : Nat → Int, mm_tc9 (hs.2.1 24) (hs.2.1 55) (hs.2.1 57) (hs.1 54 5) q i.toNat ∧ (∀ k, 0 ≤ k → k < hs.1 54 5 → ((h.2.1 55 k ≠ -1 ↔ ∀ l, l < i.toNat → q l ≠ k) ∧ (h.2.1 55 k ≠ -1 → h.2.1 55 k = hs.2.1 55 k))) ∧ (∀ c, 0 ≤ c → c < 10 → h.2.1 57 c = mm_dL (hs.2.1 24) (hs.2.1 55) (hs.2.1 57) q i.toNat c) ∧ (∀ j, 0 ≤ j → j < i → h.2.1 56 j = hs.2.1 55 (q j.toNat)) ∧ a = mm_la9 (hs.2.1 24) (hs.2.1 55) q i.toNat
theorem mm_ag_0 {hs : mH} (N : mm_nn9 hs) : mm_ag hs hs 0 (-1) := ⟨fun _ => 0, fun j hj => absurd hj (Nat.not_lt_zero j), fun k a b => ⟨⟨fun _ l hl => absurd hl (Nat.not_lt_zero l), fun _ => by have := N k a b; omega⟩, fun _ => rfl⟩, fun _ _ _ => rfl, fun j a b => absurd b (by omega), rfl⟩
theorem mm_ag_lg {hs h : mH} {i a b : Int} (A : mm_ag hs h i a) (L : mm_lg9 hs b) (hi : 0 ≤ i) : mm_lg9 h (b + i) := by
  obtain ⟨q, _, _, l, _, _⟩ := A
  intro c c0 c1
  have z := mm_dL_rg (hs.2.1 24) (hs.2.1 55) (hs.2.1 57) q c i.toNat
  have y := L c c0 c1
  rw [l c c0 c1]
  omega
theorem mm_ag_ok {hs h : mH} {i a : Int} (A : mm_ag hs h i a) (e24 : ∀ j, h.2.1 24 j = hs.2.1 24 j) (hi : 0 ≤ i) : ∃ q : Nat → Int, mm_tc9 (hs.2.1 24) (hs.2.1 55) (hs.2.1 57) (hs.1 54 5) q i.toNat ∧ ∀ k, 0 ≤ k → k < hs.1 54 5 → (mm_pk h a (hs.1 54 5 - i - 1) k ↔ mm_ok9 (hs.2.1 24) (hs.2.1 55) (hs.2.1 57) (hs.1 54 5) q i.toNat k) := by
  obtain ⟨q, t, r, l, _, la⟩ := A
  refine ⟨q, t, fun k k0 k1 => ?_⟩
  have rk := r k k0 k1
  unfold mm_pk mm_ok9
  rw [la, Int.toNat_of_nonneg hi, e24]
  constructor
  · intro ⟨x, y, z⟩
    have e := rk.2 x
    rw [e] at y z
    exact ⟨rk.1.mp x, y, mm_rf_cg (fun d d0 d1 => (l d d0 d1).symm) z⟩
  · intro ⟨x, y, z⟩
    have x' := rk.1.mpr x
    have e := rk.2 x'
    rw [e]
    exact ⟨by rw [← e]; exact x', y, mm_rf_cg (fun d d0 d1 => l d d0 d1) z⟩
theorem mm_ag_st {hs h : mH} {i a : Int} (A : mm_ag hs h i a) (e24 : ∀ j, h.2.1 24 j = hs.2.1 24 j) (hi : 0 ≤ i) (S : ∀ k, 0 ≤ k → k < hs.1 54 5 → ¬ mm_pk h a (hs.1 54 5 - i - 1) k) : ∃ q : Nat → Int, mm_tc9 (hs.2.1 24) (hs.2.1 55) (hs.2.1 57) (hs.1 54 5) q i.toNat ∧ ∀ k, 0 ≤ k → k < hs.1 54 5 → ¬ mm_ok9 (hs.2.1 24) (hs.2.1 55) (hs.2.1 57) (hs.1 54 5) q i.toNat k := by
  obtain ⟨q, t, z⟩ := mm_ag_ok A e24 hi
  exact ⟨q, t, fun k k0 k1 o => S k k0 k1 ((z k k0 k1).mpr o)⟩
theorem mm_ag_s {hs h h1 h2 h3 : mH} {i a k c0 v : Int} (A : mm_ag hs h i a) (e24 : ∀ j, h.2.1 24 j = hs.2.1 24 j) (hi : 0 ≤ i) (F : mm_fs9 (mm_pk h a (hs.1 54 5 - i - 1)) (hs.1 54 5) k) (a1 : h1 = mm_pa h 56 i (h.2.1 55 k)) (a2 : h2 = mm_pa h1 55 k (-1)) (hc : c0 = h.2.1 24 (h.2.1 55 k)) (hc0 : 0 ≤ c0) (hc1 : c0 < 10) (a3 : h3 = mm_pa h2 57 c0 v) (hv : v = h.2.1 57 c0 - 1) : mm_ag hs h3 (i + 1) c0 := by
  obtain ⟨q, t, r, l, w, la⟩ := A
  have F5 : h.2.1 55 k ≠ -1 := F.2.2.1.1
  have e5 := (r k F.1 F.2.1).2 F5
  have hF : mm_fs9 (mm_ok9 (hs.2.1 24) (hs.2.1 55) (hs.2.1 57) (hs.1 54 5) q i.toNat) (hs.1 54 5) k := by
    have z : ∀ k, 0 ≤ k → k < hs.1 54 5 → (mm_pk h a (hs.1 54 5 - i - 1) k ↔ mm_ok9 (hs.2.1 24) (hs.2.1 55) (hs.2.1 57) (hs.1 54 5) q i.toNat k) := by
      intro k k0 k1
      have rk := r k k0 k1
      unfold mm_pk mm_ok9
      rw [la, Int.toNat_of_nonneg hi, e24]
      constructor
      · intro ⟨x, y, z⟩
        have e := rk.2 x
        rw [e] at y z
        exact ⟨rk.1.mp x, y, mm_rf_cg (fun d d0 d1 => (l d d0 d1).symm) z⟩
      · intro ⟨x, y, z⟩
        have x' := rk.1.mpr x
        have e := rk.2 x'
        rw [e]
        exact ⟨by rw [← e]; exact x', y, mm_rf_cg (fun d d0 d1 => l d d0 d1) z⟩
    exact ⟨F.1, F.2.1, (z k F.1 F.2.1).mp F.2.2.1, fun k' x y o => F.2.2.2 k' x y ((z k' x (by have := F.2.1; omega)).mpr o)⟩
  have en : (i + 1).toNat = i.toNat + 1 := by omega
  have r5 : ∀ j, h3.2.1 55 j = if j = k then -1 else h.2.1 55 j := fun j => by
    rw [a3, mm_pa_o 55 57 (by decide), a2]
    by_cases y : j = k
    · rw [if_pos y, y, mm_pa_same]
    · rw [if_neg y, mm_pa_j 55 y, a1, mm_pa_o 55 56 (by decide)]
  have r6 : ∀ j, h3.2.1 56 j = if j = i then h.2.1 55 k else h.2.1 56 j := fun j => by
    rw [a3, mm_pa_o 56 57 (by decide), a2, mm_pa_o 56 55 (by decide), a1]
    by_cases y : j = i
    · rw [if_pos y, y, mm_pa_same]
    · rw [if_neg y, mm_pa_j 56 y]
  have r7 : ∀ j, h3.2.1 57 j = if j = c0 then h.2.1 57 j - 1 else h.2.1 57 j := fun j => by
    rw [a3]
    by_cases y : j = c0
    · rw [if_pos y, y, mm_pa_same, hv]
    · rw [if_neg y, mm_pa_j 57 y, a2, mm_pa_o 57 55 (by decide), a1, mm_pa_o 57 56 (by decide)]
  have hq : ∀ l, l < i.toNat → (fun l => if l = i.toNat then k else q l) l = q l := fun l hl => if_neg (by omega)
  have hqk : (fun l => if l = i.toNat then k else q l) i.toNat = k := if_pos rfl
  have hl : ∀ l, l < i.toNat → (fun l => if l = i.toNat then k else q l) l = q l ∧ 0 ≤ q l ∧ q l < hs.1 54 5 := fun l y => ⟨hq l y, (t l y).1, (t l y).2.1⟩
  have hck : c0 = hs.2.1 24 (hs.2.1 55 k) := by rw [hc, e24, e5]
  refine ⟨fun l => if l = i.toNat then k else q l, by rw [en]; exact mm_tc9_s t hF, fun j j0 j1 => ?_, fun c d0 d1 => ?_, fun j j0 j1 => ?_, ?_⟩
  · rw [en, r5]
    have rj := r j j0 j1
    by_cases y : j = k
    · rw [if_pos y]
      exact ⟨⟨fun z => absurd rfl z, fun z => absurd y.symm (by have := z i.toNat (by omega); rw [hqk] at this; exact this)⟩, fun z => absurd rfl z⟩
    · rw [if_neg y]
      refine ⟨⟨fun z l hl => ?_, fun z => rj.1.mpr (fun l hl => ?_)⟩, rj.2⟩
      · by_cases x : l = i.toNat
        · rw [x, hqk]; exact fun e => y e.symm
        · rw [hq l (by omega)]; exact rj.1.mp z l (by omega)
      · have := z l (by omega)
        rw [hq l hl] at this
        exact this
  · rw [en, r7]
    show _ = mm_dL (hs.2.1 24) (hs.2.1 55) (hs.2.1 57) (fun l => if l = i.toNat then k else q l) i.toNat c - (if c = hs.2.1 24 (hs.2.1 55 (if i.toNat = i.toNat then k else q i.toNat)) then 1 else 0)
    rw [mm_dL_cg (n := hs.1 54 5) (q := q) (fun _ _ _ => rfl) (fun _ _ _ => rfl) i.toNat hl c d0 d1, if_pos rfl, ← hck, l c d0 d1]
    split
    · rfl
    · omega
  · rw [r6]
    by_cases y : j = i
    · rw [if_pos y, y]
      show _ = hs.2.1 55 (if i.toNat = i.toNat then k else q i.toNat)
      rw [if_pos rfl]; exact e5
    · rw [if_neg y]
      have z := hq j.toNat (by omega)
      rw [z]
      exact w j j0 (by omega)
  · rw [en]
    show _ = hs.2.1 24 (hs.2.1 55 (if i.toNat = i.toNat then k else q i.toNat))
    rw [if_pos rfl]; exact hck
def mm_aW (cl D L0 : Int → Int) (n r : Int) (W : Int → Int) : Prop := (r = 0 ∧ ∃ (q : Nat → Int) (i : Nat), (i : Int) < n ∧ mm_tc9 cl D L0 n q i ∧ ∀ k, 0 ≤ k → k < n → ¬ mm_ok9 cl D L0 n q i k) ∨ (r = 1 ∧ ∃ q : Nat → Int, mm_tc9 cl D L0 n q n.toNat ∧ ∀ j, 0 ≤ j → j < n → W j = D (q j.toNat))

/-! ===== the reference's draw ===== -/
theorem mm_nxt_rf {h : mH} {k last m : Int} (c0 : 0 ≤ h.2.1 86 (h.2.1 117 k)) : mm_nxt h k last m ↔ (h.2.1 119 (h.2.1 117 k) = 0 ∧ h.2.1 86 (h.2.1 117 k) ≠ last ∧ mm_rf (h.2.1 118) (h.2.1 86 (h.2.1 117 k)) (m - 1)) := by
  unfold mm_nxt mm_fo1 mm_rf
  constructor
  · intro ⟨a, b, c⟩
    refine ⟨a, b, fun d d0 d1 => ⟨fun e => ?_, fun e => ?_⟩⟩
    · have z := c d d0 d1
      rw [if_pos e, e, mm_pa_same] at z
      rw [e]; exact z
    · have z := c d d0 d1
      rw [if_neg e, mm_pa_j 118 e] at z
      exact z
  · intro ⟨a, b, c⟩
    refine ⟨a, b, fun d d0 d1 => ?_⟩
    by_cases e : d = h.2.1 86 (h.2.1 117 k)
    · rw [if_pos e, e, mm_pa_same]
      have z := (c d d0 d1).1 e
      rw [e] at z; exact z
    · rw [if_neg e, mm_pa_j 118 e]
      exact (c d d0 d1).2 e
def mm_bt9 (hs h : mH) (n i a : Int) : Prop := ∃ q : Nat → Int, mm_tc9 (hs.2.1 86) (hs.2.1 117) (hs.2.1 118) n q i.toNat ∧ (∀ k, 0 ≤ k → k < n → (h.2.1 119 (hs.2.1 117 k) = 0 ↔ ∀ l, l < i.toNat → q l ≠ k)) ∧ (∀ c, 0 ≤ c → c < 10 → h.2.1 118 c = mm_dL (hs.2.1 86) (hs.2.1 117) (hs.2.1 118) q i.toNat c) ∧ a = mm_la9 (hs.2.1 86) (hs.2.1 117) q i.toNat ∧ mm_tp hs h 93 (hs.1 66 40) (hs.1 66 40 + i) (fun j => hs.2.1 117 (q (j - hs.1 66 40).toNat))
theorem mm_bt9_0 {hs : mH} {n : Int} (Z : ∀ k, 0 ≤ k → k < n → hs.2.1 119 (hs.2.1 117 k) = 0) : mm_bt9 hs hs n 0 (-1) := ⟨fun _ => 0, fun j hj => absurd hj (Nat.not_lt_zero j), fun k a b => ⟨fun _ l hl => absurd hl (Nat.not_lt_zero l), fun _ => Z k a b⟩, fun _ _ _ => rfl, rfl, mm_tp_0 (fun _ => rfl) (by omega)⟩
theorem mm_bt9_sm {hs h h' : mH} {n i a : Int} (B : mm_bt9 hs h n i a) (e9 : ∀ j, h'.2.1 119 j = h.2.1 119 j) (e8 : ∀ c, h'.2.1 118 c = h.2.1 118 c) (e3 : ∀ j, h'.2.1 93 j = h.2.1 93 j) : mm_bt9 hs h' n i a := by
  obtain ⟨q, t, r, l, la, w⟩ := B
  exact ⟨q, t, fun k a b => by rw [e9]; exact r k a b, fun c a b => by rw [e8]; exact l c a b, la, mm_tp_tr (fun _ => rfl) w e3⟩
def mm_ij9 (R : Int → Int) (n : Int) : Prop := ∀ a b, 0 ≤ a → a < n → 0 ≤ b → b < n → R a = R b → a = b
theorem mm_bt9_s {hs h h1 h2 h3 : mH} {n i a k c0 v : Int} (B : mm_bt9 hs h n i a) (e117 : ∀ j, h.2.1 117 j = hs.2.1 117 j) (e86 : ∀ j, h.2.1 86 j = hs.2.1 86 j) (J : mm_ij9 (hs.2.1 117) n) (hb : ∀ j, 0 ≤ hs.2.1 86 j ∧ hs.2.1 86 j ≤ 9) (hi : 0 ≤ i) (hk0 : 0 ≤ k) (hk1 : k < n) (N : mm_nxt h k a (n - i)) (F : ∀ j, 0 ≤ j → j < k → ¬ mm_nxt h j a (n - i)) (a1 : h1 = mm_pa h 119 (h.2.1 117 k) 1) (hc : c0 = h.2.1 86 (h.2.1 117 k)) (a2 : h2 = mm_pa h1 118 c0 v) (hv : v = h.2.1 118 c0 - 1) (ev : h.1 66 40 = hs.1 66 40 + i) (u : mm_up h2 h3 93 (h.1 66 40) (h.2.1 117 k) 1) (e9 : ∀ j, h3.2.1 119 j = h2.2.1 119 j) (e8 : ∀ j, h3.2.1 118 j = h2.2.1 118 j) : mm_bt9 hs h3 n (i + 1) c0 := by
  obtain ⟨q, t, r, l, la, w⟩ := B
  have z : ∀ k, 0 ≤ k → k < n → (mm_nxt h k a (n - i) ↔ mm_ok9 (hs.2.1 86) (hs.2.1 117) (hs.2.1 118) n q i.toNat k) := by
    intro k k0 k1
    rw [mm_nxt_rf (by rw [e86]; exact (hb _).1)]
    have rk := r k k0 k1
    unfold mm_ok9
    rw [e117, e86, la, Int.toNat_of_nonneg hi]
    constructor
    · intro ⟨x, y, z⟩
      exact ⟨rk.mp x, y, mm_rf_cg (fun d d0 d1 => (l d d0 d1).symm) z⟩
    · intro ⟨x, y, z⟩
      exact ⟨rk.mpr x, y, mm_rf_cg (fun d d0 d1 => l d d0 d1) z⟩
  have hF : mm_fs9 (mm_ok9 (hs.2.1 86) (hs.2.1 117) (hs.2.1 118) n q i.toNat) n k := ⟨hk0, hk1, (z k hk0 hk1).mp N, fun k' x y o => F k' x y ((z k' x (by omega)).mpr o)⟩
  have en : (i + 1).toNat = i.toNat + 1 := by omega
  have r9 : ∀ j, h3.2.1 119 j = if j = hs.2.1 117 k then 1 else h.2.1 119 j := fun j => by
    rw [e9, a2, mm_pa_o 119 118 (by decide), a1, e117]
    by_cases y : j = hs.2.1 117 k
    · rw [if_pos y, y, mm_pa_same]
    · rw [if_neg y, mm_pa_j 119 y]
  have r8 : ∀ j, h3.2.1 118 j = if j = c0 then h.2.1 118 j - 1 else h.2.1 118 j := fun j => by
    rw [e8, a2]
    by_cases y : j = c0
    · rw [if_pos y, y, mm_pa_same, hv]
    · rw [if_neg y, mm_pa_j 118 y, a1, mm_pa_o 118 119 (by decide)]
  have hq : ∀ l, l < i.toNat → (fun l => if l = i.toNat then k else q l) l = q l := fun l hl => if_neg (by omega)
  have hqk : (fun l => if l = i.toNat then k else q l) i.toNat = k := if_pos rfl
  have hl : ∀ l, l < i.toNat → (fun l => if l = i.toNat then k else q l) l = q l ∧ 0 ≤ q l ∧ q l < n := fun l y => ⟨hq l y, (t l y).1, (t l y).2.1⟩
  have hck : c0 = hs.2.1 86 (hs.2.1 117 k) := by rw [hc, e86, e117]
  refine ⟨fun l => if l = i.toNat then k else q l, by rw [en]; exact mm_tc9_s t hF, fun j j0 j1 => ?_, fun c d0 d1 => ?_, ?_, fun j => ?_⟩
  · rw [en, r9]
    have rj := r j j0 j1
    by_cases y : j = k
    · rw [if_pos (by rw [y])]
      exact ⟨fun z => absurd z (by decide), fun z => absurd y.symm (by have := z i.toNat (by omega); rw [hqk] at this; exact this)⟩
    · rw [if_neg (fun e => y (J j k j0 j1 hk0 hk1 e))]
      refine ⟨fun z l hl => ?_, fun z => rj.mpr (fun l hl => ?_)⟩
      · by_cases x : l = i.toNat
        · rw [x, hqk]; exact fun e => y e.symm
        · rw [hq l (by omega)]; exact rj.mp z l (by omega)
      · have := z l (by omega)
        rw [hq l hl] at this
        exact this
  · rw [en, r8]
    show _ = mm_dL (hs.2.1 86) (hs.2.1 117) (hs.2.1 118) (fun l => if l = i.toNat then k else q l) i.toNat c - (if c = hs.2.1 86 (hs.2.1 117 (if i.toNat = i.toNat then k else q i.toNat)) then 1 else 0)
    rw [mm_dL_cg (n := n) (q := q) (fun _ _ _ => rfl) (fun _ _ _ => rfl) i.toNat hl c d0 d1, if_pos rfl, ← hck, l c d0 d1]
    split
    · rfl
    · omega
  · rw [en]
    show _ = hs.2.1 86 (hs.2.1 117 (if i.toNat = i.toNat then k else q i.toNat))
    rw [if_pos rfl]; exact hck
  · have e0 : h2.2.1 93 j = h.2.1 93 j := by rw [a2, mm_pa_o 93 118 (by decide), a1, mm_pa_o 93 119 (by decide)]
    rw [u j, e0, w j, ev, e117]
    by_cases y : j = hs.1 66 40 + i
    · rw [if_pos ⟨y, rfl⟩, if_pos (by omega)]
      have ez : (j - hs.1 66 40).toNat = i.toNat := by omega
      show _ = hs.2.1 117 (if (j - hs.1 66 40).toNat = i.toNat then k else _)
      rw [if_pos ez]
    · rw [if_neg (fun x => y x.1)]
      by_cases x : hs.1 66 40 ≤ j ∧ j < hs.1 66 40 + i
      · rw [if_pos x, if_pos (by omega)]
        have ez : ¬ (j - hs.1 66 40).toNat = i.toNat := by omega
        show _ = hs.2.1 117 (if (j - hs.1 66 40).toNat = i.toNat then k else _)
        rw [if_neg ez]
      · rw [if_neg x, if_neg (by omega)]
/-! ===== how a draw ends ===== -/
def mm_cf9 (L : Int → Int) (n : Int) : Prop := ∀ c, 0 ≤ c → c < 10 → L c ≤ (if c = -1 then n / 2 else (n + 1) / 2)
def mm_Of (cl D L0 : Int → Int) (n : Int) (W : Int → Int) : Prop := ∃ q : Nat → Int, mm_tc9 cl D L0 n q n.toNat ∧ ∀ j, 0 ≤ j → j < n → W j = D (q j.toNat)
def mm_Os (cl D L0 : Int → Int) (n : Int) : Prop := ∃ (q : Nat → Int) (i : Nat), (i : Int) < n ∧ mm_tc9 cl D L0 n q i ∧ ∀ k, 0 ≤ k → k < n → ¬ mm_ok9 cl D L0 n q i k
def mm_Oc (Q : Int → Prop) (cl : Int → Int) (N : Nat) (nw ev g s f r : Int) (W : Int → Int) : Prop :=
  ((f < nw ∨ 99999 < f) ∧ r = -1) ∨ (nw ≤ f ∧ f ≤ 99999 ∧ ∃ (R : Int → Int) (n : Int), mm_gh Q R N n ∧ (((500 < ev + n ∨ 99999 < f + (n - 1) * g) ∧ r = -1) ∨ (ev + n ≤ 500 ∧ f + (n - 1) * g ≤ 99999 ∧ ((r = -1 ∧ mm_Os cl (mm_sh9 (n - 1).toNat s R) (mm_lk cl R n.toNat) n) ∨ (r = n ∧ mm_Of cl (mm_sh9 (n - 1).toNat s R) (mm_lk cl R n.toNat) n W)))))
def mm_Or (Q : Int → Prop) (cl : Int → Int) (N : Nat) (nw ev g s f r : Int) (W : Int → Int) : Prop :=
  ((f < nw ∨ 99999 < f) ∧ r = -1) ∨ (nw ≤ f ∧ f ≤ 99999 ∧ ∃ (R : Int → Int) (n : Int), mm_gh Q R N n ∧ (((500 < ev + n ∨ 99999 < f + (n - 1) * g ∨ ¬ mm_cf9 (mm_lk cl R n.toNat) n) ∧ r = -1) ∨ (ev + n ≤ 500 ∧ f + (n - 1) * g ≤ 99999 ∧ mm_cf9 (mm_lk cl R n.toNat) n ∧ r = n ∧ mm_Of cl (mm_sh9 (n - 1).toNat s R) (mm_lk cl R n.toNat) n W)))
theorem mm_O_eq {Q Q' : Int → Prop} {cl cl' W W' : Int → Int} {N : Nat} {nw ev g s f r r' : Int} (A : mm_Oc Q cl N nw ev g s f r W) (B : mm_Or Q' cl' N nw ev g s f r' W') (hN : N ≤ 40) (hQ : ∀ x, 0 ≤ x → x < (N : Int) → (Q x ↔ Q' x)) (hcl : ∀ x, 0 ≤ x → x < (N : Int) → cl' x = cl x) : r = r' ∧ ∀ j, 0 ≤ j → j < r → W j = W' j := by
  rcases A with ⟨a1, a2⟩ | ⟨a1, a2, R, n, a3, a4⟩
  · rcases B with ⟨_, b2⟩ | ⟨b1, b2, _⟩
    · exact ⟨a2.trans b2.symm, fun j x y => by omega⟩
    · omega
  rcases B with ⟨b1, _⟩ | ⟨b1, b2, R', n', b3, b4⟩
  · omega
  obtain ⟨en, eR⟩ := mm_gh_un N n n' a3 b3 hQ
  subst en
  have rg := mm_gh_rg N n a3
  have rL : ∀ c, mm_lk cl' R' n.toNat c = mm_lk cl R n.toNat c := fun c => mm_lk_cg n.toNat c (fun k x y => ⟨(eR k x (by omega)).symm, hcl _ (rg.2.2 k x (by omega)).1 (rg.2.2 k x (by omega)).2⟩)
  have eD : ∀ k, 0 ≤ k → k < n → mm_sh9 (n - 1).toNat s R' k = mm_sh9 (n - 1).toNat s R k := mm_sh9_cg (by omega) (n - 1).toNat s R R' (by omega) (fun k x y => (eR k x y).symm)
  obtain ⟨t, t1, t2, t3⟩ := mm_sh9_im (n := n) (by omega) (n - 1).toNat s R (by omega)
  have hc : ∀ k, 0 ≤ k → k < n → cl' (mm_sh9 (n - 1).toNat s R' k) = cl (mm_sh9 (n - 1).toNat s R k) := fun k x y => by
    rw [eD k x y, t1]
    have z := t2 k x y
    exact hcl _ (rg.2.2 _ z.1 z.2).1 (rg.2.2 _ z.1 z.2).2
  have hz : n = 0 → ∀ c, 0 ≤ c → c < 10 → mm_lk cl R n.toNat c ≤ 0 := fun w c _ _ => by rw [w]; exact Int.le_refl _
  rcases a4 with ⟨c1, c2⟩ | ⟨c1, c2, c3⟩
  · rcases b4 with ⟨_, d2⟩ | ⟨d1, d2, _⟩
    · exact ⟨c2.trans d2.symm, fun j x y => by omega⟩
    · omega
  rcases b4 with ⟨d1, d2⟩ | ⟨d1, d2, d3, d4, d5⟩
  · rcases c3 with ⟨e1, _⟩ | ⟨e1, q, e2, e3⟩
    · exact ⟨e1.trans d2.symm, fun j x y => by omega⟩
    · have z := mm_tc9_cf rg.1 e2 hz
      refine absurd (fun c x y => ?_) ((d1.resolve_left (by omega)).resolve_left (by omega))
      rw [rL]; exact z c x y
  · obtain ⟨q', f1, f2⟩ := d5
    rcases c3 with ⟨_, q, i, e2, e3, e4⟩ | ⟨e1, q, e2, e3⟩
    · exact (mm_tc9_st hc (fun c _ _ => rL c) e3 e4 f1 (by omega)).elim
    · refine ⟨e1.trans d4.symm, fun j x y => ?_⟩
      have z := mm_tc9_un hc (fun c _ _ => rL c) n.toNat e2 f1 j.toNat (by omega)
      rw [e3 j x (by omega), f2 j x (by omega), z.1, eD _ z.2.1 z.2.2]

/-! ===== teams, params and events, kept alike ===== -/
def mm_ah (h : mH) : Prop := ∀ j, 0 ≤ j → j ≤ h.1 22 8 - 1 → (h.2.1 27 j = -1 ↔ (h.2.1 88 j = -1 ∨ h.2.1 89 j ≤ 0))
theorem mm_ah_sm {h h2 : mH} (T : mm_ah h) (e : ∀ j, h2.2.1 27 j = h.2.1 27 j) (e' : ∀ j, h2.2.1 88 j = h.2.1 88 j) (e9 : ∀ j, h2.2.1 89 j = h.2.1 89 j) (n : h2.1 22 8 = h.1 22 8) : mm_ah h2 := fun j x y => by
  rw [e, e', e9]; exact T j x (by omega)
theorem mm_ah_nil {h : mH} (n : h.1 22 8 = 0) : mm_ah h := fun c x y => absurd (Int.le_trans x y) (by omega)
theorem mm_ah_runner {h h1 h2 : mH} {f f' n n' v : Int} (T : mm_ah h) (u : mm_up h h1 27 n (-1) f) (e : ∀ j, h2.2.1 27 j = h1.2.1 27 j) (w : mm_up h1 h2 88 n' (-1) f') (e' : ∀ j, h1.2.1 88 j = h.2.1 88 j) (w9 : mm_up h1 h2 89 n' v f') (e9 : ∀ j, h1.2.1 89 j = h.2.1 89 j) (hn : n = h.1 22 8) (hn' : n' = h.1 22 8) (hf : f = 1 ↔ f' = 1) (m : (f = 1 ∧ h2.1 22 8 = h.1 22 8 + 1) ∨ (f ≠ 1 ∧ h2.1 22 8 = h.1 22 8)) : mm_ah h2 := fun j x y => by
  rw [e, u j, w j, w9 j, e', e9, hn, hn']
  by_cases q : j = h.1 22 8 ∧ f = 1
  · rw [if_pos q, if_pos ⟨q.1, hf.mp q.2⟩]; exact ⟨fun _ => Or.inl rfl, fun _ => rfl⟩
  · rw [if_neg q, if_neg (fun z => q ⟨z.1, hf.mpr z.2⟩), if_neg (fun z => q ⟨z.1, hf.mpr z.2⟩)]
    exact T j x (by omega)
def mm_ua (h h2 : mH) (a b c f : Int) : Prop := ∀ j, h2.2.1 27 j = if f = 1 ∧ j = c then b else if f = 1 ∧ j = b then a else h.2.1 27 j
def mm_ub (h h2 : mH) (a b c f : Int) : Prop := ∀ j, h2.2.1 89 j = if f = 1 ∧ j = c then 2 else if f = 1 ∧ j = b then 1 else if f = 1 ∧ j = a then 0 else h.2.1 89 j
theorem mm_ua_no {h h2 : mH} {a b c f : Int} (hf : f ≠ 1) (e : ∀ j, h2.2.1 27 j = h.2.1 27 j) : mm_ua h h2 a b c f := fun j => by
  rw [if_neg (fun w => hf w.1), if_neg (fun w => hf w.1)]; exact e j
theorem mm_ub_no {h h2 : mH} {a b c f : Int} (hf : f ≠ 1) (e : ∀ j, h2.2.1 89 j = h.2.1 89 j) : mm_ub h h2 a b c f := fun j => by
  rw [if_neg (fun w => hf w.1), if_neg (fun w => hf w.1), if_neg (fun w => hf w.1)]; exact e j
theorem mm_ua_tr {h h1 h2 h3 : mH} {a b c f f' : Int} (e1 : ∀ j, h1.2.1 27 j = h.2.1 27 j) (u : mm_ua h1 h2 a b c f) (e3 : ∀ j, h3.2.1 27 j = h2.2.1 27 j) (hf : f = f') : mm_ua h h3 a b c f' := fun j => by
  rw [e3 j, u j, e1 j, hf]
theorem mm_ub_tr {h h1 h2 h3 : mH} {a b c f f' : Int} (e1 : ∀ j, h1.2.1 89 j = h.2.1 89 j) (u : mm_ub h1 h2 a b c f) (e3 : ∀ j, h3.2.1 89 j = h2.2.1 89 j) (hf : f = f') : mm_ub h h3 a b c f' := fun j => by
  rw [e3 j, u j, e1 j, hf]
theorem mm_ua_pa {h h1 h2 h3 h4 : mH} {a b c : Int} (e1 : ∀ j, h1.2.1 27 j = h.2.1 27 j) (a2 : h2 = mm_pa h1 27 b a) (a3 : h3 = mm_pa h2 27 c b) (e4 : ∀ j, h4.2.1 27 j = h3.2.1 27 j) : mm_ua h h4 a b c 1 := fun j => by
  rw [e4 j, a3]
  by_cases q : j = c
  · rw [if_pos ⟨rfl, q⟩, q, mm_pa_same]
  · rw [if_neg (fun w => q w.2), mm_pa_j 27 q, a2]
    by_cases w : j = b
    · rw [if_pos ⟨rfl, w⟩, w, mm_pa_same]
    · rw [if_neg (fun z => w z.2), mm_pa_j 27 w]; exact e1 j
/-- the loop that writes who is which in a team: m of them are done -/
def mm_tn9 (h h2 : mH) (a b c m : Int) : Prop := ∀ j, h2.2.1 89 j = if 2 < m ∧ j = c then 2 else if 1 < m ∧ j = b then 1 else if 0 < m ∧ j = a then 0 else h.2.1 89 j
theorem mm_tn9_0 {h h2 : mH} {a b c : Int} (e : ∀ j, h2.2.1 89 j = h.2.1 89 j) : mm_tn9 h h2 a b c 0 := fun j => by
  rw [if_neg (fun w => absurd w.1 (by decide)), if_neg (fun w => absurd w.1 (by decide)), if_neg (fun w => absurd w.1 (by decide))]; exact e j
theorem mm_tn9_3 {h h2 : mH} {a b c m : Int} (w : mm_tn9 h h2 a b c m) (hm : m = 3) : mm_ub h h2 a b c 1 := fun j => by
  rw [w j, hm]; simp
theorem mm_tn9_s {h h1 h2 h3 : mH} {a b c m v m' : Int} (w : mm_tn9 h h1 a b c m) (e : h2 = mm_pa h1 89 v m') (em : m' = m) (e3 : ∀ j, h3.2.1 89 j = h2.2.1 89 j) (hv : (m = 0 ∧ v = a) ∨ (m = 1 ∧ v = b) ∨ (m = 2 ∧ v = c)) : mm_tn9 h h3 a b c (m + 1) := fun j => by
  rw [e3 j, e, em]
  show (if 89 = 89 ∧ j = v then m else h1.2.1 89 j) = _
  rw [w j]
  rcases hv with ⟨q1, q2⟩ | ⟨q1, q2⟩ | ⟨q1, q2⟩ <;> subst q1 <;> rw [q2] <;> by_cases z1 : j = a <;> by_cases z2 : j = b <;> by_cases z3 : j = c <;> simp_all
theorem mm_ah_team {h h1 h2 : mH} {a b c t f f' : Int} (T : mm_ah h) (u : mm_ua h h1 a b c f) (e : ∀ j, h2.2.1 27 j = h1.2.1 27 j) (w : mm_u3 h1 h2 88 a b c t f') (e8 : ∀ j, h1.2.1 88 j = h.2.1 88 j) (w9 : mm_ub h1 h2 a b c f') (e9 : ∀ j, h1.2.1 89 j = h.2.1 89 j) (hf : f = 1 ↔ f' = 1) (ht : 0 ≤ t) (g : f = 1 → a ≠ b ∧ b ≠ c ∧ a ≠ c ∧ 0 ≤ a ∧ a < h.1 22 8 ∧ 0 ≤ b ∧ h.2.1 88 a = -1) (m : h2.1 22 8 = h.1 22 8) : mm_ah h2 := fun j x y => by
  rw [e, u j, w j, w9 j, e8, e9]
  by_cases q : f = 1
  · obtain ⟨g1, g2, g3, g4, g5, g6, g7⟩ := g q
    have q' := hf.mp q
    by_cases z1 : j = c
    · rw [if_pos ⟨q, z1⟩, if_pos ⟨Or.inr (Or.inr z1), q'⟩, if_pos ⟨q', z1⟩]; omega
    · rw [if_neg (fun z => z1 z.2), if_neg (fun (z : f' = 1 ∧ j = c) => z1 z.2)]
      by_cases z2 : j = b
      · rw [if_pos ⟨q, z2⟩, if_pos ⟨Or.inr (Or.inl z2), q'⟩, if_pos ⟨q', z2⟩]; omega
      · rw [if_neg (fun z => z2 z.2), if_neg (fun (z : f' = 1 ∧ j = b) => z2 z.2)]
        by_cases z3 : j = a
        · rw [if_pos ⟨Or.inl z3, q'⟩, if_pos ⟨q', z3⟩]
          have := (T a g4 (by omega)).mpr (Or.inl g7)
          rw [z3]; omega
        · rw [if_neg (fun z => z.1.elim z3 (fun z => z.elim z2 z1)), if_neg (fun z => z3 z.2)]
          exact T j x (by omega)
  · have q' : f' ≠ 1 := fun z => q (hf.mpr z)
    rw [if_neg (fun z => q z.1), if_neg (fun z => q z.1), if_neg (fun z => q' z.2), if_neg (fun z => q' z.1), if_neg (fun z => q' z.1), if_neg (fun z => q' z.1)]
    exact T j x (by omega)
/-! params -/
def mm_pw9 (h : mH) : Prop := ∀ w, 0 ≤ w → w ≤ 2 → h.2.1 44 w = mm_pr h w ∧ 0 ≤ h.2.1 44 w ∧ h.2.1 44 w ≤ 99999
theorem mm_pw9_sm {h h2 : mH} (P : mm_pw9 h) (e : ∀ j, h2.2.1 44 j = h.2.1 44 j) (e2 : ∀ j, h2.2.1 102 j = h.2.1 102 j) (e7 : h2.1 66 67 = h.1 66 67) (e8 : h2.1 66 68 = h.1 66 68) : mm_pw9 h2 := fun w a b => by
  rw [e, mm_pr_sm e2 e7 e8]; exact P w a b
theorem mm_pw9_nil {h : mH} (d0 : h.2.1 44 0 = 3600) (d1 : h.2.1 44 1 = 60) (d2 : h.2.1 44 2 = 900) (e7 : h.1 66 67 = 0) : mm_pw9 h := fun w a b => by
  have e : mm_pr h w = mm_P0 w := if_pos e7
  rw [e]
  by_cases q0 : w = 0
  · rw [q0, d0]; exact ⟨by decide, by decide, by decide⟩
  · by_cases q1 : w = 1
    · rw [q1, d1]; exact ⟨by decide, by decide, by decide⟩
    · have q2 : w = 2 := by omega
      rw [q2, d2]; exact ⟨by decide, by decide, by decide⟩
def mm_Pb (g : mm_G9) : Prop := ∀ w, 0 ≤ g.2.2.2.2.2.2 w ∧ g.2.2.2.2.2.2 w ≤ 99999
theorem mm_stp_b {c N V : Int → Int} (hV : ∀ p, c p = 18 → 0 ≤ V p ∧ V p ≤ 99999) (g : mm_G9) (h : mm_Pb g) : mm_Pb (mm_stp c N V g) := by
  have hz : ∀ (k q : Int), mm_Pb (mm_flt g k q) := fun k q w => ⟨by show (0 : Int) ≤ 0; decide, by show (0 : Int) ≤ 99999; decide⟩
  have ho : mm_Pb (mm_opn c N g) := by
    unfold mm_opn
    (repeat' split) <;> first | exact h | exact hz _ _
  have ha : ∀ l, mm_Pb (mm_aft c N g l) := fun l => by
    cases l with
    | nil => exact h
    | cons b s =>
      unfold mm_aft
      (repeat' split) <;> first | exact h | exact hz _ _
  unfold mm_stp
  split
  · split
    · split
      · exact hz _ _
      · exact h
    · exact ho
  split
  · exact ho
  split
  · exact ha _
  split
  · split <;> exact h
  split
  · (repeat' split) <;> first | exact h | exact hz _ _
  split
  · (repeat' split) <;> first | exact h | exact hz _ _
  split
  · split
    · rename_i q
      intro w
      show 0 ≤ (if w = g.2.2.2.1 then V g.2.2.1 else g.2.2.2.2.2.2 w) ∧ (if w = g.2.2.2.1 then V g.2.2.1 else g.2.2.2.2.2.2 w) ≤ 99999
      split
      · exact hV _ q
      · exact h w
    · split <;> exact hz _ _
  split
  · split
    · exact h
    · exact hz _ _
  · exact h
theorem mm_itr_b {c N V : Int → Int} (hV : ∀ p, c p = 18 → 0 ≤ V p ∧ V p ≤ 99999) : ∀ (n : Nat) (g : mm_G9), mm_Pb g → mm_Pb (mm_itr (mm_stp c N V) n g)
  | 0, _, h => h
  | n + 1, g, h => mm_itr_b hV n _ (mm_stp_b hV g h)
theorem mm_nv_b {U : Int → Int} {a : Int} : ∀ l : Nat, (∀ j, a ≤ j → j < a + l → 48 ≤ U j ∧ U j ≤ 57) → 0 ≤ mm_nv U a l ∧ mm_nv U a l + 1 ≤ 10 ^ l
  | 0, _ => ⟨Int.le_refl _, by show (0 : Int) + 1 ≤ 10 ^ 0; decide⟩
  | l + 1, h => by
    have z := mm_nv_b l (fun j x y => h j x (by omega))
    have y := h (a + l) (by omega) (by omega)
    unfold mm_nv
    rw [Int.pow_succ]
    omega
theorem mm_tv_b {U : Int → Int} {n p : Int} (h : mm_tc U n p = 18) : 0 ≤ mm_tv U n p ∧ mm_tv U n p ≤ 99999 := by
  have f := mm_tc_f U n p
  have f3 : mm_tkk U n p = 3 ∧ mm_te U n p - p ≤ 5 := by
    rcases f with q | q | q | q | q | q | q <;> omega
  have hlt : p < n := by
    have := mm_te_f U n p
    omega
  have k3 : mm_kd (U p) = 3 := by
    have := f3.1
    unfold mm_tkk at this
    rw [if_pos hlt] at this
    exact this
  have te : mm_te U n p = mm_runw U n 3 (p + 1) := by
    unfold mm_te
    rw [if_pos hlt, if_pos (Or.inr k3), k3]
  have rw9 := mm_runw_rg U n 3 (p + 1)
  have dg : ∀ j, p ≤ j → j < mm_te U n p → 48 ≤ U j ∧ U j ≤ 57 := fun j x y => by
    have kj : mm_kd (U j) = 3 := by
      by_cases q : j = p
      · rw [q]; exact k3
      · exact rw9.2.2 j (by omega) (by rw [← te]; exact y)
    have := mm_kd_f (U j)
    omega
  have b := mm_nv_b (U := U) (a := p) (mm_te U n p - p).toNat (fun j x y => dg j x (by omega))
  have l5 : (mm_te U n p - p).toNat ≤ 5 := by omega
  have p5 : (10 : Int) ^ (mm_te U n p - p).toNat ≤ 10 ^ 5 := by
    match (mm_te U n p - p).toNat, l5 with
    | 0, _ => decide
    | 1, _ => decide
    | 2, _ => decide
    | 3, _ => decide
    | 4, _ => decide
    | 5, _ => decide
    | l + 6, q => exact absurd q (by omega)
  unfold mm_tv
  have e5 : (10 : Int) ^ 5 = 100000 := by decide
  omega
theorem mm_RDo_b {T : Int → Int} {n : Int} {P : Int → Int} (R : mm_RDo T n P) (w : Int) : 0 ≤ P w ∧ P w ≤ 99999 := by
  obtain ⟨a, i, m, e⟩ := R
  have h0 : mm_Pb (mm_A0 T n) := fun w => by
    show 0 ≤ mm_P0 w ∧ mm_P0 w ≤ 99999
    unfold mm_P0
    (repeat' split) <;> exact ⟨by decide, by decide⟩
  have z := mm_itr_b (c := mm_tc (mm_tr T n) n) (N := mm_tn (mm_tr T n) n) (V := mm_tv (mm_tr T n) n) (fun p q => mm_tv_b q) m _ h0
  have e' : mm_itr (mm_stp (mm_tc (mm_tr T n) n) (mm_tn (mm_tr T n) n) (mm_tv (mm_tr T n) n)) m (mm_A0 T n) = ⟨20, [], a, 0, i, 0, P⟩ := e
  rw [e'] at z
  exact z w
theorem mm_pw9_rules {h hc hy h2 : mH} {n k f : Int} (P : mm_pw9 h) (X : mm_RC h hc n k f) (z : (∀ w, 0 ≤ w → w ≤ 2 → hc.2.1 44 w = mm_pr h2 w) ∨ ((∀ w, hc.2.1 44 w = h.2.1 44 w) ∧ ∀ w, 0 ≤ w → w ≤ 2 → mm_pr h2 w = mm_pr hy w)) (e44 : ∀ j, h2.2.1 44 j = hc.2.1 44 j) (y2 : ∀ j, hy.2.1 102 j = h.2.1 102 j) (y7 : hy.1 66 67 = h.1 66 67) (y8 : hy.1 66 68 = h.1 66 68) : mm_pw9 h2 := fun w a b => by
  have p := P w a b
  rw [e44]
  refine ⟨?_, ?_⟩
  · rcases z with z | ⟨z1, z2⟩
    · exact z w a b
    · rw [z1, z2 w a b, mm_pr_sm y2 y7 y8]; exact p.1
  · rcases X with ⟨_, _, Q, x3, x4⟩ | ⟨_, _, x3⟩
    · rw [x4 w a b]; exact mm_RDo_b x3 w
    · rw [x3]; exact p.2
theorem mm_pw9_keep {h h2 : mH} (P : mm_pw9 h) (e : ∀ w, h2.2.1 44 w = h.2.1 44 w) (r : ∀ w, 0 ≤ w → w ≤ 2 → mm_pr h2 w = mm_pr h w) : mm_pw9 h2 := fun w a b => by
  rw [e, r w a b]; exact P w a b
/-! rows of events -/
theorem mm_tp_u {h h1 h2 : mH} {o : Nat} {t n n' c v : Int} {F : Int → Int} (w : mm_tp h h1 o t n F) (u : mm_up h1 h2 o c v 1) (hc : c = n) (ht : t ≤ n) (hv : v = F n) (hn : n' = n + 1) : mm_tp h h2 o t n' F := fun j => by
  rw [u j, w j, hc]
  by_cases q : j = n
  · rw [if_pos ⟨q, rfl⟩, if_pos (by omega), q]; exact hv
  · rw [if_neg (fun z => q z.1)]
    by_cases z : t ≤ j ∧ j < n
    · rw [if_pos z, if_pos (by omega)]
    · rw [if_neg z, if_neg (by omega)]
theorem mm_tp_cg {h h2 : mH} {o : Nat} {t n : Int} {F G : Int → Int} (w : mm_tp h h2 o t n F) (e : ∀ j, t ≤ j → j < n → G j = F j) : mm_tp h h2 o t n G := fun j => by
  rw [w j]
  by_cases z : t ≤ j ∧ j < n
  · rw [if_pos z, if_pos z, e j z.1 z.2]
  · rw [if_neg z, if_neg z]
theorem mm_eq_tp2 {h h1 h2 : mH} {a b : Nat} {m m' t n t2 n2 : Int} {F G : Int → Int} (E : mm_eq h a b m) (u : mm_tp h h1 a t n F) (e1 : ∀ j, h1.2.1 b j = h.2.1 b j) (w : mm_tp h1 h2 b t2 n2 G) (e2 : ∀ j, h2.2.1 a j = h1.2.1 a j) (ht2 : t2 = t) (hn : n2 = n) (hFG : ∀ j, t ≤ j → j < n → F j = G j) (ht : t = m + 1) (hm : m' ≤ n - 1 ∨ m' ≤ m) : mm_eq h2 a b m' := fun j x y => by
  subst ht2 hn
  rw [e2 j, u j, w j, e1 j]
  by_cases z : t2 ≤ j ∧ j < n2
  · rw [if_pos z, if_pos z]; exact hFG j z.1 z.2
  · rw [if_neg z, if_neg z]; exact E j x (by omega)
/-! the draw, on both sides -/
def mm_dx9 (h h2 : mH) (c s f r : Int) : Prop := ∃ W : Int → Int, mm_Oc (mm_Q1 h c (h.1 0 13)) (h.2.1 24) (h.1 22 8).toNat (h.1 0 13) (h.1 30 6) (h.2.1 44 1) s f r W ∧ mm_tp h h2 31 (h.1 30 6) (h.1 30 6 + r) (fun _ => 0) ∧ mm_tp h h2 32 (h.1 30 6) (h.1 30 6 + r) (fun j => W (j - h.1 30 6)) ∧ mm_tp h h2 35 (h.1 30 6) (h.1 30 6 + r) (fun _ => h.1 0 13) ∧ mm_tp h h2 36 (h.1 30 6) (h.1 30 6 + r) (fun _ => -1)
def mm_dy9 (h h2 : mH) (c s f r : Int) : Prop := ∃ W : Int → Int, mm_Or (mm_Q2 h c (h.1 66 41)) (h.2.1 86) (h.1 66 23).toNat (h.1 66 41) (h.1 66 40) (mm_pr h 1) s f r W ∧ mm_tp h h2 92 (h.1 66 40) (h.1 66 40 + r) (fun _ => 0) ∧ mm_tp h h2 93 (h.1 66 40) (h.1 66 40 + r) (fun j => W (j - h.1 66 40)) ∧ mm_tp h h2 96 (h.1 66 40) (h.1 66 40 + r) (fun _ => h.1 66 41) ∧ mm_tp h h2 97 (h.1 66 40) (h.1 66 40 + r) (fun _ => -1)
theorem mm_Q12 {h h1 : mH} {c x : Int} (a : mm_eq h 31 92 (h.1 30 6 - 1)) (b : mm_eq h 32 93 (h.1 30 6 - 1)) (d : mm_eq h 35 96 (h.1 30 6 - 1)) (g : mm_eq h 36 97 (h.1 30 6 - 1)) (e1 : mm_k2 h1 = mm_k2 h) (hk : h1.1 66 41 = h.1 0 13) (hev : h1.1 66 40 = h.1 30 6) (e23 : mm_eq h 23 85 (h.1 22 8 - 1)) (T : mm_ah h) (y85 : ∀ j, h1.2.1 85 j = h.2.1 85 j) (y88 : ∀ j, h1.2.1 88 j = h.2.1 88 j) (y89 : ∀ j, h1.2.1 89 j = h.2.1 89 j) (x0 : 0 ≤ x) (x1 : x < h.1 22 8) : mm_Q1 h c (h.1 0 13) x ↔ mm_Q2 h1 c (h1.1 66 41) x := by
  unfold mm_Q1 mm_Q2
  rw [y85, y88, y89, hev, ← e23 x x0 (by omega), T x x0 (by omega)]
  constructor
  · intro ⟨p, q, r⟩
    exact ⟨p, q, fun e e0 e9 z => r e e0 e9 ((mm_kk a b d g e1 hk e0 e9).mpr z)⟩
  · intro ⟨p, q, r⟩
    exact ⟨p, q, fun e e0 e9 z => r e e0 e9 ((mm_kk a b d g e1 hk e0 e9).mp z)⟩
theorem mm_draw_eq {h hc h1 h2 : mH} {c s f r r' : Int} (X : mm_dx9 h hc c s f r) (Y : mm_dy9 h1 h2 c s f r') (a : mm_eq h 31 92 (h.1 30 6 - 1)) (b : mm_eq h 32 93 (h.1 30 6 - 1)) (d : mm_eq h 35 96 (h.1 30 6 - 1)) (g : mm_eq h 36 97 (h.1 30 6 - 1)) (e1 : mm_k2 h1 = mm_k2 h) (hk : h1.1 66 41 = h.1 0 13) (hev : h1.1 66 40 = h.1 30 6) (e23 : mm_eq h 23 85 (h.1 22 8 - 1)) (e24 : mm_eq h 24 86 (h.1 22 8 - 1)) (T : mm_ah h) (y85 : ∀ j, h1.2.1 85 j = h.2.1 85 j) (y86 : ∀ j, h1.2.1 86 j = h.2.1 86 j) (y88 : ∀ j, h1.2.1 88 j = h.2.1 88 j) (y89 : ∀ j, h1.2.1 89 j = h.2.1 89 j) (hn : h1.1 66 23 = h.1 22 8) (hn4 : 0 ≤ h.1 22 8 ∧ h.1 22 8 ≤ 40) (pr : mm_pr h1 1 = h.2.1 44 1) : r = r' ∧ ∃ F G : Int → Int, (∀ j, h.1 30 6 ≤ j → j < h.1 30 6 + r → F j = G j) ∧ (mm_tp h hc 31 (h.1 30 6) (h.1 30 6 + r) (fun _ => 0) ∧ mm_tp h hc 32 (h.1 30 6) (h.1 30 6 + r) F ∧ mm_tp h hc 35 (h.1 30 6) (h.1 30 6 + r) (fun _ => h.1 0 13) ∧ mm_tp h hc 36 (h.1 30 6) (h.1 30 6 + r) (fun _ => -1)) ∧ (mm_tp h1 h2 92 (h.1 30 6) (h.1 30 6 + r) (fun _ => 0) ∧ mm_tp h1 h2 93 (h.1 30 6) (h.1 30 6 + r) G ∧ mm_tp h1 h2 96 (h.1 30 6) (h.1 30 6 + r) (fun _ => h.1 0 13) ∧ mm_tp h1 h2 97 (h.1 30 6) (h.1 30 6 + r) (fun _ => -1)) := by
  obtain ⟨W, x1, x2, x3, x4, x5⟩ := X
  obtain ⟨V, y1, y2, y3, y4, y5⟩ := Y
  have y1' : mm_Or (mm_Q2 h1 c (h1.1 66 41)) (h1.2.1 86) (h.1 22 8).toNat (h.1 0 13) (h.1 30 6) (h.2.1 44 1) s f r' V := by
    rw [← pr, ← hk, ← hev, ← hn]; exact y1
  have z := mm_O_eq x1 y1' (by omega) (fun x a0 a1 => mm_Q12 a b d g e1 hk hev e23 T y85 y88 y89 a0 (by omega)) (fun x a0 a1 => by rw [y86]; exact (e24 x a0 (by omega)).symm)
  obtain ⟨z1, z2⟩ := z
  subst z1
  rw [hev] at y2 y3 y4 y5
  rw [hk] at y4
  exact ⟨rfl, _, _, fun j a0 a1 => z2 (j - h.1 30 6) (by omega) (by omega), ⟨x2, x3, x4, x5⟩, ⟨y2, y3, y4, y5⟩⟩
theorem mm_tn9_tr {h h1 h2 : mH} {a b c m : Int} (w : mm_tn9 h h1 a b c m) (e : ∀ j, h2.2.1 89 j = h1.2.1 89 j) : mm_tn9 h h2 a b c m := fun j => by rw [e]; exact w j
theorem mm_gt_1 {h : mH} {a b c : Int} (e : mm_gt h a b c = 1) : a ≠ b ∧ b ≠ c ∧ a ≠ c ∧ h.2.1 28 a = 0 := by
  unfold mm_gt at e
  split at e
  · rename_i q; exact ⟨q.1, q.2.1, q.2.2.1, q.2.2.2.1⟩
  · exact absurd e (by decide)
def mm_ct9 (h : mH) (k : Int) : Int := if k = 0 then h.1 0 13 else if k = 1 then h.1 14 7 else if k = 2 then h.1 14 8 else if k = 3 then h.1 22 8 else if k = 4 then h.1 22 9 else if k = 5 then h.1 30 6 else if k = 6 then h.1 30 12 else if k = 7 then h.1 0 12 else if k = 8 then h.2.1 44 0 else if k = 9 then h.2.1 44 1 else h.2.1 44 2
def mm_cu9 (h : mH) (k : Int) : Int := if k = 0 then h.1 66 41 else if k = 1 then h.1 66 21 else if k = 2 then h.1 66 22 else if k = 3 then h.1 66 23 else if k = 4 then h.1 66 24 else if k = 5 then h.1 66 40 else if k = 6 then h.1 66 82 else if k = 7 then h.1 66 56 else mm_pr h (k - 8)
theorem mm_ct_eq {h h1 : mH} {k : Int} (e0 : h.1 0 13 = h1.1 66 41) (e1 : h.1 14 7 = h1.1 66 21) (e2 : h.1 14 8 = h1.1 66 22) (e3 : h.1 22 8 = h1.1 66 23) (e4 : h.1 22 9 = h1.1 66 24) (e5 : h.1 30 6 = h1.1 66 40) (e6 : h.1 30 12 = h1.1 66 82) (e7 : h.1 0 12 = h1.1 66 56) (P : mm_pw9 h) (p : ∀ w, mm_pr h1 w = mm_pr h w) (k0 : 0 ≤ k) (k1 : k ≤ 10) : mm_ct9 h k = mm_cu9 h1 k := by
  unfold mm_ct9 mm_cu9
  rw [e0, e1, e2, e3, e4, e5, e6, e7, p]
  by_cases q8 : k = 8
  · rw [q8]; exact (P 0 (by decide) (by decide)).1
  · by_cases q9 : k = 9
    · rw [q9]; exact (P 1 (by decide) (by decide)).1
    · by_cases q10 : k = 10
      · rw [q10]; exact (P 2 (by decide) (by decide)).1
      · (repeat' split) <;> first | rfl | omega
/-- the seconds of the last start: the machine's own numbers -/
theorem mm_l64 {z : Int} (h : -9223372036854775808 ≤ z ∧ z < 9223372036854775808) : (Int64.ofInt z).toInt = z := mm_t64 z h
theorem mm_ladd_id {u v : Int} (hu : -1000000000 ≤ u ∧ u ≤ 1000000000) (hv : -1000000000 ≤ v ∧ v ≤ 1000000000) : mm_vladd u v = u + v := by
  unfold mm_vladd
  rw [Int64.toInt_add, mm_l64 ⟨by omega, by omega⟩, mm_l64 ⟨by omega, by omega⟩]
  exact fb_bm64 ⟨by omega, by omega⟩
theorem mm_lsub_id {u v : Int} (hu : -1000000000 ≤ u ∧ u ≤ 1000000000) (hv : -1000000000 ≤ v ∧ v ≤ 1000000000) : mm_vlsub u v = u - v := by
  unfold mm_vlsub
  rw [Int64.toInt_sub, mm_l64 ⟨by omega, by omega⟩, mm_l64 ⟨by omega, by omega⟩]
  exact fb_bm64 ⟨by omega, by omega⟩
theorem mm_mulb {n g : Int} (hn : 0 ≤ n ∧ n ≤ 40) (hg : 0 ≤ g ∧ g ≤ 99999) : -99999 ≤ (n - 1) * g ∧ (n - 1) * g ≤ 3899961 := by
  have a : 0 ≤ n * g := Int.mul_nonneg hn.1 hg.1
  have b : n * g ≤ 40 * g := Int.mul_le_mul_of_nonneg_right hn.2 hg.1
  have e : (n - 1) * g = n * g - g := by rw [Int.sub_mul, Int.one_mul]
  omega
theorem mm_lmul_id {u v : Int} (hu : -1000000000 ≤ u ∧ u ≤ 1000000000) (hv : -1000000000 ≤ v ∧ v ≤ 1000000000) (hw : -1000000000 ≤ u * v ∧ u * v ≤ 1000000000) : mm_vlmul u v = u * v := by
  unfold mm_vlmul
  rw [Int64.toInt_mul, mm_l64 ⟨by omega, by omega⟩, mm_l64 ⟨by omega, by omega⟩]
  exact fb_bm64 ⟨by omega, by omega⟩

/-! ===== steps of gathering, over the heap ===== -/
theorem mm_ga_y {h h3 h4 h5 : mH} {Q : Int → Prop} {cl : Int → Int} {i : Int} (G : mm_gh Q (h.2.1 55) i.toNat (h.1 54 5)) (L : ∀ c, 0 ≤ c → c < 10 → h.2.1 57 c = mm_lk cl (h.2.1 55) (h.1 54 5).toNat c) (hi : 0 ≤ i ∧ i ≤ 40) (q : Q i) (e24 : h.2.1 24 i = cl i) (a3 : h3 = mm_pa h 55 (h.1 54 5) i) (a4 : h4 = mm_pf h3 54 5 (h3.1 54 5 + 1)) (a5 : h5 = mm_pa h4 57 (h4.2.1 24 i) (mm_w (h4.2.1 57 (h4.2.1 24 i) + 1))) (hc : 0 ≤ h4.2.1 24 i ∧ h4.2.1 24 i ≤ 9) : mm_gh Q (h5.2.1 55) (i + 1).toNat (h5.1 54 5) ∧ ∀ c, 0 ≤ c → c < 10 → h5.2.1 57 c = mm_lk cl (h5.2.1 55) (h5.1 54 5).toNat c := by
  have g := mm_gh_rg _ _ G
  have e5 : h5.1 54 5 = h.1 54 5 + 1 := by
    rw [a5]
    show h4.1 54 5 = _
    rw [a4]
    refine (mm_pf_same _ _ _ _).trans ?_
    rw [a3]
    rfl
  have r5 : ∀ k, h5.2.1 55 k = if k = h.1 54 5 then i else h.2.1 55 k := fun k => by
    rw [a5, mm_pa_o 55 57 (by decide), a4, a3]
    show (mm_pa h 55 (h.1 54 5) i).2.1 55 k = _
    by_cases y : k = h.1 54 5
    · rw [if_pos y, y, mm_pa_same]
    · rw [if_neg y, mm_pa_j 55 y]
  have e4 : ∀ o, o ≠ 55 → ∀ j, h4.2.1 o j = h.2.1 o j := fun o ho j => by
    rw [a4, a3]
    exact mm_pa_o o 55 ho j
  rw [e5]
  refine ⟨mm_gh_y G hi.1 q r5, fun c c0 c1 => ?_⟩
  rw [mm_lk_y (R := h.2.1 55) (r := i) g.1 r5, ← L c c0 c1, a5]
  have eC : h4.2.1 24 i = cl i := (e4 24 (by decide) i).trans e24
  by_cases y : c = cl i
  · rw [if_pos y, y, ← eC, mm_pa_same, e4 57 (by decide)]
    have b := mm_lk_rg cl (h.2.1 55) (h.1 54 5).toNat (h4.2.1 24 i)
    have l := L (h4.2.1 24 i) hc.1 (by omega)
    exact mm_w_id ⟨by omega, by omega⟩
  · rw [if_neg y, eC, mm_pa_j 57 y, e4 57 (by decide)]
theorem mm_gb_y {h h1 h2 h3 : mH} {Q : Int → Prop} {cl : Int → Int} {i n n' : Int} (G : mm_gh Q (h.2.1 117) i.toNat n) (L : ∀ c, 0 ≤ c → c < 10 → h.2.1 118 c = mm_lk cl (h.2.1 117) n.toNat c) (Z : ∀ r, 0 ≤ r → r < i → h.2.1 119 r = 0) (hi : 0 ≤ i ∧ i ≤ 40) (q : Q i) (e86 : h.2.1 86 i = cl i) (hc : 0 ≤ cl i ∧ cl i ≤ 9) (a1 : h1 = mm_pa h 119 i 0) (a2 : h2 = mm_pa h1 117 n i) (a3 : h3 = mm_pa h2 118 (h2.2.1 86 i) (mm_w (h2.2.1 118 (h2.2.1 86 i) + 1))) (hn : n' = n + 1) : mm_gh Q (h3.2.1 117) (i + 1).toNat n' ∧ (∀ c, 0 ≤ c → c < 10 → h3.2.1 118 c = mm_lk cl (h3.2.1 117) n'.toNat c) ∧ ∀ r, 0 ≤ r → r < i + 1 → h3.2.1 119 r = 0 := by
  subst hn
  have g := mm_gh_rg _ _ G
  have r5 : ∀ k, h3.2.1 117 k = if k = n then i else h.2.1 117 k := fun k => by
    rw [a3, mm_pa_o 117 118 (by decide), a2]
    by_cases y : k = n
    · rw [if_pos y, y, mm_pa_same]
    · rw [if_neg y, mm_pa_j 117 y, a1, mm_pa_o 117 119 (by decide)]
  have e4 : ∀ o, o ≠ 117 → o ≠ 119 → ∀ j, h2.2.1 o j = h.2.1 o j := fun o ho hp j => by
    rw [a2, mm_pa_o o 117 ho, a1, mm_pa_o o 119 hp]
  refine ⟨mm_gh_y G hi.1 q r5, fun c c0 c1 => ?_, fun r r0 r1 => ?_⟩
  · rw [mm_lk_y (R := h.2.1 117) (r := i) g.1 r5, ← L c c0 c1, a3]
    have eC : h2.2.1 86 i = cl i := (e4 86 (by decide) (by decide) i).trans e86
    by_cases y : c = cl i
    · rw [if_pos y, y, ← eC, mm_pa_same, e4 118 (by decide) (by decide)]
      have b := mm_lk_rg cl (h.2.1 117) n.toNat (h2.2.1 86 i)
      have l := L (h2.2.1 86 i) (by omega) (by omega)
      exact mm_w_id ⟨by omega, by omega⟩
    · rw [if_neg y, eC, mm_pa_j 118 y, e4 118 (by decide) (by decide)]
  · rw [a3, mm_pa_o 119 118 (by decide), a2, mm_pa_o 119 117 (by decide), a1]
    by_cases y : r = i
    · rw [y, mm_pa_same]
    · rw [mm_pa_j 119 y]; exact Z r r0 (by omega)
theorem mm_gb_n {h h1 : mH} {Q : Int → Prop} {cl : Int → Int} {i n : Int} (G : mm_gh Q (h.2.1 117) i.toNat n) (L : ∀ c, 0 ≤ c → c < 10 → h.2.1 118 c = mm_lk cl (h.2.1 117) n.toNat c) (Z : ∀ r, 0 ≤ r → r < i → h.2.1 119 r = 0) (hi : 0 ≤ i) (q : ¬ Q i) (a1 : h1 = mm_pa h 119 i 0) : mm_gh Q (h1.2.1 117) (i + 1).toNat n ∧ (∀ c, 0 ≤ c → c < 10 → h1.2.1 118 c = mm_lk cl (h1.2.1 117) n.toNat c) ∧ ∀ r, 0 ≤ r → r < i + 1 → h1.2.1 119 r = 0 := by
  have e7 : h1.2.1 117 = h.2.1 117 := by rw [a1]; exact funext (mm_pa_o 117 119 (by decide))
  rw [e7]
  refine ⟨mm_gh_n G hi q (fun _ => rfl), fun c c0 c1 => by rw [a1, mm_pa_o 118 119 (by decide)]; exact L c c0 c1, fun r r0 r1 => ?_⟩
  rw [a1]
  by_cases y : r = i
  · rw [y, mm_pa_same]
  · rw [mm_pa_j 119 y]; exact Z r r0 (by omega)
/-- what the shuffle leaves: still others, still below n -/
theorem mm_sh9_ij {Q : Int → Prop} {R D : Int → Int} {N : Nat} {n s : Int} (G : mm_gh Q R N n) (hN : N ≤ 40) (e : D = mm_sh9 (n - 1).toNat s R) : mm_ij9 D n ∧ ∀ k, 0 ≤ k → k < n → 0 ≤ D k ∧ D k < N := by
  have g := mm_gh_rg _ _ G
  obtain ⟨t, t1, t2, t3⟩ := mm_sh9_im (n := n) (by omega) (n - 1).toNat s R (by omega)
  subst e
  refine ⟨fun a b a0 a1 b0 b1 z => ?_, fun k k0 k1 => ?_⟩
  · rw [t1, t1] at z
    have ta := t2 a a0 a1
    have tb := t2 b b0 b1
    exact t3 a b (mm_gh_inj _ _ G _ _ ta.1 ta.2 tb.1 tb.2 z)
  · rw [t1]
    have tk := t2 k k0 k1
    exact g.2.2 _ tk.1 tk.2
theorem mm_nn9_sh {h h' : mH} {s : Int} (N : mm_nn9 h) (hn : 0 ≤ h.1 54 5 ∧ h.1 54 5 ≤ 40) (e5 : h'.1 54 5 = h.1 54 5) (e : h'.2.1 55 = mm_sh9 (h.1 54 5 - 1).toNat s (h.2.1 55)) : mm_nn9 h' := fun k k0 k1 => by
  obtain ⟨t, t1, t2, _⟩ := mm_sh9_im (n := h.1 54 5) (by omega) (h.1 54 5 - 1).toNat s (h.2.1 55) (by omega)
  rw [e, t1]
  have tk := t2 k k0 (by omega)
  exact N _ tk.1 tk.2
theorem mm_ag_s2 {hs h h1 h2 h3 : mH} {i a k c0 v m n : Int} (A : mm_ag hs h i a) (e24 : ∀ j, h.2.1 24 j = hs.2.1 24 j) (hi : 0 ≤ i) (F : mm_fs9 (mm_pk h a m) n k) (hm : m = hs.1 54 5 - i - 1) (hn : n = hs.1 54 5) (a1 : h1 = mm_pa h 56 i (h.2.1 55 k)) (a2 : h2 = mm_pa h1 55 k (-1)) (hc : c0 = h2.2.1 24 (h2.2.1 56 i)) (hc0 : 0 ≤ c0 ∧ c0 ≤ 9) (b : mm_lg9 h 100) (a3 : h3 = mm_pa h2 57 c0 v) (hv : v = mm_w (h2.2.1 57 c0 - 1)) : mm_ag hs h3 (i + 1) c0 := by
  subst hm hn
  have e6 : h2.2.1 56 i = h.2.1 55 k := by rw [a2, mm_pa_o 56 55 (by decide), a1, mm_pa_same]
  have e4 : ∀ j, h2.2.1 24 j = h.2.1 24 j := fun j => by rw [a2, mm_pa_o 24 55 (by decide), a1, mm_pa_o 24 56 (by decide)]
  have e7 : ∀ j, h2.2.1 57 j = h.2.1 57 j := fun j => by rw [a2, mm_pa_o 57 55 (by decide), a1, mm_pa_o 57 56 (by decide)]
  have bc := b c0 hc0.1 (by omega)
  refine mm_ag_s A e24 hi F a1 a2 (by rw [hc, e6, e4]) hc0.1 (by omega) a3 ?_
  rw [hv, e7]
  exact mm_w_id ⟨by omega, by omega⟩
theorem mm_aW_L {cl D L L' W : Int → Int} {n r : Int} (A : mm_aW cl D L n r W) (e : ∀ c, 0 ≤ c → c < 10 → L' c = L c) : mm_aW cl D L' n r W := by
  have tc : ∀ (q : Nat → Int) (i : Nat), mm_tc9 cl D L n q i → mm_tc9 cl D L' n q i := fun q i T j hj => by
    have t := T j hj
    have hl : ∀ l, l < j → q l = q l ∧ 0 ≤ q l ∧ q l < n := fun l y => ⟨rfl, (T l (by omega)).1, (T l (by omega)).2.1⟩
    exact ⟨t.1, t.2.1, (mm_ok9_cg (fun _ _ _ => rfl) e hl t.1 t.2.1).mpr t.2.2.1, fun k a b c => t.2.2.2 k a b ((mm_ok9_cg (fun _ _ _ => rfl) e hl a (by have := t.2.1; omega)).mp c)⟩
  rcases A with ⟨a, q, i, b, c, d⟩ | ⟨a, q, b, c⟩
  · refine Or.inl ⟨a, q, i, b, tc q i c, fun k k0 k1 o => d k k0 k1 ?_⟩
    exact (mm_ok9_cg (fun _ _ _ => rfl) e (fun l y => ⟨rfl, (c l y).1, (c l y).2.1⟩) k0 k1).mp o
  · exact Or.inr ⟨a, q, tc q _ b, c⟩
theorem mm_aW_1 {h hs h2 : mH} {i a s : Int} (A : mm_ag hs h2 i a) (e24 : ∀ j, hs.2.1 24 j = h.2.1 24 j) (e55 : hs.2.1 55 = mm_sh9 (h.1 54 5 - 1).toNat s (h.2.1 55)) (e57 : ∀ j, hs.2.1 57 j = h.2.1 57 j) (e5 : hs.1 54 5 = h.1 54 5) (hi : i = h.1 54 5) : mm_aW (h.2.1 24) (mm_sh9 (h.1 54 5 - 1).toNat s (h.2.1 55)) (h.2.1 57) (h.1 54 5) 1 (h2.2.1 56) := by
  obtain ⟨q, t, _, _, w, _⟩ := A
  rw [funext e24, e55, funext e57, e5, hi] at t
  rw [e55, hi] at w
  exact Or.inr ⟨rfl, q, t, w⟩
theorem mm_aW_0 {h hs h' : mH} {i a s m : Int} {W : Int → Int} (A : mm_ag hs h' i a) (e' : ∀ j, h'.2.1 24 j = hs.2.1 24 j) (e24 : ∀ j, hs.2.1 24 j = h.2.1 24 j) (e55 : hs.2.1 55 = mm_sh9 (h.1 54 5 - 1).toNat s (h.2.1 55)) (e57 : ∀ j, hs.2.1 57 j = h.2.1 57 j) (e5 : hs.1 54 5 = h.1 54 5) (h0 : 0 ≤ i) (hi : i < h.1 54 5) (hm : m = hs.1 54 5 - i - 1) (S : ∀ k, 0 ≤ k → k < h'.1 54 5 → ¬ mm_pk h' a m k) (e5' : h'.1 54 5 = hs.1 54 5) : mm_aW (h.2.1 24) (mm_sh9 (h.1 54 5 - 1).toNat s (h.2.1 55)) (h.2.1 57) (h.1 54 5) 0 W := by
  subst hm
  rw [e5'] at S
  obtain ⟨q, t, z⟩ := mm_ag_st A e' h0 S
  rw [funext e24, e55, funext e57, e5] at t z
  exact Or.inl ⟨rfl, q, i.toNat, by omega, t, z⟩
theorem mm_gap {n g f : Int} (hn : 0 ≤ n ∧ n ≤ 40) (hg : 0 ≤ g ∧ g ≤ 99999) (hf : 0 ≤ f ∧ f ≤ 99999) : mm_w (f + mm_w ((n - 1) * g)) = f + (n - 1) * g := by
  have b := mm_mulb hn hg
  rw [mm_w_id (z := (n - 1) * g) ⟨by omega, by omega⟩]
  exact mm_w_id ⟨by omega, by omega⟩
/-! the class's draw as a whole -/
theorem mm_dx9_ok {h h1 h2 h3 : mH} {c s f r i ra : Int} (G : mm_gh (mm_Q1 h c (h.1 0 13)) (h1.2.1 55) (h.1 22 8).toNat (h1.1 54 5)) (L : ∀ c, 0 ≤ c → c < 10 → h1.2.1 57 c = mm_lk (h.2.1 24) (h1.2.1 55) (h1.1 54 5).toNat c) (e24 : ∀ j, h1.2.1 24 j = h.2.1 24 j) (A : mm_aW (h1.2.1 24) (mm_sh9 (h1.1 54 5 - 1).toNat s (h1.2.1 55)) (h1.2.1 57) (h1.1 54 5) ra (h2.2.1 56)) (hra : ra = 1) (hr : r = h1.1 54 5) (f0 : h.1 0 13 ≤ f) (f1 : f ≤ 99999) (c1 : h.1 30 6 + r ≤ 500) (c2 : f + (r - 1) * h.2.1 44 1 ≤ 99999) (hi : i = r) (t1 : mm_tp h h3 31 (h.1 30 6) (h.1 30 6 + i) (fun _ => 0)) (t2 : mm_tp h h3 32 (h.1 30 6) (h.1 30 6 + i) (fun j => h2.2.1 56 (j - h.1 30 6))) (t5 : mm_tp h h3 35 (h.1 30 6) (h.1 30 6 + i) (fun _ => h.1 0 13)) (t6 : mm_tp h h3 36 (h.1 30 6) (h.1 30 6 + i) (fun _ => -1)) : mm_dx9 h h3 c s f r := by
  subst hi
  subst hra
  subst hr
  have A' := mm_aW_L A (fun c a b => (L c a b).symm)
  rw [funext e24] at A'
  refine ⟨h2.2.1 56, Or.inr ⟨f0, f1, h1.2.1 55, h1.1 54 5, G, Or.inr ⟨c1, c2, Or.inr ⟨rfl, ?_⟩⟩⟩, t1, t2, t5, t6⟩
  rcases A' with ⟨a, _⟩ | ⟨_, a⟩
  · exact absurd a (by decide)
  · exact a
theorem mm_dx9_st {h h1 h3 : mH} {c s f ra : Int} {W : Int → Int} (G : mm_gh (mm_Q1 h c (h.1 0 13)) (h1.2.1 55) (h.1 22 8).toNat (h1.1 54 5)) (L : ∀ c, 0 ≤ c → c < 10 → h1.2.1 57 c = mm_lk (h.2.1 24) (h1.2.1 55) (h1.1 54 5).toNat c) (e24 : ∀ j, h1.2.1 24 j = h.2.1 24 j) (A : mm_aW (h1.2.1 24) (mm_sh9 (h1.1 54 5 - 1).toNat s (h1.2.1 55)) (h1.2.1 57) (h1.1 54 5) ra W) (hra : ra = 0) (f0 : h.1 0 13 ≤ f) (f1 : f ≤ 99999) (c1 : h.1 30 6 + h1.1 54 5 ≤ 500) (c2 : f + (h1.1 54 5 - 1) * h.2.1 44 1 ≤ 99999) (t : ∀ o, (o = 31 ∨ o = 32 ∨ o = 35 ∨ o = 36) → ∀ j, h3.2.1 o j = h.2.1 o j) : mm_dx9 h h3 c s f (-1) := by
  subst hra
  have A' := mm_aW_L A (fun c a b => (L c a b).symm)
  rw [funext e24] at A'
  refine ⟨fun _ => 0, Or.inr ⟨f0, f1, h1.2.1 55, h1.1 54 5, G, Or.inr ⟨c1, c2, Or.inl ⟨rfl, ?_⟩⟩⟩, mm_tp_0 (t 31 (by decide)) (by omega), mm_tp_0 (t 32 (by decide)) (by omega), mm_tp_0 (t 35 (by decide)) (by omega), mm_tp_0 (t 36 (by decide)) (by omega)⟩
  rcases A' with ⟨_, a⟩ | ⟨a, _⟩
  · exact a
  · exact absurd a (by decide)
theorem mm_dx9_no {h h1 h3 : mH} {c s f : Int} (G : mm_gh (mm_Q1 h c (h.1 0 13)) (h1.2.1 55) (h.1 22 8).toNat (h1.1 54 5)) (f0 : h.1 0 13 ≤ f) (f1 : f ≤ 99999) (c1 : 500 < h.1 30 6 + h1.1 54 5 ∨ 99999 < f + (h1.1 54 5 - 1) * h.2.1 44 1) (t : ∀ o, (o = 31 ∨ o = 32 ∨ o = 35 ∨ o = 36) → ∀ j, h3.2.1 o j = h.2.1 o j) : mm_dx9 h h3 c s f (-1) :=
  ⟨fun _ => 0, Or.inr ⟨f0, f1, h1.2.1 55, h1.1 54 5, G, Or.inl ⟨c1, rfl⟩⟩, mm_tp_0 (t 31 (by decide)) (by omega), mm_tp_0 (t 32 (by decide)) (by omega), mm_tp_0 (t 35 (by decide)) (by omega), mm_tp_0 (t 36 (by decide)) (by omega)⟩
theorem mm_dx9_out {h h3 : mH} {c s f : Int} (f0 : f < h.1 0 13 ∨ 99999 < f) (t : ∀ o, (o = 31 ∨ o = 32 ∨ o = 35 ∨ o = 36) → ∀ j, h3.2.1 o j = h.2.1 o j) : mm_dx9 h h3 c s f (-1) :=
  ⟨fun _ => 0, Or.inl ⟨f0, rfl⟩, mm_tp_0 (t 31 (by decide)) (by omega), mm_tp_0 (t 32 (by decide)) (by omega), mm_tp_0 (t 35 (by decide)) (by omega), mm_tp_0 (t 36 (by decide)) (by omega)⟩
/-! the reference's -/
def mm_ke9 (h h' : mH) : Prop := (∀ j, h'.2.1 92 j = h.2.1 92 j) ∧ (∀ j, h'.2.1 93 j = h.2.1 93 j) ∧ (∀ j, h'.2.1 96 j = h.2.1 96 j) ∧ (∀ j, h'.2.1 97 j = h.2.1 97 j) ∧ h'.1 66 40 = h.1 66 40
theorem mm_ke9_rf {h : mH} : mm_ke9 h h := ⟨fun _ => rfl, fun _ => rfl, fun _ => rfl, fun _ => rfl, rfl⟩
theorem mm_ke9_fr {wf : List (Nat × Nat)} {wa : List Nat} {h h1 h2 : mH} (K : mm_ke9 h h1) (g : mm_fr wf wa h1 h2) (w : 92 ∉ wa ∧ 93 ∉ wa ∧ 96 ∉ wa ∧ 97 ∉ wa ∧ (66, 40) ∉ wf) : mm_ke9 h h2 :=
  ⟨fun j => (g.2 92 w.1 j).trans (K.1 j), fun j => (g.2 93 w.2.1 j).trans (K.2.1 j), fun j => (g.2 96 w.2.2.1 j).trans (K.2.2.1 j), fun j => (g.2 97 w.2.2.2.1 j).trans (K.2.2.2.1 j), (g.1 66 40 w.2.2.2.2).trans K.2.2.2.2⟩
theorem mm_ke9_pa {h h1 h2 : mH} {o : Nat} {i v : Int} (K : mm_ke9 h h1) (e : h2 = mm_pa h1 o i v) (w : 92 ≠ o ∧ 93 ≠ o ∧ 96 ≠ o ∧ 97 ≠ o) : mm_ke9 h h2 := by
  subst e
  exact ⟨fun j => (mm_pa_o 92 o w.1 j).trans (K.1 j), fun j => (mm_pa_o 93 o w.2.1 j).trans (K.2.1 j), fun j => (mm_pa_o 96 o w.2.2.1 j).trans (K.2.2.1 j), fun j => (mm_pa_o 97 o w.2.2.2 j).trans (K.2.2.2.1 j), K.2.2.2.2⟩
theorem mm_ke9_k2 {h h1 : mH} (K : mm_ke9 h h1) : mm_k2 h1 = mm_k2 h := mm_k2_eq K.1 K.2.1 K.2.2.1 K.2.2.2.1
theorem mm_up_cg {h h2 : mH} {o : Nat} {c c' v v' f : Int} (u : mm_up h h2 o c v f) (hc : c = c') (hv : v = v') : mm_up h h2 o c' v' f := by subst hc hv; exact u
theorem mm_nxt_cg {h h2 : mH} {k l m : Int} (b : ∀ j, 0 ≤ h.2.1 86 j) (e7 : ∀ j, h2.2.1 117 j = h.2.1 117 j) (e9 : ∀ j, h2.2.1 119 j = h.2.1 119 j) (e6 : ∀ j, h2.2.1 86 j = h.2.1 86 j) (e8 : ∀ j, h2.2.1 118 j = h.2.1 118 j) : mm_nxt h2 k l m ↔ mm_nxt h k l m := by
  rw [mm_nxt_rf (by rw [e6]; exact b _), mm_nxt_rf (b _), e7, e9, e6, funext e8]
theorem mm_bt9_of {hs h : mH} {n i a : Int} (B : mm_bt9 hs h n i a) (hi : i = n) (hn : 0 ≤ n) : mm_Of (hs.2.1 86) (hs.2.1 117) (hs.2.1 118) n (fun j => h.2.1 93 (hs.1 66 40 + j)) := by
  obtain ⟨q, t, _, _, _, w⟩ := B
  subst hi
  refine ⟨q, t, fun j a b => ?_⟩
  have z := w (hs.1 66 40 + j)
  rw [if_pos ⟨by omega, by omega⟩] at z
  show h.2.1 93 (hs.1 66 40 + j) = _
  rw [z]
  show hs.2.1 117 (q (hs.1 66 40 + j - hs.1 66 40).toNat) = _
  rw [show hs.1 66 40 + j - hs.1 66 40 = j by omega]
theorem mm_Of_L {cl D L L' W W' : Int → Int} {n : Int} (A : mm_Of cl D L n W) (e : ∀ c, 0 ≤ c → c < 10 → L' c = L c) (w : ∀ j, 0 ≤ j → j < n → W' j = W j) : mm_Of cl D L' n W' := by
  obtain ⟨q, b, c⟩ := A
  have A : mm_aW cl D L n 1 W := Or.inr ⟨rfl, q, b, c⟩
  rcases mm_aW_L A e with ⟨a, _⟩ | ⟨_, q', b', c'⟩
  · exact absurd a (by decide)
  · exact ⟨q', b', fun j x y => (w j x y).trans (c' j x y)⟩
theorem mm_dy9_ok {h hg hs h3 : mH} {c s f n a i : Int} (G : mm_gh (mm_Q2 h c (h.1 66 41)) (hg.2.1 117) (h.1 66 23).toNat n) (L : ∀ c, 0 ≤ c → c < 10 → hg.2.1 118 c = mm_lk (h.2.1 86) (hg.2.1 117) n.toNat c) (e86 : ∀ j, hs.2.1 86 j = h.2.1 86 j) (eD : hs.2.1 117 = mm_sh9 (n - 1).toNat s (hg.2.1 117)) (e8 : ∀ j, hs.2.1 118 j = hg.2.1 118 j) (ev : hs.1 66 40 = h.1 66 40) (B : mm_bt9 hs h3 n i a) (hi : i = n) (hn : 0 ≤ n) (f0 : h.1 66 41 ≤ f) (f1 : f ≤ 99999) (c1 : h.1 66 40 + n ≤ 500) (c2 : f + (n - 1) * mm_pr h 1 ≤ 99999) (cf : mm_cf9 (hs.2.1 118) n) (k3 : ∀ j, hs.2.1 93 j = h.2.1 93 j) (t1 : mm_tp h h3 92 (h.1 66 40) (h.1 66 40 + n) (fun _ => 0)) (t5 : mm_tp h h3 96 (h.1 66 40) (h.1 66 40 + n) (fun _ => h.1 66 41)) (t6 : mm_tp h h3 97 (h.1 66 40) (h.1 66 40 + n) (fun _ => -1)) : mm_dy9 h h3 c s f n := by
  have O := mm_bt9_of B hi hn
  have eL : ∀ c, 0 ≤ c → c < 10 → mm_lk (h.2.1 86) (hg.2.1 117) n.toNat c = hs.2.1 118 c := fun c a b => by rw [e8]; exact (L c a b).symm
  rw [funext e86, eD] at O
  refine ⟨fun j => h3.2.1 93 (hs.1 66 40 + j), Or.inr ⟨f0, f1, hg.2.1 117, n, G, Or.inr ⟨c1, c2, fun c a b => by rw [eL c a b]; exact cf c a b, rfl, mm_Of_L O eL (fun _ _ _ => rfl)⟩⟩, t1, fun j => ?_, t5, t6⟩
  by_cases z : h.1 66 40 ≤ j ∧ j < h.1 66 40 + n
  · rw [if_pos z]
    show _ = h3.2.1 93 (hs.1 66 40 + (j - h.1 66 40))
    rw [show hs.1 66 40 + (j - h.1 66 40) = j by omega]
  · rw [if_neg z]
    obtain ⟨q, _, _, _, _, w⟩ := B
    rw [w j, if_neg (by omega)]
    exact k3 j
theorem mm_dy9_no {h hg h3 : mH} {c s f n : Int} (G : mm_gh (mm_Q2 h c (h.1 66 41)) (hg.2.1 117) (h.1 66 23).toNat n) (L : ∀ c, 0 ≤ c → c < 10 → hg.2.1 118 c = mm_lk (h.2.1 86) (hg.2.1 117) n.toNat c) (f0 : h.1 66 41 ≤ f) (f1 : f ≤ 99999) (c1 : 500 < h.1 66 40 + n ∨ 99999 < f + (n - 1) * mm_pr h 1 ∨ ¬ mm_cf9 (hg.2.1 118) n) (t : mm_ke9 h h3) : mm_dy9 h h3 c s f (-1) := by
  refine ⟨fun _ => 0, Or.inr ⟨f0, f1, hg.2.1 117, n, G, Or.inl ⟨?_, rfl⟩⟩, mm_tp_0 t.1 (by omega), mm_tp_0 t.2.1 (by omega), mm_tp_0 t.2.2.1 (by omega), mm_tp_0 t.2.2.2.1 (by omega)⟩
  rcases c1 with q | q | q
  · exact Or.inl q
  · exact Or.inr (Or.inl q)
  · exact Or.inr (Or.inr (fun z => q (fun c a b => by rw [L c a b]; exact z c a b)))
theorem mm_dy9_out {h h3 : mH} {c s f : Int} (f0 : f < h.1 66 41 ∨ 99999 < f) (t : mm_ke9 h h3) : mm_dy9 h h3 c s f (-1) :=
  ⟨fun _ => 0, Or.inl ⟨f0, rfl⟩, mm_tp_0 t.1 (by omega), mm_tp_0 t.2.1 (by omega), mm_tp_0 t.2.2.1 (by omega), mm_tp_0 t.2.2.2.1 (by omega)⟩

/-! ===== both sides together, for the law ===== -/
theorem mm_dx9_pa {h hc : mH} {c s f r : Int} (X : mm_dx9 h hc c s f r) : mm_dx9 h (mm_pa hc 124 0 r) c s f ((mm_pa hc 124 0 r).2.1 124 0) := by
  rw [mm_pa_same]
  obtain ⟨W, a, b, c1, d, e⟩ := X
  exact ⟨W, a, mm_tp_tr (fun _ => rfl) b (fun j => mm_pa_o 31 124 (by decide) j), mm_tp_tr (fun _ => rfl) c1 (fun j => mm_pa_o 32 124 (by decide) j), mm_tp_tr (fun _ => rfl) d (fun j => mm_pa_o 35 124 (by decide) j), mm_tp_tr (fun _ => rfl) e (fun j => mm_pa_o 36 124 (by decide) j)⟩
theorem mm_pro_eq {h h1 : mH} {p u v x y : Int} (X : ∃ e : Int, mm_lat (mm_k1 h 2 p (h.1 0 13)) (h.1 30 6) e ∧ (((h.1 30 12 ≤ 39 ∧ e ≠ -1 ∧ (mm_w (h.1 0 13 - h.2.1 35 e)) ≤ h.2.1 44 2) ∧ u = h.1 30 12 ∧ x = h.1 30 12 + 1) ∨ ((40 ≤ h.1 30 12 ∨ e = -1 ∨ h.2.1 44 2 < (mm_w (h.1 0 13 - h.2.1 35 e))) ∧ u = -1 ∧ x = h.1 30 12))) (Y : ∃ e : Int, mm_lat (mm_k2 h1 2 p (h1.1 66 41)) (h1.1 66 40) e ∧ (((h1.1 66 82 ≠ 40 ∧ e ≠ -1 ∧ (mm_w (h1.1 66 41 - h1.2.1 96 e)) ≤ mm_pr h1 2) ∧ v = h1.1 66 82 ∧ y = h1.1 66 82 + 1) ∨ ((h1.1 66 82 = 40 ∨ e = -1 ∨ mm_pr h1 2 < (mm_w (h1.1 66 41 - h1.2.1 96 e))) ∧ v = -1 ∧ y = h1.1 66 82))) (a : mm_eq h 31 92 (h.1 30 6 - 1)) (b : mm_eq h 32 93 (h.1 30 6 - 1)) (d : mm_eq h 35 96 (h.1 30 6 - 1)) (g : mm_eq h 36 97 (h.1 30 6 - 1)) (e1 : mm_k2 h1 = mm_k2 h) (e96 : ∀ j, h1.2.1 96 j = h.2.1 96 j) (hk : h1.1 66 41 = h.1 0 13) (hev : h1.1 66 40 = h.1 30 6) (hp : h1.1 66 82 = h.1 30 12) (hb : h.1 30 12 ≤ 40) (pr : mm_pr h1 2 = h.2.1 44 2) : u = v ∧ x = y := by
  obtain ⟨e, l1, x1⟩ := X
  obtain ⟨e', l2, y1⟩ := Y
  have ee := mm_lat_un l1 l2 hev (fun j p q => mm_kk a b d g e1 hk p q)
  subst ee
  rw [hk, hp, pr, e96] at y1
  have z : e = -1 ∨ h.2.1 35 e = h.2.1 96 e := by
    rcases l1 with ⟨q, _⟩ | ⟨q0, q1, _⟩
    · exact Or.inl q
    · exact Or.inr (d e q0 (by omega))
  rcases z with z | z
  · omega
  · rw [← z] at y1
    omega
theorem mm_drw_rows {h hc h1 h2 : mH} {c s f r r' : Int} (X : mm_dx9 h hc c s f r) (Y : mm_dy9 h1 h2 c s f r') (a : mm_eq h 31 92 (h.1 30 6 - 1)) (b : mm_eq h 32 93 (h.1 30 6 - 1)) (d : mm_eq h 35 96 (h.1 30 6 - 1)) (g : mm_eq h 36 97 (h.1 30 6 - 1)) (y92 : ∀ j, h1.2.1 92 j = h.2.1 92 j) (y93 : ∀ j, h1.2.1 93 j = h.2.1 93 j) (y96 : ∀ j, h1.2.1 96 j = h.2.1 96 j) (y97 : ∀ j, h1.2.1 97 j = h.2.1 97 j) (hk : h1.1 66 41 = h.1 0 13) (hev : h1.1 66 40 = h.1 30 6) (e23 : mm_eq h 23 85 (h.1 22 8 - 1)) (e24 : mm_eq h 24 86 (h.1 22 8 - 1)) (T : mm_ah h) (y85 : ∀ j, h1.2.1 85 j = h.2.1 85 j) (y86 : ∀ j, h1.2.1 86 j = h.2.1 86 j) (y88 : ∀ j, h1.2.1 88 j = h.2.1 88 j) (y89 : ∀ j, h1.2.1 89 j = h.2.1 89 j) (hn : h1.1 66 23 = h.1 22 8) (hn4 : 0 ≤ h.1 22 8 ∧ h.1 22 8 ≤ 40) (pr : mm_pr h1 1 = h.2.1 44 1) (k : (∀ j, h1.2.1 31 j = hc.2.1 31 j) ∧ (∀ j, h1.2.1 32 j = hc.2.1 32 j) ∧ (∀ j, h1.2.1 35 j = hc.2.1 35 j) ∧ ∀ j, h1.2.1 36 j = hc.2.1 36 j) (k2 : (∀ j, h2.2.1 31 j = h1.2.1 31 j) ∧ (∀ j, h2.2.1 32 j = h1.2.1 32 j) ∧ (∀ j, h2.2.1 35 j = h1.2.1 35 j) ∧ ∀ j, h2.2.1 36 j = h1.2.1 36 j) (hr : (r = -1 ∧ h2.1 30 6 = h.1 30 6) ∨ (0 ≤ r ∧ h2.1 30 6 = h.1 30 6 + r)) : r = r' ∧ mm_eq h2 31 92 (h2.1 30 6 - 1) ∧ mm_eq h2 32 93 (h2.1 30 6 - 1) ∧ mm_eq h2 35 96 (h2.1 30 6 - 1) ∧ mm_eq h2 36 97 (h2.1 30 6 - 1) := by
  obtain ⟨er, F, G, fg, ⟨t1, t2, t5, t6⟩, ⟨u1, u2, u5, u6⟩⟩ := mm_draw_eq X Y a b d g (mm_k2_eq y92 y93 y96 y97) hk hev e23 e24 T y85 y86 y88 y89 hn hn4 pr
  have tr : ∀ {o : Nat} {K : Int → Int}, mm_tp h hc o (h.1 30 6) (h.1 30 6 + r) K → (∀ j, h1.2.1 o j = hc.2.1 o j) → mm_tp h h1 o (h.1 30 6) (h.1 30 6 + r) K := fun t e => mm_tp_tr (fun _ => rfl) t e
  have hm : h2.1 30 6 - 1 ≤ h.1 30 6 + r - 1 ∨ h2.1 30 6 - 1 ≤ h.1 30 6 - 1 := by omega
  exact ⟨er, mm_eq_tp2 a (tr t1 k.1) y92 u1 k2.1 rfl rfl (fun _ _ _ => rfl) (by omega) hm, mm_eq_tp2 b (tr t2 k.2.1) y93 u2 k2.2.1 rfl rfl fg (by omega) hm, mm_eq_tp2 d (tr t5 k.2.2.1) y96 u5 k2.2.2.1 rfl rfl (fun _ _ _ => rfl) (by omega) hm, mm_eq_tp2 g (tr t6 k.2.2.2) y97 u6 k2.2.2.2 rfl rfl (fun _ _ _ => rfl) (by omega) hm⟩

/-! ===== the members of a team, on the reference's side; what draws tell of where and when ===== -/
def mm_uc (h h2 : mH) (a b c t f : Int) : Prop := ∀ j, h2.2.1 90 j = if f = 1 ∧ j = 3 * t + 2 then c else if f = 1 ∧ j = 3 * t + 1 then b else if f = 1 ∧ j = 3 * t then a else h.2.1 90 j
theorem mm_uc_no {h h2 : mH} {a b c t f : Int} (hf : f ≠ 1) (e : ∀ j, h2.2.1 90 j = h.2.1 90 j) : mm_uc h h2 a b c t f := fun j => by
  rw [if_neg (fun w => hf w.1), if_neg (fun w => hf w.1), if_neg (fun w => hf w.1)]; exact e j
theorem mm_uc_pa {h h1 h2 h3 h4 h5 : mH} {a b c t i1 i2 i3 : Int} (e1 : ∀ j, h1.2.1 90 j = h.2.1 90 j) (a2 : h2 = mm_pa h1 90 i1 a) (a3 : h3 = mm_pa h2 90 i2 b) (a4 : h4 = mm_pa h3 90 i3 c) (q1 : i1 = 3 * t) (q2 : i2 = 3 * t + 1) (q3 : i3 = 3 * t + 2) (e5 : ∀ j, h5.2.1 90 j = h4.2.1 90 j) : mm_uc h h5 a b c t 1 := fun j => by
  rw [e5 j]
  by_cases z3 : j = 3 * t + 2
  · rw [if_pos ⟨rfl, z3⟩]; exact mm_pa_at a4 (by omega)
  · rw [if_neg (fun w => z3 w.2), mm_pa_off a4 (by omega)]
    by_cases z2 : j = 3 * t + 1
    · rw [if_pos ⟨rfl, z2⟩]; exact mm_pa_at a3 (by omega)
    · rw [if_neg (fun w => z2 w.2), mm_pa_off a3 (by omega)]
      by_cases z1 : j = 3 * t
      · rw [if_pos ⟨rfl, z1⟩]; exact mm_pa_at a2 (by omega)
      · rw [if_neg (fun w => z1 w.2), mm_pa_off a2 (by omega)]; exact e1 j
theorem mm_uc_tr {h h1 h2 h3 : mH} {a b c t f : Int} (e1 : ∀ j, h1.2.1 90 j = h.2.1 90 j) (u : mm_uc h1 h2 a b c t f) (e3 : ∀ j, h3.2.1 90 j = h2.2.1 90 j) : mm_uc h h3 a b c t f := fun j => by
  rw [e3 j, u j, e1 j]
def mm_dx8 (h h2 : mH) (f r : Int) : Prop := mm_tp h h2 33 (h.1 30 6) (h.1 30 6 + r) (fun _ => -1) ∧ mm_tp h h2 34 (h.1 30 6) (h.1 30 6 + r) (fun j => mm_w (f + mm_w ((j - h.1 30 6) * h.2.1 44 1)))
def mm_dy8 (h h2 : mH) (f r : Int) : Prop := mm_tp h h2 94 (h.1 66 40) (h.1 66 40 + r) (fun _ => 0) ∧ mm_tp h h2 95 (h.1 66 40) (h.1 66 40 + r) (fun j => mm_w (f + mm_w ((j - h.1 66 40) * mm_pr h 1)))
theorem mm_dx8_no {h h2 : mH} {f : Int} (e3 : ∀ j, h2.2.1 33 j = h.2.1 33 j) (e4 : ∀ j, h2.2.1 34 j = h.2.1 34 j) : mm_dx8 h h2 f (-1) := ⟨mm_tp_0 e3 (by omega), mm_tp_0 e4 (by omega)⟩
theorem mm_dy8_no {h h2 : mH} {f : Int} (e3 : ∀ j, h2.2.1 94 j = h.2.1 94 j) (e4 : ∀ j, h2.2.1 95 j = h.2.1 95 j) : mm_dy8 h h2 f (-1) := ⟨mm_tp_0 e3 (by omega), mm_tp_0 e4 (by omega)⟩
theorem mm_dx8_pa {h hc : mH} {f r : Int} (X : mm_dx8 h hc f r) : mm_dx8 h (mm_pa hc 124 0 r) f ((mm_pa hc 124 0 r).2.1 124 0) := by
  rw [mm_pa_same]
  exact ⟨mm_tp_tr (fun _ => rfl) X.1 (fun j => mm_pa_o 33 124 (by decide) j), mm_tp_tr (fun _ => rfl) X.2 (fun j => mm_pa_o 34 124 (by decide) j)⟩
/-- the posts of punches alone are alike -/
def mm_ep8 (h : mH) : Prop := ∀ e, 0 ≤ e → e ≤ h.1 30 6 - 1 → h.2.1 31 e = 1 → h.2.1 33 e = h.2.1 94 e
theorem mm_ep8_sm {h h2 : mH} (T : mm_ep8 h) (e1 : ∀ j, h2.2.1 31 j = h.2.1 31 j) (e3 : ∀ j, h2.2.1 33 j = h.2.1 33 j) (e4 : ∀ j, h2.2.1 94 j = h.2.1 94 j) (n : h2.1 30 6 = h.1 30 6) : mm_ep8 h2 := fun e x y q => by
  rw [e1] at q
  rw [e3, e4]; exact T e x (by omega) q
theorem mm_ep8_nil {h : mH} (n : h.1 30 6 = 0) : mm_ep8 h := fun c x y => absurd (Int.le_trans x y) (by omega)
theorem mm_ep8_event {h h1 h2 : mH} {f f' n n' k v v' : Int} (T : mm_ep8 h) (u1 : mm_up h h1 31 n k f) (e1 : ∀ j, h2.2.1 31 j = h1.2.1 31 j) (u3 : mm_up h h1 33 n v f) (e3 : ∀ j, h2.2.1 33 j = h1.2.1 33 j) (w : mm_up h1 h2 94 n' v' f') (e4 : ∀ j, h1.2.1 94 j = h.2.1 94 j) (hn : n = h.1 30 6) (hn' : n' = h.1 30 6) (hv : v = v') (hf : f = 1 ↔ f' = 1) (m : (f = 1 ∧ h2.1 30 6 = h.1 30 6 + 1) ∨ (f ≠ 1 ∧ h2.1 30 6 = h.1 30 6)) : mm_ep8 h2 := fun j x y q => by
  rw [e1, u1 j, hn] at q
  rw [e3, u3 j, w j, e4, hn, hn']
  by_cases z : j = h.1 30 6 ∧ f = 1
  · rw [if_pos z, if_pos ⟨z.1, hf.mp z.2⟩]; exact hv
  · rw [if_neg z] at q
    rw [if_neg z, if_neg (fun y => z ⟨y.1, hf.mpr y.2⟩)]
    exact T j x (by omega) q
theorem mm_dr8 {h h1 h2 : mH} {c s f r r' : Int} (X9 : mm_dx9 h h1 c s f r) (X : mm_dx8 h h1 f r) (Y : mm_dy8 h1 h2 f r') (er : r = r') (T : mm_ep8 h) (E : mm_eq h 34 95 (h.1 30 6 - 1)) (e94 : ∀ j, h1.2.1 94 j = h.2.1 94 j) (e95 : ∀ j, h1.2.1 95 j = h.2.1 95 j) (k1 : ∀ j, h2.2.1 31 j = h1.2.1 31 j) (k3 : ∀ j, h2.2.1 33 j = h1.2.1 33 j) (k4 : ∀ j, h2.2.1 34 j = h1.2.1 34 j) (hev : h1.1 66 40 = h.1 30 6) (pr : mm_pr h1 1 = h.2.1 44 1) (hr : (r = -1 ∧ h2.1 30 6 = h.1 30 6) ∨ (0 ≤ r ∧ h2.1 30 6 = h.1 30 6 + r)) : mm_ep8 h2 ∧ mm_eq h2 34 95 (h2.1 30 6 - 1) := by
  subst er
  obtain ⟨W, _, t31, _⟩ := X9
  obtain ⟨x3, x4⟩ := X
  obtain ⟨y3, y4⟩ := Y
  rw [hev] at y3 y4
  rw [pr] at y4
  refine ⟨fun e e0 e1 q => ?_, ?_⟩
  · rw [k1, t31 e] at q
    by_cases z : h.1 30 6 ≤ e ∧ e < h.1 30 6 + r
    · rw [if_pos z] at q; exact absurd (show (0 : Int) = 1 from q) (by decide)
    · rw [if_neg z] at q
      rw [k3, x3 e, if_neg z, y3 e, if_neg z, e94]
      exact T e e0 (by omega) q
  · exact mm_eq_tp2 E x4 e95 y4 k4 rfl rfl (fun _ _ _ => rfl) (by omega) (by omega)

set_option maxRecDepth 100000 in
set_option maxHeartbeats 4000000 in
theorem c_X8_setDefaults_44_q (l : Launch) (hl : l.stackTraces = false) (d : Nat) (hd : 0 ≤ d) (h : mH) (i0 : mm_inv h) : mm_Met l d yX8_setDefaults cX8_setDefaults 1 none [mR 44] h (mm_pv fun h2 => mm_inv h2 ∧ mm_fr [] [44] h h2 ∧ h2.2.1 44 0 = 3600 ∧ h2.2.1 44 1 = 60 ∧ h2.2.1 44 2 = 900) mm_nx 0 0 := by
  refine mm_ofW (ls := [mR 44]) hl (by decide) rfl (Nat.le_of_ble_eq_true rfl) ?_
  intro x hxl C T hnm htb
  subst hxl
  have f0 : mm_fr [] [44] h h := mm_fr_rf
  refine mm_aload_n C (mm_dec dk_X8_setDefaults 0 rfl) rfl ?_
  refine mm_iconst C (mm_dec dk_X8_setDefaults 1 rfl) ⟨by decide, by decide⟩ ?_
  refine mm_sipush C (mm_dec dk_X8_setDefaults 2 rfl) ⟨by decide, by decide⟩ ?_
  refine mm_iast C (mm_dec dk_X8_setDefaults 3 rfl) rfl (by omega) (by omega) ?_
  have i1 : mm_inv (mm_pa h 44 0 3600) := mm_inv_pa i0 (show -2147483648 ≤ 3600 ∧ 3600 ≤ 2147483647 from ⟨by omega, by omega⟩)
  have f1 : mm_fr [] [44] h (mm_pa h 44 0 3600) := mm_fr_pa f0 (by decide)
  obtain ⟨h1, eh1⟩ : ∃ z, z = mm_pa h 44 0 3600 := ⟨_, rfl⟩
  rw [← eh1] at i1 f1 ⊢
  refine mm_aload_n C (mm_dec dk_X8_setDefaults 4 rfl) rfl ?_
  refine mm_iconst C (mm_dec dk_X8_setDefaults 5 rfl) ⟨by decide, by decide⟩ ?_
  refine mm_bipush C (mm_dec dk_X8_setDefaults 6 rfl) ⟨by decide, by decide⟩ ?_
  refine mm_iast C (mm_dec dk_X8_setDefaults 7 rfl) rfl (by omega) (by omega) ?_
  have i2 : mm_inv (mm_pa h1 44 1 60) := mm_inv_pa i1 (show -2147483648 ≤ 60 ∧ 60 ≤ 2147483647 from ⟨by omega, by omega⟩)
  have f2 : mm_fr [] [44] h (mm_pa h1 44 1 60) := mm_fr_pa f1 (by decide)
  obtain ⟨h2, eh2⟩ : ∃ z, z = mm_pa h1 44 1 60 := ⟨_, rfl⟩
  rw [← eh2] at i2 f2 ⊢
  refine mm_aload_n C (mm_dec dk_X8_setDefaults 8 rfl) rfl ?_
  refine mm_iconst C (mm_dec dk_X8_setDefaults 9 rfl) ⟨by decide, by decide⟩ ?_
  refine mm_sipush C (mm_dec dk_X8_setDefaults 10 rfl) ⟨by decide, by decide⟩ ?_
  refine mm_iast C (mm_dec dk_X8_setDefaults 11 rfl) rfl (by omega) (by omega) ?_
  have i3 : mm_inv (mm_pa h2 44 2 900) := mm_inv_pa i2 (show -2147483648 ≤ 900 ∧ 900 ≤ 2147483647 from ⟨by omega, by omega⟩)
  have f3 : mm_fr [] [44] h (mm_pa h2 44 2 900) := mm_fr_pa f2 (by decide)
  obtain ⟨h3, eh3⟩ : ∃ z, z = mm_pa h2 44 2 900 := ⟨_, rfl⟩
  rw [← eh3] at i3 f3 ⊢
  exact mm_vret C T (mm_dec dk_X8_setDefaults 12 rfl) (by decide : 0 ≤ 0) (by decide : 0 ≤ 0) ⟨rfl, ⟨i3, f3, by rw [eh3, mm_pa_j 44 (by decide), eh2, mm_pa_j 44 (by decide), eh1]; exact mm_pa_same _ _ _ _, by rw [eh3, mm_pa_j 44 (by decide), eh2]; exact mm_pa_same _ _ _ _, by rw [eh3]; exact mm_pa_same _ _ _ _⟩⟩
set_option maxRecDepth 100000 in
set_option maxHeartbeats 4000000 in
theorem c_X8_clear_q (l : Launch) (hl : l.stackTraces = false) (d : Nat) (hd : 1 ≤ d) (h : mH) (i0 : mm_inv h) : mm_Met l d yX8_clear cX8_clear 1 none [mR 42] h (mm_pv fun h2 => mm_inv h2 ∧ mm_fr [(42, 3)] [44] h h2 ∧ h2.2.1 44 0 = 3600 ∧ h2.2.1 44 1 = 60 ∧ h2.2.1 44 2 = 900) mm_nx 0 0 := by
  refine mm_ofW (ls := [mR 42]) hl (by decide) rfl (Nat.le_of_ble_eq_true rfl) ?_
  intro x hxl C T hnm htb
  subst hxl
  have C1 := mm_OK_le (d' := d - 1 + 1) (by omega) C
  have f0 : mm_fr [(42, 3)] [44] h h := mm_fr_rf
  refine mm_aload_n C (mm_dec dk_X8_clear 0 rfl) rfl ?_
  refine mm_iconst C (mm_dec dk_X8_clear 1 rfl) ⟨by decide, by decide⟩ ?_
  refine mm_puti C fl_X8_21 (mm_dec dk_X8_clear 2 rfl) rfl rfl rfl (Or.inl ⟨rfl, rfl⟩) ?_
  have i1 : mm_inv (mm_pf h 42 3 0) := mm_inv_pf i0 (show 0 ≤ 0 ∧ 0 ≤ 500 from ⟨by omega, by omega⟩) (by decide)
  have f1 : mm_fr [(42, 3)] [44] h (mm_pf h 42 3 0) := mm_fr_pf f0 (by decide)
  obtain ⟨h1, eh1⟩ : ∃ z, z = mm_pf h 42 3 0 := ⟨_, rfl⟩
  rw [← eh1] at i1 f1 ⊢
  have qh1 : h1.1 42 3 = 0 := by rw [eh1]; exact mm_pf_same _ _ _ _
  refine mm_aload_n C (mm_dec dk_X8_clear 3 rfl) rfl ?_
  refine mm_getr (t := 44) C fl_X8_15 (mm_dec dk_X8_clear 4 rfl) rfl rfl (mm_ref i1 rfl) ?_
  refine mm_cSv (rest := []) C1 es_X8_35 (mm_dec dk_X8_clear 5 rfl) (c_X8_setDefaults_44_q x.2.1 hl (d - 1) (by omega) h1 i1 ) rfl (Nat.le_of_ble_eq_true rfl) ⟨by decide, by decide⟩ rfl (fun h9c hp9 => ?_) (fun _ _ q => q.elim)
  obtain ⟨i9c, g9c, y9_0, y9_1, y9_2⟩ := hp9
  have f9c : mm_fr [(42, 3)] [44] h h9c := mm_fr_tr f1 g9c (by decide +kernel)
  have q9c_2 : h9c.1 42 3 = h1.1 42 3 := g9c.1 42 3 (by decide)
  exact mm_vret C T (mm_dec dk_X8_clear 6 rfl) (by decide : 0 ≤ 0) (by decide : 0 ≤ 0) ⟨rfl, ⟨i9c, f9c, by exact y9_0, by exact y9_1, by exact y9_2⟩⟩
set_option maxRecDepth 100000 in
set_option maxHeartbeats 4000000 in
theorem c_X6_clear_q (l : Launch) (hl : l.stackTraces = false) (d : Nat) (hd : 0 ≤ d) (h : mH) (i0 : mm_inv h) : mm_Met l d yX6_clear cX6_clear 1 none [mR 30] h (mm_pv fun h2 => mm_inv h2 ∧ mm_fr [(30, 6), (30, 12), (30, 13)] [] h h2 ∧ h2.1 30 6 = 0 ∧ h2.1 30 12 = 0) mm_nx 0 0 := by
  refine mm_ofW (ls := [mR 30]) hl (by decide) rfl (Nat.le_of_ble_eq_true rfl) ?_
  intro x hxl C T hnm htb
  subst hxl
  have f0 : mm_fr [(30, 6), (30, 12), (30, 13)] [] h h := mm_fr_rf
  have g1 : 0 ≤ h.1 30 6 ∧ h.1 30 6 ≤ 500 := i0.1 30 6
  have g2 : 0 ≤ h.1 30 12 ∧ h.1 30 12 ≤ 40 := i0.1 30 12
  refine mm_aload_n C (mm_dec dk_X6_clear 0 rfl) rfl ?_
  refine mm_iconst C (mm_dec dk_X6_clear 1 rfl) ⟨by decide, by decide⟩ ?_
  refine mm_puti C fl_X6_30 (mm_dec dk_X6_clear 2 rfl) rfl rfl rfl (Or.inl ⟨rfl, rfl⟩) ?_
  have i1 : mm_inv (mm_pf h 30 6 0) := mm_inv_pf i0 (show 0 ≤ 0 ∧ 0 ≤ 500 from ⟨by omega, by omega⟩) (by decide)
  have f1 : mm_fr [(30, 6), (30, 12), (30, 13)] [] h (mm_pf h 30 6 0) := mm_fr_pf f0 (by decide)
  obtain ⟨h1, eh1⟩ : ∃ z, z = mm_pf h 30 6 0 := ⟨_, rfl⟩
  rw [← eh1] at i1 f1 ⊢
  have qh1 : h1.1 30 6 = 0 := by rw [eh1]; exact mm_pf_same _ _ _ _
  have qh1_3 : h1.1 30 12 = h.1 30 12 := by rw [eh1]; exact mm_pf_ne _ _ (by decide)
  refine mm_aload_n C (mm_dec dk_X6_clear 3 rfl) rfl ?_
  refine mm_iconst C (mm_dec dk_X6_clear 4 rfl) ⟨by decide, by decide⟩ ?_
  refine mm_puti C fl_X6_49 (mm_dec dk_X6_clear 5 rfl) rfl rfl rfl (Or.inl ⟨rfl, rfl⟩) ?_
  have i2 : mm_inv (mm_pf h1 30 12 0) := mm_inv_pf i1 (show 0 ≤ 0 ∧ 0 ≤ 40 from ⟨by omega, by omega⟩) (by decide)
  have f2 : mm_fr [(30, 6), (30, 12), (30, 13)] [] h (mm_pf h1 30 12 0) := mm_fr_pf f1 (by decide)
  obtain ⟨h2, eh2⟩ : ∃ z, z = mm_pf h1 30 12 0 := ⟨_, rfl⟩
  rw [← eh2] at i2 f2 ⊢
  have qh2 : h2.1 30 12 = 0 := by rw [eh2]; exact mm_pf_same _ _ _ _
  have qh2_4 : h2.1 30 6 = h1.1 30 6 := by rw [eh2]; exact mm_pf_ne _ _ (by decide)
  refine mm_aload_n C (mm_dec dk_X6_clear 6 rfl) rfl ?_
  refine mm_iconst C (mm_dec dk_X6_clear 7 rfl) ⟨by decide, by decide⟩ ?_
  refine mm_puti C fl_X6_52 (mm_dec dk_X6_clear 8 rfl) rfl rfl rfl (Or.inl ⟨rfl, rfl⟩) ?_
  have i3 : mm_inv (mm_pf h2 30 13 0) := mm_inv_pf i2 (show -2147483648 ≤ 0 ∧ 0 ≤ 2147483647 from ⟨by omega, by omega⟩) (by decide)
  have f3 : mm_fr [(30, 6), (30, 12), (30, 13)] [] h (mm_pf h2 30 13 0) := mm_fr_pf f2 (by decide)
  obtain ⟨h3, eh3⟩ : ∃ z, z = mm_pf h2 30 13 0 := ⟨_, rfl⟩
  rw [← eh3] at i3 f3 ⊢
  have qh3 : h3.1 30 13 = 0 := by rw [eh3]; exact mm_pf_same _ _ _ _
  have qh3_5 : h3.1 30 6 = h2.1 30 6 := by rw [eh3]; exact mm_pf_ne _ _ (by decide)
  have qh3_6 : h3.1 30 12 = h2.1 30 12 := by rw [eh3]; exact mm_pf_ne _ _ (by decide)
  exact mm_vret C T (mm_dec dk_X6_clear 9 rfl) (by decide : 0 ≤ 0) (by decide : 0 ≤ 0) ⟨rfl, ⟨i3, f3, by omega, by omega⟩⟩
set_option maxRecDepth 100000 in
set_option maxHeartbeats 4000000 in
theorem c_X2_open_q (l : Launch) (hl : l.stackTraces = false) (d : Nat) (hd : 0 ≤ d) (h : mH) (i0 : mm_inv h) (p1 : Int) (bp1 : 0 ≤ p1 ∧ p1 ≤ 1) (u0 : (h.1 14 8) ≤ 7) : mm_Met l d yX2_open cX2_open 2 (some .int) [mR 14, mI p1] h (mm_pi fun r h2 => (0 ≤ r ∧ r ≤ 7) ∧ mm_inv h2 ∧ mm_fr [(14, 8)] [17, 18, 19, 20] h h2 ∧ h2.1 14 8 = h.1 14 8 + 1 ∧ r = h.1 14 8 ∧ mm_up h h2 17 (h.1 14 8) p1 1 ∧ mm_up h h2 18 (h.1 14 8) 0 1 ∧ mm_up h h2 19 (h.1 14 8) 0 1 ∧ mm_up h h2 20 (h.1 14 8) 0 1) mm_nx 0 0 := by
  refine mm_ofW (ls := [mR 14, mI p1]) hl (by decide) rfl (Nat.le_of_ble_eq_true rfl) ?_
  intro x hxl C T hnm htb
  subst hxl
  refine mm_rng (fun hr _ => ?_)
  have ap1 : -2147483648 ≤ p1 ∧ p1 < 2147483648 := mm_ok_at hr (i := 1) rfl
  have f0 : mm_fr [(14, 8)] [17, 18, 19, 20] h h := mm_fr_rf
  have g1 : 0 ≤ h.1 14 8 ∧ h.1 14 8 ≤ 8 := i0.1 14 8
  refine mm_aload_n C (mm_dec dk_X2_open 0 rfl) rfl ?_
  refine mm_getr (t := 17) C fl_X2_18 (mm_dec dk_X2_open 1 rfl) rfl rfl (mm_ref i0 rfl) ?_
  refine mm_aload_n C (mm_dec dk_X2_open 2 rfl) rfl ?_
  refine mm_geti C fl_X2_38 (mm_dec dk_X2_open 3 rfl) rfl rfl (Or.inl rfl) ?_
  refine mm_iload_n C (mm_dec dk_X2_open 4 rfl) rfl ?_
  refine mm_zast C (mm_dec dk_X2_open 5 rfl) rfl (by omega) (by omega) (by omega) ?_
  have i1 : mm_inv (mm_pa h 17 (h.1 14 8) p1) := mm_inv_pa i0 (show 0 ≤ p1 ∧ p1 ≤ 1 from ⟨by omega, by omega⟩)
  have f1 : mm_fr [(14, 8)] [17, 18, 19, 20] h (mm_pa h 17 (h.1 14 8) p1) := mm_fr_pa f0 (by decide)
  obtain ⟨h1, eh1⟩ : ∃ z, z = mm_pa h 17 (h.1 14 8) p1 := ⟨_, rfl⟩
  rw [← eh1] at i1 f1 ⊢
  have qh1_2 : h1.1 14 8 = h.1 14 8 := by rw [eh1]; rfl
  refine mm_aload_n C (mm_dec dk_X2_open 6 rfl) rfl ?_
  refine mm_getr (t := 18) C fl_X2_22 (mm_dec dk_X2_open 7 rfl) rfl rfl (mm_ref i1 rfl) ?_
  refine mm_aload_n C (mm_dec dk_X2_open 8 rfl) rfl ?_
  refine mm_geti C fl_X2_38 (mm_dec dk_X2_open 9 rfl) rfl rfl (Or.inl rfl) ?_
  refine mm_iconst C (mm_dec dk_X2_open 10 rfl) ⟨by decide, by decide⟩ ?_
  refine mm_zast C (mm_dec dk_X2_open 11 rfl) rfl (by omega) (by omega) (by omega) ?_
  have i2 : mm_inv (mm_pa h1 18 (h1.1 14 8) 0) := mm_inv_pa i1 (show 0 ≤ 0 ∧ 0 ≤ 1 from ⟨by omega, by omega⟩)
  have f2 : mm_fr [(14, 8)] [17, 18, 19, 20] h (mm_pa h1 18 (h1.1 14 8) 0) := mm_fr_pa f1 (by decide)
  obtain ⟨h2, eh2⟩ : ∃ z, z = mm_pa h1 18 (h1.1 14 8) 0 := ⟨_, rfl⟩
  rw [← eh2] at i2 f2 ⊢
  have qh2_3 : h2.1 14 8 = h1.1 14 8 := by rw [eh2]; rfl
  refine mm_aload_n C (mm_dec dk_X2_open 12 rfl) rfl ?_
  refine mm_getr (t := 19) C fl_X2_25 (mm_dec dk_X2_open 13 rfl) rfl rfl (mm_ref i2 rfl) ?_
  refine mm_aload_n C (mm_dec dk_X2_open 14 rfl) rfl ?_
  refine mm_geti C fl_X2_38 (mm_dec dk_X2_open 15 rfl) rfl rfl (Or.inl rfl) ?_
  refine mm_iconst C (mm_dec dk_X2_open 16 rfl) ⟨by decide, by decide⟩ ?_
  refine mm_iast C (mm_dec dk_X2_open 17 rfl) rfl (by omega) (by omega) ?_
  have i3 : mm_inv (mm_pa h2 19 (h2.1 14 8) 0) := mm_inv_pa i2 (show 0 ≤ 0 ∧ 0 ≤ 12 from ⟨by omega, by omega⟩)
  have f3 : mm_fr [(14, 8)] [17, 18, 19, 20] h (mm_pa h2 19 (h2.1 14 8) 0) := mm_fr_pa f2 (by decide)
  obtain ⟨h3, eh3⟩ : ∃ z, z = mm_pa h2 19 (h2.1 14 8) 0 := ⟨_, rfl⟩
  rw [← eh3] at i3 f3 ⊢
  have qh3_4 : h3.1 14 8 = h2.1 14 8 := by rw [eh3]; rfl
  refine mm_aload_n C (mm_dec dk_X2_open 18 rfl) rfl ?_
  refine mm_getr (t := 20) C fl_X2_28 (mm_dec dk_X2_open 19 rfl) rfl rfl (mm_ref i3 rfl) ?_
  refine mm_aload_n C (mm_dec dk_X2_open 20 rfl) rfl ?_
  refine mm_geti C fl_X2_38 (mm_dec dk_X2_open 21 rfl) rfl rfl (Or.inl rfl) ?_
  refine mm_iconst C (mm_dec dk_X2_open 22 rfl) ⟨by decide, by decide⟩ ?_
  refine mm_iast C (mm_dec dk_X2_open 23 rfl) rfl (by omega) (by omega) ?_
  have i4 : mm_inv (mm_pa h3 20 (h3.1 14 8) 0) := mm_inv_pa i3 (show -2147483648 ≤ 0 ∧ 0 ≤ 2147483647 from ⟨by omega, by omega⟩)
  have f4 : mm_fr [(14, 8)] [17, 18, 19, 20] h (mm_pa h3 20 (h3.1 14 8) 0) := mm_fr_pa f3 (by decide)
  obtain ⟨h4, eh4⟩ : ∃ z, z = mm_pa h3 20 (h3.1 14 8) 0 := ⟨_, rfl⟩
  rw [← eh4] at i4 f4 ⊢
  have qh4_5 : h4.1 14 8 = h3.1 14 8 := by rw [eh4]; rfl
  refine mm_aload_n C (mm_dec dk_X2_open 24 rfl) rfl ?_
  refine mm_dup C (mm_dec dk_X2_open 25 rfl) (show (2 : Nat) ≠ 1 by decide) ?_
  refine mm_geti C fl_X2_38 (mm_dec dk_X2_open 26 rfl) rfl rfl (Or.inl rfl) ?_
  refine mm_iconst C (mm_dec dk_X2_open 27 rfl) ⟨by decide, by decide⟩ ?_
  refine mm_iadd C (mm_dec dk_X2_open 28 rfl) ⟨by omega, by omega⟩ ?_
  refine mm_puti C fl_X2_38 (mm_dec dk_X2_open 29 rfl) rfl rfl rfl (Or.inl ⟨rfl, rfl⟩) ?_
  have i5 : mm_inv (mm_pf h4 14 8 ((h4.1 14 8) + 1)) := mm_inv_pf i4 (show 0 ≤ ((h4.1 14 8) + 1) ∧ ((h4.1 14 8) + 1) ≤ 8 from ⟨by omega, by omega⟩) (by decide)
  have f5 : mm_fr [(14, 8)] [17, 18, 19, 20] h (mm_pf h4 14 8 ((h4.1 14 8) + 1)) := mm_fr_pf f4 (by decide)
  obtain ⟨h5, eh5⟩ : ∃ z, z = mm_pf h4 14 8 ((h4.1 14 8) + 1) := ⟨_, rfl⟩
  rw [← eh5] at i5 f5 ⊢
  have qh5 : h5.1 14 8 = ((h4.1 14 8) + 1) := by rw [eh5]; exact mm_pf_same _ _ _ _
  refine mm_aload_n C (mm_dec dk_X2_open 30 rfl) rfl ?_
  refine mm_geti C fl_X2_38 (mm_dec dk_X2_open 31 rfl) rfl rfl (Or.inl rfl) ?_
  refine mm_iconst C (mm_dec dk_X2_open 32 rfl) ⟨by decide, by decide⟩ ?_
  refine mm_isub C (mm_dec dk_X2_open 33 rfl) ⟨by omega, by omega⟩ ?_
  exact mm_iret C T (mm_dec dk_X2_open 34 rfl) (by decide : 0 ≤ 0) (by decide : 0 ≤ 0) ⟨_, rfl, ⟨⟨by omega, by omega⟩, i5, f5, by omega, by omega, by exact mm_up_pav (fun _ => rfl) eh1 (fun _ => ((mm_sm_pf 17 eh5 _).trans ((mm_sm_pa 17 eh4 (by decide) _).trans ((mm_sm_pa 17 eh3 (by decide) _).trans (mm_sm_pa 17 eh2 (by decide) _))))) (by omega) (by omega) rfl, by exact mm_up_pav (fun _ => (mm_sm_pa 18 eh1 (by decide) _)) eh2 (fun _ => ((mm_sm_pf 18 eh5 _).trans ((mm_sm_pa 18 eh4 (by decide) _).trans (mm_sm_pa 18 eh3 (by decide) _)))) (by omega) (by omega) rfl, by exact mm_up_pav (fun _ => ((mm_sm_pa 19 eh2 (by decide) _).trans (mm_sm_pa 19 eh1 (by decide) _))) eh3 (fun _ => ((mm_sm_pf 19 eh5 _).trans (mm_sm_pa 19 eh4 (by decide) _))) (by omega) (by omega) rfl, by exact mm_up_pav (fun _ => ((mm_sm_pa 20 eh3 (by decide) _).trans ((mm_sm_pa 20 eh2 (by decide) _).trans (mm_sm_pa 20 eh1 (by decide) _)))) eh4 (fun _ => (mm_sm_pf 20 eh5 _)) (by omega) (by omega) rfl⟩⟩
set_option maxRecDepth 100000 in
set_option maxHeartbeats 4000000 in
theorem c_X2_clear_q (l : Launch) (hl : l.stackTraces = false) (d : Nat) (hd : 0 ≤ d) (h : mH) (i0 : mm_inv h) : mm_Met l d yX2_clear cX2_clear 1 none [mR 14] h (mm_pv fun h2 => mm_inv h2 ∧ mm_fr [(14, 7), (14, 8)] [] h h2 ∧ h2.1 14 8 = 0 ∧ h2.1 14 7 = 0) mm_nx 0 0 := by
  refine mm_ofW (ls := [mR 14]) hl (by decide) rfl (Nat.le_of_ble_eq_true rfl) ?_
  intro x hxl C T hnm htb
  subst hxl
  have f0 : mm_fr [(14, 7), (14, 8)] [] h h := mm_fr_rf
  have g1 : 0 ≤ h.1 14 8 ∧ h.1 14 8 ≤ 8 := i0.1 14 8
  have g2 : 0 ≤ h.1 14 7 ∧ h.1 14 7 ≤ 20 := i0.1 14 7
  refine mm_aload_n C (mm_dec dk_X2_clear 0 rfl) rfl ?_
  refine mm_iconst C (mm_dec dk_X2_clear 1 rfl) ⟨by decide, by decide⟩ ?_
  refine mm_puti C fl_X2_34 (mm_dec dk_X2_clear 2 rfl) rfl rfl rfl (Or.inl ⟨rfl, rfl⟩) ?_
  have i1 : mm_inv (mm_pf h 14 7 0) := mm_inv_pf i0 (show 0 ≤ 0 ∧ 0 ≤ 20 from ⟨by omega, by omega⟩) (by decide)
  have f1 : mm_fr [(14, 7), (14, 8)] [] h (mm_pf h 14 7 0) := mm_fr_pf f0 (by decide)
  obtain ⟨h1, eh1⟩ : ∃ z, z = mm_pf h 14 7 0 := ⟨_, rfl⟩
  rw [← eh1] at i1 f1 ⊢
  have qh1 : h1.1 14 7 = 0 := by rw [eh1]; exact mm_pf_same _ _ _ _
  have qh1_3 : h1.1 14 8 = h.1 14 8 := by rw [eh1]; exact mm_pf_ne _ _ (by decide)
  refine mm_aload_n C (mm_dec dk_X2_clear 3 rfl) rfl ?_
  refine mm_iconst C (mm_dec dk_X2_clear 4 rfl) ⟨by decide, by decide⟩ ?_
  refine mm_puti C fl_X2_38 (mm_dec dk_X2_clear 5 rfl) rfl rfl rfl (Or.inl ⟨rfl, rfl⟩) ?_
  have i2 : mm_inv (mm_pf h1 14 8 0) := mm_inv_pf i1 (show 0 ≤ 0 ∧ 0 ≤ 8 from ⟨by omega, by omega⟩) (by decide)
  have f2 : mm_fr [(14, 7), (14, 8)] [] h (mm_pf h1 14 8 0) := mm_fr_pf f1 (by decide)
  obtain ⟨h2, eh2⟩ : ∃ z, z = mm_pf h1 14 8 0 := ⟨_, rfl⟩
  rw [← eh2] at i2 f2 ⊢
  have qh2 : h2.1 14 8 = 0 := by rw [eh2]; exact mm_pf_same _ _ _ _
  have qh2_4 : h2.1 14 7 = h1.1 14 7 := by rw [eh2]; exact mm_pf_ne _ _ (by decide)
  exact mm_vret C T (mm_dec dk_X2_clear 6 rfl) (by decide : 0 ≤ 0) (by decide : 0 ≤ 0) ⟨rfl, ⟨i2, f2, by omega, by omega⟩⟩
set_option maxRecDepth 100000 in
set_option maxHeartbeats 4000000 in
theorem c_X9_clear_q (l : Launch) (hl : l.stackTraces = false) (d : Nat) (hd : 0 ≤ d) (h : mH) (i0 : mm_inv h) : mm_Met l d yX9_clear cX9_clear 1 none [mR 22] h (mm_pv fun h2 => mm_inv h2 ∧ mm_fr [(22, 8), (22, 9)] [] h h2 ∧ h2.1 22 8 = 0 ∧ h2.1 22 9 = 0) mm_nx 0 0 := by
  refine mm_ofW (ls := [mR 22]) hl (by decide) rfl (Nat.le_of_ble_eq_true rfl) ?_
  intro x hxl C T hnm htb
  subst hxl
  have f0 : mm_fr [(22, 8), (22, 9)] [] h h := mm_fr_rf
  have g1 : 0 ≤ h.1 22 8 ∧ h.1 22 8 ≤ 40 := i0.1 22 8
  have g2 : 0 ≤ h.1 22 9 ∧ h.1 22 9 ≤ 10 := i0.1 22 9
  refine mm_aload_n C (mm_dec dk_X9_clear 0 rfl) rfl ?_
  refine mm_iconst C (mm_dec dk_X9_clear 1 rfl) ⟨by decide, by decide⟩ ?_
  refine mm_puti C fl_X9_34 (mm_dec dk_X9_clear 2 rfl) rfl rfl rfl (Or.inl ⟨rfl, rfl⟩) ?_
  have i1 : mm_inv (mm_pf h 22 8 0) := mm_inv_pf i0 (show 0 ≤ 0 ∧ 0 ≤ 40 from ⟨by omega, by omega⟩) (by decide)
  have f1 : mm_fr [(22, 8), (22, 9)] [] h (mm_pf h 22 8 0) := mm_fr_pf f0 (by decide)
  obtain ⟨h1, eh1⟩ : ∃ z, z = mm_pf h 22 8 0 := ⟨_, rfl⟩
  rw [← eh1] at i1 f1 ⊢
  have qh1 : h1.1 22 8 = 0 := by rw [eh1]; exact mm_pf_same _ _ _ _
  have qh1_3 : h1.1 22 9 = h.1 22 9 := by rw [eh1]; exact mm_pf_ne _ _ (by decide)
  refine mm_aload_n C (mm_dec dk_X9_clear 3 rfl) rfl ?_
  refine mm_iconst C (mm_dec dk_X9_clear 4 rfl) ⟨by decide, by decide⟩ ?_
  refine mm_puti C fl_X9_38 (mm_dec dk_X9_clear 5 rfl) rfl rfl rfl (Or.inl ⟨rfl, rfl⟩) ?_
  have i2 : mm_inv (mm_pf h1 22 9 0) := mm_inv_pf i1 (show 0 ≤ 0 ∧ 0 ≤ 10 from ⟨by omega, by omega⟩) (by decide)
  have f2 : mm_fr [(22, 8), (22, 9)] [] h (mm_pf h1 22 9 0) := mm_fr_pf f1 (by decide)
  obtain ⟨h2, eh2⟩ : ∃ z, z = mm_pf h1 22 9 0 := ⟨_, rfl⟩
  rw [← eh2] at i2 f2 ⊢
  have qh2 : h2.1 22 9 = 0 := by rw [eh2]; exact mm_pf_same _ _ _ _
  have qh2_4 : h2.1 22 8 = h1.1 22 8 := by rw [eh2]; exact mm_pf_ne _ _ (by decide)
  exact mm_vret C T (mm_dec dk_X9_clear 6 rfl) (by decide : 0 ≤ 0) (by decide : 0 ≤ 0) ⟨rfl, ⟨i2, f2, by omega, by omega⟩⟩
set_option maxRecDepth 100000 in
set_option maxHeartbeats 4000000 in
theorem c_X2_take_q (l : Launch) (hl : l.stackTraces = false) (d : Nat) (hd : 0 ≤ d) (h : mH) (i0 : mm_inv h) (p1 : Int) (bp1 : 0 ≤ p1 ∧ p1 ≤ 7) : mm_Met l d yX2_take cX2_take 2 none [mR 14, mI p1] h (mm_pv fun h2 => mm_inv h2 ∧ mm_fr [] [18] h h2 ∧ mm_up h h2 18 p1 1 1) mm_nx 0 0 := by
  refine mm_ofW (ls := [mR 14, mI p1]) hl (by decide) rfl (Nat.le_of_ble_eq_true rfl) ?_
  intro x hxl C T hnm htb
  subst hxl
  refine mm_rng (fun hr _ => ?_)
  have ap1 : -2147483648 ≤ p1 ∧ p1 < 2147483648 := mm_ok_at hr (i := 1) rfl
  have f0 : mm_fr [] [18] h h := mm_fr_rf
  refine mm_aload_n C (mm_dec dk_X2_take 0 rfl) rfl ?_
  refine mm_getr (t := 18) C fl_X2_22 (mm_dec dk_X2_take 1 rfl) rfl rfl (mm_ref i0 rfl) ?_
  refine mm_iload_n C (mm_dec dk_X2_take 2 rfl) rfl ?_
  refine mm_iconst C (mm_dec dk_X2_take 3 rfl) ⟨by decide, by decide⟩ ?_
  refine mm_zast C (mm_dec dk_X2_take 4 rfl) rfl (by omega) (by omega) (by omega) ?_
  have i1 : mm_inv (mm_pa h 18 p1 1) := mm_inv_pa i0 (show 0 ≤ 1 ∧ 1 ≤ 1 from ⟨by omega, by omega⟩)
  have f1 : mm_fr [] [18] h (mm_pa h 18 p1 1) := mm_fr_pa f0 (by decide)
  obtain ⟨h1, eh1⟩ : ∃ z, z = mm_pa h 18 p1 1 := ⟨_, rfl⟩
  rw [← eh1] at i1 f1 ⊢
  exact mm_vret C T (mm_dec dk_X2_take 5 rfl) (by decide : 0 ≤ 0) (by decide : 0 ≤ 0) ⟨rfl, ⟨i1, f1, by exact mm_up_pav (fun _ => rfl) eh1 (fun _ => rfl) (by omega) (by omega) rfl⟩⟩
set_option maxRecDepth 100000 in
set_option maxHeartbeats 4000000 in
theorem c_X9_enter_q (l : Launch) (hl : l.stackTraces = false) (d : Nat) (hd : 1 ≤ d) (h : mH) (i0 : mm_inv h) (p1 : Int) (p2 : Int) (p3 : Int) (bp1 : 0 ≤ p1 ∧ p1 ≤ 7) (bp2 : 0 ≤ p2 ∧ p2 ≤ 9) (bp3 : 0 ≤ p3 ∧ p3 ≤ 80) (u0 : (h.1 22 8) ≤ 39) : mm_Met l d yX9_enter cX9_enter 4 (some .int) [mR 22, mI p1, mI p2, mI p3] h (mm_pi fun r h2 => (0 ≤ r ∧ r ≤ 39) ∧ mm_inv h2 ∧ mm_fr [(22, 8)] [18, 23, 24, 25, 26, 27, 28] h h2 ∧ h2.1 22 8 = h.1 22 8 + 1 ∧ r = h.1 22 8 ∧ mm_up h h2 18 p1 1 1 ∧ mm_up h h2 23 (h.1 22 8) p1 1 ∧ mm_up h h2 25 (h.1 22 8) p3 1 ∧ mm_up h h2 28 (h.1 22 8) 0 1 ∧ mm_up h h2 24 (h.1 22 8) p2 1 ∧ mm_up h h2 27 (h.1 22 8) (-1) 1) mm_nx 0 0 := by
  refine mm_ofW (ls := [mR 22, mI p1, mI p2, mI p3]) hl (by decide) rfl (Nat.le_of_ble_eq_true rfl) ?_
  intro x hxl C T hnm htb
  subst hxl
  have C1 := mm_OK_le (d' := d - 1 + 1) (by omega) C
  refine mm_rng (fun hr _ => ?_)
  have ap1 : -2147483648 ≤ p1 ∧ p1 < 2147483648 := mm_ok_at hr (i := 1) rfl
  have ap2 : -2147483648 ≤ p2 ∧ p2 < 2147483648 := mm_ok_at hr (i := 2) rfl
  have ap3 : -2147483648 ≤ p3 ∧ p3 < 2147483648 := mm_ok_at hr (i := 3) rfl
  have f0 : mm_fr [(22, 8)] [18, 23, 24, 25, 26, 27, 28] h h := mm_fr_rf
  have g1 : 0 ≤ h.1 22 8 ∧ h.1 22 8 ≤ 40 := i0.1 22 8
  refine mm_aload_n C (mm_dec dk_X9_enter 0 rfl) rfl ?_
  refine mm_getr (t := 23) C fl_X9_9 (mm_dec dk_X9_enter 1 rfl) rfl rfl (mm_ref i0 rfl) ?_
  refine mm_aload_n C (mm_dec dk_X9_enter 2 rfl) rfl ?_
  refine mm_geti C fl_X9_34 (mm_dec dk_X9_enter 3 rfl) rfl rfl (Or.inl rfl) ?_
  refine mm_iload_n C (mm_dec dk_X9_enter 4 rfl) rfl ?_
  refine mm_iast C (mm_dec dk_X9_enter 5 rfl) rfl (by omega) (by omega) ?_
  have i1 : mm_inv (mm_pa h 23 (h.1 22 8) p1) := mm_inv_pa i0 (show 0 ≤ p1 ∧ p1 ≤ 7 from ⟨by omega, by omega⟩)
  have f1 : mm_fr [(22, 8)] [18, 23, 24, 25, 26, 27, 28] h (mm_pa h 23 (h.1 22 8) p1) := mm_fr_pa f0 (by decide)
  obtain ⟨h1, eh1⟩ : ∃ z, z = mm_pa h 23 (h.1 22 8) p1 := ⟨_, rfl⟩
  rw [← eh1] at i1 f1 ⊢
  have qh1_2 : h1.1 22 8 = h.1 22 8 := by rw [eh1]; rfl
  refine mm_aload_n C (mm_dec dk_X9_enter 6 rfl) rfl ?_
  refine mm_getr (t := 24) C fl_X9_15 (mm_dec dk_X9_enter 7 rfl) rfl rfl (mm_ref i1 rfl) ?_
  refine mm_aload_n C (mm_dec dk_X9_enter 8 rfl) rfl ?_
  refine mm_geti C fl_X9_34 (mm_dec dk_X9_enter 9 rfl) rfl rfl (Or.inl rfl) ?_
  refine mm_iload_n C (mm_dec dk_X9_enter 10 rfl) rfl ?_
  refine mm_iast C (mm_dec dk_X9_enter 11 rfl) rfl (by omega) (by omega) ?_
  have i2 : mm_inv (mm_pa h1 24 (h1.1 22 8) p2) := mm_inv_pa i1 (show 0 ≤ p2 ∧ p2 ≤ 9 from ⟨by omega, by omega⟩)
  have f2 : mm_fr [(22, 8)] [18, 23, 24, 25, 26, 27, 28] h (mm_pa h1 24 (h1.1 22 8) p2) := mm_fr_pa f1 (by decide)
  obtain ⟨h2, eh2⟩ : ∃ z, z = mm_pa h1 24 (h1.1 22 8) p2 := ⟨_, rfl⟩
  rw [← eh2] at i2 f2 ⊢
  have qh2_3 : h2.1 22 8 = h1.1 22 8 := by rw [eh2]; rfl
  refine mm_aload_n C (mm_dec dk_X9_enter 12 rfl) rfl ?_
  refine mm_getr (t := 25) C fl_X9_18 (mm_dec dk_X9_enter 13 rfl) rfl rfl (mm_ref i2 rfl) ?_
  refine mm_aload_n C (mm_dec dk_X9_enter 14 rfl) rfl ?_
  refine mm_geti C fl_X9_34 (mm_dec dk_X9_enter 15 rfl) rfl rfl (Or.inl rfl) ?_
  refine mm_iload_n C (mm_dec dk_X9_enter 16 rfl) rfl ?_
  refine mm_iast C (mm_dec dk_X9_enter 17 rfl) rfl (by omega) (by omega) ?_
  have i3 : mm_inv (mm_pa h2 25 (h2.1 22 8) p3) := mm_inv_pa i2 (show 0 ≤ p3 ∧ p3 ≤ 80 from ⟨by omega, by omega⟩)
  have f3 : mm_fr [(22, 8)] [18, 23, 24, 25, 26, 27, 28] h (mm_pa h2 25 (h2.1 22 8) p3) := mm_fr_pa f2 (by decide)
  obtain ⟨h3, eh3⟩ : ∃ z, z = mm_pa h2 25 (h2.1 22 8) p3 := ⟨_, rfl⟩
  rw [← eh3] at i3 f3 ⊢
  have qh3_4 : h3.1 22 8 = h2.1 22 8 := by rw [eh3]; rfl
  refine mm_aload_n C (mm_dec dk_X9_enter 18 rfl) rfl ?_
  refine mm_getr (t := 26) C fl_X9_21 (mm_dec dk_X9_enter 19 rfl) rfl rfl (mm_ref i3 rfl) ?_
  refine mm_aload_n C (mm_dec dk_X9_enter 20 rfl) rfl ?_
  refine mm_geti C fl_X9_34 (mm_dec dk_X9_enter 21 rfl) rfl rfl (Or.inl rfl) ?_
  refine mm_iconst C (mm_dec dk_X9_enter 22 rfl) ⟨by decide, by decide⟩ ?_
  refine mm_iast C (mm_dec dk_X9_enter 23 rfl) rfl (by omega) (by omega) ?_
  have i4 : mm_inv (mm_pa h3 26 (h3.1 22 8) (-1)) := mm_inv_pa i3 (show -2147483648 ≤ (-1) ∧ (-1) ≤ 2147483647 from ⟨by omega, by omega⟩)
  have f4 : mm_fr [(22, 8)] [18, 23, 24, 25, 26, 27, 28] h (mm_pa h3 26 (h3.1 22 8) (-1)) := mm_fr_pa f3 (by decide)
  obtain ⟨h4, eh4⟩ : ∃ z, z = mm_pa h3 26 (h3.1 22 8) (-1) := ⟨_, rfl⟩
  rw [← eh4] at i4 f4 ⊢
  have qh4_5 : h4.1 22 8 = h3.1 22 8 := by rw [eh4]; rfl
  refine mm_aload_n C (mm_dec dk_X9_enter 24 rfl) rfl ?_
  refine mm_getr (t := 27) C fl_X9_24 (mm_dec dk_X9_enter 25 rfl) rfl rfl (mm_ref i4 rfl) ?_
  refine mm_aload_n C (mm_dec dk_X9_enter 26 rfl) rfl ?_
  refine mm_geti C fl_X9_34 (mm_dec dk_X9_enter 27 rfl) rfl rfl (Or.inl rfl) ?_
  refine mm_iconst C (mm_dec dk_X9_enter 28 rfl) ⟨by decide, by decide⟩ ?_
  refine mm_iast C (mm_dec dk_X9_enter 29 rfl) rfl (by omega) (by omega) ?_
  have i5 : mm_inv (mm_pa h4 27 (h4.1 22 8) (-1)) := mm_inv_pa i4 (show -1 ≤ (-1) ∧ (-1) ≤ 39 from ⟨by omega, by omega⟩)
  have f5 : mm_fr [(22, 8)] [18, 23, 24, 25, 26, 27, 28] h (mm_pa h4 27 (h4.1 22 8) (-1)) := mm_fr_pa f4 (by decide)
  obtain ⟨h5, eh5⟩ : ∃ z, z = mm_pa h4 27 (h4.1 22 8) (-1) := ⟨_, rfl⟩
  rw [← eh5] at i5 f5 ⊢
  have qh5_6 : h5.1 22 8 = h4.1 22 8 := by rw [eh5]; rfl
  refine mm_aload_n C (mm_dec dk_X9_enter 30 rfl) rfl ?_
  refine mm_getr (t := 28) C fl_X9_27 (mm_dec dk_X9_enter 31 rfl) rfl rfl (mm_ref i5 rfl) ?_
  refine mm_aload_n C (mm_dec dk_X9_enter 32 rfl) rfl ?_
  refine mm_geti C fl_X9_34 (mm_dec dk_X9_enter 33 rfl) rfl rfl (Or.inl rfl) ?_
  refine mm_iconst C (mm_dec dk_X9_enter 34 rfl) ⟨by decide, by decide⟩ ?_
  refine mm_zast C (mm_dec dk_X9_enter 35 rfl) rfl (by omega) (by omega) (by omega) ?_
  have i6 : mm_inv (mm_pa h5 28 (h5.1 22 8) 0) := mm_inv_pa i5 (show 0 ≤ 0 ∧ 0 ≤ 1 from ⟨by omega, by omega⟩)
  have f6 : mm_fr [(22, 8)] [18, 23, 24, 25, 26, 27, 28] h (mm_pa h5 28 (h5.1 22 8) 0) := mm_fr_pa f5 (by decide)
  obtain ⟨h6, eh6⟩ : ∃ z, z = mm_pa h5 28 (h5.1 22 8) 0 := ⟨_, rfl⟩
  rw [← eh6] at i6 f6 ⊢
  have qh6_7 : h6.1 22 8 = h5.1 22 8 := by rw [eh6]; rfl
  refine mm_aload_n C (mm_dec dk_X9_enter 36 rfl) rfl ?_
  refine mm_getr (t := 14) C fl_X9_41 (mm_dec dk_X9_enter 37 rfl) rfl rfl (mm_ref i6 rfl) ?_
  refine mm_iload_n C (mm_dec dk_X9_enter 38 rfl) rfl ?_
  refine mm_cVv (rest := []) C1 ev_X9_45 (mm_dec dk_X9_enter 39 rfl) (c_X2_take_q x.2.1 hl (d - 1) (by omega) h6 i6 p1 ⟨by omega, by omega⟩) rfl rfl (Nat.le_of_ble_eq_true rfl) ⟨by decide, by decide⟩ rfl (fun h65c hp65 => ?_) (fun _ _ q => q.elim)
  obtain ⟨i65c, g65c, y65_0⟩ := hp65
  have f65c : mm_fr [(22, 8)] [18, 23, 24, 25, 26, 27, 28] h h65c := mm_fr_tr f6 g65c (by decide +kernel)
  have q65c_9 : h65c.1 22 8 = h6.1 22 8 := g65c.1 22 8 (by decide)
  refine mm_aload_n C (mm_dec dk_X9_enter 40 rfl) rfl ?_
  refine mm_dup C (mm_dec dk_X9_enter 41 rfl) (show (2 : Nat) ≠ 1 by decide) ?_
  refine mm_geti C fl_X9_34 (mm_dec dk_X9_enter 42 rfl) rfl rfl (Or.inl rfl) ?_
  refine mm_iconst C (mm_dec dk_X9_enter 43 rfl) ⟨by decide, by decide⟩ ?_
  refine mm_iadd C (mm_dec dk_X9_enter 44 rfl) ⟨by omega, by omega⟩ ?_
  refine mm_puti C fl_X9_34 (mm_dec dk_X9_enter 45 rfl) rfl rfl rfl (Or.inl ⟨rfl, rfl⟩) ?_
  have i8 : mm_inv (mm_pf h65c 22 8 ((h65c.1 22 8) + 1)) := mm_inv_pf i65c (show 0 ≤ ((h65c.1 22 8) + 1) ∧ ((h65c.1 22 8) + 1) ≤ 40 from ⟨by omega, by omega⟩) (by decide)
  have f8 : mm_fr [(22, 8)] [18, 23, 24, 25, 26, 27, 28] h (mm_pf h65c 22 8 ((h65c.1 22 8) + 1)) := mm_fr_pf f65c (by decide)
  obtain ⟨h8, eh8⟩ : ∃ z, z = mm_pf h65c 22 8 ((h65c.1 22 8) + 1) := ⟨_, rfl⟩
  rw [← eh8] at i8 f8 ⊢
  have qh8 : h8.1 22 8 = ((h65c.1 22 8) + 1) := by rw [eh8]; exact mm_pf_same _ _ _ _
  refine mm_aload_n C (mm_dec dk_X9_enter 46 rfl) rfl ?_
  refine mm_geti C fl_X9_34 (mm_dec dk_X9_enter 47 rfl) rfl rfl (Or.inl rfl) ?_
  refine mm_iconst C (mm_dec dk_X9_enter 48 rfl) ⟨by decide, by decide⟩ ?_
  refine mm_isub C (mm_dec dk_X9_enter 49 rfl) ⟨by omega, by omega⟩ ?_
  exact mm_iret C T (mm_dec dk_X9_enter 50 rfl) (by decide : 0 ≤ 0) (by decide : 0 ≤ 0) ⟨_, rfl, ⟨⟨by omega, by omega⟩, i8, f8, by omega, by omega, by exact mm_up_tr (fun _ => ((mm_sm_pa 18 eh6 (by decide) _).trans ((mm_sm_pa 18 eh5 (by decide) _).trans ((mm_sm_pa 18 eh4 (by decide) _).trans ((mm_sm_pa 18 eh3 (by decide) _).trans ((mm_sm_pa 18 eh2 (by decide) _).trans (mm_sm_pa 18 eh1 (by decide) _))))))) y65_0 (fun _ => (mm_sm_pf 18 eh8 _)) rfl Iff.rfl, by exact mm_up_pav (fun _ => rfl) eh1 (fun _ => ((mm_sm_pf 23 eh8 _).trans ((g65c.2 23 (by decide) _).trans ((mm_sm_pa 23 eh6 (by decide) _).trans ((mm_sm_pa 23 eh5 (by decide) _).trans ((mm_sm_pa 23 eh4 (by decide) _).trans ((mm_sm_pa 23 eh3 (by decide) _).trans (mm_sm_pa 23 eh2 (by decide) _)))))))) (by omega) (by omega) rfl, by exact mm_up_pav (fun _ => ((mm_sm_pa 25 eh2 (by decide) _).trans (mm_sm_pa 25 eh1 (by decide) _))) eh3 (fun _ => ((mm_sm_pf 25 eh8 _).trans ((g65c.2 25 (by decide) _).trans ((mm_sm_pa 25 eh6 (by decide) _).trans ((mm_sm_pa 25 eh5 (by decide) _).trans (mm_sm_pa 25 eh4 (by decide) _)))))) (by omega) (by omega) rfl, by exact mm_up_pav (fun _ => ((mm_sm_pa 28 eh5 (by decide) _).trans ((mm_sm_pa 28 eh4 (by decide) _).trans ((mm_sm_pa 28 eh3 (by decide) _).trans ((mm_sm_pa 28 eh2 (by decide) _).trans (mm_sm_pa 28 eh1 (by decide) _)))))) eh6 (fun _ => ((mm_sm_pf 28 eh8 _).trans (g65c.2 28 (by decide) _))) (by omega) (by omega) rfl, by exact mm_up_pav (fun _ => (mm_sm_pa 24 eh1 (by decide) _)) eh2 (fun _ => ((mm_sm_pf 24 eh8 _).trans ((g65c.2 24 (by decide) _).trans ((mm_sm_pa 24 eh6 (by decide) _).trans ((mm_sm_pa 24 eh5 (by decide) _).trans ((mm_sm_pa 24 eh4 (by decide) _).trans (mm_sm_pa 24 eh3 (by decide) _))))))) (by omega) (by omega) rfl, by exact mm_up_pav (fun _ => ((mm_sm_pa 27 eh4 (by decide) _).trans ((mm_sm_pa 27 eh3 (by decide) _).trans ((mm_sm_pa 27 eh2 (by decide) _).trans (mm_sm_pa 27 eh1 (by decide) _))))) eh5 (fun _ => ((mm_sm_pf 27 eh8 _).trans ((g65c.2 27 (by decide) _).trans (mm_sm_pa 27 eh6 (by decide) _)))) (by omega) (by omega) rfl⟩⟩
set_option maxRecDepth 100000 in
set_option maxHeartbeats 4000000 in
theorem c_J7_fill_53178_2_q (l : Launch) (hl : l.stackTraces = false) (d : Nat) (hd : 0 ≤ d) (h : mH) (i0 : mm_inv h) (p1 : Int) (bp1 : 0 ≤ p1 ∧ p1 ≤ 7) : mm_Met l d yJ7_fill_53178 cJ7_fill_53178 4 none [mR 2, mI p1] h (mm_pv fun h2 => mm_inv h2 ∧ mm_fr [] [2] h h2 ∧ mm_al h2 2 399 p1) mm_nx 0 0 := by
  refine mm_ofW (ls := [mR 2, mI p1, mU, mU]) hl (by decide) rfl (Nat.le_of_ble_eq_true rfl) ?_
  intro x hxl C T hnm htb
  subst hxl
  refine mm_rng (fun hr _ => ?_)
  have ap1 : -2147483648 ≤ p1 ∧ p1 < 2147483648 := mm_ok_at hr (i := 1) rfl
  have f0 : mm_fr [] [2] h h := mm_fr_rf
  refine mm_iconst C (mm_dec dk_J7_fill_53178 0 rfl) ⟨by decide, by decide⟩ ?_
  refine mm_istore_nL (ls2 := [mR 2, mI p1, mI 0, mU]) C (mm_dec dk_J7_fill_53178 1 rfl) (by decide) rfl ?_
  refine mm_aload_n C (mm_dec dk_J7_fill_53178 2 rfl) rfl ?_
  refine mm_alenz (z := 400) C (mm_dec dk_J7_fill_53178 3 rfl) rfl (by decide) (by decide) rfl ?_
  have J5 : ∀ (n : Nat) (x5_2 : Int) (bx5_2 : 0 ≤ x5_2 ∧ x5_2 ≤ 400) (x5_3 : Int) (bx5_3 : 400 ≤ x5_3 ∧ x5_3 ≤ 400) (h5_ : mH) (i5_ : mm_inv h5_) (f5_ : mm_fr [] [2] h h5_) (w5_0 : mm_al h5_ 2 (x5_2 - 1) p1), (400 - x5_2 : Int) < n → mm_W x 0 0 5 [mR 2, mI p1, mI x5_2, mI x5_3] [] h5_ := by
    intro n
    induction n with
    | zero =>
      intro x5_2 bx5_2 x5_3 bx5_3 h5_ i5_ f5_ w5_0 hm
      exfalso; omega
    | succ n ih5 =>
      intro x5_2 bx5_2 x5_3 bx5_3 h5_ i5_ f5_ w5_0 hm5
      refine mm_iload_n C (mm_dec dk_J7_fill_53178 5 rfl) rfl ?_
      refine mm_iload_n C (mm_dec dk_J7_fill_53178 6 rfl) rfl ?_
      refine mm_icmp_ge (tgt := 20) C (mm_dec dk_J7_fill_53178 7 rfl) (by decide) (fun c7 => ?_) (fun c7 => ?_)
      · skip
        exact mm_vret C T (mm_dec dk_J7_fill_53178 14 rfl) (by decide : 0 ≤ 0) (by decide : 0 ≤ 0) ⟨rfl, ⟨i5_, f5_, by exact mm_al_le w5_0 (by omega)⟩⟩
      · skip
        refine mm_aload_n C (mm_dec dk_J7_fill_53178 8 rfl) rfl ?_
        refine mm_iload_n C (mm_dec dk_J7_fill_53178 9 rfl) rfl ?_
        refine mm_iload_n C (mm_dec dk_J7_fill_53178 10 rfl) rfl ?_
        refine mm_iast C (mm_dec dk_J7_fill_53178 11 rfl) rfl (by omega) (by omega) ?_
        have i1 : mm_inv (mm_pa h5_ 2 x5_2 p1) := mm_inv_pa i5_ (show 0 ≤ p1 ∧ p1 ≤ 7 from ⟨by omega, by omega⟩)
        have f1 : mm_fr [] [2] h (mm_pa h5_ 2 x5_2 p1) := mm_fr_pa f5_ (by decide)
        obtain ⟨h1, eh1⟩ : ∃ z, z = mm_pa h5_ 2 x5_2 p1 := ⟨_, rfl⟩
        rw [← eh1] at i1 f1 ⊢
        refine mm_iincL (ls2 := [mR 2, mI p1, mI (x5_2 + 1), mI x5_3]) C (mm_dec dk_J7_fill_53178 12 rfl) rfl (by decide) ⟨by omega, by omega⟩ rfl ?_
        refine mm_goto (tgt := 5) C (mm_dec dk_J7_fill_53178 13 rfl) (by decide) ?_
        exact ih5 (x5_2 + 1) ⟨by omega, by omega⟩ x5_3 ⟨by omega, by omega⟩ h1 i1 f1 (by first | exact mm_al_nil (by omega) | (rw [show x5_2 + 1 - 1 = x5_2 by omega]; exact mm_al_put w5_0 eh1)) (by omega)
  refine mm_istore_nL (ls2 := [mR 2, mI p1, mI 0, mI 400]) C (mm_dec dk_J7_fill_53178 4 rfl) (by decide) rfl ?_
  exact J5 (((400 - 0) : Int) + 1).toNat 0 ⟨by omega, by omega⟩ 400 ⟨by omega, by omega⟩ h i0 f0 (by first | exact mm_al_nil (by omega) | (rw [show x5_2 + 1 - 1 = x5_2 by omega]; exact mm_al_put w5_0 eh)) (by omega)
set_option maxRecDepth 100000 in
set_option maxHeartbeats 4000000 in
theorem c_J7_fill_53178_6_q (l : Launch) (hl : l.stackTraces = false) (d : Nat) (hd : 0 ≤ d) (h : mH) (i0 : mm_inv h) (p1 : Int) (bp1 : 0 ≤ p1 ∧ p1 ≤ 99) : mm_Met l d yJ7_fill_53178 cJ7_fill_53178 4 none [mR 6, mI p1] h (mm_pv fun h2 => mm_inv h2 ∧ mm_fr [] [6] h h2 ∧ mm_al h2 6 8 p1) mm_nx 0 0 := by
  refine mm_ofW (ls := [mR 6, mI p1, mU, mU]) hl (by decide) rfl (Nat.le_of_ble_eq_true rfl) ?_
  intro x hxl C T hnm htb
  subst hxl
  refine mm_rng (fun hr _ => ?_)
  have ap1 : -2147483648 ≤ p1 ∧ p1 < 2147483648 := mm_ok_at hr (i := 1) rfl
  have f0 : mm_fr [] [6] h h := mm_fr_rf
  refine mm_iconst C (mm_dec dk_J7_fill_53178 0 rfl) ⟨by decide, by decide⟩ ?_
  refine mm_istore_nL (ls2 := [mR 6, mI p1, mI 0, mU]) C (mm_dec dk_J7_fill_53178 1 rfl) (by decide) rfl ?_
  refine mm_aload_n C (mm_dec dk_J7_fill_53178 2 rfl) rfl ?_
  refine mm_alenz (z := 9) C (mm_dec dk_J7_fill_53178 3 rfl) rfl (by decide) (by decide) rfl ?_
  have J5 : ∀ (n : Nat) (x5_2 : Int) (bx5_2 : 0 ≤ x5_2 ∧ x5_2 ≤ 9) (x5_3 : Int) (bx5_3 : 9 ≤ x5_3 ∧ x5_3 ≤ 9) (h5_ : mH) (i5_ : mm_inv h5_) (f5_ : mm_fr [] [6] h h5_) (w5_0 : mm_al h5_ 6 (x5_2 - 1) p1), (9 - x5_2 : Int) < n → mm_W x 0 0 5 [mR 6, mI p1, mI x5_2, mI x5_3] [] h5_ := by
    intro n
    induction n with
    | zero =>
      intro x5_2 bx5_2 x5_3 bx5_3 h5_ i5_ f5_ w5_0 hm
      exfalso; omega
    | succ n ih5 =>
      intro x5_2 bx5_2 x5_3 bx5_3 h5_ i5_ f5_ w5_0 hm5
      refine mm_iload_n C (mm_dec dk_J7_fill_53178 5 rfl) rfl ?_
      refine mm_iload_n C (mm_dec dk_J7_fill_53178 6 rfl) rfl ?_
      refine mm_icmp_ge (tgt := 20) C (mm_dec dk_J7_fill_53178 7 rfl) (by decide) (fun c7 => ?_) (fun c7 => ?_)
      · skip
        exact mm_vret C T (mm_dec dk_J7_fill_53178 14 rfl) (by decide : 0 ≤ 0) (by decide : 0 ≤ 0) ⟨rfl, ⟨i5_, f5_, by exact mm_al_le w5_0 (by omega)⟩⟩
      · skip
        refine mm_aload_n C (mm_dec dk_J7_fill_53178 8 rfl) rfl ?_
        refine mm_iload_n C (mm_dec dk_J7_fill_53178 9 rfl) rfl ?_
        refine mm_iload_n C (mm_dec dk_J7_fill_53178 10 rfl) rfl ?_
        refine mm_iast C (mm_dec dk_J7_fill_53178 11 rfl) rfl (by omega) (by omega) ?_
        have i1 : mm_inv (mm_pa h5_ 6 x5_2 p1) := mm_inv_pa i5_ (show 0 ≤ p1 ∧ p1 ≤ 99 from ⟨by omega, by omega⟩)
        have f1 : mm_fr [] [6] h (mm_pa h5_ 6 x5_2 p1) := mm_fr_pa f5_ (by decide)
        obtain ⟨h1, eh1⟩ : ∃ z, z = mm_pa h5_ 6 x5_2 p1 := ⟨_, rfl⟩
        rw [← eh1] at i1 f1 ⊢
        refine mm_iincL (ls2 := [mR 6, mI p1, mI (x5_2 + 1), mI x5_3]) C (mm_dec dk_J7_fill_53178 12 rfl) rfl (by decide) ⟨by omega, by omega⟩ rfl ?_
        refine mm_goto (tgt := 5) C (mm_dec dk_J7_fill_53178 13 rfl) (by decide) ?_
        exact ih5 (x5_2 + 1) ⟨by omega, by omega⟩ x5_3 ⟨by omega, by omega⟩ h1 i1 f1 (by first | exact mm_al_nil (by omega) | (rw [show x5_2 + 1 - 1 = x5_2 by omega]; exact mm_al_put w5_0 eh1)) (by omega)
  refine mm_istore_nL (ls2 := [mR 6, mI p1, mI 0, mI 9]) C (mm_dec dk_J7_fill_53178 4 rfl) (by decide) rfl ?_
  exact J5 (((9 - 0) : Int) + 1).toNat 0 ⟨by omega, by omega⟩ 9 ⟨by omega, by omega⟩ h i0 f0 (by first | exact mm_al_nil (by omega) | (rw [show x5_2 + 1 - 1 = x5_2 by omega]; exact mm_al_put w5_0 eh)) (by omega)
set_option maxRecDepth 100000 in
set_option maxHeartbeats 4000000 in
theorem c_J7_fill_53178_3_q (l : Launch) (hl : l.stackTraces = false) (d : Nat) (hd : 0 ≤ d) (h : mH) (i0 : mm_inv h) (p1 : Int) (bp1 : 0 ≤ p1 ∧ p1 ≤ 99) : mm_Met l d yJ7_fill_53178 cJ7_fill_53178 4 none [mR 3, mI p1] h (mm_pv fun h2 => mm_inv h2 ∧ mm_fr [] [3] h h2 ∧ mm_al h2 3 399 p1) mm_nx 0 0 := by
  refine mm_ofW (ls := [mR 3, mI p1, mU, mU]) hl (by decide) rfl (Nat.le_of_ble_eq_true rfl) ?_
  intro x hxl C T hnm htb
  subst hxl
  refine mm_rng (fun hr _ => ?_)
  have ap1 : -2147483648 ≤ p1 ∧ p1 < 2147483648 := mm_ok_at hr (i := 1) rfl
  have f0 : mm_fr [] [3] h h := mm_fr_rf
  refine mm_iconst C (mm_dec dk_J7_fill_53178 0 rfl) ⟨by decide, by decide⟩ ?_
  refine mm_istore_nL (ls2 := [mR 3, mI p1, mI 0, mU]) C (mm_dec dk_J7_fill_53178 1 rfl) (by decide) rfl ?_
  refine mm_aload_n C (mm_dec dk_J7_fill_53178 2 rfl) rfl ?_
  refine mm_alenz (z := 400) C (mm_dec dk_J7_fill_53178 3 rfl) rfl (by decide) (by decide) rfl ?_
  have J5 : ∀ (n : Nat) (x5_2 : Int) (bx5_2 : 0 ≤ x5_2 ∧ x5_2 ≤ 400) (x5_3 : Int) (bx5_3 : 400 ≤ x5_3 ∧ x5_3 ≤ 400) (h5_ : mH) (i5_ : mm_inv h5_) (f5_ : mm_fr [] [3] h h5_) (w5_0 : mm_al h5_ 3 (x5_2 - 1) p1), (400 - x5_2 : Int) < n → mm_W x 0 0 5 [mR 3, mI p1, mI x5_2, mI x5_3] [] h5_ := by
    intro n
    induction n with
    | zero =>
      intro x5_2 bx5_2 x5_3 bx5_3 h5_ i5_ f5_ w5_0 hm
      exfalso; omega
    | succ n ih5 =>
      intro x5_2 bx5_2 x5_3 bx5_3 h5_ i5_ f5_ w5_0 hm5
      refine mm_iload_n C (mm_dec dk_J7_fill_53178 5 rfl) rfl ?_
      refine mm_iload_n C (mm_dec dk_J7_fill_53178 6 rfl) rfl ?_
      refine mm_icmp_ge (tgt := 20) C (mm_dec dk_J7_fill_53178 7 rfl) (by decide) (fun c7 => ?_) (fun c7 => ?_)
      · skip
        exact mm_vret C T (mm_dec dk_J7_fill_53178 14 rfl) (by decide : 0 ≤ 0) (by decide : 0 ≤ 0) ⟨rfl, ⟨i5_, f5_, by exact mm_al_le w5_0 (by omega)⟩⟩
      · skip
        refine mm_aload_n C (mm_dec dk_J7_fill_53178 8 rfl) rfl ?_
        refine mm_iload_n C (mm_dec dk_J7_fill_53178 9 rfl) rfl ?_
        refine mm_iload_n C (mm_dec dk_J7_fill_53178 10 rfl) rfl ?_
        refine mm_iast C (mm_dec dk_J7_fill_53178 11 rfl) rfl (by omega) (by omega) ?_
        have i1 : mm_inv (mm_pa h5_ 3 x5_2 p1) := mm_inv_pa i5_ (show 0 ≤ p1 ∧ p1 ≤ 99 from ⟨by omega, by omega⟩)
        have f1 : mm_fr [] [3] h (mm_pa h5_ 3 x5_2 p1) := mm_fr_pa f5_ (by decide)
        obtain ⟨h1, eh1⟩ : ∃ z, z = mm_pa h5_ 3 x5_2 p1 := ⟨_, rfl⟩
        rw [← eh1] at i1 f1 ⊢
        refine mm_iincL (ls2 := [mR 3, mI p1, mI (x5_2 + 1), mI x5_3]) C (mm_dec dk_J7_fill_53178 12 rfl) rfl (by decide) ⟨by omega, by omega⟩ rfl ?_
        refine mm_goto (tgt := 5) C (mm_dec dk_J7_fill_53178 13 rfl) (by decide) ?_
        exact ih5 (x5_2 + 1) ⟨by omega, by omega⟩ x5_3 ⟨by omega, by omega⟩ h1 i1 f1 (by first | exact mm_al_nil (by omega) | (rw [show x5_2 + 1 - 1 = x5_2 by omega]; exact mm_al_put w5_0 eh1)) (by omega)
  refine mm_istore_nL (ls2 := [mR 3, mI p1, mI 0, mI 400]) C (mm_dec dk_J7_fill_53178 4 rfl) (by decide) rfl ?_
  exact J5 (((400 - 0) : Int) + 1).toNat 0 ⟨by omega, by omega⟩ 400 ⟨by omega, by omega⟩ h i0 f0 (by first | exact mm_al_nil (by omega) | (rw [show x5_2 + 1 - 1 = x5_2 by omega]; exact mm_al_put w5_0 eh)) (by omega)
set_option maxRecDepth 100000 in
set_option maxHeartbeats 4000000 in
theorem c_X5_renew_q (l : Launch) (hl : l.stackTraces = false) (d : Nat) (hd : 1 ≤ d) (h : mH) (i0 : mm_inv h) (p1 : Int) (p2 : Int) (bp1 : 1 ≤ p1 ∧ p1 ≤ 20) (bp2 : 1 ≤ p2 ∧ p2 ≤ 20) : mm_Met l d yX5_renew cX5_renew 4 none [mR 1, mI p1, mI p2] h (mm_pv fun h2 => mm_inv h2 ∧ mm_fr [(1, 5), (1, 6), (1, 7), (1, 8)] [2, 3, 4, 5, 6] h h2 ∧ h2.1 1 5 = p1 ∧ h2.1 1 6 = p2 ∧ mm_al h2 2 399 0 ∧ mm_al h2 6 7 5 ∧ mm_al h2 3 399 0 ∧ mm_al h2 4 399 0 ∧ mm_al h2 5 399 0 ∧ h2.2.1 6 8 = 2 ∧ h2.1 1 7 = 0 ∧ h2.1 1 8 = 0) mm_nx 0 0 := by
  refine mm_ofW (ls := [mR 1, mI p1, mI p2, mU]) hl (by decide) rfl (Nat.le_of_ble_eq_true rfl) ?_
  intro x hxl C T hnm htb
  subst hxl
  have C1 := mm_OK_le (d' := d - 1 + 1) (by omega) C
  refine mm_rng (fun hr _ => ?_)
  have ap1 : -2147483648 ≤ p1 ∧ p1 < 2147483648 := mm_ok_at hr (i := 1) rfl
  have ap2 : -2147483648 ≤ p2 ∧ p2 < 2147483648 := mm_ok_at hr (i := 2) rfl
  have f0 : mm_fr [(1, 5), (1, 6), (1, 7), (1, 8)] [2, 3, 4, 5, 6] h h := mm_fr_rf
  have g1 : 1 ≤ h.1 1 5 ∧ h.1 1 5 ≤ 20 := i0.1 1 5
  have g2 : 1 ≤ h.1 1 6 ∧ h.1 1 6 ≤ 20 := i0.1 1 6
  have g3 : 0 ≤ h.1 1 7 ∧ h.1 1 7 ≤ 399 := i0.1 1 7
  have g4 : 0 ≤ h.1 1 8 ∧ h.1 1 8 ≤ 399 := i0.1 1 8
  refine mm_aload_n C (mm_dec dk_X5_renew 0 rfl) rfl ?_
  refine mm_iload_n C (mm_dec dk_X5_renew 1 rfl) rfl ?_
  refine mm_puti C fl_X5_28 (mm_dec dk_X5_renew 2 rfl) rfl rfl rfl (Or.inl ⟨rfl, rfl⟩) ?_
  have i1 : mm_inv (mm_pf h 1 5 p1) := mm_inv_pf i0 (show 1 ≤ p1 ∧ p1 ≤ 20 from ⟨by omega, by omega⟩) (by decide)
  have f1 : mm_fr [(1, 5), (1, 6), (1, 7), (1, 8)] [2, 3, 4, 5, 6] h (mm_pf h 1 5 p1) := mm_fr_pf f0 (by decide)
  obtain ⟨h1, eh1⟩ : ∃ z, z = mm_pf h 1 5 p1 := ⟨_, rfl⟩
  rw [← eh1] at i1 f1 ⊢
  have qh1 : h1.1 1 5 = p1 := by rw [eh1]; exact mm_pf_same _ _ _ _
  have qh1_5 : h1.1 1 6 = h.1 1 6 := by rw [eh1]; exact mm_pf_ne _ _ (by decide)
  have qh1_6 : h1.1 1 7 = h.1 1 7 := by rw [eh1]; exact mm_pf_ne _ _ (by decide)
  have qh1_7 : h1.1 1 8 = h.1 1 8 := by rw [eh1]; exact mm_pf_ne _ _ (by decide)
  refine mm_aload_n C (mm_dec dk_X5_renew 3 rfl) rfl ?_
  refine mm_iload_n C (mm_dec dk_X5_renew 4 rfl) rfl ?_
  refine mm_puti C fl_X5_32 (mm_dec dk_X5_renew 5 rfl) rfl rfl rfl (Or.inl ⟨rfl, rfl⟩) ?_
  have i2 : mm_inv (mm_pf h1 1 6 p2) := mm_inv_pf i1 (show 1 ≤ p2 ∧ p2 ≤ 20 from ⟨by omega, by omega⟩) (by decide)
  have f2 : mm_fr [(1, 5), (1, 6), (1, 7), (1, 8)] [2, 3, 4, 5, 6] h (mm_pf h1 1 6 p2) := mm_fr_pf f1 (by decide)
  obtain ⟨h2, eh2⟩ : ∃ z, z = mm_pf h1 1 6 p2 := ⟨_, rfl⟩
  rw [← eh2] at i2 f2 ⊢
  have qh2 : h2.1 1 6 = p2 := by rw [eh2]; exact mm_pf_same _ _ _ _
  have qh2_8 : h2.1 1 5 = h1.1 1 5 := by rw [eh2]; exact mm_pf_ne _ _ (by decide)
  have qh2_9 : h2.1 1 7 = h1.1 1 7 := by rw [eh2]; exact mm_pf_ne _ _ (by decide)
  have qh2_10 : h2.1 1 8 = h1.1 1 8 := by rw [eh2]; exact mm_pf_ne _ _ (by decide)
  refine mm_aload_n C (mm_dec dk_X5_renew 6 rfl) rfl ?_
  refine mm_iconst C (mm_dec dk_X5_renew 7 rfl) ⟨by decide, by decide⟩ ?_
  refine mm_puti C fl_X5_35 (mm_dec dk_X5_renew 8 rfl) rfl rfl rfl (Or.inl ⟨rfl, rfl⟩) ?_
  have i3 : mm_inv (mm_pf h2 1 7 0) := mm_inv_pf i2 (show 0 ≤ 0 ∧ 0 ≤ 399 from ⟨by omega, by omega⟩) (by decide)
  have f3 : mm_fr [(1, 5), (1, 6), (1, 7), (1, 8)] [2, 3, 4, 5, 6] h (mm_pf h2 1 7 0) := mm_fr_pf f2 (by decide)
  obtain ⟨h3, eh3⟩ : ∃ z, z = mm_pf h2 1 7 0 := ⟨_, rfl⟩
  rw [← eh3] at i3 f3 ⊢
  have qh3 : h3.1 1 7 = 0 := by rw [eh3]; exact mm_pf_same _ _ _ _
  have qh3_11 : h3.1 1 5 = h2.1 1 5 := by rw [eh3]; exact mm_pf_ne _ _ (by decide)
  have qh3_12 : h3.1 1 6 = h2.1 1 6 := by rw [eh3]; exact mm_pf_ne _ _ (by decide)
  have qh3_13 : h3.1 1 8 = h2.1 1 8 := by rw [eh3]; exact mm_pf_ne _ _ (by decide)
  refine mm_aload_n C (mm_dec dk_X5_renew 9 rfl) rfl ?_
  refine mm_iconst C (mm_dec dk_X5_renew 10 rfl) ⟨by decide, by decide⟩ ?_
  refine mm_puti C fl_X5_38 (mm_dec dk_X5_renew 11 rfl) rfl rfl rfl (Or.inl ⟨rfl, rfl⟩) ?_
  have i4 : mm_inv (mm_pf h3 1 8 0) := mm_inv_pf i3 (show 0 ≤ 0 ∧ 0 ≤ 399 from ⟨by omega, by omega⟩) (by decide)
  have f4 : mm_fr [(1, 5), (1, 6), (1, 7), (1, 8)] [2, 3, 4, 5, 6] h (mm_pf h3 1 8 0) := mm_fr_pf f3 (by decide)
  obtain ⟨h4, eh4⟩ : ∃ z, z = mm_pf h3 1 8 0 := ⟨_, rfl⟩
  rw [← eh4] at i4 f4 ⊢
  have qh4 : h4.1 1 8 = 0 := by rw [eh4]; exact mm_pf_same _ _ _ _
  have qh4_14 : h4.1 1 5 = h3.1 1 5 := by rw [eh4]; exact mm_pf_ne _ _ (by decide)
  have qh4_15 : h4.1 1 6 = h3.1 1 6 := by rw [eh4]; exact mm_pf_ne _ _ (by decide)
  have qh4_16 : h4.1 1 7 = h3.1 1 7 := by rw [eh4]; exact mm_pf_ne _ _ (by decide)
  refine mm_aload_n C (mm_dec dk_X5_renew 12 rfl) rfl ?_
  refine mm_getr (t := 2) C fl_X5_9 (mm_dec dk_X5_renew 13 rfl) rfl rfl (mm_ref i4 rfl) ?_
  refine mm_iconst C (mm_dec dk_X5_renew 14 rfl) ⟨by decide, by decide⟩ ?_
  refine mm_cSv (rest := []) C1 es_X5_41 (mm_dec dk_X5_renew 15 rfl) (c_J7_fill_53178_2_q x.2.1 hl (d - 1) (by omega) h4 i4 0 ⟨by omega, by omega⟩) rfl (Nat.le_of_ble_eq_true rfl) ⟨by decide, by decide⟩ rfl (fun h25c hp25 => ?_) (fun _ _ q => q.elim)
  obtain ⟨i25c, g25c, y25_0⟩ := hp25
  have f25c : mm_fr [(1, 5), (1, 6), (1, 7), (1, 8)] [2, 3, 4, 5, 6] h h25c := mm_fr_tr f4 g25c (by decide +kernel)
  have q25c_18 : h25c.1 1 5 = h4.1 1 5 := g25c.1 1 5 (by decide)
  have q25c_19 : h25c.1 1 6 = h4.1 1 6 := g25c.1 1 6 (by decide)
  have q25c_20 : h25c.1 1 7 = h4.1 1 7 := g25c.1 1 7 (by decide)
  have q25c_21 : h25c.1 1 8 = h4.1 1 8 := g25c.1 1 8 (by decide)
  refine mm_aload_n C (mm_dec dk_X5_renew 16 rfl) rfl ?_
  refine mm_getr (t := 3) C fl_X5_15 (mm_dec dk_X5_renew 17 rfl) rfl rfl (mm_ref i25c rfl) ?_
  refine mm_iconst C (mm_dec dk_X5_renew 18 rfl) ⟨by decide, by decide⟩ ?_
  refine mm_cSv (rest := []) C1 es_X5_41 (mm_dec dk_X5_renew 19 rfl) (c_J7_fill_53178_3_q x.2.1 hl (d - 1) (by omega) h25c i25c 0 ⟨by omega, by omega⟩) rfl (Nat.le_of_ble_eq_true rfl) ⟨by decide, by decide⟩ rfl (fun h33c hp33 => ?_) (fun _ _ q => q.elim)
  obtain ⟨i33c, g33c, y33_0⟩ := hp33
  have f33c : mm_fr [(1, 5), (1, 6), (1, 7), (1, 8)] [2, 3, 4, 5, 6] h h33c := mm_fr_tr f25c g33c (by decide +kernel)
  have q33c_23 : h33c.1 1 5 = h25c.1 1 5 := g33c.1 1 5 (by decide)
  have q33c_24 : h33c.1 1 6 = h25c.1 1 6 := g33c.1 1 6 (by decide)
  have q33c_25 : h33c.1 1 7 = h25c.1 1 7 := g33c.1 1 7 (by decide)
  have q33c_26 : h33c.1 1 8 = h25c.1 1 8 := g33c.1 1 8 (by decide)
  refine mm_iconst C (mm_dec dk_X5_renew 20 rfl) ⟨by decide, by decide⟩ ?_
  have J38 : ∀ (n : Nat) (x38_3 : Int) (bx38_3 : 0 ≤ x38_3 ∧ x38_3 ≤ 400) (h38_ : mH) (i38_ : mm_inv h38_) (f38_ : mm_fr [(1, 5), (1, 6), (1, 7), (1, 8)] [2, 3, 4, 5, 6] h h38_) (w38_0 : mm_al h38_ 2 399 0) (w38_1 : mm_al h38_ 3 399 0) (w38_2 : mm_al h38_ 4 (x38_3 - 1) 0) (w38_3 : mm_al h38_ 5 (x38_3 - 1) 0) (w38_4 : h38_.1 1 7 = 0) (w38_5 : h38_.1 1 8 = 0) (w38_6 : h38_.1 1 5 = p1) (w38_7 : h38_.1 1 6 = p2), (400 - x38_3 : Int) < n → mm_W x 0 0 38 [mR 1, mU, mU, mI x38_3] [] h38_ := by
    intro n
    induction n with
    | zero =>
      intro x38_3 bx38_3 h38_ i38_ f38_ w38_0 w38_1 w38_2 w38_3 w38_4 w38_5 w38_6 w38_7 hm
      have g27 : 1 ≤ h38_.1 1 5 ∧ h38_.1 1 5 ≤ 20 := i38_.1 1 5
      have g28 : 1 ≤ h38_.1 1 6 ∧ h38_.1 1 6 ≤ 20 := i38_.1 1 6
      have g29 : 0 ≤ h38_.1 1 7 ∧ h38_.1 1 7 ≤ 399 := i38_.1 1 7
      have g30 : 0 ≤ h38_.1 1 8 ∧ h38_.1 1 8 ≤ 399 := i38_.1 1 8
      exfalso; omega
    | succ n ih38 =>
      intro x38_3 bx38_3 h38_ i38_ f38_ w38_0 w38_1 w38_2 w38_3 w38_4 w38_5 w38_6 w38_7 hm38
      have g31 : 1 ≤ h38_.1 1 5 ∧ h38_.1 1 5 ≤ 20 := i38_.1 1 5
      have g32 : 1 ≤ h38_.1 1 6 ∧ h38_.1 1 6 ≤ 20 := i38_.1 1 6
      have g33 : 0 ≤ h38_.1 1 7 ∧ h38_.1 1 7 ≤ 399 := i38_.1 1 7
      have g34 : 0 ≤ h38_.1 1 8 ∧ h38_.1 1 8 ≤ 399 := i38_.1 1 8
      refine mm_iload_n C (mm_dec dk_X5_renew 22 rfl) rfl ?_
      refine mm_sipush C (mm_dec dk_X5_renew 23 rfl) ⟨by decide, by decide⟩ ?_
      refine mm_icmp_ge (tgt := 65) C (mm_dec dk_X5_renew 24 rfl) (by decide) (fun c42 => ?_) (fun c42 => ?_)
      · skip
        refine mm_aload_n C (mm_dec dk_X5_renew 37 rfl) rfl ?_
        refine mm_getr (t := 6) C fl_X5_25 (mm_dec dk_X5_renew 38 rfl) rfl rfl (mm_ref i38_ rfl) ?_
        refine mm_iconst C (mm_dec dk_X5_renew 39 rfl) ⟨by decide, by decide⟩ ?_
        refine mm_cSv (rest := []) C1 es_X5_41 (mm_dec dk_X5_renew 40 rfl) (c_J7_fill_53178_6_q x.2.1 hl (d - 1) (by omega) h38_ i38_ 5 ⟨by omega, by omega⟩) rfl (Nat.le_of_ble_eq_true rfl) ⟨by decide, by decide⟩ rfl (fun h70c hp70 => ?_) (fun _ _ q => q.elim)
        obtain ⟨i70c, g70c, y70_0⟩ := hp70
        have f70c : mm_fr [(1, 5), (1, 6), (1, 7), (1, 8)] [2, 3, 4, 5, 6] h h70c := mm_fr_tr f38_ g70c (by decide +kernel)
        have q70c_36 : h70c.1 1 5 = h38_.1 1 5 := g70c.1 1 5 (by decide)
        have q70c_37 : h70c.1 1 6 = h38_.1 1 6 := g70c.1 1 6 (by decide)
        have q70c_38 : h70c.1 1 7 = h38_.1 1 7 := g70c.1 1 7 (by decide)
        have q70c_39 : h70c.1 1 8 = h38_.1 1 8 := g70c.1 1 8 (by decide)
        refine mm_aload_n C (mm_dec dk_X5_renew 41 rfl) rfl ?_
        refine mm_getr (t := 6) C fl_X5_25 (mm_dec dk_X5_renew 42 rfl) rfl rfl (mm_ref i70c rfl) ?_
        refine mm_bipush C (mm_dec dk_X5_renew 43 rfl) ⟨by decide, by decide⟩ ?_
        refine mm_iconst C (mm_dec dk_X5_renew 44 rfl) ⟨by decide, by decide⟩ ?_
        refine mm_iast C (mm_dec dk_X5_renew 45 rfl) rfl (by omega) (by omega) ?_
        have i8 : mm_inv (mm_pa h70c 6 8 2) := mm_inv_pa i70c (show 0 ≤ 2 ∧ 2 ≤ 99 from ⟨by omega, by omega⟩)
        have f8 : mm_fr [(1, 5), (1, 6), (1, 7), (1, 8)] [2, 3, 4, 5, 6] h (mm_pa h70c 6 8 2) := mm_fr_pa f70c (by decide)
        obtain ⟨h8, eh8⟩ : ∃ z, z = mm_pa h70c 6 8 2 := ⟨_, rfl⟩
        rw [← eh8] at i8 f8 ⊢
        have qh8_40 : h8.1 1 5 = h70c.1 1 5 := by rw [eh8]; rfl
        have qh8_41 : h8.1 1 6 = h70c.1 1 6 := by rw [eh8]; rfl
        have qh8_42 : h8.1 1 7 = h70c.1 1 7 := by rw [eh8]; rfl
        have qh8_43 : h8.1 1 8 = h70c.1 1 8 := by rw [eh8]; rfl
        exact mm_vret C T (mm_dec dk_X5_renew 46 rfl) (by decide : 0 ≤ 0) (by decide : 0 ≤ 0) ⟨rfl, ⟨i8, f8, by omega, by omega, by exact mm_al_sm (mm_al_fr w38_0 g70c (by decide)) (fun _ => (mm_sm_pa 2 eh8 (by decide) _)), by exact mm_al_hi y70_0 eh8 (by decide) (by decide), by exact mm_al_sm (mm_al_fr w38_1 g70c (by decide)) (fun _ => (mm_sm_pa 3 eh8 (by decide) _)), by exact mm_al_sm (mm_al_fr (mm_al_le w38_2 (by omega)) g70c (by decide)) (fun _ => (mm_sm_pa 4 eh8 (by decide) _)), by exact mm_al_sm (mm_al_fr (mm_al_le w38_3 (by omega)) g70c (by decide)) (fun _ => (mm_sm_pa 5 eh8 (by decide) _)), by exact mm_pa_is eh8 rfl, by omega, by omega⟩⟩
      · skip
        refine mm_aload_n C (mm_dec dk_X5_renew 25 rfl) rfl ?_
        refine mm_getr (t := 4) C fl_X5_18 (mm_dec dk_X5_renew 26 rfl) rfl rfl (mm_ref i38_ rfl) ?_
        refine mm_iload_n C (mm_dec dk_X5_renew 27 rfl) rfl ?_
        refine mm_iconst C (mm_dec dk_X5_renew 28 rfl) ⟨by decide, by decide⟩ ?_
        refine mm_zast C (mm_dec dk_X5_renew 29 rfl) rfl (by omega) (by omega) (by omega) ?_
        have i9 : mm_inv (mm_pa h38_ 4 x38_3 0) := mm_inv_pa i38_ (show 0 ≤ 0 ∧ 0 ≤ 1 from ⟨by omega, by omega⟩)
        have f9 : mm_fr [(1, 5), (1, 6), (1, 7), (1, 8)] [2, 3, 4, 5, 6] h (mm_pa h38_ 4 x38_3 0) := mm_fr_pa f38_ (by decide)
        obtain ⟨h9, eh9⟩ : ∃ z, z = mm_pa h38_ 4 x38_3 0 := ⟨_, rfl⟩
        rw [← eh9] at i9 f9 ⊢
        have qh9_44 : h9.1 1 5 = h38_.1 1 5 := by rw [eh9]; rfl
        have qh9_45 : h9.1 1 6 = h38_.1 1 6 := by rw [eh9]; rfl
        have qh9_46 : h9.1 1 7 = h38_.1 1 7 := by rw [eh9]; rfl
        have qh9_47 : h9.1 1 8 = h38_.1 1 8 := by rw [eh9]; rfl
        refine mm_aload_n C (mm_dec dk_X5_renew 30 rfl) rfl ?_
        refine mm_getr (t := 5) C fl_X5_22 (mm_dec dk_X5_renew 31 rfl) rfl rfl (mm_ref i9 rfl) ?_
        refine mm_iload_n C (mm_dec dk_X5_renew 32 rfl) rfl ?_
        refine mm_iconst C (mm_dec dk_X5_renew 33 rfl) ⟨by decide, by decide⟩ ?_
        refine mm_zast C (mm_dec dk_X5_renew 34 rfl) rfl (by omega) (by omega) (by omega) ?_
        have i10 : mm_inv (mm_pa h9 5 x38_3 0) := mm_inv_pa i9 (show 0 ≤ 0 ∧ 0 ≤ 1 from ⟨by omega, by omega⟩)
        have f10 : mm_fr [(1, 5), (1, 6), (1, 7), (1, 8)] [2, 3, 4, 5, 6] h (mm_pa h9 5 x38_3 0) := mm_fr_pa f9 (by decide)
        obtain ⟨h10, eh10⟩ : ∃ z, z = mm_pa h9 5 x38_3 0 := ⟨_, rfl⟩
        rw [← eh10] at i10 f10 ⊢
        have qh10_48 : h10.1 1 5 = h9.1 1 5 := by rw [eh10]; rfl
        have qh10_49 : h10.1 1 6 = h9.1 1 6 := by rw [eh10]; rfl
        have qh10_50 : h10.1 1 7 = h9.1 1 7 := by rw [eh10]; rfl
        have qh10_51 : h10.1 1 8 = h9.1 1 8 := by rw [eh10]; rfl
        refine mm_iincL (ls2 := [mR 1, mU, mU, mI (x38_3 + 1)]) C (mm_dec dk_X5_renew 35 rfl) rfl (by decide) ⟨by omega, by omega⟩ rfl ?_
        refine mm_goto (tgt := 38) C (mm_dec dk_X5_renew 36 rfl) (by decide) ?_
        exact ih38 (x38_3 + 1) ⟨by omega, by omega⟩ h10 i10 f10 (by first | exact mm_al_fr y25_0 g33c (by decide) | exact mm_al_sm w38_0 (fun _ => ((mm_sm_pa 2 eh10 (by decide) _).trans (mm_sm_pa 2 eh9 (by decide) _)))) (by first | exact y33_0 | exact mm_al_sm w38_1 (fun _ => ((mm_sm_pa 3 eh10 (by decide) _).trans (mm_sm_pa 3 eh9 (by decide) _)))) (by first | exact mm_al_nil (by omega) | (rw [show x38_3 + 1 - 1 = x38_3 by omega]; exact mm_al_sm (mm_al_put w38_2 eh9) (fun _ => (mm_sm_pa 4 eh10 (by decide) _)))) (by first | exact mm_al_nil (by omega) | (rw [show x38_3 + 1 - 1 = x38_3 by omega]; exact mm_al_put (mm_al_sm w38_3 (fun _ => (mm_sm_pa 5 eh9 (by decide) _))) eh10)) (by omega) (by omega) (by omega) (by omega) (by omega)
  refine mm_istore_nL (ls2 := [mR 1, mI p1, mI p2, mI 0]) C (mm_dec dk_X5_renew 21 rfl) (by decide) rfl ?_
  refine mm_fgt 1 ?_
  refine mm_fgt 2 ?_
  exact J38 (((400 - 0) : Int) + 1).toNat 0 ⟨by omega, by omega⟩ h33c i33c f33c (by first | exact mm_al_fr y25_0 g33c (by decide) | exact mm_al_sm w38_0 (fun _ => ((mm_sm_pa 2 eh10 (by decide) _).trans (mm_sm_pa 2 eh9 (by decide) _)))) (by first | exact y33_0 | exact mm_al_sm w38_1 (fun _ => ((mm_sm_pa 3 eh10 (by decide) _).trans (mm_sm_pa 3 eh9 (by decide) _)))) (by first | exact mm_al_nil (by omega) | (rw [show x38_3 + 1 - 1 = x38_3 by omega]; exact mm_al_sm (mm_al_put w38_2 eh9) (fun _ => (mm_sm_pa 4 eh10 (by decide) _)))) (by first | exact mm_al_nil (by omega) | (rw [show x38_3 + 1 - 1 = x38_3 by omega]; exact mm_al_put (mm_al_sm w38_3 (fun _ => (mm_sm_pa 5 eh9 (by decide) _))) eh10)) (by omega) (by omega) (by omega) (by omega) (by omega)
set_option maxRecDepth 100000 in
set_option maxHeartbeats 4000000 in
theorem c_X11_land_q (l : Launch) (hl : l.stackTraces = false) (d : Nat) (hd : 2 ≤ d) (h : mH) (i0 : mm_inv h) (p1 : Int) (p2 : Int) : mm_Met l d yX11_land cX11_land 3 (some .boolean) [mR 0, mI p1, mI p2] h (mm_pi fun r h2 => (0 ≤ r ∧ r ≤ 1) ∧ mm_inv h2 ∧ mm_fr [(0, 13), (0, 14), (1, 5), (1, 6), (1, 7), (1, 8), (7, 9), (14, 7), (14, 8), (22, 8), (22, 9), (30, 6), (30, 12), (30, 13), (42, 3), (58, 10)] [2, 3, 4, 5, 6, 44] h h2 ∧ ((r = 1 ∧ 1 ≤ p1 ∧ p1 ≤ 20 ∧ 1 ≤ p2 ∧ p2 ≤ 20) ∨ (r = 0 ∧ (p1 < 1 ∨ 20 < p1 ∨ p2 < 1 ∨ 20 < p2))) ∧ ((r = 0 ∧ h2.1 14 8 = h.1 14 8 ∧ h2.1 22 8 = h.1 22 8 ∧ h2.1 0 13 = h.1 0 13 ∧ h2.1 1 5 = h.1 1 5 ∧ h2.1 1 6 = h.1 1 6 ∧ h2.1 22 9 = h.1 22 9) ∨ (r = 1 ∧ h2.1 14 8 = 0 ∧ h2.1 22 8 = 0 ∧ h2.1 0 13 = 0 ∧ h2.1 1 5 = p1 ∧ h2.1 1 6 = p2 ∧ h2.1 22 9 = 0)) ∧ ((r = 0 ∧ h2.1 14 7 = h.1 14 7) ∨ (r = 1 ∧ h2.1 14 7 = 0)) ∧ (r = 1 → mm_al h2 2 399 0 ∧ mm_al h2 6 7 5 ∧ mm_al h2 3 399 0 ∧ mm_al h2 4 399 0 ∧ mm_al h2 5 399 0 ∧ h2.2.1 6 8 = 2) ∧ (r = 0 → ∀ o j, h2.2.1 o j = h.2.1 o j) ∧ ((r = 0 ∧ h2.1 1 7 = h.1 1 7) ∨ (r = 1 ∧ h2.1 1 7 = 0)) ∧ ((r = 0 ∧ h2.1 1 8 = h.1 1 8) ∨ (r = 1 ∧ h2.1 1 8 = 0)) ∧ (r = 1 → h2.2.1 44 0 = 3600 ∧ h2.2.1 44 1 = 60 ∧ h2.2.1 44 2 = 900) ∧ ((r = 0 ∧ h2.1 0 14 = h.1 0 14) ∨ (r = 1 ∧ h2.1 0 14 = -1)) ∧ ((r = 0 ∧ h2.1 30 6 = h.1 30 6 ∧ h2.1 30 12 = h.1 30 12) ∨ (r = 1 ∧ h2.1 30 6 = 0 ∧ h2.1 30 12 = 0))) mm_nx 0 0 := by
  refine mm_ofW (ls := [mR 0, mI p1, mI p2]) hl (by decide) rfl (Nat.le_of_ble_eq_true rfl) ?_
  intro x hxl C T hnm htb
  subst hxl
  have C1 := mm_OK_le (d' := d - 1 + 1) (by omega) C
  refine mm_rng (fun hr _ => ?_)
  have ap1 : -2147483648 ≤ p1 ∧ p1 < 2147483648 := mm_ok_at hr (i := 1) rfl
  have ap2 : -2147483648 ≤ p2 ∧ p2 < 2147483648 := mm_ok_at hr (i := 2) rfl
  have f0 : mm_fr [(0, 13), (0, 14), (1, 5), (1, 6), (1, 7), (1, 8), (7, 9), (14, 7), (14, 8), (22, 8), (22, 9), (30, 6), (30, 12), (30, 13), (42, 3), (58, 10)] [2, 3, 4, 5, 6, 44] h h := mm_fr_rf
  have g1 : 0 ≤ h.1 14 8 ∧ h.1 14 8 ≤ 8 := i0.1 14 8
  have g2 : 0 ≤ h.1 22 8 ∧ h.1 22 8 ≤ 40 := i0.1 22 8
  have g3 : 0 ≤ h.1 0 13 ∧ h.1 0 13 ≤ 99999 := i0.1 0 13
  have g4 : 1 ≤ h.1 1 5 ∧ h.1 1 5 ≤ 20 := i0.1 1 5
  have g5 : 1 ≤ h.1 1 6 ∧ h.1 1 6 ≤ 20 := i0.1 1 6
  have g6 : 0 ≤ h.1 14 7 ∧ h.1 14 7 ≤ 20 := i0.1 14 7
  have g7 : 0 ≤ h.1 1 7 ∧ h.1 1 7 ≤ 399 := i0.1 1 7
  have g8 : 0 ≤ h.1 22 9 ∧ h.1 22 9 ≤ 10 := i0.1 22 9
  have g9 : 0 ≤ h.1 1 8 ∧ h.1 1 8 ≤ 399 := i0.1 1 8
  have g10 : -2147483648 ≤ h.1 0 14 ∧ h.1 0 14 ≤ 2147483647 := i0.1 0 14
  have g11 : 0 ≤ h.1 30 6 ∧ h.1 30 6 ≤ 500 := i0.1 30 6
  have g12 : 0 ≤ h.1 30 12 ∧ h.1 30 12 ≤ 40 := i0.1 30 12
  refine mm_iload_n C (mm_dec dk_X11_land 0 rfl) rfl ?_
  refine mm_iconst C (mm_dec dk_X11_land 1 rfl) ⟨by decide, by decide⟩ ?_
  have J22 : ∀ (w22_0 : (p1 < 1 ∨ 20 < p1 ∨ p2 < 1 ∨ 20 < p2)), mm_W x 0 0 22 [mU, mU, mU] [] h := by
    intro w22_0
    have g13 : 0 ≤ h.1 14 8 ∧ h.1 14 8 ≤ 8 := i0.1 14 8
    have g14 : 0 ≤ h.1 22 8 ∧ h.1 22 8 ≤ 40 := i0.1 22 8
    have g15 : 0 ≤ h.1 0 13 ∧ h.1 0 13 ≤ 99999 := i0.1 0 13
    have g16 : 1 ≤ h.1 1 5 ∧ h.1 1 5 ≤ 20 := i0.1 1 5
    have g17 : 1 ≤ h.1 1 6 ∧ h.1 1 6 ≤ 20 := i0.1 1 6
    have g18 : 0 ≤ h.1 14 7 ∧ h.1 14 7 ≤ 20 := i0.1 14 7
    have g19 : 0 ≤ h.1 1 7 ∧ h.1 1 7 ≤ 399 := i0.1 1 7
    have g20 : 0 ≤ h.1 22 9 ∧ h.1 22 9 ≤ 10 := i0.1 22 9
    have g21 : 0 ≤ h.1 1 8 ∧ h.1 1 8 ≤ 399 := i0.1 1 8
    have g22 : -2147483648 ≤ h.1 0 14 ∧ h.1 0 14 ≤ 2147483647 := i0.1 0 14
    have g23 : 0 ≤ h.1 30 6 ∧ h.1 30 6 ≤ 500 := i0.1 30 6
    have g24 : 0 ≤ h.1 30 12 ∧ h.1 30 12 ≤ 40 := i0.1 30 12
    refine mm_iconst C (mm_dec dk_X11_land 12 rfl) ⟨by decide, by decide⟩ ?_
    exact mm_zret C T (mm_dec dk_X11_land 13 rfl) (by decide : 0 ≤ 0) (by decide : 0 ≤ 0) (by omega) ⟨_, rfl, ⟨⟨by omega, by omega⟩, i0, f0, by omega, by omega, by omega, by first | exact fun w => absurd w (by decide) | exact fun _ => ⟨mm_al_sm y30_2 (fun _ => ((mm_sm_pf 2 eh9 _).trans ((mm_sm_pf 2 eh8 _).trans ((g72c.2 2 (by decide) _).trans ((g65c.2 2 (by decide) _).trans ((g58c.2 2 (by decide) _).trans ((g51c.2 2 (by decide) _).trans ((g44c.2 2 (by decide) _).trans (g37c.2 2 (by decide) _))))))))), mm_al_sm y30_3 (fun _ => ((mm_sm_pf 6 eh9 _).trans ((mm_sm_pf 6 eh8 _).trans ((g72c.2 6 (by decide) _).trans ((g65c.2 6 (by decide) _).trans ((g58c.2 6 (by decide) _).trans ((g51c.2 6 (by decide) _).trans ((g44c.2 6 (by decide) _).trans (g37c.2 6 (by decide) _))))))))), mm_al_sm y30_4 (fun _ => ((mm_sm_pf 3 eh9 _).trans ((mm_sm_pf 3 eh8 _).trans ((g72c.2 3 (by decide) _).trans ((g65c.2 3 (by decide) _).trans ((g58c.2 3 (by decide) _).trans ((g51c.2 3 (by decide) _).trans ((g44c.2 3 (by decide) _).trans (g37c.2 3 (by decide) _))))))))), mm_al_sm y30_5 (fun _ => ((mm_sm_pf 4 eh9 _).trans ((mm_sm_pf 4 eh8 _).trans ((g72c.2 4 (by decide) _).trans ((g65c.2 4 (by decide) _).trans ((g58c.2 4 (by decide) _).trans ((g51c.2 4 (by decide) _).trans ((g44c.2 4 (by decide) _).trans (g37c.2 4 (by decide) _))))))))), mm_al_sm y30_6 (fun _ => ((mm_sm_pf 5 eh9 _).trans ((mm_sm_pf 5 eh8 _).trans ((g72c.2 5 (by decide) _).trans ((g65c.2 5 (by decide) _).trans ((g58c.2 5 (by decide) _).trans ((g51c.2 5 (by decide) _).trans ((g44c.2 5 (by decide) _).trans (g37c.2 5 (by decide) _))))))))), ((fun _ => ((mm_sm_pf 6 eh9 _).trans ((mm_sm_pf 6 eh8 _).trans ((g72c.2 6 (by decide) _).trans ((g65c.2 6 (by decide) _).trans ((g58c.2 6 (by decide) _).trans ((g51c.2 6 (by decide) _).trans ((g44c.2 6 (by decide) _).trans (g37c.2 6 (by decide) _))))))))) 8).trans y30_7⟩, by first | exact fun w => absurd w (by decide) | exact fun _ _ _ => rfl, by omega, by omega, by first | exact fun w => absurd w (by decide) | exact fun _ => ⟨((fun _ => ((mm_sm_pf 44 eh9 _).trans ((mm_sm_pf 44 eh8 _).trans (g72c.2 44 (by decide) _)))) 0).trans y65_0, ((fun _ => ((mm_sm_pf 44 eh9 _).trans ((mm_sm_pf 44 eh8 _).trans (g72c.2 44 (by decide) _)))) 1).trans y65_1, ((fun _ => ((mm_sm_pf 44 eh9 _).trans ((mm_sm_pf 44 eh8 _).trans (g72c.2 44 (by decide) _)))) 2).trans y65_2⟩, by omega, by omega⟩⟩
  refine mm_icmp_lt (tgt := 22) C (mm_dec dk_X11_land 2 rfl) (by decide) (fun c2 => ?_) (fun c2 => ?_)
  · skip
    refine mm_fgt 0 ?_
    refine mm_fgt 1 ?_
    refine mm_fgt 2 ?_
    exact J22 (by omega)
  · skip
    refine mm_iload_n C (mm_dec dk_X11_land 3 rfl) rfl ?_
    refine mm_bipush C (mm_dec dk_X11_land 4 rfl) ⟨by decide, by decide⟩ ?_
    refine mm_icmp_gt (tgt := 22) C (mm_dec dk_X11_land 5 rfl) (by decide) (fun c8 => ?_) (fun c8 => ?_)
    · skip
      refine mm_fgt 0 ?_
      refine mm_fgt 1 ?_
      refine mm_fgt 2 ?_
      exact J22 (by omega)
    · skip
      refine mm_iload_n C (mm_dec dk_X11_land 6 rfl) rfl ?_
      refine mm_iconst C (mm_dec dk_X11_land 7 rfl) ⟨by decide, by decide⟩ ?_
      refine mm_icmp_lt (tgt := 22) C (mm_dec dk_X11_land 8 rfl) (by decide) (fun c13 => ?_) (fun c13 => ?_)
      · skip
        refine mm_fgt 0 ?_
        refine mm_fgt 1 ?_
        refine mm_fgt 2 ?_
        exact J22 (by omega)
      · skip
        refine mm_iload_n C (mm_dec dk_X11_land 9 rfl) rfl ?_
        refine mm_bipush C (mm_dec dk_X11_land 10 rfl) ⟨by decide, by decide⟩ ?_
        refine mm_icmp_le (tgt := 24) C (mm_dec dk_X11_land 11 rfl) (by decide) (fun c19 => ?_) (fun c19 => ?_)
        · skip
          refine mm_aload_n C (mm_dec dk_X11_land 14 rfl) rfl ?_
          refine mm_getr (t := 1) C fl_X11_12 (mm_dec dk_X11_land 15 rfl) rfl rfl (mm_ref i0 rfl) ?_
          refine mm_iload_n C (mm_dec dk_X11_land 16 rfl) rfl ?_
          refine mm_iload_n C (mm_dec dk_X11_land 17 rfl) rfl ?_
          refine mm_cVv (rest := []) C1 ev_X11_108 (mm_dec dk_X11_land 18 rfl) (c_X5_renew_q x.2.1 hl (d - 1) (by omega) h i0 p1 p2 ⟨by omega, by omega⟩ ⟨by omega, by omega⟩) rfl rfl (Nat.le_of_ble_eq_true rfl) ⟨by decide, by decide⟩ rfl (fun h30c hp30 => ?_) (fun _ _ q => q.elim)
          obtain ⟨i30c, g30c, y30_0, y30_1, y30_2, y30_3, y30_4, y30_5, y30_6, y30_7, y30_8, y30_9⟩ := hp30
          have f30c : mm_fr [(0, 13), (0, 14), (1, 5), (1, 6), (1, 7), (1, 8), (7, 9), (14, 7), (14, 8), (22, 8), (22, 9), (30, 6), (30, 12), (30, 13), (42, 3), (58, 10)] [2, 3, 4, 5, 6, 44] h h30c := mm_fr_tr f0 g30c (by decide +kernel)
          have q30c_26 : h30c.1 0 13 = h.1 0 13 := g30c.1 0 13 (by decide)
          have q30c_27 : h30c.1 0 14 = h.1 0 14 := g30c.1 0 14 (by decide)
          have q30c_28 : h30c.1 14 7 = h.1 14 7 := g30c.1 14 7 (by decide)
          have q30c_29 : h30c.1 14 8 = h.1 14 8 := g30c.1 14 8 (by decide)
          have q30c_30 : h30c.1 22 8 = h.1 22 8 := g30c.1 22 8 (by decide)
          have q30c_31 : h30c.1 22 9 = h.1 22 9 := g30c.1 22 9 (by decide)
          have q30c_32 : h30c.1 30 6 = h.1 30 6 := g30c.1 30 6 (by decide)
          have q30c_33 : h30c.1 30 12 = h.1 30 12 := g30c.1 30 12 (by decide)
          have g34 : 1 ≤ (h30c.1 1 5) ∧ (h30c.1 1 5) ≤ 20 := i30c.1 1 5
          have g35 : 1 ≤ (h30c.1 1 6) ∧ (h30c.1 1 6) ≤ 20 := i30c.1 1 6
          have g36 : 0 ≤ (h30c.1 1 7) ∧ (h30c.1 1 7) ≤ 399 := i30c.1 1 7
          have g37 : 0 ≤ (h30c.1 1 8) ∧ (h30c.1 1 8) ≤ 399 := i30c.1 1 8
          refine mm_aload_n C (mm_dec dk_X11_land 19 rfl) rfl ?_
          refine mm_getr (t := 7) C fl_X11_21 (mm_dec dk_X11_land 20 rfl) rfl rfl (mm_ref i30c rfl) ?_
          refine mm_cVv (rest := []) C1 ev_X11_112 (mm_dec dk_X11_land 21 rfl) (c_X10_forget x.2.1 hl (d - 1) (by omega) h30c i30c ) rfl rfl (Nat.le_of_ble_eq_true rfl) ⟨by decide, by decide⟩ rfl (fun h37c hp37 => ?_) (fun _ _ q => q.elim)
          obtain ⟨i37c, g37c⟩ := hp37
          have f37c : mm_fr [(0, 13), (0, 14), (1, 5), (1, 6), (1, 7), (1, 8), (7, 9), (14, 7), (14, 8), (22, 8), (22, 9), (30, 6), (30, 12), (30, 13), (42, 3), (58, 10)] [2, 3, 4, 5, 6, 44] h h37c := mm_fr_tr f30c g37c (by decide +kernel)
          have q37c_39 : h37c.1 0 13 = h30c.1 0 13 := g37c.1 0 13 (by decide)
          have q37c_40 : h37c.1 0 14 = h30c.1 0 14 := g37c.1 0 14 (by decide)
          have q37c_41 : h37c.1 1 5 = h30c.1 1 5 := g37c.1 1 5 (by decide)
          have q37c_42 : h37c.1 1 6 = h30c.1 1 6 := g37c.1 1 6 (by decide)
          have q37c_43 : h37c.1 1 7 = h30c.1 1 7 := g37c.1 1 7 (by decide)
          have q37c_44 : h37c.1 1 8 = h30c.1 1 8 := g37c.1 1 8 (by decide)
          have q37c_45 : h37c.1 14 7 = h30c.1 14 7 := g37c.1 14 7 (by decide)
          have q37c_46 : h37c.1 14 8 = h30c.1 14 8 := g37c.1 14 8 (by decide)
          have q37c_47 : h37c.1 22 8 = h30c.1 22 8 := g37c.1 22 8 (by decide)
          have q37c_48 : h37c.1 22 9 = h30c.1 22 9 := g37c.1 22 9 (by decide)
          have q37c_49 : h37c.1 30 6 = h30c.1 30 6 := g37c.1 30 6 (by decide)
          have q37c_50 : h37c.1 30 12 = h30c.1 30 12 := g37c.1 30 12 (by decide)
          refine mm_aload_n C (mm_dec dk_X11_land 22 rfl) rfl ?_
          refine mm_getr (t := 14) C fl_X11_28 (mm_dec dk_X11_land 23 rfl) rfl rfl (mm_ref i37c rfl) ?_
          refine mm_cVv (rest := []) C1 ev_X11_115 (mm_dec dk_X11_land 24 rfl) (c_X2_clear_q x.2.1 hl (d - 1) (by omega) h37c i37c ) rfl rfl (Nat.le_of_ble_eq_true rfl) ⟨by decide, by decide⟩ rfl (fun h44c hp44 => ?_) (fun _ _ q => q.elim)
          obtain ⟨i44c, g44c, y44_0, y44_1⟩ := hp44
          have f44c : mm_fr [(0, 13), (0, 14), (1, 5), (1, 6), (1, 7), (1, 8), (7, 9), (14, 7), (14, 8), (22, 8), (22, 9), (30, 6), (30, 12), (30, 13), (42, 3), (58, 10)] [2, 3, 4, 5, 6, 44] h h44c := mm_fr_tr f37c g44c (by decide +kernel)
          have q44c_52 : h44c.1 0 13 = h37c.1 0 13 := g44c.1 0 13 (by decide)
          have q44c_53 : h44c.1 0 14 = h37c.1 0 14 := g44c.1 0 14 (by decide)
          have q44c_54 : h44c.1 1 5 = h37c.1 1 5 := g44c.1 1 5 (by decide)
          have q44c_55 : h44c.1 1 6 = h37c.1 1 6 := g44c.1 1 6 (by decide)
          have q44c_56 : h44c.1 1 7 = h37c.1 1 7 := g44c.1 1 7 (by decide)
          have q44c_57 : h44c.1 1 8 = h37c.1 1 8 := g44c.1 1 8 (by decide)
          have q44c_58 : h44c.1 22 8 = h37c.1 22 8 := g44c.1 22 8 (by decide)
          have q44c_59 : h44c.1 22 9 = h37c.1 22 9 := g44c.1 22 9 (by decide)
          have q44c_60 : h44c.1 30 6 = h37c.1 30 6 := g44c.1 30 6 (by decide)
          have q44c_61 : h44c.1 30 12 = h37c.1 30 12 := g44c.1 30 12 (by decide)
          have g62 : 0 ≤ (h44c.1 14 8) ∧ (h44c.1 14 8) ≤ 8 := i44c.1 14 8
          have g63 : 0 ≤ (h44c.1 14 7) ∧ (h44c.1 14 7) ≤ 20 := i44c.1 14 7
          refine mm_aload_n C (mm_dec dk_X11_land 25 rfl) rfl ?_
          refine mm_getr (t := 22) C fl_X11_37 (mm_dec dk_X11_land 26 rfl) rfl rfl (mm_ref i44c rfl) ?_
          refine mm_cVv (rest := []) C1 ev_X11_118 (mm_dec dk_X11_land 27 rfl) (c_X9_clear_q x.2.1 hl (d - 1) (by omega) h44c i44c ) rfl rfl (Nat.le_of_ble_eq_true rfl) ⟨by decide, by decide⟩ rfl (fun h51c hp51 => ?_) (fun _ _ q => q.elim)
          obtain ⟨i51c, g51c, y51_0, y51_1⟩ := hp51
          have f51c : mm_fr [(0, 13), (0, 14), (1, 5), (1, 6), (1, 7), (1, 8), (7, 9), (14, 7), (14, 8), (22, 8), (22, 9), (30, 6), (30, 12), (30, 13), (42, 3), (58, 10)] [2, 3, 4, 5, 6, 44] h h51c := mm_fr_tr f44c g51c (by decide +kernel)
          have q51c_65 : h51c.1 0 13 = h44c.1 0 13 := g51c.1 0 13 (by decide)
          have q51c_66 : h51c.1 0 14 = h44c.1 0 14 := g51c.1 0 14 (by decide)
          have q51c_67 : h51c.1 1 5 = h44c.1 1 5 := g51c.1 1 5 (by decide)
          have q51c_68 : h51c.1 1 6 = h44c.1 1 6 := g51c.1 1 6 (by decide)
          have q51c_69 : h51c.1 1 7 = h44c.1 1 7 := g51c.1 1 7 (by decide)
          have q51c_70 : h51c.1 1 8 = h44c.1 1 8 := g51c.1 1 8 (by decide)
          have q51c_71 : h51c.1 14 7 = h44c.1 14 7 := g51c.1 14 7 (by decide)
          have q51c_72 : h51c.1 14 8 = h44c.1 14 8 := g51c.1 14 8 (by decide)
          have q51c_73 : h51c.1 30 6 = h44c.1 30 6 := g51c.1 30 6 (by decide)
          have q51c_74 : h51c.1 30 12 = h44c.1 30 12 := g51c.1 30 12 (by decide)
          have g75 : 0 ≤ (h51c.1 22 8) ∧ (h51c.1 22 8) ≤ 40 := i51c.1 22 8
          have g76 : 0 ≤ (h51c.1 22 9) ∧ (h51c.1 22 9) ≤ 10 := i51c.1 22 9
          refine mm_aload_n C (mm_dec dk_X11_land 28 rfl) rfl ?_
          refine mm_getr (t := 30) C fl_X11_44 (mm_dec dk_X11_land 29 rfl) rfl rfl (mm_ref i51c rfl) ?_
          refine mm_cVv (rest := []) C1 ev_X11_119 (mm_dec dk_X11_land 30 rfl) (c_X6_clear_q x.2.1 hl (d - 1) (by omega) h51c i51c ) rfl rfl (Nat.le_of_ble_eq_true rfl) ⟨by decide, by decide⟩ rfl (fun h58c hp58 => ?_) (fun _ _ q => q.elim)
          obtain ⟨i58c, g58c, y58_0, y58_1⟩ := hp58
          have f58c : mm_fr [(0, 13), (0, 14), (1, 5), (1, 6), (1, 7), (1, 8), (7, 9), (14, 7), (14, 8), (22, 8), (22, 9), (30, 6), (30, 12), (30, 13), (42, 3), (58, 10)] [2, 3, 4, 5, 6, 44] h h58c := mm_fr_tr f51c g58c (by decide +kernel)
          have q58c_78 : h58c.1 0 13 = h51c.1 0 13 := g58c.1 0 13 (by decide)
          have q58c_79 : h58c.1 0 14 = h51c.1 0 14 := g58c.1 0 14 (by decide)
          have q58c_80 : h58c.1 1 5 = h51c.1 1 5 := g58c.1 1 5 (by decide)
          have q58c_81 : h58c.1 1 6 = h51c.1 1 6 := g58c.1 1 6 (by decide)
          have q58c_82 : h58c.1 1 7 = h51c.1 1 7 := g58c.1 1 7 (by decide)
          have q58c_83 : h58c.1 1 8 = h51c.1 1 8 := g58c.1 1 8 (by decide)
          have q58c_84 : h58c.1 14 7 = h51c.1 14 7 := g58c.1 14 7 (by decide)
          have q58c_85 : h58c.1 14 8 = h51c.1 14 8 := g58c.1 14 8 (by decide)
          have q58c_86 : h58c.1 22 8 = h51c.1 22 8 := g58c.1 22 8 (by decide)
          have q58c_87 : h58c.1 22 9 = h51c.1 22 9 := g58c.1 22 9 (by decide)
          have g88 : 0 ≤ (h58c.1 30 6) ∧ (h58c.1 30 6) ≤ 500 := i58c.1 30 6
          have g89 : 0 ≤ (h58c.1 30 12) ∧ (h58c.1 30 12) ≤ 40 := i58c.1 30 12
          refine mm_aload_n C (mm_dec dk_X11_land 31 rfl) rfl ?_
          refine mm_getr (t := 42) C fl_X11_51 (mm_dec dk_X11_land 32 rfl) rfl rfl (mm_ref i58c rfl) ?_
          refine mm_cVv (rest := []) C1 ev_X11_120 (mm_dec dk_X11_land 33 rfl) (c_X8_clear_q x.2.1 hl (d - 1) (by omega) h58c i58c ) rfl rfl (Nat.le_of_ble_eq_true rfl) ⟨by decide, by decide⟩ rfl (fun h65c hp65 => ?_) (fun _ _ q => q.elim)
          obtain ⟨i65c, g65c, y65_0, y65_1, y65_2⟩ := hp65
          have f65c : mm_fr [(0, 13), (0, 14), (1, 5), (1, 6), (1, 7), (1, 8), (7, 9), (14, 7), (14, 8), (22, 8), (22, 9), (30, 6), (30, 12), (30, 13), (42, 3), (58, 10)] [2, 3, 4, 5, 6, 44] h h65c := mm_fr_tr f58c g65c (by decide +kernel)
          have q65c_91 : h65c.1 0 13 = h58c.1 0 13 := g65c.1 0 13 (by decide)
          have q65c_92 : h65c.1 0 14 = h58c.1 0 14 := g65c.1 0 14 (by decide)
          have q65c_93 : h65c.1 1 5 = h58c.1 1 5 := g65c.1 1 5 (by decide)
          have q65c_94 : h65c.1 1 6 = h58c.1 1 6 := g65c.1 1 6 (by decide)
          have q65c_95 : h65c.1 1 7 = h58c.1 1 7 := g65c.1 1 7 (by decide)
          have q65c_96 : h65c.1 1 8 = h58c.1 1 8 := g65c.1 1 8 (by decide)
          have q65c_97 : h65c.1 14 7 = h58c.1 14 7 := g65c.1 14 7 (by decide)
          have q65c_98 : h65c.1 14 8 = h58c.1 14 8 := g65c.1 14 8 (by decide)
          have q65c_99 : h65c.1 22 8 = h58c.1 22 8 := g65c.1 22 8 (by decide)
          have q65c_100 : h65c.1 22 9 = h58c.1 22 9 := g65c.1 22 9 (by decide)
          have q65c_101 : h65c.1 30 6 = h58c.1 30 6 := g65c.1 30 6 (by decide)
          have q65c_102 : h65c.1 30 12 = h58c.1 30 12 := g65c.1 30 12 (by decide)
          refine mm_aload_n C (mm_dec dk_X11_land 34 rfl) rfl ?_
          refine mm_getr (t := 58) C fl_X11_78 (mm_dec dk_X11_land 35 rfl) rfl rfl (mm_ref i65c rfl) ?_
          refine mm_cVv (rest := []) C1 ev_X11_121 (mm_dec dk_X11_land 36 rfl) (c_X0_forget x.2.1 hl (d - 1) (by omega) h65c i65c ) rfl rfl (Nat.le_of_ble_eq_true rfl) ⟨by decide, by decide⟩ rfl (fun h72c hp72 => ?_) (fun _ _ q => q.elim)
          obtain ⟨i72c, g72c⟩ := hp72
          have f72c : mm_fr [(0, 13), (0, 14), (1, 5), (1, 6), (1, 7), (1, 8), (7, 9), (14, 7), (14, 8), (22, 8), (22, 9), (30, 6), (30, 12), (30, 13), (42, 3), (58, 10)] [2, 3, 4, 5, 6, 44] h h72c := mm_fr_tr f65c g72c (by decide +kernel)
          have q72c_104 : h72c.1 0 13 = h65c.1 0 13 := g72c.1 0 13 (by decide)
          have q72c_105 : h72c.1 0 14 = h65c.1 0 14 := g72c.1 0 14 (by decide)
          have q72c_106 : h72c.1 1 5 = h65c.1 1 5 := g72c.1 1 5 (by decide)
          have q72c_107 : h72c.1 1 6 = h65c.1 1 6 := g72c.1 1 6 (by decide)
          have q72c_108 : h72c.1 1 7 = h65c.1 1 7 := g72c.1 1 7 (by decide)
          have q72c_109 : h72c.1 1 8 = h65c.1 1 8 := g72c.1 1 8 (by decide)
          have q72c_110 : h72c.1 14 7 = h65c.1 14 7 := g72c.1 14 7 (by decide)
          have q72c_111 : h72c.1 14 8 = h65c.1 14 8 := g72c.1 14 8 (by decide)
          have q72c_112 : h72c.1 22 8 = h65c.1 22 8 := g72c.1 22 8 (by decide)
          have q72c_113 : h72c.1 22 9 = h65c.1 22 9 := g72c.1 22 9 (by decide)
          have q72c_114 : h72c.1 30 6 = h65c.1 30 6 := g72c.1 30 6 (by decide)
          have q72c_115 : h72c.1 30 12 = h65c.1 30 12 := g72c.1 30 12 (by decide)
          refine mm_aload_n C (mm_dec dk_X11_land 37 rfl) rfl ?_
          refine mm_iconst C (mm_dec dk_X11_land 38 rfl) ⟨by decide, by decide⟩ ?_
          refine mm_puti C fl_X11_102 (mm_dec dk_X11_land 39 rfl) rfl rfl rfl (Or.inl ⟨rfl, rfl⟩) ?_
          have i8 : mm_inv (mm_pf h72c 0 13 0) := mm_inv_pf i72c (show 0 ≤ 0 ∧ 0 ≤ 99999 from ⟨by omega, by omega⟩) (by decide)
          have f8 : mm_fr [(0, 13), (0, 14), (1, 5), (1, 6), (1, 7), (1, 8), (7, 9), (14, 7), (14, 8), (22, 8), (22, 9), (30, 6), (30, 12), (30, 13), (42, 3), (58, 10)] [2, 3, 4, 5, 6, 44] h (mm_pf h72c 0 13 0) := mm_fr_pf f72c (by decide)
          obtain ⟨h8, eh8⟩ : ∃ z, z = mm_pf h72c 0 13 0 := ⟨_, rfl⟩
          rw [← eh8] at i8 f8 ⊢
          have qh8 : h8.1 0 13 = 0 := by rw [eh8]; exact mm_pf_same _ _ _ _
          have qh8_116 : h8.1 0 14 = h72c.1 0 14 := by rw [eh8]; exact mm_pf_ne _ _ (by decide)
          have qh8_117 : h8.1 1 5 = h72c.1 1 5 := by rw [eh8]; exact mm_pf_ne _ _ (by decide)
          have qh8_118 : h8.1 1 6 = h72c.1 1 6 := by rw [eh8]; exact mm_pf_ne _ _ (by decide)
          have qh8_119 : h8.1 1 7 = h72c.1 1 7 := by rw [eh8]; exact mm_pf_ne _ _ (by decide)
          have qh8_120 : h8.1 1 8 = h72c.1 1 8 := by rw [eh8]; exact mm_pf_ne _ _ (by decide)
          have qh8_121 : h8.1 14 7 = h72c.1 14 7 := by rw [eh8]; exact mm_pf_ne _ _ (by decide)
          have qh8_122 : h8.1 14 8 = h72c.1 14 8 := by rw [eh8]; exact mm_pf_ne _ _ (by decide)
          have qh8_123 : h8.1 22 8 = h72c.1 22 8 := by rw [eh8]; exact mm_pf_ne _ _ (by decide)
          have qh8_124 : h8.1 22 9 = h72c.1 22 9 := by rw [eh8]; exact mm_pf_ne _ _ (by decide)
          have qh8_125 : h8.1 30 6 = h72c.1 30 6 := by rw [eh8]; exact mm_pf_ne _ _ (by decide)
          have qh8_126 : h8.1 30 12 = h72c.1 30 12 := by rw [eh8]; exact mm_pf_ne _ _ (by decide)
          refine mm_aload_n C (mm_dec dk_X11_land 40 rfl) rfl ?_
          refine mm_iconst C (mm_dec dk_X11_land 41 rfl) ⟨by decide, by decide⟩ ?_
          refine mm_puti C fl_X11_105 (mm_dec dk_X11_land 42 rfl) rfl rfl rfl (Or.inl ⟨rfl, rfl⟩) ?_
          have i9 : mm_inv (mm_pf h8 0 14 (-1)) := mm_inv_pf i8 (show -2147483648 ≤ (-1) ∧ (-1) ≤ 2147483647 from ⟨by omega, by omega⟩) (by decide)
          have f9 : mm_fr [(0, 13), (0, 14), (1, 5), (1, 6), (1, 7), (1, 8), (7, 9), (14, 7), (14, 8), (22, 8), (22, 9), (30, 6), (30, 12), (30, 13), (42, 3), (58, 10)] [2, 3, 4, 5, 6, 44] h (mm_pf h8 0 14 (-1)) := mm_fr_pf f8 (by decide)
          obtain ⟨h9, eh9⟩ : ∃ z, z = mm_pf h8 0 14 (-1) := ⟨_, rfl⟩
          rw [← eh9] at i9 f9 ⊢
          have qh9 : h9.1 0 14 = (-1) := by rw [eh9]; exact mm_pf_same _ _ _ _
          have qh9_127 : h9.1 0 13 = h8.1 0 13 := by rw [eh9]; exact mm_pf_ne _ _ (by decide)
          have qh9_128 : h9.1 1 5 = h8.1 1 5 := by rw [eh9]; exact mm_pf_ne _ _ (by decide)
          have qh9_129 : h9.1 1 6 = h8.1 1 6 := by rw [eh9]; exact mm_pf_ne _ _ (by decide)
          have qh9_130 : h9.1 1 7 = h8.1 1 7 := by rw [eh9]; exact mm_pf_ne _ _ (by decide)
          have qh9_131 : h9.1 1 8 = h8.1 1 8 := by rw [eh9]; exact mm_pf_ne _ _ (by decide)
          have qh9_132 : h9.1 14 7 = h8.1 14 7 := by rw [eh9]; exact mm_pf_ne _ _ (by decide)
          have qh9_133 : h9.1 14 8 = h8.1 14 8 := by rw [eh9]; exact mm_pf_ne _ _ (by decide)
          have qh9_134 : h9.1 22 8 = h8.1 22 8 := by rw [eh9]; exact mm_pf_ne _ _ (by decide)
          have qh9_135 : h9.1 22 9 = h8.1 22 9 := by rw [eh9]; exact mm_pf_ne _ _ (by decide)
          have qh9_136 : h9.1 30 6 = h8.1 30 6 := by rw [eh9]; exact mm_pf_ne _ _ (by decide)
          have qh9_137 : h9.1 30 12 = h8.1 30 12 := by rw [eh9]; exact mm_pf_ne _ _ (by decide)
          refine mm_iconst C (mm_dec dk_X11_land 43 rfl) ⟨by decide, by decide⟩ ?_
          exact mm_zret C T (mm_dec dk_X11_land 44 rfl) (by decide : 0 ≤ 0) (by decide : 0 ≤ 0) (by omega) ⟨_, rfl, ⟨⟨by omega, by omega⟩, i9, f9, by omega, by omega, by omega, by first | exact fun w => absurd w (by decide) | exact fun _ => ⟨mm_al_sm y30_2 (fun _ => ((mm_sm_pf 2 eh9 _).trans ((mm_sm_pf 2 eh8 _).trans ((g72c.2 2 (by decide) _).trans ((g65c.2 2 (by decide) _).trans ((g58c.2 2 (by decide) _).trans ((g51c.2 2 (by decide) _).trans ((g44c.2 2 (by decide) _).trans (g37c.2 2 (by decide) _))))))))), mm_al_sm y30_3 (fun _ => ((mm_sm_pf 6 eh9 _).trans ((mm_sm_pf 6 eh8 _).trans ((g72c.2 6 (by decide) _).trans ((g65c.2 6 (by decide) _).trans ((g58c.2 6 (by decide) _).trans ((g51c.2 6 (by decide) _).trans ((g44c.2 6 (by decide) _).trans (g37c.2 6 (by decide) _))))))))), mm_al_sm y30_4 (fun _ => ((mm_sm_pf 3 eh9 _).trans ((mm_sm_pf 3 eh8 _).trans ((g72c.2 3 (by decide) _).trans ((g65c.2 3 (by decide) _).trans ((g58c.2 3 (by decide) _).trans ((g51c.2 3 (by decide) _).trans ((g44c.2 3 (by decide) _).trans (g37c.2 3 (by decide) _))))))))), mm_al_sm y30_5 (fun _ => ((mm_sm_pf 4 eh9 _).trans ((mm_sm_pf 4 eh8 _).trans ((g72c.2 4 (by decide) _).trans ((g65c.2 4 (by decide) _).trans ((g58c.2 4 (by decide) _).trans ((g51c.2 4 (by decide) _).trans ((g44c.2 4 (by decide) _).trans (g37c.2 4 (by decide) _))))))))), mm_al_sm y30_6 (fun _ => ((mm_sm_pf 5 eh9 _).trans ((mm_sm_pf 5 eh8 _).trans ((g72c.2 5 (by decide) _).trans ((g65c.2 5 (by decide) _).trans ((g58c.2 5 (by decide) _).trans ((g51c.2 5 (by decide) _).trans ((g44c.2 5 (by decide) _).trans (g37c.2 5 (by decide) _))))))))), ((fun _ => ((mm_sm_pf 6 eh9 _).trans ((mm_sm_pf 6 eh8 _).trans ((g72c.2 6 (by decide) _).trans ((g65c.2 6 (by decide) _).trans ((g58c.2 6 (by decide) _).trans ((g51c.2 6 (by decide) _).trans ((g44c.2 6 (by decide) _).trans (g37c.2 6 (by decide) _))))))))) 8).trans y30_7⟩, by first | exact fun w => absurd w (by decide) | exact fun _ _ _ => rfl, by omega, by omega, by first | exact fun w => absurd w (by decide) | exact fun _ => ⟨((fun _ => ((mm_sm_pf 44 eh9 _).trans ((mm_sm_pf 44 eh8 _).trans (g72c.2 44 (by decide) _)))) 0).trans y65_0, ((fun _ => ((mm_sm_pf 44 eh9 _).trans ((mm_sm_pf 44 eh8 _).trans (g72c.2 44 (by decide) _)))) 1).trans y65_1, ((fun _ => ((mm_sm_pf 44 eh9 _).trans ((mm_sm_pf 44 eh8 _).trans (g72c.2 44 (by decide) _)))) 2).trans y65_2⟩, by omega, by omega⟩⟩
        · skip
          refine mm_fgt 0 ?_
          refine mm_fgt 1 ?_
          refine mm_fgt 2 ?_
          exact J22 (by omega)
set_option maxRecDepth 100000 in
set_option maxHeartbeats 4000000 in
theorem c_X11_course_q (l : Launch) (hl : l.stackTraces = false) (d : Nat) (hd : 1 ≤ d) (h : mH) (i0 : mm_inv h) (p1 : Int) (bp1 : 0 ≤ p1 ∧ p1 ≤ 1) : mm_Met l d yX11_course cX11_course 2 (some .int) [mR 0, mI p1] h (mm_pi fun r h2 => (-1 ≤ r ∧ r ≤ 7) ∧ mm_inv h2 ∧ mm_fr [(14, 8)] [17, 18, 19, 20] h h2 ∧ ((h.1 14 8 ≤ 7 ∧ r = h.1 14 8 ∧ h2.1 14 8 = h.1 14 8 + 1) ∨ (8 ≤ h.1 14 8 ∧ r = -1 ∧ h2.1 14 8 = h.1 14 8)) ∧ (∃ f : Int, ((f = 1 ∧ h2.1 14 8 = h.1 14 8 + 1) ∨ (f = 0 ∧ h2.1 14 8 = h.1 14 8)) ∧ mm_up h h2 17 (h.1 14 8) p1 f ∧ mm_up h h2 18 (h.1 14 8) 0 f ∧ mm_up h h2 19 (h.1 14 8) 0 f ∧ mm_up h h2 20 (h.1 14 8) 0 f)) mm_nx 0 0 := by
  refine mm_ofW (ls := [mR 0, mI p1]) hl (by decide) rfl (Nat.le_of_ble_eq_true rfl) ?_
  intro x hxl C T hnm htb
  subst hxl
  have C1 := mm_OK_le (d' := d - 1 + 1) (by omega) C
  refine mm_rng (fun hr _ => ?_)
  have ap1 : -2147483648 ≤ p1 ∧ p1 < 2147483648 := mm_ok_at hr (i := 1) rfl
  have f0 : mm_fr [(14, 8)] [17, 18, 19, 20] h h := mm_fr_rf
  have g1 : 0 ≤ h.1 14 8 ∧ h.1 14 8 ≤ 8 := i0.1 14 8
  refine mm_aload_n C (mm_dec dk_X11_course 0 rfl) rfl ?_
  refine mm_getr (t := 14) C fl_X11_28 (mm_dec dk_X11_course 1 rfl) rfl rfl (mm_ref i0 rfl) ?_
  refine mm_cVi (rest := []) C1 ev_X11_200 (mm_dec dk_X11_course 2 rfl) (c_X2_size x.2.1 hl (d - 1) (by omega) h i0 ) rfl rfl (Nat.le_of_ble_eq_true rfl) ⟨by decide, by decide⟩ rfl (fun r4 h4c hp4 => ?_) (fun _ _ q => q.elim)
  obtain ⟨z4, y4⟩ := hp4
  rw [z4, y4]
  refine mm_bipush C (mm_dec dk_X11_course 3 rfl) ⟨by decide, by decide⟩ ?_
  refine mm_icmp_lt (tgt := 14) C (mm_dec dk_X11_course 4 rfl) (by decide) (fun c9 => ?_) (fun c9 => ?_)
  · skip
    refine mm_aload_n C (mm_dec dk_X11_course 7 rfl) rfl ?_
    refine mm_getr (t := 14) C fl_X11_28 (mm_dec dk_X11_course 8 rfl) rfl rfl (mm_ref i0 rfl) ?_
    refine mm_iload_n C (mm_dec dk_X11_course 9 rfl) rfl ?_
    refine mm_cVi (rest := []) C1 ev_X11_203 (mm_dec dk_X11_course 10 rfl) (c_X2_open_q x.2.1 hl (d - 1) (by omega) h i0 p1 ⟨by omega, by omega⟩ (by omega)) rfl rfl (Nat.le_of_ble_eq_true rfl) ⟨by decide, by decide⟩ rfl (fun r19 h19c hp19 => ?_) (fun _ _ q => q.elim)
    obtain ⟨b19, i19c, g19c, y19_0, y19_1, y19_2, y19_3, y19_4, y19_5⟩ := hp19
    have f19c : mm_fr [(14, 8)] [17, 18, 19, 20] h h19c := mm_fr_tr f0 g19c (by decide +kernel)
    have g4 : 0 ≤ (h19c.1 14 8) ∧ (h19c.1 14 8) ≤ 8 := i19c.1 14 8
    exact mm_iret C T (mm_dec dk_X11_course 11 rfl) (by decide : 0 ≤ 0) (by decide : 0 ≤ 0) ⟨_, rfl, ⟨⟨by omega, by omega⟩, i19c, f19c, by omega, by first | exact ⟨0, Or.inr ⟨rfl, rfl⟩, mm_up_no (by decide) (fun _ => rfl), mm_up_no (by decide) (fun _ => rfl), mm_up_no (by decide) (fun _ => rfl), mm_up_no (by decide) (fun _ => rfl)⟩ | exact ⟨1, Or.inl ⟨rfl, by omega⟩, y19_2, y19_3, y19_4, y19_5⟩⟩⟩
  · skip
    refine mm_iconst C (mm_dec dk_X11_course 5 rfl) ⟨by decide, by decide⟩ ?_
    exact mm_iret C T (mm_dec dk_X11_course 6 rfl) (by decide : 0 ≤ 0) (by decide : 0 ≤ 0) ⟨_, rfl, ⟨⟨by omega, by omega⟩, i0, f0, by omega, by first | exact ⟨0, Or.inr ⟨rfl, rfl⟩, mm_up_no (by decide) (fun _ => rfl), mm_up_no (by decide) (fun _ => rfl), mm_up_no (by decide) (fun _ => rfl), mm_up_no (by decide) (fun _ => rfl)⟩ | exact ⟨1, Or.inl ⟨rfl, by omega⟩, y19_2, y19_3, y19_4, y19_5⟩⟩⟩
set_option maxRecDepth 100000 in
set_option maxHeartbeats 4000000 in
theorem c_X12_right_q (l : Launch) (hl : l.stackTraces = false) (d : Nat) (hd : 0 ≤ d) (h : mH) (i0 : mm_inv h) (p1 : Int) (p2 : Int) (bp1 : 0 ≤ p1 ∧ p1 ≤ 1) (u0 : p2 ≠ 0) : mm_Met l d yX12_right cX12_right 3 (some .boolean) [mR 66, mI p1, mI p2] h (mm_pi fun r h2 => (0 ≤ r ∧ r ≤ 1) ∧ mm_inv h2 ∧ mm_fr [(66, 0)] [] h h2 ∧ ((h.1 66 0 = 0 ∧ p1 = 0 ∧ r = 0 ∧ h2.1 66 0 = p2) ∨ (h.1 66 0 = 0 ∧ p1 ≠ 0 ∧ r = 1 ∧ h2.1 66 0 = 0) ∨ (h.1 66 0 ≠ 0 ∧ r = 0 ∧ h2.1 66 0 = h.1 66 0))) mm_nx 0 0 := by
  refine mm_ofW (ls := [mR 66, mI p1, mI p2]) hl (by decide) rfl (Nat.le_of_ble_eq_true rfl) ?_
  intro x hxl C T hnm htb
  subst hxl
  refine mm_rng (fun hr _ => ?_)
  have ap1 : -2147483648 ≤ p1 ∧ p1 < 2147483648 := mm_ok_at hr (i := 1) rfl
  have ap2 : -2147483648 ≤ p2 ∧ p2 < 2147483648 := mm_ok_at hr (i := 2) rfl
  have f0 : mm_fr [(66, 0)] [] h h := mm_fr_rf
  have g1 : -2147483648 ≤ h.1 66 0 ∧ h.1 66 0 ≤ 2147483647 := i0.1 66 0
  refine mm_aload_n C (mm_dec dk_X12_right 0 rfl) rfl ?_
  refine mm_geti C fl_X12_188 (mm_dec dk_X12_right 1 rfl) rfl rfl (Or.inl rfl) ?_
  have J16 : ∀ (h16_ : mH) (i16_ : mm_inv h16_) (f16_ : mm_fr [(66, 0)] [] h h16_) (w16_0 : ((h.1 66 0 = 0 ∧ p1 = 0 ∧ h16_.1 66 0 = p2) ∨ ((h.1 66 0 ≠ 0 ∨ p1 ≠ 0) ∧ h16_.1 66 0 = h.1 66 0))), mm_W x 0 0 16 [mR 66, mU, mU] [] h16_ := by
    intro h16_ i16_ f16_ w16_0
    have g2 : -2147483648 ≤ h16_.1 66 0 ∧ h16_.1 66 0 ≤ 2147483647 := i16_.1 66 0
    refine mm_aload_n C (mm_dec dk_X12_right 8 rfl) rfl ?_
    refine mm_geti C fl_X12_188 (mm_dec dk_X12_right 9 rfl) rfl rfl (Or.inl rfl) ?_
    have J28 : ∀ (s28_0 : Int) (bs28_0 : 0 ≤ s28_0 ∧ s28_0 ≤ 1) (w28_0 : ((h16_.1 66 0 = 0 ∧ s28_0 = 1) ∨ (h16_.1 66 0 ≠ 0 ∧ s28_0 = 0))) (vs28_0 : ((h16_.1 66 0) ≠ 0 ∧ s28_0 = 0) ∨ ((h16_.1 66 0) = 0 ∧ s28_0 = 1)), mm_W x 0 0 28 [mU, mU, mU] [mI s28_0] h16_ := by
      intro s28_0 bs28_0 w28_0 vs28_0
      have g3 : -2147483648 ≤ h16_.1 66 0 ∧ h16_.1 66 0 ≤ 2147483647 := i16_.1 66 0
      exact mm_zret C T (mm_dec dk_X12_right 14 rfl) (by decide : 0 ≤ 0) (by decide : 0 ≤ 0) (by omega) ⟨_, rfl, ⟨⟨by omega, by omega⟩, i16_, f16_, by omega⟩⟩
    refine mm_if_ne (tgt := 27) C (mm_dec dk_X12_right 10 rfl) (by decide) (fun c20 => ?_) (fun c20 => ?_)
    · skip
      refine mm_iconst C (mm_dec dk_X12_right 13 rfl) ⟨by decide, by decide⟩ ?_
      refine mm_fgt 0 ?_
      exact J28 0 ⟨by omega, by omega⟩ (by omega) (Or.inl ⟨by omega, rfl⟩)
    · skip
      refine mm_iconst C (mm_dec dk_X12_right 11 rfl) ⟨by decide, by decide⟩ ?_
      refine mm_goto (tgt := 28) C (mm_dec dk_X12_right 12 rfl) (by decide) ?_
      refine mm_fgt 0 ?_
      exact J28 1 ⟨by omega, by omega⟩ (by omega) (Or.inr (⟨by omega, rfl⟩))
  refine mm_if_ne (tgt := 16) C (mm_dec dk_X12_right 2 rfl) (by decide) (fun c4 => ?_) (fun c4 => ?_)
  · skip
    refine mm_fgt 1 ?_
    refine mm_fgt 2 ?_
    exact J16 h i0 f0 (by omega)
  · skip
    refine mm_iload_n C (mm_dec dk_X12_right 3 rfl) rfl ?_
    refine mm_if_ne (tgt := 16) C (mm_dec dk_X12_right 4 rfl) (by decide) (fun c8 => ?_) (fun c8 => ?_)
    · skip
      refine mm_fgt 1 ?_
      refine mm_fgt 2 ?_
      exact J16 h i0 f0 (by omega)
    · skip
      refine mm_aload_n C (mm_dec dk_X12_right 5 rfl) rfl ?_
      refine mm_iload_n C (mm_dec dk_X12_right 6 rfl) rfl ?_
      refine mm_puti C fl_X12_188 (mm_dec dk_X12_right 7 rfl) rfl rfl rfl (Or.inl ⟨rfl, rfl⟩) ?_
      have i1 : mm_inv (mm_pf h 66 0 p2) := mm_inv_pf i0 (show -2147483648 ≤ p2 ∧ p2 ≤ 2147483647 from ⟨by omega, by omega⟩) (by decide)
      have f1 : mm_fr [(66, 0)] [] h (mm_pf h 66 0 p2) := mm_fr_pf f0 (by decide)
      obtain ⟨h1, eh1⟩ : ∃ z, z = mm_pf h 66 0 p2 := ⟨_, rfl⟩
      rw [← eh1] at i1 f1 ⊢
      have qh1 : h1.1 66 0 = p2 := by rw [eh1]; exact mm_pf_same _ _ _ _
      refine mm_fgt 1 ?_
      refine mm_fgt 2 ?_
      exact J16 h1 i1 f1 (by omega)
set_option maxRecDepth 100000 in
set_option maxHeartbeats 4000000 in
theorem c_X12_anew_q (l : Launch) (hl : l.stackTraces = false) (d : Nat) (hd : 0 ≤ d) (h : mH) (i0 : mm_inv h) (p1 : Int) (p2 : Int) (bp1 : 1 ≤ p1 ∧ p1 ≤ 20) (bp2 : 1 ≤ p2 ∧ p2 ≤ 20) : mm_Met l d yX12_anew cX12_anew 4 none [mR 66, mI p1, mI p2] h (mm_pv fun h2 => mm_inv h2 ∧ mm_fr [(66, 1), (66, 2), (66, 3), (66, 9), (66, 10), (66, 11), (66, 12), (66, 19), (66, 21), (66, 22), (66, 23), (66, 24), (66, 40), (66, 41), (66, 58), (66, 67), (66, 82), (66, 95)] [67, 68, 69, 70, 71] h h2 ∧ h2.1 66 1 = p1 ∧ h2.1 66 2 = p2 ∧ h2.1 66 67 = 0 ∧ h2.1 66 22 = 0 ∧ h2.1 66 23 = 0 ∧ h2.1 66 41 = 0 ∧ h2.1 66 21 = 0 ∧ mm_al h2 67 399 0 ∧ mm_al h2 69 7 5 ∧ mm_al h2 68 399 0 ∧ mm_al h2 70 399 0 ∧ mm_al h2 71 399 0 ∧ h2.1 66 3 = 2 ∧ h2.1 66 9 = 0 ∧ h2.1 66 10 = 0 ∧ h2.1 66 24 = 0 ∧ h2.1 66 11 = 0 ∧ h2.1 66 12 = 0 ∧ h2.1 66 58 = -1 ∧ h2.1 66 40 = 0 ∧ h2.1 66 82 = 0) mm_nx 0 0 := by
  refine mm_ofW (ls := [mR 66, mI p1, mI p2, mU]) hl (by decide) rfl (Nat.le_of_ble_eq_true rfl) ?_
  intro x hxl C T hnm htb
  subst hxl
  refine mm_rng (fun hr _ => ?_)
  have ap1 : -2147483648 ≤ p1 ∧ p1 < 2147483648 := mm_ok_at hr (i := 1) rfl
  have ap2 : -2147483648 ≤ p2 ∧ p2 < 2147483648 := mm_ok_at hr (i := 2) rfl
  have f0 : mm_fr [(66, 1), (66, 2), (66, 3), (66, 9), (66, 10), (66, 11), (66, 12), (66, 19), (66, 21), (66, 22), (66, 23), (66, 24), (66, 40), (66, 41), (66, 58), (66, 67), (66, 82), (66, 95)] [67, 68, 69, 70, 71] h h := mm_fr_rf
  have g1 : 0 ≤ h.1 66 67 ∧ h.1 66 67 ≤ 1 := i0.1 66 67
  have g2 : 0 ≤ h.1 66 22 ∧ h.1 66 22 ≤ 8 := i0.1 66 22
  have g3 : 0 ≤ h.1 66 23 ∧ h.1 66 23 ≤ 40 := i0.1 66 23
  have g4 : 0 ≤ h.1 66 41 ∧ h.1 66 41 ≤ 99999 := i0.1 66 41
  have g5 : 1 ≤ h.1 66 1 ∧ h.1 66 1 ≤ 20 := i0.1 66 1
  have g6 : 1 ≤ h.1 66 2 ∧ h.1 66 2 ≤ 20 := i0.1 66 2
  have g7 : 0 ≤ h.1 66 21 ∧ h.1 66 21 ≤ 20 := i0.1 66 21
  have g8 : 0 ≤ h.1 66 3 ∧ h.1 66 3 ≤ 9 := i0.1 66 3
  have g9 : 0 ≤ h.1 66 9 ∧ h.1 66 9 ≤ 19 := i0.1 66 9
  have g10 : 0 ≤ h.1 66 10 ∧ h.1 66 10 ≤ 19 := i0.1 66 10
  have g11 : 0 ≤ h.1 66 24 ∧ h.1 66 24 ≤ 10 := i0.1 66 24
  have g12 : 0 ≤ h.1 66 11 ∧ h.1 66 11 ≤ 19 := i0.1 66 11
  have g13 : 0 ≤ h.1 66 12 ∧ h.1 66 12 ≤ 19 := i0.1 66 12
  have g14 : -2147483648 ≤ h.1 66 58 ∧ h.1 66 58 ≤ 2147483647 := i0.1 66 58
  have g15 : 0 ≤ h.1 66 40 ∧ h.1 66 40 ≤ 500 := i0.1 66 40
  have g16 : 0 ≤ h.1 66 82 ∧ h.1 66 82 ≤ 40 := i0.1 66 82
  refine mm_aload_n C (mm_dec dk_X12_anew 0 rfl) rfl ?_
  refine mm_iload_n C (mm_dec dk_X12_anew 1 rfl) rfl ?_
  refine mm_puti C fl_X12_192 (mm_dec dk_X12_anew 2 rfl) rfl rfl rfl (Or.inl ⟨rfl, rfl⟩) ?_
  have i1 : mm_inv (mm_pf h 66 1 p1) := mm_inv_pf i0 (show 1 ≤ p1 ∧ p1 ≤ 20 from ⟨by omega, by omega⟩) (by decide)
  have f1 : mm_fr [(66, 1), (66, 2), (66, 3), (66, 9), (66, 10), (66, 11), (66, 12), (66, 19), (66, 21), (66, 22), (66, 23), (66, 24), (66, 40), (66, 41), (66, 58), (66, 67), (66, 82), (66, 95)] [67, 68, 69, 70, 71] h (mm_pf h 66 1 p1) := mm_fr_pf f0 (by decide)
  obtain ⟨h1, eh1⟩ : ∃ z, z = mm_pf h 66 1 p1 := ⟨_, rfl⟩
  rw [← eh1] at i1 f1 ⊢
  have qh1 : h1.1 66 1 = p1 := by rw [eh1]; exact mm_pf_same _ _ _ _
  have qh1_17 : h1.1 66 2 = h.1 66 2 := by rw [eh1]; exact mm_pf_ne _ _ (by decide)
  have qh1_18 : h1.1 66 3 = h.1 66 3 := by rw [eh1]; exact mm_pf_ne _ _ (by decide)
  have qh1_19 : h1.1 66 9 = h.1 66 9 := by rw [eh1]; exact mm_pf_ne _ _ (by decide)
  have qh1_20 : h1.1 66 10 = h.1 66 10 := by rw [eh1]; exact mm_pf_ne _ _ (by decide)
  have qh1_21 : h1.1 66 11 = h.1 66 11 := by rw [eh1]; exact mm_pf_ne _ _ (by decide)
  have qh1_22 : h1.1 66 12 = h.1 66 12 := by rw [eh1]; exact mm_pf_ne _ _ (by decide)
  have qh1_23 : h1.1 66 21 = h.1 66 21 := by rw [eh1]; exact mm_pf_ne _ _ (by decide)
  have qh1_24 : h1.1 66 22 = h.1 66 22 := by rw [eh1]; exact mm_pf_ne _ _ (by decide)
  have qh1_25 : h1.1 66 23 = h.1 66 23 := by rw [eh1]; exact mm_pf_ne _ _ (by decide)
  have qh1_26 : h1.1 66 24 = h.1 66 24 := by rw [eh1]; exact mm_pf_ne _ _ (by decide)
  have qh1_27 : h1.1 66 40 = h.1 66 40 := by rw [eh1]; exact mm_pf_ne _ _ (by decide)
  have qh1_28 : h1.1 66 41 = h.1 66 41 := by rw [eh1]; exact mm_pf_ne _ _ (by decide)
  have qh1_29 : h1.1 66 58 = h.1 66 58 := by rw [eh1]; exact mm_pf_ne _ _ (by decide)
  have qh1_30 : h1.1 66 67 = h.1 66 67 := by rw [eh1]; exact mm_pf_ne _ _ (by decide)
  have qh1_31 : h1.1 66 82 = h.1 66 82 := by rw [eh1]; exact mm_pf_ne _ _ (by decide)
  refine mm_aload_n C (mm_dec dk_X12_anew 3 rfl) rfl ?_
  refine mm_iload_n C (mm_dec dk_X12_anew 4 rfl) rfl ?_
  refine mm_puti C fl_X12_195 (mm_dec dk_X12_anew 5 rfl) rfl rfl rfl (Or.inl ⟨rfl, rfl⟩) ?_
  have i2 : mm_inv (mm_pf h1 66 2 p2) := mm_inv_pf i1 (show 1 ≤ p2 ∧ p2 ≤ 20 from ⟨by omega, by omega⟩) (by decide)
  have f2 : mm_fr [(66, 1), (66, 2), (66, 3), (66, 9), (66, 10), (66, 11), (66, 12), (66, 19), (66, 21), (66, 22), (66, 23), (66, 24), (66, 40), (66, 41), (66, 58), (66, 67), (66, 82), (66, 95)] [67, 68, 69, 70, 71] h (mm_pf h1 66 2 p2) := mm_fr_pf f1 (by decide)
  obtain ⟨h2, eh2⟩ : ∃ z, z = mm_pf h1 66 2 p2 := ⟨_, rfl⟩
  rw [← eh2] at i2 f2 ⊢
  have qh2 : h2.1 66 2 = p2 := by rw [eh2]; exact mm_pf_same _ _ _ _
  have qh2_32 : h2.1 66 1 = h1.1 66 1 := by rw [eh2]; exact mm_pf_ne _ _ (by decide)
  have qh2_33 : h2.1 66 3 = h1.1 66 3 := by rw [eh2]; exact mm_pf_ne _ _ (by decide)
  have qh2_34 : h2.1 66 9 = h1.1 66 9 := by rw [eh2]; exact mm_pf_ne _ _ (by decide)
  have qh2_35 : h2.1 66 10 = h1.1 66 10 := by rw [eh2]; exact mm_pf_ne _ _ (by decide)
  have qh2_36 : h2.1 66 11 = h1.1 66 11 := by rw [eh2]; exact mm_pf_ne _ _ (by decide)
  have qh2_37 : h2.1 66 12 = h1.1 66 12 := by rw [eh2]; exact mm_pf_ne _ _ (by decide)
  have qh2_38 : h2.1 66 21 = h1.1 66 21 := by rw [eh2]; exact mm_pf_ne _ _ (by decide)
  have qh2_39 : h2.1 66 22 = h1.1 66 22 := by rw [eh2]; exact mm_pf_ne _ _ (by decide)
  have qh2_40 : h2.1 66 23 = h1.1 66 23 := by rw [eh2]; exact mm_pf_ne _ _ (by decide)
  have qh2_41 : h2.1 66 24 = h1.1 66 24 := by rw [eh2]; exact mm_pf_ne _ _ (by decide)
  have qh2_42 : h2.1 66 40 = h1.1 66 40 := by rw [eh2]; exact mm_pf_ne _ _ (by decide)
  have qh2_43 : h2.1 66 41 = h1.1 66 41 := by rw [eh2]; exact mm_pf_ne _ _ (by decide)
  have qh2_44 : h2.1 66 58 = h1.1 66 58 := by rw [eh2]; exact mm_pf_ne _ _ (by decide)
  have qh2_45 : h2.1 66 67 = h1.1 66 67 := by rw [eh2]; exact mm_pf_ne _ _ (by decide)
  have qh2_46 : h2.1 66 82 = h1.1 66 82 := by rw [eh2]; exact mm_pf_ne _ _ (by decide)
  refine mm_aload_n C (mm_dec dk_X12_anew 6 rfl) rfl ?_
  refine mm_iconst C (mm_dec dk_X12_anew 7 rfl) ⟨by decide, by decide⟩ ?_
  refine mm_puti C fl_X12_198 (mm_dec dk_X12_anew 8 rfl) rfl rfl rfl (Or.inl ⟨rfl, rfl⟩) ?_
  have i3 : mm_inv (mm_pf h2 66 3 2) := mm_inv_pf i2 (show 0 ≤ 2 ∧ 2 ≤ 9 from ⟨by omega, by omega⟩) (by decide)
  have f3 : mm_fr [(66, 1), (66, 2), (66, 3), (66, 9), (66, 10), (66, 11), (66, 12), (66, 19), (66, 21), (66, 22), (66, 23), (66, 24), (66, 40), (66, 41), (66, 58), (66, 67), (66, 82), (66, 95)] [67, 68, 69, 70, 71] h (mm_pf h2 66 3 2) := mm_fr_pf f2 (by decide)
  obtain ⟨h3, eh3⟩ : ∃ z, z = mm_pf h2 66 3 2 := ⟨_, rfl⟩
  rw [← eh3] at i3 f3 ⊢
  have qh3 : h3.1 66 3 = 2 := by rw [eh3]; exact mm_pf_same _ _ _ _
  have qh3_47 : h3.1 66 1 = h2.1 66 1 := by rw [eh3]; exact mm_pf_ne _ _ (by decide)
  have qh3_48 : h3.1 66 2 = h2.1 66 2 := by rw [eh3]; exact mm_pf_ne _ _ (by decide)
  have qh3_49 : h3.1 66 9 = h2.1 66 9 := by rw [eh3]; exact mm_pf_ne _ _ (by decide)
  have qh3_50 : h3.1 66 10 = h2.1 66 10 := by rw [eh3]; exact mm_pf_ne _ _ (by decide)
  have qh3_51 : h3.1 66 11 = h2.1 66 11 := by rw [eh3]; exact mm_pf_ne _ _ (by decide)
  have qh3_52 : h3.1 66 12 = h2.1 66 12 := by rw [eh3]; exact mm_pf_ne _ _ (by decide)
  have qh3_53 : h3.1 66 21 = h2.1 66 21 := by rw [eh3]; exact mm_pf_ne _ _ (by decide)
  have qh3_54 : h3.1 66 22 = h2.1 66 22 := by rw [eh3]; exact mm_pf_ne _ _ (by decide)
  have qh3_55 : h3.1 66 23 = h2.1 66 23 := by rw [eh3]; exact mm_pf_ne _ _ (by decide)
  have qh3_56 : h3.1 66 24 = h2.1 66 24 := by rw [eh3]; exact mm_pf_ne _ _ (by decide)
  have qh3_57 : h3.1 66 40 = h2.1 66 40 := by rw [eh3]; exact mm_pf_ne _ _ (by decide)
  have qh3_58 : h3.1 66 41 = h2.1 66 41 := by rw [eh3]; exact mm_pf_ne _ _ (by decide)
  have qh3_59 : h3.1 66 58 = h2.1 66 58 := by rw [eh3]; exact mm_pf_ne _ _ (by decide)
  have qh3_60 : h3.1 66 67 = h2.1 66 67 := by rw [eh3]; exact mm_pf_ne _ _ (by decide)
  have qh3_61 : h3.1 66 82 = h2.1 66 82 := by rw [eh3]; exact mm_pf_ne _ _ (by decide)
  refine mm_iconst C (mm_dec dk_X12_anew 9 rfl) ⟨by decide, by decide⟩ ?_
  have J17 : ∀ (n : Nat) (x17_3 : Int) (bx17_3 : 0 ≤ x17_3 ∧ x17_3 ≤ 400) (h17_ : mH) (i17_ : mm_inv h17_) (f17_ : mm_fr [(66, 1), (66, 2), (66, 3), (66, 9), (66, 10), (66, 11), (66, 12), (66, 19), (66, 21), (66, 22), (66, 23), (66, 24), (66, 40), (66, 41), (66, 58), (66, 67), (66, 82), (66, 95)] [67, 68, 69, 70, 71] h h17_) (w17_0 : mm_al h17_ 67 (x17_3 - 1) 0) (w17_1 : mm_al h17_ 68 (x17_3 - 1) 0) (w17_2 : mm_al h17_ 70 (x17_3 - 1) 0) (w17_3 : mm_al h17_ 71 (x17_3 - 1) 0) (w17_4 : h17_.1 66 3 = 2) (w17_5 : h17_.1 66 1 = p1) (w17_6 : h17_.1 66 2 = p2), (400 - x17_3 : Int) < n → mm_W x 0 0 17 [mR 66, mU, mU, mI x17_3] [] h17_ := by
    intro n
    induction n with
    | zero =>
      intro x17_3 bx17_3 h17_ i17_ f17_ w17_0 w17_1 w17_2 w17_3 w17_4 w17_5 w17_6 hm
      have g62 : 0 ≤ h17_.1 66 67 ∧ h17_.1 66 67 ≤ 1 := i17_.1 66 67
      have g63 : 0 ≤ h17_.1 66 22 ∧ h17_.1 66 22 ≤ 8 := i17_.1 66 22
      have g64 : 0 ≤ h17_.1 66 23 ∧ h17_.1 66 23 ≤ 40 := i17_.1 66 23
      have g65 : 0 ≤ h17_.1 66 41 ∧ h17_.1 66 41 ≤ 99999 := i17_.1 66 41
      have g66 : 1 ≤ h17_.1 66 1 ∧ h17_.1 66 1 ≤ 20 := i17_.1 66 1
      have g67 : 1 ≤ h17_.1 66 2 ∧ h17_.1 66 2 ≤ 20 := i17_.1 66 2
      have g68 : 0 ≤ h17_.1 66 21 ∧ h17_.1 66 21 ≤ 20 := i17_.1 66 21
      have g69 : 0 ≤ h17_.1 66 3 ∧ h17_.1 66 3 ≤ 9 := i17_.1 66 3
      have g70 : 0 ≤ h17_.1 66 9 ∧ h17_.1 66 9 ≤ 19 := i17_.1 66 9
      have g71 : 0 ≤ h17_.1 66 10 ∧ h17_.1 66 10 ≤ 19 := i17_.1 66 10
      have g72 : 0 ≤ h17_.1 66 24 ∧ h17_.1 66 24 ≤ 10 := i17_.1 66 24
      have g73 : 0 ≤ h17_.1 66 11 ∧ h17_.1 66 11 ≤ 19 := i17_.1 66 11
      have g74 : 0 ≤ h17_.1 66 12 ∧ h17_.1 66 12 ≤ 19 := i17_.1 66 12
      have g75 : -2147483648 ≤ h17_.1 66 58 ∧ h17_.1 66 58 ≤ 2147483647 := i17_.1 66 58
      have g76 : 0 ≤ h17_.1 66 40 ∧ h17_.1 66 40 ≤ 500 := i17_.1 66 40
      have g77 : 0 ≤ h17_.1 66 82 ∧ h17_.1 66 82 ≤ 40 := i17_.1 66 82
      exfalso; omega
    | succ n ih17 =>
      intro x17_3 bx17_3 h17_ i17_ f17_ w17_0 w17_1 w17_2 w17_3 w17_4 w17_5 w17_6 hm17
      have g78 : 0 ≤ h17_.1 66 67 ∧ h17_.1 66 67 ≤ 1 := i17_.1 66 67
      have g79 : 0 ≤ h17_.1 66 22 ∧ h17_.1 66 22 ≤ 8 := i17_.1 66 22
      have g80 : 0 ≤ h17_.1 66 23 ∧ h17_.1 66 23 ≤ 40 := i17_.1 66 23
      have g81 : 0 ≤ h17_.1 66 41 ∧ h17_.1 66 41 ≤ 99999 := i17_.1 66 41
      have g82 : 1 ≤ h17_.1 66 1 ∧ h17_.1 66 1 ≤ 20 := i17_.1 66 1
      have g83 : 1 ≤ h17_.1 66 2 ∧ h17_.1 66 2 ≤ 20 := i17_.1 66 2
      have g84 : 0 ≤ h17_.1 66 21 ∧ h17_.1 66 21 ≤ 20 := i17_.1 66 21
      have g85 : 0 ≤ h17_.1 66 3 ∧ h17_.1 66 3 ≤ 9 := i17_.1 66 3
      have g86 : 0 ≤ h17_.1 66 9 ∧ h17_.1 66 9 ≤ 19 := i17_.1 66 9
      have g87 : 0 ≤ h17_.1 66 10 ∧ h17_.1 66 10 ≤ 19 := i17_.1 66 10
      have g88 : 0 ≤ h17_.1 66 24 ∧ h17_.1 66 24 ≤ 10 := i17_.1 66 24
      have g89 : 0 ≤ h17_.1 66 11 ∧ h17_.1 66 11 ≤ 19 := i17_.1 66 11
      have g90 : 0 ≤ h17_.1 66 12 ∧ h17_.1 66 12 ≤ 19 := i17_.1 66 12
      have g91 : -2147483648 ≤ h17_.1 66 58 ∧ h17_.1 66 58 ≤ 2147483647 := i17_.1 66 58
      have g92 : 0 ≤ h17_.1 66 40 ∧ h17_.1 66 40 ≤ 500 := i17_.1 66 40
      have g93 : 0 ≤ h17_.1 66 82 ∧ h17_.1 66 82 ≤ 40 := i17_.1 66 82
      refine mm_iload_n C (mm_dec dk_X12_anew 11 rfl) rfl ?_
      refine mm_sipush C (mm_dec dk_X12_anew 12 rfl) ⟨by decide, by decide⟩ ?_
      refine mm_icmp_ge (tgt := 58) C (mm_dec dk_X12_anew 13 rfl) (by decide) (fun c21 => ?_) (fun c21 => ?_)
      · skip
        refine mm_iconst C (mm_dec dk_X12_anew 36 rfl) ⟨by decide, by decide⟩ ?_
        have J60 : ∀ (n : Nat) (x60_3 : Int) (bx60_3 : 0 ≤ x60_3 ∧ x60_3 ≤ 8) (h60_ : mH) (i60_ : mm_inv h60_) (f60_ : mm_fr [(66, 1), (66, 2), (66, 3), (66, 9), (66, 10), (66, 11), (66, 12), (66, 19), (66, 21), (66, 22), (66, 23), (66, 24), (66, 40), (66, 41), (66, 58), (66, 67), (66, 82), (66, 95)] [67, 68, 69, 70, 71] h h60_) (w60_0 : mm_al h60_ 67 399 0) (w60_1 : mm_al h60_ 69 (x60_3 - 1) 5) (w60_2 : mm_al h60_ 68 399 0) (w60_3 : mm_al h60_ 70 399 0) (w60_4 : mm_al h60_ 71 399 0) (w60_5 : h60_.1 66 3 = 2) (w60_6 : h60_.1 66 1 = p1) (w60_7 : h60_.1 66 2 = p2), (8 - x60_3 : Int) < n → mm_W x 0 0 60 [mR 66, mU, mU, mI x60_3] [] h60_ := by
          intro n
          induction n with
          | zero =>
            intro x60_3 bx60_3 h60_ i60_ f60_ w60_0 w60_1 w60_2 w60_3 w60_4 w60_5 w60_6 w60_7 hm
            have g94 : 0 ≤ h60_.1 66 67 ∧ h60_.1 66 67 ≤ 1 := i60_.1 66 67
            have g95 : 0 ≤ h60_.1 66 22 ∧ h60_.1 66 22 ≤ 8 := i60_.1 66 22
            have g96 : 0 ≤ h60_.1 66 23 ∧ h60_.1 66 23 ≤ 40 := i60_.1 66 23
            have g97 : 0 ≤ h60_.1 66 41 ∧ h60_.1 66 41 ≤ 99999 := i60_.1 66 41
            have g98 : 1 ≤ h60_.1 66 1 ∧ h60_.1 66 1 ≤ 20 := i60_.1 66 1
            have g99 : 1 ≤ h60_.1 66 2 ∧ h60_.1 66 2 ≤ 20 := i60_.1 66 2
            have g100 : 0 ≤ h60_.1 66 21 ∧ h60_.1 66 21 ≤ 20 := i60_.1 66 21
            have g101 : 0 ≤ h60_.1 66 3 ∧ h60_.1 66 3 ≤ 9 := i60_.1 66 3
            have g102 : 0 ≤ h60_.1 66 9 ∧ h60_.1 66 9 ≤ 19 := i60_.1 66 9
            have g103 : 0 ≤ h60_.1 66 10 ∧ h60_.1 66 10 ≤ 19 := i60_.1 66 10
            have g104 : 0 ≤ h60_.1 66 24 ∧ h60_.1 66 24 ≤ 10 := i60_.1 66 24
            have g105 : 0 ≤ h60_.1 66 11 ∧ h60_.1 66 11 ≤ 19 := i60_.1 66 11
            have g106 : 0 ≤ h60_.1 66 12 ∧ h60_.1 66 12 ≤ 19 := i60_.1 66 12
            have g107 : -2147483648 ≤ h60_.1 66 58 ∧ h60_.1 66 58 ≤ 2147483647 := i60_.1 66 58
            have g108 : 0 ≤ h60_.1 66 40 ∧ h60_.1 66 40 ≤ 500 := i60_.1 66 40
            have g109 : 0 ≤ h60_.1 66 82 ∧ h60_.1 66 82 ≤ 40 := i60_.1 66 82
            exfalso; omega
          | succ n ih60 =>
            intro x60_3 bx60_3 h60_ i60_ f60_ w60_0 w60_1 w60_2 w60_3 w60_4 w60_5 w60_6 w60_7 hm60
            have g110 : 0 ≤ h60_.1 66 67 ∧ h60_.1 66 67 ≤ 1 := i60_.1 66 67
            have g111 : 0 ≤ h60_.1 66 22 ∧ h60_.1 66 22 ≤ 8 := i60_.1 66 22
            have g112 : 0 ≤ h60_.1 66 23 ∧ h60_.1 66 23 ≤ 40 := i60_.1 66 23
            have g113 : 0 ≤ h60_.1 66 41 ∧ h60_.1 66 41 ≤ 99999 := i60_.1 66 41
            have g114 : 1 ≤ h60_.1 66 1 ∧ h60_.1 66 1 ≤ 20 := i60_.1 66 1
            have g115 : 1 ≤ h60_.1 66 2 ∧ h60_.1 66 2 ≤ 20 := i60_.1 66 2
            have g116 : 0 ≤ h60_.1 66 21 ∧ h60_.1 66 21 ≤ 20 := i60_.1 66 21
            have g117 : 0 ≤ h60_.1 66 3 ∧ h60_.1 66 3 ≤ 9 := i60_.1 66 3
            have g118 : 0 ≤ h60_.1 66 9 ∧ h60_.1 66 9 ≤ 19 := i60_.1 66 9
            have g119 : 0 ≤ h60_.1 66 10 ∧ h60_.1 66 10 ≤ 19 := i60_.1 66 10
            have g120 : 0 ≤ h60_.1 66 24 ∧ h60_.1 66 24 ≤ 10 := i60_.1 66 24
            have g121 : 0 ≤ h60_.1 66 11 ∧ h60_.1 66 11 ≤ 19 := i60_.1 66 11
            have g122 : 0 ≤ h60_.1 66 12 ∧ h60_.1 66 12 ≤ 19 := i60_.1 66 12
            have g123 : -2147483648 ≤ h60_.1 66 58 ∧ h60_.1 66 58 ≤ 2147483647 := i60_.1 66 58
            have g124 : 0 ≤ h60_.1 66 40 ∧ h60_.1 66 40 ≤ 500 := i60_.1 66 40
            have g125 : 0 ≤ h60_.1 66 82 ∧ h60_.1 66 82 ≤ 40 := i60_.1 66 82
            refine mm_iload_n C (mm_dec dk_X12_anew 38 rfl) rfl ?_
            refine mm_bipush C (mm_dec dk_X12_anew 39 rfl) ⟨by decide, by decide⟩ ?_
            refine mm_icmp_ge (tgt := 79) C (mm_dec dk_X12_anew 40 rfl) (by decide) (fun c63 => ?_) (fun c63 => ?_)
            · skip
              refine mm_aload_n C (mm_dec dk_X12_anew 48 rfl) rfl ?_
              refine mm_iconst C (mm_dec dk_X12_anew 49 rfl) ⟨by decide, by decide⟩ ?_
              refine mm_puti C fl_X12_201 (mm_dec dk_X12_anew 50 rfl) rfl rfl rfl (Or.inl ⟨rfl, rfl⟩) ?_
              have i4 : mm_inv (mm_pf h60_ 66 9 0) := mm_inv_pf i60_ (show 0 ≤ 0 ∧ 0 ≤ 19 from ⟨by omega, by omega⟩) (by decide)
              have f4 : mm_fr [(66, 1), (66, 2), (66, 3), (66, 9), (66, 10), (66, 11), (66, 12), (66, 19), (66, 21), (66, 22), (66, 23), (66, 24), (66, 40), (66, 41), (66, 58), (66, 67), (66, 82), (66, 95)] [67, 68, 69, 70, 71] h (mm_pf h60_ 66 9 0) := mm_fr_pf f60_ (by decide)
              obtain ⟨h4, eh4⟩ : ∃ z, z = mm_pf h60_ 66 9 0 := ⟨_, rfl⟩
              rw [← eh4] at i4 f4 ⊢
              have qh4 : h4.1 66 9 = 0 := by rw [eh4]; exact mm_pf_same _ _ _ _
              have qh4_126 : h4.1 66 1 = h60_.1 66 1 := by rw [eh4]; exact mm_pf_ne _ _ (by decide)
              have qh4_127 : h4.1 66 2 = h60_.1 66 2 := by rw [eh4]; exact mm_pf_ne _ _ (by decide)
              have qh4_128 : h4.1 66 3 = h60_.1 66 3 := by rw [eh4]; exact mm_pf_ne _ _ (by decide)
              have qh4_129 : h4.1 66 10 = h60_.1 66 10 := by rw [eh4]; exact mm_pf_ne _ _ (by decide)
              have qh4_130 : h4.1 66 11 = h60_.1 66 11 := by rw [eh4]; exact mm_pf_ne _ _ (by decide)
              have qh4_131 : h4.1 66 12 = h60_.1 66 12 := by rw [eh4]; exact mm_pf_ne _ _ (by decide)
              have qh4_132 : h4.1 66 21 = h60_.1 66 21 := by rw [eh4]; exact mm_pf_ne _ _ (by decide)
              have qh4_133 : h4.1 66 22 = h60_.1 66 22 := by rw [eh4]; exact mm_pf_ne _ _ (by decide)
              have qh4_134 : h4.1 66 23 = h60_.1 66 23 := by rw [eh4]; exact mm_pf_ne _ _ (by decide)
              have qh4_135 : h4.1 66 24 = h60_.1 66 24 := by rw [eh4]; exact mm_pf_ne _ _ (by decide)
              have qh4_136 : h4.1 66 40 = h60_.1 66 40 := by rw [eh4]; exact mm_pf_ne _ _ (by decide)
              have qh4_137 : h4.1 66 41 = h60_.1 66 41 := by rw [eh4]; exact mm_pf_ne _ _ (by decide)
              have qh4_138 : h4.1 66 58 = h60_.1 66 58 := by rw [eh4]; exact mm_pf_ne _ _ (by decide)
              have qh4_139 : h4.1 66 67 = h60_.1 66 67 := by rw [eh4]; exact mm_pf_ne _ _ (by decide)
              have qh4_140 : h4.1 66 82 = h60_.1 66 82 := by rw [eh4]; exact mm_pf_ne _ _ (by decide)
              refine mm_aload_n C (mm_dec dk_X12_anew 51 rfl) rfl ?_
              refine mm_iconst C (mm_dec dk_X12_anew 52 rfl) ⟨by decide, by decide⟩ ?_
              refine mm_puti C fl_X12_204 (mm_dec dk_X12_anew 53 rfl) rfl rfl rfl (Or.inl ⟨rfl, rfl⟩) ?_
              have i5 : mm_inv (mm_pf h4 66 10 0) := mm_inv_pf i4 (show 0 ≤ 0 ∧ 0 ≤ 19 from ⟨by omega, by omega⟩) (by decide)
              have f5 : mm_fr [(66, 1), (66, 2), (66, 3), (66, 9), (66, 10), (66, 11), (66, 12), (66, 19), (66, 21), (66, 22), (66, 23), (66, 24), (66, 40), (66, 41), (66, 58), (66, 67), (66, 82), (66, 95)] [67, 68, 69, 70, 71] h (mm_pf h4 66 10 0) := mm_fr_pf f4 (by decide)
              obtain ⟨h5, eh5⟩ : ∃ z, z = mm_pf h4 66 10 0 := ⟨_, rfl⟩
              rw [← eh5] at i5 f5 ⊢
              have qh5 : h5.1 66 10 = 0 := by rw [eh5]; exact mm_pf_same _ _ _ _
              have qh5_141 : h5.1 66 1 = h4.1 66 1 := by rw [eh5]; exact mm_pf_ne _ _ (by decide)
              have qh5_142 : h5.1 66 2 = h4.1 66 2 := by rw [eh5]; exact mm_pf_ne _ _ (by decide)
              have qh5_143 : h5.1 66 3 = h4.1 66 3 := by rw [eh5]; exact mm_pf_ne _ _ (by decide)
              have qh5_144 : h5.1 66 9 = h4.1 66 9 := by rw [eh5]; exact mm_pf_ne _ _ (by decide)
              have qh5_145 : h5.1 66 11 = h4.1 66 11 := by rw [eh5]; exact mm_pf_ne _ _ (by decide)
              have qh5_146 : h5.1 66 12 = h4.1 66 12 := by rw [eh5]; exact mm_pf_ne _ _ (by decide)
              have qh5_147 : h5.1 66 21 = h4.1 66 21 := by rw [eh5]; exact mm_pf_ne _ _ (by decide)
              have qh5_148 : h5.1 66 22 = h4.1 66 22 := by rw [eh5]; exact mm_pf_ne _ _ (by decide)
              have qh5_149 : h5.1 66 23 = h4.1 66 23 := by rw [eh5]; exact mm_pf_ne _ _ (by decide)
              have qh5_150 : h5.1 66 24 = h4.1 66 24 := by rw [eh5]; exact mm_pf_ne _ _ (by decide)
              have qh5_151 : h5.1 66 40 = h4.1 66 40 := by rw [eh5]; exact mm_pf_ne _ _ (by decide)
              have qh5_152 : h5.1 66 41 = h4.1 66 41 := by rw [eh5]; exact mm_pf_ne _ _ (by decide)
              have qh5_153 : h5.1 66 58 = h4.1 66 58 := by rw [eh5]; exact mm_pf_ne _ _ (by decide)
              have qh5_154 : h5.1 66 67 = h4.1 66 67 := by rw [eh5]; exact mm_pf_ne _ _ (by decide)
              have qh5_155 : h5.1 66 82 = h4.1 66 82 := by rw [eh5]; exact mm_pf_ne _ _ (by decide)
              refine mm_aload_n C (mm_dec dk_X12_anew 54 rfl) rfl ?_
              refine mm_iconst C (mm_dec dk_X12_anew 55 rfl) ⟨by decide, by decide⟩ ?_
              refine mm_puti C fl_X12_207 (mm_dec dk_X12_anew 56 rfl) rfl rfl rfl (Or.inl ⟨rfl, rfl⟩) ?_
              have i6 : mm_inv (mm_pf h5 66 11 0) := mm_inv_pf i5 (show 0 ≤ 0 ∧ 0 ≤ 19 from ⟨by omega, by omega⟩) (by decide)
              have f6 : mm_fr [(66, 1), (66, 2), (66, 3), (66, 9), (66, 10), (66, 11), (66, 12), (66, 19), (66, 21), (66, 22), (66, 23), (66, 24), (66, 40), (66, 41), (66, 58), (66, 67), (66, 82), (66, 95)] [67, 68, 69, 70, 71] h (mm_pf h5 66 11 0) := mm_fr_pf f5 (by decide)
              obtain ⟨h6, eh6⟩ : ∃ z, z = mm_pf h5 66 11 0 := ⟨_, rfl⟩
              rw [← eh6] at i6 f6 ⊢
              have qh6 : h6.1 66 11 = 0 := by rw [eh6]; exact mm_pf_same _ _ _ _
              have qh6_156 : h6.1 66 1 = h5.1 66 1 := by rw [eh6]; exact mm_pf_ne _ _ (by decide)
              have qh6_157 : h6.1 66 2 = h5.1 66 2 := by rw [eh6]; exact mm_pf_ne _ _ (by decide)
              have qh6_158 : h6.1 66 3 = h5.1 66 3 := by rw [eh6]; exact mm_pf_ne _ _ (by decide)
              have qh6_159 : h6.1 66 9 = h5.1 66 9 := by rw [eh6]; exact mm_pf_ne _ _ (by decide)
              have qh6_160 : h6.1 66 10 = h5.1 66 10 := by rw [eh6]; exact mm_pf_ne _ _ (by decide)
              have qh6_161 : h6.1 66 12 = h5.1 66 12 := by rw [eh6]; exact mm_pf_ne _ _ (by decide)
              have qh6_162 : h6.1 66 21 = h5.1 66 21 := by rw [eh6]; exact mm_pf_ne _ _ (by decide)
              have qh6_163 : h6.1 66 22 = h5.1 66 22 := by rw [eh6]; exact mm_pf_ne _ _ (by decide)
              have qh6_164 : h6.1 66 23 = h5.1 66 23 := by rw [eh6]; exact mm_pf_ne _ _ (by decide)
              have qh6_165 : h6.1 66 24 = h5.1 66 24 := by rw [eh6]; exact mm_pf_ne _ _ (by decide)
              have qh6_166 : h6.1 66 40 = h5.1 66 40 := by rw [eh6]; exact mm_pf_ne _ _ (by decide)
              have qh6_167 : h6.1 66 41 = h5.1 66 41 := by rw [eh6]; exact mm_pf_ne _ _ (by decide)
              have qh6_168 : h6.1 66 58 = h5.1 66 58 := by rw [eh6]; exact mm_pf_ne _ _ (by decide)
              have qh6_169 : h6.1 66 67 = h5.1 66 67 := by rw [eh6]; exact mm_pf_ne _ _ (by decide)
              have qh6_170 : h6.1 66 82 = h5.1 66 82 := by rw [eh6]; exact mm_pf_ne _ _ (by decide)
              refine mm_aload_n C (mm_dec dk_X12_anew 57 rfl) rfl ?_
              refine mm_iconst C (mm_dec dk_X12_anew 58 rfl) ⟨by decide, by decide⟩ ?_
              refine mm_puti C fl_X12_210 (mm_dec dk_X12_anew 59 rfl) rfl rfl rfl (Or.inl ⟨rfl, rfl⟩) ?_
              have i7 : mm_inv (mm_pf h6 66 12 0) := mm_inv_pf i6 (show 0 ≤ 0 ∧ 0 ≤ 19 from ⟨by omega, by omega⟩) (by decide)
              have f7 : mm_fr [(66, 1), (66, 2), (66, 3), (66, 9), (66, 10), (66, 11), (66, 12), (66, 19), (66, 21), (66, 22), (66, 23), (66, 24), (66, 40), (66, 41), (66, 58), (66, 67), (66, 82), (66, 95)] [67, 68, 69, 70, 71] h (mm_pf h6 66 12 0) := mm_fr_pf f6 (by decide)
              obtain ⟨h7, eh7⟩ : ∃ z, z = mm_pf h6 66 12 0 := ⟨_, rfl⟩
              rw [← eh7] at i7 f7 ⊢
              have qh7 : h7.1 66 12 = 0 := by rw [eh7]; exact mm_pf_same _ _ _ _
              have qh7_171 : h7.1 66 1 = h6.1 66 1 := by rw [eh7]; exact mm_pf_ne _ _ (by decide)
              have qh7_172 : h7.1 66 2 = h6.1 66 2 := by rw [eh7]; exact mm_pf_ne _ _ (by decide)
              have qh7_173 : h7.1 66 3 = h6.1 66 3 := by rw [eh7]; exact mm_pf_ne _ _ (by decide)
              have qh7_174 : h7.1 66 9 = h6.1 66 9 := by rw [eh7]; exact mm_pf_ne _ _ (by decide)
              have qh7_175 : h7.1 66 10 = h6.1 66 10 := by rw [eh7]; exact mm_pf_ne _ _ (by decide)
              have qh7_176 : h7.1 66 11 = h6.1 66 11 := by rw [eh7]; exact mm_pf_ne _ _ (by decide)
              have qh7_177 : h7.1 66 21 = h6.1 66 21 := by rw [eh7]; exact mm_pf_ne _ _ (by decide)
              have qh7_178 : h7.1 66 22 = h6.1 66 22 := by rw [eh7]; exact mm_pf_ne _ _ (by decide)
              have qh7_179 : h7.1 66 23 = h6.1 66 23 := by rw [eh7]; exact mm_pf_ne _ _ (by decide)
              have qh7_180 : h7.1 66 24 = h6.1 66 24 := by rw [eh7]; exact mm_pf_ne _ _ (by decide)
              have qh7_181 : h7.1 66 40 = h6.1 66 40 := by rw [eh7]; exact mm_pf_ne _ _ (by decide)
              have qh7_182 : h7.1 66 41 = h6.1 66 41 := by rw [eh7]; exact mm_pf_ne _ _ (by decide)
              have qh7_183 : h7.1 66 58 = h6.1 66 58 := by rw [eh7]; exact mm_pf_ne _ _ (by decide)
              have qh7_184 : h7.1 66 67 = h6.1 66 67 := by rw [eh7]; exact mm_pf_ne _ _ (by decide)
              have qh7_185 : h7.1 66 82 = h6.1 66 82 := by rw [eh7]; exact mm_pf_ne _ _ (by decide)
              refine mm_aload_n C (mm_dec dk_X12_anew 60 rfl) rfl ?_
              refine mm_iconst C (mm_dec dk_X12_anew 61 rfl) ⟨by decide, by decide⟩ ?_
              refine mm_puti C fl_X12_213 (mm_dec dk_X12_anew 62 rfl) rfl rfl rfl (Or.inl ⟨rfl, rfl⟩) ?_
              have i8 : mm_inv (mm_pf h7 66 19 (-1)) := mm_inv_pf i7 (show -1 ≤ (-1) ∧ (-1) ≤ 400 from ⟨by omega, by omega⟩) (by decide)
              have f8 : mm_fr [(66, 1), (66, 2), (66, 3), (66, 9), (66, 10), (66, 11), (66, 12), (66, 19), (66, 21), (66, 22), (66, 23), (66, 24), (66, 40), (66, 41), (66, 58), (66, 67), (66, 82), (66, 95)] [67, 68, 69, 70, 71] h (mm_pf h7 66 19 (-1)) := mm_fr_pf f7 (by decide)
              obtain ⟨h8, eh8⟩ : ∃ z, z = mm_pf h7 66 19 (-1) := ⟨_, rfl⟩
              rw [← eh8] at i8 f8 ⊢
              have qh8 : h8.1 66 19 = (-1) := by rw [eh8]; exact mm_pf_same _ _ _ _
              have qh8_186 : h8.1 66 1 = h7.1 66 1 := by rw [eh8]; exact mm_pf_ne _ _ (by decide)
              have qh8_187 : h8.1 66 2 = h7.1 66 2 := by rw [eh8]; exact mm_pf_ne _ _ (by decide)
              have qh8_188 : h8.1 66 3 = h7.1 66 3 := by rw [eh8]; exact mm_pf_ne _ _ (by decide)
              have qh8_189 : h8.1 66 9 = h7.1 66 9 := by rw [eh8]; exact mm_pf_ne _ _ (by decide)
              have qh8_190 : h8.1 66 10 = h7.1 66 10 := by rw [eh8]; exact mm_pf_ne _ _ (by decide)
              have qh8_191 : h8.1 66 11 = h7.1 66 11 := by rw [eh8]; exact mm_pf_ne _ _ (by decide)
              have qh8_192 : h8.1 66 12 = h7.1 66 12 := by rw [eh8]; exact mm_pf_ne _ _ (by decide)
              have qh8_193 : h8.1 66 21 = h7.1 66 21 := by rw [eh8]; exact mm_pf_ne _ _ (by decide)
              have qh8_194 : h8.1 66 22 = h7.1 66 22 := by rw [eh8]; exact mm_pf_ne _ _ (by decide)
              have qh8_195 : h8.1 66 23 = h7.1 66 23 := by rw [eh8]; exact mm_pf_ne _ _ (by decide)
              have qh8_196 : h8.1 66 24 = h7.1 66 24 := by rw [eh8]; exact mm_pf_ne _ _ (by decide)
              have qh8_197 : h8.1 66 40 = h7.1 66 40 := by rw [eh8]; exact mm_pf_ne _ _ (by decide)
              have qh8_198 : h8.1 66 41 = h7.1 66 41 := by rw [eh8]; exact mm_pf_ne _ _ (by decide)
              have qh8_199 : h8.1 66 58 = h7.1 66 58 := by rw [eh8]; exact mm_pf_ne _ _ (by decide)
              have qh8_200 : h8.1 66 67 = h7.1 66 67 := by rw [eh8]; exact mm_pf_ne _ _ (by decide)
              have qh8_201 : h8.1 66 82 = h7.1 66 82 := by rw [eh8]; exact mm_pf_ne _ _ (by decide)
              refine mm_aload_n C (mm_dec dk_X12_anew 63 rfl) rfl ?_
              refine mm_iconst C (mm_dec dk_X12_anew 64 rfl) ⟨by decide, by decide⟩ ?_
              refine mm_puti C fl_X12_216 (mm_dec dk_X12_anew 65 rfl) rfl rfl rfl (Or.inl ⟨rfl, rfl⟩) ?_
              have i9 : mm_inv (mm_pf h8 66 21 0) := mm_inv_pf i8 (show 0 ≤ 0 ∧ 0 ≤ 20 from ⟨by omega, by omega⟩) (by decide)
              have f9 : mm_fr [(66, 1), (66, 2), (66, 3), (66, 9), (66, 10), (66, 11), (66, 12), (66, 19), (66, 21), (66, 22), (66, 23), (66, 24), (66, 40), (66, 41), (66, 58), (66, 67), (66, 82), (66, 95)] [67, 68, 69, 70, 71] h (mm_pf h8 66 21 0) := mm_fr_pf f8 (by decide)
              obtain ⟨h9, eh9⟩ : ∃ z, z = mm_pf h8 66 21 0 := ⟨_, rfl⟩
              rw [← eh9] at i9 f9 ⊢
              have qh9 : h9.1 66 21 = 0 := by rw [eh9]; exact mm_pf_same _ _ _ _
              have qh9_202 : h9.1 66 1 = h8.1 66 1 := by rw [eh9]; exact mm_pf_ne _ _ (by decide)
              have qh9_203 : h9.1 66 2 = h8.1 66 2 := by rw [eh9]; exact mm_pf_ne _ _ (by decide)
              have qh9_204 : h9.1 66 3 = h8.1 66 3 := by rw [eh9]; exact mm_pf_ne _ _ (by decide)
              have qh9_205 : h9.1 66 9 = h8.1 66 9 := by rw [eh9]; exact mm_pf_ne _ _ (by decide)
              have qh9_206 : h9.1 66 10 = h8.1 66 10 := by rw [eh9]; exact mm_pf_ne _ _ (by decide)
              have qh9_207 : h9.1 66 11 = h8.1 66 11 := by rw [eh9]; exact mm_pf_ne _ _ (by decide)
              have qh9_208 : h9.1 66 12 = h8.1 66 12 := by rw [eh9]; exact mm_pf_ne _ _ (by decide)
              have qh9_209 : h9.1 66 19 = h8.1 66 19 := by rw [eh9]; exact mm_pf_ne _ _ (by decide)
              have qh9_210 : h9.1 66 22 = h8.1 66 22 := by rw [eh9]; exact mm_pf_ne _ _ (by decide)
              have qh9_211 : h9.1 66 23 = h8.1 66 23 := by rw [eh9]; exact mm_pf_ne _ _ (by decide)
              have qh9_212 : h9.1 66 24 = h8.1 66 24 := by rw [eh9]; exact mm_pf_ne _ _ (by decide)
              have qh9_213 : h9.1 66 40 = h8.1 66 40 := by rw [eh9]; exact mm_pf_ne _ _ (by decide)
              have qh9_214 : h9.1 66 41 = h8.1 66 41 := by rw [eh9]; exact mm_pf_ne _ _ (by decide)
              have qh9_215 : h9.1 66 58 = h8.1 66 58 := by rw [eh9]; exact mm_pf_ne _ _ (by decide)
              have qh9_216 : h9.1 66 67 = h8.1 66 67 := by rw [eh9]; exact mm_pf_ne _ _ (by decide)
              have qh9_217 : h9.1 66 82 = h8.1 66 82 := by rw [eh9]; exact mm_pf_ne _ _ (by decide)
              refine mm_aload_n C (mm_dec dk_X12_anew 66 rfl) rfl ?_
              refine mm_iconst C (mm_dec dk_X12_anew 67 rfl) ⟨by decide, by decide⟩ ?_
              refine mm_puti C fl_X12_219 (mm_dec dk_X12_anew 68 rfl) rfl rfl rfl (Or.inl ⟨rfl, rfl⟩) ?_
              have i10 : mm_inv (mm_pf h9 66 22 0) := mm_inv_pf i9 (show 0 ≤ 0 ∧ 0 ≤ 8 from ⟨by omega, by omega⟩) (by decide)
              have f10 : mm_fr [(66, 1), (66, 2), (66, 3), (66, 9), (66, 10), (66, 11), (66, 12), (66, 19), (66, 21), (66, 22), (66, 23), (66, 24), (66, 40), (66, 41), (66, 58), (66, 67), (66, 82), (66, 95)] [67, 68, 69, 70, 71] h (mm_pf h9 66 22 0) := mm_fr_pf f9 (by decide)
              obtain ⟨h10, eh10⟩ : ∃ z, z = mm_pf h9 66 22 0 := ⟨_, rfl⟩
              rw [← eh10] at i10 f10 ⊢
              have qh10 : h10.1 66 22 = 0 := by rw [eh10]; exact mm_pf_same _ _ _ _
              have qh10_218 : h10.1 66 1 = h9.1 66 1 := by rw [eh10]; exact mm_pf_ne _ _ (by decide)
              have qh10_219 : h10.1 66 2 = h9.1 66 2 := by rw [eh10]; exact mm_pf_ne _ _ (by decide)
              have qh10_220 : h10.1 66 3 = h9.1 66 3 := by rw [eh10]; exact mm_pf_ne _ _ (by decide)
              have qh10_221 : h10.1 66 9 = h9.1 66 9 := by rw [eh10]; exact mm_pf_ne _ _ (by decide)
              have qh10_222 : h10.1 66 10 = h9.1 66 10 := by rw [eh10]; exact mm_pf_ne _ _ (by decide)
              have qh10_223 : h10.1 66 11 = h9.1 66 11 := by rw [eh10]; exact mm_pf_ne _ _ (by decide)
              have qh10_224 : h10.1 66 12 = h9.1 66 12 := by rw [eh10]; exact mm_pf_ne _ _ (by decide)
              have qh10_225 : h10.1 66 19 = h9.1 66 19 := by rw [eh10]; exact mm_pf_ne _ _ (by decide)
              have qh10_226 : h10.1 66 21 = h9.1 66 21 := by rw [eh10]; exact mm_pf_ne _ _ (by decide)
              have qh10_227 : h10.1 66 23 = h9.1 66 23 := by rw [eh10]; exact mm_pf_ne _ _ (by decide)
              have qh10_228 : h10.1 66 24 = h9.1 66 24 := by rw [eh10]; exact mm_pf_ne _ _ (by decide)
              have qh10_229 : h10.1 66 40 = h9.1 66 40 := by rw [eh10]; exact mm_pf_ne _ _ (by decide)
              have qh10_230 : h10.1 66 41 = h9.1 66 41 := by rw [eh10]; exact mm_pf_ne _ _ (by decide)
              have qh10_231 : h10.1 66 58 = h9.1 66 58 := by rw [eh10]; exact mm_pf_ne _ _ (by decide)
              have qh10_232 : h10.1 66 67 = h9.1 66 67 := by rw [eh10]; exact mm_pf_ne _ _ (by decide)
              have qh10_233 : h10.1 66 82 = h9.1 66 82 := by rw [eh10]; exact mm_pf_ne _ _ (by decide)
              refine mm_aload_n C (mm_dec dk_X12_anew 69 rfl) rfl ?_
              refine mm_iconst C (mm_dec dk_X12_anew 70 rfl) ⟨by decide, by decide⟩ ?_
              refine mm_puti C fl_X12_222 (mm_dec dk_X12_anew 71 rfl) rfl rfl rfl (Or.inl ⟨rfl, rfl⟩) ?_
              have i11 : mm_inv (mm_pf h10 66 23 0) := mm_inv_pf i10 (show 0 ≤ 0 ∧ 0 ≤ 40 from ⟨by omega, by omega⟩) (by decide)
              have f11 : mm_fr [(66, 1), (66, 2), (66, 3), (66, 9), (66, 10), (66, 11), (66, 12), (66, 19), (66, 21), (66, 22), (66, 23), (66, 24), (66, 40), (66, 41), (66, 58), (66, 67), (66, 82), (66, 95)] [67, 68, 69, 70, 71] h (mm_pf h10 66 23 0) := mm_fr_pf f10 (by decide)
              obtain ⟨h11, eh11⟩ : ∃ z, z = mm_pf h10 66 23 0 := ⟨_, rfl⟩
              rw [← eh11] at i11 f11 ⊢
              have qh11 : h11.1 66 23 = 0 := by rw [eh11]; exact mm_pf_same _ _ _ _
              have qh11_234 : h11.1 66 1 = h10.1 66 1 := by rw [eh11]; exact mm_pf_ne _ _ (by decide)
              have qh11_235 : h11.1 66 2 = h10.1 66 2 := by rw [eh11]; exact mm_pf_ne _ _ (by decide)
              have qh11_236 : h11.1 66 3 = h10.1 66 3 := by rw [eh11]; exact mm_pf_ne _ _ (by decide)
              have qh11_237 : h11.1 66 9 = h10.1 66 9 := by rw [eh11]; exact mm_pf_ne _ _ (by decide)
              have qh11_238 : h11.1 66 10 = h10.1 66 10 := by rw [eh11]; exact mm_pf_ne _ _ (by decide)
              have qh11_239 : h11.1 66 11 = h10.1 66 11 := by rw [eh11]; exact mm_pf_ne _ _ (by decide)
              have qh11_240 : h11.1 66 12 = h10.1 66 12 := by rw [eh11]; exact mm_pf_ne _ _ (by decide)
              have qh11_241 : h11.1 66 19 = h10.1 66 19 := by rw [eh11]; exact mm_pf_ne _ _ (by decide)
              have qh11_242 : h11.1 66 21 = h10.1 66 21 := by rw [eh11]; exact mm_pf_ne _ _ (by decide)
              have qh11_243 : h11.1 66 22 = h10.1 66 22 := by rw [eh11]; exact mm_pf_ne _ _ (by decide)
              have qh11_244 : h11.1 66 24 = h10.1 66 24 := by rw [eh11]; exact mm_pf_ne _ _ (by decide)
              have qh11_245 : h11.1 66 40 = h10.1 66 40 := by rw [eh11]; exact mm_pf_ne _ _ (by decide)
              have qh11_246 : h11.1 66 41 = h10.1 66 41 := by rw [eh11]; exact mm_pf_ne _ _ (by decide)
              have qh11_247 : h11.1 66 58 = h10.1 66 58 := by rw [eh11]; exact mm_pf_ne _ _ (by decide)
              have qh11_248 : h11.1 66 67 = h10.1 66 67 := by rw [eh11]; exact mm_pf_ne _ _ (by decide)
              have qh11_249 : h11.1 66 82 = h10.1 66 82 := by rw [eh11]; exact mm_pf_ne _ _ (by decide)
              refine mm_aload_n C (mm_dec dk_X12_anew 72 rfl) rfl ?_
              refine mm_iconst C (mm_dec dk_X12_anew 73 rfl) ⟨by decide, by decide⟩ ?_
              refine mm_puti C fl_X12_225 (mm_dec dk_X12_anew 74 rfl) rfl rfl rfl (Or.inl ⟨rfl, rfl⟩) ?_
              have i12 : mm_inv (mm_pf h11 66 24 0) := mm_inv_pf i11 (show 0 ≤ 0 ∧ 0 ≤ 10 from ⟨by omega, by omega⟩) (by decide)
              have f12 : mm_fr [(66, 1), (66, 2), (66, 3), (66, 9), (66, 10), (66, 11), (66, 12), (66, 19), (66, 21), (66, 22), (66, 23), (66, 24), (66, 40), (66, 41), (66, 58), (66, 67), (66, 82), (66, 95)] [67, 68, 69, 70, 71] h (mm_pf h11 66 24 0) := mm_fr_pf f11 (by decide)
              obtain ⟨h12, eh12⟩ : ∃ z, z = mm_pf h11 66 24 0 := ⟨_, rfl⟩
              rw [← eh12] at i12 f12 ⊢
              have qh12 : h12.1 66 24 = 0 := by rw [eh12]; exact mm_pf_same _ _ _ _
              have qh12_250 : h12.1 66 1 = h11.1 66 1 := by rw [eh12]; exact mm_pf_ne _ _ (by decide)
              have qh12_251 : h12.1 66 2 = h11.1 66 2 := by rw [eh12]; exact mm_pf_ne _ _ (by decide)
              have qh12_252 : h12.1 66 3 = h11.1 66 3 := by rw [eh12]; exact mm_pf_ne _ _ (by decide)
              have qh12_253 : h12.1 66 9 = h11.1 66 9 := by rw [eh12]; exact mm_pf_ne _ _ (by decide)
              have qh12_254 : h12.1 66 10 = h11.1 66 10 := by rw [eh12]; exact mm_pf_ne _ _ (by decide)
              have qh12_255 : h12.1 66 11 = h11.1 66 11 := by rw [eh12]; exact mm_pf_ne _ _ (by decide)
              have qh12_256 : h12.1 66 12 = h11.1 66 12 := by rw [eh12]; exact mm_pf_ne _ _ (by decide)
              have qh12_257 : h12.1 66 19 = h11.1 66 19 := by rw [eh12]; exact mm_pf_ne _ _ (by decide)
              have qh12_258 : h12.1 66 21 = h11.1 66 21 := by rw [eh12]; exact mm_pf_ne _ _ (by decide)
              have qh12_259 : h12.1 66 22 = h11.1 66 22 := by rw [eh12]; exact mm_pf_ne _ _ (by decide)
              have qh12_260 : h12.1 66 23 = h11.1 66 23 := by rw [eh12]; exact mm_pf_ne _ _ (by decide)
              have qh12_261 : h12.1 66 40 = h11.1 66 40 := by rw [eh12]; exact mm_pf_ne _ _ (by decide)
              have qh12_262 : h12.1 66 41 = h11.1 66 41 := by rw [eh12]; exact mm_pf_ne _ _ (by decide)
              have qh12_263 : h12.1 66 58 = h11.1 66 58 := by rw [eh12]; exact mm_pf_ne _ _ (by decide)
              have qh12_264 : h12.1 66 67 = h11.1 66 67 := by rw [eh12]; exact mm_pf_ne _ _ (by decide)
              have qh12_265 : h12.1 66 82 = h11.1 66 82 := by rw [eh12]; exact mm_pf_ne _ _ (by decide)
              refine mm_aload_n C (mm_dec dk_X12_anew 75 rfl) rfl ?_
              refine mm_iconst C (mm_dec dk_X12_anew 76 rfl) ⟨by decide, by decide⟩ ?_
              refine mm_puti C fl_X12_228 (mm_dec dk_X12_anew 77 rfl) rfl rfl rfl (Or.inl ⟨rfl, rfl⟩) ?_
              have i13 : mm_inv (mm_pf h12 66 40 0) := mm_inv_pf i12 (show 0 ≤ 0 ∧ 0 ≤ 500 from ⟨by omega, by omega⟩) (by decide)
              have f13 : mm_fr [(66, 1), (66, 2), (66, 3), (66, 9), (66, 10), (66, 11), (66, 12), (66, 19), (66, 21), (66, 22), (66, 23), (66, 24), (66, 40), (66, 41), (66, 58), (66, 67), (66, 82), (66, 95)] [67, 68, 69, 70, 71] h (mm_pf h12 66 40 0) := mm_fr_pf f12 (by decide)
              obtain ⟨h13, eh13⟩ : ∃ z, z = mm_pf h12 66 40 0 := ⟨_, rfl⟩
              rw [← eh13] at i13 f13 ⊢
              have qh13 : h13.1 66 40 = 0 := by rw [eh13]; exact mm_pf_same _ _ _ _
              have qh13_266 : h13.1 66 1 = h12.1 66 1 := by rw [eh13]; exact mm_pf_ne _ _ (by decide)
              have qh13_267 : h13.1 66 2 = h12.1 66 2 := by rw [eh13]; exact mm_pf_ne _ _ (by decide)
              have qh13_268 : h13.1 66 3 = h12.1 66 3 := by rw [eh13]; exact mm_pf_ne _ _ (by decide)
              have qh13_269 : h13.1 66 9 = h12.1 66 9 := by rw [eh13]; exact mm_pf_ne _ _ (by decide)
              have qh13_270 : h13.1 66 10 = h12.1 66 10 := by rw [eh13]; exact mm_pf_ne _ _ (by decide)
              have qh13_271 : h13.1 66 11 = h12.1 66 11 := by rw [eh13]; exact mm_pf_ne _ _ (by decide)
              have qh13_272 : h13.1 66 12 = h12.1 66 12 := by rw [eh13]; exact mm_pf_ne _ _ (by decide)
              have qh13_273 : h13.1 66 19 = h12.1 66 19 := by rw [eh13]; exact mm_pf_ne _ _ (by decide)
              have qh13_274 : h13.1 66 21 = h12.1 66 21 := by rw [eh13]; exact mm_pf_ne _ _ (by decide)
              have qh13_275 : h13.1 66 22 = h12.1 66 22 := by rw [eh13]; exact mm_pf_ne _ _ (by decide)
              have qh13_276 : h13.1 66 23 = h12.1 66 23 := by rw [eh13]; exact mm_pf_ne _ _ (by decide)
              have qh13_277 : h13.1 66 24 = h12.1 66 24 := by rw [eh13]; exact mm_pf_ne _ _ (by decide)
              have qh13_278 : h13.1 66 41 = h12.1 66 41 := by rw [eh13]; exact mm_pf_ne _ _ (by decide)
              have qh13_279 : h13.1 66 58 = h12.1 66 58 := by rw [eh13]; exact mm_pf_ne _ _ (by decide)
              have qh13_280 : h13.1 66 67 = h12.1 66 67 := by rw [eh13]; exact mm_pf_ne _ _ (by decide)
              have qh13_281 : h13.1 66 82 = h12.1 66 82 := by rw [eh13]; exact mm_pf_ne _ _ (by decide)
              refine mm_aload_n C (mm_dec dk_X12_anew 78 rfl) rfl ?_
              refine mm_iconst C (mm_dec dk_X12_anew 79 rfl) ⟨by decide, by decide⟩ ?_
              refine mm_puti C fl_X12_231 (mm_dec dk_X12_anew 80 rfl) rfl rfl rfl (Or.inl ⟨rfl, rfl⟩) ?_
              have i14 : mm_inv (mm_pf h13 66 82 0) := mm_inv_pf i13 (show 0 ≤ 0 ∧ 0 ≤ 40 from ⟨by omega, by omega⟩) (by decide)
              have f14 : mm_fr [(66, 1), (66, 2), (66, 3), (66, 9), (66, 10), (66, 11), (66, 12), (66, 19), (66, 21), (66, 22), (66, 23), (66, 24), (66, 40), (66, 41), (66, 58), (66, 67), (66, 82), (66, 95)] [67, 68, 69, 70, 71] h (mm_pf h13 66 82 0) := mm_fr_pf f13 (by decide)
              obtain ⟨h14, eh14⟩ : ∃ z, z = mm_pf h13 66 82 0 := ⟨_, rfl⟩
              rw [← eh14] at i14 f14 ⊢
              have qh14 : h14.1 66 82 = 0 := by rw [eh14]; exact mm_pf_same _ _ _ _
              have qh14_282 : h14.1 66 1 = h13.1 66 1 := by rw [eh14]; exact mm_pf_ne _ _ (by decide)
              have qh14_283 : h14.1 66 2 = h13.1 66 2 := by rw [eh14]; exact mm_pf_ne _ _ (by decide)
              have qh14_284 : h14.1 66 3 = h13.1 66 3 := by rw [eh14]; exact mm_pf_ne _ _ (by decide)
              have qh14_285 : h14.1 66 9 = h13.1 66 9 := by rw [eh14]; exact mm_pf_ne _ _ (by decide)
              have qh14_286 : h14.1 66 10 = h13.1 66 10 := by rw [eh14]; exact mm_pf_ne _ _ (by decide)
              have qh14_287 : h14.1 66 11 = h13.1 66 11 := by rw [eh14]; exact mm_pf_ne _ _ (by decide)
              have qh14_288 : h14.1 66 12 = h13.1 66 12 := by rw [eh14]; exact mm_pf_ne _ _ (by decide)
              have qh14_289 : h14.1 66 19 = h13.1 66 19 := by rw [eh14]; exact mm_pf_ne _ _ (by decide)
              have qh14_290 : h14.1 66 21 = h13.1 66 21 := by rw [eh14]; exact mm_pf_ne _ _ (by decide)
              have qh14_291 : h14.1 66 22 = h13.1 66 22 := by rw [eh14]; exact mm_pf_ne _ _ (by decide)
              have qh14_292 : h14.1 66 23 = h13.1 66 23 := by rw [eh14]; exact mm_pf_ne _ _ (by decide)
              have qh14_293 : h14.1 66 24 = h13.1 66 24 := by rw [eh14]; exact mm_pf_ne _ _ (by decide)
              have qh14_294 : h14.1 66 40 = h13.1 66 40 := by rw [eh14]; exact mm_pf_ne _ _ (by decide)
              have qh14_295 : h14.1 66 41 = h13.1 66 41 := by rw [eh14]; exact mm_pf_ne _ _ (by decide)
              have qh14_296 : h14.1 66 58 = h13.1 66 58 := by rw [eh14]; exact mm_pf_ne _ _ (by decide)
              have qh14_297 : h14.1 66 67 = h13.1 66 67 := by rw [eh14]; exact mm_pf_ne _ _ (by decide)
              refine mm_aload_n C (mm_dec dk_X12_anew 81 rfl) rfl ?_
              refine mm_iconst C (mm_dec dk_X12_anew 82 rfl) ⟨by decide, by decide⟩ ?_
              refine mm_puti C fl_X12_234 (mm_dec dk_X12_anew 83 rfl) rfl rfl rfl (Or.inl ⟨rfl, rfl⟩) ?_
              have i15 : mm_inv (mm_pf h14 66 41 0) := mm_inv_pf i14 (show 0 ≤ 0 ∧ 0 ≤ 99999 from ⟨by omega, by omega⟩) (by decide)
              have f15 : mm_fr [(66, 1), (66, 2), (66, 3), (66, 9), (66, 10), (66, 11), (66, 12), (66, 19), (66, 21), (66, 22), (66, 23), (66, 24), (66, 40), (66, 41), (66, 58), (66, 67), (66, 82), (66, 95)] [67, 68, 69, 70, 71] h (mm_pf h14 66 41 0) := mm_fr_pf f14 (by decide)
              obtain ⟨h15, eh15⟩ : ∃ z, z = mm_pf h14 66 41 0 := ⟨_, rfl⟩
              rw [← eh15] at i15 f15 ⊢
              have qh15 : h15.1 66 41 = 0 := by rw [eh15]; exact mm_pf_same _ _ _ _
              have qh15_298 : h15.1 66 1 = h14.1 66 1 := by rw [eh15]; exact mm_pf_ne _ _ (by decide)
              have qh15_299 : h15.1 66 2 = h14.1 66 2 := by rw [eh15]; exact mm_pf_ne _ _ (by decide)
              have qh15_300 : h15.1 66 3 = h14.1 66 3 := by rw [eh15]; exact mm_pf_ne _ _ (by decide)
              have qh15_301 : h15.1 66 9 = h14.1 66 9 := by rw [eh15]; exact mm_pf_ne _ _ (by decide)
              have qh15_302 : h15.1 66 10 = h14.1 66 10 := by rw [eh15]; exact mm_pf_ne _ _ (by decide)
              have qh15_303 : h15.1 66 11 = h14.1 66 11 := by rw [eh15]; exact mm_pf_ne _ _ (by decide)
              have qh15_304 : h15.1 66 12 = h14.1 66 12 := by rw [eh15]; exact mm_pf_ne _ _ (by decide)
              have qh15_305 : h15.1 66 19 = h14.1 66 19 := by rw [eh15]; exact mm_pf_ne _ _ (by decide)
              have qh15_306 : h15.1 66 21 = h14.1 66 21 := by rw [eh15]; exact mm_pf_ne _ _ (by decide)
              have qh15_307 : h15.1 66 22 = h14.1 66 22 := by rw [eh15]; exact mm_pf_ne _ _ (by decide)
              have qh15_308 : h15.1 66 23 = h14.1 66 23 := by rw [eh15]; exact mm_pf_ne _ _ (by decide)
              have qh15_309 : h15.1 66 24 = h14.1 66 24 := by rw [eh15]; exact mm_pf_ne _ _ (by decide)
              have qh15_310 : h15.1 66 40 = h14.1 66 40 := by rw [eh15]; exact mm_pf_ne _ _ (by decide)
              have qh15_311 : h15.1 66 58 = h14.1 66 58 := by rw [eh15]; exact mm_pf_ne _ _ (by decide)
              have qh15_312 : h15.1 66 67 = h14.1 66 67 := by rw [eh15]; exact mm_pf_ne _ _ (by decide)
              have qh15_313 : h15.1 66 82 = h14.1 66 82 := by rw [eh15]; exact mm_pf_ne _ _ (by decide)
              refine mm_aload_n C (mm_dec dk_X12_anew 84 rfl) rfl ?_
              refine mm_iconst C (mm_dec dk_X12_anew 85 rfl) ⟨by decide, by decide⟩ ?_
              refine mm_puti C fl_X12_237 (mm_dec dk_X12_anew 86 rfl) rfl rfl rfl (Or.inl ⟨rfl, rfl⟩) ?_
              have i16 : mm_inv (mm_pf h15 66 58 (-1)) := mm_inv_pf i15 (show -2147483648 ≤ (-1) ∧ (-1) ≤ 2147483647 from ⟨by omega, by omega⟩) (by decide)
              have f16 : mm_fr [(66, 1), (66, 2), (66, 3), (66, 9), (66, 10), (66, 11), (66, 12), (66, 19), (66, 21), (66, 22), (66, 23), (66, 24), (66, 40), (66, 41), (66, 58), (66, 67), (66, 82), (66, 95)] [67, 68, 69, 70, 71] h (mm_pf h15 66 58 (-1)) := mm_fr_pf f15 (by decide)
              obtain ⟨h16, eh16⟩ : ∃ z, z = mm_pf h15 66 58 (-1) := ⟨_, rfl⟩
              rw [← eh16] at i16 f16 ⊢
              have qh16 : h16.1 66 58 = (-1) := by rw [eh16]; exact mm_pf_same _ _ _ _
              have qh16_314 : h16.1 66 1 = h15.1 66 1 := by rw [eh16]; exact mm_pf_ne _ _ (by decide)
              have qh16_315 : h16.1 66 2 = h15.1 66 2 := by rw [eh16]; exact mm_pf_ne _ _ (by decide)
              have qh16_316 : h16.1 66 3 = h15.1 66 3 := by rw [eh16]; exact mm_pf_ne _ _ (by decide)
              have qh16_317 : h16.1 66 9 = h15.1 66 9 := by rw [eh16]; exact mm_pf_ne _ _ (by decide)
              have qh16_318 : h16.1 66 10 = h15.1 66 10 := by rw [eh16]; exact mm_pf_ne _ _ (by decide)
              have qh16_319 : h16.1 66 11 = h15.1 66 11 := by rw [eh16]; exact mm_pf_ne _ _ (by decide)
              have qh16_320 : h16.1 66 12 = h15.1 66 12 := by rw [eh16]; exact mm_pf_ne _ _ (by decide)
              have qh16_321 : h16.1 66 19 = h15.1 66 19 := by rw [eh16]; exact mm_pf_ne _ _ (by decide)
              have qh16_322 : h16.1 66 21 = h15.1 66 21 := by rw [eh16]; exact mm_pf_ne _ _ (by decide)
              have qh16_323 : h16.1 66 22 = h15.1 66 22 := by rw [eh16]; exact mm_pf_ne _ _ (by decide)
              have qh16_324 : h16.1 66 23 = h15.1 66 23 := by rw [eh16]; exact mm_pf_ne _ _ (by decide)
              have qh16_325 : h16.1 66 24 = h15.1 66 24 := by rw [eh16]; exact mm_pf_ne _ _ (by decide)
              have qh16_326 : h16.1 66 40 = h15.1 66 40 := by rw [eh16]; exact mm_pf_ne _ _ (by decide)
              have qh16_327 : h16.1 66 41 = h15.1 66 41 := by rw [eh16]; exact mm_pf_ne _ _ (by decide)
              have qh16_328 : h16.1 66 67 = h15.1 66 67 := by rw [eh16]; exact mm_pf_ne _ _ (by decide)
              have qh16_329 : h16.1 66 82 = h15.1 66 82 := by rw [eh16]; exact mm_pf_ne _ _ (by decide)
              refine mm_aload_n C (mm_dec dk_X12_anew 87 rfl) rfl ?_
              refine mm_iconst C (mm_dec dk_X12_anew 88 rfl) ⟨by decide, by decide⟩ ?_
              refine mm_puti C fl_X12_240 (mm_dec dk_X12_anew 89 rfl) rfl rfl rfl (Or.inr ⟨rfl, rfl, by omega⟩) ?_
              have i17 : mm_inv (mm_pf h16 66 67 0) := mm_inv_pf i16 (show 0 ≤ 0 ∧ 0 ≤ 1 from ⟨by omega, by omega⟩) (by decide)
              have f17 : mm_fr [(66, 1), (66, 2), (66, 3), (66, 9), (66, 10), (66, 11), (66, 12), (66, 19), (66, 21), (66, 22), (66, 23), (66, 24), (66, 40), (66, 41), (66, 58), (66, 67), (66, 82), (66, 95)] [67, 68, 69, 70, 71] h (mm_pf h16 66 67 0) := mm_fr_pf f16 (by decide)
              obtain ⟨h17, eh17⟩ : ∃ z, z = mm_pf h16 66 67 0 := ⟨_, rfl⟩
              rw [← eh17] at i17 f17 ⊢
              have qh17 : h17.1 66 67 = 0 := by rw [eh17]; exact mm_pf_same _ _ _ _
              have qh17_330 : h17.1 66 1 = h16.1 66 1 := by rw [eh17]; exact mm_pf_ne _ _ (by decide)
              have qh17_331 : h17.1 66 2 = h16.1 66 2 := by rw [eh17]; exact mm_pf_ne _ _ (by decide)
              have qh17_332 : h17.1 66 3 = h16.1 66 3 := by rw [eh17]; exact mm_pf_ne _ _ (by decide)
              have qh17_333 : h17.1 66 9 = h16.1 66 9 := by rw [eh17]; exact mm_pf_ne _ _ (by decide)
              have qh17_334 : h17.1 66 10 = h16.1 66 10 := by rw [eh17]; exact mm_pf_ne _ _ (by decide)
              have qh17_335 : h17.1 66 11 = h16.1 66 11 := by rw [eh17]; exact mm_pf_ne _ _ (by decide)
              have qh17_336 : h17.1 66 12 = h16.1 66 12 := by rw [eh17]; exact mm_pf_ne _ _ (by decide)
              have qh17_337 : h17.1 66 19 = h16.1 66 19 := by rw [eh17]; exact mm_pf_ne _ _ (by decide)
              have qh17_338 : h17.1 66 21 = h16.1 66 21 := by rw [eh17]; exact mm_pf_ne _ _ (by decide)
              have qh17_339 : h17.1 66 22 = h16.1 66 22 := by rw [eh17]; exact mm_pf_ne _ _ (by decide)
              have qh17_340 : h17.1 66 23 = h16.1 66 23 := by rw [eh17]; exact mm_pf_ne _ _ (by decide)
              have qh17_341 : h17.1 66 24 = h16.1 66 24 := by rw [eh17]; exact mm_pf_ne _ _ (by decide)
              have qh17_342 : h17.1 66 40 = h16.1 66 40 := by rw [eh17]; exact mm_pf_ne _ _ (by decide)
              have qh17_343 : h17.1 66 41 = h16.1 66 41 := by rw [eh17]; exact mm_pf_ne _ _ (by decide)
              have qh17_344 : h17.1 66 58 = h16.1 66 58 := by rw [eh17]; exact mm_pf_ne _ _ (by decide)
              have qh17_345 : h17.1 66 82 = h16.1 66 82 := by rw [eh17]; exact mm_pf_ne _ _ (by decide)
              refine mm_aload_n C (mm_dec dk_X12_anew 90 rfl) rfl ?_
              refine mm_iconst C (mm_dec dk_X12_anew 91 rfl) ⟨by decide, by decide⟩ ?_
              refine mm_puti C fl_X12_244 (mm_dec dk_X12_anew 92 rfl) rfl rfl rfl (Or.inr ⟨rfl, rfl, by omega⟩) ?_
              have i18 : mm_inv (mm_pf h17 66 95 0) := mm_inv_pf i17 (show 0 ≤ 0 ∧ 0 ≤ 1 from ⟨by omega, by omega⟩) (by decide)
              have f18 : mm_fr [(66, 1), (66, 2), (66, 3), (66, 9), (66, 10), (66, 11), (66, 12), (66, 19), (66, 21), (66, 22), (66, 23), (66, 24), (66, 40), (66, 41), (66, 58), (66, 67), (66, 82), (66, 95)] [67, 68, 69, 70, 71] h (mm_pf h17 66 95 0) := mm_fr_pf f17 (by decide)
              obtain ⟨h18, eh18⟩ : ∃ z, z = mm_pf h17 66 95 0 := ⟨_, rfl⟩
              rw [← eh18] at i18 f18 ⊢
              have qh18 : h18.1 66 95 = 0 := by rw [eh18]; exact mm_pf_same _ _ _ _
              have qh18_346 : h18.1 66 1 = h17.1 66 1 := by rw [eh18]; exact mm_pf_ne _ _ (by decide)
              have qh18_347 : h18.1 66 2 = h17.1 66 2 := by rw [eh18]; exact mm_pf_ne _ _ (by decide)
              have qh18_348 : h18.1 66 3 = h17.1 66 3 := by rw [eh18]; exact mm_pf_ne _ _ (by decide)
              have qh18_349 : h18.1 66 9 = h17.1 66 9 := by rw [eh18]; exact mm_pf_ne _ _ (by decide)
              have qh18_350 : h18.1 66 10 = h17.1 66 10 := by rw [eh18]; exact mm_pf_ne _ _ (by decide)
              have qh18_351 : h18.1 66 11 = h17.1 66 11 := by rw [eh18]; exact mm_pf_ne _ _ (by decide)
              have qh18_352 : h18.1 66 12 = h17.1 66 12 := by rw [eh18]; exact mm_pf_ne _ _ (by decide)
              have qh18_353 : h18.1 66 19 = h17.1 66 19 := by rw [eh18]; exact mm_pf_ne _ _ (by decide)
              have qh18_354 : h18.1 66 21 = h17.1 66 21 := by rw [eh18]; exact mm_pf_ne _ _ (by decide)
              have qh18_355 : h18.1 66 22 = h17.1 66 22 := by rw [eh18]; exact mm_pf_ne _ _ (by decide)
              have qh18_356 : h18.1 66 23 = h17.1 66 23 := by rw [eh18]; exact mm_pf_ne _ _ (by decide)
              have qh18_357 : h18.1 66 24 = h17.1 66 24 := by rw [eh18]; exact mm_pf_ne _ _ (by decide)
              have qh18_358 : h18.1 66 40 = h17.1 66 40 := by rw [eh18]; exact mm_pf_ne _ _ (by decide)
              have qh18_359 : h18.1 66 41 = h17.1 66 41 := by rw [eh18]; exact mm_pf_ne _ _ (by decide)
              have qh18_360 : h18.1 66 58 = h17.1 66 58 := by rw [eh18]; exact mm_pf_ne _ _ (by decide)
              have qh18_361 : h18.1 66 67 = h17.1 66 67 := by rw [eh18]; exact mm_pf_ne _ _ (by decide)
              have qh18_362 : h18.1 66 82 = h17.1 66 82 := by rw [eh18]; exact mm_pf_ne _ _ (by decide)
              exact mm_vret C T (mm_dec dk_X12_anew 93 rfl) (by decide : 0 ≤ 0) (by decide : 0 ≤ 0) ⟨rfl, ⟨i18, f18, by omega, by omega, by omega, by omega, by omega, by omega, by omega, by rw [eh18, eh17, eh16, eh15, eh14, eh13, eh12, eh11, eh10, eh9, eh8, eh7, eh6, eh5, eh4]; exact w60_0, by rw [eh18, eh17, eh16, eh15, eh14, eh13, eh12, eh11, eh10, eh9, eh8, eh7, eh6, eh5, eh4]; exact mm_al_le w60_1 (by omega), by rw [eh18, eh17, eh16, eh15, eh14, eh13, eh12, eh11, eh10, eh9, eh8, eh7, eh6, eh5, eh4]; exact w60_2, by rw [eh18, eh17, eh16, eh15, eh14, eh13, eh12, eh11, eh10, eh9, eh8, eh7, eh6, eh5, eh4]; exact w60_3, by rw [eh18, eh17, eh16, eh15, eh14, eh13, eh12, eh11, eh10, eh9, eh8, eh7, eh6, eh5, eh4]; exact w60_4, by omega, by omega, by omega, by omega, by omega, by omega, by omega, by omega, by omega⟩⟩
            · skip
              refine mm_aload_n C (mm_dec dk_X12_anew 41 rfl) rfl ?_
              refine mm_getr (t := 69) C fl_X12_16 (mm_dec dk_X12_anew 42 rfl) rfl rfl (mm_ref i60_ rfl) ?_
              refine mm_iload_n C (mm_dec dk_X12_anew 43 rfl) rfl ?_
              refine mm_iconst C (mm_dec dk_X12_anew 44 rfl) ⟨by decide, by decide⟩ ?_
              refine mm_iast C (mm_dec dk_X12_anew 45 rfl) rfl (by omega) (by omega) ?_
              have i19 : mm_inv (mm_pa h60_ 69 x60_3 5) := mm_inv_pa i60_ (show 0 ≤ 5 ∧ 5 ≤ 99 from ⟨by omega, by omega⟩)
              have f19 : mm_fr [(66, 1), (66, 2), (66, 3), (66, 9), (66, 10), (66, 11), (66, 12), (66, 19), (66, 21), (66, 22), (66, 23), (66, 24), (66, 40), (66, 41), (66, 58), (66, 67), (66, 82), (66, 95)] [67, 68, 69, 70, 71] h (mm_pa h60_ 69 x60_3 5) := mm_fr_pa f60_ (by decide)
              obtain ⟨h19, eh19⟩ : ∃ z, z = mm_pa h60_ 69 x60_3 5 := ⟨_, rfl⟩
              rw [← eh19] at i19 f19 ⊢
              have qh19_363 : h19.1 66 1 = h60_.1 66 1 := by rw [eh19]; rfl
              have qh19_364 : h19.1 66 2 = h60_.1 66 2 := by rw [eh19]; rfl
              have qh19_365 : h19.1 66 3 = h60_.1 66 3 := by rw [eh19]; rfl
              have qh19_366 : h19.1 66 9 = h60_.1 66 9 := by rw [eh19]; rfl
              have qh19_367 : h19.1 66 10 = h60_.1 66 10 := by rw [eh19]; rfl
              have qh19_368 : h19.1 66 11 = h60_.1 66 11 := by rw [eh19]; rfl
              have qh19_369 : h19.1 66 12 = h60_.1 66 12 := by rw [eh19]; rfl
              have qh19_370 : h19.1 66 21 = h60_.1 66 21 := by rw [eh19]; rfl
              have qh19_371 : h19.1 66 22 = h60_.1 66 22 := by rw [eh19]; rfl
              have qh19_372 : h19.1 66 23 = h60_.1 66 23 := by rw [eh19]; rfl
              have qh19_373 : h19.1 66 24 = h60_.1 66 24 := by rw [eh19]; rfl
              have qh19_374 : h19.1 66 40 = h60_.1 66 40 := by rw [eh19]; rfl
              have qh19_375 : h19.1 66 41 = h60_.1 66 41 := by rw [eh19]; rfl
              have qh19_376 : h19.1 66 58 = h60_.1 66 58 := by rw [eh19]; rfl
              have qh19_377 : h19.1 66 67 = h60_.1 66 67 := by rw [eh19]; rfl
              have qh19_378 : h19.1 66 82 = h60_.1 66 82 := by rw [eh19]; rfl
              refine mm_iincL (ls2 := [mR 66, mU, mU, mI (x60_3 + 1)]) C (mm_dec dk_X12_anew 46 rfl) rfl (by decide) ⟨by omega, by omega⟩ rfl ?_
              refine mm_goto (tgt := 60) C (mm_dec dk_X12_anew 47 rfl) (by decide) ?_
              exact ih60 (x60_3 + 1) ⟨by omega, by omega⟩ h19 i19 f19 (by first | exact mm_al_le w17_0 (by omega) | exact mm_al_sm w60_0 (fun _ => (mm_sm_pa 67 eh19 (by decide) _))) (by first | exact mm_al_nil (by omega) | (rw [show x60_3 + 1 - 1 = x60_3 by omega]; exact mm_al_put w60_1 eh19)) (by first | exact mm_al_le w17_1 (by omega) | exact mm_al_sm w60_2 (fun _ => (mm_sm_pa 68 eh19 (by decide) _))) (by first | exact mm_al_le w17_2 (by omega) | exact mm_al_sm w60_3 (fun _ => (mm_sm_pa 70 eh19 (by decide) _))) (by first | exact mm_al_le w17_3 (by omega) | exact mm_al_sm w60_4 (fun _ => (mm_sm_pa 71 eh19 (by decide) _))) (by omega) (by omega) (by omega) (by omega)
        refine mm_istore_nL (ls2 := [mR 66, mU, mU, mI 0]) C (mm_dec dk_X12_anew 37 rfl) (by decide) rfl ?_
        exact J60 (((8 - 0) : Int) + 1).toNat 0 ⟨by omega, by omega⟩ h17_ i17_ f17_ (by first | exact mm_al_le w17_0 (by omega) | exact mm_al_sm w60_0 (fun _ => (mm_sm_pa 67 eh19 (by decide) _))) (by first | exact mm_al_nil (by omega) | (rw [show x60_3 + 1 - 1 = x60_3 by omega]; exact mm_al_put w60_1 eh19)) (by first | exact mm_al_le w17_1 (by omega) | exact mm_al_sm w60_2 (fun _ => (mm_sm_pa 68 eh19 (by decide) _))) (by first | exact mm_al_le w17_2 (by omega) | exact mm_al_sm w60_3 (fun _ => (mm_sm_pa 70 eh19 (by decide) _))) (by first | exact mm_al_le w17_3 (by omega) | exact mm_al_sm w60_4 (fun _ => (mm_sm_pa 71 eh19 (by decide) _))) (by omega) (by omega) (by omega) (by omega)
      · skip
        refine mm_aload_n C (mm_dec dk_X12_anew 14 rfl) rfl ?_
        refine mm_getr (t := 67) C fl_X12_7 (mm_dec dk_X12_anew 15 rfl) rfl rfl (mm_ref i17_ rfl) ?_
        refine mm_iload_n C (mm_dec dk_X12_anew 16 rfl) rfl ?_
        refine mm_iconst C (mm_dec dk_X12_anew 17 rfl) ⟨by decide, by decide⟩ ?_
        refine mm_iast C (mm_dec dk_X12_anew 18 rfl) rfl (by omega) (by omega) ?_
        have i20 : mm_inv (mm_pa h17_ 67 x17_3 0) := mm_inv_pa i17_ (show 0 ≤ 0 ∧ 0 ≤ 7 from ⟨by omega, by omega⟩)
        have f20 : mm_fr [(66, 1), (66, 2), (66, 3), (66, 9), (66, 10), (66, 11), (66, 12), (66, 19), (66, 21), (66, 22), (66, 23), (66, 24), (66, 40), (66, 41), (66, 58), (66, 67), (66, 82), (66, 95)] [67, 68, 69, 70, 71] h (mm_pa h17_ 67 x17_3 0) := mm_fr_pa f17_ (by decide)
        obtain ⟨h20, eh20⟩ : ∃ z, z = mm_pa h17_ 67 x17_3 0 := ⟨_, rfl⟩
        rw [← eh20] at i20 f20 ⊢
        have qh20_379 : h20.1 66 1 = h17_.1 66 1 := by rw [eh20]; rfl
        have qh20_380 : h20.1 66 2 = h17_.1 66 2 := by rw [eh20]; rfl
        have qh20_381 : h20.1 66 3 = h17_.1 66 3 := by rw [eh20]; rfl
        have qh20_382 : h20.1 66 9 = h17_.1 66 9 := by rw [eh20]; rfl
        have qh20_383 : h20.1 66 10 = h17_.1 66 10 := by rw [eh20]; rfl
        have qh20_384 : h20.1 66 11 = h17_.1 66 11 := by rw [eh20]; rfl
        have qh20_385 : h20.1 66 12 = h17_.1 66 12 := by rw [eh20]; rfl
        have qh20_386 : h20.1 66 21 = h17_.1 66 21 := by rw [eh20]; rfl
        have qh20_387 : h20.1 66 22 = h17_.1 66 22 := by rw [eh20]; rfl
        have qh20_388 : h20.1 66 23 = h17_.1 66 23 := by rw [eh20]; rfl
        have qh20_389 : h20.1 66 24 = h17_.1 66 24 := by rw [eh20]; rfl
        have qh20_390 : h20.1 66 40 = h17_.1 66 40 := by rw [eh20]; rfl
        have qh20_391 : h20.1 66 41 = h17_.1 66 41 := by rw [eh20]; rfl
        have qh20_392 : h20.1 66 58 = h17_.1 66 58 := by rw [eh20]; rfl
        have qh20_393 : h20.1 66 67 = h17_.1 66 67 := by rw [eh20]; rfl
        have qh20_394 : h20.1 66 82 = h17_.1 66 82 := by rw [eh20]; rfl
        refine mm_aload_n C (mm_dec dk_X12_anew 19 rfl) rfl ?_
        refine mm_getr (t := 68) C fl_X12_13 (mm_dec dk_X12_anew 20 rfl) rfl rfl (mm_ref i20 rfl) ?_
        refine mm_iload_n C (mm_dec dk_X12_anew 21 rfl) rfl ?_
        refine mm_iconst C (mm_dec dk_X12_anew 22 rfl) ⟨by decide, by decide⟩ ?_
        refine mm_iast C (mm_dec dk_X12_anew 23 rfl) rfl (by omega) (by omega) ?_
        have i21 : mm_inv (mm_pa h20 68 x17_3 0) := mm_inv_pa i20 (show 0 ≤ 0 ∧ 0 ≤ 99 from ⟨by omega, by omega⟩)
        have f21 : mm_fr [(66, 1), (66, 2), (66, 3), (66, 9), (66, 10), (66, 11), (66, 12), (66, 19), (66, 21), (66, 22), (66, 23), (66, 24), (66, 40), (66, 41), (66, 58), (66, 67), (66, 82), (66, 95)] [67, 68, 69, 70, 71] h (mm_pa h20 68 x17_3 0) := mm_fr_pa f20 (by decide)
        obtain ⟨h21, eh21⟩ : ∃ z, z = mm_pa h20 68 x17_3 0 := ⟨_, rfl⟩
        rw [← eh21] at i21 f21 ⊢
        have qh21_395 : h21.1 66 1 = h20.1 66 1 := by rw [eh21]; rfl
        have qh21_396 : h21.1 66 2 = h20.1 66 2 := by rw [eh21]; rfl
        have qh21_397 : h21.1 66 3 = h20.1 66 3 := by rw [eh21]; rfl
        have qh21_398 : h21.1 66 9 = h20.1 66 9 := by rw [eh21]; rfl
        have qh21_399 : h21.1 66 10 = h20.1 66 10 := by rw [eh21]; rfl
        have qh21_400 : h21.1 66 11 = h20.1 66 11 := by rw [eh21]; rfl
        have qh21_401 : h21.1 66 12 = h20.1 66 12 := by rw [eh21]; rfl
        have qh21_402 : h21.1 66 21 = h20.1 66 21 := by rw [eh21]; rfl
        have qh21_403 : h21.1 66 22 = h20.1 66 22 := by rw [eh21]; rfl
        have qh21_404 : h21.1 66 23 = h20.1 66 23 := by rw [eh21]; rfl
        have qh21_405 : h21.1 66 24 = h20.1 66 24 := by rw [eh21]; rfl
        have qh21_406 : h21.1 66 40 = h20.1 66 40 := by rw [eh21]; rfl
        have qh21_407 : h21.1 66 41 = h20.1 66 41 := by rw [eh21]; rfl
        have qh21_408 : h21.1 66 58 = h20.1 66 58 := by rw [eh21]; rfl
        have qh21_409 : h21.1 66 67 = h20.1 66 67 := by rw [eh21]; rfl
        have qh21_410 : h21.1 66 82 = h20.1 66 82 := by rw [eh21]; rfl
        refine mm_aload_n C (mm_dec dk_X12_anew 24 rfl) rfl ?_
        refine mm_getr (t := 70) C fl_X12_19 (mm_dec dk_X12_anew 25 rfl) rfl rfl (mm_ref i21 rfl) ?_
        refine mm_iload_n C (mm_dec dk_X12_anew 26 rfl) rfl ?_
        refine mm_iconst C (mm_dec dk_X12_anew 27 rfl) ⟨by decide, by decide⟩ ?_
        refine mm_zast C (mm_dec dk_X12_anew 28 rfl) rfl (by omega) (by omega) (by omega) ?_
        have i22 : mm_inv (mm_pa h21 70 x17_3 0) := mm_inv_pa i21 (show 0 ≤ 0 ∧ 0 ≤ 1 from ⟨by omega, by omega⟩)
        have f22 : mm_fr [(66, 1), (66, 2), (66, 3), (66, 9), (66, 10), (66, 11), (66, 12), (66, 19), (66, 21), (66, 22), (66, 23), (66, 24), (66, 40), (66, 41), (66, 58), (66, 67), (66, 82), (66, 95)] [67, 68, 69, 70, 71] h (mm_pa h21 70 x17_3 0) := mm_fr_pa f21 (by decide)
        obtain ⟨h22, eh22⟩ : ∃ z, z = mm_pa h21 70 x17_3 0 := ⟨_, rfl⟩
        rw [← eh22] at i22 f22 ⊢
        have qh22_411 : h22.1 66 1 = h21.1 66 1 := by rw [eh22]; rfl
        have qh22_412 : h22.1 66 2 = h21.1 66 2 := by rw [eh22]; rfl
        have qh22_413 : h22.1 66 3 = h21.1 66 3 := by rw [eh22]; rfl
        have qh22_414 : h22.1 66 9 = h21.1 66 9 := by rw [eh22]; rfl
        have qh22_415 : h22.1 66 10 = h21.1 66 10 := by rw [eh22]; rfl
        have qh22_416 : h22.1 66 11 = h21.1 66 11 := by rw [eh22]; rfl
        have qh22_417 : h22.1 66 12 = h21.1 66 12 := by rw [eh22]; rfl
        have qh22_418 : h22.1 66 21 = h21.1 66 21 := by rw [eh22]; rfl
        have qh22_419 : h22.1 66 22 = h21.1 66 22 := by rw [eh22]; rfl
        have qh22_420 : h22.1 66 23 = h21.1 66 23 := by rw [eh22]; rfl
        have qh22_421 : h22.1 66 24 = h21.1 66 24 := by rw [eh22]; rfl
        have qh22_422 : h22.1 66 40 = h21.1 66 40 := by rw [eh22]; rfl
        have qh22_423 : h22.1 66 41 = h21.1 66 41 := by rw [eh22]; rfl
        have qh22_424 : h22.1 66 58 = h21.1 66 58 := by rw [eh22]; rfl
        have qh22_425 : h22.1 66 67 = h21.1 66 67 := by rw [eh22]; rfl
        have qh22_426 : h22.1 66 82 = h21.1 66 82 := by rw [eh22]; rfl
        refine mm_aload_n C (mm_dec dk_X12_anew 29 rfl) rfl ?_
        refine mm_getr (t := 71) C fl_X12_23 (mm_dec dk_X12_anew 30 rfl) rfl rfl (mm_ref i22 rfl) ?_
        refine mm_iload_n C (mm_dec dk_X12_anew 31 rfl) rfl ?_
        refine mm_iconst C (mm_dec dk_X12_anew 32 rfl) ⟨by decide, by decide⟩ ?_
        refine mm_zast C (mm_dec dk_X12_anew 33 rfl) rfl (by omega) (by omega) (by omega) ?_
        have i23 : mm_inv (mm_pa h22 71 x17_3 0) := mm_inv_pa i22 (show 0 ≤ 0 ∧ 0 ≤ 1 from ⟨by omega, by omega⟩)
        have f23 : mm_fr [(66, 1), (66, 2), (66, 3), (66, 9), (66, 10), (66, 11), (66, 12), (66, 19), (66, 21), (66, 22), (66, 23), (66, 24), (66, 40), (66, 41), (66, 58), (66, 67), (66, 82), (66, 95)] [67, 68, 69, 70, 71] h (mm_pa h22 71 x17_3 0) := mm_fr_pa f22 (by decide)
        obtain ⟨h23, eh23⟩ : ∃ z, z = mm_pa h22 71 x17_3 0 := ⟨_, rfl⟩
        rw [← eh23] at i23 f23 ⊢
        have qh23_427 : h23.1 66 1 = h22.1 66 1 := by rw [eh23]; rfl
        have qh23_428 : h23.1 66 2 = h22.1 66 2 := by rw [eh23]; rfl
        have qh23_429 : h23.1 66 3 = h22.1 66 3 := by rw [eh23]; rfl
        have qh23_430 : h23.1 66 9 = h22.1 66 9 := by rw [eh23]; rfl
        have qh23_431 : h23.1 66 10 = h22.1 66 10 := by rw [eh23]; rfl
        have qh23_432 : h23.1 66 11 = h22.1 66 11 := by rw [eh23]; rfl
        have qh23_433 : h23.1 66 12 = h22.1 66 12 := by rw [eh23]; rfl
        have qh23_434 : h23.1 66 21 = h22.1 66 21 := by rw [eh23]; rfl
        have qh23_435 : h23.1 66 22 = h22.1 66 22 := by rw [eh23]; rfl
        have qh23_436 : h23.1 66 23 = h22.1 66 23 := by rw [eh23]; rfl
        have qh23_437 : h23.1 66 24 = h22.1 66 24 := by rw [eh23]; rfl
        have qh23_438 : h23.1 66 40 = h22.1 66 40 := by rw [eh23]; rfl
        have qh23_439 : h23.1 66 41 = h22.1 66 41 := by rw [eh23]; rfl
        have qh23_440 : h23.1 66 58 = h22.1 66 58 := by rw [eh23]; rfl
        have qh23_441 : h23.1 66 67 = h22.1 66 67 := by rw [eh23]; rfl
        have qh23_442 : h23.1 66 82 = h22.1 66 82 := by rw [eh23]; rfl
        refine mm_iincL (ls2 := [mR 66, mU, mU, mI (x17_3 + 1)]) C (mm_dec dk_X12_anew 34 rfl) rfl (by decide) ⟨by omega, by omega⟩ rfl ?_
        refine mm_goto (tgt := 17) C (mm_dec dk_X12_anew 35 rfl) (by decide) ?_
        exact ih17 (x17_3 + 1) ⟨by omega, by omega⟩ h23 i23 f23 (by first | exact mm_al_nil (by omega) | (rw [show x17_3 + 1 - 1 = x17_3 by omega]; exact mm_al_sm (mm_al_put w17_0 eh20) (fun _ => ((mm_sm_pa 67 eh23 (by decide) _).trans ((mm_sm_pa 67 eh22 (by decide) _).trans (mm_sm_pa 67 eh21 (by decide) _)))))) (by first | exact mm_al_nil (by omega) | (rw [show x17_3 + 1 - 1 = x17_3 by omega]; exact mm_al_sm (mm_al_put (mm_al_sm w17_1 (fun _ => (mm_sm_pa 68 eh20 (by decide) _))) eh21) (fun _ => ((mm_sm_pa 68 eh23 (by decide) _).trans (mm_sm_pa 68 eh22 (by decide) _))))) (by first | exact mm_al_nil (by omega) | (rw [show x17_3 + 1 - 1 = x17_3 by omega]; exact mm_al_sm (mm_al_put (mm_al_sm w17_2 (fun _ => ((mm_sm_pa 70 eh21 (by decide) _).trans (mm_sm_pa 70 eh20 (by decide) _)))) eh22) (fun _ => (mm_sm_pa 70 eh23 (by decide) _)))) (by first | exact mm_al_nil (by omega) | (rw [show x17_3 + 1 - 1 = x17_3 by omega]; exact mm_al_sm (mm_al_put (mm_al_sm w17_3 (fun _ => ((mm_sm_pa 71 eh22 (by decide) _).trans ((mm_sm_pa 71 eh21 (by decide) _).trans (mm_sm_pa 71 eh20 (by decide) _))))) eh23) (fun _ => rfl))) (by omega) (by omega) (by omega) (by omega)
  refine mm_istore_nL (ls2 := [mR 66, mI p1, mI p2, mI 0]) C (mm_dec dk_X12_anew 10 rfl) (by decide) rfl ?_
  refine mm_fgt 1 ?_
  refine mm_fgt 2 ?_
  exact J17 (((400 - 0) : Int) + 1).toNat 0 ⟨by omega, by omega⟩ h3 i3 f3 (by first | exact mm_al_nil (by omega) | (rw [show x17_3 + 1 - 1 = x17_3 by omega]; exact mm_al_sm (mm_al_put w17_0 eh20) (fun _ => ((mm_sm_pa 67 eh23 (by decide) _).trans ((mm_sm_pa 67 eh22 (by decide) _).trans (mm_sm_pa 67 eh21 (by decide) _)))))) (by first | exact mm_al_nil (by omega) | (rw [show x17_3 + 1 - 1 = x17_3 by omega]; exact mm_al_sm (mm_al_put (mm_al_sm w17_1 (fun _ => (mm_sm_pa 68 eh20 (by decide) _))) eh21) (fun _ => ((mm_sm_pa 68 eh23 (by decide) _).trans (mm_sm_pa 68 eh22 (by decide) _))))) (by first | exact mm_al_nil (by omega) | (rw [show x17_3 + 1 - 1 = x17_3 by omega]; exact mm_al_sm (mm_al_put (mm_al_sm w17_2 (fun _ => ((mm_sm_pa 70 eh21 (by decide) _).trans (mm_sm_pa 70 eh20 (by decide) _)))) eh22) (fun _ => (mm_sm_pa 70 eh23 (by decide) _)))) (by first | exact mm_al_nil (by omega) | (rw [show x17_3 + 1 - 1 = x17_3 by omega]; exact mm_al_sm (mm_al_put (mm_al_sm w17_3 (fun _ => ((mm_sm_pa 71 eh22 (by decide) _).trans ((mm_sm_pa 71 eh21 (by decide) _).trans (mm_sm_pa 71 eh20 (by decide) _))))) eh23) (fun _ => rfl))) (by omega) (by omega) (by omega) (by omega)
set_option maxRecDepth 100000 in
set_option maxHeartbeats 4000000 in
theorem c_X12_land_q (l : Launch) (hl : l.stackTraces = false) (d : Nat) (hd : 1 ≤ d) (h : mH) (i0 : mm_inv h) (p1 : Int) (p2 : Int) (t0 : mm_RO h) : mm_Met l d yX12_land cX12_land 3 (some .boolean) [mR 66, mI p1, mI p2] h (mm_pi fun r h2 => (0 ≤ r ∧ r ≤ 1) ∧ mm_inv h2 ∧ mm_fr [(66, 0), (66, 1), (66, 2), (66, 3), (66, 9), (66, 10), (66, 11), (66, 12), (66, 19), (66, 21), (66, 22), (66, 23), (66, 24), (66, 40), (66, 41), (66, 58), (66, 67), (66, 82), (66, 95)] [67, 68, 69, 70, 71] h h2 ∧ ((r = 1 ∧ 1 ≤ p1 ∧ p1 ≤ 20 ∧ 1 ≤ p2 ∧ p2 ≤ 20) ∨ (r = 0 ∧ (p1 < 1 ∨ 20 < p1 ∨ p2 < 1 ∨ 20 < p2))) ∧ mm_RO h2 ∧ ((r = 0 ∧ h2.1 66 22 = h.1 66 22 ∧ h2.1 66 23 = h.1 66 23 ∧ h2.1 66 41 = h.1 66 41 ∧ h2.1 66 1 = h.1 66 1 ∧ h2.1 66 2 = h.1 66 2 ∧ h2.1 66 24 = h.1 66 24) ∨ (r = 1 ∧ h2.1 66 22 = 0 ∧ h2.1 66 23 = 0 ∧ h2.1 66 41 = 0 ∧ h2.1 66 1 = p1 ∧ h2.1 66 2 = p2 ∧ h2.1 66 24 = 0)) ∧ ((r = 0 ∧ h2.1 66 21 = h.1 66 21) ∨ (r = 1 ∧ h2.1 66 21 = 0)) ∧ (r = 1 → mm_al h2 67 399 0 ∧ mm_al h2 69 7 5 ∧ mm_al h2 68 399 0 ∧ mm_al h2 70 399 0 ∧ mm_al h2 71 399 0) ∧ (r = 0 → ∀ o j, h2.2.1 o j = h.2.1 o j) ∧ ((r = 0 ∧ h2.1 66 3 = h.1 66 3 ∧ h2.1 66 9 = h.1 66 9 ∧ h2.1 66 10 = h.1 66 10) ∨ (r = 1 ∧ h2.1 66 3 = 2 ∧ h2.1 66 9 = 0 ∧ h2.1 66 10 = 0)) ∧ ((r = 0 ∧ h2.1 66 11 = h.1 66 11 ∧ h2.1 66 12 = h.1 66 12) ∨ (r = 1 ∧ h2.1 66 11 = 0 ∧ h2.1 66 12 = 0)) ∧ ((r = 0 ∧ h2.1 66 58 = h.1 66 58) ∨ (r = 1 ∧ h2.1 66 58 = -1)) ∧ ((r = 0 ∧ h2.1 66 40 = h.1 66 40 ∧ h2.1 66 82 = h.1 66 82 ∧ h2.1 66 67 = h.1 66 67 ∧ h2.1 66 68 = h.1 66 68) ∨ (r = 1 ∧ h2.1 66 40 = 0 ∧ h2.1 66 82 = 0 ∧ h2.1 66 67 = 0))) mm_nx 0 0 := by
  refine mm_ofW (ls := [mR 66, mI p1, mI p2]) hl (by decide) rfl (Nat.le_of_ble_eq_true rfl) ?_
  intro x hxl C T hnm htb
  subst hxl
  have C1 := mm_OK_le (d' := d - 1 + 1) (by omega) C
  refine mm_rng (fun hr _ => ?_)
  have ap1 : -2147483648 ≤ p1 ∧ p1 < 2147483648 := mm_ok_at hr (i := 1) rfl
  have ap2 : -2147483648 ≤ p2 ∧ p2 < 2147483648 := mm_ok_at hr (i := 2) rfl
  have f0 : mm_fr [(66, 0), (66, 1), (66, 2), (66, 3), (66, 9), (66, 10), (66, 11), (66, 12), (66, 19), (66, 21), (66, 22), (66, 23), (66, 24), (66, 40), (66, 41), (66, 58), (66, 67), (66, 82), (66, 95)] [67, 68, 69, 70, 71] h h := mm_fr_rf
  have g1 : 0 ≤ h.1 66 67 ∧ h.1 66 67 ≤ 1 := i0.1 66 67
  have g2 : 0 ≤ h.1 66 22 ∧ h.1 66 22 ≤ 8 := i0.1 66 22
  have g3 : 0 ≤ h.1 66 23 ∧ h.1 66 23 ≤ 40 := i0.1 66 23
  have g4 : 0 ≤ h.1 66 41 ∧ h.1 66 41 ≤ 99999 := i0.1 66 41
  have g5 : 1 ≤ h.1 66 1 ∧ h.1 66 1 ≤ 20 := i0.1 66 1
  have g6 : 1 ≤ h.1 66 2 ∧ h.1 66 2 ≤ 20 := i0.1 66 2
  have g7 : 0 ≤ h.1 66 21 ∧ h.1 66 21 ≤ 20 := i0.1 66 21
  have g8 : 0 ≤ h.1 66 3 ∧ h.1 66 3 ≤ 9 := i0.1 66 3
  have g9 : 0 ≤ h.1 66 9 ∧ h.1 66 9 ≤ 19 := i0.1 66 9
  have g10 : 0 ≤ h.1 66 10 ∧ h.1 66 10 ≤ 19 := i0.1 66 10
  have g11 : 0 ≤ h.1 66 24 ∧ h.1 66 24 ≤ 10 := i0.1 66 24
  have g12 : 0 ≤ h.1 66 11 ∧ h.1 66 11 ≤ 19 := i0.1 66 11
  have g13 : 0 ≤ h.1 66 12 ∧ h.1 66 12 ≤ 19 := i0.1 66 12
  have g14 : -2147483648 ≤ h.1 66 58 ∧ h.1 66 58 ≤ 2147483647 := i0.1 66 58
  have g15 : 0 ≤ h.1 66 40 ∧ h.1 66 40 ≤ 500 := i0.1 66 40
  have g16 : 0 ≤ h.1 66 82 ∧ h.1 66 82 ≤ 40 := i0.1 66 82
  have g17 : 0 ≤ h.1 66 68 ∧ h.1 66 68 ≤ 1 := i0.1 66 68
  refine mm_aload_n C (mm_dec dk_X12_land 0 rfl) rfl ?_
  refine mm_iconst C (mm_dec dk_X12_land 1 rfl) ⟨by decide, by decide⟩ ?_
  refine mm_puti C fl_X12_188 (mm_dec dk_X12_land 2 rfl) rfl rfl rfl (Or.inl ⟨rfl, rfl⟩) ?_
  have i1 : mm_inv (mm_pf h 66 0 0) := mm_inv_pf i0 (show -2147483648 ≤ 0 ∧ 0 ≤ 2147483647 from ⟨by omega, by omega⟩) (by decide)
  have f1 : mm_fr [(66, 0), (66, 1), (66, 2), (66, 3), (66, 9), (66, 10), (66, 11), (66, 12), (66, 19), (66, 21), (66, 22), (66, 23), (66, 24), (66, 40), (66, 41), (66, 58), (66, 67), (66, 82), (66, 95)] [67, 68, 69, 70, 71] h (mm_pf h 66 0 0) := mm_fr_pf f0 (by decide)
  obtain ⟨h1, eh1⟩ : ∃ z, z = mm_pf h 66 0 0 := ⟨_, rfl⟩
  rw [← eh1] at i1 f1 ⊢
  have qh1 : h1.1 66 0 = 0 := by rw [eh1]; exact mm_pf_same _ _ _ _
  have qh1_18 : h1.1 66 1 = h.1 66 1 := by rw [eh1]; exact mm_pf_ne _ _ (by decide)
  have qh1_19 : h1.1 66 2 = h.1 66 2 := by rw [eh1]; exact mm_pf_ne _ _ (by decide)
  have qh1_20 : h1.1 66 3 = h.1 66 3 := by rw [eh1]; exact mm_pf_ne _ _ (by decide)
  have qh1_21 : h1.1 66 9 = h.1 66 9 := by rw [eh1]; exact mm_pf_ne _ _ (by decide)
  have qh1_22 : h1.1 66 10 = h.1 66 10 := by rw [eh1]; exact mm_pf_ne _ _ (by decide)
  have qh1_23 : h1.1 66 11 = h.1 66 11 := by rw [eh1]; exact mm_pf_ne _ _ (by decide)
  have qh1_24 : h1.1 66 12 = h.1 66 12 := by rw [eh1]; exact mm_pf_ne _ _ (by decide)
  have qh1_25 : h1.1 66 21 = h.1 66 21 := by rw [eh1]; exact mm_pf_ne _ _ (by decide)
  have qh1_26 : h1.1 66 22 = h.1 66 22 := by rw [eh1]; exact mm_pf_ne _ _ (by decide)
  have qh1_27 : h1.1 66 23 = h.1 66 23 := by rw [eh1]; exact mm_pf_ne _ _ (by decide)
  have qh1_28 : h1.1 66 24 = h.1 66 24 := by rw [eh1]; exact mm_pf_ne _ _ (by decide)
  have qh1_29 : h1.1 66 40 = h.1 66 40 := by rw [eh1]; exact mm_pf_ne _ _ (by decide)
  have qh1_30 : h1.1 66 41 = h.1 66 41 := by rw [eh1]; exact mm_pf_ne _ _ (by decide)
  have qh1_31 : h1.1 66 58 = h.1 66 58 := by rw [eh1]; exact mm_pf_ne _ _ (by decide)
  have qh1_32 : h1.1 66 67 = h.1 66 67 := by rw [eh1]; exact mm_pf_ne _ _ (by decide)
  have qh1_33 : h1.1 66 68 = h.1 66 68 := by rw [eh1]; exact mm_pf_ne _ _ (by decide)
  have qh1_34 : h1.1 66 82 = h.1 66 82 := by rw [eh1]; exact mm_pf_ne _ _ (by decide)
  refine mm_iload_n C (mm_dec dk_X12_land 3 rfl) rfl ?_
  refine mm_iconst C (mm_dec dk_X12_land 4 rfl) ⟨by decide, by decide⟩ ?_
  have J27 : ∀ (w27_0 : (p1 < 1 ∨ 20 < p1 ∨ p2 < 1 ∨ 20 < p2)), mm_W x 0 0 27 [mU, mU, mU] [] h1 := by
    intro w27_0
    refine mm_iconst C (mm_dec dk_X12_land 15 rfl) ⟨by decide, by decide⟩ ?_
    exact mm_zret C T (mm_dec dk_X12_land 16 rfl) (by decide : 0 ≤ 0) (by decide : 0 ≤ 0) (by omega) ⟨_, rfl, ⟨⟨by omega, by omega⟩, i1, f1, by omega, by first | exact Or.inl (by omega) | exact mm_RO_fr (wf := [(66, 0)]) (wa := []) t0 (by rw [eh1]; exact mm_fr_pf mm_fr_rf (by decide)) (by decide), by omega, by omega, by first | exact fun w => absurd w (by decide) | exact fun _ => ⟨y32_7, y32_8, y32_9, y32_10, y32_11⟩, by first | exact fun w => absurd w (by decide) | exact fun _ o j => mm_sm_pf o eh1 j, by omega, by omega, by omega, by omega⟩⟩
  refine mm_icmp_lt (tgt := 27) C (mm_dec dk_X12_land 5 rfl) (by decide) (fun c7 => ?_) (fun c7 => ?_)
  · skip
    refine mm_fgt 0 ?_
    refine mm_fgt 1 ?_
    refine mm_fgt 2 ?_
    exact J27 (by omega)
  · skip
    refine mm_iload_n C (mm_dec dk_X12_land 6 rfl) rfl ?_
    refine mm_bipush C (mm_dec dk_X12_land 7 rfl) ⟨by decide, by decide⟩ ?_
    refine mm_icmp_gt (tgt := 27) C (mm_dec dk_X12_land 8 rfl) (by decide) (fun c13 => ?_) (fun c13 => ?_)
    · skip
      refine mm_fgt 0 ?_
      refine mm_fgt 1 ?_
      refine mm_fgt 2 ?_
      exact J27 (by omega)
    · skip
      refine mm_iload_n C (mm_dec dk_X12_land 9 rfl) rfl ?_
      refine mm_iconst C (mm_dec dk_X12_land 10 rfl) ⟨by decide, by decide⟩ ?_
      refine mm_icmp_lt (tgt := 27) C (mm_dec dk_X12_land 11 rfl) (by decide) (fun c18 => ?_) (fun c18 => ?_)
      · skip
        refine mm_fgt 0 ?_
        refine mm_fgt 1 ?_
        refine mm_fgt 2 ?_
        exact J27 (by omega)
      · skip
        refine mm_iload_n C (mm_dec dk_X12_land 12 rfl) rfl ?_
        refine mm_bipush C (mm_dec dk_X12_land 13 rfl) ⟨by decide, by decide⟩ ?_
        refine mm_icmp_le (tgt := 29) C (mm_dec dk_X12_land 14 rfl) (by decide) (fun c24 => ?_) (fun c24 => ?_)
        · skip
          refine mm_aload_n C (mm_dec dk_X12_land 17 rfl) rfl ?_
          refine mm_iload_n C (mm_dec dk_X12_land 18 rfl) rfl ?_
          refine mm_iload_n C (mm_dec dk_X12_land 19 rfl) rfl ?_
          refine mm_cVv (rest := []) C1 ev_X12_184 (mm_dec dk_X12_land 20 rfl) (c_X12_anew_q x.2.1 hl (d - 1) (by omega) h1 i1 p1 p2 ⟨by omega, by omega⟩ ⟨by omega, by omega⟩) rfl rfl (Nat.le_of_ble_eq_true rfl) ⟨by decide, by decide⟩ rfl (fun h32c hp32 => ?_) (fun _ _ q => q.elim)
          obtain ⟨i32c, g32c, y32_0, y32_1, y32_2, y32_3, y32_4, y32_5, y32_6, y32_7, y32_8, y32_9, y32_10, y32_11, y32_12, y32_13, y32_14, y32_15, y32_16, y32_17, y32_18, y32_19, y32_20⟩ := hp32
          have f32c : mm_fr [(66, 0), (66, 1), (66, 2), (66, 3), (66, 9), (66, 10), (66, 11), (66, 12), (66, 19), (66, 21), (66, 22), (66, 23), (66, 24), (66, 40), (66, 41), (66, 58), (66, 67), (66, 82), (66, 95)] [67, 68, 69, 70, 71] h h32c := mm_fr_tr f1 g32c (by decide +kernel)
          have q32c_36 : h32c.1 66 0 = h1.1 66 0 := g32c.1 66 0 (by decide)
          have q32c_37 : h32c.1 66 68 = h1.1 66 68 := g32c.1 66 68 (by decide)
          have g38 : 0 ≤ (h32c.1 66 67) ∧ (h32c.1 66 67) ≤ 1 := i32c.1 66 67
          have g39 : 0 ≤ (h32c.1 66 22) ∧ (h32c.1 66 22) ≤ 8 := i32c.1 66 22
          have g40 : 0 ≤ (h32c.1 66 23) ∧ (h32c.1 66 23) ≤ 40 := i32c.1 66 23
          have g41 : 0 ≤ (h32c.1 66 41) ∧ (h32c.1 66 41) ≤ 99999 := i32c.1 66 41
          have g42 : 1 ≤ (h32c.1 66 1) ∧ (h32c.1 66 1) ≤ 20 := i32c.1 66 1
          have g43 : 1 ≤ (h32c.1 66 2) ∧ (h32c.1 66 2) ≤ 20 := i32c.1 66 2
          have g44 : 0 ≤ (h32c.1 66 21) ∧ (h32c.1 66 21) ≤ 20 := i32c.1 66 21
          have g45 : 0 ≤ (h32c.1 66 3) ∧ (h32c.1 66 3) ≤ 9 := i32c.1 66 3
          have g46 : 0 ≤ (h32c.1 66 9) ∧ (h32c.1 66 9) ≤ 19 := i32c.1 66 9
          have g47 : 0 ≤ (h32c.1 66 10) ∧ (h32c.1 66 10) ≤ 19 := i32c.1 66 10
          have g48 : 0 ≤ (h32c.1 66 24) ∧ (h32c.1 66 24) ≤ 10 := i32c.1 66 24
          have g49 : 0 ≤ (h32c.1 66 11) ∧ (h32c.1 66 11) ≤ 19 := i32c.1 66 11
          have g50 : 0 ≤ (h32c.1 66 12) ∧ (h32c.1 66 12) ≤ 19 := i32c.1 66 12
          have g51 : -2147483648 ≤ (h32c.1 66 58) ∧ (h32c.1 66 58) ≤ 2147483647 := i32c.1 66 58
          have g52 : 0 ≤ (h32c.1 66 40) ∧ (h32c.1 66 40) ≤ 500 := i32c.1 66 40
          have g53 : 0 ≤ (h32c.1 66 82) ∧ (h32c.1 66 82) ≤ 40 := i32c.1 66 82
          refine mm_iconst C (mm_dec dk_X12_land 21 rfl) ⟨by decide, by decide⟩ ?_
          exact mm_zret C T (mm_dec dk_X12_land 22 rfl) (by decide : 0 ≤ 0) (by decide : 0 ≤ 0) (by omega) ⟨_, rfl, ⟨⟨by omega, by omega⟩, i32c, f32c, by omega, by first | exact Or.inl (by omega) | exact mm_RO_fr (wf := [(66, 0)]) (wa := []) t0 (by rw [eh1]; exact mm_fr_pf mm_fr_rf (by decide)) (by decide), by omega, by omega, by first | exact fun w => absurd w (by decide) | exact fun _ => ⟨y32_7, y32_8, y32_9, y32_10, y32_11⟩, by first | exact fun w => absurd w (by decide) | exact fun _ o j => mm_sm_pf o eh1 j, by omega, by omega, by omega, by omega⟩⟩
        · skip
          refine mm_fgt 0 ?_
          refine mm_fgt 1 ?_
          refine mm_fgt 2 ?_
          exact J27 (by omega)
set_option maxRecDepth 100000 in
set_option maxHeartbeats 4000000 in
theorem c_X12_course_q (l : Launch) (hl : l.stackTraces = false) (d : Nat) (hd : 0 ≤ d) (h : mH) (i0 : mm_inv h) (p1 : Int) (bp1 : 0 ≤ p1 ∧ p1 ≤ 1) : mm_Met l d yX12_course cX12_course 2 (some .int) [mR 66, mI p1] h (mm_pi fun r h2 => (-1 ≤ r ∧ r ≤ 7) ∧ mm_inv h2 ∧ mm_fr [(66, 0), (66, 22)] [80, 81, 83] h h2 ∧ ((h.1 66 22 ≤ 7 ∧ r = h.1 66 22 ∧ h2.1 66 22 = h.1 66 22 + 1) ∨ (8 ≤ h.1 66 22 ∧ r = -1 ∧ h2.1 66 22 = h.1 66 22)) ∧ (∃ f : Int, ((f = 1 ∧ h2.1 66 22 = h.1 66 22 + 1) ∨ (f = 0 ∧ h2.1 66 22 = h.1 66 22)) ∧ mm_up h h2 83 (h.1 66 22) p1 f ∧ mm_up h h2 80 (h.1 66 22) 0 f ∧ mm_up h h2 81 (h.1 66 22) 0 f)) mm_nx 0 0 := by
  refine mm_ofW (ls := [mR 66, mI p1]) hl (by decide) rfl (Nat.le_of_ble_eq_true rfl) ?_
  intro x hxl C T hnm htb
  subst hxl
  refine mm_rng (fun hr _ => ?_)
  have ap1 : -2147483648 ≤ p1 ∧ p1 < 2147483648 := mm_ok_at hr (i := 1) rfl
  have f0 : mm_fr [(66, 0), (66, 22)] [80, 81, 83] h h := mm_fr_rf
  have g1 : 0 ≤ h.1 66 22 ∧ h.1 66 22 ≤ 8 := i0.1 66 22
  refine mm_aload_n C (mm_dec dk_X12_course 0 rfl) rfl ?_
  refine mm_iconst C (mm_dec dk_X12_course 1 rfl) ⟨by decide, by decide⟩ ?_
  refine mm_puti C fl_X12_188 (mm_dec dk_X12_course 2 rfl) rfl rfl rfl (Or.inl ⟨rfl, rfl⟩) ?_
  have i1 : mm_inv (mm_pf h 66 0 0) := mm_inv_pf i0 (show -2147483648 ≤ 0 ∧ 0 ≤ 2147483647 from ⟨by omega, by omega⟩) (by decide)
  have f1 : mm_fr [(66, 0), (66, 22)] [80, 81, 83] h (mm_pf h 66 0 0) := mm_fr_pf f0 (by decide)
  obtain ⟨h1, eh1⟩ : ∃ z, z = mm_pf h 66 0 0 := ⟨_, rfl⟩
  rw [← eh1] at i1 f1 ⊢
  have qh1 : h1.1 66 0 = 0 := by rw [eh1]; exact mm_pf_same _ _ _ _
  have qh1_2 : h1.1 66 22 = h.1 66 22 := by rw [eh1]; exact mm_pf_ne _ _ (by decide)
  refine mm_aload_n C (mm_dec dk_X12_course 3 rfl) rfl ?_
  refine mm_geti C fl_X12_219 (mm_dec dk_X12_course 4 rfl) rfl rfl (Or.inl rfl) ?_
  refine mm_bipush C (mm_dec dk_X12_course 5 rfl) ⟨by decide, by decide⟩ ?_
  refine mm_icmp_ne (tgt := 16) C (mm_dec dk_X12_course 6 rfl) (by decide) (fun c11 => ?_) (fun c11 => ?_)
  · skip
    refine mm_aload_n C (mm_dec dk_X12_course 9 rfl) rfl ?_
    refine mm_getr (t := 83) C fl_X12_60 (mm_dec dk_X12_course 10 rfl) rfl rfl (mm_ref i1 rfl) ?_
    refine mm_aload_n C (mm_dec dk_X12_course 11 rfl) rfl ?_
    refine mm_geti C fl_X12_219 (mm_dec dk_X12_course 12 rfl) rfl rfl (Or.inl rfl) ?_
    refine mm_iload_n C (mm_dec dk_X12_course 13 rfl) rfl ?_
    refine mm_zast C (mm_dec dk_X12_course 14 rfl) rfl (by omega) (by omega) (by omega) ?_
    have i2 : mm_inv (mm_pa h1 83 (h1.1 66 22) p1) := mm_inv_pa i1 (show 0 ≤ p1 ∧ p1 ≤ 1 from ⟨by omega, by omega⟩)
    have f2 : mm_fr [(66, 0), (66, 22)] [80, 81, 83] h (mm_pa h1 83 (h1.1 66 22) p1) := mm_fr_pa f1 (by decide)
    obtain ⟨h2, eh2⟩ : ∃ z, z = mm_pa h1 83 (h1.1 66 22) p1 := ⟨_, rfl⟩
    rw [← eh2] at i2 f2 ⊢
    have qh2_3 : h2.1 66 0 = h1.1 66 0 := by rw [eh2]; rfl
    have qh2_4 : h2.1 66 22 = h1.1 66 22 := by rw [eh2]; rfl
    refine mm_aload_n C (mm_dec dk_X12_course 15 rfl) rfl ?_
    refine mm_getr (t := 80) C fl_X12_51 (mm_dec dk_X12_course 16 rfl) rfl rfl (mm_ref i2 rfl) ?_
    refine mm_aload_n C (mm_dec dk_X12_course 17 rfl) rfl ?_
    refine mm_geti C fl_X12_219 (mm_dec dk_X12_course 18 rfl) rfl rfl (Or.inl rfl) ?_
    refine mm_iconst C (mm_dec dk_X12_course 19 rfl) ⟨by decide, by decide⟩ ?_
    refine mm_iast C (mm_dec dk_X12_course 20 rfl) rfl (by omega) (by omega) ?_
    have i3 : mm_inv (mm_pa h2 80 (h2.1 66 22) 0) := mm_inv_pa i2 (show 0 ≤ 0 ∧ 0 ≤ 12 from ⟨by omega, by omega⟩)
    have f3 : mm_fr [(66, 0), (66, 22)] [80, 81, 83] h (mm_pa h2 80 (h2.1 66 22) 0) := mm_fr_pa f2 (by decide)
    obtain ⟨h3, eh3⟩ : ∃ z, z = mm_pa h2 80 (h2.1 66 22) 0 := ⟨_, rfl⟩
    rw [← eh3] at i3 f3 ⊢
    have qh3_5 : h3.1 66 0 = h2.1 66 0 := by rw [eh3]; rfl
    have qh3_6 : h3.1 66 22 = h2.1 66 22 := by rw [eh3]; rfl
    refine mm_aload_n C (mm_dec dk_X12_course 21 rfl) rfl ?_
    refine mm_getr (t := 81) C fl_X12_54 (mm_dec dk_X12_course 22 rfl) rfl rfl (mm_ref i3 rfl) ?_
    refine mm_aload_n C (mm_dec dk_X12_course 23 rfl) rfl ?_
    refine mm_geti C fl_X12_219 (mm_dec dk_X12_course 24 rfl) rfl rfl (Or.inl rfl) ?_
    refine mm_iconst C (mm_dec dk_X12_course 25 rfl) ⟨by decide, by decide⟩ ?_
    refine mm_iast C (mm_dec dk_X12_course 26 rfl) rfl (by omega) (by omega) ?_
    have i4 : mm_inv (mm_pa h3 81 (h3.1 66 22) 0) := mm_inv_pa i3 (show -2147483648 ≤ 0 ∧ 0 ≤ 2147483647 from ⟨by omega, by omega⟩)
    have f4 : mm_fr [(66, 0), (66, 22)] [80, 81, 83] h (mm_pa h3 81 (h3.1 66 22) 0) := mm_fr_pa f3 (by decide)
    obtain ⟨h4, eh4⟩ : ∃ z, z = mm_pa h3 81 (h3.1 66 22) 0 := ⟨_, rfl⟩
    rw [← eh4] at i4 f4 ⊢
    have qh4_7 : h4.1 66 0 = h3.1 66 0 := by rw [eh4]; rfl
    have qh4_8 : h4.1 66 22 = h3.1 66 22 := by rw [eh4]; rfl
    refine mm_aload_n C (mm_dec dk_X12_course 27 rfl) rfl ?_
    refine mm_dup C (mm_dec dk_X12_course 28 rfl) (show (2 : Nat) ≠ 1 by decide) ?_
    refine mm_geti C fl_X12_219 (mm_dec dk_X12_course 29 rfl) rfl rfl (Or.inl rfl) ?_
    refine mm_iconst C (mm_dec dk_X12_course 30 rfl) ⟨by decide, by decide⟩ ?_
    refine mm_iadd C (mm_dec dk_X12_course 31 rfl) ⟨by omega, by omega⟩ ?_
    refine mm_puti C fl_X12_219 (mm_dec dk_X12_course 32 rfl) rfl rfl rfl (Or.inl ⟨rfl, rfl⟩) ?_
    have i5 : mm_inv (mm_pf h4 66 22 ((h4.1 66 22) + 1)) := mm_inv_pf i4 (show 0 ≤ ((h4.1 66 22) + 1) ∧ ((h4.1 66 22) + 1) ≤ 8 from ⟨by omega, by omega⟩) (by decide)
    have f5 : mm_fr [(66, 0), (66, 22)] [80, 81, 83] h (mm_pf h4 66 22 ((h4.1 66 22) + 1)) := mm_fr_pf f4 (by decide)
    obtain ⟨h5, eh5⟩ : ∃ z, z = mm_pf h4 66 22 ((h4.1 66 22) + 1) := ⟨_, rfl⟩
    rw [← eh5] at i5 f5 ⊢
    have qh5 : h5.1 66 22 = ((h4.1 66 22) + 1) := by rw [eh5]; exact mm_pf_same _ _ _ _
    have qh5_9 : h5.1 66 0 = h4.1 66 0 := by rw [eh5]; exact mm_pf_ne _ _ (by decide)
    refine mm_aload_n C (mm_dec dk_X12_course 33 rfl) rfl ?_
    refine mm_geti C fl_X12_219 (mm_dec dk_X12_course 34 rfl) rfl rfl (Or.inl rfl) ?_
    refine mm_iconst C (mm_dec dk_X12_course 35 rfl) ⟨by decide, by decide⟩ ?_
    refine mm_isub C (mm_dec dk_X12_course 36 rfl) ⟨by omega, by omega⟩ ?_
    exact mm_iret C T (mm_dec dk_X12_course 37 rfl) (by decide : 0 ≤ 0) (by decide : 0 ≤ 0) ⟨_, rfl, ⟨⟨by omega, by omega⟩, i5, f5, by omega, by first | exact ⟨0, Or.inr ⟨rfl, by omega⟩, mm_up_no (by decide) (fun j => mm_sm_pf 83 eh1 j), mm_up_no (by decide) (fun j => mm_sm_pf 80 eh1 j), mm_up_no (by decide) (fun j => mm_sm_pf 81 eh1 j)⟩ | exact ⟨1, Or.inl ⟨rfl, by omega⟩, mm_up_pav (fun _ => (mm_sm_pf 83 eh1 _)) eh2 (fun _ => ((mm_sm_pf 83 eh5 _).trans ((mm_sm_pa 83 eh4 (by decide) _).trans (mm_sm_pa 83 eh3 (by decide) _)))) (by omega) (by omega) rfl, mm_up_pav (fun _ => ((mm_sm_pa 80 eh2 (by decide) _).trans (mm_sm_pf 80 eh1 _))) eh3 (fun _ => ((mm_sm_pf 80 eh5 _).trans (mm_sm_pa 80 eh4 (by decide) _))) (by omega) (by omega) rfl, mm_up_pav (fun _ => ((mm_sm_pa 81 eh3 (by decide) _).trans ((mm_sm_pa 81 eh2 (by decide) _).trans (mm_sm_pf 81 eh1 _)))) eh4 (fun _ => (mm_sm_pf 81 eh5 _)) (by omega) (by omega) rfl⟩⟩⟩
  · skip
    refine mm_iconst C (mm_dec dk_X12_course 7 rfl) ⟨by decide, by decide⟩ ?_
    exact mm_iret C T (mm_dec dk_X12_course 8 rfl) (by decide : 0 ≤ 0) (by decide : 0 ≤ 0) ⟨_, rfl, ⟨⟨by omega, by omega⟩, i1, f1, by omega, by first | exact ⟨0, Or.inr ⟨rfl, by omega⟩, mm_up_no (by decide) (fun j => mm_sm_pf 83 eh1 j), mm_up_no (by decide) (fun j => mm_sm_pf 80 eh1 j), mm_up_no (by decide) (fun j => mm_sm_pf 81 eh1 j)⟩ | exact ⟨1, Or.inl ⟨rfl, by omega⟩, mm_up_pav (fun _ => (mm_sm_pf 83 eh1 _)) eh2 (fun _ => ((mm_sm_pf 83 eh5 _).trans ((mm_sm_pa 83 eh4 (by decide) _).trans (mm_sm_pa 83 eh3 (by decide) _)))) (by omega) (by omega) rfl, mm_up_pav (fun _ => ((mm_sm_pa 80 eh2 (by decide) _).trans (mm_sm_pf 80 eh1 _))) eh3 (fun _ => ((mm_sm_pf 80 eh5 _).trans (mm_sm_pa 80 eh4 (by decide) _))) (by omega) (by omega) rfl, mm_up_pav (fun _ => ((mm_sm_pa 81 eh3 (by decide) _).trans ((mm_sm_pa 81 eh2 (by decide) _).trans (mm_sm_pf 81 eh1 _)))) eh4 (fun _ => (mm_sm_pf 81 eh5 _)) (by omega) (by omega) rfl⟩⟩⟩
set_option maxRecDepth 100000 in
set_option maxHeartbeats 4000000 in
theorem c_X12_thrown_q (l : Launch) (hl : l.stackTraces = false) (d : Nat) (hd : 0 ≤ d) (h : mH) (i0 : mm_inv h) : mm_Met l d yX12_thrown cX12_thrown 1 (some .int) [mR 66] h (mm_pi fun r h2 => h2 = h ∧ (r = (h.1 66 0))) mm_nx 0 0 := by
  refine mm_ofW (ls := [mR 66]) hl (by decide) rfl (Nat.le_of_ble_eq_true rfl) ?_
  intro x hxl C T hnm htb
  subst hxl
  have f0 : mm_fr [] [] h h := mm_fr_rf
  refine mm_aload_n C (mm_dec dk_X12_thrown 0 rfl) rfl ?_
  refine mm_geti C fl_X12_188 (mm_dec dk_X12_thrown 1 rfl) rfl rfl (Or.inl rfl) ?_
  have g1 : -2147483648 ≤ (h.1 66 0) ∧ (h.1 66 0) ≤ 2147483647 := i0.1 66 0
  exact mm_iret C T (mm_dec dk_X12_thrown 2 rfl) (by decide : 0 ≤ 0) (by decide : 0 ≤ 0) ⟨_, rfl, ⟨rfl, rfl⟩⟩
