/-! ===== what a sign's test tells, kept away from omega ===== -/
def mm_hq9 (P : Prop) : Prop := P
theorem mm_hq9x {P : Prop} (h : mm_hq9 P) : P := h
def mm_hs9 (h : mH) (r v : Int) : Prop := (r ≠ 0 ∧ h.1 66 61 = 3 ∧ mm_cY h = v) ∨ (r = 0 ∧ mm_cY h ≠ v)
theorem mm_sgn9 {h : mH} {r c v : Int} (t : mm_hd9 h) (hc : 40 ≤ c ∧ c ≤ 61) (hv : v = 100 + c) (y : (h.1 66 61 ≠ 3 ∧ r = 0) ∨ (h.1 66 61 = 3 ∧ h.1 66 65 ≠ c ∧ r = 0) ∨ (h.1 66 61 = 3 ∧ h.1 66 65 = c ∧ r = 1)) : mm_hs9 h r v := by
  have z := mm_hd9x t
  unfold mm_hs9
  omega
theorem mm_hs9_y {h : mH} {r v : Int} (H : mm_hs9 h r v) (q : r ≠ 0) : h.1 66 61 = 3 ∧ mm_cY h = v := by
  rcases H with ⟨_, a, b⟩ | ⟨a, _⟩
  · exact ⟨a, b⟩
  · exact absurd a q
theorem mm_hs9_n {h : mH} {r v : Int} (H : mm_hs9 h r v) (q : r = 0) : mm_cY h ≠ v := by
  rcases H with ⟨a, _⟩ | ⟨_, a⟩
  · exact absurd q a
  · exact a

theorem mm_hq9i {P : Prop} (h : P) : mm_hq9 P := h
/-! ===== the latest event, who is gathered, the shuffle, the draw's steps ===== -/
def mm_lat (P : Int → Prop) (n r : Int) : Prop := (r = -1 ∧ ∀ e, 0 ≤ e → e < n → ¬ P e) ∨ (0 ≤ r ∧ r < n ∧ P r ∧ ∀ e, r < e → e < n → ¬ P e)
theorem mm_lat_un {P Q : Int → Prop} {n m r s : Int} (A : mm_lat P n r) (B : mm_lat Q m s) (hm : m = n) (e : ∀ j, 0 ≤ j → j < n → (P j ↔ Q j)) : r = s := by
  subst hm
  rcases A with ⟨a, b⟩ | ⟨a, b, c, d⟩ <;> rcases B with ⟨a', b'⟩ | ⟨a', b', c', d'⟩
  · omega
  · exact absurd ((e s a' b').mpr c') (b s a' b')
  · exact absurd ((e r a b).mp c) (b' r a b)
  · by_cases q : r < s
    · exact absurd ((e s a' b').mpr c') (d s q b')
    · by_cases w : s < r
      · exact absurd ((e r a b).mp c) (d' r w b)
      · omega
theorem mm_lat_0 {P : Int → Prop} : mm_lat P 0 (-1) := Or.inl ⟨rfl, fun e a b => absurd b (by omega)⟩
theorem mm_lat_1 {P : Int → Prop} {n : Int} (hn : 0 ≤ n) (p : P n) : mm_lat P (n + 1) n := Or.inr ⟨hn, by omega, p, fun e a b => by omega⟩
theorem mm_lat_2 {P : Int → Prop} {n r : Int} (A : mm_lat P n r) (p : ¬ P n) : mm_lat P (n + 1) r := by
  rcases A with ⟨a, b⟩ | ⟨a, b, c, d⟩
  · refine Or.inl ⟨a, fun e x y => ?_⟩
    by_cases q : e = n
    · rw [q]; exact p
    · exact b e x (by omega)
  · refine Or.inr ⟨a, by omega, c, fun e x y => ?_⟩
    by_cases q : e = n
    · rw [q]; exact p
    · exact d e x (by omega)
theorem mm_lat_dn {P : Int → Prop} {n i : Int} (a : ∀ e, i < e → e < n → ¬ P e) (p : ¬ P i) : ∀ e, i - 1 < e → e < n → ¬ P e := fun e x y => by
  by_cases q : e = i
  · rw [q]; exact p
  · exact a e (by omega) y
theorem mm_lat_no {P : Int → Prop} {n r : Int} (A : mm_lat P n r) : (r = -1 ∧ ∀ e, 0 ≤ e → e < n → ¬ P e) ∨ (r ≠ -1 ∧ ¬ ∀ e, 0 ≤ e → e < n → ¬ P e) := by
  rcases A with ⟨a, b⟩ | ⟨a, b, c, d⟩
  · exact Or.inl ⟨a, b⟩
  · exact Or.inr ⟨by omega, fun z => z r a b c⟩
def mm_kn (A B C D : Int → Int) (kd r k e : Int) : Prop := A e = kd ∧ B e = r ∧ C e ≤ k ∧ (D e = -1 ∨ k < D e)
theorem mm_kn_cg {A B C D A' B' C' D' : Int → Int} {kd r k k' e : Int} (hk : k' = k) (a : A' e = A e) (b : B' e = B e) (c : C' e = C e) (d : D' e = D e) : mm_kn A B C D kd r k e ↔ mm_kn A' B' C' D' kd r k' e := by
  unfold mm_kn
  rw [hk, a, b, c, d]
/-! who is gathered -/
def mm_gh (Q : Int → Prop) (R : Int → Int) : Nat → Int → Prop
  | 0, m => m = 0
  | i + 1, m => (Q (i : Int) ∧ 1 ≤ m ∧ R (m - 1) = (i : Int) ∧ mm_gh Q R i (m - 1)) ∨ (¬ Q (i : Int) ∧ mm_gh Q R i m)
theorem mm_gh_rg {Q : Int → Prop} {R : Int → Int} : ∀ (i : Nat) (m : Int), mm_gh Q R i m → 0 ≤ m ∧ m ≤ i ∧ ∀ k, 0 ≤ k → k < m → 0 ≤ R k ∧ R k < i
  | 0, m, h => by
    have h' : m = 0 := h
    exact ⟨by omega, by omega, fun k a b => by omega⟩
  | i + 1, m, h => by
    rcases h with ⟨_, b, c, d⟩ | ⟨_, d⟩
    · have z := mm_gh_rg i (m - 1) d
      refine ⟨by omega, by omega, fun k x y => ?_⟩
      by_cases q : k = m - 1
      · rw [q, c]; omega
      · have := z.2.2 k x (by omega)
        omega
    · have z := mm_gh_rg i m d
      refine ⟨by omega, by omega, fun k x y => ?_⟩
      have := z.2.2 k x y
      omega
theorem mm_gh_cg {Q : Int → Prop} {R R' : Int → Int} : ∀ (i : Nat) (m : Int), mm_gh Q R i m → (∀ k, 0 ≤ k → k < m → R' k = R k) → mm_gh Q R' i m
  | 0, _, h, _ => h
  | i + 1, m, h, e => by
    rcases h with ⟨a, b, c, d⟩ | ⟨a, d⟩
    · exact Or.inl ⟨a, b, (e (m - 1) (by omega) (by omega)).trans c, mm_gh_cg i (m - 1) d (fun k x y => e k x (by omega))⟩
    · exact Or.inr ⟨a, mm_gh_cg i m d e⟩
theorem mm_gh_un {Q Q' : Int → Prop} {R R' : Int → Int} : ∀ (i : Nat) (m m' : Int), mm_gh Q R i m → mm_gh Q' R' i m' → (∀ r, 0 ≤ r → r < (i : Int) → (Q r ↔ Q' r)) → m = m' ∧ ∀ k, 0 ≤ k → k < m → R k = R' k
  | 0, m, m', h, h', _ => by
    have a : m = 0 := h
    have b : m' = 0 := h'
    exact ⟨by omega, fun k x y => by omega⟩
  | i + 1, m, m', h, h', e => by
    have ei := e (i : Int) (by omega) (by omega)
    rcases h with ⟨a, b, c, d⟩ | ⟨a, d⟩ <;> rcases h' with ⟨a', b', c', d'⟩ | ⟨a', d'⟩
    · have z := mm_gh_un i (m - 1) (m' - 1) d d' (fun r x y => e r x (by omega))
      have hm : m = m' := by omega
      subst hm
      refine ⟨rfl, fun k x y => ?_⟩
      by_cases q : k = m - 1
      · rw [q, c, c']
      · exact z.2 k x (by omega)
    · exact absurd (ei.mp a) a'
    · exact absurd (ei.mpr a') a
    · exact mm_gh_un i m m' d d' (fun r x y => e r x (by omega))
theorem mm_gh_inj {Q : Int → Prop} {R : Int → Int} : ∀ (i : Nat) (m : Int), mm_gh Q R i m → ∀ a b, 0 ≤ a → a < m → 0 ≤ b → b < m → R a = R b → a = b
  | 0, m, h, a, b, a0, a1, _, _, _ => by
    have h' : m = 0 := h
    omega
  | i + 1, m, h, a, b, a0, a1, b0, b1, e => by
    rcases h with ⟨_, _, c, d⟩ | ⟨_, d⟩
    · have z := (mm_gh_rg i (m - 1) d).2.2
      by_cases q : a = m - 1
      · by_cases w : b = m - 1
        · omega
        · have := z b b0 (by omega)
          rw [q, c] at e
          omega
      · by_cases w : b = m - 1
        · have := z a a0 (by omega)
          rw [w, c] at e
          omega
        · exact mm_gh_inj i (m - 1) d a b a0 (by omega) b0 (by omega) e
    · exact mm_gh_inj i m d a b a0 a1 b0 b1 e
theorem mm_gh_y {Q : Int → Prop} {R R' : Int → Int} {i m : Int} (G : mm_gh Q R i.toNat m) (hi : 0 ≤ i) (q : Q i) (e : ∀ k, R' k = if k = m then i else R k) : mm_gh Q R' (i + 1).toNat (m + 1) := by
  have g := mm_gh_rg _ _ G
  rw [show (i + 1).toNat = i.toNat + 1 by omega]
  refine Or.inl ⟨by rw [Int.toNat_of_nonneg hi]; exact q, by omega, ?_, ?_⟩
  · rw [show m + 1 - 1 = m by omega, e, if_pos rfl, Int.toNat_of_nonneg hi]
  · rw [show m + 1 - 1 = m by omega]
    exact mm_gh_cg _ _ G (fun k x y => by rw [e, if_neg (by omega)])
theorem mm_gh_n {Q : Int → Prop} {R R' : Int → Int} {i m : Int} (G : mm_gh Q R i.toNat m) (hi : 0 ≤ i) (q : ¬ Q i) (e : ∀ k, R' k = R k) : mm_gh Q R' (i + 1).toNat m := by
  rw [show (i + 1).toNat = i.toNat + 1 by omega]
  exact Or.inr ⟨by rw [Int.toNat_of_nonneg hi]; exact q, mm_gh_cg _ _ G (fun k _ _ => e k)⟩
def mm_lk (cl R : Int → Int) : Nat → Int → Int
  | 0, _ => 0
  | m + 1, c => mm_lk cl R m c + (if c = cl (R (m : Int)) then 1 else 0)
theorem mm_lk_cg {cl cl' R R' : Int → Int} : ∀ (m : Nat) (c : Int), (∀ k : Int, 0 ≤ k → k < m → R' k = R k ∧ cl' (R k) = cl (R k)) → mm_lk cl' R' m c = mm_lk cl R m c
  | 0, _, _ => rfl
  | m + 1, c, e => by
    have z := mm_lk_cg m c (fun k a b => e k a (by omega))
    have y := e (m : Int) (by omega) (by omega)
    unfold mm_lk
    rw [z, y.1, y.2]
theorem mm_lk_rg (cl R : Int → Int) : ∀ (m : Nat) (c : Int), 0 ≤ mm_lk cl R m c ∧ mm_lk cl R m c ≤ m
  | 0, _ => ⟨Int.le_refl _, Int.le_refl _⟩
  | m + 1, c => by
    have z := mm_lk_rg cl R m c
    unfold mm_lk
    split <;> omega
theorem mm_lk_y {cl R R' : Int → Int} {m r c : Int} (hm : 0 ≤ m) (e : ∀ k, R' k = if k = m then r else R k) : mm_lk cl R' (m + 1).toNat c = if c = cl r then mm_lk cl R m.toNat c + 1 else mm_lk cl R m.toNat c := by
  rw [show (m + 1).toNat = m.toNat + 1 by omega]
  show mm_lk cl R' m.toNat c + _ = _
  rw [mm_lk_cg (R := R) (cl := cl) m.toNat c (fun k a b => ⟨by rw [e, if_neg (by omega)], rfl⟩), Int.toNat_of_nonneg hm, e, if_pos rfl]
  split <;> omega
/-! the steps -/
def mm_rf (L : Int → Int) (c m : Int) : Prop := ∀ d, 0 ≤ d → d < 10 → (d = c → L d - 1 ≤ m / 2) ∧ (d ≠ c → L d ≤ (m + 1) / 2)
theorem mm_rf_cg {L L' : Int → Int} {c m : Int} (e : ∀ d, 0 ≤ d → d < 10 → L' d = L d) (F : mm_rf L c m) : mm_rf L' c m := fun d a b => by rw [e d a b]; exact F d a b
def mm_dL (cl D L0 : Int → Int) (q : Nat → Int) : Nat → Int → Int
  | 0, c => L0 c
  | j + 1, c => mm_dL cl D L0 q j c - (if c = cl (D (q j)) then 1 else 0)
def mm_la9 (cl D : Int → Int) (q : Nat → Int) : Nat → Int
  | 0 => -1
  | j + 1 => cl (D (q j))
def mm_ok9 (cl D L0 : Int → Int) (n : Int) (q : Nat → Int) (j : Nat) (k : Int) : Prop := (∀ l, l < j → q l ≠ k) ∧ cl (D k) ≠ mm_la9 cl D q j ∧ mm_rf (mm_dL cl D L0 q j) (cl (D k)) (n - j - 1)
def mm_fs9 (P : Int → Prop) (n r : Int) : Prop := 0 ≤ r ∧ r < n ∧ P r ∧ ∀ k, 0 ≤ k → k < r → ¬ P k
def mm_tc9 (cl D L0 : Int → Int) (n : Int) (q : Nat → Int) (i : Nat) : Prop := ∀ j, j < i → mm_fs9 (mm_ok9 cl D L0 n q j) n (q j)
theorem mm_fs9_un {P Q : Int → Prop} {n r s : Int} (A : mm_fs9 P n r) (B : mm_fs9 Q n s) (e : ∀ k, 0 ≤ k → k < n → (P k ↔ Q k)) : r = s := by
  obtain ⟨a, b, c, d⟩ := A
  obtain ⟨a', b', c', d'⟩ := B
  by_cases q : r < s
  · exact absurd ((e r a b).mp c) (d' r a q)
  · by_cases w : s < r
    · exact absurd ((e s a' b').mpr c') (d s a' w)
    · omega
theorem mm_dL_cg {cl cl' D D' L0 L0' : Int → Int} {n : Int} {q q' : Nat → Int} (hc : ∀ k, 0 ≤ k → k < n → cl' (D' k) = cl (D k)) (hL : ∀ c, 0 ≤ c → c < 10 → L0' c = L0 c) : ∀ (j : Nat), (∀ l, l < j → q' l = q l ∧ 0 ≤ q l ∧ q l < n) → ∀ c, 0 ≤ c → c < 10 → mm_dL cl' D' L0' q' j c = mm_dL cl D L0 q j c
  | 0, _, c, a, b => hL c a b
  | j + 1, h, c, a, b => by
    have z := mm_dL_cg hc hL j (fun l y => h l (by omega)) c a b
    have y := h j (by omega)
    unfold mm_dL
    rw [z, y.1, hc (q j) y.2.1 y.2.2]
theorem mm_la9_cg {cl cl' D D' : Int → Int} {n : Int} {q q' : Nat → Int} (hc : ∀ k, 0 ≤ k → k < n → cl' (D' k) = cl (D k)) : ∀ (j : Nat), (∀ l, l < j → q' l = q l ∧ 0 ≤ q l ∧ q l < n) → mm_la9 cl' D' q' j = mm_la9 cl D q j
  | 0, _ => rfl
  | j + 1, h => by
    have y := h j (by omega)
    show cl' (D' (q' j)) = cl (D (q j))
    rw [y.1, hc (q j) y.2.1 y.2.2]
theorem mm_ok9_cg {cl cl' D D' L0 L0' : Int → Int} {n : Int} {q q' : Nat → Int} (hc : ∀ k, 0 ≤ k → k < n → cl' (D' k) = cl (D k)) (hL : ∀ c, 0 ≤ c → c < 10 → L0' c = L0 c) {j : Nat} (h : ∀ l, l < j → q' l = q l ∧ 0 ≤ q l ∧ q l < n) {k : Int} (k0 : 0 ≤ k) (k1 : k < n) : mm_ok9 cl' D' L0' n q' j k ↔ mm_ok9 cl D L0 n q j k := by
  have z := mm_dL_cg hc hL j h
  unfold mm_ok9
  rw [mm_la9_cg hc j h, hc k k0 k1]
  constructor
  · intro ⟨a, b, c⟩
    exact ⟨fun l y => by rw [← (h l y).1]; exact a l y, b, mm_rf_cg (fun d x y => (z d x y).symm) c⟩
  · intro ⟨a, b, c⟩
    exact ⟨fun l y => by rw [(h l y).1]; exact a l y, b, mm_rf_cg (fun d x y => z d x y) c⟩
theorem mm_tc9_cg {cl D L0 : Int → Int} {n : Int} {q q' : Nat → Int} {i : Nat} (T : mm_tc9 cl D L0 n q i) (e : ∀ l, l < i → q' l = q l) : mm_tc9 cl D L0 n q' i := fun j hj => by
  have t := T j hj
  have hl : ∀ l, l < j → q' l = q l ∧ 0 ≤ q l ∧ q l < n := fun l y => ⟨e l (by omega), (T l (by omega)).1, (T l (by omega)).2.1⟩
  rw [e j hj]
  exact ⟨t.1, t.2.1, (mm_ok9_cg (fun _ _ _ => rfl) (fun _ _ _ => rfl) hl t.1 t.2.1).mpr t.2.2.1, fun k a b c => t.2.2.2 k a b ((mm_ok9_cg (fun _ _ _ => rfl) (fun _ _ _ => rfl) hl a (by have := t.2.1; omega)).mp c)⟩
theorem mm_tc9_un {cl cl' D D' L0 L0' : Int → Int} {n : Int} {q q' : Nat → Int} (hc : ∀ k, 0 ≤ k → k < n → cl' (D' k) = cl (D k)) (hL : ∀ c, 0 ≤ c → c < 10 → L0' c = L0 c) : ∀ (i : Nat), mm_tc9 cl D L0 n q i → mm_tc9 cl' D' L0' n q' i → ∀ l, l < i → q' l = q l ∧ 0 ≤ q l ∧ q l < n
  | 0, _, _, l, z => absurd z (Nat.not_lt_zero l)
  | i + 1, T, T', l, z => by
    have ih := mm_tc9_un hc hL i (fun j hj => T j (by omega)) (fun j hj => T' j (by omega))
    by_cases w : l = i
    · subst w
      have t := T l z
      have t' := T' l z
      exact ⟨(mm_fs9_un t t' (fun k a b => (mm_ok9_cg hc hL ih a b).symm)).symm, t.1, t.2.1⟩
    · exact ih l (by omega)
/-- one stuck, the other not -/
theorem mm_tc9_st {cl cl' D D' L0 L0' : Int → Int} {n : Int} {q q' : Nat → Int} (hc : ∀ k, 0 ≤ k → k < n → cl' (D' k) = cl (D k)) (hL : ∀ c, 0 ≤ c → c < 10 → L0' c = L0 c) {i i' : Nat} (T : mm_tc9 cl D L0 n q i) (S : ∀ k, 0 ≤ k → k < n → ¬ mm_ok9 cl D L0 n q i k) (T' : mm_tc9 cl' D' L0' n q' i') (hi : i < i') : False := by
  have e := mm_tc9_un hc hL i T (fun j hj => T' j (by omega))
  have t := T' i hi
  exact S (q' i) t.1 t.2.1 ((mm_ok9_cg hc hL e t.1 t.2.1).mp t.2.2.1)
theorem mm_tc9_s {cl D L0 : Int → Int} {n : Int} {q : Nat → Int} {i : Nat} {k : Int} (T : mm_tc9 cl D L0 n q i) (F : mm_fs9 (mm_ok9 cl D L0 n q i) n k) : mm_tc9 cl D L0 n (fun l => if l = i then k else q l) (i + 1) := fun j hj => by
  have e : ∀ l, l < i → (fun l => if l = i then k else q l) l = q l := fun l h => if_neg (by omega)
  by_cases w : j = i
  · subst w
    have hl : ∀ l, l < j → (fun l => if l = j then k else q l) l = q l ∧ 0 ≤ q l ∧ q l < n := fun l y => ⟨e l y, (T l y).1, (T l y).2.1⟩
    show mm_fs9 _ n (if j = j then k else q j)
    rw [if_pos rfl]
    exact ⟨F.1, F.2.1, (mm_ok9_cg (fun _ _ _ => rfl) (fun _ _ _ => rfl) hl F.1 F.2.1).mpr F.2.2.1, fun k' a b c => F.2.2.2 k' a b ((mm_ok9_cg (fun _ _ _ => rfl) (fun _ _ _ => rfl) hl a (by have := F.2.1; omega)).mp c)⟩
  · exact mm_tc9_cg T e j (by omega)
theorem mm_tc9_cf {cl D L0 : Int → Int} {n : Int} {q : Nat → Int} (hn : 0 ≤ n) (T : mm_tc9 cl D L0 n q n.toNat) (hz : n = 0 → ∀ c, 0 ≤ c → c < 10 → L0 c ≤ 0) : ∀ c, 0 ≤ c → c < 10 → L0 c ≤ (if c = -1 then n / 2 else (n + 1) / 2) := fun c a b => by
  rw [if_neg (by omega)]
  by_cases w : n = 0
  · have := hz w c a b
    omega
  · have t := (T 0 (by omega)).2.2.1.2.2 c a b
    have e : mm_dL cl D L0 q 0 c = L0 c := rfl
    rw [e] at t
    by_cases y : c = cl (D (q 0))
    · have := t.1 y
      omega
    · have := t.2 y
      omega

/-! ===== the shuffle and the draw, over the heap ===== -/
def mm_t9 (i j k : Int) : Int := if k = j then i else if k = i then j else k
def mm_sw9 (R : Int → Int) (i j : Int) : Int → Int := fun k => R (mm_t9 i j k)
theorem mm_t9_rg {n i j k : Int} (hi : 0 ≤ i ∧ i < n) (hj : 0 ≤ j ∧ j < n) (hk : 0 ≤ k ∧ k < n) : 0 ≤ mm_t9 i j k ∧ mm_t9 i j k < n := by
  unfold mm_t9
  split
  · exact hi
  · split
    · exact hj
    · exact hk
theorem mm_t9_inj {i j a b : Int} (e : mm_t9 i j a = mm_t9 i j b) : a = b := by
  unfold mm_t9 at e
  split at e <;> split at e <;> (try split at e) <;> (try split at e) <;> omega
def mm_sd9 (s : Int) : Int := mm_vladd (mm_vlmul s 6364136223846793005) 1442695040888963407
def mm_jd9 (s b : Int) : Int := mm_vl2i (mm_vlrem (mm_vlushr s 33) b)
def mm_sh9 : Nat → Int → (Int → Int) → (Int → Int)
  | 0, _, R => R
  | i + 1, s, R => mm_sh9 i (mm_sd9 s) (mm_sw9 R ((i : Int) + 1) (mm_jd9 (mm_sd9 s) ((i : Int) + 1 + 1)))
theorem mm_sh9_e (i : Nat) (s : Int) (R : Int → Int) : mm_sh9 (i + 1) s R = mm_sh9 i (mm_sd9 s) (mm_sw9 R ((i : Int) + 1) (mm_jd9 (mm_sd9 s) ((i : Int) + 1 + 1))) := rfl
theorem mm_jd9_rg (s : Int) (i : Nat) {n : Int} (hn : (i : Int) + 1 < n) (hm : n ≤ 1000) : 0 ≤ mm_jd9 s ((i : Int) + 1 + 1) ∧ mm_jd9 s ((i : Int) + 1 + 1) < n := by
  have z := mm_lot (u := s) (b := (i : Int) + 1 + 1) ⟨by omega, by omega⟩
  exact ⟨z.1, by have y : mm_jd9 s ((i : Int) + 1 + 1) < (i : Int) + 1 + 1 := z.2; omega⟩
theorem mm_sh9_cg {n : Int} (hm : n ≤ 1000) : ∀ (i : Nat) (s : Int) (R R' : Int → Int), ((i : Int) < n ∨ i = 0) → (∀ k, 0 ≤ k → k < n → R' k = R k) → ∀ k, 0 ≤ k → k < n → mm_sh9 i s R' k = mm_sh9 i s R k
  | 0, _, _, _, _, e, k, a, b => e k a b
  | i + 1, s, R, R', hi, e, k, a, b => by
    refine mm_sh9_cg hm i _ _ _ (Or.inl (by omega)) (fun k x y => ?_) k a b
    have z := mm_t9_rg (i := (i : Int) + 1) ⟨by omega, by omega⟩ (mm_jd9_rg (mm_sd9 s) i (by omega) hm) ⟨x, y⟩
    exact e _ z.1 z.2
theorem mm_sh9_im {n : Int} (hm : n ≤ 1000) : ∀ (i : Nat) (s : Int) (R : Int → Int), ((i : Int) < n ∨ i = 0) → ∃ t : Int → Int, (∀ k, mm_sh9 i s R k = R (t k)) ∧ (∀ k, 0 ≤ k → k < n → 0 ≤ t k ∧ t k < n) ∧ ∀ a b, t a = t b → a = b
  | 0, _, _, _ => ⟨fun k => k, fun _ => rfl, fun k a b => ⟨a, b⟩, fun _ _ e => e⟩
  | i + 1, s, R, hi => by
    obtain ⟨t, t1, t2, t3⟩ := mm_sh9_im hm i (mm_sd9 s) (mm_sw9 R ((i : Int) + 1) (mm_jd9 (mm_sd9 s) ((i : Int) + 1 + 1))) (Or.inl (by omega))
    refine ⟨fun k => mm_t9 ((i : Int) + 1) (mm_jd9 (mm_sd9 s) ((i : Int) + 1 + 1)) (t k), fun k => t1 k, fun k a b => ?_, fun a b e => t3 a b (mm_t9_inj e)⟩
    have z := t2 k a b
    exact mm_t9_rg (i := (i : Int) + 1) ⟨by omega, by omega⟩ (mm_jd9_rg (mm_sd9 s) i (by omega) hm) z
theorem mm_sh9_s {h h1 h2 : mH} {o : Nat} {i i' j s y1 y2 : Int} (e1 : y1 = mm_vlmul s 6364136223846793005) (e2 : y2 = mm_vladd y1 1442695040888963407) (e3 : j = mm_vl2i (mm_vlrem (mm_vlushr y2 33) (i + 1))) (hi : 1 ≤ i) (hi' : i' = i - 1) (a1 : h1 = mm_pa h o i (h.2.1 o j)) (a2 : h2 = mm_pa h1 o j (h.2.1 o i)) : mm_sh9 i'.toNat y2 (h2.2.1 o) = mm_sh9 i.toNat s (h.2.1 o) := by
  have es : y2 = mm_sd9 s := by rw [e2, e1]; rfl
  have ej : j = mm_jd9 (mm_sd9 s) (i + 1) := by rw [e3, es]; rfl
  have en : i.toNat = i'.toNat + 1 := by omega
  have ei : ((i'.toNat : Nat) : Int) + 1 = i := by omega
  have er : h2.2.1 o = mm_sw9 (h.2.1 o) i j := by
    funext k
    show _ = h.2.1 o (mm_t9 i j k)
    rw [a2]
    unfold mm_t9
    by_cases q : k = j
    · rw [if_pos q, q, mm_pa_same]
    · rw [if_neg q, mm_pa_j o q, a1]
      by_cases w : k = i
      · rw [if_pos w, w, mm_pa_same]
      · rw [if_neg w, mm_pa_j o w]
  rw [en, es, er, mm_sh9_e, ei, ej]
/-! what is known, on both sides -/
def mm_k1 (h : mH) : Int → Int → Int → Int → Prop := mm_kn (h.2.1 31) (h.2.1 32) (h.2.1 35) (h.2.1 36)
def mm_k2 (h : mH) : Int → Int → Int → Int → Prop := mm_kn (h.2.1 92) (h.2.1 93) (h.2.1 96) (h.2.1 97)
theorem mm_k1_eq {h h' : mH} (a : ∀ j, h'.2.1 31 j = h.2.1 31 j) (b : ∀ j, h'.2.1 32 j = h.2.1 32 j) (c : ∀ j, h'.2.1 35 j = h.2.1 35 j) (d : ∀ j, h'.2.1 36 j = h.2.1 36 j) : mm_k1 h' = mm_k1 h := by
  unfold mm_k1
  rw [funext a, funext b, funext c, funext d]
theorem mm_k2_eq {h h' : mH} (a : ∀ j, h'.2.1 92 j = h.2.1 92 j) (b : ∀ j, h'.2.1 93 j = h.2.1 93 j) (c : ∀ j, h'.2.1 96 j = h.2.1 96 j) (d : ∀ j, h'.2.1 97 j = h.2.1 97 j) : mm_k2 h' = mm_k2 h := by
  unfold mm_k2
  rw [funext a, funext b, funext c, funext d]
theorem mm_k1_fr {wf : List (Nat × Nat)} {wa : List Nat} {h h' : mH} (f : mm_fr wf wa h h') (w : 31 ∉ wa ∧ 32 ∉ wa ∧ 35 ∉ wa ∧ 36 ∉ wa) : mm_k1 h' = mm_k1 h := mm_k1_eq (f.2 31 w.1) (f.2 32 w.2.1) (f.2 35 w.2.2.1) (f.2 36 w.2.2.2)
theorem mm_k2_fr {wf : List (Nat × Nat)} {wa : List Nat} {h h' : mH} (f : mm_fr wf wa h h') (w : 92 ∉ wa ∧ 93 ∉ wa ∧ 96 ∉ wa ∧ 97 ∉ wa) : mm_k2 h' = mm_k2 h := mm_k2_eq (f.2 92 w.1) (f.2 93 w.2.1) (f.2 96 w.2.2.1) (f.2 97 w.2.2.2)
def mm_ev (h : mH) : Prop := mm_eq h 31 92 (h.1 30 6 - 1) ∧ mm_eq h 32 93 (h.1 30 6 - 1) ∧ mm_eq h 35 96 (h.1 30 6 - 1) ∧ mm_eq h 36 97 (h.1 30 6 - 1)
theorem mm_kk {h h1 : mH} {kd r k k' e : Int} (a : mm_eq h 31 92 (h.1 30 6 - 1)) (b : mm_eq h 32 93 (h.1 30 6 - 1)) (c : mm_eq h 35 96 (h.1 30 6 - 1)) (d : mm_eq h 36 97 (h.1 30 6 - 1)) (e1 : mm_k2 h1 = mm_k2 h) (hk : k' = k) (e0 : 0 ≤ e) (e9 : e < h.1 30 6) : mm_k1 h kd r k e ↔ mm_k2 h1 kd r k' e := by
  rw [e1]
  exact mm_kn_cg hk (a e e0 (by omega)).symm (b e e0 (by omega)).symm (c e e0 (by omega)).symm (d e e0 (by omega)).symm
def mm_Q1 (h : mH) (c k r : Int) : Prop := h.2.1 23 r = c ∧ h.2.1 27 r = -1 ∧ ∀ e, 0 ≤ e → e < h.1 30 6 → ¬ mm_k1 h 0 r k e
def mm_Q2 (h : mH) (c k r : Int) : Prop := h.2.1 85 r = c ∧ (h.2.1 88 r = -1 ∨ h.2.1 89 r ≤ 0) ∧ ∀ e, 0 ≤ e → e < h.1 66 40 → ¬ mm_k2 h 0 r k e
/-! the class's arranging -/
def mm_pk (h : mH) (a m k : Int) : Prop := h.2.1 55 k ≠ -1 ∧ h.2.1 24 (h.2.1 55 k) ≠ a ∧ mm_rf (h.2.1 57) (h.2.1 24 (h.2.1 55 k)) m
theorem mm_dL_rg (cl D L0 : Int → Int) (q : Nat → Int) (c : Int) : ∀ j : Nat, L0 c - j ≤ mm_dL cl D L0 q j c ∧ mm_dL cl D L0 q j c ≤ L0 c
  | 0 => ⟨by show _ ≤ L0 c; omega, Int.le_refl _⟩
  | j + 1 => by
    have z := mm_dL_rg cl D L0 q c j
    unfold mm_dL
    split <;> omega
def mm_nn9 (h : mH) : Prop := ∀ k, 0 ≤ k → k < h.1 54 5 → 0 ≤ h.2.1 55 k
def mm_lg9 (h : mH) (b : Int) : Prop := ∀ c, 0 ≤ c → c < 10 → -b ≤ h.2.1 57 c ∧ h.2.1 57 c ≤ b
def mm_ag (hs h : mH) (i a : Int) : Prop := ∃ q : Nat → Int, mm_tc9 (hs.2.1 24) (hs.2.1 55) (hs.2.1 57) (hs.1 54 5) q i.toNat ∧ (∀ k, 0 ≤ k → k < hs.1 54 5 → ((h.2.1 55 k ≠ -1 ↔ ∀ l, l < i.toNat → q l ≠ k) ∧ (h.2.1 55 k ≠ -1 → h.2.1 55 k = hs.2.1 55 k))) ∧ (∀ c, 0 ≤ c → c < 10 → h.2.1 57 c = mm_dL (hs.2.1 24) (hs.2.1 55) (hs.2.1 57) q i.toNat c) ∧ (∀ j, 0 ≤ j → j < i → h.2.1 56 j = hs.2.1 55 (q j.toNat)) ∧ a = mm_la9 (hs.2.1 24) (hs.2.1 55) q i.toNat
theorem mm_ag_0 {hs : mH} (N : mm_nn9 hs) : mm_ag hs hs 0 (-1) := ⟨fun _ => 0, fun j hj => absurd hj (Nat.not_lt_zero j), fun k a b => ⟨⟨fun _ l hl => absurd hl (Nat.not_lt_zero l), fun _ => by have := N k a b; omega⟩, fun _ => rfl⟩, fun _ _ _ => rfl, fun j a b => absurd b (by omega), rfl⟩
theorem mm_ag_lg {hs h : mH} {i a b : Int} (A : mm_ag hs h i a) (L : mm_lg9 hs b) (hi : 0 ≤ i) : mm_lg9 h (b + i) := by
  obtain ⟨q, _, _, l, _, _⟩ := A
  intro c c0 c1
  have z := mm_dL_rg (hs.2.1 24) (hs.2.1 55) (hs.2.1 57) q c i.toNat
  have y := L c c0 c1
  rw [l c c0 c1]
  omega
theorem mm_ag_ok {hs h : mH} {i a : Int} (A : mm_ag hs h i a) (e24 : ∀ j, h.2.1 24 j = hs.2.1 24 j) (hi : 0 ≤ i) : ∃ q : Nat → Int, mm_tc9 (hs.2.1 24) (hs.2.1 55) (hs.2.1 57) (hs.1 54 5) q i.toNat ∧ ∀ k, 0 ≤ k → k < hs.1 54 5 → (mm_pk h a (hs.1 54 5 - i - 1) k ↔ mm_ok9 (hs.2.1 24) (hs.2.1 55) (hs.2.1 57) (hs.1 54 5) q i.toNat k) := by
  obtain ⟨q, t, r, l, _, la⟩ := A
  refine ⟨q, t, fun k k0 k1 => ?_⟩
  have rk := r k k0 k1
  unfold mm_pk mm_ok9
  rw [la, Int.toNat_of_nonneg hi, e24]
  constructor
  · intro ⟨x, y, z⟩
    have e := rk.2 x
    rw [e] at y z
    exact ⟨rk.1.mp x, y, mm_rf_cg (fun d d0 d1 => (l d d0 d1).symm) z⟩
  · intro ⟨x, y, z⟩
    have x' := rk.1.mpr x
    have e := rk.2 x'
    rw [e]
    exact ⟨by rw [← e]; exact x', y, mm_rf_cg (fun d d0 d1 => l d d0 d1) z⟩
theorem mm_ag_st {hs h : mH} {i a : Int} (A : mm_ag hs h i a) (e24 : ∀ j, h.2.1 24 j = hs.2.1 24 j) (hi : 0 ≤ i) (S : ∀ k, 0 ≤ k → k < hs.1 54 5 → ¬ mm_pk h a (hs.1 54 5 - i - 1) k) : ∃ q : Nat → Int, mm_tc9 (hs.2.1 24) (hs.2.1 55) (hs.2.1 57) (hs.1 54 5) q i.toNat ∧ ∀ k, 0 ≤ k → k < hs.1 54 5 → ¬ mm_ok9 (hs.2.1 24) (hs.2.1 55) (hs.2.1 57) (hs.1 54 5) q i.toNat k := by
  obtain ⟨q, t, z⟩ := mm_ag_ok A e24 hi
  exact ⟨q, t, fun k k0 k1 o => S k k0 k1 ((z k k0 k1).mpr o)⟩
theorem mm_ag_s {hs h h1 h2 h3 : mH} {i a k c0 v : Int} (A : mm_ag hs h i a) (e24 : ∀ j, h.2.1 24 j = hs.2.1 24 j) (hi : 0 ≤ i) (F : mm_fs9 (mm_pk h a (hs.1 54 5 - i - 1)) (hs.1 54 5) k) (a1 : h1 = mm_pa h 56 i (h.2.1 55 k)) (a2 : h2 = mm_pa h1 55 k (-1)) (hc : c0 = h.2.1 24 (h.2.1 55 k)) (hc0 : 0 ≤ c0) (hc1 : c0 < 10) (a3 : h3 = mm_pa h2 57 c0 v) (hv : v = h.2.1 57 c0 - 1) : mm_ag hs h3 (i + 1) c0 := by
  obtain ⟨q, t, r, l, w, la⟩ := A
  have F5 : h.2.1 55 k ≠ -1 := F.2.2.1.1
  have e5 := (r k F.1 F.2.1).2 F5
  have hF : mm_fs9 (mm_ok9 (hs.2.1 24) (hs.2.1 55) (hs.2.1 57) (hs.1 54 5) q i.toNat) (hs.1 54 5) k := by
    have z : ∀ k, 0 ≤ k → k < hs.1 54 5 → (mm_pk h a (hs.1 54 5 - i - 1) k ↔ mm_ok9 (hs.2.1 24) (hs.2.1 55) (hs.2.1 57) (hs.1 54 5) q i.toNat k) := by
      intro k k0 k1
      have rk := r k k0 k1
      unfold mm_pk mm_ok9
      rw [la, Int.toNat_of_nonneg hi, e24]
      constructor
      · intro ⟨x, y, z⟩
        have e := rk.2 x
        rw [e] at y z
        exact ⟨rk.1.mp x, y, mm_rf_cg (fun d d0 d1 => (l d d0 d1).symm) z⟩
      · intro ⟨x, y, z⟩
        have x' := rk.1.mpr x
        have e := rk.2 x'
        rw [e]
        exact ⟨by rw [← e]; exact x', y, mm_rf_cg (fun d d0 d1 => l d d0 d1) z⟩
    exact ⟨F.1, F.2.1, (z k F.1 F.2.1).mp F.2.2.1, fun k' x y o => F.2.2.2 k' x y ((z k' x (by have := F.2.1; omega)).mpr o)⟩
  have en : (i + 1).toNat = i.toNat + 1 := by omega
  have r5 : ∀ j, h3.2.1 55 j = if j = k then -1 else h.2.1 55 j := fun j => by
    rw [a3, mm_pa_o 55 57 (by decide), a2]
    by_cases y : j = k
    · rw [if_pos y, y, mm_pa_same]
    · rw [if_neg y, mm_pa_j 55 y, a1, mm_pa_o 55 56 (by decide)]
  have r6 : ∀ j, h3.2.1 56 j = if j = i then h.2.1 55 k else h.2.1 56 j := fun j => by
    rw [a3, mm_pa_o 56 57 (by decide), a2, mm_pa_o 56 55 (by decide), a1]
    by_cases y : j = i
    · rw [if_pos y, y, mm_pa_same]
    · rw [if_neg y, mm_pa_j 56 y]
  have r7 : ∀ j, h3.2.1 57 j = if j = c0 then h.2.1 57 j - 1 else h.2.1 57 j := fun j => by
    rw [a3]
    by_cases y : j = c0
    · rw [if_pos y, y, mm_pa_same, hv]
    · rw [if_neg y, mm_pa_j 57 y, a2, mm_pa_o 57 55 (by decide), a1, mm_pa_o 57 56 (by decide)]
  have hq : ∀ l, l < i.toNat → (fun l => if l = i.toNat then k else q l) l = q l := fun l hl => if_neg (by omega)
  have hqk : (fun l => if l = i.toNat then k else q l) i.toNat = k := if_pos rfl
  have hl : ∀ l, l < i.toNat → (fun l => if l = i.toNat then k else q l) l = q l ∧ 0 ≤ q l ∧ q l < hs.1 54 5 := fun l y => ⟨hq l y, (t l y).1, (t l y).2.1⟩
  have hck : c0 = hs.2.1 24 (hs.2.1 55 k) := by rw [hc, e24, e5]
  refine ⟨fun l => if l = i.toNat then k else q l, by rw [en]; exact mm_tc9_s t hF, fun j j0 j1 => ?_, fun c d0 d1 => ?_, fun j j0 j1 => ?_, ?_⟩
  · rw [en, r5]
    have rj := r j j0 j1
    by_cases y : j = k
    · rw [if_pos y]
      exact ⟨⟨fun z => absurd rfl z, fun z => absurd y.symm (by have := z i.toNat (by omega); rw [hqk] at this; exact this)⟩, fun z => absurd rfl z⟩
    · rw [if_neg y]
      refine ⟨⟨fun z l hl => ?_, fun z => rj.1.mpr (fun l hl => ?_)⟩, rj.2⟩
      · by_cases x : l = i.toNat
        · rw [x, hqk]; exact fun e => y e.symm
        · rw [hq l (by omega)]; exact rj.1.mp z l (by omega)
      · have := z l (by omega)
        rw [hq l hl] at this
        exact this
  · rw [en, r7]
    show _ = mm_dL (hs.2.1 24) (hs.2.1 55) (hs.2.1 57) (fun l => if l = i.toNat then k else q l) i.toNat c - (if c = hs.2.1 24 (hs.2.1 55 (if i.toNat = i.toNat then k else q i.toNat)) then 1 else 0)
    rw [mm_dL_cg (n := hs.1 54 5) (q := q) (fun _ _ _ => rfl) (fun _ _ _ => rfl) i.toNat hl c d0 d1, if_pos rfl, ← hck, l c d0 d1]
    split
    · rfl
    · omega
  · rw [r6]
    by_cases y : j = i
    · rw [if_pos y, y]
      show _ = hs.2.1 55 (if i.toNat = i.toNat then k else q i.toNat)
      rw [if_pos rfl]; exact e5
    · rw [if_neg y]
      have z := hq j.toNat (by omega)
      rw [z]
      exact w j j0 (by omega)
  · rw [en]
    show _ = hs.2.1 24 (hs.2.1 55 (if i.toNat = i.toNat then k else q i.toNat))
    rw [if_pos rfl]; exact hck
def mm_aW (cl D L0 : Int → Int) (n r : Int) (W : Int → Int) : Prop := (r = 0 ∧ ∃ (q : Nat → Int) (i : Nat), (i : Int) < n ∧ mm_tc9 cl D L0 n q i ∧ ∀ k, 0 ≤ k → k < n → ¬ mm_ok9 cl D L0 n q i k) ∨ (r = 1 ∧ ∃ q : Nat → Int, mm_tc9 cl D L0 n q n.toNat ∧ ∀ j, 0 ≤ j → j < n → W j = D (q j.toNat))

/-! ===== the reference's draw ===== -/
theorem mm_nxt_rf {h : mH} {k last m : Int} (c0 : 0 ≤ h.2.1 86 (h.2.1 117 k)) : mm_nxt h k last m ↔ (h.2.1 119 (h.2.1 117 k) = 0 ∧ h.2.1 86 (h.2.1 117 k) ≠ last ∧ mm_rf (h.2.1 118) (h.2.1 86 (h.2.1 117 k)) (m - 1)) := by
  unfold mm_nxt mm_fo1 mm_rf
  constructor
  · intro ⟨a, b, c⟩
    refine ⟨a, b, fun d d0 d1 => ⟨fun e => ?_, fun e => ?_⟩⟩
    · have z := c d d0 d1
      rw [if_pos e, e, mm_pa_same] at z
      rw [e]; exact z
    · have z := c d d0 d1
      rw [if_neg e, mm_pa_j 118 e] at z
      exact z
  · intro ⟨a, b, c⟩
    refine ⟨a, b, fun d d0 d1 => ?_⟩
    by_cases e : d = h.2.1 86 (h.2.1 117 k)
    · rw [if_pos e, e, mm_pa_same]
      have z := (c d d0 d1).1 e
      rw [e] at z; exact z
    · rw [if_neg e, mm_pa_j 118 e]
      exact (c d d0 d1).2 e
def mm_bt9 (hs h : mH) (n i a : Int) : Prop := ∃ q : Nat → Int, mm_tc9 (hs.2.1 86) (hs.2.1 117) (hs.2.1 118) n q i.toNat ∧ (∀ k, 0 ≤ k → k < n → (h.2.1 119 (hs.2.1 117 k) = 0 ↔ ∀ l, l < i.toNat → q l ≠ k)) ∧ (∀ c, 0 ≤ c → c < 10 → h.2.1 118 c = mm_dL (hs.2.1 86) (hs.2.1 117) (hs.2.1 118) q i.toNat c) ∧ a = mm_la9 (hs.2.1 86) (hs.2.1 117) q i.toNat ∧ mm_tp hs h 93 (hs.1 66 40) (hs.1 66 40 + i) (fun j => hs.2.1 117 (q (j - hs.1 66 40).toNat))
theorem mm_bt9_0 {hs : mH} {n : Int} (Z : ∀ k, 0 ≤ k → k < n → hs.2.1 119 (hs.2.1 117 k) = 0) : mm_bt9 hs hs n 0 (-1) := ⟨fun _ => 0, fun j hj => absurd hj (Nat.not_lt_zero j), fun k a b => ⟨fun _ l hl => absurd hl (Nat.not_lt_zero l), fun _ => Z k a b⟩, fun _ _ _ => rfl, rfl, mm_tp_0 (fun _ => rfl) (by omega)⟩
theorem mm_bt9_sm {hs h h' : mH} {n i a : Int} (B : mm_bt9 hs h n i a) (e9 : ∀ j, h'.2.1 119 j = h.2.1 119 j) (e8 : ∀ c, h'.2.1 118 c = h.2.1 118 c) (e3 : ∀ j, h'.2.1 93 j = h.2.1 93 j) : mm_bt9 hs h' n i a := by
  obtain ⟨q, t, r, l, la, w⟩ := B
  exact ⟨q, t, fun k a b => by rw [e9]; exact r k a b, fun c a b => by rw [e8]; exact l c a b, la, mm_tp_tr (fun _ => rfl) w e3⟩
def mm_ij9 (R : Int → Int) (n : Int) : Prop := ∀ a b, 0 ≤ a → a < n → 0 ≤ b → b < n → R a = R b → a = b
theorem mm_bt9_s {hs h h1 h2 h3 : mH} {n i a k c0 v : Int} (B : mm_bt9 hs h n i a) (e117 : ∀ j, h.2.1 117 j = hs.2.1 117 j) (e86 : ∀ j, h.2.1 86 j = hs.2.1 86 j) (J : mm_ij9 (hs.2.1 117) n) (hb : ∀ j, 0 ≤ hs.2.1 86 j ∧ hs.2.1 86 j ≤ 9) (hi : 0 ≤ i) (hk0 : 0 ≤ k) (hk1 : k < n) (N : mm_nxt h k a (n - i)) (F : ∀ j, 0 ≤ j → j < k → ¬ mm_nxt h j a (n - i)) (a1 : h1 = mm_pa h 119 (h.2.1 117 k) 1) (hc : c0 = h.2.1 86 (h.2.1 117 k)) (a2 : h2 = mm_pa h1 118 c0 v) (hv : v = h.2.1 118 c0 - 1) (ev : h.1 66 40 = hs.1 66 40 + i) (u : mm_up h2 h3 93 (h.1 66 40) (h.2.1 117 k) 1) (e9 : ∀ j, h3.2.1 119 j = h2.2.1 119 j) (e8 : ∀ j, h3.2.1 118 j = h2.2.1 118 j) : mm_bt9 hs h3 n (i + 1) c0 := by
  obtain ⟨q, t, r, l, la, w⟩ := B
  have z : ∀ k, 0 ≤ k → k < n → (mm_nxt h k a (n - i) ↔ mm_ok9 (hs.2.1 86) (hs.2.1 117) (hs.2.1 118) n q i.toNat k) := by
    intro k k0 k1
    rw [mm_nxt_rf (by rw [e86]; exact (hb _).1)]
    have rk := r k k0 k1
    unfold mm_ok9
    rw [e117, e86, la, Int.toNat_of_nonneg hi]
    constructor
    · intro ⟨x, y, z⟩
      exact ⟨rk.mp x, y, mm_rf_cg (fun d d0 d1 => (l d d0 d1).symm) z⟩
    · intro ⟨x, y, z⟩
      exact ⟨rk.mpr x, y, mm_rf_cg (fun d d0 d1 => l d d0 d1) z⟩
  have hF : mm_fs9 (mm_ok9 (hs.2.1 86) (hs.2.1 117) (hs.2.1 118) n q i.toNat) n k := ⟨hk0, hk1, (z k hk0 hk1).mp N, fun k' x y o => F k' x y ((z k' x (by omega)).mpr o)⟩
  have en : (i + 1).toNat = i.toNat + 1 := by omega
  have r9 : ∀ j, h3.2.1 119 j = if j = hs.2.1 117 k then 1 else h.2.1 119 j := fun j => by
    rw [e9, a2, mm_pa_o 119 118 (by decide), a1, e117]
    by_cases y : j = hs.2.1 117 k
    · rw [if_pos y, y, mm_pa_same]
    · rw [if_neg y, mm_pa_j 119 y]
  have r8 : ∀ j, h3.2.1 118 j = if j = c0 then h.2.1 118 j - 1 else h.2.1 118 j := fun j => by
    rw [e8, a2]
    by_cases y : j = c0
    · rw [if_pos y, y, mm_pa_same, hv]
    · rw [if_neg y, mm_pa_j 118 y, a1, mm_pa_o 118 119 (by decide)]
  have hq : ∀ l, l < i.toNat → (fun l => if l = i.toNat then k else q l) l = q l := fun l hl => if_neg (by omega)
  have hqk : (fun l => if l = i.toNat then k else q l) i.toNat = k := if_pos rfl
  have hl : ∀ l, l < i.toNat → (fun l => if l = i.toNat then k else q l) l = q l ∧ 0 ≤ q l ∧ q l < n := fun l y => ⟨hq l y, (t l y).1, (t l y).2.1⟩
  have hck : c0 = hs.2.1 86 (hs.2.1 117 k) := by rw [hc, e86, e117]
  refine ⟨fun l => if l = i.toNat then k else q l, by rw [en]; exact mm_tc9_s t hF, fun j j0 j1 => ?_, fun c d0 d1 => ?_, ?_, fun j => ?_⟩
  · rw [en, r9]
    have rj := r j j0 j1
    by_cases y : j = k
    · rw [if_pos (by rw [y])]
      exact ⟨fun z => absurd z (by decide), fun z => absurd y.symm (by have := z i.toNat (by omega); rw [hqk] at this; exact this)⟩
    · rw [if_neg (fun e => y (J j k j0 j1 hk0 hk1 e))]
      refine ⟨fun z l hl => ?_, fun z => rj.mpr (fun l hl => ?_)⟩
      · by_cases x : l = i.toNat
        · rw [x, hqk]; exact fun e => y e.symm
        · rw [hq l (by omega)]; exact rj.mp z l (by omega)
      · have := z l (by omega)
        rw [hq l hl] at this
        exact this
  · rw [en, r8]
    show _ = mm_dL (hs.2.1 86) (hs.2.1 117) (hs.2.1 118) (fun l => if l = i.toNat then k else q l) i.toNat c - (if c = hs.2.1 86 (hs.2.1 117 (if i.toNat = i.toNat then k else q i.toNat)) then 1 else 0)
    rw [mm_dL_cg (n := n) (q := q) (fun _ _ _ => rfl) (fun _ _ _ => rfl) i.toNat hl c d0 d1, if_pos rfl, ← hck, l c d0 d1]
    split
    · rfl
    · omega
  · rw [en]
    show _ = hs.2.1 86 (hs.2.1 117 (if i.toNat = i.toNat then k else q i.toNat))
    rw [if_pos rfl]; exact hck
  · have e0 : h2.2.1 93 j = h.2.1 93 j := by rw [a2, mm_pa_o 93 118 (by decide), a1, mm_pa_o 93 119 (by decide)]
    rw [u j, e0, w j, ev, e117]
    by_cases y : j = hs.1 66 40 + i
    · rw [if_pos ⟨y, rfl⟩, if_pos (by omega)]
      have ez : (j - hs.1 66 40).toNat = i.toNat := by omega
      show _ = hs.2.1 117 (if (j - hs.1 66 40).toNat = i.toNat then k else _)
      rw [if_pos ez]
    · rw [if_neg (fun x => y x.1)]
      by_cases x : hs.1 66 40 ≤ j ∧ j < hs.1 66 40 + i
      · rw [if_pos x, if_pos (by omega)]
        have ez : ¬ (j - hs.1 66 40).toNat = i.toNat := by omega
        show _ = hs.2.1 117 (if (j - hs.1 66 40).toNat = i.toNat then k else _)
        rw [if_neg ez]
      · rw [if_neg x, if_neg (by omega)]
/-! ===== how a draw ends ===== -/
def mm_cf9 (L : Int → Int) (n : Int) : Prop := ∀ c, 0 ≤ c → c < 10 → L c ≤ (if c = -1 then n / 2 else (n + 1) / 2)
def mm_Of (cl D L0 : Int → Int) (n : Int) (W : Int → Int) : Prop := ∃ q : Nat → Int, mm_tc9 cl D L0 n q n.toNat ∧ ∀ j, 0 ≤ j → j < n → W j = D (q j.toNat)
def mm_Os (cl D L0 : Int → Int) (n : Int) : Prop := ∃ (q : Nat → Int) (i : Nat), (i : Int) < n ∧ mm_tc9 cl D L0 n q i ∧ ∀ k, 0 ≤ k → k < n → ¬ mm_ok9 cl D L0 n q i k
def mm_Oc (Q : Int → Prop) (cl : Int → Int) (N : Nat) (nw ev g s f r : Int) (W : Int → Int) : Prop :=
  ((f < nw ∨ 99999 < f) ∧ r = -1) ∨ (nw ≤ f ∧ f ≤ 99999 ∧ ∃ (R : Int → Int) (n : Int), mm_gh Q R N n ∧ (((500 < ev + n ∨ 99999 < f + (n - 1) * g) ∧ r = -1) ∨ (ev + n ≤ 500 ∧ f + (n - 1) * g ≤ 99999 ∧ ((r = -1 ∧ mm_Os cl (mm_sh9 (n - 1).toNat s R) (mm_lk cl R n.toNat) n) ∨ (r = n ∧ mm_Of cl (mm_sh9 (n - 1).toNat s R) (mm_lk cl R n.toNat) n W)))))
def mm_Or (Q : Int → Prop) (cl : Int → Int) (N : Nat) (nw ev g s f r : Int) (W : Int → Int) : Prop :=
  ((f < nw ∨ 99999 < f) ∧ r = -1) ∨ (nw ≤ f ∧ f ≤ 99999 ∧ ∃ (R : Int → Int) (n : Int), mm_gh Q R N n ∧ (((500 < ev + n ∨ 99999 < f + (n - 1) * g ∨ ¬ mm_cf9 (mm_lk cl R n.toNat) n) ∧ r = -1) ∨ (ev + n ≤ 500 ∧ f + (n - 1) * g ≤ 99999 ∧ mm_cf9 (mm_lk cl R n.toNat) n ∧ r = n ∧ mm_Of cl (mm_sh9 (n - 1).toNat s R) (mm_lk cl R n.toNat) n W)))
theorem mm_O_eq {Q Q' : Int → Prop} {cl cl' W W' : Int → Int} {N : Nat} {nw ev g s f r r' : Int} (A : mm_Oc Q cl N nw ev g s f r W) (B : mm_Or Q' cl' N nw ev g s f r' W') (hN : N ≤ 40) (hQ : ∀ x, 0 ≤ x → x < (N : Int) → (Q x ↔ Q' x)) (hcl : ∀ x, 0 ≤ x → x < (N : Int) → cl' x = cl x) : r = r' ∧ ∀ j, 0 ≤ j → j < r → W j = W' j := by
  rcases A with ⟨a1, a2⟩ | ⟨a1, a2, R, n, a3, a4⟩
  · rcases B with ⟨_, b2⟩ | ⟨b1, b2, _⟩
    · exact ⟨a2.trans b2.symm, fun j x y => by omega⟩
    · omega
  rcases B with ⟨b1, _⟩ | ⟨b1, b2, R', n', b3, b4⟩
  · omega
  obtain ⟨en, eR⟩ := mm_gh_un N n n' a3 b3 hQ
  subst en
  have rg := mm_gh_rg N n a3
  have rL : ∀ c, mm_lk cl' R' n.toNat c = mm_lk cl R n.toNat c := fun c => mm_lk_cg n.toNat c (fun k x y => ⟨(eR k x (by omega)).symm, hcl _ (rg.2.2 k x (by omega)).1 (rg.2.2 k x (by omega)).2⟩)
  have eD : ∀ k, 0 ≤ k → k < n → mm_sh9 (n - 1).toNat s R' k = mm_sh9 (n - 1).toNat s R k := mm_sh9_cg (by omega) (n - 1).toNat s R R' (by omega) (fun k x y => (eR k x y).symm)
  obtain ⟨t, t1, t2, t3⟩ := mm_sh9_im (n := n) (by omega) (n - 1).toNat s R (by omega)
  have hc : ∀ k, 0 ≤ k → k < n → cl' (mm_sh9 (n - 1).toNat s R' k) = cl (mm_sh9 (n - 1).toNat s R k) := fun k x y => by
    rw [eD k x y, t1]
    have z := t2 k x y
    exact hcl _ (rg.2.2 _ z.1 z.2).1 (rg.2.2 _ z.1 z.2).2
  have hz : n = 0 → ∀ c, 0 ≤ c → c < 10 → mm_lk cl R n.toNat c ≤ 0 := fun w c _ _ => by rw [w]; exact Int.le_refl _
  rcases a4 with ⟨c1, c2⟩ | ⟨c1, c2, c3⟩
  · rcases b4 with ⟨_, d2⟩ | ⟨d1, d2, _⟩
    · exact ⟨c2.trans d2.symm, fun j x y => by omega⟩
    · omega
  rcases b4 with ⟨d1, d2⟩ | ⟨d1, d2, d3, d4, d5⟩
  · rcases c3 with ⟨e1, _⟩ | ⟨e1, q, e2, e3⟩
    · exact ⟨e1.trans d2.symm, fun j x y => by omega⟩
    · have z := mm_tc9_cf rg.1 e2 hz
      refine absurd (fun c x y => ?_) ((d1.resolve_left (by omega)).resolve_left (by omega))
      rw [rL]; exact z c x y
  · obtain ⟨q', f1, f2⟩ := d5
    rcases c3 with ⟨_, q, i, e2, e3, e4⟩ | ⟨e1, q, e2, e3⟩
    · exact (mm_tc9_st hc (fun c _ _ => rL c) e3 e4 f1 (by omega)).elim
    · refine ⟨e1.trans d4.symm, fun j x y => ?_⟩
      have z := mm_tc9_un hc (fun c _ _ => rL c) n.toNat e2 f1 j.toNat (by omega)
      rw [e3 j x (by omega), f2 j x (by omega), z.1, eD _ z.2.1 z.2.2]

/-! ===== teams, params and events, kept alike ===== -/
def mm_ah (h : mH) : Prop := ∀ j, 0 ≤ j → j ≤ h.1 22 8 - 1 → (h.2.1 27 j = -1 ↔ (h.2.1 88 j = -1 ∨ h.2.1 89 j ≤ 0))
theorem mm_ah_sm {h h2 : mH} (T : mm_ah h) (e : ∀ j, h2.2.1 27 j = h.2.1 27 j) (e' : ∀ j, h2.2.1 88 j = h.2.1 88 j) (e9 : ∀ j, h2.2.1 89 j = h.2.1 89 j) (n : h2.1 22 8 = h.1 22 8) : mm_ah h2 := fun j x y => by
  rw [e, e', e9]; exact T j x (by omega)
theorem mm_ah_nil {h : mH} (n : h.1 22 8 = 0) : mm_ah h := fun c x y => absurd (Int.le_trans x y) (by omega)
theorem mm_ah_runner {h h1 h2 : mH} {f f' n n' v : Int} (T : mm_ah h) (u : mm_up h h1 27 n (-1) f) (e : ∀ j, h2.2.1 27 j = h1.2.1 27 j) (w : mm_up h1 h2 88 n' (-1) f') (e' : ∀ j, h1.2.1 88 j = h.2.1 88 j) (w9 : mm_up h1 h2 89 n' v f') (e9 : ∀ j, h1.2.1 89 j = h.2.1 89 j) (hn : n = h.1 22 8) (hn' : n' = h.1 22 8) (hf : f = 1 ↔ f' = 1) (m : (f = 1 ∧ h2.1 22 8 = h.1 22 8 + 1) ∨ (f ≠ 1 ∧ h2.1 22 8 = h.1 22 8)) : mm_ah h2 := fun j x y => by
  rw [e, u j, w j, w9 j, e', e9, hn, hn']
  by_cases q : j = h.1 22 8 ∧ f = 1
  · rw [if_pos q, if_pos ⟨q.1, hf.mp q.2⟩]; exact ⟨fun _ => Or.inl rfl, fun _ => rfl⟩
  · rw [if_neg q, if_neg (fun z => q ⟨z.1, hf.mpr z.2⟩), if_neg (fun z => q ⟨z.1, hf.mpr z.2⟩)]
    exact T j x (by omega)
def mm_ua (h h2 : mH) (a b c f : Int) : Prop := ∀ j, h2.2.1 27 j = if f = 1 ∧ j = c then b else if f = 1 ∧ j = b then a else h.2.1 27 j
def mm_ub (h h2 : mH) (a b c f : Int) : Prop := ∀ j, h2.2.1 89 j = if f = 1 ∧ j = c then 2 else if f = 1 ∧ j = b then 1 else if f = 1 ∧ j = a then 0 else h.2.1 89 j
theorem mm_ua_no {h h2 : mH} {a b c f : Int} (hf : f ≠ 1) (e : ∀ j, h2.2.1 27 j = h.2.1 27 j) : mm_ua h h2 a b c f := fun j => by
  rw [if_neg (fun w => hf w.1), if_neg (fun w => hf w.1)]; exact e j
theorem mm_ub_no {h h2 : mH} {a b c f : Int} (hf : f ≠ 1) (e : ∀ j, h2.2.1 89 j = h.2.1 89 j) : mm_ub h h2 a b c f := fun j => by
  rw [if_neg (fun w => hf w.1), if_neg (fun w => hf w.1), if_neg (fun w => hf w.1)]; exact e j
theorem mm_ua_tr {h h1 h2 h3 : mH} {a b c f f' : Int} (e1 : ∀ j, h1.2.1 27 j = h.2.1 27 j) (u : mm_ua h1 h2 a b c f) (e3 : ∀ j, h3.2.1 27 j = h2.2.1 27 j) (hf : f = f') : mm_ua h h3 a b c f' := fun j => by
  rw [e3 j, u j, e1 j, hf]
theorem mm_ub_tr {h h1 h2 h3 : mH} {a b c f f' : Int} (e1 : ∀ j, h1.2.1 89 j = h.2.1 89 j) (u : mm_ub h1 h2 a b c f) (e3 : ∀ j, h3.2.1 89 j = h2.2.1 89 j) (hf : f = f') : mm_ub h h3 a b c f' := fun j => by
  rw [e3 j, u j, e1 j, hf]
theorem mm_ua_pa {h h1 h2 h3 h4 : mH} {a b c : Int} (e1 : ∀ j, h1.2.1 27 j = h.2.1 27 j) (a2 : h2 = mm_pa h1 27 b a) (a3 : h3 = mm_pa h2 27 c b) (e4 : ∀ j, h4.2.1 27 j = h3.2.1 27 j) : mm_ua h h4 a b c 1 := fun j => by
  rw [e4 j, a3]
  by_cases q : j = c
  · rw [if_pos ⟨rfl, q⟩, q, mm_pa_same]
  · rw [if_neg (fun w => q w.2), mm_pa_j 27 q, a2]
    by_cases w : j = b
    · rw [if_pos ⟨rfl, w⟩, w, mm_pa_same]
    · rw [if_neg (fun z => w z.2), mm_pa_j 27 w]; exact e1 j
/-- the loop that writes who is which in a team: m of them are done -/
def mm_tn9 (h h2 : mH) (a b c m : Int) : Prop := ∀ j, h2.2.1 89 j = if 2 < m ∧ j = c then 2 else if 1 < m ∧ j = b then 1 else if 0 < m ∧ j = a then 0 else h.2.1 89 j
theorem mm_tn9_0 {h h2 : mH} {a b c : Int} (e : ∀ j, h2.2.1 89 j = h.2.1 89 j) : mm_tn9 h h2 a b c 0 := fun j => by
  rw [if_neg (fun w => absurd w.1 (by decide)), if_neg (fun w => absurd w.1 (by decide)), if_neg (fun w => absurd w.1 (by decide))]; exact e j
theorem mm_tn9_3 {h h2 : mH} {a b c m : Int} (w : mm_tn9 h h2 a b c m) (hm : m = 3) : mm_ub h h2 a b c 1 := fun j => by
  rw [w j, hm]; simp
theorem mm_tn9_s {h h1 h2 h3 : mH} {a b c m v m' : Int} (w : mm_tn9 h h1 a b c m) (e : h2 = mm_pa h1 89 v m') (em : m' = m) (e3 : ∀ j, h3.2.1 89 j = h2.2.1 89 j) (hv : (m = 0 ∧ v = a) ∨ (m = 1 ∧ v = b) ∨ (m = 2 ∧ v = c)) : mm_tn9 h h3 a b c (m + 1) := fun j => by
  rw [e3 j, e, em]
  show (if 89 = 89 ∧ j = v then m else h1.2.1 89 j) = _
  rw [w j]
  rcases hv with ⟨q1, q2⟩ | ⟨q1, q2⟩ | ⟨q1, q2⟩ <;> subst q1 <;> rw [q2] <;> by_cases z1 : j = a <;> by_cases z2 : j = b <;> by_cases z3 : j = c <;> simp_all
theorem mm_ah_team {h h1 h2 : mH} {a b c t f f' : Int} (T : mm_ah h) (u : mm_ua h h1 a b c f) (e : ∀ j, h2.2.1 27 j = h1.2.1 27 j) (w : mm_u3 h1 h2 88 a b c t f') (e8 : ∀ j, h1.2.1 88 j = h.2.1 88 j) (w9 : mm_ub h1 h2 a b c f') (e9 : ∀ j, h1.2.1 89 j = h.2.1 89 j) (hf : f = 1 ↔ f' = 1) (ht : 0 ≤ t) (g : f = 1 → a ≠ b ∧ b ≠ c ∧ a ≠ c ∧ 0 ≤ a ∧ a < h.1 22 8 ∧ 0 ≤ b ∧ h.2.1 88 a = -1) (m : h2.1 22 8 = h.1 22 8) : mm_ah h2 := fun j x y => by
  rw [e, u j, w j, w9 j, e8, e9]
  by_cases q : f = 1
  · obtain ⟨g1, g2, g3, g4, g5, g6, g7⟩ := g q
    have q' := hf.mp q
    by_cases z1 : j = c
    · rw [if_pos ⟨q, z1⟩, if_pos ⟨Or.inr (Or.inr z1), q'⟩, if_pos ⟨q', z1⟩]; omega
    · rw [if_neg (fun z => z1 z.2), if_neg (fun (z : f' = 1 ∧ j = c) => z1 z.2)]
      by_cases z2 : j = b
      · rw [if_pos ⟨q, z2⟩, if_pos ⟨Or.inr (Or.inl z2), q'⟩, if_pos ⟨q', z2⟩]; omega
      · rw [if_neg (fun z => z2 z.2), if_neg (fun (z : f' = 1 ∧ j = b) => z2 z.2)]
        by_cases z3 : j = a
        · rw [if_pos ⟨Or.inl z3, q'⟩, if_pos ⟨q', z3⟩]
          have := (T a g4 (by omega)).mpr (Or.inl g7)
          rw [z3]; omega
        · rw [if_neg (fun z => z.1.elim z3 (fun z => z.elim z2 z1)), if_neg (fun z => z3 z.2)]
          exact T j x (by omega)
  · have q' : f' ≠ 1 := fun z => q (hf.mpr z)
    rw [if_neg (fun z => q z.1), if_neg (fun z => q z.1), if_neg (fun z => q' z.2), if_neg (fun z => q' z.1), if_neg (fun z => q' z.1), if_neg (fun z => q' z.1)]
    exact T j x (by omega)
/-! params -/
def mm_pw9 (h : mH) : Prop := ∀ w, 0 ≤ w → w ≤ 2 → h.2.1 44 w = mm_pr h w ∧ 0 ≤ h.2.1 44 w ∧ h.2.1 44 w ≤ 99999
theorem mm_pw9_sm {h h2 : mH} (P : mm_pw9 h) (e : ∀ j, h2.2.1 44 j = h.2.1 44 j) (e2 : ∀ j, h2.2.1 102 j = h.2.1 102 j) (e7 : h2.1 66 67 = h.1 66 67) (e8 : h2.1 66 68 = h.1 66 68) : mm_pw9 h2 := fun w a b => by
  rw [e, mm_pr_sm e2 e7 e8]; exact P w a b
theorem mm_pw9_nil {h : mH} (d0 : h.2.1 44 0 = 3600) (d1 : h.2.1 44 1 = 60) (d2 : h.2.1 44 2 = 900) (e7 : h.1 66 67 = 0) : mm_pw9 h := fun w a b => by
  have e : mm_pr h w = mm_P0 w := if_pos e7
  rw [e]
  by_cases q0 : w = 0
  · rw [q0, d0]; exact ⟨by decide, by decide, by decide⟩
  · by_cases q1 : w = 1
    · rw [q1, d1]; exact ⟨by decide, by decide, by decide⟩
    · have q2 : w = 2 := by omega
      rw [q2, d2]; exact ⟨by decide, by decide, by decide⟩
def mm_Pb (g : mm_G9) : Prop := ∀ w, 0 ≤ g.2.2.2.2.2.2 w ∧ g.2.2.2.2.2.2 w ≤ 99999
theorem mm_stp_b {c N V : Int → Int} (hV : ∀ p, c p = 18 → 0 ≤ V p ∧ V p ≤ 99999) (g : mm_G9) (h : mm_Pb g) : mm_Pb (mm_stp c N V g) := by
  have hz : ∀ (k q : Int), mm_Pb (mm_flt g k q) := fun k q w => ⟨by show (0 : Int) ≤ 0; decide, by show (0 : Int) ≤ 99999; decide⟩
  have ho : mm_Pb (mm_opn c N g) := by
    unfold mm_opn
    (repeat' split) <;> first | exact h | exact hz _ _
  have ha : ∀ l, mm_Pb (mm_aft c N g l) := fun l => by
    cases l with
    | nil => exact h
    | cons b s =>
      unfold mm_aft
      (repeat' split) <;> first | exact h | exact hz _ _
  unfold mm_stp
  split
  · split
    · split
      · exact hz _ _
      · exact h
    · exact ho
  split
  · exact ho
  split
  · exact ha _
  split
  · split <;> exact h
  split
  · (repeat' split) <;> first | exact h | exact hz _ _
  split
  · (repeat' split) <;> first | exact h | exact hz _ _
  split
  · split
    · rename_i q
      intro w
      show 0 ≤ (if w = g.2.2.2.1 then V g.2.2.1 else g.2.2.2.2.2.2 w) ∧ (if w = g.2.2.2.1 then V g.2.2.1 else g.2.2.2.2.2.2 w) ≤ 99999
      split
      · exact hV _ q
      · exact h w
    · split <;> exact hz _ _
  split
  · split
    · exact h
    · exact hz _ _
  · exact h
theorem mm_itr_b {c N V : Int → Int} (hV : ∀ p, c p = 18 → 0 ≤ V p ∧ V p ≤ 99999) : ∀ (n : Nat) (g : mm_G9), mm_Pb g → mm_Pb (mm_itr (mm_stp c N V) n g)
  | 0, _, h => h
  | n + 1, g, h => mm_itr_b hV n _ (mm_stp_b hV g h)
theorem mm_nv_b {U : Int → Int} {a : Int} : ∀ l : Nat, (∀ j, a ≤ j → j < a + l → 48 ≤ U j ∧ U j ≤ 57) → 0 ≤ mm_nv U a l ∧ mm_nv U a l + 1 ≤ 10 ^ l
  | 0, _ => ⟨Int.le_refl _, by show (0 : Int) + 1 ≤ 10 ^ 0; decide⟩
  | l + 1, h => by
    have z := mm_nv_b l (fun j x y => h j x (by omega))
    have y := h (a + l) (by omega) (by omega)
    unfold mm_nv
    rw [Int.pow_succ]
    omega
theorem mm_tv_b {U : Int → Int} {n p : Int} (h : mm_tc U n p = 18) : 0 ≤ mm_tv U n p ∧ mm_tv U n p ≤ 99999 := by
  have f := mm_tc_f U n p
  have f3 : mm_tkk U n p = 3 ∧ mm_te U n p - p ≤ 5 := by
    rcases f with q | q | q | q | q | q | q <;> omega
  have hlt : p < n := by
    have := mm_te_f U n p
    omega
  have k3 : mm_kd (U p) = 3 := by
    have := f3.1
    unfold mm_tkk at this
    rw [if_pos hlt] at this
    exact this
  have te : mm_te U n p = mm_runw U n 3 (p + 1) := by
    unfold mm_te
    rw [if_pos hlt, if_pos (Or.inr k3), k3]
  have rw9 := mm_runw_rg U n 3 (p + 1)
  have dg : ∀ j, p ≤ j → j < mm_te U n p → 48 ≤ U j ∧ U j ≤ 57 := fun j x y => by
    have kj : mm_kd (U j) = 3 := by
      by_cases q : j = p
      · rw [q]; exact k3
      · exact rw9.2.2 j (by omega) (by rw [← te]; exact y)
    have := mm_kd_f (U j)
    omega
  have b := mm_nv_b (U := U) (a := p) (mm_te U n p - p).toNat (fun j x y => dg j x (by omega))
  have l5 : (mm_te U n p - p).toNat ≤ 5 := by omega
  have p5 : (10 : Int) ^ (mm_te U n p - p).toNat ≤ 10 ^ 5 := by
    match (mm_te U n p - p).toNat, l5 with
    | 0, _ => decide
    | 1, _ => decide
    | 2, _ => decide
    | 3, _ => decide
    | 4, _ => decide
    | 5, _ => decide
    | l + 6, q => exact absurd q (by omega)
  unfold mm_tv
  have e5 : (10 : Int) ^ 5 = 100000 := by decide
  omega
theorem mm_RDo_b {T : Int → Int} {n : Int} {P : Int → Int} (R : mm_RDo T n P) (w : Int) : 0 ≤ P w ∧ P w ≤ 99999 := by
  obtain ⟨a, i, m, e⟩ := R
  have h0 : mm_Pb (mm_A0 T n) := fun w => by
    show 0 ≤ mm_P0 w ∧ mm_P0 w ≤ 99999
    unfold mm_P0
    (repeat' split) <;> exact ⟨by decide, by decide⟩
  have z := mm_itr_b (c := mm_tc (mm_tr T n) n) (N := mm_tn (mm_tr T n) n) (V := mm_tv (mm_tr T n) n) (fun p q => mm_tv_b q) m _ h0
  have e' : mm_itr (mm_stp (mm_tc (mm_tr T n) n) (mm_tn (mm_tr T n) n) (mm_tv (mm_tr T n) n)) m (mm_A0 T n) = ⟨20, [], a, 0, i, 0, P⟩ := e
  rw [e'] at z
  exact z w
theorem mm_pw9_rules {h hc hy h2 : mH} {n k f : Int} (P : mm_pw9 h) (X : mm_RC h hc n k f) (z : (∀ w, 0 ≤ w → w ≤ 2 → hc.2.1 44 w = mm_pr h2 w) ∨ ((∀ w, hc.2.1 44 w = h.2.1 44 w) ∧ ∀ w, 0 ≤ w → w ≤ 2 → mm_pr h2 w = mm_pr hy w)) (e44 : ∀ j, h2.2.1 44 j = hc.2.1 44 j) (y2 : ∀ j, hy.2.1 102 j = h.2.1 102 j) (y7 : hy.1 66 67 = h.1 66 67) (y8 : hy.1 66 68 = h.1 66 68) : mm_pw9 h2 := fun w a b => by
  have p := P w a b
  rw [e44]
  refine ⟨?_, ?_⟩
  · rcases z with z | ⟨z1, z2⟩
    · exact z w a b
    · rw [z1, z2 w a b, mm_pr_sm y2 y7 y8]; exact p.1
  · rcases X with ⟨_, _, Q, x3, x4⟩ | ⟨_, _, x3⟩
    · rw [x4 w a b]; exact mm_RDo_b x3 w
    · rw [x3]; exact p.2
theorem mm_pw9_keep {h h2 : mH} (P : mm_pw9 h) (e : ∀ w, h2.2.1 44 w = h.2.1 44 w) (r : ∀ w, 0 ≤ w → w ≤ 2 → mm_pr h2 w = mm_pr h w) : mm_pw9 h2 := fun w a b => by
  rw [e, r w a b]; exact P w a b
/-! rows of events -/
theorem mm_tp_u {h h1 h2 : mH} {o : Nat} {t n n' c v : Int} {F : Int → Int} (w : mm_tp h h1 o t n F) (u : mm_up h1 h2 o c v 1) (hc : c = n) (ht : t ≤ n) (hv : v = F n) (hn : n' = n + 1) : mm_tp h h2 o t n' F := fun j => by
  rw [u j, w j, hc]
  by_cases q : j = n
  · rw [if_pos ⟨q, rfl⟩, if_pos (by omega), q]; exact hv
  · rw [if_neg (fun z => q z.1)]
    by_cases z : t ≤ j ∧ j < n
    · rw [if_pos z, if_pos (by omega)]
    · rw [if_neg z, if_neg (by omega)]
theorem mm_tp_cg {h h2 : mH} {o : Nat} {t n : Int} {F G : Int → Int} (w : mm_tp h h2 o t n F) (e : ∀ j, t ≤ j → j < n → G j = F j) : mm_tp h h2 o t n G := fun j => by
  rw [w j]
  by_cases z : t ≤ j ∧ j < n
  · rw [if_pos z, if_pos z, e j z.1 z.2]
  · rw [if_neg z, if_neg z]
theorem mm_eq_tp2 {h h1 h2 : mH} {a b : Nat} {m m' t n t2 n2 : Int} {F G : Int → Int} (E : mm_eq h a b m) (u : mm_tp h h1 a t n F) (e1 : ∀ j, h1.2.1 b j = h.2.1 b j) (w : mm_tp h1 h2 b t2 n2 G) (e2 : ∀ j, h2.2.1 a j = h1.2.1 a j) (ht2 : t2 = t) (hn : n2 = n) (hFG : ∀ j, t ≤ j → j < n → F j = G j) (ht : t = m + 1) (hm : m' ≤ n - 1 ∨ m' ≤ m) : mm_eq h2 a b m' := fun j x y => by
  subst ht2 hn
  rw [e2 j, u j, w j, e1 j]
  by_cases z : t2 ≤ j ∧ j < n2
  · rw [if_pos z, if_pos z]; exact hFG j z.1 z.2
  · rw [if_neg z, if_neg z]; exact E j x (by omega)
/-! the draw, on both sides -/
def mm_dx9 (h h2 : mH) (c s f r : Int) : Prop := ∃ W : Int → Int, mm_Oc (mm_Q1 h c (h.1 0 13)) (h.2.1 24) (h.1 22 8).toNat (h.1 0 13) (h.1 30 6) (h.2.1 44 1) s f r W ∧ mm_tp h h2 31 (h.1 30 6) (h.1 30 6 + r) (fun _ => 0) ∧ mm_tp h h2 32 (h.1 30 6) (h.1 30 6 + r) (fun j => W (j - h.1 30 6)) ∧ mm_tp h h2 35 (h.1 30 6) (h.1 30 6 + r) (fun _ => h.1 0 13) ∧ mm_tp h h2 36 (h.1 30 6) (h.1 30 6 + r) (fun _ => -1)
def mm_dy9 (h h2 : mH) (c s f r : Int) : Prop := ∃ W : Int → Int, mm_Or (mm_Q2 h c (h.1 66 41)) (h.2.1 86) (h.1 66 23).toNat (h.1 66 41) (h.1 66 40) (mm_pr h 1) s f r W ∧ mm_tp h h2 92 (h.1 66 40) (h.1 66 40 + r) (fun _ => 0) ∧ mm_tp h h2 93 (h.1 66 40) (h.1 66 40 + r) (fun j => W (j - h.1 66 40)) ∧ mm_tp h h2 96 (h.1 66 40) (h.1 66 40 + r) (fun _ => h.1 66 41) ∧ mm_tp h h2 97 (h.1 66 40) (h.1 66 40 + r) (fun _ => -1)
theorem mm_Q12 {h h1 : mH} {c x : Int} (a : mm_eq h 31 92 (h.1 30 6 - 1)) (b : mm_eq h 32 93 (h.1 30 6 - 1)) (d : mm_eq h 35 96 (h.1 30 6 - 1)) (g : mm_eq h 36 97 (h.1 30 6 - 1)) (e1 : mm_k2 h1 = mm_k2 h) (hk : h1.1 66 41 = h.1 0 13) (hev : h1.1 66 40 = h.1 30 6) (e23 : mm_eq h 23 85 (h.1 22 8 - 1)) (T : mm_ah h) (y85 : ∀ j, h1.2.1 85 j = h.2.1 85 j) (y88 : ∀ j, h1.2.1 88 j = h.2.1 88 j) (y89 : ∀ j, h1.2.1 89 j = h.2.1 89 j) (x0 : 0 ≤ x) (x1 : x < h.1 22 8) : mm_Q1 h c (h.1 0 13) x ↔ mm_Q2 h1 c (h1.1 66 41) x := by
  unfold mm_Q1 mm_Q2
  rw [y85, y88, y89, hev, ← e23 x x0 (by omega), T x x0 (by omega)]
  constructor
  · intro ⟨p, q, r⟩
    exact ⟨p, q, fun e e0 e9 z => r e e0 e9 ((mm_kk a b d g e1 hk e0 e9).mpr z)⟩
  · intro ⟨p, q, r⟩
    exact ⟨p, q, fun e e0 e9 z => r e e0 e9 ((mm_kk a b d g e1 hk e0 e9).mp z)⟩
theorem mm_draw_eq {h hc h1 h2 : mH} {c s f r r' : Int} (X : mm_dx9 h hc c s f r) (Y : mm_dy9 h1 h2 c s f r') (a : mm_eq h 31 92 (h.1 30 6 - 1)) (b : mm_eq h 32 93 (h.1 30 6 - 1)) (d : mm_eq h 35 96 (h.1 30 6 - 1)) (g : mm_eq h 36 97 (h.1 30 6 - 1)) (e1 : mm_k2 h1 = mm_k2 h) (hk : h1.1 66 41 = h.1 0 13) (hev : h1.1 66 40 = h.1 30 6) (e23 : mm_eq h 23 85 (h.1 22 8 - 1)) (e24 : mm_eq h 24 86 (h.1 22 8 - 1)) (T : mm_ah h) (y85 : ∀ j, h1.2.1 85 j = h.2.1 85 j) (y86 : ∀ j, h1.2.1 86 j = h.2.1 86 j) (y88 : ∀ j, h1.2.1 88 j = h.2.1 88 j) (y89 : ∀ j, h1.2.1 89 j = h.2.1 89 j) (hn : h1.1 66 23 = h.1 22 8) (hn4 : 0 ≤ h.1 22 8 ∧ h.1 22 8 ≤ 40) (pr : mm_pr h1 1 = h.2.1 44 1) : r = r' ∧ ∃ F G : Int → Int, (∀ j, h.1 30 6 ≤ j → j < h.1 30 6 + r → F j = G j) ∧ (mm_tp h hc 31 (h.1 30 6) (h.1 30 6 + r) (fun _ => 0) ∧ mm_tp h hc 32 (h.1 30 6) (h.1 30 6 + r) F ∧ mm_tp h hc 35 (h.1 30 6) (h.1 30 6 + r) (fun _ => h.1 0 13) ∧ mm_tp h hc 36 (h.1 30 6) (h.1 30 6 + r) (fun _ => -1)) ∧ (mm_tp h1 h2 92 (h.1 30 6) (h.1 30 6 + r) (fun _ => 0) ∧ mm_tp h1 h2 93 (h.1 30 6) (h.1 30 6 + r) G ∧ mm_tp h1 h2 96 (h.1 30 6) (h.1 30 6 + r) (fun _ => h.1 0 13) ∧ mm_tp h1 h2 97 (h.1 30 6) (h.1 30 6 + r) (fun _ => -1)) := by
  obtain ⟨W, x1, x2, x3, x4, x5⟩ := X
  obtain ⟨V, y1, y2, y3, y4, y5⟩ := Y
  have y1' : mm_Or (mm_Q2 h1 c (h1.1 66 41)) (h1.2.1 86) (h.1 22 8).toNat (h.1 0 13) (h.1 30 6) (h.2.1 44 1) s f r' V := by
    rw [← pr, ← hk, ← hev, ← hn]; exact y1
  have z := mm_O_eq x1 y1' (by omega) (fun x a0 a1 => mm_Q12 a b d g e1 hk hev e23 T y85 y88 y89 a0 (by omega)) (fun x a0 a1 => by rw [y86]; exact (e24 x a0 (by omega)).symm)
  obtain ⟨z1, z2⟩ := z
  subst z1
  rw [hev] at y2 y3 y4 y5
  rw [hk] at y4
  exact ⟨rfl, _, _, fun j a0 a1 => z2 (j - h.1 30 6) (by omega) (by omega), ⟨x2, x3, x4, x5⟩, ⟨y2, y3, y4, y5⟩⟩
theorem mm_tn9_tr {h h1 h2 : mH} {a b c m : Int} (w : mm_tn9 h h1 a b c m) (e : ∀ j, h2.2.1 89 j = h1.2.1 89 j) : mm_tn9 h h2 a b c m := fun j => by rw [e]; exact w j
theorem mm_gt_1 {h : mH} {a b c : Int} (e : mm_gt h a b c = 1) : a ≠ b ∧ b ≠ c ∧ a ≠ c ∧ h.2.1 28 a = 0 := by
  unfold mm_gt at e
  split at e
  · rename_i q; exact ⟨q.1, q.2.1, q.2.2.1, q.2.2.2.1⟩
  · exact absurd e (by decide)
def mm_ct9 (h : mH) (k : Int) : Int := if k = 0 then h.1 0 13 else if k = 1 then h.1 14 7 else if k = 2 then h.1 14 8 else if k = 3 then h.1 22 8 else if k = 4 then h.1 22 9 else if k = 5 then h.1 30 6 else if k = 6 then h.1 30 12 else if k = 7 then h.1 0 12 else if k = 8 then h.2.1 44 0 else if k = 9 then h.2.1 44 1 else h.2.1 44 2
def mm_cu9 (h : mH) (k : Int) : Int := if k = 0 then h.1 66 41 else if k = 1 then h.1 66 21 else if k = 2 then h.1 66 22 else if k = 3 then h.1 66 23 else if k = 4 then h.1 66 24 else if k = 5 then h.1 66 40 else if k = 6 then h.1 66 82 else if k = 7 then h.1 66 56 else mm_pr h (k - 8)
theorem mm_ct_eq {h h1 : mH} {k : Int} (e0 : h.1 0 13 = h1.1 66 41) (e1 : h.1 14 7 = h1.1 66 21) (e2 : h.1 14 8 = h1.1 66 22) (e3 : h.1 22 8 = h1.1 66 23) (e4 : h.1 22 9 = h1.1 66 24) (e5 : h.1 30 6 = h1.1 66 40) (e6 : h.1 30 12 = h1.1 66 82) (e7 : h.1 0 12 = h1.1 66 56) (P : mm_pw9 h) (p : ∀ w, mm_pr h1 w = mm_pr h w) (k0 : 0 ≤ k) (k1 : k ≤ 10) : mm_ct9 h k = mm_cu9 h1 k := by
  unfold mm_ct9 mm_cu9
  rw [e0, e1, e2, e3, e4, e5, e6, e7, p]
  by_cases q8 : k = 8
  · rw [q8]; exact (P 0 (by decide) (by decide)).1
  · by_cases q9 : k = 9
    · rw [q9]; exact (P 1 (by decide) (by decide)).1
    · by_cases q10 : k = 10
      · rw [q10]; exact (P 2 (by decide) (by decide)).1
      · (repeat' split) <;> first | rfl | omega
/-- the seconds of the last start: the machine's own numbers -/
theorem mm_l64 {z : Int} (h : -9223372036854775808 ≤ z ∧ z < 9223372036854775808) : (Int64.ofInt z).toInt = z := mm_t64 z h
theorem mm_ladd_id {u v : Int} (hu : -1000000000 ≤ u ∧ u ≤ 1000000000) (hv : -1000000000 ≤ v ∧ v ≤ 1000000000) : mm_vladd u v = u + v := by
  unfold mm_vladd
  rw [Int64.toInt_add, mm_l64 ⟨by omega, by omega⟩, mm_l64 ⟨by omega, by omega⟩]
  exact fb_bm64 ⟨by omega, by omega⟩
theorem mm_lsub_id {u v : Int} (hu : -1000000000 ≤ u ∧ u ≤ 1000000000) (hv : -1000000000 ≤ v ∧ v ≤ 1000000000) : mm_vlsub u v = u - v := by
  unfold mm_vlsub
  rw [Int64.toInt_sub, mm_l64 ⟨by omega, by omega⟩, mm_l64 ⟨by omega, by omega⟩]
  exact fb_bm64 ⟨by omega, by omega⟩
theorem mm_mulb {n g : Int} (hn : 0 ≤ n ∧ n ≤ 40) (hg : 0 ≤ g ∧ g ≤ 99999) : -99999 ≤ (n - 1) * g ∧ (n - 1) * g ≤ 3899961 := by
  have a : 0 ≤ n * g := Int.mul_nonneg hn.1 hg.1
  have b : n * g ≤ 40 * g := Int.mul_le_mul_of_nonneg_right hn.2 hg.1
  have e : (n - 1) * g = n * g - g := by rw [Int.sub_mul, Int.one_mul]
  omega
theorem mm_lmul_id {u v : Int} (hu : -1000000000 ≤ u ∧ u ≤ 1000000000) (hv : -1000000000 ≤ v ∧ v ≤ 1000000000) (hw : -1000000000 ≤ u * v ∧ u * v ≤ 1000000000) : mm_vlmul u v = u * v := by
  unfold mm_vlmul
  rw [Int64.toInt_mul, mm_l64 ⟨by omega, by omega⟩, mm_l64 ⟨by omega, by omega⟩]
  exact fb_bm64 ⟨by omega, by omega⟩

/-! ===== steps of gathering, over the heap ===== -/
theorem mm_ga_y {h h3 h4 h5 : mH} {Q : Int → Prop} {cl : Int → Int} {i : Int} (G : mm_gh Q (h.2.1 55) i.toNat (h.1 54 5)) (L : ∀ c, 0 ≤ c → c < 10 → h.2.1 57 c = mm_lk cl (h.2.1 55) (h.1 54 5).toNat c) (hi : 0 ≤ i ∧ i ≤ 40) (q : Q i) (e24 : h.2.1 24 i = cl i) (a3 : h3 = mm_pa h 55 (h.1 54 5) i) (a4 : h4 = mm_pf h3 54 5 (h3.1 54 5 + 1)) (a5 : h5 = mm_pa h4 57 (h4.2.1 24 i) (mm_w (h4.2.1 57 (h4.2.1 24 i) + 1))) (hc : 0 ≤ h4.2.1 24 i ∧ h4.2.1 24 i ≤ 9) : mm_gh Q (h5.2.1 55) (i + 1).toNat (h5.1 54 5) ∧ ∀ c, 0 ≤ c → c < 10 → h5.2.1 57 c = mm_lk cl (h5.2.1 55) (h5.1 54 5).toNat c := by
  have g := mm_gh_rg _ _ G
  have e5 : h5.1 54 5 = h.1 54 5 + 1 := by
    rw [a5]
    show h4.1 54 5 = _
    rw [a4]
    refine (mm_pf_same _ _ _ _).trans ?_
    rw [a3]
    rfl
  have r5 : ∀ k, h5.2.1 55 k = if k = h.1 54 5 then i else h.2.1 55 k := fun k => by
    rw [a5, mm_pa_o 55 57 (by decide), a4, a3]
    show (mm_pa h 55 (h.1 54 5) i).2.1 55 k = _
    by_cases y : k = h.1 54 5
    · rw [if_pos y, y, mm_pa_same]
    · rw [if_neg y, mm_pa_j 55 y]
  have e4 : ∀ o, o ≠ 55 → ∀ j, h4.2.1 o j = h.2.1 o j := fun o ho j => by
    rw [a4, a3]
    exact mm_pa_o o 55 ho j
  rw [e5]
  refine ⟨mm_gh_y G hi.1 q r5, fun c c0 c1 => ?_⟩
  rw [mm_lk_y (R := h.2.1 55) (r := i) g.1 r5, ← L c c0 c1, a5]
  have eC : h4.2.1 24 i = cl i := (e4 24 (by decide) i).trans e24
  by_cases y : c = cl i
  · rw [if_pos y, y, ← eC, mm_pa_same, e4 57 (by decide)]
    have b := mm_lk_rg cl (h.2.1 55) (h.1 54 5).toNat (h4.2.1 24 i)
    have l := L (h4.2.1 24 i) hc.1 (by omega)
    exact mm_w_id ⟨by omega, by omega⟩
  · rw [if_neg y, eC, mm_pa_j 57 y, e4 57 (by decide)]
theorem mm_gb_y {h h1 h2 h3 : mH} {Q : Int → Prop} {cl : Int → Int} {i n n' : Int} (G : mm_gh Q (h.2.1 117) i.toNat n) (L : ∀ c, 0 ≤ c → c < 10 → h.2.1 118 c = mm_lk cl (h.2.1 117) n.toNat c) (Z : ∀ r, 0 ≤ r → r < i → h.2.1 119 r = 0) (hi : 0 ≤ i ∧ i ≤ 40) (q : Q i) (e86 : h.2.1 86 i = cl i) (hc : 0 ≤ cl i ∧ cl i ≤ 9) (a1 : h1 = mm_pa h 119 i 0) (a2 : h2 = mm_pa h1 117 n i) (a3 : h3 = mm_pa h2 118 (h2.2.1 86 i) (mm_w (h2.2.1 118 (h2.2.1 86 i) + 1))) (hn : n' = n + 1) : mm_gh Q (h3.2.1 117) (i + 1).toNat n' ∧ (∀ c, 0 ≤ c → c < 10 → h3.2.1 118 c = mm_lk cl (h3.2.1 117) n'.toNat c) ∧ ∀ r, 0 ≤ r → r < i + 1 → h3.2.1 119 r = 0 := by
  subst hn
  have g := mm_gh_rg _ _ G
  have r5 : ∀ k, h3.2.1 117 k = if k = n then i else h.2.1 117 k := fun k => by
    rw [a3, mm_pa_o 117 118 (by decide), a2]
    by_cases y : k = n
    · rw [if_pos y, y, mm_pa_same]
    · rw [if_neg y, mm_pa_j 117 y, a1, mm_pa_o 117 119 (by decide)]
  have e4 : ∀ o, o ≠ 117 → o ≠ 119 → ∀ j, h2.2.1 o j = h.2.1 o j := fun o ho hp j => by
    rw [a2, mm_pa_o o 117 ho, a1, mm_pa_o o 119 hp]
  refine ⟨mm_gh_y G hi.1 q r5, fun c c0 c1 => ?_, fun r r0 r1 => ?_⟩
  · rw [mm_lk_y (R := h.2.1 117) (r := i) g.1 r5, ← L c c0 c1, a3]
    have eC : h2.2.1 86 i = cl i := (e4 86 (by decide) (by decide) i).trans e86
    by_cases y : c = cl i
    · rw [if_pos y, y, ← eC, mm_pa_same, e4 118 (by decide) (by decide)]
      have b := mm_lk_rg cl (h.2.1 117) n.toNat (h2.2.1 86 i)
      have l := L (h2.2.1 86 i) (by omega) (by omega)
      exact mm_w_id ⟨by omega, by omega⟩
    · rw [if_neg y, eC, mm_pa_j 118 y, e4 118 (by decide) (by decide)]
  · rw [a3, mm_pa_o 119 118 (by decide), a2, mm_pa_o 119 117 (by decide), a1]
    by_cases y : r = i
    · rw [y, mm_pa_same]
    · rw [mm_pa_j 119 y]; exact Z r r0 (by omega)
theorem mm_gb_n {h h1 : mH} {Q : Int → Prop} {cl : Int → Int} {i n : Int} (G : mm_gh Q (h.2.1 117) i.toNat n) (L : ∀ c, 0 ≤ c → c < 10 → h.2.1 118 c = mm_lk cl (h.2.1 117) n.toNat c) (Z : ∀ r, 0 ≤ r → r < i → h.2.1 119 r = 0) (hi : 0 ≤ i) (q : ¬ Q i) (a1 : h1 = mm_pa h 119 i 0) : mm_gh Q (h1.2.1 117) (i + 1).toNat n ∧ (∀ c, 0 ≤ c → c < 10 → h1.2.1 118 c = mm_lk cl (h1.2.1 117) n.toNat c) ∧ ∀ r, 0 ≤ r → r < i + 1 → h1.2.1 119 r = 0 := by
  have e7 : h1.2.1 117 = h.2.1 117 := by rw [a1]; exact funext (mm_pa_o 117 119 (by decide))
  rw [e7]
  refine ⟨mm_gh_n G hi q (fun _ => rfl), fun c c0 c1 => by rw [a1, mm_pa_o 118 119 (by decide)]; exact L c c0 c1, fun r r0 r1 => ?_⟩
  rw [a1]
  by_cases y : r = i
  · rw [y, mm_pa_same]
  · rw [mm_pa_j 119 y]; exact Z r r0 (by omega)
/-- what the shuffle leaves: still others, still below n -/
theorem mm_sh9_ij {Q : Int → Prop} {R D : Int → Int} {N : Nat} {n s : Int} (G : mm_gh Q R N n) (hN : N ≤ 40) (e : D = mm_sh9 (n - 1).toNat s R) : mm_ij9 D n ∧ ∀ k, 0 ≤ k → k < n → 0 ≤ D k ∧ D k < N := by
  have g := mm_gh_rg _ _ G
  obtain ⟨t, t1, t2, t3⟩ := mm_sh9_im (n := n) (by omega) (n - 1).toNat s R (by omega)
  subst e
  refine ⟨fun a b a0 a1 b0 b1 z => ?_, fun k k0 k1 => ?_⟩
  · rw [t1, t1] at z
    have ta := t2 a a0 a1
    have tb := t2 b b0 b1
    exact t3 a b (mm_gh_inj _ _ G _ _ ta.1 ta.2 tb.1 tb.2 z)
  · rw [t1]
    have tk := t2 k k0 k1
    exact g.2.2 _ tk.1 tk.2
theorem mm_nn9_sh {h h' : mH} {s : Int} (N : mm_nn9 h) (hn : 0 ≤ h.1 54 5 ∧ h.1 54 5 ≤ 40) (e5 : h'.1 54 5 = h.1 54 5) (e : h'.2.1 55 = mm_sh9 (h.1 54 5 - 1).toNat s (h.2.1 55)) : mm_nn9 h' := fun k k0 k1 => by
  obtain ⟨t, t1, t2, _⟩ := mm_sh9_im (n := h.1 54 5) (by omega) (h.1 54 5 - 1).toNat s (h.2.1 55) (by omega)
  rw [e, t1]
  have tk := t2 k k0 (by omega)
  exact N _ tk.1 tk.2
theorem mm_ag_s2 {hs h h1 h2 h3 : mH} {i a k c0 v m n : Int} (A : mm_ag hs h i a) (e24 : ∀ j, h.2.1 24 j = hs.2.1 24 j) (hi : 0 ≤ i) (F : mm_fs9 (mm_pk h a m) n k) (hm : m = hs.1 54 5 - i - 1) (hn : n = hs.1 54 5) (a1 : h1 = mm_pa h 56 i (h.2.1 55 k)) (a2 : h2 = mm_pa h1 55 k (-1)) (hc : c0 = h2.2.1 24 (h2.2.1 56 i)) (hc0 : 0 ≤ c0 ∧ c0 ≤ 9) (b : mm_lg9 h 100) (a3 : h3 = mm_pa h2 57 c0 v) (hv : v = mm_w (h2.2.1 57 c0 - 1)) : mm_ag hs h3 (i + 1) c0 := by
  subst hm hn
  have e6 : h2.2.1 56 i = h.2.1 55 k := by rw [a2, mm_pa_o 56 55 (by decide), a1, mm_pa_same]
  have e4 : ∀ j, h2.2.1 24 j = h.2.1 24 j := fun j => by rw [a2, mm_pa_o 24 55 (by decide), a1, mm_pa_o 24 56 (by decide)]
  have e7 : ∀ j, h2.2.1 57 j = h.2.1 57 j := fun j => by rw [a2, mm_pa_o 57 55 (by decide), a1, mm_pa_o 57 56 (by decide)]
  have bc := b c0 hc0.1 (by omega)
  refine mm_ag_s A e24 hi F a1 a2 (by rw [hc, e6, e4]) hc0.1 (by omega) a3 ?_
  rw [hv, e7]
  exact mm_w_id ⟨by omega, by omega⟩
theorem mm_aW_L {cl D L L' W : Int → Int} {n r : Int} (A : mm_aW cl D L n r W) (e : ∀ c, 0 ≤ c → c < 10 → L' c = L c) : mm_aW cl D L' n r W := by
  have tc : ∀ (q : Nat → Int) (i : Nat), mm_tc9 cl D L n q i → mm_tc9 cl D L' n q i := fun q i T j hj => by
    have t := T j hj
    have hl : ∀ l, l < j → q l = q l ∧ 0 ≤ q l ∧ q l < n := fun l y => ⟨rfl, (T l (by omega)).1, (T l (by omega)).2.1⟩
    exact ⟨t.1, t.2.1, (mm_ok9_cg (fun _ _ _ => rfl) e hl t.1 t.2.1).mpr t.2.2.1, fun k a b c => t.2.2.2 k a b ((mm_ok9_cg (fun _ _ _ => rfl) e hl a (by have := t.2.1; omega)).mp c)⟩
  rcases A with ⟨a, q, i, b, c, d⟩ | ⟨a, q, b, c⟩
  · refine Or.inl ⟨a, q, i, b, tc q i c, fun k k0 k1 o => d k k0 k1 ?_⟩
    exact (mm_ok9_cg (fun _ _ _ => rfl) e (fun l y => ⟨rfl, (c l y).1, (c l y).2.1⟩) k0 k1).mp o
  · exact Or.inr ⟨a, q, tc q _ b, c⟩
theorem mm_aW_1 {h hs h2 : mH} {i a s : Int} (A : mm_ag hs h2 i a) (e24 : ∀ j, hs.2.1 24 j = h.2.1 24 j) (e55 : hs.2.1 55 = mm_sh9 (h.1 54 5 - 1).toNat s (h.2.1 55)) (e57 : ∀ j, hs.2.1 57 j = h.2.1 57 j) (e5 : hs.1 54 5 = h.1 54 5) (hi : i = h.1 54 5) : mm_aW (h.2.1 24) (mm_sh9 (h.1 54 5 - 1).toNat s (h.2.1 55)) (h.2.1 57) (h.1 54 5) 1 (h2.2.1 56) := by
  obtain ⟨q, t, _, _, w, _⟩ := A
  rw [funext e24, e55, funext e57, e5, hi] at t
  rw [e55, hi] at w
  exact Or.inr ⟨rfl, q, t, w⟩
theorem mm_aW_0 {h hs h' : mH} {i a s m : Int} {W : Int → Int} (A : mm_ag hs h' i a) (e' : ∀ j, h'.2.1 24 j = hs.2.1 24 j) (e24 : ∀ j, hs.2.1 24 j = h.2.1 24 j) (e55 : hs.2.1 55 = mm_sh9 (h.1 54 5 - 1).toNat s (h.2.1 55)) (e57 : ∀ j, hs.2.1 57 j = h.2.1 57 j) (e5 : hs.1 54 5 = h.1 54 5) (h0 : 0 ≤ i) (hi : i < h.1 54 5) (hm : m = hs.1 54 5 - i - 1) (S : ∀ k, 0 ≤ k → k < h'.1 54 5 → ¬ mm_pk h' a m k) (e5' : h'.1 54 5 = hs.1 54 5) : mm_aW (h.2.1 24) (mm_sh9 (h.1 54 5 - 1).toNat s (h.2.1 55)) (h.2.1 57) (h.1 54 5) 0 W := by
  subst hm
  rw [e5'] at S
  obtain ⟨q, t, z⟩ := mm_ag_st A e' h0 S
  rw [funext e24, e55, funext e57, e5] at t z
  exact Or.inl ⟨rfl, q, i.toNat, by omega, t, z⟩
theorem mm_gap {n g f : Int} (hn : 0 ≤ n ∧ n ≤ 40) (hg : 0 ≤ g ∧ g ≤ 99999) (hf : 0 ≤ f ∧ f ≤ 99999) : mm_w (f + mm_w ((n - 1) * g)) = f + (n - 1) * g := by
  have b := mm_mulb hn hg
  rw [mm_w_id (z := (n - 1) * g) ⟨by omega, by omega⟩]
  exact mm_w_id ⟨by omega, by omega⟩
/-! the class's draw as a whole -/
theorem mm_dx9_ok {h h1 h2 h3 : mH} {c s f r i ra : Int} (G : mm_gh (mm_Q1 h c (h.1 0 13)) (h1.2.1 55) (h.1 22 8).toNat (h1.1 54 5)) (L : ∀ c, 0 ≤ c → c < 10 → h1.2.1 57 c = mm_lk (h.2.1 24) (h1.2.1 55) (h1.1 54 5).toNat c) (e24 : ∀ j, h1.2.1 24 j = h.2.1 24 j) (A : mm_aW (h1.2.1 24) (mm_sh9 (h1.1 54 5 - 1).toNat s (h1.2.1 55)) (h1.2.1 57) (h1.1 54 5) ra (h2.2.1 56)) (hra : ra = 1) (hr : r = h1.1 54 5) (f0 : h.1 0 13 ≤ f) (f1 : f ≤ 99999) (c1 : h.1 30 6 + r ≤ 500) (c2 : f + (r - 1) * h.2.1 44 1 ≤ 99999) (hi : i = r) (t1 : mm_tp h h3 31 (h.1 30 6) (h.1 30 6 + i) (fun _ => 0)) (t2 : mm_tp h h3 32 (h.1 30 6) (h.1 30 6 + i) (fun j => h2.2.1 56 (j - h.1 30 6))) (t5 : mm_tp h h3 35 (h.1 30 6) (h.1 30 6 + i) (fun _ => h.1 0 13)) (t6 : mm_tp h h3 36 (h.1 30 6) (h.1 30 6 + i) (fun _ => -1)) : mm_dx9 h h3 c s f r := by
  subst hi
  subst hra
  subst hr
  have A' := mm_aW_L A (fun c a b => (L c a b).symm)
  rw [funext e24] at A'
  refine ⟨h2.2.1 56, Or.inr ⟨f0, f1, h1.2.1 55, h1.1 54 5, G, Or.inr ⟨c1, c2, Or.inr ⟨rfl, ?_⟩⟩⟩, t1, t2, t5, t6⟩
  rcases A' with ⟨a, _⟩ | ⟨_, a⟩
  · exact absurd a (by decide)
  · exact a
theorem mm_dx9_st {h h1 h3 : mH} {c s f ra : Int} {W : Int → Int} (G : mm_gh (mm_Q1 h c (h.1 0 13)) (h1.2.1 55) (h.1 22 8).toNat (h1.1 54 5)) (L : ∀ c, 0 ≤ c → c < 10 → h1.2.1 57 c = mm_lk (h.2.1 24) (h1.2.1 55) (h1.1 54 5).toNat c) (e24 : ∀ j, h1.2.1 24 j = h.2.1 24 j) (A : mm_aW (h1.2.1 24) (mm_sh9 (h1.1 54 5 - 1).toNat s (h1.2.1 55)) (h1.2.1 57) (h1.1 54 5) ra W) (hra : ra = 0) (f0 : h.1 0 13 ≤ f) (f1 : f ≤ 99999) (c1 : h.1 30 6 + h1.1 54 5 ≤ 500) (c2 : f + (h1.1 54 5 - 1) * h.2.1 44 1 ≤ 99999) (t : ∀ o, (o = 31 ∨ o = 32 ∨ o = 35 ∨ o = 36) → ∀ j, h3.2.1 o j = h.2.1 o j) : mm_dx9 h h3 c s f (-1) := by
  subst hra
  have A' := mm_aW_L A (fun c a b => (L c a b).symm)
  rw [funext e24] at A'
  refine ⟨fun _ => 0, Or.inr ⟨f0, f1, h1.2.1 55, h1.1 54 5, G, Or.inr ⟨c1, c2, Or.inl ⟨rfl, ?_⟩⟩⟩, mm_tp_0 (t 31 (by decide)) (by omega), mm_tp_0 (t 32 (by decide)) (by omega), mm_tp_0 (t 35 (by decide)) (by omega), mm_tp_0 (t 36 (by decide)) (by omega)⟩
  rcases A' with ⟨_, a⟩ | ⟨a, _⟩
  · exact a
  · exact absurd a (by decide)
theorem mm_dx9_no {h h1 h3 : mH} {c s f : Int} (G : mm_gh (mm_Q1 h c (h.1 0 13)) (h1.2.1 55) (h.1 22 8).toNat (h1.1 54 5)) (f0 : h.1 0 13 ≤ f) (f1 : f ≤ 99999) (c1 : 500 < h.1 30 6 + h1.1 54 5 ∨ 99999 < f + (h1.1 54 5 - 1) * h.2.1 44 1) (t : ∀ o, (o = 31 ∨ o = 32 ∨ o = 35 ∨ o = 36) → ∀ j, h3.2.1 o j = h.2.1 o j) : mm_dx9 h h3 c s f (-1) :=
  ⟨fun _ => 0, Or.inr ⟨f0, f1, h1.2.1 55, h1.1 54 5, G, Or.inl ⟨c1, rfl⟩⟩, mm_tp_0 (t 31 (by decide)) (by omega), mm_tp_0 (t 32 (by decide)) (by omega), mm_tp_0 (t 35 (by decide)) (by omega), mm_tp_0 (t 36 (by decide)) (by omega)⟩
theorem mm_dx9_out {h h3 : mH} {c s f : Int} (f0 : f < h.1 0 13 ∨ 99999 < f) (t : ∀ o, (o = 31 ∨ o = 32 ∨ o = 35 ∨ o = 36) → ∀ j, h3.2.1 o j = h.2.1 o j) : mm_dx9 h h3 c s f (-1) :=
  ⟨fun _ => 0, Or.inl ⟨f0, rfl⟩, mm_tp_0 (t 31 (by decide)) (by omega), mm_tp_0 (t 32 (by decide)) (by omega), mm_tp_0 (t 35 (by decide)) (by omega), mm_tp_0 (t 36 (by decide)) (by omega)⟩
/-! the reference's -/
def mm_ke9 (h h' : mH) : Prop := (∀ j, h'.2.1 92 j = h.2.1 92 j) ∧ (∀ j, h'.2.1 93 j = h.2.1 93 j) ∧ (∀ j, h'.2.1 96 j = h.2.1 96 j) ∧ (∀ j, h'.2.1 97 j = h.2.1 97 j) ∧ h'.1 66 40 = h.1 66 40
theorem mm_ke9_rf {h : mH} : mm_ke9 h h := ⟨fun _ => rfl, fun _ => rfl, fun _ => rfl, fun _ => rfl, rfl⟩
theorem mm_ke9_fr {wf : List (Nat × Nat)} {wa : List Nat} {h h1 h2 : mH} (K : mm_ke9 h h1) (g : mm_fr wf wa h1 h2) (w : 92 ∉ wa ∧ 93 ∉ wa ∧ 96 ∉ wa ∧ 97 ∉ wa ∧ (66, 40) ∉ wf) : mm_ke9 h h2 :=
  ⟨fun j => (g.2 92 w.1 j).trans (K.1 j), fun j => (g.2 93 w.2.1 j).trans (K.2.1 j), fun j => (g.2 96 w.2.2.1 j).trans (K.2.2.1 j), fun j => (g.2 97 w.2.2.2.1 j).trans (K.2.2.2.1 j), (g.1 66 40 w.2.2.2.2).trans K.2.2.2.2⟩
theorem mm_ke9_pa {h h1 h2 : mH} {o : Nat} {i v : Int} (K : mm_ke9 h h1) (e : h2 = mm_pa h1 o i v) (w : 92 ≠ o ∧ 93 ≠ o ∧ 96 ≠ o ∧ 97 ≠ o) : mm_ke9 h h2 := by
  subst e
  exact ⟨fun j => (mm_pa_o 92 o w.1 j).trans (K.1 j), fun j => (mm_pa_o 93 o w.2.1 j).trans (K.2.1 j), fun j => (mm_pa_o 96 o w.2.2.1 j).trans (K.2.2.1 j), fun j => (mm_pa_o 97 o w.2.2.2 j).trans (K.2.2.2.1 j), K.2.2.2.2⟩
theorem mm_ke9_k2 {h h1 : mH} (K : mm_ke9 h h1) : mm_k2 h1 = mm_k2 h := mm_k2_eq K.1 K.2.1 K.2.2.1 K.2.2.2.1
theorem mm_up_cg {h h2 : mH} {o : Nat} {c c' v v' f : Int} (u : mm_up h h2 o c v f) (hc : c = c') (hv : v = v') : mm_up h h2 o c' v' f := by subst hc hv; exact u
theorem mm_nxt_cg {h h2 : mH} {k l m : Int} (b : ∀ j, 0 ≤ h.2.1 86 j) (e7 : ∀ j, h2.2.1 117 j = h.2.1 117 j) (e9 : ∀ j, h2.2.1 119 j = h.2.1 119 j) (e6 : ∀ j, h2.2.1 86 j = h.2.1 86 j) (e8 : ∀ j, h2.2.1 118 j = h.2.1 118 j) : mm_nxt h2 k l m ↔ mm_nxt h k l m := by
  rw [mm_nxt_rf (by rw [e6]; exact b _), mm_nxt_rf (b _), e7, e9, e6, funext e8]
theorem mm_bt9_of {hs h : mH} {n i a : Int} (B : mm_bt9 hs h n i a) (hi : i = n) (hn : 0 ≤ n) : mm_Of (hs.2.1 86) (hs.2.1 117) (hs.2.1 118) n (fun j => h.2.1 93 (hs.1 66 40 + j)) := by
  obtain ⟨q, t, _, _, _, w⟩ := B
  subst hi
  refine ⟨q, t, fun j a b => ?_⟩
  have z := w (hs.1 66 40 + j)
  rw [if_pos ⟨by omega, by omega⟩] at z
  show h.2.1 93 (hs.1 66 40 + j) = _
  rw [z]
  show hs.2.1 117 (q (hs.1 66 40 + j - hs.1 66 40).toNat) = _
  rw [show hs.1 66 40 + j - hs.1 66 40 = j by omega]
theorem mm_Of_L {cl D L L' W W' : Int → Int} {n : Int} (A : mm_Of cl D L n W) (e : ∀ c, 0 ≤ c → c < 10 → L' c = L c) (w : ∀ j, 0 ≤ j → j < n → W' j = W j) : mm_Of cl D L' n W' := by
  obtain ⟨q, b, c⟩ := A
  have A : mm_aW cl D L n 1 W := Or.inr ⟨rfl, q, b, c⟩
  rcases mm_aW_L A e with ⟨a, _⟩ | ⟨_, q', b', c'⟩
  · exact absurd a (by decide)
  · exact ⟨q', b', fun j x y => (w j x y).trans (c' j x y)⟩
theorem mm_dy9_ok {h hg hs h3 : mH} {c s f n a i : Int} (G : mm_gh (mm_Q2 h c (h.1 66 41)) (hg.2.1 117) (h.1 66 23).toNat n) (L : ∀ c, 0 ≤ c → c < 10 → hg.2.1 118 c = mm_lk (h.2.1 86) (hg.2.1 117) n.toNat c) (e86 : ∀ j, hs.2.1 86 j = h.2.1 86 j) (eD : hs.2.1 117 = mm_sh9 (n - 1).toNat s (hg.2.1 117)) (e8 : ∀ j, hs.2.1 118 j = hg.2.1 118 j) (ev : hs.1 66 40 = h.1 66 40) (B : mm_bt9 hs h3 n i a) (hi : i = n) (hn : 0 ≤ n) (f0 : h.1 66 41 ≤ f) (f1 : f ≤ 99999) (c1 : h.1 66 40 + n ≤ 500) (c2 : f + (n - 1) * mm_pr h 1 ≤ 99999) (cf : mm_cf9 (hs.2.1 118) n) (k3 : ∀ j, hs.2.1 93 j = h.2.1 93 j) (t1 : mm_tp h h3 92 (h.1 66 40) (h.1 66 40 + n) (fun _ => 0)) (t5 : mm_tp h h3 96 (h.1 66 40) (h.1 66 40 + n) (fun _ => h.1 66 41)) (t6 : mm_tp h h3 97 (h.1 66 40) (h.1 66 40 + n) (fun _ => -1)) : mm_dy9 h h3 c s f n := by
  have O := mm_bt9_of B hi hn
  have eL : ∀ c, 0 ≤ c → c < 10 → mm_lk (h.2.1 86) (hg.2.1 117) n.toNat c = hs.2.1 118 c := fun c a b => by rw [e8]; exact (L c a b).symm
  rw [funext e86, eD] at O
  refine ⟨fun j => h3.2.1 93 (hs.1 66 40 + j), Or.inr ⟨f0, f1, hg.2.1 117, n, G, Or.inr ⟨c1, c2, fun c a b => by rw [eL c a b]; exact cf c a b, rfl, mm_Of_L O eL (fun _ _ _ => rfl)⟩⟩, t1, fun j => ?_, t5, t6⟩
  by_cases z : h.1 66 40 ≤ j ∧ j < h.1 66 40 + n
  · rw [if_pos z]
    show _ = h3.2.1 93 (hs.1 66 40 + (j - h.1 66 40))
    rw [show hs.1 66 40 + (j - h.1 66 40) = j by omega]
  · rw [if_neg z]
    obtain ⟨q, _, _, _, _, w⟩ := B
    rw [w j, if_neg (by omega)]
    exact k3 j
theorem mm_dy9_no {h hg h3 : mH} {c s f n : Int} (G : mm_gh (mm_Q2 h c (h.1 66 41)) (hg.2.1 117) (h.1 66 23).toNat n) (L : ∀ c, 0 ≤ c → c < 10 → hg.2.1 118 c = mm_lk (h.2.1 86) (hg.2.1 117) n.toNat c) (f0 : h.1 66 41 ≤ f) (f1 : f ≤ 99999) (c1 : 500 < h.1 66 40 + n ∨ 99999 < f + (n - 1) * mm_pr h 1 ∨ ¬ mm_cf9 (hg.2.1 118) n) (t : mm_ke9 h h3) : mm_dy9 h h3 c s f (-1) := by
  refine ⟨fun _ => 0, Or.inr ⟨f0, f1, hg.2.1 117, n, G, Or.inl ⟨?_, rfl⟩⟩, mm_tp_0 t.1 (by omega), mm_tp_0 t.2.1 (by omega), mm_tp_0 t.2.2.1 (by omega), mm_tp_0 t.2.2.2.1 (by omega)⟩
  rcases c1 with q | q | q
  · exact Or.inl q
  · exact Or.inr (Or.inl q)
  · exact Or.inr (Or.inr (fun z => q (fun c a b => by rw [L c a b]; exact z c a b)))
theorem mm_dy9_out {h h3 : mH} {c s f : Int} (f0 : f < h.1 66 41 ∨ 99999 < f) (t : mm_ke9 h h3) : mm_dy9 h h3 c s f (-1) :=
  ⟨fun _ => 0, Or.inl ⟨f0, rfl⟩, mm_tp_0 t.1 (by omega), mm_tp_0 t.2.1 (by omega), mm_tp_0 t.2.2.1 (by omega), mm_tp_0 t.2.2.2.1 (by omega)⟩

/-! ===== both sides together, for the law ===== -/
theorem mm_dx9_pa {h hc : mH} {c s f r : Int} (X : mm_dx9 h hc c s f r) : mm_dx9 h (mm_pa hc 124 0 r) c s f ((mm_pa hc 124 0 r).2.1 124 0) := by
  rw [mm_pa_same]
  obtain ⟨W, a, b, c1, d, e⟩ := X
  exact ⟨W, a, mm_tp_tr (fun _ => rfl) b (fun j => mm_pa_o 31 124 (by decide) j), mm_tp_tr (fun _ => rfl) c1 (fun j => mm_pa_o 32 124 (by decide) j), mm_tp_tr (fun _ => rfl) d (fun j => mm_pa_o 35 124 (by decide) j), mm_tp_tr (fun _ => rfl) e (fun j => mm_pa_o 36 124 (by decide) j)⟩
theorem mm_pro_eq {h h1 : mH} {p u v x y : Int} (X : ∃ e : Int, mm_lat (mm_k1 h 2 p (h.1 0 13)) (h.1 30 6) e ∧ (((h.1 30 12 ≤ 39 ∧ e ≠ -1 ∧ (mm_w (h.1 0 13 - h.2.1 35 e)) ≤ h.2.1 44 2) ∧ u = h.1 30 12 ∧ x = h.1 30 12 + 1) ∨ ((40 ≤ h.1 30 12 ∨ e = -1 ∨ h.2.1 44 2 < (mm_w (h.1 0 13 - h.2.1 35 e))) ∧ u = -1 ∧ x = h.1 30 12))) (Y : ∃ e : Int, mm_lat (mm_k2 h1 2 p (h1.1 66 41)) (h1.1 66 40) e ∧ (((h1.1 66 82 ≠ 40 ∧ e ≠ -1 ∧ (mm_w (h1.1 66 41 - h1.2.1 96 e)) ≤ mm_pr h1 2) ∧ v = h1.1 66 82 ∧ y = h1.1 66 82 + 1) ∨ ((h1.1 66 82 = 40 ∨ e = -1 ∨ mm_pr h1 2 < (mm_w (h1.1 66 41 - h1.2.1 96 e))) ∧ v = -1 ∧ y = h1.1 66 82))) (a : mm_eq h 31 92 (h.1 30 6 - 1)) (b : mm_eq h 32 93 (h.1 30 6 - 1)) (d : mm_eq h 35 96 (h.1 30 6 - 1)) (g : mm_eq h 36 97 (h.1 30 6 - 1)) (e1 : mm_k2 h1 = mm_k2 h) (e96 : ∀ j, h1.2.1 96 j = h.2.1 96 j) (hk : h1.1 66 41 = h.1 0 13) (hev : h1.1 66 40 = h.1 30 6) (hp : h1.1 66 82 = h.1 30 12) (hb : h.1 30 12 ≤ 40) (pr : mm_pr h1 2 = h.2.1 44 2) : u = v ∧ x = y := by
  obtain ⟨e, l1, x1⟩ := X
  obtain ⟨e', l2, y1⟩ := Y
  have ee := mm_lat_un l1 l2 hev (fun j p q => mm_kk a b d g e1 hk p q)
  subst ee
  rw [hk, hp, pr, e96] at y1
  have z : e = -1 ∨ h.2.1 35 e = h.2.1 96 e := by
    rcases l1 with ⟨q, _⟩ | ⟨q0, q1, _⟩
    · exact Or.inl q
    · exact Or.inr (d e q0 (by omega))
  rcases z with z | z
  · omega
  · rw [← z] at y1
    omega
theorem mm_drw_rows {h hc h1 h2 : mH} {c s f r r' : Int} (X : mm_dx9 h hc c s f r) (Y : mm_dy9 h1 h2 c s f r') (a : mm_eq h 31 92 (h.1 30 6 - 1)) (b : mm_eq h 32 93 (h.1 30 6 - 1)) (d : mm_eq h 35 96 (h.1 30 6 - 1)) (g : mm_eq h 36 97 (h.1 30 6 - 1)) (y92 : ∀ j, h1.2.1 92 j = h.2.1 92 j) (y93 : ∀ j, h1.2.1 93 j = h.2.1 93 j) (y96 : ∀ j, h1.2.1 96 j = h.2.1 96 j) (y97 : ∀ j, h1.2.1 97 j = h.2.1 97 j) (hk : h1.1 66 41 = h.1 0 13) (hev : h1.1 66 40 = h.1 30 6) (e23 : mm_eq h 23 85 (h.1 22 8 - 1)) (e24 : mm_eq h 24 86 (h.1 22 8 - 1)) (T : mm_ah h) (y85 : ∀ j, h1.2.1 85 j = h.2.1 85 j) (y86 : ∀ j, h1.2.1 86 j = h.2.1 86 j) (y88 : ∀ j, h1.2.1 88 j = h.2.1 88 j) (y89 : ∀ j, h1.2.1 89 j = h.2.1 89 j) (hn : h1.1 66 23 = h.1 22 8) (hn4 : 0 ≤ h.1 22 8 ∧ h.1 22 8 ≤ 40) (pr : mm_pr h1 1 = h.2.1 44 1) (k : (∀ j, h1.2.1 31 j = hc.2.1 31 j) ∧ (∀ j, h1.2.1 32 j = hc.2.1 32 j) ∧ (∀ j, h1.2.1 35 j = hc.2.1 35 j) ∧ ∀ j, h1.2.1 36 j = hc.2.1 36 j) (k2 : (∀ j, h2.2.1 31 j = h1.2.1 31 j) ∧ (∀ j, h2.2.1 32 j = h1.2.1 32 j) ∧ (∀ j, h2.2.1 35 j = h1.2.1 35 j) ∧ ∀ j, h2.2.1 36 j = h1.2.1 36 j) (hr : (r = -1 ∧ h2.1 30 6 = h.1 30 6) ∨ (0 ≤ r ∧ h2.1 30 6 = h.1 30 6 + r)) : r = r' ∧ mm_eq h2 31 92 (h2.1 30 6 - 1) ∧ mm_eq h2 32 93 (h2.1 30 6 - 1) ∧ mm_eq h2 35 96 (h2.1 30 6 - 1) ∧ mm_eq h2 36 97 (h2.1 30 6 - 1) := by
  obtain ⟨er, F, G, fg, ⟨t1, t2, t5, t6⟩, ⟨u1, u2, u5, u6⟩⟩ := mm_draw_eq X Y a b d g (mm_k2_eq y92 y93 y96 y97) hk hev e23 e24 T y85 y86 y88 y89 hn hn4 pr
  have tr : ∀ {o : Nat} {K : Int → Int}, mm_tp h hc o (h.1 30 6) (h.1 30 6 + r) K → (∀ j, h1.2.1 o j = hc.2.1 o j) → mm_tp h h1 o (h.1 30 6) (h.1 30 6 + r) K := fun t e => mm_tp_tr (fun _ => rfl) t e
  have hm : h2.1 30 6 - 1 ≤ h.1 30 6 + r - 1 ∨ h2.1 30 6 - 1 ≤ h.1 30 6 - 1 := by omega
  exact ⟨er, mm_eq_tp2 a (tr t1 k.1) y92 u1 k2.1 rfl rfl (fun _ _ _ => rfl) (by omega) hm, mm_eq_tp2 b (tr t2 k.2.1) y93 u2 k2.2.1 rfl rfl fg (by omega) hm, mm_eq_tp2 d (tr t5 k.2.2.1) y96 u5 k2.2.2.1 rfl rfl (fun _ _ _ => rfl) (by omega) hm, mm_eq_tp2 g (tr t6 k.2.2.2) y97 u6 k2.2.2.2 rfl rfl (fun _ _ _ => rfl) (by omega) hm⟩

/-! ===== the members of a team, on the reference's side; what draws tell of where and when ===== -/
def mm_uc (h h2 : mH) (a b c t f : Int) : Prop := ∀ j, h2.2.1 90 j = if f = 1 ∧ j = 3 * t + 2 then c else if f = 1 ∧ j = 3 * t + 1 then b else if f = 1 ∧ j = 3 * t then a else h.2.1 90 j
theorem mm_uc_no {h h2 : mH} {a b c t f : Int} (hf : f ≠ 1) (e : ∀ j, h2.2.1 90 j = h.2.1 90 j) : mm_uc h h2 a b c t f := fun j => by
  rw [if_neg (fun w => hf w.1), if_neg (fun w => hf w.1), if_neg (fun w => hf w.1)]; exact e j
theorem mm_uc_pa {h h1 h2 h3 h4 h5 : mH} {a b c t i1 i2 i3 : Int} (e1 : ∀ j, h1.2.1 90 j = h.2.1 90 j) (a2 : h2 = mm_pa h1 90 i1 a) (a3 : h3 = mm_pa h2 90 i2 b) (a4 : h4 = mm_pa h3 90 i3 c) (q1 : i1 = 3 * t) (q2 : i2 = 3 * t + 1) (q3 : i3 = 3 * t + 2) (e5 : ∀ j, h5.2.1 90 j = h4.2.1 90 j) : mm_uc h h5 a b c t 1 := fun j => by
  rw [e5 j]
  by_cases z3 : j = 3 * t + 2
  · rw [if_pos ⟨rfl, z3⟩]; exact mm_pa_at a4 (by omega)
  · rw [if_neg (fun w => z3 w.2), mm_pa_off a4 (by omega)]
    by_cases z2 : j = 3 * t + 1
    · rw [if_pos ⟨rfl, z2⟩]; exact mm_pa_at a3 (by omega)
    · rw [if_neg (fun w => z2 w.2), mm_pa_off a3 (by omega)]
      by_cases z1 : j = 3 * t
      · rw [if_pos ⟨rfl, z1⟩]; exact mm_pa_at a2 (by omega)
      · rw [if_neg (fun w => z1 w.2), mm_pa_off a2 (by omega)]; exact e1 j
theorem mm_uc_tr {h h1 h2 h3 : mH} {a b c t f : Int} (e1 : ∀ j, h1.2.1 90 j = h.2.1 90 j) (u : mm_uc h1 h2 a b c t f) (e3 : ∀ j, h3.2.1 90 j = h2.2.1 90 j) : mm_uc h h3 a b c t f := fun j => by
  rw [e3 j, u j, e1 j]
def mm_dx8 (h h2 : mH) (f r : Int) : Prop := mm_tp h h2 33 (h.1 30 6) (h.1 30 6 + r) (fun _ => -1) ∧ mm_tp h h2 34 (h.1 30 6) (h.1 30 6 + r) (fun j => mm_w (f + mm_w ((j - h.1 30 6) * h.2.1 44 1)))
def mm_dy8 (h h2 : mH) (f r : Int) : Prop := mm_tp h h2 94 (h.1 66 40) (h.1 66 40 + r) (fun _ => 0) ∧ mm_tp h h2 95 (h.1 66 40) (h.1 66 40 + r) (fun j => mm_w (f + mm_w ((j - h.1 66 40) * mm_pr h 1)))
theorem mm_dx8_no {h h2 : mH} {f : Int} (e3 : ∀ j, h2.2.1 33 j = h.2.1 33 j) (e4 : ∀ j, h2.2.1 34 j = h.2.1 34 j) : mm_dx8 h h2 f (-1) := ⟨mm_tp_0 e3 (by omega), mm_tp_0 e4 (by omega)⟩
theorem mm_dy8_no {h h2 : mH} {f : Int} (e3 : ∀ j, h2.2.1 94 j = h.2.1 94 j) (e4 : ∀ j, h2.2.1 95 j = h.2.1 95 j) : mm_dy8 h h2 f (-1) := ⟨mm_tp_0 e3 (by omega), mm_tp_0 e4 (by omega)⟩
theorem mm_dx8_pa {h hc : mH} {f r : Int} (X : mm_dx8 h hc f r) : mm_dx8 h (mm_pa hc 124 0 r) f ((mm_pa hc 124 0 r).2.1 124 0) := by
  rw [mm_pa_same]
  exact ⟨mm_tp_tr (fun _ => rfl) X.1 (fun j => mm_pa_o 33 124 (by decide) j), mm_tp_tr (fun _ => rfl) X.2 (fun j => mm_pa_o 34 124 (by decide) j)⟩
/-- the posts of punches alone are alike -/
def mm_ep8 (h : mH) : Prop := ∀ e, 0 ≤ e → e ≤ h.1 30 6 - 1 → h.2.1 31 e = 1 → h.2.1 33 e = h.2.1 94 e
theorem mm_ep8_sm {h h2 : mH} (T : mm_ep8 h) (e1 : ∀ j, h2.2.1 31 j = h.2.1 31 j) (e3 : ∀ j, h2.2.1 33 j = h.2.1 33 j) (e4 : ∀ j, h2.2.1 94 j = h.2.1 94 j) (n : h2.1 30 6 = h.1 30 6) : mm_ep8 h2 := fun e x y q => by
  rw [e1] at q
  rw [e3, e4]; exact T e x (by omega) q
theorem mm_ep8_nil {h : mH} (n : h.1 30 6 = 0) : mm_ep8 h := fun c x y => absurd (Int.le_trans x y) (by omega)
theorem mm_ep8_event {h h1 h2 : mH} {f f' n n' k v v' : Int} (T : mm_ep8 h) (u1 : mm_up h h1 31 n k f) (e1 : ∀ j, h2.2.1 31 j = h1.2.1 31 j) (u3 : mm_up h h1 33 n v f) (e3 : ∀ j, h2.2.1 33 j = h1.2.1 33 j) (w : mm_up h1 h2 94 n' v' f') (e4 : ∀ j, h1.2.1 94 j = h.2.1 94 j) (hn : n = h.1 30 6) (hn' : n' = h.1 30 6) (hv : v = v') (hf : f = 1 ↔ f' = 1) (m : (f = 1 ∧ h2.1 30 6 = h.1 30 6 + 1) ∨ (f ≠ 1 ∧ h2.1 30 6 = h.1 30 6)) : mm_ep8 h2 := fun j x y q => by
  rw [e1, u1 j, hn] at q
  rw [e3, u3 j, w j, e4, hn, hn']
  by_cases z : j = h.1 30 6 ∧ f = 1
  · rw [if_pos z, if_pos ⟨z.1, hf.mp z.2⟩]; exact hv
  · rw [if_neg z] at q
    rw [if_neg z, if_neg (fun y => z ⟨y.1, hf.mpr y.2⟩)]
    exact T j x (by omega) q
theorem mm_dr8 {h h1 h2 : mH} {c s f r r' : Int} (X9 : mm_dx9 h h1 c s f r) (X : mm_dx8 h h1 f r) (Y : mm_dy8 h1 h2 f r') (er : r = r') (T : mm_ep8 h) (E : mm_eq h 34 95 (h.1 30 6 - 1)) (e94 : ∀ j, h1.2.1 94 j = h.2.1 94 j) (e95 : ∀ j, h1.2.1 95 j = h.2.1 95 j) (k1 : ∀ j, h2.2.1 31 j = h1.2.1 31 j) (k3 : ∀ j, h2.2.1 33 j = h1.2.1 33 j) (k4 : ∀ j, h2.2.1 34 j = h1.2.1 34 j) (hev : h1.1 66 40 = h.1 30 6) (pr : mm_pr h1 1 = h.2.1 44 1) (hr : (r = -1 ∧ h2.1 30 6 = h.1 30 6) ∨ (0 ≤ r ∧ h2.1 30 6 = h.1 30 6 + r)) : mm_ep8 h2 ∧ mm_eq h2 34 95 (h2.1 30 6 - 1) := by
  subst er
  obtain ⟨W, _, t31, _⟩ := X9
  obtain ⟨x3, x4⟩ := X
  obtain ⟨y3, y4⟩ := Y
  rw [hev] at y3 y4
  rw [pr] at y4
  refine ⟨fun e e0 e1 q => ?_, ?_⟩
  · rw [k1, t31 e] at q
    by_cases z : h.1 30 6 ≤ e ∧ e < h.1 30 6 + r
    · rw [if_pos z] at q; exact absurd (show (0 : Int) = 1 from q) (by decide)
    · rw [if_neg z] at q
      rw [k3, x3 e, if_neg z, y3 e, if_neg z, e94]
      exact T e e0 (by omega) q
  · exact mm_eq_tp2 E x4 e95 y4 k4 rfl rfl (fun _ _ _ => rfl) (by omega) (by omega)

/-- the class's team -/
def mm_ud (h h2 : mH) (a b c t f : Int) : Prop := ∀ j, h2.2.1 29 j = if f = 1 ∧ j = 3 * t + 2 then c else if f = 1 ∧ j = 3 * t + 1 then b else if f = 1 ∧ j = 3 * t then a else h.2.1 29 j
theorem mm_ud_no {h h2 : mH} {a b c t f : Int} (hf : f ≠ 1) (e : ∀ j, h2.2.1 29 j = h.2.1 29 j) : mm_ud h h2 a b c t f := fun j => by
  rw [if_neg (fun w => hf w.1), if_neg (fun w => hf w.1), if_neg (fun w => hf w.1)]; exact e j
theorem mm_ud_pa {h h1 h2 h3 h4 h5 : mH} {a b c t i1 i2 i3 : Int} (e1 : ∀ j, h1.2.1 29 j = h.2.1 29 j) (a2 : h2 = mm_pa h1 29 i1 a) (a3 : h3 = mm_pa h2 29 i2 b) (a4 : h4 = mm_pa h3 29 i3 c) (q1 : i1 = 3 * t) (q2 : i2 = 3 * t + 1) (q3 : i3 = 3 * t + 2) (e5 : ∀ j, h5.2.1 29 j = h4.2.1 29 j) : mm_ud h h5 a b c t 1 := fun j => by
  rw [e5 j]
  by_cases z3 : j = 3 * t + 2
  · rw [if_pos ⟨rfl, z3⟩]; exact mm_pa_at a4 (by omega)
  · rw [if_neg (fun w => z3 w.2), mm_pa_off a4 (by omega)]
    by_cases z2 : j = 3 * t + 1
    · rw [if_pos ⟨rfl, z2⟩]; exact mm_pa_at a3 (by omega)
    · rw [if_neg (fun w => z2 w.2), mm_pa_off a3 (by omega)]
      by_cases z1 : j = 3 * t
      · rw [if_pos ⟨rfl, z1⟩]; exact mm_pa_at a2 (by omega)
      · rw [if_neg (fun w => z1 w.2), mm_pa_off a2 (by omega)]; exact e1 j
theorem mm_ud_tr {h h1 h2 h3 : mH} {a b c t f : Int} (e1 : ∀ j, h1.2.1 29 j = h.2.1 29 j) (u : mm_ud h1 h2 a b c t f) (e3 : ∀ j, h3.2.1 29 j = h2.2.1 29 j) : mm_ud h h3 a b c t f := fun j => by
  rw [e3 j, u j, e1 j]
