/-! ===== the heap of the class's least ways: F keys, A heap, S slots ===== -/
def mm_HO (F A S : Int → Int) (n a c : Int) : Prop :=
  (∀ i, 0 ≤ i → i < n → i ≠ a → S (A i) = i ∧ A i ≠ c) ∧
  (∀ i, 0 < i → i < n → i ≠ a → (i - 1) / 2 ≠ a → F (A ((i - 1) / 2)) ≤ F (A i)) ∧
  (∀ i, 0 < i → i < n → (i - 1) / 2 = a → 0 < a → F (A ((a - 1) / 2)) ≤ F (A i))
def mm_HR (F A : Int → Int) (n a c : Int) : Prop := ∀ i, 0 < i → i < n → (i - 1) / 2 = a → F c ≤ F (A i)
def mm_HS (F A : Int → Int) (a c : Int) : Prop := 0 < a → F (A ((a - 1) / 2)) ≤ F c
def mm_HP (F A S : Int → Int) (n : Int) : Prop :=
  (∀ i, 0 ≤ i → i < n → S (A i) = i) ∧ (∀ i, 0 < i → i < n → F (A ((i - 1) / 2)) ≤ F (A i))
/-- x lies in the heap, not at a -/
def mm_HX (A S : Int → Int) (n a x : Int) : Prop := 0 ≤ S x ∧ S x < n ∧ S x ≠ a ∧ A (S x) = x
def mm_HI (A S : Int → Int) (n x : Int) : Prop := 0 ≤ S x ∧ S x < n ∧ A (S x) = x
/-- what moves from k to the hole a -/
theorem mm_HX_mv {F A S A' S' : Int → Int} {n a k c : Int} (H : mm_HO F A S n a c) (a0 : 0 ≤ a) (an : a < n) (k0 : 0 ≤ k) (kn : k < n) (ka : k ≠ a) (eA : ∀ j, A' j = if j = a then A k else A j) (eS : ∀ j, S' j = if j = A k then a else S j) : (∀ x, mm_HX A' S' n k x ↔ mm_HX A S n a x) ∧ (∀ x, S' x = -1 ↔ S x = -1) := by
  have sk := (H.1 k k0 kn ka).1
  constructor
  · intro x
    unfold mm_HX
    by_cases q : x = A k
    · rw [eS x, if_pos q, eA a, if_pos rfl]
      constructor
      · intro _
        rw [q, sk]
        exact ⟨k0, kn, ka, rfl⟩
      · intro _
        exact ⟨a0, an, Ne.symm ka, q.symm⟩
    · rw [eS x, if_neg q]
      constructor
      · rintro ⟨w1, w2, w3, w4⟩
        by_cases z : S x = a
        · rw [z, eA a, if_pos rfl] at w4
          exact absurd w4.symm q
        · rw [eA, if_neg z] at w4
          exact ⟨w1, w2, z, w4⟩
      · rintro ⟨w1, w2, w3, w4⟩
        refine ⟨w1, w2, ?_, ?_⟩
        · intro z
          rw [z] at w4
          exact q w4.symm
        · rw [eA, if_neg w3]; exact w4
  · intro x
    rw [eS x]
    by_cases q : x = A k
    · rw [if_pos q, q, sk]; omega
    · rw [if_neg q]
theorem mm_HO_up {F A S A' S' : Int → Int} {n a u c : Int} (H : mm_HO F A S n a c) (R : mm_HR F A n a c) (a0 : 0 < a) (an : a < n) (hu : u = (a - 1) / 2) (lt : F c < F (A u)) (eA : ∀ j, A' j = if j = a then A u else A j) (eS : ∀ j, S' j = if j = A u then a else S j) : mm_HO F A' S' n u c ∧ mm_HR F A' n u c := by
  obtain ⟨H1, H2, H3⟩ := H
  have su := H1 u (by omega) (by omega) (by omega)
  have Aa : A' a = A u := by rw [eA, if_pos rfl]
  have Ao : ∀ j, j ≠ a → A' j = A j := fun j hj => by rw [eA, if_neg hj]
  refine ⟨⟨?_, ?_, ?_⟩, ?_⟩
  · intro i i0 i1 i2
    by_cases q : i = a
    · rw [q, Aa, eS, if_pos rfl]; exact ⟨rfl, su.2⟩
    · rw [Ao i q, eS]
      have z := H1 i i0 i1 q
      rw [if_neg (fun w => by have := z.1; rw [w, su.1] at this; exact i2 this.symm)]
      exact z
  · intro i i0 i1 i2 i3
    by_cases q : i = a
    · exact absurd (by rw [q]; exact hu.symm) i3
    · rw [Ao i q]
      by_cases w : (i - 1) / 2 = a
      · rw [w, Aa, hu]; exact H3 i i0 i1 w a0
      · rw [Ao _ w]; exact H2 i i0 i1 q w
  · intro i i0 i1 i2 u0
    have hp : (u - 1) / 2 ≠ a := by omega
    rw [Ao _ hp]
    have z := H2 u u0 (by omega) (by omega) hp
    by_cases q : i = a
    · rw [q, Aa]; exact z
    · rw [Ao i q]
      have y := H2 i i0 i1 q (by omega)
      rw [i2] at y
      exact Int.le_trans z y
  · intro i i0 i1 i2
    by_cases q : i = a
    · rw [q, Aa]; omega
    · rw [Ao i q]
      have y := H2 i i0 i1 q (by omega)
      rw [i2] at y
      omega
theorem mm_HO_dn {F A S A' S' : Int → Int} {n a k c : Int} (H : mm_HO F A S n a c) (k0 : 0 < k) (kn : k < n) (hk : (k - 1) / 2 = a) (lt : F (A k) < F c) (mn : ∀ i, 0 < i → i < n → (i - 1) / 2 = a → F (A k) ≤ F (A i)) (eA : ∀ j, A' j = if j = a then A k else A j) (eS : ∀ j, S' j = if j = A k then a else S j) : mm_HO F A' S' n k c ∧ mm_HS F A' k c := by
  obtain ⟨H1, H2, H3⟩ := H
  have sk := H1 k (by omega) kn (by omega)
  have Aa : A' a = A k := by rw [eA, if_pos rfl]
  have Ao : ∀ j, j ≠ a → A' j = A j := fun j hj => by rw [eA, if_neg hj]
  refine ⟨⟨?_, ?_, ?_⟩, ?_⟩
  · intro i i0 i1 i2
    by_cases q : i = a
    · rw [q, Aa, eS, if_pos rfl]; exact ⟨rfl, sk.2⟩
    · rw [Ao i q, eS]
      have z := H1 i i0 i1 q
      rw [if_neg (fun w => by have := z.1; rw [w, sk.1] at this; exact i2 this.symm)]
      exact z
  · intro i i0 i1 i2 i3
    by_cases q : i = a
    · rw [q, Aa]
      have hp : (a - 1) / 2 ≠ a := by omega
      rw [Ao _ hp]
      exact H3 k k0 kn hk (by omega)
    · rw [Ao i q]
      by_cases w : (i - 1) / 2 = a
      · rw [w, Aa]; exact mn i i0 i1 w
      · rw [Ao _ w]; exact H2 i i0 i1 q w
  · intro i i0 i1 i2 _
    rw [hk, Aa, Ao i (by omega)]
    have y := H2 i i0 i1 (by omega) (by omega)
    rw [i2] at y
    exact y
  · intro _
    rw [hk, Aa]; omega
theorem mm_HO_end {F A S A' S' : Int → Int} {n a c : Int} (H : mm_HO F A S n a c) (R : mm_HR F A n a c) (T : mm_HS F A a c) (a0 : 0 ≤ a) (an : a < n) (eA : ∀ j, A' j = if j = a then c else A j) (eS : ∀ j, S' j = if j = c then a else S j) : mm_HP F A' S' n ∧ (∀ x, x ≠ c → (mm_HI A' S' n x ↔ mm_HX A S n a x)) ∧ mm_HI A' S' n c ∧ (∀ x, x ≠ c → S' x = S x) := by
  obtain ⟨H1, H2, H3⟩ := H
  have Aa : A' a = c := by rw [eA, if_pos rfl]
  have Ao : ∀ j, j ≠ a → A' j = A j := fun j hj => by rw [eA, if_neg hj]
  refine ⟨⟨?_, ?_⟩, ?_, ?_, fun x hx => by rw [eS, if_neg hx]⟩
  · intro i i0 i1
    by_cases q : i = a
    · rw [q, Aa, eS, if_pos rfl]
    · have z := H1 i i0 i1 q
      rw [Ao i q, eS, if_neg z.2]; exact z.1
  · intro i i0 i1
    by_cases q : i = a
    · rw [q, Aa, Ao _ (by omega)]; exact T (by omega)
    · rw [Ao i q]
      by_cases w : (i - 1) / 2 = a
      · rw [w, Aa]; exact R i i0 i1 w
      · rw [Ao _ w]; exact H2 i i0 i1 q w
  · intro x hx
    unfold mm_HI mm_HX
    rw [eS x, if_neg hx]
    constructor
    · rintro ⟨w1, w2, w3⟩
      by_cases z : S x = a
      · rw [z, Aa] at w3; exact absurd w3.symm hx
      · rw [Ao _ z] at w3; exact ⟨w1, w2, z, w3⟩
    · rintro ⟨w1, w2, w3, w4⟩
      rw [Ao _ w3]; exact ⟨w1, w2, w4⟩
  · unfold mm_HI
    rw [eS c, if_pos rfl, Aa]
    exact ⟨a0, an, rfl⟩
theorem mm_HP_min {F A S : Int → Int} {n : Int} (P : mm_HP F A S n) (k : Nat) : ∀ i : Int, 0 ≤ i → i < n → i ≤ k → F (A 0) ≤ F (A i) := by
  induction k with
  | zero =>
    intro i i0 _ i2
    rw [show i = 0 by omega]
    exact Int.le_refl _
  | succ k ih =>
    intro i i0 i1 i2
    by_cases q : i = 0
    · rw [q]; exact Int.le_refl _
    · exact Int.le_trans (ih ((i - 1) / 2) (by omega) (by omega) (by omega)) (P.2 i (by omega) i1)
/-- a key is put down, or a new one comes to the end: the hole is its place -/
theorem mm_HO_dec {F F' A S : Int → Int} {n a c : Int} (P : mm_HP F A S n) (a0 : 0 ≤ a) (an : a < n) (ha : A a = c) (eF : ∀ j, j ≠ c → F' j = F j) (le : F' c ≤ F c) : mm_HO F' A S n a c ∧ mm_HR F' A n a c := by
  have inj : ∀ i, 0 ≤ i → i < n → i ≠ a → A i ≠ c := fun i i0 i1 i2 w => by
    have x := P.1 i i0 i1
    have y := P.1 a a0 an
    rw [w] at x
    rw [ha] at y
    omega
  refine ⟨⟨fun i i0 i1 i2 => ⟨P.1 i i0 i1, inj i i0 i1 i2⟩, fun i i0 i1 i2 i3 => ?_, fun i i0 i1 i2 a1 => ?_⟩, fun i i0 i1 i2 => ?_⟩
  · rw [eF _ (inj i (by omega) i1 i2), eF _ (inj _ (by omega) (by omega) i3)]; exact P.2 i i0 i1
  · rw [eF _ (inj i (by omega) i1 (by omega)), eF _ (inj _ (by omega) (by omega) (by omega))]
    have x := P.2 i i0 i1
    rw [i2] at x
    exact Int.le_trans (P.2 a a1 an) x
  · rw [eF _ (inj i (by omega) i1 (by omega))]
    have x := P.2 i i0 i1
    rw [i2, ha] at x
    omega
theorem mm_HO_new {F F' A S S' : Int → Int} {n c : Int} (P : mm_HP F A S n) (n0 : 0 ≤ n) (hc : S c = -1) (eF : ∀ j, j ≠ c → F' j = F j) (eS : ∀ j, j ≠ c → S' j = S j) : mm_HO F' A S' (n + 1) n c ∧ mm_HR F' A (n + 1) n c := by
  have inj : ∀ i, 0 ≤ i → i < n → A i ≠ c := fun i i0 i1 w => by
    have x := P.1 i i0 i1
    rw [w, hc] at x
    omega
  refine ⟨⟨fun i i0 i1 i2 => ⟨by rw [eS _ (inj i i0 (by omega))]; exact P.1 i i0 (by omega), inj i i0 (by omega)⟩, fun i i0 i1 i2 i3 => ?_, fun i i0 i1 i2 _ => ?_⟩, fun i i0 i1 i2 => ?_⟩
  · rw [eF _ (inj i (by omega) (by omega)), eF _ (inj _ (by omega) (by omega))]; exact P.2 i i0 (by omega)
  · omega
  · omega
/-- the nearest goes: the last comes into the hole at 0 -/
theorem mm_HO_top {F A S : Int → Int} {n c : Int} (P : mm_HP F A S (n + 1)) (n0 : 0 < n) (hc : A n = c) : mm_HO F A S n 0 c := by
  refine ⟨fun i i0 i1 i2 => ⟨P.1 i i0 (by omega), fun w => ?_⟩, fun i i0 i1 i2 i3 => P.2 i i0 (by omega), fun i i0 i1 i2 z => absurd z (by omega)⟩
  have x := P.1 i i0 (by omega)
  have y := P.1 n (by omega) (by omega)
  rw [w] at x
  rw [hc] at y
  omega
/-! ===== least ways: what is settled is final ===== -/
def mm_SOL (V : Int → Prop) (nx wt : Int → Int → Int) (t : Int) (d : Int → Int) : Prop :=
  d t = 0 ∧ (∀ c, V c → 0 ≤ d c ∧ (d c = 2000000000 ∨ d c ≤ 203000000)) ∧
  (∀ c m, V c → 0 ≤ m → m ≤ 3 → nx c m ≠ -1 → d (nx c m) ≤ 203000000 → d c ≤ d (nx c m) + wt c (nx c m)) ∧
  (∀ c, V c → c ≠ t → d c ≤ 203000000 → ∃ m, 0 ≤ m ∧ m ≤ 3 ∧ nx c m ≠ -1 ∧ d (nx c m) ≤ 203000000 ∧ d c = d (nx c m) + wt c (nx c m))
/-- the moves lead within V, and each takes something, not too much -/
def mm_GR (V : Int → Prop) (nx wt : Int → Int → Int) : Prop :=
  (∀ c m, V c → 0 ≤ m → m ≤ 3 → nx c m ≠ -1 → V (nx c m)) ∧ (∀ c n, V c → V n → 1 ≤ wt c n ∧ wt c n ≤ 5100000)
/-- x: the cell whose moves in are not told yet -/
def mm_DI (V : Int → Prop) (nx wt : Int → Int → Int) (t : Int) (d F A S : Int → Int) (n x : Int) : Prop :=
  mm_HP F A S n ∧
  (∀ i, 0 ≤ i → i < n → V (A i)) ∧
  (∀ c, V c → S c = -1 → F c = 2000000000) ∧
  (∀ c, V c → S c ≠ -1 → ¬ mm_HI A S n c → F c = d c ∧ d c ≤ 203000000) ∧
  (∀ c, V c → mm_HI A S n c → d c ≤ F c ∧ F c ≤ 209000000) ∧
  (∀ c m, V c → 0 ≤ m → m ≤ 3 → nx c m ≠ -1 → nx c m ≠ x → S (nx c m) ≠ -1 → ¬ mm_HI A S n (nx c m) → S c ≠ -1 ∧ F c ≤ F (nx c m) + wt c (nx c m)) ∧
  (S t ≠ -1 ∧ (mm_HI A S n t → F t = 0))
theorem mm_HI_A {F A S : Int → Int} {n i : Int} (P : mm_HP F A S n) (i0 : 0 ≤ i) (i1 : i < n) : mm_HI A S n (A i) := by
  unfold mm_HI
  rw [P.1 i i0 i1]
  exact ⟨i0, i1, rfl⟩
theorem mm_DI_claim {V : Int → Prop} {nx wt : Int → Int → Int} {t n : Int} {d F A S : Int → Int} (G : mm_GR V nx wt) (Z : mm_SOL V nx wt t d) (D : mm_DI V nx wt t d F A S n (-1)) (k : Nat) : ∀ c, V c → d c ≤ k → d c ≤ 203000000 → (S c ≠ -1 ∧ ¬ mm_HI A S n c) ∨ ∃ y, V y ∧ mm_HI A S n y ∧ F y ≤ d c := by
  obtain ⟨D1, D2, D3, D4, D5, D6, D7, D8⟩ := D
  obtain ⟨Z1, Z2, Z3, Z4⟩ := Z
  induction k with
  | zero =>
    intro c vc dk df
    by_cases q : c = t
    · subst q
      by_cases w : mm_HI A S n c
      · exact Or.inr ⟨c, vc, w, by rw [D8 w, Z1]; exact Int.le_refl _⟩
      · exact Or.inl ⟨D7, w⟩
    · obtain ⟨m, m0, m3, mx, md, me⟩ := Z4 c vc q df
      have vn := G.1 c m vc m0 m3 mx
      have := (Z2 _ vn).1
      have := (G.2 c _ vc vn).1
      exfalso
      have := dk
      omega
  | succ k ih =>
    intro c vc dk df
    by_cases q : c = t
    · subst q
      by_cases w : mm_HI A S n c
      · exact Or.inr ⟨c, vc, w, by rw [D8 w, Z1]; exact Int.le_refl _⟩
      · exact Or.inl ⟨D7, w⟩
    · obtain ⟨m, m0, m3, mx, md, me⟩ := Z4 c vc q df
      have vn := G.1 c m vc m0 m3 mx
      have w1 := (G.2 c _ vc vn).1
      rcases ih (nx c m) vn (by omega) md with ⟨s1, s2⟩ | ⟨y, y1, y2, y3⟩
      · have e := D6 c m vc m0 m3 mx mx s1 s2
        have f := (D4 _ vn s1 s2).1
        by_cases w : mm_HI A S n c
        · exact Or.inr ⟨c, vc, w, by omega⟩
        · exact Or.inl ⟨e.1, w⟩
      · exact Or.inr ⟨y, y1, y2, by omega⟩
theorem mm_DI_take {V : Int → Prop} {nx wt : Int → Int → Int} {t n n' c : Int} {d F A S A' S' : Int → Int} (G : mm_GR V nx wt) (Z : mm_SOL V nx wt t d) (D : mm_DI V nx wt t d F A S n (-1)) (n0 : 0 < n) (hc : c = A 0) (P : mm_HP F A' S' n') (mem : ∀ z, z ≠ c → (mm_HI A' S' n' z ↔ mm_HI A S n z)) (nc : ¬ mm_HI A' S' n' c) (sl : ∀ z, S' z = -1 ↔ S z = -1) : V c ∧ F c = d c ∧ d c ≤ 203000000 ∧ S' c ≠ -1 ∧ mm_DI V nx wt t d F A' S' n' c := by
  have cl := mm_DI_claim G Z D
  obtain ⟨D1, D2, D3, D4, D5, D6, D7, D8⟩ := D
  have hi : mm_HI A S n c := by rw [hc]; exact mm_HI_A D1 (by omega) n0
  have vc : V c := by rw [hc]; exact D2 0 (by omega) n0
  have b := D5 c vc hi
  have z2 := Z.2.1 c vc
  have fin : d c ≤ 203000000 := by omega
  have eq : F c = d c := by
    by_cases q : d c < F c
    · exfalso
      rcases cl (d c).toNat c vc (by omega) fin with ⟨_, s⟩ | ⟨y, y1, y2, y3⟩
      · exact s hi
      · have mn := mm_HP_min D1 (S y).toNat (S y) y2.1 y2.2.1 (by have := y2.1; omega)
        rw [y2.2.2, ← hc] at mn
        omega
    · omega
  have sc : S c ≠ -1 := by have := hi.1; omega
  refine ⟨vc, eq, fin, fun w => sc ((sl c).mp w), P, ?_, ?_, ?_, ?_, ?_, ?_, ?_⟩
  · intro i i0 i1
    have x := mm_HI_A P i0 i1
    have y : A' i ≠ c := fun w => by rw [w] at x; exact nc x
    have z := (mem _ y).mp x
    rw [← z.2.2]
    exact D2 _ z.1 z.2.1
  · intro z vz s
    exact D3 z vz ((sl z).mp s)
  · intro z vz s h
    by_cases q : z = c
    · rw [q]; exact ⟨eq, fin⟩
    · exact D4 z vz (fun w => s ((sl z).mpr w)) (fun w => h ((mem z q).mpr w))
  · intro z vz h
    have q : z ≠ c := fun w => by rw [w] at h; exact nc h
    exact D5 z vz ((mem z q).mp h)
  · intro z m vz m0 m3 mx mc s h
    have e := D6 z m vz m0 m3 mx mx (fun w => s ((sl _).mpr w)) (fun w => h ((mem _ mc).mpr w))
    exact ⟨fun w => e.1 ((sl z).mp w), e.2⟩
  · exact fun w => D7 ((sl t).mp w)
  · intro h
    have q : t ≠ c := fun w => by rw [w] at h; exact nc h
    exact D8 ((mem t q).mp h)
/-- an offer that changes nothing -/
theorem mm_DI_same {V : Int → Prop} {nx wt : Int → Int → Int} {t n x y k : Int} {d F A S : Int → Int} (D : mm_DI V nx wt t d F A S n x) (vy : V y) (hk : k ≤ 209000000) (ge : F y ≤ k) : S y ≠ -1 := fun w => by
  have := D.2.2.1 y vy w
  omega
theorem mm_DI_offer {V : Int → Prop} {nx wt : Int → Int → Int} {t n n' x y k : Int} {d F A S F' A' S' : Int → Int} (G : mm_GR V nx wt) (Z : mm_SOL V nx wt t d) (D : mm_DI V nx wt t d F A S n x) (vx : V x) (sx : S x ≠ -1) (hx : ¬ mm_HI A S n x) (vy : V y) (ed : ∃ m, 0 ≤ m ∧ m ≤ 3 ∧ nx y m = x) (xn : x ≠ -1) (hk : k = F x + wt y x) (lt : k < F y) (P : mm_HP F' A' S' n') (mem : ∀ z, z ≠ y → (mm_HI A' S' n' z ↔ mm_HI A S n z)) (iy : mm_HI A' S' n' y) (sl : ∀ z, z ≠ y → (S' z = -1 ↔ S z = -1)) (eF : ∀ z, z ≠ y → F' z = F z) (ey : F' y = k) : mm_DI V nx wt t d F' A' S' n' x ∧ x ≠ y ∧ S' y ≠ -1 := by
  obtain ⟨D1, D2, D3, D4, D5, D6, D7, D8⟩ := D
  have dx := D4 x vx sx hx
  have w1 := G.2 y x vy vx
  obtain ⟨m9, m90, m93, m9x⟩ := ed
  have dy : d y ≤ d x + wt y x := by
    have := Z.2.2.1 y m9 vy m90 m93 (by rw [m9x]; exact xn) (by rw [m9x]; exact dx.2)
    rw [m9x] at this
    exact this
  have ny : S y = -1 ∨ mm_HI A S n y := by
    by_cases q : S y = -1
    · exact Or.inl q
    · by_cases w : mm_HI A S n y
      · exact Or.inr w
      · exfalso
        have := (D4 y vy q w).1
        omega
  have xy : x ≠ y := fun w => by
    rcases ny with q | q
    · rw [← w] at q; exact sx q
    · rw [← w] at q; exact hx q
  have sy : S' y ≠ -1 := by have := iy.1; omega
  have d0 := (Z.2.1 x vx).1
  refine ⟨⟨P, ?_, ?_, ?_, ?_, ?_, ?_, ?_⟩, xy, sy⟩
  · intro i i0 i1
    by_cases q : A' i = y
    · rw [q]; exact vy
    · have z := (mem _ q).mp (mm_HI_A P i0 i1)
      rw [← z.2.2]
      exact D2 _ z.1 z.2.1
  · intro z vz s
    have q : z ≠ y := fun w => by rw [w] at s; exact sy s
    rw [eF z q]; exact D3 z vz ((sl z q).mp s)
  · intro z vz s h
    have q : z ≠ y := fun w => by rw [w] at h; exact h iy
    rw [eF z q]; exact D4 z vz (fun w => s ((sl z q).mpr w)) (fun w => h ((mem z q).mpr w))
  · intro z vz h
    by_cases q : z = y
    · rw [q, ey]; exact ⟨by omega, by omega⟩
    · rw [eF z q]; exact D5 z vz ((mem z q).mp h)
  · intro z m vz m0 m3 mx mc s h
    have q : nx z m ≠ y := fun w => by rw [w] at h; exact h iy
    have e := D6 z m vz m0 m3 mx mc (fun w => s ((sl _ q).mpr w)) (fun w => h ((mem _ q).mpr w))
    rw [eF _ q]
    by_cases r : z = y
    · rw [r, ey]
      rw [r] at e
      exact ⟨sy, by omega⟩
    · rw [eF z r]; exact ⟨fun w => e.1 ((sl z r).mp w), e.2⟩
  · by_cases q : t = y
    · rw [q]; exact sy
    · exact fun w => D7 ((sl t q).mp w)
  · intro h
    by_cases q : t = y
    · exfalso
      rcases ny with r | r
      · rw [← q] at r; exact D7 r
      · rw [← q] at r
        have := D8 r
        rw [q] at this
        omega
    · rw [eF t q]; exact D8 ((mem t q).mp h)
theorem mm_DI_done {V : Int → Prop} {nx wt : Int → Int → Int} {t n x : Int} {d F A S : Int → Int} (D : mm_DI V nx wt t d F A S n x) (q : ∀ c m, V c → 0 ≤ m → m ≤ 3 → nx c m = x → S c ≠ -1 ∧ F c ≤ F x + wt c x) : mm_DI V nx wt t d F A S n (-1) := by
  obtain ⟨D1, D2, D3, D4, D5, D6, D7⟩ := D
  refine ⟨D1, D2, D3, D4, D5, fun c m vc m0 m3 mx _ s h => ?_, D7⟩
  by_cases w : nx c m = x
  · rw [w]; exact q c m vc m0 m3 w
  · exact D6 c m vc m0 m3 mx w s h
theorem mm_DI_end {V : Int → Prop} {nx wt : Int → Int → Int} {t n : Int} {d F A S : Int → Int} (G : mm_GR V nx wt) (Z : mm_SOL V nx wt t d) (D : mm_DI V nx wt t d F A S n (-1)) (n0 : n ≤ 0) (c : Int) (vc : V c) : F c = d c := by
  have cl := mm_DI_claim G Z D
  obtain ⟨D1, D2, D3, D4, D5, D6, D7, D8⟩ := D
  have no : ∀ y, ¬ mm_HI A S n y := fun y w => by have := w.1; have := w.2.1; omega
  by_cases q : S c = -1
  · rw [D3 c vc q]
    rcases (Z.2.1 c vc).2 with w | w
    · exact w.symm
    · exfalso
      have := (Z.2.1 c vc).1
      rcases cl (d c).toNat c vc (by omega) w with ⟨s, _⟩ | ⟨y, _, y2, _⟩
      · exact s q
      · exact no y y2
  · exact (D4 c vc q (no c)).1
theorem mm_DI_set {V : Int → Prop} {nx wt : Int → Int → Int} {t n x c : Int} {d F A S : Int → Int} (D : mm_DI V nx wt t d F A S n x) (vc : V c) (s : S c ≠ -1) (h : ¬ mm_HI A S n c) : F c = d c := (D.2.2.2.1 c vc s h).1
/-- the first offer: the goal, at 0 -/
theorem mm_DI_ini {V : Int → Prop} {nx wt : Int → Int → Int} {t : Int} {d F A S : Int → Int} (G : mm_GR V nx wt) (Z : mm_SOL V nx wt t d) (vt : V t) (P : mm_HP F A S 1) (it : mm_HI A S 1 t) (ft : F t = 0) (sl : ∀ z, V z → z ≠ t → S z = -1) (ef : ∀ z, V z → z ≠ t → F z = 2000000000) : mm_DI V nx wt t d F A S 1 (-1) := by
  have o : ∀ z, mm_HI A S 1 z → z = t := fun z w => by
    have e : S z = S t := by have := w.1; have := w.2.1; have := it.1; have := it.2.1; omega
    rw [← w.2.2, e, it.2.2]
  refine ⟨P, fun i i0 i1 => ?_, fun c vc s => ?_, fun c vc s h => ?_, fun c vc h => ?_, fun c m vc m0 m3 mx _ s h => ?_, ?_, fun _ => ft⟩
  · rw [o _ (mm_HI_A P i0 i1)]; exact vt
  · by_cases q : c = t
    · rw [q] at s; have := it.1; omega
    · exact ef c vc q
  · by_cases q : c = t
    · rw [q] at h; exact absurd it h
    · exact absurd (sl c vc q) s
  · rw [o c h, ft, Z.1]; exact ⟨by decide, by decide⟩
  · by_cases q : nx c m = t
    · rw [q] at h; exact absurd it h
    · exact absurd (sl _ (G.1 c m vc m0 m3 mx) q) s
  · have := it.1; omega
/-! ===== the class's least ways: rise, sink, offer, take ===== -/
def mm_riP (h : mH) (c a : Int) : Prop := mm_HO (h.2.1 8) (h.2.1 9) (h.2.1 10) (h.1 7 7) a c ∧ mm_HR (h.2.1 8) (h.2.1 9) (h.1 7 7) a c ∧ 0 ≤ a ∧ a < h.1 7 7
def mm_RI (h h1 : mH) (c a0 a : Int) : Prop := mm_HO (h.2.1 8) (h1.2.1 9) (h1.2.1 10) (h.1 7 7) a c ∧ mm_HR (h.2.1 8) (h1.2.1 9) (h.1 7 7) a c ∧ 0 ≤ a ∧ a < h.1 7 7 ∧ (∀ x, mm_HX (h1.2.1 9) (h1.2.1 10) (h.1 7 7) a x ↔ mm_HX (h.2.1 9) (h.2.1 10) (h.1 7 7) a0 x) ∧ (∀ x, h1.2.1 10 x = -1 ↔ h.2.1 10 x = -1)
theorem mm_RI_0 {h : mH} {c a : Int} (P : mm_riP h c a) : mm_RI h h c a a := ⟨P.1, P.2.1, P.2.2.1, P.2.2.2, fun _ => Iff.rfl, fun _ => Iff.rfl⟩
theorem mm_mv_A {h1 h2 h3 : mH} {a u : Int} (e2 : h2 = mm_pa h1 9 a (h1.2.1 9 u)) (e3 : h3 = mm_pa h2 10 (h2.2.1 9 a) a) : (∀ j, h3.2.1 9 j = if j = a then h1.2.1 9 u else h1.2.1 9 j) ∧ (∀ j, h3.2.1 10 j = if j = h1.2.1 9 u then a else h1.2.1 10 j) := by
  have x : h2.2.1 9 a = h1.2.1 9 u := by rw [e2]; exact mm_pa_same _ _ _ _
  refine ⟨fun j => ?_, fun j => ?_⟩
  · rw [e3, mm_pa_o 9 10 (by decide), e2]
    by_cases q : j = a
    · rw [if_pos q, q, mm_pa_same]
    · rw [if_neg q, mm_pa_j 9 q]
  · rw [e3, x]
    by_cases q : j = h1.2.1 9 u
    · rw [if_pos q, q, mm_pa_same]
    · rw [if_neg q, mm_pa_j 10 q, e2, mm_pa_o 10 9 (by decide)]
theorem mm_RI_up {h h1 h2 h3 : mH} {c a0 a u : Int} (W : mm_RI h h1 c a0 a) (e2 : h2 = mm_pa h1 9 a (h1.2.1 9 u)) (e3 : h3 = mm_pa h2 10 (h2.2.1 9 a) a) (ha : 0 < a) (hu : u = (a - 1) / 2) (lt : h.2.1 8 c < h.2.1 8 (h1.2.1 9 u)) : mm_RI h h3 c a0 u := by
  obtain ⟨W1, W2, W3, W4, W5, W6⟩ := W
  obtain ⟨eA, eS⟩ := mm_mv_A e2 e3
  have k := mm_HO_up W1 W2 ha W4 hu lt eA eS
  have m := mm_HX_mv W1 W3 W4 (k := u) (by omega) (by omega) (by omega) eA eS
  exact ⟨k.1, k.2, by omega, by omega, fun x => (m.1 x).trans (W5 x), fun x => (m.2 x).trans (W6 x)⟩
def mm_RE7 (h h2 : mH) (c a : Int) : Prop := mm_HP (h.2.1 8) (h2.2.1 9) (h2.2.1 10) (h.1 7 7) ∧ (∀ x, x ≠ c → (mm_HI (h2.2.1 9) (h2.2.1 10) (h.1 7 7) x ↔ mm_HX (h.2.1 9) (h.2.1 10) (h.1 7 7) a x)) ∧ mm_HI (h2.2.1 9) (h2.2.1 10) (h.1 7 7) c ∧ (∀ x, x ≠ c → (h2.2.1 10 x = -1 ↔ h.2.1 10 x = -1))
theorem mm_put_A {h1 h2 h3 : mH} {a c : Int} (e2 : h2 = mm_pa h1 9 a c) (e3 : h3 = mm_pa h2 10 c a) : (∀ j, h3.2.1 9 j = if j = a then c else h1.2.1 9 j) ∧ (∀ j, h3.2.1 10 j = if j = c then a else h1.2.1 10 j) := by
  refine ⟨fun j => ?_, fun j => ?_⟩
  · rw [e3, mm_pa_o 9 10 (by decide), e2]
    by_cases q : j = a
    · rw [if_pos q, q, mm_pa_same]
    · rw [if_neg q, mm_pa_j 9 q]
  · rw [e3]
    by_cases q : j = c
    · rw [if_pos q, q, mm_pa_same]
    · rw [if_neg q, mm_pa_j 10 q, e2, mm_pa_o 10 9 (by decide)]
theorem mm_RI_end {h h1 h2 h3 : mH} {c a0 a : Int} (W : mm_RI h h1 c a0 a) (T : mm_HS (h.2.1 8) (h1.2.1 9) a c) (e2 : h2 = mm_pa h1 9 a c) (e3 : h3 = mm_pa h2 10 c a) : mm_RE7 h h3 c a0 := by
  obtain ⟨W1, W2, W3, W4, W5, W6⟩ := W
  obtain ⟨eA, eS⟩ := mm_put_A e2 e3
  obtain ⟨k1, k2, k3, k4⟩ := mm_HO_end W1 W2 T W3 W4 eA eS
  exact ⟨k1, fun x hx => (k2 x hx).trans (W5 x), k3, fun x hx => by rw [k4 x hx]; exact W6 x⟩
/-! sink -/
def mm_skP (h : mH) (c : Int) : Prop := mm_HO (h.2.1 8) (h.2.1 9) (h.2.1 10) (h.1 7 7) 0 c ∧ 0 < h.1 7 7
def mm_SI (h h1 : mH) (c a : Int) : Prop := mm_HO (h.2.1 8) (h1.2.1 9) (h1.2.1 10) (h.1 7 7) a c ∧ mm_HS (h.2.1 8) (h1.2.1 9) a c ∧ 0 ≤ a ∧ a < h.1 7 7 ∧ (∀ x, mm_HX (h1.2.1 9) (h1.2.1 10) (h.1 7 7) a x ↔ mm_HX (h.2.1 9) (h.2.1 10) (h.1 7 7) 0 x) ∧ (∀ x, h1.2.1 10 x = -1 ↔ h.2.1 10 x = -1)
theorem mm_SI_0 {h : mH} {c : Int} (P : mm_skP h c) : mm_SI h h c 0 := ⟨P.1, fun q => absurd q (by decide), Int.le_refl _, P.2, fun _ => Iff.rfl, fun _ => Iff.rfl⟩
/-- the lesser child of a -/
def mm_lc (h : mH) (a k : Int) : Prop := (k = 2 * a + 1 ∧ (h.1 7 7 ≤ 2 * a + 1 + 1 ∨ h.2.1 8 (h.2.1 9 (2 * a + 1)) ≤ h.2.1 8 (h.2.1 9 (2 * a + 1 + 1)))) ∨ (k = 2 * a + 1 + 1 ∧ 2 * a + 1 + 1 < h.1 7 7 ∧ h.2.1 8 (h.2.1 9 (2 * a + 1 + 1)) < h.2.1 8 (h.2.1 9 (2 * a + 1)))
theorem mm_lc_mn {h : mH} {a k : Int} (L : mm_lc h a k) (i : Int) (i1 : i < h.1 7 7) (i2 : (i - 1) / 2 = a) (i0 : 0 < i) : h.2.1 8 (h.2.1 9 k) ≤ h.2.1 8 (h.2.1 9 i) := by
  have q : i = 2 * a + 1 ∨ i = 2 * a + 1 + 1 := by omega
  rcases L with ⟨l1, l2⟩ | ⟨l1, l2, l3⟩
  · rw [l1]
    rcases q with q | q
    · rw [q]; exact Int.le_refl _
    · rw [q] at i1 ⊢
      rcases l2 with l2 | l2
      · omega
      · exact l2
  · rw [l1]
    rcases q with q | q
    · rw [q]; omega
    · rw [q]; exact Int.le_refl _
theorem mm_SI_dn {h h1 h2 h3 : mH} {c a k : Int} (W : mm_SI h h1 c a) (L : mm_lc h1 a k) (en : h1.1 7 7 = h.1 7 7) (eF : ∀ j, h1.2.1 8 j = h.2.1 8 j) (kn : k < h.1 7 7) (e2 : h2 = mm_pa h1 9 a (h1.2.1 9 k)) (e3 : h3 = mm_pa h2 10 (h2.2.1 9 a) a) (lt : h.2.1 8 (h1.2.1 9 k) < h.2.1 8 c) : mm_SI h h3 c k := by
  obtain ⟨W1, W2, W3, W4, W5, W6⟩ := W
  obtain ⟨eA, eS⟩ := mm_mv_A e2 e3
  have kk : k = 2 * a + 1 ∨ k = 2 * a + 1 + 1 := by rcases L with l | l <;> omega
  have d := mm_HO_dn W1 (k := k) (by omega) kn (by omega) lt (fun i i0 i1 i2 => by
    have z := mm_lc_mn L i (by omega) i2 i0
    rw [eF, eF] at z
    exact z) eA eS
  have m := mm_HX_mv W1 W3 W4 (k := k) (by omega) kn (by omega) eA eS
  exact ⟨d.1, d.2, by omega, kn, fun x => (m.1 x).trans (W5 x), fun x => (m.2 x).trans (W6 x)⟩
theorem mm_SI_end {h h1 h2 h3 : mH} {c a k : Int} (W : mm_SI h h1 c a) (L : mm_lc h1 a k) (en : h1.1 7 7 = h.1 7 7) (eF : ∀ j, h1.2.1 8 j = h.2.1 8 j) (st : h.1 7 7 ≤ k ∨ h.2.1 8 c ≤ h.2.1 8 (h1.2.1 9 k)) (e2 : h2 = mm_pa h1 9 a c) (e3 : h3 = mm_pa h2 10 c a) : mm_RE7 h h3 c 0 := by
  obtain ⟨W1, W2, W3, W4, W5, W6⟩ := W
  obtain ⟨eA, eS⟩ := mm_put_A e2 e3
  obtain ⟨k1, k2, k3, k4⟩ := mm_HO_end W1 (fun i i0 i1 i2 => by
    have kk : k = 2 * a + 1 ∨ (k = 2 * a + 1 + 1 ∧ 2 * a + 1 + 1 < h1.1 7 7) := by rcases L with l | l <;> omega
    have z := mm_lc_mn L i (by omega) i2 i0
    rw [eF, eF] at z
    rcases st with s | s
    · exfalso; omega
    · omega) W2 W3 W4 eA eS
  exact ⟨k1, fun x hx => (k2 x hx).trans (W5 x), k3, fun x hx => by rw [k4 x hx]; exact W6 x⟩
/-! offer -/
def mm_hp (h : mH) : Prop := mm_HP (h.2.1 8) (h.2.1 9) (h.2.1 10) (h.1 7 7)
def mm_hi (h : mH) (x : Int) : Prop := mm_HI (h.2.1 9) (h.2.1 10) (h.1 7 7) x
def mm_ofP (h : mH) (c : Int) : Prop := mm_hp h ∧ (h.2.1 10 c = -1 ∨ mm_hi h c)
def mm_OF (h h2 : mH) (c k : Int) : Prop := mm_hp h2 ∧ (∀ z, z ≠ c → (mm_hi h2 z ↔ mm_hi h z)) ∧ mm_hi h2 c ∧ (∀ z, z ≠ c → (h2.2.1 10 z = -1 ↔ h.2.1 10 z = -1)) ∧ (∀ z, z ≠ c → h2.2.1 8 z = h.2.1 8 z) ∧ h2.2.1 8 c = k
/-- behind the key, before rise -/
def mm_OG (h h1 : mH) (c k : Int) : Prop := mm_riP h1 c (h1.2.1 10 c) ∧ (∀ z, z ≠ c → (mm_HX (h1.2.1 9) (h1.2.1 10) (h1.1 7 7) (h1.2.1 10 c) z ↔ mm_hi h z)) ∧ (∀ z, z ≠ c → (h1.2.1 10 z = -1 ↔ h.2.1 10 z = -1)) ∧ (∀ z, z ≠ c → h1.2.1 8 z = h.2.1 8 z) ∧ h1.2.1 8 c = k
theorem mm_OG_dec {h h1 : mH} {c k : Int} (P : mm_ofP h c) (e : h1 = mm_pa h 8 c k) (ne : h1.2.1 10 c ≠ -1) (lt : k < h.2.1 8 c) : mm_OG h h1 c k := by
  have e8 : ∀ z, z ≠ c → h1.2.1 8 z = h.2.1 8 z := fun z hz => by rw [e]; exact mm_pa_j 8 hz
  have e8c : h1.2.1 8 c = k := by rw [e]; exact mm_pa_same _ _ _ _
  have e9 : h1.2.1 9 = h.2.1 9 := funext fun j => by rw [e]; exact mm_pa_o 9 8 (by decide) j
  have e10 : h1.2.1 10 = h.2.1 10 := funext fun j => by rw [e]; exact mm_pa_o 10 8 (by decide) j
  have en : h1.1 7 7 = h.1 7 7 := by rw [e]; rfl
  rw [e10] at ne
  have hi : mm_hi h c := P.2.resolve_left ne
  have z := mm_HO_dec (F' := h1.2.1 8) P.1 hi.1 hi.2.1 hi.2.2 e8 (by omega)
  refine ⟨⟨by rw [e9, e10, en]; exact z.1, by rw [e9, e10, en]; exact z.2, by rw [e10]; exact hi.1, by rw [e10, en]; exact hi.2.1⟩, fun x hx => ?_, fun x hx => by rw [e10], e8, e8c⟩
  rw [e9, e10, en]
  constructor
  · rintro ⟨w1, w2, w3, w4⟩; exact ⟨w1, w2, w4⟩
  · rintro ⟨w1, w2, w4⟩
    refine ⟨w1, w2, fun q => hx ?_, w4⟩
    rw [← w4, q, hi.2.2]
theorem mm_OG_new {h h1 h2 h3 : mH} {c k n n' : Int} (P : mm_ofP h c) (e1 : h1 = mm_pa h 8 c k) (e2 : h2 = mm_pa h1 10 c n) (e3 : h3 = mm_pf h2 7 7 n') (hn : n = h.1 7 7) (hn' : n' = h.1 7 7 + 1) (n0 : 0 ≤ h.1 7 7) (hc : h.2.1 10 c = -1) : mm_OG h h3 c k := by
  have e8 : ∀ z, z ≠ c → h3.2.1 8 z = h.2.1 8 z := fun z hz => by rw [e3]; show h2.2.1 8 z = _; rw [e2, mm_pa_o 8 10 (by decide), e1]; exact mm_pa_j 8 hz
  have e8c : h3.2.1 8 c = k := by rw [e3]; show h2.2.1 8 c = _; rw [e2, mm_pa_o 8 10 (by decide), e1]; exact mm_pa_same _ _ _ _
  have e9 : h3.2.1 9 = h.2.1 9 := funext fun j => by rw [e3]; show h2.2.1 9 j = _; rw [e2, mm_pa_o 9 10 (by decide), e1]; exact mm_pa_o 9 8 (by decide) j
  have e10 : ∀ z, z ≠ c → h3.2.1 10 z = h.2.1 10 z := fun z hz => by rw [e3]; show h2.2.1 10 z = _; rw [e2, mm_pa_j 10 hz, e1]; exact mm_pa_o 10 8 (by decide) z
  have e10c : h3.2.1 10 c = h.1 7 7 := by rw [e3]; show h2.2.1 10 c = _; rw [e2, mm_pa_same, hn]
  have en : h3.1 7 7 = h.1 7 7 + 1 := by rw [e3, mm_pf_same, hn']
  have z := mm_HO_new (F' := h3.2.1 8) (S' := h3.2.1 10) P.1 n0 hc e8 e10
  refine ⟨⟨by rw [e9, e10c, en]; exact z.1, by rw [e9, e10c, en]; exact z.2, by rw [e10c]; exact n0, by rw [e10c, en]; omega⟩, fun x hx => ?_, fun x hx => by rw [e10 x hx], e8, e8c⟩
  rw [e9, e10c, en]
  unfold mm_HX mm_hi mm_HI
  rw [e10 x hx]
  constructor
  · rintro ⟨w1, w2, w3, w4⟩; exact ⟨w1, by omega, w4⟩
  · rintro ⟨w1, w2, w4⟩; exact ⟨w1, by omega, by omega, w4⟩
theorem mm_OF_of {h h1 h2 : mH} {c k a : Int} (O : mm_OG h h1 c k) (ha : a = h1.2.1 10 c) (R : mm_riP h1 c a → mm_RE7 h1 h2 c a) (eF : ∀ j, h2.2.1 8 j = h1.2.1 8 j) (en : h2.1 7 7 = h1.1 7 7) : mm_OF h h2 c k := by
  subst ha
  obtain ⟨R1, R2, R3, R4⟩ := R O.1
  have e8 : h2.2.1 8 = h1.2.1 8 := funext eF
  refine ⟨by unfold mm_hp; rw [e8, en]; exact R1, fun z hz => ?_, by unfold mm_hi; rw [en]; exact R3, fun z hz => (R4 z hz).trans (O.2.2.1 z hz), fun z hz => (eF z).trans (O.2.2.2.1 z hz), (eF c).trans O.2.2.2.2⟩
  unfold mm_hi
  rw [en]
  exact (R2 z hz).trans (O.2.1 z hz)
/-! take -/
def mm_TN (h h2 : mH) (r : Int) : Prop := mm_hp h2 ∧ (∀ z, z ≠ r → (mm_hi h2 z ↔ mm_hi h z)) ∧ ¬ mm_hi h2 r ∧ (∀ z, h2.2.1 10 z = -1 ↔ h.2.1 10 z = -1)
theorem mm_TN_1 {h h1 : mH} {n' : Int} (P : mm_hp h) (e : h1 = mm_pf h 7 7 n') (hn : n' = h.1 7 7 - 1) (n1 : h.1 7 7 = 1) : mm_TN h h1 (h.2.1 9 0) := by
  have en : h1.1 7 7 = 0 := by rw [e, mm_pf_same]; omega
  have no : ∀ z, ¬ mm_hi h1 z := fun z w => by
    have x := w.1
    have y := w.2.1
    rw [en] at y
    omega
  refine ⟨⟨fun i i0 i1 => by rw [en] at i1; omega, fun i i0 i1 => by rw [en] at i1; omega⟩, fun z hz => ⟨fun w => absurd w (no z), fun w => ?_⟩, no _, fun z => by rw [e]; rfl⟩
  exfalso
  apply hz
  have x := w.1
  have y := w.2.1
  have s : h.2.1 10 z = 0 := by omega
  rw [← w.2.2, s]
theorem mm_TN_s {h h1 h2 : mH} {n' c : Int} (P : mm_hp h) (e : h1 = mm_pf h 7 7 n') (hn : n' = h.1 7 7 - 1) (n1 : 1 < h.1 7 7) (hc : c = h.2.1 9 (h.1 7 7 - 1)) (R : mm_skP h1 c → mm_RE7 h1 h2 c 0) (eF : ∀ j, h2.2.1 8 j = h1.2.1 8 j) (en : h2.1 7 7 = h1.1 7 7) : mm_TN h h2 (h.2.1 9 0) := by
  have e8 : h1.2.1 8 = h.2.1 8 := by rw [e]; rfl
  have e9 : h1.2.1 9 = h.2.1 9 := by rw [e]; rfl
  have e10 : h1.2.1 10 = h.2.1 10 := by rw [e]; rfl
  have e7 : h1.1 7 7 = h.1 7 7 - 1 := by rw [e, mm_pf_same, hn]
  have pc := P.1 (h.1 7 7 - 1) (by omega) (by omega)
  have p0 := P.1 0 (by omega) (by omega)
  rw [← hc] at pc
  have cr : c ≠ h.2.1 9 0 := fun w => by rw [w, p0] at pc; omega
  have P' : mm_HP (h.2.1 8) (h.2.1 9) (h.2.1 10) (h.1 7 7 - 1 + 1) := by rw [show h.1 7 7 - 1 + 1 = h.1 7 7 by omega]; exact P
  have t := mm_HO_top (c := c) P' (by omega) hc.symm
  obtain ⟨R1, R2, R3, R4⟩ := R ⟨by rw [e8, e9, e10, e7]; exact t, by rw [e7]; omega⟩
  have q8 : h2.2.1 8 = h1.2.1 8 := funext eF
  have mem : ∀ z, z ≠ c → (mm_hi h2 z ↔ mm_HX (h.2.1 9) (h.2.1 10) (h.1 7 7 - 1) 0 z) := fun z hz => by
    unfold mm_hi
    rw [en]
    have x := R2 z hz
    rw [e9, e10] at x
    rw [← e7]
    exact x
  refine ⟨by unfold mm_hp; rw [q8, en]; exact R1, fun z hz => ?_, fun w => ?_, fun z => ?_⟩
  · by_cases q : z = c
    · rw [q]
      refine ⟨fun _ => ⟨by omega, by omega, by rw [pc]; exact hc.symm⟩, fun _ => ?_⟩
      unfold mm_hi
      rw [en]
      exact R3
    · refine (mem z q).trans ⟨fun w => ⟨w.1, by have := w.2.1; omega, w.2.2.2⟩, fun w => ?_⟩
      obtain ⟨w1, w2, w3⟩ := w
      refine ⟨w1, ?_, fun s => hz ?_, w3⟩
      · by_cases s : h.2.1 10 z = h.1 7 7 - 1
        · rw [s, ← hc] at w3
          exact absurd w3.symm q
        · omega
      · rw [← w3, s]
  · have x := (mem _ (Ne.symm cr)).mp w
    exact x.2.2.1 p0
  · by_cases q : z = c
    · rw [q]
      have x := R3.1
      constructor
      · intro w; rw [w] at x; exact absurd x (by decide)
      · intro w; rw [pc] at w; omega
    · have x := R4 z q
      rw [e10] at x
      exact x
/-! ===== the class's least ways: around a cell, the whole measure ===== -/
def mm_wg (h : mH) (c n : Int) : Int := 512 * mm_sx h c n + 1
theorem mm_bes_in {h : mH} {c m : Int} (v : mm_inl h c) (w20 : h.1 1 5 ≤ 20) (m0 : 0 ≤ m) (m3 : m ≤ 3) (ne : mm_bes h c m ≠ -1) : mm_inl h (mm_bes h c m) ∧ mm_bes h (mm_bes h c m) ((m + 2) % 4) = c := by
  obtain ⟨c0, c1, c2⟩ := v
  have cc : m = 0 ∨ m = 1 ∨ m = 2 ∨ m = 3 := by omega
  rcases cc with r | r | r | r <;> subst r
  · have e : mm_bes h c 0 = if 0 < c / 20 ∧ h.2.1 5 (c - 20) = 0 then c - 20 else -1 := by unfold mm_bes; rw [if_pos rfl]
    by_cases q : 0 < c / 20 ∧ h.2.1 5 (c - 20) = 0
    · rw [if_pos q] at e
      rw [e]
      refine ⟨⟨by omega, by omega, by omega⟩, ?_⟩
      show mm_bes h (c - 20) 2 = c
      unfold mm_bes
      rw [if_neg (by decide), if_neg (by decide), if_pos rfl, if_pos ⟨by omega, q.2⟩]
      omega
    · rw [if_neg q] at e; exact absurd e ne
  · have e : mm_bes h c 1 = if c % 20 < h.1 1 5 - 1 ∧ h.2.1 4 c = 0 then c + 1 else -1 := by unfold mm_bes; rw [if_neg (by decide), if_pos rfl]
    by_cases q : c % 20 < h.1 1 5 - 1 ∧ h.2.1 4 c = 0
    · rw [if_pos q] at e
      rw [e]
      refine ⟨⟨by omega, by omega, by omega⟩, ?_⟩
      show mm_bes h (c + 1) 3 = c
      unfold mm_bes
      rw [if_neg (by decide), if_neg (by decide), if_neg (by decide), if_pos rfl, if_pos ⟨by omega, by rw [show c + 1 - 1 = c by omega]; exact q.2⟩]
      omega
    · rw [if_neg q] at e; exact absurd e ne
  · have e : mm_bes h c 2 = if c / 20 < h.1 1 6 - 1 ∧ h.2.1 5 c = 0 then c + 20 else -1 := by unfold mm_bes; rw [if_neg (by decide), if_neg (by decide), if_pos rfl]
    by_cases q : c / 20 < h.1 1 6 - 1 ∧ h.2.1 5 c = 0
    · rw [if_pos q] at e
      rw [e]
      refine ⟨⟨by omega, by omega, by omega⟩, ?_⟩
      show mm_bes h (c + 20) 0 = c
      unfold mm_bes
      rw [if_pos rfl, if_pos ⟨by omega, by rw [show c + 20 - 20 = c by omega]; exact q.2⟩]
      omega
    · rw [if_neg q] at e; exact absurd e ne
  · have e : mm_bes h c 3 = if 0 < c % 20 ∧ h.2.1 4 (c - 1) = 0 then c - 1 else -1 := by unfold mm_bes; rw [if_neg (by decide), if_neg (by decide), if_neg (by decide), if_pos rfl]
    by_cases q : 0 < c % 20 ∧ h.2.1 4 (c - 1) = 0
    · rw [if_pos q] at e
      rw [e]
      refine ⟨⟨by omega, by omega, by omega⟩, ?_⟩
      show mm_bes h (c - 1) 1 = c
      unfold mm_bes
      rw [if_neg (by decide), if_pos rfl, if_pos ⟨by omega, q.2⟩]
      omega
    · rw [if_neg q] at e; exact absurd e ne
theorem mm_bx_bes {h : mH} {c m : Int} (ne : mm_bx h c m ≠ -1) : mm_bx h c m = mm_bes h c m ∧ mm_bes h c m ≠ -1 ∧ 0 < h.2.1 6 (h.2.1 2 (mm_bes h c m)) := by
  have e : mm_bx h c m = if mm_bes h c m = -1 then -1 else if 0 < h.2.1 6 (h.2.1 2 (mm_bes h c m)) then mm_bes h c m else -1 := rfl
  by_cases q : mm_bes h c m = -1
  · rw [if_pos q] at e; exact absurd e ne
  · rw [if_neg q] at e
    by_cases w : 0 < h.2.1 6 (h.2.1 2 (mm_bes h c m))
    · rw [if_pos w] at e; exact ⟨e, q, w⟩
    · rw [if_neg w] at e; exact absurd e ne
theorem mm_sx_rg {h : mH} (i : mm_inv h) (c8 : h.2.1 6 8 ≤ 9) (a b : Int) : 0 ≤ mm_sx h a b ∧ mm_sx h a b ≤ 990 := by
  have g1 : (0 : Int) ≤ h.2.1 6 (h.2.1 2 b) ∧ h.2.1 6 (h.2.1 2 b) ≤ 99 := i.2.1 6 _
  have g2 : (0 : Int) ≤ h.2.1 6 8 ∧ h.2.1 6 8 ≤ 99 := i.2.1 6 8
  have g3 : (0 : Int) ≤ h.2.1 3 b ∧ h.2.1 3 b ≤ 99 := i.2.1 3 b
  have g4 : (0 : Int) ≤ h.2.1 3 a ∧ h.2.1 3 a ≤ 99 := i.2.1 3 a
  unfold mm_sx mm_cm
  split
  next q =>
    have x := Int.mul_le_mul (show h.2.1 3 b - h.2.1 3 a ≤ 99 by omega) c8 g2.1 (by decide)
    have y := Int.mul_nonneg (show 0 ≤ h.2.1 3 b - h.2.1 3 a by omega) g2.1
    omega
  · omega
theorem mm_gr {h : mH} (i : mm_inv h) (c8 : h.2.1 6 8 ≤ 9) : mm_GR (mm_inl h) (mm_bx h) (mm_wg h) := by
  have w20 : (1 : Int) ≤ h.1 1 5 ∧ h.1 1 5 ≤ 20 := i.1 1 5
  refine ⟨fun c m v m0 m3 ne => ?_, fun c n _ _ => ?_⟩
  · obtain ⟨e, e1, _⟩ := mm_bx_bes ne
    rw [e]
    exact (mm_bes_in v w20.2 m0 m3 e1).1
  · have x := mm_sx_rg i c8 c n
    unfold mm_wg
    omega
abbrev mm_di (h h1 : mH) (t : Int) (d : Int → Int) (x : Int) : Prop := mm_DI (mm_inl h) (mm_bx h) (mm_wg h) t d (h1.2.1 8) (h1.2.1 9) (h1.2.1 10) (h1.1 7 7) x
def mm_OA (h : mH) (x t : Int) (d : Int → Int) : Prop := mm_SOL (mm_inl h) (mm_bx h) (mm_wg h) t d ∧ mm_di h h t d x ∧ mm_inl h x ∧ h.2.1 10 x ≠ -1 ∧ ¬ mm_hi h x ∧ h.2.1 6 8 ≤ 9 ∧ 0 < h.2.1 6 (h.2.1 2 x)
def mm_OB (h h1 : mH) (x t : Int) (d : Int → Int) (k : Int) : Prop := mm_di h h1 t d x ∧ h1.2.1 10 x ≠ -1 ∧ ¬ mm_hi h1 x ∧ h1.2.1 8 x = h.2.1 8 x ∧ (∀ j, 0 ≤ j → j < k → mm_bes h x j ≠ -1 → h1.2.1 10 (mm_bes h x j) ≠ -1 ∧ h1.2.1 8 (mm_bes h x j) ≤ h.2.1 8 x + mm_wg h (mm_bes h x j) x)
theorem mm_OB_0 {h : mH} {x t : Int} {d : Int → Int} (O : mm_OA h x t d) : mm_OB h h x t d 0 := ⟨O.2.1, O.2.2.2.1, O.2.2.2.2.1, rfl, fun j a b => absurd b (by omega)⟩
theorem mm_OB_skip {h h1 : mH} {x t k : Int} {d : Int → Int} (B : mm_OB h h1 x t d k) (e : mm_bes h x k = -1) : mm_OB h h1 x t d (k + 1) := ⟨B.1, B.2.1, B.2.2.1, B.2.2.2.1, fun j a b c => by
  by_cases q : j = k
  · rw [q] at c; exact absurd e c
  · exact B.2.2.2.2 j a (by omega) c⟩
theorem mm_OB_s {h h1 h2 : mH} {x t k y K s : Int} {d : Int → Int} (i : mm_inv h) (O : mm_OA h x t d) (B : mm_OB h h1 x t d k) (k0 : 0 ≤ k) (k3 : k ≤ 3) (hy : y = mm_bes h x k) (yn : y ≠ -1) (hs : s = mm_sx h y x) (hK : K = mm_w (mm_w (h1.2.1 8 x + s * 512) + 1)) (R : (h1.2.1 8 y ≤ K ∧ h2.1 7 7 = h1.1 7 7 ∧ (∀ o j, h2.2.1 o j = h1.2.1 o j)) ∨ (K < h1.2.1 8 y ∧ (mm_ofP h1 y → mm_OF h1 h2 y K))) : mm_OB h h2 x t d (k + 1) := by
  obtain ⟨Z, O2, vx, O4, O5, c8, en⟩ := O
  obtain ⟨B1, B2, B3, B4, B5⟩ := B
  have w20 : (1 : Int) ≤ h.1 1 5 ∧ h.1 1 5 ≤ 20 := i.1 1 5
  have G := mm_gr i c8
  have vb := mm_bes_in vx w20.2 k0 k3 (by rw [← hy]; exact yn)
  rw [← hy] at vb
  have ed : mm_bx h y ((k + 2) % 4) = x := mm_bx_2 vb.2.symm (by have := vx.1; omega) en
  have dx := (B1.2.2.2.1 x vx B2 B3)
  have srg := mm_sx_rg i c8 y x
  have d0 := (Z.2.1 x vx).1
  have eK : K = h1.2.1 8 x + mm_wg h y x := by
    rw [hK, hs, mm_w_id ⟨by rw [mm_w_id ⟨by omega, by omega⟩]; omega, by rw [mm_w_id ⟨by omega, by omega⟩]; omega⟩, mm_w_id ⟨by omega, by omega⟩]
    unfold mm_wg
    omega
  have wtr : mm_wg h y x = 512 * mm_sx h y x + 1 := rfl
  rcases R with ⟨r1, r2, r3⟩ | ⟨r1, r2⟩
  · have f8 : h2.2.1 8 = h1.2.1 8 := funext fun j => r3 8 j
    have f9 : h2.2.1 9 = h1.2.1 9 := funext fun j => r3 9 j
    have f10 : h2.2.1 10 = h1.2.1 10 := funext fun j => r3 10 j
    have sy := mm_DI_same B1 vb.1 (k := K) (by omega) r1
    refine ⟨by unfold mm_di; rw [f8, f9, f10, r2]; exact B1, by rw [f10]; exact B2, by unfold mm_hi; rw [f9, f10, r2]; exact B3, by rw [f8]; exact B4, fun j a b c => ?_⟩
    rw [f8, f10]
    by_cases q : j = k
    · rw [q, ← hy]; exact ⟨sy, by omega⟩
    · exact B5 j a (by omega) c
  · have dyx : d y ≤ d x + mm_wg h y x := by
      have z := Z.2.2.1 y ((k + 2) % 4) vb.1 (by omega) (by omega) (by rw [ed]; have := vx.1; omega) (by rw [ed]; exact dx.2)
      rw [ed] at z
      exact z
    have ny : h1.2.1 10 y = -1 ∨ mm_hi h1 y := by
      by_cases q : h1.2.1 10 y = -1
      · exact Or.inl q
      · by_cases w : mm_hi h1 y
        · exact Or.inr w
        · exfalso
          have := (B1.2.2.2.1 y vb.1 q w).1
          omega
    obtain ⟨f1, f2, f3, f4, f5, f6⟩ := r2 ⟨B1.1, ny⟩
    obtain ⟨D', xy, sy⟩ := mm_DI_offer (k := K) (F' := h2.2.1 8) (A' := h2.2.1 9) (S' := h2.2.1 10) (n' := h2.1 7 7) G Z B1 vx B2 B3 vb.1 ⟨(k + 2) % 4, by omega, by omega, ed⟩ (by have := vx.1; omega) eK r1 f1 f2 f3 f4 f5 f6
    refine ⟨D', fun w => B2 ((f4 x xy).mp w), fun w => B3 ((f2 x xy).mp w), by rw [f5 x xy]; exact B4, fun j a b c => ?_⟩
    by_cases q : mm_bes h x j = y
    · rw [q, f6]; exact ⟨sy, by omega⟩
    · rw [f5 _ q]
      have jk : j ≠ k := fun w => q (by rw [w]; exact hy.symm)
      have z := B5 j a (by omega) c
      exact ⟨fun w => z.1 ((f4 _ q).mp w), z.2⟩
theorem mm_OB_st {h h1 h2 : mH} {x t k y K s : Int} {d : Int → Int} (i : mm_inv h) (O : mm_OA h x t d) (B : mm_OB h h1 x t d k) (k0 : 0 ≤ k) (k3 : k ≤ 3) (hy : y = mm_bes h x k) (yn : y ≠ -1) (hs : s = mm_sx h y x) (hK : K = mm_w (mm_w (h1.2.1 8 x + s * 512) + 1)) (R : (h1.2.1 8 y ≤ K ∧ h2.1 7 7 = h1.1 7 7 ∧ (∀ o j, h2.2.1 o j = h1.2.1 o j)) ∨ (K < h1.2.1 8 y ∧ (mm_ofP h1 y → mm_OF h1 h2 y K))) (z : Int) : (h2.2.1 10 z ≠ -1 ∧ ¬ mm_hi h2 z) ↔ (h1.2.1 10 z ≠ -1 ∧ ¬ mm_hi h1 z) := by
  obtain ⟨Z, O2, vx, O4, O5, c8, en⟩ := O
  obtain ⟨B1, B2, B3, B4, B5⟩ := B
  have w20 : (1 : Int) ≤ h.1 1 5 ∧ h.1 1 5 ≤ 20 := i.1 1 5
  have vb := mm_bes_in vx w20.2 k0 k3 (by rw [← hy]; exact yn)
  rw [← hy] at vb
  have ed : mm_bx h y ((k + 2) % 4) = x := mm_bx_2 vb.2.symm (by have := vx.1; omega) en
  have dx := (B1.2.2.2.1 x vx B2 B3)
  have srg := mm_sx_rg i c8 y x
  have d0 := (Z.2.1 x vx).1
  have eK : K = h1.2.1 8 x + mm_wg h y x := by
    rw [hK, hs, mm_w_id ⟨by rw [mm_w_id ⟨by omega, by omega⟩]; omega, by rw [mm_w_id ⟨by omega, by omega⟩]; omega⟩, mm_w_id ⟨by omega, by omega⟩]
    unfold mm_wg
    omega
  rcases R with ⟨r1, r2, r3⟩ | ⟨r1, r2⟩
  · unfold mm_hi
    rw [show h2.2.1 9 = h1.2.1 9 from funext fun j => r3 9 j, show h2.2.1 10 = h1.2.1 10 from funext fun j => r3 10 j, r2]
  · have dyx : d y ≤ d x + mm_wg h y x := by
      have z := Z.2.2.1 y ((k + 2) % 4) vb.1 (by omega) (by omega) (by rw [ed]; have := vx.1; omega) (by rw [ed]; exact dx.2)
      rw [ed] at z
      exact z
    have ny : h1.2.1 10 y = -1 ∨ mm_hi h1 y := by
      by_cases q : h1.2.1 10 y = -1
      · exact Or.inl q
      · by_cases w : mm_hi h1 y
        · exact Or.inr w
        · exfalso
          have := (B1.2.2.2.1 y vb.1 q w).1
          omega
    obtain ⟨f1, f2, f3, f4, f5, f6⟩ := r2 ⟨B1.1, ny⟩
    by_cases q : z = y
    · rw [q]
      constructor
      · intro w; exact absurd f3 w.2
      · intro w
        rcases ny with n | n
        · exact absurd n w.1
        · exact absurd n w.2
    · rw [f2 z q, Ne, Ne, f4 z q]
theorem mm_OB_end {h h1 : mH} {x t k : Int} {d : Int → Int} (i : mm_inv h) (O : mm_OA h x t d) (B : mm_OB h h1 x t d k) (k4 : 4 ≤ k) : mm_di h h1 t d (-1) := by
  have w20 : (1 : Int) ≤ h.1 1 5 ∧ h.1 1 5 ≤ 20 := i.1 1 5
  refine mm_DI_done B.1 (fun c m v m0 m3 e => ?_)
  have xn : mm_bx h c m ≠ -1 := by rw [e]; have := O.2.2.1.1; omega
  obtain ⟨e1, e2, _⟩ := mm_bx_bes xn
  have r := (mm_bes_in v w20.2 m0 m3 e2).2
  rw [← e1, e] at r
  have z := B.2.2.2.2 ((m + 2) % 4) (by omega) (by omega) (by rw [r]; have := v.1; omega)
  rw [r] at z
  rw [B.2.2.2.1]
  exact z
theorem mm_di_nox {h h1 : mH} {x t : Int} {d : Int → Int} (D : mm_di h h1 t d x) (x0 : 0 ≤ x) (no : ¬ 0 < h.2.1 6 (h.2.1 2 x)) : mm_di h h1 t d (-1) := by
  refine mm_DI_done D (fun c m v m0 m3 e => ?_)
  exfalso
  have xn : mm_bx h c m ≠ -1 := by rw [e]; omega
  obtain ⟨e1, _, e3⟩ := mm_bx_bes xn
  rw [← e1, e] at e3
  exact no e3
/-! the land stays -/
def mm_ldx (h h' : mH) : Prop := h'.1 1 5 = h.1 1 5 ∧ h'.1 1 6 = h.1 1 6 ∧ (∀ j, h'.2.1 2 j = h.2.1 2 j) ∧ (∀ j, h'.2.1 3 j = h.2.1 3 j) ∧ (∀ j, h'.2.1 4 j = h.2.1 4 j) ∧ (∀ j, h'.2.1 5 j = h.2.1 5 j) ∧ (∀ j, h'.2.1 6 j = h.2.1 6 j)
theorem mm_ldx_fr {wf : List (Nat × Nat)} {wa : List Nat} {h h' : mH} (f : mm_fr wf wa h h') (hw : ((1, 5) ∉ wf ∧ (1, 6) ∉ wf) ∧ 2 ∉ wa ∧ 3 ∉ wa ∧ 4 ∉ wa ∧ 5 ∉ wa ∧ 6 ∉ wa) : mm_ldx h h' :=
  ⟨f.1 1 5 hw.1.1, f.1 1 6 hw.1.2, f.2 2 hw.2.1, f.2 3 hw.2.2.1, f.2 4 hw.2.2.2.1, f.2 5 hw.2.2.2.2.1, f.2 6 hw.2.2.2.2.2⟩
theorem mm_ldx_eq {h h' : mH} (e : mm_ldx h h') : mm_inl h' = mm_inl h ∧ mm_bx h' = mm_bx h ∧ mm_wg h' = mm_wg h ∧ mm_bes h' = mm_bes h ∧ mm_sx h' = mm_sx h := by
  obtain ⟨w5, w6, e2, e3, e4, e5, e6⟩ := e
  have b : mm_bes h' = mm_bes h := funext fun c => funext fun m => mm_bes_fr w5 w6 e4 e5
  have s : mm_sx h' = mm_sx h := funext fun c => funext fun m => by unfold mm_sx; rw [e2, e6, e6, e3, e3]
  refine ⟨funext fun c => by unfold mm_inl; rw [w5, w6], funext fun c => funext fun m => by unfold mm_bx; rw [b, e2, e6], funext fun c => funext fun m => by unfold mm_wg; rw [s], b, s⟩
/-! measure -/
def mm_MS (h : mH) (t : Int) (d : Int → Int) : Prop := mm_inl h t ∧ h.2.1 6 8 ≤ 9 ∧ mm_SOL (mm_inl h) (mm_bx h) (mm_wg h) t d
theorem mm_M_take {h h1 h2 h3 : mH} {t r : Int} {d : Int → Int} (i : mm_inv h) (M : mm_MS h t d) (I : mm_di h h1 t d (-1)) (n0 : 0 < h1.1 7 7) (T : mm_hp h1 → mm_TN h1 h2 r) (hr : r = h1.2.1 9 0) (g8 : ∀ j, h2.2.1 8 j = h1.2.1 8 j) (e8 : ∀ j, h3.2.1 8 j = h2.2.1 8 j) (e9 : ∀ j, h3.2.1 9 j = h2.2.1 9 j) (e10 : ∀ j, h3.2.1 10 j = h2.2.1 10 j) (e7 : h3.1 7 7 = h2.1 7 7) : mm_inl h r ∧ h3.2.1 8 r = d r ∧ h3.2.1 10 r ≠ -1 ∧ ¬ mm_hi h3 r ∧ mm_di h h3 t d r := by
  obtain ⟨T1, T2, T3, T4⟩ := T I.1
  have f8 : h2.2.1 8 = h1.2.1 8 := funext g8
  have q8 : h3.2.1 8 = h2.2.1 8 := funext e8
  have q9 : h3.2.1 9 = h2.2.1 9 := funext e9
  have q10 : h3.2.1 10 = h2.2.1 10 := funext e10
  unfold mm_hp at T1
  rw [f8] at T1
  obtain ⟨a1, a2, a3, a4, a5⟩ := mm_DI_take (mm_gr i M.2.1) M.2.2 I n0 hr T1 T2 T3 T4
  refine ⟨a1, by rw [q8, f8]; exact a2, by rw [q10]; exact a4, by unfold mm_hi; rw [q9, q10, e7]; exact T3, ?_⟩
  unfold mm_di
  rw [q8, q9, q10, e7, f8]
  exact a5
theorem mm_M_oa {h h3 : mH} {t r : Int} {d : Int → Int} (L : mm_ldx h h3) (M : mm_MS h t d) (k : mm_inl h r ∧ h3.2.1 8 r = d r ∧ h3.2.1 10 r ≠ -1 ∧ ¬ mm_hi h3 r ∧ mm_di h h3 t d r) (en : 0 < h3.2.1 6 (h3.2.1 2 r)) : mm_OA h3 r t d := by
  obtain ⟨l1, l2, l3, _⟩ := mm_ldx_eq L
  refine ⟨by rw [l1, l2, l3]; exact M.2.2, ?_, by rw [l1]; exact k.1, k.2.2.1, k.2.2.2.1, by rw [L.2.2.2.2.2.2]; exact M.2.1, en⟩
  unfold mm_di
  rw [l1, l2, l3]
  exact k.2.2.2.2
theorem mm_M_ob {h h3 h4 : mH} {t : Int} {d : Int → Int} (L : mm_ldx h h3) (D : mm_di h3 h4 t d (-1)) : mm_di h h4 t d (-1) := by
  obtain ⟨l1, l2, l3, _⟩ := mm_ldx_eq L
  unfold mm_di at D ⊢
  rw [l1, l2, l3] at D
  exact D
theorem mm_M_end {h h1 : mH} {t : Int} {d : Int → Int} (i : mm_inv h) (M : mm_MS h t d) (I : mm_di h h1 t d (-1)) (n0 : h1.1 7 7 ≤ 0) (c : Int) (v : mm_inl h c) : h1.2.1 8 c = d c := mm_DI_end (mm_gr i M.2.1) M.2.2 I n0 c v
theorem mm_M_ini {h h1 h2 : mH} {t : Int} {d : Int → Int} (i : mm_inv h) (M : mm_MS h t d) (A8 : mm_al h1 8 399 2000000000) (A10 : mm_al h1 10 399 (-1)) (n0 : h1.1 7 7 = 0) (t0 : 0 ≤ t ∧ t ≤ 399) (R : (h1.2.1 8 t ≤ 0 ∧ h2.1 7 7 = h1.1 7 7 ∧ (∀ o j, h2.2.1 o j = h1.2.1 o j)) ∨ (0 < h1.2.1 8 t ∧ (mm_ofP h1 t → mm_OF h1 h2 t 0))) : mm_di h h2 t d (-1) := by
  have b5 : (1 : Int) ≤ h.1 1 5 ∧ h.1 1 5 ≤ 20 := i.1 1 5
  have b6 : (1 : Int) ≤ h.1 1 6 ∧ h.1 1 6 ≤ 20 := i.1 1 6
  have rg : ∀ z, mm_inl h z → 0 ≤ z ∧ z ≤ 399 := fun z v => by obtain ⟨v0, v1, v2⟩ := v; omega
  have x8 := A8 t t0.1 t0.2
  rcases R with ⟨r1, _, _⟩ | ⟨_, r2⟩
  · omega
  · have hp : mm_hp h1 := ⟨fun i i0 i1 => by rw [n0] at i1; omega, fun i i0 i1 => by rw [n0] at i1; omega⟩
    obtain ⟨f1, f2, f3, f4, f5, f6⟩ := r2 ⟨hp, Or.inl (A10 t t0.1 t0.2)⟩
    have no : ∀ z, ¬ mm_hi h1 z := fun z w => by have a := w.1; have b := w.2.1; rw [n0] at b; omega
    have n1 : 0 < h2.1 7 7 := by have a := f3.1; have b := f3.2.1; omega
    have n2 : h2.1 7 7 ≤ 1 := by
      by_cases q : h2.1 7 7 ≤ 1
      · exact q
      · exfalso
        have a := mm_HI_A f1 (i := 0) (by omega) (by omega)
        have b := mm_HI_A f1 (i := 1) (by omega) (by omega)
        have ca : h2.2.1 9 0 = t := by
          by_cases w : h2.2.1 9 0 = t
          · exact w
          · exact absurd ((f2 _ w).mp a) (no _)
        have cb : h2.2.1 9 1 = t := by
          by_cases w : h2.2.1 9 1 = t
          · exact w
          · exact absurd ((f2 _ w).mp b) (no _)
        have s0 := f1.1 0 (by omega) (by omega)
        have s1 := f1.1 1 (by omega) (by omega)
        rw [ca] at s0
        rw [cb] at s1
        omega
    have n3 : h2.1 7 7 = 1 := by omega
    unfold mm_hp at f1
    unfold mm_hi at f3
    unfold mm_di
    rw [n3] at f1 f3 ⊢
    exact mm_DI_ini (mm_gr i M.2.1) M.2.2 M.1 f1 f3 f6 (fun z v hz => (f4 z hz).mpr (A10 z (rg z v).1 (rg z v).2)) (fun z v hz => (f5 z hz).trans (A8 z (rg z v).1 (rg z v).2))
theorem mm_cnt_400 (h : mH) : (mm_cnt h : Int) ≤ 400 := by
  have := mm_cn_le (fun j => h.2.1 10 j) 400
  unfold mm_cnt
  omega
def mm_dq (v : Int) : Int := if v = 2000000000 then -1 else mm_w (Int.tdiv v 512)
theorem mm_dq_1 {v w : Int} (e : v = w) (q : v = 2000000000) : -1 = mm_dq w := by rw [← e]; unfold mm_dq; rw [if_pos q]
theorem mm_dq_2 {v w r : Int} (e : v = w) (q : (v = 2000000000 ∧ r = -1) ∨ (v ≠ 2000000000 ∧ r = mm_w (Int.tdiv v 512))) : r = mm_dq w := by
  rw [← e]
  unfold mm_dq
  rcases q with ⟨q1, q2⟩ | ⟨q1, q2⟩
  · rw [if_pos q1]; exact q2
  · rw [if_neg q1]; exact q2
theorem mm_M_hi {h h1 h2 : mH} {t : Int} (i : mm_inv h) (A10 : mm_al h1 10 399 (-1)) (n0 : h1.1 7 7 = 0) (t0 : 0 ≤ t ∧ t ≤ 399) (A8 : mm_al h1 8 399 2000000000) (R : (h1.2.1 8 t ≤ 0 ∧ h2.1 7 7 = h1.1 7 7 ∧ (∀ o j, h2.2.1 o j = h1.2.1 o j)) ∨ (0 < h1.2.1 8 t ∧ (mm_ofP h1 t → mm_OF h1 h2 t 0))) {x : Int} (v : mm_inl h x) (s : h2.2.1 10 x ≠ -1) : mm_hi h2 x := by
  have b5 : (1 : Int) ≤ h.1 1 5 ∧ h.1 1 5 ≤ 20 := i.1 1 5
  have b6 : (1 : Int) ≤ h.1 1 6 ∧ h.1 1 6 ≤ 20 := i.1 1 6
  have rg : 0 ≤ x ∧ x ≤ 399 := by obtain ⟨v0, v1, v2⟩ := v; omega
  have x8 := A8 t t0.1 t0.2
  rcases R with ⟨r1, _, _⟩ | ⟨_, r2⟩
  · omega
  · have hp : mm_hp h1 := ⟨fun i i0 i1 => by rw [n0] at i1; omega, fun i i0 i1 => by rw [n0] at i1; omega⟩
    obtain ⟨f1, f2, f3, f4, f5, f6⟩ := r2 ⟨hp, Or.inl (A10 t t0.1 t0.2)⟩
    by_cases q : x = t
    · rw [q]; exact f3
    · exact absurd ((f4 x q).mpr (A10 x rg.1 rg.2)) s

set_option maxRecDepth 100000 in
set_option maxHeartbeats 4000000 in
theorem c_X10_rise_q (l : Launch) (hl : l.stackTraces = false) (d : Nat) (hd : 0 ≤ d) (h : mH) (i0 : mm_inv h) (p1 : Int) (p2 : Int) (bp1 : 0 ≤ p1 ∧ p1 ≤ 399) (bp2 : 0 ≤ p2 ∧ p2 ≤ 399) : mm_Met l d yX10_rise cX10_rise 5 none [mR 7, mI p1, mI p2] h (mm_pv fun h2 => mm_inv h2 ∧ mm_fr [] [9, 10] h h2 ∧ mm_cnt h ≤ mm_cnt h2 ∧ (mm_riP h p1 p2 → mm_RE7 h h2 p1 p2)) mm_nx 0 0 := by
  refine mm_ofW (ls := [mR 7, mI p1, mI p2, mU, mU]) hl (by decide) rfl (Nat.le_of_ble_eq_true rfl) ?_
  intro x hxl C T hnm htb
  subst hxl
  refine mm_rng (fun hr _ => ?_)
  have ap1 : -2147483648 ≤ p1 ∧ p1 < 2147483648 := mm_ok_at hr (i := 1) rfl
  have ap2 : -2147483648 ≤ p2 ∧ p2 < 2147483648 := mm_ok_at hr (i := 2) rfl
  have f0 : mm_fr [] [9, 10] h h := mm_fr_rf
  refine mm_iload_n C (mm_dec dk_X10_rise 0 rfl) rfl ?_
  have J2 : ∀ (n : Nat) (x2_3 : Int) (bx2_3 : 0 ≤ x2_3 ∧ x2_3 ≤ 399) (h2_ : mH) (i2_ : mm_inv h2_) (f2_ : mm_fr [] [9, 10] h h2_) (w2_0 : mm_cnt h ≤ mm_cnt h2_) (w2_1 : (mm_riP h p1 p2 → mm_RI h h2_ p1 p2 x2_3)), (x2_3 : Int) < n → mm_W x 0 0 2 [mR 7, mI p1, mU, mI x2_3, mU] [] h2_ := by
    intro n
    induction n with
    | zero =>
      intro x2_3 bx2_3 h2_ i2_ f2_ w2_0 w2_1 hm
      exfalso; omega
    | succ n ih2 =>
      intro x2_3 bx2_3 h2_ i2_ f2_ w2_0 w2_1 hm2
      refine mm_iload_n C (mm_dec dk_X10_rise 2 rfl) rfl ?_
      have J68 : ∀ (w68_0 : mm_HS (h.2.1 8) (h2_.2.1 9) x2_3 p1), mm_W x 0 0 68 [mR 7, mI p1, mU, mI x2_3, mU] [] h2_ := by
        intro w68_0
        refine mm_aload_n C (mm_dec dk_X10_rise 45 rfl) rfl ?_
        refine mm_getr (t := 9) C fl_X10_15 (mm_dec dk_X10_rise 46 rfl) rfl rfl (mm_ref i2_ rfl) ?_
        refine mm_iload_n C (mm_dec dk_X10_rise 47 rfl) rfl ?_
        refine mm_iload_n C (mm_dec dk_X10_rise 48 rfl) rfl ?_
        refine mm_iast C (mm_dec dk_X10_rise 49 rfl) rfl (by omega) (by omega) ?_
        have i1 : mm_inv (mm_pa h2_ 9 x2_3 p1) := mm_inv_pa i2_ (show 0 ≤ p1 ∧ p1 ≤ 399 from ⟨by omega, by omega⟩)
        have f1 : mm_fr [] [9, 10] h (mm_pa h2_ 9 x2_3 p1) := mm_fr_pa f2_ (by decide)
        obtain ⟨h1, eh1⟩ : ∃ z, z = mm_pa h2_ 9 x2_3 p1 := ⟨_, rfl⟩
        rw [← eh1] at i1 f1 ⊢
        have nh1 : mm_cnt h1 = mm_cnt h2_ := by rw [eh1]; exact mm_cnt_eq (fun _ => mm_pa_ne _ _ (fun q => absurd q.1 (by decide)))
        refine mm_aload_n C (mm_dec dk_X10_rise 50 rfl) rfl ?_
        refine mm_getr (t := 10) C fl_X10_18 (mm_dec dk_X10_rise 51 rfl) rfl rfl (mm_ref i1 rfl) ?_
        refine mm_iload_n C (mm_dec dk_X10_rise 52 rfl) rfl ?_
        refine mm_iload_n C (mm_dec dk_X10_rise 53 rfl) rfl ?_
        refine mm_iast C (mm_dec dk_X10_rise 54 rfl) rfl (by omega) (by omega) ?_
        have i2 : mm_inv (mm_pa h1 10 p1 x2_3) := mm_inv_pa i1 (show -1 ≤ x2_3 ∧ x2_3 ≤ 399 from ⟨by omega, by omega⟩)
        have f2 : mm_fr [] [9, 10] h (mm_pa h1 10 p1 x2_3) := mm_fr_pa f1 (by decide)
        obtain ⟨h2, eh2⟩ : ∃ z, z = mm_pa h1 10 p1 x2_3 := ⟨_, rfl⟩
        rw [← eh2] at i2 f2 ⊢
        have nh2 : mm_cnt h1 ≤ mm_cnt h2 ∧ (h1.2.1 10 p1 ≠ -1 ∨ mm_cnt h1 + 1 ≤ mm_cnt h2) := by rw [eh2]; exact mm_cnt_put ⟨by omega, by omega⟩ (by omega)
        exact mm_vret C T (mm_dec dk_X10_rise 55 rfl) (by decide : 0 ≤ 0) (by decide : 0 ≤ 0) ⟨rfl, ⟨i2, f2, by omega, by exact fun P => mm_RI_end (w2_1 P) w68_0 (by assumption) eh2⟩⟩
      refine mm_if_le (tgt := 68) C (mm_dec dk_X10_rise 3 rfl) (by decide) (fun c3 => ?_) (fun c3 => ?_)
      · skip
        exact J68 (by first | exact fun q => absurd q (by omega) | exact fun _ => (by omega))
      · skip
        have zF : ∀ j, h2_.2.1 8 j = h.2.1 8 j := fun j => f2_.2 8 (by decide) j
        have zn : h2_.1 7 7 = h.1 7 7 := f2_.1 7 7 (by decide)
        have zf1 := zF (h2_.2.1 9 ((x2_3 - 1) / 2))
        have zf2 := zF p1
        refine mm_aload_n C (mm_dec dk_X10_rise 4 rfl) rfl ?_
        refine mm_getr (t := 8) C fl_X10_9 (mm_dec dk_X10_rise 5 rfl) rfl rfl (mm_ref i2_ rfl) ?_
        refine mm_aload_n C (mm_dec dk_X10_rise 6 rfl) rfl ?_
        refine mm_getr (t := 9) C fl_X10_15 (mm_dec dk_X10_rise 7 rfl) rfl rfl (mm_ref i2_ rfl) ?_
        refine mm_iload_n C (mm_dec dk_X10_rise 8 rfl) rfl ?_
        refine mm_iconst C (mm_dec dk_X10_rise 9 rfl) ⟨by decide, by decide⟩ ?_
        refine mm_isub C (mm_dec dk_X10_rise 10 rfl) ⟨by omega, by omega⟩ ?_
        refine mm_iconst C (mm_dec dk_X10_rise 11 rfl) ⟨by decide, by decide⟩ ?_
        refine mm_idiv C (mm_dec dk_X10_rise 12 rfl) ⟨by omega, by omega⟩ (by omega) ?_
        refine mm_iald C (mm_dec dk_X10_rise 13 rfl) rfl (by omega) (by omega) ?_
        have g3 : 0 ≤ (h2_.2.1 9 ((x2_3 - 1) / 2)) ∧ (h2_.2.1 9 ((x2_3 - 1) / 2)) ≤ 399 := i2_.2.1 9 ((x2_3 - 1) / 2)
        refine mm_iald C (mm_dec dk_X10_rise 14 rfl) rfl (by omega) (by omega) ?_
        have g4 : -2147483648 ≤ (h2_.2.1 8 (h2_.2.1 9 ((x2_3 - 1) / 2))) ∧ (h2_.2.1 8 (h2_.2.1 9 ((x2_3 - 1) / 2))) ≤ 2147483647 := i2_.2.1 8 (h2_.2.1 9 ((x2_3 - 1) / 2))
        refine mm_aload_n C (mm_dec dk_X10_rise 15 rfl) rfl ?_
        refine mm_getr (t := 8) C fl_X10_9 (mm_dec dk_X10_rise 16 rfl) rfl rfl (mm_ref i2_ rfl) ?_
        refine mm_iload_n C (mm_dec dk_X10_rise 17 rfl) rfl ?_
        refine mm_iald C (mm_dec dk_X10_rise 18 rfl) rfl (by omega) (by omega) ?_
        have g5 : -2147483648 ≤ (h2_.2.1 8 p1) ∧ (h2_.2.1 8 p1) ≤ 2147483647 := i2_.2.1 8 p1
        refine mm_icmp_le (tgt := 68) C (mm_dec dk_X10_rise 19 rfl) (by decide) (fun c27 => ?_) (fun c27 => ?_)
        · skip
          exact J68 (by first | exact fun q => absurd q (by omega) | exact fun _ => (by omega))
        · skip
          refine mm_iload_n C (mm_dec dk_X10_rise 20 rfl) rfl ?_
          refine mm_iconst C (mm_dec dk_X10_rise 21 rfl) ⟨by decide, by decide⟩ ?_
          refine mm_isub C (mm_dec dk_X10_rise 22 rfl) ⟨by omega, by omega⟩ ?_
          refine mm_iconst C (mm_dec dk_X10_rise 23 rfl) ⟨by decide, by decide⟩ ?_
          refine mm_idiv C (mm_dec dk_X10_rise 24 rfl) ⟨by omega, by omega⟩ (by omega) ?_
          refine mm_istoreL (ls2 := [mR 7, mI p1, mU, mI x2_3, mI ((x2_3 - 1) / 2)]) C (mm_dec dk_X10_rise 25 rfl) (by decide) rfl ?_
          refine mm_aload_n C (mm_dec dk_X10_rise 26 rfl) rfl ?_
          refine mm_getr (t := 9) C fl_X10_15 (mm_dec dk_X10_rise 27 rfl) rfl rfl (mm_ref i2_ rfl) ?_
          refine mm_iload_n C (mm_dec dk_X10_rise 28 rfl) rfl ?_
          refine mm_aload_n C (mm_dec dk_X10_rise 29 rfl) rfl ?_
          refine mm_getr (t := 9) C fl_X10_15 (mm_dec dk_X10_rise 30 rfl) rfl rfl (mm_ref i2_ rfl) ?_
          refine mm_iload C (mm_dec dk_X10_rise 31 rfl) rfl ?_
          refine mm_iald C (mm_dec dk_X10_rise 32 rfl) rfl (by omega) (by omega) ?_
          refine mm_iast C (mm_dec dk_X10_rise 33 rfl) rfl (by omega) (by omega) ?_
          have i3 : mm_inv (mm_pa h2_ 9 x2_3 (h2_.2.1 9 ((x2_3 - 1) / 2))) := mm_inv_pa i2_ (show 0 ≤ (h2_.2.1 9 ((x2_3 - 1) / 2)) ∧ (h2_.2.1 9 ((x2_3 - 1) / 2)) ≤ 399 from ⟨by omega, by omega⟩)
          have f3 : mm_fr [] [9, 10] h (mm_pa h2_ 9 x2_3 (h2_.2.1 9 ((x2_3 - 1) / 2))) := mm_fr_pa f2_ (by decide)
          obtain ⟨h3, eh3⟩ : ∃ z, z = mm_pa h2_ 9 x2_3 (h2_.2.1 9 ((x2_3 - 1) / 2)) := ⟨_, rfl⟩
          rw [← eh3] at i3 f3 ⊢
          have nh3 : mm_cnt h3 = mm_cnt h2_ := by rw [eh3]; exact mm_cnt_eq (fun _ => mm_pa_ne _ _ (fun q => absurd q.1 (by decide)))
          refine mm_aload_n C (mm_dec dk_X10_rise 34 rfl) rfl ?_
          refine mm_getr (t := 10) C fl_X10_18 (mm_dec dk_X10_rise 35 rfl) rfl rfl (mm_ref i3 rfl) ?_
          refine mm_aload_n C (mm_dec dk_X10_rise 36 rfl) rfl ?_
          refine mm_getr (t := 9) C fl_X10_15 (mm_dec dk_X10_rise 37 rfl) rfl rfl (mm_ref i3 rfl) ?_
          refine mm_iload_n C (mm_dec dk_X10_rise 38 rfl) rfl ?_
          refine mm_iald C (mm_dec dk_X10_rise 39 rfl) rfl (by omega) (by omega) ?_
          have g7 : 0 ≤ (h3.2.1 9 x2_3) ∧ (h3.2.1 9 x2_3) ≤ 399 := i3.2.1 9 x2_3
          refine mm_iload_n C (mm_dec dk_X10_rise 40 rfl) rfl ?_
          refine mm_iast C (mm_dec dk_X10_rise 41 rfl) rfl (by omega) (by omega) ?_
          have i4 : mm_inv (mm_pa h3 10 (h3.2.1 9 x2_3) x2_3) := mm_inv_pa i3 (show -1 ≤ x2_3 ∧ x2_3 ≤ 399 from ⟨by omega, by omega⟩)
          have f4 : mm_fr [] [9, 10] h (mm_pa h3 10 (h3.2.1 9 x2_3) x2_3) := mm_fr_pa f3 (by decide)
          obtain ⟨h4, eh4⟩ : ∃ z, z = mm_pa h3 10 (h3.2.1 9 x2_3) x2_3 := ⟨_, rfl⟩
          rw [← eh4] at i4 f4 ⊢
          have nh4 : mm_cnt h3 ≤ mm_cnt h4 ∧ (h3.2.1 10 (h3.2.1 9 x2_3) ≠ -1 ∨ mm_cnt h3 + 1 ≤ mm_cnt h4) := by rw [eh4]; exact mm_cnt_put ⟨by omega, by omega⟩ (by omega)
          refine mm_iload C (mm_dec dk_X10_rise 42 rfl) rfl ?_
          refine mm_istore_nL (ls2 := [mR 7, mI p1, mU, mI ((x2_3 - 1) / 2), mI ((x2_3 - 1) / 2)]) C (mm_dec dk_X10_rise 43 rfl) (by decide) rfl ?_
          refine mm_goto (tgt := 2) C (mm_dec dk_X10_rise 44 rfl) (by decide) ?_
          refine mm_fgt 4 ?_
          exact ih2 ((x2_3 - 1) / 2) ⟨by omega, by omega⟩ h4 i4 f4 (by omega) (by first | exact mm_RI_0 | exact fun P => mm_RI_up (w2_1 P) (by assumption) eh4 (by omega) rfl (by omega)) (by omega)
  refine mm_istore_nL (ls2 := [mR 7, mI p1, mI p2, mI p2, mU]) C (mm_dec dk_X10_rise 1 rfl) (by decide) rfl ?_
  refine mm_fgt 2 ?_
  exact J2 (((p2) : Int) + 1).toNat p2 ⟨by omega, by omega⟩ h i0 f0 (by omega) (by first | exact mm_RI_0 | exact fun P => mm_RI_up (w2_1 P) (by assumption) eh (by omega) rfl (by omega)) (by omega)
set_option maxRecDepth 100000 in
set_option maxHeartbeats 4000000 in
theorem c_X10_sink_q (l : Launch) (hl : l.stackTraces = false) (d : Nat) (hd : 1 ≤ d) (h : mH) (i0 : mm_inv h) (p1 : Int) (bp1 : 0 ≤ p1 ∧ p1 ≤ 399) : mm_Met l d yX10_sink cX10_sink 4 none [mR 7, mI p1] h (mm_pv fun h2 => mm_inv h2 ∧ mm_fr [] [9, 10] h h2 ∧ mm_cnt h ≤ mm_cnt h2 ∧ (mm_skP h p1 → mm_RE7 h h2 p1 0)) mm_nx 0 0 := by
  refine mm_ofW (ls := [mR 7, mI p1, mU, mU]) hl (by decide) rfl (Nat.le_of_ble_eq_true rfl) ?_
  intro x hxl C T hnm htb
  subst hxl
  have C1 := mm_OK_le (d' := d - 1 + 1) (by omega) C
  refine mm_rng (fun hr _ => ?_)
  have ap1 : -2147483648 ≤ p1 ∧ p1 < 2147483648 := mm_ok_at hr (i := 1) rfl
  have f0 : mm_fr [] [9, 10] h h := mm_fr_rf
  refine mm_iconst C (mm_dec dk_X10_sink 0 rfl) ⟨by decide, by decide⟩ ?_
  refine mm_istore_nL (ls2 := [mR 7, mI p1, mI 0, mU]) C (mm_dec dk_X10_sink 1 rfl) (by decide) rfl ?_
  refine mm_aload_n C (mm_dec dk_X10_sink 2 rfl) rfl ?_
  refine mm_iconst C (mm_dec dk_X10_sink 3 rfl) ⟨by decide, by decide⟩ ?_
  refine mm_cVi (rest := []) C1 ev_X10_125 (mm_dec dk_X10_sink 4 rfl) (c_X10_lesserChild x.2.1 hl (d - 1) (by omega) h i0 0 ⟨by omega, by omega⟩) rfl rfl (Nat.le_of_ble_eq_true rfl) ⟨by decide, by decide⟩ rfl (fun r4 h4c hp4 => ?_) (fun _ _ q => q.elim)
  obtain ⟨z4, y4⟩ := hp4
  rw [z4]
  have g2 : 0 ≤ (h.1 7 7) ∧ (h.1 7 7) ≤ 400 := i0.1 7 7
  have g3 : -2147483648 ≤ (h.2.1 8 (h.2.1 9 ((2 * 0) + 1))) ∧ (h.2.1 8 (h.2.1 9 ((2 * 0) + 1))) ≤ 2147483647 := i0.2.1 8 (h.2.1 9 ((2 * 0) + 1))
  have g4 : 0 ≤ (h.2.1 9 ((2 * 0) + 1)) ∧ (h.2.1 9 ((2 * 0) + 1)) ≤ 399 := i0.2.1 9 ((2 * 0) + 1)
  have g5 : -2147483648 ≤ (h.2.1 8 (h.2.1 9 (((2 * 0) + 1) + 1))) ∧ (h.2.1 8 (h.2.1 9 (((2 * 0) + 1) + 1))) ≤ 2147483647 := i0.2.1 8 (h.2.1 9 (((2 * 0) + 1) + 1))
  have g6 : 0 ≤ (h.2.1 9 (((2 * 0) + 1) + 1)) ∧ (h.2.1 9 (((2 * 0) + 1) + 1)) ≤ 399 := i0.2.1 9 (((2 * 0) + 1) + 1)
  have J8 : ∀ (n : Nat) (x8_2 : Int) (bx8_2 : 0 ≤ x8_2 ∧ x8_2 ≤ 399) (x8_3 : Int) (bx8_3 : 1 ≤ x8_3 ∧ x8_3 ≤ 799) (h8_ : mH) (i8_ : mm_inv h8_) (f8_ : mm_fr [] [9, 10] h h8_) (w8_0 : mm_cnt h ≤ mm_cnt h8_) (w8_1 : x8_2 < x8_3) (w8_2 : (mm_skP h p1 → mm_SI h h8_ p1 x8_2)) (w8_3 : mm_lc h8_ x8_2 x8_3), (400 - x8_2 : Int) < n → mm_W x 0 0 8 [mR 7, mI p1, mI x8_2, mI x8_3] [] h8_ := by
    intro n
    induction n with
    | zero =>
      intro x8_2 bx8_2 x8_3 bx8_3 h8_ i8_ f8_ w8_0 w8_1 w8_2 w8_3 hm
      exfalso; omega
    | succ n ih8 =>
      intro x8_2 bx8_2 x8_3 bx8_3 h8_ i8_ f8_ w8_0 w8_1 w8_2 w8_3 hm8
      have zF : ∀ j, h8_.2.1 8 j = h.2.1 8 j := fun j => f8_.2 8 (by decide) j
      have zn : h8_.1 7 7 = h.1 7 7 := f8_.1 7 7 (by decide)
      have zf1 := zF (h8_.2.1 9 x8_3)
      have zf2 := zF p1
      refine mm_iload_n C (mm_dec dk_X10_sink 6 rfl) rfl ?_
      refine mm_aload_n C (mm_dec dk_X10_sink 7 rfl) rfl ?_
      refine mm_geti C fl_X10_31 (mm_dec dk_X10_sink 8 rfl) rfl rfl (Or.inl rfl) ?_
      have g7 : 0 ≤ (h8_.1 7 7) ∧ (h8_.1 7 7) ≤ 400 := i8_.1 7 7
      have J71 : ∀ (w71_0 : (h.1 7 7 ≤ x8_3 ∨ h.2.1 8 p1 ≤ h.2.1 8 (h8_.2.1 9 x8_3))), mm_W x 0 0 71 [mR 7, mI p1, mI x8_2, mU] [] h8_ := by
        intro w71_0
        refine mm_aload_n C (mm_dec dk_X10_sink 45 rfl) rfl ?_
        refine mm_getr (t := 9) C fl_X10_15 (mm_dec dk_X10_sink 46 rfl) rfl rfl (mm_ref i8_ rfl) ?_
        refine mm_iload_n C (mm_dec dk_X10_sink 47 rfl) rfl ?_
        refine mm_iload_n C (mm_dec dk_X10_sink 48 rfl) rfl ?_
        refine mm_iast C (mm_dec dk_X10_sink 49 rfl) rfl (by omega) (by omega) ?_
        have i1 : mm_inv (mm_pa h8_ 9 x8_2 p1) := mm_inv_pa i8_ (show 0 ≤ p1 ∧ p1 ≤ 399 from ⟨by omega, by omega⟩)
        have f1 : mm_fr [] [9, 10] h (mm_pa h8_ 9 x8_2 p1) := mm_fr_pa f8_ (by decide)
        obtain ⟨h1, eh1⟩ : ∃ z, z = mm_pa h8_ 9 x8_2 p1 := ⟨_, rfl⟩
        rw [← eh1] at i1 f1 ⊢
        have qh1_8 : h1.1 7 7 = h8_.1 7 7 := by rw [eh1]; rfl
        have nh1 : mm_cnt h1 = mm_cnt h8_ := by rw [eh1]; exact mm_cnt_eq (fun _ => mm_pa_ne _ _ (fun q => absurd q.1 (by decide)))
        refine mm_aload_n C (mm_dec dk_X10_sink 50 rfl) rfl ?_
        refine mm_getr (t := 10) C fl_X10_18 (mm_dec dk_X10_sink 51 rfl) rfl rfl (mm_ref i1 rfl) ?_
        refine mm_iload_n C (mm_dec dk_X10_sink 52 rfl) rfl ?_
        refine mm_iload_n C (mm_dec dk_X10_sink 53 rfl) rfl ?_
        refine mm_iast C (mm_dec dk_X10_sink 54 rfl) rfl (by omega) (by omega) ?_
        have i2 : mm_inv (mm_pa h1 10 p1 x8_2) := mm_inv_pa i1 (show -1 ≤ x8_2 ∧ x8_2 ≤ 399 from ⟨by omega, by omega⟩)
        have f2 : mm_fr [] [9, 10] h (mm_pa h1 10 p1 x8_2) := mm_fr_pa f1 (by decide)
        obtain ⟨h2, eh2⟩ : ∃ z, z = mm_pa h1 10 p1 x8_2 := ⟨_, rfl⟩
        rw [← eh2] at i2 f2 ⊢
        have qh2_10 : h2.1 7 7 = h1.1 7 7 := by rw [eh2]; rfl
        have nh2 : mm_cnt h1 ≤ mm_cnt h2 ∧ (h1.2.1 10 p1 ≠ -1 ∨ mm_cnt h1 + 1 ≤ mm_cnt h2) := by rw [eh2]; exact mm_cnt_put ⟨by omega, by omega⟩ (by omega)
        exact mm_vret C T (mm_dec dk_X10_sink 55 rfl) (by decide : 0 ≤ 0) (by decide : 0 ≤ 0) ⟨rfl, ⟨i2, f2, by omega, by exact fun P => mm_SI_end (w8_2 P) w8_3 zn zF w71_0 (by assumption) eh2⟩⟩
      refine mm_icmp_ge (tgt := 71) C (mm_dec dk_X10_sink 9 rfl) (by decide) (fun c13 => ?_) (fun c13 => ?_)
      · skip
        refine mm_fgt 3 ?_
        exact J71 (by omega)
      · skip
        refine mm_aload_n C (mm_dec dk_X10_sink 10 rfl) rfl ?_
        refine mm_getr (t := 8) C fl_X10_9 (mm_dec dk_X10_sink 11 rfl) rfl rfl (mm_ref i8_ rfl) ?_
        refine mm_aload_n C (mm_dec dk_X10_sink 12 rfl) rfl ?_
        refine mm_getr (t := 9) C fl_X10_15 (mm_dec dk_X10_sink 13 rfl) rfl rfl (mm_ref i8_ rfl) ?_
        refine mm_iload_n C (mm_dec dk_X10_sink 14 rfl) rfl ?_
        refine mm_iald C (mm_dec dk_X10_sink 15 rfl) rfl (by omega) (by omega) ?_
        have g12 : 0 ≤ (h8_.2.1 9 x8_3) ∧ (h8_.2.1 9 x8_3) ≤ 399 := i8_.2.1 9 x8_3
        refine mm_iald C (mm_dec dk_X10_sink 16 rfl) rfl (by omega) (by omega) ?_
        have g13 : -2147483648 ≤ (h8_.2.1 8 (h8_.2.1 9 x8_3)) ∧ (h8_.2.1 8 (h8_.2.1 9 x8_3)) ≤ 2147483647 := i8_.2.1 8 (h8_.2.1 9 x8_3)
        refine mm_aload_n C (mm_dec dk_X10_sink 17 rfl) rfl ?_
        refine mm_getr (t := 8) C fl_X10_9 (mm_dec dk_X10_sink 18 rfl) rfl rfl (mm_ref i8_ rfl) ?_
        refine mm_iload_n C (mm_dec dk_X10_sink 19 rfl) rfl ?_
        refine mm_iald C (mm_dec dk_X10_sink 20 rfl) rfl (by omega) (by omega) ?_
        have g14 : -2147483648 ≤ (h8_.2.1 8 p1) ∧ (h8_.2.1 8 p1) ≤ 2147483647 := i8_.2.1 8 p1
        refine mm_icmp_ge (tgt := 71) C (mm_dec dk_X10_sink 21 rfl) (by decide) (fun c33 => ?_) (fun c33 => ?_)
        · skip
          refine mm_fgt 3 ?_
          exact J71 (by omega)
        · skip
          refine mm_aload_n C (mm_dec dk_X10_sink 22 rfl) rfl ?_
          refine mm_getr (t := 9) C fl_X10_15 (mm_dec dk_X10_sink 23 rfl) rfl rfl (mm_ref i8_ rfl) ?_
          refine mm_iload_n C (mm_dec dk_X10_sink 24 rfl) rfl ?_
          refine mm_aload_n C (mm_dec dk_X10_sink 25 rfl) rfl ?_
          refine mm_getr (t := 9) C fl_X10_15 (mm_dec dk_X10_sink 26 rfl) rfl rfl (mm_ref i8_ rfl) ?_
          refine mm_iload_n C (mm_dec dk_X10_sink 27 rfl) rfl ?_
          refine mm_iald C (mm_dec dk_X10_sink 28 rfl) rfl (by omega) (by omega) ?_
          refine mm_iast C (mm_dec dk_X10_sink 29 rfl) rfl (by omega) (by omega) ?_
          have i3 : mm_inv (mm_pa h8_ 9 x8_2 (h8_.2.1 9 x8_3)) := mm_inv_pa i8_ (show 0 ≤ (h8_.2.1 9 x8_3) ∧ (h8_.2.1 9 x8_3) ≤ 399 from ⟨by omega, by omega⟩)
          have f3 : mm_fr [] [9, 10] h (mm_pa h8_ 9 x8_2 (h8_.2.1 9 x8_3)) := mm_fr_pa f8_ (by decide)
          obtain ⟨h3, eh3⟩ : ∃ z, z = mm_pa h8_ 9 x8_2 (h8_.2.1 9 x8_3) := ⟨_, rfl⟩
          rw [← eh3] at i3 f3 ⊢
          have qh3_15 : h3.1 7 7 = h8_.1 7 7 := by rw [eh3]; rfl
          have nh3 : mm_cnt h3 = mm_cnt h8_ := by rw [eh3]; exact mm_cnt_eq (fun _ => mm_pa_ne _ _ (fun q => absurd q.1 (by decide)))
          refine mm_aload_n C (mm_dec dk_X10_sink 30 rfl) rfl ?_
          refine mm_getr (t := 10) C fl_X10_18 (mm_dec dk_X10_sink 31 rfl) rfl rfl (mm_ref i3 rfl) ?_
          refine mm_aload_n C (mm_dec dk_X10_sink 32 rfl) rfl ?_
          refine mm_getr (t := 9) C fl_X10_15 (mm_dec dk_X10_sink 33 rfl) rfl rfl (mm_ref i3 rfl) ?_
          refine mm_iload_n C (mm_dec dk_X10_sink 34 rfl) rfl ?_
          refine mm_iald C (mm_dec dk_X10_sink 35 rfl) rfl (by omega) (by omega) ?_
          have g17 : 0 ≤ (h3.2.1 9 x8_2) ∧ (h3.2.1 9 x8_2) ≤ 399 := i3.2.1 9 x8_2
          refine mm_iload_n C (mm_dec dk_X10_sink 36 rfl) rfl ?_
          refine mm_iast C (mm_dec dk_X10_sink 37 rfl) rfl (by omega) (by omega) ?_
          have i4 : mm_inv (mm_pa h3 10 (h3.2.1 9 x8_2) x8_2) := mm_inv_pa i3 (show -1 ≤ x8_2 ∧ x8_2 ≤ 399 from ⟨by omega, by omega⟩)
          have f4 : mm_fr [] [9, 10] h (mm_pa h3 10 (h3.2.1 9 x8_2) x8_2) := mm_fr_pa f3 (by decide)
          obtain ⟨h4, eh4⟩ : ∃ z, z = mm_pa h3 10 (h3.2.1 9 x8_2) x8_2 := ⟨_, rfl⟩
          rw [← eh4] at i4 f4 ⊢
          have qh4_18 : h4.1 7 7 = h3.1 7 7 := by rw [eh4]; rfl
          have nh4 : mm_cnt h3 ≤ mm_cnt h4 ∧ (h3.2.1 10 (h3.2.1 9 x8_2) ≠ -1 ∨ mm_cnt h3 + 1 ≤ mm_cnt h4) := by rw [eh4]; exact mm_cnt_put ⟨by omega, by omega⟩ (by omega)
          refine mm_iload_n C (mm_dec dk_X10_sink 38 rfl) rfl ?_
          refine mm_istore_nL (ls2 := [mR 7, mI p1, mI x8_3, mI x8_3]) C (mm_dec dk_X10_sink 39 rfl) (by decide) rfl ?_
          refine mm_aload_n C (mm_dec dk_X10_sink 40 rfl) rfl ?_
          refine mm_iload_n C (mm_dec dk_X10_sink 41 rfl) rfl ?_
          refine mm_cVi (rest := []) C1 ev_X10_125 (mm_dec dk_X10_sink 42 rfl) (c_X10_lesserChild x.2.1 hl (d - 1) (by omega) h4 i4 x8_3 ⟨by omega, by omega⟩) rfl rfl (Nat.le_of_ble_eq_true rfl) ⟨by decide, by decide⟩ rfl (fun r64 h64c hp64 => ?_) (fun _ _ q => q.elim)
          obtain ⟨z64, y64⟩ := hp64
          rw [z64]
          have g21 : -2147483648 ≤ (h4.2.1 8 (h4.2.1 9 ((2 * x8_3) + 1))) ∧ (h4.2.1 8 (h4.2.1 9 ((2 * x8_3) + 1))) ≤ 2147483647 := i4.2.1 8 (h4.2.1 9 ((2 * x8_3) + 1))
          have g22 : 0 ≤ (h4.2.1 9 ((2 * x8_3) + 1)) ∧ (h4.2.1 9 ((2 * x8_3) + 1)) ≤ 399 := i4.2.1 9 ((2 * x8_3) + 1)
          have g23 : -2147483648 ≤ (h4.2.1 8 (h4.2.1 9 (((2 * x8_3) + 1) + 1))) ∧ (h4.2.1 8 (h4.2.1 9 (((2 * x8_3) + 1) + 1))) ≤ 2147483647 := i4.2.1 8 (h4.2.1 9 (((2 * x8_3) + 1) + 1))
          have g24 : 0 ≤ (h4.2.1 9 (((2 * x8_3) + 1) + 1)) ∧ (h4.2.1 9 (((2 * x8_3) + 1) + 1)) ≤ 399 := i4.2.1 9 (((2 * x8_3) + 1) + 1)
          refine mm_istore_nL (ls2 := [mR 7, mI p1, mI x8_3, mI r64]) C (mm_dec dk_X10_sink 43 rfl) (by decide) rfl ?_
          refine mm_goto (tgt := 8) C (mm_dec dk_X10_sink 44 rfl) (by decide) ?_
          exact ih8 x8_3 ⟨by omega, by omega⟩ r64 ⟨by omega, by omega⟩ h4 i4 f4 (by omega) (by omega) (by first | exact mm_SI_0 | exact fun P => mm_SI_dn (w8_2 P) w8_3 zn zF (by omega) (by assumption) eh4 (by omega)) (by first | (unfold mm_lc; omega)) (by omega)
  refine mm_istore_nL (ls2 := [mR 7, mI p1, mI 0, mI r4]) C (mm_dec dk_X10_sink 5 rfl) (by decide) rfl ?_
  exact J8 (((400 - 0) : Int) + 1).toNat 0 ⟨by omega, by omega⟩ r4 ⟨by omega, by omega⟩ h i0 f0 (by omega) (by omega) (by first | exact mm_SI_0 | exact fun P => mm_SI_dn (w8_2 P) w8_3 zn zF (by omega) (by assumption) eh (by omega)) (by first | (unfold mm_lc; omega)) (by omega)
set_option maxRecDepth 100000 in
set_option maxHeartbeats 4000000 in
theorem c_X10_offer_q (l : Launch) (hl : l.stackTraces = false) (d : Nat) (hd : 1 ≤ d) (h : mH) (i0 : mm_inv h) (p1 : Int) (p2 : Int) (bp1 : 0 ≤ p1 ∧ p1 ≤ 399) (t0 : h.1 7 7 ≤ (mm_cnt h : Int)) : mm_Met l d yX10_offer cX10_offer 3 none [mR 7, mI p1, mI p2] h (mm_pv fun h2 => mm_inv h2 ∧ mm_fr [(7, 7)] [8, 9, 10] h h2 ∧ h2.1 7 7 ≤ (mm_cnt h2 : Int) ∧ ((h.2.1 8 p1 ≤ p2 ∧ h2.1 7 7 = h.1 7 7 ∧ (∀ o j, h2.2.1 o j = h.2.1 o j)) ∨ (p2 < h.2.1 8 p1 ∧ (mm_ofP h p1 → mm_OF h h2 p1 p2))) ∧ h2.1 7 7 + (mm_cnt h : Int) ≤ h.1 7 7 + (mm_cnt h2 : Int)) mm_nx 0 0 := by
  refine mm_ofW (ls := [mR 7, mI p1, mI p2]) hl (by decide) rfl (Nat.le_of_ble_eq_true rfl) ?_
  intro x hxl C T hnm htb
  subst hxl
  have C1 := mm_OK_le (d' := d - 1 + 1) (by omega) C
  refine mm_rng (fun hr _ => ?_)
  have ap1 : -2147483648 ≤ p1 ∧ p1 < 2147483648 := mm_ok_at hr (i := 1) rfl
  have ap2 : -2147483648 ≤ p2 ∧ p2 < 2147483648 := mm_ok_at hr (i := 2) rfl
  have f0 : mm_fr [(7, 7)] [8, 9, 10] h h := mm_fr_rf
  have g1 : 0 ≤ h.1 7 7 ∧ h.1 7 7 ≤ 400 := i0.1 7 7
  refine mm_iload_n C (mm_dec dk_X10_offer 0 rfl) rfl ?_
  refine mm_aload_n C (mm_dec dk_X10_offer 1 rfl) rfl ?_
  refine mm_getr (t := 8) C fl_X10_9 (mm_dec dk_X10_offer 2 rfl) rfl rfl (mm_ref i0 rfl) ?_
  refine mm_iload_n C (mm_dec dk_X10_offer 3 rfl) rfl ?_
  refine mm_iald C (mm_dec dk_X10_offer 4 rfl) rfl (by omega) (by omega) ?_
  have g2 : -2147483648 ≤ (h.2.1 8 p1) ∧ (h.2.1 8 p1) ≤ 2147483647 := i0.2.1 8 p1
  refine mm_icmp_lt (tgt := 11) C (mm_dec dk_X10_offer 5 rfl) (by decide) (fun c7 => ?_) (fun c7 => ?_)
  · skip
    refine mm_aload_n C (mm_dec dk_X10_offer 7 rfl) rfl ?_
    refine mm_getr (t := 8) C fl_X10_9 (mm_dec dk_X10_offer 8 rfl) rfl rfl (mm_ref i0 rfl) ?_
    refine mm_iload_n C (mm_dec dk_X10_offer 9 rfl) rfl ?_
    refine mm_iload_n C (mm_dec dk_X10_offer 10 rfl) rfl ?_
    refine mm_iast C (mm_dec dk_X10_offer 11 rfl) rfl (by omega) (by omega) ?_
    have i1 : mm_inv (mm_pa h 8 p1 p2) := mm_inv_pa i0 (show -2147483648 ≤ p2 ∧ p2 ≤ 2147483647 from ⟨by omega, by omega⟩)
    have f1 : mm_fr [(7, 7)] [8, 9, 10] h (mm_pa h 8 p1 p2) := mm_fr_pa f0 (by decide)
    obtain ⟨h1, eh1⟩ : ∃ z, z = mm_pa h 8 p1 p2 := ⟨_, rfl⟩
    rw [← eh1] at i1 f1 ⊢
    have qh1_3 : h1.1 7 7 = h.1 7 7 := by rw [eh1]; rfl
    have nh1 : mm_cnt h1 = mm_cnt h := by rw [eh1]; exact mm_cnt_eq (fun _ => mm_pa_ne _ _ (fun q => absurd q.1 (by decide)))
    have qh1_5 : h1.2.1 10 p1 = h.2.1 10 p1 := by rw [eh1]; exact mm_pa_ne _ _ (fun q => absurd q.1 (by decide))
    refine mm_aload_n C (mm_dec dk_X10_offer 12 rfl) rfl ?_
    refine mm_getr (t := 10) C fl_X10_18 (mm_dec dk_X10_offer 13 rfl) rfl rfl (mm_ref i1 rfl) ?_
    refine mm_iload_n C (mm_dec dk_X10_offer 14 rfl) rfl ?_
    refine mm_iald C (mm_dec dk_X10_offer 15 rfl) rfl (by omega) (by omega) ?_
    have g6 : -1 ≤ (h1.2.1 10 p1) ∧ (h1.2.1 10 p1) ≤ 399 := i1.2.1 10 p1
    refine mm_iconst C (mm_dec dk_X10_offer 16 rfl) ⟨by decide, by decide⟩ ?_
    have J48 : ∀ (h48_ : mH) (i48_ : mm_inv h48_) (f48_ : mm_fr [(7, 7)] [8, 9, 10] h h48_) (w48_0 : h48_.1 7 7 ≤ (mm_cnt h48_ : Int)) (w48_1 : 0 ≤ h48_.2.1 10 p1) (w48_2 : (mm_ofP h p1 → p2 < h.2.1 8 p1 → mm_OG h h48_ p1 p2)) (w48_3 : h48_.1 7 7 + (mm_cnt h : Int) ≤ h.1 7 7 + (mm_cnt h48_ : Int)), mm_W x 0 0 48 [mR 7, mI p1, mU] [] h48_ := by
      intro h48_ i48_ f48_ w48_0 w48_1 w48_2 w48_3
      have g7 : 0 ≤ h48_.1 7 7 ∧ h48_.1 7 7 ≤ 400 := i48_.1 7 7
      refine mm_aload_n C (mm_dec dk_X10_offer 30 rfl) rfl ?_
      refine mm_iload_n C (mm_dec dk_X10_offer 31 rfl) rfl ?_
      refine mm_aload_n C (mm_dec dk_X10_offer 32 rfl) rfl ?_
      refine mm_getr (t := 10) C fl_X10_18 (mm_dec dk_X10_offer 33 rfl) rfl rfl (mm_ref i48_ rfl) ?_
      refine mm_iload_n C (mm_dec dk_X10_offer 34 rfl) rfl ?_
      refine mm_iald C (mm_dec dk_X10_offer 35 rfl) rfl (by omega) (by omega) ?_
      have g8 : -1 ≤ (h48_.2.1 10 p1) ∧ (h48_.2.1 10 p1) ≤ 399 := i48_.2.1 10 p1
      refine mm_cVv (rest := []) C1 ev_X10_119 (mm_dec dk_X10_offer 36 rfl) (c_X10_rise_q x.2.1 hl (d - 1) (by omega) h48_ i48_ p1 (h48_.2.1 10 p1) ⟨by omega, by omega⟩ ⟨by omega, by omega⟩) rfl rfl (Nat.le_of_ble_eq_true rfl) ⟨by decide, by decide⟩ rfl (fun h56c hp56 => ?_) (fun _ _ q => q.elim)
      obtain ⟨i56c, g56c, y56_0, y56_1⟩ := hp56
      have f56c : mm_fr [(7, 7)] [8, 9, 10] h h56c := mm_fr_tr f48_ g56c (by decide +kernel)
      have q56c_10 : h56c.1 7 7 = h48_.1 7 7 := g56c.1 7 7 (by decide)
      exact mm_vret C T (mm_dec dk_X10_offer 37 rfl) (by decide : 0 ≤ 0) (by decide : 0 ≤ 0) ⟨rfl, ⟨i56c, f56c, by omega, by first | exact Or.inl ⟨by omega, rfl, fun _ _ => rfl⟩ | exact Or.inr ⟨by omega, fun P => mm_OF_of (w48_2 P (by omega)) rfl y56_1 (g56c.2 8 (by decide)) (g56c.1 7 7 (by decide))⟩, by omega⟩⟩
    refine mm_icmp_ne (tgt := 48) C (mm_dec dk_X10_offer 17 rfl) (by decide) (fun c25 => ?_) (fun c25 => ?_)
    · skip
      refine mm_fgt 2 ?_
      exact J48 h1 i1 f1 (by omega) (by omega) (by first | exact fun P lt => mm_OG_dec P eh1 (by omega) lt | exact fun P lt => mm_OG_new P eh1 (by assumption) eh1 (by omega) (by omega) (by omega) (by omega)) (by omega)
    · skip
      refine mm_aload_n C (mm_dec dk_X10_offer 18 rfl) rfl ?_
      refine mm_getr (t := 10) C fl_X10_18 (mm_dec dk_X10_offer 19 rfl) rfl rfl (mm_ref i1 rfl) ?_
      refine mm_iload_n C (mm_dec dk_X10_offer 20 rfl) rfl ?_
      refine mm_aload_n C (mm_dec dk_X10_offer 21 rfl) rfl ?_
      refine mm_geti C fl_X10_31 (mm_dec dk_X10_offer 22 rfl) rfl rfl (Or.inl rfl) ?_
      have zz := mm_cnt_free (h := h1) (j := p1) ⟨by omega, by omega⟩ (by omega)
      refine mm_iast C (mm_dec dk_X10_offer 23 rfl) rfl (by omega) (by omega) ?_
      have i3 : mm_inv (mm_pa h1 10 p1 (h1.1 7 7)) := mm_inv_pa i1 (show -1 ≤ (h1.1 7 7) ∧ (h1.1 7 7) ≤ 399 from ⟨by omega, by omega⟩)
      have f3 : mm_fr [(7, 7)] [8, 9, 10] h (mm_pa h1 10 p1 (h1.1 7 7)) := mm_fr_pa f1 (by decide)
      obtain ⟨h3, eh3⟩ : ∃ z, z = mm_pa h1 10 p1 (h1.1 7 7) := ⟨_, rfl⟩
      rw [← eh3] at i3 f3 ⊢
      have qh3_11 : h3.1 7 7 = h1.1 7 7 := by rw [eh3]; rfl
      have nh3 : mm_cnt h1 ≤ mm_cnt h3 ∧ (h1.2.1 10 p1 ≠ -1 ∨ mm_cnt h1 + 1 ≤ mm_cnt h3) := by rw [eh3]; exact mm_cnt_put ⟨by omega, by omega⟩ (by omega)
      have qh3_13 : h3.2.1 10 p1 = (h1.1 7 7) := by rw [eh3]; exact mm_pa_same _ _ _ _
      refine mm_aload_n C (mm_dec dk_X10_offer 24 rfl) rfl ?_
      refine mm_dup C (mm_dec dk_X10_offer 25 rfl) (show (2 : Nat) ≠ 1 by decide) ?_
      refine mm_geti C fl_X10_31 (mm_dec dk_X10_offer 26 rfl) rfl rfl (Or.inl rfl) ?_
      refine mm_iconst C (mm_dec dk_X10_offer 27 rfl) ⟨by decide, by decide⟩ ?_
      refine mm_iadd C (mm_dec dk_X10_offer 28 rfl) ⟨by omega, by omega⟩ ?_
      refine mm_puti C fl_X10_31 (mm_dec dk_X10_offer 29 rfl) rfl rfl rfl (Or.inl ⟨rfl, rfl⟩) ?_
      have i4 : mm_inv (mm_pf h3 7 7 ((h3.1 7 7) + 1)) := mm_inv_pf i3 (show 0 ≤ ((h3.1 7 7) + 1) ∧ ((h3.1 7 7) + 1) ≤ 400 from ⟨by omega, by omega⟩) (by decide)
      have f4 : mm_fr [(7, 7)] [8, 9, 10] h (mm_pf h3 7 7 ((h3.1 7 7) + 1)) := mm_fr_pf f3 (by decide)
      obtain ⟨h4, eh4⟩ : ∃ z, z = mm_pf h3 7 7 ((h3.1 7 7) + 1) := ⟨_, rfl⟩
      rw [← eh4] at i4 f4 ⊢
      have qh4 : h4.1 7 7 = ((h3.1 7 7) + 1) := by rw [eh4]; exact mm_pf_same _ _ _ _
      have nh4 : mm_cnt h4 = mm_cnt h3 := by rw [eh4]; exact mm_cnt_eq (fun _ => rfl)
      have qh4_15 : h4.2.1 10 p1 = h3.2.1 10 p1 := by rw [eh4]; rfl
      refine mm_fgt 2 ?_
      exact J48 h4 i4 f4 (by omega) (by omega) (by first | exact fun P lt => mm_OG_dec P eh1 (by omega) lt | exact fun P lt => mm_OG_new P eh1 (by assumption) eh4 (by omega) (by omega) (by omega) (by omega)) (by omega)
  · skip
    exact mm_vret C T (mm_dec dk_X10_offer 6 rfl) (by decide : 0 ≤ 0) (by decide : 0 ≤ 0) ⟨rfl, ⟨i0, f0, by omega, by first | exact Or.inl ⟨by omega, rfl, fun _ _ => rfl⟩ | exact Or.inr ⟨by omega, fun P => mm_OF_of (w48_2 P (by omega)) rfl y56_1 (g56c.2 8 (by decide)) (g56c.1 7 7 (by decide))⟩, by omega⟩⟩
set_option maxRecDepth 100000 in
set_option maxHeartbeats 4000000 in
theorem c_X10_takeNearest_q (l : Launch) (hl : l.stackTraces = false) (d : Nat) (hd : 2 ≤ d) (h : mH) (i0 : mm_inv h) (u0 : 0 < (h.1 7 7)) (t0 : h.1 7 7 ≤ (mm_cnt h : Int)) : mm_Met l d yX10_takeNearest cX10_takeNearest 2 (some .int) [mR 7] h (mm_pi fun r h2 => (0 ≤ r ∧ r ≤ 399) ∧ mm_inv h2 ∧ mm_fr [(7, 7)] [9, 10] h h2 ∧ h2.1 7 7 ≤ (mm_cnt h2 : Int) ∧ (mm_hp h → mm_TN h h2 r) ∧ r = h.2.1 9 0 ∧ h2.1 7 7 = h.1 7 7 - 1 ∧ mm_cnt h ≤ mm_cnt h2) mm_nx 0 0 := by
  refine mm_ofW (ls := [mR 7, mU]) hl (by decide) rfl (Nat.le_of_ble_eq_true rfl) ?_
  intro x hxl C T hnm htb
  subst hxl
  have C1 := mm_OK_le (d' := d - 1 + 1) (by omega) C
  have f0 : mm_fr [(7, 7)] [9, 10] h h := mm_fr_rf
  have g1 : 0 ≤ h.1 7 7 ∧ h.1 7 7 ≤ 400 := i0.1 7 7
  refine mm_aload_n C (mm_dec dk_X10_takeNearest 0 rfl) rfl ?_
  refine mm_getr (t := 9) C fl_X10_15 (mm_dec dk_X10_takeNearest 1 rfl) rfl rfl (mm_ref i0 rfl) ?_
  refine mm_iconst C (mm_dec dk_X10_takeNearest 2 rfl) ⟨by decide, by decide⟩ ?_
  refine mm_iald C (mm_dec dk_X10_takeNearest 3 rfl) rfl (by omega) (by omega) ?_
  have g2 : 0 ≤ (h.2.1 9 0) ∧ (h.2.1 9 0) ≤ 399 := i0.2.1 9 0
  refine mm_istore_nL (ls2 := [mR 7, mI (h.2.1 9 0)]) C (mm_dec dk_X10_takeNearest 4 rfl) (by decide) rfl ?_
  refine mm_aload_n C (mm_dec dk_X10_takeNearest 5 rfl) rfl ?_
  refine mm_dup C (mm_dec dk_X10_takeNearest 6 rfl) (show (2 : Nat) ≠ 1 by decide) ?_
  refine mm_geti C fl_X10_31 (mm_dec dk_X10_takeNearest 7 rfl) rfl rfl (Or.inl rfl) ?_
  refine mm_iconst C (mm_dec dk_X10_takeNearest 8 rfl) ⟨by decide, by decide⟩ ?_
  refine mm_isub C (mm_dec dk_X10_takeNearest 9 rfl) ⟨by omega, by omega⟩ ?_
  refine mm_puti C fl_X10_31 (mm_dec dk_X10_takeNearest 10 rfl) rfl rfl rfl (Or.inl ⟨rfl, rfl⟩) ?_
  have i1 : mm_inv (mm_pf h 7 7 ((h.1 7 7) - 1)) := mm_inv_pf i0 (show 0 ≤ ((h.1 7 7) - 1) ∧ ((h.1 7 7) - 1) ≤ 400 from ⟨by omega, by omega⟩) (by decide)
  have f1 : mm_fr [(7, 7)] [9, 10] h (mm_pf h 7 7 ((h.1 7 7) - 1)) := mm_fr_pf f0 (by decide)
  obtain ⟨h1, eh1⟩ : ∃ z, z = mm_pf h 7 7 ((h.1 7 7) - 1) := ⟨_, rfl⟩
  rw [← eh1] at i1 f1 ⊢
  have qh1 : h1.1 7 7 = ((h.1 7 7) - 1) := by rw [eh1]; exact mm_pf_same _ _ _ _
  have nh1 : mm_cnt h1 = mm_cnt h := by rw [eh1]; exact mm_cnt_eq (fun _ => rfl)
  refine mm_aload_n C (mm_dec dk_X10_takeNearest 11 rfl) rfl ?_
  refine mm_geti C fl_X10_31 (mm_dec dk_X10_takeNearest 12 rfl) rfl rfl (Or.inl rfl) ?_
  have J37 : ∀ (h37_ : mH) (i37_ : mm_inv h37_) (f37_ : mm_fr [(7, 7)] [9, 10] h h37_) (w37_0 : h37_.1 7 7 ≤ (mm_cnt h37_ : Int)) (w37_1 : (mm_hp h → mm_TN h h37_ (h.2.1 9 0))) (w37_2 : h37_.1 7 7 = h.1 7 7 - 1) (w37_3 : mm_cnt h ≤ mm_cnt h37_), mm_W x 0 0 37 [mU, mI (h.2.1 9 0)] [] h37_ := by
    intro h37_ i37_ f37_ w37_0 w37_1 w37_2 w37_3
    have g4 : 0 ≤ h37_.1 7 7 ∧ h37_.1 7 7 ≤ 400 := i37_.1 7 7
    refine mm_iload_n C (mm_dec dk_X10_takeNearest 21 rfl) rfl ?_
    exact mm_iret C T (mm_dec dk_X10_takeNearest 22 rfl) (by decide : 0 ≤ 0) (by decide : 0 ≤ 0) ⟨_, rfl, ⟨⟨by omega, by omega⟩, i37_, f37_, by omega, by exact w37_1, by first | rfl | omega, by omega, by omega⟩⟩
  refine mm_if_le (tgt := 37) C (mm_dec dk_X10_takeNearest 13 rfl) (by decide) (fun c21 => ?_) (fun c21 => ?_)
  · skip
    refine mm_fgt 0 ?_
    exact J37 h1 i1 f1 (by omega) (by first | exact fun P => mm_TN_1 P eh1 (by omega) (by omega) | exact fun P => mm_TN_s P eh1 (by omega) (by omega) (by rw [show h.1 7 7 - 1 = h1.1 7 7 by omega]; exact mm_sm_pf 9 eh1 _) y34_1 (g34c.2 8 (by decide)) (g34c.1 7 7 (by decide))) (by omega) (by omega)
  · skip
    refine mm_aload_n C (mm_dec dk_X10_takeNearest 14 rfl) rfl ?_
    refine mm_aload_n C (mm_dec dk_X10_takeNearest 15 rfl) rfl ?_
    refine mm_getr (t := 9) C fl_X10_15 (mm_dec dk_X10_takeNearest 16 rfl) rfl rfl (mm_ref i1 rfl) ?_
    refine mm_aload_n C (mm_dec dk_X10_takeNearest 17 rfl) rfl ?_
    refine mm_geti C fl_X10_31 (mm_dec dk_X10_takeNearest 18 rfl) rfl rfl (Or.inl rfl) ?_
    refine mm_iald C (mm_dec dk_X10_takeNearest 19 rfl) rfl (by omega) (by omega) ?_
    have g5 : 0 ≤ (h1.2.1 9 (h1.1 7 7)) ∧ (h1.2.1 9 (h1.1 7 7)) ≤ 399 := i1.2.1 9 (h1.1 7 7)
    refine mm_cVv (rest := []) C1 ev_X10_122 (mm_dec dk_X10_takeNearest 20 rfl) (c_X10_sink_q x.2.1 hl (d - 1) (by omega) h1 i1 (h1.2.1 9 (h1.1 7 7)) ⟨by omega, by omega⟩) rfl rfl (Nat.le_of_ble_eq_true rfl) ⟨by decide, by decide⟩ rfl (fun h34c hp34 => ?_) (fun _ _ q => q.elim)
    obtain ⟨i34c, g34c, y34_0, y34_1⟩ := hp34
    have f34c : mm_fr [(7, 7)] [9, 10] h h34c := mm_fr_tr f1 g34c (by decide +kernel)
    have q34c_7 : h34c.1 7 7 = h1.1 7 7 := g34c.1 7 7 (by decide)
    refine mm_fgt 0 ?_
    exact J37 h34c i34c f34c (by omega) (by first | exact fun P => mm_TN_1 P eh1 (by omega) (by omega) | exact fun P => mm_TN_s P eh1 (by omega) (by omega) (by rw [show h.1 7 7 - 1 = h1.1 7 7 by omega]; exact mm_sm_pf 9 eh1 _) y34_1 (g34c.2 8 (by decide)) (g34c.1 7 7 (by decide))) (by omega) (by omega)
set_option maxRecDepth 100000 in
set_option maxHeartbeats 4000000 in
theorem c_J7_fill_53178_8_q (l : Launch) (hl : l.stackTraces = false) (d : Nat) (hd : 0 ≤ d) (h : mH) (i0 : mm_inv h) (p1 : Int) : mm_Met l d yJ7_fill_53178 cJ7_fill_53178 4 none [mR 8, mI p1] h (mm_pv fun h2 => mm_inv h2 ∧ mm_fr [] [8] h h2 ∧ mm_al h2 8 399 p1) mm_nx 0 0 := by
  refine mm_ofW (ls := [mR 8, mI p1, mU, mU]) hl (by decide) rfl (Nat.le_of_ble_eq_true rfl) ?_
  intro x hxl C T hnm htb
  subst hxl
  refine mm_rng (fun hr _ => ?_)
  have ap1 : -2147483648 ≤ p1 ∧ p1 < 2147483648 := mm_ok_at hr (i := 1) rfl
  have f0 : mm_fr [] [8] h h := mm_fr_rf
  refine mm_iconst C (mm_dec dk_J7_fill_53178 0 rfl) ⟨by decide, by decide⟩ ?_
  refine mm_istore_nL (ls2 := [mR 8, mI p1, mI 0, mU]) C (mm_dec dk_J7_fill_53178 1 rfl) (by decide) rfl ?_
  refine mm_aload_n C (mm_dec dk_J7_fill_53178 2 rfl) rfl ?_
  refine mm_alenz (z := 400) C (mm_dec dk_J7_fill_53178 3 rfl) rfl (by decide) (by decide) rfl ?_
  have J5 : ∀ (n : Nat) (x5_2 : Int) (bx5_2 : 0 ≤ x5_2 ∧ x5_2 ≤ 400) (x5_3 : Int) (bx5_3 : 400 ≤ x5_3 ∧ x5_3 ≤ 400) (h5_ : mH) (i5_ : mm_inv h5_) (f5_ : mm_fr [] [8] h h5_) (w5_0 : mm_al h5_ 8 (x5_2 - 1) p1), (400 - x5_2 : Int) < n → mm_W x 0 0 5 [mR 8, mI p1, mI x5_2, mI x5_3] [] h5_ := by
    intro n
    induction n with
    | zero =>
      intro x5_2 bx5_2 x5_3 bx5_3 h5_ i5_ f5_ w5_0 hm
      exfalso; omega
    | succ n ih5 =>
      intro x5_2 bx5_2 x5_3 bx5_3 h5_ i5_ f5_ w5_0 hm5
      refine mm_iload_n C (mm_dec dk_J7_fill_53178 5 rfl) rfl ?_
      refine mm_iload_n C (mm_dec dk_J7_fill_53178 6 rfl) rfl ?_
      refine mm_icmp_ge (tgt := 20) C (mm_dec dk_J7_fill_53178 7 rfl) (by decide) (fun c7 => ?_) (fun c7 => ?_)
      · skip
        exact mm_vret C T (mm_dec dk_J7_fill_53178 14 rfl) (by decide : 0 ≤ 0) (by decide : 0 ≤ 0) ⟨rfl, ⟨i5_, f5_, by exact mm_al_le w5_0 (by omega)⟩⟩
      · skip
        refine mm_aload_n C (mm_dec dk_J7_fill_53178 8 rfl) rfl ?_
        refine mm_iload_n C (mm_dec dk_J7_fill_53178 9 rfl) rfl ?_
        refine mm_iload_n C (mm_dec dk_J7_fill_53178 10 rfl) rfl ?_
        refine mm_iast C (mm_dec dk_J7_fill_53178 11 rfl) rfl (by omega) (by omega) ?_
        have i1 : mm_inv (mm_pa h5_ 8 x5_2 p1) := mm_inv_pa i5_ (show -2147483648 ≤ p1 ∧ p1 ≤ 2147483647 from ⟨by omega, by omega⟩)
        have f1 : mm_fr [] [8] h (mm_pa h5_ 8 x5_2 p1) := mm_fr_pa f5_ (by decide)
        obtain ⟨h1, eh1⟩ : ∃ z, z = mm_pa h5_ 8 x5_2 p1 := ⟨_, rfl⟩
        rw [← eh1] at i1 f1 ⊢
        refine mm_iincL (ls2 := [mR 8, mI p1, mI (x5_2 + 1), mI x5_3]) C (mm_dec dk_J7_fill_53178 12 rfl) rfl (by decide) ⟨by omega, by omega⟩ rfl ?_
        refine mm_goto (tgt := 5) C (mm_dec dk_J7_fill_53178 13 rfl) (by decide) ?_
        exact ih5 (x5_2 + 1) ⟨by omega, by omega⟩ x5_3 ⟨by omega, by omega⟩ h1 i1 f1 (by first | exact mm_al_nil (by omega) | (rw [show x5_2 + 1 - 1 = x5_2 by omega]; exact mm_al_put w5_0 eh1)) (by omega)
  refine mm_istore_nL (ls2 := [mR 8, mI p1, mI 0, mI 400]) C (mm_dec dk_J7_fill_53178 4 rfl) (by decide) rfl ?_
  exact J5 (((400 - 0) : Int) + 1).toNat 0 ⟨by omega, by omega⟩ 400 ⟨by omega, by omega⟩ h i0 f0 (by first | exact mm_al_nil (by omega) | (rw [show x5_2 + 1 - 1 = x5_2 by omega]; exact mm_al_put w5_0 eh)) (by omega)
set_option maxRecDepth 100000 in
set_option maxHeartbeats 4000000 in
theorem c_J7_fill_53178_10_q (l : Launch) (hl : l.stackTraces = false) (d : Nat) (hd : 0 ≤ d) (h : mH) (i0 : mm_inv h) (p1 : Int) (bp1 : -1 ≤ p1 ∧ p1 ≤ 399) : mm_Met l d yJ7_fill_53178 cJ7_fill_53178 4 none [mR 10, mI p1] h (mm_pv fun h2 => mm_inv h2 ∧ mm_fr [] [10] h h2 ∧ mm_al h2 10 399 p1) mm_nx 0 0 := by
  refine mm_ofW (ls := [mR 10, mI p1, mU, mU]) hl (by decide) rfl (Nat.le_of_ble_eq_true rfl) ?_
  intro x hxl C T hnm htb
  subst hxl
  refine mm_rng (fun hr _ => ?_)
  have ap1 : -2147483648 ≤ p1 ∧ p1 < 2147483648 := mm_ok_at hr (i := 1) rfl
  have f0 : mm_fr [] [10] h h := mm_fr_rf
  refine mm_iconst C (mm_dec dk_J7_fill_53178 0 rfl) ⟨by decide, by decide⟩ ?_
  refine mm_istore_nL (ls2 := [mR 10, mI p1, mI 0, mU]) C (mm_dec dk_J7_fill_53178 1 rfl) (by decide) rfl ?_
  refine mm_aload_n C (mm_dec dk_J7_fill_53178 2 rfl) rfl ?_
  refine mm_alenz (z := 400) C (mm_dec dk_J7_fill_53178 3 rfl) rfl (by decide) (by decide) rfl ?_
  have J5 : ∀ (n : Nat) (x5_2 : Int) (bx5_2 : 0 ≤ x5_2 ∧ x5_2 ≤ 400) (x5_3 : Int) (bx5_3 : 400 ≤ x5_3 ∧ x5_3 ≤ 400) (h5_ : mH) (i5_ : mm_inv h5_) (f5_ : mm_fr [] [10] h h5_) (w5_0 : mm_al h5_ 10 (x5_2 - 1) p1), (400 - x5_2 : Int) < n → mm_W x 0 0 5 [mR 10, mI p1, mI x5_2, mI x5_3] [] h5_ := by
    intro n
    induction n with
    | zero =>
      intro x5_2 bx5_2 x5_3 bx5_3 h5_ i5_ f5_ w5_0 hm
      exfalso; omega
    | succ n ih5 =>
      intro x5_2 bx5_2 x5_3 bx5_3 h5_ i5_ f5_ w5_0 hm5
      refine mm_iload_n C (mm_dec dk_J7_fill_53178 5 rfl) rfl ?_
      refine mm_iload_n C (mm_dec dk_J7_fill_53178 6 rfl) rfl ?_
      refine mm_icmp_ge (tgt := 20) C (mm_dec dk_J7_fill_53178 7 rfl) (by decide) (fun c7 => ?_) (fun c7 => ?_)
      · skip
        exact mm_vret C T (mm_dec dk_J7_fill_53178 14 rfl) (by decide : 0 ≤ 0) (by decide : 0 ≤ 0) ⟨rfl, ⟨i5_, f5_, by exact mm_al_le w5_0 (by omega)⟩⟩
      · skip
        refine mm_aload_n C (mm_dec dk_J7_fill_53178 8 rfl) rfl ?_
        refine mm_iload_n C (mm_dec dk_J7_fill_53178 9 rfl) rfl ?_
        refine mm_iload_n C (mm_dec dk_J7_fill_53178 10 rfl) rfl ?_
        refine mm_iast C (mm_dec dk_J7_fill_53178 11 rfl) rfl (by omega) (by omega) ?_
        have i1 : mm_inv (mm_pa h5_ 10 x5_2 p1) := mm_inv_pa i5_ (show -1 ≤ p1 ∧ p1 ≤ 399 from ⟨by omega, by omega⟩)
        have f1 : mm_fr [] [10] h (mm_pa h5_ 10 x5_2 p1) := mm_fr_pa f5_ (by decide)
        obtain ⟨h1, eh1⟩ : ∃ z, z = mm_pa h5_ 10 x5_2 p1 := ⟨_, rfl⟩
        rw [← eh1] at i1 f1 ⊢
        refine mm_iincL (ls2 := [mR 10, mI p1, mI (x5_2 + 1), mI x5_3]) C (mm_dec dk_J7_fill_53178 12 rfl) rfl (by decide) ⟨by omega, by omega⟩ rfl ?_
        refine mm_goto (tgt := 5) C (mm_dec dk_J7_fill_53178 13 rfl) (by decide) ?_
        exact ih5 (x5_2 + 1) ⟨by omega, by omega⟩ x5_3 ⟨by omega, by omega⟩ h1 i1 f1 (by first | exact mm_al_nil (by omega) | (rw [show x5_2 + 1 - 1 = x5_2 by omega]; exact mm_al_put w5_0 eh1)) (by omega)
  refine mm_istore_nL (ls2 := [mR 10, mI p1, mI 0, mI 400]) C (mm_dec dk_J7_fill_53178 4 rfl) (by decide) rfl ?_
  exact J5 (((400 - 0) : Int) + 1).toNat 0 ⟨by omega, by omega⟩ 400 ⟨by omega, by omega⟩ h i0 f0 (by first | exact mm_al_nil (by omega) | (rw [show x5_2 + 1 - 1 = x5_2 by omega]; exact mm_al_put w5_0 eh)) (by omega)
set_option maxRecDepth 100000 in
set_option maxHeartbeats 4000000 in
theorem c_X10_offerAround_q (l : Launch) (hl : l.stackTraces = false) (d : Nat) (hd : 2 ≤ d) (h : mH) (i0 : mm_inv h) (p1 : Int) (bp1 : 0 ≤ p1 ∧ p1 ≤ 399) (t0 : h.1 7 7 ≤ (mm_cnt h : Int)) : mm_Met l d yX10_offerAround cX10_offerAround 4 none [mR 7, mI p1] h (mm_pv fun h2 => mm_inv h2 ∧ mm_fr [(7, 7)] [8, 9, 10] h h2 ∧ h2.1 7 7 ≤ (mm_cnt h2 : Int) ∧ (∀ t d, mm_OA h p1 t d → mm_di h h2 t d (-1)) ∧ h2.1 7 7 + (mm_cnt h : Int) ≤ h.1 7 7 + (mm_cnt h2 : Int)) mm_nx 0 0 := by
  refine mm_ofW (ls := [mR 7, mI p1, mU, mU]) hl (by decide) rfl (Nat.le_of_ble_eq_true rfl) ?_
  intro x hxl C T hnm htb
  subst hxl
  have C1 := mm_OK_le (d' := d - 1 + 1) (by omega) C
  refine mm_rng (fun hr _ => ?_)
  have ap1 : -2147483648 ≤ p1 ∧ p1 < 2147483648 := mm_ok_at hr (i := 1) rfl
  have f0 : mm_fr [(7, 7)] [8, 9, 10] h h := mm_fr_rf
  have g1 : 0 ≤ h.1 7 7 ∧ h.1 7 7 ≤ 400 := i0.1 7 7
  refine mm_iconst C (mm_dec dk_X10_offerAround 0 rfl) ⟨by decide, by decide⟩ ?_
  have J2 : ∀ (n : Nat) (x2_2 : Int) (bx2_2 : 0 ≤ x2_2 ∧ x2_2 ≤ 4) (h2_ : mH) (i2_ : mm_inv h2_) (f2_ : mm_fr [(7, 7)] [8, 9, 10] h h2_) (w2_0 : h2_.1 7 7 ≤ (mm_cnt h2_ : Int)) (w2_1 : (∀ t d, mm_OA h p1 t d → mm_OB h h2_ p1 t d x2_2)) (w2_2 : h2_.1 7 7 + (mm_cnt h : Int) ≤ h.1 7 7 + (mm_cnt h2_ : Int)), (4 - x2_2 : Int) < n → mm_W x 0 0 2 [mR 7, mI p1, mI x2_2, mU] [] h2_ := by
    intro n
    induction n with
    | zero =>
      intro x2_2 bx2_2 h2_ i2_ f2_ w2_0 w2_1 w2_2 hm
      have g2 : 0 ≤ h2_.1 7 7 ∧ h2_.1 7 7 ≤ 400 := i2_.1 7 7
      exfalso; omega
    | succ n ih2 =>
      intro x2_2 bx2_2 h2_ i2_ f2_ w2_0 w2_1 w2_2 hm2
      have g3 : 0 ≤ h2_.1 7 7 ∧ h2_.1 7 7 ≤ 400 := i2_.1 7 7
      refine mm_iload_n C (mm_dec dk_X10_offerAround 2 rfl) rfl ?_
      refine mm_iconst C (mm_dec dk_X10_offerAround 3 rfl) ⟨by decide, by decide⟩ ?_
      refine mm_icmp_ge (tgt := 55) C (mm_dec dk_X10_offerAround 4 rfl) (by decide) (fun c4 => ?_) (fun c4 => ?_)
      · skip
        exact mm_vret C T (mm_dec dk_X10_offerAround 33 rfl) (by decide : 0 ≤ 0) (by decide : 0 ≤ 0) ⟨rfl, ⟨i2_, f2_, by omega, by exact fun t d O => mm_OB_end i0 O (w2_1 t d O) (by omega), by omega⟩⟩
      · skip
        refine mm_aload_n C (mm_dec dk_X10_offerAround 5 rfl) rfl ?_
        refine mm_getr (t := 1) C fl_X10_48 (mm_dec dk_X10_offerAround 6 rfl) rfl rfl (mm_ref i2_ rfl) ?_
        refine mm_iload_n C (mm_dec dk_X10_offerAround 7 rfl) rfl ?_
        refine mm_iload_n C (mm_dec dk_X10_offerAround 8 rfl) rfl ?_
        refine mm_cVi (rest := []) C1 ev_X10_61 (mm_dec dk_X10_offerAround 9 rfl) (c_X5_beside x.2.1 hl (d - 1) (by omega) h2_ i2_ p1 x2_2 ⟨by omega, by omega⟩) rfl rfl (Nat.le_of_ble_eq_true rfl) ⟨by decide, by decide⟩ rfl (fun r13 h13c hp13 => ?_) (fun _ _ q => q.elim)
        obtain ⟨b13, z13, y13_0⟩ := hp13
        rw [z13]
        have zy : r13 = mm_bes h p1 x2_2 := y13_0.trans (congrFun (congrFun (mm_ldx_eq (mm_ldx_fr f2_ (by decide))).2.2.2.1 p1) x2_2)
        refine mm_istore_nL (ls2 := [mR 7, mI p1, mI x2_2, mI r13]) C (mm_dec dk_X10_offerAround 10 rfl) (by decide) rfl ?_
        refine mm_iload_n C (mm_dec dk_X10_offerAround 11 rfl) rfl ?_
        refine mm_iconst C (mm_dec dk_X10_offerAround 12 rfl) ⟨by decide, by decide⟩ ?_
        have J49 : ∀ (h49_ : mH) (i49_ : mm_inv h49_) (f49_ : mm_fr [(7, 7)] [8, 9, 10] h h49_) (w49_0 : h49_.1 7 7 ≤ (mm_cnt h49_ : Int)) (w49_1 : (∀ t d, mm_OA h p1 t d → mm_OB h h49_ p1 t d (x2_2 + 1))) (w49_2 : h49_.1 7 7 + (mm_cnt h : Int) ≤ h.1 7 7 + (mm_cnt h49_ : Int)), mm_W x 0 0 49 [mR 7, mI p1, mI x2_2, mU] [] h49_ := by
          intro h49_ i49_ f49_ w49_0 w49_1 w49_2
          have g5 : 0 ≤ h49_.1 7 7 ∧ h49_.1 7 7 ≤ 400 := i49_.1 7 7
          refine mm_iincL (ls2 := [mR 7, mI p1, mI (x2_2 + 1), mU]) C (mm_dec dk_X10_offerAround 31 rfl) rfl (by decide) ⟨by omega, by omega⟩ rfl ?_
          refine mm_goto (tgt := 2) C (mm_dec dk_X10_offerAround 32 rfl) (by decide) ?_
          exact ih2 (x2_2 + 1) ⟨by omega, by omega⟩ h49_ i49_ f49_ (by omega) (by first | exact fun t d O => mm_OB_0 O | exact w49_1) (by omega) (by omega)
        refine mm_icmp_eq (tgt := 49) C (mm_dec dk_X10_offerAround 13 rfl) (by decide) (fun c19 => ?_) (fun c19 => ?_)
        · skip
          refine mm_fgt 3 ?_
          exact J49 h2_ i2_ f2_ (by omega) (by first | exact fun t d O => mm_OB_skip (w2_1 t d O) (by omega) | exact fun t d O => mm_OB_s i0 O (w2_1 t d O) (by omega) (by omega) zy (by omega) zs rfl y46_1) (by omega)
        · skip
          refine mm_aload_n C (mm_dec dk_X10_offerAround 14 rfl) rfl ?_
          refine mm_iload_n C (mm_dec dk_X10_offerAround 15 rfl) rfl ?_
          refine mm_aload_n C (mm_dec dk_X10_offerAround 16 rfl) rfl ?_
          refine mm_getr (t := 8) C fl_X10_9 (mm_dec dk_X10_offerAround 17 rfl) rfl rfl (mm_ref i2_ rfl) ?_
          refine mm_iload_n C (mm_dec dk_X10_offerAround 18 rfl) rfl ?_
          refine mm_iald C (mm_dec dk_X10_offerAround 19 rfl) rfl (by omega) (by omega) ?_
          have g6 : -2147483648 ≤ (h2_.2.1 8 p1) ∧ (h2_.2.1 8 p1) ≤ 2147483647 := i2_.2.1 8 p1
          refine mm_aload_n C (mm_dec dk_X10_offerAround 20 rfl) rfl ?_
          refine mm_getr (t := 1) C fl_X10_48 (mm_dec dk_X10_offerAround 21 rfl) rfl rfl (mm_ref i2_ rfl) ?_
          refine mm_iload_n C (mm_dec dk_X10_offerAround 22 rfl) rfl ?_
          refine mm_iload_n C (mm_dec dk_X10_offerAround 23 rfl) rfl ?_
          refine mm_cVi (rest := [mI (h2_.2.1 8 p1), mI r13, mR 7]) C1 ev_X10_91 (mm_dec dk_X10_offerAround 24 rfl) (c_X5_secondsOf_q x.2.1 hl (d - 1) (by omega) h2_ i2_ r13 p1 ⟨by omega, by omega⟩ ⟨by omega, by omega⟩) rfl rfl (Nat.le_of_ble_eq_true rfl) ⟨by decide, by decide⟩ rfl (fun r36 h36c hp36 => ?_) (fun _ _ q => q.elim)
          obtain ⟨b36, z36, y36_0⟩ := hp36
          rw [z36]
          have zs : r36 = mm_sx h r13 p1 := y36_0.trans (congrFun (congrFun (mm_ldx_eq (mm_ldx_fr f2_ (by decide))).2.2.2.2 r13) p1)
          refine mm_sipush C (mm_dec dk_X10_offerAround 25 rfl) ⟨by decide, by decide⟩ ?_
          refine mm_imul C (mm_dec dk_X10_offerAround 26 rfl) ⟨by omega, by omega⟩ ?_
          refine mm_iaddw C (mm_dec dk_X10_offerAround 27 rfl) ?_
          have g8 : -2147483648 ≤ (mm_w ((h2_.2.1 8 p1) + (r36 * 512))) ∧ (mm_w ((h2_.2.1 8 p1) + (r36 * 512))) < 2147483648 := mm_w_rg _
          refine mm_iconst C (mm_dec dk_X10_offerAround 28 rfl) ⟨by decide, by decide⟩ ?_
          refine mm_iaddw C (mm_dec dk_X10_offerAround 29 rfl) ?_
          have g9 : -2147483648 ≤ (mm_w ((mm_w ((h2_.2.1 8 p1) + (r36 * 512))) + 1)) ∧ (mm_w ((mm_w ((h2_.2.1 8 p1) + (r36 * 512))) + 1)) < 2147483648 := mm_w_rg _
          refine mm_cVv (rest := []) C1 ev_X10_100 (mm_dec dk_X10_offerAround 30 rfl) (c_X10_offer_q x.2.1 hl (d - 1) (by omega) h2_ i2_ r13 (mm_w ((mm_w ((h2_.2.1 8 p1) + (r36 * 512))) + 1)) ⟨by omega, by omega⟩ (by omega)) rfl rfl (Nat.le_of_ble_eq_true rfl) ⟨by decide, by decide⟩ rfl (fun h46c hp46 => ?_) (fun _ _ q => q.elim)
          obtain ⟨i46c, g46c, y46_0, y46_1, y46_2⟩ := hp46
          have f46c : mm_fr [(7, 7)] [8, 9, 10] h h46c := mm_fr_tr f2_ g46c (by decide +kernel)
          have g11 : 0 ≤ (h46c.1 7 7) ∧ (h46c.1 7 7) ≤ 400 := i46c.1 7 7
          refine mm_fgt 3 ?_
          exact J49 h46c i46c f46c (by omega) (by first | exact fun t d O => mm_OB_skip (w2_1 t d O) (by omega) | exact fun t d O => mm_OB_s i0 O (w2_1 t d O) (by omega) (by omega) zy (by omega) zs rfl y46_1) (by omega)
  refine mm_istore_nL (ls2 := [mR 7, mI p1, mI 0, mU]) C (mm_dec dk_X10_offerAround 1 rfl) (by decide) rfl ?_
  exact J2 (((4 - 0) : Int) + 1).toNat 0 ⟨by omega, by omega⟩ h i0 f0 (by omega) (by first | exact fun t d O => mm_OB_0 O | exact w49_1) (by omega) (by omega)
set_option maxRecDepth 100000 in
set_option maxHeartbeats 4000000 in
theorem c_X10_measure_q (l : Launch) (hl : l.stackTraces = false) (d : Nat) (hd : 3 ≤ d) (h : mH) (i0 : mm_inv h) (p1 : Int) (p2 : Int) (bp1 : 0 ≤ p1 ∧ p1 ≤ 399) (bp2 : -1 ≤ p2 ∧ p2 ≤ 399) : mm_Met l d yX10_measure cX10_measure 4 none [mR 7, mI p1, mI p2] h (mm_pv fun h2 => mm_inv h2 ∧ mm_fr [(7, 7), (7, 8)] [8, 9, 10, 11] h h2 ∧ (∀ d, mm_MS h p1 d → mm_inl h p2 → h2.2.1 8 p2 = d p2)) mm_nx 0 0 := by
  refine mm_ofW (ls := [mR 7, mI p1, mI p2, mU]) hl (by decide) rfl (Nat.le_of_ble_eq_true rfl) ?_
  intro x hxl C T hnm htb
  subst hxl
  have C1 := mm_OK_le (d' := d - 1 + 1) (by omega) C
  refine mm_rng (fun hr _ => ?_)
  have ap1 : -2147483648 ≤ p1 ∧ p1 < 2147483648 := mm_ok_at hr (i := 1) rfl
  have ap2 : -2147483648 ≤ p2 ∧ p2 < 2147483648 := mm_ok_at hr (i := 2) rfl
  have f0 : mm_fr [(7, 7), (7, 8)] [8, 9, 10, 11] h h := mm_fr_rf
  have g1 : 0 ≤ h.1 7 7 ∧ h.1 7 7 ≤ 400 := i0.1 7 7
  have g2 : 0 ≤ h.1 7 8 ∧ h.1 7 8 ≤ 400 := i0.1 7 8
  refine mm_aload_n C (mm_dec dk_X10_measure 0 rfl) rfl ?_
  refine mm_getr (t := 8) C fl_X10_9 (mm_dec dk_X10_measure 1 rfl) rfl rfl (mm_ref i0 rfl) ?_
  refine mm_ldc (z := 2000000000) C (mm_dec dk_X10_measure 2 rfl) kc_X10_56 (by decide) ?_
  refine mm_cSv (rest := []) C1 es_X10_94 (mm_dec dk_X10_measure 3 rfl) (c_J7_fill_53178_8_q x.2.1 hl (d - 1) (by omega) h i0 2000000000) rfl (Nat.le_of_ble_eq_true rfl) ⟨by decide, by decide⟩ rfl (fun h6c hp6 => ?_) (fun _ _ q => q.elim)
  obtain ⟨i6c, g6c, y6_0⟩ := hp6
  have f6c : mm_fr [(7, 7), (7, 8)] [8, 9, 10, 11] h h6c := mm_fr_tr f0 g6c (by decide +kernel)
  have q6c_4 : h6c.1 7 7 = h.1 7 7 := g6c.1 7 7 (by decide)
  have q6c_5 : h6c.1 7 8 = h.1 7 8 := g6c.1 7 8 (by decide)
  have n6c : mm_cnt h6c = mm_cnt h := mm_cnt_eq (g6c.2 10 (by decide))
  refine mm_aload_n C (mm_dec dk_X10_measure 4 rfl) rfl ?_
  refine mm_getr (t := 10) C fl_X10_18 (mm_dec dk_X10_measure 5 rfl) rfl rfl (mm_ref i6c rfl) ?_
  refine mm_iconst C (mm_dec dk_X10_measure 6 rfl) ⟨by decide, by decide⟩ ?_
  refine mm_cSv (rest := []) C1 es_X10_94 (mm_dec dk_X10_measure 7 rfl) (c_J7_fill_53178_10_q x.2.1 hl (d - 1) (by omega) h6c i6c (-1) ⟨by omega, by omega⟩) rfl (Nat.le_of_ble_eq_true rfl) ⟨by decide, by decide⟩ rfl (fun h14c hp14 => ?_) (fun _ _ q => q.elim)
  obtain ⟨i14c, g14c, y14_0⟩ := hp14
  have f14c : mm_fr [(7, 7), (7, 8)] [8, 9, 10, 11] h h14c := mm_fr_tr f6c g14c (by decide +kernel)
  have q14c_7 : h14c.1 7 7 = h6c.1 7 7 := g14c.1 7 7 (by decide)
  have q14c_8 : h14c.1 7 8 = h6c.1 7 8 := g14c.1 7 8 (by decide)
  refine mm_aload_n C (mm_dec dk_X10_measure 8 rfl) rfl ?_
  refine mm_iconst C (mm_dec dk_X10_measure 9 rfl) ⟨by decide, by decide⟩ ?_
  refine mm_puti C fl_X10_31 (mm_dec dk_X10_measure 10 rfl) rfl rfl rfl (Or.inl ⟨rfl, rfl⟩) ?_
  have i3 : mm_inv (mm_pf h14c 7 7 0) := mm_inv_pf i14c (show 0 ≤ 0 ∧ 0 ≤ 400 from ⟨by omega, by omega⟩) (by decide)
  have f3 : mm_fr [(7, 7), (7, 8)] [8, 9, 10, 11] h (mm_pf h14c 7 7 0) := mm_fr_pf f14c (by decide)
  obtain ⟨h3, eh3⟩ : ∃ z, z = mm_pf h14c 7 7 0 := ⟨_, rfl⟩
  rw [← eh3] at i3 f3 ⊢
  have qh3 : h3.1 7 7 = 0 := by rw [eh3]; exact mm_pf_same _ _ _ _
  have qh3_9 : h3.1 7 8 = h14c.1 7 8 := by rw [eh3]; exact mm_pf_ne _ _ (by decide)
  have nh3 : mm_cnt h3 = mm_cnt h14c := by rw [eh3]; exact mm_cnt_eq (fun _ => rfl)
  refine mm_aload_n C (mm_dec dk_X10_measure 11 rfl) rfl ?_
  refine mm_iconst C (mm_dec dk_X10_measure 12 rfl) ⟨by decide, by decide⟩ ?_
  refine mm_puti C fl_X10_35 (mm_dec dk_X10_measure 13 rfl) rfl rfl rfl (Or.inl ⟨rfl, rfl⟩) ?_
  have i4 : mm_inv (mm_pf h3 7 8 0) := mm_inv_pf i3 (show 0 ≤ 0 ∧ 0 ≤ 400 from ⟨by omega, by omega⟩) (by decide)
  have f4 : mm_fr [(7, 7), (7, 8)] [8, 9, 10, 11] h (mm_pf h3 7 8 0) := mm_fr_pf f3 (by decide)
  obtain ⟨h4, eh4⟩ : ∃ z, z = mm_pf h3 7 8 0 := ⟨_, rfl⟩
  rw [← eh4] at i4 f4 ⊢
  have qh4 : h4.1 7 8 = 0 := by rw [eh4]; exact mm_pf_same _ _ _ _
  have qh4_11 : h4.1 7 7 = h3.1 7 7 := by rw [eh4]; exact mm_pf_ne _ _ (by decide)
  have nh4 : mm_cnt h4 = mm_cnt h3 := by rw [eh4]; exact mm_cnt_eq (fun _ => rfl)
  refine mm_aload_n C (mm_dec dk_X10_measure 14 rfl) rfl ?_
  refine mm_iload_n C (mm_dec dk_X10_measure 15 rfl) rfl ?_
  refine mm_iconst C (mm_dec dk_X10_measure 16 rfl) ⟨by decide, by decide⟩ ?_
  have J33 : ∀ (n : Nat) (h33_ : mH) (i33_ : mm_inv h33_) (f33_ : mm_fr [(7, 7), (7, 8)] [8, 9, 10, 11] h h33_) (w33_0 : h33_.1 7 7 ≤ (mm_cnt h33_ : Int)) (w33_1 : (∀ d, mm_MS h p1 d → mm_di h h33_ p1 d (-1))) (w33_2 : h33_.1 7 8 + h33_.1 7 7 ≤ (mm_cnt h33_ : Int)), (400 - h33_.1 7 8 : Int) < n → mm_W x 0 0 33 [mR 7, mU, mI p2, mU] [] h33_ := by
    intro n
    induction n with
    | zero =>
      intro h33_ i33_ f33_ w33_0 w33_1 w33_2 hm
      have g13 : 0 ≤ h33_.1 7 7 ∧ h33_.1 7 7 ≤ 400 := i33_.1 7 7
      have g14 : 0 ≤ h33_.1 7 8 ∧ h33_.1 7 8 ≤ 400 := i33_.1 7 8
      exfalso; omega
    | succ n ih33 =>
      intro h33_ i33_ f33_ w33_0 w33_1 w33_2 hm33
      have g15 : 0 ≤ h33_.1 7 7 ∧ h33_.1 7 7 ≤ 400 := i33_.1 7 7
      have g16 : 0 ≤ h33_.1 7 8 ∧ h33_.1 7 8 ≤ 400 := i33_.1 7 8
      have zc := mm_cnt_400 h33_
      refine mm_aload_n C (mm_dec dk_X10_measure 18 rfl) rfl ?_
      refine mm_geti C fl_X10_35 (mm_dec dk_X10_measure 19 rfl) rfl rfl (Or.inl rfl) ?_
      refine mm_sipush C (mm_dec dk_X10_measure 20 rfl) ⟨by decide, by decide⟩ ?_
      have J102 : ∀ (h102_ : mH) (i102_ : mm_inv h102_) (f102_ : mm_fr [(7, 7), (7, 8)] [8, 9, 10, 11] h h102_) (w102_0 : (∀ d, mm_MS h p1 d → mm_inl h p2 → h102_.2.1 8 p2 = d p2)), mm_W x 0 0 102 [mU, mU, mU, mU] [] h102_ := by
        intro h102_ i102_ f102_ w102_0
        have g17 : 0 ≤ h102_.1 7 7 ∧ h102_.1 7 7 ≤ 400 := i102_.1 7 7
        have g18 : 0 ≤ h102_.1 7 8 ∧ h102_.1 7 8 ≤ 400 := i102_.1 7 8
        exact mm_vret C T (mm_dec dk_X10_measure 53 rfl) (by decide : 0 ≤ 0) (by decide : 0 ≤ 0) ⟨rfl, ⟨i102_, f102_, by exact w102_0⟩⟩
      refine mm_icmp_ge (tgt := 102) C (mm_dec dk_X10_measure 21 rfl) (by decide) (fun c40 => ?_) (fun c40 => ?_)
      · skip
        refine mm_fgt 0 ?_
        refine mm_fgt 2 ?_
        exact J102 h33_ i33_ f33_ (by first | exact fun d M v => mm_M_end i0 M (w33_1 d M) (by omega) p2 v | exact fun d M v => (show p2 = r51 by omega) ▸ (zk d M).2.1)
      · skip
        refine mm_aload_n C (mm_dec dk_X10_measure 22 rfl) rfl ?_
        refine mm_geti C fl_X10_31 (mm_dec dk_X10_measure 23 rfl) rfl rfl (Or.inl rfl) ?_
        refine mm_if_le (tgt := 102) C (mm_dec dk_X10_measure 24 rfl) (by decide) (fun c47 => ?_) (fun c47 => ?_)
        · skip
          refine mm_fgt 0 ?_
          refine mm_fgt 2 ?_
          exact J102 h33_ i33_ f33_ (by first | exact fun d M v => mm_M_end i0 M (w33_1 d M) (by omega) p2 v | exact fun d M v => (show p2 = r51 by omega) ▸ (zk d M).2.1)
        · skip
          refine mm_aload_n C (mm_dec dk_X10_measure 25 rfl) rfl ?_
          refine mm_cVi (rest := []) C1 ev_X10_103 (mm_dec dk_X10_measure 26 rfl) (c_X10_takeNearest_q x.2.1 hl (d - 1) (by omega) h33_ i33_ (by omega) (by omega)) rfl rfl (Nat.le_of_ble_eq_true rfl) ⟨by decide, by decide⟩ rfl (fun r51 h51c hp51 => ?_) (fun _ _ q => q.elim)
          obtain ⟨b51, i51c, g51c, y51_0, y51_1, y51_2, y51_3, y51_4⟩ := hp51
          have f51c : mm_fr [(7, 7), (7, 8)] [8, 9, 10, 11] h h51c := mm_fr_tr f33_ g51c (by decide +kernel)
          have q51c_20 : h51c.1 7 8 = h33_.1 7 8 := g51c.1 7 8 (by decide)
          have g21 : 0 ≤ (h51c.1 7 7) ∧ (h51c.1 7 7) ≤ 400 := i51c.1 7 7
          refine mm_istore_nL (ls2 := [mR 7, mU, mI p2, mI r51]) C (mm_dec dk_X10_measure 27 rfl) (by decide) rfl ?_
          refine mm_aload_n C (mm_dec dk_X10_measure 28 rfl) rfl ?_
          refine mm_getr (t := 11) C fl_X10_21 (mm_dec dk_X10_measure 29 rfl) rfl rfl (mm_ref i51c rfl) ?_
          refine mm_aload_n C (mm_dec dk_X10_measure 30 rfl) rfl ?_
          refine mm_geti C fl_X10_35 (mm_dec dk_X10_measure 31 rfl) rfl rfl (Or.inl rfl) ?_
          refine mm_iload_n C (mm_dec dk_X10_measure 32 rfl) rfl ?_
          refine mm_iast C (mm_dec dk_X10_measure 33 rfl) rfl (by omega) (by omega) ?_
          have i6 : mm_inv (mm_pa h51c 11 (h51c.1 7 8) r51) := mm_inv_pa i51c (show 0 ≤ r51 ∧ r51 ≤ 399 from ⟨by omega, by omega⟩)
          have f6 : mm_fr [(7, 7), (7, 8)] [8, 9, 10, 11] h (mm_pa h51c 11 (h51c.1 7 8) r51) := mm_fr_pa f51c (by decide)
          obtain ⟨h6, eh6⟩ : ∃ z, z = mm_pa h51c 11 (h51c.1 7 8) r51 := ⟨_, rfl⟩
          rw [← eh6] at i6 f6 ⊢
          have qh6_22 : h6.1 7 7 = h51c.1 7 7 := by rw [eh6]; rfl
          have qh6_23 : h6.1 7 8 = h51c.1 7 8 := by rw [eh6]; rfl
          have nh6 : mm_cnt h6 = mm_cnt h51c := by rw [eh6]; exact mm_cnt_eq (fun _ => mm_pa_ne _ _ (fun q => absurd q.1 (by decide)))
          refine mm_aload_n C (mm_dec dk_X10_measure 34 rfl) rfl ?_
          refine mm_dup C (mm_dec dk_X10_measure 35 rfl) (show (2 : Nat) ≠ 1 by decide) ?_
          refine mm_geti C fl_X10_35 (mm_dec dk_X10_measure 36 rfl) rfl rfl (Or.inl rfl) ?_
          refine mm_iconst C (mm_dec dk_X10_measure 37 rfl) ⟨by decide, by decide⟩ ?_
          refine mm_iadd C (mm_dec dk_X10_measure 38 rfl) ⟨by omega, by omega⟩ ?_
          refine mm_puti C fl_X10_35 (mm_dec dk_X10_measure 39 rfl) rfl rfl rfl (Or.inl ⟨rfl, rfl⟩) ?_
          have i7 : mm_inv (mm_pf h6 7 8 ((h6.1 7 8) + 1)) := mm_inv_pf i6 (show 0 ≤ ((h6.1 7 8) + 1) ∧ ((h6.1 7 8) + 1) ≤ 400 from ⟨by omega, by omega⟩) (by decide)
          have f7 : mm_fr [(7, 7), (7, 8)] [8, 9, 10, 11] h (mm_pf h6 7 8 ((h6.1 7 8) + 1)) := mm_fr_pf f6 (by decide)
          obtain ⟨h7, eh7⟩ : ∃ z, z = mm_pf h6 7 8 ((h6.1 7 8) + 1) := ⟨_, rfl⟩
          rw [← eh7] at i7 f7 ⊢
          have qh7 : h7.1 7 8 = ((h6.1 7 8) + 1) := by rw [eh7]; exact mm_pf_same _ _ _ _
          have qh7_25 : h7.1 7 7 = h6.1 7 7 := by rw [eh7]; exact mm_pf_ne _ _ (by decide)
          have nh7 : mm_cnt h7 = mm_cnt h6 := by rw [eh7]; exact mm_cnt_eq (fun _ => rfl)
          have zk : ∀ d, mm_MS h p1 d → mm_inl h r51 ∧ h7.2.1 8 r51 = d r51 ∧ h7.2.1 10 r51 ≠ -1 ∧ ¬ mm_hi h7 r51 ∧ mm_di h h7 p1 d r51 := fun d M => mm_M_take i0 M (w33_1 d M) (by omega) y51_1 y51_2 (g51c.2 8 (by decide)) (fun _ => ((mm_sm_pf 8 eh7 _).trans (mm_sm_pa 8 eh6 (by decide) _))) (fun _ => ((mm_sm_pf 9 eh7 _).trans (mm_sm_pa 9 eh6 (by decide) _))) (fun _ => ((mm_sm_pf 10 eh7 _).trans (mm_sm_pa 10 eh6 (by decide) _))) (by omega)
          have zl : mm_ldx h h7 := mm_ldx_fr f7 (by decide)
          have zx : h7.2.1 6 (h7.2.1 2 r51) = h.2.1 6 (h.2.1 2 r51) := by rw [zl.2.2.1, zl.2.2.2.2.2.2]
          refine mm_iload_n C (mm_dec dk_X10_measure 40 rfl) rfl ?_
          refine mm_iload_n C (mm_dec dk_X10_measure 41 rfl) rfl ?_
          refine mm_icmp_ne (tgt := 83) C (mm_dec dk_X10_measure 42 rfl) (by decide) (fun c77 => ?_) (fun c77 => ?_)
          · skip
            refine mm_aload_n C (mm_dec dk_X10_measure 44 rfl) rfl ?_
            refine mm_getr (t := 1) C fl_X10_48 (mm_dec dk_X10_measure 45 rfl) rfl rfl (mm_ref i7 rfl) ?_
            refine mm_iload_n C (mm_dec dk_X10_measure 46 rfl) rfl ?_
            refine mm_cVi (rest := []) C1 ev_X10_87 (mm_dec dk_X10_measure 47 rfl) (c_X5_canEnter x.2.1 hl (d - 1) (by omega) h7 i7 r51 ⟨by omega, by omega⟩) rfl rfl (Nat.le_of_ble_eq_true rfl) ⟨by decide, by decide⟩ rfl (fun r88 h88c hp88 => ?_) (fun _ _ q => q.elim)
            obtain ⟨z88, y88⟩ := hp88
            rw [z88]
            have g28 : 0 ≤ (h7.2.1 6 (h7.2.1 2 r51)) ∧ (h7.2.1 6 (h7.2.1 2 r51)) ≤ 99 := i7.2.1 6 (h7.2.1 2 r51)
            have g29 : 0 ≤ (h7.2.1 2 r51) ∧ (h7.2.1 2 r51) ≤ 7 := i7.2.1 2 r51
            have J99 : ∀ (h99_ : mH) (i99_ : mm_inv h99_) (f99_ : mm_fr [(7, 7), (7, 8)] [8, 9, 10, 11] h h99_) (w99_0 : h99_.1 7 7 ≤ (mm_cnt h99_ : Int)) (w99_1 : h99_.1 7 8 = h33_.1 7 8 + 1) (w99_2 : (∀ d, mm_MS h p1 d → mm_di h h99_ p1 d (-1))) (w99_3 : h99_.1 7 8 + h99_.1 7 7 ≤ (mm_cnt h99_ : Int)), mm_W x 0 0 99 [mR 7, mU, mI p2, mU] [] h99_ := by
              intro h99_ i99_ f99_ w99_0 w99_1 w99_2 w99_3
              have g30 : 0 ≤ h99_.1 7 7 ∧ h99_.1 7 7 ≤ 400 := i99_.1 7 7
              have g31 : 0 ≤ h99_.1 7 8 ∧ h99_.1 7 8 ≤ 400 := i99_.1 7 8
              refine mm_goto (tgt := 33) C (mm_dec dk_X10_measure 52 rfl) (by decide) ?_
              exact ih33 h99_ i99_ f99_ (by omega) (by first | exact w99_2 | exact fun d M => mm_M_ini i0 M (mm_al_sm (mm_al_fr y6_0 g14c (by decide)) (fun _ => ((mm_sm_pf 8 eh4 _).trans (mm_sm_pf 8 eh3 _)))) (mm_al_sm y14_0 (fun _ => ((mm_sm_pf 10 eh4 _).trans (mm_sm_pf 10 eh3 _)))) (by omega) ⟨by omega, by omega⟩ y30_1) (by omega) (by omega)
            refine mm_if_eq (tgt := 99) C (mm_dec dk_X10_measure 48 rfl) (by decide) (fun c91 => ?_) (fun c91 => ?_)
            · skip
              refine mm_fgt 3 ?_
              exact J99 h7 i7 f7 (by omega) (by omega) (by first | exact fun d M => mm_di_nox (zk d M).2.2.2.2 (zk d M).1.1 (by omega) | exact fun d M => mm_M_ob zl (y96_1 p1 d (mm_M_oa zl M (zk d M) (by omega)))) (by omega)
            · skip
              refine mm_aload_n C (mm_dec dk_X10_measure 49 rfl) rfl ?_
              refine mm_iload_n C (mm_dec dk_X10_measure 50 rfl) rfl ?_
              refine mm_cVv (rest := []) C1 ev_X10_107 (mm_dec dk_X10_measure 51 rfl) (c_X10_offerAround_q x.2.1 hl (d - 1) (by omega) h7 i7 r51 ⟨by omega, by omega⟩ (by omega)) rfl rfl (Nat.le_of_ble_eq_true rfl) ⟨by decide, by decide⟩ rfl (fun h96c hp96 => ?_) (fun _ _ q => q.elim)
              obtain ⟨i96c, g96c, y96_0, y96_1, y96_2⟩ := hp96
              have f96c : mm_fr [(7, 7), (7, 8)] [8, 9, 10, 11] h h96c := mm_fr_tr f7 g96c (by decide +kernel)
              have q96c_33 : h96c.1 7 8 = h7.1 7 8 := g96c.1 7 8 (by decide)
              have g34 : 0 ≤ (h96c.1 7 7) ∧ (h96c.1 7 7) ≤ 400 := i96c.1 7 7
              refine mm_fgt 3 ?_
              exact J99 h96c i96c f96c (by omega) (by omega) (by first | exact fun d M => mm_di_nox (zk d M).2.2.2.2 (zk d M).1.1 (by omega) | exact fun d M => mm_M_ob zl (y96_1 p1 d (mm_M_oa zl M (zk d M) (by omega)))) (by omega)
          · skip
            refine mm_goto (tgt := 102) C (mm_dec dk_X10_measure 43 rfl) (by decide) ?_
            refine mm_fgt 0 ?_
            refine mm_fgt 2 ?_
            refine mm_fgt 3 ?_
            exact J102 h7 i7 f7 (by first | exact fun d M v => mm_M_end i0 M (w33_1 d M) (by omega) p2 v | exact fun d M v => (show p2 = r51 by omega) ▸ (zk d M).2.1)
  refine mm_cVv (rest := []) C1 ev_X10_100 (mm_dec dk_X10_measure 17 rfl) (c_X10_offer_q x.2.1 hl (d - 1) (by omega) h4 i4 p1 0 ⟨by omega, by omega⟩ (by omega)) rfl rfl (Nat.le_of_ble_eq_true rfl) ⟨by decide, by decide⟩ rfl (fun h30c hp30 => ?_) (fun _ _ q => q.elim)
  obtain ⟨i30c, g30c, y30_0, y30_1, y30_2⟩ := hp30
  have f30c : mm_fr [(7, 7), (7, 8)] [8, 9, 10, 11] h h30c := mm_fr_tr f4 g30c (by decide +kernel)
  have q30c_36 : h30c.1 7 8 = h4.1 7 8 := g30c.1 7 8 (by decide)
  have g37 : 0 ≤ (h30c.1 7 7) ∧ (h30c.1 7 7) ≤ 400 := i30c.1 7 7
  refine mm_fgt 1 ?_
  exact J33 (((400 - h30c.1 7 8) : Int) + 1).toNat h30c i30c f30c (by omega) (by first | exact w99_2 | exact fun d M => mm_M_ini i0 M (mm_al_sm (mm_al_fr y6_0 g14c (by decide)) (fun _ => ((mm_sm_pf 8 eh4 _).trans (mm_sm_pf 8 eh3 _)))) (mm_al_sm y14_0 (fun _ => ((mm_sm_pf 10 eh4 _).trans (mm_sm_pf 10 eh3 _)))) (by omega) ⟨by omega, by omega⟩ y30_1) (by omega) (by omega)
/-! ===== the reference's least ways: no move is left that would make one less ===== -/
def mm_inr (h : mH) (c : Int) : Prop := 0 ≤ c ∧ c % 20 < h.1 66 1 ∧ c / 20 < h.1 66 2
def mm_rel (h h' : mH) (c p : Int) : Prop := h'.2.1 72 c < h'.2.1 72 p + mm_sec h c p ∨ (h'.2.1 72 c = h'.2.1 72 p + mm_sec h c p ∧ h'.2.1 73 c ≤ h'.2.1 73 p + 1)
/-- least and moves of c got less, or stayed -/
def mm_lx (h h' : mH) (c : Int) : Prop := (h'.2.1 72 c = h.2.1 72 c ∧ h'.2.1 73 c = h.2.1 73 c) ∨ h'.2.1 72 c < h.2.1 72 c ∨ (h'.2.1 72 c = h.2.1 72 c ∧ h'.2.1 73 c < h.2.1 73 c)
theorem mm_lx_tr {h h1 h2 : mH} {c : Int} (a : mm_lx h h1 c) (b : mm_lx h1 h2 c) : mm_lx h h2 c := by
  unfold mm_lx at *
  omega
theorem mm_lea_m {h : mH} {m : Int} (m0 : 0 ≤ m) (m3 : m ≤ 3) (c a b : Int) (ea : a = mm_dx m) (eb : b = mm_dy m) : ∃ wl, mm_lea h c m = mm_lea1 h (c % 20 + a) (c / 20 + b) wl := by
  have cc : m = 0 ∨ m = 1 ∨ m = 2 ∨ m = 3 := by omega
  rcases cc with r | r | r | r <;> subst r <;> subst ea <;> subst eb <;> exact ⟨_, rfl⟩
/-- the one cell that a move leads to p from -/
theorem mm_lea_c {h : mH} {m c p a b : Int} (w20 : h.1 66 1 ≤ 20) (m0 : 0 ≤ m) (m3 : m ≤ 3) (v : mm_inr h c) (e : mm_lea h c m = p) (p0 : 0 ≤ p) (ea : a = mm_dx m) (eb : b = mm_dy m) : c = 20 * (p / 20 - b) + (p % 20 - a) ∧ 0 ≤ p % 20 - a ∧ p % 20 - a < h.1 66 1 ∧ 0 ≤ p / 20 - b ∧ p / 20 - b < h.1 66 2 := by
  obtain ⟨v0, v1, v2⟩ := v
  obtain ⟨wl, q⟩ := mm_lea_m m0 m3 c a b ea eb
  rw [q] at e
  unfold mm_lea1 at e
  by_cases z : c % 20 + a < 0 ∨ c / 20 + b < 0 ∨ h.1 66 1 ≤ c % 20 + a ∨ h.1 66 2 ≤ c / 20 + b ∨ wl ≠ 0 ∨ h.2.1 69 (h.2.1 67 (20 * (c / 20 + b) + (c % 20 + a))) = 0
  · rw [if_pos z] at e; omega
  · rw [if_neg z] at e
    have z1 : ¬ c % 20 + a < 0 := fun w => z (Or.inl w)
    have z2 : ¬ h.1 66 1 ≤ c % 20 + a := fun w => z (Or.inr (Or.inr (Or.inl w)))
    have ab : -1 ≤ a ∧ a ≤ 1 := by rw [ea]; unfold mm_dx; split; omega; split <;> omega
    have bb : -1 ≤ b ∧ b ≤ 1 := by rw [eb]; unfold mm_dy; split; omega; split <;> omega
    omega
abbrev mm_rx (h h' : mH) (p m : Int) : Prop := ∀ c, mm_inr h c → mm_lea h c m = p → mm_rel h h' c p
theorem mm_rx_out {h h' : mH} {p m a b : Int} (w20 : h.1 66 1 ≤ 20) (m0 : 0 ≤ m) (m3 : m ≤ 3) (p0 : 0 ≤ p) (ea : a = mm_dx m) (eb : b = mm_dy m) (q : p % 20 - a < 0 ∨ p / 20 - b < 0 ∨ h.1 66 1 ≤ p % 20 - a ∨ h.1 66 2 ≤ p / 20 - b) : mm_rx h h' p m := fun c v e => by
  have := mm_lea_c w20 m0 m3 v e p0 ea eb
  omega
theorem mm_rx_no {h h' : mH} {p m a b : Int} (w20 : h.1 66 1 ≤ 20) (m0 : 0 ≤ m) (m3 : m ≤ 3) (p0 : 0 ≤ p) (ea : a = mm_dx m) (eb : b = mm_dy m) (q : mm_lea h (20 * (p / 20 - b) + (p % 20 - a)) m ≠ p) : mm_rx h h' p m := fun c v e => by
  have z := mm_lea_c w20 m0 m3 v e p0 ea eb
  rw [z.1] at e
  exact absurd e q
theorem mm_rx_at {h h' : mH} {p m a b : Int} (w20 : h.1 66 1 ≤ 20) (m0 : 0 ≤ m) (m3 : m ≤ 3) (p0 : 0 ≤ p) (ea : a = mm_dx m) (eb : b = mm_dy m) (q : mm_rel h h' (20 * (p / 20 - b) + (p % 20 - a)) p) : mm_rx h h' p m := fun c v e => by
  have z := mm_lea_c w20 m0 m3 v e p0 ea eb
  rw [z.1]
  exact q
theorem mm_lx_put {h h1 h2 h3 : mH} {c s t : Int} (L : ∀ z, mm_lx h h1 z) (e2 : h2 = mm_pa h1 72 c s) (e3 : h3 = mm_pa h2 73 c t) (q : s < h1.2.1 72 c ∨ (s = h1.2.1 72 c ∧ t < h1.2.1 73 c)) : ∀ z, mm_lx h h3 z := fun z => by
  refine mm_lx_tr (L z) ?_
  have a1 : ∀ j, j ≠ c → h3.2.1 72 j = h1.2.1 72 j ∧ h3.2.1 73 j = h1.2.1 73 j := fun j hj => by
    rw [e3, mm_pa_o 72 73 (by decide), mm_pa_j 73 hj, e2, mm_pa_j 72 hj, mm_pa_o 73 72 (by decide)]
    exact ⟨rfl, rfl⟩
  have a2 : h3.2.1 72 c = s ∧ h3.2.1 73 c = t := by
    rw [e3, mm_pa_o 72 73 (by decide), mm_pa_same, e2, mm_pa_same]
    exact ⟨rfl, rfl⟩
  unfold mm_lx
  by_cases w : z = c
  · rw [w]; omega
  · have := a1 z w; omega
theorem mm_rel_put {h h1 h2 h3 : mH} {c p s t : Int} (e2 : h2 = mm_pa h1 72 c s) (e3 : h3 = mm_pa h2 73 c t) (cp : c ≠ p) (hs : s = h1.2.1 72 p + mm_sec h c p) (ht : t = h1.2.1 73 p + 1) : mm_rel h h3 c p := by
  have a1 : h3.2.1 72 p = h1.2.1 72 p ∧ h3.2.1 73 p = h1.2.1 73 p := by
    rw [e3, mm_pa_o 72 73 (by decide), mm_pa_j 73 (Ne.symm cp), e2, mm_pa_j 72 (Ne.symm cp), mm_pa_o 73 72 (by decide)]
    exact ⟨rfl, rfl⟩
  have a2 : h3.2.1 72 c = s ∧ h3.2.1 73 c = t := by
    rw [e3, mm_pa_o 72 73 (by decide), mm_pa_same, e2, mm_pa_same]
    exact ⟨rfl, rfl⟩
  unfold mm_rel
  omega
/-- every done cell but x is told to all around it -/
def mm_RX (h : mH) (x : Int) : Prop := ∀ n, 0 ≤ n → n ≤ 399 → h.2.1 76 n = 1 → n ≠ x → ∀ m, 0 ≤ m → m ≤ 3 → mm_rx h h n m
theorem mm_RX_fr {h h' : mH} {x : Int} (R : mm_RX h x) (e : mm_lnd h h') (e72 : ∀ j, h'.2.1 72 j = h.2.1 72 j) (e73 : ∀ j, h'.2.1 73 j = h.2.1 73 j) (e76 : ∀ j, h'.2.1 76 j = h.2.1 76 j) : mm_RX h' x := fun n n0 n1 d nx m m0 m3 c v l => by
  rw [mm_lea_fr e] at l
  rw [e76] at d
  have z := R n n0 n1 d nx m m0 m3 c ⟨v.1, by have := v.2.1; rw [e.1] at this; exact this, by have := v.2.2; rw [e.2.1] at this; exact this⟩ l
  unfold mm_rel at z ⊢
  rw [mm_sec_fr e, e72, e72, e73, e73]
  exact z
theorem mm_RX_pick {h : mH} {b : Int} (R : mm_RX h (-1)) : mm_RX (mm_pa h 76 b 1) b := fun n n0 n1 d nx m m0 m3 c v l => by
  have el : mm_lnd h (mm_pa h 76 b 1) := ⟨rfl, rfl, rfl, fun j => mm_pa_o 67 76 (by decide) j, fun j => mm_pa_o 68 76 (by decide) j, fun j => mm_pa_o 69 76 (by decide) j, fun j => mm_pa_o 70 76 (by decide) j, fun j => mm_pa_o 71 76 (by decide) j⟩
  rw [mm_lea_fr el] at l
  rw [mm_pa_j 76 nx] at d
  have z := R n n0 n1 d (by omega) m m0 m3 c ⟨v.1, v.2.1, v.2.2⟩ l
  unfold mm_rel at z ⊢
  rw [mm_sec_fr el, mm_pa_o 72 76 (by decide), mm_pa_o 72 76 (by decide), mm_pa_o 73 76 (by decide), mm_pa_o 73 76 (by decide)]
  exact z
/-- over one more of the moves into x -/
theorem mm_RX_come {h h' : mH} {t L p x : Int} (i : mm_inv h) (hd : mm_dij h t L) (hp : 0 ≤ p ∧ p ≤ 399) (h1 : h.2.1 76 p = 1) (hL : h.2.1 72 p = L) (f : mm_fr [] [72, 73] h h') (R : mm_come h h' p) (lx : ∀ c, mm_lx h h' c) (Q : mm_RX h x) : mm_RX h' x := fun n n0 n1 d nx m m0 m3 c v l => by
  have el : mm_lnd h h' := mm_lnd_fr f (by decide)
  have e76 : ∀ j, h'.2.1 76 j = h.2.1 76 j := fun j => f.2 76 (by decide) j
  rw [mm_lea_fr el] at l
  rw [e76] at d
  have z := Q n n0 n1 d nx m m0 m3 c ⟨v.1, by have := v.2.1; rw [el.1] at this; exact this, by have := v.2.2; rw [el.2.1] at this; exact this⟩ l
  have gp : (0 : Int) ≤ h.2.1 72 p ∧ h.2.1 72 p ≤ 1000000000 := i.2.1 72 p
  have kn : h'.2.1 72 n = h.2.1 72 n ∧ h'.2.1 73 n = h.2.1 73 n := by
    rcases R.2 n with a | ⟨_, ⟨m', _, hm⟩, a, b, q⟩
    · exact a
    · exfalso
      have := mm_sec_pos i hm (by omega)
      have := (hd.2.2.1 n n0 n1 d).1
      omega
  have k := lx c
  unfold mm_lx at k
  unfold mm_rel at z ⊢
  rw [mm_sec_fr el]
  omega
/-- what is told of p so far: the moves below k -/
def mm_RK (h : mH) (p k : Int) : Prop := ∀ m, 0 ≤ m → m < k → mm_rx h h p m
theorem mm_RK_0 {h : mH} {p : Int} : mm_RK h p 0 := fun m a b => absurd b (by omega)
theorem mm_RK_come {h h' : mH} {p k : Int} (f : mm_fr [] [72, 73] h h') (R : mm_come h h' p) (lx : ∀ c, mm_lx h h' c) (K : mm_RK h p k) (n : mm_rx h h' p k) : mm_RK h' p (k + 1) := fun m m0 m1 c v l => by
  have el : mm_lnd h h' := mm_lnd_fr f (by decide)
  rw [mm_lea_fr el] at l
  have v' : mm_inr h c := ⟨v.1, by have := v.2.1; rw [el.1] at this; exact this, by have := v.2.2; rw [el.2.1] at this; exact this⟩
  have kl := lx c
  have rp := R.1
  unfold mm_lx at kl
  by_cases q : m = k
  · have z := n c v' (by rw [← q]; exact l)
    unfold mm_rel at z ⊢
    rw [mm_sec_fr el]
    exact z
  · have z := K m m0 (by omega) c v' l
    unfold mm_rel at z ⊢
    rw [mm_sec_fr el]
    omega
theorem mm_RX_done {h : mH} {x k : Int} (R : mm_RX h x) (K : mm_RK h x k) (k4 : 4 ≤ k) : mm_RX h (-1) := fun n n0 n1 d nx m m0 m3 => by
  by_cases q : n = x
  · rw [q]; exact K m m0 (by omega)
  · exact R n n0 n1 d q m m0 m3
theorem mm_come_t {h h' : mH} {t L p : Int} (i : mm_inv h) (hd : mm_dij h t L) (hp : 0 ≤ p ∧ p ≤ 399) (R : mm_come h h' p) (z : h.2.1 73 t = 0) : h'.2.1 73 t = 0 := by
  have gp : (0 : Int) ≤ h.2.1 72 p ∧ h.2.1 72 p ≤ 1000000000 := i.2.1 72 p
  rcases R.2 t with a | ⟨_, ⟨m, _, hm⟩, a, b, q⟩
  · rw [a.2]; exact z
  · exfalso
    have := mm_sec_pos i hm (by omega)
    have := hd.1
    omega
def mm_FT (h : mH) (t : Int) : Prop := (∃ L, mm_dij h t L) ∧ h.2.1 73 t = 0 ∧ mm_RX h (-1) ∧ (∀ j, 0 ≤ j → j ≤ 399 → h.2.1 76 j = 0 → 1000000000 ≤ h.2.1 72 j)
theorem mm_sec_990 {h : mH} (i : mm_inv h) (a b : Int) : 0 ≤ mm_sec h a b ∧ mm_sec h a b ≤ 990 := by
  have g1 : (0 : Int) ≤ h.2.1 69 (h.2.1 67 b) ∧ h.2.1 69 (h.2.1 67 b) ≤ 99 := i.2.1 69 _
  have g2 : (0 : Int) ≤ h.1 66 3 ∧ h.1 66 3 ≤ 9 := i.1 66 3
  have g3 : (0 : Int) ≤ h.2.1 68 b ∧ h.2.1 68 b ≤ 99 := i.2.1 68 b
  have g4 : (0 : Int) ≤ h.2.1 68 a ∧ h.2.1 68 a ≤ 99 := i.2.1 68 a
  unfold mm_sec
  split
  next q =>
    have x := Int.mul_le_mul g2.2 (show h.2.1 68 b - h.2.1 68 a ≤ 99 by omega) (by omega) (by decide)
    have y := Int.mul_nonneg g2.1 (show 0 ≤ h.2.1 68 b - h.2.1 68 a by omega)
    omega
  · omega
/-- a way of so many moves takes no more than 990 for each -/
theorem mm_FT_le {h : mH} {t : Int} (i : mm_inv h) (F : mm_FT h t) (k : Nat) : ∀ c, 0 ≤ c → c ≤ 399 → h.2.1 72 c < 1000000000 → h.2.1 73 c ≤ k → h.2.1 72 c ≤ 990 * h.2.1 73 c := by
  obtain ⟨⟨L, hd⟩, z, _, _⟩ := F
  induction k with
  | zero =>
    intro c c0 c1 c2 c3
    have b := (i.2.1 73 c).1
    have b' : 0 ≤ h.2.1 73 c := b
    by_cases q : c = t
    · rw [q, hd.1, z]; decide
    · obtain ⟨m, _, q2, _, q4, q5⟩ := hd.2.1 c c0 c1 c2 q
      have b2 : 0 ≤ h.2.1 73 (mm_lea h c m) := (i.2.1 73 _).1
      exfalso
      omega
  | succ k ih =>
    intro c c0 c1 c2 c3
    by_cases q : c = t
    · rw [q, hd.1, z]; decide
    · obtain ⟨m, _, q2, _, q4, q5⟩ := hd.2.1 c c0 c1 c2 q
      have r := (mm_lea_rg i c m).resolve_left q2
      have s := mm_sec_990 i c (mm_lea h c m)
      have y := ih _ r.1 r.2 (by omega) (by omega)
      omega
/-- the key of a cell, as the class has it -/
def mm_rk (h : mH) (c : Int) : Int := if h.2.1 72 c = 1000000000 then 2000000000 else 512 * h.2.1 72 c + h.2.1 73 c
def mm_ry (h : mH) (c : Int) : Int := if h.2.1 72 c = 1000000000 then -1 else h.2.1 72 c
theorem mm_lea_by {h : mH} {m : Int} (m0 : 0 ≤ m) (m3 : m ≤ 3) (c : Int) : mm_lea h c m = mm_by h c m := by
  have key : ∀ x y wl t : Int, t = 20 * y + x → mm_lea1 h x y wl = (if x < 0 ∨ y < 0 ∨ h.1 66 1 ≤ x ∨ h.1 66 2 ≤ y then -1 else if wl ≠ 0 ∨ h.2.1 69 (h.2.1 67 t) = 0 then -1 else t) := by
    intro x y wl t e
    subst e
    unfold mm_lea1
    by_cases q : x < 0 ∨ y < 0 ∨ h.1 66 1 ≤ x ∨ h.1 66 2 ≤ y
    · rw [if_pos q, if_pos (by omega)]
    · rw [if_neg q]
      by_cases w : wl ≠ 0 ∨ h.2.1 69 (h.2.1 67 (20 * y + x)) = 0
      · rw [if_pos w, if_pos (by omega)]
      · rw [if_neg w, if_neg (by omega)]
  have cc : m = 0 ∨ m = 1 ∨ m = 2 ∨ m = 3 := by omega
  rcases cc with r | r | r | r <;> subst r
  · show mm_lea1 h (c % 20 + 0) (c / 20 + (-1)) (h.2.1 71 (20 * (c / 20 + (-1)) + (c % 20 + 0))) = _
    rw [key _ _ _ _ rfl]
    rfl
  · show mm_lea1 h (c % 20 + 1) (c / 20 + 0) (h.2.1 70 c) = _
    rw [key _ _ _ _ rfl]
    rfl
  · show mm_lea1 h (c % 20 + 0) (c / 20 + 1) (h.2.1 71 c) = _
    rw [key _ _ _ _ rfl]
    rfl
  · show mm_lea1 h (c % 20 + (-1)) (c / 20 + 0) (h.2.1 70 (20 * (c / 20 + 0) + (c % 20 + (-1)))) = _
    rw [key _ _ _ _ rfl]
    rfl
theorem mm_sec_sy {h : mH} (a b : Int) : mm_sec h a b = mm_sy h a b := by
  unfold mm_sec mm_sy mm_cm
  rw [Int.mul_comm]
/-- the reference's numbers solve the class's land -/
theorem mm_MS_of {h hT : mH} {t : Int} (i : mm_inv h) (iT : mm_inv hT) (hw : h.1 66 1 = h.1 1 5) (hh : h.1 66 2 = h.1 1 6) (E2 : mm_eq h 2 67 399) (E6 : mm_eq h 6 69 7) (E3 : mm_eq h 3 68 399) (E4 : mm_eq h 4 70 399) (E5 : mm_eq h 5 71 399) (c6 : h.2.1 6 8 = h.1 66 3) (L : mm_lnd h hT) (F : mm_FT hT t) (v : mm_inl h t) : mm_MS h t (mm_rk hT) := by
  have b5 : (1 : Int) ≤ h.1 1 5 ∧ h.1 1 5 ≤ 20 := i.1 1 5
  have b6 : (1 : Int) ≤ h.1 1 6 ∧ h.1 1 6 ≤ 20 := i.1 1 6
  have b3 : (0 : Int) ≤ h.1 66 3 ∧ h.1 66 3 ≤ 9 := i.1 66 3
  have rg : ∀ z, mm_inl h z → 0 ≤ z ∧ z ≤ 399 := fun z v => by obtain ⟨v0, v1, v2⟩ := v; omega
  have lb : ∀ c m, mm_inl h c → 0 ≤ m → m ≤ 3 → mm_lea hT c m = mm_bx h c m ∧ (mm_bx h c m ≠ -1 → mm_inl h (mm_bx h c m)) := fun c m vc m0 m3 => by
    have z := mm_bxy vc m0 m3 hw hh b5.2 b6.2 E2 E6 E4 E5 (fun j => i.2.1 2 j) (fun j => (i.2.1 6 j).1)
    exact ⟨by rw [mm_lea_fr L, mm_lea_by m0 m3]; exact z.1, z.2⟩
  have sb : ∀ a b, mm_inl h a → mm_inl h b → mm_sec hT a b = mm_sx h a b := fun a b va vb => by
    rw [mm_sec_fr L, mm_sec_sy]
    have x := rg a va
    have y := rg b vb
    unfold mm_sy mm_sx
    rw [← E3 a x.1 x.2, ← E3 b y.1 y.2, ← E2 b y.1 y.2, ← E6 _ (i.2.1 2 b).1 (i.2.1 2 b).2, c6]
  have bd : ∀ c, mm_inl h c → (hT.2.1 72 c = 1000000000 ∨ (hT.2.1 72 c ≤ 396000)) ∧ 0 ≤ hT.2.1 72 c ∧ 0 ≤ hT.2.1 73 c ∧ hT.2.1 73 c ≤ 400 := fun c vc => by
    have x := rg c vc
    have y : (0 : Int) ≤ hT.2.1 72 c ∧ hT.2.1 72 c ≤ 1000000000 := iT.2.1 72 c
    have z : (0 : Int) ≤ hT.2.1 73 c ∧ hT.2.1 73 c ≤ 400 := iT.2.1 73 c
    refine ⟨?_, y.1, z.1, z.2⟩
    by_cases q : hT.2.1 72 c = 1000000000
    · exact Or.inl q
    · have := mm_FT_le iT F 400 c x.1 x.2 (by omega) (by omega)
      exact Or.inr (by omega)
  have ef : ∀ c, hT.2.1 72 c = 1000000000 → mm_rk hT c = 2000000000 := fun c q => by unfold mm_rk; rw [if_pos q]
  have en : ∀ c, hT.2.1 72 c ≠ 1000000000 → mm_rk hT c = 512 * hT.2.1 72 c + hT.2.1 73 c := fun c q => by unfold mm_rk; rw [if_neg q]
  obtain ⟨⟨L0, hd⟩, z73, RX, ND⟩ := F
  refine ⟨v, by omega, ?_, fun c vc => ?_, fun c m vc m0 m3 mx md => ?_, fun c vc ct cd => ?_⟩
  · rw [en t (by rw [hd.1]; decide), hd.1, z73]; rfl
  · have b := bd c vc
    by_cases q : hT.2.1 72 c = 1000000000
    · rw [ef c q]; omega
    · rw [en c q]; omega
  · obtain ⟨e1, e2⟩ := lb c m vc m0 m3
    have vn := e2 mx
    have bn := bd _ vn
    have bc := bd c vc
    have xn := rg _ vn
    have fn : hT.2.1 72 (mm_bx h c m) ≠ 1000000000 := fun w => by rw [ef _ w] at md; omega
    have dn : hT.2.1 76 (mm_bx h c m) = 1 := by
      have g : (0 : Int) ≤ hT.2.1 76 (mm_bx h c m) ∧ hT.2.1 76 (mm_bx h c m) ≤ 1 := iT.2.1 76 _
      by_cases w : hT.2.1 76 (mm_bx h c m) = 0
      · have := ND _ xn.1 xn.2 w; omega
      · omega
    have r := RX _ xn.1 xn.2 dn (by omega) m m0 m3 c ⟨vc.1, by rw [L.1, hw]; exact vc.2.1, by rw [L.2.1, hh]; exact vc.2.2⟩ e1
    have sx := sb c _ vc vn
    have s9 := mm_sec_990 iT c (mm_bx h c m)
    unfold mm_rel at r
    rw [en _ fn]
    have wd : mm_wg h c (mm_bx h c m) = 512 * mm_sx h c (mm_bx h c m) + 1 := rfl
    rw [wd, ← sx]
    by_cases q : hT.2.1 72 c = 1000000000
    · exfalso; omega
    · rw [en c q]; omega
  · have bc := bd c vc
    have xc := rg c vc
    have fc : hT.2.1 72 c ≠ 1000000000 := fun w => by rw [ef _ w] at cd; omega
    obtain ⟨m, mr, q2, q3, q4, q5⟩ := hd.2.1 c xc.1 xc.2 (by omega) ct
    obtain ⟨e1, e2⟩ := lb c m vc mr.1 mr.2
    rw [e1] at q2 q3 q4 q5
    have vn := e2 q2
    have bn := bd _ vn
    have sx := sb c _ vc vn
    have s9 := mm_sec_990 iT c (mm_bx h c m)
    have fn : hT.2.1 72 (mm_bx h c m) ≠ 1000000000 := by omega
    have wd : mm_wg h c (mm_bx h c m) = 512 * mm_sx h c (mm_bx h c m) + 1 := rfl
    refine ⟨m, mr.1, mr.2, q2, by rw [en _ fn]; omega, ?_⟩
    rw [en _ fn, en c fc, wd, ← sx]
    omega
theorem mm_dq_ry {h : mH} (i : mm_inv h) {c : Int} (b : h.2.1 72 c = 1000000000 ∨ h.2.1 72 c ≤ 396000) : mm_dq (mm_rk h c) = mm_ry h c := by
  have y : (0 : Int) ≤ h.2.1 72 c ∧ h.2.1 72 c ≤ 1000000000 := i.2.1 72 c
  have z : (0 : Int) ≤ h.2.1 73 c ∧ h.2.1 73 c ≤ 400 := i.2.1 73 c
  unfold mm_dq mm_rk mm_ry
  by_cases q : h.2.1 72 c = 1000000000
  · rw [if_pos q, if_pos rfl, if_pos q]
  · rw [if_neg q, if_neg q, if_neg (by omega), Int.tdiv_eq_ediv_of_nonneg (by omega)]
    have e : (512 * h.2.1 72 c + h.2.1 73 c) / 512 = h.2.1 72 c := by omega
    rw [e]
    exact mm_w_id ⟨by omega, by omega⟩
theorem mm_dq_eq {h hT : mH} {t c : Int} (iT : mm_inv hT) (F : mm_FT hT t) (c0 : 0 ≤ c) (c1 : c ≤ 399) : mm_dq (mm_rk hT c) = mm_ry hT c := by
  have y : (0 : Int) ≤ hT.2.1 72 c ∧ hT.2.1 72 c ≤ 1000000000 := iT.2.1 72 c
  have z : (0 : Int) ≤ hT.2.1 73 c ∧ hT.2.1 73 c ≤ 400 := iT.2.1 73 c
  refine mm_dq_ry iT ?_
  by_cases q : hT.2.1 72 c = 1000000000
  · exact Or.inl q
  · have := mm_FT_le iT F 400 c c0 c1 (by omega) (by omega)
    exact Or.inr (by omega)
theorem mm_ry_1 {h : mH} {c : Int} (q : h.2.1 72 c = 1000000000) : -1 = mm_ry h c := by unfold mm_ry; rw [if_pos q]
theorem mm_ry_2 {h : mH} {c v : Int} (e : v = h.2.1 72 c) (q : v ≠ 1000000000) : v = mm_ry h c := by unfold mm_ry; rw [← e, if_neg q]
theorem mm_lnd_tr {h h1 h2 : mH} (a : mm_lnd h h1) (b : mm_lnd h1 h2) : mm_lnd h h2 := by
  obtain ⟨a1, a2, a3, a4, a5, a6, a7, a8⟩ := a
  obtain ⟨b1, b2, b3, b4, b5, b6, b7, b8⟩ := b
  exact ⟨b1.trans a1, b2.trans a2, b3.trans a3, fun j => (b4 j).trans (a4 j), fun j => (b5 j).trans (a5 j), fun j => (b6 j).trans (a6 j), fun j => (b7 j).trans (a7 j), fun j => (b8 j).trans (a8 j)⟩
theorem mm_way_x {h : mH} {T T' C C' r : Int} (y : ∀ d, mm_MS h T' d → mm_inl h C' → r = mm_dq (d C')) (eT : T' = T) (eC : C' = C) (v : mm_inl h C) : ∀ d, mm_MS h T d → r = mm_dq (d C) := by
  subst eT
  subst eC
  exact fun d M => y d M v

set_option maxRecDepth 100000 in
set_option maxHeartbeats 4000000 in
theorem c_X12_comes_q (l : Launch) (hl : l.stackTraces = false) (d : Nat) (hd : 1 ≤ d) (h : mH) (i0 : mm_inv h) (p1 : Int) (p2 : Int) (bp1 : 0 ≤ p1 ∧ p1 ≤ 399) (bp2 : 0 ≤ p2 ∧ p2 ≤ 3) (t0 : h.2.1 73 p1 ≤ 399) : mm_Met l d yX12_comes cX12_comes 8 none [mR 66, mI p1, mI p2] h (mm_pv fun h2 => mm_inv h2 ∧ mm_fr [] [72, 73] h h2 ∧ mm_come h h2 p1 ∧ (∀ c, mm_lx h h2 c) ∧ mm_rx h h2 p1 p2) mm_nx 0 0 := by
  refine mm_ofW (ls := [mR 66, mI p1, mI p2, mU, mU, mU, mU, mU]) hl (by decide) rfl (Nat.le_of_ble_eq_true rfl) ?_
  intro x hxl C T hnm htb
  subst hxl
  have C1 := mm_OK_le (d' := d - 1 + 1) (by omega) C
  refine mm_rng (fun hr _ => ?_)
  have ap1 : -2147483648 ≤ p1 ∧ p1 < 2147483648 := mm_ok_at hr (i := 1) rfl
  have ap2 : -2147483648 ≤ p2 ∧ p2 < 2147483648 := mm_ok_at hr (i := 2) rfl
  have f0 : mm_fr [] [72, 73] h h := mm_fr_rf
  have z20 : h.1 66 1 ≤ 20 := (i0.1 66 1).2
  refine mm_iconst C (mm_dec dk_X12_comes 0 rfl) ⟨by decide, by decide⟩ ?_
  have J2 : ∀ (n : Nat) (x2_3 : Int) (bx2_3 : 0 ≤ x2_3 ∧ x2_3 ≤ 4) (h2_ : mH) (i2_ : mm_inv h2_) (f2_ : mm_fr [] [72, 73] h h2_) (w2_0 : mm_come h h2_ p1) (w2_1 : ∀ c, mm_lx h h2_ c) (w2_2 : (p2 < x2_3 → mm_rx h h2_ p1 p2)), (4 - x2_3 : Int) < n → mm_W x 0 0 2 [mR 66, mI p1, mI p2, mI x2_3, mU, mU, mU, mU] [] h2_ := by
    intro n
    induction n with
    | zero =>
      intro x2_3 bx2_3 h2_ i2_ f2_ w2_0 w2_1 w2_2 hm
      exfalso; omega
    | succ n ih2 =>
      intro x2_3 bx2_3 h2_ i2_ f2_ w2_0 w2_1 w2_2 hm2
      refine mm_iload_n C (mm_dec dk_X12_comes 2 rfl) rfl ?_
      refine mm_iconst C (mm_dec dk_X12_comes 3 rfl) ⟨by decide, by decide⟩ ?_
      refine mm_icmp_ge (tgt := 212) C (mm_dec dk_X12_comes 4 rfl) (by decide) (fun c4 => ?_) (fun c4 => ?_)
      · skip
        exact mm_vret C T (mm_dec dk_X12_comes 119 rfl) (by decide : 0 ≤ 0) (by decide : 0 ≤ 0) ⟨rfl, ⟨i2_, f2_, by exact w2_0, by exact w2_1, by exact w2_2 (by omega)⟩⟩
      · skip
        refine mm_iload_n C (mm_dec dk_X12_comes 5 rfl) rfl ?_
        refine mm_bipush C (mm_dec dk_X12_comes 6 rfl) ⟨by decide, by decide⟩ ?_
        refine mm_irem C (mm_dec dk_X12_comes 7 rfl) (by omega) (by omega) ?_
        refine mm_iload_n C (mm_dec dk_X12_comes 8 rfl) rfl ?_
        refine mm_iconst C (mm_dec dk_X12_comes 9 rfl) ⟨by decide, by decide⟩ ?_
        have J30 : ∀ (s30_1 : Int) (bs30_1 : -1 ≤ s30_1 ∧ s30_1 ≤ 1) (vs30_1 : (x2_3 ≠ 1 ∧ x2_3 = 3 ∧ s30_1 = -1) ∨ (x2_3 ≠ 1 ∧ x2_3 ≠ 3 ∧ s30_1 = 0) ∨ (x2_3 = 1 ∧ s30_1 = 1)), mm_W x 0 0 30 [mR 66, mI p1, mI p2, mI x2_3, mU, mU, mU, mU] [mI s30_1, mI (p1 % 20)] h2_ := by
          intro s30_1 bs30_1 vs30_1
          have zx : s30_1 = mm_dx x2_3 := mm_dx_x (by omega)
          refine mm_isub C (mm_dec dk_X12_comes 19 rfl) ⟨by omega, by omega⟩ ?_
          refine mm_istoreL (ls2 := [mR 66, mI p1, mI p2, mI x2_3, mI ((p1 % 20) - s30_1), mU, mU, mU]) C (mm_dec dk_X12_comes 20 rfl) (by decide) rfl ?_
          refine mm_iload_n C (mm_dec dk_X12_comes 21 rfl) rfl ?_
          refine mm_bipush C (mm_dec dk_X12_comes 22 rfl) ⟨by decide, by decide⟩ ?_
          refine mm_idiv C (mm_dec dk_X12_comes 23 rfl) ⟨by omega, by omega⟩ (by omega) ?_
          refine mm_iload_n C (mm_dec dk_X12_comes 24 rfl) rfl ?_
          refine mm_iconst C (mm_dec dk_X12_comes 25 rfl) ⟨by decide, by decide⟩ ?_
          have J55 : ∀ (s55_1 : Int) (bs55_1 : -1 ≤ s55_1 ∧ s55_1 ≤ 1) (vs55_1 : (x2_3 ≠ 2 ∧ x2_3 = 0 ∧ s55_1 = -1) ∨ (x2_3 ≠ 2 ∧ x2_3 ≠ 0 ∧ s55_1 = 0) ∨ (x2_3 = 2 ∧ s55_1 = 1)), mm_W x 0 0 55 [mR 66, mI p1, mI p2, mI x2_3, mI ((p1 % 20) - s30_1), mU, mU, mU] [mI s55_1, mI (p1 / 20)] h2_ := by
            intro s55_1 bs55_1 vs55_1
            have zy : s55_1 = mm_dy x2_3 := mm_dy_x (by omega)
            refine mm_isub C (mm_dec dk_X12_comes 34 rfl) ⟨by omega, by omega⟩ ?_
            refine mm_istoreL (ls2 := [mR 66, mI p1, mI p2, mI x2_3, mI ((p1 % 20) - s30_1), mI ((p1 / 20) - s55_1), mU, mU]) C (mm_dec dk_X12_comes 35 rfl) (by decide) rfl ?_
            have zw : h2_.1 66 1 = h.1 66 1 := f2_.1 66 1 (by decide)
            have zh : h2_.1 66 2 = h.1 66 2 := f2_.1 66 2 (by decide)
            refine mm_iload_n C (mm_dec dk_X12_comes 36 rfl) rfl ?_
            refine mm_iload_n C (mm_dec dk_X12_comes 37 rfl) rfl ?_
            have J206 : ∀ (h206_ : mH) (i206_ : mm_inv h206_) (f206_ : mm_fr [] [72, 73] h h206_) (w206_0 : mm_come h h206_ p1) (w206_1 : ∀ c, mm_lx h h206_ c) (w206_2 : (p2 < x2_3 + 1 → mm_rx h h206_ p1 p2)), mm_W x 0 0 206 [mR 66, mI p1, mI p2, mI x2_3, mU, mU, mU, mU] [] h206_ := by
              intro h206_ i206_ f206_ w206_0 w206_1 w206_2
              refine mm_iincL (ls2 := [mR 66, mI p1, mI p2, mI (x2_3 + 1), mU, mU, mU, mU]) C (mm_dec dk_X12_comes 117 rfl) rfl (by decide) ⟨by omega, by omega⟩ rfl ?_
              refine mm_goto (tgt := 2) C (mm_dec dk_X12_comes 118 rfl) (by decide) ?_
              exact ih2 (x2_3 + 1) ⟨by omega, by omega⟩ h206_ i206_ f206_ (by first | exact mm_come_rf | exact w206_0) (by first | exact fun _ => Or.inl ⟨rfl, rfl⟩ | exact w206_1) (by first | exact fun q => absurd q (by omega) | exact w206_2) (by omega)
            refine mm_icmp_ne (tgt := 206) C (mm_dec dk_X12_comes 38 rfl) (by decide) (fun c60 => ?_) (fun c60 => ?_)
            · skip
              refine mm_fgt 4 ?_
              refine mm_fgt 5 ?_
              exact J206 h2_ i2_ f2_ (by first | exact w2_0 | (rw [eh2, eh1]; have zz9 := zz; rw [eh1] at zz9; exact mm_come_put w2_0 (m := x2_3) ⟨by omega, by omega⟩ ⟨by omega, by omega⟩ zl zs (by omega) (by omega) (by omega))) (by first | exact w2_1 | exact mm_lx_put w2_1 eh1 eh2 (by omega)) (by first | exact fun q => w2_2 (by omega) | exact fun _ => mm_rx_out z20 (by omega) (by omega) (by omega) zx2 zy2 (by omega) | exact fun _ => mm_rx_no z20 (by omega) (by omega) (by omega) zx2 zy2 (by omega) | exact fun _ => mm_rx_at z20 (by omega) (by omega) (by omega) zx2 zy2 (by unfold mm_rel; omega) | exact fun _ => mm_rx_at z20 (by omega) (by omega) (by omega) zx2 zy2 (mm_rel_put eh1 eh2 (by omega) (by rw [zt]) (by omega)))
            · skip
              have zp : x2_3 = p2 := by omega
              have zx2 : s30_1 = mm_dx p2 := by rw [← zp]; exact zx
              have zy2 : s55_1 = mm_dy p2 := by rw [← zp]; exact zy
              refine mm_iload C (mm_dec dk_X12_comes 39 rfl) rfl ?_
              refine mm_if_lt (tgt := 206) C (mm_dec dk_X12_comes 40 rfl) (by decide) (fun c65 => ?_) (fun c65 => ?_)
              · skip
                refine mm_fgt 4 ?_
                refine mm_fgt 5 ?_
                exact J206 h2_ i2_ f2_ (by first | exact w2_0 | (rw [eh2, eh1]; have zz9 := zz; rw [eh1] at zz9; exact mm_come_put w2_0 (m := x2_3) ⟨by omega, by omega⟩ ⟨by omega, by omega⟩ zl zs (by omega) (by omega) (by omega))) (by first | exact w2_1 | exact mm_lx_put w2_1 eh1 eh2 (by omega)) (by first | exact fun q => w2_2 (by omega) | exact fun _ => mm_rx_out z20 (by omega) (by omega) (by omega) zx2 zy2 (by omega) | exact fun _ => mm_rx_no z20 (by omega) (by omega) (by omega) zx2 zy2 (by omega) | exact fun _ => mm_rx_at z20 (by omega) (by omega) (by omega) zx2 zy2 (by unfold mm_rel; omega) | exact fun _ => mm_rx_at z20 (by omega) (by omega) (by omega) zx2 zy2 (mm_rel_put eh1 eh2 (by omega) (by rw [zt]) (by omega)))
              · skip
                refine mm_iload C (mm_dec dk_X12_comes 41 rfl) rfl ?_
                refine mm_if_lt (tgt := 206) C (mm_dec dk_X12_comes 42 rfl) (by decide) (fun c70 => ?_) (fun c70 => ?_)
                · skip
                  refine mm_fgt 4 ?_
                  refine mm_fgt 5 ?_
                  exact J206 h2_ i2_ f2_ (by first | exact w2_0 | (rw [eh2, eh1]; have zz9 := zz; rw [eh1] at zz9; exact mm_come_put w2_0 (m := x2_3) ⟨by omega, by omega⟩ ⟨by omega, by omega⟩ zl zs (by omega) (by omega) (by omega))) (by first | exact w2_1 | exact mm_lx_put w2_1 eh1 eh2 (by omega)) (by first | exact fun q => w2_2 (by omega) | exact fun _ => mm_rx_out z20 (by omega) (by omega) (by omega) zx2 zy2 (by omega) | exact fun _ => mm_rx_no z20 (by omega) (by omega) (by omega) zx2 zy2 (by omega) | exact fun _ => mm_rx_at z20 (by omega) (by omega) (by omega) zx2 zy2 (by unfold mm_rel; omega) | exact fun _ => mm_rx_at z20 (by omega) (by omega) (by omega) zx2 zy2 (mm_rel_put eh1 eh2 (by omega) (by rw [zt]) (by omega)))
                · skip
                  refine mm_iload C (mm_dec dk_X12_comes 43 rfl) rfl ?_
                  refine mm_aload_n C (mm_dec dk_X12_comes 44 rfl) rfl ?_
                  refine mm_geti C fl_X12_192 (mm_dec dk_X12_comes 45 rfl) rfl rfl (Or.inl rfl) ?_
                  have g1 : 1 ≤ (h2_.1 66 1) ∧ (h2_.1 66 1) ≤ 20 := i2_.1 66 1
                  refine mm_icmp_ge (tgt := 206) C (mm_dec dk_X12_comes 46 rfl) (by decide) (fun c79 => ?_) (fun c79 => ?_)
                  · skip
                    refine mm_fgt 4 ?_
                    refine mm_fgt 5 ?_
                    exact J206 h2_ i2_ f2_ (by first | exact w2_0 | (rw [eh2, eh1]; have zz9 := zz; rw [eh1] at zz9; exact mm_come_put w2_0 (m := x2_3) ⟨by omega, by omega⟩ ⟨by omega, by omega⟩ zl zs (by omega) (by omega) (by omega))) (by first | exact w2_1 | exact mm_lx_put w2_1 eh1 eh2 (by omega)) (by first | exact fun q => w2_2 (by omega) | exact fun _ => mm_rx_out z20 (by omega) (by omega) (by omega) zx2 zy2 (by omega) | exact fun _ => mm_rx_no z20 (by omega) (by omega) (by omega) zx2 zy2 (by omega) | exact fun _ => mm_rx_at z20 (by omega) (by omega) (by omega) zx2 zy2 (by unfold mm_rel; omega) | exact fun _ => mm_rx_at z20 (by omega) (by omega) (by omega) zx2 zy2 (mm_rel_put eh1 eh2 (by omega) (by rw [zt]) (by omega)))
                  · skip
                    refine mm_iload C (mm_dec dk_X12_comes 47 rfl) rfl ?_
                    refine mm_aload_n C (mm_dec dk_X12_comes 48 rfl) rfl ?_
                    refine mm_geti C fl_X12_195 (mm_dec dk_X12_comes 49 rfl) rfl rfl (Or.inl rfl) ?_
                    have g2 : 1 ≤ (h2_.1 66 2) ∧ (h2_.1 66 2) ≤ 20 := i2_.1 66 2
                    refine mm_icmp_ge (tgt := 206) C (mm_dec dk_X12_comes 50 rfl) (by decide) (fun c88 => ?_) (fun c88 => ?_)
                    · skip
                      refine mm_fgt 4 ?_
                      refine mm_fgt 5 ?_
                      exact J206 h2_ i2_ f2_ (by first | exact w2_0 | (rw [eh2, eh1]; have zz9 := zz; rw [eh1] at zz9; exact mm_come_put w2_0 (m := x2_3) ⟨by omega, by omega⟩ ⟨by omega, by omega⟩ zl zs (by omega) (by omega) (by omega))) (by first | exact w2_1 | exact mm_lx_put w2_1 eh1 eh2 (by omega)) (by first | exact fun q => w2_2 (by omega) | exact fun _ => mm_rx_out z20 (by omega) (by omega) (by omega) zx2 zy2 (by omega) | exact fun _ => mm_rx_no z20 (by omega) (by omega) (by omega) zx2 zy2 (by omega) | exact fun _ => mm_rx_at z20 (by omega) (by omega) (by omega) zx2 zy2 (by unfold mm_rel; omega) | exact fun _ => mm_rx_at z20 (by omega) (by omega) (by omega) zx2 zy2 (mm_rel_put eh1 eh2 (by omega) (by rw [zt]) (by omega)))
                    · skip
                      refine mm_aload_n C (mm_dec dk_X12_comes 51 rfl) rfl ?_
                      refine mm_bipush C (mm_dec dk_X12_comes 52 rfl) ⟨by decide, by decide⟩ ?_
                      refine mm_iload C (mm_dec dk_X12_comes 53 rfl) rfl ?_
                      refine mm_imul C (mm_dec dk_X12_comes 54 rfl) ⟨by omega, by omega⟩ ?_
                      refine mm_iload C (mm_dec dk_X12_comes 55 rfl) rfl ?_
                      refine mm_iadd C (mm_dec dk_X12_comes 56 rfl) ⟨by omega, by omega⟩ ?_
                      refine mm_iload_n C (mm_dec dk_X12_comes 57 rfl) rfl ?_
                      refine mm_cVi (rest := []) C1 ev_X12_271 (mm_dec dk_X12_comes 58 rfl) (c_X12_leads_x x.2.1 hl (d - 1) (by omega) h2_ i2_ ((20 * ((p1 / 20) - s55_1)) + ((p1 % 20) - s30_1)) x2_3 ⟨by omega, by omega⟩) rfl rfl (Nat.le_of_ble_eq_true rfl) ⟨by decide, by decide⟩ rfl (fun r101 h101c hp101 => ?_) (fun _ _ q => q.elim)
                      obtain ⟨b101, z101, y101_0⟩ := hp101
                      rw [z101]
                      have zq : r101 = mm_lea h ((20 * ((p1 / 20) - s55_1)) + ((p1 % 20) - s30_1)) p2 := by rw [y101_0, mm_lea_fr (mm_lnd_fr f2_ (by decide)), zp]
                      refine mm_iload_n C (mm_dec dk_X12_comes 59 rfl) rfl ?_
                      refine mm_icmp_eq (tgt := 111) C (mm_dec dk_X12_comes 60 rfl) (by decide) (fun c105 => ?_) (fun c105 => ?_)
                      · skip
                        refine mm_bipush C (mm_dec dk_X12_comes 62 rfl) ⟨by decide, by decide⟩ ?_
                        refine mm_iload C (mm_dec dk_X12_comes 63 rfl) rfl ?_
                        refine mm_imul C (mm_dec dk_X12_comes 64 rfl) ⟨by omega, by omega⟩ ?_
                        refine mm_iload C (mm_dec dk_X12_comes 65 rfl) rfl ?_
                        refine mm_iadd C (mm_dec dk_X12_comes 66 rfl) ⟨by omega, by omega⟩ ?_
                        refine mm_istoreL (ls2 := [mR 66, mI p1, mI p2, mI x2_3, mI ((p1 % 20) - s30_1), mI ((p1 / 20) - s55_1), mI ((20 * ((p1 / 20) - s55_1)) + ((p1 % 20) - s30_1)), mU]) C (mm_dec dk_X12_comes 67 rfl) (by decide) rfl ?_
                        refine mm_aload_n C (mm_dec dk_X12_comes 68 rfl) rfl ?_
                        refine mm_getr (t := 72) C fl_X12_26 (mm_dec dk_X12_comes 69 rfl) rfl rfl (mm_ref i2_ rfl) ?_
                        refine mm_iload_n C (mm_dec dk_X12_comes 70 rfl) rfl ?_
                        refine mm_iald C (mm_dec dk_X12_comes 71 rfl) rfl (by omega) (by omega) ?_
                        have g4 : 0 ≤ (h2_.2.1 72 p1) ∧ (h2_.2.1 72 p1) ≤ 1000000000 := i2_.2.1 72 p1
                        refine mm_aload_n C (mm_dec dk_X12_comes 72 rfl) rfl ?_
                        refine mm_iload C (mm_dec dk_X12_comes 73 rfl) rfl ?_
                        refine mm_iload_n C (mm_dec dk_X12_comes 74 rfl) rfl ?_
                        refine mm_cVi (rest := [mI (h2_.2.1 72 p1)]) C1 ev_X12_275 (mm_dec dk_X12_comes 75 rfl) (c_X12_seconds_x x.2.1 hl (d - 1) (by omega) h2_ i2_ ((20 * ((p1 / 20) - s55_1)) + ((p1 % 20) - s30_1)) p1 ⟨by omega, by omega⟩ ⟨by omega, by omega⟩) rfl rfl (Nat.le_of_ble_eq_true rfl) ⟨by decide, by decide⟩ rfl (fun r131 h131c hp131 => ?_) (fun _ _ q => q.elim)
                        obtain ⟨b131, z131, y131_0⟩ := hp131
                        rw [z131]
                        refine mm_iadd C (mm_dec dk_X12_comes 76 rfl) ⟨by omega, by omega⟩ ?_
                        refine mm_istoreL (ls2 := [mR 66, mI p1, mI p2, mI x2_3, mI ((p1 % 20) - s30_1), mI ((p1 / 20) - s55_1), mI ((20 * ((p1 / 20) - s55_1)) + ((p1 % 20) - s30_1)), mI ((h2_.2.1 72 p1) + r131)]) C (mm_dec dk_X12_comes 77 rfl) (by decide) rfl ?_
                        have zt : r131 = mm_sec h ((20 * ((p1 / 20) - s55_1)) + ((p1 % 20) - s30_1)) p1 := by rw [y131_0, mm_sec_fr (mm_lnd_fr f2_ (by decide))]
                        refine mm_iload C (mm_dec dk_X12_comes 78 rfl) rfl ?_
                        refine mm_aload_n C (mm_dec dk_X12_comes 79 rfl) rfl ?_
                        refine mm_getr (t := 72) C fl_X12_26 (mm_dec dk_X12_comes 80 rfl) rfl rfl (mm_ref i2_ rfl) ?_
                        refine mm_iload C (mm_dec dk_X12_comes 81 rfl) rfl ?_
                        refine mm_iald C (mm_dec dk_X12_comes 82 rfl) rfl (by omega) (by omega) ?_
                        have g6 : 0 ≤ (h2_.2.1 72 ((20 * ((p1 / 20) - s55_1)) + ((p1 % 20) - s30_1))) ∧ (h2_.2.1 72 ((20 * ((p1 / 20) - s55_1)) + ((p1 % 20) - s30_1))) ≤ 1000000000 := i2_.2.1 72 ((20 * ((p1 / 20) - s55_1)) + ((p1 % 20) - s30_1))
                        refine mm_icmp_gt (tgt := 206) C (mm_dec dk_X12_comes 83 rfl) (by decide) (fun c146 => ?_) (fun c146 => ?_)
                        · skip
                          refine mm_fgt 4 ?_
                          refine mm_fgt 5 ?_
                          refine mm_fgt 6 ?_
                          refine mm_fgt 7 ?_
                          exact J206 h2_ i2_ f2_ (by first | exact w2_0 | (rw [eh2, eh1]; have zz9 := zz; rw [eh1] at zz9; exact mm_come_put w2_0 (m := x2_3) ⟨by omega, by omega⟩ ⟨by omega, by omega⟩ zl zs (by omega) (by omega) (by omega))) (by first | exact w2_1 | exact mm_lx_put w2_1 eh1 eh2 (by omega)) (by first | exact fun q => w2_2 (by omega) | exact fun _ => mm_rx_out z20 (by omega) (by omega) (by omega) zx2 zy2 (by omega) | exact fun _ => mm_rx_no z20 (by omega) (by omega) (by omega) zx2 zy2 (by omega) | exact fun _ => mm_rx_at z20 (by omega) (by omega) (by omega) zx2 zy2 (by unfold mm_rel; omega) | exact fun _ => mm_rx_at z20 (by omega) (by omega) (by omega) zx2 zy2 (mm_rel_put eh1 eh2 (by omega) (by rw [zt]) (by omega)))
                        · skip
                          refine mm_iload C (mm_dec dk_X12_comes 84 rfl) rfl ?_
                          refine mm_aload_n C (mm_dec dk_X12_comes 85 rfl) rfl ?_
                          refine mm_getr (t := 72) C fl_X12_26 (mm_dec dk_X12_comes 86 rfl) rfl rfl (mm_ref i2_ rfl) ?_
                          refine mm_iload C (mm_dec dk_X12_comes 87 rfl) rfl ?_
                          refine mm_iald C (mm_dec dk_X12_comes 88 rfl) rfl (by omega) (by omega) ?_
                          have J182 : ∀ (w182_0 : ((h2_.2.1 72 p1) + r131) ≤ h2_.2.1 72 ((20 * ((p1 / 20) - s55_1)) + ((p1 % 20) - s30_1))) (w182_1 : (((h2_.2.1 72 p1) + r131) < h2_.2.1 72 ((20 * ((p1 / 20) - s55_1)) + ((p1 % 20) - s30_1)) ∨ (((h2_.2.1 72 p1) + r131) = h2_.2.1 72 ((20 * ((p1 / 20) - s55_1)) + ((p1 % 20) - s30_1)) ∧ h2_.2.1 73 p1 + 1 < h2_.2.1 73 ((20 * ((p1 / 20) - s55_1)) + ((p1 % 20) - s30_1))))), mm_W x 0 0 182 [mR 66, mI p1, mI p2, mI x2_3, mU, mU, mI ((20 * ((p1 / 20) - s55_1)) + ((p1 % 20) - s30_1)), mI ((h2_.2.1 72 p1) + r131)] [] h2_ := by
                            intro w182_0 w182_1
                            have zl : mm_lea h ((20 * ((p1 / 20) - s55_1)) + ((p1 % 20) - s30_1)) x2_3 = p1 := by rw [← mm_lea_fr (mm_lnd_fr f2_ (by decide))]; omega
                            have zs : ((h2_.2.1 72 p1) + r131) = h.2.1 72 p1 + mm_sec h ((20 * ((p1 / 20) - s55_1)) + ((p1 % 20) - s30_1)) p1 := by rw [← mm_sec_fr (mm_lnd_fr f2_ (by decide)), ← w2_0.1.1]; omega
                            refine mm_aload_n C (mm_dec dk_X12_comes 102 rfl) rfl ?_
                            refine mm_getr (t := 72) C fl_X12_26 (mm_dec dk_X12_comes 103 rfl) rfl rfl (mm_ref i2_ rfl) ?_
                            refine mm_iload C (mm_dec dk_X12_comes 104 rfl) rfl ?_
                            refine mm_iload C (mm_dec dk_X12_comes 105 rfl) rfl ?_
                            refine mm_iast C (mm_dec dk_X12_comes 106 rfl) rfl (by omega) (by omega) ?_
                            have i1 : mm_inv (mm_pa h2_ 72 ((20 * ((p1 / 20) - s55_1)) + ((p1 % 20) - s30_1)) ((h2_.2.1 72 p1) + r131)) := mm_inv_pa i2_ (show 0 ≤ ((h2_.2.1 72 p1) + r131) ∧ ((h2_.2.1 72 p1) + r131) ≤ 1000000000 from ⟨by omega, by omega⟩)
                            have f1 : mm_fr [] [72, 73] h (mm_pa h2_ 72 ((20 * ((p1 / 20) - s55_1)) + ((p1 % 20) - s30_1)) ((h2_.2.1 72 p1) + r131)) := mm_fr_pa f2_ (by decide)
                            obtain ⟨h1, eh1⟩ : ∃ z, z = mm_pa h2_ 72 ((20 * ((p1 / 20) - s55_1)) + ((p1 % 20) - s30_1)) ((h2_.2.1 72 p1) + r131) := ⟨_, rfl⟩
                            rw [← eh1] at i1 f1 ⊢
                            have qh1_7 : h1.1 66 1 = h2_.1 66 1 := by rw [eh1]; rfl
                            have qh1_8 : h1.1 66 2 = h2_.1 66 2 := by rw [eh1]; rfl
                            refine mm_aload_n C (mm_dec dk_X12_comes 107 rfl) rfl ?_
                            refine mm_getr (t := 73) C fl_X12_29 (mm_dec dk_X12_comes 108 rfl) rfl rfl (mm_ref i1 rfl) ?_
                            refine mm_iload C (mm_dec dk_X12_comes 109 rfl) rfl ?_
                            refine mm_aload_n C (mm_dec dk_X12_comes 110 rfl) rfl ?_
                            refine mm_getr (t := 73) C fl_X12_29 (mm_dec dk_X12_comes 111 rfl) rfl rfl (mm_ref i1 rfl) ?_
                            refine mm_iload_n C (mm_dec dk_X12_comes 112 rfl) rfl ?_
                            refine mm_iald C (mm_dec dk_X12_comes 113 rfl) rfl (by omega) (by omega) ?_
                            have g9 : 0 ≤ (h1.2.1 73 p1) ∧ (h1.2.1 73 p1) ≤ 400 := i1.2.1 73 p1
                            have zz : h1.2.1 73 p1 = h2_.2.1 73 p1 := by rw [eh1]; exact mm_pa_ne _ _ (fun w => absurd w.1 (by decide))
                            have zc := w2_0.1.2
                            refine mm_iconst C (mm_dec dk_X12_comes 114 rfl) ⟨by decide, by decide⟩ ?_
                            refine mm_iadd C (mm_dec dk_X12_comes 115 rfl) ⟨by omega, by omega⟩ ?_
                            refine mm_iast C (mm_dec dk_X12_comes 116 rfl) rfl (by omega) (by omega) ?_
                            have i2 : mm_inv (mm_pa h1 73 ((20 * ((p1 / 20) - s55_1)) + ((p1 % 20) - s30_1)) ((h1.2.1 73 p1) + 1)) := mm_inv_pa i1 (show 0 ≤ ((h1.2.1 73 p1) + 1) ∧ ((h1.2.1 73 p1) + 1) ≤ 400 from ⟨by omega, by omega⟩)
                            have f2 : mm_fr [] [72, 73] h (mm_pa h1 73 ((20 * ((p1 / 20) - s55_1)) + ((p1 % 20) - s30_1)) ((h1.2.1 73 p1) + 1)) := mm_fr_pa f1 (by decide)
                            obtain ⟨h2, eh2⟩ : ∃ z, z = mm_pa h1 73 ((20 * ((p1 / 20) - s55_1)) + ((p1 % 20) - s30_1)) ((h1.2.1 73 p1) + 1) := ⟨_, rfl⟩
                            rw [← eh2] at i2 f2 ⊢
                            have qh2_10 : h2.1 66 1 = h1.1 66 1 := by rw [eh2]; rfl
                            have qh2_11 : h2.1 66 2 = h1.1 66 2 := by rw [eh2]; rfl
                            refine mm_fgt 6 ?_
                            refine mm_fgt 7 ?_
                            exact J206 h2 i2 f2 (by first | exact w2_0 | (rw [eh2, eh1]; have zz9 := zz; rw [eh1] at zz9; exact mm_come_put w2_0 (m := x2_3) ⟨by omega, by omega⟩ ⟨by omega, by omega⟩ zl zs (by omega) (by omega) (by omega))) (by first | exact w2_1 | exact mm_lx_put w2_1 eh1 eh2 (by omega)) (by first | exact fun q => w2_2 (by omega) | exact fun _ => mm_rx_out z20 (by omega) (by omega) (by omega) zx2 zy2 (by omega) | exact fun _ => mm_rx_no z20 (by omega) (by omega) (by omega) zx2 zy2 (by omega) | exact fun _ => mm_rx_at z20 (by omega) (by omega) (by omega) zx2 zy2 (by unfold mm_rel; omega) | exact fun _ => mm_rx_at z20 (by omega) (by omega) (by omega) zx2 zy2 (mm_rel_put eh1 eh2 (by omega) (by rw [zt]) (by omega)))
                          refine mm_icmp_ne (tgt := 182) C (mm_dec dk_X12_comes 89 rfl) (by decide) (fun c158 => ?_) (fun c158 => ?_)
                          · skip
                            refine mm_fgt 4 ?_
                            refine mm_fgt 5 ?_
                            exact J182 (by omega) (by omega)
                          · skip
                            refine mm_aload_n C (mm_dec dk_X12_comes 90 rfl) rfl ?_
                            refine mm_getr (t := 73) C fl_X12_29 (mm_dec dk_X12_comes 91 rfl) rfl rfl (mm_ref i2_ rfl) ?_
                            refine mm_iload_n C (mm_dec dk_X12_comes 92 rfl) rfl ?_
                            refine mm_iald C (mm_dec dk_X12_comes 93 rfl) rfl (by omega) (by omega) ?_
                            have g12 : 0 ≤ (h2_.2.1 73 p1) ∧ (h2_.2.1 73 p1) ≤ 400 := i2_.2.1 73 p1
                            refine mm_iconst C (mm_dec dk_X12_comes 94 rfl) ⟨by decide, by decide⟩ ?_
                            refine mm_iadd C (mm_dec dk_X12_comes 95 rfl) ⟨by omega, by omega⟩ ?_
                            refine mm_aload_n C (mm_dec dk_X12_comes 96 rfl) rfl ?_
                            refine mm_getr (t := 73) C fl_X12_29 (mm_dec dk_X12_comes 97 rfl) rfl rfl (mm_ref i2_ rfl) ?_
                            refine mm_iload C (mm_dec dk_X12_comes 98 rfl) rfl ?_
                            refine mm_iald C (mm_dec dk_X12_comes 99 rfl) rfl (by omega) (by omega) ?_
                            have g13 : 0 ≤ (h2_.2.1 73 ((20 * ((p1 / 20) - s55_1)) + ((p1 % 20) - s30_1))) ∧ (h2_.2.1 73 ((20 * ((p1 / 20) - s55_1)) + ((p1 % 20) - s30_1))) ≤ 400 := i2_.2.1 73 ((20 * ((p1 / 20) - s55_1)) + ((p1 % 20) - s30_1))
                            refine mm_icmp_lt (tgt := 182) C (mm_dec dk_X12_comes 100 rfl) (by decide) (fun c176 => ?_) (fun c176 => ?_)
                            · skip
                              refine mm_fgt 4 ?_
                              refine mm_fgt 5 ?_
                              exact J182 (by omega) (by omega)
                            · skip
                              refine mm_goto (tgt := 206) C (mm_dec dk_X12_comes 101 rfl) (by decide) ?_
                              refine mm_fgt 4 ?_
                              refine mm_fgt 5 ?_
                              refine mm_fgt 6 ?_
                              refine mm_fgt 7 ?_
                              exact J206 h2_ i2_ f2_ (by first | exact w2_0 | (rw [eh2, eh1]; have zz9 := zz; rw [eh1] at zz9; exact mm_come_put w2_0 (m := x2_3) ⟨by omega, by omega⟩ ⟨by omega, by omega⟩ zl zs (by omega) (by omega) (by omega))) (by first | exact w2_1 | exact mm_lx_put w2_1 eh1 eh2 (by omega)) (by first | exact fun q => w2_2 (by omega) | exact fun _ => mm_rx_out z20 (by omega) (by omega) (by omega) zx2 zy2 (by omega) | exact fun _ => mm_rx_no z20 (by omega) (by omega) (by omega) zx2 zy2 (by omega) | exact fun _ => mm_rx_at z20 (by omega) (by omega) (by omega) zx2 zy2 (by unfold mm_rel; omega) | exact fun _ => mm_rx_at z20 (by omega) (by omega) (by omega) zx2 zy2 (mm_rel_put eh1 eh2 (by omega) (by rw [zt]) (by omega)))
                      · skip
                        refine mm_goto (tgt := 206) C (mm_dec dk_X12_comes 61 rfl) (by decide) ?_
                        refine mm_fgt 4 ?_
                        refine mm_fgt 5 ?_
                        exact J206 h2_ i2_ f2_ (by first | exact w2_0 | (rw [eh2, eh1]; have zz9 := zz; rw [eh1] at zz9; exact mm_come_put w2_0 (m := x2_3) ⟨by omega, by omega⟩ ⟨by omega, by omega⟩ zl zs (by omega) (by omega) (by omega))) (by first | exact w2_1 | exact mm_lx_put w2_1 eh1 eh2 (by omega)) (by first | exact fun q => w2_2 (by omega) | exact fun _ => mm_rx_out z20 (by omega) (by omega) (by omega) zx2 zy2 (by omega) | exact fun _ => mm_rx_no z20 (by omega) (by omega) (by omega) zx2 zy2 (by omega) | exact fun _ => mm_rx_at z20 (by omega) (by omega) (by omega) zx2 zy2 (by unfold mm_rel; omega) | exact fun _ => mm_rx_at z20 (by omega) (by omega) (by omega) zx2 zy2 (mm_rel_put eh1 eh2 (by omega) (by rw [zt]) (by omega)))
          refine mm_icmp_ne (tgt := 46) C (mm_dec dk_X12_comes 26 rfl) (by decide) (fun c39 => ?_) (fun c39 => ?_)
          · skip
            refine mm_iload_n C (mm_dec dk_X12_comes 29 rfl) rfl ?_
            refine mm_if_ne (tgt := 54) C (mm_dec dk_X12_comes 30 rfl) (by decide) (fun c47 => ?_) (fun c47 => ?_)
            · skip
              refine mm_iconst C (mm_dec dk_X12_comes 33 rfl) ⟨by decide, by decide⟩ ?_
              exact J55 0 ⟨by omega, by omega⟩ (Or.inr (Or.inl ⟨by omega, by omega, rfl⟩))
            · skip
              refine mm_iconst C (mm_dec dk_X12_comes 31 rfl) ⟨by decide, by decide⟩ ?_
              refine mm_goto (tgt := 55) C (mm_dec dk_X12_comes 32 rfl) (by decide) ?_
              exact J55 (-1) ⟨by omega, by omega⟩ (Or.inl ⟨by omega, by omega, rfl⟩)
          · skip
            refine mm_iconst C (mm_dec dk_X12_comes 27 rfl) ⟨by decide, by decide⟩ ?_
            refine mm_goto (tgt := 55) C (mm_dec dk_X12_comes 28 rfl) (by decide) ?_
            exact J55 1 ⟨by omega, by omega⟩ (Or.inr (Or.inr (⟨by omega, rfl⟩)))
        refine mm_icmp_ne (tgt := 20) C (mm_dec dk_X12_comes 10 rfl) (by decide) (fun c13 => ?_) (fun c13 => ?_)
        · skip
          refine mm_iload_n C (mm_dec dk_X12_comes 13 rfl) rfl ?_
          refine mm_iconst C (mm_dec dk_X12_comes 14 rfl) ⟨by decide, by decide⟩ ?_
          refine mm_icmp_ne (tgt := 29) C (mm_dec dk_X12_comes 15 rfl) (by decide) (fun c22 => ?_) (fun c22 => ?_)
          · skip
            refine mm_iconst C (mm_dec dk_X12_comes 18 rfl) ⟨by decide, by decide⟩ ?_
            exact J30 0 ⟨by omega, by omega⟩ (Or.inr (Or.inl ⟨by omega, by omega, rfl⟩))
          · skip
            refine mm_iconst C (mm_dec dk_X12_comes 16 rfl) ⟨by decide, by decide⟩ ?_
            refine mm_goto (tgt := 30) C (mm_dec dk_X12_comes 17 rfl) (by decide) ?_
            exact J30 (-1) ⟨by omega, by omega⟩ (Or.inl ⟨by omega, by omega, rfl⟩)
        · skip
          refine mm_iconst C (mm_dec dk_X12_comes 11 rfl) ⟨by decide, by decide⟩ ?_
          refine mm_goto (tgt := 30) C (mm_dec dk_X12_comes 12 rfl) (by decide) ?_
          exact J30 1 ⟨by omega, by omega⟩ (Or.inr (Or.inr (⟨by omega, rfl⟩)))
  refine mm_istore_nL (ls2 := [mR 66, mI p1, mI p2, mI 0, mU, mU, mU, mU]) C (mm_dec dk_X12_comes 1 rfl) (by decide) rfl ?_
  exact J2 (((4 - 0) : Int) + 1).toNat 0 ⟨by omega, by omega⟩ h i0 f0 (by first | exact mm_come_rf | exact w206_0) (by first | exact fun _ => Or.inl ⟨rfl, rfl⟩ | exact w206_1) (by first | exact fun q => absurd q (by omega) | exact w206_2) (by omega)
set_option maxRecDepth 100000 in
set_option maxHeartbeats 4000000 in
theorem c_X12_towards_q (l : Launch) (hl : l.stackTraces = false) (d : Nat) (hd : 2 ≤ d) (h : mH) (i0 : mm_inv h) (p1 : Int) (bp1 : 0 ≤ p1 ∧ p1 ≤ 399) : mm_Met l d yX12_towards cX12_towards 5 none [mR 66, mI p1] h (mm_pv fun h2 => mm_inv h2 ∧ mm_fr [(66, 18)] [72, 73, 75, 76] h h2 ∧ mm_FT h2 p1) mm_nx 0 0 := by
  refine mm_ofW (ls := [mR 66, mI p1, mU, mU, mU]) hl (by decide) rfl (Nat.le_of_ble_eq_true rfl) ?_
  intro x hxl C T hnm htb
  subst hxl
  have C1 := mm_OK_le (d' := d - 1 + 1) (by omega) C
  refine mm_rng (fun hr _ => ?_)
  have ap1 : -2147483648 ≤ p1 ∧ p1 < 2147483648 := mm_ok_at hr (i := 1) rfl
  have f0 : mm_fr [(66, 18)] [72, 73, 75, 76] h h := mm_fr_rf
  refine mm_iconst C (mm_dec dk_X12_towards 0 rfl) ⟨by decide, by decide⟩ ?_
  have J2 : ∀ (n : Nat) (x2_2 : Int) (bx2_2 : 0 ≤ x2_2 ∧ x2_2 ≤ 400) (h2_ : mH) (i2_ : mm_inv h2_) (f2_ : mm_fr [(66, 18)] [72, 73, 75, 76] h h2_) (w2_0 : mm_ini0 h2_ x2_2), (400 - x2_2 : Int) < n → mm_W x 0 0 2 [mR 66, mI p1, mI x2_2, mU, mU] [] h2_ := by
    intro n
    induction n with
    | zero =>
      intro x2_2 bx2_2 h2_ i2_ f2_ w2_0 hm
      exfalso; omega
    | succ n ih2 =>
      intro x2_2 bx2_2 h2_ i2_ f2_ w2_0 hm2
      refine mm_iload_n C (mm_dec dk_X12_towards 2 rfl) rfl ?_
      refine mm_sipush C (mm_dec dk_X12_towards 3 rfl) ⟨by decide, by decide⟩ ?_
      refine mm_icmp_ge (tgt := 45) C (mm_dec dk_X12_towards 4 rfl) (by decide) (fun c6 => ?_) (fun c6 => ?_)
      · skip
        refine mm_aload_n C (mm_dec dk_X12_towards 27 rfl) rfl ?_
        refine mm_getr (t := 72) C fl_X12_26 (mm_dec dk_X12_towards 28 rfl) rfl rfl (mm_ref i2_ rfl) ?_
        refine mm_iload_n C (mm_dec dk_X12_towards 29 rfl) rfl ?_
        refine mm_iconst C (mm_dec dk_X12_towards 30 rfl) ⟨by decide, by decide⟩ ?_
        refine mm_iast C (mm_dec dk_X12_towards 31 rfl) rfl (by omega) (by omega) ?_
        have i1 : mm_inv (mm_pa h2_ 72 p1 0) := mm_inv_pa i2_ (show 0 ≤ 0 ∧ 0 ≤ 1000000000 from ⟨by omega, by omega⟩)
        have f1 : mm_fr [(66, 18)] [72, 73, 75, 76] h (mm_pa h2_ 72 p1 0) := mm_fr_pa f2_ (by decide)
        obtain ⟨h1, eh1⟩ : ∃ z, z = mm_pa h2_ 72 p1 0 := ⟨_, rfl⟩
        rw [← eh1] at i1 f1 ⊢
        refine mm_aload_n C (mm_dec dk_X12_towards 32 rfl) rfl ?_
        refine mm_getr (t := 75) C fl_X12_35 (mm_dec dk_X12_towards 33 rfl) rfl rfl (mm_ref i1 rfl) ?_
        refine mm_iload_n C (mm_dec dk_X12_towards 34 rfl) rfl ?_
        refine mm_lconst (z := 1) C (mm_dec dk_X12_towards 35 rfl) rfl ?_
        refine mm_last C (mm_dec dk_X12_towards 36 rfl) rfl (by omega) (by omega) ?_
        have i2 : mm_inv (mm_pa h1 75 p1 1) := mm_inv_pa i1 (show -9223372036854775808 ≤ 1 ∧ 1 ≤ 9223372036854775807 from ⟨by omega, by omega⟩)
        have f2 : mm_fr [(66, 18)] [72, 73, 75, 76] h (mm_pa h1 75 p1 1) := mm_fr_pa f1 (by decide)
        obtain ⟨h2, eh2⟩ : ∃ z, z = mm_pa h1 75 p1 1 := ⟨_, rfl⟩
        rw [← eh2] at i2 f2 ⊢
        refine mm_aload_n C (mm_dec dk_X12_towards 37 rfl) rfl ?_
        refine mm_iconst C (mm_dec dk_X12_towards 38 rfl) ⟨by decide, by decide⟩ ?_
        refine mm_puti C fl_X12_259 (mm_dec dk_X12_towards 39 rfl) rfl rfl rfl (Or.inl ⟨rfl, rfl⟩) ?_
        have i3 : mm_inv (mm_pf h2 66 18 0) := mm_inv_pf i2 (show -2147483648 ≤ 0 ∧ 0 ≤ 2147483647 from ⟨by omega, by omega⟩) (by decide)
        have f3 : mm_fr [(66, 18)] [72, 73, 75, 76] h (mm_pf h2 66 18 0) := mm_fr_pf f2 (by decide)
        obtain ⟨h3, eh3⟩ : ∃ z, z = mm_pf h2 66 18 0 := ⟨_, rfl⟩
        rw [← eh3] at i3 f3 ⊢
        have qh3 : h3.1 66 18 = 0 := by rw [eh3]; exact mm_pf_same _ _ _ _
        refine mm_iconst C (mm_dec dk_X12_towards 40 rfl) ⟨by decide, by decide⟩ ?_
        have J66 : ∀ (n : Nat) (x66_2 : Int) (bx66_2 : 0 ≤ x66_2 ∧ x66_2 ≤ 1) (h66_ : mH) (i66_ : mm_inv h66_) (f66_ : mm_fr [(66, 18)] [72, 73, 75, 76] h h66_) (w66_0 : ∃ L, mm_dij h66_ p1 L) (w66_1 : (mm_dn h66_ : Int) ≤ 400) (w66_2 : h66_.2.1 73 p1 = 0) (w66_3 : mm_RX h66_ (-1)) (w66_4 : (x66_2 = 0 → ∀ j, 0 ≤ j → j ≤ 399 → h66_.2.1 76 j = 0 → 1000000000 ≤ h66_.2.1 72 j)), (x66_2 + 2 * (400 - (mm_dn h66_ : Int)) : Int) < n → mm_W x 0 0 66 [mR 66, mI p1, mI x66_2, mU, mU] [] h66_ := by
          intro n
          induction n with
          | zero =>
            intro x66_2 bx66_2 h66_ i66_ f66_ w66_0 w66_1 w66_2 w66_3 w66_4 hm
            exfalso; omega
          | succ n ih66 =>
            intro x66_2 bx66_2 h66_ i66_ f66_ w66_0 w66_1 w66_2 w66_3 w66_4 hm66
            refine mm_iload_n C (mm_dec dk_X12_towards 42 rfl) rfl ?_
            refine mm_if_eq (tgt := 186) C (mm_dec dk_X12_towards 43 rfl) (by decide) (fun c67 => ?_) (fun c67 => ?_)
            · skip
              exact mm_vret C T (mm_dec dk_X12_towards 105 rfl) (by decide : 0 ≤ 0) (by decide : 0 ≤ 0) ⟨rfl, ⟨i66_, f66_, by exact ⟨w66_0, w66_2, w66_3, w66_4 (by omega)⟩⟩⟩
            · skip
              refine mm_iconst C (mm_dec dk_X12_towards 44 rfl) ⟨by decide, by decide⟩ ?_
              refine mm_istore_nL (ls2 := [mR 66, mI p1, mI x66_2, mI (-1), mU]) C (mm_dec dk_X12_towards 45 rfl) (by decide) rfl ?_
              refine mm_iconst C (mm_dec dk_X12_towards 46 rfl) ⟨by decide, by decide⟩ ?_
              have J75 : ∀ (n : Nat) (x75_3 : Int) (bx75_3 : -1 ≤ x75_3 ∧ x75_3 ≤ 399) (x75_4 : Int) (bx75_4 : 0 ≤ x75_4 ∧ x75_4 ≤ 400) (w75_0 : mm_bst h66_ x75_3 x75_4), (400 - x75_4 : Int) < n → mm_W x 0 0 75 [mR 66, mI p1, mU, mI x75_3, mI x75_4] [] h66_ := by
                intro n
                induction n with
                | zero =>
                  intro x75_3 bx75_3 x75_4 bx75_4 w75_0 hm
                  exfalso; omega
                | succ n ih75 =>
                  intro x75_3 bx75_3 x75_4 bx75_4 w75_0 hm75
                  refine mm_iload C (mm_dec dk_X12_towards 48 rfl) rfl ?_
                  refine mm_sipush C (mm_dec dk_X12_towards 49 rfl) ⟨by decide, by decide⟩ ?_
                  refine mm_icmp_ge (tgt := 130) C (mm_dec dk_X12_towards 50 rfl) (by decide) (fun c80 => ?_) (fun c80 => ?_)
                  · skip
                    refine mm_iload_n C (mm_dec dk_X12_towards 74 rfl) rfl ?_
                    refine mm_iconst C (mm_dec dk_X12_towards 75 rfl) ⟨by decide, by decide⟩ ?_
                    have J140 : ∀ (s140_0 : Int) (bs140_0 : 0 ≤ s140_0 ∧ s140_0 ≤ 1) (vs140_0 : (x75_3 = (-1) ∧ s140_0 = 0) ∨ (x75_3 ≠ (-1) ∧ s140_0 = 1)), mm_W x 0 0 140 [mR 66, mI p1, mU, mI x75_3, mU] [mI s140_0] h66_ := by
                      intro s140_0 bs140_0 vs140_0
                      refine mm_istore_nL (ls2 := [mR 66, mI p1, mI s140_0, mI x75_3, mU]) C (mm_dec dk_X12_towards 80 rfl) (by decide) rfl ?_
                      refine mm_iload_n C (mm_dec dk_X12_towards 81 rfl) rfl ?_
                      refine mm_if_ne (tgt := 148) C (mm_dec dk_X12_towards 82 rfl) (by decide) (fun c142 => ?_) (fun c142 => ?_)
                      · skip
                        obtain ⟨zL, zd⟩ := w66_0
                        obtain ⟨z0, zf, zm⟩ := w75_0.1.resolve_left (by omega)
                        have zp := mm_dij_pick zd ⟨by omega, by omega⟩ z0 zf (fun j a b c => zm j a (by omega) c)
                        have zn := mm_dn_put (h := h66_) (j := x75_3) ⟨by omega, by omega⟩ z0
                        have zR := mm_RX_pick (b := x75_3) w66_3
                        refine mm_aload_n C (mm_dec dk_X12_towards 84 rfl) rfl ?_
                        refine mm_getr (t := 76) C fl_X12_39 (mm_dec dk_X12_towards 85 rfl) rfl rfl (mm_ref i66_ rfl) ?_
                        refine mm_iload_n C (mm_dec dk_X12_towards 86 rfl) rfl ?_
                        refine mm_iconst C (mm_dec dk_X12_towards 87 rfl) ⟨by decide, by decide⟩ ?_
                        refine mm_zast C (mm_dec dk_X12_towards 88 rfl) rfl (by omega) (by omega) (by omega) ?_
                        have i4 : mm_inv (mm_pa h66_ 76 x75_3 1) := mm_inv_pa i66_ (show 0 ≤ 1 ∧ 1 ≤ 1 from ⟨by omega, by omega⟩)
                        have f4 : mm_fr [(66, 18)] [72, 73, 75, 76] h (mm_pa h66_ 76 x75_3 1) := mm_fr_pa f66_ (by decide)
                        obtain ⟨h4, eh4⟩ : ∃ z, z = mm_pa h66_ 76 x75_3 1 := ⟨_, rfl⟩
                        rw [← eh4] at i4 f4 ⊢
                        rw [← eh4] at zp zn zR
                        have zk : h4.2.1 76 x75_3 = 1 := by rw [eh4]; exact mm_pa_same _ _ _ _
                        have zl : h4.2.1 72 x75_3 = h66_.2.1 72 x75_3 := by rw [eh4]; exact mm_pa_ne _ _ (fun w => absurd w.1 (by decide))
                        have z73 : h4.2.1 73 p1 = 0 := by rw [eh4, mm_pa_o 73 76 (by decide)]; exact w66_2
                        refine mm_aload_n C (mm_dec dk_X12_towards 89 rfl) rfl ?_
                        refine mm_iload_n C (mm_dec dk_X12_towards 90 rfl) rfl ?_
                        refine mm_iload_n C (mm_dec dk_X12_towards 91 rfl) rfl ?_
                        refine mm_cVv (rest := []) C1 ev_X12_265 (mm_dec dk_X12_towards 92 rfl) (c_X12_counts x.2.1 hl (d - 1) (by omega) h4 i4 x75_3 p1 ⟨by omega, by omega⟩ ⟨by omega, by omega⟩) rfl rfl (Nat.le_of_ble_eq_true rfl) ⟨by decide, by decide⟩ rfl (fun h158c hp158 => ?_) (fun _ _ q => q.elim)
                        obtain ⟨i158c, g158c⟩ := hp158
                        have f158c : mm_fr [(66, 18)] [72, 73, 75, 76] h h158c := mm_fr_tr f4 g158c (by decide +kernel)
                        have zq := And.intro (mm_dij_fr zp (mm_lnd_fr g158c (by decide)) (fun j => g158c.2 72 (by decide) j) (fun j => g158c.2 73 (by decide) j) (fun j => g158c.2 76 (by decide) j)) (And.intro ((g158c.2 76 (by decide) x75_3).trans zk) ((g158c.2 72 (by decide) x75_3).trans zl))
                        have zr : mm_dn h158c = mm_dn h4 := mm_dn_eq (fun j => g158c.2 76 (by decide) j)
                        have zv73 : h158c.2.1 73 p1 = 0 := (g158c.2 73 (by decide) p1).trans z73
                        have zvR := mm_RX_fr zR (mm_lnd_fr g158c (by decide)) (fun j => g158c.2 72 (by decide) j) (fun j => g158c.2 73 (by decide) j) (fun j => g158c.2 76 (by decide) j)
                        refine mm_iconst C (mm_dec dk_X12_towards 93 rfl) ⟨by decide, by decide⟩ ?_
                        have J164 : ∀ (n : Nat) (x164_4 : Int) (bx164_4 : 0 ≤ x164_4 ∧ x164_4 ≤ 4) (h164_ : mH) (i164_ : mm_inv h164_) (f164_ : mm_fr [(66, 18)] [72, 73, 75, 76] h h164_) (w164_0 : ∃ L, mm_dij h164_ p1 L ∧ h164_.2.1 76 x75_3 = 1 ∧ h164_.2.1 72 x75_3 = L) (w164_1 : (mm_dn h66_ : Int) + 1 ≤ (mm_dn h164_ : Int)) (w164_2 : (mm_dn h164_ : Int) ≤ 400) (w164_3 : h164_.2.1 73 p1 = 0) (w164_4 : mm_RX h164_ x75_3) (w164_5 : mm_RK h164_ x75_3 x164_4), (4 - x164_4 : Int) < n → mm_W x 0 0 164 [mR 66, mI p1, mI s140_0, mI x75_3, mI x164_4] [] h164_ := by
                          intro n
                          induction n with
                          | zero =>
                            intro x164_4 bx164_4 h164_ i164_ f164_ w164_0 w164_1 w164_2 w164_3 w164_4 w164_5 hm
                            exfalso; omega
                          | succ n ih164 =>
                            intro x164_4 bx164_4 h164_ i164_ f164_ w164_0 w164_1 w164_2 w164_3 w164_4 w164_5 hm164
                            refine mm_iload C (mm_dec dk_X12_towards 95 rfl) rfl ?_
                            refine mm_iconst C (mm_dec dk_X12_towards 96 rfl) ⟨by decide, by decide⟩ ?_
                            refine mm_icmp_ge (tgt := 183) C (mm_dec dk_X12_towards 97 rfl) (by decide) (fun c167 => ?_) (fun c167 => ?_)
                            · skip
                              refine mm_goto (tgt := 66) C (mm_dec dk_X12_towards 104 rfl) (by decide) ?_
                              refine mm_fgt 3 ?_
                              refine mm_fgt 4 ?_
                              exact ih66 s140_0 ⟨by omega, by omega⟩ h164_ i164_ f164_ (by first | (obtain ⟨L, q, _, _⟩ := w164_0; exact ⟨L, q⟩) | exact w66_0 | (rw [eh3, eh2, eh1]; exact ⟨0, mm_dij_init w2_0 (by omega) ⟨by omega, by omega⟩⟩)) (by exact mm_dn_le _) (by first | exact w164_3 | exact w66_2 | exact ((fun _ => ((mm_sm_pf 73 eh3 _).trans ((mm_sm_pa 73 eh2 (by decide) _).trans (mm_sm_pa 73 eh1 (by decide) _)))) p1).trans (w2_0 p1 (by omega) (by omega)).2.1) (by first | exact mm_RX_done w164_4 w164_5 (by omega) | exact w66_3 | exact fun n n0 n1 d => absurd (((fun _ => ((mm_sm_pf 76 eh3 _).trans ((mm_sm_pa 76 eh2 (by decide) _).trans (mm_sm_pa 76 eh1 (by decide) _)))) n).symm.trans d) (by rw [(w2_0 n n0 (by omega)).2.2]; decide)) (by first | exact fun q => absurd q (by omega) | exact fun _ j a b c => w75_0.2 (by omega) j a (by omega) c) (by omega)
                            · skip
                              refine mm_aload_n C (mm_dec dk_X12_towards 98 rfl) rfl ?_
                              refine mm_iload_n C (mm_dec dk_X12_towards 99 rfl) rfl ?_
                              refine mm_iload C (mm_dec dk_X12_towards 100 rfl) rfl ?_
                              obtain ⟨zL, zd, z1, z2⟩ := w164_0
                              have zm := (zd.2.2.1 x75_3 (by omega) (by omega) z1).2
                              refine mm_cVv (rest := []) C1 ev_X12_268 (mm_dec dk_X12_towards 101 rfl) (c_X12_comes_q x.2.1 hl (d - 1) (by omega) h164_ i164_ x75_3 x164_4 ⟨by omega, by omega⟩ ⟨by omega, by omega⟩ (by omega)) rfl rfl (Nat.le_of_ble_eq_true rfl) ⟨by decide, by decide⟩ rfl (fun h174c hp174 => ?_) (fun _ _ q => q.elim)
                              obtain ⟨i174c, g174c, y174_0, y174_1, y174_2⟩ := hp174
                              have f174c : mm_fr [(66, 18)] [72, 73, 75, 76] h h174c := mm_fr_tr f164_ g174c (by decide +kernel)
                              have zy := mm_dij_come i164_ zd ⟨by omega, by omega⟩ z1 z2 g174c y174_0
                              have zw := zy.2.2.2
                              refine mm_iincL (ls2 := [mR 66, mI p1, mI s140_0, mI x75_3, mI (x164_4 + 1)]) C (mm_dec dk_X12_towards 102 rfl) rfl (by decide) ⟨by omega, by omega⟩ rfl ?_
                              refine mm_goto (tgt := 164) C (mm_dec dk_X12_towards 103 rfl) (by decide) ?_
                              exact ih164 (x164_4 + 1) ⟨by omega, by omega⟩ h174c i174c f174c (by first | exact ⟨_, zy.1, zy.2.1, zy.2.2.1⟩ | exact ⟨_, zq⟩) (by omega) (by exact mm_dn_le _) (by first | exact mm_come_t i164_ zd ⟨by omega, by omega⟩ y174_0 w164_3 | exact zv73) (by first | exact mm_RX_come i164_ zd ⟨by omega, by omega⟩ z1 z2 g174c y174_0 y174_1 w164_4 | exact zvR) (by first | exact mm_RK_come g174c y174_0 y174_1 w164_5 y174_2 | exact mm_RK_0) (by omega)
                        refine mm_istoreL (ls2 := [mR 66, mI p1, mI s140_0, mI x75_3, mI 0]) C (mm_dec dk_X12_towards 94 rfl) (by decide) rfl ?_
                        exact J164 (((4 - 0) : Int) + 1).toNat 0 ⟨by omega, by omega⟩ h158c i158c f158c (by first | exact ⟨_, zy.1, zy.2.1, zy.2.2.1⟩ | exact ⟨_, zq⟩) (by omega) (by exact mm_dn_le _) (by first | exact mm_come_t i164_ zd ⟨by omega, by omega⟩ y174_0 w164_3 | exact zv73) (by first | exact mm_RX_come i164_ zd ⟨by omega, by omega⟩ z1 z2 g174c y174_0 y174_1 w164_4 | exact zvR) (by first | exact mm_RK_come g174c y174_0 y174_1 w164_5 y174_2 | exact mm_RK_0) (by omega)
                      · skip
                        refine mm_goto (tgt := 66) C (mm_dec dk_X12_towards 83 rfl) (by decide) ?_
                        refine mm_fgt 3 ?_
                        exact ih66 s140_0 ⟨by omega, by omega⟩ h66_ i66_ f66_ (by first | (obtain ⟨L, q, _, _⟩ := w164_0; exact ⟨L, q⟩) | exact w66_0 | (rw [eh3, eh2, eh1]; exact ⟨0, mm_dij_init w2_0 (by omega) ⟨by omega, by omega⟩⟩)) (by exact mm_dn_le _) (by first | exact w164_3 | exact w66_2 | exact ((fun _ => ((mm_sm_pf 73 eh3 _).trans ((mm_sm_pa 73 eh2 (by decide) _).trans (mm_sm_pa 73 eh1 (by decide) _)))) p1).trans (w2_0 p1 (by omega) (by omega)).2.1) (by first | exact mm_RX_done w164_4 w164_5 (by omega) | exact w66_3 | exact fun n n0 n1 d => absurd (((fun _ => ((mm_sm_pf 76 eh3 _).trans ((mm_sm_pa 76 eh2 (by decide) _).trans (mm_sm_pa 76 eh1 (by decide) _)))) n).symm.trans d) (by rw [(w2_0 n n0 (by omega)).2.2]; decide)) (by first | exact fun q => absurd q (by omega) | exact fun _ j a b c => w75_0.2 (by omega) j a (by omega) c) (by omega)
                    refine mm_icmp_eq (tgt := 139) C (mm_dec dk_X12_towards 76 rfl) (by decide) (fun c132 => ?_) (fun c132 => ?_)
                    · skip
                      refine mm_iconst C (mm_dec dk_X12_towards 79 rfl) ⟨by decide, by decide⟩ ?_
                      refine mm_fgt 4 ?_
                      exact J140 0 ⟨by omega, by omega⟩ (Or.inl ⟨by omega, rfl⟩)
                    · skip
                      refine mm_iconst C (mm_dec dk_X12_towards 77 rfl) ⟨by decide, by decide⟩ ?_
                      refine mm_goto (tgt := 140) C (mm_dec dk_X12_towards 78 rfl) (by decide) ?_
                      refine mm_fgt 4 ?_
                      exact J140 1 ⟨by omega, by omega⟩ (Or.inr (⟨by omega, rfl⟩))
                  · skip
                    refine mm_aload_n C (mm_dec dk_X12_towards 51 rfl) rfl ?_
                    refine mm_getr (t := 76) C fl_X12_39 (mm_dec dk_X12_towards 52 rfl) rfl rfl (mm_ref i66_ rfl) ?_
                    refine mm_iload C (mm_dec dk_X12_towards 53 rfl) rfl ?_
                    refine mm_zald C (mm_dec dk_X12_towards 54 rfl) rfl (by omega) (by omega) ?_
                    have g3 : 0 ≤ (h66_.2.1 76 x75_4) ∧ (h66_.2.1 76 x75_4) ≤ 1 := i66_.2.1 76 x75_4
                    have J124 : ∀ (x124_3 : Int) (bx124_3 : -1 ≤ x124_3 ∧ x124_3 ≤ 399) (w124_0 : mm_bst h66_ x124_3 (x75_4 + 1)), mm_W x 0 0 124 [mR 66, mI p1, mU, mI x124_3, mI x75_4] [] h66_ := by
                      intro x124_3 bx124_3 w124_0
                      refine mm_iincL (ls2 := [mR 66, mI p1, mU, mI x124_3, mI (x75_4 + 1)]) C (mm_dec dk_X12_towards 72 rfl) rfl (by decide) ⟨by omega, by omega⟩ rfl ?_
                      refine mm_goto (tgt := 75) C (mm_dec dk_X12_towards 73 rfl) (by decide) ?_
                      exact ih75 x124_3 ⟨by omega, by omega⟩ (x75_4 + 1) ⟨by omega, by omega⟩ (by first | exact mm_bst_nil | exact w124_0) (by omega)
                    refine mm_if_ne (tgt := 124) C (mm_dec dk_X12_towards 55 rfl) (by decide) (fun c90 => ?_) (fun c90 => ?_)
                    · skip
                      exact J124 x75_3 ⟨by omega, by omega⟩ (by first | exact mm_bst_new w75_0 (by omega) (by omega) (by omega) (by omega) | exact mm_bst_old w75_0 (by omega))
                    · skip
                      refine mm_aload_n C (mm_dec dk_X12_towards 56 rfl) rfl ?_
                      refine mm_getr (t := 72) C fl_X12_26 (mm_dec dk_X12_towards 57 rfl) rfl rfl (mm_ref i66_ rfl) ?_
                      refine mm_iload C (mm_dec dk_X12_towards 58 rfl) rfl ?_
                      refine mm_iald C (mm_dec dk_X12_towards 59 rfl) rfl (by omega) (by omega) ?_
                      have g4 : 0 ≤ (h66_.2.1 72 x75_4) ∧ (h66_.2.1 72 x75_4) ≤ 1000000000 := i66_.2.1 72 x75_4
                      refine mm_ldcw (z := 1000000000) C (mm_dec dk_X12_towards 60 rfl) kc_X12_258 (by decide) ?_
                      refine mm_icmp_ge (tgt := 124) C (mm_dec dk_X12_towards 61 rfl) (by decide) (fun c103 => ?_) (fun c103 => ?_)
                      · skip
                        exact J124 x75_3 ⟨by omega, by omega⟩ (by first | exact mm_bst_new w75_0 (by omega) (by omega) (by omega) (by omega) | exact mm_bst_old w75_0 (by omega))
                      · skip
                        refine mm_iload_n C (mm_dec dk_X12_towards 62 rfl) rfl ?_
                        refine mm_iconst C (mm_dec dk_X12_towards 63 rfl) ⟨by decide, by decide⟩ ?_
                        have J121 : ∀ (w121_0 : x75_3 = -1 ∨ h66_.2.1 72 x75_4 ≤ h66_.2.1 72 x75_3), mm_W x 0 0 121 [mR 66, mI p1, mU, mU, mI x75_4] [] h66_ := by
                          intro w121_0
                          refine mm_iload C (mm_dec dk_X12_towards 70 rfl) rfl ?_
                          refine mm_istore_nL (ls2 := [mR 66, mI p1, mU, mI x75_4, mI x75_4]) C (mm_dec dk_X12_towards 71 rfl) (by decide) rfl ?_
                          exact J124 x75_4 ⟨by omega, by omega⟩ (by first | exact mm_bst_new w75_0 (by omega) (by omega) (by omega) (by omega) | exact mm_bst_old w75_0 (by omega))
                        refine mm_icmp_eq (tgt := 121) C (mm_dec dk_X12_towards 64 rfl) (by decide) (fun c108 => ?_) (fun c108 => ?_)
                        · skip
                          refine mm_fgt 3 ?_
                          exact J121 (by omega)
                        · skip
                          refine mm_aload_n C (mm_dec dk_X12_towards 65 rfl) rfl ?_
                          refine mm_iload C (mm_dec dk_X12_towards 66 rfl) rfl ?_
                          refine mm_iload_n C (mm_dec dk_X12_towards 67 rfl) rfl ?_
                          refine mm_cVi (rest := []) C1 ev_X12_262 (mm_dec dk_X12_towards 68 rfl) (c_X12_isLess x.2.1 hl (d - 1) (by omega) h66_ i66_ x75_4 x75_3 ⟨by omega, by omega⟩ ⟨by omega, by omega⟩) rfl rfl (Nat.le_of_ble_eq_true rfl) ⟨by decide, by decide⟩ rfl (fun r115 h115c hp115 => ?_) (fun _ _ q => q.elim)
                          obtain ⟨z115, y115⟩ := hp115
                          rw [z115]
                          have g6 : 0 ≤ (h66_.2.1 72 x75_3) ∧ (h66_.2.1 72 x75_3) ≤ 1000000000 := i66_.2.1 72 x75_3
                          have g7 : 0 ≤ (h66_.2.1 73 x75_3) ∧ (h66_.2.1 73 x75_3) ≤ 400 := i66_.2.1 73 x75_3
                          have g8 : 0 ≤ (h66_.2.1 73 x75_4) ∧ (h66_.2.1 73 x75_4) ≤ 400 := i66_.2.1 73 x75_4
                          refine mm_if_eq (tgt := 124) C (mm_dec dk_X12_towards 69 rfl) (by decide) (fun c118 => ?_) (fun c118 => ?_)
                          · skip
                            exact J124 x75_3 ⟨by omega, by omega⟩ (by first | exact mm_bst_new w75_0 (by omega) (by omega) (by omega) (by omega) | exact mm_bst_old w75_0 (by omega))
                          · skip
                            refine mm_fgt 3 ?_
                            exact J121 (by omega)
              refine mm_istoreL (ls2 := [mR 66, mI p1, mI x66_2, mI (-1), mI 0]) C (mm_dec dk_X12_towards 47 rfl) (by decide) rfl ?_
              refine mm_fgt 2 ?_
              exact J75 (((400 - 0) : Int) + 1).toNat (-1) ⟨by omega, by omega⟩ 0 ⟨by omega, by omega⟩ (by first | exact mm_bst_nil | exact w124_0) (by omega)
        refine mm_istore_nL (ls2 := [mR 66, mI p1, mI 1, mU, mU]) C (mm_dec dk_X12_towards 41 rfl) (by decide) rfl ?_
        exact J66 (((1 + 2 * (400 - (mm_dn h3 : Int))) : Int) + 1).toNat 1 ⟨by omega, by omega⟩ h3 i3 f3 (by first | (obtain ⟨L, q, _, _⟩ := w164_0; exact ⟨L, q⟩) | exact w66_0 | (rw [eh3, eh2, eh1]; exact ⟨0, mm_dij_init w2_0 (by omega) ⟨by omega, by omega⟩⟩)) (by exact mm_dn_le _) (by first | exact w164_3 | exact w66_2 | exact ((fun _ => ((mm_sm_pf 73 eh3 _).trans ((mm_sm_pa 73 eh2 (by decide) _).trans (mm_sm_pa 73 eh1 (by decide) _)))) p1).trans (w2_0 p1 (by omega) (by omega)).2.1) (by first | exact mm_RX_done w164_4 w164_5 (by omega) | exact w66_3 | exact fun n n0 n1 d => absurd (((fun _ => ((mm_sm_pf 76 eh3 _).trans ((mm_sm_pa 76 eh2 (by decide) _).trans (mm_sm_pa 76 eh1 (by decide) _)))) n).symm.trans d) (by rw [(w2_0 n n0 (by omega)).2.2]; decide)) (by first | exact fun q => absurd q (by omega) | exact fun _ j a b c => w75_0.2 (by omega) j a (by omega) c) (by omega)
      · skip
        refine mm_aload_n C (mm_dec dk_X12_towards 5 rfl) rfl ?_
        refine mm_getr (t := 72) C fl_X12_26 (mm_dec dk_X12_towards 6 rfl) rfl rfl (mm_ref i2_ rfl) ?_
        refine mm_iload_n C (mm_dec dk_X12_towards 7 rfl) rfl ?_
        refine mm_ldcw (z := 1000000000) C (mm_dec dk_X12_towards 8 rfl) kc_X12_258 (by decide) ?_
        refine mm_iast C (mm_dec dk_X12_towards 9 rfl) rfl (by omega) (by omega) ?_
        have i7 : mm_inv (mm_pa h2_ 72 x2_2 1000000000) := mm_inv_pa i2_ (show 0 ≤ 1000000000 ∧ 1000000000 ≤ 1000000000 from ⟨by omega, by omega⟩)
        have f7 : mm_fr [(66, 18)] [72, 73, 75, 76] h (mm_pa h2_ 72 x2_2 1000000000) := mm_fr_pa f2_ (by decide)
        obtain ⟨h7, eh7⟩ : ∃ z, z = mm_pa h2_ 72 x2_2 1000000000 := ⟨_, rfl⟩
        rw [← eh7] at i7 f7 ⊢
        refine mm_aload_n C (mm_dec dk_X12_towards 10 rfl) rfl ?_
        refine mm_getr (t := 73) C fl_X12_29 (mm_dec dk_X12_towards 11 rfl) rfl rfl (mm_ref i7 rfl) ?_
        refine mm_iload_n C (mm_dec dk_X12_towards 12 rfl) rfl ?_
        refine mm_iconst C (mm_dec dk_X12_towards 13 rfl) ⟨by decide, by decide⟩ ?_
        refine mm_iast C (mm_dec dk_X12_towards 14 rfl) rfl (by omega) (by omega) ?_
        have i8 : mm_inv (mm_pa h7 73 x2_2 0) := mm_inv_pa i7 (show 0 ≤ 0 ∧ 0 ≤ 400 from ⟨by omega, by omega⟩)
        have f8 : mm_fr [(66, 18)] [72, 73, 75, 76] h (mm_pa h7 73 x2_2 0) := mm_fr_pa f7 (by decide)
        obtain ⟨h8, eh8⟩ : ∃ z, z = mm_pa h7 73 x2_2 0 := ⟨_, rfl⟩
        rw [← eh8] at i8 f8 ⊢
        refine mm_aload_n C (mm_dec dk_X12_towards 15 rfl) rfl ?_
        refine mm_getr (t := 75) C fl_X12_35 (mm_dec dk_X12_towards 16 rfl) rfl rfl (mm_ref i8 rfl) ?_
        refine mm_iload_n C (mm_dec dk_X12_towards 17 rfl) rfl ?_
        refine mm_lconst (z := 0) C (mm_dec dk_X12_towards 18 rfl) rfl ?_
        refine mm_last C (mm_dec dk_X12_towards 19 rfl) rfl (by omega) (by omega) ?_
        have i9 : mm_inv (mm_pa h8 75 x2_2 0) := mm_inv_pa i8 (show -9223372036854775808 ≤ 0 ∧ 0 ≤ 9223372036854775807 from ⟨by omega, by omega⟩)
        have f9 : mm_fr [(66, 18)] [72, 73, 75, 76] h (mm_pa h8 75 x2_2 0) := mm_fr_pa f8 (by decide)
        obtain ⟨h9, eh9⟩ : ∃ z, z = mm_pa h8 75 x2_2 0 := ⟨_, rfl⟩
        rw [← eh9] at i9 f9 ⊢
        refine mm_aload_n C (mm_dec dk_X12_towards 20 rfl) rfl ?_
        refine mm_getr (t := 76) C fl_X12_39 (mm_dec dk_X12_towards 21 rfl) rfl rfl (mm_ref i9 rfl) ?_
        refine mm_iload_n C (mm_dec dk_X12_towards 22 rfl) rfl ?_
        refine mm_iconst C (mm_dec dk_X12_towards 23 rfl) ⟨by decide, by decide⟩ ?_
        refine mm_zast C (mm_dec dk_X12_towards 24 rfl) rfl (by omega) (by omega) (by omega) ?_
        have i10 : mm_inv (mm_pa h9 76 x2_2 0) := mm_inv_pa i9 (show 0 ≤ 0 ∧ 0 ≤ 1 from ⟨by omega, by omega⟩)
        have f10 : mm_fr [(66, 18)] [72, 73, 75, 76] h (mm_pa h9 76 x2_2 0) := mm_fr_pa f9 (by decide)
        obtain ⟨h10, eh10⟩ : ∃ z, z = mm_pa h9 76 x2_2 0 := ⟨_, rfl⟩
        rw [← eh10] at i10 f10 ⊢
        refine mm_iincL (ls2 := [mR 66, mI p1, mI (x2_2 + 1), mU, mU]) C (mm_dec dk_X12_towards 25 rfl) rfl (by decide) ⟨by omega, by omega⟩ rfl ?_
        refine mm_goto (tgt := 2) C (mm_dec dk_X12_towards 26 rfl) (by decide) ?_
        exact ih2 (x2_2 + 1) ⟨by omega, by omega⟩ h10 i10 f10 (by first | exact mm_ini0_nil | (rw [eh10, eh9, eh8, eh7]; exact mm_ini0_put w2_0)) (by omega)
  refine mm_istore_nL (ls2 := [mR 66, mI p1, mI 0, mU, mU]) C (mm_dec dk_X12_towards 1 rfl) (by decide) rfl ?_
  exact J2 (((400 - 0) : Int) + 1).toNat 0 ⟨by omega, by omega⟩ h i0 f0 (by first | exact mm_ini0_nil | (rw [eh10, eh9, eh8, eh7]; exact mm_ini0_put w2_0)) (by omega)
set_option maxRecDepth 100000 in
set_option maxHeartbeats 4000000 in
theorem c_X10_keepLeast_q (l : Launch) (hl : l.stackTraces = false) (d : Nat) (hd : 4 ≤ d) (h : mH) (i0 : mm_inv h) (p1 : Int) (p2 : Int) (bp1 : 0 ≤ p1 ∧ p1 ≤ 399) (bp2 : 0 ≤ p2 ∧ p2 ≤ 399) : mm_Met l d yX10_keepLeast cX10_keepLeast 6 (some .int) [mR 7, mI p1, mI p2] h (mm_pi fun r h2 => (-2147483648 ≤ r ∧ r ≤ 2147483647) ∧ mm_inv h2 ∧ mm_fr [(7, 7), (7, 8), (7, 9)] [8, 9, 10, 11, 13] h h2 ∧ (∀ d, mm_MS h p2 d → mm_inl h p1 → r = mm_dq (d p1))) mm_nx 0 0 := by
  refine mm_ofW (ls := [mR 7, mI p1, mI p2, mU, mU, mU]) hl (by decide) rfl (Nat.le_of_ble_eq_true rfl) ?_
  intro x hxl C T hnm htb
  subst hxl
  have C1 := mm_OK_le (d' := d - 1 + 1) (by omega) C
  refine mm_rng (fun hr _ => ?_)
  have ap1 : -2147483648 ≤ p1 ∧ p1 < 2147483648 := mm_ok_at hr (i := 1) rfl
  have ap2 : -2147483648 ≤ p2 ∧ p2 < 2147483648 := mm_ok_at hr (i := 2) rfl
  have f0 : mm_fr [(7, 7), (7, 8), (7, 9)] [8, 9, 10, 11, 13] h h := mm_fr_rf
  refine mm_aload_n C (mm_dec dk_X10_keepLeast 0 rfl) rfl ?_
  refine mm_iload_n C (mm_dec dk_X10_keepLeast 1 rfl) rfl ?_
  refine mm_iload_n C (mm_dec dk_X10_keepLeast 2 rfl) rfl ?_
  refine mm_cVv (rest := []) C1 ev_X10_52 (mm_dec dk_X10_keepLeast 3 rfl) (c_X10_measure_q x.2.1 hl (d - 1) (by omega) h i0 p2 p1 ⟨by omega, by omega⟩ ⟨by omega, by omega⟩) rfl rfl (Nat.le_of_ble_eq_true rfl) ⟨by decide, by decide⟩ rfl (fun h3c hp3 => ?_) (fun _ _ q => q.elim)
  obtain ⟨i3c, g3c, y3_0⟩ := hp3
  have f3c : mm_fr [(7, 7), (7, 8), (7, 9)] [8, 9, 10, 11, 13] h h3c := mm_fr_tr f0 g3c (by decide +kernel)
  refine mm_aload_n C (mm_dec dk_X10_keepLeast 4 rfl) rfl ?_
  refine mm_getr (t := 8) C fl_X10_9 (mm_dec dk_X10_keepLeast 5 rfl) rfl rfl (mm_ref i3c rfl) ?_
  refine mm_iload_n C (mm_dec dk_X10_keepLeast 6 rfl) rfl ?_
  refine mm_iald C (mm_dec dk_X10_keepLeast 7 rfl) rfl (by omega) (by omega) ?_
  have g2 : -2147483648 ≤ (h3c.2.1 8 p1) ∧ (h3c.2.1 8 p1) ≤ 2147483647 := i3c.2.1 8 p1
  refine mm_ldc (z := 2000000000) C (mm_dec dk_X10_keepLeast 8 rfl) kc_X10_56 (by decide) ?_
  refine mm_icmp_ne (tgt := 19) C (mm_dec dk_X10_keepLeast 9 rfl) (by decide) (fun c14 => ?_) (fun c14 => ?_)
  · skip
    refine mm_iload_n C (mm_dec dk_X10_keepLeast 12 rfl) rfl ?_
    refine mm_istore_nL (ls2 := [mR 7, mI p1, mI p2, mI p1, mU, mU]) C (mm_dec dk_X10_keepLeast 13 rfl) (by decide) rfl ?_
    refine mm_iconst C (mm_dec dk_X10_keepLeast 14 rfl) ⟨by decide, by decide⟩ ?_
    have J24 : ∀ (n : Nat) (x24_3 : Int) (bx24_3 : 0 ≤ x24_3 ∧ x24_3 ≤ 399) (x24_4 : Int) (bx24_4 : 0 ≤ x24_4 ∧ x24_4 ≤ 400) (h24_ : mH) (i24_ : mm_inv h24_) (f24_ : mm_fr [(7, 7), (7, 8), (7, 9)] [8, 9, 10, 11, 13] h h24_) (w24_0 : h24_.2.1 8 p1 = h3c.2.1 8 p1), (400 - x24_4 : Int) < n → mm_W x 0 0 24 [mR 7, mI p1, mI p2, mI x24_3, mI x24_4, mU] [] h24_ := by
      intro n
      induction n with
      | zero =>
        intro x24_3 bx24_3 x24_4 bx24_4 h24_ i24_ f24_ w24_0 hm
        exfalso; omega
      | succ n ih24 =>
        intro x24_3 bx24_3 x24_4 bx24_4 h24_ i24_ f24_ w24_0 hm24
        refine mm_iload C (mm_dec dk_X10_keepLeast 16 rfl) rfl ?_
        refine mm_sipush C (mm_dec dk_X10_keepLeast 17 rfl) ⟨by decide, by decide⟩ ?_
        have J79 : ∀ (w79_0 : h24_.2.1 8 p1 = h3c.2.1 8 p1), mm_W x 0 0 79 [mR 7, mI p1, mU, mU, mI x24_4, mU] [] h24_ := by
          intro w79_0
          refine mm_aload_n C (mm_dec dk_X10_keepLeast 43 rfl) rfl ?_
          refine mm_iload C (mm_dec dk_X10_keepLeast 44 rfl) rfl ?_
          refine mm_puti C fl_X10_38 (mm_dec dk_X10_keepLeast 45 rfl) rfl rfl rfl (Or.inl ⟨rfl, rfl⟩) ?_
          have i2 : mm_inv (mm_pf h24_ 7 9 x24_4) := mm_inv_pf i24_ (show -1 ≤ x24_4 ∧ x24_4 ≤ 400 from ⟨by omega, by omega⟩) (by decide)
          have f2 : mm_fr [(7, 7), (7, 8), (7, 9)] [8, 9, 10, 11, 13] h (mm_pf h24_ 7 9 x24_4) := mm_fr_pf f24_ (by decide)
          obtain ⟨h2, eh2⟩ : ∃ z, z = mm_pf h24_ 7 9 x24_4 := ⟨_, rfl⟩
          rw [← eh2] at i2 f2 ⊢
          have qh2 : h2.1 7 9 = x24_4 := by rw [eh2]; exact mm_pf_same _ _ _ _
          have qh2_3 : h2.2.1 8 p1 = h24_.2.1 8 p1 := by rw [eh2]; rfl
          refine mm_aload_n C (mm_dec dk_X10_keepLeast 46 rfl) rfl ?_
          refine mm_iload_n C (mm_dec dk_X10_keepLeast 47 rfl) rfl ?_
          refine mm_cVi (rest := []) C1 ev_X10_67 (mm_dec dk_X10_keepLeast 48 rfl) (c_X10_secondsFrom x.2.1 hl (d - 1) (by omega) h2 i2 p1 ⟨by omega, by omega⟩) rfl rfl (Nat.le_of_ble_eq_true rfl) ⟨by decide, by decide⟩ rfl (fun r87 h87c hp87 => ?_) (fun _ _ q => q.elim)
          obtain ⟨z87, y87⟩ := hp87
          rw [z87]
          have g5 : -2147483648 ≤ (h2.2.1 8 p1) ∧ (h2.2.1 8 p1) ≤ 2147483647 := i2.2.1 8 p1
          have g6 : -2147483648 ≤ (mm_w (Int.tdiv (h2.2.1 8 p1) 512)) ∧ (mm_w (Int.tdiv (h2.2.1 8 p1) 512)) < 2147483648 := mm_w_rg _
          exact mm_iret C T (mm_dec dk_X10_keepLeast 49 rfl) (by decide : 0 ≤ 0) (by decide : 0 ≤ 0) ⟨_, rfl, ⟨⟨by omega, by omega⟩, i2, f2, by first | exact fun d M v => mm_dq_1 (y3_0 d M v) (by omega) | exact fun d M v => mm_dq_2 ((show h2.2.1 8 p1 = h3c.2.1 8 p1 by omega).trans (y3_0 d M v)) (by omega)⟩⟩
        refine mm_icmp_ge (tgt := 79) C (mm_dec dk_X10_keepLeast 18 rfl) (by decide) (fun c29 => ?_) (fun c29 => ?_)
        · skip
          refine mm_fgt 2 ?_
          refine mm_fgt 3 ?_
          exact J79 (by omega)
        · skip
          refine mm_iload_n C (mm_dec dk_X10_keepLeast 19 rfl) rfl ?_
          refine mm_iload_n C (mm_dec dk_X10_keepLeast 20 rfl) rfl ?_
          refine mm_icmp_eq (tgt := 79) C (mm_dec dk_X10_keepLeast 21 rfl) (by decide) (fun c34 => ?_) (fun c34 => ?_)
          · skip
            refine mm_fgt 2 ?_
            refine mm_fgt 3 ?_
            exact J79 (by omega)
          · skip
            refine mm_aload_n C (mm_dec dk_X10_keepLeast 22 rfl) rfl ?_
            refine mm_iload_n C (mm_dec dk_X10_keepLeast 23 rfl) rfl ?_
            refine mm_cVi (rest := []) C1 ev_X10_57 (mm_dec dk_X10_keepLeast 24 rfl) (c_X10_firstLeastMove x.2.1 hl (d - 1) (by omega) h24_ i24_ x24_3 ⟨by omega, by omega⟩) rfl rfl (Nat.le_of_ble_eq_true rfl) ⟨by decide, by decide⟩ rfl (fun r39 h39c hp39 => ?_) (fun _ _ q => q.elim)
            obtain ⟨b39, z39, y39_0⟩ := hp39
            rw [z39]
            refine mm_istoreL (ls2 := [mR 7, mI p1, mI p2, mI x24_3, mI x24_4, mI r39]) C (mm_dec dk_X10_keepLeast 25 rfl) (by decide) rfl ?_
            refine mm_iload C (mm_dec dk_X10_keepLeast 26 rfl) rfl ?_
            refine mm_iconst C (mm_dec dk_X10_keepLeast 27 rfl) ⟨by decide, by decide⟩ ?_
            refine mm_icmp_ne (tgt := 53) C (mm_dec dk_X10_keepLeast 28 rfl) (by decide) (fun c47 => ?_) (fun c47 => ?_)
            · skip
              refine mm_aload_n C (mm_dec dk_X10_keepLeast 30 rfl) rfl ?_
              refine mm_getr (t := 13) C fl_X10_28 (mm_dec dk_X10_keepLeast 31 rfl) rfl rfl (mm_ref i24_ rfl) ?_
              refine mm_iload C (mm_dec dk_X10_keepLeast 32 rfl) rfl ?_
              refine mm_iload C (mm_dec dk_X10_keepLeast 33 rfl) rfl ?_
              refine mm_iast C (mm_dec dk_X10_keepLeast 34 rfl) rfl (by omega) (by omega) ?_
              have i3 : mm_inv (mm_pa h24_ 13 x24_4 r39) := mm_inv_pa i24_ (show -2147483648 ≤ r39 ∧ r39 ≤ 2147483647 from ⟨by omega, by omega⟩)
              have f3 : mm_fr [(7, 7), (7, 8), (7, 9)] [8, 9, 10, 11, 13] h (mm_pa h24_ 13 x24_4 r39) := mm_fr_pa f24_ (by decide)
              obtain ⟨h3, eh3⟩ : ∃ z, z = mm_pa h24_ 13 x24_4 r39 := ⟨_, rfl⟩
              rw [← eh3] at i3 f3 ⊢
              have qh3_8 : h3.2.1 8 p1 = h24_.2.1 8 p1 := by rw [eh3]; exact mm_pa_ne _ _ (fun q => absurd q.1 (by decide))
              refine mm_iincL (ls2 := [mR 7, mI p1, mI p2, mI x24_3, mI (x24_4 + 1), mI r39]) C (mm_dec dk_X10_keepLeast 35 rfl) rfl (by decide) ⟨by omega, by omega⟩ rfl ?_
              refine mm_aload_n C (mm_dec dk_X10_keepLeast 36 rfl) rfl ?_
              refine mm_getr (t := 1) C fl_X10_48 (mm_dec dk_X10_keepLeast 37 rfl) rfl rfl (mm_ref i3 rfl) ?_
              refine mm_iload_n C (mm_dec dk_X10_keepLeast 38 rfl) rfl ?_
              refine mm_iload C (mm_dec dk_X10_keepLeast 39 rfl) rfl ?_
              refine mm_cVi (rest := []) C1 ev_X10_61 (mm_dec dk_X10_keepLeast 40 rfl) (c_X5_beside x.2.1 hl (d - 1) (by omega) h3 i3 x24_3 r39 ⟨by omega, by omega⟩) rfl rfl (Nat.le_of_ble_eq_true rfl) ⟨by decide, by decide⟩ rfl (fun r72 h72c hp72 => ?_) (fun _ _ q => q.elim)
              obtain ⟨b72, z72, y72_0⟩ := hp72
              rw [z72]
              have zz : mm_bes h3 x24_3 r39 = mm_bes h24_ x24_3 r39 := by rw [eh3]; exact mm_bes_fr rfl rfl (fun _ => mm_pa_ne _ _ (fun q => absurd q.1 (by decide))) (fun _ => mm_pa_ne _ _ (fun q => absurd q.1 (by decide)))
              refine mm_istore_nL (ls2 := [mR 7, mI p1, mI p2, mI r72, mI (x24_4 + 1), mI r39]) C (mm_dec dk_X10_keepLeast 41 rfl) (by decide) rfl ?_
              refine mm_goto (tgt := 24) C (mm_dec dk_X10_keepLeast 42 rfl) (by decide) ?_
              refine mm_fgt 5 ?_
              exact ih24 r72 ⟨by omega, by omega⟩ (x24_4 + 1) ⟨by omega, by omega⟩ h3 i3 f3 (by omega) (by omega)
            · skip
              refine mm_goto (tgt := 79) C (mm_dec dk_X10_keepLeast 29 rfl) (by decide) ?_
              refine mm_fgt 2 ?_
              refine mm_fgt 3 ?_
              refine mm_fgt 5 ?_
              exact J79 (by omega)
    refine mm_istoreL (ls2 := [mR 7, mI p1, mI p2, mI p1, mI 0, mU]) C (mm_dec dk_X10_keepLeast 15 rfl) (by decide) rfl ?_
    exact J24 (((400 - 0) : Int) + 1).toNat p1 ⟨by omega, by omega⟩ 0 ⟨by omega, by omega⟩ h3c i3c f3c (by omega) (by omega)
  · skip
    refine mm_iconst C (mm_dec dk_X10_keepLeast 10 rfl) ⟨by decide, by decide⟩ ?_
    exact mm_iret C T (mm_dec dk_X10_keepLeast 11 rfl) (by decide : 0 ≤ 0) (by decide : 0 ≤ 0) ⟨_, rfl, ⟨⟨by omega, by omega⟩, i3c, f3c, by first | exact fun d M v => mm_dq_1 (y3_0 d M v) (by omega) | exact fun d M v => mm_dq_2 ((show h3c.2.1 8 p1 = h3c.2.1 8 p1 by omega).trans (y3_0 d M v)) (by omega)⟩⟩
set_option maxRecDepth 100000 in
set_option maxHeartbeats 4000000 in
theorem c_X11_way_q (l : Launch) (hl : l.stackTraces = false) (d : Nat) (hd : 9 ≤ d) (h : mH) (i0 : mm_inv h) (p1 : Int) (p2 : Int) (p3 : Int) (p4 : Int) : mm_Met l d yX11_way cX11_way 7 (some .int) [mR 0, mI p1, mI p2, mI p3, mI p4] h (mm_pi fun r h2 => (-2147483648 ≤ r ∧ r ≤ 2147483647) ∧ mm_inv h2 ∧ mm_fr [(7, 7), (7, 8), (7, 9)] [8, 9, 10, 11, 13] h h2 ∧ (0 ≤ p1 ∧ p1 < h.1 1 5 ∧ 0 ≤ p2 ∧ p2 < h.1 1 6) ∧ (0 ≤ p3 ∧ p3 < h.1 1 5 ∧ 0 ≤ p4 ∧ p4 < h.1 1 6) ∧ (∀ d, mm_MS h (20 * p4 + p3) d → r = mm_dq (d (20 * p2 + p1)))) (fun E h' => mm_xn h E h' ∧ ((p1 < 0 ∨ h.1 1 5 ≤ p1 ∨ p2 < 0 ∨ h.1 1 6 ≤ p2) ∨ (p3 < 0 ∨ h.1 1 5 ≤ p3 ∨ p4 < 0 ∨ h.1 1 6 ≤ p4))) 2 12 := by
  refine mm_ofW (ls := [mR 0, mI p1, mI p2, mI p3, mI p4, mU, mU]) hl (by decide) rfl (Nat.le_of_ble_eq_true rfl) ?_
  intro x hxl C T hnm htb
  subst hxl
  have C1 := mm_OK_le (d' := d - 1 + 1) (by omega) C
  have C8 := mm_OK_le (d' := d - 8 + 8) (by omega) C
  refine mm_rng (fun hr _ => ?_)
  have ap1 : -2147483648 ≤ p1 ∧ p1 < 2147483648 := mm_ok_at hr (i := 1) rfl
  have ap2 : -2147483648 ≤ p2 ∧ p2 < 2147483648 := mm_ok_at hr (i := 2) rfl
  have ap3 : -2147483648 ≤ p3 ∧ p3 < 2147483648 := mm_ok_at hr (i := 3) rfl
  have ap4 : -2147483648 ≤ p4 ∧ p4 < 2147483648 := mm_ok_at hr (i := 4) rfl
  have f0 : mm_fr [(7, 7), (7, 8), (7, 9)] [8, 9, 10, 11, 13] h h := mm_fr_rf
  have zw : h.1 1 5 ≤ 20 := (i0.1 1 5).2
  refine mm_aload_n C (mm_dec dk_X11_way 0 rfl) rfl ?_
  refine mm_iload_n C (mm_dec dk_X11_way 1 rfl) rfl ?_
  refine mm_iload_n C (mm_dec dk_X11_way 2 rfl) rfl ?_
  refine mm_cVi (rest := []) C1 ev_X11_122 (mm_dec dk_X11_way 3 rfl) (c_X11_needCell_q x.2.1 hl (d - 1) (by omega) h i0 p1 p2) rfl rfl (Nat.le_of_ble_eq_true rfl) ⟨by decide, by decide⟩ rfl (fun r3 h3c hp3 => ?_) (fun E hx q => mm_out C T htb (by decide) (by decide) (by obtain ⟨q1, q2⟩ := q; exact ⟨q1, by omega⟩))
  obtain ⟨z3, k3_0, k3_1, k3_2, k3_3, k3_4, y3⟩ := hp3
  rw [z3, y3]
  have g2 : 1 ≤ (h.1 1 5) ∧ (h.1 1 5) ≤ 20 := i0.1 1 5
  have g3 : 1 ≤ (h.1 1 6) ∧ (h.1 1 6) ≤ 20 := i0.1 1 6
  refine mm_istoreL (ls2 := [mR 0, mI p1, mI p2, mI p3, mI p4, mI ((p2 * 20) + p1), mU]) C (mm_dec dk_X11_way 4 rfl) (by decide) rfl ?_
  refine mm_aload_n C (mm_dec dk_X11_way 5 rfl) rfl ?_
  refine mm_iload_n C (mm_dec dk_X11_way 6 rfl) rfl ?_
  refine mm_iload C (mm_dec dk_X11_way 7 rfl) rfl ?_
  refine mm_cVi (rest := []) C1 ev_X11_122 (mm_dec dk_X11_way 8 rfl) (c_X11_needCell_q x.2.1 hl (d - 1) (by omega) h i0 p3 p4) rfl rfl (Nat.le_of_ble_eq_true rfl) ⟨by decide, by decide⟩ rfl (fun r12 h12c hp12 => ?_) (fun E hx q => mm_out C T htb (by decide) (by decide) (by obtain ⟨q1, q2⟩ := q; exact ⟨q1, by omega⟩))
  obtain ⟨z12, k12_0, k12_1, k12_2, k12_3, k12_4, y12⟩ := hp12
  rw [z12, y12]
  refine mm_istoreL (ls2 := [mR 0, mI p1, mI p2, mI p3, mI p4, mI ((p2 * 20) + p1), mI ((p4 * 20) + p3)]) C (mm_dec dk_X11_way 9 rfl) (by decide) rfl ?_
  refine mm_aload_n C (mm_dec dk_X11_way 10 rfl) rfl ?_
  refine mm_getr (t := 7) C fl_X11_21 (mm_dec dk_X11_way 11 rfl) rfl rfl (mm_ref i0 rfl) ?_
  refine mm_iload C (mm_dec dk_X11_way 12 rfl) rfl ?_
  refine mm_iload C (mm_dec dk_X11_way 13 rfl) rfl ?_
  refine mm_cVi (rest := []) C1 ev_X11_172 (mm_dec dk_X11_way 14 rfl) (c_X10_keepLeast_q x.2.1 hl (d - 1) (by omega) h i0 ((p2 * 20) + p1) ((p4 * 20) + p3) ⟨by omega, by omega⟩ ⟨by omega, by omega⟩) rfl rfl (Nat.le_of_ble_eq_true rfl) ⟨by decide, by decide⟩ rfl (fun r25 h25c hp25 => ?_) (fun _ _ q => q.elim)
  obtain ⟨b25, i25c, g25c, y25_0⟩ := hp25
  have f25c : mm_fr [(7, 7), (7, 8), (7, 9)] [8, 9, 10, 11, 13] h h25c := mm_fr_tr f0 g25c (by decide +kernel)
  have q25c_6 : h25c.1 1 5 = h.1 1 5 := g25c.1 1 5 (by decide)
  have q25c_7 : h25c.1 1 6 = h.1 1 6 := g25c.1 1 6 (by decide)
  exact mm_iret C T (mm_dec dk_X11_way 15 rfl) (by decide : 2 ≤ 2) (by decide : 12 ≤ 12) ⟨_, rfl, ⟨⟨by omega, by omega⟩, i25c, f25c, by omega, by omega, by exact mm_way_x y25_0 (by omega) (by omega) ⟨by omega, by omega, by omega⟩⟩⟩
set_option maxRecDepth 100000 in
set_option maxHeartbeats 4000000 in
theorem c_X12_way_q (l : Launch) (hl : l.stackTraces = false) (d : Nat) (hd : 3 ≤ d) (h : mH) (i0 : mm_inv h) (p1 : Int) (p2 : Int) (p3 : Int) (p4 : Int) : mm_Met l d yX12_way cX12_way 9 (some .int) [mR 66, mI p1, mI p2, mI p3, mI p4] h (mm_pi fun r h2 => (-1 ≤ r ∧ r ≤ 1000000000) ∧ mm_inv h2 ∧ mm_fr [(66, 0), (66, 18), (66, 19)] [72, 73, 75, 76, 77] h h2 ∧ (((0 ≤ p1 ∧ p1 < h.1 66 1 ∧ 0 ≤ p2 ∧ p2 < h.1 66 2) ∧ (0 ≤ p3 ∧ p3 < h.1 66 1 ∧ 0 ≤ p4 ∧ p4 < h.1 66 2) ∧ h2.1 66 0 = 0) ∨ (((p1 < 0 ∨ h.1 66 1 ≤ p1 ∨ p2 < 0 ∨ h.1 66 2 ≤ p2) ∨ (p3 < 0 ∨ h.1 66 1 ≤ p3 ∨ p4 < 0 ∨ h.1 66 2 ≤ p4)) ∧ h2.1 66 0 = 1 ∧ r = 0)) ∧ (h2.1 66 0 = 0 → ∃ hT : mH, mm_inv hT ∧ mm_lnd h hT ∧ mm_FT hT (20 * p4 + p3) ∧ r = mm_ry hT (20 * p2 + p1))) mm_nx 0 0 := by
  refine mm_ofW (ls := [mR 66, mI p1, mI p2, mI p3, mI p4, mU, mU, mU, mU]) hl (by decide) rfl (Nat.le_of_ble_eq_true rfl) ?_
  intro x hxl C T hnm htb
  subst hxl
  have C1 := mm_OK_le (d' := d - 1 + 1) (by omega) C
  refine mm_rng (fun hr _ => ?_)
  have ap1 : -2147483648 ≤ p1 ∧ p1 < 2147483648 := mm_ok_at hr (i := 1) rfl
  have ap2 : -2147483648 ≤ p2 ∧ p2 < 2147483648 := mm_ok_at hr (i := 2) rfl
  have ap3 : -2147483648 ≤ p3 ∧ p3 < 2147483648 := mm_ok_at hr (i := 3) rfl
  have ap4 : -2147483648 ≤ p4 ∧ p4 < 2147483648 := mm_ok_at hr (i := 4) rfl
  have f0 : mm_fr [(66, 0), (66, 18), (66, 19)] [72, 73, 75, 76, 77] h h := mm_fr_rf
  have g1 : -1 ≤ h.1 66 19 ∧ h.1 66 19 ≤ 400 := i0.1 66 19
  have g2 : 1 ≤ h.1 66 1 ∧ h.1 66 1 ≤ 20 := i0.1 66 1
  have g3 : 1 ≤ h.1 66 2 ∧ h.1 66 2 ≤ 20 := i0.1 66 2
  have g4 : -2147483648 ≤ h.1 66 0 ∧ h.1 66 0 ≤ 2147483647 := i0.1 66 0
  refine mm_aload_n C (mm_dec dk_X12_way 0 rfl) rfl ?_
  refine mm_iload_n C (mm_dec dk_X12_way 1 rfl) rfl ?_
  refine mm_iload_n C (mm_dec dk_X12_way 2 rfl) rfl ?_
  refine mm_cVi (rest := []) C1 ev_X12_255 (mm_dec dk_X12_way 3 rfl) (c_X12_isCell_q x.2.1 hl (d - 1) (by omega) h i0 p1 p2) rfl rfl (Nat.le_of_ble_eq_true rfl) ⟨by decide, by decide⟩ rfl (fun r3 h3c hp3 => ?_) (fun _ _ q => q.elim)
  obtain ⟨b3, i3c, g3c, y3_0, y3_1⟩ := hp3
  have f3c : mm_fr [(66, 0), (66, 18), (66, 19)] [72, 73, 75, 76, 77] h h3c := mm_fr_tr f0 g3c (by decide +kernel)
  have q3c_6 : h3c.1 66 1 = h.1 66 1 := g3c.1 66 1 (by decide)
  have q3c_7 : h3c.1 66 2 = h.1 66 2 := g3c.1 66 2 (by decide)
  have q3c_8 : h3c.1 66 19 = h.1 66 19 := g3c.1 66 19 (by decide)
  have g9 : -2147483648 ≤ (h3c.1 66 0) ∧ (h3c.1 66 0) ≤ 2147483647 := i3c.1 66 0
  have J19 : ∀ (h19_ : mH) (i19_ : mm_inv h19_) (f19_ : mm_fr [(66, 0), (66, 18), (66, 19)] [72, 73, 75, 76, 77] h h19_) (w19_0 : (((p1 < 0 ∨ h.1 66 1 ≤ p1 ∨ p2 < 0 ∨ h.1 66 2 ≤ p2) ∨ (p3 < 0 ∨ h.1 66 1 ≤ p3 ∨ p4 < 0 ∨ h.1 66 2 ≤ p4)) ∧ h19_.1 66 0 = 1)), mm_W x 0 0 19 [mU, mU, mU, mU, mU, mU, mU, mU, mU] [] h19_ := by
    intro h19_ i19_ f19_ w19_0
    have g10 : -1 ≤ h19_.1 66 19 ∧ h19_.1 66 19 ≤ 400 := i19_.1 66 19
    have g11 : 1 ≤ h19_.1 66 1 ∧ h19_.1 66 1 ≤ 20 := i19_.1 66 1
    have g12 : 1 ≤ h19_.1 66 2 ∧ h19_.1 66 2 ≤ 20 := i19_.1 66 2
    have g13 : -2147483648 ≤ h19_.1 66 0 ∧ h19_.1 66 0 ≤ 2147483647 := i19_.1 66 0
    have g14 : h19_.1 66 1 = h.1 66 1 := f19_.1 66 1 (by decide)
    have g15 : h19_.1 66 2 = h.1 66 2 := f19_.1 66 2 (by decide)
    refine mm_iconst C (mm_dec dk_X12_way 10 rfl) ⟨by decide, by decide⟩ ?_
    exact mm_iret C T (mm_dec dk_X12_way 11 rfl) (by decide : 0 ≤ 0) (by decide : 0 ≤ 0) ⟨_, rfl, ⟨⟨by omega, by omega⟩, i19_, f19_, by omega, by first | exact fun q => absurd q (by omega) | exact fun _ => ⟨h41c, i41c, zT, y41_0, mm_ry_1 (by omega)⟩ | exact fun _ => ⟨h41c, i41c, zT, y41_0, mm_ry_2 (by omega) (by omega)⟩⟩⟩
  refine mm_if_eq (tgt := 19) C (mm_dec dk_X12_way 4 rfl) (by decide) (fun c6 => ?_) (fun c6 => ?_)
  · skip
    refine mm_fgt 0 ?_
    refine mm_fgt 1 ?_
    refine mm_fgt 2 ?_
    refine mm_fgt 3 ?_
    refine mm_fgt 4 ?_
    exact J19 h3c i3c f3c (by omega)
  · skip
    refine mm_aload_n C (mm_dec dk_X12_way 5 rfl) rfl ?_
    refine mm_iload_n C (mm_dec dk_X12_way 6 rfl) rfl ?_
    refine mm_iload C (mm_dec dk_X12_way 7 rfl) rfl ?_
    refine mm_cVi (rest := []) C1 ev_X12_247 (mm_dec dk_X12_way 8 rfl) (c_X12_inside_q x.2.1 hl (d - 1) (by omega) h3c i3c p3 p4) rfl rfl (Nat.le_of_ble_eq_true rfl) ⟨by decide, by decide⟩ rfl (fun r13 h13c hp13 => ?_) (fun _ _ q => q.elim)
    obtain ⟨b13, i13c, g13c, y13_0, y13_1⟩ := hp13
    have f13c : mm_fr [(66, 0), (66, 18), (66, 19)] [72, 73, 75, 76, 77] h h13c := mm_fr_tr f3c g13c (by decide +kernel)
    have q13c_17 : h13c.1 66 1 = h3c.1 66 1 := g13c.1 66 1 (by decide)
    have q13c_18 : h13c.1 66 2 = h3c.1 66 2 := g13c.1 66 2 (by decide)
    have q13c_19 : h13c.1 66 19 = h3c.1 66 19 := g13c.1 66 19 (by decide)
    have g20 : -2147483648 ≤ (h13c.1 66 0) ∧ (h13c.1 66 0) ≤ 2147483647 := i13c.1 66 0
    refine mm_if_ne (tgt := 21) C (mm_dec dk_X12_way 9 rfl) (by decide) (fun c16 => ?_) (fun c16 => ?_)
    · skip
      refine mm_bipush C (mm_dec dk_X12_way 12 rfl) ⟨by decide, by decide⟩ ?_
      refine mm_iload C (mm_dec dk_X12_way 13 rfl) rfl ?_
      refine mm_imul C (mm_dec dk_X12_way 14 rfl) ⟨by omega, by omega⟩ ?_
      refine mm_iload_n C (mm_dec dk_X12_way 15 rfl) rfl ?_
      refine mm_iadd C (mm_dec dk_X12_way 16 rfl) ⟨by omega, by omega⟩ ?_
      refine mm_istoreL (ls2 := [mR 66, mI p1, mI p2, mI p3, mI p4, mI ((20 * p4) + p3), mU, mU, mU]) C (mm_dec dk_X12_way 17 rfl) (by decide) rfl ?_
      refine mm_bipush C (mm_dec dk_X12_way 18 rfl) ⟨by decide, by decide⟩ ?_
      refine mm_iload_n C (mm_dec dk_X12_way 19 rfl) rfl ?_
      refine mm_imul C (mm_dec dk_X12_way 20 rfl) ⟨by omega, by omega⟩ ?_
      refine mm_iload_n C (mm_dec dk_X12_way 21 rfl) rfl ?_
      refine mm_iadd C (mm_dec dk_X12_way 22 rfl) ⟨by omega, by omega⟩ ?_
      refine mm_istoreL (ls2 := [mR 66, mI p1, mI p2, mI p3, mI p4, mI ((20 * p4) + p3), mI ((20 * p2) + p1), mU, mU]) C (mm_dec dk_X12_way 23 rfl) (by decide) rfl ?_
      refine mm_aload_n C (mm_dec dk_X12_way 24 rfl) rfl ?_
      refine mm_iload C (mm_dec dk_X12_way 25 rfl) rfl ?_
      refine mm_cVv (rest := []) C1 ev_X12_280 (mm_dec dk_X12_way 26 rfl) (c_X12_towards_q x.2.1 hl (d - 1) (by omega) h13c i13c ((20 * p4) + p3) ⟨by omega, by omega⟩) rfl rfl (Nat.le_of_ble_eq_true rfl) ⟨by decide, by decide⟩ rfl (fun h41c hp41 => ?_) (fun _ _ q => q.elim)
      obtain ⟨i41c, g41c, y41_0⟩ := hp41
      have f41c : mm_fr [(66, 0), (66, 18), (66, 19)] [72, 73, 75, 76, 77] h h41c := mm_fr_tr f13c g41c (by decide +kernel)
      have q41c_22 : h41c.1 66 0 = h13c.1 66 0 := g41c.1 66 0 (by decide)
      have q41c_23 : h41c.1 66 1 = h13c.1 66 1 := g41c.1 66 1 (by decide)
      have q41c_24 : h41c.1 66 2 = h13c.1 66 2 := g41c.1 66 2 (by decide)
      have q41c_25 : h41c.1 66 19 = h13c.1 66 19 := g41c.1 66 19 (by decide)
      have zT : mm_lnd h h41c := mm_lnd_fr f41c (by decide)
      have zo : h41c.1 66 0 = 0 := by omega
      refine mm_aload_n C (mm_dec dk_X12_way 27 rfl) rfl ?_
      refine mm_getr (t := 72) C fl_X12_26 (mm_dec dk_X12_way 28 rfl) rfl rfl (mm_ref i41c rfl) ?_
      refine mm_iload C (mm_dec dk_X12_way 29 rfl) rfl ?_
      refine mm_iald C (mm_dec dk_X12_way 30 rfl) rfl (by omega) (by omega) ?_
      have g26 : 0 ≤ (h41c.2.1 72 ((20 * p2) + p1)) ∧ (h41c.2.1 72 ((20 * p2) + p1)) ≤ 1000000000 := i41c.2.1 72 ((20 * p2) + p1)
      refine mm_ldcw (z := 1000000000) C (mm_dec dk_X12_way 31 rfl) kc_X12_258 (by decide) ?_
      refine mm_icmp_ne (tgt := 59) C (mm_dec dk_X12_way 32 rfl) (by decide) (fun c54 => ?_) (fun c54 => ?_)
      · skip
        refine mm_aload_n C (mm_dec dk_X12_way 35 rfl) rfl ?_
        refine mm_iconst C (mm_dec dk_X12_way 36 rfl) ⟨by decide, by decide⟩ ?_
        refine mm_puti C fl_X12_213 (mm_dec dk_X12_way 37 rfl) rfl rfl rfl (Or.inl ⟨rfl, rfl⟩) ?_
        have i4 : mm_inv (mm_pf h41c 66 19 0) := mm_inv_pf i41c (show -1 ≤ 0 ∧ 0 ≤ 400 from ⟨by omega, by omega⟩) (by decide)
        have f4 : mm_fr [(66, 0), (66, 18), (66, 19)] [72, 73, 75, 76, 77] h (mm_pf h41c 66 19 0) := mm_fr_pf f41c (by decide)
        obtain ⟨h4, eh4⟩ : ∃ z, z = mm_pf h41c 66 19 0 := ⟨_, rfl⟩
        rw [← eh4] at i4 f4 ⊢
        have qh4 : h4.1 66 19 = 0 := by rw [eh4]; exact mm_pf_same _ _ _ _
        have qh4_27 : h4.1 66 0 = h41c.1 66 0 := by rw [eh4]; exact mm_pf_ne _ _ (by decide)
        have qh4_28 : h4.1 66 1 = h41c.1 66 1 := by rw [eh4]; exact mm_pf_ne _ _ (by decide)
        have qh4_29 : h4.1 66 2 = h41c.1 66 2 := by rw [eh4]; exact mm_pf_ne _ _ (by decide)
        have zi : h4.2.1 72 ((20 * p2) + p1) = h41c.2.1 72 ((20 * p2) + p1) := by rw [eh4]; rfl
        have zj : (0 : Int) ≤ h4.2.1 73 ((20 * p2) + p1) ∧ h4.2.1 73 ((20 * p2) + p1) ≤ 400 := i4.2.1 73 _
        refine mm_iload C (mm_dec dk_X12_way 38 rfl) rfl ?_
        have J68 : ∀ (n : Nat) (x68_7 : Int) (bx68_7 : 0 ≤ x68_7 ∧ x68_7 ≤ 399) (h68_ : mH) (i68_ : mm_inv h68_) (f68_ : mm_fr [(66, 0), (66, 18), (66, 19)] [72, 73, 75, 76, 77] h h68_) (w68_0 : ∃ L, mm_dij h68_ ((20 * p4) + p3) L) (w68_1 : h68_.2.1 72 x68_7 < 1000000000) (w68_2 : h68_.1 66 19 + h68_.2.1 73 x68_7 ≤ 400) (w68_3 : 0 ≤ h68_.2.1 73 x68_7) (w68_4 : 0 ≤ h68_.1 66 19) (w68_5 : h68_.2.1 72 ((20 * p2) + p1) = h41c.2.1 72 ((20 * p2) + p1)) (w68_6 : h68_.1 66 0 = 0), (h68_.2.1 73 x68_7 : Int) < n → mm_W x 0 0 68 [mR 66, mU, mU, mU, mU, mI ((20 * p4) + p3), mI ((20 * p2) + p1), mI x68_7, mU] [] h68_ := by
          intro n
          induction n with
          | zero =>
            intro x68_7 bx68_7 h68_ i68_ f68_ w68_0 w68_1 w68_2 w68_3 w68_4 w68_5 w68_6 hm
            have g30 : -1 ≤ h68_.1 66 19 ∧ h68_.1 66 19 ≤ 400 := i68_.1 66 19
            have g31 : 1 ≤ h68_.1 66 1 ∧ h68_.1 66 1 ≤ 20 := i68_.1 66 1
            have g32 : 1 ≤ h68_.1 66 2 ∧ h68_.1 66 2 ≤ 20 := i68_.1 66 2
            have g33 : -2147483648 ≤ h68_.1 66 0 ∧ h68_.1 66 0 ≤ 2147483647 := i68_.1 66 0
            exfalso; omega
          | succ n ih68 =>
            intro x68_7 bx68_7 h68_ i68_ f68_ w68_0 w68_1 w68_2 w68_3 w68_4 w68_5 w68_6 hm68
            have g34 : -1 ≤ h68_.1 66 19 ∧ h68_.1 66 19 ≤ 400 := i68_.1 66 19
            have g35 : 1 ≤ h68_.1 66 1 ∧ h68_.1 66 1 ≤ 20 := i68_.1 66 1
            have g36 : 1 ≤ h68_.1 66 2 ∧ h68_.1 66 2 ≤ 20 := i68_.1 66 2
            have g37 : -2147483648 ≤ h68_.1 66 0 ∧ h68_.1 66 0 ≤ 2147483647 := i68_.1 66 0
            have g38 : h68_.1 66 1 = h.1 66 1 := f68_.1 66 1 (by decide)
            have g39 : h68_.1 66 2 = h.1 66 2 := f68_.1 66 2 (by decide)
            refine mm_iload C (mm_dec dk_X12_way 40 rfl) rfl ?_
            refine mm_iload C (mm_dec dk_X12_way 41 rfl) rfl ?_
            refine mm_icmp_eq (tgt := 117) C (mm_dec dk_X12_way 42 rfl) (by decide) (fun c72 => ?_) (fun c72 => ?_)
            · skip
              refine mm_aload_n C (mm_dec dk_X12_way 65 rfl) rfl ?_
              refine mm_getr (t := 72) C fl_X12_26 (mm_dec dk_X12_way 66 rfl) rfl rfl (mm_ref i68_ rfl) ?_
              refine mm_iload C (mm_dec dk_X12_way 67 rfl) rfl ?_
              refine mm_iald C (mm_dec dk_X12_way 68 rfl) rfl (by omega) (by omega) ?_
              have g40 : 0 ≤ (h68_.2.1 72 ((20 * p2) + p1)) ∧ (h68_.2.1 72 ((20 * p2) + p1)) ≤ 1000000000 := i68_.2.1 72 ((20 * p2) + p1)
              exact mm_iret C T (mm_dec dk_X12_way 69 rfl) (by decide : 0 ≤ 0) (by decide : 0 ≤ 0) ⟨_, rfl, ⟨⟨by omega, by omega⟩, i68_, f68_, by omega, by first | exact fun q => absurd q (by omega) | exact fun _ => ⟨h41c, i41c, zT, y41_0, mm_ry_1 (by omega)⟩ | exact fun _ => ⟨h41c, i41c, zT, y41_0, mm_ry_2 (by omega) (by omega)⟩⟩⟩
            · skip
              refine mm_aload_n C (mm_dec dk_X12_way 43 rfl) rfl ?_
              refine mm_iload C (mm_dec dk_X12_way 44 rfl) rfl ?_
              refine mm_cVi (rest := []) C1 ev_X12_284 (mm_dec dk_X12_way 45 rfl) (c_X12_firstMove_x x.2.1 hl (d - 1) (by omega) h68_ i68_ x68_7 ⟨by omega, by omega⟩) rfl rfl (Nat.le_of_ble_eq_true rfl) ⟨by decide, by decide⟩ rfl (fun r78 h78c hp78 => ?_) (fun _ _ q => q.elim)
              obtain ⟨b78, z78, y78_0⟩ := hp78
              rw [z78]
              obtain ⟨zL, zd⟩ := w68_0
              obtain ⟨zr, zf⟩ := mm_fm_ex zd ⟨by omega, by omega⟩ (by omega) (by omega) y78_0
              have za := zf.1
              have zb := zf.2.1
              have zc := zf.2.2
              have zs := mm_sec_pos i68_ rfl za
              have zg : (0 : Int) ≤ h68_.2.1 73 (mm_lea h68_ x68_7 r78) ∧ h68_.2.1 73 (mm_lea h68_ x68_7 r78) ≤ 400 := i68_.2.1 73 _
              have zh : (0 : Int) ≤ h68_.2.1 72 (mm_lea h68_ x68_7 r78) ∧ h68_.2.1 72 (mm_lea h68_ x68_7 r78) ≤ 1000000000 := i68_.2.1 72 _
              refine mm_istoreL (ls2 := [mR 66, mU, mU, mU, mU, mI ((20 * p4) + p3), mI ((20 * p2) + p1), mI x68_7, mI r78]) C (mm_dec dk_X12_way 46 rfl) (by decide) rfl ?_
              refine mm_aload_n C (mm_dec dk_X12_way 47 rfl) rfl ?_
              refine mm_getr (t := 77) C fl_X12_42 (mm_dec dk_X12_way 48 rfl) rfl rfl (mm_ref i68_ rfl) ?_
              refine mm_aload_n C (mm_dec dk_X12_way 49 rfl) rfl ?_
              refine mm_geti C fl_X12_213 (mm_dec dk_X12_way 50 rfl) rfl rfl (Or.inl rfl) ?_
              refine mm_iload C (mm_dec dk_X12_way 51 rfl) rfl ?_
              refine mm_iast C (mm_dec dk_X12_way 52 rfl) rfl (by omega) (by omega) ?_
              have i5 : mm_inv (mm_pa h68_ 77 (h68_.1 66 19) r78) := mm_inv_pa i68_ (show -2147483648 ≤ r78 ∧ r78 ≤ 2147483647 from ⟨by omega, by omega⟩)
              have f5 : mm_fr [(66, 0), (66, 18), (66, 19)] [72, 73, 75, 76, 77] h (mm_pa h68_ 77 (h68_.1 66 19) r78) := mm_fr_pa f68_ (by decide)
              obtain ⟨h5, eh5⟩ : ∃ z, z = mm_pa h68_ 77 (h68_.1 66 19) r78 := ⟨_, rfl⟩
              rw [← eh5] at i5 f5 ⊢
              have qh5_42 : h5.1 66 0 = h68_.1 66 0 := by rw [eh5]; rfl
              have qh5_43 : h5.1 66 1 = h68_.1 66 1 := by rw [eh5]; rfl
              have qh5_44 : h5.1 66 2 = h68_.1 66 2 := by rw [eh5]; rfl
              have qh5_45 : h5.1 66 19 = h68_.1 66 19 := by rw [eh5]; rfl
              refine mm_aload_n C (mm_dec dk_X12_way 53 rfl) rfl ?_
              refine mm_dup C (mm_dec dk_X12_way 54 rfl) (show (2 : Nat) ≠ 1 by decide) ?_
              refine mm_geti C fl_X12_213 (mm_dec dk_X12_way 55 rfl) rfl rfl (Or.inl rfl) ?_
              refine mm_iconst C (mm_dec dk_X12_way 56 rfl) ⟨by decide, by decide⟩ ?_
              refine mm_iadd C (mm_dec dk_X12_way 57 rfl) ⟨by omega, by omega⟩ ?_
              refine mm_puti C fl_X12_213 (mm_dec dk_X12_way 58 rfl) rfl rfl rfl (Or.inl ⟨rfl, rfl⟩) ?_
              have i6 : mm_inv (mm_pf h5 66 19 ((h5.1 66 19) + 1)) := mm_inv_pf i5 (show -1 ≤ ((h5.1 66 19) + 1) ∧ ((h5.1 66 19) + 1) ≤ 400 from ⟨by omega, by omega⟩) (by decide)
              have f6 : mm_fr [(66, 0), (66, 18), (66, 19)] [72, 73, 75, 76, 77] h (mm_pf h5 66 19 ((h5.1 66 19) + 1)) := mm_fr_pf f5 (by decide)
              obtain ⟨h6, eh6⟩ : ∃ z, z = mm_pf h5 66 19 ((h5.1 66 19) + 1) := ⟨_, rfl⟩
              rw [← eh6] at i6 f6 ⊢
              have qh6 : h6.1 66 19 = ((h5.1 66 19) + 1) := by rw [eh6]; exact mm_pf_same _ _ _ _
              have qh6_46 : h6.1 66 0 = h5.1 66 0 := by rw [eh6]; exact mm_pf_ne _ _ (by decide)
              have qh6_47 : h6.1 66 1 = h5.1 66 1 := by rw [eh6]; exact mm_pf_ne _ _ (by decide)
              have qh6_48 : h6.1 66 2 = h5.1 66 2 := by rw [eh6]; exact mm_pf_ne _ _ (by decide)
              have zlnd : mm_lnd h68_ h6 := by rw [eh6, eh5]; exact mm_lnd_kept
              refine mm_aload_n C (mm_dec dk_X12_way 59 rfl) rfl ?_
              refine mm_iload C (mm_dec dk_X12_way 60 rfl) rfl ?_
              refine mm_iload C (mm_dec dk_X12_way 61 rfl) rfl ?_
              refine mm_cVi (rest := []) C1 ev_X12_271 (mm_dec dk_X12_way 62 rfl) (c_X12_leads_x x.2.1 hl (d - 1) (by omega) h6 i6 x68_7 r78 ⟨by omega, by omega⟩) rfl rfl (Nat.le_of_ble_eq_true rfl) ⟨by decide, by decide⟩ rfl (fun r109 h109c hp109 => ?_) (fun _ _ q => q.elim)
              obtain ⟨b109, z109, y109_0⟩ := hp109
              rw [z109]
              have zr9 : r109 = mm_lea h68_ x68_7 r78 := by rw [y109_0]; exact mm_lea_fr zlnd _ _
              rw [← zr9] at za zb zc zs zg zh
              have zv : h6.2.1 72 r109 = h68_.2.1 72 r109 := by rw [eh6, eh5]; exact mm_arr_kept 72 (by decide) _
              have zu : h6.2.1 73 r109 = h68_.2.1 73 r109 := by rw [eh6, eh5]; exact mm_arr_kept 73 (by decide) _
              have zt : mm_dij h6 ((20 * p4) + p3) zL := by rw [eh6, eh5]; exact mm_dij_fr zd mm_lnd_kept (mm_arr_kept 72 (by decide)) (mm_arr_kept 73 (by decide)) (mm_arr_kept 76 (by decide))
              have ze : h6.2.1 72 ((20 * p2) + p1) = h68_.2.1 72 ((20 * p2) + p1) := by rw [eh6, eh5]; exact mm_arr_kept 72 (by decide) _
              refine mm_istoreL (ls2 := [mR 66, mU, mU, mU, mU, mI ((20 * p4) + p3), mI ((20 * p2) + p1), mI r109, mI r78]) C (mm_dec dk_X12_way 63 rfl) (by decide) rfl ?_
              refine mm_goto (tgt := 68) C (mm_dec dk_X12_way 64 rfl) (by decide) ?_
              refine mm_fgt 8 ?_
              exact ih68 r109 ⟨by omega, by omega⟩ h6 i6 f6 (by first | exact ⟨_, zt⟩ | (obtain ⟨L, q⟩ := y41_0.1; exact ⟨L, by rw [eh6]; exact mm_dij_fr q ⟨mm_pf_ne _ _ (by decide), mm_pf_ne _ _ (by decide), mm_pf_ne _ _ (by decide), fun _ => rfl, fun _ => rfl, fun _ => rfl, fun _ => rfl, fun _ => rfl⟩ (fun _ => rfl) (fun _ => rfl) (fun _ => rfl)⟩)) (by omega) (by omega) (by omega) (by omega) (by omega) (by omega) (by omega)
        refine mm_istoreL (ls2 := [mR 66, mI p1, mI p2, mI p3, mI p4, mI ((20 * p4) + p3), mI ((20 * p2) + p1), mI ((20 * p2) + p1), mU]) C (mm_dec dk_X12_way 39 rfl) (by decide) rfl ?_
        refine mm_fgt 1 ?_
        refine mm_fgt 2 ?_
        refine mm_fgt 3 ?_
        refine mm_fgt 4 ?_
        exact J68 (((h4.2.1 73 ((20 * p2) + p1)) : Int) + 1).toNat ((20 * p2) + p1) ⟨by omega, by omega⟩ h4 i4 f4 (by first | exact ⟨_, zt⟩ | (obtain ⟨L, q⟩ := y41_0.1; exact ⟨L, by rw [eh4]; exact mm_dij_fr q ⟨mm_pf_ne _ _ (by decide), mm_pf_ne _ _ (by decide), mm_pf_ne _ _ (by decide), fun _ => rfl, fun _ => rfl, fun _ => rfl, fun _ => rfl, fun _ => rfl⟩ (fun _ => rfl) (fun _ => rfl) (fun _ => rfl)⟩)) (by omega) (by omega) (by omega) (by omega) (by omega) (by omega) (by omega)
      · skip
        refine mm_iconst C (mm_dec dk_X12_way 33 rfl) ⟨by decide, by decide⟩ ?_
        exact mm_iret C T (mm_dec dk_X12_way 34 rfl) (by decide : 0 ≤ 0) (by decide : 0 ≤ 0) ⟨_, rfl, ⟨⟨by omega, by omega⟩, i41c, f41c, by omega, by first | exact fun q => absurd q (by omega) | exact fun _ => ⟨h41c, i41c, zT, y41_0, mm_ry_1 (by omega)⟩ | exact fun _ => ⟨h41c, i41c, zT, y41_0, mm_ry_2 (by omega) (by omega)⟩⟩⟩
    · skip
      refine mm_fgt 0 ?_
      refine mm_fgt 1 ?_
      refine mm_fgt 2 ?_
      refine mm_fgt 3 ?_
      refine mm_fgt 4 ?_
      exact J19 h13c i13c f13c (by omega)
