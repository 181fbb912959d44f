/-! ===== the reference's draw: a next one is always there ===== -/
def mm_sum (f : Int → Int) : Nat → Int
  | 0 => 0
  | n + 1 => mm_sum f n + f (n : Int)
theorem mm_sum_nn {f : Int → Int} : ∀ n : Nat, (∀ c : Int, 0 ≤ c → c < n → 0 ≤ f c) → 0 ≤ mm_sum f n
  | 0, _ => Int.le_refl _
  | n + 1, h => by
    have h1 := mm_sum_nn n (fun c a b => h c a (by omega))
    have h2 := h (n : Int) (by omega) (by omega)
    unfold mm_sum
    omega
theorem mm_sum_one {f : Int → Int} (a : Int) (ha : 0 ≤ a) : ∀ n : Nat, (∀ c : Int, 0 ≤ c → c < n → 0 ≤ f c) → a < n → f a ≤ mm_sum f n
  | 0, _, z => absurd z (by omega)
  | n + 1, h, z => by
    unfold mm_sum
    by_cases q : a = n
    · have h1 := mm_sum_nn n (fun c x y => h c x (by omega))
      rw [q]
      omega
    · have h1 := mm_sum_one a ha n (fun c x y => h c x (by omega)) (by omega)
      have h2 := h (n : Int) (by omega) (by omega)
      omega
theorem mm_sum_two {f : Int → Int} (a b : Int) (ha : 0 ≤ a) (hb : 0 ≤ b) (hab : a ≠ b) : ∀ n : Nat, (∀ c : Int, 0 ≤ c → c < n → 0 ≤ f c) → a < n → b < n → f a + f b ≤ mm_sum f n
  | 0, _, z, _ => absurd z (by omega)
  | n + 1, h, z, w => by
    unfold mm_sum
    by_cases q : a = n
    · have h1 := mm_sum_one b hb n (fun c x y => h c x (by omega)) (by omega)
      rw [q]
      omega
    · by_cases q2 : b = n
      · have h1 := mm_sum_one a ha n (fun c x y => h c x (by omega)) (by omega)
        rw [q2]
        omega
      · have h1 := mm_sum_two a b ha hb hab n (fun c x y => h c x (by omega)) (by omega) (by omega)
        have h2 := h (n : Int) (by omega) (by omega)
        omega
theorem mm_sum_only {f : Int → Int} (last : Int) : ∀ n : Nat, (∀ c : Int, 0 ≤ c → c < n → c ≠ last → f c ≤ 0) → mm_sum f n ≤ (if 0 ≤ last ∧ last < n then f last else 0)
  | 0, _ => by rw [if_neg (by omega)]; exact Int.le_refl _
  | n + 1, h => by
    have h1 := mm_sum_only last n (fun c x y z => h c x (by omega) z)
    unfold mm_sum
    by_cases q : last = n
    · rw [if_neg (by omega)] at h1
      rw [if_pos (by omega), q]
      omega
    · have h2 := h (n : Int) (by omega) (by omega) (fun z => q z.symm)
      by_cases w : 0 ≤ last ∧ last < n
      · rw [if_pos w] at h1
        rw [if_pos (by omega)]
        omega
      · rw [if_neg w] at h1
        rw [if_neg (by omega)]
        omega
theorem mm_sum_upd {f g : Int → Int} {c0 d : Int} (h0 : 0 ≤ c0) (hg : ∀ c, g c = if c = c0 then f c + d else f c) : ∀ n : Nat, mm_sum g n = mm_sum f n + (if c0 < n then d else 0)
  | 0 => by rw [if_neg (by omega)]; rfl
  | n + 1 => by
    have h1 := mm_sum_upd h0 hg n
    unfold mm_sum
    rw [h1, hg]
    by_cases q : (n : Int) = c0
    · rw [if_pos q, if_neg (by omega), if_pos (by omega)]; omega
    · rw [if_neg q]
      by_cases w : c0 < n
      · rw [if_pos w, if_pos (by omega)]; omega
      · rw [if_neg w, if_neg (by omega)]; omega
theorem mm_pick {l : Int → Int} {last m : Int} (h0 : ∀ c, 0 ≤ c → c < 10 → 0 ≤ l c) (hs : mm_sum l 10 = m) (hf : ∀ c, 0 ≤ c → c < 10 → l c ≤ (if c = last then m / 2 else (m + 1) / 2)) (hm : 1 ≤ m) : ∃ c, 0 ≤ c ∧ c < 10 ∧ c ≠ last ∧ 1 ≤ l c ∧ l c - 1 ≤ (m - 1) / 2 ∧ ∀ d, 0 ≤ d → d < 10 → d ≠ c → l d ≤ m / 2 := by
  by_cases q : ∃ d, 0 ≤ d ∧ d < 10 ∧ d ≠ last ∧ m / 2 < l d
  · obtain ⟨d, d0, d1, d2, d3⟩ := q
    have hd := hf d d0 d1
    rw [if_neg d2] at hd
    refine ⟨d, d0, d1, d2, by omega, by omega, fun e e0 e1 e2 => ?_⟩
    have := mm_sum_two (f := l) e d e0 d0 e2 10 h0 e1 d1
    omega
  · have q' : ∀ d, 0 ≤ d → d < 10 → d ≠ last → l d ≤ m / 2 := fun d a b c => Int.not_lt.mp (fun z => q ⟨d, a, b, c, z⟩)
    by_cases w : ∃ c, 0 ≤ c ∧ c < 10 ∧ c ≠ last ∧ 1 ≤ l c
    · obtain ⟨c, c0, c1, c2, c3⟩ := w
      have := q' c c0 c1 c2
      refine ⟨c, c0, c1, c2, c3, by omega, fun d d0 d1 d2 => ?_⟩
      by_cases z : d = last
      · have := hf d d0 d1
        rw [if_pos z] at this
        exact this
      · exact q' d d0 d1 z
    · exfalso
      have h1 := mm_sum_only (f := l) last 10 (fun c a b z => by
        have : ¬ 1 ≤ l c := fun y => w ⟨c, a, b, z, y⟩
        omega)
      by_cases z : 0 ≤ last ∧ last < (10 : Nat)
      · rw [if_pos z] at h1
        have h2 := hf last z.1 (by omega)
        rw [if_pos rfl] at h2
        omega
      · rw [if_neg z] at h1
        omega
/-! who may follow -/
def mm_fo1 (h : mH) (last m n : Int) : Prop := ∀ c, 0 ≤ c → c < n → h.2.1 118 c ≤ (if c = last then m / 2 else (m + 1) / 2)
theorem mm_fo_s {h : mH} {x s last m n : Int} (A : x = 0 ∨ mm_fo1 h last m n) (B : s = 0 ∨ (x ≠ 0 ∧ h.2.1 118 n ≤ (if n = last then m / 2 else (m + 1) / 2))) : s = 0 ∨ mm_fo1 h last m (n + 1) := by
  rcases B with q | ⟨q, w⟩
  · exact Or.inl q
  · refine Or.inr (fun c c0 c1 => ?_)
    by_cases z : c = n
    · rw [z]; exact w
    · exact A.resolve_left q c c0 (by omega)
theorem mm_fo_t {h : mH} {x s last m n : Int} (A : x = 1 ∨ ¬ mm_fo1 h last m 10) (B : s = 1 ∨ x = 0 ∨ (if n = last then m / 2 else (m + 1) / 2) < h.2.1 118 n) (h0 : 0 ≤ n) (h1 : n < 10) : s = 1 ∨ ¬ mm_fo1 h last m 10 := by
  rcases B with q | q | q
  · exact Or.inl q
  · exact Or.inr (A.resolve_left (by omega))
  · exact Or.inr (fun F => by have := F n h0 h1; omega)
theorem mm_fo1_le {h : mH} {last m n n' : Int} (F : mm_fo1 h last m n) (hn : n' ≤ n) : mm_fo1 h last m n' := fun c a b => F c a (by omega)
theorem mm_fo1_eq {h h2 : mH} {last m n : Int} (e : ∀ j, h2.2.1 118 j = h.2.1 118 j) (F : mm_fo1 h last m n) : mm_fo1 h2 last m n := fun c a b => by rw [e]; exact F c a b
def mm_in (h : mH) (n r : Int) : Prop := ∃ k, 0 ≤ k ∧ k < n ∧ h.2.1 117 k = r
def mm_cnd (h : mH) (n c r : Int) : Prop := mm_in h n r ∧ h.2.1 119 r = 0 ∧ h.2.1 86 r = c
noncomputable def mm_qf (h : mH) (n c : Int) : Int → Int := fun r => @ite Int (mm_cnd h n c r) (Classical.propDecidable _) 0 (-1)
theorem mm_qf_1 {h : mH} {n c r : Int} (q : mm_cnd h n c r) : mm_qf h n c r = 0 := by
  unfold mm_qf
  exact @if_pos _ (Classical.propDecidable _) q _ _ _
theorem mm_qf_0 {h : mH} {n c r : Int} (q : ¬ mm_cnd h n c r) : mm_qf h n c r = -1 := by
  unfold mm_qf
  exact @if_neg _ (Classical.propDecidable _) q _ _ _
theorem mm_qf_eq {h h2 : mH} {n n2 c r : Int} (q : mm_cnd h n c r ↔ mm_cnd h2 n2 c r) : mm_qf h n c r = mm_qf h2 n2 c r := by
  by_cases z : mm_cnd h n c r
  · rw [mm_qf_1 z, mm_qf_1 (q.mp z)]
  · rw [mm_qf_0 z, mm_qf_0 (fun w => z (q.mpr w))]
theorem mm_cn_upd {A B : Int → Int} (k : Nat) (hA : A (k : Int) = -1) (hB : B (k : Int) ≠ -1) (he : ∀ j : Int, j ≠ k → A j = B j) : ∀ n : Nat, k < n → mm_cn B n = mm_cn A n + 1
  | 0, z => absurd z (by omega)
  | n + 1, z => by
    unfold mm_cn
    by_cases q : k = n
    · subst q
      rw [if_pos hA, if_neg hB, mm_cn_eq k (fun j a b => he j (by omega))]
    · rw [mm_cn_upd k hA hB he n (by omega), he (n : Int) (by omega)]
      omega
theorem mm_cn_pos {A : Int → Int} : ∀ n : Nat, 1 ≤ mm_cn A n → ∃ j : Nat, j < n ∧ A (j : Int) ≠ -1
  | 0, z => absurd z (by unfold mm_cn; omega)
  | n + 1, z => by
    by_cases q : A (n : Int) = -1
    · unfold mm_cn at z
      rw [if_pos q] at z
      obtain ⟨j, a, b⟩ := mm_cn_pos n z
      exact ⟨j, by omega, b⟩
    · exact ⟨n, by omega, q⟩
def mm_dw (h : mH) (n m : Int) : Prop := (∀ c, 0 ≤ c → c < 10 → h.2.1 118 c = ((mm_cn (mm_qf h n c) 40 : Nat) : Int)) ∧ mm_sum (fun c => h.2.1 118 c) 10 = m
theorem mm_dw_rg {h : mH} {n m : Int} (D : mm_dw h n m) : ∀ c, 0 ≤ c → c < 10 → 0 ≤ h.2.1 118 c ∧ h.2.1 118 c ≤ 40 := by
  intro c a b
  rw [D.1 c a b]
  have := mm_cn_le (mm_qf h n c) 40
  omega
theorem mm_dw_of {h h2 : mH} {n n2 m : Int} (D : mm_dw h n m) (e8 : ∀ c, h2.2.1 118 c = h.2.1 118 c) (hi : ∀ c r, mm_cnd h n c r ↔ mm_cnd h2 n2 c r) : mm_dw h2 n2 m := by
  refine ⟨fun c a b => ?_, ?_⟩
  · rw [e8, D.1 c a b, mm_cn_eq 40 (fun j _ _ => mm_qf_eq (hi c j))]
  · rw [show (fun c => h2.2.1 118 c) = fun c => h.2.1 118 c from funext e8]
    exact D.2
theorem mm_dw_fr {wf : List (Nat × Nat)} {wa : List Nat} {h h2 : mH} {n m : Int} (D : mm_dw h n m) (f : mm_fr wf wa h h2) (hw : 117 ∉ wa ∧ 119 ∉ wa ∧ 86 ∉ wa) (e8 : ∀ c, h2.2.1 118 c = h.2.1 118 c) : mm_dw h2 n m :=
  mm_dw_of D e8 (fun c r => by
    unfold mm_cnd mm_in
    simp only [f.2 117 hw.1, f.2 119 hw.2.1, f.2 86 hw.2.2])
theorem mm_dw_inc {h h2 : mH} {n n2 m r0 c0 : Int} (D : mm_dw h n m) (r1 : 0 ≤ r0) (r2 : r0 < 40) (c1 : 0 ≤ c0) (c2 : c0 < 10) (e8 : ∀ c, h2.2.1 118 c = if c = c0 then h.2.1 118 c + 1 else h.2.1 118 c) (hn : ∀ c, ¬ mm_cnd h n c r0) (hy : mm_cnd h2 n2 c0 r0) (hi : ∀ c r, r ≠ r0 → (mm_cnd h n c r ↔ mm_cnd h2 n2 c r)) : mm_dw h2 n2 (m + 1) := by
  refine ⟨fun c a b => ?_, ?_⟩
  · rw [e8]
    by_cases q : c = c0
    · subst q
      rw [if_pos rfl, D.1 c a b, mm_cn_upd (A := mm_qf h n c) (B := mm_qf h2 n2 c) r0.toNat (by rw [Int.toNat_of_nonneg r1]; exact mm_qf_0 (hn c)) (by rw [Int.toNat_of_nonneg r1, mm_qf_1 hy]; decide) (fun j hj => mm_qf_eq (hi c j (by omega))) 40 (by omega)]
      omega
    · rw [if_neg q, D.1 c a b, mm_cn_eq 40 (fun j _ _ => ?_)]
      by_cases w : j = r0
      · rw [w, mm_qf_0 (hn c), mm_qf_0 (fun z => q (z.2.2.symm.trans hy.2.2))]
      · exact mm_qf_eq (hi c j w)
  · rw [mm_sum_upd c1 e8 10, if_pos (by omega), D.2]
theorem mm_dw_dec {h h2 : mH} {n m r0 c0 : Int} (D : mm_dw h n m) (r1 : 0 ≤ r0) (r2 : r0 < 40) (c1 : 0 ≤ c0) (e8 : ∀ c, h2.2.1 118 c = if c = c0 then h.2.1 118 c + (-1) else h.2.1 118 c) (hy : mm_cnd h n c0 r0) (hn : ∀ c, ¬ mm_cnd h2 n c r0) (hi : ∀ c r, r ≠ r0 → (mm_cnd h n c r ↔ mm_cnd h2 n c r)) (c2 : c0 < 10) : mm_dw h2 n (m - 1) := by
  refine ⟨fun c a b => ?_, ?_⟩
  · rw [e8]
    by_cases q : c = c0
    · subst q
      have := mm_cn_upd (A := mm_qf h2 n c) (B := mm_qf h n c) r0.toNat (by rw [Int.toNat_of_nonneg r1]; exact mm_qf_0 (hn c)) (by rw [Int.toNat_of_nonneg r1, mm_qf_1 hy]; decide) (fun j hj => (mm_qf_eq (hi c j (by omega))).symm) 40 (by omega)
      rw [if_pos rfl, D.1 c a b, this]
      omega
    · rw [if_neg q, D.1 c a b, mm_cn_eq 40 (fun j _ _ => ?_)]
      by_cases w : j = r0
      · rw [w, mm_qf_0 (hn c), mm_qf_0 (fun z => q (z.2.2.symm.trans hy.2.2))]
      · exact mm_qf_eq (hi c j w)
  · rw [mm_sum_upd c1 e8 10, if_pos (by omega), D.2]
    omega
/-! the steps of draw -/
theorem mm_dw_nil {h : mH} (hz : ∀ c, 0 ≤ c → c < 10 → h.2.1 118 c = 0) : mm_dw h 0 0 := by
  have hn : ∀ c r, ¬ mm_cnd h 0 c r := fun c r ⟨⟨k, a, b, _⟩, _⟩ => by omega
  refine ⟨fun c a b => ?_, ?_⟩
  · rw [hz c a b, mm_cn_eq (B := fun _ => -1) 40 (fun j _ _ => mm_qf_0 (hn c j))]
    decide
  · have e : ∀ n : Nat, n ≤ 10 → mm_sum (fun c => h.2.1 118 c) n = 0 := by
      intro n
      induction n with
      | zero => intro _; rfl
      | succ n ih =>
        intro q
        unfold mm_sum
        rw [ih (by omega), hz (n : Int) (by omega) (by omega)]
        rfl
    exact e 10 (by decide)
def mm_lt (h : mH) (n r : Int) : Prop := ∀ k, 0 ≤ k → k < n → h.2.1 117 k < r
theorem mm_dw_clr {h h1 : mH} {n m r : Int} (D : mm_dw h n m) (R : mm_lt h n r) (e : h1 = mm_pa h 119 r 0) : mm_dw h1 n m ∧ mm_lt h1 n r ∧ h1.2.1 119 r = 0 := by
  subst e
  refine ⟨mm_dw_of D (fun c => mm_pa_o 118 119 (by decide) c) (fun c q => ?_), fun k a b => by rw [mm_pa_o 117 119 (by decide)]; exact R k a b, mm_pa_same _ _ _ _⟩
  have e1 : ∀ k, (mm_pa h 119 r 0).2.1 117 k = h.2.1 117 k := fun k => mm_pa_o 117 119 (by decide) k
  have e2 : (mm_pa h 119 r 0).2.1 86 q = h.2.1 86 q := mm_pa_o 86 119 (by decide) q
  unfold mm_cnd mm_in
  simp only [e1, e2]
  constructor
  · rintro ⟨⟨k, a, b, c1⟩, d, e⟩
    have := R k a b
    exact ⟨⟨k, a, b, c1⟩, by rw [mm_pa_j 119 (by omega)]; exact d, e⟩
  · rintro ⟨⟨k, a, b, c1⟩, d, e⟩
    have := R k a b
    rw [mm_pa_j 119 (by omega)] at d
    exact ⟨⟨k, a, b, c1⟩, d, e⟩
theorem mm_dw_add {h h1 h2 : mH} {n m r c0 : Int} (D : mm_dw h n m) (R : mm_lt h n r) (ht : h.2.1 119 r = 0) (hn : 0 ≤ n) (r1 : 0 ≤ r) (r2 : r < 40) (e1 : h1 = mm_pa h 117 n r) (hc : c0 = h.2.1 86 r) (c1 : 0 ≤ c0) (c2 : c0 < 10) (e2 : h2 = mm_pa h1 118 c0 (h.2.1 118 c0 + 1)) : mm_dw h2 (n + 1) (m + 1) ∧ mm_lt h2 (n + 1) (r + 1) := by
  have a7 : ∀ k, h2.2.1 117 k = if k = n then r else h.2.1 117 k := by
    intro k
    rw [e2, mm_pa_o 117 118 (by decide), e1]
    by_cases q : k = n
    · rw [if_pos q, q, mm_pa_same]
    · rw [if_neg q, mm_pa_j 117 q]
  have a9 : ∀ k, h2.2.1 119 k = h.2.1 119 k := fun k => by rw [e2, mm_pa_o 119 118 (by decide), e1, mm_pa_o 119 117 (by decide)]
  have a6 : ∀ k, h2.2.1 86 k = h.2.1 86 k := fun k => by rw [e2, mm_pa_o 86 118 (by decide), e1, mm_pa_o 86 117 (by decide)]
  have a8 : ∀ c, h2.2.1 118 c = if c = c0 then h.2.1 118 c + 1 else h.2.1 118 c := by
    intro c
    rw [e2]
    by_cases q : c = c0
    · rw [if_pos q, q, mm_pa_same]
    · rw [if_neg q, mm_pa_j 118 q, e1, mm_pa_o 118 117 (by decide)]
  refine ⟨mm_dw_inc D r1 r2 c1 c2 a8 (fun c => ?_) ⟨⟨n, hn, by omega, by rw [a7, if_pos rfl]⟩, by rw [a9]; exact ht, by rw [a6]; exact hc.symm⟩ (fun c q hq => ?_), fun k a b => ?_⟩
  · rintro ⟨⟨k, a, b, z⟩, _⟩
    have := R k a b
    omega
  · unfold mm_cnd mm_in
    rw [a9, a6]
    refine ⟨fun ⟨⟨k, a, b, z⟩, w⟩ => ⟨⟨k, a, by omega, by rw [a7, if_neg (by omega)]; exact z⟩, w⟩, fun ⟨⟨k, a, b, z⟩, w⟩ => ?_⟩
    rw [a7] at z
    by_cases y : k = n
    · rw [if_pos y] at z; exact absurd z.symm hq
    · rw [if_neg y] at z; exact ⟨⟨k, a, by omega, z⟩, w⟩
  · rw [a7]
    by_cases q : k = n
    · rw [if_pos q]; omega
    · rw [if_neg q]
      have := R k a (by omega)
      omega
theorem mm_dw_swap {h h1 h2 : mH} {n m i j : Int} (D : mm_dw h n m) (hi : 0 ≤ i ∧ i < n) (hj : 0 ≤ j ∧ j < n) (e1 : h1 = mm_pa h 117 i (h.2.1 117 j)) (e2 : h2 = mm_pa h1 117 j (h.2.1 117 i)) : mm_dw h2 n m := by
  have a7 : ∀ k, h2.2.1 117 k = if k = j then h.2.1 117 i else if k = i then h.2.1 117 j else h.2.1 117 k := by
    intro k
    rw [e2]
    by_cases q : k = j
    · rw [if_pos q, q, mm_pa_same]
    · rw [if_neg q, mm_pa_j 117 q, e1]
      by_cases w : k = i
      · rw [if_pos w, w, mm_pa_same]
      · rw [if_neg w, mm_pa_j 117 w]
  have ao : ∀ o, o ≠ 117 → ∀ k, h2.2.1 o k = h.2.1 o k := fun o ho k => by rw [e2, mm_pa_o o 117 ho, e1, mm_pa_o o 117 ho]
  refine mm_dw_of D (ao 118 (by decide)) (fun c r => ?_)
  unfold mm_cnd
  rw [ao 119 (by decide), ao 86 (by decide)]
  have e : mm_in h n r ↔ mm_in h2 n r := by
    constructor
    · rintro ⟨k, a, b, z⟩
      by_cases q : k = i
      · exact ⟨j, hj.1, hj.2, by rw [a7, if_pos rfl, ← q]; exact z⟩
      · by_cases w : k = j
        · by_cases y : i = j
          · exact absurd (w.trans y.symm) q
          · exact ⟨i, hi.1, hi.2, by rw [a7, if_neg y, if_pos rfl, ← w]; exact z⟩
        · exact ⟨k, a, b, by rw [a7, if_neg w, if_neg q]; exact z⟩
    · rintro ⟨k, a, b, z⟩
      rw [a7] at z
      by_cases w : k = j
      · rw [if_pos w] at z; exact ⟨i, hi.1, hi.2, z⟩
      · rw [if_neg w] at z
        by_cases q : k = i
        · rw [if_pos q] at z; exact ⟨j, hj.1, hj.2, z⟩
        · rw [if_neg q] at z; exact ⟨k, a, b, z⟩
  rw [e]
def mm_nxt (h : mH) (k last m : Int) : Prop := h.2.1 119 (h.2.1 117 k) = 0 ∧ h.2.1 86 (h.2.1 117 k) ≠ last ∧ mm_fo1 (mm_pa h 118 (h.2.1 86 (h.2.1 117 k)) (h.2.1 118 (h.2.1 86 (h.2.1 117 k)) - 1)) (h.2.1 86 (h.2.1 117 k)) (m - 1) 10
theorem mm_ex_next {h : mH} {n m last : Int} (D : mm_dw h n m) (F : mm_fo1 h last m 10) (hm : 1 ≤ m) : ∃ k, 0 ≤ k ∧ k < n ∧ mm_nxt h k last m := by
  obtain ⟨c, c0, c1, c2, c3, c4, c5⟩ := mm_pick (l := fun c => h.2.1 118 c) (fun c a b => (mm_dw_rg D c a b).1) D.2 F hm
  have c3' : 1 ≤ h.2.1 118 c := c3
  rw [D.1 c c0 c1] at c3'
  obtain ⟨j, j1, j2⟩ := mm_cn_pos (A := mm_qf h n c) 40 (by omega)
  have hc : mm_cnd h n c j := Classical.byContradiction (fun q => j2 (mm_qf_0 q))
  obtain ⟨⟨k, a, b, z⟩, w1, w2⟩ := hc
  refine ⟨k, a, b, ?_⟩
  unfold mm_nxt
  rw [z, w2]
  refine ⟨w1, c2, fun d d0 d1 => ?_⟩
  by_cases q : d = c
  · rw [q, mm_pa_same, if_pos rfl]; exact c4
  · rw [mm_pa_j 118 q, if_neg q]
    have := c5 d d0 d1 q
    have e : (m - 1 + 1) / 2 = m / 2 := by omega
    rw [e]
    exact this
theorem mm_nxt_eq {wf : List (Nat × Nat)} {wa : List Nat} {h h2 : mH} {k last m : Int} (N : mm_nxt h k last m) (f : mm_fr wf wa h h2) (hw : 117 ∉ wa ∧ 119 ∉ wa ∧ 86 ∉ wa) (e8 : ∀ c, h2.2.1 118 c = h.2.1 118 c) : mm_nxt h2 k last m := by
  obtain ⟨n1, n2, n3⟩ := N
  unfold mm_nxt
  rw [f.2 117 hw.1, f.2 119 hw.2.1, f.2 86 hw.2.2, e8]
  refine ⟨n1, n2, mm_fo1_eq (fun j => ?_) n3⟩
  by_cases q : j = h.2.1 86 (h.2.1 117 k)
  · rw [q, mm_pa_same, mm_pa_same]
  · rw [mm_pa_j 118 q, mm_pa_j 118 q, e8]
theorem mm_dw_take {h h1 h2 : mH} {n m k last c0 : Int} (i : mm_inv h) (D : mm_dw h n m) (hk : 0 ≤ k ∧ k < n) (N : mm_nxt h k last m) (e1 : h1 = mm_pa h 119 (h.2.1 117 k) 1) (hc : c0 = h.2.1 86 (h.2.1 117 k)) (e2 : h2 = mm_pa h1 118 c0 (h.2.1 118 c0 - 1)) : mm_dw h2 n (m - 1) ∧ mm_fo1 h2 c0 (m - 1) 10 := by
  have gr : (0 : Int) ≤ h.2.1 117 k ∧ h.2.1 117 k ≤ 39 := i.2.1 117 k
  have gc : (0 : Int) ≤ h.2.1 86 (h.2.1 117 k) ∧ h.2.1 86 (h.2.1 117 k) ≤ 9 := i.2.1 86 _
  have a7 : ∀ q, h2.2.1 117 q = h.2.1 117 q := fun q => by rw [e2, mm_pa_o 117 118 (by decide), e1, mm_pa_o 117 119 (by decide)]
  have a6 : ∀ q, h2.2.1 86 q = h.2.1 86 q := fun q => by rw [e2, mm_pa_o 86 118 (by decide), e1, mm_pa_o 86 119 (by decide)]
  have a9 : ∀ q, h2.2.1 119 q = if q = h.2.1 117 k then 1 else h.2.1 119 q := by
    intro q
    rw [e2, mm_pa_o 119 118 (by decide), e1]
    by_cases w : q = h.2.1 117 k
    · rw [if_pos w, w, mm_pa_same]
    · rw [if_neg w, mm_pa_j 119 w]
  have a8 : ∀ c, h2.2.1 118 c = if c = c0 then h.2.1 118 c + (-1) else h.2.1 118 c := by
    intro c
    rw [e2]
    by_cases q : c = c0
    · rw [if_pos q, q, mm_pa_same]; rfl
    · rw [if_neg q, mm_pa_j 118 q, e1, mm_pa_o 118 119 (by decide)]
  refine ⟨mm_dw_dec D gr.1 (by omega) (by omega) a8 ⟨⟨k, hk.1, hk.2, rfl⟩, N.1, hc.symm⟩ (fun c z => ?_) (fun c r hr => ?_) (by omega), ?_⟩
  · have := z.2.1
    rw [a9, if_pos rfl] at this
    omega
  · unfold mm_cnd mm_in
    simp only [a7, a6, a9, if_neg hr]
  · have N3 := N.2.2
    rw [← hc] at N3
    exact mm_fo1_eq (fun j => by
      rw [a8]
      by_cases q : j = c0
      · rw [if_pos q, q, mm_pa_same]; rfl
      · rw [if_neg q, mm_pa_j 118 q]) N3
theorem mm_left_back {h h1 h2 : mH} {c c' : Int} (hb : 0 ≤ h.2.1 118 c ∧ h.2.1 118 c ≤ 40) (e1 : h1 = mm_pa h 118 c (h.2.1 118 c - 1)) (hc : c' = c) (e2 : h2 = mm_pa h1 118 c' (mm_w (h1.2.1 118 c' + 1))) : ∀ j, h2.2.1 118 j = h.2.1 118 j := by
  subst hc
  have q1 : h1.2.1 118 c' = h.2.1 118 c' - 1 := by rw [e1, mm_pa_same]
  intro j
  rw [e2]
  by_cases q : j = c'
  · rw [q, mm_pa_same, q1, mm_w_id ⟨by omega, by omega⟩]; omega
  · rw [mm_pa_j 118 q, e1, mm_pa_j 118 q]
set_option maxRecDepth 100000 in
set_option maxHeartbeats 4000000 in
theorem c_X12_canFollow_x (l : Launch) (hl : l.stackTraces = false) (d : Nat) (hd : 0 ≤ d) (h : mH) (i0 : mm_inv h) (p1 : Int) (p2 : Int) (bp2 : 0 ≤ p2 ∧ p2 ≤ 40) : mm_Met l d yX12_canFollow cX12_canFollow 5 (some .boolean) [mR 66, mI p1, mI p2] h (mm_pi fun r h2 => (0 ≤ r ∧ r ≤ 1) ∧ h2 = h ∧ (r = 0 ∨ mm_fo1 h p1 p2 10) ∧ (r = 1 ∨ ¬ mm_fo1 h p1 p2 10)) mm_nx 0 0 := by
  refine mm_ofW (ls := [mR 66, mI p1, mI p2, mU, mU]) hl (by decide) rfl (Nat.le_of_ble_eq_true rfl) ?_
  intro x hxl C T hnm htb
  subst hxl
  refine mm_rng (fun hr _ => ?_)
  have ap1 : -2147483648 ≤ p1 ∧ p1 < 2147483648 := mm_ok_at hr (i := 1) rfl
  have ap2 : -2147483648 ≤ p2 ∧ p2 < 2147483648 := mm_ok_at hr (i := 2) rfl
  have f0 : mm_fr [] [] h h := mm_fr_rf
  refine mm_iconst C (mm_dec dk_X12_canFollow 0 rfl) ⟨by decide, by decide⟩ ?_
  refine mm_istore_nL (ls2 := [mR 66, mI p1, mI p2, mI 1, mU]) C (mm_dec dk_X12_canFollow 1 rfl) (by decide) rfl ?_
  refine mm_iconst C (mm_dec dk_X12_canFollow 2 rfl) ⟨by decide, by decide⟩ ?_
  have J5 : ∀ (n : Nat) (x5_3 : Int) (bx5_3 : 0 ≤ x5_3 ∧ x5_3 ≤ 1) (x5_4 : Int) (bx5_4 : 0 ≤ x5_4 ∧ x5_4 ≤ 10) (w5_0 : (x5_3 = 0 ∨ mm_fo1 h p1 p2 x5_4)) (w5_1 : (x5_3 = 1 ∨ ¬ mm_fo1 h p1 p2 10)), (10 - x5_4 : Int) < n → mm_W x 0 0 5 [mR 66, mI p1, mI p2, mI x5_3, mI x5_4] [] h := by
    intro n
    induction n with
    | zero =>
      intro x5_3 bx5_3 x5_4 bx5_4 w5_0 w5_1 hm
      exfalso; omega
    | succ n ih5 =>
      intro x5_3 bx5_3 x5_4 bx5_4 w5_0 w5_1 hm5
      refine mm_iload C (mm_dec dk_X12_canFollow 4 rfl) rfl ?_
      refine mm_bipush C (mm_dec dk_X12_canFollow 5 rfl) ⟨by decide, by decide⟩ ?_
      refine mm_icmp_ge (tgt := 55) C (mm_dec dk_X12_canFollow 6 rfl) (by decide) (fun c9 => ?_) (fun c9 => ?_)
      · skip
        refine mm_iload_n C (mm_dec dk_X12_canFollow 32 rfl) rfl ?_
        exact mm_zret C T (mm_dec dk_X12_canFollow 33 rfl) (by decide : 0 ≤ 0) (by decide : 0 ≤ 0) (by omega) ⟨_, rfl, ⟨⟨by omega, by omega⟩, rfl, by exact w5_0.imp id (fun q => mm_fo1_le q (by omega)), by exact w5_1⟩⟩
      · skip
        refine mm_iload_n C (mm_dec dk_X12_canFollow 7 rfl) rfl ?_
        have J48 : ∀ (s48_0 : Int) (bs48_0 : 0 ≤ s48_0 ∧ s48_0 ≤ 1) (w48_0 : (s48_0 = 0 ∨ (x5_3 ≠ 0 ∧ h.2.1 118 x5_4 ≤ (if x5_4 = p1 then p2 / 2 else (p2 + 1) / 2)))) (w48_1 : (s48_0 = 1 ∨ x5_3 = 0 ∨ (if x5_4 = p1 then p2 / 2 else (p2 + 1) / 2) < h.2.1 118 x5_4)) (vs48_0 : (s48_0 = 0) ∨ (x5_3 ≠ 0 ∧ s48_0 = 1)), mm_W x 0 0 48 [mR 66, mI p1, mI p2, mU, mI x5_4] [mI s48_0] h := by
          intro s48_0 bs48_0 w48_0 w48_1 vs48_0
          refine mm_istore_nL (ls2 := [mR 66, mI p1, mI p2, mI s48_0, mI x5_4]) C (mm_dec dk_X12_canFollow 29 rfl) (by decide) rfl ?_
          refine mm_iincL (ls2 := [mR 66, mI p1, mI p2, mI s48_0, mI (x5_4 + 1)]) C (mm_dec dk_X12_canFollow 30 rfl) rfl (by decide) ⟨by omega, by omega⟩ rfl ?_
          refine mm_goto (tgt := 5) C (mm_dec dk_X12_canFollow 31 rfl) (by decide) ?_
          exact ih5 s48_0 ⟨by omega, by omega⟩ (x5_4 + 1) ⟨by omega, by omega⟩ (by first | exact Or.inr (fun c a b => absurd b (by omega)) | exact mm_fo_s w5_0 w48_0) (by first | exact Or.inl rfl | exact mm_fo_t w5_1 w48_1 (by omega) (by omega)) (by omega)
        have J47 : ∀ (w47_0 : (x5_3 = 0 ∨ (if x5_4 = p1 then p2 / 2 else (p2 + 1) / 2) < h.2.1 118 x5_4)), mm_W x 0 0 47 [mR 66, mI p1, mI p2, mU, mI x5_4] [] h := by
          intro w47_0
          refine mm_iconst C (mm_dec dk_X12_canFollow 28 rfl) ⟨by decide, by decide⟩ ?_
          exact J48 0 ⟨by omega, by omega⟩ (by omega) (by omega) (Or.inl rfl)
        refine mm_if_eq (tgt := 47) C (mm_dec dk_X12_canFollow 8 rfl) (by decide) (fun c13 => ?_) (fun c13 => ?_)
        · skip
          refine mm_fgt 3 ?_
          exact J47 (by omega)
        · skip
          refine mm_aload_n C (mm_dec dk_X12_canFollow 9 rfl) rfl ?_
          refine mm_getr (t := 118) C fl_X12_165 (mm_dec dk_X12_canFollow 10 rfl) rfl rfl (mm_ref i0 rfl) ?_
          refine mm_iload C (mm_dec dk_X12_canFollow 11 rfl) rfl ?_
          refine mm_iald C (mm_dec dk_X12_canFollow 12 rfl) rfl (by omega) (by omega) ?_
          have g1 : -2147483648 ≤ (h.2.1 118 x5_4) ∧ (h.2.1 118 x5_4) ≤ 2147483647 := i0.2.1 118 x5_4
          refine mm_iload C (mm_dec dk_X12_canFollow 13 rfl) rfl ?_
          refine mm_iload_n C (mm_dec dk_X12_canFollow 14 rfl) rfl ?_
          have J40 : ∀ (s40_1 : Int) (bs40_1 : 0 ≤ s40_1 ∧ s40_1 ≤ 20) (w40_0 : s40_1 = (if x5_4 = p1 then p2 / 2 else (p2 + 1) / 2)), mm_W x 0 0 40 [mR 66, mI p1, mI p2, mU, mI x5_4] [mI s40_1, mI (h.2.1 118 x5_4)] h := by
            intro s40_1 bs40_1 w40_0
            refine mm_icmp_gt (tgt := 47) C (mm_dec dk_X12_canFollow 25 rfl) (by decide) (fun c40 => ?_) (fun c40 => ?_)
            · skip
              exact J47 (by omega)
            · skip
              refine mm_iconst C (mm_dec dk_X12_canFollow 26 rfl) ⟨by decide, by decide⟩ ?_
              refine mm_goto (tgt := 48) C (mm_dec dk_X12_canFollow 27 rfl) (by decide) ?_
              exact J48 1 ⟨by omega, by omega⟩ (by omega) (by omega) (Or.inr (⟨by omega, rfl⟩))
          refine mm_icmp_ne (tgt := 35) C (mm_dec dk_X12_canFollow 15 rfl) (by decide) (fun c26 => ?_) (fun c26 => ?_)
          · skip
            refine mm_iload_n C (mm_dec dk_X12_canFollow 20 rfl) rfl ?_
            refine mm_iconst C (mm_dec dk_X12_canFollow 21 rfl) ⟨by decide, by decide⟩ ?_
            refine mm_iadd C (mm_dec dk_X12_canFollow 22 rfl) ⟨by omega, by omega⟩ ?_
            refine mm_iconst C (mm_dec dk_X12_canFollow 23 rfl) ⟨by decide, by decide⟩ ?_
            refine mm_idiv C (mm_dec dk_X12_canFollow 24 rfl) ⟨by omega, by omega⟩ (by omega) ?_
            refine mm_fgt 3 ?_
            exact J40 ((p2 + 1) / 2) ⟨by omega, by omega⟩ (by omega)
          · skip
            refine mm_iload_n C (mm_dec dk_X12_canFollow 16 rfl) rfl ?_
            refine mm_iconst C (mm_dec dk_X12_canFollow 17 rfl) ⟨by decide, by decide⟩ ?_
            refine mm_idiv C (mm_dec dk_X12_canFollow 18 rfl) ⟨by omega, by omega⟩ (by omega) ?_
            refine mm_goto (tgt := 40) C (mm_dec dk_X12_canFollow 19 rfl) (by decide) ?_
            refine mm_fgt 3 ?_
            exact J40 (p2 / 2) ⟨by omega, by omega⟩ (by omega)
  refine mm_istoreL (ls2 := [mR 66, mI p1, mI p2, mI 1, mI 0]) C (mm_dec dk_X12_canFollow 3 rfl) (by decide) rfl ?_
  exact J5 (((10 - 0) : Int) + 1).toNat 1 ⟨by omega, by omega⟩ 0 ⟨by omega, by omega⟩ (by first | exact Or.inr (fun c a b => absurd b (by omega)) | exact mm_fo_s w5_0 w48_0) (by first | exact Or.inl rfl | exact mm_fo_t w5_1 w48_1 (by omega) (by omega)) (by omega)
set_option maxRecDepth 100000 in
set_option maxHeartbeats 4000000 in
theorem c_X12_isNext_x (l : Launch) (hl : l.stackTraces = false) (d : Nat) (hd : 1 ≤ d) (h : mH) (i0 : mm_inv h) (p1 : Int) (p2 : Int) (p3 : Int) (bp1 : 0 ≤ p1 ∧ p1 ≤ 39) (bp3 : 1 ≤ p3 ∧ p3 ≤ 40) (t0 : ∀ c, 0 ≤ c → c < 10 → 0 ≤ h.2.1 118 c ∧ h.2.1 118 c ≤ 40) : mm_Met l d yX12_isNext cX12_isNext 6 (some .boolean) [mR 66, mI p1, mI p2, mI p3] h (mm_pi fun r h2 => (0 ≤ r ∧ r ≤ 1) ∧ mm_inv h2 ∧ mm_fr [] [118] h h2 ∧ (∀ j, h2.2.1 118 j = h.2.1 118 j) ∧ (r = 0 ∨ mm_nxt h p1 p2 p3) ∧ (r = 1 ∨ ¬ mm_nxt h p1 p2 p3)) mm_nx 0 0 := by
  refine mm_ofW (ls := [mR 66, mI p1, mI p2, mI p3, mU, mU]) hl (by decide) rfl (Nat.le_of_ble_eq_true rfl) ?_
  intro x hxl C T hnm htb
  subst hxl
  have C1 := mm_OK_le (d' := d - 1 + 1) (by omega) C
  refine mm_rng (fun hr _ => ?_)
  have ap1 : -2147483648 ≤ p1 ∧ p1 < 2147483648 := mm_ok_at hr (i := 1) rfl
  have ap2 : -2147483648 ≤ p2 ∧ p2 < 2147483648 := mm_ok_at hr (i := 2) rfl
  have ap3 : -2147483648 ≤ p3 ∧ p3 < 2147483648 := mm_ok_at hr (i := 3) rfl
  have f0 : mm_fr [] [118] h h := mm_fr_rf
  refine mm_aload_n C (mm_dec dk_X12_isNext 0 rfl) rfl ?_
  refine mm_getr (t := 117) C fl_X12_162 (mm_dec dk_X12_isNext 1 rfl) rfl rfl (mm_ref i0 rfl) ?_
  refine mm_iload_n C (mm_dec dk_X12_isNext 2 rfl) rfl ?_
  refine mm_iald C (mm_dec dk_X12_isNext 3 rfl) rfl (by omega) (by omega) ?_
  have g1 : 0 ≤ (h.2.1 117 p1) ∧ (h.2.1 117 p1) ≤ 39 := i0.2.1 117 p1
  refine mm_istoreL (ls2 := [mR 66, mI p1, mI p2, mI p3, mI (h.2.1 117 p1), mU]) C (mm_dec dk_X12_isNext 4 rfl) (by decide) rfl ?_
  refine mm_aload_n C (mm_dec dk_X12_isNext 5 rfl) rfl ?_
  refine mm_getr (t := 119) C fl_X12_168 (mm_dec dk_X12_isNext 6 rfl) rfl rfl (mm_ref i0 rfl) ?_
  refine mm_iload C (mm_dec dk_X12_isNext 7 rfl) rfl ?_
  refine mm_zald C (mm_dec dk_X12_isNext 8 rfl) rfl (by omega) (by omega) ?_
  have g2 : 0 ≤ (h.2.1 119 (h.2.1 117 p1)) ∧ (h.2.1 119 (h.2.1 117 p1)) ≤ 1 := i0.2.1 119 (h.2.1 117 p1)
  have J29 : ∀ (w29_0 : (h.2.1 119 (h.2.1 117 p1) ≠ 0 ∨ h.2.1 86 (h.2.1 117 p1) = p2)), mm_W x 0 0 29 [mU, mU, mU, mU, mU, mU] [] h := by
    intro w29_0
    refine mm_iconst C (mm_dec dk_X12_isNext 16 rfl) ⟨by decide, by decide⟩ ?_
    exact mm_zret C T (mm_dec dk_X12_isNext 17 rfl) (by decide : 0 ≤ 0) (by decide : 0 ≤ 0) (by omega) ⟨_, rfl, ⟨⟨by omega, by omega⟩, i0, f0, by first | exact fun _ => rfl | exact za, by first | exact Or.inl rfl | exact zn, by first | exact Or.inr (fun q => by have q1 := q.1; have q2 := q.2.1; omega) | exact zm⟩⟩
  refine mm_if_ne (tgt := 29) C (mm_dec dk_X12_isNext 9 rfl) (by decide) (fun c15 => ?_) (fun c15 => ?_)
  · skip
    refine mm_fgt 0 ?_
    refine mm_fgt 1 ?_
    refine mm_fgt 2 ?_
    refine mm_fgt 3 ?_
    refine mm_fgt 4 ?_
    exact J29 (by omega)
  · skip
    refine mm_aload_n C (mm_dec dk_X12_isNext 10 rfl) rfl ?_
    refine mm_getr (t := 86) C fl_X12_69 (mm_dec dk_X12_isNext 11 rfl) rfl rfl (mm_ref i0 rfl) ?_
    refine mm_iload C (mm_dec dk_X12_isNext 12 rfl) rfl ?_
    refine mm_iald C (mm_dec dk_X12_isNext 13 rfl) rfl (by omega) (by omega) ?_
    have g3 : 0 ≤ (h.2.1 86 (h.2.1 117 p1)) ∧ (h.2.1 86 (h.2.1 117 p1)) ≤ 9 := i0.2.1 86 (h.2.1 117 p1)
    refine mm_iload_n C (mm_dec dk_X12_isNext 14 rfl) rfl ?_
    refine mm_icmp_ne (tgt := 31) C (mm_dec dk_X12_isNext 15 rfl) (by decide) (fun c26 => ?_) (fun c26 => ?_)
    · skip
      refine mm_aload_n C (mm_dec dk_X12_isNext 18 rfl) rfl ?_
      refine mm_getr (t := 118) C fl_X12_165 (mm_dec dk_X12_isNext 19 rfl) rfl rfl (mm_ref i0 rfl) ?_
      refine mm_aload_n C (mm_dec dk_X12_isNext 20 rfl) rfl ?_
      refine mm_getr (t := 86) C fl_X12_69 (mm_dec dk_X12_isNext 21 rfl) rfl rfl (mm_ref i0 rfl) ?_
      refine mm_iload C (mm_dec dk_X12_isNext 22 rfl) rfl ?_
      refine mm_iald C (mm_dec dk_X12_isNext 23 rfl) rfl (by omega) (by omega) ?_
      have zb := t0 (h.2.1 86 (h.2.1 117 p1)) (by omega) (by omega)
      refine mm_dup2 C (mm_dec dk_X12_isNext 24 rfl) (show (0 : Nat) ≠ 1 by decide) (show (2 : Nat) ≠ 1 by decide) ?_
      refine mm_iald C (mm_dec dk_X12_isNext 25 rfl) rfl (by omega) (by omega) ?_
      have g4 : -2147483648 ≤ (h.2.1 118 (h.2.1 86 (h.2.1 117 p1))) ∧ (h.2.1 118 (h.2.1 86 (h.2.1 117 p1))) ≤ 2147483647 := i0.2.1 118 (h.2.1 86 (h.2.1 117 p1))
      refine mm_iconst C (mm_dec dk_X12_isNext 26 rfl) ⟨by decide, by decide⟩ ?_
      refine mm_isubw C (mm_dec dk_X12_isNext 27 rfl) ?_
      have g5 : -2147483648 ≤ (mm_w ((h.2.1 118 (h.2.1 86 (h.2.1 117 p1))) - 1)) ∧ (mm_w ((h.2.1 118 (h.2.1 86 (h.2.1 117 p1))) - 1)) < 2147483648 := mm_w_rg _
      refine mm_iast C (mm_dec dk_X12_isNext 28 rfl) rfl (by omega) (by omega) ?_
      have i1 : mm_inv (mm_pa h 118 (h.2.1 86 (h.2.1 117 p1)) (mm_w ((h.2.1 118 (h.2.1 86 (h.2.1 117 p1))) - 1))) := mm_inv_pa i0 (show -2147483648 ≤ (mm_w ((h.2.1 118 (h.2.1 86 (h.2.1 117 p1))) - 1)) ∧ (mm_w ((h.2.1 118 (h.2.1 86 (h.2.1 117 p1))) - 1)) ≤ 2147483647 from ⟨by omega, by omega⟩)
      have f1 : mm_fr [] [118] h (mm_pa h 118 (h.2.1 86 (h.2.1 117 p1)) (mm_w ((h.2.1 118 (h.2.1 86 (h.2.1 117 p1))) - 1))) := mm_fr_pa f0 (by decide)
      obtain ⟨h1, eh1⟩ : ∃ z, z = mm_pa h 118 (h.2.1 86 (h.2.1 117 p1)) (mm_w ((h.2.1 118 (h.2.1 86 (h.2.1 117 p1))) - 1)) := ⟨_, rfl⟩
      rw [← eh1] at i1 f1 ⊢
      have ze : h1 = mm_pa h 118 (h.2.1 86 (h.2.1 117 p1)) (h.2.1 118 (h.2.1 86 (h.2.1 117 p1)) - 1) := by rw [eh1, mm_w_id ⟨by omega, by omega⟩]
      have zc : h1.2.1 86 (h.2.1 117 p1) = h.2.1 86 (h.2.1 117 p1) := by rw [eh1, mm_pa_o 86 118 (by decide)]
      refine mm_aload_n C (mm_dec dk_X12_isNext 29 rfl) rfl ?_
      refine mm_aload_n C (mm_dec dk_X12_isNext 30 rfl) rfl ?_
      refine mm_getr (t := 86) C fl_X12_69 (mm_dec dk_X12_isNext 31 rfl) rfl rfl (mm_ref i1 rfl) ?_
      refine mm_iload C (mm_dec dk_X12_isNext 32 rfl) rfl ?_
      refine mm_iald C (mm_dec dk_X12_isNext 33 rfl) rfl (by omega) (by omega) ?_
      have g6 : 0 ≤ (h1.2.1 86 (h.2.1 117 p1)) ∧ (h1.2.1 86 (h.2.1 117 p1)) ≤ 9 := i1.2.1 86 (h.2.1 117 p1)
      refine mm_iload_n C (mm_dec dk_X12_isNext 34 rfl) rfl ?_
      refine mm_iconst C (mm_dec dk_X12_isNext 35 rfl) ⟨by decide, by decide⟩ ?_
      refine mm_isub C (mm_dec dk_X12_isNext 36 rfl) ⟨by omega, by omega⟩ ?_
      refine mm_cVi (rest := []) C1 ev_X12_518 (mm_dec dk_X12_isNext 37 rfl) (c_X12_canFollow_x x.2.1 hl (d - 1) (by omega) h1 i1 (h1.2.1 86 (h.2.1 117 p1)) (p3 - 1) ⟨by omega, by omega⟩) rfl rfl (Nat.le_of_ble_eq_true rfl) ⟨by decide, by decide⟩ rfl (fun r58 h58c hp58 => ?_) (fun _ _ q => q.elim)
      obtain ⟨b58, z58, y58_0, y58_1⟩ := hp58
      rw [z58]
      have zn : r58 = 0 ∨ mm_nxt h p1 p2 p3 := y58_0.imp id (fun q => ⟨by omega, by omega, by rw [← ze, ← zc]; exact q⟩)
      have zm : r58 = 1 ∨ ¬ mm_nxt h p1 p2 p3 := y58_1.imp id (fun q w => q (by rw [zc, ze]; exact w.2.2))
      refine mm_istoreL (ls2 := [mR 66, mI p1, mI p2, mI p3, mI (h.2.1 117 p1), mI r58]) C (mm_dec dk_X12_isNext 38 rfl) (by decide) rfl ?_
      refine mm_aload_n C (mm_dec dk_X12_isNext 39 rfl) rfl ?_
      refine mm_getr (t := 118) C fl_X12_165 (mm_dec dk_X12_isNext 40 rfl) rfl rfl (mm_ref i1 rfl) ?_
      refine mm_aload_n C (mm_dec dk_X12_isNext 41 rfl) rfl ?_
      refine mm_getr (t := 86) C fl_X12_69 (mm_dec dk_X12_isNext 42 rfl) rfl rfl (mm_ref i1 rfl) ?_
      refine mm_iload C (mm_dec dk_X12_isNext 43 rfl) rfl ?_
      refine mm_iald C (mm_dec dk_X12_isNext 44 rfl) rfl (by omega) (by omega) ?_
      refine mm_dup2 C (mm_dec dk_X12_isNext 45 rfl) (show (0 : Nat) ≠ 1 by decide) (show (2 : Nat) ≠ 1 by decide) ?_
      refine mm_iald C (mm_dec dk_X12_isNext 46 rfl) rfl (by omega) (by omega) ?_
      have g8 : -2147483648 ≤ (h1.2.1 118 (h1.2.1 86 (h.2.1 117 p1))) ∧ (h1.2.1 118 (h1.2.1 86 (h.2.1 117 p1))) ≤ 2147483647 := i1.2.1 118 (h1.2.1 86 (h.2.1 117 p1))
      refine mm_iconst C (mm_dec dk_X12_isNext 47 rfl) ⟨by decide, by decide⟩ ?_
      refine mm_iaddw C (mm_dec dk_X12_isNext 48 rfl) ?_
      have g9 : -2147483648 ≤ (mm_w ((h1.2.1 118 (h1.2.1 86 (h.2.1 117 p1))) + 1)) ∧ (mm_w ((h1.2.1 118 (h1.2.1 86 (h.2.1 117 p1))) + 1)) < 2147483648 := mm_w_rg _
      refine mm_iast C (mm_dec dk_X12_isNext 49 rfl) rfl (by omega) (by omega) ?_
      have i2 : mm_inv (mm_pa h1 118 (h1.2.1 86 (h.2.1 117 p1)) (mm_w ((h1.2.1 118 (h1.2.1 86 (h.2.1 117 p1))) + 1))) := mm_inv_pa i1 (show -2147483648 ≤ (mm_w ((h1.2.1 118 (h1.2.1 86 (h.2.1 117 p1))) + 1)) ∧ (mm_w ((h1.2.1 118 (h1.2.1 86 (h.2.1 117 p1))) + 1)) ≤ 2147483647 from ⟨by omega, by omega⟩)
      have f2 : mm_fr [] [118] h (mm_pa h1 118 (h1.2.1 86 (h.2.1 117 p1)) (mm_w ((h1.2.1 118 (h1.2.1 86 (h.2.1 117 p1))) + 1))) := mm_fr_pa f1 (by decide)
      obtain ⟨h2, eh2⟩ : ∃ z, z = mm_pa h1 118 (h1.2.1 86 (h.2.1 117 p1)) (mm_w ((h1.2.1 118 (h1.2.1 86 (h.2.1 117 p1))) + 1)) := ⟨_, rfl⟩
      rw [← eh2] at i2 f2 ⊢
      have za := mm_left_back zb ze zc eh2
      refine mm_iload C (mm_dec dk_X12_isNext 50 rfl) rfl ?_
      exact mm_zret C T (mm_dec dk_X12_isNext 51 rfl) (by decide : 0 ≤ 0) (by decide : 0 ≤ 0) (by omega) ⟨_, rfl, ⟨⟨by omega, by omega⟩, i2, f2, by first | exact fun _ => rfl | exact za, by first | exact Or.inl rfl | exact zn, by first | exact Or.inr (fun q => by have q1 := q.1; have q2 := q.2.1; omega) | exact zm⟩⟩
    · skip
      refine mm_fgt 0 ?_
      refine mm_fgt 1 ?_
      refine mm_fgt 2 ?_
      refine mm_fgt 3 ?_
      refine mm_fgt 4 ?_
      exact J29 (by omega)
set_option maxRecDepth 100000 in
set_option maxHeartbeats 4000000 in
theorem c_X12_draw (l : Launch) (hl : l.stackTraces = false) (d : Nat) (hd : 2 ≤ d) (h : mH) (i0 : mm_inv h) (p1 : Int) (p2 : Int) (p4 : Int) : mm_Met l d yX12_draw cX12_draw 11 (some .int) [mR 66, mI p1, mL p2, mI p4] h (mm_pi fun r h2 => (-1 ≤ r ∧ r ≤ 40) ∧ mm_inv h2 ∧ mm_fr [(66, 0), (66, 40)] [92, 93, 94, 95, 96, 97, 117, 118, 119] h h2) mm_nx 0 0 := by
  refine mm_ofW (ls := [mR 66, mI p1, mL p2, mU, mI p4, mU, mU, mU, mU, mU, mU]) hl (by decide) rfl (Nat.le_of_ble_eq_true rfl) ?_
  intro x hxl C T hnm htb
  subst hxl
  have C1 := mm_OK_le (d' := d - 1 + 1) (by omega) C
  refine mm_rng (fun hr _ => ?_)
  have ap1 : -2147483648 ≤ p1 ∧ p1 < 2147483648 := mm_ok_at hr (i := 1) rfl
  have ap2 : -9223372036854775808 ≤ p2 ∧ p2 < 9223372036854775808 := mm_ok_at hr (i := 2) rfl
  have ap4 : -2147483648 ≤ p4 ∧ p4 < 2147483648 := mm_ok_at hr (i := 4) rfl
  have f0 : mm_fr [(66, 0), (66, 40)] [92, 93, 94, 95, 96, 97, 117, 118, 119] h h := mm_fr_rf
  have g1 : 0 ≤ h.1 66 40 ∧ h.1 66 40 ≤ 500 := i0.1 66 40
  have g2 : 0 ≤ h.1 66 41 ∧ h.1 66 41 ≤ 99999 := i0.1 66 41
  have g3 : 0 ≤ h.1 66 23 ∧ h.1 66 23 ≤ 40 := i0.1 66 23
  refine mm_aload_n C (mm_dec dk_X12_draw 0 rfl) rfl ?_
  refine mm_iload_n C (mm_dec dk_X12_draw 1 rfl) rfl ?_
  refine mm_cVi (rest := []) C1 ev_X12_288 (mm_dec dk_X12_draw 2 rfl) (c_X12_isCourse x.2.1 hl (d - 1) (by omega) h i0 p1) rfl rfl (Nat.le_of_ble_eq_true rfl) ⟨by decide, by decide⟩ rfl (fun r2 h2c hp2 => ?_) (fun _ _ q => q.elim)
  obtain ⟨b2, i2c, g2c, y2_0⟩ := hp2
  have f2c : mm_fr [(66, 0), (66, 40)] [92, 93, 94, 95, 96, 97, 117, 118, 119] h h2c := mm_fr_tr f0 g2c (by decide +kernel)
  have q2c_5 : h2c.1 66 23 = h.1 66 23 := g2c.1 66 23 (by decide)
  have q2c_6 : h2c.1 66 40 = h.1 66 40 := g2c.1 66 40 (by decide)
  have q2c_7 : h2c.1 66 41 = h.1 66 41 := g2c.1 66 41 (by decide)
  have g8 : 0 ≤ (h2c.1 66 22) ∧ (h2c.1 66 22) ≤ 8 := i2c.1 66 22
  refine mm_if_ne (tgt := 10) C (mm_dec dk_X12_draw 3 rfl) (by decide) (fun c5 => ?_) (fun c5 => ?_)
  · skip
    refine mm_iload C (mm_dec dk_X12_draw 6 rfl) rfl ?_
    refine mm_aload_n C (mm_dec dk_X12_draw 7 rfl) rfl ?_
    refine mm_geti C fl_X12_234 (mm_dec dk_X12_draw 8 rfl) rfl rfl (Or.inl rfl) ?_
    have J27 : mm_W x 0 0 27 [mU, mU, mU, mU, mU, mU, mU, mU, mU, mU, mU] [] h2c := by
      refine mm_iconst C (mm_dec dk_X12_draw 13 rfl) ⟨by decide, by decide⟩ ?_
      exact mm_iret C T (mm_dec dk_X12_draw 14 rfl) (by decide : 0 ≤ 0) (by decide : 0 ≤ 0) ⟨_, rfl, ⟨⟨by omega, by omega⟩, i2c, f2c⟩⟩
    refine mm_icmp_lt (tgt := 27) C (mm_dec dk_X12_draw 9 rfl) (by decide) (fun c16 => ?_) (fun c16 => ?_)
    · skip
      refine mm_fgt 0 ?_
      refine mm_fgt 1 ?_
      refine mm_fgt 2 ?_
      refine mm_fgt 4 ?_
      exact J27
    · skip
      refine mm_iload C (mm_dec dk_X12_draw 10 rfl) rfl ?_
      refine mm_ldcw (z := 99999) C (mm_dec dk_X12_draw 11 rfl) kc_X12_314 (by decide) ?_
      refine mm_icmp_le (tgt := 29) C (mm_dec dk_X12_draw 12 rfl) (by decide) (fun c24 => ?_) (fun c24 => ?_)
      · skip
        refine mm_iconst C (mm_dec dk_X12_draw 15 rfl) ⟨by decide, by decide⟩ ?_
        refine mm_istoreL (ls2 := [mR 66, mI p1, mL p2, mU, mI p4, mI 0, mU, mU, mU, mU, mU]) C (mm_dec dk_X12_draw 16 rfl) (by decide) rfl ?_
        refine mm_iconst C (mm_dec dk_X12_draw 17 rfl) ⟨by decide, by decide⟩ ?_
        have J35 : ∀ (n : Nat) (x35_6 : Int) (bx35_6 : 0 ≤ x35_6 ∧ x35_6 ≤ 10) (h35_ : mH) (i35_ : mm_inv h35_) (f35_ : mm_fr [(66, 0), (66, 40)] [92, 93, 94, 95, 96, 97, 117, 118, 119] h h35_) (w35_0 : ∀ c, 0 ≤ c → c < x35_6 → h35_.2.1 118 c = 0), (10 - x35_6 : Int) < n → mm_W x 0 0 35 [mR 66, mI p1, mL p2, mU, mI p4, mI 0, mI x35_6, mU, mU, mU, mU] [] h35_ := by
          intro n
          induction n with
          | zero =>
            intro x35_6 bx35_6 h35_ i35_ f35_ w35_0 hm
            have g9 : 0 ≤ h35_.1 66 40 ∧ h35_.1 66 40 ≤ 500 := i35_.1 66 40
            have g10 : 0 ≤ h35_.1 66 41 ∧ h35_.1 66 41 ≤ 99999 := i35_.1 66 41
            have g11 : 0 ≤ h35_.1 66 23 ∧ h35_.1 66 23 ≤ 40 := i35_.1 66 23
            exfalso; omega
          | succ n ih35 =>
            intro x35_6 bx35_6 h35_ i35_ f35_ w35_0 hm35
            have g12 : 0 ≤ h35_.1 66 40 ∧ h35_.1 66 40 ≤ 500 := i35_.1 66 40
            have g13 : 0 ≤ h35_.1 66 41 ∧ h35_.1 66 41 ≤ 99999 := i35_.1 66 41
            have g14 : 0 ≤ h35_.1 66 23 ∧ h35_.1 66 23 ≤ 40 := i35_.1 66 23
            have g15 : h35_.1 66 41 = h.1 66 41 := f35_.1 66 41 (by decide)
            have g16 : h35_.1 66 23 = h.1 66 23 := f35_.1 66 23 (by decide)
            refine mm_iload C (mm_dec dk_X12_draw 19 rfl) rfl ?_
            refine mm_bipush C (mm_dec dk_X12_draw 20 rfl) ⟨by decide, by decide⟩ ?_
            refine mm_icmp_ge (tgt := 56) C (mm_dec dk_X12_draw 21 rfl) (by decide) (fun c39 => ?_) (fun c39 => ?_)
            · skip
              have zd0 : mm_dw h35_ 0 0 := mm_dw_nil (fun c a b => w35_0 c a (by omega))
              refine mm_iconst C (mm_dec dk_X12_draw 29 rfl) ⟨by decide, by decide⟩ ?_
              have J59 : ∀ (n : Nat) (x59_5 : Int) (bx59_5 : 0 ≤ x59_5 ∧ x59_5 ≤ 40) (x59_6 : Int) (bx59_6 : 0 ≤ x59_6 ∧ x59_6 ≤ 40) (h59_ : mH) (i59_ : mm_inv h59_) (f59_ : mm_fr [(66, 0), (66, 40)] [92, 93, 94, 95, 96, 97, 117, 118, 119] h h59_) (w59_0 : mm_dw h59_ x59_5 x59_5) (w59_1 : mm_lt h59_ x59_5 x59_6) (w59_2 : x59_5 ≤ x59_6), (40 - x59_6 : Int) < n → mm_W x 0 0 59 [mR 66, mI p1, mL p2, mU, mI p4, mI x59_5, mI x59_6, mU, mU, mU, mU] [] h59_ := by
                intro n
                induction n with
                | zero =>
                  intro x59_5 bx59_5 x59_6 bx59_6 h59_ i59_ f59_ w59_0 w59_1 w59_2 hm
                  have g17 : 0 ≤ h59_.1 66 40 ∧ h59_.1 66 40 ≤ 500 := i59_.1 66 40
                  have g18 : 0 ≤ h59_.1 66 41 ∧ h59_.1 66 41 ≤ 99999 := i59_.1 66 41
                  have g19 : 0 ≤ h59_.1 66 23 ∧ h59_.1 66 23 ≤ 40 := i59_.1 66 23
                  exfalso; omega
                | succ n ih59 =>
                  intro x59_5 bx59_5 x59_6 bx59_6 h59_ i59_ f59_ w59_0 w59_1 w59_2 hm59
                  have g20 : 0 ≤ h59_.1 66 40 ∧ h59_.1 66 40 ≤ 500 := i59_.1 66 40
                  have g21 : 0 ≤ h59_.1 66 41 ∧ h59_.1 66 41 ≤ 99999 := i59_.1 66 41
                  have g22 : 0 ≤ h59_.1 66 23 ∧ h59_.1 66 23 ≤ 40 := i59_.1 66 23
                  have g23 : h59_.1 66 41 = h.1 66 41 := f59_.1 66 41 (by decide)
                  have g24 : h59_.1 66 23 = h.1 66 23 := f59_.1 66 23 (by decide)
                  refine mm_iload C (mm_dec dk_X12_draw 31 rfl) rfl ?_
                  refine mm_aload_n C (mm_dec dk_X12_draw 32 rfl) rfl ?_
                  refine mm_geti C fl_X12_222 (mm_dec dk_X12_draw 33 rfl) rfl rfl (Or.inl rfl) ?_
                  refine mm_icmp_ge (tgt := 160) C (mm_dec dk_X12_draw 34 rfl) (by decide) (fun c65 => ?_) (fun c65 => ?_)
                  · skip
                    refine mm_lload_n C (mm_dec dk_X12_draw 85 rfl) rfl ?_
                    refine mm_lstoreL (ls2 := [mR 66, mI p1, mL p2, mU, mI p4, mI x59_5, mL p2, mU, mU, mU, mU]) C (mm_dec dk_X12_draw 86 rfl) (by decide) rfl ?_
                    refine mm_iload C (mm_dec dk_X12_draw 87 rfl) rfl ?_
                    refine mm_iconst C (mm_dec dk_X12_draw 88 rfl) ⟨by decide, by decide⟩ ?_
                    refine mm_isub C (mm_dec dk_X12_draw 89 rfl) ⟨by omega, by omega⟩ ?_
                    have J169 : ∀ (n : Nat) (x169_6 : Int) (bx169_6 : -9223372036854775808 ≤ x169_6 ∧ x169_6 < 9223372036854775808) (x169_8 : Int) (bx169_8 : -1 ≤ x169_8 ∧ x169_8 ≤ 39) (h169_ : mH) (i169_ : mm_inv h169_) (f169_ : mm_fr [(66, 0), (66, 40)] [92, 93, 94, 95, 96, 97, 117, 118, 119] h h169_) (w169_0 : mm_dw h169_ x59_5 x59_5) (w169_1 : x169_8 + 1 ≤ x59_5), (x169_8 - (-1) : Int) < n → mm_W x 0 0 169 [mR 66, mU, mU, mU, mI p4, mI x59_5, mL x169_6, mU, mI x169_8, mU, mU] [] h169_ := by
                      intro n
                      induction n with
                      | zero =>
                        intro x169_6 bx169_6 x169_8 bx169_8 h169_ i169_ f169_ w169_0 w169_1 hm
                        have g25 : 0 ≤ h169_.1 66 40 ∧ h169_.1 66 40 ≤ 500 := i169_.1 66 40
                        have g26 : 0 ≤ h169_.1 66 41 ∧ h169_.1 66 41 ≤ 99999 := i169_.1 66 41
                        have g27 : 0 ≤ h169_.1 66 23 ∧ h169_.1 66 23 ≤ 40 := i169_.1 66 23
                        exfalso; omega
                      | succ n ih169 =>
                        intro x169_6 bx169_6 x169_8 bx169_8 h169_ i169_ f169_ w169_0 w169_1 hm169
                        have g28 : 0 ≤ h169_.1 66 40 ∧ h169_.1 66 40 ≤ 500 := i169_.1 66 40
                        have g29 : 0 ≤ h169_.1 66 41 ∧ h169_.1 66 41 ≤ 99999 := i169_.1 66 41
                        have g30 : 0 ≤ h169_.1 66 23 ∧ h169_.1 66 23 ≤ 40 := i169_.1 66 23
                        have g31 : h169_.1 66 41 = h.1 66 41 := f169_.1 66 41 (by decide)
                        have g32 : h169_.1 66 23 = h.1 66 23 := f169_.1 66 23 (by decide)
                        refine mm_iload C (mm_dec dk_X12_draw 91 rfl) rfl ?_
                        refine mm_iconst C (mm_dec dk_X12_draw 92 rfl) ⟨by decide, by decide⟩ ?_
                        refine mm_icmp_lt (tgt := 239) C (mm_dec dk_X12_draw 93 rfl) (by decide) (fun c172 => ?_) (fun c172 => ?_)
                        · skip
                          refine mm_aload_n C (mm_dec dk_X12_draw 130 rfl) rfl ?_
                          refine mm_iconst C (mm_dec dk_X12_draw 131 rfl) ⟨by decide, by decide⟩ ?_
                          refine mm_iload C (mm_dec dk_X12_draw 132 rfl) rfl ?_
                          refine mm_cVi (rest := []) C1 ev_X12_518 (mm_dec dk_X12_draw 133 rfl) (c_X12_canFollow_x x.2.1 hl (d - 1) (by omega) h169_ i169_ (-1) x59_5 ⟨by omega, by omega⟩) rfl rfl (Nat.le_of_ble_eq_true rfl) ⟨by decide, by decide⟩ rfl (fun r243 h243c hp243 => ?_) (fun _ _ q => q.elim)
                          obtain ⟨b243, z243, y243_0, y243_1⟩ := hp243
                          rw [z243]
                          have J285 : mm_W x 0 0 285 [mU, mU, mU, mU, mU, mU, mU, mU, mU, mU, mU] [] h169_ := by
                            have g34 : 0 ≤ h169_.1 66 40 ∧ h169_.1 66 40 ≤ 500 := i169_.1 66 40
                            have g35 : 0 ≤ h169_.1 66 41 ∧ h169_.1 66 41 ≤ 99999 := i169_.1 66 41
                            have g36 : 0 ≤ h169_.1 66 23 ∧ h169_.1 66 23 ≤ 40 := i169_.1 66 23
                            refine mm_iconst C (mm_dec dk_X12_draw 156 rfl) ⟨by decide, by decide⟩ ?_
                            exact mm_iret C T (mm_dec dk_X12_draw 157 rfl) (by decide : 0 ≤ 0) (by decide : 0 ≤ 0) ⟨_, rfl, ⟨⟨by omega, by omega⟩, i169_, f169_⟩⟩
                          refine mm_if_eq (tgt := 285) C (mm_dec dk_X12_draw 134 rfl) (by decide) (fun c246 => ?_) (fun c246 => ?_)
                          · skip
                            refine mm_fgt 0 ?_
                            refine mm_fgt 4 ?_
                            refine mm_fgt 5 ?_
                            refine mm_fgt 6 ?_
                            refine mm_fgt 8 ?_
                            exact J285
                          · skip
                            refine mm_iload C (mm_dec dk_X12_draw 135 rfl) rfl ?_
                            refine mm_i2l C (mm_dec dk_X12_draw 136 rfl) ?_
                            refine mm_iload C (mm_dec dk_X12_draw 137 rfl) rfl ?_
                            refine mm_i2l C (mm_dec dk_X12_draw 138 rfl) ?_
                            refine mm_lconst (z := 1) C (mm_dec dk_X12_draw 139 rfl) rfl ?_
                            refine mm_lsub C (mm_dec dk_X12_draw 140 rfl) ?_
                            have g37 : -9223372036854775808 ≤ (mm_vlsub x59_5 1) ∧ (mm_vlsub x59_5 1) < 9223372036854775808 := mm_rng64 _
                            obtain ⟨y37, ey37⟩ : ∃ z, z = (mm_vlsub x59_5 1) := ⟨_, rfl⟩
                            rw [← ey37] at g37 ⊢
                            clear ey37
                            refine mm_aload_n C (mm_dec dk_X12_draw 141 rfl) rfl ?_
                            refine mm_iconst C (mm_dec dk_X12_draw 142 rfl) ⟨by decide, by decide⟩ ?_
                            refine mm_cVi (rest := [mL y37, mL p4]) C1 ev_X12_460 (mm_dec dk_X12_draw 143 rfl) (c_X12_paramOf x.2.1 hl (d - 1) (by omega) h169_ i169_ 1 ⟨by omega, by omega⟩) rfl rfl (Nat.le_of_ble_eq_true rfl) ⟨by decide, by decide⟩ rfl (fun r259 h259c hp259 => ?_) (fun _ _ q => q.elim)
                            obtain ⟨z259, y259⟩ := hp259
                            rw [z259]
                            have g39 : 0 ≤ (h169_.1 66 67) ∧ (h169_.1 66 67) ≤ 1 := i169_.1 66 67
                            have g40 : -2147483648 ≤ (h169_.2.1 102 ((3 * (h169_.1 66 68)) + 1)) ∧ (h169_.2.1 102 ((3 * (h169_.1 66 68)) + 1)) ≤ 2147483647 := i169_.2.1 102 ((3 * (h169_.1 66 68)) + 1)
                            have g41 : 0 ≤ (h169_.1 66 68) ∧ (h169_.1 66 68) ≤ 1 := i169_.1 66 68
                            refine mm_i2l C (mm_dec dk_X12_draw 144 rfl) ?_
                            refine mm_lmul C (mm_dec dk_X12_draw 145 rfl) ?_
                            have g42 : -9223372036854775808 ≤ (mm_vlmul y37 r259) ∧ (mm_vlmul y37 r259) < 9223372036854775808 := mm_rng64 _
                            obtain ⟨y42, ey42⟩ : ∃ z, z = (mm_vlmul y37 r259) := ⟨_, rfl⟩
                            rw [← ey42] at g42 ⊢
                            clear ey42
                            refine mm_ladd C (mm_dec dk_X12_draw 146 rfl) ?_
                            have g43 : -9223372036854775808 ≤ (mm_vladd p4 y42) ∧ (mm_vladd p4 y42) < 9223372036854775808 := mm_rng64 _
                            obtain ⟨y43, ey43⟩ : ∃ z, z = (mm_vladd p4 y42) := ⟨_, rfl⟩
                            rw [← ey43] at g43 ⊢
                            clear ey43
                            refine mm_ldc2 (z := 99999) C (mm_dec dk_X12_draw 147 rfl) kc_X12_521 (by decide) ?_
                            have J269 : ∀ (s269_0 : Int) (bs269_0 : -1 ≤ s269_0 ∧ s269_0 ≤ 1) (vs269_0 : (y43 < 99999 ∧ s269_0 = -1) ∨ (y43 = 99999 ∧ s269_0 = 0) ∨ (99999 < y43 ∧ s269_0 = 1)), mm_W x 0 0 269 [mR 66, mU, mU, mU, mI p4, mI x59_5, mU, mU, mU, mU, mU] [mI s269_0] h169_ := by
                              intro s269_0 bs269_0 vs269_0
                              have g44 : 0 ≤ h169_.1 66 40 ∧ h169_.1 66 40 ≤ 500 := i169_.1 66 40
                              have g45 : 0 ≤ h169_.1 66 41 ∧ h169_.1 66 41 ≤ 99999 := i169_.1 66 41
                              have g46 : 0 ≤ h169_.1 66 23 ∧ h169_.1 66 23 ≤ 40 := i169_.1 66 23
                              refine mm_if_gt (tgt := 285) C (mm_dec dk_X12_draw 149 rfl) (by decide) (fun c269 => ?_) (fun c269 => ?_)
                              · skip
                                refine mm_fgt 0 ?_
                                refine mm_fgt 4 ?_
                                refine mm_fgt 5 ?_
                                exact J285
                              · skip
                                refine mm_aload_n C (mm_dec dk_X12_draw 150 rfl) rfl ?_
                                refine mm_geti C fl_X12_228 (mm_dec dk_X12_draw 151 rfl) rfl rfl (Or.inl rfl) ?_
                                refine mm_iload C (mm_dec dk_X12_draw 152 rfl) rfl ?_
                                refine mm_iadd C (mm_dec dk_X12_draw 153 rfl) ⟨by omega, by omega⟩ ?_
                                refine mm_sipush C (mm_dec dk_X12_draw 154 rfl) ⟨by decide, by decide⟩ ?_
                                refine mm_icmp_le (tgt := 287) C (mm_dec dk_X12_draw 155 rfl) (by decide) (fun c282 => ?_) (fun c282 => ?_)
                                · skip
                                  refine mm_iconst C (mm_dec dk_X12_draw 158 rfl) ⟨by decide, by decide⟩ ?_
                                  refine mm_istoreL (ls2 := [mR 66, mU, mU, mU, mI p4, mI x59_5, mU, mU, mI (-1), mU, mU]) C (mm_dec dk_X12_draw 159 rfl) (by decide) rfl ?_
                                  refine mm_iconst C (mm_dec dk_X12_draw 160 rfl) ⟨by decide, by decide⟩ ?_
                                  have J293 : ∀ (n : Nat) (x293_8 : Int) (bx293_8 : -1 ≤ x293_8 ∧ x293_8 ≤ 9) (x293_9 : Int) (bx293_9 : 0 ≤ x293_9 ∧ x293_9 ≤ 40) (h293_ : mH) (i293_ : mm_inv h293_) (f293_ : mm_fr [(66, 0), (66, 40)] [92, 93, 94, 95, 96, 97, 117, 118, 119] h h293_) (w293_0 : mm_dw h293_ x59_5 (x59_5 - x293_9)) (w293_1 : mm_fo1 h293_ x293_8 (x59_5 - x293_9) 10) (w293_2 : h293_.1 66 40 + x59_5 - x293_9 ≤ 500) (w293_3 : x293_9 ≤ x59_5), (40 - x293_9 : Int) < n → mm_W x 0 0 293 [mR 66, mU, mU, mU, mI p4, mI x59_5, mU, mU, mI x293_8, mI x293_9, mU] [] h293_ := by
                                    intro n
                                    induction n with
                                    | zero =>
                                      intro x293_8 bx293_8 x293_9 bx293_9 h293_ i293_ f293_ w293_0 w293_1 w293_2 w293_3 hm
                                      have g47 : 0 ≤ h293_.1 66 40 ∧ h293_.1 66 40 ≤ 500 := i293_.1 66 40
                                      have g48 : 0 ≤ h293_.1 66 41 ∧ h293_.1 66 41 ≤ 99999 := i293_.1 66 41
                                      have g49 : 0 ≤ h293_.1 66 23 ∧ h293_.1 66 23 ≤ 40 := i293_.1 66 23
                                      exfalso; omega
                                    | succ n ih293 =>
                                      intro x293_8 bx293_8 x293_9 bx293_9 h293_ i293_ f293_ w293_0 w293_1 w293_2 w293_3 hm293
                                      have g50 : 0 ≤ h293_.1 66 40 ∧ h293_.1 66 40 ≤ 500 := i293_.1 66 40
                                      have g51 : 0 ≤ h293_.1 66 41 ∧ h293_.1 66 41 ≤ 99999 := i293_.1 66 41
                                      have g52 : 0 ≤ h293_.1 66 23 ∧ h293_.1 66 23 ≤ 40 := i293_.1 66 23
                                      have g53 : h293_.1 66 41 = h.1 66 41 := f293_.1 66 41 (by decide)
                                      have g54 : h293_.1 66 23 = h.1 66 23 := f293_.1 66 23 (by decide)
                                      refine mm_iload C (mm_dec dk_X12_draw 162 rfl) rfl ?_
                                      refine mm_iload C (mm_dec dk_X12_draw 163 rfl) rfl ?_
                                      refine mm_icmp_ge (tgt := 394) C (mm_dec dk_X12_draw 164 rfl) (by decide) (fun c297 => ?_) (fun c297 => ?_)
                                      · skip
                                        refine mm_iload C (mm_dec dk_X12_draw 219 rfl) rfl ?_
                                        exact mm_iret C T (mm_dec dk_X12_draw 220 rfl) (by decide : 0 ≤ 0) (by decide : 0 ≤ 0) ⟨_, rfl, ⟨⟨by omega, by omega⟩, i293_, f293_⟩⟩
                                      · skip
                                        obtain ⟨zk0, zk1, zk2, zk3⟩ := mm_ex_next w293_0 w293_1 (by omega)
                                        refine mm_iconst C (mm_dec dk_X12_draw 165 rfl) ⟨by decide, by decide⟩ ?_
                                        have J303 : ∀ (n : Nat) (x303_10 : Int) (bx303_10 : 0 ≤ x303_10 ∧ x303_10 ≤ 39) (h303_ : mH) (i303_ : mm_inv h303_) (f303_ : mm_fr [(66, 0), (66, 40)] [92, 93, 94, 95, 96, 97, 117, 118, 119] h h303_) (w303_0 : mm_dw h303_ x59_5 (x59_5 - x293_9)) (w303_1 : ∃ k, x303_10 ≤ k ∧ k < x59_5 ∧ mm_nxt h303_ k x293_8 (x59_5 - x293_9)) (w303_2 : h303_.1 66 40 + x59_5 - x293_9 ≤ 500), (39 - x303_10 : Int) < n → mm_W x 0 0 303 [mR 66, mU, mU, mU, mI p4, mI x59_5, mU, mU, mI x293_8, mI x293_9, mI x303_10] [] h303_ := by
                                          intro n
                                          induction n with
                                          | zero =>
                                            intro x303_10 bx303_10 h303_ i303_ f303_ w303_0 w303_1 w303_2 hm
                                            have g55 : 0 ≤ h303_.1 66 40 ∧ h303_.1 66 40 ≤ 500 := i303_.1 66 40
                                            have g56 : 0 ≤ h303_.1 66 41 ∧ h303_.1 66 41 ≤ 99999 := i303_.1 66 41
                                            have g57 : 0 ≤ h303_.1 66 23 ∧ h303_.1 66 23 ≤ 40 := i303_.1 66 23
                                            exfalso; omega
                                          | succ n ih303 =>
                                            intro x303_10 bx303_10 h303_ i303_ f303_ w303_0 w303_1 w303_2 hm303
                                            have g58 : 0 ≤ h303_.1 66 40 ∧ h303_.1 66 40 ≤ 500 := i303_.1 66 40
                                            have g59 : 0 ≤ h303_.1 66 41 ∧ h303_.1 66 41 ≤ 99999 := i303_.1 66 41
                                            have g60 : 0 ≤ h303_.1 66 23 ∧ h303_.1 66 23 ≤ 40 := i303_.1 66 23
                                            have g61 : h303_.1 66 41 = h.1 66 41 := f303_.1 66 41 (by decide)
                                            have g62 : h303_.1 66 23 = h.1 66 23 := f303_.1 66 23 (by decide)
                                            obtain ⟨ze, ze1, ze2, ze3⟩ := w303_1
                                            refine mm_aload_n C (mm_dec dk_X12_draw 167 rfl) rfl ?_
                                            refine mm_iload C (mm_dec dk_X12_draw 168 rfl) rfl ?_
                                            refine mm_iload C (mm_dec dk_X12_draw 169 rfl) rfl ?_
                                            refine mm_iload C (mm_dec dk_X12_draw 170 rfl) rfl ?_
                                            refine mm_iload C (mm_dec dk_X12_draw 171 rfl) rfl ?_
                                            refine mm_isub C (mm_dec dk_X12_draw 172 rfl) ⟨by omega, by omega⟩ ?_
                                            refine mm_cVi (rest := []) C1 ev_X12_523 (mm_dec dk_X12_draw 173 rfl) (c_X12_isNext_x x.2.1 hl (d - 1) (by omega) h303_ i303_ x303_10 x293_8 (x59_5 - x293_9) ⟨by omega, by omega⟩ ⟨by omega, by omega⟩ (by exact mm_dw_rg w303_0)) rfl rfl (Nat.le_of_ble_eq_true rfl) ⟨by decide, by decide⟩ rfl (fun r313 h313c hp313 => ?_) (fun _ _ q => q.elim)
                                            obtain ⟨b313, i313c, g313c, y313_0, y313_1, y313_2⟩ := hp313
                                            have f313c : mm_fr [(66, 0), (66, 40)] [92, 93, 94, 95, 96, 97, 117, 118, 119] h h313c := mm_fr_tr f303_ g313c (by decide +kernel)
                                            have q313c_64 : h313c.1 66 23 = h303_.1 66 23 := g313c.1 66 23 (by decide)
                                            have q313c_65 : h313c.1 66 40 = h303_.1 66 40 := g313c.1 66 40 (by decide)
                                            have q313c_66 : h313c.1 66 41 = h303_.1 66 41 := g313c.1 66 41 (by decide)
                                            have zw := mm_dw_fr w303_0 g313c (by decide) y313_0
                                            have zx := mm_nxt_eq ze3 g313c (by decide) y313_0
                                            refine mm_if_ne (tgt := 325) C (mm_dec dk_X12_draw 174 rfl) (by decide) (fun c316 => ?_) (fun c316 => ?_)
                                            · skip
                                              have zt := mm_nxt_eq (y313_1.resolve_left (by omega)) g313c (by decide) y313_0
                                              refine mm_aload_n C (mm_dec dk_X12_draw 177 rfl) rfl ?_
                                              refine mm_getr (t := 119) C fl_X12_168 (mm_dec dk_X12_draw 178 rfl) rfl rfl (mm_ref i313c rfl) ?_
                                              refine mm_aload_n C (mm_dec dk_X12_draw 179 rfl) rfl ?_
                                              refine mm_getr (t := 117) C fl_X12_162 (mm_dec dk_X12_draw 180 rfl) rfl rfl (mm_ref i313c rfl) ?_
                                              refine mm_iload C (mm_dec dk_X12_draw 181 rfl) rfl ?_
                                              refine mm_iald C (mm_dec dk_X12_draw 182 rfl) rfl (by omega) (by omega) ?_
                                              have g67 : 0 ≤ (h313c.2.1 117 x303_10) ∧ (h313c.2.1 117 x303_10) ≤ 39 := i313c.2.1 117 x303_10
                                              refine mm_iconst C (mm_dec dk_X12_draw 183 rfl) ⟨by decide, by decide⟩ ?_
                                              refine mm_zast C (mm_dec dk_X12_draw 184 rfl) rfl (by omega) (by omega) (by omega) ?_
                                              have i3 : mm_inv (mm_pa h313c 119 (h313c.2.1 117 x303_10) 1) := mm_inv_pa i313c (show 0 ≤ 1 ∧ 1 ≤ 1 from ⟨by omega, by omega⟩)
                                              have f3 : mm_fr [(66, 0), (66, 40)] [92, 93, 94, 95, 96, 97, 117, 118, 119] h (mm_pa h313c 119 (h313c.2.1 117 x303_10) 1) := mm_fr_pa f313c (by decide)
                                              obtain ⟨h3, eh3⟩ : ∃ z, z = mm_pa h313c 119 (h313c.2.1 117 x303_10) 1 := ⟨_, rfl⟩
                                              rw [← eh3] at i3 f3 ⊢
                                              have qh3_68 : h3.1 66 23 = h313c.1 66 23 := by rw [eh3]; rfl
                                              have qh3_69 : h3.1 66 40 = h313c.1 66 40 := by rw [eh3]; rfl
                                              have qh3_70 : h3.1 66 41 = h313c.1 66 41 := by rw [eh3]; rfl
                                              refine mm_aload_n C (mm_dec dk_X12_draw 185 rfl) rfl ?_
                                              refine mm_getr (t := 86) C fl_X12_69 (mm_dec dk_X12_draw 186 rfl) rfl rfl (mm_ref i3 rfl) ?_
                                              refine mm_aload_n C (mm_dec dk_X12_draw 187 rfl) rfl ?_
                                              refine mm_getr (t := 117) C fl_X12_162 (mm_dec dk_X12_draw 188 rfl) rfl rfl (mm_ref i3 rfl) ?_
                                              refine mm_iload C (mm_dec dk_X12_draw 189 rfl) rfl ?_
                                              refine mm_iald C (mm_dec dk_X12_draw 190 rfl) rfl (by omega) (by omega) ?_
                                              have g71 : 0 ≤ (h3.2.1 117 x303_10) ∧ (h3.2.1 117 x303_10) ≤ 39 := i3.2.1 117 x303_10
                                              refine mm_iald C (mm_dec dk_X12_draw 191 rfl) rfl (by omega) (by omega) ?_
                                              have g72 : 0 ≤ (h3.2.1 86 (h3.2.1 117 x303_10)) ∧ (h3.2.1 86 (h3.2.1 117 x303_10)) ≤ 9 := i3.2.1 86 (h3.2.1 117 x303_10)
                                              refine mm_istoreL (ls2 := [mR 66, mU, mU, mU, mI p4, mI x59_5, mU, mU, mI (h3.2.1 86 (h3.2.1 117 x303_10)), mI x293_9, mI x303_10]) C (mm_dec dk_X12_draw 192 rfl) (by decide) rfl ?_
                                              refine mm_aload_n C (mm_dec dk_X12_draw 193 rfl) rfl ?_
                                              refine mm_getr (t := 118) C fl_X12_165 (mm_dec dk_X12_draw 194 rfl) rfl rfl (mm_ref i3 rfl) ?_
                                              refine mm_iload C (mm_dec dk_X12_draw 195 rfl) rfl ?_
                                              refine mm_dup2 C (mm_dec dk_X12_draw 196 rfl) (show (0 : Nat) ≠ 1 by decide) (show (2 : Nat) ≠ 1 by decide) ?_
                                              refine mm_iald C (mm_dec dk_X12_draw 197 rfl) rfl (by omega) (by omega) ?_
                                              have g73 : -2147483648 ≤ (h3.2.1 118 (h3.2.1 86 (h3.2.1 117 x303_10))) ∧ (h3.2.1 118 (h3.2.1 86 (h3.2.1 117 x303_10))) ≤ 2147483647 := i3.2.1 118 (h3.2.1 86 (h3.2.1 117 x303_10))
                                              refine mm_iconst C (mm_dec dk_X12_draw 198 rfl) ⟨by decide, by decide⟩ ?_
                                              refine mm_isubw C (mm_dec dk_X12_draw 199 rfl) ?_
                                              have g74 : -2147483648 ≤ (mm_w ((h3.2.1 118 (h3.2.1 86 (h3.2.1 117 x303_10))) - 1)) ∧ (mm_w ((h3.2.1 118 (h3.2.1 86 (h3.2.1 117 x303_10))) - 1)) < 2147483648 := mm_w_rg _
                                              refine mm_iast C (mm_dec dk_X12_draw 200 rfl) rfl (by omega) (by omega) ?_
                                              have i4 : mm_inv (mm_pa h3 118 (h3.2.1 86 (h3.2.1 117 x303_10)) (mm_w ((h3.2.1 118 (h3.2.1 86 (h3.2.1 117 x303_10))) - 1))) := mm_inv_pa i3 (show -2147483648 ≤ (mm_w ((h3.2.1 118 (h3.2.1 86 (h3.2.1 117 x303_10))) - 1)) ∧ (mm_w ((h3.2.1 118 (h3.2.1 86 (h3.2.1 117 x303_10))) - 1)) ≤ 2147483647 from ⟨by omega, by omega⟩)
                                              have f4 : mm_fr [(66, 0), (66, 40)] [92, 93, 94, 95, 96, 97, 117, 118, 119] h (mm_pa h3 118 (h3.2.1 86 (h3.2.1 117 x303_10)) (mm_w ((h3.2.1 118 (h3.2.1 86 (h3.2.1 117 x303_10))) - 1))) := mm_fr_pa f3 (by decide)
                                              obtain ⟨h4, eh4⟩ : ∃ z, z = mm_pa h3 118 (h3.2.1 86 (h3.2.1 117 x303_10)) (mm_w ((h3.2.1 118 (h3.2.1 86 (h3.2.1 117 x303_10))) - 1)) := ⟨_, rfl⟩
                                              rw [← eh4] at i4 f4 ⊢
                                              have qh4_75 : h4.1 66 23 = h3.1 66 23 := by rw [eh4]; rfl
                                              have qh4_76 : h4.1 66 40 = h3.1 66 40 := by rw [eh4]; rfl
                                              have qh4_77 : h4.1 66 41 = h3.1 66 41 := by rw [eh4]; rfl
                                              have zq : h3.2.1 86 (h3.2.1 117 x303_10) = h313c.2.1 86 (h313c.2.1 117 x303_10) := by rw [eh3, mm_pa_o 86 119 (by decide), mm_pa_o 117 119 (by decide)]
                                              have zg : (0 : Int) ≤ h3.2.1 86 (h3.2.1 117 x303_10) ∧ h3.2.1 86 (h3.2.1 117 x303_10) ≤ 9 := i3.2.1 86 _
                                              have zr := mm_dw_rg zw (h3.2.1 86 (h3.2.1 117 x303_10)) (by omega) (by omega)
                                              have zs : ∀ c, h3.2.1 118 c = h313c.2.1 118 c := fun c => by rw [eh3, mm_pa_o 118 119 (by decide)]
                                              have zT := mm_dw_take (h2 := h4) i313c zw ⟨by omega, by omega⟩ zt eh3 zq (by rw [eh4, zs, mm_w_id ⟨by omega, by omega⟩])
                                              refine mm_aload_n C (mm_dec dk_X12_draw 201 rfl) rfl ?_
                                              refine mm_iconst C (mm_dec dk_X12_draw 202 rfl) ⟨by decide, by decide⟩ ?_
                                              refine mm_aload_n C (mm_dec dk_X12_draw 203 rfl) rfl ?_
                                              refine mm_getr (t := 117) C fl_X12_162 (mm_dec dk_X12_draw 204 rfl) rfl rfl (mm_ref i4 rfl) ?_
                                              refine mm_iload C (mm_dec dk_X12_draw 205 rfl) rfl ?_
                                              refine mm_iald C (mm_dec dk_X12_draw 206 rfl) rfl (by omega) (by omega) ?_
                                              have g78 : 0 ≤ (h4.2.1 117 x303_10) ∧ (h4.2.1 117 x303_10) ≤ 39 := i4.2.1 117 x303_10
                                              refine mm_iconst C (mm_dec dk_X12_draw 207 rfl) ⟨by decide, by decide⟩ ?_
                                              refine mm_iload C (mm_dec dk_X12_draw 208 rfl) rfl ?_
                                              refine mm_iload C (mm_dec dk_X12_draw 209 rfl) rfl ?_
                                              refine mm_aload_n C (mm_dec dk_X12_draw 210 rfl) rfl ?_
                                              refine mm_iconst C (mm_dec dk_X12_draw 211 rfl) ⟨by decide, by decide⟩ ?_
                                              refine mm_cVi (rest := [mI x293_9, mI p4, mI 0, mI (h4.2.1 117 x303_10), mI 0, mR 66]) C1 ev_X12_460 (mm_dec dk_X12_draw 212 rfl) (c_X12_paramOf x.2.1 hl (d - 1) (by omega) h4 i4 1 ⟨by omega, by omega⟩) rfl rfl (Nat.le_of_ble_eq_true rfl) ⟨by decide, by decide⟩ rfl (fun r379 h379c hp379 => ?_) (fun _ _ q => q.elim)
                                              obtain ⟨z379, y379⟩ := hp379
                                              rw [z379]
                                              have g80 : 0 ≤ (h4.1 66 67) ∧ (h4.1 66 67) ≤ 1 := i4.1 66 67
                                              have g81 : -2147483648 ≤ (h4.2.1 102 ((3 * (h4.1 66 68)) + 1)) ∧ (h4.2.1 102 ((3 * (h4.1 66 68)) + 1)) ≤ 2147483647 := i4.2.1 102 ((3 * (h4.1 66 68)) + 1)
                                              have g82 : 0 ≤ (h4.1 66 68) ∧ (h4.1 66 68) ≤ 1 := i4.1 66 68
                                              refine mm_imulw C (mm_dec dk_X12_draw 213 rfl) ?_
                                              have g83 : -2147483648 ≤ (mm_w (x293_9 * r379)) ∧ (mm_w (x293_9 * r379)) < 2147483648 := mm_w_rg _
                                              refine mm_iaddw C (mm_dec dk_X12_draw 214 rfl) ?_
                                              have g84 : -2147483648 ≤ (mm_w (p4 + (mm_w (x293_9 * r379)))) ∧ (mm_w (p4 + (mm_w (x293_9 * r379)))) < 2147483648 := mm_w_rg _
                                              refine mm_cVi (rest := []) C1 ev_X12_315 (mm_dec dk_X12_draw 215 rfl) (c_X12_tells x.2.1 hl (d - 1) (by omega) h4 i4 0 (h4.2.1 117 x303_10) 0 (mm_w (p4 + (mm_w (x293_9 * r379)))) ⟨by omega, by omega⟩ (by omega)) rfl rfl (Nat.le_of_ble_eq_true rfl) ⟨by decide, by decide⟩ rfl (fun r384 h384c hp384 => ?_) (fun _ _ q => q.elim)
                                              obtain ⟨b384, i384c, g384c, y384_0⟩ := hp384
                                              have f384c : mm_fr [(66, 0), (66, 40)] [92, 93, 94, 95, 96, 97, 117, 118, 119] h h384c := mm_fr_tr f4 g384c (by decide +kernel)
                                              have q384c_86 : h384c.1 66 23 = h4.1 66 23 := g384c.1 66 23 (by decide)
                                              have q384c_87 : h384c.1 66 41 = h4.1 66 41 := g384c.1 66 41 (by decide)
                                              have q384c_88 : h384c.1 66 67 = h4.1 66 67 := g384c.1 66 67 (by decide)
                                              have q384c_89 : h384c.1 66 68 = h4.1 66 68 := g384c.1 66 68 (by decide)
                                              have g90 : 0 ≤ (h384c.1 66 40) ∧ (h384c.1 66 40) ≤ 500 := i384c.1 66 40
                                              refine mm_pop C (mm_dec dk_X12_draw 216 rfl) (show (0 : Nat) ≠ 1 by decide) ?_
                                              have zU := mm_dw_fr zT.1 g384c (by decide) (fun c => g384c.2 118 (by decide) c)
                                              have zV := mm_fo1_eq (fun c => g384c.2 118 (by decide) c) zT.2
                                              refine mm_iincL (ls2 := [mR 66, mU, mU, mU, mI p4, mI x59_5, mU, mU, mI (h3.2.1 86 (h3.2.1 117 x303_10)), mI (x293_9 + 1), mI x303_10]) C (mm_dec dk_X12_draw 217 rfl) rfl (by decide) ⟨by omega, by omega⟩ rfl ?_
                                              refine mm_goto (tgt := 293) C (mm_dec dk_X12_draw 218 rfl) (by decide) ?_
                                              refine mm_fgt 10 ?_
                                              exact ih293 (h3.2.1 86 (h3.2.1 117 x303_10)) ⟨by omega, by omega⟩ (x293_9 + 1) ⟨by omega, by omega⟩ h384c i384c f384c (by first | (rw [show x59_5 - (x293_9 + 1) = x59_5 - x293_9 - 1 by omega]; exact zU) | (rw [show x59_5 - 0 = x59_5 by omega]; exact w169_0)) (by first | (rw [show x59_5 - (x293_9 + 1) = x59_5 - x293_9 - 1 by omega]; exact zV) | (rw [show x59_5 - 0 = x59_5 by omega]; exact y243_0.resolve_left (by omega))) (by omega) (by omega) (by omega)
                                            · skip
                                              have zn : ze ≠ x303_10 := fun q => (y313_2.resolve_left (by omega)) (by rw [← q]; exact ze3)
                                              refine mm_iincL (ls2 := [mR 66, mU, mU, mU, mI p4, mI x59_5, mU, mU, mI x293_8, mI x293_9, mI (x303_10 + 1)]) C (mm_dec dk_X12_draw 175 rfl) rfl (by decide) ⟨by omega, by omega⟩ rfl ?_
                                              refine mm_goto (tgt := 303) C (mm_dec dk_X12_draw 176 rfl) (by decide) ?_
                                              exact ih303 (x303_10 + 1) ⟨by omega, by omega⟩ h313c i313c f313c (by first | exact zw | exact w293_0) (by first | exact ⟨ze, by omega, ze2, zx⟩ | exact ⟨zk0, zk1, zk2, zk3⟩) (by omega) (by omega)
                                        refine mm_istoreL (ls2 := [mR 66, mU, mU, mU, mI p4, mI x59_5, mU, mU, mI x293_8, mI x293_9, mI 0]) C (mm_dec dk_X12_draw 166 rfl) (by decide) rfl ?_
                                        exact J303 (((39 - 0) : Int) + 1).toNat 0 ⟨by omega, by omega⟩ h293_ i293_ f293_ (by first | exact zw | exact w293_0) (by first | exact ⟨ze, by omega, ze2, zx⟩ | exact ⟨zk0, zk1, zk2, zk3⟩) (by omega) (by omega)
                                  refine mm_istoreL (ls2 := [mR 66, mU, mU, mU, mI p4, mI x59_5, mU, mU, mI (-1), mI 0, mU]) C (mm_dec dk_X12_draw 161 rfl) (by decide) rfl ?_
                                  exact J293 (((40 - 0) : Int) + 1).toNat (-1) ⟨by omega, by omega⟩ 0 ⟨by omega, by omega⟩ h169_ i169_ f169_ (by first | (rw [show x59_5 - (x293_9 + 1) = x59_5 - x293_9 - 1 by omega]; exact zU) | (rw [show x59_5 - 0 = x59_5 by omega]; exact w169_0)) (by first | (rw [show x59_5 - (x293_9 + 1) = x59_5 - x293_9 - 1 by omega]; exact zV) | (rw [show x59_5 - 0 = x59_5 by omega]; exact y243_0.resolve_left (by omega))) (by omega) (by omega) (by omega)
                                · skip
                                  refine mm_fgt 0 ?_
                                  refine mm_fgt 4 ?_
                                  refine mm_fgt 5 ?_
                                  exact J285
                            refine mm_lcmp C (mm_dec dk_X12_draw 148 rfl) (fun c268 => ?_) (fun c268 => ?_) (fun c268 => ?_)
                            · skip
                              refine mm_fgt 6 ?_
                              refine mm_fgt 8 ?_
                              exact J269 1 ⟨by omega, by omega⟩ (Or.inr (Or.inr (⟨by omega, rfl⟩)))
                            · skip
                              refine mm_fgt 6 ?_
                              refine mm_fgt 8 ?_
                              exact J269 0 ⟨by omega, by omega⟩ (Or.inr (Or.inl ⟨by omega, rfl⟩))
                            · skip
                              refine mm_fgt 6 ?_
                              refine mm_fgt 8 ?_
                              exact J269 (-1) ⟨by omega, by omega⟩ (Or.inl ⟨by omega, rfl⟩)
                        · skip
                          refine mm_lload C (mm_dec dk_X12_draw 94 rfl) rfl ?_
                          refine mm_ldc2 (z := 6364136223846793005) C (mm_dec dk_X12_draw 95 rfl) kc_X12_514 (by decide) ?_
                          refine mm_lmul C (mm_dec dk_X12_draw 96 rfl) ?_
                          have g91 : -9223372036854775808 ≤ (mm_vlmul x169_6 6364136223846793005) ∧ (mm_vlmul x169_6 6364136223846793005) < 9223372036854775808 := mm_rng64 _
                          obtain ⟨y91, ey91⟩ : ∃ z, z = (mm_vlmul x169_6 6364136223846793005) := ⟨_, rfl⟩
                          rw [← ey91] at g91 ⊢
                          clear ey91
                          refine mm_ldc2 (z := 1442695040888963407) C (mm_dec dk_X12_draw 97 rfl) kc_X12_516 (by decide) ?_
                          refine mm_ladd C (mm_dec dk_X12_draw 98 rfl) ?_
                          have g92 : -9223372036854775808 ≤ (mm_vladd y91 1442695040888963407) ∧ (mm_vladd y91 1442695040888963407) < 9223372036854775808 := mm_rng64 _
                          obtain ⟨y92, ey92⟩ : ∃ z, z = (mm_vladd y91 1442695040888963407) := ⟨_, rfl⟩
                          rw [← ey92] at g92 ⊢
                          clear ey92
                          refine mm_lstoreL (ls2 := [mR 66, mU, mU, mU, mI p4, mI x59_5, mL y92, mU, mI x169_8, mU, mU]) C (mm_dec dk_X12_draw 99 rfl) (by decide) rfl ?_
                          refine mm_lload C (mm_dec dk_X12_draw 100 rfl) rfl ?_
                          refine mm_bipush C (mm_dec dk_X12_draw 101 rfl) ⟨by decide, by decide⟩ ?_
                          refine mm_lushr C (mm_dec dk_X12_draw 102 rfl) ?_
                          have g93 : -9223372036854775808 ≤ (mm_vlushr y92 33) ∧ (mm_vlushr y92 33) < 9223372036854775808 := mm_rng64 _
                          refine mm_iload C (mm_dec dk_X12_draw 103 rfl) rfl ?_
                          refine mm_iconst C (mm_dec dk_X12_draw 104 rfl) ⟨by decide, by decide⟩ ?_
                          refine mm_iadd C (mm_dec dk_X12_draw 105 rfl) ⟨by omega, by omega⟩ ?_
                          refine mm_i2l C (mm_dec dk_X12_draw 106 rfl) ?_
                          refine mm_lrem C (mm_dec dk_X12_draw 107 rfl) (by omega) ?_
                          have g94 : -9223372036854775808 ≤ (mm_vlrem (mm_vlushr y92 33) (x169_8 + 1)) ∧ (mm_vlrem (mm_vlushr y92 33) (x169_8 + 1)) < 9223372036854775808 := mm_rng64 _
                          refine mm_l2i C (mm_dec dk_X12_draw 108 rfl) ?_
                          have g95 : 0 ≤ (mm_vl2i (mm_vlrem (mm_vlushr y92 33) (x169_8 + 1))) ∧ (mm_vl2i (mm_vlrem (mm_vlushr y92 33) (x169_8 + 1))) < (x169_8 + 1) := mm_lot ⟨by omega, by omega⟩
                          obtain ⟨y95, ey95⟩ : ∃ z, z = (mm_vl2i (mm_vlrem (mm_vlushr y92 33) (x169_8 + 1))) := ⟨_, rfl⟩
                          rw [← ey95] at g95 ⊢
                          clear ey95
                          refine mm_istoreL (ls2 := [mR 66, mU, mU, mU, mI p4, mI x59_5, mL y92, mU, mI x169_8, mI y95, mU]) C (mm_dec dk_X12_draw 109 rfl) (by decide) rfl ?_
                          refine mm_aload_n C (mm_dec dk_X12_draw 110 rfl) rfl ?_
                          refine mm_getr (t := 117) C fl_X12_162 (mm_dec dk_X12_draw 111 rfl) rfl rfl (mm_ref i169_ rfl) ?_
                          refine mm_iload C (mm_dec dk_X12_draw 112 rfl) rfl ?_
                          refine mm_iald C (mm_dec dk_X12_draw 113 rfl) rfl (by omega) (by omega) ?_
                          have g96 : 0 ≤ (h169_.2.1 117 x169_8) ∧ (h169_.2.1 117 x169_8) ≤ 39 := i169_.2.1 117 x169_8
                          refine mm_istoreL (ls2 := [mR 66, mU, mU, mU, mI p4, mI x59_5, mL y92, mU, mI x169_8, mI y95, mI (h169_.2.1 117 x169_8)]) C (mm_dec dk_X12_draw 114 rfl) (by decide) rfl ?_
                          refine mm_aload_n C (mm_dec dk_X12_draw 115 rfl) rfl ?_
                          refine mm_getr (t := 117) C fl_X12_162 (mm_dec dk_X12_draw 116 rfl) rfl rfl (mm_ref i169_ rfl) ?_
                          refine mm_iload C (mm_dec dk_X12_draw 117 rfl) rfl ?_
                          refine mm_aload_n C (mm_dec dk_X12_draw 118 rfl) rfl ?_
                          refine mm_getr (t := 117) C fl_X12_162 (mm_dec dk_X12_draw 119 rfl) rfl rfl (mm_ref i169_ rfl) ?_
                          refine mm_iload C (mm_dec dk_X12_draw 120 rfl) rfl ?_
                          refine mm_iald C (mm_dec dk_X12_draw 121 rfl) rfl (by omega) (by omega) ?_
                          have g97 : 0 ≤ (h169_.2.1 117 y95) ∧ (h169_.2.1 117 y95) ≤ 39 := i169_.2.1 117 y95
                          refine mm_iast C (mm_dec dk_X12_draw 122 rfl) rfl (by omega) (by omega) ?_
                          have i6 : mm_inv (mm_pa h169_ 117 x169_8 (h169_.2.1 117 y95)) := mm_inv_pa i169_ (show 0 ≤ (h169_.2.1 117 y95) ∧ (h169_.2.1 117 y95) ≤ 39 from ⟨by omega, by omega⟩)
                          have f6 : mm_fr [(66, 0), (66, 40)] [92, 93, 94, 95, 96, 97, 117, 118, 119] h (mm_pa h169_ 117 x169_8 (h169_.2.1 117 y95)) := mm_fr_pa f169_ (by decide)
                          obtain ⟨h6, eh6⟩ : ∃ z, z = mm_pa h169_ 117 x169_8 (h169_.2.1 117 y95) := ⟨_, rfl⟩
                          rw [← eh6] at i6 f6 ⊢
                          have qh6_98 : h6.1 66 23 = h169_.1 66 23 := by rw [eh6]; rfl
                          have qh6_99 : h6.1 66 40 = h169_.1 66 40 := by rw [eh6]; rfl
                          have qh6_100 : h6.1 66 41 = h169_.1 66 41 := by rw [eh6]; rfl
                          refine mm_aload_n C (mm_dec dk_X12_draw 123 rfl) rfl ?_
                          refine mm_getr (t := 117) C fl_X12_162 (mm_dec dk_X12_draw 124 rfl) rfl rfl (mm_ref i6 rfl) ?_
                          refine mm_iload C (mm_dec dk_X12_draw 125 rfl) rfl ?_
                          refine mm_iload C (mm_dec dk_X12_draw 126 rfl) rfl ?_
                          refine mm_iast C (mm_dec dk_X12_draw 127 rfl) rfl (by omega) (by omega) ?_
                          have i7 : mm_inv (mm_pa h6 117 y95 (h169_.2.1 117 x169_8)) := mm_inv_pa i6 (show 0 ≤ (h169_.2.1 117 x169_8) ∧ (h169_.2.1 117 x169_8) ≤ 39 from ⟨by omega, by omega⟩)
                          have f7 : mm_fr [(66, 0), (66, 40)] [92, 93, 94, 95, 96, 97, 117, 118, 119] h (mm_pa h6 117 y95 (h169_.2.1 117 x169_8)) := mm_fr_pa f6 (by decide)
                          obtain ⟨h7, eh7⟩ : ∃ z, z = mm_pa h6 117 y95 (h169_.2.1 117 x169_8) := ⟨_, rfl⟩
                          rw [← eh7] at i7 f7 ⊢
                          have qh7_101 : h7.1 66 23 = h6.1 66 23 := by rw [eh7]; rfl
                          have qh7_102 : h7.1 66 40 = h6.1 66 40 := by rw [eh7]; rfl
                          have qh7_103 : h7.1 66 41 = h6.1 66 41 := by rw [eh7]; rfl
                          have zS := mm_dw_swap w169_0 (i := x169_8) (j := y95) ⟨by omega, by omega⟩ ⟨by omega, by omega⟩ eh6 eh7
                          refine mm_iincL (ls2 := [mR 66, mU, mU, mU, mI p4, mI x59_5, mL y92, mU, mI (x169_8 + (-1)), mI y95, mI (h169_.2.1 117 x169_8)]) C (mm_dec dk_X12_draw 128 rfl) rfl (by decide) ⟨by omega, by omega⟩ rfl ?_
                          refine mm_goto (tgt := 169) C (mm_dec dk_X12_draw 129 rfl) (by decide) ?_
                          refine mm_fgt 9 ?_
                          refine mm_fgt 10 ?_
                          exact ih169 y92 ⟨by omega, by omega⟩ (x169_8 + (-1)) ⟨by omega, by omega⟩ h7 i7 f7 (by first | exact w59_0 | exact zS) (by omega) (by omega)
                    refine mm_istoreL (ls2 := [mR 66, mI p1, mL p2, mU, mI p4, mI x59_5, mL p2, mU, mI (x59_5 - 1), mU, mU]) C (mm_dec dk_X12_draw 90 rfl) (by decide) rfl ?_
                    refine mm_fgt 1 ?_
                    refine mm_fgt 2 ?_
                    exact J169 ((((x59_5 - 1) - (-1)) : Int) + 1).toNat p2 ⟨by omega, by omega⟩ (x59_5 - 1) ⟨by omega, by omega⟩ h59_ i59_ f59_ (by first | exact w59_0 | exact zS) (by omega) (by omega)
                  · skip
                    refine mm_aload_n C (mm_dec dk_X12_draw 35 rfl) rfl ?_
                    refine mm_getr (t := 119) C fl_X12_168 (mm_dec dk_X12_draw 36 rfl) rfl rfl (mm_ref i59_ rfl) ?_
                    refine mm_iload C (mm_dec dk_X12_draw 37 rfl) rfl ?_
                    refine mm_iconst C (mm_dec dk_X12_draw 38 rfl) ⟨by decide, by decide⟩ ?_
                    refine mm_zast C (mm_dec dk_X12_draw 39 rfl) rfl (by omega) (by omega) (by omega) ?_
                    have i8 : mm_inv (mm_pa h59_ 119 x59_6 0) := mm_inv_pa i59_ (show 0 ≤ 0 ∧ 0 ≤ 1 from ⟨by omega, by omega⟩)
                    have f8 : mm_fr [(66, 0), (66, 40)] [92, 93, 94, 95, 96, 97, 117, 118, 119] h (mm_pa h59_ 119 x59_6 0) := mm_fr_pa f59_ (by decide)
                    obtain ⟨h8, eh8⟩ : ∃ z, z = mm_pa h59_ 119 x59_6 0 := ⟨_, rfl⟩
                    rw [← eh8] at i8 f8 ⊢
                    have qh8_104 : h8.1 66 23 = h59_.1 66 23 := by rw [eh8]; rfl
                    have qh8_105 : h8.1 66 40 = h59_.1 66 40 := by rw [eh8]; rfl
                    have qh8_106 : h8.1 66 41 = h59_.1 66 41 := by rw [eh8]; rfl
                    have zk := mm_dw_clr w59_0 w59_1 eh8
                    refine mm_aload_n C (mm_dec dk_X12_draw 40 rfl) rfl ?_
                    refine mm_getr (t := 85) C fl_X12_66 (mm_dec dk_X12_draw 41 rfl) rfl rfl (mm_ref i8 rfl) ?_
                    refine mm_iload C (mm_dec dk_X12_draw 42 rfl) rfl ?_
                    refine mm_iald C (mm_dec dk_X12_draw 43 rfl) rfl (by omega) (by omega) ?_
                    have g107 : 0 ≤ (h8.2.1 85 x59_6) ∧ (h8.2.1 85 x59_6) ≤ 7 := i8.2.1 85 x59_6
                    refine mm_iload_n C (mm_dec dk_X12_draw 44 rfl) rfl ?_
                    have J154 : ∀ (x154_5 : Int) (bx154_5 : 0 ≤ x154_5 ∧ x154_5 ≤ 40) (h154_ : mH) (i154_ : mm_inv h154_) (f154_ : mm_fr [(66, 0), (66, 40)] [92, 93, 94, 95, 96, 97, 117, 118, 119] h h154_) (w154_0 : mm_dw h154_ x154_5 x154_5) (w154_1 : mm_lt h154_ x154_5 (x59_6 + 1)) (w154_2 : x154_5 ≤ x59_6 + 1), mm_W x 0 0 154 [mR 66, mI p1, mL p2, mU, mI p4, mI x154_5, mI x59_6, mU, mU, mU, mU] [] h154_ := by
                      intro x154_5 bx154_5 h154_ i154_ f154_ w154_0 w154_1 w154_2
                      have g108 : 0 ≤ h154_.1 66 40 ∧ h154_.1 66 40 ≤ 500 := i154_.1 66 40
                      have g109 : 0 ≤ h154_.1 66 41 ∧ h154_.1 66 41 ≤ 99999 := i154_.1 66 41
                      have g110 : 0 ≤ h154_.1 66 23 ∧ h154_.1 66 23 ≤ 40 := i154_.1 66 23
                      have g111 : h154_.1 66 41 = h.1 66 41 := f154_.1 66 41 (by decide)
                      have g112 : h154_.1 66 23 = h.1 66 23 := f154_.1 66 23 (by decide)
                      refine mm_iincL (ls2 := [mR 66, mI p1, mL p2, mU, mI p4, mI x154_5, mI (x59_6 + 1), mU, mU, mU, mU]) C (mm_dec dk_X12_draw 83 rfl) rfl (by decide) ⟨by omega, by omega⟩ rfl ?_
                      refine mm_goto (tgt := 59) C (mm_dec dk_X12_draw 84 rfl) (by decide) ?_
                      exact ih59 x154_5 ⟨by omega, by omega⟩ (x59_6 + 1) ⟨by omega, by omega⟩ h154_ i154_ f154_ (by first | exact w154_0 | exact zd0) (by first | exact w154_1 | exact (fun k a b => absurd b (by omega))) (by omega) (by omega)
                    refine mm_icmp_ne (tgt := 154) C (mm_dec dk_X12_draw 45 rfl) (by decide) (fun c84 => ?_) (fun c84 => ?_)
                    · skip
                      exact J154 x59_5 ⟨by omega, by omega⟩ h8 i8 f8 (by first | exact zk.1 | exact zA.1) (by first | exact (fun k a b => by have := zk.2.1 k a b; omega) | exact zA.2) (by omega)
                    · skip
                      refine mm_aload_n C (mm_dec dk_X12_draw 46 rfl) rfl ?_
                      refine mm_getr (t := 88) C fl_X12_75 (mm_dec dk_X12_draw 47 rfl) rfl rfl (mm_ref i8 rfl) ?_
                      refine mm_iload C (mm_dec dk_X12_draw 48 rfl) rfl ?_
                      refine mm_iald C (mm_dec dk_X12_draw 49 rfl) rfl (by omega) (by omega) ?_
                      have g113 : -1 ≤ (h8.2.1 88 x59_6) ∧ (h8.2.1 88 x59_6) ≤ 9 := i8.2.1 88 x59_6
                      refine mm_iconst C (mm_dec dk_X12_draw 50 rfl) ⟨by decide, by decide⟩ ?_
                      have J108 : mm_W x 0 0 108 [mR 66, mI p1, mL p2, mU, mI p4, mI x59_5, mI x59_6, mU, mU, mU, mU] [] h8 := by
                        refine mm_aload_n C (mm_dec dk_X12_draw 57 rfl) rfl ?_
                        refine mm_iconst C (mm_dec dk_X12_draw 58 rfl) ⟨by decide, by decide⟩ ?_
                        refine mm_iload C (mm_dec dk_X12_draw 59 rfl) rfl ?_
                        refine mm_aload_n C (mm_dec dk_X12_draw 60 rfl) rfl ?_
                        refine mm_geti C fl_X12_234 (mm_dec dk_X12_draw 61 rfl) rfl rfl (Or.inl rfl) ?_
                        refine mm_cVi (rest := []) C1 ev_X12_322 (mm_dec dk_X12_draw 62 rfl) (c_X12_latest x.2.1 hl (d - 1) (by omega) h8 i8 0 x59_6 (h8.1 66 41)) rfl rfl (Nat.le_of_ble_eq_true rfl) ⟨by decide, by decide⟩ rfl (fun r116 h116c hp116 => ?_) (fun _ _ q => q.elim)
                        obtain ⟨b116, z116⟩ := hp116
                        rw [z116]
                        refine mm_iconst C (mm_dec dk_X12_draw 63 rfl) ⟨by decide, by decide⟩ ?_
                        refine mm_icmp_eq (tgt := 126) C (mm_dec dk_X12_draw 64 rfl) (by decide) (fun c120 => ?_) (fun c120 => ?_)
                        · skip
                          refine mm_aload_n C (mm_dec dk_X12_draw 66 rfl) rfl ?_
                          refine mm_getr (t := 117) C fl_X12_162 (mm_dec dk_X12_draw 67 rfl) rfl rfl (mm_ref i8 rfl) ?_
                          refine mm_iload C (mm_dec dk_X12_draw 68 rfl) rfl ?_
                          refine mm_iload C (mm_dec dk_X12_draw 69 rfl) rfl ?_
                          refine mm_iast C (mm_dec dk_X12_draw 70 rfl) rfl (by omega) (by omega) ?_
                          have i9 : mm_inv (mm_pa h8 117 x59_5 x59_6) := mm_inv_pa i8 (show 0 ≤ x59_6 ∧ x59_6 ≤ 39 from ⟨by omega, by omega⟩)
                          have f9 : mm_fr [(66, 0), (66, 40)] [92, 93, 94, 95, 96, 97, 117, 118, 119] h (mm_pa h8 117 x59_5 x59_6) := mm_fr_pa f8 (by decide)
                          obtain ⟨h9, eh9⟩ : ∃ z, z = mm_pa h8 117 x59_5 x59_6 := ⟨_, rfl⟩
                          rw [← eh9] at i9 f9 ⊢
                          have qh9_115 : h9.1 66 23 = h8.1 66 23 := by rw [eh9]; rfl
                          have qh9_116 : h9.1 66 40 = h8.1 66 40 := by rw [eh9]; rfl
                          have qh9_117 : h9.1 66 41 = h8.1 66 41 := by rw [eh9]; rfl
                          refine mm_aload_n C (mm_dec dk_X12_draw 71 rfl) rfl ?_
                          refine mm_getr (t := 118) C fl_X12_165 (mm_dec dk_X12_draw 72 rfl) rfl rfl (mm_ref i9 rfl) ?_
                          refine mm_aload_n C (mm_dec dk_X12_draw 73 rfl) rfl ?_
                          refine mm_getr (t := 86) C fl_X12_69 (mm_dec dk_X12_draw 74 rfl) rfl rfl (mm_ref i9 rfl) ?_
                          refine mm_iload C (mm_dec dk_X12_draw 75 rfl) rfl ?_
                          refine mm_iald C (mm_dec dk_X12_draw 76 rfl) rfl (by omega) (by omega) ?_
                          have g118 : 0 ≤ (h9.2.1 86 x59_6) ∧ (h9.2.1 86 x59_6) ≤ 9 := i9.2.1 86 x59_6
                          refine mm_dup2 C (mm_dec dk_X12_draw 77 rfl) (show (0 : Nat) ≠ 1 by decide) (show (2 : Nat) ≠ 1 by decide) ?_
                          refine mm_iald C (mm_dec dk_X12_draw 78 rfl) rfl (by omega) (by omega) ?_
                          have g119 : -2147483648 ≤ (h9.2.1 118 (h9.2.1 86 x59_6)) ∧ (h9.2.1 118 (h9.2.1 86 x59_6)) ≤ 2147483647 := i9.2.1 118 (h9.2.1 86 x59_6)
                          refine mm_iconst C (mm_dec dk_X12_draw 79 rfl) ⟨by decide, by decide⟩ ?_
                          refine mm_iaddw C (mm_dec dk_X12_draw 80 rfl) ?_
                          have g120 : -2147483648 ≤ (mm_w ((h9.2.1 118 (h9.2.1 86 x59_6)) + 1)) ∧ (mm_w ((h9.2.1 118 (h9.2.1 86 x59_6)) + 1)) < 2147483648 := mm_w_rg _
                          refine mm_iast C (mm_dec dk_X12_draw 81 rfl) rfl (by omega) (by omega) ?_
                          have i10 : mm_inv (mm_pa h9 118 (h9.2.1 86 x59_6) (mm_w ((h9.2.1 118 (h9.2.1 86 x59_6)) + 1))) := mm_inv_pa i9 (show -2147483648 ≤ (mm_w ((h9.2.1 118 (h9.2.1 86 x59_6)) + 1)) ∧ (mm_w ((h9.2.1 118 (h9.2.1 86 x59_6)) + 1)) ≤ 2147483647 from ⟨by omega, by omega⟩)
                          have f10 : mm_fr [(66, 0), (66, 40)] [92, 93, 94, 95, 96, 97, 117, 118, 119] h (mm_pa h9 118 (h9.2.1 86 x59_6) (mm_w ((h9.2.1 118 (h9.2.1 86 x59_6)) + 1))) := mm_fr_pa f9 (by decide)
                          obtain ⟨h10, eh10⟩ : ∃ z, z = mm_pa h9 118 (h9.2.1 86 x59_6) (mm_w ((h9.2.1 118 (h9.2.1 86 x59_6)) + 1)) := ⟨_, rfl⟩
                          rw [← eh10] at i10 f10 ⊢
                          have qh10_121 : h10.1 66 23 = h9.1 66 23 := by rw [eh10]; rfl
                          have qh10_122 : h10.1 66 40 = h9.1 66 40 := by rw [eh10]; rfl
                          have qh10_123 : h10.1 66 41 = h9.1 66 41 := by rw [eh10]; rfl
                          have zq : h9.2.1 86 x59_6 = h8.2.1 86 x59_6 := by rw [eh9, mm_pa_o 86 117 (by decide)]
                          have zg : (0 : Int) ≤ h9.2.1 86 x59_6 ∧ h9.2.1 86 x59_6 ≤ 9 := i9.2.1 86 _
                          have zr := mm_dw_rg zk.1 (h9.2.1 86 x59_6) (by omega) (by omega)
                          have zs : ∀ c, h9.2.1 118 c = h8.2.1 118 c := fun c => by rw [eh9, mm_pa_o 118 117 (by decide)]
                          have zA := mm_dw_add (h2 := h10) (c0 := h9.2.1 86 x59_6) zk.1 zk.2.1 zk.2.2 (by omega) (by omega) (by omega) eh9 zq (by omega) (by omega) (by rw [eh10, zs, mm_w_id ⟨by omega, by omega⟩])
                          refine mm_iincL (ls2 := [mR 66, mI p1, mL p2, mU, mI p4, mI (x59_5 + 1), mI x59_6, mU, mU, mU, mU]) C (mm_dec dk_X12_draw 82 rfl) rfl (by decide) ⟨by omega, by omega⟩ rfl ?_
                          exact J154 (x59_5 + 1) ⟨by omega, by omega⟩ h10 i10 f10 (by first | exact zk.1 | exact zA.1) (by first | exact (fun k a b => by have := zk.2.1 k a b; omega) | exact zA.2) (by omega)
                        · skip
                          refine mm_goto (tgt := 154) C (mm_dec dk_X12_draw 65 rfl) (by decide) ?_
                          exact J154 x59_5 ⟨by omega, by omega⟩ h8 i8 f8 (by first | exact zk.1 | exact zA.1) (by first | exact (fun k a b => by have := zk.2.1 k a b; omega) | exact zA.2) (by omega)
                      refine mm_icmp_eq (tgt := 108) C (mm_dec dk_X12_draw 51 rfl) (by decide) (fun c95 => ?_) (fun c95 => ?_)
                      · skip
                        exact J108
                      · skip
                        refine mm_aload_n C (mm_dec dk_X12_draw 52 rfl) rfl ?_
                        refine mm_getr (t := 89) C fl_X12_78 (mm_dec dk_X12_draw 53 rfl) rfl rfl (mm_ref i8 rfl) ?_
                        refine mm_iload C (mm_dec dk_X12_draw 54 rfl) rfl ?_
                        refine mm_iald C (mm_dec dk_X12_draw 55 rfl) rfl (by omega) (by omega) ?_
                        have g124 : 0 ≤ (h8.2.1 89 x59_6) ∧ (h8.2.1 89 x59_6) ≤ 2 := i8.2.1 89 x59_6
                        refine mm_if_gt (tgt := 154) C (mm_dec dk_X12_draw 56 rfl) (by decide) (fun c105 => ?_) (fun c105 => ?_)
                        · skip
                          exact J154 x59_5 ⟨by omega, by omega⟩ h8 i8 f8 (by first | exact zk.1 | exact zA.1) (by first | exact (fun k a b => by have := zk.2.1 k a b; omega) | exact zA.2) (by omega)
                        · skip
                          exact J108
              refine mm_istoreL (ls2 := [mR 66, mI p1, mL p2, mU, mI p4, mI 0, mI 0, mU, mU, mU, mU]) C (mm_dec dk_X12_draw 30 rfl) (by decide) rfl ?_
              exact J59 (((40 - 0) : Int) + 1).toNat 0 ⟨by omega, by omega⟩ 0 ⟨by omega, by omega⟩ h35_ i35_ f35_ (by first | exact w154_0 | exact zd0) (by first | exact w154_1 | exact (fun k a b => absurd b (by omega))) (by omega) (by omega)
            · skip
              refine mm_aload_n C (mm_dec dk_X12_draw 22 rfl) rfl ?_
              refine mm_getr (t := 118) C fl_X12_165 (mm_dec dk_X12_draw 23 rfl) rfl rfl (mm_ref i35_ rfl) ?_
              refine mm_iload C (mm_dec dk_X12_draw 24 rfl) rfl ?_
              refine mm_iconst C (mm_dec dk_X12_draw 25 rfl) ⟨by decide, by decide⟩ ?_
              refine mm_iast C (mm_dec dk_X12_draw 26 rfl) rfl (by omega) (by omega) ?_
              have i11 : mm_inv (mm_pa h35_ 118 x35_6 0) := mm_inv_pa i35_ (show -2147483648 ≤ 0 ∧ 0 ≤ 2147483647 from ⟨by omega, by omega⟩)
              have f11 : mm_fr [(66, 0), (66, 40)] [92, 93, 94, 95, 96, 97, 117, 118, 119] h (mm_pa h35_ 118 x35_6 0) := mm_fr_pa f35_ (by decide)
              obtain ⟨h11, eh11⟩ : ∃ z, z = mm_pa h35_ 118 x35_6 0 := ⟨_, rfl⟩
              rw [← eh11] at i11 f11 ⊢
              have qh11_125 : h11.1 66 23 = h35_.1 66 23 := by rw [eh11]; rfl
              have qh11_126 : h11.1 66 40 = h35_.1 66 40 := by rw [eh11]; rfl
              have qh11_127 : h11.1 66 41 = h35_.1 66 41 := by rw [eh11]; rfl
              have zz : ∀ c, 0 ≤ c → c < x35_6 + 1 → h11.2.1 118 c = 0 := fun c a b => by rw [eh11]; by_cases q : c = x35_6; (rw [q]; exact mm_pa_same _ _ _ _); (rw [mm_pa_j 118 q]; exact w35_0 c a (by omega))
              refine mm_iincL (ls2 := [mR 66, mI p1, mL p2, mU, mI p4, mI 0, mI (x35_6 + 1), mU, mU, mU, mU]) C (mm_dec dk_X12_draw 27 rfl) rfl (by decide) ⟨by omega, by omega⟩ rfl ?_
              refine mm_goto (tgt := 35) C (mm_dec dk_X12_draw 28 rfl) (by decide) ?_
              exact ih35 (x35_6 + 1) ⟨by omega, by omega⟩ h11 i11 f11 (by first | exact (fun c a b => absurd b (by omega)) | exact zz) (by omega)
        refine mm_istoreL (ls2 := [mR 66, mI p1, mL p2, mU, mI p4, mI 0, mI 0, mU, mU, mU, mU]) C (mm_dec dk_X12_draw 18 rfl) (by decide) rfl ?_
        exact J35 (((10 - 0) : Int) + 1).toNat 0 ⟨by omega, by omega⟩ h2c i2c f2c (by first | exact (fun c a b => absurd b (by omega)) | exact zz) (by omega)
      · skip
        refine mm_fgt 0 ?_
        refine mm_fgt 1 ?_
        refine mm_fgt 2 ?_
        refine mm_fgt 4 ?_
        exact J27
  · skip
    refine mm_iconst C (mm_dec dk_X12_draw 4 rfl) ⟨by decide, by decide⟩ ?_
    exact mm_iret C T (mm_dec dk_X12_draw 5 rfl) (by decide : 0 ≤ 0) (by decide : 0 ≤ 0) ⟨_, rfl, ⟨⟨by omega, by omega⟩, i2c, f2c⟩⟩
