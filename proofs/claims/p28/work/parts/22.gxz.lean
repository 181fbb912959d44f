/-! ===== sets as numbers ===== -/
def mm_p2 (i : Int) : Int := mm_vishl 1 i
def mm_bq (s i : Int) : Int := mm_viand (mm_vishr s i) 1
def mm_bt1 (i s : Nat) : Bool := decide (mm_bq (s : Int) (i : Int) = (s : Int) / 2 ^ i % 2) && (if (s : Int) / 2 ^ i % 2 = 0 then decide (mm_vior (s : Int) (mm_vishl 1 (i : Int)) = (s : Int) + 2 ^ i) else decide (mm_viand (s : Int) (mm_vixor (mm_vishl 1 (i : Int)) (-1)) = (s : Int) - 2 ^ i))
theorem mm_bt1_0 : (List.range 4096).all (fun s => mm_bt1 0 s) = true := by decide +kernel
theorem mm_bt1_1 : (List.range 4096).all (fun s => mm_bt1 1 s) = true := by decide +kernel
theorem mm_bt1_2 : (List.range 4096).all (fun s => mm_bt1 2 s) = true := by decide +kernel
theorem mm_bt1_3 : (List.range 4096).all (fun s => mm_bt1 3 s) = true := by decide +kernel
theorem mm_bt1_4 : (List.range 4096).all (fun s => mm_bt1 4 s) = true := by decide +kernel
theorem mm_bt1_5 : (List.range 4096).all (fun s => mm_bt1 5 s) = true := by decide +kernel
theorem mm_bt1_6 : (List.range 4096).all (fun s => mm_bt1 6 s) = true := by decide +kernel
theorem mm_bt1_7 : (List.range 4096).all (fun s => mm_bt1 7 s) = true := by decide +kernel
theorem mm_bt1_8 : (List.range 4096).all (fun s => mm_bt1 8 s) = true := by decide +kernel
theorem mm_bt1_9 : (List.range 4096).all (fun s => mm_bt1 9 s) = true := by decide +kernel
theorem mm_bt1_10 : (List.range 4096).all (fun s => mm_bt1 10 s) = true := by decide +kernel
theorem mm_bt1_11 : (List.range 4096).all (fun s => mm_bt1 11 s) = true := by decide +kernel
theorem mm_bits_all : ∀ i : Nat, i < 12 → (List.range 4096).all (fun s => mm_bt1 i s) = true
  | 0, _ => mm_bt1_0
  | 1, _ => mm_bt1_1
  | 2, _ => mm_bt1_2
  | 3, _ => mm_bt1_3
  | 4, _ => mm_bt1_4
  | 5, _ => mm_bt1_5
  | 6, _ => mm_bt1_6
  | 7, _ => mm_bt1_7
  | 8, _ => mm_bt1_8
  | 9, _ => mm_bt1_9
  | 10, _ => mm_bt1_10
  | 11, _ => mm_bt1_11
  | k + 12, h => absurd h (by omega)
theorem mm_p2_all : ∀ n : Nat, n < 13 → mm_p2 (n : Int) = 2 ^ n := by decide +kernel
theorem mm_p2_c : mm_p2 0 = 1 ∧ mm_p2 1 = 2 ∧ mm_p2 2 = 4 ∧ mm_p2 3 = 8 ∧ mm_p2 4 = 16 ∧ mm_p2 5 = 32 ∧ mm_p2 6 = 64 ∧ mm_p2 7 = 128 ∧ mm_p2 8 = 256 ∧ mm_p2 9 = 512 ∧ mm_p2 10 = 1024 ∧ mm_p2 11 = 2048 ∧ mm_p2 12 = 4096 := by decide +kernel
theorem mm_12 {i : Int} (hi : 0 ≤ i ∧ i ≤ 11) : i = 0 ∨ i = 1 ∨ i = 2 ∨ i = 3 ∨ i = 4 ∨ i = 5 ∨ i = 6 ∨ i = 7 ∨ i = 8 ∨ i = 9 ∨ i = 10 ∨ i = 11 := by omega
theorem mm_p2_pow {i : Int} (hi : 0 ≤ i ∧ i ≤ 12) : mm_p2 i = 2 ^ i.toNat := by
  have h := mm_p2_all i.toNat (by omega)
  rwa [Int.toNat_of_nonneg hi.1] at h
theorem mm_p2_rg {i : Int} (hi : 0 ≤ i ∧ i ≤ 11) : 1 ≤ mm_p2 i ∧ mm_p2 i ≤ 2048 := by
  obtain ⟨c0, c1, c2, c3, c4, c5, c6, c7, c8, c9, c10, c11, c12⟩ := mm_p2_c
  rcases mm_12 hi with h | h | h | h | h | h | h | h | h | h | h | h <;> subst h <;> omega
theorem mm_bits {s i : Int} (hs : 0 ≤ s ∧ s < 4096) (hi : 0 ≤ i ∧ i ≤ 11) : mm_bq s i = s / mm_p2 i % 2 ∧ (mm_bq s i = 0 → mm_vior s (mm_vishl 1 i) = s + mm_p2 i) ∧ (mm_bq s i ≠ 0 → mm_viand s (mm_vixor (mm_vishl 1 i) (-1)) = s - mm_p2 i) := by
  have h2 := mm_bits_all i.toNat (by omega)
  rw [List.all_eq_true] at h2
  have h3 := h2 s.toNat (List.mem_range.mpr (by omega))
  unfold mm_bt1 at h3
  rw [Int.toNat_of_nonneg hs.1, Int.toNat_of_nonneg hi.1, Bool.and_eq_true] at h3
  obtain ⟨a, b⟩ := h3
  have a := of_decide_eq_true a
  rw [mm_p2_pow ⟨hi.1, by omega⟩]
  refine ⟨a, fun q => ?_, fun q => ?_⟩
  · rw [if_pos (by rw [← a]; exact q)] at b
    exact of_decide_eq_true b
  · rw [if_neg (by rw [← a]; exact q)] at b
    exact of_decide_eq_true b
theorem mm_bq_e {s i : Int} (hs : 0 ≤ s ∧ s < 4096) (hi : 0 ≤ i ∧ i ≤ 11) : mm_bq s i = s / mm_p2 i % 2 := (mm_bits hs hi).1
theorem mm_bq_01 {s i : Int} (hs : 0 ≤ s ∧ s < 4096) (hi : 0 ≤ i ∧ i ≤ 11) : mm_bq s i = 0 ∨ mm_bq s i = 1 := by
  rw [mm_bq_e hs hi]; omega
theorem mm_bq_lt {s x : Int} (hs : 0 ≤ s ∧ s < 4096) (hx : 0 ≤ x ∧ x ≤ 11) (q : mm_bq s x = 0) : s + mm_p2 x < 4096 := by
  rw [mm_bq_e hs hx] at q
  obtain ⟨c0, c1, c2, c3, c4, c5, c6, c7, c8, c9, c10, c11, c12⟩ := mm_p2_c
  rcases mm_12 hx with h | h | h | h | h | h | h | h | h | h | h | h <;> subst h <;> simp only [c0, c1, c2, c3, c4, c5, c6, c7, c8, c9, c10, c11] at q ⊢ <;> omega
theorem mm_bq_sub {s x : Int} (hs : 0 ≤ s ∧ s < 4096) (hx : 0 ≤ x ∧ x ≤ 11) (q : mm_bq s x = 1) : 0 ≤ s - mm_p2 x ∧ mm_bq (s - mm_p2 x) x = 0 := by
  rw [mm_bq_e hs hx] at q
  have p := mm_p2_rg hx
  have z : 0 ≤ s - mm_p2 x := by
    obtain ⟨c0, c1, c2, c3, c4, c5, c6, c7, c8, c9, c10, c11, c12⟩ := mm_p2_c
    rcases mm_12 hx with h | h | h | h | h | h | h | h | h | h | h | h <;> subst h <;> simp only [c0, c1, c2, c3, c4, c5, c6, c7, c8, c9, c10, c11] at q ⊢ <;> omega
  refine ⟨z, ?_⟩
  rw [mm_bq_e ⟨z, by omega⟩ hx]
  obtain ⟨c0, c1, c2, c3, c4, c5, c6, c7, c8, c9, c10, c11, c12⟩ := mm_p2_c
  rcases mm_12 hx with h | h | h | h | h | h | h | h | h | h | h | h <;> subst h <;> simp only [c0, c1, c2, c3, c4, c5, c6, c7, c8, c9, c10, c11] at q ⊢ <;> omega
theorem mm_bq_add {s x i : Int} (hs : 0 ≤ s ∧ s < 4096) (hx : 0 ≤ x ∧ x ≤ 11) (hi : 0 ≤ i ∧ i ≤ 11) (q : mm_bq s x = 0) : mm_bq (s + mm_p2 x) i = if i = x then 1 else mm_bq s i := by
  have l := mm_bq_lt hs hx q
  have p := mm_p2_rg hx
  rw [mm_bq_e ⟨by omega, l⟩ hi, mm_bq_e hs hi]
  rw [mm_bq_e hs hx] at q
  obtain ⟨c0, c1, c2, c3, c4, c5, c6, c7, c8, c9, c10, c11, c12⟩ := mm_p2_c
  by_cases w : i = x
  · rw [if_pos w, w]
    rcases mm_12 hx with h | h | h | h | h | h | h | h | h | h | h | h <;> subst h <;> simp only [c0, c1, c2, c3, c4, c5, c6, c7, c8, c9, c10, c11] at q ⊢ <;> omega
  · rw [if_neg w]
    rcases mm_12 hx with h | h | h | h | h | h | h | h | h | h | h | h <;> subst h <;> simp only [c0, c1, c2, c3, c4, c5, c6, c7, c8, c9, c10, c11] at q ⊢ <;>
      (rcases mm_12 hi with h | h | h | h | h | h | h | h | h | h | h | h <;> subst h <;> (first | exact absurd rfl w | (simp only [c0, c1, c2, c3, c4, c5, c6, c7, c8, c9, c10, c11]; omega)))
def mm_cbt (s : Int) : Nat → Int
  | 0 => 0
  | k + 1 => mm_cbt s k + mm_bq s (k : Int)
theorem mm_cbt_rg {s : Int} (hs : 0 ≤ s ∧ s < 4096) : ∀ k : Nat, k ≤ 12 → 0 ≤ mm_cbt s k ∧ mm_cbt s k ≤ k
  | 0, _ => ⟨Int.le_refl _, Int.le_refl _⟩
  | k + 1, h => by
    have z := mm_cbt_rg hs k (by omega)
    have b := mm_bq_01 hs (i := (k : Int)) ⟨by omega, by omega⟩
    unfold mm_cbt
    omega
theorem mm_cbt_add {s x : Int} (hs : 0 ≤ s ∧ s < 4096) (hx : 0 ≤ x ∧ x ≤ 11) (q : mm_bq s x = 0) : ∀ k : Nat, k ≤ 12 → mm_cbt (s + mm_p2 x) k = mm_cbt s k + (if x < (k : Int) then 1 else 0)
  | 0, _ => by
    rw [if_neg (by omega)]
    exact (Int.add_zero _).symm
  | k + 1, h => by
    have z := mm_cbt_add hs hx q k (by omega)
    have b := mm_bq_add hs hx (i := (k : Int)) ⟨by omega, by omega⟩ q
    unfold mm_cbt
    rw [z, b]
    by_cases w : (k : Int) = x
    · rw [if_pos w, if_neg (by omega), if_pos (by omega), w, q]
    · rw [if_neg w]
      by_cases v : x < (k : Int)
      · rw [if_pos v, if_pos (by omega)]; omega
      · rw [if_neg v, if_neg (by omega)]; omega
/-! the least ways through sets -/
def mm_cd9 (u g : Int) : Int := if u = 1000000000 ∨ g = -1 then 1000000000 else u + g
def mm_mi9 (u v : Int) : Int := if v < u then v else u
def mm_cm8 (R g : Int → Int) (s : Int) : Nat → Int
  | 0 => 1000000000
  | k + 1 => if mm_bq s (k : Int) = 0 then mm_cm8 R g s k else mm_mi9 (mm_cm8 R g s k) (mm_cd9 (R (12 * s + (k : Int))) (g (k : Int)))
def mm_Rc (R : Int → Int) (G : Int → Int → Int) (n : Int) : Prop := ∀ S x, 1 ≤ S → S < mm_p2 n → 0 ≤ x → x < n → R (12 * S + x) = if mm_bq S x = 1 then (if S - mm_p2 x = 0 then mm_cd9 0 (G 12 x) else mm_cm8 R (fun a => G a x) (S - mm_p2 x) n.toNat) else 1000000000
def mm_GB (G : Int → Int → Int) (n : Int) : Prop := ∀ a b, ((0 ≤ a ∧ a < n) ∨ a = 12) → ((0 ≤ b ∧ b < n) ∨ b = 12) → G a b = -1 ∨ (0 ≤ G a b ∧ G a b ≤ 400000)
theorem mm_p2_n {n : Int} (hn : 0 ≤ n ∧ n ≤ 12) : 1 ≤ mm_p2 n ∧ mm_p2 n ≤ 4096 := mm_shl1 hn
theorem mm_cm8_b {R g : Int → Int} {s B : Int} : ∀ k : Nat, (∀ a : Int, 0 ≤ a → a < k → mm_bq s a ≠ 0 → mm_cd9 (R (12 * s + a)) (g a) = 1000000000 ∨ (0 ≤ mm_cd9 (R (12 * s + a)) (g a) ∧ mm_cd9 (R (12 * s + a)) (g a) ≤ B)) → mm_cm8 R g s k = 1000000000 ∨ (0 ≤ mm_cm8 R g s k ∧ mm_cm8 R g s k ≤ B)
  | 0, _ => Or.inl rfl
  | k + 1, h => by
    have z := mm_cm8_b k (fun a a0 a1 => h a a0 (by omega))
    unfold mm_cm8
    split
    · exact z
    · rename_i q
      have w := h (k : Int) (by omega) (by omega) q
      unfold mm_mi9
      split <;> omega
theorem mm_R_b {R : Int → Int} {G : Int → Int → Int} {n : Int} (hn : 0 ≤ n ∧ n ≤ 12) (C : mm_Rc R G n) (B : mm_GB G n) : ∀ (m : Nat) (S x : Int), S.toNat ≤ m → 1 ≤ S → S < mm_p2 n → 0 ≤ x → x < n → R (12 * S + x) = 1000000000 ∨ (0 ≤ R (12 * S + x) ∧ R (12 * S + x) ≤ 400000 * mm_cbt S 12)
  | 0, S, x, hm, s1, _, _, _ => by omega
  | m + 1, S, x, hm, s1, sN, x0, xn => by
    have N := mm_p2_n hn
    have hs : 0 ≤ S ∧ S < 4096 := ⟨by omega, by omega⟩
    have hx : 0 ≤ x ∧ x ≤ 11 := ⟨x0, by omega⟩
    rw [C S x s1 sN x0 xn]
    split
    · rename_i q
      have d := mm_bq_sub hs hx q
      have p := mm_p2_rg hx
      have pc := mm_cbt_add (s := S - mm_p2 x) ⟨d.1, by omega⟩ hx d.2 12 (Nat.le_refl _)
      rw [show S - mm_p2 x + mm_p2 x = S by omega, if_pos (by omega)] at pc
      have pr := mm_cbt_rg (s := S - mm_p2 x) ⟨d.1, by omega⟩ 12 (Nat.le_refl _)
      have B2 : ∀ a, ((0 ≤ a ∧ a < n) ∨ a = 12) → G a x = -1 ∨ (0 ≤ G a x ∧ G a x ≤ 400000) := fun a ha => B a x ha (Or.inl ⟨x0, xn⟩)
      split
      · have b := B2 12 (Or.inr rfl)
        unfold mm_cd9
        split <;> omega
      · refine mm_cm8_b n.toNat (fun a a0 a1 _ => ?_)
        have ih := mm_R_b hn C B m (S - mm_p2 x) a (by omega) (by omega) (by omega) a0 (by omega)
        have b := B2 a (Or.inl ⟨a0, by omega⟩)
        unfold mm_cd9
        split <;> omega
    · exact Or.inl rfl
theorem mm_R_48 {R : Int → Int} {G : Int → Int → Int} {n S x : Int} (hn : 0 ≤ n ∧ n ≤ 12) (C : mm_Rc R G n) (B : mm_GB G n) (s1 : 1 ≤ S) (sN : S < mm_p2 n) (x0 : 0 ≤ x) (xn : x < n) : R (12 * S + x) = 1000000000 ∨ (0 ≤ R (12 * S + x) ∧ R (12 * S + x) ≤ 4800000) := by
  have z := mm_R_b hn C B S.toNat S x (Nat.le_refl _) s1 sN x0 xn
  have N := mm_p2_n hn
  have p := mm_cbt_rg (s := S) ⟨by omega, by omega⟩ 12 (Nat.le_refl _)
  omega
/-! what is found best over the sets up to k -/
def mm_pt8 (f : Int → Int) (s : Int) : Nat → Int
  | 0 => 0
  | k + 1 => if mm_bq s (k : Int) = 0 then mm_pt8 f s k else mm_w (mm_pt8 f s k + f (k : Int))
def mm_bs8 (al pt : Int → Int) (sec : Int) (i : Int × Int × Int) : Nat → Int × Int × Int
  | 0 => i
  | k + 1 => if al ((k : Int) + 1) ≤ sec ∧ al ((k : Int) + 1) < 1000000000 ∧ ((mm_bs8 al pt sec i k).1 < pt ((k : Int) + 1) ∨ ((mm_bs8 al pt sec i k).1 = pt ((k : Int) + 1) ∧ al ((k : Int) + 1) < (mm_bs8 al pt sec i k).2.2)) then (pt ((k : Int) + 1), (k : Int) + 1, al ((k : Int) + 1)) else mm_bs8 al pt sec i k
theorem mm_bs8_cg {al al' pt pt' : Int → Int} {sec : Int} {i : Int × Int × Int} : ∀ k : Nat, (∀ s : Int, 1 ≤ s → s ≤ k → al' s = al s ∧ pt' s = pt s) → mm_bs8 al' pt' sec i k = mm_bs8 al pt sec i k
  | 0, _ => rfl
  | k + 1, h => by
    have z := mm_bs8_cg (sec := sec) (i := i) k (fun s a b => h s a (by omega))
    have w := h ((k : Int) + 1) (by omega) (by omega)
    unfold mm_bs8
    rw [z, w.1, w.2]
theorem mm_pt8_cg {f g : Int → Int} {s : Int} : ∀ k : Nat, (∀ j : Int, 0 ≤ j → j < k → g j = f j) → mm_pt8 g s k = mm_pt8 f s k
  | 0, _ => rfl
  | k + 1, h => by
    have z := mm_pt8_cg k (fun s a b => h s a (by omega)) (s := s)
    have w := h (k : Int) (by omega) (by omega)
    unfold mm_pt8
    rw [z, w]

