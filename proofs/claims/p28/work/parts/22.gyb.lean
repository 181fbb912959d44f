/-! ===== the reference's search ===== -/
def mm_cy8 (h : mH) (c k n : Int) : Int := if k < n then h.2.1 78 (h.2.1 82 (36 * c + 3 * k)) else if k = n then 20 * h.1 66 10 + h.1 66 9 else 20 * h.1 66 12 + h.1 66 11
theorem mm_cy8_1 {h : mH} {c k n : Int} (q : k < n) : h.2.1 78 (h.2.1 82 (3 * ((12 * c) + k))) = mm_cy8 h c k n := by
  unfold mm_cy8
  rw [if_pos q, show 3 * ((12 * c) + k) = 36 * c + 3 * k by omega]
theorem mm_cy8_2 {h : mH} {c k n : Int} (q : k = n) : 20 * h.1 66 10 + h.1 66 9 = mm_cy8 h c k n := by
  unfold mm_cy8
  rw [if_neg (by omega), if_pos q]
theorem mm_cy8_3 {h : mH} {c k n : Int} (q : n ≤ k) (w : k ≠ n) : 20 * h.1 66 12 + h.1 66 11 = mm_cy8 h c k n := by
  unfold mm_cy8
  rw [if_neg (by omega), if_neg w]
theorem mm_cy8_cg {h h2 : mH} {c k n : Int} (e78 : ∀ j, h2.2.1 78 j = h.2.1 78 j) (e82 : ∀ j, h2.2.1 82 j = h.2.1 82 j) (a : h2.1 66 9 = h.1 66 9) (b : h2.1 66 10 = h.1 66 10) (d : h2.1 66 11 = h.1 66 11) (e : h2.1 66 12 = h.1 66 12) : mm_cy8 h2 c k n = mm_cy8 h c k n := by
  unfold mm_cy8
  rw [e82, e78, a, b, d, e]
def mm_lvR (h : mH) (a b v : Int) : Prop := ∃ hT : mH, mm_inv hT ∧ mm_lnd h hT ∧ mm_FT hT b ∧ v = hT.2.1 72 a
def mm_FR (h h2 : mH) (c n b a : Int) : Prop := ∀ x y, 0 ≤ x → x ≤ n + 1 → 0 ≤ y → (y < b ∨ (y = b ∧ x < a)) → mm_lvR h (mm_cy8 h c x n) (mm_cy8 h c y n) (h2.2.1 120 (14 * x + y))
theorem mm_FR_0 {h h2 : mH} {c n : Int} : mm_FR h h2 c n 0 0 := fun x y x0 x1 y0 q => by omega
theorem mm_FR_n {h h2 : mH} {c n b a : Int} (F : mm_FR h h2 c n b a) (ha : n + 2 ≤ a) : mm_FR h h2 c n (b + 1) 0 := fun x y x0 x1 y0 q => F x y x0 x1 y0 (by omega)
theorem mm_FR_cg {h h2 h3 : mH} {c n b a : Int} (F : mm_FR h h2 c n b a) (e : ∀ j, h3.2.1 120 j = h2.2.1 120 j) : mm_FR h h3 c n b a := fun x y x0 x1 y0 q => by rw [e]; exact F x y x0 x1 y0 q
theorem mm_FR_s {h h2 h3 : mH} {c n b a i v : Int} (F : mm_FR h h2 c n b a) (w : h3 = mm_pa h2 120 i v) (hi : i = 14 * a + b) (hn : n ≤ 12) (ha : 0 ≤ a ∧ a ≤ n + 1) (hb : 0 ≤ b ∧ b ≤ n + 1) (hv : mm_lvR h (mm_cy8 h c a n) (mm_cy8 h c b n) v) : mm_FR h h3 c n b (a + 1) := fun x y x0 x1 y0 q => by
  subst hi
  rw [w]
  by_cases e : x = a ∧ y = b
  · rw [e.1, e.2, mm_pa_same]; exact hv
  · rw [mm_pa_j 120 (by omega)]
    exact F x y x0 x1 y0 (by omega)
/-! raw sums -/
def mm_cmr (R f : Int → Int) (s l : Int) : Nat → Int
  | 0 => 1000000000
  | k + 1 => if mm_bq s (k : Int) = 0 then mm_cmr R f s l k else mm_mi9 (mm_cmr R f s l k) (mm_w (R (12 * s + (k : Int)) + f (14 * (k : Int) + l)))
theorem mm_cmr_s {R f : Int → Int} {s l k v : Int} (k0 : 0 ≤ k) (e : v = mm_cmr R f s l k.toNat) : (mm_bq s k = 0 → v = mm_cmr R f s l (k + 1).toNat) ∧ (mm_bq s k ≠ 0 → mm_mi9 v (mm_w (R (12 * s + k) + f (14 * k + l))) = mm_cmr R f s l (k + 1).toNat) := by
  rw [show (k + 1).toNat = k.toNat + 1 by omega, e]
  constructor
  · intro q
    show _ = if mm_bq s (k.toNat : Int) = 0 then _ else _
    rw [Int.toNat_of_nonneg k0, if_pos q]
  · intro q
    show _ = if mm_bq s (k.toNat : Int) = 0 then _ else mm_mi9 _ (mm_w (R (12 * s + (k.toNat : Int)) + f (14 * (k.toNat : Int) + l)))
    rw [Int.toNat_of_nonneg k0, if_neg q]
theorem mm_cmr_cg {R R' f : Int → Int} {s l : Int} : ∀ k : Nat, (∀ a : Int, 0 ≤ a → a < k → R' (12 * s + a) = R (12 * s + a)) → mm_cmr R' f s l k = mm_cmr R f s l k
  | 0, _ => rfl
  | k + 1, h => by
    have z := mm_cmr_cg (f := f) (l := l) k (fun a a0 a1 => h a a0 (by omega))
    have w := h (k : Int) (by omega) (by omega)
    unfold mm_cmr
    rw [z, w]
def mm_Rw (R f : Int → Int) (n s k : Int) : Prop := ∀ S x, 1 ≤ S → 0 ≤ x → x < n → (S < s ∨ (S = s ∧ x < k)) → R (12 * S + x) = if mm_bq S x = 0 then 1000000000 else if S - mm_p2 x = 0 then f (14 * n + x) else mm_cmr R f (S - mm_p2 x) x n.toNat
theorem mm_Rw_0 {R f : Int → Int} {n : Int} : mm_Rw R f n 1 0 := fun S x s1 x0 xn q => by omega
theorem mm_Rw_n {R f : Int → Int} {n s k : Int} (W : mm_Rw R f n s k) (hk : n ≤ k) : mm_Rw R f n (s + 1) 0 := fun S x s1 x0 xn q => W S x s1 x0 xn (by omega)
theorem mm_Rw_s {R R' f : Int → Int} {n s k : Int} (hn : n ≤ 12) (W : mm_Rw R f n s k) (k0 : 0 ≤ k) (kn : k < n) (e : ∀ j, j ≠ 12 * s + k → R' j = R j) (v : R' (12 * s + k) = if mm_bq s k = 0 then 1000000000 else if s - mm_p2 k = 0 then f (14 * n + k) else mm_cmr R' f (s - mm_p2 k) k n.toNat) : mm_Rw R' f n s (k + 1) := fun S x s1 x0 xn q => by
  have px := mm_p2_rg (i := x) ⟨x0, by omega⟩
  by_cases w : S = s ∧ x = k
  · rw [w.1, w.2]; exact v
  · rw [e _ (by omega), W S x s1 x0 xn (by omega)]
    rw [mm_cmr_cg (R := R) (R' := R') n.toNat (fun a a0 a1 => e _ (by omega))]
/-! a set's turn -/
def mm_QI (F : Int → Int) (h : mH) (pt : Int → Int) (n sec s k al sm b t sp : Int) : Prop := mm_Rw (h.2.1 121) F n s k ∧ ((b, t, sp) = mm_bs8 (fun s => mm_cmr (h.2.1 121) F s (n + 1) n.toNat) (fun s => mm_pt8 pt s n.toNat) sec (0, 0, F (14 * n + n + 1)) (s - 1).toNat) ∧ al = mm_cmr (h.2.1 121) F s (n + 1) k.toNat ∧ sm = mm_pt8 pt s k.toNat
def mm_QB (F : Int → Int) (h : mH) (pt : Int → Int) (n sec s b t sp : Int) : Prop := mm_Rw (h.2.1 121) F n s 0 ∧ (b, t, sp) = mm_bs8 (fun s => mm_cmr (h.2.1 121) F s (n + 1) n.toNat) (fun s => mm_pt8 pt s n.toNat) sec (0, 0, F (14 * n + n + 1)) (s - 1).toNat
theorem mm_QB_0 {F : Int → Int} {h : mH} {pt : Int → Int} {n sec sp : Int} (e : sp = F (14 * n + n + 1)) : mm_QB F h pt n sec 1 0 0 sp := by
  subst e
  exact ⟨mm_Rw_0, rfl⟩
theorem mm_QI_0 {F : Int → Int} {h : mH} {pt : Int → Int} {n sec s b t sp : Int} (Q : mm_QB F h pt n sec s b t sp) : mm_QI F h pt n sec s 0 1000000000 0 b t sp := ⟨Q.1, Q.2, rfl, rfl⟩
theorem mm_QI_w {F : Int → Int} {h h2 : mH} {pt : Int → Int} {n sec s k al sm b t sp al' sm' : Int} (hn : n ≤ 12) (Q : mm_QI F h pt n sec s k al sm b t sp) (s1 : 1 ≤ s) (k0 : 0 ≤ k) (kn : k < n) (e : ∀ j, j ≠ 12 * s + k → h2.2.1 121 j = h.2.1 121 j) (v : h2.2.1 121 (12 * s + k) = if mm_bq s k = 0 then 1000000000 else if s - mm_p2 k = 0 then F (14 * n + k) else mm_cmr (h2.2.1 121) F (s - mm_p2 k) k n.toNat) (ea : (mm_bq s k = 0 ∧ al' = al ∧ sm' = sm) ∨ (mm_bq s k ≠ 0 ∧ al' = mm_mi9 al (mm_w (h2.2.1 121 (12 * s + k) + F (14 * k + (n + 1)))) ∧ sm' = mm_w (sm + pt k))) : mm_QI F h2 pt n sec s (k + 1) al' sm' b t sp := by
  obtain ⟨q1, q2, q3, q4⟩ := Q
  have eal : al = mm_cmr (h2.2.1 121) F s (n + 1) k.toNat := by
    rw [q3]
    exact (mm_cmr_cg _ (fun a a0 a1 => e _ (by omega))).symm
  refine ⟨mm_Rw_s hn q1 k0 kn e v, ?_, ?_, ?_⟩
  · rw [q2]
    refine (mm_bs8_cg _ (fun z z1 z2 => ⟨?_, rfl⟩)).symm
    exact mm_cmr_cg _ (fun a a0 a1 => e _ (by omega))
  · rcases ea with ⟨b0, a1, _⟩ | ⟨b0, a1, _⟩
    · rw [a1]; exact (mm_cmr_s k0 eal).1 b0
    · rw [a1]; exact (mm_cmr_s k0 eal).2 b0
  · rcases ea with ⟨b0, _, a2⟩ | ⟨b0, _, a2⟩
    · rw [a2]; exact (mm_pt8_s k0 q4).1 b0
    · rw [a2]; exact (mm_pt8_s k0 q4).2 b0
theorem mm_QB_s {F : Int → Int} {h : mH} {pt : Int → Int} {n sec s k al sm b t sp b' t' sp' : Int} (Q : mm_QI F h pt n sec s k al sm b t sp) (hk : k = n) (s1 : 1 ≤ s) (q : ((al ≤ sec ∧ al < 1000000000 ∧ (b < sm ∨ (b = sm ∧ al < sp))) ∧ b' = sm ∧ t' = s ∧ sp' = al) ∨ (¬ (al ≤ sec ∧ al < 1000000000 ∧ (b < sm ∨ (b = sm ∧ al < sp))) ∧ b' = b ∧ t' = t ∧ sp' = sp)) : mm_QB F h pt n sec (s + 1) b' t' sp' := by
  subst hk
  obtain ⟨q1, q2, q3, q4⟩ := Q
  refine ⟨mm_Rw_n q1 (Int.le_refl _), ?_⟩
  rw [show (s + 1 - 1).toNat = (s - 1).toNat + 1 by omega]
  unfold mm_bs8
  rw [show ((s - 1).toNat : Int) + 1 = s by omega, ← q2, ← q3, ← q4]
  rcases q with ⟨q, a, b, c⟩ | ⟨q, a, b, c⟩
  · rw [if_pos q, a, b, c]
  · rw [if_neg q, a, b, c]
def mm_rY8 (F R : Int → Int) (f : Int → Int) (n sec r k0 s0 t0 k1 s1 t1 : Int) : Prop := ((F (14 * n + n + 1) = 1000000000 ∨ sec < F (14 * n + n + 1)) ∧ r = -1 ∧ k1 = k0 ∧ s1 = s0 ∧ t1 = t0) ∨ (F (14 * n + n + 1) ≠ 1000000000 ∧ F (14 * n + n + 1) ≤ sec ∧ k1 = 1 ∧ mm_Rw R F n (mm_p2 n) 0 ∧ (r, s1, t1) = mm_bs8 (fun s => mm_cmr R F s (n + 1) n.toNat) (fun s => mm_pt8 f s n.toNat) sec (0, 0, F (14 * n + n + 1)) (mm_p2 n - 1).toNat)
def mm_bY8 (h h2 : mH) (c sec r : Int) : Prop := (h.2.1 83 c = 0 ∧ r = -1 ∧ h2.1 66 95 = h.1 66 95 ∧ h2.1 66 96 = h.1 66 96 ∧ h2.1 66 97 = h.1 66 97) ∨ (h.2.1 83 c ≠ 0 ∧ ∃ F R : Int → Int, (∀ x y, 0 ≤ x → x ≤ h.2.1 80 c + 1 → 0 ≤ y → y ≤ h.2.1 80 c + 1 → mm_lvR h (mm_cy8 h c x (h.2.1 80 c)) (mm_cy8 h c y (h.2.1 80 c)) (F (14 * x + y))) ∧ mm_rY8 F R (fun j => h.2.1 79 (h.2.1 82 (36 * c + 3 * j))) (h.2.1 80 c) sec r (h.1 66 95) (h.1 66 96) (h.1 66 97) (h2.1 66 95) (h2.1 66 96) (h2.1 66 97))
theorem mm_QI_y {F : Int → Int} {h h6 h7 : mH} {pt : Int → Int} {n sec s k al sm b t sp al' sm' v q i : Int} (hn : 0 ≤ n ∧ n ≤ 12) (Q : mm_QI F h pt n sec s k al sm b t sp) (s1 : 1 ≤ s ∧ s < 4096) (k0 : 0 ≤ k) (kn : k < n) (zb : mm_bq s k ≠ 0) (a6 : h6 = mm_pa h 121 i 1000000000) (a7 : h7 = mm_pa h6 121 i v) (hi : i = 12 * s + k) (y : (q = 0 ∧ v = h6.2.1 120 (14 * n + k)) ∨ (q ≠ 0 ∧ v = mm_cmr (h6.2.1 121) (h6.2.1 120) q k n.toNat)) (hq : q = mm_viand s (mm_vixor (mm_vishl 1 k) (-1))) (eF : ∀ j, h.2.1 120 j = F j) (ea : al' = mm_mi9 al (mm_w (h7.2.1 121 (12 * s + k) + F (14 * k + (n + 1))))) (es : sm' = mm_w (sm + pt k)) : mm_QI F h7 pt n sec s (k + 1) al' sm' b t sp := by
  subst hi
  have pk := mm_p2_rg (i := k) ⟨k0, by omega⟩
  have z := (mm_bits (s := s) (i := k) ⟨by omega, by omega⟩ ⟨k0, by omega⟩).2.2 zb
  rw [z] at hq
  subst hq
  have e6 : h6.2.1 120 = F := by
    rw [a6]
    exact funext fun j => (mm_pa_o 120 121 (by decide) j).trans (eF j)
  rw [e6] at y
  refine mm_QI_w hn.2 Q (by omega) k0 kn (fun j w => by rw [a7, mm_pa_j 121 w, a6, mm_pa_j 121 w]) ?_ (Or.inr ⟨zb, ea, es⟩)
  rw [if_neg zb]
  have ev : h7.2.1 121 (12 * s + k) = v := by rw [a7, mm_pa_same]
  rw [ev]
  rcases y with ⟨y1, y2⟩ | ⟨y1, y2⟩
  · rw [if_pos y1]; exact y2
  · rw [if_neg y1, y2]
    refine (mm_cmr_cg _ (fun a a0 a1 => ?_)).symm
    rw [a7, mm_pa_j 121 (by omega)]
theorem mm_bY8_no {h h1 h3 : mH} {c sec n b : Int} (e83 : h.2.1 83 c ≠ 0) (en : n = h.2.1 80 c) (F : mm_FR h h1 c n b 0) (hb : n + 2 ≤ b) (q : h1.2.1 120 (14 * n + n + 1) = 1000000000 ∨ sec < h1.2.1 120 (14 * n + n + 1)) (k0 : h3.1 66 95 = h.1 66 95) (s0 : h3.1 66 96 = h.1 66 96) (t0 : h3.1 66 97 = h.1 66 97) : mm_bY8 h h3 c sec (-1) := by
  subst en
  exact Or.inr ⟨e83, h1.2.1 120, fun _ => 0, fun x y x0 x1 y0 y1 => F x y x0 x1 y0 (by omega), Or.inl ⟨q, rfl, k0, s0, t0⟩⟩
theorem mm_bY8_ok {h h1 h2 h3 : mH} {c sec n b S bs t sp : Int} (e83 : h.2.1 83 c ≠ 0) (en : n = h.2.1 80 c) (F : mm_FR h h1 c n b 0) (hb : n + 2 ≤ b) (q1 : h1.2.1 120 (14 * n + n + 1) ≠ 1000000000) (q2 : h1.2.1 120 (14 * n + n + 1) ≤ sec) (Q : mm_QB (h1.2.1 120) h2 (fun j => h.2.1 79 (h.2.1 82 (36 * c + 3 * j))) n sec S bs t sp) (hS : S = mm_p2 n) (k0 : h3.1 66 95 = 1) (s0 : h3.1 66 96 = t) (t0 : h3.1 66 97 = sp) : mm_bY8 h h3 c sec bs := by
  subst en hS s0 t0
  exact Or.inr ⟨e83, h1.2.1 120, h2.2.1 121, fun x y x0 x1 y0 y1 => F x y x0 x1 y0 (by omega), Or.inr ⟨q1, q2, k0, Q.1, Q.2⟩⟩
/-! ===== both searches find the same ===== -/
theorem mm_cmr_cm8 {R f g : Int → Int} {s l : Int} : ∀ k : Nat, (∀ a : Int, 0 ≤ a → a < k → mm_bq s a ≠ 0 → (R (12 * s + a) = 1000000000 ∨ (0 ≤ R (12 * s + a) ∧ R (12 * s + a) ≤ 4800000)) ∧ ((f (14 * a + l) = 1000000000 ∧ g a = -1) ∨ (0 ≤ f (14 * a + l) ∧ f (14 * a + l) ≤ 400000 ∧ g a = f (14 * a + l)))) → mm_cmr R f s l k = mm_cm8 R g s k ∧ mm_cm8 R g s k ≤ 1000000000
  | 0, _ => ⟨rfl, Int.le_refl _⟩
  | k + 1, h => by
    have z := mm_cmr_cm8 k (fun a a0 a1 => h a a0 (by omega)) (R := R) (f := f) (g := g) (s := s) (l := l)
    unfold mm_cmr mm_cm8
    by_cases q : mm_bq s (k : Int) = 0
    · rw [if_pos q, if_pos q]; exact z
    · rw [if_neg q, if_neg q, z.1]
      have w := h (k : Int) (by omega) (by omega) q
      rw [mm_w_id ⟨by omega, by omega⟩]
      unfold mm_mi9 mm_cd9
      constructor
      · (repeat' split) <;> omega
      · (repeat' split) <;> omega
def mm_FG (F : Int → Int) (G : Int → Int → Int) (n : Int) : Prop := ∀ a b, mm_us8 n a → mm_us8 n b → (F (14 * (if a = 12 then n else a) + (if b = 12 then n + 1 else b)) = 1000000000 ∧ G a b = -1) ∨ (0 ≤ F (14 * (if a = 12 then n else a) + (if b = 12 then n + 1 else b)) ∧ F (14 * (if a = 12 then n else a) + (if b = 12 then n + 1 else b)) ≤ 400000 ∧ G a b = F (14 * (if a = 12 then n else a) + (if b = 12 then n + 1 else b)))
theorem mm_FG_B {F : Int → Int} {G : Int → Int → Int} {n : Int} (H : mm_FG F G n) : mm_GB G n := fun a b ha hb => by
  have z := H a b ha hb
  omega
theorem mm_R_bm {R : Int → Int} {G : Int → Int → Int} {n : Int} (hn : 0 ≤ n ∧ n ≤ 12) (B : mm_GB G n) (M : Nat) (C : ∀ S x, S.toNat ≤ M → 1 ≤ S → S < mm_p2 n → 0 ≤ x → x < n → R (12 * S + x) = if mm_bq S x = 1 then (if S - mm_p2 x = 0 then mm_cd9 0 (G 12 x) else mm_cm8 R (fun a => G a x) (S - mm_p2 x) n.toNat) else 1000000000) : ∀ (m : Nat) (S x : Int), m ≤ M → S.toNat ≤ m → 1 ≤ S → S < mm_p2 n → 0 ≤ x → x < n → R (12 * S + x) = 1000000000 ∨ (0 ≤ R (12 * S + x) ∧ R (12 * S + x) ≤ 400000 * mm_cbt S 12)
  | 0, S, x, _, hm, s1, _, _, _ => by omega
  | m + 1, S, x, hM, hm, s1, sN, x0, xn => by
    have N := mm_p2_n hn
    have hs : 0 ≤ S ∧ S < 4096 := ⟨by omega, by omega⟩
    have hx : 0 ≤ x ∧ x ≤ 11 := ⟨x0, by omega⟩
    rw [C S x (by omega) s1 sN x0 xn]
    split
    · rename_i q
      have d := mm_bq_sub hs hx q
      have p := mm_p2_rg hx
      have pc := mm_cbt_add (s := S - mm_p2 x) ⟨d.1, by omega⟩ hx d.2 12 (Nat.le_refl _)
      rw [show S - mm_p2 x + mm_p2 x = S by omega, if_pos (by omega)] at pc
      have pr := mm_cbt_rg (s := S - mm_p2 x) ⟨d.1, by omega⟩ 12 (Nat.le_refl _)
      have B2 : ∀ a, ((0 ≤ a ∧ a < n) ∨ a = 12) → G a x = -1 ∨ (0 ≤ G a x ∧ G a x ≤ 400000) := fun a ha => B a x ha (Or.inl ⟨x0, xn⟩)
      split
      · have b := B2 12 (Or.inr rfl)
        unfold mm_cd9
        split <;> omega
      · refine mm_cm8_b n.toNat (fun a a0 a1 _ => ?_)
        have ih := mm_R_bm hn B M C m (S - mm_p2 x) a (by omega) (by omega) (by omega) (by omega) a0 (by omega)
        have b := B2 a (Or.inl ⟨a0, by omega⟩)
        unfold mm_cd9
        split <;> omega
    · exact Or.inl rfl
theorem mm_R_48m {R : Int → Int} {G : Int → Int → Int} {n S x : Int} (hn : 0 ≤ n ∧ n ≤ 12) (B : mm_GB G n) (M : Nat) (C : ∀ S x, S.toNat ≤ M → 1 ≤ S → S < mm_p2 n → 0 ≤ x → x < n → R (12 * S + x) = if mm_bq S x = 1 then (if S - mm_p2 x = 0 then mm_cd9 0 (G 12 x) else mm_cm8 R (fun a => G a x) (S - mm_p2 x) n.toNat) else 1000000000) (hM : S.toNat ≤ M) (s1 : 1 ≤ S) (sN : S < mm_p2 n) (x0 : 0 ≤ x) (xn : x < n) : R (12 * S + x) = 1000000000 ∨ (0 ≤ R (12 * S + x) ∧ R (12 * S + x) ≤ 4800000) := by
  have z := mm_R_bm hn B M C M S x (Nat.le_refl _) hM s1 sN x0 xn
  have N := mm_p2_n hn
  have p := mm_cbt_rg (s := S) ⟨by omega, by omega⟩ 12 (Nat.le_refl _)
  omega
theorem mm_Rc_of {R F : Int → Int} {G : Int → Int → Int} {n : Int} (hn : 0 ≤ n ∧ n ≤ 12) (H : mm_FG F G n) (W : mm_Rw R F n (mm_p2 n) 0) : ∀ M : Nat, ∀ S x, S.toNat ≤ M → 1 ≤ S → S < mm_p2 n → 0 ≤ x → x < n → R (12 * S + x) = if mm_bq S x = 1 then (if S - mm_p2 x = 0 then mm_cd9 0 (G 12 x) else mm_cm8 R (fun a => G a x) (S - mm_p2 x) n.toNat) else 1000000000
  | 0, S, x, hm, s1, _, _, _ => by omega
  | M + 1, S, x, hm, s1, sN, x0, xn => by
    have N := mm_p2_n hn
    have hs : 0 ≤ S ∧ S < 4096 := ⟨by omega, by omega⟩
    have hx : 0 ≤ x ∧ x ≤ 11 := ⟨x0, by omega⟩
    have px := mm_p2_rg hx
    have w := W S x s1 x0 xn (Or.inl sN)
    rcases mm_bq_01 hs hx with q | q
    · rw [if_pos q] at w
      rw [w, if_neg (by omega)]
    · rw [if_neg (by omega)] at w
      rw [w, if_pos q]
      have d := mm_bq_sub hs hx q
      by_cases z : S - mm_p2 x = 0
      · rw [if_pos z, if_pos z]
        have f := H 12 x (Or.inr rfl) (Or.inl ⟨x0, xn⟩)
        rw [if_pos rfl, if_neg (show ¬ x = 12 by omega)] at f
        unfold mm_cd9
        split <;> omega
      · rw [if_neg z, if_neg z]
        refine (mm_cmr_cm8 n.toNat (fun a a0 a1 _ => ⟨?_, ?_⟩)).1
        · exact mm_R_48m hn (mm_FG_B H) M (mm_Rc_of hn H W M) (by omega) (by omega) (by omega) a0 (by omega)
        · have f := H a x (Or.inl ⟨a0, by omega⟩) (Or.inl ⟨x0, xn⟩)
          rw [if_neg (show ¬ a = 12 by omega), if_neg (show ¬ x = 12 by omega)] at f
          exact f
theorem mm_rs_rY {F R : Int → Int} {G : Int → Int → Int} {f f' : Int → Int} {n sec r r' k0 s0 t0 k1 s1 t1 k0' s0' t0' k1' s1' t1' : Int} (hn : 0 ≤ n ∧ n ≤ 12) (H : mm_FG F G n) (X : mm_rs8 G f n sec r k0 s0 t0 k1 s1 t1) (Y : mm_rY8 F R f' n sec r' k0' s0' t0' k1' s1' t1') (ef : ∀ j, 0 ≤ j → j < n → f' j = f j) (a0 : k0' = k0) (b0 : s0' = s0) (c0 : t0' = t0) : r = r' ∧ k1' = k1 ∧ s1' = s1 ∧ t1' = t1 := by
  have N := mm_p2_n hn
  have h0 := H 12 12 (Or.inr rfl) (Or.inr rfl)
  rw [if_pos rfl, if_pos rfl, show 14 * n + (n + 1) = 14 * n + n + 1 by omega] at h0
  rcases X with ⟨x1, x2, x3, x4, x5⟩ | ⟨x1, x2, x3, x4⟩ <;> rcases Y with ⟨y1, y2, y3, y4, y5⟩ | ⟨y1, y2, y3, y4, y5⟩
  · omega
  · omega
  · omega
  · have C : mm_Rc R G n := fun S x a b c d => mm_Rc_of hn H y4 S.toNat S x (Nat.le_refl _) a b c d
    have B := mm_FG_B H
    have x := x4 R B C
    have e0 : F (14 * n + n + 1) = G 12 12 := by omega
    rw [e0] at y5
    have z : (r', s1', t1') = (r, s1, t1) := by
      rw [y5, x]
      refine mm_bs8_cg _ (fun s p q => ⟨?_, mm_pt8_cg _ (fun j a b => ef j a (by omega))⟩)
      refine (mm_cmr_cm8 n.toNat (fun a a0 a1 _ => ⟨?_, ?_⟩)).1
      · exact mm_R_48 hn C B p (by omega) a0 (by omega)
      · have g := H a 12 (Or.inl ⟨a0, by omega⟩) (Or.inr rfl)
        rw [if_neg (show ¬ a = 12 by omega), if_pos rfl] at g
        exact g
    injection z with z1 z2
    injection z2 with z2 z3
    exact ⟨z1.symm, by omega, z2, z3⟩
/-! ===== best, for the law ===== -/
theorem mm_bx_cell {h h1 : mH} {c : Int} (R : mm_RW h) (c0 : 0 ≤ c) (c1 : c < h.1 14 8) (e78 : ∀ j, h1.2.1 78 j = h.2.1 78 j) (e80 : ∀ j, h1.2.1 80 j = h.2.1 80 j) (e82 : ∀ j, h1.2.1 82 j = h.2.1 82 j) (f9 : h1.1 66 9 = h.1 66 9) (f10 : h1.1 66 10 = h.1 66 10) (f11 : h1.1 66 11 = h.1 66 11) (f12 : h1.1 66 12 = h.1 66 12) : h1.2.1 80 c = h.2.1 19 c ∧ ∀ a, mm_us8 (h.2.1 19 c) a → mm_inl h (mm_fx8 h c a) ∧ mm_inl h (mm_tx8 h c a) ∧ mm_cy8 h1 c (if a = 12 then h.2.1 19 c else a) (h.2.1 19 c) = mm_fx8 h c a ∧ mm_cy8 h1 c (if a = 12 then h.2.1 19 c + 1 else a) (h.2.1 19 c) = mm_tx8 h c a := by
  have w5 : 1 ≤ h.1 1 5 ∧ h.1 1 5 ≤ 20 := R.inv.1 1 5
  have w6 : 1 ≤ h.1 1 6 ∧ h.1 1 6 ≤ 20 := R.inv.1 1 6
  have x9 : 0 ≤ h.1 66 9 ∧ h.1 66 9 ≤ 19 := R.inv.1 66 9
  have x10 : 0 ≤ h.1 66 10 ∧ h.1 66 10 ≤ 19 := R.inv.1 66 10
  have x11 : 0 ≤ h.1 66 11 ∧ h.1 66 11 ≤ 19 := R.inv.1 66 11
  have x12 : 0 ≤ h.1 66 12 ∧ h.1 66 12 ≤ 19 := R.inv.1 66 12
  have n19 : 0 ≤ h.2.1 19 c ∧ h.2.1 19 c ≤ 12 := R.inv.2.1 19 c
  have go := R.go
  have gn := R.gn
  unfold mm_go at go
  unfold mm_gn at gn
  refine ⟨by rw [e80]; exact (R.E19 c c0 (by omega)).symm, fun a ha => ?_⟩
  rw [mm_cy8_cg e78 e82 f9 f10 f11 f12, mm_cy8_cg e78 e82 f9 f10 f11 f12]
  unfold mm_us8 at ha
  by_cases q : a = 12
  · rw [if_pos q, if_pos q]
    unfold mm_fx8 mm_tx8
    rw [if_pos q, if_pos q]
    refine ⟨by unfold mm_inl; omega, by unfold mm_inl; omega, ?_, ?_⟩
    · rw [← mm_cy8_2 rfl]; exact go.1.symm
    · rw [← mm_cy8_3 (by omega) (by omega)]; exact gn.1.symm
  · rw [if_neg q, if_neg q]
    unfold mm_fx8 mm_tx8
    rw [if_neg q, if_neg q]
    have br := R.br c c0 (by omega) a (by omega) (by omega)
    have bv := R.bv c c0 (by omega) a (by omega) (by omega) 0 (by decide) (by decide)
    rw [Int.add_zero] at bv
    have p := R.pc _ bv.1 bv.2
    have e := R.E15 _ bv.1 bv.2
    have cy : mm_cy8 h c a (h.2.1 19 c) = h.2.1 15 (h.2.1 21 (36 * c + 3 * a)) := by
      unfold mm_cy8
      rw [if_pos (by omega), ← br.1]; exact e.symm
    exact ⟨p, p, cy, cy⟩
theorem mm_lg_FG {h h1 : mH} (R : mm_RW h) (L : mm_lnd h h1) {a b g v : Int} (va : mm_inl h a) (vb : mm_inl h b) (X : mm_lgX h a b g) (Y : mm_lvR h1 a b v) : (v = 1000000000 ∧ g = -1) ∨ (0 ≤ v ∧ v ≤ 400000 ∧ g = v) := by
  obtain ⟨hT, iT, lT, fT, rT⟩ := Y
  have w5 : 1 ≤ h.1 1 5 ∧ h.1 1 5 ≤ 20 := R.inv.1 1 5
  have w6 : 1 ≤ h.1 1 6 ∧ h.1 1 6 ≤ 20 := R.inv.1 1 6
  have go := R.go
  unfold mm_go at go
  have M := mm_MS_of R.inv iT R.w R.hh R.E2 R.E6 R.E3 R.E4 R.E5 go.2.2.2 (mm_lnd_tr L lT) fT vb
  have e := X _ M va
  have va' := va
  unfold mm_inl at va'
  have z := mm_dq_eq (h := h) (c := a) iT fT (by omega) (by omega)
  rw [z] at e
  unfold mm_ry at e z
  rw [← rT] at e z
  have b72 : 0 ≤ hT.2.1 72 a ∧ hT.2.1 72 a ≤ 1000000000 := iT.2.1 72 a
  rw [← rT] at b72
  by_cases q : v = 1000000000
  · rw [if_pos q] at e; exact Or.inl ⟨q, e⟩
  · rw [if_neg q] at e z
    refine Or.inr ⟨b72.1, ?_, e⟩
    have s := M.2.2.2.1 a va
    unfold mm_dq at z
    split at z
    · omega
    · have t : 0 ≤ Int.tdiv (mm_rk hT a) 512 ∧ Int.tdiv (mm_rk hT a) 512 ≤ 396485 := by
        rw [Int.tdiv_eq_ediv_of_nonneg s.1]
        omega
      rw [mm_w_id ⟨by omega, by omega⟩] at z
      omega
theorem mm_best_law {h h1 h2 : mH} {c sec r r' : Int} (R : mm_RW h) (e17 : mm_eq h 17 83 (h.1 14 8 - 1)) (e16 : mm_eq h 16 79 (h.1 14 7 - 1)) (c0 : 0 ≤ c) (c1 : c < h.1 14 8) (X : mm_bZ8 h h1 c sec r) (Y : mm_bY8 h1 h2 c sec r') (L : mm_lnd h h1) (e78 : ∀ j, h1.2.1 78 j = h.2.1 78 j) (e79 : ∀ j, h1.2.1 79 j = h.2.1 79 j) (e80 : ∀ j, h1.2.1 80 j = h.2.1 80 j) (e82 : ∀ j, h1.2.1 82 j = h.2.1 82 j) (e83 : ∀ j, h1.2.1 83 j = h.2.1 83 j) (f9 : h1.1 66 9 = h.1 66 9) (f10 : h1.1 66 10 = h.1 66 10) (f11 : h1.1 66 11 = h.1 66 11) (f12 : h1.1 66 12 = h.1 66 12) (k0 : h1.1 66 95 = h.1 58 10) (s0 : h1.1 66 96 = h.1 58 9) (t0 : h1.1 66 97 = h.1 58 8) : r = r' ∧ h2.1 66 95 = h1.1 58 10 ∧ h2.1 66 96 = h1.1 58 9 ∧ h2.1 66 97 = h1.1 58 8 := by
  have e := e17 c c0 (by omega)
  have n19 : 0 ≤ h.2.1 19 c ∧ h.2.1 19 c ≤ 12 := R.inv.2.1 19 c
  obtain ⟨en, cell⟩ := mm_bx_cell R c0 c1 e78 e80 e82 f9 f10 f11 f12
  rcases X with ⟨x1, x2, x3, x4, x5⟩ | ⟨x1, G, X1, X2⟩ <;> rcases Y with ⟨y1, y2, y3, y4, y5⟩ | ⟨y1, F, Q, Y1, Y2⟩
  · exact ⟨by omega, by omega, by omega, by omega⟩
  · rw [e83] at y1; omega
  · rw [e83] at y1; omega
  · rw [en] at Y1 Y2
    refine mm_rs_rY n19 (fun a b ha hb => ?_) X2 Y2 (fun j j0 j1 => ?_) k0 s0 t0
    · have ca := cell a ha
      have cb := cell b hb
      unfold mm_us8 at ha hb
      have y := Y1 (if a = 12 then h.2.1 19 c else a) (if b = 12 then h.2.1 19 c + 1 else b) (by split <;> omega) (by split <;> omega) (by split <;> omega) (by split <;> omega)
      rw [ca.2.2.1, cb.2.2.2] at y
      exact mm_lg_FG R L ca.1 cb.2.1 (X1 a b ha hb) y
    · have br := R.br c c0 (by omega) j j0 (by omega)
      have bv := R.bv c c0 (by omega) j j0 (by omega) 0 (by decide) (by decide)
      rw [Int.add_zero] at bv
      show h1.2.1 79 (h1.2.1 82 (36 * c + 3 * j)) = _
      rw [e82, e79, ← br.1]
      exact (e16 _ bv.1 bv.2).symm
theorem mm_bZ8_pa {h hc : mH} {c sec r : Int} (X : mm_bZ8 h hc c sec r) : mm_bZ8 h (mm_pa hc 124 0 r) c sec ((mm_pa hc 124 0 r).2.1 124 0) := by
  rw [mm_pa_same]
  exact X

set_option maxRecDepth 100000 in
set_option maxHeartbeats 4000000 in
theorem c_X12_cellOf_q (l : Launch) (hl : l.stackTraces = false) (d : Nat) (hd : 0 ≤ d) (h : mH) (i0 : mm_inv h) (p1 : Int) (p2 : Int) (p3 : Int) (bp1 : 0 ≤ p1 ∧ p1 ≤ 7) (bp2 : 0 ≤ p2 ∧ p2 ≤ 13) (bp3 : 0 ≤ p3 ∧ p3 ≤ 12) : mm_Met l d yX12_cellOf cX12_cellOf 4 (some .int) [mR 66, mI p1, mI p2, mI p3] h (mm_pi fun r h2 => (0 ≤ r ∧ r ≤ 399) ∧ h2 = h ∧ r = mm_cy8 h p1 p2 p3) mm_nx 0 0 := by
  refine mm_ofW (ls := [mR 66, mI p1, mI p2, mI p3]) hl (by decide) rfl (Nat.le_of_ble_eq_true rfl) ?_
  intro x hxl C T hnm htb
  subst hxl
  refine mm_rng (fun hr _ => ?_)
  have ap1 : -2147483648 ≤ p1 ∧ p1 < 2147483648 := mm_ok_at hr (i := 1) rfl
  have ap2 : -2147483648 ≤ p2 ∧ p2 < 2147483648 := mm_ok_at hr (i := 2) rfl
  have ap3 : -2147483648 ≤ p3 ∧ p3 < 2147483648 := mm_ok_at hr (i := 3) rfl
  have f0 : mm_fr [] [] h h := mm_fr_rf
  refine mm_iload_n C (mm_dec dk_X12_cellOf 0 rfl) rfl ?_
  refine mm_iload_n C (mm_dec dk_X12_cellOf 1 rfl) rfl ?_
  have J58 : ∀ (s58_0 : Int) (bs58_0 : 0 ≤ s58_0 ∧ s58_0 ≤ 399) (w58_0 : s58_0 = mm_cy8 h p1 p2 p3), mm_W x 0 0 58 [mU, mU, mU, mU] [mI s58_0] h := by
    intro s58_0 bs58_0 w58_0
    exact mm_iret C T (mm_dec dk_X12_cellOf 35 rfl) (by decide : 0 ≤ 0) (by decide : 0 ≤ 0) ⟨_, rfl, ⟨⟨by omega, by omega⟩, rfl, by exact w58_0⟩⟩
  refine mm_icmp_ge (tgt := 26) C (mm_dec dk_X12_cellOf 2 rfl) (by decide) (fun c2 => ?_) (fun c2 => ?_)
  · skip
    refine mm_iload_n C (mm_dec dk_X12_cellOf 17 rfl) rfl ?_
    refine mm_iload_n C (mm_dec dk_X12_cellOf 18 rfl) rfl ?_
    refine mm_icmp_ne (tgt := 46) C (mm_dec dk_X12_cellOf 19 rfl) (by decide) (fun c28 => ?_) (fun c28 => ?_)
    · skip
      refine mm_bipush C (mm_dec dk_X12_cellOf 28 rfl) ⟨by decide, by decide⟩ ?_
      refine mm_aload_n C (mm_dec dk_X12_cellOf 29 rfl) rfl ?_
      refine mm_geti C fl_X12_210 (mm_dec dk_X12_cellOf 30 rfl) rfl rfl (Or.inl rfl) ?_
      have g1 : 0 ≤ (h.1 66 12) ∧ (h.1 66 12) ≤ 19 := i0.1 66 12
      refine mm_imul C (mm_dec dk_X12_cellOf 31 rfl) ⟨by omega, by omega⟩ ?_
      refine mm_aload_n C (mm_dec dk_X12_cellOf 32 rfl) rfl ?_
      refine mm_geti C fl_X12_207 (mm_dec dk_X12_cellOf 33 rfl) rfl rfl (Or.inl rfl) ?_
      have g2 : 0 ≤ (h.1 66 11) ∧ (h.1 66 11) ≤ 19 := i0.1 66 11
      refine mm_iadd C (mm_dec dk_X12_cellOf 34 rfl) ⟨by omega, by omega⟩ ?_
      refine mm_fgt 0 ?_
      refine mm_fgt 1 ?_
      refine mm_fgt 2 ?_
      refine mm_fgt 3 ?_
      exact J58 ((20 * (h.1 66 12)) + (h.1 66 11)) ⟨by omega, by omega⟩ (by first | exact mm_cy8_1 (by omega) | exact mm_cy8_2 (by omega) | exact mm_cy8_3 (by omega) (by omega))
    · skip
      refine mm_bipush C (mm_dec dk_X12_cellOf 20 rfl) ⟨by decide, by decide⟩ ?_
      refine mm_aload_n C (mm_dec dk_X12_cellOf 21 rfl) rfl ?_
      refine mm_geti C fl_X12_204 (mm_dec dk_X12_cellOf 22 rfl) rfl rfl (Or.inl rfl) ?_
      have g3 : 0 ≤ (h.1 66 10) ∧ (h.1 66 10) ≤ 19 := i0.1 66 10
      refine mm_imul C (mm_dec dk_X12_cellOf 23 rfl) ⟨by omega, by omega⟩ ?_
      refine mm_aload_n C (mm_dec dk_X12_cellOf 24 rfl) rfl ?_
      refine mm_geti C fl_X12_201 (mm_dec dk_X12_cellOf 25 rfl) rfl rfl (Or.inl rfl) ?_
      have g4 : 0 ≤ (h.1 66 9) ∧ (h.1 66 9) ≤ 19 := i0.1 66 9
      refine mm_iadd C (mm_dec dk_X12_cellOf 26 rfl) ⟨by omega, by omega⟩ ?_
      refine mm_goto (tgt := 58) C (mm_dec dk_X12_cellOf 27 rfl) (by decide) ?_
      refine mm_fgt 0 ?_
      refine mm_fgt 1 ?_
      refine mm_fgt 2 ?_
      refine mm_fgt 3 ?_
      exact J58 ((20 * (h.1 66 10)) + (h.1 66 9)) ⟨by omega, by omega⟩ (by first | exact mm_cy8_1 (by omega) | exact mm_cy8_2 (by omega) | exact mm_cy8_3 (by omega) (by omega))
  · skip
    refine mm_aload_n C (mm_dec dk_X12_cellOf 3 rfl) rfl ?_
    refine mm_getr (t := 78) C fl_X12_45 (mm_dec dk_X12_cellOf 4 rfl) rfl rfl (mm_ref i0 rfl) ?_
    refine mm_aload_n C (mm_dec dk_X12_cellOf 5 rfl) rfl ?_
    refine mm_getr (t := 82) C fl_X12_57 (mm_dec dk_X12_cellOf 6 rfl) rfl rfl (mm_ref i0 rfl) ?_
    refine mm_iconst C (mm_dec dk_X12_cellOf 7 rfl) ⟨by decide, by decide⟩ ?_
    refine mm_bipush C (mm_dec dk_X12_cellOf 8 rfl) ⟨by decide, by decide⟩ ?_
    refine mm_iload_n C (mm_dec dk_X12_cellOf 9 rfl) rfl ?_
    refine mm_imul C (mm_dec dk_X12_cellOf 10 rfl) ⟨by omega, by omega⟩ ?_
    refine mm_iload_n C (mm_dec dk_X12_cellOf 11 rfl) rfl ?_
    refine mm_iadd C (mm_dec dk_X12_cellOf 12 rfl) ⟨by omega, by omega⟩ ?_
    refine mm_imul C (mm_dec dk_X12_cellOf 13 rfl) ⟨by omega, by omega⟩ ?_
    refine mm_iald C (mm_dec dk_X12_cellOf 14 rfl) rfl (by omega) (by omega) ?_
    have g5 : 0 ≤ (h.2.1 82 (3 * ((12 * p1) + p2))) ∧ (h.2.1 82 (3 * ((12 * p1) + p2))) ≤ 19 := i0.2.1 82 (3 * ((12 * p1) + p2))
    refine mm_iald C (mm_dec dk_X12_cellOf 15 rfl) rfl (by omega) (by omega) ?_
    have g6 : 0 ≤ (h.2.1 78 (h.2.1 82 (3 * ((12 * p1) + p2)))) ∧ (h.2.1 78 (h.2.1 82 (3 * ((12 * p1) + p2)))) ≤ 399 := i0.2.1 78 (h.2.1 82 (3 * ((12 * p1) + p2)))
    refine mm_goto (tgt := 58) C (mm_dec dk_X12_cellOf 16 rfl) (by decide) ?_
    refine mm_fgt 0 ?_
    refine mm_fgt 1 ?_
    refine mm_fgt 2 ?_
    refine mm_fgt 3 ?_
    exact J58 (h.2.1 78 (h.2.1 82 (3 * ((12 * p1) + p2)))) ⟨by omega, by omega⟩ (by first | exact mm_cy8_1 (by omega) | exact mm_cy8_2 (by omega) | exact mm_cy8_3 (by omega) (by omega))
set_option maxRecDepth 100000 in
set_option maxHeartbeats 4000000 in
theorem c_X12_comesTo_q (l : Launch) (hl : l.stackTraces = false) (d : Nat) (hd : 0 ≤ d) (h : mH) (i0 : mm_inv h) (p1 : Int) (p2 : Int) (p3 : Int) (bp1 : 0 ≤ p1 ∧ p1 ≤ 4095) (bp2 : 0 ≤ p2 ∧ p2 ≤ 11) (bp3 : 0 ≤ p3 ∧ p3 ≤ 12) : mm_Met l d yX12_comesTo cX12_comesTo 7 (some .int) [mR 66, mI p1, mI p2, mI p3] h (mm_pi fun r h2 => (-2147483648 ≤ r ∧ r ≤ 2147483647) ∧ h2 = h ∧ ((p1 = 0 ∧ r = h.2.1 120 (14 * p3 + p2)) ∨ (p1 ≠ 0 ∧ r = mm_cmr (h.2.1 121) (h.2.1 120) p1 p2 p3.toNat))) mm_nx 0 0 := by
  refine mm_ofW (ls := [mR 66, mI p1, mI p2, mI p3, mU, mU, mU]) hl (by decide) rfl (Nat.le_of_ble_eq_true rfl) ?_
  intro x hxl C T hnm htb
  subst hxl
  refine mm_rng (fun hr _ => ?_)
  have ap1 : -2147483648 ≤ p1 ∧ p1 < 2147483648 := mm_ok_at hr (i := 1) rfl
  have ap2 : -2147483648 ≤ p2 ∧ p2 < 2147483648 := mm_ok_at hr (i := 2) rfl
  have ap3 : -2147483648 ≤ p3 ∧ p3 < 2147483648 := mm_ok_at hr (i := 3) rfl
  have f0 : mm_fr [] [] h h := mm_fr_rf
  refine mm_iload_n C (mm_dec dk_X12_comesTo 0 rfl) rfl ?_
  refine mm_if_ne (tgt := 16) C (mm_dec dk_X12_comesTo 1 rfl) (by decide) (fun c1 => ?_) (fun c1 => ?_)
  · skip
    refine mm_ldcw (z := 1000000000) C (mm_dec dk_X12_comesTo 11 rfl) kc_X12_258 (by decide) ?_
    refine mm_istoreL (ls2 := [mR 66, mI p1, mI p2, mI p3, mI 1000000000, mU, mU]) C (mm_dec dk_X12_comesTo 12 rfl) (by decide) rfl ?_
    refine mm_iconst C (mm_dec dk_X12_comesTo 13 rfl) ⟨by decide, by decide⟩ ?_
    have J24 : ∀ (n : Nat) (x24_4 : Int) (bx24_4 : -2147483648 ≤ x24_4 ∧ x24_4 ≤ 1000000000) (x24_5 : Int) (bx24_5 : 0 ≤ x24_5 ∧ x24_5 ≤ 12) (w24_0 : p1 ≠ 0) (w24_1 : x24_4 = mm_cmr (h.2.1 121) (h.2.1 120) p1 p2 (x24_5).toNat) (w24_2 : x24_5 ≤ p3), (12 - x24_5 : Int) < n → mm_W x 0 0 24 [mR 66, mI p1, mI p2, mI p3, mI x24_4, mI x24_5, mU] [] h := by
      intro n
      induction n with
      | zero =>
        intro x24_4 bx24_4 x24_5 bx24_5 w24_0 w24_1 w24_2 hm
        exfalso; omega
      | succ n ih24 =>
        intro x24_4 bx24_4 x24_5 bx24_5 w24_0 w24_1 w24_2 hm24
        refine mm_iload C (mm_dec dk_X12_comesTo 15 rfl) rfl ?_
        refine mm_iload_n C (mm_dec dk_X12_comesTo 16 rfl) rfl ?_
        refine mm_icmp_ge (tgt := 91) C (mm_dec dk_X12_comesTo 17 rfl) (by decide) (fun c27 => ?_) (fun c27 => ?_)
        · skip
          refine mm_iload C (mm_dec dk_X12_comesTo 52 rfl) rfl ?_
          exact mm_iret C T (mm_dec dk_X12_comesTo 53 rfl) (by decide : 0 ≤ 0) (by decide : 0 ≤ 0) ⟨_, rfl, ⟨⟨by omega, by omega⟩, rfl, by first | exact Or.inl ⟨by omega, rfl⟩ | exact Or.inr ⟨w24_0, by rw [show p3 = x24_5 by omega]; exact w24_1⟩⟩⟩
        · skip
          refine mm_iload_n C (mm_dec dk_X12_comesTo 18 rfl) rfl ?_
          refine mm_iload C (mm_dec dk_X12_comesTo 19 rfl) rfl ?_
          refine mm_ishr C (mm_dec dk_X12_comesTo 20 rfl) ?_
          have g1 : -2147483648 ≤ (mm_vishr p1 x24_5) ∧ (mm_vishr p1 x24_5) < 2147483648 := fb_rng _
          refine mm_iconst C (mm_dec dk_X12_comesTo 21 rfl) ⟨by decide, by decide⟩ ?_
          refine mm_iand C (mm_dec dk_X12_comesTo 22 rfl) ?_
          have g3 : 0 ≤ (mm_viand (mm_vishr p1 x24_5) 1) ∧ (mm_viand (mm_vishr p1 x24_5) 1) ≤ 1 := mm_and_rg2 (by omega) (by omega)
          have J85 : ∀ (x85_4 : Int) (bx85_4 : -2147483648 ≤ x85_4 ∧ x85_4 ≤ 1000000000) (w85_0 : x85_4 = mm_cmr (h.2.1 121) (h.2.1 120) p1 p2 (x24_5 + 1).toNat), mm_W x 0 0 85 [mR 66, mI p1, mI p2, mI p3, mI x85_4, mI x24_5, mU] [] h := by
            intro x85_4 bx85_4 w85_0
            refine mm_iincL (ls2 := [mR 66, mI p1, mI p2, mI p3, mI x85_4, mI (x24_5 + 1), mU]) C (mm_dec dk_X12_comesTo 50 rfl) rfl (by decide) ⟨by omega, by omega⟩ rfl ?_
            refine mm_goto (tgt := 24) C (mm_dec dk_X12_comesTo 51 rfl) (by decide) ?_
            exact ih24 x85_4 ⟨by omega, by omega⟩ (x24_5 + 1) ⟨by omega, by omega⟩ (by omega) (by first | rfl | exact w85_0) (by omega) (by omega)
          refine mm_if_ne (tgt := 42) C (mm_dec dk_X12_comesTo 23 rfl) (by decide) (fun c36 => ?_) (fun c36 => ?_)
          · skip
            refine mm_aload_n C (mm_dec dk_X12_comesTo 25 rfl) rfl ?_
            refine mm_getr (t := 121) C fl_X12_175 (mm_dec dk_X12_comesTo 26 rfl) rfl rfl (mm_ref i0 rfl) ?_
            refine mm_bipush C (mm_dec dk_X12_comesTo 27 rfl) ⟨by decide, by decide⟩ ?_
            refine mm_iload_n C (mm_dec dk_X12_comesTo 28 rfl) rfl ?_
            refine mm_imul C (mm_dec dk_X12_comesTo 29 rfl) ⟨by omega, by omega⟩ ?_
            refine mm_iload C (mm_dec dk_X12_comesTo 30 rfl) rfl ?_
            refine mm_iadd C (mm_dec dk_X12_comesTo 31 rfl) ⟨by omega, by omega⟩ ?_
            refine mm_iald C (mm_dec dk_X12_comesTo 32 rfl) rfl (by omega) (by omega) ?_
            have g4 : -2147483648 ≤ (h.2.1 121 ((12 * p1) + x24_5)) ∧ (h.2.1 121 ((12 * p1) + x24_5)) ≤ 2147483647 := i0.2.1 121 ((12 * p1) + x24_5)
            refine mm_aload_n C (mm_dec dk_X12_comesTo 33 rfl) rfl ?_
            refine mm_getr (t := 120) C fl_X12_171 (mm_dec dk_X12_comesTo 34 rfl) rfl rfl (mm_ref i0 rfl) ?_
            refine mm_bipush C (mm_dec dk_X12_comesTo 35 rfl) ⟨by decide, by decide⟩ ?_
            refine mm_iload C (mm_dec dk_X12_comesTo 36 rfl) rfl ?_
            refine mm_imul C (mm_dec dk_X12_comesTo 37 rfl) ⟨by omega, by omega⟩ ?_
            refine mm_iload_n C (mm_dec dk_X12_comesTo 38 rfl) rfl ?_
            refine mm_iadd C (mm_dec dk_X12_comesTo 39 rfl) ⟨by omega, by omega⟩ ?_
            refine mm_iald C (mm_dec dk_X12_comesTo 40 rfl) rfl (by omega) (by omega) ?_
            have g5 : -2147483648 ≤ (h.2.1 120 ((14 * x24_5) + p2)) ∧ (h.2.1 120 ((14 * x24_5) + p2)) ≤ 2147483647 := i0.2.1 120 ((14 * x24_5) + p2)
            refine mm_iaddw C (mm_dec dk_X12_comesTo 41 rfl) ?_
            have g6 : -2147483648 ≤ (mm_w ((h.2.1 121 ((12 * p1) + x24_5)) + (h.2.1 120 ((14 * x24_5) + p2)))) ∧ (mm_w ((h.2.1 121 ((12 * p1) + x24_5)) + (h.2.1 120 ((14 * x24_5) + p2)))) < 2147483648 := mm_w_rg _
            refine mm_istoreL (ls2 := [mR 66, mI p1, mI p2, mI p3, mI x24_4, mI x24_5, mI (mm_w ((h.2.1 121 ((12 * p1) + x24_5)) + (h.2.1 120 ((14 * x24_5) + p2))))]) C (mm_dec dk_X12_comesTo 42 rfl) (by decide) rfl ?_
            refine mm_iload C (mm_dec dk_X12_comesTo 43 rfl) rfl ?_
            refine mm_iload C (mm_dec dk_X12_comesTo 44 rfl) rfl ?_
            have J83 : ∀ (s83_0 : Int) (bs83_0 : -2147483648 ≤ s83_0 ∧ s83_0 ≤ 1000000000) (w83_0 : s83_0 = mm_mi9 x24_4 (mm_w (h.2.1 121 (12 * p1 + x24_5) + h.2.1 120 (14 * x24_5 + p2)))), mm_W x 0 0 83 [mR 66, mI p1, mI p2, mI p3, mU, mI x24_5, mU] [mI s83_0] h := by
              intro s83_0 bs83_0 w83_0
              refine mm_istoreL (ls2 := [mR 66, mI p1, mI p2, mI p3, mI s83_0, mI x24_5, mU]) C (mm_dec dk_X12_comesTo 49 rfl) (by decide) rfl ?_
              exact J85 s83_0 ⟨by omega, by omega⟩ (by first | exact (mm_cmr_s (by omega) w24_1).1 (by assumption) | exact w83_0.trans ((mm_cmr_s (by omega) w24_1).2 (by assumption)))
            refine mm_icmp_ge (tgt := 81) C (mm_dec dk_X12_comesTo 45 rfl) (by decide) (fun c73 => ?_) (fun c73 => ?_)
            · skip
              refine mm_iload C (mm_dec dk_X12_comesTo 48 rfl) rfl ?_
              refine mm_fgt 4 ?_
              refine mm_fgt 6 ?_
              exact J83 x24_4 ⟨by omega, by omega⟩ (by first | (unfold mm_mi9; rw [if_pos (by omega)]) | (unfold mm_mi9; rw [if_neg (by omega)]))
            · skip
              refine mm_iload C (mm_dec dk_X12_comesTo 46 rfl) rfl ?_
              refine mm_goto (tgt := 83) C (mm_dec dk_X12_comesTo 47 rfl) (by decide) ?_
              refine mm_fgt 4 ?_
              refine mm_fgt 6 ?_
              exact J83 (mm_w ((h.2.1 121 ((12 * p1) + x24_5)) + (h.2.1 120 ((14 * x24_5) + p2)))) ⟨by omega, by omega⟩ (by first | (unfold mm_mi9; rw [if_pos (by omega)]) | (unfold mm_mi9; rw [if_neg (by omega)]))
          · skip
            refine mm_goto (tgt := 85) C (mm_dec dk_X12_comesTo 24 rfl) (by decide) ?_
            exact J85 x24_4 ⟨by omega, by omega⟩ (by first | exact (mm_cmr_s (by omega) w24_1).1 (by assumption) | exact w83_0.trans ((mm_cmr_s (by omega) w24_1).2 (by assumption)))
    refine mm_istoreL (ls2 := [mR 66, mI p1, mI p2, mI p3, mI 1000000000, mI 0, mU]) C (mm_dec dk_X12_comesTo 14 rfl) (by decide) rfl ?_
    exact J24 (((12 - 0) : Int) + 1).toNat 1000000000 ⟨by omega, by omega⟩ 0 ⟨by omega, by omega⟩ (by omega) (by first | rfl | exact w85_0) (by omega) (by omega)
  · skip
    refine mm_aload_n C (mm_dec dk_X12_comesTo 2 rfl) rfl ?_
    refine mm_getr (t := 120) C fl_X12_171 (mm_dec dk_X12_comesTo 3 rfl) rfl rfl (mm_ref i0 rfl) ?_
    refine mm_bipush C (mm_dec dk_X12_comesTo 4 rfl) ⟨by decide, by decide⟩ ?_
    refine mm_iload_n C (mm_dec dk_X12_comesTo 5 rfl) rfl ?_
    refine mm_imul C (mm_dec dk_X12_comesTo 6 rfl) ⟨by omega, by omega⟩ ?_
    refine mm_iload_n C (mm_dec dk_X12_comesTo 7 rfl) rfl ?_
    refine mm_iadd C (mm_dec dk_X12_comesTo 8 rfl) ⟨by omega, by omega⟩ ?_
    refine mm_iald C (mm_dec dk_X12_comesTo 9 rfl) rfl (by omega) (by omega) ?_
    have g7 : -2147483648 ≤ (h.2.1 120 ((14 * p3) + p2)) ∧ (h.2.1 120 ((14 * p3) + p2)) ≤ 2147483647 := i0.2.1 120 ((14 * p3) + p2)
    exact mm_iret C T (mm_dec dk_X12_comesTo 10 rfl) (by decide : 0 ≤ 0) (by decide : 0 ≤ 0) ⟨_, rfl, ⟨⟨by omega, by omega⟩, rfl, by first | exact Or.inl ⟨by omega, rfl⟩ | exact Or.inr ⟨w24_0, by rw [show p3 = x24_5 by omega]; exact w24_1⟩⟩⟩
set_option maxRecDepth 100000 in
set_option maxHeartbeats 4000000 in
theorem c_X12_best_q (l : Launch) (hl : l.stackTraces = false) (d : Nat) (hd : 3 ≤ d) (h : mH) (i0 : mm_inv h) (p1 : Int) (p2 : Int) : mm_Met l d yX12_best cX12_best 12 (some .int) [mR 66, mI p1, mI p2] h (mm_pi fun r h2 => (-1 ≤ r ∧ r ≤ 2147483647) ∧ mm_inv h2 ∧ mm_fr [(66, 0), (66, 18), (66, 95), (66, 96), (66, 97)] [72, 73, 75, 76, 120, 121] h h2 ∧ (((0 ≤ p1 ∧ p1 < h.1 66 22) ∧ 0 ≤ p2 ∧ h2.1 66 0 = 0) ∨ ((p1 < 0 ∨ h.1 66 22 ≤ p1) ∧ h2.1 66 0 = 1 ∧ r = 0) ∨ ((0 ≤ p1 ∧ p1 < h.1 66 22) ∧ p2 < 0 ∧ h2.1 66 0 = 2 ∧ r = 0)) ∧ (h2.1 66 0 = 0 → mm_bY8 h h2 p1 p2 r) ∧ (h2.1 66 0 ≠ 0 → h2.1 66 95 = h.1 66 95 ∧ h2.1 66 96 = h.1 66 96 ∧ h2.1 66 97 = h.1 66 97)) mm_nx 0 0 := by
  refine mm_ofW (ls := [mR 66, mI p1, mI p2, mU, mU, mU, mU, mU, mU, mU, mU, mU]) hl (by decide) rfl (Nat.le_of_ble_eq_true rfl) ?_
  intro x hxl C T hnm htb
  subst hxl
  have C1 := mm_OK_le (d' := d - 1 + 1) (by omega) C
  refine mm_rng (fun hr _ => ?_)
  have ap1 : -2147483648 ≤ p1 ∧ p1 < 2147483648 := mm_ok_at hr (i := 1) rfl
  have ap2 : -2147483648 ≤ p2 ∧ p2 < 2147483648 := mm_ok_at hr (i := 2) rfl
  have f0 : mm_fr [(66, 0), (66, 18), (66, 95), (66, 96), (66, 97)] [72, 73, 75, 76, 120, 121] h h := mm_fr_rf
  have g1 : -2147483648 ≤ h.1 66 0 ∧ h.1 66 0 ≤ 2147483647 := i0.1 66 0
  have g2 : 0 ≤ h.1 66 22 ∧ h.1 66 22 ≤ 8 := i0.1 66 22
  have g3 : 0 ≤ h.1 66 95 ∧ h.1 66 95 ≤ 1 := i0.1 66 95
  have g4 : -2147483648 ≤ h.1 66 96 ∧ h.1 66 96 ≤ 2147483647 := i0.1 66 96
  have g5 : -2147483648 ≤ h.1 66 97 ∧ h.1 66 97 ≤ 2147483647 := i0.1 66 97
  refine mm_aload_n C (mm_dec dk_X12_best 0 rfl) rfl ?_
  refine mm_iload_n C (mm_dec dk_X12_best 1 rfl) rfl ?_
  refine mm_cVi (rest := []) C1 ev_X12_288 (mm_dec dk_X12_best 2 rfl) (c_X12_isCourse_q x.2.1 hl (d - 1) (by omega) h i0 p1) rfl rfl (Nat.le_of_ble_eq_true rfl) ⟨by decide, by decide⟩ rfl (fun r2 h2c hp2 => ?_) (fun _ _ q => q.elim)
  obtain ⟨b2, i2c, g2c, y2_0, y2_1⟩ := hp2
  have f2c : mm_fr [(66, 0), (66, 18), (66, 95), (66, 96), (66, 97)] [72, 73, 75, 76, 120, 121] h h2c := mm_fr_tr f0 g2c (by decide +kernel)
  have q2c_7 : h2c.1 66 22 = h.1 66 22 := g2c.1 66 22 (by decide)
  have q2c_8 : h2c.1 66 95 = h.1 66 95 := g2c.1 66 95 (by decide)
  have q2c_9 : h2c.1 66 96 = h.1 66 96 := g2c.1 66 96 (by decide)
  have q2c_10 : h2c.1 66 97 = h.1 66 97 := g2c.1 66 97 (by decide)
  have g11 : -2147483648 ≤ (h2c.1 66 0) ∧ (h2c.1 66 0) ≤ 2147483647 := i2c.1 66 0
  have J25 : ∀ (h25_ : mH) (i25_ : mm_inv h25_) (f25_ : mm_fr [(66, 0), (66, 18), (66, 95), (66, 96), (66, 97)] [72, 73, 75, 76, 120, 121] h h25_) (w25_0 : (((p1 < 0 ∨ h.1 66 22 ≤ p1) ∧ h25_.1 66 0 = 1) ∨ ((0 ≤ p1 ∧ p1 < h.1 66 22) ∧ p2 < 0 ∧ h25_.1 66 0 = 2))) (w25_1 : h25_.1 66 95 = h.1 66 95) (w25_2 : h25_.1 66 96 = h.1 66 96) (w25_3 : h25_.1 66 97 = h.1 66 97), mm_W x 0 0 25 [mU, mU, mU, mU, mU, mU, mU, mU, mU, mU, mU, mU] [] h25_ := by
    intro h25_ i25_ f25_ w25_0 w25_1 w25_2 w25_3
    have g12 : -2147483648 ≤ h25_.1 66 0 ∧ h25_.1 66 0 ≤ 2147483647 := i25_.1 66 0
    have g13 : 0 ≤ h25_.1 66 22 ∧ h25_.1 66 22 ≤ 8 := i25_.1 66 22
    have g14 : 0 ≤ h25_.1 66 95 ∧ h25_.1 66 95 ≤ 1 := i25_.1 66 95
    have g15 : -2147483648 ≤ h25_.1 66 96 ∧ h25_.1 66 96 ≤ 2147483647 := i25_.1 66 96
    have g16 : -2147483648 ≤ h25_.1 66 97 ∧ h25_.1 66 97 ≤ 2147483647 := i25_.1 66 97
    have g17 : h25_.1 66 22 = h.1 66 22 := f25_.1 66 22 (by decide)
    refine mm_iconst C (mm_dec dk_X12_best 13 rfl) ⟨by decide, by decide⟩ ?_
    exact mm_iret C T (mm_dec dk_X12_best 14 rfl) (by decide : 0 ≤ 0) (by decide : 0 ≤ 0) ⟨_, rfl, ⟨⟨by omega, by omega⟩, i25_, f25_, by omega, by first | exact fun q => absurd q (by omega) | exact fun _ => mm_bY8_no (by omega) zn w48_0 (by omega) w153_0 (by omega) (by omega) (by omega) | exact fun _ => mm_bY8_ok (by omega) zn w48_0 (by omega) (by omega) (by omega) w179_0 (by omega) (by omega) (by omega) (by omega) | exact fun _ => Or.inl ⟨by omega, rfl, by omega, by omega, by omega⟩, by first | exact fun _ => ⟨by omega, by omega, by omega⟩ | exact fun q => absurd (by omega) q⟩⟩
  refine mm_if_eq (tgt := 25) C (mm_dec dk_X12_best 3 rfl) (by decide) (fun c5 => ?_) (fun c5 => ?_)
  · skip
    refine mm_fgt 0 ?_
    refine mm_fgt 1 ?_
    refine mm_fgt 2 ?_
    exact J25 h2c i2c f2c (by omega) (by omega) (by omega) (by omega)
  · skip
    refine mm_aload_n C (mm_dec dk_X12_best 4 rfl) rfl ?_
    refine mm_iload_n C (mm_dec dk_X12_best 5 rfl) rfl ?_
    have J18 : ∀ (s18_1 : Int) (bs18_1 : 0 ≤ s18_1 ∧ s18_1 ≤ 1) (vs18_1 : (p2 < 0 ∧ s18_1 = 0) ∨ (0 ≤ p2 ∧ s18_1 = 1)), mm_W x 0 0 18 [mR 66, mI p1, mI p2, mU, mU, mU, mU, mU, mU, mU, mU, mU] [mI s18_1, mR 66] h2c := by
      intro s18_1 bs18_1 vs18_1
      refine mm_iconst C (mm_dec dk_X12_best 10 rfl) ⟨by decide, by decide⟩ ?_
      refine mm_cVi (rest := []) C1 ev_X12_251 (mm_dec dk_X12_best 11 rfl) (c_X12_right_q x.2.1 hl (d - 1) (by omega) h2c i2c s18_1 2 ⟨by omega, by omega⟩ (by omega)) rfl rfl (Nat.le_of_ble_eq_true rfl) ⟨by decide, by decide⟩ rfl (fun r19 h19c hp19 => ?_) (fun _ _ q => q.elim)
      obtain ⟨b19, i19c, g19c, y19_0⟩ := hp19
      have f19c : mm_fr [(66, 0), (66, 18), (66, 95), (66, 96), (66, 97)] [72, 73, 75, 76, 120, 121] h h19c := mm_fr_tr f2c g19c (by decide +kernel)
      have q19c_19 : h19c.1 66 22 = h2c.1 66 22 := g19c.1 66 22 (by decide)
      have q19c_20 : h19c.1 66 95 = h2c.1 66 95 := g19c.1 66 95 (by decide)
      have q19c_21 : h19c.1 66 96 = h2c.1 66 96 := g19c.1 66 96 (by decide)
      have q19c_22 : h19c.1 66 97 = h2c.1 66 97 := g19c.1 66 97 (by decide)
      have g23 : -2147483648 ≤ (h19c.1 66 0) ∧ (h19c.1 66 0) ≤ 2147483647 := i19c.1 66 0
      refine mm_if_ne (tgt := 27) C (mm_dec dk_X12_best 12 rfl) (by decide) (fun c22 => ?_) (fun c22 => ?_)
      · skip
        have z83 : h19c.2.1 83 p1 = h.2.1 83 p1 := f19c.2 83 (by decide) p1
        have zok : (0 ≤ p1 ∧ p1 < h.1 66 22) ∧ 0 ≤ p2 ∧ h19c.1 66 0 = 0 := by omega
        refine mm_aload_n C (mm_dec dk_X12_best 15 rfl) rfl ?_
        refine mm_getr (t := 83) C fl_X12_60 (mm_dec dk_X12_best 16 rfl) rfl rfl (mm_ref i19c rfl) ?_
        refine mm_iload_n C (mm_dec dk_X12_best 17 rfl) rfl ?_
        refine mm_zald C (mm_dec dk_X12_best 18 rfl) rfl (by omega) (by omega) ?_
        have g24 : 0 ≤ (h19c.2.1 83 p1) ∧ (h19c.2.1 83 p1) ≤ 1 := i19c.2.1 83 p1
        refine mm_if_ne (tgt := 38) C (mm_dec dk_X12_best 19 rfl) (by decide) (fun c33 => ?_) (fun c33 => ?_)
        · skip
          have zn : h19c.2.1 80 p1 = h.2.1 80 p1 := f19c.2 80 (by decide) p1
          have zn12 : 0 ≤ (h19c.2.1 80 p1) ∧ (h19c.2.1 80 p1) ≤ 12 := i19c.2.1 80 p1
          have zp : mm_p2 (h19c.2.1 80 p1) = mm_vishl 1 (h19c.2.1 80 p1) := rfl
          have zN := mm_p2_n zn12
          refine mm_aload_n C (mm_dec dk_X12_best 22 rfl) rfl ?_
          refine mm_getr (t := 80) C fl_X12_51 (mm_dec dk_X12_best 23 rfl) rfl rfl (mm_ref i19c rfl) ?_
          refine mm_iload_n C (mm_dec dk_X12_best 24 rfl) rfl ?_
          refine mm_iald C (mm_dec dk_X12_best 25 rfl) rfl (by omega) (by omega) ?_
          have g25 : 0 ≤ (h19c.2.1 80 p1) ∧ (h19c.2.1 80 p1) ≤ 12 := i19c.2.1 80 p1
          refine mm_istore_nL (ls2 := [mR 66, mI p1, mI p2, mI (h19c.2.1 80 p1), mU, mU, mU, mU, mU, mU, mU, mU]) C (mm_dec dk_X12_best 26 rfl) (by decide) rfl ?_
          refine mm_iconst C (mm_dec dk_X12_best 27 rfl) ⟨by decide, by decide⟩ ?_
          have J48 : ∀ (n : Nat) (x48_4 : Int) (bx48_4 : 0 ≤ x48_4 ∧ x48_4 ≤ 19) (h48_ : mH) (i48_ : mm_inv h48_) (f48_ : mm_fr [(66, 0), (66, 18), (66, 95), (66, 96), (66, 97)] [72, 73, 75, 76, 120, 121] h h48_) (w48_0 : mm_FR h h48_ p1 (h19c.2.1 80 p1) x48_4 0) (w48_1 : x48_4 ≤ (h19c.2.1 80 p1) + 2) (w48_2 : h48_.1 66 95 = h.1 66 95) (w48_3 : h48_.1 66 96 = h.1 66 96) (w48_4 : h48_.1 66 97 = h.1 66 97) (w48_5 : h48_.1 66 0 = 0), (19 - x48_4 : Int) < n → mm_W x 0 0 48 [mR 66, mI p1, mI p2, mI (h19c.2.1 80 p1), mI x48_4, mU, mU, mU, mU, mU, mU, mU] [] h48_ := by
            intro n
            induction n with
            | zero =>
              intro x48_4 bx48_4 h48_ i48_ f48_ w48_0 w48_1 w48_2 w48_3 w48_4 w48_5 hm
              have g26 : -2147483648 ≤ h48_.1 66 0 ∧ h48_.1 66 0 ≤ 2147483647 := i48_.1 66 0
              have g27 : 0 ≤ h48_.1 66 22 ∧ h48_.1 66 22 ≤ 8 := i48_.1 66 22
              have g28 : 0 ≤ h48_.1 66 95 ∧ h48_.1 66 95 ≤ 1 := i48_.1 66 95
              have g29 : -2147483648 ≤ h48_.1 66 96 ∧ h48_.1 66 96 ≤ 2147483647 := i48_.1 66 96
              have g30 : -2147483648 ≤ h48_.1 66 97 ∧ h48_.1 66 97 ≤ 2147483647 := i48_.1 66 97
              exfalso; omega
            | succ n ih48 =>
              intro x48_4 bx48_4 h48_ i48_ f48_ w48_0 w48_1 w48_2 w48_3 w48_4 w48_5 hm48
              have g31 : -2147483648 ≤ h48_.1 66 0 ∧ h48_.1 66 0 ≤ 2147483647 := i48_.1 66 0
              have g32 : 0 ≤ h48_.1 66 22 ∧ h48_.1 66 22 ≤ 8 := i48_.1 66 22
              have g33 : 0 ≤ h48_.1 66 95 ∧ h48_.1 66 95 ≤ 1 := i48_.1 66 95
              have g34 : -2147483648 ≤ h48_.1 66 96 ∧ h48_.1 66 96 ≤ 2147483647 := i48_.1 66 96
              have g35 : -2147483648 ≤ h48_.1 66 97 ∧ h48_.1 66 97 ≤ 2147483647 := i48_.1 66 97
              have g36 : h48_.1 66 22 = h.1 66 22 := f48_.1 66 22 (by decide)
              refine mm_iload C (mm_dec dk_X12_best 29 rfl) rfl ?_
              refine mm_iload_n C (mm_dec dk_X12_best 30 rfl) rfl ?_
              refine mm_iconst C (mm_dec dk_X12_best 31 rfl) ⟨by decide, by decide⟩ ?_
              refine mm_iadd C (mm_dec dk_X12_best 32 rfl) ⟨by omega, by omega⟩ ?_
              refine mm_icmp_ge (tgt := 117) C (mm_dec dk_X12_best 33 rfl) (by decide) (fun c53 => ?_) (fun c53 => ?_)
              · skip
                refine mm_aload_n C (mm_dec dk_X12_best 68 rfl) rfl ?_
                refine mm_getr (t := 120) C fl_X12_171 (mm_dec dk_X12_best 69 rfl) rfl rfl (mm_ref i48_ rfl) ?_
                refine mm_bipush C (mm_dec dk_X12_best 70 rfl) ⟨by decide, by decide⟩ ?_
                refine mm_iload_n C (mm_dec dk_X12_best 71 rfl) rfl ?_
                refine mm_imul C (mm_dec dk_X12_best 72 rfl) ⟨by omega, by omega⟩ ?_
                refine mm_iload_n C (mm_dec dk_X12_best 73 rfl) rfl ?_
                refine mm_iadd C (mm_dec dk_X12_best 74 rfl) ⟨by omega, by omega⟩ ?_
                refine mm_iconst C (mm_dec dk_X12_best 75 rfl) ⟨by decide, by decide⟩ ?_
                refine mm_iadd C (mm_dec dk_X12_best 76 rfl) ⟨by omega, by omega⟩ ?_
                refine mm_iald C (mm_dec dk_X12_best 77 rfl) rfl (by omega) (by omega) ?_
                have g37 : -2147483648 ≤ (h48_.2.1 120 (((14 * (h19c.2.1 80 p1)) + (h19c.2.1 80 p1)) + 1)) ∧ (h48_.2.1 120 (((14 * (h19c.2.1 80 p1)) + (h19c.2.1 80 p1)) + 1)) ≤ 2147483647 := i48_.2.1 120 (((14 * (h19c.2.1 80 p1)) + (h19c.2.1 80 p1)) + 1)
                refine mm_ldcw (z := 1000000000) C (mm_dec dk_X12_best 78 rfl) kc_X12_258 (by decide) ?_
                have J153 : ∀ (w153_0 : ((h48_.2.1 120 (14 * (h19c.2.1 80 p1) + (h19c.2.1 80 p1) + 1)) = 1000000000 ∨ p2 < (h48_.2.1 120 (14 * (h19c.2.1 80 p1) + (h19c.2.1 80 p1) + 1)))), mm_W x 0 0 153 [mU, mU, mU, mU, mU, mU, mU, mU, mU, mU, mU, mU] [] h48_ := by
                  intro w153_0
                  have g38 : -2147483648 ≤ h48_.1 66 0 ∧ h48_.1 66 0 ≤ 2147483647 := i48_.1 66 0
                  have g39 : 0 ≤ h48_.1 66 22 ∧ h48_.1 66 22 ≤ 8 := i48_.1 66 22
                  have g40 : 0 ≤ h48_.1 66 95 ∧ h48_.1 66 95 ≤ 1 := i48_.1 66 95
                  have g41 : -2147483648 ≤ h48_.1 66 96 ∧ h48_.1 66 96 ≤ 2147483647 := i48_.1 66 96
                  have g42 : -2147483648 ≤ h48_.1 66 97 ∧ h48_.1 66 97 ≤ 2147483647 := i48_.1 66 97
                  refine mm_iconst C (mm_dec dk_X12_best 92 rfl) ⟨by decide, by decide⟩ ?_
                  exact mm_iret C T (mm_dec dk_X12_best 93 rfl) (by decide : 0 ≤ 0) (by decide : 0 ≤ 0) ⟨_, rfl, ⟨⟨by omega, by omega⟩, i48_, f48_, by omega, by first | exact fun q => absurd q (by omega) | exact fun _ => mm_bY8_no (by omega) zn w48_0 (by omega) w153_0 (by omega) (by omega) (by omega) | exact fun _ => mm_bY8_ok (by omega) zn w48_0 (by omega) (by omega) (by omega) w179_0 (by omega) (by omega) (by omega) (by omega) | exact fun _ => Or.inl ⟨by omega, rfl, by omega, by omega, by omega⟩, by first | exact fun _ => ⟨by omega, by omega, by omega⟩ | exact fun q => absurd (by omega) q⟩⟩
                refine mm_icmp_eq (tgt := 153) C (mm_dec dk_X12_best 79 rfl) (by decide) (fun c133 => ?_) (fun c133 => ?_)
                · skip
                  refine mm_fgt 0 ?_
                  refine mm_fgt 1 ?_
                  refine mm_fgt 2 ?_
                  refine mm_fgt 3 ?_
                  refine mm_fgt 4 ?_
                  exact J153 (by omega)
                · skip
                  refine mm_aload_n C (mm_dec dk_X12_best 80 rfl) rfl ?_
                  refine mm_getr (t := 120) C fl_X12_171 (mm_dec dk_X12_best 81 rfl) rfl rfl (mm_ref i48_ rfl) ?_
                  refine mm_bipush C (mm_dec dk_X12_best 82 rfl) ⟨by decide, by decide⟩ ?_
                  refine mm_iload_n C (mm_dec dk_X12_best 83 rfl) rfl ?_
                  refine mm_imul C (mm_dec dk_X12_best 84 rfl) ⟨by omega, by omega⟩ ?_
                  refine mm_iload_n C (mm_dec dk_X12_best 85 rfl) rfl ?_
                  refine mm_iadd C (mm_dec dk_X12_best 86 rfl) ⟨by omega, by omega⟩ ?_
                  refine mm_iconst C (mm_dec dk_X12_best 87 rfl) ⟨by decide, by decide⟩ ?_
                  refine mm_iadd C (mm_dec dk_X12_best 88 rfl) ⟨by omega, by omega⟩ ?_
                  refine mm_iald C (mm_dec dk_X12_best 89 rfl) rfl (by omega) (by omega) ?_
                  refine mm_iload_n C (mm_dec dk_X12_best 90 rfl) rfl ?_
                  refine mm_icmp_le (tgt := 155) C (mm_dec dk_X12_best 91 rfl) (by decide) (fun c150 => ?_) (fun c150 => ?_)
                  · skip
                    refine mm_iconst C (mm_dec dk_X12_best 94 rfl) ⟨by decide, by decide⟩ ?_
                    refine mm_istoreL (ls2 := [mR 66, mI p1, mI p2, mI (h19c.2.1 80 p1), mI 0, mU, mU, mU, mU, mU, mU, mU]) C (mm_dec dk_X12_best 95 rfl) (by decide) rfl ?_
                    refine mm_iconst C (mm_dec dk_X12_best 96 rfl) ⟨by decide, by decide⟩ ?_
                    refine mm_istoreL (ls2 := [mR 66, mI p1, mI p2, mI (h19c.2.1 80 p1), mI 0, mI 0, mU, mU, mU, mU, mU, mU]) C (mm_dec dk_X12_best 97 rfl) (by decide) rfl ?_
                    refine mm_aload_n C (mm_dec dk_X12_best 98 rfl) rfl ?_
                    refine mm_getr (t := 120) C fl_X12_171 (mm_dec dk_X12_best 99 rfl) rfl rfl (mm_ref i48_ rfl) ?_
                    refine mm_bipush C (mm_dec dk_X12_best 100 rfl) ⟨by decide, by decide⟩ ?_
                    refine mm_iload_n C (mm_dec dk_X12_best 101 rfl) rfl ?_
                    refine mm_imul C (mm_dec dk_X12_best 102 rfl) ⟨by omega, by omega⟩ ?_
                    refine mm_iload_n C (mm_dec dk_X12_best 103 rfl) rfl ?_
                    refine mm_iadd C (mm_dec dk_X12_best 104 rfl) ⟨by omega, by omega⟩ ?_
                    refine mm_iconst C (mm_dec dk_X12_best 105 rfl) ⟨by decide, by decide⟩ ?_
                    refine mm_iadd C (mm_dec dk_X12_best 106 rfl) ⟨by omega, by omega⟩ ?_
                    refine mm_iald C (mm_dec dk_X12_best 107 rfl) rfl (by omega) (by omega) ?_
                    refine mm_istoreL (ls2 := [mR 66, mI p1, mI p2, mI (h19c.2.1 80 p1), mI 0, mI 0, mI (h48_.2.1 120 (((14 * (h19c.2.1 80 p1)) + (h19c.2.1 80 p1)) + 1)), mU, mU, mU, mU, mU]) C (mm_dec dk_X12_best 108 rfl) (by decide) rfl ?_
                    refine mm_iconst C (mm_dec dk_X12_best 109 rfl) ⟨by decide, by decide⟩ ?_
                    have J179 : ∀ (n : Nat) (x179_4 : Int) (bx179_4 : 0 ≤ x179_4 ∧ x179_4 ≤ 2147483647) (x179_5 : Int) (bx179_5 : 0 ≤ x179_5 ∧ x179_5 ≤ 4095) (x179_6 : Int) (bx179_6 : -2147483648 ≤ x179_6 ∧ x179_6 ≤ 2147483647) (x179_7 : Int) (bx179_7 : 1 ≤ x179_7 ∧ x179_7 ≤ 4096) (h179_ : mH) (i179_ : mm_inv h179_) (f179_ : mm_fr [(66, 0), (66, 18), (66, 95), (66, 96), (66, 97)] [72, 73, 75, 76, 120, 121] h h179_) (w179_0 : mm_QB (h48_.2.1 120) h179_ (fun j => h.2.1 79 (h.2.1 82 (36 * p1 + 3 * j))) (h19c.2.1 80 p1) p2 x179_7 x179_4 x179_5 x179_6) (w179_1 : ∀ j, h179_.2.1 120 j = h48_.2.1 120 j) (w179_2 : x179_7 ≤ mm_p2 (h19c.2.1 80 p1)) (w179_3 : h179_.1 66 95 = h.1 66 95) (w179_4 : h179_.1 66 96 = h.1 66 96) (w179_5 : h179_.1 66 97 = h.1 66 97) (w179_6 : h179_.1 66 0 = 0), (4096 - x179_7 : Int) < n → mm_W x 0 0 179 [mR 66, mI p1, mI p2, mI (h19c.2.1 80 p1), mI x179_4, mI x179_5, mI x179_6, mI x179_7, mU, mU, mU, mU] [] h179_ := by
                      intro n
                      induction n with
                      | zero =>
                        intro x179_4 bx179_4 x179_5 bx179_5 x179_6 bx179_6 x179_7 bx179_7 h179_ i179_ f179_ w179_0 w179_1 w179_2 w179_3 w179_4 w179_5 w179_6 hm
                        have g43 : -2147483648 ≤ h179_.1 66 0 ∧ h179_.1 66 0 ≤ 2147483647 := i179_.1 66 0
                        have g44 : 0 ≤ h179_.1 66 22 ∧ h179_.1 66 22 ≤ 8 := i179_.1 66 22
                        have g45 : 0 ≤ h179_.1 66 95 ∧ h179_.1 66 95 ≤ 1 := i179_.1 66 95
                        have g46 : -2147483648 ≤ h179_.1 66 96 ∧ h179_.1 66 96 ≤ 2147483647 := i179_.1 66 96
                        have g47 : -2147483648 ≤ h179_.1 66 97 ∧ h179_.1 66 97 ≤ 2147483647 := i179_.1 66 97
                        exfalso; omega
                      | succ n ih179 =>
                        intro x179_4 bx179_4 x179_5 bx179_5 x179_6 bx179_6 x179_7 bx179_7 h179_ i179_ f179_ w179_0 w179_1 w179_2 w179_3 w179_4 w179_5 w179_6 hm179
                        have g48 : -2147483648 ≤ h179_.1 66 0 ∧ h179_.1 66 0 ≤ 2147483647 := i179_.1 66 0
                        have g49 : 0 ≤ h179_.1 66 22 ∧ h179_.1 66 22 ≤ 8 := i179_.1 66 22
                        have g50 : 0 ≤ h179_.1 66 95 ∧ h179_.1 66 95 ≤ 1 := i179_.1 66 95
                        have g51 : -2147483648 ≤ h179_.1 66 96 ∧ h179_.1 66 96 ≤ 2147483647 := i179_.1 66 96
                        have g52 : -2147483648 ≤ h179_.1 66 97 ∧ h179_.1 66 97 ≤ 2147483647 := i179_.1 66 97
                        have g53 : h179_.1 66 22 = h.1 66 22 := f179_.1 66 22 (by decide)
                        refine mm_iload C (mm_dec dk_X12_best 111 rfl) rfl ?_
                        refine mm_iconst C (mm_dec dk_X12_best 112 rfl) ⟨by decide, by decide⟩ ?_
                        refine mm_iload_n C (mm_dec dk_X12_best 113 rfl) rfl ?_
                        refine mm_ishl C (mm_dec dk_X12_best 114 rfl) ?_
                        have g54 : 1 ≤ (mm_vishl 1 (h19c.2.1 80 p1)) ∧ (mm_vishl 1 (h19c.2.1 80 p1)) ≤ 4096 := mm_shl1 ⟨by omega, by omega⟩
                        refine mm_icmp_ge (tgt := 394) C (mm_dec dk_X12_best 115 rfl) (by decide) (fun c184 => ?_) (fun c184 => ?_)
                        · skip
                          refine mm_aload_n C (mm_dec dk_X12_best 229 rfl) rfl ?_
                          refine mm_iconst C (mm_dec dk_X12_best 230 rfl) ⟨by decide, by decide⟩ ?_
                          refine mm_puti C fl_X12_244 (mm_dec dk_X12_best 231 rfl) rfl rfl rfl (Or.inr ⟨rfl, rfl, by omega⟩) ?_
                          have i3 : mm_inv (mm_pf h179_ 66 95 1) := mm_inv_pf i179_ (show 0 ≤ 1 ∧ 1 ≤ 1 from ⟨by omega, by omega⟩) (by decide)
                          have f3 : mm_fr [(66, 0), (66, 18), (66, 95), (66, 96), (66, 97)] [72, 73, 75, 76, 120, 121] h (mm_pf h179_ 66 95 1) := mm_fr_pf f179_ (by decide)
                          obtain ⟨h3, eh3⟩ : ∃ z, z = mm_pf h179_ 66 95 1 := ⟨_, rfl⟩
                          rw [← eh3] at i3 f3 ⊢
                          have qh3 : h3.1 66 95 = 1 := by rw [eh3]; exact mm_pf_same _ _ _ _
                          have qh3_55 : h3.1 66 0 = h179_.1 66 0 := by rw [eh3]; exact mm_pf_ne _ _ (by decide)
                          have qh3_56 : h3.1 66 22 = h179_.1 66 22 := by rw [eh3]; exact mm_pf_ne _ _ (by decide)
                          have qh3_57 : h3.1 66 96 = h179_.1 66 96 := by rw [eh3]; exact mm_pf_ne _ _ (by decide)
                          have qh3_58 : h3.1 66 97 = h179_.1 66 97 := by rw [eh3]; exact mm_pf_ne _ _ (by decide)
                          refine mm_aload_n C (mm_dec dk_X12_best 232 rfl) rfl ?_
                          refine mm_iload C (mm_dec dk_X12_best 233 rfl) rfl ?_
                          refine mm_puti C fl_X12_533 (mm_dec dk_X12_best 234 rfl) rfl rfl rfl (Or.inl ⟨rfl, rfl⟩) ?_
                          have i4 : mm_inv (mm_pf h3 66 96 x179_5) := mm_inv_pf i3 (show -2147483648 ≤ x179_5 ∧ x179_5 ≤ 2147483647 from ⟨by omega, by omega⟩) (by decide)
                          have f4 : mm_fr [(66, 0), (66, 18), (66, 95), (66, 96), (66, 97)] [72, 73, 75, 76, 120, 121] h (mm_pf h3 66 96 x179_5) := mm_fr_pf f3 (by decide)
                          obtain ⟨h4, eh4⟩ : ∃ z, z = mm_pf h3 66 96 x179_5 := ⟨_, rfl⟩
                          rw [← eh4] at i4 f4 ⊢
                          have qh4 : h4.1 66 96 = x179_5 := by rw [eh4]; exact mm_pf_same _ _ _ _
                          have qh4_59 : h4.1 66 0 = h3.1 66 0 := by rw [eh4]; exact mm_pf_ne _ _ (by decide)
                          have qh4_60 : h4.1 66 22 = h3.1 66 22 := by rw [eh4]; exact mm_pf_ne _ _ (by decide)
                          have qh4_61 : h4.1 66 95 = h3.1 66 95 := by rw [eh4]; exact mm_pf_ne _ _ (by decide)
                          have qh4_62 : h4.1 66 97 = h3.1 66 97 := by rw [eh4]; exact mm_pf_ne _ _ (by decide)
                          refine mm_aload_n C (mm_dec dk_X12_best 235 rfl) rfl ?_
                          refine mm_iload C (mm_dec dk_X12_best 236 rfl) rfl ?_
                          refine mm_puti C fl_X12_536 (mm_dec dk_X12_best 237 rfl) rfl rfl rfl (Or.inl ⟨rfl, rfl⟩) ?_
                          have i5 : mm_inv (mm_pf h4 66 97 x179_6) := mm_inv_pf i4 (show -2147483648 ≤ x179_6 ∧ x179_6 ≤ 2147483647 from ⟨by omega, by omega⟩) (by decide)
                          have f5 : mm_fr [(66, 0), (66, 18), (66, 95), (66, 96), (66, 97)] [72, 73, 75, 76, 120, 121] h (mm_pf h4 66 97 x179_6) := mm_fr_pf f4 (by decide)
                          obtain ⟨h5, eh5⟩ : ∃ z, z = mm_pf h4 66 97 x179_6 := ⟨_, rfl⟩
                          rw [← eh5] at i5 f5 ⊢
                          have qh5 : h5.1 66 97 = x179_6 := by rw [eh5]; exact mm_pf_same _ _ _ _
                          have qh5_63 : h5.1 66 0 = h4.1 66 0 := by rw [eh5]; exact mm_pf_ne _ _ (by decide)
                          have qh5_64 : h5.1 66 22 = h4.1 66 22 := by rw [eh5]; exact mm_pf_ne _ _ (by decide)
                          have qh5_65 : h5.1 66 95 = h4.1 66 95 := by rw [eh5]; exact mm_pf_ne _ _ (by decide)
                          have qh5_66 : h5.1 66 96 = h4.1 66 96 := by rw [eh5]; exact mm_pf_ne _ _ (by decide)
                          refine mm_iload C (mm_dec dk_X12_best 238 rfl) rfl ?_
                          exact mm_iret C T (mm_dec dk_X12_best 239 rfl) (by decide : 0 ≤ 0) (by decide : 0 ≤ 0) ⟨_, rfl, ⟨⟨by omega, by omega⟩, i5, f5, by omega, by first | exact fun q => absurd q (by omega) | exact fun _ => mm_bY8_no (by omega) zn w48_0 (by omega) w153_0 (by omega) (by omega) (by omega) | exact fun _ => mm_bY8_ok (by omega) zn w48_0 (by omega) (by omega) (by omega) w179_0 (by omega) (by omega) (by omega) (by omega) | exact fun _ => Or.inl ⟨by omega, rfl, by omega, by omega, by omega⟩, by first | exact fun _ => ⟨by omega, by omega, by omega⟩ | exact fun q => absurd (by omega) q⟩⟩
                        · skip
                          refine mm_ldcw (z := 1000000000) C (mm_dec dk_X12_best 116 rfl) kc_X12_258 (by decide) ?_
                          refine mm_istoreL (ls2 := [mR 66, mI p1, mI p2, mI (h19c.2.1 80 p1), mI x179_4, mI x179_5, mI x179_6, mI x179_7, mI 1000000000, mU, mU, mU]) C (mm_dec dk_X12_best 117 rfl) (by decide) rfl ?_
                          refine mm_iconst C (mm_dec dk_X12_best 118 rfl) ⟨by decide, by decide⟩ ?_
                          refine mm_istoreL (ls2 := [mR 66, mI p1, mI p2, mI (h19c.2.1 80 p1), mI x179_4, mI x179_5, mI x179_6, mI x179_7, mI 1000000000, mI 0, mU, mU]) C (mm_dec dk_X12_best 119 rfl) (by decide) rfl ?_
                          refine mm_iconst C (mm_dec dk_X12_best 120 rfl) ⟨by decide, by decide⟩ ?_
                          have J198 : ∀ (n : Nat) (x198_8 : Int) (bx198_8 : -2147483648 ≤ x198_8 ∧ x198_8 ≤ 1000000000) (x198_9 : Int) (bx198_9 : -2147483648 ≤ x198_9 ∧ x198_9 ≤ 2147483647) (x198_10 : Int) (bx198_10 : 0 ≤ x198_10 ∧ x198_10 ≤ 12) (h198_ : mH) (i198_ : mm_inv h198_) (f198_ : mm_fr [(66, 0), (66, 18), (66, 95), (66, 96), (66, 97)] [72, 73, 75, 76, 120, 121] h h198_) (w198_0 : mm_QI (h48_.2.1 120) h198_ (fun j => h.2.1 79 (h.2.1 82 (36 * p1 + 3 * j))) (h19c.2.1 80 p1) p2 x179_7 x198_10 x198_8 x198_9 x179_4 x179_5 x179_6) (w198_1 : ∀ j, h198_.2.1 120 j = h48_.2.1 120 j) (w198_2 : x198_10 ≤ (h19c.2.1 80 p1)) (w198_3 : h198_.1 66 95 = h.1 66 95) (w198_4 : h198_.1 66 96 = h.1 66 96) (w198_5 : h198_.1 66 97 = h.1 66 97) (w198_6 : h198_.1 66 0 = 0), (12 - x198_10 : Int) < n → mm_W x 0 0 198 [mR 66, mI p1, mI p2, mI (h19c.2.1 80 p1), mI x179_4, mI x179_5, mI x179_6, mI x179_7, mI x198_8, mI x198_9, mI x198_10, mU] [] h198_ := by
                            intro n
                            induction n with
                            | zero =>
                              intro x198_8 bx198_8 x198_9 bx198_9 x198_10 bx198_10 h198_ i198_ f198_ w198_0 w198_1 w198_2 w198_3 w198_4 w198_5 w198_6 hm
                              have g67 : -2147483648 ≤ h198_.1 66 0 ∧ h198_.1 66 0 ≤ 2147483647 := i198_.1 66 0
                              have g68 : 0 ≤ h198_.1 66 22 ∧ h198_.1 66 22 ≤ 8 := i198_.1 66 22
                              have g69 : 0 ≤ h198_.1 66 95 ∧ h198_.1 66 95 ≤ 1 := i198_.1 66 95
                              have g70 : -2147483648 ≤ h198_.1 66 96 ∧ h198_.1 66 96 ≤ 2147483647 := i198_.1 66 96
                              have g71 : -2147483648 ≤ h198_.1 66 97 ∧ h198_.1 66 97 ≤ 2147483647 := i198_.1 66 97
                              exfalso; omega
                            | succ n ih198 =>
                              intro x198_8 bx198_8 x198_9 bx198_9 x198_10 bx198_10 h198_ i198_ f198_ w198_0 w198_1 w198_2 w198_3 w198_4 w198_5 w198_6 hm198
                              have g72 : -2147483648 ≤ h198_.1 66 0 ∧ h198_.1 66 0 ≤ 2147483647 := i198_.1 66 0
                              have g73 : 0 ≤ h198_.1 66 22 ∧ h198_.1 66 22 ≤ 8 := i198_.1 66 22
                              have g74 : 0 ≤ h198_.1 66 95 ∧ h198_.1 66 95 ≤ 1 := i198_.1 66 95
                              have g75 : -2147483648 ≤ h198_.1 66 96 ∧ h198_.1 66 96 ≤ 2147483647 := i198_.1 66 96
                              have g76 : -2147483648 ≤ h198_.1 66 97 ∧ h198_.1 66 97 ≤ 2147483647 := i198_.1 66 97
                              have g77 : h198_.1 66 22 = h.1 66 22 := f198_.1 66 22 (by decide)
                              refine mm_iload C (mm_dec dk_X12_best 122 rfl) rfl ?_
                              refine mm_iload_n C (mm_dec dk_X12_best 123 rfl) rfl ?_
                              refine mm_icmp_ge (tgt := 338) C (mm_dec dk_X12_best 124 rfl) (by decide) (fun c201 => ?_) (fun c201 => ?_)
                              · skip
                                refine mm_iload C (mm_dec dk_X12_best 205 rfl) rfl ?_
                                refine mm_iload_n C (mm_dec dk_X12_best 206 rfl) rfl ?_
                                have J388 : ∀ (x388_4 : Int) (bx388_4 : 0 ≤ x388_4 ∧ x388_4 ≤ 2147483647) (x388_5 : Int) (bx388_5 : 0 ≤ x388_5 ∧ x388_5 ≤ 4095) (x388_6 : Int) (bx388_6 : -2147483648 ≤ x388_6 ∧ x388_6 ≤ 2147483647) (w388_0 : mm_QB (h48_.2.1 120) h198_ (fun j => h.2.1 79 (h.2.1 82 (36 * p1 + 3 * j))) (h19c.2.1 80 p1) p2 (x179_7 + 1) x388_4 x388_5 x388_6), mm_W x 0 0 388 [mR 66, mI p1, mI p2, mI (h19c.2.1 80 p1), mI x388_4, mI x388_5, mI x388_6, mI x179_7, mU, mU, mU, mU] [] h198_ := by
                                  intro x388_4 bx388_4 x388_5 bx388_5 x388_6 bx388_6 w388_0
                                  have g78 : -2147483648 ≤ h198_.1 66 0 ∧ h198_.1 66 0 ≤ 2147483647 := i198_.1 66 0
                                  have g79 : 0 ≤ h198_.1 66 22 ∧ h198_.1 66 22 ≤ 8 := i198_.1 66 22
                                  have g80 : 0 ≤ h198_.1 66 95 ∧ h198_.1 66 95 ≤ 1 := i198_.1 66 95
                                  have g81 : -2147483648 ≤ h198_.1 66 96 ∧ h198_.1 66 96 ≤ 2147483647 := i198_.1 66 96
                                  have g82 : -2147483648 ≤ h198_.1 66 97 ∧ h198_.1 66 97 ≤ 2147483647 := i198_.1 66 97
                                  refine mm_iincL (ls2 := [mR 66, mI p1, mI p2, mI (h19c.2.1 80 p1), mI x388_4, mI x388_5, mI x388_6, mI (x179_7 + 1), mU, mU, mU, mU]) C (mm_dec dk_X12_best 227 rfl) rfl (by decide) ⟨by omega, by omega⟩ rfl ?_
                                  refine mm_goto (tgt := 179) C (mm_dec dk_X12_best 228 rfl) (by decide) ?_
                                  exact ih179 x388_4 ⟨by omega, by omega⟩ x388_5 ⟨by omega, by omega⟩ x388_6 ⟨by omega, by omega⟩ (x179_7 + 1) ⟨by omega, by omega⟩ h198_ i198_ f198_ (by first | exact mm_QB_0 rfl | exact w388_0) (by first | exact fun _ => rfl | exact w198_1) (by omega) (by omega) (by omega) (by omega) (by omega) (by omega)
                                refine mm_icmp_gt (tgt := 388) C (mm_dec dk_X12_best 207 rfl) (by decide) (fun c341 => ?_) (fun c341 => ?_)
                                · skip
                                  refine mm_fgt 8 ?_
                                  refine mm_fgt 9 ?_
                                  refine mm_fgt 10 ?_
                                  exact J388 x179_4 ⟨by omega, by omega⟩ x179_5 ⟨by omega, by omega⟩ x179_6 ⟨by omega, by omega⟩ (by first | exact mm_QB_s w198_0 (by omega) (by omega) (Or.inl ⟨w376_0, rfl, rfl, rfl⟩) | exact mm_QB_s w198_0 (by omega) (by omega) (Or.inr ⟨by omega, rfl, rfl, rfl⟩))
                                · skip
                                  refine mm_iload C (mm_dec dk_X12_best 208 rfl) rfl ?_
                                  refine mm_ldcw (z := 1000000000) C (mm_dec dk_X12_best 209 rfl) kc_X12_258 (by decide) ?_
                                  refine mm_icmp_ge (tgt := 388) C (mm_dec dk_X12_best 210 rfl) (by decide) (fun c349 => ?_) (fun c349 => ?_)
                                  · skip
                                    refine mm_fgt 8 ?_
                                    refine mm_fgt 9 ?_
                                    refine mm_fgt 10 ?_
                                    exact J388 x179_4 ⟨by omega, by omega⟩ x179_5 ⟨by omega, by omega⟩ x179_6 ⟨by omega, by omega⟩ (by first | exact mm_QB_s w198_0 (by omega) (by omega) (Or.inl ⟨w376_0, rfl, rfl, rfl⟩) | exact mm_QB_s w198_0 (by omega) (by omega) (Or.inr ⟨by omega, rfl, rfl, rfl⟩))
                                  · skip
                                    refine mm_iload C (mm_dec dk_X12_best 211 rfl) rfl ?_
                                    refine mm_iload C (mm_dec dk_X12_best 212 rfl) rfl ?_
                                    refine mm_icmp_lt (tgt := 388) C (mm_dec dk_X12_best 213 rfl) (by decide) (fun c356 => ?_) (fun c356 => ?_)
                                    · skip
                                      refine mm_fgt 8 ?_
                                      refine mm_fgt 9 ?_
                                      refine mm_fgt 10 ?_
                                      exact J388 x179_4 ⟨by omega, by omega⟩ x179_5 ⟨by omega, by omega⟩ x179_6 ⟨by omega, by omega⟩ (by first | exact mm_QB_s w198_0 (by omega) (by omega) (Or.inl ⟨w376_0, rfl, rfl, rfl⟩) | exact mm_QB_s w198_0 (by omega) (by omega) (Or.inr ⟨by omega, rfl, rfl, rfl⟩))
                                    · skip
                                      refine mm_iload C (mm_dec dk_X12_best 214 rfl) rfl ?_
                                      refine mm_iload C (mm_dec dk_X12_best 215 rfl) rfl ?_
                                      have J376 : ∀ (w376_0 : (x198_8 ≤ p2 ∧ x198_8 < 1000000000 ∧ (x179_4 < x198_9 ∨ (x179_4 = x198_9 ∧ x198_8 < x179_6)))), mm_W x 0 0 376 [mR 66, mI p1, mI p2, mI (h19c.2.1 80 p1), mU, mU, mU, mI x179_7, mI x198_8, mI x198_9, mU, mU] [] h198_ := by
                                        intro w376_0
                                        have g83 : -2147483648 ≤ h198_.1 66 0 ∧ h198_.1 66 0 ≤ 2147483647 := i198_.1 66 0
                                        have g84 : 0 ≤ h198_.1 66 22 ∧ h198_.1 66 22 ≤ 8 := i198_.1 66 22
                                        have g85 : 0 ≤ h198_.1 66 95 ∧ h198_.1 66 95 ≤ 1 := i198_.1 66 95
                                        have g86 : -2147483648 ≤ h198_.1 66 96 ∧ h198_.1 66 96 ≤ 2147483647 := i198_.1 66 96
                                        have g87 : -2147483648 ≤ h198_.1 66 97 ∧ h198_.1 66 97 ≤ 2147483647 := i198_.1 66 97
                                        refine mm_iload C (mm_dec dk_X12_best 221 rfl) rfl ?_
                                        refine mm_istoreL (ls2 := [mR 66, mI p1, mI p2, mI (h19c.2.1 80 p1), mI x198_9, mU, mU, mI x179_7, mI x198_8, mI x198_9, mU, mU]) C (mm_dec dk_X12_best 222 rfl) (by decide) rfl ?_
                                        refine mm_iload C (mm_dec dk_X12_best 223 rfl) rfl ?_
                                        refine mm_istoreL (ls2 := [mR 66, mI p1, mI p2, mI (h19c.2.1 80 p1), mI x198_9, mI x179_7, mU, mI x179_7, mI x198_8, mI x198_9, mU, mU]) C (mm_dec dk_X12_best 224 rfl) (by decide) rfl ?_
                                        refine mm_iload C (mm_dec dk_X12_best 225 rfl) rfl ?_
                                        refine mm_istoreL (ls2 := [mR 66, mI p1, mI p2, mI (h19c.2.1 80 p1), mI x198_9, mI x179_7, mI x198_8, mI x179_7, mI x198_8, mI x198_9, mU, mU]) C (mm_dec dk_X12_best 226 rfl) (by decide) rfl ?_
                                        refine mm_fgt 8 ?_
                                        refine mm_fgt 9 ?_
                                        exact J388 x198_9 ⟨by omega, by omega⟩ x179_7 ⟨by omega, by omega⟩ x198_8 ⟨by omega, by omega⟩ (by first | exact mm_QB_s w198_0 (by omega) (by omega) (Or.inl ⟨w376_0, rfl, rfl, rfl⟩) | exact mm_QB_s w198_0 (by omega) (by omega) (Or.inr ⟨by omega, rfl, rfl, rfl⟩))
                                      refine mm_icmp_ne (tgt := 376) C (mm_dec dk_X12_best 216 rfl) (by decide) (fun c363 => ?_) (fun c363 => ?_)
                                      · skip
                                        refine mm_fgt 4 ?_
                                        refine mm_fgt 5 ?_
                                        refine mm_fgt 6 ?_
                                        refine mm_fgt 10 ?_
                                        exact J376 (by omega)
                                      · skip
                                        refine mm_iload C (mm_dec dk_X12_best 217 rfl) rfl ?_
                                        refine mm_iload C (mm_dec dk_X12_best 218 rfl) rfl ?_
                                        refine mm_icmp_lt (tgt := 376) C (mm_dec dk_X12_best 219 rfl) (by decide) (fun c370 => ?_) (fun c370 => ?_)
                                        · skip
                                          refine mm_fgt 4 ?_
                                          refine mm_fgt 5 ?_
                                          refine mm_fgt 6 ?_
                                          refine mm_fgt 10 ?_
                                          exact J376 (by omega)
                                        · skip
                                          refine mm_goto (tgt := 388) C (mm_dec dk_X12_best 220 rfl) (by decide) ?_
                                          refine mm_fgt 8 ?_
                                          refine mm_fgt 9 ?_
                                          refine mm_fgt 10 ?_
                                          exact J388 x179_4 ⟨by omega, by omega⟩ x179_5 ⟨by omega, by omega⟩ x179_6 ⟨by omega, by omega⟩ (by first | exact mm_QB_s w198_0 (by omega) (by omega) (Or.inl ⟨w376_0, rfl, rfl, rfl⟩) | exact mm_QB_s w198_0 (by omega) (by omega) (Or.inr ⟨by omega, rfl, rfl, rfl⟩))
                              · skip
                                refine mm_aload_n C (mm_dec dk_X12_best 125 rfl) rfl ?_
                                refine mm_getr (t := 121) C fl_X12_175 (mm_dec dk_X12_best 126 rfl) rfl rfl (mm_ref i198_ rfl) ?_
                                refine mm_bipush C (mm_dec dk_X12_best 127 rfl) ⟨by decide, by decide⟩ ?_
                                refine mm_iload C (mm_dec dk_X12_best 128 rfl) rfl ?_
                                refine mm_imul C (mm_dec dk_X12_best 129 rfl) ⟨by omega, by omega⟩ ?_
                                refine mm_iload C (mm_dec dk_X12_best 130 rfl) rfl ?_
                                refine mm_iadd C (mm_dec dk_X12_best 131 rfl) ⟨by omega, by omega⟩ ?_
                                refine mm_ldcw (z := 1000000000) C (mm_dec dk_X12_best 132 rfl) kc_X12_258 (by decide) ?_
                                refine mm_iast C (mm_dec dk_X12_best 133 rfl) rfl (by omega) (by omega) ?_
                                have i6 : mm_inv (mm_pa h198_ 121 ((12 * x179_7) + x198_10) 1000000000) := mm_inv_pa i198_ (show -2147483648 ≤ 1000000000 ∧ 1000000000 ≤ 2147483647 from ⟨by omega, by omega⟩)
                                have f6 : mm_fr [(66, 0), (66, 18), (66, 95), (66, 96), (66, 97)] [72, 73, 75, 76, 120, 121] h (mm_pa h198_ 121 ((12 * x179_7) + x198_10) 1000000000) := mm_fr_pa f198_ (by decide)
                                obtain ⟨h6, eh6⟩ : ∃ z, z = mm_pa h198_ 121 ((12 * x179_7) + x198_10) 1000000000 := ⟨_, rfl⟩
                                rw [← eh6] at i6 f6 ⊢
                                have qh6_88 : h6.1 66 0 = h198_.1 66 0 := by rw [eh6]; rfl
                                have qh6_89 : h6.1 66 22 = h198_.1 66 22 := by rw [eh6]; rfl
                                have qh6_90 : h6.1 66 95 = h198_.1 66 95 := by rw [eh6]; rfl
                                have qh6_91 : h6.1 66 96 = h198_.1 66 96 := by rw [eh6]; rfl
                                have qh6_92 : h6.1 66 97 = h198_.1 66 97 := by rw [eh6]; rfl
                                refine mm_iload C (mm_dec dk_X12_best 134 rfl) rfl ?_
                                refine mm_iload C (mm_dec dk_X12_best 135 rfl) rfl ?_
                                refine mm_ishr C (mm_dec dk_X12_best 136 rfl) ?_
                                have g93 : -2147483648 ≤ (mm_vishr x179_7 x198_10) ∧ (mm_vishr x179_7 x198_10) < 2147483648 := fb_rng _
                                refine mm_iconst C (mm_dec dk_X12_best 137 rfl) ⟨by decide, by decide⟩ ?_
                                refine mm_iand C (mm_dec dk_X12_best 138 rfl) ?_
                                have g95 : 0 ≤ (mm_viand (mm_vishr x179_7 x198_10) 1) ∧ (mm_viand (mm_vishr x179_7 x198_10) 1) ≤ 1 := mm_and_rg2 (by omega) (by omega)
                                have J332 : ∀ (x332_8 : Int) (bx332_8 : -2147483648 ≤ x332_8 ∧ x332_8 ≤ 1000000000) (x332_9 : Int) (bx332_9 : -2147483648 ≤ x332_9 ∧ x332_9 ≤ 2147483647) (h332_ : mH) (i332_ : mm_inv h332_) (f332_ : mm_fr [(66, 0), (66, 18), (66, 95), (66, 96), (66, 97)] [72, 73, 75, 76, 120, 121] h h332_) (w332_0 : mm_QI (h48_.2.1 120) h332_ (fun j => h.2.1 79 (h.2.1 82 (36 * p1 + 3 * j))) (h19c.2.1 80 p1) p2 x179_7 (x198_10 + 1) x332_8 x332_9 x179_4 x179_5 x179_6) (w332_1 : ∀ j, h332_.2.1 120 j = h48_.2.1 120 j) (w332_2 : h332_.1 66 95 = h.1 66 95) (w332_3 : h332_.1 66 96 = h.1 66 96) (w332_4 : h332_.1 66 97 = h.1 66 97) (w332_5 : h332_.1 66 0 = 0), mm_W x 0 0 332 [mR 66, mI p1, mI p2, mI (h19c.2.1 80 p1), mI x179_4, mI x179_5, mI x179_6, mI x179_7, mI x332_8, mI x332_9, mI x198_10, mU] [] h332_ := by
                                  intro x332_8 bx332_8 x332_9 bx332_9 h332_ i332_ f332_ w332_0 w332_1 w332_2 w332_3 w332_4 w332_5
                                  have g96 : -2147483648 ≤ h332_.1 66 0 ∧ h332_.1 66 0 ≤ 2147483647 := i332_.1 66 0
                                  have g97 : 0 ≤ h332_.1 66 22 ∧ h332_.1 66 22 ≤ 8 := i332_.1 66 22
                                  have g98 : 0 ≤ h332_.1 66 95 ∧ h332_.1 66 95 ≤ 1 := i332_.1 66 95
                                  have g99 : -2147483648 ≤ h332_.1 66 96 ∧ h332_.1 66 96 ≤ 2147483647 := i332_.1 66 96
                                  have g100 : -2147483648 ≤ h332_.1 66 97 ∧ h332_.1 66 97 ≤ 2147483647 := i332_.1 66 97
                                  have g101 : h332_.1 66 22 = h.1 66 22 := f332_.1 66 22 (by decide)
                                  refine mm_iincL (ls2 := [mR 66, mI p1, mI p2, mI (h19c.2.1 80 p1), mI x179_4, mI x179_5, mI x179_6, mI x179_7, mI x332_8, mI x332_9, mI (x198_10 + 1), mU]) C (mm_dec dk_X12_best 203 rfl) rfl (by decide) ⟨by omega, by omega⟩ rfl ?_
                                  refine mm_goto (tgt := 198) C (mm_dec dk_X12_best 204 rfl) (by decide) ?_
                                  exact ih198 x332_8 ⟨by omega, by omega⟩ x332_9 ⟨by omega, by omega⟩ (x198_10 + 1) ⟨by omega, by omega⟩ h332_ i332_ f332_ (by first | exact mm_QI_0 w179_0 | exact w332_0) (by first | exact w179_1 | exact w332_1) (by omega) (by omega) (by omega) (by omega) (by omega) (by omega)
                                have zpt : h6.2.1 79 (h6.2.1 82 (3 * ((12 * p1) + x198_10))) = h.2.1 79 (h.2.1 82 (36 * p1 + 3 * x198_10)) := by rw [f6.2 82 (by decide), f6.2 79 (by decide), show 3 * ((12 * p1) + x198_10) = 36 * p1 + 3 * x198_10 by omega]
                                refine mm_if_ne (tgt := 233) C (mm_dec dk_X12_best 139 rfl) (by decide) (fun c227 => ?_) (fun c227 => ?_)
                                · skip
                                  refine mm_iload C (mm_dec dk_X12_best 141 rfl) rfl ?_
                                  refine mm_aload_n C (mm_dec dk_X12_best 142 rfl) rfl ?_
                                  refine mm_getr (t := 79) C fl_X12_48 (mm_dec dk_X12_best 143 rfl) rfl rfl (mm_ref i6 rfl) ?_
                                  refine mm_aload_n C (mm_dec dk_X12_best 144 rfl) rfl ?_
                                  refine mm_getr (t := 82) C fl_X12_57 (mm_dec dk_X12_best 145 rfl) rfl rfl (mm_ref i6 rfl) ?_
                                  refine mm_iconst C (mm_dec dk_X12_best 146 rfl) ⟨by decide, by decide⟩ ?_
                                  refine mm_bipush C (mm_dec dk_X12_best 147 rfl) ⟨by decide, by decide⟩ ?_
                                  refine mm_iload_n C (mm_dec dk_X12_best 148 rfl) rfl ?_
                                  refine mm_imul C (mm_dec dk_X12_best 149 rfl) ⟨by omega, by omega⟩ ?_
                                  refine mm_iload C (mm_dec dk_X12_best 150 rfl) rfl ?_
                                  refine mm_iadd C (mm_dec dk_X12_best 151 rfl) ⟨by omega, by omega⟩ ?_
                                  refine mm_imul C (mm_dec dk_X12_best 152 rfl) ⟨by omega, by omega⟩ ?_
                                  refine mm_iald C (mm_dec dk_X12_best 153 rfl) rfl (by omega) (by omega) ?_
                                  have g102 : 0 ≤ (h6.2.1 82 (3 * ((12 * p1) + x198_10))) ∧ (h6.2.1 82 (3 * ((12 * p1) + x198_10))) ≤ 19 := i6.2.1 82 (3 * ((12 * p1) + x198_10))
                                  refine mm_iald C (mm_dec dk_X12_best 154 rfl) rfl (by omega) (by omega) ?_
                                  have g103 : -2147483648 ≤ (h6.2.1 79 (h6.2.1 82 (3 * ((12 * p1) + x198_10)))) ∧ (h6.2.1 79 (h6.2.1 82 (3 * ((12 * p1) + x198_10)))) ≤ 2147483647 := i6.2.1 79 (h6.2.1 82 (3 * ((12 * p1) + x198_10)))
                                  refine mm_iaddw C (mm_dec dk_X12_best 155 rfl) ?_
                                  have g104 : -2147483648 ≤ (mm_w (x198_9 + (h6.2.1 79 (h6.2.1 82 (3 * ((12 * p1) + x198_10)))))) ∧ (mm_w (x198_9 + (h6.2.1 79 (h6.2.1 82 (3 * ((12 * p1) + x198_10)))))) < 2147483648 := mm_w_rg _
                                  refine mm_istoreL (ls2 := [mR 66, mI p1, mI p2, mI (h19c.2.1 80 p1), mI x179_4, mI x179_5, mI x179_6, mI x179_7, mI x198_8, mI (mm_w (x198_9 + (h6.2.1 79 (h6.2.1 82 (3 * ((12 * p1) + x198_10)))))), mI x198_10, mU]) C (mm_dec dk_X12_best 156 rfl) (by decide) rfl ?_
                                  refine mm_aload_n C (mm_dec dk_X12_best 157 rfl) rfl ?_
                                  refine mm_getr (t := 121) C fl_X12_175 (mm_dec dk_X12_best 158 rfl) rfl rfl (mm_ref i6 rfl) ?_
                                  refine mm_bipush C (mm_dec dk_X12_best 159 rfl) ⟨by decide, by decide⟩ ?_
                                  refine mm_iload C (mm_dec dk_X12_best 160 rfl) rfl ?_
                                  refine mm_imul C (mm_dec dk_X12_best 161 rfl) ⟨by omega, by omega⟩ ?_
                                  refine mm_iload C (mm_dec dk_X12_best 162 rfl) rfl ?_
                                  refine mm_iadd C (mm_dec dk_X12_best 163 rfl) ⟨by omega, by omega⟩ ?_
                                  refine mm_aload_n C (mm_dec dk_X12_best 164 rfl) rfl ?_
                                  refine mm_iload C (mm_dec dk_X12_best 165 rfl) rfl ?_
                                  refine mm_iconst C (mm_dec dk_X12_best 166 rfl) ⟨by decide, by decide⟩ ?_
                                  refine mm_iload C (mm_dec dk_X12_best 167 rfl) rfl ?_
                                  refine mm_ishl C (mm_dec dk_X12_best 168 rfl) ?_
                                  have g105 : 1 ≤ (mm_vishl 1 x198_10) ∧ (mm_vishl 1 x198_10) ≤ 2048 := mm_shl1b ⟨by omega, by omega⟩
                                  refine mm_iconst C (mm_dec dk_X12_best 169 rfl) ⟨by decide, by decide⟩ ?_
                                  refine mm_ixor C (mm_dec dk_X12_best 170 rfl) ?_
                                  have g106 : -2147483648 ≤ (mm_vixor (mm_vishl 1 x198_10) (-1)) ∧ (mm_vixor (mm_vishl 1 x198_10) (-1)) < 2147483648 := fb_rng _
                                  refine mm_iand C (mm_dec dk_X12_best 171 rfl) ?_
                                  have g107 : 0 ≤ (mm_viand x179_7 (mm_vixor (mm_vishl 1 x198_10) (-1))) ∧ (mm_viand x179_7 (mm_vixor (mm_vishl 1 x198_10) (-1))) ≤ x179_7 := mm_and_rg (by omega) (by omega)
                                  refine mm_iload C (mm_dec dk_X12_best 172 rfl) rfl ?_
                                  refine mm_iload_n C (mm_dec dk_X12_best 173 rfl) rfl ?_
                                  refine mm_cVi (rest := [mI ((12 * x179_7) + x198_10), mR 121]) C1 ev_X12_530 (mm_dec dk_X12_best 174 rfl) (c_X12_comesTo_q x.2.1 hl (d - 1) (by omega) h6 i6 (mm_viand x179_7 (mm_vixor (mm_vishl 1 x198_10) (-1))) x198_10 (h19c.2.1 80 p1) ⟨by omega, by omega⟩ ⟨by omega, by omega⟩ ⟨by omega, by omega⟩) rfl rfl (Nat.le_of_ble_eq_true rfl) ⟨by decide, by decide⟩ rfl (fun r282 h282c hp282 => ?_) (fun _ _ q => q.elim)
                                  obtain ⟨b282, z282, y282_0⟩ := hp282
                                  rw [z282]
                                  refine mm_iast C (mm_dec dk_X12_best 175 rfl) rfl (by omega) (by omega) ?_
                                  have i7 : mm_inv (mm_pa h6 121 ((12 * x179_7) + x198_10) r282) := mm_inv_pa i6 (show -2147483648 ≤ r282 ∧ r282 ≤ 2147483647 from ⟨by omega, by omega⟩)
                                  have f7 : mm_fr [(66, 0), (66, 18), (66, 95), (66, 96), (66, 97)] [72, 73, 75, 76, 120, 121] h (mm_pa h6 121 ((12 * x179_7) + x198_10) r282) := mm_fr_pa f6 (by decide)
                                  obtain ⟨h7, eh7⟩ : ∃ z, z = mm_pa h6 121 ((12 * x179_7) + x198_10) r282 := ⟨_, rfl⟩
                                  rw [← eh7] at i7 f7 ⊢
                                  have qh7_109 : h7.1 66 0 = h6.1 66 0 := by rw [eh7]; rfl
                                  have qh7_110 : h7.1 66 22 = h6.1 66 22 := by rw [eh7]; rfl
                                  have qh7_111 : h7.1 66 95 = h6.1 66 95 := by rw [eh7]; rfl
                                  have qh7_112 : h7.1 66 96 = h6.1 66 96 := by rw [eh7]; rfl
                                  have qh7_113 : h7.1 66 97 = h6.1 66 97 := by rw [eh7]; rfl
                                  refine mm_aload_n C (mm_dec dk_X12_best 176 rfl) rfl ?_
                                  refine mm_getr (t := 121) C fl_X12_175 (mm_dec dk_X12_best 177 rfl) rfl rfl (mm_ref i7 rfl) ?_
                                  refine mm_bipush C (mm_dec dk_X12_best 178 rfl) ⟨by decide, by decide⟩ ?_
                                  refine mm_iload C (mm_dec dk_X12_best 179 rfl) rfl ?_
                                  refine mm_imul C (mm_dec dk_X12_best 180 rfl) ⟨by omega, by omega⟩ ?_
                                  refine mm_iload C (mm_dec dk_X12_best 181 rfl) rfl ?_
                                  refine mm_iadd C (mm_dec dk_X12_best 182 rfl) ⟨by omega, by omega⟩ ?_
                                  refine mm_iald C (mm_dec dk_X12_best 183 rfl) rfl (by omega) (by omega) ?_
                                  have g114 : -2147483648 ≤ (h7.2.1 121 ((12 * x179_7) + x198_10)) ∧ (h7.2.1 121 ((12 * x179_7) + x198_10)) ≤ 2147483647 := i7.2.1 121 ((12 * x179_7) + x198_10)
                                  refine mm_aload_n C (mm_dec dk_X12_best 184 rfl) rfl ?_
                                  refine mm_getr (t := 120) C fl_X12_171 (mm_dec dk_X12_best 185 rfl) rfl rfl (mm_ref i7 rfl) ?_
                                  refine mm_bipush C (mm_dec dk_X12_best 186 rfl) ⟨by decide, by decide⟩ ?_
                                  refine mm_iload C (mm_dec dk_X12_best 187 rfl) rfl ?_
                                  refine mm_imul C (mm_dec dk_X12_best 188 rfl) ⟨by omega, by omega⟩ ?_
                                  refine mm_iload_n C (mm_dec dk_X12_best 189 rfl) rfl ?_
                                  refine mm_iadd C (mm_dec dk_X12_best 190 rfl) ⟨by omega, by omega⟩ ?_
                                  refine mm_iconst C (mm_dec dk_X12_best 191 rfl) ⟨by decide, by decide⟩ ?_
                                  refine mm_iadd C (mm_dec dk_X12_best 192 rfl) ⟨by omega, by omega⟩ ?_
                                  refine mm_iald C (mm_dec dk_X12_best 193 rfl) rfl (by omega) (by omega) ?_
                                  have g115 : -2147483648 ≤ (h7.2.1 120 (((14 * x198_10) + (h19c.2.1 80 p1)) + 1)) ∧ (h7.2.1 120 (((14 * x198_10) + (h19c.2.1 80 p1)) + 1)) ≤ 2147483647 := i7.2.1 120 (((14 * x198_10) + (h19c.2.1 80 p1)) + 1)
                                  refine mm_iaddw C (mm_dec dk_X12_best 194 rfl) ?_
                                  have g116 : -2147483648 ≤ (mm_w ((h7.2.1 121 ((12 * x179_7) + x198_10)) + (h7.2.1 120 (((14 * x198_10) + (h19c.2.1 80 p1)) + 1)))) ∧ (mm_w ((h7.2.1 121 ((12 * x179_7) + x198_10)) + (h7.2.1 120 (((14 * x198_10) + (h19c.2.1 80 p1)) + 1)))) < 2147483648 := mm_w_rg _
                                  refine mm_istoreL (ls2 := [mR 66, mI p1, mI p2, mI (h19c.2.1 80 p1), mI x179_4, mI x179_5, mI x179_6, mI x179_7, mI x198_8, mI (mm_w (x198_9 + (h6.2.1 79 (h6.2.1 82 (3 * ((12 * p1) + x198_10)))))), mI x198_10, mI (mm_w ((h7.2.1 121 ((12 * x179_7) + x198_10)) + (h7.2.1 120 (((14 * x198_10) + (h19c.2.1 80 p1)) + 1))))]) C (mm_dec dk_X12_best 195 rfl) (by decide) rfl ?_
                                  have zv : h7.2.1 120 (((14 * x198_10) + (h19c.2.1 80 p1)) + 1) = h48_.2.1 120 (14 * x198_10 + ((h19c.2.1 80 p1) + 1)) := by rw [eh7, mm_pa_o 120 121 (by decide), eh6, mm_pa_o 120 121 (by decide), w198_1, show ((14 * x198_10) + (h19c.2.1 80 p1)) + 1 = 14 * x198_10 + ((h19c.2.1 80 p1) + 1) by omega]
                                  have zu : h7.2.1 121 (12 * x179_7 + x198_10) = h7.2.1 121 ((12 * x179_7) + x198_10) := rfl
                                  refine mm_iload C (mm_dec dk_X12_best 196 rfl) rfl ?_
                                  refine mm_iload C (mm_dec dk_X12_best 197 rfl) rfl ?_
                                  have J330 : ∀ (s330_0 : Int) (bs330_0 : -2147483648 ≤ s330_0 ∧ s330_0 ≤ 1000000000) (w330_0 : s330_0 = mm_mi9 x198_8 (mm_w (h7.2.1 121 (12 * x179_7 + x198_10) + h48_.2.1 120 (14 * x198_10 + ((h19c.2.1 80 p1) + 1))))), mm_W x 0 0 330 [mR 66, mI p1, mI p2, mI (h19c.2.1 80 p1), mI x179_4, mI x179_5, mI x179_6, mI x179_7, mU, mI (mm_w (x198_9 + (h6.2.1 79 (h6.2.1 82 (3 * ((12 * p1) + x198_10)))))), mI x198_10, mU] [mI s330_0] h7 := by
                                    intro s330_0 bs330_0 w330_0
                                    refine mm_istoreL (ls2 := [mR 66, mI p1, mI p2, mI (h19c.2.1 80 p1), mI x179_4, mI x179_5, mI x179_6, mI x179_7, mI s330_0, mI (mm_w (x198_9 + (h6.2.1 79 (h6.2.1 82 (3 * ((12 * p1) + x198_10)))))), mI x198_10, mU]) C (mm_dec dk_X12_best 202 rfl) (by decide) rfl ?_
                                    exact J332 s330_0 ⟨by omega, by omega⟩ (mm_w (x198_9 + (h6.2.1 79 (h6.2.1 82 (3 * ((12 * p1) + x198_10)))))) ⟨by omega, by omega⟩ h7 i7 f7 (by first | exact mm_QI_w (by omega) w198_0 (by omega) (by omega) (by omega) (fun j q => by rw [eh6]; exact mm_pa_j 121 q) (by rw [if_pos (show mm_bq x179_7 x198_10 = 0 by assumption), eh6]; exact mm_pa_same _ _ _ _) (Or.inl ⟨by assumption, rfl, rfl⟩) | exact mm_QI_y zn12 w198_0 ⟨by omega, by omega⟩ (by omega) (by omega) (by assumption) eh6 eh7 rfl y282_0 rfl w198_1 w330_0 (congrArg (fun z => mm_w (x198_9 + z)) zpt)) (by first | exact fun j => (mm_sm_pa 120 eh6 (by decide) j).trans (w198_1 j) | exact fun j => (mm_sm_pa 120 eh7 (by decide) j).trans ((mm_sm_pa 120 eh6 (by decide) j).trans (w198_1 j))) (by omega) (by omega) (by omega) (by omega)
                                  refine mm_icmp_ge (tgt := 328) C (mm_dec dk_X12_best 198 rfl) (by decide) (fun c320 => ?_) (fun c320 => ?_)
                                  · skip
                                    refine mm_iload C (mm_dec dk_X12_best 201 rfl) rfl ?_
                                    refine mm_fgt 8 ?_
                                    refine mm_fgt 11 ?_
                                    exact J330 x198_8 ⟨by omega, by omega⟩ (by first | (unfold mm_mi9; rw [zu, ← zv, if_pos (by omega)]) | (unfold mm_mi9; rw [zu, ← zv, if_neg (by omega)]))
                                  · skip
                                    refine mm_iload C (mm_dec dk_X12_best 199 rfl) rfl ?_
                                    refine mm_goto (tgt := 330) C (mm_dec dk_X12_best 200 rfl) (by decide) ?_
                                    refine mm_fgt 8 ?_
                                    refine mm_fgt 11 ?_
                                    exact J330 (mm_w ((h7.2.1 121 ((12 * x179_7) + x198_10)) + (h7.2.1 120 (((14 * x198_10) + (h19c.2.1 80 p1)) + 1)))) ⟨by omega, by omega⟩ (by first | (unfold mm_mi9; rw [zu, ← zv, if_pos (by omega)]) | (unfold mm_mi9; rw [zu, ← zv, if_neg (by omega)]))
                                · skip
                                  refine mm_goto (tgt := 332) C (mm_dec dk_X12_best 140 rfl) (by decide) ?_
                                  exact J332 x198_8 ⟨by omega, by omega⟩ x198_9 ⟨by omega, by omega⟩ h6 i6 f6 (by first | exact mm_QI_w (by omega) w198_0 (by omega) (by omega) (by omega) (fun j q => by rw [eh6]; exact mm_pa_j 121 q) (by rw [if_pos (show mm_bq x179_7 x198_10 = 0 by assumption), eh6]; exact mm_pa_same _ _ _ _) (Or.inl ⟨by assumption, rfl, rfl⟩) | exact mm_QI_y zn12 w198_0 ⟨by omega, by omega⟩ (by omega) (by omega) (by assumption) eh6 eh7 rfl y282_0 rfl w198_1 w330_0 (congrArg (fun z => mm_w (x198_9 + z)) zpt)) (by first | exact fun j => (mm_sm_pa 120 eh6 (by decide) j).trans (w198_1 j) | exact fun j => (mm_sm_pa 120 eh7 (by decide) j).trans ((mm_sm_pa 120 eh6 (by decide) j).trans (w198_1 j))) (by omega) (by omega) (by omega) (by omega)
                          refine mm_istoreL (ls2 := [mR 66, mI p1, mI p2, mI (h19c.2.1 80 p1), mI x179_4, mI x179_5, mI x179_6, mI x179_7, mI 1000000000, mI 0, mI 0, mU]) C (mm_dec dk_X12_best 121 rfl) (by decide) rfl ?_
                          exact J198 (((12 - 0) : Int) + 1).toNat 1000000000 ⟨by omega, by omega⟩ 0 ⟨by omega, by omega⟩ 0 ⟨by omega, by omega⟩ h179_ i179_ f179_ (by first | exact mm_QI_0 w179_0 | exact w332_0) (by first | exact w179_1 | exact w332_1) (by omega) (by omega) (by omega) (by omega) (by omega) (by omega)
                    refine mm_istoreL (ls2 := [mR 66, mI p1, mI p2, mI (h19c.2.1 80 p1), mI 0, mI 0, mI (h48_.2.1 120 (((14 * (h19c.2.1 80 p1)) + (h19c.2.1 80 p1)) + 1)), mI 1, mU, mU, mU, mU]) C (mm_dec dk_X12_best 110 rfl) (by decide) rfl ?_
                    exact J179 (((4096 - 1) : Int) + 1).toNat 0 ⟨by omega, by omega⟩ 0 ⟨by omega, by omega⟩ (h48_.2.1 120 (((14 * (h19c.2.1 80 p1)) + (h19c.2.1 80 p1)) + 1)) ⟨by omega, by omega⟩ 1 ⟨by omega, by omega⟩ h48_ i48_ f48_ (by first | exact mm_QB_0 rfl | exact w388_0) (by first | exact fun _ => rfl | exact w198_1) (by omega) (by omega) (by omega) (by omega) (by omega) (by omega)
                  · skip
                    refine mm_fgt 0 ?_
                    refine mm_fgt 1 ?_
                    refine mm_fgt 2 ?_
                    refine mm_fgt 3 ?_
                    refine mm_fgt 4 ?_
                    exact J153 (by omega)
              · skip
                refine mm_aload_n C (mm_dec dk_X12_best 34 rfl) rfl ?_
                refine mm_aload_n C (mm_dec dk_X12_best 35 rfl) rfl ?_
                refine mm_iload_n C (mm_dec dk_X12_best 36 rfl) rfl ?_
                refine mm_iload C (mm_dec dk_X12_best 37 rfl) rfl ?_
                refine mm_iload_n C (mm_dec dk_X12_best 38 rfl) rfl ?_
                refine mm_cVi (rest := [mR 66]) C1 ev_X12_527 (mm_dec dk_X12_best 39 rfl) (c_X12_cellOf_q x.2.1 hl (d - 1) (by omega) h48_ i48_ p1 x48_4 (h19c.2.1 80 p1) ⟨by omega, by omega⟩ ⟨by omega, by omega⟩ ⟨by omega, by omega⟩) rfl rfl (Nat.le_of_ble_eq_true rfl) ⟨by decide, by decide⟩ rfl (fun r62 h62c hp62 => ?_) (fun _ _ q => q.elim)
                obtain ⟨b62, z62, y62_0⟩ := hp62
                rw [z62]
                refine mm_cVv (rest := []) C1 ev_X12_280 (mm_dec dk_X12_best 40 rfl) (c_X12_towards_q x.2.1 hl (d - 1) (by omega) h48_ i48_ r62 ⟨by omega, by omega⟩) rfl rfl (Nat.le_of_ble_eq_true rfl) ⟨by decide, by decide⟩ rfl (fun h65c hp65 => ?_) (fun _ _ q => q.elim)
                obtain ⟨i65c, g65c, y65_0⟩ := hp65
                have f65c : mm_fr [(66, 0), (66, 18), (66, 95), (66, 96), (66, 97)] [72, 73, 75, 76, 120, 121] h h65c := mm_fr_tr f48_ g65c (by decide +kernel)
                have q65c_119 : h65c.1 66 0 = h48_.1 66 0 := g65c.1 66 0 (by decide)
                have q65c_120 : h65c.1 66 22 = h48_.1 66 22 := g65c.1 66 22 (by decide)
                have q65c_121 : h65c.1 66 95 = h48_.1 66 95 := g65c.1 66 95 (by decide)
                have q65c_122 : h65c.1 66 96 = h48_.1 66 96 := g65c.1 66 96 (by decide)
                have q65c_123 : h65c.1 66 97 = h48_.1 66 97 := g65c.1 66 97 (by decide)
                have z62 : r62 = mm_cy8 h p1 x48_4 (h19c.2.1 80 p1) := y62_0.trans (mm_cy8_cg (fun j => f48_.2 78 (by decide) j) (fun j => f48_.2 82 (by decide) j) (f48_.1 66 9 (by decide)) (f48_.1 66 10 (by decide)) (f48_.1 66 11 (by decide)) (f48_.1 66 12 (by decide)))
                have zFT : mm_FT h65c (mm_cy8 h p1 x48_4 (h19c.2.1 80 p1)) := by rw [← z62]; exact y65_0
                refine mm_iconst C (mm_dec dk_X12_best 41 rfl) ⟨by decide, by decide⟩ ?_
                have J71 : ∀ (n : Nat) (x71_5 : Int) (bx71_5 : 0 ≤ x71_5 ∧ x71_5 ≤ 19) (h71_ : mH) (i71_ : mm_inv h71_) (f71_ : mm_fr [(66, 0), (66, 18), (66, 95), (66, 96), (66, 97)] [72, 73, 75, 76, 120, 121] h h71_) (w71_0 : mm_FR h h71_ p1 (h19c.2.1 80 p1) x48_4 x71_5) (w71_1 : ∀ j, h71_.2.1 72 j = h65c.2.1 72 j) (w71_2 : x71_5 ≤ (h19c.2.1 80 p1) + 2) (w71_3 : h71_.1 66 95 = h.1 66 95) (w71_4 : h71_.1 66 96 = h.1 66 96) (w71_5 : h71_.1 66 97 = h.1 66 97) (w71_6 : h71_.1 66 0 = 0), (19 - x71_5 : Int) < n → mm_W x 0 0 71 [mR 66, mI p1, mI p2, mI (h19c.2.1 80 p1), mI x48_4, mI x71_5, mU, mU, mU, mU, mU, mU] [] h71_ := by
                  intro n
                  induction n with
                  | zero =>
                    intro x71_5 bx71_5 h71_ i71_ f71_ w71_0 w71_1 w71_2 w71_3 w71_4 w71_5 w71_6 hm
                    have g124 : -2147483648 ≤ h71_.1 66 0 ∧ h71_.1 66 0 ≤ 2147483647 := i71_.1 66 0
                    have g125 : 0 ≤ h71_.1 66 22 ∧ h71_.1 66 22 ≤ 8 := i71_.1 66 22
                    have g126 : 0 ≤ h71_.1 66 95 ∧ h71_.1 66 95 ≤ 1 := i71_.1 66 95
                    have g127 : -2147483648 ≤ h71_.1 66 96 ∧ h71_.1 66 96 ≤ 2147483647 := i71_.1 66 96
                    have g128 : -2147483648 ≤ h71_.1 66 97 ∧ h71_.1 66 97 ≤ 2147483647 := i71_.1 66 97
                    exfalso; omega
                  | succ n ih71 =>
                    intro x71_5 bx71_5 h71_ i71_ f71_ w71_0 w71_1 w71_2 w71_3 w71_4 w71_5 w71_6 hm71
                    have g129 : -2147483648 ≤ h71_.1 66 0 ∧ h71_.1 66 0 ≤ 2147483647 := i71_.1 66 0
                    have g130 : 0 ≤ h71_.1 66 22 ∧ h71_.1 66 22 ≤ 8 := i71_.1 66 22
                    have g131 : 0 ≤ h71_.1 66 95 ∧ h71_.1 66 95 ≤ 1 := i71_.1 66 95
                    have g132 : -2147483648 ≤ h71_.1 66 96 ∧ h71_.1 66 96 ≤ 2147483647 := i71_.1 66 96
                    have g133 : -2147483648 ≤ h71_.1 66 97 ∧ h71_.1 66 97 ≤ 2147483647 := i71_.1 66 97
                    have g134 : h71_.1 66 22 = h.1 66 22 := f71_.1 66 22 (by decide)
                    refine mm_iload C (mm_dec dk_X12_best 43 rfl) rfl ?_
                    refine mm_iload_n C (mm_dec dk_X12_best 44 rfl) rfl ?_
                    refine mm_iconst C (mm_dec dk_X12_best 45 rfl) ⟨by decide, by decide⟩ ?_
                    refine mm_iadd C (mm_dec dk_X12_best 46 rfl) ⟨by omega, by omega⟩ ?_
                    refine mm_icmp_ge (tgt := 111) C (mm_dec dk_X12_best 47 rfl) (by decide) (fun c76 => ?_) (fun c76 => ?_)
                    · skip
                      refine mm_iincL (ls2 := [mR 66, mI p1, mI p2, mI (h19c.2.1 80 p1), mI (x48_4 + 1), mI x71_5, mU, mU, mU, mU, mU, mU]) C (mm_dec dk_X12_best 66 rfl) rfl (by decide) ⟨by omega, by omega⟩ rfl ?_
                      refine mm_goto (tgt := 48) C (mm_dec dk_X12_best 67 rfl) (by decide) ?_
                      refine mm_fgt 5 ?_
                      exact ih48 (x48_4 + 1) ⟨by omega, by omega⟩ h71_ i71_ f71_ (by first | exact mm_FR_0 | exact mm_FR_n w71_0 (by omega)) (by omega) (by omega) (by omega) (by omega) (by omega) (by omega)
                    · skip
                      refine mm_aload_n C (mm_dec dk_X12_best 48 rfl) rfl ?_
                      refine mm_getr (t := 120) C fl_X12_171 (mm_dec dk_X12_best 49 rfl) rfl rfl (mm_ref i71_ rfl) ?_
                      refine mm_bipush C (mm_dec dk_X12_best 50 rfl) ⟨by decide, by decide⟩ ?_
                      refine mm_iload C (mm_dec dk_X12_best 51 rfl) rfl ?_
                      refine mm_imul C (mm_dec dk_X12_best 52 rfl) ⟨by omega, by omega⟩ ?_
                      refine mm_iload C (mm_dec dk_X12_best 53 rfl) rfl ?_
                      refine mm_iadd C (mm_dec dk_X12_best 54 rfl) ⟨by omega, by omega⟩ ?_
                      refine mm_aload_n C (mm_dec dk_X12_best 55 rfl) rfl ?_
                      refine mm_getr (t := 72) C fl_X12_26 (mm_dec dk_X12_best 56 rfl) rfl rfl (mm_ref i71_ rfl) ?_
                      refine mm_aload_n C (mm_dec dk_X12_best 57 rfl) rfl ?_
                      refine mm_iload_n C (mm_dec dk_X12_best 58 rfl) rfl ?_
                      refine mm_iload C (mm_dec dk_X12_best 59 rfl) rfl ?_
                      refine mm_iload_n C (mm_dec dk_X12_best 60 rfl) rfl ?_
                      refine mm_cVi (rest := [mR 72, mI ((14 * x71_5) + x48_4), mR 120]) C1 ev_X12_527 (mm_dec dk_X12_best 61 rfl) (c_X12_cellOf_q x.2.1 hl (d - 1) (by omega) h71_ i71_ p1 x71_5 (h19c.2.1 80 p1) ⟨by omega, by omega⟩ ⟨by omega, by omega⟩ ⟨by omega, by omega⟩) rfl rfl (Nat.le_of_ble_eq_true rfl) ⟨by decide, by decide⟩ rfl (fun r100 h100c hp100 => ?_) (fun _ _ q => q.elim)
                      obtain ⟨b100, z100, y100_0⟩ := hp100
                      rw [z100]
                      have z100 : r100 = mm_cy8 h p1 x71_5 (h19c.2.1 80 p1) := y100_0.trans (mm_cy8_cg (fun j => f71_.2 78 (by decide) j) (fun j => f71_.2 82 (by decide) j) (f71_.1 66 9 (by decide)) (f71_.1 66 10 (by decide)) (f71_.1 66 11 (by decide)) (f71_.1 66 12 (by decide)))
                      refine mm_iald C (mm_dec dk_X12_best 62 rfl) rfl (by omega) (by omega) ?_
                      have g136 : 0 ≤ (h71_.2.1 72 r100) ∧ (h71_.2.1 72 r100) ≤ 1000000000 := i71_.2.1 72 r100
                      refine mm_iast C (mm_dec dk_X12_best 63 rfl) rfl (by omega) (by omega) ?_
                      have i9 : mm_inv (mm_pa h71_ 120 ((14 * x71_5) + x48_4) (h71_.2.1 72 r100)) := mm_inv_pa i71_ (show -2147483648 ≤ (h71_.2.1 72 r100) ∧ (h71_.2.1 72 r100) ≤ 2147483647 from ⟨by omega, by omega⟩)
                      have f9 : mm_fr [(66, 0), (66, 18), (66, 95), (66, 96), (66, 97)] [72, 73, 75, 76, 120, 121] h (mm_pa h71_ 120 ((14 * x71_5) + x48_4) (h71_.2.1 72 r100)) := mm_fr_pa f71_ (by decide)
                      obtain ⟨h9, eh9⟩ : ∃ z, z = mm_pa h71_ 120 ((14 * x71_5) + x48_4) (h71_.2.1 72 r100) := ⟨_, rfl⟩
                      rw [← eh9] at i9 f9 ⊢
                      have qh9_137 : h9.1 66 0 = h71_.1 66 0 := by rw [eh9]; rfl
                      have qh9_138 : h9.1 66 22 = h71_.1 66 22 := by rw [eh9]; rfl
                      have qh9_139 : h9.1 66 95 = h71_.1 66 95 := by rw [eh9]; rfl
                      have qh9_140 : h9.1 66 96 = h71_.1 66 96 := by rw [eh9]; rfl
                      have qh9_141 : h9.1 66 97 = h71_.1 66 97 := by rw [eh9]; rfl
                      refine mm_iincL (ls2 := [mR 66, mI p1, mI p2, mI (h19c.2.1 80 p1), mI x48_4, mI (x71_5 + 1), mU, mU, mU, mU, mU, mU]) C (mm_dec dk_X12_best 64 rfl) rfl (by decide) ⟨by omega, by omega⟩ rfl ?_
                      refine mm_goto (tgt := 71) C (mm_dec dk_X12_best 65 rfl) (by decide) ?_
                      exact ih71 (x71_5 + 1) ⟨by omega, by omega⟩ h9 i9 f9 (by first | exact mm_FR_cg w48_0 (fun j => g65c.2 120 (by decide) j) | exact mm_FR_s w71_0 eh9 (by omega) (by omega) (by omega) (by omega) ⟨h65c, i65c, mm_lnd_fr f65c (by decide), zFT, by rw [w71_1, z100]⟩) (by first | exact fun _ => rfl | exact fun j => (mm_sm_pa 72 eh9 (by decide) j).trans (w71_1 j)) (by omega) (by omega) (by omega) (by omega) (by omega) (by omega)
                refine mm_istoreL (ls2 := [mR 66, mI p1, mI p2, mI (h19c.2.1 80 p1), mI x48_4, mI 0, mU, mU, mU, mU, mU, mU]) C (mm_dec dk_X12_best 42 rfl) (by decide) rfl ?_
                exact J71 (((19 - 0) : Int) + 1).toNat 0 ⟨by omega, by omega⟩ h65c i65c f65c (by first | exact mm_FR_cg w48_0 (fun j => g65c.2 120 (by decide) j) | exact mm_FR_s w71_0 eh9 (by omega) (by omega) (by omega) (by omega) ⟨h65c, i65c, mm_lnd_fr f65c (by decide), zFT, by rw [w71_1, z100]⟩) (by first | exact fun _ => rfl | exact fun j => (mm_sm_pa 72 eh9 (by decide) j).trans (w71_1 j)) (by omega) (by omega) (by omega) (by omega) (by omega) (by omega)
          refine mm_istoreL (ls2 := [mR 66, mI p1, mI p2, mI (h19c.2.1 80 p1), mI 0, mU, mU, mU, mU, mU, mU, mU]) C (mm_dec dk_X12_best 28 rfl) (by decide) rfl ?_
          exact J48 (((19 - 0) : Int) + 1).toNat 0 ⟨by omega, by omega⟩ h19c i19c f19c (by first | exact mm_FR_0 | exact mm_FR_n w71_0 (by omega)) (by omega) (by omega) (by omega) (by omega) (by omega) (by omega)
        · skip
          refine mm_iconst C (mm_dec dk_X12_best 20 rfl) ⟨by decide, by decide⟩ ?_
          exact mm_iret C T (mm_dec dk_X12_best 21 rfl) (by decide : 0 ≤ 0) (by decide : 0 ≤ 0) ⟨_, rfl, ⟨⟨by omega, by omega⟩, i19c, f19c, by omega, by first | exact fun q => absurd q (by omega) | exact fun _ => mm_bY8_no (by omega) zn w48_0 (by omega) w153_0 (by omega) (by omega) (by omega) | exact fun _ => mm_bY8_ok (by omega) zn w48_0 (by omega) (by omega) (by omega) w179_0 (by omega) (by omega) (by omega) (by omega) | exact fun _ => Or.inl ⟨by omega, rfl, by omega, by omega, by omega⟩, by first | exact fun _ => ⟨by omega, by omega, by omega⟩ | exact fun q => absurd (by omega) q⟩⟩
      · skip
        refine mm_fgt 0 ?_
        refine mm_fgt 1 ?_
        refine mm_fgt 2 ?_
        exact J25 h19c i19c f19c (by omega) (by omega) (by omega) (by omega)
    refine mm_if_lt (tgt := 17) C (mm_dec dk_X12_best 6 rfl) (by decide) (fun c10 => ?_) (fun c10 => ?_)
    · skip
      refine mm_iconst C (mm_dec dk_X12_best 9 rfl) ⟨by decide, by decide⟩ ?_
      exact J18 0 ⟨by omega, by omega⟩ (Or.inl ⟨by omega, rfl⟩)
    · skip
      refine mm_iconst C (mm_dec dk_X12_best 7 rfl) ⟨by decide, by decide⟩ ?_
      refine mm_goto (tgt := 18) C (mm_dec dk_X12_best 8 rfl) (by decide) ?_
      exact J18 1 ⟨by omega, by omega⟩ (Or.inr (⟨by omega, rfl⟩))
set_option maxRecDepth 100000 in
set_option maxHeartbeats 4000000 in
theorem c_X11_bestOf_q (l : Launch) (hl : l.stackTraces = false) (d : Nat) (hd : 8 ≤ d) (h : mH) (i0 : mm_inv h) (p1 : Int) : mm_Met l d yX11_bestOf cX11_bestOf 2 (some .int) [mR 0, mI p1] h (mm_pi fun r h2 => (-2147483648 ≤ r ∧ r ≤ 2147483647) ∧ h2 = h ∧ (0 ≤ p1 ∧ p1 ≤ 1 ∧ h.1 58 10 ≠ 0) ∧ ((p1 = 0 ∧ r = h.1 58 9) ∨ (p1 = 1 ∧ r = h.1 58 8))) (fun E h' => mm_xn h E h' ∧ (p1 < 0 ∨ 1 < p1 ∨ h.1 58 10 = 0)) 1 6 := by
  refine mm_ofW (ls := [mR 0, mI p1]) hl (by decide) rfl (Nat.le_of_ble_eq_true rfl) ?_
  intro x hxl C T hnm htb
  subst hxl
  have C1 := mm_OK_le (d' := d - 1 + 1) (by omega) C
  have C8 := mm_OK_le (d' := d - 8 + 8) (by omega) C
  refine mm_rng (fun hr _ => ?_)
  have ap1 : -2147483648 ≤ p1 ∧ p1 < 2147483648 := mm_ok_at hr (i := 1) rfl
  have f0 : mm_fr [] [] h h := mm_fr_rf
  refine mm_iload_n C (mm_dec dk_X11_bestOf 0 rfl) rfl ?_
  refine mm_iconst C (mm_dec dk_X11_bestOf 1 rfl) ⟨by decide, by decide⟩ ?_
  refine mm_iconst C (mm_dec dk_X11_bestOf 2 rfl) ⟨by decide, by decide⟩ ?_
  refine mm_cSi (rest := []) C1 es_X11_130 (mm_dec dk_X11_bestOf 3 rfl) (c_X11_within x.2.1 hl (d - 1) (by omega) h i0 p1 0 1) rfl (Nat.le_of_ble_eq_true rfl) ⟨by decide, by decide⟩ rfl (fun r3 h3c hp3 => ?_) (fun _ _ q => q.elim)
  obtain ⟨z3, y3⟩ := hp3
  rw [z3]
  have J19 : ∀ (w19_0 : (p1 < 0 ∨ 1 < p1 ∨ h.1 58 10 = 0)), mm_W x 0 0 19 [mU, mU] [] h := by
    intro w19_0
    exact mm_throwXW C8 T htb th_nse (i := 18) rfl (mm_dec dk_X11_bestOf 9 rfl) (mm_dec dk_X11_bestOf 10 rfl) (mm_dec dk_X11_bestOf 11 rfl) (mm_dec dk_X11_bestOf 12 rfl) (mm_dec dk_X11_bestOf 13 rfl) (Nat.le_of_ble_eq_true rfl) ⟨by decide, by decide⟩ ⟨by decide, by decide⟩ (⟨⟨rfl, rfl⟩, by omega⟩)
  refine mm_if_eq (tgt := 19) C (mm_dec dk_X11_bestOf 4 rfl) (by decide) (fun c6 => ?_) (fun c6 => ?_)
  · skip
    refine mm_fgt 0 ?_
    refine mm_fgt 1 ?_
    exact J19 (by omega)
  · skip
    refine mm_aload_n C (mm_dec dk_X11_bestOf 5 rfl) rfl ?_
    refine mm_getr (t := 58) C fl_X11_78 (mm_dec dk_X11_bestOf 6 rfl) rfl rfl (mm_ref i0 rfl) ?_
    refine mm_cVi (rest := []) C1 ev_X11_360 (mm_dec dk_X11_bestOf 7 rfl) (c_X0_isKept x.2.1 hl (d - 1) (by omega) h i0 ) rfl rfl (Nat.le_of_ble_eq_true rfl) ⟨by decide, by decide⟩ rfl (fun r13 h13c hp13 => ?_) (fun _ _ q => q.elim)
    obtain ⟨z13, y13⟩ := hp13
    rw [z13, y13]
    have g3 : 0 ≤ (h.1 58 10) ∧ (h.1 58 10) ≤ 1 := i0.1 58 10
    refine mm_if_ne (tgt := 30) C (mm_dec dk_X11_bestOf 8 rfl) (by decide) (fun c16 => ?_) (fun c16 => ?_)
    · skip
      refine mm_iload_n C (mm_dec dk_X11_bestOf 14 rfl) rfl ?_
      have J51 : ∀ (s51_0 : Int) (bs51_0 : -2147483648 ≤ s51_0 ∧ s51_0 ≤ 2147483647) (w51_0 : (0 ≤ p1 ∧ p1 ≤ 1 ∧ h.1 58 10 ≠ 0)) (w51_1 : ((p1 = 0 ∧ s51_0 = h.1 58 9) ∨ (p1 = 1 ∧ s51_0 = h.1 58 8))), mm_W x 0 0 51 [mU, mU] [mI s51_0] h := by
        intro s51_0 bs51_0 w51_0 w51_1
        exact mm_iret C T (mm_dec dk_X11_bestOf 23 rfl) (by decide : 0 ≤ 1) (by decide : 0 ≤ 6) ⟨_, rfl, ⟨⟨by omega, by omega⟩, rfl, by omega, by omega⟩⟩
      refine mm_if_ne (tgt := 44) C (mm_dec dk_X11_bestOf 15 rfl) (by decide) (fun c31 => ?_) (fun c31 => ?_)
      · skip
        refine mm_aload_n C (mm_dec dk_X11_bestOf 20 rfl) rfl ?_
        refine mm_getr (t := 58) C fl_X11_78 (mm_dec dk_X11_bestOf 21 rfl) rfl rfl (mm_ref i0 rfl) ?_
        refine mm_cVi (rest := []) C1 ev_X11_368 (mm_dec dk_X11_bestOf 22 rfl) (c_X0_keptSeconds x.2.1 hl (d - 1) (by omega) h i0 ) rfl rfl (Nat.le_of_ble_eq_true rfl) ⟨by decide, by decide⟩ rfl (fun r48 h48c hp48 => ?_) (fun _ _ q => q.elim)
        obtain ⟨z48, y48⟩ := hp48
        rw [z48, y48]
        have g5 : -2147483648 ≤ (h.1 58 8) ∧ (h.1 58 8) ≤ 2147483647 := i0.1 58 8
        refine mm_fgt 0 ?_
        refine mm_fgt 1 ?_
        exact J51 (h.1 58 8) ⟨by omega, by omega⟩ (by omega) (by omega)
      · skip
        refine mm_aload_n C (mm_dec dk_X11_bestOf 16 rfl) rfl ?_
        refine mm_getr (t := 58) C fl_X11_78 (mm_dec dk_X11_bestOf 17 rfl) rfl rfl (mm_ref i0 rfl) ?_
        refine mm_cVi (rest := []) C1 ev_X11_365 (mm_dec dk_X11_bestOf 18 rfl) (c_X0_keptSet x.2.1 hl (d - 1) (by omega) h i0 ) rfl rfl (Nat.le_of_ble_eq_true rfl) ⟨by decide, by decide⟩ rfl (fun r38 h38c hp38 => ?_) (fun _ _ q => q.elim)
        obtain ⟨z38, y38⟩ := hp38
        rw [z38, y38]
        have g7 : -2147483648 ≤ (h.1 58 9) ∧ (h.1 58 9) ≤ 2147483647 := i0.1 58 9
        refine mm_goto (tgt := 51) C (mm_dec dk_X11_bestOf 19 rfl) (by decide) ?_
        refine mm_fgt 0 ?_
        refine mm_fgt 1 ?_
        exact J51 (h.1 58 9) ⟨by omega, by omega⟩ (by omega) (by omega)
    · skip
      refine mm_fgt 0 ?_
      refine mm_fgt 1 ?_
      exact J19 (by omega)
set_option maxRecDepth 100000 in
set_option maxHeartbeats 4000000 in
theorem c_X12_bestOf_q (l : Launch) (hl : l.stackTraces = false) (d : Nat) (hd : 1 ≤ d) (h : mH) (i0 : mm_inv h) (p1 : Int) : mm_Met l d yX12_bestOf cX12_bestOf 2 (some .int) [mR 66, mI p1] h (mm_pi fun r h2 => (-2147483648 ≤ r ∧ r ≤ 2147483647) ∧ mm_inv h2 ∧ mm_fr [(66, 0)] [] h h2 ∧ (((0 ≤ p1 ∧ p1 ≤ 1 ∧ h.1 66 95 ≠ 0) ∧ h2.1 66 0 = 0 ∧ ((p1 = 0 ∧ r = h.1 66 96) ∨ (p1 = 1 ∧ r = h.1 66 97))) ∨ ((p1 < 0 ∨ 1 < p1 ∨ h.1 66 95 = 0) ∧ h2.1 66 0 = 1 ∧ r = 0))) mm_nx 0 0 := by
  refine mm_ofW (ls := [mR 66, mI p1]) hl (by decide) rfl (Nat.le_of_ble_eq_true rfl) ?_
  intro x hxl C T hnm htb
  subst hxl
  have C1 := mm_OK_le (d' := d - 1 + 1) (by omega) C
  refine mm_rng (fun hr _ => ?_)
  have ap1 : -2147483648 ≤ p1 ∧ p1 < 2147483648 := mm_ok_at hr (i := 1) rfl
  have f0 : mm_fr [(66, 0)] [] h h := mm_fr_rf
  have g1 : -2147483648 ≤ h.1 66 0 ∧ h.1 66 0 ≤ 2147483647 := i0.1 66 0
  have g2 : 0 ≤ h.1 66 95 ∧ h.1 66 95 ≤ 1 := i0.1 66 95
  have g3 : -2147483648 ≤ h.1 66 96 ∧ h.1 66 96 ≤ 2147483647 := i0.1 66 96
  have g4 : -2147483648 ≤ h.1 66 97 ∧ h.1 66 97 ≤ 2147483647 := i0.1 66 97
  refine mm_aload_n C (mm_dec dk_X12_bestOf 0 rfl) rfl ?_
  refine mm_iconst C (mm_dec dk_X12_bestOf 1 rfl) ⟨by decide, by decide⟩ ?_
  refine mm_puti C fl_X12_188 (mm_dec dk_X12_bestOf 2 rfl) rfl rfl rfl (Or.inl ⟨rfl, rfl⟩) ?_
  have i1 : mm_inv (mm_pf h 66 0 0) := mm_inv_pf i0 (show -2147483648 ≤ 0 ∧ 0 ≤ 2147483647 from ⟨by omega, by omega⟩) (by decide)
  have f1 : mm_fr [(66, 0)] [] h (mm_pf h 66 0 0) := mm_fr_pf f0 (by decide)
  obtain ⟨h1, eh1⟩ : ∃ z, z = mm_pf h 66 0 0 := ⟨_, rfl⟩
  rw [← eh1] at i1 f1 ⊢
  have qh1 : h1.1 66 0 = 0 := by rw [eh1]; exact mm_pf_same _ _ _ _
  have qh1_5 : h1.1 66 95 = h.1 66 95 := by rw [eh1]; exact mm_pf_ne _ _ (by decide)
  have qh1_6 : h1.1 66 96 = h.1 66 96 := by rw [eh1]; exact mm_pf_ne _ _ (by decide)
  have qh1_7 : h1.1 66 97 = h.1 66 97 := by rw [eh1]; exact mm_pf_ne _ _ (by decide)
  refine mm_aload_n C (mm_dec dk_X12_bestOf 3 rfl) rfl ?_
  refine mm_aload_n C (mm_dec dk_X12_bestOf 4 rfl) rfl ?_
  refine mm_geti C fl_X12_244 (mm_dec dk_X12_bestOf 5 rfl) rfl rfl (Or.inr rfl) ?_
  have J27 : ∀ (s27_1 : Int) (bs27_1 : 0 ≤ s27_1 ∧ s27_1 ≤ 1) (w27_0 : ((s27_1 = 1 ∧ (0 ≤ p1 ∧ p1 ≤ 1 ∧ h.1 66 95 ≠ 0)) ∨ (s27_1 = 0 ∧ (p1 < 0 ∨ 1 < p1 ∨ h.1 66 95 = 0)))) (w27_1 : h1.1 66 0 = 0) (vs27_1 : (s27_1 = 0) ∨ ((h1.1 66 95) ≠ 0 ∧ s27_1 = 1)), mm_W x 0 0 27 [mR 66, mI p1] [mI s27_1, mR 66] h1 := by
    intro s27_1 bs27_1 w27_0 w27_1 vs27_1
    refine mm_iconst C (mm_dec dk_X12_bestOf 15 rfl) ⟨by decide, by decide⟩ ?_
    refine mm_cVi (rest := []) C1 ev_X12_251 (mm_dec dk_X12_bestOf 16 rfl) (c_X12_right_q x.2.1 hl (d - 1) (by omega) h1 i1 s27_1 1 ⟨by omega, by omega⟩ (by omega)) rfl rfl (Nat.le_of_ble_eq_true rfl) ⟨by decide, by decide⟩ rfl (fun r28 h28c hp28 => ?_) (fun _ _ q => q.elim)
    obtain ⟨b28, i28c, g28c, y28_0⟩ := hp28
    have f28c : mm_fr [(66, 0)] [] h h28c := mm_fr_tr f1 g28c (by decide +kernel)
    have q28c_9 : h28c.1 66 95 = h1.1 66 95 := g28c.1 66 95 (by decide)
    have q28c_10 : h28c.1 66 96 = h1.1 66 96 := g28c.1 66 96 (by decide)
    have q28c_11 : h28c.1 66 97 = h1.1 66 97 := g28c.1 66 97 (by decide)
    have g12 : -2147483648 ≤ (h28c.1 66 0) ∧ (h28c.1 66 0) ≤ 2147483647 := i28c.1 66 0
    refine mm_if_ne (tgt := 36) C (mm_dec dk_X12_bestOf 17 rfl) (by decide) (fun c31 => ?_) (fun c31 => ?_)
    · skip
      refine mm_iload_n C (mm_dec dk_X12_bestOf 20 rfl) rfl ?_
      have J51 : ∀ (s51_0 : Int) (bs51_0 : -2147483648 ≤ s51_0 ∧ s51_0 ≤ 2147483647) (w51_0 : (0 ≤ p1 ∧ p1 ≤ 1 ∧ h.1 66 95 ≠ 0)) (w51_1 : h28c.1 66 0 = 0) (w51_2 : ((p1 = 0 ∧ s51_0 = h.1 66 96) ∨ (p1 = 1 ∧ s51_0 = h.1 66 97))), mm_W x 0 0 51 [mU, mU] [mI s51_0] h28c := by
        intro s51_0 bs51_0 w51_0 w51_1 w51_2
        exact mm_iret C T (mm_dec dk_X12_bestOf 27 rfl) (by decide : 0 ≤ 0) (by decide : 0 ≤ 0) ⟨_, rfl, ⟨⟨by omega, by omega⟩, i28c, f28c, by omega⟩⟩
      refine mm_if_ne (tgt := 47) C (mm_dec dk_X12_bestOf 21 rfl) (by decide) (fun c37 => ?_) (fun c37 => ?_)
      · skip
        refine mm_aload_n C (mm_dec dk_X12_bestOf 25 rfl) rfl ?_
        refine mm_geti C fl_X12_536 (mm_dec dk_X12_bestOf 26 rfl) rfl rfl (Or.inl rfl) ?_
        refine mm_fgt 0 ?_
        refine mm_fgt 1 ?_
        exact J51 (h28c.1 66 97) ⟨by omega, by omega⟩ (by omega) (by omega) (by omega)
      · skip
        refine mm_aload_n C (mm_dec dk_X12_bestOf 22 rfl) rfl ?_
        refine mm_geti C fl_X12_533 (mm_dec dk_X12_bestOf 23 rfl) rfl rfl (Or.inl rfl) ?_
        refine mm_goto (tgt := 51) C (mm_dec dk_X12_bestOf 24 rfl) (by decide) ?_
        refine mm_fgt 0 ?_
        refine mm_fgt 1 ?_
        exact J51 (h28c.1 66 96) ⟨by omega, by omega⟩ (by omega) (by omega) (by omega)
    · skip
      refine mm_iconst C (mm_dec dk_X12_bestOf 18 rfl) ⟨by decide, by decide⟩ ?_
      exact mm_iret C T (mm_dec dk_X12_bestOf 19 rfl) (by decide : 0 ≤ 0) (by decide : 0 ≤ 0) ⟨_, rfl, ⟨⟨by omega, by omega⟩, i28c, f28c, by omega⟩⟩
  have J26 : ∀ (w26_0 : (p1 < 0 ∨ 1 < p1 ∨ h.1 66 95 = 0)) (w26_1 : h1.1 66 0 = 0), mm_W x 0 0 26 [mR 66, mI p1] [mR 66] h1 := by
    intro w26_0 w26_1
    refine mm_iconst C (mm_dec dk_X12_bestOf 14 rfl) ⟨by decide, by decide⟩ ?_
    exact J27 0 ⟨by omega, by omega⟩ (by omega) (by omega) (Or.inl rfl)
  refine mm_if_eq (tgt := 26) C (mm_dec dk_X12_bestOf 6 rfl) (by decide) (fun c10 => ?_) (fun c10 => ?_)
  · skip
    exact J26 (by omega) (by omega)
  · skip
    refine mm_iload_n C (mm_dec dk_X12_bestOf 7 rfl) rfl ?_
    have J22 : ∀ (w22_0 : (0 ≤ p1 ∧ p1 ≤ 1 ∧ h.1 66 95 ≠ 0)) (w22_1 : h1.1 66 0 = 0), mm_W x 0 0 22 [mR 66, mI p1] [mR 66] h1 := by
      intro w22_0 w22_1
      refine mm_iconst C (mm_dec dk_X12_bestOf 12 rfl) ⟨by decide, by decide⟩ ?_
      refine mm_goto (tgt := 27) C (mm_dec dk_X12_bestOf 13 rfl) (by decide) ?_
      exact J27 1 ⟨by omega, by omega⟩ (by omega) (by omega) (Or.inr (⟨by omega, rfl⟩))
    refine mm_if_eq (tgt := 22) C (mm_dec dk_X12_bestOf 8 rfl) (by decide) (fun c14 => ?_) (fun c14 => ?_)
    · skip
      exact J22 (by omega) (by omega)
    · skip
      refine mm_iload_n C (mm_dec dk_X12_bestOf 9 rfl) rfl ?_
      refine mm_iconst C (mm_dec dk_X12_bestOf 10 rfl) ⟨by decide, by decide⟩ ?_
      refine mm_icmp_ne (tgt := 26) C (mm_dec dk_X12_bestOf 11 rfl) (by decide) (fun c19 => ?_) (fun c19 => ?_)
      · skip
        exact J26 (by omega) (by omega)
      · skip
        exact J22 (by omega) (by omega)
