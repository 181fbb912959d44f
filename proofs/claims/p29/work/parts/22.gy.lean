/-! ===== the class's table, a set at a time ===== -/
def mm_lg8 (h : mH) (a b : Int) : Int := h.2.1 59 (13 * a + b)
def mm_pr8 (sec v : Int) : Int := if v ≤ sec ∧ v < 1000000000 then v else 2000000000
def mm_TI (h : mH) (R : Int → Int) (n sec s : Int) : Prop := ∀ S x, 1 ≤ S → S < mm_p2 n → 0 ≤ x → x < n → h.2.1 125 (12 * S + x) = if mm_bq S x = 1 ∧ S - mm_p2 x < s then mm_pr8 sec (R (12 * S + x)) else 2000000000
def mm_TJ (h : mH) (R : Int → Int) (G : Int → Int → Int) (n sec s k j : Int) : Prop := ∀ S x, 1 ≤ S → S < mm_p2 n → 0 ≤ x → x < n → h.2.1 125 (12 * S + x) = if mm_bq S x = 1 ∧ S - mm_p2 x < s then mm_pr8 sec (R (12 * S + x)) else if mm_bq S x = 1 ∧ S - mm_p2 x = s then mm_pr8 sec (mm_cm8 R (fun a => G a x) s (if x < j then k + 1 else k).toNat) else 2000000000
theorem mm_pr8_f {sec : Int} : mm_pr8 sec 1000000000 = 2000000000 := by
  unfold mm_pr8
  rw [if_neg (by omega)]
theorem mm_TJ_0 {h : mH} {R : Int → Int} {G : Int → Int → Int} {n sec s : Int} (T : mm_TI h R n sec s) : mm_TJ h R G n sec s 0 0 := fun S x s1 sN x0 xn => by
  rw [T S x s1 sN x0 xn]
  by_cases q : mm_bq S x = 1 ∧ S - mm_p2 x < s
  · rw [if_pos q, if_pos q]
  · rw [if_neg q, if_neg q]
    split
    · rw [if_neg (by omega)]
      exact mm_pr8_f.symm
    · rfl
theorem mm_TJ_n {h : mH} {R : Int → Int} {G : Int → Int → Int} {n sec s k j : Int} (T : mm_TJ h R G n sec s k j) (hj : n ≤ j) : mm_TJ h R G n sec s (k + 1) 0 := fun S x s1 sN x0 xn => by
  rw [T S x s1 sN x0 xn, if_pos (show x < j by omega), if_neg (show ¬ x < 0 by omega)]
theorem mm_TJ_e {h : mH} {R : Int → Int} {G : Int → Int → Int} {n sec s k : Int} (T : mm_TJ h R G n sec s k 0) (hk : k = n) (C : mm_Rc R G n) (s1 : 1 ≤ s) : mm_TI h R n sec (s + 1) := fun S x S1 sN x0 xn => by
  rw [T S x S1 sN x0 xn]
  by_cases q : mm_bq S x = 1 ∧ S - mm_p2 x < s
  · rw [if_pos q, if_pos ⟨q.1, by omega⟩]
  · rw [if_neg q]
    by_cases w : mm_bq S x = 1 ∧ S - mm_p2 x = s
    · rw [if_pos w, if_pos (show mm_bq S x = 1 ∧ S - mm_p2 x < s + 1 from ⟨w.1, by omega⟩), if_neg (show ¬ x < 0 by omega), hk]
      have c := C S x S1 sN x0 xn
      rw [if_pos w.1, if_neg (by omega), w.2] at c
      rw [c]
    · rw [if_neg w, if_neg (fun z => by have z1 := z.1; have z2 := z.2; by_cases e : S - mm_p2 x = s; exact w ⟨z1, e⟩; exact q ⟨z1, by omega⟩)]
theorem mm_TJ_v {h : mH} {R : Int → Int} {G : Int → Int → Int} {n sec s k j a : Int} (hn : 0 ≤ n ∧ n ≤ 12) (T : mm_TJ h R G n sec s k j) (s1 : 1 ≤ s) (sN : s < mm_p2 n) (a0 : 0 ≤ a) (an : a < n) : (mm_bq s a = 1 ∧ h.2.1 125 (12 * s + a) = mm_pr8 sec (R (12 * s + a))) ∨ (mm_bq s a = 0 ∧ h.2.1 125 (12 * s + a) = 2000000000) := by
  have N := mm_p2_n hn
  have p := mm_p2_rg (i := a) ⟨a0, by omega⟩
  rw [T s a s1 sN a0 an]
  rcases mm_bq_01 (s := s) (i := a) ⟨by omega, by omega⟩ ⟨a0, by omega⟩ with q | q
  · exact Or.inr ⟨q, by rw [if_neg (by omega), if_neg (by omega)]⟩
  · exact Or.inl ⟨q, by rw [if_pos ⟨q, by omega⟩]⟩
theorem mm_pr8_mi {sec u v : Int} (h : sec < v ∨ 1000000000 ≤ v) : mm_pr8 sec (mm_mi9 u v) = mm_pr8 sec u := by
  unfold mm_pr8 mm_mi9
  (repeat' split) <;> omega
theorem mm_cd8_big {R g sec : Int} (hg : g = -1 ∨ (0 ≤ g ∧ g ≤ 400000)) (h : mm_pr8 sec R = 2000000000) (hR : R = 1000000000 ∨ (0 ≤ R ∧ R ≤ 4800000)) : sec < mm_cd9 R g ∨ 1000000000 ≤ mm_cd9 R g := by
  unfold mm_pr8 at h
  unfold mm_cd9
  split at h <;> split <;> omega
theorem mm_TJ_skip {h : mH} {R : Int → Int} {G : Int → Int → Int} {n sec s k : Int} (hn : 0 ≤ n ∧ n ≤ 12) (C : mm_Rc R G n) (B : mm_GB G n) (T : mm_TJ h R G n sec s k 0) (s1 : 1 ≤ s) (sN : s < mm_p2 n) (k0 : 0 ≤ k) (kn : k < n) (q : h.2.1 125 (12 * s + k) = 2000000000) : mm_TJ h R G n sec s (k + 1) 0 := fun S x S1 SN x0 xn => by
  have v := mm_TJ_v hn T s1 sN k0 kn
  rw [T S x S1 SN x0 xn, if_neg (show ¬ x < 0 by omega), if_neg (show ¬ x < 0 by omega)]
  have e : mm_pr8 sec (mm_cm8 R (fun a => G a x) s (k + 1).toNat) = mm_pr8 sec (mm_cm8 R (fun a => G a x) s k.toNat) := by
    rw [show (k + 1).toNat = k.toNat + 1 by omega]
    show mm_pr8 sec (if mm_bq s (k.toNat : Int) = 0 then _ else _) = _
    rw [Int.toNat_of_nonneg k0]
    rcases v with ⟨b, e⟩ | ⟨b, e⟩
    · rw [if_neg (by omega)]
      exact mm_pr8_mi (mm_cd8_big (B k x (Or.inl ⟨k0, kn⟩) (Or.inl ⟨x0, xn⟩)) (e.symm.trans q) (mm_R_48 hn C B s1 sN k0 kn))
    · rw [if_pos b]
  rw [e]
theorem mm_TJ_no {h : mH} {R : Int → Int} {G : Int → Int → Int} {n sec s k j : Int} (hn : 0 ≤ n ∧ n ≤ 12) (T : mm_TJ h R G n sec s k j) (s1 : 1 ≤ s) (j0 : 0 ≤ j) (jn : j < n) (q : mm_bq s j ≠ 0) : mm_TJ h R G n sec s k (j + 1) := fun S x S1 SN x0 xn => by
  have N := mm_p2_n hn
  rw [T S x S1 SN x0 xn]
  by_cases w : mm_bq S x = 1 ∧ S - mm_p2 x = s
  · have ne : x ≠ j := fun e => by
      subst e
      have z := mm_bq_sub (s := S) (x := x) ⟨by omega, by omega⟩ ⟨x0, by omega⟩ w.1
      rw [w.2] at z
      exact q z.2
    by_cases l : x < j
    · rw [if_pos l, if_pos (show x < j + 1 by omega)]
    · rw [if_neg l, if_neg (show ¬ x < j + 1 by omega)]
  · rw [if_neg w, if_neg w]
def mm_rc8 (h h2 : mH) (p1 p2 p3 p4 p5 : Int) : Prop := ∀ i, h2.2.1 125 i = if i = 12 * p1 + p2 ∧ p4 ≠ -1 ∧ mm_w (p3 + p4) ≤ p5 ∧ mm_w (p3 + p4) < h.2.1 125 (12 * p1 + p2) then mm_w (p3 + p4) else h.2.1 125 i
theorem mm_rc8_no {h : mH} {p1 p2 p3 p4 p5 : Int} (q : p4 = -1 ∨ p5 < mm_w (p3 + p4) ∨ h.2.1 125 (12 * p1 + p2) ≤ mm_w (p3 + p4)) : mm_rc8 h h p1 p2 p3 p4 p5 := fun i => by
  rw [if_neg (fun z => by have z1 := z.2.1; have z2 := z.2.2.1; have z3 := z.2.2.2; omega)]
theorem mm_rc8_y {h h2 : mH} {p1 p2 p3 p4 p5 i : Int} (a : h2 = mm_pa h 125 i (mm_w (p3 + p4))) (hi : i = 12 * p1 + p2) (q1 : p4 ≠ -1) (q2 : mm_w (p3 + p4) ≤ p5) (q3 : mm_w (p3 + p4) < h.2.1 125 i) : mm_rc8 h h2 p1 p2 p3 p4 p5 := fun j => by
  subst hi
  rw [a]
  by_cases w : j = 12 * p1 + p2
  · rw [if_pos ⟨w, q1, q2, q3⟩, w, mm_pa_same]
  · rw [if_neg (fun z => w z.1), mm_pa_j 125 w]
theorem mm_rc8_cg {h h2 : mH} {p1 p1' p2 p3 p3' p4 p4' p5 : Int} (u : mm_rc8 h h2 p1 p2 p3 p4 p5) (e1 : p1 = p1') (e3 : p3 = p3') (e4 : p4 = p4') : mm_rc8 h h2 p1' p2 p3' p4' p5 := by subst e1 e3 e4; exact u
/-- the new time against what stood there -/
theorem mm_pr8_s {sec cm sf g : Int} (hs : 0 ≤ sf ∧ sf ≤ 4800000) (hg : g = -1 ∨ (0 ≤ g ∧ g ≤ 400000)) : (if g ≠ -1 ∧ mm_w (sf + g) ≤ sec ∧ mm_w (sf + g) < mm_pr8 sec cm then mm_w (sf + g) else mm_pr8 sec cm) = mm_pr8 sec (mm_mi9 cm (mm_cd9 sf g)) := by
  have e : g = -1 ∨ mm_w (sf + g) = sf + g := by
    rcases hg with q | q
    · exact Or.inl q
    · exact Or.inr (mm_w_id ⟨by omega, by omega⟩)
  unfold mm_pr8 mm_mi9 mm_cd9
  rcases e with e | e
  · rw [if_neg (fun z => z.1 e)]
    (repeat' split) <;> omega
  · rw [e]
    (repeat' split) <;> omega
theorem mm_TJ_s {h h2 : mH} {R : Int → Int} {G : Int → Int → Int} {n sec s k j sf : Int} (hn : 0 ≤ n ∧ n ≤ 12) (C : mm_Rc R G n) (B : mm_GB G n) (T : mm_TJ h R G n sec s k j) (s1 : 1 ≤ s) (sN : s < mm_p2 n) (k0 : 0 ≤ k) (kn : k < n) (j0 : 0 ≤ j) (jn : j < n) (q : mm_bq s j = 0) (bk : mm_bq s k = 1) (hsf : sf = mm_pr8 sec (R (12 * s + k))) (nf : sf ≠ 2000000000) (u : mm_rc8 h h2 (s + mm_p2 j) j sf (G k j) sec) : mm_TJ h2 R G n sec s k (j + 1) := fun S x S1 SN x0 xn => by
  have N := mm_p2_n hn
  have pj := mm_p2_rg (i := j) ⟨j0, by omega⟩
  have px := mm_p2_rg (i := x) ⟨x0, by omega⟩
  have rk := mm_R_48 hn C B s1 sN k0 kn
  have gk := B k j (Or.inl ⟨k0, kn⟩) (Or.inl ⟨j0, jn⟩)
  have es : sf = R (12 * s + k) ∧ 0 ≤ sf ∧ sf ≤ 4800000 := by
    unfold mm_pr8 at hsf
    split at hsf <;> omega
  have bS := mm_bq_add (s := s) (x := j) (i := j) ⟨by omega, by omega⟩ ⟨j0, by omega⟩ ⟨j0, by omega⟩ q
  rw [if_pos rfl] at bS
  rw [u]
  by_cases e : S = s + mm_p2 j ∧ x = j
  · obtain ⟨e1, e2⟩ := e
    subst e2
    have tv := T S x S1 SN x0 xn
    rw [e1, if_neg (by omega), if_pos ⟨bS, by omega⟩, if_neg (show ¬ x < x by omega)] at tv
    rw [e1, tv, if_neg (show ¬ (mm_bq (s + mm_p2 x) x = 1 ∧ s + mm_p2 x - mm_p2 x < s) by omega), if_pos (show mm_bq (s + mm_p2 x) x = 1 ∧ s + mm_p2 x - mm_p2 x = s from ⟨bS, by omega⟩), if_pos (show x < x + 1 by omega), show (k + 1).toNat = k.toNat + 1 by omega]
    show _ = mm_pr8 sec (if mm_bq s (k.toNat : Int) = 0 then _ else _)
    rw [Int.toNat_of_nonneg k0, if_neg (show ¬ mm_bq s k = 0 by omega), ← es.1, ← mm_pr8_s ⟨es.2.1, es.2.2⟩ gk]
    by_cases w : G k x ≠ -1 ∧ mm_w (sf + G k x) ≤ sec ∧ mm_w (sf + G k x) < mm_pr8 sec (mm_cm8 R (fun a => G a x) s k.toNat)
    · rw [if_pos w, if_pos ⟨rfl, w⟩]
    · rw [if_neg w, if_neg (fun z => w z.2)]
  · rw [if_neg (fun z => e ⟨by omega, by omega⟩), T S x S1 SN x0 xn]
    by_cases w : mm_bq S x = 1 ∧ S - mm_p2 x = s
    · have ne : x ≠ j := fun y => e ⟨by rw [← y]; omega, y⟩
      by_cases l : x < j
      · rw [if_pos l, if_pos (show x < j + 1 by omega)]
      · rw [if_neg l, if_neg (show ¬ x < j + 1 by omega)]
    · rw [if_neg w, if_neg w]
/-! what is fewest to the finish -/
def mm_FW (sec f al : Int) : Prop := (f ≤ sec ∧ f ≠ 2000000000 ∧ f = al ∧ al < 1000000000) ∨ ((sec < f ∨ f = 2000000000) ∧ (sec < al ∨ 1000000000 ≤ al))
theorem mm_FW_0 {R g : Int → Int} {sec s : Int} : mm_FW sec 2000000000 (mm_cm8 R g s 0) := Or.inr ⟨Or.inr rfl, Or.inr (Int.le_refl _)⟩
theorem mm_FW_cm {R g : Int → Int} {s k : Int} (k0 : 0 ≤ k) : mm_cm8 R g s (k + 1).toNat = if mm_bq s k = 0 then mm_cm8 R g s k.toNat else mm_mi9 (mm_cm8 R g s k.toNat) (mm_cd9 (R (12 * s + k)) (g k)) := by
  rw [show (k + 1).toNat = k.toNat + 1 by omega]
  show (if mm_bq s (k.toNat : Int) = 0 then _ else _) = _
  rw [Int.toNat_of_nonneg k0]
theorem mm_FW_skip {h : mH} {R : Int → Int} {G : Int → Int → Int} {n sec s k f : Int} (hn : 0 ≤ n ∧ n ≤ 12) (C : mm_Rc R G n) (B : mm_GB G n) (T : mm_TJ h R G n sec s k 0) (s1 : 1 ≤ s) (sN : s < mm_p2 n) (k0 : 0 ≤ k) (kn : k < n) (F : mm_FW sec f (mm_cm8 R (fun a => G a 12) s k.toNat)) (q : h.2.1 125 (12 * s + k) = 2000000000) : mm_FW sec f (mm_cm8 R (fun a => G a 12) s (k + 1).toNat) := by
  rw [mm_FW_cm k0]
  rcases mm_TJ_v hn T s1 sN k0 kn with ⟨b, e⟩ | ⟨b, e⟩
  · rw [if_neg (by omega)]
    have g := mm_cd8_big (B k 12 (Or.inl ⟨k0, kn⟩) (Or.inr rfl)) (e.symm.trans q) (mm_R_48 hn C B s1 sN k0 kn)
    unfold mm_FW mm_mi9 at *
    split <;> omega
  · rw [if_pos b]; exact F
theorem mm_FW_s {h : mH} {R : Int → Int} {G : Int → Int → Int} {n sec s k f f2 sf : Int} (hn : 0 ≤ n ∧ n ≤ 12) (C : mm_Rc R G n) (B : mm_GB G n) (T : mm_TJ h R G n sec s k 0) (s1 : 1 ≤ s) (sN : s < mm_p2 n) (k0 : 0 ≤ k) (kn : k < n) (F : mm_FW sec f (mm_cm8 R (fun a => G a 12) s k.toNat)) (hf : f ≤ 2000000000) (hsf : sf = h.2.1 125 (12 * s + k)) (nf : sf ≠ 2000000000) (g2 : (G k 12 = -1 ∧ f2 = f) ∨ (G k 12 ≠ -1 ∧ f2 = if f ≤ mm_w (sf + G k 12) then f else mm_w (sf + G k 12))) : mm_FW sec f2 (mm_cm8 R (fun a => G a 12) s (k + 1).toNat) := by
  rw [mm_FW_cm k0]
  rcases mm_TJ_v hn T s1 sN k0 kn with ⟨b, e⟩ | ⟨b, e⟩
  · rw [if_neg (by omega)]
    have rk := mm_R_48 hn C B s1 sN k0 kn
    have gk := B k 12 (Or.inl ⟨k0, kn⟩) (Or.inr rfl)
    have es : sf = R (12 * s + k) ∧ 0 ≤ sf ∧ sf ≤ 4800000 ∧ sf ≤ sec := by
      unfold mm_pr8 at e
      split at e <;> omega
    rw [← es.1]
    rcases g2 with ⟨g, e2⟩ | ⟨g, e2⟩
    · rw [e2, show mm_cd9 sf (G k 12) = 1000000000 from if_pos (Or.inr g)]
      unfold mm_FW mm_mi9 at *
      split <;> omega
    · rw [mm_w_id ⟨by omega, by omega⟩] at e2
      rw [show mm_cd9 sf (G k 12) = sf + G k 12 from if_neg (by omega), e2]
      unfold mm_FW mm_mi9 at *
      split <;> split <;> omega
  · omega
/-! ===== the class's search: single posts, sets in turn ===== -/
def mm_al8 (h : mH) (R : Int → Int) (s : Int) : Int := mm_cm8 R (fun a => mm_lg8 h a 12) s (h.1 58 6).toNat
def mm_px8 (h : mH) (s : Int) : Int := mm_pt8 (fun j => h.2.1 16 (h.2.1 60 j)) s (h.1 58 6).toNat
def mm_HR8 (h : mH) (R : Int → Int) : Prop := mm_GB (mm_lg8 h) (h.1 58 6) ∧ mm_Rc R (mm_lg8 h) (h.1 58 6)
theorem mm_lg8_cg {h h2 : mH} (e : ∀ j, h2.2.1 59 j = h.2.1 59 j) : mm_lg8 h2 = mm_lg8 h := funext fun a => funext fun b => e _
theorem mm_HR_cg {h h2 : mH} {R : Int → Int} (H : mm_HR8 h R) (e : ∀ j, h2.2.1 59 j = h.2.1 59 j) (e6 : h2.1 58 6 = h.1 58 6) : mm_HR8 h2 R := by
  unfold mm_HR8
  rw [mm_lg8_cg e, e6]; exact H
theorem mm_al8_cg {h h2 : mH} {R : Int → Int} {s : Int} (e : ∀ j, h2.2.1 59 j = h.2.1 59 j) (e6 : h2.1 58 6 = h.1 58 6) : mm_al8 h2 R s = mm_al8 h R s := by
  unfold mm_al8
  rw [mm_lg8_cg e, e6]
theorem mm_px8_cg {h h2 : mH} {s : Int} (e : ∀ j, h2.2.1 16 j = h.2.1 16 j) (e0 : ∀ j, h2.2.1 60 j = h.2.1 60 j) (e6 : h2.1 58 6 = h.1 58 6) : mm_px8 h2 s = mm_px8 h s := by
  unfold mm_px8
  rw [e6, show (fun j => h2.2.1 16 (h2.2.1 60 j)) = (fun j => h.2.1 16 (h.2.1 60 j)) from funext fun j => by rw [e, e0]]
theorem mm_TI_tr {h h2 : mH} {R : Int → Int} {n sec s : Int} (T : mm_TI h R n sec s) (e : ∀ j, h2.2.1 125 j = h.2.1 125 j) : mm_TI h2 R n sec s := fun S x a b c d => by rw [e]; exact T S x a b c d
theorem mm_TJ_tr {h h2 : mH} {R : Int → Int} {G : Int → Int → Int} {n sec s k j : Int} (T : mm_TJ h R G n sec s k j) (e : ∀ j, h2.2.1 125 j = h.2.1 125 j) : mm_TJ h2 R G n sec s k j := fun S x a b c d => by rw [e]; exact T S x a b c d
def mm_TS (h : mH) (G : Int → Int → Int) (n sec i : Int) : Prop := ∀ S x, 1 ≤ S → S < mm_p2 n → 0 ≤ x → x < n → h.2.1 125 (12 * S + x) = if S = mm_p2 x ∧ x < i then mm_pr8 sec (mm_cd9 0 (G 12 x)) else 2000000000
def mm_fil (h : mH) (i : Int) : Prop := ∀ j, 0 ≤ j → j < i → h.2.1 125 j = 2000000000
theorem mm_fil_0 {h : mH} : mm_fil h 0 := fun j a b => absurd b (by omega)
theorem mm_fil_s {h h2 : mH} {i : Int} (F : mm_fil h i) (a : h2 = mm_pa h 125 i 2000000000) : mm_fil h2 (i + 1) := fun j a0 a1 => by
  rw [a]
  by_cases q : j = i
  · rw [q]; exact mm_pa_same _ _ _ _
  · rw [mm_pa_j 125 q]; exact F j a0 (by omega)
theorem mm_TS_0 {h : mH} {G : Int → Int → Int} {n sec i : Int} (hn : 0 ≤ n ∧ n ≤ 12) (F : mm_fil h i) (hi : mm_p2 n * 12 ≤ i) : mm_TS h G n sec 0 := fun S x s1 sN x0 xn => by
  rw [if_neg (fun z => by have z2 := z.2; omega)]
  exact F _ (by omega) (by omega)
theorem mm_TS_s {h h2 : mH} {G : Int → Int → Int} {n sec i : Int} (hn : 0 ≤ n ∧ n ≤ 12) (B : mm_GB G n) (T : mm_TS h G n sec i) (i0 : 0 ≤ i) (hi : i < n) (u : mm_rc8 h h2 (mm_p2 i) i 0 (G 12 i) sec) (ln : mm_p2 i < mm_p2 n) : mm_TS h2 G n sec (i + 1) := fun S x s1 sN x0 xn => by
  have pi := mm_p2_rg (i := i) ⟨i0, by omega⟩
  have g := B 12 i (Or.inr rfl) (Or.inl ⟨i0, hi⟩)
  rw [u]
  by_cases e : S = mm_p2 i ∧ x = i
  · obtain ⟨e1, e2⟩ := e
    subst e2
    have tv := T (mm_p2 x) x pi.1 ln x0 xn
    rw [if_neg (show ¬ (mm_p2 x = mm_p2 x ∧ x < x) by omega)] at tv
    rw [e1, tv, if_pos (show mm_p2 x = mm_p2 x ∧ x < x + 1 from ⟨rfl, by omega⟩)]
    have w : G 12 x = -1 ∨ mm_w (0 + G 12 x) = 0 + G 12 x := by
      rcases g with q | q
      · exact Or.inl q
      · exact Or.inr (mm_w_id ⟨by omega, by omega⟩)
    unfold mm_pr8 mm_cd9
    rcases w with w | w
    · rw [if_neg (fun z => z.2.1 w)]
      (repeat' split) <;> omega
    · rw [w]
      (repeat' split) <;> omega
  · rw [if_neg (fun z => e ⟨by omega, by omega⟩), T S x s1 sN x0 xn]
    by_cases w : S = mm_p2 x ∧ x < i
    · rw [if_pos w, if_pos ⟨w.1, by omega⟩]
    · rw [if_neg w, if_neg (fun z => by have z1 := z.1; have z2 := z.2; by_cases y : x = i; exact e ⟨by rw [← y]; exact z1, y⟩; exact w ⟨z1, by omega⟩)]
theorem mm_p2_lt {i n : Int} (hn : 0 ≤ n ∧ n ≤ 12) (i0 : 0 ≤ i) (h : i < n) : mm_p2 i < mm_p2 n := by
  obtain ⟨c0, c1, c2, c3, c4, c5, c6, c7, c8, c9, c10, c11, c12⟩ := mm_p2_c
  have hm : n = 12 ∨ (0 ≤ n ∧ n ≤ 11) := by omega
  have hi : 0 ≤ i ∧ i ≤ 11 := by omega
  rcases hm with e | hm
  · have := mm_p2_rg hi
    subst e; omega
  · rcases mm_12 hm with w | w | w | w | w | w | w | w | w | w | w | w <;> subst w <;> (rcases mm_12 hi with v | v | v | v | v | v | v | v | v | v | v | v <;> subst v <;> omega)
theorem mm_TS_e {h : mH} {R : Int → Int} {G : Int → Int → Int} {n sec i : Int} (hn : 0 ≤ n ∧ n ≤ 12) (T : mm_TS h G n sec i) (hi : n ≤ i) (C : mm_Rc R G n) : mm_TI h R n sec 1 := fun S x s1 sN x0 xn => by
  have N := mm_p2_n hn
  have px := mm_p2_rg (i := x) ⟨x0, by omega⟩
  have b0 : mm_bq 0 x = 0 := by
    rw [mm_bq_e ⟨by omega, by omega⟩ ⟨x0, by omega⟩, Int.zero_ediv]; rfl
  have bp := mm_bq_add (s := 0) (x := x) (i := x) ⟨by omega, by omega⟩ ⟨x0, by omega⟩ ⟨x0, by omega⟩ b0
  rw [if_pos rfl, Int.zero_add] at bp
  rw [T S x s1 sN x0 xn]
  by_cases q : S = mm_p2 x
  · rw [if_pos ⟨q, by omega⟩, if_pos ⟨by rw [q]; exact bp, by omega⟩]
    have c := C S x s1 sN x0 xn
    rw [if_pos (by rw [q]; exact bp), if_pos (by omega)] at c
    rw [c]
  · rw [if_neg (fun z => q z.1), if_neg (fun z => by have z1 := mm_bq_sub (s := S) (x := x) ⟨by omega, by omega⟩ ⟨x0, by omega⟩ z.1; have z2 := z.2; omega)]
/-! what is kept -/
def mm_cp8 (h h2 : mH) (p1 p2 : Int) : Prop := ((h.1 58 7 < mm_px8 h p1 ∨ (h.1 58 7 = mm_px8 h p1 ∧ p2 < h.1 58 8)) ∧ h2.1 58 7 = mm_px8 h p1 ∧ h2.1 58 9 = p1 ∧ h2.1 58 8 = p2) ∨ (¬ (h.1 58 7 < mm_px8 h p1 ∨ (h.1 58 7 = mm_px8 h p1 ∧ p2 < h.1 58 8)) ∧ h2.1 58 7 = h.1 58 7 ∧ h2.1 58 9 = h.1 58 9 ∧ h2.1 58 8 = h.1 58 8)
def mm_BS (h h2 : mH) (R : Int → Int) (sec : Int) (i : Int × Int × Int) (k : Int) : Prop := (h2.1 58 7, h2.1 58 9, h2.1 58 8) = mm_bs8 (mm_al8 h R) (mm_px8 h) sec i k.toNat
theorem mm_BS_y {h h1 h2 h3 : mH} {R : Int → Int} {sec s f : Int} {i : Int × Int × Int} (B : mm_BS h h1 R sec i (s - 1)) (s1 : 1 ≤ s) (F : mm_FW sec f (mm_al8 h R s)) (q : f ≤ sec) (q2 : f ≠ 2000000000) (e7 : h2.1 58 7 = h1.1 58 7) (e9 : h2.1 58 9 = h1.1 58 9) (e8 : h2.1 58 8 = h1.1 58 8) (ep : mm_px8 h2 s = mm_px8 h s) (c : mm_cp8 h2 h3 s f) : mm_BS h h3 R sec i s := by
  have fa : f = mm_al8 h R s ∧ f < 1000000000 := by
    unfold mm_FW at F; omega
  unfold mm_BS at B ⊢
  rw [show s.toNat = (s - 1).toNat + 1 by omega]
  unfold mm_bs8
  rw [show ((s - 1).toNat : Int) + 1 = s by omega, ← B, ← fa.1]
  unfold mm_cp8 at c
  rw [ep, e7, e8, e9] at c
  rcases c with ⟨c0, c1, c2, c3⟩ | ⟨c0, c1, c2, c3⟩
  · rw [if_pos ⟨q, fa.2, c0⟩, c1, c2, c3]
  · rw [if_neg (fun z => c0 z.2.2), c1, c2, c3]
theorem mm_BS_n {h h1 h3 : mH} {R : Int → Int} {sec s f : Int} {i : Int × Int × Int} (B : mm_BS h h1 R sec i (s - 1)) (s1 : 1 ≤ s) (F : mm_FW sec f (mm_al8 h R s)) (q : sec < f ∨ f = 2000000000) (e7 : h3.1 58 7 = h1.1 58 7) (e9 : h3.1 58 9 = h1.1 58 9) (e8 : h3.1 58 8 = h1.1 58 8) : mm_BS h h3 R sec i s := by
  unfold mm_BS at B ⊢
  rw [show s.toNat = (s - 1).toNat + 1 by omega, e7, e8, e9]
  unfold mm_bs8
  rw [show ((s - 1).toNat : Int) + 1 = s by omega, if_neg (fun z => by have z1 := z.1; have z2 := z.2.1; unfold mm_FW at F; omega)]
  exact B
theorem mm_BS_0 {h h1 : mH} {R : Int → Int} {sec : Int} (e7 : h1.1 58 7 = h.1 58 7) (e9 : h1.1 58 9 = h.1 58 9) (e8 : h1.1 58 8 = h.1 58 8) : mm_BS h h1 R sec (h.1 58 7, h.1 58 9, h.1 58 8) 0 := by
  unfold mm_BS
  rw [e7, e8, e9]; rfl
theorem mm_pt8_s {f : Int → Int} {s k v : Int} (k0 : 0 ≤ k) (e : v = mm_pt8 f s k.toNat) : (mm_bq s k = 0 → v = mm_pt8 f s (k + 1).toNat) ∧ (mm_bq s k ≠ 0 → mm_w (v + f k) = mm_pt8 f s (k + 1).toNat) := by
  rw [show (k + 1).toNat = k.toNat + 1 by omega, e]
  constructor
  · intro q
    show _ = if mm_bq s (k.toNat : Int) = 0 then _ else _
    rw [Int.toNat_of_nonneg k0, if_pos q]
  · intro q
    show _ = if mm_bq s (k.toNat : Int) = 0 then _ else mm_w (_ + f (k.toNat : Int))
    rw [Int.toNat_of_nonneg k0, if_neg q]
theorem mm_tb1_f {h : mH} (i : mm_inv h) (c : h.1 58 5 = 0) : (mm_tb1 h).1 58 7 = h.1 58 7 ∧ (mm_tb1 h).1 58 9 = h.1 58 9 ∧ (mm_tb1 h).1 58 8 = h.1 58 8 := by
  have hn := mm_tb_n i c
  have z : ∀ k : Nat, (mm_nw h).1 58 k = h.1 58 k := fun k => by
    show (if 58 = h.2.2 then 0 else h.1 58 k) = _
    rw [if_neg (by rw [hn]; decide)]
  unfold mm_tb1
  exact ⟨(mm_pf_ne _ _ (by decide)).trans (z 7), (mm_pf_ne _ _ (by decide)).trans (z 9), (mm_pf_ne _ _ (by decide)).trans (z 8)⟩
/-! ===== the class's legs ===== -/
theorem mm_dq_y {v r : Int} (y : (v ≠ 2000000000 ∧ r = mm_w (Int.tdiv v 512)) ∨ (v = 2000000000 ∧ r = -1)) : r = mm_dq v := mm_dq_2 rfl y.symm
def mm_us8 (n a : Int) : Prop := (0 ≤ a ∧ a < n) ∨ a = 12
def mm_fr8 (h : mH) (a : Int) : Int := if a = 12 then h.1 1 7 else h.2.1 15 (h.2.1 60 a)
def mm_to8 (h : mH) (b : Int) : Int := if b = 12 then h.1 1 8 else h.2.1 15 (h.2.1 60 b)
def mm_fl8 (h h2 : mH) (p k : Int) : Prop := (∀ a, mm_us8 k a → mm_lg8 h2 a p = mm_dq (h.2.1 8 (mm_fr8 h a))) ∧ ∀ a b, 0 ≤ a → 0 ≤ b → b ≤ 12 → b ≠ p → mm_lg8 h2 a b = mm_lg8 h a b
theorem mm_fl8_0 {h h1 : mH} {p i r : Int} (a1 : h1 = mm_pa h 59 i r) (hi : i = 156 + p) (hp : 0 ≤ p ∧ p ≤ 12) (y : r = mm_dq (h.2.1 8 (h.1 1 7))) : mm_fl8 h h1 p 0 := by
  subst hi
  subst a1
  refine ⟨fun a ha => ?_, fun a b a0 b0 b1 ne => ?_⟩
  · have e : a = 12 := by unfold mm_us8 at ha; omega
    subst e
    unfold mm_lg8
    rw [show (13 * 12 + p : Int) = 156 + p by omega, mm_pa_same, y]
    unfold mm_fr8
    rw [if_pos rfl]
  · unfold mm_lg8
    rw [mm_pa_j 59 (by omega)]
theorem mm_fl8_s {h h1 h2 : mH} {p k i r c : Int} (F : mm_fl8 h h1 p k) (a2 : h2 = mm_pa h1 59 i r) (hi : i = 13 * k + p) (hp : 0 ≤ p ∧ p ≤ 12) (hk : 0 ≤ k ∧ k ≤ 11) (y : r = mm_dq (h1.2.1 8 c)) (e8 : ∀ j, h1.2.1 8 j = h.2.1 8 j) (ec : c = h.2.1 15 (h.2.1 60 k)) : mm_fl8 h h2 p (k + 1) := by
  subst hi
  subst a2
  refine ⟨fun a ha => ?_, fun a b a0 b0 b1 ne => ?_⟩
  · unfold mm_us8 at ha
    unfold mm_lg8
    by_cases e : a = k
    · rw [e, mm_pa_same, y, e8, ec]
      unfold mm_fr8
      rw [if_neg (by omega)]
    · rw [mm_pa_j 59 (by omega)]
      exact F.1 a (by unfold mm_us8; omega)
  · unfold mm_lg8
    rw [mm_pa_j 59 (by omega)]
    exact F.2 a b a0 b0 b1 ne
def mm_ML (h h2 : mH) (k : Int) : Prop := ∀ a b, mm_us8 (h.1 58 6) a → mm_us8 k b → mm_lgX h (mm_fr8 h a) (mm_to8 h b) (mm_lg8 h2 a b)
theorem mm_ML_at {h h1 hm h3 : mH} {p t n : Int} (L : mm_ldx h h1) (mz : -1 < (0 : Int) → ∀ d, mm_MS h1 t d → ∀ c, mm_inl h1 c → hm.2.1 8 c = d c) (ht : t = mm_to8 h p) (F : mm_fl8 hm h3 p n) (hn : n = h.1 58 6) (e7 : hm.1 1 7 = h.1 1 7) (e15 : ∀ j, hm.2.1 15 j = h.2.1 15 j) (e60 : ∀ j, hm.2.1 60 j = h.2.1 60 j) : ∀ a, mm_us8 (h.1 58 6) a → mm_lgX h (mm_fr8 h a) (mm_to8 h p) (mm_lg8 h3 a p) := fun a ha => by
  subst ht hn
  rw [F.1 a ha]
  have e : mm_fr8 hm a = mm_fr8 h a := by
    unfold mm_fr8
    rw [e7, e60, e15]
  rw [e]
  exact mm_lgX_fr L (fun d M v => congrArg mm_dq (mz (by decide) d M _ v))
theorem mm_ML_0 {h hm h3 : mH} {n : Int} (mz : -1 < (0 : Int) → ∀ d, mm_MS h (h.1 1 8) d → ∀ c, mm_inl h c → hm.2.1 8 c = d c) (F : mm_fl8 hm h3 12 n) (hn : n = h.1 58 6) (e7 : hm.1 1 7 = h.1 1 7) (e15 : ∀ j, hm.2.1 15 j = h.2.1 15 j) (e60 : ∀ j, hm.2.1 60 j = h.2.1 60 j) : mm_ML h h3 0 := fun a b ha hb => by
  have e : b = 12 := by unfold mm_us8 at hb; omega
  subst e
  exact mm_ML_at (h1 := h) ⟨rfl, rfl, fun _ => rfl, fun _ => rfl, fun _ => rfl, fun _ => rfl, fun _ => rfl⟩ mz (by unfold mm_to8; rw [if_pos rfl]) F hn e7 e15 e60 a ha
theorem mm_ML_s {h h1 hm h3 : mH} {k t n : Int} (M : mm_ML h h1 k) (L : mm_ldx h h1) (mz : -1 < (0 : Int) → ∀ d, mm_MS h1 t d → ∀ c, mm_inl h1 c → hm.2.1 8 c = d c) (ht : t = h.2.1 15 (h.2.1 60 k)) (F : mm_fl8 hm h3 k n) (hk : 0 ≤ k ∧ k ≤ 11) (hn : n = h.1 58 6) (n12 : 0 ≤ n ∧ n ≤ 12) (e59 : ∀ j, hm.2.1 59 j = h1.2.1 59 j) (e7 : hm.1 1 7 = h.1 1 7) (e15 : ∀ j, hm.2.1 15 j = h.2.1 15 j) (e60 : ∀ j, hm.2.1 60 j = h.2.1 60 j) : mm_ML h h3 (k + 1) := fun a b ha hb => by
  by_cases e : b = k
  · rw [e]
    exact mm_ML_at L mz (by unfold mm_to8; rw [if_neg (by omega)]; exact ht) F hn e7 e15 e60 a ha
  · have ha' := ha
    unfold mm_us8 at ha'
    rw [F.2 a b (by omega) (by unfold mm_us8 at hb; omega) (by unfold mm_us8 at hb; omega) e, mm_lg8_cg e59]
    exact M a b ha (by unfold mm_us8 at hb ⊢; omega)
/-! the whole search -/
def mm_fx8 (h : mH) (c a : Int) : Int := if a = 12 then h.1 1 7 else h.2.1 15 (h.2.1 21 (36 * c + 3 * a))
def mm_tx8 (h : mH) (c b : Int) : Int := if b = 12 then h.1 1 8 else h.2.1 15 (h.2.1 21 (36 * c + 3 * b))
def mm_rs8 (G : Int → Int → Int) (f : Int → Int) (n sec r k0 s0 t0 k1 s1 t1 : Int) : Prop := ((G 12 12 = -1 ∨ sec < G 12 12) ∧ r = -1 ∧ k1 = k0 ∧ s1 = s0 ∧ t1 = t0) ∨ (G 12 12 ≠ -1 ∧ G 12 12 ≤ sec ∧ k1 = 1 ∧ ∀ R, mm_GB G n → mm_Rc R G n → (r, s1, t1) = mm_bs8 (fun s => mm_cm8 R (fun a => G a 12) s n.toNat) (fun s => mm_pt8 f s n.toNat) sec (0, 0, G 12 12) (mm_p2 n - 1).toNat)
def mm_bX8 (h h2 : mH) (c sec r : Int) : Prop := ∃ G : Int → Int → Int, (∀ a b, mm_us8 (h.2.1 19 c) a → mm_us8 (h.2.1 19 c) b → mm_lgX h (mm_fx8 h c a) (mm_tx8 h c b) (G a b)) ∧ mm_rs8 G (fun j => h.2.1 16 (h.2.1 21 (36 * c + 3 * j))) (h.2.1 19 c) sec r (h.1 58 10) (h.1 58 9) (h.1 58 8) (h2.1 58 10) (h2.1 58 9) (h2.1 58 8)
theorem mm_dv_z : ∀ k : Nat, mm_dv 0 k = 0
  | 0 => rfl
  | k + 1 => by
    have z := mm_dv_z k
    show mm_dv 0 k / 3 = 0
    rw [z]; rfl
theorem mm_rr_z {B K : Int → Int} {c i : Int} : mm_rr B K c 0 i = B (36 * c + 3 * i) := by
  unfold mm_rr
  rw [mm_dv_z, show (0 : Int) % 3 = 0 from rfl, Int.add_zero]
  split <;> rfl
/-- the legs as search has them, against the heap it began with -/
def mm_LG (h h2 : mH) (c : Int) : Prop := (∀ a b, mm_us8 (h.2.1 19 c) a → mm_us8 (h.2.1 19 c) b → mm_lgX h (mm_fx8 h c a) (mm_tx8 h c b) (mm_lg8 h2 a b)) ∧ h2.1 58 6 = h.2.1 19 c ∧ ∀ j, 0 ≤ j → j < h.2.1 19 c → h2.2.1 60 j = h.2.1 21 (36 * c + 3 * j)
theorem mm_LG_of {h h1 h2 : mH} {c r : Int} (W : mm_rw h1 60 (mm_rr (h.2.1 21) (mm_fk (h.2.1 21) c) c 0) r) (er : r = h.2.1 19 c) (e6 : h1.1 58 6 = r) (M : mm_ML h1 h2 (h1.1 58 6)) (L : mm_ldx h h1) (e7 : h1.1 1 7 = h.1 1 7) (e8 : h1.1 1 8 = h.1 1 8) (e15 : ∀ j, h1.2.1 15 j = h.2.1 15 j) (f6 : h2.1 58 6 = h1.1 58 6) (f60 : ∀ j, h2.2.1 60 j = h1.2.1 60 j) (rb : 0 ≤ r ∧ r ≤ 12) : mm_LG h h2 c := by
  subst er
  have w : ∀ j, 0 ≤ j → j < h.2.1 19 c → h1.2.1 60 j = h.2.1 21 (36 * c + 3 * j) := fun j a b => (W j a b).trans mm_rr_z
  refine ⟨fun a b ha hb => ?_, f6.trans e6, fun j a b => (f60 j).trans (w j a b)⟩
  have z := M a b (by rw [e6]; exact ha) (by rw [e6]; exact hb)
  have ea : mm_fr8 h1 a = mm_fx8 h c a := by
    unfold mm_fr8 mm_fx8
    unfold mm_us8 at ha
    by_cases q : a = 12
    · rw [if_pos q, if_pos q, e7]
    · rw [if_neg q, if_neg q, e15, w a (by omega) (by omega)]
  have eb : mm_to8 h1 b = mm_tx8 h c b := by
    unfold mm_to8 mm_tx8
    unfold mm_us8 at hb
    by_cases q : b = 12
    · rw [if_pos q, if_pos q, e8]
    · rw [if_neg q, if_neg q, e15, w b (by omega) (by omega)]
  rw [ea, eb] at z
  exact mm_lgX_fr L z
theorem mm_bX8_no {h h2 h3 : mH} {c sec st : Int} (Z : mm_LG h h2 c) (es : st = h2.2.1 59 168) (q : st = -1 ∨ sec < st) (e10 : h3.1 58 10 = h.1 58 10) (e9 : h3.1 58 9 = h.1 58 9) (e8 : h3.1 58 8 = h.1 58 8) : mm_bX8 h h3 c sec (-1) := by
  subst es
  exact ⟨mm_lg8 h2, Z.1, Or.inl ⟨q, rfl, e10, e9, e8⟩⟩
theorem mm_bX8_ok {h h2 h4 h5 : mH} {c sec st r : Int} (Z : mm_LG h h2 c) (es : st = h2.2.1 59 168) (q1 : st ≠ -1) (q2 : st ≤ sec) (k1 : h5.1 58 10 = 1) (S : ∀ R, mm_HR8 h4 R → mm_BS h4 h5 R sec (h4.1 58 7, h4.1 58 9, h4.1 58 8) (mm_p2 (h4.1 58 6) - 1)) (i7 : h4.1 58 7 = 0) (i9 : h4.1 58 9 = 0) (i8 : h4.1 58 8 = st) (e59 : ∀ j, h4.2.1 59 j = h2.2.1 59 j) (e6 : h4.1 58 6 = h2.1 58 6) (e60 : ∀ j, h4.2.1 60 j = h2.2.1 60 j) (e16 : ∀ j, h4.2.1 16 j = h.2.1 16 j) (hr : r = h5.1 58 7) (n0 : 0 ≤ h.2.1 19 c) : mm_bX8 h h5 c sec r := by
  subst es
  subst hr
  refine ⟨mm_lg8 h2, Z.1, Or.inr ⟨q1, q2, k1, fun R GB C => ?_⟩⟩
  have e6' : h4.1 58 6 = h.2.1 19 c := e6.trans Z.2.1
  have z := S R (by unfold mm_HR8; rw [mm_lg8_cg e59, e6']; exact ⟨GB, C⟩)
  unfold mm_BS at z
  rw [i7, i9, i8, e6'] at z
  rw [z]
  refine mm_bs8_cg _ (fun s s1 _ => ⟨?_, ?_⟩)
  · unfold mm_al8
    rw [mm_lg8_cg e59, e6']
  · unfold mm_px8
    rw [e6']
    exact mm_pt8_cg _ (fun j a b => by show h4.2.1 16 (h4.2.1 60 j) = _; rw [e60, Z.2.2 j a (by omega), e16])
def mm_bZ8 (h h2 : mH) (c sec r : Int) : Prop := (h.2.1 17 c = 0 ∧ r = -1 ∧ h2.1 58 10 = h.1 58 10 ∧ h2.1 58 9 = h.1 58 9 ∧ h2.1 58 8 = h.1 58 8) ∨ (h.2.1 17 c ≠ 0 ∧ mm_bX8 h h2 c sec r)

set_option maxRecDepth 100000 in
set_option maxHeartbeats 4000000 in
theorem c_X2_fillRow_60_q (l : Launch) (hl : l.stackTraces = false) (d : Nat) (hd : 0 ≤ d) (h : mH) (i0 : mm_inv h) (p1 : Int) (p2 : Int) (bp1 : 0 ≤ p1 ∧ p1 ≤ 7) (bp2 : 0 ≤ p2 ∧ p2 ≤ 80) : mm_Met l d yX2_fillRow cX2_fillRow 7 (some .int) [mR 14, mI p1, mI p2, mR 60] h (mm_pi fun r h2 => (0 ≤ r ∧ r ≤ 12) ∧ mm_inv h2 ∧ mm_fr [] [60] h h2 ∧ mm_rb h2 60 0 r 0 19 ∧ mm_rw h2 60 (mm_rr (h.2.1 21) (mm_fk (h.2.1 21) p1) p1 p2) r ∧ r = h.2.1 19 p1) mm_nx 0 0 := by
  refine mm_ofW (ls := [mR 14, mI p1, mI p2, mR 60, mU, mU, mU]) hl (by decide) rfl (Nat.le_of_ble_eq_true rfl) ?_
  intro x hxl C T hnm htb
  subst hxl
  refine mm_rng (fun hr _ => ?_)
  have ap1 : -2147483648 ≤ p1 ∧ p1 < 2147483648 := mm_ok_at hr (i := 1) rfl
  have ap2 : -2147483648 ≤ p2 ∧ p2 < 2147483648 := mm_ok_at hr (i := 2) rfl
  have f0 : mm_fr [] [60] h h := mm_fr_rf
  refine mm_iload_n C (mm_dec dk_X2_fillRow 0 rfl) rfl ?_
  refine mm_istoreL (ls2 := [mR 14, mI p1, mI p2, mR 60, mI p2, mU, mU]) C (mm_dec dk_X2_fillRow 1 rfl) (by decide) rfl ?_
  refine mm_iconst C (mm_dec dk_X2_fillRow 2 rfl) ⟨by decide, by decide⟩ ?_
  have J6 : ∀ (n : Nat) (x6_4 : Int) (bx6_4 : 0 ≤ x6_4 ∧ x6_4 ≤ 80) (x6_5 : Int) (bx6_5 : 0 ≤ x6_5 ∧ x6_5 ≤ 12) (h6_ : mH) (i6_ : mm_inv h6_) (f6_ : mm_fr [] [60] h h6_) (w6_0 : mm_rb h6_ 60 0 x6_5 0 19) (w6_1 : mm_rw h6_ 60 (mm_rr (h.2.1 21) (mm_fk (h.2.1 21) p1) p1 p2) x6_5) (w6_2 : x6_4 = mm_dv p2 (mm_fn (mm_fk (h.2.1 21) p1) (x6_5).toNat)), (12 - x6_5 : Int) < n → mm_W x 0 0 6 [mR 14, mI p1, mU, mR 60, mI x6_4, mI x6_5, mU] [] h6_ := by
    intro n
    induction n with
    | zero =>
      intro x6_4 bx6_4 x6_5 bx6_5 h6_ i6_ f6_ w6_0 w6_1 w6_2 hm
      exfalso; omega
    | succ n ih6 =>
      intro x6_4 bx6_4 x6_5 bx6_5 h6_ i6_ f6_ w6_0 w6_1 w6_2 hm6
      refine mm_iload C (mm_dec dk_X2_fillRow 4 rfl) rfl ?_
      refine mm_aload_n C (mm_dec dk_X2_fillRow 5 rfl) rfl ?_
      refine mm_getr (t := 19) C fl_X2_25 (mm_dec dk_X2_fillRow 6 rfl) rfl rfl (mm_ref i6_ rfl) ?_
      refine mm_iload_n C (mm_dec dk_X2_fillRow 7 rfl) rfl ?_
      refine mm_iald C (mm_dec dk_X2_fillRow 8 rfl) rfl (by omega) (by omega) ?_
      have g1 : 0 ≤ (h6_.2.1 19 p1) ∧ (h6_.2.1 19 p1) ≤ 12 := i6_.2.1 19 p1
      refine mm_icmp_ge (tgt := 86) C (mm_dec dk_X2_fillRow 9 rfl) (by decide) (fun c14 => ?_) (fun c14 => ?_)
      · skip
        refine mm_aload_n C (mm_dec dk_X2_fillRow 53 rfl) rfl ?_
        refine mm_getr (t := 19) C fl_X2_25 (mm_dec dk_X2_fillRow 54 rfl) rfl rfl (mm_ref i6_ rfl) ?_
        refine mm_iload_n C (mm_dec dk_X2_fillRow 55 rfl) rfl ?_
        refine mm_iald C (mm_dec dk_X2_fillRow 56 rfl) rfl (by omega) (by omega) ?_
        exact mm_iret C T (mm_dec dk_X2_fillRow 57 rfl) (by decide : 0 ≤ 0) (by decide : 0 ≤ 0) ⟨_, rfl, ⟨⟨by omega, by omega⟩, i6_, f6_, by exact mm_rb_sub w6_0 (by omega) (by omega), by exact fun j a b => w6_1 j a (by omega), by first | rfl | exact f6_.2 19 (by decide) _⟩⟩
      · skip
        refine mm_iload_n C (mm_dec dk_X2_fillRow 10 rfl) rfl ?_
        refine mm_bipush C (mm_dec dk_X2_fillRow 11 rfl) ⟨by decide, by decide⟩ ?_
        refine mm_imul C (mm_dec dk_X2_fillRow 12 rfl) ⟨by omega, by omega⟩ ?_
        refine mm_iload C (mm_dec dk_X2_fillRow 13 rfl) rfl ?_
        refine mm_iadd C (mm_dec dk_X2_fillRow 14 rfl) ⟨by omega, by omega⟩ ?_
        refine mm_iconst C (mm_dec dk_X2_fillRow 15 rfl) ⟨by decide, by decide⟩ ?_
        refine mm_imul C (mm_dec dk_X2_fillRow 16 rfl) ⟨by omega, by omega⟩ ?_
        refine mm_istoreL (ls2 := [mR 14, mI p1, mU, mR 60, mI x6_4, mI x6_5, mI (((p1 * 12) + x6_5) * 3)]) C (mm_dec dk_X2_fillRow 17 rfl) (by decide) rfl ?_
        have za : h6_.2.1 21 (((p1 * 12) + x6_5) * 3) = h.2.1 21 (36 * p1 + 3 * x6_5) := by rw [f6_.2 21 (by decide), show ((p1 * 12) + x6_5) * 3 = 36 * p1 + 3 * x6_5 by omega]
        have zb : h6_.2.1 21 (((p1 * 12) + x6_5) * 3 + 1) = h.2.1 21 (36 * p1 + 3 * x6_5 + 1) := by rw [f6_.2 21 (by decide), show ((p1 * 12) + x6_5) * 3 + 1 = 36 * p1 + 3 * x6_5 + 1 by omega]
        refine mm_aload_n C (mm_dec dk_X2_fillRow 18 rfl) rfl ?_
        refine mm_iload C (mm_dec dk_X2_fillRow 19 rfl) rfl ?_
        refine mm_aload_n C (mm_dec dk_X2_fillRow 20 rfl) rfl ?_
        refine mm_getr (t := 21) C fl_X2_31 (mm_dec dk_X2_fillRow 21 rfl) rfl rfl (mm_ref i6_ rfl) ?_
        refine mm_iload C (mm_dec dk_X2_fillRow 22 rfl) rfl ?_
        refine mm_iald C (mm_dec dk_X2_fillRow 23 rfl) rfl (by omega) (by omega) ?_
        have g2 : 0 ≤ (h6_.2.1 21 (((p1 * 12) + x6_5) * 3)) ∧ (h6_.2.1 21 (((p1 * 12) + x6_5) * 3)) ≤ 19 := i6_.2.1 21 (((p1 * 12) + x6_5) * 3)
        refine mm_iast C (mm_dec dk_X2_fillRow 24 rfl) rfl (by omega) (by omega) ?_
        have i1 : mm_inv (mm_pa h6_ 60 x6_5 (h6_.2.1 21 (((p1 * 12) + x6_5) * 3))) := mm_inv_pa i6_ (show 0 ≤ (h6_.2.1 21 (((p1 * 12) + x6_5) * 3)) ∧ (h6_.2.1 21 (((p1 * 12) + x6_5) * 3)) ≤ 19 from ⟨by omega, by omega⟩)
        have f1 : mm_fr [] [60] h (mm_pa h6_ 60 x6_5 (h6_.2.1 21 (((p1 * 12) + x6_5) * 3))) := mm_fr_pa f6_ (by decide)
        obtain ⟨h1, eh1⟩ : ∃ z, z = mm_pa h6_ 60 x6_5 (h6_.2.1 21 (((p1 * 12) + x6_5) * 3)) := ⟨_, rfl⟩
        rw [← eh1] at i1 f1 ⊢
        have zc : h1.2.1 21 (((p1 * 12) + x6_5) * 3) = h6_.2.1 21 (((p1 * 12) + x6_5) * 3) := mm_sm_pa 21 eh1 (by decide) _
        have zd : h1.2.1 21 (((p1 * 12) + x6_5) * 3 + 1) = h6_.2.1 21 (((p1 * 12) + x6_5) * 3 + 1) := mm_sm_pa 21 eh1 (by decide) _
        refine mm_aload_n C (mm_dec dk_X2_fillRow 25 rfl) rfl ?_
        refine mm_getr (t := 21) C fl_X2_31 (mm_dec dk_X2_fillRow 26 rfl) rfl rfl (mm_ref i1 rfl) ?_
        refine mm_iload C (mm_dec dk_X2_fillRow 27 rfl) rfl ?_
        refine mm_iconst C (mm_dec dk_X2_fillRow 28 rfl) ⟨by decide, by decide⟩ ?_
        refine mm_iadd C (mm_dec dk_X2_fillRow 29 rfl) ⟨by omega, by omega⟩ ?_
        refine mm_iald C (mm_dec dk_X2_fillRow 30 rfl) rfl (by omega) (by omega) ?_
        have g3 : 0 ≤ (h1.2.1 21 ((((p1 * 12) + x6_5) * 3) + 1)) ∧ (h1.2.1 21 ((((p1 * 12) + x6_5) * 3) + 1)) ≤ 19 := i1.2.1 21 ((((p1 * 12) + x6_5) * 3) + 1)
        refine mm_aload_n C (mm_dec dk_X2_fillRow 31 rfl) rfl ?_
        refine mm_getr (t := 21) C fl_X2_31 (mm_dec dk_X2_fillRow 32 rfl) rfl rfl (mm_ref i1 rfl) ?_
        refine mm_iload C (mm_dec dk_X2_fillRow 33 rfl) rfl ?_
        refine mm_iald C (mm_dec dk_X2_fillRow 34 rfl) rfl (by omega) (by omega) ?_
        have g4 : 0 ≤ (h1.2.1 21 (((p1 * 12) + x6_5) * 3)) ∧ (h1.2.1 21 (((p1 * 12) + x6_5) * 3)) ≤ 19 := i1.2.1 21 (((p1 * 12) + x6_5) * 3)
        have J80 : ∀ (x80_4 : Int) (bx80_4 : 0 ≤ x80_4 ∧ x80_4 ≤ 80) (h80_ : mH) (i80_ : mm_inv h80_) (f80_ : mm_fr [] [60] h h80_) (w80_0 : mm_rb h80_ 60 0 (x6_5 + 1) 0 19) (w80_1 : mm_rw h80_ 60 (mm_rr (h.2.1 21) (mm_fk (h.2.1 21) p1) p1 p2) (x6_5 + 1)) (w80_2 : x80_4 = mm_dv p2 (mm_fn (mm_fk (h.2.1 21) p1) (x6_5 + 1).toNat)), mm_W x 0 0 80 [mR 14, mI p1, mU, mR 60, mI x80_4, mI x6_5, mU] [] h80_ := by
          intro x80_4 bx80_4 h80_ i80_ f80_ w80_0 w80_1 w80_2
          refine mm_iincL (ls2 := [mR 14, mI p1, mU, mR 60, mI x80_4, mI (x6_5 + 1), mU]) C (mm_dec dk_X2_fillRow 51 rfl) rfl (by decide) ⟨by omega, by omega⟩ rfl ?_
          refine mm_goto (tgt := 6) C (mm_dec dk_X2_fillRow 52 rfl) (by decide) ?_
          exact ih6 x80_4 ⟨by omega, by omega⟩ (x6_5 + 1) ⟨by omega, by omega⟩ h80_ i80_ f80_ (by first | exact mm_rb_nil (by omega) | exact w80_0) (by first | exact mm_rw_0 | exact w80_1) (by first | rfl | exact w80_2) (by omega)
        refine mm_icmp_eq (tgt := 80) C (mm_dec dk_X2_fillRow 35 rfl) (by decide) (fun c55 => ?_) (fun c55 => ?_)
        · skip
          refine mm_fgt 6 ?_
          exact J80 x6_4 ⟨by omega, by omega⟩ h1 i1 f1 (by first | (rw [eh2]; exact mm_rb_put (by rw [eh1]; exact mm_rb_add w6_0 ⟨by omega, by omega⟩) ⟨by omega, by omega⟩) | (rw [eh1]; exact mm_rb_add w6_0 ⟨by omega, by omega⟩)) (by first | exact mm_rw_2 w6_1 eh1 eh2 (mm_rr_1 zk (congrArg (· % 3) w6_2) ze) | exact mm_rw_s w6_1 eh1 (mm_rr_0 (mm_fk_0 (by omega)) za)) (by first | exact mm_dg_1 w6_2 (by omega) zk | exact mm_dg_0 w6_2 (by omega) (mm_fk_0 (by omega)))
        · skip
          have zk : mm_fk (h.2.1 21) p1 x6_5 = 1 := mm_fk_1 (by omega)
          have ze : h1.2.1 21 (((p1 * 12) + x6_5) * 3 + (x6_4 % 3)) = h.2.1 21 (36 * p1 + 3 * x6_5 + (x6_4 % 3)) := (mm_sm_pa 21 eh1 (by decide) _).trans (by rw [f6_.2 21 (by decide), show ((p1 * 12) + x6_5) * 3 + (x6_4 % 3) = 36 * p1 + 3 * x6_5 + (x6_4 % 3) by omega])
          refine mm_aload_n C (mm_dec dk_X2_fillRow 36 rfl) rfl ?_
          refine mm_iload C (mm_dec dk_X2_fillRow 37 rfl) rfl ?_
          refine mm_aload_n C (mm_dec dk_X2_fillRow 38 rfl) rfl ?_
          refine mm_getr (t := 21) C fl_X2_31 (mm_dec dk_X2_fillRow 39 rfl) rfl rfl (mm_ref i1 rfl) ?_
          refine mm_iload C (mm_dec dk_X2_fillRow 40 rfl) rfl ?_
          refine mm_iload C (mm_dec dk_X2_fillRow 41 rfl) rfl ?_
          refine mm_iconst C (mm_dec dk_X2_fillRow 42 rfl) ⟨by decide, by decide⟩ ?_
          refine mm_irem C (mm_dec dk_X2_fillRow 43 rfl) (by omega) (by omega) ?_
          refine mm_iadd C (mm_dec dk_X2_fillRow 44 rfl) ⟨by omega, by omega⟩ ?_
          refine mm_iald C (mm_dec dk_X2_fillRow 45 rfl) rfl (by omega) (by omega) ?_
          have g5 : 0 ≤ (h1.2.1 21 ((((p1 * 12) + x6_5) * 3) + (x6_4 % 3))) ∧ (h1.2.1 21 ((((p1 * 12) + x6_5) * 3) + (x6_4 % 3))) ≤ 19 := i1.2.1 21 ((((p1 * 12) + x6_5) * 3) + (x6_4 % 3))
          refine mm_iast C (mm_dec dk_X2_fillRow 46 rfl) rfl (by omega) (by omega) ?_
          have i2 : mm_inv (mm_pa h1 60 x6_5 (h1.2.1 21 ((((p1 * 12) + x6_5) * 3) + (x6_4 % 3)))) := mm_inv_pa i1 (show 0 ≤ (h1.2.1 21 ((((p1 * 12) + x6_5) * 3) + (x6_4 % 3))) ∧ (h1.2.1 21 ((((p1 * 12) + x6_5) * 3) + (x6_4 % 3))) ≤ 19 from ⟨by omega, by omega⟩)
          have f2 : mm_fr [] [60] h (mm_pa h1 60 x6_5 (h1.2.1 21 ((((p1 * 12) + x6_5) * 3) + (x6_4 % 3)))) := mm_fr_pa f1 (by decide)
          obtain ⟨h2, eh2⟩ : ∃ z, z = mm_pa h1 60 x6_5 (h1.2.1 21 ((((p1 * 12) + x6_5) * 3) + (x6_4 % 3))) := ⟨_, rfl⟩
          rw [← eh2] at i2 f2 ⊢
          refine mm_iload C (mm_dec dk_X2_fillRow 47 rfl) rfl ?_
          refine mm_iconst C (mm_dec dk_X2_fillRow 48 rfl) ⟨by decide, by decide⟩ ?_
          refine mm_idiv C (mm_dec dk_X2_fillRow 49 rfl) ⟨by omega, by omega⟩ (by omega) ?_
          refine mm_istoreL (ls2 := [mR 14, mI p1, mU, mR 60, mI (x6_4 / 3), mI x6_5, mI (((p1 * 12) + x6_5) * 3)]) C (mm_dec dk_X2_fillRow 50 rfl) (by decide) rfl ?_
          refine mm_fgt 6 ?_
          exact J80 (x6_4 / 3) ⟨by omega, by omega⟩ h2 i2 f2 (by first | (rw [eh2]; exact mm_rb_put (by rw [eh1]; exact mm_rb_add w6_0 ⟨by omega, by omega⟩) ⟨by omega, by omega⟩) | (rw [eh1]; exact mm_rb_add w6_0 ⟨by omega, by omega⟩)) (by first | exact mm_rw_2 w6_1 eh1 eh2 (mm_rr_1 zk (congrArg (· % 3) w6_2) ze) | exact mm_rw_s w6_1 eh1 (mm_rr_0 (mm_fk_0 (by omega)) za)) (by first | exact mm_dg_1 w6_2 (by omega) zk | exact mm_dg_0 w6_2 (by omega) (mm_fk_0 (by omega)))
  refine mm_istoreL (ls2 := [mR 14, mI p1, mI p2, mR 60, mI p2, mI 0, mU]) C (mm_dec dk_X2_fillRow 3 rfl) (by decide) rfl ?_
  refine mm_fgt 2 ?_
  exact J6 (((12 - 0) : Int) + 1).toNat p2 ⟨by omega, by omega⟩ 0 ⟨by omega, by omega⟩ h i0 f0 (by first | exact mm_rb_nil (by omega) | exact w80_0) (by first | exact mm_rw_0 | exact w80_1) (by first | rfl | exact w80_2) (by omega)
set_option maxRecDepth 100000 in
set_option maxHeartbeats 4000000 in
theorem c_X0_fillLegsTo_q (l : Launch) (hl : l.stackTraces = false) (d : Nat) (hd : 1 ≤ d) (h : mH) (i0 : mm_inv h) (p1 : Int) (bp1 : 0 ≤ p1 ∧ p1 ≤ 12) : mm_Met l d yX0_fillLegsTo cX0_fillLegsTo 3 none [mR 58, mI p1] h (mm_pv fun h2 => mm_inv h2 ∧ mm_fr [] [59] h h2 ∧ mm_fl8 h h2 p1 (h.1 58 6)) mm_nx 0 0 := by
  refine mm_ofW (ls := [mR 58, mI p1, mU]) hl (by decide) rfl (Nat.le_of_ble_eq_true rfl) ?_
  intro x hxl C T hnm htb
  subst hxl
  have C1 := mm_OK_le (d' := d - 1 + 1) (by omega) C
  refine mm_rng (fun hr _ => ?_)
  have ap1 : -2147483648 ≤ p1 ∧ p1 < 2147483648 := mm_ok_at hr (i := 1) rfl
  have f0 : mm_fr [] [59] h h := mm_fr_rf
  have zn6 : 0 ≤ h.1 58 6 ∧ h.1 58 6 ≤ 12 := i0.1 58 6
  refine mm_aload_n C (mm_dec dk_X0_fillLegsTo 0 rfl) rfl ?_
  refine mm_getr (t := 59) C fl_X0_11 (mm_dec dk_X0_fillLegsTo 1 rfl) rfl rfl (mm_ref i0 rfl) ?_
  refine mm_sipush C (mm_dec dk_X0_fillLegsTo 2 rfl) ⟨by decide, by decide⟩ ?_
  refine mm_iload_n C (mm_dec dk_X0_fillLegsTo 3 rfl) rfl ?_
  refine mm_iadd C (mm_dec dk_X0_fillLegsTo 4 rfl) ⟨by omega, by omega⟩ ?_
  refine mm_aload_n C (mm_dec dk_X0_fillLegsTo 5 rfl) rfl ?_
  refine mm_getr (t := 7) C fl_X0_42 (mm_dec dk_X0_fillLegsTo 6 rfl) rfl rfl (mm_ref i0 rfl) ?_
  refine mm_aload_n C (mm_dec dk_X0_fillLegsTo 7 rfl) rfl ?_
  refine mm_getr (t := 1) C fl_X0_38 (mm_dec dk_X0_fillLegsTo 8 rfl) rfl rfl (mm_ref i0 rfl) ?_
  refine mm_geti C fl_X0_81 (mm_dec dk_X0_fillLegsTo 9 rfl) rfl rfl (Or.inl rfl) ?_
  have g1 : 0 ≤ (h.1 1 7) ∧ (h.1 1 7) ≤ 399 := i0.1 1 7
  refine mm_cVi (rest := [mI (156 + p1), mR 59]) C1 ev_X0_84 (mm_dec dk_X0_fillLegsTo 10 rfl) (c_X10_secondsFrom x.2.1 hl (d - 1) (by omega) h i0 (h.1 1 7) ⟨by omega, by omega⟩) rfl rfl (Nat.le_of_ble_eq_true rfl) ⟨by decide, by decide⟩ rfl (fun r20 h20c hp20 => ?_) (fun _ _ q => q.elim)
  obtain ⟨z20, y20⟩ := hp20
  rw [z20]
  have g3 : -2147483648 ≤ (h.2.1 8 (h.1 1 7)) ∧ (h.2.1 8 (h.1 1 7)) ≤ 2147483647 := i0.2.1 8 (h.1 1 7)
  have g4 : -2147483648 ≤ (mm_w (Int.tdiv (h.2.1 8 (h.1 1 7)) 512)) ∧ (mm_w (Int.tdiv (h.2.1 8 (h.1 1 7)) 512)) < 2147483648 := mm_w_rg _
  refine mm_iast C (mm_dec dk_X0_fillLegsTo 11 rfl) rfl (by omega) (by omega) ?_
  have i1 : mm_inv (mm_pa h 59 (156 + p1) r20) := mm_inv_pa i0 (show -2147483648 ≤ r20 ∧ r20 ≤ 2147483647 from ⟨by omega, by omega⟩)
  have f1 : mm_fr [] [59] h (mm_pa h 59 (156 + p1) r20) := mm_fr_pa f0 (by decide)
  obtain ⟨h1, eh1⟩ : ∃ z, z = mm_pa h 59 (156 + p1) r20 := ⟨_, rfl⟩
  rw [← eh1] at i1 f1 ⊢
  have qh1_5 : h1.1 1 7 = h.1 1 7 := by rw [eh1]; rfl
  refine mm_iconst C (mm_dec dk_X0_fillLegsTo 12 rfl) ⟨by decide, by decide⟩ ?_
  have J26 : ∀ (n : Nat) (x26_2 : Int) (bx26_2 : 0 ≤ x26_2 ∧ x26_2 ≤ 12) (h26_ : mH) (i26_ : mm_inv h26_) (f26_ : mm_fr [] [59] h h26_) (w26_0 : mm_fl8 h h26_ p1 x26_2) (w26_1 : x26_2 ≤ h.1 58 6), (12 - x26_2 : Int) < n → mm_W x 0 0 26 [mR 58, mI p1, mI x26_2] [] h26_ := by
    intro n
    induction n with
    | zero =>
      intro x26_2 bx26_2 h26_ i26_ f26_ w26_0 w26_1 hm
      exfalso; omega
    | succ n ih26 =>
      intro x26_2 bx26_2 h26_ i26_ f26_ w26_0 w26_1 hm26
      have ze6 : h26_.1 58 6 = h.1 58 6 := f26_.1 58 6 (by decide)
      have ze8 : ∀ j, h26_.2.1 8 j = h.2.1 8 j := fun j => f26_.2 8 (by decide) j
      have zec : h26_.2.1 15 (h26_.2.1 60 x26_2) = h.2.1 15 (h.2.1 60 x26_2) := by rw [f26_.2 15 (by decide), f26_.2 60 (by decide)]
      refine mm_iload_n C (mm_dec dk_X0_fillLegsTo 14 rfl) rfl ?_
      refine mm_aload_n C (mm_dec dk_X0_fillLegsTo 15 rfl) rfl ?_
      refine mm_geti C fl_X0_21 (mm_dec dk_X0_fillLegsTo 16 rfl) rfl rfl (Or.inl rfl) ?_
      have g6 : 0 ≤ (h26_.1 58 6) ∧ (h26_.1 58 6) ≤ 12 := i26_.1 58 6
      refine mm_icmp_ge (tgt := 71) C (mm_dec dk_X0_fillLegsTo 17 rfl) (by decide) (fun c31 => ?_) (fun c31 => ?_)
      · skip
        exact mm_vret C T (mm_dec dk_X0_fillLegsTo 38 rfl) (by decide : 0 ≤ 0) (by decide : 0 ≤ 0) ⟨rfl, ⟨i26_, f26_, by (rw [show h.1 58 6 = x26_2 by omega]; exact w26_0)⟩⟩
      · skip
        refine mm_aload_n C (mm_dec dk_X0_fillLegsTo 18 rfl) rfl ?_
        refine mm_getr (t := 59) C fl_X0_11 (mm_dec dk_X0_fillLegsTo 19 rfl) rfl rfl (mm_ref i26_ rfl) ?_
        refine mm_iload_n C (mm_dec dk_X0_fillLegsTo 20 rfl) rfl ?_
        refine mm_bipush C (mm_dec dk_X0_fillLegsTo 21 rfl) ⟨by decide, by decide⟩ ?_
        refine mm_imul C (mm_dec dk_X0_fillLegsTo 22 rfl) ⟨by omega, by omega⟩ ?_
        refine mm_iload_n C (mm_dec dk_X0_fillLegsTo 23 rfl) rfl ?_
        refine mm_iadd C (mm_dec dk_X0_fillLegsTo 24 rfl) ⟨by omega, by omega⟩ ?_
        refine mm_aload_n C (mm_dec dk_X0_fillLegsTo 25 rfl) rfl ?_
        refine mm_getr (t := 7) C fl_X0_42 (mm_dec dk_X0_fillLegsTo 26 rfl) rfl rfl (mm_ref i26_ rfl) ?_
        refine mm_aload_n C (mm_dec dk_X0_fillLegsTo 27 rfl) rfl ?_
        refine mm_getr (t := 14) C fl_X0_46 (mm_dec dk_X0_fillLegsTo 28 rfl) rfl rfl (mm_ref i26_ rfl) ?_
        refine mm_aload_n C (mm_dec dk_X0_fillLegsTo 29 rfl) rfl ?_
        refine mm_getr (t := 60) C fl_X0_15 (mm_dec dk_X0_fillLegsTo 30 rfl) rfl rfl (mm_ref i26_ rfl) ?_
        refine mm_iload_n C (mm_dec dk_X0_fillLegsTo 31 rfl) rfl ?_
        refine mm_iald C (mm_dec dk_X0_fillLegsTo 32 rfl) rfl (by omega) (by omega) ?_
        have g7 : 0 ≤ (h26_.2.1 60 x26_2) ∧ (h26_.2.1 60 x26_2) ≤ 19 := i26_.2.1 60 x26_2
        refine mm_cVi (rest := [mR 7, mI ((x26_2 * 13) + p1), mR 59]) C1 ev_X0_77 (mm_dec dk_X0_fillLegsTo 33 rfl) (c_X2_cellOf x.2.1 hl (d - 1) (by omega) h26_ i26_ (h26_.2.1 60 x26_2) ⟨by omega, by omega⟩) rfl rfl (Nat.le_of_ble_eq_true rfl) ⟨by decide, by decide⟩ rfl (fun r58 h58c hp58 => ?_) (fun _ _ q => q.elim)
        obtain ⟨z58, y58⟩ := hp58
        rw [z58, y58]
        have g9 : 0 ≤ (h26_.2.1 15 (h26_.2.1 60 x26_2)) ∧ (h26_.2.1 15 (h26_.2.1 60 x26_2)) ≤ 399 := i26_.2.1 15 (h26_.2.1 60 x26_2)
        refine mm_cVi (rest := [mI ((x26_2 * 13) + p1), mR 59]) C1 ev_X0_84 (mm_dec dk_X0_fillLegsTo 34 rfl) (c_X10_secondsFrom x.2.1 hl (d - 1) (by omega) h26_ i26_ (h26_.2.1 15 (h26_.2.1 60 x26_2)) ⟨by omega, by omega⟩) rfl rfl (Nat.le_of_ble_eq_true rfl) ⟨by decide, by decide⟩ rfl (fun r61 h61c hp61 => ?_) (fun _ _ q => q.elim)
        obtain ⟨z61, y61⟩ := hp61
        rw [z61]
        have g11 : -2147483648 ≤ (h26_.2.1 8 (h26_.2.1 15 (h26_.2.1 60 x26_2))) ∧ (h26_.2.1 8 (h26_.2.1 15 (h26_.2.1 60 x26_2))) ≤ 2147483647 := i26_.2.1 8 (h26_.2.1 15 (h26_.2.1 60 x26_2))
        have g12 : -2147483648 ≤ (mm_w (Int.tdiv (h26_.2.1 8 (h26_.2.1 15 (h26_.2.1 60 x26_2))) 512)) ∧ (mm_w (Int.tdiv (h26_.2.1 8 (h26_.2.1 15 (h26_.2.1 60 x26_2))) 512)) < 2147483648 := mm_w_rg _
        refine mm_iast C (mm_dec dk_X0_fillLegsTo 35 rfl) rfl (by omega) (by omega) ?_
        have i2 : mm_inv (mm_pa h26_ 59 ((x26_2 * 13) + p1) r61) := mm_inv_pa i26_ (show -2147483648 ≤ r61 ∧ r61 ≤ 2147483647 from ⟨by omega, by omega⟩)
        have f2 : mm_fr [] [59] h (mm_pa h26_ 59 ((x26_2 * 13) + p1) r61) := mm_fr_pa f26_ (by decide)
        obtain ⟨h2, eh2⟩ : ∃ z, z = mm_pa h26_ 59 ((x26_2 * 13) + p1) r61 := ⟨_, rfl⟩
        rw [← eh2] at i2 f2 ⊢
        have qh2_13 : h2.1 58 6 = h26_.1 58 6 := by rw [eh2]; rfl
        refine mm_iincL (ls2 := [mR 58, mI p1, mI (x26_2 + 1)]) C (mm_dec dk_X0_fillLegsTo 36 rfl) rfl (by decide) ⟨by omega, by omega⟩ rfl ?_
        refine mm_goto (tgt := 26) C (mm_dec dk_X0_fillLegsTo 37 rfl) (by decide) ?_
        exact ih26 (x26_2 + 1) ⟨by omega, by omega⟩ h2 i2 f2 (by first | exact mm_fl8_0 eh1 rfl (by omega) (mm_dq_y y20) | exact mm_fl8_s w26_0 eh2 (by omega) (by omega) (by omega) (mm_dq_y y61) ze8 zec) (by omega) (by omega)
  refine mm_istore_nL (ls2 := [mR 58, mI p1, mI 0]) C (mm_dec dk_X0_fillLegsTo 13 rfl) (by decide) rfl ?_
  exact J26 (((12 - 0) : Int) + 1).toNat 0 ⟨by omega, by omega⟩ h1 i1 f1 (by first | exact mm_fl8_0 eh1 rfl (by omega) (mm_dq_y y20) | exact mm_fl8_s w26_0 eh2 (by omega) (by omega) (by omega) (mm_dq_y y61) ze8 zec) (by omega) (by omega)
set_option maxRecDepth 100000 in
set_option maxHeartbeats 4000000 in
theorem c_X0_measureLegs_q (l : Launch) (hl : l.stackTraces = false) (d : Nat) (hd : 4 ≤ d) (h : mH) (i0 : mm_inv h) : mm_Met l d yX0_measureLegs cX0_measureLegs 2 none [mR 58] h (mm_pv fun h2 => mm_inv h2 ∧ mm_fr [(7, 7), (7, 8)] [8, 9, 10, 11, 59] h h2 ∧ mm_ML h h2 (h.1 58 6)) mm_nx 0 0 := by
  refine mm_ofW (ls := [mR 58, mU]) hl (by decide) rfl (Nat.le_of_ble_eq_true rfl) ?_
  intro x hxl C T hnm htb
  subst hxl
  have C1 := mm_OK_le (d' := d - 1 + 1) (by omega) C
  have f0 : mm_fr [(7, 7), (7, 8)] [8, 9, 10, 11, 59] h h := mm_fr_rf
  have zn6 : 0 ≤ h.1 58 6 ∧ h.1 58 6 ≤ 12 := i0.1 58 6
  refine mm_aload_n C (mm_dec dk_X0_measureLegs 0 rfl) rfl ?_
  refine mm_getr (t := 7) C fl_X0_42 (mm_dec dk_X0_measureLegs 1 rfl) rfl rfl (mm_ref i0 rfl) ?_
  refine mm_aload_n C (mm_dec dk_X0_measureLegs 2 rfl) rfl ?_
  refine mm_getr (t := 1) C fl_X0_38 (mm_dec dk_X0_measureLegs 3 rfl) rfl rfl (mm_ref i0 rfl) ?_
  refine mm_geti C fl_X0_63 (mm_dec dk_X0_measureLegs 4 rfl) rfl rfl (Or.inl rfl) ?_
  have g1 : 0 ≤ (h.1 1 8) ∧ (h.1 1 8) ≤ 399 := i0.1 1 8
  refine mm_iconst C (mm_dec dk_X0_measureLegs 5 rfl) ⟨by decide, by decide⟩ ?_
  refine mm_cVv (rest := []) C1 ev_X0_68 (mm_dec dk_X0_measureLegs 6 rfl) (c_X10_measure_q x.2.1 hl (d - 1) (by omega) h i0 (h.1 1 8) (-1) ⟨by omega, by omega⟩ ⟨by omega, by omega⟩) rfl rfl (Nat.le_of_ble_eq_true rfl) ⟨by decide, by decide⟩ rfl (fun h12c hp12 => ?_) (fun _ _ q => q.elim)
  obtain ⟨i12c, g12c, y12_0, y12_1⟩ := hp12
  have f12c : mm_fr [(7, 7), (7, 8)] [8, 9, 10, 11, 59] h h12c := mm_fr_tr f0 g12c (by decide +kernel)
  have q12c_3 : h12c.1 1 8 = h.1 1 8 := g12c.1 1 8 (by decide)
  refine mm_aload_n C (mm_dec dk_X0_measureLegs 7 rfl) rfl ?_
  refine mm_bipush C (mm_dec dk_X0_measureLegs 8 rfl) ⟨by decide, by decide⟩ ?_
  refine mm_cVv (rest := []) C1 ev_X0_74 (mm_dec dk_X0_measureLegs 9 rfl) (c_X0_fillLegsTo_q x.2.1 hl (d - 1) (by omega) h12c i12c 12 ⟨by omega, by omega⟩) rfl rfl (Nat.le_of_ble_eq_true rfl) ⟨by decide, by decide⟩ rfl (fun h18c hp18 => ?_) (fun _ _ q => q.elim)
  obtain ⟨i18c, g18c, y18_0⟩ := hp18
  have f18c : mm_fr [(7, 7), (7, 8)] [8, 9, 10, 11, 59] h h18c := mm_fr_tr f12c g18c (by decide +kernel)
  have q18c_5 : h18c.1 1 8 = h12c.1 1 8 := g18c.1 1 8 (by decide)
  refine mm_iconst C (mm_dec dk_X0_measureLegs 10 rfl) ⟨by decide, by decide⟩ ?_
  have J23 : ∀ (n : Nat) (x23_1 : Int) (bx23_1 : 0 ≤ x23_1 ∧ x23_1 ≤ 12) (h23_ : mH) (i23_ : mm_inv h23_) (f23_ : mm_fr [(7, 7), (7, 8)] [8, 9, 10, 11, 59] h h23_) (w23_0 : mm_ML h h23_ x23_1) (w23_1 : x23_1 ≤ h.1 58 6), (12 - x23_1 : Int) < n → mm_W x 0 0 23 [mR 58, mI x23_1] [] h23_ := by
    intro n
    induction n with
    | zero =>
      intro x23_1 bx23_1 h23_ i23_ f23_ w23_0 w23_1 hm
      exfalso; omega
    | succ n ih23 =>
      intro x23_1 bx23_1 h23_ i23_ f23_ w23_0 w23_1 hm23
      have ze6 : h23_.1 58 6 = h.1 58 6 := f23_.1 58 6 (by decide)
      have zec : h23_.2.1 15 (h23_.2.1 60 x23_1) = h.2.1 15 (h.2.1 60 x23_1) := by rw [f23_.2 15 (by decide), f23_.2 60 (by decide)]
      refine mm_iload_n C (mm_dec dk_X0_measureLegs 12 rfl) rfl ?_
      refine mm_aload_n C (mm_dec dk_X0_measureLegs 13 rfl) rfl ?_
      refine mm_geti C fl_X0_21 (mm_dec dk_X0_measureLegs 14 rfl) rfl rfl (Or.inl rfl) ?_
      have g6 : 0 ≤ (h23_.1 58 6) ∧ (h23_.1 58 6) ≤ 12 := i23_.1 58 6
      refine mm_icmp_ge (tgt := 63) C (mm_dec dk_X0_measureLegs 15 rfl) (by decide) (fun c28 => ?_) (fun c28 => ?_)
      · skip
        exact mm_vret C T (mm_dec dk_X0_measureLegs 32 rfl) (by decide : 0 ≤ 0) (by decide : 0 ≤ 0) ⟨rfl, ⟨i23_, f23_, by (rw [show h.1 58 6 = x23_1 by omega]; exact w23_0)⟩⟩
      · skip
        refine mm_aload_n C (mm_dec dk_X0_measureLegs 16 rfl) rfl ?_
        refine mm_getr (t := 7) C fl_X0_42 (mm_dec dk_X0_measureLegs 17 rfl) rfl rfl (mm_ref i23_ rfl) ?_
        refine mm_aload_n C (mm_dec dk_X0_measureLegs 18 rfl) rfl ?_
        refine mm_getr (t := 14) C fl_X0_46 (mm_dec dk_X0_measureLegs 19 rfl) rfl rfl (mm_ref i23_ rfl) ?_
        refine mm_aload_n C (mm_dec dk_X0_measureLegs 20 rfl) rfl ?_
        refine mm_getr (t := 60) C fl_X0_15 (mm_dec dk_X0_measureLegs 21 rfl) rfl rfl (mm_ref i23_ rfl) ?_
        refine mm_iload_n C (mm_dec dk_X0_measureLegs 22 rfl) rfl ?_
        refine mm_iald C (mm_dec dk_X0_measureLegs 23 rfl) rfl (by omega) (by omega) ?_
        have g7 : 0 ≤ (h23_.2.1 60 x23_1) ∧ (h23_.2.1 60 x23_1) ≤ 19 := i23_.2.1 60 x23_1
        refine mm_cVi (rest := [mR 7]) C1 ev_X0_77 (mm_dec dk_X0_measureLegs 24 rfl) (c_X2_cellOf x.2.1 hl (d - 1) (by omega) h23_ i23_ (h23_.2.1 60 x23_1) ⟨by omega, by omega⟩) rfl rfl (Nat.le_of_ble_eq_true rfl) ⟨by decide, by decide⟩ rfl (fun r45 h45c hp45 => ?_) (fun _ _ q => q.elim)
        obtain ⟨z45, y45⟩ := hp45
        rw [z45, y45]
        have g9 : 0 ≤ (h23_.2.1 15 (h23_.2.1 60 x23_1)) ∧ (h23_.2.1 15 (h23_.2.1 60 x23_1)) ≤ 399 := i23_.2.1 15 (h23_.2.1 60 x23_1)
        refine mm_iconst C (mm_dec dk_X0_measureLegs 25 rfl) ⟨by decide, by decide⟩ ?_
        refine mm_cVv (rest := []) C1 ev_X0_68 (mm_dec dk_X0_measureLegs 26 rfl) (c_X10_measure_q x.2.1 hl (d - 1) (by omega) h23_ i23_ (h23_.2.1 15 (h23_.2.1 60 x23_1)) (-1) ⟨by omega, by omega⟩ ⟨by omega, by omega⟩) rfl rfl (Nat.le_of_ble_eq_true rfl) ⟨by decide, by decide⟩ rfl (fun h49c hp49 => ?_) (fun _ _ q => q.elim)
        obtain ⟨i49c, g49c, y49_0, y49_1⟩ := hp49
        have f49c : mm_fr [(7, 7), (7, 8)] [8, 9, 10, 11, 59] h h49c := mm_fr_tr f23_ g49c (by decide +kernel)
        have q49c_11 : h49c.1 58 6 = h23_.1 58 6 := g49c.1 58 6 (by decide)
        refine mm_aload_n C (mm_dec dk_X0_measureLegs 27 rfl) rfl ?_
        refine mm_iload_n C (mm_dec dk_X0_measureLegs 28 rfl) rfl ?_
        refine mm_cVv (rest := []) C1 ev_X0_74 (mm_dec dk_X0_measureLegs 29 rfl) (c_X0_fillLegsTo_q x.2.1 hl (d - 1) (by omega) h49c i49c x23_1 ⟨by omega, by omega⟩) rfl rfl (Nat.le_of_ble_eq_true rfl) ⟨by decide, by decide⟩ rfl (fun h54c hp54 => ?_) (fun _ _ q => q.elim)
        obtain ⟨i54c, g54c, y54_0⟩ := hp54
        have f54c : mm_fr [(7, 7), (7, 8)] [8, 9, 10, 11, 59] h h54c := mm_fr_tr f49c g54c (by decide +kernel)
        have q54c_13 : h54c.1 58 6 = h49c.1 58 6 := g54c.1 58 6 (by decide)
        refine mm_iincL (ls2 := [mR 58, mI (x23_1 + 1)]) C (mm_dec dk_X0_measureLegs 30 rfl) rfl (by decide) ⟨by omega, by omega⟩ rfl ?_
        refine mm_goto (tgt := 23) C (mm_dec dk_X0_measureLegs 31 rfl) (by decide) ?_
        exact ih23 (x23_1 + 1) ⟨by omega, by omega⟩ h54c i54c f54c (by first | exact mm_ML_0 (fun q => y12_1 (by omega)) y18_0 (g12c.1 58 6 (by decide)) (g12c.1 1 7 (by decide)) (fun j => g12c.2 15 (by decide) j) (fun j => g12c.2 60 (by decide) j) | exact mm_ML_s w23_0 (mm_ldx_fr f23_ (by decide)) (fun q => y49_1 (by omega)) zec y54_0 (by omega) (f49c.1 58 6 (by decide)) (i49c.1 58 6) (fun j => g49c.2 59 (by decide) j) (f49c.1 1 7 (by decide)) (fun j => f49c.2 15 (by decide) j) (fun j => f49c.2 60 (by decide) j)) (by omega) (by omega)
  refine mm_istore_nL (ls2 := [mR 58, mI 0]) C (mm_dec dk_X0_measureLegs 11 rfl) (by decide) rfl ?_
  exact J23 (((12 - 0) : Int) + 1).toNat 0 ⟨by omega, by omega⟩ h18c i18c f18c (by first | exact mm_ML_0 (fun q => y12_1 (by omega)) y18_0 (g12c.1 58 6 (by decide)) (g12c.1 1 7 (by decide)) (fun j => g12c.2 15 (by decide) j) (fun j => g12c.2 60 (by decide) j) | exact mm_ML_s w23_0 (mm_ldx_fr f23_ (by decide)) (fun q => y49_1 (by omega)) zec y54_0 (by omega) (f49c.1 58 6 (by decide)) (i49c.1 58 6) (fun j => g49c.2 59 (by decide) j) (f49c.1 1 7 (by decide)) (fun j => f49c.2 15 (by decide) j) (fun j => f49c.2 60 (by decide) j)) (by omega) (by omega)
set_option maxRecDepth 100000 in
set_option maxHeartbeats 4000000 in
theorem c_X0_reach_q (l : Launch) (hl : l.stackTraces = false) (d : Nat) (hd : 0 ≤ d) (h : mH) (i0 : mm_inv h) (p1 : Int) (p2 : Int) (p3 : Int) (p4 : Int) (p5 : Int) (bp1 : 0 ≤ p1 ∧ p1 ≤ 4095) (bp2 : 0 ≤ p2 ∧ p2 ≤ 11) (t0 : h.1 58 5 = 1) : mm_Met l d yX0_reach cX0_reach 7 none [mR 58, mI p1, mI p2, mI p3, mI p4, mI p5] h (mm_pv fun h2 => mm_inv h2 ∧ mm_fr [] [125] h h2 ∧ mm_rc8 h h2 p1 p2 p3 p4 p5) mm_nx 0 0 := by
  refine mm_ofW (ls := [mR 58, mI p1, mI p2, mI p3, mI p4, mI p5, mU]) hl (by decide) rfl (Nat.le_of_ble_eq_true rfl) ?_
  intro x hxl C T hnm htb
  subst hxl
  refine mm_rng (fun hr _ => ?_)
  have ap1 : -2147483648 ≤ p1 ∧ p1 < 2147483648 := mm_ok_at hr (i := 1) rfl
  have ap2 : -2147483648 ≤ p2 ∧ p2 < 2147483648 := mm_ok_at hr (i := 2) rfl
  have ap3 : -2147483648 ≤ p3 ∧ p3 < 2147483648 := mm_ok_at hr (i := 3) rfl
  have ap4 : -2147483648 ≤ p4 ∧ p4 < 2147483648 := mm_ok_at hr (i := 4) rfl
  have ap5 : -2147483648 ≤ p5 ∧ p5 < 2147483648 := mm_ok_at hr (i := 5) rfl
  have f0 : mm_fr [] [125] h h := mm_fr_rf
  have g1 : 0 ≤ h.1 58 5 ∧ h.1 58 5 ≤ 1 := i0.1 58 5
  refine mm_iload C (mm_dec dk_X0_reach 0 rfl) rfl ?_
  refine mm_iconst C (mm_dec dk_X0_reach 1 rfl) ⟨by decide, by decide⟩ ?_
  have J15 : ∀ (w15_0 : (p4 = -1 ∨ p5 < mm_w (p3 + p4))), mm_W x 0 0 15 [mU, mU, mU, mU, mU, mU, mU] [] h := by
    intro w15_0
    have g2 : 0 ≤ h.1 58 5 ∧ h.1 58 5 ≤ 1 := i0.1 58 5
    exact mm_vret C T (mm_dec dk_X0_reach 8 rfl) (by decide : 0 ≤ 0) (by decide : 0 ≤ 0) ⟨rfl, ⟨i0, f0, by first | exact w49_0 | exact mm_rc8_no (by omega)⟩⟩
  refine mm_icmp_eq (tgt := 15) C (mm_dec dk_X0_reach 2 rfl) (by decide) (fun c3 => ?_) (fun c3 => ?_)
  · skip
    refine mm_fgt 0 ?_
    refine mm_fgt 1 ?_
    refine mm_fgt 2 ?_
    refine mm_fgt 3 ?_
    refine mm_fgt 4 ?_
    refine mm_fgt 5 ?_
    exact J15 (by omega)
  · skip
    refine mm_iload_n C (mm_dec dk_X0_reach 3 rfl) rfl ?_
    refine mm_iload C (mm_dec dk_X0_reach 4 rfl) rfl ?_
    refine mm_iaddw C (mm_dec dk_X0_reach 5 rfl) ?_
    have g3 : -2147483648 ≤ (mm_w (p3 + p4)) ∧ (mm_w (p3 + p4)) < 2147483648 := mm_w_rg _
    refine mm_iload C (mm_dec dk_X0_reach 6 rfl) rfl ?_
    refine mm_icmp_le (tgt := 16) C (mm_dec dk_X0_reach 7 rfl) (by decide) (fun c12 => ?_) (fun c12 => ?_)
    · skip
      refine mm_iload_n C (mm_dec dk_X0_reach 9 rfl) rfl ?_
      refine mm_bipush C (mm_dec dk_X0_reach 10 rfl) ⟨by decide, by decide⟩ ?_
      refine mm_imul C (mm_dec dk_X0_reach 11 rfl) ⟨by omega, by omega⟩ ?_
      refine mm_iload_n C (mm_dec dk_X0_reach 12 rfl) rfl ?_
      refine mm_iadd C (mm_dec dk_X0_reach 13 rfl) ⟨by omega, by omega⟩ ?_
      refine mm_istoreL (ls2 := [mR 58, mI p1, mI p2, mI p3, mI p4, mI p5, mI ((p1 * 12) + p2)]) C (mm_dec dk_X0_reach 14 rfl) (by decide) rfl ?_
      refine mm_iload_n C (mm_dec dk_X0_reach 15 rfl) rfl ?_
      refine mm_iload C (mm_dec dk_X0_reach 16 rfl) rfl ?_
      refine mm_iaddw C (mm_dec dk_X0_reach 17 rfl) ?_
      have g4 : -2147483648 ≤ (mm_w (p3 + p4)) ∧ (mm_w (p3 + p4)) < 2147483648 := mm_w_rg _
      refine mm_aload_n C (mm_dec dk_X0_reach 18 rfl) rfl ?_
      refine mm_getr (t := 125) C fl_X0_18 (mm_dec dk_X0_reach 19 rfl) rfl rfl (by omega) ?_
      refine mm_iload C (mm_dec dk_X0_reach 20 rfl) rfl ?_
      refine mm_iald C (mm_dec dk_X0_reach 21 rfl) rfl (by omega) (by omega) ?_
      have g5 : -2147483648 ≤ (h.2.1 125 ((p1 * 12) + p2)) ∧ (h.2.1 125 ((p1 * 12) + p2)) ≤ 2147483647 := i0.2.1 125 ((p1 * 12) + p2)
      have J49 : ∀ (h49_ : mH) (i49_ : mm_inv h49_) (f49_ : mm_fr [] [125] h h49_) (w49_0 : mm_rc8 h h49_ p1 p2 p3 p4 p5), mm_W x 0 0 49 [mU, mU, mU, mU, mU, mU, mU] [] h49_ := by
        intro h49_ i49_ f49_ w49_0
        have g6 : 0 ≤ h49_.1 58 5 ∧ h49_.1 58 5 ≤ 1 := i49_.1 58 5
        have g7 : h49_.1 58 5 = h.1 58 5 := f49_.1 58 5 (by decide)
        exact mm_vret C T (mm_dec dk_X0_reach 30 rfl) (by decide : 0 ≤ 0) (by decide : 0 ≤ 0) ⟨rfl, ⟨i49_, f49_, by first | exact w49_0 | exact mm_rc8_no (by omega)⟩⟩
      have zt : h.2.1 125 (12 * p1 + p2) = h.2.1 125 ((p1 * 12) + p2) := by rw [show 12 * p1 + p2 = p1 * 12 + p2 by omega]
      refine mm_icmp_ge (tgt := 49) C (mm_dec dk_X0_reach 22 rfl) (by decide) (fun c35 => ?_) (fun c35 => ?_)
      · skip
        refine mm_fgt 0 ?_
        refine mm_fgt 1 ?_
        refine mm_fgt 2 ?_
        refine mm_fgt 3 ?_
        refine mm_fgt 4 ?_
        refine mm_fgt 5 ?_
        refine mm_fgt 6 ?_
        exact J49 h i0 f0 (by first | exact mm_rc8_y eh1 (by omega) (by omega) (by omega) (by omega) | exact mm_rc8_no (by omega))
      · skip
        refine mm_aload_n C (mm_dec dk_X0_reach 23 rfl) rfl ?_
        refine mm_getr (t := 125) C fl_X0_18 (mm_dec dk_X0_reach 24 rfl) rfl rfl (by omega) ?_
        refine mm_iload C (mm_dec dk_X0_reach 25 rfl) rfl ?_
        refine mm_iload_n C (mm_dec dk_X0_reach 26 rfl) rfl ?_
        refine mm_iload C (mm_dec dk_X0_reach 27 rfl) rfl ?_
        refine mm_iaddw C (mm_dec dk_X0_reach 28 rfl) ?_
        have g8 : -2147483648 ≤ (mm_w (p3 + p4)) ∧ (mm_w (p3 + p4)) < 2147483648 := mm_w_rg _
        refine mm_iast C (mm_dec dk_X0_reach 29 rfl) rfl (by omega) (by omega) ?_
        have i1 : mm_inv (mm_pa h 125 ((p1 * 12) + p2) (mm_w (p3 + p4))) := mm_inv_pa i0 (show -2147483648 ≤ (mm_w (p3 + p4)) ∧ (mm_w (p3 + p4)) ≤ 2147483647 from ⟨by omega, by omega⟩)
        have f1 : mm_fr [] [125] h (mm_pa h 125 ((p1 * 12) + p2) (mm_w (p3 + p4))) := mm_fr_pa f0 (by decide)
        obtain ⟨h1, eh1⟩ : ∃ z, z = mm_pa h 125 ((p1 * 12) + p2) (mm_w (p3 + p4)) := ⟨_, rfl⟩
        rw [← eh1] at i1 f1 ⊢
        have qh1_9 : h1.1 58 5 = h.1 58 5 := by rw [eh1]; rfl
        refine mm_fgt 0 ?_
        refine mm_fgt 1 ?_
        refine mm_fgt 2 ?_
        refine mm_fgt 3 ?_
        refine mm_fgt 4 ?_
        refine mm_fgt 5 ?_
        refine mm_fgt 6 ?_
        exact J49 h1 i1 f1 (by first | exact mm_rc8_y eh1 (by omega) (by omega) (by omega) (by omega) | exact mm_rc8_no (by omega))
    · skip
      refine mm_fgt 0 ?_
      refine mm_fgt 1 ?_
      refine mm_fgt 2 ?_
      refine mm_fgt 3 ?_
      refine mm_fgt 4 ?_
      refine mm_fgt 5 ?_
      exact J15 (by omega)
set_option maxRecDepth 100000 in
set_option maxHeartbeats 4000000 in
theorem c_X0_compare_q (l : Launch) (hl : l.stackTraces = false) (d : Nat) (hd : 1 ≤ d) (h : mH) (i0 : mm_inv h) (p1 : Int) (p2 : Int) : mm_Met l d yX0_compare cX0_compare 5 none [mR 58, mI p1, mI p2] h (mm_pv fun h2 => mm_inv h2 ∧ mm_fr [(58, 7), (58, 8), (58, 9)] [] h h2 ∧ mm_cp8 h h2 p1 p2) mm_nx 0 0 := by
  refine mm_ofW (ls := [mR 58, mI p1, mI p2, mU, mU]) hl (by decide) rfl (Nat.le_of_ble_eq_true rfl) ?_
  intro x hxl C T hnm htb
  subst hxl
  have C1 := mm_OK_le (d' := d - 1 + 1) (by omega) C
  refine mm_rng (fun hr _ => ?_)
  have ap1 : -2147483648 ≤ p1 ∧ p1 < 2147483648 := mm_ok_at hr (i := 1) rfl
  have ap2 : -2147483648 ≤ p2 ∧ p2 < 2147483648 := mm_ok_at hr (i := 2) rfl
  have f0 : mm_fr [(58, 7), (58, 8), (58, 9)] [] h h := mm_fr_rf
  have g1 : -2147483648 ≤ h.1 58 7 ∧ h.1 58 7 ≤ 2147483647 := i0.1 58 7
  have g2 : -2147483648 ≤ h.1 58 8 ∧ h.1 58 8 ≤ 2147483647 := i0.1 58 8
  have g3 : -2147483648 ≤ h.1 58 9 ∧ h.1 58 9 ≤ 2147483647 := i0.1 58 9
  have zn6 : 0 ≤ h.1 58 6 ∧ h.1 58 6 ≤ 12 := i0.1 58 6
  refine mm_iconst C (mm_dec dk_X0_compare 0 rfl) ⟨by decide, by decide⟩ ?_
  refine mm_istore_nL (ls2 := [mR 58, mI p1, mI p2, mI 0, mU]) C (mm_dec dk_X0_compare 1 rfl) (by decide) rfl ?_
  refine mm_iconst C (mm_dec dk_X0_compare 2 rfl) ⟨by decide, by decide⟩ ?_
  have J5 : ∀ (n : Nat) (x5_3 : Int) (bx5_3 : -2147483648 ≤ x5_3 ∧ x5_3 ≤ 2147483647) (x5_4 : Int) (bx5_4 : 0 ≤ x5_4 ∧ x5_4 ≤ 12) (w5_0 : x5_3 = mm_pt8 (fun j => h.2.1 16 (h.2.1 60 j)) p1 (x5_4).toNat) (w5_1 : x5_4 ≤ h.1 58 6), (12 - x5_4 : Int) < n → mm_W x 0 0 5 [mR 58, mI p1, mI p2, mI x5_3, mI x5_4] [] h := by
    intro n
    induction n with
    | zero =>
      intro x5_3 bx5_3 x5_4 bx5_4 w5_0 w5_1 hm
      have g4 : -2147483648 ≤ h.1 58 7 ∧ h.1 58 7 ≤ 2147483647 := i0.1 58 7
      have g5 : -2147483648 ≤ h.1 58 8 ∧ h.1 58 8 ≤ 2147483647 := i0.1 58 8
      have g6 : -2147483648 ≤ h.1 58 9 ∧ h.1 58 9 ≤ 2147483647 := i0.1 58 9
      exfalso; omega
    | succ n ih5 =>
      intro x5_3 bx5_3 x5_4 bx5_4 w5_0 w5_1 hm5
      have g7 : -2147483648 ≤ h.1 58 7 ∧ h.1 58 7 ≤ 2147483647 := i0.1 58 7
      have g8 : -2147483648 ≤ h.1 58 8 ∧ h.1 58 8 ≤ 2147483647 := i0.1 58 8
      have g9 : -2147483648 ≤ h.1 58 9 ∧ h.1 58 9 ≤ 2147483647 := i0.1 58 9
      refine mm_iload C (mm_dec dk_X0_compare 4 rfl) rfl ?_
      refine mm_aload_n C (mm_dec dk_X0_compare 5 rfl) rfl ?_
      refine mm_geti C fl_X0_21 (mm_dec dk_X0_compare 6 rfl) rfl rfl (Or.inl rfl) ?_
      have g10 : 0 ≤ (h.1 58 6) ∧ (h.1 58 6) ≤ 12 := i0.1 58 6
      refine mm_icmp_ge (tgt := 46) C (mm_dec dk_X0_compare 7 rfl) (by decide) (fun c11 => ?_) (fun c11 => ?_)
      · skip
        have zx : x5_3 = mm_px8 h p1 := (by unfold mm_px8; rw [show h.1 58 6 = x5_4 by omega]; exact w5_0)
        refine mm_iload_n C (mm_dec dk_X0_compare 26 rfl) rfl ?_
        refine mm_aload_n C (mm_dec dk_X0_compare 27 rfl) rfl ?_
        refine mm_geti C fl_X0_25 (mm_dec dk_X0_compare 28 rfl) rfl rfl (Or.inl rfl) ?_
        have J85 : ∀ (h85_ : mH) (i85_ : mm_inv h85_) (f85_ : mm_fr [(58, 7), (58, 8), (58, 9)] [] h h85_) (w85_0 : mm_cp8 h h85_ p1 p2), mm_W x 0 0 85 [mU, mU, mU, mU, mU] [] h85_ := by
          intro h85_ i85_ f85_ w85_0
          have g11 : -2147483648 ≤ h85_.1 58 7 ∧ h85_.1 58 7 ≤ 2147483647 := i85_.1 58 7
          have g12 : -2147483648 ≤ h85_.1 58 8 ∧ h85_.1 58 8 ≤ 2147483647 := i85_.1 58 8
          have g13 : -2147483648 ≤ h85_.1 58 9 ∧ h85_.1 58 9 ≤ 2147483647 := i85_.1 58 9
          exact mm_vret C T (mm_dec dk_X0_compare 47 rfl) (by decide : 0 ≤ 0) (by decide : 0 ≤ 0) ⟨rfl, ⟨i85_, f85_, by first | exact w85_0 | exact (by unfold mm_cp8; omega)⟩⟩
        have J70 : ∀ (w70_0 : (h.1 58 7 < x5_3 ∨ (h.1 58 7 = x5_3 ∧ p2 < h.1 58 8))), mm_W x 0 0 70 [mR 58, mI p1, mI p2, mI x5_3, mU] [] h := by
          intro w70_0
          have g14 : -2147483648 ≤ h.1 58 7 ∧ h.1 58 7 ≤ 2147483647 := i0.1 58 7
          have g15 : -2147483648 ≤ h.1 58 8 ∧ h.1 58 8 ≤ 2147483647 := i0.1 58 8
          have g16 : -2147483648 ≤ h.1 58 9 ∧ h.1 58 9 ≤ 2147483647 := i0.1 58 9
          refine mm_aload_n C (mm_dec dk_X0_compare 38 rfl) rfl ?_
          refine mm_iload_n C (mm_dec dk_X0_compare 39 rfl) rfl ?_
          refine mm_puti C fl_X0_31 (mm_dec dk_X0_compare 40 rfl) rfl rfl rfl (Or.inl ⟨rfl, rfl⟩) ?_
          have i1 : mm_inv (mm_pf h 58 9 p1) := mm_inv_pf i0 (show -2147483648 ≤ p1 ∧ p1 ≤ 2147483647 from ⟨by omega, by omega⟩) (by decide)
          have f1 : mm_fr [(58, 7), (58, 8), (58, 9)] [] h (mm_pf h 58 9 p1) := mm_fr_pf f0 (by decide)
          obtain ⟨h1, eh1⟩ : ∃ z, z = mm_pf h 58 9 p1 := ⟨_, rfl⟩
          rw [← eh1] at i1 f1 ⊢
          have qh1 : h1.1 58 9 = p1 := by rw [eh1]; exact mm_pf_same _ _ _ _
          have qh1_17 : h1.1 58 6 = h.1 58 6 := by rw [eh1]; exact mm_pf_ne _ _ (by decide)
          have qh1_18 : h1.1 58 7 = h.1 58 7 := by rw [eh1]; exact mm_pf_ne _ _ (by decide)
          have qh1_19 : h1.1 58 8 = h.1 58 8 := by rw [eh1]; exact mm_pf_ne _ _ (by decide)
          refine mm_aload_n C (mm_dec dk_X0_compare 41 rfl) rfl ?_
          refine mm_iload_n C (mm_dec dk_X0_compare 42 rfl) rfl ?_
          refine mm_puti C fl_X0_25 (mm_dec dk_X0_compare 43 rfl) rfl rfl rfl (Or.inl ⟨rfl, rfl⟩) ?_
          have i2 : mm_inv (mm_pf h1 58 7 x5_3) := mm_inv_pf i1 (show -2147483648 ≤ x5_3 ∧ x5_3 ≤ 2147483647 from ⟨by omega, by omega⟩) (by decide)
          have f2 : mm_fr [(58, 7), (58, 8), (58, 9)] [] h (mm_pf h1 58 7 x5_3) := mm_fr_pf f1 (by decide)
          obtain ⟨h2, eh2⟩ : ∃ z, z = mm_pf h1 58 7 x5_3 := ⟨_, rfl⟩
          rw [← eh2] at i2 f2 ⊢
          have qh2 : h2.1 58 7 = x5_3 := by rw [eh2]; exact mm_pf_same _ _ _ _
          have qh2_20 : h2.1 58 6 = h1.1 58 6 := by rw [eh2]; exact mm_pf_ne _ _ (by decide)
          have qh2_21 : h2.1 58 8 = h1.1 58 8 := by rw [eh2]; exact mm_pf_ne _ _ (by decide)
          have qh2_22 : h2.1 58 9 = h1.1 58 9 := by rw [eh2]; exact mm_pf_ne _ _ (by decide)
          refine mm_aload_n C (mm_dec dk_X0_compare 44 rfl) rfl ?_
          refine mm_iload_n C (mm_dec dk_X0_compare 45 rfl) rfl ?_
          refine mm_puti C fl_X0_28 (mm_dec dk_X0_compare 46 rfl) rfl rfl rfl (Or.inl ⟨rfl, rfl⟩) ?_
          have i3 : mm_inv (mm_pf h2 58 8 p2) := mm_inv_pf i2 (show -2147483648 ≤ p2 ∧ p2 ≤ 2147483647 from ⟨by omega, by omega⟩) (by decide)
          have f3 : mm_fr [(58, 7), (58, 8), (58, 9)] [] h (mm_pf h2 58 8 p2) := mm_fr_pf f2 (by decide)
          obtain ⟨h3, eh3⟩ : ∃ z, z = mm_pf h2 58 8 p2 := ⟨_, rfl⟩
          rw [← eh3] at i3 f3 ⊢
          have qh3 : h3.1 58 8 = p2 := by rw [eh3]; exact mm_pf_same _ _ _ _
          have qh3_23 : h3.1 58 6 = h2.1 58 6 := by rw [eh3]; exact mm_pf_ne _ _ (by decide)
          have qh3_24 : h3.1 58 7 = h2.1 58 7 := by rw [eh3]; exact mm_pf_ne _ _ (by decide)
          have qh3_25 : h3.1 58 9 = h2.1 58 9 := by rw [eh3]; exact mm_pf_ne _ _ (by decide)
          refine mm_fgt 0 ?_
          refine mm_fgt 1 ?_
          refine mm_fgt 2 ?_
          refine mm_fgt 3 ?_
          exact J85 h3 i3 f3 (by exact (by unfold mm_cp8; omega))
        refine mm_icmp_gt (tgt := 70) C (mm_dec dk_X0_compare 29 rfl) (by decide) (fun c51 => ?_) (fun c51 => ?_)
        · skip
          refine mm_fgt 4 ?_
          exact J70 (by omega)
        · skip
          refine mm_iload_n C (mm_dec dk_X0_compare 30 rfl) rfl ?_
          refine mm_aload_n C (mm_dec dk_X0_compare 31 rfl) rfl ?_
          refine mm_geti C fl_X0_25 (mm_dec dk_X0_compare 32 rfl) rfl rfl (Or.inl rfl) ?_
          refine mm_icmp_ne (tgt := 85) C (mm_dec dk_X0_compare 33 rfl) (by decide) (fun c59 => ?_) (fun c59 => ?_)
          · skip
            refine mm_fgt 0 ?_
            refine mm_fgt 1 ?_
            refine mm_fgt 2 ?_
            refine mm_fgt 3 ?_
            refine mm_fgt 4 ?_
            exact J85 h i0 f0 (by exact (by unfold mm_cp8; omega))
          · skip
            refine mm_iload_n C (mm_dec dk_X0_compare 34 rfl) rfl ?_
            refine mm_aload_n C (mm_dec dk_X0_compare 35 rfl) rfl ?_
            refine mm_geti C fl_X0_28 (mm_dec dk_X0_compare 36 rfl) rfl rfl (Or.inl rfl) ?_
            refine mm_icmp_ge (tgt := 85) C (mm_dec dk_X0_compare 37 rfl) (by decide) (fun c67 => ?_) (fun c67 => ?_)
            · skip
              refine mm_fgt 0 ?_
              refine mm_fgt 1 ?_
              refine mm_fgt 2 ?_
              refine mm_fgt 3 ?_
              refine mm_fgt 4 ?_
              exact J85 h i0 f0 (by exact (by unfold mm_cp8; omega))
            · skip
              refine mm_fgt 4 ?_
              exact J70 (by omega)
      · skip
        refine mm_iload_n C (mm_dec dk_X0_compare 8 rfl) rfl ?_
        refine mm_iload C (mm_dec dk_X0_compare 9 rfl) rfl ?_
        refine mm_ishr C (mm_dec dk_X0_compare 10 rfl) ?_
        have g26 : -2147483648 ≤ (mm_vishr p1 x5_4) ∧ (mm_vishr p1 x5_4) < 2147483648 := fb_rng _
        refine mm_iconst C (mm_dec dk_X0_compare 11 rfl) ⟨by decide, by decide⟩ ?_
        refine mm_iand C (mm_dec dk_X0_compare 12 rfl) ?_
        have g28 : 0 ≤ (mm_viand (mm_vishr p1 x5_4) 1) ∧ (mm_viand (mm_vishr p1 x5_4) 1) ≤ 1 := mm_and_rg2 (by omega) (by omega)
        have J40 : ∀ (x40_3 : Int) (bx40_3 : -2147483648 ≤ x40_3 ∧ x40_3 ≤ 2147483647) (w40_0 : x40_3 = mm_pt8 (fun j => h.2.1 16 (h.2.1 60 j)) p1 (x5_4 + 1).toNat), mm_W x 0 0 40 [mR 58, mI p1, mI p2, mI x40_3, mI x5_4] [] h := by
          intro x40_3 bx40_3 w40_0
          have g29 : -2147483648 ≤ h.1 58 7 ∧ h.1 58 7 ≤ 2147483647 := i0.1 58 7
          have g30 : -2147483648 ≤ h.1 58 8 ∧ h.1 58 8 ≤ 2147483647 := i0.1 58 8
          have g31 : -2147483648 ≤ h.1 58 9 ∧ h.1 58 9 ≤ 2147483647 := i0.1 58 9
          refine mm_iincL (ls2 := [mR 58, mI p1, mI p2, mI x40_3, mI (x5_4 + 1)]) C (mm_dec dk_X0_compare 24 rfl) rfl (by decide) ⟨by omega, by omega⟩ rfl ?_
          refine mm_goto (tgt := 5) C (mm_dec dk_X0_compare 25 rfl) (by decide) ?_
          exact ih5 x40_3 ⟨by omega, by omega⟩ (x5_4 + 1) ⟨by omega, by omega⟩ (by first | rfl | exact w40_0) (by omega) (by omega)
        refine mm_if_eq (tgt := 40) C (mm_dec dk_X0_compare 13 rfl) (by decide) (fun c20 => ?_) (fun c20 => ?_)
        · skip
          exact J40 x5_3 ⟨by omega, by omega⟩ (by first | exact (mm_pt8_s (by omega) w5_0).1 (by assumption) | exact (mm_pt8_s (by omega) w5_0).2 (by assumption))
        · skip
          refine mm_iload_n C (mm_dec dk_X0_compare 14 rfl) rfl ?_
          refine mm_aload_n C (mm_dec dk_X0_compare 15 rfl) rfl ?_
          refine mm_getr (t := 14) C fl_X0_46 (mm_dec dk_X0_compare 16 rfl) rfl rfl (mm_ref i0 rfl) ?_
          refine mm_aload_n C (mm_dec dk_X0_compare 17 rfl) rfl ?_
          refine mm_getr (t := 60) C fl_X0_15 (mm_dec dk_X0_compare 18 rfl) rfl rfl (mm_ref i0 rfl) ?_
          refine mm_iload C (mm_dec dk_X0_compare 19 rfl) rfl ?_
          refine mm_iald C (mm_dec dk_X0_compare 20 rfl) rfl (by omega) (by omega) ?_
          have g32 : 0 ≤ (h.2.1 60 x5_4) ∧ (h.2.1 60 x5_4) ≤ 19 := i0.2.1 60 x5_4
          refine mm_cVi (rest := [mI x5_3]) C1 ev_X0_105 (mm_dec dk_X0_compare 21 rfl) (c_X2_pointsOf x.2.1 hl (d - 1) (by omega) h i0 (h.2.1 60 x5_4) ⟨by omega, by omega⟩) rfl rfl (Nat.le_of_ble_eq_true rfl) ⟨by decide, by decide⟩ rfl (fun r35 h35c hp35 => ?_) (fun _ _ q => q.elim)
          obtain ⟨z35, y35⟩ := hp35
          rw [z35, y35]
          have g34 : 0 ≤ (h.2.1 16 (h.2.1 60 x5_4)) ∧ (h.2.1 16 (h.2.1 60 x5_4)) ≤ 99 := i0.2.1 16 (h.2.1 60 x5_4)
          refine mm_iaddw C (mm_dec dk_X0_compare 22 rfl) ?_
          have g35 : -2147483648 ≤ (mm_w (x5_3 + (h.2.1 16 (h.2.1 60 x5_4)))) ∧ (mm_w (x5_3 + (h.2.1 16 (h.2.1 60 x5_4)))) < 2147483648 := mm_w_rg _
          refine mm_istore_nL (ls2 := [mR 58, mI p1, mI p2, mI (mm_w (x5_3 + (h.2.1 16 (h.2.1 60 x5_4)))), mI x5_4]) C (mm_dec dk_X0_compare 23 rfl) (by decide) rfl ?_
          exact J40 (mm_w (x5_3 + (h.2.1 16 (h.2.1 60 x5_4)))) ⟨by omega, by omega⟩ (by first | exact (mm_pt8_s (by omega) w5_0).1 (by assumption) | exact (mm_pt8_s (by omega) w5_0).2 (by assumption))
  refine mm_istoreL (ls2 := [mR 58, mI p1, mI p2, mI 0, mI 0]) C (mm_dec dk_X0_compare 3 rfl) (by decide) rfl ?_
  exact J5 (((12 - 0) : Int) + 1).toNat 0 ⟨by omega, by omega⟩ 0 ⟨by omega, by omega⟩ (by first | rfl | exact w40_0) (by omega) (by omega)
set_option maxRecDepth 100000 in
set_option maxHeartbeats 4000000 in
theorem c_X0_closeAndExtend_q (l : Launch) (hl : l.stackTraces = false) (d : Nat) (hd : 1 ≤ d) (h : mH) (i0 : mm_inv h) (p1 : Int) (p2 : Int) (bp1 : 1 ≤ p1 ∧ p1 ≤ 4095) (t0 : h.1 58 5 = 1) : mm_Met l d yX0_closeAndExtend cX0_closeAndExtend 8 (some .int) [mR 58, mI p1, mI p2] h (mm_pi fun r h2 => (-2147483648 ≤ r ∧ r ≤ 2000000000) ∧ mm_inv h2 ∧ mm_fr [] [125] h h2 ∧ (∀ R, mm_HR8 h R → p1 < mm_p2 (h.1 58 6) → mm_TI h R (h.1 58 6) p2 p1 → mm_TI h2 R (h.1 58 6) p2 (p1 + 1) ∧ mm_FW p2 r (mm_al8 h R p1))) mm_nx 0 0 := by
  refine mm_ofW (ls := [mR 58, mI p1, mI p2, mU, mU, mU, mU, mU]) hl (by decide) rfl (Nat.le_of_ble_eq_true rfl) ?_
  intro x hxl C T hnm htb
  subst hxl
  have C1 := mm_OK_le (d' := d - 1 + 1) (by omega) C
  refine mm_rng (fun hr _ => ?_)
  have ap1 : -2147483648 ≤ p1 ∧ p1 < 2147483648 := mm_ok_at hr (i := 1) rfl
  have ap2 : -2147483648 ≤ p2 ∧ p2 < 2147483648 := mm_ok_at hr (i := 2) rfl
  have f0 : mm_fr [] [125] h h := mm_fr_rf
  have g1 : 0 ≤ h.1 58 5 ∧ h.1 58 5 ≤ 1 := i0.1 58 5
  have zn6 : 0 ≤ h.1 58 6 ∧ h.1 58 6 ≤ 12 := i0.1 58 6
  refine mm_ldc (z := 2000000000) C (mm_dec dk_X0_closeAndExtend 0 rfl) kc_X0_88 (by decide) ?_
  refine mm_istore_nL (ls2 := [mR 58, mI p1, mI p2, mI 2000000000, mU, mU, mU, mU]) C (mm_dec dk_X0_closeAndExtend 1 rfl) (by decide) rfl ?_
  refine mm_iconst C (mm_dec dk_X0_closeAndExtend 2 rfl) ⟨by decide, by decide⟩ ?_
  have J6 : ∀ (n : Nat) (x6_3 : Int) (bx6_3 : -2147483648 ≤ x6_3 ∧ x6_3 ≤ 2000000000) (x6_4 : Int) (bx6_4 : 0 ≤ x6_4 ∧ x6_4 ≤ 12) (h6_ : mH) (i6_ : mm_inv h6_) (f6_ : mm_fr [] [125] h h6_) (w6_0 : (∀ R, mm_HR8 h R → p1 < mm_p2 (h.1 58 6) → mm_TI h R (h.1 58 6) p2 p1 → mm_TJ h6_ R (mm_lg8 h) (h.1 58 6) p2 p1 x6_4 0)) (w6_1 : (∀ R, mm_HR8 h R → p1 < mm_p2 (h.1 58 6) → mm_TI h R (h.1 58 6) p2 p1 → mm_FW p2 x6_3 (mm_cm8 R (fun a => mm_lg8 h a 12) p1 (x6_4).toNat))) (w6_2 : x6_4 ≤ h.1 58 6), (12 - x6_4 : Int) < n → mm_W x 0 0 6 [mR 58, mI p1, mI p2, mI x6_3, mI x6_4, mU, mU, mU] [] h6_ := by
    intro n
    induction n with
    | zero =>
      intro x6_3 bx6_3 x6_4 bx6_4 h6_ i6_ f6_ w6_0 w6_1 w6_2 hm
      have g2 : 0 ≤ h6_.1 58 5 ∧ h6_.1 58 5 ≤ 1 := i6_.1 58 5
      exfalso; omega
    | succ n ih6 =>
      intro x6_3 bx6_3 x6_4 bx6_4 h6_ i6_ f6_ w6_0 w6_1 w6_2 hm6
      have g3 : 0 ≤ h6_.1 58 5 ∧ h6_.1 58 5 ≤ 1 := i6_.1 58 5
      have g4 : h6_.1 58 5 = h.1 58 5 := f6_.1 58 5 (by decide)
      have ze6 : h6_.1 58 6 = h.1 58 6 := f6_.1 58 6 (by decide)
      have zt : h6_.2.1 125 (12 * p1 + x6_4) = h6_.2.1 125 ((p1 * 12) + x6_4) := by rw [show 12 * p1 + x6_4 = p1 * 12 + x6_4 by omega]
      have zh : h6_.2.1 59 ((x6_4 * 13) + 12) = mm_lg8 h x6_4 12 := (f6_.2 59 (by decide) _).trans (by unfold mm_lg8; rw [show x6_4 * 13 + 12 = 13 * x6_4 + 12 by omega])
      refine mm_iload C (mm_dec dk_X0_closeAndExtend 4 rfl) rfl ?_
      refine mm_aload_n C (mm_dec dk_X0_closeAndExtend 5 rfl) rfl ?_
      refine mm_geti C fl_X0_21 (mm_dec dk_X0_closeAndExtend 6 rfl) rfl rfl (Or.inl rfl) ?_
      have g5 : 0 ≤ (h6_.1 58 6) ∧ (h6_.1 58 6) ≤ 12 := i6_.1 58 6
      refine mm_icmp_ge (tgt := 131) C (mm_dec dk_X0_closeAndExtend 7 rfl) (by decide) (fun c12 => ?_) (fun c12 => ?_)
      · skip
        refine mm_iload_n C (mm_dec dk_X0_closeAndExtend 73 rfl) rfl ?_
        exact mm_iret C T (mm_dec dk_X0_closeAndExtend 74 rfl) (by decide : 0 ≤ 0) (by decide : 0 ≤ 0) ⟨_, rfl, ⟨⟨by omega, by omega⟩, i6_, f6_, by exact fun R H l T => ⟨mm_TJ_e (w6_0 R H l T) (by omega) H.2 (by omega), (by have z9 := w6_1 R H l T; rw [show x6_4 = h.1 58 6 by omega] at z9; exact z9)⟩⟩⟩
      · skip
        refine mm_aload_n C (mm_dec dk_X0_closeAndExtend 8 rfl) rfl ?_
        refine mm_getr (t := 125) C fl_X0_18 (mm_dec dk_X0_closeAndExtend 9 rfl) rfl rfl (by omega) ?_
        refine mm_iload_n C (mm_dec dk_X0_closeAndExtend 10 rfl) rfl ?_
        refine mm_bipush C (mm_dec dk_X0_closeAndExtend 11 rfl) ⟨by decide, by decide⟩ ?_
        refine mm_imul C (mm_dec dk_X0_closeAndExtend 12 rfl) ⟨by omega, by omega⟩ ?_
        refine mm_iload C (mm_dec dk_X0_closeAndExtend 13 rfl) rfl ?_
        refine mm_iadd C (mm_dec dk_X0_closeAndExtend 14 rfl) ⟨by omega, by omega⟩ ?_
        refine mm_iald C (mm_dec dk_X0_closeAndExtend 15 rfl) rfl (by omega) (by omega) ?_
        have g6 : -2147483648 ≤ (h6_.2.1 125 ((p1 * 12) + x6_4)) ∧ (h6_.2.1 125 ((p1 * 12) + x6_4)) ≤ 2147483647 := i6_.2.1 125 ((p1 * 12) + x6_4)
        refine mm_istoreL (ls2 := [mR 58, mI p1, mI p2, mI x6_3, mI x6_4, mI (h6_.2.1 125 ((p1 * 12) + x6_4)), mU, mU]) C (mm_dec dk_X0_closeAndExtend 16 rfl) (by decide) rfl ?_
        refine mm_iload C (mm_dec dk_X0_closeAndExtend 17 rfl) rfl ?_
        refine mm_ldc (z := 2000000000) C (mm_dec dk_X0_closeAndExtend 18 rfl) kc_X0_88 (by decide) ?_
        have J125 : ∀ (x125_3 : Int) (bx125_3 : -2147483648 ≤ x125_3 ∧ x125_3 ≤ 2000000000) (h125_ : mH) (i125_ : mm_inv h125_) (f125_ : mm_fr [] [125] h h125_) (w125_0 : (∀ R, mm_HR8 h R → p1 < mm_p2 (h.1 58 6) → mm_TI h R (h.1 58 6) p2 p1 → mm_TJ h125_ R (mm_lg8 h) (h.1 58 6) p2 p1 (x6_4 + 1) 0)) (w125_1 : (∀ R, mm_HR8 h R → p1 < mm_p2 (h.1 58 6) → mm_TI h R (h.1 58 6) p2 p1 → mm_FW p2 x125_3 (mm_cm8 R (fun a => mm_lg8 h a 12) p1 (x6_4 + 1).toNat))), mm_W x 0 0 125 [mR 58, mI p1, mI p2, mI x125_3, mI x6_4, mU, mU, mU] [] h125_ := by
          intro x125_3 bx125_3 h125_ i125_ f125_ w125_0 w125_1
          have g7 : 0 ≤ h125_.1 58 5 ∧ h125_.1 58 5 ≤ 1 := i125_.1 58 5
          have g8 : h125_.1 58 5 = h.1 58 5 := f125_.1 58 5 (by decide)
          refine mm_iincL (ls2 := [mR 58, mI p1, mI p2, mI x125_3, mI (x6_4 + 1), mU, mU, mU]) C (mm_dec dk_X0_closeAndExtend 71 rfl) rfl (by decide) ⟨by omega, by omega⟩ rfl ?_
          refine mm_goto (tgt := 6) C (mm_dec dk_X0_closeAndExtend 72 rfl) (by decide) ?_
          exact ih6 x125_3 ⟨by omega, by omega⟩ (x6_4 + 1) ⟨by omega, by omega⟩ h125_ i125_ f125_ (by first | exact w125_0 | exact fun R H l T => mm_TJ_0 T) (by first | exact w125_1 | exact fun R H l T => mm_FW_0) (by omega) (by omega)
        refine mm_icmp_ne (tgt := 39) C (mm_dec dk_X0_closeAndExtend 19 rfl) (by decide) (fun c33 => ?_) (fun c33 => ?_)
        · skip
          refine mm_aload_n C (mm_dec dk_X0_closeAndExtend 21 rfl) rfl ?_
          refine mm_getr (t := 59) C fl_X0_11 (mm_dec dk_X0_closeAndExtend 22 rfl) rfl rfl (mm_ref i6_ rfl) ?_
          refine mm_iload C (mm_dec dk_X0_closeAndExtend 23 rfl) rfl ?_
          refine mm_bipush C (mm_dec dk_X0_closeAndExtend 24 rfl) ⟨by decide, by decide⟩ ?_
          refine mm_imul C (mm_dec dk_X0_closeAndExtend 25 rfl) ⟨by omega, by omega⟩ ?_
          refine mm_bipush C (mm_dec dk_X0_closeAndExtend 26 rfl) ⟨by decide, by decide⟩ ?_
          refine mm_iadd C (mm_dec dk_X0_closeAndExtend 27 rfl) ⟨by omega, by omega⟩ ?_
          refine mm_iald C (mm_dec dk_X0_closeAndExtend 28 rfl) rfl (by omega) (by omega) ?_
          have g9 : -2147483648 ≤ (h6_.2.1 59 ((x6_4 * 13) + 12)) ∧ (h6_.2.1 59 ((x6_4 * 13) + 12)) ≤ 2147483647 := i6_.2.1 59 ((x6_4 * 13) + 12)
          refine mm_istoreL (ls2 := [mR 58, mI p1, mI p2, mI x6_3, mI x6_4, mI (h6_.2.1 125 ((p1 * 12) + x6_4)), mI (h6_.2.1 59 ((x6_4 * 13) + 12)), mU]) C (mm_dec dk_X0_closeAndExtend 29 rfl) (by decide) rfl ?_
          refine mm_iload C (mm_dec dk_X0_closeAndExtend 30 rfl) rfl ?_
          refine mm_iconst C (mm_dec dk_X0_closeAndExtend 31 rfl) ⟨by decide, by decide⟩ ?_
          have J70 : ∀ (x70_3 : Int) (bx70_3 : -2147483648 ≤ x70_3 ∧ x70_3 ≤ 2000000000) (w70_0 : (∀ R, mm_HR8 h R → p1 < mm_p2 (h.1 58 6) → mm_TI h R (h.1 58 6) p2 p1 → mm_FW p2 x70_3 (mm_cm8 R (fun a => mm_lg8 h a 12) p1 (x6_4 + 1).toNat))), mm_W x 0 0 70 [mR 58, mI p1, mI p2, mI x70_3, mI x6_4, mI (h6_.2.1 125 ((p1 * 12) + x6_4)), mU, mU] [] h6_ := by
            intro x70_3 bx70_3 w70_0
            have g10 : 0 ≤ h6_.1 58 5 ∧ h6_.1 58 5 ≤ 1 := i6_.1 58 5
            refine mm_iconst C (mm_dec dk_X0_closeAndExtend 39 rfl) ⟨by decide, by decide⟩ ?_
            have J73 : ∀ (n : Nat) (x73_7 : Int) (bx73_7 : 0 ≤ x73_7 ∧ x73_7 ≤ 12) (h73_ : mH) (i73_ : mm_inv h73_) (f73_ : mm_fr [] [125] h h73_) (w73_0 : (∀ R, mm_HR8 h R → p1 < mm_p2 (h.1 58 6) → mm_TI h R (h.1 58 6) p2 p1 → mm_TJ h73_ R (mm_lg8 h) (h.1 58 6) p2 p1 x6_4 x73_7)) (w73_1 : x73_7 ≤ h.1 58 6), (12 - x73_7 : Int) < n → mm_W x 0 0 73 [mR 58, mI p1, mI p2, mI x70_3, mI x6_4, mI (h6_.2.1 125 ((p1 * 12) + x6_4)), mU, mI x73_7] [] h73_ := by
              intro n
              induction n with
              | zero =>
                intro x73_7 bx73_7 h73_ i73_ f73_ w73_0 w73_1 hm
                have g11 : 0 ≤ h73_.1 58 5 ∧ h73_.1 58 5 ≤ 1 := i73_.1 58 5
                exfalso; omega
              | succ n ih73 =>
                intro x73_7 bx73_7 h73_ i73_ f73_ w73_0 w73_1 hm73
                have g12 : 0 ≤ h73_.1 58 5 ∧ h73_.1 58 5 ≤ 1 := i73_.1 58 5
                have g13 : h73_.1 58 5 = h.1 58 5 := f73_.1 58 5 (by decide)
                have ze7 : h73_.1 58 6 = h.1 58 6 := f73_.1 58 6 (by decide)
                have zg : h73_.2.1 59 ((x6_4 * 13) + x73_7) = mm_lg8 h x6_4 x73_7 := (f73_.2 59 (by decide) _).trans (by unfold mm_lg8; rw [show x6_4 * 13 + x73_7 = 13 * x6_4 + x73_7 by omega])
                refine mm_iload C (mm_dec dk_X0_closeAndExtend 41 rfl) rfl ?_
                refine mm_aload_n C (mm_dec dk_X0_closeAndExtend 42 rfl) rfl ?_
                refine mm_geti C fl_X0_21 (mm_dec dk_X0_closeAndExtend 43 rfl) rfl rfl (Or.inl rfl) ?_
                have g14 : 0 ≤ (h73_.1 58 6) ∧ (h73_.1 58 6) ≤ 12 := i73_.1 58 6
                refine mm_icmp_ge (tgt := 125) C (mm_dec dk_X0_closeAndExtend 44 rfl) (by decide) (fun c79 => ?_) (fun c79 => ?_)
                · skip
                  refine mm_fgt 5 ?_
                  refine mm_fgt 7 ?_
                  exact J125 x70_3 ⟨by omega, by omega⟩ h73_ i73_ f73_ (by first | exact fun R H l T => mm_TJ_skip zn6 H.2 H.1 (w6_0 R H l T) (by omega) l (by omega) (by omega) (by omega) | exact fun R H l T => mm_TJ_n (w73_0 R H l T) (by omega)) (by first | exact fun R H l T => mm_FW_skip zn6 H.2 H.1 (w6_0 R H l T) (by omega) l (by omega) (by omega) (w6_1 R H l T) (by omega) | exact w70_0)
                · skip
                  refine mm_iload_n C (mm_dec dk_X0_closeAndExtend 45 rfl) rfl ?_
                  refine mm_iload C (mm_dec dk_X0_closeAndExtend 46 rfl) rfl ?_
                  refine mm_ishr C (mm_dec dk_X0_closeAndExtend 47 rfl) ?_
                  have g15 : -2147483648 ≤ (mm_vishr p1 x73_7) ∧ (mm_vishr p1 x73_7) < 2147483648 := fb_rng _
                  refine mm_iconst C (mm_dec dk_X0_closeAndExtend 48 rfl) ⟨by decide, by decide⟩ ?_
                  refine mm_iand C (mm_dec dk_X0_closeAndExtend 49 rfl) ?_
                  have g17 : 0 ≤ (mm_viand (mm_vishr p1 x73_7) 1) ∧ (mm_viand (mm_vishr p1 x73_7) 1) ≤ 1 := mm_and_rg2 (by omega) (by omega)
                  have J119 : ∀ (h119_ : mH) (i119_ : mm_inv h119_) (f119_ : mm_fr [] [125] h h119_) (w119_0 : (∀ R, mm_HR8 h R → p1 < mm_p2 (h.1 58 6) → mm_TI h R (h.1 58 6) p2 p1 → mm_TJ h119_ R (mm_lg8 h) (h.1 58 6) p2 p1 x6_4 (x73_7 + 1))), mm_W x 0 0 119 [mR 58, mI p1, mI p2, mI x70_3, mI x6_4, mI (h6_.2.1 125 ((p1 * 12) + x6_4)), mU, mI x73_7] [] h119_ := by
                    intro h119_ i119_ f119_ w119_0
                    have g18 : 0 ≤ h119_.1 58 5 ∧ h119_.1 58 5 ≤ 1 := i119_.1 58 5
                    have g19 : h119_.1 58 5 = h.1 58 5 := f119_.1 58 5 (by decide)
                    refine mm_iincL (ls2 := [mR 58, mI p1, mI p2, mI x70_3, mI x6_4, mI (h6_.2.1 125 ((p1 * 12) + x6_4)), mU, mI (x73_7 + 1)]) C (mm_dec dk_X0_closeAndExtend 69 rfl) rfl (by decide) ⟨by omega, by omega⟩ rfl ?_
                    refine mm_goto (tgt := 73) C (mm_dec dk_X0_closeAndExtend 70 rfl) (by decide) ?_
                    exact ih73 (x73_7 + 1) ⟨by omega, by omega⟩ h119_ i119_ f119_ (by first | exact fun R H l T => w119_0 R H l T | exact w6_0) (by omega) (by omega)
                  refine mm_if_ne (tgt := 119) C (mm_dec dk_X0_closeAndExtend 50 rfl) (by decide) (fun c88 => ?_) (fun c88 => ?_)
                  · skip
                    exact J119 h73_ i73_ f73_ (by first | exact fun R H l T => mm_TJ_no zn6 (w73_0 R H l T) (by omega) (by omega) (by omega) (by assumption) | exact fun R H l T => mm_TJ_s zn6 H.2 H.1 (w73_0 R H l T) (by omega) l (by omega) (by omega) (by omega) (by omega) zb ((mm_TJ_v zn6 (w6_0 R H l T) (by omega) l (by omega) (by omega)).resolve_right (fun z => by have z1 := z.2; omega)).1 (zt.symm.trans ((mm_TJ_v zn6 (w6_0 R H l T) (by omega) l (by omega) (by omega)).resolve_right (fun z => by have z1 := z.2; omega)).2) (by omega) (mm_rc8_cg y116_0 ((mm_bits ⟨by omega, by omega⟩ ⟨by omega, by omega⟩).2.1 zb) rfl zg))
                  · skip
                    have zb : mm_bq p1 x73_7 = 0 := (by assumption)
                    refine mm_aload_n C (mm_dec dk_X0_closeAndExtend 51 rfl) rfl ?_
                    refine mm_iload_n C (mm_dec dk_X0_closeAndExtend 52 rfl) rfl ?_
                    refine mm_iconst C (mm_dec dk_X0_closeAndExtend 53 rfl) ⟨by decide, by decide⟩ ?_
                    refine mm_iload C (mm_dec dk_X0_closeAndExtend 54 rfl) rfl ?_
                    refine mm_ishl C (mm_dec dk_X0_closeAndExtend 55 rfl) ?_
                    have g20 : 1 ≤ (mm_vishl 1 x73_7) ∧ (mm_vishl 1 x73_7) ≤ 2048 := mm_shl1b ⟨by omega, by omega⟩
                    refine mm_ior C (mm_dec dk_X0_closeAndExtend 56 rfl) ?_
                    have g21 : 0 ≤ (mm_vior p1 (mm_vishl 1 x73_7)) ∧ (mm_vior p1 (mm_vishl 1 x73_7)) < 2 ^ 12 := mm_or_rg 12 (by decide) ⟨by omega, by omega⟩ ⟨by omega, by omega⟩
                    refine mm_iload C (mm_dec dk_X0_closeAndExtend 57 rfl) rfl ?_
                    refine mm_iload C (mm_dec dk_X0_closeAndExtend 58 rfl) rfl ?_
                    refine mm_aload_n C (mm_dec dk_X0_closeAndExtend 59 rfl) rfl ?_
                    refine mm_getr (t := 59) C fl_X0_11 (mm_dec dk_X0_closeAndExtend 60 rfl) rfl rfl (mm_ref i73_ rfl) ?_
                    refine mm_iload C (mm_dec dk_X0_closeAndExtend 61 rfl) rfl ?_
                    refine mm_bipush C (mm_dec dk_X0_closeAndExtend 62 rfl) ⟨by decide, by decide⟩ ?_
                    refine mm_imul C (mm_dec dk_X0_closeAndExtend 63 rfl) ⟨by omega, by omega⟩ ?_
                    refine mm_iload C (mm_dec dk_X0_closeAndExtend 64 rfl) rfl ?_
                    refine mm_iadd C (mm_dec dk_X0_closeAndExtend 65 rfl) ⟨by omega, by omega⟩ ?_
                    refine mm_iald C (mm_dec dk_X0_closeAndExtend 66 rfl) rfl (by omega) (by omega) ?_
                    have g22 : -2147483648 ≤ (h73_.2.1 59 ((x6_4 * 13) + x73_7)) ∧ (h73_.2.1 59 ((x6_4 * 13) + x73_7)) ≤ 2147483647 := i73_.2.1 59 ((x6_4 * 13) + x73_7)
                    refine mm_iload_n C (mm_dec dk_X0_closeAndExtend 67 rfl) rfl ?_
                    refine mm_cVv (rest := []) C1 ev_X0_89 (mm_dec dk_X0_closeAndExtend 68 rfl) (c_X0_reach_q x.2.1 hl (d - 1) (by omega) h73_ i73_ (mm_vior p1 (mm_vishl 1 x73_7)) x73_7 (h6_.2.1 125 ((p1 * 12) + x6_4)) (h73_.2.1 59 ((x6_4 * 13) + x73_7)) p2 ⟨by omega, by omega⟩ ⟨by omega, by omega⟩ (by omega)) rfl rfl (Nat.le_of_ble_eq_true rfl) ⟨by decide, by decide⟩ rfl (fun h116c hp116 => ?_) (fun _ _ q => q.elim)
                    obtain ⟨i116c, g116c, y116_0⟩ := hp116
                    have f116c : mm_fr [] [125] h h116c := mm_fr_tr f73_ g116c (by decide +kernel)
                    have q116c_24 : h116c.1 58 5 = h73_.1 58 5 := g116c.1 58 5 (by decide)
                    have q116c_25 : h116c.1 58 6 = h73_.1 58 6 := g116c.1 58 6 (by decide)
                    exact J119 h116c i116c f116c (by first | exact fun R H l T => mm_TJ_no zn6 (w73_0 R H l T) (by omega) (by omega) (by omega) (by assumption) | exact fun R H l T => mm_TJ_s zn6 H.2 H.1 (w73_0 R H l T) (by omega) l (by omega) (by omega) (by omega) (by omega) zb ((mm_TJ_v zn6 (w6_0 R H l T) (by omega) l (by omega) (by omega)).resolve_right (fun z => by have z1 := z.2; omega)).1 (zt.symm.trans ((mm_TJ_v zn6 (w6_0 R H l T) (by omega) l (by omega) (by omega)).resolve_right (fun z => by have z1 := z.2; omega)).2) (by omega) (mm_rc8_cg y116_0 ((mm_bits ⟨by omega, by omega⟩ ⟨by omega, by omega⟩).2.1 zb) rfl zg))
            refine mm_istoreL (ls2 := [mR 58, mI p1, mI p2, mI x70_3, mI x6_4, mI (h6_.2.1 125 ((p1 * 12) + x6_4)), mU, mI 0]) C (mm_dec dk_X0_closeAndExtend 40 rfl) (by decide) rfl ?_
            exact J73 (((12 - 0) : Int) + 1).toNat 0 ⟨by omega, by omega⟩ h6_ i6_ f6_ (by first | exact fun R H l T => w119_0 R H l T | exact w6_0) (by omega) (by omega)
          refine mm_icmp_eq (tgt := 70) C (mm_dec dk_X0_closeAndExtend 32 rfl) (by decide) (fun c57 => ?_) (fun c57 => ?_)
          · skip
            refine mm_fgt 6 ?_
            exact J70 x6_3 ⟨by omega, by omega⟩ (by first | exact fun R H l T => mm_FW_s zn6 H.2 H.1 (w6_0 R H l T) (by omega) l (by omega) (by omega) (w6_1 R H l T) (by omega) (show (h6_.2.1 125 ((p1 * 12) + x6_4)) = _ from zt.symm) (by omega) (Or.inl ⟨by omega, rfl⟩) | exact fun R H l T => mm_FW_s zn6 H.2 H.1 (w6_0 R H l T) (by omega) l (by omega) (by omega) (w6_1 R H l T) (by omega) (show (h6_.2.1 125 ((p1 * 12) + x6_4)) = _ from zt.symm) (by omega) (Or.inr ⟨by omega, by rw [← zh]; split <;> omega⟩))
          · skip
            refine mm_iload_n C (mm_dec dk_X0_closeAndExtend 33 rfl) rfl ?_
            refine mm_iload C (mm_dec dk_X0_closeAndExtend 34 rfl) rfl ?_
            refine mm_iload C (mm_dec dk_X0_closeAndExtend 35 rfl) rfl ?_
            refine mm_iaddw C (mm_dec dk_X0_closeAndExtend 36 rfl) ?_
            have g26 : -2147483648 ≤ (mm_w ((h6_.2.1 125 ((p1 * 12) + x6_4)) + (h6_.2.1 59 ((x6_4 * 13) + 12)))) ∧ (mm_w ((h6_.2.1 125 ((p1 * 12) + x6_4)) + (h6_.2.1 59 ((x6_4 * 13) + 12)))) < 2147483648 := mm_w_rg _
            refine mm_mmin C1 ml_X0_100 sm_J9_min_7cf53 mw_J9_min_7cf53.2.1 mw_J9_min_7cf53.1 (mm_dec dk_X0_closeAndExtend 37 rfl) (Nat.le_of_ble_eq_true rfl) ⟨by decide, by decide⟩ (fun r66 hr66 => ?_)
            refine mm_istore_nL (ls2 := [mR 58, mI p1, mI p2, mI r66, mI x6_4, mI (h6_.2.1 125 ((p1 * 12) + x6_4)), mI (h6_.2.1 59 ((x6_4 * 13) + 12)), mU]) C (mm_dec dk_X0_closeAndExtend 38 rfl) (by decide) rfl ?_
            refine mm_fgt 6 ?_
            exact J70 r66 ⟨by omega, by omega⟩ (by first | exact fun R H l T => mm_FW_s zn6 H.2 H.1 (w6_0 R H l T) (by omega) l (by omega) (by omega) (w6_1 R H l T) (by omega) (show (h6_.2.1 125 ((p1 * 12) + x6_4)) = _ from zt.symm) (by omega) (Or.inl ⟨by omega, rfl⟩) | exact fun R H l T => mm_FW_s zn6 H.2 H.1 (w6_0 R H l T) (by omega) l (by omega) (by omega) (w6_1 R H l T) (by omega) (show (h6_.2.1 125 ((p1 * 12) + x6_4)) = _ from zt.symm) (by omega) (Or.inr ⟨by omega, by rw [← zh]; split <;> omega⟩))
        · skip
          refine mm_goto (tgt := 125) C (mm_dec dk_X0_closeAndExtend 20 rfl) (by decide) ?_
          refine mm_fgt 5 ?_
          exact J125 x6_3 ⟨by omega, by omega⟩ h6_ i6_ f6_ (by first | exact fun R H l T => mm_TJ_skip zn6 H.2 H.1 (w6_0 R H l T) (by omega) l (by omega) (by omega) (by omega) | exact fun R H l T => mm_TJ_n (w73_0 R H l T) (by omega)) (by first | exact fun R H l T => mm_FW_skip zn6 H.2 H.1 (w6_0 R H l T) (by omega) l (by omega) (by omega) (w6_1 R H l T) (by omega) | exact w70_0)
  refine mm_istoreL (ls2 := [mR 58, mI p1, mI p2, mI 2000000000, mI 0, mU, mU, mU]) C (mm_dec dk_X0_closeAndExtend 3 rfl) (by decide) rfl ?_
  exact J6 (((12 - 0) : Int) + 1).toNat 2000000000 ⟨by omega, by omega⟩ 0 ⟨by omega, by omega⟩ h i0 f0 (by first | exact w125_0 | exact fun R H l T => mm_TJ_0 T) (by first | exact w125_1 | exact fun R H l T => mm_FW_0) (by omega) (by omega)
set_option maxRecDepth 100000 in
set_option maxHeartbeats 4000000 in
theorem c_X0_goThroughSets_tq (l : Launch) (hl : l.stackTraces = false) (d : Nat) (hd : 2 ≤ d) (h : mH) (i0 : mm_inv h) (p1 : Int) (t0 : h.1 58 5 = 1) : mm_Met l d yX0_goThroughSets cX0_goThroughSets 5 none [mR 58, mI p1] h (mm_pv fun h2 => mm_inv h2 ∧ mm_fr [(58, 7), (58, 8), (58, 9)] [125] h h2 ∧ (∀ R, mm_HR8 h R → mm_BS h h2 R p1 (h.1 58 7, h.1 58 9, h.1 58 8) (mm_p2 (h.1 58 6) - 1)) ∧ h2.1 58 5 = 1) mm_nx 0 0 := by
  refine mm_ofW (ls := [mR 58, mI p1, mU, mU, mU]) hl (by decide) rfl (Nat.le_of_ble_eq_true rfl) ?_
  intro x hxl C T hnm htb
  subst hxl
  have C1 := mm_OK_le (d' := d - 1 + 1) (by omega) C
  refine mm_rng (fun hr _ => ?_)
  have ap1 : -2147483648 ≤ p1 ∧ p1 < 2147483648 := mm_ok_at hr (i := 1) rfl
  have f0 : mm_fr [(58, 7), (58, 8), (58, 9)] [125] h h := mm_fr_rf
  have g1 : 0 ≤ h.1 58 5 ∧ h.1 58 5 ≤ 1 := i0.1 58 5
  have g2 : -2147483648 ≤ h.1 58 7 ∧ h.1 58 7 ≤ 2147483647 := i0.1 58 7
  have g3 : -2147483648 ≤ h.1 58 8 ∧ h.1 58 8 ≤ 2147483647 := i0.1 58 8
  have g4 : -2147483648 ≤ h.1 58 9 ∧ h.1 58 9 ≤ 2147483647 := i0.1 58 9
  have zn6 : 0 ≤ h.1 58 6 ∧ h.1 58 6 ≤ 12 := i0.1 58 6
  have zp : mm_p2 (h.1 58 6) = mm_vishl 1 (h.1 58 6) := rfl
  have zN := mm_p2_n zn6
  refine mm_iconst C (mm_dec dk_X0_goThroughSets 0 rfl) ⟨by decide, by decide⟩ ?_
  refine mm_aload_n C (mm_dec dk_X0_goThroughSets 1 rfl) rfl ?_
  refine mm_geti C fl_X0_21 (mm_dec dk_X0_goThroughSets 2 rfl) rfl rfl (Or.inl rfl) ?_
  have g5 : 0 ≤ (h.1 58 6) ∧ (h.1 58 6) ≤ 12 := i0.1 58 6
  refine mm_ishl C (mm_dec dk_X0_goThroughSets 3 rfl) ?_
  have g6 : 1 ≤ (mm_vishl 1 (h.1 58 6)) ∧ (mm_vishl 1 (h.1 58 6)) ≤ 4096 := mm_shl1 ⟨by omega, by omega⟩
  refine mm_istore_nL (ls2 := [mR 58, mI p1, mI (mm_vishl 1 (h.1 58 6)), mU, mU]) C (mm_dec dk_X0_goThroughSets 4 rfl) (by decide) rfl ?_
  refine mm_aload_n C (mm_dec dk_X0_goThroughSets 5 rfl) rfl ?_
  refine mm_getr (t := 125) C fl_X0_18 (mm_dec dk_X0_goThroughSets 6 rfl) rfl rfl (by omega) ?_
  have J22 : ∀ (h22_ : mH) (i22_ : mm_inv h22_) (f22_ : mm_fr [(58, 7), (58, 8), (58, 9)] [125] h h22_) (w22_0 : h22_.1 58 7 = h.1 58 7) (w22_1 : h22_.1 58 9 = h.1 58 9) (w22_2 : h22_.1 58 8 = h.1 58 8) (w22_3 : h22_.1 58 5 = 1), mm_W x 0 0 22 [mR 58, mI p1, mI (mm_vishl 1 (h.1 58 6)), mU, mU] [] h22_ := by
    intro h22_ i22_ f22_ w22_0 w22_1 w22_2 w22_3
    have g7 : 0 ≤ h22_.1 58 5 ∧ h22_.1 58 5 ≤ 1 := i22_.1 58 5
    have g8 : -2147483648 ≤ h22_.1 58 7 ∧ h22_.1 58 7 ≤ 2147483647 := i22_.1 58 7
    have g9 : -2147483648 ≤ h22_.1 58 8 ∧ h22_.1 58 8 ≤ 2147483647 := i22_.1 58 8
    have g10 : -2147483648 ≤ h22_.1 58 9 ∧ h22_.1 58 9 ≤ 2147483647 := i22_.1 58 9
    have g11 : h22_.1 58 5 = h.1 58 5 := f22_.1 58 5 (by decide)
    refine mm_iconst C (mm_dec dk_X0_goThroughSets 12 rfl) ⟨by decide, by decide⟩ ?_
    have J24 : ∀ (n : Nat) (x24_3 : Int) (bx24_3 : 0 ≤ x24_3 ∧ x24_3 ≤ 49152) (h24_ : mH) (i24_ : mm_inv h24_) (f24_ : mm_fr [(58, 7), (58, 8), (58, 9)] [125] h h24_) (w24_0 : mm_fil h24_ x24_3) (w24_1 : x24_3 ≤ mm_p2 (h.1 58 6) * 12) (w24_2 : h24_.1 58 7 = h.1 58 7) (w24_3 : h24_.1 58 9 = h.1 58 9) (w24_4 : h24_.1 58 8 = h.1 58 8) (w24_5 : h24_.1 58 5 = 1), (49152 - x24_3 : Int) < n → mm_W x 0 0 24 [mR 58, mI p1, mI (mm_vishl 1 (h.1 58 6)), mI x24_3, mU] [] h24_ := by
      intro n
      induction n with
      | zero =>
        intro x24_3 bx24_3 h24_ i24_ f24_ w24_0 w24_1 w24_2 w24_3 w24_4 w24_5 hm
        have g12 : 0 ≤ h24_.1 58 5 ∧ h24_.1 58 5 ≤ 1 := i24_.1 58 5
        have g13 : -2147483648 ≤ h24_.1 58 7 ∧ h24_.1 58 7 ≤ 2147483647 := i24_.1 58 7
        have g14 : -2147483648 ≤ h24_.1 58 8 ∧ h24_.1 58 8 ≤ 2147483647 := i24_.1 58 8
        have g15 : -2147483648 ≤ h24_.1 58 9 ∧ h24_.1 58 9 ≤ 2147483647 := i24_.1 58 9
        exfalso; omega
      | succ n ih24 =>
        intro x24_3 bx24_3 h24_ i24_ f24_ w24_0 w24_1 w24_2 w24_3 w24_4 w24_5 hm24
        have g16 : 0 ≤ h24_.1 58 5 ∧ h24_.1 58 5 ≤ 1 := i24_.1 58 5
        have g17 : -2147483648 ≤ h24_.1 58 7 ∧ h24_.1 58 7 ≤ 2147483647 := i24_.1 58 7
        have g18 : -2147483648 ≤ h24_.1 58 8 ∧ h24_.1 58 8 ≤ 2147483647 := i24_.1 58 8
        have g19 : -2147483648 ≤ h24_.1 58 9 ∧ h24_.1 58 9 ≤ 2147483647 := i24_.1 58 9
        have g20 : h24_.1 58 5 = h.1 58 5 := f24_.1 58 5 (by decide)
        refine mm_iload_n C (mm_dec dk_X0_goThroughSets 14 rfl) rfl ?_
        refine mm_iload_n C (mm_dec dk_X0_goThroughSets 15 rfl) rfl ?_
        refine mm_bipush C (mm_dec dk_X0_goThroughSets 16 rfl) ⟨by decide, by decide⟩ ?_
        refine mm_imul C (mm_dec dk_X0_goThroughSets 17 rfl) ⟨by omega, by omega⟩ ?_
        refine mm_icmp_ge (tgt := 46) C (mm_dec dk_X0_goThroughSets 18 rfl) (by decide) (fun c29 => ?_) (fun c29 => ?_)
        · skip
          refine mm_iconst C (mm_dec dk_X0_goThroughSets 26 rfl) ⟨by decide, by decide⟩ ?_
          have J48 : ∀ (n : Nat) (x48_3 : Int) (bx48_3 : 0 ≤ x48_3 ∧ x48_3 ≤ 12) (h48_ : mH) (i48_ : mm_inv h48_) (f48_ : mm_fr [(58, 7), (58, 8), (58, 9)] [125] h h48_) (w48_0 : (mm_GB (mm_lg8 h) (h.1 58 6) → mm_TS h48_ (mm_lg8 h) (h.1 58 6) p1 x48_3)) (w48_1 : x48_3 ≤ h.1 58 6) (w48_2 : h48_.1 58 7 = h.1 58 7) (w48_3 : h48_.1 58 9 = h.1 58 9) (w48_4 : h48_.1 58 8 = h.1 58 8) (w48_5 : h48_.1 58 5 = 1), (12 - x48_3 : Int) < n → mm_W x 0 0 48 [mR 58, mI p1, mI (mm_vishl 1 (h.1 58 6)), mI x48_3, mU] [] h48_ := by
            intro n
            induction n with
            | zero =>
              intro x48_3 bx48_3 h48_ i48_ f48_ w48_0 w48_1 w48_2 w48_3 w48_4 w48_5 hm
              have g21 : 0 ≤ h48_.1 58 5 ∧ h48_.1 58 5 ≤ 1 := i48_.1 58 5
              have g22 : -2147483648 ≤ h48_.1 58 7 ∧ h48_.1 58 7 ≤ 2147483647 := i48_.1 58 7
              have g23 : -2147483648 ≤ h48_.1 58 8 ∧ h48_.1 58 8 ≤ 2147483647 := i48_.1 58 8
              have g24 : -2147483648 ≤ h48_.1 58 9 ∧ h48_.1 58 9 ≤ 2147483647 := i48_.1 58 9
              exfalso; omega
            | succ n ih48 =>
              intro x48_3 bx48_3 h48_ i48_ f48_ w48_0 w48_1 w48_2 w48_3 w48_4 w48_5 hm48
              have g25 : 0 ≤ h48_.1 58 5 ∧ h48_.1 58 5 ≤ 1 := i48_.1 58 5
              have g26 : -2147483648 ≤ h48_.1 58 7 ∧ h48_.1 58 7 ≤ 2147483647 := i48_.1 58 7
              have g27 : -2147483648 ≤ h48_.1 58 8 ∧ h48_.1 58 8 ≤ 2147483647 := i48_.1 58 8
              have g28 : -2147483648 ≤ h48_.1 58 9 ∧ h48_.1 58 9 ≤ 2147483647 := i48_.1 58 9
              have g29 : h48_.1 58 5 = h.1 58 5 := f48_.1 58 5 (by decide)
              have ze8 : h48_.1 58 6 = h.1 58 6 := f48_.1 58 6 (by decide)
              have zg : h48_.2.1 59 (156 + x48_3) = mm_lg8 h 12 x48_3 := (f48_.2 59 (by decide) _).trans (by unfold mm_lg8; rw [show (13 * 12 + x48_3 : Int) = 156 + x48_3 by omega])
              refine mm_iload_n C (mm_dec dk_X0_goThroughSets 28 rfl) rfl ?_
              refine mm_aload_n C (mm_dec dk_X0_goThroughSets 29 rfl) rfl ?_
              refine mm_geti C fl_X0_21 (mm_dec dk_X0_goThroughSets 30 rfl) rfl rfl (Or.inl rfl) ?_
              have g30 : 0 ≤ (h48_.1 58 6) ∧ (h48_.1 58 6) ≤ 12 := i48_.1 58 6
              refine mm_icmp_ge (tgt := 82) C (mm_dec dk_X0_goThroughSets 31 rfl) (by decide) (fun c53 => ?_) (fun c53 => ?_)
              · skip
                refine mm_iconst C (mm_dec dk_X0_goThroughSets 48 rfl) ⟨by decide, by decide⟩ ?_
                have J84 : ∀ (n : Nat) (x84_3 : Int) (bx84_3 : 1 ≤ x84_3 ∧ x84_3 ≤ 4096) (h84_ : mH) (i84_ : mm_inv h84_) (f84_ : mm_fr [(58, 7), (58, 8), (58, 9)] [125] h h84_) (w84_0 : (∀ R, mm_HR8 h R → mm_TI h84_ R (h.1 58 6) p1 x84_3 ∧ mm_BS h h84_ R p1 (h.1 58 7, h.1 58 9, h.1 58 8) (x84_3 - 1))) (w84_1 : x84_3 ≤ mm_p2 (h.1 58 6)) (w84_2 : 1 ≤ x84_3) (w84_3 : h84_.1 58 5 = 1), (4096 - x84_3 : Int) < n → mm_W x 0 0 84 [mR 58, mI p1, mI (mm_vishl 1 (h.1 58 6)), mI x84_3, mU] [] h84_ := by
                  intro n
                  induction n with
                  | zero =>
                    intro x84_3 bx84_3 h84_ i84_ f84_ w84_0 w84_1 w84_2 w84_3 hm
                    have g31 : 0 ≤ h84_.1 58 5 ∧ h84_.1 58 5 ≤ 1 := i84_.1 58 5
                    have g32 : -2147483648 ≤ h84_.1 58 7 ∧ h84_.1 58 7 ≤ 2147483647 := i84_.1 58 7
                    have g33 : -2147483648 ≤ h84_.1 58 8 ∧ h84_.1 58 8 ≤ 2147483647 := i84_.1 58 8
                    have g34 : -2147483648 ≤ h84_.1 58 9 ∧ h84_.1 58 9 ≤ 2147483647 := i84_.1 58 9
                    exfalso; omega
                  | succ n ih84 =>
                    intro x84_3 bx84_3 h84_ i84_ f84_ w84_0 w84_1 w84_2 w84_3 hm84
                    have g35 : 0 ≤ h84_.1 58 5 ∧ h84_.1 58 5 ≤ 1 := i84_.1 58 5
                    have g36 : -2147483648 ≤ h84_.1 58 7 ∧ h84_.1 58 7 ≤ 2147483647 := i84_.1 58 7
                    have g37 : -2147483648 ≤ h84_.1 58 8 ∧ h84_.1 58 8 ≤ 2147483647 := i84_.1 58 8
                    have g38 : -2147483648 ≤ h84_.1 58 9 ∧ h84_.1 58 9 ≤ 2147483647 := i84_.1 58 9
                    have g39 : h84_.1 58 5 = h.1 58 5 := f84_.1 58 5 (by decide)
                    have ze6 : h84_.1 58 6 = h.1 58 6 := f84_.1 58 6 (by decide)
                    have z59 : ∀ j, h84_.2.1 59 j = h.2.1 59 j := fun j => f84_.2 59 (by decide) j
                    refine mm_iload_n C (mm_dec dk_X0_goThroughSets 50 rfl) rfl ?_
                    refine mm_iload_n C (mm_dec dk_X0_goThroughSets 51 rfl) rfl ?_
                    refine mm_icmp_ge (tgt := 123) C (mm_dec dk_X0_goThroughSets 52 rfl) (by decide) (fun c86 => ?_) (fun c86 => ?_)
                    · skip
                      exact mm_vret C T (mm_dec dk_X0_goThroughSets 70 rfl) (by decide : 0 ≤ 0) (by decide : 0 ≤ 0) ⟨rfl, ⟨i84_, f84_, by exact fun R H => (by rw [show mm_p2 (h.1 58 6) = x84_3 by omega]; exact (w84_0 R H).2), by omega⟩⟩
                    · skip
                      refine mm_aload_n C (mm_dec dk_X0_goThroughSets 53 rfl) rfl ?_
                      refine mm_iload_n C (mm_dec dk_X0_goThroughSets 54 rfl) rfl ?_
                      refine mm_iload_n C (mm_dec dk_X0_goThroughSets 55 rfl) rfl ?_
                      refine mm_cVi (rest := []) C1 ev_X0_93 (mm_dec dk_X0_goThroughSets 56 rfl) (c_X0_closeAndExtend_q x.2.1 hl (d - 1) (by omega) h84_ i84_ x84_3 p1 ⟨by omega, by omega⟩ (by omega)) rfl rfl (Nat.le_of_ble_eq_true rfl) ⟨by decide, by decide⟩ rfl (fun r92 h92c hp92 => ?_) (fun _ _ q => q.elim)
                      obtain ⟨b92, i92c, g92c, y92_0⟩ := hp92
                      have f92c : mm_fr [(58, 7), (58, 8), (58, 9)] [125] h h92c := mm_fr_tr f84_ g92c (by decide +kernel)
                      have q92c_41 : h92c.1 58 5 = h84_.1 58 5 := g92c.1 58 5 (by decide)
                      have q92c_42 : h92c.1 58 7 = h84_.1 58 7 := g92c.1 58 7 (by decide)
                      have q92c_43 : h92c.1 58 8 = h84_.1 58 8 := g92c.1 58 8 (by decide)
                      have q92c_44 : h92c.1 58 9 = h84_.1 58 9 := g92c.1 58 9 (by decide)
                      have zc : ∀ R, mm_HR8 h R → mm_TI h92c R (h.1 58 6) p1 (x84_3 + 1) ∧ mm_FW p1 r92 (mm_al8 h R x84_3) := fun R H => by have z := y92_0 R (mm_HR_cg H z59 ze6) (by rw [ze6]; omega) (by rw [ze6]; exact (w84_0 R H).1); rw [ze6, mm_al8_cg z59 ze6] at z; exact z
                      have zpx : mm_px8 h92c x84_3 = mm_px8 h x84_3 := mm_px8_cg (fun j => f92c.2 16 (by decide) j) (fun j => f92c.2 60 (by decide) j) (f92c.1 58 6 (by decide))
                      refine mm_istoreL (ls2 := [mR 58, mI p1, mI (mm_vishl 1 (h.1 58 6)), mI x84_3, mI r92]) C (mm_dec dk_X0_goThroughSets 57 rfl) (by decide) rfl ?_
                      refine mm_iload C (mm_dec dk_X0_goThroughSets 58 rfl) rfl ?_
                      refine mm_iload_n C (mm_dec dk_X0_goThroughSets 59 rfl) rfl ?_
                      have J117 : ∀ (h117_ : mH) (i117_ : mm_inv h117_) (f117_ : mm_fr [(58, 7), (58, 8), (58, 9)] [125] h h117_) (w117_0 : (∀ R, mm_HR8 h R → mm_TI h117_ R (h.1 58 6) p1 (x84_3 + 1) ∧ mm_BS h h117_ R p1 (h.1 58 7, h.1 58 9, h.1 58 8) x84_3)) (w117_1 : h117_.1 58 5 = 1), mm_W x 0 0 117 [mR 58, mI p1, mI (mm_vishl 1 (h.1 58 6)), mI x84_3, mU] [] h117_ := by
                        intro h117_ i117_ f117_ w117_0 w117_1
                        have g45 : 0 ≤ h117_.1 58 5 ∧ h117_.1 58 5 ≤ 1 := i117_.1 58 5
                        have g46 : -2147483648 ≤ h117_.1 58 7 ∧ h117_.1 58 7 ≤ 2147483647 := i117_.1 58 7
                        have g47 : -2147483648 ≤ h117_.1 58 8 ∧ h117_.1 58 8 ≤ 2147483647 := i117_.1 58 8
                        have g48 : -2147483648 ≤ h117_.1 58 9 ∧ h117_.1 58 9 ≤ 2147483647 := i117_.1 58 9
                        have g49 : h117_.1 58 5 = h.1 58 5 := f117_.1 58 5 (by decide)
                        refine mm_iincL (ls2 := [mR 58, mI p1, mI (mm_vishl 1 (h.1 58 6)), mI (x84_3 + 1), mU]) C (mm_dec dk_X0_goThroughSets 68 rfl) rfl (by decide) ⟨by omega, by omega⟩ rfl ?_
                        refine mm_goto (tgt := 84) C (mm_dec dk_X0_goThroughSets 69 rfl) (by decide) ?_
                        exact ih84 (x84_3 + 1) ⟨by omega, by omega⟩ h117_ i117_ f117_ (by first | exact w117_0 | exact fun R H => ⟨(w117_0 R H).1, by rw [show x84_3 + 1 - 1 = x84_3 by omega]; exact (w117_0 R H).2⟩ | exact fun R H => ⟨mm_TS_e zn6 (w48_0 H.1) (by omega) H.2, mm_BS_0 (by omega) (by omega) (by omega)⟩) (by omega) (by omega) (by omega) (by omega)
                      refine mm_icmp_gt (tgt := 117) C (mm_dec dk_X0_goThroughSets 60 rfl) (by decide) (fun c100 => ?_) (fun c100 => ?_)
                      · skip
                        refine mm_fgt 4 ?_
                        exact J117 h92c i92c f92c (by first | exact fun R H => ⟨mm_TI_tr (zc R H).1 (fun j => g114c.2 125 (by decide) j), mm_BS_y (w84_0 R H).2 (by omega) (zc R H).2 (by omega) (by omega) (by omega) (by omega) (by omega) zpx y114_0⟩ | exact fun R H => ⟨(zc R H).1, mm_BS_n (w84_0 R H).2 (by omega) (zc R H).2 (by omega) (by omega) (by omega) (by omega)⟩) (by omega)
                      · skip
                        refine mm_iload C (mm_dec dk_X0_goThroughSets 61 rfl) rfl ?_
                        refine mm_ldc (z := 2000000000) C (mm_dec dk_X0_goThroughSets 62 rfl) kc_X0_88 (by decide) ?_
                        refine mm_icmp_eq (tgt := 117) C (mm_dec dk_X0_goThroughSets 63 rfl) (by decide) (fun c107 => ?_) (fun c107 => ?_)
                        · skip
                          refine mm_fgt 4 ?_
                          exact J117 h92c i92c f92c (by first | exact fun R H => ⟨mm_TI_tr (zc R H).1 (fun j => g114c.2 125 (by decide) j), mm_BS_y (w84_0 R H).2 (by omega) (zc R H).2 (by omega) (by omega) (by omega) (by omega) (by omega) zpx y114_0⟩ | exact fun R H => ⟨(zc R H).1, mm_BS_n (w84_0 R H).2 (by omega) (zc R H).2 (by omega) (by omega) (by omega) (by omega)⟩) (by omega)
                        · skip
                          refine mm_aload_n C (mm_dec dk_X0_goThroughSets 64 rfl) rfl ?_
                          refine mm_iload_n C (mm_dec dk_X0_goThroughSets 65 rfl) rfl ?_
                          refine mm_iload C (mm_dec dk_X0_goThroughSets 66 rfl) rfl ?_
                          refine mm_cVv (rest := []) C1 ev_X0_97 (mm_dec dk_X0_goThroughSets 67 rfl) (c_X0_compare_q x.2.1 hl (d - 1) (by omega) h92c i92c x84_3 r92) rfl rfl (Nat.le_of_ble_eq_true rfl) ⟨by decide, by decide⟩ rfl (fun h114c hp114 => ?_) (fun _ _ q => q.elim)
                          obtain ⟨i114c, g114c, y114_0⟩ := hp114
                          have f114c : mm_fr [(58, 7), (58, 8), (58, 9)] [125] h h114c := mm_fr_tr f92c g114c (by decide +kernel)
                          have q114c_51 : h114c.1 58 5 = h92c.1 58 5 := g114c.1 58 5 (by decide)
                          have g52 : -2147483648 ≤ (h114c.1 58 7) ∧ (h114c.1 58 7) ≤ 2147483647 := i114c.1 58 7
                          have g53 : -2147483648 ≤ (h114c.1 58 8) ∧ (h114c.1 58 8) ≤ 2147483647 := i114c.1 58 8
                          have g54 : -2147483648 ≤ (h114c.1 58 9) ∧ (h114c.1 58 9) ≤ 2147483647 := i114c.1 58 9
                          refine mm_fgt 4 ?_
                          exact J117 h114c i114c f114c (by first | exact fun R H => ⟨mm_TI_tr (zc R H).1 (fun j => g114c.2 125 (by decide) j), mm_BS_y (w84_0 R H).2 (by omega) (zc R H).2 (by omega) (by omega) (by omega) (by omega) (by omega) zpx y114_0⟩ | exact fun R H => ⟨(zc R H).1, mm_BS_n (w84_0 R H).2 (by omega) (zc R H).2 (by omega) (by omega) (by omega) (by omega)⟩) (by omega)
                refine mm_istore_nL (ls2 := [mR 58, mI p1, mI (mm_vishl 1 (h.1 58 6)), mI 1, mU]) C (mm_dec dk_X0_goThroughSets 49 rfl) (by decide) rfl ?_
                exact J84 (((4096 - 1) : Int) + 1).toNat 1 ⟨by omega, by omega⟩ h48_ i48_ f48_ (by first | exact w117_0 | exact fun R H => ⟨(w117_0 R H).1, by rw [show x84_3 + 1 - 1 = x84_3 by omega]; exact (w117_0 R H).2⟩ | exact fun R H => ⟨mm_TS_e zn6 (w48_0 H.1) (by omega) H.2, mm_BS_0 (by omega) (by omega) (by omega)⟩) (by omega) (by omega) (by omega) (by omega)
              · skip
                refine mm_aload_n C (mm_dec dk_X0_goThroughSets 32 rfl) rfl ?_
                refine mm_iconst C (mm_dec dk_X0_goThroughSets 33 rfl) ⟨by decide, by decide⟩ ?_
                refine mm_iload_n C (mm_dec dk_X0_goThroughSets 34 rfl) rfl ?_
                refine mm_ishl C (mm_dec dk_X0_goThroughSets 35 rfl) ?_
                have g55 : 1 ≤ (mm_vishl 1 x48_3) ∧ (mm_vishl 1 x48_3) ≤ 2048 := mm_shl1b ⟨by omega, by omega⟩
                refine mm_iload_n C (mm_dec dk_X0_goThroughSets 36 rfl) rfl ?_
                refine mm_iconst C (mm_dec dk_X0_goThroughSets 37 rfl) ⟨by decide, by decide⟩ ?_
                refine mm_aload_n C (mm_dec dk_X0_goThroughSets 38 rfl) rfl ?_
                refine mm_getr (t := 59) C fl_X0_11 (mm_dec dk_X0_goThroughSets 39 rfl) rfl rfl (mm_ref i48_ rfl) ?_
                refine mm_sipush C (mm_dec dk_X0_goThroughSets 40 rfl) ⟨by decide, by decide⟩ ?_
                refine mm_iload_n C (mm_dec dk_X0_goThroughSets 41 rfl) rfl ?_
                refine mm_iadd C (mm_dec dk_X0_goThroughSets 42 rfl) ⟨by omega, by omega⟩ ?_
                refine mm_iald C (mm_dec dk_X0_goThroughSets 43 rfl) rfl (by omega) (by omega) ?_
                have g56 : -2147483648 ≤ (h48_.2.1 59 (156 + x48_3)) ∧ (h48_.2.1 59 (156 + x48_3)) ≤ 2147483647 := i48_.2.1 59 (156 + x48_3)
                refine mm_iload_n C (mm_dec dk_X0_goThroughSets 44 rfl) rfl ?_
                refine mm_cVv (rest := []) C1 ev_X0_89 (mm_dec dk_X0_goThroughSets 45 rfl) (c_X0_reach_q x.2.1 hl (d - 1) (by omega) h48_ i48_ (mm_vishl 1 x48_3) x48_3 0 (h48_.2.1 59 (156 + x48_3)) p1 ⟨by omega, by omega⟩ ⟨by omega, by omega⟩ (by omega)) rfl rfl (Nat.le_of_ble_eq_true rfl) ⟨by decide, by decide⟩ rfl (fun h73c hp73 => ?_) (fun _ _ q => q.elim)
                obtain ⟨i73c, g73c, y73_0⟩ := hp73
                have f73c : mm_fr [(58, 7), (58, 8), (58, 9)] [125] h h73c := mm_fr_tr f48_ g73c (by decide +kernel)
                have q73c_58 : h73c.1 58 5 = h48_.1 58 5 := g73c.1 58 5 (by decide)
                have q73c_59 : h73c.1 58 6 = h48_.1 58 6 := g73c.1 58 6 (by decide)
                have q73c_60 : h73c.1 58 7 = h48_.1 58 7 := g73c.1 58 7 (by decide)
                have q73c_61 : h73c.1 58 8 = h48_.1 58 8 := g73c.1 58 8 (by decide)
                have q73c_62 : h73c.1 58 9 = h48_.1 58 9 := g73c.1 58 9 (by decide)
                refine mm_iincL (ls2 := [mR 58, mI p1, mI (mm_vishl 1 (h.1 58 6)), mI (x48_3 + 1), mU]) C (mm_dec dk_X0_goThroughSets 46 rfl) rfl (by decide) ⟨by omega, by omega⟩ rfl ?_
                refine mm_goto (tgt := 48) C (mm_dec dk_X0_goThroughSets 47 rfl) (by decide) ?_
                exact ih48 (x48_3 + 1) ⟨by omega, by omega⟩ h73c i73c f73c (by first | exact fun B => mm_TS_0 zn6 w24_0 (by omega) | exact fun B => mm_TS_s zn6 B (w48_0 B) (by omega) (by omega) (mm_rc8_cg y73_0 rfl rfl zg) (mm_p2_lt zn6 (by omega) (by omega))) (by omega) (by omega) (by omega) (by omega) (by omega) (by omega)
          refine mm_istore_nL (ls2 := [mR 58, mI p1, mI (mm_vishl 1 (h.1 58 6)), mI 0, mU]) C (mm_dec dk_X0_goThroughSets 27 rfl) (by decide) rfl ?_
          exact J48 (((12 - 0) : Int) + 1).toNat 0 ⟨by omega, by omega⟩ h24_ i24_ f24_ (by first | exact fun B => mm_TS_0 zn6 w24_0 (by omega) | exact fun B => mm_TS_s zn6 B (w48_0 B) (by omega) (by omega) (mm_rc8_cg y73_0 rfl rfl zg) (mm_p2_lt zn6 (by omega) (by omega))) (by omega) (by omega) (by omega) (by omega) (by omega) (by omega)
        · skip
          refine mm_aload_n C (mm_dec dk_X0_goThroughSets 19 rfl) rfl ?_
          refine mm_getr (t := 125) C fl_X0_18 (mm_dec dk_X0_goThroughSets 20 rfl) rfl rfl (by omega) ?_
          refine mm_iload_n C (mm_dec dk_X0_goThroughSets 21 rfl) rfl ?_
          refine mm_ldc (z := 2000000000) C (mm_dec dk_X0_goThroughSets 22 rfl) kc_X0_88 (by decide) ?_
          refine mm_iast C (mm_dec dk_X0_goThroughSets 23 rfl) rfl (by omega) (by omega) ?_
          have i4 : mm_inv (mm_pa h24_ 125 x24_3 2000000000) := mm_inv_pa i24_ (show -2147483648 ≤ 2000000000 ∧ 2000000000 ≤ 2147483647 from ⟨by omega, by omega⟩)
          have f4 : mm_fr [(58, 7), (58, 8), (58, 9)] [125] h (mm_pa h24_ 125 x24_3 2000000000) := mm_fr_pa f24_ (by decide)
          obtain ⟨h4, eh4⟩ : ∃ z, z = mm_pa h24_ 125 x24_3 2000000000 := ⟨_, rfl⟩
          rw [← eh4] at i4 f4 ⊢
          have qh4_63 : h4.1 58 5 = h24_.1 58 5 := by rw [eh4]; rfl
          have qh4_64 : h4.1 58 7 = h24_.1 58 7 := by rw [eh4]; rfl
          have qh4_65 : h4.1 58 8 = h24_.1 58 8 := by rw [eh4]; rfl
          have qh4_66 : h4.1 58 9 = h24_.1 58 9 := by rw [eh4]; rfl
          refine mm_iincL (ls2 := [mR 58, mI p1, mI (mm_vishl 1 (h.1 58 6)), mI (x24_3 + 1), mU]) C (mm_dec dk_X0_goThroughSets 24 rfl) rfl (by decide) ⟨by omega, by omega⟩ rfl ?_
          refine mm_goto (tgt := 24) C (mm_dec dk_X0_goThroughSets 25 rfl) (by decide) ?_
          exact ih24 (x24_3 + 1) ⟨by omega, by omega⟩ h4 i4 f4 (by first | exact mm_fil_0 | exact mm_fil_s w24_0 eh4) (by omega) (by omega) (by omega) (by omega) (by omega) (by omega)
    refine mm_istore_nL (ls2 := [mR 58, mI p1, mI (mm_vishl 1 (h.1 58 6)), mI 0, mU]) C (mm_dec dk_X0_goThroughSets 13 rfl) (by decide) rfl ?_
    exact J24 (((49152 - 0) : Int) + 1).toNat 0 ⟨by omega, by omega⟩ h22_ i22_ f22_ (by first | exact mm_fil_0 | exact mm_fil_s w24_0 eh22_) (by omega) (by omega) (by omega) (by omega) (by omega) (by omega)
  refine mm_ifnonnull (tgt := 22) C (mm_dec dk_X0_goThroughSets 7 rfl) (by decide) ?_
  exact J22 h i0 f0 (by first | omega | (rw [eh]; exact (mm_tb1_f i0 ct).1)) (by first | omega | (rw [eh]; exact (mm_tb1_f i0 ct).2.1)) (by first | omega | (rw [eh]; exact (mm_tb1_f i0 ct).2.2)) (by omega)
set_option maxRecDepth 100000 in
set_option maxHeartbeats 4000000 in
theorem c_X0_goThroughSets_zq (l : Launch) (hl : l.stackTraces = false) (d : Nat) (hd : 2 ≤ d) (h : mH) (i0 : mm_inv h) (p1 : Int) : mm_Met l d yX0_goThroughSets cX0_goThroughSets 5 none [mR 58, mI p1] h (mm_pv fun h2 => mm_inv h2 ∧ mm_fr [(58, 5), (58, 7), (58, 8), (58, 9)] [125] h h2 ∧ (∀ R, mm_HR8 h R → mm_BS h h2 R p1 (h.1 58 7, h.1 58 9, h.1 58 8) (mm_p2 (h.1 58 6) - 1)) ∧ h2.1 58 5 = 1) mm_nx 1 49152 := by
  refine mm_ofW (ls := [mR 58, mI p1, mU, mU, mU]) hl (by decide) rfl (Nat.le_of_ble_eq_true rfl) ?_
  intro x hxl C T hnm htb
  subst hxl
  have C1 := mm_OK_le (d' := d - 1 + 1) (by omega) C
  refine mm_rng (fun hr _ => ?_)
  have ap1 : -2147483648 ≤ p1 ∧ p1 < 2147483648 := mm_ok_at hr (i := 1) rfl
  have f0 : mm_fr [(58, 5), (58, 7), (58, 8), (58, 9)] [125] h h := mm_fr_rf
  have g1 : 0 ≤ h.1 58 5 ∧ h.1 58 5 ≤ 1 := i0.1 58 5
  have g2 : -2147483648 ≤ h.1 58 7 ∧ h.1 58 7 ≤ 2147483647 := i0.1 58 7
  have g3 : -2147483648 ≤ h.1 58 8 ∧ h.1 58 8 ≤ 2147483647 := i0.1 58 8
  have g4 : -2147483648 ≤ h.1 58 9 ∧ h.1 58 9 ≤ 2147483647 := i0.1 58 9
  have zn6 : 0 ≤ h.1 58 6 ∧ h.1 58 6 ≤ 12 := i0.1 58 6
  have zp : mm_p2 (h.1 58 6) = mm_vishl 1 (h.1 58 6) := rfl
  have zN := mm_p2_n zn6
  refine mm_iconst C (mm_dec dk_X0_goThroughSets 0 rfl) ⟨by decide, by decide⟩ ?_
  refine mm_aload_n C (mm_dec dk_X0_goThroughSets 1 rfl) rfl ?_
  refine mm_geti C fl_X0_21 (mm_dec dk_X0_goThroughSets 2 rfl) rfl rfl (Or.inl rfl) ?_
  have g5 : 0 ≤ (h.1 58 6) ∧ (h.1 58 6) ≤ 12 := i0.1 58 6
  refine mm_ishl C (mm_dec dk_X0_goThroughSets 3 rfl) ?_
  have g6 : 1 ≤ (mm_vishl 1 (h.1 58 6)) ∧ (mm_vishl 1 (h.1 58 6)) ≤ 4096 := mm_shl1 ⟨by omega, by omega⟩
  refine mm_istore_nL (ls2 := [mR 58, mI p1, mI (mm_vishl 1 (h.1 58 6)), mU, mU]) C (mm_dec dk_X0_goThroughSets 4 rfl) (by decide) rfl ?_
  refine mm_aload_n C (mm_dec dk_X0_goThroughSets 5 rfl) rfl ?_
  have J22 : ∀ (h22_ : mH) (i22_ : mm_inv h22_) (f22_ : mm_fr [(58, 5), (58, 7), (58, 8), (58, 9)] [125] h h22_) (w22_0 : h22_.1 58 7 = h.1 58 7) (w22_1 : h22_.1 58 9 = h.1 58 9) (w22_2 : h22_.1 58 8 = h.1 58 8) (w22_3 : h22_.1 58 5 = 1), mm_W x 1 49152 22 [mR 58, mI p1, mI (mm_vishl 1 (h.1 58 6)), mU, mU] [] h22_ := by
    intro h22_ i22_ f22_ w22_0 w22_1 w22_2 w22_3
    have g7 : 0 ≤ h22_.1 58 5 ∧ h22_.1 58 5 ≤ 1 := i22_.1 58 5
    have g8 : -2147483648 ≤ h22_.1 58 7 ∧ h22_.1 58 7 ≤ 2147483647 := i22_.1 58 7
    have g9 : -2147483648 ≤ h22_.1 58 8 ∧ h22_.1 58 8 ≤ 2147483647 := i22_.1 58 8
    have g10 : -2147483648 ≤ h22_.1 58 9 ∧ h22_.1 58 9 ≤ 2147483647 := i22_.1 58 9
    refine mm_iconst C (mm_dec dk_X0_goThroughSets 12 rfl) ⟨by decide, by decide⟩ ?_
    have J24 : ∀ (n : Nat) (x24_3 : Int) (bx24_3 : 0 ≤ x24_3 ∧ x24_3 ≤ 49152) (h24_ : mH) (i24_ : mm_inv h24_) (f24_ : mm_fr [(58, 5), (58, 7), (58, 8), (58, 9)] [125] h h24_) (w24_0 : mm_fil h24_ x24_3) (w24_1 : x24_3 ≤ mm_p2 (h.1 58 6) * 12) (w24_2 : h24_.1 58 7 = h.1 58 7) (w24_3 : h24_.1 58 9 = h.1 58 9) (w24_4 : h24_.1 58 8 = h.1 58 8) (w24_5 : h24_.1 58 5 = 1), (49152 - x24_3 : Int) < n → mm_W x 1 49152 24 [mR 58, mI p1, mI (mm_vishl 1 (h.1 58 6)), mI x24_3, mU] [] h24_ := by
      intro n
      induction n with
      | zero =>
        intro x24_3 bx24_3 h24_ i24_ f24_ w24_0 w24_1 w24_2 w24_3 w24_4 w24_5 hm
        have g11 : 0 ≤ h24_.1 58 5 ∧ h24_.1 58 5 ≤ 1 := i24_.1 58 5
        have g12 : -2147483648 ≤ h24_.1 58 7 ∧ h24_.1 58 7 ≤ 2147483647 := i24_.1 58 7
        have g13 : -2147483648 ≤ h24_.1 58 8 ∧ h24_.1 58 8 ≤ 2147483647 := i24_.1 58 8
        have g14 : -2147483648 ≤ h24_.1 58 9 ∧ h24_.1 58 9 ≤ 2147483647 := i24_.1 58 9
        exfalso; omega
      | succ n ih24 =>
        intro x24_3 bx24_3 h24_ i24_ f24_ w24_0 w24_1 w24_2 w24_3 w24_4 w24_5 hm24
        have g15 : 0 ≤ h24_.1 58 5 ∧ h24_.1 58 5 ≤ 1 := i24_.1 58 5
        have g16 : -2147483648 ≤ h24_.1 58 7 ∧ h24_.1 58 7 ≤ 2147483647 := i24_.1 58 7
        have g17 : -2147483648 ≤ h24_.1 58 8 ∧ h24_.1 58 8 ≤ 2147483647 := i24_.1 58 8
        have g18 : -2147483648 ≤ h24_.1 58 9 ∧ h24_.1 58 9 ≤ 2147483647 := i24_.1 58 9
        refine mm_iload_n C (mm_dec dk_X0_goThroughSets 14 rfl) rfl ?_
        refine mm_iload_n C (mm_dec dk_X0_goThroughSets 15 rfl) rfl ?_
        refine mm_bipush C (mm_dec dk_X0_goThroughSets 16 rfl) ⟨by decide, by decide⟩ ?_
        refine mm_imul C (mm_dec dk_X0_goThroughSets 17 rfl) ⟨by omega, by omega⟩ ?_
        refine mm_icmp_ge (tgt := 46) C (mm_dec dk_X0_goThroughSets 18 rfl) (by decide) (fun c29 => ?_) (fun c29 => ?_)
        · skip
          refine mm_iconst C (mm_dec dk_X0_goThroughSets 26 rfl) ⟨by decide, by decide⟩ ?_
          have J48 : ∀ (n : Nat) (x48_3 : Int) (bx48_3 : 0 ≤ x48_3 ∧ x48_3 ≤ 12) (h48_ : mH) (i48_ : mm_inv h48_) (f48_ : mm_fr [(58, 5), (58, 7), (58, 8), (58, 9)] [125] h h48_) (w48_0 : (mm_GB (mm_lg8 h) (h.1 58 6) → mm_TS h48_ (mm_lg8 h) (h.1 58 6) p1 x48_3)) (w48_1 : x48_3 ≤ h.1 58 6) (w48_2 : h48_.1 58 7 = h.1 58 7) (w48_3 : h48_.1 58 9 = h.1 58 9) (w48_4 : h48_.1 58 8 = h.1 58 8) (w48_5 : h48_.1 58 5 = 1), (12 - x48_3 : Int) < n → mm_W x 1 49152 48 [mR 58, mI p1, mI (mm_vishl 1 (h.1 58 6)), mI x48_3, mU] [] h48_ := by
            intro n
            induction n with
            | zero =>
              intro x48_3 bx48_3 h48_ i48_ f48_ w48_0 w48_1 w48_2 w48_3 w48_4 w48_5 hm
              have g19 : 0 ≤ h48_.1 58 5 ∧ h48_.1 58 5 ≤ 1 := i48_.1 58 5
              have g20 : -2147483648 ≤ h48_.1 58 7 ∧ h48_.1 58 7 ≤ 2147483647 := i48_.1 58 7
              have g21 : -2147483648 ≤ h48_.1 58 8 ∧ h48_.1 58 8 ≤ 2147483647 := i48_.1 58 8
              have g22 : -2147483648 ≤ h48_.1 58 9 ∧ h48_.1 58 9 ≤ 2147483647 := i48_.1 58 9
              exfalso; omega
            | succ n ih48 =>
              intro x48_3 bx48_3 h48_ i48_ f48_ w48_0 w48_1 w48_2 w48_3 w48_4 w48_5 hm48
              have g23 : 0 ≤ h48_.1 58 5 ∧ h48_.1 58 5 ≤ 1 := i48_.1 58 5
              have g24 : -2147483648 ≤ h48_.1 58 7 ∧ h48_.1 58 7 ≤ 2147483647 := i48_.1 58 7
              have g25 : -2147483648 ≤ h48_.1 58 8 ∧ h48_.1 58 8 ≤ 2147483647 := i48_.1 58 8
              have g26 : -2147483648 ≤ h48_.1 58 9 ∧ h48_.1 58 9 ≤ 2147483647 := i48_.1 58 9
              have ze8 : h48_.1 58 6 = h.1 58 6 := f48_.1 58 6 (by decide)
              have zg : h48_.2.1 59 (156 + x48_3) = mm_lg8 h 12 x48_3 := (f48_.2 59 (by decide) _).trans (by unfold mm_lg8; rw [show (13 * 12 + x48_3 : Int) = 156 + x48_3 by omega])
              refine mm_iload_n C (mm_dec dk_X0_goThroughSets 28 rfl) rfl ?_
              refine mm_aload_n C (mm_dec dk_X0_goThroughSets 29 rfl) rfl ?_
              refine mm_geti C fl_X0_21 (mm_dec dk_X0_goThroughSets 30 rfl) rfl rfl (Or.inl rfl) ?_
              have g27 : 0 ≤ (h48_.1 58 6) ∧ (h48_.1 58 6) ≤ 12 := i48_.1 58 6
              refine mm_icmp_ge (tgt := 82) C (mm_dec dk_X0_goThroughSets 31 rfl) (by decide) (fun c53 => ?_) (fun c53 => ?_)
              · skip
                refine mm_iconst C (mm_dec dk_X0_goThroughSets 48 rfl) ⟨by decide, by decide⟩ ?_
                have J84 : ∀ (n : Nat) (x84_3 : Int) (bx84_3 : 1 ≤ x84_3 ∧ x84_3 ≤ 4096) (h84_ : mH) (i84_ : mm_inv h84_) (f84_ : mm_fr [(58, 5), (58, 7), (58, 8), (58, 9)] [125] h h84_) (w84_0 : (∀ R, mm_HR8 h R → mm_TI h84_ R (h.1 58 6) p1 x84_3 ∧ mm_BS h h84_ R p1 (h.1 58 7, h.1 58 9, h.1 58 8) (x84_3 - 1))) (w84_1 : x84_3 ≤ mm_p2 (h.1 58 6)) (w84_2 : 1 ≤ x84_3) (w84_3 : h84_.1 58 5 = 1), (4096 - x84_3 : Int) < n → mm_W x 1 49152 84 [mR 58, mI p1, mI (mm_vishl 1 (h.1 58 6)), mI x84_3, mU] [] h84_ := by
                  intro n
                  induction n with
                  | zero =>
                    intro x84_3 bx84_3 h84_ i84_ f84_ w84_0 w84_1 w84_2 w84_3 hm
                    have g28 : 0 ≤ h84_.1 58 5 ∧ h84_.1 58 5 ≤ 1 := i84_.1 58 5
                    have g29 : -2147483648 ≤ h84_.1 58 7 ∧ h84_.1 58 7 ≤ 2147483647 := i84_.1 58 7
                    have g30 : -2147483648 ≤ h84_.1 58 8 ∧ h84_.1 58 8 ≤ 2147483647 := i84_.1 58 8
                    have g31 : -2147483648 ≤ h84_.1 58 9 ∧ h84_.1 58 9 ≤ 2147483647 := i84_.1 58 9
                    exfalso; omega
                  | succ n ih84 =>
                    intro x84_3 bx84_3 h84_ i84_ f84_ w84_0 w84_1 w84_2 w84_3 hm84
                    have g32 : 0 ≤ h84_.1 58 5 ∧ h84_.1 58 5 ≤ 1 := i84_.1 58 5
                    have g33 : -2147483648 ≤ h84_.1 58 7 ∧ h84_.1 58 7 ≤ 2147483647 := i84_.1 58 7
                    have g34 : -2147483648 ≤ h84_.1 58 8 ∧ h84_.1 58 8 ≤ 2147483647 := i84_.1 58 8
                    have g35 : -2147483648 ≤ h84_.1 58 9 ∧ h84_.1 58 9 ≤ 2147483647 := i84_.1 58 9
                    have ze6 : h84_.1 58 6 = h.1 58 6 := f84_.1 58 6 (by decide)
                    have z59 : ∀ j, h84_.2.1 59 j = h.2.1 59 j := fun j => f84_.2 59 (by decide) j
                    refine mm_iload_n C (mm_dec dk_X0_goThroughSets 50 rfl) rfl ?_
                    refine mm_iload_n C (mm_dec dk_X0_goThroughSets 51 rfl) rfl ?_
                    refine mm_icmp_ge (tgt := 123) C (mm_dec dk_X0_goThroughSets 52 rfl) (by decide) (fun c86 => ?_) (fun c86 => ?_)
                    · skip
                      exact mm_vret C T (mm_dec dk_X0_goThroughSets 70 rfl) (by decide : 1 ≤ 1) (by decide : 49152 ≤ 49152) ⟨rfl, ⟨i84_, f84_, by exact fun R H => (by rw [show mm_p2 (h.1 58 6) = x84_3 by omega]; exact (w84_0 R H).2), by omega⟩⟩
                    · skip
                      refine mm_aload_n C (mm_dec dk_X0_goThroughSets 53 rfl) rfl ?_
                      refine mm_iload_n C (mm_dec dk_X0_goThroughSets 54 rfl) rfl ?_
                      refine mm_iload_n C (mm_dec dk_X0_goThroughSets 55 rfl) rfl ?_
                      refine mm_cVi (rest := []) C1 ev_X0_93 (mm_dec dk_X0_goThroughSets 56 rfl) (c_X0_closeAndExtend_q x.2.1 hl (d - 1) (by omega) h84_ i84_ x84_3 p1 ⟨by omega, by omega⟩ (by omega)) rfl rfl (Nat.le_of_ble_eq_true rfl) ⟨by decide, by decide⟩ rfl (fun r92 h92c hp92 => ?_) (fun _ _ q => q.elim)
                      obtain ⟨b92, i92c, g92c, y92_0⟩ := hp92
                      have f92c : mm_fr [(58, 5), (58, 7), (58, 8), (58, 9)] [125] h h92c := mm_fr_tr f84_ g92c (by decide +kernel)
                      have q92c_37 : h92c.1 58 5 = h84_.1 58 5 := g92c.1 58 5 (by decide)
                      have q92c_38 : h92c.1 58 7 = h84_.1 58 7 := g92c.1 58 7 (by decide)
                      have q92c_39 : h92c.1 58 8 = h84_.1 58 8 := g92c.1 58 8 (by decide)
                      have q92c_40 : h92c.1 58 9 = h84_.1 58 9 := g92c.1 58 9 (by decide)
                      have zc : ∀ R, mm_HR8 h R → mm_TI h92c R (h.1 58 6) p1 (x84_3 + 1) ∧ mm_FW p1 r92 (mm_al8 h R x84_3) := fun R H => by have z := y92_0 R (mm_HR_cg H z59 ze6) (by rw [ze6]; omega) (by rw [ze6]; exact (w84_0 R H).1); rw [ze6, mm_al8_cg z59 ze6] at z; exact z
                      have zpx : mm_px8 h92c x84_3 = mm_px8 h x84_3 := mm_px8_cg (fun j => f92c.2 16 (by decide) j) (fun j => f92c.2 60 (by decide) j) (f92c.1 58 6 (by decide))
                      refine mm_istoreL (ls2 := [mR 58, mI p1, mI (mm_vishl 1 (h.1 58 6)), mI x84_3, mI r92]) C (mm_dec dk_X0_goThroughSets 57 rfl) (by decide) rfl ?_
                      refine mm_iload C (mm_dec dk_X0_goThroughSets 58 rfl) rfl ?_
                      refine mm_iload_n C (mm_dec dk_X0_goThroughSets 59 rfl) rfl ?_
                      have J117 : ∀ (h117_ : mH) (i117_ : mm_inv h117_) (f117_ : mm_fr [(58, 5), (58, 7), (58, 8), (58, 9)] [125] h h117_) (w117_0 : (∀ R, mm_HR8 h R → mm_TI h117_ R (h.1 58 6) p1 (x84_3 + 1) ∧ mm_BS h h117_ R p1 (h.1 58 7, h.1 58 9, h.1 58 8) x84_3)) (w117_1 : h117_.1 58 5 = 1), mm_W x 1 49152 117 [mR 58, mI p1, mI (mm_vishl 1 (h.1 58 6)), mI x84_3, mU] [] h117_ := by
                        intro h117_ i117_ f117_ w117_0 w117_1
                        have g41 : 0 ≤ h117_.1 58 5 ∧ h117_.1 58 5 ≤ 1 := i117_.1 58 5
                        have g42 : -2147483648 ≤ h117_.1 58 7 ∧ h117_.1 58 7 ≤ 2147483647 := i117_.1 58 7
                        have g43 : -2147483648 ≤ h117_.1 58 8 ∧ h117_.1 58 8 ≤ 2147483647 := i117_.1 58 8
                        have g44 : -2147483648 ≤ h117_.1 58 9 ∧ h117_.1 58 9 ≤ 2147483647 := i117_.1 58 9
                        refine mm_iincL (ls2 := [mR 58, mI p1, mI (mm_vishl 1 (h.1 58 6)), mI (x84_3 + 1), mU]) C (mm_dec dk_X0_goThroughSets 68 rfl) rfl (by decide) ⟨by omega, by omega⟩ rfl ?_
                        refine mm_goto (tgt := 84) C (mm_dec dk_X0_goThroughSets 69 rfl) (by decide) ?_
                        exact ih84 (x84_3 + 1) ⟨by omega, by omega⟩ h117_ i117_ f117_ (by first | exact w117_0 | exact fun R H => ⟨(w117_0 R H).1, by rw [show x84_3 + 1 - 1 = x84_3 by omega]; exact (w117_0 R H).2⟩ | exact fun R H => ⟨mm_TS_e zn6 (w48_0 H.1) (by omega) H.2, mm_BS_0 (by omega) (by omega) (by omega)⟩) (by omega) (by omega) (by omega) (by omega)
                      refine mm_icmp_gt (tgt := 117) C (mm_dec dk_X0_goThroughSets 60 rfl) (by decide) (fun c100 => ?_) (fun c100 => ?_)
                      · skip
                        refine mm_fgt 4 ?_
                        exact J117 h92c i92c f92c (by first | exact fun R H => ⟨mm_TI_tr (zc R H).1 (fun j => g114c.2 125 (by decide) j), mm_BS_y (w84_0 R H).2 (by omega) (zc R H).2 (by omega) (by omega) (by omega) (by omega) (by omega) zpx y114_0⟩ | exact fun R H => ⟨(zc R H).1, mm_BS_n (w84_0 R H).2 (by omega) (zc R H).2 (by omega) (by omega) (by omega) (by omega)⟩) (by omega)
                      · skip
                        refine mm_iload C (mm_dec dk_X0_goThroughSets 61 rfl) rfl ?_
                        refine mm_ldc (z := 2000000000) C (mm_dec dk_X0_goThroughSets 62 rfl) kc_X0_88 (by decide) ?_
                        refine mm_icmp_eq (tgt := 117) C (mm_dec dk_X0_goThroughSets 63 rfl) (by decide) (fun c107 => ?_) (fun c107 => ?_)
                        · skip
                          refine mm_fgt 4 ?_
                          exact J117 h92c i92c f92c (by first | exact fun R H => ⟨mm_TI_tr (zc R H).1 (fun j => g114c.2 125 (by decide) j), mm_BS_y (w84_0 R H).2 (by omega) (zc R H).2 (by omega) (by omega) (by omega) (by omega) (by omega) zpx y114_0⟩ | exact fun R H => ⟨(zc R H).1, mm_BS_n (w84_0 R H).2 (by omega) (zc R H).2 (by omega) (by omega) (by omega) (by omega)⟩) (by omega)
                        · skip
                          refine mm_aload_n C (mm_dec dk_X0_goThroughSets 64 rfl) rfl ?_
                          refine mm_iload_n C (mm_dec dk_X0_goThroughSets 65 rfl) rfl ?_
                          refine mm_iload C (mm_dec dk_X0_goThroughSets 66 rfl) rfl ?_
                          refine mm_cVv (rest := []) C1 ev_X0_97 (mm_dec dk_X0_goThroughSets 67 rfl) (c_X0_compare_q x.2.1 hl (d - 1) (by omega) h92c i92c x84_3 r92) rfl rfl (Nat.le_of_ble_eq_true rfl) ⟨by decide, by decide⟩ rfl (fun h114c hp114 => ?_) (fun _ _ q => q.elim)
                          obtain ⟨i114c, g114c, y114_0⟩ := hp114
                          have f114c : mm_fr [(58, 5), (58, 7), (58, 8), (58, 9)] [125] h h114c := mm_fr_tr f92c g114c (by decide +kernel)
                          have q114c_46 : h114c.1 58 5 = h92c.1 58 5 := g114c.1 58 5 (by decide)
                          have g47 : -2147483648 ≤ (h114c.1 58 7) ∧ (h114c.1 58 7) ≤ 2147483647 := i114c.1 58 7
                          have g48 : -2147483648 ≤ (h114c.1 58 8) ∧ (h114c.1 58 8) ≤ 2147483647 := i114c.1 58 8
                          have g49 : -2147483648 ≤ (h114c.1 58 9) ∧ (h114c.1 58 9) ≤ 2147483647 := i114c.1 58 9
                          refine mm_fgt 4 ?_
                          exact J117 h114c i114c f114c (by first | exact fun R H => ⟨mm_TI_tr (zc R H).1 (fun j => g114c.2 125 (by decide) j), mm_BS_y (w84_0 R H).2 (by omega) (zc R H).2 (by omega) (by omega) (by omega) (by omega) (by omega) zpx y114_0⟩ | exact fun R H => ⟨(zc R H).1, mm_BS_n (w84_0 R H).2 (by omega) (zc R H).2 (by omega) (by omega) (by omega) (by omega)⟩) (by omega)
                refine mm_istore_nL (ls2 := [mR 58, mI p1, mI (mm_vishl 1 (h.1 58 6)), mI 1, mU]) C (mm_dec dk_X0_goThroughSets 49 rfl) (by decide) rfl ?_
                exact J84 (((4096 - 1) : Int) + 1).toNat 1 ⟨by omega, by omega⟩ h48_ i48_ f48_ (by first | exact w117_0 | exact fun R H => ⟨(w117_0 R H).1, by rw [show x84_3 + 1 - 1 = x84_3 by omega]; exact (w117_0 R H).2⟩ | exact fun R H => ⟨mm_TS_e zn6 (w48_0 H.1) (by omega) H.2, mm_BS_0 (by omega) (by omega) (by omega)⟩) (by omega) (by omega) (by omega) (by omega)
              · skip
                refine mm_aload_n C (mm_dec dk_X0_goThroughSets 32 rfl) rfl ?_
                refine mm_iconst C (mm_dec dk_X0_goThroughSets 33 rfl) ⟨by decide, by decide⟩ ?_
                refine mm_iload_n C (mm_dec dk_X0_goThroughSets 34 rfl) rfl ?_
                refine mm_ishl C (mm_dec dk_X0_goThroughSets 35 rfl) ?_
                have g50 : 1 ≤ (mm_vishl 1 x48_3) ∧ (mm_vishl 1 x48_3) ≤ 2048 := mm_shl1b ⟨by omega, by omega⟩
                refine mm_iload_n C (mm_dec dk_X0_goThroughSets 36 rfl) rfl ?_
                refine mm_iconst C (mm_dec dk_X0_goThroughSets 37 rfl) ⟨by decide, by decide⟩ ?_
                refine mm_aload_n C (mm_dec dk_X0_goThroughSets 38 rfl) rfl ?_
                refine mm_getr (t := 59) C fl_X0_11 (mm_dec dk_X0_goThroughSets 39 rfl) rfl rfl (mm_ref i48_ rfl) ?_
                refine mm_sipush C (mm_dec dk_X0_goThroughSets 40 rfl) ⟨by decide, by decide⟩ ?_
                refine mm_iload_n C (mm_dec dk_X0_goThroughSets 41 rfl) rfl ?_
                refine mm_iadd C (mm_dec dk_X0_goThroughSets 42 rfl) ⟨by omega, by omega⟩ ?_
                refine mm_iald C (mm_dec dk_X0_goThroughSets 43 rfl) rfl (by omega) (by omega) ?_
                have g51 : -2147483648 ≤ (h48_.2.1 59 (156 + x48_3)) ∧ (h48_.2.1 59 (156 + x48_3)) ≤ 2147483647 := i48_.2.1 59 (156 + x48_3)
                refine mm_iload_n C (mm_dec dk_X0_goThroughSets 44 rfl) rfl ?_
                refine mm_cVv (rest := []) C1 ev_X0_89 (mm_dec dk_X0_goThroughSets 45 rfl) (c_X0_reach_q x.2.1 hl (d - 1) (by omega) h48_ i48_ (mm_vishl 1 x48_3) x48_3 0 (h48_.2.1 59 (156 + x48_3)) p1 ⟨by omega, by omega⟩ ⟨by omega, by omega⟩ (by omega)) rfl rfl (Nat.le_of_ble_eq_true rfl) ⟨by decide, by decide⟩ rfl (fun h73c hp73 => ?_) (fun _ _ q => q.elim)
                obtain ⟨i73c, g73c, y73_0⟩ := hp73
                have f73c : mm_fr [(58, 5), (58, 7), (58, 8), (58, 9)] [125] h h73c := mm_fr_tr f48_ g73c (by decide +kernel)
                have q73c_53 : h73c.1 58 5 = h48_.1 58 5 := g73c.1 58 5 (by decide)
                have q73c_54 : h73c.1 58 6 = h48_.1 58 6 := g73c.1 58 6 (by decide)
                have q73c_55 : h73c.1 58 7 = h48_.1 58 7 := g73c.1 58 7 (by decide)
                have q73c_56 : h73c.1 58 8 = h48_.1 58 8 := g73c.1 58 8 (by decide)
                have q73c_57 : h73c.1 58 9 = h48_.1 58 9 := g73c.1 58 9 (by decide)
                refine mm_iincL (ls2 := [mR 58, mI p1, mI (mm_vishl 1 (h.1 58 6)), mI (x48_3 + 1), mU]) C (mm_dec dk_X0_goThroughSets 46 rfl) rfl (by decide) ⟨by omega, by omega⟩ rfl ?_
                refine mm_goto (tgt := 48) C (mm_dec dk_X0_goThroughSets 47 rfl) (by decide) ?_
                exact ih48 (x48_3 + 1) ⟨by omega, by omega⟩ h73c i73c f73c (by first | exact fun B => mm_TS_0 zn6 w24_0 (by omega) | exact fun B => mm_TS_s zn6 B (w48_0 B) (by omega) (by omega) (mm_rc8_cg y73_0 rfl rfl zg) (mm_p2_lt zn6 (by omega) (by omega))) (by omega) (by omega) (by omega) (by omega) (by omega) (by omega)
          refine mm_istore_nL (ls2 := [mR 58, mI p1, mI (mm_vishl 1 (h.1 58 6)), mI 0, mU]) C (mm_dec dk_X0_goThroughSets 27 rfl) (by decide) rfl ?_
          exact J48 (((12 - 0) : Int) + 1).toNat 0 ⟨by omega, by omega⟩ h24_ i24_ f24_ (by first | exact fun B => mm_TS_0 zn6 w24_0 (by omega) | exact fun B => mm_TS_s zn6 B (w48_0 B) (by omega) (by omega) (mm_rc8_cg y73_0 rfl rfl zg) (mm_p2_lt zn6 (by omega) (by omega))) (by omega) (by omega) (by omega) (by omega) (by omega) (by omega)
        · skip
          refine mm_aload_n C (mm_dec dk_X0_goThroughSets 19 rfl) rfl ?_
          refine mm_getr (t := 125) C fl_X0_18 (mm_dec dk_X0_goThroughSets 20 rfl) rfl rfl (by omega) ?_
          refine mm_iload_n C (mm_dec dk_X0_goThroughSets 21 rfl) rfl ?_
          refine mm_ldc (z := 2000000000) C (mm_dec dk_X0_goThroughSets 22 rfl) kc_X0_88 (by decide) ?_
          refine mm_iast C (mm_dec dk_X0_goThroughSets 23 rfl) rfl (by omega) (by omega) ?_
          have i4 : mm_inv (mm_pa h24_ 125 x24_3 2000000000) := mm_inv_pa i24_ (show -2147483648 ≤ 2000000000 ∧ 2000000000 ≤ 2147483647 from ⟨by omega, by omega⟩)
          have f4 : mm_fr [(58, 5), (58, 7), (58, 8), (58, 9)] [125] h (mm_pa h24_ 125 x24_3 2000000000) := mm_fr_pa f24_ (by decide)
          obtain ⟨h4, eh4⟩ : ∃ z, z = mm_pa h24_ 125 x24_3 2000000000 := ⟨_, rfl⟩
          rw [← eh4] at i4 f4 ⊢
          have qh4_58 : h4.1 58 5 = h24_.1 58 5 := by rw [eh4]; rfl
          have qh4_59 : h4.1 58 7 = h24_.1 58 7 := by rw [eh4]; rfl
          have qh4_60 : h4.1 58 8 = h24_.1 58 8 := by rw [eh4]; rfl
          have qh4_61 : h4.1 58 9 = h24_.1 58 9 := by rw [eh4]; rfl
          refine mm_iincL (ls2 := [mR 58, mI p1, mI (mm_vishl 1 (h.1 58 6)), mI (x24_3 + 1), mU]) C (mm_dec dk_X0_goThroughSets 24 rfl) rfl (by decide) ⟨by omega, by omega⟩ rfl ?_
          refine mm_goto (tgt := 24) C (mm_dec dk_X0_goThroughSets 25 rfl) (by decide) ?_
          exact ih24 (x24_3 + 1) ⟨by omega, by omega⟩ h4 i4 f4 (by first | exact mm_fil_0 | exact mm_fil_s w24_0 eh4) (by omega) (by omega) (by omega) (by omega) (by omega) (by omega)
    refine mm_istore_nL (ls2 := [mR 58, mI p1, mI (mm_vishl 1 (h.1 58 6)), mI 0, mU]) C (mm_dec dk_X0_goThroughSets 13 rfl) (by decide) rfl ?_
    exact J24 (((49152 - 0) : Int) + 1).toNat 0 ⟨by omega, by omega⟩ h22_ i22_ f22_ (by first | exact mm_fil_0 | exact mm_fil_s w24_0 eh22_) (by omega) (by omega) (by omega) (by omega) (by omega) (by omega)
  by_cases ct : h.1 58 5 = 0
  · refine mm_getn (t := 125) C fl_X0_18 (mm_dec dk_X0_goThroughSets 6 rfl) rfl rfl ct ?_
    refine mm_ifnonnullN C (mm_dec dk_X0_goThroughSets 7 rfl) ?_
    refine mm_aload_n C (mm_dec dk_X0_goThroughSets 8 rfl) rfl ?_
    refine mm_ldc (z := 49152) C (mm_dec dk_X0_goThroughSets 9 rfl) kc_X0_87 (by decide) ?_
    refine mm_newa (atype := .int) (n := 125) (len := 49152) C ac_int (mm_dec dk_X0_goThroughSets 10 rfl) (mm_tb_n i0 ct) (by decide) rfl (Or.inl ⟨rfl, rfl⟩) rfl (by decide) (by decide) (by decide) ?_
    refine mm_putr C fl_X0_18 (mm_dec dk_X0_goThroughSets 11 rfl) rfl rfl rfl (fun q => ⟨rfl, rfl⟩) (by decide) ?_
    have i5 : mm_inv (mm_tb1 h) := mm_inv_tb i0 ct
    have f5 : mm_fr [(58, 5), (58, 7), (58, 8), (58, 9)] [125] h (mm_tb1 h) := mm_fr_tb f0 i0 ct i0 (by decide) (by decide)
    have qh5 : (mm_tb1 h).1 58 5 = 1 := mm_tb1_at _
    change mm_W _ _ _ _ _ _ (mm_tb1 h)
    obtain ⟨h5, eh5⟩ : ∃ z, z = mm_tb1 h := ⟨_, rfl⟩
    rw [← eh5] at i5 f5 qh5 ⊢
    exact J22 h5 i5 f5 (by first | omega | (rw [eh5]; exact (mm_tb1_f i0 ct).1)) (by first | omega | (rw [eh5]; exact (mm_tb1_f i0 ct).2.1)) (by first | omega | (rw [eh5]; exact (mm_tb1_f i0 ct).2.2)) (by omega)
  · have ct2 : 0 ≤ h.1 58 5 ∧ h.1 58 5 ≤ 1 := i0.1 58 5
    refine mm_getr (t := 125) C fl_X0_18 (mm_dec dk_X0_goThroughSets 6 rfl) rfl rfl ct ?_
    refine mm_ifnonnull (tgt := 22) C (mm_dec dk_X0_goThroughSets 7 rfl) (by decide) ?_
    refine mm_widen (k := 1) (n := 49152) (by decide) (by decide) ?_
    exact J22 h i0 f0 (by first | omega | (rw [eh]; exact (mm_tb1_f i0 ct).1)) (by first | omega | (rw [eh]; exact (mm_tb1_f i0 ct).2.1)) (by first | omega | (rw [eh]; exact (mm_tb1_f i0 ct).2.2)) (by omega)
set_option maxRecDepth 100000 in
set_option maxHeartbeats 4000000 in
theorem c_X0_search_tq (l : Launch) (hl : l.stackTraces = false) (d : Nat) (hd : 5 ≤ d) (h : mH) (i0 : mm_inv h) (p1 : Int) (p2 : Int) (bp1 : 0 ≤ p1 ∧ p1 ≤ 7) (t0 : h.1 58 5 = 1) : mm_Met l d yX0_search cX0_search 4 (some .int) [mR 58, mI p1, mI p2] h (mm_pi fun r h2 => (-2147483648 ≤ r ∧ r ≤ 2147483647) ∧ mm_inv h2 ∧ mm_fr [(7, 7), (7, 8), (58, 6), (58, 7), (58, 8), (58, 9), (58, 10)] [8, 9, 10, 11, 59, 60, 125] h h2 ∧ mm_bX8 h h2 p1 p2 r ∧ h2.1 58 5 = 1) mm_nx 0 0 := by
  refine mm_ofW (ls := [mR 58, mI p1, mI p2, mU]) hl (by decide) rfl (Nat.le_of_ble_eq_true rfl) ?_
  intro x hxl C T hnm htb
  subst hxl
  have C1 := mm_OK_le (d' := d - 1 + 1) (by omega) C
  refine mm_rng (fun hr _ => ?_)
  have ap1 : -2147483648 ≤ p1 ∧ p1 < 2147483648 := mm_ok_at hr (i := 1) rfl
  have ap2 : -2147483648 ≤ p2 ∧ p2 < 2147483648 := mm_ok_at hr (i := 2) rfl
  have f0 : mm_fr [(7, 7), (7, 8), (58, 6), (58, 7), (58, 8), (58, 9), (58, 10)] [8, 9, 10, 11, 59, 60, 125] h h := mm_fr_rf
  have g1 : 0 ≤ h.1 58 5 ∧ h.1 58 5 ≤ 1 := i0.1 58 5
  have g2 : -2147483648 ≤ h.1 58 7 ∧ h.1 58 7 ≤ 2147483647 := i0.1 58 7
  have g3 : -2147483648 ≤ h.1 58 8 ∧ h.1 58 8 ≤ 2147483647 := i0.1 58 8
  have g4 : -2147483648 ≤ h.1 58 9 ∧ h.1 58 9 ≤ 2147483647 := i0.1 58 9
  have g5 : 0 ≤ h.1 58 10 ∧ h.1 58 10 ≤ 1 := i0.1 58 10
  have g6 : 0 ≤ h.1 58 6 ∧ h.1 58 6 ≤ 12 := i0.1 58 6
  refine mm_aload_n C (mm_dec dk_X0_search 0 rfl) rfl ?_
  refine mm_aload_n C (mm_dec dk_X0_search 1 rfl) rfl ?_
  refine mm_getr (t := 14) C fl_X0_46 (mm_dec dk_X0_search 2 rfl) rfl rfl (mm_ref i0 rfl) ?_
  refine mm_iload_n C (mm_dec dk_X0_search 3 rfl) rfl ?_
  refine mm_iconst C (mm_dec dk_X0_search 4 rfl) ⟨by decide, by decide⟩ ?_
  refine mm_aload_n C (mm_dec dk_X0_search 5 rfl) rfl ?_
  refine mm_getr (t := 60) C fl_X0_15 (mm_dec dk_X0_search 6 rfl) rfl rfl (mm_ref i0 rfl) ?_
  refine mm_cVi (rest := [mR 58]) C1 ev_X0_50 (mm_dec dk_X0_search 7 rfl) (c_X2_fillRow_60_q x.2.1 hl (d - 1) (by omega) h i0 p1 0 ⟨by omega, by omega⟩ ⟨by omega, by omega⟩) rfl rfl (Nat.le_of_ble_eq_true rfl) ⟨by decide, by decide⟩ rfl (fun r11 h11c hp11 => ?_) (fun _ _ q => q.elim)
  obtain ⟨b11, i11c, g11c, y11_0, y11_1, y11_2⟩ := hp11
  have f11c : mm_fr [(7, 7), (7, 8), (58, 6), (58, 7), (58, 8), (58, 9), (58, 10)] [8, 9, 10, 11, 59, 60, 125] h h11c := mm_fr_tr f0 g11c (by decide +kernel)
  have q11c_8 : h11c.1 58 5 = h.1 58 5 := g11c.1 58 5 (by decide)
  have q11c_9 : h11c.1 58 6 = h.1 58 6 := g11c.1 58 6 (by decide)
  have q11c_10 : h11c.1 58 7 = h.1 58 7 := g11c.1 58 7 (by decide)
  have q11c_11 : h11c.1 58 8 = h.1 58 8 := g11c.1 58 8 (by decide)
  have q11c_12 : h11c.1 58 9 = h.1 58 9 := g11c.1 58 9 (by decide)
  have q11c_13 : h11c.1 58 10 = h.1 58 10 := g11c.1 58 10 (by decide)
  refine mm_puti C fl_X0_21 (mm_dec dk_X0_search 8 rfl) rfl rfl rfl (Or.inl ⟨rfl, rfl⟩) ?_
  have i2 : mm_inv (mm_pf h11c 58 6 r11) := mm_inv_pf i11c (show 0 ≤ r11 ∧ r11 ≤ 12 from ⟨by omega, by omega⟩) (by decide)
  have f2 : mm_fr [(7, 7), (7, 8), (58, 6), (58, 7), (58, 8), (58, 9), (58, 10)] [8, 9, 10, 11, 59, 60, 125] h (mm_pf h11c 58 6 r11) := mm_fr_pf f11c (by decide)
  obtain ⟨h2, eh2⟩ : ∃ z, z = mm_pf h11c 58 6 r11 := ⟨_, rfl⟩
  rw [← eh2] at i2 f2 ⊢
  have qh2 : h2.1 58 6 = r11 := by rw [eh2]; exact mm_pf_same _ _ _ _
  have qh2_14 : h2.1 58 5 = h11c.1 58 5 := by rw [eh2]; exact mm_pf_ne _ _ (by decide)
  have qh2_15 : h2.1 58 7 = h11c.1 58 7 := by rw [eh2]; exact mm_pf_ne _ _ (by decide)
  have qh2_16 : h2.1 58 8 = h11c.1 58 8 := by rw [eh2]; exact mm_pf_ne _ _ (by decide)
  have qh2_17 : h2.1 58 9 = h11c.1 58 9 := by rw [eh2]; exact mm_pf_ne _ _ (by decide)
  have qh2_18 : h2.1 58 10 = h11c.1 58 10 := by rw [eh2]; exact mm_pf_ne _ _ (by decide)
  refine mm_aload_n C (mm_dec dk_X0_search 9 rfl) rfl ?_
  refine mm_cVv (rest := []) C1 ev_X0_56 (mm_dec dk_X0_search 10 rfl) (c_X0_measureLegs_q x.2.1 hl (d - 1) (by omega) h2 i2 ) rfl rfl (Nat.le_of_ble_eq_true rfl) ⟨by decide, by decide⟩ rfl (fun h18c hp18 => ?_) (fun _ _ q => q.elim)
  obtain ⟨i18c, g18c, y18_0⟩ := hp18
  have f18c : mm_fr [(7, 7), (7, 8), (58, 6), (58, 7), (58, 8), (58, 9), (58, 10)] [8, 9, 10, 11, 59, 60, 125] h h18c := mm_fr_tr f2 g18c (by decide +kernel)
  have q18c_20 : h18c.1 58 5 = h2.1 58 5 := g18c.1 58 5 (by decide)
  have q18c_21 : h18c.1 58 6 = h2.1 58 6 := g18c.1 58 6 (by decide)
  have q18c_22 : h18c.1 58 7 = h2.1 58 7 := g18c.1 58 7 (by decide)
  have q18c_23 : h18c.1 58 8 = h2.1 58 8 := g18c.1 58 8 (by decide)
  have q18c_24 : h18c.1 58 9 = h2.1 58 9 := g18c.1 58 9 (by decide)
  have q18c_25 : h18c.1 58 10 = h2.1 58 10 := g18c.1 58 10 (by decide)
  have zLG : mm_LG h h18c p1 := mm_LG_of (mm_rw_sm y11_1 (fun j => mm_sm_pf 60 eh2 j)) y11_2 (by rw [eh2]; exact mm_pf_same _ _ _ _) y18_0 (mm_ldx_fr f2 (by decide)) (f2.1 1 7 (by decide)) (f2.1 1 8 (by decide)) (fun j => f2.2 15 (by decide) j) (g18c.1 58 6 (by decide)) (fun j => g18c.2 60 (by decide) j) (by omega)
  have z19 : 0 ≤ h.2.1 19 p1 := (i0.2.1 19 _).1
  refine mm_aload_n C (mm_dec dk_X0_search 11 rfl) rfl ?_
  refine mm_getr (t := 59) C fl_X0_11 (mm_dec dk_X0_search 12 rfl) rfl rfl (mm_ref i18c rfl) ?_
  refine mm_sipush C (mm_dec dk_X0_search 13 rfl) ⟨by decide, by decide⟩ ?_
  refine mm_iald C (mm_dec dk_X0_search 14 rfl) rfl (by omega) (by omega) ?_
  have g26 : -2147483648 ≤ (h18c.2.1 59 168) ∧ (h18c.2.1 59 168) ≤ 2147483647 := i18c.2.1 59 168
  refine mm_istore_nL (ls2 := [mR 58, mI p1, mI p2, mI (h18c.2.1 59 168)]) C (mm_dec dk_X0_search 15 rfl) (by decide) rfl ?_
  refine mm_iload_n C (mm_dec dk_X0_search 16 rfl) rfl ?_
  refine mm_iconst C (mm_dec dk_X0_search 17 rfl) ⟨by decide, by decide⟩ ?_
  have J40 : ∀ (w40_0 : (h18c.2.1 59 168 = -1 ∨ p2 < h18c.2.1 59 168)), mm_W x 0 0 40 [mU, mU, mU, mU] [] h18c := by
    intro w40_0
    refine mm_iconst C (mm_dec dk_X0_search 22 rfl) ⟨by decide, by decide⟩ ?_
    exact mm_iret C T (mm_dec dk_X0_search 23 rfl) (by decide : 0 ≤ 0) (by decide : 0 ≤ 0) ⟨_, rfl, ⟨⟨by omega, by omega⟩, i18c, f18c, by first | exact mm_bX8_no zLG rfl w40_0 (by omega) (by omega) (by omega) | exact mm_bX8_ok zLG rfl (by omega) (by omega) (by omega) y64_0 (by omega) (by omega) (by omega) (fun _ => ((mm_sm_pf 59 eh7 _).trans ((mm_sm_pf 59 eh6 _).trans ((mm_sm_pf 59 eh5 _).trans (mm_sm_pf 59 eh4 _))))) (by omega) (fun _ => ((mm_sm_pf 60 eh7 _).trans ((mm_sm_pf 60 eh6 _).trans ((mm_sm_pf 60 eh5 _).trans (mm_sm_pf 60 eh4 _))))) (fun j => f7.2 16 (by decide) j) rfl z19, by omega⟩⟩
  refine mm_icmp_eq (tgt := 40) C (mm_dec dk_X0_search 18 rfl) (by decide) (fun c32 => ?_) (fun c32 => ?_)
  · skip
    refine mm_fgt 0 ?_
    refine mm_fgt 1 ?_
    refine mm_fgt 2 ?_
    refine mm_fgt 3 ?_
    exact J40 (by omega)
  · skip
    refine mm_iload_n C (mm_dec dk_X0_search 19 rfl) rfl ?_
    refine mm_iload_n C (mm_dec dk_X0_search 20 rfl) rfl ?_
    refine mm_icmp_le (tgt := 42) C (mm_dec dk_X0_search 21 rfl) (by decide) (fun c37 => ?_) (fun c37 => ?_)
    · skip
      refine mm_aload_n C (mm_dec dk_X0_search 24 rfl) rfl ?_
      refine mm_iconst C (mm_dec dk_X0_search 25 rfl) ⟨by decide, by decide⟩ ?_
      refine mm_puti C fl_X0_34 (mm_dec dk_X0_search 26 rfl) rfl rfl rfl (Or.inr ⟨rfl, rfl, by omega⟩) ?_
      have i4 : mm_inv (mm_pf h18c 58 10 1) := mm_inv_pf i18c (show 0 ≤ 1 ∧ 1 ≤ 1 from ⟨by omega, by omega⟩) (by decide)
      have f4 : mm_fr [(7, 7), (7, 8), (58, 6), (58, 7), (58, 8), (58, 9), (58, 10)] [8, 9, 10, 11, 59, 60, 125] h (mm_pf h18c 58 10 1) := mm_fr_pf f18c (by decide)
      obtain ⟨h4, eh4⟩ : ∃ z, z = mm_pf h18c 58 10 1 := ⟨_, rfl⟩
      rw [← eh4] at i4 f4 ⊢
      have qh4 : h4.1 58 10 = 1 := by rw [eh4]; exact mm_pf_same _ _ _ _
      have qh4_27 : h4.1 58 5 = h18c.1 58 5 := by rw [eh4]; exact mm_pf_ne _ _ (by decide)
      have qh4_28 : h4.1 58 6 = h18c.1 58 6 := by rw [eh4]; exact mm_pf_ne _ _ (by decide)
      have qh4_29 : h4.1 58 7 = h18c.1 58 7 := by rw [eh4]; exact mm_pf_ne _ _ (by decide)
      have qh4_30 : h4.1 58 8 = h18c.1 58 8 := by rw [eh4]; exact mm_pf_ne _ _ (by decide)
      have qh4_31 : h4.1 58 9 = h18c.1 58 9 := by rw [eh4]; exact mm_pf_ne _ _ (by decide)
      refine mm_aload_n C (mm_dec dk_X0_search 27 rfl) rfl ?_
      refine mm_iconst C (mm_dec dk_X0_search 28 rfl) ⟨by decide, by decide⟩ ?_
      refine mm_puti C fl_X0_31 (mm_dec dk_X0_search 29 rfl) rfl rfl rfl (Or.inl ⟨rfl, rfl⟩) ?_
      have i5 : mm_inv (mm_pf h4 58 9 0) := mm_inv_pf i4 (show -2147483648 ≤ 0 ∧ 0 ≤ 2147483647 from ⟨by omega, by omega⟩) (by decide)
      have f5 : mm_fr [(7, 7), (7, 8), (58, 6), (58, 7), (58, 8), (58, 9), (58, 10)] [8, 9, 10, 11, 59, 60, 125] h (mm_pf h4 58 9 0) := mm_fr_pf f4 (by decide)
      obtain ⟨h5, eh5⟩ : ∃ z, z = mm_pf h4 58 9 0 := ⟨_, rfl⟩
      rw [← eh5] at i5 f5 ⊢
      have qh5 : h5.1 58 9 = 0 := by rw [eh5]; exact mm_pf_same _ _ _ _
      have qh5_32 : h5.1 58 5 = h4.1 58 5 := by rw [eh5]; exact mm_pf_ne _ _ (by decide)
      have qh5_33 : h5.1 58 6 = h4.1 58 6 := by rw [eh5]; exact mm_pf_ne _ _ (by decide)
      have qh5_34 : h5.1 58 7 = h4.1 58 7 := by rw [eh5]; exact mm_pf_ne _ _ (by decide)
      have qh5_35 : h5.1 58 8 = h4.1 58 8 := by rw [eh5]; exact mm_pf_ne _ _ (by decide)
      have qh5_36 : h5.1 58 10 = h4.1 58 10 := by rw [eh5]; exact mm_pf_ne _ _ (by decide)
      refine mm_aload_n C (mm_dec dk_X0_search 30 rfl) rfl ?_
      refine mm_iconst C (mm_dec dk_X0_search 31 rfl) ⟨by decide, by decide⟩ ?_
      refine mm_puti C fl_X0_25 (mm_dec dk_X0_search 32 rfl) rfl rfl rfl (Or.inl ⟨rfl, rfl⟩) ?_
      have i6 : mm_inv (mm_pf h5 58 7 0) := mm_inv_pf i5 (show -2147483648 ≤ 0 ∧ 0 ≤ 2147483647 from ⟨by omega, by omega⟩) (by decide)
      have f6 : mm_fr [(7, 7), (7, 8), (58, 6), (58, 7), (58, 8), (58, 9), (58, 10)] [8, 9, 10, 11, 59, 60, 125] h (mm_pf h5 58 7 0) := mm_fr_pf f5 (by decide)
      obtain ⟨h6, eh6⟩ : ∃ z, z = mm_pf h5 58 7 0 := ⟨_, rfl⟩
      rw [← eh6] at i6 f6 ⊢
      have qh6 : h6.1 58 7 = 0 := by rw [eh6]; exact mm_pf_same _ _ _ _
      have qh6_37 : h6.1 58 5 = h5.1 58 5 := by rw [eh6]; exact mm_pf_ne _ _ (by decide)
      have qh6_38 : h6.1 58 6 = h5.1 58 6 := by rw [eh6]; exact mm_pf_ne _ _ (by decide)
      have qh6_39 : h6.1 58 8 = h5.1 58 8 := by rw [eh6]; exact mm_pf_ne _ _ (by decide)
      have qh6_40 : h6.1 58 9 = h5.1 58 9 := by rw [eh6]; exact mm_pf_ne _ _ (by decide)
      have qh6_41 : h6.1 58 10 = h5.1 58 10 := by rw [eh6]; exact mm_pf_ne _ _ (by decide)
      refine mm_aload_n C (mm_dec dk_X0_search 33 rfl) rfl ?_
      refine mm_iload_n C (mm_dec dk_X0_search 34 rfl) rfl ?_
      refine mm_puti C fl_X0_28 (mm_dec dk_X0_search 35 rfl) rfl rfl rfl (Or.inl ⟨rfl, rfl⟩) ?_
      have i7 : mm_inv (mm_pf h6 58 8 (h18c.2.1 59 168)) := mm_inv_pf i6 (show -2147483648 ≤ (h18c.2.1 59 168) ∧ (h18c.2.1 59 168) ≤ 2147483647 from ⟨by omega, by omega⟩) (by decide)
      have f7 : mm_fr [(7, 7), (7, 8), (58, 6), (58, 7), (58, 8), (58, 9), (58, 10)] [8, 9, 10, 11, 59, 60, 125] h (mm_pf h6 58 8 (h18c.2.1 59 168)) := mm_fr_pf f6 (by decide)
      obtain ⟨h7, eh7⟩ : ∃ z, z = mm_pf h6 58 8 (h18c.2.1 59 168) := ⟨_, rfl⟩
      rw [← eh7] at i7 f7 ⊢
      have qh7 : h7.1 58 8 = (h18c.2.1 59 168) := by rw [eh7]; exact mm_pf_same _ _ _ _
      have qh7_42 : h7.1 58 5 = h6.1 58 5 := by rw [eh7]; exact mm_pf_ne _ _ (by decide)
      have qh7_43 : h7.1 58 6 = h6.1 58 6 := by rw [eh7]; exact mm_pf_ne _ _ (by decide)
      have qh7_44 : h7.1 58 7 = h6.1 58 7 := by rw [eh7]; exact mm_pf_ne _ _ (by decide)
      have qh7_45 : h7.1 58 9 = h6.1 58 9 := by rw [eh7]; exact mm_pf_ne _ _ (by decide)
      have qh7_46 : h7.1 58 10 = h6.1 58 10 := by rw [eh7]; exact mm_pf_ne _ _ (by decide)
      refine mm_aload_n C (mm_dec dk_X0_search 36 rfl) rfl ?_
      refine mm_iload_n C (mm_dec dk_X0_search 37 rfl) rfl ?_
      refine mm_cVv (rest := []) C1 ev_X0_59 (mm_dec dk_X0_search 38 rfl) (c_X0_goThroughSets_tq x.2.1 hl (d - 1) (by omega) h7 i7 p2 (by omega)) rfl rfl (Nat.le_of_ble_eq_true rfl) ⟨by decide, by decide⟩ rfl (fun h64c hp64 => ?_) (fun _ _ q => q.elim)
      obtain ⟨i64c, g64c, y64_0, y64_1⟩ := hp64
      have f64c : mm_fr [(7, 7), (7, 8), (58, 6), (58, 7), (58, 8), (58, 9), (58, 10)] [8, 9, 10, 11, 59, 60, 125] h h64c := mm_fr_tr f7 g64c (by decide +kernel)
      have q64c_48 : h64c.1 58 5 = h7.1 58 5 := g64c.1 58 5 (by decide)
      have q64c_49 : h64c.1 58 6 = h7.1 58 6 := g64c.1 58 6 (by decide)
      have q64c_50 : h64c.1 58 10 = h7.1 58 10 := g64c.1 58 10 (by decide)
      have g51 : -2147483648 ≤ (h64c.1 58 7) ∧ (h64c.1 58 7) ≤ 2147483647 := i64c.1 58 7
      have g52 : -2147483648 ≤ (h64c.1 58 8) ∧ (h64c.1 58 8) ≤ 2147483647 := i64c.1 58 8
      have g53 : -2147483648 ≤ (h64c.1 58 9) ∧ (h64c.1 58 9) ≤ 2147483647 := i64c.1 58 9
      refine mm_aload_n C (mm_dec dk_X0_search 39 rfl) rfl ?_
      refine mm_geti C fl_X0_25 (mm_dec dk_X0_search 40 rfl) rfl rfl (Or.inl rfl) ?_
      exact mm_iret C T (mm_dec dk_X0_search 41 rfl) (by decide : 0 ≤ 0) (by decide : 0 ≤ 0) ⟨_, rfl, ⟨⟨by omega, by omega⟩, i64c, f64c, by first | exact mm_bX8_no zLG rfl w40_0 (by omega) (by omega) (by omega) | exact mm_bX8_ok zLG rfl (by omega) (by omega) (by omega) y64_0 (by omega) (by omega) (by omega) (fun _ => ((mm_sm_pf 59 eh7 _).trans ((mm_sm_pf 59 eh6 _).trans ((mm_sm_pf 59 eh5 _).trans (mm_sm_pf 59 eh4 _))))) (by omega) (fun _ => ((mm_sm_pf 60 eh7 _).trans ((mm_sm_pf 60 eh6 _).trans ((mm_sm_pf 60 eh5 _).trans (mm_sm_pf 60 eh4 _))))) (fun j => f7.2 16 (by decide) j) rfl z19, by omega⟩⟩
    · skip
      refine mm_fgt 0 ?_
      refine mm_fgt 1 ?_
      refine mm_fgt 2 ?_
      refine mm_fgt 3 ?_
      exact J40 (by omega)
set_option maxRecDepth 100000 in
set_option maxHeartbeats 4000000 in
theorem c_X0_search_zq (l : Launch) (hl : l.stackTraces = false) (d : Nat) (hd : 5 ≤ d) (h : mH) (i0 : mm_inv h) (p1 : Int) (p2 : Int) (bp1 : 0 ≤ p1 ∧ p1 ≤ 7) : mm_MetZ l d yX0_search cX0_search 4 (some .int) [mR 58, mI p1, mI p2] h (mm_pi fun r h2 => (-2147483648 ≤ r ∧ r ≤ 2147483647) ∧ mm_inv h2 ∧ mm_fr [(7, 7), (7, 8), (58, 5), (58, 6), (58, 7), (58, 8), (58, 9), (58, 10)] [8, 9, 10, 11, 59, 60, 125] h h2 ∧ mm_bX8 h h2 p1 p2 r) 1 49152 := by
  refine mm_ofWZ (ls := [mR 58, mI p1, mI p2, mU]) hl (by decide) rfl (Nat.le_of_ble_eq_true rfl) ?_
  intro x hxl C T
  subst hxl
  have C1 := mm_OK_le (d' := d - 1 + 1) (by omega) C
  refine mm_rng (fun hr _ => ?_)
  have ap1 : -2147483648 ≤ p1 ∧ p1 < 2147483648 := mm_ok_at hr (i := 1) rfl
  have ap2 : -2147483648 ≤ p2 ∧ p2 < 2147483648 := mm_ok_at hr (i := 2) rfl
  have f0 : mm_fr [(7, 7), (7, 8), (58, 5), (58, 6), (58, 7), (58, 8), (58, 9), (58, 10)] [8, 9, 10, 11, 59, 60, 125] h h := mm_fr_rf
  have g1 : 0 ≤ h.1 58 5 ∧ h.1 58 5 ≤ 1 := i0.1 58 5
  have g2 : -2147483648 ≤ h.1 58 7 ∧ h.1 58 7 ≤ 2147483647 := i0.1 58 7
  have g3 : -2147483648 ≤ h.1 58 8 ∧ h.1 58 8 ≤ 2147483647 := i0.1 58 8
  have g4 : -2147483648 ≤ h.1 58 9 ∧ h.1 58 9 ≤ 2147483647 := i0.1 58 9
  have g5 : 0 ≤ h.1 58 10 ∧ h.1 58 10 ≤ 1 := i0.1 58 10
  have g6 : 0 ≤ h.1 58 6 ∧ h.1 58 6 ≤ 12 := i0.1 58 6
  refine mm_aload_n C (mm_dec dk_X0_search 0 rfl) rfl ?_
  refine mm_aload_n C (mm_dec dk_X0_search 1 rfl) rfl ?_
  refine mm_getr (t := 14) C fl_X0_46 (mm_dec dk_X0_search 2 rfl) rfl rfl (mm_ref i0 rfl) ?_
  refine mm_iload_n C (mm_dec dk_X0_search 3 rfl) rfl ?_
  refine mm_iconst C (mm_dec dk_X0_search 4 rfl) ⟨by decide, by decide⟩ ?_
  refine mm_aload_n C (mm_dec dk_X0_search 5 rfl) rfl ?_
  refine mm_getr (t := 60) C fl_X0_15 (mm_dec dk_X0_search 6 rfl) rfl rfl (mm_ref i0 rfl) ?_
  refine mm_cVi (rest := [mR 58]) C1 ev_X0_50 (mm_dec dk_X0_search 7 rfl) (c_X2_fillRow_60_q x.2.1 hl (d - 1) (by omega) h i0 p1 0 ⟨by omega, by omega⟩ ⟨by omega, by omega⟩) rfl rfl (Nat.le_of_ble_eq_true rfl) ⟨by decide, by decide⟩ rfl (fun r11 h11c hp11 => ?_) (fun _ _ q => q.elim)
  obtain ⟨b11, i11c, g11c, y11_0, y11_1, y11_2⟩ := hp11
  have f11c : mm_fr [(7, 7), (7, 8), (58, 5), (58, 6), (58, 7), (58, 8), (58, 9), (58, 10)] [8, 9, 10, 11, 59, 60, 125] h h11c := mm_fr_tr f0 g11c (by decide +kernel)
  have q11c_8 : h11c.1 58 5 = h.1 58 5 := g11c.1 58 5 (by decide)
  have q11c_9 : h11c.1 58 6 = h.1 58 6 := g11c.1 58 6 (by decide)
  have q11c_10 : h11c.1 58 7 = h.1 58 7 := g11c.1 58 7 (by decide)
  have q11c_11 : h11c.1 58 8 = h.1 58 8 := g11c.1 58 8 (by decide)
  have q11c_12 : h11c.1 58 9 = h.1 58 9 := g11c.1 58 9 (by decide)
  have q11c_13 : h11c.1 58 10 = h.1 58 10 := g11c.1 58 10 (by decide)
  refine mm_puti C fl_X0_21 (mm_dec dk_X0_search 8 rfl) rfl rfl rfl (Or.inl ⟨rfl, rfl⟩) ?_
  have i2 : mm_inv (mm_pf h11c 58 6 r11) := mm_inv_pf i11c (show 0 ≤ r11 ∧ r11 ≤ 12 from ⟨by omega, by omega⟩) (by decide)
  have f2 : mm_fr [(7, 7), (7, 8), (58, 5), (58, 6), (58, 7), (58, 8), (58, 9), (58, 10)] [8, 9, 10, 11, 59, 60, 125] h (mm_pf h11c 58 6 r11) := mm_fr_pf f11c (by decide)
  obtain ⟨h2, eh2⟩ : ∃ z, z = mm_pf h11c 58 6 r11 := ⟨_, rfl⟩
  rw [← eh2] at i2 f2 ⊢
  have qh2 : h2.1 58 6 = r11 := by rw [eh2]; exact mm_pf_same _ _ _ _
  have qh2_14 : h2.1 58 5 = h11c.1 58 5 := by rw [eh2]; exact mm_pf_ne _ _ (by decide)
  have qh2_15 : h2.1 58 7 = h11c.1 58 7 := by rw [eh2]; exact mm_pf_ne _ _ (by decide)
  have qh2_16 : h2.1 58 8 = h11c.1 58 8 := by rw [eh2]; exact mm_pf_ne _ _ (by decide)
  have qh2_17 : h2.1 58 9 = h11c.1 58 9 := by rw [eh2]; exact mm_pf_ne _ _ (by decide)
  have qh2_18 : h2.1 58 10 = h11c.1 58 10 := by rw [eh2]; exact mm_pf_ne _ _ (by decide)
  refine mm_aload_n C (mm_dec dk_X0_search 9 rfl) rfl ?_
  refine mm_cVv (rest := []) C1 ev_X0_56 (mm_dec dk_X0_search 10 rfl) (c_X0_measureLegs_q x.2.1 hl (d - 1) (by omega) h2 i2 ) rfl rfl (Nat.le_of_ble_eq_true rfl) ⟨by decide, by decide⟩ rfl (fun h18c hp18 => ?_) (fun _ _ q => q.elim)
  obtain ⟨i18c, g18c, y18_0⟩ := hp18
  have f18c : mm_fr [(7, 7), (7, 8), (58, 5), (58, 6), (58, 7), (58, 8), (58, 9), (58, 10)] [8, 9, 10, 11, 59, 60, 125] h h18c := mm_fr_tr f2 g18c (by decide +kernel)
  have q18c_20 : h18c.1 58 5 = h2.1 58 5 := g18c.1 58 5 (by decide)
  have q18c_21 : h18c.1 58 6 = h2.1 58 6 := g18c.1 58 6 (by decide)
  have q18c_22 : h18c.1 58 7 = h2.1 58 7 := g18c.1 58 7 (by decide)
  have q18c_23 : h18c.1 58 8 = h2.1 58 8 := g18c.1 58 8 (by decide)
  have q18c_24 : h18c.1 58 9 = h2.1 58 9 := g18c.1 58 9 (by decide)
  have q18c_25 : h18c.1 58 10 = h2.1 58 10 := g18c.1 58 10 (by decide)
  have zLG : mm_LG h h18c p1 := mm_LG_of (mm_rw_sm y11_1 (fun j => mm_sm_pf 60 eh2 j)) y11_2 (by rw [eh2]; exact mm_pf_same _ _ _ _) y18_0 (mm_ldx_fr f2 (by decide)) (f2.1 1 7 (by decide)) (f2.1 1 8 (by decide)) (fun j => f2.2 15 (by decide) j) (g18c.1 58 6 (by decide)) (fun j => g18c.2 60 (by decide) j) (by omega)
  have z19 : 0 ≤ h.2.1 19 p1 := (i0.2.1 19 _).1
  refine mm_aload_n C (mm_dec dk_X0_search 11 rfl) rfl ?_
  refine mm_getr (t := 59) C fl_X0_11 (mm_dec dk_X0_search 12 rfl) rfl rfl (mm_ref i18c rfl) ?_
  refine mm_sipush C (mm_dec dk_X0_search 13 rfl) ⟨by decide, by decide⟩ ?_
  refine mm_iald C (mm_dec dk_X0_search 14 rfl) rfl (by omega) (by omega) ?_
  have g26 : -2147483648 ≤ (h18c.2.1 59 168) ∧ (h18c.2.1 59 168) ≤ 2147483647 := i18c.2.1 59 168
  refine mm_istore_nL (ls2 := [mR 58, mI p1, mI p2, mI (h18c.2.1 59 168)]) C (mm_dec dk_X0_search 15 rfl) (by decide) rfl ?_
  refine mm_iload_n C (mm_dec dk_X0_search 16 rfl) rfl ?_
  refine mm_iconst C (mm_dec dk_X0_search 17 rfl) ⟨by decide, by decide⟩ ?_
  have J40 : ∀ (w40_0 : (h18c.2.1 59 168 = -1 ∨ p2 < h18c.2.1 59 168)), mm_W x 0 0 40 [mU, mU, mU, mU] [] h18c := by
    intro w40_0
    refine mm_iconst C (mm_dec dk_X0_search 22 rfl) ⟨by decide, by decide⟩ ?_
    exact mm_iretZ C T (mm_dec dk_X0_search 23 rfl) (by decide : 0 ≤ 1) (by decide : 0 ≤ 49152) (⟨Nat.zero_le _, Nat.zero_le _⟩) ⟨_, rfl, ⟨⟨by omega, by omega⟩, i18c, f18c, by first | exact mm_bX8_no zLG rfl w40_0 (by omega) (by omega) (by omega) | exact mm_bX8_ok zLG rfl (by omega) (by omega) (by omega) y64_0 (by omega) (by omega) (by omega) (fun _ => ((mm_sm_pf 59 eh7 _).trans ((mm_sm_pf 59 eh6 _).trans ((mm_sm_pf 59 eh5 _).trans (mm_sm_pf 59 eh4 _))))) (by omega) (fun _ => ((mm_sm_pf 60 eh7 _).trans ((mm_sm_pf 60 eh6 _).trans ((mm_sm_pf 60 eh5 _).trans (mm_sm_pf 60 eh4 _))))) (fun j => f7.2 16 (by decide) j) rfl z19⟩⟩
  refine mm_icmp_eq (tgt := 40) C (mm_dec dk_X0_search 18 rfl) (by decide) (fun c32 => ?_) (fun c32 => ?_)
  · skip
    refine mm_fgt 0 ?_
    refine mm_fgt 1 ?_
    refine mm_fgt 2 ?_
    refine mm_fgt 3 ?_
    exact J40 (by omega)
  · skip
    refine mm_iload_n C (mm_dec dk_X0_search 19 rfl) rfl ?_
    refine mm_iload_n C (mm_dec dk_X0_search 20 rfl) rfl ?_
    refine mm_icmp_le (tgt := 42) C (mm_dec dk_X0_search 21 rfl) (by decide) (fun c37 => ?_) (fun c37 => ?_)
    · skip
      refine mm_aload_n C (mm_dec dk_X0_search 24 rfl) rfl ?_
      refine mm_iconst C (mm_dec dk_X0_search 25 rfl) ⟨by decide, by decide⟩ ?_
      refine mm_puti C fl_X0_34 (mm_dec dk_X0_search 26 rfl) rfl rfl rfl (Or.inr ⟨rfl, rfl, by omega⟩) ?_
      have i4 : mm_inv (mm_pf h18c 58 10 1) := mm_inv_pf i18c (show 0 ≤ 1 ∧ 1 ≤ 1 from ⟨by omega, by omega⟩) (by decide)
      have f4 : mm_fr [(7, 7), (7, 8), (58, 5), (58, 6), (58, 7), (58, 8), (58, 9), (58, 10)] [8, 9, 10, 11, 59, 60, 125] h (mm_pf h18c 58 10 1) := mm_fr_pf f18c (by decide)
      obtain ⟨h4, eh4⟩ : ∃ z, z = mm_pf h18c 58 10 1 := ⟨_, rfl⟩
      rw [← eh4] at i4 f4 ⊢
      have qh4 : h4.1 58 10 = 1 := by rw [eh4]; exact mm_pf_same _ _ _ _
      have qh4_27 : h4.1 58 5 = h18c.1 58 5 := by rw [eh4]; exact mm_pf_ne _ _ (by decide)
      have qh4_28 : h4.1 58 6 = h18c.1 58 6 := by rw [eh4]; exact mm_pf_ne _ _ (by decide)
      have qh4_29 : h4.1 58 7 = h18c.1 58 7 := by rw [eh4]; exact mm_pf_ne _ _ (by decide)
      have qh4_30 : h4.1 58 8 = h18c.1 58 8 := by rw [eh4]; exact mm_pf_ne _ _ (by decide)
      have qh4_31 : h4.1 58 9 = h18c.1 58 9 := by rw [eh4]; exact mm_pf_ne _ _ (by decide)
      refine mm_aload_n C (mm_dec dk_X0_search 27 rfl) rfl ?_
      refine mm_iconst C (mm_dec dk_X0_search 28 rfl) ⟨by decide, by decide⟩ ?_
      refine mm_puti C fl_X0_31 (mm_dec dk_X0_search 29 rfl) rfl rfl rfl (Or.inl ⟨rfl, rfl⟩) ?_
      have i5 : mm_inv (mm_pf h4 58 9 0) := mm_inv_pf i4 (show -2147483648 ≤ 0 ∧ 0 ≤ 2147483647 from ⟨by omega, by omega⟩) (by decide)
      have f5 : mm_fr [(7, 7), (7, 8), (58, 5), (58, 6), (58, 7), (58, 8), (58, 9), (58, 10)] [8, 9, 10, 11, 59, 60, 125] h (mm_pf h4 58 9 0) := mm_fr_pf f4 (by decide)
      obtain ⟨h5, eh5⟩ : ∃ z, z = mm_pf h4 58 9 0 := ⟨_, rfl⟩
      rw [← eh5] at i5 f5 ⊢
      have qh5 : h5.1 58 9 = 0 := by rw [eh5]; exact mm_pf_same _ _ _ _
      have qh5_32 : h5.1 58 5 = h4.1 58 5 := by rw [eh5]; exact mm_pf_ne _ _ (by decide)
      have qh5_33 : h5.1 58 6 = h4.1 58 6 := by rw [eh5]; exact mm_pf_ne _ _ (by decide)
      have qh5_34 : h5.1 58 7 = h4.1 58 7 := by rw [eh5]; exact mm_pf_ne _ _ (by decide)
      have qh5_35 : h5.1 58 8 = h4.1 58 8 := by rw [eh5]; exact mm_pf_ne _ _ (by decide)
      have qh5_36 : h5.1 58 10 = h4.1 58 10 := by rw [eh5]; exact mm_pf_ne _ _ (by decide)
      refine mm_aload_n C (mm_dec dk_X0_search 30 rfl) rfl ?_
      refine mm_iconst C (mm_dec dk_X0_search 31 rfl) ⟨by decide, by decide⟩ ?_
      refine mm_puti C fl_X0_25 (mm_dec dk_X0_search 32 rfl) rfl rfl rfl (Or.inl ⟨rfl, rfl⟩) ?_
      have i6 : mm_inv (mm_pf h5 58 7 0) := mm_inv_pf i5 (show -2147483648 ≤ 0 ∧ 0 ≤ 2147483647 from ⟨by omega, by omega⟩) (by decide)
      have f6 : mm_fr [(7, 7), (7, 8), (58, 5), (58, 6), (58, 7), (58, 8), (58, 9), (58, 10)] [8, 9, 10, 11, 59, 60, 125] h (mm_pf h5 58 7 0) := mm_fr_pf f5 (by decide)
      obtain ⟨h6, eh6⟩ : ∃ z, z = mm_pf h5 58 7 0 := ⟨_, rfl⟩
      rw [← eh6] at i6 f6 ⊢
      have qh6 : h6.1 58 7 = 0 := by rw [eh6]; exact mm_pf_same _ _ _ _
      have qh6_37 : h6.1 58 5 = h5.1 58 5 := by rw [eh6]; exact mm_pf_ne _ _ (by decide)
      have qh6_38 : h6.1 58 6 = h5.1 58 6 := by rw [eh6]; exact mm_pf_ne _ _ (by decide)
      have qh6_39 : h6.1 58 8 = h5.1 58 8 := by rw [eh6]; exact mm_pf_ne _ _ (by decide)
      have qh6_40 : h6.1 58 9 = h5.1 58 9 := by rw [eh6]; exact mm_pf_ne _ _ (by decide)
      have qh6_41 : h6.1 58 10 = h5.1 58 10 := by rw [eh6]; exact mm_pf_ne _ _ (by decide)
      refine mm_aload_n C (mm_dec dk_X0_search 33 rfl) rfl ?_
      refine mm_iload_n C (mm_dec dk_X0_search 34 rfl) rfl ?_
      refine mm_puti C fl_X0_28 (mm_dec dk_X0_search 35 rfl) rfl rfl rfl (Or.inl ⟨rfl, rfl⟩) ?_
      have i7 : mm_inv (mm_pf h6 58 8 (h18c.2.1 59 168)) := mm_inv_pf i6 (show -2147483648 ≤ (h18c.2.1 59 168) ∧ (h18c.2.1 59 168) ≤ 2147483647 from ⟨by omega, by omega⟩) (by decide)
      have f7 : mm_fr [(7, 7), (7, 8), (58, 5), (58, 6), (58, 7), (58, 8), (58, 9), (58, 10)] [8, 9, 10, 11, 59, 60, 125] h (mm_pf h6 58 8 (h18c.2.1 59 168)) := mm_fr_pf f6 (by decide)
      obtain ⟨h7, eh7⟩ : ∃ z, z = mm_pf h6 58 8 (h18c.2.1 59 168) := ⟨_, rfl⟩
      rw [← eh7] at i7 f7 ⊢
      have qh7 : h7.1 58 8 = (h18c.2.1 59 168) := by rw [eh7]; exact mm_pf_same _ _ _ _
      have qh7_42 : h7.1 58 5 = h6.1 58 5 := by rw [eh7]; exact mm_pf_ne _ _ (by decide)
      have qh7_43 : h7.1 58 6 = h6.1 58 6 := by rw [eh7]; exact mm_pf_ne _ _ (by decide)
      have qh7_44 : h7.1 58 7 = h6.1 58 7 := by rw [eh7]; exact mm_pf_ne _ _ (by decide)
      have qh7_45 : h7.1 58 9 = h6.1 58 9 := by rw [eh7]; exact mm_pf_ne _ _ (by decide)
      have qh7_46 : h7.1 58 10 = h6.1 58 10 := by rw [eh7]; exact mm_pf_ne _ _ (by decide)
      refine mm_aload_n C (mm_dec dk_X0_search 36 rfl) rfl ?_
      refine mm_iload_n C (mm_dec dk_X0_search 37 rfl) rfl ?_
      refine mm_cVv (rest := []) C1 ev_X0_59 (mm_dec dk_X0_search 38 rfl) (c_X0_goThroughSets_zq x.2.1 hl (d - 1) (by omega) h7 i7 p2) rfl rfl (Nat.le_of_ble_eq_true rfl) ⟨by decide, by decide⟩ rfl (fun h64c hp64 => ?_) (fun _ _ q => q.elim)
      obtain ⟨i64c, g64c, y64_0, y64_1⟩ := hp64
      have f64c : mm_fr [(7, 7), (7, 8), (58, 5), (58, 6), (58, 7), (58, 8), (58, 9), (58, 10)] [8, 9, 10, 11, 59, 60, 125] h h64c := mm_fr_tr f7 g64c (by decide +kernel)
      have q64c_48 : h64c.1 58 6 = h7.1 58 6 := g64c.1 58 6 (by decide)
      have q64c_49 : h64c.1 58 10 = h7.1 58 10 := g64c.1 58 10 (by decide)
      have g50 : 0 ≤ (h64c.1 58 5) ∧ (h64c.1 58 5) ≤ 1 := i64c.1 58 5
      have g51 : -2147483648 ≤ (h64c.1 58 7) ∧ (h64c.1 58 7) ≤ 2147483647 := i64c.1 58 7
      have g52 : -2147483648 ≤ (h64c.1 58 8) ∧ (h64c.1 58 8) ≤ 2147483647 := i64c.1 58 8
      have g53 : -2147483648 ≤ (h64c.1 58 9) ∧ (h64c.1 58 9) ≤ 2147483647 := i64c.1 58 9
      refine mm_aload_n C (mm_dec dk_X0_search 39 rfl) rfl ?_
      refine mm_geti C fl_X0_25 (mm_dec dk_X0_search 40 rfl) rfl rfl (Or.inl rfl) ?_
      exact mm_iretZ C T (mm_dec dk_X0_search 41 rfl) (by decide : 1 ≤ 1) (by decide : 49152 ≤ 49152) (mm_zf_1 (by omega)) ⟨_, rfl, ⟨⟨by omega, by omega⟩, i64c, f64c, by first | exact mm_bX8_no zLG rfl w40_0 (by omega) (by omega) (by omega) | exact mm_bX8_ok zLG rfl (by omega) (by omega) (by omega) y64_0 (by omega) (by omega) (by omega) (fun _ => ((mm_sm_pf 59 eh7 _).trans ((mm_sm_pf 59 eh6 _).trans ((mm_sm_pf 59 eh5 _).trans (mm_sm_pf 59 eh4 _))))) (by omega) (fun _ => ((mm_sm_pf 60 eh7 _).trans ((mm_sm_pf 60 eh6 _).trans ((mm_sm_pf 60 eh5 _).trans (mm_sm_pf 60 eh4 _))))) (fun j => f7.2 16 (by decide) j) rfl z19⟩⟩
    · skip
      refine mm_fgt 0 ?_
      refine mm_fgt 1 ?_
      refine mm_fgt 2 ?_
      refine mm_fgt 3 ?_
      exact J40 (by omega)
set_option maxRecDepth 100000 in
set_option maxHeartbeats 4000000 in
theorem c_X11_best_tq (l : Launch) (hl : l.stackTraces = false) (d : Nat) (hd : 9 ≤ d) (h : mH) (i0 : mm_inv h) (p1 : Int) (p2 : Int) (t0 : h.1 58 5 = 1) : mm_Met l d yX11_best cX11_best 3 (some .int) [mR 0, mI p1, mI p2] h (mm_pi fun r h2 => (-2147483648 ≤ r ∧ r ≤ 2147483647) ∧ mm_inv h2 ∧ mm_fr [(7, 7), (7, 8), (58, 6), (58, 7), (58, 8), (58, 9), (58, 10)] [8, 9, 10, 11, 59, 60, 125] h h2 ∧ (0 ≤ p1 ∧ p1 < h.1 14 8) ∧ 0 ≤ p2 ∧ mm_bZ8 h h2 p1 p2 r ∧ h2.1 58 5 = 1) (fun E h' => (mm_xn h E h' ∧ (p1 < 0 ∨ h.1 14 8 ≤ p1)) ∨ (mm_xi h E h' ∧ ((0 ≤ p1 ∧ p1 < h.1 14 8) ∧ p2 < 0))) 2 12 := by
  refine mm_ofW (ls := [mR 0, mI p1, mI p2]) hl (by decide) rfl (Nat.le_of_ble_eq_true rfl) ?_
  intro x hxl C T hnm htb
  subst hxl
  have C1 := mm_OK_le (d' := d - 1 + 1) (by omega) C
  have C8 := mm_OK_le (d' := d - 8 + 8) (by omega) C
  refine mm_rng (fun hr _ => ?_)
  have ap1 : -2147483648 ≤ p1 ∧ p1 < 2147483648 := mm_ok_at hr (i := 1) rfl
  have ap2 : -2147483648 ≤ p2 ∧ p2 < 2147483648 := mm_ok_at hr (i := 2) rfl
  have f0 : mm_fr [(7, 7), (7, 8), (58, 6), (58, 7), (58, 8), (58, 9), (58, 10)] [8, 9, 10, 11, 59, 60, 125] h h := mm_fr_rf
  have g1 : -2147483648 ≤ h.1 58 7 ∧ h.1 58 7 ≤ 2147483647 := i0.1 58 7
  have g2 : -2147483648 ≤ h.1 58 8 ∧ h.1 58 8 ≤ 2147483647 := i0.1 58 8
  have g3 : -2147483648 ≤ h.1 58 9 ∧ h.1 58 9 ≤ 2147483647 := i0.1 58 9
  have g4 : 0 ≤ h.1 58 10 ∧ h.1 58 10 ≤ 1 := i0.1 58 10
  have g5 : 0 ≤ h.1 14 8 ∧ h.1 14 8 ≤ 8 := i0.1 14 8
  have g6 : 0 ≤ h.1 58 5 ∧ h.1 58 5 ≤ 1 := i0.1 58 5
  refine mm_aload_n C (mm_dec dk_X11_best 0 rfl) rfl ?_
  refine mm_iload_n C (mm_dec dk_X11_best 1 rfl) rfl ?_
  refine mm_cVv (rest := []) C1 ev_X11_207 (mm_dec dk_X11_best 2 rfl) (c_X11_needCourse_q x.2.1 hl (d - 1) (by omega) h i0 p1) rfl rfl (Nat.le_of_ble_eq_true rfl) ⟨by decide, by decide⟩ rfl (fun h2c hp2 => ?_) (fun E hx q => mm_out C T htb (by decide) (by decide) (by obtain ⟨q1, q2⟩ := q; exact Or.inl ⟨q1, by omega⟩))
  obtain ⟨z2, k2_0, k2_1⟩ := hp2
  rw [z2]
  refine mm_iload_n C (mm_dec dk_X11_best 3 rfl) rfl ?_
  refine mm_if_ge (tgt := 20) C (mm_dec dk_X11_best 4 rfl) (by decide) (fun c6 => ?_) (fun c6 => ?_)
  · skip
    refine mm_aload_n C (mm_dec dk_X11_best 10 rfl) rfl ?_
    refine mm_getr (t := 14) C fl_X11_28 (mm_dec dk_X11_best 11 rfl) rfl rfl (mm_ref i0 rfl) ?_
    refine mm_iload_n C (mm_dec dk_X11_best 12 rfl) rfl ?_
    refine mm_cVi (rest := []) C1 ev_X11_220 (mm_dec dk_X11_best 13 rfl) (c_X2_isFree x.2.1 hl (d - 1) (by omega) h i0 p1 ⟨by omega, by omega⟩) rfl rfl (Nat.le_of_ble_eq_true rfl) ⟨by decide, by decide⟩ rfl (fun r25 h25c hp25 => ?_) (fun _ _ q => q.elim)
    obtain ⟨z25, y25⟩ := hp25
    rw [z25, y25]
    have g9 : 0 ≤ (h.2.1 17 p1) ∧ (h.2.1 17 p1) ≤ 1 := i0.2.1 17 p1
    refine mm_if_ne (tgt := 33) C (mm_dec dk_X11_best 14 rfl) (by decide) (fun c28 => ?_) (fun c28 => ?_)
    · skip
      refine mm_aload_n C (mm_dec dk_X11_best 17 rfl) rfl ?_
      refine mm_getr (t := 58) C fl_X11_78 (mm_dec dk_X11_best 18 rfl) rfl rfl (mm_ref i0 rfl) ?_
      refine mm_iload_n C (mm_dec dk_X11_best 19 rfl) rfl ?_
      refine mm_iload_n C (mm_dec dk_X11_best 20 rfl) rfl ?_
      refine mm_cVi (rest := []) C1 ev_X11_357 (mm_dec dk_X11_best 21 rfl) (c_X0_search_tq x.2.1 hl (d - 1) (by omega) h i0 p1 p2 ⟨by omega, by omega⟩ (by omega)) rfl rfl (Nat.le_of_ble_eq_true rfl) ⟨by decide, by decide⟩ rfl (fun r39 h39c hp39 => ?_) (fun _ _ q => q.elim)
      obtain ⟨b39, i39c, g39c, y39_0, y39_1⟩ := hp39
      have f39c : mm_fr [(7, 7), (7, 8), (58, 6), (58, 7), (58, 8), (58, 9), (58, 10)] [8, 9, 10, 11, 59, 60, 125] h h39c := mm_fr_tr f0 g39c (by decide +kernel)
      have q39c_11 : h39c.1 14 8 = h.1 14 8 := g39c.1 14 8 (by decide)
      have q39c_12 : h39c.1 58 5 = h.1 58 5 := g39c.1 58 5 (by decide)
      have g13 : -2147483648 ≤ (h39c.1 58 7) ∧ (h39c.1 58 7) ≤ 2147483647 := i39c.1 58 7
      have g14 : -2147483648 ≤ (h39c.1 58 8) ∧ (h39c.1 58 8) ≤ 2147483647 := i39c.1 58 8
      have g15 : -2147483648 ≤ (h39c.1 58 9) ∧ (h39c.1 58 9) ≤ 2147483647 := i39c.1 58 9
      have g16 : 0 ≤ (h39c.1 58 10) ∧ (h39c.1 58 10) ≤ 1 := i39c.1 58 10
      exact mm_iret C T (mm_dec dk_X11_best 22 rfl) (by decide : 1 ≤ 2) (by decide : 6 ≤ 12) ⟨_, rfl, ⟨⟨by omega, by omega⟩, i39c, f39c, by omega, by omega, by first | exact Or.inl ⟨by omega, rfl, rfl, rfl, rfl⟩ | exact Or.inl ⟨by omega, rfl, by omega, by omega, by omega⟩ | exact Or.inr ⟨by omega, y39_0⟩, by omega⟩⟩
    · skip
      refine mm_iconst C (mm_dec dk_X11_best 15 rfl) ⟨by decide, by decide⟩ ?_
      exact mm_iret C T (mm_dec dk_X11_best 16 rfl) (by decide : 1 ≤ 2) (by decide : 6 ≤ 12) ⟨_, rfl, ⟨⟨by omega, by omega⟩, i0, f0, by omega, by omega, by first | exact Or.inl ⟨by omega, rfl, rfl, rfl, rfl⟩ | exact Or.inl ⟨by omega, rfl, by omega, by omega, by omega⟩ | exact Or.inr ⟨by omega, y39_0⟩, by omega⟩⟩
  · skip
    exact mm_throwXW C8 T htb th_iae (i := 17) rfl (mm_dec dk_X11_best 5 rfl) (mm_dec dk_X11_best 6 rfl) (mm_dec dk_X11_best 7 rfl) (mm_dec dk_X11_best 8 rfl) (mm_dec dk_X11_best 9 rfl) (Nat.le_of_ble_eq_true rfl) ⟨by decide, by decide⟩ ⟨by decide, by decide⟩ (Or.inr ⟨⟨rfl, rfl⟩, by omega⟩)
set_option maxRecDepth 100000 in
set_option maxHeartbeats 4000000 in
theorem c_X11_best_xq (l : Launch) (hl : l.stackTraces = false) (d : Nat) (hd : 9 ≤ d) (h : mH) (i0 : mm_inv h) (p1 : Int) (p2 : Int) (t0 : (p1 < 0 ∨ h.1 14 8 ≤ p1 ∨ p2 < 0)) : mm_Met l d yX11_best cX11_best 3 (some .int) [mR 0, mI p1, mI p2] h (mm_pi fun r h2 => (-2147483648 ≤ r ∧ r ≤ 2147483647) ∧ h2 = h ∧ (p1 < 0 ∧ 0 ≤ p1)) (fun E h' => (mm_xn h E h' ∧ (p1 < 0 ∨ h.1 14 8 ≤ p1)) ∨ (mm_xi h E h' ∧ ((0 ≤ p1 ∧ p1 < h.1 14 8) ∧ p2 < 0))) 2 12 := by
  refine mm_ofW (ls := [mR 0, mI p1, mI p2]) hl (by decide) rfl (Nat.le_of_ble_eq_true rfl) ?_
  intro x hxl C T hnm htb
  subst hxl
  have C1 := mm_OK_le (d' := d - 1 + 1) (by omega) C
  have C8 := mm_OK_le (d' := d - 8 + 8) (by omega) C
  refine mm_rng (fun hr _ => ?_)
  have ap1 : -2147483648 ≤ p1 ∧ p1 < 2147483648 := mm_ok_at hr (i := 1) rfl
  have ap2 : -2147483648 ≤ p2 ∧ p2 < 2147483648 := mm_ok_at hr (i := 2) rfl
  have f0 : mm_fr [] [] h h := mm_fr_rf
  have g1 : 0 ≤ h.1 14 8 ∧ h.1 14 8 ≤ 8 := i0.1 14 8
  refine mm_aload_n C (mm_dec dk_X11_best 0 rfl) rfl ?_
  refine mm_iload_n C (mm_dec dk_X11_best 1 rfl) rfl ?_
  refine mm_cVv (rest := []) C1 ev_X11_207 (mm_dec dk_X11_best 2 rfl) (c_X11_needCourse_q x.2.1 hl (d - 1) (by omega) h i0 p1) rfl rfl (Nat.le_of_ble_eq_true rfl) ⟨by decide, by decide⟩ rfl (fun h2c hp2 => ?_) (fun E hx q => mm_out C T htb (by decide) (by decide) (by obtain ⟨q1, q2⟩ := q; exact Or.inl ⟨q1, by omega⟩))
  obtain ⟨z2, k2_0, k2_1⟩ := hp2
  rw [z2]
  refine mm_iload_n C (mm_dec dk_X11_best 3 rfl) rfl ?_
  refine mm_if_ge (tgt := 20) C (mm_dec dk_X11_best 4 rfl) (by decide) (fun c6 => ?_) (fun c6 => ?_)
  · skip
    exfalso; omega
  · skip
    exact mm_throwXW C8 T htb th_iae (i := 17) rfl (mm_dec dk_X11_best 5 rfl) (mm_dec dk_X11_best 6 rfl) (mm_dec dk_X11_best 7 rfl) (mm_dec dk_X11_best 8 rfl) (mm_dec dk_X11_best 9 rfl) (Nat.le_of_ble_eq_true rfl) ⟨by decide, by decide⟩ ⟨by decide, by decide⟩ (Or.inr ⟨⟨rfl, rfl⟩, by omega⟩)
set_option maxRecDepth 100000 in
set_option maxHeartbeats 4000000 in
theorem c_X11_needCourse_okq (l : Launch) (hl : l.stackTraces = false) (d : Nat) (hd : 1 ≤ d) (h : mH) (i0 : mm_inv h) (p1 : Int) (t0 : 0 ≤ p1) (t1 : p1 < h.1 14 8) : mm_Met l d yX11_needCourse cX11_needCourse 2 none [mR 0, mI p1] h (mm_pv fun h2 => h2 = h ∧ 0 ≤ p1 ∧ p1 < (h.1 14 8)) mm_nx 0 0 := by
  refine mm_ofW (ls := [mR 0, mI p1]) hl (by decide) rfl (Nat.le_of_ble_eq_true rfl) ?_
  intro x hxl C T hnm htb
  subst hxl
  have C1 := mm_OK_le (d' := d - 1 + 1) (by omega) C
  refine mm_rng (fun hr _ => ?_)
  have ap1 : -2147483648 ≤ p1 ∧ p1 < 2147483648 := mm_ok_at hr (i := 1) rfl
  have f0 : mm_fr [] [] h h := mm_fr_rf
  have g1 : 0 ≤ h.1 14 8 ∧ h.1 14 8 ≤ 8 := i0.1 14 8
  refine mm_iload_n C (mm_dec dk_X11_needCourse 0 rfl) rfl ?_
  refine mm_if_lt (tgt := 15) C (mm_dec dk_X11_needCourse 1 rfl) (by decide) (fun c1 => ?_) (fun c1 => ?_)
  · skip
    exfalso; omega
  · skip
    refine mm_iload_n C (mm_dec dk_X11_needCourse 2 rfl) rfl ?_
    refine mm_aload_n C (mm_dec dk_X11_needCourse 3 rfl) rfl ?_
    refine mm_getr (t := 14) C fl_X11_28 (mm_dec dk_X11_needCourse 4 rfl) rfl rfl (mm_ref i0 rfl) ?_
    refine mm_cVi (rest := [mI p1]) C1 ev_X11_200 (mm_dec dk_X11_needCourse 5 rfl) (c_X2_size x.2.1 hl (d - 1) (by omega) h i0 ) rfl rfl (Nat.le_of_ble_eq_true rfl) ⟨by decide, by decide⟩ rfl (fun r9 h9c hp9 => ?_) (fun _ _ q => q.elim)
    obtain ⟨z9, y9⟩ := hp9
    rw [z9, y9]
    refine mm_icmp_lt (tgt := 26) C (mm_dec dk_X11_needCourse 6 rfl) (by decide) (fun c12 => ?_) (fun c12 => ?_)
    · skip
      exact mm_vret C T (mm_dec dk_X11_needCourse 12 rfl) (by decide : 0 ≤ 0) (by decide : 0 ≤ 0) ⟨rfl, ⟨rfl, by omega, by omega⟩⟩
    · skip
      exfalso; omega
set_option maxRecDepth 100000 in
set_option maxHeartbeats 4000000 in
theorem c_X11_best_okq (l : Launch) (hl : l.stackTraces = false) (d : Nat) (hd : 6 ≤ d) (h : mH) (i0 : mm_inv h) (p1 : Int) (p2 : Int) (t0 : 0 ≤ p1) (t1 : p1 < h.1 14 8) (t2 : 0 ≤ p2) : mm_MetZ l d yX11_best cX11_best 3 (some .int) [mR 0, mI p1, mI p2] h (mm_pi fun r h2 => (-2147483648 ≤ r ∧ r ≤ 2147483647) ∧ mm_inv h2 ∧ mm_fr [(7, 7), (7, 8), (58, 5), (58, 6), (58, 7), (58, 8), (58, 9), (58, 10)] [8, 9, 10, 11, 59, 60, 125] h h2 ∧ mm_bZ8 h h2 p1 p2 r) 1 49152 := by
  refine mm_ofWZ (ls := [mR 0, mI p1, mI p2]) hl (by decide) rfl (Nat.le_of_ble_eq_true rfl) ?_
  intro x hxl C T
  subst hxl
  have C1 := mm_OK_le (d' := d - 1 + 1) (by omega) C
  refine mm_rng (fun hr _ => ?_)
  have ap1 : -2147483648 ≤ p1 ∧ p1 < 2147483648 := mm_ok_at hr (i := 1) rfl
  have ap2 : -2147483648 ≤ p2 ∧ p2 < 2147483648 := mm_ok_at hr (i := 2) rfl
  have f0 : mm_fr [(7, 7), (7, 8), (58, 5), (58, 6), (58, 7), (58, 8), (58, 9), (58, 10)] [8, 9, 10, 11, 59, 60, 125] h h := mm_fr_rf
  have g1 : -2147483648 ≤ h.1 58 7 ∧ h.1 58 7 ≤ 2147483647 := i0.1 58 7
  have g2 : -2147483648 ≤ h.1 58 8 ∧ h.1 58 8 ≤ 2147483647 := i0.1 58 8
  have g3 : -2147483648 ≤ h.1 58 9 ∧ h.1 58 9 ≤ 2147483647 := i0.1 58 9
  have g4 : 0 ≤ h.1 58 10 ∧ h.1 58 10 ≤ 1 := i0.1 58 10
  have g5 : 0 ≤ h.1 14 8 ∧ h.1 14 8 ≤ 8 := i0.1 14 8
  have g6 : 0 ≤ h.1 58 5 ∧ h.1 58 5 ≤ 1 := i0.1 58 5
  refine mm_aload_n C (mm_dec dk_X11_best 0 rfl) rfl ?_
  refine mm_iload_n C (mm_dec dk_X11_best 1 rfl) rfl ?_
  refine mm_cVv (rest := []) C1 ev_X11_207 (mm_dec dk_X11_best 2 rfl) (c_X11_needCourse_okq x.2.1 hl (d - 1) (by omega) h i0 p1 (by omega) (by omega)) rfl rfl (Nat.le_of_ble_eq_true rfl) ⟨by decide, by decide⟩ rfl (fun h2c hp2 => ?_) (fun _ _ q => q.elim)
  obtain ⟨z2, k2_0, k2_1⟩ := hp2
  rw [z2]
  refine mm_iload_n C (mm_dec dk_X11_best 3 rfl) rfl ?_
  refine mm_if_ge (tgt := 20) C (mm_dec dk_X11_best 4 rfl) (by decide) (fun c6 => ?_) (fun c6 => ?_)
  · skip
    refine mm_aload_n C (mm_dec dk_X11_best 10 rfl) rfl ?_
    refine mm_getr (t := 14) C fl_X11_28 (mm_dec dk_X11_best 11 rfl) rfl rfl (mm_ref i0 rfl) ?_
    refine mm_iload_n C (mm_dec dk_X11_best 12 rfl) rfl ?_
    refine mm_cVi (rest := []) C1 ev_X11_220 (mm_dec dk_X11_best 13 rfl) (c_X2_isFree x.2.1 hl (d - 1) (by omega) h i0 p1 ⟨by omega, by omega⟩) rfl rfl (Nat.le_of_ble_eq_true rfl) ⟨by decide, by decide⟩ rfl (fun r25 h25c hp25 => ?_) (fun _ _ q => q.elim)
    obtain ⟨z25, y25⟩ := hp25
    rw [z25, y25]
    have g9 : 0 ≤ (h.2.1 17 p1) ∧ (h.2.1 17 p1) ≤ 1 := i0.2.1 17 p1
    refine mm_if_ne (tgt := 33) C (mm_dec dk_X11_best 14 rfl) (by decide) (fun c28 => ?_) (fun c28 => ?_)
    · skip
      refine mm_aload_n C (mm_dec dk_X11_best 17 rfl) rfl ?_
      refine mm_getr (t := 58) C fl_X11_78 (mm_dec dk_X11_best 18 rfl) rfl rfl (mm_ref i0 rfl) ?_
      refine mm_iload_n C (mm_dec dk_X11_best 19 rfl) rfl ?_
      refine mm_iload_n C (mm_dec dk_X11_best 20 rfl) rfl ?_
      refine mm_cViZ (rest := []) C1 ev_X11_357 (mm_dec dk_X11_best 21 rfl) (c_X0_search_zq x.2.1 hl (d - 1) (by omega) h i0 p1 p2 ⟨by omega, by omega⟩) rfl rfl (Nat.le_of_ble_eq_true rfl) ⟨by decide, by decide⟩ rfl (fun r39 h39c hp39 => ?_)
      obtain ⟨b39, i39c, g39c, y39_0⟩ := hp39
      have f39c : mm_fr [(7, 7), (7, 8), (58, 5), (58, 6), (58, 7), (58, 8), (58, 9), (58, 10)] [8, 9, 10, 11, 59, 60, 125] h h39c := mm_fr_tr f0 g39c (by decide +kernel)
      have q39c_11 : h39c.1 14 8 = h.1 14 8 := g39c.1 14 8 (by decide)
      have g12 : -2147483648 ≤ (h39c.1 58 7) ∧ (h39c.1 58 7) ≤ 2147483647 := i39c.1 58 7
      have g13 : -2147483648 ≤ (h39c.1 58 8) ∧ (h39c.1 58 8) ≤ 2147483647 := i39c.1 58 8
      have g14 : -2147483648 ≤ (h39c.1 58 9) ∧ (h39c.1 58 9) ≤ 2147483647 := i39c.1 58 9
      have g15 : 0 ≤ (h39c.1 58 10) ∧ (h39c.1 58 10) ≤ 1 := i39c.1 58 10
      have g16 : 0 ≤ (h39c.1 58 5) ∧ (h39c.1 58 5) ≤ 1 := i39c.1 58 5
      exact mm_iretZ C T (mm_dec dk_X11_best 22 rfl) (by have := (mm_zf_le h39c).1; omega) (by have := (mm_zf_le h39c).2; omega) ⟨by omega, by omega⟩ ⟨_, rfl, ⟨⟨by omega, by omega⟩, i39c, f39c, by first | exact Or.inl ⟨by omega, rfl, rfl, rfl, rfl⟩ | exact Or.inl ⟨by omega, rfl, by omega, by omega, by omega⟩ | exact Or.inr ⟨by omega, y39_0⟩⟩⟩
    · skip
      refine mm_iconst C (mm_dec dk_X11_best 15 rfl) ⟨by decide, by decide⟩ ?_
      exact mm_iretZ C T (mm_dec dk_X11_best 16 rfl) (by decide : 0 ≤ 1) (by decide : 0 ≤ 49152) (⟨Nat.zero_le _, Nat.zero_le _⟩) ⟨_, rfl, ⟨⟨by omega, by omega⟩, i0, f0, by first | exact Or.inl ⟨by omega, rfl, rfl, rfl, rfl⟩ | exact Or.inl ⟨by omega, rfl, by omega, by omega, by omega⟩ | exact Or.inr ⟨by omega, y39_0⟩⟩⟩
  · skip
    exfalso; omega
