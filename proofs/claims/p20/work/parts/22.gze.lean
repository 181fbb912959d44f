/-! ===== the reference's judging over the heap ===== -/
def mm_ir8 (h h' : mH) (m a t : Int) : Prop := (∀ j, j < a → h'.2.1 98 j = h.2.1 98 j) ∧ (∀ j, a ≤ j → j < m → h'.2.1 98 (j + 1) = h.2.1 98 j ∧ t < h.2.1 95 (h.2.1 98 j))
theorem mm_ir8_0 {h : mH} {m t : Int} : mm_ir8 h h m m t := ⟨fun _ _ => rfl, fun j a b => by omega⟩
theorem mm_ir8_s {h h' h1 : mH} {m a t v : Int} (S : mm_ir8 h h' m a t) (e1 : h1 = mm_pa h' 98 a v) (hv : v = h'.2.1 98 (a - 1)) (ht : t < h'.2.1 95 (h'.2.1 98 (a - 1))) (e95 : ∀ j, h'.2.1 95 j = h.2.1 95 j) : mm_ir8 h h1 m (a + (-1)) t := by
  have z := S.1 (a - 1) (by omega)
  constructor
  · intro j hj
    rw [mm_pa_off e1 (by omega)]
    exact S.1 j (by omega)
  · intro j j0 j1
    by_cases q : j = a - 1
    · rw [mm_pa_at e1 (by omega), hv, q, ← z]
      exact ⟨rfl, by rw [← e95]; exact ht⟩
    · rw [mm_pa_off e1 (by omega)]
      exact S.2 j (by omega) j1
theorem mm_ir8_in {h h' h1 : mH} {m a t e : Int} {A : Int → Int} (S : mm_ir8 h h' m a t) (e1 : h1 = mm_pa h' 98 a e) (a0 : 0 ≤ a) (am : a ≤ m) (ht : a ≤ 0 ∨ h.2.1 95 (h.2.1 98 (a - 1)) ≤ t) (et : t = A e) (eA : ∀ j, h.2.1 95 j = A j) : mm_in8 A (h.2.1 98) m e (h1.2.1 98) := by
  refine ⟨a, a0, am, fun j _ y => by rw [mm_pa_off e1 (by omega)]; exact S.1 j y, mm_pa_at e1 rfl, fun j x y => by rw [mm_pa_off e1 (by omega)]; exact (S.2 j x y).1, ?_, fun j x y => by rw [← et, ← eA]; exact (S.2 j x y).2⟩
  by_cases q : a = 0
  · exact Or.inl q
  · exact Or.inr (by rw [← et, ← eA]; exact ht.resolve_left (by omega))
/-! the table -/
def mm_Lh (h : mH) : Int → Int → Int := fun i p => h.2.1 99 (501 * i + p)
def mm_Vh (h : mH) : Int → Int := fun j => h.2.1 94 (h.2.1 98 j)
def mm_cv8 (h0 h : mH) (i p v : Int) : Prop := ((h0.1 66 39 ≤ i ∨ h0.1 66 48 ≤ p) → v = 0) ∧ (i < h0.1 66 39 → p < h0.1 66 48 → h.2.1 99 (501 * (i + 1) + p) ≤ v ∧ h.2.1 99 (501 * i + p + 1) ≤ v ∧ (mm_Vh h0 p = h0.2.1 91 i → h.2.1 99 (501 * (i + 1) + p + 1) + 1 ≤ v) ∧ (v = h.2.1 99 (501 * (i + 1) + p) ∨ v = h.2.1 99 (501 * i + p + 1) ∨ (mm_Vh h0 p = h0.2.1 91 i ∧ v = h.2.1 99 (501 * (i + 1) + p + 1) + 1)))
def mm_ld8 (h0 h : mH) (t : Int) : Prop := ∀ a b, 0 ≤ a → a ≤ 12 → 0 ≤ b → b ≤ 500 → t ≤ 501 * a + b → mm_cv8 h0 h a b (h.2.1 99 (501 * a + b)) ∧ 0 ≤ h.2.1 99 (501 * a + b) ∧ h.2.1 99 (501 * a + b) ≤ 12 - a
theorem mm_ld8_b {h0 h : mH} {t a b k : Int} (S : mm_ld8 h0 h t) (e : k = 501 * a + b) (a0 : 0 ≤ a ∧ a ≤ 12) (b0 : 0 ≤ b ∧ b ≤ 500) (w : t ≤ 501 * a + b) : 0 ≤ h.2.1 99 k ∧ h.2.1 99 k ≤ 12 - a := by
  rw [e]; exact (S a b a0.1 a0.2 b0.1 b0.2 w).2
theorem mm_ld8_0 {h0 h : mH} {t : Int} (ht : 6513 ≤ t) : mm_ld8 h0 h t := fun a b a0 a1 b0 b1 w => by omega
theorem mm_ld8_s {h0 h h1 : mH} {t i p v : Int} (S : mm_ld8 h0 h (t + 1)) (e1 : h1 = mm_pa h 99 t v) (C : mm_cv8 h0 h i p v) (v0 : 0 ≤ v) (v1 : v ≤ 12 - i) (ht : t = 501 * i + p) (m1 : h0.1 66 48 ≤ 500) (hp : 0 ≤ p ∧ p ≤ 500) (hi : 0 ≤ i ∧ i ≤ 12) : mm_ld8 h0 h1 t := fun a b a0 a1 b0 b1 w => by
  have E : ∀ j, t < j → h1.2.1 99 j = h.2.1 99 j := fun j hj => mm_pa_off e1 (by omega)
  have key : ∀ v', mm_cv8 h0 h a b v' → t ≤ 501 * a + b → mm_cv8 h0 h1 a b v' := fun v' c _ => by
    refine ⟨c.1, fun x y => ?_⟩
    rw [E (501 * (a + 1) + b) (by omega), E (501 * a + b + 1) (by omega), E (501 * (a + 1) + b + 1) (by omega)]
    exact c.2 x y
  by_cases q : t = 501 * a + b
  · have ea : a = i := by omega
    have eb : b = p := by omega
    subst ea eb
    rw [mm_pa_at e1 q.symm]
    exact ⟨key v C w, v0, v1⟩
  · rw [E _ (by omega)]
    have z := S a b a0 a1 b0 b1 (by omega)
    exact ⟨key _ z.1 w, z.2⟩
theorem mm_ld8_LS {h0 h : mH} (S : mm_ld8 h0 h 0) (n1 : 0 ≤ h0.1 66 39 ∧ h0.1 66 39 ≤ 12) (m1 : 0 ≤ h0.1 66 48 ∧ h0.1 66 48 ≤ 500) : mm_LS8 (mm_Lh h) (h0.2.1 91) (mm_Vh h0) (h0.1 66 39) (h0.1 66 48) := by
  constructor
  · intro i p i0 p0 e i1 p1
    exact (S i p i0 (by omega) p0 (by omega) (by omega)).1.1 e
  · intro i p i0 i1 p0 p1
    have z := (S i p i0 (by omega) p0 (by omega) (by omega)).1.2 i1 p1
    unfold mm_Lh
    rw [show 501 * i + (p + 1) = 501 * i + p + 1 by omega, show 501 * (i + 1) + (p + 1) = 501 * (i + 1) + p + 1 by omega]
    exact z
/-! what is kept -/
def mm_ko8 (h0 hL h : mH) (i f l : Int) : Prop := mm_kp8 (mm_Lh hL) (h0.2.1 91) (mm_Vh h0) (h0.1 66 48) i.toNat f l (h.2.1 100) ∧ ∀ j, i ≤ j → j ≤ 11 → h.2.1 100 j = -1
theorem mm_ko8_0 {h0 hL h : mH} {x : Int} (A : ∀ j, 0 ≤ j → j ≤ 11 → h.2.1 100 j = -1) (e : x = hL.2.1 99 0) : mm_ko8 h0 hL h 0 0 x := ⟨⟨rfl, e⟩, fun j a b => A j a b⟩
theorem mm_ko8_y {h0 hL h h2 : mH} {i f l x r m v : Int} {V : Int → Int} (K : mm_ko8 h0 hL h i f l) (X : mm_ff8 V m x f r) (eV : V = mm_Vh h0) (em : m = h0.1 66 48) (ex : x = h0.2.1 91 i) (e2 : h2 = mm_pa h 100 i r) (hr : r ≠ -1) (ev : v = hL.2.1 99 (501 * (i + 1) + r + 1)) (hv : v + 1 = l) (l0 : 0 < l) (i0 : 0 ≤ i) : mm_ko8 h0 hL h2 (i + 1) (r + 1) (l + (-1)) := by
  subst eV em
  constructor
  · rw [show (i + 1).toNat = i.toNat + 1 by omega]
    refine ⟨f, l, mm_kp8_cg i.toNat f l K.1 (fun j a b => mm_pa_off e2 (by omega)), Or.inr ⟨l0, r, ?_, Or.inl ⟨hr, ?_, ?_, rfl, by omega⟩⟩⟩
    · rw [Int.toNat_of_nonneg i0, ← ex]; exact X
    · rw [Int.toNat_of_nonneg i0]
      unfold mm_Lh
      rw [show 501 * (i + 1) + (r + 1) = 501 * (i + 1) + r + 1 by omega, ← ev]
      omega
    · rw [Int.toNat_of_nonneg i0]; exact mm_pa_at e2 rfl
  · intro j a b
    rw [mm_pa_off e2 (by omega)]
    exact K.2 j (by omega) b
theorem mm_ko8_n {h0 hL h : mH} {i f l x r m v : Int} {V : Int → Int} (K : mm_ko8 h0 hL h i f l) (LS : mm_LS8 (mm_Lh hL) (h0.2.1 91) (mm_Vh h0) (h0.1 66 39) (h0.1 66 48)) (X : mm_ff8 V m x f r) (eV : V = mm_Vh h0) (em : m = h0.1 66 48) (ex : x = h0.2.1 91 i) (hr : r = -1 ∨ (v = hL.2.1 99 (501 * (i + 1) + r + 1) ∧ v + 1 ≠ l)) (l0 : 0 < l) (i0 : 0 ≤ i ∧ i < h0.1 66 39) (n1 : h0.1 66 39 ≤ 12) (m0 : 0 ≤ h0.1 66 48) : mm_ko8 h0 hL h (i + 1) f l := by
  subst eV em
  constructor
  · rw [show (i + 1).toNat = i.toNat + 1 by omega]
    refine ⟨f, l, K.1, Or.inr ⟨l0, r, ?_, Or.inr ⟨?_, ?_, rfl, rfl⟩⟩⟩
    · rw [Int.toNat_of_nonneg i0.1, ← ex]; exact X
    · rcases hr with hr | ⟨a, b⟩
      · exact Or.inl hr
      · by_cases q : r = -1
        · exact Or.inl q
        · refine Or.inr ?_
          have g := mm_kp8_rg LS m0 (by omega) i.toNat f l (by omega) K.1
          rw [Int.toNat_of_nonneg i0.1] at g ⊢
          have hrm : f ≤ r ∧ r < h0.1 66 48 ∧ mm_Vh h0 r = h0.2.1 91 i := by
            rcases X with ⟨c, _⟩ | ⟨c, d, e, _⟩
            · exact absurd c q
            · exact ⟨c, d, by rw [e, ex]⟩
          have y := (LS.2 i r i0.1 i0.2 (by omega) hrm.2.1).2.2.1 hrm.2.2
          have mono : ∀ (b : Nat) (p : Int), 0 ≤ p → p + b < h0.1 66 48 → mm_Lh hL i (p + b) ≤ mm_Lh hL i p := by
            intro b
            induction b with
            | zero => intro p _ _; rw [show p + ((0 : Nat) : Int) = p by omega]; exact Int.le_refl _
            | succ b ih =>
              intro p p0 p1
              have e1 := ih (p + 1) (by omega) (by omega)
              have e2 := (LS.2 i p i0.1 i0.2 p0 (by omega)).2.1
              rw [show p + ((b + 1 : Nat) : Int) = p + 1 + (b : Int) by omega]
              omega
          have u := mono (r - f).toNat f g.1 (by omega)
          rw [show f + ((r - f).toNat : Int) = r by omega] at u
          have vv : v = mm_Lh hL (i + 1) (r + 1) := by
            unfold mm_Lh
            rw [show 501 * (i + 1) + (r + 1) = 501 * (i + 1) + r + 1 by omega]; exact a
          omega
    · rw [Int.toNat_of_nonneg i0.1]; exact K.2 i (by omega) (by omega)
  · exact fun j a b => K.2 j (by omega) b
theorem mm_ko8_e {h0 hL h : mH} {i f l : Int} (K : mm_ko8 h0 hL h i f l) (LS : mm_LS8 (mm_Lh hL) (h0.2.1 91) (mm_Vh h0) (h0.1 66 39) (h0.1 66 48)) (e : h0.1 66 39 ≤ i ∨ l ≤ 0) (i0 : 0 ≤ i ∧ i ≤ h0.1 66 39) (n1 : h0.1 66 39 ≤ 12) : mm_xY8 (h0.2.1 91) (h0.1 66 39) (mm_Vh h0) (h0.1 66 48) (h.2.1 100) := by
  refine ⟨mm_Lh hL, LS, f, l, ?_⟩
  by_cases q : h0.1 66 39 ≤ i
  · rw [show (h0.1 66 39).toNat = i.toNat by omega]; exact K.1
  · have w := mm_kp8_ex (e.resolve_left q) (h0.1 66 39 - i).toNat i.toNat K.1 (fun j a b => K.2 j (by omega) (by omega))
    rw [show (h0.1 66 39).toNat = i.toNat + (h0.1 66 39 - i).toNat by omega]
    exact w
/-! all of the reference -/
theorem mm_xY8_cg {w w' V V' K K' : Int → Int} {n m : Int} (X : mm_xY8 w n V m K) (n0 : 0 ≤ n) (ew : ∀ j, 0 ≤ j → j < n → w' j = w j) (ev : ∀ j, 0 ≤ j → j < m → V' j = V j) (ek : ∀ j, 0 ≤ j → j < n → K' j = K j) : mm_xY8 w' n V' m K' := by
  obtain ⟨L, LS, f, l, k⟩ := X
  refine ⟨L, mm_LS8_cg LS ew ev, f, l, ?_⟩
  exact mm_kp8_cg _ _ _ (mm_kp8_w ew ev _ f l (by omega) k).2 (fun j a b => ek j a (by omega))
theorem mm_sY8_fr {h a : mH} {p k r : Int} (X : mm_sY8 a p k r) (e : mm_k2 a = mm_k2 h) (e88 : ∀ j, a.2.1 88 j = h.2.1 88 j) (e89 : ∀ j, a.2.1 89 j = h.2.1 89 j) (e90 : ∀ j, a.2.1 90 j = h.2.1 90 j) (e95 : ∀ j, a.2.1 95 j = h.2.1 95 j) (n : a.1 66 40 = h.1 66 40) : mm_sY8 h p k r := by
  unfold mm_sY8 at X ⊢
  rw [e, e88, e89, e90, show a.2.1 95 = h.2.1 95 from funext e95, n] at X
  exact X

set_option maxRecDepth 100000 in
set_option maxHeartbeats 4000000 in
theorem c_X12_nextPunch_q (l : Launch) (hl : l.stackTraces = false) (d : Nat) (hd : 0 ≤ d) (h : mH) (i0 : mm_inv h) (p1 : Int) (p2 : Int) (bp1 : 0 ≤ p1 ∧ p1 ≤ 11) (bp2 : 0 ≤ p2 ∧ p2 ≤ 500) : mm_Met l d yX12_nextPunch cX12_nextPunch 4 (some .int) [mR 66, mI p1, mI p2] h (mm_pi fun r h2 => (-1 ≤ r ∧ r ≤ 499) ∧ h2 = h ∧ mm_ff8 (mm_Vh h) (h.1 66 48) (h.2.1 91 p1) p2 r) mm_nx 0 0 := by
  refine mm_ofW (ls := [mR 66, mI p1, mI p2, mU]) hl (by decide) rfl (Nat.le_of_ble_eq_true rfl) ?_
  intro x hxl C T hnm htb
  subst hxl
  refine mm_rng (fun hr _ => ?_)
  have ap1 : -2147483648 ≤ p1 ∧ p1 < 2147483648 := mm_ok_at hr (i := 1) rfl
  have ap2 : -2147483648 ≤ p2 ∧ p2 < 2147483648 := mm_ok_at hr (i := 2) rfl
  have f0 : mm_fr [] [] h h := mm_fr_rf
  refine mm_iload_n C (mm_dec dk_X12_nextPunch 0 rfl) rfl ?_
  have J2 : ∀ (n : Nat) (x2_3 : Int) (bx2_3 : 0 ≤ x2_3 ∧ x2_3 ≤ 500) (w2_0 : ∀ j, p2 ≤ j → j < x2_3 → mm_Vh h j ≠ h.2.1 91 p1) (w2_1 : p2 ≤ x2_3), (500 - x2_3 : Int) < n → mm_W x 0 0 2 [mR 66, mI p1, mU, mI x2_3] [] h := by
    intro n
    induction n with
    | zero =>
      intro x2_3 bx2_3 w2_0 w2_1 hm
      exfalso; omega
    | succ n ih2 =>
      intro x2_3 bx2_3 w2_0 w2_1 hm2
      refine mm_iload_n C (mm_dec dk_X12_nextPunch 2 rfl) rfl ?_
      refine mm_aload_n C (mm_dec dk_X12_nextPunch 3 rfl) rfl ?_
      refine mm_geti C fl_X12_329 (mm_dec dk_X12_nextPunch 4 rfl) rfl rfl (Or.inl rfl) ?_
      have g1 : 0 ≤ (h.1 66 48) ∧ (h.1 66 48) ≤ 500 := i0.1 66 48
      refine mm_icmp_ge (tgt := 38) C (mm_dec dk_X12_nextPunch 5 rfl) (by decide) (fun c7 => ?_) (fun c7 => ?_)
      · skip
        refine mm_iconst C (mm_dec dk_X12_nextPunch 22 rfl) ⟨by decide, by decide⟩ ?_
        exact mm_iret C T (mm_dec dk_X12_nextPunch 23 rfl) (by decide : 0 ≤ 0) (by decide : 0 ≤ 0) ⟨_, rfl, ⟨⟨by omega, by omega⟩, rfl, by first | exact Or.inr ⟨by omega, by omega, by show h.2.1 94 (h.2.1 98 _) = h.2.1 91 p1; omega, w2_0⟩ | exact Or.inl ⟨rfl, fun j a b => w2_0 j a (by omega)⟩⟩⟩
      · skip
        refine mm_aload_n C (mm_dec dk_X12_nextPunch 6 rfl) rfl ?_
        refine mm_getr (t := 94) C fl_X12_93 (mm_dec dk_X12_nextPunch 7 rfl) rfl rfl (mm_ref i0 rfl) ?_
        refine mm_aload_n C (mm_dec dk_X12_nextPunch 8 rfl) rfl ?_
        refine mm_getr (t := 98) C fl_X12_105 (mm_dec dk_X12_nextPunch 9 rfl) rfl rfl (mm_ref i0 rfl) ?_
        refine mm_iload_n C (mm_dec dk_X12_nextPunch 10 rfl) rfl ?_
        refine mm_iald C (mm_dec dk_X12_nextPunch 11 rfl) rfl (by omega) (by omega) ?_
        have g2 : 0 ≤ (h.2.1 98 x2_3) ∧ (h.2.1 98 x2_3) ≤ 499 := i0.2.1 98 x2_3
        refine mm_iald C (mm_dec dk_X12_nextPunch 12 rfl) rfl (by omega) (by omega) ?_
        have g3 : -2147483648 ≤ (h.2.1 94 (h.2.1 98 x2_3)) ∧ (h.2.1 94 (h.2.1 98 x2_3)) ≤ 2147483647 := i0.2.1 94 (h.2.1 98 x2_3)
        refine mm_aload_n C (mm_dec dk_X12_nextPunch 13 rfl) rfl ?_
        refine mm_getr (t := 91) C fl_X12_84 (mm_dec dk_X12_nextPunch 14 rfl) rfl rfl (mm_ref i0 rfl) ?_
        refine mm_iload_n C (mm_dec dk_X12_nextPunch 15 rfl) rfl ?_
        refine mm_iald C (mm_dec dk_X12_nextPunch 16 rfl) rfl (by omega) (by omega) ?_
        have g4 : 0 ≤ (h.2.1 91 p1) ∧ (h.2.1 91 p1) ≤ 19 := i0.2.1 91 p1
        refine mm_icmp_ne (tgt := 32) C (mm_dec dk_X12_nextPunch 17 rfl) (by decide) (fun c27 => ?_) (fun c27 => ?_)
        · skip
          refine mm_iincL (ls2 := [mR 66, mI p1, mU, mI (x2_3 + 1)]) C (mm_dec dk_X12_nextPunch 20 rfl) rfl (by decide) ⟨by omega, by omega⟩ rfl ?_
          refine mm_goto (tgt := 2) C (mm_dec dk_X12_nextPunch 21 rfl) (by decide) ?_
          exact ih2 (x2_3 + 1) ⟨by omega, by omega⟩ (by first | exact fun j a b => (by omega) | exact fun j a b => (by by_cases q : j = x2_3; (rw [q]; show h.2.1 94 (h.2.1 98 x2_3) ≠ h.2.1 91 p1; omega); exact w2_0 j a (by omega))) (by omega) (by omega)
        · skip
          refine mm_iload_n C (mm_dec dk_X12_nextPunch 18 rfl) rfl ?_
          exact mm_iret C T (mm_dec dk_X12_nextPunch 19 rfl) (by decide : 0 ≤ 0) (by decide : 0 ≤ 0) ⟨_, rfl, ⟨⟨by omega, by omega⟩, rfl, by first | exact Or.inr ⟨by omega, by omega, by show h.2.1 94 (h.2.1 98 _) = h.2.1 91 p1; omega, w2_0⟩ | exact Or.inl ⟨rfl, fun j a b => w2_0 j a (by omega)⟩⟩⟩
  refine mm_istore_nL (ls2 := [mR 66, mI p1, mI p2, mI p2]) C (mm_dec dk_X12_nextPunch 1 rfl) (by decide) rfl ?_
  refine mm_fgt 2 ?_
  exact J2 (((500 - p2) : Int) + 1).toNat p2 ⟨by omega, by omega⟩ (by first | exact fun j a b => (by omega) | exact fun j a b => (by by_cases q : j = x2_3; (rw [q]; show h.2.1 94 (h.2.1 98 x2_3) ≠ h.2.1 91 p1; omega); exact w2_0 j a (by omega))) (by omega) (by omega)
set_option maxRecDepth 100000 in
set_option maxHeartbeats 4000000 in
theorem c_X12_inOrder_q (l : Launch) (hl : l.stackTraces = false) (d : Nat) (hd : 1 ≤ d) (h : mH) (i0 : mm_inv h) (t0 : mm_al h 100 11 (-1)) : mm_Met l d yX12_inOrder cX12_inOrder 6 none [mR 66] h (mm_pv fun h2 => mm_inv h2 ∧ mm_fr [(66, 52)] [99, 100] h h2 ∧ mm_xY8 (h.2.1 91) (h.1 66 39) (mm_Vh h) (h.1 66 48) (h2.2.1 100)) mm_nx 0 0 := by
  refine mm_ofW (ls := [mR 66, mU, mU, mU, mU, mU]) hl (by decide) rfl (Nat.le_of_ble_eq_true rfl) ?_
  intro x hxl C T hnm htb
  subst hxl
  have C1 := mm_OK_le (d' := d - 1 + 1) (by omega) C
  have f0 : mm_fr [(66, 52)] [99, 100] h h := mm_fr_rf
  have zn8 : 0 ≤ h.1 66 39 ∧ h.1 66 39 ≤ 12 := i0.1 66 39
  have zm8 : 0 ≤ h.1 66 48 ∧ h.1 66 48 ≤ 500 := i0.1 66 48
  refine mm_bipush C (mm_dec dk_X12_inOrder 0 rfl) ⟨by decide, by decide⟩ ?_
  have J3 : ∀ (n : Nat) (x3_1 : Int) (bx3_1 : -1 ≤ x3_1 ∧ x3_1 ≤ 12) (h3_ : mH) (i3_ : mm_inv h3_) (f3_ : mm_fr [(66, 52)] [99, 100] h h3_) (w3_0 : mm_ld8 h h3_ (501 * (x3_1 + 1))) (w3_1 : ∀ j, h3_.2.1 100 j = h.2.1 100 j), (x3_1 - (-1) : Int) < n → mm_W x 0 0 3 [mR 66, mI x3_1, mU, mU, mU, mU] [] h3_ := by
    intro n
    induction n with
    | zero =>
      intro x3_1 bx3_1 h3_ i3_ f3_ w3_0 w3_1 hm
      exfalso; omega
    | succ n ih3 =>
      intro x3_1 bx3_1 h3_ i3_ f3_ w3_0 w3_1 hm3
      refine mm_iload_n C (mm_dec dk_X12_inOrder 2 rfl) rfl ?_
      refine mm_if_lt (tgt := 166) C (mm_dec dk_X12_inOrder 3 rfl) (by decide) (fun c4 => ?_) (fun c4 => ?_)
      · skip
        have z30 : mm_ld8 h h3_ 0 := (by rw [show (0 : Int) = 501 * (x3_1 + 1) by omega]; exact w3_0)
        have zLS := mm_ld8_LS z30 zn8 zm8
        refine mm_iconst C (mm_dec dk_X12_inOrder 103 rfl) ⟨by decide, by decide⟩ ?_
        refine mm_istore_nL (ls2 := [mR 66, mI 0, mU, mU, mU, mU]) C (mm_dec dk_X12_inOrder 104 rfl) (by decide) rfl ?_
        refine mm_aload_n C (mm_dec dk_X12_inOrder 105 rfl) rfl ?_
        refine mm_getr (t := 99) C fl_X12_108 (mm_dec dk_X12_inOrder 106 rfl) rfl rfl (mm_ref i3_ rfl) ?_
        refine mm_iconst C (mm_dec dk_X12_inOrder 107 rfl) ⟨by decide, by decide⟩ ?_
        refine mm_iald C (mm_dec dk_X12_inOrder 108 rfl) rfl (by omega) (by omega) ?_
        have g1 : -2147483648 ≤ (h3_.2.1 99 0) ∧ (h3_.2.1 99 0) ≤ 2147483647 := i3_.2.1 99 0
        refine mm_istore_nL (ls2 := [mR 66, mI 0, mI (h3_.2.1 99 0), mU, mU, mU]) C (mm_dec dk_X12_inOrder 109 rfl) (by decide) rfl ?_
        refine mm_aload_n C (mm_dec dk_X12_inOrder 110 rfl) rfl ?_
        refine mm_aload_n C (mm_dec dk_X12_inOrder 111 rfl) rfl ?_
        refine mm_geti C fl_X12_296 (mm_dec dk_X12_inOrder 112 rfl) rfl rfl (Or.inl rfl) ?_
        have g2 : 0 ≤ (h3_.1 66 39) ∧ (h3_.1 66 39) ≤ 12 := i3_.1 66 39
        refine mm_iload_n C (mm_dec dk_X12_inOrder 113 rfl) rfl ?_
        refine mm_isubw C (mm_dec dk_X12_inOrder 114 rfl) ?_
        have g3 : -2147483648 ≤ (mm_w ((h3_.1 66 39) - (h3_.2.1 99 0))) ∧ (mm_w ((h3_.1 66 39) - (h3_.2.1 99 0))) < 2147483648 := mm_w_rg _
        refine mm_puti C fl_X12_341 (mm_dec dk_X12_inOrder 115 rfl) rfl rfl rfl (Or.inl ⟨rfl, rfl⟩) ?_
        have i1 : mm_inv (mm_pf h3_ 66 52 (mm_w ((h3_.1 66 39) - (h3_.2.1 99 0)))) := mm_inv_pf i3_ (show -2147483648 ≤ (mm_w ((h3_.1 66 39) - (h3_.2.1 99 0))) ∧ (mm_w ((h3_.1 66 39) - (h3_.2.1 99 0))) ≤ 2147483647 from ⟨by omega, by omega⟩) (by decide)
        have f1 : mm_fr [(66, 52)] [99, 100] h (mm_pf h3_ 66 52 (mm_w ((h3_.1 66 39) - (h3_.2.1 99 0)))) := mm_fr_pf f3_ (by decide)
        obtain ⟨h1, eh1⟩ : ∃ z, z = mm_pf h3_ 66 52 (mm_w ((h3_.1 66 39) - (h3_.2.1 99 0))) := ⟨_, rfl⟩
        rw [← eh1] at i1 f1 ⊢
        have qh1 : h1.1 66 52 = (mm_w ((h3_.1 66 39) - (h3_.2.1 99 0))) := by rw [eh1]; exact mm_pf_same _ _ _ _
        have qh1_4 : h1.1 66 39 = h3_.1 66 39 := by rw [eh1]; exact mm_pf_ne _ _ (by decide)
        refine mm_iconst C (mm_dec dk_X12_inOrder 116 rfl) ⟨by decide, by decide⟩ ?_
        have J187 : ∀ (n : Nat) (x187_1 : Int) (bx187_1 : 0 ≤ x187_1 ∧ x187_1 ≤ 500) (x187_2 : Int) (bx187_2 : -2147483648 ≤ x187_2 ∧ x187_2 ≤ 2147483647) (x187_3 : Int) (bx187_3 : 0 ≤ x187_3 ∧ x187_3 ≤ 12) (h187_ : mH) (i187_ : mm_inv h187_) (f187_ : mm_fr [(66, 52)] [99, 100] h h187_) (w187_0 : mm_ko8 h h3_ h187_ x187_3 x187_1 x187_2) (w187_1 : ∀ j, h187_.2.1 99 j = h3_.2.1 99 j) (w187_2 : x187_3 ≤ h.1 66 39), (12 - x187_3 : Int) < n → mm_W x 0 0 187 [mR 66, mI x187_1, mI x187_2, mI x187_3, mU, mU] [] h187_ := by
          intro n
          induction n with
          | zero =>
            intro x187_1 bx187_1 x187_2 bx187_2 x187_3 bx187_3 h187_ i187_ f187_ w187_0 w187_1 w187_2 hm
            exfalso; omega
          | succ n ih187 =>
            intro x187_1 bx187_1 x187_2 bx187_2 x187_3 bx187_3 h187_ i187_ f187_ w187_0 w187_1 w187_2 hm187
            have zq39 : h187_.1 66 39 = h.1 66 39 := f187_.1 66 39 (by decide)
            have zq48 : h187_.1 66 48 = h.1 66 48 := f187_.1 66 48 (by decide)
            refine mm_iload_n C (mm_dec dk_X12_inOrder 118 rfl) rfl ?_
            refine mm_aload_n C (mm_dec dk_X12_inOrder 119 rfl) rfl ?_
            refine mm_geti C fl_X12_296 (mm_dec dk_X12_inOrder 120 rfl) rfl rfl (Or.inl rfl) ?_
            have g5 : 0 ≤ (h187_.1 66 39) ∧ (h187_.1 66 39) ≤ 12 := i187_.1 66 39
            have J261 : ∀ (w261_0 : mm_xY8 (h.2.1 91) (h.1 66 39) (mm_Vh h) (h.1 66 48) (h187_.2.1 100)), mm_W x 0 0 261 [mU, mU, mU, mU, mU, mU] [] h187_ := by
              intro w261_0
              exact mm_vret C T (mm_dec dk_X12_inOrder 161 rfl) (by decide : 0 ≤ 0) (by decide : 0 ≤ 0) ⟨rfl, ⟨i187_, f187_, by exact w261_0⟩⟩
            refine mm_icmp_ge (tgt := 261) C (mm_dec dk_X12_inOrder 121 rfl) (by decide) (fun c192 => ?_) (fun c192 => ?_)
            · skip
              refine mm_fgt 0 ?_
              refine mm_fgt 1 ?_
              refine mm_fgt 2 ?_
              refine mm_fgt 3 ?_
              exact J261 (by exact mm_ko8_e w187_0 zLS (by omega) (by omega) (by omega))
            · skip
              refine mm_iload_n C (mm_dec dk_X12_inOrder 122 rfl) rfl ?_
              refine mm_if_le (tgt := 261) C (mm_dec dk_X12_inOrder 123 rfl) (by decide) (fun c196 => ?_) (fun c196 => ?_)
              · skip
                refine mm_fgt 0 ?_
                refine mm_fgt 1 ?_
                refine mm_fgt 2 ?_
                refine mm_fgt 3 ?_
                exact J261 (by exact mm_ko8_e w187_0 zLS (by omega) (by omega) (by omega))
              · skip
                refine mm_aload_n C (mm_dec dk_X12_inOrder 124 rfl) rfl ?_
                refine mm_iload_n C (mm_dec dk_X12_inOrder 125 rfl) rfl ?_
                refine mm_iload_n C (mm_dec dk_X12_inOrder 126 rfl) rfl ?_
                refine mm_cVi (rest := []) C1 ev_X12_338 (mm_dec dk_X12_inOrder 127 rfl) (c_X12_nextPunch_q x.2.1 hl (d - 1) (by omega) h187_ i187_ x187_3 x187_1 ⟨by omega, by omega⟩ ⟨by omega, by omega⟩) rfl rfl (Nat.le_of_ble_eq_true rfl) ⟨by decide, by decide⟩ rfl (fun r202 h202c hp202 => ?_) (fun _ _ q => q.elim)
                obtain ⟨b202, z202, y202_0⟩ := hp202
                rw [z202]
                refine mm_istoreL (ls2 := [mR 66, mI x187_1, mI x187_2, mI x187_3, mI r202, mU]) C (mm_dec dk_X12_inOrder 128 rfl) (by decide) rfl ?_
                refine mm_iload C (mm_dec dk_X12_inOrder 129 rfl) rfl ?_
                refine mm_iconst C (mm_dec dk_X12_inOrder 130 rfl) ⟨by decide, by decide⟩ ?_
                have J255 : ∀ (x255_1 : Int) (bx255_1 : 0 ≤ x255_1 ∧ x255_1 ≤ 500) (x255_2 : Int) (bx255_2 : 0 ≤ x255_2 ∧ x255_2 ≤ 2147483647) (h255_ : mH) (i255_ : mm_inv h255_) (f255_ : mm_fr [(66, 52)] [99, 100] h h255_) (w255_0 : mm_ko8 h h3_ h255_ (x187_3 + 1) x255_1 x255_2) (w255_1 : ∀ j, h255_.2.1 99 j = h3_.2.1 99 j), mm_W x 0 0 255 [mR 66, mI x255_1, mI x255_2, mI x187_3, mU, mU] [] h255_ := by
                  intro x255_1 bx255_1 x255_2 bx255_2 h255_ i255_ f255_ w255_0 w255_1
                  refine mm_iincL (ls2 := [mR 66, mI x255_1, mI x255_2, mI (x187_3 + 1), mU, mU]) C (mm_dec dk_X12_inOrder 159 rfl) rfl (by decide) ⟨by omega, by omega⟩ rfl ?_
                  refine mm_goto (tgt := 187) C (mm_dec dk_X12_inOrder 160 rfl) (by decide) ?_
                  exact ih187 x255_1 ⟨by omega, by omega⟩ x255_2 ⟨by omega, by omega⟩ (x187_3 + 1) ⟨by omega, by omega⟩ h255_ i255_ f255_ (by first | exact w255_0 | exact mm_ko8_0 (fun j a b => (by rw [eh1]; exact (w3_1 j).trans (t0 j a b))) rfl) (by first | exact w255_1 | exact fun j => (by rw [eh1]; rfl)) (by omega) (by omega)
                refine mm_icmp_eq (tgt := 255) C (mm_dec dk_X12_inOrder 131 rfl) (by decide) (fun c210 => ?_) (fun c210 => ?_)
                · skip
                  refine mm_fgt 4 ?_
                  exact J255 x187_1 ⟨by omega, by omega⟩ x187_2 ⟨by omega, by omega⟩ h187_ i187_ f187_ (by first | exact mm_ko8_y w187_0 y202_0 (show mm_Vh h187_ = mm_Vh h from funext fun j => by unfold mm_Vh; rw [f187_.2 94 (by decide), f187_.2 98 (by decide)]) (f187_.1 66 48 (by decide)) (f187_.2 91 (by decide) _) eh2 (by omega) (w187_1 _) (by omega) (by omega) (by omega) | exact mm_ko8_n (v := h187_.2.1 99 (((501 * (x187_3 + 1)) + r202) + 1)) w187_0 zLS y202_0 (show mm_Vh h187_ = mm_Vh h from funext fun j => by unfold mm_Vh; rw [f187_.2 94 (by decide), f187_.2 98 (by decide)]) (f187_.1 66 48 (by decide)) (f187_.2 91 (by decide) _) (by first | exact Or.inl (by omega) | exact Or.inr ⟨w187_1 _, by omega⟩) (by omega) (by omega) (by omega) (by omega)) (by first | exact w187_1 | exact fun j => (mm_sm_pa 99 eh2 (by decide) j).trans (w187_1 j))
                · skip
                  have zv := mm_ld8_b (k := ((501 * (x187_3 + 1)) + r202) + 1) (a := x187_3 + 1) (b := r202 + 1) z30 (by omega) (by omega) (by omega) (by omega)
                  rw [← w187_1] at zv
                  have zvw : mm_w (h187_.2.1 99 (((501 * (x187_3 + 1)) + r202) + 1) + 1) = h187_.2.1 99 (((501 * (x187_3 + 1)) + r202) + 1) + 1 := mm_w_id ⟨by omega, by omega⟩
                  refine mm_aload_n C (mm_dec dk_X12_inOrder 132 rfl) rfl ?_
                  refine mm_getr (t := 99) C fl_X12_108 (mm_dec dk_X12_inOrder 133 rfl) rfl rfl (mm_ref i187_ rfl) ?_
                  refine mm_sipush C (mm_dec dk_X12_inOrder 134 rfl) ⟨by decide, by decide⟩ ?_
                  refine mm_iload_n C (mm_dec dk_X12_inOrder 135 rfl) rfl ?_
                  refine mm_iconst C (mm_dec dk_X12_inOrder 136 rfl) ⟨by decide, by decide⟩ ?_
                  refine mm_iadd C (mm_dec dk_X12_inOrder 137 rfl) ⟨by omega, by omega⟩ ?_
                  refine mm_imul C (mm_dec dk_X12_inOrder 138 rfl) ⟨by omega, by omega⟩ ?_
                  refine mm_iload C (mm_dec dk_X12_inOrder 139 rfl) rfl ?_
                  refine mm_iadd C (mm_dec dk_X12_inOrder 140 rfl) ⟨by omega, by omega⟩ ?_
                  refine mm_iconst C (mm_dec dk_X12_inOrder 141 rfl) ⟨by decide, by decide⟩ ?_
                  refine mm_iadd C (mm_dec dk_X12_inOrder 142 rfl) ⟨by omega, by omega⟩ ?_
                  refine mm_iald C (mm_dec dk_X12_inOrder 143 rfl) rfl (by omega) (by omega) ?_
                  have g7 : -2147483648 ≤ (h187_.2.1 99 (((501 * (x187_3 + 1)) + r202) + 1)) ∧ (h187_.2.1 99 (((501 * (x187_3 + 1)) + r202) + 1)) ≤ 2147483647 := i187_.2.1 99 (((501 * (x187_3 + 1)) + r202) + 1)
                  refine mm_iconst C (mm_dec dk_X12_inOrder 144 rfl) ⟨by decide, by decide⟩ ?_
                  refine mm_iaddw C (mm_dec dk_X12_inOrder 145 rfl) ?_
                  have g8 : -2147483648 ≤ (mm_w ((h187_.2.1 99 (((501 * (x187_3 + 1)) + r202) + 1)) + 1)) ∧ (mm_w ((h187_.2.1 99 (((501 * (x187_3 + 1)) + r202) + 1)) + 1)) < 2147483648 := mm_w_rg _
                  refine mm_iload_n C (mm_dec dk_X12_inOrder 146 rfl) rfl ?_
                  refine mm_icmp_eq (tgt := 239) C (mm_dec dk_X12_inOrder 147 rfl) (by decide) (fun c233 => ?_) (fun c233 => ?_)
                  · skip
                    refine mm_aload_n C (mm_dec dk_X12_inOrder 149 rfl) rfl ?_
                    refine mm_getr (t := 100) C fl_X12_111 (mm_dec dk_X12_inOrder 150 rfl) rfl rfl (mm_ref i187_ rfl) ?_
                    refine mm_iload_n C (mm_dec dk_X12_inOrder 151 rfl) rfl ?_
                    refine mm_iload C (mm_dec dk_X12_inOrder 152 rfl) rfl ?_
                    refine mm_iast C (mm_dec dk_X12_inOrder 153 rfl) rfl (by omega) (by omega) ?_
                    have i2 : mm_inv (mm_pa h187_ 100 x187_3 r202) := mm_inv_pa i187_ (show -1 ≤ r202 ∧ r202 ≤ 499 from ⟨by omega, by omega⟩)
                    have f2 : mm_fr [(66, 52)] [99, 100] h (mm_pa h187_ 100 x187_3 r202) := mm_fr_pa f187_ (by decide)
                    obtain ⟨h2, eh2⟩ : ∃ z, z = mm_pa h187_ 100 x187_3 r202 := ⟨_, rfl⟩
                    rw [← eh2] at i2 f2 ⊢
                    have qh2_9 : h2.1 66 39 = h187_.1 66 39 := by rw [eh2]; rfl
                    refine mm_iload C (mm_dec dk_X12_inOrder 154 rfl) rfl ?_
                    refine mm_iconst C (mm_dec dk_X12_inOrder 155 rfl) ⟨by decide, by decide⟩ ?_
                    refine mm_iadd C (mm_dec dk_X12_inOrder 156 rfl) ⟨by omega, by omega⟩ ?_
                    refine mm_istore_nL (ls2 := [mR 66, mI (r202 + 1), mI x187_2, mI x187_3, mI r202, mU]) C (mm_dec dk_X12_inOrder 157 rfl) (by decide) rfl ?_
                    refine mm_iincL (ls2 := [mR 66, mI (r202 + 1), mI (x187_2 + (-1)), mI x187_3, mI r202, mU]) C (mm_dec dk_X12_inOrder 158 rfl) rfl (by decide) ⟨by omega, by omega⟩ rfl ?_
                    refine mm_fgt 4 ?_
                    exact J255 (r202 + 1) ⟨by omega, by omega⟩ (x187_2 + (-1)) ⟨by omega, by omega⟩ h2 i2 f2 (by first | exact mm_ko8_y w187_0 y202_0 (show mm_Vh h187_ = mm_Vh h from funext fun j => by unfold mm_Vh; rw [f187_.2 94 (by decide), f187_.2 98 (by decide)]) (f187_.1 66 48 (by decide)) (f187_.2 91 (by decide) _) eh2 (by omega) (w187_1 _) (by omega) (by omega) (by omega) | exact mm_ko8_n (v := h187_.2.1 99 (((501 * (x187_3 + 1)) + r202) + 1)) w187_0 zLS y202_0 (show mm_Vh h187_ = mm_Vh h from funext fun j => by unfold mm_Vh; rw [f187_.2 94 (by decide), f187_.2 98 (by decide)]) (f187_.1 66 48 (by decide)) (f187_.2 91 (by decide) _) (by first | exact Or.inl (by omega) | exact Or.inr ⟨w187_1 _, by omega⟩) (by omega) (by omega) (by omega) (by omega)) (by first | exact w187_1 | exact fun j => (mm_sm_pa 99 eh2 (by decide) j).trans (w187_1 j))
                  · skip
                    refine mm_goto (tgt := 255) C (mm_dec dk_X12_inOrder 148 rfl) (by decide) ?_
                    refine mm_fgt 4 ?_
                    exact J255 x187_1 ⟨by omega, by omega⟩ x187_2 ⟨by omega, by omega⟩ h187_ i187_ f187_ (by first | exact mm_ko8_y w187_0 y202_0 (show mm_Vh h187_ = mm_Vh h from funext fun j => by unfold mm_Vh; rw [f187_.2 94 (by decide), f187_.2 98 (by decide)]) (f187_.1 66 48 (by decide)) (f187_.2 91 (by decide) _) eh2 (by omega) (w187_1 _) (by omega) (by omega) (by omega) | exact mm_ko8_n (v := h187_.2.1 99 (((501 * (x187_3 + 1)) + r202) + 1)) w187_0 zLS y202_0 (show mm_Vh h187_ = mm_Vh h from funext fun j => by unfold mm_Vh; rw [f187_.2 94 (by decide), f187_.2 98 (by decide)]) (f187_.1 66 48 (by decide)) (f187_.2 91 (by decide) _) (by first | exact Or.inl (by omega) | exact Or.inr ⟨w187_1 _, by omega⟩) (by omega) (by omega) (by omega) (by omega)) (by first | exact w187_1 | exact fun j => (mm_sm_pa 99 eh2 (by decide) j).trans (w187_1 j))
        refine mm_istore_nL (ls2 := [mR 66, mI 0, mI (h3_.2.1 99 0), mI 0, mU, mU]) C (mm_dec dk_X12_inOrder 117 rfl) (by decide) rfl ?_
        exact J187 (((12 - 0) : Int) + 1).toNat 0 ⟨by omega, by omega⟩ (h3_.2.1 99 0) ⟨by omega, by omega⟩ 0 ⟨by omega, by omega⟩ h1 i1 f1 (by first | exact w255_0 | exact mm_ko8_0 (fun j a b => (by rw [eh1]; exact (w3_1 j).trans (t0 j a b))) rfl) (by first | exact w255_1 | exact fun j => (by rw [eh1]; rfl)) (by omega) (by omega)
      · skip
        refine mm_sipush C (mm_dec dk_X12_inOrder 4 rfl) ⟨by decide, by decide⟩ ?_
        have J11 : ∀ (n : Nat) (x11_2 : Int) (bx11_2 : -1 ≤ x11_2 ∧ x11_2 ≤ 500) (h11_ : mH) (i11_ : mm_inv h11_) (f11_ : mm_fr [(66, 52)] [99, 100] h h11_) (w11_0 : mm_ld8 h h11_ (501 * x3_1 + x11_2 + 1)) (w11_1 : ∀ j, h11_.2.1 100 j = h.2.1 100 j), (x11_2 - (-1) : Int) < n → mm_W x 0 0 11 [mR 66, mI x3_1, mI x11_2, mU, mU, mU] [] h11_ := by
          intro n
          induction n with
          | zero =>
            intro x11_2 bx11_2 h11_ i11_ f11_ w11_0 w11_1 hm
            exfalso; omega
          | succ n ih11 =>
            intro x11_2 bx11_2 h11_ i11_ f11_ w11_0 w11_1 hm11
            have ze39 : h11_.1 66 39 = h.1 66 39 := f11_.1 66 39 (by decide)
            have ze48 : h11_.1 66 48 = h.1 66 48 := f11_.1 66 48 (by decide)
            have zV : mm_Vh h x11_2 = h11_.2.1 94 (h11_.2.1 98 x11_2) := by unfold mm_Vh; rw [f11_.2 94 (by decide), f11_.2 98 (by decide)]
            have zw : h11_.2.1 91 x3_1 = h.2.1 91 x3_1 := f11_.2 91 (by decide) _
            refine mm_iload_n C (mm_dec dk_X12_inOrder 6 rfl) rfl ?_
            refine mm_if_lt (tgt := 160) C (mm_dec dk_X12_inOrder 7 rfl) (by decide) (fun c12 => ?_) (fun c12 => ?_)
            · skip
              refine mm_iincL (ls2 := [mR 66, mI (x3_1 + (-1)), mI x11_2, mU, mU, mU]) C (mm_dec dk_X12_inOrder 101 rfl) rfl (by decide) ⟨by omega, by omega⟩ rfl ?_
              refine mm_goto (tgt := 3) C (mm_dec dk_X12_inOrder 102 rfl) (by decide) ?_
              refine mm_fgt 2 ?_
              exact ih3 (x3_1 + (-1)) ⟨by omega, by omega⟩ h11_ i11_ f11_ (by first | exact mm_ld8_0 (by omega) | (rw [show 501 * (x3_1 + (-1) + 1) = 501 * x3_1 + x11_2 + 1 by omega]; exact w11_0)) (by first | exact fun _ => rfl | exact w11_1) (by omega)
            · skip
              refine mm_iconst C (mm_dec dk_X12_inOrder 8 rfl) ⟨by decide, by decide⟩ ?_
              refine mm_istore_nL (ls2 := [mR 66, mI x3_1, mI x11_2, mI 0, mU, mU]) C (mm_dec dk_X12_inOrder 9 rfl) (by decide) rfl ?_
              refine mm_iload_n C (mm_dec dk_X12_inOrder 10 rfl) rfl ?_
              refine mm_aload_n C (mm_dec dk_X12_inOrder 11 rfl) rfl ?_
              refine mm_geti C fl_X12_296 (mm_dec dk_X12_inOrder 12 rfl) rfl rfl (Or.inl rfl) ?_
              have g10 : 0 ≤ (h11_.1 66 39) ∧ (h11_.1 66 39) ≤ 12 := i11_.1 66 39
              have J141 : ∀ (x141_3 : Int) (bx141_3 : -2147483648 ≤ x141_3 ∧ x141_3 ≤ 2147483647) (w141_0 : mm_cv8 h h11_ x3_1 x11_2 x141_3) (w141_1 : 0 ≤ x141_3) (w141_2 : x141_3 ≤ 12 - x3_1), mm_W x 0 0 141 [mR 66, mI x3_1, mI x11_2, mI x141_3, mU, mU] [] h11_ := by
                intro x141_3 bx141_3 w141_0 w141_1 w141_2
                refine mm_aload_n C (mm_dec dk_X12_inOrder 90 rfl) rfl ?_
                refine mm_getr (t := 99) C fl_X12_108 (mm_dec dk_X12_inOrder 91 rfl) rfl rfl (mm_ref i11_ rfl) ?_
                refine mm_sipush C (mm_dec dk_X12_inOrder 92 rfl) ⟨by decide, by decide⟩ ?_
                refine mm_iload_n C (mm_dec dk_X12_inOrder 93 rfl) rfl ?_
                refine mm_imul C (mm_dec dk_X12_inOrder 94 rfl) ⟨by omega, by omega⟩ ?_
                refine mm_iload_n C (mm_dec dk_X12_inOrder 95 rfl) rfl ?_
                refine mm_iadd C (mm_dec dk_X12_inOrder 96 rfl) ⟨by omega, by omega⟩ ?_
                refine mm_iload_n C (mm_dec dk_X12_inOrder 97 rfl) rfl ?_
                refine mm_iast C (mm_dec dk_X12_inOrder 98 rfl) rfl (by omega) (by omega) ?_
                have i3 : mm_inv (mm_pa h11_ 99 ((501 * x3_1) + x11_2) x141_3) := mm_inv_pa i11_ (show -2147483648 ≤ x141_3 ∧ x141_3 ≤ 2147483647 from ⟨by omega, by omega⟩)
                have f3 : mm_fr [(66, 52)] [99, 100] h (mm_pa h11_ 99 ((501 * x3_1) + x11_2) x141_3) := mm_fr_pa f11_ (by decide)
                obtain ⟨h3, eh3⟩ : ∃ z, z = mm_pa h11_ 99 ((501 * x3_1) + x11_2) x141_3 := ⟨_, rfl⟩
                rw [← eh3] at i3 f3 ⊢
                have qh3_11 : h3.1 66 39 = h11_.1 66 39 := by rw [eh3]; rfl
                refine mm_iincL (ls2 := [mR 66, mI x3_1, mI (x11_2 + (-1)), mI x141_3, mU, mU]) C (mm_dec dk_X12_inOrder 99 rfl) rfl (by decide) ⟨by omega, by omega⟩ rfl ?_
                refine mm_goto (tgt := 11) C (mm_dec dk_X12_inOrder 100 rfl) (by decide) ?_
                refine mm_fgt 3 ?_
                exact ih11 (x11_2 + (-1)) ⟨by omega, by omega⟩ h3 i3 f3 (by first | exact (by rw [show 501 * x3_1 + 500 + 1 = 501 * (x3_1 + 1) by omega]; exact w3_0) | exact (by rw [show 501 * x3_1 + (x11_2 + (-1)) + 1 = 501 * x3_1 + x11_2 by omega]; exact mm_ld8_s w11_0 eh3 w141_0 w141_1 w141_2 rfl (by omega) (by omega) (by omega))) (by first | exact w3_1 | exact fun j => (mm_sm_pa 100 eh3 (by decide) j).trans (w11_1 j)) (by omega)
              refine mm_icmp_ge (tgt := 141) C (mm_dec dk_X12_inOrder 13 rfl) (by decide) (fun c22 => ?_) (fun c22 => ?_)
              · skip
                exact J141 0 ⟨by omega, by omega⟩ (by first | exact ⟨fun _ => rfl, fun a b => by omega⟩ | exact ⟨fun _ => by omega, fun a b => ⟨by omega, by omega, fun q => by rw [zV] at q; omega, by rcases w79_0 with q | q; exact Or.inl q; exact Or.inr (Or.inl q)⟩⟩ | exact ⟨fun _ => by omega, fun a b => ⟨by omega, by omega, fun q => by omega, Or.inr (Or.inr ⟨by rw [zV]; omega, by omega⟩)⟩⟩) (by omega) (by omega)
              · skip
                refine mm_iload_n C (mm_dec dk_X12_inOrder 14 rfl) rfl ?_
                refine mm_aload_n C (mm_dec dk_X12_inOrder 15 rfl) rfl ?_
                refine mm_geti C fl_X12_329 (mm_dec dk_X12_inOrder 16 rfl) rfl rfl (Or.inl rfl) ?_
                have g12 : 0 ≤ (h11_.1 66 48) ∧ (h11_.1 66 48) ≤ 500 := i11_.1 66 48
                refine mm_icmp_ge (tgt := 141) C (mm_dec dk_X12_inOrder 17 rfl) (by decide) (fun c30 => ?_) (fun c30 => ?_)
                · skip
                  exact J141 0 ⟨by omega, by omega⟩ (by first | exact ⟨fun _ => rfl, fun a b => by omega⟩ | exact ⟨fun _ => by omega, fun a b => ⟨by omega, by omega, fun q => by rw [zV] at q; omega, by rcases w79_0 with q | q; exact Or.inl q; exact Or.inr (Or.inl q)⟩⟩ | exact ⟨fun _ => by omega, fun a b => ⟨by omega, by omega, fun q => by omega, Or.inr (Or.inr ⟨by rw [zV]; omega, by omega⟩)⟩⟩) (by omega) (by omega)
                · skip
                  have zA := mm_ld8_b (k := (501 * (x3_1 + 1)) + x11_2) (a := x3_1 + 1) (b := x11_2) w11_0 (by omega) (by omega) (by omega) (by omega)
                  have zB := mm_ld8_b (k := ((501 * x3_1) + x11_2) + 1) (a := x3_1) (b := x11_2 + 1) w11_0 (by omega) (by omega) (by omega) (by omega)
                  have zC := mm_ld8_b (k := ((501 * (x3_1 + 1)) + x11_2) + 1) (a := x3_1 + 1) (b := x11_2 + 1) w11_0 (by omega) (by omega) (by omega) (by omega)
                  have zCw : mm_w (h11_.2.1 99 (((501 * (x3_1 + 1)) + x11_2) + 1) + 1) = h11_.2.1 99 (((501 * (x3_1 + 1)) + x11_2) + 1) + 1 := mm_w_id ⟨by omega, by omega⟩
                  refine mm_aload_n C (mm_dec dk_X12_inOrder 18 rfl) rfl ?_
                  refine mm_getr (t := 99) C fl_X12_108 (mm_dec dk_X12_inOrder 19 rfl) rfl rfl (mm_ref i11_ rfl) ?_
                  refine mm_sipush C (mm_dec dk_X12_inOrder 20 rfl) ⟨by decide, by decide⟩ ?_
                  refine mm_iload_n C (mm_dec dk_X12_inOrder 21 rfl) rfl ?_
                  refine mm_iconst C (mm_dec dk_X12_inOrder 22 rfl) ⟨by decide, by decide⟩ ?_
                  refine mm_iadd C (mm_dec dk_X12_inOrder 23 rfl) ⟨by omega, by omega⟩ ?_
                  refine mm_imul C (mm_dec dk_X12_inOrder 24 rfl) ⟨by omega, by omega⟩ ?_
                  refine mm_iload_n C (mm_dec dk_X12_inOrder 25 rfl) rfl ?_
                  refine mm_iadd C (mm_dec dk_X12_inOrder 26 rfl) ⟨by omega, by omega⟩ ?_
                  refine mm_iald C (mm_dec dk_X12_inOrder 27 rfl) rfl (by omega) (by omega) ?_
                  have g13 : -2147483648 ≤ (h11_.2.1 99 ((501 * (x3_1 + 1)) + x11_2)) ∧ (h11_.2.1 99 ((501 * (x3_1 + 1)) + x11_2)) ≤ 2147483647 := i11_.2.1 99 ((501 * (x3_1 + 1)) + x11_2)
                  refine mm_istoreL (ls2 := [mR 66, mI x3_1, mI x11_2, mI 0, mI (h11_.2.1 99 ((501 * (x3_1 + 1)) + x11_2)), mU]) C (mm_dec dk_X12_inOrder 28 rfl) (by decide) rfl ?_
                  refine mm_aload_n C (mm_dec dk_X12_inOrder 29 rfl) rfl ?_
                  refine mm_getr (t := 99) C fl_X12_108 (mm_dec dk_X12_inOrder 30 rfl) rfl rfl (mm_ref i11_ rfl) ?_
                  refine mm_sipush C (mm_dec dk_X12_inOrder 31 rfl) ⟨by decide, by decide⟩ ?_
                  refine mm_iload_n C (mm_dec dk_X12_inOrder 32 rfl) rfl ?_
                  refine mm_imul C (mm_dec dk_X12_inOrder 33 rfl) ⟨by omega, by omega⟩ ?_
                  refine mm_iload_n C (mm_dec dk_X12_inOrder 34 rfl) rfl ?_
                  refine mm_iadd C (mm_dec dk_X12_inOrder 35 rfl) ⟨by omega, by omega⟩ ?_
                  refine mm_iconst C (mm_dec dk_X12_inOrder 36 rfl) ⟨by decide, by decide⟩ ?_
                  refine mm_iadd C (mm_dec dk_X12_inOrder 37 rfl) ⟨by omega, by omega⟩ ?_
                  refine mm_iald C (mm_dec dk_X12_inOrder 38 rfl) rfl (by omega) (by omega) ?_
                  have g14 : -2147483648 ≤ (h11_.2.1 99 (((501 * x3_1) + x11_2) + 1)) ∧ (h11_.2.1 99 (((501 * x3_1) + x11_2) + 1)) ≤ 2147483647 := i11_.2.1 99 (((501 * x3_1) + x11_2) + 1)
                  refine mm_istoreL (ls2 := [mR 66, mI x3_1, mI x11_2, mI 0, mI (h11_.2.1 99 ((501 * (x3_1 + 1)) + x11_2)), mI (h11_.2.1 99 (((501 * x3_1) + x11_2) + 1))]) C (mm_dec dk_X12_inOrder 39 rfl) (by decide) rfl ?_
                  refine mm_iload C (mm_dec dk_X12_inOrder 40 rfl) rfl ?_
                  refine mm_iload C (mm_dec dk_X12_inOrder 41 rfl) rfl ?_
                  have J79 : ∀ (s79_0 : Int) (bs79_0 : -2147483648 ≤ s79_0 ∧ s79_0 ≤ 2147483647) (w79_0 : (s79_0 = h11_.2.1 99 ((501 * (x3_1 + 1)) + x11_2) ∨ s79_0 = h11_.2.1 99 (((501 * x3_1) + x11_2) + 1))) (w79_1 : h11_.2.1 99 ((501 * (x3_1 + 1)) + x11_2) ≤ s79_0) (w79_2 : h11_.2.1 99 (((501 * x3_1) + x11_2) + 1) ≤ s79_0), mm_W x 0 0 79 [mR 66, mI x3_1, mI x11_2, mU, mU, mU] [mI s79_0] h11_ := by
                    intro s79_0 bs79_0 w79_0 w79_1 w79_2
                    refine mm_istore_nL (ls2 := [mR 66, mI x3_1, mI x11_2, mI s79_0, mU, mU]) C (mm_dec dk_X12_inOrder 46 rfl) (by decide) rfl ?_
                    refine mm_aload_n C (mm_dec dk_X12_inOrder 47 rfl) rfl ?_
                    refine mm_getr (t := 94) C fl_X12_93 (mm_dec dk_X12_inOrder 48 rfl) rfl rfl (mm_ref i11_ rfl) ?_
                    refine mm_aload_n C (mm_dec dk_X12_inOrder 49 rfl) rfl ?_
                    refine mm_getr (t := 98) C fl_X12_105 (mm_dec dk_X12_inOrder 50 rfl) rfl rfl (mm_ref i11_ rfl) ?_
                    refine mm_iload_n C (mm_dec dk_X12_inOrder 51 rfl) rfl ?_
                    refine mm_iald C (mm_dec dk_X12_inOrder 52 rfl) rfl (by omega) (by omega) ?_
                    have g15 : 0 ≤ (h11_.2.1 98 x11_2) ∧ (h11_.2.1 98 x11_2) ≤ 499 := i11_.2.1 98 x11_2
                    refine mm_iald C (mm_dec dk_X12_inOrder 53 rfl) rfl (by omega) (by omega) ?_
                    have g16 : -2147483648 ≤ (h11_.2.1 94 (h11_.2.1 98 x11_2)) ∧ (h11_.2.1 94 (h11_.2.1 98 x11_2)) ≤ 2147483647 := i11_.2.1 94 (h11_.2.1 98 x11_2)
                    refine mm_aload_n C (mm_dec dk_X12_inOrder 54 rfl) rfl ?_
                    refine mm_getr (t := 91) C fl_X12_84 (mm_dec dk_X12_inOrder 55 rfl) rfl rfl (mm_ref i11_ rfl) ?_
                    refine mm_iload_n C (mm_dec dk_X12_inOrder 56 rfl) rfl ?_
                    refine mm_iald C (mm_dec dk_X12_inOrder 57 rfl) rfl (by omega) (by omega) ?_
                    have g17 : 0 ≤ (h11_.2.1 91 x3_1) ∧ (h11_.2.1 91 x3_1) ≤ 19 := i11_.2.1 91 x3_1
                    refine mm_icmp_ne (tgt := 141) C (mm_dec dk_X12_inOrder 58 rfl) (by decide) (fun c97 => ?_) (fun c97 => ?_)
                    · skip
                      exact J141 s79_0 ⟨by omega, by omega⟩ (by first | exact ⟨fun _ => rfl, fun a b => by omega⟩ | exact ⟨fun _ => by omega, fun a b => ⟨by omega, by omega, fun q => by rw [zV] at q; omega, by rcases w79_0 with q | q; exact Or.inl q; exact Or.inr (Or.inl q)⟩⟩ | exact ⟨fun _ => by omega, fun a b => ⟨by omega, by omega, fun q => by omega, Or.inr (Or.inr ⟨by rw [zV]; omega, by omega⟩)⟩⟩) (by omega) (by omega)
                    · skip
                      refine mm_aload_n C (mm_dec dk_X12_inOrder 59 rfl) rfl ?_
                      refine mm_getr (t := 99) C fl_X12_108 (mm_dec dk_X12_inOrder 60 rfl) rfl rfl (mm_ref i11_ rfl) ?_
                      refine mm_sipush C (mm_dec dk_X12_inOrder 61 rfl) ⟨by decide, by decide⟩ ?_
                      refine mm_iload_n C (mm_dec dk_X12_inOrder 62 rfl) rfl ?_
                      refine mm_iconst C (mm_dec dk_X12_inOrder 63 rfl) ⟨by decide, by decide⟩ ?_
                      refine mm_iadd C (mm_dec dk_X12_inOrder 64 rfl) ⟨by omega, by omega⟩ ?_
                      refine mm_imul C (mm_dec dk_X12_inOrder 65 rfl) ⟨by omega, by omega⟩ ?_
                      refine mm_iload_n C (mm_dec dk_X12_inOrder 66 rfl) rfl ?_
                      refine mm_iadd C (mm_dec dk_X12_inOrder 67 rfl) ⟨by omega, by omega⟩ ?_
                      refine mm_iconst C (mm_dec dk_X12_inOrder 68 rfl) ⟨by decide, by decide⟩ ?_
                      refine mm_iadd C (mm_dec dk_X12_inOrder 69 rfl) ⟨by omega, by omega⟩ ?_
                      refine mm_iald C (mm_dec dk_X12_inOrder 70 rfl) rfl (by omega) (by omega) ?_
                      have g18 : -2147483648 ≤ (h11_.2.1 99 (((501 * (x3_1 + 1)) + x11_2) + 1)) ∧ (h11_.2.1 99 (((501 * (x3_1 + 1)) + x11_2) + 1)) ≤ 2147483647 := i11_.2.1 99 (((501 * (x3_1 + 1)) + x11_2) + 1)
                      refine mm_iconst C (mm_dec dk_X12_inOrder 71 rfl) ⟨by decide, by decide⟩ ?_
                      refine mm_iaddw C (mm_dec dk_X12_inOrder 72 rfl) ?_
                      have g19 : -2147483648 ≤ (mm_w ((h11_.2.1 99 (((501 * (x3_1 + 1)) + x11_2) + 1)) + 1)) ∧ (mm_w ((h11_.2.1 99 (((501 * (x3_1 + 1)) + x11_2) + 1)) + 1)) < 2147483648 := mm_w_rg _
                      refine mm_iload_n C (mm_dec dk_X12_inOrder 73 rfl) rfl ?_
                      refine mm_icmp_le (tgt := 141) C (mm_dec dk_X12_inOrder 74 rfl) (by decide) (fun c119 => ?_) (fun c119 => ?_)
                      · skip
                        exact J141 s79_0 ⟨by omega, by omega⟩ (by first | exact ⟨fun _ => rfl, fun a b => by omega⟩ | exact ⟨fun _ => by omega, fun a b => ⟨by omega, by omega, fun q => by rw [zV] at q; omega, by rcases w79_0 with q | q; exact Or.inl q; exact Or.inr (Or.inl q)⟩⟩ | exact ⟨fun _ => by omega, fun a b => ⟨by omega, by omega, fun q => by omega, Or.inr (Or.inr ⟨by rw [zV]; omega, by omega⟩)⟩⟩) (by omega) (by omega)
                      · skip
                        refine mm_aload_n C (mm_dec dk_X12_inOrder 75 rfl) rfl ?_
                        refine mm_getr (t := 99) C fl_X12_108 (mm_dec dk_X12_inOrder 76 rfl) rfl rfl (mm_ref i11_ rfl) ?_
                        refine mm_sipush C (mm_dec dk_X12_inOrder 77 rfl) ⟨by decide, by decide⟩ ?_
                        refine mm_iload_n C (mm_dec dk_X12_inOrder 78 rfl) rfl ?_
                        refine mm_iconst C (mm_dec dk_X12_inOrder 79 rfl) ⟨by decide, by decide⟩ ?_
                        refine mm_iadd C (mm_dec dk_X12_inOrder 80 rfl) ⟨by omega, by omega⟩ ?_
                        refine mm_imul C (mm_dec dk_X12_inOrder 81 rfl) ⟨by omega, by omega⟩ ?_
                        refine mm_iload_n C (mm_dec dk_X12_inOrder 82 rfl) rfl ?_
                        refine mm_iadd C (mm_dec dk_X12_inOrder 83 rfl) ⟨by omega, by omega⟩ ?_
                        refine mm_iconst C (mm_dec dk_X12_inOrder 84 rfl) ⟨by decide, by decide⟩ ?_
                        refine mm_iadd C (mm_dec dk_X12_inOrder 85 rfl) ⟨by omega, by omega⟩ ?_
                        refine mm_iald C (mm_dec dk_X12_inOrder 86 rfl) rfl (by omega) (by omega) ?_
                        refine mm_iconst C (mm_dec dk_X12_inOrder 87 rfl) ⟨by decide, by decide⟩ ?_
                        refine mm_iaddw C (mm_dec dk_X12_inOrder 88 rfl) ?_
                        have g20 : -2147483648 ≤ (mm_w ((h11_.2.1 99 (((501 * (x3_1 + 1)) + x11_2) + 1)) + 1)) ∧ (mm_w ((h11_.2.1 99 (((501 * (x3_1 + 1)) + x11_2) + 1)) + 1)) < 2147483648 := mm_w_rg _
                        refine mm_istore_nL (ls2 := [mR 66, mI x3_1, mI x11_2, mI (mm_w ((h11_.2.1 99 (((501 * (x3_1 + 1)) + x11_2) + 1)) + 1)), mU, mU]) C (mm_dec dk_X12_inOrder 89 rfl) (by decide) rfl ?_
                        exact J141 (mm_w ((h11_.2.1 99 (((501 * (x3_1 + 1)) + x11_2) + 1)) + 1)) ⟨by omega, by omega⟩ (by first | exact ⟨fun _ => rfl, fun a b => by omega⟩ | exact ⟨fun _ => by omega, fun a b => ⟨by omega, by omega, fun q => by rw [zV] at q; omega, by rcases w79_0 with q | q; exact Or.inl q; exact Or.inr (Or.inl q)⟩⟩ | exact ⟨fun _ => by omega, fun a b => ⟨by omega, by omega, fun q => by omega, Or.inr (Or.inr ⟨by rw [zV]; omega, by omega⟩)⟩⟩) (by omega) (by omega)
                  refine mm_icmp_le (tgt := 77) C (mm_dec dk_X12_inOrder 42 rfl) (by decide) (fun c69 => ?_) (fun c69 => ?_)
                  · skip
                    refine mm_iload C (mm_dec dk_X12_inOrder 45 rfl) rfl ?_
                    refine mm_fgt 3 ?_
                    refine mm_fgt 4 ?_
                    refine mm_fgt 5 ?_
                    exact J79 (h11_.2.1 99 (((501 * x3_1) + x11_2) + 1)) ⟨by omega, by omega⟩ (by omega) (by omega) (by omega)
                  · skip
                    refine mm_iload C (mm_dec dk_X12_inOrder 43 rfl) rfl ?_
                    refine mm_goto (tgt := 79) C (mm_dec dk_X12_inOrder 44 rfl) (by decide) ?_
                    refine mm_fgt 3 ?_
                    refine mm_fgt 4 ?_
                    refine mm_fgt 5 ?_
                    exact J79 (h11_.2.1 99 ((501 * (x3_1 + 1)) + x11_2)) ⟨by omega, by omega⟩ (by omega) (by omega) (by omega)
        refine mm_istore_nL (ls2 := [mR 66, mI x3_1, mI 500, mU, mU, mU]) C (mm_dec dk_X12_inOrder 5 rfl) (by decide) rfl ?_
        exact J11 (((500 - (-1)) : Int) + 1).toNat 500 ⟨by omega, by omega⟩ h3_ i3_ f3_ (by first | exact (by rw [show 501 * x3_1 + 500 + 1 = 501 * (x3_1 + 1) by omega]; exact w3_0) | exact (by rw [show 501 * x3_1 + (x11_2 + (-1)) + 1 = 501 * x3_1 + x11_2 by omega]; exact mm_ld8_s w11_0 eh3 w141_0 w141_1 w141_2 rfl (by omega) (by omega) (by omega))) (by first | exact w3_1 | exact fun j => (mm_sm_pa 100 eh3 (by decide) j).trans (w11_1 j)) (by omega)
  refine mm_istore_nL (ls2 := [mR 66, mI 12, mU, mU, mU, mU]) C (mm_dec dk_X12_inOrder 1 rfl) (by decide) rfl ?_
  exact J3 (((12 - (-1)) : Int) + 1).toNat 12 ⟨by omega, by omega⟩ h i0 f0 (by first | exact mm_ld8_0 (by omega) | (rw [show 501 * (x3_1 + (-1) + 1) = 501 * x3_1 + x11_2 + 1 by omega]; exact w11_0)) (by first | exact fun _ => rfl | exact w11_1) (by omega)
set_option maxRecDepth 100000 in
set_option maxHeartbeats 4000000 in
theorem c_X12_finishOf_q (l : Launch) (hl : l.stackTraces = false) (d : Nat) (hd : 2 ≤ d) (h : mH) (i0 : mm_inv h) (p1 : Int) (p2 : Int) (bp1 : 0 ≤ p1 ∧ p1 ≤ 39) : mm_Met l d yX12_finishOf cX12_finishOf 4 (some .int) [mR 66, mI p1, mI p2] h (mm_pi fun r h2 => (-2147483648 ≤ r ∧ r ≤ 2147483647) ∧ h2 = h ∧ mm_tm8 (h.2.1 95) (mm_k2 h 2 p1 p2) (h.1 66 40) r) mm_nx 0 0 := by
  refine mm_ofW (ls := [mR 66, mI p1, mI p2, mU]) hl (by decide) rfl (Nat.le_of_ble_eq_true rfl) ?_
  intro x hxl C T hnm htb
  subst hxl
  have C1 := mm_OK_le (d' := d - 1 + 1) (by omega) C
  refine mm_rng (fun hr _ => ?_)
  have ap1 : -2147483648 ≤ p1 ∧ p1 < 2147483648 := mm_ok_at hr (i := 1) rfl
  have ap2 : -2147483648 ≤ p2 ∧ p2 < 2147483648 := mm_ok_at hr (i := 2) rfl
  have f0 : mm_fr [] [] h h := mm_fr_rf
  refine mm_aload_n C (mm_dec dk_X12_finishOf 0 rfl) rfl ?_
  refine mm_iconst C (mm_dec dk_X12_finishOf 1 rfl) ⟨by decide, by decide⟩ ?_
  refine mm_iload_n C (mm_dec dk_X12_finishOf 2 rfl) rfl ?_
  refine mm_iload_n C (mm_dec dk_X12_finishOf 3 rfl) rfl ?_
  refine mm_cVi (rest := []) C1 ev_X12_322 (mm_dec dk_X12_finishOf 4 rfl) (c_X12_latest_q x.2.1 hl (d - 1) (by omega) h i0 2 p1 p2) rfl rfl (Nat.le_of_ble_eq_true rfl) ⟨by decide, by decide⟩ rfl (fun r4 h4c hp4 => ?_) (fun _ _ q => q.elim)
  obtain ⟨b4, z4, y4_0⟩ := hp4
  rw [z4]
  refine mm_istore_nL (ls2 := [mR 66, mI p1, mI p2, mI r4]) C (mm_dec dk_X12_finishOf 5 rfl) (by decide) rfl ?_
  refine mm_iload_n C (mm_dec dk_X12_finishOf 6 rfl) rfl ?_
  refine mm_iconst C (mm_dec dk_X12_finishOf 7 rfl) ⟨by decide, by decide⟩ ?_
  have J23 : ∀ (s23_0 : Int) (bs23_0 : -2147483648 ≤ s23_0 ∧ s23_0 ≤ 2147483647) (w23_0 : ((r4 = -1 ∧ s23_0 = -1) ∨ (r4 ≠ -1 ∧ s23_0 = h.2.1 95 r4))), mm_W x 0 0 23 [mU, mU, mU, mU] [mI s23_0] h := by
    intro s23_0 bs23_0 w23_0
    exact mm_iret C T (mm_dec dk_X12_finishOf 15 rfl) (by decide : 0 ≤ 0) (by decide : 0 ≤ 0) ⟨_, rfl, ⟨⟨by omega, by omega⟩, rfl, by exact ⟨r4, y4_0, by omega⟩⟩⟩
  refine mm_icmp_ne (tgt := 17) C (mm_dec dk_X12_finishOf 8 rfl) (by decide) (fun c10 => ?_) (fun c10 => ?_)
  · skip
    refine mm_aload_n C (mm_dec dk_X12_finishOf 11 rfl) rfl ?_
    refine mm_getr (t := 95) C fl_X12_96 (mm_dec dk_X12_finishOf 12 rfl) rfl rfl (mm_ref i0 rfl) ?_
    refine mm_iload_n C (mm_dec dk_X12_finishOf 13 rfl) rfl ?_
    refine mm_iald C (mm_dec dk_X12_finishOf 14 rfl) rfl (by omega) (by omega) ?_
    have g2 : -2147483648 ≤ (h.2.1 95 r4) ∧ (h.2.1 95 r4) ≤ 2147483647 := i0.2.1 95 r4
    refine mm_fgt 0 ?_
    refine mm_fgt 1 ?_
    refine mm_fgt 2 ?_
    refine mm_fgt 3 ?_
    exact J23 (h.2.1 95 r4) ⟨by omega, by omega⟩ (by omega)
  · skip
    refine mm_iconst C (mm_dec dk_X12_finishOf 9 rfl) ⟨by decide, by decide⟩ ?_
    refine mm_goto (tgt := 23) C (mm_dec dk_X12_finishOf 10 rfl) (by decide) ?_
    refine mm_fgt 0 ?_
    refine mm_fgt 1 ?_
    refine mm_fgt 2 ?_
    refine mm_fgt 3 ?_
    exact J23 (-1) ⟨by omega, by omega⟩ (by omega)
set_option maxRecDepth 100000 in
set_option maxHeartbeats 4000000 in
theorem c_X12_startOf_q (l : Launch) (hl : l.stackTraces = false) (d : Nat) (hd : 3 ≤ d) (h : mH) (i0 : mm_inv h) (p1 : Int) (p2 : Int) (bp1 : 0 ≤ p1 ∧ p1 ≤ 39) : mm_Met l d yX12_startOf cX12_startOf 4 (some .int) [mR 66, mI p1, mI p2] h (mm_pi fun r h2 => (-2147483648 ≤ r ∧ r ≤ 2147483647) ∧ h2 = h ∧ mm_sY8 h p1 p2 r) mm_nx 0 0 := by
  refine mm_ofW (ls := [mR 66, mI p1, mI p2, mU]) hl (by decide) rfl (Nat.le_of_ble_eq_true rfl) ?_
  intro x hxl C T hnm htb
  subst hxl
  have C1 := mm_OK_le (d' := d - 1 + 1) (by omega) C
  refine mm_rng (fun hr _ => ?_)
  have ap1 : -2147483648 ≤ p1 ∧ p1 < 2147483648 := mm_ok_at hr (i := 1) rfl
  have ap2 : -2147483648 ≤ p2 ∧ p2 < 2147483648 := mm_ok_at hr (i := 2) rfl
  have f0 : mm_fr [] [] h h := mm_fr_rf
  refine mm_aload_n C (mm_dec dk_X12_startOf 0 rfl) rfl ?_
  refine mm_getr (t := 88) C fl_X12_75 (mm_dec dk_X12_startOf 1 rfl) rfl rfl (mm_ref i0 rfl) ?_
  refine mm_iload_n C (mm_dec dk_X12_startOf 2 rfl) rfl ?_
  refine mm_iald C (mm_dec dk_X12_startOf 3 rfl) rfl (by omega) (by omega) ?_
  have g1 : -1 ≤ (h.2.1 88 p1) ∧ (h.2.1 88 p1) ≤ 9 := i0.2.1 88 p1
  refine mm_iconst C (mm_dec dk_X12_startOf 4 rfl) ⟨by decide, by decide⟩ ?_
  have J47 : ∀ (w47_0 : (h.2.1 88 p1 = -1 ∨ h.2.1 89 p1 ≤ 0)), mm_W x 0 0 47 [mR 66, mI p1, mI p2, mU] [] h := by
    intro w47_0
    refine mm_aload_n C (mm_dec dk_X12_startOf 31 rfl) rfl ?_
    refine mm_iconst C (mm_dec dk_X12_startOf 32 rfl) ⟨by decide, by decide⟩ ?_
    refine mm_iload_n C (mm_dec dk_X12_startOf 33 rfl) rfl ?_
    refine mm_iload_n C (mm_dec dk_X12_startOf 34 rfl) rfl ?_
    refine mm_cVi (rest := []) C1 ev_X12_322 (mm_dec dk_X12_startOf 35 rfl) (c_X12_latest_q x.2.1 hl (d - 1) (by omega) h i0 0 p1 p2) rfl rfl (Nat.le_of_ble_eq_true rfl) ⟨by decide, by decide⟩ rfl (fun r51 h51c hp51 => ?_) (fun _ _ q => q.elim)
    obtain ⟨b51, z51, y51_0⟩ := hp51
    rw [z51]
    refine mm_istore_nL (ls2 := [mR 66, mI p1, mI p2, mI r51]) C (mm_dec dk_X12_startOf 36 rfl) (by decide) rfl ?_
    refine mm_iload_n C (mm_dec dk_X12_startOf 37 rfl) rfl ?_
    refine mm_iconst C (mm_dec dk_X12_startOf 38 rfl) ⟨by decide, by decide⟩ ?_
    have J70 : ∀ (s70_0 : Int) (bs70_0 : -2147483648 ≤ s70_0 ∧ s70_0 ≤ 2147483647) (w70_0 : ((r51 = -1 ∧ s70_0 = -1) ∨ (r51 ≠ -1 ∧ s70_0 = h.2.1 95 r51))), mm_W x 0 0 70 [mU, mU, mU, mU] [mI s70_0] h := by
      intro s70_0 bs70_0 w70_0
      exact mm_iret C T (mm_dec dk_X12_startOf 46 rfl) (by decide : 0 ≤ 0) (by decide : 0 ≤ 0) ⟨_, rfl, ⟨⟨by omega, by omega⟩, rfl, by first | exact Or.inl ⟨w47_0, r51, y51_0, by omega⟩ | exact Or.inr ⟨by omega, by omega, y43_0⟩⟩⟩
    refine mm_icmp_ne (tgt := 64) C (mm_dec dk_X12_startOf 39 rfl) (by decide) (fun c57 => ?_) (fun c57 => ?_)
    · skip
      refine mm_aload_n C (mm_dec dk_X12_startOf 42 rfl) rfl ?_
      refine mm_getr (t := 95) C fl_X12_96 (mm_dec dk_X12_startOf 43 rfl) rfl rfl (mm_ref i0 rfl) ?_
      refine mm_iload_n C (mm_dec dk_X12_startOf 44 rfl) rfl ?_
      refine mm_iald C (mm_dec dk_X12_startOf 45 rfl) rfl (by omega) (by omega) ?_
      have g3 : -2147483648 ≤ (h.2.1 95 r51) ∧ (h.2.1 95 r51) ≤ 2147483647 := i0.2.1 95 r51
      refine mm_fgt 0 ?_
      refine mm_fgt 1 ?_
      refine mm_fgt 2 ?_
      refine mm_fgt 3 ?_
      exact J70 (h.2.1 95 r51) ⟨by omega, by omega⟩ (by omega)
    · skip
      refine mm_iconst C (mm_dec dk_X12_startOf 40 rfl) ⟨by decide, by decide⟩ ?_
      refine mm_goto (tgt := 70) C (mm_dec dk_X12_startOf 41 rfl) (by decide) ?_
      refine mm_fgt 0 ?_
      refine mm_fgt 1 ?_
      refine mm_fgt 2 ?_
      refine mm_fgt 3 ?_
      exact J70 (-1) ⟨by omega, by omega⟩ (by omega)
  refine mm_icmp_eq (tgt := 47) C (mm_dec dk_X12_startOf 5 rfl) (by decide) (fun c7 => ?_) (fun c7 => ?_)
  · skip
    exact J47 (by omega)
  · skip
    refine mm_aload_n C (mm_dec dk_X12_startOf 6 rfl) rfl ?_
    refine mm_getr (t := 89) C fl_X12_78 (mm_dec dk_X12_startOf 7 rfl) rfl rfl (mm_ref i0 rfl) ?_
    refine mm_iload_n C (mm_dec dk_X12_startOf 8 rfl) rfl ?_
    refine mm_iald C (mm_dec dk_X12_startOf 9 rfl) rfl (by omega) (by omega) ?_
    have g4 : 0 ≤ (h.2.1 89 p1) ∧ (h.2.1 89 p1) ≤ 2 := i0.2.1 89 p1
    refine mm_if_le (tgt := 47) C (mm_dec dk_X12_startOf 10 rfl) (by decide) (fun c16 => ?_) (fun c16 => ?_)
    · skip
      exact J47 (by omega)
    · skip
      refine mm_aload_n C (mm_dec dk_X12_startOf 11 rfl) rfl ?_
      refine mm_aload_n C (mm_dec dk_X12_startOf 12 rfl) rfl ?_
      refine mm_getr (t := 90) C fl_X12_81 (mm_dec dk_X12_startOf 13 rfl) rfl rfl (mm_ref i0 rfl) ?_
      refine mm_iconst C (mm_dec dk_X12_startOf 14 rfl) ⟨by decide, by decide⟩ ?_
      refine mm_aload_n C (mm_dec dk_X12_startOf 15 rfl) rfl ?_
      refine mm_getr (t := 88) C fl_X12_75 (mm_dec dk_X12_startOf 16 rfl) rfl rfl (mm_ref i0 rfl) ?_
      refine mm_iload_n C (mm_dec dk_X12_startOf 17 rfl) rfl ?_
      refine mm_iald C (mm_dec dk_X12_startOf 18 rfl) rfl (by omega) (by omega) ?_
      refine mm_imul C (mm_dec dk_X12_startOf 19 rfl) ⟨by omega, by omega⟩ ?_
      refine mm_aload_n C (mm_dec dk_X12_startOf 20 rfl) rfl ?_
      refine mm_getr (t := 89) C fl_X12_78 (mm_dec dk_X12_startOf 21 rfl) rfl rfl (mm_ref i0 rfl) ?_
      refine mm_iload_n C (mm_dec dk_X12_startOf 22 rfl) rfl ?_
      refine mm_iald C (mm_dec dk_X12_startOf 23 rfl) rfl (by omega) (by omega) ?_
      refine mm_iadd C (mm_dec dk_X12_startOf 24 rfl) ⟨by omega, by omega⟩ ?_
      refine mm_iconst C (mm_dec dk_X12_startOf 25 rfl) ⟨by decide, by decide⟩ ?_
      refine mm_isub C (mm_dec dk_X12_startOf 26 rfl) ⟨by omega, by omega⟩ ?_
      refine mm_iald C (mm_dec dk_X12_startOf 27 rfl) rfl (by omega) (by omega) ?_
      have g5 : 0 ≤ (h.2.1 90 (((3 * (h.2.1 88 p1)) + (h.2.1 89 p1)) - 1)) ∧ (h.2.1 90 (((3 * (h.2.1 88 p1)) + (h.2.1 89 p1)) - 1)) ≤ 39 := i0.2.1 90 (((3 * (h.2.1 88 p1)) + (h.2.1 89 p1)) - 1)
      refine mm_iload_n C (mm_dec dk_X12_startOf 28 rfl) rfl ?_
      refine mm_cVi (rest := []) C1 ev_X12_326 (mm_dec dk_X12_startOf 29 rfl) (c_X12_finishOf_q x.2.1 hl (d - 1) (by omega) h i0 (h.2.1 90 (((3 * (h.2.1 88 p1)) + (h.2.1 89 p1)) - 1)) p2 ⟨by omega, by omega⟩) rfl rfl (Nat.le_of_ble_eq_true rfl) ⟨by decide, by decide⟩ rfl (fun r43 h43c hp43 => ?_) (fun _ _ q => q.elim)
      obtain ⟨b43, z43, y43_0⟩ := hp43
      rw [z43]
      exact mm_iret C T (mm_dec dk_X12_startOf 30 rfl) (by decide : 0 ≤ 0) (by decide : 0 ≤ 0) ⟨_, rfl, ⟨⟨by omega, by omega⟩, rfl, by first | exact Or.inl ⟨w47_0, r51, y51_0, by omega⟩ | exact Or.inr ⟨by omega, by omega, y43_0⟩⟩⟩
