/-! ===== where a track fails ===== -/
def mm_WX (h : mH) : Nat → Int × Int := mm_wk (mm_bx h) (mm_sx h) (h.2.1 62) (h.1 1 7)
def mm_WY (h : mH) : Nat → Int × Int := mm_wk (mm_by h) (mm_sy h) (h.2.1 101) (20 * h.1 66 10 + h.1 66 9)
def mm_fp (W : Nat → Int × Int) (n f : Int) : Prop := (f = -1 ∧ 0 ≤ (W n.toNat).1) ∨ (0 ≤ f ∧ f < n ∧ 0 ≤ (W f.toNat).1 ∧ (W (f + 1).toNat).1 < 0)
theorem mm_fp_un {nx sc : Int → Int → Int} {tp : Int → Int} {c0 n f g : Int} (X : mm_fp (mm_wk nx sc tp c0) n f) (Y : mm_fp (mm_wk nx sc tp c0) n g) : f = g := by
  have st : ∀ a b : Int, (mm_wk nx sc tp c0 a.toNat).1 < 0 → a ≤ b → (mm_wk nx sc tp c0 b.toNat).1 < 0 := fun a b q l => by
    rw [mm_wk_stay q (show a.toNat ≤ b.toNat by omega)]; exact q
  rcases X with ⟨x1, x2⟩ | ⟨x1, x2, x3, x4⟩
  · rcases Y with ⟨y1, y2⟩ | ⟨y1, y2, y3, y4⟩
    · omega
    · have := st _ n y4 (by omega); omega
  · rcases Y with ⟨y1, y2⟩ | ⟨y1, y2, y3, y4⟩
    · have := st _ n x4 (by omega); omega
    · by_cases q : f < g
      · have := st _ g x4 (by omega); omega
      · by_cases q2 : g < f
        · have := st _ f y4 (by omega); omega
        · omega
theorem mm_fp_cg {W W' : Nat → Int × Int} {n f : Int} (e : ∀ k : Nat, k ≤ n.toNat → W k = W' k) (X : mm_fp W n f) : mm_fp W' n f := by
  rcases X with ⟨x1, x2⟩ | ⟨x1, x2, x3, x4⟩
  · exact Or.inl ⟨x1, by rw [← e _ (Nat.le_refl _)]; exact x2⟩
  · exact Or.inr ⟨x1, x2, by rw [← e _ (by omega)]; exact x3, by rw [← e _ (by omega)]; exact x4⟩
theorem mm_wk_fn {nx sc : Int → Int → Int} {tp : Int → Int} {c0 i c s m : Int} (w : mm_wk nx sc tp c0 i.toNat = (c, s)) (h0 : 0 ≤ i) (hc : 0 ≤ c) (hm : mm_mv (tp i) = m) (m2 : m ≠ -2) (q : m = -1 ∨ (m ≠ -1 ∧ nx c m = -1)) : (mm_wk nx sc tp c0 (i + 1).toNat).1 < 0 := by
  rw [mm_wk_s h0, w, hm]
  unfold mm_wt
  rw [if_neg (show ¬ c < 0 by omega), if_neg m2]
  rcases q with q | ⟨q, q2⟩
  · rw [if_pos q]; show (-2 : Int) < 0; decide
  · rw [if_neg q, if_pos q2]; show (-3 : Int) < 0; decide
theorem mm_WX_fr {h h' : mH} (w5 : h'.1 1 5 = h.1 1 5) (w6 : h'.1 1 6 = h.1 1 6) (w7 : h'.1 1 7 = h.1 1 7) (e2 : ∀ j, h'.2.1 2 j = h.2.1 2 j) (e3 : ∀ j, h'.2.1 3 j = h.2.1 3 j) (e4 : ∀ j, h'.2.1 4 j = h.2.1 4 j) (e5 : ∀ j, h'.2.1 5 j = h.2.1 5 j) (e6 : ∀ j, h'.2.1 6 j = h.2.1 6 j) (e62 : ∀ j, h'.2.1 62 j = h.2.1 62 j) : mm_WX h' = mm_WX h := by
  have a : mm_bx h' = mm_bx h := by
    funext c m
    unfold mm_bx
    rw [mm_bes_fr w5 w6 e4 e5, e2, e6]
  have b : mm_sx h' = mm_sx h := by
    funext c m
    unfold mm_sx
    rw [e2, e6, e6, e3, e3]
  have c : h'.2.1 62 = h.2.1 62 := funext e62
  unfold mm_WX
  rw [a, b, c, w7]
theorem mm_WY_fr {h h' : mH} (w1 : h'.1 66 1 = h.1 66 1) (w2 : h'.1 66 2 = h.1 66 2) (w3 : h'.1 66 3 = h.1 66 3) (w4 : h'.1 66 9 = h.1 66 9) (w5 : h'.1 66 10 = h.1 66 10) (e2 : ∀ j, h'.2.1 67 j = h.2.1 67 j) (e3 : ∀ j, h'.2.1 68 j = h.2.1 68 j) (e6 : ∀ j, h'.2.1 69 j = h.2.1 69 j) (e4 : ∀ j, h'.2.1 70 j = h.2.1 70 j) (e5 : ∀ j, h'.2.1 71 j = h.2.1 71 j) (e62 : ∀ j, h'.2.1 101 j = h.2.1 101 j) : mm_WY h' = mm_WY h := by
  have a : mm_by h' = mm_by h := by
    funext c m
    unfold mm_by mm_bz mm_wl
    rw [w1, w2, e2, e6, e4, e4, e5, e5]
  have b : mm_sy h' = mm_sy h := by
    funext c m
    unfold mm_sy
    rw [e2, e6, w3, e3, e3]
  have c : h'.2.1 101 = h.2.1 101 := funext e62
  unfold mm_WY
  rw [a, b, c, w4, w5]
theorem mm_WXY {h : mH} {n : Int} (hn : n ≤ h.1 0 12) (hw : h.1 66 1 = h.1 1 5) (hh : h.1 66 2 = h.1 1 6) (w20 : h.1 1 5 ≤ 20) (h20 : h.1 1 6 ≤ 20) (s0 : 0 ≤ h.1 66 9) (s1 : 0 ≤ h.1 66 10) (E2 : mm_eq h 2 67 399) (E6 : mm_eq h 6 69 7) (E3 : mm_eq h 3 68 399) (E4 : mm_eq h 4 70 399) (E5 : mm_eq h 5 71 399) (ET : mm_eq h 62 101 (h.1 0 12 - 1)) (G : mm_go h) (b2 : ∀ j, 0 ≤ h.2.1 2 j ∧ h.2.1 2 j ≤ 7) (b6 : ∀ j, 0 ≤ h.2.1 6 j) (k : Nat) (hk : k ≤ n.toNat) : mm_WY h k = mm_WX h k := by
  unfold mm_WY mm_WX
  rw [← G.1]
  have inb : ∀ c, mm_inl h c → 0 ≤ c ∧ c ≤ 399 := fun c i => by
    obtain ⟨c0, c1, c2⟩ := i
    omega
  exact (mm_wk_eq (nx := mm_bx h) (sc := mm_sx h) (tp := h.2.1 62) (c0 := h.1 1 7) (nx' := mm_by h) (sc' := mm_sy h) (tp' := h.2.1 101) (n := k) (mm_inl h) (by
      have g := G
      unfold mm_go at g
      refine ⟨?_, ?_, ?_⟩ <;> omega)
    (fun c m i m0 m3 q => (mm_bxy i m0 m3 hw hh w20 h20 E2 E6 E4 E5 b2 b6).2 q)
    (fun c m i m0 m3 => (mm_bxy i m0 m3 hw hh w20 h20 E2 E6 E4 E5 b2 b6).1)
    (fun a b ia ib => by
      have x := inb a ia
      have y := inb b ib
      unfold mm_sy mm_sx
      rw [← E3 a x.1 x.2, ← E3 b y.1 y.2, ← E2 b y.1 y.2, ← E6 _ (b2 b).1 (b2 b).2, G.2.2.2])
    (fun j a b => (ET j a (by omega)).symm)).1
/-! ===== posts that a track comes by ===== -/
def mm_av (T : Int → Int) (c : Int) : Nat → Int → Int
  | 0, m => m
  | f + 1, m => if T m = c then mm_av T c f (m + 1) else m
def mm_avn (T : Int → Int) (n c m : Int) : Int := mm_av T c (n - m).toNat m
theorem mm_avn_s {T : Int → Int} {n c m : Int} (h : m < n) (e : T m = c) : mm_avn T n c m = mm_avn T n c (m + 1) := by
  unfold mm_avn
  rw [show (n - m).toNat = (n - (m + 1)).toNat + 1 by omega]
  exact if_pos e
theorem mm_avn_e {T : Int → Int} {n c m : Int} (h : n ≤ m ∨ T m ≠ c) : mm_avn T n c m = m := by
  unfold mm_avn
  rcases h with h | h
  · rw [show (n - m).toNat = 0 by omega]; rfl
  · cases (n - m).toNat with
    | zero => rfl
    | succ f => exact if_neg h
theorem mm_av_rg (T : Int → Int) (c : Int) : ∀ (f : Nat) (m : Int), m ≤ mm_av T c f m ∧ mm_av T c f m ≤ m + f ∧ (mm_av T c f m = m + f ∨ T (mm_av T c f m) ≠ c)
  | 0, m => ⟨Int.le_refl _, by show m ≤ _; omega, Or.inl (by show m = _; omega)⟩
  | f + 1, m => by
    have z := mm_av_rg T c f (m + 1)
    unfold mm_av
    split
    · refine ⟨by omega, by omega, ?_⟩
      rcases z.2.2 with y | y
      · exact Or.inl (by omega)
      · exact Or.inr y
    · rename_i q
      exact ⟨Int.le_refl _, by omega, Or.inr q⟩
theorem mm_avn_rg (T : Int → Int) (n c m : Int) : m ≤ mm_avn T n c m ∧ (n ≤ mm_avn T n c m ∨ T (mm_avn T n c m) ≠ c) := by
  have z := mm_av_rg T c (n - m).toNat m
  unfold mm_avn
  refine ⟨z.1, ?_⟩
  rcases z.2.2 with y | y
  · exact Or.inl (by omega)
  · exact Or.inr y
theorem mm_av_cg {T T' : Int → Int} {c n : Int} (e : ∀ j, 0 ≤ j → j < n → T j = T' j) : ∀ (f : Nat) (m : Int), 0 ≤ m → m + f ≤ n → mm_av T c f m = mm_av T' c f m
  | 0, _, _, _ => rfl
  | f + 1, m, m0, l => by
    unfold mm_av
    rw [e m m0 (by omega), mm_av_cg e f (m + 1) (by omega) (by omega)]
theorem mm_avn_cg {T T' : Int → Int} {c n m : Int} (e : ∀ j, 0 ≤ j → j < n → T j = T' j) (m0 : 0 ≤ m) : mm_avn T n c m = mm_avn T' n c m := by
  unfold mm_avn
  by_cases q : m ≤ n
  · exact mm_av_cg e _ m m0 (by omega)
  · rw [show (n - m).toNat = 0 by omega]; rfl
def mm_me (T : Int → Int) (n : Int) (C : Nat → Int) : Nat → Int
  | 0 => mm_avn T n (C 0) 0
  | k + 1 => mm_avn T n (C (k + 1)) (mm_me T n C k)
theorem mm_me_end (T : Int → Int) (n : Int) (C : Nat → Int) : ∀ k : Nat, 0 ≤ mm_me T n C k ∧ (n ≤ mm_me T n C k ∨ T (mm_me T n C k) ≠ C k)
  | 0 => mm_avn_rg T n (C 0) 0
  | k + 1 => by
    have z := mm_avn_rg T n (C (k + 1)) (mm_me T n C k)
    have y := (mm_me_end T n C k).1
    exact ⟨Int.le_trans y z.1, z.2⟩
theorem mm_me_skip {T : Int → Int} {n i : Int} {C : Nat → Int} (h0 : 0 ≤ i) (e : C (i + 1).toNat = C i.toNat) : mm_me T n C (i + 1).toNat = mm_me T n C i.toNat := by
  rw [show (i + 1).toNat = i.toNat + 1 by omega] at e ⊢
  show mm_avn T n (C (i.toNat + 1)) (mm_me T n C i.toNat) = _
  rw [e]
  exact mm_avn_e (mm_me_end T n C i.toNat).2
theorem mm_me_go {T : Int → Int} {n i c : Int} {C : Nat → Int} (h0 : 0 ≤ i) (e : C (i + 1).toNat = c) : mm_avn T n c (mm_me T n C i.toNat) = mm_me T n C (i + 1).toNat := by
  rw [show (i + 1).toNat = i.toNat + 1 by omega] at e ⊢
  rw [← e]; rfl
theorem mm_me_cg {T T' : Int → Int} {n : Int} {C C' : Nat → Int} (e : ∀ j, 0 ≤ j → j < n → T j = T' j) : ∀ k : Nat, (∀ i : Nat, i ≤ k → C i = C' i) → mm_me T n C k = mm_me T' n C' k
  | 0, c => by
    show mm_avn T n (C 0) 0 = mm_avn T' n (C' 0) 0
    rw [c 0 (Nat.le_refl _)]
    exact mm_avn_cg e (Int.le_refl _)
  | k + 1, c => by
    show mm_avn T n (C (k + 1)) (mm_me T n C k) = mm_avn T' n (C' (k + 1)) (mm_me T' n C' k)
    rw [c (k + 1) (Nat.le_refl _), mm_me_cg e k (fun i hi => c i (by omega))]
    exact mm_avn_cg e (mm_me_end T' n C' k).1
def mm_cb9 (came : Int) (T : Int → Int) (n : Int) (W : Nat → Int × Int) (k : Nat) (fin : Int) : Prop := (came = 1 ∧ mm_me T n (fun i => (W i).1) k = n ∧ (W k).1 = fin) ∨ (came = 0 ∧ ¬ (mm_me T n (fun i => (W i).1) k = n ∧ (W k).1 = fin))
theorem mm_cb9_un {came came' n fin fin' : Int} {T T' : Int → Int} {W W' : Nat → Int × Int} {k : Nat} (X : mm_cb9 came T n W k fin) (Y : mm_cb9 came' T' n W' k fin') (e : ∀ j, 0 ≤ j → j < n → T j = T' j) (w : ∀ i : Nat, i ≤ k → W i = W' i) (f : fin = fin') : came = came' := by
  have m := mm_me_cg (C := fun i => (W i).1) (C' := fun i => (W' i).1) e k (fun i hi => congrArg Prod.fst (w i hi))
  have q := congrArg Prod.fst (w k (Nat.le_refl _))
  subst f
  unfold mm_cb9 at X Y
  rw [← m, ← q] at Y
  rcases X with ⟨x1, x2⟩ | ⟨x1, x2⟩
  · rcases Y with ⟨y1, y2⟩ | ⟨y1, y2⟩
    · omega
    · exact absurd x2 y2
  · rcases Y with ⟨y1, y2⟩ | ⟨y1, y2⟩
    · exact absurd y2 x2
    · omega
theorem mm_cb9_cg {came n fin fin' : Int} {T T' : Int → Int} {W W' : Nat → Int × Int} {k : Nat} (X : mm_cb9 came T n W k fin) (e : ∀ j, 0 ≤ j → j < n → T j = T' j) (w : ∀ i : Nat, i ≤ k → W i = W' i) (f : fin = fin') : mm_cb9 came T' n W' k fin' := by
  have m := mm_me_cg (C := fun i => (W i).1) (C' := fun i => (W' i).1) e k (fun i hi => congrArg Prod.fst (w i hi))
  have q := congrArg Prod.fst (w k (Nat.le_refl _))
  subst f
  unfold mm_cb9 at X ⊢
  rw [← m, ← q]
  exact X
/-- a sum of seconds never wraps -/
theorem mm_wk_rg {nx sc : Int → Int → Int} {tp : Int → Int} {c0 : Int} (hs : ∀ a b, 0 ≤ sc a b ∧ sc a b ≤ 9900) : ∀ k : Nat, k ≤ 500 → 0 ≤ (mm_wk nx sc tp c0 k).2 ∧ (mm_wk nx sc tp c0 k).2 ≤ 9900 * k
  | 0, _ => ⟨Int.le_refl _, Int.le_refl _⟩
  | k + 1, hk => by
    have z := mm_wk_rg (nx := nx) (tp := tp) (c0 := c0) hs k (by omega)
    show 0 ≤ (mm_wt nx sc (mm_mv (tp (k : Int))) (mm_wk nx sc tp c0 k)).2 ∧ (mm_wt nx sc (mm_mv (tp (k : Int))) (mm_wk nx sc tp c0 k)).2 ≤ 9900 * ((k + 1 : Nat) : Int)
    generalize mm_wk nx sc tp c0 k = q at z ⊢
    unfold mm_wt
    split
    · omega
    · split
      · omega
      · split
        · show 0 ≤ q.2 ∧ q.2 ≤ _; omega
        · split
          · show 0 ≤ q.2 ∧ q.2 ≤ _; omega
          · show 0 ≤ mm_w _ ∧ mm_w _ ≤ _
            have y := hs q.1 (nx q.1 (mm_mv (tp (k : Int))))
            rw [mm_w_id ⟨by omega, by omega⟩]
            omega
theorem mm_sx_rg9 {h : mH} (i : mm_inv h) (a b : Int) : 0 ≤ mm_sx h a b ∧ mm_sx h a b ≤ 9900 := by
  unfold mm_sx mm_cm
  have x : 0 ≤ h.2.1 6 (h.2.1 2 b) ∧ h.2.1 6 (h.2.1 2 b) ≤ 99 := i.2.1 6 _
  have y : 0 ≤ h.2.1 6 8 ∧ h.2.1 6 8 ≤ 99 := i.2.1 6 8
  have u : 0 ≤ h.2.1 3 b ∧ h.2.1 3 b ≤ 99 := i.2.1 3 b
  have v : 0 ≤ h.2.1 3 a ∧ h.2.1 3 a ≤ 99 := i.2.1 3 a
  split
  · have z := mm_mul_rg (u := h.2.1 3 b - h.2.1 3 a) (v := h.2.1 6 8) (A := 99) (B := 99) ⟨by omega, by omega⟩ y
    omega
  · omega
theorem mm_WX_rg {h : mH} (i : mm_inv h) {n : Int} (hn : n ≤ 500) : 0 ≤ (mm_WX h n.toNat).2 := (mm_wk_rg (mm_sx_rg9 i) n.toNat (by omega)).1
/-- what a track leaves of a runner -/
def mm_tk9 (h h2 : mH) (p n r : Int) : Prop := ∃ f v : Int, mm_up h h2 26 p v f ∧ ((f = 0 ∧ (mm_WX h n.toNat).1 < 0) ∨ (f = 1 ∧ 0 ≤ (mm_WX h n.toNat).1 ∧ ∃ came : Int, mm_cb9 came (fun j => h.2.1 15 (mm_rX h p j)) (mm_nX h p) (mm_WX h) n.toNat (h.1 1 8) ∧ ((came = 1 ∧ v = r) ∨ (came = 0 ∧ v = -1))))
def mm_tk8 (h h2 : mH) (p n : Int) : Prop := ∃ f v c : Int, mm_up h h2 122 p v f ∧ mm_up h h2 123 p c f ∧ ((f = 0 ∧ (mm_WY h n.toNat).1 < 0) ∨ (f = 1 ∧ 0 ≤ (mm_WY h n.toNat).1 ∧ v = (mm_WY h n.toNat).2 ∧ mm_cb9 c (fun j => h.2.1 78 (mm_rY h p j)) (mm_nY h p) (mm_WY h) n.toNat (20 * h.1 66 12 + h.1 66 11)))
/-- the class's tracks beside the reference's -/
def mm_tt (h : mH) : Prop := ∀ p, 0 ≤ p → p ≤ h.1 22 8 - 1 → (h.2.1 26 p = -1 ∧ (h.2.1 122 p = -100000 ∨ h.2.1 123 p = 0)) ∨ (0 ≤ h.2.1 26 p ∧ h.2.1 26 p = h.2.1 122 p ∧ h.2.1 123 p ≠ 0)
theorem mm_tt_sm {h h2 : mH} (T : mm_tt h) (e26 : ∀ j, h2.2.1 26 j = h.2.1 26 j) (e122 : ∀ j, h2.2.1 122 j = h.2.1 122 j) (e123 : ∀ j, h2.2.1 123 j = h.2.1 123 j) (n : h2.1 22 8 = h.1 22 8) : mm_tt h2 := fun p a b => by
  rw [e26, e122, e123]
  exact T p a (by omega)
theorem mm_tt_nil {h : mH} (n : h.1 22 8 = 0) : mm_tt h := fun p x y => absurd (Int.le_trans x y) (by omega)
theorem mm_tt_runner {h h1 h2 : mH} {f f' : Int} (T : mm_tt h) (u : mm_up h h1 26 (h.1 22 8) (-1) f) (e26 : ∀ j, h2.2.1 26 j = h1.2.1 26 j) (w : mm_up h1 h2 122 (h.1 22 8) (-100000) f') (g122 : ∀ j, h1.2.1 122 j = h.2.1 122 j) (e123 : ∀ j, h2.2.1 123 j = h.2.1 123 j) (ff : f = f') (m : (f = 1 ∧ h2.1 22 8 = h.1 22 8 + 1) ∨ (f = 0 ∧ h2.1 22 8 = h.1 22 8)) : mm_tt h2 := fun p a b => by
  subst ff
  rw [e26, u p, w p, e123, g122]
  by_cases q : p = h.1 22 8 ∧ f = 1
  · rw [if_pos q, if_pos q]; exact Or.inl ⟨rfl, Or.inl rfl⟩
  · rw [if_neg q, if_neg q]
    exact T p a (by omega)
theorem mm_tt_track {h h1 h2 : mH} {p n r1 : Int} (i : mm_inv h) (R : mm_RW h) (T : mm_tt h) (p0 : 0 ≤ p) (p1 : p < h.1 22 8) (hn : n ≤ 500) (X : mm_tk9 h h1 p n r1) (er : r1 = mm_wX h n) (e26 : ∀ j, h2.2.1 26 j = h1.2.1 26 j) (Y : mm_tk8 h1 h2 p n) (g122 : ∀ j, h1.2.1 122 j = h.2.1 122 j) (g123 : ∀ j, h1.2.1 123 j = h.2.1 123 j) (W : ∀ k : Nat, k ≤ n.toNat → mm_WY h1 k = mm_WX h k) (eT : ∀ j, 0 ≤ j → j < mm_nX h p → h.2.1 15 (mm_rX h p j) = h1.2.1 78 (mm_rY h1 p j)) (en : mm_nY h1 p = mm_nX h p) (ef : h.1 1 8 = 20 * h1.1 66 12 + h1.1 66 11) (m : h2.1 22 8 = h.1 22 8) : mm_tt h2 := fun q a b => by
  obtain ⟨f, v, u, x⟩ := X
  obtain ⟨f', v', c, w, w2, y⟩ := Y
  rw [W _ (Nat.le_refl _)] at y
  rw [e26, u q, w q, w2 q, g122, g123]
  have wx : 0 ≤ (mm_WX h n.toNat).1 → r1 = (mm_WX h n.toNat).2 := fun z => by
    rw [er]
    show mm_wr (mm_WX h n.toNat) = _
    unfold mm_wr
    rw [if_neg (by omega)]
  have sg := mm_WX_rg i hn
  rcases x with ⟨x1, x2⟩ | ⟨x1, x2, came, x3, x4⟩
  · rcases y with ⟨y1, y2⟩ | ⟨y1, y2, y3⟩
    · rw [if_neg (fun z => by omega), if_neg (fun z => by omega), if_neg (fun z => by omega)]
      exact T q a (by omega)
    · omega
  · rcases y with ⟨y1, y2⟩ | ⟨y1, y2, y3, y4⟩
    · omega
    · by_cases z : q = p
      · rw [if_pos ⟨z, x1⟩, if_pos ⟨z, y1⟩, if_pos ⟨z, y1⟩]
        have ec : came = c := mm_cb9_un x3 (by rw [en] at y4; exact y4) eT (fun k hk => (W k hk).symm) ef
        have e2 := wx x2
        rcases x4 with ⟨x4, x5⟩ | ⟨x4, x5⟩
        · exact Or.inr ⟨by omega, by omega, by omega⟩
        · exact Or.inl ⟨x5, Or.inr (by omega)⟩
      · rw [if_neg (fun k => z k.1), if_neg (fun k => z k.1), if_neg (fun k => z k.1)]
        exact T q a (by omega)
/-- what lost answers -/
def mm_ls (s l r : Int) : Prop := (l = -1 ∧ r = -100000) ∨ (l ≠ -1 ∧ r = mm_w (s - l))
def mm_lo9 (h : mH) (p r : Int) : Prop := (h.2.1 26 p = -1 ∧ r = -100000) ∨ (h.2.1 26 p ≠ -1 ∧ ∃ l, mm_lX h p l ∧ mm_ls (h.2.1 26 p) l r)
def mm_lo8 (h : mH) (p r : Int) : Prop := ((h.2.1 122 p = -100000 ∨ h.2.1 123 p = 0) ∧ r = -100000) ∨ (h.2.1 122 p ≠ -100000 ∧ h.2.1 123 p ≠ 0 ∧ ∃ l, mm_lY h p l ∧ mm_ls (h.2.1 122 p) l r)
theorem mm_lo_eq {h h1 : mH} {p r r' : Int} (R : mm_RW h) (T : mm_tt h) (p0 : 0 ≤ p) (p1 : p < h.1 22 8) (X : mm_lo9 h p r) (Y : mm_lo8 h1 p r') (g122 : ∀ j, h1.2.1 122 j = h.2.1 122 j) (g123 : ∀ j, h1.2.1 123 j = h.2.1 123 j) (L : ∀ l, mm_lY h1 p l → mm_lY h p l) : r = r' := by
  have t := T p p0 (by omega)
  unfold mm_lo8 at Y
  rw [g122, g123] at Y
  rcases X with ⟨x1, x2⟩ | ⟨x1, l, x2, x3⟩
  · rcases Y with ⟨y1, y2⟩ | ⟨y1, y2, l', y3, y4⟩
    · omega
    · omega
  · rcases Y with ⟨y1, y2⟩ | ⟨y1, y2, l', y3, y4⟩
    · omega
    · have e := mm_len_eq (h1 := h) R p0 p1 x2 (L _ y3)
      have s := t.resolve_left (fun z => x1 z.1)
      subst e
      rw [← s.2.1] at y4
      rcases x3 with ⟨a, b⟩ | ⟨a, b⟩
      · rcases y4 with ⟨c, d⟩ | ⟨c, d⟩
        · omega
        · exact absurd a c
      · rcases y4 with ⟨c, d⟩ | ⟨c, d⟩
        · exact absurd c a
        · rw [b, d]
def mm_s2 (h h2 : mH) : Prop := (∀ j, h2.2.1 122 j = h.2.1 122 j) ∧ ∀ j, h2.2.1 123 j = h.2.1 123 j
theorem mm_s2_fr {fs : List (Nat × Nat)} {os : List Nat} {h h2 : mH} (g : mm_fr fs os h h2) (a : 122 ∉ os) (b : 123 ∉ os) : mm_s2 h h2 := ⟨fun j => g.2 122 a j, fun j => g.2 123 b j⟩
theorem mm_s2_tr {h h1 h2 : mH} (A : mm_s2 h h1) (B : mm_s2 h1 h2) : mm_s2 h h2 := ⟨fun j => (B.1 j).trans (A.1 j), fun j => (B.2 j).trans (A.2 j)⟩
theorem mm_s2_pf {h h1 h2 : mH} {o f : Nat} {v : Int} (A : mm_s2 h h1) (e : h2 = mm_pf h1 o f v) : mm_s2 h h2 := by rw [e]; exact ⟨fun j => A.1 j, fun j => A.2 j⟩
theorem mm_cb8 {h h4 h47 : mH} {p c : Int} {k : Nat} (e82 : h4.2.1 82 = h.2.1 82) (e84 : h4.2.1 84 = h.2.1 84) (e85 : h4.2.1 85 = h.2.1 85) (e87 : h4.2.1 87 = h.2.1 87) (e80 : h4.2.1 80 = h.2.1 80) (y0 : mm_rw h47 91 (mm_rY h4 p) (h47.1 66 39)) (y1 : h47.1 66 39 = mm_nY h4 p) (e78 : h47.2.1 78 = h.2.1 78) (eW : mm_WY h47 = mm_WY h) (a11 : h47.1 66 11 = h.1 66 11) (a12 : h47.1 66 12 = h.1 66 12) (X : mm_cb9 c (fun j => h47.2.1 78 (h47.2.1 91 j)) (h47.1 66 39) (mm_WY h47) k (20 * h47.1 66 12 + h47.1 66 11)) : mm_cb9 c (fun j => h.2.1 78 (mm_rY h p j)) (mm_nY h p) (mm_WY h) k (20 * h.1 66 12 + h.1 66 11) := by
  have nY : mm_nY h4 p = mm_nY h p := by unfold mm_nY; rw [e80, e85]
  have rY : mm_rY h4 p = mm_rY h p := by unfold mm_rY; rw [e82, e84, e85, e87]
  rw [← nY, ← y1]
  refine mm_cb9_cg X (fun j a b => ?_) (fun i _ => congrFun eW i) (by rw [a11, a12])
  show h47.2.1 78 (h47.2.1 91 j) = h.2.1 78 (mm_rY h p j)
  rw [y0 j a b, rY, e78]
theorem mm_tk9_pa {h h2 : mH} {p n r : Int} (X : mm_tk9 h h2 p n r) : mm_tk9 h (mm_pa h2 124 0 r) p n ((mm_pa h2 124 0 r).2.1 124 0) := by
  obtain ⟨f, v, u, c⟩ := X
  rw [mm_pa_same]
  exact ⟨f, v, mm_up_tr (fun _ => rfl) u (fun j => mm_pa_o 26 124 (by decide) j) rfl Iff.rfl, c⟩
theorem mm_eT {h h1 : mH} (R : mm_RW h) {p : Int} (p0 : 0 ≤ p) (p1 : p < h.1 22 8) (E : mm_eq h 15 78 (h.1 14 7 - 1)) (e78 : ∀ j, h1.2.1 78 j = h.2.1 78 j) (e80 : ∀ j, h1.2.1 80 j = h.2.1 80 j) (e82 : ∀ j, h1.2.1 82 j = h.2.1 82 j) (e84 : ∀ j, h1.2.1 84 j = h.2.1 84 j) (e85 : ∀ j, h1.2.1 85 j = h.2.1 85 j) (e87 : ∀ j, h1.2.1 87 j = h.2.1 87 j) : (∀ j, 0 ≤ j → j < mm_nX h p → h.2.1 15 (mm_rX h p j) = h1.2.1 78 (mm_rY h1 p j)) ∧ mm_nY h1 p = mm_nX h p := by
  have f80 : h1.2.1 80 = h.2.1 80 := funext e80
  have f82 : h1.2.1 82 = h.2.1 82 := funext e82
  have f84 : h1.2.1 84 = h.2.1 84 := funext e84
  have f85 : h1.2.1 85 = h.2.1 85 := funext e85
  have f87 : h1.2.1 87 = h.2.1 87 := funext e87
  have rY : mm_rY h1 p = mm_rY h p := by unfold mm_rY; rw [f82, f84, f85, f87]
  refine ⟨fun j a b => ?_, ?_⟩
  · obtain ⟨r1, r2, r3⟩ := mm_RW_r R p0 p1 j a b
    rw [rY, e78, ← r1]
    exact E _ r2 r3
  · have z := (mm_RW_c R p0 p1).2.2.2.2.1
    rw [← z]; unfold mm_nY; rw [f80, f85]

set_option maxRecDepth 100000 in
set_option maxHeartbeats 4000000 in
theorem c_X10_passed_61_q (l : Launch) (hl : l.stackTraces = false) (d : Nat) (hd : 0 ≤ d) (h : mH) (i0 : mm_inv h) (p0 : Int) (p2 : Int) (p3 : Int) (bp0 : 0 ≤ p0 ∧ p0 ≤ 399) (bp2 : 0 ≤ p2 ∧ p2 ≤ 12) (bp3 : 0 ≤ p3 ∧ p3 ≤ 12) : mm_Met l d yX10_passed cX10_passed 5 (some .int) [mI p0, mR 61, mI p2, mI p3] h (mm_pi fun r h2 => (0 ≤ r ∧ r ≤ 12) ∧ h2 = h ∧ r = mm_avn (h.2.1 61) p3 p0 p2) mm_nx 0 0 := by
  refine mm_ofW (ls := [mI p0, mR 61, mI p2, mI p3, mU]) hl (by decide) rfl (Nat.le_of_ble_eq_true rfl) ?_
  intro x hxl C T hnm htb
  subst hxl
  refine mm_rng (fun hr _ => ?_)
  have ap0 : -2147483648 ≤ p0 ∧ p0 < 2147483648 := mm_ok_at hr (i := 0) rfl
  have ap2 : -2147483648 ≤ p2 ∧ p2 < 2147483648 := mm_ok_at hr (i := 2) rfl
  have ap3 : -2147483648 ≤ p3 ∧ p3 < 2147483648 := mm_ok_at hr (i := 3) rfl
  have f0 : mm_fr [] [] h h := mm_fr_rf
  refine mm_iload_n C (mm_dec dk_X10_passed 0 rfl) rfl ?_
  have J3 : ∀ (n : Nat) (x3_4 : Int) (bx3_4 : 0 ≤ x3_4 ∧ x3_4 ≤ 12) (w3_0 : mm_avn (h.2.1 61) p3 p0 x3_4 = mm_avn (h.2.1 61) p3 p0 p2) (w3_1 : p2 ≤ x3_4), (12 - x3_4 : Int) < n → mm_W x 0 0 3 [mI p0, mR 61, mU, mI p3, mI x3_4] [] h := by
    intro n
    induction n with
    | zero =>
      intro x3_4 bx3_4 w3_0 w3_1 hm
      exfalso; omega
    | succ n ih3 =>
      intro x3_4 bx3_4 w3_0 w3_1 hm3
      refine mm_iload C (mm_dec dk_X10_passed 2 rfl) rfl ?_
      refine mm_iload_n C (mm_dec dk_X10_passed 3 rfl) rfl ?_
      have J23 : ∀ (w23_0 : x3_4 = mm_avn (h.2.1 61) p3 p0 p2), mm_W x 0 0 23 [mU, mU, mU, mU, mI x3_4] [] h := by
        intro w23_0
        refine mm_iload C (mm_dec dk_X10_passed 12 rfl) rfl ?_
        exact mm_iret C T (mm_dec dk_X10_passed 13 rfl) (by decide : 0 ≤ 0) (by decide : 0 ≤ 0) ⟨_, rfl, ⟨⟨by omega, by omega⟩, rfl, by exact w23_0⟩⟩
      refine mm_icmp_ge (tgt := 23) C (mm_dec dk_X10_passed 4 rfl) (by decide) (fun c6 => ?_) (fun c6 => ?_)
      · skip
        refine mm_fgt 0 ?_
        refine mm_fgt 1 ?_
        refine mm_fgt 3 ?_
        exact J23 (by first | exact (mm_avn_e (Or.inl (by omega))).symm.trans w3_0 | exact (mm_avn_e (Or.inr (by omega))).symm.trans w3_0)
      · skip
        refine mm_aload_n C (mm_dec dk_X10_passed 5 rfl) rfl ?_
        refine mm_iload C (mm_dec dk_X10_passed 6 rfl) rfl ?_
        refine mm_iald C (mm_dec dk_X10_passed 7 rfl) rfl (by omega) (by omega) ?_
        have g1 : 0 ≤ (h.2.1 61 x3_4) ∧ (h.2.1 61 x3_4) ≤ 399 := i0.2.1 61 x3_4
        refine mm_iload_n C (mm_dec dk_X10_passed 8 rfl) rfl ?_
        refine mm_icmp_ne (tgt := 23) C (mm_dec dk_X10_passed 9 rfl) (by decide) (fun c14 => ?_) (fun c14 => ?_)
        · skip
          refine mm_fgt 0 ?_
          refine mm_fgt 1 ?_
          refine mm_fgt 3 ?_
          exact J23 (by first | exact (mm_avn_e (Or.inl (by omega))).symm.trans w3_0 | exact (mm_avn_e (Or.inr (by omega))).symm.trans w3_0)
        · skip
          refine mm_iincL (ls2 := [mI p0, mR 61, mU, mI p3, mI (x3_4 + 1)]) C (mm_dec dk_X10_passed 10 rfl) rfl (by decide) ⟨by omega, by omega⟩ rfl ?_
          refine mm_goto (tgt := 3) C (mm_dec dk_X10_passed 11 rfl) (by decide) ?_
          exact ih3 (x3_4 + 1) ⟨by omega, by omega⟩ (by first | rfl | exact (mm_avn_s (by omega) (by omega)).symm.trans w3_0) (by omega) (by omega)
  refine mm_istoreL (ls2 := [mI p0, mR 61, mI p2, mI p3, mI p2]) C (mm_dec dk_X10_passed 1 rfl) (by decide) rfl ?_
  refine mm_fgt 2 ?_
  exact J3 (((12 - p2) : Int) + 1).toNat p2 ⟨by omega, by omega⟩ (by first | rfl | exact (mm_avn_s (by omega) (by omega)).symm.trans w3_0) (by omega) (by omega)
set_option maxRecDepth 100000 in
set_option maxHeartbeats 4000000 in
theorem c_X10_walk_62_61_q (l : Launch) (hl : l.stackTraces = false) (d : Nat) (hd : 2 ≤ d) (h : mH) (i0 : mm_inv h) (p2 : Int) (p4 : Int) (bp2 : 0 ≤ p2 ∧ p2 ≤ 500) (bp4 : 0 ≤ p4 ∧ p4 ≤ 12) : mm_Met l d yX10_walk cX10_walk 11 (some .int) [mR 7, mR 62, mI p2, mR 61, mI p4] h (mm_pi fun r h2 => (-2147483648 ≤ r ∧ r ≤ 2147483647) ∧ mm_inv h2 ∧ mm_fr [(7, 10), (7, 11)] [] h h2 ∧ r = mm_wX h p2 ∧ ((h2.1 7 10 = -1 ∧ 0 ≤ (mm_WX h p2.toNat).1 ∧ mm_cb9 (h2.1 7 11) (h.2.1 61) p4 (mm_WX h) p2.toNat (h.1 1 8)) ∨ (h2.1 7 10 ≠ -1 ∧ (mm_WX h p2.toNat).1 < 0))) mm_nx 0 0 := by
  refine mm_ofW (ls := [mR 7, mR 62, mI p2, mR 61, mI p4, mU, mU, mU, mU, mU, mU]) hl (by decide) rfl (Nat.le_of_ble_eq_true rfl) ?_
  intro x hxl C T hnm htb
  subst hxl
  have C1 := mm_OK_le (d' := d - 1 + 1) (by omega) C
  refine mm_rng (fun hr _ => ?_)
  have ap2 : -2147483648 ≤ p2 ∧ p2 < 2147483648 := mm_ok_at hr (i := 2) rfl
  have ap4 : -2147483648 ≤ p4 ∧ p4 < 2147483648 := mm_ok_at hr (i := 4) rfl
  have f0 : mm_fr [(7, 10), (7, 11)] [] h h := mm_fr_rf
  have g1 : -2147483648 ≤ h.1 7 10 ∧ h.1 7 10 ≤ 2147483647 := i0.1 7 10
  have g2 : 0 ≤ h.1 7 11 ∧ h.1 7 11 ≤ 1 := i0.1 7 11
  have g3 : 0 ≤ h.1 1 8 ∧ h.1 1 8 ≤ 399 := i0.1 1 8
  refine mm_aload_n C (mm_dec dk_X10_walk 0 rfl) rfl ?_
  refine mm_iconst C (mm_dec dk_X10_walk 1 rfl) ⟨by decide, by decide⟩ ?_
  refine mm_puti C fl_X10_41 (mm_dec dk_X10_walk 2 rfl) rfl rfl rfl (Or.inl ⟨rfl, rfl⟩) ?_
  have i1 : mm_inv (mm_pf h 7 10 (-1)) := mm_inv_pf i0 (show -2147483648 ≤ (-1) ∧ (-1) ≤ 2147483647 from ⟨by omega, by omega⟩) (by decide)
  have f1 : mm_fr [(7, 10), (7, 11)] [] h (mm_pf h 7 10 (-1)) := mm_fr_pf f0 (by decide)
  obtain ⟨h1, eh1⟩ : ∃ z, z = mm_pf h 7 10 (-1) := ⟨_, rfl⟩
  rw [← eh1] at i1 f1 ⊢
  have qh1 : h1.1 7 10 = (-1) := by rw [eh1]; exact mm_pf_same _ _ _ _
  have qh1_4 : h1.1 1 8 = h.1 1 8 := by rw [eh1]; exact mm_pf_ne _ _ (by decide)
  have qh1_5 : h1.1 7 11 = h.1 7 11 := by rw [eh1]; exact mm_pf_ne _ _ (by decide)
  have zW9 : mm_WX h1 = mm_WX h := by rw [eh1]; rfl
  have z61 : h1.2.1 61 = h.2.1 61 := by rw [eh1]; rfl
  refine mm_aload_n C (mm_dec dk_X10_walk 3 rfl) rfl ?_
  refine mm_getr (t := 1) C fl_X10_48 (mm_dec dk_X10_walk 4 rfl) rfl rfl (mm_ref i1 rfl) ?_
  refine mm_geti C fl_X10_74 (mm_dec dk_X10_walk 5 rfl) rfl rfl (Or.inl rfl) ?_
  have g6 : 0 ≤ (h1.1 1 7) ∧ (h1.1 1 7) ≤ 399 := i1.1 1 7
  refine mm_istoreL (ls2 := [mR 7, mR 62, mI p2, mR 61, mI p4, mI (h1.1 1 7), mU, mU, mU, mU, mU]) C (mm_dec dk_X10_walk 6 rfl) (by decide) rfl ?_
  refine mm_iload C (mm_dec dk_X10_walk 7 rfl) rfl ?_
  refine mm_aload_n C (mm_dec dk_X10_walk 8 rfl) rfl ?_
  refine mm_iconst C (mm_dec dk_X10_walk 9 rfl) ⟨by decide, by decide⟩ ?_
  refine mm_iload C (mm_dec dk_X10_walk 10 rfl) rfl ?_
  refine mm_cSi (rest := []) C1 es_X10_80 (mm_dec dk_X10_walk 11 rfl) (c_X10_passed_61_q x.2.1 hl (d - 1) (by omega) h1 i1 (h1.1 1 7) 0 p4 ⟨by omega, by omega⟩ ⟨by omega, by omega⟩ ⟨by omega, by omega⟩) rfl (Nat.le_of_ble_eq_true rfl) ⟨by decide, by decide⟩ rfl (fun r20 h20c hp20 => ?_) (fun _ _ q => q.elim)
  obtain ⟨b20, z20, y20_0⟩ := hp20
  rw [z20]
  refine mm_istoreL (ls2 := [mR 7, mR 62, mI p2, mR 61, mI p4, mI (h1.1 1 7), mI r20, mU, mU, mU, mU]) C (mm_dec dk_X10_walk 12 rfl) (by decide) rfl ?_
  refine mm_iconst C (mm_dec dk_X10_walk 13 rfl) ⟨by decide, by decide⟩ ?_
  refine mm_istoreL (ls2 := [mR 7, mR 62, mI p2, mR 61, mI p4, mI (h1.1 1 7), mI r20, mI 0, mU, mU, mU]) C (mm_dec dk_X10_walk 14 rfl) (by decide) rfl ?_
  refine mm_iconst C (mm_dec dk_X10_walk 15 rfl) ⟨by decide, by decide⟩ ?_
  have J31 : ∀ (n : Nat) (x31_5 : Int) (bx31_5 : 0 ≤ x31_5 ∧ x31_5 ≤ 399) (x31_6 : Int) (bx31_6 : 0 ≤ x31_6 ∧ x31_6 ≤ 12) (x31_7 : Int) (bx31_7 : -2147483648 ≤ x31_7 ∧ x31_7 ≤ 2147483647) (x31_8 : Int) (bx31_8 : 0 ≤ x31_8 ∧ x31_8 ≤ 500) (w31_0 : mm_wk (mm_bx h1) (mm_sx h1) (h1.2.1 62) (h1.1 1 7) (x31_8).toNat = (x31_5, x31_7)) (w31_1 : x31_8 ≤ p2) (w31_2 : x31_6 = mm_me (h1.2.1 61) p4 (fun i => (mm_WX h1 i).1) (x31_8).toNat), (500 - x31_8 : Int) < n → mm_W x 0 0 31 [mR 7, mR 62, mI p2, mR 61, mI p4, mI x31_5, mI x31_6, mI x31_7, mI x31_8, mU, mU] [] h1 := by
    intro n
    induction n with
    | zero =>
      intro x31_5 bx31_5 x31_6 bx31_6 x31_7 bx31_7 x31_8 bx31_8 w31_0 w31_1 w31_2 hm
      exfalso; omega
    | succ n ih31 =>
      intro x31_5 bx31_5 x31_6 bx31_6 x31_7 bx31_7 x31_8 bx31_8 w31_0 w31_1 w31_2 hm31
      refine mm_iload C (mm_dec dk_X10_walk 17 rfl) rfl ?_
      refine mm_iload_n C (mm_dec dk_X10_walk 18 rfl) rfl ?_
      refine mm_icmp_ge (tgt := 155) C (mm_dec dk_X10_walk 19 rfl) (by decide) (fun c34 => ?_) (fun c34 => ?_)
      · skip
        refine mm_aload_n C (mm_dec dk_X10_walk 76 rfl) rfl ?_
        refine mm_iload C (mm_dec dk_X10_walk 77 rfl) rfl ?_
        refine mm_iload C (mm_dec dk_X10_walk 78 rfl) rfl ?_
        have J180 : ∀ (s180_1 : Int) (bs180_1 : 0 ≤ s180_1 ∧ s180_1 ≤ 1) (w180_0 : x31_7 = mm_wr (mm_wk (mm_bx h1) (mm_sx h1) (h1.2.1 62) (h1.1 1 7) p2.toNat)) (w180_1 : ((s180_1 = 1 ∧ x31_6 = p4 ∧ x31_5 = h1.1 1 8) ∨ (s180_1 = 0 ∧ ¬ (x31_6 = p4 ∧ x31_5 = h1.1 1 8)))) (vs180_1 : (s180_1 = 0) ∨ (x31_6 = p4 ∧ x31_5 = (h1.1 1 8) ∧ s180_1 = 1)), mm_W x 0 0 180 [mU, mU, mU, mU, mU, mU, mU, mI x31_7, mU, mU, mU] [mI s180_1, mR 7] h1 := by
          intro s180_1 bs180_1 w180_0 w180_1 vs180_1
          refine mm_puti C fl_X10_44 (mm_dec dk_X10_walk 88 rfl) rfl rfl rfl (Or.inr ⟨rfl, rfl, by omega⟩) ?_
          have i2 : mm_inv (mm_pf h1 7 11 s180_1) := mm_inv_pf i1 (show 0 ≤ s180_1 ∧ s180_1 ≤ 1 from ⟨by omega, by omega⟩) (by decide)
          have f2 : mm_fr [(7, 10), (7, 11)] [] h (mm_pf h1 7 11 s180_1) := mm_fr_pf f1 (by decide)
          obtain ⟨h2, eh2⟩ : ∃ z, z = mm_pf h1 7 11 s180_1 := ⟨_, rfl⟩
          rw [← eh2] at i2 f2 ⊢
          have qh2 : h2.1 7 11 = s180_1 := by rw [eh2]; exact mm_pf_same _ _ _ _
          have qh2_8 : h2.1 1 7 = h1.1 1 7 := by rw [eh2]; exact mm_pf_ne _ _ (by decide)
          have qh2_9 : h2.1 1 8 = h1.1 1 8 := by rw [eh2]; exact mm_pf_ne _ _ (by decide)
          have qh2_10 : h2.1 7 10 = h1.1 7 10 := by rw [eh2]; exact mm_pf_ne _ _ (by decide)
          refine mm_iload C (mm_dec dk_X10_walk 89 rfl) rfl ?_
          exact mm_iret C T (mm_dec dk_X10_walk 90 rfl) (by decide : 0 ≤ 0) (by decide : 0 ≤ 0) ⟨_, rfl, ⟨⟨by omega, by omega⟩, i2, f2, by first | (refine (show _ = mm_wX h1 p2 from w180_0).trans ?_; rw [eh1]; rfl) | (refine (show _ = mm_wX h1 p2 from w116_0).trans ?_; rw [eh1]; rfl), by first | exact Or.inr ⟨by omega, by rw [← zW9]; (have e9 : mm_WX h1 p2.toNat = mm_WX h1 (x31_8 + 1).toNat := mm_wk_stay zn9 (by omega)); rw [e9]; exact zn9⟩ | (refine Or.inl ⟨by omega, ?_, ?_⟩; (rw [← zW9, show p2 = x31_8 by omega]; exact (show 0 ≤ (mm_WX h1 x31_8.toNat).1 from (congrArg Prod.fst w31_0).symm ▸ (show 0 ≤ x31_5 by omega))); (rw [← zW9, ← z61, show p2 = x31_8 by omega]; have e1 : (mm_WX h1 x31_8.toNat).1 = x31_5 := congrArg Prod.fst w31_0; have e3 : h.1 1 8 = h1.1 1 8 := (by omega); rcases w180_1 with ⟨a, b, c⟩ | ⟨a, b⟩; exact Or.inl ⟨by omega, by rw [← w31_2]; exact b, by omega⟩; exact Or.inr ⟨by omega, fun z => b ⟨by rw [w31_2]; exact z.1, by have := z.2; omega⟩⟩))⟩⟩
        have J179 : ∀ (w179_0 : x31_7 = mm_wr (mm_wk (mm_bx h1) (mm_sx h1) (h1.2.1 62) (h1.1 1 7) p2.toNat)) (w179_1 : ¬ (x31_6 = p4 ∧ x31_5 = h1.1 1 8)), mm_W x 0 0 179 [mU, mU, mU, mU, mU, mU, mU, mI x31_7, mU, mU, mU] [mR 7] h1 := by
          intro w179_0 w179_1
          refine mm_iconst C (mm_dec dk_X10_walk 87 rfl) ⟨by decide, by decide⟩ ?_
          exact J180 0 ⟨by omega, by omega⟩ (by first | exact mm_wk_end w31_0 (by omega) (by omega) | exact w179_0) (by omega) (Or.inl rfl)
        refine mm_icmp_ne (tgt := 179) C (mm_dec dk_X10_walk 79 rfl) (by decide) (fun c160 => ?_) (fun c160 => ?_)
        · skip
          refine mm_fgt 0 ?_
          refine mm_fgt 1 ?_
          refine mm_fgt 2 ?_
          refine mm_fgt 3 ?_
          refine mm_fgt 4 ?_
          refine mm_fgt 5 ?_
          refine mm_fgt 6 ?_
          refine mm_fgt 8 ?_
          exact J179 (by exact mm_wk_end w31_0 (by omega) (by omega)) (by omega)
        · skip
          refine mm_iload C (mm_dec dk_X10_walk 80 rfl) rfl ?_
          refine mm_aload_n C (mm_dec dk_X10_walk 81 rfl) rfl ?_
          refine mm_getr (t := 1) C fl_X10_48 (mm_dec dk_X10_walk 82 rfl) rfl rfl (mm_ref i1 rfl) ?_
          refine mm_geti C fl_X10_77 (mm_dec dk_X10_walk 83 rfl) rfl rfl (Or.inl rfl) ?_
          refine mm_icmp_ne (tgt := 179) C (mm_dec dk_X10_walk 84 rfl) (by decide) (fun c172 => ?_) (fun c172 => ?_)
          · skip
            refine mm_fgt 0 ?_
            refine mm_fgt 1 ?_
            refine mm_fgt 2 ?_
            refine mm_fgt 3 ?_
            refine mm_fgt 4 ?_
            refine mm_fgt 5 ?_
            refine mm_fgt 6 ?_
            refine mm_fgt 8 ?_
            exact J179 (by exact mm_wk_end w31_0 (by omega) (by omega)) (by omega)
          · skip
            refine mm_iconst C (mm_dec dk_X10_walk 85 rfl) ⟨by decide, by decide⟩ ?_
            refine mm_goto (tgt := 180) C (mm_dec dk_X10_walk 86 rfl) (by decide) ?_
            refine mm_fgt 0 ?_
            refine mm_fgt 1 ?_
            refine mm_fgt 2 ?_
            refine mm_fgt 3 ?_
            refine mm_fgt 4 ?_
            refine mm_fgt 5 ?_
            refine mm_fgt 6 ?_
            refine mm_fgt 8 ?_
            exact J180 1 ⟨by omega, by omega⟩ (by first | exact mm_wk_end w31_0 (by omega) (by omega) | exact w179_0) (by omega) (Or.inr (⟨by omega, by omega, rfl⟩))
      · skip
        refine mm_aload_n C (mm_dec dk_X10_walk 20 rfl) rfl ?_
        refine mm_iload C (mm_dec dk_X10_walk 21 rfl) rfl ?_
        refine mm_iald C (mm_dec dk_X10_walk 22 rfl) rfl (by omega) (by omega) ?_
        have g11 : -2147483648 ≤ (h1.2.1 62 x31_8) ∧ (h1.2.1 62 x31_8) ≤ 2147483647 := i1.2.1 62 x31_8
        refine mm_cSi (rest := []) C1 es_X10_84 (mm_dec dk_X10_walk 23 rfl) (c_X10_moveOf x.2.1 hl (d - 1) (by omega) h1 i1 (h1.2.1 62 x31_8)) rfl (Nat.le_of_ble_eq_true rfl) ⟨by decide, by decide⟩ rfl (fun r41 h41c hp41 => ?_) (fun _ _ q => q.elim)
        obtain ⟨z41, y41⟩ := hp41
        rw [z41]
        have zm : mm_mv (h1.2.1 62 x31_8) = r41 := mm_mv_x (by omega)
        refine mm_istoreL (ls2 := [mR 7, mR 62, mI p2, mR 61, mI p4, mI x31_5, mI x31_6, mI x31_7, mI x31_8, mI r41, mU]) C (mm_dec dk_X10_walk 24 rfl) (by decide) rfl ?_
        refine mm_iload C (mm_dec dk_X10_walk 25 rfl) rfl ?_
        refine mm_bipush C (mm_dec dk_X10_walk 26 rfl) ⟨by decide, by decide⟩ ?_
        have J149 : ∀ (x149_5 : Int) (bx149_5 : 0 ≤ x149_5 ∧ x149_5 ≤ 399) (x149_6 : Int) (bx149_6 : 0 ≤ x149_6 ∧ x149_6 ≤ 12) (x149_7 : Int) (bx149_7 : -2147483648 ≤ x149_7 ∧ x149_7 ≤ 2147483647) (w149_0 : mm_wk (mm_bx h1) (mm_sx h1) (h1.2.1 62) (h1.1 1 7) (x31_8 + 1).toNat = (x149_5, x149_7)) (w149_1 : x149_6 = mm_me (h1.2.1 61) p4 (fun i => (mm_WX h1 i).1) (x31_8 + 1).toNat), mm_W x 0 0 149 [mR 7, mR 62, mI p2, mR 61, mI p4, mI x149_5, mI x149_6, mI x149_7, mI x31_8, mU, mU] [] h1 := by
          intro x149_5 bx149_5 x149_6 bx149_6 x149_7 bx149_7 w149_0 w149_1
          have z149 : (mm_WX h1 (x31_8 + 1).toNat).1 = x149_5 := congrArg Prod.fst w149_0
          refine mm_iincL (ls2 := [mR 7, mR 62, mI p2, mR 61, mI p4, mI x149_5, mI x149_6, mI x149_7, mI (x31_8 + 1), mU, mU]) C (mm_dec dk_X10_walk 74 rfl) rfl (by decide) ⟨by omega, by omega⟩ rfl ?_
          refine mm_goto (tgt := 31) C (mm_dec dk_X10_walk 75 rfl) (by decide) ?_
          exact ih31 x149_5 ⟨by omega, by omega⟩ x149_6 ⟨by omega, by omega⟩ x149_7 ⟨by omega, by omega⟩ (x31_8 + 1) ⟨by omega, by omega⟩ (by first | rfl | exact w149_0) (by omega) (by first | exact w149_1 | (rw [y20_0]; rfl)) (by omega)
        refine mm_icmp_ne (tgt := 56) C (mm_dec dk_X10_walk 27 rfl) (by decide) (fun c50 => ?_) (fun c50 => ?_)
        · skip
          refine mm_iload C (mm_dec dk_X10_walk 29 rfl) rfl ?_
          refine mm_iconst C (mm_dec dk_X10_walk 30 rfl) ⟨by decide, by decide⟩ ?_
          have J77 : ∀ (s77_0 : Int) (bs77_0 : -1 ≤ s77_0 ∧ s77_0 ≤ 399) (w77_0 : ((r41 = -1 ∧ s77_0 = -1) ∨ (r41 ≠ -1 ∧ s77_0 = mm_bes h1 x31_5 r41))), mm_W x 0 0 77 [mR 7, mR 62, mI p2, mR 61, mI p4, mI x31_5, mI x31_6, mI x31_7, mI x31_8, mI r41, mU] [mI s77_0] h1 := by
            intro s77_0 bs77_0 w77_0
            refine mm_istoreL (ls2 := [mR 7, mR 62, mI p2, mR 61, mI p4, mI x31_5, mI x31_6, mI x31_7, mI x31_8, mI r41, mI s77_0]) C (mm_dec dk_X10_walk 39 rfl) (by decide) rfl ?_
            refine mm_iload C (mm_dec dk_X10_walk 40 rfl) rfl ?_
            refine mm_iconst C (mm_dec dk_X10_walk 41 rfl) ⟨by decide, by decide⟩ ?_
            have J97 : ∀ (w97_0 : (r41 = -1 ∨ (r41 ≠ -1 ∧ mm_bx h1 x31_5 r41 = -1))), mm_W x 0 0 97 [mR 7, mU, mU, mU, mU, mU, mU, mU, mI x31_8, mI r41, mU] [] h1 := by
              intro w97_0
              have zn9 : (mm_WX h1 (x31_8 + 1).toNat).1 < 0 := mm_wk_fn w31_0 (by omega) (by omega) zm (by omega) w97_0
              refine mm_aload_n C (mm_dec dk_X10_walk 48 rfl) rfl ?_
              refine mm_iload C (mm_dec dk_X10_walk 49 rfl) rfl ?_
              refine mm_puti C fl_X10_41 (mm_dec dk_X10_walk 50 rfl) rfl rfl rfl (Or.inl ⟨rfl, rfl⟩) ?_
              have i3 : mm_inv (mm_pf h1 7 10 x31_8) := mm_inv_pf i1 (show -2147483648 ≤ x31_8 ∧ x31_8 ≤ 2147483647 from ⟨by omega, by omega⟩) (by decide)
              have f3 : mm_fr [(7, 10), (7, 11)] [] h (mm_pf h1 7 10 x31_8) := mm_fr_pf f1 (by decide)
              obtain ⟨h3, eh3⟩ : ∃ z, z = mm_pf h1 7 10 x31_8 := ⟨_, rfl⟩
              rw [← eh3] at i3 f3 ⊢
              have qh3 : h3.1 7 10 = x31_8 := by rw [eh3]; exact mm_pf_same _ _ _ _
              have qh3_13 : h3.1 1 7 = h1.1 1 7 := by rw [eh3]; exact mm_pf_ne _ _ (by decide)
              have qh3_14 : h3.1 1 8 = h1.1 1 8 := by rw [eh3]; exact mm_pf_ne _ _ (by decide)
              have qh3_15 : h3.1 7 11 = h1.1 7 11 := by rw [eh3]; exact mm_pf_ne _ _ (by decide)
              refine mm_iload C (mm_dec dk_X10_walk 51 rfl) rfl ?_
              refine mm_iconst C (mm_dec dk_X10_walk 52 rfl) ⟨by decide, by decide⟩ ?_
              have J116 : ∀ (s116_0 : Int) (bs116_0 : -3 ≤ s116_0 ∧ s116_0 ≤ -2) (w116_0 : s116_0 = mm_wr (mm_wk (mm_bx h1) (mm_sx h1) (h1.2.1 62) (h1.1 1 7) p2.toNat)) (vs116_0 : (r41 ≠ (-1) ∧ s116_0 = -3) ∨ (r41 = (-1) ∧ s116_0 = -2)), mm_W x 0 0 116 [mU, mU, mU, mU, mU, mU, mU, mU, mU, mU, mU] [mI s116_0] h3 := by
                intro s116_0 bs116_0 w116_0 vs116_0
                exact mm_iret C T (mm_dec dk_X10_walk 57 rfl) (by decide : 0 ≤ 0) (by decide : 0 ≤ 0) ⟨_, rfl, ⟨⟨by omega, by omega⟩, i3, f3, by first | (refine (show _ = mm_wX h1 p2 from w180_0).trans ?_; rw [eh1]; rfl) | (refine (show _ = mm_wX h1 p2 from w116_0).trans ?_; rw [eh1]; rfl), by first | exact Or.inr ⟨by omega, by rw [← zW9]; (have e9 : mm_WX h1 p2.toNat = mm_WX h1 (x31_8 + 1).toNat := mm_wk_stay zn9 (by omega)); rw [e9]; exact zn9⟩ | (refine Or.inl ⟨by omega, ?_, ?_⟩; (rw [← zW9, show p2 = x31_8 by omega]; exact (show 0 ≤ (mm_WX h1 x31_8.toNat).1 from (congrArg Prod.fst w31_0).symm ▸ (show 0 ≤ x31_5 by omega))); (rw [← zW9, ← z61, show p2 = x31_8 by omega]; have e1 : (mm_WX h1 x31_8.toNat).1 = x31_5 := congrArg Prod.fst w31_0; have e3 : h.1 1 8 = h1.1 1 8 := (by omega); rcases w180_1 with ⟨a, b, c⟩ | ⟨a, b⟩; exact Or.inl ⟨by omega, by rw [← w31_2]; exact b, by omega⟩; exact Or.inr ⟨by omega, fun z => b ⟨by rw [w31_2]; exact z.1, by have := z.2; omega⟩⟩))⟩⟩
              refine mm_icmp_ne (tgt := 114) C (mm_dec dk_X10_walk 53 rfl) (by decide) (fun c106 => ?_) (fun c106 => ?_)
              · skip
                refine mm_bipush C (mm_dec dk_X10_walk 56 rfl) ⟨by decide, by decide⟩ ?_
                refine mm_fgt 0 ?_
                refine mm_fgt 8 ?_
                refine mm_fgt 9 ?_
                exact J116 (-3) ⟨by omega, by omega⟩ (by first | exact mm_wk_f2 w31_0 (by omega) (by omega) (by omega) (by omega) | exact mm_wk_f3 w31_0 (by omega) (by omega) zm (by omega) (by omega) (by omega) (by omega)) (Or.inl ⟨by omega, rfl⟩)
              · skip
                refine mm_bipush C (mm_dec dk_X10_walk 54 rfl) ⟨by decide, by decide⟩ ?_
                refine mm_goto (tgt := 116) C (mm_dec dk_X10_walk 55 rfl) (by decide) ?_
                refine mm_fgt 0 ?_
                refine mm_fgt 8 ?_
                refine mm_fgt 9 ?_
                exact J116 (-2) ⟨by omega, by omega⟩ (by first | exact mm_wk_f2 w31_0 (by omega) (by omega) (by omega) (by omega) | exact mm_wk_f3 w31_0 (by omega) (by omega) zm (by omega) (by omega) (by omega) (by omega)) (Or.inr (⟨by omega, rfl⟩))
            refine mm_icmp_eq (tgt := 97) C (mm_dec dk_X10_walk 42 rfl) (by decide) (fun c82 => ?_) (fun c82 => ?_)
            · skip
              refine mm_fgt 1 ?_
              refine mm_fgt 2 ?_
              refine mm_fgt 3 ?_
              refine mm_fgt 4 ?_
              refine mm_fgt 5 ?_
              refine mm_fgt 6 ?_
              refine mm_fgt 7 ?_
              refine mm_fgt 10 ?_
              exact J97 (by first | exact Or.inl (by omega) | exact Or.inr ⟨by omega, mm_bx_1 (v := s77_0) (by omega) (by omega)⟩ | (rcases w77_0 with ⟨q1, q2⟩ | ⟨q1, q2⟩; exact Or.inl q1; exact Or.inr ⟨q1, mm_bx_1 q2 (by omega)⟩))
            · skip
              refine mm_aload_n C (mm_dec dk_X10_walk 43 rfl) rfl ?_
              refine mm_getr (t := 1) C fl_X10_48 (mm_dec dk_X10_walk 44 rfl) rfl rfl (mm_ref i1 rfl) ?_
              refine mm_iload C (mm_dec dk_X10_walk 45 rfl) rfl ?_
              refine mm_cVi (rest := []) C1 ev_X10_87 (mm_dec dk_X10_walk 46 rfl) (c_X5_canEnter x.2.1 hl (d - 1) (by omega) h1 i1 s77_0 ⟨by omega, by omega⟩) rfl rfl (Nat.le_of_ble_eq_true rfl) ⟨by decide, by decide⟩ rfl (fun r91 h91c hp91 => ?_) (fun _ _ q => q.elim)
              obtain ⟨z91, y91⟩ := hp91
              rw [z91]
              have g17 : 0 ≤ (h1.2.1 6 (h1.2.1 2 s77_0)) ∧ (h1.2.1 6 (h1.2.1 2 s77_0)) ≤ 99 := i1.2.1 6 (h1.2.1 2 s77_0)
              have g18 : 0 ≤ (h1.2.1 2 s77_0) ∧ (h1.2.1 2 s77_0) ≤ 7 := i1.2.1 2 s77_0
              refine mm_if_ne (tgt := 117) C (mm_dec dk_X10_walk 47 rfl) (by decide) (fun c94 => ?_) (fun c94 => ?_)
              · skip
                have zb : mm_bx h1 x31_5 r41 = s77_0 := mm_bx_2 (by omega) (by omega) (by omega)
                refine mm_iload C (mm_dec dk_X10_walk 58 rfl) rfl ?_
                refine mm_aload_n C (mm_dec dk_X10_walk 59 rfl) rfl ?_
                refine mm_getr (t := 1) C fl_X10_48 (mm_dec dk_X10_walk 60 rfl) rfl rfl (mm_ref i1 rfl) ?_
                refine mm_iload C (mm_dec dk_X10_walk 61 rfl) rfl ?_
                refine mm_iload C (mm_dec dk_X10_walk 62 rfl) rfl ?_
                refine mm_cVi (rest := [mI x31_7]) C1 ev_X10_91 (mm_dec dk_X10_walk 63 rfl) (c_X5_secondsOf_q x.2.1 hl (d - 1) (by omega) h1 i1 x31_5 s77_0 ⟨by omega, by omega⟩ ⟨by omega, by omega⟩) rfl rfl (Nat.le_of_ble_eq_true rfl) ⟨by decide, by decide⟩ rfl (fun r127 h127c hp127 => ?_) (fun _ _ q => q.elim)
                obtain ⟨b127, z127, y127_0⟩ := hp127
                rw [z127]
                refine mm_iaddw C (mm_dec dk_X10_walk 64 rfl) ?_
                have g20 : -2147483648 ≤ (mm_w (x31_7 + r127)) ∧ (mm_w (x31_7 + r127)) < 2147483648 := mm_w_rg _
                refine mm_istoreL (ls2 := [mR 7, mR 62, mI p2, mR 61, mI p4, mI x31_5, mI x31_6, mI (mm_w (x31_7 + r127)), mI x31_8, mI r41, mI s77_0]) C (mm_dec dk_X10_walk 65 rfl) (by decide) rfl ?_
                refine mm_iload C (mm_dec dk_X10_walk 66 rfl) rfl ?_
                refine mm_istoreL (ls2 := [mR 7, mR 62, mI p2, mR 61, mI p4, mI s77_0, mI x31_6, mI (mm_w (x31_7 + r127)), mI x31_8, mI r41, mI s77_0]) C (mm_dec dk_X10_walk 67 rfl) (by decide) rfl ?_
                refine mm_iload C (mm_dec dk_X10_walk 68 rfl) rfl ?_
                refine mm_aload_n C (mm_dec dk_X10_walk 69 rfl) rfl ?_
                refine mm_iload C (mm_dec dk_X10_walk 70 rfl) rfl ?_
                refine mm_iload C (mm_dec dk_X10_walk 71 rfl) rfl ?_
                refine mm_cSi (rest := []) C1 es_X10_80 (mm_dec dk_X10_walk 72 rfl) (c_X10_passed_61_q x.2.1 hl (d - 1) (by omega) h1 i1 s77_0 x31_6 p4 ⟨by omega, by omega⟩ ⟨by omega, by omega⟩ ⟨by omega, by omega⟩) rfl (Nat.le_of_ble_eq_true rfl) ⟨by decide, by decide⟩ rfl (fun r144 h144c hp144 => ?_) (fun _ _ q => q.elim)
                obtain ⟨b144, z144, y144_0⟩ := hp144
                rw [z144]
                refine mm_istoreL (ls2 := [mR 7, mR 62, mI p2, mR 61, mI p4, mI s77_0, mI r144, mI (mm_w (x31_7 + r127)), mI x31_8, mI r41, mI s77_0]) C (mm_dec dk_X10_walk 73 rfl) (by decide) rfl ?_
                refine mm_fgt 9 ?_
                refine mm_fgt 10 ?_
                exact J149 s77_0 ⟨by omega, by omega⟩ r144 ⟨by omega, by omega⟩ (mm_w (x31_7 + r127)) ⟨by omega, by omega⟩ (by first | exact mm_wk_skip w31_0 (by omega) (by omega) (by omega) | exact mm_wk_go w31_0 (by omega) (by omega) zm (by omega) (by omega) zb (by omega) (by rw [y127_0])) (by first | (rw [mm_me_skip (by omega) (show (mm_WX h1 (x31_8 + 1).toNat).1 = (mm_WX h1 x31_8.toNat).1 from by (have e1 : (mm_WX h1 x31_8.toNat).1 = x31_5 := congrArg Prod.fst w31_0; have e2 : (mm_WX h1 (x31_8 + 1).toNat).1 = x31_5 := congrArg Prod.fst (mm_wk_skip w31_0 (by omega) (by omega) (by omega)); omega))]; exact w31_2) | (rw [y144_0, w31_2]; exact mm_me_go (by omega) (congrArg Prod.fst (mm_wk_go w31_0 (by omega) (by omega) zm (by omega) (by omega) zb (by omega) rfl))))
              · skip
                refine mm_fgt 1 ?_
                refine mm_fgt 2 ?_
                refine mm_fgt 3 ?_
                refine mm_fgt 4 ?_
                refine mm_fgt 5 ?_
                refine mm_fgt 6 ?_
                refine mm_fgt 7 ?_
                refine mm_fgt 10 ?_
                exact J97 (by first | exact Or.inl (by omega) | exact Or.inr ⟨by omega, mm_bx_1 (v := s77_0) (by omega) (by omega)⟩ | (rcases w77_0 with ⟨q1, q2⟩ | ⟨q1, q2⟩; exact Or.inl q1; exact Or.inr ⟨q1, mm_bx_1 q2 (by omega)⟩))
          refine mm_icmp_ne (tgt := 66) C (mm_dec dk_X10_walk 31 rfl) (by decide) (fun c59 => ?_) (fun c59 => ?_)
          · skip
            refine mm_aload_n C (mm_dec dk_X10_walk 34 rfl) rfl ?_
            refine mm_getr (t := 1) C fl_X10_48 (mm_dec dk_X10_walk 35 rfl) rfl rfl (mm_ref i1 rfl) ?_
            refine mm_iload C (mm_dec dk_X10_walk 36 rfl) rfl ?_
            refine mm_iload C (mm_dec dk_X10_walk 37 rfl) rfl ?_
            refine mm_cVi (rest := []) C1 ev_X10_61 (mm_dec dk_X10_walk 38 rfl) (c_X5_beside x.2.1 hl (d - 1) (by omega) h1 i1 x31_5 r41 ⟨by omega, by omega⟩) rfl rfl (Nat.le_of_ble_eq_true rfl) ⟨by decide, by decide⟩ rfl (fun r74 h74c hp74 => ?_) (fun _ _ q => q.elim)
            obtain ⟨b74, z74, y74_0⟩ := hp74
            rw [z74]
            exact J77 r74 ⟨by omega, by omega⟩ (by omega)
          · skip
            refine mm_iconst C (mm_dec dk_X10_walk 32 rfl) ⟨by decide, by decide⟩ ?_
            refine mm_goto (tgt := 77) C (mm_dec dk_X10_walk 33 rfl) (by decide) ?_
            exact J77 (-1) ⟨by omega, by omega⟩ (by omega)
        · skip
          refine mm_goto (tgt := 149) C (mm_dec dk_X10_walk 28 rfl) (by decide) ?_
          refine mm_fgt 9 ?_
          exact J149 x31_5 ⟨by omega, by omega⟩ x31_6 ⟨by omega, by omega⟩ x31_7 ⟨by omega, by omega⟩ (by first | exact mm_wk_skip w31_0 (by omega) (by omega) (by omega) | exact mm_wk_go w31_0 (by omega) (by omega) zm (by omega) (by omega) zb (by omega) (by rw [y127_0])) (by first | (rw [mm_me_skip (by omega) (show (mm_WX h1 (x31_8 + 1).toNat).1 = (mm_WX h1 x31_8.toNat).1 from by (have e1 : (mm_WX h1 x31_8.toNat).1 = x31_5 := congrArg Prod.fst w31_0; have e2 : (mm_WX h1 (x31_8 + 1).toNat).1 = x31_5 := congrArg Prod.fst (mm_wk_skip w31_0 (by omega) (by omega) (by omega)); omega))]; exact w31_2) | (rw [y144_0, w31_2]; exact mm_me_go (by omega) (congrArg Prod.fst (mm_wk_go w31_0 (by omega) (by omega) zm (by omega) (by omega) zb (by omega) rfl))))
  refine mm_istoreL (ls2 := [mR 7, mR 62, mI p2, mR 61, mI p4, mI (h1.1 1 7), mI r20, mI 0, mI 0, mU, mU]) C (mm_dec dk_X10_walk 16 rfl) (by decide) rfl ?_
  exact J31 (((500 - 0) : Int) + 1).toNat (h1.1 1 7) ⟨by omega, by omega⟩ r20 ⟨by omega, by omega⟩ 0 ⟨by omega, by omega⟩ 0 ⟨by omega, by omega⟩ (by first | rfl | exact w149_0) (by omega) (by first | exact w149_1 | (rw [y20_0]; rfl)) (by omega)
set_option maxRecDepth 100000 in
set_option maxHeartbeats 4000000 in
theorem c_X9_keepTrack_q (l : Launch) (hl : l.stackTraces = false) (d : Nat) (hd : 0 ≤ d) (h : mH) (i0 : mm_inv h) (p1 : Int) (p2 : Int) (bp1 : 0 ≤ p1 ∧ p1 ≤ 39) : mm_Met l d yX9_keepTrack cX9_keepTrack 3 none [mR 22, mI p1, mI p2] h (mm_pv fun h2 => mm_inv h2 ∧ mm_fr [] [26] h h2 ∧ mm_up h h2 26 p1 p2 1) mm_nx 0 0 := by
  refine mm_ofW (ls := [mR 22, mI p1, mI p2]) hl (by decide) rfl (Nat.le_of_ble_eq_true rfl) ?_
  intro x hxl C T hnm htb
  subst hxl
  refine mm_rng (fun hr _ => ?_)
  have ap1 : -2147483648 ≤ p1 ∧ p1 < 2147483648 := mm_ok_at hr (i := 1) rfl
  have ap2 : -2147483648 ≤ p2 ∧ p2 < 2147483648 := mm_ok_at hr (i := 2) rfl
  have f0 : mm_fr [] [26] h h := mm_fr_rf
  refine mm_aload_n C (mm_dec dk_X9_keepTrack 0 rfl) rfl ?_
  refine mm_getr (t := 26) C fl_X9_21 (mm_dec dk_X9_keepTrack 1 rfl) rfl rfl (mm_ref i0 rfl) ?_
  refine mm_iload_n C (mm_dec dk_X9_keepTrack 2 rfl) rfl ?_
  refine mm_iload_n C (mm_dec dk_X9_keepTrack 3 rfl) rfl ?_
  refine mm_iast C (mm_dec dk_X9_keepTrack 4 rfl) rfl (by omega) (by omega) ?_
  have i1 : mm_inv (mm_pa h 26 p1 p2) := mm_inv_pa i0 (show -2147483648 ≤ p2 ∧ p2 ≤ 2147483647 from ⟨by omega, by omega⟩)
  have f1 : mm_fr [] [26] h (mm_pa h 26 p1 p2) := mm_fr_pa f0 (by decide)
  obtain ⟨h1, eh1⟩ : ∃ z, z = mm_pa h 26 p1 p2 := ⟨_, rfl⟩
  rw [← eh1] at i1 f1 ⊢
  exact mm_vret C T (mm_dec dk_X9_keepTrack 5 rfl) (by decide : 0 ≤ 0) (by decide : 0 ≤ 0) ⟨rfl, ⟨i1, f1, by exact mm_up_pa (fun _ => rfl) eh1 (fun _ => rfl) rfl rfl⟩⟩
set_option maxRecDepth 100000 in
set_option maxHeartbeats 4000000 in
theorem c_X11_track_q (l : Launch) (hl : l.stackTraces = false) (d : Nat) (hd : 9 ≤ d) (h : mH) (i0 : mm_inv h) (p1 : Int) (p2 : Int) : mm_Met l d yX11_track cX11_track 5 (some .int) [mR 0, mI p1, mI p2] h (mm_pi fun r h2 => (-2147483648 ≤ r ∧ r ≤ 2147483647) ∧ mm_inv h2 ∧ mm_fr [(0, 12), (0, 14), (7, 10), (7, 11)] [26, 61] h h2 ∧ (0 ≤ p1 ∧ p1 < h.1 22 8 ∧ 0 ≤ p2 ∧ p2 ≤ h.1 0 12 ∧ h2.1 0 12 = 0) ∧ r = mm_wX h p2 ∧ mm_tk9 h h2 p1 p2 r) (fun E h' => (mm_xn h E h' ∧ (p1 < 0 ∨ h.1 22 8 ≤ p1)) ∨ (mm_xi h E h' ∧ (0 ≤ p1 ∧ p1 < h.1 22 8 ∧ (p2 < 0 ∨ h.1 0 12 < p2)))) 2 12 := by
  refine mm_ofW (ls := [mR 0, mI p1, mI p2, mU, mU]) hl (by decide) rfl (Nat.le_of_ble_eq_true rfl) ?_
  intro x hxl C T hnm htb
  subst hxl
  have C1 := mm_OK_le (d' := d - 1 + 1) (by omega) C
  have C8 := mm_OK_le (d' := d - 8 + 8) (by omega) C
  refine mm_rng (fun hr _ => ?_)
  have ap1 : -2147483648 ≤ p1 ∧ p1 < 2147483648 := mm_ok_at hr (i := 1) rfl
  have ap2 : -2147483648 ≤ p2 ∧ p2 < 2147483648 := mm_ok_at hr (i := 2) rfl
  have f0 : mm_fr [(0, 12), (0, 14), (7, 10), (7, 11)] [26, 61] h h := mm_fr_rf
  have g1 : 0 ≤ h.1 0 12 ∧ h.1 0 12 ≤ 500 := i0.1 0 12
  have g2 : 0 ≤ h.1 22 8 ∧ h.1 22 8 ≤ 40 := i0.1 22 8
  have g3 : -2147483648 ≤ h.1 0 14 ∧ h.1 0 14 ≤ 2147483647 := i0.1 0 14
  have g4 : -2147483648 ≤ h.1 7 10 ∧ h.1 7 10 ≤ 2147483647 := i0.1 7 10
  have g5 : 0 ≤ h.1 7 11 ∧ h.1 7 11 ≤ 1 := i0.1 7 11
  refine mm_aload_n C (mm_dec dk_X11_track 0 rfl) rfl ?_
  refine mm_iload_n C (mm_dec dk_X11_track 1 rfl) rfl ?_
  refine mm_cVv (rest := []) C1 ev_X11_235 (mm_dec dk_X11_track 2 rfl) (c_X11_needRunner_q x.2.1 hl (d - 1) (by omega) h i0 p1) rfl rfl (Nat.le_of_ble_eq_true rfl) ⟨by decide, by decide⟩ rfl (fun h2c hp2 => ?_) (fun E hx q => mm_out C T htb (by decide) (by decide) (by obtain ⟨q1, q2⟩ := q; exact Or.inl ⟨q1, by omega⟩))
  obtain ⟨z2, k2_0, k2_1⟩ := hp2
  rw [z2]
  refine mm_aload_n C (mm_dec dk_X11_track 3 rfl) rfl ?_
  refine mm_iload_n C (mm_dec dk_X11_track 4 rfl) rfl ?_
  refine mm_cVv (rest := []) C1 ev_X11_312 (mm_dec dk_X11_track 5 rfl) (c_X11_needBytes_q x.2.1 hl (d - 1) (by omega) h i0 p2) rfl rfl (Nat.le_of_ble_eq_true rfl) ⟨by decide, by decide⟩ rfl (fun h7c hp7 => ?_) (fun E hx q => mm_out C T htb (by decide) (by decide) (by obtain ⟨q1, q2⟩ := q; exact Or.inr ⟨q1, by omega⟩))
  obtain ⟨z7, k7_0, k7_1⟩ := hp7
  rw [z7]
  refine mm_aload_n C (mm_dec dk_X11_track 6 rfl) rfl ?_
  refine mm_iload_n C (mm_dec dk_X11_track 7 rfl) rfl ?_
  refine mm_cVi (rest := []) C1 ev_X11_371 (mm_dec dk_X11_track 8 rfl) (c_X11_fillStops_q x.2.1 hl (d - 1) (by omega) h i0 p1 ⟨by omega, by omega⟩) rfl rfl (Nat.le_of_ble_eq_true rfl) ⟨by decide, by decide⟩ rfl (fun r12 h12c hp12 => ?_) (fun _ _ q => q.elim)
  obtain ⟨b12, i12c, g12c, y12_0, y12_1⟩ := hp12
  have f12c : mm_fr [(0, 12), (0, 14), (7, 10), (7, 11)] [26, 61] h h12c := mm_fr_tr f0 g12c (by decide +kernel)
  have q12c_9 : h12c.1 0 12 = h.1 0 12 := g12c.1 0 12 (by decide)
  have q12c_10 : h12c.1 0 14 = h.1 0 14 := g12c.1 0 14 (by decide)
  have q12c_11 : h12c.1 7 10 = h.1 7 10 := g12c.1 7 10 (by decide)
  have q12c_12 : h12c.1 7 11 = h.1 7 11 := g12c.1 7 11 (by decide)
  have q12c_13 : h12c.1 22 8 = h.1 22 8 := g12c.1 22 8 (by decide)
  refine mm_istore_nL (ls2 := [mR 0, mI p1, mI p2, mI r12, mU]) C (mm_dec dk_X11_track 9 rfl) (by decide) rfl ?_
  refine mm_aload_n C (mm_dec dk_X11_track 10 rfl) rfl ?_
  refine mm_getr (t := 7) C fl_X11_21 (mm_dec dk_X11_track 11 rfl) rfl rfl (mm_ref i12c rfl) ?_
  refine mm_aload_n C (mm_dec dk_X11_track 12 rfl) rfl ?_
  refine mm_getr (t := 62) C fl_X11_86 (mm_dec dk_X11_track 13 rfl) rfl rfl (mm_ref i12c rfl) ?_
  refine mm_iload_n C (mm_dec dk_X11_track 14 rfl) rfl ?_
  refine mm_aload_n C (mm_dec dk_X11_track 15 rfl) rfl ?_
  refine mm_getr (t := 61) C fl_X11_82 (mm_dec dk_X11_track 16 rfl) rfl rfl (mm_ref i12c rfl) ?_
  refine mm_iload_n C (mm_dec dk_X11_track 17 rfl) rfl ?_
  refine mm_cVi (rest := []) C1 ev_X11_374 (mm_dec dk_X11_track 18 rfl) (c_X10_walk_62_61_q x.2.1 hl (d - 1) (by omega) h12c i12c p2 r12 ⟨by omega, by omega⟩ ⟨by omega, by omega⟩) rfl rfl (Nat.le_of_ble_eq_true rfl) ⟨by decide, by decide⟩ rfl (fun r30 h30c hp30 => ?_) (fun _ _ q => q.elim)
  obtain ⟨b30, i30c, g30c, y30_0, y30_1⟩ := hp30
  have f30c : mm_fr [(0, 12), (0, 14), (7, 10), (7, 11)] [26, 61] h h30c := mm_fr_tr f12c g30c (by decide +kernel)
  have q30c_15 : h30c.1 0 12 = h12c.1 0 12 := g30c.1 0 12 (by decide)
  have q30c_16 : h30c.1 0 14 = h12c.1 0 14 := g30c.1 0 14 (by decide)
  have q30c_17 : h30c.1 22 8 = h12c.1 22 8 := g30c.1 22 8 (by decide)
  have g18 : -2147483648 ≤ (h30c.1 7 10) ∧ (h30c.1 7 10) ≤ 2147483647 := i30c.1 7 10
  have g19 : 0 ≤ (h30c.1 7 11) ∧ (h30c.1 7 11) ≤ 1 := i30c.1 7 11
  have zW8 : mm_WX h12c = mm_WX h := (mm_WX_fr (g12c.1 1 5 (by decide)) (g12c.1 1 6 (by decide)) (g12c.1 1 7 (by decide)) (g12c.2 2 (by decide)) (g12c.2 3 (by decide)) (g12c.2 4 (by decide)) (g12c.2 5 (by decide)) (g12c.2 6 (by decide)) (g12c.2 62 (by decide)))
  have zcb : 0 ≤ (mm_WX h p2.toNat).1 → mm_cb9 (h30c.1 7 11) (h12c.2.1 61) r12 (mm_WX h) p2.toNat (h12c.1 1 8) ∧ h30c.1 7 10 = -1 := fun q => (by rw [← zW8] at q ⊢; rcases y30_1 with z | z; exact ⟨z.2.2, z.1⟩; exact absurd z.2 (by omega))
  have zcf : h30c.1 7 10 ≠ -1 → (mm_WX h p2.toNat).1 < 0 := fun q => (by rw [← zW8]; exact (y30_1.resolve_left (fun z => q z.1)).2)
  have zc0 : h30c.1 7 10 = -1 → 0 ≤ (mm_WX h p2.toNat).1 := fun q => (by rw [← zW8]; exact (y30_1.resolve_right (fun z => z.1 q)).2.1)
  refine mm_istoreL (ls2 := [mR 0, mI p1, mI p2, mI r12, mI r30]) C (mm_dec dk_X11_track 19 rfl) (by decide) rfl ?_
  refine mm_aload_n C (mm_dec dk_X11_track 20 rfl) rfl ?_
  refine mm_iconst C (mm_dec dk_X11_track 21 rfl) ⟨by decide, by decide⟩ ?_
  refine mm_puti C fl_X11_98 (mm_dec dk_X11_track 22 rfl) rfl rfl rfl (Or.inl ⟨rfl, rfl⟩) ?_
  have i3 : mm_inv (mm_pf h30c 0 12 0) := mm_inv_pf i30c (show 0 ≤ 0 ∧ 0 ≤ 500 from ⟨by omega, by omega⟩) (by decide)
  have f3 : mm_fr [(0, 12), (0, 14), (7, 10), (7, 11)] [26, 61] h (mm_pf h30c 0 12 0) := mm_fr_pf f30c (by decide)
  obtain ⟨h3, eh3⟩ : ∃ z, z = mm_pf h30c 0 12 0 := ⟨_, rfl⟩
  rw [← eh3] at i3 f3 ⊢
  have qh3 : h3.1 0 12 = 0 := by rw [eh3]; exact mm_pf_same _ _ _ _
  have qh3_20 : h3.1 0 14 = h30c.1 0 14 := by rw [eh3]; exact mm_pf_ne _ _ (by decide)
  have qh3_21 : h3.1 7 10 = h30c.1 7 10 := by rw [eh3]; exact mm_pf_ne _ _ (by decide)
  have qh3_22 : h3.1 7 11 = h30c.1 7 11 := by rw [eh3]; exact mm_pf_ne _ _ (by decide)
  have qh3_23 : h3.1 22 8 = h30c.1 22 8 := by rw [eh3]; exact mm_pf_ne _ _ (by decide)
  refine mm_aload_n C (mm_dec dk_X11_track 23 rfl) rfl ?_
  refine mm_aload_n C (mm_dec dk_X11_track 24 rfl) rfl ?_
  refine mm_getr (t := 7) C fl_X11_21 (mm_dec dk_X11_track 25 rfl) rfl rfl (mm_ref i3 rfl) ?_
  refine mm_cVi (rest := [mR 0]) C1 ev_X11_378 (mm_dec dk_X11_track 26 rfl) (c_X10_walkFaultAt x.2.1 hl (d - 1) (by omega) h3 i3 ) rfl rfl (Nat.le_of_ble_eq_true rfl) ⟨by decide, by decide⟩ rfl (fun r45 h45c hp45 => ?_) (fun _ _ q => q.elim)
  obtain ⟨z45, y45⟩ := hp45
  rw [z45, y45]
  refine mm_puti C fl_X11_105 (mm_dec dk_X11_track 27 rfl) rfl rfl rfl (Or.inl ⟨rfl, rfl⟩) ?_
  have i4 : mm_inv (mm_pf h3 0 14 (h3.1 7 10)) := mm_inv_pf i3 (show -2147483648 ≤ (h3.1 7 10) ∧ (h3.1 7 10) ≤ 2147483647 from ⟨by omega, by omega⟩) (by decide)
  have f4 : mm_fr [(0, 12), (0, 14), (7, 10), (7, 11)] [26, 61] h (mm_pf h3 0 14 (h3.1 7 10)) := mm_fr_pf f3 (by decide)
  obtain ⟨h4, eh4⟩ : ∃ z, z = mm_pf h3 0 14 (h3.1 7 10) := ⟨_, rfl⟩
  rw [← eh4] at i4 f4 ⊢
  have qh4 : h4.1 0 14 = (h3.1 7 10) := by rw [eh4]; exact mm_pf_same _ _ _ _
  have qh4_25 : h4.1 0 12 = h3.1 0 12 := by rw [eh4]; exact mm_pf_ne _ _ (by decide)
  have qh4_26 : h4.1 7 10 = h3.1 7 10 := by rw [eh4]; exact mm_pf_ne _ _ (by decide)
  have qh4_27 : h4.1 7 11 = h3.1 7 11 := by rw [eh4]; exact mm_pf_ne _ _ (by decide)
  have qh4_28 : h4.1 22 8 = h3.1 22 8 := by rw [eh4]; exact mm_pf_ne _ _ (by decide)
  refine mm_aload_n C (mm_dec dk_X11_track 28 rfl) rfl ?_
  refine mm_geti C fl_X11_105 (mm_dec dk_X11_track 29 rfl) rfl rfl (Or.inl rfl) ?_
  refine mm_iconst C (mm_dec dk_X11_track 30 rfl) ⟨by decide, by decide⟩ ?_
  have J83 : ∀ (h83_ : mH) (i83_ : mm_inv h83_) (f83_ : mm_fr [(0, 12), (0, 14), (7, 10), (7, 11)] [26, 61] h h83_) (w83_0 : h83_.1 0 12 = 0) (w83_1 : mm_tk9 h h83_ p1 p2 r30), mm_W x 2 12 83 [mU, mU, mU, mU, mI r30] [] h83_ := by
    intro h83_ i83_ f83_ w83_0 w83_1
    have g29 : 0 ≤ h83_.1 0 12 ∧ h83_.1 0 12 ≤ 500 := i83_.1 0 12
    have g30 : 0 ≤ h83_.1 22 8 ∧ h83_.1 22 8 ≤ 40 := i83_.1 22 8
    have g31 : -2147483648 ≤ h83_.1 0 14 ∧ h83_.1 0 14 ≤ 2147483647 := i83_.1 0 14
    have g32 : -2147483648 ≤ h83_.1 7 10 ∧ h83_.1 7 10 ≤ 2147483647 := i83_.1 7 10
    have g33 : 0 ≤ h83_.1 7 11 ∧ h83_.1 7 11 ≤ 1 := i83_.1 7 11
    have g34 : h83_.1 22 8 = h.1 22 8 := f83_.1 22 8 (by decide)
    refine mm_iload C (mm_dec dk_X11_track 43 rfl) rfl ?_
    exact mm_iret C T (mm_dec dk_X11_track 44 rfl) (by decide : 2 ≤ 2) (by decide : 12 ≤ 12) ⟨_, rfl, ⟨⟨by omega, by omega⟩, i83_, f83_, by omega, by exact y30_0.trans (mm_wX_fr p2 (g12c.1 1 5 (by decide)) (g12c.1 1 6 (by decide)) (g12c.1 1 7 (by decide)) (g12c.2 2 (by decide)) (g12c.2 3 (by decide)) (g12c.2 4 (by decide)) (g12c.2 5 (by decide)) (g12c.2 6 (by decide)) (g12c.2 62 (by decide))), by exact w83_1⟩⟩
  refine mm_icmp_ne (tgt := 83) C (mm_dec dk_X11_track 31 rfl) (by decide) (fun c56 => ?_) (fun c56 => ?_)
  · skip
    refine mm_fgt 0 ?_
    refine mm_fgt 1 ?_
    refine mm_fgt 2 ?_
    refine mm_fgt 3 ?_
    exact J83 h4 i4 f4 (by omega) (by first | exact ⟨0, 0, mm_up_no (by decide) (fun j => (mm_sm_pf 26 eh4 j).trans ((mm_sm_pf 26 eh3 j).trans ((g30c.2 26 (by decide) j).trans (g12c.2 26 (by decide) j)))), Or.inl ⟨rfl, zcf (by omega)⟩⟩ | exact ⟨1, s80_2, mm_up_tr (fun j => (mm_sm_pf 26 eh4 j).trans ((mm_sm_pf 26 eh3 j).trans ((g30c.2 26 (by decide) j).trans (g12c.2 26 (by decide) j)))) y80_0 (fun _ => rfl) rfl Iff.rfl, Or.inr ⟨rfl, zc0 (by omega), h30c.1 7 11, (by have en : r12 = mm_nX h p1 := (show r12 = h.2.1 19 (h.2.1 23 p1) from by omega); rw [← en]; exact mm_cb9_cg (zcb (zc0 (by omega))).1 (fun j a b => y12_0 j a b) (fun _ _ => rfl) (g12c.1 1 8 (by decide))), w80_0⟩⟩)
  · skip
    refine mm_aload_n C (mm_dec dk_X11_track 32 rfl) rfl ?_
    refine mm_getr (t := 22) C fl_X11_37 (mm_dec dk_X11_track 33 rfl) rfl rfl (mm_ref i4 rfl) ?_
    refine mm_iload_n C (mm_dec dk_X11_track 34 rfl) rfl ?_
    refine mm_aload_n C (mm_dec dk_X11_track 35 rfl) rfl ?_
    refine mm_getr (t := 7) C fl_X11_21 (mm_dec dk_X11_track 36 rfl) rfl rfl (mm_ref i4 rfl) ?_
    refine mm_cVi (rest := [mI p1, mR 22]) C1 ev_X11_381 (mm_dec dk_X11_track 37 rfl) (c_X10_walkCameBy x.2.1 hl (d - 1) (by omega) h4 i4 ) rfl rfl (Nat.le_of_ble_eq_true rfl) ⟨by decide, by decide⟩ rfl (fun r68 h68c hp68 => ?_) (fun _ _ q => q.elim)
    obtain ⟨z68, y68⟩ := hp68
    rw [z68, y68]
    have J80 : ∀ (s80_2 : Int) (bs80_2 : -2147483648 ≤ s80_2 ∧ s80_2 ≤ 2147483647) (w80_0 : ((h30c.1 7 11 = 1 ∧ s80_2 = r30) ∨ (h30c.1 7 11 = 0 ∧ s80_2 = -1))), mm_W x 2 12 80 [mU, mU, mU, mU, mI r30] [mI s80_2, mI p1, mR 22] h4 := by
      intro s80_2 bs80_2 w80_0
      refine mm_cVv (rest := []) C1 ev_X11_384 (mm_dec dk_X11_track 42 rfl) (c_X9_keepTrack_q x.2.1 hl (d - 1) (by omega) h4 i4 p1 s80_2 ⟨by omega, by omega⟩) rfl rfl (Nat.le_of_ble_eq_true rfl) ⟨by decide, by decide⟩ rfl (fun h80c hp80 => ?_) (fun _ _ q => q.elim)
      obtain ⟨i80c, g80c, y80_0⟩ := hp80
      have f80c : mm_fr [(0, 12), (0, 14), (7, 10), (7, 11)] [26, 61] h h80c := mm_fr_tr f4 g80c (by decide +kernel)
      have q80c_37 : h80c.1 0 12 = h4.1 0 12 := g80c.1 0 12 (by decide)
      have q80c_38 : h80c.1 0 14 = h4.1 0 14 := g80c.1 0 14 (by decide)
      have q80c_39 : h80c.1 7 10 = h4.1 7 10 := g80c.1 7 10 (by decide)
      have q80c_40 : h80c.1 7 11 = h4.1 7 11 := g80c.1 7 11 (by decide)
      have q80c_41 : h80c.1 22 8 = h4.1 22 8 := g80c.1 22 8 (by decide)
      exact J83 h80c i80c f80c (by omega) (by first | exact ⟨0, 0, mm_up_no (by decide) (fun j => (mm_sm_pf 26 eh4 j).trans ((mm_sm_pf 26 eh3 j).trans ((g30c.2 26 (by decide) j).trans (g12c.2 26 (by decide) j)))), Or.inl ⟨rfl, zcf (by omega)⟩⟩ | exact ⟨1, s80_2, mm_up_tr (fun j => (mm_sm_pf 26 eh4 j).trans ((mm_sm_pf 26 eh3 j).trans ((g30c.2 26 (by decide) j).trans (g12c.2 26 (by decide) j)))) y80_0 (fun _ => rfl) rfl Iff.rfl, Or.inr ⟨rfl, zc0 (by omega), h30c.1 7 11, (by have en : r12 = mm_nX h p1 := (show r12 = h.2.1 19 (h.2.1 23 p1) from by omega); rw [← en]; exact mm_cb9_cg (zcb (zc0 (by omega))).1 (fun j a b => y12_0 j a b) (fun _ _ => rfl) (g12c.1 1 8 (by decide))), w80_0⟩⟩)
    refine mm_if_eq (tgt := 79) C (mm_dec dk_X11_track 38 rfl) (by decide) (fun c71 => ?_) (fun c71 => ?_)
    · skip
      refine mm_iconst C (mm_dec dk_X11_track 41 rfl) ⟨by decide, by decide⟩ ?_
      refine mm_fgt 0 ?_
      refine mm_fgt 1 ?_
      refine mm_fgt 2 ?_
      refine mm_fgt 3 ?_
      exact J80 (-1) ⟨by omega, by omega⟩ (by omega)
    · skip
      refine mm_iload C (mm_dec dk_X11_track 39 rfl) rfl ?_
      refine mm_goto (tgt := 80) C (mm_dec dk_X11_track 40 rfl) (by decide) ?_
      refine mm_fgt 0 ?_
      refine mm_fgt 1 ?_
      refine mm_fgt 2 ?_
      refine mm_fgt 3 ?_
      exact J80 r30 ⟨by omega, by omega⟩ (by omega)
set_option maxRecDepth 100000 in
set_option maxHeartbeats 4000000 in
theorem c_X12_comesBy_q (l : Launch) (hl : l.stackTraces = false) (d : Nat) (hd : 0 ≤ d) (h : mH) (i0 : mm_inv h) (p1 : Int) (p2 : Int) (bp1 : 0 ≤ p1 ∧ p1 ≤ 12) : mm_Met l d yX12_comesBy cX12_comesBy 4 (some .int) [mR 66, mI p1, mI p2] h (mm_pi fun r h2 => (0 ≤ r ∧ r ≤ 12) ∧ h2 = h ∧ r = mm_avn (fun j => h.2.1 78 (h.2.1 91 j)) (h.1 66 39) p2 p1) mm_nx 0 0 := by
  refine mm_ofW (ls := [mR 66, mI p1, mI p2, mU]) hl (by decide) rfl (Nat.le_of_ble_eq_true rfl) ?_
  intro x hxl C T hnm htb
  subst hxl
  refine mm_rng (fun hr _ => ?_)
  have ap1 : -2147483648 ≤ p1 ∧ p1 < 2147483648 := mm_ok_at hr (i := 1) rfl
  have ap2 : -2147483648 ≤ p2 ∧ p2 < 2147483648 := mm_ok_at hr (i := 2) rfl
  have f0 : mm_fr [] [] h h := mm_fr_rf
  have g1 : 0 ≤ h.1 66 39 ∧ h.1 66 39 ≤ 12 := i0.1 66 39
  refine mm_iload_n C (mm_dec dk_X12_comesBy 0 rfl) rfl ?_
  have J2 : ∀ (n : Nat) (x2_3 : Int) (bx2_3 : 0 ≤ x2_3 ∧ x2_3 ≤ 12) (w2_0 : mm_avn (fun j => h.2.1 78 (h.2.1 91 j)) (h.1 66 39) p2 x2_3 = mm_avn (fun j => h.2.1 78 (h.2.1 91 j)) (h.1 66 39) p2 p1), (12 - x2_3 : Int) < n → mm_W x 0 0 2 [mR 66, mU, mI p2, mI x2_3] [] h := by
    intro n
    induction n with
    | zero =>
      intro x2_3 bx2_3 w2_0 hm
      have g2 : 0 ≤ h.1 66 39 ∧ h.1 66 39 ≤ 12 := i0.1 66 39
      exfalso; omega
    | succ n ih2 =>
      intro x2_3 bx2_3 w2_0 hm2
      have g3 : 0 ≤ h.1 66 39 ∧ h.1 66 39 ≤ 12 := i0.1 66 39
      refine mm_iload_n C (mm_dec dk_X12_comesBy 2 rfl) rfl ?_
      refine mm_aload_n C (mm_dec dk_X12_comesBy 3 rfl) rfl ?_
      refine mm_geti C fl_X12_296 (mm_dec dk_X12_comesBy 4 rfl) rfl rfl (Or.inl rfl) ?_
      have J31 : ∀ (w31_0 : x2_3 = mm_avn (fun j => h.2.1 78 (h.2.1 91 j)) (h.1 66 39) p2 p1), mm_W x 0 0 31 [mU, mU, mU, mI x2_3] [] h := by
        intro w31_0
        have g4 : 0 ≤ h.1 66 39 ∧ h.1 66 39 ≤ 12 := i0.1 66 39
        refine mm_iload_n C (mm_dec dk_X12_comesBy 17 rfl) rfl ?_
        exact mm_iret C T (mm_dec dk_X12_comesBy 18 rfl) (by decide : 0 ≤ 0) (by decide : 0 ≤ 0) ⟨_, rfl, ⟨⟨by omega, by omega⟩, rfl, by exact w31_0⟩⟩
      refine mm_icmp_ge (tgt := 31) C (mm_dec dk_X12_comesBy 5 rfl) (by decide) (fun c7 => ?_) (fun c7 => ?_)
      · skip
        refine mm_fgt 0 ?_
        refine mm_fgt 2 ?_
        exact J31 (by first | exact (mm_avn_e (Or.inl (by omega))).symm.trans w2_0 | exact (mm_avn_e (Or.inr (by omega))).symm.trans w2_0)
      · skip
        refine mm_aload_n C (mm_dec dk_X12_comesBy 6 rfl) rfl ?_
        refine mm_getr (t := 78) C fl_X12_45 (mm_dec dk_X12_comesBy 7 rfl) rfl rfl (mm_ref i0 rfl) ?_
        refine mm_aload_n C (mm_dec dk_X12_comesBy 8 rfl) rfl ?_
        refine mm_getr (t := 91) C fl_X12_84 (mm_dec dk_X12_comesBy 9 rfl) rfl rfl (mm_ref i0 rfl) ?_
        refine mm_iload_n C (mm_dec dk_X12_comesBy 10 rfl) rfl ?_
        refine mm_iald C (mm_dec dk_X12_comesBy 11 rfl) rfl (by omega) (by omega) ?_
        have g5 : 0 ≤ (h.2.1 91 x2_3) ∧ (h.2.1 91 x2_3) ≤ 19 := i0.2.1 91 x2_3
        refine mm_iald C (mm_dec dk_X12_comesBy 12 rfl) rfl (by omega) (by omega) ?_
        have g6 : 0 ≤ (h.2.1 78 (h.2.1 91 x2_3)) ∧ (h.2.1 78 (h.2.1 91 x2_3)) ≤ 399 := i0.2.1 78 (h.2.1 91 x2_3)
        refine mm_iload_n C (mm_dec dk_X12_comesBy 13 rfl) rfl ?_
        refine mm_icmp_ne (tgt := 31) C (mm_dec dk_X12_comesBy 14 rfl) (by decide) (fun c22 => ?_) (fun c22 => ?_)
        · skip
          refine mm_fgt 0 ?_
          refine mm_fgt 2 ?_
          exact J31 (by first | exact (mm_avn_e (Or.inl (by omega))).symm.trans w2_0 | exact (mm_avn_e (Or.inr (by omega))).symm.trans w2_0)
        · skip
          refine mm_iincL (ls2 := [mR 66, mU, mI p2, mI (x2_3 + 1)]) C (mm_dec dk_X12_comesBy 15 rfl) rfl (by decide) ⟨by omega, by omega⟩ rfl ?_
          refine mm_goto (tgt := 2) C (mm_dec dk_X12_comesBy 16 rfl) (by decide) ?_
          exact ih2 (x2_3 + 1) ⟨by omega, by omega⟩ (by first | rfl | exact (mm_avn_s (by omega) (by omega)).symm.trans w2_0) (by omega)
  refine mm_istore_nL (ls2 := [mR 66, mI p1, mI p2, mI p1]) C (mm_dec dk_X12_comesBy 1 rfl) (by decide) rfl ?_
  refine mm_fgt 1 ?_
  exact J2 (((12 - p1) : Int) + 1).toNat p1 ⟨by omega, by omega⟩ (by first | rfl | exact (mm_avn_s (by omega) (by omega)).symm.trans w2_0) (by omega)
set_option maxRecDepth 100000 in
set_option maxHeartbeats 4000000 in
theorem c_X12_track_q (l : Launch) (hl : l.stackTraces = false) (d : Nat) (hd : 2 ≤ d) (h : mH) (i0 : mm_inv h) (p1 : Int) (p2 : Int) : mm_Met l d yX12_track cX12_track 10 (some .int) [mR 66, mI p1, mI p2] h (mm_pi fun r h2 => (-2147483648 ≤ r ∧ r ≤ 2147483647) ∧ mm_inv h2 ∧ mm_fr [(66, 0), (66, 39), (66, 56), (66, 58)] [91, 122, 123] h h2 ∧ (((0 ≤ p1 ∧ p1 < h.1 66 23) ∧ (0 ≤ p2 ∧ p2 ≤ h.1 66 56) ∧ h2.1 66 56 = 0 ∧ h2.1 66 0 = 0 ∧ r = mm_wY h p2) ∨ ((p1 < 0 ∨ h.1 66 23 ≤ p1) ∧ h2.1 66 56 = h.1 66 56 ∧ h2.1 66 0 = 1 ∧ r = 0) ∨ ((0 ≤ p1 ∧ p1 < h.1 66 23) ∧ (p2 < 0 ∨ h.1 66 56 < p2) ∧ h2.1 66 56 = h.1 66 56 ∧ h2.1 66 0 = 2 ∧ r = 0)) ∧ ((((0 ≤ p1 ∧ p1 < h.1 66 23) ∧ (0 ≤ p2 ∧ p2 ≤ h.1 66 56)) ∧ mm_tk8 h h2 p1 p2) ∨ (¬ ((0 ≤ p1 ∧ p1 < h.1 66 23) ∧ (0 ≤ p2 ∧ p2 ≤ h.1 66 56)) ∧ mm_s2 h h2))) mm_nx 0 0 := by
  refine mm_ofW (ls := [mR 66, mI p1, mI p2, mU, mU, mU, mU, mU, mU, mU]) hl (by decide) rfl (Nat.le_of_ble_eq_true rfl) ?_
  intro x hxl C T hnm htb
  subst hxl
  have C1 := mm_OK_le (d' := d - 1 + 1) (by omega) C
  refine mm_rng (fun hr _ => ?_)
  have ap1 : -2147483648 ≤ p1 ∧ p1 < 2147483648 := mm_ok_at hr (i := 1) rfl
  have ap2 : -2147483648 ≤ p2 ∧ p2 < 2147483648 := mm_ok_at hr (i := 2) rfl
  have f0 : mm_fr [(66, 0), (66, 39), (66, 56), (66, 58)] [91, 122, 123] h h := mm_fr_rf
  have g1 : 0 ≤ h.1 66 56 ∧ h.1 66 56 ≤ 500 := i0.1 66 56
  have g2 : 0 ≤ h.1 66 39 ∧ h.1 66 39 ≤ 12 := i0.1 66 39
  have g3 : 0 ≤ h.1 66 23 ∧ h.1 66 23 ≤ 40 := i0.1 66 23
  have g4 : -2147483648 ≤ h.1 66 0 ∧ h.1 66 0 ≤ 2147483647 := i0.1 66 0
  have g5 : 0 ≤ h.1 66 11 ∧ h.1 66 11 ≤ 19 := i0.1 66 11
  have g6 : 0 ≤ h.1 66 12 ∧ h.1 66 12 ≤ 19 := i0.1 66 12
  refine mm_aload_n C (mm_dec dk_X12_track 0 rfl) rfl ?_
  refine mm_iload_n C (mm_dec dk_X12_track 1 rfl) rfl ?_
  refine mm_cVi (rest := []) C1 ev_X12_308 (mm_dec dk_X12_track 2 rfl) (c_X12_isRunner_q x.2.1 hl (d - 1) (by omega) h i0 p1) rfl rfl (Nat.le_of_ble_eq_true rfl) ⟨by decide, by decide⟩ rfl (fun r2 h2c hp2 => ?_) (fun _ _ q => q.elim)
  obtain ⟨b2, i2c, g2c, y2_0, y2_1⟩ := hp2
  have f2c : mm_fr [(66, 0), (66, 39), (66, 56), (66, 58)] [91, 122, 123] h h2c := mm_fr_tr f0 g2c (by decide +kernel)
  have q2c_8 : h2c.1 66 11 = h.1 66 11 := g2c.1 66 11 (by decide)
  have q2c_9 : h2c.1 66 12 = h.1 66 12 := g2c.1 66 12 (by decide)
  have q2c_10 : h2c.1 66 23 = h.1 66 23 := g2c.1 66 23 (by decide)
  have q2c_11 : h2c.1 66 39 = h.1 66 39 := g2c.1 66 39 (by decide)
  have q2c_12 : h2c.1 66 56 = h.1 66 56 := g2c.1 66 56 (by decide)
  have g13 : -2147483648 ≤ (h2c.1 66 0) ∧ (h2c.1 66 0) ≤ 2147483647 := i2c.1 66 0
  have J33 : ∀ (h33_ : mH) (i33_ : mm_inv h33_) (f33_ : mm_fr [(66, 0), (66, 39), (66, 56), (66, 58)] [91, 122, 123] h h33_) (w33_0 : (((p1 < 0 ∨ h.1 66 23 ≤ p1) ∧ h33_.1 66 0 = 1) ∨ ((0 ≤ p1 ∧ p1 < h.1 66 23) ∧ (p2 < 0 ∨ h.1 66 56 < p2) ∧ h33_.1 66 0 = 2))) (w33_1 : h33_.1 66 56 = h.1 66 56) (w33_2 : mm_s2 h h33_), mm_W x 0 0 33 [mU, mU, mU, mU, mU, mU, mU, mU, mU, mU] [] h33_ := by
    intro h33_ i33_ f33_ w33_0 w33_1 w33_2
    have g14 : 0 ≤ h33_.1 66 56 ∧ h33_.1 66 56 ≤ 500 := i33_.1 66 56
    have g15 : 0 ≤ h33_.1 66 39 ∧ h33_.1 66 39 ≤ 12 := i33_.1 66 39
    have g16 : 0 ≤ h33_.1 66 23 ∧ h33_.1 66 23 ≤ 40 := i33_.1 66 23
    have g17 : -2147483648 ≤ h33_.1 66 0 ∧ h33_.1 66 0 ≤ 2147483647 := i33_.1 66 0
    have g18 : 0 ≤ h33_.1 66 11 ∧ h33_.1 66 11 ≤ 19 := i33_.1 66 11
    have g19 : 0 ≤ h33_.1 66 12 ∧ h33_.1 66 12 ≤ 19 := i33_.1 66 12
    have g20 : h33_.1 66 23 = h.1 66 23 := f33_.1 66 23 (by decide)
    have g21 : h33_.1 66 11 = h.1 66 11 := f33_.1 66 11 (by decide)
    have g22 : h33_.1 66 12 = h.1 66 12 := f33_.1 66 12 (by decide)
    refine mm_iconst C (mm_dec dk_X12_track 17 rfl) ⟨by decide, by decide⟩ ?_
    exact mm_iret C T (mm_dec dk_X12_track 18 rfl) (by decide : 0 ≤ 0) (by decide : 0 ≤ 0) ⟨_, rfl, ⟨⟨by omega, by omega⟩, i33_, f33_, by first | omega | (have zr := (mm_wY_fr p2 (f47c.1 66 1 (by decide)) (f47c.1 66 2 (by decide)) (f47c.1 66 3 (by decide)) (f47c.1 66 9 (by decide)) (f47c.1 66 10 (by decide)) (f47c.2 67 (by decide)) (f47c.2 68 (by decide)) (f47c.2 69 (by decide)) (f47c.2 70 (by decide)) (f47c.2 71 (by decide)) (f47c.2 101 (by decide))); omega), by first | exact Or.inr ⟨by omega, w33_2⟩ | exact Or.inl ⟨by omega, 0, 0, 0, mm_up_no (by decide) w200_6.1, mm_up_no (by decide) w200_6.2, Or.inl ⟨rfl, zW8 ▸ w200_5⟩⟩ | exact Or.inl ⟨by omega, 1, x77_4, s274_2, mm_up_pa (fun j => zs2.1 j) eh6 (fun j => mm_sm_pa 122 eh7 (by decide) j) rfl rfl, mm_up_pa (fun j => (mm_sm_pa 123 eh6 (by decide) j).trans (zs2.2 j)) eh7 (fun _ => rfl) rfl rfl, Or.inr ⟨rfl, ze8.1, ze8.2, zd8⟩⟩⟩⟩
  refine mm_if_eq (tgt := 33) C (mm_dec dk_X12_track 3 rfl) (by decide) (fun c5 => ?_) (fun c5 => ?_)
  · skip
    refine mm_fgt 0 ?_
    refine mm_fgt 1 ?_
    refine mm_fgt 2 ?_
    exact J33 h2c i2c f2c (by omega) (by omega) (by first | exact mm_s2_tr w26_4 (mm_s2_fr g27c (by decide) (by decide)) | exact mm_s2_fr g2c (by decide) (by decide))
  · skip
    refine mm_aload_n C (mm_dec dk_X12_track 4 rfl) rfl ?_
    refine mm_iload_n C (mm_dec dk_X12_track 5 rfl) rfl ?_
    have J26 : ∀ (s26_1 : Int) (bs26_1 : 0 ≤ s26_1 ∧ s26_1 ≤ 1) (w26_0 : (0 ≤ p1 ∧ p1 < h.1 66 23)) (w26_1 : ((s26_1 = 1 ∧ (0 ≤ p2 ∧ p2 ≤ h.1 66 56)) ∨ (s26_1 = 0 ∧ (p2 < 0 ∨ h.1 66 56 < p2)))) (w26_2 : h2c.1 66 0 = 0) (w26_3 : h2c.1 66 56 = h.1 66 56) (w26_4 : mm_s2 h h2c) (vs26_1 : (s26_1 = 0) ∨ (0 ≤ p2 ∧ p2 ≤ (h2c.1 66 56) ∧ s26_1 = 1)), mm_W x 0 0 26 [mR 66, mI p1, mI p2, mU, mU, mU, mU, mU, mU, mU] [mI s26_1, mR 66] h2c := by
      intro s26_1 bs26_1 w26_0 w26_1 w26_2 w26_3 w26_4 vs26_1
      refine mm_iconst C (mm_dec dk_X12_track 14 rfl) ⟨by decide, by decide⟩ ?_
      refine mm_cVi (rest := []) C1 ev_X12_251 (mm_dec dk_X12_track 15 rfl) (c_X12_right_q x.2.1 hl (d - 1) (by omega) h2c i2c s26_1 2 ⟨by omega, by omega⟩ (by omega)) rfl rfl (Nat.le_of_ble_eq_true rfl) ⟨by decide, by decide⟩ rfl (fun r27 h27c hp27 => ?_) (fun _ _ q => q.elim)
      obtain ⟨b27, i27c, g27c, y27_0⟩ := hp27
      have f27c : mm_fr [(66, 0), (66, 39), (66, 56), (66, 58)] [91, 122, 123] h h27c := mm_fr_tr f2c g27c (by decide +kernel)
      have q27c_24 : h27c.1 66 11 = h2c.1 66 11 := g27c.1 66 11 (by decide)
      have q27c_25 : h27c.1 66 12 = h2c.1 66 12 := g27c.1 66 12 (by decide)
      have q27c_26 : h27c.1 66 23 = h2c.1 66 23 := g27c.1 66 23 (by decide)
      have q27c_27 : h27c.1 66 39 = h2c.1 66 39 := g27c.1 66 39 (by decide)
      have q27c_28 : h27c.1 66 56 = h2c.1 66 56 := g27c.1 66 56 (by decide)
      have g29 : -2147483648 ≤ (h27c.1 66 0) ∧ (h27c.1 66 0) ≤ 2147483647 := i27c.1 66 0
      refine mm_if_ne (tgt := 35) C (mm_dec dk_X12_track 16 rfl) (by decide) (fun c30 => ?_) (fun c30 => ?_)
      · skip
        refine mm_aload_n C (mm_dec dk_X12_track 19 rfl) rfl ?_
        refine mm_iconst C (mm_dec dk_X12_track 20 rfl) ⟨by decide, by decide⟩ ?_
        refine mm_puti C fl_X12_350 (mm_dec dk_X12_track 21 rfl) rfl rfl rfl (Or.inl ⟨rfl, rfl⟩) ?_
        have i3 : mm_inv (mm_pf h27c 66 56 0) := mm_inv_pf i27c (show 0 ≤ 0 ∧ 0 ≤ 500 from ⟨by omega, by omega⟩) (by decide)
        have f3 : mm_fr [(66, 0), (66, 39), (66, 56), (66, 58)] [91, 122, 123] h (mm_pf h27c 66 56 0) := mm_fr_pf f27c (by decide)
        obtain ⟨h3, eh3⟩ : ∃ z, z = mm_pf h27c 66 56 0 := ⟨_, rfl⟩
        rw [← eh3] at i3 f3 ⊢
        have qh3 : h3.1 66 56 = 0 := by rw [eh3]; exact mm_pf_same _ _ _ _
        have qh3_30 : h3.1 66 0 = h27c.1 66 0 := by rw [eh3]; exact mm_pf_ne _ _ (by decide)
        have qh3_31 : h3.1 66 11 = h27c.1 66 11 := by rw [eh3]; exact mm_pf_ne _ _ (by decide)
        have qh3_32 : h3.1 66 12 = h27c.1 66 12 := by rw [eh3]; exact mm_pf_ne _ _ (by decide)
        have qh3_33 : h3.1 66 23 = h27c.1 66 23 := by rw [eh3]; exact mm_pf_ne _ _ (by decide)
        have qh3_34 : h3.1 66 39 = h27c.1 66 39 := by rw [eh3]; exact mm_pf_ne _ _ (by decide)
        refine mm_aload_n C (mm_dec dk_X12_track 22 rfl) rfl ?_
        refine mm_iconst C (mm_dec dk_X12_track 23 rfl) ⟨by decide, by decide⟩ ?_
        refine mm_puti C fl_X12_237 (mm_dec dk_X12_track 24 rfl) rfl rfl rfl (Or.inl ⟨rfl, rfl⟩) ?_
        have i4 : mm_inv (mm_pf h3 66 58 (-1)) := mm_inv_pf i3 (show -2147483648 ≤ (-1) ∧ (-1) ≤ 2147483647 from ⟨by omega, by omega⟩) (by decide)
        have f4 : mm_fr [(66, 0), (66, 39), (66, 56), (66, 58)] [91, 122, 123] h (mm_pf h3 66 58 (-1)) := mm_fr_pf f3 (by decide)
        obtain ⟨h4, eh4⟩ : ∃ z, z = mm_pf h3 66 58 (-1) := ⟨_, rfl⟩
        rw [← eh4] at i4 f4 ⊢
        have qh4 : h4.1 66 58 = (-1) := by rw [eh4]; exact mm_pf_same _ _ _ _
        have qh4_35 : h4.1 66 0 = h3.1 66 0 := by rw [eh4]; exact mm_pf_ne _ _ (by decide)
        have qh4_36 : h4.1 66 11 = h3.1 66 11 := by rw [eh4]; exact mm_pf_ne _ _ (by decide)
        have qh4_37 : h4.1 66 12 = h3.1 66 12 := by rw [eh4]; exact mm_pf_ne _ _ (by decide)
        have qh4_38 : h4.1 66 23 = h3.1 66 23 := by rw [eh4]; exact mm_pf_ne _ _ (by decide)
        have qh4_39 : h4.1 66 39 = h3.1 66 39 := by rw [eh4]; exact mm_pf_ne _ _ (by decide)
        have qh4_40 : h4.1 66 56 = h3.1 66 56 := by rw [eh4]; exact mm_pf_ne _ _ (by decide)
        refine mm_aload_n C (mm_dec dk_X12_track 25 rfl) rfl ?_
        refine mm_iload_n C (mm_dec dk_X12_track 26 rfl) rfl ?_
        refine mm_cVv (rest := []) C1 ev_X12_302 (mm_dec dk_X12_track 27 rfl) (c_X12_rows_q x.2.1 hl (d - 1) (by omega) h4 i4 p1 ⟨by omega, by omega⟩) rfl rfl (Nat.le_of_ble_eq_true rfl) ⟨by decide, by decide⟩ rfl (fun h47c hp47 => ?_) (fun _ _ q => q.elim)
        obtain ⟨i47c, g47c, y47_0, y47_1⟩ := hp47
        have f47c : mm_fr [(66, 0), (66, 39), (66, 56), (66, 58)] [91, 122, 123] h h47c := mm_fr_tr f4 g47c (by decide +kernel)
        have q47c_42 : h47c.1 66 0 = h4.1 66 0 := g47c.1 66 0 (by decide)
        have q47c_43 : h47c.1 66 11 = h4.1 66 11 := g47c.1 66 11 (by decide)
        have q47c_44 : h47c.1 66 12 = h4.1 66 12 := g47c.1 66 12 (by decide)
        have q47c_45 : h47c.1 66 23 = h4.1 66 23 := g47c.1 66 23 (by decide)
        have q47c_46 : h47c.1 66 56 = h4.1 66 56 := g47c.1 66 56 (by decide)
        have q47c_47 : h47c.1 66 58 = h4.1 66 58 := g47c.1 66 58 (by decide)
        have g48 : 0 ≤ (h47c.1 66 39) ∧ (h47c.1 66 39) ≤ 12 := i47c.1 66 39
        have zs2 : mm_s2 h h47c := mm_s2_tr (mm_s2_pf (mm_s2_pf (mm_s2_tr w26_4 (mm_s2_fr g27c (by decide) (by decide))) eh3) eh4) (mm_s2_fr g47c (by decide) (by decide))
        have zW8 : mm_WY h47c = mm_WY h := (mm_WY_fr (f47c.1 66 1 (by decide)) (f47c.1 66 2 (by decide)) (f47c.1 66 3 (by decide)) (f47c.1 66 9 (by decide)) (f47c.1 66 10 (by decide)) (f47c.2 67 (by decide)) (f47c.2 68 (by decide)) (f47c.2 69 (by decide)) (f47c.2 70 (by decide)) (f47c.2 71 (by decide)) (f47c.2 101 (by decide)))
        refine mm_bipush C (mm_dec dk_X12_track 28 rfl) ⟨by decide, by decide⟩ ?_
        refine mm_aload_n C (mm_dec dk_X12_track 29 rfl) rfl ?_
        refine mm_geti C fl_X12_204 (mm_dec dk_X12_track 30 rfl) rfl rfl (Or.inl rfl) ?_
        have g49 : 0 ≤ (h47c.1 66 10) ∧ (h47c.1 66 10) ≤ 19 := i47c.1 66 10
        refine mm_imul C (mm_dec dk_X12_track 31 rfl) ⟨by omega, by omega⟩ ?_
        refine mm_aload_n C (mm_dec dk_X12_track 32 rfl) rfl ?_
        refine mm_geti C fl_X12_201 (mm_dec dk_X12_track 33 rfl) rfl rfl (Or.inl rfl) ?_
        have g50 : 0 ≤ (h47c.1 66 9) ∧ (h47c.1 66 9) ≤ 19 := i47c.1 66 9
        refine mm_iadd C (mm_dec dk_X12_track 34 rfl) ⟨by omega, by omega⟩ ?_
        refine mm_istore_nL (ls2 := [mR 66, mI p1, mI p2, mI ((20 * (h47c.1 66 10)) + (h47c.1 66 9)), mU, mU, mU, mU, mU, mU]) C (mm_dec dk_X12_track 35 rfl) (by decide) rfl ?_
        refine mm_iconst C (mm_dec dk_X12_track 36 rfl) ⟨by decide, by decide⟩ ?_
        refine mm_istoreL (ls2 := [mR 66, mI p1, mI p2, mI ((20 * (h47c.1 66 10)) + (h47c.1 66 9)), mI 0, mU, mU, mU, mU, mU]) C (mm_dec dk_X12_track 37 rfl) (by decide) rfl ?_
        refine mm_aload_n C (mm_dec dk_X12_track 38 rfl) rfl ?_
        refine mm_iconst C (mm_dec dk_X12_track 39 rfl) ⟨by decide, by decide⟩ ?_
        refine mm_iload_n C (mm_dec dk_X12_track 40 rfl) rfl ?_
        refine mm_cVi (rest := []) C1 ev_X12_539 (mm_dec dk_X12_track 41 rfl) (c_X12_comesBy_q x.2.1 hl (d - 1) (by omega) h47c i47c 0 ((20 * (h47c.1 66 10)) + (h47c.1 66 9)) ⟨by omega, by omega⟩) rfl rfl (Nat.le_of_ble_eq_true rfl) ⟨by decide, by decide⟩ rfl (fun r69 h69c hp69 => ?_) (fun _ _ q => q.elim)
        obtain ⟨b69, z69, y69_0⟩ := hp69
        rw [z69]
        refine mm_istoreL (ls2 := [mR 66, mI p1, mI p2, mI ((20 * (h47c.1 66 10)) + (h47c.1 66 9)), mI 0, mI r69, mU, mU, mU, mU]) C (mm_dec dk_X12_track 42 rfl) (by decide) rfl ?_
        refine mm_iconst C (mm_dec dk_X12_track 43 rfl) ⟨by decide, by decide⟩ ?_
        have J77 : ∀ (n : Nat) (x77_3 : Int) (bx77_3 : 0 ≤ x77_3 ∧ x77_3 ≤ 399) (x77_4 : Int) (bx77_4 : -2147483648 ≤ x77_4 ∧ x77_4 ≤ 2147483647) (x77_5 : Int) (bx77_5 : 0 ≤ x77_5 ∧ x77_5 ≤ 12) (x77_6 : Int) (bx77_6 : 0 ≤ x77_6 ∧ x77_6 ≤ 2147483647) (w77_0 : h47c.1 66 56 = 0) (w77_1 : (0 ≤ p1 ∧ p1 < h.1 66 23)) (w77_2 : (0 ≤ p2 ∧ p2 ≤ h.1 66 56)) (w77_3 : h47c.1 66 0 = 0) (w77_4 : mm_wk (mm_by h47c) (mm_sy h47c) (h47c.2.1 101) (20 * h47c.1 66 10 + h47c.1 66 9) (x77_6).toNat = (x77_3, x77_4)) (w77_5 : x77_6 ≤ p2) (w77_6 : x77_5 = mm_me (fun j => h47c.2.1 78 (h47c.2.1 91 j)) (h47c.1 66 39) (fun i => (mm_WY h47c i).1) (x77_6).toNat), (2147483647 - x77_6 : Int) < n → mm_W x 0 0 77 [mR 66, mI p1, mI p2, mI x77_3, mI x77_4, mI x77_5, mI x77_6, mU, mU, mU] [] h47c := by
          intro n
          induction n with
          | zero =>
            intro x77_3 bx77_3 x77_4 bx77_4 x77_5 bx77_5 x77_6 bx77_6 w77_0 w77_1 w77_2 w77_3 w77_4 w77_5 w77_6 hm
            exfalso; omega
          | succ n ih77 =>
            intro x77_3 bx77_3 x77_4 bx77_4 x77_5 bx77_5 x77_6 bx77_6 w77_0 w77_1 w77_2 w77_3 w77_4 w77_5 w77_6 hm77
            refine mm_iload C (mm_dec dk_X12_track 45 rfl) rfl ?_
            refine mm_iload_n C (mm_dec dk_X12_track 46 rfl) rfl ?_
            refine mm_icmp_ge (tgt := 231) C (mm_dec dk_X12_track 47 rfl) (by decide) (fun c80 => ?_) (fun c80 => ?_)
            · skip
              have zs : x77_4 = mm_wY h47c p2 := mm_wk_end w77_4 (by omega) (by omega)
              refine mm_aload_n C (mm_dec dk_X12_track 121 rfl) rfl ?_
              refine mm_getr (t := 122) C fl_X12_178 (mm_dec dk_X12_track 122 rfl) rfl rfl (mm_ref i47c rfl) ?_
              refine mm_iload_n C (mm_dec dk_X12_track 123 rfl) rfl ?_
              refine mm_iload C (mm_dec dk_X12_track 124 rfl) rfl ?_
              refine mm_iast C (mm_dec dk_X12_track 125 rfl) rfl (by omega) (by omega) ?_
              have i6 : mm_inv (mm_pa h47c 122 p1 x77_4) := mm_inv_pa i47c (show -2147483648 ≤ x77_4 ∧ x77_4 ≤ 2147483647 from ⟨by omega, by omega⟩)
              have f6 : mm_fr [(66, 0), (66, 39), (66, 56), (66, 58)] [91, 122, 123] h (mm_pa h47c 122 p1 x77_4) := mm_fr_pa f47c (by decide)
              obtain ⟨h6, eh6⟩ : ∃ z, z = mm_pa h47c 122 p1 x77_4 := ⟨_, rfl⟩
              rw [← eh6] at i6 f6 ⊢
              have qh6_52 : h6.1 66 0 = h47c.1 66 0 := by rw [eh6]; rfl
              have qh6_53 : h6.1 66 9 = h47c.1 66 9 := by rw [eh6]; rfl
              have qh6_54 : h6.1 66 10 = h47c.1 66 10 := by rw [eh6]; rfl
              have qh6_55 : h6.1 66 11 = h47c.1 66 11 := by rw [eh6]; rfl
              have qh6_56 : h6.1 66 12 = h47c.1 66 12 := by rw [eh6]; rfl
              have qh6_57 : h6.1 66 23 = h47c.1 66 23 := by rw [eh6]; rfl
              have qh6_58 : h6.1 66 39 = h47c.1 66 39 := by rw [eh6]; rfl
              have qh6_59 : h6.1 66 56 = h47c.1 66 56 := by rw [eh6]; rfl
              have qh6_60 : h6.1 66 58 = h47c.1 66 58 := by rw [eh6]; rfl
              refine mm_aload_n C (mm_dec dk_X12_track 126 rfl) rfl ?_
              refine mm_getr (t := 123) C fl_X12_181 (mm_dec dk_X12_track 127 rfl) rfl rfl (mm_ref i6 rfl) ?_
              refine mm_iload_n C (mm_dec dk_X12_track 128 rfl) rfl ?_
              refine mm_iload C (mm_dec dk_X12_track 129 rfl) rfl ?_
              refine mm_aload_n C (mm_dec dk_X12_track 130 rfl) rfl ?_
              refine mm_geti C fl_X12_296 (mm_dec dk_X12_track 131 rfl) rfl rfl (Or.inl rfl) ?_
              have J274 : ∀ (s274_2 : Int) (bs274_2 : 0 ≤ s274_2 ∧ s274_2 ≤ 1) (w274_0 : h6.1 66 56 = 0) (w274_1 : (0 ≤ p1 ∧ p1 < h.1 66 23)) (w274_2 : (0 ≤ p2 ∧ p2 ≤ h.1 66 56)) (w274_3 : h6.1 66 0 = 0) (w274_4 : ((s274_2 = 1 ∧ x77_5 = h47c.1 66 39 ∧ x77_3 = 20 * h47c.1 66 12 + h47c.1 66 11) ∨ (s274_2 = 0 ∧ ¬ (x77_5 = h47c.1 66 39 ∧ x77_3 = 20 * h47c.1 66 12 + h47c.1 66 11)))) (vs274_2 : (s274_2 = 0) ∨ (x77_5 = (h6.1 66 39) ∧ x77_3 = ((20 * (h6.1 66 12)) + (h6.1 66 11)) ∧ s274_2 = 1)), mm_W x 0 0 274 [mU, mU, mU, mU, mI x77_4, mU, mU, mU, mU, mU] [mI s274_2, mI p1, mR 123] h6 := by
                intro s274_2 bs274_2 w274_0 w274_1 w274_2 w274_3 w274_4 vs274_2
                refine mm_zast C (mm_dec dk_X12_track 145 rfl) rfl (by omega) (by omega) (by omega) ?_
                have i7 : mm_inv (mm_pa h6 123 p1 s274_2) := mm_inv_pa i6 (show 0 ≤ s274_2 ∧ s274_2 ≤ 1 from ⟨by omega, by omega⟩)
                have f7 : mm_fr [(66, 0), (66, 39), (66, 56), (66, 58)] [91, 122, 123] h (mm_pa h6 123 p1 s274_2) := mm_fr_pa f6 (by decide)
                obtain ⟨h7, eh7⟩ : ∃ z, z = mm_pa h6 123 p1 s274_2 := ⟨_, rfl⟩
                rw [← eh7] at i7 f7 ⊢
                have qh7_61 : h7.1 66 0 = h6.1 66 0 := by rw [eh7]; rfl
                have qh7_62 : h7.1 66 9 = h6.1 66 9 := by rw [eh7]; rfl
                have qh7_63 : h7.1 66 10 = h6.1 66 10 := by rw [eh7]; rfl
                have qh7_64 : h7.1 66 11 = h6.1 66 11 := by rw [eh7]; rfl
                have qh7_65 : h7.1 66 12 = h6.1 66 12 := by rw [eh7]; rfl
                have qh7_66 : h7.1 66 23 = h6.1 66 23 := by rw [eh7]; rfl
                have qh7_67 : h7.1 66 39 = h6.1 66 39 := by rw [eh7]; rfl
                have qh7_68 : h7.1 66 56 = h6.1 66 56 := by rw [eh7]; rfl
                have qh7_69 : h7.1 66 58 = h6.1 66 58 := by rw [eh7]; rfl
                have zc8 : mm_cb9 s274_2 (fun j => h47c.2.1 78 (h47c.2.1 91 j)) (h47c.1 66 39) (mm_WY h47c) p2.toNat (20 * h47c.1 66 12 + h47c.1 66 11) := (by rw [show p2 = x77_6 by omega]; have e1 : (mm_WY h47c x77_6.toNat).1 = x77_3 := congrArg Prod.fst w77_4; rcases w274_4 with ⟨a, b, c⟩ | ⟨a, b⟩; exact Or.inl ⟨a, by rw [← w77_6]; exact b, by omega⟩; exact Or.inr ⟨a, fun z => b ⟨by rw [w77_6]; exact z.1, by have := z.2; omega⟩⟩)
                have zd8 := mm_cb8 (funext (fun j => f4.2 82 (by decide) j)) (funext (fun j => f4.2 84 (by decide) j)) (funext (fun j => f4.2 85 (by decide) j)) (funext (fun j => f4.2 87 (by decide) j)) (funext (fun j => f4.2 80 (by decide) j)) y47_0 y47_1 (funext (fun j => f47c.2 78 (by decide) j)) zW8 (f47c.1 66 11 (by decide)) (f47c.1 66 12 (by decide)) zc8
                have ze8 : 0 ≤ (mm_WY h p2.toNat).1 ∧ x77_4 = (mm_WY h p2.toNat).2 := (by rw [← zW8, show p2 = x77_6 by omega]; exact ⟨(congrArg Prod.fst w77_4).symm ▸ (show 0 ≤ x77_3 by omega), (congrArg Prod.snd w77_4).symm⟩)
                refine mm_iload C (mm_dec dk_X12_track 146 rfl) rfl ?_
                exact mm_iret C T (mm_dec dk_X12_track 147 rfl) (by decide : 0 ≤ 0) (by decide : 0 ≤ 0) ⟨_, rfl, ⟨⟨by omega, by omega⟩, i7, f7, by first | omega | (have zr := (mm_wY_fr p2 (f47c.1 66 1 (by decide)) (f47c.1 66 2 (by decide)) (f47c.1 66 3 (by decide)) (f47c.1 66 9 (by decide)) (f47c.1 66 10 (by decide)) (f47c.2 67 (by decide)) (f47c.2 68 (by decide)) (f47c.2 69 (by decide)) (f47c.2 70 (by decide)) (f47c.2 71 (by decide)) (f47c.2 101 (by decide))); omega), by first | exact Or.inr ⟨by omega, w33_2⟩ | exact Or.inl ⟨by omega, 0, 0, 0, mm_up_no (by decide) w200_6.1, mm_up_no (by decide) w200_6.2, Or.inl ⟨rfl, zW8 ▸ w200_5⟩⟩ | exact Or.inl ⟨by omega, 1, x77_4, s274_2, mm_up_pa (fun j => zs2.1 j) eh6 (fun j => mm_sm_pa 122 eh7 (by decide) j) rfl rfl, mm_up_pa (fun j => (mm_sm_pa 123 eh6 (by decide) j).trans (zs2.2 j)) eh7 (fun _ => rfl) rfl rfl, Or.inr ⟨rfl, ze8.1, ze8.2, zd8⟩⟩⟩⟩
              have J273 : ∀ (w273_0 : h6.1 66 56 = 0) (w273_1 : (0 ≤ p1 ∧ p1 < h.1 66 23)) (w273_2 : (0 ≤ p2 ∧ p2 ≤ h.1 66 56)) (w273_3 : h6.1 66 0 = 0) (w273_4 : ¬ (x77_5 = h47c.1 66 39 ∧ x77_3 = 20 * h47c.1 66 12 + h47c.1 66 11)), mm_W x 0 0 273 [mU, mU, mU, mU, mI x77_4, mU, mU, mU, mU, mU] [mI p1, mR 123] h6 := by
                intro w273_0 w273_1 w273_2 w273_3 w273_4
                refine mm_iconst C (mm_dec dk_X12_track 144 rfl) ⟨by decide, by decide⟩ ?_
                exact J274 0 ⟨by omega, by omega⟩ (by omega) (by omega) (by omega) (by omega) (by omega) (Or.inl rfl)
              refine mm_icmp_ne (tgt := 273) C (mm_dec dk_X12_track 132 rfl) (by decide) (fun c250 => ?_) (fun c250 => ?_)
              · skip
                refine mm_fgt 0 ?_
                refine mm_fgt 1 ?_
                refine mm_fgt 2 ?_
                refine mm_fgt 3 ?_
                refine mm_fgt 5 ?_
                refine mm_fgt 6 ?_
                exact J273 (by omega) (by omega) (by omega) (by omega) (by omega)
              · skip
                refine mm_iload_n C (mm_dec dk_X12_track 133 rfl) rfl ?_
                refine mm_bipush C (mm_dec dk_X12_track 134 rfl) ⟨by decide, by decide⟩ ?_
                refine mm_aload_n C (mm_dec dk_X12_track 135 rfl) rfl ?_
                refine mm_geti C fl_X12_210 (mm_dec dk_X12_track 136 rfl) rfl rfl (Or.inl rfl) ?_
                refine mm_imul C (mm_dec dk_X12_track 137 rfl) ⟨by omega, by omega⟩ ?_
                refine mm_aload_n C (mm_dec dk_X12_track 138 rfl) rfl ?_
                refine mm_geti C fl_X12_207 (mm_dec dk_X12_track 139 rfl) rfl rfl (Or.inl rfl) ?_
                refine mm_iadd C (mm_dec dk_X12_track 140 rfl) ⟨by omega, by omega⟩ ?_
                refine mm_icmp_ne (tgt := 273) C (mm_dec dk_X12_track 141 rfl) (by decide) (fun c266 => ?_) (fun c266 => ?_)
                · skip
                  refine mm_fgt 0 ?_
                  refine mm_fgt 1 ?_
                  refine mm_fgt 2 ?_
                  refine mm_fgt 3 ?_
                  refine mm_fgt 5 ?_
                  refine mm_fgt 6 ?_
                  exact J273 (by omega) (by omega) (by omega) (by omega) (by omega)
                · skip
                  refine mm_iconst C (mm_dec dk_X12_track 142 rfl) ⟨by decide, by decide⟩ ?_
                  refine mm_goto (tgt := 274) C (mm_dec dk_X12_track 143 rfl) (by decide) ?_
                  refine mm_fgt 0 ?_
                  refine mm_fgt 1 ?_
                  refine mm_fgt 2 ?_
                  refine mm_fgt 3 ?_
                  refine mm_fgt 5 ?_
                  refine mm_fgt 6 ?_
                  exact J274 1 ⟨by omega, by omega⟩ (by omega) (by omega) (by omega) (by omega) (by omega) (Or.inr (⟨by omega, by omega, rfl⟩))
            · skip
              refine mm_aload_n C (mm_dec dk_X12_track 48 rfl) rfl ?_
              refine mm_getr (t := 101) C fl_X12_114 (mm_dec dk_X12_track 49 rfl) rfl rfl (mm_ref i47c rfl) ?_
              refine mm_iload C (mm_dec dk_X12_track 50 rfl) rfl ?_
              refine mm_iald C (mm_dec dk_X12_track 51 rfl) rfl (by omega) (by omega) ?_
              have g70 : -2147483648 ≤ (h47c.2.1 101 x77_6) ∧ (h47c.2.1 101 x77_6) ≤ 2147483647 := i47c.2.1 101 x77_6
              refine mm_istoreL (ls2 := [mR 66, mI p1, mI p2, mI x77_3, mI x77_4, mI x77_5, mI x77_6, mI (h47c.2.1 101 x77_6), mU, mU]) C (mm_dec dk_X12_track 52 rfl) (by decide) rfl ?_
              refine mm_iload C (mm_dec dk_X12_track 53 rfl) rfl ?_
              refine mm_bipush C (mm_dec dk_X12_track 54 rfl) ⟨by decide, by decide⟩ ?_
              have J225 : ∀ (x225_3 : Int) (bx225_3 : 0 ≤ x225_3 ∧ x225_3 ≤ 399) (x225_4 : Int) (bx225_4 : -2147483648 ≤ x225_4 ∧ x225_4 ≤ 2147483647) (x225_5 : Int) (bx225_5 : 0 ≤ x225_5 ∧ x225_5 ≤ 12) (w225_0 : h47c.1 66 56 = 0) (w225_1 : (0 ≤ p1 ∧ p1 < h.1 66 23)) (w225_2 : (0 ≤ p2 ∧ p2 ≤ h.1 66 56)) (w225_3 : h47c.1 66 0 = 0) (w225_4 : mm_wk (mm_by h47c) (mm_sy h47c) (h47c.2.1 101) (20 * h47c.1 66 10 + h47c.1 66 9) (x77_6 + 1).toNat = (x225_3, x225_4)) (w225_5 : x225_5 = mm_me (fun j => h47c.2.1 78 (h47c.2.1 91 j)) (h47c.1 66 39) (fun i => (mm_WY h47c i).1) (x77_6 + 1).toNat), mm_W x 0 0 225 [mR 66, mI p1, mI p2, mI x225_3, mI x225_4, mI x225_5, mI x77_6, mU, mU, mU] [] h47c := by
                intro x225_3 bx225_3 x225_4 bx225_4 x225_5 bx225_5 w225_0 w225_1 w225_2 w225_3 w225_4 w225_5
                refine mm_iincL (ls2 := [mR 66, mI p1, mI p2, mI x225_3, mI x225_4, mI x225_5, mI (x77_6 + 1), mU, mU, mU]) C (mm_dec dk_X12_track 119 rfl) rfl (by decide) ⟨by omega, by omega⟩ rfl ?_
                refine mm_goto (tgt := 77) C (mm_dec dk_X12_track 120 rfl) (by decide) ?_
                exact ih77 x225_3 ⟨by omega, by omega⟩ x225_4 ⟨by omega, by omega⟩ x225_5 ⟨by omega, by omega⟩ (x77_6 + 1) ⟨by omega, by omega⟩ (by omega) (by omega) (by omega) (by omega) (by first | rfl | exact w225_4) (by omega) (by first | exact w225_5 | (rw [y69_0]; rfl)) (by omega)
              refine mm_icmp_eq (tgt := 225) C (mm_dec dk_X12_track 55 rfl) (by decide) (fun c96 => ?_) (fun c96 => ?_)
              · skip
                refine mm_fgt 7 ?_
                exact J225 x77_3 ⟨by omega, by omega⟩ x77_4 ⟨by omega, by omega⟩ x77_5 ⟨by omega, by omega⟩ (by omega) (by omega) (by omega) (by omega) (by first | exact mm_wk_skip w77_4 (by omega) (by omega) (mm_mv_x (by omega)) | exact mm_wk_go w77_4 (by omega) (by omega) w154_4 (by omega) (by omega) zb (by omega) (by rw [y207_0])) (by first | (rw [mm_me_skip (by omega) (show (mm_WY h47c (x77_6 + 1).toNat).1 = (mm_WY h47c x77_6.toNat).1 from by (have e1 : (mm_WY h47c x77_6.toNat).1 = x77_3 := congrArg Prod.fst w77_4; have e2 : (mm_WY h47c (x77_6 + 1).toNat).1 = x77_3 := congrArg Prod.fst (mm_wk_skip w77_4 (by omega) (by omega) (mm_mv_x (by omega))); omega))]; exact w77_6) | (rw [y220_0, w77_6]; exact mm_me_go (by omega) (congrArg Prod.fst (mm_wk_go w77_4 (by omega) (by omega) w154_4 (by omega) (by omega) zb (by omega) rfl))))
              · skip
                refine mm_iload C (mm_dec dk_X12_track 56 rfl) rfl ?_
                refine mm_bipush C (mm_dec dk_X12_track 57 rfl) ⟨by decide, by decide⟩ ?_
                refine mm_icmp_ne (tgt := 109) C (mm_dec dk_X12_track 58 rfl) (by decide) (fun c103 => ?_) (fun c103 => ?_)
                · skip
                  refine mm_iload C (mm_dec dk_X12_track 60 rfl) rfl ?_
                  refine mm_bipush C (mm_dec dk_X12_track 61 rfl) ⟨by decide, by decide⟩ ?_
                  have J154 : ∀ (s154_0 : Int) (bs154_0 : -1 ≤ s154_0 ∧ s154_0 ≤ 3) (w154_0 : h47c.1 66 56 = 0) (w154_1 : (0 ≤ p1 ∧ p1 < h.1 66 23)) (w154_2 : (0 ≤ p2 ∧ p2 ≤ h.1 66 56)) (w154_3 : h47c.1 66 0 = 0) (w154_4 : mm_mv (h47c.2.1 101 x77_6) = s154_0), mm_W x 0 0 154 [mR 66, mI p1, mI p2, mI x77_3, mI x77_4, mI x77_5, mI x77_6, mU, mU, mU] [mI s154_0] h47c := by
                    intro s154_0 bs154_0 w154_0 w154_1 w154_2 w154_3 w154_4
                    refine mm_istoreL (ls2 := [mR 66, mI p1, mI p2, mI x77_3, mI x77_4, mI x77_5, mI x77_6, mU, mI s154_0, mU]) C (mm_dec dk_X12_track 81 rfl) (by decide) rfl ?_
                    refine mm_iload C (mm_dec dk_X12_track 82 rfl) rfl ?_
                    refine mm_iconst C (mm_dec dk_X12_track 83 rfl) ⟨by decide, by decide⟩ ?_
                    have J173 : ∀ (s173_0 : Int) (bs173_0 : -1 ≤ s173_0 ∧ s173_0 ≤ 399) (w173_0 : h47c.1 66 56 = 0) (w173_1 : (0 ≤ p1 ∧ p1 < h.1 66 23)) (w173_2 : (0 ≤ p2 ∧ p2 ≤ h.1 66 56)) (w173_3 : h47c.1 66 0 = 0) (w173_4 : ((s154_0 = -1 ∧ s173_0 = -1) ∨ (s154_0 ≠ -1 ∧ s173_0 = mm_by h47c x77_3 s154_0))), mm_W x 0 0 173 [mR 66, mI p1, mI p2, mI x77_3, mI x77_4, mI x77_5, mI x77_6, mU, mI s154_0, mU] [mI s173_0] h47c := by
                      intro s173_0 bs173_0 w173_0 w173_1 w173_2 w173_3 w173_4
                      refine mm_istoreL (ls2 := [mR 66, mI p1, mI p2, mI x77_3, mI x77_4, mI x77_5, mI x77_6, mU, mI s154_0, mI s173_0]) C (mm_dec dk_X12_track 91 rfl) (by decide) rfl ?_
                      refine mm_iload C (mm_dec dk_X12_track 92 rfl) rfl ?_
                      refine mm_iconst C (mm_dec dk_X12_track 93 rfl) ⟨by decide, by decide⟩ ?_
                      refine mm_icmp_ne (tgt := 201) C (mm_dec dk_X12_track 94 rfl) (by decide) (fun c178 => ?_) (fun c178 => ?_)
                      · skip
                        have zb : mm_by h47c x77_3 s154_0 = s173_0 := by omega
                        refine mm_iload C (mm_dec dk_X12_track 105 rfl) rfl ?_
                        refine mm_aload_n C (mm_dec dk_X12_track 106 rfl) rfl ?_
                        refine mm_iload_n C (mm_dec dk_X12_track 107 rfl) rfl ?_
                        refine mm_iload C (mm_dec dk_X12_track 108 rfl) rfl ?_
                        refine mm_cVi (rest := [mI x77_4]) C1 ev_X12_275 (mm_dec dk_X12_track 109 rfl) (c_X12_seconds_q x.2.1 hl (d - 1) (by omega) h47c i47c x77_3 s173_0 ⟨by omega, by omega⟩ ⟨by omega, by omega⟩) rfl rfl (Nat.le_of_ble_eq_true rfl) ⟨by decide, by decide⟩ rfl (fun r207 h207c hp207 => ?_) (fun _ _ q => q.elim)
                        obtain ⟨b207, z207, y207_0⟩ := hp207
                        rw [z207]
                        refine mm_iaddw C (mm_dec dk_X12_track 110 rfl) ?_
                        have g72 : -2147483648 ≤ (mm_w (x77_4 + r207)) ∧ (mm_w (x77_4 + r207)) < 2147483648 := mm_w_rg _
                        refine mm_istoreL (ls2 := [mR 66, mI p1, mI p2, mI x77_3, mI (mm_w (x77_4 + r207)), mI x77_5, mI x77_6, mU, mI s154_0, mI s173_0]) C (mm_dec dk_X12_track 111 rfl) (by decide) rfl ?_
                        refine mm_iload C (mm_dec dk_X12_track 112 rfl) rfl ?_
                        refine mm_istore_nL (ls2 := [mR 66, mI p1, mI p2, mI s173_0, mI (mm_w (x77_4 + r207)), mI x77_5, mI x77_6, mU, mI s154_0, mI s173_0]) C (mm_dec dk_X12_track 113 rfl) (by decide) rfl ?_
                        refine mm_aload_n C (mm_dec dk_X12_track 114 rfl) rfl ?_
                        refine mm_iload C (mm_dec dk_X12_track 115 rfl) rfl ?_
                        refine mm_iload_n C (mm_dec dk_X12_track 116 rfl) rfl ?_
                        refine mm_cVi (rest := []) C1 ev_X12_539 (mm_dec dk_X12_track 117 rfl) (c_X12_comesBy_q x.2.1 hl (d - 1) (by omega) h47c i47c x77_5 s173_0 ⟨by omega, by omega⟩) rfl rfl (Nat.le_of_ble_eq_true rfl) ⟨by decide, by decide⟩ rfl (fun r220 h220c hp220 => ?_) (fun _ _ q => q.elim)
                        obtain ⟨b220, z220, y220_0⟩ := hp220
                        rw [z220]
                        refine mm_istoreL (ls2 := [mR 66, mI p1, mI p2, mI s173_0, mI (mm_w (x77_4 + r207)), mI r220, mI x77_6, mU, mI s154_0, mI s173_0]) C (mm_dec dk_X12_track 118 rfl) (by decide) rfl ?_
                        refine mm_fgt 8 ?_
                        refine mm_fgt 9 ?_
                        exact J225 s173_0 ⟨by omega, by omega⟩ (mm_w (x77_4 + r207)) ⟨by omega, by omega⟩ r220 ⟨by omega, by omega⟩ (by omega) (by omega) (by omega) (by omega) (by first | exact mm_wk_skip w77_4 (by omega) (by omega) (mm_mv_x (by omega)) | exact mm_wk_go w77_4 (by omega) (by omega) w154_4 (by omega) (by omega) zb (by omega) (by rw [y207_0])) (by first | (rw [mm_me_skip (by omega) (show (mm_WY h47c (x77_6 + 1).toNat).1 = (mm_WY h47c x77_6.toNat).1 from by (have e1 : (mm_WY h47c x77_6.toNat).1 = x77_3 := congrArg Prod.fst w77_4; have e2 : (mm_WY h47c (x77_6 + 1).toNat).1 = x77_3 := congrArg Prod.fst (mm_wk_skip w77_4 (by omega) (by omega) (mm_mv_x (by omega))); omega))]; exact w77_6) | (rw [y220_0, w77_6]; exact mm_me_go (by omega) (congrArg Prod.fst (mm_wk_go w77_4 (by omega) (by omega) w154_4 (by omega) (by omega) zb (by omega) rfl))))
                      · skip
                        have zn8 : (mm_WY h47c (x77_6 + 1).toNat).1 < 0 := mm_wk_fn w77_4 (by omega) (by omega) w154_4 (by omega) (by omega)
                        refine mm_aload_n C (mm_dec dk_X12_track 95 rfl) rfl ?_
                        refine mm_iload C (mm_dec dk_X12_track 96 rfl) rfl ?_
                        refine mm_puti C fl_X12_237 (mm_dec dk_X12_track 97 rfl) rfl rfl rfl (Or.inl ⟨rfl, rfl⟩) ?_
                        have i8 : mm_inv (mm_pf h47c 66 58 x77_6) := mm_inv_pf i47c (show -2147483648 ≤ x77_6 ∧ x77_6 ≤ 2147483647 from ⟨by omega, by omega⟩) (by decide)
                        have f8 : mm_fr [(66, 0), (66, 39), (66, 56), (66, 58)] [91, 122, 123] h (mm_pf h47c 66 58 x77_6) := mm_fr_pf f47c (by decide)
                        obtain ⟨h8, eh8⟩ : ∃ z, z = mm_pf h47c 66 58 x77_6 := ⟨_, rfl⟩
                        rw [← eh8] at i8 f8 ⊢
                        have qh8 : h8.1 66 58 = x77_6 := by rw [eh8]; exact mm_pf_same _ _ _ _
                        have qh8_74 : h8.1 66 0 = h47c.1 66 0 := by rw [eh8]; exact mm_pf_ne _ _ (by decide)
                        have qh8_75 : h8.1 66 9 = h47c.1 66 9 := by rw [eh8]; exact mm_pf_ne _ _ (by decide)
                        have qh8_76 : h8.1 66 10 = h47c.1 66 10 := by rw [eh8]; exact mm_pf_ne _ _ (by decide)
                        have qh8_77 : h8.1 66 11 = h47c.1 66 11 := by rw [eh8]; exact mm_pf_ne _ _ (by decide)
                        have qh8_78 : h8.1 66 12 = h47c.1 66 12 := by rw [eh8]; exact mm_pf_ne _ _ (by decide)
                        have qh8_79 : h8.1 66 23 = h47c.1 66 23 := by rw [eh8]; exact mm_pf_ne _ _ (by decide)
                        have qh8_80 : h8.1 66 39 = h47c.1 66 39 := by rw [eh8]; exact mm_pf_ne _ _ (by decide)
                        have qh8_81 : h8.1 66 56 = h47c.1 66 56 := by rw [eh8]; exact mm_pf_ne _ _ (by decide)
                        refine mm_iload C (mm_dec dk_X12_track 98 rfl) rfl ?_
                        refine mm_iconst C (mm_dec dk_X12_track 99 rfl) ⟨by decide, by decide⟩ ?_
                        have J200 : ∀ (s200_0 : Int) (bs200_0 : -3 ≤ s200_0 ∧ s200_0 ≤ -2) (w200_0 : h8.1 66 56 = 0) (w200_1 : (0 ≤ p1 ∧ p1 < h.1 66 23)) (w200_2 : (0 ≤ p2 ∧ p2 ≤ h.1 66 56)) (w200_3 : h8.1 66 0 = 0) (w200_4 : s200_0 = mm_wY h47c p2) (w200_5 : (mm_WY h47c p2.toNat).1 < 0) (w200_6 : mm_s2 h h8) (vs200_0 : (s154_0 ≠ (-1) ∧ s200_0 = -3) ∨ (s154_0 = (-1) ∧ s200_0 = -2)), mm_W x 0 0 200 [mU, mU, mU, mU, mU, mU, mU, mU, mU, mU] [mI s200_0] h8 := by
                          intro s200_0 bs200_0 w200_0 w200_1 w200_2 w200_3 w200_4 w200_5 w200_6 vs200_0
                          exact mm_iret C T (mm_dec dk_X12_track 104 rfl) (by decide : 0 ≤ 0) (by decide : 0 ≤ 0) ⟨_, rfl, ⟨⟨by omega, by omega⟩, i8, f8, by first | omega | (have zr := (mm_wY_fr p2 (f47c.1 66 1 (by decide)) (f47c.1 66 2 (by decide)) (f47c.1 66 3 (by decide)) (f47c.1 66 9 (by decide)) (f47c.1 66 10 (by decide)) (f47c.2 67 (by decide)) (f47c.2 68 (by decide)) (f47c.2 69 (by decide)) (f47c.2 70 (by decide)) (f47c.2 71 (by decide)) (f47c.2 101 (by decide))); omega), by first | exact Or.inr ⟨by omega, w33_2⟩ | exact Or.inl ⟨by omega, 0, 0, 0, mm_up_no (by decide) w200_6.1, mm_up_no (by decide) w200_6.2, Or.inl ⟨rfl, zW8 ▸ w200_5⟩⟩ | exact Or.inl ⟨by omega, 1, x77_4, s274_2, mm_up_pa (fun j => zs2.1 j) eh6 (fun j => mm_sm_pa 122 eh7 (by decide) j) rfl rfl, mm_up_pa (fun j => (mm_sm_pa 123 eh6 (by decide) j).trans (zs2.2 j)) eh7 (fun _ => rfl) rfl rfl, Or.inr ⟨rfl, ze8.1, ze8.2, zd8⟩⟩⟩⟩
                        refine mm_icmp_ne (tgt := 198) C (mm_dec dk_X12_track 100 rfl) (by decide) (fun c190 => ?_) (fun c190 => ?_)
                        · skip
                          refine mm_bipush C (mm_dec dk_X12_track 103 rfl) ⟨by decide, by decide⟩ ?_
                          refine mm_fgt 0 ?_
                          refine mm_fgt 1 ?_
                          refine mm_fgt 2 ?_
                          refine mm_fgt 3 ?_
                          refine mm_fgt 4 ?_
                          refine mm_fgt 5 ?_
                          refine mm_fgt 6 ?_
                          refine mm_fgt 8 ?_
                          refine mm_fgt 9 ?_
                          exact J200 (-3) ⟨by omega, by omega⟩ (by omega) (by omega) (by omega) (by omega) (by first | exact mm_wk_f2 w77_4 (by omega) (by omega) (by omega) (by omega) | exact mm_wk_f3 w77_4 (by omega) (by omega) w154_4 (by omega) (by omega) (by omega) (by omega)) (by exact (show (mm_WY h47c p2.toNat).1 < 0 from (show mm_WY h47c p2.toNat = mm_WY h47c (x77_6 + 1).toNat from mm_wk_stay zn8 (by omega)) ▸ zn8)) (by first | exact mm_s2_pf zs2 (by assumption) | assumption) (Or.inl ⟨by omega, rfl⟩)
                        · skip
                          refine mm_bipush C (mm_dec dk_X12_track 101 rfl) ⟨by decide, by decide⟩ ?_
                          refine mm_goto (tgt := 200) C (mm_dec dk_X12_track 102 rfl) (by decide) ?_
                          refine mm_fgt 0 ?_
                          refine mm_fgt 1 ?_
                          refine mm_fgt 2 ?_
                          refine mm_fgt 3 ?_
                          refine mm_fgt 4 ?_
                          refine mm_fgt 5 ?_
                          refine mm_fgt 6 ?_
                          refine mm_fgt 8 ?_
                          refine mm_fgt 9 ?_
                          exact J200 (-2) ⟨by omega, by omega⟩ (by omega) (by omega) (by omega) (by omega) (by first | exact mm_wk_f2 w77_4 (by omega) (by omega) (by omega) (by omega) | exact mm_wk_f3 w77_4 (by omega) (by omega) w154_4 (by omega) (by omega) (by omega) (by omega)) (by exact (show (mm_WY h47c p2.toNat).1 < 0 from (show mm_WY h47c p2.toNat = mm_WY h47c (x77_6 + 1).toNat from mm_wk_stay zn8 (by omega)) ▸ zn8)) (by first | exact mm_s2_pf zs2 (by assumption) | assumption) (Or.inr (⟨by omega, rfl⟩))
                    refine mm_icmp_ne (tgt := 166) C (mm_dec dk_X12_track 84 rfl) (by decide) (fun c159 => ?_) (fun c159 => ?_)
                    · skip
                      refine mm_aload_n C (mm_dec dk_X12_track 87 rfl) rfl ?_
                      refine mm_iload_n C (mm_dec dk_X12_track 88 rfl) rfl ?_
                      refine mm_iload C (mm_dec dk_X12_track 89 rfl) rfl ?_
                      refine mm_cVi (rest := []) C1 ev_X12_271 (mm_dec dk_X12_track 90 rfl) (c_X12_leads_q x.2.1 hl (d - 1) (by omega) h47c i47c x77_3 s154_0 ⟨by omega, by omega⟩ ⟨by omega, by omega⟩) rfl rfl (Nat.le_of_ble_eq_true rfl) ⟨by decide, by decide⟩ rfl (fun r170 h170c hp170 => ?_) (fun _ _ q => q.elim)
                      obtain ⟨b170, z170, y170_0⟩ := hp170
                      rw [z170]
                      exact J173 r170 ⟨by omega, by omega⟩ (by omega) (by omega) (by omega) (by omega) (by omega)
                    · skip
                      refine mm_iconst C (mm_dec dk_X12_track 85 rfl) ⟨by decide, by decide⟩ ?_
                      refine mm_goto (tgt := 173) C (mm_dec dk_X12_track 86 rfl) (by decide) ?_
                      exact J173 (-1) ⟨by omega, by omega⟩ (by omega) (by omega) (by omega) (by omega) (by omega)
                  refine mm_icmp_ne (tgt := 120) C (mm_dec dk_X12_track 62 rfl) (by decide) (fun c113 => ?_) (fun c113 => ?_)
                  · skip
                    refine mm_iload C (mm_dec dk_X12_track 65 rfl) rfl ?_
                    refine mm_bipush C (mm_dec dk_X12_track 66 rfl) ⟨by decide, by decide⟩ ?_
                    refine mm_icmp_ne (tgt := 131) C (mm_dec dk_X12_track 67 rfl) (by decide) (fun c124 => ?_) (fun c124 => ?_)
                    · skip
                      refine mm_iload C (mm_dec dk_X12_track 70 rfl) rfl ?_
                      refine mm_bipush C (mm_dec dk_X12_track 71 rfl) ⟨by decide, by decide⟩ ?_
                      refine mm_icmp_ne (tgt := 142) C (mm_dec dk_X12_track 72 rfl) (by decide) (fun c135 => ?_) (fun c135 => ?_)
                      · skip
                        refine mm_iload C (mm_dec dk_X12_track 75 rfl) rfl ?_
                        refine mm_bipush C (mm_dec dk_X12_track 76 rfl) ⟨by decide, by decide⟩ ?_
                        refine mm_icmp_ne (tgt := 153) C (mm_dec dk_X12_track 77 rfl) (by decide) (fun c146 => ?_) (fun c146 => ?_)
                        · skip
                          refine mm_iconst C (mm_dec dk_X12_track 80 rfl) ⟨by decide, by decide⟩ ?_
                          refine mm_fgt 7 ?_
                          exact J154 (-1) ⟨by omega, by omega⟩ (by omega) (by omega) (by omega) (by omega) (by exact mm_mv_x (by omega))
                        · skip
                          refine mm_iconst C (mm_dec dk_X12_track 78 rfl) ⟨by decide, by decide⟩ ?_
                          refine mm_goto (tgt := 154) C (mm_dec dk_X12_track 79 rfl) (by decide) ?_
                          refine mm_fgt 7 ?_
                          exact J154 3 ⟨by omega, by omega⟩ (by omega) (by omega) (by omega) (by omega) (by exact mm_mv_x (by omega))
                      · skip
                        refine mm_iconst C (mm_dec dk_X12_track 73 rfl) ⟨by decide, by decide⟩ ?_
                        refine mm_goto (tgt := 154) C (mm_dec dk_X12_track 74 rfl) (by decide) ?_
                        refine mm_fgt 7 ?_
                        exact J154 2 ⟨by omega, by omega⟩ (by omega) (by omega) (by omega) (by omega) (by exact mm_mv_x (by omega))
                    · skip
                      refine mm_iconst C (mm_dec dk_X12_track 68 rfl) ⟨by decide, by decide⟩ ?_
                      refine mm_goto (tgt := 154) C (mm_dec dk_X12_track 69 rfl) (by decide) ?_
                      refine mm_fgt 7 ?_
                      exact J154 1 ⟨by omega, by omega⟩ (by omega) (by omega) (by omega) (by omega) (by exact mm_mv_x (by omega))
                  · skip
                    refine mm_iconst C (mm_dec dk_X12_track 63 rfl) ⟨by decide, by decide⟩ ?_
                    refine mm_goto (tgt := 154) C (mm_dec dk_X12_track 64 rfl) (by decide) ?_
                    refine mm_fgt 7 ?_
                    exact J154 0 ⟨by omega, by omega⟩ (by omega) (by omega) (by omega) (by omega) (by exact mm_mv_x (by omega))
                · skip
                  refine mm_goto (tgt := 225) C (mm_dec dk_X12_track 59 rfl) (by decide) ?_
                  refine mm_fgt 7 ?_
                  exact J225 x77_3 ⟨by omega, by omega⟩ x77_4 ⟨by omega, by omega⟩ x77_5 ⟨by omega, by omega⟩ (by omega) (by omega) (by omega) (by omega) (by first | exact mm_wk_skip w77_4 (by omega) (by omega) (mm_mv_x (by omega)) | exact mm_wk_go w77_4 (by omega) (by omega) w154_4 (by omega) (by omega) zb (by omega) (by rw [y207_0])) (by first | (rw [mm_me_skip (by omega) (show (mm_WY h47c (x77_6 + 1).toNat).1 = (mm_WY h47c x77_6.toNat).1 from by (have e1 : (mm_WY h47c x77_6.toNat).1 = x77_3 := congrArg Prod.fst w77_4; have e2 : (mm_WY h47c (x77_6 + 1).toNat).1 = x77_3 := congrArg Prod.fst (mm_wk_skip w77_4 (by omega) (by omega) (mm_mv_x (by omega))); omega))]; exact w77_6) | (rw [y220_0, w77_6]; exact mm_me_go (by omega) (congrArg Prod.fst (mm_wk_go w77_4 (by omega) (by omega) w154_4 (by omega) (by omega) zb (by omega) rfl))))
        refine mm_istoreL (ls2 := [mR 66, mI p1, mI p2, mI ((20 * (h47c.1 66 10)) + (h47c.1 66 9)), mI 0, mI r69, mI 0, mU, mU, mU]) C (mm_dec dk_X12_track 44 rfl) (by decide) rfl ?_
        exact J77 (((2147483647 - 0) : Int) + 1).toNat ((20 * (h47c.1 66 10)) + (h47c.1 66 9)) ⟨by omega, by omega⟩ 0 ⟨by omega, by omega⟩ r69 ⟨by omega, by omega⟩ 0 ⟨by omega, by omega⟩ (by omega) (by omega) (by omega) (by omega) (by first | rfl | exact w225_4) (by omega) (by first | exact w225_5 | (rw [y69_0]; rfl)) (by omega)
      · skip
        refine mm_fgt 0 ?_
        refine mm_fgt 1 ?_
        refine mm_fgt 2 ?_
        exact J33 h27c i27c f27c (by omega) (by omega) (by first | exact mm_s2_tr w26_4 (mm_s2_fr g27c (by decide) (by decide)) | exact mm_s2_fr g2c (by decide) (by decide))
    have J25 : ∀ (w25_0 : (0 ≤ p1 ∧ p1 < h.1 66 23)) (w25_1 : (p2 < 0 ∨ h.1 66 56 < p2)) (w25_2 : h2c.1 66 0 = 0) (w25_3 : h2c.1 66 56 = h.1 66 56) (w25_4 : mm_s2 h h2c), mm_W x 0 0 25 [mR 66, mI p1, mI p2, mU, mU, mU, mU, mU, mU, mU] [mR 66] h2c := by
      intro w25_0 w25_1 w25_2 w25_3 w25_4
      refine mm_iconst C (mm_dec dk_X12_track 13 rfl) ⟨by decide, by decide⟩ ?_
      exact J26 0 ⟨by omega, by omega⟩ (by omega) (by omega) (by omega) (by omega) (by first | exact w25_4 | exact mm_s2_fr g2c (by decide) (by decide)) (Or.inl rfl)
    refine mm_if_lt (tgt := 25) C (mm_dec dk_X12_track 6 rfl) (by decide) (fun c10 => ?_) (fun c10 => ?_)
    · skip
      exact J25 (by omega) (by omega) (by omega) (by omega) (by exact mm_s2_fr g2c (by decide) (by decide))
    · skip
      refine mm_iload_n C (mm_dec dk_X12_track 7 rfl) rfl ?_
      refine mm_aload_n C (mm_dec dk_X12_track 8 rfl) rfl ?_
      refine mm_geti C fl_X12_350 (mm_dec dk_X12_track 9 rfl) rfl rfl (Or.inl rfl) ?_
      refine mm_icmp_gt (tgt := 25) C (mm_dec dk_X12_track 10 rfl) (by decide) (fun c18 => ?_) (fun c18 => ?_)
      · skip
        exact J25 (by omega) (by omega) (by omega) (by omega) (by exact mm_s2_fr g2c (by decide) (by decide))
      · skip
        refine mm_iconst C (mm_dec dk_X12_track 11 rfl) ⟨by decide, by decide⟩ ?_
        refine mm_goto (tgt := 26) C (mm_dec dk_X12_track 12 rfl) (by decide) ?_
        exact J26 1 ⟨by omega, by omega⟩ (by omega) (by omega) (by omega) (by omega) (by first | exact w25_4 | exact mm_s2_fr g2c (by decide) (by decide)) (Or.inr (⟨by omega, by omega, rfl⟩))
set_option maxRecDepth 100000 in
set_option maxHeartbeats 4000000 in
theorem c_X9_trackSeconds_q (l : Launch) (hl : l.stackTraces = false) (d : Nat) (hd : 0 ≤ d) (h : mH) (i0 : mm_inv h) (p1 : Int) (bp1 : 0 ≤ p1 ∧ p1 ≤ 39) : mm_Met l d yX9_trackSeconds cX9_trackSeconds 2 (some .int) [mR 22, mI p1] h (mm_pi fun r h2 => h2 = h ∧ (r = (h.2.1 26 p1))) mm_nx 0 0 := by
  refine mm_ofW (ls := [mR 22, mI p1]) hl (by decide) rfl (Nat.le_of_ble_eq_true rfl) ?_
  intro x hxl C T hnm htb
  subst hxl
  refine mm_rng (fun hr _ => ?_)
  have ap1 : -2147483648 ≤ p1 ∧ p1 < 2147483648 := mm_ok_at hr (i := 1) rfl
  have f0 : mm_fr [] [] h h := mm_fr_rf
  refine mm_aload_n C (mm_dec dk_X9_trackSeconds 0 rfl) rfl ?_
  refine mm_getr (t := 26) C fl_X9_21 (mm_dec dk_X9_trackSeconds 1 rfl) rfl rfl (mm_ref i0 rfl) ?_
  refine mm_iload_n C (mm_dec dk_X9_trackSeconds 2 rfl) rfl ?_
  refine mm_iald C (mm_dec dk_X9_trackSeconds 3 rfl) rfl (by omega) (by omega) ?_
  have g1 : -2147483648 ≤ (h.2.1 26 p1) ∧ (h.2.1 26 p1) ≤ 2147483647 := i0.2.1 26 p1
  exact mm_iret C T (mm_dec dk_X9_trackSeconds 4 rfl) (by decide : 0 ≤ 0) (by decide : 0 ≤ 0) ⟨_, rfl, ⟨rfl, rfl⟩⟩
set_option maxRecDepth 100000 in
set_option maxHeartbeats 4000000 in
theorem c_X11_lost_q (l : Launch) (hl : l.stackTraces = false) (d : Nat) (hd : 9 ≤ d) (h : mH) (i0 : mm_inv h) (p1 : Int) : mm_Met l d yX11_lost cX11_lost 4 (some .int) [mR 0, mI p1] h (mm_pi fun r h2 => (-2147483648 ≤ r ∧ r ≤ 2147483647) ∧ mm_inv h2 ∧ mm_fr [(7, 7), (7, 8)] [8, 9, 10, 11, 61] h h2 ∧ (0 ≤ p1 ∧ p1 < h.1 22 8) ∧ mm_lo9 h p1 r) (fun E h' => mm_xn h E h' ∧ (p1 < 0 ∨ h.1 22 8 ≤ p1)) 1 6 := by
  refine mm_ofW (ls := [mR 0, mI p1, mU, mU]) hl (by decide) rfl (Nat.le_of_ble_eq_true rfl) ?_
  intro x hxl C T hnm htb
  subst hxl
  have C1 := mm_OK_le (d' := d - 1 + 1) (by omega) C
  have C8 := mm_OK_le (d' := d - 8 + 8) (by omega) C
  refine mm_rng (fun hr _ => ?_)
  have ap1 : -2147483648 ≤ p1 ∧ p1 < 2147483648 := mm_ok_at hr (i := 1) rfl
  have f0 : mm_fr [(7, 7), (7, 8)] [8, 9, 10, 11, 61] h h := mm_fr_rf
  refine mm_aload_n C (mm_dec dk_X11_lost 0 rfl) rfl ?_
  refine mm_iload_n C (mm_dec dk_X11_lost 1 rfl) rfl ?_
  refine mm_cVv (rest := []) C1 ev_X11_235 (mm_dec dk_X11_lost 2 rfl) (c_X11_needRunner_q x.2.1 hl (d - 1) (by omega) h i0 p1) rfl rfl (Nat.le_of_ble_eq_true rfl) ⟨by decide, by decide⟩ rfl (fun h2c hp2 => ?_) (fun E hx q => mm_out C T htb (by decide) (by decide) (by obtain ⟨q1, q2⟩ := q; exact ⟨q1, by omega⟩))
  obtain ⟨z2, k2_0, k2_1⟩ := hp2
  rw [z2]
  have g2 : 0 ≤ (h.1 22 8) ∧ (h.1 22 8) ≤ 40 := i0.1 22 8
  refine mm_aload_n C (mm_dec dk_X11_lost 3 rfl) rfl ?_
  refine mm_getr (t := 22) C fl_X11_37 (mm_dec dk_X11_lost 4 rfl) rfl rfl (mm_ref i0 rfl) ?_
  refine mm_iload_n C (mm_dec dk_X11_lost 5 rfl) rfl ?_
  refine mm_cVi (rest := []) C1 ev_X11_387 (mm_dec dk_X11_lost 6 rfl) (c_X9_trackSeconds_q x.2.1 hl (d - 1) (by omega) h i0 p1 ⟨by omega, by omega⟩) rfl rfl (Nat.le_of_ble_eq_true rfl) ⟨by decide, by decide⟩ rfl (fun r10 h10c hp10 => ?_) (fun _ _ q => q.elim)
  obtain ⟨z10, y10⟩ := hp10
  rw [z10, y10]
  have g4 : -2147483648 ≤ (h.2.1 26 p1) ∧ (h.2.1 26 p1) ≤ 2147483647 := i0.2.1 26 p1
  refine mm_istore_nL (ls2 := [mR 0, mI p1, mI (h.2.1 26 p1), mU]) C (mm_dec dk_X11_lost 7 rfl) (by decide) rfl ?_
  refine mm_iload_n C (mm_dec dk_X11_lost 8 rfl) rfl ?_
  refine mm_iconst C (mm_dec dk_X11_lost 9 rfl) ⟨by decide, by decide⟩ ?_
  refine mm_icmp_ne (tgt := 23) C (mm_dec dk_X11_lost 10 rfl) (by decide) (fun c16 => ?_) (fun c16 => ?_)
  · skip
    refine mm_aload_n C (mm_dec dk_X11_lost 13 rfl) rfl ?_
    refine mm_iload_n C (mm_dec dk_X11_lost 14 rfl) rfl ?_
    refine mm_cVi (rest := []) C1 ev_X11_241 (mm_dec dk_X11_lost 15 rfl) (c_X11_lengthOf_q x.2.1 hl (d - 1) (by omega) h i0 p1 ⟨by omega, by omega⟩) rfl rfl (Nat.le_of_ble_eq_true rfl) ⟨by decide, by decide⟩ rfl (fun r25 h25c hp25 => ?_) (fun _ _ q => q.elim)
    obtain ⟨b25, i25c, g25c, y25_0⟩ := hp25
    have f25c : mm_fr [(7, 7), (7, 8)] [8, 9, 10, 11, 61] h h25c := mm_fr_tr f0 g25c (by decide +kernel)
    have q25c_6 : h25c.1 22 8 = h.1 22 8 := g25c.1 22 8 (by decide)
    refine mm_istore_nL (ls2 := [mR 0, mI p1, mI (h.2.1 26 p1), mI r25]) C (mm_dec dk_X11_lost 16 rfl) (by decide) rfl ?_
    refine mm_iload_n C (mm_dec dk_X11_lost 17 rfl) rfl ?_
    refine mm_iconst C (mm_dec dk_X11_lost 18 rfl) ⟨by decide, by decide⟩ ?_
    have J43 : ∀ (s43_0 : Int) (bs43_0 : -2147483648 ≤ s43_0 ∧ s43_0 ≤ 2147483647) (w43_0 : mm_ls (h.2.1 26 p1) r25 s43_0), mm_W x 1 6 43 [mU, mU, mU, mU] [mI s43_0] h25c := by
      intro s43_0 bs43_0 w43_0
      exact mm_iret C T (mm_dec dk_X11_lost 25 rfl) (by decide : 1 ≤ 1) (by decide : 6 ≤ 6) ⟨_, rfl, ⟨⟨by omega, by omega⟩, i25c, f25c, by omega, by first | exact Or.inl ⟨by omega, rfl⟩ | exact Or.inr ⟨by omega, r25, y25_0, w43_0⟩⟩⟩
    refine mm_icmp_ne (tgt := 40) C (mm_dec dk_X11_lost 19 rfl) (by decide) (fun c31 => ?_) (fun c31 => ?_)
    · skip
      refine mm_iload_n C (mm_dec dk_X11_lost 22 rfl) rfl ?_
      refine mm_iload_n C (mm_dec dk_X11_lost 23 rfl) rfl ?_
      refine mm_isubw C (mm_dec dk_X11_lost 24 rfl) ?_
      have g7 : -2147483648 ≤ (mm_w ((h.2.1 26 p1) - r25)) ∧ (mm_w ((h.2.1 26 p1) - r25)) < 2147483648 := mm_w_rg _
      refine mm_fgt 0 ?_
      refine mm_fgt 1 ?_
      refine mm_fgt 2 ?_
      refine mm_fgt 3 ?_
      exact J43 (mm_w ((h.2.1 26 p1) - r25)) ⟨by omega, by omega⟩ (by first | exact Or.inl ⟨by omega, rfl⟩ | exact Or.inr ⟨by omega, rfl⟩ | exact Or.inr ⟨by omega, (mm_w_id ⟨by omega, by omega⟩).symm⟩)
    · skip
      refine mm_ldcw (z := -100000) C (mm_dec dk_X11_lost 20 rfl) kc_X11_308 (by decide) ?_
      refine mm_goto (tgt := 43) C (mm_dec dk_X11_lost 21 rfl) (by decide) ?_
      refine mm_fgt 0 ?_
      refine mm_fgt 1 ?_
      refine mm_fgt 2 ?_
      refine mm_fgt 3 ?_
      exact J43 (-100000) ⟨by omega, by omega⟩ (by first | exact Or.inl ⟨by omega, rfl⟩ | exact Or.inr ⟨by omega, rfl⟩ | exact Or.inr ⟨by omega, (mm_w_id ⟨by omega, by omega⟩).symm⟩)
  · skip
    refine mm_ldcw (z := -100000) C (mm_dec dk_X11_lost 11 rfl) kc_X11_308 (by decide) ?_
    exact mm_iret C T (mm_dec dk_X11_lost 12 rfl) (by decide : 1 ≤ 1) (by decide : 6 ≤ 6) ⟨_, rfl, ⟨⟨by omega, by omega⟩, i0, f0, by omega, by first | exact Or.inl ⟨by omega, rfl⟩ | exact Or.inr ⟨by omega, r25, y25_0, w43_0⟩⟩⟩
set_option maxRecDepth 100000 in
set_option maxHeartbeats 4000000 in
theorem c_X12_lost_q (l : Launch) (hl : l.stackTraces = false) (d : Nat) (hd : 5 ≤ d) (h : mH) (i0 : mm_inv h) (p1 : Int) : mm_Met l d yX12_lost cX12_lost 3 (some .int) [mR 66, mI p1] h (mm_pi fun r h2 => (-2147483648 ≤ r ∧ r ≤ 2147483647) ∧ mm_inv h2 ∧ mm_fr [(66, 0), (66, 18), (66, 39)] [72, 73, 75, 76, 91] h h2 ∧ ((0 ≤ p1 ∧ p1 < h.1 66 23 ∧ h2.1 66 0 = 0 ∧ mm_lo8 h p1 r) ∨ ((p1 < 0 ∨ h.1 66 23 ≤ p1) ∧ h2.1 66 0 = 1 ∧ r = 0))) mm_nx 0 0 := by
  refine mm_ofW (ls := [mR 66, mI p1, mU]) hl (by decide) rfl (Nat.le_of_ble_eq_true rfl) ?_
  intro x hxl C T hnm htb
  subst hxl
  have C1 := mm_OK_le (d' := d - 1 + 1) (by omega) C
  refine mm_rng (fun hr _ => ?_)
  have ap1 : -2147483648 ≤ p1 ∧ p1 < 2147483648 := mm_ok_at hr (i := 1) rfl
  have f0 : mm_fr [(66, 0), (66, 18), (66, 39)] [72, 73, 75, 76, 91] h h := mm_fr_rf
  have g1 : 0 ≤ h.1 66 23 ∧ h.1 66 23 ≤ 40 := i0.1 66 23
  have g2 : -2147483648 ≤ h.1 66 0 ∧ h.1 66 0 ≤ 2147483647 := i0.1 66 0
  refine mm_aload_n C (mm_dec dk_X12_lost 0 rfl) rfl ?_
  refine mm_iload_n C (mm_dec dk_X12_lost 1 rfl) rfl ?_
  refine mm_cVi (rest := []) C1 ev_X12_308 (mm_dec dk_X12_lost 2 rfl) (c_X12_isRunner_q x.2.1 hl (d - 1) (by omega) h i0 p1) rfl rfl (Nat.le_of_ble_eq_true rfl) ⟨by decide, by decide⟩ rfl (fun r2 h2c hp2 => ?_) (fun _ _ q => q.elim)
  obtain ⟨b2, i2c, g2c, y2_0, y2_1⟩ := hp2
  have f2c : mm_fr [(66, 0), (66, 18), (66, 39)] [72, 73, 75, 76, 91] h h2c := mm_fr_tr f0 g2c (by decide +kernel)
  have q2c_4 : h2c.1 66 23 = h.1 66 23 := g2c.1 66 23 (by decide)
  have g5 : -2147483648 ≤ (h2c.1 66 0) ∧ (h2c.1 66 0) ≤ 2147483647 := i2c.1 66 0
  refine mm_if_ne (tgt := 10) C (mm_dec dk_X12_lost 3 rfl) (by decide) (fun c5 => ?_) (fun c5 => ?_)
  · skip
    have z122 : h2c.2.1 122 p1 = h.2.1 122 p1 := g2c.2 122 (by decide) _
    have z123 : h2c.2.1 123 p1 = h.2.1 123 p1 := g2c.2 123 (by decide) _
    refine mm_aload_n C (mm_dec dk_X12_lost 6 rfl) rfl ?_
    refine mm_getr (t := 122) C fl_X12_178 (mm_dec dk_X12_lost 7 rfl) rfl rfl (mm_ref i2c rfl) ?_
    refine mm_iload_n C (mm_dec dk_X12_lost 8 rfl) rfl ?_
    refine mm_iald C (mm_dec dk_X12_lost 9 rfl) rfl (by omega) (by omega) ?_
    have g6 : -2147483648 ≤ (h2c.2.1 122 p1) ∧ (h2c.2.1 122 p1) ≤ 2147483647 := i2c.2.1 122 p1
    refine mm_ldcw (z := -100000) C (mm_dec dk_X12_lost 10 rfl) kc_X12_295 (by decide) ?_
    have J31 : ∀ (w31_0 : (h.2.1 122 p1 = -100000 ∨ h.2.1 123 p1 = 0)) (w31_1 : (0 ≤ p1 ∧ p1 < h.1 66 23)) (w31_2 : h2c.1 66 0 = 0), mm_W x 0 0 31 [mU, mU, mU] [] h2c := by
      intro w31_0 w31_1 w31_2
      refine mm_ldcw (z := -100000) C (mm_dec dk_X12_lost 17 rfl) kc_X12_295 (by decide) ?_
      exact mm_iret C T (mm_dec dk_X12_lost 18 rfl) (by decide : 0 ≤ 0) (by decide : 0 ≤ 0) ⟨_, rfl, ⟨⟨by omega, by omega⟩, i2c, f2c, by first | exact Or.inr ⟨by omega, by omega, by omega⟩ | exact Or.inl ⟨by omega, by omega, by omega, Or.inl ⟨by omega, rfl⟩⟩ | exact Or.inl ⟨by omega, by omega, by omega, Or.inr ⟨by omega, by omega, r37, zl, w60_0⟩⟩⟩⟩
    refine mm_icmp_eq (tgt := 31) C (mm_dec dk_X12_lost 11 rfl) (by decide) (fun c19 => ?_) (fun c19 => ?_)
    · skip
      refine mm_fgt 0 ?_
      refine mm_fgt 1 ?_
      exact J31 (by omega) (by omega) (by omega)
    · skip
      refine mm_aload_n C (mm_dec dk_X12_lost 12 rfl) rfl ?_
      refine mm_getr (t := 123) C fl_X12_181 (mm_dec dk_X12_lost 13 rfl) rfl rfl (mm_ref i2c rfl) ?_
      refine mm_iload_n C (mm_dec dk_X12_lost 14 rfl) rfl ?_
      refine mm_zald C (mm_dec dk_X12_lost 15 rfl) rfl (by omega) (by omega) ?_
      have g7 : 0 ≤ (h2c.2.1 123 p1) ∧ (h2c.2.1 123 p1) ≤ 1 := i2c.2.1 123 p1
      refine mm_if_ne (tgt := 35) C (mm_dec dk_X12_lost 16 rfl) (by decide) (fun c28 => ?_) (fun c28 => ?_)
      · skip
        refine mm_aload_n C (mm_dec dk_X12_lost 19 rfl) rfl ?_
        refine mm_iload_n C (mm_dec dk_X12_lost 20 rfl) rfl ?_
        refine mm_cVi (rest := []) C1 ev_X12_311 (mm_dec dk_X12_lost 21 rfl) (c_X12_lengthOf_q x.2.1 hl (d - 1) (by omega) h2c i2c p1 ⟨by omega, by omega⟩) rfl rfl (Nat.le_of_ble_eq_true rfl) ⟨by decide, by decide⟩ rfl (fun r37 h37c hp37 => ?_) (fun _ _ q => q.elim)
        obtain ⟨b37, i37c, g37c, y37_0⟩ := hp37
        have f37c : mm_fr [(66, 0), (66, 18), (66, 39)] [72, 73, 75, 76, 91] h h37c := mm_fr_tr f2c g37c (by decide +kernel)
        have q37c_9 : h37c.1 66 0 = h2c.1 66 0 := g37c.1 66 0 (by decide)
        have q37c_10 : h37c.1 66 23 = h2c.1 66 23 := g37c.1 66 23 (by decide)
        refine mm_istore_nL (ls2 := [mR 66, mI p1, mI r37]) C (mm_dec dk_X12_lost 22 rfl) (by decide) rfl ?_
        have zl : mm_lY h p1 r37 := mm_lY_fr y37_0 (mm_lnd_fr g2c (by decide)) (fun j => g2c.2 78 (by decide) j) (fun j => g2c.2 80 (by decide) j) (fun j => g2c.2 82 (by decide) j) (fun j => g2c.2 84 (by decide) j) (fun j => g2c.2 85 (by decide) j) (fun j => g2c.2 87 (by decide) j) (g2c.1 66 9 (by decide)) (g2c.1 66 10 (by decide)) (g2c.1 66 11 (by decide)) (g2c.1 66 12 (by decide)) (i0.2.1 80 _).1
        refine mm_iload_n C (mm_dec dk_X12_lost 23 rfl) rfl ?_
        refine mm_iconst C (mm_dec dk_X12_lost 24 rfl) ⟨by decide, by decide⟩ ?_
        have J60 : ∀ (s60_0 : Int) (bs60_0 : -2147483648 ≤ s60_0 ∧ s60_0 ≤ 2147483647) (w60_0 : mm_ls (h.2.1 122 p1) r37 s60_0), mm_W x 0 0 60 [mU, mU, mU] [mI s60_0] h37c := by
          intro s60_0 bs60_0 w60_0
          exact mm_iret C T (mm_dec dk_X12_lost 34 rfl) (by decide : 0 ≤ 0) (by decide : 0 ≤ 0) ⟨_, rfl, ⟨⟨by omega, by omega⟩, i37c, f37c, by first | exact Or.inr ⟨by omega, by omega, by omega⟩ | exact Or.inl ⟨by omega, by omega, by omega, Or.inl ⟨by omega, rfl⟩⟩ | exact Or.inl ⟨by omega, by omega, by omega, Or.inr ⟨by omega, by omega, r37, zl, w60_0⟩⟩⟩⟩
        refine mm_icmp_ne (tgt := 52) C (mm_dec dk_X12_lost 25 rfl) (by decide) (fun c43 => ?_) (fun c43 => ?_)
        · skip
          refine mm_aload_n C (mm_dec dk_X12_lost 28 rfl) rfl ?_
          refine mm_getr (t := 122) C fl_X12_178 (mm_dec dk_X12_lost 29 rfl) rfl rfl (mm_ref i37c rfl) ?_
          refine mm_iload_n C (mm_dec dk_X12_lost 30 rfl) rfl ?_
          refine mm_iald C (mm_dec dk_X12_lost 31 rfl) rfl (by omega) (by omega) ?_
          have g11 : -2147483648 ≤ (h37c.2.1 122 p1) ∧ (h37c.2.1 122 p1) ≤ 2147483647 := i37c.2.1 122 p1
          refine mm_iload_n C (mm_dec dk_X12_lost 32 rfl) rfl ?_
          refine mm_isubw C (mm_dec dk_X12_lost 33 rfl) ?_
          have g12 : -2147483648 ≤ (mm_w ((h37c.2.1 122 p1) - r37)) ∧ (mm_w ((h37c.2.1 122 p1) - r37)) < 2147483648 := mm_w_rg _
          refine mm_fgt 0 ?_
          refine mm_fgt 1 ?_
          refine mm_fgt 2 ?_
          exact J60 (mm_w ((h37c.2.1 122 p1) - r37)) ⟨by omega, by omega⟩ (by first | exact Or.inl ⟨by omega, rfl⟩ | exact Or.inr ⟨by omega, congrArg mm_w (by rw [g37c.2 122 (by decide), z122])⟩ | exact Or.inr ⟨by omega, by rw [← z122, ← g37c.2 122 (by decide)]; exact (mm_w_id ⟨by omega, by omega⟩).symm⟩)
        · skip
          refine mm_ldcw (z := -100000) C (mm_dec dk_X12_lost 26 rfl) kc_X12_295 (by decide) ?_
          refine mm_goto (tgt := 60) C (mm_dec dk_X12_lost 27 rfl) (by decide) ?_
          refine mm_fgt 0 ?_
          refine mm_fgt 1 ?_
          refine mm_fgt 2 ?_
          exact J60 (-100000) ⟨by omega, by omega⟩ (by first | exact Or.inl ⟨by omega, rfl⟩ | exact Or.inr ⟨by omega, congrArg mm_w (by rw [g37c.2 122 (by decide), z122])⟩ | exact Or.inr ⟨by omega, by rw [← z122, ← g37c.2 122 (by decide)]; exact (mm_w_id ⟨by omega, by omega⟩).symm⟩)
      · skip
        refine mm_fgt 0 ?_
        refine mm_fgt 1 ?_
        exact J31 (by omega) (by omega) (by omega)
  · skip
    refine mm_iconst C (mm_dec dk_X12_lost 4 rfl) ⟨by decide, by decide⟩ ?_
    exact mm_iret C T (mm_dec dk_X12_lost 5 rfl) (by decide : 0 ≤ 0) (by decide : 0 ≤ 0) ⟨_, rfl, ⟨⟨by omega, by omega⟩, i2c, f2c, by first | exact Or.inr ⟨by omega, by omega, by omega⟩ | exact Or.inl ⟨by omega, by omega, by omega, Or.inl ⟨by omega, rfl⟩⟩ | exact Or.inl ⟨by omega, by omega, by omega, Or.inr ⟨by omega, by omega, r37, zl, w60_0⟩⟩⟩⟩
