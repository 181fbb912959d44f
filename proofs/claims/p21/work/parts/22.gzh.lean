/-! ===== what codes are worth: the class's stack ===== -/
abbrev mm_Y9 := List Int × Int × Int
def mm_pu9 (S : List Int) (x : Int) : List Int := if S.length < 64 then x :: S else S
def mm_clp (x : Int) : Int := if x < -9999 then -9999 else if 9999 < x then 9999 else x
def mm_ed9 (c x : Int) (y : Int × Int) : Int × Int := if c = 100020 then (mm_w (y.1 + mm_clp x), y.2) else if x ≠ 0 then (y.1, 1) else y
def mm_y1 (v p : Int → Int) (c : Int) (s : mm_Y9) : mm_Y9 :=
  if c < 100000 then (mm_pu9 s.1 c, s.2)
  else if c < 100007 then (mm_pu9 s.1 (v (c - 100000)), s.2)
  else if c < 100010 then (mm_pu9 s.1 (p (c - 100007)), s.2)
  else if c = 100010 then (mm_pu9 s.1.tail (if s.1.headD 0 = 0 then 1 else 0), s.2)
  else if 100020 ≤ c then (s.1.tail, mm_ed9 c (s.1.headD 0) s.2)
  else (mm_pu9 s.1.tail.tail (mm_jn c (s.1.tail.headD 0) (s.1.headD 0)), s.2)
def mm_yf (v p f : Int → Int) : Nat → mm_Y9
  | 0 => ([], 0, 0)
  | k + 1 => mm_y1 v p (f (k : Int)) (mm_yf v p f k)
theorem mm_yf_s {v p f : Int → Int} {k : Int} {T : mm_Y9} (w : T = mm_yf v p f k.toNat) (k0 : 0 ≤ k) : mm_yf v p f (k + 1).toNat = mm_y1 v p (f k) T := by
  rw [show (k + 1).toNat = k.toNat + 1 by omega, w]
  show mm_y1 v p (f (k.toNat : Int)) _ = _
  rw [Int.toNat_of_nonneg k0]
section
variable {v p : Int → Int} {c x y : Int} {S : List Int} {e : Int × Int}
theorem mm_y1_n (h : c < 100000) : mm_y1 v p c (S, e) = (mm_pu9 S c, e) := if_pos h
theorem mm_y1_v (h : 100000 ≤ c) (h2 : c < 100007) : mm_y1 v p c (S, e) = (mm_pu9 S (v (c - 100000)), e) := by
  unfold mm_y1
  rw [if_neg (by omega), if_pos h2]
theorem mm_y1_p (h : 100007 ≤ c) (h2 : c < 100010) : mm_y1 v p c (S, e) = (mm_pu9 S (p (c - 100007)), e) := by
  unfold mm_y1
  rw [if_neg (by omega), if_neg (by omega), if_pos h2]
theorem mm_y1_no (h : c = 100010) : mm_y1 v p c (S, e) = (mm_pu9 S.tail (if S.headD 0 = 0 then 1 else 0), e) := by
  unfold mm_y1
  rw [if_neg (by omega), if_neg (by omega), if_neg (by omega), if_pos h]
theorem mm_y1_e (h : 100020 ≤ c) : mm_y1 v p c (S, e) = (S.tail, mm_ed9 c (S.headD 0) e) := by
  unfold mm_y1
  rw [if_neg (by omega), if_neg (by omega), if_neg (by omega), if_neg (by omega), if_pos h]
theorem mm_y1_o (h : 100010 < c) (h2 : c < 100020) : mm_y1 v p c (S, e) = (mm_pu9 S.tail.tail (mm_jn c (S.tail.headD 0) (S.headD 0)), e) := by
  unfold mm_y1
  rw [if_neg (by omega), if_neg (by omega), if_neg (by omega), if_neg (by omega), if_neg (by omega)]
end
theorem mm_tri {a a' : List Int} {b b' c c' : Int} (h : a = a') (k : b = b') (l : c = c') : (a, b, c) = (a', b', c') := by rw [h, k, l]
/-- the class's stack, as a row of numbers -/
def mm_sX (h : mH) : List Int := mm_sk0 (h.2.1 45) (h.1 42 4).toNat
theorem mm_sX_len {h : mH} (t : 0 ≤ h.1 42 4) : ((mm_sX h).length : Int) = h.1 42 4 := by
  unfold mm_sX
  rw [mm_sk0_len]; omega
theorem mm_sX_fr {h h2 : mH} (e : h2.1 42 4 = h.1 42 4) (e2 : ∀ j, h2.2.1 45 j = h.2.1 45 j) : mm_sX h2 = mm_sX h := by
  unfold mm_sX
  rw [e, show h2.2.1 45 = h.2.1 45 from funext e2]
theorem mm_sX_pu {h h2 : mH} {x : Int} (t : 0 ≤ h.1 42 4) (t2 : h.1 42 4 ≤ 63) (u : mm_up h h2 45 (h.1 42 4) x 1) (d : h2.1 42 4 = h.1 42 4 + 1) : mm_sX h2 = mm_pu9 (mm_sX h) x := by
  have l := mm_sX_len t
  unfold mm_pu9
  rw [if_pos (by omega)]
  unfold mm_sX
  rw [d, show (h.1 42 4 + 1).toNat = (h.1 42 4).toNat + 1 by omega]
  show h2.2.1 45 ((h.1 42 4).toNat : Int) :: mm_sk0 (h2.2.1 45) (h.1 42 4).toNat = _
  rw [u, if_pos ⟨by omega, rfl⟩, mm_sk0_cg (t := h2.2.1 45) (t' := h.2.1 45) _ (fun j a b => by rw [u, if_neg (fun z => by omega)])]
theorem mm_sX_no {h : mH} {x : Int} (t : 64 ≤ h.1 42 4) : mm_sX h = mm_pu9 (mm_sX h) x := by
  have l := mm_sX_len (h := h) (by omega)
  unfold mm_pu9
  rw [if_neg (by omega)]
theorem mm_sX_po {h h2 : mH} (t : 0 < h.1 42 4) (d : h2.1 42 4 = h.1 42 4 - 1) (e2 : ∀ j, h2.2.1 45 j = h.2.1 45 j) : h.2.1 45 (h.1 42 4 - 1) = (mm_sX h).headD 0 ∧ mm_sX h2 = (mm_sX h).tail := by
  have e : mm_sX h = h.2.1 45 (h.1 42 4 - 1) :: mm_sX h2 := by
    unfold mm_sX
    rw [d, show h2.2.1 45 = h.2.1 45 from funext e2, show (h.1 42 4).toNat = (h.1 42 4 - 1).toNat + 1 by omega]
    show h.2.1 45 ((h.1 42 4 - 1).toNat : Int) :: _ = _
    rw [Int.toNat_of_nonneg (by omega)]
  rw [e]
  exact ⟨rfl, rfl⟩
theorem mm_sX_p0 {h : mH} (t : h.1 42 4 = 0) : 0 = (mm_sX h).headD 0 ∧ mm_sX h = (mm_sX h).tail := by
  have e : mm_sX h = [] := by
    unfold mm_sX
    rw [t]; rfl
  rw [e]
  exact ⟨rfl, rfl⟩
theorem mm_sX_0 {h : mH} (t : h.1 42 4 = 0) : mm_sX h = [] := by
  unfold mm_sX
  rw [t]; rfl
theorem mm_ed9_p {c x a b : Int} (h : c = 100020) : mm_ed9 c x (a, b) = (mm_w (a + mm_clp x), b) := if_pos h
theorem mm_ed9_y {c x a b : Int} (h : c ≠ 100020) (h2 : x ≠ 0) : mm_ed9 c x (a, b) = (a, 1) := by
  unfold mm_ed9
  rw [if_neg h, if_pos h2]
theorem mm_ed9_n {c x a b : Int} (h : c ≠ 100020) (h2 : x = 0) : mm_ed9 c x (a, b) = (a, b) := by
  unfold mm_ed9
  rw [if_neg h, if_neg (fun z => z h2)]
/-! a list of codes -/
def mm_yl (v p : Int → Int) : List Int → mm_Y9 → mm_Y9
  | [], s => s
  | c :: A, s => mm_yl v p A (mm_y1 v p c s)
theorem mm_yl_app (v p : Int → Int) : ∀ (A B : List Int) (s : mm_Y9), mm_yl v p (A ++ B) s = mm_yl v p B (mm_yl v p A s)
  | [], _, _ => rfl
  | c :: A, B, s => mm_yl_app v p A B (mm_y1 v p c s)
theorem mm_yf_yl {v p f : Int → Int} : ∀ (n : Nat) (A : List Int), A.length = n → (∀ k : Nat, k < n → f k = A.getD k 0) → mm_yf v p f n = mm_yl v p A ([], 0, 0)
  | 0, A, hl, _ => by
    have e : A = [] := List.length_eq_zero_iff.mp hl
    rw [e]; rfl
  | n + 1, A, hl, h => by
    have ne : A ≠ [] := fun q => by rw [q] at hl; exact absurd hl (by simp)
    have e := List.dropLast_concat_getLast ne
    have hl2 : A.dropLast.length = n := by rw [List.length_dropLast]; omega
    have ih := mm_yf_yl (v := v) (p := p) (f := f) n A.dropLast hl2 (fun k hk => by
      rw [h k (by omega), List.getD_eq_getElem?_getD, List.getD_eq_getElem?_getD, List.getElem?_dropLast, if_pos (by omega)])
    have hn := h n (by omega)
    rw [← e, mm_yl_app, ← ih]
    show mm_y1 v p (f (n : Int)) _ = mm_y1 v p (A.getLast ne) _
    have gl : A.getD n 0 = A.getLast ne := by
      rw [List.getD_eq_getElem?_getD, List.getElem?_eq_getElem (show n < A.length by omega), List.getLast_eq_getElem]
      simp [hl]
    rw [hn, gl]
theorem mm_pu9_y {S : List Int} {x : Int} (h : (x :: S).length ≤ 64) : mm_pu9 S x = x :: S := by
  rw [List.length_cons] at h
  exact if_pos (by omega)
theorem mm_y1_x1 {v p : Int → Int} {c : Int} {S : List Int} {e : Int × Int} (hc : 0 ≤ c ∧ c ≤ 100018) (l : (mm_x1 v p c S).length ≤ 64) (o : (c = 100010 → 1 ≤ S.length) ∧ (100011 ≤ c → 2 ≤ S.length)) : mm_y1 v p c (S, e) = (mm_x1 v p c S, e) := by
  by_cases q1 : c < 100000
  · have k : mm_x1 v p c S = c :: S := if_pos q1
    rw [k] at l ⊢
    rw [mm_y1_n q1, mm_pu9_y l]
  · by_cases q2 : c < 100007
    · have k : mm_x1 v p c S = v (c - 100000) :: S := by unfold mm_x1; rw [if_neg q1, if_pos q2]
      rw [k] at l ⊢
      rw [mm_y1_v (by omega) q2, mm_pu9_y l]
    · by_cases q3 : c < 100010
      · have k : mm_x1 v p c S = p (c - 100007) :: S := by unfold mm_x1; rw [if_neg q1, if_neg q2, if_pos q3]
        rw [k] at l ⊢
        rw [mm_y1_p (by omega) q3, mm_pu9_y l]
      · by_cases q4 : c = 100010
        · have o1 := o.1 q4
          cases S with
          | nil => exact absurd o1 (by decide)
          | cons x T =>
            rw [q4, mm_x1_not] at l ⊢
            rw [mm_y1_no rfl]
            show (mm_pu9 T (if x = 0 then 1 else 0), e) = _
            rw [mm_pu9_y l]
        · have o2 := o.2 (by omega)
          match S, o2 with
          | y :: x :: T, _ =>
            rw [mm_x1_op (by omega)] at l ⊢
            rw [mm_y1_o (by omega) (by omega)]
            show (mm_pu9 T (mm_jn c x y), e) = _
            rw [mm_pu9_y l]
theorem mm_yl_ex {v p : Int → Int} {n : Nat} (hn : n ≤ 64) {e : Int × Int} : ∀ (A S : List Int), (∀ c ∈ A, 0 ≤ c ∧ c ≤ 100018) → mm_hx v p n A S → mm_yl v p A (S, e) = (mm_xs v p A S, e)
  | [], _, _, _ => rfl
  | c :: A, S, hc, h => by
    have l := mm_hx_0 h.2.2
    show mm_yl v p A (mm_y1 v p c (S, e)) = _
    rw [mm_y1_x1 (hc c List.mem_cons_self) (by omega) h.2.1]
    exact mm_yl_ex hn A _ (fun d hd => hc d (List.mem_cons_of_mem _ hd)) h.2.2
/-- what a clause is worth -/
def mm_ev9 (v p : Int → Int) (A : List Int) : Int := (mm_xs v p A []).headD 0
def mm_cw9 (v p : Int → Int) (q : mm_C3) : Int := if q.2.2 ≠ [] ∧ mm_ev9 v p q.2.2 ≠ 0 then 0 else mm_ev9 v p q.2.1
def mm_clr (v p : Int → Int) (q : mm_C3) (y : Int × Int) : Int × Int := if q.1 = 2 then y else mm_ed9 (100020 + q.1) (mm_cw9 v p q) y
def mm_cls (v p : Int → Int) : List mm_C3 → Int × Int → Int × Int
  | [], y => y
  | q :: L, y => mm_cls v p L (mm_clr v p q y)
theorem mm_ex_ev {v p : Int → Int} {H : Nat} {A S : List Int} (e : mm_exj H A) : mm_xs v p A S = mm_ev9 v p A :: S := by
  obtain ⟨x, a, _⟩ := e.2.2 v p S
  obtain ⟨y, b, _⟩ := e.2.2 v p []
  have k : ∀ (A S T : List Int) (n : Nat), mm_hx v p n A T → mm_xs v p A (T ++ S) = mm_xs v p A T ++ S := by
    intro A
    induction A with
    | nil => intro S T n _; rfl
    | cons c A ih =>
      intro S T n h
      have o := h.2.1
      have z : mm_x1 v p c (T ++ S) = mm_x1 v p c T ++ S := by
        unfold mm_x1
        by_cases q1 : c < 100000
        · rw [if_pos q1, if_pos q1]; rfl
        · by_cases q2 : c < 100007
          · rw [if_neg q1, if_pos q2, if_neg q1, if_pos q2]; rfl
          · by_cases q3 : c < 100010
            · rw [if_neg q1, if_neg q2, if_pos q3, if_neg q1, if_neg q2, if_pos q3]; rfl
            · by_cases q4 : c = 100010
              · rw [if_neg q1, if_neg q2, if_neg q3, if_pos q4, if_neg q1, if_neg q2, if_neg q3, if_pos q4]
                have o1 := o.1 q4
                match T, o1 with
                | x :: T, _ => rfl
              · rw [if_neg q1, if_neg q2, if_neg q3, if_neg q4, if_neg q1, if_neg q2, if_neg q3, if_neg q4]
                have o2 := o.2 (by omega)
                match T, o2 with
                | y :: x :: T, _ => rfl
      show mm_xs v p A (mm_x1 v p c (T ++ S)) = mm_xs v p A (mm_x1 v p c T) ++ S
      rw [z]
      exact ih S _ n h.2.2
  obtain ⟨y2, b2, hx⟩ := e.2.2 v p []
  have z := k A S [] _ hx
  rw [List.nil_append, b2] at z
  rw [z]
  unfold mm_ev9
  rw [b2]
  rfl
theorem mm_yl_cc {v p : Int → Int} {q : mm_C3} (w : mm_wc9 q) (y : Int × Int) : mm_yl v p (mm_cc9 q) ([], y) = ([], mm_clr v p q y) := by
  unfold mm_cc9 mm_clr
  rcases w with w | ⟨w, ea, eb⟩
  · rw [if_pos w, if_pos w]; rfl
  · rw [if_neg (by omega), if_neg (by omega), mm_yl_app]
    obtain ⟨x, _, ha⟩ := ea.2.2 v p []
    have la := mm_yl_ex (v := v) (p := p) (n := 31) (by decide) (e := y) q.2.1 [] ea.1 (by rw [List.length_nil, Nat.zero_add] at ha; exact ha)
    have body : mm_yl v p (mm_cbj q) ([], y) = ([mm_cw9 v p q], y) := by
      unfold mm_cbj mm_cw9
      rw [if_neg (by omega), mm_yl_app, la, mm_ex_ev ea]
      rcases eb with eb | eb
      · rw [if_pos eb, if_neg (fun z => z.1 eb)]; rfl
      · rw [if_neg eb.2.1, mm_yl_app]
        obtain ⟨x2, _, hb⟩ := eb.2.2 v p [mm_ev9 v p q.2.1]
        rw [mm_yl_ex (v := v) (p := p) (n := 32) (by decide) (e := y) q.2.2 [mm_ev9 v p q.2.1] eb.1 (mm_hx_le (by simp) hb), mm_ex_ev eb]
        show mm_y1 v p 100019 (mm_ev9 v p q.2.2 :: mm_ev9 v p q.2.1 :: [], y) = _
        rw [mm_y1_o (by decide) (by decide)]
        show (mm_pu9 [] (mm_jn 100019 (mm_ev9 v p q.2.1) (mm_ev9 v p q.2.2)), y) = _
        have j : mm_jn 100019 (mm_ev9 v p q.2.1) (mm_ev9 v p q.2.2) = if mm_ev9 v p q.2.2 ≠ 0 then 0 else mm_ev9 v p q.2.1 := rfl
        rw [j]
        by_cases z : mm_ev9 v p q.2.2 ≠ 0
        · rw [if_pos z, if_pos ⟨eb.2.1, z⟩]; rfl
        · rw [if_neg z, if_neg (fun y => z y.2)]; rfl
    rw [body]
    show mm_y1 v p (100020 + q.1) ([mm_cw9 v p q], y) = _
    rw [mm_y1_e (by omega)]
    rfl
theorem mm_yl_lc {v p : Int → Int} : ∀ (L : List mm_C3) (y : Int × Int), (∀ q ∈ L, mm_wc9 q) → mm_yl v p (mm_lc9 L) ([], y) = ([], mm_cls v p L y)
  | [], _, _ => rfl
  | q :: L, y, w => by
    have e : mm_lc9 (q :: L) = mm_cc9 q ++ mm_lc9 L := List.flatMap_cons
    rw [e, mm_yl_app, mm_yl_cc (w q List.mem_cons_self)]
    exact mm_yl_lc L _ (fun x hx => w x (List.mem_cons_of_mem _ hx))
/-- what the class's rules tell -/
theorem mm_cd_tells {v p f : Int → Int} {s : Int} {L : List mm_C3} (C : mm_cdj s f L) : (mm_yf v p f s.toNat).2 = mm_cls v p L (0, 0) := by
  obtain ⟨w, hs, hf⟩ := C
  rw [mm_yf_yl s.toNat (mm_lc9 L) (by omega) (fun k hk => hf k (by omega)), mm_yl_lc L (0, 0) w]

theorem mm_two {a a' b b' : Int} (h : a = a') (k : b = b') : (a, b) = (a', b') := by rw [h, k]
theorem mm_y1_end {v p f : Int → Int} {k c y5 y6 r : Int} {S S1 S2 : List Int} {z5 z6 : Int} (w : (S, y5, y6) = mm_yf v p f k.toNat) (k0 : 0 ≤ k) (hc : c = f k) (h : 100020 ≤ c) (e1 : S1 = S.tail) (er : r = S.headD 0) (e2 : S2 = S1) (e3 : (z5, z6) = mm_ed9 c r (y5, y6)) : (S2, z5, z6) = mm_yf v p f (k + 1).toNat := by
  rw [mm_yf_s w k0, ← hc, mm_y1_e h, ← er, ← e3, e2, e1]

/-! ===== what codes are worth: the reference's pile ===== -/
def mm_at9 (c : Int → Int) (k : Int) (B : List Int) : Prop := ∀ i : Nat, i < B.length → c (k + i) = B.getD i 0
theorem mm_at9_c {c : Int → Int} {k x : Int} {B : List Int} (a : mm_at9 c k (x :: B)) : c k = x ∧ mm_at9 c (k + 1) B := by
  refine ⟨?_, fun i hi => ?_⟩
  · have z := a 0 (by rw [List.length_cons]; omega)
    rw [show k + ((0 : Nat) : Int) = k by omega] at z
    exact z
  · have z := a (i + 1) (by rw [List.length_cons]; omega)
    rw [show k + ((i + 1 : Nat) : Int) = k + 1 + (i : Int) by omega] at z
    exact z
def mm_wk9 (f a b : Int) : Int := if f = 5 then (if a ≠ 0 ∧ b ≠ 0 then 1 else 0) else if f = 6 then (if a ≠ 0 ∨ b ≠ 0 then 1 else 0) else if f = 7 then (if a < b then 1 else 0) else if f = 8 then (if a = b then 1 else 0) else if f = 9 then mm_w (a + b) else if f = 10 then mm_w (a - b) else if f = 11 then mm_w (a * b) else if b = 0 then 0 else mm_w (Int.tdiv a b)
theorem mm_en_b {d : Int} (h : 100011 ≤ d ∧ d ≤ 100018) : ∃ a, mm_en d = [a] ∧ 5 ≤ a ∧ a ≤ 12 ∧ ∀ x y, mm_jn d x y = mm_wk9 a x y := by
  have k : d = 100011 ∨ d = 100012 ∨ d = 100013 ∨ d = 100014 ∨ d = 100015 ∨ d = 100016 ∨ d = 100017 ∨ d = 100018 := by omega
  rcases k with k | k | k | k | k | k | k | k <;> subst k
  · exact ⟨6, rfl, by decide, by decide, fun x y => rfl⟩
  · exact ⟨5, rfl, by decide, by decide, fun x y => rfl⟩
  · exact ⟨7, rfl, by decide, by decide, fun x y => rfl⟩
  · exact ⟨8, rfl, by decide, by decide, fun x y => rfl⟩
  · exact ⟨9, rfl, by decide, by decide, fun x y => rfl⟩
  · exact ⟨10, rfl, by decide, by decide, fun x y => rfl⟩
  · exact ⟨11, rfl, by decide, by decide, fun x y => rfl⟩
  · exact ⟨12, rfl, by decide, by decide, fun x y => rfl⟩
theorem mm_en_p {d : Int} (h : 0 ≤ d ∧ d < 100010) : ∃ a b, mm_en d = [a, b] ∧ ((a = 1 ∧ b = d ∧ d < 100000) ∨ (a = 2 ∧ b = d - 100000 ∧ 100000 ≤ d ∧ d < 100007) ∨ (a = 3 ∧ b = d - 100007 ∧ 100007 ≤ d)) := by
  unfold mm_en
  by_cases q1 : d < 100000
  · exact ⟨1, d, by rw [if_pos q1], Or.inl ⟨rfl, rfl, q1⟩⟩
  · by_cases q2 : d < 100007
    · exact ⟨2, d - 100000, by rw [if_neg q1, if_pos q2], Or.inr (Or.inl ⟨rfl, rfl, by omega, q2⟩)⟩
    · exact ⟨3, d - 100007, by rw [if_neg q1, if_neg q2, if_pos h.2], Or.inr (Or.inr ⟨rfl, rfl, by omega⟩)⟩
def mm_wr9 (c v p : Int → Int) (A : List Int) (k : Int) (S : List Int) : Prop := ∃ A2 : List Int, mm_at9 c k (A2.flatMap mm_en ++ [0]) ∧ mm_xs v p A2 S = mm_xs v p A [] ∧ mm_hx v p 31 A2 S ∧ ∀ d ∈ A2, 0 ≤ d ∧ d ≤ 100018
theorem mm_wr9_0 {c v p : Int → Int} {A : List Int} {k : Int} (e : mm_exj 31 A) (l : mm_at9 c k (A.flatMap mm_en ++ [0])) : mm_wr9 c v p A k [] := by
  obtain ⟨x, a, b⟩ := e.2.2 v p []
  exact ⟨A, l, rfl, mm_hx_le (by simp) b, e.1⟩
/-- which code stands at k -/
theorem mm_wr9_c {c v p : Int → Int} {A : List Int} {k : Int} {S : List Int} (W : mm_wr9 c v p A k S) : (c k = 0 ∧ S = mm_xs v p A []) ∨ (1 ≤ c k ∧ c k ≤ 3 ∧ mm_wr9 c v p A (k + 2) ((if c k = 1 then c (k + 1) else if c k = 2 then v (c (k + 1)) else p (c (k + 1))) :: S) ∧ (c k = 3 → 0 ≤ c (k + 1) ∧ c (k + 1) ≤ 2) ∧ (c k = 2 → 0 ≤ c (k + 1) ∧ c (k + 1) ≤ 6)) ∨ (c k = 4 ∧ ∃ y T, S = y :: T ∧ mm_wr9 c v p A (k + 1) ((if y = 0 then 1 else 0) :: T)) ∨ (5 ≤ c k ∧ c k ≤ 12 ∧ ∃ y x T, S = y :: x :: T ∧ mm_wr9 c v p A (k + 1) (mm_wk9 (c k) x y :: T)) := by
  obtain ⟨A2, a1, a2, a3, a4⟩ := W
  cases A2 with
  | nil => exact Or.inl ⟨(mm_at9_c a1).1, a2⟩
  | cons d A3 =>
    have hd := a4 d List.mem_cons_self
    have hr : ∀ e ∈ A3, 0 ≤ e ∧ e ≤ 100018 := fun e he => a4 e (List.mem_cons_of_mem _ he)
    rw [List.flatMap_cons, List.append_assoc] at a1
    obtain ⟨h1, h2, h3⟩ := a3
    by_cases q : d < 100010
    · obtain ⟨a, b, en, cs⟩ := mm_en_p ⟨hd.1, q⟩
      rw [en] at a1
      obtain ⟨b1, b2⟩ := mm_at9_c a1
      obtain ⟨b3, b4⟩ := mm_at9_c b2
      have x1 : mm_x1 v p d S = (if a = 1 then b else if a = 2 then v b else p b) :: S := by
        unfold mm_x1
        rcases cs with ⟨e1, e2, e3⟩ | ⟨e1, e2, e3, e4⟩ | ⟨e1, e2, e3⟩
        · rw [if_pos e3, if_pos e1, e2]
        · rw [if_neg (by omega), if_pos e4, if_neg (by omega), if_pos e1, e2]
        · rw [if_neg (by omega), if_neg (by omega), if_pos q, if_neg (by omega), if_neg (by omega), e2]
      refine Or.inr (Or.inl ⟨by omega, by omega, ⟨A3, ?_, ?_, ?_, hr⟩, fun z => by omega, fun z => by omega⟩)
      · rw [show k + 2 = k + 1 + 1 by omega]; exact b4
      · rw [b1, b3, ← x1]; exact a2
      · rw [b1, b3, ← x1]; exact h3
    · by_cases q4 : d = 100010
      · have en : mm_en d = [4] := by rw [q4]; rfl
        rw [en] at a1
        obtain ⟨b1, b2⟩ := mm_at9_c a1
        have l := h2.1 q4
        match S, l with
        | y :: T, _ =>
          rw [q4, mm_x1_not] at h3
          refine Or.inr (Or.inr (Or.inl ⟨b1, y, T, rfl, A3, b2, ?_, h3, hr⟩))
          rw [← a2, q4]; rfl
      · obtain ⟨a, en, l5, l12, hj⟩ := mm_en_b (d := d) (by omega)
        rw [en] at a1
        obtain ⟨b1, b2⟩ := mm_at9_c a1
        have l := h2.2 (by omega)
        match S, l with
        | y :: x :: T, _ =>
          rw [mm_x1_op (by omega), hj] at h3
          refine Or.inr (Or.inr (Or.inr ⟨by omega, by omega, y, x, T, rfl, A3, b2, ?_, by rw [b1]; exact h3, hr⟩))
          rw [← a2, b1, ← hj]
          show _ = mm_xs v p A3 (mm_x1 v p d (y :: x :: T))
          rw [mm_x1_op (by omega)]
def mm_pS (h : mH) (n : Int) : List Int := mm_sk0 (h.2.1 111) n.toNat
theorem mm_pS_c {h : mH} {n : Int} (n1 : 1 ≤ n) : mm_pS h n = h.2.1 111 (n - 1) :: mm_pS h (n - 1) := by
  unfold mm_pS
  rw [show n.toNat = (n - 1).toNat + 1 by omega]
  show h.2.1 111 ((n - 1).toNat : Int) :: _ = _
  rw [Int.toNat_of_nonneg (by omega)]
theorem mm_pS_cg {h h2 : mH} {n : Int} (e : ∀ j, 0 ≤ j → j < n → h2.2.1 111 j = h.2.1 111 j) : mm_pS h2 n = mm_pS h n := mm_sk0_cg _ (fun j a b => e j a (by omega))
def mm_wx9 (h : mH) (k : Int) : Int := if h.2.1 107 k = 1 then h.2.1 107 (k + 1) else if h.2.1 107 k = 2 then h.2.1 110 (h.2.1 107 (k + 1)) else mm_pr h (h.2.1 107 (k + 1))
def mm_WR (h h2 : mH) (A : List Int) (k n : Int) : Prop := mm_wr9 (h.2.1 107) (h.2.1 110) (mm_pr h) A k (mm_pS h2 n)
theorem mm_WR_0 {h : mH} {A : List Int} {k : Int} (e : mm_exj 31 A) (l : mm_at9 (h.2.1 107) k (A.flatMap mm_en ++ [0])) : mm_WR h h A k 0 := mm_wr9_0 e l
theorem mm_WR_pu {h h1 h2 : mH} {A : List Int} {k n x : Int} (W : mm_WR h h1 A k n) (a : 1 ≤ h.2.1 107 k ∧ h.2.1 107 k ≤ 3) (n0 : 0 ≤ n) (u : mm_up h1 h2 111 n x 1) (hx : x = mm_wx9 h k) : mm_WR h h2 A (k + 1 + 1) (n + 1) := by
  rcases mm_wr9_c W with ⟨c, _⟩ | ⟨_, _, w, _⟩ | ⟨c, _⟩ | ⟨c, _⟩
  · omega
  · unfold mm_WR
    rw [mm_pS_c (by omega), show n + 1 - 1 = n by omega, mm_pS_cg (h := h1) (h2 := h2) (fun j p q => by rw [u, if_neg (fun z => by omega)]), u, if_pos ⟨rfl, rfl⟩, hx, show k + 1 + 1 = k + 2 by omega]
    exact w
  · omega
  · omega
theorem mm_WR_no {h h1 h2 : mH} {A : List Int} {k n x : Int} (W : mm_WR h h1 A k n) (a : h.2.1 107 k = 4) (n1 : 1 ≤ n) (u : mm_up h1 h2 111 (n - 1) x 1) (hx : x = if h1.2.1 111 (n - 1) = 0 then 1 else 0) : mm_WR h h2 A (k + 1) n := by
  rcases mm_wr9_c W with ⟨c, _⟩ | ⟨_, _, w, _⟩ | ⟨c, y, T, e, w⟩ | ⟨c, _⟩
  · omega
  · omega
  · rw [mm_pS_c n1] at e
    injection e with e1 e2
    unfold mm_WR
    rw [mm_pS_c n1, mm_pS_cg (h := h1) (h2 := h2) (fun j p q => by rw [u, if_neg (fun z => by omega)]), u, if_pos ⟨rfl, rfl⟩, hx, e1, e2]
    exact w
  · omega
theorem mm_WR_bi {h h1 h2 : mH} {A : List Int} {k n x : Int} (W : mm_WR h h1 A k n) (a0 : h.2.1 107 k ≠ 0) (a : h.2.1 107 k < 1 ∨ 3 < h.2.1 107 k) (a4 : h.2.1 107 k ≠ 4) (n2 : 2 ≤ n) (u : mm_up h1 h2 111 (n - 1 - 1) x 1) (hx : x = mm_wk9 (h.2.1 107 k) (h1.2.1 111 (n - 1 - 1)) (h1.2.1 111 (n - 1))) : mm_WR h h2 A (k + 1) (n - 1) := by
  rcases mm_wr9_c W with ⟨c, _⟩ | ⟨_, _, w, _⟩ | ⟨c, _⟩ | ⟨c, c2, y, z, T, e, w⟩
  · omega
  · omega
  · omega
  · rw [mm_pS_c (by omega), mm_pS_c (n := n - 1) (by omega)] at e
    injection e with e1 e2
    injection e2 with e2 e3
    unfold mm_WR
    rw [mm_pS_c (n := n - 1) (by omega), mm_pS_cg (h := h1) (h2 := h2) (fun j p q => by rw [u, if_neg (fun z => by omega)]), u, if_pos ⟨rfl, rfl⟩, hx, e1, e2, e3]
    exact w
theorem mm_WR_e {h h1 : mH} {A : List Int} {k n : Int} (W : mm_WR h h1 A k n) (e : mm_exj 31 A) (a : h.2.1 107 k = 0) : h1.2.1 111 0 = mm_ev9 (h.2.1 110) (mm_pr h) A := by
  rcases mm_wr9_c W with ⟨_, c⟩ | ⟨_, _, w, _⟩ | ⟨c, _⟩ | ⟨c, _⟩
  · rw [mm_ex_ev e] at c
    by_cases q : 1 ≤ n
    · rw [mm_pS_c q] at c
      injection c with c1 c2
      have l := congrArg List.length c2
      unfold mm_pS at l
      rw [mm_sk0_len] at l
      have l2 : (n - 1).toNat = 0 := l
      rw [show n - 1 = 0 by omega] at c1
      exact c1
    · unfold mm_pS at c
      rw [show n.toNat = 0 by omega] at c
      exact absurd c (by simp [mm_sk0])
  · omega
  · omega
  · omega
/-! clauses -/
def mm_lq9 (h : mH) (k : Int) (q : mm_C3) : Prop := mm_at9 (h.2.1 107) (h.2.1 105 k) (q.2.1.flatMap mm_en ++ [0]) ∧ ((q.2.2 = [] ∧ h.2.1 106 k = -1) ∨ (q.2.2 ≠ [] ∧ h.2.1 106 k ≠ -1 ∧ mm_at9 (h.2.1 107) (h.2.1 106 k) (q.2.2.flatMap mm_en ++ [0])))
theorem mm_lq9_fr {h h2 : mH} {k : Int} {q : mm_C3} (l : mm_lq9 h k q) (e5 : ∀ j, h2.2.1 105 j = h.2.1 105 j) (e6 : ∀ j, h2.2.1 106 j = h.2.1 106 j) (e7 : ∀ j, h2.2.1 107 j = h.2.1 107 j) : mm_lq9 h2 k q := by
  unfold mm_lq9
  rw [e5, e6, show h2.2.1 107 = h.2.1 107 from funext e7]
  exact l
theorem mm_cw_1 {v p : Int → Int} {q : mm_C3} {r : Int} (n : q.2.2 = [] ∨ mm_ev9 v p q.2.2 = 0) (e : r = mm_ev9 v p q.2.1) : r = mm_cw9 v p q := by
  unfold mm_cw9
  rw [if_neg (fun z => n.elim z.1 z.2)]
  exact e
theorem mm_cw_0 {v p : Int → Int} {q : mm_C3} (n : q.2.2 ≠ []) (e : mm_ev9 v p q.2.2 ≠ 0) : 0 = mm_cw9 v p q := by
  unfold mm_cw9
  rw [if_pos ⟨n, e⟩]
def mm_lL9 (h : mH) (L : List mm_C3) : Prop := (h.1 66 67 = 0 ∧ L = []) ∨ (h.1 66 67 = 1 ∧ h.2.1 103 (h.1 66 68) = L.length ∧ ∀ i : Nat, ∀ q : mm_C3, L[i]? = some q → (q.1 = 2 ∧ h.2.1 104 (20 * h.1 66 68 + i) = 3) ∨ ((q.1 = 0 ∨ q.1 = 1) ∧ h.2.1 104 (20 * h.1 66 68 + i) = q.1 ∧ mm_lq9 h (20 * h.1 66 68 + i) q))
theorem mm_lL9_fr {h h2 : mH} {L : List mm_C3} (l : mm_lL9 h L) (e67 : h2.1 66 67 = h.1 66 67) (e68 : h2.1 66 68 = h.1 66 68) (e3 : ∀ j, h2.2.1 103 j = h.2.1 103 j) (e4 : ∀ j, h2.2.1 104 j = h.2.1 104 j) (e5 : ∀ j, h2.2.1 105 j = h.2.1 105 j) (e6 : ∀ j, h2.2.1 106 j = h.2.1 106 j) (e7 : ∀ j, h2.2.1 107 j = h.2.1 107 j) : mm_lL9 h2 L := by
  rcases l with ⟨a, b⟩ | ⟨a, b, c⟩
  · exact Or.inl ⟨e67.trans a, b⟩
  · refine Or.inr ⟨e67.trans a, by rw [e68, e3]; exact b, fun i q hq => ?_⟩
    rw [e68, e4]
    exact (c i q hq).imp id (fun ⟨x, y, z⟩ => ⟨x, y, mm_lq9_fr z e5 e6 e7⟩)
theorem mm_cls_app (v p : Int → Int) : ∀ (L M : List mm_C3) (y : Int × Int), mm_cls v p (L ++ M) y = mm_cls v p M (mm_cls v p L y)
  | [], _, _ => rfl
  | q :: L, M, y => mm_cls_app v p L M _
theorem mm_take_s {L : List mm_C3} {k : Int} {q : mm_C3} (k0 : 0 ≤ k) (hq : L[k.toNat]? = some q) : L.take (k + 1).toNat = L.take k.toNat ++ [q] := by
  rw [show (k + 1).toNat = k.toNat + 1 by omega, List.take_add_one, hq]
  rfl
/-- a clause more -/
theorem mm_cls_s {v p : Int → Int} {L : List mm_C3} {k : Int} {q : mm_C3} {y z : Int × Int} (k0 : 0 ≤ k) (hq : L[k.toNat]? = some q) (w : y = mm_cls v p (L.take k.toNat) (0, 0)) (e : z = mm_clr v p q y) : z = mm_cls v p (L.take (k + 1).toNat) (0, 0) := by
  rw [mm_take_s k0 hq, mm_cls_app, ← w, e]
  rfl
/-! from what is decoded to where it stands -/
theorem mm_sk0_suf {α : Type} {t : Int → α} : ∀ (X : List α) (n : Nat) (Y : List α), mm_sk0 t n = X ++ Y → Y = mm_sk0 t Y.length
  | [], n, Y, h => by
    rw [List.nil_append] at h
    rw [← h, mm_sk0_len]
  | x :: X, 0, Y, h => by
    have z : ([] : List α) = x :: (X ++ Y) := h
    exact absurd z (by simp)
  | x :: X, n + 1, Y, h => by
    have z : t (n : Int) :: mm_sk0 t n = x :: (X ++ Y) := h
    injection z with _ z2
    exact mm_sk0_suf X n Y z2
theorem mm_sk0_at {t : Int → Int} {B O : List Int} (h : B.reverse ++ O = mm_sk0 t (B.reverse ++ O).length) : mm_at9 t (O.length : Int) B := by
  induction B with
  | nil => exact fun i hi => absurd hi (Nat.not_lt_zero _)
  | cons b B ih =>
    rw [List.reverse_cons, List.append_assoc] at h
    have hs := mm_sk0_suf B.reverse _ ([b] ++ O) h.symm
    have b0 : t (O.length : Int) = b := by
      have z : b :: O = mm_sk0 t (O.length + 1) := hs
      have z2 : b :: O = t (O.length : Int) :: mm_sk0 t O.length := z
      injection z2 with z3 _
      exact z3.symm
    have e1 : ∀ (O' : List Int), B.reverse ++ O' = mm_sk0 t (B.reverse ++ O').length → mm_at9 t (O'.length : Int) B := by
      clear h hs b0 ih
      induction B with
      | nil => exact fun _ _ i hi => absurd hi (Nat.not_lt_zero _)
      | cons d B ih2 =>
        intro O' h
        rw [List.reverse_cons, List.append_assoc] at h
        have hs := mm_sk0_suf B.reverse _ ([d] ++ O') h.symm
        have b0 : t (O'.length : Int) = d := by
          have z2 : d :: O' = t (O'.length : Int) :: mm_sk0 t O'.length := hs
          injection z2 with z3 _
          exact z3.symm
        have z := ih2 ([d] ++ O') h
        intro i hi
        cases i with
        | zero => rw [show (O'.length : Int) + ((0 : Nat) : Int) = O'.length by omega]; exact b0
        | succ i =>
          have y := z i (by rw [List.length_cons] at hi; omega)
          rw [show (([d] ++ O').length : Int) + (i : Int) = (O'.length : Int) + ((i + 1 : Nat) : Int) by simp; omega] at y
          exact y
    have z := e1 ([b] ++ O) h
    intro i hi
    cases i with
    | zero => rw [show (O.length : Int) + ((0 : Nat) : Int) = O.length by omega]; exact b0
    | succ i =>
      have y := z i (by rw [List.length_cons] at hi; omega)
      rw [show (([b] ++ O).length : Int) + (i : Int) = (O.length : Int) + ((i + 1 : Nat) : Int) by simp; omega] at y
      exact y

theorem mm_wx_2 {h : mH} {k : Int} (a : h.2.1 107 k = 2) : mm_wx9 h k = h.2.1 110 (h.2.1 107 (k + 1)) := by
  unfold mm_wx9
  rw [if_neg (by omega), if_pos a]
theorem mm_wx_3 {h : mH} {k : Int} (a : h.2.1 107 k = 3) : mm_wx9 h k = mm_pr h (h.2.1 107 (k + 1)) := by
  unfold mm_wx9
  rw [if_neg (by omega), if_neg (by omega)]
theorem mm_lq_n {h : mH} {k : Int} {q : mm_C3} (l : mm_lq9 h k q) (e : h.2.1 106 k = -1) : q.2.2 = [] := by
  rcases l.2 with ⟨a, _⟩ | ⟨_, b, _⟩
  · exact a
  · exact absurd e b
theorem mm_lq_u {h : mH} {k r : Int} {q : mm_C3} (y : ∀ A, mm_exj 31 A → mm_at9 (h.2.1 107) (h.2.1 106 k) (A.flatMap mm_en ++ [0]) → r = mm_ev9 (h.2.1 110) (mm_pr h) A) (w : mm_wc9 q) (n : q.1 ≠ 2) (l : mm_lq9 h k q) (e : h.2.1 106 k ≠ -1) : q.2.2 ≠ [] ∧ r = mm_ev9 (h.2.1 110) (mm_pr h) q.2.2 := by
  rcases l.2 with ⟨_, b⟩ | ⟨a, _, c⟩
  · exact absurd b e
  · exact ⟨a, y _ ((w.resolve_left n).2.2.resolve_left a) c⟩
theorem mm_lq_c {h h2 : mH} {k r : Int} {q : mm_C3} (y : ∀ A, mm_exj 31 A → mm_at9 (h2.2.1 107) (h2.2.1 105 k) (A.flatMap mm_en ++ [0]) → r = mm_ev9 (h2.2.1 110) (mm_pr h2) A) (w : mm_wc9 q) (n : q.1 ≠ 2) (l : mm_lq9 h k q) (f : mm_fr [] [111] h h2) : r = mm_ev9 (h.2.1 110) (mm_pr h) q.2.1 := by
  have z := y q.2.1 (w.resolve_left n).2.1 (by rw [show h2.2.1 107 = h.2.1 107 from funext (f.2 107 (by decide)), f.2 105 (by decide)]; exact l.1)
  rw [show h2.2.1 110 = h.2.1 110 from funext (f.2 110 (by decide)), show mm_pr h2 = mm_pr h from funext fun w => mm_pr_sm (f.2 102 (by decide)) (f.1 66 67 (by decide)) (f.1 66 68 (by decide))] at z
  exact z

theorem mm_WR_bi2 {h h1 h2 : mH} {A : List Int} {k n x c i1 i2 n2 : Int} (W : mm_WR h h1 A k n) (zk : c = h.2.1 107 k) (a0 : c ≠ 0) (a : c < 1 ∨ 3 < c) (a4 : c ≠ 4) (n3 : 2 ≤ n) (u : mm_up h1 h2 111 i1 x 1) (hx : x = mm_wk9 c (h1.2.1 111 i1) (h1.2.1 111 i2)) (e1 : i1 = n - 1 - 1) (e2 : i2 = n - 1) (e3 : n2 = n - 1) : mm_WR h h2 A (k + 1) n2 := by
  subst zk e1 e2 e3
  exact mm_WR_bi W a0 a a4 n3 u hx

/-! ===== where the clauses stand ===== -/
theorem mm_bl9_pre (q : mm_C3) (O : List Int) (K : List (Int × Int × Int)) : ∃ X e, mm_bl9 q (O, K) = (X ++ O, e :: K) := by
  unfold mm_bl9
  by_cases q1 : q.1 = 2
  · exact ⟨[], (2, 0, 0), by rw [if_pos q1]; rfl⟩
  · by_cases q2 : q.2.2 = []
    · exact ⟨0 :: mm_re q.2.1, _, by rw [if_neg q1, if_pos q2]; rfl⟩
    · refine ⟨0 :: (mm_re q.2.2 ++ (0 :: mm_re q.2.1)), (q.1, (O.length : Int), ((0 :: (mm_re q.2.1 ++ O)).length : Int)), ?_⟩
      rw [if_neg q1, if_neg q2]
      show (0 :: (mm_re q.2.2 ++ (0 :: (mm_re q.2.1 ++ O))), _) = (0 :: (mm_re q.2.2 ++ (0 :: mm_re q.2.1)) ++ O, _)
      rw [List.cons_append, List.append_assoc, List.cons_append]
theorem mm_bs9_pre : ∀ (L : List mm_C3) (O : List Int) (K : List (Int × Int × Int)), ∃ X Y, mm_bs9 L (O, K) = (X ++ O, Y ++ K) ∧ Y.length = L.length
  | [], O, K => ⟨[], [], rfl, rfl⟩
  | q :: L, O, K => by
    obtain ⟨X1, e, h1⟩ := mm_bl9_pre q O K
    obtain ⟨X2, Y2, h2, h3⟩ := mm_bs9_pre L (X1 ++ O) (e :: K)
    refine ⟨X2 ++ X1, Y2 ++ [e], ?_, by rw [List.length_append, h3]; rfl⟩
    show mm_bs9 L (mm_bl9 q (O, K)) = _
    rw [h1, h2, List.append_assoc, List.append_assoc]
    rfl
theorem mm_bs9_cat : ∀ (L M : List mm_C3) (w : mm_O3), mm_bs9 (L ++ M) w = mm_bs9 M (mm_bs9 L w)
  | [], _, _ => rfl
  | _ :: L, M, _ => mm_bs9_cat L M _
theorem mm_at9_sh {c : Int → Int} {B : List Int} {k m : Int} (a : mm_at9 (fun j => c (m + j)) k B) : mm_at9 c (m + k) B := fun i hi => by
  have z := a i hi
  show c (m + k + i) = _
  rw [show m + k + (i : Int) = m + (k + i) by omega]
  exact z
theorem mm_at9_re {t : Int → Int} {A O : List Int} (h : 0 :: (mm_re A ++ O) = mm_sk0 t (0 :: (mm_re A ++ O)).length) : mm_at9 t (O.length : Int) (A.flatMap mm_en ++ [0]) := by
  have e : (A.flatMap mm_en ++ [0]).reverse ++ O = 0 :: (mm_re A ++ O) := by
    rw [List.reverse_append]
    rfl
  exact mm_sk0_at (by rw [e]; exact h)
theorem mm_lL9_of {h : mH} {L : List mm_C3} (w : ∀ q ∈ L, mm_wc9 q) (R : mm_ruY h (mm_bs9 L ([], []))) (c103 : 0 ≤ h.2.1 103 (h.1 66 68)) (b0 : 0 ≤ h.1 66 68) : mm_lL9 h L := by
  rcases R with ⟨a, b⟩ | ⟨a, n, b, d⟩
  · refine Or.inl ⟨a, ?_⟩
    obtain ⟨X, Y, h2, h3⟩ := mm_bs9_pre L [] []
    rw [h2] at b
    have e : Y ++ [] = [] := congrArg Prod.snd b
    rw [List.append_nil] at e
    rw [e] at h3
    exact List.length_eq_zero_iff.mp h3.symm
  · have len : h.2.1 103 (h.1 66 68) = L.length := by
      obtain ⟨X, Y, h2, h3⟩ := mm_bs9_pre L [] []
      rw [h2] at d
      have e : Y ++ [] = mm_kR (h.1 66 68) h := congrArg Prod.snd d
      rw [List.append_nil] at e
      have l := congrArg List.length e
      unfold mm_kR at l
      rw [mm_sk0_len] at l
      omega
    refine Or.inr ⟨a, len, fun i q hq => ?_⟩
    have hi : i < L.length := by
      by_cases z : i < L.length
      · exact z
      · rw [List.getElem?_eq_none (by omega)] at hq; exact absurd hq (by simp)
    have hqm : q ∈ L := List.mem_of_getElem? hq
    have eL : L = L.take i ++ q :: L.drop (i + 1) := by
      have z := List.take_append_drop i L
      rw [List.drop_eq_getElem_cons hi] at z
      rw [List.getElem?_eq_getElem hi] at hq
      injection hq with hq
      rw [hq] at z
      exact z.symm
    obtain ⟨X1, Y1, h1, l1⟩ := mm_bs9_pre (L.take i) [] []
    rw [List.append_nil, List.append_nil] at h1
    have l1' : Y1.length = i := by rw [l1, List.length_take]; omega
    obtain ⟨O0, K0, h0⟩ : ∃ O0 K0, mm_bl9 q (X1, Y1) = (O0, K0) := ⟨_, _, rfl⟩
    obtain ⟨X3, Y3, h3, l3⟩ := mm_bs9_pre (L.drop (i + 1)) O0 K0
    have eT : mm_bs9 L ([], []) = (X3 ++ O0, Y3 ++ K0) := by
      rw [eL, mm_bs9_cat, h1]
      show mm_bs9 (L.drop (i + 1)) (mm_bl9 q (X1, Y1)) = _
      rw [h0, h3]
    rw [eT] at d
    have dO : X3 ++ O0 = mm_sk0 (fun j => h.2.1 107 (1200 * h.1 66 68 + j)) n := congrArg Prod.fst d
    have dK : Y3 ++ K0 = mm_kR (h.1 66 68) h := congrArg Prod.snd d
    have sO := mm_sk0_suf X3 n O0 dO.symm
    unfold mm_kR at dK
    have sK := mm_sk0_suf Y3 _ K0 dK.symm
    unfold mm_bl9 at h0
    have ent : ∀ e : Int × Int × Int, K0 = e :: Y1 → e = mm_en9 (h.1 66 68) h i := fun e he => by
      rw [he, List.length_cons, l1'] at sK
      have z : e :: Y1 = mm_en9 (h.1 66 68) h (i : Int) :: mm_sk0 (mm_en9 (h.1 66 68) h) i := sK
      injection z
    by_cases q1 : q.1 = 2
    · rw [if_pos q1] at h0
      have e := ent (2, 0, 0) (congrArg Prod.snd h0).symm
      refine Or.inl ⟨q1, ?_⟩
      unfold mm_en9 at e
      by_cases z : h.2.1 104 (20 * h.1 66 68 + i) = 3
      · exact z
      · rw [if_neg z] at e
        have e1 : (2 : Int) = if h.2.1 104 (20 * h.1 66 68 + i) = 2 then 7 else h.2.1 104 (20 * h.1 66 68 + i) := congrArg Prod.fst e
        split at e1 <;> omega
    · have wq := (w q hqm).resolve_left q1
      rw [if_neg q1] at h0
      by_cases q2 : q.2.2 = []
      · rw [if_pos q2] at h0
        have hO : O0 = 0 :: (mm_re q.2.1 ++ X1) := (congrArg Prod.fst h0).symm
        have e := ent (q.1, (X1.length : Int), -1) (congrArg Prod.snd h0).symm
        unfold mm_en9 at e
        by_cases z : h.2.1 104 (20 * h.1 66 68 + i) = 3
        · rw [if_pos z] at e
          exact absurd (congrArg Prod.fst e) q1
        · rw [if_neg z] at e
          have e0 : q.1 = if h.2.1 104 (20 * h.1 66 68 + i) = 2 then 7 else h.2.1 104 (20 * h.1 66 68 + i) := congrArg Prod.fst e
          have e1 : q.1 = h.2.1 104 (20 * h.1 66 68 + i) := by have z9 := wq.1; split at e0 <;> omega
          have e2 : (X1.length : Int) = h.2.1 105 (20 * h.1 66 68 + i) - 1200 * h.1 66 68 := congrArg (fun x : Int × Int × Int => x.2.1) e
          have e3 : (-1 : Int) = if h.2.1 106 (20 * h.1 66 68 + i) = -1 then -1 else if h.2.1 106 (20 * h.1 66 68 + i) < 1200 * h.1 66 68 then -2 else h.2.1 106 (20 * h.1 66 68 + i) - 1200 * h.1 66 68 := congrArg (fun x : Int × Int × Int => x.2.2) e
          rw [hO] at sO
          have k := mm_at9_sh (mm_at9_re sO)
          refine Or.inr ⟨wq.1, e1.symm, by rw [show h.2.1 105 (20 * h.1 66 68 + i) = 1200 * h.1 66 68 + (X1.length : Int) by omega]; exact k, Or.inl ⟨q2, ?_⟩⟩
          split at e3
          · assumption
          · split at e3 <;> omega
      · rw [if_neg q2] at h0
        have hO : O0 = 0 :: (mm_re q.2.2 ++ (0 :: (mm_re q.2.1 ++ X1))) := (congrArg Prod.fst h0).symm
        have e := ent (q.1, (X1.length : Int), ((0 :: (mm_re q.2.1 ++ X1)).length : Int)) (congrArg Prod.snd h0).symm
        unfold mm_en9 at e
        by_cases z : h.2.1 104 (20 * h.1 66 68 + i) = 3
        · rw [if_pos z] at e
          exact absurd (congrArg Prod.fst e) q1
        · rw [if_neg z] at e
          have e0 : q.1 = if h.2.1 104 (20 * h.1 66 68 + i) = 2 then 7 else h.2.1 104 (20 * h.1 66 68 + i) := congrArg Prod.fst e
          have e1 : q.1 = h.2.1 104 (20 * h.1 66 68 + i) := by have z9 := wq.1; split at e0 <;> omega
          have e2 : (X1.length : Int) = h.2.1 105 (20 * h.1 66 68 + i) - 1200 * h.1 66 68 := congrArg (fun x : Int × Int × Int => x.2.1) e
          have e3 : ((0 :: (mm_re q.2.1 ++ X1)).length : Int) = if h.2.1 106 (20 * h.1 66 68 + i) = -1 then -1 else if h.2.1 106 (20 * h.1 66 68 + i) < 1200 * h.1 66 68 then -2 else h.2.1 106 (20 * h.1 66 68 + i) - 1200 * h.1 66 68 := congrArg (fun x : Int × Int × Int => x.2.2) e
          rw [hO] at sO
          have k2 := mm_at9_sh (mm_at9_re sO)
          have s2 := mm_sk0_suf (0 :: mm_re q.2.2) _ (0 :: (mm_re q.2.1 ++ X1)) sO.symm
          have k1 := mm_at9_sh (mm_at9_re s2)
          have u : h.2.1 106 (20 * h.1 66 68 + i) ≠ -1 ∧ h.2.1 106 (20 * h.1 66 68 + i) = 1200 * h.1 66 68 + ((0 :: (mm_re q.2.1 ++ X1)).length : Int) := by
            split at e3
            · omega
            · split at e3
              · omega
              · exact ⟨by assumption, by omega⟩
          refine Or.inr ⟨wq.1, e1.symm, by rw [show h.2.1 105 (20 * h.1 66 68 + i) = 1200 * h.1 66 68 + (X1.length : Int) by omega]; exact k1, Or.inr ⟨q2, u.1, by rw [u.2]; exact k2⟩⟩

set_option maxRecDepth 100000 in
set_option maxHeartbeats 4000000 in
theorem c_X8_truth_q (l : Launch) (hl : l.stackTraces = false) (d : Nat) (hd : 0 ≤ d) (h : mH) (i0 : mm_inv h) (p0 : Int) (bp0 : 0 ≤ p0 ∧ p0 ≤ 1) : mm_Met l d yX8_truth cX8_truth 1 (some .int) [mI p0] h (mm_pi fun r h2 => (0 ≤ r ∧ r ≤ 1) ∧ h2 = h ∧ r = p0) mm_nx 0 0 := by
  refine mm_ofW (ls := [mI p0]) hl (by decide) rfl (Nat.le_of_ble_eq_true rfl) ?_
  intro x hxl C T hnm htb
  subst hxl
  refine mm_rng (fun hr _ => ?_)
  have ap0 : -2147483648 ≤ p0 ∧ p0 < 2147483648 := mm_ok_at hr (i := 0) rfl
  have f0 : mm_fr [] [] h h := mm_fr_rf
  refine mm_iload_n C (mm_dec dk_X8_truth 0 rfl) rfl ?_
  have J9 : ∀ (s9_0 : Int) (bs9_0 : 0 ≤ s9_0 ∧ s9_0 ≤ 1) (w9_0 : s9_0 = p0) (vs9_0 : (p0 = 0 ∧ s9_0 = 0) ∨ (p0 ≠ 0 ∧ s9_0 = 1)), mm_W x 0 0 9 [mU] [mI s9_0] h := by
    intro s9_0 bs9_0 w9_0 vs9_0
    exact mm_iret C T (mm_dec dk_X8_truth 5 rfl) (by decide : 0 ≤ 0) (by decide : 0 ≤ 0) ⟨_, rfl, ⟨⟨by omega, by omega⟩, rfl, by omega⟩⟩
  refine mm_if_eq (tgt := 8) C (mm_dec dk_X8_truth 1 rfl) (by decide) (fun c1 => ?_) (fun c1 => ?_)
  · skip
    refine mm_iconst C (mm_dec dk_X8_truth 4 rfl) ⟨by decide, by decide⟩ ?_
    refine mm_fgt 0 ?_
    exact J9 0 ⟨by omega, by omega⟩ (by omega) (Or.inl ⟨by omega, rfl⟩)
  · skip
    refine mm_iconst C (mm_dec dk_X8_truth 2 rfl) ⟨by decide, by decide⟩ ?_
    refine mm_goto (tgt := 9) C (mm_dec dk_X8_truth 3 rfl) (by decide) ?_
    refine mm_fgt 0 ?_
    exact J9 1 ⟨by omega, by omega⟩ (by omega) (Or.inr (⟨by omega, rfl⟩))
set_option maxRecDepth 100000 in
set_option maxHeartbeats 4000000 in
theorem c_X8_push_q (l : Launch) (hl : l.stackTraces = false) (d : Nat) (hd : 0 ≤ d) (h : mH) (i0 : mm_inv h) (p1 : Int) : mm_Met l d yX8_push cX8_push 2 none [mR 42, mI p1] h (mm_pv fun h2 => mm_inv h2 ∧ mm_fr [(42, 4)] [45] h h2 ∧ mm_sX h2 = mm_pu9 (mm_sX h) p1) mm_nx 0 0 := by
  refine mm_ofW (ls := [mR 42, mI p1]) hl (by decide) rfl (Nat.le_of_ble_eq_true rfl) ?_
  intro x hxl C T hnm htb
  subst hxl
  refine mm_rng (fun hr _ => ?_)
  have ap1 : -2147483648 ≤ p1 ∧ p1 < 2147483648 := mm_ok_at hr (i := 1) rfl
  have f0 : mm_fr [(42, 4)] [45] h h := mm_fr_rf
  have g1 : 0 ≤ h.1 42 4 ∧ h.1 42 4 ≤ 64 := i0.1 42 4
  refine mm_aload_n C (mm_dec dk_X8_push 0 rfl) rfl ?_
  refine mm_geti C fl_X8_25 (mm_dec dk_X8_push 1 rfl) rfl rfl (Or.inl rfl) ?_
  refine mm_bipush C (mm_dec dk_X8_push 2 rfl) ⟨by decide, by decide⟩ ?_
  have J29 : ∀ (h29_ : mH) (i29_ : mm_inv h29_) (f29_ : mm_fr [(42, 4)] [45] h h29_) (w29_0 : mm_sX h29_ = mm_pu9 (mm_sX h) p1), mm_W x 0 0 29 [mU, mU] [] h29_ := by
    intro h29_ i29_ f29_ w29_0
    have g2 : 0 ≤ h29_.1 42 4 ∧ h29_.1 42 4 ≤ 64 := i29_.1 42 4
    exact mm_vret C T (mm_dec dk_X8_push 16 rfl) (by decide : 0 ≤ 0) (by decide : 0 ≤ 0) ⟨rfl, ⟨i29_, f29_, by exact w29_0⟩⟩
  refine mm_icmp_ge (tgt := 29) C (mm_dec dk_X8_push 3 rfl) (by decide) (fun c6 => ?_) (fun c6 => ?_)
  · skip
    refine mm_fgt 0 ?_
    refine mm_fgt 1 ?_
    exact J29 h i0 f0 (by first | exact mm_sX_no (by omega) | exact mm_sX_pu (by omega) (by omega) (mm_up_pa (fun _ => rfl) eh1 (fun j => mm_sm_pf 45 eh2 j) rfl rfl) (by omega))
  · skip
    refine mm_aload_n C (mm_dec dk_X8_push 4 rfl) rfl ?_
    refine mm_getr (t := 45) C fl_X8_18 (mm_dec dk_X8_push 5 rfl) rfl rfl (mm_ref i0 rfl) ?_
    refine mm_aload_n C (mm_dec dk_X8_push 6 rfl) rfl ?_
    refine mm_geti C fl_X8_25 (mm_dec dk_X8_push 7 rfl) rfl rfl (Or.inl rfl) ?_
    refine mm_iload_n C (mm_dec dk_X8_push 8 rfl) rfl ?_
    refine mm_iast C (mm_dec dk_X8_push 9 rfl) rfl (by omega) (by omega) ?_
    have i1 : mm_inv (mm_pa h 45 (h.1 42 4) p1) := mm_inv_pa i0 (show -2147483648 ≤ p1 ∧ p1 ≤ 2147483647 from ⟨by omega, by omega⟩)
    have f1 : mm_fr [(42, 4)] [45] h (mm_pa h 45 (h.1 42 4) p1) := mm_fr_pa f0 (by decide)
    obtain ⟨h1, eh1⟩ : ∃ z, z = mm_pa h 45 (h.1 42 4) p1 := ⟨_, rfl⟩
    rw [← eh1] at i1 f1 ⊢
    have qh1_3 : h1.1 42 4 = h.1 42 4 := by rw [eh1]; rfl
    refine mm_aload_n C (mm_dec dk_X8_push 10 rfl) rfl ?_
    refine mm_dup C (mm_dec dk_X8_push 11 rfl) (show (2 : Nat) ≠ 1 by decide) ?_
    refine mm_geti C fl_X8_25 (mm_dec dk_X8_push 12 rfl) rfl rfl (Or.inl rfl) ?_
    refine mm_iconst C (mm_dec dk_X8_push 13 rfl) ⟨by decide, by decide⟩ ?_
    refine mm_iadd C (mm_dec dk_X8_push 14 rfl) ⟨by omega, by omega⟩ ?_
    refine mm_puti C fl_X8_25 (mm_dec dk_X8_push 15 rfl) rfl rfl rfl (Or.inl ⟨rfl, rfl⟩) ?_
    have i2 : mm_inv (mm_pf h1 42 4 ((h1.1 42 4) + 1)) := mm_inv_pf i1 (show 0 ≤ ((h1.1 42 4) + 1) ∧ ((h1.1 42 4) + 1) ≤ 64 from ⟨by omega, by omega⟩) (by decide)
    have f2 : mm_fr [(42, 4)] [45] h (mm_pf h1 42 4 ((h1.1 42 4) + 1)) := mm_fr_pf f1 (by decide)
    obtain ⟨h2, eh2⟩ : ∃ z, z = mm_pf h1 42 4 ((h1.1 42 4) + 1) := ⟨_, rfl⟩
    rw [← eh2] at i2 f2 ⊢
    have qh2 : h2.1 42 4 = ((h1.1 42 4) + 1) := by rw [eh2]; exact mm_pf_same _ _ _ _
    refine mm_fgt 0 ?_
    refine mm_fgt 1 ?_
    exact J29 h2 i2 f2 (by first | exact mm_sX_no (by omega) | exact mm_sX_pu (by omega) (by omega) (mm_up_pa (fun _ => rfl) eh1 (fun j => mm_sm_pf 45 eh2 j) rfl rfl) (by omega))
set_option maxRecDepth 100000 in
set_option maxHeartbeats 4000000 in
theorem c_X8_pop_q (l : Launch) (hl : l.stackTraces = false) (d : Nat) (hd : 0 ≤ d) (h : mH) (i0 : mm_inv h) : mm_Met l d yX8_pop cX8_pop 1 (some .int) [mR 42] h (mm_pi fun r h2 => (-2147483648 ≤ r ∧ r ≤ 2147483647) ∧ mm_inv h2 ∧ mm_fr [(42, 4)] [] h h2 ∧ r = (mm_sX h).headD 0 ∧ mm_sX h2 = (mm_sX h).tail) mm_nx 0 0 := by
  refine mm_ofW (ls := [mR 42]) hl (by decide) rfl (Nat.le_of_ble_eq_true rfl) ?_
  intro x hxl C T hnm htb
  subst hxl
  have f0 : mm_fr [(42, 4)] [] h h := mm_fr_rf
  have g1 : 0 ≤ h.1 42 4 ∧ h.1 42 4 ≤ 64 := i0.1 42 4
  refine mm_aload_n C (mm_dec dk_X8_pop 0 rfl) rfl ?_
  refine mm_geti C fl_X8_25 (mm_dec dk_X8_pop 1 rfl) rfl rfl (Or.inl rfl) ?_
  refine mm_if_ne (tgt := 9) C (mm_dec dk_X8_pop 2 rfl) (by decide) (fun c4 => ?_) (fun c4 => ?_)
  · skip
    refine mm_aload_n C (mm_dec dk_X8_pop 5 rfl) rfl ?_
    refine mm_dup C (mm_dec dk_X8_pop 6 rfl) (show (2 : Nat) ≠ 1 by decide) ?_
    refine mm_geti C fl_X8_25 (mm_dec dk_X8_pop 7 rfl) rfl rfl (Or.inl rfl) ?_
    refine mm_iconst C (mm_dec dk_X8_pop 8 rfl) ⟨by decide, by decide⟩ ?_
    refine mm_isub C (mm_dec dk_X8_pop 9 rfl) ⟨by omega, by omega⟩ ?_
    refine mm_puti C fl_X8_25 (mm_dec dk_X8_pop 10 rfl) rfl rfl rfl (Or.inl ⟨rfl, rfl⟩) ?_
    have i1 : mm_inv (mm_pf h 42 4 ((h.1 42 4) - 1)) := mm_inv_pf i0 (show 0 ≤ ((h.1 42 4) - 1) ∧ ((h.1 42 4) - 1) ≤ 64 from ⟨by omega, by omega⟩) (by decide)
    have f1 : mm_fr [(42, 4)] [] h (mm_pf h 42 4 ((h.1 42 4) - 1)) := mm_fr_pf f0 (by decide)
    obtain ⟨h1, eh1⟩ : ∃ z, z = mm_pf h 42 4 ((h.1 42 4) - 1) := ⟨_, rfl⟩
    rw [← eh1] at i1 f1 ⊢
    have qh1 : h1.1 42 4 = ((h.1 42 4) - 1) := by rw [eh1]; exact mm_pf_same _ _ _ _
    refine mm_aload_n C (mm_dec dk_X8_pop 11 rfl) rfl ?_
    refine mm_getr (t := 45) C fl_X8_18 (mm_dec dk_X8_pop 12 rfl) rfl rfl (mm_ref i1 rfl) ?_
    refine mm_aload_n C (mm_dec dk_X8_pop 13 rfl) rfl ?_
    refine mm_geti C fl_X8_25 (mm_dec dk_X8_pop 14 rfl) rfl rfl (Or.inl rfl) ?_
    refine mm_iald C (mm_dec dk_X8_pop 15 rfl) rfl (by omega) (by omega) ?_
    have g2 : -2147483648 ≤ (h1.2.1 45 (h1.1 42 4)) ∧ (h1.2.1 45 (h1.1 42 4)) ≤ 2147483647 := i1.2.1 45 (h1.1 42 4)
    exact mm_iret C T (mm_dec dk_X8_pop 16 rfl) (by decide : 0 ≤ 0) (by decide : 0 ≤ 0) ⟨_, rfl, ⟨⟨by omega, by omega⟩, i1, f1, by first | exact (mm_sX_p0 (by omega)).1 | exact ((mm_sm_pf 45 eh1 _).trans (congrArg (h.2.1 45) (by omega))).trans (mm_sX_po (by omega) (by omega) (fun j => mm_sm_pf 45 eh1 j)).1, by first | exact (mm_sX_p0 (by omega)).2 | exact (mm_sX_po (by omega) (by omega) (fun j => mm_sm_pf 45 eh1 j)).2⟩⟩
  · skip
    refine mm_iconst C (mm_dec dk_X8_pop 3 rfl) ⟨by decide, by decide⟩ ?_
    exact mm_iret C T (mm_dec dk_X8_pop 4 rfl) (by decide : 0 ≤ 0) (by decide : 0 ≤ 0) ⟨_, rfl, ⟨⟨by omega, by omega⟩, i0, f0, by first | exact (mm_sX_p0 (by omega)).1 | exact ((mm_sm_pf 45 eh1 _).trans (congrArg (h.2.1 45) (by omega))).trans (mm_sX_po (by omega) (by omega) (fun j => mm_sm_pf 45 eh1 j)).1, by first | exact (mm_sX_p0 (by omega)).2 | exact (mm_sX_po (by omega) (by omega) (fun j => mm_sm_pf 45 eh1 j)).2⟩⟩
set_option maxRecDepth 100000 in
set_option maxHeartbeats 4000000 in
theorem c_X8_joined_q (l : Launch) (hl : l.stackTraces = false) (d : Nat) (hd : 1 ≤ d) (h : mH) (i0 : mm_inv h) (p0 : Int) (p1 : Int) (p2 : Int) : mm_Met l d yX8_joined cX8_joined 3 (some .int) [mI p0, mI p1, mI p2] h (mm_pi fun r h2 => (-2147483648 ≤ r ∧ r ≤ 2147483647) ∧ h2 = h ∧ r = mm_jn p0 p1 p2) mm_nx 0 0 := by
  refine mm_ofW (ls := [mI p0, mI p1, mI p2]) hl (by decide) rfl (Nat.le_of_ble_eq_true rfl) ?_
  intro x hxl C T hnm htb
  subst hxl
  have C1 := mm_OK_le (d' := d - 1 + 1) (by omega) C
  refine mm_rng (fun hr _ => ?_)
  have ap0 : -2147483648 ≤ p0 ∧ p0 < 2147483648 := mm_ok_at hr (i := 0) rfl
  have ap1 : -2147483648 ≤ p1 ∧ p1 < 2147483648 := mm_ok_at hr (i := 1) rfl
  have ap2 : -2147483648 ≤ p2 ∧ p2 < 2147483648 := mm_ok_at hr (i := 2) rfl
  have f0 : mm_fr [] [] h h := mm_fr_rf
  refine mm_iload_n C (mm_dec dk_X8_joined 0 rfl) rfl ?_
  refine mm_table (t0 := 148) [52, 69, 86, 100, 114, 118, 122, 126, 138] C (mm_dec dk_X8_joined 1 rfl) (by decide) (by decide) (by decide +kernel) (fun c1 => ?_) (fun k1 hk1 c1 => ?_)
  · skip
    refine mm_iconst C (mm_dec dk_X8_joined 62 rfl) ⟨by decide, by decide⟩ ?_
    exact mm_iret C T (mm_dec dk_X8_joined 63 rfl) (by decide : 0 ≤ 0) (by decide : 0 ≤ 0) ⟨_, rfl, ⟨⟨by omega, by omega⟩, rfl, by (unfold mm_jn; (repeat' split) <;> omega)⟩⟩
  · have hq1 : k1 < 9 := hk1
    rcases (by omega : k1 = 0 ∨ k1 = 1 ∨ k1 = 2 ∨ k1 = 3 ∨ k1 = 4 ∨ k1 = 5 ∨ k1 = 6 ∨ k1 = 7 ∨ k1 = 8) with rfl | rfl | rfl | rfl | rfl | rfl | rfl | rfl | rfl
    · show mm_W x 0 0 52 _ _ _
      refine mm_iload_n C (mm_dec dk_X8_joined 2 rfl) rfl ?_
      have J65 : ∀ (s65_0 : Int) (bs65_0 : 0 ≤ s65_0 ∧ s65_0 ≤ 1) (w65_0 : p0 = 100011) (w65_1 : ((p1 ≠ 0 ∨ p2 ≠ 0 ∧ s65_0 = 1) ∨ (¬ (p1 ≠ 0 ∨ p2 ≠ 0) ∧ s65_0 = 0))) (vs65_0 : (p1 = 0 ∧ p2 = 0 ∧ s65_0 = 0) ∨ (s65_0 = 1)), mm_W x 0 0 65 [mU, mU, mU] [mI s65_0] h := by
        intro s65_0 bs65_0 w65_0 w65_1 vs65_0
        refine mm_cSi (rest := []) C1 es_X8_56 (mm_dec dk_X8_joined 9 rfl) (c_X8_truth_q x.2.1 hl (d - 1) (by omega) h i0 s65_0 ⟨by omega, by omega⟩) rfl (Nat.le_of_ble_eq_true rfl) ⟨by decide, by decide⟩ rfl (fun r65 h65c hp65 => ?_) (fun _ _ q => q.elim)
        obtain ⟨b65, z65, y65_0⟩ := hp65
        rw [z65]
        exact mm_iret C T (mm_dec dk_X8_joined 10 rfl) (by decide : 0 ≤ 0) (by decide : 0 ≤ 0) ⟨_, rfl, ⟨⟨by omega, by omega⟩, rfl, by (unfold mm_jn; (repeat' split) <;> omega)⟩⟩
      have J60 : ∀ (w60_0 : p0 = 100011) (w60_1 : (p1 ≠ 0 ∨ p2 ≠ 0)), mm_W x 0 0 60 [mU, mU, mU] [] h := by
        intro w60_0 w60_1
        refine mm_iconst C (mm_dec dk_X8_joined 6 rfl) ⟨by decide, by decide⟩ ?_
        refine mm_goto (tgt := 65) C (mm_dec dk_X8_joined 7 rfl) (by decide) ?_
        exact J65 1 ⟨by omega, by omega⟩ (by omega) (by omega) (Or.inr (rfl))
      refine mm_if_ne (tgt := 60) C (mm_dec dk_X8_joined 3 rfl) (by decide) (fun c53 => ?_) (fun c53 => ?_)
      · skip
        refine mm_fgt 0 ?_
        refine mm_fgt 1 ?_
        refine mm_fgt 2 ?_
        exact J60 (by omega) (by omega)
      · skip
        refine mm_iload_n C (mm_dec dk_X8_joined 4 rfl) rfl ?_
        refine mm_if_eq (tgt := 64) C (mm_dec dk_X8_joined 5 rfl) (by decide) (fun c57 => ?_) (fun c57 => ?_)
        · skip
          refine mm_iconst C (mm_dec dk_X8_joined 8 rfl) ⟨by decide, by decide⟩ ?_
          refine mm_fgt 0 ?_
          refine mm_fgt 1 ?_
          refine mm_fgt 2 ?_
          exact J65 0 ⟨by omega, by omega⟩ (by omega) (by omega) (Or.inl ⟨by omega, by omega, rfl⟩)
        · skip
          refine mm_fgt 0 ?_
          refine mm_fgt 1 ?_
          refine mm_fgt 2 ?_
          exact J60 (by omega) (by omega)
    · show mm_W x 0 0 69 _ _ _
      refine mm_iload_n C (mm_dec dk_X8_joined 11 rfl) rfl ?_
      have J82 : ∀ (s82_0 : Int) (bs82_0 : 0 ≤ s82_0 ∧ s82_0 ≤ 1) (w82_0 : p0 = 100012) (w82_1 : ((p1 ≠ 0 ∧ p2 ≠ 0 ∧ s82_0 = 1) ∨ (¬ (p1 ≠ 0 ∧ p2 ≠ 0) ∧ s82_0 = 0))) (vs82_0 : (s82_0 = 0) ∨ (p1 ≠ 0 ∧ p2 ≠ 0 ∧ s82_0 = 1)), mm_W x 0 0 82 [mU, mU, mU] [mI s82_0] h := by
        intro s82_0 bs82_0 w82_0 w82_1 vs82_0
        refine mm_cSi (rest := []) C1 es_X8_56 (mm_dec dk_X8_joined 18 rfl) (c_X8_truth_q x.2.1 hl (d - 1) (by omega) h i0 s82_0 ⟨by omega, by omega⟩) rfl (Nat.le_of_ble_eq_true rfl) ⟨by decide, by decide⟩ rfl (fun r82 h82c hp82 => ?_) (fun _ _ q => q.elim)
        obtain ⟨b82, z82, y82_0⟩ := hp82
        rw [z82]
        exact mm_iret C T (mm_dec dk_X8_joined 19 rfl) (by decide : 0 ≤ 0) (by decide : 0 ≤ 0) ⟨_, rfl, ⟨⟨by omega, by omega⟩, rfl, by (unfold mm_jn; (repeat' split) <;> omega)⟩⟩
      have J81 : ∀ (w81_0 : p0 = 100012) (w81_1 : (p1 = 0 ∨ p2 = 0)), mm_W x 0 0 81 [mU, mU, mU] [] h := by
        intro w81_0 w81_1
        refine mm_iconst C (mm_dec dk_X8_joined 17 rfl) ⟨by decide, by decide⟩ ?_
        exact J82 0 ⟨by omega, by omega⟩ (by omega) (by omega) (Or.inl rfl)
      refine mm_if_eq (tgt := 81) C (mm_dec dk_X8_joined 12 rfl) (by decide) (fun c70 => ?_) (fun c70 => ?_)
      · skip
        refine mm_fgt 0 ?_
        refine mm_fgt 1 ?_
        refine mm_fgt 2 ?_
        exact J81 (by omega) (by omega)
      · skip
        refine mm_iload_n C (mm_dec dk_X8_joined 13 rfl) rfl ?_
        refine mm_if_eq (tgt := 81) C (mm_dec dk_X8_joined 14 rfl) (by decide) (fun c74 => ?_) (fun c74 => ?_)
        · skip
          refine mm_fgt 0 ?_
          refine mm_fgt 1 ?_
          refine mm_fgt 2 ?_
          exact J81 (by omega) (by omega)
        · skip
          refine mm_iconst C (mm_dec dk_X8_joined 15 rfl) ⟨by decide, by decide⟩ ?_
          refine mm_goto (tgt := 82) C (mm_dec dk_X8_joined 16 rfl) (by decide) ?_
          refine mm_fgt 0 ?_
          refine mm_fgt 1 ?_
          refine mm_fgt 2 ?_
          exact J82 1 ⟨by omega, by omega⟩ (by omega) (by omega) (Or.inr (⟨by omega, by omega, rfl⟩))
    · show mm_W x 0 0 86 _ _ _
      refine mm_iload_n C (mm_dec dk_X8_joined 20 rfl) rfl ?_
      refine mm_iload_n C (mm_dec dk_X8_joined 21 rfl) rfl ?_
      have J96 : ∀ (s96_0 : Int) (bs96_0 : 0 ≤ s96_0 ∧ s96_0 ≤ 1) (w96_0 : p0 = 100013) (w96_1 : ((p1 < p2 ∧ s96_0 = 1) ∨ (¬ (p1 < p2) ∧ s96_0 = 0))) (vs96_0 : (p2 ≤ p1 ∧ s96_0 = 0) ∨ (p1 < p2 ∧ s96_0 = 1)), mm_W x 0 0 96 [mU, mU, mU] [mI s96_0] h := by
        intro s96_0 bs96_0 w96_0 w96_1 vs96_0
        refine mm_cSi (rest := []) C1 es_X8_56 (mm_dec dk_X8_joined 26 rfl) (c_X8_truth_q x.2.1 hl (d - 1) (by omega) h i0 s96_0 ⟨by omega, by omega⟩) rfl (Nat.le_of_ble_eq_true rfl) ⟨by decide, by decide⟩ rfl (fun r96 h96c hp96 => ?_) (fun _ _ q => q.elim)
        obtain ⟨b96, z96, y96_0⟩ := hp96
        rw [z96]
        exact mm_iret C T (mm_dec dk_X8_joined 27 rfl) (by decide : 0 ≤ 0) (by decide : 0 ≤ 0) ⟨_, rfl, ⟨⟨by omega, by omega⟩, rfl, by (unfold mm_jn; (repeat' split) <;> omega)⟩⟩
      refine mm_icmp_ge (tgt := 95) C (mm_dec dk_X8_joined 22 rfl) (by decide) (fun c88 => ?_) (fun c88 => ?_)
      · skip
        refine mm_iconst C (mm_dec dk_X8_joined 25 rfl) ⟨by decide, by decide⟩ ?_
        refine mm_fgt 0 ?_
        refine mm_fgt 1 ?_
        refine mm_fgt 2 ?_
        exact J96 0 ⟨by omega, by omega⟩ (by omega) (by omega) (Or.inl ⟨by omega, rfl⟩)
      · skip
        refine mm_iconst C (mm_dec dk_X8_joined 23 rfl) ⟨by decide, by decide⟩ ?_
        refine mm_goto (tgt := 96) C (mm_dec dk_X8_joined 24 rfl) (by decide) ?_
        refine mm_fgt 0 ?_
        refine mm_fgt 1 ?_
        refine mm_fgt 2 ?_
        exact J96 1 ⟨by omega, by omega⟩ (by omega) (by omega) (Or.inr (⟨by omega, rfl⟩))
    · show mm_W x 0 0 100 _ _ _
      refine mm_iload_n C (mm_dec dk_X8_joined 28 rfl) rfl ?_
      refine mm_iload_n C (mm_dec dk_X8_joined 29 rfl) rfl ?_
      have J110 : ∀ (s110_0 : Int) (bs110_0 : 0 ≤ s110_0 ∧ s110_0 ≤ 1) (w110_0 : p0 = 100014) (w110_1 : ((p1 = p2 ∧ s110_0 = 1) ∨ (¬ (p1 = p2) ∧ s110_0 = 0))) (vs110_0 : (p1 ≠ p2 ∧ s110_0 = 0) ∨ (p1 = p2 ∧ s110_0 = 1)), mm_W x 0 0 110 [mU, mU, mU] [mI s110_0] h := by
        intro s110_0 bs110_0 w110_0 w110_1 vs110_0
        refine mm_cSi (rest := []) C1 es_X8_56 (mm_dec dk_X8_joined 34 rfl) (c_X8_truth_q x.2.1 hl (d - 1) (by omega) h i0 s110_0 ⟨by omega, by omega⟩) rfl (Nat.le_of_ble_eq_true rfl) ⟨by decide, by decide⟩ rfl (fun r110 h110c hp110 => ?_) (fun _ _ q => q.elim)
        obtain ⟨b110, z110, y110_0⟩ := hp110
        rw [z110]
        exact mm_iret C T (mm_dec dk_X8_joined 35 rfl) (by decide : 0 ≤ 0) (by decide : 0 ≤ 0) ⟨_, rfl, ⟨⟨by omega, by omega⟩, rfl, by (unfold mm_jn; (repeat' split) <;> omega)⟩⟩
      refine mm_icmp_ne (tgt := 109) C (mm_dec dk_X8_joined 30 rfl) (by decide) (fun c102 => ?_) (fun c102 => ?_)
      · skip
        refine mm_iconst C (mm_dec dk_X8_joined 33 rfl) ⟨by decide, by decide⟩ ?_
        refine mm_fgt 0 ?_
        refine mm_fgt 1 ?_
        refine mm_fgt 2 ?_
        exact J110 0 ⟨by omega, by omega⟩ (by omega) (by omega) (Or.inl ⟨by omega, rfl⟩)
      · skip
        refine mm_iconst C (mm_dec dk_X8_joined 31 rfl) ⟨by decide, by decide⟩ ?_
        refine mm_goto (tgt := 110) C (mm_dec dk_X8_joined 32 rfl) (by decide) ?_
        refine mm_fgt 0 ?_
        refine mm_fgt 1 ?_
        refine mm_fgt 2 ?_
        exact J110 1 ⟨by omega, by omega⟩ (by omega) (by omega) (Or.inr (⟨by omega, rfl⟩))
    · show mm_W x 0 0 114 _ _ _
      refine mm_iload_n C (mm_dec dk_X8_joined 36 rfl) rfl ?_
      refine mm_iload_n C (mm_dec dk_X8_joined 37 rfl) rfl ?_
      refine mm_iaddw C (mm_dec dk_X8_joined 38 rfl) ?_
      have g5 : -2147483648 ≤ (mm_w (p1 + p2)) ∧ (mm_w (p1 + p2)) < 2147483648 := mm_w_rg _
      exact mm_iret C T (mm_dec dk_X8_joined 39 rfl) (by decide : 0 ≤ 0) (by decide : 0 ≤ 0) ⟨_, rfl, ⟨⟨by omega, by omega⟩, rfl, by (unfold mm_jn; (repeat' split) <;> omega)⟩⟩
    · show mm_W x 0 0 118 _ _ _
      refine mm_iload_n C (mm_dec dk_X8_joined 40 rfl) rfl ?_
      refine mm_iload_n C (mm_dec dk_X8_joined 41 rfl) rfl ?_
      refine mm_isubw C (mm_dec dk_X8_joined 42 rfl) ?_
      have g6 : -2147483648 ≤ (mm_w (p1 - p2)) ∧ (mm_w (p1 - p2)) < 2147483648 := mm_w_rg _
      exact mm_iret C T (mm_dec dk_X8_joined 43 rfl) (by decide : 0 ≤ 0) (by decide : 0 ≤ 0) ⟨_, rfl, ⟨⟨by omega, by omega⟩, rfl, by (unfold mm_jn; (repeat' split) <;> omega)⟩⟩
    · show mm_W x 0 0 122 _ _ _
      refine mm_iload_n C (mm_dec dk_X8_joined 44 rfl) rfl ?_
      refine mm_iload_n C (mm_dec dk_X8_joined 45 rfl) rfl ?_
      refine mm_imulw C (mm_dec dk_X8_joined 46 rfl) ?_
      have g7 : -2147483648 ≤ (mm_w (p1 * p2)) ∧ (mm_w (p1 * p2)) < 2147483648 := mm_w_rg _
      exact mm_iret C T (mm_dec dk_X8_joined 47 rfl) (by decide : 0 ≤ 0) (by decide : 0 ≤ 0) ⟨_, rfl, ⟨⟨by omega, by omega⟩, rfl, by (unfold mm_jn; (repeat' split) <;> omega)⟩⟩
    · show mm_W x 0 0 126 _ _ _
      refine mm_iload_n C (mm_dec dk_X8_joined 48 rfl) rfl ?_
      have J137 : ∀ (s137_0 : Int) (bs137_0 : -2147483648 ≤ s137_0 ∧ s137_0 ≤ 2147483647) (w137_0 : p0 = 100018) (w137_1 : ((p2 = 0 ∧ s137_0 = 0) ∨ (p2 ≠ 0 ∧ s137_0 = mm_w (Int.tdiv p1 p2)))), mm_W x 0 0 137 [mU, mU, mU] [mI s137_0] h := by
        intro s137_0 bs137_0 w137_0 w137_1
        exact mm_iret C T (mm_dec dk_X8_joined 55 rfl) (by decide : 0 ≤ 0) (by decide : 0 ≤ 0) ⟨_, rfl, ⟨⟨by omega, by omega⟩, rfl, by (unfold mm_jn; (repeat' split) <;> omega)⟩⟩
      refine mm_if_ne (tgt := 134) C (mm_dec dk_X8_joined 49 rfl) (by decide) (fun c127 => ?_) (fun c127 => ?_)
      · skip
        refine mm_iload_n C (mm_dec dk_X8_joined 52 rfl) rfl ?_
        refine mm_iload_n C (mm_dec dk_X8_joined 53 rfl) rfl ?_
        refine mm_idivw C (mm_dec dk_X8_joined 54 rfl) (by omega) ?_
        have g9 : -2147483648 ≤ (mm_w (Int.tdiv p1 p2)) ∧ (mm_w (Int.tdiv p1 p2)) < 2147483648 := mm_w_rg _
        refine mm_fgt 0 ?_
        refine mm_fgt 1 ?_
        refine mm_fgt 2 ?_
        exact J137 (mm_w (Int.tdiv p1 p2)) ⟨by omega, by omega⟩ (by omega) (by omega)
      · skip
        refine mm_iconst C (mm_dec dk_X8_joined 50 rfl) ⟨by decide, by decide⟩ ?_
        refine mm_goto (tgt := 137) C (mm_dec dk_X8_joined 51 rfl) (by decide) ?_
        refine mm_fgt 0 ?_
        refine mm_fgt 1 ?_
        refine mm_fgt 2 ?_
        exact J137 0 ⟨by omega, by omega⟩ (by omega) (by omega)
    · show mm_W x 0 0 138 _ _ _
      refine mm_iload_n C (mm_dec dk_X8_joined 56 rfl) rfl ?_
      have J147 : ∀ (s147_0 : Int) (bs147_0 : -2147483648 ≤ s147_0 ∧ s147_0 ≤ 2147483647) (w147_0 : p0 = 100019) (w147_1 : ((p2 ≠ 0 ∧ s147_0 = 0) ∨ (p2 = 0 ∧ s147_0 = p1))), mm_W x 0 0 147 [mU, mU, mU] [mI s147_0] h := by
        intro s147_0 bs147_0 w147_0 w147_1
        exact mm_iret C T (mm_dec dk_X8_joined 61 rfl) (by decide : 0 ≤ 0) (by decide : 0 ≤ 0) ⟨_, rfl, ⟨⟨by omega, by omega⟩, rfl, by (unfold mm_jn; (repeat' split) <;> omega)⟩⟩
      refine mm_if_eq (tgt := 146) C (mm_dec dk_X8_joined 57 rfl) (by decide) (fun c139 => ?_) (fun c139 => ?_)
      · skip
        refine mm_iload_n C (mm_dec dk_X8_joined 60 rfl) rfl ?_
        refine mm_fgt 0 ?_
        refine mm_fgt 1 ?_
        refine mm_fgt 2 ?_
        exact J147 p1 ⟨by omega, by omega⟩ (by omega) (by omega)
      · skip
        refine mm_iconst C (mm_dec dk_X8_joined 58 rfl) ⟨by decide, by decide⟩ ?_
        refine mm_goto (tgt := 147) C (mm_dec dk_X8_joined 59 rfl) (by decide) ?_
        refine mm_fgt 0 ?_
        refine mm_fgt 1 ?_
        refine mm_fgt 2 ?_
        exact J147 0 ⟨by omega, by omega⟩ (by omega) (by omega)
