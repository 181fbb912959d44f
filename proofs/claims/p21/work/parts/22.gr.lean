/-! ===== the reference's readers: what they lay down ===== -/
def mm_sk0 {α : Type} (t : Int → α) : Nat → List α
  | 0 => []
  | d + 1 => t (d : Int) :: mm_sk0 t d
theorem mm_sk0_cg {α : Type} {t t' : Int → α} : ∀ d : Nat, (∀ j : Int, 0 ≤ j → j < d → t j = t' j) → mm_sk0 t d = mm_sk0 t' d
  | 0, _ => rfl
  | d + 1, h => by
    unfold mm_sk0
    rw [h (d : Int) (by omega) (by omega), mm_sk0_cg d (fun j a b => h j a (by omega))]
theorem mm_sk0_len {α : Type} (t : Int → α) : ∀ d : Nat, (mm_sk0 t d).length = d
  | 0 => rfl
  | d + 1 => by unfold mm_sk0; rw [List.length_cons, mm_sk0_len t d]
def mm_wW (h : mH) : List Int := mm_sk0 (h.2.1 108) (h.1 66 70).toNat
def mm_oY (B : Int) (h : mH) : List Int := mm_sk0 (fun j => h.2.1 107 (B + j)) (h.1 66 69 - B).toNat
def mm_wo (h h2 : mH) : Prop := h2.1 66 69 = h.1 66 69 ∧ h2.1 66 70 = h.1 66 70 ∧ (∀ j, h2.2.1 107 j = h.2.1 107 j) ∧ ∀ j, h2.2.1 108 j = h.2.1 108 j
theorem mm_wo_rf {h : mH} : mm_wo h h := ⟨rfl, rfl, fun _ => rfl, fun _ => rfl⟩
theorem mm_wo_tr {h h1 h2 : mH} (p : mm_wo h h1) (q : mm_wo h1 h2) : mm_wo h h2 := ⟨q.1.trans p.1, q.2.1.trans p.2.1, fun j => (q.2.2.1 j).trans (p.2.2.1 j), fun j => (q.2.2.2 j).trans (p.2.2.2 j)⟩
theorem mm_wo_fr {wf : List (Nat × Nat)} {wa : List Nat} {h h2 : mH} (f : mm_fr wf wa h h2) (hw : (66, 69) ∉ wf ∧ (66, 70) ∉ wf ∧ 107 ∉ wa ∧ 108 ∉ wa) : mm_wo h h2 := ⟨f.1 66 69 hw.1, f.1 66 70 hw.2.1, f.2 107 hw.2.2.1, f.2 108 hw.2.2.2⟩
theorem mm_wo_pa {h h2 : mH} {o : Nat} {i v : Int} (e : h2 = mm_pa h o i v) (ho : 107 ≠ o ∧ 108 ≠ o) : mm_wo h h2 := by
  subst e
  exact ⟨rfl, rfl, fun j => mm_pa_o 107 o ho.1 j, fun j => mm_pa_o 108 o ho.2 j⟩
theorem mm_wo_pf {h h2 : mH} {k : Nat} {v : Int} (e : h2 = mm_pf h 66 k v) (hk : k ≠ 69 ∧ k ≠ 70) : mm_wo h h2 := by
  subst e
  exact ⟨mm_pf_ne _ _ (fun q => hk.1 q.2.symm), mm_pf_ne _ _ (fun q => hk.2 q.2.symm), fun _ => rfl, fun _ => rfl⟩
theorem mm_wo_W {h h2 : mH} (w : mm_wo h h2) : mm_wW h2 = mm_wW h := by
  unfold mm_wW
  rw [w.2.1, show h2.2.1 108 = h.2.1 108 from funext w.2.2.2]
theorem mm_wo_O {h h2 : mH} (w : mm_wo h h2) (B : Int) : mm_oY B h2 = mm_oY B h := by
  unfold mm_oY
  rw [w.1, show h2.2.1 107 = h.2.1 107 from funext w.2.2.1]
theorem mm_wW_in {h h2 : mH} {v : Int} (d : h2.1 66 70 = h.1 66 70 + 1) (e : ∀ j, h2.2.1 108 j = if j = h.1 66 70 then v else h.2.1 108 j) (d0 : 0 ≤ h.1 66 70) : mm_wW h2 = v :: mm_wW h := by
  unfold mm_wW
  rw [d, show (h.1 66 70 + 1).toNat = (h.1 66 70).toNat + 1 by omega]
  unfold mm_sk0
  rw [e, if_pos (by omega), mm_sk0_cg (t := h2.2.1 108) (t' := h.2.1 108) _ (fun j a b => by rw [e, if_neg (by omega)])]
  cases (h.1 66 70).toNat <;> rfl
theorem mm_wW_out {h h2 : mH} (d : h2.1 66 70 = h.1 66 70 - 1) (e : ∀ j, h2.2.1 108 j = h.2.1 108 j) (d0 : 0 < h.1 66 70) : mm_wW h = h.2.1 108 (h.1 66 70 - 1) :: mm_wW h2 := by
  unfold mm_wW
  rw [d, show (h.1 66 70).toNat = (h.1 66 70 - 1).toNat + 1 by omega, show h2.2.1 108 = h.2.1 108 from funext e]
  show h.2.1 108 ((h.1 66 70 - 1).toNat : Int) :: _ = _
  rw [Int.toNat_of_nonneg (show 0 ≤ h.1 66 70 - 1 by omega)]
theorem mm_wW_nil {h : mH} (d : h.1 66 70 = 0) : mm_wW h = [] := by
  unfold mm_wW
  rw [d]; rfl
theorem mm_oY_in {B v : Int} {h h2 : mH} (d : h2.1 66 69 = h.1 66 69 + 1) (e : ∀ j, h2.2.1 107 j = if j = h.1 66 69 then v else h.2.1 107 j) (hB : B ≤ h.1 66 69) : mm_oY B h2 = v :: mm_oY B h := by
  unfold mm_oY
  rw [d, show (h.1 66 69 + 1 - B).toNat = (h.1 66 69 - B).toNat + 1 by omega]
  show h2.2.1 107 (B + ((h.1 66 69 - B).toNat : Int)) :: _ = _
  rw [e, if_pos (by omega), mm_sk0_cg (t := fun j => h2.2.1 107 (B + j)) (t' := fun j => h.2.1 107 (B + j)) _ (fun j a b => by show h2.2.1 107 (B + j) = _; rw [e, if_neg (by omega)])]
/-! what is dropped -/
def mm_dJ (l : Int) (h h2 : mH) : Prop := h.1 66 69 ≤ h2.1 66 69 ∧ ∀ B, B ≤ h.1 66 69 → mm_drj l (mm_wW h) (mm_oY B h) = mm_drj l (mm_wW h2) (mm_oY B h2)
def mm_DJ (l : Int) (h h2 : mH) : Prop := h.1 66 69 ≤ h2.1 66 69 ∧ ∀ B, B ≤ h.1 66 69 → mm_drj l (mm_wW h) (mm_oY B h) = (mm_wW h2, mm_oY B h2)
theorem mm_dJ_rf {l : Int} {h : mH} : mm_dJ l h h := ⟨Int.le_refl _, fun _ _ => rfl⟩
theorem mm_dJ_pop {l : Int} {h h1 h2 : mH} (D : mm_dJ l h h1) (hp : 0 < h1.1 66 70) (hn : h1.2.1 108 (h1.1 66 70 - 1) ≠ 13) (hs : l ≤ mm_sgj (h1.2.1 108 (h1.1 66 70 - 1))) (e70 : h2.1 66 70 = h1.1 66 70 - 1) (e69 : h2.1 66 69 = h1.1 66 69 + 1) (e7 : ∀ j, h2.2.1 107 j = if j = h1.1 66 69 then h1.2.1 108 (h1.1 66 70 - 1) else h1.2.1 107 j) (e8 : ∀ j, h2.2.1 108 j = h1.2.1 108 j) : mm_dJ l h h2 := by
  refine ⟨by have := D.1; omega, fun B hB => ?_⟩
  rw [D.2 B hB, mm_wW_out e70 e8 hp, mm_drj_y hn hs, mm_oY_in e69 e7 (by have := D.1; omega)]
theorem mm_DJ_of {l : Int} {h h1 : mH} (D : mm_dJ l h h1) (c : h1.1 66 70 = 0 ∨ (0 < h1.1 66 70 ∧ (h1.2.1 108 (h1.1 66 70 - 1) = 13 ∨ mm_sgj (h1.2.1 108 (h1.1 66 70 - 1)) < l))) : mm_DJ l h h1 := by
  refine ⟨D.1, fun B hB => ?_⟩
  rw [D.2 B hB]
  rcases c with c | ⟨c0, c⟩
  · rw [mm_wW_nil c]; rfl
  · have e := mm_wW_out (h := h1) (h2 := mm_pf h1 66 70 (h1.1 66 70 - 1)) (mm_pf_same _ _ _ _) (fun _ => rfl) c0
    rw [e]
    exact mm_drj_n c
/-! operands -/
def mm_fYj (h : mH) : mm_H9 → mm_H9 := mm_sj (mm_tc (mm_UY h) (h.1 66 59)) (mm_tn (mm_UY h) (h.1 66 59)) (mm_tv (mm_UY h) (h.1 66 59))
theorem mm_fYj_eq {h h2 : mH} (t : mm_TYy h h2) : mm_fYj h2 = mm_fYj h := by
  unfold mm_fYj
  rw [mm_TYy_U t, t.2]
def mm_WJ (M : Int) (h h2 : mH) (m j : Int) : Prop := h.1 66 69 ≤ h2.1 66 69 ∧ ∀ (i r : Int) (P : Int → Int) (B : Int) (K : List (Int × Int × Int)), B ≤ h.1 66 69 → mm_Sj (mm_fYj h) (⟨M, mm_kY h, h.1 66 62, 0, i, r, P⟩, (mm_wW h, mm_oY B h, K)) (⟨m, mm_kY h2, h2.1 66 62, j, i, r, P⟩, (mm_wW h2, mm_oY B h2, K))
def mm_g0 (h h2 : mH) (R : Prop) : Prop := h.1 66 57 = 0 → h2.1 66 57 = 0 → R
def mm_I4J (M : Int) (h h2 : mH) (n x : Int) : Prop := mm_g0 h h2 ((x = 1 → mm_WJ M h h2 (1 - n) 0) ∧ (x = 0 → ∃ m j, mm_WJ M h h2 m j ∧ (m = 1 ∨ (m = 0 ∧ mm_cY h2 ≠ 6)) ∧ mm_cY h2 ≠ 140))
def mm_I8J (M : Int) (h h2 : mH) (n j : Int) : Prop := mm_g0 h h2 (mm_WJ M h h2 (1 - n) j ∧ (n = 0 → j = 0))
theorem mm_I4J_0 {n M : Int} {h : mH} (hM : M = 1 - n) : mm_I4J M h h n 1 := fun _ _ => ⟨fun _ => by subst hM; exact ⟨Int.le_refl _, fun _ _ _ _ _ _ => mm_Sj_rf⟩, fun q => absurd q (by decide)⟩
theorem mm_I8J_4 {M n x : Int} {h h2 : mH} (I : mm_I4J M h h2 n x) (hx : x = 1) : mm_I8J M h h2 n 0 := fun p q => ⟨(I p q).1 hx, fun _ => rfl⟩
theorem mm_I8J_no {M n j : Int} {h h2 : mH} (g : h2.1 66 57 ≠ 0) : mm_I8J M h h2 n j := fun _ q => absurd q g
/-- a not: h1 to h2 lays it down, h2 to h3 goes on -/
theorem mm_I8J_s {M n j : Int} {h h1 h0 h2 h3 : mH} (I9 : mm_I8 M h h1 n j) (I : mm_I8J M h h1 n j) (g : h1.1 66 57 = 0) (hn : n = 1) (hj : j ≠ 6) (c : mm_cY h1 = 6) (w0 : mm_wo h1 h0) (d70 : h2.1 66 70 = h0.1 66 70 + 1) (e8 : ∀ j, h2.2.1 108 j = if j = h0.1 66 70 then 4 else h0.2.1 108 j) (b0 : 0 ≤ h0.1 66 70) (d69 : h2.1 66 69 = h0.1 66 69) (e7 : ∀ j, h2.2.1 107 j = h0.2.1 107 j) (w : mm_wo h2 h3) (s : mm_st9 h1 h3) (k : mm_kY h3 = mm_kY h1) : mm_I8J M h h3 n (j + 1) := fun p q => by
  obtain ⟨x, y⟩ := I p g
  have t := I9.1
  refine ⟨⟨by have := x.1; have := w0.1; have := w.1; omega, fun i r P B K hB => ?_⟩, fun q => by omega⟩
  have eW : mm_wW h3 = 4 :: mm_wW h1 := by rw [mm_wo_W w, mm_wW_in d70 e8 b0, mm_wo_W w0]
  have eO : mm_oY B h3 = mm_oY B h1 := by
    rw [mm_wo_O w, ← mm_wo_O w0]
    unfold mm_oY
    rw [d69, show h2.2.1 107 = h0.2.1 107 from funext e7]
  refine mm_Sj_tr (x.2 i r P B K hB) (mm_Sj_1 (mm_sj_of ?_ ?_))
  · rw [k, s.2.2, ← mm_TYy_U t, ← t.2, show 1 - n = 0 by omega]
    exact mm_sp_not c hj
  · rw [← mm_TYy_U t, ← t.2, show 1 - n = 0 by omega, eW, eO]
    exact mm_oj_not c
theorem mm_I4J_end {M n j : Int} {h h1 : mH} (I : mm_I8J M h h1 n j) (hn : n = 0 ∨ n = 1) (c : h1.1 66 57 ≠ 0 ∨ ((n = 0 ∨ mm_cY h1 ≠ 6) ∧ mm_cY h1 ≠ 140)) : mm_I4J M h h1 n 0 := fun p q => by
  refine ⟨fun z => absurd z (by decide), fun _ => ⟨1 - n, j, (I p q).1, ?_⟩⟩
  rcases c with c | ⟨c, c2⟩
  · exact absurd q c
  · exact ⟨by omega, c2⟩
/-- a parenthesis is opened -/
theorem mm_I4J_open {M n j x : Int} {h h1 hw hs h2 : mH} (I9 : mm_I8 M h h1 n j) (I : mm_I8J M h h1 n j) (g : h1.1 66 57 = 0) (hn : n = 0 ∨ n = 1) (c : mm_cY h1 = 140) (d70 : hw.1 66 70 = h1.1 66 70 + 1) (e8 : ∀ j, hw.2.1 108 j = if j = h1.1 66 70 then 13 else h1.2.1 108 j) (b0 : 0 ≤ h1.1 66 70) (d69 : hw.1 66 69 = h1.1 66 69) (e7 : ∀ j, hw.2.1 107 j = h1.2.1 107 j) (w : mm_wo hw hs) (s : mm_st9 h1 hs) (k : mm_kY hs = mm_kY h1) (d : 0 ≤ hs.1 66 71) (gs : hs.1 66 57 = 0) (B : mm_bg hs h2) (w2 : mm_wo hs h2) (hx : x = 1) : mm_I4J M h h2 1 x := fun p q => by
  obtain ⟨y, y0⟩ := I p g
  have t := I9.1
  obtain ⟨e, B⟩ := B
  have l := mm_kY_len d
  refine ⟨fun _ => ?_, fun z => absurd z (by omega)⟩
  obtain ⟨B1, B2, B3, B4⟩ := B.resolve_right (fun z => by have z3 := (z.2.2 gs).2; split at z3 <;> omega)
  refine ⟨by have := y.1; have := w.1; have := w2.1; omega, fun i r P B0 K hB => ?_⟩
  have eW : mm_wW h2 = 13 :: mm_wW h1 := by rw [mm_wo_W w2, mm_wo_W w, mm_wW_in d70 e8 b0]
  have eO : mm_oY B0 h2 = mm_oY B0 h1 := by
    rw [mm_wo_O w2, mm_wo_O w]
    unfold mm_oY
    rw [d69, show hw.2.1 107 = h1.2.1 107 from funext e7]
  refine mm_Sj_tr (y.2 i r P B0 K hB) (mm_Sj_1 ?_)
  rw [← mm_fYj_eq t]
  have st : mm_fYj h1 (⟨1, mm_kY h1, h1.1 66 62, 0, i, r, P⟩, (mm_wW h1, mm_oY B0 h1, K)) = (⟨1 - 1, mm_kY h2, h2.1 66 62, 0, i, r, P⟩, (mm_wW h2, mm_oY B0 h2, K)) := by
    refine mm_sj_of ?_ ?_
    · rw [mm_kY_in B4 B2 d, e.2.2.2.1, s.2.2, k]
      exact mm_sp_open c (by rw [← k]; omega)
    · rw [mm_oj_1, eW, eO]
      exact mm_oj_open c
  rcases hn with hn | hn
  · rw [hn, y0 hn]; exact st
  · rw [hn]
    have c6 : mm_tc (mm_UY h1) (h1.1 66 59) (h1.1 66 62) ≠ 6 := by unfold mm_cY at c; omega
    exact (mm_sj_0 c6).trans st
/-- a part -/
def mm_pj9 (h : mH) (a b : Int) : Prop := (mm_cY h = 18 ∧ a = 1 ∧ b = mm_tv (mm_UY h) (h.1 66 59) (h.1 66 62)) ∨ (7 ≤ mm_cY h ∧ mm_cY h ≤ 9 ∧ a = 3 ∧ b = mm_cY h - 7) ∨ (10 ≤ mm_cY h ∧ mm_cY h ≤ 16 ∧ a = 2 ∧ b = mm_cY h - 10)
def mm_pYJ (h h2 : mH) : Prop := h.1 66 69 ≤ h2.1 66 69 ∧ mm_wW h2 = mm_wW h ∧ ∃ a b, mm_pj9 h a b ∧ ∀ B, B ≤ h.1 66 69 → mm_oY B h2 = b :: a :: mm_oY B h
theorem mm_pYJ_of {a b : Int} {h h0 h1 h2 : mH} (w : mm_wo h h0) (w1 : h1.1 66 70 = h0.1 66 70 ∧ ∀ j, h1.2.1 108 j = h0.2.1 108 j) (d1 : h1.1 66 69 = h0.1 66 69 + 1) (e1 : ∀ j, h1.2.1 107 j = if j = h0.1 66 69 then a else h0.2.1 107 j) (w2 : h2.1 66 70 = h1.1 66 70 ∧ ∀ j, h2.2.1 108 j = h1.2.1 108 j) (d2 : h2.1 66 69 = h1.1 66 69 + 1) (e2 : ∀ j, h2.2.1 107 j = if j = h1.1 66 69 then b else h1.2.1 107 j) (pj : mm_pj9 h a b) : mm_pYJ h h2 := by
  have u := w.1
  refine ⟨by omega, ?_, a, b, pj, fun B hB => ?_⟩
  · rw [← mm_wo_W w]
    unfold mm_wW
    rw [w2.1, w1.1, show h2.2.1 108 = h0.2.1 108 from funext fun j => (w2.2 j).trans (w1.2 j)]
  · rw [mm_oY_in d2 e2 (by omega), mm_oY_in d1 e1 (by omega), mm_wo_O w]
theorem mm_pYJ_wo {h h1 h2 : mH} (p : mm_pYJ h h1) (w : mm_wo h1 h2) : mm_pYJ h h2 := by
  obtain ⟨p1, p2, a, b, p3, p4⟩ := p
  exact ⟨by have := w.1; omega, (mm_wo_W w).trans p2, a, b, p3, fun B hB => (mm_wo_O w B).trans (p4 B hB)⟩
theorem mm_pYJ_st {h h2 : mH} {B j : Int} {K : List (Int × Int × Int)} (p : mm_pYJ h h2) (hB : B ≤ h.1 66 69) : mm_ojo (mm_tc (mm_UY h) (h.1 66 59)) (mm_tv (mm_UY h) (h.1 66 59)) (h.1 66 62) (mm_wW h, mm_oY B h, K) = (mm_wW h2, mm_oY B h2, K) ∧ (mm_cY h = 18 ∨ (7 ≤ mm_cY h ∧ mm_cY h ≤ 16)) := by
  obtain ⟨p1, p2, a, b, p3, p4⟩ := p
  have ck : mm_cY h = 18 ∨ (7 ≤ mm_cY h ∧ mm_cY h ≤ 16) := by unfold mm_pj9 at p3; omega
  refine ⟨?_, ck⟩
  rw [p2, p4 B hB]
  unfold mm_cY at ck
  rw [mm_oj_part ck]
  unfold mm_pj9 mm_cY at p3
  unfold mm_ojp
  rcases p3 with ⟨q, q2, q3⟩ | ⟨q, q0, q2, q3⟩ | ⟨q, q0, q2, q3⟩
  · rw [if_pos q, q2, q3]
  · rw [if_neg (by omega), if_pos q0, q2, q3]
  · rw [if_neg (by omega), if_neg (by omega), q2, q3]
theorem mm_WJ_part {M n x : Int} {h h1 h2 : mH} (I9 : mm_I4 M h h1 n x) (I : mm_I4J M h h1 n x) (hx : x = 0 ∨ h1.1 66 57 ≠ 0) (b1 : h1.1 66 57 ≠ 0 → h2.1 66 57 ≠ 0) (pj : h1.1 66 57 = 0 → h2.1 66 57 = 0 → mm_pYJ h1 h2) (p9 : mm_pY9 h1 h2) (k : mm_kY h2 = mm_kY h1) : mm_g0 h h2 (mm_WJ M h h2 2 0) := fun p q => by
  have g : h1.1 66 57 = 0 := by
    by_cases z : h1.1 66 57 = 0
    · exact z
    · exact absurd q (b1 z)
  obtain ⟨m, j, w1, w2, w3⟩ := (I p g).2 (hx.resolve_right (fun z => z g))
  have t := I9.1
  have pp := pj g q
  have n62 : h2.1 66 62 = mm_nY9 h1 := by
    rcases p9.2.2 with z | z | z
    · exact absurd g z.1
    · exact z.2.2.2
    · have z2 := z.2.2; omega
  refine ⟨by have := w1.1; have := pp.1; omega, fun i r P B K hB => mm_Sj_tr (w1.2 i r P B K hB) (mm_Sj_1 ?_)⟩
  rw [← mm_fYj_eq t]
  obtain ⟨po, pc⟩ := mm_pYJ_st (j := j) (K := K) pp (show B ≤ h1.1 66 69 by have := w1.1; omega)
  have st : ∀ j, mm_fYj h1 (⟨1, mm_kY h1, h1.1 66 62, j, i, r, P⟩, (mm_wW h1, mm_oY B h1, K)) = (⟨2, mm_kY h2, h2.1 66 62, 0, i, r, P⟩, (mm_wW h2, mm_oY B h2, K)) := fun j => by
    refine mm_sj_of ?_ ?_
    · rw [k, n62]
      exact mm_sp_part pc
    · rw [mm_oj_1]
      exact po
  rcases w2 with w2 | ⟨w2, w4⟩
  · rw [w2]; exact st j
  · rw [w2, ← st 0]
    unfold mm_fYj mm_sj
    show (_, _) = (_, _)
    rw [mm_sp_0 w4, mm_oj_0 w4, mm_oj_1]
/-! expressions -/
def mm_I35J (h h2 : mH) : Prop := h2.1 66 57 = 0 → h.1 66 69 ≤ h2.1 66 69 ∧ ∀ (i r : Int) (P : Int → Int) (B : Int) (K : List (Int × Int × Int)), B ≤ h.1 66 69 → mm_Sj (mm_fYj h) (⟨0, [0], h.1 66 62, 0, i, r, P⟩, ([], mm_oY B h, K)) (⟨2, mm_kY h2, h2.1 66 62, 0, i, r, P⟩, (mm_wW h2, mm_oY B h2, K))
theorem mm_I35J_0 {h h2 hb ho : mH} (g : h.1 66 57 = 0) (e : mm_eY h h2) (b : mm_bd h h2) (d : h2.1 66 71 = 0) (u69 : h2.1 66 69 = h.1 66 69) (u7 : ∀ j, h2.2.1 107 j = h.2.1 107 j) (w0 : h2.1 66 70 = 0) (B : mm_bg h2 hb) (wb : mm_wo h2 hb) (O : mm_g0 hb ho (mm_WJ 0 hb ho 2 0)) : mm_I35J h ho := fun q => by
  obtain ⟨e2, B⟩ := B
  have e3 := mm_eY_tr e e2
  obtain ⟨B1, B2, B3, B4⟩ := B.resolve_right (fun q => by omega)
  have k : mm_kY hb = [0] := by
    rw [mm_kY_in B4 B2 (by omega)]
    unfold mm_kY
    rw [d]; rfl
  have gb : hb.1 66 57 = 0 := B3.1.trans (b.1.trans g)
  obtain ⟨x, y⟩ := O gb q
  have wb1 := wb.1
  refine ⟨by omega, fun i r P B0 K hB => ?_⟩
  have z := y i r P B0 K (by omega)
  rw [k, mm_fYj_eq e3.1, e3.2.2.2.1, mm_wo_W wb, mm_wW_nil w0, mm_wo_O wb] at z
  have eO : mm_oY B0 h2 = mm_oY B0 h := by
    unfold mm_oY
    rw [u69, show h2.2.1 107 = h.2.1 107 from funext u7]
  rw [eO] at z
  exact z
/-- an operator: dropped, waits, goes on, an operand -/
theorem mm_I35J_op {M l a : Int} {h h1 hd hw hp hg ho : mH} (I9 : mm_I35 h h1 1) (I : mm_I35J h h1) (g : h1.1 66 57 = 0) (o : ∃ c, mm_op9 (mm_cY h1) l a c) (D : mm_DJ l h1 hd) (d70 : hw.1 66 70 = hd.1 66 70 + 1) (e8 : ∀ j, hw.2.1 108 j = if j = hd.1 66 70 then a else hd.2.1 108 j) (b0 : 0 ≤ hd.1 66 70) (d69 : hw.1 66 69 = hd.1 66 69) (e7 : ∀ j, hw.2.1 107 j = hd.2.1 107 j) (wp : mm_wo hw hp) (e : mm_eY h1 hp) (b : mm_bd h1 hp) (s : mm_st9 hp hg) (b2 : mm_bd hp hg) (wg : mm_wo hp hg) (k : mm_kY hg = mm_kY hp) (st : ∀ (i r : Int) (P : Int → Int), mm_fY h1 ⟨2, mm_kY h1, h1.1 66 62, 0, i, r, P⟩ = ⟨M, mm_kY hp, mm_nY9 h1, 0, i, r, P⟩) (hc : (mm_cY h1 ≠ 160 ∧ mm_cY h1 ≠ 161) ∨ h1.2.1 109 (h1.1 66 71) = 0) (O : mm_g0 hg ho (mm_WJ M hg ho 2 0)) : mm_I35J h ho := fun q => by
  obtain ⟨c, o⟩ := o
  obtain ⟨t, a9, i1, i2⟩ := I9
  obtain ⟨dd, _, _⟩ := i2 g
  obtain ⟨u, w⟩ := I g
  have s2 := mm_st9_e e s
  have gg : hg.1 66 57 = 0 := b2.1.trans (b.1.trans g)
  obtain ⟨x1, x2⟩ := O gg q
  have t4 := mm_TYy_tr t s2.1
  have D1 := D.1
  have wp1 := wp.1
  have wg1 := wg.1
  refine ⟨by omega, fun i r P B K hB => mm_Sj_tr (w i r P B K hB) (mm_Sj_tr (mm_Sj_1 (B := (⟨M, mm_kY hg, hg.1 66 62, 0, i, r, P⟩, (mm_wW hg, mm_oY B hg, K))) ?_) (by have z := x2 i r P B K (by omega); rw [mm_fYj_eq t4] at z; exact z))⟩
  rw [← mm_fYj_eq t]
  have eW : mm_wW hg = a :: mm_wW hd := by rw [mm_wo_W wg, mm_wo_W wp, mm_wW_in d70 e8 b0]
  have eO : mm_oY B hg = mm_oY B hd := by
    rw [mm_wo_O wg, mm_wo_O wp]
    unfold mm_oY
    rw [d69, show hw.2.1 107 = hd.2.1 107 from funext e7]
  refine mm_sj_of ?_ ?_
  · rw [k, s2.2.2]
    exact st i r P
  · rw [mm_kY_c dd, mm_oj_2, eW, eO]
    have kk : mm_oja (mm_tc (mm_UY h1) (h1.1 66 59)) (h1.1 66 62) (mm_wW h1, mm_oY B h1, K) (h1.2.1 109 (h1.1 66 71) :: mm_stk (h1.2.1 109) (h1.1 66 71 - 1).toNat) = mm_dp l a (mm_wW h1, mm_oY B h1, K) := by
      unfold mm_op9 mm_cY at o
      unfold mm_cY at hc
      rcases o with ⟨q, q2, q3, q4⟩ | ⟨q, q2, q3, q4⟩ | ⟨q, q2, q3, q4⟩ | ⟨q, q2, q3, q4⟩ | ⟨q, q2, q3, q4⟩ | ⟨q, q2, q3, q4⟩ | ⟨q, q2, q3, q4⟩ | ⟨q, q2, q3, q4⟩
      · rw [q2, q3]; exact mm_oj_or q
      · rw [q2, q3]; exact mm_oj_and q
      · rw [q2, q3, hc.resolve_left (fun z => z.1 q)]; exact mm_oj_lt q
      · rw [q2, q3, hc.resolve_left (fun z => z.2 q)]; exact mm_oj_eq q
      · rw [q2, q3]; exact mm_oj_pl q
      · rw [q2, q3]; exact mm_oj_mi q
      · rw [q2, q3]; exact mm_oj_ti q
      · rw [q2, q3]; exact mm_oj_by q
    rw [kk]
    unfold mm_dp
    rw [D.2 B (by omega)]
theorem mm_I35J_close {h h1 hd hc ho : mH} (I9 : mm_I35 h h1 1) (I : mm_I35J h h1) (g : h1.1 66 57 = 0) (c : mm_cY h1 = 141) (D : mm_DJ 0 h1 hd) (p0 : 0 < hd.1 66 70) (d70 : hc.1 66 70 = hd.1 66 70 - 1) (e8 : ∀ j, hc.2.1 108 j = hd.2.1 108 j) (d69 : hc.1 66 69 = hd.1 66 69) (e7 : ∀ j, hc.2.1 107 j = hd.2.1 107 j) (e : mm_eY h1 hc) (e9 : ∀ j, hc.2.1 109 j = h1.2.1 109 j) (d : hc.1 66 71 = h1.1 66 71 - 1) (d1 : 1 < h1.1 66 71) (s : mm_st9 hc ho) (w : mm_wo hc ho) (k : mm_kY ho = mm_kY hc) : mm_I35J h ho := fun q => by
  obtain ⟨t, a9, i1, i2⟩ := I9
  obtain ⟨dd, _, _⟩ := i2 g
  obtain ⟨u, x⟩ := I g
  have s2 := mm_st9_e e s
  have D1 := D.1
  have w1 := w.1
  refine ⟨by omega, fun i r P B K hB => mm_Sj_tr (x i r P B K hB) (mm_Sj_1 ?_)⟩
  rw [← mm_fYj_eq t]
  have l := mm_kY_len (h := hc) (by omega)
  have ne : mm_kY hc ≠ [] := fun z => by rw [z] at l; simp at l; omega
  have eO : mm_oY B ho = mm_oY B hd := by
    rw [mm_wo_O w]
    unfold mm_oY
    rw [d69, show hc.2.1 107 = hd.2.1 107 from funext e7]
  refine mm_sj_of ?_ ?_
  · rw [mm_kY_out e9 d dd, s2.2.2, k]
    exact mm_sp_close c ne
  · rw [mm_kY_out e9 d dd, mm_oj_2, mm_oj_cl c ne]
    show ((mm_drj 0 (mm_wW h1) (mm_oY B h1)).1.tail, (mm_drj 0 (mm_wW h1) (mm_oY B h1)).2, K) = _
    rw [D.2 B (by omega), mm_wW_out d70 e8 p0, eO, mm_wo_W w]
    rfl
def mm_X9J (h h2 : mH) : Prop := h2.1 66 57 = 0 → h.1 66 69 ≤ h2.1 66 69 ∧ ∀ (i r : Int) (P : Int → Int) (B : Int) (K : List (Int × Int × Int)), B ≤ h.1 66 69 → mm_Sj (mm_fYj h) (⟨0, [0], h.1 66 62, 0, i, r, P⟩, ([], mm_oY B h, K)) (⟨4, [], h2.1 66 62, 0, i, r, P⟩, ([], mm_oY B h2, K))
theorem mm_X9J_end {x : Int} {h h1 hw hd h2 : mH} (I9 : mm_I35 h h1 x) (I : mm_I35J h h1) (hx : x = 0 ∨ h1.1 66 57 ≠ 0) (v : hw.1 66 57 = 0 → h1.1 66 57 = 0 ∧ h1.1 66 71 ≤ 1) (ww : mm_wo h1 hw) (e : mm_eY h1 hw) (D : mm_DJ 0 hw hd) (b : h2.1 66 57 = 0 → hw.1 66 57 = 0) (z0 : h2.1 66 57 = 0 → hd.1 66 70 = 0) (d69 : h2.1 66 69 = hd.1 66 69 + 1) (e7 : ∀ j, h2.2.1 107 j = if j = hd.1 66 69 then 0 else hd.2.1 107 j) (e62 : h2.1 66 62 = h1.1 66 62) : mm_X9J h h2 := fun q => by
  have gw := b q
  obtain ⟨g, dz⟩ := v gw
  obtain ⟨t, a9, i1, i2⟩ := I9
  obtain ⟨dd, w9, f⟩ := i2 g
  obtain ⟨f1, f2⟩ := f (hx.resolve_right (fun z => z g))
  obtain ⟨u, x⟩ := I g
  have D1 := D.1
  have w1 := ww.1
  refine ⟨by omega, fun i r P B K hB => mm_Sj_tr (x i r P B K hB) (mm_Sj_1 ?_)⟩
  rw [← mm_fYj_eq t]
  have dd1 : h1.1 66 71 = 1 := by omega
  refine mm_sj_of ?_ ?_
  · rw [e62, mm_kY_c dd, show (h1.1 66 71 - 1).toNat = 0 by omega]
    exact mm_sp_end f1
  · rw [mm_kY_c dd, show (h1.1 66 71 - 1).toNat = 0 by omega, mm_oj_2]
    refine (mm_oj_end f1).trans ?_
    show ((mm_drj 0 (mm_wW h1) (mm_oY B h1)).1, 0 :: (mm_drj 0 (mm_wW h1) (mm_oY B h1)).2, K) = _
    rw [← mm_wo_W ww, ← mm_wo_O ww, D.2 B (by omega), mm_wW_nil (z0 q), mm_oY_in d69 e7 (by omega)]

/-! ===== clauses of the reference ===== -/
def mm_en9 (b : Int) (h : mH) (n : Int) : Int × Int × Int := if h.2.1 104 (20 * b + n) = 3 then (2, 0, 0) else (if h.2.1 104 (20 * b + n) = 2 then 7 else h.2.1 104 (20 * b + n), h.2.1 105 (20 * b + n) - 1200 * b, if h.2.1 106 (20 * b + n) = -1 then -1 else if h.2.1 106 (20 * b + n) < 1200 * b then -2 else h.2.1 106 (20 * b + n) - 1200 * b)
def mm_kR (b : Int) (h : mH) : List (Int × Int × Int) := mm_sk0 (mm_en9 b h) (h.2.1 103 b).toNat
/-- a bank's clauses below n stay -/
def mm_ck9 (b n : Int) (h h2 : mH) : Prop := ∀ j, 20 * b ≤ j → j < 20 * b + n → h2.2.1 104 j = h.2.1 104 j ∧ h2.2.1 105 j = h.2.1 105 j ∧ h2.2.1 106 j = h.2.1 106 j
theorem mm_ck9_tr {b n : Int} {h h1 h2 : mH} (p : mm_ck9 b n h h1) (q : mm_ck9 b n h1 h2) : mm_ck9 b n h h2 := fun j x y => by
  obtain ⟨a1, a2, a3⟩ := p j x y
  obtain ⟨b1, b2, b3⟩ := q j x y
  exact ⟨b1.trans a1, b2.trans a2, b3.trans a3⟩
theorem mm_ck9_fr {wf : List (Nat × Nat)} {wa : List Nat} {b n : Int} {h h2 : mH} (f : mm_fr wf wa h h2) (hw : 104 ∉ wa ∧ 105 ∉ wa ∧ 106 ∉ wa) : mm_ck9 b n h h2 := fun j _ _ => ⟨f.2 104 hw.1 j, f.2 105 hw.2.1 j, f.2 106 hw.2.2 j⟩
theorem mm_ck9_pa {b n i v : Int} {o : Nat} {h h2 : mH} (e : h2 = mm_pa h o i v) (hi : (o ≠ 104 ∧ o ≠ 105 ∧ o ≠ 106) ∨ i = 20 * b + n) : mm_ck9 b n h h2 := fun j x y => by
  subst e
  have w : ∀ q, (q ≠ o ∨ j ≠ i) → (mm_pa h o i v).2.1 q j = h.2.1 q j := fun q z => by
    rcases z with z | z
    · exact mm_pa_o q o z j
    · exact mm_pa_ne _ _ (fun y => z y.2)
  rcases hi with ⟨a, c, d⟩ | hi
  · exact ⟨w 104 (Or.inl (Ne.symm a)), w 105 (Or.inl (Ne.symm c)), w 106 (Or.inl (Ne.symm d))⟩
  · exact ⟨w 104 (Or.inr (by omega)), w 105 (Or.inr (by omega)), w 106 (Or.inr (by omega))⟩
theorem mm_kR_in {b : Int} {h h2 : mH} (d : h2.2.1 103 b = h.2.1 103 b + 1) (d0 : 0 ≤ h.2.1 103 b) (c : mm_ck9 b (h.2.1 103 b) h h2) : mm_kR b h2 = mm_en9 b h2 (h.2.1 103 b) :: mm_kR b h := by
  unfold mm_kR
  rw [d, show (h.2.1 103 b + 1).toNat = (h.2.1 103 b).toNat + 1 by omega]
  show mm_en9 b h2 ((h.2.1 103 b).toNat : Int) :: mm_sk0 (mm_en9 b h2) (h.2.1 103 b).toNat = _
  rw [Int.toNat_of_nonneg d0, mm_sk0_cg (t := mm_en9 b h2) (t' := mm_en9 b h) _ (fun j x y => by
    obtain ⟨a1, a2, a3⟩ := c (20 * b + j) (by omega) (by omega)
    unfold mm_en9
    rw [a1, a2, a3])]
theorem mm_kR_eq {b : Int} {h h2 : mH} (d : h2.2.1 103 b = h.2.1 103 b) (c : mm_ck9 b (h.2.1 103 b) h h2) : mm_kR b h2 = mm_kR b h := by
  unfold mm_kR
  rw [d, mm_sk0_cg (t := mm_en9 b h2) (t' := mm_en9 b h) _ (fun j x y => by
    obtain ⟨a1, a2, a3⟩ := c (20 * b + j) (by omega) (by omega)
    unfold mm_en9
    rw [a1, a2, a3])]
theorem mm_oY_len {B : Int} {h : mH} (l : B ≤ h.1 66 69) : ((mm_oY B h).length : Int) = h.1 66 69 - B := by
  unfold mm_oY
  rw [mm_sk0_len]; omega
theorem mm_o9J_ex {p b : Int} {h hs : mH} (c : mm_cY h = 0 ∨ mm_cY h = 1) (hp : p ≤ 19) (s : mm_st9 h hs) (e : ∀ j, hs.2.1 102 j = h.2.1 102 j) (O : List Int) (K : List (Int × Int × Int)) : mm_Sj (mm_fYj h) (⟨10, [], h.1 66 62, 0, p, 0, mm_PY b h⟩, ([], O, K)) (⟨0, [0], hs.1 66 62, 0, p, 0, mm_PY b hs⟩, ([], O, (mm_cY h, (O.length : Int), -1) :: K)) := by
  refine mm_Sj_1 (mm_sj_of (mm_sp_10.trans ?_) (mm_oj_10.trans ?_))
  · unfold mm_cY at c
    rw [if_neg (by omega), if_neg (by omega), if_neg (by omega), if_neg (by omega), s.2.2, mm_PY_eq e]
    rfl
  · unfold mm_cY at c
    rw [if_neg (by omega), if_pos c]
    rfl
/-- behind an expression -/
def mm_AJ (b r : Int) (h h2 : mH) : Prop := h2.1 66 57 = 0 → h.1 66 69 ≤ h2.1 66 69 ∧ mm_en9 b h2 (h.2.1 103 b) = (mm_cY h, h.1 66 69 - 1200 * b, if r = 0 then -1 else h2.2.1 106 (20 * b + h.2.1 103 b) - 1200 * b) ∧ mm_ck9 b (h.2.1 103 b) h h2 ∧ mm_Sj (mm_fYj h) (⟨10, [], h.1 66 62, 0, h.2.1 103 b, 0, mm_PY b h⟩, ([], mm_oY (1200 * b) h, mm_kR b h)) (⟨4, [], h2.1 66 62, 0, h.2.1 103 b, r, mm_PY b h2⟩, ([], mm_oY (1200 * b) h2, mm_en9 b h2 (h.2.1 103 b) :: mm_kR b h))
theorem mm_AJ_1 {b k : Int} {h hs hx h2 : mH} (c : mm_cY h = 0 ∨ mm_cY h = 1) (hp : h.2.1 103 b ≤ 19) (s : mm_st9 h hs) (e : ∀ j, hs.2.1 102 j = h.2.1 102 j) (X : mm_X9J hs hx) (ex : ∀ j, hx.2.1 102 j = hs.2.1 102 j) (e2 : mm_eY hx h2) (bd : mm_bd hx h2) (e22 : ∀ j, h2.2.1 102 j = hx.2.1 102 j) (l : 1200 * b ≤ h.1 66 69) (u69 : hs.1 66 69 = h.1 66 69) (u7 : ∀ j, hs.2.1 107 j = h.2.1 107 j) (w2 : mm_wo hx h2) (ck : mm_ck9 b (h.2.1 103 b) h h2) (hk : k = mm_cY h) (r4 : h2.2.1 104 (20 * b + h.2.1 103 b) = k) (r5 : h2.2.1 105 (20 * b + h.2.1 103 b) = hs.1 66 69) (r6 : h2.2.1 106 (20 * b + h.2.1 103 b) = -1) : mm_AJ b 0 h h2 := fun q => by
  obtain ⟨x1, x2⟩ := X (bd.1.symm.trans q)
  have w1 := w2.1
  subst hk
  have en : mm_en9 b h2 (h.2.1 103 b) = (mm_cY h, h.1 66 69 - 1200 * b, -1) := by
    unfold mm_en9
    rw [r4, r5, r6, if_neg (by omega), if_neg (by omega), if_pos rfl, u69]
  refine ⟨by omega, by rw [en, if_pos rfl], ck, ?_⟩
  have eO : mm_oY (1200 * b) hs = mm_oY (1200 * b) h := by
    unfold mm_oY
    rw [u69, show hs.2.1 107 = h.2.1 107 from funext u7]
  refine mm_Sj_tr (mm_o9J_ex c hp s e _ _) ?_
  have y := x2 (h.2.1 103 b) 0 (mm_PY b hs) (1200 * b) ((mm_cY h, ((mm_oY (1200 * b) h).length : Int), -1) :: mm_kR b h) (by omega)
  rw [mm_fYj_eq s.1, eO] at y
  rw [e2.2.2.2.1, mm_PY_eq e22, mm_PY_eq ex, en, mm_wo_O w2, ← mm_oY_len l]
  exact y
theorem mm_AJ_2 {b : Int} {h h1 hs hx h2 : mH} (t1 : mm_TYy h h1) (A : mm_AJ b 0 h h1) (g : h1.1 66 57 = 0) (c : mm_cY h1 = 3) (s : mm_st9 h1 hs) (e : ∀ j, hs.2.1 102 j = h1.2.1 102 j) (X : mm_X9J hs hx) (ex : ∀ j, hx.2.1 102 j = hs.2.1 102 j) (e2 : mm_eY hx h2) (bd : mm_bd hx h2) (e22 : ∀ j, h2.2.1 102 j = hx.2.1 102 j) (l : 1200 * b ≤ h.1 66 69) (u69 : hs.1 66 69 = h1.1 66 69) (u7 : ∀ j, hs.2.1 107 j = h1.2.1 107 j) (w2 : mm_wo hx h2) (ck : mm_ck9 b (h.2.1 103 b) h1 h2) (r4 : h2.2.1 104 (20 * b + h.2.1 103 b) = h1.2.1 104 (20 * b + h.2.1 103 b)) (r5 : h2.2.1 105 (20 * b + h.2.1 103 b) = h1.2.1 105 (20 * b + h.2.1 103 b)) (r6 : h2.2.1 106 (20 * b + h.2.1 103 b) = hs.1 66 69) (b0 : 0 ≤ b) (ch : mm_cY h = 0 ∨ mm_cY h = 1) : mm_AJ b 1 h h2 := fun q => by
  obtain ⟨a1, a2, a3, a4⟩ := A g
  obtain ⟨x1, x2⟩ := X (bd.1.symm.trans q)
  have w1 := w2.1
  have en : mm_en9 b h2 (h.2.1 103 b) = (mm_cY h, h.1 66 69 - 1200 * b, hs.1 66 69 - 1200 * b) := by
    unfold mm_en9 at a2 ⊢
    rw [r4, r5, r6]
    by_cases z : h1.2.1 104 (20 * b + h.2.1 103 b) = 3
    · rw [if_pos z] at a2
      have a5 := congrArg Prod.fst a2
      have a6 : (2 : Int) = mm_cY h := a5
      omega
    · rw [if_neg z] at a2 ⊢
      have a5 : (if h1.2.1 104 (20 * b + h.2.1 103 b) = 2 then 7 else h1.2.1 104 (20 * b + h.2.1 103 b)) = mm_cY h := congrArg Prod.fst a2
      have a6 : h1.2.1 105 (20 * b + h.2.1 103 b) - 1200 * b = h.1 66 69 - 1200 * b := congrArg (fun x : Int × Int × Int => x.2.1) a2
      rw [a5, a6, if_neg (by omega), if_neg (by omega)]
  refine ⟨by omega, by rw [en, if_neg (by decide), r6], mm_ck9_tr a3 ck, ?_⟩
  have eO : mm_oY (1200 * b) hs = mm_oY (1200 * b) h1 := by
    unfold mm_oY
    rw [u69, show hs.2.1 107 = h1.2.1 107 from funext u7]
  refine mm_Sj_tr a4 (mm_Sj_tr (mm_Sj_1 (B := (⟨0, [0], hs.1 66 62, 0, h.2.1 103 b, 1, mm_PY b h1⟩, ([], mm_oY (1200 * b) h1, mm_en9 b h2 (h.2.1 103 b) :: mm_kR b h))) (mm_sj_of ?_ ?_)) ?_)
  · rw [s.2.2, ← mm_TYy_U t1, ← t1.2]
    exact mm_sp_4u c
  · rw [← mm_TYy_U t1, ← t1.2, mm_oj_4u c, en, a2, if_pos rfl]
    show ([], mm_oY (1200 * b) h1, (mm_cY h, h.1 66 69 - 1200 * b, ((mm_oY (1200 * b) h1).length : Int)) :: mm_kR b h) = _
    rw [mm_oY_len (show 1200 * b ≤ h1.1 66 69 by omega), u69]
  · have y := x2 (h.2.1 103 b) 1 (mm_PY b h1) (1200 * b) (mm_en9 b h2 (h.2.1 103 b) :: mm_kR b h) (by omega)
    rw [mm_fYj_eq (mm_TYy_tr t1 s.1), eO] at y
    rw [e2.2.2.2.1, mm_PY_eq e22, mm_PY_eq ex, mm_PY_eq e, mm_wo_O w2]
    exact y
/-- before the ; -/
def mm_BJ (b : Int) (h h2 : mH) : Prop := h2.1 66 57 = 0 → h.1 66 69 ≤ h2.1 66 69 ∧ ∃ r, mm_Sj (mm_fYj h) (⟨10, [], h.1 66 62, 0, h.2.1 103 b, 0, mm_PY b h⟩, ([], mm_oY (1200 * b) h, mm_kR b h)) (⟨13, [], h2.1 66 62, 0, h.2.1 103 b, r, mm_PY b h2⟩, ([], mm_oY (1200 * b) h2, mm_kR b h2))
theorem mm_BJ_A {b r : Int} {h h2 : mH} (t : mm_TYy h h2) (A : mm_AJ b r h h2) (c : r = 1 ∨ h2.1 66 57 ≠ 0 ∨ mm_cY h2 ≠ 3) (d : h2.2.1 103 b = h.2.1 103 b + 1) (d0 : 0 ≤ h.2.1 103 b) : mm_BJ b h h2 := fun q => by
  obtain ⟨a1, a2, a3, a4⟩ := A q
  have cc : r = 1 ∨ mm_tc (mm_UY h2) (h2.1 66 59) (h2.1 66 62) ≠ 3 := by
    unfold mm_cY at c
    rcases c with c | c | c
    · exact Or.inl c
    · exact absurd q c
    · exact Or.inr c
  refine ⟨a1, r, mm_Sj_tr a4 (mm_Sj_1 (mm_sj_of ?_ ?_))⟩
  · rw [← mm_TYy_U t, ← t.2]
    exact mm_sp_4 cc
  · rw [← mm_TYy_U t, ← t.2, mm_oj_4 cc, mm_kR_in d d0 a3]
/-- set -/
def mm_DJ9 (b : Int) (h h2 : mH) : Prop := h2.1 66 57 = 0 → ∀ (p : Int) (w : mm_J9), mm_Sj (mm_fYj h) (⟨11, [], h.1 66 62, 0, p, 0, mm_PY b h⟩, w) (⟨13, [], h2.1 66 62, 0, p, 0, mm_PY b h2⟩, w)
theorem mm_DJ9_3 {b v : Int} {h hs h1 h2 : mH} (c : 7 ≤ mm_cY h ∧ mm_cY h ≤ 9) (s : mm_st9 h hs) (c2 : mm_cY hs = 18) (e : mm_eY hs h1) (e102 : ∀ j, hs.2.1 102 j = h.2.1 102 j) (u : mm_up hs h1 102 (3 * b + (mm_cY h - 7)) v 1) (hv : v = mm_tv (mm_UY hs) (hs.1 66 59) (hs.1 66 62)) (s2 : mm_st9 h1 h2) (e2 : ∀ j, h2.2.1 102 j = h1.2.1 102 j) : mm_DJ9 b h h2 := fun _ p w => by
  have k := mm_PY_put (b := b) (x := mm_cY h - 7) u (by omega)
  refine mm_Sj_tr (mm_Sj_1 (B := (⟨12, [], hs.1 66 62, mm_cY h - 7, p, 0, mm_PY b h⟩, w)) (mm_sj_of ?_ (mm_oj_hi (Or.inr (Or.inl rfl))))) (mm_Sj_1 (mm_sj_of ?_ (mm_oj_hi (Or.inr (Or.inr (Or.inl rfl))))))
  · rw [s.2.2]
    refine mm_sp_11.trans ?_
    rw [if_neg (show ¬ 18 ≤ mm_tc (mm_UY h) (h.1 66 59) (h.1 66 62) from fun z => by unfold mm_cY at c; omega), if_neg (show ¬ ¬ (7 ≤ mm_tc (mm_UY h) (h.1 66 59) (h.1 66 62) ∧ mm_tc (mm_UY h) (h.1 66 59) (h.1 66 62) ≤ 9) from fun z => z c)]
    rfl
  · rw [s2.2.2, (mm_eY_c e).2, mm_PY_eq e2, k.1, hv, mm_PY_eq e102, ← mm_TYy_U s.1, ← s.1.2]
    exact mm_sp_12.trans (if_pos c2)
theorem mm_BJ_set {b : Int} {h hs h2 : mH} (c : mm_cY h = 2) (hp : h.2.1 103 b ≤ 19) (s : mm_st9 h hs) (e : ∀ j, hs.2.1 102 j = h.2.1 102 j) (D : mm_DJ9 b hs h2) (d : h2.2.1 103 b = h.2.1 103 b + 1) (d0 : 0 ≤ h.2.1 103 b) (u69 : h2.1 66 69 = h.1 66 69) (u7 : ∀ j, h2.2.1 107 j = h.2.1 107 j) (ck : mm_ck9 b (h.2.1 103 b) h h2) (r4 : h2.2.1 104 (20 * b + h.2.1 103 b) = 3) : mm_BJ b h h2 := fun q => by
  have z := D q (h.2.1 103 b) ([], mm_oY (1200 * b) h, (2, 0, 0) :: mm_kR b h)
  rw [mm_fYj_eq s.1] at z
  have eO : mm_oY (1200 * b) h2 = mm_oY (1200 * b) h := by
    unfold mm_oY
    rw [u69, show h2.2.1 107 = h.2.1 107 from funext u7]
  have en : mm_en9 b h2 (h.2.1 103 b) = (2, 0, 0) := by
    unfold mm_en9
    rw [r4, if_pos rfl]
  refine ⟨by omega, 0, mm_Sj_tr (mm_Sj_1 (mm_sj_of (mm_sp_10.trans ?_) (mm_oj_10.trans ?_))) (by rw [eO, mm_kR_in d d0 ck, en]; exact z)⟩
  · unfold mm_cY at c
    rw [if_neg (by omega), if_neg (by omega), if_neg (by omega), if_pos c, s.2.2, mm_PY_eq e]
    rfl
  · unfold mm_cY at c
    rw [if_pos c]
def mm_CJ (b : Int) (h h2 : mH) : Prop := h2.1 66 57 = 0 → h.1 66 69 ≤ h2.1 66 69 ∧ mm_Sj (mm_fYj h) (⟨10, [], h.1 66 62, 0, h.2.1 103 b, 0, mm_PY b h⟩, ([], mm_oY (1200 * b) h, mm_kR b h)) (⟨10, [], h2.1 66 62, 0, h.2.1 103 b + 1, 0, mm_PY b h2⟩, ([], mm_oY (1200 * b) h2, mm_kR b h2))
theorem mm_CJ_no {b : Int} {h h2 : mH} (g : h2.1 66 57 ≠ 0) : mm_CJ b h h2 := fun q => absurd q g
theorem mm_CJ_sc {b : Int} {h h1 h2 : mH} (t : mm_TYy h h1) (B : mm_BJ b h h1) (g : h1.1 66 57 = 0) (c : mm_cY h1 = 159) (s : mm_st9 h1 h2) (e : ∀ j, h2.2.1 102 j = h1.2.1 102 j) (w : mm_wo h1 h2) (d : h2.2.1 103 b = h1.2.1 103 b) (ck : mm_ck9 b (h1.2.1 103 b) h1 h2) : mm_CJ b h h2 := fun _ => by
  obtain ⟨b1, r, z⟩ := B g
  have w1 := w.1
  refine ⟨by omega, mm_Sj_tr z (mm_Sj_1 (mm_sj_of ?_ ?_))⟩
  · rw [s.2.2, mm_PY_eq e, ← mm_TYy_U t, ← t.2]
    exact mm_sp_13.trans (if_pos c)
  · rw [mm_wo_O w, mm_kR_eq d ck]
    exact mm_oj_hi (Or.inr (Or.inr (Or.inr (Or.inl rfl))))
/-! the whole text -/
def mm_R9J (T : Int → Int) (n b : Int) (h : mH) : Prop := 1200 * b ≤ h.1 66 69 ∧ (h.1 66 57 = 0 → mm_Sj (mm_fTj T n) (mm_A0 T n, ([], [], [])) (⟨10, [], h.1 66 62, 0, h.2.1 103 b, 0, mm_PY b h⟩, ([], mm_oY (1200 * b) h, mm_kR b h)))
theorem mm_fYj_T {T : Int → Int} {n : Int} {h : mH} (t : (∀ j, h.2.1 101 j = T j) ∧ h.1 66 59 = n) : mm_fYj h = mm_fTj T n := by
  obtain ⟨t1, t2⟩ := t
  subst t2
  have e : h.2.1 101 = T := funext t1
  subst e
  rfl
theorem mm_PY_P0 {b : Int} {h : mH} (p0 : h.2.1 102 (3 * b) = 3600) (p1 : h.2.1 102 (3 * b + 1) = 60) (p2 : h.2.1 102 (3 * b + 2) = 900) : mm_PY b h = mm_P0 := funext fun x => by
  unfold mm_PY mm_P0
  by_cases q0 : x = 0
  · rw [q0, Int.add_zero, p0]; rfl
  · by_cases q1 : x = 1
    · rw [q1, p1]; rfl
    · by_cases q2 : x = 2
      · rw [q2, p2]; rfl
      · rw [if_neg (by omega), if_neg q0, if_neg q1, if_neg q2]
theorem mm_R9J_0 {T : Int → Int} {n b : Int} {h : mH} (e : h.1 66 62 = mm_skp (mm_tr T n) n 0) (c : h.2.1 103 b = 0) (p : mm_PY b h = mm_P0) (d : h.1 66 69 = 1200 * b) : mm_R9J T n b h := by
  refine ⟨by omega, fun _ => ?_⟩
  have eO : mm_oY (1200 * b) h = [] := by
    unfold mm_oY
    rw [d, show (1200 * b - 1200 * b).toNat = 0 by omega]; rfl
  have eK : mm_kR b h = [] := by
    unfold mm_kR
    rw [c]; rfl
  rw [e, p, c, eO, eK]
  exact mm_Sj_rf
theorem mm_R9J_s {T : Int → Int} {n b : Int} {h0 h h2 : mH} (R9 : mm_R9 T n b h0 h) (R : mm_R9J T n b h) (g : h.1 66 57 = 0) (C9 : mm_C9 b h h2) (C : mm_CJ b h h2) (l : 1200 * b ≤ h2.1 66 69) : mm_R9J T n b h2 := by
  obtain ⟨r1, r2⟩ := R
  refine ⟨l, fun q => ?_⟩
  obtain ⟨c1, c2⟩ := C q
  have k := (C9.2.2.2.2 q).1
  rw [mm_fYj_T R9.2.1] at c2
  rw [k]
  exact mm_Sj_tr (r2 g) c2
def mm_ruY (h : mH) (w : mm_O3) : Prop := (h.1 66 67 = 0 ∧ w = ([], [])) ∨ (h.1 66 67 = 1 ∧ ∃ n : Nat, n ≤ 1200 ∧ w = (mm_sk0 (fun j => h.2.1 107 (1200 * h.1 66 68 + j)) n, mm_kR (h.1 66 68) h))
theorem mm_R9J_end {T : Int → Int} {n b : Int} {h0 h h2 : mH} (R9 : mm_R9 T n b h0 h) (R : mm_R9J T n b h) (g : h.1 66 57 = 0) (c : mm_cY h = 21) (e67 : h2.1 66 67 = 1) (e68 : h2.1 66 68 = b) (e7 : ∀ j, h2.2.1 107 j = h.2.1 107 j) (e3 : h2.2.1 103 b = h.2.1 103 b) (ck : mm_ck9 b (h.2.1 103 b) h h2) (t : h.1 66 69 ≤ 1200 * b + 1200) : ∃ w, mm_RDj T n w ∧ mm_ruY h2 w := by
  obtain ⟨r1, r2⟩ := R
  refine ⟨(mm_oY (1200 * b) h, mm_kR b h), ⟨h.1 66 62, h.2.1 103 b, mm_PY b h, mm_Sj_tr (r2 g) (mm_Sj_1 ?_)⟩, Or.inr ⟨e67, (h.1 66 69 - 1200 * b).toNat, by omega, ?_⟩⟩
  · rw [← mm_fYj_T R9.2.1]
    refine mm_sj_of (mm_sp_10.trans (if_pos c)) (mm_oj_10.trans ?_)
    unfold mm_cY at c
    rw [if_neg (by omega), if_neg (by omega)]
  · rw [e68, mm_kR_eq e3 ck, show h2.2.1 107 = h.2.1 107 from funext e7]
    rfl
theorem mm_ruY_sm {h h2 : mH} {w : mm_O3} (R : mm_ruY h w) (e67 : h2.1 66 67 = h.1 66 67) (e68 : h2.1 66 68 = h.1 66 68) (e3 : ∀ j, h2.2.1 103 j = h.2.1 103 j) (e4 : ∀ j, h2.2.1 104 j = h.2.1 104 j) (e5 : ∀ j, h2.2.1 105 j = h.2.1 105 j) (e6 : ∀ j, h2.2.1 106 j = h.2.1 106 j) (e7 : ∀ j, h2.2.1 107 j = h.2.1 107 j) : mm_ruY h2 w := by
  rcases R with ⟨a, c⟩ | ⟨a, n, c, d⟩
  · exact Or.inl ⟨e67.trans a, c⟩
  · refine Or.inr ⟨e67.trans a, n, c, ?_⟩
    rw [e68, mm_kR_eq (e3 _) (fun j _ _ => ⟨e4 j, e5 j, e6 j⟩), show h2.2.1 107 = h.2.1 107 from funext e7]
    exact d
theorem mm_ruY_bk {h h2 : mH} {w : mm_O3} {b : Int} (R : mm_ruY h w) (k : mm_bk h h2 b) (e67 : h2.1 66 67 = h.1 66 67) (e68 : h2.1 66 68 = h.1 66 68) (hb : h.1 66 67 = 0 ∨ b = 1 - h.1 66 68) (b68 : 0 ≤ h.1 66 68 ∧ h.1 66 68 ≤ 1) (c103 : 0 ≤ h.2.1 103 (h.1 66 68) ∧ h.2.1 103 (h.1 66 68) ≤ 20) : mm_ruY h2 w := by
  rcases R with ⟨a, c⟩ | ⟨a, n, c, d⟩
  · exact Or.inl ⟨e67.trans a, c⟩
  · have hb2 : b = 1 - h.1 66 68 := hb.resolve_left (by omega)
    refine Or.inr ⟨e67.trans a, n, c, ?_⟩
    rw [e68, mm_kR_eq (k.1 _ (by omega)) (fun j x y => k.2.1 j (by omega)), mm_sk0_cg (t := fun j => h2.2.1 107 (1200 * h.1 66 68 + j)) (t' := fun j => h.2.1 107 (1200 * h.1 66 68 + j)) n (fun j x y => k.2.2 _ (by omega))]
    exact d
/-! both sides hold the same rules -/
def mm_cJ (h : mH) : Prop := ∃ L : List mm_C3, mm_cdj (h.1 42 3) (h.2.1 43) L ∧ mm_ruY h (mm_bs9 L ([], []))
theorem mm_cJ_sm {h h2 : mH} (C : mm_cJ h) (e43 : ∀ j, h2.2.1 43 j = h.2.1 43 j) (e3 : ∀ j, h2.2.1 103 j = h.2.1 103 j) (e4 : ∀ j, h2.2.1 104 j = h.2.1 104 j) (e5 : ∀ j, h2.2.1 105 j = h.2.1 105 j) (e6 : ∀ j, h2.2.1 106 j = h.2.1 106 j) (e7 : ∀ j, h2.2.1 107 j = h.2.1 107 j) (e42 : h2.1 42 3 = h.1 42 3) (e67 : h2.1 66 67 = h.1 66 67) (e68 : h2.1 66 68 = h.1 66 68) : mm_cJ h2 := by
  obtain ⟨L, a, b⟩ := C
  exact ⟨L, mm_cdj_cp a e42 (fun j _ _ => e43 j), mm_ruY_sm b e67 e68 e3 e4 e5 e6 e7⟩
theorem mm_cJ_nil {h : mH} (a : h.1 42 3 = 0) (b : h.1 66 67 = 0) : mm_cJ h := ⟨[], ⟨fun q hq => absurd hq List.not_mem_nil, a, fun k hk => absurd hk (Nat.not_lt_zero _)⟩, Or.inl ⟨b, rfl⟩⟩
def mm_REj (h h2 : mH) (n r : Int) : Prop := (r = 0 ∧ ∃ w, mm_RDj (h.2.1 101) n w ∧ mm_ruY h2 w) ∨ (r ≠ 0 ∧ ∀ w, mm_ruY h w → mm_ruY h2 w)
theorem mm_fTj_cg {T T' : Int → Int} {n : Int} (e : ∀ j, 0 ≤ j → j < n → T j = T' j) : mm_fTj T n = mm_fTj T' n ∧ mm_A0 T n = mm_A0 T' n := by
  unfold mm_fTj mm_A0
  rw [mm_tr_cg e]
  exact ⟨rfl, rfl⟩
theorem mm_cJ_rules {h hc hy h2 : mH} {n k r : Int} (C : mm_cJ h) (e : ∀ j, 0 ≤ j → j < n → h.2.1 62 j = hy.2.1 101 j) (X : mm_RCj h hc n k) (Y : mm_REj hy h2 n r) (hk : k = r) (u : ∀ w, mm_ruY h w → mm_ruY hy w) (s42 : h2.1 42 3 = hc.1 42 3) (s43 : ∀ j, h2.2.1 43 j = hc.2.1 43 j) : mm_cJ h2 := by
  have c := mm_fTj_cg e
  rcases X with ⟨x1, L, x2, x3⟩ | ⟨x1, x2, x3⟩
  · rcases Y with ⟨y1, w, y2, y3⟩ | ⟨y1, y2⟩
    · unfold mm_RDj at y2
      rw [← c.1, ← c.2] at y2
      have z := mm_RDj_un x3 y2
      exact ⟨L, mm_cdj_cp x2 s42 (fun j _ _ => s43 j), by rw [z]; exact y3⟩
    · omega
  · rcases Y with ⟨y1, w, y2, y3⟩ | ⟨y1, y2⟩
    · omega
    · obtain ⟨L, a, b⟩ := C
      exact ⟨L, mm_cdj_cp a (s42.trans x2) (fun j _ _ => (s43 j).trans (x3 j)), y2 _ (u _ b)⟩
theorem mm_hcJ {c : Int} (z : c = 142 ∨ c = 147 ∨ c = 143 ∨ c = 145) : c ≠ 160 ∧ c ≠ 161 := ⟨by omega, by omega⟩
theorem mm_opJ9 {x l : Int} (a : Int) (h : (l = 2 ∧ a = 5 ∧ x = 5) ∨ (l = 1 ∧ a = 6 ∧ x = 4)) : ∃ c, mm_op9 x l a c := by
  rcases h with ⟨h1, h2, h3⟩ | ⟨h1, h2, h3⟩
  · exact ⟨100012, Or.inr (Or.inl ⟨h3, h1, h2, rfl⟩)⟩
  · exact ⟨100011, Or.inl ⟨h3, h1, h2, rfl⟩⟩
theorem mm_z0J {h1 h2 h3 h4 : mH} {t p : Int} (E : mm_e1 h1 t p h2) (g : h2.1 66 57 = 0) (d : h2.1 66 71 ≤ 1) (w : mm_wo h2 h3) (D : mm_dr h3 h4) (c : (0 : Int) < 0 ∨ h4.1 66 70 = 0 ∨ h4.2.1 108 (h4.1 66 70 - 1) = 13) : h4.1 66 70 = 0 := by
  obtain ⟨_, _, e⟩ := E
  have e2 := (e g).2.1
  have o : mm_O h3 = mm_O h2 := by
    unfold mm_O
    rw [w.2.1, show h3.2.1 108 = h2.2.1 108 from funext w.2.2.2]
  have o4 := D.2.2.1
  rcases c with c | c | c
  · exact absurd c (by decide)
  · exact c
  · by_cases q : 0 < h4.1 66 70
    · have z := mm_O_pop (h := h4) (h2 := mm_pf h4 66 70 (h4.1 66 70 - 1)) (mm_pf_same _ _ _ _) q (fun _ => rfl)
      rw [if_pos c] at z
      omega
    · have := D.2.2.2.2; omega
theorem mm_kw01 {r c : Int} (k : mm_kw9 r c) (q : r = 0 ∨ r = 1) : c = r ∧ (c = 0 ∨ c = 1) := by unfold mm_kw9 at k; omega
theorem mm_kwS {r c : Int} (k : mm_kw9 r c) (q : r = 3) : c = 2 := by unfold mm_kw9 at k; omega
theorem mm_kwU {r c : Int} (k : mm_kw9 r c) (q : r = 2) : c = 3 := by unfold mm_kw9 at k; omega
theorem mm_kwN {r c : Int} (k : mm_kw9 r c) (q : r ≠ 2) : c ≠ 3 := by unfold mm_kw9 at k; omega

set_option maxRecDepth 100000 in
set_option maxHeartbeats 4000000 in
theorem c_X12_strength_q (l : Launch) (hl : l.stackTraces = false) (d : Nat) (hd : 0 ≤ d) (h : mH) (i0 : mm_inv h) (p0 : Int) : mm_Met l d yX12_strength cX12_strength 1 (some .int) [mI p0] h (mm_pi fun r h2 => (0 ≤ r ∧ r ≤ 6) ∧ h2 = h ∧ r = mm_sgj p0) mm_nx 0 0 := by
  refine mm_ofW (ls := [mI p0]) hl (by decide) rfl (Nat.le_of_ble_eq_true rfl) ?_
  intro x hxl C T hnm htb
  subst hxl
  refine mm_rng (fun hr _ => ?_)
  have ap0 : -2147483648 ≤ p0 ∧ p0 < 2147483648 := mm_ok_at hr (i := 0) rfl
  have f0 : mm_fr [] [] h h := mm_fr_rf
  refine mm_iload_n C (mm_dec dk_X12_strength 0 rfl) rfl ?_
  refine mm_bipush C (mm_dec dk_X12_strength 1 rfl) ⟨by decide, by decide⟩ ?_
  refine mm_icmp_ne (tgt := 10) C (mm_dec dk_X12_strength 2 rfl) (by decide) (fun c3 => ?_) (fun c3 => ?_)
  · skip
    refine mm_iload_n C (mm_dec dk_X12_strength 5 rfl) rfl ?_
    refine mm_bipush C (mm_dec dk_X12_strength 6 rfl) ⟨by decide, by decide⟩ ?_
    refine mm_icmp_ne (tgt := 20) C (mm_dec dk_X12_strength 7 rfl) (by decide) (fun c13 => ?_) (fun c13 => ?_)
    · skip
      refine mm_iload_n C (mm_dec dk_X12_strength 10 rfl) rfl ?_
      refine mm_iconst C (mm_dec dk_X12_strength 11 rfl) ⟨by decide, by decide⟩ ?_
      refine mm_icmp_ne (tgt := 29) C (mm_dec dk_X12_strength 12 rfl) (by decide) (fun c22 => ?_) (fun c22 => ?_)
      · skip
        refine mm_iload_n C (mm_dec dk_X12_strength 15 rfl) rfl ?_
        refine mm_iconst C (mm_dec dk_X12_strength 16 rfl) ⟨by decide, by decide⟩ ?_
        refine mm_icmp_ne (tgt := 38) C (mm_dec dk_X12_strength 17 rfl) (by decide) (fun c31 => ?_) (fun c31 => ?_)
        · skip
          refine mm_iload_n C (mm_dec dk_X12_strength 20 rfl) rfl ?_
          refine mm_bipush C (mm_dec dk_X12_strength 21 rfl) ⟨by decide, by decide⟩ ?_
          refine mm_icmp_eq (tgt := 50) C (mm_dec dk_X12_strength 22 rfl) (by decide) (fun c41 => ?_) (fun c41 => ?_)
          · skip
            refine mm_iconst C (mm_dec dk_X12_strength 26 rfl) ⟨by decide, by decide⟩ ?_
            refine mm_goto (tgt := 72) C (mm_dec dk_X12_strength 27 rfl) (by decide) ?_
            exact mm_iret C T (mm_dec dk_X12_strength 37 rfl) (by decide : 0 ≤ 0) (by decide : 0 ≤ 0) ⟨_, rfl, ⟨⟨by omega, by omega⟩, rfl, by unfold mm_sgj; (repeat' split) <;> omega⟩⟩
          · skip
            refine mm_iload_n C (mm_dec dk_X12_strength 23 rfl) rfl ?_
            refine mm_bipush C (mm_dec dk_X12_strength 24 rfl) ⟨by decide, by decide⟩ ?_
            refine mm_icmp_ne (tgt := 54) C (mm_dec dk_X12_strength 25 rfl) (by decide) (fun c47 => ?_) (fun c47 => ?_)
            · skip
              refine mm_iload_n C (mm_dec dk_X12_strength 28 rfl) rfl ?_
              refine mm_bipush C (mm_dec dk_X12_strength 29 rfl) ⟨by decide, by decide⟩ ?_
              refine mm_icmp_eq (tgt := 66) C (mm_dec dk_X12_strength 30 rfl) (by decide) (fun c57 => ?_) (fun c57 => ?_)
              · skip
                refine mm_iconst C (mm_dec dk_X12_strength 34 rfl) ⟨by decide, by decide⟩ ?_
                refine mm_goto (tgt := 72) C (mm_dec dk_X12_strength 35 rfl) (by decide) ?_
                exact mm_iret C T (mm_dec dk_X12_strength 37 rfl) (by decide : 0 ≤ 0) (by decide : 0 ≤ 0) ⟨_, rfl, ⟨⟨by omega, by omega⟩, rfl, by unfold mm_sgj; (repeat' split) <;> omega⟩⟩
              · skip
                refine mm_iload_n C (mm_dec dk_X12_strength 31 rfl) rfl ?_
                refine mm_bipush C (mm_dec dk_X12_strength 32 rfl) ⟨by decide, by decide⟩ ?_
                refine mm_icmp_ne (tgt := 70) C (mm_dec dk_X12_strength 33 rfl) (by decide) (fun c63 => ?_) (fun c63 => ?_)
                · skip
                  refine mm_bipush C (mm_dec dk_X12_strength 36 rfl) ⟨by decide, by decide⟩ ?_
                  exact mm_iret C T (mm_dec dk_X12_strength 37 rfl) (by decide : 0 ≤ 0) (by decide : 0 ≤ 0) ⟨_, rfl, ⟨⟨by omega, by omega⟩, rfl, by unfold mm_sgj; (repeat' split) <;> omega⟩⟩
                · skip
                  refine mm_iconst C (mm_dec dk_X12_strength 34 rfl) ⟨by decide, by decide⟩ ?_
                  refine mm_goto (tgt := 72) C (mm_dec dk_X12_strength 35 rfl) (by decide) ?_
                  exact mm_iret C T (mm_dec dk_X12_strength 37 rfl) (by decide : 0 ≤ 0) (by decide : 0 ≤ 0) ⟨_, rfl, ⟨⟨by omega, by omega⟩, rfl, by unfold mm_sgj; (repeat' split) <;> omega⟩⟩
            · skip
              refine mm_iconst C (mm_dec dk_X12_strength 26 rfl) ⟨by decide, by decide⟩ ?_
              refine mm_goto (tgt := 72) C (mm_dec dk_X12_strength 27 rfl) (by decide) ?_
              exact mm_iret C T (mm_dec dk_X12_strength 37 rfl) (by decide : 0 ≤ 0) (by decide : 0 ≤ 0) ⟨_, rfl, ⟨⟨by omega, by omega⟩, rfl, by unfold mm_sgj; (repeat' split) <;> omega⟩⟩
        · skip
          refine mm_iconst C (mm_dec dk_X12_strength 18 rfl) ⟨by decide, by decide⟩ ?_
          refine mm_goto (tgt := 72) C (mm_dec dk_X12_strength 19 rfl) (by decide) ?_
          exact mm_iret C T (mm_dec dk_X12_strength 37 rfl) (by decide : 0 ≤ 0) (by decide : 0 ≤ 0) ⟨_, rfl, ⟨⟨by omega, by omega⟩, rfl, by unfold mm_sgj; (repeat' split) <;> omega⟩⟩
      · skip
        refine mm_iconst C (mm_dec dk_X12_strength 13 rfl) ⟨by decide, by decide⟩ ?_
        refine mm_goto (tgt := 72) C (mm_dec dk_X12_strength 14 rfl) (by decide) ?_
        exact mm_iret C T (mm_dec dk_X12_strength 37 rfl) (by decide : 0 ≤ 0) (by decide : 0 ≤ 0) ⟨_, rfl, ⟨⟨by omega, by omega⟩, rfl, by unfold mm_sgj; (repeat' split) <;> omega⟩⟩
    · skip
      refine mm_iconst C (mm_dec dk_X12_strength 8 rfl) ⟨by decide, by decide⟩ ?_
      refine mm_goto (tgt := 72) C (mm_dec dk_X12_strength 9 rfl) (by decide) ?_
      exact mm_iret C T (mm_dec dk_X12_strength 37 rfl) (by decide : 0 ≤ 0) (by decide : 0 ≤ 0) ⟨_, rfl, ⟨⟨by omega, by omega⟩, rfl, by unfold mm_sgj; (repeat' split) <;> omega⟩⟩
  · skip
    refine mm_iconst C (mm_dec dk_X12_strength 3 rfl) ⟨by decide, by decide⟩ ?_
    refine mm_goto (tgt := 72) C (mm_dec dk_X12_strength 4 rfl) (by decide) ?_
    exact mm_iret C T (mm_dec dk_X12_strength 37 rfl) (by decide : 0 ≤ 0) (by decide : 0 ≤ 0) ⟨_, rfl, ⟨⟨by omega, by omega⟩, rfl, by unfold mm_sgj; (repeat' split) <;> omega⟩⟩
set_option maxRecDepth 100000 in
set_option maxHeartbeats 4000000 in
theorem c_X12_spelled_q (l : Launch) (hl : l.stackTraces = false) (d : Nat) (hd : 0 ≤ d) (h : mH) (i0 : mm_inv h) (p0 : Int) (p1 : Int) (p2 : Int) (p3 : Int) (p4 : Int) (p5 : Int) (p6 : Int) (bp0 : 97 ≤ p0 ∧ p0 ≤ 122) (bp1 : 0 ≤ p1 ∧ p1 ≤ 122) (bp2 : 0 ≤ p2 ∧ p2 ≤ 122) (bp3 : 0 ≤ p3 ∧ p3 ≤ 122) (bp4 : 0 ≤ p4 ∧ p4 ≤ 122) (bp5 : 0 ≤ p5 ∧ p5 ≤ 122) (bp6 : 0 ≤ p6 ∧ p6 ≤ 122) (t0 : 97 ≤ p0 ∧ p0 ≤ 122) (t1 : (p1 = 0 ∨ (97 ≤ p1 ∧ p1 ≤ 122))) (t2 : (p2 = 0 ∨ (97 ≤ p2 ∧ p2 ≤ 122))) (t3 : (p3 = 0 ∨ (97 ≤ p3 ∧ p3 ≤ 122))) (t4 : (p4 = 0 ∨ (97 ≤ p4 ∧ p4 ≤ 122))) (t5 : (p5 = 0 ∨ (97 ≤ p5 ∧ p5 ≤ 122))) (t6 : (p6 = 0 ∨ (97 ≤ p6 ∧ p6 ≤ 122))) : mm_Met l d yX12_spelled cX12_spelled 9 (some .long) [mI p0, mI p1, mI p2, mI p3, mI p4, mI p5, mI p6] h (mm_pl fun r h2 => h2 = h ∧ r = mm_s1 (mm_s1 (mm_s1 (mm_s1 (mm_s1 (mm_s1 (p0 - 96) p1) p2) p3) p4) p5) p6) mm_nx 0 0 := by
  refine mm_ofW (ls := [mI p0, mI p1, mI p2, mI p3, mI p4, mI p5, mI p6, mU, mU]) hl (by decide) rfl (Nat.le_of_ble_eq_true rfl) ?_
  intro x hxl C T hnm htb
  subst hxl
  refine mm_rng (fun hr _ => ?_)
  have ap0 : -2147483648 ≤ p0 ∧ p0 < 2147483648 := mm_ok_at hr (i := 0) rfl
  have ap1 : -2147483648 ≤ p1 ∧ p1 < 2147483648 := mm_ok_at hr (i := 1) rfl
  have ap2 : -2147483648 ≤ p2 ∧ p2 < 2147483648 := mm_ok_at hr (i := 2) rfl
  have ap3 : -2147483648 ≤ p3 ∧ p3 < 2147483648 := mm_ok_at hr (i := 3) rfl
  have ap4 : -2147483648 ≤ p4 ∧ p4 < 2147483648 := mm_ok_at hr (i := 4) rfl
  have ap5 : -2147483648 ≤ p5 ∧ p5 < 2147483648 := mm_ok_at hr (i := 5) rfl
  have ap6 : -2147483648 ≤ p6 ∧ p6 < 2147483648 := mm_ok_at hr (i := 6) rfl
  have f0 : mm_fr [] [] h h := mm_fr_rf
  have v0 : 0 ≤ p0 - 96 ∧ p0 - 96 < 32 := by omega
  have v1 := mm_s1_rg v0 t1
  have v2 := mm_s1_rg v1 t2
  have v3 := mm_s1_rg v2 t3
  have v4 := mm_s1_rg v3 t4
  have v5 := mm_s1_rg v4 t5
  refine mm_iload_n C (mm_dec dk_X12_spelled 0 rfl) rfl ?_
  refine mm_bipush C (mm_dec dk_X12_spelled 1 rfl) ⟨by decide, by decide⟩ ?_
  refine mm_isub C (mm_dec dk_X12_spelled 2 rfl) ⟨by omega, by omega⟩ ?_
  refine mm_i2l C (mm_dec dk_X12_spelled 3 rfl) ?_
  refine mm_lstoreL (ls2 := [mI p0, mI p1, mI p2, mI p3, mI p4, mI p5, mI p6, mL (p0 - 96), mU]) C (mm_dec dk_X12_spelled 4 rfl) (by decide) rfl ?_
  refine mm_iload_n C (mm_dec dk_X12_spelled 5 rfl) rfl ?_
  have J23 : ∀ (x23_7 : Int) (bx23_7 : -9223372036854775808 ≤ x23_7 ∧ x23_7 < 9223372036854775808) (w23_0 : x23_7 = mm_s1 (p0 - 96) p1), mm_W x 0 0 23 [mU, mU, mI p2, mI p3, mI p4, mI p5, mI p6, mL x23_7, mU] [] h := by
    intro x23_7 bx23_7 w23_0
    refine mm_iload_n C (mm_dec dk_X12_spelled 16 rfl) rfl ?_
    have J39 : ∀ (x39_7 : Int) (bx39_7 : -9223372036854775808 ≤ x39_7 ∧ x39_7 < 9223372036854775808) (w39_0 : x39_7 = mm_s1 (mm_s1 (p0 - 96) p1) p2), mm_W x 0 0 39 [mU, mU, mU, mI p3, mI p4, mI p5, mI p6, mL x39_7, mU] [] h := by
      intro x39_7 bx39_7 w39_0
      refine mm_iload_n C (mm_dec dk_X12_spelled 27 rfl) rfl ?_
      have J55 : ∀ (x55_7 : Int) (bx55_7 : -9223372036854775808 ≤ x55_7 ∧ x55_7 < 9223372036854775808) (w55_0 : x55_7 = mm_s1 (mm_s1 (mm_s1 (p0 - 96) p1) p2) p3), mm_W x 0 0 55 [mU, mU, mU, mU, mI p4, mI p5, mI p6, mL x55_7, mU] [] h := by
        intro x55_7 bx55_7 w55_0
        refine mm_iload C (mm_dec dk_X12_spelled 38 rfl) rfl ?_
        have J73 : ∀ (x73_7 : Int) (bx73_7 : -9223372036854775808 ≤ x73_7 ∧ x73_7 < 9223372036854775808) (w73_0 : x73_7 = mm_s1 (mm_s1 (mm_s1 (mm_s1 (p0 - 96) p1) p2) p3) p4), mm_W x 0 0 73 [mU, mU, mU, mU, mU, mI p5, mI p6, mL x73_7, mU] [] h := by
          intro x73_7 bx73_7 w73_0
          refine mm_iload C (mm_dec dk_X12_spelled 49 rfl) rfl ?_
          have J91 : ∀ (x91_7 : Int) (bx91_7 : -9223372036854775808 ≤ x91_7 ∧ x91_7 < 9223372036854775808) (w91_0 : x91_7 = mm_s1 (mm_s1 (mm_s1 (mm_s1 (mm_s1 (p0 - 96) p1) p2) p3) p4) p5), mm_W x 0 0 91 [mU, mU, mU, mU, mU, mU, mI p6, mL x91_7, mU] [] h := by
            intro x91_7 bx91_7 w91_0
            refine mm_iload C (mm_dec dk_X12_spelled 60 rfl) rfl ?_
            have J109 : ∀ (x109_7 : Int) (bx109_7 : -9223372036854775808 ≤ x109_7 ∧ x109_7 < 9223372036854775808) (w109_0 : x109_7 = mm_s1 (mm_s1 (mm_s1 (mm_s1 (mm_s1 (mm_s1 (p0 - 96) p1) p2) p3) p4) p5) p6), mm_W x 0 0 109 [mU, mU, mU, mU, mU, mU, mU, mL x109_7, mU] [] h := by
              intro x109_7 bx109_7 w109_0
              refine mm_lload C (mm_dec dk_X12_spelled 71 rfl) rfl ?_
              exact mm_lret C T (mm_dec dk_X12_spelled 72 rfl) (by decide : 0 ≤ 0) (by decide : 0 ≤ 0) ⟨_, rfl, ⟨rfl, by exact w109_0⟩⟩
            refine mm_if_eq (tgt := 109) C (mm_dec dk_X12_spelled 61 rfl) (by decide) (fun c93 => ?_) (fun c93 => ?_)
            · skip
              refine mm_fgt 6 ?_
              exact J109 x91_7 (by first | assumption | exact ⟨by omega, by omega⟩) (by first | exact mm_s1_y w91_0 (by omega) t6 (by omega) (by assumption) (by assumption) | exact mm_s1_n w91_0 (by omega))
            · skip
              refine mm_lload C (mm_dec dk_X12_spelled 62 rfl) rfl ?_
              refine mm_iconst C (mm_dec dk_X12_spelled 63 rfl) ⟨by decide, by decide⟩ ?_
              refine mm_lshl C (mm_dec dk_X12_spelled 64 rfl) ?_
              have g1 : -9223372036854775808 ≤ (mm_vlshl x91_7 5) ∧ (mm_vlshl x91_7 5) < 9223372036854775808 := mm_rng64 _
              obtain ⟨y1, ey1⟩ : ∃ z, z = (mm_vlshl x91_7 5) := ⟨_, rfl⟩
              rw [← ey1] at g1 ⊢
              skip
              refine mm_iload C (mm_dec dk_X12_spelled 65 rfl) rfl ?_
              refine mm_bipush C (mm_dec dk_X12_spelled 66 rfl) ⟨by decide, by decide⟩ ?_
              refine mm_isub C (mm_dec dk_X12_spelled 67 rfl) ⟨by omega, by omega⟩ ?_
              refine mm_i2l C (mm_dec dk_X12_spelled 68 rfl) ?_
              refine mm_lor C (mm_dec dk_X12_spelled 69 rfl) ?_
              have g2 : -9223372036854775808 ≤ (mm_vlor y1 (p6 - 96)) ∧ (mm_vlor y1 (p6 - 96)) < 9223372036854775808 := mm_rng64 _
              obtain ⟨y2, ey2⟩ : ∃ z, z = (mm_vlor y1 (p6 - 96)) := ⟨_, rfl⟩
              rw [← ey2] at g2 ⊢
              skip
              refine mm_lstoreL (ls2 := [mU, mU, mU, mU, mU, mU, mI p6, mL y2, mU]) C (mm_dec dk_X12_spelled 70 rfl) (by decide) rfl ?_
              refine mm_fgt 6 ?_
              exact J109 y2 (by first | assumption | exact ⟨by omega, by omega⟩) (by first | exact mm_s1_y w91_0 (by omega) t6 (by omega) (by assumption) (by assumption) | exact mm_s1_n w91_0 (by omega))
          refine mm_if_eq (tgt := 91) C (mm_dec dk_X12_spelled 50 rfl) (by decide) (fun c75 => ?_) (fun c75 => ?_)
          · skip
            refine mm_fgt 5 ?_
            exact J91 x73_7 (by first | assumption | exact ⟨by omega, by omega⟩) (by first | exact mm_s1_y w73_0 (by omega) t5 (by omega) (by assumption) (by assumption) | exact mm_s1_n w73_0 (by omega))
          · skip
            refine mm_lload C (mm_dec dk_X12_spelled 51 rfl) rfl ?_
            refine mm_iconst C (mm_dec dk_X12_spelled 52 rfl) ⟨by decide, by decide⟩ ?_
            refine mm_lshl C (mm_dec dk_X12_spelled 53 rfl) ?_
            have g3 : -9223372036854775808 ≤ (mm_vlshl x73_7 5) ∧ (mm_vlshl x73_7 5) < 9223372036854775808 := mm_rng64 _
            obtain ⟨y3, ey3⟩ : ∃ z, z = (mm_vlshl x73_7 5) := ⟨_, rfl⟩
            rw [← ey3] at g3 ⊢
            skip
            refine mm_iload C (mm_dec dk_X12_spelled 54 rfl) rfl ?_
            refine mm_bipush C (mm_dec dk_X12_spelled 55 rfl) ⟨by decide, by decide⟩ ?_
            refine mm_isub C (mm_dec dk_X12_spelled 56 rfl) ⟨by omega, by omega⟩ ?_
            refine mm_i2l C (mm_dec dk_X12_spelled 57 rfl) ?_
            refine mm_lor C (mm_dec dk_X12_spelled 58 rfl) ?_
            have g4 : -9223372036854775808 ≤ (mm_vlor y3 (p5 - 96)) ∧ (mm_vlor y3 (p5 - 96)) < 9223372036854775808 := mm_rng64 _
            obtain ⟨y4, ey4⟩ : ∃ z, z = (mm_vlor y3 (p5 - 96)) := ⟨_, rfl⟩
            rw [← ey4] at g4 ⊢
            skip
            refine mm_lstoreL (ls2 := [mU, mU, mU, mU, mU, mI p5, mI p6, mL y4, mU]) C (mm_dec dk_X12_spelled 59 rfl) (by decide) rfl ?_
            refine mm_fgt 5 ?_
            exact J91 y4 (by first | assumption | exact ⟨by omega, by omega⟩) (by first | exact mm_s1_y w73_0 (by omega) t5 (by omega) (by assumption) (by assumption) | exact mm_s1_n w73_0 (by omega))
        refine mm_if_eq (tgt := 73) C (mm_dec dk_X12_spelled 39 rfl) (by decide) (fun c57 => ?_) (fun c57 => ?_)
        · skip
          refine mm_fgt 4 ?_
          exact J73 x55_7 (by first | assumption | exact ⟨by omega, by omega⟩) (by first | exact mm_s1_y w55_0 (by omega) t4 (by omega) (by assumption) (by assumption) | exact mm_s1_n w55_0 (by omega))
        · skip
          refine mm_lload C (mm_dec dk_X12_spelled 40 rfl) rfl ?_
          refine mm_iconst C (mm_dec dk_X12_spelled 41 rfl) ⟨by decide, by decide⟩ ?_
          refine mm_lshl C (mm_dec dk_X12_spelled 42 rfl) ?_
          have g5 : -9223372036854775808 ≤ (mm_vlshl x55_7 5) ∧ (mm_vlshl x55_7 5) < 9223372036854775808 := mm_rng64 _
          obtain ⟨y5, ey5⟩ : ∃ z, z = (mm_vlshl x55_7 5) := ⟨_, rfl⟩
          rw [← ey5] at g5 ⊢
          skip
          refine mm_iload C (mm_dec dk_X12_spelled 43 rfl) rfl ?_
          refine mm_bipush C (mm_dec dk_X12_spelled 44 rfl) ⟨by decide, by decide⟩ ?_
          refine mm_isub C (mm_dec dk_X12_spelled 45 rfl) ⟨by omega, by omega⟩ ?_
          refine mm_i2l C (mm_dec dk_X12_spelled 46 rfl) ?_
          refine mm_lor C (mm_dec dk_X12_spelled 47 rfl) ?_
          have g6 : -9223372036854775808 ≤ (mm_vlor y5 (p4 - 96)) ∧ (mm_vlor y5 (p4 - 96)) < 9223372036854775808 := mm_rng64 _
          obtain ⟨y6, ey6⟩ : ∃ z, z = (mm_vlor y5 (p4 - 96)) := ⟨_, rfl⟩
          rw [← ey6] at g6 ⊢
          skip
          refine mm_lstoreL (ls2 := [mU, mU, mU, mU, mI p4, mI p5, mI p6, mL y6, mU]) C (mm_dec dk_X12_spelled 48 rfl) (by decide) rfl ?_
          refine mm_fgt 4 ?_
          exact J73 y6 (by first | assumption | exact ⟨by omega, by omega⟩) (by first | exact mm_s1_y w55_0 (by omega) t4 (by omega) (by assumption) (by assumption) | exact mm_s1_n w55_0 (by omega))
      refine mm_if_eq (tgt := 55) C (mm_dec dk_X12_spelled 28 rfl) (by decide) (fun c40 => ?_) (fun c40 => ?_)
      · skip
        refine mm_fgt 3 ?_
        exact J55 x39_7 (by first | assumption | exact ⟨by omega, by omega⟩) (by first | exact mm_s1_y w39_0 (by omega) t3 (by omega) (by assumption) (by assumption) | exact mm_s1_n w39_0 (by omega))
      · skip
        refine mm_lload C (mm_dec dk_X12_spelled 29 rfl) rfl ?_
        refine mm_iconst C (mm_dec dk_X12_spelled 30 rfl) ⟨by decide, by decide⟩ ?_
        refine mm_lshl C (mm_dec dk_X12_spelled 31 rfl) ?_
        have g7 : -9223372036854775808 ≤ (mm_vlshl x39_7 5) ∧ (mm_vlshl x39_7 5) < 9223372036854775808 := mm_rng64 _
        obtain ⟨y7, ey7⟩ : ∃ z, z = (mm_vlshl x39_7 5) := ⟨_, rfl⟩
        rw [← ey7] at g7 ⊢
        skip
        refine mm_iload_n C (mm_dec dk_X12_spelled 32 rfl) rfl ?_
        refine mm_bipush C (mm_dec dk_X12_spelled 33 rfl) ⟨by decide, by decide⟩ ?_
        refine mm_isub C (mm_dec dk_X12_spelled 34 rfl) ⟨by omega, by omega⟩ ?_
        refine mm_i2l C (mm_dec dk_X12_spelled 35 rfl) ?_
        refine mm_lor C (mm_dec dk_X12_spelled 36 rfl) ?_
        have g8 : -9223372036854775808 ≤ (mm_vlor y7 (p3 - 96)) ∧ (mm_vlor y7 (p3 - 96)) < 9223372036854775808 := mm_rng64 _
        obtain ⟨y8, ey8⟩ : ∃ z, z = (mm_vlor y7 (p3 - 96)) := ⟨_, rfl⟩
        rw [← ey8] at g8 ⊢
        skip
        refine mm_lstoreL (ls2 := [mU, mU, mU, mI p3, mI p4, mI p5, mI p6, mL y8, mU]) C (mm_dec dk_X12_spelled 37 rfl) (by decide) rfl ?_
        refine mm_fgt 3 ?_
        exact J55 y8 (by first | assumption | exact ⟨by omega, by omega⟩) (by first | exact mm_s1_y w39_0 (by omega) t3 (by omega) (by assumption) (by assumption) | exact mm_s1_n w39_0 (by omega))
    refine mm_if_eq (tgt := 39) C (mm_dec dk_X12_spelled 17 rfl) (by decide) (fun c24 => ?_) (fun c24 => ?_)
    · skip
      refine mm_fgt 2 ?_
      exact J39 x23_7 (by first | assumption | exact ⟨by omega, by omega⟩) (by first | exact mm_s1_y w23_0 (by omega) t2 (by omega) (by assumption) (by assumption) | exact mm_s1_n w23_0 (by omega))
    · skip
      refine mm_lload C (mm_dec dk_X12_spelled 18 rfl) rfl ?_
      refine mm_iconst C (mm_dec dk_X12_spelled 19 rfl) ⟨by decide, by decide⟩ ?_
      refine mm_lshl C (mm_dec dk_X12_spelled 20 rfl) ?_
      have g9 : -9223372036854775808 ≤ (mm_vlshl x23_7 5) ∧ (mm_vlshl x23_7 5) < 9223372036854775808 := mm_rng64 _
      obtain ⟨y9, ey9⟩ : ∃ z, z = (mm_vlshl x23_7 5) := ⟨_, rfl⟩
      rw [← ey9] at g9 ⊢
      skip
      refine mm_iload_n C (mm_dec dk_X12_spelled 21 rfl) rfl ?_
      refine mm_bipush C (mm_dec dk_X12_spelled 22 rfl) ⟨by decide, by decide⟩ ?_
      refine mm_isub C (mm_dec dk_X12_spelled 23 rfl) ⟨by omega, by omega⟩ ?_
      refine mm_i2l C (mm_dec dk_X12_spelled 24 rfl) ?_
      refine mm_lor C (mm_dec dk_X12_spelled 25 rfl) ?_
      have g10 : -9223372036854775808 ≤ (mm_vlor y9 (p2 - 96)) ∧ (mm_vlor y9 (p2 - 96)) < 9223372036854775808 := mm_rng64 _
      obtain ⟨y10, ey10⟩ : ∃ z, z = (mm_vlor y9 (p2 - 96)) := ⟨_, rfl⟩
      rw [← ey10] at g10 ⊢
      skip
      refine mm_lstoreL (ls2 := [mU, mU, mI p2, mI p3, mI p4, mI p5, mI p6, mL y10, mU]) C (mm_dec dk_X12_spelled 26 rfl) (by decide) rfl ?_
      refine mm_fgt 2 ?_
      exact J39 y10 (by first | assumption | exact ⟨by omega, by omega⟩) (by first | exact mm_s1_y w23_0 (by omega) t2 (by omega) (by assumption) (by assumption) | exact mm_s1_n w23_0 (by omega))
  refine mm_if_eq (tgt := 23) C (mm_dec dk_X12_spelled 6 rfl) (by decide) (fun c8 => ?_) (fun c8 => ?_)
  · skip
    refine mm_fgt 0 ?_
    refine mm_fgt 1 ?_
    exact J23 (p0 - 96) (by first | assumption | exact ⟨by omega, by omega⟩) (by first | exact mm_s1_y rfl (by omega) t1 (by omega) (by assumption) (by assumption) | exact mm_s1_n rfl (by omega))
  · skip
    refine mm_lload C (mm_dec dk_X12_spelled 7 rfl) rfl ?_
    refine mm_iconst C (mm_dec dk_X12_spelled 8 rfl) ⟨by decide, by decide⟩ ?_
    refine mm_lshl C (mm_dec dk_X12_spelled 9 rfl) ?_
    have g11 : -9223372036854775808 ≤ (mm_vlshl (p0 - 96) 5) ∧ (mm_vlshl (p0 - 96) 5) < 9223372036854775808 := mm_rng64 _
    obtain ⟨y11, ey11⟩ : ∃ z, z = (mm_vlshl (p0 - 96) 5) := ⟨_, rfl⟩
    rw [← ey11] at g11 ⊢
    skip
    refine mm_iload_n C (mm_dec dk_X12_spelled 10 rfl) rfl ?_
    refine mm_bipush C (mm_dec dk_X12_spelled 11 rfl) ⟨by decide, by decide⟩ ?_
    refine mm_isub C (mm_dec dk_X12_spelled 12 rfl) ⟨by omega, by omega⟩ ?_
    refine mm_i2l C (mm_dec dk_X12_spelled 13 rfl) ?_
    refine mm_lor C (mm_dec dk_X12_spelled 14 rfl) ?_
    have g12 : -9223372036854775808 ≤ (mm_vlor y11 (p1 - 96)) ∧ (mm_vlor y11 (p1 - 96)) < 9223372036854775808 := mm_rng64 _
    obtain ⟨y12, ey12⟩ : ∃ z, z = (mm_vlor y11 (p1 - 96)) := ⟨_, rfl⟩
    rw [← ey12] at g12 ⊢
    skip
    refine mm_lstoreL (ls2 := [mI p0, mI p1, mI p2, mI p3, mI p4, mI p5, mI p6, mL y12, mU]) C (mm_dec dk_X12_spelled 15 rfl) (by decide) rfl ?_
    refine mm_fgt 0 ?_
    refine mm_fgt 1 ?_
    exact J23 y12 (by first | assumption | exact ⟨by omega, by omega⟩) (by first | exact mm_s1_y rfl (by omega) t1 (by omega) (by assumption) (by assumption) | exact mm_s1_n rfl (by omega))
set_option maxRecDepth 100000 in
set_option maxHeartbeats 4000000 in
theorem c_X12_known_q (l : Launch) (hl : l.stackTraces = false) (d : Nat) (hd : 1 ≤ d) (h : mH) (i0 : mm_inv h) (p0 : Int) (bp0 : 0 ≤ p0 ∧ p0 ≤ 16) : mm_Met l d yX12_known cX12_known 1 (some .long) [mI p0] h (mm_pl fun r h2 => h2 = h ∧ r = mm_ky p0) mm_nx 0 0 := by
  refine mm_ofW (ls := [mI p0]) hl (by decide) rfl (Nat.le_of_ble_eq_true rfl) ?_
  intro x hxl C T hnm htb
  subst hxl
  have C1 := mm_OK_le (d' := d - 1 + 1) (by omega) C
  refine mm_rng (fun hr _ => ?_)
  have ap0 : -2147483648 ≤ p0 ∧ p0 < 2147483648 := mm_ok_at hr (i := 0) rfl
  have f0 : mm_fr [] [] h h := mm_fr_rf
  refine mm_iload_n C (mm_dec dk_X12_known 0 rfl) rfl ?_
  refine mm_table (t0 := 325) [80, 98, 112, 129, 143, 157, 170, 184, 200, 214, 231, 248, 264, 278, 294, 310] C (mm_dec dk_X12_known 1 rfl) (by decide) (by decide) (by decide +kernel) (fun c1 => ?_) (fun k1 hk1 c1 => ?_)
  · skip
    refine mm_bipush C (mm_dec dk_X12_known 146 rfl) ⟨by decide, by decide⟩ ?_
    refine mm_bipush C (mm_dec dk_X12_known 147 rfl) ⟨by decide, by decide⟩ ?_
    refine mm_bipush C (mm_dec dk_X12_known 148 rfl) ⟨by decide, by decide⟩ ?_
    refine mm_bipush C (mm_dec dk_X12_known 149 rfl) ⟨by decide, by decide⟩ ?_
    refine mm_iconst C (mm_dec dk_X12_known 150 rfl) ⟨by decide, by decide⟩ ?_
    refine mm_iconst C (mm_dec dk_X12_known 151 rfl) ⟨by decide, by decide⟩ ?_
    refine mm_iconst C (mm_dec dk_X12_known 152 rfl) ⟨by decide, by decide⟩ ?_
    refine mm_cSl (rest := []) C1 es_X12_390 (mm_dec dk_X12_known 153 rfl) (c_X12_spelled_q x.2.1 hl (d - 1) (by omega) h i0 102 114 101 101 0 0 0 ⟨by omega, by omega⟩ ⟨by omega, by omega⟩ ⟨by omega, by omega⟩ ⟨by omega, by omega⟩ ⟨by omega, by omega⟩ ⟨by omega, by omega⟩ ⟨by omega, by omega⟩ (by omega) (by omega) (by omega) (by omega) (by omega) (by omega) (by omega)) rfl (Nat.le_of_ble_eq_true rfl) ⟨by decide, by decide⟩ rfl (fun r336 h336c hp336 => ?_) (fun _ _ q => q.elim)
    obtain ⟨z336, y336_0⟩ := hp336
    rw [z336]
    refine mm_rng (fun _ ho => ?_)
    have b336 : -9223372036854775808 ≤ r336 ∧ r336 < 9223372036854775808 := mm_ok_hd ho
    exact mm_lret C T (mm_dec dk_X12_known 154 rfl) (by decide : 0 ≤ 0) (by decide : 0 ≤ 0) ⟨_, rfl, ⟨rfl, by first | (rw [show p0 = 0 by omega]; exact y94_0.trans (by decide +kernel)) | (rw [show p0 = 1 by omega]; exact y108_0.trans (by decide +kernel)) | (rw [show p0 = 2 by omega]; exact y125_0.trans (by decide +kernel)) | (rw [show p0 = 3 by omega]; exact y139_0.trans (by decide +kernel)) | (rw [show p0 = 4 by omega]; exact y153_0.trans (by decide +kernel)) | (rw [show p0 = 5 by omega]; exact y166_0.trans (by decide +kernel)) | (rw [show p0 = 6 by omega]; exact y180_0.trans (by decide +kernel)) | (rw [show p0 = 7 by omega]; exact y196_0.trans (by decide +kernel)) | (rw [show p0 = 8 by omega]; exact y210_0.trans (by decide +kernel)) | (rw [show p0 = 9 by omega]; exact y227_0.trans (by decide +kernel)) | (rw [show p0 = 10 by omega]; exact y244_0.trans (by decide +kernel)) | (rw [show p0 = 11 by omega]; exact y260_0.trans (by decide +kernel)) | (rw [show p0 = 12 by omega]; exact y274_0.trans (by decide +kernel)) | (rw [show p0 = 13 by omega]; exact y290_0.trans (by decide +kernel)) | (rw [show p0 = 14 by omega]; exact y306_0.trans (by decide +kernel)) | (rw [show p0 = 15 by omega]; exact y321_0.trans (by decide +kernel)) | (rw [show p0 = 16 by omega]; exact y336_0.trans (by decide +kernel))⟩⟩
  · have hq1 : k1 < 16 := hk1
    rcases (by omega : k1 = 0 ∨ k1 = 1 ∨ k1 = 2 ∨ k1 = 3 ∨ k1 = 4 ∨ k1 = 5 ∨ k1 = 6 ∨ k1 = 7 ∨ k1 = 8 ∨ k1 = 9 ∨ k1 = 10 ∨ k1 = 11 ∨ k1 = 12 ∨ k1 = 13 ∨ k1 = 14 ∨ k1 = 15) with rfl | rfl | rfl | rfl | rfl | rfl | rfl | rfl | rfl | rfl | rfl | rfl | rfl | rfl | rfl | rfl
    · show mm_W x 0 0 80 _ _ _
      refine mm_bipush C (mm_dec dk_X12_known 2 rfl) ⟨by decide, by decide⟩ ?_
      refine mm_bipush C (mm_dec dk_X12_known 3 rfl) ⟨by decide, by decide⟩ ?_
      refine mm_bipush C (mm_dec dk_X12_known 4 rfl) ⟨by decide, by decide⟩ ?_
      refine mm_bipush C (mm_dec dk_X12_known 5 rfl) ⟨by decide, by decide⟩ ?_
      refine mm_bipush C (mm_dec dk_X12_known 6 rfl) ⟨by decide, by decide⟩ ?_
      refine mm_bipush C (mm_dec dk_X12_known 7 rfl) ⟨by decide, by decide⟩ ?_
      refine mm_bipush C (mm_dec dk_X12_known 8 rfl) ⟨by decide, by decide⟩ ?_
      refine mm_cSl (rest := []) C1 es_X12_390 (mm_dec dk_X12_known 9 rfl) (c_X12_spelled_q x.2.1 hl (d - 1) (by omega) h i0 112 101 110 97 108 116 121 ⟨by omega, by omega⟩ ⟨by omega, by omega⟩ ⟨by omega, by omega⟩ ⟨by omega, by omega⟩ ⟨by omega, by omega⟩ ⟨by omega, by omega⟩ ⟨by omega, by omega⟩ (by omega) (by omega) (by omega) (by omega) (by omega) (by omega) (by omega)) rfl (Nat.le_of_ble_eq_true rfl) ⟨by decide, by decide⟩ rfl (fun r94 h94c hp94 => ?_) (fun _ _ q => q.elim)
      obtain ⟨z94, y94_0⟩ := hp94
      rw [z94]
      refine mm_rng (fun _ ho => ?_)
      have b94 : -9223372036854775808 ≤ r94 ∧ r94 < 9223372036854775808 := mm_ok_hd ho
      exact mm_lret C T (mm_dec dk_X12_known 10 rfl) (by decide : 0 ≤ 0) (by decide : 0 ≤ 0) ⟨_, rfl, ⟨rfl, by first | (rw [show p0 = 0 by omega]; exact y94_0.trans (by decide +kernel)) | (rw [show p0 = 1 by omega]; exact y108_0.trans (by decide +kernel)) | (rw [show p0 = 2 by omega]; exact y125_0.trans (by decide +kernel)) | (rw [show p0 = 3 by omega]; exact y139_0.trans (by decide +kernel)) | (rw [show p0 = 4 by omega]; exact y153_0.trans (by decide +kernel)) | (rw [show p0 = 5 by omega]; exact y166_0.trans (by decide +kernel)) | (rw [show p0 = 6 by omega]; exact y180_0.trans (by decide +kernel)) | (rw [show p0 = 7 by omega]; exact y196_0.trans (by decide +kernel)) | (rw [show p0 = 8 by omega]; exact y210_0.trans (by decide +kernel)) | (rw [show p0 = 9 by omega]; exact y227_0.trans (by decide +kernel)) | (rw [show p0 = 10 by omega]; exact y244_0.trans (by decide +kernel)) | (rw [show p0 = 11 by omega]; exact y260_0.trans (by decide +kernel)) | (rw [show p0 = 12 by omega]; exact y274_0.trans (by decide +kernel)) | (rw [show p0 = 13 by omega]; exact y290_0.trans (by decide +kernel)) | (rw [show p0 = 14 by omega]; exact y306_0.trans (by decide +kernel)) | (rw [show p0 = 15 by omega]; exact y321_0.trans (by decide +kernel)) | (rw [show p0 = 16 by omega]; exact y336_0.trans (by decide +kernel))⟩⟩
    · show mm_W x 0 0 98 _ _ _
      refine mm_bipush C (mm_dec dk_X12_known 11 rfl) ⟨by decide, by decide⟩ ?_
      refine mm_bipush C (mm_dec dk_X12_known 12 rfl) ⟨by decide, by decide⟩ ?_
      refine mm_bipush C (mm_dec dk_X12_known 13 rfl) ⟨by decide, by decide⟩ ?_
      refine mm_iconst C (mm_dec dk_X12_known 14 rfl) ⟨by decide, by decide⟩ ?_
      refine mm_iconst C (mm_dec dk_X12_known 15 rfl) ⟨by decide, by decide⟩ ?_
      refine mm_iconst C (mm_dec dk_X12_known 16 rfl) ⟨by decide, by decide⟩ ?_
      refine mm_iconst C (mm_dec dk_X12_known 17 rfl) ⟨by decide, by decide⟩ ?_
      refine mm_cSl (rest := []) C1 es_X12_390 (mm_dec dk_X12_known 18 rfl) (c_X12_spelled_q x.2.1 hl (d - 1) (by omega) h i0 111 117 116 0 0 0 0 ⟨by omega, by omega⟩ ⟨by omega, by omega⟩ ⟨by omega, by omega⟩ ⟨by omega, by omega⟩ ⟨by omega, by omega⟩ ⟨by omega, by omega⟩ ⟨by omega, by omega⟩ (by omega) (by omega) (by omega) (by omega) (by omega) (by omega) (by omega)) rfl (Nat.le_of_ble_eq_true rfl) ⟨by decide, by decide⟩ rfl (fun r108 h108c hp108 => ?_) (fun _ _ q => q.elim)
      obtain ⟨z108, y108_0⟩ := hp108
      rw [z108]
      refine mm_rng (fun _ ho => ?_)
      have b108 : -9223372036854775808 ≤ r108 ∧ r108 < 9223372036854775808 := mm_ok_hd ho
      exact mm_lret C T (mm_dec dk_X12_known 19 rfl) (by decide : 0 ≤ 0) (by decide : 0 ≤ 0) ⟨_, rfl, ⟨rfl, by first | (rw [show p0 = 0 by omega]; exact y94_0.trans (by decide +kernel)) | (rw [show p0 = 1 by omega]; exact y108_0.trans (by decide +kernel)) | (rw [show p0 = 2 by omega]; exact y125_0.trans (by decide +kernel)) | (rw [show p0 = 3 by omega]; exact y139_0.trans (by decide +kernel)) | (rw [show p0 = 4 by omega]; exact y153_0.trans (by decide +kernel)) | (rw [show p0 = 5 by omega]; exact y166_0.trans (by decide +kernel)) | (rw [show p0 = 6 by omega]; exact y180_0.trans (by decide +kernel)) | (rw [show p0 = 7 by omega]; exact y196_0.trans (by decide +kernel)) | (rw [show p0 = 8 by omega]; exact y210_0.trans (by decide +kernel)) | (rw [show p0 = 9 by omega]; exact y227_0.trans (by decide +kernel)) | (rw [show p0 = 10 by omega]; exact y244_0.trans (by decide +kernel)) | (rw [show p0 = 11 by omega]; exact y260_0.trans (by decide +kernel)) | (rw [show p0 = 12 by omega]; exact y274_0.trans (by decide +kernel)) | (rw [show p0 = 13 by omega]; exact y290_0.trans (by decide +kernel)) | (rw [show p0 = 14 by omega]; exact y306_0.trans (by decide +kernel)) | (rw [show p0 = 15 by omega]; exact y321_0.trans (by decide +kernel)) | (rw [show p0 = 16 by omega]; exact y336_0.trans (by decide +kernel))⟩⟩
    · show mm_W x 0 0 112 _ _ _
      refine mm_bipush C (mm_dec dk_X12_known 20 rfl) ⟨by decide, by decide⟩ ?_
      refine mm_bipush C (mm_dec dk_X12_known 21 rfl) ⟨by decide, by decide⟩ ?_
      refine mm_bipush C (mm_dec dk_X12_known 22 rfl) ⟨by decide, by decide⟩ ?_
      refine mm_bipush C (mm_dec dk_X12_known 23 rfl) ⟨by decide, by decide⟩ ?_
      refine mm_bipush C (mm_dec dk_X12_known 24 rfl) ⟨by decide, by decide⟩ ?_
      refine mm_bipush C (mm_dec dk_X12_known 25 rfl) ⟨by decide, by decide⟩ ?_
      refine mm_iconst C (mm_dec dk_X12_known 26 rfl) ⟨by decide, by decide⟩ ?_
      refine mm_cSl (rest := []) C1 es_X12_390 (mm_dec dk_X12_known 27 rfl) (c_X12_spelled_q x.2.1 hl (d - 1) (by omega) h i0 117 110 108 101 115 115 0 ⟨by omega, by omega⟩ ⟨by omega, by omega⟩ ⟨by omega, by omega⟩ ⟨by omega, by omega⟩ ⟨by omega, by omega⟩ ⟨by omega, by omega⟩ ⟨by omega, by omega⟩ (by omega) (by omega) (by omega) (by omega) (by omega) (by omega) (by omega)) rfl (Nat.le_of_ble_eq_true rfl) ⟨by decide, by decide⟩ rfl (fun r125 h125c hp125 => ?_) (fun _ _ q => q.elim)
      obtain ⟨z125, y125_0⟩ := hp125
      rw [z125]
      refine mm_rng (fun _ ho => ?_)
      have b125 : -9223372036854775808 ≤ r125 ∧ r125 < 9223372036854775808 := mm_ok_hd ho
      exact mm_lret C T (mm_dec dk_X12_known 28 rfl) (by decide : 0 ≤ 0) (by decide : 0 ≤ 0) ⟨_, rfl, ⟨rfl, by first | (rw [show p0 = 0 by omega]; exact y94_0.trans (by decide +kernel)) | (rw [show p0 = 1 by omega]; exact y108_0.trans (by decide +kernel)) | (rw [show p0 = 2 by omega]; exact y125_0.trans (by decide +kernel)) | (rw [show p0 = 3 by omega]; exact y139_0.trans (by decide +kernel)) | (rw [show p0 = 4 by omega]; exact y153_0.trans (by decide +kernel)) | (rw [show p0 = 5 by omega]; exact y166_0.trans (by decide +kernel)) | (rw [show p0 = 6 by omega]; exact y180_0.trans (by decide +kernel)) | (rw [show p0 = 7 by omega]; exact y196_0.trans (by decide +kernel)) | (rw [show p0 = 8 by omega]; exact y210_0.trans (by decide +kernel)) | (rw [show p0 = 9 by omega]; exact y227_0.trans (by decide +kernel)) | (rw [show p0 = 10 by omega]; exact y244_0.trans (by decide +kernel)) | (rw [show p0 = 11 by omega]; exact y260_0.trans (by decide +kernel)) | (rw [show p0 = 12 by omega]; exact y274_0.trans (by decide +kernel)) | (rw [show p0 = 13 by omega]; exact y290_0.trans (by decide +kernel)) | (rw [show p0 = 14 by omega]; exact y306_0.trans (by decide +kernel)) | (rw [show p0 = 15 by omega]; exact y321_0.trans (by decide +kernel)) | (rw [show p0 = 16 by omega]; exact y336_0.trans (by decide +kernel))⟩⟩
    · show mm_W x 0 0 129 _ _ _
      refine mm_bipush C (mm_dec dk_X12_known 29 rfl) ⟨by decide, by decide⟩ ?_
      refine mm_bipush C (mm_dec dk_X12_known 30 rfl) ⟨by decide, by decide⟩ ?_
      refine mm_bipush C (mm_dec dk_X12_known 31 rfl) ⟨by decide, by decide⟩ ?_
      refine mm_iconst C (mm_dec dk_X12_known 32 rfl) ⟨by decide, by decide⟩ ?_
      refine mm_iconst C (mm_dec dk_X12_known 33 rfl) ⟨by decide, by decide⟩ ?_
      refine mm_iconst C (mm_dec dk_X12_known 34 rfl) ⟨by decide, by decide⟩ ?_
      refine mm_iconst C (mm_dec dk_X12_known 35 rfl) ⟨by decide, by decide⟩ ?_
      refine mm_cSl (rest := []) C1 es_X12_390 (mm_dec dk_X12_known 36 rfl) (c_X12_spelled_q x.2.1 hl (d - 1) (by omega) h i0 115 101 116 0 0 0 0 ⟨by omega, by omega⟩ ⟨by omega, by omega⟩ ⟨by omega, by omega⟩ ⟨by omega, by omega⟩ ⟨by omega, by omega⟩ ⟨by omega, by omega⟩ ⟨by omega, by omega⟩ (by omega) (by omega) (by omega) (by omega) (by omega) (by omega) (by omega)) rfl (Nat.le_of_ble_eq_true rfl) ⟨by decide, by decide⟩ rfl (fun r139 h139c hp139 => ?_) (fun _ _ q => q.elim)
      obtain ⟨z139, y139_0⟩ := hp139
      rw [z139]
      refine mm_rng (fun _ ho => ?_)
      have b139 : -9223372036854775808 ≤ r139 ∧ r139 < 9223372036854775808 := mm_ok_hd ho
      exact mm_lret C T (mm_dec dk_X12_known 37 rfl) (by decide : 0 ≤ 0) (by decide : 0 ≤ 0) ⟨_, rfl, ⟨rfl, by first | (rw [show p0 = 0 by omega]; exact y94_0.trans (by decide +kernel)) | (rw [show p0 = 1 by omega]; exact y108_0.trans (by decide +kernel)) | (rw [show p0 = 2 by omega]; exact y125_0.trans (by decide +kernel)) | (rw [show p0 = 3 by omega]; exact y139_0.trans (by decide +kernel)) | (rw [show p0 = 4 by omega]; exact y153_0.trans (by decide +kernel)) | (rw [show p0 = 5 by omega]; exact y166_0.trans (by decide +kernel)) | (rw [show p0 = 6 by omega]; exact y180_0.trans (by decide +kernel)) | (rw [show p0 = 7 by omega]; exact y196_0.trans (by decide +kernel)) | (rw [show p0 = 8 by omega]; exact y210_0.trans (by decide +kernel)) | (rw [show p0 = 9 by omega]; exact y227_0.trans (by decide +kernel)) | (rw [show p0 = 10 by omega]; exact y244_0.trans (by decide +kernel)) | (rw [show p0 = 11 by omega]; exact y260_0.trans (by decide +kernel)) | (rw [show p0 = 12 by omega]; exact y274_0.trans (by decide +kernel)) | (rw [show p0 = 13 by omega]; exact y290_0.trans (by decide +kernel)) | (rw [show p0 = 14 by omega]; exact y306_0.trans (by decide +kernel)) | (rw [show p0 = 15 by omega]; exact y321_0.trans (by decide +kernel)) | (rw [show p0 = 16 by omega]; exact y336_0.trans (by decide +kernel))⟩⟩
    · show mm_W x 0 0 143 _ _ _
      refine mm_bipush C (mm_dec dk_X12_known 38 rfl) ⟨by decide, by decide⟩ ?_
      refine mm_bipush C (mm_dec dk_X12_known 39 rfl) ⟨by decide, by decide⟩ ?_
      refine mm_bipush C (mm_dec dk_X12_known 40 rfl) ⟨by decide, by decide⟩ ?_
      refine mm_iconst C (mm_dec dk_X12_known 41 rfl) ⟨by decide, by decide⟩ ?_
      refine mm_iconst C (mm_dec dk_X12_known 42 rfl) ⟨by decide, by decide⟩ ?_
      refine mm_iconst C (mm_dec dk_X12_known 43 rfl) ⟨by decide, by decide⟩ ?_
      refine mm_iconst C (mm_dec dk_X12_known 44 rfl) ⟨by decide, by decide⟩ ?_
      refine mm_cSl (rest := []) C1 es_X12_390 (mm_dec dk_X12_known 45 rfl) (c_X12_spelled_q x.2.1 hl (d - 1) (by omega) h i0 97 110 100 0 0 0 0 ⟨by omega, by omega⟩ ⟨by omega, by omega⟩ ⟨by omega, by omega⟩ ⟨by omega, by omega⟩ ⟨by omega, by omega⟩ ⟨by omega, by omega⟩ ⟨by omega, by omega⟩ (by omega) (by omega) (by omega) (by omega) (by omega) (by omega) (by omega)) rfl (Nat.le_of_ble_eq_true rfl) ⟨by decide, by decide⟩ rfl (fun r153 h153c hp153 => ?_) (fun _ _ q => q.elim)
      obtain ⟨z153, y153_0⟩ := hp153
      rw [z153]
      refine mm_rng (fun _ ho => ?_)
      have b153 : -9223372036854775808 ≤ r153 ∧ r153 < 9223372036854775808 := mm_ok_hd ho
      exact mm_lret C T (mm_dec dk_X12_known 46 rfl) (by decide : 0 ≤ 0) (by decide : 0 ≤ 0) ⟨_, rfl, ⟨rfl, by first | (rw [show p0 = 0 by omega]; exact y94_0.trans (by decide +kernel)) | (rw [show p0 = 1 by omega]; exact y108_0.trans (by decide +kernel)) | (rw [show p0 = 2 by omega]; exact y125_0.trans (by decide +kernel)) | (rw [show p0 = 3 by omega]; exact y139_0.trans (by decide +kernel)) | (rw [show p0 = 4 by omega]; exact y153_0.trans (by decide +kernel)) | (rw [show p0 = 5 by omega]; exact y166_0.trans (by decide +kernel)) | (rw [show p0 = 6 by omega]; exact y180_0.trans (by decide +kernel)) | (rw [show p0 = 7 by omega]; exact y196_0.trans (by decide +kernel)) | (rw [show p0 = 8 by omega]; exact y210_0.trans (by decide +kernel)) | (rw [show p0 = 9 by omega]; exact y227_0.trans (by decide +kernel)) | (rw [show p0 = 10 by omega]; exact y244_0.trans (by decide +kernel)) | (rw [show p0 = 11 by omega]; exact y260_0.trans (by decide +kernel)) | (rw [show p0 = 12 by omega]; exact y274_0.trans (by decide +kernel)) | (rw [show p0 = 13 by omega]; exact y290_0.trans (by decide +kernel)) | (rw [show p0 = 14 by omega]; exact y306_0.trans (by decide +kernel)) | (rw [show p0 = 15 by omega]; exact y321_0.trans (by decide +kernel)) | (rw [show p0 = 16 by omega]; exact y336_0.trans (by decide +kernel))⟩⟩
    · show mm_W x 0 0 157 _ _ _
      refine mm_bipush C (mm_dec dk_X12_known 47 rfl) ⟨by decide, by decide⟩ ?_
      refine mm_bipush C (mm_dec dk_X12_known 48 rfl) ⟨by decide, by decide⟩ ?_
      refine mm_iconst C (mm_dec dk_X12_known 49 rfl) ⟨by decide, by decide⟩ ?_
      refine mm_iconst C (mm_dec dk_X12_known 50 rfl) ⟨by decide, by decide⟩ ?_
      refine mm_iconst C (mm_dec dk_X12_known 51 rfl) ⟨by decide, by decide⟩ ?_
      refine mm_iconst C (mm_dec dk_X12_known 52 rfl) ⟨by decide, by decide⟩ ?_
      refine mm_iconst C (mm_dec dk_X12_known 53 rfl) ⟨by decide, by decide⟩ ?_
      refine mm_cSl (rest := []) C1 es_X12_390 (mm_dec dk_X12_known 54 rfl) (c_X12_spelled_q x.2.1 hl (d - 1) (by omega) h i0 111 114 0 0 0 0 0 ⟨by omega, by omega⟩ ⟨by omega, by omega⟩ ⟨by omega, by omega⟩ ⟨by omega, by omega⟩ ⟨by omega, by omega⟩ ⟨by omega, by omega⟩ ⟨by omega, by omega⟩ (by omega) (by omega) (by omega) (by omega) (by omega) (by omega) (by omega)) rfl (Nat.le_of_ble_eq_true rfl) ⟨by decide, by decide⟩ rfl (fun r166 h166c hp166 => ?_) (fun _ _ q => q.elim)
      obtain ⟨z166, y166_0⟩ := hp166
      rw [z166]
      refine mm_rng (fun _ ho => ?_)
      have b166 : -9223372036854775808 ≤ r166 ∧ r166 < 9223372036854775808 := mm_ok_hd ho
      exact mm_lret C T (mm_dec dk_X12_known 55 rfl) (by decide : 0 ≤ 0) (by decide : 0 ≤ 0) ⟨_, rfl, ⟨rfl, by first | (rw [show p0 = 0 by omega]; exact y94_0.trans (by decide +kernel)) | (rw [show p0 = 1 by omega]; exact y108_0.trans (by decide +kernel)) | (rw [show p0 = 2 by omega]; exact y125_0.trans (by decide +kernel)) | (rw [show p0 = 3 by omega]; exact y139_0.trans (by decide +kernel)) | (rw [show p0 = 4 by omega]; exact y153_0.trans (by decide +kernel)) | (rw [show p0 = 5 by omega]; exact y166_0.trans (by decide +kernel)) | (rw [show p0 = 6 by omega]; exact y180_0.trans (by decide +kernel)) | (rw [show p0 = 7 by omega]; exact y196_0.trans (by decide +kernel)) | (rw [show p0 = 8 by omega]; exact y210_0.trans (by decide +kernel)) | (rw [show p0 = 9 by omega]; exact y227_0.trans (by decide +kernel)) | (rw [show p0 = 10 by omega]; exact y244_0.trans (by decide +kernel)) | (rw [show p0 = 11 by omega]; exact y260_0.trans (by decide +kernel)) | (rw [show p0 = 12 by omega]; exact y274_0.trans (by decide +kernel)) | (rw [show p0 = 13 by omega]; exact y290_0.trans (by decide +kernel)) | (rw [show p0 = 14 by omega]; exact y306_0.trans (by decide +kernel)) | (rw [show p0 = 15 by omega]; exact y321_0.trans (by decide +kernel)) | (rw [show p0 = 16 by omega]; exact y336_0.trans (by decide +kernel))⟩⟩
    · show mm_W x 0 0 170 _ _ _
      refine mm_bipush C (mm_dec dk_X12_known 56 rfl) ⟨by decide, by decide⟩ ?_
      refine mm_bipush C (mm_dec dk_X12_known 57 rfl) ⟨by decide, by decide⟩ ?_
      refine mm_bipush C (mm_dec dk_X12_known 58 rfl) ⟨by decide, by decide⟩ ?_
      refine mm_iconst C (mm_dec dk_X12_known 59 rfl) ⟨by decide, by decide⟩ ?_
      refine mm_iconst C (mm_dec dk_X12_known 60 rfl) ⟨by decide, by decide⟩ ?_
      refine mm_iconst C (mm_dec dk_X12_known 61 rfl) ⟨by decide, by decide⟩ ?_
      refine mm_iconst C (mm_dec dk_X12_known 62 rfl) ⟨by decide, by decide⟩ ?_
      refine mm_cSl (rest := []) C1 es_X12_390 (mm_dec dk_X12_known 63 rfl) (c_X12_spelled_q x.2.1 hl (d - 1) (by omega) h i0 110 111 116 0 0 0 0 ⟨by omega, by omega⟩ ⟨by omega, by omega⟩ ⟨by omega, by omega⟩ ⟨by omega, by omega⟩ ⟨by omega, by omega⟩ ⟨by omega, by omega⟩ ⟨by omega, by omega⟩ (by omega) (by omega) (by omega) (by omega) (by omega) (by omega) (by omega)) rfl (Nat.le_of_ble_eq_true rfl) ⟨by decide, by decide⟩ rfl (fun r180 h180c hp180 => ?_) (fun _ _ q => q.elim)
      obtain ⟨z180, y180_0⟩ := hp180
      rw [z180]
      refine mm_rng (fun _ ho => ?_)
      have b180 : -9223372036854775808 ≤ r180 ∧ r180 < 9223372036854775808 := mm_ok_hd ho
      exact mm_lret C T (mm_dec dk_X12_known 64 rfl) (by decide : 0 ≤ 0) (by decide : 0 ≤ 0) ⟨_, rfl, ⟨rfl, by first | (rw [show p0 = 0 by omega]; exact y94_0.trans (by decide +kernel)) | (rw [show p0 = 1 by omega]; exact y108_0.trans (by decide +kernel)) | (rw [show p0 = 2 by omega]; exact y125_0.trans (by decide +kernel)) | (rw [show p0 = 3 by omega]; exact y139_0.trans (by decide +kernel)) | (rw [show p0 = 4 by omega]; exact y153_0.trans (by decide +kernel)) | (rw [show p0 = 5 by omega]; exact y166_0.trans (by decide +kernel)) | (rw [show p0 = 6 by omega]; exact y180_0.trans (by decide +kernel)) | (rw [show p0 = 7 by omega]; exact y196_0.trans (by decide +kernel)) | (rw [show p0 = 8 by omega]; exact y210_0.trans (by decide +kernel)) | (rw [show p0 = 9 by omega]; exact y227_0.trans (by decide +kernel)) | (rw [show p0 = 10 by omega]; exact y244_0.trans (by decide +kernel)) | (rw [show p0 = 11 by omega]; exact y260_0.trans (by decide +kernel)) | (rw [show p0 = 12 by omega]; exact y274_0.trans (by decide +kernel)) | (rw [show p0 = 13 by omega]; exact y290_0.trans (by decide +kernel)) | (rw [show p0 = 14 by omega]; exact y306_0.trans (by decide +kernel)) | (rw [show p0 = 15 by omega]; exact y321_0.trans (by decide +kernel)) | (rw [show p0 = 16 by omega]; exact y336_0.trans (by decide +kernel))⟩⟩
    · show mm_W x 0 0 184 _ _ _
      refine mm_bipush C (mm_dec dk_X12_known 65 rfl) ⟨by decide, by decide⟩ ?_
      refine mm_bipush C (mm_dec dk_X12_known 66 rfl) ⟨by decide, by decide⟩ ?_
      refine mm_bipush C (mm_dec dk_X12_known 67 rfl) ⟨by decide, by decide⟩ ?_
      refine mm_bipush C (mm_dec dk_X12_known 68 rfl) ⟨by decide, by decide⟩ ?_
      refine mm_bipush C (mm_dec dk_X12_known 69 rfl) ⟨by decide, by decide⟩ ?_
      refine mm_iconst C (mm_dec dk_X12_known 70 rfl) ⟨by decide, by decide⟩ ?_
      refine mm_iconst C (mm_dec dk_X12_known 71 rfl) ⟨by decide, by decide⟩ ?_
      refine mm_cSl (rest := []) C1 es_X12_390 (mm_dec dk_X12_known 72 rfl) (c_X12_spelled_q x.2.1 hl (d - 1) (by omega) h i0 108 105 109 105 116 0 0 ⟨by omega, by omega⟩ ⟨by omega, by omega⟩ ⟨by omega, by omega⟩ ⟨by omega, by omega⟩ ⟨by omega, by omega⟩ ⟨by omega, by omega⟩ ⟨by omega, by omega⟩ (by omega) (by omega) (by omega) (by omega) (by omega) (by omega) (by omega)) rfl (Nat.le_of_ble_eq_true rfl) ⟨by decide, by decide⟩ rfl (fun r196 h196c hp196 => ?_) (fun _ _ q => q.elim)
      obtain ⟨z196, y196_0⟩ := hp196
      rw [z196]
      refine mm_rng (fun _ ho => ?_)
      have b196 : -9223372036854775808 ≤ r196 ∧ r196 < 9223372036854775808 := mm_ok_hd ho
      exact mm_lret C T (mm_dec dk_X12_known 73 rfl) (by decide : 0 ≤ 0) (by decide : 0 ≤ 0) ⟨_, rfl, ⟨rfl, by first | (rw [show p0 = 0 by omega]; exact y94_0.trans (by decide +kernel)) | (rw [show p0 = 1 by omega]; exact y108_0.trans (by decide +kernel)) | (rw [show p0 = 2 by omega]; exact y125_0.trans (by decide +kernel)) | (rw [show p0 = 3 by omega]; exact y139_0.trans (by decide +kernel)) | (rw [show p0 = 4 by omega]; exact y153_0.trans (by decide +kernel)) | (rw [show p0 = 5 by omega]; exact y166_0.trans (by decide +kernel)) | (rw [show p0 = 6 by omega]; exact y180_0.trans (by decide +kernel)) | (rw [show p0 = 7 by omega]; exact y196_0.trans (by decide +kernel)) | (rw [show p0 = 8 by omega]; exact y210_0.trans (by decide +kernel)) | (rw [show p0 = 9 by omega]; exact y227_0.trans (by decide +kernel)) | (rw [show p0 = 10 by omega]; exact y244_0.trans (by decide +kernel)) | (rw [show p0 = 11 by omega]; exact y260_0.trans (by decide +kernel)) | (rw [show p0 = 12 by omega]; exact y274_0.trans (by decide +kernel)) | (rw [show p0 = 13 by omega]; exact y290_0.trans (by decide +kernel)) | (rw [show p0 = 14 by omega]; exact y306_0.trans (by decide +kernel)) | (rw [show p0 = 15 by omega]; exact y321_0.trans (by decide +kernel)) | (rw [show p0 = 16 by omega]; exact y336_0.trans (by decide +kernel))⟩⟩
    · show mm_W x 0 0 200 _ _ _
      refine mm_bipush C (mm_dec dk_X12_known 74 rfl) ⟨by decide, by decide⟩ ?_
      refine mm_bipush C (mm_dec dk_X12_known 75 rfl) ⟨by decide, by decide⟩ ?_
      refine mm_bipush C (mm_dec dk_X12_known 76 rfl) ⟨by decide, by decide⟩ ?_
      refine mm_iconst C (mm_dec dk_X12_known 77 rfl) ⟨by decide, by decide⟩ ?_
      refine mm_iconst C (mm_dec dk_X12_known 78 rfl) ⟨by decide, by decide⟩ ?_
      refine mm_iconst C (mm_dec dk_X12_known 79 rfl) ⟨by decide, by decide⟩ ?_
      refine mm_iconst C (mm_dec dk_X12_known 80 rfl) ⟨by decide, by decide⟩ ?_
      refine mm_cSl (rest := []) C1 es_X12_390 (mm_dec dk_X12_known 81 rfl) (c_X12_spelled_q x.2.1 hl (d - 1) (by omega) h i0 103 97 112 0 0 0 0 ⟨by omega, by omega⟩ ⟨by omega, by omega⟩ ⟨by omega, by omega⟩ ⟨by omega, by omega⟩ ⟨by omega, by omega⟩ ⟨by omega, by omega⟩ ⟨by omega, by omega⟩ (by omega) (by omega) (by omega) (by omega) (by omega) (by omega) (by omega)) rfl (Nat.le_of_ble_eq_true rfl) ⟨by decide, by decide⟩ rfl (fun r210 h210c hp210 => ?_) (fun _ _ q => q.elim)
      obtain ⟨z210, y210_0⟩ := hp210
      rw [z210]
      refine mm_rng (fun _ ho => ?_)
      have b210 : -9223372036854775808 ≤ r210 ∧ r210 < 9223372036854775808 := mm_ok_hd ho
      exact mm_lret C T (mm_dec dk_X12_known 82 rfl) (by decide : 0 ≤ 0) (by decide : 0 ≤ 0) ⟨_, rfl, ⟨rfl, by first | (rw [show p0 = 0 by omega]; exact y94_0.trans (by decide +kernel)) | (rw [show p0 = 1 by omega]; exact y108_0.trans (by decide +kernel)) | (rw [show p0 = 2 by omega]; exact y125_0.trans (by decide +kernel)) | (rw [show p0 = 3 by omega]; exact y139_0.trans (by decide +kernel)) | (rw [show p0 = 4 by omega]; exact y153_0.trans (by decide +kernel)) | (rw [show p0 = 5 by omega]; exact y166_0.trans (by decide +kernel)) | (rw [show p0 = 6 by omega]; exact y180_0.trans (by decide +kernel)) | (rw [show p0 = 7 by omega]; exact y196_0.trans (by decide +kernel)) | (rw [show p0 = 8 by omega]; exact y210_0.trans (by decide +kernel)) | (rw [show p0 = 9 by omega]; exact y227_0.trans (by decide +kernel)) | (rw [show p0 = 10 by omega]; exact y244_0.trans (by decide +kernel)) | (rw [show p0 = 11 by omega]; exact y260_0.trans (by decide +kernel)) | (rw [show p0 = 12 by omega]; exact y274_0.trans (by decide +kernel)) | (rw [show p0 = 13 by omega]; exact y290_0.trans (by decide +kernel)) | (rw [show p0 = 14 by omega]; exact y306_0.trans (by decide +kernel)) | (rw [show p0 = 15 by omega]; exact y321_0.trans (by decide +kernel)) | (rw [show p0 = 16 by omega]; exact y336_0.trans (by decide +kernel))⟩⟩
    · show mm_W x 0 0 214 _ _ _
      refine mm_bipush C (mm_dec dk_X12_known 83 rfl) ⟨by decide, by decide⟩ ?_
      refine mm_bipush C (mm_dec dk_X12_known 84 rfl) ⟨by decide, by decide⟩ ?_
      refine mm_bipush C (mm_dec dk_X12_known 85 rfl) ⟨by decide, by decide⟩ ?_
      refine mm_bipush C (mm_dec dk_X12_known 86 rfl) ⟨by decide, by decide⟩ ?_
      refine mm_bipush C (mm_dec dk_X12_known 87 rfl) ⟨by decide, by decide⟩ ?_
      refine mm_bipush C (mm_dec dk_X12_known 88 rfl) ⟨by decide, by decide⟩ ?_
      refine mm_iconst C (mm_dec dk_X12_known 89 rfl) ⟨by decide, by decide⟩ ?_
      refine mm_cSl (rest := []) C1 es_X12_390 (mm_dec dk_X12_known 90 rfl) (c_X12_spelled_q x.2.1 hl (d - 1) (by omega) h i0 119 105 110 100 111 119 0 ⟨by omega, by omega⟩ ⟨by omega, by omega⟩ ⟨by omega, by omega⟩ ⟨by omega, by omega⟩ ⟨by omega, by omega⟩ ⟨by omega, by omega⟩ ⟨by omega, by omega⟩ (by omega) (by omega) (by omega) (by omega) (by omega) (by omega) (by omega)) rfl (Nat.le_of_ble_eq_true rfl) ⟨by decide, by decide⟩ rfl (fun r227 h227c hp227 => ?_) (fun _ _ q => q.elim)
      obtain ⟨z227, y227_0⟩ := hp227
      rw [z227]
      refine mm_rng (fun _ ho => ?_)
      have b227 : -9223372036854775808 ≤ r227 ∧ r227 < 9223372036854775808 := mm_ok_hd ho
      exact mm_lret C T (mm_dec dk_X12_known 91 rfl) (by decide : 0 ≤ 0) (by decide : 0 ≤ 0) ⟨_, rfl, ⟨rfl, by first | (rw [show p0 = 0 by omega]; exact y94_0.trans (by decide +kernel)) | (rw [show p0 = 1 by omega]; exact y108_0.trans (by decide +kernel)) | (rw [show p0 = 2 by omega]; exact y125_0.trans (by decide +kernel)) | (rw [show p0 = 3 by omega]; exact y139_0.trans (by decide +kernel)) | (rw [show p0 = 4 by omega]; exact y153_0.trans (by decide +kernel)) | (rw [show p0 = 5 by omega]; exact y166_0.trans (by decide +kernel)) | (rw [show p0 = 6 by omega]; exact y180_0.trans (by decide +kernel)) | (rw [show p0 = 7 by omega]; exact y196_0.trans (by decide +kernel)) | (rw [show p0 = 8 by omega]; exact y210_0.trans (by decide +kernel)) | (rw [show p0 = 9 by omega]; exact y227_0.trans (by decide +kernel)) | (rw [show p0 = 10 by omega]; exact y244_0.trans (by decide +kernel)) | (rw [show p0 = 11 by omega]; exact y260_0.trans (by decide +kernel)) | (rw [show p0 = 12 by omega]; exact y274_0.trans (by decide +kernel)) | (rw [show p0 = 13 by omega]; exact y290_0.trans (by decide +kernel)) | (rw [show p0 = 14 by omega]; exact y306_0.trans (by decide +kernel)) | (rw [show p0 = 15 by omega]; exact y321_0.trans (by decide +kernel)) | (rw [show p0 = 16 by omega]; exact y336_0.trans (by decide +kernel))⟩⟩
    · show mm_W x 0 0 231 _ _ _
      refine mm_bipush C (mm_dec dk_X12_known 92 rfl) ⟨by decide, by decide⟩ ?_
      refine mm_bipush C (mm_dec dk_X12_known 93 rfl) ⟨by decide, by decide⟩ ?_
      refine mm_bipush C (mm_dec dk_X12_known 94 rfl) ⟨by decide, by decide⟩ ?_
      refine mm_bipush C (mm_dec dk_X12_known 95 rfl) ⟨by decide, by decide⟩ ?_
      refine mm_bipush C (mm_dec dk_X12_known 96 rfl) ⟨by decide, by decide⟩ ?_
      refine mm_bipush C (mm_dec dk_X12_known 97 rfl) ⟨by decide, by decide⟩ ?_
      refine mm_iconst C (mm_dec dk_X12_known 98 rfl) ⟨by decide, by decide⟩ ?_
      refine mm_cSl (rest := []) C1 es_X12_390 (mm_dec dk_X12_known 99 rfl) (c_X12_spelled_q x.2.1 hl (d - 1) (by omega) h i0 109 105 115 115 101 100 0 ⟨by omega, by omega⟩ ⟨by omega, by omega⟩ ⟨by omega, by omega⟩ ⟨by omega, by omega⟩ ⟨by omega, by omega⟩ ⟨by omega, by omega⟩ ⟨by omega, by omega⟩ (by omega) (by omega) (by omega) (by omega) (by omega) (by omega) (by omega)) rfl (Nat.le_of_ble_eq_true rfl) ⟨by decide, by decide⟩ rfl (fun r244 h244c hp244 => ?_) (fun _ _ q => q.elim)
      obtain ⟨z244, y244_0⟩ := hp244
      rw [z244]
      refine mm_rng (fun _ ho => ?_)
      have b244 : -9223372036854775808 ≤ r244 ∧ r244 < 9223372036854775808 := mm_ok_hd ho
      exact mm_lret C T (mm_dec dk_X12_known 100 rfl) (by decide : 0 ≤ 0) (by decide : 0 ≤ 0) ⟨_, rfl, ⟨rfl, by first | (rw [show p0 = 0 by omega]; exact y94_0.trans (by decide +kernel)) | (rw [show p0 = 1 by omega]; exact y108_0.trans (by decide +kernel)) | (rw [show p0 = 2 by omega]; exact y125_0.trans (by decide +kernel)) | (rw [show p0 = 3 by omega]; exact y139_0.trans (by decide +kernel)) | (rw [show p0 = 4 by omega]; exact y153_0.trans (by decide +kernel)) | (rw [show p0 = 5 by omega]; exact y166_0.trans (by decide +kernel)) | (rw [show p0 = 6 by omega]; exact y180_0.trans (by decide +kernel)) | (rw [show p0 = 7 by omega]; exact y196_0.trans (by decide +kernel)) | (rw [show p0 = 8 by omega]; exact y210_0.trans (by decide +kernel)) | (rw [show p0 = 9 by omega]; exact y227_0.trans (by decide +kernel)) | (rw [show p0 = 10 by omega]; exact y244_0.trans (by decide +kernel)) | (rw [show p0 = 11 by omega]; exact y260_0.trans (by decide +kernel)) | (rw [show p0 = 12 by omega]; exact y274_0.trans (by decide +kernel)) | (rw [show p0 = 13 by omega]; exact y290_0.trans (by decide +kernel)) | (rw [show p0 = 14 by omega]; exact y306_0.trans (by decide +kernel)) | (rw [show p0 = 15 by omega]; exact y321_0.trans (by decide +kernel)) | (rw [show p0 = 16 by omega]; exact y336_0.trans (by decide +kernel))⟩⟩
    · show mm_W x 0 0 248 _ _ _
      refine mm_bipush C (mm_dec dk_X12_known 101 rfl) ⟨by decide, by decide⟩ ?_
      refine mm_bipush C (mm_dec dk_X12_known 102 rfl) ⟨by decide, by decide⟩ ?_
      refine mm_bipush C (mm_dec dk_X12_known 103 rfl) ⟨by decide, by decide⟩ ?_
      refine mm_bipush C (mm_dec dk_X12_known 104 rfl) ⟨by decide, by decide⟩ ?_
      refine mm_bipush C (mm_dec dk_X12_known 105 rfl) ⟨by decide, by decide⟩ ?_
      refine mm_iconst C (mm_dec dk_X12_known 106 rfl) ⟨by decide, by decide⟩ ?_
      refine mm_iconst C (mm_dec dk_X12_known 107 rfl) ⟨by decide, by decide⟩ ?_
      refine mm_cSl (rest := []) C1 es_X12_390 (mm_dec dk_X12_known 108 rfl) (c_X12_spelled_q x.2.1 hl (d - 1) (by omega) h i0 119 114 111 110 103 0 0 ⟨by omega, by omega⟩ ⟨by omega, by omega⟩ ⟨by omega, by omega⟩ ⟨by omega, by omega⟩ ⟨by omega, by omega⟩ ⟨by omega, by omega⟩ ⟨by omega, by omega⟩ (by omega) (by omega) (by omega) (by omega) (by omega) (by omega) (by omega)) rfl (Nat.le_of_ble_eq_true rfl) ⟨by decide, by decide⟩ rfl (fun r260 h260c hp260 => ?_) (fun _ _ q => q.elim)
      obtain ⟨z260, y260_0⟩ := hp260
      rw [z260]
      refine mm_rng (fun _ ho => ?_)
      have b260 : -9223372036854775808 ≤ r260 ∧ r260 < 9223372036854775808 := mm_ok_hd ho
      exact mm_lret C T (mm_dec dk_X12_known 109 rfl) (by decide : 0 ≤ 0) (by decide : 0 ≤ 0) ⟨_, rfl, ⟨rfl, by first | (rw [show p0 = 0 by omega]; exact y94_0.trans (by decide +kernel)) | (rw [show p0 = 1 by omega]; exact y108_0.trans (by decide +kernel)) | (rw [show p0 = 2 by omega]; exact y125_0.trans (by decide +kernel)) | (rw [show p0 = 3 by omega]; exact y139_0.trans (by decide +kernel)) | (rw [show p0 = 4 by omega]; exact y153_0.trans (by decide +kernel)) | (rw [show p0 = 5 by omega]; exact y166_0.trans (by decide +kernel)) | (rw [show p0 = 6 by omega]; exact y180_0.trans (by decide +kernel)) | (rw [show p0 = 7 by omega]; exact y196_0.trans (by decide +kernel)) | (rw [show p0 = 8 by omega]; exact y210_0.trans (by decide +kernel)) | (rw [show p0 = 9 by omega]; exact y227_0.trans (by decide +kernel)) | (rw [show p0 = 10 by omega]; exact y244_0.trans (by decide +kernel)) | (rw [show p0 = 11 by omega]; exact y260_0.trans (by decide +kernel)) | (rw [show p0 = 12 by omega]; exact y274_0.trans (by decide +kernel)) | (rw [show p0 = 13 by omega]; exact y290_0.trans (by decide +kernel)) | (rw [show p0 = 14 by omega]; exact y306_0.trans (by decide +kernel)) | (rw [show p0 = 15 by omega]; exact y321_0.trans (by decide +kernel)) | (rw [show p0 = 16 by omega]; exact y336_0.trans (by decide +kernel))⟩⟩
    · show mm_W x 0 0 264 _ _ _
      refine mm_bipush C (mm_dec dk_X12_known 110 rfl) ⟨by decide, by decide⟩ ?_
      refine mm_bipush C (mm_dec dk_X12_known 111 rfl) ⟨by decide, by decide⟩ ?_
      refine mm_bipush C (mm_dec dk_X12_known 112 rfl) ⟨by decide, by decide⟩ ?_
      refine mm_iconst C (mm_dec dk_X12_known 113 rfl) ⟨by decide, by decide⟩ ?_
      refine mm_iconst C (mm_dec dk_X12_known 114 rfl) ⟨by decide, by decide⟩ ?_
      refine mm_iconst C (mm_dec dk_X12_known 115 rfl) ⟨by decide, by decide⟩ ?_
      refine mm_iconst C (mm_dec dk_X12_known 116 rfl) ⟨by decide, by decide⟩ ?_
      refine mm_cSl (rest := []) C1 es_X12_390 (mm_dec dk_X12_known 117 rfl) (c_X12_spelled_q x.2.1 hl (d - 1) (by omega) h i0 114 117 110 0 0 0 0 ⟨by omega, by omega⟩ ⟨by omega, by omega⟩ ⟨by omega, by omega⟩ ⟨by omega, by omega⟩ ⟨by omega, by omega⟩ ⟨by omega, by omega⟩ ⟨by omega, by omega⟩ (by omega) (by omega) (by omega) (by omega) (by omega) (by omega) (by omega)) rfl (Nat.le_of_ble_eq_true rfl) ⟨by decide, by decide⟩ rfl (fun r274 h274c hp274 => ?_) (fun _ _ q => q.elim)
      obtain ⟨z274, y274_0⟩ := hp274
      rw [z274]
      refine mm_rng (fun _ ho => ?_)
      have b274 : -9223372036854775808 ≤ r274 ∧ r274 < 9223372036854775808 := mm_ok_hd ho
      exact mm_lret C T (mm_dec dk_X12_known 118 rfl) (by decide : 0 ≤ 0) (by decide : 0 ≤ 0) ⟨_, rfl, ⟨rfl, by first | (rw [show p0 = 0 by omega]; exact y94_0.trans (by decide +kernel)) | (rw [show p0 = 1 by omega]; exact y108_0.trans (by decide +kernel)) | (rw [show p0 = 2 by omega]; exact y125_0.trans (by decide +kernel)) | (rw [show p0 = 3 by omega]; exact y139_0.trans (by decide +kernel)) | (rw [show p0 = 4 by omega]; exact y153_0.trans (by decide +kernel)) | (rw [show p0 = 5 by omega]; exact y166_0.trans (by decide +kernel)) | (rw [show p0 = 6 by omega]; exact y180_0.trans (by decide +kernel)) | (rw [show p0 = 7 by omega]; exact y196_0.trans (by decide +kernel)) | (rw [show p0 = 8 by omega]; exact y210_0.trans (by decide +kernel)) | (rw [show p0 = 9 by omega]; exact y227_0.trans (by decide +kernel)) | (rw [show p0 = 10 by omega]; exact y244_0.trans (by decide +kernel)) | (rw [show p0 = 11 by omega]; exact y260_0.trans (by decide +kernel)) | (rw [show p0 = 12 by omega]; exact y274_0.trans (by decide +kernel)) | (rw [show p0 = 13 by omega]; exact y290_0.trans (by decide +kernel)) | (rw [show p0 = 14 by omega]; exact y306_0.trans (by decide +kernel)) | (rw [show p0 = 15 by omega]; exact y321_0.trans (by decide +kernel)) | (rw [show p0 = 16 by omega]; exact y336_0.trans (by decide +kernel))⟩⟩
    · show mm_W x 0 0 278 _ _ _
      refine mm_bipush C (mm_dec dk_X12_known 119 rfl) ⟨by decide, by decide⟩ ?_
      refine mm_bipush C (mm_dec dk_X12_known 120 rfl) ⟨by decide, by decide⟩ ?_
      refine mm_bipush C (mm_dec dk_X12_known 121 rfl) ⟨by decide, by decide⟩ ?_
      refine mm_bipush C (mm_dec dk_X12_known 122 rfl) ⟨by decide, by decide⟩ ?_
      refine mm_bipush C (mm_dec dk_X12_known 123 rfl) ⟨by decide, by decide⟩ ?_
      refine mm_iconst C (mm_dec dk_X12_known 124 rfl) ⟨by decide, by decide⟩ ?_
      refine mm_iconst C (mm_dec dk_X12_known 125 rfl) ⟨by decide, by decide⟩ ?_
      refine mm_cSl (rest := []) C1 es_X12_390 (mm_dec dk_X12_known 126 rfl) (c_X12_spelled_q x.2.1 hl (d - 1) (by omega) h i0 115 99 111 114 101 0 0 ⟨by omega, by omega⟩ ⟨by omega, by omega⟩ ⟨by omega, by omega⟩ ⟨by omega, by omega⟩ ⟨by omega, by omega⟩ ⟨by omega, by omega⟩ ⟨by omega, by omega⟩ (by omega) (by omega) (by omega) (by omega) (by omega) (by omega) (by omega)) rfl (Nat.le_of_ble_eq_true rfl) ⟨by decide, by decide⟩ rfl (fun r290 h290c hp290 => ?_) (fun _ _ q => q.elim)
      obtain ⟨z290, y290_0⟩ := hp290
      rw [z290]
      refine mm_rng (fun _ ho => ?_)
      have b290 : -9223372036854775808 ≤ r290 ∧ r290 < 9223372036854775808 := mm_ok_hd ho
      exact mm_lret C T (mm_dec dk_X12_known 127 rfl) (by decide : 0 ≤ 0) (by decide : 0 ≤ 0) ⟨_, rfl, ⟨rfl, by first | (rw [show p0 = 0 by omega]; exact y94_0.trans (by decide +kernel)) | (rw [show p0 = 1 by omega]; exact y108_0.trans (by decide +kernel)) | (rw [show p0 = 2 by omega]; exact y125_0.trans (by decide +kernel)) | (rw [show p0 = 3 by omega]; exact y139_0.trans (by decide +kernel)) | (rw [show p0 = 4 by omega]; exact y153_0.trans (by decide +kernel)) | (rw [show p0 = 5 by omega]; exact y166_0.trans (by decide +kernel)) | (rw [show p0 = 6 by omega]; exact y180_0.trans (by decide +kernel)) | (rw [show p0 = 7 by omega]; exact y196_0.trans (by decide +kernel)) | (rw [show p0 = 8 by omega]; exact y210_0.trans (by decide +kernel)) | (rw [show p0 = 9 by omega]; exact y227_0.trans (by decide +kernel)) | (rw [show p0 = 10 by omega]; exact y244_0.trans (by decide +kernel)) | (rw [show p0 = 11 by omega]; exact y260_0.trans (by decide +kernel)) | (rw [show p0 = 12 by omega]; exact y274_0.trans (by decide +kernel)) | (rw [show p0 = 13 by omega]; exact y290_0.trans (by decide +kernel)) | (rw [show p0 = 14 by omega]; exact y306_0.trans (by decide +kernel)) | (rw [show p0 = 15 by omega]; exact y321_0.trans (by decide +kernel)) | (rw [show p0 = 16 by omega]; exact y336_0.trans (by decide +kernel))⟩⟩
    · show mm_W x 0 0 294 _ _ _
      refine mm_bipush C (mm_dec dk_X12_known 128 rfl) ⟨by decide, by decide⟩ ?_
      refine mm_bipush C (mm_dec dk_X12_known 129 rfl) ⟨by decide, by decide⟩ ?_
      refine mm_bipush C (mm_dec dk_X12_known 130 rfl) ⟨by decide, by decide⟩ ?_
      refine mm_bipush C (mm_dec dk_X12_known 131 rfl) ⟨by decide, by decide⟩ ?_
      refine mm_bipush C (mm_dec dk_X12_known 132 rfl) ⟨by decide, by decide⟩ ?_
      refine mm_iconst C (mm_dec dk_X12_known 133 rfl) ⟨by decide, by decide⟩ ?_
      refine mm_iconst C (mm_dec dk_X12_known 134 rfl) ⟨by decide, by decide⟩ ?_
      refine mm_cSl (rest := []) C1 es_X12_390 (mm_dec dk_X12_known 135 rfl) (c_X12_spelled_q x.2.1 hl (d - 1) (by omega) h i0 112 111 115 116 115 0 0 ⟨by omega, by omega⟩ ⟨by omega, by omega⟩ ⟨by omega, by omega⟩ ⟨by omega, by omega⟩ ⟨by omega, by omega⟩ ⟨by omega, by omega⟩ ⟨by omega, by omega⟩ (by omega) (by omega) (by omega) (by omega) (by omega) (by omega) (by omega)) rfl (Nat.le_of_ble_eq_true rfl) ⟨by decide, by decide⟩ rfl (fun r306 h306c hp306 => ?_) (fun _ _ q => q.elim)
      obtain ⟨z306, y306_0⟩ := hp306
      rw [z306]
      refine mm_rng (fun _ ho => ?_)
      have b306 : -9223372036854775808 ≤ r306 ∧ r306 < 9223372036854775808 := mm_ok_hd ho
      exact mm_lret C T (mm_dec dk_X12_known 136 rfl) (by decide : 0 ≤ 0) (by decide : 0 ≤ 0) ⟨_, rfl, ⟨rfl, by first | (rw [show p0 = 0 by omega]; exact y94_0.trans (by decide +kernel)) | (rw [show p0 = 1 by omega]; exact y108_0.trans (by decide +kernel)) | (rw [show p0 = 2 by omega]; exact y125_0.trans (by decide +kernel)) | (rw [show p0 = 3 by omega]; exact y139_0.trans (by decide +kernel)) | (rw [show p0 = 4 by omega]; exact y153_0.trans (by decide +kernel)) | (rw [show p0 = 5 by omega]; exact y166_0.trans (by decide +kernel)) | (rw [show p0 = 6 by omega]; exact y180_0.trans (by decide +kernel)) | (rw [show p0 = 7 by omega]; exact y196_0.trans (by decide +kernel)) | (rw [show p0 = 8 by omega]; exact y210_0.trans (by decide +kernel)) | (rw [show p0 = 9 by omega]; exact y227_0.trans (by decide +kernel)) | (rw [show p0 = 10 by omega]; exact y244_0.trans (by decide +kernel)) | (rw [show p0 = 11 by omega]; exact y260_0.trans (by decide +kernel)) | (rw [show p0 = 12 by omega]; exact y274_0.trans (by decide +kernel)) | (rw [show p0 = 13 by omega]; exact y290_0.trans (by decide +kernel)) | (rw [show p0 = 14 by omega]; exact y306_0.trans (by decide +kernel)) | (rw [show p0 = 15 by omega]; exact y321_0.trans (by decide +kernel)) | (rw [show p0 = 16 by omega]; exact y336_0.trans (by decide +kernel))⟩⟩
    · show mm_W x 0 0 310 _ _ _
      refine mm_bipush C (mm_dec dk_X12_known 137 rfl) ⟨by decide, by decide⟩ ?_
      refine mm_bipush C (mm_dec dk_X12_known 138 rfl) ⟨by decide, by decide⟩ ?_
      refine mm_bipush C (mm_dec dk_X12_known 139 rfl) ⟨by decide, by decide⟩ ?_
      refine mm_bipush C (mm_dec dk_X12_known 140 rfl) ⟨by decide, by decide⟩ ?_
      refine mm_iconst C (mm_dec dk_X12_known 141 rfl) ⟨by decide, by decide⟩ ?_
      refine mm_iconst C (mm_dec dk_X12_known 142 rfl) ⟨by decide, by decide⟩ ?_
      refine mm_iconst C (mm_dec dk_X12_known 143 rfl) ⟨by decide, by decide⟩ ?_
      refine mm_cSl (rest := []) C1 es_X12_390 (mm_dec dk_X12_known 144 rfl) (c_X12_spelled_q x.2.1 hl (d - 1) (by omega) h i0 99 108 117 98 0 0 0 ⟨by omega, by omega⟩ ⟨by omega, by omega⟩ ⟨by omega, by omega⟩ ⟨by omega, by omega⟩ ⟨by omega, by omega⟩ ⟨by omega, by omega⟩ ⟨by omega, by omega⟩ (by omega) (by omega) (by omega) (by omega) (by omega) (by omega) (by omega)) rfl (Nat.le_of_ble_eq_true rfl) ⟨by decide, by decide⟩ rfl (fun r321 h321c hp321 => ?_) (fun _ _ q => q.elim)
      obtain ⟨z321, y321_0⟩ := hp321
      rw [z321]
      refine mm_rng (fun _ ho => ?_)
      have b321 : -9223372036854775808 ≤ r321 ∧ r321 < 9223372036854775808 := mm_ok_hd ho
      exact mm_lret C T (mm_dec dk_X12_known 145 rfl) (by decide : 0 ≤ 0) (by decide : 0 ≤ 0) ⟨_, rfl, ⟨rfl, by first | (rw [show p0 = 0 by omega]; exact y94_0.trans (by decide +kernel)) | (rw [show p0 = 1 by omega]; exact y108_0.trans (by decide +kernel)) | (rw [show p0 = 2 by omega]; exact y125_0.trans (by decide +kernel)) | (rw [show p0 = 3 by omega]; exact y139_0.trans (by decide +kernel)) | (rw [show p0 = 4 by omega]; exact y153_0.trans (by decide +kernel)) | (rw [show p0 = 5 by omega]; exact y166_0.trans (by decide +kernel)) | (rw [show p0 = 6 by omega]; exact y180_0.trans (by decide +kernel)) | (rw [show p0 = 7 by omega]; exact y196_0.trans (by decide +kernel)) | (rw [show p0 = 8 by omega]; exact y210_0.trans (by decide +kernel)) | (rw [show p0 = 9 by omega]; exact y227_0.trans (by decide +kernel)) | (rw [show p0 = 10 by omega]; exact y244_0.trans (by decide +kernel)) | (rw [show p0 = 11 by omega]; exact y260_0.trans (by decide +kernel)) | (rw [show p0 = 12 by omega]; exact y274_0.trans (by decide +kernel)) | (rw [show p0 = 13 by omega]; exact y290_0.trans (by decide +kernel)) | (rw [show p0 = 14 by omega]; exact y306_0.trans (by decide +kernel)) | (rw [show p0 = 15 by omega]; exact y321_0.trans (by decide +kernel)) | (rw [show p0 = 16 by omega]; exact y336_0.trans (by decide +kernel))⟩⟩
set_option maxRecDepth 100000 in
set_option maxHeartbeats 20000000 in
theorem c_X12_goes_q (l : Launch) (hl : l.stackTraces = false) (d : Nat) (hd : 1 ≤ d) (h : mH) (i0 : mm_inv h) : mm_Met l d yX12_goes cX12_goes 2 none [mR 66] h (mm_pv fun h2 => mm_inv h2 ∧ mm_fr [(66, 60), (66, 61), (66, 62), (66, 63), (66, 64), (66, 65), (66, 66)] [] h h2 ∧ h.1 66 60 ≤ h2.1 66 62 ∧ h2.1 66 62 ≤ h2.1 66 60 ∧ (h2.1 66 61 = 0 ∨ h2.1 66 62 < h2.1 66 60) ∧ mm_aY h2 ∧ h2.1 66 62 = mm_skp (mm_UY h) (h.1 66 59) (h.1 66 60)) mm_nx 0 0 := by
  refine mm_ofW (ls := [mR 66, mU]) hl (by decide) rfl (Nat.le_of_ble_eq_true rfl) ?_
  intro x hxl C T hnm htb
  subst hxl
  have C1 := mm_OK_le (d' := d - 1 + 1) (by omega) C
  have f0 : mm_fr [(66, 60), (66, 61), (66, 62), (66, 63), (66, 64), (66, 65), (66, 66)] [] h h := mm_fr_rf
  have g1 : 0 ≤ h.1 66 60 ∧ h.1 66 60 ≤ 500 := i0.1 66 60
  have g2 : 0 ≤ h.1 66 59 ∧ h.1 66 59 ≤ 500 := i0.1 66 59
  have g3 : 0 ≤ h.1 66 62 ∧ h.1 66 62 ≤ 500 := i0.1 66 62
  have g4 : -2147483648 ≤ h.1 66 61 ∧ h.1 66 61 ≤ 2147483647 := i0.1 66 61
  have g5 : -2147483648 ≤ h.1 66 64 ∧ h.1 66 64 ≤ 2147483647 := i0.1 66 64
  have g6 : -2147483648 ≤ h.1 66 65 ∧ h.1 66 65 ≤ 2147483647 := i0.1 66 65
  have g7 : -2147483648 ≤ h.1 66 63 ∧ h.1 66 63 ≤ 2147483647 := i0.1 66 63
  have g8 : -9223372036854775808 ≤ h.1 66 66 ∧ h.1 66 66 ≤ 9223372036854775807 := i0.1 66 66
  have J0 : ∀ (n : Nat) (h0_ : mH) (i0_ : mm_inv h0_) (f0_ : mm_fr [(66, 60), (66, 61), (66, 62), (66, 63), (66, 64), (66, 65), (66, 66)] [] h h0_) (w0_0 : h.1 66 60 ≤ h0_.1 66 60) (w0_1 : mm_skp (mm_UY h) (h.1 66 59) (h0_.1 66 60) = mm_skp (mm_UY h) (h.1 66 59) (h.1 66 60)), (500 - h0_.1 66 60 : Int) < n → mm_W x 0 0 0 [mR 66, mU] [] h0_ := by
    intro n
    induction n with
    | zero =>
      intro h0_ i0_ f0_ w0_0 w0_1 hm
      have g9 : 0 ≤ h0_.1 66 60 ∧ h0_.1 66 60 ≤ 500 := i0_.1 66 60
      have g10 : 0 ≤ h0_.1 66 59 ∧ h0_.1 66 59 ≤ 500 := i0_.1 66 59
      have g11 : 0 ≤ h0_.1 66 62 ∧ h0_.1 66 62 ≤ 500 := i0_.1 66 62
      have g12 : -2147483648 ≤ h0_.1 66 61 ∧ h0_.1 66 61 ≤ 2147483647 := i0_.1 66 61
      have g13 : -2147483648 ≤ h0_.1 66 64 ∧ h0_.1 66 64 ≤ 2147483647 := i0_.1 66 64
      have g14 : -2147483648 ≤ h0_.1 66 65 ∧ h0_.1 66 65 ≤ 2147483647 := i0_.1 66 65
      have g15 : -2147483648 ≤ h0_.1 66 63 ∧ h0_.1 66 63 ≤ 2147483647 := i0_.1 66 63
      have g16 : -9223372036854775808 ≤ h0_.1 66 66 ∧ h0_.1 66 66 ≤ 9223372036854775807 := i0_.1 66 66
      exfalso; omega
    | succ n ih0 =>
      intro h0_ i0_ f0_ w0_0 w0_1 hm0
      have g17 : 0 ≤ h0_.1 66 60 ∧ h0_.1 66 60 ≤ 500 := i0_.1 66 60
      have g18 : 0 ≤ h0_.1 66 59 ∧ h0_.1 66 59 ≤ 500 := i0_.1 66 59
      have g19 : 0 ≤ h0_.1 66 62 ∧ h0_.1 66 62 ≤ 500 := i0_.1 66 62
      have g20 : -2147483648 ≤ h0_.1 66 61 ∧ h0_.1 66 61 ≤ 2147483647 := i0_.1 66 61
      have g21 : -2147483648 ≤ h0_.1 66 64 ∧ h0_.1 66 64 ≤ 2147483647 := i0_.1 66 64
      have g22 : -2147483648 ≤ h0_.1 66 65 ∧ h0_.1 66 65 ≤ 2147483647 := i0_.1 66 65
      have g23 : -2147483648 ≤ h0_.1 66 63 ∧ h0_.1 66 63 ≤ 2147483647 := i0_.1 66 63
      have g24 : -9223372036854775808 ≤ h0_.1 66 66 ∧ h0_.1 66 66 ≤ 9223372036854775807 := i0_.1 66 66
      have g25 : h0_.1 66 59 = h.1 66 59 := f0_.1 66 59 (by decide)
      refine mm_aload_n C (mm_dec dk_X12_goes 0 rfl) rfl ?_
      refine mm_geti C fl_X12_359 (mm_dec dk_X12_goes 1 rfl) rfl rfl (Or.inl rfl) ?_
      refine mm_aload_n C (mm_dec dk_X12_goes 2 rfl) rfl ?_
      refine mm_geti C fl_X12_356 (mm_dec dk_X12_goes 3 rfl) rfl rfl (Or.inl rfl) ?_
      have J50 : ∀ (w50_0 : h0_.1 66 60 = mm_skp (mm_UY h) (h.1 66 59) (h.1 66 60)), mm_W x 0 0 50 [mR 66, mU] [] h0_ := by
        intro w50_0
        have g26 : 0 ≤ h0_.1 66 60 ∧ h0_.1 66 60 ≤ 500 := i0_.1 66 60
        have g27 : 0 ≤ h0_.1 66 59 ∧ h0_.1 66 59 ≤ 500 := i0_.1 66 59
        have g28 : 0 ≤ h0_.1 66 62 ∧ h0_.1 66 62 ≤ 500 := i0_.1 66 62
        have g29 : -2147483648 ≤ h0_.1 66 61 ∧ h0_.1 66 61 ≤ 2147483647 := i0_.1 66 61
        have g30 : -2147483648 ≤ h0_.1 66 64 ∧ h0_.1 66 64 ≤ 2147483647 := i0_.1 66 64
        have g31 : -2147483648 ≤ h0_.1 66 65 ∧ h0_.1 66 65 ≤ 2147483647 := i0_.1 66 65
        have g32 : -2147483648 ≤ h0_.1 66 63 ∧ h0_.1 66 63 ≤ 2147483647 := i0_.1 66 63
        have g33 : -9223372036854775808 ≤ h0_.1 66 66 ∧ h0_.1 66 66 ≤ 9223372036854775807 := i0_.1 66 66
        refine mm_aload_n C (mm_dec dk_X12_goes 24 rfl) rfl ?_
        refine mm_aload_n C (mm_dec dk_X12_goes 25 rfl) rfl ?_
        refine mm_geti C fl_X12_359 (mm_dec dk_X12_goes 26 rfl) rfl rfl (Or.inl rfl) ?_
        refine mm_puti C fl_X12_365 (mm_dec dk_X12_goes 27 rfl) rfl rfl rfl (Or.inl ⟨rfl, rfl⟩) ?_
        have i1 : mm_inv (mm_pf h0_ 66 62 (h0_.1 66 60)) := mm_inv_pf i0_ (show 0 ≤ (h0_.1 66 60) ∧ (h0_.1 66 60) ≤ 500 from ⟨by omega, by omega⟩) (by decide)
        have f1 : mm_fr [(66, 60), (66, 61), (66, 62), (66, 63), (66, 64), (66, 65), (66, 66)] [] h (mm_pf h0_ 66 62 (h0_.1 66 60)) := mm_fr_pf f0_ (by decide)
        obtain ⟨h1, eh1⟩ : ∃ z, z = mm_pf h0_ 66 62 (h0_.1 66 60) := ⟨_, rfl⟩
        rw [← eh1] at i1 f1 ⊢
        have qh1 : h1.1 66 62 = (h0_.1 66 60) := by rw [eh1]; exact mm_pf_same _ _ _ _
        have qh1_34 : h1.1 66 59 = h0_.1 66 59 := by rw [eh1]; exact mm_pf_ne _ _ (by decide)
        have qh1_35 : h1.1 66 60 = h0_.1 66 60 := by rw [eh1]; exact mm_pf_ne _ _ (by decide)
        have qh1_36 : h1.1 66 61 = h0_.1 66 61 := by rw [eh1]; exact mm_pf_ne _ _ (by decide)
        have qh1_37 : h1.1 66 63 = h0_.1 66 63 := by rw [eh1]; exact mm_pf_ne _ _ (by decide)
        have qh1_38 : h1.1 66 64 = h0_.1 66 64 := by rw [eh1]; exact mm_pf_ne _ _ (by decide)
        have qh1_39 : h1.1 66 65 = h0_.1 66 65 := by rw [eh1]; exact mm_pf_ne _ _ (by decide)
        have qh1_40 : h1.1 66 66 = h0_.1 66 66 := by rw [eh1]; exact mm_pf_ne _ _ (by decide)
        refine mm_aload_n C (mm_dec dk_X12_goes 28 rfl) rfl ?_
        refine mm_lconst (z := 0) C (mm_dec dk_X12_goes 29 rfl) rfl ?_
        refine mm_putl C fl_X12_368 (mm_dec dk_X12_goes 30 rfl) rfl rfl rfl rfl ?_
        have i2 : mm_inv (mm_pf h1 66 66 0) := mm_inv_pf i1 (show -9223372036854775808 ≤ 0 ∧ 0 ≤ 9223372036854775807 from ⟨by omega, by omega⟩) (by decide)
        have f2 : mm_fr [(66, 60), (66, 61), (66, 62), (66, 63), (66, 64), (66, 65), (66, 66)] [] h (mm_pf h1 66 66 0) := mm_fr_pf f1 (by decide)
        obtain ⟨h2, eh2⟩ : ∃ z, z = mm_pf h1 66 66 0 := ⟨_, rfl⟩
        rw [← eh2] at i2 f2 ⊢
        have qh2 : h2.1 66 66 = 0 := by rw [eh2]; exact mm_pf_same _ _ _ _
        have qh2_41 : h2.1 66 59 = h1.1 66 59 := by rw [eh2]; exact mm_pf_ne _ _ (by decide)
        have qh2_42 : h2.1 66 60 = h1.1 66 60 := by rw [eh2]; exact mm_pf_ne _ _ (by decide)
        have qh2_43 : h2.1 66 61 = h1.1 66 61 := by rw [eh2]; exact mm_pf_ne _ _ (by decide)
        have qh2_44 : h2.1 66 62 = h1.1 66 62 := by rw [eh2]; exact mm_pf_ne _ _ (by decide)
        have qh2_45 : h2.1 66 63 = h1.1 66 63 := by rw [eh2]; exact mm_pf_ne _ _ (by decide)
        have qh2_46 : h2.1 66 64 = h1.1 66 64 := by rw [eh2]; exact mm_pf_ne _ _ (by decide)
        have qh2_47 : h2.1 66 65 = h1.1 66 65 := by rw [eh2]; exact mm_pf_ne _ _ (by decide)
        refine mm_aload_n C (mm_dec dk_X12_goes 31 rfl) rfl ?_
        refine mm_iconst C (mm_dec dk_X12_goes 32 rfl) ⟨by decide, by decide⟩ ?_
        refine mm_puti C fl_X12_372 (mm_dec dk_X12_goes 33 rfl) rfl rfl rfl (Or.inl ⟨rfl, rfl⟩) ?_
        have i3 : mm_inv (mm_pf h2 66 64 0) := mm_inv_pf i2 (show -2147483648 ≤ 0 ∧ 0 ≤ 2147483647 from ⟨by omega, by omega⟩) (by decide)
        have f3 : mm_fr [(66, 60), (66, 61), (66, 62), (66, 63), (66, 64), (66, 65), (66, 66)] [] h (mm_pf h2 66 64 0) := mm_fr_pf f2 (by decide)
        obtain ⟨h3, eh3⟩ : ∃ z, z = mm_pf h2 66 64 0 := ⟨_, rfl⟩
        rw [← eh3] at i3 f3 ⊢
        have qh3 : h3.1 66 64 = 0 := by rw [eh3]; exact mm_pf_same _ _ _ _
        have qh3_48 : h3.1 66 59 = h2.1 66 59 := by rw [eh3]; exact mm_pf_ne _ _ (by decide)
        have qh3_49 : h3.1 66 60 = h2.1 66 60 := by rw [eh3]; exact mm_pf_ne _ _ (by decide)
        have qh3_50 : h3.1 66 61 = h2.1 66 61 := by rw [eh3]; exact mm_pf_ne _ _ (by decide)
        have qh3_51 : h3.1 66 62 = h2.1 66 62 := by rw [eh3]; exact mm_pf_ne _ _ (by decide)
        have qh3_52 : h3.1 66 63 = h2.1 66 63 := by rw [eh3]; exact mm_pf_ne _ _ (by decide)
        have qh3_53 : h3.1 66 65 = h2.1 66 65 := by rw [eh3]; exact mm_pf_ne _ _ (by decide)
        have qh3_54 : h3.1 66 66 = h2.1 66 66 := by rw [eh3]; exact mm_pf_ne _ _ (by decide)
        refine mm_aload_n C (mm_dec dk_X12_goes 34 rfl) rfl ?_
        refine mm_aload_n C (mm_dec dk_X12_goes 35 rfl) rfl ?_
        refine mm_geti C fl_X12_359 (mm_dec dk_X12_goes 36 rfl) rfl rfl (Or.inl rfl) ?_
        refine mm_cVi (rest := []) C1 ev_X12_362 (mm_dec dk_X12_goes 37 rfl) (c_X12_byteAt x.2.1 hl (d - 1) (by omega) h3 i3 (h3.1 66 60) ⟨by omega, by omega⟩) rfl rfl (Nat.le_of_ble_eq_true rfl) ⟨by decide, by decide⟩ rfl (fun r73 h73c hp73 => ?_) (fun _ _ q => q.elim)
        obtain ⟨z73, y73⟩ := hp73
        rw [z73]
        have g56 : -2147483648 ≤ (h3.2.1 101 (h3.1 66 60)) ∧ (h3.2.1 101 (h3.1 66 60)) ≤ 2147483647 := i3.2.1 101 (h3.1 66 60)
        refine mm_istore_nL (ls2 := [mR 66, mI r73]) C (mm_dec dk_X12_goes 38 rfl) (by decide) rfl ?_
        refine mm_aload_n C (mm_dec dk_X12_goes 39 rfl) rfl ?_
        refine mm_iload_n C (mm_dec dk_X12_goes 40 rfl) rfl ?_
        refine mm_puti C fl_X12_375 (mm_dec dk_X12_goes 41 rfl) rfl rfl rfl (Or.inl ⟨rfl, rfl⟩) ?_
        have i4 : mm_inv (mm_pf h3 66 65 r73) := mm_inv_pf i3 (show -2147483648 ≤ r73 ∧ r73 ≤ 2147483647 from ⟨by omega, by omega⟩) (by decide)
        have f4 : mm_fr [(66, 60), (66, 61), (66, 62), (66, 63), (66, 64), (66, 65), (66, 66)] [] h (mm_pf h3 66 65 r73) := mm_fr_pf f3 (by decide)
        obtain ⟨h4, eh4⟩ : ∃ z, z = mm_pf h3 66 65 r73 := ⟨_, rfl⟩
        rw [← eh4] at i4 f4 ⊢
        have qh4 : h4.1 66 65 = r73 := by rw [eh4]; exact mm_pf_same _ _ _ _
        have qh4_57 : h4.1 66 59 = h3.1 66 59 := by rw [eh4]; exact mm_pf_ne _ _ (by decide)
        have qh4_58 : h4.1 66 60 = h3.1 66 60 := by rw [eh4]; exact mm_pf_ne _ _ (by decide)
        have qh4_59 : h4.1 66 61 = h3.1 66 61 := by rw [eh4]; exact mm_pf_ne _ _ (by decide)
        have qh4_60 : h4.1 66 62 = h3.1 66 62 := by rw [eh4]; exact mm_pf_ne _ _ (by decide)
        have qh4_61 : h4.1 66 63 = h3.1 66 63 := by rw [eh4]; exact mm_pf_ne _ _ (by decide)
        have qh4_62 : h4.1 66 64 = h3.1 66 64 := by rw [eh4]; exact mm_pf_ne _ _ (by decide)
        have qh4_63 : h4.1 66 66 = h3.1 66 66 := by rw [eh4]; exact mm_pf_ne _ _ (by decide)
        have zz : h4.2.1 101 (h4.1 66 60) = h3.2.1 101 (h3.1 66 60) := by rw [eh4]; rfl
        refine mm_aload_n C (mm_dec dk_X12_goes 42 rfl) rfl ?_
        refine mm_geti C fl_X12_359 (mm_dec dk_X12_goes 43 rfl) rfl rfl (Or.inl rfl) ?_
        refine mm_aload_n C (mm_dec dk_X12_goes 44 rfl) rfl ?_
        refine mm_geti C fl_X12_356 (mm_dec dk_X12_goes 45 rfl) rfl rfl (Or.inl rfl) ?_
        have J331 : ∀ (h331_ : mH) (i331_ : mm_inv h331_) (f331_ : mm_fr [(66, 60), (66, 61), (66, 62), (66, 63), (66, 64), (66, 65), (66, 66)] [] h h331_) (w331_0 : h.1 66 60 ≤ h331_.1 66 62) (w331_1 : h331_.1 66 62 ≤ h331_.1 66 60) (w331_2 : (h331_.1 66 61 = 0 ∨ h331_.1 66 62 < h331_.1 66 60)) (w331_3 : h331_.1 66 62 = mm_skp (mm_UY h) (h.1 66 59) (h.1 66 60)) (w331_4 : mm_aY0 (mm_UY h) (h.1 66 59) h331_), mm_W x 0 0 331 [mR 66, mU] [] h331_ := by
          intro h331_ i331_ f331_ w331_0 w331_1 w331_2 w331_3 w331_4
          have g64 : 0 ≤ h331_.1 66 60 ∧ h331_.1 66 60 ≤ 500 := i331_.1 66 60
          have g65 : 0 ≤ h331_.1 66 59 ∧ h331_.1 66 59 ≤ 500 := i331_.1 66 59
          have g66 : 0 ≤ h331_.1 66 62 ∧ h331_.1 66 62 ≤ 500 := i331_.1 66 62
          have g67 : -2147483648 ≤ h331_.1 66 61 ∧ h331_.1 66 61 ≤ 2147483647 := i331_.1 66 61
          have g68 : -2147483648 ≤ h331_.1 66 64 ∧ h331_.1 66 64 ≤ 2147483647 := i331_.1 66 64
          have g69 : -2147483648 ≤ h331_.1 66 65 ∧ h331_.1 66 65 ≤ 2147483647 := i331_.1 66 65
          have g70 : -2147483648 ≤ h331_.1 66 63 ∧ h331_.1 66 63 ≤ 2147483647 := i331_.1 66 63
          have g71 : -9223372036854775808 ≤ h331_.1 66 66 ∧ h331_.1 66 66 ≤ 9223372036854775807 := i331_.1 66 66
          have g72 : h331_.1 66 59 = h.1 66 59 := f331_.1 66 59 (by decide)
          refine mm_aload_n C (mm_dec dk_X12_goes 170 rfl) rfl ?_
          refine mm_aload_n C (mm_dec dk_X12_goes 171 rfl) rfl ?_
          refine mm_geti C fl_X12_359 (mm_dec dk_X12_goes 172 rfl) rfl rfl (Or.inl rfl) ?_
          refine mm_aload_n C (mm_dec dk_X12_goes 173 rfl) rfl ?_
          refine mm_geti C fl_X12_365 (mm_dec dk_X12_goes 174 rfl) rfl rfl (Or.inl rfl) ?_
          refine mm_isub C (mm_dec dk_X12_goes 175 rfl) ⟨by omega, by omega⟩ ?_
          refine mm_puti C fl_X12_387 (mm_dec dk_X12_goes 176 rfl) rfl rfl rfl (Or.inl ⟨rfl, rfl⟩) ?_
          have i5 : mm_inv (mm_pf h331_ 66 63 ((h331_.1 66 60) - (h331_.1 66 62))) := mm_inv_pf i331_ (show -2147483648 ≤ ((h331_.1 66 60) - (h331_.1 66 62)) ∧ ((h331_.1 66 60) - (h331_.1 66 62)) ≤ 2147483647 from ⟨by omega, by omega⟩) (by decide)
          have f5 : mm_fr [(66, 60), (66, 61), (66, 62), (66, 63), (66, 64), (66, 65), (66, 66)] [] h (mm_pf h331_ 66 63 ((h331_.1 66 60) - (h331_.1 66 62))) := mm_fr_pf f331_ (by decide)
          obtain ⟨h5, eh5⟩ : ∃ z, z = mm_pf h331_ 66 63 ((h331_.1 66 60) - (h331_.1 66 62)) := ⟨_, rfl⟩
          rw [← eh5] at i5 f5 ⊢
          have qh5 : h5.1 66 63 = ((h331_.1 66 60) - (h331_.1 66 62)) := by rw [eh5]; exact mm_pf_same _ _ _ _
          have qh5_73 : h5.1 66 59 = h331_.1 66 59 := by rw [eh5]; exact mm_pf_ne _ _ (by decide)
          have qh5_74 : h5.1 66 60 = h331_.1 66 60 := by rw [eh5]; exact mm_pf_ne _ _ (by decide)
          have qh5_75 : h5.1 66 61 = h331_.1 66 61 := by rw [eh5]; exact mm_pf_ne _ _ (by decide)
          have qh5_76 : h5.1 66 62 = h331_.1 66 62 := by rw [eh5]; exact mm_pf_ne _ _ (by decide)
          have qh5_77 : h5.1 66 64 = h331_.1 66 64 := by rw [eh5]; exact mm_pf_ne _ _ (by decide)
          have qh5_78 : h5.1 66 65 = h331_.1 66 65 := by rw [eh5]; exact mm_pf_ne _ _ (by decide)
          have qh5_79 : h5.1 66 66 = h331_.1 66 66 := by rw [eh5]; exact mm_pf_ne _ _ (by decide)
          exact mm_vret C T (mm_dec dk_X12_goes 177 rfl) (by decide : 0 ≤ 0) (by decide : 0 ≤ 0) ⟨rfl, ⟨i5, f5, by omega, by omega, by omega, by exact mm_aY_of (h1 := h331_) (mm_TYy_fr f5 (by decide)) w331_4 (by omega) (by omega) (by omega) (by omega) (by omega) (by omega) (by omega), by omega⟩⟩
        refine mm_icmp_lt (tgt := 101) C (mm_dec dk_X12_goes 46 rfl) (by decide) (fun c90 => ?_) (fun c90 => ?_)
        · skip
          have zu2 : mm_UY h (h4.1 66 60) = r73 := by (have e : mm_UY h (h4.1 66 60) = h4.2.1 101 (h4.1 66 60) := (mm_tr_in (by omega) (by omega)).trans (f4.2 101 (by decide) _).symm); omega
          have zK := mm_kd_f r73
          refine mm_iload_n C (mm_dec dk_X12_goes 51 rfl) rfl ?_
          refine mm_cSi (rest := []) C1 es_X12_381 (mm_dec dk_X12_goes 52 rfl) (c_X12_isLetter x.2.1 hl (d - 1) (by omega) h4 i4 r73) rfl (Nat.le_of_ble_eq_true rfl) ⟨by decide, by decide⟩ rfl (fun r102 h102c hp102 => ?_) (fun _ _ q => q.elim)
          obtain ⟨z102, y102⟩ := hp102
          rw [z102]
          have J108 : ∀ (n : Nat) (h108_ : mH) (i108_ : mm_inv h108_) (f108_ : mm_fr [(66, 60), (66, 61), (66, 62), (66, 63), (66, 64), (66, 65), (66, 66)] [] h h108_) (w108_0 : h.1 66 60 ≤ h108_.1 66 62) (w108_1 : h108_.1 66 62 ≤ h108_.1 66 60) (w108_2 : (h108_.1 66 62 < h108_.1 66 60 ∨ (97 ≤ h108_.2.1 101 (h108_.1 66 60) ∧ h108_.2.1 101 (h108_.1 66 60) ≤ 122 ∧ h108_.1 66 60 < h108_.1 66 59))) (w108_3 : h108_.1 66 62 = mm_skp (mm_UY h) (h.1 66 59) (h.1 66 60)) (w108_4 : h108_.1 66 62 < h.1 66 59) (w108_5 : mm_kd (mm_UY h (h108_.1 66 62)) = 2) (w108_6 : mm_runw (mm_UY h) (h.1 66 59) 2 (h108_.1 66 60) = mm_runw (mm_UY h) (h.1 66 59) 2 (h108_.1 66 62 + 1)) (w108_7 : (h108_.1 66 60 - h108_.1 66 62 ≤ 9 → h108_.1 66 66 = mm_cde (fun i => mm_UY h (h108_.1 66 62 + i)) (h108_.1 66 60 - h108_.1 66 62).toNat)) (w108_8 : (∀ j, h108_.1 66 62 ≤ j → j < h108_.1 66 60 → mm_kd (mm_UY h j) = 2)) (w108_9 : h108_.1 66 62 ≤ h108_.1 66 60), (500 - h108_.1 66 60 : Int) < n → mm_W x 0 0 108 [mR 66, mU] [] h108_ := by
            intro n
            induction n with
            | zero =>
              intro h108_ i108_ f108_ w108_0 w108_1 w108_2 w108_3 w108_4 w108_5 w108_6 w108_7 w108_8 w108_9 hm
              have g81 : 0 ≤ h108_.1 66 60 ∧ h108_.1 66 60 ≤ 500 := i108_.1 66 60
              have g82 : 0 ≤ h108_.1 66 59 ∧ h108_.1 66 59 ≤ 500 := i108_.1 66 59
              have g83 : 0 ≤ h108_.1 66 62 ∧ h108_.1 66 62 ≤ 500 := i108_.1 66 62
              have g84 : -2147483648 ≤ h108_.1 66 61 ∧ h108_.1 66 61 ≤ 2147483647 := i108_.1 66 61
              have g85 : -2147483648 ≤ h108_.1 66 64 ∧ h108_.1 66 64 ≤ 2147483647 := i108_.1 66 64
              have g86 : -2147483648 ≤ h108_.1 66 65 ∧ h108_.1 66 65 ≤ 2147483647 := i108_.1 66 65
              have g87 : -2147483648 ≤ h108_.1 66 63 ∧ h108_.1 66 63 ≤ 2147483647 := i108_.1 66 63
              have g88 : -9223372036854775808 ≤ h108_.1 66 66 ∧ h108_.1 66 66 ≤ 9223372036854775807 := i108_.1 66 66
              exfalso; omega
            | succ n ih108 =>
              intro h108_ i108_ f108_ w108_0 w108_1 w108_2 w108_3 w108_4 w108_5 w108_6 w108_7 w108_8 w108_9 hm108
              have g89 : 0 ≤ h108_.1 66 60 ∧ h108_.1 66 60 ≤ 500 := i108_.1 66 60
              have g90 : 0 ≤ h108_.1 66 59 ∧ h108_.1 66 59 ≤ 500 := i108_.1 66 59
              have g91 : 0 ≤ h108_.1 66 62 ∧ h108_.1 66 62 ≤ 500 := i108_.1 66 62
              have g92 : -2147483648 ≤ h108_.1 66 61 ∧ h108_.1 66 61 ≤ 2147483647 := i108_.1 66 61
              have g93 : -2147483648 ≤ h108_.1 66 64 ∧ h108_.1 66 64 ≤ 2147483647 := i108_.1 66 64
              have g94 : -2147483648 ≤ h108_.1 66 65 ∧ h108_.1 66 65 ≤ 2147483647 := i108_.1 66 65
              have g95 : -2147483648 ≤ h108_.1 66 63 ∧ h108_.1 66 63 ≤ 2147483647 := i108_.1 66 63
              have g96 : -9223372036854775808 ≤ h108_.1 66 66 ∧ h108_.1 66 66 ≤ 9223372036854775807 := i108_.1 66 66
              have g97 : h108_.1 66 59 = h.1 66 59 := f108_.1 66 59 (by decide)
              have zv : h108_.1 66 60 < h.1 66 59 → mm_UY h (h108_.1 66 60) = h108_.2.1 101 (h108_.1 66 60) := fun q => (mm_tr_in (by omega) (by omega)).trans (f108_.2 101 (by decide) _).symm
              refine mm_aload_n C (mm_dec dk_X12_goes 54 rfl) rfl ?_
              refine mm_aload_n C (mm_dec dk_X12_goes 55 rfl) rfl ?_
              refine mm_geti C fl_X12_359 (mm_dec dk_X12_goes 56 rfl) rfl rfl (Or.inl rfl) ?_
              refine mm_cVi (rest := []) C1 ev_X12_362 (mm_dec dk_X12_goes 57 rfl) (c_X12_byteAt x.2.1 hl (d - 1) (by omega) h108_ i108_ (h108_.1 66 60) ⟨by omega, by omega⟩) rfl rfl (Nat.le_of_ble_eq_true rfl) ⟨by decide, by decide⟩ rfl (fun r113 h113c hp113 => ?_) (fun _ _ q => q.elim)
              obtain ⟨z113, y113⟩ := hp113
              rw [z113]
              have g99 : -2147483648 ≤ (h108_.2.1 101 (h108_.1 66 60)) ∧ (h108_.2.1 101 (h108_.1 66 60)) ≤ 2147483647 := i108_.2.1 101 (h108_.1 66 60)
              refine mm_cSi (rest := []) C1 es_X12_381 (mm_dec dk_X12_goes 58 rfl) (c_X12_isLetter x.2.1 hl (d - 1) (by omega) h108_ i108_ r113) rfl (Nat.le_of_ble_eq_true rfl) ⟨by decide, by decide⟩ rfl (fun r116 h116c hp116 => ?_) (fun _ _ q => q.elim)
              obtain ⟨z116, y116⟩ := hp116
              rw [z116]
              refine mm_if_eq (tgt := 172) C (mm_dec dk_X12_goes 59 rfl) (by decide) (fun c119 => ?_) (fun c119 => ?_)
              · skip
                refine mm_aload_n C (mm_dec dk_X12_goes 88 rfl) rfl ?_
                refine mm_iconst C (mm_dec dk_X12_goes 89 rfl) ⟨by decide, by decide⟩ ?_
                refine mm_puti C fl_X12_378 (mm_dec dk_X12_goes 90 rfl) rfl rfl rfl (Or.inl ⟨rfl, rfl⟩) ?_
                have i6 : mm_inv (mm_pf h108_ 66 61 1) := mm_inv_pf i108_ (show -2147483648 ≤ 1 ∧ 1 ≤ 2147483647 from ⟨by omega, by omega⟩) (by decide)
                have f6 : mm_fr [(66, 60), (66, 61), (66, 62), (66, 63), (66, 64), (66, 65), (66, 66)] [] h (mm_pf h108_ 66 61 1) := mm_fr_pf f108_ (by decide)
                obtain ⟨h6, eh6⟩ : ∃ z, z = mm_pf h108_ 66 61 1 := ⟨_, rfl⟩
                rw [← eh6] at i6 f6 ⊢
                have qh6 : h6.1 66 61 = 1 := by rw [eh6]; exact mm_pf_same _ _ _ _
                have qh6_101 : h6.1 66 59 = h108_.1 66 59 := by rw [eh6]; exact mm_pf_ne _ _ (by decide)
                have qh6_102 : h6.1 66 60 = h108_.1 66 60 := by rw [eh6]; exact mm_pf_ne _ _ (by decide)
                have qh6_103 : h6.1 66 62 = h108_.1 66 62 := by rw [eh6]; exact mm_pf_ne _ _ (by decide)
                have qh6_104 : h6.1 66 63 = h108_.1 66 63 := by rw [eh6]; exact mm_pf_ne _ _ (by decide)
                have qh6_105 : h6.1 66 64 = h108_.1 66 64 := by rw [eh6]; exact mm_pf_ne _ _ (by decide)
                have qh6_106 : h6.1 66 65 = h108_.1 66 65 := by rw [eh6]; exact mm_pf_ne _ _ (by decide)
                have qh6_107 : h6.1 66 66 = h108_.1 66 66 := by rw [eh6]; exact mm_pf_ne _ _ (by decide)
                refine mm_goto (tgt := 331) C (mm_dec dk_X12_goes 91 rfl) (by decide) ?_
                exact J331 h6 i6 f6 (by omega) (by omega) (by omega) (by omega) (by first | exact mm_aY0_end (by omega) (by omega) (by omega) | exact mm_aY0_let (by omega) (by rw [show h6.1 66 62 = h108_.1 66 62 by omega]; exact w108_5) (by omega) (by rw [show h6.1 66 60 = h108_.1 66 60 by omega, show h6.1 66 62 = h108_.1 66 62 by omega]; exact w108_6) (by rw [show h6.1 66 60 = h108_.1 66 60 by omega]; by_cases q : h.1 66 59 ≤ h108_.1 66 60; exact Or.inl q; exact Or.inr (by have e := zv (by omega); have e2 := mm_kd_f (mm_UY h (h108_.1 66 60)); omega)) (by rw [show h6.1 66 60 = h108_.1 66 60 by omega, show h6.1 66 62 = h108_.1 66 62 by omega, show h6.1 66 66 = h108_.1 66 66 by omega]; exact w108_7) | exact mm_aY0_dig (by omega) (by rw [show h6.1 66 62 = h187_.1 66 62 by omega]; exact w187_5) (by omega) (by rw [show h6.1 66 60 = h187_.1 66 60 by omega, show h6.1 66 62 = h187_.1 66 62 by omega]; exact w187_6) (by rw [show h6.1 66 60 = h187_.1 66 60 by omega]; by_cases q : h.1 66 59 ≤ h187_.1 66 60; exact Or.inl q; exact Or.inr (by have e := zv (by omega); have e2 := mm_kd_f (mm_UY h (h187_.1 66 60)); omega)) (by rw [show h6.1 66 60 = h187_.1 66 60 by omega, show h6.1 66 62 = h187_.1 66 62 by omega, show h6.1 66 64 = h187_.1 66 64 by omega]; exact w187_7) | exact mm_aY0_sgn (by omega) (by rw [show h6.1 66 62 = h6.1 66 60 - 1 by omega]; rw [show h6.1 66 60 - 1 = h4.1 66 60 by omega, zu2]; omega) (by omega) (by rw [show h6.1 66 62 = h4.1 66 60 by omega, zu2]; omega))
              · skip
                have zr : mm_UY h (h108_.1 66 60) = r113 := by (have e := zv (by omega)); omega
                have zy : mm_kd (mm_UY h (h108_.1 66 60)) = 2 := by rw [zr]; exact if_pos (by omega)
                refine mm_aload_n C (mm_dec dk_X12_goes 60 rfl) rfl ?_
                refine mm_geti C fl_X12_359 (mm_dec dk_X12_goes 61 rfl) rfl rfl (Or.inl rfl) ?_
                refine mm_aload_n C (mm_dec dk_X12_goes 62 rfl) rfl ?_
                refine mm_geti C fl_X12_365 (mm_dec dk_X12_goes 63 rfl) rfl rfl (Or.inl rfl) ?_
                refine mm_isub C (mm_dec dk_X12_goes 64 rfl) ⟨by omega, by omega⟩ ?_
                refine mm_bipush C (mm_dec dk_X12_goes 65 rfl) ⟨by decide, by decide⟩ ?_
                have J159 : ∀ (h159_ : mH) (i159_ : mm_inv h159_) (f159_ : mm_fr [(66, 60), (66, 61), (66, 62), (66, 63), (66, 64), (66, 65), (66, 66)] [] h h159_) (w159_0 : h159_.1 66 60 = h108_.1 66 60) (w159_1 : h.1 66 60 ≤ h159_.1 66 62) (w159_2 : h159_.1 66 62 ≤ h159_.1 66 60) (w159_3 : h159_.1 66 60 < h159_.1 66 59) (w159_4 : h159_.1 66 62 = mm_skp (mm_UY h) (h.1 66 59) (h.1 66 60)) (w159_5 : h159_.1 66 62 < h.1 66 59) (w159_6 : mm_kd (mm_UY h (h159_.1 66 62)) = 2) (w159_7 : h159_.1 66 62 = h108_.1 66 62) (w159_8 : ((h108_.1 66 60 + 1) - h159_.1 66 62 ≤ 9 → h159_.1 66 66 = mm_cde (fun i => mm_UY h (h159_.1 66 62 + i)) ((h108_.1 66 60 + 1) - h159_.1 66 62).toNat)), mm_W x 0 0 159 [mR 66, mU] [] h159_ := by
                  intro h159_ i159_ f159_ w159_0 w159_1 w159_2 w159_3 w159_4 w159_5 w159_6 w159_7 w159_8
                  have g108 : 0 ≤ h159_.1 66 60 ∧ h159_.1 66 60 ≤ 500 := i159_.1 66 60
                  have g109 : 0 ≤ h159_.1 66 59 ∧ h159_.1 66 59 ≤ 500 := i159_.1 66 59
                  have g110 : 0 ≤ h159_.1 66 62 ∧ h159_.1 66 62 ≤ 500 := i159_.1 66 62
                  have g111 : -2147483648 ≤ h159_.1 66 61 ∧ h159_.1 66 61 ≤ 2147483647 := i159_.1 66 61
                  have g112 : -2147483648 ≤ h159_.1 66 64 ∧ h159_.1 66 64 ≤ 2147483647 := i159_.1 66 64
                  have g113 : -2147483648 ≤ h159_.1 66 65 ∧ h159_.1 66 65 ≤ 2147483647 := i159_.1 66 65
                  have g114 : -2147483648 ≤ h159_.1 66 63 ∧ h159_.1 66 63 ≤ 2147483647 := i159_.1 66 63
                  have g115 : -9223372036854775808 ≤ h159_.1 66 66 ∧ h159_.1 66 66 ≤ 9223372036854775807 := i159_.1 66 66
                  have g116 : h159_.1 66 59 = h.1 66 59 := f159_.1 66 59 (by decide)
                  refine mm_aload_n C (mm_dec dk_X12_goes 81 rfl) rfl ?_
                  refine mm_dup C (mm_dec dk_X12_goes 82 rfl) (show (2 : Nat) ≠ 1 by decide) ?_
                  refine mm_geti C fl_X12_359 (mm_dec dk_X12_goes 83 rfl) rfl rfl (Or.inl rfl) ?_
                  refine mm_iconst C (mm_dec dk_X12_goes 84 rfl) ⟨by decide, by decide⟩ ?_
                  refine mm_iadd C (mm_dec dk_X12_goes 85 rfl) ⟨by omega, by omega⟩ ?_
                  refine mm_puti C fl_X12_359 (mm_dec dk_X12_goes 86 rfl) rfl rfl rfl (Or.inl ⟨rfl, rfl⟩) ?_
                  have i7 : mm_inv (mm_pf h159_ 66 60 ((h159_.1 66 60) + 1)) := mm_inv_pf i159_ (show 0 ≤ ((h159_.1 66 60) + 1) ∧ ((h159_.1 66 60) + 1) ≤ 500 from ⟨by omega, by omega⟩) (by decide)
                  have f7 : mm_fr [(66, 60), (66, 61), (66, 62), (66, 63), (66, 64), (66, 65), (66, 66)] [] h (mm_pf h159_ 66 60 ((h159_.1 66 60) + 1)) := mm_fr_pf f159_ (by decide)
                  obtain ⟨h7, eh7⟩ : ∃ z, z = mm_pf h159_ 66 60 ((h159_.1 66 60) + 1) := ⟨_, rfl⟩
                  rw [← eh7] at i7 f7 ⊢
                  have qh7 : h7.1 66 60 = ((h159_.1 66 60) + 1) := by rw [eh7]; exact mm_pf_same _ _ _ _
                  have qh7_117 : h7.1 66 59 = h159_.1 66 59 := by rw [eh7]; exact mm_pf_ne _ _ (by decide)
                  have qh7_118 : h7.1 66 61 = h159_.1 66 61 := by rw [eh7]; exact mm_pf_ne _ _ (by decide)
                  have qh7_119 : h7.1 66 62 = h159_.1 66 62 := by rw [eh7]; exact mm_pf_ne _ _ (by decide)
                  have qh7_120 : h7.1 66 63 = h159_.1 66 63 := by rw [eh7]; exact mm_pf_ne _ _ (by decide)
                  have qh7_121 : h7.1 66 64 = h159_.1 66 64 := by rw [eh7]; exact mm_pf_ne _ _ (by decide)
                  have qh7_122 : h7.1 66 65 = h159_.1 66 65 := by rw [eh7]; exact mm_pf_ne _ _ (by decide)
                  have qh7_123 : h7.1 66 66 = h159_.1 66 66 := by rw [eh7]; exact mm_pf_ne _ _ (by decide)
                  refine mm_goto (tgt := 108) C (mm_dec dk_X12_goes 87 rfl) (by decide) ?_
                  exact ih108 h7 i7 f7 (by omega) (by omega) (by omega) (by omega) (by omega) (by first | (rw [show h7.1 66 62 = h108_.1 66 62 by omega]; exact w108_5) | (rw [show h7.1 66 62 = h7.1 66 60 by omega, zu2]; exact if_pos (by omega))) (by first | (rw [show h7.1 66 60 = h108_.1 66 60 + 1 by omega, show h7.1 66 62 = h108_.1 66 62 by omega]; exact (mm_runw_s (by omega) zy).symm.trans w108_6) | (rw [show h7.1 66 62 = h7.1 66 60 by omega]; exact mm_runw_s (by omega) (by rw [zu2]; exact if_pos (by omega)))) (by first | (rw [show h7.1 66 60 = h108_.1 66 60 + 1 by omega, show h7.1 66 66 = h159_.1 66 66 by omega, show h7.1 66 62 = h159_.1 66 62 by omega]; exact w159_8) | exact fun _ => (by rw [show (h7.1 66 60 - h7.1 66 62).toNat = 0 by omega]; show _ = (0 : Int); omega)) (by first | exact fun j a b => (by by_cases e : j = h108_.1 66 60; (rw [e]; exact zy); exact w108_8 j (by omega) (by omega)) | exact fun j a b => absurd b (by omega)) (by omega) (by omega)
                refine mm_icmp_ge (tgt := 159) C (mm_dec dk_X12_goes 66 rfl) (by decide) (fun c133 => ?_) (fun c133 => ?_)
                · skip
                  exact J159 h108_ i108_ f108_ (by omega) (by omega) (by omega) (by omega) (by omega) (by omega) (by (rw [show h108_.1 66 62 = h108_.1 66 62 by omega]; exact w108_5)) (by omega) (by first | exact fun q => absurd q (by omega) | exact fun q => (by rw [show h108_.1 66 62 = h108_.1 66 62 by omega]; exact mm_cde_s (by omega) (w108_7 (by omega)) (by rw [zr]; omega)))
                · skip
                  refine mm_aload_n C (mm_dec dk_X12_goes 67 rfl) rfl ?_
                  refine mm_aload_n C (mm_dec dk_X12_goes 68 rfl) rfl ?_
                  refine mm_getl C fl_X12_368 (mm_dec dk_X12_goes 69 rfl) rfl rfl ?_
                  refine mm_iconst C (mm_dec dk_X12_goes 70 rfl) ⟨by decide, by decide⟩ ?_
                  refine mm_lshl C (mm_dec dk_X12_goes 71 rfl) ?_
                  have g124 : -9223372036854775808 ≤ (mm_vlshl (h108_.1 66 66) 5) ∧ (mm_vlshl (h108_.1 66 66) 5) < 9223372036854775808 := mm_rng64 _
                  obtain ⟨y124, ey124⟩ : ∃ z, z = (mm_vlshl (h108_.1 66 66) 5) := ⟨_, rfl⟩
                  rw [← ey124] at g124 ⊢
                  skip
                  refine mm_aload_n C (mm_dec dk_X12_goes 72 rfl) rfl ?_
                  refine mm_aload_n C (mm_dec dk_X12_goes 73 rfl) rfl ?_
                  refine mm_geti C fl_X12_359 (mm_dec dk_X12_goes 74 rfl) rfl rfl (Or.inl rfl) ?_
                  refine mm_cVi (rest := [mL y124, mR 66]) C1 ev_X12_362 (mm_dec dk_X12_goes 75 rfl) (c_X12_byteAt x.2.1 hl (d - 1) (by omega) h108_ i108_ (h108_.1 66 60) ⟨by omega, by omega⟩) rfl rfl (Nat.le_of_ble_eq_true rfl) ⟨by decide, by decide⟩ rfl (fun r148 h148c hp148 => ?_) (fun _ _ q => q.elim)
                  obtain ⟨z148, y148⟩ := hp148
                  rw [z148]
                  refine mm_bipush C (mm_dec dk_X12_goes 76 rfl) ⟨by decide, by decide⟩ ?_
                  refine mm_isubw C (mm_dec dk_X12_goes 77 rfl) ?_
                  have g126 : -2147483648 ≤ (mm_w (r148 - 96)) ∧ (mm_w (r148 - 96)) < 2147483648 := mm_w_rg _
                  refine mm_i2l C (mm_dec dk_X12_goes 78 rfl) ?_
                  refine mm_lor C (mm_dec dk_X12_goes 79 rfl) ?_
                  have g127 : -9223372036854775808 ≤ (mm_vlor y124 (mm_w (r148 - 96))) ∧ (mm_vlor y124 (mm_w (r148 - 96))) < 9223372036854775808 := mm_rng64 _
                  obtain ⟨y127, ey127⟩ : ∃ z, z = (mm_vlor y124 (mm_w (r148 - 96))) := ⟨_, rfl⟩
                  rw [← ey127] at g127 ⊢
                  skip
                  have zwb := mm_cde_b (p := h108_.1 66 60) (a := h108_.1 66 62) (by omega) (by omega) w108_8 (w108_7 (by omega))
                  have zm : mm_w (r148 - 96) = r148 - 96 := mm_w_id ⟨by omega, by omega⟩
                  have zw : y127 = 32 * h108_.1 66 66 + mm_w (r148 - 96) := mm_lor5 (d := mm_w (r148 - 96)) zwb (by omega) (by assumption) (by assumption)
                  refine mm_putl C fl_X12_368 (mm_dec dk_X12_goes 80 rfl) rfl rfl rfl rfl ?_
                  have i8 : mm_inv (mm_pf h108_ 66 66 y127) := mm_inv_pf i108_ (show -9223372036854775808 ≤ y127 ∧ y127 ≤ 9223372036854775807 from ⟨by omega, by omega⟩) (by decide)
                  have f8 : mm_fr [(66, 60), (66, 61), (66, 62), (66, 63), (66, 64), (66, 65), (66, 66)] [] h (mm_pf h108_ 66 66 y127) := mm_fr_pf f108_ (by decide)
                  obtain ⟨h8, eh8⟩ : ∃ z, z = mm_pf h108_ 66 66 y127 := ⟨_, rfl⟩
                  rw [← eh8] at i8 f8 ⊢
                  have qh8 : h8.1 66 66 = y127 := by rw [eh8]; exact mm_pf_same _ _ _ _
                  have qh8_128 : h8.1 66 59 = h108_.1 66 59 := by rw [eh8]; exact mm_pf_ne _ _ (by decide)
                  have qh8_129 : h8.1 66 60 = h108_.1 66 60 := by rw [eh8]; exact mm_pf_ne _ _ (by decide)
                  have qh8_130 : h8.1 66 61 = h108_.1 66 61 := by rw [eh8]; exact mm_pf_ne _ _ (by decide)
                  have qh8_131 : h8.1 66 62 = h108_.1 66 62 := by rw [eh8]; exact mm_pf_ne _ _ (by decide)
                  have qh8_132 : h8.1 66 63 = h108_.1 66 63 := by rw [eh8]; exact mm_pf_ne _ _ (by decide)
                  have qh8_133 : h8.1 66 64 = h108_.1 66 64 := by rw [eh8]; exact mm_pf_ne _ _ (by decide)
                  have qh8_134 : h8.1 66 65 = h108_.1 66 65 := by rw [eh8]; exact mm_pf_ne _ _ (by decide)
                  exact J159 h8 i8 f8 (by omega) (by omega) (by omega) (by omega) (by omega) (by omega) (by (rw [show h8.1 66 62 = h108_.1 66 62 by omega]; exact w108_5)) (by omega) (by first | exact fun q => absurd q (by omega) | exact fun q => (by rw [show h8.1 66 62 = h108_.1 66 62 by omega]; exact mm_cde_s (by omega) (w108_7 (by omega)) (by rw [zr]; omega)))
          refine mm_if_eq (tgt := 180) C (mm_dec dk_X12_goes 53 rfl) (by decide) (fun c105 => ?_) (fun c105 => ?_)
          · skip
            have zk0 := zK
            refine mm_iload_n C (mm_dec dk_X12_goes 92 rfl) rfl ?_
            refine mm_cSi (rest := []) C1 es_X12_384 (mm_dec dk_X12_goes 93 rfl) (c_X12_isDigit x.2.1 hl (d - 1) (by omega) h4 i4 r73) rfl (Nat.le_of_ble_eq_true rfl) ⟨by decide, by decide⟩ rfl (fun r181 h181c hp181 => ?_) (fun _ _ q => q.elim)
            obtain ⟨z181, y181⟩ := hp181
            rw [z181]
            have J187 : ∀ (n : Nat) (h187_ : mH) (i187_ : mm_inv h187_) (f187_ : mm_fr [(66, 60), (66, 61), (66, 62), (66, 63), (66, 64), (66, 65), (66, 66)] [] h h187_) (w187_0 : h.1 66 60 ≤ h187_.1 66 62) (w187_1 : h187_.1 66 62 ≤ h187_.1 66 60) (w187_2 : (h187_.1 66 62 < h187_.1 66 60 ∨ (48 ≤ h187_.2.1 101 (h187_.1 66 60) ∧ h187_.2.1 101 (h187_.1 66 60) ≤ 57 ∧ h187_.1 66 60 < h187_.1 66 59))) (w187_3 : h187_.1 66 62 = mm_skp (mm_UY h) (h.1 66 59) (h.1 66 60)) (w187_4 : h187_.1 66 62 < h.1 66 59) (w187_5 : mm_kd (mm_UY h (h187_.1 66 62)) = 3) (w187_6 : mm_runw (mm_UY h) (h.1 66 59) 3 (h187_.1 66 60) = mm_runw (mm_UY h) (h.1 66 59) 3 (h187_.1 66 62 + 1)) (w187_7 : (h187_.1 66 60 - h187_.1 66 62 ≤ 5 → h187_.1 66 64 = mm_nv (mm_UY h) (h187_.1 66 62) (h187_.1 66 60 - h187_.1 66 62).toNat)) (w187_8 : (h187_.1 66 60 = h187_.1 66 62 ∧ h187_.1 66 64 = 0) ∨ (h187_.1 66 60 = h187_.1 66 62 + 1 ∧ 0 ≤ h187_.1 66 64 ∧ h187_.1 66 64 ≤ 9) ∨ (h187_.1 66 60 = h187_.1 66 62 + 2 ∧ 0 ≤ h187_.1 66 64 ∧ h187_.1 66 64 ≤ 99) ∨ (h187_.1 66 60 = h187_.1 66 62 + 3 ∧ 0 ≤ h187_.1 66 64 ∧ h187_.1 66 64 ≤ 999) ∨ (h187_.1 66 60 = h187_.1 66 62 + 4 ∧ 0 ≤ h187_.1 66 64 ∧ h187_.1 66 64 ≤ 9999) ∨ (h187_.1 66 62 + 5 ≤ h187_.1 66 60)), (500 - h187_.1 66 60 : Int) < n → mm_W x 0 0 187 [mR 66, mU] [] h187_ := by
              intro n
              induction n with
              | zero =>
                intro h187_ i187_ f187_ w187_0 w187_1 w187_2 w187_3 w187_4 w187_5 w187_6 w187_7 w187_8 hm
                have g136 : 0 ≤ h187_.1 66 60 ∧ h187_.1 66 60 ≤ 500 := i187_.1 66 60
                have g137 : 0 ≤ h187_.1 66 59 ∧ h187_.1 66 59 ≤ 500 := i187_.1 66 59
                have g138 : 0 ≤ h187_.1 66 62 ∧ h187_.1 66 62 ≤ 500 := i187_.1 66 62
                have g139 : -2147483648 ≤ h187_.1 66 61 ∧ h187_.1 66 61 ≤ 2147483647 := i187_.1 66 61
                have g140 : -2147483648 ≤ h187_.1 66 64 ∧ h187_.1 66 64 ≤ 2147483647 := i187_.1 66 64
                have g141 : -2147483648 ≤ h187_.1 66 65 ∧ h187_.1 66 65 ≤ 2147483647 := i187_.1 66 65
                have g142 : -2147483648 ≤ h187_.1 66 63 ∧ h187_.1 66 63 ≤ 2147483647 := i187_.1 66 63
                have g143 : -9223372036854775808 ≤ h187_.1 66 66 ∧ h187_.1 66 66 ≤ 9223372036854775807 := i187_.1 66 66
                exfalso; omega
              | succ n ih187 =>
                intro h187_ i187_ f187_ w187_0 w187_1 w187_2 w187_3 w187_4 w187_5 w187_6 w187_7 w187_8 hm187
                have g144 : 0 ≤ h187_.1 66 60 ∧ h187_.1 66 60 ≤ 500 := i187_.1 66 60
                have g145 : 0 ≤ h187_.1 66 59 ∧ h187_.1 66 59 ≤ 500 := i187_.1 66 59
                have g146 : 0 ≤ h187_.1 66 62 ∧ h187_.1 66 62 ≤ 500 := i187_.1 66 62
                have g147 : -2147483648 ≤ h187_.1 66 61 ∧ h187_.1 66 61 ≤ 2147483647 := i187_.1 66 61
                have g148 : -2147483648 ≤ h187_.1 66 64 ∧ h187_.1 66 64 ≤ 2147483647 := i187_.1 66 64
                have g149 : -2147483648 ≤ h187_.1 66 65 ∧ h187_.1 66 65 ≤ 2147483647 := i187_.1 66 65
                have g150 : -2147483648 ≤ h187_.1 66 63 ∧ h187_.1 66 63 ≤ 2147483647 := i187_.1 66 63
                have g151 : -9223372036854775808 ≤ h187_.1 66 66 ∧ h187_.1 66 66 ≤ 9223372036854775807 := i187_.1 66 66
                have g152 : h187_.1 66 59 = h.1 66 59 := f187_.1 66 59 (by decide)
                have zv : h187_.1 66 60 < h.1 66 59 → mm_UY h (h187_.1 66 60) = h187_.2.1 101 (h187_.1 66 60) := fun q => (mm_tr_in (by omega) (by omega)).trans (f187_.2 101 (by decide) _).symm
                refine mm_aload_n C (mm_dec dk_X12_goes 95 rfl) rfl ?_
                refine mm_aload_n C (mm_dec dk_X12_goes 96 rfl) rfl ?_
                refine mm_geti C fl_X12_359 (mm_dec dk_X12_goes 97 rfl) rfl rfl (Or.inl rfl) ?_
                refine mm_cVi (rest := []) C1 ev_X12_362 (mm_dec dk_X12_goes 98 rfl) (c_X12_byteAt x.2.1 hl (d - 1) (by omega) h187_ i187_ (h187_.1 66 60) ⟨by omega, by omega⟩) rfl rfl (Nat.le_of_ble_eq_true rfl) ⟨by decide, by decide⟩ rfl (fun r192 h192c hp192 => ?_) (fun _ _ q => q.elim)
                obtain ⟨z192, y192⟩ := hp192
                rw [z192]
                have g154 : -2147483648 ≤ (h187_.2.1 101 (h187_.1 66 60)) ∧ (h187_.2.1 101 (h187_.1 66 60)) ≤ 2147483647 := i187_.2.1 101 (h187_.1 66 60)
                refine mm_cSi (rest := []) C1 es_X12_384 (mm_dec dk_X12_goes 99 rfl) (c_X12_isDigit x.2.1 hl (d - 1) (by omega) h187_ i187_ r192) rfl (Nat.le_of_ble_eq_true rfl) ⟨by decide, by decide⟩ rfl (fun r195 h195c hp195 => ?_) (fun _ _ q => q.elim)
                obtain ⟨z195, y195⟩ := hp195
                rw [z195]
                refine mm_if_eq (tgt := 250) C (mm_dec dk_X12_goes 100 rfl) (by decide) (fun c198 => ?_) (fun c198 => ?_)
                · skip
                  refine mm_aload_n C (mm_dec dk_X12_goes 128 rfl) rfl ?_
                  refine mm_iconst C (mm_dec dk_X12_goes 129 rfl) ⟨by decide, by decide⟩ ?_
                  refine mm_puti C fl_X12_378 (mm_dec dk_X12_goes 130 rfl) rfl rfl rfl (Or.inl ⟨rfl, rfl⟩) ?_
                  have i9 : mm_inv (mm_pf h187_ 66 61 2) := mm_inv_pf i187_ (show -2147483648 ≤ 2 ∧ 2 ≤ 2147483647 from ⟨by omega, by omega⟩) (by decide)
                  have f9 : mm_fr [(66, 60), (66, 61), (66, 62), (66, 63), (66, 64), (66, 65), (66, 66)] [] h (mm_pf h187_ 66 61 2) := mm_fr_pf f187_ (by decide)
                  obtain ⟨h9, eh9⟩ : ∃ z, z = mm_pf h187_ 66 61 2 := ⟨_, rfl⟩
                  rw [← eh9] at i9 f9 ⊢
                  have qh9 : h9.1 66 61 = 2 := by rw [eh9]; exact mm_pf_same _ _ _ _
                  have qh9_156 : h9.1 66 59 = h187_.1 66 59 := by rw [eh9]; exact mm_pf_ne _ _ (by decide)
                  have qh9_157 : h9.1 66 60 = h187_.1 66 60 := by rw [eh9]; exact mm_pf_ne _ _ (by decide)
                  have qh9_158 : h9.1 66 62 = h187_.1 66 62 := by rw [eh9]; exact mm_pf_ne _ _ (by decide)
                  have qh9_159 : h9.1 66 63 = h187_.1 66 63 := by rw [eh9]; exact mm_pf_ne _ _ (by decide)
                  have qh9_160 : h9.1 66 64 = h187_.1 66 64 := by rw [eh9]; exact mm_pf_ne _ _ (by decide)
                  have qh9_161 : h9.1 66 65 = h187_.1 66 65 := by rw [eh9]; exact mm_pf_ne _ _ (by decide)
                  have qh9_162 : h9.1 66 66 = h187_.1 66 66 := by rw [eh9]; exact mm_pf_ne _ _ (by decide)
                  refine mm_goto (tgt := 331) C (mm_dec dk_X12_goes 131 rfl) (by decide) ?_
                  exact J331 h9 i9 f9 (by omega) (by omega) (by omega) (by omega) (by first | exact mm_aY0_end (by omega) (by omega) (by omega) | exact mm_aY0_let (by omega) (by rw [show h9.1 66 62 = h108_.1 66 62 by omega]; exact w108_5) (by omega) (by rw [show h9.1 66 60 = h108_.1 66 60 by omega, show h9.1 66 62 = h108_.1 66 62 by omega]; exact w108_6) (by rw [show h9.1 66 60 = h108_.1 66 60 by omega]; by_cases q : h.1 66 59 ≤ h108_.1 66 60; exact Or.inl q; exact Or.inr (by have e := zv (by omega); have e2 := mm_kd_f (mm_UY h (h108_.1 66 60)); omega)) (by rw [show h9.1 66 60 = h108_.1 66 60 by omega, show h9.1 66 62 = h108_.1 66 62 by omega, show h9.1 66 66 = h108_.1 66 66 by omega]; exact w108_7) | exact mm_aY0_dig (by omega) (by rw [show h9.1 66 62 = h187_.1 66 62 by omega]; exact w187_5) (by omega) (by rw [show h9.1 66 60 = h187_.1 66 60 by omega, show h9.1 66 62 = h187_.1 66 62 by omega]; exact w187_6) (by rw [show h9.1 66 60 = h187_.1 66 60 by omega]; by_cases q : h.1 66 59 ≤ h187_.1 66 60; exact Or.inl q; exact Or.inr (by have e := zv (by omega); have e2 := mm_kd_f (mm_UY h (h187_.1 66 60)); omega)) (by rw [show h9.1 66 60 = h187_.1 66 60 by omega, show h9.1 66 62 = h187_.1 66 62 by omega, show h9.1 66 64 = h187_.1 66 64 by omega]; exact w187_7) | exact mm_aY0_sgn (by omega) (by rw [show h9.1 66 62 = h9.1 66 60 - 1 by omega]; rw [show h9.1 66 60 - 1 = h4.1 66 60 by omega, zu2]; omega) (by omega) (by rw [show h9.1 66 62 = h4.1 66 60 by omega, zu2]; omega))
                · skip
                  have zr : mm_UY h (h187_.1 66 60) = r192 := by (have e := zv (by omega)); omega
                  have zy : mm_kd (mm_UY h (h187_.1 66 60)) = 3 := by rw [zr]; unfold mm_kd; rw [if_neg (by omega), if_pos (by omega)]
                  refine mm_aload_n C (mm_dec dk_X12_goes 101 rfl) rfl ?_
                  refine mm_geti C fl_X12_359 (mm_dec dk_X12_goes 102 rfl) rfl rfl (Or.inl rfl) ?_
                  refine mm_aload_n C (mm_dec dk_X12_goes 103 rfl) rfl ?_
                  refine mm_geti C fl_X12_365 (mm_dec dk_X12_goes 104 rfl) rfl rfl (Or.inl rfl) ?_
                  refine mm_isub C (mm_dec dk_X12_goes 105 rfl) ⟨by omega, by omega⟩ ?_
                  refine mm_iconst C (mm_dec dk_X12_goes 106 rfl) ⟨by decide, by decide⟩ ?_
                  have J237 : ∀ (h237_ : mH) (i237_ : mm_inv h237_) (f237_ : mm_fr [(66, 60), (66, 61), (66, 62), (66, 63), (66, 64), (66, 65), (66, 66)] [] h h237_) (w237_0 : h237_.1 66 60 = h187_.1 66 60) (w237_1 : h.1 66 60 ≤ h237_.1 66 62) (w237_2 : h237_.1 66 62 ≤ h237_.1 66 60) (w237_3 : h237_.1 66 60 < h237_.1 66 59) (w237_4 : h237_.1 66 62 = mm_skp (mm_UY h) (h.1 66 59) (h.1 66 60)) (w237_5 : h237_.1 66 62 < h.1 66 59) (w237_6 : mm_kd (mm_UY h (h237_.1 66 62)) = 3) (w237_7 : h237_.1 66 62 = h187_.1 66 62) (w237_8 : ((h187_.1 66 60 + 1) - h237_.1 66 62 ≤ 5 → h237_.1 66 64 = mm_nv (mm_UY h) (h237_.1 66 62) ((h187_.1 66 60 + 1) - h237_.1 66 62).toNat)) (w237_9 : ((h187_.1 66 60 + 1) = h237_.1 66 62 ∧ h237_.1 66 64 = 0) ∨ ((h187_.1 66 60 + 1) = h237_.1 66 62 + 1 ∧ 0 ≤ h237_.1 66 64 ∧ h237_.1 66 64 ≤ 9) ∨ ((h187_.1 66 60 + 1) = h237_.1 66 62 + 2 ∧ 0 ≤ h237_.1 66 64 ∧ h237_.1 66 64 ≤ 99) ∨ ((h187_.1 66 60 + 1) = h237_.1 66 62 + 3 ∧ 0 ≤ h237_.1 66 64 ∧ h237_.1 66 64 ≤ 999) ∨ ((h187_.1 66 60 + 1) = h237_.1 66 62 + 4 ∧ 0 ≤ h237_.1 66 64 ∧ h237_.1 66 64 ≤ 9999) ∨ (h237_.1 66 62 + 5 ≤ (h187_.1 66 60 + 1))), mm_W x 0 0 237 [mR 66, mU] [] h237_ := by
                    intro h237_ i237_ f237_ w237_0 w237_1 w237_2 w237_3 w237_4 w237_5 w237_6 w237_7 w237_8 w237_9
                    have g163 : 0 ≤ h237_.1 66 60 ∧ h237_.1 66 60 ≤ 500 := i237_.1 66 60
                    have g164 : 0 ≤ h237_.1 66 59 ∧ h237_.1 66 59 ≤ 500 := i237_.1 66 59
                    have g165 : 0 ≤ h237_.1 66 62 ∧ h237_.1 66 62 ≤ 500 := i237_.1 66 62
                    have g166 : -2147483648 ≤ h237_.1 66 61 ∧ h237_.1 66 61 ≤ 2147483647 := i237_.1 66 61
                    have g167 : -2147483648 ≤ h237_.1 66 64 ∧ h237_.1 66 64 ≤ 2147483647 := i237_.1 66 64
                    have g168 : -2147483648 ≤ h237_.1 66 65 ∧ h237_.1 66 65 ≤ 2147483647 := i237_.1 66 65
                    have g169 : -2147483648 ≤ h237_.1 66 63 ∧ h237_.1 66 63 ≤ 2147483647 := i237_.1 66 63
                    have g170 : -9223372036854775808 ≤ h237_.1 66 66 ∧ h237_.1 66 66 ≤ 9223372036854775807 := i237_.1 66 66
                    have g171 : h237_.1 66 59 = h.1 66 59 := f237_.1 66 59 (by decide)
                    refine mm_aload_n C (mm_dec dk_X12_goes 121 rfl) rfl ?_
                    refine mm_dup C (mm_dec dk_X12_goes 122 rfl) (show (2 : Nat) ≠ 1 by decide) ?_
                    refine mm_geti C fl_X12_359 (mm_dec dk_X12_goes 123 rfl) rfl rfl (Or.inl rfl) ?_
                    refine mm_iconst C (mm_dec dk_X12_goes 124 rfl) ⟨by decide, by decide⟩ ?_
                    refine mm_iadd C (mm_dec dk_X12_goes 125 rfl) ⟨by omega, by omega⟩ ?_
                    refine mm_puti C fl_X12_359 (mm_dec dk_X12_goes 126 rfl) rfl rfl rfl (Or.inl ⟨rfl, rfl⟩) ?_
                    have i10 : mm_inv (mm_pf h237_ 66 60 ((h237_.1 66 60) + 1)) := mm_inv_pf i237_ (show 0 ≤ ((h237_.1 66 60) + 1) ∧ ((h237_.1 66 60) + 1) ≤ 500 from ⟨by omega, by omega⟩) (by decide)
                    have f10 : mm_fr [(66, 60), (66, 61), (66, 62), (66, 63), (66, 64), (66, 65), (66, 66)] [] h (mm_pf h237_ 66 60 ((h237_.1 66 60) + 1)) := mm_fr_pf f237_ (by decide)
                    obtain ⟨h10, eh10⟩ : ∃ z, z = mm_pf h237_ 66 60 ((h237_.1 66 60) + 1) := ⟨_, rfl⟩
                    rw [← eh10] at i10 f10 ⊢
                    have qh10 : h10.1 66 60 = ((h237_.1 66 60) + 1) := by rw [eh10]; exact mm_pf_same _ _ _ _
                    have qh10_172 : h10.1 66 59 = h237_.1 66 59 := by rw [eh10]; exact mm_pf_ne _ _ (by decide)
                    have qh10_173 : h10.1 66 61 = h237_.1 66 61 := by rw [eh10]; exact mm_pf_ne _ _ (by decide)
                    have qh10_174 : h10.1 66 62 = h237_.1 66 62 := by rw [eh10]; exact mm_pf_ne _ _ (by decide)
                    have qh10_175 : h10.1 66 63 = h237_.1 66 63 := by rw [eh10]; exact mm_pf_ne _ _ (by decide)
                    have qh10_176 : h10.1 66 64 = h237_.1 66 64 := by rw [eh10]; exact mm_pf_ne _ _ (by decide)
                    have qh10_177 : h10.1 66 65 = h237_.1 66 65 := by rw [eh10]; exact mm_pf_ne _ _ (by decide)
                    have qh10_178 : h10.1 66 66 = h237_.1 66 66 := by rw [eh10]; exact mm_pf_ne _ _ (by decide)
                    refine mm_goto (tgt := 187) C (mm_dec dk_X12_goes 127 rfl) (by decide) ?_
                    exact ih187 h10 i10 f10 (by omega) (by omega) (by omega) (by omega) (by omega) (by first | (rw [show h10.1 66 62 = h187_.1 66 62 by omega]; exact w187_5) | (rw [show h10.1 66 62 = h10.1 66 60 by omega, zu2]; unfold mm_kd; rw [if_neg (by omega), if_pos (by omega)])) (by first | (rw [show h10.1 66 60 = h187_.1 66 60 + 1 by omega, show h10.1 66 62 = h187_.1 66 62 by omega]; exact (mm_runw_s (by omega) zy).symm.trans w187_6) | (rw [show h10.1 66 62 = h10.1 66 60 by omega]; exact mm_runw_s (by omega) (by rw [zu2]; unfold mm_kd; rw [if_neg (by omega), if_pos (by omega)]))) (by first | (rw [show h10.1 66 60 = h187_.1 66 60 + 1 by omega, show h10.1 66 64 = h237_.1 66 64 by omega, show h10.1 66 62 = h237_.1 66 62 by omega]; exact w237_8) | exact fun _ => (by rw [show (h10.1 66 60 - h10.1 66 62).toNat = 0 by omega]; show _ = (0 : Int); omega)) (by omega) (by omega)
                  refine mm_icmp_ge (tgt := 237) C (mm_dec dk_X12_goes 107 rfl) (by decide) (fun c211 => ?_) (fun c211 => ?_)
                  · skip
                    exact J237 h187_ i187_ f187_ (by omega) (by omega) (by omega) (by omega) (by omega) (by omega) (by (rw [show h187_.1 66 62 = h187_.1 66 62 by omega]; exact w187_5)) (by omega) (by first | exact fun q => absurd q (by omega) | exact fun q => (by rw [show h187_.1 66 62 = h187_.1 66 62 by omega, mm_nv_s (by omega), ← w187_7 (by omega), zr]; omega)) (by omega)
                  · skip
                    refine mm_aload_n C (mm_dec dk_X12_goes 108 rfl) rfl ?_
                    refine mm_bipush C (mm_dec dk_X12_goes 109 rfl) ⟨by decide, by decide⟩ ?_
                    refine mm_aload_n C (mm_dec dk_X12_goes 110 rfl) rfl ?_
                    refine mm_geti C fl_X12_372 (mm_dec dk_X12_goes 111 rfl) rfl rfl (Or.inl rfl) ?_
                    refine mm_imulw C (mm_dec dk_X12_goes 112 rfl) ?_
                    have g179 : -2147483648 ≤ (mm_w (10 * (h187_.1 66 64))) ∧ (mm_w (10 * (h187_.1 66 64))) < 2147483648 := mm_w_rg _
                    refine mm_aload_n C (mm_dec dk_X12_goes 113 rfl) rfl ?_
                    refine mm_aload_n C (mm_dec dk_X12_goes 114 rfl) rfl ?_
                    refine mm_geti C fl_X12_359 (mm_dec dk_X12_goes 115 rfl) rfl rfl (Or.inl rfl) ?_
                    refine mm_cVi (rest := [mI (mm_w (10 * (h187_.1 66 64))), mR 66]) C1 ev_X12_362 (mm_dec dk_X12_goes 116 rfl) (c_X12_byteAt x.2.1 hl (d - 1) (by omega) h187_ i187_ (h187_.1 66 60) ⟨by omega, by omega⟩) rfl rfl (Nat.le_of_ble_eq_true rfl) ⟨by decide, by decide⟩ rfl (fun r227 h227c hp227 => ?_) (fun _ _ q => q.elim)
                    obtain ⟨z227, y227⟩ := hp227
                    rw [z227]
                    refine mm_iaddw C (mm_dec dk_X12_goes 117 rfl) ?_
                    have g181 : -2147483648 ≤ (mm_w ((mm_w (10 * (h187_.1 66 64))) + r227)) ∧ (mm_w ((mm_w (10 * (h187_.1 66 64))) + r227)) < 2147483648 := mm_w_rg _
                    refine mm_bipush C (mm_dec dk_X12_goes 118 rfl) ⟨by decide, by decide⟩ ?_
                    refine mm_isubw C (mm_dec dk_X12_goes 119 rfl) ?_
                    have g182 : -2147483648 ≤ (mm_w ((mm_w ((mm_w (10 * (h187_.1 66 64))) + r227)) - 48)) ∧ (mm_w ((mm_w ((mm_w (10 * (h187_.1 66 64))) + r227)) - 48)) < 2147483648 := mm_w_rg _
                    have zn : (mm_w ((mm_w ((mm_w (10 * (h187_.1 66 64))) + r227)) - 48)) = h187_.1 66 64 * 10 + r227 - 48 := mm_ndig ⟨by omega, by omega⟩ ⟨by omega, by omega⟩
                    refine mm_puti C fl_X12_372 (mm_dec dk_X12_goes 120 rfl) rfl rfl rfl (Or.inl ⟨rfl, rfl⟩) ?_
                    have i11 : mm_inv (mm_pf h187_ 66 64 (mm_w ((mm_w ((mm_w (10 * (h187_.1 66 64))) + r227)) - 48))) := mm_inv_pf i187_ (show -2147483648 ≤ (mm_w ((mm_w ((mm_w (10 * (h187_.1 66 64))) + r227)) - 48)) ∧ (mm_w ((mm_w ((mm_w (10 * (h187_.1 66 64))) + r227)) - 48)) ≤ 2147483647 from ⟨by omega, by omega⟩) (by decide)
                    have f11 : mm_fr [(66, 60), (66, 61), (66, 62), (66, 63), (66, 64), (66, 65), (66, 66)] [] h (mm_pf h187_ 66 64 (mm_w ((mm_w ((mm_w (10 * (h187_.1 66 64))) + r227)) - 48))) := mm_fr_pf f187_ (by decide)
                    obtain ⟨h11, eh11⟩ : ∃ z, z = mm_pf h187_ 66 64 (mm_w ((mm_w ((mm_w (10 * (h187_.1 66 64))) + r227)) - 48)) := ⟨_, rfl⟩
                    rw [← eh11] at i11 f11 ⊢
                    have qh11 : h11.1 66 64 = (mm_w ((mm_w ((mm_w (10 * (h187_.1 66 64))) + r227)) - 48)) := by rw [eh11]; exact mm_pf_same _ _ _ _
                    have qh11_183 : h11.1 66 59 = h187_.1 66 59 := by rw [eh11]; exact mm_pf_ne _ _ (by decide)
                    have qh11_184 : h11.1 66 60 = h187_.1 66 60 := by rw [eh11]; exact mm_pf_ne _ _ (by decide)
                    have qh11_185 : h11.1 66 61 = h187_.1 66 61 := by rw [eh11]; exact mm_pf_ne _ _ (by decide)
                    have qh11_186 : h11.1 66 62 = h187_.1 66 62 := by rw [eh11]; exact mm_pf_ne _ _ (by decide)
                    have qh11_187 : h11.1 66 63 = h187_.1 66 63 := by rw [eh11]; exact mm_pf_ne _ _ (by decide)
                    have qh11_188 : h11.1 66 65 = h187_.1 66 65 := by rw [eh11]; exact mm_pf_ne _ _ (by decide)
                    have qh11_189 : h11.1 66 66 = h187_.1 66 66 := by rw [eh11]; exact mm_pf_ne _ _ (by decide)
                    exact J237 h11 i11 f11 (by omega) (by omega) (by omega) (by omega) (by omega) (by omega) (by (rw [show h11.1 66 62 = h187_.1 66 62 by omega]; exact w187_5)) (by omega) (by first | exact fun q => absurd q (by omega) | exact fun q => (by rw [show h11.1 66 62 = h187_.1 66 62 by omega, mm_nv_s (by omega), ← w187_7 (by omega), zr]; omega)) (by omega)
            refine mm_if_eq (tgt := 258) C (mm_dec dk_X12_goes 94 rfl) (by decide) (fun c184 => ?_) (fun c184 => ?_)
            · skip
              refine mm_aload_n C (mm_dec dk_X12_goes 132 rfl) rfl ?_
              refine mm_dup C (mm_dec dk_X12_goes 133 rfl) (show (2 : Nat) ≠ 1 by decide) ?_
              refine mm_geti C fl_X12_359 (mm_dec dk_X12_goes 134 rfl) rfl rfl (Or.inl rfl) ?_
              refine mm_iconst C (mm_dec dk_X12_goes 135 rfl) ⟨by decide, by decide⟩ ?_
              refine mm_iadd C (mm_dec dk_X12_goes 136 rfl) ⟨by omega, by omega⟩ ?_
              refine mm_puti C fl_X12_359 (mm_dec dk_X12_goes 137 rfl) rfl rfl rfl (Or.inl ⟨rfl, rfl⟩) ?_
              have i12 : mm_inv (mm_pf h4 66 60 ((h4.1 66 60) + 1)) := mm_inv_pf i4 (show 0 ≤ ((h4.1 66 60) + 1) ∧ ((h4.1 66 60) + 1) ≤ 500 from ⟨by omega, by omega⟩) (by decide)
              have f12 : mm_fr [(66, 60), (66, 61), (66, 62), (66, 63), (66, 64), (66, 65), (66, 66)] [] h (mm_pf h4 66 60 ((h4.1 66 60) + 1)) := mm_fr_pf f4 (by decide)
              obtain ⟨h12, eh12⟩ : ∃ z, z = mm_pf h4 66 60 ((h4.1 66 60) + 1) := ⟨_, rfl⟩
              rw [← eh12] at i12 f12 ⊢
              have qh12 : h12.1 66 60 = ((h4.1 66 60) + 1) := by rw [eh12]; exact mm_pf_same _ _ _ _
              have qh12_190 : h12.1 66 59 = h4.1 66 59 := by rw [eh12]; exact mm_pf_ne _ _ (by decide)
              have qh12_191 : h12.1 66 61 = h4.1 66 61 := by rw [eh12]; exact mm_pf_ne _ _ (by decide)
              have qh12_192 : h12.1 66 62 = h4.1 66 62 := by rw [eh12]; exact mm_pf_ne _ _ (by decide)
              have qh12_193 : h12.1 66 63 = h4.1 66 63 := by rw [eh12]; exact mm_pf_ne _ _ (by decide)
              have qh12_194 : h12.1 66 64 = h4.1 66 64 := by rw [eh12]; exact mm_pf_ne _ _ (by decide)
              have qh12_195 : h12.1 66 65 = h4.1 66 65 := by rw [eh12]; exact mm_pf_ne _ _ (by decide)
              have qh12_196 : h12.1 66 66 = h4.1 66 66 := by rw [eh12]; exact mm_pf_ne _ _ (by decide)
              refine mm_aload_n C (mm_dec dk_X12_goes 138 rfl) rfl ?_
              refine mm_iload_n C (mm_dec dk_X12_goes 139 rfl) rfl ?_
              refine mm_bipush C (mm_dec dk_X12_goes 140 rfl) ⟨by decide, by decide⟩ ?_
              have J328 : ∀ (s328_1 : Int) (bs328_1 : 3 ≤ s328_1 ∧ s328_1 ≤ 4) (w328_0 : ((s328_1 = 3 ∧ mm_kd r73 = 4) ∨ (s328_1 = 4 ∧ mm_kd r73 = 1))) (vs328_1 : (s328_1 = 3) ∨ (r73 ≠ 59 ∧ r73 ≠ 40 ∧ r73 ≠ 41 ∧ r73 ≠ 43 ∧ r73 ≠ 45 ∧ r73 ≠ 42 ∧ r73 ≠ 47 ∧ r73 ≠ 60 ∧ r73 ≠ 61 ∧ s328_1 = 4)), mm_W x 0 0 328 [mR 66, mU] [mI s328_1, mR 66] h12 := by
                intro s328_1 bs328_1 w328_0 vs328_1
                refine mm_puti C fl_X12_378 (mm_dec dk_X12_goes 169 rfl) rfl rfl rfl (Or.inl ⟨rfl, rfl⟩) ?_
                have i13 : mm_inv (mm_pf h12 66 61 s328_1) := mm_inv_pf i12 (show -2147483648 ≤ s328_1 ∧ s328_1 ≤ 2147483647 from ⟨by omega, by omega⟩) (by decide)
                have f13 : mm_fr [(66, 60), (66, 61), (66, 62), (66, 63), (66, 64), (66, 65), (66, 66)] [] h (mm_pf h12 66 61 s328_1) := mm_fr_pf f12 (by decide)
                obtain ⟨h13, eh13⟩ : ∃ z, z = mm_pf h12 66 61 s328_1 := ⟨_, rfl⟩
                rw [← eh13] at i13 f13 ⊢
                have qh13 : h13.1 66 61 = s328_1 := by rw [eh13]; exact mm_pf_same _ _ _ _
                have qh13_197 : h13.1 66 59 = h12.1 66 59 := by rw [eh13]; exact mm_pf_ne _ _ (by decide)
                have qh13_198 : h13.1 66 60 = h12.1 66 60 := by rw [eh13]; exact mm_pf_ne _ _ (by decide)
                have qh13_199 : h13.1 66 62 = h12.1 66 62 := by rw [eh13]; exact mm_pf_ne _ _ (by decide)
                have qh13_200 : h13.1 66 63 = h12.1 66 63 := by rw [eh13]; exact mm_pf_ne _ _ (by decide)
                have qh13_201 : h13.1 66 64 = h12.1 66 64 := by rw [eh13]; exact mm_pf_ne _ _ (by decide)
                have qh13_202 : h13.1 66 65 = h12.1 66 65 := by rw [eh13]; exact mm_pf_ne _ _ (by decide)
                have qh13_203 : h13.1 66 66 = h12.1 66 66 := by rw [eh13]; exact mm_pf_ne _ _ (by decide)
                exact J331 h13 i13 f13 (by omega) (by omega) (by omega) (by omega) (by first | exact mm_aY0_end (by omega) (by omega) (by omega) | exact mm_aY0_let (by omega) (by rw [show h13.1 66 62 = h108_.1 66 62 by omega]; exact w108_5) (by omega) (by rw [show h13.1 66 60 = h108_.1 66 60 by omega, show h13.1 66 62 = h108_.1 66 62 by omega]; exact w108_6) (by rw [show h13.1 66 60 = h108_.1 66 60 by omega]; by_cases q : h.1 66 59 ≤ h108_.1 66 60; exact Or.inl q; exact Or.inr (by have e := zv (by omega); have e2 := mm_kd_f (mm_UY h (h108_.1 66 60)); omega)) (by rw [show h13.1 66 60 = h108_.1 66 60 by omega, show h13.1 66 62 = h108_.1 66 62 by omega, show h13.1 66 66 = h108_.1 66 66 by omega]; exact w108_7) | exact mm_aY0_dig (by omega) (by rw [show h13.1 66 62 = h187_.1 66 62 by omega]; exact w187_5) (by omega) (by rw [show h13.1 66 60 = h187_.1 66 60 by omega, show h13.1 66 62 = h187_.1 66 62 by omega]; exact w187_6) (by rw [show h13.1 66 60 = h187_.1 66 60 by omega]; by_cases q : h.1 66 59 ≤ h187_.1 66 60; exact Or.inl q; exact Or.inr (by have e := zv (by omega); have e2 := mm_kd_f (mm_UY h (h187_.1 66 60)); omega)) (by rw [show h13.1 66 60 = h187_.1 66 60 by omega, show h13.1 66 62 = h187_.1 66 62 by omega, show h13.1 66 64 = h187_.1 66 64 by omega]; exact w187_7) | exact mm_aY0_sgn (by omega) (by rw [show h13.1 66 62 = h13.1 66 60 - 1 by omega]; rw [show h13.1 66 60 - 1 = h4.1 66 60 by omega, zu2]; omega) (by omega) (by rw [show h13.1 66 62 = h4.1 66 60 by omega, zu2]; omega))
              have J323 : ∀ (w323_0 : (r73 = 59 ∨ r73 = 40 ∨ r73 = 41 ∨ r73 = 43 ∨ r73 = 45 ∨ r73 = 42 ∨ r73 = 47 ∨ r73 = 60 ∨ r73 = 61)), mm_W x 0 0 323 [mR 66, mU] [mR 66] h12 := by
                intro w323_0
                refine mm_iconst C (mm_dec dk_X12_goes 166 rfl) ⟨by decide, by decide⟩ ?_
                refine mm_goto (tgt := 328) C (mm_dec dk_X12_goes 167 rfl) (by decide) ?_
                exact J328 3 ⟨by omega, by omega⟩ (by have zK := mm_kd_f r73; omega) (Or.inl rfl)
              refine mm_icmp_eq (tgt := 323) C (mm_dec dk_X12_goes 141 rfl) (by decide) (fun c272 => ?_) (fun c272 => ?_)
              · skip
                refine mm_fgt 1 ?_
                exact J323 (by omega)
              · skip
                refine mm_iload_n C (mm_dec dk_X12_goes 142 rfl) rfl ?_
                refine mm_bipush C (mm_dec dk_X12_goes 143 rfl) ⟨by decide, by decide⟩ ?_
                refine mm_icmp_eq (tgt := 323) C (mm_dec dk_X12_goes 144 rfl) (by decide) (fun c278 => ?_) (fun c278 => ?_)
                · skip
                  refine mm_fgt 1 ?_
                  exact J323 (by omega)
                · skip
                  refine mm_iload_n C (mm_dec dk_X12_goes 145 rfl) rfl ?_
                  refine mm_bipush C (mm_dec dk_X12_goes 146 rfl) ⟨by decide, by decide⟩ ?_
                  refine mm_icmp_eq (tgt := 323) C (mm_dec dk_X12_goes 147 rfl) (by decide) (fun c284 => ?_) (fun c284 => ?_)
                  · skip
                    refine mm_fgt 1 ?_
                    exact J323 (by omega)
                  · skip
                    refine mm_iload_n C (mm_dec dk_X12_goes 148 rfl) rfl ?_
                    refine mm_bipush C (mm_dec dk_X12_goes 149 rfl) ⟨by decide, by decide⟩ ?_
                    refine mm_icmp_eq (tgt := 323) C (mm_dec dk_X12_goes 150 rfl) (by decide) (fun c290 => ?_) (fun c290 => ?_)
                    · skip
                      refine mm_fgt 1 ?_
                      exact J323 (by omega)
                    · skip
                      refine mm_iload_n C (mm_dec dk_X12_goes 151 rfl) rfl ?_
                      refine mm_bipush C (mm_dec dk_X12_goes 152 rfl) ⟨by decide, by decide⟩ ?_
                      refine mm_icmp_eq (tgt := 323) C (mm_dec dk_X12_goes 153 rfl) (by decide) (fun c296 => ?_) (fun c296 => ?_)
                      · skip
                        refine mm_fgt 1 ?_
                        exact J323 (by omega)
                      · skip
                        refine mm_iload_n C (mm_dec dk_X12_goes 154 rfl) rfl ?_
                        refine mm_bipush C (mm_dec dk_X12_goes 155 rfl) ⟨by decide, by decide⟩ ?_
                        refine mm_icmp_eq (tgt := 323) C (mm_dec dk_X12_goes 156 rfl) (by decide) (fun c302 => ?_) (fun c302 => ?_)
                        · skip
                          refine mm_fgt 1 ?_
                          exact J323 (by omega)
                        · skip
                          refine mm_iload_n C (mm_dec dk_X12_goes 157 rfl) rfl ?_
                          refine mm_bipush C (mm_dec dk_X12_goes 158 rfl) ⟨by decide, by decide⟩ ?_
                          refine mm_icmp_eq (tgt := 323) C (mm_dec dk_X12_goes 159 rfl) (by decide) (fun c308 => ?_) (fun c308 => ?_)
                          · skip
                            refine mm_fgt 1 ?_
                            exact J323 (by omega)
                          · skip
                            refine mm_iload_n C (mm_dec dk_X12_goes 160 rfl) rfl ?_
                            refine mm_bipush C (mm_dec dk_X12_goes 161 rfl) ⟨by decide, by decide⟩ ?_
                            refine mm_icmp_eq (tgt := 323) C (mm_dec dk_X12_goes 162 rfl) (by decide) (fun c314 => ?_) (fun c314 => ?_)
                            · skip
                              refine mm_fgt 1 ?_
                              exact J323 (by omega)
                            · skip
                              refine mm_iload_n C (mm_dec dk_X12_goes 163 rfl) rfl ?_
                              refine mm_bipush C (mm_dec dk_X12_goes 164 rfl) ⟨by decide, by decide⟩ ?_
                              refine mm_icmp_ne (tgt := 327) C (mm_dec dk_X12_goes 165 rfl) (by decide) (fun c320 => ?_) (fun c320 => ?_)
                              · skip
                                refine mm_iconst C (mm_dec dk_X12_goes 168 rfl) ⟨by decide, by decide⟩ ?_
                                refine mm_fgt 1 ?_
                                exact J328 4 ⟨by omega, by omega⟩ (by have zK := mm_kd_f r73; omega) (Or.inr (⟨by omega, by omega, by omega, by omega, by omega, by omega, by omega, by omega, by omega, rfl⟩))
                              · skip
                                refine mm_fgt 1 ?_
                                exact J323 (by omega)
            · skip
              refine mm_fgt 1 ?_
              exact J187 (((500 - h4.1 66 60) : Int) + 1).toNat h4 i4 f4 (by omega) (by omega) (by omega) (by omega) (by omega) (by first | (rw [show h4.1 66 62 = h187_.1 66 62 by omega]; exact w187_5) | (rw [show h4.1 66 62 = h4.1 66 60 by omega, zu2]; unfold mm_kd; rw [if_neg (by omega), if_pos (by omega)])) (by first | (rw [show h4.1 66 60 = h187_.1 66 60 + 1 by omega, show h4.1 66 62 = h187_.1 66 62 by omega]; exact (mm_runw_s (by omega) zy).symm.trans w187_6) | (rw [show h4.1 66 62 = h4.1 66 60 by omega]; exact mm_runw_s (by omega) (by rw [zu2]; unfold mm_kd; rw [if_neg (by omega), if_pos (by omega)]))) (by first | (rw [show h4.1 66 60 = h187_.1 66 60 + 1 by omega, show h4.1 66 64 = h237_.1 66 64 by omega, show h4.1 66 62 = h237_.1 66 62 by omega]; exact w237_8) | exact fun _ => (by rw [show (h4.1 66 60 - h4.1 66 62).toNat = 0 by omega]; show _ = (0 : Int); omega)) (by omega) (by omega)
          · skip
            refine mm_fgt 1 ?_
            exact J108 (((500 - h4.1 66 60) : Int) + 1).toNat h4 i4 f4 (by omega) (by omega) (by omega) (by omega) (by omega) (by first | (rw [show h4.1 66 62 = h108_.1 66 62 by omega]; exact w108_5) | (rw [show h4.1 66 62 = h4.1 66 60 by omega, zu2]; exact if_pos (by omega))) (by first | (rw [show h4.1 66 60 = h108_.1 66 60 + 1 by omega, show h4.1 66 62 = h108_.1 66 62 by omega]; exact (mm_runw_s (by omega) zy).symm.trans w108_6) | (rw [show h4.1 66 62 = h4.1 66 60 by omega]; exact mm_runw_s (by omega) (by rw [zu2]; exact if_pos (by omega)))) (by first | (rw [show h4.1 66 60 = h108_.1 66 60 + 1 by omega, show h4.1 66 66 = h159_.1 66 66 by omega, show h4.1 66 62 = h159_.1 66 62 by omega]; exact w159_8) | exact fun _ => (by rw [show (h4.1 66 60 - h4.1 66 62).toNat = 0 by omega]; show _ = (0 : Int); omega)) (by first | exact fun j a b => (by by_cases e : j = h108_.1 66 60; (rw [e]; exact zy); exact w108_8 j (by omega) (by omega)) | exact fun j a b => absurd b (by omega)) (by omega) (by omega)
        · skip
          refine mm_aload_n C (mm_dec dk_X12_goes 47 rfl) rfl ?_
          refine mm_iconst C (mm_dec dk_X12_goes 48 rfl) ⟨by decide, by decide⟩ ?_
          refine mm_puti C fl_X12_378 (mm_dec dk_X12_goes 49 rfl) rfl rfl rfl (Or.inl ⟨rfl, rfl⟩) ?_
          have i14 : mm_inv (mm_pf h4 66 61 0) := mm_inv_pf i4 (show -2147483648 ≤ 0 ∧ 0 ≤ 2147483647 from ⟨by omega, by omega⟩) (by decide)
          have f14 : mm_fr [(66, 60), (66, 61), (66, 62), (66, 63), (66, 64), (66, 65), (66, 66)] [] h (mm_pf h4 66 61 0) := mm_fr_pf f4 (by decide)
          obtain ⟨h14, eh14⟩ : ∃ z, z = mm_pf h4 66 61 0 := ⟨_, rfl⟩
          rw [← eh14] at i14 f14 ⊢
          have qh14 : h14.1 66 61 = 0 := by rw [eh14]; exact mm_pf_same _ _ _ _
          have qh14_204 : h14.1 66 59 = h4.1 66 59 := by rw [eh14]; exact mm_pf_ne _ _ (by decide)
          have qh14_205 : h14.1 66 60 = h4.1 66 60 := by rw [eh14]; exact mm_pf_ne _ _ (by decide)
          have qh14_206 : h14.1 66 62 = h4.1 66 62 := by rw [eh14]; exact mm_pf_ne _ _ (by decide)
          have qh14_207 : h14.1 66 63 = h4.1 66 63 := by rw [eh14]; exact mm_pf_ne _ _ (by decide)
          have qh14_208 : h14.1 66 64 = h4.1 66 64 := by rw [eh14]; exact mm_pf_ne _ _ (by decide)
          have qh14_209 : h14.1 66 65 = h4.1 66 65 := by rw [eh14]; exact mm_pf_ne _ _ (by decide)
          have qh14_210 : h14.1 66 66 = h4.1 66 66 := by rw [eh14]; exact mm_pf_ne _ _ (by decide)
          refine mm_goto (tgt := 331) C (mm_dec dk_X12_goes 50 rfl) (by decide) ?_
          refine mm_fgt 1 ?_
          exact J331 h14 i14 f14 (by omega) (by omega) (by omega) (by omega) (by first | exact mm_aY0_end (by omega) (by omega) (by omega) | exact mm_aY0_let (by omega) (by rw [show h14.1 66 62 = h108_.1 66 62 by omega]; exact w108_5) (by omega) (by rw [show h14.1 66 60 = h108_.1 66 60 by omega, show h14.1 66 62 = h108_.1 66 62 by omega]; exact w108_6) (by rw [show h14.1 66 60 = h108_.1 66 60 by omega]; by_cases q : h.1 66 59 ≤ h108_.1 66 60; exact Or.inl q; exact Or.inr (by have e := zv (by omega); have e2 := mm_kd_f (mm_UY h (h108_.1 66 60)); omega)) (by rw [show h14.1 66 60 = h108_.1 66 60 by omega, show h14.1 66 62 = h108_.1 66 62 by omega, show h14.1 66 66 = h108_.1 66 66 by omega]; exact w108_7) | exact mm_aY0_dig (by omega) (by rw [show h14.1 66 62 = h187_.1 66 62 by omega]; exact w187_5) (by omega) (by rw [show h14.1 66 60 = h187_.1 66 60 by omega, show h14.1 66 62 = h187_.1 66 62 by omega]; exact w187_6) (by rw [show h14.1 66 60 = h187_.1 66 60 by omega]; by_cases q : h.1 66 59 ≤ h187_.1 66 60; exact Or.inl q; exact Or.inr (by have e := zv (by omega); have e2 := mm_kd_f (mm_UY h (h187_.1 66 60)); omega)) (by rw [show h14.1 66 60 = h187_.1 66 60 by omega, show h14.1 66 62 = h187_.1 66 62 by omega, show h14.1 66 64 = h187_.1 66 64 by omega]; exact w187_7) | exact mm_aY0_sgn (by omega) (by rw [show h14.1 66 62 = h14.1 66 60 - 1 by omega]; rw [show h14.1 66 60 - 1 = h4.1 66 60 by omega, zu2]; omega) (by omega) (by rw [show h14.1 66 62 = h4.1 66 60 by omega, zu2]; omega))
      refine mm_icmp_ge (tgt := 50) C (mm_dec dk_X12_goes 4 rfl) (by decide) (fun c8 => ?_) (fun c8 => ?_)
      · skip
        exact J50 (by first | exact (mm_skp_e (Or.inl (by omega))).symm.trans w0_1 | exact (mm_skp_e (Or.inr ⟨by omega, by omega⟩)).symm.trans w0_1)
      · skip
        have zu : mm_UY h (h0_.1 66 60) = h0_.2.1 101 (h0_.1 66 60) := (mm_tr_in (by omega) (by omega)).trans (f0_.2 101 (by decide) _).symm
        refine mm_aload_n C (mm_dec dk_X12_goes 5 rfl) rfl ?_
        refine mm_aload_n C (mm_dec dk_X12_goes 6 rfl) rfl ?_
        refine mm_geti C fl_X12_359 (mm_dec dk_X12_goes 7 rfl) rfl rfl (Or.inl rfl) ?_
        refine mm_cVi (rest := []) C1 ev_X12_362 (mm_dec dk_X12_goes 8 rfl) (c_X12_byteAt x.2.1 hl (d - 1) (by omega) h0_ i0_ (h0_.1 66 60) ⟨by omega, by omega⟩) rfl rfl (Nat.le_of_ble_eq_true rfl) ⟨by decide, by decide⟩ rfl (fun r16 h16c hp16 => ?_) (fun _ _ q => q.elim)
        obtain ⟨z16, y16⟩ := hp16
        rw [z16]
        have g212 : -2147483648 ≤ (h0_.2.1 101 (h0_.1 66 60)) ∧ (h0_.2.1 101 (h0_.1 66 60)) ≤ 2147483647 := i0_.2.1 101 (h0_.1 66 60)
        refine mm_bipush C (mm_dec dk_X12_goes 9 rfl) ⟨by decide, by decide⟩ ?_
        have J37 : ∀ (w37_0 : (mm_UY h (h0_.1 66 60) = 32 ∨ mm_UY h (h0_.1 66 60) = 10)), mm_W x 0 0 37 [mR 66, mU] [] h0_ := by
          intro w37_0
          have g213 : 0 ≤ h0_.1 66 60 ∧ h0_.1 66 60 ≤ 500 := i0_.1 66 60
          have g214 : 0 ≤ h0_.1 66 59 ∧ h0_.1 66 59 ≤ 500 := i0_.1 66 59
          have g215 : 0 ≤ h0_.1 66 62 ∧ h0_.1 66 62 ≤ 500 := i0_.1 66 62
          have g216 : -2147483648 ≤ h0_.1 66 61 ∧ h0_.1 66 61 ≤ 2147483647 := i0_.1 66 61
          have g217 : -2147483648 ≤ h0_.1 66 64 ∧ h0_.1 66 64 ≤ 2147483647 := i0_.1 66 64
          have g218 : -2147483648 ≤ h0_.1 66 65 ∧ h0_.1 66 65 ≤ 2147483647 := i0_.1 66 65
          have g219 : -2147483648 ≤ h0_.1 66 63 ∧ h0_.1 66 63 ≤ 2147483647 := i0_.1 66 63
          have g220 : -9223372036854775808 ≤ h0_.1 66 66 ∧ h0_.1 66 66 ≤ 9223372036854775807 := i0_.1 66 66
          refine mm_aload_n C (mm_dec dk_X12_goes 17 rfl) rfl ?_
          refine mm_dup C (mm_dec dk_X12_goes 18 rfl) (show (2 : Nat) ≠ 1 by decide) ?_
          refine mm_geti C fl_X12_359 (mm_dec dk_X12_goes 19 rfl) rfl rfl (Or.inl rfl) ?_
          refine mm_iconst C (mm_dec dk_X12_goes 20 rfl) ⟨by decide, by decide⟩ ?_
          refine mm_iadd C (mm_dec dk_X12_goes 21 rfl) ⟨by omega, by omega⟩ ?_
          refine mm_puti C fl_X12_359 (mm_dec dk_X12_goes 22 rfl) rfl rfl rfl (Or.inl ⟨rfl, rfl⟩) ?_
          have i15 : mm_inv (mm_pf h0_ 66 60 ((h0_.1 66 60) + 1)) := mm_inv_pf i0_ (show 0 ≤ ((h0_.1 66 60) + 1) ∧ ((h0_.1 66 60) + 1) ≤ 500 from ⟨by omega, by omega⟩) (by decide)
          have f15 : mm_fr [(66, 60), (66, 61), (66, 62), (66, 63), (66, 64), (66, 65), (66, 66)] [] h (mm_pf h0_ 66 60 ((h0_.1 66 60) + 1)) := mm_fr_pf f0_ (by decide)
          obtain ⟨h15, eh15⟩ : ∃ z, z = mm_pf h0_ 66 60 ((h0_.1 66 60) + 1) := ⟨_, rfl⟩
          rw [← eh15] at i15 f15 ⊢
          have qh15 : h15.1 66 60 = ((h0_.1 66 60) + 1) := by rw [eh15]; exact mm_pf_same _ _ _ _
          have qh15_221 : h15.1 66 59 = h0_.1 66 59 := by rw [eh15]; exact mm_pf_ne _ _ (by decide)
          have qh15_222 : h15.1 66 61 = h0_.1 66 61 := by rw [eh15]; exact mm_pf_ne _ _ (by decide)
          have qh15_223 : h15.1 66 62 = h0_.1 66 62 := by rw [eh15]; exact mm_pf_ne _ _ (by decide)
          have qh15_224 : h15.1 66 63 = h0_.1 66 63 := by rw [eh15]; exact mm_pf_ne _ _ (by decide)
          have qh15_225 : h15.1 66 64 = h0_.1 66 64 := by rw [eh15]; exact mm_pf_ne _ _ (by decide)
          have qh15_226 : h15.1 66 65 = h0_.1 66 65 := by rw [eh15]; exact mm_pf_ne _ _ (by decide)
          have qh15_227 : h15.1 66 66 = h0_.1 66 66 := by rw [eh15]; exact mm_pf_ne _ _ (by decide)
          refine mm_goto (tgt := 0) C (mm_dec dk_X12_goes 23 rfl) (by decide) ?_
          exact ih0 h15 i15 f15 (by omega) (by first | (rw [show h15.1 66 60 = h0_.1 66 60 + 1 by omega]; exact (mm_skp_s (by omega) w37_0).symm.trans w0_1) | rfl) (by omega)
        refine mm_icmp_eq (tgt := 37) C (mm_dec dk_X12_goes 10 rfl) (by decide) (fun c21 => ?_) (fun c21 => ?_)
        · skip
          exact J37 (by omega)
        · skip
          refine mm_aload_n C (mm_dec dk_X12_goes 11 rfl) rfl ?_
          refine mm_aload_n C (mm_dec dk_X12_goes 12 rfl) rfl ?_
          refine mm_geti C fl_X12_359 (mm_dec dk_X12_goes 13 rfl) rfl rfl (Or.inl rfl) ?_
          refine mm_cVi (rest := []) C1 ev_X12_362 (mm_dec dk_X12_goes 14 rfl) (c_X12_byteAt x.2.1 hl (d - 1) (by omega) h0_ i0_ (h0_.1 66 60) ⟨by omega, by omega⟩) rfl rfl (Nat.le_of_ble_eq_true rfl) ⟨by decide, by decide⟩ rfl (fun r29 h29c hp29 => ?_) (fun _ _ q => q.elim)
          obtain ⟨z29, y29⟩ := hp29
          rw [z29]
          refine mm_bipush C (mm_dec dk_X12_goes 15 rfl) ⟨by decide, by decide⟩ ?_
          refine mm_icmp_ne (tgt := 50) C (mm_dec dk_X12_goes 16 rfl) (by decide) (fun c34 => ?_) (fun c34 => ?_)
          · skip
            exact J50 (by first | exact (mm_skp_e (Or.inl (by omega))).symm.trans w0_1 | exact (mm_skp_e (Or.inr ⟨by omega, by omega⟩)).symm.trans w0_1)
          · skip
            exact J37 (by omega)
  exact J0 (((500 - h.1 66 60) : Int) + 1).toNat h i0 f0 (by omega) (by first | (rw [show h.1 66 60 = h0_.1 66 60 + 1 by omega]; exact (mm_skp_s (by omega) w37_0).symm.trans w0_1) | rfl) (by omega)
