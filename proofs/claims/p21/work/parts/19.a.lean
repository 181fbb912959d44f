/-! ===== the reference's rules: code that runs, what waits, how far the text is read ===== -/
def mm_ok (c : Int → Int) : Nat → Int → Int → Prop
  | 0, _, _ => False
  | f + 1, k, n => (0 ≤ k ∧ k ≤ 2399 ∧ 0 ≤ n ∧ n ≤ 520) ∧ (c k = 0 ∨ ((1 ≤ c k ∧ c k ≤ 3) ∧ n ≤ 519 ∧ k ≤ 2398 ∧ (c k = 2 → 0 ≤ c (k + 1) ∧ c (k + 1) ≤ 6) ∧ (c k = 3 → 0 ≤ c (k + 1) ∧ c (k + 1) ≤ 2) ∧ mm_ok c f (k + 2) (n + 1)) ∨ (c k = 4 ∧ 1 ≤ n ∧ mm_ok c f (k + 1) n) ∨ ((c k < 0 ∨ 4 < c k) ∧ 2 ≤ n ∧ mm_ok c f (k + 1) (n - 1)))
def mm_cpre (c : Int → Int) (fr tp m : Int) : Prop := fr ≤ tp ∧ ∀ c' : Int → Int, (∀ j, fr ≤ j → j < tp → c' j = c j) → ∀ f, mm_ok c' f tp m → ∃ f', mm_ok c' f' fr 0
def mm_gd (c : Int → Int) (lo k e : Int) : Prop := lo ≤ k ∧ ∀ c' : Int → Int, (∀ j, lo ≤ j → j < e → c' j = c j) → ∃ f, mm_ok c' f k 0
abbrev mm_cd (h : mH) : Int → Int := fun j => h.2.1 107 j
def mm_B (h : mH) : Nat := mm_cn (fun j => if h.2.1 108 j = 4 ∨ h.2.1 108 j = 13 then -1 else 0) (h.1 66 70).toNat
def mm_O (h : mH) : Nat := mm_cn (fun j => if h.2.1 108 j = 13 then 0 else -1) (h.1 66 70).toNat
def mm_S (h : mH) (e fr : Int) : Prop := (∀ j, 0 ≤ j → j < h.1 66 70 → 4 ≤ h.2.1 108 j ∧ h.2.1 108 j ≤ 13) ∧ mm_cpre (mm_cd h) fr (h.1 66 69) (e + (mm_B h : Int))
def mm_pg (h h2 : mH) (c : Int) : Prop := h.1 66 69 ≤ h2.1 66 69 ∧ (∀ j, (j < h.1 66 69 ∨ h2.1 66 69 ≤ j) → h2.2.1 107 j = h.2.1 107 j) ∧ h2.1 66 69 + h2.1 66 70 + 2 * h.1 66 62 ≤ h.1 66 69 + h.1 66 70 + 2 * h2.1 66 62 + c ∧ h.1 66 62 ≤ h2.1 66 62 ∧ (h2.1 66 57 = 0 → h.1 66 57 = 0) ∧ h2.1 66 70 + h.1 66 62 ≤ h.1 66 70 + h2.1 66 62
def mm_pq (h h2 : mH) : Prop := mm_pg h h2 2 ∧ (h2.1 66 57 = 0 → mm_pg h h2 0)
def mm_tok (h : mH) : Prop := h.1 66 62 ≤ h.1 66 60 ∧ (h.1 66 61 = 0 ∨ h.1 66 62 < h.1 66 60)
theorem mm_pg_rf {h : mH} : mm_pg h h 0 := ⟨by omega, fun _ _ => rfl, by omega, by omega, id, by omega⟩
theorem mm_pq_rf {h : mH} : mm_pq h h := ⟨⟨by omega, fun _ _ => rfl, by omega, by omega, id, by omega⟩, fun _ => mm_pg_rf⟩
theorem mm_pg_tr {h h1 h2 : mH} {a b c : Int} (p : mm_pg h h1 a) (q : mm_pg h1 h2 b) (hc : a + b ≤ c) : mm_pg h h2 c := by
  obtain ⟨p1, p2, p3, p4, p5, p6⟩ := p
  obtain ⟨q1, q2, q3, q4, q5, q6⟩ := q
  refine ⟨by omega, fun j hj => ?_, by omega, by omega, fun z => p5 (q5 z), by omega⟩
  rw [q2 j (by omega), p2 j (by omega)]
theorem mm_pq_tr0 {h h1 h2 : mH} (p : mm_pq h h1) (q : mm_pg h1 h2 0) : mm_pq h h2 := ⟨mm_pg_tr p.1 q (by omega), fun z => mm_pg_tr (p.2 (q.2.2.2.2.1 z)) q (by omega)⟩
theorem mm_pq_tr {h h1 h2 : mH} (p : mm_pg h h1 0) (q : mm_pq h1 h2) : mm_pq h h2 := ⟨mm_pg_tr p q.1 (by omega), fun z => mm_pg_tr p (q.2 z) (by omega)⟩
/-- a stretch that writes no code -/
theorem mm_pg_of {h h2 : mH} {c : Int} (e107 : ∀ j, h2.2.1 107 j = h.2.1 107 j) (e69 : h2.1 66 69 = h.1 66 69) (e3 : h2.1 66 70 + 2 * h.1 66 62 ≤ h.1 66 70 + 2 * h2.1 66 62 + c) (e4 : h.1 66 62 ≤ h2.1 66 62) (e5 : h2.1 66 57 = 0 → h.1 66 57 = 0) (e6 : h2.1 66 70 + h.1 66 62 ≤ h.1 66 70 + h2.1 66 62) : mm_pg h h2 c := ⟨by omega, fun j _ => e107 j, by omega, e4, e5, e6⟩
theorem mm_cn_eq {A B : Int → Int} : ∀ n : Nat, (∀ j : Int, 0 ≤ j → j < n → A j = B j) → mm_cn A n = mm_cn B n
  | 0, _ => rfl
  | n + 1, h => by
    unfold mm_cn
    rw [mm_cn_eq n (fun j a b => h j a (by omega)), h (n : Int) (by omega) (by omega)]
theorem mm_B_le (h : mH) (i : mm_inv h) : (mm_B h : Int) ≤ h.1 66 70 := by
  have g : (0 : Int) ≤ h.1 66 70 ∧ h.1 66 70 ≤ 520 := i.1 66 70
  have := mm_cn_le (fun j => if h.2.1 108 j = 4 ∨ h.2.1 108 j = 13 then -1 else 0) (h.1 66 70).toNat
  unfold mm_B
  omega
theorem mm_B_fr {h h2 : mH} (e : h2.1 66 70 = h.1 66 70) (e2 : ∀ j, h2.2.1 108 j = h.2.1 108 j) : mm_B h2 = mm_B h := by
  unfold mm_B
  simp only [e, e2]
theorem mm_O_fr {h h2 : mH} (e : h2.1 66 70 = h.1 66 70) (e2 : ∀ j, h2.2.1 108 j = h.2.1 108 j) : mm_O h2 = mm_O h := by
  unfold mm_O
  simp only [e, e2]
/-- the last that waits, taken away -/
theorem mm_B_pop {h h2 : mH} (e : h2.1 66 70 = h.1 66 70 - 1) (hp : 0 < h.1 66 70) (e2 : ∀ j, h2.2.1 108 j = h.2.1 108 j) : mm_B h = mm_B h2 + (if h.2.1 108 (h.1 66 70 - 1) = 4 ∨ h.2.1 108 (h.1 66 70 - 1) = 13 then 0 else 1) := by
  unfold mm_B
  simp only [e2]
  have e3 : (h.1 66 70).toNat = (h2.1 66 70).toNat + 1 := by omega
  have e4 : (((h2.1 66 70).toNat : Nat) : Int) = h.1 66 70 - 1 := by omega
  rw [e3]
  show mm_cn _ _ + _ = _
  rw [e4]
  congr 1
  by_cases q : h.2.1 108 (h.1 66 70 - 1) = 4 ∨ h.2.1 108 (h.1 66 70 - 1) = 13
  · simp [q]
  · simp [q]
theorem mm_O_pop {h h2 : mH} (e : h2.1 66 70 = h.1 66 70 - 1) (hp : 0 < h.1 66 70) (e2 : ∀ j, h2.2.1 108 j = h.2.1 108 j) : mm_O h = mm_O h2 + (if h.2.1 108 (h.1 66 70 - 1) = 13 then 1 else 0) := by
  unfold mm_O
  simp only [e2]
  have e3 : (h.1 66 70).toNat = (h2.1 66 70).toNat + 1 := by omega
  have e4 : (((h2.1 66 70).toNat : Nat) : Int) = h.1 66 70 - 1 := by omega
  rw [e3]
  show mm_cn _ _ + _ = _
  rw [e4]
  congr 1
  by_cases q : h.2.1 108 (h.1 66 70 - 1) = 13
  · simp [q]
  · simp [q]
/-- one more waits -/
theorem mm_B_push {h h2 : mH} {v : Int} (i : mm_inv h) (e : h2.1 66 70 = h.1 66 70 + 1) (e2 : ∀ j, h2.2.1 108 j = if j = h.1 66 70 then v else h.2.1 108 j) : mm_B h2 = mm_B h + (if v = 4 ∨ v = 13 then 0 else 1) := by
  have g : (0 : Int) ≤ h.1 66 70 ∧ h.1 66 70 ≤ 520 := i.1 66 70
  unfold mm_B
  have e3 : (h2.1 66 70).toNat = (h.1 66 70).toNat + 1 := by omega
  have e4 : (((h.1 66 70).toNat : Nat) : Int) = h.1 66 70 := by omega
  rw [e3]
  show mm_cn _ _ + _ = _
  rw [e4, mm_cn_eq _ (B := fun j => if h.2.1 108 j = 4 ∨ h.2.1 108 j = 13 then -1 else 0) (fun j a b => by
    show (if h2.2.1 108 j = 4 ∨ h2.2.1 108 j = 13 then (-1 : Int) else 0) = _
    rw [e2, if_neg (show ¬ j = h.1 66 70 by omega)])]
  congr 1
  show (if (if h2.2.1 108 (h.1 66 70) = 4 ∨ h2.2.1 108 (h.1 66 70) = 13 then (-1 : Int) else 0) = -1 then 0 else 1) = _
  rw [e2, if_pos rfl]
  by_cases q : v = 4 ∨ v = 13
  · simp [q]
  · simp [q]
theorem mm_O_push {h h2 : mH} {v : Int} (i : mm_inv h) (e : h2.1 66 70 = h.1 66 70 + 1) (e2 : ∀ j, h2.2.1 108 j = if j = h.1 66 70 then v else h.2.1 108 j) : mm_O h2 = mm_O h + (if v = 13 then 1 else 0) := by
  have g : (0 : Int) ≤ h.1 66 70 ∧ h.1 66 70 ≤ 520 := i.1 66 70
  unfold mm_O
  have e3 : (h2.1 66 70).toNat = (h.1 66 70).toNat + 1 := by omega
  have e4 : (((h.1 66 70).toNat : Nat) : Int) = h.1 66 70 := by omega
  rw [e3]
  show mm_cn _ _ + _ = _
  rw [e4, mm_cn_eq _ (B := fun j => if h.2.1 108 j = 13 then 0 else -1) (fun j a b => by
    show (if h2.2.1 108 j = 13 then (0 : Int) else -1) = _
    rw [e2, if_neg (show ¬ j = h.1 66 70 by omega)])]
  congr 1
  show (if (if h2.2.1 108 (h.1 66 70) = 13 then (0 : Int) else -1) = -1 then 0 else 1) = _
  rw [e2, if_pos rfl]
  by_cases q : v = 13
  · simp [q]
  · simp [q]
/-! code laid on -/
theorem mm_cpre_nil {c : Int → Int} {t : Int} : mm_cpre c t t 0 := ⟨by omega, fun c' _ f hf => ⟨f, hf⟩⟩
theorem mm_cpre_no {c c2 : Int → Int} {fr tp m : Int} (H : mm_cpre c fr tp m) (ht : 0 ≤ tp ∧ tp ≤ 2399) (hm : 1 ≤ m ∧ m ≤ 520) (h2 : ∀ j, c2 j = if j = tp then 4 else c j) : mm_cpre c2 fr (tp + 1) m := by
  refine ⟨by have := H.1; omega, fun c' hc f hf => H.2 c' (fun j a b => ?_) (f + 1) ?_⟩
  · rw [hc j a (by omega), h2, if_neg (by omega)]
  · have e : c' tp = 4 := by rw [hc tp H.1 (by omega), h2, if_pos rfl]
    exact ⟨⟨ht.1, ht.2, by omega, hm.2⟩, Or.inr (Or.inr (Or.inl ⟨e, hm.1, hf⟩))⟩
theorem mm_cpre_bin {c c2 : Int → Int} {fr tp m v : Int} (H : mm_cpre c fr tp m) (ht : 0 ≤ tp ∧ tp ≤ 2399) (hm : 2 ≤ m ∧ m ≤ 520) (hv : 4 < v) (h2 : ∀ j, c2 j = if j = tp then v else c j) : mm_cpre c2 fr (tp + 1) (m - 1) := by
  refine ⟨by have := H.1; omega, fun c' hc f hf => H.2 c' (fun j a b => ?_) (f + 1) ?_⟩
  · rw [hc j a (by omega), h2, if_neg (by omega)]
  · have e : c' tp = v := by rw [hc tp H.1 (by omega), h2, if_pos rfl]
    exact ⟨⟨ht.1, ht.2, by omega, hm.2⟩, Or.inr (Or.inr (Or.inr ⟨Or.inr (by omega), hm.1, hf⟩))⟩
theorem mm_cpre_push {c c2 : Int → Int} {fr tp m v w : Int} (H : mm_cpre c fr tp m) (ht : 0 ≤ tp ∧ tp ≤ 2398) (hm : 0 ≤ m ∧ m ≤ 519) (hv : 1 ≤ v ∧ v ≤ 3) (hw : (v = 2 → 0 ≤ w ∧ w ≤ 6) ∧ (v = 3 → 0 ≤ w ∧ w ≤ 2)) (h2 : ∀ j, c2 j = if j = tp + 1 then w else if j = tp then v else c j) : mm_cpre c2 fr (tp + 2) (m + 1) := by
  refine ⟨by have := H.1; omega, fun c' hc f hf => H.2 c' (fun j a b => ?_) (f + 1) ?_⟩
  · rw [hc j a (by omega), h2, if_neg (by omega), if_neg (by omega)]
  · have h1 := H.1
    have e : c' tp = v := by rw [hc tp H.1 (by omega), h2, if_neg (by omega), if_pos rfl]
    have e1 : c' (tp + 1) = w := by rw [hc (tp + 1) (by omega) (by omega), h2, if_pos rfl]
    refine ⟨⟨ht.1, by omega, by omega, by omega⟩, Or.inr (Or.inl ⟨by omega, hm.2, ht.2, ?_, ?_, hf⟩)⟩
    · rw [e, e1]; exact hw.1
    · rw [e, e1]; exact hw.2
theorem mm_cpre_stop {c c2 : Int → Int} {fr tp m : Int} (H : mm_cpre c fr tp m) (ht : 0 ≤ tp ∧ tp ≤ 2399) (hm : 0 ≤ m ∧ m ≤ 520) (h2 : ∀ j, c2 j = if j = tp then 0 else c j) : mm_gd c2 fr fr (tp + 1) := by
  refine ⟨Int.le_refl _, fun c' hc => H.2 c' (fun j a b => ?_) 1 ?_⟩
  · rw [hc j a (by omega), h2, if_neg (by omega)]
  · have e : c' tp = 0 := by rw [hc tp H.1 (by omega), h2, if_pos rfl]
    exact ⟨⟨ht.1, ht.2, hm.1, hm.2⟩, Or.inl e⟩
/-! the state between two tokens -/
theorem mm_S_fr {h h2 : mH} {e fr : Int} (H : mm_S h e fr) (e70 : h2.1 66 70 = h.1 66 70) (e69 : h2.1 66 69 = h.1 66 69) (e7 : ∀ j, h2.2.1 107 j = h.2.1 107 j) (e8 : ∀ j, h2.2.1 108 j = h.2.1 108 j) : mm_S h2 e fr := by
  unfold mm_S mm_cd at *
  rw [mm_B_fr e70 e8]
  simp only [e70, e69, e7, e8]
  exact H
theorem mm_S_push {h h2 : mH} {e e2 fr v : Int} (i : mm_inv h) (H : mm_S h e fr) (e70 : h2.1 66 70 = h.1 66 70 + 1) (e8 : ∀ j, h2.2.1 108 j = if j = h.1 66 70 then v else h.2.1 108 j) (e69 : h2.1 66 69 = h.1 66 69) (e7 : ∀ j, h2.2.1 107 j = h.2.1 107 j) (hv : ((v = 4 ∨ v = 13) ∧ e2 = e) ∨ ((5 ≤ v ∧ v ≤ 12) ∧ e2 + 1 = e)) : mm_S h2 e2 fr := by
  have hB := mm_B_push i e70 e8
  have g : (0 : Int) ≤ h.1 66 70 ∧ h.1 66 70 ≤ 520 := i.1 66 70
  refine ⟨fun j a b => ?_, ?_⟩
  · rw [e8]
    by_cases q : j = h.1 66 70
    · rw [if_pos q]; omega
    · rw [if_neg q]; exact H.1 j a (by omega)
  · have e9 : mm_cd h2 = mm_cd h := funext e7
    rw [e9, e69]
    have : e2 + (mm_B h2 : Int) = e + (mm_B h : Int) := by
      rcases hv with ⟨q, w⟩ | ⟨q, w⟩
      · rw [hB, if_pos q]; omega
      · rw [hB, if_neg (by omega)]; omega
    rw [this]
    exact H.2
def mm_dr (h h2 : mH) : Prop := mm_pg h h2 0 ∧ h2.1 66 69 + h2.1 66 70 = h.1 66 69 + h.1 66 70 ∧ mm_O h2 = mm_O h ∧ (∀ fr, mm_S h 1 fr → mm_S h2 1 fr) ∧ 0 ≤ h2.1 66 70
theorem mm_dr_rf {h : mH} (i : mm_inv h) : mm_dr h h := ⟨mm_pg_rf, rfl, rfl, fun _ q => q, (i.1 66 70).1⟩
theorem mm_dr_pop {h h1 h2 : mH} (D : mm_dr h h1) (i : mm_inv h1) (hp : 0 < h1.1 66 70) (hn : h1.2.1 108 (h1.1 66 70 - 1) ≠ 13) (e70 : h2.1 66 70 = h1.1 66 70 - 1) (e69 : h2.1 66 69 = h1.1 66 69 + 1) (e7 : ∀ j, h2.2.1 107 j = if j = h1.1 66 69 then h1.2.1 108 (h1.1 66 70 - 1) else h1.2.1 107 j) (e8 : ∀ j, h2.2.1 108 j = h1.2.1 108 j) (e62 : h2.1 66 62 = h1.1 66 62) (e57 : h2.1 66 57 = h1.1 66 57) (ht : h1.1 66 69 ≤ 2399) (hw5 : h1.1 66 70 ≤ 519) : mm_dr h h2 := by
  have hB := mm_B_pop e70 hp e8
  have hO := mm_O_pop e70 hp e8
  have hBl := mm_B_le h1 i
  have g : (0 : Int) ≤ h1.1 66 70 ∧ h1.1 66 70 ≤ 520 := i.1 66 70
  have g2 : (0 : Int) ≤ h1.1 66 69 ∧ h1.1 66 69 ≤ 2400 := i.1 66 69
  refine ⟨mm_pg_tr D.1 (b := 0) ⟨by omega, fun j hj => by rw [e7, if_neg (by omega)], by omega, by omega, fun z => by omega, by omega⟩ (by omega), by have := D.2.1; omega, ?_, fun fr q => ?_, by omega⟩
  · rw [← D.2.2.1, hO, if_neg hn]; omega
  · have S1 := D.2.2.2.1 fr q
    have hw := S1.1 (h1.1 66 70 - 1) (by omega) (by omega)
    refine ⟨fun j a b => by rw [e8]; exact S1.1 j a (by omega), ?_⟩
    rw [e69]
    by_cases q4 : h1.2.1 108 (h1.1 66 70 - 1) = 4
    · rw [if_pos (Or.inl q4)] at hB
      have := mm_cpre_no S1.2 ⟨g2.1, ht⟩ (c2 := mm_cd h2) ⟨by omega, by omega⟩ (fun j => by show h2.2.1 107 j = _; rw [e7, q4])
      rw [hB] at this
      exact this
    · rw [if_neg (by omega)] at hB
      have := mm_cpre_bin S1.2 ⟨g2.1, ht⟩ (c2 := mm_cd h2) (v := h1.2.1 108 (h1.1 66 70 - 1)) ⟨by omega, by omega⟩ (by omega) (fun j => e7 j)
      rw [show (1 : Int) + (mm_B h2 : Int) = 1 + (mm_B h1 : Int) - 1 by omega]
      exact this
def mm_sm (h h2 : mH) : Prop := h2.1 66 69 = h.1 66 69 ∧ h2.1 66 70 = h.1 66 70 ∧ h2.1 66 62 = h.1 66 62 ∧ h2.1 66 60 = h.1 66 60 ∧ h2.1 66 61 = h.1 66 61 ∧ h2.1 66 71 = h.1 66 71 ∧ (∀ j, h2.2.1 107 j = h.2.1 107 j) ∧ (∀ j, h2.2.1 108 j = h.2.1 108 j)
theorem mm_sm_rf {h : mH} : mm_sm h h := ⟨rfl, rfl, rfl, rfl, rfl, rfl, fun _ => rfl, fun _ => rfl⟩
theorem mm_sm_fr {wf : List (Nat × Nat)} {wa : List Nat} {h h' : mH} (f : mm_fr wf wa h h') (hw : ((66, 69) ∉ wf ∧ (66, 70) ∉ wf ∧ (66, 62) ∉ wf ∧ (66, 60) ∉ wf ∧ (66, 61) ∉ wf ∧ (66, 71) ∉ wf) ∧ 107 ∉ wa ∧ 108 ∉ wa) : mm_sm h h' :=
  ⟨f.1 66 69 hw.1.1, f.1 66 70 hw.1.2.1, f.1 66 62 hw.1.2.2.1, f.1 66 60 hw.1.2.2.2.1, f.1 66 61 hw.1.2.2.2.2.1, f.1 66 71 hw.1.2.2.2.2.2, fun j => f.2 107 hw.2.1 j, fun j => f.2 108 hw.2.2 j⟩
theorem mm_S_part {h h2 : mH} {fr v w : Int} (i : mm_inv h) (H : mm_S h 0 fr) (e70 : h2.1 66 70 = h.1 66 70) (e8 : ∀ j, h2.2.1 108 j = h.2.1 108 j) (e69 : h2.1 66 69 = h.1 66 69 + 2) (e7 : ∀ j, h2.2.1 107 j = if j = h.1 66 69 + 1 then w else if j = h.1 66 69 then v else h.2.1 107 j) (hv : 1 ≤ v ∧ v ≤ 3) (hw : (v = 2 → 0 ≤ w ∧ w ≤ 6) ∧ (v = 3 → 0 ≤ w ∧ w ≤ 2)) (ht : h.1 66 69 ≤ 2397) (hB : h.1 66 70 ≤ 519) : mm_S h2 1 fr := by
  have hBl := mm_B_le h i
  have g2 : (0 : Int) ≤ h.1 66 69 ∧ h.1 66 69 ≤ 2400 := i.1 66 69
  refine ⟨fun j a b => by rw [e8]; exact H.1 j a (by omega), ?_⟩
  have := mm_cpre_push H.2 (c2 := mm_cd h2) (v := v) (w := w) ⟨g2.1, by omega⟩ ⟨by omega, by omega⟩ hv hw e7
  rw [e69, mm_B_fr e70 e8, show (1 : Int) + (mm_B h : Int) = 0 + (mm_B h : Int) + 1 by omega]
  exact this
def mm_p1 (h h2 : mH) : Prop := (h2.1 66 62 = h.1 66 62 ∧ h2.1 66 60 = h.1 66 60 ∧ h2.1 66 61 = h.1 66 61 ∧ h2.1 66 70 = h.1 66 70) ∧ (h.1 66 69 ≤ h2.1 66 69 ∧ h2.1 66 69 ≤ h.1 66 69 + 2) ∧ (∀ j, (j < h.1 66 69 ∨ h2.1 66 69 ≤ j) → h2.2.1 107 j = h.2.1 107 j) ∧ (h2.1 66 57 = 0 → h.1 66 61 ≠ 0 ∧ ∀ fr, mm_S h 0 fr → mm_S h2 1 fr)
theorem mm_p1_bad {h h2 : mH} (s : mm_sm h h2) (hf : h2.1 66 57 ≠ 0) : mm_p1 h h2 := by
  obtain ⟨s1, s2, s3, s4, s5, s6, s7, s8⟩ := s
  exact ⟨⟨s3, s4, s5, s2⟩, ⟨by omega, by omega⟩, fun j _ => s7 j, fun z => absurd z hf⟩
theorem mm_p1_of {h h1 h2 h3 : mH} {v w : Int} (i : mm_inv h) (s : mm_sm h h1) (a69 : h2.1 66 69 = h1.1 66 69 + 1) (a7 : ∀ j, h2.2.1 107 j = if j = h1.1 66 69 then v else h1.2.1 107 j) (fa : mm_fr [(66, 69)] [107] h1 h2) (b69 : h3.1 66 69 = h2.1 66 69 + 1) (b7 : ∀ j, h3.2.1 107 j = if j = h2.1 66 69 then w else h2.2.1 107 j) (fb : mm_fr [(66, 69)] [107] h2 h3) (hs : h.1 66 61 ≠ 0) (hv : 1 ≤ v ∧ v ≤ 3) (hw : h1.1 66 57 = 0 → (v = 2 → 0 ≤ w ∧ w ≤ 6) ∧ (v = 3 → 0 ≤ w ∧ w ≤ 2)) (ht : h.1 66 69 ≤ 2397) (hB : h.1 66 70 ≤ 519) : mm_p1 h h3 := by
  obtain ⟨s1, s2, s3, s4, s5, s6, s7, s8⟩ := s
  have f1 : ∀ k, k ≠ 69 → h3.1 66 k = h1.1 66 k := fun k hk => by
    have hn : (66, k) ∉ [((66 : Nat), (69 : Nat))] := by simp [hk]
    rw [fb.1 66 k hn, fa.1 66 k hn]
  have f8 : ∀ j, h3.2.1 108 j = h.2.1 108 j := fun j => by rw [fb.2 108 (by decide) j, fa.2 108 (by decide) j, s8]
  have e7 : ∀ j, h3.2.1 107 j = if j = h.1 66 69 + 1 then w else if j = h.1 66 69 then v else h.2.1 107 j := by
    intro j
    rw [b7, a7, s7, a69, s1]
  refine ⟨⟨by rw [f1 62 (by decide), s3], by rw [f1 60 (by decide), s4], by rw [f1 61 (by decide), s5], by rw [f1 70 (by decide), s2]⟩, ⟨by omega, by omega⟩, fun j hj => ?_, fun z => ⟨hs, fun fr H => ?_⟩⟩
  · rw [e7, if_neg (by omega), if_neg (by omega)]
  · rw [f1 57 (by decide)] at z
    exact mm_S_part i H (by rw [f1 70 (by decide), s2]) f8 (by omega) e7 hv (hw z) ht hB
def mm_pt (h h2 : mH) : Prop := mm_pq h h2 ∧ mm_tok h2 ∧ (h2.1 66 57 = 0 → h.1 66 62 + 1 ≤ h2.1 66 62) ∧ (∀ fr, mm_S h 0 fr → h2.1 66 57 = 0 → mm_S h2 1 fr)
theorem mm_pt_rf {h : mH} (hf : h.1 66 57 ≠ 0) (t : mm_tok h) : mm_pt h h := ⟨mm_pq_rf, t, fun z => absurd z hf, fun _ _ z => absurd z hf⟩
theorem mm_pt_no {h h2 : mH} (P : mm_p1 h h2) (hf : h2.1 66 57 ≠ 0) (t : mm_tok h) : mm_pt h h2 := by
  obtain ⟨⟨p1, p2, p3, p4⟩, p5, p6, p7⟩ := P
  refine ⟨⟨⟨by omega, p6, by omega, by omega, fun z => absurd z hf, by omega⟩, fun z => absurd z hf⟩, ?_, fun z => absurd z hf, fun _ _ z => absurd z hf⟩
  unfold mm_tok at *
  omega
theorem mm_pt_go {h h1 h2 : mH} (P : mm_p1 h h1) (h0 : h.1 66 57 = 0) (hf : h1.1 66 57 = 0) (t : mm_tok h) (g : mm_fr [(66, 60), (66, 61), (66, 62), (66, 63), (66, 64), (66, 65), (66, 66)] [] h1 h2) (y0 : h1.1 66 60 ≤ h2.1 66 62) (y1 : h2.1 66 62 ≤ h2.1 66 60) (y2 : h2.1 66 61 = 0 ∨ h2.1 66 62 < h2.1 66 60) : mm_pt h h2 := by
  obtain ⟨⟨p1, p2, p3, p4⟩, p5, p6, p7⟩ := P
  have q7 := p7 hf
  have e69 := g.1 66 69 (by decide)
  have e70 := g.1 66 70 (by decide)
  have e57 := g.1 66 57 (by decide)
  unfold mm_tok at t
  have hpg : mm_pg h h2 0 := ⟨by omega, fun j hj => by rw [g.2 107 (by decide) j, p6 j (by omega)], by omega, by omega, fun _ => h0, by omega⟩
  exact ⟨⟨mm_pg_tr mm_pg_rf hpg (by omega), fun _ => hpg⟩, ⟨y1, y2⟩, fun _ => by omega, fun fr H _ => mm_S_fr (q7.2 fr H) e70 e69 (fun j => g.2 107 (by decide) j) (fun j => g.2 108 (by decide) j)⟩
/-! operands -/
def mm_o1 (h h2 : mH) : Prop := mm_pg h h2 0 ∧ mm_tok h2 ∧ (∀ fr, mm_S h 0 fr → mm_S h2 0 fr) ∧ (h2.1 66 57 = 0 → (mm_O h2 : Int) + 1 = h2.1 66 71)
theorem mm_o1_rf {h : mH} (t : mm_tok h) (o : h.1 66 57 = 0 → (mm_O h : Int) + 1 = h.1 66 71) : mm_o1 h h := ⟨mm_pg_rf, t, fun _ q => q, o⟩
theorem mm_o1_sm {h h1 h2 : mH} (H : mm_o1 h h1) (s : mm_sm h1 h2) (hf : h2.1 66 57 = 0 → h1.1 66 57 = 0) : mm_o1 h h2 := by
  obtain ⟨s1, s2, s3, s4, s5, s6, s7, s8⟩ := s
  refine ⟨mm_pg_tr H.1 (b := 0) (mm_pg_of s7 s1 (by omega) (by omega) hf (by omega)) (by omega), ?_, fun fr q => mm_S_fr (H.2.2.1 fr q) s2 s1 s7 s8, fun z => ?_⟩
  · have := H.2.1
    unfold mm_tok at *
    omega
  · rw [mm_O_fr s2 s8, s6]; exact H.2.2.2 (hf z)
abbrev mm_gf : List (Nat × Nat) := [(66, 60), (66, 61), (66, 62), (66, 63), (66, 64), (66, 65), (66, 66)]
/-- something waits, then the next token -/
theorem mm_wait {h h1 h2 : mH} {v : Int} (i : mm_inv h) (t : mm_tok h) (hs : h.1 66 61 ≠ 0) (a70 : h1.1 66 70 = h.1 66 70 + 1) (a8 : ∀ j, h1.2.1 108 j = if j = h.1 66 70 then v else h.2.1 108 j) (fa : mm_fr [(66, 70)] [108] h h1) (g : mm_fr [(66, 60), (66, 61), (66, 62), (66, 63), (66, 64), (66, 65), (66, 66)] [] h1 h2) (y0 : h1.1 66 60 ≤ h2.1 66 62) (y1 : h2.1 66 62 ≤ h2.1 66 60) (y2 : h2.1 66 61 = 0 ∨ h2.1 66 62 < h2.1 66 60) : mm_pg h h2 0 ∧ mm_tok h2 ∧ h.1 66 62 + 1 ≤ h2.1 66 62 ∧ mm_O h2 = mm_O h + (if v = 13 then 1 else 0) ∧ h2.1 66 57 = h.1 66 57 ∧ h2.1 66 71 = h.1 66 71 ∧ h2.1 66 70 = h.1 66 70 + 1 ∧ (∀ j, h2.2.1 108 j = if j = h.1 66 70 then v else h.2.1 108 j) ∧ h2.1 66 69 = h.1 66 69 ∧ (∀ j, h2.2.1 107 j = h.2.1 107 j) := by
  have e69 := (g.1 66 69 (by decide)).trans (fa.1 66 69 (by decide))
  have e70 := g.1 66 70 (by decide)
  have e57 := (g.1 66 57 (by decide)).trans (fa.1 66 57 (by decide))
  have e71 := (g.1 66 71 (by decide)).trans (fa.1 66 71 (by decide))
  have e60 := fa.1 66 60 (by decide)
  have e7 : ∀ j, h2.2.1 107 j = h.2.1 107 j := fun j => (g.2 107 (by decide) j).trans (fa.2 107 (by decide) j)
  have e8 : ∀ j, h2.2.1 108 j = if j = h.1 66 70 then v else h.2.1 108 j := fun j => (g.2 108 (by decide) j).trans (a8 j)
  unfold mm_tok at t
  refine ⟨mm_pg_of e7 e69 (by omega) (by omega) (fun z => by omega) (by omega), ⟨y1, y2⟩, by omega, mm_O_push i (by omega) e8, e57, e71, by omega, e8, e69, e7⟩
theorem mm_o1_not {h h1 h2 h3 : mH} (H : mm_o1 h h1) (i : mm_inv h1) (hs : h1.1 66 61 ≠ 0) (a70 : h2.1 66 70 = h1.1 66 70 + 1) (a8 : ∀ j, h2.2.1 108 j = if j = h1.1 66 70 then 4 else h1.2.1 108 j) (fa : mm_fr [(66, 70)] [108] h1 h2) (g : mm_fr [(66, 60), (66, 61), (66, 62), (66, 63), (66, 64), (66, 65), (66, 66)] [] h2 h3) (y0 : h2.1 66 60 ≤ h3.1 66 62) (y1 : h3.1 66 62 ≤ h3.1 66 60) (y2 : h3.1 66 61 = 0 ∨ h3.1 66 62 < h3.1 66 60) : mm_o1 h h3 ∧ h1.1 66 62 + 1 ≤ h3.1 66 62 := by
  obtain ⟨w1, w2, w3, w4, w5, w6, w7, w8, w9, w10⟩ := mm_wait i H.2.1 hs a70 a8 fa g y0 y1 y2
  refine ⟨⟨mm_pg_tr H.1 w1 (by omega), w2, fun fr q => mm_S_push i (H.2.2.1 fr q) w7 w8 w9 w10 (Or.inl ⟨Or.inl rfl, rfl⟩), fun z => ?_⟩, w3⟩
  rw [w4, w6, if_neg (by decide)]
  have := H.2.2.2 (by omega)
  omega
theorem mm_o1_open {h h1 h2 h3 h4 : mH} (H : mm_o1 h h1) (i : mm_inv h1) (hs : h1.1 66 61 ≠ 0) (a70 : h2.1 66 70 = h1.1 66 70 + 1) (a8 : ∀ j, h2.2.1 108 j = if j = h1.1 66 70 then 13 else h1.2.1 108 j) (fa : mm_fr [(66, 70)] [108] h1 h2) (g : mm_fr [(66, 60), (66, 61), (66, 62), (66, 63), (66, 64), (66, 65), (66, 66)] [] h2 h3) (y0 : h2.1 66 60 ≤ h3.1 66 62) (y1 : h3.1 66 62 ≤ h3.1 66 60) (y2 : h3.1 66 61 = 0 ∨ h3.1 66 62 < h3.1 66 60) (b : mm_fr [(66, 57), (66, 58), (66, 71)] [109] h3 h4) (yb : h4.1 66 57 = 0 → h3.1 66 57 = 0 ∧ h4.1 66 71 = h3.1 66 71 + 1) : mm_o1 h h4 ∧ h1.1 66 62 + 1 ≤ h4.1 66 62 := by
  obtain ⟨w1, w2, w3, w4, w5, w6, w7, w8, w9, w10⟩ := mm_wait i H.2.1 hs a70 a8 fa g y0 y1 y2
  have e69 := b.1 66 69 (by decide)
  have e70 := b.1 66 70 (by decide)
  have e62 := b.1 66 62 (by decide)
  have e60 := b.1 66 60 (by decide)
  have e61 := b.1 66 61 (by decide)
  have e7 : ∀ j, h4.2.1 107 j = h3.2.1 107 j := fun j => b.2 107 (by decide) j
  have e8 : ∀ j, h4.2.1 108 j = h3.2.1 108 j := fun j => b.2 108 (by decide) j
  refine ⟨⟨mm_pg_tr (mm_pg_tr H.1 w1 (c := 0) (by omega)) (b := 0) (mm_pg_of e7 e69 (by omega) (by omega) (fun z => (yb z).1) (by omega)) (by omega), ?_, fun fr q => mm_S_fr (mm_S_push i (H.2.2.1 fr q) w7 w8 w9 w10 (Or.inl ⟨Or.inr rfl, rfl⟩)) e70 e69 e7 e8, fun z => ?_⟩, by omega⟩
  · unfold mm_tok at *
    omega
  · have hz := yb z
    rw [mm_O_fr e70 e8, w4, if_pos rfl]
    have := H.2.2.2 (by omega)
    omega
def mm_op (h h2 : mH) : Prop := mm_pq h h2 ∧ mm_tok h2 ∧ (h2.1 66 57 = 0 → h.1 66 62 + 1 ≤ h2.1 66 62 ∧ (mm_O h2 : Int) + 1 = h2.1 66 71) ∧ (∀ fr, mm_S h 0 fr → h2.1 66 57 = 0 → mm_S h2 1 fr)
theorem mm_op_of {h h1 h2 : mH} (H : mm_o1 h h1) (P : mm_pt h1 h2) (e70 : h2.1 66 70 = h1.1 66 70) (e71 : h2.1 66 71 = h1.1 66 71) (e8 : ∀ j, h2.2.1 108 j = h1.2.1 108 j) : mm_op h h2 := by
  refine ⟨mm_pq_tr H.1 P.1, P.2.1, fun z => ⟨?_, ?_⟩, fun fr q z => P.2.2.2 fr (H.2.2.1 fr q) z⟩
  · have := P.2.2.1 z
    have := H.1.2.2.2.1
    omega
  · rw [mm_O_fr e70 e8, e71]
    exact H.2.2.2 (P.1.1.2.2.2.2.1 z)
/-! expressions -/
def mm_e1 (h1 : mH) (t p : Int) (h2 : mH) : Prop := mm_pq h1 h2 ∧ mm_tok h2 ∧ (h2.1 66 57 = 0 → mm_S h2 1 t ∧ (mm_O h2 : Int) + 1 = h2.1 66 71 ∧ p + 1 ≤ h2.1 66 62)
/-- an operator: what is stronger goes, it waits, the next token -/
theorem mm_e_op {h1 h2 h3 h4 h5 h6 : mH} {t p v : Int} (H : mm_e1 h1 t p h2) (i3 : mm_inv h3) (hf : h2.1 66 57 = 0) (hs : h2.1 66 61 ≠ 0) (D : mm_dr h2 h3) (fd : mm_fr [(66, 69), (66, 70)] [107] h2 h3) (hv : 5 ≤ v ∧ v ≤ 12) (a70 : h4.1 66 70 = h3.1 66 70 + 1) (a8 : ∀ j, h4.2.1 108 j = if j = h3.1 66 70 then v else h3.2.1 108 j) (fa : mm_fr [(66, 70)] [108] h3 h4) (h45 : h5.1 = h4.1 ∧ ∀ o, o ≠ 109 → h5.2.1 o = h4.2.1 o) (g : mm_fr [(66, 60), (66, 61), (66, 62), (66, 63), (66, 64), (66, 65), (66, 66)] [] h5 h6) (y0 : h5.1 66 60 ≤ h6.1 66 62) (y1 : h6.1 66 62 ≤ h6.1 66 60) (y2 : h6.1 66 61 = 0 ∨ h6.1 66 62 < h6.1 66 60) : mm_pg h1 h6 0 ∧ mm_tok h6 ∧ mm_S h6 0 t ∧ (mm_O h6 : Int) + 1 = h6.1 66 71 ∧ h2.1 66 62 + 1 ≤ h6.1 66 62 ∧ h6.1 66 57 = 0 := by
  have t3 : mm_tok h3 := by
    have := H.2.1
    unfold mm_tok at *
    rw [fd.1 66 62 (by decide), fd.1 66 60 (by decide), fd.1 66 61 (by decide)]
    exact this
  have fa' : mm_fr [(66, 70)] [108, 109] h3 h5 := ⟨fun o k hn => by rw [h45.1]; exact fa.1 o k hn, fun o hn j => by rw [h45.2 o (fun z => hn (by rw [z]; decide))]; exact fa.2 o (fun z => hn (by simp at z; rw [z]; decide)) j⟩
  have a70' : h5.1 66 70 = h3.1 66 70 + 1 := by rw [h45.1]; exact a70
  have a8' : ∀ j, h5.2.1 108 j = if j = h3.1 66 70 then v else h3.2.1 108 j := fun j => by rw [h45.2 108 (by decide)]; exact a8 j
  have e69 := (g.1 66 69 (by decide)).trans (fa'.1 66 69 (by decide))
  have e70 := g.1 66 70 (by decide)
  have e57 := (g.1 66 57 (by decide)).trans (fa'.1 66 57 (by decide))
  have e71 := (g.1 66 71 (by decide)).trans (fa'.1 66 71 (by decide))
  have e60 := fa'.1 66 60 (by decide)
  have e62 := fa'.1 66 62 (by decide)
  have d57 := fd.1 66 57 (by decide)
  have d61 := fd.1 66 61 (by decide)
  have d62 := fd.1 66 62 (by decide)
  have d71 := fd.1 66 71 (by decide)
  have e7 : ∀ j, h6.2.1 107 j = h3.2.1 107 j := fun j => (g.2 107 (by decide) j).trans (fa'.2 107 (by decide) j)
  have e8 : ∀ j, h6.2.1 108 j = if j = h3.1 66 70 then v else h3.2.1 108 j := fun j => (g.2 108 (by decide) j).trans (a8' j)
  unfold mm_tok at t3
  have hq := H.2.2 hf
  refine ⟨mm_pg_tr (mm_pg_tr (H.1.2 hf) D.1 (c := 0) (by omega)) (b := 0) (mm_pg_of e7 e69 (by omega) (by omega) (fun z => by omega) (by omega)) (by omega), ⟨y1, y2⟩, mm_S_push i3 (D.2.2.2.1 t hq.1) (by omega) e8 e69 e7 (Or.inr ⟨hv, by omega⟩), ?_, by omega, by omega⟩
  rw [mm_O_push i3 (by omega) e8, if_neg (by omega), D.2.2.1, e71, d71]
  have := hq.2.1
  omega
theorem mm_e_put {h1 h2 h6 h7 : mH} {t p : Int} (E : mm_pg h1 h6 0 ∧ mm_tok h6 ∧ mm_S h6 0 t ∧ (mm_O h6 : Int) + 1 = h6.1 66 71 ∧ h2.1 66 62 + 1 ≤ h6.1 66 62 ∧ h6.1 66 57 = 0) (P : mm_op h6 h7) (hp : p ≤ h2.1 66 62) : mm_e1 h1 t p h7 ∧ h2.1 66 62 + 1 ≤ h7.1 66 62 := by
  have := P.1.1.2.2.2.1
  refine ⟨⟨mm_pq_tr E.1 P.1, P.2.1, fun z => ⟨P.2.2.2 t E.2.2.1 z, (P.2.2.1 z).2, ?_⟩⟩, by omega⟩
  have := (P.2.2.1 z).1
  omega
theorem mm_e_close {h1 h2 h3 : mH} {t p : Int} (H : mm_e1 h1 t p h2) (i2 : mm_inv h2) (i3 : mm_inv h3) (hf : h2.1 66 57 = 0) (hs : h2.1 66 61 ≠ 0) (hd : 1 < h2.1 66 71) (D : mm_dr h2 h3) (fd : mm_fr [(66, 69), (66, 70)] [107] h2 h3) (hw : h3.1 66 70 = 0 ∨ h3.2.1 108 (h3.1 66 70 - 1) = 13) : 0 < h3.1 66 70 := by
  have hq := (H.2.2 hf).2.1
  rcases hw with z | z
  · exfalso
    have : mm_O h3 = 0 := by unfold mm_O; rw [z]; rfl
    rw [D.2.2.1] at this
    omega
  · have := D.2.2.2.2
    by_cases q : h3.1 66 70 = 0
    · exfalso
      have : mm_O h3 = 0 := by unfold mm_O; rw [q]; rfl
      rw [D.2.2.1] at this
      omega
    · omega
theorem mm_e_shut {h1 h2 h3 h4 h5 h6 : mH} {t p : Int} (H : mm_e1 h1 t p h2) (i3 : mm_inv h3) (hf : h2.1 66 57 = 0) (hs : h2.1 66 61 ≠ 0) (D : mm_dr h2 h3) (fd : mm_fr [(66, 69), (66, 70)] [107] h2 h3) (hw : h3.1 66 70 = 0 ∨ h3.2.1 108 (h3.1 66 70 - 1) = 13) (hp : 0 < h3.1 66 70) (a4 : h4 = mm_pf h3 66 70 (h3.1 66 70 - 1)) (a5 : h5 = mm_pf h4 66 71 (h4.1 66 71 - 1)) (g : mm_fr [(66, 60), (66, 61), (66, 62), (66, 63), (66, 64), (66, 65), (66, 66)] [] h5 h6) (y0 : h5.1 66 60 ≤ h6.1 66 62) (y1 : h6.1 66 62 ≤ h6.1 66 60) (y2 : h6.1 66 61 = 0 ∨ h6.1 66 62 < h6.1 66 60) : mm_e1 h1 t p h6 ∧ h2.1 66 62 + 1 ≤ h6.1 66 62 := by
  have q70 : h5.1 66 70 = h3.1 66 70 - 1 := by rw [a5, mm_pf_ne _ _ (by decide), a4, mm_pf_same]
  have q71 : h5.1 66 71 = h3.1 66 71 - 1 := by rw [a5, mm_pf_same, a4, mm_pf_ne _ _ (by decide)]
  have qk : ∀ k, k ≠ 70 → k ≠ 71 → h5.1 66 k = h3.1 66 k := fun k k1 k2 => by rw [a5, mm_pf_ne _ _ (fun z => k2 z.2), a4, mm_pf_ne _ _ (fun z => k1 z.2)]
  have qa : ∀ o j, h5.2.1 o j = h3.2.1 o j := fun o j => by rw [a5, a4]; rfl
  have t3 := H.2.1
  unfold mm_tok at t3
  have d57 := fd.1 66 57 (by decide)
  have d61 := fd.1 66 61 (by decide)
  have d62 := fd.1 66 62 (by decide)
  have d60 := fd.1 66 60 (by decide)
  have d71 := fd.1 66 71 (by decide)
  have e69 := (g.1 66 69 (by decide)).trans (qk 69 (by decide) (by decide))
  have e70 := g.1 66 70 (by decide)
  have e57 := (g.1 66 57 (by decide)).trans (qk 57 (by decide) (by decide))
  have e71 := g.1 66 71 (by decide)
  have e60 := qk 60 (by decide) (by decide)
  have e7 : ∀ j, h6.2.1 107 j = h3.2.1 107 j := fun j => (g.2 107 (by decide) j).trans (qa 107 j)
  have e8 : ∀ j, h6.2.1 108 j = h3.2.1 108 j := fun j => (g.2 108 (by decide) j).trans (qa 108 j)
  have hq := H.2.2 hf
  have hz : h3.2.1 108 (h3.1 66 70 - 1) = 13 := hw.resolve_left (by omega)
  have hB := mm_B_pop (h := h3) (h2 := h6) (by omega) hp e8
  have hO := mm_O_pop (h := h3) (h2 := h6) (by omega) hp e8
  rw [if_pos (Or.inr hz)] at hB
  rw [if_pos hz, D.2.2.1] at hO
  have S3 := D.2.2.2.1 t hq.1
  have hpg : mm_pg h1 h6 0 := mm_pg_tr (mm_pg_tr (H.1.2 hf) D.1 (c := 0) (by omega)) (b := 0) (mm_pg_of e7 e69 (by omega) (by omega) (fun z => by omega) (by omega)) (by omega)
  refine ⟨⟨⟨mm_pg_tr mm_pg_rf hpg (by omega), fun _ => hpg⟩, ⟨y1, y2⟩, fun z => ⟨⟨fun j a b => by rw [e8]; exact S3.1 j a (by omega), ?_⟩, ?_, ?_⟩⟩, by omega⟩
  · have e9 : mm_cd h6 = mm_cd h3 := funext e7
    rw [e9, e69, show (mm_B h6 : Int) = (mm_B h3 : Int) by omega]
    exact S3.2
  · have := hq.2.1
    omega
  · have := hq.2.2
    omega
def mm_ex (h h2 : mH) : Prop := h.1 66 69 ≤ h2.1 66 69 ∧ (∀ j, (j < h.1 66 69 ∨ h2.1 66 69 ≤ j) → h2.2.1 107 j = h.2.1 107 j) ∧ h.1 66 62 ≤ h2.1 66 62 ∧ mm_tok h2 ∧ (h2.1 66 57 = 0 → h.1 66 57 = 0) ∧ h2.1 66 69 + 2 * h.1 66 62 ≤ h.1 66 69 + 2 * h2.1 66 62 + 3 ∧ (h2.1 66 57 = 0 → h2.1 66 69 + 2 * h.1 66 62 ≤ h.1 66 69 + 2 * h2.1 66 62 + 1 ∧ h.1 66 62 + 1 ≤ h2.1 66 62 ∧ mm_gd (mm_cd h2) (h.1 66 69) (h.1 66 69) (h2.1 66 69))
theorem mm_ex_rf {h : mH} (hf : h.1 66 57 ≠ 0) (t : mm_tok h) : mm_ex h h := ⟨by omega, fun _ _ => rfl, by omega, t, id, by omega, fun z => absurd z hf⟩
theorem mm_ex_of {h h1 h2 h3 h4 h5 : mH} (a1 : h1 = mm_pf h 66 70 0) (H : mm_e1 h1 (h.1 66 69) (h.1 66 62) h2) (s : mm_sm h2 h3) (hf : h3.1 66 57 = 0 → h2.1 66 57 = 0) (i4 : mm_inv h4) (D : mm_dr h3 h4) (fd : mm_fr [(66, 69), (66, 70)] [107] h3 h4) (ht : h4.1 66 69 ≤ 2399) (hw5 : h4.1 66 70 ≤ 519) (a69 : h5.1 66 69 = h4.1 66 69 + 1) (a7 : ∀ j, h5.2.1 107 j = if j = h4.1 66 69 then 0 else h4.2.1 107 j) (fa : mm_fr [(66, 69)] [107] h4 h5) : mm_ex h h5 := by
  obtain ⟨s1, s2, s3, s4, s5, s6, s7, s8⟩ := s
  have qk : ∀ k, k ≠ 70 → h1.1 66 k = h.1 66 k := fun k k1 => by rw [a1, mm_pf_ne _ _ (fun z => k1 z.2)]
  have q70 : h1.1 66 70 = 0 := by rw [a1, mm_pf_same]
  have q7 : ∀ j, h1.2.1 107 j = h.2.1 107 j := fun j => by rw [a1]; rfl
  have k69 := qk 69 (by decide)
  have k62 := qk 62 (by decide)
  have k57 := qk 57 (by decide)
  have d57 := fd.1 66 57 (by decide)
  have d61 := fd.1 66 61 (by decide)
  have d62 := fd.1 66 62 (by decide)
  have d60 := fd.1 66 60 (by decide)
  have f57 := fa.1 66 57 (by decide)
  have f61 := fa.1 66 61 (by decide)
  have f62 := fa.1 66 62 (by decide)
  have f60 := fa.1 66 60 (by decide)
  have f70 := fa.1 66 70 (by decide)
  have g4 : (0 : Int) ≤ h4.1 66 69 ∧ h4.1 66 69 ≤ 2400 := i4.1 66 69
  have g5 : (0 : Int) ≤ h4.1 66 70 ∧ h4.1 66 70 ≤ 520 := i4.1 66 70
  have hBl := mm_B_le h4 i4
  have P23 : mm_pg h2 h3 0 := mm_pg_of s7 s1 (by omega) (by omega) hf (by omega)
  have P45 : mm_pg h4 h5 1 := ⟨by omega, fun j hj => by rw [a7, if_neg (by omega)], by omega, by omega, fun z => by omega, by omega⟩
  have PP : mm_pg h1 h5 3 := mm_pg_tr (mm_pg_tr (mm_pg_tr H.1.1 P23 (c := 2) (by omega)) D.1 (c := 2) (by omega)) P45 (by omega)
  have t2 := H.2.1
  unfold mm_tok at t2
  refine ⟨by have := PP.1; omega, fun j hj => by rw [PP.2.1 j (by omega), q7], by have := PP.2.2.2.1; omega, ?_, fun z => by have := PP.2.2.2.2.1 z; omega, by have := PP.2.2.1; omega, fun z => ?_⟩
  · unfold mm_tok; omega
  · have hf3 : h3.1 66 57 = 0 := by omega
    have hf2 := hf hf3
    have hq := H.2.2 hf2
    have PZ : mm_pg h1 h5 1 := mm_pg_tr (mm_pg_tr (mm_pg_tr (H.1.2 hf2) P23 (c := 0) (by omega)) D.1 (c := 0) (by omega)) P45 (by omega)
    have S3 : mm_S h3 1 (h.1 66 69) := mm_S_fr hq.1 s2 s1 s7 s8
    have S4 := D.2.2.2.1 _ S3
    refine ⟨by have := PZ.2.2.1; omega, by omega, ?_⟩
    rw [a69]
    exact mm_cpre_stop S4.2 ⟨g4.1, ht⟩ ⟨by omega, by omega⟩ a7
