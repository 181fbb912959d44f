theorem mm_pa_o {h : mH} {i v : Int} (q o : Nat) (hq : q ≠ o) (j : Int) : (mm_pa h o i v).2.1 q j = h.2.1 q j := mm_pa_ne _ _ (fun w => hq w.1)
theorem mm_pa_j {h : mH} {v : Int} (o : Nat) {i j : Int} (hq : j ≠ i) : (mm_pa h o i v).2.1 o j = h.2.1 o j := mm_pa_ne _ _ (fun w => hq w.2)
/-! expressions begun -/
theorem mm_e_init {h h1 h2 h3 : mH} (a1 : h1 = mm_pf h 66 70 0) (a2 : h2 = mm_pf h1 66 71 0) (b : mm_fr [(66, 57), (66, 58), (66, 71)] [109] h2 h3) (yb : h3.1 66 57 = 0 → h2.1 66 57 = 0 ∧ h3.1 66 71 = h2.1 66 71 + 1) (t : mm_tok h) : mm_tok h3 ∧ (h3.1 66 57 = 0 → (mm_O h3 : Int) + 1 = h3.1 66 71) ∧ mm_S h3 0 (h.1 66 69) ∧ mm_pg h1 h3 0 ∧ h3.1 66 69 = h.1 66 69 ∧ h3.1 66 70 = 0 ∧ h3.1 66 62 = h.1 66 62 := by
  have k1 : ∀ k, k ≠ 70 → h1.1 66 k = h.1 66 k := fun k hk => by rw [a1, mm_pf_ne _ _ (fun z => hk z.2)]
  have k2 : ∀ k, k ≠ 71 → h2.1 66 k = h1.1 66 k := fun k hk => by rw [a2, mm_pf_ne _ _ (fun z => hk z.2)]
  have q70 : h1.1 66 70 = 0 := by rw [a1, mm_pf_same]
  have q71 : h2.1 66 71 = 0 := by rw [a2, mm_pf_same]
  have e3 : ∀ k, (66, k) ∉ [((66 : Nat), (57 : Nat)), (66, 58), (66, 71)] → k ≠ 70 → k ≠ 71 → h3.1 66 k = h.1 66 k := fun k ka kb kc => by rw [b.1 66 k ka, k2 k kc, k1 k kb]
  have e69 := e3 69 (by decide) (by decide) (by decide)
  have e62 := e3 62 (by decide) (by decide) (by decide)
  have e61 := e3 61 (by decide) (by decide) (by decide)
  have e60 := e3 60 (by decide) (by decide) (by decide)
  have e70 : h3.1 66 70 = 0 := by rw [b.1 66 70 (by decide), k2 70 (by decide), q70]
  have f57 := k2 57 (by decide)
  have f69 := k1 69 (by decide)
  have f62 := k1 62 (by decide)
  refine ⟨?_, fun z => ?_, ⟨fun j x y => absurd y (by omega), ?_⟩, ?_, e69, e70, e62⟩
  · unfold mm_tok at *
    omega
  · have hz := yb z
    have hO : mm_O h3 = 0 := by unfold mm_O; rw [e70]; rfl
    rw [hO]
    omega
  · have hB : mm_B h3 = 0 := by unfold mm_B; rw [e70]; rfl
    rw [hB, e69, show (0 : Int) + ((0 : Nat) : Int) = 0 from rfl]
    exact mm_cpre_nil
  · exact mm_pg_of (fun j => by rw [b.2 107 (by decide) j, a2]; rfl) (by omega) (by omega) (by omega) (fun z => by have := (yb z).1; omega) (by omega)
theorem mm_e_start {h h1 h2 h3 h4 : mH} (a1 : h1 = mm_pf h 66 70 0) (a2 : h2 = mm_pf h1 66 71 0) (b : mm_fr [(66, 57), (66, 58), (66, 71)] [109] h2 h3) (yb : h3.1 66 57 = 0 → h2.1 66 57 = 0 ∧ h3.1 66 71 = h2.1 66 71 + 1) (t : mm_tok h) (P : mm_op h3 h4) : mm_e1 h1 (h.1 66 69) (h.1 66 62) h4 := by
  obtain ⟨i1, i2, i3, i4, i5, i6, i7⟩ := mm_e_init a1 a2 b yb t
  refine ⟨mm_pq_tr i4 P.1, P.2.1, fun z => ⟨P.2.2.2 _ i3 z, (P.2.2.1 z).2, ?_⟩⟩
  have := (P.2.2.1 z).1
  omega
/-! clauses -/
theorem mm_gd_mono {c c2 : Int → Int} {lo lo2 k e e2 : Int} (H : mm_gd c lo k e) (h1 : lo2 ≤ lo) (h2 : e ≤ e2) (h3 : ∀ j, lo ≤ j → j < e → c2 j = c j) : mm_gd c2 lo2 k e2 :=
  ⟨by have := H.1; omega, fun c' hc => H.2 c' (fun j a b => by rw [hc j (by omega) (by omega), h3 j a b])⟩
def mm_c1 (h : mH) (lo e k : Int) : Prop := h.2.1 104 k = 3 ∨ (mm_gd (mm_cd h) lo (h.2.1 105 k) e ∧ (h.2.1 106 k = -1 ∨ mm_gd (mm_cd h) lo (h.2.1 106 k) e))
def mm_cg (h : mH) (b e : Int) : Prop := ∀ c, 0 ≤ c → c < h.2.1 103 b → mm_c1 h (1200 * b) e (20 * b + c)
theorem mm_c1_mono {h h2 : mH} {lo e e2 k : Int} (H : mm_c1 h lo e k) (he : e ≤ e2) (e4 : h2.2.1 104 k = h.2.1 104 k) (e5 : h2.2.1 105 k = h.2.1 105 k) (e6 : h2.2.1 106 k = h.2.1 106 k) (e7 : ∀ j, lo ≤ j → j < e → h2.2.1 107 j = h.2.1 107 j) : mm_c1 h2 lo e2 k := by
  unfold mm_c1 at *
  rw [e4, e5, e6]
  exact H.imp id (fun ⟨q, w⟩ => ⟨mm_gd_mono q (Int.le_refl _) he e7, w.imp id (fun z => mm_gd_mono z (Int.le_refl _) he e7)⟩)
/-- only what belongs to bank b is written -/
def mm_bk (h h2 : mH) (b : Int) : Prop := (∀ j, j ≠ b → h2.2.1 103 j = h.2.1 103 j) ∧ (∀ j, (j < 20 * b ∨ 20 * b + 20 ≤ j) → h2.2.1 104 j = h.2.1 104 j ∧ h2.2.1 105 j = h.2.1 105 j ∧ h2.2.1 106 j = h.2.1 106 j) ∧ (∀ j, (j < 1200 * b ∨ 1200 * b + 1200 ≤ j) → h2.2.1 107 j = h.2.1 107 j)
theorem mm_bk_rf {h : mH} {b : Int} : mm_bk h h b := ⟨fun _ _ => rfl, fun _ _ => ⟨rfl, rfl, rfl⟩, fun _ _ => rfl⟩
theorem mm_bk_tr {h h1 h2 : mH} {b : Int} (p : mm_bk h h1 b) (q : mm_bk h1 h2 b) : mm_bk h h2 b := by
  refine ⟨fun j hj => (q.1 j hj).trans (p.1 j hj), fun j hj => ?_, fun j hj => (q.2.2 j hj).trans (p.2.2 j hj)⟩
  obtain ⟨a1, a2, a3⟩ := p.2.1 j hj
  obtain ⟨b1, b2, b3⟩ := q.2.1 j hj
  exact ⟨b1.trans a1, b2.trans a2, b3.trans a3⟩
theorem mm_bk_fr {wf : List (Nat × Nat)} {wa : List Nat} {h h2 : mH} {b : Int} (f : mm_fr wf wa h h2) (hw : 103 ∉ wa ∧ 104 ∉ wa ∧ 105 ∉ wa ∧ 106 ∉ wa ∧ 107 ∉ wa) : mm_bk h h2 b :=
  ⟨fun j _ => f.2 103 hw.1 j, fun j _ => ⟨f.2 104 hw.2.1 j, f.2 105 hw.2.2.1 j, f.2 106 hw.2.2.2.1 j⟩, fun j _ => f.2 107 hw.2.2.2.2 j⟩
theorem mm_bk_pf {h h1 : mH} {b v : Int} {o k : Nat} (p : mm_bk h h1 b) : mm_bk h (mm_pf h1 o k v) b := p
theorem mm_bk_pa {h h1 : mH} {b i v : Int} {o : Nat} (p : mm_bk h h1 b) (ho : o ≠ 103 ∧ o ≠ 104 ∧ o ≠ 105 ∧ o ≠ 106 ∧ o ≠ 107) : mm_bk h (mm_pa h1 o i v) b := by
  have e : ∀ q, q ≠ o → ∀ j, (mm_pa h1 o i v).2.1 q j = h1.2.1 q j := fun q hq j => mm_pa_ne _ _ (fun w => hq w.1)
  refine ⟨fun j hj => ?_, fun j hj => ?_, fun j hj => ?_⟩
  · rw [e 103 (Ne.symm ho.1)]; exact p.1 j hj
  · rw [e 104 (Ne.symm ho.2.1), e 105 (Ne.symm ho.2.2.1), e 106 (Ne.symm ho.2.2.2.1)]; exact p.2.1 j hj
  · rw [e 107 (Ne.symm ho.2.2.2.2)]; exact p.2.2 j hj
theorem mm_bk_103 {h h1 : mH} {b v : Int} (p : mm_bk h h1 b) : mm_bk h (mm_pa h1 103 b v) b := by
  refine ⟨fun j hj => ?_, fun j hj => ?_, fun j hj => ?_⟩
  · rw [mm_pa_j 103 hj]; exact p.1 j hj
  · rw [mm_pa_o 104 103 (by decide), mm_pa_o 105 103 (by decide), mm_pa_o 106 103 (by decide)]; exact p.2.1 j hj
  · rw [mm_pa_o 107 103 (by decide)]; exact p.2.2 j hj
theorem mm_bk_k {h h1 : mH} {b i v : Int} {o : Nat} (p : mm_bk h h1 b) (ho : o = 104 ∨ o = 105 ∨ o = 106) (hi : 20 * b ≤ i ∧ i < 20 * b + 20) : mm_bk h (mm_pa h1 o i v) b := by
  have e : ∀ (q : Nat) (j : Int), (q ≠ o ∨ j ≠ i) → (mm_pa h1 o i v).2.1 q j = h1.2.1 q j := fun q j hq => mm_pa_ne _ _ (fun w => hq.elim (fun z => z w.1) (fun z => z w.2))
  refine ⟨fun j hj => ?_, fun j hj => ?_, fun j hj => ?_⟩
  · rw [e 103 j (Or.inl (by omega))]; exact p.1 j hj
  · rw [e 104 j (Or.inr (by omega)), e 105 j (Or.inr (by omega)), e 106 j (Or.inr (by omega))]; exact p.2.1 j hj
  · rw [e 107 j (Or.inl (by omega))]; exact p.2.2 j hj
def mm_rl (h h2 : mH) (b : Int) : Prop := mm_bk h h2 b ∧ mm_tok h2 ∧ h.1 66 62 ≤ h2.1 66 62 ∧ 1200 * b ≤ h2.1 66 69 ∧ h2.1 66 69 ≤ 1200 * b + 2 * h2.1 66 62 + 3 ∧ (h2.1 66 57 = 0 → h2.1 66 69 ≤ 1200 * b + 2 * h2.1 66 62 ∧ mm_cg h2 b (h2.1 66 69))
theorem mm_rl_tr {h h1 h2 : mH} {b : Int} (p : mm_rl h h1 b) (q : mm_rl h1 h2 b) : mm_rl h h2 b :=
  ⟨mm_bk_tr p.1 q.1, q.2.1, by have := p.2.2.1; have := q.2.2.1; omega, q.2.2.2.1, q.2.2.2.2.1, q.2.2.2.2.2⟩
theorem mm_cg_fr {wf : List (Nat × Nat)} {wa : List Nat} {h h2 : mH} {b e e2 : Int} (H : mm_cg h b e) (f : mm_fr wf wa h h2) (hw : 103 ∉ wa ∧ 104 ∉ wa ∧ 105 ∉ wa ∧ 106 ∉ wa ∧ 107 ∉ wa) (he : e ≤ e2) : mm_cg h2 b e2 := by
  intro c a q
  rw [f.2 103 hw.1] at q
  exact mm_c1_mono (H c a q) he (f.2 104 hw.2.1 _) (f.2 105 hw.2.2.1 _) (f.2 106 hw.2.2.2.1 _) (fun j _ _ => f.2 107 hw.2.2.2.2 j)
/-- a fault, nothing else -/
theorem mm_rl_bad {h h2 : mH} {b : Int} (f : mm_fr [(66, 57), (66, 58)] [] h h2) (hf : h2.1 66 57 ≠ 0) (t : mm_tok h) (r1 : 1200 * b ≤ h.1 66 69) (r2 : h.1 66 69 ≤ 1200 * b + 2 * h.1 66 62 + 3) : mm_rl h h2 b := by
  have e69 := f.1 66 69 (by decide)
  have e62 := f.1 66 62 (by decide)
  have e61 := f.1 66 61 (by decide)
  have e60 := f.1 66 60 (by decide)
  refine ⟨mm_bk_fr f (by decide), ?_, by omega, by omega, by omega, fun z => absurd z hf⟩
  unfold mm_tok at *
  omega
theorem mm_rl_go {h h1 h2 : mH} {b : Int} (H : mm_rl h h1 b) (g : mm_fr [(66, 60), (66, 61), (66, 62), (66, 63), (66, 64), (66, 65), (66, 66)] [] h1 h2) (y0 : h1.1 66 60 ≤ h2.1 66 62) (y1 : h2.1 66 62 ≤ h2.1 66 60) (y2 : h2.1 66 61 = 0 ∨ h2.1 66 62 < h2.1 66 60) : mm_rl h h2 b := by
  have e69 := g.1 66 69 (by decide)
  have e57 := g.1 66 57 (by decide)
  obtain ⟨p1, p2, p3, p4, p5, p6⟩ := H
  unfold mm_tok at p2
  refine ⟨mm_bk_tr p1 (mm_bk_fr g (by decide)), ⟨y1, y2⟩, by omega, by omega, by omega, fun z => ?_⟩
  obtain ⟨q1, q2⟩ := p6 (by omega)
  exact ⟨by omega, by rw [e69]; exact mm_cg_fr q2 g (by decide) (Int.le_refl _)⟩
theorem mm_rl_no {h h1 h2 : mH} {b : Int} (H : mm_rl h h1 b) (f : mm_fr [(66, 57), (66, 58)] [] h1 h2) (hf : h2.1 66 57 ≠ 0) : mm_rl h h2 b :=
  mm_rl_tr H (mm_rl_bad f hf H.2.1 H.2.2.2.1 H.2.2.2.2.1)
/-- the clause is opened: its number counts, its kind is laid -/
def mm_k3 (h h3 : mH) (b k w : Int) : Prop := mm_bk h h3 b ∧ mm_tok h3 ∧ h.1 66 62 + 1 ≤ h3.1 66 62 ∧ h3.1 66 69 = h.1 66 69 ∧ h3.1 66 57 = 0 ∧ (∀ c, 0 ≤ c → c < h3.2.1 103 b → 20 * b + c = k ∨ mm_c1 h3 (1200 * b) (h.1 66 69) (20 * b + c)) ∧ h3.2.1 104 k = w ∧ 20 * b ≤ k ∧ k < 20 * b + 20
theorem mm_cl_open {h h0 h1 h2 h3 : mH} {b w : Int} (i0 : mm_inv h0) (t : mm_tok h) (hs : h.1 66 61 ≠ 0) (G : mm_cg h b (h.1 66 69)) (f : mm_fr [(66, 57), (66, 58)] [] h h0) (hf : h0.1 66 57 = 0) (hc : h0.2.1 103 b ≤ 19) (a1 : h1 = mm_pa h0 103 b (h0.2.1 103 b + 1)) (a2 : h2 = mm_pa h1 104 (20 * b + h0.2.1 103 b) w) (g : mm_fr [(66, 60), (66, 61), (66, 62), (66, 63), (66, 64), (66, 65), (66, 66)] [] h2 h3) (y0 : h2.1 66 60 ≤ h3.1 66 62) (y1 : h3.1 66 62 ≤ h3.1 66 60) (y2 : h3.1 66 61 = 0 ∨ h3.1 66 62 < h3.1 66 60) : mm_k3 h h3 b (20 * b + h0.2.1 103 b) w := by
  have gc : (0 : Int) ≤ h0.2.1 103 b ∧ h0.2.1 103 b ≤ 20 := i0.2.1 103 b
  have e21 : h2.1 = h0.1 := by rw [a2, a1]; rfl
  have e57 : h3.1 66 57 = h0.1 66 57 := by rw [g.1 66 57 (by decide), e21]
  have e69 : h3.1 66 69 = h.1 66 69 := by rw [g.1 66 69 (by decide), e21, f.1 66 69 (by decide)]
  have e60 : h2.1 66 60 = h.1 66 60 := by rw [e21, f.1 66 60 (by decide)]
  have e3 : ∀ j, h3.2.1 103 j = if j = b then h0.2.1 103 b + 1 else h.2.1 103 j := by
    intro j
    rw [g.2 103 (by decide) j, a2, mm_pa_o 103 104 (by decide), a1]
    by_cases q : j = b
    · rw [if_pos q, q, mm_pa_same]
    · rw [if_neg q, mm_pa_j 103 q, f.2 103 (by decide)]
  have e4 : ∀ j, h3.2.1 104 j = if j = 20 * b + h0.2.1 103 b then w else h.2.1 104 j := by
    intro j
    rw [g.2 104 (by decide) j, a2]
    by_cases q : j = 20 * b + h0.2.1 103 b
    · rw [if_pos q, q, mm_pa_same]
    · rw [if_neg q, mm_pa_j 104 q, a1, mm_pa_o 104 103 (by decide), f.2 104 (by decide)]
  have er : ∀ o, o ≠ 103 → o ≠ 104 → ∀ j, h3.2.1 o j = h.2.1 o j := by
    intro o o1 o2 j
    rw [g.2 o (by simp) j, a2, mm_pa_o o 104 o2, a1, mm_pa_o o 103 o1, f.2 o (by simp)]
  unfold mm_tok at t
  refine ⟨⟨fun j hj => by rw [e3, if_neg hj], fun j hj => ⟨by rw [e4, if_neg (by omega)], er 105 (by decide) (by decide) j, er 106 (by decide) (by decide) j⟩, fun j _ => er 107 (by decide) (by decide) j⟩, ⟨y1, y2⟩, by omega, e69, by omega, fun c c0 c1 => ?_, by rw [e4, if_pos rfl], by omega, by omega⟩
  rw [e3, if_pos rfl] at c1
  by_cases q : c = h0.2.1 103 b
  · exact Or.inl (by omega)
  · refine Or.inr (mm_c1_mono (G c c0 ?_) (Int.le_refl _) (by rw [e4, if_neg (by omega)]) (er 105 (by decide) (by decide) _) (er 106 (by decide) (by decide) _) (fun j _ _ => er 107 (by decide) (by decide) j))
    rw [← f.2 103 (by decide)]
    omega
theorem mm_cl_set {wf : List (Nat × Nat)} {wa : List Nat} {h h3 h4 : mH} {b k w : Int} (K : mm_k3 h h3 b k w) (hw : w = 3) (f : mm_fr wf wa h3 h4) (hf : (103 ∉ wa ∧ 104 ∉ wa ∧ 105 ∉ wa ∧ 106 ∉ wa ∧ 107 ∉ wa) ∧ (66, 69) ∉ wf) (t : mm_tok h4) (hp : h3.1 66 62 ≤ h4.1 66 62) (r1 : 1200 * b ≤ h.1 66 69) (r2 : h.1 66 69 ≤ 1200 * b + 2 * h.1 66 62) : mm_rl h h4 b := by
  obtain ⟨k1, k2, k3, k4, k5, k6, k7, k8, k9⟩ := K
  have e69 := f.1 66 69 hf.2
  refine ⟨mm_bk_tr k1 (mm_bk_fr f hf.1), t, by omega, by omega, by omega, fun z => ⟨by omega, fun c c0 c1 => ?_⟩⟩
  rw [f.2 103 hf.1.1] at c1
  rcases k6 c c0 c1 with q | q
  · exact Or.inl (by rw [q, f.2 104 hf.1.2.1, k7, hw])
  · exact mm_c1_mono q (by omega) (f.2 104 hf.1.2.1 _) (f.2 105 hf.1.2.2.1 _) (f.2 106 hf.1.2.2.2.1 _) (fun j _ _ => f.2 107 hf.1.2.2.2.2 j)
abbrev mm_xf : List (Nat × Nat) := [(66, 57), (66, 58), (66, 60), (66, 61), (66, 62), (66, 63), (66, 64), (66, 65), (66, 66), (66, 69), (66, 70), (66, 71)]
def mm_k4 (h h6 : mH) (b k : Int) : Prop := mm_rl h h6 b ∧ (h6.1 66 57 = 0 → h6.1 66 69 + 1 ≤ 1200 * b + 2 * h6.1 66 62 ∧ (∀ c, 0 ≤ c → c < h6.2.1 103 b → 20 * b + c = k ∨ mm_c1 h6 (1200 * b) (h6.1 66 69) (20 * b + c)) ∧ mm_gd (mm_cd h6) (1200 * b) (h6.2.1 105 k) (h6.1 66 69) ∧ h.1 66 62 + 1 ≤ h6.1 66 62) ∧ 20 * b ≤ k ∧ k < 20 * b + 20
theorem mm_cl_e1 {h h3 h4 h5 h6 : mH} {b k w : Int} (K : mm_k3 h h3 b k w) (X : mm_ex h3 h4) (f : mm_fr mm_xf [107, 108, 109] h3 h4) (a5 : h5 = mm_pa h4 105 k (h3.1 66 69)) (a6 : h6 = mm_pa h5 106 k (-1)) (r1 : 1200 * b ≤ h.1 66 69) (r2 : h.1 66 69 ≤ 1200 * b + 2 * h.1 66 62) (g4 : h4.1 66 62 ≤ 500) : mm_k4 h h6 b k := by
  obtain ⟨k1, k2, k3, k4, k5, k6, k7, k8, k9⟩ := K
  obtain ⟨x1, x2, x3, x4, x5, x6, x7⟩ := X
  have e1 : h6.1 = h4.1 := by rw [a6, a5]; rfl
  have e3 : ∀ j, h6.2.1 103 j = h3.2.1 103 j := fun j => by rw [a6, mm_pa_o 103 106 (by decide), a5, mm_pa_o 103 105 (by decide), f.2 103 (by decide)]
  have e4 : ∀ j, h6.2.1 104 j = h3.2.1 104 j := fun j => by rw [a6, mm_pa_o 104 106 (by decide), a5, mm_pa_o 104 105 (by decide), f.2 104 (by decide)]
  have e7 : ∀ j, h6.2.1 107 j = h4.2.1 107 j := fun j => by rw [a6, mm_pa_o 107 106 (by decide), a5, mm_pa_o 107 105 (by decide)]
  have e5 : ∀ j, h6.2.1 105 j = if j = k then h3.1 66 69 else h3.2.1 105 j := fun j => by
    rw [a6, mm_pa_o 105 106 (by decide), a5]
    by_cases q : j = k
    · rw [if_pos q, q, mm_pa_same]
    · rw [if_neg q, mm_pa_j 105 q, f.2 105 (by decide)]
  have e6 : ∀ j, h6.2.1 106 j = if j = k then -1 else h3.2.1 106 j := fun j => by
    rw [a6]
    by_cases q : j = k
    · rw [if_pos q, q, mm_pa_same]
    · rw [if_neg q, mm_pa_j 106 q, a5, mm_pa_o 106 105 (by decide), f.2 106 (by decide)]
  have t6 : mm_tok h6 := by unfold mm_tok at *; rw [e1]; exact x4
  have bk : mm_bk h h6 b := mm_bk_tr k1 ⟨fun j _ => e3 j, fun j hj => ⟨e4 j, by rw [e5, if_neg (by omega)], by rw [e6, if_neg (by omega)]⟩, fun j hj => by rw [e7]; exact x2 j (by omega)⟩
  have oth : h6.1 66 57 = 0 → ∀ c, 0 ≤ c → c < h6.2.1 103 b → 20 * b + c = k ∨ mm_c1 h6 (1200 * b) (h6.1 66 69) (20 * b + c) := by
    intro _ c c0 c1
    rw [e3] at c1
    rcases k6 c c0 c1 with q | q
    · exact Or.inl q
    · by_cases z : 20 * b + c = k
      · exact Or.inl z
      · exact Or.inr (mm_c1_mono q (by rw [e1]; omega) (e4 _) (by rw [e5, if_neg z]) (by rw [e6, if_neg z]) (fun j _ j2 => by rw [e7]; exact x2 j (by omega)))
  have own : h6.1 66 57 = 0 → mm_gd (mm_cd h6) (1200 * b) (h6.2.1 105 k) (h6.1 66 69) := by
    intro z
    rw [e1] at z
    rw [e5, if_pos rfl, e1]
    exact mm_gd_mono (x7 z).2.2 (by omega) (Int.le_refl _) (fun j _ _ => e7 j)
  refine ⟨⟨bk, t6, by rw [e1]; omega, by rw [e1]; omega, by rw [e1]; omega, fun z => ⟨?_, fun c c0 c1 => ?_⟩⟩, fun z => ⟨?_, oth z, own z, by rw [e1]; omega⟩, k8, k9⟩
  · rw [e1] at z ⊢
    have := (x7 z).1
    omega
  · rcases oth z c c0 c1 with q | q
    · rw [q]; exact Or.inr ⟨own z, Or.inl (by rw [e6, if_pos rfl])⟩
    · exact q
  · rw [e1] at z ⊢
    have := (x7 z).1
    omega
theorem mm_cl_e2 {h h6 h7 h8 h9 : mH} {b k : Int} (K : mm_k4 h h6 b k) (hf : h6.1 66 57 = 0) (g : mm_fr [(66, 60), (66, 61), (66, 62), (66, 63), (66, 64), (66, 65), (66, 66)] [] h6 h7) (y0 : h6.1 66 60 ≤ h7.1 66 62) (hs : h6.1 66 61 ≠ 0) (X : mm_ex h7 h8) (f : mm_fr mm_xf [107, 108, 109] h7 h8) (a9 : h9 = mm_pa h8 106 k (h7.1 66 69)) (g8 : h8.1 66 62 ≤ 500) : mm_rl h h9 b ∧ h.1 66 62 + 1 ≤ h9.1 66 62 := by
  obtain ⟨⟨p1, p2, p3, p4, p5, p6⟩, p7, p8, p9⟩ := K
  obtain ⟨q1, q2, q3, q4⟩ := p7 hf
  obtain ⟨x1, x2, x3, x4, x5, x6, x7⟩ := X
  have m69 := g.1 66 69 (by decide)
  have m57 := g.1 66 57 (by decide)
  have e1 : h9.1 = h8.1 := by rw [a9]; rfl
  have e3 : ∀ j, h9.2.1 103 j = h6.2.1 103 j := fun j => by rw [a9, mm_pa_o 103 106 (by decide), f.2 103 (by decide), g.2 103 (by decide)]
  have e4 : ∀ j, h9.2.1 104 j = h6.2.1 104 j := fun j => by rw [a9, mm_pa_o 104 106 (by decide), f.2 104 (by decide), g.2 104 (by decide)]
  have e5 : ∀ j, h9.2.1 105 j = h6.2.1 105 j := fun j => by rw [a9, mm_pa_o 105 106 (by decide), f.2 105 (by decide), g.2 105 (by decide)]
  have e7 : ∀ j, h9.2.1 107 j = h8.2.1 107 j := fun j => by rw [a9, mm_pa_o 107 106 (by decide)]
  have e7' : ∀ j, j < h6.1 66 69 → h9.2.1 107 j = h6.2.1 107 j := fun j hj => by rw [e7, x2 j (by omega), g.2 107 (by decide)]
  have e6 : ∀ j, h9.2.1 106 j = if j = k then h7.1 66 69 else h6.2.1 106 j := fun j => by
    rw [a9]
    by_cases q : j = k
    · rw [if_pos q, q, mm_pa_same]
    · rw [if_neg q, mm_pa_j 106 q, f.2 106 (by decide), g.2 106 (by decide)]
  unfold mm_tok at p2
  refine ⟨⟨mm_bk_tr p1 ⟨fun j _ => e3 j, fun j hj => ⟨e4 j, e5 j, by rw [e6, if_neg (by omega)]⟩, fun j hj => by rw [e7, x2 j (by omega), g.2 107 (by decide)]⟩, ?_, by rw [e1]; omega, by rw [e1]; omega, by rw [e1]; omega, fun z => ⟨?_, fun c c0 c1 => ?_⟩⟩, by rw [e1]; omega⟩
  · unfold mm_tok at *
    rw [e1]
    exact x4
  · rw [e1] at z ⊢
    have := (x7 z).1
    omega
  · rw [e1] at z
    rw [e3] at c1
    have hg := (x7 z).2.2
    by_cases w : 20 * b + c = k
    · rw [w]
      refine Or.inr ⟨?_, Or.inr ?_⟩
      · rw [e5, e1]
        exact mm_gd_mono q3 (Int.le_refl _) (by omega) (fun j _ j2 => e7' j j2)
      · rw [e6, if_pos rfl, e1]
        exact mm_gd_mono hg (by omega) (Int.le_refl _) (fun j _ _ => e7 j)
    · have := (q2 c c0 c1).resolve_left w
      exact mm_c1_mono this (by rw [e1]; omega) (e4 _) (e5 _) (by rw [e6, if_neg w]) (fun j _ j2 => e7' j j2)
/-! rules that count -/
def mm_RO (h : mH) : Prop := h.1 66 67 = 0 ∨ ∃ e, e ≤ 1200 * h.1 66 68 + 1200 ∧ mm_cg h (h.1 66 68) e
theorem mm_RO_fr {wf : List (Nat × Nat)} {wa : List Nat} {h h2 : mH} (R : mm_RO h) (f : mm_fr wf wa h h2) (hw : (103 ∉ wa ∧ 104 ∉ wa ∧ 105 ∉ wa ∧ 106 ∉ wa ∧ 107 ∉ wa) ∧ (66, 67) ∉ wf ∧ (66, 68) ∉ wf) : mm_RO h2 := by
  unfold mm_RO at *
  rw [f.1 66 67 hw.2.1, f.1 66 68 hw.2.2]
  exact R.imp id (fun ⟨e, q, w⟩ => ⟨e, q, mm_cg_fr w f hw.1 (Int.le_refl _)⟩)
theorem mm_RO_0 {h : mH} (hz : h.1 66 67 = 0) : mm_RO h := Or.inl hz
theorem mm_RO_bk {h h2 : mH} {b : Int} (i : mm_inv h) (R : mm_RO h) (bk : mm_bk h h2 b) (e67 : h2.1 66 67 = h.1 66 67) (e68 : h2.1 66 68 = h.1 66 68) (hb : h.1 66 67 = 0 ∨ b = 1 - h.1 66 68) : mm_RO h2 := by
  unfold mm_RO at *
  rw [e67, e68]
  rcases R with R | ⟨e, q, w⟩
  · exact Or.inl R
  · by_cases z : h.1 66 67 = 0
    · exact Or.inl z
    · have hb := hb.resolve_left z
      have g : (0 : Int) ≤ h.1 66 68 ∧ h.1 66 68 ≤ 1 := i.1 66 68
      have g2 : (0 : Int) ≤ h.2.1 103 (h.1 66 68) ∧ h.2.1 103 (h.1 66 68) ≤ 20 := i.2.1 103 _
      refine Or.inr ⟨e, q, fun c c0 c1 => ?_⟩
      rw [bk.1 _ (by omega)] at c1
      obtain ⟨m4, m5, m6⟩ := bk.2.1 (20 * h.1 66 68 + c) (by omega)
      exact mm_c1_mono (w c c0 c1) (Int.le_refl _) m4 m5 m6 (fun j j1 j2 => bk.2.2 j (by omega))
theorem mm_RO_use {h : mH} {c : Int} (R : mm_RO h) (h67 : h.1 66 67 ≠ 0) (c0 : 0 ≤ c) (c1 : c < h.2.1 103 (h.1 66 68)) (k3 : h.2.1 104 (20 * h.1 66 68 + c) ≠ 3) : (∃ f, mm_ok (mm_cd h) f (h.2.1 105 (20 * h.1 66 68 + c)) 0) ∧ (h.2.1 106 (20 * h.1 66 68 + c) = -1 ∨ ∃ f, mm_ok (mm_cd h) f (h.2.1 106 (20 * h.1 66 68 + c)) 0) := by
  obtain ⟨e, -, w⟩ := R.resolve_left h67
  obtain ⟨q1, q2⟩ := (w c c0 c1).resolve_left k3
  exact ⟨q1.2 _ (fun _ _ _ => rfl), q2.imp id (fun z => z.2 _ (fun _ _ _ => rfl))⟩
/-! code that runs -/
theorem mm_ok_rg {c : Int → Int} {f : Nat} {k n : Int} (H : mm_ok c f k n) : (0 ≤ k ∧ k ≤ 2399) ∧ 0 ≤ n ∧ n ≤ 520 := by
  cases f with
  | zero => exact H.elim
  | succ f => exact ⟨⟨H.1.1, H.1.2.1⟩, H.1.2.2.1, H.1.2.2.2⟩
theorem mm_ok_push {h : mH} {f : Nat} {k n : Int} (H : mm_ok (mm_cd h) f k n) (a : 1 ≤ h.2.1 107 k) (b : h.2.1 107 k ≤ 3) : n ≤ 519 ∧ k ≤ 2398 ∧ (h.2.1 107 k = 2 → 0 ≤ h.2.1 107 (k + 1) ∧ h.2.1 107 (k + 1) ≤ 6) ∧ (h.2.1 107 k = 3 → 0 ≤ h.2.1 107 (k + 1) ∧ h.2.1 107 (k + 1) ≤ 2) ∧ ∃ f', mm_ok (mm_cd h) f' (k + 2) (n + 1) := by
  cases f with
  | zero => exact H.elim
  | succ f =>
    rcases H.2 with q | ⟨q0, q1, q2, q3, q4, q5⟩ | ⟨q, -⟩ | ⟨q, -⟩
    · have q : h.2.1 107 k = 0 := q
      omega
    · exact ⟨q1, q2, q3, q4, f, q5⟩
    · have q : h.2.1 107 k = 4 := q
      omega
    · have q : h.2.1 107 k < 0 ∨ 4 < h.2.1 107 k := q
      omega
theorem mm_ok_no {h : mH} {f : Nat} {k n : Int} (H : mm_ok (mm_cd h) f k n) (a : h.2.1 107 k = 4) : 1 ≤ n ∧ ∃ f', mm_ok (mm_cd h) f' (k + 1) n := by
  cases f with
  | zero => exact H.elim
  | succ f =>
    rcases H.2 with q | ⟨q, -⟩ | ⟨q, q1, q2⟩ | ⟨q, -⟩
    · have q : h.2.1 107 k = 0 := q
      omega
    · have q : 1 ≤ h.2.1 107 k ∧ h.2.1 107 k ≤ 3 := q
      omega
    · exact ⟨q1, f, q2⟩
    · have q : h.2.1 107 k < 0 ∨ 4 < h.2.1 107 k := q
      omega
theorem mm_ok_bin {h : mH} {f : Nat} {k n : Int} (H : mm_ok (mm_cd h) f k n) (a : h.2.1 107 k < 0 ∨ 4 < h.2.1 107 k) : 2 ≤ n ∧ ∃ f', mm_ok (mm_cd h) f' (k + 1) (n - 1) := by
  cases f with
  | zero => exact H.elim
  | succ f =>
    rcases H.2 with q | ⟨q, -⟩ | ⟨q, -⟩ | ⟨q, q1, q2⟩
    · have q : h.2.1 107 k = 0 := q
      omega
    · have q : 1 ≤ h.2.1 107 k ∧ h.2.1 107 k ≤ 3 := q
      omega
    · have q : h.2.1 107 k = 4 := q
      omega
    · exact ⟨q1, f, q2⟩
theorem mm_okx_fr {wf : List (Nat × Nat)} {wa : List Nat} {h h2 : mH} {p : Int} (H : ∃ f, mm_ok (mm_cd h) f (h.2.1 105 p) 0) (f : mm_fr wf wa h h2) (hw : 105 ∉ wa ∧ 107 ∉ wa) : ∃ f, mm_ok (mm_cd h2) f (h2.2.1 105 p) 0 := by
  rw [f.2 105 hw.1, show mm_cd h2 = mm_cd h from funext (f.2 107 hw.2)]
  exact H
/-! rules as a whole -/
def mm_rn (h h2 : mH) (b : Int) : Prop := mm_bk h h2 b ∧ mm_tok h2 ∧ 1200 * b ≤ h2.1 66 69 ∧ h2.1 66 69 ≤ 1200 * b + 2 * h2.1 66 62 + 3 ∧ (h2.1 66 57 = 0 → h2.1 66 69 ≤ 1200 * b + 2 * h2.1 66 62 ∧ mm_cg h2 b (h2.1 66 69))
theorem mm_rn_tr {h h1 h2 : mH} {b : Int} (p : mm_rn h h1 b) (q : mm_rl h1 h2 b) : mm_rn h h2 b :=
  ⟨mm_bk_tr p.1 q.1, q.2.1, q.2.2.2.1, q.2.2.2.2.1, q.2.2.2.2.2⟩
theorem mm_rn_init {h h1 : mH} {b : Int} (g : mm_fr [(66, 60), (66, 61), (66, 62), (66, 63), (66, 64), (66, 65), (66, 66)] [] h h1) (e69 : h.1 66 69 = 1200 * b) (z3 : h.2.1 103 b = 0) (y1 : h1.1 66 62 ≤ h1.1 66 60) (y2 : h1.1 66 61 = 0 ∨ h1.1 66 62 < h1.1 66 60) (hp : 0 ≤ h1.1 66 62) : mm_rn h h1 b := by
  have m69 := g.1 66 69 (by decide)
  refine ⟨mm_bk_fr g (by decide), ⟨y1, y2⟩, by omega, by omega, fun _ => ⟨by omega, fun c c0 c1 => ?_⟩⟩
  rw [g.2 103 (by decide), z3] at c1
  omega
theorem mm_RO_new {h h2 h3 h4 : mH} {b v : Int} (H : mm_rn h h2 b) (hf : h2.1 66 57 = 0) (hp : h2.1 66 62 ≤ 500) (a3 : h3 = mm_pf h2 66 67 v) (a4 : h4 = mm_pf h3 66 68 b) : mm_RO h4 := by
  obtain ⟨p1, p2, p4, p5, p6⟩ := H
  obtain ⟨q1, q2⟩ := p6 hf
  have e68 : h4.1 66 68 = b := by rw [a4, mm_pf_same]
  refine Or.inr ⟨h2.1 66 69, ?_, ?_⟩
  · rw [e68]; omega
  · rw [e68, a4, a3]
    exact q2
set_option maxRecDepth 100000 in
set_option maxHeartbeats 4000000 in
theorem c_X12_part (l : Launch) (hl : l.stackTraces = false) (d : Nat) (hd : 3 ≤ d) (h : mH) (i0 : mm_inv h) (t0 : mm_tok h) (t1 : h.1 66 69 ≤ 2397) (t2 : h.1 66 70 ≤ 519) : mm_Met l d yX12_part cX12_part 2 none [mR 66] h (mm_pv fun h2 => mm_inv h2 ∧ mm_fr [(66, 57), (66, 58), (66, 60), (66, 61), (66, 62), (66, 63), (66, 64), (66, 65), (66, 66), (66, 69)] [107] h h2 ∧ mm_pt h h2) mm_nx 0 0 := by
  refine mm_ofW (ls := [mR 66, mU]) hl (by decide) rfl (Nat.le_of_ble_eq_true rfl) ?_
  intro x hxl C T hnm htb
  subst hxl
  have C1 := mm_OK_le (d' := d - 1 + 1) (by omega) C
  have f0 : mm_fr [(66, 57), (66, 58), (66, 60), (66, 61), (66, 62), (66, 63), (66, 64), (66, 65), (66, 66), (66, 69)] [107] h h := mm_fr_rf
  have g1 : -2147483648 ≤ h.1 66 57 ∧ h.1 66 57 ≤ 2147483647 := i0.1 66 57
  have g2 : 0 ≤ h.1 66 69 ∧ h.1 66 69 ≤ 2400 := i0.1 66 69
  have g3 : 0 ≤ h.1 66 70 ∧ h.1 66 70 ≤ 520 := i0.1 66 70
  have g4 : 0 ≤ h.1 66 62 ∧ h.1 66 62 ≤ 500 := i0.1 66 62
  have g5 : 0 ≤ h.1 66 60 ∧ h.1 66 60 ≤ 500 := i0.1 66 60
  have g6 : -2147483648 ≤ h.1 66 61 ∧ h.1 66 61 ≤ 2147483647 := i0.1 66 61
  have g7 : 0 ≤ h.1 66 71 ∧ h.1 66 71 ≤ 6 := i0.1 66 71
  refine mm_aload_n C (mm_dec dk_X12_part 0 rfl) rfl ?_
  refine mm_cVi (rest := []) C1 ev_X12_413 (mm_dec dk_X12_part 1 rfl) (c_X12_isGood x.2.1 hl (d - 1) (by omega) h i0 ) rfl rfl (Nat.le_of_ble_eq_true rfl) ⟨by decide, by decide⟩ rfl (fun r1 h1c hp1 => ?_) (fun _ _ q => q.elim)
  obtain ⟨z1, y1⟩ := hp1
  rw [z1]
  refine mm_if_ne (tgt := 8) C (mm_dec dk_X12_part 2 rfl) (by decide) (fun c4 => ?_) (fun c4 => ?_)
  · skip
    refine mm_aload_n C (mm_dec dk_X12_part 4 rfl) rfl ?_
    refine mm_geti C fl_X12_378 (mm_dec dk_X12_part 5 rfl) rfl rfl (Or.inl rfl) ?_
    refine mm_iconst C (mm_dec dk_X12_part 6 rfl) ⟨by decide, by decide⟩ ?_
    have J113 : ∀ (h113_ : mH) (i113_ : mm_inv h113_) (f113_ : mm_fr [(66, 57), (66, 58), (66, 60), (66, 61), (66, 62), (66, 63), (66, 64), (66, 65), (66, 66), (66, 69)] [107] h h113_) (w113_0 : mm_p1 h h113_), mm_W x 0 0 113 [mR 66, mU] [] h113_ := by
      intro h113_ i113_ f113_ w113_0
      have g9 : -2147483648 ≤ h113_.1 66 57 ∧ h113_.1 66 57 ≤ 2147483647 := i113_.1 66 57
      have g10 : 0 ≤ h113_.1 66 69 ∧ h113_.1 66 69 ≤ 2400 := i113_.1 66 69
      have g11 : 0 ≤ h113_.1 66 70 ∧ h113_.1 66 70 ≤ 520 := i113_.1 66 70
      have g12 : 0 ≤ h113_.1 66 62 ∧ h113_.1 66 62 ≤ 500 := i113_.1 66 62
      have g13 : 0 ≤ h113_.1 66 60 ∧ h113_.1 66 60 ≤ 500 := i113_.1 66 60
      have g14 : -2147483648 ≤ h113_.1 66 61 ∧ h113_.1 66 61 ≤ 2147483647 := i113_.1 66 61
      have g15 : 0 ≤ h113_.1 66 71 ∧ h113_.1 66 71 ≤ 6 := i113_.1 66 71
      have g16 : h113_.1 66 70 = h.1 66 70 := f113_.1 66 70 (by decide)
      have g17 : h113_.1 66 71 = h.1 66 71 := f113_.1 66 71 (by decide)
      refine mm_aload_n C (mm_dec dk_X12_part 60 rfl) rfl ?_
      refine mm_cVi (rest := []) C1 ev_X12_413 (mm_dec dk_X12_part 61 rfl) (c_X12_isGood x.2.1 hl (d - 1) (by omega) h113_ i113_ ) rfl rfl (Nat.le_of_ble_eq_true rfl) ⟨by decide, by decide⟩ rfl (fun r114 h114c hp114 => ?_) (fun _ _ q => q.elim)
      obtain ⟨z114, y114⟩ := hp114
      rw [z114]
      have J124 : ∀ (h124_ : mH) (i124_ : mm_inv h124_) (f124_ : mm_fr [(66, 57), (66, 58), (66, 60), (66, 61), (66, 62), (66, 63), (66, 64), (66, 65), (66, 66), (66, 69)] [107] h h124_) (w124_0 : mm_pt h h124_), mm_W x 0 0 124 [mU, mU] [] h124_ := by
        intro h124_ i124_ f124_ w124_0
        have g19 : -2147483648 ≤ h124_.1 66 57 ∧ h124_.1 66 57 ≤ 2147483647 := i124_.1 66 57
        have g20 : 0 ≤ h124_.1 66 69 ∧ h124_.1 66 69 ≤ 2400 := i124_.1 66 69
        have g21 : 0 ≤ h124_.1 66 70 ∧ h124_.1 66 70 ≤ 520 := i124_.1 66 70
        have g22 : 0 ≤ h124_.1 66 62 ∧ h124_.1 66 62 ≤ 500 := i124_.1 66 62
        have g23 : 0 ≤ h124_.1 66 60 ∧ h124_.1 66 60 ≤ 500 := i124_.1 66 60
        have g24 : -2147483648 ≤ h124_.1 66 61 ∧ h124_.1 66 61 ≤ 2147483647 := i124_.1 66 61
        have g25 : 0 ≤ h124_.1 66 71 ∧ h124_.1 66 71 ≤ 6 := i124_.1 66 71
        have g26 : h124_.1 66 70 = h.1 66 70 := f124_.1 66 70 (by decide)
        have g27 : h124_.1 66 71 = h.1 66 71 := f124_.1 66 71 (by decide)
        exact mm_vret C T (mm_dec dk_X12_part 65 rfl) (by decide : 0 ≤ 0) (by decide : 0 ≤ 0) ⟨rfl, ⟨i124_, f124_, by first | exact w124_0 | exact mm_pt_rf (by omega) t0⟩⟩
      refine mm_if_eq (tgt := 124) C (mm_dec dk_X12_part 62 rfl) (by decide) (fun c117 => ?_) (fun c117 => ?_)
      · skip
        refine mm_fgt 0 ?_
        exact J124 h113_ i113_ f113_ (by first | exact mm_pt_no w113_0 (by omega) t0 | exact mm_pt_go w113_0 (by omega) (by omega) t0 g121c y121_0 y121_1 y121_2)
      · skip
        refine mm_aload_n C (mm_dec dk_X12_part 63 rfl) rfl ?_
        refine mm_cVv (rest := []) C1 ev_X12_423 (mm_dec dk_X12_part 64 rfl) (c_X12_goes x.2.1 hl (d - 1) (by omega) h113_ i113_ ) rfl rfl (Nat.le_of_ble_eq_true rfl) ⟨by decide, by decide⟩ rfl (fun h121c hp121 => ?_) (fun _ _ q => q.elim)
        obtain ⟨i121c, g121c, y121_0, y121_1, y121_2⟩ := hp121
        have f121c : mm_fr [(66, 57), (66, 58), (66, 60), (66, 61), (66, 62), (66, 63), (66, 64), (66, 65), (66, 66), (66, 69)] [107] h h121c := mm_fr_tr f113_ g121c (by decide +kernel)
        have q121c_29 : h121c.1 66 57 = h113_.1 66 57 := g121c.1 66 57 (by decide)
        have q121c_30 : h121c.1 66 69 = h113_.1 66 69 := g121c.1 66 69 (by decide)
        have q121c_31 : h121c.1 66 70 = h113_.1 66 70 := g121c.1 66 70 (by decide)
        have q121c_32 : h121c.1 66 71 = h113_.1 66 71 := g121c.1 66 71 (by decide)
        have g33 : 0 ≤ (h121c.1 66 62) ∧ (h121c.1 66 62) ≤ 500 := i121c.1 66 62
        have g34 : 0 ≤ (h121c.1 66 60) ∧ (h121c.1 66 60) ≤ 500 := i121c.1 66 60
        have g35 : -2147483648 ≤ (h121c.1 66 61) ∧ (h121c.1 66 61) ≤ 2147483647 := i121c.1 66 61
        refine mm_fgt 0 ?_
        exact J124 h121c i121c f121c (by first | exact mm_pt_no w113_0 (by omega) t0 | exact mm_pt_go w113_0 (by omega) (by omega) t0 g121c y121_0 y121_1 y121_2)
    refine mm_icmp_ne (tgt := 45) C (mm_dec dk_X12_part 7 rfl) (by decide) (fun c13 => ?_) (fun c13 => ?_)
    · skip
      refine mm_aload_n C (mm_dec dk_X12_part 23 rfl) rfl ?_
      refine mm_geti C fl_X12_378 (mm_dec dk_X12_part 24 rfl) rfl rfl (Or.inl rfl) ?_
      refine mm_iconst C (mm_dec dk_X12_part 25 rfl) ⟨by decide, by decide⟩ ?_
      refine mm_icmp_ne (tgt := 108) C (mm_dec dk_X12_part 26 rfl) (by decide) (fun c50 => ?_) (fun c50 => ?_)
      · skip
        refine mm_aload_n C (mm_dec dk_X12_part 57 rfl) rfl ?_
        refine mm_iconst C (mm_dec dk_X12_part 58 rfl) ⟨by decide, by decide⟩ ?_
        refine mm_cVv (rest := []) C1 ev_X12_417 (mm_dec dk_X12_part 59 rfl) (c_X12_wrong_x x.2.1 hl (d - 1) (by omega) h i0 1 (by omega)) rfl rfl (Nat.le_of_ble_eq_true rfl) ⟨by decide, by decide⟩ rfl (fun h110c hp110 => ?_) (fun _ _ q => q.elim)
        obtain ⟨i110c, g110c, y110_0⟩ := hp110
        have f110c : mm_fr [(66, 57), (66, 58), (66, 60), (66, 61), (66, 62), (66, 63), (66, 64), (66, 65), (66, 66), (66, 69)] [107] h h110c := mm_fr_tr f0 g110c (by decide +kernel)
        have q110c_37 : h110c.1 66 60 = h.1 66 60 := g110c.1 66 60 (by decide)
        have q110c_38 : h110c.1 66 61 = h.1 66 61 := g110c.1 66 61 (by decide)
        have q110c_39 : h110c.1 66 62 = h.1 66 62 := g110c.1 66 62 (by decide)
        have q110c_40 : h110c.1 66 69 = h.1 66 69 := g110c.1 66 69 (by decide)
        have q110c_41 : h110c.1 66 70 = h.1 66 70 := g110c.1 66 70 (by decide)
        have q110c_42 : h110c.1 66 71 = h.1 66 71 := g110c.1 66 71 (by decide)
        have g43 : -2147483648 ≤ (h110c.1 66 57) ∧ (h110c.1 66 57) ≤ 2147483647 := i110c.1 66 57
        exact J113 h110c i110c f110c (by first | exact mm_p1_of i0 w29_0 y31_0 y31_1 g31c y39_0 y39_1 g39c (by omega) (by decide) (fun _ => ⟨fun q => absurd q (by decide), fun q => absurd q (by decide)⟩) (by omega) (by omega) | exact mm_p1_of i0 w69_0 y81_0 y81_1 g81c y102_0 y102_1 g102c (by omega) ⟨by omega, by omega⟩ (fun z => ⟨fun q => ⟨by omega, by omega⟩, fun q => ⟨by omega, by omega⟩⟩) (by omega) (by omega) | exact mm_p1_bad (mm_sm_fr g110c (by decide)) y110_0)
      · skip
        refine mm_aload_n C (mm_dec dk_X12_part 27 rfl) rfl ?_
        refine mm_cVi (rest := []) C1 ev_X12_419 (mm_dec dk_X12_part 28 rfl) (c_X12_knownWord_x x.2.1 hl (d - 1) (by omega) h i0 ) rfl rfl (Nat.le_of_ble_eq_true rfl) ⟨by decide, by decide⟩ rfl (fun r54 h54c hp54 => ?_) (fun _ _ q => q.elim)
        obtain ⟨b54, z54, y54_0⟩ := hp54
        rw [z54]
        refine mm_istore_nL (ls2 := [mR 66, mI r54]) C (mm_dec dk_X12_part 29 rfl) (by decide) rfl ?_
        refine mm_iload_n C (mm_dec dk_X12_part 30 rfl) rfl ?_
        refine mm_bipush C (mm_dec dk_X12_part 31 rfl) ⟨by decide, by decide⟩ ?_
        have J69 : ∀ (h69_ : mH) (i69_ : mm_inv h69_) (f69_ : mm_fr [(66, 57), (66, 58), (66, 60), (66, 61), (66, 62), (66, 63), (66, 64), (66, 65), (66, 66), (66, 69)] [107] h h69_) (w69_0 : mm_sm h h69_) (w69_1 : (h69_.1 66 57 ≠ 0 ∨ 7 ≤ r54)), mm_W x 0 0 69 [mR 66, mI r54] [] h69_ := by
          intro h69_ i69_ f69_ w69_0 w69_1
          have g45 : -2147483648 ≤ h69_.1 66 57 ∧ h69_.1 66 57 ≤ 2147483647 := i69_.1 66 57
          have g46 : 0 ≤ h69_.1 66 69 ∧ h69_.1 66 69 ≤ 2400 := i69_.1 66 69
          have g47 : 0 ≤ h69_.1 66 70 ∧ h69_.1 66 70 ≤ 520 := i69_.1 66 70
          have g48 : 0 ≤ h69_.1 66 62 ∧ h69_.1 66 62 ≤ 500 := i69_.1 66 62
          have g49 : 0 ≤ h69_.1 66 60 ∧ h69_.1 66 60 ≤ 500 := i69_.1 66 60
          have g50 : -2147483648 ≤ h69_.1 66 61 ∧ h69_.1 66 61 ≤ 2147483647 := i69_.1 66 61
          have g51 : 0 ≤ h69_.1 66 71 ∧ h69_.1 66 71 ≤ 6 := i69_.1 66 71
          have g52 : h69_.1 66 70 = h.1 66 70 := f69_.1 66 70 (by decide)
          have g53 : h69_.1 66 71 = h.1 66 71 := f69_.1 66 71 (by decide)
          have za := w69_0.1
          have zb := w69_0.2.1
          refine mm_aload_n C (mm_dec dk_X12_part 36 rfl) rfl ?_
          refine mm_iload_n C (mm_dec dk_X12_part 37 rfl) rfl ?_
          refine mm_bipush C (mm_dec dk_X12_part 38 rfl) ⟨by decide, by decide⟩ ?_
          have J81 : ∀ (s81_1 : Int) (bs81_1 : 2 ≤ s81_1 ∧ s81_1 ≤ 3) (vs81_1 : (10 ≤ r54 ∧ s81_1 = 2) ∨ (r54 < 10 ∧ s81_1 = 3)), mm_W x 0 0 81 [mR 66, mI r54] [mI s81_1, mR 66] h69_ := by
            intro s81_1 bs81_1 vs81_1
            have g54 : -2147483648 ≤ h69_.1 66 57 ∧ h69_.1 66 57 ≤ 2147483647 := i69_.1 66 57
            have g55 : 0 ≤ h69_.1 66 69 ∧ h69_.1 66 69 ≤ 2400 := i69_.1 66 69
            have g56 : 0 ≤ h69_.1 66 70 ∧ h69_.1 66 70 ≤ 520 := i69_.1 66 70
            have g57 : 0 ≤ h69_.1 66 62 ∧ h69_.1 66 62 ≤ 500 := i69_.1 66 62
            have g58 : 0 ≤ h69_.1 66 60 ∧ h69_.1 66 60 ≤ 500 := i69_.1 66 60
            have g59 : -2147483648 ≤ h69_.1 66 61 ∧ h69_.1 66 61 ≤ 2147483647 := i69_.1 66 61
            have g60 : 0 ≤ h69_.1 66 71 ∧ h69_.1 66 71 ≤ 6 := i69_.1 66 71
            refine mm_cVv (rest := []) C1 ev_X12_410 (mm_dec dk_X12_part 43 rfl) (c_X12_puts_x x.2.1 hl (d - 1) (by omega) h69_ i69_ s81_1 (by omega)) rfl rfl (Nat.le_of_ble_eq_true rfl) ⟨by decide, by decide⟩ rfl (fun h81c hp81 => ?_) (fun _ _ q => q.elim)
            obtain ⟨i81c, g81c, y81_0, y81_1⟩ := hp81
            have f81c : mm_fr [(66, 57), (66, 58), (66, 60), (66, 61), (66, 62), (66, 63), (66, 64), (66, 65), (66, 66), (66, 69)] [107] h h81c := mm_fr_tr f69_ g81c (by decide +kernel)
            have q81c_62 : h81c.1 66 57 = h69_.1 66 57 := g81c.1 66 57 (by decide)
            have q81c_63 : h81c.1 66 60 = h69_.1 66 60 := g81c.1 66 60 (by decide)
            have q81c_64 : h81c.1 66 61 = h69_.1 66 61 := g81c.1 66 61 (by decide)
            have q81c_65 : h81c.1 66 62 = h69_.1 66 62 := g81c.1 66 62 (by decide)
            have q81c_66 : h81c.1 66 70 = h69_.1 66 70 := g81c.1 66 70 (by decide)
            have q81c_67 : h81c.1 66 71 = h69_.1 66 71 := g81c.1 66 71 (by decide)
            have g68 : 0 ≤ (h81c.1 66 69) ∧ (h81c.1 66 69) ≤ 2400 := i81c.1 66 69
            refine mm_aload_n C (mm_dec dk_X12_part 44 rfl) rfl ?_
            refine mm_iload_n C (mm_dec dk_X12_part 45 rfl) rfl ?_
            refine mm_bipush C (mm_dec dk_X12_part 46 rfl) ⟨by decide, by decide⟩ ?_
            have J102 : ∀ (s102_1 : Int) (bs102_1 : -8 ≤ s102_1 ∧ s102_1 ≤ 6) (w102_0 : ((r54 < 10 ∧ s102_1 = r54 - 7) ∨ (10 ≤ r54 ∧ s102_1 = r54 - 10))), mm_W x 0 0 102 [mR 66, mU] [mI s102_1, mR 66] h81c := by
              intro s102_1 bs102_1 w102_0
              refine mm_cVv (rest := []) C1 ev_X12_410 (mm_dec dk_X12_part 55 rfl) (c_X12_puts_x x.2.1 hl (d - 1) (by omega) h81c i81c s102_1 (by omega)) rfl rfl (Nat.le_of_ble_eq_true rfl) ⟨by decide, by decide⟩ rfl (fun h102c hp102 => ?_) (fun _ _ q => q.elim)
              obtain ⟨i102c, g102c, y102_0, y102_1⟩ := hp102
              have f102c : mm_fr [(66, 57), (66, 58), (66, 60), (66, 61), (66, 62), (66, 63), (66, 64), (66, 65), (66, 66), (66, 69)] [107] h h102c := mm_fr_tr f81c g102c (by decide +kernel)
              have q102c_70 : h102c.1 66 57 = h81c.1 66 57 := g102c.1 66 57 (by decide)
              have q102c_71 : h102c.1 66 60 = h81c.1 66 60 := g102c.1 66 60 (by decide)
              have q102c_72 : h102c.1 66 61 = h81c.1 66 61 := g102c.1 66 61 (by decide)
              have q102c_73 : h102c.1 66 62 = h81c.1 66 62 := g102c.1 66 62 (by decide)
              have q102c_74 : h102c.1 66 70 = h81c.1 66 70 := g102c.1 66 70 (by decide)
              have q102c_75 : h102c.1 66 71 = h81c.1 66 71 := g102c.1 66 71 (by decide)
              have g76 : 0 ≤ (h102c.1 66 69) ∧ (h102c.1 66 69) ≤ 2400 := i102c.1 66 69
              refine mm_goto (tgt := 113) C (mm_dec dk_X12_part 56 rfl) (by decide) ?_
              exact J113 h102c i102c f102c (by first | exact mm_p1_of i0 w29_0 y31_0 y31_1 g31c y39_0 y39_1 g39c (by omega) (by decide) (fun _ => ⟨fun q => absurd q (by decide), fun q => absurd q (by decide)⟩) (by omega) (by omega) | exact mm_p1_of i0 w69_0 y81_0 y81_1 g81c y102_0 y102_1 g102c (by omega) ⟨by omega, by omega⟩ (fun z => ⟨fun q => ⟨by omega, by omega⟩, fun q => ⟨by omega, by omega⟩⟩) (by omega) (by omega) | exact mm_p1_bad (mm_sm_fr g110c (by decide)) y110_0)
            refine mm_icmp_ge (tgt := 98) C (mm_dec dk_X12_part 47 rfl) (by decide) (fun c88 => ?_) (fun c88 => ?_)
            · skip
              refine mm_iload_n C (mm_dec dk_X12_part 52 rfl) rfl ?_
              refine mm_bipush C (mm_dec dk_X12_part 53 rfl) ⟨by decide, by decide⟩ ?_
              refine mm_isub C (mm_dec dk_X12_part 54 rfl) ⟨by omega, by omega⟩ ?_
              refine mm_fgt 1 ?_
              exact J102 (r54 - 10) ⟨by omega, by omega⟩ (by omega)
            · skip
              refine mm_iload_n C (mm_dec dk_X12_part 48 rfl) rfl ?_
              refine mm_bipush C (mm_dec dk_X12_part 49 rfl) ⟨by decide, by decide⟩ ?_
              refine mm_isub C (mm_dec dk_X12_part 50 rfl) ⟨by omega, by omega⟩ ?_
              refine mm_goto (tgt := 102) C (mm_dec dk_X12_part 51 rfl) (by decide) ?_
              refine mm_fgt 1 ?_
              exact J102 (r54 - 7) ⟨by omega, by omega⟩ (by omega)
          refine mm_icmp_ge (tgt := 80) C (mm_dec dk_X12_part 39 rfl) (by decide) (fun c73 => ?_) (fun c73 => ?_)
          · skip
            refine mm_iconst C (mm_dec dk_X12_part 42 rfl) ⟨by decide, by decide⟩ ?_
            exact J81 2 ⟨by omega, by omega⟩ (Or.inl ⟨by omega, rfl⟩)
          · skip
            refine mm_iconst C (mm_dec dk_X12_part 40 rfl) ⟨by decide, by decide⟩ ?_
            refine mm_goto (tgt := 81) C (mm_dec dk_X12_part 41 rfl) (by decide) ?_
            exact J81 3 ⟨by omega, by omega⟩ (Or.inr (⟨by omega, rfl⟩))
        refine mm_icmp_ge (tgt := 69) C (mm_dec dk_X12_part 32 rfl) (by decide) (fun c61 => ?_) (fun c61 => ?_)
        · skip
          exact J69 h i0 f0 (by first | exact mm_sm_rf | exact mm_sm_fr g66c (by decide)) (by omega)
        · skip
          refine mm_aload_n C (mm_dec dk_X12_part 33 rfl) rfl ?_
          refine mm_iconst C (mm_dec dk_X12_part 34 rfl) ⟨by decide, by decide⟩ ?_
          refine mm_cVv (rest := []) C1 ev_X12_417 (mm_dec dk_X12_part 35 rfl) (c_X12_wrong_x x.2.1 hl (d - 1) (by omega) h i0 3 (by omega)) rfl rfl (Nat.le_of_ble_eq_true rfl) ⟨by decide, by decide⟩ rfl (fun h66c hp66 => ?_) (fun _ _ q => q.elim)
          obtain ⟨i66c, g66c, y66_0⟩ := hp66
          have f66c : mm_fr [(66, 57), (66, 58), (66, 60), (66, 61), (66, 62), (66, 63), (66, 64), (66, 65), (66, 66), (66, 69)] [107] h h66c := mm_fr_tr f0 g66c (by decide +kernel)
          have q66c_78 : h66c.1 66 60 = h.1 66 60 := g66c.1 66 60 (by decide)
          have q66c_79 : h66c.1 66 61 = h.1 66 61 := g66c.1 66 61 (by decide)
          have q66c_80 : h66c.1 66 62 = h.1 66 62 := g66c.1 66 62 (by decide)
          have q66c_81 : h66c.1 66 69 = h.1 66 69 := g66c.1 66 69 (by decide)
          have q66c_82 : h66c.1 66 70 = h.1 66 70 := g66c.1 66 70 (by decide)
          have q66c_83 : h66c.1 66 71 = h.1 66 71 := g66c.1 66 71 (by decide)
          have g84 : -2147483648 ≤ (h66c.1 66 57) ∧ (h66c.1 66 57) ≤ 2147483647 := i66c.1 66 57
          exact J69 h66c i66c f66c (by first | exact mm_sm_rf | exact mm_sm_fr g66c (by decide)) (by omega)
    · skip
      refine mm_aload_n C (mm_dec dk_X12_part 8 rfl) rfl ?_
      refine mm_geti C fl_X12_387 (mm_dec dk_X12_part 9 rfl) rfl rfl (Or.inl rfl) ?_
      have g85 : -2147483648 ≤ (h.1 66 63) ∧ (h.1 66 63) ≤ 2147483647 := i0.1 66 63
      refine mm_iconst C (mm_dec dk_X12_part 10 rfl) ⟨by decide, by decide⟩ ?_
      have J29 : ∀ (h29_ : mH) (i29_ : mm_inv h29_) (f29_ : mm_fr [(66, 57), (66, 58), (66, 60), (66, 61), (66, 62), (66, 63), (66, 64), (66, 65), (66, 66), (66, 69)] [107] h h29_) (w29_0 : mm_sm h h29_), mm_W x 0 0 29 [mR 66, mU] [] h29_ := by
        intro h29_ i29_ f29_ w29_0
        have g86 : -2147483648 ≤ h29_.1 66 57 ∧ h29_.1 66 57 ≤ 2147483647 := i29_.1 66 57
        have g87 : 0 ≤ h29_.1 66 69 ∧ h29_.1 66 69 ≤ 2400 := i29_.1 66 69
        have g88 : 0 ≤ h29_.1 66 70 ∧ h29_.1 66 70 ≤ 520 := i29_.1 66 70
        have g89 : 0 ≤ h29_.1 66 62 ∧ h29_.1 66 62 ≤ 500 := i29_.1 66 62
        have g90 : 0 ≤ h29_.1 66 60 ∧ h29_.1 66 60 ≤ 500 := i29_.1 66 60
        have g91 : -2147483648 ≤ h29_.1 66 61 ∧ h29_.1 66 61 ≤ 2147483647 := i29_.1 66 61
        have g92 : 0 ≤ h29_.1 66 71 ∧ h29_.1 66 71 ≤ 6 := i29_.1 66 71
        have g93 : h29_.1 66 70 = h.1 66 70 := f29_.1 66 70 (by decide)
        have g94 : h29_.1 66 71 = h.1 66 71 := f29_.1 66 71 (by decide)
        have za := w29_0.1
        have zb := w29_0.2.1
        refine mm_aload_n C (mm_dec dk_X12_part 15 rfl) rfl ?_
        refine mm_iconst C (mm_dec dk_X12_part 16 rfl) ⟨by decide, by decide⟩ ?_
        refine mm_cVv (rest := []) C1 ev_X12_410 (mm_dec dk_X12_part 17 rfl) (c_X12_puts_x x.2.1 hl (d - 1) (by omega) h29_ i29_ 1 (by omega)) rfl rfl (Nat.le_of_ble_eq_true rfl) ⟨by decide, by decide⟩ rfl (fun h31c hp31 => ?_) (fun _ _ q => q.elim)
        obtain ⟨i31c, g31c, y31_0, y31_1⟩ := hp31
        have f31c : mm_fr [(66, 57), (66, 58), (66, 60), (66, 61), (66, 62), (66, 63), (66, 64), (66, 65), (66, 66), (66, 69)] [107] h h31c := mm_fr_tr f29_ g31c (by decide +kernel)
        have q31c_96 : h31c.1 66 57 = h29_.1 66 57 := g31c.1 66 57 (by decide)
        have q31c_97 : h31c.1 66 60 = h29_.1 66 60 := g31c.1 66 60 (by decide)
        have q31c_98 : h31c.1 66 61 = h29_.1 66 61 := g31c.1 66 61 (by decide)
        have q31c_99 : h31c.1 66 62 = h29_.1 66 62 := g31c.1 66 62 (by decide)
        have q31c_100 : h31c.1 66 70 = h29_.1 66 70 := g31c.1 66 70 (by decide)
        have q31c_101 : h31c.1 66 71 = h29_.1 66 71 := g31c.1 66 71 (by decide)
        have g102 : 0 ≤ (h31c.1 66 69) ∧ (h31c.1 66 69) ≤ 2400 := i31c.1 66 69
        refine mm_aload_n C (mm_dec dk_X12_part 18 rfl) rfl ?_
        refine mm_aload_n C (mm_dec dk_X12_part 19 rfl) rfl ?_
        refine mm_geti C fl_X12_372 (mm_dec dk_X12_part 20 rfl) rfl rfl (Or.inl rfl) ?_
        have g103 : -2147483648 ≤ (h31c.1 66 64) ∧ (h31c.1 66 64) ≤ 2147483647 := i31c.1 66 64
        refine mm_cVv (rest := []) C1 ev_X12_410 (mm_dec dk_X12_part 21 rfl) (c_X12_puts_x x.2.1 hl (d - 1) (by omega) h31c i31c (h31c.1 66 64) (by omega)) rfl rfl (Nat.le_of_ble_eq_true rfl) ⟨by decide, by decide⟩ rfl (fun h39c hp39 => ?_) (fun _ _ q => q.elim)
        obtain ⟨i39c, g39c, y39_0, y39_1⟩ := hp39
        have f39c : mm_fr [(66, 57), (66, 58), (66, 60), (66, 61), (66, 62), (66, 63), (66, 64), (66, 65), (66, 66), (66, 69)] [107] h h39c := mm_fr_tr f31c g39c (by decide +kernel)
        have q39c_105 : h39c.1 66 57 = h31c.1 66 57 := g39c.1 66 57 (by decide)
        have q39c_106 : h39c.1 66 60 = h31c.1 66 60 := g39c.1 66 60 (by decide)
        have q39c_107 : h39c.1 66 61 = h31c.1 66 61 := g39c.1 66 61 (by decide)
        have q39c_108 : h39c.1 66 62 = h31c.1 66 62 := g39c.1 66 62 (by decide)
        have q39c_109 : h39c.1 66 64 = h31c.1 66 64 := g39c.1 66 64 (by decide)
        have q39c_110 : h39c.1 66 70 = h31c.1 66 70 := g39c.1 66 70 (by decide)
        have q39c_111 : h39c.1 66 71 = h31c.1 66 71 := g39c.1 66 71 (by decide)
        have g112 : 0 ≤ (h39c.1 66 69) ∧ (h39c.1 66 69) ≤ 2400 := i39c.1 66 69
        refine mm_goto (tgt := 113) C (mm_dec dk_X12_part 22 rfl) (by decide) ?_
        exact J113 h39c i39c f39c (by first | exact mm_p1_of i0 w29_0 y31_0 y31_1 g31c y39_0 y39_1 g39c (by omega) (by decide) (fun _ => ⟨fun q => absurd q (by decide), fun q => absurd q (by decide)⟩) (by omega) (by omega) | exact mm_p1_of i0 w69_0 y81_0 y81_1 g81c y102_0 y102_1 g102c (by omega) ⟨by omega, by omega⟩ (fun z => ⟨fun q => ⟨by omega, by omega⟩, fun q => ⟨by omega, by omega⟩⟩) (by omega) (by omega) | exact mm_p1_bad (mm_sm_fr g110c (by decide)) y110_0)
      refine mm_icmp_le (tgt := 29) C (mm_dec dk_X12_part 11 rfl) (by decide) (fun c21 => ?_) (fun c21 => ?_)
      · skip
        exact J29 h i0 f0 (by first | exact mm_sm_rf | exact mm_sm_fr g26c (by decide))
      · skip
        refine mm_aload_n C (mm_dec dk_X12_part 12 rfl) rfl ?_
        refine mm_iconst C (mm_dec dk_X12_part 13 rfl) ⟨by decide, by decide⟩ ?_
        refine mm_cVv (rest := []) C1 ev_X12_417 (mm_dec dk_X12_part 14 rfl) (c_X12_wrong_x x.2.1 hl (d - 1) (by omega) h i0 2 (by omega)) rfl rfl (Nat.le_of_ble_eq_true rfl) ⟨by decide, by decide⟩ rfl (fun h26c hp26 => ?_) (fun _ _ q => q.elim)
        obtain ⟨i26c, g26c, y26_0⟩ := hp26
        have f26c : mm_fr [(66, 57), (66, 58), (66, 60), (66, 61), (66, 62), (66, 63), (66, 64), (66, 65), (66, 66), (66, 69)] [107] h h26c := mm_fr_tr f0 g26c (by decide +kernel)
        have q26c_114 : h26c.1 66 60 = h.1 66 60 := g26c.1 66 60 (by decide)
        have q26c_115 : h26c.1 66 61 = h.1 66 61 := g26c.1 66 61 (by decide)
        have q26c_116 : h26c.1 66 62 = h.1 66 62 := g26c.1 66 62 (by decide)
        have q26c_117 : h26c.1 66 63 = h.1 66 63 := g26c.1 66 63 (by decide)
        have q26c_118 : h26c.1 66 69 = h.1 66 69 := g26c.1 66 69 (by decide)
        have q26c_119 : h26c.1 66 70 = h.1 66 70 := g26c.1 66 70 (by decide)
        have q26c_120 : h26c.1 66 71 = h.1 66 71 := g26c.1 66 71 (by decide)
        have g121 : -2147483648 ≤ (h26c.1 66 57) ∧ (h26c.1 66 57) ≤ 2147483647 := i26c.1 66 57
        exact J29 h26c i26c f26c (by first | exact mm_sm_rf | exact mm_sm_fr g26c (by decide))
  · skip
    exact mm_vret C T (mm_dec dk_X12_part 3 rfl) (by decide : 0 ≤ 0) (by decide : 0 ≤ 0) ⟨rfl, ⟨i0, f0, by first | exact w124_0 | exact mm_pt_rf (by omega) t0⟩⟩
set_option maxRecDepth 100000 in
set_option maxHeartbeats 4000000 in
theorem c_X12_operand (l : Launch) (hl : l.stackTraces = false) (d : Nat) (hd : 4 ≤ d) (h : mH) (i0 : mm_inv h) (p1 : Int) (bp1 : 0 ≤ p1 ∧ p1 ≤ 1) (t0 : mm_tok h) (t1 : (h.1 66 57 = 0 → (mm_O h : Int) + 1 = h.1 66 71)) (t2 : h.1 66 69 + h.1 66 70 + 1000 ≤ 2397 + 2 * h.1 66 62) (t3 : h.1 66 70 ≤ h.1 66 62) : mm_Met l d yX12_operand cX12_operand 5 none [mR 66, mI p1] h (mm_pv fun h2 => mm_inv h2 ∧ mm_fr [(66, 57), (66, 58), (66, 60), (66, 61), (66, 62), (66, 63), (66, 64), (66, 65), (66, 66), (66, 69), (66, 70), (66, 71)] [107, 108, 109] h h2 ∧ mm_op h h2) mm_nx 0 0 := by
  refine mm_ofW (ls := [mR 66, mI p1, mU, mU, mU]) hl (by decide) rfl (Nat.le_of_ble_eq_true rfl) ?_
  intro x hxl C T hnm htb
  subst hxl
  have C1 := mm_OK_le (d' := d - 1 + 1) (by omega) C
  refine mm_rng (fun hr _ => ?_)
  have ap1 : -2147483648 ≤ p1 ∧ p1 < 2147483648 := mm_ok_at hr (i := 1) rfl
  have f0 : mm_fr [(66, 57), (66, 58), (66, 60), (66, 61), (66, 62), (66, 63), (66, 64), (66, 65), (66, 66), (66, 69), (66, 70), (66, 71)] [107, 108, 109] h h := mm_fr_rf
  have g1 : -2147483648 ≤ h.1 66 57 ∧ h.1 66 57 ≤ 2147483647 := i0.1 66 57
  have g2 : 0 ≤ h.1 66 69 ∧ h.1 66 69 ≤ 2400 := i0.1 66 69
  have g3 : 0 ≤ h.1 66 70 ∧ h.1 66 70 ≤ 520 := i0.1 66 70
  have g4 : 0 ≤ h.1 66 62 ∧ h.1 66 62 ≤ 500 := i0.1 66 62
  have g5 : 0 ≤ h.1 66 60 ∧ h.1 66 60 ≤ 500 := i0.1 66 60
  have g6 : -2147483648 ≤ h.1 66 61 ∧ h.1 66 61 ≤ 2147483647 := i0.1 66 61
  have g7 : 0 ≤ h.1 66 71 ∧ h.1 66 71 ≤ 6 := i0.1 66 71
  refine mm_iload_n C (mm_dec dk_X12_operand 0 rfl) rfl ?_
  refine mm_istore_nL (ls2 := [mR 66, mI p1, mI p1, mU, mU]) C (mm_dec dk_X12_operand 1 rfl) (by decide) rfl ?_
  refine mm_iconst C (mm_dec dk_X12_operand 2 rfl) ⟨by decide, by decide⟩ ?_
  have J4 : ∀ (n : Nat) (x4_2 : Int) (bx4_2 : 0 ≤ x4_2 ∧ x4_2 ≤ 1) (x4_3 : Int) (bx4_3 : 0 ≤ x4_3 ∧ x4_3 ≤ 1) (h4_ : mH) (i4_ : mm_inv h4_) (f4_ : mm_fr [(66, 57), (66, 58), (66, 60), (66, 61), (66, 62), (66, 63), (66, 64), (66, 65), (66, 66), (66, 69), (66, 70), (66, 71)] [107, 108, 109] h h4_) (w4_0 : mm_o1 h h4_), (2 * (500 - h4_.1 66 62) + x4_3 : Int) < n → mm_W x 0 0 4 [mR 66, mU, mI x4_2, mI x4_3, mU] [] h4_ := by
    intro n
    induction n with
    | zero =>
      intro x4_2 bx4_2 x4_3 bx4_3 h4_ i4_ f4_ w4_0 hm
      have g8 : -2147483648 ≤ h4_.1 66 57 ∧ h4_.1 66 57 ≤ 2147483647 := i4_.1 66 57
      have g9 : 0 ≤ h4_.1 66 69 ∧ h4_.1 66 69 ≤ 2400 := i4_.1 66 69
      have g10 : 0 ≤ h4_.1 66 70 ∧ h4_.1 66 70 ≤ 520 := i4_.1 66 70
      have g11 : 0 ≤ h4_.1 66 62 ∧ h4_.1 66 62 ≤ 500 := i4_.1 66 62
      have g12 : 0 ≤ h4_.1 66 60 ∧ h4_.1 66 60 ≤ 500 := i4_.1 66 60
      have g13 : -2147483648 ≤ h4_.1 66 61 ∧ h4_.1 66 61 ≤ 2147483647 := i4_.1 66 61
      have g14 : 0 ≤ h4_.1 66 71 ∧ h4_.1 66 71 ≤ 6 := i4_.1 66 71
      exfalso; omega
    | succ n ih4 =>
      intro x4_2 bx4_2 x4_3 bx4_3 h4_ i4_ f4_ w4_0 hm4
      have g15 : -2147483648 ≤ h4_.1 66 57 ∧ h4_.1 66 57 ≤ 2147483647 := i4_.1 66 57
      have g16 : 0 ≤ h4_.1 66 69 ∧ h4_.1 66 69 ≤ 2400 := i4_.1 66 69
      have g17 : 0 ≤ h4_.1 66 70 ∧ h4_.1 66 70 ≤ 520 := i4_.1 66 70
      have g18 : 0 ≤ h4_.1 66 62 ∧ h4_.1 66 62 ≤ 500 := i4_.1 66 62
      have g19 : 0 ≤ h4_.1 66 60 ∧ h4_.1 66 60 ≤ 500 := i4_.1 66 60
      have g20 : -2147483648 ≤ h4_.1 66 61 ∧ h4_.1 66 61 ≤ 2147483647 := i4_.1 66 61
      have g21 : 0 ≤ h4_.1 66 71 ∧ h4_.1 66 71 ≤ 6 := i4_.1 66 71
      refine mm_iload_n C (mm_dec dk_X12_operand 4 rfl) rfl ?_
      have J120 : mm_W x 0 0 120 [mR 66, mU, mU, mU, mU] [] h4_ := by
        have g22 : -2147483648 ≤ h4_.1 66 57 ∧ h4_.1 66 57 ≤ 2147483647 := i4_.1 66 57
        have g23 : 0 ≤ h4_.1 66 69 ∧ h4_.1 66 69 ≤ 2400 := i4_.1 66 69
        have g24 : 0 ≤ h4_.1 66 70 ∧ h4_.1 66 70 ≤ 520 := i4_.1 66 70
        have g25 : 0 ≤ h4_.1 66 62 ∧ h4_.1 66 62 ≤ 500 := i4_.1 66 62
        have g26 : 0 ≤ h4_.1 66 60 ∧ h4_.1 66 60 ≤ 500 := i4_.1 66 60
        have g27 : -2147483648 ≤ h4_.1 66 61 ∧ h4_.1 66 61 ≤ 2147483647 := i4_.1 66 61
        have g28 : 0 ≤ h4_.1 66 71 ∧ h4_.1 66 71 ≤ 6 := i4_.1 66 71
        have zt := w4_0.1.2.2.1
        have zw := w4_0.1.2.2.2.2.2
        refine mm_aload_n C (mm_dec dk_X12_operand 60 rfl) rfl ?_
        refine mm_cVv (rest := []) C1 ev_X12_438 (mm_dec dk_X12_operand 61 rfl) (c_X12_part x.2.1 hl (d - 1) (by omega) h4_ i4_ (by first | exact w4_0.2.1 | omega) (by first | exact w4_0.2.1 | omega) (by first | exact w4_0.2.1 | omega)) rfl rfl (Nat.le_of_ble_eq_true rfl) ⟨by decide, by decide⟩ rfl (fun h121c hp121 => ?_) (fun _ _ q => q.elim)
        obtain ⟨i121c, g121c, y121_0⟩ := hp121
        have f121c : mm_fr [(66, 57), (66, 58), (66, 60), (66, 61), (66, 62), (66, 63), (66, 64), (66, 65), (66, 66), (66, 69), (66, 70), (66, 71)] [107, 108, 109] h h121c := mm_fr_tr f4_ g121c (by decide +kernel)
        have q121c_30 : h121c.1 66 70 = h4_.1 66 70 := g121c.1 66 70 (by decide)
        have q121c_31 : h121c.1 66 71 = h4_.1 66 71 := g121c.1 66 71 (by decide)
        have g32 : -2147483648 ≤ (h121c.1 66 57) ∧ (h121c.1 66 57) ≤ 2147483647 := i121c.1 66 57
        have g33 : 0 ≤ (h121c.1 66 69) ∧ (h121c.1 66 69) ≤ 2400 := i121c.1 66 69
        have g34 : 0 ≤ (h121c.1 66 62) ∧ (h121c.1 66 62) ≤ 500 := i121c.1 66 62
        have g35 : 0 ≤ (h121c.1 66 60) ∧ (h121c.1 66 60) ≤ 500 := i121c.1 66 60
        have g36 : -2147483648 ≤ (h121c.1 66 61) ∧ (h121c.1 66 61) ≤ 2147483647 := i121c.1 66 61
        exact mm_vret C T (mm_dec dk_X12_operand 62 rfl) (by decide : 0 ≤ 0) (by decide : 0 ≤ 0) ⟨rfl, ⟨i121c, f121c, by exact mm_op_of w4_0 y121_0 (g121c.1 66 70 (by decide)) (g121c.1 66 71 (by decide)) (fun j => g121c.2 108 (by decide) j)⟩⟩
      refine mm_if_eq (tgt := 120) C (mm_dec dk_X12_operand 5 rfl) (by decide) (fun c5 => ?_) (fun c5 => ?_)
      · skip
        refine mm_fgt 2 ?_
        refine mm_fgt 3 ?_
        exact J120
      · skip
        refine mm_aload_n C (mm_dec dk_X12_operand 6 rfl) rfl ?_
        refine mm_cVi (rest := []) C1 ev_X12_413 (mm_dec dk_X12_operand 7 rfl) (c_X12_isGood x.2.1 hl (d - 1) (by omega) h4_ i4_ ) rfl rfl (Nat.le_of_ble_eq_true rfl) ⟨by decide, by decide⟩ rfl (fun r9 h9c hp9 => ?_) (fun _ _ q => q.elim)
        obtain ⟨z9, y9⟩ := hp9
        rw [z9]
        refine mm_if_eq (tgt := 120) C (mm_dec dk_X12_operand 8 rfl) (by decide) (fun c12 => ?_) (fun c12 => ?_)
        · skip
          refine mm_fgt 2 ?_
          refine mm_fgt 3 ?_
          exact J120
        · skip
          refine mm_iconst C (mm_dec dk_X12_operand 9 rfl) ⟨by decide, by decide⟩ ?_
          have J18 : ∀ (n : Nat) (x18_4 : Int) (bx18_4 : 0 ≤ x18_4 ∧ x18_4 ≤ 7) (h18_ : mH) (i18_ : mm_inv h18_) (f18_ : mm_fr [(66, 57), (66, 58), (66, 60), (66, 61), (66, 62), (66, 63), (66, 64), (66, 65), (66, 66), (66, 69), (66, 70), (66, 71)] [107, 108, 109] h h18_) (w18_0 : mm_o1 h h18_) (w18_1 : h4_.1 66 62 ≤ h18_.1 66 62) (w18_2 : (x18_4 ≤ 6 ∨ h18_.1 66 57 ≠ 0)), (7 - x18_4 : Int) < n → mm_W x 0 0 18 [mR 66, mU, mI x4_2, mU, mI x18_4] [] h18_ := by
            intro n
            induction n with
            | zero =>
              intro x18_4 bx18_4 h18_ i18_ f18_ w18_0 w18_1 w18_2 hm
              have g38 : -2147483648 ≤ h18_.1 66 57 ∧ h18_.1 66 57 ≤ 2147483647 := i18_.1 66 57
              have g39 : 0 ≤ h18_.1 66 69 ∧ h18_.1 66 69 ≤ 2400 := i18_.1 66 69
              have g40 : 0 ≤ h18_.1 66 70 ∧ h18_.1 66 70 ≤ 520 := i18_.1 66 70
              have g41 : 0 ≤ h18_.1 66 62 ∧ h18_.1 66 62 ≤ 500 := i18_.1 66 62
              have g42 : 0 ≤ h18_.1 66 60 ∧ h18_.1 66 60 ≤ 500 := i18_.1 66 60
              have g43 : -2147483648 ≤ h18_.1 66 61 ∧ h18_.1 66 61 ≤ 2147483647 := i18_.1 66 61
              have g44 : 0 ≤ h18_.1 66 71 ∧ h18_.1 66 71 ≤ 6 := i18_.1 66 71
              exfalso; omega
            | succ n ih18 =>
              intro x18_4 bx18_4 h18_ i18_ f18_ w18_0 w18_1 w18_2 hm18
              have g45 : -2147483648 ≤ h18_.1 66 57 ∧ h18_.1 66 57 ≤ 2147483647 := i18_.1 66 57
              have g46 : 0 ≤ h18_.1 66 69 ∧ h18_.1 66 69 ≤ 2400 := i18_.1 66 69
              have g47 : 0 ≤ h18_.1 66 70 ∧ h18_.1 66 70 ≤ 520 := i18_.1 66 70
              have g48 : 0 ≤ h18_.1 66 62 ∧ h18_.1 66 62 ≤ 500 := i18_.1 66 62
              have g49 : 0 ≤ h18_.1 66 60 ∧ h18_.1 66 60 ≤ 500 := i18_.1 66 60
              have g50 : -2147483648 ≤ h18_.1 66 61 ∧ h18_.1 66 61 ≤ 2147483647 := i18_.1 66 61
              have g51 : 0 ≤ h18_.1 66 71 ∧ h18_.1 66 71 ≤ 6 := i18_.1 66 71
              refine mm_aload_n C (mm_dec dk_X12_operand 11 rfl) rfl ?_
              refine mm_cVi (rest := []) C1 ev_X12_413 (mm_dec dk_X12_operand 12 rfl) (c_X12_isGood x.2.1 hl (d - 1) (by omega) h18_ i18_ ) rfl rfl (Nat.le_of_ble_eq_true rfl) ⟨by decide, by decide⟩ rfl (fun r19 h19c hp19 => ?_) (fun _ _ q => q.elim)
              obtain ⟨z19, y19⟩ := hp19
              rw [z19]
              have J75 : mm_W x 0 0 75 [mR 66, mU, mI x4_2, mU, mU] [] h18_ := by
                have g53 : -2147483648 ≤ h18_.1 66 57 ∧ h18_.1 66 57 ≤ 2147483647 := i18_.1 66 57
                have g54 : 0 ≤ h18_.1 66 69 ∧ h18_.1 66 69 ≤ 2400 := i18_.1 66 69
                have g55 : 0 ≤ h18_.1 66 70 ∧ h18_.1 66 70 ≤ 520 := i18_.1 66 70
                have g56 : 0 ≤ h18_.1 66 62 ∧ h18_.1 66 62 ≤ 500 := i18_.1 66 62
                have g57 : 0 ≤ h18_.1 66 60 ∧ h18_.1 66 60 ≤ 500 := i18_.1 66 60
                have g58 : -2147483648 ≤ h18_.1 66 61 ∧ h18_.1 66 61 ≤ 2147483647 := i18_.1 66 61
                have g59 : 0 ≤ h18_.1 66 71 ∧ h18_.1 66 71 ≤ 6 := i18_.1 66 71
                refine mm_aload_n C (mm_dec dk_X12_operand 37 rfl) rfl ?_
                refine mm_cVi (rest := []) C1 ev_X12_413 (mm_dec dk_X12_operand 38 rfl) (c_X12_isGood x.2.1 hl (d - 1) (by omega) h18_ i18_ ) rfl rfl (Nat.le_of_ble_eq_true rfl) ⟨by decide, by decide⟩ rfl (fun r76 h76c hp76 => ?_) (fun _ _ q => q.elim)
                obtain ⟨z76, y76⟩ := hp76
                rw [z76]
                have J96 : ∀ (s96_0 : Int) (bs96_0 : 0 ≤ s96_0 ∧ s96_0 ≤ 1) (w96_0 : (s96_0 = 0 ∨ (h18_.1 66 57 = 0 ∧ h18_.1 66 61 = 3))) (vs96_0 : (s96_0 = 0) ∨ (r76 ≠ 0 ∧ s96_0 = 1)), mm_W x 0 0 96 [mR 66, mU, mI x4_2, mU, mU] [mI s96_0] h18_ := by
                  intro s96_0 bs96_0 w96_0 vs96_0
                  have g61 : -2147483648 ≤ h18_.1 66 57 ∧ h18_.1 66 57 ≤ 2147483647 := i18_.1 66 57
                  have g62 : 0 ≤ h18_.1 66 69 ∧ h18_.1 66 69 ≤ 2400 := i18_.1 66 69
                  have g63 : 0 ≤ h18_.1 66 70 ∧ h18_.1 66 70 ≤ 520 := i18_.1 66 70
                  have g64 : 0 ≤ h18_.1 66 62 ∧ h18_.1 66 62 ≤ 500 := i18_.1 66 62
                  have g65 : 0 ≤ h18_.1 66 60 ∧ h18_.1 66 60 ≤ 500 := i18_.1 66 60
                  have g66 : -2147483648 ≤ h18_.1 66 61 ∧ h18_.1 66 61 ≤ 2147483647 := i18_.1 66 61
                  have g67 : 0 ≤ h18_.1 66 71 ∧ h18_.1 66 71 ≤ 6 := i18_.1 66 71
                  refine mm_istore_nL (ls2 := [mR 66, mU, mI x4_2, mI s96_0, mU]) C (mm_dec dk_X12_operand 47 rfl) (by decide) rfl ?_
                  refine mm_iload_n C (mm_dec dk_X12_operand 48 rfl) rfl ?_
                  have J117 : ∀ (x117_2 : Int) (bx117_2 : 0 ≤ x117_2 ∧ x117_2 ≤ 1) (h117_ : mH) (i117_ : mm_inv h117_) (f117_ : mm_fr [(66, 57), (66, 58), (66, 60), (66, 61), (66, 62), (66, 63), (66, 64), (66, 65), (66, 66), (66, 69), (66, 70), (66, 71)] [107, 108, 109] h h117_) (w117_0 : mm_o1 h h117_) (w117_1 : (s96_0 = 0 ∨ h4_.1 66 62 + 1 ≤ h117_.1 66 62)) (w117_2 : h4_.1 66 62 ≤ h117_.1 66 62), mm_W x 0 0 117 [mR 66, mU, mI x117_2, mI s96_0, mU] [] h117_ := by
                    intro x117_2 bx117_2 h117_ i117_ f117_ w117_0 w117_1 w117_2
                    have g68 : -2147483648 ≤ h117_.1 66 57 ∧ h117_.1 66 57 ≤ 2147483647 := i117_.1 66 57
                    have g69 : 0 ≤ h117_.1 66 69 ∧ h117_.1 66 69 ≤ 2400 := i117_.1 66 69
                    have g70 : 0 ≤ h117_.1 66 70 ∧ h117_.1 66 70 ≤ 520 := i117_.1 66 70
                    have g71 : 0 ≤ h117_.1 66 62 ∧ h117_.1 66 62 ≤ 500 := i117_.1 66 62
                    have g72 : 0 ≤ h117_.1 66 60 ∧ h117_.1 66 60 ≤ 500 := i117_.1 66 60
                    have g73 : -2147483648 ≤ h117_.1 66 61 ∧ h117_.1 66 61 ≤ 2147483647 := i117_.1 66 61
                    have g74 : 0 ≤ h117_.1 66 71 ∧ h117_.1 66 71 ≤ 6 := i117_.1 66 71
                    refine mm_goto (tgt := 4) C (mm_dec dk_X12_operand 59 rfl) (by decide) ?_
                    exact ih4 x117_2 ⟨by omega, by omega⟩ s96_0 ⟨by omega, by omega⟩ h117_ i117_ f117_ (by first | exact mm_o1_rf t0 t1 | exact w117_0) (by omega)
                  refine mm_if_eq (tgt := 117) C (mm_dec dk_X12_operand 49 rfl) (by decide) (fun c98 => ?_) (fun c98 => ?_)
                  · skip
                    exact J117 x4_2 ⟨by omega, by omega⟩ h18_ i18_ f18_ (by first | exact w18_0 | exact zo.1) (by omega) (by omega)
                  · skip
                    have zw := w18_0.1.2.2.2.2.2
                    have zt := w18_0.1.2.2.1
                    refine mm_aload_n C (mm_dec dk_X12_operand 50 rfl) rfl ?_
                    refine mm_bipush C (mm_dec dk_X12_operand 51 rfl) ⟨by decide, by decide⟩ ?_
                    refine mm_cVv (rest := []) C1 ev_X12_432 (mm_dec dk_X12_operand 52 rfl) (c_X12_waitsFor_x x.2.1 hl (d - 1) (by omega) h18_ i18_ 13 (by omega)) rfl rfl (Nat.le_of_ble_eq_true rfl) ⟨by decide, by decide⟩ rfl (fun h104c hp104 => ?_) (fun _ _ q => q.elim)
                    obtain ⟨i104c, g104c, y104_0, y104_1⟩ := hp104
                    have f104c : mm_fr [(66, 57), (66, 58), (66, 60), (66, 61), (66, 62), (66, 63), (66, 64), (66, 65), (66, 66), (66, 69), (66, 70), (66, 71)] [107, 108, 109] h h104c := mm_fr_tr f18_ g104c (by decide +kernel)
                    have q104c_76 : h104c.1 66 57 = h18_.1 66 57 := g104c.1 66 57 (by decide)
                    have q104c_77 : h104c.1 66 60 = h18_.1 66 60 := g104c.1 66 60 (by decide)
                    have q104c_78 : h104c.1 66 61 = h18_.1 66 61 := g104c.1 66 61 (by decide)
                    have q104c_79 : h104c.1 66 62 = h18_.1 66 62 := g104c.1 66 62 (by decide)
                    have q104c_80 : h104c.1 66 69 = h18_.1 66 69 := g104c.1 66 69 (by decide)
                    have q104c_81 : h104c.1 66 71 = h18_.1 66 71 := g104c.1 66 71 (by decide)
                    have g82 : 0 ≤ (h104c.1 66 70) ∧ (h104c.1 66 70) ≤ 520 := i104c.1 66 70
                    refine mm_aload_n C (mm_dec dk_X12_operand 53 rfl) rfl ?_
                    refine mm_cVv (rest := []) C1 ev_X12_423 (mm_dec dk_X12_operand 54 rfl) (c_X12_goes x.2.1 hl (d - 1) (by omega) h104c i104c ) rfl rfl (Nat.le_of_ble_eq_true rfl) ⟨by decide, by decide⟩ rfl (fun h108c hp108 => ?_) (fun _ _ q => q.elim)
                    obtain ⟨i108c, g108c, y108_0, y108_1, y108_2⟩ := hp108
                    have f108c : mm_fr [(66, 57), (66, 58), (66, 60), (66, 61), (66, 62), (66, 63), (66, 64), (66, 65), (66, 66), (66, 69), (66, 70), (66, 71)] [107, 108, 109] h h108c := mm_fr_tr f104c g108c (by decide +kernel)
                    have q108c_84 : h108c.1 66 57 = h104c.1 66 57 := g108c.1 66 57 (by decide)
                    have q108c_85 : h108c.1 66 69 = h104c.1 66 69 := g108c.1 66 69 (by decide)
                    have q108c_86 : h108c.1 66 70 = h104c.1 66 70 := g108c.1 66 70 (by decide)
                    have q108c_87 : h108c.1 66 71 = h104c.1 66 71 := g108c.1 66 71 (by decide)
                    have g88 : 0 ≤ (h108c.1 66 62) ∧ (h108c.1 66 62) ≤ 500 := i108c.1 66 62
                    have g89 : 0 ≤ (h108c.1 66 60) ∧ (h108c.1 66 60) ≤ 500 := i108c.1 66 60
                    have g90 : -2147483648 ≤ (h108c.1 66 61) ∧ (h108c.1 66 61) ≤ 2147483647 := i108c.1 66 61
                    refine mm_aload_n C (mm_dec dk_X12_operand 55 rfl) rfl ?_
                    refine mm_cVv (rest := []) C1 ev_X12_435 (mm_dec dk_X12_operand 56 rfl) (c_X12_begins_x x.2.1 hl (d - 1) (by omega) h108c i108c ) rfl rfl (Nat.le_of_ble_eq_true rfl) ⟨by decide, by decide⟩ rfl (fun h112c hp112 => ?_) (fun _ _ q => q.elim)
                    obtain ⟨i112c, g112c, y112_0⟩ := hp112
                    have f112c : mm_fr [(66, 57), (66, 58), (66, 60), (66, 61), (66, 62), (66, 63), (66, 64), (66, 65), (66, 66), (66, 69), (66, 70), (66, 71)] [107, 108, 109] h h112c := mm_fr_tr f108c g112c (by decide +kernel)
                    have q112c_92 : h112c.1 66 60 = h108c.1 66 60 := g112c.1 66 60 (by decide)
                    have q112c_93 : h112c.1 66 61 = h108c.1 66 61 := g112c.1 66 61 (by decide)
                    have q112c_94 : h112c.1 66 62 = h108c.1 66 62 := g112c.1 66 62 (by decide)
                    have q112c_95 : h112c.1 66 69 = h108c.1 66 69 := g112c.1 66 69 (by decide)
                    have q112c_96 : h112c.1 66 70 = h108c.1 66 70 := g112c.1 66 70 (by decide)
                    have g97 : -2147483648 ≤ (h112c.1 66 57) ∧ (h112c.1 66 57) ≤ 2147483647 := i112c.1 66 57
                    have g98 : 0 ≤ (h112c.1 66 71) ∧ (h112c.1 66 71) ≤ 6 := i112c.1 66 71
                    have zo := mm_o1_open w18_0 i18_ (by omega) y104_0 y104_1 g104c g108c y108_0 y108_1 y108_2 g112c y112_0
                    have zp := zo.2
                    refine mm_iconst C (mm_dec dk_X12_operand 57 rfl) ⟨by decide, by decide⟩ ?_
                    refine mm_istore_nL (ls2 := [mR 66, mU, mI 1, mI s96_0, mU]) C (mm_dec dk_X12_operand 58 rfl) (by decide) rfl ?_
                    exact J117 1 ⟨by omega, by omega⟩ h112c i112c f112c (by first | exact w18_0 | exact zo.1) (by omega) (by omega)
                have J95 : mm_W x 0 0 95 [mR 66, mU, mI x4_2, mU, mU] [] h18_ := by
                  have g99 : -2147483648 ≤ h18_.1 66 57 ∧ h18_.1 66 57 ≤ 2147483647 := i18_.1 66 57
                  have g100 : 0 ≤ h18_.1 66 69 ∧ h18_.1 66 69 ≤ 2400 := i18_.1 66 69
                  have g101 : 0 ≤ h18_.1 66 70 ∧ h18_.1 66 70 ≤ 520 := i18_.1 66 70
                  have g102 : 0 ≤ h18_.1 66 62 ∧ h18_.1 66 62 ≤ 500 := i18_.1 66 62
                  have g103 : 0 ≤ h18_.1 66 60 ∧ h18_.1 66 60 ≤ 500 := i18_.1 66 60
                  have g104 : -2147483648 ≤ h18_.1 66 61 ∧ h18_.1 66 61 ≤ 2147483647 := i18_.1 66 61
                  have g105 : 0 ≤ h18_.1 66 71 ∧ h18_.1 66 71 ≤ 6 := i18_.1 66 71
                  refine mm_iconst C (mm_dec dk_X12_operand 46 rfl) ⟨by decide, by decide⟩ ?_
                  exact J96 0 ⟨by omega, by omega⟩ (by omega) (Or.inl rfl)
                refine mm_if_eq (tgt := 95) C (mm_dec dk_X12_operand 39 rfl) (by decide) (fun c79 => ?_) (fun c79 => ?_)
                · skip
                  exact J95
                · skip
                  refine mm_aload_n C (mm_dec dk_X12_operand 40 rfl) rfl ?_
                  refine mm_bipush C (mm_dec dk_X12_operand 41 rfl) ⟨by decide, by decide⟩ ?_
                  refine mm_cVi (rest := []) C1 ev_X12_429 (mm_dec dk_X12_operand 42 rfl) (c_X12_isSign x.2.1 hl (d - 1) (by omega) h18_ i18_ 40) rfl rfl (Nat.le_of_ble_eq_true rfl) ⟨by decide, by decide⟩ rfl (fun r85 h85c hp85 => ?_) (fun _ _ q => q.elim)
                  obtain ⟨z85, y85⟩ := hp85
                  rw [z85]
                  have g107 : -2147483648 ≤ (h18_.1 66 65) ∧ (h18_.1 66 65) ≤ 2147483647 := i18_.1 66 65
                  refine mm_if_eq (tgt := 95) C (mm_dec dk_X12_operand 43 rfl) (by decide) (fun c88 => ?_) (fun c88 => ?_)
                  · skip
                    exact J95
                  · skip
                    refine mm_iconst C (mm_dec dk_X12_operand 44 rfl) ⟨by decide, by decide⟩ ?_
                    refine mm_goto (tgt := 96) C (mm_dec dk_X12_operand 45 rfl) (by decide) ?_
                    exact J96 1 ⟨by omega, by omega⟩ (by omega) (Or.inr (⟨by omega, rfl⟩))
              refine mm_if_eq (tgt := 75) C (mm_dec dk_X12_operand 13 rfl) (by decide) (fun c22 => ?_) (fun c22 => ?_)
              · skip
                refine mm_fgt 4 ?_
                exact J75
              · skip
                refine mm_iload_n C (mm_dec dk_X12_operand 14 rfl) rfl ?_
                refine mm_if_eq (tgt := 75) C (mm_dec dk_X12_operand 15 rfl) (by decide) (fun c26 => ?_) (fun c26 => ?_)
                · skip
                  refine mm_fgt 4 ?_
                  exact J75
                · skip
                  refine mm_aload_n C (mm_dec dk_X12_operand 16 rfl) rfl ?_
                  refine mm_cVi (rest := []) C1 ev_X12_419 (mm_dec dk_X12_operand 17 rfl) (c_X12_knownWord_x x.2.1 hl (d - 1) (by omega) h18_ i18_ ) rfl rfl (Nat.le_of_ble_eq_true rfl) ⟨by decide, by decide⟩ rfl (fun r30 h30c hp30 => ?_) (fun _ _ q => q.elim)
                  obtain ⟨b30, z30, y30_0⟩ := hp30
                  rw [z30]
                  refine mm_bipush C (mm_dec dk_X12_operand 18 rfl) ⟨by decide, by decide⟩ ?_
                  refine mm_icmp_ne (tgt := 75) C (mm_dec dk_X12_operand 19 rfl) (by decide) (fun c35 => ?_) (fun c35 => ?_)
                  · skip
                    refine mm_fgt 4 ?_
                    exact J75
                  · skip
                    refine mm_iload C (mm_dec dk_X12_operand 20 rfl) rfl ?_
                    refine mm_bipush C (mm_dec dk_X12_operand 21 rfl) ⟨by decide, by decide⟩ ?_
                    have J50 : ∀ (h50_ : mH) (i50_ : mm_inv h50_) (f50_ : mm_fr [(66, 57), (66, 58), (66, 60), (66, 61), (66, 62), (66, 63), (66, 64), (66, 65), (66, 66), (66, 69), (66, 70), (66, 71)] [107, 108, 109] h h50_) (w50_0 : mm_sm h18_ h50_) (w50_1 : (h50_.1 66 57 = 0 → h18_.1 66 57 = 0 ∧ x18_4 ≠ 6)), mm_W x 0 0 50 [mR 66, mU, mI x4_2, mU, mI x18_4] [] h50_ := by
                      intro h50_ i50_ f50_ w50_0 w50_1
                      have g109 : -2147483648 ≤ h50_.1 66 57 ∧ h50_.1 66 57 ≤ 2147483647 := i50_.1 66 57
                      have g110 : 0 ≤ h50_.1 66 69 ∧ h50_.1 66 69 ≤ 2400 := i50_.1 66 69
                      have g111 : 0 ≤ h50_.1 66 70 ∧ h50_.1 66 70 ≤ 520 := i50_.1 66 70
                      have g112 : 0 ≤ h50_.1 66 62 ∧ h50_.1 66 62 ≤ 500 := i50_.1 66 62
                      have g113 : 0 ≤ h50_.1 66 60 ∧ h50_.1 66 60 ≤ 500 := i50_.1 66 60
                      have g114 : -2147483648 ≤ h50_.1 66 61 ∧ h50_.1 66 61 ≤ 2147483647 := i50_.1 66 61
                      have g115 : 0 ≤ h50_.1 66 71 ∧ h50_.1 66 71 ≤ 6 := i50_.1 66 71
                      have z62 := w50_0.2.2.1
                      refine mm_iincL (ls2 := [mR 66, mU, mI x4_2, mU, mI (x18_4 + 1)]) C (mm_dec dk_X12_operand 26 rfl) rfl (by decide) ⟨by omega, by omega⟩ rfl ?_
                      refine mm_aload_n C (mm_dec dk_X12_operand 27 rfl) rfl ?_
                      refine mm_cVi (rest := []) C1 ev_X12_413 (mm_dec dk_X12_operand 28 rfl) (c_X12_isGood x.2.1 hl (d - 1) (by omega) h50_ i50_ ) rfl rfl (Nat.le_of_ble_eq_true rfl) ⟨by decide, by decide⟩ rfl (fun r54 h54c hp54 => ?_) (fun _ _ q => q.elim)
                      obtain ⟨z54, y54⟩ := hp54
                      rw [z54]
                      refine mm_if_ne (tgt := 63) C (mm_dec dk_X12_operand 29 rfl) (by decide) (fun c57 => ?_) (fun c57 => ?_)
                      · skip
                        have zs := w50_0.2.2.2.2.1
                        have z70 := w50_0.2.1
                        have z62 := w50_0.2.2.1
                        have z69 := w50_0.1
                        have zw := w18_0.1.2.2.2.2.2
                        have zt := w18_0.1.2.2.1
                        refine mm_aload_n C (mm_dec dk_X12_operand 31 rfl) rfl ?_
                        refine mm_iconst C (mm_dec dk_X12_operand 32 rfl) ⟨by decide, by decide⟩ ?_
                        refine mm_cVv (rest := []) C1 ev_X12_432 (mm_dec dk_X12_operand 33 rfl) (c_X12_waitsFor_x x.2.1 hl (d - 1) (by omega) h50_ i50_ 4 (by omega)) rfl rfl (Nat.le_of_ble_eq_true rfl) ⟨by decide, by decide⟩ rfl (fun h65c hp65 => ?_) (fun _ _ q => q.elim)
                        obtain ⟨i65c, g65c, y65_0, y65_1⟩ := hp65
                        have f65c : mm_fr [(66, 57), (66, 58), (66, 60), (66, 61), (66, 62), (66, 63), (66, 64), (66, 65), (66, 66), (66, 69), (66, 70), (66, 71)] [107, 108, 109] h h65c := mm_fr_tr f50_ g65c (by decide +kernel)
                        have q65c_118 : h65c.1 66 57 = h50_.1 66 57 := g65c.1 66 57 (by decide)
                        have q65c_119 : h65c.1 66 60 = h50_.1 66 60 := g65c.1 66 60 (by decide)
                        have q65c_120 : h65c.1 66 61 = h50_.1 66 61 := g65c.1 66 61 (by decide)
                        have q65c_121 : h65c.1 66 62 = h50_.1 66 62 := g65c.1 66 62 (by decide)
                        have q65c_122 : h65c.1 66 69 = h50_.1 66 69 := g65c.1 66 69 (by decide)
                        have q65c_123 : h65c.1 66 71 = h50_.1 66 71 := g65c.1 66 71 (by decide)
                        have g124 : 0 ≤ (h65c.1 66 70) ∧ (h65c.1 66 70) ≤ 520 := i65c.1 66 70
                        refine mm_aload_n C (mm_dec dk_X12_operand 34 rfl) rfl ?_
                        refine mm_cVv (rest := []) C1 ev_X12_423 (mm_dec dk_X12_operand 35 rfl) (c_X12_goes x.2.1 hl (d - 1) (by omega) h65c i65c ) rfl rfl (Nat.le_of_ble_eq_true rfl) ⟨by decide, by decide⟩ rfl (fun h69c hp69 => ?_) (fun _ _ q => q.elim)
                        obtain ⟨i69c, g69c, y69_0, y69_1, y69_2⟩ := hp69
                        have f69c : mm_fr [(66, 57), (66, 58), (66, 60), (66, 61), (66, 62), (66, 63), (66, 64), (66, 65), (66, 66), (66, 69), (66, 70), (66, 71)] [107, 108, 109] h h69c := mm_fr_tr f65c g69c (by decide +kernel)
                        have q69c_126 : h69c.1 66 57 = h65c.1 66 57 := g69c.1 66 57 (by decide)
                        have q69c_127 : h69c.1 66 69 = h65c.1 66 69 := g69c.1 66 69 (by decide)
                        have q69c_128 : h69c.1 66 70 = h65c.1 66 70 := g69c.1 66 70 (by decide)
                        have q69c_129 : h69c.1 66 71 = h65c.1 66 71 := g69c.1 66 71 (by decide)
                        have g130 : 0 ≤ (h69c.1 66 62) ∧ (h69c.1 66 62) ≤ 500 := i69c.1 66 62
                        have g131 : 0 ≤ (h69c.1 66 60) ∧ (h69c.1 66 60) ≤ 500 := i69c.1 66 60
                        have g132 : -2147483648 ≤ (h69c.1 66 61) ∧ (h69c.1 66 61) ≤ 2147483647 := i69c.1 66 61
                        have zo := mm_o1_not (mm_o1_sm w18_0 w50_0 (by omega)) i50_ (by omega) y65_0 y65_1 g65c g69c y69_0 y69_1 y69_2
                        have zp := zo.2
                        refine mm_goto (tgt := 18) C (mm_dec dk_X12_operand 36 rfl) (by decide) ?_
                        exact ih18 (x18_4 + 1) ⟨by omega, by omega⟩ h69c i69c f69c (by first | exact w4_0 | exact zo.1 | exact mm_o1_sm w18_0 w50_0 (by omega)) (by omega) (by omega) (by omega)
                      · skip
                        refine mm_goto (tgt := 18) C (mm_dec dk_X12_operand 30 rfl) (by decide) ?_
                        exact ih18 (x18_4 + 1) ⟨by omega, by omega⟩ h50_ i50_ f50_ (by first | exact w4_0 | exact zo.1 | exact mm_o1_sm w18_0 w50_0 (by omega)) (by omega) (by omega) (by omega)
                    refine mm_icmp_ne (tgt := 50) C (mm_dec dk_X12_operand 22 rfl) (by decide) (fun c42 => ?_) (fun c42 => ?_)
                    · skip
                      exact J50 h18_ i18_ f18_ (by first | exact mm_sm_rf | exact mm_sm_fr g47c (by decide)) (by omega)
                    · skip
                      refine mm_aload_n C (mm_dec dk_X12_operand 23 rfl) rfl ?_
                      refine mm_iconst C (mm_dec dk_X12_operand 24 rfl) ⟨by decide, by decide⟩ ?_
                      refine mm_cVv (rest := []) C1 ev_X12_417 (mm_dec dk_X12_operand 25 rfl) (c_X12_wrong_x x.2.1 hl (d - 1) (by omega) h18_ i18_ 2 (by omega)) rfl rfl (Nat.le_of_ble_eq_true rfl) ⟨by decide, by decide⟩ rfl (fun h47c hp47 => ?_) (fun _ _ q => q.elim)
                      obtain ⟨i47c, g47c, y47_0⟩ := hp47
                      have f47c : mm_fr [(66, 57), (66, 58), (66, 60), (66, 61), (66, 62), (66, 63), (66, 64), (66, 65), (66, 66), (66, 69), (66, 70), (66, 71)] [107, 108, 109] h h47c := mm_fr_tr f18_ g47c (by decide +kernel)
                      have q47c_134 : h47c.1 66 60 = h18_.1 66 60 := g47c.1 66 60 (by decide)
                      have q47c_135 : h47c.1 66 61 = h18_.1 66 61 := g47c.1 66 61 (by decide)
                      have q47c_136 : h47c.1 66 62 = h18_.1 66 62 := g47c.1 66 62 (by decide)
                      have q47c_137 : h47c.1 66 69 = h18_.1 66 69 := g47c.1 66 69 (by decide)
                      have q47c_138 : h47c.1 66 70 = h18_.1 66 70 := g47c.1 66 70 (by decide)
                      have q47c_139 : h47c.1 66 71 = h18_.1 66 71 := g47c.1 66 71 (by decide)
                      have g140 : -2147483648 ≤ (h47c.1 66 57) ∧ (h47c.1 66 57) ≤ 2147483647 := i47c.1 66 57
                      exact J50 h47c i47c f47c (by first | exact mm_sm_rf | exact mm_sm_fr g47c (by decide)) (by omega)
          refine mm_istoreL (ls2 := [mR 66, mU, mI x4_2, mI x4_3, mI 0]) C (mm_dec dk_X12_operand 10 rfl) (by decide) rfl ?_
          refine mm_fgt 3 ?_
          exact J18 (((7 - 0) : Int) + 1).toNat 0 ⟨by omega, by omega⟩ h4_ i4_ f4_ (by first | exact w4_0 | exact zo.1 | exact mm_o1_sm w18_0 w50_0 (by omega)) (by omega) (by omega) (by omega)
  refine mm_istore_nL (ls2 := [mR 66, mI p1, mI p1, mI 1, mU]) C (mm_dec dk_X12_operand 3 rfl) (by decide) rfl ?_
  refine mm_fgt 1 ?_
  exact J4 (((2 * (500 - h.1 66 62) + 1) : Int) + 1).toNat p1 ⟨by omega, by omega⟩ 1 ⟨by omega, by omega⟩ h i0 f0 (by first | exact mm_o1_rf t0 t1 | exact w117_0) (by omega)
