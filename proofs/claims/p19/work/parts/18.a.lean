/-! ===== the reference's least ways: where a move leads, what it takes, the order in which cells are done ===== -/
def mm_lea1 (h : mH) (x y wl : Int) : Int := if x < 0 ∨ y < 0 ∨ h.1 66 1 ≤ x ∨ h.1 66 2 ≤ y ∨ wl ≠ 0 ∨ h.2.1 69 (h.2.1 67 (20 * y + x)) = 0 then -1 else 20 * y + x
def mm_lea (h : mH) (c m : Int) : Int :=
  if m = 1 then mm_lea1 h (c % 20 + 1) (c / 20 + 0) (h.2.1 70 c)
  else if m = 3 then mm_lea1 h (c % 20 + (-1)) (c / 20 + 0) (h.2.1 70 (20 * (c / 20 + 0) + (c % 20 + (-1))))
  else if m = 2 then mm_lea1 h (c % 20 + 0) (c / 20 + 1) (h.2.1 71 c)
  else if m = 0 then mm_lea1 h (c % 20 + 0) (c / 20 + (-1)) (h.2.1 71 (20 * (c / 20 + (-1)) + (c % 20 + 0)))
  else mm_lea1 h (c % 20 + 0) (c / 20 + 0) (h.2.1 71 (20 * (c / 20 + 0) + (c % 20 + 0)))
def mm_sec (h : mH) (a b : Int) : Int := h.2.1 69 (h.2.1 67 b) + (if 0 < h.2.1 68 b - h.2.1 68 a then h.1 66 3 * (h.2.1 68 b - h.2.1 68 a) else 0)
def mm_lnd (h h' : mH) : Prop := h'.1 66 1 = h.1 66 1 ∧ h'.1 66 2 = h.1 66 2 ∧ h'.1 66 3 = h.1 66 3 ∧ (∀ j, h'.2.1 67 j = h.2.1 67 j) ∧ (∀ j, h'.2.1 68 j = h.2.1 68 j) ∧ (∀ j, h'.2.1 69 j = h.2.1 69 j) ∧ (∀ j, h'.2.1 70 j = h.2.1 70 j) ∧ (∀ j, h'.2.1 71 j = h.2.1 71 j)
theorem mm_lnd_fr {wf : List (Nat × Nat)} {wa : List Nat} {h h' : mH} (f : mm_fr wf wa h h') (hw : ((66, 1) ∉ wf ∧ (66, 2) ∉ wf ∧ (66, 3) ∉ wf) ∧ 67 ∉ wa ∧ 68 ∉ wa ∧ 69 ∉ wa ∧ 70 ∉ wa ∧ 71 ∉ wa) : mm_lnd h h' :=
  ⟨f.1 66 1 hw.1.1, f.1 66 2 hw.1.2.1, f.1 66 3 hw.1.2.2, fun j => f.2 67 hw.2.1 j, fun j => f.2 68 hw.2.2.1 j, fun j => f.2 69 hw.2.2.2.1 j, fun j => f.2 70 hw.2.2.2.2.1 j, fun j => f.2 71 hw.2.2.2.2.2 j⟩
theorem mm_lea_fr {h h' : mH} (e : mm_lnd h h') (c m : Int) : mm_lea h' c m = mm_lea h c m := by
  obtain ⟨e1, e2, e3, e4, e5, e6, e7, e8⟩ := e
  unfold mm_lea mm_lea1
  simp only [e1, e2, e4, e6, e7, e8]
theorem mm_sec_fr {h h' : mH} (e : mm_lnd h h') (a b : Int) : mm_sec h' a b = mm_sec h a b := by
  obtain ⟨e1, e2, e3, e4, e5, e6, e7, e8⟩ := e
  unfold mm_sec
  simp only [e3, e4, e5, e6]
theorem mm_lea_is (h : mH) (c m : Int) : ∃ x y wl, mm_lea h c m = mm_lea1 h x y wl := by
  unfold mm_lea
  repeat' split
  all_goals exact ⟨_, _, _, rfl⟩
theorem mm_lea_tk {h : mH} {c m : Int} (hl : mm_lea h c m ≠ -1) : h.2.1 69 (h.2.1 67 (mm_lea h c m)) ≠ 0 := by
  obtain ⟨x, y, wl, e⟩ := mm_lea_is h c m
  rw [e] at hl ⊢
  unfold mm_lea1 at hl ⊢
  by_cases q : x < 0 ∨ y < 0 ∨ h.1 66 1 ≤ x ∨ h.1 66 2 ≤ y ∨ wl ≠ 0 ∨ h.2.1 69 (h.2.1 67 (20 * y + x)) = 0
  · rw [if_pos q] at hl; exact absurd rfl hl
  · rw [if_neg q]; exact fun z => q (Or.inr (Or.inr (Or.inr (Or.inr (Or.inr z)))))
theorem mm_lea_rg {h : mH} (i : mm_inv h) (c m : Int) : mm_lea h c m = -1 ∨ (0 ≤ mm_lea h c m ∧ mm_lea h c m ≤ 399) := by
  obtain ⟨x, y, wl, e⟩ := mm_lea_is h c m
  have g1 : (1 : Int) ≤ h.1 66 1 ∧ h.1 66 1 ≤ 20 := i.1 66 1
  have g2 : (1 : Int) ≤ h.1 66 2 ∧ h.1 66 2 ≤ 20 := i.1 66 2
  rw [e]
  unfold mm_lea1
  split
  · exact Or.inl rfl
  · exact Or.inr ⟨by omega, by omega⟩
theorem mm_sec_pos {h : mH} (i : mm_inv h) {c m p : Int} (hl : mm_lea h c m = p) (hp : p ≠ -1) : 1 ≤ mm_sec h c p := by
  have h1 := mm_lea_tk (h := h) (c := c) (m := m) (by rw [hl]; exact hp)
  rw [hl] at h1
  have g1 : (0 : Int) ≤ h.2.1 69 (h.2.1 67 p) ∧ h.2.1 69 (h.2.1 67 p) ≤ 99 := i.2.1 69 _
  have g2 : (0 : Int) ≤ h.1 66 3 ∧ h.1 66 3 ≤ 9 := i.1 66 3
  unfold mm_sec
  split
  next q =>
    have := Int.mul_nonneg g2.1 (show 0 ≤ h.2.1 68 p - h.2.1 68 c by omega)
    omega
  · omega
def mm_come (h h' : mH) (p : Int) : Prop := (h'.2.1 72 p = h.2.1 72 p ∧ h'.2.1 73 p = h.2.1 73 p) ∧ ∀ c, (h'.2.1 72 c = h.2.1 72 c ∧ h'.2.1 73 c = h.2.1 73 c) ∨ ((0 ≤ c ∧ c ≤ 399) ∧ (∃ m, (0 ≤ m ∧ m ≤ 3) ∧ mm_lea h c m = p) ∧ h'.2.1 72 c = h.2.1 72 p + mm_sec h c p ∧ h'.2.1 73 c = h.2.1 73 p + 1 ∧ h'.2.1 72 c ≤ h.2.1 72 c)
theorem mm_come_rf {h : mH} {p : Int} : mm_come h h p := ⟨⟨rfl, rfl⟩, fun _ => Or.inl ⟨rfl, rfl⟩⟩
theorem mm_come_put {h h' : mH} {p m c s t : Int} (R : mm_come h h' p) (hm : 0 ≤ m ∧ m ≤ 3) (hc : 0 ≤ c ∧ c ≤ 399) (hl : mm_lea h c m = p) (hs : s = h.2.1 72 p + mm_sec h c p) (ht : t = h.2.1 73 p + 1) (hle : s ≤ h'.2.1 72 c) (hne : c ≠ p) : mm_come h (mm_pa (mm_pa h' 72 c s) 73 c t) p := by
  have e1 : ∀ j, (mm_pa (mm_pa h' 72 c s) 73 c t).2.1 72 j = if j = c then s else h'.2.1 72 j := by
    intro j
    rw [mm_pa_ne _ _ (fun q => absurd q.1 (by decide))]
    by_cases q : j = c
    · rw [if_pos q, q, mm_pa_same]
    · rw [if_neg q, mm_pa_ne _ _ (fun w => q w.2)]
  have e2 : ∀ j, (mm_pa (mm_pa h' 72 c s) 73 c t).2.1 73 j = if j = c then t else h'.2.1 73 j := by
    intro j
    by_cases q : j = c
    · rw [if_pos q, q, mm_pa_same]
    · rw [if_neg q, mm_pa_ne _ _ (fun w => q w.2), mm_pa_ne _ _ (fun w => absurd w.1 (by decide))]
  refine ⟨?_, fun j => ?_⟩
  · rw [e1, e2, if_neg (Ne.symm hne), if_neg (Ne.symm hne)]; exact R.1
  · rw [e1, e2]
    by_cases q : j = c
    · subst q
      rw [if_pos rfl, if_pos rfl]
      refine Or.inr ⟨hc, ⟨m, hm, hl⟩, hs, ht, ?_⟩
      rcases R.2 j with ⟨a, _⟩ | ⟨_, _, _, _, a⟩ <;> omega
    · rw [if_neg q, if_neg q]; exact R.2 j
def mm_dn (h : mH) : Nat := mm_cn (fun j => h.2.1 76 j - 1) 400
theorem mm_dn_le (h : mH) : (mm_dn h : Int) ≤ 400 := by
  have := mm_cn_le (fun j => h.2.1 76 j - 1) 400
  unfold mm_dn
  omega
theorem mm_dn_eq {h h' : mH} (he : ∀ j, h'.2.1 76 j = h.2.1 76 j) : mm_dn h' = mm_dn h := by
  unfold mm_dn
  rw [show (fun j => h'.2.1 76 j - 1) = (fun j => h.2.1 76 j - 1) from funext (fun j => by rw [he])]
theorem mm_dn_put {h : mH} {j : Int} (hj : 0 ≤ j ∧ j ≤ 399) (h0 : h.2.1 76 j = 0) : (mm_dn h : Int) + 1 ≤ (mm_dn (mm_pa h 76 j 1) : Int) := by
  have e : ∀ z, z ≠ j → (mm_pa h 76 j 1).2.1 76 z = h.2.1 76 z := fun z hz => mm_pa_ne _ _ (fun w => hz w.2)
  have := mm_cn_more (A := fun z => h.2.1 76 z - 1) (B := fun z => (mm_pa h 76 j 1).2.1 76 z - 1) (fun z hz => by
    by_cases q : z = j
    · show (mm_pa h 76 j 1).2.1 76 z - 1 ≠ -1
      rw [q, mm_pa_same]; decide
    · show (mm_pa h 76 j 1).2.1 76 z - 1 ≠ -1
      rw [e z q]; exact hz) j.toNat (by
        show h.2.1 76 (j.toNat : Int) - 1 = -1
        rw [Int.toNat_of_nonneg hj.1, h0]; rfl) (by
        show (mm_pa h 76 j 1).2.1 76 (j.toNat : Int) - 1 ≠ -1
        rw [Int.toNat_of_nonneg hj.1, mm_pa_same]; decide) 400 (by omega)
  unfold mm_dn
  omega
def mm_dij (h : mH) (t L : Int) : Prop :=
  h.2.1 72 t = 0 ∧
  (∀ c, 0 ≤ c → c ≤ 399 → h.2.1 72 c < 1000000000 → c ≠ t → ∃ m, (0 ≤ m ∧ m ≤ 3) ∧ mm_lea h c m ≠ -1 ∧ h.2.1 76 (mm_lea h c m) = 1 ∧ h.2.1 72 (mm_lea h c m) + mm_sec h c (mm_lea h c m) = h.2.1 72 c ∧ h.2.1 73 (mm_lea h c m) + 1 = h.2.1 73 c) ∧
  (∀ c, 0 ≤ c → c ≤ 399 → h.2.1 76 c = 1 → h.2.1 72 c ≤ L ∧ h.2.1 73 c + 1 ≤ (mm_dn h : Int)) ∧
  (∀ c, 0 ≤ c → c ≤ 399 → h.2.1 76 c = 0 → L ≤ h.2.1 72 c ∧ (h.2.1 72 c < 1000000000 → h.2.1 73 c ≤ (mm_dn h : Int)))
theorem mm_dij_fr {h h' : mH} {t L : Int} (hd : mm_dij h t L) (e : mm_lnd h h') (e72 : ∀ j, h'.2.1 72 j = h.2.1 72 j) (e73 : ∀ j, h'.2.1 73 j = h.2.1 73 j) (e76 : ∀ j, h'.2.1 76 j = h.2.1 76 j) : mm_dij h' t L := by
  unfold mm_dij at *
  simp only [mm_lea_fr e, mm_sec_fr e, e72, e73, e76, mm_dn_eq e76]
  exact hd
theorem mm_dij_pick {h : mH} {t L b : Int} (hd : mm_dij h t L) (hb : 0 ≤ b ∧ b ≤ 399) (h0 : h.2.1 76 b = 0) (hf : h.2.1 72 b < 1000000000) (hmin : ∀ j, 0 ≤ j → j ≤ 399 → h.2.1 76 j = 0 → h.2.1 72 b ≤ h.2.1 72 j) : mm_dij (mm_pa h 76 b 1) t (h.2.1 72 b) := by
  have e72 : ∀ j, (mm_pa h 76 b 1).2.1 72 j = h.2.1 72 j := fun j => mm_pa_ne _ _ (fun w => absurd w.1 (by decide))
  have e73 : ∀ j, (mm_pa h 76 b 1).2.1 73 j = h.2.1 73 j := fun j => mm_pa_ne _ _ (fun w => absurd w.1 (by decide))
  have el : mm_lnd h (mm_pa h 76 b 1) := ⟨rfl, rfl, rfl, fun j => mm_pa_ne _ _ (fun w => absurd w.1 (by decide)), fun j => mm_pa_ne _ _ (fun w => absurd w.1 (by decide)), fun j => mm_pa_ne _ _ (fun w => absurd w.1 (by decide)), fun j => mm_pa_ne _ _ (fun w => absurd w.1 (by decide)), fun j => mm_pa_ne _ _ (fun w => absurd w.1 (by decide))⟩
  have e76 : ∀ j, j ≠ b → (mm_pa h 76 b 1).2.1 76 j = h.2.1 76 j := fun j hj => mm_pa_ne _ _ (fun w => hj w.2)
  have e76b : (mm_pa h 76 b 1).2.1 76 b = 1 := mm_pa_same _ _ _ _
  have hn := mm_dn_put hb h0
  have hbb := hd.2.2.2 b hb.1 hb.2 h0
  have hbm := hbb.2 hf
  generalize hg : mm_dn (mm_pa h 76 b 1) = N at hn
  unfold mm_dij
  rw [hg]
  simp only [e72, e73, mm_lea_fr el, mm_sec_fr el]
  refine ⟨hd.1, fun c h1 h2 h3 h4 => ?_, fun c h1 h2 h3 => ?_, fun c h1 h2 h3 => ?_⟩
  · obtain ⟨m, q1, q2, q3, q4, q5⟩ := hd.2.1 c h1 h2 h3 h4
    refine ⟨m, q1, q2, ?_, q4, q5⟩
    by_cases q : mm_lea h c m = b
    · rw [q]; exact e76b
    · rw [e76 _ q]; exact q3
  · by_cases q : c = b
    · subst q; exact ⟨Int.le_refl _, by omega⟩
    · rw [e76 c q] at h3
      have := hd.2.2.1 c h1 h2 h3
      exact ⟨by omega, by omega⟩
  · by_cases q : c = b
    · subst q; rw [e76b] at h3; exact absurd h3 (by decide)
    · rw [e76 c q] at h3
      have := hd.2.2.2 c h1 h2 h3
      exact ⟨hmin c h1 h2 h3, fun z => by have := this.2 z; omega⟩
theorem mm_dij_come {h h' : mH} {t L p : Int} (i : mm_inv h) (hd : mm_dij h t L) (hp : 0 ≤ p ∧ p ≤ 399) (h1 : h.2.1 76 p = 1) (hL : h.2.1 72 p = L) (f : mm_fr [] [72, 73] h h') (R : mm_come h h' p) : mm_dij h' t L ∧ h'.2.1 76 p = 1 ∧ h'.2.1 72 p = L ∧ mm_dn h' = mm_dn h := by
  have el : mm_lnd h h' := mm_lnd_fr f (by decide)
  have e76 : ∀ j, h'.2.1 76 j = h.2.1 76 j := fun j => f.2 76 (by decide) j
  have gp : (0 : Int) ≤ h.2.1 72 p ∧ h.2.1 72 p ≤ 1000000000 := i.2.1 72 p
  have hpd := hd.2.2.1 p hp.1 hp.2 h1
  have key : ∀ c, 0 ≤ c → c ≤ 399 → h.2.1 76 c = 1 → h'.2.1 72 c = h.2.1 72 c ∧ h'.2.1 73 c = h.2.1 73 c := by
    intro c c1 c2 c3
    rcases R.2 c with a | ⟨_, ⟨m, _, hm⟩, a, b, q⟩
    · exact a
    · exfalso
      have := mm_sec_pos i hm (by omega)
      have := (hd.2.2.1 c c1 c2 c3).1
      omega
  refine ⟨⟨?_, fun c c1 c2 c3 c4 => ?_, fun c c1 c2 c3 => ?_, fun c c1 c2 c3 => ?_⟩, by rw [e76]; exact h1, by rw [R.1.1]; exact hL, mm_dn_eq e76⟩
  · rcases R.2 t with a | ⟨_, ⟨m, _, hm⟩, a, b, q⟩
    · rw [a.1]; exact hd.1
    · exfalso
      have := mm_sec_pos i hm (by omega)
      have := hd.1
      omega
  · simp only [mm_lea_fr el, mm_sec_fr el, e76]
    rcases R.2 c with a | ⟨_, ⟨m, hm0, hm⟩, a, b, q⟩
    · obtain ⟨m, q1, q2, q3, q4, q5⟩ := hd.2.1 c c1 c2 (by rw [← a.1]; exact c3) c4
      have hr := (mm_lea_rg i c m).resolve_left q2
      have hk := key _ hr.1 hr.2 q3
      refine ⟨m, q1, q2, q3, ?_, ?_⟩
      · rw [hk.1, a.1]; exact q4
      · rw [hk.2, a.2]; exact q5
    · refine ⟨m, hm0, by omega, by rw [hm]; exact h1, ?_, ?_⟩
      · rw [hm, R.1.1, a]
      · rw [hm, R.1.2, b]
  · rw [e76] at c3
    have hk := key c c1 c2 c3
    rw [hk.1, hk.2, mm_dn_eq e76]
    exact hd.2.2.1 c c1 c2 c3
  · rw [e76] at c3
    rw [mm_dn_eq e76]
    rcases R.2 c with a | ⟨_, ⟨m, hm0, hm⟩, a, b, q⟩
    · rw [a.1, a.2]; exact hd.2.2.2 c c1 c2 c3
    · have := mm_sec_pos i hm (by omega)
      exact ⟨by omega, fun _ => by omega⟩
def mm_ini0 (h : mH) (n : Int) : Prop := ∀ j, 0 ≤ j → j < n → h.2.1 72 j = 1000000000 ∧ h.2.1 73 j = 0 ∧ h.2.1 76 j = 0
theorem mm_ini0_nil {h : mH} : mm_ini0 h 0 := fun j a b => absurd b (by omega)
theorem mm_ini0_put {h : mH} {n : Int} (H : mm_ini0 h n) : mm_ini0 (mm_pa (mm_pa (mm_pa (mm_pa h 72 n 1000000000) 73 n 0) 75 n 0) 76 n 0) (n + 1) := by
  intro j a b
  by_cases q : j = n
  · subst q
    refine ⟨?_, ?_, mm_pa_same _ _ _ _⟩
    · rw [mm_pa_ne _ _ (fun w => absurd w.1 (by decide)), mm_pa_ne _ _ (fun w => absurd w.1 (by decide)), mm_pa_ne _ _ (fun w => absurd w.1 (by decide))]; exact mm_pa_same _ _ _ _
    · rw [mm_pa_ne _ _ (fun w => absurd w.1 (by decide)), mm_pa_ne _ _ (fun w => absurd w.1 (by decide))]; exact mm_pa_same _ _ _ _
  · rw [mm_pa_ne _ _ (fun w => q w.2), mm_pa_ne _ _ (fun w => q w.2), mm_pa_ne _ _ (fun w => q w.2), mm_pa_ne _ _ (fun w => q w.2), mm_pa_ne _ _ (fun w => q w.2), mm_pa_ne _ _ (fun w => q w.2), mm_pa_ne _ _ (fun w => q w.2), mm_pa_ne _ _ (fun w => q w.2), mm_pa_ne _ _ (fun w => q w.2), mm_pa_ne _ _ (fun w => q w.2), mm_pa_ne _ _ (fun w => q w.2), mm_pa_ne _ _ (fun w => q w.2)]
    exact H j a (by omega)
theorem mm_dij_init {h : mH} {t n : Int} (H : mm_ini0 h n) (hn : 400 ≤ n) (ht : 0 ≤ t ∧ t ≤ 399) : mm_dij (mm_pf (mm_pa (mm_pa h 72 t 0) 75 t 1) 66 18 0) t 0 := by
  have e72 : ∀ j, j ≠ t → (mm_pf (mm_pa (mm_pa h 72 t 0) 75 t 1) 66 18 0).2.1 72 j = h.2.1 72 j := fun j hj => (mm_pa_ne _ _ (fun w => absurd w.1 (by decide))).trans (mm_pa_ne _ _ (fun w => hj w.2))
  have e72t : (mm_pf (mm_pa (mm_pa h 72 t 0) 75 t 1) 66 18 0).2.1 72 t = 0 := (mm_pa_ne _ _ (fun w => absurd w.1 (by decide))).trans (mm_pa_same _ _ _ _)
  have e73 : ∀ j, (mm_pf (mm_pa (mm_pa h 72 t 0) 75 t 1) 66 18 0).2.1 73 j = h.2.1 73 j := fun j => (mm_pa_ne _ _ (fun w => absurd w.1 (by decide))).trans (mm_pa_ne _ _ (fun w => absurd w.1 (by decide)))
  have e76 : ∀ j, (mm_pf (mm_pa (mm_pa h 72 t 0) 75 t 1) 66 18 0).2.1 76 j = h.2.1 76 j := fun j => (mm_pa_ne _ _ (fun w => absurd w.1 (by decide))).trans (mm_pa_ne _ _ (fun w => absurd w.1 (by decide)))
  refine ⟨e72t, fun c c1 c2 c3 c4 => ?_, fun c c1 c2 c3 => ?_, fun c c1 c2 c3 => ⟨?_, fun _ => ?_⟩⟩
  · rw [e72 c c4, (H c c1 (by omega)).1] at c3; exact absurd c3 (by decide)
  · rw [e76, (H c c1 (by omega)).2.2] at c3; exact absurd c3 (by decide)
  · by_cases q : c = t
    · rw [q, e72t]; exact Int.le_refl _
    · rw [e72 c q, (H c c1 (by omega)).1]; decide
  · rw [e73, (H c c1 (by omega)).2.1]; exact Int.natCast_nonneg _
def mm_bst (h : mH) (b n : Int) : Prop := (b = -1 ∨ (h.2.1 76 b = 0 ∧ h.2.1 72 b < 1000000000 ∧ ∀ j, 0 ≤ j → j < n → h.2.1 76 j = 0 → h.2.1 72 b ≤ h.2.1 72 j)) ∧ (b = -1 → ∀ j, 0 ≤ j → j < n → h.2.1 76 j = 0 → 1000000000 ≤ h.2.1 72 j)
theorem mm_bst_nil {h : mH} : mm_bst h (-1) 0 := ⟨Or.inl rfl, fun _ j a b => absurd b (by omega)⟩
theorem mm_bst_new {h : mH} {b n : Int} (H : mm_bst h b n) (h0 : h.2.1 76 n = 0) (hf : h.2.1 72 n < 1000000000) (hl : b = -1 ∨ h.2.1 72 n ≤ h.2.1 72 b) (hn : 0 ≤ n) : mm_bst h n (n + 1) := by
  refine ⟨Or.inr ⟨h0, hf, fun j a c e => ?_⟩, fun q => absurd q (by omega)⟩
  by_cases q : j = n
  · rw [q]; exact Int.le_refl _
  · rcases H.1 with z | ⟨_, _, z⟩
    · have := H.2 z j a (by omega) e; omega
    · have := z j a (by omega) e
      rcases hl with y | y
      · have := H.2 y j a (by omega) e; omega
      · omega
theorem mm_bst_old {h : mH} {b n : Int} (H : mm_bst h b n) (hs : h.2.1 76 n ≠ 0 ∨ 1000000000 ≤ h.2.1 72 n ∨ (b ≠ -1 ∧ h.2.1 72 b ≤ h.2.1 72 n)) : mm_bst h b (n + 1) := by
  refine ⟨?_, fun q j a c e => ?_⟩
  · rcases H.1 with z | ⟨z1, z2, z⟩
    · exact Or.inl z
    · refine Or.inr ⟨z1, z2, fun j a c e => ?_⟩
      by_cases q : j = n
      · subst q
        rcases hs with y | y | y
        · exact absurd e y
        · omega
        · exact y.2
      · exact z j a (by omega) e
  · by_cases w : j = n
    · subst w
      rcases hs with y | y | y
      · exact absurd e y
      · exact y
      · exact absurd q y.1
    · exact H.2 q j a (by omega) e
def mm_fm (h : mH) (c m : Int) : Prop := mm_lea h c m ≠ -1 ∧ h.2.1 72 (mm_lea h c m) + mm_sec h c (mm_lea h c m) = h.2.1 72 c ∧ h.2.1 73 (mm_lea h c m) + 1 = h.2.1 73 c
theorem mm_fm_ex {h : mH} {t L c r : Int} (hd : mm_dij h t L) (hc : 0 ≤ c ∧ c ≤ 399) (hf : h.2.1 72 c < 1000000000) (hn : c ≠ t) (hr : (0 ≤ r ∧ mm_fm h c r) ∨ (r = -1 ∧ ∀ m, 0 ≤ m → m < 4 → ¬ mm_fm h c m)) : 0 ≤ r ∧ mm_fm h c r := by
  rcases hr with q | ⟨_, q⟩
  · exact q
  · obtain ⟨m, q1, q2, _, q4, q5⟩ := hd.2.1 c hc.1 hc.2 hf hn
    exact absurd ⟨q2, q4, q5⟩ (q m q1.1 (by omega))
theorem mm_fm_step {h : mH} {c n : Int} (H : ∀ m, 0 ≤ m → m < n → ¬ mm_fm h c m) (hs : ¬ mm_fm h c n) : ∀ m, 0 ≤ m → m < n + 1 → ¬ mm_fm h c m := by
  intro m a b
  by_cases q : m = n
  · rw [q]; exact hs
  · exact H m a (by omega)
theorem mm_lnd_kept {h : mH} {i v w : Int} : mm_lnd h (mm_pf (mm_pa h 77 i v) 66 19 w) := ⟨mm_pf_ne _ _ (by decide), mm_pf_ne _ _ (by decide), mm_pf_ne _ _ (by decide), fun j => mm_pa_ne _ _ (fun w => absurd w.1 (by decide)), fun j => mm_pa_ne _ _ (fun w => absurd w.1 (by decide)), fun j => mm_pa_ne _ _ (fun w => absurd w.1 (by decide)), fun j => mm_pa_ne _ _ (fun w => absurd w.1 (by decide)), fun j => mm_pa_ne _ _ (fun w => absurd w.1 (by decide))⟩
theorem mm_arr_kept {h : mH} {i v w : Int} (o : Nat) (ho : o ≠ 77) (j : Int) : (mm_pf (mm_pa h 77 i v) 66 19 w).2.1 o j = h.2.1 o j := mm_pa_ne _ _ (fun w => ho w.1)
