/-! ===== while the objects are made: fields that wait for their value lie between 0 and 1, n objects are there ===== -/
def mm_z0 : List (Nat × Nat) := [(58, 5), (0, 12), (0, 13), (14, 8), (22, 8), (66, 22), (66, 23), (66, 41), (66, 56), (14, 7), (66, 21), (22, 9), (66, 24), (30, 6), (66, 40), (30, 12), (66, 82), (1, 8), (66, 11), (66, 12), (1, 7), (66, 9), (66, 10), (58, 8), (58, 9), (58, 10), (66, 95), (66, 96), (66, 97)]
def mm_z1 : List (Nat × Nat) := [(1, 5), (1, 6), (66, 1), (66, 2)]
def mm_bG (o k : Nat) : Int × Int := bif mm_z0.contains (o, k) then (0, 0) else bif mm_z1.contains (o, k) then (1, 1) else mm_bF o k
theorem mm_bG_in {o k : Nat} (h : mm_z0.contains (o, k) = true) : mm_bG o k = (0, 0) := by unfold mm_bG; rw [h]; rfl
theorem mm_bG_in1 {o k : Nat} (h : mm_z0.contains (o, k) = false) (h1 : mm_z1.contains (o, k) = true) : mm_bG o k = (1, 1) := by unfold mm_bG; rw [h, h1]; rfl
theorem mm_bG_out {o k : Nat} (h : mm_z0.contains (o, k) = false) (h1 : mm_z1.contains (o, k) = false) : mm_bG o k = mm_bF o k := by unfold mm_bG; rw [h, h1]; rfl
def mm_bW (S : List (Nat × Nat)) (o k : Nat) : Int × Int := bif S.contains (o, k) then (0, 1) else mm_bG o k
def mm_inp (S : List (Nat × Nat)) (n : Nat) (h : mH) : Prop := (∀ o k, (mm_bW S o k).1 ≤ h.1 o k ∧ h.1 o k ≤ (mm_bW S o k).2) ∧ (∀ (o : Nat) (j : Int), (mm_bA o).1 ≤ h.2.1 o j ∧ h.2.1 o j ≤ (mm_bA o).2) ∧ h.2.2 = n
theorem mm_bW_in {S : List (Nat × Nat)} {o k : Nat} (h : S.contains (o, k) = true) : mm_bW S o k = (0, 1) := by unfold mm_bW; rw [h]; rfl
theorem mm_bW_out {S : List (Nat × Nat)} {o k : Nat} (h : S.contains (o, k) = false) : mm_bW S o k = mm_bG o k := by unfold mm_bW; rw [h]; rfl
theorem mm_inp_pf {S S' : List (Nat × Nat)} {n o k : Nat} {v : Int} {h : mH} (i : mm_inp S n h) (hb : (mm_bW S' o k).1 ≤ v ∧ v ≤ (mm_bW S' o k).2) (hS : (S.all (fun q => S'.contains q || q == (o, k)) && S'.all (fun q => S.contains q)) = true) : mm_inp S' n (mm_pf h o k v) := by
  simp only [Bool.and_eq_true, List.all_eq_true] at hS
  refine ⟨fun o' k' => ?_, i.2.1, i.2.2⟩
  by_cases hq : o' = o ∧ k' = k
  · rw [hq.1, hq.2, mm_pf_same]; exact hb
  · rw [mm_pf_ne h v hq]
    have e : mm_bW S' o' k' = mm_bW S o' k' := by
      by_cases z : S.contains (o', k') = true
      · have := hS.1 (o', k') (List.contains_iff_mem.mp z)
        rw [Bool.or_eq_true] at this
        rcases this with w | w
        · rw [mm_bW_in z, mm_bW_in w]
        · exfalso
          have w' : (o', k') = (o, k) := by simpa using w
          exact hq ⟨congrArg Prod.fst w', congrArg Prod.snd w'⟩
      · have z' : S.contains (o', k') = false := by simpa using z
        have w' : S'.contains (o', k') = false := by
          cases w : S'.contains (o', k')
          · rfl
          · exact absurd (hS.2 (o', k') (List.contains_iff_mem.mp w)) z
        rw [mm_bW_out z', mm_bW_out w']
    rw [e]
    exact i.1 o' k'
theorem mm_inp_put {S : List (Nat × Nat)} {n o k : Nat} {v : Int} {h : mH} (i : mm_inp S n h) (hb : (mm_bW S o k).1 ≤ v ∧ v ≤ (mm_bW S o k).2) (_ : ¬ (58 = o ∧ 5 = k)) : mm_inp S n (mm_pf h o k v) := by
  refine ⟨fun o' k' => ?_, i.2.1, i.2.2⟩
  by_cases hq : o' = o ∧ k' = k
  · rw [hq.1, hq.2, mm_pf_same]; exact hb
  · rw [mm_pf_ne h v hq]; exact i.1 o' k'
theorem mm_inp_pa {S : List (Nat × Nat)} {n o : Nat} {j v : Int} {h : mH} (i : mm_inp S n h) (hb : (mm_bA o).1 ≤ v ∧ v ≤ (mm_bA o).2) : mm_inp S n (mm_pa h o j v) := by
  refine ⟨i.1, fun o' j' => ?_, i.2.2⟩
  by_cases hq : o' = o ∧ j' = j
  · rw [hq.1, hq.2, mm_pa_same]; exact hb
  · rw [mm_pa_ne h v hq]; exact i.2.1 o' j'
theorem mm_inp_ref {S : List (Nat × Nat)} {n o k : Nat} {h : mH} (i : mm_inp S n h) (hb : mm_bW S o k = (1, 1)) : h.1 o k ≠ 0 := by
  have := i.1 o k
  rw [hb] at this
  omega
/-- which fields of object n can't be 0 -/
def mm_pn (n : Nat) : List (Nat × Nat) := ((mm_bf.getD n []).zipIdx.filter (fun q => decide (0 < q.1.1))).map (fun q => (n, q.2))
theorem mm_bF_pn {n k : Nat} (hn : n ≠ 125) (hok : (mm_bf.getD n []).all (fun q => decide (0 ≤ q.2)) = true) (h : (mm_pn n).contains (n, k) = false) : (mm_bF n k).1 ≤ 0 ∧ 0 ≤ (mm_bF n k).2 := by
  unfold mm_bF
  rw [if_neg hn]
  cases hk : (mm_bf.getD n [])[k]? with
  | none =>
    rw [List.getD_eq_getElem?_getD, hk]
    decide
  | some q =>
    rw [List.getD_eq_getElem?_getD, hk]
    have hm : q ∈ mm_bf.getD n [] := List.mem_of_getElem? hk
    have h2 := of_decide_eq_true (List.all_eq_true.mp hok q hm)
    refine ⟨?_, h2⟩
    show q.1 ≤ 0
    by_cases z : 0 < q.1
    · exfalso
      have : (n, k) ∈ mm_pn n := by
        unfold mm_pn
        refine List.mem_map.mpr ⟨(q, k), List.mem_filter.mpr ⟨?_, by simpa using z⟩, rfl⟩
        exact List.mem_zipIdx_iff_getElem?.mpr hk
      rw [List.contains_iff_mem.mpr this] at h
      exact absurd h (by decide)
    · omega
theorem mm_inp_nw {S S' : List (Nat × Nat)} {n : Nat} {h : mH} (i : mm_inp S n h) (hn : n ≠ 125) (hS : S' = mm_pn n ++ S) (hok : ((mm_bf.getD n []).all (fun q => decide (0 ≤ q.2)) && (decide ((mm_bA n).1 ≤ 0) && decide (0 ≤ (mm_bA n).2))) = true) (hd : S.all (fun q => decide (q.1 ≠ n)) = true) : mm_inp S' (n + 1) (mm_nw h) := by
  simp only [Bool.and_eq_true, decide_eq_true_eq] at hok
  have hc : h.2.2 = n := i.2.2
  refine ⟨fun o k => ?_, fun o j => ?_, by show h.2.2 + 1 = n + 1; rw [hc]⟩
  · show (mm_bW S' o k).1 ≤ (if o = h.2.2 then 0 else h.1 o k) ∧ (if o = h.2.2 then 0 else h.1 o k) ≤ (mm_bW S' o k).2
    rw [hc]
    by_cases z : o = n
    · rw [if_pos z, z]
      by_cases w : S'.contains (n, k) = true
      · rw [mm_bW_in w]; decide
      · have w' : S'.contains (n, k) = false := by simpa using w
        rw [mm_bW_out w']
        have hg : (mm_bF n k).1 ≤ 0 ∧ 0 ≤ (mm_bF n k).2 → (mm_bG n k).1 ≤ 0 ∧ 0 ≤ (mm_bG n k).2 := by
          intro q
          cases hc9 : mm_z0.contains (n, k)
          · cases hc8 : mm_z1.contains (n, k)
            · rw [mm_bG_out hc9 hc8]; exact q
            · exfalso
              have : ∀ q ∈ mm_z1, ¬ (mm_bF q.1 q.2).1 ≤ 0 := by decide
              exact this _ (List.contains_iff_mem.mp hc8) q.1
          · rw [mm_bG_in hc9]; decide
        refine hg (mm_bF_pn hn hok.1 ?_)
        cases y : (mm_pn n).contains (n, k)
        · rfl
        · exfalso
          apply w
          rw [hS]
          exact List.contains_iff_mem.mpr (List.mem_append_left _ (List.contains_iff_mem.mp y))
    · rw [if_neg z]
      have e : mm_bW S' o k = mm_bW S o k := by
        have hnp : (o, k) ∉ mm_pn n := by
          intro q
          obtain ⟨q1, -, q3⟩ := List.mem_map.mp q
          exact z (congrArg Prod.fst q3).symm
        by_cases w : S.contains (o, k) = true
        · rw [mm_bW_in w, mm_bW_in (by rw [hS]; exact List.contains_iff_mem.mpr (List.mem_append_right _ (List.contains_iff_mem.mp w)))]
        · have w' : S.contains (o, k) = false := by simpa using w
          have w2 : S'.contains (o, k) = false := by
            cases y : S'.contains (o, k)
            · rfl
            · exfalso
              rw [hS] at y
              rcases List.mem_append.mp (List.contains_iff_mem.mp y) with q | q
              · exact hnp q
              · exact w (List.contains_iff_mem.mpr q)
          rw [mm_bW_out w', mm_bW_out w2]
      rw [e]
      exact i.1 o k
  · show (mm_bA o).1 ≤ (if o = h.2.2 then 0 else h.2.1 o j) ∧ (if o = h.2.2 then 0 else h.2.1 o j) ≤ (mm_bA o).2
    rw [hc]
    by_cases z : o = n
    · rw [if_pos z, z]; exact hok.2
    · rw [if_neg z]; exact i.2.1 o j
theorem mm_inp_z0 {n : Nat} {h : mH} (i : mm_inp [] n h) {o k : Nat} (hz : mm_z0.contains (o, k) = true) : h.1 o k = 0 := by
  have h1 : (mm_bG o k).1 ≤ h.1 o k ∧ h.1 o k ≤ (mm_bG o k).2 := i.1 o k
  rw [mm_bG_in hz] at h1
  have h2 : (0 : Int) ≤ h.1 o k ∧ h.1 o k ≤ 0 := h1
  omega
theorem mm_inp_z1 {n : Nat} {h : mH} (i : mm_inp [] n h) {o k : Nat} (hn : mm_z0.contains (o, k) = false) (hz : mm_z1.contains (o, k) = true) : h.1 o k = 1 := by
  have h1 : (mm_bG o k).1 ≤ h.1 o k ∧ h.1 o k ≤ (mm_bG o k).2 := i.1 o k
  rw [mm_bG_in1 hn hz] at h1
  have h2 : (1 : Int) ≤ h.1 o k ∧ h.1 o k ≤ 1 := h1
  omega
theorem mm_inp_inv {h : mH} (i : mm_inp [] 125 h) : mm_inv h := by
  have h58 : h.1 58 5 = 0 := mm_inp_z0 i (by decide)
  refine ⟨fun o k => ?_, i.2.1, by rw [i.2.2, h58]; rfl⟩
  cases z : mm_z0.contains (o, k)
  · cases y : mm_z1.contains (o, k)
    · have h1 : (mm_bG o k).1 ≤ h.1 o k ∧ h.1 o k ≤ (mm_bG o k).2 := i.1 o k
      rw [mm_bG_out z y] at h1
      exact h1
    · rw [mm_inp_z1 i z y]
      have : ∀ q ∈ mm_z1, (mm_bF q.1 q.2).1 ≤ 1 ∧ 1 ≤ (mm_bF q.1 q.2).2 := by decide
      exact this _ (List.contains_iff_mem.mp y)
  · rw [mm_inp_z0 i z]
    have : ∀ q ∈ mm_z0, (mm_bF q.1 q.2).1 ≤ 0 ∧ 0 ≤ (mm_bF q.1 q.2).2 := by decide
    exact this _ (List.contains_iff_mem.mp z)
theorem mm_inp_land {h : mH} {n : Nat} (i : mm_inp [(66, 1), (66, 2)] n h) (h1 : 1 ≤ h.1 66 1 ∧ h.1 66 1 ≤ 1) (h2 : 1 ≤ h.1 66 2 ∧ h.1 66 2 ≤ 1) : mm_inp [] n h := by
  refine ⟨fun o k => ?_, i.2⟩
  by_cases z : o = 66 ∧ k = 1
  · rw [z.1, z.2]; exact h1
  · by_cases w : o = 66 ∧ k = 2
    · rw [w.1, w.2]; exact h2
    · have := i.1 o k
      have e : mm_bW [(66, 1), (66, 2)] o k = mm_bW [] o k := by
        have : ([(66, 1), (66, 2)] : List (Nat × Nat)).contains (o, k) = false := by
          cases y : ([(66, 1), (66, 2)] : List (Nat × Nat)).contains (o, k)
          · rfl
          · exfalso
            have := List.contains_iff_mem.mp y
            simp only [List.mem_cons, Prod.mk.injEq, List.not_mem_nil, or_false] at this
            rcases this with q | q
            · exact z q
            · exact w q
        rw [mm_bW_out this]
        rfl
      rw [e] at this
      exact this
abbrev mm_in0 : mH → Prop := mm_inp [] 66
abbrev mm_in2 : mH → Prop := mm_inp [(66, 1), (66, 2)] 124

/-! ===== what rows of numbers hold, kept alike ===== -/
/-- 1 where one of the first n is c, else 0 -/
def mm_fd (f : Int → Int) (c : Int) : Nat → Int
  | 0 => 0
  | n + 1 => if f (n : Int) = c then 1 else mm_fd f c n
theorem mm_fd_rg (f : Int → Int) (c : Int) (n : Nat) : 0 ≤ mm_fd f c n ∧ mm_fd f c n ≤ 1 := by
  induction n with
  | zero => exact ⟨Int.le_refl 0, (by decide : (0 : Int) ≤ 1)⟩
  | succ n ih =>
    show 0 ≤ (if f (n : Int) = c then 1 else mm_fd f c n) ∧ (if f (n : Int) = c then 1 else mm_fd f c n) ≤ 1
    split
    · exact ⟨by decide, by decide⟩
    · exact ih
theorem mm_fd_one {f : Int → Int} {c : Int} {n : Nat} (k : Nat) (hk : k < n) (e : f (k : Int) = c) : mm_fd f c n = 1 := by
  induction n with
  | zero => exact absurd hk (Nat.not_lt_zero _)
  | succ n ih =>
    show (if f (n : Int) = c then 1 else mm_fd f c n) = 1
    split
    · rfl
    · rename_i w
      refine ih ?_
      rcases Nat.lt_succ_iff_lt_or_eq.mp hk with q | q
      · exact q
      · exact absurd (q ▸ e) w
theorem mm_fd_hit {f : Int → Int} {c i n : Int} (h0 : 0 ≤ i) (h1 : i < n) (e : f i = c) : 1 = mm_fd f c n.toNat :=
  (mm_fd_one i.toNat (by omega) (by rw [Int.toNat_of_nonneg h0]; exact e)).symm
theorem mm_fd_step {f : Int → Int} {c i : Int} (w : mm_fd f c i.toNat = 0) (h0 : 0 ≤ i) (e : f i ≠ c) : mm_fd f c (i + 1).toNat = 0 := by
  have q : (i + 1).toNat = i.toNat + 1 := by omega
  rw [q]
  show (if f (i.toNat : Int) = c then 1 else mm_fd f c i.toNat) = 0
  rw [Int.toNat_of_nonneg h0, if_neg e]
  exact w
theorem mm_fd_end {f : Int → Int} {c i n : Int} (w : mm_fd f c i.toNat = 0) (e : i = n) : 0 = mm_fd f c n.toNat := by rw [← e]; exact w.symm
theorem mm_fd_eq {f g : Int → Int} {c : Int} {n : Nat} (e : ∀ j : Int, 0 ≤ j → j < n → f j = g j) : mm_fd f c n = mm_fd g c n := by
  induction n with
  | zero => rfl
  | succ n ih =>
    show (if f (n : Int) = c then 1 else mm_fd f c n) = (if g (n : Int) = c then 1 else mm_fd g c n)
    rw [e (n : Int) (by omega) (by omega), ih (fun j a b => e j a (by omega))]
/-- row o gets v at c, where f is 1 -/
def mm_up (h h2 : mH) (o : Nat) (c v f : Int) : Prop := ∀ j, h2.2.1 o j = if j = c ∧ f = 1 then v else h.2.1 o j
theorem mm_up_no {h h2 : mH} {o : Nat} {c v f : Int} (hf : f ≠ 1) (e : ∀ j, h2.2.1 o j = h.2.1 o j) : mm_up h h2 o c v f := fun j => by
  rw [if_neg (fun w => hf w.2)]; exact e j
theorem mm_up_pa {h h1 h2 h3 : mH} {o : Nat} {c c' v f : Int} (e1 : ∀ j, h1.2.1 o j = h.2.1 o j) (e : h2 = mm_pa h1 o c' v) (e3 : ∀ j, h3.2.1 o j = h2.2.1 o j) (hc : c' = c) (hf : f = 1) : mm_up h h3 o c v f := fun j => by
  rw [e3 j, e, hc]
  show (if o = o ∧ j = c then v else h1.2.1 o j) = _
  by_cases q : j = c
  · rw [if_pos ⟨rfl, q⟩, if_pos ⟨q, hf⟩]
  · rw [if_neg (fun w => q w.2), if_neg (fun w => q w.1)]; exact e1 j
theorem mm_up_tr {h h1 h2 h3 : mH} {o : Nat} {c c' v f f' : Int} (e1 : ∀ j, h1.2.1 o j = h.2.1 o j) (u : mm_up h1 h2 o c v f) (e3 : ∀ j, h3.2.1 o j = h2.2.1 o j) (hc : c = c') (hf : f = 1 ↔ f' = 1) : mm_up h h3 o c' v f' := fun j => by
  rw [e3 j, u j, hc, e1 j]
  by_cases q : j = c' ∧ f = 1
  · rw [if_pos q, if_pos ⟨q.1, hf.mp q.2⟩]
  · rw [if_neg q, if_neg (fun w => q ⟨w.1, hf.mpr w.2⟩)]
theorem mm_sm_pf {h h1 : mH} {a k : Nat} {v : Int} (o : Nat) (e : h1 = mm_pf h a k v) (j : Int) : h1.2.1 o j = h.2.1 o j := by rw [e]; rfl
theorem mm_sm_pa {h h1 : mH} {a : Nat} {i v : Int} (o : Nat) (e : h1 = mm_pa h a i v) (ne : o ≠ a) (j : Int) : h1.2.1 o j = h.2.1 o j := by rw [e]; exact mm_pa_o o a ne j
/-- the class's row a and the reference's row b hold the same from 0 to m -/
def mm_eq (h : mH) (a b : Nat) (m : Int) : Prop := ∀ j, 0 ≤ j → j ≤ m → h.2.1 a j = h.2.1 b j
theorem mm_eq_fr {wf : List (Nat × Nat)} {wa : List Nat} {h h2 : mH} {a b : Nat} {m : Int} (E : mm_eq h a b m) (g : mm_fr wf wa h h2) (ha : a ∉ wa) (hb : b ∉ wa) : mm_eq h2 a b m := fun j x y => by
  rw [g.2 a ha j, g.2 b hb j]; exact E j x y
theorem mm_eq_le {h : mH} {a b : Nat} {m m' : Int} (E : mm_eq h a b m) (hm : m' ≤ m) : mm_eq h a b m' := fun j x y => E j x (Int.le_trans y hm)
/-- both sides write the same at the same place -/
theorem mm_eq_up {h h1 h2 : mH} {a b : Nat} {m m' c v f f' : Int} (E : mm_eq h a b m) (u : mm_up h h1 a c v f) (e1 : ∀ j, h1.2.1 b j = h.2.1 b j) (w : mm_up h1 h2 b c v f') (e2 : ∀ j, h2.2.1 a j = h1.2.1 a j) (hf : (f = 1 ↔ f' = 1) ∨ m' < c) (hm : m' ≤ m ∨ (m' ≤ m + 1 ∧ c = m + 1 ∧ f = 1)) : mm_eq h2 a b m' := fun j x y => by
  rw [e2 j, u j, w j, e1 j]
  by_cases q : j = c ∧ f = 1
  · rcases hf with hf | hf
    · rw [if_pos q, if_pos ⟨q.1, hf.mp q.2⟩]
    · exfalso; omega
  · have q' : ¬ (j = c ∧ f' = 1) := fun z => by
      rcases hf with hf | hf
      · exact q ⟨z.1, hf.mpr z.2⟩
      · omega
    rw [if_neg q, if_neg q']
    refine E j x ?_
    rcases hm with z | ⟨z1, z2, z3⟩
    · omega
    · by_cases z4 : j = c
      · exact absurd ⟨z4, z3⟩ q
      · omega
theorem mm_eq_at {h h1 : mH} {a b : Nat} {m : Int} (E : mm_eq h a b m) (e : ∀ j, h1.2.1 b j = h.2.1 b j) (p : Int) : p < 0 ∨ m < p ∨ h.2.1 a p = h1.2.1 b p := by
  by_cases x : p < 0
  · exact Or.inl x
  · by_cases y : m < p
    · exact Or.inr (Or.inl y)
    · exact Or.inr (Or.inr ((E p (by omega) (by omega)).trans (e p).symm))
theorem mm_eq_fd {h h1 : mH} {a b : Nat} {n n' c : Int} (E : mm_eq h a b (n - 1)) (e : ∀ j, h1.2.1 b j = h.2.1 b j) (hn : n' = n) (h0 : 0 ≤ n) : mm_fd (h.2.1 a) c n.toNat = mm_fd (h1.2.1 b) c n'.toNat := by
  rw [hn]
  exact mm_fd_eq (fun j x y => (E j x (by omega)).trans (e j).symm)
theorem mm_eq_fd2 {h h1 : mH} {a b g k : Nat} {n n' c m : Int} (E : mm_eq h a b (n - 1)) (F : mm_eq h g k m) (e : ∀ j, h1.2.1 b j = h.2.1 b j) (e' : ∀ j, h1.2.1 k j = h.2.1 k j) (hn : n' = n) (h0 : 0 ≤ n) (hb : ∀ j, 0 ≤ h.2.1 a j ∧ h.2.1 a j ≤ m) : mm_fd (fun j => h.2.1 g (h.2.1 a j)) c n.toNat = mm_fd (fun j => h1.2.1 k (h1.2.1 b j)) c n'.toNat := by
  rw [hn]
  refine mm_fd_eq (fun j x y => ?_)
  show h.2.1 g (h.2.1 a j) = h1.2.1 k (h1.2.1 b j)
  rw [e j, e', ← E j x (by omega)]
  exact F _ (hb j).1 (hb j).2
theorem mm_eq_at2 {h h1 : mH} {a b g k : Nat} {m m' p : Int} (E : mm_eq h a b m) (F : mm_eq h g k m') (e : ∀ j, h1.2.1 b j = h.2.1 b j) (e' : ∀ j, h1.2.1 k j = h.2.1 k j) (hb : ∀ j, 0 ≤ h.2.1 a j ∧ h.2.1 a j ≤ m') : p < 0 ∨ m < p ∨ h.2.1 g (h.2.1 a p) = h1.2.1 k (h1.2.1 b p) := by
  by_cases x : p < 0
  · exact Or.inl x
  · by_cases y : m < p
    · exact Or.inr (Or.inl y)
    · refine Or.inr (Or.inr ?_)
      rw [e p, e', ← E p (by omega) (by omega)]
      exact F _ (hb p).1 (hb p).2
theorem mm_eq_keep {h h1 h2 : mH} {a b : Nat} {m m' : Int} (E : mm_eq h a b m) (A : ∀ o j, h1.2.1 o j = h.2.1 o j) (B : ∀ o j, h2.2.1 o j = h1.2.1 o j) (hm : m' ≤ m) : mm_eq h2 a b m' := fun j x y => by
  rw [B, B, A, A]; exact E j x (Int.le_trans y hm)
theorem mm_eq_nil {h : mH} {a b : Nat} {m : Int} (hm : m < 0) : mm_eq h a b m := fun j x y => absurd (Int.le_trans x y) (by omega)
/-- the class's rows while the reference is made -/
def mm_ke (h h2 : mH) : Prop := ∀ o, o ≤ 65 → ∀ j, h2.2.1 o j = h.2.1 o j
theorem mm_ke_rf {h : mH} : mm_ke h h := fun _ _ _ => rfl
theorem mm_ke_pf {h h1 : mH} {o k : Nat} {v : Int} (K : mm_ke h h1) : mm_ke h (mm_pf h1 o k v) := K
theorem mm_ke_pa {h h1 : mH} {o : Nat} {i v : Int} (K : mm_ke h h1) (ho : 66 ≤ o) : mm_ke h (mm_pa h1 o i v) := fun q hq j => (mm_pa_o q o (by omega) j).trans (K q hq j)
theorem mm_ke_nw {S : List (Nat × Nat)} {n : Nat} {h h1 : mH} (K : mm_ke h h1) (i : mm_inp S n h1) (hn : 66 ≤ n) : mm_ke h (mm_nw h1) := fun q hq j => by
  show (if q = h1.2.2 then 0 else h1.2.1 q j) = _
  rw [i.2.2, if_neg (by omega)]
  exact K q hq j
theorem mm_ke_fr {wf : List (Nat × Nat)} {wa : List Nat} {h h1 h2 : mH} (K : mm_ke h h1) (g : mm_fr wf wa h1 h2) (hw : wa.all (fun o => decide (66 ≤ o)) = true) : mm_ke h h2 := fun q hq j => by
  refine (g.2 q (fun m => ?_) j).trans (K q hq j)
  have := of_decide_eq_true (List.all_eq_true.mp hw q m)
  omega
theorem mm_eq_const {h : mH} {a b : Nat} {m v : Int} (x : ∀ j, 0 ≤ j → j ≤ m → h.2.1 a j = v) (y : ∀ j, 0 ≤ j → j ≤ m → h.2.1 b j = v) : mm_eq h a b m := fun j p q => (x j p q).trans (y j p q).symm
/-- row o holds v from 0 to m -/
def mm_al (h : mH) (o : Nat) (m v : Int) : Prop := ∀ j, 0 ≤ j → j ≤ m → h.2.1 o j = v
theorem mm_al_sm {h h2 : mH} {o : Nat} {m v : Int} (A : mm_al h o m v) (e : ∀ j, h2.2.1 o j = h.2.1 o j) : mm_al h2 o m v := fun j x y => (e j).trans (A j x y)
theorem mm_al_fr {wf : List (Nat × Nat)} {wa : List Nat} {h h2 : mH} {o : Nat} {m v : Int} (A : mm_al h o m v) (g : mm_fr wf wa h h2) (ho : o ∉ wa) : mm_al h2 o m v := fun j x y => (g.2 o ho j).trans (A j x y)
theorem mm_al_nil {h : mH} {o : Nat} {m v : Int} (hm : m < 0) : mm_al h o m v := fun j x y => absurd (Int.le_trans x y) (by omega)
theorem mm_al_put {h h2 : mH} {o : Nat} {i v : Int} (A : mm_al h o (i - 1) v) (e : h2 = mm_pa h o i v) : mm_al h2 o i v := fun j x y => by
  rw [e]
  by_cases q : j = i
  · rw [q, mm_pa_same]
  · rw [mm_pa_j o q]; exact A j x (by omega)
theorem mm_al_le {h : mH} {o : Nat} {m m' v : Int} (A : mm_al h o m v) (hm : m' ≤ m) : mm_al h o m' v := fun j x y => A j x (Int.le_trans y hm)
theorem mm_al_hi {h h2 : mH} {o : Nat} {m m' v i w : Int} (A : mm_al h o m v) (e : h2 = mm_pa h o i w) (hm : m' ≤ m) (hi : m' < i) : mm_al h2 o m' v := fun j x y => by
  rw [e, mm_pa_j o (show j ≠ i by omega)]; exact A j x (by omega)
theorem mm_al_ke {h h2 : mH} {o : Nat} {m v : Int} (A : mm_al h o m v) (K : mm_ke h h2) (ho : o ≤ 65) : mm_al h2 o m v := mm_al_sm A (K o ho)
theorem mm_al_nw {S : List (Nat × Nat)} {n o : Nat} {h : mH} {m v : Int} (A : mm_al h o m v) (i : mm_inp S n h) (ho : o ≠ n) : mm_al (mm_nw h) o m v := fun j x y => by
  show (if o = h.2.2 then 0 else h.2.1 o j) = v
  rw [i.2.2, if_neg ho]
  exact A j x y

/-! ===== courses, runners and teams kept alike ===== -/
theorem mm_up_pav {h h1 h2 h3 : mH} {o : Nat} {c c' v v' f : Int} (e1 : ∀ j, h1.2.1 o j = h.2.1 o j) (e : h2 = mm_pa h1 o c' v') (e3 : ∀ j, h3.2.1 o j = h2.2.1 o j) (hc : c' = c) (hv : v' = v) (hf : f = 1) : mm_up h h3 o c v f := by
  rw [hv] at e
  exact mm_up_pa e1 e e3 hc hf
theorem mm_eq_upv {h h1 h2 : mH} {a b : Nat} {m m' c v v' f f' : Int} (E : mm_eq h a b m) (u : mm_up h h1 a c v f) (e1 : ∀ j, h1.2.1 b j = h.2.1 b j) (w : mm_up h1 h2 b c v' f') (e2 : ∀ j, h2.2.1 a j = h1.2.1 a j) (hf : f = 1 ↔ f' = 1) (hv : f = 1 → v = v') (hm : m' ≤ m ∨ (m' ≤ m + 1 ∧ c = m + 1 ∧ f = 1)) : mm_eq h2 a b m' := by
  by_cases q : f = 1
  · rw [← hv q] at w
    exact mm_eq_up E u e1 w e2 (Or.inl hf) hm
  · exact mm_eq_up (c := c) (v := v) E u e1 (fun j => by rw [w j, if_neg (fun z => q (hf.mpr z.2)), if_neg (fun z => q (hf.mpr z.2))]) e2 (Or.inl hf) hm
theorem mm_eq_no {h h1 h2 : mH} {a b : Nat} {m m' : Int} (E : mm_eq h a b m) (e1 : ∀ j, h2.2.1 a j = h.2.1 a j) (e2 : ∀ j, h2.2.1 b j = h.2.1 b j) (hm : m' ≤ m) : mm_eq h2 a b m' := fun j x y => by
  rw [e1, e2]; exact E j x (Int.le_trans y hm)
/-- a course is taken where a runner runs it -/
def mm_tk (h : mH) : Prop := ∀ c, 0 ≤ c → c ≤ h.1 14 8 - 1 → h.2.1 18 c = mm_fd (h.2.1 85) c (h.1 66 23).toNat
/-- runners run courses that are there -/
def mm_cb (h : mH) : Prop := ∀ j, 0 ≤ j → j ≤ h.1 66 23 - 1 → h.2.1 85 j ≤ h.1 66 22 - 1
/-- four forks at most -/
def mm_fb (h : mH) : Prop := ∀ j, 0 ≤ j → j ≤ h.1 14 8 - 1 → 0 ≤ h.2.1 20 j ∧ h.2.1 20 j ≤ 4
theorem mm_tk_sm {h h2 : mH} (T : mm_tk h) (e : ∀ j, h2.2.1 18 j = h.2.1 18 j) (e' : ∀ j, h2.2.1 85 j = h.2.1 85 j) (n : h2.1 14 8 = h.1 14 8) (m : h2.1 66 23 = h.1 66 23) : mm_tk h2 := fun c x y => by
  rw [e, m, T c x (by omega)]
  exact mm_fd_eq (fun j _ _ => (e' j).symm)
theorem mm_cb_sm {h h2 : mH} (T : mm_cb h) (e' : ∀ j, h2.2.1 85 j = h.2.1 85 j) (n : h2.1 66 22 = h.1 66 22) (m : h2.1 66 23 = h.1 66 23) : mm_cb h2 := fun c x y => by
  rw [e', n]; exact T c x (by omega)
theorem mm_fb_sm {h h2 : mH} (T : mm_fb h) (e : ∀ j, h2.2.1 20 j = h.2.1 20 j) (n : h2.1 14 8 = h.1 14 8) : mm_fb h2 := fun c x y => by
  rw [e]; exact T c x (by omega)
theorem mm_tk_nil {h : mH} (n : h.1 14 8 = 0) : mm_tk h := fun c x y => absurd (Int.le_trans x y) (by omega)
theorem mm_cb_nil {h : mH} (n : h.1 66 23 = 0) : mm_cb h := fun c x y => absurd (Int.le_trans x y) (by omega)
theorem mm_fb_nil {h : mH} (n : h.1 14 8 = 0) : mm_fb h := fun c x y => absurd (Int.le_trans x y) (by omega)
theorem mm_fd_none {f : Int → Int} {c : Int} {n : Nat} (e : ∀ j : Int, 0 ≤ j → j < n → f j ≠ c) : mm_fd f c n = 0 := by
  induction n with
  | zero => rfl
  | succ n ih =>
    show (if f (n : Int) = c then 1 else mm_fd f c n) = 0
    rw [if_neg (e (n : Int) (by omega) (by omega))]
    exact ih (fun j a b => e j a (by omega))
theorem mm_fd_more {f : Int → Int} {c n : Int} (h0 : 0 ≤ n) : mm_fd f c (n + 1).toNat = if f n = c then 1 else mm_fd f c n.toNat := by
  rw [show (n + 1).toNat = n.toNat + 1 by omega]
  show (if f (n.toNat : Int) = c then 1 else mm_fd f c n.toNat) = _
  rw [Int.toNat_of_nonneg h0]
/-- course: the new one isn't taken -/
theorem mm_tk_course {h h1 h2 : mH} {f : Int} (T : mm_tk h) (B : mm_cb h) (u : mm_up h h1 18 (h.1 14 8) 0 f) (e : ∀ j, h2.2.1 18 j = h1.2.1 18 j) (e' : ∀ j, h2.2.1 85 j = h.2.1 85 j) (n : h2.1 66 23 = h.1 66 23) (m : (f = 1 ∧ h2.1 14 8 = h.1 14 8 + 1) ∨ (f = 0 ∧ h2.1 14 8 = h.1 14 8)) (hc : h.1 66 22 = h.1 14 8) : mm_tk h2 := fun c x y => by
  rw [e, u c, n]
  by_cases q : c = h.1 14 8 ∧ f = 1
  · rw [if_pos q]
    refine (mm_fd_none (fun j a b => ?_)).symm
    rw [e']
    have := B j a (by omega)
    omega
  · rw [if_neg q, T c x (by omega)]
    exact mm_fd_eq (fun j _ _ => (e' j).symm)
theorem mm_cb_course {h h2 : mH} (B : mm_cb h) (e' : ∀ j, h2.2.1 85 j = h.2.1 85 j) (n : h2.1 66 23 = h.1 66 23) (m : h.1 66 22 ≤ h2.1 66 22) : mm_cb h2 := fun j x y => by
  rw [e']
  have := B j x (by omega)
  omega
theorem mm_fb_course {h h1 h2 : mH} {f : Int} (B : mm_fb h) (u : mm_up h h1 20 (h.1 14 8) 0 f) (e : ∀ j, h2.2.1 20 j = h1.2.1 20 j) (m : (f = 1 ∧ h2.1 14 8 = h.1 14 8 + 1) ∨ (f = 0 ∧ h2.1 14 8 = h.1 14 8)) : mm_fb h2 := fun j x y => by
  rw [e, u j]
  by_cases q : j = h.1 14 8 ∧ f = 1
  · rw [if_pos q]; exact ⟨by omega, by omega⟩
  · rw [if_neg q]; exact B j x (by omega)
theorem mm_fb_add {h h1 h2 : mH} {f c v : Int} (B : mm_fb h) (u : mm_up h h1 20 c v f) (e : ∀ j, h2.2.1 20 j = h1.2.1 20 j) (m : h2.1 14 8 = h.1 14 8) (hv : f = 1 → 0 ≤ v ∧ v ≤ 4) : mm_fb h2 := fun j x y => by
  rw [e, u j]
  by_cases q : j = c ∧ f = 1
  · rw [if_pos q]; exact hv q.2
  · rw [if_neg q]; exact B j x (by omega)
/-- runner: its course is taken -/
theorem mm_tk_runner {h h1 h2 : mH} {f f' p n0 : Int} (T : mm_tk h) (u : mm_up h h1 18 p 1 f) (e : ∀ j, h2.2.1 18 j = h1.2.1 18 j) (w : mm_up h1 h2 85 n0 p f') (e' : ∀ j, h1.2.1 85 j = h.2.1 85 j) (hn : n0 = h.1 66 23) (h0 : 0 ≤ h.1 66 23) (hf : f = 1 ↔ f' = 1) (n : (f = 1 ∧ h2.1 66 23 = h.1 66 23 + 1) ∨ (f ≠ 1 ∧ h2.1 66 23 = h.1 66 23)) (m : h2.1 14 8 = h.1 14 8) : mm_tk h2 := fun c x y => by
  subst hn
  have o : ∀ j : Int, 0 ≤ j → j < h.1 66 23 → h.2.1 85 j = h2.2.1 85 j := fun j a b => by
    rw [w j, if_neg (fun z => absurd z.1 (by omega)), e']
  have z : mm_fd (h2.2.1 85) c (h.1 66 23).toNat = h.2.1 18 c := by
    rw [T c x (by omega)]
    exact (mm_fd_eq (fun j a b => o j a (by omega))).symm
  rw [e, u c]
  rcases n with ⟨n1, n2⟩ | ⟨n1, n2⟩
  · have w1 : h2.2.1 85 (h.1 66 23) = p := by rw [w, if_pos ⟨rfl, hf.mp n1⟩]
    rw [n2, mm_fd_more h0, w1, z]
    by_cases q : c = p
    · rw [if_pos ⟨q, n1⟩, if_pos q.symm]
    · rw [if_neg (fun w => q w.1), if_neg (fun w => q w.symm)]
  · rw [n2, if_neg (fun w => n1 w.2), z]
theorem mm_cb_runner {h h1 h2 : mH} {f' p n0 : Int} (B : mm_cb h) (w : mm_up h1 h2 85 n0 p f') (e' : ∀ j, h1.2.1 85 j = h.2.1 85 j) (hn : n0 = h.1 66 23) (n : (f' = 1 ∧ h2.1 66 23 = h.1 66 23 + 1 ∧ p < h.1 66 22) ∨ (f' ≠ 1 ∧ h2.1 66 23 = h.1 66 23)) (m : h2.1 66 22 = h.1 66 22) : mm_cb h2 := fun j x y => by
  rw [w j, m]
  by_cases q : j = n0 ∧ f' = 1
  · rw [if_pos q]; omega
  · rw [if_neg q, e']; exact B j x (by omega)
theorem mm_eq_v {h : mH} {a b : Nat} {m : Int} (E : mm_eq h a b m) (p : Int) : p < 0 ∨ m < p ∨ h.2.1 a p = h.2.1 b p := mm_eq_at E (fun _ => rfl) p
theorem mm_ad_at {h h1 : mH} (p : Int) (E17 : mm_eq h 17 83 (h.1 14 8 - 1)) (E19 : mm_eq h 19 80 (h.1 14 8 - 1)) (E20 : mm_eq h 20 81 (h.1 14 8 - 1)) (T : mm_tk h) (F : mm_fb h) (e83 : ∀ j, h1.2.1 83 j = h.2.1 83 j) (e80 : ∀ j, h1.2.1 80 j = h.2.1 80 j) (e81 : ∀ j, h1.2.1 81 j = h.2.1 81 j) (e85 : ∀ j, h1.2.1 85 j = h.2.1 85 j) (n : h1.1 66 23 = h.1 66 23) : p < 0 ∨ h.1 14 8 ≤ p ∨ (h.2.1 17 p = h1.2.1 83 p ∧ h.2.1 19 p = h1.2.1 80 p ∧ h.2.1 20 p = h1.2.1 81 p ∧ h.2.1 18 p = mm_fd (h1.2.1 85) p (h1.1 66 23).toNat ∧ 0 ≤ h.2.1 20 p ∧ h.2.1 20 p ≤ 4) := by
  by_cases x : p < 0
  · exact Or.inl x
  · by_cases y : h.1 14 8 ≤ p
    · exact Or.inr (Or.inl y)
    · refine Or.inr (Or.inr ⟨?_, ?_, ?_, ?_, F p (by omega) (by omega)⟩)
      · rw [e83]; exact E17 p (by omega) (by omega)
      · rw [e80]; exact E19 p (by omega) (by omega)
      · rw [e81]; exact E20 p (by omega) (by omega)
      · rw [n, T p (by omega) (by omega)]
        exact mm_fd_eq (fun j _ _ => (e85 j).symm)

/-! ===== teams ===== -/
def mm_dv (v : Int) : Nat → Int
  | 0 => v
  | n + 1 => mm_dv v n / 3
/-- 1 where the first n digits of the three differ -/
def mm_ds (a b c : Int) : Nat → Int
  | 0 => 1
  | n + 1 => if mm_dv a n % 3 = mm_dv b n % 3 ∨ mm_dv b n % 3 = mm_dv c n % 3 ∨ mm_dv a n % 3 = mm_dv c n % 3 then 0 else mm_ds a b c n
theorem mm_ds_rg (a b c : Int) (n : Nat) : 0 ≤ mm_ds a b c n ∧ mm_ds a b c n ≤ 1 := by
  induction n with
  | zero => exact ⟨(by decide : (0 : Int) ≤ 1), (by decide : (1 : Int) ≤ 1)⟩
  | succ n ih =>
    show 0 ≤ (if mm_dv a n % 3 = mm_dv b n % 3 ∨ mm_dv b n % 3 = mm_dv c n % 3 ∨ mm_dv a n % 3 = mm_dv c n % 3 then 0 else mm_ds a b c n) ∧ (if mm_dv a n % 3 = mm_dv b n % 3 ∨ mm_dv b n % 3 = mm_dv c n % 3 ∨ mm_dv a n % 3 = mm_dv c n % 3 then 0 else mm_ds a b c n) ≤ 1
    split
    · exact ⟨by decide, by decide⟩
    · exact ih
theorem mm_dv_step {v x i : Int} (w : x = mm_dv v i.toNat) (h0 : 0 ≤ i) : x / 3 = mm_dv v (i + 1).toNat := by
  rw [show (i + 1).toNat = i.toNat + 1 by omega]
  show x / 3 = mm_dv v i.toNat / 3
  rw [w]
theorem mm_dv_end {v x i n : Int} (w : x = mm_dv v i.toNat) (e : i.toNat = n.toNat) : x % 3 = mm_dv v n.toNat % 3 := by rw [← e, w]
theorem mm_ds_step {a b c x y z i : Int} (w : mm_ds a b c i.toNat = 1) (ea : x = mm_dv a i.toNat % 3) (eb : y = mm_dv b i.toNat % 3) (ec : z = mm_dv c i.toNat % 3) (h0 : 0 ≤ i) (n1 : x ≠ y) (n2 : y ≠ z) (n3 : x ≠ z) : mm_ds a b c (i + 1).toNat = 1 := by
  rw [show (i + 1).toNat = i.toNat + 1 by omega]
  show (if mm_dv a i.toNat % 3 = mm_dv b i.toNat % 3 ∨ mm_dv b i.toNat % 3 = mm_dv c i.toNat % 3 ∨ mm_dv a i.toNat % 3 = mm_dv c i.toNat % 3 then 0 else mm_ds a b c i.toNat) = 1
  rw [← ea, ← eb, ← ec, if_neg (fun q => by rcases q with q | q | q; exact n1 q; exact n2 q; exact n3 q)]
  exact w
theorem mm_ds_low {a b c : Int} {k n : Nat} (w : mm_ds a b c k = 0) (h : k ≤ n) : mm_ds a b c n = 0 := by
  induction n with
  | zero =>
    have : k = 0 := by omega
    rw [this] at w
    exact w
  | succ n ih =>
    by_cases q : k = n + 1
    · rw [← q]; exact w
    · show (if mm_dv a n % 3 = mm_dv b n % 3 ∨ mm_dv b n % 3 = mm_dv c n % 3 ∨ mm_dv a n % 3 = mm_dv c n % 3 then 0 else mm_ds a b c n) = 0
      split
      · rfl
      · exact ih (by omega)
theorem mm_ds_hit {a b c x y z i n : Int} (ea : x = mm_dv a i.toNat % 3) (eb : y = mm_dv b i.toNat % 3) (ec : z = mm_dv c i.toNat % 3) (q : x = y ∨ y = z ∨ x = z) (h0 : 0 ≤ i) (h1 : i < n) : mm_ds a b c n.toNat = 0 := by
  refine mm_ds_low (k := i.toNat + 1) ?_ (by omega)
  show (if mm_dv a i.toNat % 3 = mm_dv b i.toNat % 3 ∨ mm_dv b i.toNat % 3 = mm_dv c i.toNat % 3 ∨ mm_dv a i.toNat % 3 = mm_dv c i.toNat % 3 then 0 else mm_ds a b c i.toNat) = 0
  rw [← ea, ← eb, ← ec, if_pos q]
theorem mm_ds_end {a b c i n : Int} (w : mm_ds a b c i.toNat = 1) (e : i.toNat = n.toNat) : mm_ds a b c n.toNat = 1 := by rw [← e]; exact w
/-- row o gets v at three places, where f is 1 -/
def mm_u3 (h h2 : mH) (o : Nat) (a b c v f : Int) : Prop := ∀ j, h2.2.1 o j = if (j = a ∨ j = b ∨ j = c) ∧ f = 1 then v else h.2.1 o j
theorem mm_u3_no {h h2 : mH} {o : Nat} {a b c v f : Int} (hf : f ≠ 1) (e : ∀ j, h2.2.1 o j = h.2.1 o j) : mm_u3 h h2 o a b c v f := fun j => by
  rw [if_neg (fun w => hf w.2)]; exact e j
theorem mm_u3_up {h h1 h2 h3 : mH} {o : Nat} {a b c v : Int} (u : mm_up h h1 o a v 1) (w : mm_up h1 h2 o b v 1) (z : mm_up h2 h3 o c v 1) : mm_u3 h h3 o a b c v 1 := fun j => by
  rw [z j, w j, u j]
  by_cases q1 : j = a <;> by_cases q2 : j = b <;> by_cases q3 : j = c <;> simp [q1, q2, q3]
theorem mm_u3_tr {h h1 h2 h3 : mH} {o : Nat} {a b c v f f' : Int} (e1 : ∀ j, h1.2.1 o j = h.2.1 o j) (u : mm_u3 h1 h2 o a b c v f) (e3 : ∀ j, h3.2.1 o j = h2.2.1 o j) (hf : f = f') : mm_u3 h h3 o a b c v f' := fun j => by
  rw [e3 j, u j, e1 j, hf]
/-- who is in a team -/
def mm_it (h : mH) : Prop := ∀ j, 0 ≤ j → j ≤ h.1 22 8 - 1 → (h.2.1 28 j = 0 ↔ h.2.1 88 j = -1)
theorem mm_it_sm {h h2 : mH} (T : mm_it h) (e : ∀ j, h2.2.1 28 j = h.2.1 28 j) (e' : ∀ j, h2.2.1 88 j = h.2.1 88 j) (n : h2.1 22 8 = h.1 22 8) : mm_it h2 := fun j x y => by
  rw [e, e']; exact T j x (by omega)
theorem mm_it_nil {h : mH} (n : h.1 22 8 = 0) : mm_it h := fun c x y => absurd (Int.le_trans x y) (by omega)
theorem mm_it_v {h : mH} (T : mm_it h) {p : Int} (h0 : 0 ≤ p) (h1 : p < h.1 22 8) : h.2.1 28 p = 0 ↔ h.2.1 88 p = -1 := T p h0 (by omega)
theorem mm_it_runner {h h1 h2 : mH} {f f' n n' : Int} (T : mm_it h) (u : mm_up h h1 28 n 0 f) (e : ∀ j, h2.2.1 28 j = h1.2.1 28 j) (w : mm_up h1 h2 88 n' (-1) f') (e' : ∀ j, h1.2.1 88 j = h.2.1 88 j) (hn : n = h.1 22 8) (hn' : n' = h.1 22 8) (hf : f = 1 ↔ f' = 1) (m : (f = 1 ∧ h2.1 22 8 = h.1 22 8 + 1) ∨ (f ≠ 1 ∧ h2.1 22 8 = h.1 22 8)) : mm_it h2 := fun j x y => by
  rw [e, u j, w j, e', hn, hn']
  by_cases q : j = h.1 22 8 ∧ f = 1
  · rw [if_pos q, if_pos ⟨q.1, hf.mp q.2⟩]; exact ⟨fun _ => rfl, fun _ => rfl⟩
  · rw [if_neg q, if_neg (fun z => q ⟨z.1, hf.mpr z.2⟩)]
    exact T j x (by omega)
theorem mm_it_team {h h1 h2 : mH} {a b c t f f' : Int} (T : mm_it h) (u : mm_u3 h h1 28 a b c 1 f) (e : ∀ j, h2.2.1 28 j = h1.2.1 28 j) (w : mm_u3 h1 h2 88 a b c t f') (e' : ∀ j, h1.2.1 88 j = h.2.1 88 j) (hf : f = 1 ↔ f' = 1) (ht : 0 ≤ t) (m : h2.1 22 8 = h.1 22 8) : mm_it h2 := fun j x y => by
  rw [e, u j, w j, e']
  by_cases q : (j = a ∨ j = b ∨ j = c) ∧ f = 1
  · rw [if_pos q, if_pos ⟨q.1, hf.mp q.2⟩]; exact ⟨fun z => absurd z (by decide), fun z => by omega⟩
  · rw [if_neg q, if_neg (fun z => q ⟨z.1, hf.mpr z.2⟩)]
    exact T j x (by omega)
/-- the loop that writes the team's members: m of them are done -/
def mm_tm (h h2 : mH) (a b c t m : Int) : Prop := ∀ j, h2.2.1 88 j = if (0 < m ∧ j = a) ∨ (1 < m ∧ j = b) ∨ (2 < m ∧ j = c) then t else h.2.1 88 j
theorem mm_tm_0 {h h2 : mH} {a b c t : Int} (e : ∀ j, h2.2.1 88 j = h.2.1 88 j) : mm_tm h h2 a b c t 0 := fun j => by
  rw [if_neg (fun q => by rcases q with q | q | q <;> exact absurd q.1 (by decide))]; exact e j
theorem mm_tm_3 {h h2 : mH} {a b c t m : Int} (w : mm_tm h h2 a b c t m) (hm : m = 3) : mm_u3 h h2 88 a b c t 1 := fun j => by
  rw [w j, hm]; simp
theorem mm_tm_s {h h1 h2 h3 : mH} {a b c t t' m v : Int} (w : mm_tm h h1 a b c t m) (e : h2 = mm_pa h1 88 v t') (et : t' = t) (e3 : ∀ j, h3.2.1 88 j = h2.2.1 88 j) (hv : (m = 0 ∧ v = a) ∨ (m = 1 ∧ v = b) ∨ (m = 2 ∧ v = c)) : mm_tm h h3 a b c t (m + 1) := fun j => by
  rw [e3 j, e, et]
  show (if 88 = 88 ∧ j = v then t else h1.2.1 88 j) = _
  rw [w j]
  rcases hv with ⟨q1, q2⟩ | ⟨q1, q2⟩ | ⟨q1, q2⟩ <;> subst q1 <;> rw [q2] <;> by_cases z1 : j = a <;> by_cases z2 : j = b <;> by_cases z3 : j = c <;> simp_all
theorem mm_tm_v {r : Int → Int} {t t' x a b c : Int} (et : t' = t) (w0 : r (3 * t) = a) (w1 : r (3 * t + 1) = b) (w2 : r (3 * t + 2) = c) (h0 : 0 ≤ x) (h3 : x < 3) : (x = 0 ∧ r (3 * t' + x) = a) ∨ (x = 1 ∧ r (3 * t' + x) = b) ∨ (x = 2 ∧ r (3 * t' + x) = c) := by
  subst et
  by_cases q : x = 0
  · left; subst q; exact ⟨rfl, by rw [Int.add_zero]; exact w0⟩
  · by_cases q1 : x = 1
    · right; left; subst q1; exact ⟨rfl, w1⟩
    · right; right
      have q2 : x = 2 := by omega
      subst q2
      exact ⟨rfl, w2⟩
theorem mm_pa_at {h h2 : mH} {o : Nat} {i j v : Int} (e : h2 = mm_pa h o i v) (hj : j = i) : h2.2.1 o j = v := by rw [e, hj]; exact mm_pa_same _ _ _ _
theorem mm_pa_off {h h2 : mH} {o : Nat} {i j v : Int} (e : h2 = mm_pa h o i v) (hj : j ≠ i) : h2.2.1 o j = h.2.1 o j := by rw [e]; exact mm_pa_j o hj
theorem mm_ds_E {a b c i n : Int} (h0 : 0 ≤ i) (h1 : i = 0 ∨ i ≤ n) : i < n ∨ mm_ds a b c i.toNat = mm_ds a b c n.toNat := by
  by_cases q : i < n
  · exact Or.inl q
  · right
    rw [show i.toNat = n.toNat by omega]
def mm_gt (h : mH) (p1 p2 p3 : Int) : Int := if (p1 ≠ p2 ∧ p2 ≠ p3 ∧ p1 ≠ p3 ∧ h.2.1 28 p1 = 0 ∧ h.2.1 28 p2 = 0 ∧ h.2.1 28 p3 = 0 ∧ h.2.1 23 p1 = h.2.1 23 p2 ∧ h.2.1 23 p2 = h.2.1 23 p3 ∧ h.2.1 17 (h.2.1 23 p1) = 0 ∧ mm_ds (h.2.1 25 p1) (h.2.1 25 p2) (h.2.1 25 p3) (h.2.1 20 (h.2.1 23 p1)).toNat = 1) then 1 else 0
theorem mm_gt_x {h : mH} {p1 p2 p3 x : Int} (q : (x = 1 ∧ (p1 ≠ p2 ∧ p2 ≠ p3 ∧ p1 ≠ p3 ∧ h.2.1 28 p1 = 0 ∧ h.2.1 28 p2 = 0 ∧ h.2.1 28 p3 = 0 ∧ h.2.1 23 p1 = h.2.1 23 p2 ∧ h.2.1 23 p2 = h.2.1 23 p3 ∧ h.2.1 17 (h.2.1 23 p1) = 0 ∧ mm_ds (h.2.1 25 p1) (h.2.1 25 p2) (h.2.1 25 p3) (h.2.1 20 (h.2.1 23 p1)).toNat = 1)) ∨ (x = 0 ∧ (p1 = p2 ∨ p2 = p3 ∨ p1 = p3 ∨ h.2.1 28 p1 ≠ 0 ∨ h.2.1 28 p2 ≠ 0 ∨ h.2.1 28 p3 ≠ 0 ∨ h.2.1 23 p1 ≠ h.2.1 23 p2 ∨ h.2.1 23 p2 ≠ h.2.1 23 p3 ∨ h.2.1 17 (h.2.1 23 p1) ≠ 0 ∨ mm_ds (h.2.1 25 p1) (h.2.1 25 p2) (h.2.1 25 p3) (h.2.1 20 (h.2.1 23 p1)).toNat = 0))) : x = mm_gt h p1 p2 p3 := by
  unfold mm_gt
  rcases q with ⟨q1, q2⟩ | ⟨q1, q2⟩
  · rw [if_pos q2]; exact q1
  · rw [if_neg (fun w => by omega)]; exact q1
def mm_gu (h : mH) (p1 p2 p3 : Int) : Int := if (((p1 ≠ p2 ∧ p2 ≠ p3 ∧ p1 ≠ p3 ∧ h.2.1 85 p1 = h.2.1 85 p2 ∧ h.2.1 85 p2 = h.2.1 85 p3 ∧ h.2.1 83 (h.2.1 85 p1) = 0) ∧ h.2.1 88 p1 = -1 ∧ h.2.1 88 p2 = -1 ∧ h.2.1 88 p3 = -1) ∧ mm_ds (h.2.1 87 p1) (h.2.1 87 p2) (h.2.1 87 p3) (h.2.1 81 (h.2.1 85 p1)).toNat = 1) then 1 else 0
theorem mm_gu_x {h : mH} {p1 p2 p3 x : Int} (q : (x = 1 ∧ (((p1 ≠ p2 ∧ p2 ≠ p3 ∧ p1 ≠ p3 ∧ h.2.1 85 p1 = h.2.1 85 p2 ∧ h.2.1 85 p2 = h.2.1 85 p3 ∧ h.2.1 83 (h.2.1 85 p1) = 0) ∧ h.2.1 88 p1 = -1 ∧ h.2.1 88 p2 = -1 ∧ h.2.1 88 p3 = -1) ∧ mm_ds (h.2.1 87 p1) (h.2.1 87 p2) (h.2.1 87 p3) (h.2.1 81 (h.2.1 85 p1)).toNat = 1)) ∨ (x = 0 ∧ (((p1 = p2 ∨ p2 = p3 ∨ p1 = p3 ∨ h.2.1 85 p1 ≠ h.2.1 85 p2 ∨ h.2.1 85 p2 ≠ h.2.1 85 p3 ∨ h.2.1 83 (h.2.1 85 p1) ≠ 0) ∨ h.2.1 88 p1 ≠ -1 ∨ h.2.1 88 p2 ≠ -1 ∨ h.2.1 88 p3 ≠ -1) ∨ mm_ds (h.2.1 87 p1) (h.2.1 87 p2) (h.2.1 87 p3) (h.2.1 81 (h.2.1 85 p1)).toNat = 0))) : x = mm_gu h p1 p2 p3 := by
  unfold mm_gu
  rcases q with ⟨q1, q2⟩ | ⟨q1, q2⟩
  · rw [if_pos q2]; exact q1
  · rw [if_neg (fun w => by omega)]; exact q1
theorem mm_gt_rg (h : mH) (p1 p2 p3 : Int) : 0 ≤ mm_gt h p1 p2 p3 ∧ mm_gt h p1 p2 p3 ≤ 1 := by
  unfold mm_gt
  split <;> omega
theorem mm_gu_rg (h : mH) (p1 p2 p3 : Int) : 0 ≤ mm_gu h p1 p2 p3 ∧ mm_gu h p1 p2 p3 ≤ 1 := by
  unfold mm_gu
  split <;> omega
theorem mm_gt_eq {h h1 : mH} {p1 p2 p3 : Int} (E17 : mm_eq h 17 83 (h.1 14 8 - 1)) (E20 : mm_eq h 20 81 (h.1 14 8 - 1)) (B : mm_cb h) (E23 : mm_eq h 23 85 (h.1 22 8 - 1)) (E25 : mm_eq h 25 87 (h.1 22 8 - 1)) (I : mm_it h) (hc : h.1 66 22 = h.1 14 8) (hr : h.1 66 23 = h.1 22 8) (h0 : ∀ j, 0 ≤ h.2.1 85 j) (e83 : ∀ j, h1.2.1 83 j = h.2.1 83 j) (e81 : ∀ j, h1.2.1 81 j = h.2.1 81 j) (e85 : ∀ j, h1.2.1 85 j = h.2.1 85 j) (e87 : ∀ j, h1.2.1 87 j = h.2.1 87 j) (e88 : ∀ j, h1.2.1 88 j = h.2.1 88 j) : (p1 < 0 ∨ h.1 22 8 ≤ p1 ∨ p2 < 0 ∨ h.1 22 8 ≤ p2 ∨ p3 < 0 ∨ h.1 22 8 ≤ p3) ∨ mm_gt h p1 p2 p3 = mm_gu h1 p1 p2 p3 := by
  by_cases q : p1 < 0 ∨ h.1 22 8 ≤ p1 ∨ p2 < 0 ∨ h.1 22 8 ≤ p2 ∨ p3 < 0 ∨ h.1 22 8 ≤ p3
  · exact Or.inl q
  · refine Or.inr ?_
    have a1 : 0 ≤ p1 ∧ p1 ≤ h.1 22 8 - 1 := by omega
    have a2 : 0 ≤ p2 ∧ p2 ≤ h.1 22 8 - 1 := by omega
    have a3 : 0 ≤ p3 ∧ p3 ≤ h.1 22 8 - 1 := by omega
    have x1 := E23 p1 a1.1 a1.2
    have x2 := E23 p2 a2.1 a2.2
    have x3 := E23 p3 a3.1 a3.2
    have b1 := B p1 a1.1 (by omega)
    have c1 := h0 p1
    have y17 := E17 (h.2.1 85 p1) c1 (by omega)
    have y20 := E20 (h.2.1 85 p1) c1 (by omega)
    have v1 := E25 p1 a1.1 a1.2
    have v2 := E25 p2 a2.1 a2.2
    have v3 := E25 p3 a3.1 a3.2
    have i1 := I p1 a1.1 a1.2
    have i2 := I p2 a2.1 a2.2
    have i3 := I p3 a3.1 a3.2
    refine (mm_gu_x (h := h1) ?_)
    unfold mm_gt
    rw [e85, e85, e85, e83, e81, e87, e87, e87, e88, e88, e88, x1, x2, x3, y17, y20, v1, v2, v3]
    have dr := mm_ds_rg (h.2.1 87 p1) (h.2.1 87 p2) (h.2.1 87 p3) (h.2.1 81 (h.2.1 85 p1)).toNat
    split
    · left; omega
    · right; omega

/-! ===== tracks ===== -/
def mm_mv (b : Int) : Int := if b = 10 ∨ b = 32 then -2 else if b = 100 then 2 else if b = 108 then 3 else if b = 114 then 1 else if b = 117 then 0 else -1
theorem mm_mv_x {b r : Int} (q : (b = 10 ∧ r = -2) ∨ (b = 32 ∧ r = -2) ∨ (b = 100 ∧ r = 2) ∨ (b = 108 ∧ r = 3) ∨ (b = 114 ∧ r = 1) ∨ (b = 117 ∧ r = 0) ∨ (b ≠ 10 ∧ b ≠ 32 ∧ b ≠ 100 ∧ b ≠ 108 ∧ b ≠ 114 ∧ b ≠ 117 ∧ r = -1)) : mm_mv b = r := by
  unfold mm_mv
  repeat' split
  all_goals omega
theorem mm_mv_rg (b : Int) : mm_mv b = -2 ∨ mm_mv b = -1 ∨ (0 ≤ mm_mv b ∧ mm_mv b ≤ 3) := by
  unfold mm_mv
  repeat' split
  all_goals omega
def mm_wt (nx sc : Int → Int → Int) (m : Int) (q : Int × Int) : Int × Int := if q.1 < 0 then q else if m = -2 then q else if m = -1 then (-2, q.2) else if nx q.1 m = -1 then (-3, q.2) else (nx q.1 m, mm_w (q.2 + sc q.1 (nx q.1 m)))
def mm_wk (nx sc : Int → Int → Int) (tp : Int → Int) (c0 : Int) : Nat → Int × Int
  | 0 => (c0, 0)
  | n + 1 => mm_wt nx sc (mm_mv (tp (n : Int))) (mm_wk nx sc tp c0 n)
def mm_wr (q : Int × Int) : Int := if q.1 < 0 then q.1 else q.2
theorem mm_wk_s {nx sc : Int → Int → Int} {tp : Int → Int} {c0 : Int} {i : Int} (h0 : 0 ≤ i) : mm_wk nx sc tp c0 (i + 1).toNat = mm_wt nx sc (mm_mv (tp i)) (mm_wk nx sc tp c0 i.toNat) := by
  rw [show (i + 1).toNat = i.toNat + 1 by omega]
  show mm_wt nx sc (mm_mv (tp (i.toNat : Int))) _ = _
  rw [Int.toNat_of_nonneg h0]
theorem mm_wk_skip {nx sc : Int → Int → Int} {tp : Int → Int} {c0 : Int} {i c s : Int} (w : mm_wk nx sc tp c0 i.toNat = (c, s)) (h0 : 0 ≤ i) (hc : 0 ≤ c) (hm : mm_mv (tp i) = -2) : mm_wk nx sc tp c0 (i + 1).toNat = (c, s) := by
  rw [mm_wk_s h0, w, hm]
  unfold mm_wt
  rw [if_neg (show ¬ c < 0 by omega), if_pos rfl]
theorem mm_wk_go {nx sc : Int → Int → Int} {tp : Int → Int} {c0 : Int} {i c s m t s' : Int} (w : mm_wk nx sc tp c0 i.toNat = (c, s)) (h0 : 0 ≤ i) (hc : 0 ≤ c) (hm : mm_mv (tp i) = m) (m2 : m ≠ -2) (m1 : m ≠ -1) (hn : nx c m = t) (ht : t ≠ -1) (hs : s' = mm_w (s + sc c t)) : mm_wk nx sc tp c0 (i + 1).toNat = (t, s') := by
  rw [mm_wk_s h0, w, hm]
  unfold mm_wt
  rw [if_neg (show ¬ c < 0 by omega), if_neg m2, if_neg m1]
  show (if nx c m = -1 then ((-3 : Int), s) else (nx c m, mm_w (s + sc c (nx c m)))) = _
  rw [hn, if_neg ht, hs]
theorem mm_wk_stay {nx sc : Int → Int → Int} {tp : Int → Int} {c0 : Int} {k n : Nat} (q : (mm_wk nx sc tp c0 k).1 < 0) (h : k ≤ n) : mm_wk nx sc tp c0 n = mm_wk nx sc tp c0 k := by
  induction n with
  | zero => rw [show k = 0 by omega]
  | succ n ih =>
    by_cases e : k = n + 1
    · rw [e]
    · have z := ih (by omega)
      show mm_wt nx sc _ (mm_wk nx sc tp c0 n) = _
      rw [z]
      unfold mm_wt
      rw [if_pos q]
theorem mm_wk_f2 {nx sc : Int → Int → Int} {tp : Int → Int} {c0 : Int} {i c s n : Int} (w : mm_wk nx sc tp c0 i.toNat = (c, s)) (h0 : 0 ≤ i) (hc : 0 ≤ c) (hm : mm_mv (tp i) = -1) (hn : i < n) : -2 = mm_wr (mm_wk nx sc tp c0 n.toNat) := by
  have z : mm_wk nx sc tp c0 (i + 1).toNat = (-2, s) := by
    rw [mm_wk_s h0, w, hm]
    unfold mm_wt
    rw [if_neg (show ¬ c < 0 by omega), if_neg (by decide), if_pos rfl]
  rw [mm_wk_stay (k := (i + 1).toNat) (by rw [z]; exact (by decide : (-2 : Int) < 0)) (by omega), z]
  rfl
theorem mm_wk_f3 {nx sc : Int → Int → Int} {tp : Int → Int} {c0 : Int} {i c s m n : Int} (w : mm_wk nx sc tp c0 i.toNat = (c, s)) (h0 : 0 ≤ i) (hc : 0 ≤ c) (hm : mm_mv (tp i) = m) (m2 : m ≠ -2) (m1 : m ≠ -1) (hx : nx c m = -1) (hn : i < n) : -3 = mm_wr (mm_wk nx sc tp c0 n.toNat) := by
  have z : mm_wk nx sc tp c0 (i + 1).toNat = (-3, s) := by
    rw [mm_wk_s h0, w, hm]
    unfold mm_wt
    rw [if_neg (show ¬ c < 0 by omega), if_neg m2, if_neg m1]
    show (if nx c m = -1 then ((-3 : Int), s) else (nx c m, mm_w (s + sc c (nx c m)))) = _
    rw [hx, if_pos rfl]
  rw [mm_wk_stay (k := (i + 1).toNat) (by rw [z]; exact (by decide : (-3 : Int) < 0)) (by omega), z]
  rfl
theorem mm_wk_end {nx sc : Int → Int → Int} {tp : Int → Int} {c0 : Int} {i c s n : Int} (w : mm_wk nx sc tp c0 i.toNat = (c, s)) (hc : 0 ≤ c) (e : i = n) : s = mm_wr (mm_wk nx sc tp c0 n.toNat) := by
  rw [← e, w]
  unfold mm_wr
  rw [if_neg (show ¬ c < 0 by omega)]
theorem mm_wk_eq {nx sc : Int → Int → Int} {tp : Int → Int} {c0 : Int} {nx' sc' : Int → Int → Int} {tp' : Int → Int} {n : Nat} (P : Int → Prop) (p0 : P c0) (hp : ∀ c m, P c → 0 ≤ m → m ≤ 3 → nx c m ≠ -1 → P (nx c m)) (hn : ∀ c m, P c → 0 ≤ m → m ≤ 3 → nx' c m = nx c m) (hs : ∀ a b, P a → P b → sc' a b = sc a b) (ht : ∀ j : Int, 0 ≤ j → j < n → tp' j = tp j) : mm_wk nx' sc' tp' c0 n = mm_wk nx sc tp c0 n ∧ (0 ≤ (mm_wk nx sc tp c0 n).1 → P (mm_wk nx sc tp c0 n).1) := by
  induction n with
  | zero => exact ⟨rfl, fun _ => p0⟩
  | succ n ih =>
    obtain ⟨z, y⟩ := ih (fun j a b => ht j a (by omega))
    show mm_wt nx' sc' (mm_mv (tp' (n : Int))) (mm_wk nx' sc' tp' c0 n) = mm_wt nx sc (mm_mv (tp (n : Int))) (mm_wk nx sc tp c0 n) ∧ (0 ≤ (mm_wt nx sc (mm_mv (tp (n : Int))) (mm_wk nx sc tp c0 n)).1 → P (mm_wt nx sc (mm_mv (tp (n : Int))) (mm_wk nx sc tp c0 n)).1)
    rw [z, ht (n : Int) (by omega) (by omega)]
    generalize mm_wk nx sc tp c0 n = q at y ⊢
    have r := mm_mv_rg (tp (n : Int))
    generalize mm_mv (tp (n : Int)) = m at r ⊢
    unfold mm_wt
    by_cases a1 : q.1 < 0
    · rw [if_pos a1, if_pos a1]; exact ⟨rfl, fun w => absurd a1 (by omega)⟩
    · rw [if_neg a1, if_neg a1]
      have yq := y (by omega)
      by_cases a2 : m = -2
      · rw [if_pos a2, if_pos a2]; exact ⟨rfl, fun _ => yq⟩
      · rw [if_neg a2, if_neg a2]
        by_cases a3 : m = -1
        · rw [if_pos a3, if_pos a3]; exact ⟨rfl, fun w => absurd w (show ¬ (0 : Int) ≤ -2 by decide)⟩
        · rw [if_neg a3, if_neg a3, hn q.1 m yq (by omega) (by omega)]
          by_cases a4 : nx q.1 m = -1
          · rw [if_pos a4, if_pos a4]; exact ⟨rfl, fun w => absurd w (show ¬ (0 : Int) ≤ -3 by decide)⟩
          · have yp := hp q.1 m yq (by omega) (by omega) a4
            rw [if_neg a4, if_neg a4, hs _ _ yq yp]
            exact ⟨rfl, fun _ => yp⟩
/-- the climb -/
def mm_cm (k u : Int) : Int := if 0 < u then u * k else 0
theorem mm_cm_p {k u v : Int} (q : 0 < u) (e : v = u * k) : v = mm_cm k u := by unfold mm_cm; rw [if_pos q]; exact e
theorem mm_cm_q {k u v : Int} (q : 0 < u) (e : v = k * u) : v = mm_cm k u := by unfold mm_cm; rw [if_pos q, e, Int.mul_comm]
theorem mm_cm_0 {k u : Int} (q : u ≤ 0) : 0 = mm_cm k u := by unfold mm_cm; rw [if_neg (by omega)]
/-- class: where a move leads, what it takes -/
def mm_bx (h : mH) (c m : Int) : Int := if mm_bes h c m = -1 then -1 else if 0 < h.2.1 6 (h.2.1 2 (mm_bes h c m)) then mm_bes h c m else -1
def mm_sx (h : mH) (a b : Int) : Int := h.2.1 6 (h.2.1 2 b) + mm_cm (h.2.1 6 8) (h.2.1 3 b - h.2.1 3 a)
def mm_wX (h : mH) (n : Int) : Int := mm_wr (mm_wk (mm_bx h) (mm_sx h) (h.2.1 62) (h.1 1 7) n.toNat)
theorem mm_bx_1 {h : mH} {c m v : Int} (e : v = mm_bes h c m) (q : v = -1 ∨ h.2.1 6 (h.2.1 2 v) ≤ 0) : mm_bx h c m = -1 := by
  unfold mm_bx
  rw [← e]
  by_cases z : v = -1
  · rw [if_pos z]
  · rw [if_neg z, if_neg (by omega)]
theorem mm_bx_2 {h : mH} {c m v : Int} (e : v = mm_bes h c m) (q : v ≠ -1) (q2 : 0 < h.2.1 6 (h.2.1 2 v)) : mm_bx h c m = v := by
  unfold mm_bx
  rw [← e, if_neg q, if_pos q2]
theorem mm_wX_fr {h h' : mH} (n : Int) (w5 : h'.1 1 5 = h.1 1 5) (w6 : h'.1 1 6 = h.1 1 6) (w7 : h'.1 1 7 = h.1 1 7) (e2 : ∀ j, h'.2.1 2 j = h.2.1 2 j) (e3 : ∀ j, h'.2.1 3 j = h.2.1 3 j) (e4 : ∀ j, h'.2.1 4 j = h.2.1 4 j) (e5 : ∀ j, h'.2.1 5 j = h.2.1 5 j) (e6 : ∀ j, h'.2.1 6 j = h.2.1 6 j) (e62 : ∀ j, h'.2.1 62 j = h.2.1 62 j) : mm_wX h' n = mm_wX h n := by
  have a : mm_bx h' = mm_bx h := by
    funext c m
    unfold mm_bx
    rw [mm_bes_fr w5 w6 e4 e5, e2, e6]
  have b : mm_sx h' = mm_sx h := by
    funext c m
    unfold mm_sx
    rw [e2, e6, e6, e3, e3]
  have c : h'.2.1 62 = h.2.1 62 := funext e62
  unfold mm_wX
  rw [a, b, c, w7]
/-- reference: where a move leads, what it takes -/
def mm_dx (m : Int) : Int := if m = 1 then 1 else if m = 3 then -1 else 0
def mm_dy (m : Int) : Int := if m = 2 then 1 else if m = 0 then -1 else 0
theorem mm_dx_x {m a : Int} (q : (m ≠ 1 ∧ m = 3 ∧ a = -1) ∨ (m ≠ 1 ∧ m ≠ 3 ∧ a = 0) ∨ (m = 1 ∧ a = 1)) : a = mm_dx m := by
  unfold mm_dx
  repeat' split
  all_goals omega
theorem mm_dy_x {m a : Int} (q : (m ≠ 2 ∧ m = 0 ∧ a = -1) ∨ (m ≠ 2 ∧ m ≠ 0 ∧ a = 0) ∨ (m = 2 ∧ a = 1)) : a = mm_dy m := by
  unfold mm_dy
  repeat' split
  all_goals omega
def mm_wl (h : mH) (c m t : Int) : Int := if m = 1 then h.2.1 70 c else if m = 3 then h.2.1 70 t else if m = 2 then h.2.1 71 c else h.2.1 71 t
theorem mm_wl_x {h : mH} {c m t v : Int} (q : (m = 1 ∧ v = h.2.1 70 c) ∨ (m ≠ 1 ∧ m = 3 ∧ v = h.2.1 70 t) ∨ (m ≠ 1 ∧ m ≠ 3 ∧ m = 2 ∧ v = h.2.1 71 c) ∨ (m ≠ 1 ∧ m ≠ 3 ∧ m ≠ 2 ∧ v = h.2.1 71 t)) : v = mm_wl h c m t := by
  unfold mm_wl
  repeat' split
  all_goals omega
def mm_bz (h : mH) (c m a b : Int) : Int := if c % 20 + a < 0 ∨ c / 20 + b < 0 ∨ h.1 66 1 ≤ c % 20 + a ∨ h.1 66 2 ≤ c / 20 + b then -1 else if mm_wl h c m (20 * (c / 20 + b) + (c % 20 + a)) ≠ 0 ∨ h.2.1 69 (h.2.1 67 (20 * (c / 20 + b) + (c % 20 + a))) = 0 then -1 else 20 * (c / 20 + b) + (c % 20 + a)
def mm_by (h : mH) (c m : Int) : Int := mm_bz h c m (mm_dx m) (mm_dy m)
theorem mm_by_0 {h : mH} {c m a b : Int} (za : a = mm_dx m) (zb : b = mm_dy m) (q : c % 20 + a < 0 ∨ c / 20 + b < 0 ∨ h.1 66 1 ≤ c % 20 + a ∨ h.1 66 2 ≤ c / 20 + b) : -1 = mm_by h c m := by
  unfold mm_by mm_bz
  rw [← za, ← zb, if_pos q]
theorem mm_by_1 {h : mH} {c m a b v : Int} (za : a = mm_dx m) (zb : b = mm_dy m) (q : ¬ (c % 20 + a < 0 ∨ c / 20 + b < 0 ∨ h.1 66 1 ≤ c % 20 + a ∨ h.1 66 2 ≤ c / 20 + b)) (zv : v = mm_wl h c m (20 * (c / 20 + b) + (c % 20 + a))) (q2 : v ≠ 0 ∨ h.2.1 69 (h.2.1 67 (20 * (c / 20 + b) + (c % 20 + a))) = 0) : -1 = mm_by h c m := by
  unfold mm_by mm_bz
  rw [← za, ← zb, if_neg q, ← zv, if_pos q2]
theorem mm_by_2 {h : mH} {c m a b v : Int} (za : a = mm_dx m) (zb : b = mm_dy m) (q : ¬ (c % 20 + a < 0 ∨ c / 20 + b < 0 ∨ h.1 66 1 ≤ c % 20 + a ∨ h.1 66 2 ≤ c / 20 + b)) (zv : v = mm_wl h c m (20 * (c / 20 + b) + (c % 20 + a))) (q2 : ¬ (v ≠ 0 ∨ h.2.1 69 (h.2.1 67 (20 * (c / 20 + b) + (c % 20 + a))) = 0)) : 20 * (c / 20 + b) + (c % 20 + a) = mm_by h c m := by
  unfold mm_by mm_bz
  rw [← za, ← zb, if_neg q, ← zv, if_neg q2]
def mm_sy (h : mH) (a b : Int) : Int := h.2.1 69 (h.2.1 67 b) + mm_cm (h.1 66 3) (h.2.1 68 b - h.2.1 68 a)
def mm_wY (h : mH) (n : Int) : Int := mm_wr (mm_wk (mm_by h) (mm_sy h) (h.2.1 101) (20 * h.1 66 10 + h.1 66 9) n.toNat)
theorem mm_wY_fr {h h' : mH} (n : Int) (w1 : h'.1 66 1 = h.1 66 1) (w2 : h'.1 66 2 = h.1 66 2) (w3 : h'.1 66 3 = h.1 66 3) (w4 : h'.1 66 9 = h.1 66 9) (w5 : h'.1 66 10 = h.1 66 10) (e2 : ∀ j, h'.2.1 67 j = h.2.1 67 j) (e3 : ∀ j, h'.2.1 68 j = h.2.1 68 j) (e6 : ∀ j, h'.2.1 69 j = h.2.1 69 j) (e4 : ∀ j, h'.2.1 70 j = h.2.1 70 j) (e5 : ∀ j, h'.2.1 71 j = h.2.1 71 j) (e62 : ∀ j, h'.2.1 101 j = h.2.1 101 j) : mm_wY h' n = mm_wY h n := by
  have a : mm_by h' = mm_by h := by
    funext c m
    unfold mm_by mm_bz mm_wl
    rw [w1, w2, e2, e6, e4, e4, e5, e5]
  have b : mm_sy h' = mm_sy h := by
    funext c m
    unfold mm_sy
    rw [e2, e6, w3, e3, e3]
  have c : h'.2.1 101 = h.2.1 101 := funext e62
  unfold mm_wY
  rw [a, b, c, w4, w5]
def mm_inl (h : mH) (c : Int) : Prop := 0 ≤ c ∧ c % 20 < h.1 1 5 ∧ c / 20 < h.1 1 6
theorem mm_bxy {h : mH} {c m : Int} (i : mm_inl h c) (m0 : 0 ≤ m) (m3 : m ≤ 3) (hw : h.1 66 1 = h.1 1 5) (hh : h.1 66 2 = h.1 1 6) (w20 : h.1 1 5 ≤ 20) (h20 : h.1 1 6 ≤ 20) (E2 : mm_eq h 2 67 399) (E6 : mm_eq h 6 69 7) (E4 : mm_eq h 4 70 399) (E5 : mm_eq h 5 71 399) (b2 : ∀ j, 0 ≤ h.2.1 2 j ∧ h.2.1 2 j ≤ 7) (b6 : ∀ j, 0 ≤ h.2.1 6 j) : mm_by h c m = mm_bx h c m ∧ (mm_bx h c m ≠ -1 → mm_inl h (mm_bx h c m)) := by
  obtain ⟨c0, c1, c2⟩ := i
  have T : ∀ t, 0 ≤ t → t ≤ 399 → h.2.1 69 (h.2.1 67 t) = h.2.1 6 (h.2.1 2 t) := fun t a b => by
    rw [← E2 t a b, ← E6 _ (b2 t).1 (b2 t).2]
  have key : ∀ (a b v t : Int), mm_dx m = a → mm_dy m = b → t = c + a + 20 * b → v = mm_wl h c m t → ((0 ≤ c % 20 + a ∧ 0 ≤ c / 20 + b ∧ c % 20 + a < h.1 1 5 ∧ c / 20 + b < h.1 1 6 ∧ v = 0 ∧ mm_bes h c m = t) ∨ (mm_bes h c m = -1 ∧ (c % 20 + a < 0 ∨ c / 20 + b < 0 ∨ h.1 1 5 ≤ c % 20 + a ∨ h.1 1 6 ≤ c / 20 + b ∨ v ≠ 0))) → mm_by h c m = mm_bx h c m ∧ (mm_bx h c m ≠ -1 → mm_inl h (mm_bx h c m)) := by
    intro a b v t ha hb ht hv q
    have et : 20 * (c / 20 + b) + (c % 20 + a) = t := by omega
    rcases q with ⟨q1, q2, q3, q4, q5, q6⟩ | ⟨q1, q2⟩
    · have t0 : 0 ≤ t := by omega
      have t1 : t ≤ 399 := by omega
      have tb := b6 (h.2.1 2 t)
      by_cases z : h.2.1 6 (h.2.1 2 t) = 0
      · have x1 : mm_bx h c m = -1 := mm_bx_1 q6.symm (Or.inr (by omega))
        have x2 : -1 = mm_by h c m := mm_by_1 (v := v) ha.symm hb.symm (by omega) (by rw [et]; exact hv) (Or.inr (by rw [et, T t t0 t1]; exact z))
        exact ⟨by rw [← x2, x1], fun w => absurd x1 w⟩
      · have x1 : mm_bx h c m = t := mm_bx_2 q6.symm (by omega) (by omega)
        have x2 : 20 * (c / 20 + b) + (c % 20 + a) = mm_by h c m := mm_by_2 (v := v) ha.symm hb.symm (by omega) (by rw [et]; exact hv) (by rw [et, T t t0 t1]; intro w; rcases w with w | w; exact w q5; exact z w)
        refine ⟨by rw [← x2, x1, et], fun _ => ?_⟩
        rw [x1]
        refine ⟨t0, ?_, ?_⟩ <;> omega
    · have x1 : mm_bx h c m = -1 := mm_bx_1 q1.symm (Or.inl rfl)
      refine ⟨?_, fun w => absurd x1 w⟩
      rw [x1]
      by_cases z : c % 20 + a < 0 ∨ c / 20 + b < 0 ∨ h.1 1 5 ≤ c % 20 + a ∨ h.1 1 6 ≤ c / 20 + b
      · exact (mm_by_0 ha.symm hb.symm (by rw [hw, hh]; exact z)).symm
      · exact (mm_by_1 (v := v) ha.symm hb.symm (by rw [hw, hh]; exact z) (by rw [et]; exact hv) (Or.inl (by omega))).symm
  have cc : m = 0 ∨ m = 1 ∨ m = 2 ∨ m = 3 := by omega
  rcases cc with r | r | r | r <;> subst r
  · refine key 0 (-1) (h.2.1 71 (c - 20)) (c - 20) rfl rfl (by omega) (by unfold mm_wl; rfl) ?_
    unfold mm_bes
    rw [if_pos rfl]
    by_cases y : 0 < c / 20
    · have e5 := E5 (c - 20) (by omega) (by omega)
      rw [← e5]
      by_cases z : h.2.1 5 (c - 20) = 0
      · rw [if_pos ⟨y, z⟩]; left; refine ⟨?_, ?_, ?_, ?_, z, rfl⟩ <;> omega
      · rw [if_neg (fun w => z w.2)]; right; exact ⟨rfl, by omega⟩
    · rw [if_neg (fun w => y w.1)]; right; exact ⟨rfl, by omega⟩
  · refine key 1 0 (h.2.1 70 c) (c + 1) rfl rfl (by omega) (by unfold mm_wl; rfl) ?_
    unfold mm_bes
    rw [if_neg (by decide), if_pos rfl]
    have e5 := E4 c (by omega) (by omega)
    rw [← e5]
    by_cases y : c % 20 < h.1 1 5 - 1
    · by_cases z : h.2.1 4 c = 0
      · rw [if_pos ⟨y, z⟩]; left; refine ⟨?_, ?_, ?_, ?_, z, rfl⟩ <;> omega
      · rw [if_neg (fun w => z w.2)]; right; exact ⟨rfl, by omega⟩
    · rw [if_neg (fun w => y w.1)]; right; exact ⟨rfl, by omega⟩
  · refine key 0 1 (h.2.1 71 c) (c + 20) rfl rfl (by omega) (by unfold mm_wl; rfl) ?_
    unfold mm_bes
    rw [if_neg (by decide), if_neg (by decide), if_pos rfl]
    have e5 := E5 c (by omega) (by omega)
    rw [← e5]
    by_cases y : c / 20 < h.1 1 6 - 1
    · by_cases z : h.2.1 5 c = 0
      · rw [if_pos ⟨y, z⟩]; left; refine ⟨?_, ?_, ?_, ?_, z, rfl⟩ <;> omega
      · rw [if_neg (fun w => z w.2)]; right; exact ⟨rfl, by omega⟩
    · rw [if_neg (fun w => y w.1)]; right; exact ⟨rfl, by omega⟩
  · refine key (-1) 0 (h.2.1 70 (c - 1)) (c - 1) rfl rfl (by omega) (by unfold mm_wl; rfl) ?_
    unfold mm_bes
    rw [if_neg (by decide), if_neg (by decide), if_neg (by decide), if_pos rfl]
    by_cases y : 0 < c % 20
    · have e5 := E4 (c - 1) (by omega) (by omega)
      rw [← e5]
      by_cases z : h.2.1 4 (c - 1) = 0
      · rw [if_pos ⟨y, z⟩]; left; refine ⟨?_, ?_, ?_, ?_, z, rfl⟩ <;> omega
      · rw [if_neg (fun w => z w.2)]; right; exact ⟨rfl, by omega⟩
    · rw [if_neg (fun w => y w.1)]; right; exact ⟨rfl, by omega⟩
/-- where tracks start -/
def mm_go (h : mH) : Prop := h.1 1 7 = 20 * h.1 66 10 + h.1 66 9 ∧ h.1 66 9 < h.1 1 5 ∧ h.1 66 10 < h.1 1 6 ∧ h.2.1 6 8 = h.1 66 3
theorem mm_go_sm {h h2 : mH} (G : mm_go h) (e6 : ∀ j, h2.2.1 6 j = h.2.1 6 j) (a1 : h2.1 1 7 = h.1 1 7) (a2 : h2.1 66 10 = h.1 66 10) (a3 : h2.1 66 9 = h.1 66 9) (a4 : h2.1 1 5 = h.1 1 5) (a5 : h2.1 1 6 = h.1 1 6) (a6 : h2.1 66 3 = h.1 66 3) : mm_go h2 := by
  unfold mm_go at G ⊢
  rw [e6]
  omega
theorem mm_wXY {h h1 : mH} {n : Int} (hn : n ≤ h.1 0 12) (hw : h.1 66 1 = h.1 1 5) (hh : h.1 66 2 = h.1 1 6) (w20 : h.1 1 5 ≤ 20) (h20 : h.1 1 6 ≤ 20) (s0 : 0 ≤ h.1 66 9) (s1 : 0 ≤ h.1 66 10) (E2 : mm_eq h 2 67 399) (E6 : mm_eq h 6 69 7) (E3 : mm_eq h 3 68 399) (E4 : mm_eq h 4 70 399) (E5 : mm_eq h 5 71 399) (ET : mm_eq h 62 101 (h.1 0 12 - 1)) (G : mm_go h) (b2 : ∀ j, 0 ≤ h.2.1 2 j ∧ h.2.1 2 j ≤ 7) (b6 : ∀ j, 0 ≤ h.2.1 6 j) : mm_wY h n = mm_wX h n := by
  unfold mm_wY mm_wX
  rw [← G.1]
  have inb : ∀ c, mm_inl h c → 0 ≤ c ∧ c ≤ 399 := fun c i => by
    obtain ⟨c0, c1, c2⟩ := i
    omega
  have z := mm_wk_eq (nx := mm_bx h) (sc := mm_sx h) (tp := h.2.1 62) (c0 := h.1 1 7) (nx' := mm_by h) (sc' := mm_sy h) (tp' := h.2.1 101) (n := n.toNat) (mm_inl h) (by
      have g := G
      unfold mm_go at g
      refine ⟨?_, ?_, ?_⟩ <;> omega)
    (fun c m i m0 m3 q => (mm_bxy i m0 m3 hw hh w20 h20 E2 E6 E4 E5 b2 b6).2 q)
    (fun c m i m0 m3 => (mm_bxy i m0 m3 hw hh w20 h20 E2 E6 E4 E5 b2 b6).1)
    (fun a b ia ib => by
      have x := inb a ia
      have y := inb b ib
      unfold mm_sy mm_sx
      rw [← E3 a x.1 x.2, ← E3 b y.1 y.2, ← E2 b y.1 y.2, ← E6 _ (b2 b).1 (b2 b).2, G.2.2.2])
    (fun j a b => (ET j a (by omega)).symm)
  rw [z.1]
/-- bytes on the tape -/
def mm_bt (v s : Int) : Int := mm_viand (mm_vishr v s) 255
theorem mm_bt_b (y : BitVec 32) (k : Nat) (hk : k ≤ 24) : y >>> k &&& 255#32 = y.sshiftRight k &&& 255#32 := by
  have f : ∀ i : Fin 32, 8 ≤ i.val → (255#32).getLsbD i.val = false := by decide
  apply BitVec.eq_of_getLsbD_eq
  intro i hi
  rw [BitVec.getLsbD_and, BitVec.getLsbD_and, BitVec.getLsbD_ushiftRight, BitVec.getLsbD_sshiftRight]
  by_cases q : i < 8
  · rw [if_pos (by omega)]
    have : decide (32 ≤ i) = false := decide_eq_false (by omega)
    rw [this]
    rfl
  · rw [f ⟨i, hi⟩ (by show 8 ≤ i; omega), Bool.and_false, Bool.and_false]
theorem mm_bt_u (v : Int) {s : Int} (q : s = 24 ∨ s = 16 ∨ s = 8 ∨ s = 0) : mm_viand (mm_viushr v s) 255 = mm_bt v s := by
  unfold mm_bt mm_viand mm_viushr mm_vishr
  rw [Int32.ofInt_toInt, Int32.ofInt_toInt]
  congr 1
  generalize Int32.ofInt v = x
  apply Int32.toBitVec_inj.mp
  rcases q with q | q | q | q <;> subst q <;> simp
  · exact mm_bt_b _ 24 (by decide)
  · exact mm_bt_b _ 16 (by decide)
  · exact mm_bt_b _ 8 (by decide)
/-- row o gets F between t and n -/
def mm_tp (h h2 : mH) (o : Nat) (t n : Int) (F : Int → Int) : Prop := ∀ j, h2.2.1 o j = if t ≤ j ∧ j < n then F j else h.2.1 o j
theorem mm_tp_0 {h h2 : mH} {o : Nat} {t n : Int} {F : Int → Int} (e : ∀ j, h2.2.1 o j = h.2.1 o j) (q : n ≤ t) : mm_tp h h2 o t n F := fun j => by
  rw [if_neg (by omega)]; exact e j
theorem mm_tp_s {h h1 h2 h3 : mH} {o : Nat} {t n n' i v : Int} {F : Int → Int} (w : mm_tp h h1 o t n F) (e : h2 = mm_pa h1 o i v) (e3 : ∀ j, h3.2.1 o j = h2.2.1 o j) (hi : i = n) (ht : t ≤ n) (hv : v = F n) (hn : n' = n + 1) : mm_tp h h3 o t n' F := fun j => by
  rw [e3, e, hi, hn]
  by_cases q : j = n
  · rw [q, mm_pa_same, if_pos (by omega)]; exact hv
  · rw [mm_pa_j o q, w j]
    by_cases z : t ≤ j ∧ j < n
    · rw [if_pos z, if_pos (by omega)]
    · rw [if_neg z, if_neg (by omega)]
theorem mm_tp_c {h h1 h2 : mH} {o : Nat} {t n n' : Int} {F G K : Int → Int} (w : mm_tp h h1 o t n F) (u : mm_tp h1 h2 o n n' G) (h1' : t ≤ n) (h2' : n ≤ n') (a : ∀ j, t ≤ j → j < n → K j = F j) (b : ∀ j, n ≤ j → j < n' → K j = G j) : mm_tp h h2 o t n' K := fun j => by
  rw [u j]
  by_cases q : n ≤ j ∧ j < n'
  · rw [if_pos q, if_pos (by omega), b j q.1 q.2]
  · rw [if_neg q, w j]
    by_cases z : t ≤ j ∧ j < n
    · rw [if_pos z, if_pos (by omega), a j z.1 z.2]
    · rw [if_neg z, if_neg (by omega)]
theorem mm_tp_tr {h h1 h2 h3 : mH} {o : Nat} {t n : Int} {F : Int → Int} (e1 : ∀ j, h1.2.1 o j = h.2.1 o j) (u : mm_tp h1 h2 o t n F) (e3 : ∀ j, h3.2.1 o j = h2.2.1 o j) : mm_tp h h3 o t n F := fun j => by
  rw [e3 j, u j, e1 j]
/-- what feed lays -/
def mm_F (a b c d e t j : Int) : Int := if j < t + 4 then mm_bt a (24 - 8 * (j - t)) else if j < t + 8 then mm_bt b (24 - 8 * (j - (t + 4))) else if j < t + 12 then mm_bt c (24 - 8 * (j - (t + 8))) else if j < t + 16 then mm_bt d (24 - 8 * (j - (t + 12))) else mm_bt e (24 - 8 * (j - (t + 16)))
theorem mm_tp_5 {h h1 h2 h3 h4 h5 : mH} {o : Nat} {t a b c d e t1 t2 t3 t4 t5 : Int} (u1 : mm_tp h h1 o t (t + 4) (fun j => mm_bt a (24 - 8 * (j - t)))) (u2 : mm_tp h1 h2 o t1 (t1 + 4) (fun j => mm_bt b (24 - 8 * (j - t1)))) (u3 : mm_tp h2 h3 o t2 (t2 + 4) (fun j => mm_bt c (24 - 8 * (j - t2)))) (u4 : mm_tp h3 h4 o t3 (t3 + 4) (fun j => mm_bt d (24 - 8 * (j - t3)))) (u5 : mm_tp h4 h5 o t4 (t4 + 4) (fun j => mm_bt e (24 - 8 * (j - t4)))) (e1 : t1 = t + 4) (e2 : t2 = t + 8) (e3 : t3 = t + 12) (e4 : t4 = t + 16) (e5 : t5 = t + 20) : mm_tp h h5 o t t5 (mm_F a b c d e t) := by
  subst e1
  subst e2
  subst e3
  subst e4
  subst e5
  rw [show t + 4 + 4 = t + 8 by omega] at u2
  rw [show t + 8 + 4 = t + 12 by omega] at u3
  rw [show t + 12 + 4 = t + 16 by omega] at u4
  rw [show t + 16 + 4 = t + 20 by omega] at u5
  have k2 := mm_tp_c (K := mm_F a b c d e t) u1 u2 (by omega) (by omega) (fun j x y => by unfold mm_F; rw [if_pos y]) (fun j x y => by unfold mm_F; rw [if_neg (by omega), if_pos y])
  have k3 := mm_tp_c (K := mm_F a b c d e t) k2 u3 (by omega) (by omega) (fun j x y => rfl) (fun j x y => by unfold mm_F; rw [if_neg (by omega), if_neg (by omega), if_pos y])
  have k4 := mm_tp_c (K := mm_F a b c d e t) k3 u4 (by omega) (by omega) (fun j x y => rfl) (fun j x y => by unfold mm_F; rw [if_neg (by omega), if_neg (by omega), if_neg (by omega), if_pos y])
  exact mm_tp_c (K := mm_F a b c d e t) k4 u5 (by omega) (by omega) (fun j x y => rfl) (fun j x y => by unfold mm_F; rw [if_neg (by omega), if_neg (by omega), if_neg (by omega), if_neg (by omega)])
/-- both sides lay the same -/
theorem mm_eq_tp {h h1 h2 : mH} {a b : Nat} {m m' t n n2 : Int} {F : Int → Int} (E : mm_eq h a b m) (u : mm_tp h h1 a t n F) (e1 : ∀ j, h1.2.1 b j = h.2.1 b j) (w : mm_tp h1 h2 b t n2 F) (e2 : ∀ j, h2.2.1 a j = h1.2.1 a j) (hn : n2 = n) (ht : t ≤ m + 1) (hm : m' ≤ m ∨ m' ≤ n - 1) : mm_eq h2 a b m' := fun j x y => by
  rw [e2 j, u j, w j, e1 j, hn]
  by_cases q : t ≤ j ∧ j < n
  · rw [if_pos q, if_pos q]
  · rw [if_neg q, if_neg q]
    exact E j x (by omega)
theorem mm_pa_is {h h2 : mH} {o : Nat} {i j v : Int} (e : h2 = mm_pa h o i v) (hj : j = i) : h2.2.1 o j = v := by rw [e, hj]; exact mm_pa_same _ _ _ _
theorem mm_va_nw {S : List (Nat × Nat)} {n o : Nat} {h : mH} {j v : Int} (A : h.2.1 o j = v) (i : mm_inp S n h) (ho : o ≠ n) : (mm_nw h).2.1 o j = v := by
  show (if o = h.2.2 then 0 else h.2.1 o j) = v
  rw [i.2.2, if_neg ho]
  exact A
theorem mm_fi_nw {S : List (Nat × Nat)} {n o k : Nat} {h : mH} {v : Int} (A : h.1 o k = v) (i : mm_inp S n h) (ho : o ≠ n) : (mm_nw h).1 o k = v := by
  show (if o = h.2.2 then 0 else h.1 o k) = v
  rw [i.2.2, if_neg ho]
  exact A
theorem mm_go_takes {h h1 h2 : mH} {p v f : Int} (G : mm_go h) (u : mm_up h h1 6 p v f) (e : ∀ j, h2.2.1 6 j = h1.2.1 6 j) (a1 : h2.1 1 7 = h.1 1 7) (a2 : h2.1 66 10 = h.1 66 10) (a3 : h2.1 66 9 = h.1 66 9) (a4 : h2.1 1 5 = h.1 1 5) (a5 : h2.1 1 6 = h.1 1 6) (c : (f = 1 ∧ p = 8 ∧ h2.1 66 3 = v) ∨ ((f ≠ 1 ∨ p ≠ 8) ∧ h2.1 66 3 = h.1 66 3)) : mm_go h2 := by
  unfold mm_go at G ⊢
  rw [e, u 8]
  by_cases q : 8 = p ∧ f = 1
  · rw [if_pos q]
    obtain ⟨q1, q2⟩ := q
    omega
  · rw [if_neg q]
    omega

/-! ===== the elements of courses kept alike ===== -/
/-- row o gets a, b, c from B on, where f is 1 -/
def mm_w3 (h h2 : mH) (o : Nat) (B a b c f : Int) : Prop := ∀ j, h2.2.1 o j = if f = 1 ∧ j = B then a else if f = 1 ∧ j = B + 1 then b else if f = 1 ∧ j = B + 2 then c else h.2.1 o j
theorem mm_w3_no {h h2 : mH} {o : Nat} {B a b c f : Int} (hf : f ≠ 1) (e : ∀ j, h2.2.1 o j = h.2.1 o j) : mm_w3 h h2 o B a b c f := fun j => by
  rw [if_neg (fun w => hf w.1), if_neg (fun w => hf w.1), if_neg (fun w => hf w.1)]; exact e j
theorem mm_w3_pa {h h0 h1 h2 h3 h4 : mH} {o : Nat} {B i1 i2 i3 a b c : Int} (e0 : ∀ j, h0.2.1 o j = h.2.1 o j) (e1 : h1 = mm_pa h0 o i1 a) (e2 : h2 = mm_pa h1 o i2 b) (e3 : h3 = mm_pa h2 o i3 c) (e4 : ∀ j, h4.2.1 o j = h3.2.1 o j) (h1' : i1 = B) (h2' : i2 = B + 1) (h3' : i3 = B + 2) : mm_w3 h h4 o B a b c 1 := fun j => by
  rw [e4, e3, h3']
  by_cases q3 : j = B + 2
  · rw [q3, mm_pa_same, if_neg (fun w => by omega), if_neg (fun w => by omega), if_pos ⟨rfl, rfl⟩]
  · rw [mm_pa_j o q3, e2, h2']
    by_cases q2 : j = B + 1
    · rw [q2, mm_pa_same, if_neg (fun w => by omega), if_pos ⟨rfl, rfl⟩]
    · rw [mm_pa_j o q2, e1, h1']
      by_cases q1 : j = B
      · rw [q1, mm_pa_same, if_pos ⟨rfl, rfl⟩]
      · rw [mm_pa_j o q1, e0, if_neg (fun w => q1 w.2), if_neg (fun w => q2 w.2), if_neg (fun w => q3 w.2)]
theorem mm_w3_tr {h h1 h2 h3 : mH} {o : Nat} {B B' a b c f : Int} (e1 : ∀ j, h1.2.1 o j = h.2.1 o j) (u : mm_w3 h1 h2 o B a b c f) (e3 : ∀ j, h3.2.1 o j = h2.2.1 o j) (hB : B = B') : mm_w3 h h3 o B' a b c f := fun j => by
  rw [e3 j, u j, e1 j, hB]
def mm_br (h : mH) : Prop := ∀ c, 0 ≤ c → c ≤ h.1 14 8 - 1 → ∀ i, 0 ≤ i → i ≤ h.2.1 19 c - 1 → h.2.1 21 (36 * c + 3 * i) = h.2.1 82 (36 * c + 3 * i) ∧ h.2.1 21 (36 * c + 3 * i + 1) = h.2.1 82 (36 * c + 3 * i + 1) ∧ h.2.1 21 (36 * c + 3 * i + 2) = h.2.1 82 (36 * c + 3 * i + 2) ∧ (h.2.1 84 (12 * c + i) = 1 ↔ h.2.1 21 (36 * c + 3 * i + 1) ≠ h.2.1 21 (36 * c + 3 * i))
theorem mm_br_sm {h h2 : mH} (T : mm_br h) (e21 : ∀ j, h2.2.1 21 j = h.2.1 21 j) (e82 : ∀ j, h2.2.1 82 j = h.2.1 82 j) (e84 : ∀ j, h2.2.1 84 j = h.2.1 84 j) (e19 : ∀ j, h2.2.1 19 j = h.2.1 19 j) (n : h2.1 14 8 = h.1 14 8) : mm_br h2 := fun c c0 c1 i i0 i1 => by
  rw [e21, e21, e21, e82, e82, e82, e84]
  exact T c c0 (by omega) i i0 (by rw [e19] at i1; exact i1)
theorem mm_br_nil {h : mH} (n : h.1 14 8 = 0) : mm_br h := fun c x y => absurd (Int.le_trans x y) (by omega)
theorem mm_br_course {h h1 h2 : mH} {f : Int} (T : mm_br h) (u : mm_up h h1 19 (h.1 14 8) 0 f) (e19 : ∀ j, h2.2.1 19 j = h1.2.1 19 j) (e21 : ∀ j, h2.2.1 21 j = h.2.1 21 j) (e82 : ∀ j, h2.2.1 82 j = h.2.1 82 j) (e84 : ∀ j, h2.2.1 84 j = h.2.1 84 j) (m : (f = 1 ∧ h2.1 14 8 = h.1 14 8 + 1) ∨ (f = 0 ∧ h2.1 14 8 = h.1 14 8)) : mm_br h2 := fun c c0 c1 i i0 i1 => by
  rw [e19, u c] at i1
  by_cases q : c = h.1 14 8 ∧ f = 1
  · rw [if_pos q] at i1; omega
  · rw [if_neg q] at i1
    rw [e21, e21, e21, e82, e82, e82, e84]
    exact T c c0 (by omega) i i0 i1
theorem mm_br_add {h h1 h2 : mH} {p a b c f f' f9 s v9 B B' : Int} (T : mm_br h) (hs : s = h.2.1 19 p) (s0 : 0 ≤ s) (s1 : ∀ j, h.2.1 19 j ≤ 12) (sf : f = 1 → s ≤ 11) (u19 : mm_up h h1 19 p (s + 1) f) (e19 : ∀ j, h2.2.1 19 j = h1.2.1 19 j) (u : mm_w3 h h1 21 B a b c f) (e21 : ∀ j, h2.2.1 21 j = h1.2.1 21 j) (w : mm_w3 h1 h2 82 B' a b c f') (g82 : ∀ j, h1.2.1 82 j = h.2.1 82 j) (w84 : mm_up h1 h2 84 (12 * p + s) v9 f9) (g84 : ∀ j, h1.2.1 84 j = h.2.1 84 j) (hB : f = 1 → B = 36 * p + 3 * s) (hB' : B' = B) (ff : f = f') (f9f : f = 1 ↔ f9 = 1) (v9v : (v9 = 1 ∧ a ≠ b) ∨ (v9 = 0 ∧ a = b)) (n : h2.1 14 8 = h.1 14 8) : mm_br h2 := fun k k0 k1 i i0 i1 => by
  subst hB'
  subst ff
  rw [e19, u19 k] at i1
  have old : ∀ j, (f ≠ 1 ∨ (j ≠ B' ∧ j ≠ B' + 1 ∧ j ≠ B' + 2)) → h2.2.1 21 j = h.2.1 21 j ∧ h2.2.1 82 j = h.2.1 82 j := fun j q => by
    have z : ¬ (f = 1 ∧ j = B') ∧ ¬ (f = 1 ∧ j = B' + 1) ∧ ¬ (f = 1 ∧ j = B' + 2) := by omega
    rw [e21, u j, if_neg z.1, if_neg z.2.1, if_neg z.2.2, w j, if_neg z.1, if_neg z.2.1, if_neg z.2.2, g82]
    exact ⟨rfl, rfl⟩
  by_cases q : f = 1
  · have eB := hB q
    have s11 := sf q
    have sk := s1 k
    by_cases r : k = p ∧ i = s
    · obtain ⟨r1, r2⟩ := r
      subst r1
      subst r2
      have x0 : h2.2.1 21 (36 * k + 3 * i) = a ∧ h2.2.1 82 (36 * k + 3 * i) = a := by
        rw [e21, u, if_pos ⟨q, eB.symm⟩, w, if_pos ⟨q, eB.symm⟩]; exact ⟨rfl, rfl⟩
      have x1 : h2.2.1 21 (36 * k + 3 * i + 1) = b ∧ h2.2.1 82 (36 * k + 3 * i + 1) = b := by
        rw [e21, u, if_neg (fun y => by omega), if_pos ⟨q, by omega⟩, w, if_neg (fun y => by omega), if_pos ⟨q, by omega⟩]; exact ⟨rfl, rfl⟩
      have x2 : h2.2.1 21 (36 * k + 3 * i + 2) = c ∧ h2.2.1 82 (36 * k + 3 * i + 2) = c := by
        rw [e21, u, if_neg (fun y => by omega), if_neg (fun y => by omega), if_pos ⟨q, by omega⟩, w, if_neg (fun y => by omega), if_neg (fun y => by omega), if_pos ⟨q, by omega⟩]; exact ⟨rfl, rfl⟩
      have x4 : h2.2.1 84 (12 * k + i) = v9 := by rw [w84, if_pos ⟨rfl, f9f.mp q⟩]
      rw [x0.1, x0.2, x1.1, x1.2, x2.1, x2.2, x4]
      refine ⟨rfl, rfl, rfl, ?_⟩
      omega
    · have ik : i ≤ h.2.1 19 k - 1 := by
        by_cases y : k = p
        · subst y
          rw [if_pos ⟨rfl, q⟩] at i1
          omega
        · rw [if_neg (fun z => y z.1)] at i1; exact i1
      have t := T k k0 (by omega) i i0 ik
      have y0 := old (36 * k + 3 * i) (Or.inr (by omega))
      have y1 := old (36 * k + 3 * i + 1) (Or.inr (by omega))
      have y2 := old (36 * k + 3 * i + 2) (Or.inr (by omega))
      have y4 : h2.2.1 84 (12 * k + i) = h.2.1 84 (12 * k + i) := by rw [w84, if_neg (fun z => by omega), g84]
      rw [y0.1, y0.2, y1.1, y1.2, y2.1, y2.2, y4]
      exact t
  · rw [if_neg (fun z => q z.2)] at i1
    have t := T k k0 (by omega) i i0 i1
    have y0 := old (36 * k + 3 * i) (Or.inl q)
    have y1 := old (36 * k + 3 * i + 1) (Or.inl q)
    have y2 := old (36 * k + 3 * i + 2) (Or.inl q)
    have y4 : h2.2.1 84 (12 * k + i) = h.2.1 84 (12 * k + i) := by rw [w84, if_neg (fun z => q (f9f.mpr z.2)), g84]
    rw [y0.1, y0.2, y1.1, y1.2, y2.1, y2.2, y4]
    exact t
/-! a runner's row: K tells the forks -/
def mm_fn (K : Int → Int) : Nat → Nat
  | 0 => 0
  | i + 1 => if K (i : Int) = 1 then mm_fn K i + 1 else mm_fn K i
def mm_rr (B K : Int → Int) (c v i : Int) : Int := if K i = 1 then B (36 * c + 3 * i + mm_dv v (mm_fn K i.toNat) % 3) else B (36 * c + 3 * i)
def mm_fk (B : Int → Int) (c i : Int) : Int := if B (36 * c + 3 * i + 1) = B (36 * c + 3 * i) then 0 else 1
theorem mm_fn_eq {K K' : Int → Int} {k : Nat} (e : ∀ i : Int, 0 ≤ i → i < k → (K i = 1 ↔ K' i = 1)) : mm_fn K k = mm_fn K' k := by
  induction k with
  | zero => rfl
  | succ k ih =>
    show (if K (k : Int) = 1 then mm_fn K k + 1 else mm_fn K k) = (if K' (k : Int) = 1 then mm_fn K' k + 1 else mm_fn K' k)
    rw [ih (fun i a b => e i a (by omega))]
    have z := e (k : Int) (by omega) (by omega)
    by_cases w : K (k : Int) = 1
    · rw [if_pos w, if_pos (z.mp w)]
    · rw [if_neg w, if_neg (fun y => w (z.mpr y))]
theorem mm_fn_s {K : Int → Int} {i : Int} (i0 : 0 ≤ i) : mm_fn K (i + 1).toNat = if K i = 1 then mm_fn K i.toNat + 1 else mm_fn K i.toNat := by
  rw [show (i + 1).toNat = i.toNat + 1 by omega]
  show (if K (i.toNat : Int) = 1 then mm_fn K i.toNat + 1 else mm_fn K i.toNat) = _
  rw [Int.toNat_of_nonneg i0]
/-- the digits left behind i elements -/
theorem mm_dg_1 {K : Int → Int} {i x v : Int} (w : x = mm_dv v (mm_fn K i.toNat)) (i0 : 0 ≤ i) (k : K i = 1) : x / 3 = mm_dv v (mm_fn K (i + 1).toNat) := by
  rw [mm_fn_s i0, if_pos k, w]; rfl
theorem mm_dg_0 {K : Int → Int} {i x v : Int} (w : x = mm_dv v (mm_fn K i.toNat)) (i0 : 0 ≤ i) (k : K i ≠ 1) : x = mm_dv v (mm_fn K (i + 1).toNat) := by
  rw [mm_fn_s i0, if_neg k]; exact w
/-- the forks counted so far -/
theorem mm_fo_1 {K : Int → Int} {i x : Int} (w : x = (mm_fn K i.toNat : Int)) (i0 : 0 ≤ i) (k : K i = 1) : x + 1 = (mm_fn K (i + 1).toNat : Int) := by
  rw [mm_fn_s i0, if_pos k, w]; rfl
theorem mm_fo_0 {K : Int → Int} {i x : Int} (w : x = (mm_fn K i.toNat : Int)) (i0 : 0 ≤ i) (k : K i ≠ 1) : x = (mm_fn K (i + 1).toNat : Int) := by
  rw [mm_fn_s i0, if_neg k]; exact w
theorem mm_fn_le (K : Int → Int) (k : Nat) : mm_fn K k ≤ k := by
  induction k with
  | zero => exact Nat.le_refl _
  | succ k ih =>
    show (if K (k : Int) = 1 then mm_fn K k + 1 else mm_fn K k) ≤ k + 1
    split <;> omega
/-- the first n places of row o are told -/
def mm_rw (h : mH) (o : Nat) (R : Int → Int) (n : Int) : Prop := ∀ j, 0 ≤ j → j < n → h.2.1 o j = R j
theorem mm_rw_0 {h : mH} {o : Nat} {R : Int → Int} : mm_rw h o R 0 := fun j a b => absurd b (by omega)
theorem mm_rw_s {h h1 : mH} {o : Nat} {R : Int → Int} {n v : Int} (W : mm_rw h o R n) (e : h1 = mm_pa h o n v) (hv : v = R n) : mm_rw h1 o R (n + 1) := fun j a b => by
  rw [e]
  by_cases q : j = n
  · rw [q, mm_pa_same]; exact hv
  · rw [mm_pa_j o q]; exact W j a (by omega)
theorem mm_rw_2 {h h1 h2 : mH} {o : Nat} {R : Int → Int} {n u v : Int} (W : mm_rw h o R n) (e1 : h1 = mm_pa h o n u) (e2 : h2 = mm_pa h1 o n v) (hv : v = R n) : mm_rw h2 o R (n + 1) := fun j a b => by
  rw [e2]
  by_cases q : j = n
  · rw [q, mm_pa_same]; exact hv
  · rw [mm_pa_j o q, e1, mm_pa_j o q]; exact W j a (by omega)
theorem mm_rw_sm {h h1 : mH} {o : Nat} {R : Int → Int} {n : Int} (W : mm_rw h o R n) (e : ∀ j, h1.2.1 o j = h.2.1 o j) : mm_rw h1 o R n := fun j a b => (e j).trans (W j a b)
theorem mm_rr_0 {B K : Int → Int} {c v i x : Int} (k : K i ≠ 1) (e : x = B (36 * c + 3 * i)) : x = mm_rr B K c v i := by unfold mm_rr; rw [if_neg k]; exact e
theorem mm_rr_1 {B K : Int → Int} {c v i x g : Int} (k : K i = 1) (eg : g = mm_dv v (mm_fn K i.toNat) % 3) (e : x = B (36 * c + 3 * i + g)) : x = mm_rr B K c v i := by unfold mm_rr; rw [if_pos k, ← eg]; exact e
theorem mm_fk_1 {B : Int → Int} {c i : Int} (q : B (36 * c + 3 * i + 1) ≠ B (36 * c + 3 * i)) : mm_fk B c i = 1 := by unfold mm_fk; rw [if_neg q]
theorem mm_fk_0 {B : Int → Int} {c i : Int} (q : B (36 * c + 3 * i + 1) = B (36 * c + 3 * i)) : mm_fk B c i ≠ 1 := by unfold mm_fk; rw [if_pos q]; decide
/-- class's and reference's rows are the same -/
theorem mm_rr_eq {h : mH} (T : mm_br h) {c v n : Int} (c0 : 0 ≤ c) (c1 : c ≤ h.1 14 8 - 1) (hn : n ≤ h.2.1 19 c) (v0 : ∀ k, 0 ≤ mm_dv v k % 3 ∧ mm_dv v k % 3 ≤ 2) (i : Int) (i0 : 0 ≤ i) (i1 : i < n) : mm_rr (h.2.1 21) (mm_fk (h.2.1 21) c) c v i = mm_rr (h.2.1 82) (fun j => h.2.1 84 (12 * c + j)) c v i := by
  have kk : ∀ j, 0 ≤ j → j < n → (mm_fk (h.2.1 21) c j = 1 ↔ h.2.1 84 (12 * c + j) = 1) := fun j j0 j1 => by
    have t := T c c0 c1 j j0 (by omega)
    rw [t.2.2.2]
    by_cases q : h.2.1 21 (36 * c + 3 * j + 1) = h.2.1 21 (36 * c + 3 * j)
    · exact ⟨fun w => absurd w (mm_fk_0 q), fun w => absurd q w⟩
    · exact ⟨fun _ => q, fun _ => mm_fk_1 q⟩
  have ef : mm_fn (mm_fk (h.2.1 21) c) i.toNat = mm_fn (fun j => h.2.1 84 (12 * c + j)) i.toNat := mm_fn_eq (fun j a b => kk j a (by omega))
  have t := T c c0 c1 i i0 (by omega)
  have k := kk i i0 i1
  unfold mm_rr
  by_cases q : mm_fk (h.2.1 21) c i = 1
  · rw [if_pos q, if_pos (k.mp q), ef]
    have z := v0 (mm_fn (fun j => h.2.1 84 (12 * c + j)) i.toNat)
    generalize mm_dv v (mm_fn (fun j => h.2.1 84 (12 * c + j)) i.toNat) % 3 = g at z ⊢
    have cc : g = 0 ∨ g = 1 ∨ g = 2 := by omega
    rcases cc with y | y | y <;> subst y
    · rw [Int.add_zero]; exact t.1
    · exact t.2.1
    · exact t.2.2.1
  · rw [if_neg q, if_neg (fun w => q (k.mpr w))]; exact t.1
theorem mm_v9 {h h2 : mH} {a b k : Int} (e : ∀ j, h2.2.1 84 j = h.2.1 84 j) : ∃ v9 : Int, ((v9 = 1 ∧ a ≠ b) ∨ (v9 = 0 ∧ a = b)) ∧ mm_up h h2 84 k v9 0 := by
  by_cases q : a = b
  · exact ⟨0, Or.inr ⟨rfl, q⟩, mm_up_no (by decide) e⟩
  · exact ⟨1, Or.inl ⟨rfl, q⟩, mm_up_no (by decide) e⟩
theorem mm_v9_tr {h h1 h2 : mH} {a b k f : Int} (V : ∃ v9 : Int, ((v9 = 1 ∧ a ≠ b) ∨ (v9 = 0 ∧ a = b)) ∧ mm_up h h1 84 k v9 f) (e : ∀ j, h2.2.1 84 j = h1.2.1 84 j) : ∃ v9 : Int, ((v9 = 1 ∧ a ≠ b) ∨ (v9 = 0 ∧ a = b)) ∧ mm_up h h2 84 k v9 f := by
  obtain ⟨v, q, u⟩ := V
  exact ⟨v, q, mm_up_tr (fun _ => rfl) u e rfl Iff.rfl⟩
/-- from posts to cells, a place after another -/
theorem mm_rw_cell {h1 h2 : mH} {R P : Int → Int} {n k v : Int} (W : mm_rw h1 61 (fun j => if j < k then P (R j) else R j) n) (e : h2 = mm_pa h1 61 k v) (hv : v = P (h1.2.1 61 k)) (k0 : 0 ≤ k) (kn : k < n) : mm_rw h2 61 (fun j => if j < k + 1 then P (R j) else R j) n := fun j a b => by
  show h2.2.1 61 j = if j < k + 1 then P (R j) else R j
  rw [e]
  have z : h1.2.1 61 k = if k < k then P (R k) else R k := W k k0 kn
  rw [if_neg (by omega)] at z
  by_cases q : j = k
  · rw [q, mm_pa_same, if_pos (by omega), hv, z]
  · rw [mm_pa_j 61 q]
    have y : h1.2.1 61 j = if j < k then P (R j) else R j := W j a b
    rw [y]
    by_cases w : j < k
    · rw [if_pos w, if_pos (by omega)]
    · rw [if_neg w, if_neg (by omega)]
theorem mm_rw_c0 {h1 : mH} {R P : Int → Int} {n : Int} (W : mm_rw h1 61 R n) : mm_rw h1 61 (fun j => if j < 0 then P (R j) else R j) n := fun j a b => by
  show h1.2.1 61 j = if j < 0 then P (R j) else R j
  rw [if_neg (by omega)]; exact W j a b
theorem mm_rw_cn {h1 : mH} {R P : Int → Int} {n k : Int} (W : mm_rw h1 61 (fun j => if j < k then P (R j) else R j) n) (kn : n ≤ k) : mm_rw h1 61 (fun j => P (R j)) n := fun j a b => by
  have z : h1.2.1 61 j = if j < k then P (R j) else R j := W j a b
  rw [if_pos (by omega)] at z
  exact z

set_option maxRecDepth 100000 in
set_option maxHeartbeats 4000000 in
theorem c_J7_fill_53178_2_w (l : Launch) (hl : l.stackTraces = false) (d : Nat) (hd : 0 ≤ d) (h : mH) (i0 : mm_in0 h) (p1 : Int) (bp1 : 0 ≤ p1 ∧ p1 ≤ 7) : mm_Met l d yJ7_fill_53178 cJ7_fill_53178 4 none [mR 2, mI p1] h (mm_pv fun h2 => mm_in0 h2 ∧ mm_fr [] [2] h h2 ∧ mm_al h2 2 399 p1) mm_nx 0 0 := by
  refine mm_ofW (ls := [mR 2, mI p1, mU, mU]) hl (by decide) rfl (Nat.le_of_ble_eq_true rfl) ?_
  intro x hxl C T hnm htb
  subst hxl
  refine mm_rng (fun hr _ => ?_)
  have ap1 : -2147483648 ≤ p1 ∧ p1 < 2147483648 := mm_ok_at hr (i := 1) rfl
  have f0 : mm_fr [] [2] h h := mm_fr_rf
  refine mm_iconst C (mm_dec dk_J7_fill_53178 0 rfl) ⟨by decide, by decide⟩ ?_
  refine mm_istore_nL (ls2 := [mR 2, mI p1, mI 0, mU]) C (mm_dec dk_J7_fill_53178 1 rfl) (by decide) rfl ?_
  refine mm_aload_n C (mm_dec dk_J7_fill_53178 2 rfl) rfl ?_
  refine mm_alenz (z := 400) C (mm_dec dk_J7_fill_53178 3 rfl) rfl (by decide) (by decide) rfl ?_
  have J5 : ∀ (n : Nat) (x5_2 : Int) (bx5_2 : 0 ≤ x5_2 ∧ x5_2 ≤ 400) (x5_3 : Int) (bx5_3 : 400 ≤ x5_3 ∧ x5_3 ≤ 400) (h5_ : mH) (i5_ : mm_in0 h5_) (f5_ : mm_fr [] [2] h h5_) (w5_0 : mm_al h5_ 2 (x5_2 - 1) p1), (400 - x5_2 : Int) < n → mm_W x 0 0 5 [mR 2, mI p1, mI x5_2, mI x5_3] [] h5_ := by
    intro n
    induction n with
    | zero =>
      intro x5_2 bx5_2 x5_3 bx5_3 h5_ i5_ f5_ w5_0 hm
      exfalso; omega
    | succ n ih5 =>
      intro x5_2 bx5_2 x5_3 bx5_3 h5_ i5_ f5_ w5_0 hm5
      refine mm_iload_n C (mm_dec dk_J7_fill_53178 5 rfl) rfl ?_
      refine mm_iload_n C (mm_dec dk_J7_fill_53178 6 rfl) rfl ?_
      refine mm_icmp_ge (tgt := 20) C (mm_dec dk_J7_fill_53178 7 rfl) (by decide) (fun c7 => ?_) (fun c7 => ?_)
      · skip
        exact mm_vret C T (mm_dec dk_J7_fill_53178 14 rfl) (by decide : 0 ≤ 0) (by decide : 0 ≤ 0) ⟨rfl, ⟨i5_, f5_, by exact mm_al_le w5_0 (by omega)⟩⟩
      · skip
        refine mm_aload_n C (mm_dec dk_J7_fill_53178 8 rfl) rfl ?_
        refine mm_iload_n C (mm_dec dk_J7_fill_53178 9 rfl) rfl ?_
        refine mm_iload_n C (mm_dec dk_J7_fill_53178 10 rfl) rfl ?_
        refine mm_iast C (mm_dec dk_J7_fill_53178 11 rfl) rfl (by omega) (by omega) ?_
        have i1 : mm_in0 (mm_pa h5_ 2 x5_2 p1) := mm_inp_pa i5_ (show 0 ≤ p1 ∧ p1 ≤ 7 from ⟨by omega, by omega⟩)
        have f1 : mm_fr [] [2] h (mm_pa h5_ 2 x5_2 p1) := mm_fr_pa f5_ (by decide)
        obtain ⟨h1, eh1⟩ : ∃ z, z = mm_pa h5_ 2 x5_2 p1 := ⟨_, rfl⟩
        rw [← eh1] at i1 f1 ⊢
        refine mm_iincL (ls2 := [mR 2, mI p1, mI (x5_2 + 1), mI x5_3]) C (mm_dec dk_J7_fill_53178 12 rfl) rfl (by decide) ⟨by omega, by omega⟩ rfl ?_
        refine mm_goto (tgt := 5) C (mm_dec dk_J7_fill_53178 13 rfl) (by decide) ?_
        exact ih5 (x5_2 + 1) ⟨by omega, by omega⟩ x5_3 ⟨by omega, by omega⟩ h1 i1 f1 (by first | exact mm_al_nil (by omega) | (rw [show x5_2 + 1 - 1 = x5_2 by omega]; exact mm_al_put w5_0 eh1)) (by omega)
  refine mm_istore_nL (ls2 := [mR 2, mI p1, mI 0, mI 400]) C (mm_dec dk_J7_fill_53178 4 rfl) (by decide) rfl ?_
  exact J5 (((400 - 0) : Int) + 1).toNat 0 ⟨by omega, by omega⟩ 400 ⟨by omega, by omega⟩ h i0 f0 (by first | exact mm_al_nil (by omega) | (rw [show x5_2 + 1 - 1 = x5_2 by omega]; exact mm_al_put w5_0 eh)) (by omega)
set_option maxRecDepth 100000 in
set_option maxHeartbeats 4000000 in
theorem c_J7_fill_53178_6_w (l : Launch) (hl : l.stackTraces = false) (d : Nat) (hd : 0 ≤ d) (h : mH) (i0 : mm_in0 h) (p1 : Int) (bp1 : 0 ≤ p1 ∧ p1 ≤ 99) : mm_Met l d yJ7_fill_53178 cJ7_fill_53178 4 none [mR 6, mI p1] h (mm_pv fun h2 => mm_in0 h2 ∧ mm_fr [] [6] h h2 ∧ mm_al h2 6 8 p1) mm_nx 0 0 := by
  refine mm_ofW (ls := [mR 6, mI p1, mU, mU]) hl (by decide) rfl (Nat.le_of_ble_eq_true rfl) ?_
  intro x hxl C T hnm htb
  subst hxl
  refine mm_rng (fun hr _ => ?_)
  have ap1 : -2147483648 ≤ p1 ∧ p1 < 2147483648 := mm_ok_at hr (i := 1) rfl
  have f0 : mm_fr [] [6] h h := mm_fr_rf
  refine mm_iconst C (mm_dec dk_J7_fill_53178 0 rfl) ⟨by decide, by decide⟩ ?_
  refine mm_istore_nL (ls2 := [mR 6, mI p1, mI 0, mU]) C (mm_dec dk_J7_fill_53178 1 rfl) (by decide) rfl ?_
  refine mm_aload_n C (mm_dec dk_J7_fill_53178 2 rfl) rfl ?_
  refine mm_alenz (z := 9) C (mm_dec dk_J7_fill_53178 3 rfl) rfl (by decide) (by decide) rfl ?_
  have J5 : ∀ (n : Nat) (x5_2 : Int) (bx5_2 : 0 ≤ x5_2 ∧ x5_2 ≤ 9) (x5_3 : Int) (bx5_3 : 9 ≤ x5_3 ∧ x5_3 ≤ 9) (h5_ : mH) (i5_ : mm_in0 h5_) (f5_ : mm_fr [] [6] h h5_) (w5_0 : mm_al h5_ 6 (x5_2 - 1) p1), (9 - x5_2 : Int) < n → mm_W x 0 0 5 [mR 6, mI p1, mI x5_2, mI x5_3] [] h5_ := by
    intro n
    induction n with
    | zero =>
      intro x5_2 bx5_2 x5_3 bx5_3 h5_ i5_ f5_ w5_0 hm
      exfalso; omega
    | succ n ih5 =>
      intro x5_2 bx5_2 x5_3 bx5_3 h5_ i5_ f5_ w5_0 hm5
      refine mm_iload_n C (mm_dec dk_J7_fill_53178 5 rfl) rfl ?_
      refine mm_iload_n C (mm_dec dk_J7_fill_53178 6 rfl) rfl ?_
      refine mm_icmp_ge (tgt := 20) C (mm_dec dk_J7_fill_53178 7 rfl) (by decide) (fun c7 => ?_) (fun c7 => ?_)
      · skip
        exact mm_vret C T (mm_dec dk_J7_fill_53178 14 rfl) (by decide : 0 ≤ 0) (by decide : 0 ≤ 0) ⟨rfl, ⟨i5_, f5_, by exact mm_al_le w5_0 (by omega)⟩⟩
      · skip
        refine mm_aload_n C (mm_dec dk_J7_fill_53178 8 rfl) rfl ?_
        refine mm_iload_n C (mm_dec dk_J7_fill_53178 9 rfl) rfl ?_
        refine mm_iload_n C (mm_dec dk_J7_fill_53178 10 rfl) rfl ?_
        refine mm_iast C (mm_dec dk_J7_fill_53178 11 rfl) rfl (by omega) (by omega) ?_
        have i1 : mm_in0 (mm_pa h5_ 6 x5_2 p1) := mm_inp_pa i5_ (show 0 ≤ p1 ∧ p1 ≤ 99 from ⟨by omega, by omega⟩)
        have f1 : mm_fr [] [6] h (mm_pa h5_ 6 x5_2 p1) := mm_fr_pa f5_ (by decide)
        obtain ⟨h1, eh1⟩ : ∃ z, z = mm_pa h5_ 6 x5_2 p1 := ⟨_, rfl⟩
        rw [← eh1] at i1 f1 ⊢
        refine mm_iincL (ls2 := [mR 6, mI p1, mI (x5_2 + 1), mI x5_3]) C (mm_dec dk_J7_fill_53178 12 rfl) rfl (by decide) ⟨by omega, by omega⟩ rfl ?_
        refine mm_goto (tgt := 5) C (mm_dec dk_J7_fill_53178 13 rfl) (by decide) ?_
        exact ih5 (x5_2 + 1) ⟨by omega, by omega⟩ x5_3 ⟨by omega, by omega⟩ h1 i1 f1 (by first | exact mm_al_nil (by omega) | (rw [show x5_2 + 1 - 1 = x5_2 by omega]; exact mm_al_put w5_0 eh1)) (by omega)
  refine mm_istore_nL (ls2 := [mR 6, mI p1, mI 0, mI 9]) C (mm_dec dk_J7_fill_53178 4 rfl) (by decide) rfl ?_
  exact J5 (((9 - 0) : Int) + 1).toNat 0 ⟨by omega, by omega⟩ 9 ⟨by omega, by omega⟩ h i0 f0 (by first | exact mm_al_nil (by omega) | (rw [show x5_2 + 1 - 1 = x5_2 by omega]; exact mm_al_put w5_0 eh)) (by omega)
set_option maxRecDepth 100000 in
set_option maxHeartbeats 4000000 in
theorem c_J7_fill_53178_3_w (l : Launch) (hl : l.stackTraces = false) (d : Nat) (hd : 0 ≤ d) (h : mH) (i0 : mm_in0 h) (p1 : Int) (bp1 : 0 ≤ p1 ∧ p1 ≤ 99) : mm_Met l d yJ7_fill_53178 cJ7_fill_53178 4 none [mR 3, mI p1] h (mm_pv fun h2 => mm_in0 h2 ∧ mm_fr [] [3] h h2 ∧ mm_al h2 3 399 p1) mm_nx 0 0 := by
  refine mm_ofW (ls := [mR 3, mI p1, mU, mU]) hl (by decide) rfl (Nat.le_of_ble_eq_true rfl) ?_
  intro x hxl C T hnm htb
  subst hxl
  refine mm_rng (fun hr _ => ?_)
  have ap1 : -2147483648 ≤ p1 ∧ p1 < 2147483648 := mm_ok_at hr (i := 1) rfl
  have f0 : mm_fr [] [3] h h := mm_fr_rf
  refine mm_iconst C (mm_dec dk_J7_fill_53178 0 rfl) ⟨by decide, by decide⟩ ?_
  refine mm_istore_nL (ls2 := [mR 3, mI p1, mI 0, mU]) C (mm_dec dk_J7_fill_53178 1 rfl) (by decide) rfl ?_
  refine mm_aload_n C (mm_dec dk_J7_fill_53178 2 rfl) rfl ?_
  refine mm_alenz (z := 400) C (mm_dec dk_J7_fill_53178 3 rfl) rfl (by decide) (by decide) rfl ?_
  have J5 : ∀ (n : Nat) (x5_2 : Int) (bx5_2 : 0 ≤ x5_2 ∧ x5_2 ≤ 400) (x5_3 : Int) (bx5_3 : 400 ≤ x5_3 ∧ x5_3 ≤ 400) (h5_ : mH) (i5_ : mm_in0 h5_) (f5_ : mm_fr [] [3] h h5_) (w5_0 : mm_al h5_ 3 (x5_2 - 1) p1), (400 - x5_2 : Int) < n → mm_W x 0 0 5 [mR 3, mI p1, mI x5_2, mI x5_3] [] h5_ := by
    intro n
    induction n with
    | zero =>
      intro x5_2 bx5_2 x5_3 bx5_3 h5_ i5_ f5_ w5_0 hm
      exfalso; omega
    | succ n ih5 =>
      intro x5_2 bx5_2 x5_3 bx5_3 h5_ i5_ f5_ w5_0 hm5
      refine mm_iload_n C (mm_dec dk_J7_fill_53178 5 rfl) rfl ?_
      refine mm_iload_n C (mm_dec dk_J7_fill_53178 6 rfl) rfl ?_
      refine mm_icmp_ge (tgt := 20) C (mm_dec dk_J7_fill_53178 7 rfl) (by decide) (fun c7 => ?_) (fun c7 => ?_)
      · skip
        exact mm_vret C T (mm_dec dk_J7_fill_53178 14 rfl) (by decide : 0 ≤ 0) (by decide : 0 ≤ 0) ⟨rfl, ⟨i5_, f5_, by exact mm_al_le w5_0 (by omega)⟩⟩
      · skip
        refine mm_aload_n C (mm_dec dk_J7_fill_53178 8 rfl) rfl ?_
        refine mm_iload_n C (mm_dec dk_J7_fill_53178 9 rfl) rfl ?_
        refine mm_iload_n C (mm_dec dk_J7_fill_53178 10 rfl) rfl ?_
        refine mm_iast C (mm_dec dk_J7_fill_53178 11 rfl) rfl (by omega) (by omega) ?_
        have i1 : mm_in0 (mm_pa h5_ 3 x5_2 p1) := mm_inp_pa i5_ (show 0 ≤ p1 ∧ p1 ≤ 99 from ⟨by omega, by omega⟩)
        have f1 : mm_fr [] [3] h (mm_pa h5_ 3 x5_2 p1) := mm_fr_pa f5_ (by decide)
        obtain ⟨h1, eh1⟩ : ∃ z, z = mm_pa h5_ 3 x5_2 p1 := ⟨_, rfl⟩
        rw [← eh1] at i1 f1 ⊢
        refine mm_iincL (ls2 := [mR 3, mI p1, mI (x5_2 + 1), mI x5_3]) C (mm_dec dk_J7_fill_53178 12 rfl) rfl (by decide) ⟨by omega, by omega⟩ rfl ?_
        refine mm_goto (tgt := 5) C (mm_dec dk_J7_fill_53178 13 rfl) (by decide) ?_
        exact ih5 (x5_2 + 1) ⟨by omega, by omega⟩ x5_3 ⟨by omega, by omega⟩ h1 i1 f1 (by first | exact mm_al_nil (by omega) | (rw [show x5_2 + 1 - 1 = x5_2 by omega]; exact mm_al_put w5_0 eh1)) (by omega)
  refine mm_istore_nL (ls2 := [mR 3, mI p1, mI 0, mI 400]) C (mm_dec dk_J7_fill_53178 4 rfl) (by decide) rfl ?_
  exact J5 (((400 - 0) : Int) + 1).toNat 0 ⟨by omega, by omega⟩ 400 ⟨by omega, by omega⟩ h i0 f0 (by first | exact mm_al_nil (by omega) | (rw [show x5_2 + 1 - 1 = x5_2 by omega]; exact mm_al_put w5_0 eh)) (by omega)
set_option maxRecDepth 100000 in
set_option maxHeartbeats 4000000 in
theorem c_X5_renew_w (l : Launch) (hl : l.stackTraces = false) (d : Nat) (hd : 1 ≤ d) (h : mH) (i0 : mm_in0 h) (p1 : Int) (p2 : Int) (bp1 : 1 ≤ p1 ∧ p1 ≤ 1) (bp2 : 1 ≤ p2 ∧ p2 ≤ 1) : mm_Met l d yX5_renew cX5_renew 4 none [mR 1, mI p1, mI p2] h (mm_pv fun h2 => mm_in0 h2 ∧ mm_fr [(1, 5), (1, 6), (1, 7), (1, 8)] [2, 3, 4, 5, 6] h h2 ∧ h2.1 1 5 = p1 ∧ h2.1 1 6 = p2 ∧ mm_al h2 2 399 0 ∧ mm_al h2 6 7 5 ∧ mm_al h2 3 399 0 ∧ mm_al h2 4 399 0 ∧ mm_al h2 5 399 0 ∧ h2.2.1 6 8 = 2 ∧ h2.1 1 7 = 0) mm_nx 0 0 := by
  refine mm_ofW (ls := [mR 1, mI p1, mI p2, mU]) hl (by decide) rfl (Nat.le_of_ble_eq_true rfl) ?_
  intro x hxl C T hnm htb
  subst hxl
  have C1 := mm_OK_le (d' := d - 1 + 1) (by omega) C
  refine mm_rng (fun hr _ => ?_)
  have ap1 : -2147483648 ≤ p1 ∧ p1 < 2147483648 := mm_ok_at hr (i := 1) rfl
  have ap2 : -2147483648 ≤ p2 ∧ p2 < 2147483648 := mm_ok_at hr (i := 2) rfl
  have f0 : mm_fr [(1, 5), (1, 6), (1, 7), (1, 8)] [2, 3, 4, 5, 6] h h := mm_fr_rf
  have g1 : 1 ≤ h.1 1 5 ∧ h.1 1 5 ≤ 1 := i0.1 1 5
  have g2 : 1 ≤ h.1 1 6 ∧ h.1 1 6 ≤ 1 := i0.1 1 6
  have g3 : 0 ≤ h.1 1 7 ∧ h.1 1 7 ≤ 0 := i0.1 1 7
  refine mm_aload_n C (mm_dec dk_X5_renew 0 rfl) rfl ?_
  refine mm_iload_n C (mm_dec dk_X5_renew 1 rfl) rfl ?_
  refine mm_puti C fl_X5_28 (mm_dec dk_X5_renew 2 rfl) rfl rfl rfl (Or.inl ⟨rfl, rfl⟩) ?_
  have i1 : mm_in0 (mm_pf h 1 5 p1) := mm_inp_put i0 (show 1 ≤ p1 ∧ p1 ≤ 1 from ⟨by omega, by omega⟩) (by decide)
  have f1 : mm_fr [(1, 5), (1, 6), (1, 7), (1, 8)] [2, 3, 4, 5, 6] h (mm_pf h 1 5 p1) := mm_fr_pf f0 (by decide)
  obtain ⟨h1, eh1⟩ : ∃ z, z = mm_pf h 1 5 p1 := ⟨_, rfl⟩
  rw [← eh1] at i1 f1 ⊢
  have qh1 : h1.1 1 5 = p1 := by rw [eh1]; exact mm_pf_same _ _ _ _
  have qh1_4 : h1.1 1 6 = h.1 1 6 := by rw [eh1]; exact mm_pf_ne _ _ (by decide)
  have qh1_5 : h1.1 1 7 = h.1 1 7 := by rw [eh1]; exact mm_pf_ne _ _ (by decide)
  refine mm_aload_n C (mm_dec dk_X5_renew 3 rfl) rfl ?_
  refine mm_iload_n C (mm_dec dk_X5_renew 4 rfl) rfl ?_
  refine mm_puti C fl_X5_32 (mm_dec dk_X5_renew 5 rfl) rfl rfl rfl (Or.inl ⟨rfl, rfl⟩) ?_
  have i2 : mm_in0 (mm_pf h1 1 6 p2) := mm_inp_put i1 (show 1 ≤ p2 ∧ p2 ≤ 1 from ⟨by omega, by omega⟩) (by decide)
  have f2 : mm_fr [(1, 5), (1, 6), (1, 7), (1, 8)] [2, 3, 4, 5, 6] h (mm_pf h1 1 6 p2) := mm_fr_pf f1 (by decide)
  obtain ⟨h2, eh2⟩ : ∃ z, z = mm_pf h1 1 6 p2 := ⟨_, rfl⟩
  rw [← eh2] at i2 f2 ⊢
  have qh2 : h2.1 1 6 = p2 := by rw [eh2]; exact mm_pf_same _ _ _ _
  have qh2_6 : h2.1 1 5 = h1.1 1 5 := by rw [eh2]; exact mm_pf_ne _ _ (by decide)
  have qh2_7 : h2.1 1 7 = h1.1 1 7 := by rw [eh2]; exact mm_pf_ne _ _ (by decide)
  refine mm_aload_n C (mm_dec dk_X5_renew 6 rfl) rfl ?_
  refine mm_iconst C (mm_dec dk_X5_renew 7 rfl) ⟨by decide, by decide⟩ ?_
  refine mm_puti C fl_X5_35 (mm_dec dk_X5_renew 8 rfl) rfl rfl rfl (Or.inl ⟨rfl, rfl⟩) ?_
  have i3 : mm_in0 (mm_pf h2 1 7 0) := mm_inp_put i2 (show 0 ≤ 0 ∧ 0 ≤ 0 from ⟨by omega, by omega⟩) (by decide)
  have f3 : mm_fr [(1, 5), (1, 6), (1, 7), (1, 8)] [2, 3, 4, 5, 6] h (mm_pf h2 1 7 0) := mm_fr_pf f2 (by decide)
  obtain ⟨h3, eh3⟩ : ∃ z, z = mm_pf h2 1 7 0 := ⟨_, rfl⟩
  rw [← eh3] at i3 f3 ⊢
  have qh3 : h3.1 1 7 = 0 := by rw [eh3]; exact mm_pf_same _ _ _ _
  have qh3_8 : h3.1 1 5 = h2.1 1 5 := by rw [eh3]; exact mm_pf_ne _ _ (by decide)
  have qh3_9 : h3.1 1 6 = h2.1 1 6 := by rw [eh3]; exact mm_pf_ne _ _ (by decide)
  refine mm_aload_n C (mm_dec dk_X5_renew 9 rfl) rfl ?_
  refine mm_iconst C (mm_dec dk_X5_renew 10 rfl) ⟨by decide, by decide⟩ ?_
  refine mm_puti C fl_X5_38 (mm_dec dk_X5_renew 11 rfl) rfl rfl rfl (Or.inl ⟨rfl, rfl⟩) ?_
  have i4 : mm_in0 (mm_pf h3 1 8 0) := mm_inp_put i3 (show 0 ≤ 0 ∧ 0 ≤ 0 from ⟨by omega, by omega⟩) (by decide)
  have f4 : mm_fr [(1, 5), (1, 6), (1, 7), (1, 8)] [2, 3, 4, 5, 6] h (mm_pf h3 1 8 0) := mm_fr_pf f3 (by decide)
  obtain ⟨h4, eh4⟩ : ∃ z, z = mm_pf h3 1 8 0 := ⟨_, rfl⟩
  rw [← eh4] at i4 f4 ⊢
  have qh4 : h4.1 1 8 = 0 := by rw [eh4]; exact mm_pf_same _ _ _ _
  have qh4_10 : h4.1 1 5 = h3.1 1 5 := by rw [eh4]; exact mm_pf_ne _ _ (by decide)
  have qh4_11 : h4.1 1 6 = h3.1 1 6 := by rw [eh4]; exact mm_pf_ne _ _ (by decide)
  have qh4_12 : h4.1 1 7 = h3.1 1 7 := by rw [eh4]; exact mm_pf_ne _ _ (by decide)
  refine mm_aload_n C (mm_dec dk_X5_renew 12 rfl) rfl ?_
  refine mm_getr (t := 2) C fl_X5_9 (mm_dec dk_X5_renew 13 rfl) rfl rfl (mm_inp_ref i4 rfl) ?_
  refine mm_iconst C (mm_dec dk_X5_renew 14 rfl) ⟨by decide, by decide⟩ ?_
  refine mm_cSv (rest := []) C1 es_X5_41 (mm_dec dk_X5_renew 15 rfl) (c_J7_fill_53178_2_w x.2.1 hl (d - 1) (by omega) h4 i4 0 ⟨by omega, by omega⟩) rfl (Nat.le_of_ble_eq_true rfl) ⟨by decide, by decide⟩ rfl (fun h25c hp25 => ?_) (fun _ _ q => q.elim)
  obtain ⟨i25c, g25c, y25_0⟩ := hp25
  have f25c : mm_fr [(1, 5), (1, 6), (1, 7), (1, 8)] [2, 3, 4, 5, 6] h h25c := mm_fr_tr f4 g25c (by decide +kernel)
  have q25c_14 : h25c.1 1 5 = h4.1 1 5 := g25c.1 1 5 (by decide)
  have q25c_15 : h25c.1 1 6 = h4.1 1 6 := g25c.1 1 6 (by decide)
  have q25c_16 : h25c.1 1 7 = h4.1 1 7 := g25c.1 1 7 (by decide)
  have q25c_17 : h25c.1 1 8 = h4.1 1 8 := g25c.1 1 8 (by decide)
  refine mm_aload_n C (mm_dec dk_X5_renew 16 rfl) rfl ?_
  refine mm_getr (t := 3) C fl_X5_15 (mm_dec dk_X5_renew 17 rfl) rfl rfl (mm_inp_ref i25c rfl) ?_
  refine mm_iconst C (mm_dec dk_X5_renew 18 rfl) ⟨by decide, by decide⟩ ?_
  refine mm_cSv (rest := []) C1 es_X5_41 (mm_dec dk_X5_renew 19 rfl) (c_J7_fill_53178_3_w x.2.1 hl (d - 1) (by omega) h25c i25c 0 ⟨by omega, by omega⟩) rfl (Nat.le_of_ble_eq_true rfl) ⟨by decide, by decide⟩ rfl (fun h33c hp33 => ?_) (fun _ _ q => q.elim)
  obtain ⟨i33c, g33c, y33_0⟩ := hp33
  have f33c : mm_fr [(1, 5), (1, 6), (1, 7), (1, 8)] [2, 3, 4, 5, 6] h h33c := mm_fr_tr f25c g33c (by decide +kernel)
  have q33c_19 : h33c.1 1 5 = h25c.1 1 5 := g33c.1 1 5 (by decide)
  have q33c_20 : h33c.1 1 6 = h25c.1 1 6 := g33c.1 1 6 (by decide)
  have q33c_21 : h33c.1 1 7 = h25c.1 1 7 := g33c.1 1 7 (by decide)
  have q33c_22 : h33c.1 1 8 = h25c.1 1 8 := g33c.1 1 8 (by decide)
  refine mm_iconst C (mm_dec dk_X5_renew 20 rfl) ⟨by decide, by decide⟩ ?_
  have J38 : ∀ (n : Nat) (x38_3 : Int) (bx38_3 : 0 ≤ x38_3 ∧ x38_3 ≤ 400) (h38_ : mH) (i38_ : mm_in0 h38_) (f38_ : mm_fr [(1, 5), (1, 6), (1, 7), (1, 8)] [2, 3, 4, 5, 6] h h38_) (w38_0 : mm_al h38_ 2 399 0) (w38_1 : mm_al h38_ 3 399 0) (w38_2 : mm_al h38_ 4 (x38_3 - 1) 0) (w38_3 : mm_al h38_ 5 (x38_3 - 1) 0) (w38_4 : h38_.1 1 7 = 0) (w38_5 : h38_.1 1 5 = p1) (w38_6 : h38_.1 1 6 = p2), (400 - x38_3 : Int) < n → mm_W x 0 0 38 [mR 1, mU, mU, mI x38_3] [] h38_ := by
    intro n
    induction n with
    | zero =>
      intro x38_3 bx38_3 h38_ i38_ f38_ w38_0 w38_1 w38_2 w38_3 w38_4 w38_5 w38_6 hm
      have g23 : 1 ≤ h38_.1 1 5 ∧ h38_.1 1 5 ≤ 1 := i38_.1 1 5
      have g24 : 1 ≤ h38_.1 1 6 ∧ h38_.1 1 6 ≤ 1 := i38_.1 1 6
      have g25 : 0 ≤ h38_.1 1 7 ∧ h38_.1 1 7 ≤ 0 := i38_.1 1 7
      exfalso; omega
    | succ n ih38 =>
      intro x38_3 bx38_3 h38_ i38_ f38_ w38_0 w38_1 w38_2 w38_3 w38_4 w38_5 w38_6 hm38
      have g26 : 1 ≤ h38_.1 1 5 ∧ h38_.1 1 5 ≤ 1 := i38_.1 1 5
      have g27 : 1 ≤ h38_.1 1 6 ∧ h38_.1 1 6 ≤ 1 := i38_.1 1 6
      have g28 : 0 ≤ h38_.1 1 7 ∧ h38_.1 1 7 ≤ 0 := i38_.1 1 7
      refine mm_iload_n C (mm_dec dk_X5_renew 22 rfl) rfl ?_
      refine mm_sipush C (mm_dec dk_X5_renew 23 rfl) ⟨by decide, by decide⟩ ?_
      refine mm_icmp_ge (tgt := 65) C (mm_dec dk_X5_renew 24 rfl) (by decide) (fun c42 => ?_) (fun c42 => ?_)
      · skip
        refine mm_aload_n C (mm_dec dk_X5_renew 37 rfl) rfl ?_
        refine mm_getr (t := 6) C fl_X5_25 (mm_dec dk_X5_renew 38 rfl) rfl rfl (mm_inp_ref i38_ rfl) ?_
        refine mm_iconst C (mm_dec dk_X5_renew 39 rfl) ⟨by decide, by decide⟩ ?_
        refine mm_cSv (rest := []) C1 es_X5_41 (mm_dec dk_X5_renew 40 rfl) (c_J7_fill_53178_6_w x.2.1 hl (d - 1) (by omega) h38_ i38_ 5 ⟨by omega, by omega⟩) rfl (Nat.le_of_ble_eq_true rfl) ⟨by decide, by decide⟩ rfl (fun h70c hp70 => ?_) (fun _ _ q => q.elim)
        obtain ⟨i70c, g70c, y70_0⟩ := hp70
        have f70c : mm_fr [(1, 5), (1, 6), (1, 7), (1, 8)] [2, 3, 4, 5, 6] h h70c := mm_fr_tr f38_ g70c (by decide +kernel)
        have q70c_30 : h70c.1 1 5 = h38_.1 1 5 := g70c.1 1 5 (by decide)
        have q70c_31 : h70c.1 1 6 = h38_.1 1 6 := g70c.1 1 6 (by decide)
        have q70c_32 : h70c.1 1 7 = h38_.1 1 7 := g70c.1 1 7 (by decide)
        refine mm_aload_n C (mm_dec dk_X5_renew 41 rfl) rfl ?_
        refine mm_getr (t := 6) C fl_X5_25 (mm_dec dk_X5_renew 42 rfl) rfl rfl (mm_inp_ref i70c rfl) ?_
        refine mm_bipush C (mm_dec dk_X5_renew 43 rfl) ⟨by decide, by decide⟩ ?_
        refine mm_iconst C (mm_dec dk_X5_renew 44 rfl) ⟨by decide, by decide⟩ ?_
        refine mm_iast C (mm_dec dk_X5_renew 45 rfl) rfl (by omega) (by omega) ?_
        have i8 : mm_in0 (mm_pa h70c 6 8 2) := mm_inp_pa i70c (show 0 ≤ 2 ∧ 2 ≤ 99 from ⟨by omega, by omega⟩)
        have f8 : mm_fr [(1, 5), (1, 6), (1, 7), (1, 8)] [2, 3, 4, 5, 6] h (mm_pa h70c 6 8 2) := mm_fr_pa f70c (by decide)
        obtain ⟨h8, eh8⟩ : ∃ z, z = mm_pa h70c 6 8 2 := ⟨_, rfl⟩
        rw [← eh8] at i8 f8 ⊢
        have qh8_33 : h8.1 1 5 = h70c.1 1 5 := by rw [eh8]; rfl
        have qh8_34 : h8.1 1 6 = h70c.1 1 6 := by rw [eh8]; rfl
        have qh8_35 : h8.1 1 7 = h70c.1 1 7 := by rw [eh8]; rfl
        exact mm_vret C T (mm_dec dk_X5_renew 46 rfl) (by decide : 0 ≤ 0) (by decide : 0 ≤ 0) ⟨rfl, ⟨i8, f8, by omega, by omega, by exact mm_al_sm (mm_al_fr w38_0 g70c (by decide)) (fun _ => (mm_sm_pa 2 eh8 (by decide) _)), by exact mm_al_hi y70_0 eh8 (by decide) (by decide), by exact mm_al_sm (mm_al_fr w38_1 g70c (by decide)) (fun _ => (mm_sm_pa 3 eh8 (by decide) _)), by exact mm_al_sm (mm_al_fr (mm_al_le w38_2 (by omega)) g70c (by decide)) (fun _ => (mm_sm_pa 4 eh8 (by decide) _)), by exact mm_al_sm (mm_al_fr (mm_al_le w38_3 (by omega)) g70c (by decide)) (fun _ => (mm_sm_pa 5 eh8 (by decide) _)), by exact mm_pa_is eh8 rfl, by omega⟩⟩
      · skip
        refine mm_aload_n C (mm_dec dk_X5_renew 25 rfl) rfl ?_
        refine mm_getr (t := 4) C fl_X5_18 (mm_dec dk_X5_renew 26 rfl) rfl rfl (mm_inp_ref i38_ rfl) ?_
        refine mm_iload_n C (mm_dec dk_X5_renew 27 rfl) rfl ?_
        refine mm_iconst C (mm_dec dk_X5_renew 28 rfl) ⟨by decide, by decide⟩ ?_
        refine mm_zast C (mm_dec dk_X5_renew 29 rfl) rfl (by omega) (by omega) (by omega) ?_
        have i9 : mm_in0 (mm_pa h38_ 4 x38_3 0) := mm_inp_pa i38_ (show 0 ≤ 0 ∧ 0 ≤ 1 from ⟨by omega, by omega⟩)
        have f9 : mm_fr [(1, 5), (1, 6), (1, 7), (1, 8)] [2, 3, 4, 5, 6] h (mm_pa h38_ 4 x38_3 0) := mm_fr_pa f38_ (by decide)
        obtain ⟨h9, eh9⟩ : ∃ z, z = mm_pa h38_ 4 x38_3 0 := ⟨_, rfl⟩
        rw [← eh9] at i9 f9 ⊢
        have qh9_36 : h9.1 1 5 = h38_.1 1 5 := by rw [eh9]; rfl
        have qh9_37 : h9.1 1 6 = h38_.1 1 6 := by rw [eh9]; rfl
        have qh9_38 : h9.1 1 7 = h38_.1 1 7 := by rw [eh9]; rfl
        refine mm_aload_n C (mm_dec dk_X5_renew 30 rfl) rfl ?_
        refine mm_getr (t := 5) C fl_X5_22 (mm_dec dk_X5_renew 31 rfl) rfl rfl (mm_inp_ref i9 rfl) ?_
        refine mm_iload_n C (mm_dec dk_X5_renew 32 rfl) rfl ?_
        refine mm_iconst C (mm_dec dk_X5_renew 33 rfl) ⟨by decide, by decide⟩ ?_
        refine mm_zast C (mm_dec dk_X5_renew 34 rfl) rfl (by omega) (by omega) (by omega) ?_
        have i10 : mm_in0 (mm_pa h9 5 x38_3 0) := mm_inp_pa i9 (show 0 ≤ 0 ∧ 0 ≤ 1 from ⟨by omega, by omega⟩)
        have f10 : mm_fr [(1, 5), (1, 6), (1, 7), (1, 8)] [2, 3, 4, 5, 6] h (mm_pa h9 5 x38_3 0) := mm_fr_pa f9 (by decide)
        obtain ⟨h10, eh10⟩ : ∃ z, z = mm_pa h9 5 x38_3 0 := ⟨_, rfl⟩
        rw [← eh10] at i10 f10 ⊢
        have qh10_39 : h10.1 1 5 = h9.1 1 5 := by rw [eh10]; rfl
        have qh10_40 : h10.1 1 6 = h9.1 1 6 := by rw [eh10]; rfl
        have qh10_41 : h10.1 1 7 = h9.1 1 7 := by rw [eh10]; rfl
        refine mm_iincL (ls2 := [mR 1, mU, mU, mI (x38_3 + 1)]) C (mm_dec dk_X5_renew 35 rfl) rfl (by decide) ⟨by omega, by omega⟩ rfl ?_
        refine mm_goto (tgt := 38) C (mm_dec dk_X5_renew 36 rfl) (by decide) ?_
        exact ih38 (x38_3 + 1) ⟨by omega, by omega⟩ h10 i10 f10 (by first | exact mm_al_fr y25_0 g33c (by decide) | exact mm_al_sm w38_0 (fun _ => ((mm_sm_pa 2 eh10 (by decide) _).trans (mm_sm_pa 2 eh9 (by decide) _)))) (by first | exact y33_0 | exact mm_al_sm w38_1 (fun _ => ((mm_sm_pa 3 eh10 (by decide) _).trans (mm_sm_pa 3 eh9 (by decide) _)))) (by first | exact mm_al_nil (by omega) | (rw [show x38_3 + 1 - 1 = x38_3 by omega]; exact mm_al_sm (mm_al_put w38_2 eh9) (fun _ => (mm_sm_pa 4 eh10 (by decide) _)))) (by first | exact mm_al_nil (by omega) | (rw [show x38_3 + 1 - 1 = x38_3 by omega]; exact mm_al_put (mm_al_sm w38_3 (fun _ => (mm_sm_pa 5 eh9 (by decide) _))) eh10)) (by omega) (by omega) (by omega) (by omega)
  refine mm_istore_nL (ls2 := [mR 1, mI p1, mI p2, mI 0]) C (mm_dec dk_X5_renew 21 rfl) (by decide) rfl ?_
  refine mm_fgt 1 ?_
  refine mm_fgt 2 ?_
  exact J38 (((400 - 0) : Int) + 1).toNat 0 ⟨by omega, by omega⟩ h33c i33c f33c (by first | exact mm_al_fr y25_0 g33c (by decide) | exact mm_al_sm w38_0 (fun _ => ((mm_sm_pa 2 eh10 (by decide) _).trans (mm_sm_pa 2 eh9 (by decide) _)))) (by first | exact y33_0 | exact mm_al_sm w38_1 (fun _ => ((mm_sm_pa 3 eh10 (by decide) _).trans (mm_sm_pa 3 eh9 (by decide) _)))) (by first | exact mm_al_nil (by omega) | (rw [show x38_3 + 1 - 1 = x38_3 by omega]; exact mm_al_sm (mm_al_put w38_2 eh9) (fun _ => (mm_sm_pa 4 eh10 (by decide) _)))) (by first | exact mm_al_nil (by omega) | (rw [show x38_3 + 1 - 1 = x38_3 by omega]; exact mm_al_put (mm_al_sm w38_3 (fun _ => (mm_sm_pa 5 eh9 (by decide) _))) eh10)) (by omega) (by omega) (by omega) (by omega)
set_option maxRecDepth 100000 in
set_option maxHeartbeats 4000000 in
theorem c_X12_anew_w (l : Launch) (hl : l.stackTraces = false) (d : Nat) (hd : 0 ≤ d) (h : mH) (i0 : mm_in2 h) (p1 : Int) (p2 : Int) (bp1 : 1 ≤ p1 ∧ p1 ≤ 1) (bp2 : 1 ≤ p2 ∧ p2 ≤ 1) : mm_Met l d yX12_anew cX12_anew 4 none [mR 66, mI p1, mI p2] h (mm_pv fun h2 => mm_in2 h2 ∧ mm_fr [(66, 1), (66, 2), (66, 3), (66, 9), (66, 10), (66, 11), (66, 12), (66, 19), (66, 21), (66, 22), (66, 23), (66, 24), (66, 40), (66, 41), (66, 58), (66, 67), (66, 82), (66, 95)] [67, 68, 69, 70, 71] h h2 ∧ h2.1 66 1 = 1 ∧ h2.1 66 2 = 1 ∧ h2.1 66 67 = 0 ∧ h2.1 66 21 = 0 ∧ mm_al h2 67 399 0 ∧ mm_al h2 69 7 5 ∧ mm_al h2 68 399 0 ∧ mm_al h2 70 399 0 ∧ mm_al h2 71 399 0 ∧ h2.1 66 3 = 2 ∧ h2.1 66 9 = 0 ∧ h2.1 66 10 = 0) mm_nx 0 0 := by
  refine mm_ofW (ls := [mR 66, mI p1, mI p2, mU]) hl (by decide) rfl (Nat.le_of_ble_eq_true rfl) ?_
  intro x hxl C T hnm htb
  subst hxl
  refine mm_rng (fun hr _ => ?_)
  have ap1 : -2147483648 ≤ p1 ∧ p1 < 2147483648 := mm_ok_at hr (i := 1) rfl
  have ap2 : -2147483648 ≤ p2 ∧ p2 < 2147483648 := mm_ok_at hr (i := 2) rfl
  have f0 : mm_fr [(66, 1), (66, 2), (66, 3), (66, 9), (66, 10), (66, 11), (66, 12), (66, 19), (66, 21), (66, 22), (66, 23), (66, 24), (66, 40), (66, 41), (66, 58), (66, 67), (66, 82), (66, 95)] [67, 68, 69, 70, 71] h h := mm_fr_rf
  have g1 : 0 ≤ h.1 66 1 ∧ h.1 66 1 ≤ 1 := i0.1 66 1
  have g2 : 0 ≤ h.1 66 2 ∧ h.1 66 2 ≤ 1 := i0.1 66 2
  have g3 : 0 ≤ h.1 66 67 ∧ h.1 66 67 ≤ 1 := i0.1 66 67
  have g4 : 0 ≤ h.1 66 3 ∧ h.1 66 3 ≤ 9 := i0.1 66 3
  have g5 : 0 ≤ h.1 66 9 ∧ h.1 66 9 ≤ 0 := i0.1 66 9
  have g6 : 0 ≤ h.1 66 10 ∧ h.1 66 10 ≤ 0 := i0.1 66 10
  refine mm_aload_n C (mm_dec dk_X12_anew 0 rfl) rfl ?_
  refine mm_iload_n C (mm_dec dk_X12_anew 1 rfl) rfl ?_
  refine mm_puti C fl_X12_192 (mm_dec dk_X12_anew 2 rfl) rfl rfl rfl (Or.inl ⟨rfl, rfl⟩) ?_
  have i1 : mm_in2 (mm_pf h 66 1 p1) := mm_inp_put i0 (show 0 ≤ p1 ∧ p1 ≤ 1 from ⟨by omega, by omega⟩) (by decide)
  have f1 : mm_fr [(66, 1), (66, 2), (66, 3), (66, 9), (66, 10), (66, 11), (66, 12), (66, 19), (66, 21), (66, 22), (66, 23), (66, 24), (66, 40), (66, 41), (66, 58), (66, 67), (66, 82), (66, 95)] [67, 68, 69, 70, 71] h (mm_pf h 66 1 p1) := mm_fr_pf f0 (by decide)
  obtain ⟨h1, eh1⟩ : ∃ z, z = mm_pf h 66 1 p1 := ⟨_, rfl⟩
  rw [← eh1] at i1 f1 ⊢
  have qh1 : h1.1 66 1 = p1 := by rw [eh1]; exact mm_pf_same _ _ _ _
  have qh1_7 : h1.1 66 2 = h.1 66 2 := by rw [eh1]; exact mm_pf_ne _ _ (by decide)
  have qh1_8 : h1.1 66 3 = h.1 66 3 := by rw [eh1]; exact mm_pf_ne _ _ (by decide)
  have qh1_9 : h1.1 66 9 = h.1 66 9 := by rw [eh1]; exact mm_pf_ne _ _ (by decide)
  have qh1_10 : h1.1 66 10 = h.1 66 10 := by rw [eh1]; exact mm_pf_ne _ _ (by decide)
  have qh1_11 : h1.1 66 67 = h.1 66 67 := by rw [eh1]; exact mm_pf_ne _ _ (by decide)
  refine mm_aload_n C (mm_dec dk_X12_anew 3 rfl) rfl ?_
  refine mm_iload_n C (mm_dec dk_X12_anew 4 rfl) rfl ?_
  refine mm_puti C fl_X12_195 (mm_dec dk_X12_anew 5 rfl) rfl rfl rfl (Or.inl ⟨rfl, rfl⟩) ?_
  have i2 : mm_in2 (mm_pf h1 66 2 p2) := mm_inp_put i1 (show 0 ≤ p2 ∧ p2 ≤ 1 from ⟨by omega, by omega⟩) (by decide)
  have f2 : mm_fr [(66, 1), (66, 2), (66, 3), (66, 9), (66, 10), (66, 11), (66, 12), (66, 19), (66, 21), (66, 22), (66, 23), (66, 24), (66, 40), (66, 41), (66, 58), (66, 67), (66, 82), (66, 95)] [67, 68, 69, 70, 71] h (mm_pf h1 66 2 p2) := mm_fr_pf f1 (by decide)
  obtain ⟨h2, eh2⟩ : ∃ z, z = mm_pf h1 66 2 p2 := ⟨_, rfl⟩
  rw [← eh2] at i2 f2 ⊢
  have qh2 : h2.1 66 2 = p2 := by rw [eh2]; exact mm_pf_same _ _ _ _
  have qh2_12 : h2.1 66 1 = h1.1 66 1 := by rw [eh2]; exact mm_pf_ne _ _ (by decide)
  have qh2_13 : h2.1 66 3 = h1.1 66 3 := by rw [eh2]; exact mm_pf_ne _ _ (by decide)
  have qh2_14 : h2.1 66 9 = h1.1 66 9 := by rw [eh2]; exact mm_pf_ne _ _ (by decide)
  have qh2_15 : h2.1 66 10 = h1.1 66 10 := by rw [eh2]; exact mm_pf_ne _ _ (by decide)
  have qh2_16 : h2.1 66 67 = h1.1 66 67 := by rw [eh2]; exact mm_pf_ne _ _ (by decide)
  refine mm_aload_n C (mm_dec dk_X12_anew 6 rfl) rfl ?_
  refine mm_iconst C (mm_dec dk_X12_anew 7 rfl) ⟨by decide, by decide⟩ ?_
  refine mm_puti C fl_X12_198 (mm_dec dk_X12_anew 8 rfl) rfl rfl rfl (Or.inl ⟨rfl, rfl⟩) ?_
  have i3 : mm_in2 (mm_pf h2 66 3 2) := mm_inp_put i2 (show 0 ≤ 2 ∧ 2 ≤ 9 from ⟨by omega, by omega⟩) (by decide)
  have f3 : mm_fr [(66, 1), (66, 2), (66, 3), (66, 9), (66, 10), (66, 11), (66, 12), (66, 19), (66, 21), (66, 22), (66, 23), (66, 24), (66, 40), (66, 41), (66, 58), (66, 67), (66, 82), (66, 95)] [67, 68, 69, 70, 71] h (mm_pf h2 66 3 2) := mm_fr_pf f2 (by decide)
  obtain ⟨h3, eh3⟩ : ∃ z, z = mm_pf h2 66 3 2 := ⟨_, rfl⟩
  rw [← eh3] at i3 f3 ⊢
  have qh3 : h3.1 66 3 = 2 := by rw [eh3]; exact mm_pf_same _ _ _ _
  have qh3_17 : h3.1 66 1 = h2.1 66 1 := by rw [eh3]; exact mm_pf_ne _ _ (by decide)
  have qh3_18 : h3.1 66 2 = h2.1 66 2 := by rw [eh3]; exact mm_pf_ne _ _ (by decide)
  have qh3_19 : h3.1 66 9 = h2.1 66 9 := by rw [eh3]; exact mm_pf_ne _ _ (by decide)
  have qh3_20 : h3.1 66 10 = h2.1 66 10 := by rw [eh3]; exact mm_pf_ne _ _ (by decide)
  have qh3_21 : h3.1 66 67 = h2.1 66 67 := by rw [eh3]; exact mm_pf_ne _ _ (by decide)
  refine mm_iconst C (mm_dec dk_X12_anew 9 rfl) ⟨by decide, by decide⟩ ?_
  have J17 : ∀ (n : Nat) (x17_3 : Int) (bx17_3 : 0 ≤ x17_3 ∧ x17_3 ≤ 400) (h17_ : mH) (i17_ : mm_in2 h17_) (f17_ : mm_fr [(66, 1), (66, 2), (66, 3), (66, 9), (66, 10), (66, 11), (66, 12), (66, 19), (66, 21), (66, 22), (66, 23), (66, 24), (66, 40), (66, 41), (66, 58), (66, 67), (66, 82), (66, 95)] [67, 68, 69, 70, 71] h h17_) (w17_0 : mm_al h17_ 67 (x17_3 - 1) 0) (w17_1 : mm_al h17_ 68 (x17_3 - 1) 0) (w17_2 : mm_al h17_ 70 (x17_3 - 1) 0) (w17_3 : mm_al h17_ 71 (x17_3 - 1) 0) (w17_4 : h17_.1 66 3 = 2) (w17_5 : h17_.1 66 1 = 1) (w17_6 : h17_.1 66 2 = 1), (400 - x17_3 : Int) < n → mm_W x 0 0 17 [mR 66, mU, mU, mI x17_3] [] h17_ := by
    intro n
    induction n with
    | zero =>
      intro x17_3 bx17_3 h17_ i17_ f17_ w17_0 w17_1 w17_2 w17_3 w17_4 w17_5 w17_6 hm
      have g22 : 0 ≤ h17_.1 66 1 ∧ h17_.1 66 1 ≤ 1 := i17_.1 66 1
      have g23 : 0 ≤ h17_.1 66 2 ∧ h17_.1 66 2 ≤ 1 := i17_.1 66 2
      have g24 : 0 ≤ h17_.1 66 67 ∧ h17_.1 66 67 ≤ 1 := i17_.1 66 67
      have g25 : 0 ≤ h17_.1 66 3 ∧ h17_.1 66 3 ≤ 9 := i17_.1 66 3
      have g26 : 0 ≤ h17_.1 66 9 ∧ h17_.1 66 9 ≤ 0 := i17_.1 66 9
      have g27 : 0 ≤ h17_.1 66 10 ∧ h17_.1 66 10 ≤ 0 := i17_.1 66 10
      exfalso; omega
    | succ n ih17 =>
      intro x17_3 bx17_3 h17_ i17_ f17_ w17_0 w17_1 w17_2 w17_3 w17_4 w17_5 w17_6 hm17
      have g28 : 0 ≤ h17_.1 66 1 ∧ h17_.1 66 1 ≤ 1 := i17_.1 66 1
      have g29 : 0 ≤ h17_.1 66 2 ∧ h17_.1 66 2 ≤ 1 := i17_.1 66 2
      have g30 : 0 ≤ h17_.1 66 67 ∧ h17_.1 66 67 ≤ 1 := i17_.1 66 67
      have g31 : 0 ≤ h17_.1 66 3 ∧ h17_.1 66 3 ≤ 9 := i17_.1 66 3
      have g32 : 0 ≤ h17_.1 66 9 ∧ h17_.1 66 9 ≤ 0 := i17_.1 66 9
      have g33 : 0 ≤ h17_.1 66 10 ∧ h17_.1 66 10 ≤ 0 := i17_.1 66 10
      refine mm_iload_n C (mm_dec dk_X12_anew 11 rfl) rfl ?_
      refine mm_sipush C (mm_dec dk_X12_anew 12 rfl) ⟨by decide, by decide⟩ ?_
      refine mm_icmp_ge (tgt := 58) C (mm_dec dk_X12_anew 13 rfl) (by decide) (fun c21 => ?_) (fun c21 => ?_)
      · skip
        refine mm_iconst C (mm_dec dk_X12_anew 36 rfl) ⟨by decide, by decide⟩ ?_
        have J60 : ∀ (n : Nat) (x60_3 : Int) (bx60_3 : 0 ≤ x60_3 ∧ x60_3 ≤ 8) (h60_ : mH) (i60_ : mm_in2 h60_) (f60_ : mm_fr [(66, 1), (66, 2), (66, 3), (66, 9), (66, 10), (66, 11), (66, 12), (66, 19), (66, 21), (66, 22), (66, 23), (66, 24), (66, 40), (66, 41), (66, 58), (66, 67), (66, 82), (66, 95)] [67, 68, 69, 70, 71] h h60_) (w60_0 : mm_al h60_ 67 399 0) (w60_1 : mm_al h60_ 69 (x60_3 - 1) 5) (w60_2 : mm_al h60_ 68 399 0) (w60_3 : mm_al h60_ 70 399 0) (w60_4 : mm_al h60_ 71 399 0) (w60_5 : h60_.1 66 3 = 2) (w60_6 : h60_.1 66 1 = 1) (w60_7 : h60_.1 66 2 = 1), (8 - x60_3 : Int) < n → mm_W x 0 0 60 [mR 66, mU, mU, mI x60_3] [] h60_ := by
          intro n
          induction n with
          | zero =>
            intro x60_3 bx60_3 h60_ i60_ f60_ w60_0 w60_1 w60_2 w60_3 w60_4 w60_5 w60_6 w60_7 hm
            have g34 : 0 ≤ h60_.1 66 1 ∧ h60_.1 66 1 ≤ 1 := i60_.1 66 1
            have g35 : 0 ≤ h60_.1 66 2 ∧ h60_.1 66 2 ≤ 1 := i60_.1 66 2
            have g36 : 0 ≤ h60_.1 66 67 ∧ h60_.1 66 67 ≤ 1 := i60_.1 66 67
            have g37 : 0 ≤ h60_.1 66 3 ∧ h60_.1 66 3 ≤ 9 := i60_.1 66 3
            have g38 : 0 ≤ h60_.1 66 9 ∧ h60_.1 66 9 ≤ 0 := i60_.1 66 9
            have g39 : 0 ≤ h60_.1 66 10 ∧ h60_.1 66 10 ≤ 0 := i60_.1 66 10
            exfalso; omega
          | succ n ih60 =>
            intro x60_3 bx60_3 h60_ i60_ f60_ w60_0 w60_1 w60_2 w60_3 w60_4 w60_5 w60_6 w60_7 hm60
            have g40 : 0 ≤ h60_.1 66 1 ∧ h60_.1 66 1 ≤ 1 := i60_.1 66 1
            have g41 : 0 ≤ h60_.1 66 2 ∧ h60_.1 66 2 ≤ 1 := i60_.1 66 2
            have g42 : 0 ≤ h60_.1 66 67 ∧ h60_.1 66 67 ≤ 1 := i60_.1 66 67
            have g43 : 0 ≤ h60_.1 66 3 ∧ h60_.1 66 3 ≤ 9 := i60_.1 66 3
            have g44 : 0 ≤ h60_.1 66 9 ∧ h60_.1 66 9 ≤ 0 := i60_.1 66 9
            have g45 : 0 ≤ h60_.1 66 10 ∧ h60_.1 66 10 ≤ 0 := i60_.1 66 10
            refine mm_iload_n C (mm_dec dk_X12_anew 38 rfl) rfl ?_
            refine mm_bipush C (mm_dec dk_X12_anew 39 rfl) ⟨by decide, by decide⟩ ?_
            refine mm_icmp_ge (tgt := 79) C (mm_dec dk_X12_anew 40 rfl) (by decide) (fun c63 => ?_) (fun c63 => ?_)
            · skip
              refine mm_aload_n C (mm_dec dk_X12_anew 48 rfl) rfl ?_
              refine mm_iconst C (mm_dec dk_X12_anew 49 rfl) ⟨by decide, by decide⟩ ?_
              refine mm_puti C fl_X12_201 (mm_dec dk_X12_anew 50 rfl) rfl rfl rfl (Or.inl ⟨rfl, rfl⟩) ?_
              have i4 : mm_in2 (mm_pf h60_ 66 9 0) := mm_inp_put i60_ (show 0 ≤ 0 ∧ 0 ≤ 0 from ⟨by omega, by omega⟩) (by decide)
              have f4 : mm_fr [(66, 1), (66, 2), (66, 3), (66, 9), (66, 10), (66, 11), (66, 12), (66, 19), (66, 21), (66, 22), (66, 23), (66, 24), (66, 40), (66, 41), (66, 58), (66, 67), (66, 82), (66, 95)] [67, 68, 69, 70, 71] h (mm_pf h60_ 66 9 0) := mm_fr_pf f60_ (by decide)
              obtain ⟨h4, eh4⟩ : ∃ z, z = mm_pf h60_ 66 9 0 := ⟨_, rfl⟩
              rw [← eh4] at i4 f4 ⊢
              have qh4 : h4.1 66 9 = 0 := by rw [eh4]; exact mm_pf_same _ _ _ _
              have qh4_46 : h4.1 66 1 = h60_.1 66 1 := by rw [eh4]; exact mm_pf_ne _ _ (by decide)
              have qh4_47 : h4.1 66 2 = h60_.1 66 2 := by rw [eh4]; exact mm_pf_ne _ _ (by decide)
              have qh4_48 : h4.1 66 3 = h60_.1 66 3 := by rw [eh4]; exact mm_pf_ne _ _ (by decide)
              have qh4_49 : h4.1 66 10 = h60_.1 66 10 := by rw [eh4]; exact mm_pf_ne _ _ (by decide)
              have qh4_50 : h4.1 66 67 = h60_.1 66 67 := by rw [eh4]; exact mm_pf_ne _ _ (by decide)
              refine mm_aload_n C (mm_dec dk_X12_anew 51 rfl) rfl ?_
              refine mm_iconst C (mm_dec dk_X12_anew 52 rfl) ⟨by decide, by decide⟩ ?_
              refine mm_puti C fl_X12_204 (mm_dec dk_X12_anew 53 rfl) rfl rfl rfl (Or.inl ⟨rfl, rfl⟩) ?_
              have i5 : mm_in2 (mm_pf h4 66 10 0) := mm_inp_put i4 (show 0 ≤ 0 ∧ 0 ≤ 0 from ⟨by omega, by omega⟩) (by decide)
              have f5 : mm_fr [(66, 1), (66, 2), (66, 3), (66, 9), (66, 10), (66, 11), (66, 12), (66, 19), (66, 21), (66, 22), (66, 23), (66, 24), (66, 40), (66, 41), (66, 58), (66, 67), (66, 82), (66, 95)] [67, 68, 69, 70, 71] h (mm_pf h4 66 10 0) := mm_fr_pf f4 (by decide)
              obtain ⟨h5, eh5⟩ : ∃ z, z = mm_pf h4 66 10 0 := ⟨_, rfl⟩
              rw [← eh5] at i5 f5 ⊢
              have qh5 : h5.1 66 10 = 0 := by rw [eh5]; exact mm_pf_same _ _ _ _
              have qh5_51 : h5.1 66 1 = h4.1 66 1 := by rw [eh5]; exact mm_pf_ne _ _ (by decide)
              have qh5_52 : h5.1 66 2 = h4.1 66 2 := by rw [eh5]; exact mm_pf_ne _ _ (by decide)
              have qh5_53 : h5.1 66 3 = h4.1 66 3 := by rw [eh5]; exact mm_pf_ne _ _ (by decide)
              have qh5_54 : h5.1 66 9 = h4.1 66 9 := by rw [eh5]; exact mm_pf_ne _ _ (by decide)
              have qh5_55 : h5.1 66 67 = h4.1 66 67 := by rw [eh5]; exact mm_pf_ne _ _ (by decide)
              refine mm_aload_n C (mm_dec dk_X12_anew 54 rfl) rfl ?_
              refine mm_iconst C (mm_dec dk_X12_anew 55 rfl) ⟨by decide, by decide⟩ ?_
              refine mm_puti C fl_X12_207 (mm_dec dk_X12_anew 56 rfl) rfl rfl rfl (Or.inl ⟨rfl, rfl⟩) ?_
              have i6 : mm_in2 (mm_pf h5 66 11 0) := mm_inp_put i5 (show 0 ≤ 0 ∧ 0 ≤ 0 from ⟨by omega, by omega⟩) (by decide)
              have f6 : mm_fr [(66, 1), (66, 2), (66, 3), (66, 9), (66, 10), (66, 11), (66, 12), (66, 19), (66, 21), (66, 22), (66, 23), (66, 24), (66, 40), (66, 41), (66, 58), (66, 67), (66, 82), (66, 95)] [67, 68, 69, 70, 71] h (mm_pf h5 66 11 0) := mm_fr_pf f5 (by decide)
              obtain ⟨h6, eh6⟩ : ∃ z, z = mm_pf h5 66 11 0 := ⟨_, rfl⟩
              rw [← eh6] at i6 f6 ⊢
              have qh6 : h6.1 66 11 = 0 := by rw [eh6]; exact mm_pf_same _ _ _ _
              have qh6_56 : h6.1 66 1 = h5.1 66 1 := by rw [eh6]; exact mm_pf_ne _ _ (by decide)
              have qh6_57 : h6.1 66 2 = h5.1 66 2 := by rw [eh6]; exact mm_pf_ne _ _ (by decide)
              have qh6_58 : h6.1 66 3 = h5.1 66 3 := by rw [eh6]; exact mm_pf_ne _ _ (by decide)
              have qh6_59 : h6.1 66 9 = h5.1 66 9 := by rw [eh6]; exact mm_pf_ne _ _ (by decide)
              have qh6_60 : h6.1 66 10 = h5.1 66 10 := by rw [eh6]; exact mm_pf_ne _ _ (by decide)
              have qh6_61 : h6.1 66 67 = h5.1 66 67 := by rw [eh6]; exact mm_pf_ne _ _ (by decide)
              refine mm_aload_n C (mm_dec dk_X12_anew 57 rfl) rfl ?_
              refine mm_iconst C (mm_dec dk_X12_anew 58 rfl) ⟨by decide, by decide⟩ ?_
              refine mm_puti C fl_X12_210 (mm_dec dk_X12_anew 59 rfl) rfl rfl rfl (Or.inl ⟨rfl, rfl⟩) ?_
              have i7 : mm_in2 (mm_pf h6 66 12 0) := mm_inp_put i6 (show 0 ≤ 0 ∧ 0 ≤ 0 from ⟨by omega, by omega⟩) (by decide)
              have f7 : mm_fr [(66, 1), (66, 2), (66, 3), (66, 9), (66, 10), (66, 11), (66, 12), (66, 19), (66, 21), (66, 22), (66, 23), (66, 24), (66, 40), (66, 41), (66, 58), (66, 67), (66, 82), (66, 95)] [67, 68, 69, 70, 71] h (mm_pf h6 66 12 0) := mm_fr_pf f6 (by decide)
              obtain ⟨h7, eh7⟩ : ∃ z, z = mm_pf h6 66 12 0 := ⟨_, rfl⟩
              rw [← eh7] at i7 f7 ⊢
              have qh7 : h7.1 66 12 = 0 := by rw [eh7]; exact mm_pf_same _ _ _ _
              have qh7_62 : h7.1 66 1 = h6.1 66 1 := by rw [eh7]; exact mm_pf_ne _ _ (by decide)
              have qh7_63 : h7.1 66 2 = h6.1 66 2 := by rw [eh7]; exact mm_pf_ne _ _ (by decide)
              have qh7_64 : h7.1 66 3 = h6.1 66 3 := by rw [eh7]; exact mm_pf_ne _ _ (by decide)
              have qh7_65 : h7.1 66 9 = h6.1 66 9 := by rw [eh7]; exact mm_pf_ne _ _ (by decide)
              have qh7_66 : h7.1 66 10 = h6.1 66 10 := by rw [eh7]; exact mm_pf_ne _ _ (by decide)
              have qh7_67 : h7.1 66 11 = h6.1 66 11 := by rw [eh7]; exact mm_pf_ne _ _ (by decide)
              have qh7_68 : h7.1 66 67 = h6.1 66 67 := by rw [eh7]; exact mm_pf_ne _ _ (by decide)
              refine mm_aload_n C (mm_dec dk_X12_anew 60 rfl) rfl ?_
              refine mm_iconst C (mm_dec dk_X12_anew 61 rfl) ⟨by decide, by decide⟩ ?_
              refine mm_puti C fl_X12_213 (mm_dec dk_X12_anew 62 rfl) rfl rfl rfl (Or.inl ⟨rfl, rfl⟩) ?_
              have i8 : mm_in2 (mm_pf h7 66 19 (-1)) := mm_inp_put i7 (show -1 ≤ (-1) ∧ (-1) ≤ 400 from ⟨by omega, by omega⟩) (by decide)
              have f8 : mm_fr [(66, 1), (66, 2), (66, 3), (66, 9), (66, 10), (66, 11), (66, 12), (66, 19), (66, 21), (66, 22), (66, 23), (66, 24), (66, 40), (66, 41), (66, 58), (66, 67), (66, 82), (66, 95)] [67, 68, 69, 70, 71] h (mm_pf h7 66 19 (-1)) := mm_fr_pf f7 (by decide)
              obtain ⟨h8, eh8⟩ : ∃ z, z = mm_pf h7 66 19 (-1) := ⟨_, rfl⟩
              rw [← eh8] at i8 f8 ⊢
              have qh8 : h8.1 66 19 = (-1) := by rw [eh8]; exact mm_pf_same _ _ _ _
              have qh8_69 : h8.1 66 1 = h7.1 66 1 := by rw [eh8]; exact mm_pf_ne _ _ (by decide)
              have qh8_70 : h8.1 66 2 = h7.1 66 2 := by rw [eh8]; exact mm_pf_ne _ _ (by decide)
              have qh8_71 : h8.1 66 3 = h7.1 66 3 := by rw [eh8]; exact mm_pf_ne _ _ (by decide)
              have qh8_72 : h8.1 66 9 = h7.1 66 9 := by rw [eh8]; exact mm_pf_ne _ _ (by decide)
              have qh8_73 : h8.1 66 10 = h7.1 66 10 := by rw [eh8]; exact mm_pf_ne _ _ (by decide)
              have qh8_74 : h8.1 66 11 = h7.1 66 11 := by rw [eh8]; exact mm_pf_ne _ _ (by decide)
              have qh8_75 : h8.1 66 12 = h7.1 66 12 := by rw [eh8]; exact mm_pf_ne _ _ (by decide)
              have qh8_76 : h8.1 66 67 = h7.1 66 67 := by rw [eh8]; exact mm_pf_ne _ _ (by decide)
              refine mm_aload_n C (mm_dec dk_X12_anew 63 rfl) rfl ?_
              refine mm_iconst C (mm_dec dk_X12_anew 64 rfl) ⟨by decide, by decide⟩ ?_
              refine mm_puti C fl_X12_216 (mm_dec dk_X12_anew 65 rfl) rfl rfl rfl (Or.inl ⟨rfl, rfl⟩) ?_
              have i9 : mm_in2 (mm_pf h8 66 21 0) := mm_inp_put i8 (show 0 ≤ 0 ∧ 0 ≤ 0 from ⟨by omega, by omega⟩) (by decide)
              have f9 : mm_fr [(66, 1), (66, 2), (66, 3), (66, 9), (66, 10), (66, 11), (66, 12), (66, 19), (66, 21), (66, 22), (66, 23), (66, 24), (66, 40), (66, 41), (66, 58), (66, 67), (66, 82), (66, 95)] [67, 68, 69, 70, 71] h (mm_pf h8 66 21 0) := mm_fr_pf f8 (by decide)
              obtain ⟨h9, eh9⟩ : ∃ z, z = mm_pf h8 66 21 0 := ⟨_, rfl⟩
              rw [← eh9] at i9 f9 ⊢
              have qh9 : h9.1 66 21 = 0 := by rw [eh9]; exact mm_pf_same _ _ _ _
              have qh9_77 : h9.1 66 1 = h8.1 66 1 := by rw [eh9]; exact mm_pf_ne _ _ (by decide)
              have qh9_78 : h9.1 66 2 = h8.1 66 2 := by rw [eh9]; exact mm_pf_ne _ _ (by decide)
              have qh9_79 : h9.1 66 3 = h8.1 66 3 := by rw [eh9]; exact mm_pf_ne _ _ (by decide)
              have qh9_80 : h9.1 66 9 = h8.1 66 9 := by rw [eh9]; exact mm_pf_ne _ _ (by decide)
              have qh9_81 : h9.1 66 10 = h8.1 66 10 := by rw [eh9]; exact mm_pf_ne _ _ (by decide)
              have qh9_82 : h9.1 66 11 = h8.1 66 11 := by rw [eh9]; exact mm_pf_ne _ _ (by decide)
              have qh9_83 : h9.1 66 12 = h8.1 66 12 := by rw [eh9]; exact mm_pf_ne _ _ (by decide)
              have qh9_84 : h9.1 66 19 = h8.1 66 19 := by rw [eh9]; exact mm_pf_ne _ _ (by decide)
              have qh9_85 : h9.1 66 67 = h8.1 66 67 := by rw [eh9]; exact mm_pf_ne _ _ (by decide)
              refine mm_aload_n C (mm_dec dk_X12_anew 66 rfl) rfl ?_
              refine mm_iconst C (mm_dec dk_X12_anew 67 rfl) ⟨by decide, by decide⟩ ?_
              refine mm_puti C fl_X12_219 (mm_dec dk_X12_anew 68 rfl) rfl rfl rfl (Or.inl ⟨rfl, rfl⟩) ?_
              have i10 : mm_in2 (mm_pf h9 66 22 0) := mm_inp_put i9 (show 0 ≤ 0 ∧ 0 ≤ 0 from ⟨by omega, by omega⟩) (by decide)
              have f10 : mm_fr [(66, 1), (66, 2), (66, 3), (66, 9), (66, 10), (66, 11), (66, 12), (66, 19), (66, 21), (66, 22), (66, 23), (66, 24), (66, 40), (66, 41), (66, 58), (66, 67), (66, 82), (66, 95)] [67, 68, 69, 70, 71] h (mm_pf h9 66 22 0) := mm_fr_pf f9 (by decide)
              obtain ⟨h10, eh10⟩ : ∃ z, z = mm_pf h9 66 22 0 := ⟨_, rfl⟩
              rw [← eh10] at i10 f10 ⊢
              have qh10 : h10.1 66 22 = 0 := by rw [eh10]; exact mm_pf_same _ _ _ _
              have qh10_86 : h10.1 66 1 = h9.1 66 1 := by rw [eh10]; exact mm_pf_ne _ _ (by decide)
              have qh10_87 : h10.1 66 2 = h9.1 66 2 := by rw [eh10]; exact mm_pf_ne _ _ (by decide)
              have qh10_88 : h10.1 66 3 = h9.1 66 3 := by rw [eh10]; exact mm_pf_ne _ _ (by decide)
              have qh10_89 : h10.1 66 9 = h9.1 66 9 := by rw [eh10]; exact mm_pf_ne _ _ (by decide)
              have qh10_90 : h10.1 66 10 = h9.1 66 10 := by rw [eh10]; exact mm_pf_ne _ _ (by decide)
              have qh10_91 : h10.1 66 11 = h9.1 66 11 := by rw [eh10]; exact mm_pf_ne _ _ (by decide)
              have qh10_92 : h10.1 66 12 = h9.1 66 12 := by rw [eh10]; exact mm_pf_ne _ _ (by decide)
              have qh10_93 : h10.1 66 19 = h9.1 66 19 := by rw [eh10]; exact mm_pf_ne _ _ (by decide)
              have qh10_94 : h10.1 66 21 = h9.1 66 21 := by rw [eh10]; exact mm_pf_ne _ _ (by decide)
              have qh10_95 : h10.1 66 67 = h9.1 66 67 := by rw [eh10]; exact mm_pf_ne _ _ (by decide)
              refine mm_aload_n C (mm_dec dk_X12_anew 69 rfl) rfl ?_
              refine mm_iconst C (mm_dec dk_X12_anew 70 rfl) ⟨by decide, by decide⟩ ?_
              refine mm_puti C fl_X12_222 (mm_dec dk_X12_anew 71 rfl) rfl rfl rfl (Or.inl ⟨rfl, rfl⟩) ?_
              have i11 : mm_in2 (mm_pf h10 66 23 0) := mm_inp_put i10 (show 0 ≤ 0 ∧ 0 ≤ 0 from ⟨by omega, by omega⟩) (by decide)
              have f11 : mm_fr [(66, 1), (66, 2), (66, 3), (66, 9), (66, 10), (66, 11), (66, 12), (66, 19), (66, 21), (66, 22), (66, 23), (66, 24), (66, 40), (66, 41), (66, 58), (66, 67), (66, 82), (66, 95)] [67, 68, 69, 70, 71] h (mm_pf h10 66 23 0) := mm_fr_pf f10 (by decide)
              obtain ⟨h11, eh11⟩ : ∃ z, z = mm_pf h10 66 23 0 := ⟨_, rfl⟩
              rw [← eh11] at i11 f11 ⊢
              have qh11 : h11.1 66 23 = 0 := by rw [eh11]; exact mm_pf_same _ _ _ _
              have qh11_96 : h11.1 66 1 = h10.1 66 1 := by rw [eh11]; exact mm_pf_ne _ _ (by decide)
              have qh11_97 : h11.1 66 2 = h10.1 66 2 := by rw [eh11]; exact mm_pf_ne _ _ (by decide)
              have qh11_98 : h11.1 66 3 = h10.1 66 3 := by rw [eh11]; exact mm_pf_ne _ _ (by decide)
              have qh11_99 : h11.1 66 9 = h10.1 66 9 := by rw [eh11]; exact mm_pf_ne _ _ (by decide)
              have qh11_100 : h11.1 66 10 = h10.1 66 10 := by rw [eh11]; exact mm_pf_ne _ _ (by decide)
              have qh11_101 : h11.1 66 11 = h10.1 66 11 := by rw [eh11]; exact mm_pf_ne _ _ (by decide)
              have qh11_102 : h11.1 66 12 = h10.1 66 12 := by rw [eh11]; exact mm_pf_ne _ _ (by decide)
              have qh11_103 : h11.1 66 19 = h10.1 66 19 := by rw [eh11]; exact mm_pf_ne _ _ (by decide)
              have qh11_104 : h11.1 66 21 = h10.1 66 21 := by rw [eh11]; exact mm_pf_ne _ _ (by decide)
              have qh11_105 : h11.1 66 22 = h10.1 66 22 := by rw [eh11]; exact mm_pf_ne _ _ (by decide)
              have qh11_106 : h11.1 66 67 = h10.1 66 67 := by rw [eh11]; exact mm_pf_ne _ _ (by decide)
              refine mm_aload_n C (mm_dec dk_X12_anew 72 rfl) rfl ?_
              refine mm_iconst C (mm_dec dk_X12_anew 73 rfl) ⟨by decide, by decide⟩ ?_
              refine mm_puti C fl_X12_225 (mm_dec dk_X12_anew 74 rfl) rfl rfl rfl (Or.inl ⟨rfl, rfl⟩) ?_
              have i12 : mm_in2 (mm_pf h11 66 24 0) := mm_inp_put i11 (show 0 ≤ 0 ∧ 0 ≤ 0 from ⟨by omega, by omega⟩) (by decide)
              have f12 : mm_fr [(66, 1), (66, 2), (66, 3), (66, 9), (66, 10), (66, 11), (66, 12), (66, 19), (66, 21), (66, 22), (66, 23), (66, 24), (66, 40), (66, 41), (66, 58), (66, 67), (66, 82), (66, 95)] [67, 68, 69, 70, 71] h (mm_pf h11 66 24 0) := mm_fr_pf f11 (by decide)
              obtain ⟨h12, eh12⟩ : ∃ z, z = mm_pf h11 66 24 0 := ⟨_, rfl⟩
              rw [← eh12] at i12 f12 ⊢
              have qh12 : h12.1 66 24 = 0 := by rw [eh12]; exact mm_pf_same _ _ _ _
              have qh12_107 : h12.1 66 1 = h11.1 66 1 := by rw [eh12]; exact mm_pf_ne _ _ (by decide)
              have qh12_108 : h12.1 66 2 = h11.1 66 2 := by rw [eh12]; exact mm_pf_ne _ _ (by decide)
              have qh12_109 : h12.1 66 3 = h11.1 66 3 := by rw [eh12]; exact mm_pf_ne _ _ (by decide)
              have qh12_110 : h12.1 66 9 = h11.1 66 9 := by rw [eh12]; exact mm_pf_ne _ _ (by decide)
              have qh12_111 : h12.1 66 10 = h11.1 66 10 := by rw [eh12]; exact mm_pf_ne _ _ (by decide)
              have qh12_112 : h12.1 66 11 = h11.1 66 11 := by rw [eh12]; exact mm_pf_ne _ _ (by decide)
              have qh12_113 : h12.1 66 12 = h11.1 66 12 := by rw [eh12]; exact mm_pf_ne _ _ (by decide)
              have qh12_114 : h12.1 66 19 = h11.1 66 19 := by rw [eh12]; exact mm_pf_ne _ _ (by decide)
              have qh12_115 : h12.1 66 21 = h11.1 66 21 := by rw [eh12]; exact mm_pf_ne _ _ (by decide)
              have qh12_116 : h12.1 66 22 = h11.1 66 22 := by rw [eh12]; exact mm_pf_ne _ _ (by decide)
              have qh12_117 : h12.1 66 23 = h11.1 66 23 := by rw [eh12]; exact mm_pf_ne _ _ (by decide)
              have qh12_118 : h12.1 66 67 = h11.1 66 67 := by rw [eh12]; exact mm_pf_ne _ _ (by decide)
              refine mm_aload_n C (mm_dec dk_X12_anew 75 rfl) rfl ?_
              refine mm_iconst C (mm_dec dk_X12_anew 76 rfl) ⟨by decide, by decide⟩ ?_
              refine mm_puti C fl_X12_228 (mm_dec dk_X12_anew 77 rfl) rfl rfl rfl (Or.inl ⟨rfl, rfl⟩) ?_
              have i13 : mm_in2 (mm_pf h12 66 40 0) := mm_inp_put i12 (show 0 ≤ 0 ∧ 0 ≤ 0 from ⟨by omega, by omega⟩) (by decide)
              have f13 : mm_fr [(66, 1), (66, 2), (66, 3), (66, 9), (66, 10), (66, 11), (66, 12), (66, 19), (66, 21), (66, 22), (66, 23), (66, 24), (66, 40), (66, 41), (66, 58), (66, 67), (66, 82), (66, 95)] [67, 68, 69, 70, 71] h (mm_pf h12 66 40 0) := mm_fr_pf f12 (by decide)
              obtain ⟨h13, eh13⟩ : ∃ z, z = mm_pf h12 66 40 0 := ⟨_, rfl⟩
              rw [← eh13] at i13 f13 ⊢
              have qh13 : h13.1 66 40 = 0 := by rw [eh13]; exact mm_pf_same _ _ _ _
              have qh13_119 : h13.1 66 1 = h12.1 66 1 := by rw [eh13]; exact mm_pf_ne _ _ (by decide)
              have qh13_120 : h13.1 66 2 = h12.1 66 2 := by rw [eh13]; exact mm_pf_ne _ _ (by decide)
              have qh13_121 : h13.1 66 3 = h12.1 66 3 := by rw [eh13]; exact mm_pf_ne _ _ (by decide)
              have qh13_122 : h13.1 66 9 = h12.1 66 9 := by rw [eh13]; exact mm_pf_ne _ _ (by decide)
              have qh13_123 : h13.1 66 10 = h12.1 66 10 := by rw [eh13]; exact mm_pf_ne _ _ (by decide)
              have qh13_124 : h13.1 66 11 = h12.1 66 11 := by rw [eh13]; exact mm_pf_ne _ _ (by decide)
              have qh13_125 : h13.1 66 12 = h12.1 66 12 := by rw [eh13]; exact mm_pf_ne _ _ (by decide)
              have qh13_126 : h13.1 66 19 = h12.1 66 19 := by rw [eh13]; exact mm_pf_ne _ _ (by decide)
              have qh13_127 : h13.1 66 21 = h12.1 66 21 := by rw [eh13]; exact mm_pf_ne _ _ (by decide)
              have qh13_128 : h13.1 66 22 = h12.1 66 22 := by rw [eh13]; exact mm_pf_ne _ _ (by decide)
              have qh13_129 : h13.1 66 23 = h12.1 66 23 := by rw [eh13]; exact mm_pf_ne _ _ (by decide)
              have qh13_130 : h13.1 66 24 = h12.1 66 24 := by rw [eh13]; exact mm_pf_ne _ _ (by decide)
              have qh13_131 : h13.1 66 67 = h12.1 66 67 := by rw [eh13]; exact mm_pf_ne _ _ (by decide)
              refine mm_aload_n C (mm_dec dk_X12_anew 78 rfl) rfl ?_
              refine mm_iconst C (mm_dec dk_X12_anew 79 rfl) ⟨by decide, by decide⟩ ?_
              refine mm_puti C fl_X12_231 (mm_dec dk_X12_anew 80 rfl) rfl rfl rfl (Or.inl ⟨rfl, rfl⟩) ?_
              have i14 : mm_in2 (mm_pf h13 66 82 0) := mm_inp_put i13 (show 0 ≤ 0 ∧ 0 ≤ 0 from ⟨by omega, by omega⟩) (by decide)
              have f14 : mm_fr [(66, 1), (66, 2), (66, 3), (66, 9), (66, 10), (66, 11), (66, 12), (66, 19), (66, 21), (66, 22), (66, 23), (66, 24), (66, 40), (66, 41), (66, 58), (66, 67), (66, 82), (66, 95)] [67, 68, 69, 70, 71] h (mm_pf h13 66 82 0) := mm_fr_pf f13 (by decide)
              obtain ⟨h14, eh14⟩ : ∃ z, z = mm_pf h13 66 82 0 := ⟨_, rfl⟩
              rw [← eh14] at i14 f14 ⊢
              have qh14 : h14.1 66 82 = 0 := by rw [eh14]; exact mm_pf_same _ _ _ _
              have qh14_132 : h14.1 66 1 = h13.1 66 1 := by rw [eh14]; exact mm_pf_ne _ _ (by decide)
              have qh14_133 : h14.1 66 2 = h13.1 66 2 := by rw [eh14]; exact mm_pf_ne _ _ (by decide)
              have qh14_134 : h14.1 66 3 = h13.1 66 3 := by rw [eh14]; exact mm_pf_ne _ _ (by decide)
              have qh14_135 : h14.1 66 9 = h13.1 66 9 := by rw [eh14]; exact mm_pf_ne _ _ (by decide)
              have qh14_136 : h14.1 66 10 = h13.1 66 10 := by rw [eh14]; exact mm_pf_ne _ _ (by decide)
              have qh14_137 : h14.1 66 11 = h13.1 66 11 := by rw [eh14]; exact mm_pf_ne _ _ (by decide)
              have qh14_138 : h14.1 66 12 = h13.1 66 12 := by rw [eh14]; exact mm_pf_ne _ _ (by decide)
              have qh14_139 : h14.1 66 19 = h13.1 66 19 := by rw [eh14]; exact mm_pf_ne _ _ (by decide)
              have qh14_140 : h14.1 66 21 = h13.1 66 21 := by rw [eh14]; exact mm_pf_ne _ _ (by decide)
              have qh14_141 : h14.1 66 22 = h13.1 66 22 := by rw [eh14]; exact mm_pf_ne _ _ (by decide)
              have qh14_142 : h14.1 66 23 = h13.1 66 23 := by rw [eh14]; exact mm_pf_ne _ _ (by decide)
              have qh14_143 : h14.1 66 24 = h13.1 66 24 := by rw [eh14]; exact mm_pf_ne _ _ (by decide)
              have qh14_144 : h14.1 66 40 = h13.1 66 40 := by rw [eh14]; exact mm_pf_ne _ _ (by decide)
              have qh14_145 : h14.1 66 67 = h13.1 66 67 := by rw [eh14]; exact mm_pf_ne _ _ (by decide)
              refine mm_aload_n C (mm_dec dk_X12_anew 81 rfl) rfl ?_
              refine mm_iconst C (mm_dec dk_X12_anew 82 rfl) ⟨by decide, by decide⟩ ?_
              refine mm_puti C fl_X12_234 (mm_dec dk_X12_anew 83 rfl) rfl rfl rfl (Or.inl ⟨rfl, rfl⟩) ?_
              have i15 : mm_in2 (mm_pf h14 66 41 0) := mm_inp_put i14 (show 0 ≤ 0 ∧ 0 ≤ 0 from ⟨by omega, by omega⟩) (by decide)
              have f15 : mm_fr [(66, 1), (66, 2), (66, 3), (66, 9), (66, 10), (66, 11), (66, 12), (66, 19), (66, 21), (66, 22), (66, 23), (66, 24), (66, 40), (66, 41), (66, 58), (66, 67), (66, 82), (66, 95)] [67, 68, 69, 70, 71] h (mm_pf h14 66 41 0) := mm_fr_pf f14 (by decide)
              obtain ⟨h15, eh15⟩ : ∃ z, z = mm_pf h14 66 41 0 := ⟨_, rfl⟩
              rw [← eh15] at i15 f15 ⊢
              have qh15 : h15.1 66 41 = 0 := by rw [eh15]; exact mm_pf_same _ _ _ _
              have qh15_146 : h15.1 66 1 = h14.1 66 1 := by rw [eh15]; exact mm_pf_ne _ _ (by decide)
              have qh15_147 : h15.1 66 2 = h14.1 66 2 := by rw [eh15]; exact mm_pf_ne _ _ (by decide)
              have qh15_148 : h15.1 66 3 = h14.1 66 3 := by rw [eh15]; exact mm_pf_ne _ _ (by decide)
              have qh15_149 : h15.1 66 9 = h14.1 66 9 := by rw [eh15]; exact mm_pf_ne _ _ (by decide)
              have qh15_150 : h15.1 66 10 = h14.1 66 10 := by rw [eh15]; exact mm_pf_ne _ _ (by decide)
              have qh15_151 : h15.1 66 11 = h14.1 66 11 := by rw [eh15]; exact mm_pf_ne _ _ (by decide)
              have qh15_152 : h15.1 66 12 = h14.1 66 12 := by rw [eh15]; exact mm_pf_ne _ _ (by decide)
              have qh15_153 : h15.1 66 19 = h14.1 66 19 := by rw [eh15]; exact mm_pf_ne _ _ (by decide)
              have qh15_154 : h15.1 66 21 = h14.1 66 21 := by rw [eh15]; exact mm_pf_ne _ _ (by decide)
              have qh15_155 : h15.1 66 22 = h14.1 66 22 := by rw [eh15]; exact mm_pf_ne _ _ (by decide)
              have qh15_156 : h15.1 66 23 = h14.1 66 23 := by rw [eh15]; exact mm_pf_ne _ _ (by decide)
              have qh15_157 : h15.1 66 24 = h14.1 66 24 := by rw [eh15]; exact mm_pf_ne _ _ (by decide)
              have qh15_158 : h15.1 66 40 = h14.1 66 40 := by rw [eh15]; exact mm_pf_ne _ _ (by decide)
              have qh15_159 : h15.1 66 67 = h14.1 66 67 := by rw [eh15]; exact mm_pf_ne _ _ (by decide)
              have qh15_160 : h15.1 66 82 = h14.1 66 82 := by rw [eh15]; exact mm_pf_ne _ _ (by decide)
              refine mm_aload_n C (mm_dec dk_X12_anew 84 rfl) rfl ?_
              refine mm_iconst C (mm_dec dk_X12_anew 85 rfl) ⟨by decide, by decide⟩ ?_
              refine mm_puti C fl_X12_237 (mm_dec dk_X12_anew 86 rfl) rfl rfl rfl (Or.inl ⟨rfl, rfl⟩) ?_
              have i16 : mm_in2 (mm_pf h15 66 58 (-1)) := mm_inp_put i15 (show -2147483648 ≤ (-1) ∧ (-1) ≤ 2147483647 from ⟨by omega, by omega⟩) (by decide)
              have f16 : mm_fr [(66, 1), (66, 2), (66, 3), (66, 9), (66, 10), (66, 11), (66, 12), (66, 19), (66, 21), (66, 22), (66, 23), (66, 24), (66, 40), (66, 41), (66, 58), (66, 67), (66, 82), (66, 95)] [67, 68, 69, 70, 71] h (mm_pf h15 66 58 (-1)) := mm_fr_pf f15 (by decide)
              obtain ⟨h16, eh16⟩ : ∃ z, z = mm_pf h15 66 58 (-1) := ⟨_, rfl⟩
              rw [← eh16] at i16 f16 ⊢
              have qh16 : h16.1 66 58 = (-1) := by rw [eh16]; exact mm_pf_same _ _ _ _
              have qh16_161 : h16.1 66 1 = h15.1 66 1 := by rw [eh16]; exact mm_pf_ne _ _ (by decide)
              have qh16_162 : h16.1 66 2 = h15.1 66 2 := by rw [eh16]; exact mm_pf_ne _ _ (by decide)
              have qh16_163 : h16.1 66 3 = h15.1 66 3 := by rw [eh16]; exact mm_pf_ne _ _ (by decide)
              have qh16_164 : h16.1 66 9 = h15.1 66 9 := by rw [eh16]; exact mm_pf_ne _ _ (by decide)
              have qh16_165 : h16.1 66 10 = h15.1 66 10 := by rw [eh16]; exact mm_pf_ne _ _ (by decide)
              have qh16_166 : h16.1 66 11 = h15.1 66 11 := by rw [eh16]; exact mm_pf_ne _ _ (by decide)
              have qh16_167 : h16.1 66 12 = h15.1 66 12 := by rw [eh16]; exact mm_pf_ne _ _ (by decide)
              have qh16_168 : h16.1 66 19 = h15.1 66 19 := by rw [eh16]; exact mm_pf_ne _ _ (by decide)
              have qh16_169 : h16.1 66 21 = h15.1 66 21 := by rw [eh16]; exact mm_pf_ne _ _ (by decide)
              have qh16_170 : h16.1 66 22 = h15.1 66 22 := by rw [eh16]; exact mm_pf_ne _ _ (by decide)
              have qh16_171 : h16.1 66 23 = h15.1 66 23 := by rw [eh16]; exact mm_pf_ne _ _ (by decide)
              have qh16_172 : h16.1 66 24 = h15.1 66 24 := by rw [eh16]; exact mm_pf_ne _ _ (by decide)
              have qh16_173 : h16.1 66 40 = h15.1 66 40 := by rw [eh16]; exact mm_pf_ne _ _ (by decide)
              have qh16_174 : h16.1 66 41 = h15.1 66 41 := by rw [eh16]; exact mm_pf_ne _ _ (by decide)
              have qh16_175 : h16.1 66 67 = h15.1 66 67 := by rw [eh16]; exact mm_pf_ne _ _ (by decide)
              have qh16_176 : h16.1 66 82 = h15.1 66 82 := by rw [eh16]; exact mm_pf_ne _ _ (by decide)
              refine mm_aload_n C (mm_dec dk_X12_anew 87 rfl) rfl ?_
              refine mm_iconst C (mm_dec dk_X12_anew 88 rfl) ⟨by decide, by decide⟩ ?_
              refine mm_puti C fl_X12_240 (mm_dec dk_X12_anew 89 rfl) rfl rfl rfl (Or.inr ⟨rfl, rfl, by omega⟩) ?_
              have i17 : mm_in2 (mm_pf h16 66 67 0) := mm_inp_put i16 (show 0 ≤ 0 ∧ 0 ≤ 1 from ⟨by omega, by omega⟩) (by decide)
              have f17 : mm_fr [(66, 1), (66, 2), (66, 3), (66, 9), (66, 10), (66, 11), (66, 12), (66, 19), (66, 21), (66, 22), (66, 23), (66, 24), (66, 40), (66, 41), (66, 58), (66, 67), (66, 82), (66, 95)] [67, 68, 69, 70, 71] h (mm_pf h16 66 67 0) := mm_fr_pf f16 (by decide)
              obtain ⟨h17, eh17⟩ : ∃ z, z = mm_pf h16 66 67 0 := ⟨_, rfl⟩
              rw [← eh17] at i17 f17 ⊢
              have qh17 : h17.1 66 67 = 0 := by rw [eh17]; exact mm_pf_same _ _ _ _
              have qh17_177 : h17.1 66 1 = h16.1 66 1 := by rw [eh17]; exact mm_pf_ne _ _ (by decide)
              have qh17_178 : h17.1 66 2 = h16.1 66 2 := by rw [eh17]; exact mm_pf_ne _ _ (by decide)
              have qh17_179 : h17.1 66 3 = h16.1 66 3 := by rw [eh17]; exact mm_pf_ne _ _ (by decide)
              have qh17_180 : h17.1 66 9 = h16.1 66 9 := by rw [eh17]; exact mm_pf_ne _ _ (by decide)
              have qh17_181 : h17.1 66 10 = h16.1 66 10 := by rw [eh17]; exact mm_pf_ne _ _ (by decide)
              have qh17_182 : h17.1 66 11 = h16.1 66 11 := by rw [eh17]; exact mm_pf_ne _ _ (by decide)
              have qh17_183 : h17.1 66 12 = h16.1 66 12 := by rw [eh17]; exact mm_pf_ne _ _ (by decide)
              have qh17_184 : h17.1 66 19 = h16.1 66 19 := by rw [eh17]; exact mm_pf_ne _ _ (by decide)
              have qh17_185 : h17.1 66 21 = h16.1 66 21 := by rw [eh17]; exact mm_pf_ne _ _ (by decide)
              have qh17_186 : h17.1 66 22 = h16.1 66 22 := by rw [eh17]; exact mm_pf_ne _ _ (by decide)
              have qh17_187 : h17.1 66 23 = h16.1 66 23 := by rw [eh17]; exact mm_pf_ne _ _ (by decide)
              have qh17_188 : h17.1 66 24 = h16.1 66 24 := by rw [eh17]; exact mm_pf_ne _ _ (by decide)
              have qh17_189 : h17.1 66 40 = h16.1 66 40 := by rw [eh17]; exact mm_pf_ne _ _ (by decide)
              have qh17_190 : h17.1 66 41 = h16.1 66 41 := by rw [eh17]; exact mm_pf_ne _ _ (by decide)
              have qh17_191 : h17.1 66 58 = h16.1 66 58 := by rw [eh17]; exact mm_pf_ne _ _ (by decide)
              have qh17_192 : h17.1 66 82 = h16.1 66 82 := by rw [eh17]; exact mm_pf_ne _ _ (by decide)
              refine mm_aload_n C (mm_dec dk_X12_anew 90 rfl) rfl ?_
              refine mm_iconst C (mm_dec dk_X12_anew 91 rfl) ⟨by decide, by decide⟩ ?_
              refine mm_puti C fl_X12_244 (mm_dec dk_X12_anew 92 rfl) rfl rfl rfl (Or.inr ⟨rfl, rfl, by omega⟩) ?_
              have i18 : mm_in2 (mm_pf h17 66 95 0) := mm_inp_put i17 (show 0 ≤ 0 ∧ 0 ≤ 0 from ⟨by omega, by omega⟩) (by decide)
              have f18 : mm_fr [(66, 1), (66, 2), (66, 3), (66, 9), (66, 10), (66, 11), (66, 12), (66, 19), (66, 21), (66, 22), (66, 23), (66, 24), (66, 40), (66, 41), (66, 58), (66, 67), (66, 82), (66, 95)] [67, 68, 69, 70, 71] h (mm_pf h17 66 95 0) := mm_fr_pf f17 (by decide)
              obtain ⟨h18, eh18⟩ : ∃ z, z = mm_pf h17 66 95 0 := ⟨_, rfl⟩
              rw [← eh18] at i18 f18 ⊢
              have qh18 : h18.1 66 95 = 0 := by rw [eh18]; exact mm_pf_same _ _ _ _
              have qh18_193 : h18.1 66 1 = h17.1 66 1 := by rw [eh18]; exact mm_pf_ne _ _ (by decide)
              have qh18_194 : h18.1 66 2 = h17.1 66 2 := by rw [eh18]; exact mm_pf_ne _ _ (by decide)
              have qh18_195 : h18.1 66 3 = h17.1 66 3 := by rw [eh18]; exact mm_pf_ne _ _ (by decide)
              have qh18_196 : h18.1 66 9 = h17.1 66 9 := by rw [eh18]; exact mm_pf_ne _ _ (by decide)
              have qh18_197 : h18.1 66 10 = h17.1 66 10 := by rw [eh18]; exact mm_pf_ne _ _ (by decide)
              have qh18_198 : h18.1 66 11 = h17.1 66 11 := by rw [eh18]; exact mm_pf_ne _ _ (by decide)
              have qh18_199 : h18.1 66 12 = h17.1 66 12 := by rw [eh18]; exact mm_pf_ne _ _ (by decide)
              have qh18_200 : h18.1 66 19 = h17.1 66 19 := by rw [eh18]; exact mm_pf_ne _ _ (by decide)
              have qh18_201 : h18.1 66 21 = h17.1 66 21 := by rw [eh18]; exact mm_pf_ne _ _ (by decide)
              have qh18_202 : h18.1 66 22 = h17.1 66 22 := by rw [eh18]; exact mm_pf_ne _ _ (by decide)
              have qh18_203 : h18.1 66 23 = h17.1 66 23 := by rw [eh18]; exact mm_pf_ne _ _ (by decide)
              have qh18_204 : h18.1 66 24 = h17.1 66 24 := by rw [eh18]; exact mm_pf_ne _ _ (by decide)
              have qh18_205 : h18.1 66 40 = h17.1 66 40 := by rw [eh18]; exact mm_pf_ne _ _ (by decide)
              have qh18_206 : h18.1 66 41 = h17.1 66 41 := by rw [eh18]; exact mm_pf_ne _ _ (by decide)
              have qh18_207 : h18.1 66 58 = h17.1 66 58 := by rw [eh18]; exact mm_pf_ne _ _ (by decide)
              have qh18_208 : h18.1 66 67 = h17.1 66 67 := by rw [eh18]; exact mm_pf_ne _ _ (by decide)
              have qh18_209 : h18.1 66 82 = h17.1 66 82 := by rw [eh18]; exact mm_pf_ne _ _ (by decide)
              exact mm_vret C T (mm_dec dk_X12_anew 93 rfl) (by decide : 0 ≤ 0) (by decide : 0 ≤ 0) ⟨rfl, ⟨i18, f18, by omega, by omega, by omega, by omega, by rw [eh18, eh17, eh16, eh15, eh14, eh13, eh12, eh11, eh10, eh9, eh8, eh7, eh6, eh5, eh4]; exact w60_0, by rw [eh18, eh17, eh16, eh15, eh14, eh13, eh12, eh11, eh10, eh9, eh8, eh7, eh6, eh5, eh4]; exact mm_al_le w60_1 (by omega), by rw [eh18, eh17, eh16, eh15, eh14, eh13, eh12, eh11, eh10, eh9, eh8, eh7, eh6, eh5, eh4]; exact w60_2, by rw [eh18, eh17, eh16, eh15, eh14, eh13, eh12, eh11, eh10, eh9, eh8, eh7, eh6, eh5, eh4]; exact w60_3, by rw [eh18, eh17, eh16, eh15, eh14, eh13, eh12, eh11, eh10, eh9, eh8, eh7, eh6, eh5, eh4]; exact w60_4, by omega, by omega, by omega⟩⟩
            · skip
              refine mm_aload_n C (mm_dec dk_X12_anew 41 rfl) rfl ?_
              refine mm_getr (t := 69) C fl_X12_16 (mm_dec dk_X12_anew 42 rfl) rfl rfl (mm_inp_ref i60_ rfl) ?_
              refine mm_iload_n C (mm_dec dk_X12_anew 43 rfl) rfl ?_
              refine mm_iconst C (mm_dec dk_X12_anew 44 rfl) ⟨by decide, by decide⟩ ?_
              refine mm_iast C (mm_dec dk_X12_anew 45 rfl) rfl (by omega) (by omega) ?_
              have i19 : mm_in2 (mm_pa h60_ 69 x60_3 5) := mm_inp_pa i60_ (show 0 ≤ 5 ∧ 5 ≤ 99 from ⟨by omega, by omega⟩)
              have f19 : mm_fr [(66, 1), (66, 2), (66, 3), (66, 9), (66, 10), (66, 11), (66, 12), (66, 19), (66, 21), (66, 22), (66, 23), (66, 24), (66, 40), (66, 41), (66, 58), (66, 67), (66, 82), (66, 95)] [67, 68, 69, 70, 71] h (mm_pa h60_ 69 x60_3 5) := mm_fr_pa f60_ (by decide)
              obtain ⟨h19, eh19⟩ : ∃ z, z = mm_pa h60_ 69 x60_3 5 := ⟨_, rfl⟩
              rw [← eh19] at i19 f19 ⊢
              have qh19_210 : h19.1 66 1 = h60_.1 66 1 := by rw [eh19]; rfl
              have qh19_211 : h19.1 66 2 = h60_.1 66 2 := by rw [eh19]; rfl
              have qh19_212 : h19.1 66 3 = h60_.1 66 3 := by rw [eh19]; rfl
              have qh19_213 : h19.1 66 9 = h60_.1 66 9 := by rw [eh19]; rfl
              have qh19_214 : h19.1 66 10 = h60_.1 66 10 := by rw [eh19]; rfl
              have qh19_215 : h19.1 66 67 = h60_.1 66 67 := by rw [eh19]; rfl
              refine mm_iincL (ls2 := [mR 66, mU, mU, mI (x60_3 + 1)]) C (mm_dec dk_X12_anew 46 rfl) rfl (by decide) ⟨by omega, by omega⟩ rfl ?_
              refine mm_goto (tgt := 60) C (mm_dec dk_X12_anew 47 rfl) (by decide) ?_
              exact ih60 (x60_3 + 1) ⟨by omega, by omega⟩ h19 i19 f19 (by first | exact mm_al_le w17_0 (by omega) | exact mm_al_sm w60_0 (fun _ => (mm_sm_pa 67 eh19 (by decide) _))) (by first | exact mm_al_nil (by omega) | (rw [show x60_3 + 1 - 1 = x60_3 by omega]; exact mm_al_put w60_1 eh19)) (by first | exact mm_al_le w17_1 (by omega) | exact mm_al_sm w60_2 (fun _ => (mm_sm_pa 68 eh19 (by decide) _))) (by first | exact mm_al_le w17_2 (by omega) | exact mm_al_sm w60_3 (fun _ => (mm_sm_pa 70 eh19 (by decide) _))) (by first | exact mm_al_le w17_3 (by omega) | exact mm_al_sm w60_4 (fun _ => (mm_sm_pa 71 eh19 (by decide) _))) (by omega) (by omega) (by omega) (by omega)
        refine mm_istore_nL (ls2 := [mR 66, mU, mU, mI 0]) C (mm_dec dk_X12_anew 37 rfl) (by decide) rfl ?_
        exact J60 (((8 - 0) : Int) + 1).toNat 0 ⟨by omega, by omega⟩ h17_ i17_ f17_ (by first | exact mm_al_le w17_0 (by omega) | exact mm_al_sm w60_0 (fun _ => (mm_sm_pa 67 eh19 (by decide) _))) (by first | exact mm_al_nil (by omega) | (rw [show x60_3 + 1 - 1 = x60_3 by omega]; exact mm_al_put w60_1 eh19)) (by first | exact mm_al_le w17_1 (by omega) | exact mm_al_sm w60_2 (fun _ => (mm_sm_pa 68 eh19 (by decide) _))) (by first | exact mm_al_le w17_2 (by omega) | exact mm_al_sm w60_3 (fun _ => (mm_sm_pa 70 eh19 (by decide) _))) (by first | exact mm_al_le w17_3 (by omega) | exact mm_al_sm w60_4 (fun _ => (mm_sm_pa 71 eh19 (by decide) _))) (by omega) (by omega) (by omega) (by omega)
      · skip
        refine mm_aload_n C (mm_dec dk_X12_anew 14 rfl) rfl ?_
        refine mm_getr (t := 67) C fl_X12_7 (mm_dec dk_X12_anew 15 rfl) rfl rfl (mm_inp_ref i17_ rfl) ?_
        refine mm_iload_n C (mm_dec dk_X12_anew 16 rfl) rfl ?_
        refine mm_iconst C (mm_dec dk_X12_anew 17 rfl) ⟨by decide, by decide⟩ ?_
        refine mm_iast C (mm_dec dk_X12_anew 18 rfl) rfl (by omega) (by omega) ?_
        have i20 : mm_in2 (mm_pa h17_ 67 x17_3 0) := mm_inp_pa i17_ (show 0 ≤ 0 ∧ 0 ≤ 7 from ⟨by omega, by omega⟩)
        have f20 : mm_fr [(66, 1), (66, 2), (66, 3), (66, 9), (66, 10), (66, 11), (66, 12), (66, 19), (66, 21), (66, 22), (66, 23), (66, 24), (66, 40), (66, 41), (66, 58), (66, 67), (66, 82), (66, 95)] [67, 68, 69, 70, 71] h (mm_pa h17_ 67 x17_3 0) := mm_fr_pa f17_ (by decide)
        obtain ⟨h20, eh20⟩ : ∃ z, z = mm_pa h17_ 67 x17_3 0 := ⟨_, rfl⟩
        rw [← eh20] at i20 f20 ⊢
        have qh20_216 : h20.1 66 1 = h17_.1 66 1 := by rw [eh20]; rfl
        have qh20_217 : h20.1 66 2 = h17_.1 66 2 := by rw [eh20]; rfl
        have qh20_218 : h20.1 66 3 = h17_.1 66 3 := by rw [eh20]; rfl
        have qh20_219 : h20.1 66 9 = h17_.1 66 9 := by rw [eh20]; rfl
        have qh20_220 : h20.1 66 10 = h17_.1 66 10 := by rw [eh20]; rfl
        have qh20_221 : h20.1 66 67 = h17_.1 66 67 := by rw [eh20]; rfl
        refine mm_aload_n C (mm_dec dk_X12_anew 19 rfl) rfl ?_
        refine mm_getr (t := 68) C fl_X12_13 (mm_dec dk_X12_anew 20 rfl) rfl rfl (mm_inp_ref i20 rfl) ?_
        refine mm_iload_n C (mm_dec dk_X12_anew 21 rfl) rfl ?_
        refine mm_iconst C (mm_dec dk_X12_anew 22 rfl) ⟨by decide, by decide⟩ ?_
        refine mm_iast C (mm_dec dk_X12_anew 23 rfl) rfl (by omega) (by omega) ?_
        have i21 : mm_in2 (mm_pa h20 68 x17_3 0) := mm_inp_pa i20 (show 0 ≤ 0 ∧ 0 ≤ 99 from ⟨by omega, by omega⟩)
        have f21 : mm_fr [(66, 1), (66, 2), (66, 3), (66, 9), (66, 10), (66, 11), (66, 12), (66, 19), (66, 21), (66, 22), (66, 23), (66, 24), (66, 40), (66, 41), (66, 58), (66, 67), (66, 82), (66, 95)] [67, 68, 69, 70, 71] h (mm_pa h20 68 x17_3 0) := mm_fr_pa f20 (by decide)
        obtain ⟨h21, eh21⟩ : ∃ z, z = mm_pa h20 68 x17_3 0 := ⟨_, rfl⟩
        rw [← eh21] at i21 f21 ⊢
        have qh21_222 : h21.1 66 1 = h20.1 66 1 := by rw [eh21]; rfl
        have qh21_223 : h21.1 66 2 = h20.1 66 2 := by rw [eh21]; rfl
        have qh21_224 : h21.1 66 3 = h20.1 66 3 := by rw [eh21]; rfl
        have qh21_225 : h21.1 66 9 = h20.1 66 9 := by rw [eh21]; rfl
        have qh21_226 : h21.1 66 10 = h20.1 66 10 := by rw [eh21]; rfl
        have qh21_227 : h21.1 66 67 = h20.1 66 67 := by rw [eh21]; rfl
        refine mm_aload_n C (mm_dec dk_X12_anew 24 rfl) rfl ?_
        refine mm_getr (t := 70) C fl_X12_19 (mm_dec dk_X12_anew 25 rfl) rfl rfl (mm_inp_ref i21 rfl) ?_
        refine mm_iload_n C (mm_dec dk_X12_anew 26 rfl) rfl ?_
        refine mm_iconst C (mm_dec dk_X12_anew 27 rfl) ⟨by decide, by decide⟩ ?_
        refine mm_zast C (mm_dec dk_X12_anew 28 rfl) rfl (by omega) (by omega) (by omega) ?_
        have i22 : mm_in2 (mm_pa h21 70 x17_3 0) := mm_inp_pa i21 (show 0 ≤ 0 ∧ 0 ≤ 1 from ⟨by omega, by omega⟩)
        have f22 : mm_fr [(66, 1), (66, 2), (66, 3), (66, 9), (66, 10), (66, 11), (66, 12), (66, 19), (66, 21), (66, 22), (66, 23), (66, 24), (66, 40), (66, 41), (66, 58), (66, 67), (66, 82), (66, 95)] [67, 68, 69, 70, 71] h (mm_pa h21 70 x17_3 0) := mm_fr_pa f21 (by decide)
        obtain ⟨h22, eh22⟩ : ∃ z, z = mm_pa h21 70 x17_3 0 := ⟨_, rfl⟩
        rw [← eh22] at i22 f22 ⊢
        have qh22_228 : h22.1 66 1 = h21.1 66 1 := by rw [eh22]; rfl
        have qh22_229 : h22.1 66 2 = h21.1 66 2 := by rw [eh22]; rfl
        have qh22_230 : h22.1 66 3 = h21.1 66 3 := by rw [eh22]; rfl
        have qh22_231 : h22.1 66 9 = h21.1 66 9 := by rw [eh22]; rfl
        have qh22_232 : h22.1 66 10 = h21.1 66 10 := by rw [eh22]; rfl
        have qh22_233 : h22.1 66 67 = h21.1 66 67 := by rw [eh22]; rfl
        refine mm_aload_n C (mm_dec dk_X12_anew 29 rfl) rfl ?_
        refine mm_getr (t := 71) C fl_X12_23 (mm_dec dk_X12_anew 30 rfl) rfl rfl (mm_inp_ref i22 rfl) ?_
        refine mm_iload_n C (mm_dec dk_X12_anew 31 rfl) rfl ?_
        refine mm_iconst C (mm_dec dk_X12_anew 32 rfl) ⟨by decide, by decide⟩ ?_
        refine mm_zast C (mm_dec dk_X12_anew 33 rfl) rfl (by omega) (by omega) (by omega) ?_
        have i23 : mm_in2 (mm_pa h22 71 x17_3 0) := mm_inp_pa i22 (show 0 ≤ 0 ∧ 0 ≤ 1 from ⟨by omega, by omega⟩)
        have f23 : mm_fr [(66, 1), (66, 2), (66, 3), (66, 9), (66, 10), (66, 11), (66, 12), (66, 19), (66, 21), (66, 22), (66, 23), (66, 24), (66, 40), (66, 41), (66, 58), (66, 67), (66, 82), (66, 95)] [67, 68, 69, 70, 71] h (mm_pa h22 71 x17_3 0) := mm_fr_pa f22 (by decide)
        obtain ⟨h23, eh23⟩ : ∃ z, z = mm_pa h22 71 x17_3 0 := ⟨_, rfl⟩
        rw [← eh23] at i23 f23 ⊢
        have qh23_234 : h23.1 66 1 = h22.1 66 1 := by rw [eh23]; rfl
        have qh23_235 : h23.1 66 2 = h22.1 66 2 := by rw [eh23]; rfl
        have qh23_236 : h23.1 66 3 = h22.1 66 3 := by rw [eh23]; rfl
        have qh23_237 : h23.1 66 9 = h22.1 66 9 := by rw [eh23]; rfl
        have qh23_238 : h23.1 66 10 = h22.1 66 10 := by rw [eh23]; rfl
        have qh23_239 : h23.1 66 67 = h22.1 66 67 := by rw [eh23]; rfl
        refine mm_iincL (ls2 := [mR 66, mU, mU, mI (x17_3 + 1)]) C (mm_dec dk_X12_anew 34 rfl) rfl (by decide) ⟨by omega, by omega⟩ rfl ?_
        refine mm_goto (tgt := 17) C (mm_dec dk_X12_anew 35 rfl) (by decide) ?_
        exact ih17 (x17_3 + 1) ⟨by omega, by omega⟩ h23 i23 f23 (by first | exact mm_al_nil (by omega) | (rw [show x17_3 + 1 - 1 = x17_3 by omega]; exact mm_al_sm (mm_al_put w17_0 eh20) (fun _ => ((mm_sm_pa 67 eh23 (by decide) _).trans ((mm_sm_pa 67 eh22 (by decide) _).trans (mm_sm_pa 67 eh21 (by decide) _)))))) (by first | exact mm_al_nil (by omega) | (rw [show x17_3 + 1 - 1 = x17_3 by omega]; exact mm_al_sm (mm_al_put (mm_al_sm w17_1 (fun _ => (mm_sm_pa 68 eh20 (by decide) _))) eh21) (fun _ => ((mm_sm_pa 68 eh23 (by decide) _).trans (mm_sm_pa 68 eh22 (by decide) _))))) (by first | exact mm_al_nil (by omega) | (rw [show x17_3 + 1 - 1 = x17_3 by omega]; exact mm_al_sm (mm_al_put (mm_al_sm w17_2 (fun _ => ((mm_sm_pa 70 eh21 (by decide) _).trans (mm_sm_pa 70 eh20 (by decide) _)))) eh22) (fun _ => (mm_sm_pa 70 eh23 (by decide) _)))) (by first | exact mm_al_nil (by omega) | (rw [show x17_3 + 1 - 1 = x17_3 by omega]; exact mm_al_sm (mm_al_put (mm_al_sm w17_3 (fun _ => ((mm_sm_pa 71 eh22 (by decide) _).trans ((mm_sm_pa 71 eh21 (by decide) _).trans (mm_sm_pa 71 eh20 (by decide) _))))) eh23) (fun _ => rfl))) (by omega) (by omega) (by omega) (by omega)
  refine mm_istore_nL (ls2 := [mR 66, mI p1, mI p2, mI 0]) C (mm_dec dk_X12_anew 10 rfl) (by decide) rfl ?_
  refine mm_fgt 1 ?_
  refine mm_fgt 2 ?_
  exact J17 (((400 - 0) : Int) + 1).toNat 0 ⟨by omega, by omega⟩ h3 i3 f3 (by first | exact mm_al_nil (by omega) | (rw [show x17_3 + 1 - 1 = x17_3 by omega]; exact mm_al_sm (mm_al_put w17_0 eh20) (fun _ => ((mm_sm_pa 67 eh23 (by decide) _).trans ((mm_sm_pa 67 eh22 (by decide) _).trans (mm_sm_pa 67 eh21 (by decide) _)))))) (by first | exact mm_al_nil (by omega) | (rw [show x17_3 + 1 - 1 = x17_3 by omega]; exact mm_al_sm (mm_al_put (mm_al_sm w17_1 (fun _ => (mm_sm_pa 68 eh20 (by decide) _))) eh21) (fun _ => ((mm_sm_pa 68 eh23 (by decide) _).trans (mm_sm_pa 68 eh22 (by decide) _))))) (by first | exact mm_al_nil (by omega) | (rw [show x17_3 + 1 - 1 = x17_3 by omega]; exact mm_al_sm (mm_al_put (mm_al_sm w17_2 (fun _ => ((mm_sm_pa 70 eh21 (by decide) _).trans (mm_sm_pa 70 eh20 (by decide) _)))) eh22) (fun _ => (mm_sm_pa 70 eh23 (by decide) _)))) (by first | exact mm_al_nil (by omega) | (rw [show x17_3 + 1 - 1 = x17_3 by omega]; exact mm_al_sm (mm_al_put (mm_al_sm w17_3 (fun _ => ((mm_sm_pa 71 eh22 (by decide) _).trans ((mm_sm_pa 71 eh21 (by decide) _).trans (mm_sm_pa 71 eh20 (by decide) _))))) eh23) (fun _ => rfl))) (by omega) (by omega) (by omega) (by omega)
set_option maxRecDepth 100000 in
set_option maxHeartbeats 4000000 in
theorem c_X12_anew_x (l : Launch) (hl : l.stackTraces = false) (d : Nat) (hd : 0 ≤ d) (h : mH) (i0 : mm_inv h) (p1 : Int) (p2 : Int) (bp1 : 1 ≤ p1 ∧ p1 ≤ 20) (bp2 : 1 ≤ p2 ∧ p2 ≤ 20) : mm_Met l d yX12_anew cX12_anew 4 none [mR 66, mI p1, mI p2] h (mm_pv fun h2 => mm_inv h2 ∧ mm_fr [(66, 1), (66, 2), (66, 3), (66, 9), (66, 10), (66, 11), (66, 12), (66, 19), (66, 21), (66, 22), (66, 23), (66, 24), (66, 40), (66, 41), (66, 58), (66, 67), (66, 82), (66, 95)] [67, 68, 69, 70, 71] h h2 ∧ h2.1 66 67 = 0) mm_nx 0 0 := by
  refine mm_ofW (ls := [mR 66, mI p1, mI p2, mU]) hl (by decide) rfl (Nat.le_of_ble_eq_true rfl) ?_
  intro x hxl C T hnm htb
  subst hxl
  refine mm_rng (fun hr _ => ?_)
  have ap1 : -2147483648 ≤ p1 ∧ p1 < 2147483648 := mm_ok_at hr (i := 1) rfl
  have ap2 : -2147483648 ≤ p2 ∧ p2 < 2147483648 := mm_ok_at hr (i := 2) rfl
  have f0 : mm_fr [(66, 1), (66, 2), (66, 3), (66, 9), (66, 10), (66, 11), (66, 12), (66, 19), (66, 21), (66, 22), (66, 23), (66, 24), (66, 40), (66, 41), (66, 58), (66, 67), (66, 82), (66, 95)] [67, 68, 69, 70, 71] h h := mm_fr_rf
  have g1 : 0 ≤ h.1 66 67 ∧ h.1 66 67 ≤ 1 := i0.1 66 67
  refine mm_aload_n C (mm_dec dk_X12_anew 0 rfl) rfl ?_
  refine mm_iload_n C (mm_dec dk_X12_anew 1 rfl) rfl ?_
  refine mm_puti C fl_X12_192 (mm_dec dk_X12_anew 2 rfl) rfl rfl rfl (Or.inl ⟨rfl, rfl⟩) ?_
  have i1 : mm_inv (mm_pf h 66 1 p1) := mm_inv_pf i0 (show 1 ≤ p1 ∧ p1 ≤ 20 from ⟨by omega, by omega⟩) (by decide)
  have f1 : mm_fr [(66, 1), (66, 2), (66, 3), (66, 9), (66, 10), (66, 11), (66, 12), (66, 19), (66, 21), (66, 22), (66, 23), (66, 24), (66, 40), (66, 41), (66, 58), (66, 67), (66, 82), (66, 95)] [67, 68, 69, 70, 71] h (mm_pf h 66 1 p1) := mm_fr_pf f0 (by decide)
  obtain ⟨h1, eh1⟩ : ∃ z, z = mm_pf h 66 1 p1 := ⟨_, rfl⟩
  rw [← eh1] at i1 f1 ⊢
  have qh1 : h1.1 66 1 = p1 := by rw [eh1]; exact mm_pf_same _ _ _ _
  have qh1_2 : h1.1 66 67 = h.1 66 67 := by rw [eh1]; exact mm_pf_ne _ _ (by decide)
  refine mm_aload_n C (mm_dec dk_X12_anew 3 rfl) rfl ?_
  refine mm_iload_n C (mm_dec dk_X12_anew 4 rfl) rfl ?_
  refine mm_puti C fl_X12_195 (mm_dec dk_X12_anew 5 rfl) rfl rfl rfl (Or.inl ⟨rfl, rfl⟩) ?_
  have i2 : mm_inv (mm_pf h1 66 2 p2) := mm_inv_pf i1 (show 1 ≤ p2 ∧ p2 ≤ 20 from ⟨by omega, by omega⟩) (by decide)
  have f2 : mm_fr [(66, 1), (66, 2), (66, 3), (66, 9), (66, 10), (66, 11), (66, 12), (66, 19), (66, 21), (66, 22), (66, 23), (66, 24), (66, 40), (66, 41), (66, 58), (66, 67), (66, 82), (66, 95)] [67, 68, 69, 70, 71] h (mm_pf h1 66 2 p2) := mm_fr_pf f1 (by decide)
  obtain ⟨h2, eh2⟩ : ∃ z, z = mm_pf h1 66 2 p2 := ⟨_, rfl⟩
  rw [← eh2] at i2 f2 ⊢
  have qh2 : h2.1 66 2 = p2 := by rw [eh2]; exact mm_pf_same _ _ _ _
  have qh2_3 : h2.1 66 1 = h1.1 66 1 := by rw [eh2]; exact mm_pf_ne _ _ (by decide)
  have qh2_4 : h2.1 66 67 = h1.1 66 67 := by rw [eh2]; exact mm_pf_ne _ _ (by decide)
  refine mm_aload_n C (mm_dec dk_X12_anew 6 rfl) rfl ?_
  refine mm_iconst C (mm_dec dk_X12_anew 7 rfl) ⟨by decide, by decide⟩ ?_
  refine mm_puti C fl_X12_198 (mm_dec dk_X12_anew 8 rfl) rfl rfl rfl (Or.inl ⟨rfl, rfl⟩) ?_
  have i3 : mm_inv (mm_pf h2 66 3 2) := mm_inv_pf i2 (show 0 ≤ 2 ∧ 2 ≤ 9 from ⟨by omega, by omega⟩) (by decide)
  have f3 : mm_fr [(66, 1), (66, 2), (66, 3), (66, 9), (66, 10), (66, 11), (66, 12), (66, 19), (66, 21), (66, 22), (66, 23), (66, 24), (66, 40), (66, 41), (66, 58), (66, 67), (66, 82), (66, 95)] [67, 68, 69, 70, 71] h (mm_pf h2 66 3 2) := mm_fr_pf f2 (by decide)
  obtain ⟨h3, eh3⟩ : ∃ z, z = mm_pf h2 66 3 2 := ⟨_, rfl⟩
  rw [← eh3] at i3 f3 ⊢
  have qh3 : h3.1 66 3 = 2 := by rw [eh3]; exact mm_pf_same _ _ _ _
  have qh3_5 : h3.1 66 1 = h2.1 66 1 := by rw [eh3]; exact mm_pf_ne _ _ (by decide)
  have qh3_6 : h3.1 66 2 = h2.1 66 2 := by rw [eh3]; exact mm_pf_ne _ _ (by decide)
  have qh3_7 : h3.1 66 67 = h2.1 66 67 := by rw [eh3]; exact mm_pf_ne _ _ (by decide)
  refine mm_iconst C (mm_dec dk_X12_anew 9 rfl) ⟨by decide, by decide⟩ ?_
  have J17 : ∀ (n : Nat) (x17_3 : Int) (bx17_3 : 0 ≤ x17_3 ∧ x17_3 ≤ 400) (h17_ : mH) (i17_ : mm_inv h17_) (f17_ : mm_fr [(66, 1), (66, 2), (66, 3), (66, 9), (66, 10), (66, 11), (66, 12), (66, 19), (66, 21), (66, 22), (66, 23), (66, 24), (66, 40), (66, 41), (66, 58), (66, 67), (66, 82), (66, 95)] [67, 68, 69, 70, 71] h h17_), (400 - x17_3 : Int) < n → mm_W x 0 0 17 [mR 66, mU, mU, mI x17_3] [] h17_ := by
    intro n
    induction n with
    | zero =>
      intro x17_3 bx17_3 h17_ i17_ f17_ hm
      have g8 : 0 ≤ h17_.1 66 67 ∧ h17_.1 66 67 ≤ 1 := i17_.1 66 67
      exfalso; omega
    | succ n ih17 =>
      intro x17_3 bx17_3 h17_ i17_ f17_ hm17
      have g9 : 0 ≤ h17_.1 66 67 ∧ h17_.1 66 67 ≤ 1 := i17_.1 66 67
      refine mm_iload_n C (mm_dec dk_X12_anew 11 rfl) rfl ?_
      refine mm_sipush C (mm_dec dk_X12_anew 12 rfl) ⟨by decide, by decide⟩ ?_
      refine mm_icmp_ge (tgt := 58) C (mm_dec dk_X12_anew 13 rfl) (by decide) (fun c21 => ?_) (fun c21 => ?_)
      · skip
        refine mm_iconst C (mm_dec dk_X12_anew 36 rfl) ⟨by decide, by decide⟩ ?_
        have J60 : ∀ (n : Nat) (x60_3 : Int) (bx60_3 : 0 ≤ x60_3 ∧ x60_3 ≤ 8) (h60_ : mH) (i60_ : mm_inv h60_) (f60_ : mm_fr [(66, 1), (66, 2), (66, 3), (66, 9), (66, 10), (66, 11), (66, 12), (66, 19), (66, 21), (66, 22), (66, 23), (66, 24), (66, 40), (66, 41), (66, 58), (66, 67), (66, 82), (66, 95)] [67, 68, 69, 70, 71] h h60_), (8 - x60_3 : Int) < n → mm_W x 0 0 60 [mR 66, mU, mU, mI x60_3] [] h60_ := by
          intro n
          induction n with
          | zero =>
            intro x60_3 bx60_3 h60_ i60_ f60_ hm
            have g10 : 0 ≤ h60_.1 66 67 ∧ h60_.1 66 67 ≤ 1 := i60_.1 66 67
            exfalso; omega
          | succ n ih60 =>
            intro x60_3 bx60_3 h60_ i60_ f60_ hm60
            have g11 : 0 ≤ h60_.1 66 67 ∧ h60_.1 66 67 ≤ 1 := i60_.1 66 67
            refine mm_iload_n C (mm_dec dk_X12_anew 38 rfl) rfl ?_
            refine mm_bipush C (mm_dec dk_X12_anew 39 rfl) ⟨by decide, by decide⟩ ?_
            refine mm_icmp_ge (tgt := 79) C (mm_dec dk_X12_anew 40 rfl) (by decide) (fun c63 => ?_) (fun c63 => ?_)
            · skip
              refine mm_aload_n C (mm_dec dk_X12_anew 48 rfl) rfl ?_
              refine mm_iconst C (mm_dec dk_X12_anew 49 rfl) ⟨by decide, by decide⟩ ?_
              refine mm_puti C fl_X12_201 (mm_dec dk_X12_anew 50 rfl) rfl rfl rfl (Or.inl ⟨rfl, rfl⟩) ?_
              have i4 : mm_inv (mm_pf h60_ 66 9 0) := mm_inv_pf i60_ (show 0 ≤ 0 ∧ 0 ≤ 19 from ⟨by omega, by omega⟩) (by decide)
              have f4 : mm_fr [(66, 1), (66, 2), (66, 3), (66, 9), (66, 10), (66, 11), (66, 12), (66, 19), (66, 21), (66, 22), (66, 23), (66, 24), (66, 40), (66, 41), (66, 58), (66, 67), (66, 82), (66, 95)] [67, 68, 69, 70, 71] h (mm_pf h60_ 66 9 0) := mm_fr_pf f60_ (by decide)
              obtain ⟨h4, eh4⟩ : ∃ z, z = mm_pf h60_ 66 9 0 := ⟨_, rfl⟩
              rw [← eh4] at i4 f4 ⊢
              have qh4 : h4.1 66 9 = 0 := by rw [eh4]; exact mm_pf_same _ _ _ _
              have qh4_12 : h4.1 66 67 = h60_.1 66 67 := by rw [eh4]; exact mm_pf_ne _ _ (by decide)
              refine mm_aload_n C (mm_dec dk_X12_anew 51 rfl) rfl ?_
              refine mm_iconst C (mm_dec dk_X12_anew 52 rfl) ⟨by decide, by decide⟩ ?_
              refine mm_puti C fl_X12_204 (mm_dec dk_X12_anew 53 rfl) rfl rfl rfl (Or.inl ⟨rfl, rfl⟩) ?_
              have i5 : mm_inv (mm_pf h4 66 10 0) := mm_inv_pf i4 (show 0 ≤ 0 ∧ 0 ≤ 19 from ⟨by omega, by omega⟩) (by decide)
              have f5 : mm_fr [(66, 1), (66, 2), (66, 3), (66, 9), (66, 10), (66, 11), (66, 12), (66, 19), (66, 21), (66, 22), (66, 23), (66, 24), (66, 40), (66, 41), (66, 58), (66, 67), (66, 82), (66, 95)] [67, 68, 69, 70, 71] h (mm_pf h4 66 10 0) := mm_fr_pf f4 (by decide)
              obtain ⟨h5, eh5⟩ : ∃ z, z = mm_pf h4 66 10 0 := ⟨_, rfl⟩
              rw [← eh5] at i5 f5 ⊢
              have qh5 : h5.1 66 10 = 0 := by rw [eh5]; exact mm_pf_same _ _ _ _
              have qh5_13 : h5.1 66 9 = h4.1 66 9 := by rw [eh5]; exact mm_pf_ne _ _ (by decide)
              have qh5_14 : h5.1 66 67 = h4.1 66 67 := by rw [eh5]; exact mm_pf_ne _ _ (by decide)
              refine mm_aload_n C (mm_dec dk_X12_anew 54 rfl) rfl ?_
              refine mm_iconst C (mm_dec dk_X12_anew 55 rfl) ⟨by decide, by decide⟩ ?_
              refine mm_puti C fl_X12_207 (mm_dec dk_X12_anew 56 rfl) rfl rfl rfl (Or.inl ⟨rfl, rfl⟩) ?_
              have i6 : mm_inv (mm_pf h5 66 11 0) := mm_inv_pf i5 (show 0 ≤ 0 ∧ 0 ≤ 19 from ⟨by omega, by omega⟩) (by decide)
              have f6 : mm_fr [(66, 1), (66, 2), (66, 3), (66, 9), (66, 10), (66, 11), (66, 12), (66, 19), (66, 21), (66, 22), (66, 23), (66, 24), (66, 40), (66, 41), (66, 58), (66, 67), (66, 82), (66, 95)] [67, 68, 69, 70, 71] h (mm_pf h5 66 11 0) := mm_fr_pf f5 (by decide)
              obtain ⟨h6, eh6⟩ : ∃ z, z = mm_pf h5 66 11 0 := ⟨_, rfl⟩
              rw [← eh6] at i6 f6 ⊢
              have qh6 : h6.1 66 11 = 0 := by rw [eh6]; exact mm_pf_same _ _ _ _
              have qh6_15 : h6.1 66 9 = h5.1 66 9 := by rw [eh6]; exact mm_pf_ne _ _ (by decide)
              have qh6_16 : h6.1 66 10 = h5.1 66 10 := by rw [eh6]; exact mm_pf_ne _ _ (by decide)
              have qh6_17 : h6.1 66 67 = h5.1 66 67 := by rw [eh6]; exact mm_pf_ne _ _ (by decide)
              refine mm_aload_n C (mm_dec dk_X12_anew 57 rfl) rfl ?_
              refine mm_iconst C (mm_dec dk_X12_anew 58 rfl) ⟨by decide, by decide⟩ ?_
              refine mm_puti C fl_X12_210 (mm_dec dk_X12_anew 59 rfl) rfl rfl rfl (Or.inl ⟨rfl, rfl⟩) ?_
              have i7 : mm_inv (mm_pf h6 66 12 0) := mm_inv_pf i6 (show 0 ≤ 0 ∧ 0 ≤ 19 from ⟨by omega, by omega⟩) (by decide)
              have f7 : mm_fr [(66, 1), (66, 2), (66, 3), (66, 9), (66, 10), (66, 11), (66, 12), (66, 19), (66, 21), (66, 22), (66, 23), (66, 24), (66, 40), (66, 41), (66, 58), (66, 67), (66, 82), (66, 95)] [67, 68, 69, 70, 71] h (mm_pf h6 66 12 0) := mm_fr_pf f6 (by decide)
              obtain ⟨h7, eh7⟩ : ∃ z, z = mm_pf h6 66 12 0 := ⟨_, rfl⟩
              rw [← eh7] at i7 f7 ⊢
              have qh7 : h7.1 66 12 = 0 := by rw [eh7]; exact mm_pf_same _ _ _ _
              have qh7_18 : h7.1 66 9 = h6.1 66 9 := by rw [eh7]; exact mm_pf_ne _ _ (by decide)
              have qh7_19 : h7.1 66 10 = h6.1 66 10 := by rw [eh7]; exact mm_pf_ne _ _ (by decide)
              have qh7_20 : h7.1 66 11 = h6.1 66 11 := by rw [eh7]; exact mm_pf_ne _ _ (by decide)
              have qh7_21 : h7.1 66 67 = h6.1 66 67 := by rw [eh7]; exact mm_pf_ne _ _ (by decide)
              refine mm_aload_n C (mm_dec dk_X12_anew 60 rfl) rfl ?_
              refine mm_iconst C (mm_dec dk_X12_anew 61 rfl) ⟨by decide, by decide⟩ ?_
              refine mm_puti C fl_X12_213 (mm_dec dk_X12_anew 62 rfl) rfl rfl rfl (Or.inl ⟨rfl, rfl⟩) ?_
              have i8 : mm_inv (mm_pf h7 66 19 (-1)) := mm_inv_pf i7 (show -1 ≤ (-1) ∧ (-1) ≤ 400 from ⟨by omega, by omega⟩) (by decide)
              have f8 : mm_fr [(66, 1), (66, 2), (66, 3), (66, 9), (66, 10), (66, 11), (66, 12), (66, 19), (66, 21), (66, 22), (66, 23), (66, 24), (66, 40), (66, 41), (66, 58), (66, 67), (66, 82), (66, 95)] [67, 68, 69, 70, 71] h (mm_pf h7 66 19 (-1)) := mm_fr_pf f7 (by decide)
              obtain ⟨h8, eh8⟩ : ∃ z, z = mm_pf h7 66 19 (-1) := ⟨_, rfl⟩
              rw [← eh8] at i8 f8 ⊢
              have qh8 : h8.1 66 19 = (-1) := by rw [eh8]; exact mm_pf_same _ _ _ _
              have qh8_22 : h8.1 66 9 = h7.1 66 9 := by rw [eh8]; exact mm_pf_ne _ _ (by decide)
              have qh8_23 : h8.1 66 10 = h7.1 66 10 := by rw [eh8]; exact mm_pf_ne _ _ (by decide)
              have qh8_24 : h8.1 66 11 = h7.1 66 11 := by rw [eh8]; exact mm_pf_ne _ _ (by decide)
              have qh8_25 : h8.1 66 12 = h7.1 66 12 := by rw [eh8]; exact mm_pf_ne _ _ (by decide)
              have qh8_26 : h8.1 66 67 = h7.1 66 67 := by rw [eh8]; exact mm_pf_ne _ _ (by decide)
              refine mm_aload_n C (mm_dec dk_X12_anew 63 rfl) rfl ?_
              refine mm_iconst C (mm_dec dk_X12_anew 64 rfl) ⟨by decide, by decide⟩ ?_
              refine mm_puti C fl_X12_216 (mm_dec dk_X12_anew 65 rfl) rfl rfl rfl (Or.inl ⟨rfl, rfl⟩) ?_
              have i9 : mm_inv (mm_pf h8 66 21 0) := mm_inv_pf i8 (show 0 ≤ 0 ∧ 0 ≤ 20 from ⟨by omega, by omega⟩) (by decide)
              have f9 : mm_fr [(66, 1), (66, 2), (66, 3), (66, 9), (66, 10), (66, 11), (66, 12), (66, 19), (66, 21), (66, 22), (66, 23), (66, 24), (66, 40), (66, 41), (66, 58), (66, 67), (66, 82), (66, 95)] [67, 68, 69, 70, 71] h (mm_pf h8 66 21 0) := mm_fr_pf f8 (by decide)
              obtain ⟨h9, eh9⟩ : ∃ z, z = mm_pf h8 66 21 0 := ⟨_, rfl⟩
              rw [← eh9] at i9 f9 ⊢
              have qh9 : h9.1 66 21 = 0 := by rw [eh9]; exact mm_pf_same _ _ _ _
              have qh9_27 : h9.1 66 9 = h8.1 66 9 := by rw [eh9]; exact mm_pf_ne _ _ (by decide)
              have qh9_28 : h9.1 66 10 = h8.1 66 10 := by rw [eh9]; exact mm_pf_ne _ _ (by decide)
              have qh9_29 : h9.1 66 11 = h8.1 66 11 := by rw [eh9]; exact mm_pf_ne _ _ (by decide)
              have qh9_30 : h9.1 66 12 = h8.1 66 12 := by rw [eh9]; exact mm_pf_ne _ _ (by decide)
              have qh9_31 : h9.1 66 19 = h8.1 66 19 := by rw [eh9]; exact mm_pf_ne _ _ (by decide)
              have qh9_32 : h9.1 66 67 = h8.1 66 67 := by rw [eh9]; exact mm_pf_ne _ _ (by decide)
              refine mm_aload_n C (mm_dec dk_X12_anew 66 rfl) rfl ?_
              refine mm_iconst C (mm_dec dk_X12_anew 67 rfl) ⟨by decide, by decide⟩ ?_
              refine mm_puti C fl_X12_219 (mm_dec dk_X12_anew 68 rfl) rfl rfl rfl (Or.inl ⟨rfl, rfl⟩) ?_
              have i10 : mm_inv (mm_pf h9 66 22 0) := mm_inv_pf i9 (show 0 ≤ 0 ∧ 0 ≤ 8 from ⟨by omega, by omega⟩) (by decide)
              have f10 : mm_fr [(66, 1), (66, 2), (66, 3), (66, 9), (66, 10), (66, 11), (66, 12), (66, 19), (66, 21), (66, 22), (66, 23), (66, 24), (66, 40), (66, 41), (66, 58), (66, 67), (66, 82), (66, 95)] [67, 68, 69, 70, 71] h (mm_pf h9 66 22 0) := mm_fr_pf f9 (by decide)
              obtain ⟨h10, eh10⟩ : ∃ z, z = mm_pf h9 66 22 0 := ⟨_, rfl⟩
              rw [← eh10] at i10 f10 ⊢
              have qh10 : h10.1 66 22 = 0 := by rw [eh10]; exact mm_pf_same _ _ _ _
              have qh10_33 : h10.1 66 9 = h9.1 66 9 := by rw [eh10]; exact mm_pf_ne _ _ (by decide)
              have qh10_34 : h10.1 66 10 = h9.1 66 10 := by rw [eh10]; exact mm_pf_ne _ _ (by decide)
              have qh10_35 : h10.1 66 11 = h9.1 66 11 := by rw [eh10]; exact mm_pf_ne _ _ (by decide)
              have qh10_36 : h10.1 66 12 = h9.1 66 12 := by rw [eh10]; exact mm_pf_ne _ _ (by decide)
              have qh10_37 : h10.1 66 19 = h9.1 66 19 := by rw [eh10]; exact mm_pf_ne _ _ (by decide)
              have qh10_38 : h10.1 66 21 = h9.1 66 21 := by rw [eh10]; exact mm_pf_ne _ _ (by decide)
              have qh10_39 : h10.1 66 67 = h9.1 66 67 := by rw [eh10]; exact mm_pf_ne _ _ (by decide)
              refine mm_aload_n C (mm_dec dk_X12_anew 69 rfl) rfl ?_
              refine mm_iconst C (mm_dec dk_X12_anew 70 rfl) ⟨by decide, by decide⟩ ?_
              refine mm_puti C fl_X12_222 (mm_dec dk_X12_anew 71 rfl) rfl rfl rfl (Or.inl ⟨rfl, rfl⟩) ?_
              have i11 : mm_inv (mm_pf h10 66 23 0) := mm_inv_pf i10 (show 0 ≤ 0 ∧ 0 ≤ 40 from ⟨by omega, by omega⟩) (by decide)
              have f11 : mm_fr [(66, 1), (66, 2), (66, 3), (66, 9), (66, 10), (66, 11), (66, 12), (66, 19), (66, 21), (66, 22), (66, 23), (66, 24), (66, 40), (66, 41), (66, 58), (66, 67), (66, 82), (66, 95)] [67, 68, 69, 70, 71] h (mm_pf h10 66 23 0) := mm_fr_pf f10 (by decide)
              obtain ⟨h11, eh11⟩ : ∃ z, z = mm_pf h10 66 23 0 := ⟨_, rfl⟩
              rw [← eh11] at i11 f11 ⊢
              have qh11 : h11.1 66 23 = 0 := by rw [eh11]; exact mm_pf_same _ _ _ _
              have qh11_40 : h11.1 66 9 = h10.1 66 9 := by rw [eh11]; exact mm_pf_ne _ _ (by decide)
              have qh11_41 : h11.1 66 10 = h10.1 66 10 := by rw [eh11]; exact mm_pf_ne _ _ (by decide)
              have qh11_42 : h11.1 66 11 = h10.1 66 11 := by rw [eh11]; exact mm_pf_ne _ _ (by decide)
              have qh11_43 : h11.1 66 12 = h10.1 66 12 := by rw [eh11]; exact mm_pf_ne _ _ (by decide)
              have qh11_44 : h11.1 66 19 = h10.1 66 19 := by rw [eh11]; exact mm_pf_ne _ _ (by decide)
              have qh11_45 : h11.1 66 21 = h10.1 66 21 := by rw [eh11]; exact mm_pf_ne _ _ (by decide)
              have qh11_46 : h11.1 66 22 = h10.1 66 22 := by rw [eh11]; exact mm_pf_ne _ _ (by decide)
              have qh11_47 : h11.1 66 67 = h10.1 66 67 := by rw [eh11]; exact mm_pf_ne _ _ (by decide)
              refine mm_aload_n C (mm_dec dk_X12_anew 72 rfl) rfl ?_
              refine mm_iconst C (mm_dec dk_X12_anew 73 rfl) ⟨by decide, by decide⟩ ?_
              refine mm_puti C fl_X12_225 (mm_dec dk_X12_anew 74 rfl) rfl rfl rfl (Or.inl ⟨rfl, rfl⟩) ?_
              have i12 : mm_inv (mm_pf h11 66 24 0) := mm_inv_pf i11 (show 0 ≤ 0 ∧ 0 ≤ 10 from ⟨by omega, by omega⟩) (by decide)
              have f12 : mm_fr [(66, 1), (66, 2), (66, 3), (66, 9), (66, 10), (66, 11), (66, 12), (66, 19), (66, 21), (66, 22), (66, 23), (66, 24), (66, 40), (66, 41), (66, 58), (66, 67), (66, 82), (66, 95)] [67, 68, 69, 70, 71] h (mm_pf h11 66 24 0) := mm_fr_pf f11 (by decide)
              obtain ⟨h12, eh12⟩ : ∃ z, z = mm_pf h11 66 24 0 := ⟨_, rfl⟩
              rw [← eh12] at i12 f12 ⊢
              have qh12 : h12.1 66 24 = 0 := by rw [eh12]; exact mm_pf_same _ _ _ _
              have qh12_48 : h12.1 66 9 = h11.1 66 9 := by rw [eh12]; exact mm_pf_ne _ _ (by decide)
              have qh12_49 : h12.1 66 10 = h11.1 66 10 := by rw [eh12]; exact mm_pf_ne _ _ (by decide)
              have qh12_50 : h12.1 66 11 = h11.1 66 11 := by rw [eh12]; exact mm_pf_ne _ _ (by decide)
              have qh12_51 : h12.1 66 12 = h11.1 66 12 := by rw [eh12]; exact mm_pf_ne _ _ (by decide)
              have qh12_52 : h12.1 66 19 = h11.1 66 19 := by rw [eh12]; exact mm_pf_ne _ _ (by decide)
              have qh12_53 : h12.1 66 21 = h11.1 66 21 := by rw [eh12]; exact mm_pf_ne _ _ (by decide)
              have qh12_54 : h12.1 66 22 = h11.1 66 22 := by rw [eh12]; exact mm_pf_ne _ _ (by decide)
              have qh12_55 : h12.1 66 23 = h11.1 66 23 := by rw [eh12]; exact mm_pf_ne _ _ (by decide)
              have qh12_56 : h12.1 66 67 = h11.1 66 67 := by rw [eh12]; exact mm_pf_ne _ _ (by decide)
              refine mm_aload_n C (mm_dec dk_X12_anew 75 rfl) rfl ?_
              refine mm_iconst C (mm_dec dk_X12_anew 76 rfl) ⟨by decide, by decide⟩ ?_
              refine mm_puti C fl_X12_228 (mm_dec dk_X12_anew 77 rfl) rfl rfl rfl (Or.inl ⟨rfl, rfl⟩) ?_
              have i13 : mm_inv (mm_pf h12 66 40 0) := mm_inv_pf i12 (show 0 ≤ 0 ∧ 0 ≤ 500 from ⟨by omega, by omega⟩) (by decide)
              have f13 : mm_fr [(66, 1), (66, 2), (66, 3), (66, 9), (66, 10), (66, 11), (66, 12), (66, 19), (66, 21), (66, 22), (66, 23), (66, 24), (66, 40), (66, 41), (66, 58), (66, 67), (66, 82), (66, 95)] [67, 68, 69, 70, 71] h (mm_pf h12 66 40 0) := mm_fr_pf f12 (by decide)
              obtain ⟨h13, eh13⟩ : ∃ z, z = mm_pf h12 66 40 0 := ⟨_, rfl⟩
              rw [← eh13] at i13 f13 ⊢
              have qh13 : h13.1 66 40 = 0 := by rw [eh13]; exact mm_pf_same _ _ _ _
              have qh13_57 : h13.1 66 9 = h12.1 66 9 := by rw [eh13]; exact mm_pf_ne _ _ (by decide)
              have qh13_58 : h13.1 66 10 = h12.1 66 10 := by rw [eh13]; exact mm_pf_ne _ _ (by decide)
              have qh13_59 : h13.1 66 11 = h12.1 66 11 := by rw [eh13]; exact mm_pf_ne _ _ (by decide)
              have qh13_60 : h13.1 66 12 = h12.1 66 12 := by rw [eh13]; exact mm_pf_ne _ _ (by decide)
              have qh13_61 : h13.1 66 19 = h12.1 66 19 := by rw [eh13]; exact mm_pf_ne _ _ (by decide)
              have qh13_62 : h13.1 66 21 = h12.1 66 21 := by rw [eh13]; exact mm_pf_ne _ _ (by decide)
              have qh13_63 : h13.1 66 22 = h12.1 66 22 := by rw [eh13]; exact mm_pf_ne _ _ (by decide)
              have qh13_64 : h13.1 66 23 = h12.1 66 23 := by rw [eh13]; exact mm_pf_ne _ _ (by decide)
              have qh13_65 : h13.1 66 24 = h12.1 66 24 := by rw [eh13]; exact mm_pf_ne _ _ (by decide)
              have qh13_66 : h13.1 66 67 = h12.1 66 67 := by rw [eh13]; exact mm_pf_ne _ _ (by decide)
              refine mm_aload_n C (mm_dec dk_X12_anew 78 rfl) rfl ?_
              refine mm_iconst C (mm_dec dk_X12_anew 79 rfl) ⟨by decide, by decide⟩ ?_
              refine mm_puti C fl_X12_231 (mm_dec dk_X12_anew 80 rfl) rfl rfl rfl (Or.inl ⟨rfl, rfl⟩) ?_
              have i14 : mm_inv (mm_pf h13 66 82 0) := mm_inv_pf i13 (show 0 ≤ 0 ∧ 0 ≤ 40 from ⟨by omega, by omega⟩) (by decide)
              have f14 : mm_fr [(66, 1), (66, 2), (66, 3), (66, 9), (66, 10), (66, 11), (66, 12), (66, 19), (66, 21), (66, 22), (66, 23), (66, 24), (66, 40), (66, 41), (66, 58), (66, 67), (66, 82), (66, 95)] [67, 68, 69, 70, 71] h (mm_pf h13 66 82 0) := mm_fr_pf f13 (by decide)
              obtain ⟨h14, eh14⟩ : ∃ z, z = mm_pf h13 66 82 0 := ⟨_, rfl⟩
              rw [← eh14] at i14 f14 ⊢
              have qh14 : h14.1 66 82 = 0 := by rw [eh14]; exact mm_pf_same _ _ _ _
              have qh14_67 : h14.1 66 9 = h13.1 66 9 := by rw [eh14]; exact mm_pf_ne _ _ (by decide)
              have qh14_68 : h14.1 66 10 = h13.1 66 10 := by rw [eh14]; exact mm_pf_ne _ _ (by decide)
              have qh14_69 : h14.1 66 11 = h13.1 66 11 := by rw [eh14]; exact mm_pf_ne _ _ (by decide)
              have qh14_70 : h14.1 66 12 = h13.1 66 12 := by rw [eh14]; exact mm_pf_ne _ _ (by decide)
              have qh14_71 : h14.1 66 19 = h13.1 66 19 := by rw [eh14]; exact mm_pf_ne _ _ (by decide)
              have qh14_72 : h14.1 66 21 = h13.1 66 21 := by rw [eh14]; exact mm_pf_ne _ _ (by decide)
              have qh14_73 : h14.1 66 22 = h13.1 66 22 := by rw [eh14]; exact mm_pf_ne _ _ (by decide)
              have qh14_74 : h14.1 66 23 = h13.1 66 23 := by rw [eh14]; exact mm_pf_ne _ _ (by decide)
              have qh14_75 : h14.1 66 24 = h13.1 66 24 := by rw [eh14]; exact mm_pf_ne _ _ (by decide)
              have qh14_76 : h14.1 66 40 = h13.1 66 40 := by rw [eh14]; exact mm_pf_ne _ _ (by decide)
              have qh14_77 : h14.1 66 67 = h13.1 66 67 := by rw [eh14]; exact mm_pf_ne _ _ (by decide)
              refine mm_aload_n C (mm_dec dk_X12_anew 81 rfl) rfl ?_
              refine mm_iconst C (mm_dec dk_X12_anew 82 rfl) ⟨by decide, by decide⟩ ?_
              refine mm_puti C fl_X12_234 (mm_dec dk_X12_anew 83 rfl) rfl rfl rfl (Or.inl ⟨rfl, rfl⟩) ?_
              have i15 : mm_inv (mm_pf h14 66 41 0) := mm_inv_pf i14 (show 0 ≤ 0 ∧ 0 ≤ 99999 from ⟨by omega, by omega⟩) (by decide)
              have f15 : mm_fr [(66, 1), (66, 2), (66, 3), (66, 9), (66, 10), (66, 11), (66, 12), (66, 19), (66, 21), (66, 22), (66, 23), (66, 24), (66, 40), (66, 41), (66, 58), (66, 67), (66, 82), (66, 95)] [67, 68, 69, 70, 71] h (mm_pf h14 66 41 0) := mm_fr_pf f14 (by decide)
              obtain ⟨h15, eh15⟩ : ∃ z, z = mm_pf h14 66 41 0 := ⟨_, rfl⟩
              rw [← eh15] at i15 f15 ⊢
              have qh15 : h15.1 66 41 = 0 := by rw [eh15]; exact mm_pf_same _ _ _ _
              have qh15_78 : h15.1 66 9 = h14.1 66 9 := by rw [eh15]; exact mm_pf_ne _ _ (by decide)
              have qh15_79 : h15.1 66 10 = h14.1 66 10 := by rw [eh15]; exact mm_pf_ne _ _ (by decide)
              have qh15_80 : h15.1 66 11 = h14.1 66 11 := by rw [eh15]; exact mm_pf_ne _ _ (by decide)
              have qh15_81 : h15.1 66 12 = h14.1 66 12 := by rw [eh15]; exact mm_pf_ne _ _ (by decide)
              have qh15_82 : h15.1 66 19 = h14.1 66 19 := by rw [eh15]; exact mm_pf_ne _ _ (by decide)
              have qh15_83 : h15.1 66 21 = h14.1 66 21 := by rw [eh15]; exact mm_pf_ne _ _ (by decide)
              have qh15_84 : h15.1 66 22 = h14.1 66 22 := by rw [eh15]; exact mm_pf_ne _ _ (by decide)
              have qh15_85 : h15.1 66 23 = h14.1 66 23 := by rw [eh15]; exact mm_pf_ne _ _ (by decide)
              have qh15_86 : h15.1 66 24 = h14.1 66 24 := by rw [eh15]; exact mm_pf_ne _ _ (by decide)
              have qh15_87 : h15.1 66 40 = h14.1 66 40 := by rw [eh15]; exact mm_pf_ne _ _ (by decide)
              have qh15_88 : h15.1 66 67 = h14.1 66 67 := by rw [eh15]; exact mm_pf_ne _ _ (by decide)
              have qh15_89 : h15.1 66 82 = h14.1 66 82 := by rw [eh15]; exact mm_pf_ne _ _ (by decide)
              refine mm_aload_n C (mm_dec dk_X12_anew 84 rfl) rfl ?_
              refine mm_iconst C (mm_dec dk_X12_anew 85 rfl) ⟨by decide, by decide⟩ ?_
              refine mm_puti C fl_X12_237 (mm_dec dk_X12_anew 86 rfl) rfl rfl rfl (Or.inl ⟨rfl, rfl⟩) ?_
              have i16 : mm_inv (mm_pf h15 66 58 (-1)) := mm_inv_pf i15 (show -2147483648 ≤ (-1) ∧ (-1) ≤ 2147483647 from ⟨by omega, by omega⟩) (by decide)
              have f16 : mm_fr [(66, 1), (66, 2), (66, 3), (66, 9), (66, 10), (66, 11), (66, 12), (66, 19), (66, 21), (66, 22), (66, 23), (66, 24), (66, 40), (66, 41), (66, 58), (66, 67), (66, 82), (66, 95)] [67, 68, 69, 70, 71] h (mm_pf h15 66 58 (-1)) := mm_fr_pf f15 (by decide)
              obtain ⟨h16, eh16⟩ : ∃ z, z = mm_pf h15 66 58 (-1) := ⟨_, rfl⟩
              rw [← eh16] at i16 f16 ⊢
              have qh16 : h16.1 66 58 = (-1) := by rw [eh16]; exact mm_pf_same _ _ _ _
              have qh16_90 : h16.1 66 9 = h15.1 66 9 := by rw [eh16]; exact mm_pf_ne _ _ (by decide)
              have qh16_91 : h16.1 66 10 = h15.1 66 10 := by rw [eh16]; exact mm_pf_ne _ _ (by decide)
              have qh16_92 : h16.1 66 11 = h15.1 66 11 := by rw [eh16]; exact mm_pf_ne _ _ (by decide)
              have qh16_93 : h16.1 66 12 = h15.1 66 12 := by rw [eh16]; exact mm_pf_ne _ _ (by decide)
              have qh16_94 : h16.1 66 19 = h15.1 66 19 := by rw [eh16]; exact mm_pf_ne _ _ (by decide)
              have qh16_95 : h16.1 66 21 = h15.1 66 21 := by rw [eh16]; exact mm_pf_ne _ _ (by decide)
              have qh16_96 : h16.1 66 22 = h15.1 66 22 := by rw [eh16]; exact mm_pf_ne _ _ (by decide)
              have qh16_97 : h16.1 66 23 = h15.1 66 23 := by rw [eh16]; exact mm_pf_ne _ _ (by decide)
              have qh16_98 : h16.1 66 24 = h15.1 66 24 := by rw [eh16]; exact mm_pf_ne _ _ (by decide)
              have qh16_99 : h16.1 66 40 = h15.1 66 40 := by rw [eh16]; exact mm_pf_ne _ _ (by decide)
              have qh16_100 : h16.1 66 41 = h15.1 66 41 := by rw [eh16]; exact mm_pf_ne _ _ (by decide)
              have qh16_101 : h16.1 66 67 = h15.1 66 67 := by rw [eh16]; exact mm_pf_ne _ _ (by decide)
              have qh16_102 : h16.1 66 82 = h15.1 66 82 := by rw [eh16]; exact mm_pf_ne _ _ (by decide)
              refine mm_aload_n C (mm_dec dk_X12_anew 87 rfl) rfl ?_
              refine mm_iconst C (mm_dec dk_X12_anew 88 rfl) ⟨by decide, by decide⟩ ?_
              refine mm_puti C fl_X12_240 (mm_dec dk_X12_anew 89 rfl) rfl rfl rfl (Or.inr ⟨rfl, rfl, by omega⟩) ?_
              have i17 : mm_inv (mm_pf h16 66 67 0) := mm_inv_pf i16 (show 0 ≤ 0 ∧ 0 ≤ 1 from ⟨by omega, by omega⟩) (by decide)
              have f17 : mm_fr [(66, 1), (66, 2), (66, 3), (66, 9), (66, 10), (66, 11), (66, 12), (66, 19), (66, 21), (66, 22), (66, 23), (66, 24), (66, 40), (66, 41), (66, 58), (66, 67), (66, 82), (66, 95)] [67, 68, 69, 70, 71] h (mm_pf h16 66 67 0) := mm_fr_pf f16 (by decide)
              obtain ⟨h17, eh17⟩ : ∃ z, z = mm_pf h16 66 67 0 := ⟨_, rfl⟩
              rw [← eh17] at i17 f17 ⊢
              have qh17 : h17.1 66 67 = 0 := by rw [eh17]; exact mm_pf_same _ _ _ _
              have qh17_103 : h17.1 66 9 = h16.1 66 9 := by rw [eh17]; exact mm_pf_ne _ _ (by decide)
              have qh17_104 : h17.1 66 10 = h16.1 66 10 := by rw [eh17]; exact mm_pf_ne _ _ (by decide)
              have qh17_105 : h17.1 66 11 = h16.1 66 11 := by rw [eh17]; exact mm_pf_ne _ _ (by decide)
              have qh17_106 : h17.1 66 12 = h16.1 66 12 := by rw [eh17]; exact mm_pf_ne _ _ (by decide)
              have qh17_107 : h17.1 66 19 = h16.1 66 19 := by rw [eh17]; exact mm_pf_ne _ _ (by decide)
              have qh17_108 : h17.1 66 21 = h16.1 66 21 := by rw [eh17]; exact mm_pf_ne _ _ (by decide)
              have qh17_109 : h17.1 66 22 = h16.1 66 22 := by rw [eh17]; exact mm_pf_ne _ _ (by decide)
              have qh17_110 : h17.1 66 23 = h16.1 66 23 := by rw [eh17]; exact mm_pf_ne _ _ (by decide)
              have qh17_111 : h17.1 66 24 = h16.1 66 24 := by rw [eh17]; exact mm_pf_ne _ _ (by decide)
              have qh17_112 : h17.1 66 40 = h16.1 66 40 := by rw [eh17]; exact mm_pf_ne _ _ (by decide)
              have qh17_113 : h17.1 66 41 = h16.1 66 41 := by rw [eh17]; exact mm_pf_ne _ _ (by decide)
              have qh17_114 : h17.1 66 58 = h16.1 66 58 := by rw [eh17]; exact mm_pf_ne _ _ (by decide)
              have qh17_115 : h17.1 66 82 = h16.1 66 82 := by rw [eh17]; exact mm_pf_ne _ _ (by decide)
              refine mm_aload_n C (mm_dec dk_X12_anew 90 rfl) rfl ?_
              refine mm_iconst C (mm_dec dk_X12_anew 91 rfl) ⟨by decide, by decide⟩ ?_
              refine mm_puti C fl_X12_244 (mm_dec dk_X12_anew 92 rfl) rfl rfl rfl (Or.inr ⟨rfl, rfl, by omega⟩) ?_
              have i18 : mm_inv (mm_pf h17 66 95 0) := mm_inv_pf i17 (show 0 ≤ 0 ∧ 0 ≤ 1 from ⟨by omega, by omega⟩) (by decide)
              have f18 : mm_fr [(66, 1), (66, 2), (66, 3), (66, 9), (66, 10), (66, 11), (66, 12), (66, 19), (66, 21), (66, 22), (66, 23), (66, 24), (66, 40), (66, 41), (66, 58), (66, 67), (66, 82), (66, 95)] [67, 68, 69, 70, 71] h (mm_pf h17 66 95 0) := mm_fr_pf f17 (by decide)
              obtain ⟨h18, eh18⟩ : ∃ z, z = mm_pf h17 66 95 0 := ⟨_, rfl⟩
              rw [← eh18] at i18 f18 ⊢
              have qh18 : h18.1 66 95 = 0 := by rw [eh18]; exact mm_pf_same _ _ _ _
              have qh18_116 : h18.1 66 9 = h17.1 66 9 := by rw [eh18]; exact mm_pf_ne _ _ (by decide)
              have qh18_117 : h18.1 66 10 = h17.1 66 10 := by rw [eh18]; exact mm_pf_ne _ _ (by decide)
              have qh18_118 : h18.1 66 11 = h17.1 66 11 := by rw [eh18]; exact mm_pf_ne _ _ (by decide)
              have qh18_119 : h18.1 66 12 = h17.1 66 12 := by rw [eh18]; exact mm_pf_ne _ _ (by decide)
              have qh18_120 : h18.1 66 19 = h17.1 66 19 := by rw [eh18]; exact mm_pf_ne _ _ (by decide)
              have qh18_121 : h18.1 66 21 = h17.1 66 21 := by rw [eh18]; exact mm_pf_ne _ _ (by decide)
              have qh18_122 : h18.1 66 22 = h17.1 66 22 := by rw [eh18]; exact mm_pf_ne _ _ (by decide)
              have qh18_123 : h18.1 66 23 = h17.1 66 23 := by rw [eh18]; exact mm_pf_ne _ _ (by decide)
              have qh18_124 : h18.1 66 24 = h17.1 66 24 := by rw [eh18]; exact mm_pf_ne _ _ (by decide)
              have qh18_125 : h18.1 66 40 = h17.1 66 40 := by rw [eh18]; exact mm_pf_ne _ _ (by decide)
              have qh18_126 : h18.1 66 41 = h17.1 66 41 := by rw [eh18]; exact mm_pf_ne _ _ (by decide)
              have qh18_127 : h18.1 66 58 = h17.1 66 58 := by rw [eh18]; exact mm_pf_ne _ _ (by decide)
              have qh18_128 : h18.1 66 67 = h17.1 66 67 := by rw [eh18]; exact mm_pf_ne _ _ (by decide)
              have qh18_129 : h18.1 66 82 = h17.1 66 82 := by rw [eh18]; exact mm_pf_ne _ _ (by decide)
              exact mm_vret C T (mm_dec dk_X12_anew 93 rfl) (by decide : 0 ≤ 0) (by decide : 0 ≤ 0) ⟨rfl, ⟨i18, f18, by omega⟩⟩
            · skip
              refine mm_aload_n C (mm_dec dk_X12_anew 41 rfl) rfl ?_
              refine mm_getr (t := 69) C fl_X12_16 (mm_dec dk_X12_anew 42 rfl) rfl rfl (mm_ref i60_ rfl) ?_
              refine mm_iload_n C (mm_dec dk_X12_anew 43 rfl) rfl ?_
              refine mm_iconst C (mm_dec dk_X12_anew 44 rfl) ⟨by decide, by decide⟩ ?_
              refine mm_iast C (mm_dec dk_X12_anew 45 rfl) rfl (by omega) (by omega) ?_
              have i19 : mm_inv (mm_pa h60_ 69 x60_3 5) := mm_inv_pa i60_ (show 0 ≤ 5 ∧ 5 ≤ 99 from ⟨by omega, by omega⟩)
              have f19 : mm_fr [(66, 1), (66, 2), (66, 3), (66, 9), (66, 10), (66, 11), (66, 12), (66, 19), (66, 21), (66, 22), (66, 23), (66, 24), (66, 40), (66, 41), (66, 58), (66, 67), (66, 82), (66, 95)] [67, 68, 69, 70, 71] h (mm_pa h60_ 69 x60_3 5) := mm_fr_pa f60_ (by decide)
              obtain ⟨h19, eh19⟩ : ∃ z, z = mm_pa h60_ 69 x60_3 5 := ⟨_, rfl⟩
              rw [← eh19] at i19 f19 ⊢
              have qh19_130 : h19.1 66 67 = h60_.1 66 67 := by rw [eh19]; rfl
              refine mm_iincL (ls2 := [mR 66, mU, mU, mI (x60_3 + 1)]) C (mm_dec dk_X12_anew 46 rfl) rfl (by decide) ⟨by omega, by omega⟩ rfl ?_
              refine mm_goto (tgt := 60) C (mm_dec dk_X12_anew 47 rfl) (by decide) ?_
              exact ih60 (x60_3 + 1) ⟨by omega, by omega⟩ h19 i19 f19 (by omega)
        refine mm_istore_nL (ls2 := [mR 66, mU, mU, mI 0]) C (mm_dec dk_X12_anew 37 rfl) (by decide) rfl ?_
        exact J60 (((8 - 0) : Int) + 1).toNat 0 ⟨by omega, by omega⟩ h17_ i17_ f17_ (by omega)
      · skip
        refine mm_aload_n C (mm_dec dk_X12_anew 14 rfl) rfl ?_
        refine mm_getr (t := 67) C fl_X12_7 (mm_dec dk_X12_anew 15 rfl) rfl rfl (mm_ref i17_ rfl) ?_
        refine mm_iload_n C (mm_dec dk_X12_anew 16 rfl) rfl ?_
        refine mm_iconst C (mm_dec dk_X12_anew 17 rfl) ⟨by decide, by decide⟩ ?_
        refine mm_iast C (mm_dec dk_X12_anew 18 rfl) rfl (by omega) (by omega) ?_
        have i20 : mm_inv (mm_pa h17_ 67 x17_3 0) := mm_inv_pa i17_ (show 0 ≤ 0 ∧ 0 ≤ 7 from ⟨by omega, by omega⟩)
        have f20 : mm_fr [(66, 1), (66, 2), (66, 3), (66, 9), (66, 10), (66, 11), (66, 12), (66, 19), (66, 21), (66, 22), (66, 23), (66, 24), (66, 40), (66, 41), (66, 58), (66, 67), (66, 82), (66, 95)] [67, 68, 69, 70, 71] h (mm_pa h17_ 67 x17_3 0) := mm_fr_pa f17_ (by decide)
        obtain ⟨h20, eh20⟩ : ∃ z, z = mm_pa h17_ 67 x17_3 0 := ⟨_, rfl⟩
        rw [← eh20] at i20 f20 ⊢
        have qh20_131 : h20.1 66 67 = h17_.1 66 67 := by rw [eh20]; rfl
        refine mm_aload_n C (mm_dec dk_X12_anew 19 rfl) rfl ?_
        refine mm_getr (t := 68) C fl_X12_13 (mm_dec dk_X12_anew 20 rfl) rfl rfl (mm_ref i20 rfl) ?_
        refine mm_iload_n C (mm_dec dk_X12_anew 21 rfl) rfl ?_
        refine mm_iconst C (mm_dec dk_X12_anew 22 rfl) ⟨by decide, by decide⟩ ?_
        refine mm_iast C (mm_dec dk_X12_anew 23 rfl) rfl (by omega) (by omega) ?_
        have i21 : mm_inv (mm_pa h20 68 x17_3 0) := mm_inv_pa i20 (show 0 ≤ 0 ∧ 0 ≤ 99 from ⟨by omega, by omega⟩)
        have f21 : mm_fr [(66, 1), (66, 2), (66, 3), (66, 9), (66, 10), (66, 11), (66, 12), (66, 19), (66, 21), (66, 22), (66, 23), (66, 24), (66, 40), (66, 41), (66, 58), (66, 67), (66, 82), (66, 95)] [67, 68, 69, 70, 71] h (mm_pa h20 68 x17_3 0) := mm_fr_pa f20 (by decide)
        obtain ⟨h21, eh21⟩ : ∃ z, z = mm_pa h20 68 x17_3 0 := ⟨_, rfl⟩
        rw [← eh21] at i21 f21 ⊢
        have qh21_132 : h21.1 66 67 = h20.1 66 67 := by rw [eh21]; rfl
        refine mm_aload_n C (mm_dec dk_X12_anew 24 rfl) rfl ?_
        refine mm_getr (t := 70) C fl_X12_19 (mm_dec dk_X12_anew 25 rfl) rfl rfl (mm_ref i21 rfl) ?_
        refine mm_iload_n C (mm_dec dk_X12_anew 26 rfl) rfl ?_
        refine mm_iconst C (mm_dec dk_X12_anew 27 rfl) ⟨by decide, by decide⟩ ?_
        refine mm_zast C (mm_dec dk_X12_anew 28 rfl) rfl (by omega) (by omega) (by omega) ?_
        have i22 : mm_inv (mm_pa h21 70 x17_3 0) := mm_inv_pa i21 (show 0 ≤ 0 ∧ 0 ≤ 1 from ⟨by omega, by omega⟩)
        have f22 : mm_fr [(66, 1), (66, 2), (66, 3), (66, 9), (66, 10), (66, 11), (66, 12), (66, 19), (66, 21), (66, 22), (66, 23), (66, 24), (66, 40), (66, 41), (66, 58), (66, 67), (66, 82), (66, 95)] [67, 68, 69, 70, 71] h (mm_pa h21 70 x17_3 0) := mm_fr_pa f21 (by decide)
        obtain ⟨h22, eh22⟩ : ∃ z, z = mm_pa h21 70 x17_3 0 := ⟨_, rfl⟩
        rw [← eh22] at i22 f22 ⊢
        have qh22_133 : h22.1 66 67 = h21.1 66 67 := by rw [eh22]; rfl
        refine mm_aload_n C (mm_dec dk_X12_anew 29 rfl) rfl ?_
        refine mm_getr (t := 71) C fl_X12_23 (mm_dec dk_X12_anew 30 rfl) rfl rfl (mm_ref i22 rfl) ?_
        refine mm_iload_n C (mm_dec dk_X12_anew 31 rfl) rfl ?_
        refine mm_iconst C (mm_dec dk_X12_anew 32 rfl) ⟨by decide, by decide⟩ ?_
        refine mm_zast C (mm_dec dk_X12_anew 33 rfl) rfl (by omega) (by omega) (by omega) ?_
        have i23 : mm_inv (mm_pa h22 71 x17_3 0) := mm_inv_pa i22 (show 0 ≤ 0 ∧ 0 ≤ 1 from ⟨by omega, by omega⟩)
        have f23 : mm_fr [(66, 1), (66, 2), (66, 3), (66, 9), (66, 10), (66, 11), (66, 12), (66, 19), (66, 21), (66, 22), (66, 23), (66, 24), (66, 40), (66, 41), (66, 58), (66, 67), (66, 82), (66, 95)] [67, 68, 69, 70, 71] h (mm_pa h22 71 x17_3 0) := mm_fr_pa f22 (by decide)
        obtain ⟨h23, eh23⟩ : ∃ z, z = mm_pa h22 71 x17_3 0 := ⟨_, rfl⟩
        rw [← eh23] at i23 f23 ⊢
        have qh23_134 : h23.1 66 67 = h22.1 66 67 := by rw [eh23]; rfl
        refine mm_iincL (ls2 := [mR 66, mU, mU, mI (x17_3 + 1)]) C (mm_dec dk_X12_anew 34 rfl) rfl (by decide) ⟨by omega, by omega⟩ rfl ?_
        refine mm_goto (tgt := 17) C (mm_dec dk_X12_anew 35 rfl) (by decide) ?_
        exact ih17 (x17_3 + 1) ⟨by omega, by omega⟩ h23 i23 f23 (by omega)
  refine mm_istore_nL (ls2 := [mR 66, mI p1, mI p2, mI 0]) C (mm_dec dk_X12_anew 10 rfl) (by decide) rfl ?_
  refine mm_fgt 1 ?_
  refine mm_fgt 2 ?_
  exact J17 (((400 - 0) : Int) + 1).toNat 0 ⟨by omega, by omega⟩ h3 i3 f3 (by omega)
set_option maxRecDepth 100000 in
set_option maxHeartbeats 4000000 in
theorem c_X12_land_x (l : Launch) (hl : l.stackTraces = false) (d : Nat) (hd : 1 ≤ d) (h : mH) (i0 : mm_inv h) (p1 : Int) (p2 : Int) (t0 : mm_RO h) : mm_Met l d yX12_land cX12_land 3 (some .boolean) [mR 66, mI p1, mI p2] h (mm_pi fun r h2 => (0 ≤ r ∧ r ≤ 1) ∧ mm_inv h2 ∧ mm_fr [(66, 0), (66, 1), (66, 2), (66, 3), (66, 9), (66, 10), (66, 11), (66, 12), (66, 19), (66, 21), (66, 22), (66, 23), (66, 24), (66, 40), (66, 41), (66, 58), (66, 67), (66, 82), (66, 95)] [67, 68, 69, 70, 71] h h2 ∧ ((r = 1 ∧ 1 ≤ p1 ∧ p1 ≤ 20 ∧ 1 ≤ p2 ∧ p2 ≤ 20) ∨ (r = 0 ∧ (p1 < 1 ∨ 20 < p1 ∨ p2 < 1 ∨ 20 < p2))) ∧ mm_RO h2) mm_nx 0 0 := by
  refine mm_ofW (ls := [mR 66, mI p1, mI p2]) hl (by decide) rfl (Nat.le_of_ble_eq_true rfl) ?_
  intro x hxl C T hnm htb
  subst hxl
  have C1 := mm_OK_le (d' := d - 1 + 1) (by omega) C
  refine mm_rng (fun hr _ => ?_)
  have ap1 : -2147483648 ≤ p1 ∧ p1 < 2147483648 := mm_ok_at hr (i := 1) rfl
  have ap2 : -2147483648 ≤ p2 ∧ p2 < 2147483648 := mm_ok_at hr (i := 2) rfl
  have f0 : mm_fr [(66, 0), (66, 1), (66, 2), (66, 3), (66, 9), (66, 10), (66, 11), (66, 12), (66, 19), (66, 21), (66, 22), (66, 23), (66, 24), (66, 40), (66, 41), (66, 58), (66, 67), (66, 82), (66, 95)] [67, 68, 69, 70, 71] h h := mm_fr_rf
  have g1 : 0 ≤ h.1 66 67 ∧ h.1 66 67 ≤ 1 := i0.1 66 67
  refine mm_aload_n C (mm_dec dk_X12_land 0 rfl) rfl ?_
  refine mm_iconst C (mm_dec dk_X12_land 1 rfl) ⟨by decide, by decide⟩ ?_
  refine mm_puti C fl_X12_188 (mm_dec dk_X12_land 2 rfl) rfl rfl rfl (Or.inl ⟨rfl, rfl⟩) ?_
  have i1 : mm_inv (mm_pf h 66 0 0) := mm_inv_pf i0 (show -2147483648 ≤ 0 ∧ 0 ≤ 2147483647 from ⟨by omega, by omega⟩) (by decide)
  have f1 : mm_fr [(66, 0), (66, 1), (66, 2), (66, 3), (66, 9), (66, 10), (66, 11), (66, 12), (66, 19), (66, 21), (66, 22), (66, 23), (66, 24), (66, 40), (66, 41), (66, 58), (66, 67), (66, 82), (66, 95)] [67, 68, 69, 70, 71] h (mm_pf h 66 0 0) := mm_fr_pf f0 (by decide)
  obtain ⟨h1, eh1⟩ : ∃ z, z = mm_pf h 66 0 0 := ⟨_, rfl⟩
  rw [← eh1] at i1 f1 ⊢
  have qh1 : h1.1 66 0 = 0 := by rw [eh1]; exact mm_pf_same _ _ _ _
  have qh1_2 : h1.1 66 67 = h.1 66 67 := by rw [eh1]; exact mm_pf_ne _ _ (by decide)
  refine mm_iload_n C (mm_dec dk_X12_land 3 rfl) rfl ?_
  refine mm_iconst C (mm_dec dk_X12_land 4 rfl) ⟨by decide, by decide⟩ ?_
  have J27 : ∀ (w27_0 : (p1 < 1 ∨ 20 < p1 ∨ p2 < 1 ∨ 20 < p2)), mm_W x 0 0 27 [mU, mU, mU] [] h1 := by
    intro w27_0
    refine mm_iconst C (mm_dec dk_X12_land 15 rfl) ⟨by decide, by decide⟩ ?_
    exact mm_zret C T (mm_dec dk_X12_land 16 rfl) (by decide : 0 ≤ 0) (by decide : 0 ≤ 0) (by omega) ⟨_, rfl, ⟨⟨by omega, by omega⟩, i1, f1, by omega, by first | exact Or.inl (by omega) | exact mm_RO_fr (wf := [(66, 0)]) (wa := []) t0 (by rw [eh1]; exact mm_fr_pf mm_fr_rf (by decide)) (by decide)⟩⟩
  refine mm_icmp_lt (tgt := 27) C (mm_dec dk_X12_land 5 rfl) (by decide) (fun c7 => ?_) (fun c7 => ?_)
  · skip
    refine mm_fgt 0 ?_
    refine mm_fgt 1 ?_
    refine mm_fgt 2 ?_
    exact J27 (by omega)
  · skip
    refine mm_iload_n C (mm_dec dk_X12_land 6 rfl) rfl ?_
    refine mm_bipush C (mm_dec dk_X12_land 7 rfl) ⟨by decide, by decide⟩ ?_
    refine mm_icmp_gt (tgt := 27) C (mm_dec dk_X12_land 8 rfl) (by decide) (fun c13 => ?_) (fun c13 => ?_)
    · skip
      refine mm_fgt 0 ?_
      refine mm_fgt 1 ?_
      refine mm_fgt 2 ?_
      exact J27 (by omega)
    · skip
      refine mm_iload_n C (mm_dec dk_X12_land 9 rfl) rfl ?_
      refine mm_iconst C (mm_dec dk_X12_land 10 rfl) ⟨by decide, by decide⟩ ?_
      refine mm_icmp_lt (tgt := 27) C (mm_dec dk_X12_land 11 rfl) (by decide) (fun c18 => ?_) (fun c18 => ?_)
      · skip
        refine mm_fgt 0 ?_
        refine mm_fgt 1 ?_
        refine mm_fgt 2 ?_
        exact J27 (by omega)
      · skip
        refine mm_iload_n C (mm_dec dk_X12_land 12 rfl) rfl ?_
        refine mm_bipush C (mm_dec dk_X12_land 13 rfl) ⟨by decide, by decide⟩ ?_
        refine mm_icmp_le (tgt := 29) C (mm_dec dk_X12_land 14 rfl) (by decide) (fun c24 => ?_) (fun c24 => ?_)
        · skip
          refine mm_aload_n C (mm_dec dk_X12_land 17 rfl) rfl ?_
          refine mm_iload_n C (mm_dec dk_X12_land 18 rfl) rfl ?_
          refine mm_iload_n C (mm_dec dk_X12_land 19 rfl) rfl ?_
          refine mm_cVv (rest := []) C1 ev_X12_184 (mm_dec dk_X12_land 20 rfl) (c_X12_anew_x x.2.1 hl (d - 1) (by omega) h1 i1 p1 p2 ⟨by omega, by omega⟩ ⟨by omega, by omega⟩) rfl rfl (Nat.le_of_ble_eq_true rfl) ⟨by decide, by decide⟩ rfl (fun h32c hp32 => ?_) (fun _ _ q => q.elim)
          obtain ⟨i32c, g32c, y32_0⟩ := hp32
          have f32c : mm_fr [(66, 0), (66, 1), (66, 2), (66, 3), (66, 9), (66, 10), (66, 11), (66, 12), (66, 19), (66, 21), (66, 22), (66, 23), (66, 24), (66, 40), (66, 41), (66, 58), (66, 67), (66, 82), (66, 95)] [67, 68, 69, 70, 71] h h32c := mm_fr_tr f1 g32c (by decide +kernel)
          have q32c_4 : h32c.1 66 0 = h1.1 66 0 := g32c.1 66 0 (by decide)
          have g5 : 0 ≤ (h32c.1 66 67) ∧ (h32c.1 66 67) ≤ 1 := i32c.1 66 67
          refine mm_iconst C (mm_dec dk_X12_land 21 rfl) ⟨by decide, by decide⟩ ?_
          exact mm_zret C T (mm_dec dk_X12_land 22 rfl) (by decide : 0 ≤ 0) (by decide : 0 ≤ 0) (by omega) ⟨_, rfl, ⟨⟨by omega, by omega⟩, i32c, f32c, by omega, by first | exact Or.inl (by omega) | exact mm_RO_fr (wf := [(66, 0)]) (wa := []) t0 (by rw [eh1]; exact mm_fr_pf mm_fr_rf (by decide)) (by decide)⟩⟩
        · skip
          refine mm_fgt 0 ?_
          refine mm_fgt 1 ?_
          refine mm_fgt 2 ?_
          exact J27 (by omega)
set_option maxRecDepth 100000 in
set_option maxHeartbeats 4000000 in
theorem c_X11_land_x (l : Launch) (hl : l.stackTraces = false) (d : Nat) (hd : 2 ≤ d) (h : mH) (i0 : mm_inv h) (p1 : Int) (p2 : Int) : mm_Met l d yX11_land cX11_land 3 (some .boolean) [mR 0, mI p1, mI p2] h (mm_pi fun r h2 => (0 ≤ r ∧ r ≤ 1) ∧ mm_inv h2 ∧ mm_fr [(0, 13), (0, 14), (1, 5), (1, 6), (1, 7), (1, 8), (7, 9), (14, 7), (14, 8), (22, 8), (22, 9), (30, 6), (30, 12), (30, 13), (42, 3), (58, 10)] [2, 3, 4, 5, 6, 44] h h2 ∧ ((r = 1 ∧ 1 ≤ p1 ∧ p1 ≤ 20 ∧ 1 ≤ p2 ∧ p2 ≤ 20) ∨ (r = 0 ∧ (p1 < 1 ∨ 20 < p1 ∨ p2 < 1 ∨ 20 < p2)))) mm_nx 0 0 := by
  refine mm_ofW (ls := [mR 0, mI p1, mI p2]) hl (by decide) rfl (Nat.le_of_ble_eq_true rfl) ?_
  intro x hxl C T hnm htb
  subst hxl
  have C1 := mm_OK_le (d' := d - 1 + 1) (by omega) C
  refine mm_rng (fun hr _ => ?_)
  have ap1 : -2147483648 ≤ p1 ∧ p1 < 2147483648 := mm_ok_at hr (i := 1) rfl
  have ap2 : -2147483648 ≤ p2 ∧ p2 < 2147483648 := mm_ok_at hr (i := 2) rfl
  have f0 : mm_fr [(0, 13), (0, 14), (1, 5), (1, 6), (1, 7), (1, 8), (7, 9), (14, 7), (14, 8), (22, 8), (22, 9), (30, 6), (30, 12), (30, 13), (42, 3), (58, 10)] [2, 3, 4, 5, 6, 44] h h := mm_fr_rf
  refine mm_iload_n C (mm_dec dk_X11_land 0 rfl) rfl ?_
  refine mm_iconst C (mm_dec dk_X11_land 1 rfl) ⟨by decide, by decide⟩ ?_
  have J22 : ∀ (w22_0 : (p1 < 1 ∨ 20 < p1 ∨ p2 < 1 ∨ 20 < p2)), mm_W x 0 0 22 [mU, mU, mU] [] h := by
    intro w22_0
    refine mm_iconst C (mm_dec dk_X11_land 12 rfl) ⟨by decide, by decide⟩ ?_
    exact mm_zret C T (mm_dec dk_X11_land 13 rfl) (by decide : 0 ≤ 0) (by decide : 0 ≤ 0) (by omega) ⟨_, rfl, ⟨⟨by omega, by omega⟩, i0, f0, by omega⟩⟩
  refine mm_icmp_lt (tgt := 22) C (mm_dec dk_X11_land 2 rfl) (by decide) (fun c2 => ?_) (fun c2 => ?_)
  · skip
    refine mm_fgt 0 ?_
    refine mm_fgt 1 ?_
    refine mm_fgt 2 ?_
    exact J22 (by omega)
  · skip
    refine mm_iload_n C (mm_dec dk_X11_land 3 rfl) rfl ?_
    refine mm_bipush C (mm_dec dk_X11_land 4 rfl) ⟨by decide, by decide⟩ ?_
    refine mm_icmp_gt (tgt := 22) C (mm_dec dk_X11_land 5 rfl) (by decide) (fun c8 => ?_) (fun c8 => ?_)
    · skip
      refine mm_fgt 0 ?_
      refine mm_fgt 1 ?_
      refine mm_fgt 2 ?_
      exact J22 (by omega)
    · skip
      refine mm_iload_n C (mm_dec dk_X11_land 6 rfl) rfl ?_
      refine mm_iconst C (mm_dec dk_X11_land 7 rfl) ⟨by decide, by decide⟩ ?_
      refine mm_icmp_lt (tgt := 22) C (mm_dec dk_X11_land 8 rfl) (by decide) (fun c13 => ?_) (fun c13 => ?_)
      · skip
        refine mm_fgt 0 ?_
        refine mm_fgt 1 ?_
        refine mm_fgt 2 ?_
        exact J22 (by omega)
      · skip
        refine mm_iload_n C (mm_dec dk_X11_land 9 rfl) rfl ?_
        refine mm_bipush C (mm_dec dk_X11_land 10 rfl) ⟨by decide, by decide⟩ ?_
        refine mm_icmp_le (tgt := 24) C (mm_dec dk_X11_land 11 rfl) (by decide) (fun c19 => ?_) (fun c19 => ?_)
        · skip
          refine mm_aload_n C (mm_dec dk_X11_land 14 rfl) rfl ?_
          refine mm_getr (t := 1) C fl_X11_12 (mm_dec dk_X11_land 15 rfl) rfl rfl (mm_ref i0 rfl) ?_
          refine mm_iload_n C (mm_dec dk_X11_land 16 rfl) rfl ?_
          refine mm_iload_n C (mm_dec dk_X11_land 17 rfl) rfl ?_
          refine mm_cVv (rest := []) C1 ev_X11_108 (mm_dec dk_X11_land 18 rfl) (c_X5_renew x.2.1 hl (d - 1) (by omega) h i0 p1 p2 ⟨by omega, by omega⟩ ⟨by omega, by omega⟩) rfl rfl (Nat.le_of_ble_eq_true rfl) ⟨by decide, by decide⟩ rfl (fun h30c hp30 => ?_) (fun _ _ q => q.elim)
          obtain ⟨i30c, g30c⟩ := hp30
          have f30c : mm_fr [(0, 13), (0, 14), (1, 5), (1, 6), (1, 7), (1, 8), (7, 9), (14, 7), (14, 8), (22, 8), (22, 9), (30, 6), (30, 12), (30, 13), (42, 3), (58, 10)] [2, 3, 4, 5, 6, 44] h h30c := mm_fr_tr f0 g30c (by decide +kernel)
          refine mm_aload_n C (mm_dec dk_X11_land 19 rfl) rfl ?_
          refine mm_getr (t := 7) C fl_X11_21 (mm_dec dk_X11_land 20 rfl) rfl rfl (mm_ref i30c rfl) ?_
          refine mm_cVv (rest := []) C1 ev_X11_112 (mm_dec dk_X11_land 21 rfl) (c_X10_forget x.2.1 hl (d - 1) (by omega) h30c i30c ) rfl rfl (Nat.le_of_ble_eq_true rfl) ⟨by decide, by decide⟩ rfl (fun h37c hp37 => ?_) (fun _ _ q => q.elim)
          obtain ⟨i37c, g37c⟩ := hp37
          have f37c : mm_fr [(0, 13), (0, 14), (1, 5), (1, 6), (1, 7), (1, 8), (7, 9), (14, 7), (14, 8), (22, 8), (22, 9), (30, 6), (30, 12), (30, 13), (42, 3), (58, 10)] [2, 3, 4, 5, 6, 44] h h37c := mm_fr_tr f30c g37c (by decide +kernel)
          refine mm_aload_n C (mm_dec dk_X11_land 22 rfl) rfl ?_
          refine mm_getr (t := 14) C fl_X11_28 (mm_dec dk_X11_land 23 rfl) rfl rfl (mm_ref i37c rfl) ?_
          refine mm_cVv (rest := []) C1 ev_X11_115 (mm_dec dk_X11_land 24 rfl) (c_X2_clear x.2.1 hl (d - 1) (by omega) h37c i37c ) rfl rfl (Nat.le_of_ble_eq_true rfl) ⟨by decide, by decide⟩ rfl (fun h44c hp44 => ?_) (fun _ _ q => q.elim)
          obtain ⟨i44c, g44c⟩ := hp44
          have f44c : mm_fr [(0, 13), (0, 14), (1, 5), (1, 6), (1, 7), (1, 8), (7, 9), (14, 7), (14, 8), (22, 8), (22, 9), (30, 6), (30, 12), (30, 13), (42, 3), (58, 10)] [2, 3, 4, 5, 6, 44] h h44c := mm_fr_tr f37c g44c (by decide +kernel)
          refine mm_aload_n C (mm_dec dk_X11_land 25 rfl) rfl ?_
          refine mm_getr (t := 22) C fl_X11_37 (mm_dec dk_X11_land 26 rfl) rfl rfl (mm_ref i44c rfl) ?_
          refine mm_cVv (rest := []) C1 ev_X11_118 (mm_dec dk_X11_land 27 rfl) (c_X9_clear x.2.1 hl (d - 1) (by omega) h44c i44c ) rfl rfl (Nat.le_of_ble_eq_true rfl) ⟨by decide, by decide⟩ rfl (fun h51c hp51 => ?_) (fun _ _ q => q.elim)
          obtain ⟨i51c, g51c⟩ := hp51
          have f51c : mm_fr [(0, 13), (0, 14), (1, 5), (1, 6), (1, 7), (1, 8), (7, 9), (14, 7), (14, 8), (22, 8), (22, 9), (30, 6), (30, 12), (30, 13), (42, 3), (58, 10)] [2, 3, 4, 5, 6, 44] h h51c := mm_fr_tr f44c g51c (by decide +kernel)
          refine mm_aload_n C (mm_dec dk_X11_land 28 rfl) rfl ?_
          refine mm_getr (t := 30) C fl_X11_44 (mm_dec dk_X11_land 29 rfl) rfl rfl (mm_ref i51c rfl) ?_
          refine mm_cVv (rest := []) C1 ev_X11_119 (mm_dec dk_X11_land 30 rfl) (c_X6_clear x.2.1 hl (d - 1) (by omega) h51c i51c ) rfl rfl (Nat.le_of_ble_eq_true rfl) ⟨by decide, by decide⟩ rfl (fun h58c hp58 => ?_) (fun _ _ q => q.elim)
          obtain ⟨i58c, g58c⟩ := hp58
          have f58c : mm_fr [(0, 13), (0, 14), (1, 5), (1, 6), (1, 7), (1, 8), (7, 9), (14, 7), (14, 8), (22, 8), (22, 9), (30, 6), (30, 12), (30, 13), (42, 3), (58, 10)] [2, 3, 4, 5, 6, 44] h h58c := mm_fr_tr f51c g58c (by decide +kernel)
          refine mm_aload_n C (mm_dec dk_X11_land 31 rfl) rfl ?_
          refine mm_getr (t := 42) C fl_X11_51 (mm_dec dk_X11_land 32 rfl) rfl rfl (mm_ref i58c rfl) ?_
          refine mm_cVv (rest := []) C1 ev_X11_120 (mm_dec dk_X11_land 33 rfl) (c_X8_clear x.2.1 hl (d - 1) (by omega) h58c i58c ) rfl rfl (Nat.le_of_ble_eq_true rfl) ⟨by decide, by decide⟩ rfl (fun h65c hp65 => ?_) (fun _ _ q => q.elim)
          obtain ⟨i65c, g65c⟩ := hp65
          have f65c : mm_fr [(0, 13), (0, 14), (1, 5), (1, 6), (1, 7), (1, 8), (7, 9), (14, 7), (14, 8), (22, 8), (22, 9), (30, 6), (30, 12), (30, 13), (42, 3), (58, 10)] [2, 3, 4, 5, 6, 44] h h65c := mm_fr_tr f58c g65c (by decide +kernel)
          refine mm_aload_n C (mm_dec dk_X11_land 34 rfl) rfl ?_
          refine mm_getr (t := 58) C fl_X11_78 (mm_dec dk_X11_land 35 rfl) rfl rfl (mm_ref i65c rfl) ?_
          refine mm_cVv (rest := []) C1 ev_X11_121 (mm_dec dk_X11_land 36 rfl) (c_X0_forget x.2.1 hl (d - 1) (by omega) h65c i65c ) rfl rfl (Nat.le_of_ble_eq_true rfl) ⟨by decide, by decide⟩ rfl (fun h72c hp72 => ?_) (fun _ _ q => q.elim)
          obtain ⟨i72c, g72c⟩ := hp72
          have f72c : mm_fr [(0, 13), (0, 14), (1, 5), (1, 6), (1, 7), (1, 8), (7, 9), (14, 7), (14, 8), (22, 8), (22, 9), (30, 6), (30, 12), (30, 13), (42, 3), (58, 10)] [2, 3, 4, 5, 6, 44] h h72c := mm_fr_tr f65c g72c (by decide +kernel)
          refine mm_aload_n C (mm_dec dk_X11_land 37 rfl) rfl ?_
          refine mm_iconst C (mm_dec dk_X11_land 38 rfl) ⟨by decide, by decide⟩ ?_
          refine mm_puti C fl_X11_102 (mm_dec dk_X11_land 39 rfl) rfl rfl rfl (Or.inl ⟨rfl, rfl⟩) ?_
          have i8 : mm_inv (mm_pf h72c 0 13 0) := mm_inv_pf i72c (show 0 ≤ 0 ∧ 0 ≤ 99999 from ⟨by omega, by omega⟩) (by decide)
          have f8 : mm_fr [(0, 13), (0, 14), (1, 5), (1, 6), (1, 7), (1, 8), (7, 9), (14, 7), (14, 8), (22, 8), (22, 9), (30, 6), (30, 12), (30, 13), (42, 3), (58, 10)] [2, 3, 4, 5, 6, 44] h (mm_pf h72c 0 13 0) := mm_fr_pf f72c (by decide)
          obtain ⟨h8, eh8⟩ : ∃ z, z = mm_pf h72c 0 13 0 := ⟨_, rfl⟩
          rw [← eh8] at i8 f8 ⊢
          have qh8 : h8.1 0 13 = 0 := by rw [eh8]; exact mm_pf_same _ _ _ _
          refine mm_aload_n C (mm_dec dk_X11_land 40 rfl) rfl ?_
          refine mm_iconst C (mm_dec dk_X11_land 41 rfl) ⟨by decide, by decide⟩ ?_
          refine mm_puti C fl_X11_105 (mm_dec dk_X11_land 42 rfl) rfl rfl rfl (Or.inl ⟨rfl, rfl⟩) ?_
          have i9 : mm_inv (mm_pf h8 0 14 (-1)) := mm_inv_pf i8 (show -2147483648 ≤ (-1) ∧ (-1) ≤ 2147483647 from ⟨by omega, by omega⟩) (by decide)
          have f9 : mm_fr [(0, 13), (0, 14), (1, 5), (1, 6), (1, 7), (1, 8), (7, 9), (14, 7), (14, 8), (22, 8), (22, 9), (30, 6), (30, 12), (30, 13), (42, 3), (58, 10)] [2, 3, 4, 5, 6, 44] h (mm_pf h8 0 14 (-1)) := mm_fr_pf f8 (by decide)
          obtain ⟨h9, eh9⟩ : ∃ z, z = mm_pf h8 0 14 (-1) := ⟨_, rfl⟩
          rw [← eh9] at i9 f9 ⊢
          have qh9 : h9.1 0 14 = (-1) := by rw [eh9]; exact mm_pf_same _ _ _ _
          have qh9_8 : h9.1 0 13 = h8.1 0 13 := by rw [eh9]; exact mm_pf_ne _ _ (by decide)
          refine mm_iconst C (mm_dec dk_X11_land 43 rfl) ⟨by decide, by decide⟩ ?_
          exact mm_zret C T (mm_dec dk_X11_land 44 rfl) (by decide : 0 ≤ 0) (by decide : 0 ≤ 0) (by omega) ⟨_, rfl, ⟨⟨by omega, by omega⟩, i9, f9, by omega⟩⟩
        · skip
          refine mm_fgt 0 ?_
          refine mm_fgt 1 ?_
          refine mm_fgt 2 ?_
          exact J22 (by omega)
