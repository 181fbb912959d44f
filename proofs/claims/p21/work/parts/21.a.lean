/-! ===== while the objects are made: fields that wait for their value lie between 0 and 1, n objects are there ===== -/
def mm_z0 : List (Nat × Nat) := [(58, 5), (0, 12), (0, 13), (14, 8), (22, 8), (66, 22), (66, 23), (66, 41), (66, 56), (14, 7), (66, 21), (22, 9), (66, 24), (30, 6), (66, 40), (30, 12), (66, 82), (1, 8), (66, 11), (66, 12), (1, 7), (66, 9), (66, 10), (30, 13), (66, 91), (42, 3)]
def mm_z1 : List (Nat × Nat) := [(1, 5), (1, 6), (66, 1), (66, 2)]
def mm_bG (o k : Nat) : Int × Int := bif mm_z0.contains (o, k) then (0, 0) else bif mm_z1.contains (o, k) then (1, 1) else mm_bF o k
theorem mm_bG_in {o k : Nat} (h : mm_z0.contains (o, k) = true) : mm_bG o k = (0, 0) := by unfold mm_bG; rw [h]; rfl
theorem mm_bG_in1 {o k : Nat} (h : mm_z0.contains (o, k) = false) (h1 : mm_z1.contains (o, k) = true) : mm_bG o k = (1, 1) := by unfold mm_bG; rw [h, h1]; rfl
theorem mm_bG_out {o k : Nat} (h : mm_z0.contains (o, k) = false) (h1 : mm_z1.contains (o, k) = false) : mm_bG o k = mm_bF o k := by unfold mm_bG; rw [h, h1]; rfl
def mm_bW (S : List (Nat × Nat)) (o k : Nat) : Int × Int := bif S.contains (o, k) then (0, 1) else mm_bG o k
def mm_inp (S : List (Nat × Nat)) (n : Nat) (h : mH) : Prop := (∀ o k, (mm_bW S o k).1 ≤ h.1 o k ∧ h.1 o k ≤ (mm_bW S o k).2) ∧ (∀ (o : Nat) (j : Int), (mm_bA o).1 ≤ h.2.1 o j ∧ h.2.1 o j ≤ (mm_bA o).2) ∧ h.2.2 = n
theorem mm_bW_in {S : List (Nat × Nat)} {o k : Nat} (h : S.contains (o, k) = true) : mm_bW S o k = (0, 1) := by unfold mm_bW; rw [h]; rfl
theorem mm_bW_out {S : List (Nat × Nat)} {o k : Nat} (h : S.contains (o, k) = false) : mm_bW S o k = mm_bG o k := by unfold mm_bW; rw [h]; rfl
theorem mm_inp_pf {S S' : List (Nat × Nat)} {n o k : Nat} {v : Int} {h : mH} (i : mm_inp S n h) (hb : (mm_bW S' o k).1 ≤ v ∧ v ≤ (mm_bW S' o k).2) (hS : (S.all (fun q => S'.contains q || q == (o, k)) && S'.all (fun q => S.contains q)) = true) : mm_inp S' n (mm_pf h o k v) := by
  simp only [Bool.and_eq_true, List.all_eq_true] at hS
  refine ⟨fun o' k' => ?_, i.2.1, i.2.2⟩
  by_cases hq : o' = o ∧ k' = k
  · rw [hq.1, hq.2, mm_pf_same]; exact hb
  · rw [mm_pf_ne h v hq]
    have e : mm_bW S' o' k' = mm_bW S o' k' := by
      by_cases z : S.contains (o', k') = true
      · have := hS.1 (o', k') (List.contains_iff_mem.mp z)
        rw [Bool.or_eq_true] at this
        rcases this with w | w
        · rw [mm_bW_in z, mm_bW_in w]
        · exfalso
          have w' : (o', k') = (o, k) := by simpa using w
          exact hq ⟨congrArg Prod.fst w', congrArg Prod.snd w'⟩
      · have z' : S.contains (o', k') = false := by simpa using z
        have w' : S'.contains (o', k') = false := by
          cases w : S'.contains (o', k')
          · rfl
          · exact absurd (hS.2 (o', k') (List.contains_iff_mem.mp w)) z
        rw [mm_bW_out z', mm_bW_out w']
    rw [e]
    exact i.1 o' k'
theorem mm_inp_put {S : List (Nat × Nat)} {n o k : Nat} {v : Int} {h : mH} (i : mm_inp S n h) (hb : (mm_bW S o k).1 ≤ v ∧ v ≤ (mm_bW S o k).2) (_ : ¬ (58 = o ∧ 5 = k)) : mm_inp S n (mm_pf h o k v) := by
  refine ⟨fun o' k' => ?_, i.2.1, i.2.2⟩
  by_cases hq : o' = o ∧ k' = k
  · rw [hq.1, hq.2, mm_pf_same]; exact hb
  · rw [mm_pf_ne h v hq]; exact i.1 o' k'
theorem mm_inp_pa {S : List (Nat × Nat)} {n o : Nat} {j v : Int} {h : mH} (i : mm_inp S n h) (hb : (mm_bA o).1 ≤ v ∧ v ≤ (mm_bA o).2) : mm_inp S n (mm_pa h o j v) := by
  refine ⟨i.1, fun o' j' => ?_, i.2.2⟩
  by_cases hq : o' = o ∧ j' = j
  · rw [hq.1, hq.2, mm_pa_same]; exact hb
  · rw [mm_pa_ne h v hq]; exact i.2.1 o' j'
theorem mm_inp_ref {S : List (Nat × Nat)} {n o k : Nat} {h : mH} (i : mm_inp S n h) (hb : mm_bW S o k = (1, 1)) : h.1 o k ≠ 0 := by
  have := i.1 o k
  rw [hb] at this
  omega
/-- which fields of object n can't be 0 -/
def mm_pn (n : Nat) : List (Nat × Nat) := ((mm_bf.getD n []).zipIdx.filter (fun q => decide (0 < q.1.1))).map (fun q => (n, q.2))
theorem mm_bF_pn {n k : Nat} (hn : n ≠ 125) (hok : (mm_bf.getD n []).all (fun q => decide (0 ≤ q.2)) = true) (h : (mm_pn n).contains (n, k) = false) : (mm_bF n k).1 ≤ 0 ∧ 0 ≤ (mm_bF n k).2 := by
  unfold mm_bF
  rw [if_neg hn]
  cases hk : (mm_bf.getD n [])[k]? with
  | none =>
    rw [List.getD_eq_getElem?_getD, hk]
    decide
  | some q =>
    rw [List.getD_eq_getElem?_getD, hk]
    have hm : q ∈ mm_bf.getD n [] := List.mem_of_getElem? hk
    have h2 := of_decide_eq_true (List.all_eq_true.mp hok q hm)
    refine ⟨?_, h2⟩
    show q.1 ≤ 0
    by_cases z : 0 < q.1
    · exfalso
      have : (n, k) ∈ mm_pn n := by
        unfold mm_pn
        refine List.mem_map.mpr ⟨(q, k), List.mem_filter.mpr ⟨?_, by simpa using z⟩, rfl⟩
        exact List.mem_zipIdx_iff_getElem?.mpr hk
      rw [List.contains_iff_mem.mpr this] at h
      exact absurd h (by decide)
    · omega
theorem mm_inp_nw {S S' : List (Nat × Nat)} {n : Nat} {h : mH} (i : mm_inp S n h) (hn : n ≠ 125) (hS : S' = mm_pn n ++ S) (hok : ((mm_bf.getD n []).all (fun q => decide (0 ≤ q.2)) && (decide ((mm_bA n).1 ≤ 0) && decide (0 ≤ (mm_bA n).2))) = true) (hd : S.all (fun q => decide (q.1 ≠ n)) = true) : mm_inp S' (n + 1) (mm_nw h) := by
  simp only [Bool.and_eq_true, decide_eq_true_eq] at hok
  have hc : h.2.2 = n := i.2.2
  refine ⟨fun o k => ?_, fun o j => ?_, by show h.2.2 + 1 = n + 1; rw [hc]⟩
  · show (mm_bW S' o k).1 ≤ (if o = h.2.2 then 0 else h.1 o k) ∧ (if o = h.2.2 then 0 else h.1 o k) ≤ (mm_bW S' o k).2
    rw [hc]
    by_cases z : o = n
    · rw [if_pos z, z]
      by_cases w : S'.contains (n, k) = true
      · rw [mm_bW_in w]; decide
      · have w' : S'.contains (n, k) = false := by simpa using w
        rw [mm_bW_out w']
        have hg : (mm_bF n k).1 ≤ 0 ∧ 0 ≤ (mm_bF n k).2 → (mm_bG n k).1 ≤ 0 ∧ 0 ≤ (mm_bG n k).2 := by
          intro q
          cases hc9 : mm_z0.contains (n, k)
          · cases hc8 : mm_z1.contains (n, k)
            · rw [mm_bG_out hc9 hc8]; exact q
            · exfalso
              have : ∀ q ∈ mm_z1, ¬ (mm_bF q.1 q.2).1 ≤ 0 := by decide
              exact this _ (List.contains_iff_mem.mp hc8) q.1
          · rw [mm_bG_in hc9]; decide
        refine hg (mm_bF_pn hn hok.1 ?_)
        cases y : (mm_pn n).contains (n, k)
        · rfl
        · exfalso
          apply w
          rw [hS]
          exact List.contains_iff_mem.mpr (List.mem_append_left _ (List.contains_iff_mem.mp y))
    · rw [if_neg z]
      have e : mm_bW S' o k = mm_bW S o k := by
        have hnp : (o, k) ∉ mm_pn n := by
          intro q
          obtain ⟨q1, -, q3⟩ := List.mem_map.mp q
          exact z (congrArg Prod.fst q3).symm
        by_cases w : S.contains (o, k) = true
        · rw [mm_bW_in w, mm_bW_in (by rw [hS]; exact List.contains_iff_mem.mpr (List.mem_append_right _ (List.contains_iff_mem.mp w)))]
        · have w' : S.contains (o, k) = false := by simpa using w
          have w2 : S'.contains (o, k) = false := by
            cases y : S'.contains (o, k)
            · rfl
            · exfalso
              rw [hS] at y
              rcases List.mem_append.mp (List.contains_iff_mem.mp y) with q | q
              · exact hnp q
              · exact w (List.contains_iff_mem.mpr q)
          rw [mm_bW_out w', mm_bW_out w2]
      rw [e]
      exact i.1 o k
  · show (mm_bA o).1 ≤ (if o = h.2.2 then 0 else h.2.1 o j) ∧ (if o = h.2.2 then 0 else h.2.1 o j) ≤ (mm_bA o).2
    rw [hc]
    by_cases z : o = n
    · rw [if_pos z, z]; exact hok.2
    · rw [if_neg z]; exact i.2.1 o j
theorem mm_inp_z0 {n : Nat} {h : mH} (i : mm_inp [] n h) {o k : Nat} (hz : mm_z0.contains (o, k) = true) : h.1 o k = 0 := by
  have h1 : (mm_bG o k).1 ≤ h.1 o k ∧ h.1 o k ≤ (mm_bG o k).2 := i.1 o k
  rw [mm_bG_in hz] at h1
  have h2 : (0 : Int) ≤ h.1 o k ∧ h.1 o k ≤ 0 := h1
  omega
theorem mm_inp_z1 {n : Nat} {h : mH} (i : mm_inp [] n h) {o k : Nat} (hn : mm_z0.contains (o, k) = false) (hz : mm_z1.contains (o, k) = true) : h.1 o k = 1 := by
  have h1 : (mm_bG o k).1 ≤ h.1 o k ∧ h.1 o k ≤ (mm_bG o k).2 := i.1 o k
  rw [mm_bG_in1 hn hz] at h1
  have h2 : (1 : Int) ≤ h.1 o k ∧ h.1 o k ≤ 1 := h1
  omega
theorem mm_inp_inv {h : mH} (i : mm_inp [] 125 h) : mm_inv h := by
  have h58 : h.1 58 5 = 0 := mm_inp_z0 i (by decide)
  refine ⟨fun o k => ?_, i.2.1, by rw [i.2.2, h58]; rfl⟩
  cases z : mm_z0.contains (o, k)
  · cases y : mm_z1.contains (o, k)
    · have h1 : (mm_bG o k).1 ≤ h.1 o k ∧ h.1 o k ≤ (mm_bG o k).2 := i.1 o k
      rw [mm_bG_out z y] at h1
      exact h1
    · rw [mm_inp_z1 i z y]
      have : ∀ q ∈ mm_z1, (mm_bF q.1 q.2).1 ≤ 1 ∧ 1 ≤ (mm_bF q.1 q.2).2 := by decide
      exact this _ (List.contains_iff_mem.mp y)
  · rw [mm_inp_z0 i z]
    have : ∀ q ∈ mm_z0, (mm_bF q.1 q.2).1 ≤ 0 ∧ 0 ≤ (mm_bF q.1 q.2).2 := by decide
    exact this _ (List.contains_iff_mem.mp z)
theorem mm_inp_land {h : mH} {n : Nat} (i : mm_inp [(66, 1), (66, 2)] n h) (h1 : 1 ≤ h.1 66 1 ∧ h.1 66 1 ≤ 1) (h2 : 1 ≤ h.1 66 2 ∧ h.1 66 2 ≤ 1) : mm_inp [] n h := by
  refine ⟨fun o k => ?_, i.2⟩
  by_cases z : o = 66 ∧ k = 1
  · rw [z.1, z.2]; exact h1
  · by_cases w : o = 66 ∧ k = 2
    · rw [w.1, w.2]; exact h2
    · have := i.1 o k
      have e : mm_bW [(66, 1), (66, 2)] o k = mm_bW [] o k := by
        have : ([(66, 1), (66, 2)] : List (Nat × Nat)).contains (o, k) = false := by
          cases y : ([(66, 1), (66, 2)] : List (Nat × Nat)).contains (o, k)
          · rfl
          · exfalso
            have := List.contains_iff_mem.mp y
            simp only [List.mem_cons, Prod.mk.injEq, List.not_mem_nil, or_false] at this
            rcases this with q | q
            · exact z q
            · exact w q
        rw [mm_bW_out this]
        rfl
      rw [e] at this
      exact this
abbrev mm_in0 : mH → Prop := mm_inp [] 66
abbrev mm_in2 : mH → Prop := mm_inp [(66, 1), (66, 2)] 124

/-! ===== what rows of numbers hold, kept alike ===== -/
/-- 1 where one of the first n is c, else 0 -/
def mm_fd (f : Int → Int) (c : Int) : Nat → Int
  | 0 => 0
  | n + 1 => if f (n : Int) = c then 1 else mm_fd f c n
theorem mm_fd_rg (f : Int → Int) (c : Int) (n : Nat) : 0 ≤ mm_fd f c n ∧ mm_fd f c n ≤ 1 := by
  induction n with
  | zero => exact ⟨Int.le_refl 0, (by decide : (0 : Int) ≤ 1)⟩
  | succ n ih =>
    show 0 ≤ (if f (n : Int) = c then 1 else mm_fd f c n) ∧ (if f (n : Int) = c then 1 else mm_fd f c n) ≤ 1
    split
    · exact ⟨by decide, by decide⟩
    · exact ih
theorem mm_fd_one {f : Int → Int} {c : Int} {n : Nat} (k : Nat) (hk : k < n) (e : f (k : Int) = c) : mm_fd f c n = 1 := by
  induction n with
  | zero => exact absurd hk (Nat.not_lt_zero _)
  | succ n ih =>
    show (if f (n : Int) = c then 1 else mm_fd f c n) = 1
    split
    · rfl
    · rename_i w
      refine ih ?_
      rcases Nat.lt_succ_iff_lt_or_eq.mp hk with q | q
      · exact q
      · exact absurd (q ▸ e) w
theorem mm_fd_hit {f : Int → Int} {c i n : Int} (h0 : 0 ≤ i) (h1 : i < n) (e : f i = c) : 1 = mm_fd f c n.toNat :=
  (mm_fd_one i.toNat (by omega) (by rw [Int.toNat_of_nonneg h0]; exact e)).symm
theorem mm_fd_step {f : Int → Int} {c i : Int} (w : mm_fd f c i.toNat = 0) (h0 : 0 ≤ i) (e : f i ≠ c) : mm_fd f c (i + 1).toNat = 0 := by
  have q : (i + 1).toNat = i.toNat + 1 := by omega
  rw [q]
  show (if f (i.toNat : Int) = c then 1 else mm_fd f c i.toNat) = 0
  rw [Int.toNat_of_nonneg h0, if_neg e]
  exact w
theorem mm_fd_end {f : Int → Int} {c i n : Int} (w : mm_fd f c i.toNat = 0) (e : i = n) : 0 = mm_fd f c n.toNat := by rw [← e]; exact w.symm
theorem mm_fd_eq {f g : Int → Int} {c : Int} {n : Nat} (e : ∀ j : Int, 0 ≤ j → j < n → f j = g j) : mm_fd f c n = mm_fd g c n := by
  induction n with
  | zero => rfl
  | succ n ih =>
    show (if f (n : Int) = c then 1 else mm_fd f c n) = (if g (n : Int) = c then 1 else mm_fd g c n)
    rw [e (n : Int) (by omega) (by omega), ih (fun j a b => e j a (by omega))]
/-- row o gets v at c, where f is 1 -/
def mm_up (h h2 : mH) (o : Nat) (c v f : Int) : Prop := ∀ j, h2.2.1 o j = if j = c ∧ f = 1 then v else h.2.1 o j
theorem mm_up_no {h h2 : mH} {o : Nat} {c v f : Int} (hf : f ≠ 1) (e : ∀ j, h2.2.1 o j = h.2.1 o j) : mm_up h h2 o c v f := fun j => by
  rw [if_neg (fun w => hf w.2)]; exact e j
theorem mm_up_pa {h h1 h2 h3 : mH} {o : Nat} {c c' v f : Int} (e1 : ∀ j, h1.2.1 o j = h.2.1 o j) (e : h2 = mm_pa h1 o c' v) (e3 : ∀ j, h3.2.1 o j = h2.2.1 o j) (hc : c' = c) (hf : f = 1) : mm_up h h3 o c v f := fun j => by
  rw [e3 j, e, hc]
  show (if o = o ∧ j = c then v else h1.2.1 o j) = _
  by_cases q : j = c
  · rw [if_pos ⟨rfl, q⟩, if_pos ⟨q, hf⟩]
  · rw [if_neg (fun w => q w.2), if_neg (fun w => q w.1)]; exact e1 j
theorem mm_up_tr {h h1 h2 h3 : mH} {o : Nat} {c c' v f f' : Int} (e1 : ∀ j, h1.2.1 o j = h.2.1 o j) (u : mm_up h1 h2 o c v f) (e3 : ∀ j, h3.2.1 o j = h2.2.1 o j) (hc : c = c') (hf : f = 1 ↔ f' = 1) : mm_up h h3 o c' v f' := fun j => by
  rw [e3 j, u j, hc, e1 j]
  by_cases q : j = c' ∧ f = 1
  · rw [if_pos q, if_pos ⟨q.1, hf.mp q.2⟩]
  · rw [if_neg q, if_neg (fun w => q ⟨w.1, hf.mpr w.2⟩)]
theorem mm_sm_pf {h h1 : mH} {a k : Nat} {v : Int} (o : Nat) (e : h1 = mm_pf h a k v) (j : Int) : h1.2.1 o j = h.2.1 o j := by rw [e]; rfl
theorem mm_sm_pa {h h1 : mH} {a : Nat} {i v : Int} (o : Nat) (e : h1 = mm_pa h a i v) (ne : o ≠ a) (j : Int) : h1.2.1 o j = h.2.1 o j := by rw [e]; exact mm_pa_o o a ne j
/-- the class's row a and the reference's row b hold the same from 0 to m -/
def mm_eq (h : mH) (a b : Nat) (m : Int) : Prop := ∀ j, 0 ≤ j → j ≤ m → h.2.1 a j = h.2.1 b j
theorem mm_eq_fr {wf : List (Nat × Nat)} {wa : List Nat} {h h2 : mH} {a b : Nat} {m : Int} (E : mm_eq h a b m) (g : mm_fr wf wa h h2) (ha : a ∉ wa) (hb : b ∉ wa) : mm_eq h2 a b m := fun j x y => by
  rw [g.2 a ha j, g.2 b hb j]; exact E j x y
theorem mm_eq_le {h : mH} {a b : Nat} {m m' : Int} (E : mm_eq h a b m) (hm : m' ≤ m) : mm_eq h a b m' := fun j x y => E j x (Int.le_trans y hm)
/-- both sides write the same at the same place -/
theorem mm_eq_up {h h1 h2 : mH} {a b : Nat} {m m' c v f f' : Int} (E : mm_eq h a b m) (u : mm_up h h1 a c v f) (e1 : ∀ j, h1.2.1 b j = h.2.1 b j) (w : mm_up h1 h2 b c v f') (e2 : ∀ j, h2.2.1 a j = h1.2.1 a j) (hf : (f = 1 ↔ f' = 1) ∨ m' < c) (hm : m' ≤ m ∨ (m' ≤ m + 1 ∧ c = m + 1 ∧ f = 1)) : mm_eq h2 a b m' := fun j x y => by
  rw [e2 j, u j, w j, e1 j]
  by_cases q : j = c ∧ f = 1
  · rcases hf with hf | hf
    · rw [if_pos q, if_pos ⟨q.1, hf.mp q.2⟩]
    · exfalso; omega
  · have q' : ¬ (j = c ∧ f' = 1) := fun z => by
      rcases hf with hf | hf
      · exact q ⟨z.1, hf.mpr z.2⟩
      · omega
    rw [if_neg q, if_neg q']
    refine E j x ?_
    rcases hm with z | ⟨z1, z2, z3⟩
    · omega
    · by_cases z4 : j = c
      · exact absurd ⟨z4, z3⟩ q
      · omega
theorem mm_eq_at {h h1 : mH} {a b : Nat} {m : Int} (E : mm_eq h a b m) (e : ∀ j, h1.2.1 b j = h.2.1 b j) (p : Int) : p < 0 ∨ m < p ∨ h.2.1 a p = h1.2.1 b p := by
  by_cases x : p < 0
  · exact Or.inl x
  · by_cases y : m < p
    · exact Or.inr (Or.inl y)
    · exact Or.inr (Or.inr ((E p (by omega) (by omega)).trans (e p).symm))
theorem mm_eq_fd {h h1 : mH} {a b : Nat} {n n' c : Int} (E : mm_eq h a b (n - 1)) (e : ∀ j, h1.2.1 b j = h.2.1 b j) (hn : n' = n) (h0 : 0 ≤ n) : mm_fd (h.2.1 a) c n.toNat = mm_fd (h1.2.1 b) c n'.toNat := by
  rw [hn]
  exact mm_fd_eq (fun j x y => (E j x (by omega)).trans (e j).symm)
theorem mm_eq_fd2 {h h1 : mH} {a b g k : Nat} {n n' c m : Int} (E : mm_eq h a b (n - 1)) (F : mm_eq h g k m) (e : ∀ j, h1.2.1 b j = h.2.1 b j) (e' : ∀ j, h1.2.1 k j = h.2.1 k j) (hn : n' = n) (h0 : 0 ≤ n) (hb : ∀ j, 0 ≤ h.2.1 a j ∧ h.2.1 a j ≤ m) : mm_fd (fun j => h.2.1 g (h.2.1 a j)) c n.toNat = mm_fd (fun j => h1.2.1 k (h1.2.1 b j)) c n'.toNat := by
  rw [hn]
  refine mm_fd_eq (fun j x y => ?_)
  show h.2.1 g (h.2.1 a j) = h1.2.1 k (h1.2.1 b j)
  rw [e j, e', ← E j x (by omega)]
  exact F _ (hb j).1 (hb j).2
theorem mm_eq_at2 {h h1 : mH} {a b g k : Nat} {m m' p : Int} (E : mm_eq h a b m) (F : mm_eq h g k m') (e : ∀ j, h1.2.1 b j = h.2.1 b j) (e' : ∀ j, h1.2.1 k j = h.2.1 k j) (hb : ∀ j, 0 ≤ h.2.1 a j ∧ h.2.1 a j ≤ m') : p < 0 ∨ m < p ∨ h.2.1 g (h.2.1 a p) = h1.2.1 k (h1.2.1 b p) := by
  by_cases x : p < 0
  · exact Or.inl x
  · by_cases y : m < p
    · exact Or.inr (Or.inl y)
    · refine Or.inr (Or.inr ?_)
      rw [e p, e', ← E p (by omega) (by omega)]
      exact F _ (hb p).1 (hb p).2
theorem mm_eq_keep {h h1 h2 : mH} {a b : Nat} {m m' : Int} (E : mm_eq h a b m) (A : ∀ o j, h1.2.1 o j = h.2.1 o j) (B : ∀ o j, h2.2.1 o j = h1.2.1 o j) (hm : m' ≤ m) : mm_eq h2 a b m' := fun j x y => by
  rw [B, B, A, A]; exact E j x (Int.le_trans y hm)
theorem mm_eq_nil {h : mH} {a b : Nat} {m : Int} (hm : m < 0) : mm_eq h a b m := fun j x y => absurd (Int.le_trans x y) (by omega)
/-- the class's rows while the reference is made -/
def mm_ke (h h2 : mH) : Prop := ∀ o, o ≤ 65 → ∀ j, h2.2.1 o j = h.2.1 o j
theorem mm_ke_rf {h : mH} : mm_ke h h := fun _ _ _ => rfl
theorem mm_ke_pf {h h1 : mH} {o k : Nat} {v : Int} (K : mm_ke h h1) : mm_ke h (mm_pf h1 o k v) := K
theorem mm_ke_pa {h h1 : mH} {o : Nat} {i v : Int} (K : mm_ke h h1) (ho : 66 ≤ o) : mm_ke h (mm_pa h1 o i v) := fun q hq j => (mm_pa_o q o (by omega) j).trans (K q hq j)
theorem mm_ke_nw {S : List (Nat × Nat)} {n : Nat} {h h1 : mH} (K : mm_ke h h1) (i : mm_inp S n h1) (hn : 66 ≤ n) : mm_ke h (mm_nw h1) := fun q hq j => by
  show (if q = h1.2.2 then 0 else h1.2.1 q j) = _
  rw [i.2.2, if_neg (by omega)]
  exact K q hq j
theorem mm_ke_fr {wf : List (Nat × Nat)} {wa : List Nat} {h h1 h2 : mH} (K : mm_ke h h1) (g : mm_fr wf wa h1 h2) (hw : wa.all (fun o => decide (66 ≤ o)) = true) : mm_ke h h2 := fun q hq j => by
  refine (g.2 q (fun m => ?_) j).trans (K q hq j)
  have := of_decide_eq_true (List.all_eq_true.mp hw q m)
  omega
theorem mm_eq_const {h : mH} {a b : Nat} {m v : Int} (x : ∀ j, 0 ≤ j → j ≤ m → h.2.1 a j = v) (y : ∀ j, 0 ≤ j → j ≤ m → h.2.1 b j = v) : mm_eq h a b m := fun j p q => (x j p q).trans (y j p q).symm
/-- row o holds v from 0 to m -/
def mm_al (h : mH) (o : Nat) (m v : Int) : Prop := ∀ j, 0 ≤ j → j ≤ m → h.2.1 o j = v
theorem mm_al_sm {h h2 : mH} {o : Nat} {m v : Int} (A : mm_al h o m v) (e : ∀ j, h2.2.1 o j = h.2.1 o j) : mm_al h2 o m v := fun j x y => (e j).trans (A j x y)
theorem mm_al_fr {wf : List (Nat × Nat)} {wa : List Nat} {h h2 : mH} {o : Nat} {m v : Int} (A : mm_al h o m v) (g : mm_fr wf wa h h2) (ho : o ∉ wa) : mm_al h2 o m v := fun j x y => (g.2 o ho j).trans (A j x y)
theorem mm_al_nil {h : mH} {o : Nat} {m v : Int} (hm : m < 0) : mm_al h o m v := fun j x y => absurd (Int.le_trans x y) (by omega)
theorem mm_al_put {h h2 : mH} {o : Nat} {i v : Int} (A : mm_al h o (i - 1) v) (e : h2 = mm_pa h o i v) : mm_al h2 o i v := fun j x y => by
  rw [e]
  by_cases q : j = i
  · rw [q, mm_pa_same]
  · rw [mm_pa_j o q]; exact A j x (by omega)
theorem mm_al_le {h : mH} {o : Nat} {m m' v : Int} (A : mm_al h o m v) (hm : m' ≤ m) : mm_al h o m' v := fun j x y => A j x (Int.le_trans y hm)
theorem mm_al_hi {h h2 : mH} {o : Nat} {m m' v i w : Int} (A : mm_al h o m v) (e : h2 = mm_pa h o i w) (hm : m' ≤ m) (hi : m' < i) : mm_al h2 o m' v := fun j x y => by
  rw [e, mm_pa_j o (show j ≠ i by omega)]; exact A j x (by omega)
theorem mm_al_ke {h h2 : mH} {o : Nat} {m v : Int} (A : mm_al h o m v) (K : mm_ke h h2) (ho : o ≤ 65) : mm_al h2 o m v := mm_al_sm A (K o ho)
theorem mm_al_nw {S : List (Nat × Nat)} {n o : Nat} {h : mH} {m v : Int} (A : mm_al h o m v) (i : mm_inp S n h) (ho : o ≠ n) : mm_al (mm_nw h) o m v := fun j x y => by
  show (if o = h.2.2 then 0 else h.2.1 o j) = v
  rw [i.2.2, if_neg ho]
  exact A j x y

/-! ===== courses, runners and teams kept alike ===== -/
theorem mm_up_pav {h h1 h2 h3 : mH} {o : Nat} {c c' v v' f : Int} (e1 : ∀ j, h1.2.1 o j = h.2.1 o j) (e : h2 = mm_pa h1 o c' v') (e3 : ∀ j, h3.2.1 o j = h2.2.1 o j) (hc : c' = c) (hv : v' = v) (hf : f = 1) : mm_up h h3 o c v f := by
  rw [hv] at e
  exact mm_up_pa e1 e e3 hc hf
theorem mm_eq_upv {h h1 h2 : mH} {a b : Nat} {m m' c v v' f f' : Int} (E : mm_eq h a b m) (u : mm_up h h1 a c v f) (e1 : ∀ j, h1.2.1 b j = h.2.1 b j) (w : mm_up h1 h2 b c v' f') (e2 : ∀ j, h2.2.1 a j = h1.2.1 a j) (hf : f = 1 ↔ f' = 1) (hv : f = 1 → v = v') (hm : m' ≤ m ∨ (m' ≤ m + 1 ∧ c = m + 1 ∧ f = 1)) : mm_eq h2 a b m' := by
  by_cases q : f = 1
  · rw [← hv q] at w
    exact mm_eq_up E u e1 w e2 (Or.inl hf) hm
  · exact mm_eq_up (c := c) (v := v) E u e1 (fun j => by rw [w j, if_neg (fun z => q (hf.mpr z.2)), if_neg (fun z => q (hf.mpr z.2))]) e2 (Or.inl hf) hm
theorem mm_eq_no {h h1 h2 : mH} {a b : Nat} {m m' : Int} (E : mm_eq h a b m) (e1 : ∀ j, h2.2.1 a j = h.2.1 a j) (e2 : ∀ j, h2.2.1 b j = h.2.1 b j) (hm : m' ≤ m) : mm_eq h2 a b m' := fun j x y => by
  rw [e1, e2]; exact E j x (Int.le_trans y hm)
/-- a course is taken where a runner runs it -/
def mm_tk (h : mH) : Prop := ∀ c, 0 ≤ c → c ≤ h.1 14 8 - 1 → h.2.1 18 c = mm_fd (h.2.1 85) c (h.1 66 23).toNat
/-- runners run courses that are there -/
def mm_cb (h : mH) : Prop := ∀ j, 0 ≤ j → j ≤ h.1 66 23 - 1 → h.2.1 85 j ≤ h.1 66 22 - 1
/-- four forks at most -/
def mm_fb (h : mH) : Prop := ∀ j, 0 ≤ j → j ≤ h.1 14 8 - 1 → 0 ≤ h.2.1 20 j ∧ h.2.1 20 j ≤ 4
theorem mm_tk_sm {h h2 : mH} (T : mm_tk h) (e : ∀ j, h2.2.1 18 j = h.2.1 18 j) (e' : ∀ j, h2.2.1 85 j = h.2.1 85 j) (n : h2.1 14 8 = h.1 14 8) (m : h2.1 66 23 = h.1 66 23) : mm_tk h2 := fun c x y => by
  rw [e, m, T c x (by omega)]
  exact mm_fd_eq (fun j _ _ => (e' j).symm)
theorem mm_cb_sm {h h2 : mH} (T : mm_cb h) (e' : ∀ j, h2.2.1 85 j = h.2.1 85 j) (n : h2.1 66 22 = h.1 66 22) (m : h2.1 66 23 = h.1 66 23) : mm_cb h2 := fun c x y => by
  rw [e', n]; exact T c x (by omega)
theorem mm_fb_sm {h h2 : mH} (T : mm_fb h) (e : ∀ j, h2.2.1 20 j = h.2.1 20 j) (n : h2.1 14 8 = h.1 14 8) : mm_fb h2 := fun c x y => by
  rw [e]; exact T c x (by omega)
theorem mm_tk_nil {h : mH} (n : h.1 14 8 = 0) : mm_tk h := fun c x y => absurd (Int.le_trans x y) (by omega)
theorem mm_cb_nil {h : mH} (n : h.1 66 23 = 0) : mm_cb h := fun c x y => absurd (Int.le_trans x y) (by omega)
theorem mm_fb_nil {h : mH} (n : h.1 14 8 = 0) : mm_fb h := fun c x y => absurd (Int.le_trans x y) (by omega)
theorem mm_fd_none {f : Int → Int} {c : Int} {n : Nat} (e : ∀ j : Int, 0 ≤ j → j < n → f j ≠ c) : mm_fd f c n = 0 := by
  induction n with
  | zero => rfl
  | succ n ih =>
    show (if f (n : Int) = c then 1 else mm_fd f c n) = 0
    rw [if_neg (e (n : Int) (by omega) (by omega))]
    exact ih (fun j a b => e j a (by omega))
theorem mm_fd_more {f : Int → Int} {c n : Int} (h0 : 0 ≤ n) : mm_fd f c (n + 1).toNat = if f n = c then 1 else mm_fd f c n.toNat := by
  rw [show (n + 1).toNat = n.toNat + 1 by omega]
  show (if f (n.toNat : Int) = c then 1 else mm_fd f c n.toNat) = _
  rw [Int.toNat_of_nonneg h0]
/-- course: the new one isn't taken -/
theorem mm_tk_course {h h1 h2 : mH} {f : Int} (T : mm_tk h) (B : mm_cb h) (u : mm_up h h1 18 (h.1 14 8) 0 f) (e : ∀ j, h2.2.1 18 j = h1.2.1 18 j) (e' : ∀ j, h2.2.1 85 j = h.2.1 85 j) (n : h2.1 66 23 = h.1 66 23) (m : (f = 1 ∧ h2.1 14 8 = h.1 14 8 + 1) ∨ (f = 0 ∧ h2.1 14 8 = h.1 14 8)) (hc : h.1 66 22 = h.1 14 8) : mm_tk h2 := fun c x y => by
  rw [e, u c, n]
  by_cases q : c = h.1 14 8 ∧ f = 1
  · rw [if_pos q]
    refine (mm_fd_none (fun j a b => ?_)).symm
    rw [e']
    have := B j a (by omega)
    omega
  · rw [if_neg q, T c x (by omega)]
    exact mm_fd_eq (fun j _ _ => (e' j).symm)
theorem mm_cb_course {h h2 : mH} (B : mm_cb h) (e' : ∀ j, h2.2.1 85 j = h.2.1 85 j) (n : h2.1 66 23 = h.1 66 23) (m : h.1 66 22 ≤ h2.1 66 22) : mm_cb h2 := fun j x y => by
  rw [e']
  have := B j x (by omega)
  omega
theorem mm_fb_course {h h1 h2 : mH} {f : Int} (B : mm_fb h) (u : mm_up h h1 20 (h.1 14 8) 0 f) (e : ∀ j, h2.2.1 20 j = h1.2.1 20 j) (m : (f = 1 ∧ h2.1 14 8 = h.1 14 8 + 1) ∨ (f = 0 ∧ h2.1 14 8 = h.1 14 8)) : mm_fb h2 := fun j x y => by
  rw [e, u j]
  by_cases q : j = h.1 14 8 ∧ f = 1
  · rw [if_pos q]; exact ⟨by omega, by omega⟩
  · rw [if_neg q]; exact B j x (by omega)
theorem mm_fb_add {h h1 h2 : mH} {f c v : Int} (B : mm_fb h) (u : mm_up h h1 20 c v f) (e : ∀ j, h2.2.1 20 j = h1.2.1 20 j) (m : h2.1 14 8 = h.1 14 8) (hv : f = 1 → 0 ≤ v ∧ v ≤ 4) : mm_fb h2 := fun j x y => by
  rw [e, u j]
  by_cases q : j = c ∧ f = 1
  · rw [if_pos q]; exact hv q.2
  · rw [if_neg q]; exact B j x (by omega)
/-- runner: its course is taken -/
theorem mm_tk_runner {h h1 h2 : mH} {f f' p n0 : Int} (T : mm_tk h) (u : mm_up h h1 18 p 1 f) (e : ∀ j, h2.2.1 18 j = h1.2.1 18 j) (w : mm_up h1 h2 85 n0 p f') (e' : ∀ j, h1.2.1 85 j = h.2.1 85 j) (hn : n0 = h.1 66 23) (h0 : 0 ≤ h.1 66 23) (hf : f = 1 ↔ f' = 1) (n : (f = 1 ∧ h2.1 66 23 = h.1 66 23 + 1) ∨ (f ≠ 1 ∧ h2.1 66 23 = h.1 66 23)) (m : h2.1 14 8 = h.1 14 8) : mm_tk h2 := fun c x y => by
  subst hn
  have o : ∀ j : Int, 0 ≤ j → j < h.1 66 23 → h.2.1 85 j = h2.2.1 85 j := fun j a b => by
    rw [w j, if_neg (fun z => absurd z.1 (by omega)), e']
  have z : mm_fd (h2.2.1 85) c (h.1 66 23).toNat = h.2.1 18 c := by
    rw [T c x (by omega)]
    exact (mm_fd_eq (fun j a b => o j a (by omega))).symm
  rw [e, u c]
  rcases n with ⟨n1, n2⟩ | ⟨n1, n2⟩
  · have w1 : h2.2.1 85 (h.1 66 23) = p := by rw [w, if_pos ⟨rfl, hf.mp n1⟩]
    rw [n2, mm_fd_more h0, w1, z]
    by_cases q : c = p
    · rw [if_pos ⟨q, n1⟩, if_pos q.symm]
    · rw [if_neg (fun w => q w.1), if_neg (fun w => q w.symm)]
  · rw [n2, if_neg (fun w => n1 w.2), z]
theorem mm_cb_runner {h h1 h2 : mH} {f' p n0 : Int} (B : mm_cb h) (w : mm_up h1 h2 85 n0 p f') (e' : ∀ j, h1.2.1 85 j = h.2.1 85 j) (hn : n0 = h.1 66 23) (n : (f' = 1 ∧ h2.1 66 23 = h.1 66 23 + 1 ∧ p < h.1 66 22) ∨ (f' ≠ 1 ∧ h2.1 66 23 = h.1 66 23)) (m : h2.1 66 22 = h.1 66 22) : mm_cb h2 := fun j x y => by
  rw [w j, m]
  by_cases q : j = n0 ∧ f' = 1
  · rw [if_pos q]; omega
  · rw [if_neg q, e']; exact B j x (by omega)
theorem mm_eq_v {h : mH} {a b : Nat} {m : Int} (E : mm_eq h a b m) (p : Int) : p < 0 ∨ m < p ∨ h.2.1 a p = h.2.1 b p := mm_eq_at E (fun _ => rfl) p
theorem mm_ad_at {h h1 : mH} (p : Int) (E17 : mm_eq h 17 83 (h.1 14 8 - 1)) (E19 : mm_eq h 19 80 (h.1 14 8 - 1)) (E20 : mm_eq h 20 81 (h.1 14 8 - 1)) (T : mm_tk h) (F : mm_fb h) (e83 : ∀ j, h1.2.1 83 j = h.2.1 83 j) (e80 : ∀ j, h1.2.1 80 j = h.2.1 80 j) (e81 : ∀ j, h1.2.1 81 j = h.2.1 81 j) (e85 : ∀ j, h1.2.1 85 j = h.2.1 85 j) (n : h1.1 66 23 = h.1 66 23) : p < 0 ∨ h.1 14 8 ≤ p ∨ (h.2.1 17 p = h1.2.1 83 p ∧ h.2.1 19 p = h1.2.1 80 p ∧ h.2.1 20 p = h1.2.1 81 p ∧ h.2.1 18 p = mm_fd (h1.2.1 85) p (h1.1 66 23).toNat ∧ 0 ≤ h.2.1 20 p ∧ h.2.1 20 p ≤ 4) := by
  by_cases x : p < 0
  · exact Or.inl x
  · by_cases y : h.1 14 8 ≤ p
    · exact Or.inr (Or.inl y)
    · refine Or.inr (Or.inr ⟨?_, ?_, ?_, ?_, F p (by omega) (by omega)⟩)
      · rw [e83]; exact E17 p (by omega) (by omega)
      · rw [e80]; exact E19 p (by omega) (by omega)
      · rw [e81]; exact E20 p (by omega) (by omega)
      · rw [n, T p (by omega) (by omega)]
        exact mm_fd_eq (fun j _ _ => (e85 j).symm)

/-! ===== teams ===== -/
def mm_dv (v : Int) : Nat → Int
  | 0 => v
  | n + 1 => mm_dv v n / 3
/-- 1 where the first n digits of the three differ -/
def mm_ds (a b c : Int) : Nat → Int
  | 0 => 1
  | n + 1 => if mm_dv a n % 3 = mm_dv b n % 3 ∨ mm_dv b n % 3 = mm_dv c n % 3 ∨ mm_dv a n % 3 = mm_dv c n % 3 then 0 else mm_ds a b c n
theorem mm_ds_rg (a b c : Int) (n : Nat) : 0 ≤ mm_ds a b c n ∧ mm_ds a b c n ≤ 1 := by
  induction n with
  | zero => exact ⟨(by decide : (0 : Int) ≤ 1), (by decide : (1 : Int) ≤ 1)⟩
  | succ n ih =>
    show 0 ≤ (if mm_dv a n % 3 = mm_dv b n % 3 ∨ mm_dv b n % 3 = mm_dv c n % 3 ∨ mm_dv a n % 3 = mm_dv c n % 3 then 0 else mm_ds a b c n) ∧ (if mm_dv a n % 3 = mm_dv b n % 3 ∨ mm_dv b n % 3 = mm_dv c n % 3 ∨ mm_dv a n % 3 = mm_dv c n % 3 then 0 else mm_ds a b c n) ≤ 1
    split
    · exact ⟨by decide, by decide⟩
    · exact ih
theorem mm_dv_step {v x i : Int} (w : x = mm_dv v i.toNat) (h0 : 0 ≤ i) : x / 3 = mm_dv v (i + 1).toNat := by
  rw [show (i + 1).toNat = i.toNat + 1 by omega]
  show x / 3 = mm_dv v i.toNat / 3
  rw [w]
theorem mm_dv_end {v x i n : Int} (w : x = mm_dv v i.toNat) (e : i.toNat = n.toNat) : x % 3 = mm_dv v n.toNat % 3 := by rw [← e, w]
theorem mm_ds_step {a b c x y z i : Int} (w : mm_ds a b c i.toNat = 1) (ea : x = mm_dv a i.toNat % 3) (eb : y = mm_dv b i.toNat % 3) (ec : z = mm_dv c i.toNat % 3) (h0 : 0 ≤ i) (n1 : x ≠ y) (n2 : y ≠ z) (n3 : x ≠ z) : mm_ds a b c (i + 1).toNat = 1 := by
  rw [show (i + 1).toNat = i.toNat + 1 by omega]
  show (if mm_dv a i.toNat % 3 = mm_dv b i.toNat % 3 ∨ mm_dv b i.toNat % 3 = mm_dv c i.toNat % 3 ∨ mm_dv a i.toNat % 3 = mm_dv c i.toNat % 3 then 0 else mm_ds a b c i.toNat) = 1
  rw [← ea, ← eb, ← ec, if_neg (fun q => by rcases q with q | q | q; exact n1 q; exact n2 q; exact n3 q)]
  exact w
theorem mm_ds_low {a b c : Int} {k n : Nat} (w : mm_ds a b c k = 0) (h : k ≤ n) : mm_ds a b c n = 0 := by
  induction n with
  | zero =>
    have : k = 0 := by omega
    rw [this] at w
    exact w
  | succ n ih =>
    by_cases q : k = n + 1
    · rw [← q]; exact w
    · show (if mm_dv a n % 3 = mm_dv b n % 3 ∨ mm_dv b n % 3 = mm_dv c n % 3 ∨ mm_dv a n % 3 = mm_dv c n % 3 then 0 else mm_ds a b c n) = 0
      split
      · rfl
      · exact ih (by omega)
theorem mm_ds_hit {a b c x y z i n : Int} (ea : x = mm_dv a i.toNat % 3) (eb : y = mm_dv b i.toNat % 3) (ec : z = mm_dv c i.toNat % 3) (q : x = y ∨ y = z ∨ x = z) (h0 : 0 ≤ i) (h1 : i < n) : mm_ds a b c n.toNat = 0 := by
  refine mm_ds_low (k := i.toNat + 1) ?_ (by omega)
  show (if mm_dv a i.toNat % 3 = mm_dv b i.toNat % 3 ∨ mm_dv b i.toNat % 3 = mm_dv c i.toNat % 3 ∨ mm_dv a i.toNat % 3 = mm_dv c i.toNat % 3 then 0 else mm_ds a b c i.toNat) = 0
  rw [← ea, ← eb, ← ec, if_pos q]
theorem mm_ds_end {a b c i n : Int} (w : mm_ds a b c i.toNat = 1) (e : i.toNat = n.toNat) : mm_ds a b c n.toNat = 1 := by rw [← e]; exact w
/-- row o gets v at three places, where f is 1 -/
def mm_u3 (h h2 : mH) (o : Nat) (a b c v f : Int) : Prop := ∀ j, h2.2.1 o j = if (j = a ∨ j = b ∨ j = c) ∧ f = 1 then v else h.2.1 o j
theorem mm_u3_no {h h2 : mH} {o : Nat} {a b c v f : Int} (hf : f ≠ 1) (e : ∀ j, h2.2.1 o j = h.2.1 o j) : mm_u3 h h2 o a b c v f := fun j => by
  rw [if_neg (fun w => hf w.2)]; exact e j
theorem mm_u3_up {h h1 h2 h3 : mH} {o : Nat} {a b c v : Int} (u : mm_up h h1 o a v 1) (w : mm_up h1 h2 o b v 1) (z : mm_up h2 h3 o c v 1) : mm_u3 h h3 o a b c v 1 := fun j => by
  rw [z j, w j, u j]
  by_cases q1 : j = a <;> by_cases q2 : j = b <;> by_cases q3 : j = c <;> simp [q1, q2, q3]
theorem mm_u3_tr {h h1 h2 h3 : mH} {o : Nat} {a b c v f f' : Int} (e1 : ∀ j, h1.2.1 o j = h.2.1 o j) (u : mm_u3 h1 h2 o a b c v f) (e3 : ∀ j, h3.2.1 o j = h2.2.1 o j) (hf : f = f') : mm_u3 h h3 o a b c v f' := fun j => by
  rw [e3 j, u j, e1 j, hf]
/-- who is in a team -/
def mm_it (h : mH) : Prop := ∀ j, 0 ≤ j → j ≤ h.1 22 8 - 1 → (h.2.1 28 j = 0 ↔ h.2.1 88 j = -1)
theorem mm_it_sm {h h2 : mH} (T : mm_it h) (e : ∀ j, h2.2.1 28 j = h.2.1 28 j) (e' : ∀ j, h2.2.1 88 j = h.2.1 88 j) (n : h2.1 22 8 = h.1 22 8) : mm_it h2 := fun j x y => by
  rw [e, e']; exact T j x (by omega)
theorem mm_it_nil {h : mH} (n : h.1 22 8 = 0) : mm_it h := fun c x y => absurd (Int.le_trans x y) (by omega)
theorem mm_it_v {h : mH} (T : mm_it h) {p : Int} (h0 : 0 ≤ p) (h1 : p < h.1 22 8) : h.2.1 28 p = 0 ↔ h.2.1 88 p = -1 := T p h0 (by omega)
theorem mm_it_runner {h h1 h2 : mH} {f f' n n' : Int} (T : mm_it h) (u : mm_up h h1 28 n 0 f) (e : ∀ j, h2.2.1 28 j = h1.2.1 28 j) (w : mm_up h1 h2 88 n' (-1) f') (e' : ∀ j, h1.2.1 88 j = h.2.1 88 j) (hn : n = h.1 22 8) (hn' : n' = h.1 22 8) (hf : f = 1 ↔ f' = 1) (m : (f = 1 ∧ h2.1 22 8 = h.1 22 8 + 1) ∨ (f ≠ 1 ∧ h2.1 22 8 = h.1 22 8)) : mm_it h2 := fun j x y => by
  rw [e, u j, w j, e', hn, hn']
  by_cases q : j = h.1 22 8 ∧ f = 1
  · rw [if_pos q, if_pos ⟨q.1, hf.mp q.2⟩]; exact ⟨fun _ => rfl, fun _ => rfl⟩
  · rw [if_neg q, if_neg (fun z => q ⟨z.1, hf.mpr z.2⟩)]
    exact T j x (by omega)
theorem mm_it_team {h h1 h2 : mH} {a b c t f f' : Int} (T : mm_it h) (u : mm_u3 h h1 28 a b c 1 f) (e : ∀ j, h2.2.1 28 j = h1.2.1 28 j) (w : mm_u3 h1 h2 88 a b c t f') (e' : ∀ j, h1.2.1 88 j = h.2.1 88 j) (hf : f = 1 ↔ f' = 1) (ht : 0 ≤ t) (m : h2.1 22 8 = h.1 22 8) : mm_it h2 := fun j x y => by
  rw [e, u j, w j, e']
  by_cases q : (j = a ∨ j = b ∨ j = c) ∧ f = 1
  · rw [if_pos q, if_pos ⟨q.1, hf.mp q.2⟩]; exact ⟨fun z => absurd z (by decide), fun z => by omega⟩
  · rw [if_neg q, if_neg (fun z => q ⟨z.1, hf.mpr z.2⟩)]
    exact T j x (by omega)
/-- the loop that writes the team's members: m of them are done -/
def mm_tm (h h2 : mH) (a b c t m : Int) : Prop := ∀ j, h2.2.1 88 j = if (0 < m ∧ j = a) ∨ (1 < m ∧ j = b) ∨ (2 < m ∧ j = c) then t else h.2.1 88 j
theorem mm_tm_0 {h h2 : mH} {a b c t : Int} (e : ∀ j, h2.2.1 88 j = h.2.1 88 j) : mm_tm h h2 a b c t 0 := fun j => by
  rw [if_neg (fun q => by rcases q with q | q | q <;> exact absurd q.1 (by decide))]; exact e j
theorem mm_tm_3 {h h2 : mH} {a b c t m : Int} (w : mm_tm h h2 a b c t m) (hm : m = 3) : mm_u3 h h2 88 a b c t 1 := fun j => by
  rw [w j, hm]; simp
theorem mm_tm_s {h h1 h2 h3 : mH} {a b c t t' m v : Int} (w : mm_tm h h1 a b c t m) (e : h2 = mm_pa h1 88 v t') (et : t' = t) (e3 : ∀ j, h3.2.1 88 j = h2.2.1 88 j) (hv : (m = 0 ∧ v = a) ∨ (m = 1 ∧ v = b) ∨ (m = 2 ∧ v = c)) : mm_tm h h3 a b c t (m + 1) := fun j => by
  rw [e3 j, e, et]
  show (if 88 = 88 ∧ j = v then t else h1.2.1 88 j) = _
  rw [w j]
  rcases hv with ⟨q1, q2⟩ | ⟨q1, q2⟩ | ⟨q1, q2⟩ <;> subst q1 <;> rw [q2] <;> by_cases z1 : j = a <;> by_cases z2 : j = b <;> by_cases z3 : j = c <;> simp_all
theorem mm_tm_v {r : Int → Int} {t t' x a b c : Int} (et : t' = t) (w0 : r (3 * t) = a) (w1 : r (3 * t + 1) = b) (w2 : r (3 * t + 2) = c) (h0 : 0 ≤ x) (h3 : x < 3) : (x = 0 ∧ r (3 * t' + x) = a) ∨ (x = 1 ∧ r (3 * t' + x) = b) ∨ (x = 2 ∧ r (3 * t' + x) = c) := by
  subst et
  by_cases q : x = 0
  · left; subst q; exact ⟨rfl, by rw [Int.add_zero]; exact w0⟩
  · by_cases q1 : x = 1
    · right; left; subst q1; exact ⟨rfl, w1⟩
    · right; right
      have q2 : x = 2 := by omega
      subst q2
      exact ⟨rfl, w2⟩
theorem mm_pa_at {h h2 : mH} {o : Nat} {i j v : Int} (e : h2 = mm_pa h o i v) (hj : j = i) : h2.2.1 o j = v := by rw [e, hj]; exact mm_pa_same _ _ _ _
theorem mm_pa_off {h h2 : mH} {o : Nat} {i j v : Int} (e : h2 = mm_pa h o i v) (hj : j ≠ i) : h2.2.1 o j = h.2.1 o j := by rw [e]; exact mm_pa_j o hj
theorem mm_ds_E {a b c i n : Int} (h0 : 0 ≤ i) (h1 : i = 0 ∨ i ≤ n) : i < n ∨ mm_ds a b c i.toNat = mm_ds a b c n.toNat := by
  by_cases q : i < n
  · exact Or.inl q
  · right
    rw [show i.toNat = n.toNat by omega]
def mm_gt (h : mH) (p1 p2 p3 : Int) : Int := if (p1 ≠ p2 ∧ p2 ≠ p3 ∧ p1 ≠ p3 ∧ h.2.1 28 p1 = 0 ∧ h.2.1 28 p2 = 0 ∧ h.2.1 28 p3 = 0 ∧ h.2.1 23 p1 = h.2.1 23 p2 ∧ h.2.1 23 p2 = h.2.1 23 p3 ∧ h.2.1 17 (h.2.1 23 p1) = 0 ∧ mm_ds (h.2.1 25 p1) (h.2.1 25 p2) (h.2.1 25 p3) (h.2.1 20 (h.2.1 23 p1)).toNat = 1) then 1 else 0
theorem mm_gt_x {h : mH} {p1 p2 p3 x : Int} (q : (x = 1 ∧ (p1 ≠ p2 ∧ p2 ≠ p3 ∧ p1 ≠ p3 ∧ h.2.1 28 p1 = 0 ∧ h.2.1 28 p2 = 0 ∧ h.2.1 28 p3 = 0 ∧ h.2.1 23 p1 = h.2.1 23 p2 ∧ h.2.1 23 p2 = h.2.1 23 p3 ∧ h.2.1 17 (h.2.1 23 p1) = 0 ∧ mm_ds (h.2.1 25 p1) (h.2.1 25 p2) (h.2.1 25 p3) (h.2.1 20 (h.2.1 23 p1)).toNat = 1)) ∨ (x = 0 ∧ (p1 = p2 ∨ p2 = p3 ∨ p1 = p3 ∨ h.2.1 28 p1 ≠ 0 ∨ h.2.1 28 p2 ≠ 0 ∨ h.2.1 28 p3 ≠ 0 ∨ h.2.1 23 p1 ≠ h.2.1 23 p2 ∨ h.2.1 23 p2 ≠ h.2.1 23 p3 ∨ h.2.1 17 (h.2.1 23 p1) ≠ 0 ∨ mm_ds (h.2.1 25 p1) (h.2.1 25 p2) (h.2.1 25 p3) (h.2.1 20 (h.2.1 23 p1)).toNat = 0))) : x = mm_gt h p1 p2 p3 := by
  unfold mm_gt
  rcases q with ⟨q1, q2⟩ | ⟨q1, q2⟩
  · rw [if_pos q2]; exact q1
  · rw [if_neg (fun w => by omega)]; exact q1
def mm_gu (h : mH) (p1 p2 p3 : Int) : Int := if (((p1 ≠ p2 ∧ p2 ≠ p3 ∧ p1 ≠ p3 ∧ h.2.1 85 p1 = h.2.1 85 p2 ∧ h.2.1 85 p2 = h.2.1 85 p3 ∧ h.2.1 83 (h.2.1 85 p1) = 0) ∧ h.2.1 88 p1 = -1 ∧ h.2.1 88 p2 = -1 ∧ h.2.1 88 p3 = -1) ∧ mm_ds (h.2.1 87 p1) (h.2.1 87 p2) (h.2.1 87 p3) (h.2.1 81 (h.2.1 85 p1)).toNat = 1) then 1 else 0
theorem mm_gu_x {h : mH} {p1 p2 p3 x : Int} (q : (x = 1 ∧ (((p1 ≠ p2 ∧ p2 ≠ p3 ∧ p1 ≠ p3 ∧ h.2.1 85 p1 = h.2.1 85 p2 ∧ h.2.1 85 p2 = h.2.1 85 p3 ∧ h.2.1 83 (h.2.1 85 p1) = 0) ∧ h.2.1 88 p1 = -1 ∧ h.2.1 88 p2 = -1 ∧ h.2.1 88 p3 = -1) ∧ mm_ds (h.2.1 87 p1) (h.2.1 87 p2) (h.2.1 87 p3) (h.2.1 81 (h.2.1 85 p1)).toNat = 1)) ∨ (x = 0 ∧ (((p1 = p2 ∨ p2 = p3 ∨ p1 = p3 ∨ h.2.1 85 p1 ≠ h.2.1 85 p2 ∨ h.2.1 85 p2 ≠ h.2.1 85 p3 ∨ h.2.1 83 (h.2.1 85 p1) ≠ 0) ∨ h.2.1 88 p1 ≠ -1 ∨ h.2.1 88 p2 ≠ -1 ∨ h.2.1 88 p3 ≠ -1) ∨ mm_ds (h.2.1 87 p1) (h.2.1 87 p2) (h.2.1 87 p3) (h.2.1 81 (h.2.1 85 p1)).toNat = 0))) : x = mm_gu h p1 p2 p3 := by
  unfold mm_gu
  rcases q with ⟨q1, q2⟩ | ⟨q1, q2⟩
  · rw [if_pos q2]; exact q1
  · rw [if_neg (fun w => by omega)]; exact q1
theorem mm_gt_rg (h : mH) (p1 p2 p3 : Int) : 0 ≤ mm_gt h p1 p2 p3 ∧ mm_gt h p1 p2 p3 ≤ 1 := by
  unfold mm_gt
  split <;> omega
theorem mm_gu_rg (h : mH) (p1 p2 p3 : Int) : 0 ≤ mm_gu h p1 p2 p3 ∧ mm_gu h p1 p2 p3 ≤ 1 := by
  unfold mm_gu
  split <;> omega
theorem mm_gt_eq {h h1 : mH} {p1 p2 p3 : Int} (E17 : mm_eq h 17 83 (h.1 14 8 - 1)) (E20 : mm_eq h 20 81 (h.1 14 8 - 1)) (B : mm_cb h) (E23 : mm_eq h 23 85 (h.1 22 8 - 1)) (E25 : mm_eq h 25 87 (h.1 22 8 - 1)) (I : mm_it h) (hc : h.1 66 22 = h.1 14 8) (hr : h.1 66 23 = h.1 22 8) (h0 : ∀ j, 0 ≤ h.2.1 85 j) (e83 : ∀ j, h1.2.1 83 j = h.2.1 83 j) (e81 : ∀ j, h1.2.1 81 j = h.2.1 81 j) (e85 : ∀ j, h1.2.1 85 j = h.2.1 85 j) (e87 : ∀ j, h1.2.1 87 j = h.2.1 87 j) (e88 : ∀ j, h1.2.1 88 j = h.2.1 88 j) : (p1 < 0 ∨ h.1 22 8 ≤ p1 ∨ p2 < 0 ∨ h.1 22 8 ≤ p2 ∨ p3 < 0 ∨ h.1 22 8 ≤ p3) ∨ mm_gt h p1 p2 p3 = mm_gu h1 p1 p2 p3 := by
  by_cases q : p1 < 0 ∨ h.1 22 8 ≤ p1 ∨ p2 < 0 ∨ h.1 22 8 ≤ p2 ∨ p3 < 0 ∨ h.1 22 8 ≤ p3
  · exact Or.inl q
  · refine Or.inr ?_
    have a1 : 0 ≤ p1 ∧ p1 ≤ h.1 22 8 - 1 := by omega
    have a2 : 0 ≤ p2 ∧ p2 ≤ h.1 22 8 - 1 := by omega
    have a3 : 0 ≤ p3 ∧ p3 ≤ h.1 22 8 - 1 := by omega
    have x1 := E23 p1 a1.1 a1.2
    have x2 := E23 p2 a2.1 a2.2
    have x3 := E23 p3 a3.1 a3.2
    have b1 := B p1 a1.1 (by omega)
    have c1 := h0 p1
    have y17 := E17 (h.2.1 85 p1) c1 (by omega)
    have y20 := E20 (h.2.1 85 p1) c1 (by omega)
    have v1 := E25 p1 a1.1 a1.2
    have v2 := E25 p2 a2.1 a2.2
    have v3 := E25 p3 a3.1 a3.2
    have i1 := I p1 a1.1 a1.2
    have i2 := I p2 a2.1 a2.2
    have i3 := I p3 a3.1 a3.2
    refine (mm_gu_x (h := h1) ?_)
    unfold mm_gt
    rw [e85, e85, e85, e83, e81, e87, e87, e87, e88, e88, e88, x1, x2, x3, y17, y20, v1, v2, v3]
    have dr := mm_ds_rg (h.2.1 87 p1) (h.2.1 87 p2) (h.2.1 87 p3) (h.2.1 81 (h.2.1 85 p1)).toNat
    split
    · left; omega
    · right; omega

/-! ===== tracks ===== -/
def mm_mv (b : Int) : Int := if b = 10 ∨ b = 32 then -2 else if b = 100 then 2 else if b = 108 then 3 else if b = 114 then 1 else if b = 117 then 0 else -1
theorem mm_mv_x {b r : Int} (q : (b = 10 ∧ r = -2) ∨ (b = 32 ∧ r = -2) ∨ (b = 100 ∧ r = 2) ∨ (b = 108 ∧ r = 3) ∨ (b = 114 ∧ r = 1) ∨ (b = 117 ∧ r = 0) ∨ (b ≠ 10 ∧ b ≠ 32 ∧ b ≠ 100 ∧ b ≠ 108 ∧ b ≠ 114 ∧ b ≠ 117 ∧ r = -1)) : mm_mv b = r := by
  unfold mm_mv
  repeat' split
  all_goals omega
theorem mm_mv_rg (b : Int) : mm_mv b = -2 ∨ mm_mv b = -1 ∨ (0 ≤ mm_mv b ∧ mm_mv b ≤ 3) := by
  unfold mm_mv
  repeat' split
  all_goals omega
def mm_wt (nx sc : Int → Int → Int) (m : Int) (q : Int × Int) : Int × Int := if q.1 < 0 then q else if m = -2 then q else if m = -1 then (-2, q.2) else if nx q.1 m = -1 then (-3, q.2) else (nx q.1 m, mm_w (q.2 + sc q.1 (nx q.1 m)))
def mm_wk (nx sc : Int → Int → Int) (tp : Int → Int) (c0 : Int) : Nat → Int × Int
  | 0 => (c0, 0)
  | n + 1 => mm_wt nx sc (mm_mv (tp (n : Int))) (mm_wk nx sc tp c0 n)
def mm_wr (q : Int × Int) : Int := if q.1 < 0 then q.1 else q.2
theorem mm_wk_s {nx sc : Int → Int → Int} {tp : Int → Int} {c0 : Int} {i : Int} (h0 : 0 ≤ i) : mm_wk nx sc tp c0 (i + 1).toNat = mm_wt nx sc (mm_mv (tp i)) (mm_wk nx sc tp c0 i.toNat) := by
  rw [show (i + 1).toNat = i.toNat + 1 by omega]
  show mm_wt nx sc (mm_mv (tp (i.toNat : Int))) _ = _
  rw [Int.toNat_of_nonneg h0]
theorem mm_wk_skip {nx sc : Int → Int → Int} {tp : Int → Int} {c0 : Int} {i c s : Int} (w : mm_wk nx sc tp c0 i.toNat = (c, s)) (h0 : 0 ≤ i) (hc : 0 ≤ c) (hm : mm_mv (tp i) = -2) : mm_wk nx sc tp c0 (i + 1).toNat = (c, s) := by
  rw [mm_wk_s h0, w, hm]
  unfold mm_wt
  rw [if_neg (show ¬ c < 0 by omega), if_pos rfl]
theorem mm_wk_go {nx sc : Int → Int → Int} {tp : Int → Int} {c0 : Int} {i c s m t s' : Int} (w : mm_wk nx sc tp c0 i.toNat = (c, s)) (h0 : 0 ≤ i) (hc : 0 ≤ c) (hm : mm_mv (tp i) = m) (m2 : m ≠ -2) (m1 : m ≠ -1) (hn : nx c m = t) (ht : t ≠ -1) (hs : s' = mm_w (s + sc c t)) : mm_wk nx sc tp c0 (i + 1).toNat = (t, s') := by
  rw [mm_wk_s h0, w, hm]
  unfold mm_wt
  rw [if_neg (show ¬ c < 0 by omega), if_neg m2, if_neg m1]
  show (if nx c m = -1 then ((-3 : Int), s) else (nx c m, mm_w (s + sc c (nx c m)))) = _
  rw [hn, if_neg ht, hs]
theorem mm_wk_stay {nx sc : Int → Int → Int} {tp : Int → Int} {c0 : Int} {k n : Nat} (q : (mm_wk nx sc tp c0 k).1 < 0) (h : k ≤ n) : mm_wk nx sc tp c0 n = mm_wk nx sc tp c0 k := by
  induction n with
  | zero => rw [show k = 0 by omega]
  | succ n ih =>
    by_cases e : k = n + 1
    · rw [e]
    · have z := ih (by omega)
      show mm_wt nx sc _ (mm_wk nx sc tp c0 n) = _
      rw [z]
      unfold mm_wt
      rw [if_pos q]
theorem mm_wk_f2 {nx sc : Int → Int → Int} {tp : Int → Int} {c0 : Int} {i c s n : Int} (w : mm_wk nx sc tp c0 i.toNat = (c, s)) (h0 : 0 ≤ i) (hc : 0 ≤ c) (hm : mm_mv (tp i) = -1) (hn : i < n) : -2 = mm_wr (mm_wk nx sc tp c0 n.toNat) := by
  have z : mm_wk nx sc tp c0 (i + 1).toNat = (-2, s) := by
    rw [mm_wk_s h0, w, hm]
    unfold mm_wt
    rw [if_neg (show ¬ c < 0 by omega), if_neg (by decide), if_pos rfl]
  rw [mm_wk_stay (k := (i + 1).toNat) (by rw [z]; exact (by decide : (-2 : Int) < 0)) (by omega), z]
  rfl
theorem mm_wk_f3 {nx sc : Int → Int → Int} {tp : Int → Int} {c0 : Int} {i c s m n : Int} (w : mm_wk nx sc tp c0 i.toNat = (c, s)) (h0 : 0 ≤ i) (hc : 0 ≤ c) (hm : mm_mv (tp i) = m) (m2 : m ≠ -2) (m1 : m ≠ -1) (hx : nx c m = -1) (hn : i < n) : -3 = mm_wr (mm_wk nx sc tp c0 n.toNat) := by
  have z : mm_wk nx sc tp c0 (i + 1).toNat = (-3, s) := by
    rw [mm_wk_s h0, w, hm]
    unfold mm_wt
    rw [if_neg (show ¬ c < 0 by omega), if_neg m2, if_neg m1]
    show (if nx c m = -1 then ((-3 : Int), s) else (nx c m, mm_w (s + sc c (nx c m)))) = _
    rw [hx, if_pos rfl]
  rw [mm_wk_stay (k := (i + 1).toNat) (by rw [z]; exact (by decide : (-3 : Int) < 0)) (by omega), z]
  rfl
theorem mm_wk_end {nx sc : Int → Int → Int} {tp : Int → Int} {c0 : Int} {i c s n : Int} (w : mm_wk nx sc tp c0 i.toNat = (c, s)) (hc : 0 ≤ c) (e : i = n) : s = mm_wr (mm_wk nx sc tp c0 n.toNat) := by
  rw [← e, w]
  unfold mm_wr
  rw [if_neg (show ¬ c < 0 by omega)]
theorem mm_wk_eq {nx sc : Int → Int → Int} {tp : Int → Int} {c0 : Int} {nx' sc' : Int → Int → Int} {tp' : Int → Int} {n : Nat} (P : Int → Prop) (p0 : P c0) (hp : ∀ c m, P c → 0 ≤ m → m ≤ 3 → nx c m ≠ -1 → P (nx c m)) (hn : ∀ c m, P c → 0 ≤ m → m ≤ 3 → nx' c m = nx c m) (hs : ∀ a b, P a → P b → sc' a b = sc a b) (ht : ∀ j : Int, 0 ≤ j → j < n → tp' j = tp j) : mm_wk nx' sc' tp' c0 n = mm_wk nx sc tp c0 n ∧ (0 ≤ (mm_wk nx sc tp c0 n).1 → P (mm_wk nx sc tp c0 n).1) := by
  induction n with
  | zero => exact ⟨rfl, fun _ => p0⟩
  | succ n ih =>
    obtain ⟨z, y⟩ := ih (fun j a b => ht j a (by omega))
    show mm_wt nx' sc' (mm_mv (tp' (n : Int))) (mm_wk nx' sc' tp' c0 n) = mm_wt nx sc (mm_mv (tp (n : Int))) (mm_wk nx sc tp c0 n) ∧ (0 ≤ (mm_wt nx sc (mm_mv (tp (n : Int))) (mm_wk nx sc tp c0 n)).1 → P (mm_wt nx sc (mm_mv (tp (n : Int))) (mm_wk nx sc tp c0 n)).1)
    rw [z, ht (n : Int) (by omega) (by omega)]
    generalize mm_wk nx sc tp c0 n = q at y ⊢
    have r := mm_mv_rg (tp (n : Int))
    generalize mm_mv (tp (n : Int)) = m at r ⊢
    unfold mm_wt
    by_cases a1 : q.1 < 0
    · rw [if_pos a1, if_pos a1]; exact ⟨rfl, fun w => absurd a1 (by omega)⟩
    · rw [if_neg a1, if_neg a1]
      have yq := y (by omega)
      by_cases a2 : m = -2
      · rw [if_pos a2, if_pos a2]; exact ⟨rfl, fun _ => yq⟩
      · rw [if_neg a2, if_neg a2]
        by_cases a3 : m = -1
        · rw [if_pos a3, if_pos a3]; exact ⟨rfl, fun w => absurd w (show ¬ (0 : Int) ≤ -2 by decide)⟩
        · rw [if_neg a3, if_neg a3, hn q.1 m yq (by omega) (by omega)]
          by_cases a4 : nx q.1 m = -1
          · rw [if_pos a4, if_pos a4]; exact ⟨rfl, fun w => absurd w (show ¬ (0 : Int) ≤ -3 by decide)⟩
          · have yp := hp q.1 m yq (by omega) (by omega) a4
            rw [if_neg a4, if_neg a4, hs _ _ yq yp]
            exact ⟨rfl, fun _ => yp⟩
/-- the climb -/
def mm_cm (k u : Int) : Int := if 0 < u then u * k else 0
theorem mm_cm_p {k u v : Int} (q : 0 < u) (e : v = u * k) : v = mm_cm k u := by unfold mm_cm; rw [if_pos q]; exact e
theorem mm_cm_q {k u v : Int} (q : 0 < u) (e : v = k * u) : v = mm_cm k u := by unfold mm_cm; rw [if_pos q, e, Int.mul_comm]
theorem mm_cm_0 {k u : Int} (q : u ≤ 0) : 0 = mm_cm k u := by unfold mm_cm; rw [if_neg (by omega)]
/-- class: where a move leads, what it takes -/
def mm_bx (h : mH) (c m : Int) : Int := if mm_bes h c m = -1 then -1 else if 0 < h.2.1 6 (h.2.1 2 (mm_bes h c m)) then mm_bes h c m else -1
def mm_sx (h : mH) (a b : Int) : Int := h.2.1 6 (h.2.1 2 b) + mm_cm (h.2.1 6 8) (h.2.1 3 b - h.2.1 3 a)
def mm_wX (h : mH) (n : Int) : Int := mm_wr (mm_wk (mm_bx h) (mm_sx h) (h.2.1 62) (h.1 1 7) n.toNat)
theorem mm_bx_1 {h : mH} {c m v : Int} (e : v = mm_bes h c m) (q : v = -1 ∨ h.2.1 6 (h.2.1 2 v) ≤ 0) : mm_bx h c m = -1 := by
  unfold mm_bx
  rw [← e]
  by_cases z : v = -1
  · rw [if_pos z]
  · rw [if_neg z, if_neg (by omega)]
theorem mm_bx_2 {h : mH} {c m v : Int} (e : v = mm_bes h c m) (q : v ≠ -1) (q2 : 0 < h.2.1 6 (h.2.1 2 v)) : mm_bx h c m = v := by
  unfold mm_bx
  rw [← e, if_neg q, if_pos q2]
theorem mm_wX_fr {h h' : mH} (n : Int) (w5 : h'.1 1 5 = h.1 1 5) (w6 : h'.1 1 6 = h.1 1 6) (w7 : h'.1 1 7 = h.1 1 7) (e2 : ∀ j, h'.2.1 2 j = h.2.1 2 j) (e3 : ∀ j, h'.2.1 3 j = h.2.1 3 j) (e4 : ∀ j, h'.2.1 4 j = h.2.1 4 j) (e5 : ∀ j, h'.2.1 5 j = h.2.1 5 j) (e6 : ∀ j, h'.2.1 6 j = h.2.1 6 j) (e62 : ∀ j, h'.2.1 62 j = h.2.1 62 j) : mm_wX h' n = mm_wX h n := by
  have a : mm_bx h' = mm_bx h := by
    funext c m
    unfold mm_bx
    rw [mm_bes_fr w5 w6 e4 e5, e2, e6]
  have b : mm_sx h' = mm_sx h := by
    funext c m
    unfold mm_sx
    rw [e2, e6, e6, e3, e3]
  have c : h'.2.1 62 = h.2.1 62 := funext e62
  unfold mm_wX
  rw [a, b, c, w7]
/-- reference: where a move leads, what it takes -/
def mm_dx (m : Int) : Int := if m = 1 then 1 else if m = 3 then -1 else 0
def mm_dy (m : Int) : Int := if m = 2 then 1 else if m = 0 then -1 else 0
theorem mm_dx_x {m a : Int} (q : (m ≠ 1 ∧ m = 3 ∧ a = -1) ∨ (m ≠ 1 ∧ m ≠ 3 ∧ a = 0) ∨ (m = 1 ∧ a = 1)) : a = mm_dx m := by
  unfold mm_dx
  repeat' split
  all_goals omega
theorem mm_dy_x {m a : Int} (q : (m ≠ 2 ∧ m = 0 ∧ a = -1) ∨ (m ≠ 2 ∧ m ≠ 0 ∧ a = 0) ∨ (m = 2 ∧ a = 1)) : a = mm_dy m := by
  unfold mm_dy
  repeat' split
  all_goals omega
def mm_wl (h : mH) (c m t : Int) : Int := if m = 1 then h.2.1 70 c else if m = 3 then h.2.1 70 t else if m = 2 then h.2.1 71 c else h.2.1 71 t
theorem mm_wl_x {h : mH} {c m t v : Int} (q : (m = 1 ∧ v = h.2.1 70 c) ∨ (m ≠ 1 ∧ m = 3 ∧ v = h.2.1 70 t) ∨ (m ≠ 1 ∧ m ≠ 3 ∧ m = 2 ∧ v = h.2.1 71 c) ∨ (m ≠ 1 ∧ m ≠ 3 ∧ m ≠ 2 ∧ v = h.2.1 71 t)) : v = mm_wl h c m t := by
  unfold mm_wl
  repeat' split
  all_goals omega
def mm_bz (h : mH) (c m a b : Int) : Int := if c % 20 + a < 0 ∨ c / 20 + b < 0 ∨ h.1 66 1 ≤ c % 20 + a ∨ h.1 66 2 ≤ c / 20 + b then -1 else if mm_wl h c m (20 * (c / 20 + b) + (c % 20 + a)) ≠ 0 ∨ h.2.1 69 (h.2.1 67 (20 * (c / 20 + b) + (c % 20 + a))) = 0 then -1 else 20 * (c / 20 + b) + (c % 20 + a)
def mm_by (h : mH) (c m : Int) : Int := mm_bz h c m (mm_dx m) (mm_dy m)
theorem mm_by_0 {h : mH} {c m a b : Int} (za : a = mm_dx m) (zb : b = mm_dy m) (q : c % 20 + a < 0 ∨ c / 20 + b < 0 ∨ h.1 66 1 ≤ c % 20 + a ∨ h.1 66 2 ≤ c / 20 + b) : -1 = mm_by h c m := by
  unfold mm_by mm_bz
  rw [← za, ← zb, if_pos q]
theorem mm_by_1 {h : mH} {c m a b v : Int} (za : a = mm_dx m) (zb : b = mm_dy m) (q : ¬ (c % 20 + a < 0 ∨ c / 20 + b < 0 ∨ h.1 66 1 ≤ c % 20 + a ∨ h.1 66 2 ≤ c / 20 + b)) (zv : v = mm_wl h c m (20 * (c / 20 + b) + (c % 20 + a))) (q2 : v ≠ 0 ∨ h.2.1 69 (h.2.1 67 (20 * (c / 20 + b) + (c % 20 + a))) = 0) : -1 = mm_by h c m := by
  unfold mm_by mm_bz
  rw [← za, ← zb, if_neg q, ← zv, if_pos q2]
theorem mm_by_2 {h : mH} {c m a b v : Int} (za : a = mm_dx m) (zb : b = mm_dy m) (q : ¬ (c % 20 + a < 0 ∨ c / 20 + b < 0 ∨ h.1 66 1 ≤ c % 20 + a ∨ h.1 66 2 ≤ c / 20 + b)) (zv : v = mm_wl h c m (20 * (c / 20 + b) + (c % 20 + a))) (q2 : ¬ (v ≠ 0 ∨ h.2.1 69 (h.2.1 67 (20 * (c / 20 + b) + (c % 20 + a))) = 0)) : 20 * (c / 20 + b) + (c % 20 + a) = mm_by h c m := by
  unfold mm_by mm_bz
  rw [← za, ← zb, if_neg q, ← zv, if_neg q2]
def mm_sy (h : mH) (a b : Int) : Int := h.2.1 69 (h.2.1 67 b) + mm_cm (h.1 66 3) (h.2.1 68 b - h.2.1 68 a)
def mm_wY (h : mH) (n : Int) : Int := mm_wr (mm_wk (mm_by h) (mm_sy h) (h.2.1 101) (20 * h.1 66 10 + h.1 66 9) n.toNat)
theorem mm_wY_fr {h h' : mH} (n : Int) (w1 : h'.1 66 1 = h.1 66 1) (w2 : h'.1 66 2 = h.1 66 2) (w3 : h'.1 66 3 = h.1 66 3) (w4 : h'.1 66 9 = h.1 66 9) (w5 : h'.1 66 10 = h.1 66 10) (e2 : ∀ j, h'.2.1 67 j = h.2.1 67 j) (e3 : ∀ j, h'.2.1 68 j = h.2.1 68 j) (e6 : ∀ j, h'.2.1 69 j = h.2.1 69 j) (e4 : ∀ j, h'.2.1 70 j = h.2.1 70 j) (e5 : ∀ j, h'.2.1 71 j = h.2.1 71 j) (e62 : ∀ j, h'.2.1 101 j = h.2.1 101 j) : mm_wY h' n = mm_wY h n := by
  have a : mm_by h' = mm_by h := by
    funext c m
    unfold mm_by mm_bz mm_wl
    rw [w1, w2, e2, e6, e4, e4, e5, e5]
  have b : mm_sy h' = mm_sy h := by
    funext c m
    unfold mm_sy
    rw [e2, e6, w3, e3, e3]
  have c : h'.2.1 101 = h.2.1 101 := funext e62
  unfold mm_wY
  rw [a, b, c, w4, w5]
def mm_inl (h : mH) (c : Int) : Prop := 0 ≤ c ∧ c % 20 < h.1 1 5 ∧ c / 20 < h.1 1 6
theorem mm_bxy {h : mH} {c m : Int} (i : mm_inl h c) (m0 : 0 ≤ m) (m3 : m ≤ 3) (hw : h.1 66 1 = h.1 1 5) (hh : h.1 66 2 = h.1 1 6) (w20 : h.1 1 5 ≤ 20) (h20 : h.1 1 6 ≤ 20) (E2 : mm_eq h 2 67 399) (E6 : mm_eq h 6 69 7) (E4 : mm_eq h 4 70 399) (E5 : mm_eq h 5 71 399) (b2 : ∀ j, 0 ≤ h.2.1 2 j ∧ h.2.1 2 j ≤ 7) (b6 : ∀ j, 0 ≤ h.2.1 6 j) : mm_by h c m = mm_bx h c m ∧ (mm_bx h c m ≠ -1 → mm_inl h (mm_bx h c m)) := by
  obtain ⟨c0, c1, c2⟩ := i
  have T : ∀ t, 0 ≤ t → t ≤ 399 → h.2.1 69 (h.2.1 67 t) = h.2.1 6 (h.2.1 2 t) := fun t a b => by
    rw [← E2 t a b, ← E6 _ (b2 t).1 (b2 t).2]
  have key : ∀ (a b v t : Int), mm_dx m = a → mm_dy m = b → t = c + a + 20 * b → v = mm_wl h c m t → ((0 ≤ c % 20 + a ∧ 0 ≤ c / 20 + b ∧ c % 20 + a < h.1 1 5 ∧ c / 20 + b < h.1 1 6 ∧ v = 0 ∧ mm_bes h c m = t) ∨ (mm_bes h c m = -1 ∧ (c % 20 + a < 0 ∨ c / 20 + b < 0 ∨ h.1 1 5 ≤ c % 20 + a ∨ h.1 1 6 ≤ c / 20 + b ∨ v ≠ 0))) → mm_by h c m = mm_bx h c m ∧ (mm_bx h c m ≠ -1 → mm_inl h (mm_bx h c m)) := by
    intro a b v t ha hb ht hv q
    have et : 20 * (c / 20 + b) + (c % 20 + a) = t := by omega
    rcases q with ⟨q1, q2, q3, q4, q5, q6⟩ | ⟨q1, q2⟩
    · have t0 : 0 ≤ t := by omega
      have t1 : t ≤ 399 := by omega
      have tb := b6 (h.2.1 2 t)
      by_cases z : h.2.1 6 (h.2.1 2 t) = 0
      · have x1 : mm_bx h c m = -1 := mm_bx_1 q6.symm (Or.inr (by omega))
        have x2 : -1 = mm_by h c m := mm_by_1 (v := v) ha.symm hb.symm (by omega) (by rw [et]; exact hv) (Or.inr (by rw [et, T t t0 t1]; exact z))
        exact ⟨by rw [← x2, x1], fun w => absurd x1 w⟩
      · have x1 : mm_bx h c m = t := mm_bx_2 q6.symm (by omega) (by omega)
        have x2 : 20 * (c / 20 + b) + (c % 20 + a) = mm_by h c m := mm_by_2 (v := v) ha.symm hb.symm (by omega) (by rw [et]; exact hv) (by rw [et, T t t0 t1]; intro w; rcases w with w | w; exact w q5; exact z w)
        refine ⟨by rw [← x2, x1, et], fun _ => ?_⟩
        rw [x1]
        refine ⟨t0, ?_, ?_⟩ <;> omega
    · have x1 : mm_bx h c m = -1 := mm_bx_1 q1.symm (Or.inl rfl)
      refine ⟨?_, fun w => absurd x1 w⟩
      rw [x1]
      by_cases z : c % 20 + a < 0 ∨ c / 20 + b < 0 ∨ h.1 1 5 ≤ c % 20 + a ∨ h.1 1 6 ≤ c / 20 + b
      · exact (mm_by_0 ha.symm hb.symm (by rw [hw, hh]; exact z)).symm
      · exact (mm_by_1 (v := v) ha.symm hb.symm (by rw [hw, hh]; exact z) (by rw [et]; exact hv) (Or.inl (by omega))).symm
  have cc : m = 0 ∨ m = 1 ∨ m = 2 ∨ m = 3 := by omega
  rcases cc with r | r | r | r <;> subst r
  · refine key 0 (-1) (h.2.1 71 (c - 20)) (c - 20) rfl rfl (by omega) (by unfold mm_wl; rfl) ?_
    unfold mm_bes
    rw [if_pos rfl]
    by_cases y : 0 < c / 20
    · have e5 := E5 (c - 20) (by omega) (by omega)
      rw [← e5]
      by_cases z : h.2.1 5 (c - 20) = 0
      · rw [if_pos ⟨y, z⟩]; left; refine ⟨?_, ?_, ?_, ?_, z, rfl⟩ <;> omega
      · rw [if_neg (fun w => z w.2)]; right; exact ⟨rfl, by omega⟩
    · rw [if_neg (fun w => y w.1)]; right; exact ⟨rfl, by omega⟩
  · refine key 1 0 (h.2.1 70 c) (c + 1) rfl rfl (by omega) (by unfold mm_wl; rfl) ?_
    unfold mm_bes
    rw [if_neg (by decide), if_pos rfl]
    have e5 := E4 c (by omega) (by omega)
    rw [← e5]
    by_cases y : c % 20 < h.1 1 5 - 1
    · by_cases z : h.2.1 4 c = 0
      · rw [if_pos ⟨y, z⟩]; left; refine ⟨?_, ?_, ?_, ?_, z, rfl⟩ <;> omega
      · rw [if_neg (fun w => z w.2)]; right; exact ⟨rfl, by omega⟩
    · rw [if_neg (fun w => y w.1)]; right; exact ⟨rfl, by omega⟩
  · refine key 0 1 (h.2.1 71 c) (c + 20) rfl rfl (by omega) (by unfold mm_wl; rfl) ?_
    unfold mm_bes
    rw [if_neg (by decide), if_neg (by decide), if_pos rfl]
    have e5 := E5 c (by omega) (by omega)
    rw [← e5]
    by_cases y : c / 20 < h.1 1 6 - 1
    · by_cases z : h.2.1 5 c = 0
      · rw [if_pos ⟨y, z⟩]; left; refine ⟨?_, ?_, ?_, ?_, z, rfl⟩ <;> omega
      · rw [if_neg (fun w => z w.2)]; right; exact ⟨rfl, by omega⟩
    · rw [if_neg (fun w => y w.1)]; right; exact ⟨rfl, by omega⟩
  · refine key (-1) 0 (h.2.1 70 (c - 1)) (c - 1) rfl rfl (by omega) (by unfold mm_wl; rfl) ?_
    unfold mm_bes
    rw [if_neg (by decide), if_neg (by decide), if_neg (by decide), if_pos rfl]
    by_cases y : 0 < c % 20
    · have e5 := E4 (c - 1) (by omega) (by omega)
      rw [← e5]
      by_cases z : h.2.1 4 (c - 1) = 0
      · rw [if_pos ⟨y, z⟩]; left; refine ⟨?_, ?_, ?_, ?_, z, rfl⟩ <;> omega
      · rw [if_neg (fun w => z w.2)]; right; exact ⟨rfl, by omega⟩
    · rw [if_neg (fun w => y w.1)]; right; exact ⟨rfl, by omega⟩
/-- where tracks start -/
def mm_go (h : mH) : Prop := h.1 1 7 = 20 * h.1 66 10 + h.1 66 9 ∧ h.1 66 9 < h.1 1 5 ∧ h.1 66 10 < h.1 1 6 ∧ h.2.1 6 8 = h.1 66 3
theorem mm_go_sm {h h2 : mH} (G : mm_go h) (e6 : ∀ j, h2.2.1 6 j = h.2.1 6 j) (a1 : h2.1 1 7 = h.1 1 7) (a2 : h2.1 66 10 = h.1 66 10) (a3 : h2.1 66 9 = h.1 66 9) (a4 : h2.1 1 5 = h.1 1 5) (a5 : h2.1 1 6 = h.1 1 6) (a6 : h2.1 66 3 = h.1 66 3) : mm_go h2 := by
  unfold mm_go at G ⊢
  rw [e6]
  omega
theorem mm_wXY {h h1 : mH} {n : Int} (hn : n ≤ h.1 0 12) (hw : h.1 66 1 = h.1 1 5) (hh : h.1 66 2 = h.1 1 6) (w20 : h.1 1 5 ≤ 20) (h20 : h.1 1 6 ≤ 20) (s0 : 0 ≤ h.1 66 9) (s1 : 0 ≤ h.1 66 10) (E2 : mm_eq h 2 67 399) (E6 : mm_eq h 6 69 7) (E3 : mm_eq h 3 68 399) (E4 : mm_eq h 4 70 399) (E5 : mm_eq h 5 71 399) (ET : mm_eq h 62 101 (h.1 0 12 - 1)) (G : mm_go h) (b2 : ∀ j, 0 ≤ h.2.1 2 j ∧ h.2.1 2 j ≤ 7) (b6 : ∀ j, 0 ≤ h.2.1 6 j) : mm_wY h n = mm_wX h n := by
  unfold mm_wY mm_wX
  rw [← G.1]
  have inb : ∀ c, mm_inl h c → 0 ≤ c ∧ c ≤ 399 := fun c i => by
    obtain ⟨c0, c1, c2⟩ := i
    omega
  have z := mm_wk_eq (nx := mm_bx h) (sc := mm_sx h) (tp := h.2.1 62) (c0 := h.1 1 7) (nx' := mm_by h) (sc' := mm_sy h) (tp' := h.2.1 101) (n := n.toNat) (mm_inl h) (by
      have g := G
      unfold mm_go at g
      refine ⟨?_, ?_, ?_⟩ <;> omega)
    (fun c m i m0 m3 q => (mm_bxy i m0 m3 hw hh w20 h20 E2 E6 E4 E5 b2 b6).2 q)
    (fun c m i m0 m3 => (mm_bxy i m0 m3 hw hh w20 h20 E2 E6 E4 E5 b2 b6).1)
    (fun a b ia ib => by
      have x := inb a ia
      have y := inb b ib
      unfold mm_sy mm_sx
      rw [← E3 a x.1 x.2, ← E3 b y.1 y.2, ← E2 b y.1 y.2, ← E6 _ (b2 b).1 (b2 b).2, G.2.2.2])
    (fun j a b => (ET j a (by omega)).symm)
  rw [z.1]
/-- bytes on the tape -/
def mm_bt (v s : Int) : Int := mm_viand (mm_vishr v s) 255
theorem mm_bt_b (y : BitVec 32) (k : Nat) (hk : k ≤ 24) : y >>> k &&& 255#32 = y.sshiftRight k &&& 255#32 := by
  have f : ∀ i : Fin 32, 8 ≤ i.val → (255#32).getLsbD i.val = false := by decide
  apply BitVec.eq_of_getLsbD_eq
  intro i hi
  rw [BitVec.getLsbD_and, BitVec.getLsbD_and, BitVec.getLsbD_ushiftRight, BitVec.getLsbD_sshiftRight]
  by_cases q : i < 8
  · rw [if_pos (by omega)]
    have : decide (32 ≤ i) = false := decide_eq_false (by omega)
    rw [this]
    rfl
  · rw [f ⟨i, hi⟩ (by show 8 ≤ i; omega), Bool.and_false, Bool.and_false]
theorem mm_bt_u (v : Int) {s : Int} (q : s = 24 ∨ s = 16 ∨ s = 8 ∨ s = 0) : mm_viand (mm_viushr v s) 255 = mm_bt v s := by
  unfold mm_bt mm_viand mm_viushr mm_vishr
  rw [Int32.ofInt_toInt, Int32.ofInt_toInt]
  congr 1
  generalize Int32.ofInt v = x
  apply Int32.toBitVec_inj.mp
  rcases q with q | q | q | q <;> subst q <;> simp
  · exact mm_bt_b _ 24 (by decide)
  · exact mm_bt_b _ 16 (by decide)
  · exact mm_bt_b _ 8 (by decide)
/-- row o gets F between t and n -/
def mm_tp (h h2 : mH) (o : Nat) (t n : Int) (F : Int → Int) : Prop := ∀ j, h2.2.1 o j = if t ≤ j ∧ j < n then F j else h.2.1 o j
theorem mm_tp_0 {h h2 : mH} {o : Nat} {t n : Int} {F : Int → Int} (e : ∀ j, h2.2.1 o j = h.2.1 o j) (q : n ≤ t) : mm_tp h h2 o t n F := fun j => by
  rw [if_neg (by omega)]; exact e j
theorem mm_tp_s {h h1 h2 h3 : mH} {o : Nat} {t n n' i v : Int} {F : Int → Int} (w : mm_tp h h1 o t n F) (e : h2 = mm_pa h1 o i v) (e3 : ∀ j, h3.2.1 o j = h2.2.1 o j) (hi : i = n) (ht : t ≤ n) (hv : v = F n) (hn : n' = n + 1) : mm_tp h h3 o t n' F := fun j => by
  rw [e3, e, hi, hn]
  by_cases q : j = n
  · rw [q, mm_pa_same, if_pos (by omega)]; exact hv
  · rw [mm_pa_j o q, w j]
    by_cases z : t ≤ j ∧ j < n
    · rw [if_pos z, if_pos (by omega)]
    · rw [if_neg z, if_neg (by omega)]
theorem mm_tp_c {h h1 h2 : mH} {o : Nat} {t n n' : Int} {F G K : Int → Int} (w : mm_tp h h1 o t n F) (u : mm_tp h1 h2 o n n' G) (h1' : t ≤ n) (h2' : n ≤ n') (a : ∀ j, t ≤ j → j < n → K j = F j) (b : ∀ j, n ≤ j → j < n' → K j = G j) : mm_tp h h2 o t n' K := fun j => by
  rw [u j]
  by_cases q : n ≤ j ∧ j < n'
  · rw [if_pos q, if_pos (by omega), b j q.1 q.2]
  · rw [if_neg q, w j]
    by_cases z : t ≤ j ∧ j < n
    · rw [if_pos z, if_pos (by omega), a j z.1 z.2]
    · rw [if_neg z, if_neg (by omega)]
theorem mm_tp_tr {h h1 h2 h3 : mH} {o : Nat} {t n : Int} {F : Int → Int} (e1 : ∀ j, h1.2.1 o j = h.2.1 o j) (u : mm_tp h1 h2 o t n F) (e3 : ∀ j, h3.2.1 o j = h2.2.1 o j) : mm_tp h h3 o t n F := fun j => by
  rw [e3 j, u j, e1 j]
/-- what feed lays -/
def mm_F (a b c d e t j : Int) : Int := if j < t + 4 then mm_bt a (24 - 8 * (j - t)) else if j < t + 8 then mm_bt b (24 - 8 * (j - (t + 4))) else if j < t + 12 then mm_bt c (24 - 8 * (j - (t + 8))) else if j < t + 16 then mm_bt d (24 - 8 * (j - (t + 12))) else mm_bt e (24 - 8 * (j - (t + 16)))
theorem mm_tp_5 {h h1 h2 h3 h4 h5 : mH} {o : Nat} {t a b c d e t1 t2 t3 t4 t5 : Int} (u1 : mm_tp h h1 o t (t + 4) (fun j => mm_bt a (24 - 8 * (j - t)))) (u2 : mm_tp h1 h2 o t1 (t1 + 4) (fun j => mm_bt b (24 - 8 * (j - t1)))) (u3 : mm_tp h2 h3 o t2 (t2 + 4) (fun j => mm_bt c (24 - 8 * (j - t2)))) (u4 : mm_tp h3 h4 o t3 (t3 + 4) (fun j => mm_bt d (24 - 8 * (j - t3)))) (u5 : mm_tp h4 h5 o t4 (t4 + 4) (fun j => mm_bt e (24 - 8 * (j - t4)))) (e1 : t1 = t + 4) (e2 : t2 = t + 8) (e3 : t3 = t + 12) (e4 : t4 = t + 16) (e5 : t5 = t + 20) : mm_tp h h5 o t t5 (mm_F a b c d e t) := by
  subst e1
  subst e2
  subst e3
  subst e4
  subst e5
  rw [show t + 4 + 4 = t + 8 by omega] at u2
  rw [show t + 8 + 4 = t + 12 by omega] at u3
  rw [show t + 12 + 4 = t + 16 by omega] at u4
  rw [show t + 16 + 4 = t + 20 by omega] at u5
  have k2 := mm_tp_c (K := mm_F a b c d e t) u1 u2 (by omega) (by omega) (fun j x y => by unfold mm_F; rw [if_pos y]) (fun j x y => by unfold mm_F; rw [if_neg (by omega), if_pos y])
  have k3 := mm_tp_c (K := mm_F a b c d e t) k2 u3 (by omega) (by omega) (fun j x y => rfl) (fun j x y => by unfold mm_F; rw [if_neg (by omega), if_neg (by omega), if_pos y])
  have k4 := mm_tp_c (K := mm_F a b c d e t) k3 u4 (by omega) (by omega) (fun j x y => rfl) (fun j x y => by unfold mm_F; rw [if_neg (by omega), if_neg (by omega), if_neg (by omega), if_pos y])
  exact mm_tp_c (K := mm_F a b c d e t) k4 u5 (by omega) (by omega) (fun j x y => rfl) (fun j x y => by unfold mm_F; rw [if_neg (by omega), if_neg (by omega), if_neg (by omega), if_neg (by omega)])
/-- both sides lay the same -/
theorem mm_eq_tp {h h1 h2 : mH} {a b : Nat} {m m' t n n2 : Int} {F : Int → Int} (E : mm_eq h a b m) (u : mm_tp h h1 a t n F) (e1 : ∀ j, h1.2.1 b j = h.2.1 b j) (w : mm_tp h1 h2 b t n2 F) (e2 : ∀ j, h2.2.1 a j = h1.2.1 a j) (hn : n2 = n) (ht : t ≤ m + 1) (hm : m' ≤ m ∨ m' ≤ n - 1) : mm_eq h2 a b m' := fun j x y => by
  rw [e2 j, u j, w j, e1 j, hn]
  by_cases q : t ≤ j ∧ j < n
  · rw [if_pos q, if_pos q]
  · rw [if_neg q, if_neg q]
    exact E j x (by omega)
theorem mm_pa_is {h h2 : mH} {o : Nat} {i j v : Int} (e : h2 = mm_pa h o i v) (hj : j = i) : h2.2.1 o j = v := by rw [e, hj]; exact mm_pa_same _ _ _ _
theorem mm_va_nw {S : List (Nat × Nat)} {n o : Nat} {h : mH} {j v : Int} (A : h.2.1 o j = v) (i : mm_inp S n h) (ho : o ≠ n) : (mm_nw h).2.1 o j = v := by
  show (if o = h.2.2 then 0 else h.2.1 o j) = v
  rw [i.2.2, if_neg ho]
  exact A
theorem mm_fi_nw {S : List (Nat × Nat)} {n o k : Nat} {h : mH} {v : Int} (A : h.1 o k = v) (i : mm_inp S n h) (ho : o ≠ n) : (mm_nw h).1 o k = v := by
  show (if o = h.2.2 then 0 else h.1 o k) = v
  rw [i.2.2, if_neg ho]
  exact A
theorem mm_go_takes {h h1 h2 : mH} {p v f : Int} (G : mm_go h) (u : mm_up h h1 6 p v f) (e : ∀ j, h2.2.1 6 j = h1.2.1 6 j) (a1 : h2.1 1 7 = h.1 1 7) (a2 : h2.1 66 10 = h.1 66 10) (a3 : h2.1 66 9 = h.1 66 9) (a4 : h2.1 1 5 = h.1 1 5) (a5 : h2.1 1 6 = h.1 1 6) (c : (f = 1 ∧ p = 8 ∧ h2.1 66 3 = v) ∨ ((f ≠ 1 ∨ p ≠ 8) ∧ h2.1 66 3 = h.1 66 3)) : mm_go h2 := by
  unfold mm_go at G ⊢
  rw [e, u 8]
  by_cases q : 8 = p ∧ f = 1
  · rw [if_pos q]
    obtain ⟨q1, q2⟩ := q
    omega
  · rw [if_neg q]
    omega

/-! ===== the elements of courses kept alike ===== -/
/-- row o gets a, b, c from B on, where f is 1 -/
def mm_w3 (h h2 : mH) (o : Nat) (B a b c f : Int) : Prop := ∀ j, h2.2.1 o j = if f = 1 ∧ j = B then a else if f = 1 ∧ j = B + 1 then b else if f = 1 ∧ j = B + 2 then c else h.2.1 o j
theorem mm_w3_no {h h2 : mH} {o : Nat} {B a b c f : Int} (hf : f ≠ 1) (e : ∀ j, h2.2.1 o j = h.2.1 o j) : mm_w3 h h2 o B a b c f := fun j => by
  rw [if_neg (fun w => hf w.1), if_neg (fun w => hf w.1), if_neg (fun w => hf w.1)]; exact e j
theorem mm_w3_pa {h h0 h1 h2 h3 h4 : mH} {o : Nat} {B i1 i2 i3 a b c : Int} (e0 : ∀ j, h0.2.1 o j = h.2.1 o j) (e1 : h1 = mm_pa h0 o i1 a) (e2 : h2 = mm_pa h1 o i2 b) (e3 : h3 = mm_pa h2 o i3 c) (e4 : ∀ j, h4.2.1 o j = h3.2.1 o j) (h1' : i1 = B) (h2' : i2 = B + 1) (h3' : i3 = B + 2) : mm_w3 h h4 o B a b c 1 := fun j => by
  rw [e4, e3, h3']
  by_cases q3 : j = B + 2
  · rw [q3, mm_pa_same, if_neg (fun w => by omega), if_neg (fun w => by omega), if_pos ⟨rfl, rfl⟩]
  · rw [mm_pa_j o q3, e2, h2']
    by_cases q2 : j = B + 1
    · rw [q2, mm_pa_same, if_neg (fun w => by omega), if_pos ⟨rfl, rfl⟩]
    · rw [mm_pa_j o q2, e1, h1']
      by_cases q1 : j = B
      · rw [q1, mm_pa_same, if_pos ⟨rfl, rfl⟩]
      · rw [mm_pa_j o q1, e0, if_neg (fun w => q1 w.2), if_neg (fun w => q2 w.2), if_neg (fun w => q3 w.2)]
theorem mm_w3_tr {h h1 h2 h3 : mH} {o : Nat} {B B' a b c f : Int} (e1 : ∀ j, h1.2.1 o j = h.2.1 o j) (u : mm_w3 h1 h2 o B a b c f) (e3 : ∀ j, h3.2.1 o j = h2.2.1 o j) (hB : B = B') : mm_w3 h h3 o B' a b c f := fun j => by
  rw [e3 j, u j, e1 j, hB]
def mm_br (h : mH) : Prop := ∀ c, 0 ≤ c → c ≤ h.1 14 8 - 1 → ∀ i, 0 ≤ i → i ≤ h.2.1 19 c - 1 → h.2.1 21 (36 * c + 3 * i) = h.2.1 82 (36 * c + 3 * i) ∧ h.2.1 21 (36 * c + 3 * i + 1) = h.2.1 82 (36 * c + 3 * i + 1) ∧ h.2.1 21 (36 * c + 3 * i + 2) = h.2.1 82 (36 * c + 3 * i + 2) ∧ (h.2.1 84 (12 * c + i) = 1 ↔ h.2.1 21 (36 * c + 3 * i + 1) ≠ h.2.1 21 (36 * c + 3 * i))
theorem mm_br_sm {h h2 : mH} (T : mm_br h) (e21 : ∀ j, h2.2.1 21 j = h.2.1 21 j) (e82 : ∀ j, h2.2.1 82 j = h.2.1 82 j) (e84 : ∀ j, h2.2.1 84 j = h.2.1 84 j) (e19 : ∀ j, h2.2.1 19 j = h.2.1 19 j) (n : h2.1 14 8 = h.1 14 8) : mm_br h2 := fun c c0 c1 i i0 i1 => by
  rw [e21, e21, e21, e82, e82, e82, e84]
  exact T c c0 (by omega) i i0 (by rw [e19] at i1; exact i1)
theorem mm_br_nil {h : mH} (n : h.1 14 8 = 0) : mm_br h := fun c x y => absurd (Int.le_trans x y) (by omega)
theorem mm_br_course {h h1 h2 : mH} {f : Int} (T : mm_br h) (u : mm_up h h1 19 (h.1 14 8) 0 f) (e19 : ∀ j, h2.2.1 19 j = h1.2.1 19 j) (e21 : ∀ j, h2.2.1 21 j = h.2.1 21 j) (e82 : ∀ j, h2.2.1 82 j = h.2.1 82 j) (e84 : ∀ j, h2.2.1 84 j = h.2.1 84 j) (m : (f = 1 ∧ h2.1 14 8 = h.1 14 8 + 1) ∨ (f = 0 ∧ h2.1 14 8 = h.1 14 8)) : mm_br h2 := fun c c0 c1 i i0 i1 => by
  rw [e19, u c] at i1
  by_cases q : c = h.1 14 8 ∧ f = 1
  · rw [if_pos q] at i1; omega
  · rw [if_neg q] at i1
    rw [e21, e21, e21, e82, e82, e82, e84]
    exact T c c0 (by omega) i i0 i1
theorem mm_br_add {h h1 h2 : mH} {p a b c f f' f9 s v9 B B' : Int} (T : mm_br h) (hs : s = h.2.1 19 p) (s0 : 0 ≤ s) (s1 : ∀ j, h.2.1 19 j ≤ 12) (sf : f = 1 → s ≤ 11) (u19 : mm_up h h1 19 p (s + 1) f) (e19 : ∀ j, h2.2.1 19 j = h1.2.1 19 j) (u : mm_w3 h h1 21 B a b c f) (e21 : ∀ j, h2.2.1 21 j = h1.2.1 21 j) (w : mm_w3 h1 h2 82 B' a b c f') (g82 : ∀ j, h1.2.1 82 j = h.2.1 82 j) (w84 : mm_up h1 h2 84 (12 * p + s) v9 f9) (g84 : ∀ j, h1.2.1 84 j = h.2.1 84 j) (hB : f = 1 → B = 36 * p + 3 * s) (hB' : B' = B) (ff : f = f') (f9f : f = 1 ↔ f9 = 1) (v9v : (v9 = 1 ∧ a ≠ b) ∨ (v9 = 0 ∧ a = b)) (n : h2.1 14 8 = h.1 14 8) : mm_br h2 := fun k k0 k1 i i0 i1 => by
  subst hB'
  subst ff
  rw [e19, u19 k] at i1
  have old : ∀ j, (f ≠ 1 ∨ (j ≠ B' ∧ j ≠ B' + 1 ∧ j ≠ B' + 2)) → h2.2.1 21 j = h.2.1 21 j ∧ h2.2.1 82 j = h.2.1 82 j := fun j q => by
    have z : ¬ (f = 1 ∧ j = B') ∧ ¬ (f = 1 ∧ j = B' + 1) ∧ ¬ (f = 1 ∧ j = B' + 2) := by omega
    rw [e21, u j, if_neg z.1, if_neg z.2.1, if_neg z.2.2, w j, if_neg z.1, if_neg z.2.1, if_neg z.2.2, g82]
    exact ⟨rfl, rfl⟩
  by_cases q : f = 1
  · have eB := hB q
    have s11 := sf q
    have sk := s1 k
    by_cases r : k = p ∧ i = s
    · obtain ⟨r1, r2⟩ := r
      subst r1
      subst r2
      have x0 : h2.2.1 21 (36 * k + 3 * i) = a ∧ h2.2.1 82 (36 * k + 3 * i) = a := by
        rw [e21, u, if_pos ⟨q, eB.symm⟩, w, if_pos ⟨q, eB.symm⟩]; exact ⟨rfl, rfl⟩
      have x1 : h2.2.1 21 (36 * k + 3 * i + 1) = b ∧ h2.2.1 82 (36 * k + 3 * i + 1) = b := by
        rw [e21, u, if_neg (fun y => by omega), if_pos ⟨q, by omega⟩, w, if_neg (fun y => by omega), if_pos ⟨q, by omega⟩]; exact ⟨rfl, rfl⟩
      have x2 : h2.2.1 21 (36 * k + 3 * i + 2) = c ∧ h2.2.1 82 (36 * k + 3 * i + 2) = c := by
        rw [e21, u, if_neg (fun y => by omega), if_neg (fun y => by omega), if_pos ⟨q, by omega⟩, w, if_neg (fun y => by omega), if_neg (fun y => by omega), if_pos ⟨q, by omega⟩]; exact ⟨rfl, rfl⟩
      have x4 : h2.2.1 84 (12 * k + i) = v9 := by rw [w84, if_pos ⟨rfl, f9f.mp q⟩]
      rw [x0.1, x0.2, x1.1, x1.2, x2.1, x2.2, x4]
      refine ⟨rfl, rfl, rfl, ?_⟩
      omega
    · have ik : i ≤ h.2.1 19 k - 1 := by
        by_cases y : k = p
        · subst y
          rw [if_pos ⟨rfl, q⟩] at i1
          omega
        · rw [if_neg (fun z => y z.1)] at i1; exact i1
      have t := T k k0 (by omega) i i0 ik
      have y0 := old (36 * k + 3 * i) (Or.inr (by omega))
      have y1 := old (36 * k + 3 * i + 1) (Or.inr (by omega))
      have y2 := old (36 * k + 3 * i + 2) (Or.inr (by omega))
      have y4 : h2.2.1 84 (12 * k + i) = h.2.1 84 (12 * k + i) := by rw [w84, if_neg (fun z => by omega), g84]
      rw [y0.1, y0.2, y1.1, y1.2, y2.1, y2.2, y4]
      exact t
  · rw [if_neg (fun z => q z.2)] at i1
    have t := T k k0 (by omega) i i0 i1
    have y0 := old (36 * k + 3 * i) (Or.inl q)
    have y1 := old (36 * k + 3 * i + 1) (Or.inl q)
    have y2 := old (36 * k + 3 * i + 2) (Or.inl q)
    have y4 : h2.2.1 84 (12 * k + i) = h.2.1 84 (12 * k + i) := by rw [w84, if_neg (fun z => q (f9f.mpr z.2)), g84]
    rw [y0.1, y0.2, y1.1, y1.2, y2.1, y2.2, y4]
    exact t
/-! a runner's row: K tells the forks -/
def mm_fn (K : Int → Int) : Nat → Nat
  | 0 => 0
  | i + 1 => if K (i : Int) = 1 then mm_fn K i + 1 else mm_fn K i
def mm_rr (B K : Int → Int) (c v i : Int) : Int := if K i = 1 then B (36 * c + 3 * i + mm_dv v (mm_fn K i.toNat) % 3) else B (36 * c + 3 * i)
def mm_fk (B : Int → Int) (c i : Int) : Int := if B (36 * c + 3 * i + 1) = B (36 * c + 3 * i) then 0 else 1
theorem mm_fn_eq {K K' : Int → Int} {k : Nat} (e : ∀ i : Int, 0 ≤ i → i < k → (K i = 1 ↔ K' i = 1)) : mm_fn K k = mm_fn K' k := by
  induction k with
  | zero => rfl
  | succ k ih =>
    show (if K (k : Int) = 1 then mm_fn K k + 1 else mm_fn K k) = (if K' (k : Int) = 1 then mm_fn K' k + 1 else mm_fn K' k)
    rw [ih (fun i a b => e i a (by omega))]
    have z := e (k : Int) (by omega) (by omega)
    by_cases w : K (k : Int) = 1
    · rw [if_pos w, if_pos (z.mp w)]
    · rw [if_neg w, if_neg (fun y => w (z.mpr y))]
theorem mm_fn_s {K : Int → Int} {i : Int} (i0 : 0 ≤ i) : mm_fn K (i + 1).toNat = if K i = 1 then mm_fn K i.toNat + 1 else mm_fn K i.toNat := by
  rw [show (i + 1).toNat = i.toNat + 1 by omega]
  show (if K (i.toNat : Int) = 1 then mm_fn K i.toNat + 1 else mm_fn K i.toNat) = _
  rw [Int.toNat_of_nonneg i0]
/-- the digits left behind i elements -/
theorem mm_dg_1 {K : Int → Int} {i x v : Int} (w : x = mm_dv v (mm_fn K i.toNat)) (i0 : 0 ≤ i) (k : K i = 1) : x / 3 = mm_dv v (mm_fn K (i + 1).toNat) := by
  rw [mm_fn_s i0, if_pos k, w]; rfl
theorem mm_dg_0 {K : Int → Int} {i x v : Int} (w : x = mm_dv v (mm_fn K i.toNat)) (i0 : 0 ≤ i) (k : K i ≠ 1) : x = mm_dv v (mm_fn K (i + 1).toNat) := by
  rw [mm_fn_s i0, if_neg k]; exact w
/-- the forks counted so far -/
theorem mm_fo_1 {K : Int → Int} {i x : Int} (w : x = (mm_fn K i.toNat : Int)) (i0 : 0 ≤ i) (k : K i = 1) : x + 1 = (mm_fn K (i + 1).toNat : Int) := by
  rw [mm_fn_s i0, if_pos k, w]; rfl
theorem mm_fo_0 {K : Int → Int} {i x : Int} (w : x = (mm_fn K i.toNat : Int)) (i0 : 0 ≤ i) (k : K i ≠ 1) : x = (mm_fn K (i + 1).toNat : Int) := by
  rw [mm_fn_s i0, if_neg k]; exact w
theorem mm_fn_le (K : Int → Int) (k : Nat) : mm_fn K k ≤ k := by
  induction k with
  | zero => exact Nat.le_refl _
  | succ k ih =>
    show (if K (k : Int) = 1 then mm_fn K k + 1 else mm_fn K k) ≤ k + 1
    split <;> omega
/-- the first n places of row o are told -/
def mm_rw (h : mH) (o : Nat) (R : Int → Int) (n : Int) : Prop := ∀ j, 0 ≤ j → j < n → h.2.1 o j = R j
theorem mm_rw_0 {h : mH} {o : Nat} {R : Int → Int} : mm_rw h o R 0 := fun j a b => absurd b (by omega)
theorem mm_rw_s {h h1 : mH} {o : Nat} {R : Int → Int} {n v : Int} (W : mm_rw h o R n) (e : h1 = mm_pa h o n v) (hv : v = R n) : mm_rw h1 o R (n + 1) := fun j a b => by
  rw [e]
  by_cases q : j = n
  · rw [q, mm_pa_same]; exact hv
  · rw [mm_pa_j o q]; exact W j a (by omega)
theorem mm_rw_2 {h h1 h2 : mH} {o : Nat} {R : Int → Int} {n u v : Int} (W : mm_rw h o R n) (e1 : h1 = mm_pa h o n u) (e2 : h2 = mm_pa h1 o n v) (hv : v = R n) : mm_rw h2 o R (n + 1) := fun j a b => by
  rw [e2]
  by_cases q : j = n
  · rw [q, mm_pa_same]; exact hv
  · rw [mm_pa_j o q, e1, mm_pa_j o q]; exact W j a (by omega)
theorem mm_rw_sm {h h1 : mH} {o : Nat} {R : Int → Int} {n : Int} (W : mm_rw h o R n) (e : ∀ j, h1.2.1 o j = h.2.1 o j) : mm_rw h1 o R n := fun j a b => (e j).trans (W j a b)
theorem mm_rr_0 {B K : Int → Int} {c v i x : Int} (k : K i ≠ 1) (e : x = B (36 * c + 3 * i)) : x = mm_rr B K c v i := by unfold mm_rr; rw [if_neg k]; exact e
theorem mm_rr_1 {B K : Int → Int} {c v i x g : Int} (k : K i = 1) (eg : g = mm_dv v (mm_fn K i.toNat) % 3) (e : x = B (36 * c + 3 * i + g)) : x = mm_rr B K c v i := by unfold mm_rr; rw [if_pos k, ← eg]; exact e
theorem mm_fk_1 {B : Int → Int} {c i : Int} (q : B (36 * c + 3 * i + 1) ≠ B (36 * c + 3 * i)) : mm_fk B c i = 1 := by unfold mm_fk; rw [if_neg q]
theorem mm_fk_0 {B : Int → Int} {c i : Int} (q : B (36 * c + 3 * i + 1) = B (36 * c + 3 * i)) : mm_fk B c i ≠ 1 := by unfold mm_fk; rw [if_pos q]; decide
/-- class's and reference's rows are the same -/
theorem mm_rr_eq {h : mH} (T : mm_br h) {c v n : Int} (c0 : 0 ≤ c) (c1 : c ≤ h.1 14 8 - 1) (hn : n ≤ h.2.1 19 c) (v0 : ∀ k, 0 ≤ mm_dv v k % 3 ∧ mm_dv v k % 3 ≤ 2) (i : Int) (i0 : 0 ≤ i) (i1 : i < n) : mm_rr (h.2.1 21) (mm_fk (h.2.1 21) c) c v i = mm_rr (h.2.1 82) (fun j => h.2.1 84 (12 * c + j)) c v i := by
  have kk : ∀ j, 0 ≤ j → j < n → (mm_fk (h.2.1 21) c j = 1 ↔ h.2.1 84 (12 * c + j) = 1) := fun j j0 j1 => by
    have t := T c c0 c1 j j0 (by omega)
    rw [t.2.2.2]
    by_cases q : h.2.1 21 (36 * c + 3 * j + 1) = h.2.1 21 (36 * c + 3 * j)
    · exact ⟨fun w => absurd w (mm_fk_0 q), fun w => absurd q w⟩
    · exact ⟨fun _ => q, fun _ => mm_fk_1 q⟩
  have ef : mm_fn (mm_fk (h.2.1 21) c) i.toNat = mm_fn (fun j => h.2.1 84 (12 * c + j)) i.toNat := mm_fn_eq (fun j a b => kk j a (by omega))
  have t := T c c0 c1 i i0 (by omega)
  have k := kk i i0 i1
  unfold mm_rr
  by_cases q : mm_fk (h.2.1 21) c i = 1
  · rw [if_pos q, if_pos (k.mp q), ef]
    have z := v0 (mm_fn (fun j => h.2.1 84 (12 * c + j)) i.toNat)
    generalize mm_dv v (mm_fn (fun j => h.2.1 84 (12 * c + j)) i.toNat) % 3 = g at z ⊢
    have cc : g = 0 ∨ g = 1 ∨ g = 2 := by omega
    rcases cc with y | y | y <;> subst y
    · rw [Int.add_zero]; exact t.1
    · exact t.2.1
    · exact t.2.2.1
  · rw [if_neg q, if_neg (fun w => q (k.mpr w))]; exact t.1
theorem mm_v9 {h h2 : mH} {a b k : Int} (e : ∀ j, h2.2.1 84 j = h.2.1 84 j) : ∃ v9 : Int, ((v9 = 1 ∧ a ≠ b) ∨ (v9 = 0 ∧ a = b)) ∧ mm_up h h2 84 k v9 0 := by
  by_cases q : a = b
  · exact ⟨0, Or.inr ⟨rfl, q⟩, mm_up_no (by decide) e⟩
  · exact ⟨1, Or.inl ⟨rfl, q⟩, mm_up_no (by decide) e⟩
theorem mm_v9_tr {h h1 h2 : mH} {a b k f : Int} (V : ∃ v9 : Int, ((v9 = 1 ∧ a ≠ b) ∨ (v9 = 0 ∧ a = b)) ∧ mm_up h h1 84 k v9 f) (e : ∀ j, h2.2.1 84 j = h1.2.1 84 j) : ∃ v9 : Int, ((v9 = 1 ∧ a ≠ b) ∨ (v9 = 0 ∧ a = b)) ∧ mm_up h h2 84 k v9 f := by
  obtain ⟨v, q, u⟩ := V
  exact ⟨v, q, mm_up_tr (fun _ => rfl) u e rfl Iff.rfl⟩
/-- from posts to cells, a place after another -/
theorem mm_rw_cell {h1 h2 : mH} {R P : Int → Int} {n k v : Int} (W : mm_rw h1 61 (fun j => if j < k then P (R j) else R j) n) (e : h2 = mm_pa h1 61 k v) (hv : v = P (h1.2.1 61 k)) (k0 : 0 ≤ k) (kn : k < n) : mm_rw h2 61 (fun j => if j < k + 1 then P (R j) else R j) n := fun j a b => by
  show h2.2.1 61 j = if j < k + 1 then P (R j) else R j
  rw [e]
  have z : h1.2.1 61 k = if k < k then P (R k) else R k := W k k0 kn
  rw [if_neg (by omega)] at z
  by_cases q : j = k
  · rw [q, mm_pa_same, if_pos (by omega), hv, z]
  · rw [mm_pa_j 61 q]
    have y : h1.2.1 61 j = if j < k then P (R j) else R j := W j a b
    rw [y]
    by_cases w : j < k
    · rw [if_pos w, if_pos (by omega)]
    · rw [if_neg w, if_neg (by omega)]
theorem mm_rw_c0 {h1 : mH} {R P : Int → Int} {n : Int} (W : mm_rw h1 61 R n) : mm_rw h1 61 (fun j => if j < 0 then P (R j) else R j) n := fun j a b => by
  show h1.2.1 61 j = if j < 0 then P (R j) else R j
  rw [if_neg (by omega)]; exact W j a b
theorem mm_rw_cn {h1 : mH} {R P : Int → Int} {n k : Int} (W : mm_rw h1 61 (fun j => if j < k then P (R j) else R j) n) (kn : n ≤ k) : mm_rw h1 61 (fun j => P (R j)) n := fun j a b => by
  have z : h1.2.1 61 j = if j < k then P (R j) else R j := W j a b
  rw [if_pos (by omega)] at z
  exact z

/-! ===== texts cut into tokens ===== -/
def mm_tr (T : Int → Int) (n : Int) : Int → Int := fun p => if 0 ≤ p ∧ p < n then T p else 0
theorem mm_tr_in {T : Int → Int} {n p : Int} (h0 : 0 ≤ p) (h1 : p < n) : mm_tr T n p = T p := if_pos ⟨h0, h1⟩
theorem mm_tr_cg {T T' : Int → Int} {n : Int} (e : ∀ j, 0 ≤ j → j < n → T j = T' j) : mm_tr T n = mm_tr T' n := funext fun p => by
  unfold mm_tr
  by_cases q : 0 ≤ p ∧ p < n
  · rw [if_pos q, if_pos q]; exact e p q.1 q.2
  · rw [if_neg q, if_neg q]
def mm_kd (b : Int) : Int := if 97 ≤ b ∧ b ≤ 122 then 2 else if 48 ≤ b ∧ b ≤ 57 then 3 else if b = 59 ∨ b = 40 ∨ b = 41 ∨ b = 43 ∨ b = 45 ∨ b = 42 ∨ b = 47 ∨ b = 60 ∨ b = 61 then 4 else 1
theorem mm_kd_f (b : Int) : (mm_kd b = 2 ∧ 97 ≤ b ∧ b ≤ 122) ∨ (mm_kd b = 3 ∧ 48 ≤ b ∧ b ≤ 57) ∨ (mm_kd b = 4 ∧ (b = 59 ∨ b = 40 ∨ b = 41 ∨ b = 43 ∨ b = 45 ∨ b = 42 ∨ b = 47 ∨ b = 60 ∨ b = 61)) ∨ (mm_kd b = 1 ∧ (b < 97 ∨ 122 < b) ∧ (b < 48 ∨ 57 < b) ∧ b ≠ 59 ∧ b ≠ 40 ∧ b ≠ 41 ∧ b ≠ 43 ∧ b ≠ 45 ∧ b ≠ 42 ∧ b ≠ 47 ∧ b ≠ 60 ∧ b ≠ 61) := by
  unfold mm_kd
  (repeat' split) <;> omega
def mm_sk (U : Int → Int) : Nat → Int → Int
  | 0, p => p
  | f + 1, p => if U p = 32 ∨ U p = 10 then mm_sk U f (p + 1) else p
def mm_skp (U : Int → Int) (n p : Int) : Int := mm_sk U (n - p).toNat p
theorem mm_skp_s {U : Int → Int} {n p : Int} (h : p < n) (b : U p = 32 ∨ U p = 10) : mm_skp U n p = mm_skp U n (p + 1) := by
  unfold mm_skp
  rw [show (n - p).toNat = (n - (p + 1)).toNat + 1 by omega]
  exact if_pos b
theorem mm_skp_e {U : Int → Int} {n p : Int} (h : n ≤ p ∨ (U p ≠ 32 ∧ U p ≠ 10)) : mm_skp U n p = p := by
  unfold mm_skp
  rcases h with h | h
  · rw [show (n - p).toNat = 0 by omega]; rfl
  · cases (n - p).toNat with
    | zero => rfl
    | succ f => exact if_neg (fun q => q.elim h.1 h.2)
theorem mm_sk_rg (U : Int → Int) : ∀ (f : Nat) (p : Int), p ≤ mm_sk U f p ∧ mm_sk U f p ≤ p + f
  | 0, p => ⟨Int.le_refl _, by show p ≤ _; omega⟩
  | f + 1, p => by
    have z := mm_sk_rg U f (p + 1)
    unfold mm_sk
    split
    · omega
    · omega
theorem mm_skp_rg (U : Int → Int) (n p : Int) : p ≤ mm_skp U n p ∧ (mm_skp U n p ≤ n ∨ mm_skp U n p = p) := by
  have z := mm_sk_rg U (n - p).toNat p
  unfold mm_skp
  by_cases q : p ≤ n
  · omega
  · rw [show (n - p).toNat = 0 by omega] at z ⊢
    exact ⟨z.1, Or.inr rfl⟩
def mm_rnw (U : Int → Int) (k : Int) : Nat → Int → Int
  | 0, p => p
  | f + 1, p => if mm_kd (U p) = k then mm_rnw U k f (p + 1) else p
def mm_runw (U : Int → Int) (n k p : Int) : Int := mm_rnw U k (n - p).toNat p
theorem mm_runw_s {U : Int → Int} {n k p : Int} (h : p < n) (b : mm_kd (U p) = k) : mm_runw U n k p = mm_runw U n k (p + 1) := by
  unfold mm_runw
  rw [show (n - p).toNat = (n - (p + 1)).toNat + 1 by omega]
  exact if_pos b
theorem mm_runw_e {U : Int → Int} {n k p : Int} (h : n ≤ p ∨ mm_kd (U p) ≠ k) : mm_runw U n k p = p := by
  unfold mm_runw
  rcases h with h | h
  · rw [show (n - p).toNat = 0 by omega]; rfl
  · cases (n - p).toNat with
    | zero => rfl
    | succ f => exact if_neg h
theorem mm_rnw_rg (U : Int → Int) (k : Int) : ∀ (f : Nat) (p : Int), p ≤ mm_rnw U k f p ∧ mm_rnw U k f p ≤ p + f ∧ ∀ j, p ≤ j → j < mm_rnw U k f p → mm_kd (U j) = k
  | 0, p => ⟨Int.le_refl _, by show p ≤ _; omega, fun j a b => absurd b (by show ¬ j < p; omega)⟩
  | f + 1, p => by
    have z := mm_rnw_rg U k f (p + 1)
    unfold mm_rnw
    split
    · rename_i q
      refine ⟨by omega, by omega, fun j a b => ?_⟩
      by_cases e : j = p
      · rw [e]; exact q
      · exact z.2.2 j (by omega) b
    · exact ⟨Int.le_refl _, by omega, fun j a b => by omega⟩
theorem mm_runw_rg (U : Int → Int) (n k p : Int) : p ≤ mm_runw U n k p ∧ (mm_runw U n k p ≤ n ∨ mm_runw U n k p = p) ∧ ∀ j, p ≤ j → j < mm_runw U n k p → mm_kd (U j) = k := by
  have z := mm_rnw_rg U k (n - p).toNat p
  unfold mm_runw
  by_cases q : p ≤ n
  · exact ⟨z.1, Or.inl (by omega), z.2.2⟩
  · rw [show (n - p).toNat = 0 by omega] at z ⊢
    exact ⟨z.1, Or.inr rfl, z.2.2⟩
def mm_tkk (U : Int → Int) (n a : Int) : Int := if a < n then mm_kd (U a) else 0
def mm_te (U : Int → Int) (n a : Int) : Int := if a < n then (if mm_kd (U a) = 2 ∨ mm_kd (U a) = 3 then mm_runw U n (mm_kd (U a)) (a + 1) else a + 1) else a
def mm_tn (U : Int → Int) (n a : Int) : Int := mm_skp U n (mm_te U n a)
/-! words -/
def mm_ws9 : List (List Int) := [[112, 101, 110, 97, 108, 116, 121], [111, 117, 116], [115, 101, 116], [117, 110, 108, 101, 115, 115], [111, 114], [97, 110, 100], [110, 111, 116], [108, 105, 109, 105, 116], [103, 97, 112], [119, 105, 110, 100, 111, 119], [109, 105, 115, 115, 101, 100], [119, 114, 111, 110, 103], [114, 117, 110], [115, 99, 111, 114, 101], [112, 111, 115, 116, 115], [99, 108, 117, 98], [102, 114, 101, 101]]
def mm_wl9 : List Int := [112, 101, 110, 97, 108, 116, 121, 32, 111, 117, 116, 32, 115, 101, 116, 32, 117, 110, 108, 101, 115, 115, 32, 111, 114, 32, 97, 110, 100, 32, 110, 111, 116, 32, 108, 105, 109, 105, 116, 32, 103, 97, 112, 32, 119, 105, 110, 100, 111, 119, 32, 109, 105, 115, 115, 101, 100, 32, 119, 114, 111, 110, 103, 32, 114, 117, 110, 32, 115, 99, 111, 114, 101, 32, 112, 111, 115, 116, 115, 32, 99, 108, 117, 98, 32, 102, 114, 101, 101, 32]
theorem mm_wl9_eq : mm_ws9.flatMap (fun w => w ++ [32]) = mm_wl9 := by decide
def mm_wf (U : Int → Int) (a e : Int) : List Int → Int → Int → Int → Int
  | [], _, _, _ => -1
  | c :: cs, pl, q, sm => if c = 32 then (if sm = 1 ∧ q = e then pl else mm_wf U a e cs (pl + 1) a 1) else mm_wf U a e cs pl (q + 1) (if sm = 1 ∧ q < e ∧ U q = c then 1 else 0)
def mm_mt (U : Int → Int) (a e : Int) (w : List Int) : Prop := e = a + (w.length : Int) ∧ ∀ i : Nat, i < w.length → U (a + i) = w.getD i 0
theorem mm_mt_c {U : Int → Int} {a e c : Int} {w : List Int} : mm_mt U a e (c :: w) ↔ (a < e ∧ U a = c ∧ mm_mt U (a + 1) e w) := by
  unfold mm_mt
  constructor
  · intro ⟨h1, h2⟩
    rw [List.length_cons] at h1
    refine ⟨by omega, ?_, by omega, fun i hi => ?_⟩
    · have z := h2 0 (by rw [List.length_cons]; omega)
      rw [show a + ((0 : Nat) : Int) = a by omega] at z
      exact z
    · have z := h2 (i + 1) (by rw [List.length_cons]; omega)
      rw [show a + 1 + (i : Int) = a + ((i + 1 : Nat) : Int) by omega]
      exact z
  · intro ⟨h0, h1, h2, h3⟩
    refine ⟨by rw [List.length_cons]; omega, fun i hi => ?_⟩
    cases i with
    | zero => rw [show a + ((0 : Nat) : Int) = a by omega]; exact h1
    | succ i =>
      rw [show a + ((i + 1 : Nat) : Int) = a + 1 + (i : Int) by omega]
      exact h3 i (by rw [List.length_cons] at hi; omega)
theorem mm_wf_w {U : Int → Int} {a e : Int} (cs : List Int) (pl : Int) : ∀ (w : List Int) (q sm : Int), (∀ c ∈ w, c ≠ 32) → ((sm = 1 ∧ mm_mt U q e w) → mm_wf U a e (w ++ 32 :: cs) pl q sm = pl) ∧ (¬(sm = 1 ∧ mm_mt U q e w) → mm_wf U a e (w ++ 32 :: cs) pl q sm = mm_wf U a e cs (pl + 1) a 1)
  | [], q, sm, _ => by
    have k : mm_wf U a e ([] ++ 32 :: cs) pl q sm = if sm = 1 ∧ q = e then pl else mm_wf U a e cs (pl + 1) a 1 := if_pos rfl
    have m : mm_mt U q e [] ↔ q = e := ⟨fun z => by have := z.1; simp at this; omega, fun z => ⟨by simp; omega, fun i hi => absurd hi (Nat.not_lt_zero i)⟩⟩
    rw [k, m]
    exact ⟨fun z => if_pos z, fun z => if_neg z⟩
  | c :: w, q, sm, hw => by
    have hc : c ≠ 32 := hw c List.mem_cons_self
    have k : mm_wf U a e (c :: w ++ 32 :: cs) pl q sm = mm_wf U a e (w ++ 32 :: cs) pl (q + 1) (if sm = 1 ∧ q < e ∧ U q = c then 1 else 0) := if_neg hc
    have ih := mm_wf_w cs pl w (q + 1) (if sm = 1 ∧ q < e ∧ U q = c then 1 else 0) (fun c h => hw c (List.mem_cons_of_mem _ h)) (U := U) (a := a) (e := e)
    rw [k]
    by_cases z : sm = 1 ∧ q < e ∧ U q = c
    · rw [if_pos z] at ih ⊢
      refine ⟨fun y => ih.1 ⟨rfl, (mm_mt_c.mp y.2).2.2⟩, fun y => ih.2 (fun x => y ⟨z.1, mm_mt_c.mpr ⟨z.2.1, z.2.2, x.2⟩⟩)⟩
    · rw [if_neg z] at ih ⊢
      refine ⟨fun y => absurd ⟨y.1, (mm_mt_c.mp y.2).1, (mm_mt_c.mp y.2).2.1⟩ z, fun y => ih.2 (fun x => absurd x.1 (by decide))⟩
theorem mm_wf_ws {U : Int → Int} {a e : Int} : ∀ (ws : List (List Int)) (pl : Int), (∀ w ∈ ws, ∀ c ∈ w, c ≠ 32) → (∃ i : Nat, i < ws.length ∧ mm_mt U a e (ws.getD i []) ∧ mm_wf U a e (ws.flatMap (fun w => w ++ [32])) pl a 1 = pl + i) ∨ ((∀ i : Nat, i < ws.length → ¬ mm_mt U a e (ws.getD i [])) ∧ mm_wf U a e (ws.flatMap (fun w => w ++ [32])) pl a 1 = -1)
  | [], pl, _ => Or.inr ⟨fun i hi => absurd hi (Nat.not_lt_zero i), rfl⟩
  | w :: ws, pl, hw => by
    have k : (w :: ws).flatMap (fun w => w ++ [32]) = w ++ 32 :: ws.flatMap (fun w => w ++ [32]) := by
      rw [List.flatMap_cons, List.append_assoc]; rfl
    have z := mm_wf_w (U := U) (a := a) (e := e) (ws.flatMap (fun w => w ++ [32])) pl w a 1 (hw w List.mem_cons_self)
    rw [k]
    by_cases q : mm_mt U a e w
    · exact Or.inl ⟨0, by rw [List.length_cons]; omega, q, by rw [z.1 ⟨rfl, q⟩]; omega⟩
    · have z2 := z.2 (fun y => q y.2)
      rw [z2]
      rcases mm_wf_ws ws (pl + 1) (fun w h => hw w (List.mem_cons_of_mem _ h)) (U := U) (a := a) (e := e) with ⟨i, h1, h2, h3⟩ | ⟨h1, h2⟩
      · exact Or.inl ⟨i + 1, by rw [List.length_cons]; omega, h2, by rw [h3]; omega⟩
      · refine Or.inr ⟨fun i hi => ?_, h2⟩
        cases i with
        | zero => exact q
        | succ i => exact h1 i (by rw [List.length_cons] at hi; omega)
def mm_tw (U : Int → Int) (n a : Int) : Int := if mm_tkk U n a = 2 then mm_wf U a (mm_te U n a) mm_wl9 0 a 1 else -1
theorem mm_tw_f (U : Int → Int) (n a : Int) : (∃ i : Nat, i < 17 ∧ mm_tkk U n a = 2 ∧ mm_mt U a (mm_te U n a) (mm_ws9.getD i []) ∧ mm_tw U n a = i) ∨ ((mm_tkk U n a = 2 → ∀ i : Nat, i < 17 → ¬ mm_mt U a (mm_te U n a) (mm_ws9.getD i [])) ∧ mm_tw U n a = -1) := by
  unfold mm_tw
  by_cases q : mm_tkk U n a = 2
  · rw [if_pos q, ← mm_wl9_eq]
    rcases mm_wf_ws (U := U) (a := a) (e := mm_te U n a) mm_ws9 0 (by decide) with ⟨i, h1, h2, h3⟩ | ⟨h1, h2⟩
    · exact Or.inl ⟨i, h1, q, h2, by rw [h3]; omega⟩
    · exact Or.inr ⟨fun _ => h1, h2⟩
  · rw [if_neg q]
    exact Or.inr ⟨fun z => absurd z q, rfl⟩
theorem mm_ws9_inj : ∀ i : Nat, i < 17 → ∀ j : Nat, j < 17 → mm_ws9.getD i [] = mm_ws9.getD j [] → i = j := by decide
theorem mm_mt_eq {U : Int → Int} {a e : Int} {w w' : List Int} (p : mm_mt U a e w) (q : mm_mt U a e w') : w = w' := by
  have hl : w.length = w'.length := by have := p.1; have := q.1; omega
  refine List.ext_getElem hl (fun i h1 h2 => ?_)
  have a1 := p.2 i h1
  have a2 := q.2 i h2
  rw [List.getD_eq_getElem?_getD, List.getElem?_eq_getElem h1] at a1
  rw [List.getD_eq_getElem?_getD, List.getElem?_eq_getElem h2] at a2
  exact a1.symm.trans a2
/-! numbers -/
def mm_nv (U : Int → Int) (a : Int) : Nat → Int
  | 0 => 0
  | l + 1 => mm_nv U a l * 10 + U (a + l) - 48
def mm_tv (U : Int → Int) (n a : Int) : Int := mm_nv U a (mm_te U n a - a).toNat
/-- what stands at a, as one number -/
def mm_tc (U : Int → Int) (n a : Int) : Int := if mm_tkk U n a = 2 then (if mm_tw U n a = -1 then 17 else mm_tw U n a) else if mm_tkk U n a = 3 then (if mm_te U n a - a ≤ 5 then 18 else 19) else if mm_tkk U n a = 4 then 100 + U a else if mm_tkk U n a = 0 then 21 else 20
theorem mm_tc_f (U : Int → Int) (n a : Int) : (mm_tkk U n a = 2 ∧ 0 ≤ mm_tw U n a ∧ mm_tw U n a ≤ 16 ∧ mm_tc U n a = mm_tw U n a) ∨ (mm_tkk U n a = 2 ∧ mm_tw U n a = -1 ∧ mm_tc U n a = 17) ∨ (mm_tkk U n a = 3 ∧ mm_te U n a - a ≤ 5 ∧ mm_tc U n a = 18 ∧ mm_tw U n a = -1) ∨ (mm_tkk U n a = 3 ∧ 5 < mm_te U n a - a ∧ mm_tc U n a = 19 ∧ mm_tw U n a = -1) ∨ (mm_tkk U n a = 4 ∧ mm_tc U n a = 100 + U a ∧ 40 ≤ U a ∧ U a ≤ 61 ∧ mm_tw U n a = -1) ∨ (mm_tkk U n a = 0 ∧ mm_tc U n a = 21 ∧ mm_tw U n a = -1) ∨ (mm_tkk U n a = 1 ∧ mm_tc U n a = 20 ∧ mm_tw U n a = -1) := by
  have zw : mm_tkk U n a ≠ 2 → mm_tw U n a = -1 := fun q => if_neg q
  have zk : mm_tkk U n a = 0 ∨ mm_tkk U n a = 1 ∨ mm_tkk U n a = 2 ∨ mm_tkk U n a = 3 ∨ (mm_tkk U n a = 4 ∧ 40 ≤ U a ∧ U a ≤ 61) := by
    have := mm_kd_f (U a)
    unfold mm_tkk
    split <;> omega
  have zr : -1 ≤ mm_tw U n a ∧ mm_tw U n a ≤ 16 := by
    rcases mm_tw_f U n a with ⟨i, h1, h2, h3, h4⟩ | ⟨h1, h2⟩ <;> omega
  unfold mm_tc
  rcases zk with q | q | q | q | ⟨q, q2⟩
  · have w := zw (by omega)
    rw [if_neg (by omega), if_neg (by omega), if_neg (by omega), if_pos q]
    exact Or.inr (Or.inr (Or.inr (Or.inr (Or.inr (Or.inl ⟨q, rfl, w⟩)))))
  · have w := zw (by omega)
    rw [if_neg (by omega), if_neg (by omega), if_neg (by omega), if_neg (by omega)]
    exact Or.inr (Or.inr (Or.inr (Or.inr (Or.inr (Or.inr ⟨q, rfl, w⟩)))))
  · rw [if_pos q]
    split
    · rename_i y
      exact Or.inr (Or.inl ⟨q, y, rfl⟩)
    · exact Or.inl ⟨q, by omega, zr.2, rfl⟩
  · have w := zw (by omega)
    rw [if_neg (by omega), if_pos q]
    split
    · rename_i y
      exact Or.inr (Or.inr (Or.inl ⟨q, y, rfl, w⟩))
    · rename_i y
      exact Or.inr (Or.inr (Or.inr (Or.inl ⟨q, by omega, rfl, w⟩)))
  · have w := zw (by omega)
    rw [if_neg (by omega), if_neg (by omega), if_pos q]
    exact Or.inr (Or.inr (Or.inr (Or.inr (Or.inl ⟨q, rfl, q2.1, q2.2, w⟩))))
theorem mm_te_f (U : Int → Int) (n a : Int) : (mm_tkk U n a = 0 ∧ n ≤ a ∧ mm_te U n a = a) ∨ (mm_tkk U n a ≠ 0 ∧ a < n ∧ a + 1 ≤ mm_te U n a ∧ mm_te U n a ≤ n) := by
  have z := mm_kd_f (U a)
  unfold mm_te mm_tkk
  by_cases q : a < n
  · rw [if_pos q, if_pos q]
    split
    · have y := mm_runw_rg U n (mm_kd (U a)) (a + 1)
      omega
    · omega
  · rw [if_neg q, if_neg q]; omega
theorem mm_tn_f (U : Int → Int) (n a : Int) : (mm_tkk U n a = 0 ∧ n ≤ a ∧ mm_tn U n a = a) ∨ (mm_tkk U n a ≠ 0 ∧ a < n ∧ a + 1 ≤ mm_tn U n a ∧ mm_tn U n a ≤ n) := by
  have z := mm_te_f U n a
  have y := mm_skp_rg U n (mm_te U n a)
  unfold mm_tn
  rcases z with ⟨z1, z2, z3⟩ | ⟨z1, z2, z3, z4⟩
  · refine Or.inl ⟨z1, z2, ?_⟩
    rw [z3]; exact mm_skp_e (Or.inl z2)
  · omega
/-! ===== the parser, step by step ===== -/
abbrev mm_G9 := Int × List Int × Int × Int × Int × Int × (Int → Int)
def mm_flt (_ : mm_G9) (k q : Int) : mm_G9 := ⟨3, [], q, k, 0, 0, fun _ => 0⟩
def mm_opn (c N : Int → Int) (g : mm_G9) : mm_G9 :=
  if c g.2.2.1 = 140 then (if g.2.1.length < 6 then ⟨0, 0 :: g.2.1, N g.2.2.1, 0, g.2.2.2.2.1, g.2.2.2.2.2.1, g.2.2.2.2.2.2⟩ else mm_flt g (if c (N g.2.2.1) ≤ 19 ∨ c (N g.2.2.1) = 140 then 2 else 1) (N g.2.2.1))
  else if c g.2.2.1 = 18 ∨ (7 ≤ c g.2.2.1 ∧ c g.2.2.1 ≤ 16) then ⟨2, g.2.1, N g.2.2.1, 0, g.2.2.2.2.1, g.2.2.2.2.2.1, g.2.2.2.2.2.2⟩
  else if c g.2.2.1 = 19 then mm_flt g 2 g.2.2.1 else if c g.2.2.1 ≤ 17 then mm_flt g 3 g.2.2.1 else mm_flt g 1 g.2.2.1
def mm_aft (c N : Int → Int) (g : mm_G9) : List Int → mm_G9
  | [] => g
  | b :: s =>
    if c g.2.2.1 = 4 ∨ c g.2.2.1 = 5 then ⟨0, 0 :: s, N g.2.2.1, 0, g.2.2.2.2.1, g.2.2.2.2.2.1, g.2.2.2.2.2.2⟩
    else if (c g.2.2.1 = 160 ∨ c g.2.2.1 = 161) ∧ b = 0 then ⟨1, 1 :: s, N g.2.2.1, 0, g.2.2.2.2.1, g.2.2.2.2.2.1, g.2.2.2.2.2.2⟩
    else if c g.2.2.1 = 143 ∨ c g.2.2.1 = 145 ∨ c g.2.2.1 = 142 ∨ c g.2.2.1 = 147 then ⟨1, b :: s, N g.2.2.1, 0, g.2.2.2.2.1, g.2.2.2.2.2.1, g.2.2.2.2.2.2⟩
    else if c g.2.2.1 = 141 ∧ s ≠ [] then ⟨2, s, N g.2.2.1, 0, g.2.2.2.2.1, g.2.2.2.2.2.1, g.2.2.2.2.2.2⟩
    else if s = [] then ⟨4, [], g.2.2.1, 0, g.2.2.2.2.1, g.2.2.2.2.2.1, g.2.2.2.2.2.2⟩ else mm_flt g 1 g.2.2.1
def mm_stp (c N V : Int → Int) (g : mm_G9) : mm_G9 :=
  if g.1 = 0 then (if c g.2.2.1 = 6 then (if g.2.2.2.1 = 6 then mm_flt g 2 g.2.2.1 else ⟨0, g.2.1, N g.2.2.1, g.2.2.2.1 + 1, g.2.2.2.2.1, g.2.2.2.2.2.1, g.2.2.2.2.2.2⟩) else mm_opn c N g)
  else if g.1 = 1 then mm_opn c N g
  else if g.1 = 2 then mm_aft c N g g.2.1
  else if g.1 = 4 then (if g.2.2.2.2.2.1 = 0 ∧ c g.2.2.1 = 3 then ⟨0, [0], N g.2.2.1, 0, g.2.2.2.2.1, 1, g.2.2.2.2.2.2⟩ else ⟨13, [], g.2.2.1, 0, g.2.2.2.2.1, g.2.2.2.2.2.1, g.2.2.2.2.2.2⟩)
  else if g.1 = 10 then (if c g.2.2.1 = 21 then ⟨20, [], g.2.2.1, 0, g.2.2.2.2.1, 0, g.2.2.2.2.2.2⟩ else if ¬ (0 ≤ c g.2.2.1 ∧ c g.2.2.1 ≤ 2) then mm_flt g 1 g.2.2.1 else if 20 ≤ g.2.2.2.2.1 then mm_flt g 2 g.2.2.1 else if c g.2.2.1 = 2 then ⟨11, [], N g.2.2.1, 0, g.2.2.2.2.1, 0, g.2.2.2.2.2.2⟩ else ⟨0, [0], N g.2.2.1, 0, g.2.2.2.2.1, 0, g.2.2.2.2.2.2⟩)
  else if g.1 = 11 then (if 18 ≤ c g.2.2.1 then mm_flt g 1 g.2.2.1 else if ¬ (7 ≤ c g.2.2.1 ∧ c g.2.2.1 ≤ 9) then mm_flt g 3 g.2.2.1 else ⟨12, [], N g.2.2.1, c g.2.2.1 - 7, g.2.2.2.2.1, 0, g.2.2.2.2.2.2⟩)
  else if g.1 = 12 then (if c g.2.2.1 = 18 then ⟨13, [], N g.2.2.1, 0, g.2.2.2.2.1, 0, fun x => if x = g.2.2.2.1 then V g.2.2.1 else g.2.2.2.2.2.2 x⟩ else if c g.2.2.1 = 19 then mm_flt g 2 g.2.2.1 else mm_flt g 1 g.2.2.1)
  else if g.1 = 13 then (if c g.2.2.1 = 159 then ⟨10, [], N g.2.2.1, 0, g.2.2.2.2.1 + 1, 0, g.2.2.2.2.2.2⟩ else mm_flt g 1 g.2.2.1)
  else g
def mm_itr (f : mm_G9 → mm_G9) : Nat → mm_G9 → mm_G9
  | 0, x => x
  | n + 1, x => mm_itr f n (f x)
def mm_St (f : mm_G9 → mm_G9) (A B : mm_G9) : Prop := ∃ n : Nat, mm_itr f n A = B
theorem mm_St_rf {f : mm_G9 → mm_G9} {A : mm_G9} : mm_St f A A := ⟨0, rfl⟩
theorem mm_itr_add (f : mm_G9 → mm_G9) : ∀ (a b : Nat) (x : mm_G9), mm_itr f (a + b) x = mm_itr f b (mm_itr f a x)
  | 0, b, x => by rw [Nat.zero_add]; rfl
  | a + 1, b, x => by
    rw [show a + 1 + b = (a + b) + 1 by omega]
    exact mm_itr_add f a b (f x)
theorem mm_St_tr {f : mm_G9 → mm_G9} {A B C : mm_G9} (p : mm_St f A B) (q : mm_St f B C) : mm_St f A C := by
  obtain ⟨a, h⟩ := p
  obtain ⟨b, k⟩ := q
  exact ⟨a + b, by rw [mm_itr_add, h, k]⟩
theorem mm_St_1 {f : mm_G9 → mm_G9} {A B : mm_G9} (h : f A = B) : mm_St f A B := ⟨1, h⟩
theorem mm_itr_fix {f : mm_G9 → mm_G9} {x : mm_G9} (h : f x = x) : ∀ n : Nat, mm_itr f n x = x
  | 0 => rfl
  | n + 1 => by show mm_itr f n (f x) = x; rw [h]; exact mm_itr_fix h n
theorem mm_St_un {f : mm_G9 → mm_G9} {A B C : mm_G9} (p : mm_St f A B) (q : mm_St f A C) (hB : f B = B) (hC : f C = C) : B = C := by
  obtain ⟨a, h⟩ := p
  obtain ⟨b, k⟩ := q
  have e1 : mm_itr f (a + b) A = B := by rw [mm_itr_add, h, mm_itr_fix hB]
  have e2 : mm_itr f (a + b) A = C := by rw [Nat.add_comm, mm_itr_add, k, mm_itr_fix hC]
  exact e1.symm.trans e2
/-- from A one step on, where B isn't A -/
theorem mm_St_ne {f : mm_G9 → mm_G9} {A A' B : mm_G9} (p : mm_St f A B) (hm : A.1 ≠ B.1) (e : f A' = f A) : mm_St f A' B := by
  obtain ⟨a, h⟩ := p
  cases a with
  | zero => exact absurd (congrArg Prod.fst h) hm
  | succ a => exact ⟨a + 1, by show mm_itr f a (f A') = B; rw [e]; exact h⟩
abbrev mm_F3 (q k : Int) : mm_G9 := ⟨3, [], q, k, 0, 0, fun _ => 0⟩
section
variable {c N V : Int → Int} {s : List Int} {b p j i r : Int} {P : Int → Int}
theorem mm_sp_0 (h : c p ≠ 6) : mm_stp c N V ⟨0, s, p, j, i, r, P⟩ = mm_stp c N V ⟨1, s, p, 0, i, r, P⟩ := by
  unfold mm_stp
  rw [if_pos rfl, if_neg h, if_neg (show ¬ (1 : Int) = 0 by decide), if_pos rfl]
  rfl
theorem mm_sp_not (h : c p = 6) (hj : j ≠ 6) : mm_stp c N V ⟨0, s, p, j, i, r, P⟩ = ⟨0, s, N p, j + 1, i, r, P⟩ := by
  unfold mm_stp
  rw [if_pos rfl, if_pos h, if_neg hj]
theorem mm_sp_nots (h : c p = 6) : mm_stp c N V ⟨0, s, p, 6, i, r, P⟩ = (mm_F3 (p) (2)) := by
  unfold mm_stp
  rw [if_pos rfl, if_pos h, if_pos rfl]; rfl
theorem mm_sp_1 : mm_stp c N V ⟨1, s, p, j, i, r, P⟩ = mm_opn c N ⟨1, s, p, j, i, r, P⟩ := by
  unfold mm_stp
  rw [if_neg (show ¬ (1 : Int) = 0 by decide), if_pos rfl]
theorem mm_sp_open (h : c p = 140) (hs : s.length < 6) : mm_stp c N V ⟨1, s, p, j, i, r, P⟩ = ⟨0, 0 :: s, N p, 0, i, r, P⟩ := by
  rw [mm_sp_1]; unfold mm_opn; rw [if_pos h, if_pos hs]
theorem mm_sp_deep {q : Int} (h : c p = 140) (hs : ¬ s.length < 6) (hq : q = if c (N p) ≤ 19 ∨ c (N p) = 140 then 2 else 1) : mm_stp c N V ⟨1, s, p, j, i, r, P⟩ = (mm_F3 (N p) (q)) := by
  rw [mm_sp_1]; unfold mm_opn; rw [if_pos h, if_neg hs, hq]; rfl
theorem mm_sp_part (h : c p = 18 ∨ (7 ≤ c p ∧ c p ≤ 16)) : mm_stp c N V ⟨1, s, p, j, i, r, P⟩ = ⟨2, s, N p, 0, i, r, P⟩ := by
  rw [mm_sp_1]; unfold mm_opn; rw [if_neg (show ¬ c p = 140 by omega), if_pos h]
theorem mm_sp_bad {q : Int} (h : (c p = 19 ∧ q = 2) ∨ (c p ≤ 6 ∧ q = 3) ∨ (c p = 17 ∧ q = 3) ∨ (20 ≤ c p ∧ c p ≠ 140 ∧ q = 1)) : mm_stp c N V ⟨1, s, p, j, i, r, P⟩ = (mm_F3 (p) (q)) := by
  rw [mm_sp_1]; unfold mm_opn
  rw [if_neg (show ¬ c p = 140 by omega), if_neg (show ¬ (c p = 18 ∨ (7 ≤ c p ∧ c p ≤ 16)) by omega)]
  rcases h with ⟨h, e⟩ | ⟨h, e⟩ | ⟨h, e⟩ | ⟨h, h2, e⟩
  · rw [if_pos h, e]; rfl
  · rw [if_neg (show ¬ c p = 19 by omega), if_pos (show c p ≤ 17 by omega), e]; rfl
  · rw [if_neg (show ¬ c p = 19 by omega), if_pos (show c p ≤ 17 by omega), e]; rfl
  · rw [if_neg (show ¬ c p = 19 by omega), if_neg (show ¬ c p ≤ 17 by omega), e]; rfl
theorem mm_aft_c : mm_aft c N ⟨2, b :: s, p, j, i, r, P⟩ (b :: s) = (if c p = 4 ∨ c p = 5 then ⟨0, 0 :: s, N p, 0, i, r, P⟩ else if (c p = 160 ∨ c p = 161) ∧ b = 0 then ⟨1, 1 :: s, N p, 0, i, r, P⟩ else if c p = 143 ∨ c p = 145 ∨ c p = 142 ∨ c p = 147 then ⟨1, b :: s, N p, 0, i, r, P⟩ else if c p = 141 ∧ s ≠ [] then ⟨2, s, N p, 0, i, r, P⟩ else if s = [] then ⟨4, [], p, 0, i, r, P⟩ else (mm_F3 (p) (1))) := rfl
theorem mm_sp_2 : mm_stp c N V ⟨2, s, p, j, i, r, P⟩ = mm_aft c N ⟨2, s, p, j, i, r, P⟩ s := by
  unfold mm_stp
  rw [if_neg (show ¬ (2 : Int) = 0 by decide), if_neg (show ¬ (2 : Int) = 1 by decide), if_pos rfl]
theorem mm_sp_and (h : c p = 4 ∨ c p = 5) : mm_stp c N V ⟨2, b :: s, p, j, i, r, P⟩ = ⟨0, 0 :: s, N p, 0, i, r, P⟩ := by
  rw [mm_sp_2]; exact if_pos h
theorem mm_sp_lt (h : c p = 160 ∨ c p = 161) : mm_stp c N V ⟨2, 0 :: s, p, j, i, r, P⟩ = ⟨1, 1 :: s, N p, 0, i, r, P⟩ := by
  rw [mm_sp_2, mm_aft_c]
  rw [if_neg (show ¬ (c p = 4 ∨ c p = 5) by omega), if_pos ⟨h, rfl⟩]
theorem mm_sp_op (h : c p = 142 ∨ c p = 147 ∨ c p = 143 ∨ c p = 145) : mm_stp c N V ⟨2, b :: s, p, j, i, r, P⟩ = ⟨1, b :: s, N p, 0, i, r, P⟩ := by
  rw [mm_sp_2, mm_aft_c]
  rw [if_neg (show ¬ (c p = 4 ∨ c p = 5) by omega), if_neg (show ¬ ((c p = 160 ∨ c p = 161) ∧ b = 0) by omega), if_pos (show c p = 143 ∨ c p = 145 ∨ c p = 142 ∨ c p = 147 by omega)]
theorem mm_sp_close (h : c p = 141) (hs : s ≠ []) : mm_stp c N V ⟨2, b :: s, p, j, i, r, P⟩ = ⟨2, s, N p, 0, i, r, P⟩ := by
  rw [mm_sp_2, mm_aft_c]
  rw [if_neg (show ¬ (c p = 4 ∨ c p = 5) by omega), if_neg (show ¬ ((c p = 160 ∨ c p = 161) ∧ b = 0) by omega), if_neg (show ¬ (c p = 143 ∨ c p = 145 ∨ c p = 142 ∨ c p = 147) by omega), if_pos ⟨h, hs⟩]
/-- nothing here goes on -/
def mm_nF (x b : Int) : Prop := x ≠ 4 ∧ x ≠ 5 ∧ x ≠ 143 ∧ x ≠ 145 ∧ x ≠ 142 ∧ x ≠ 147 ∧ (b ≠ 0 ∨ (x ≠ 160 ∧ x ≠ 161))
theorem mm_sp_shut (h : mm_nF (c p) b) (h2 : c p ≠ 141) (hs : s ≠ []) : mm_stp c N V ⟨2, b :: s, p, j, i, r, P⟩ = (mm_F3 (p) (1)) := by
  unfold mm_nF at h
  rw [mm_sp_2, mm_aft_c]
  rw [if_neg (show ¬ (c p = 4 ∨ c p = 5) by omega), if_neg (show ¬ ((c p = 160 ∨ c p = 161) ∧ b = 0) by omega), if_neg (show ¬ (c p = 143 ∨ c p = 145 ∨ c p = 142 ∨ c p = 147) by omega), if_neg (fun z => h2 z.1), if_neg hs]
theorem mm_sp_end (h : mm_nF (c p) b) : mm_stp c N V ⟨2, [b], p, j, i, r, P⟩ = ⟨4, [], p, 0, i, r, P⟩ := by
  unfold mm_nF at h
  rw [mm_sp_2, mm_aft_c]
  rw [if_neg (show ¬ (c p = 4 ∨ c p = 5) by omega), if_neg (show ¬ ((c p = 160 ∨ c p = 161) ∧ b = 0) by omega), if_neg (show ¬ (c p = 143 ∨ c p = 145 ∨ c p = 142 ∨ c p = 147) by omega), if_neg (fun z => z.2 rfl), if_pos rfl]
theorem mm_sp_3 : mm_stp c N V ⟨3, s, p, j, i, r, P⟩ = ⟨3, s, p, j, i, r, P⟩ := by
  unfold mm_stp
  simp
theorem mm_sp_20 : mm_stp c N V ⟨20, s, p, j, i, r, P⟩ = ⟨20, s, p, j, i, r, P⟩ := by
  unfold mm_stp
  simp
theorem mm_sp_4u (h : c p = 3) : mm_stp c N V ⟨4, s, p, j, i, 0, P⟩ = ⟨0, [0], N p, 0, i, 1, P⟩ := by
  unfold mm_stp
  simp [h]
theorem mm_sp_4 (h : r = 1 ∨ c p ≠ 3) : mm_stp c N V ⟨4, s, p, j, i, r, P⟩ = ⟨13, [], p, 0, i, r, P⟩ := by
  unfold mm_stp
  rw [if_neg (show ¬ (4 : Int) = 0 by decide), if_neg (show ¬ (4 : Int) = 1 by decide), if_neg (show ¬ (4 : Int) = 2 by decide), if_pos rfl, if_neg (show ¬ (r = 0 ∧ c p = 3) by omega)]
theorem mm_sp_10 : mm_stp c N V ⟨10, s, p, j, i, r, P⟩ = (if c p = 21 then ⟨20, [], p, 0, i, 0, P⟩ else if ¬ (0 ≤ c p ∧ c p ≤ 2) then (mm_F3 (p) (1)) else if 20 ≤ i then (mm_F3 (p) (2)) else if c p = 2 then ⟨11, [], N p, 0, i, 0, P⟩ else ⟨0, [0], N p, 0, i, 0, P⟩) := by
  unfold mm_stp
  rw [if_neg (show ¬ (10 : Int) = 0 by decide), if_neg (show ¬ (10 : Int) = 1 by decide), if_neg (show ¬ (10 : Int) = 2 by decide), if_neg (show ¬ (10 : Int) = 4 by decide), if_pos rfl]
  rfl
theorem mm_sp_11 : mm_stp c N V ⟨11, s, p, j, i, r, P⟩ = (if 18 ≤ c p then (mm_F3 (p) (1)) else if ¬ (7 ≤ c p ∧ c p ≤ 9) then (mm_F3 (p) (3)) else ⟨12, [], N p, c p - 7, i, 0, P⟩) := by
  unfold mm_stp
  rw [if_neg (show ¬ (11 : Int) = 0 by decide), if_neg (show ¬ (11 : Int) = 1 by decide), if_neg (show ¬ (11 : Int) = 2 by decide), if_neg (show ¬ (11 : Int) = 4 by decide), if_neg (show ¬ (11 : Int) = 10 by decide), if_pos rfl]
  rfl
theorem mm_sp_12 : mm_stp c N V ⟨12, s, p, j, i, r, P⟩ = (if c p = 18 then ⟨13, [], N p, 0, i, 0, fun x => if x = j then V p else P x⟩ else if c p = 19 then (mm_F3 (p) (2)) else (mm_F3 (p) (1))) := by
  unfold mm_stp
  rw [if_neg (show ¬ (12 : Int) = 0 by decide), if_neg (show ¬ (12 : Int) = 1 by decide), if_neg (show ¬ (12 : Int) = 2 by decide), if_neg (show ¬ (12 : Int) = 4 by decide), if_neg (show ¬ (12 : Int) = 10 by decide), if_neg (show ¬ (12 : Int) = 11 by decide), if_pos rfl]
  rfl
theorem mm_sp_13 : mm_stp c N V ⟨13, s, p, j, i, r, P⟩ = (if c p = 159 then ⟨10, [], N p, 0, i + 1, 0, P⟩ else (mm_F3 (p) (1))) := by
  unfold mm_stp
  rw [if_neg (show ¬ (13 : Int) = 0 by decide), if_neg (show ¬ (13 : Int) = 1 by decide), if_neg (show ¬ (13 : Int) = 2 by decide), if_neg (show ¬ (13 : Int) = 4 by decide), if_neg (show ¬ (13 : Int) = 10 by decide), if_neg (show ¬ (13 : Int) = 11 by decide), if_neg (show ¬ (13 : Int) = 12 by decide), if_pos rfl]
  rfl
end
theorem mm_or1 {r : Int} {A B : Prop} (y : (r = 1 ∧ A) ∨ (r = 0 ∧ B)) (h : r ≠ 0) : A := (y.resolve_right (fun z => h z.1)).2
theorem mm_or0 {r : Int} {A B : Prop} (y : (r = 1 ∧ A) ∨ (r = 0 ∧ B)) (h : r ≠ 1) : B := (y.resolve_left (fun z => h z.1)).2
/-! ===== the class's Reader ===== -/
def mm_UX (h : mH) : Int → Int := mm_tr (h.2.1 62) (h.1 63 3)
def mm_TXx (h h2 : mH) : Prop := (∀ j, h2.2.1 62 j = h.2.1 62 j) ∧ h2.1 63 3 = h.1 63 3
theorem mm_TXx_rf {h : mH} : mm_TXx h h := ⟨fun _ => rfl, rfl⟩
theorem mm_TXx_tr {h h1 h2 : mH} (p : mm_TXx h h1) (q : mm_TXx h1 h2) : mm_TXx h h2 := ⟨fun j => (q.1 j).trans (p.1 j), q.2.trans p.2⟩
theorem mm_TXx_fr {wf : List (Nat × Nat)} {wa : List Nat} {h h2 : mH} (f : mm_fr wf wa h h2) (hw : (63, 3) ∉ wf ∧ 62 ∉ wa) : mm_TXx h h2 := ⟨f.2 62 hw.2, f.1 63 3 hw.1⟩
theorem mm_TXx_U {h h2 : mH} (t : mm_TXx h h2) : mm_UX h2 = mm_UX h := by
  unfold mm_UX
  rw [funext t.1, t.2]
def mm_fX (h : mH) : mm_G9 → mm_G9 := mm_stp (mm_tc (mm_UX h) (h.1 63 3)) (mm_tn (mm_UX h) (h.1 63 3)) (mm_tv (mm_UX h) (h.1 63 3))
theorem mm_fX_eq {h h2 : mH} (t : mm_TXx h h2) : mm_fX h2 = mm_fX h := by
  unfold mm_fX
  rw [mm_TXx_U t, t.2]
def mm_cX (h : mH) : Int := mm_tc (mm_UX h) (h.1 63 3) (h.1 63 7)
def mm_nX9 (h : mH) : Int := mm_tn (mm_UX h) (h.1 63 3) (h.1 63 7)
def mm_aX (h : mH) : Prop := h.1 63 5 = mm_tkk (mm_UX h) (h.1 63 3) (h.1 63 7) ∧ h.1 63 6 = mm_tw (mm_UX h) (h.1 63 3) (h.1 63 7) ∧ h.1 63 8 = mm_te (mm_UX h) (h.1 63 3) (h.1 63 7)
theorem mm_cX_f {h : mH} (i : mm_inv h) (a : mm_aX h) : ((h.1 63 5 = 2 ∧ 0 ≤ h.1 63 6 ∧ h.1 63 6 ≤ 16 ∧ mm_cX h = h.1 63 6) ∨ (h.1 63 5 = 2 ∧ h.1 63 6 = -1 ∧ mm_cX h = 17) ∨ (h.1 63 5 = 3 ∧ h.1 63 8 - h.1 63 7 ≤ 5 ∧ mm_cX h = 18 ∧ h.1 63 6 = -1) ∨ (h.1 63 5 = 3 ∧ 5 < h.1 63 8 - h.1 63 7 ∧ mm_cX h = 19 ∧ h.1 63 6 = -1) ∨ (h.1 63 5 = 4 ∧ mm_cX h = 100 + h.2.1 62 (h.1 63 7) ∧ 40 ≤ h.2.1 62 (h.1 63 7) ∧ h.2.1 62 (h.1 63 7) ≤ 61 ∧ h.1 63 6 = -1) ∨ (h.1 63 5 = 0 ∧ mm_cX h = 21 ∧ h.1 63 6 = -1) ∨ (h.1 63 5 = 1 ∧ mm_cX h = 20 ∧ h.1 63 6 = -1)) ∧ (h.1 63 5 = 0 ∨ h.1 63 7 ≤ 499) := by
  obtain ⟨a1, a2, a3⟩ := a
  have z := mm_tc_f (mm_UX h) (h.1 63 3) (h.1 63 7)
  have y := mm_te_f (mm_UX h) (h.1 63 3) (h.1 63 7)
  have g : 0 ≤ h.1 63 7 ∧ h.1 63 7 ≤ 500 := i.1 63 7
  have n : 0 ≤ h.1 63 3 ∧ h.1 63 3 ≤ 500 := i.1 63 3
  have u : h.1 63 7 < h.1 63 3 → mm_UX h (h.1 63 7) = h.2.1 62 (h.1 63 7) := fun q => mm_tr_in g.1 q
  unfold mm_cX
  rw [← a1, ← a2, ← a3] at z
  rw [← a1, ← a3] at y
  have r : h.1 63 5 = 0 ∨ h.1 63 7 ≤ 499 := by clear z u; omega
  refine ⟨?_, r⟩
  rcases z with z | z | z | z | z | z | z
  · exact Or.inl z
  · exact Or.inr (Or.inl z)
  · exact Or.inr (Or.inr (Or.inl z))
  · exact Or.inr (Or.inr (Or.inr (Or.inl z)))
  · have v := u (by have := z.1; clear z; omega)
    rw [v] at z
    exact Or.inr (Or.inr (Or.inr (Or.inr (Or.inl z))))
  · exact Or.inr (Or.inr (Or.inr (Or.inr (Or.inr (Or.inl z)))))
  · exact Or.inr (Or.inr (Or.inr (Or.inr (Or.inr (Or.inr z)))))
def mm_hd7 (h : mH) : Prop := (h.1 63 5 = 2 ∧ 0 ≤ h.1 63 6 ∧ h.1 63 6 ≤ 16 ∧ mm_cX h = h.1 63 6) ∨ (h.1 63 5 = 2 ∧ h.1 63 6 = -1 ∧ mm_cX h = 17) ∨ (h.1 63 5 = 3 ∧ h.1 63 8 - h.1 63 7 ≤ 5 ∧ mm_cX h = 18 ∧ h.1 63 6 = -1) ∨ (h.1 63 5 = 3 ∧ 5 < h.1 63 8 - h.1 63 7 ∧ mm_cX h = 19 ∧ h.1 63 6 = -1) ∨ (h.1 63 5 = 4 ∧ mm_cX h = 100 + h.2.1 62 (h.1 63 7) ∧ 40 ≤ h.2.1 62 (h.1 63 7) ∧ h.2.1 62 (h.1 63 7) ≤ 61 ∧ h.1 63 6 = -1) ∨ (h.1 63 5 = 0 ∧ mm_cX h = 21 ∧ h.1 63 6 = -1) ∨ (h.1 63 5 = 1 ∧ mm_cX h = 20 ∧ h.1 63 6 = -1)
theorem mm_cX_h {h : mH} (i : mm_inv h) (a : mm_aX h) : mm_hd7 h := (mm_cX_f i a).1
theorem mm_cX_r {h : mH} (i : mm_inv h) (a : mm_aX h) : h.1 63 5 = 0 ∨ h.1 63 7 ≤ 499 := (mm_cX_f i a).2
theorem mm_hdx {h : mH} (t : mm_hd7 h) : (h.1 63 5 = 2 ∧ 0 ≤ h.1 63 6 ∧ h.1 63 6 ≤ 16 ∧ mm_cX h = h.1 63 6) ∨ (h.1 63 5 = 2 ∧ h.1 63 6 = -1 ∧ mm_cX h = 17) ∨ (h.1 63 5 = 3 ∧ h.1 63 8 - h.1 63 7 ≤ 5 ∧ mm_cX h = 18 ∧ h.1 63 6 = -1) ∨ (h.1 63 5 = 3 ∧ 5 < h.1 63 8 - h.1 63 7 ∧ mm_cX h = 19 ∧ h.1 63 6 = -1) ∨ (h.1 63 5 = 4 ∧ mm_cX h = 100 + h.2.1 62 (h.1 63 7) ∧ 40 ≤ h.2.1 62 (h.1 63 7) ∧ h.2.1 62 (h.1 63 7) ≤ 61 ∧ h.1 63 6 = -1) ∨ (h.1 63 5 = 0 ∧ mm_cX h = 21 ∧ h.1 63 6 = -1) ∨ (h.1 63 5 = 1 ∧ mm_cX h = 20 ∧ h.1 63 6 = -1) := t
/-- a step to the next token -/
def mm_ff (h h2 : mH) : Prop := h2.1 63 9 = h.1 63 9 ∧ h2.1 63 10 = h.1 63 10
theorem mm_ff_rf {h : mH} : mm_ff h h := ⟨rfl, rfl⟩
theorem mm_ff.trans {h h1 h2 : mH} (p : mm_ff h1 h2) (q : mm_ff h h1) : mm_ff h h2 := ⟨p.1.trans q.1, p.2.trans q.2⟩
def mm_st7 (h h2 : mH) : Prop := mm_TXx h h2 ∧ mm_aX h2 ∧ h2.1 63 7 = mm_nX9 h ∧ mm_ff h h2
def mm_ok7 (h h2 : mH) : Prop := mm_TXx h h2 ∧ mm_aX h2 ∧ mm_ff h h2
def mm_p7 (k : Nat) (h h2 : mH) : Prop := mm_ok7 h h2 ∧ h.1 63 7 + 1 ≤ h2.1 63 7 ∧ ∀ (b : Int) (s : List Int) (i r : Int) (P : Int → Int), s.length = k → mm_St (mm_fX h) ⟨1, b :: s, h.1 63 7, 0, i, r, P⟩ ⟨2, b :: s, h2.1 63 7, 0, i, r, P⟩
def mm_g7 (k : Nat) (h h2 : mH) : Prop := 1 ≤ h2.1 63 9 ∧ ∀ (b : Int) (s : List Int) (i r : Int) (P : Int → Int), s.length = k → mm_St (mm_fX h) ⟨1, b :: s, h.1 63 7, 0, i, r, P⟩ (mm_F3 (h2.1 63 10) (h2.1 63 9))
def mm_q7 (M : Int) (k : Nat) (h h2 : mH) : Prop := mm_ok7 h h2 ∧ h.1 63 7 + 1 ≤ h2.1 63 7 ∧ ∃ b : Int, (b = 1 ∨ (mm_cX h2 ≠ 160 ∧ mm_cX h2 ≠ 161)) ∧ ∀ (s : List Int) (i r : Int) (P : Int → Int), s.length = k → mm_St (mm_fX h) ⟨M, 0 :: s, h.1 63 7, 0, i, r, P⟩ ⟨2, b :: s, h2.1 63 7, 0, i, r, P⟩
def mm_f7 (M : Int) (k : Nat) (h h2 : mH) : Prop := 1 ≤ h2.1 63 9 ∧ ∀ (s : List Int) (i r : Int) (P : Int → Int), s.length = k → mm_St (mm_fX h) ⟨M, 0 :: s, h.1 63 7, 0, i, r, P⟩ (mm_F3 (h2.1 63 10) (h2.1 63 9))
def mm_n7 (k : Nat) (j : Int) (h h2 : mH) : Prop := mm_ok7 h h2 ∧ h.1 63 7 ≤ h2.1 63 7 ∧ ∀ (s : List Int) (i r : Int) (P : Int → Int), s.length = k → mm_St (mm_fX h) ⟨0, 0 :: s, h.1 63 7, 0, i, r, P⟩ ⟨0, 0 :: s, h2.1 63 7, j, i, r, P⟩
def mm_nA (h : mH) : Prop := mm_cX h ≠ 142 ∧ mm_cX h ≠ 147
def mm_nB (h : mH) : Prop := mm_cX h ≠ 142 ∧ mm_cX h ≠ 147 ∧ mm_cX h ≠ 143 ∧ mm_cX h ≠ 145
def mm_nC (h : mH) : Prop := mm_cX h ≠ 142 ∧ mm_cX h ≠ 147 ∧ mm_cX h ≠ 143 ∧ mm_cX h ≠ 145 ∧ mm_cX h ≠ 5
def mm_nD (h : mH) : Prop := mm_cX h ≠ 142 ∧ mm_cX h ≠ 147 ∧ mm_cX h ≠ 143 ∧ mm_cX h ≠ 145 ∧ mm_cX h ≠ 5 ∧ mm_cX h ≠ 4
/-- what leaves the token alone -/
def mm_em (h h2 : mH) : Prop := mm_TXx h h2 ∧ h2.1 63 5 = h.1 63 5 ∧ h2.1 63 6 = h.1 63 6 ∧ h2.1 63 7 = h.1 63 7 ∧ h2.1 63 8 = h.1 63 8 ∧ h2.1 63 9 = h.1 63 9 ∧ h2.1 63 10 = h.1 63 10
theorem mm_em_fr {wf : List (Nat × Nat)} {wa : List Nat} {h h2 : mH} (f : mm_fr wf wa h h2) (hw : ((63, 3) ∉ wf ∧ 62 ∉ wa) ∧ (63, 5) ∉ wf ∧ (63, 6) ∉ wf ∧ (63, 7) ∉ wf ∧ (63, 8) ∉ wf ∧ (63, 9) ∉ wf ∧ (63, 10) ∉ wf) : mm_em h h2 :=
  ⟨mm_TXx_fr f hw.1, f.1 63 5 hw.2.1, f.1 63 6 hw.2.2.1, f.1 63 7 hw.2.2.2.1, f.1 63 8 hw.2.2.2.2.1, f.1 63 9 hw.2.2.2.2.2.1, f.1 63 10 hw.2.2.2.2.2.2⟩
theorem mm_em_ff {h h2 : mH} (e : mm_em h h2) : mm_ff h h2 := ⟨e.2.2.2.2.2.1, e.2.2.2.2.2.2⟩
theorem mm_em_c {h h2 : mH} (e : mm_em h h2) : mm_cX h2 = mm_cX h := by
  unfold mm_cX
  rw [mm_TXx_U e.1, e.1.2, e.2.2.2.1]
theorem mm_em_a {h h2 : mH} (e : mm_em h h2) (a : mm_aX h) : mm_aX h2 := by
  obtain ⟨t, e5, e6, e7, e8, e9, e10⟩ := e
  unfold mm_aX
  rw [mm_TXx_U t, t.2, e5, e6, e7, e8]
  exact a
theorem mm_ok7_em {h h1 h2 : mH} (o : mm_ok7 h h1) (e : mm_em h1 h2) : mm_ok7 h h2 := ⟨mm_TXx_tr o.1 e.1, mm_em_a e o.2.1, (mm_em_ff e).trans o.2.2⟩
theorem mm_p7_em {k : Nat} {h h1 h2 : mH} (p : mm_p7 k h h1) (e : mm_em h1 h2) : mm_p7 k h h2 := ⟨mm_ok7_em p.1 e, by rw [e.2.2.2.1]; exact p.2.1, by rw [e.2.2.2.1]; exact p.2.2⟩
theorem mm_q7_em {M : Int} {k : Nat} {h h1 h2 : mH} (p : mm_q7 M k h h1) (e : mm_em h1 h2) : mm_q7 M k h h2 := by
  obtain ⟨o, l, b, hb, z⟩ := p
  exact ⟨mm_ok7_em o e, by rw [e.2.2.2.1]; exact l, b, by rw [mm_em_c e]; exact hb, by rw [e.2.2.2.1]; exact z⟩
theorem mm_nA_em {h h2 : mH} (n : mm_nA h) (e : mm_em h h2) : mm_nA h2 := by unfold mm_nA; rw [mm_em_c e]; exact n
theorem mm_nB_em {h h2 : mH} (n : mm_nB h) (e : mm_em h h2) : mm_nB h2 := by unfold mm_nB; rw [mm_em_c e]; exact n
theorem mm_nC_em {h h2 : mH} (n : mm_nC h) (e : mm_em h h2) : mm_nC h2 := by unfold mm_nC; rw [mm_em_c e]; exact n
theorem mm_st7_le {h h2 : mH} (s : mm_st7 h h2) : h.1 63 7 ≤ h2.1 63 7 := by
  rw [s.2.2.1]
  have := mm_tn_f (mm_UX h) (h.1 63 3) (h.1 63 7)
  unfold mm_nX9
  omega
theorem mm_st7_lt {h h2 : mH} (s : mm_st7 h h2) (c : mm_cX h ≠ 21) : h.1 63 7 + 1 ≤ h2.1 63 7 := by
  rw [s.2.2.1]
  have a := mm_tn_f (mm_UX h) (h.1 63 3) (h.1 63 7)
  have b := mm_tc_f (mm_UX h) (h.1 63 3) (h.1 63 7)
  unfold mm_cX at c
  unfold mm_nX9
  omega
theorem mm_st7_of {wf : List (Nat × Nat)} {wa : List Nat} {h h2 : mH} (a : mm_aX h) (a2 : mm_aX h2) (e : h2.1 63 7 = mm_skp (mm_UX h) (h.1 63 3) (h.1 63 8)) (f : mm_fr wf wa h h2) (hw : ((63, 3) ∉ wf ∧ 62 ∉ wa) ∧ (63, 9) ∉ wf ∧ (63, 10) ∉ wf) : mm_st7 h h2 :=
  ⟨mm_TXx_fr f hw.1, a2, by rw [e, a.2.2]; rfl, f.1 63 9 hw.2.1, f.1 63 10 hw.2.2⟩
theorem mm_p7_part {k : Nat} {h h1 h2 : mH} (c : mm_cX h = 18 ∨ (7 ≤ mm_cX h ∧ mm_cX h ≤ 16)) (e : mm_em h h1) (s : mm_st7 h1 h2) : mm_p7 k h h2 := by
  have n : h2.1 63 7 = mm_nX9 h := by rw [s.2.2.1]; unfold mm_nX9; rw [mm_TXx_U e.1, e.1.2, e.2.2.2.1]
  have l := mm_st7_lt s (by rw [mm_em_c e]; omega)
  rw [e.2.2.2.1] at l
  refine ⟨⟨mm_TXx_tr e.1 s.1, s.2.1, s.2.2.2.trans (mm_em_ff e)⟩, l, fun b t i r P _ => mm_St_1 ?_⟩
  rw [n]
  exact mm_sp_part c
theorem mm_g7_bad {k : Nat} {h h2 : mH} (c : (mm_cX h = 19 ∧ h2.1 63 9 = 2) ∨ (mm_cX h ≤ 6 ∧ h2.1 63 9 = 3) ∨ (mm_cX h = 17 ∧ h2.1 63 9 = 3) ∨ (20 ≤ mm_cX h ∧ mm_cX h ≠ 140 ∧ h2.1 63 9 = 1)) (e : h2.1 63 10 = h.1 63 7) : mm_g7 k h h2 := by
  refine ⟨by omega, fun b t i r P _ => mm_St_1 ?_⟩
  rw [e]
  exact mm_sp_bad c
theorem mm_p7_op {k : Nat} {h h1 hs h2 : mH} (p : mm_p7 k h h1) (c : mm_cX h1 = 142 ∨ mm_cX h1 = 147 ∨ mm_cX h1 = 143 ∨ mm_cX h1 = 145) (s : mm_st7 h1 hs) (q : mm_p7 k hs h2) : mm_p7 k h h2 := by
  have l := mm_st7_le s
  refine ⟨⟨mm_TXx_tr p.1.1 (mm_TXx_tr s.1 q.1.1), q.1.2.1, q.1.2.2.trans (s.2.2.2.trans p.1.2.2)⟩, by have := p.2.1; have := q.2.1; omega, fun b t i r P ht => ?_⟩
  refine mm_St_tr (p.2.2 b t i r P ht) (mm_St_tr (mm_St_1 ?_) (by have z := q.2.2 b t i r P ht; rw [mm_fX_eq s.1, mm_fX_eq p.1.1] at z; exact z))
  rw [s.2.2.1, ← mm_fX_eq p.1.1]
  exact mm_sp_op c
theorem mm_g7_op {k : Nat} {h h1 hs h2 : mH} (p : mm_p7 k h h1) (c : mm_cX h1 = 142 ∨ mm_cX h1 = 147 ∨ mm_cX h1 = 143 ∨ mm_cX h1 = 145) (s : mm_st7 h1 hs) (q : mm_g7 k hs h2) : mm_g7 k h h2 := by
  refine ⟨q.1, fun b t i r P ht => ?_⟩
  refine mm_St_tr (p.2.2 b t i r P ht) (mm_St_tr (mm_St_1 ?_) (by have z := q.2 b t i r P ht; rw [mm_fX_eq s.1, mm_fX_eq p.1.1] at z; exact z))
  rw [s.2.2.1, ← mm_fX_eq p.1.1]
  exact mm_sp_op c
/-! tests -/
theorem mm_q7_sum {k : Nat} {h h1 : mH} (p : mm_p7 k h h1) (c : mm_cX h1 ≠ 160 ∧ mm_cX h1 ≠ 161) : mm_q7 1 k h h1 := ⟨p.1, p.2.1, 0, Or.inr c, fun t i r P ht => p.2.2 0 t i r P ht⟩
theorem mm_f7_sum {k : Nat} {h h1 : mH} (p : mm_g7 k h h1) : mm_f7 1 k h h1 := ⟨p.1, fun t i r P ht => p.2 0 t i r P ht⟩
theorem mm_q7_lt {k : Nat} {h h1 hs h2 : mH} (p : mm_p7 k h h1) (c : mm_cX h1 = 160 ∨ mm_cX h1 = 161) (s : mm_st7 h1 hs) (q : mm_p7 k hs h2) : mm_q7 1 k h h2 := by
  have l := mm_st7_le s
  refine ⟨⟨mm_TXx_tr p.1.1 (mm_TXx_tr s.1 q.1.1), q.1.2.1, q.1.2.2.trans (s.2.2.2.trans p.1.2.2)⟩, by have := p.2.1; have := q.2.1; omega, 1, Or.inl rfl, fun t i r P ht => ?_⟩
  refine mm_St_tr (p.2.2 0 t i r P ht) (mm_St_tr (mm_St_1 ?_) (by have z := q.2.2 1 t i r P ht; rw [mm_fX_eq s.1, mm_fX_eq p.1.1] at z; exact z))
  rw [s.2.2.1, ← mm_fX_eq p.1.1]
  exact mm_sp_lt c
theorem mm_f7_lt {k : Nat} {h h1 hs h2 : mH} (p : mm_p7 k h h1) (c : mm_cX h1 = 160 ∨ mm_cX h1 = 161) (s : mm_st7 h1 hs) (q : mm_g7 k hs h2) : mm_f7 1 k h h2 := by
  refine ⟨q.1, fun t i r P ht => ?_⟩
  refine mm_St_tr (p.2.2 0 t i r P ht) (mm_St_tr (mm_St_1 ?_) (by have z := q.2 1 t i r P ht; rw [mm_fX_eq s.1, mm_fX_eq p.1.1] at z; exact z))
  rw [s.2.2.1, ← mm_fX_eq p.1.1]
  exact mm_sp_lt c
/-! nots -/
theorem mm_n7_0 {k : Nat} {h : mH} (a : mm_aX h) : mm_n7 k 0 h h := ⟨⟨mm_TXx_rf, a, mm_ff_rf⟩, Int.le_refl _, fun _ _ _ _ _ => mm_St_rf⟩
theorem mm_n7_s {k : Nat} {j : Int} {h h1 hs : mH} (p : mm_n7 k j h h1) (c : mm_cX h1 = 6) (hj : j ≠ 6) (s : mm_st7 h1 hs) : mm_n7 k (j + 1) h hs := by
  have l := mm_st7_le s
  refine ⟨⟨mm_TXx_tr p.1.1 s.1, s.2.1, s.2.2.2.trans p.1.2.2⟩, by have := p.2.1; omega, fun t i r P ht => ?_⟩
  refine mm_St_tr (p.2.2 t i r P ht) (mm_St_1 ?_)
  rw [s.2.2.1, ← mm_fX_eq p.1.1]
  exact mm_sp_not c hj
theorem mm_f7_nots {k : Nat} {h h1 h2 : mH} (p : mm_n7 k 6 h h1) (c : mm_cX h1 = 6) (e : h2.1 63 9 = 2) (e2 : h2.1 63 10 = h1.1 63 7) : mm_f7 0 k h h2 := by
  refine ⟨by omega, fun t i r P ht => ?_⟩
  refine mm_St_tr (p.2.2 t i r P ht) (mm_St_1 ?_)
  rw [e, e2, ← mm_fX_eq p.1.1]
  exact mm_sp_nots c
theorem mm_q7_not {k : Nat} {j : Int} {h h1 h2 : mH} (p : mm_n7 k j h h1) (c : mm_cX h1 ≠ 6) (q : mm_q7 1 k h1 h2) : mm_q7 0 k h h2 := by
  obtain ⟨o, l, b, hb, z⟩ := q
  refine ⟨⟨mm_TXx_tr p.1.1 o.1, o.2.1, o.2.2.trans p.1.2.2⟩, by have := p.2.1; omega, b, hb, fun t i r P ht => ?_⟩
  refine mm_St_tr (p.2.2 t i r P ht) ?_
  rw [← mm_fX_eq p.1.1]
  exact mm_St_ne (z t i r P ht) (show (1 : Int) ≠ 2 by decide) (mm_sp_0 c)
theorem mm_f7_not {k : Nat} {j : Int} {h h1 h2 : mH} (p : mm_n7 k j h h1) (c : mm_cX h1 ≠ 6) (q : mm_f7 1 k h1 h2) : mm_f7 0 k h h2 := by
  refine ⟨q.1, fun t i r P ht => ?_⟩
  refine mm_St_tr (p.2.2 t i r P ht) ?_
  rw [← mm_fX_eq p.1.1]
  exact mm_St_ne (q.2 t i r P ht) (show (1 : Int) ≠ 3 by decide) (mm_sp_0 c)
/-! and, or -/
theorem mm_q7_and {k : Nat} {h h1 hs h2 : mH} (p : mm_q7 0 k h h1) (c : mm_cX h1 = 4 ∨ mm_cX h1 = 5) (s : mm_st7 h1 hs) (q : mm_q7 0 k hs h2) : mm_q7 0 k h h2 := by
  have l := mm_st7_le s
  obtain ⟨o, l1, b, hb, z⟩ := p
  obtain ⟨o2, l2, b2, hb2, z2⟩ := q
  refine ⟨⟨mm_TXx_tr o.1 (mm_TXx_tr s.1 o2.1), o2.2.1, o2.2.2.trans (s.2.2.2.trans o.2.2)⟩, by omega, b2, hb2, fun t i r P ht => ?_⟩
  refine mm_St_tr (z t i r P ht) (mm_St_tr (mm_St_1 ?_) (by have y := z2 t i r P ht; rw [mm_fX_eq s.1, mm_fX_eq o.1] at y; exact y))
  rw [s.2.2.1, ← mm_fX_eq o.1]
  exact mm_sp_and c
theorem mm_f7_and {k : Nat} {h h1 hs h2 : mH} (p : mm_q7 0 k h h1) (c : mm_cX h1 = 4 ∨ mm_cX h1 = 5) (s : mm_st7 h1 hs) (q : mm_f7 0 k hs h2) : mm_f7 0 k h h2 := by
  obtain ⟨o, l1, b, hb, z⟩ := p
  refine ⟨q.1, fun t i r P ht => ?_⟩
  refine mm_St_tr (z t i r P ht) (mm_St_tr (mm_St_1 ?_) (by have y := q.2 t i r P ht; rw [mm_fX_eq s.1, mm_fX_eq o.1] at y; exact y))
  rw [s.2.2.1, ← mm_fX_eq o.1]
  exact mm_sp_and c
/-! parentheses -/
theorem mm_p7_par {k : Nat} {h hs h1 h2 : mH} (hk : k < 5) (c : mm_cX h = 140) (s : mm_st7 h hs) (q : mm_q7 0 (k + 1) hs h1) (c2 : mm_cX h1 = 141) (s2 : mm_st7 h1 h2) : mm_p7 k h h2 := by
  have l := mm_st7_le s
  have l2 := mm_st7_le s2
  obtain ⟨o, l1, b, hb, z⟩ := q
  have t1 := mm_TXx_tr s.1 o.1
  refine ⟨⟨mm_TXx_tr t1 s2.1, s2.2.1, s2.2.2.2.trans (o.2.2.trans s.2.2.2)⟩, by omega, fun b0 t i r P ht => ?_⟩
  have y := z (b0 :: t) i r P (by rw [List.length_cons, ht])
  rw [mm_fX_eq s.1] at y
  refine mm_St_tr (mm_St_1 ?_) (mm_St_tr y (mm_St_1 ?_))
  · rw [s.2.2.1]
    exact mm_sp_open c (by rw [List.length_cons]; omega)
  · rw [s2.2.2.1, ← mm_fX_eq t1]
    exact mm_sp_close c2 (List.cons_ne_nil _ _)
theorem mm_g7_shut {k : Nat} {h hs h1 h2 : mH} (hk : k < 5) (c : mm_cX h = 140) (s : mm_st7 h hs) (q : mm_q7 0 (k + 1) hs h1) (n : mm_nD h1) (c2 : mm_cX h1 ≠ 141) (e : h2.1 63 9 = 1) (e2 : h2.1 63 10 = h1.1 63 7) : mm_g7 k h h2 := by
  obtain ⟨o, l1, b, hb, z⟩ := q
  have t1 := mm_TXx_tr s.1 o.1
  refine ⟨by omega, fun b0 t i r P ht => ?_⟩
  have y := z (b0 :: t) i r P (by rw [List.length_cons, ht])
  rw [mm_fX_eq s.1] at y
  refine mm_St_tr (mm_St_1 ?_) (mm_St_tr y (mm_St_1 ?_))
  · rw [s.2.2.1]
    exact mm_sp_open c (by rw [List.length_cons]; omega)
  · rw [e, e2, ← mm_fX_eq t1]
    refine mm_sp_shut ?_ c2 (List.cons_ne_nil _ _)
    unfold mm_nD at n
    unfold mm_cX at n hb
    unfold mm_nF
    rcases hb with hb | hb
    · exact ⟨n.2.2.2.2.2, n.2.2.2.2.1, n.2.2.1, n.2.2.2.1, n.1, n.2.1, Or.inl (by omega)⟩
    · exact ⟨n.2.2.2.2.2, n.2.2.2.2.1, n.2.2.1, n.2.2.2.1, n.1, n.2.1, Or.inr hb⟩
theorem mm_g7_par {k : Nat} {h hs h1 : mH} (hk : k < 5) (c : mm_cX h = 140) (s : mm_st7 h hs) (q : mm_f7 0 (k + 1) hs h1) : mm_g7 k h h1 := by
  refine ⟨q.1, fun b0 t i r P ht => ?_⟩
  have y := q.2 (b0 :: t) i r P (by rw [List.length_cons, ht])
  rw [mm_fX_eq s.1] at y
  refine mm_St_tr (mm_St_1 ?_) y
  rw [s.2.2.1]
  exact mm_sp_open c (by rw [List.length_cons]; omega)
/-- at the sixth expression around -/
def mm_d7 (h h2 : mH) : Prop := h2.1 63 10 = h.1 63 7 ∧ h2.1 63 9 = if mm_cX h ≤ 19 ∨ mm_cX h = 140 then 2 else 1
theorem mm_d7_1 {h h2 : mH} (e : h2.1 63 10 = h.1 63 7) (q : (h2.1 63 9 = 2 ∧ (mm_cX h ≤ 19 ∨ mm_cX h = 140)) ∨ (h2.1 63 9 = 1 ∧ ¬ (mm_cX h ≤ 19 ∨ mm_cX h = 140))) : mm_d7 h h2 := by
  refine ⟨e, ?_⟩
  rcases q with ⟨q, w⟩ | ⟨q, w⟩
  · rw [q, if_pos w]
  · rw [q, if_neg w]
theorem mm_g7_deep {h hs h1 : mH} (c : mm_cX h = 140) (s : mm_st7 h hs) (q : mm_d7 hs h1) : mm_g7 5 h h1 := by
  refine ⟨by rw [q.2]; split <;> decide, fun b0 t i r P ht => mm_St_1 ?_⟩
  rw [q.1, s.2.2.1]
  refine mm_sp_deep c (by rw [List.length_cons, ht]; decide) ?_
  rw [q.2]
  unfold mm_cX
  rw [mm_TXx_U s.1, s.1.2, s.2.2.1]
  rfl
theorem mm_wl9_at (i : Nat) (hi : i < 90) : mm_viand ((mm_words.getD i 0).toInt) 255 = mm_wl9.getD i 0 := by
  have k : (List.range 90).all (fun i => decide (mm_viand ((mm_words.getD i 0).toInt) 255 = mm_wl9.getD i 0)) = true := by decide +kernel
  exact of_decide_eq_true (List.all_eq_true.mp k i (List.mem_range.mpr hi))
theorem mm_wf_at {c i : Int} (b : 0 ≤ i ∧ i < 90) (y : c = mm_wl9.getD i.toNat 0) : mm_wl9.drop i.toNat = c :: mm_wl9.drop (i + 1).toNat := by
  have hl : i.toNat < mm_wl9.length := by
    have : mm_wl9.length = 90 := by decide
    omega
  rw [List.drop_eq_getElem_cons hl, y, List.getD_eq_getElem?_getD, List.getElem?_eq_getElem hl, show (i + 1).toNat = i.toNat + 1 by omega]
  rfl
section
variable {U : Int → Int} {a e c i pl q sm v : Int}
theorem mm_wf_sp (zc : mm_wl9.drop i.toNat = c :: mm_wl9.drop (i + 1).toNat) (w : mm_wf U a e (mm_wl9.drop i.toNat) pl q sm = v) (hc : c = 32) (h : ¬ (sm = 1 ∧ q = e)) : mm_wf U a e (mm_wl9.drop (i + 1).toNat) (pl + 1) a 1 = v := by
  rw [zc] at w
  rw [← w]
  exact ((if_pos hc).trans (if_neg h)).symm
theorem mm_wf_hit (zc : mm_wl9.drop i.toNat = c :: mm_wl9.drop (i + 1).toNat) (w : mm_wf U a e (mm_wl9.drop i.toNat) pl q sm = v) (hc : c = 32) (h : sm = 1) (h2 : q = e) : pl = v := by
  rw [zc] at w
  rw [← w]
  exact ((if_pos hc).trans (if_pos ⟨h, h2⟩)).symm
theorem mm_wf_ch {s : Int} (zc : mm_wl9.drop i.toNat = c :: mm_wl9.drop (i + 1).toNat) (w : mm_wf U a e (mm_wl9.drop i.toNat) pl q sm = v) (hc : c ≠ 32) (h : s = if sm = 1 ∧ q < e ∧ U q = c then 1 else 0) : mm_wf U a e (mm_wl9.drop (i + 1).toNat) pl (q + 1) s = v := by
  rw [zc] at w
  rw [← w, h]
  exact (if_neg hc).symm
theorem mm_wf_out (w : mm_wf U a e (mm_wl9.drop i.toNat) pl q sm = v) (h : 90 ≤ i) : -1 = v := by
  rw [List.drop_eq_nil_of_le (by have : mm_wl9.length = 90 := by decide
                                 omega)] at w
  exact w
end
theorem mm_te_0 {U : Int → Int} {n a e : Int} (h : a < n) (h2 : mm_kd (U a) ≠ 2) (h3 : mm_kd (U a) ≠ 3) (he : e = a + 1) : e = mm_te U n a := by
  unfold mm_te
  rw [if_pos h, if_neg (by omega)]; exact he
theorem mm_te_1 {U : Int → Int} {n a e k : Int} (h : a < n) (hk : k = mm_kd (U a)) (h2 : k = 2 ∨ k = 3) (he : mm_runw U n k e = mm_runw U n k (a + 1)) (hs : n ≤ e ∨ mm_kd (U e) ≠ k) : e = mm_te U n a := by
  unfold mm_te
  rw [if_pos h, if_pos (by rw [← hk]; exact h2), ← hk, ← he]
  exact (mm_runw_e hs).symm
theorem mm_aX_end {h h2 : mH} (t : mm_TXx h h2) (a : h.1 63 3 ≤ h2.1 63 7) (k : h2.1 63 5 = 0) (w : h2.1 63 6 = -1) (e : h2.1 63 8 = h2.1 63 7) : mm_aX h2 := by
  have z : mm_tkk (mm_UX h2) (h2.1 63 3) (h2.1 63 7) = 0 := by unfold mm_tkk; rw [t.2]; exact if_neg (by omega)
  refine ⟨by rw [z]; exact k, ?_, ?_⟩
  · unfold mm_tw; rw [z, if_neg (by decide)]; exact w
  · unfold mm_te; rw [t.2, if_neg (by omega)]; exact e
theorem mm_aX_in {h h2 : mH} (t : mm_TXx h h2) (a : h2.1 63 7 < h.1 63 3) (k : h2.1 63 5 = mm_kd (mm_UX h (h2.1 63 7))) (e : h2.1 63 8 = mm_te (mm_UX h) (h.1 63 3) (h2.1 63 7)) (w : (h2.1 63 5 ≠ 2 ∧ h2.1 63 6 = -1) ∨ (h2.1 63 5 = 2 ∧ h2.1 63 6 = mm_wf (mm_UX h) (h2.1 63 7) (h2.1 63 8) mm_wl9 0 (h2.1 63 7) 1)) : mm_aX h2 := by
  have z : mm_tkk (mm_UX h) (h.1 63 3) (h2.1 63 7) = h2.1 63 5 := by unfold mm_tkk; rw [if_pos a, k]
  unfold mm_aX
  rw [mm_TXx_U t, t.2]
  refine ⟨z.symm, ?_, e⟩
  unfold mm_tw
  rw [z]
  rcases w with ⟨w1, w2⟩ | ⟨w1, w2⟩
  · rw [if_neg w1]; exact w2
  · rw [if_pos w1, ← e]; exact w2
theorem mm_nv_s {U : Int → Int} {a i : Int} (h : a ≤ i) : mm_nv U a (i + 1 - a).toNat = mm_nv U a (i - a).toNat * 10 + U i - 48 := by
  rw [show (i + 1 - a).toNat = (i - a).toNat + 1 by omega]
  show mm_nv U a (i - a).toNat * 10 + U (a + ((i - a).toNat : Int)) - 48 = _
  rw [show a + ((i - a).toNat : Int) = i by omega]
theorem mm_nv_0 {U : Int → Int} {a : Int} : mm_nv U a (a - a).toNat = 0 := by
  rw [show (a - a).toNat = 0 by omega]; rfl
/-- the digits of a number -/
theorem mm_dig {h : mH} (i : mm_inv h) (a : mm_aX h) (k : h.1 63 5 = 3) (j : Int) (j0 : h.1 63 7 ≤ j) (j1 : j < h.1 63 8) : mm_UX h j = h.2.1 62 j ∧ 48 ≤ mm_UX h j ∧ mm_UX h j ≤ 57 := by
  obtain ⟨a1, a2, a3⟩ := a
  have g : 0 ≤ h.1 63 7 ∧ h.1 63 7 ≤ 500 := i.1 63 7
  have y := mm_te_f (mm_UX h) (h.1 63 3) (h.1 63 7)
  rw [← a1, ← a3] at y
  have hn : j < h.1 63 3 := by omega
  refine ⟨mm_tr_in (by omega) hn, ?_⟩
  have ha : h.1 63 7 < h.1 63 3 := by omega
  rw [k] at a1
  unfold mm_tkk at a1
  rw [if_pos ha] at a1
  have z : mm_kd (mm_UX h j) = 3 := by
    by_cases e : j = h.1 63 7
    · rw [e]; exact a1.symm
    · unfold mm_te at a3
      rw [if_pos ha, if_pos (Or.inr a1.symm), ← a1] at a3
      exact (mm_runw_rg (mm_UX h) (h.1 63 3) 3 (h.1 63 7 + 1)).2.2 j (by omega) (by omega)
  have := mm_kd_f (mm_UX h j)
  omega
theorem mm_tv_of {h : mH} (a : mm_aX h) : mm_tv (mm_UX h) (h.1 63 3) (h.1 63 7) = mm_nv (mm_UX h) (h.1 63 7) (h.1 63 8 - h.1 63 7).toNat := by
  unfold mm_tv
  rw [← a.2.2]
theorem mm_em_rf {h : mH} : mm_em h h := ⟨mm_TXx_rf, rfl, rfl, rfl, rfl, rfl, rfl⟩
theorem mm_em_tr {h h1 h2 : mH} (p : mm_em h h1) (q : mm_em h1 h2) : mm_em h h2 := by
  obtain ⟨p0, p1, p2, p3, p4, p5, p6⟩ := p
  obtain ⟨q0, q1, q2, q3, q4, q5, q6⟩ := q
  exact ⟨mm_TXx_tr p0 q0, q1.trans p1, q2.trans p2, q3.trans p3, q4.trans p4, q5.trans p5, q6.trans p6⟩
theorem mm_em_2 {wf : List (Nat × Nat)} {wa : List Nat} {h h2 : mH} (f : mm_fr wf wa h h2) (hw : ((63, 3) ∉ wf ∧ 62 ∉ wa) ∧ (63, 5) ∉ wf ∧ (63, 6) ∉ wf ∧ (63, 7) ∉ wf ∧ (63, 8) ∉ wf) (e9 : h2.1 63 9 = h.1 63 9) (e10 : h2.1 63 10 = h.1 63 10) : mm_em h h2 :=
  ⟨mm_TXx_fr f hw.1, f.1 63 5 hw.2.1, f.1 63 6 hw.2.2.1, f.1 63 7 hw.2.2.2.1, f.1 63 8 hw.2.2.2.2, e9, e10⟩
theorem mm_em_pa {h h2 : mH} {o : Nat} {i v : Int} (e : h2 = mm_pa h o i v) (ho : 62 ≠ o) : mm_em h h2 := by
  subst e
  exact ⟨⟨fun j => mm_pa_o 62 o ho j, rfl⟩, rfl, rfl, rfl, rfl, rfl, rfl⟩
theorem mm_em_tv {h h2 : mH} (e : mm_em h h2) : mm_tv (mm_UX h2) (h2.1 63 3) (h2.1 63 7) = mm_tv (mm_UX h) (h.1 63 3) (h.1 63 7) := by
  rw [mm_TXx_U e.1, e.1.2, e.2.2.2.1]
/-! ===== clauses ===== -/
def mm_PX (h : mH) : Int → Int := fun x => if 0 ≤ x ∧ x ≤ 2 then h.2.1 65 x else 0
theorem mm_PX_eq {h h2 : mH} (e : ∀ j, h2.2.1 65 j = h.2.1 65 j) : mm_PX h2 = mm_PX h := by
  unfold mm_PX
  rw [show h2.2.1 65 = h.2.1 65 from funext e]
theorem mm_PX_put {h h2 : mH} {x v : Int} (u : mm_up h h2 65 x v 1) (hx : 0 ≤ x ∧ x ≤ 2) : mm_PX h2 = fun y => if y = x then v else mm_PX h y := funext fun y => by
  unfold mm_PX
  have k := u y
  by_cases q : y = x
  · rw [if_pos ⟨q, rfl⟩] at k
    rw [if_pos q, if_pos (by omega)]; exact k
  · rw [if_neg (fun z => q z.1)] at k
    rw [if_neg q, k]
def mm_k7 (m p : Int) (h h2 : mH) : Prop := mm_ok7 h h2 ∧ h.1 63 7 + 1 ≤ h2.1 63 7 ∧ mm_St (mm_fX h) ⟨m, [], h.1 63 7, 0, p, 0, mm_PX h⟩ ⟨13, [], h2.1 63 7, 0, p, 0, mm_PX h2⟩
def mm_m7 (p r : Int) (h h2 : mH) : Prop := mm_ok7 h h2 ∧ h.1 63 7 + 1 ≤ h2.1 63 7 ∧ mm_St (mm_fX h) ⟨10, [], h.1 63 7, 0, p, 0, mm_PX h⟩ ⟨4, [], h2.1 63 7, 0, p, r, mm_PX h2⟩
def mm_w7 (p : Int) (h h2 : mH) : Prop := mm_ok7 h h2 ∧ h.1 63 7 + 1 ≤ h2.1 63 7 ∧ ∃ r, mm_St (mm_fX h) ⟨10, [], h.1 63 7, 0, p, 0, mm_PX h⟩ ⟨13, [], h2.1 63 7, 0, p, r, mm_PX h2⟩
def mm_K7 (p : Int) (h h2 : mH) : Prop := mm_ok7 h h2 ∧ h.1 63 7 + 1 ≤ h2.1 63 7 ∧ p ≤ 19 ∧ mm_St (mm_fX h) ⟨10, [], h.1 63 7, 0, p, 0, mm_PX h⟩ ⟨10, [], h2.1 63 7, 0, p + 1, 0, mm_PX h2⟩
def mm_L7 (m p : Int) (h h2 : mH) : Prop := 1 ≤ h2.1 63 9 ∧ mm_St (mm_fX h) ⟨m, [], h.1 63 7, 0, p, 0, mm_PX h⟩ (mm_F3 (h2.1 63 10) (h2.1 63 9))
theorem mm_ok7_st {h h1 h2 : mH} (o : mm_ok7 h h1) (s : mm_st7 h1 h2) : mm_ok7 h h2 := ⟨mm_TXx_tr o.1 s.1, s.2.1, s.2.2.2.trans o.2.2⟩
theorem mm_ok7_tr {h h1 h2 : mH} (o : mm_ok7 h h1) (s : mm_ok7 h1 h2) : mm_ok7 h h2 := ⟨mm_TXx_tr o.1 s.1, s.2.1, s.2.2.trans o.2.2⟩
/-- set: the name, the number -/
theorem mm_k7_set {p : Int} {h hs h1 h2 : mH} (c : 7 ≤ mm_cX h ∧ mm_cX h ≤ 9) (s : mm_st7 h hs) (c2 : mm_cX hs = 18) (e : mm_em hs h1) (u : mm_up h h1 65 (mm_cX h - 7) (mm_tv (mm_UX hs) (hs.1 63 3) (hs.1 63 7)) 1) (s2 : mm_st7 h1 h2) (e2 : ∀ j, h2.2.1 65 j = h1.2.1 65 j) : mm_k7 11 p h h2 := by
  have l1 := mm_st7_lt s (by omega)
  have l2 := mm_st7_lt s2 (by rw [mm_em_c e]; omega)
  have t1 := mm_TXx_tr s.1 e.1
  have n2 : h2.1 63 7 = mm_nX9 hs := by rw [s2.2.2.1]; unfold mm_nX9; rw [mm_TXx_U e.1, e.1.2, e.2.2.2.1]
  refine ⟨⟨mm_TXx_tr t1 s2.1, s2.2.1, s2.2.2.2.trans ((mm_em_ff e).trans s.2.2.2)⟩, by rw [e.2.2.2.1] at l2; omega, ?_⟩
  refine mm_St_tr (mm_St_1 (B := ⟨12, [], hs.1 63 7, mm_cX h - 7, p, 0, mm_PX h⟩) ?_) (mm_St_1 ?_)
  · rw [s.2.2.1]
    refine mm_sp_11.trans ?_
    rw [if_neg (show ¬ 18 ≤ mm_tc (mm_UX h) (h.1 63 3) (h.1 63 7) from fun z => by unfold mm_cX at c; omega), if_neg (show ¬ ¬ (7 ≤ mm_tc (mm_UX h) (h.1 63 3) (h.1 63 7) ∧ mm_tc (mm_UX h) (h.1 63 3) (h.1 63 7) ≤ 9) from fun z => z c)]
    rfl
  · rw [n2, mm_PX_eq e2, mm_PX_put u (by omega), ← mm_fX_eq s.1]
    exact mm_sp_12.trans (if_pos c2)
theorem mm_L7_set1 {p : Int} {h h2 : mH} (c : (18 ≤ mm_cX h ∧ h2.1 63 9 = 1) ∨ (mm_cX h ≤ 17 ∧ ¬ (7 ≤ mm_cX h ∧ mm_cX h ≤ 9) ∧ h2.1 63 9 = 3)) (e : h2.1 63 10 = h.1 63 7) : mm_L7 11 p h h2 := by
  refine ⟨by omega, mm_St_1 (mm_sp_11.trans ?_)⟩
  rw [e]
  unfold mm_cX at c
  rcases c with ⟨c, q⟩ | ⟨c, c2, q⟩
  · rw [if_pos c, q]
  · rw [if_neg (by omega), if_pos c2, q]
theorem mm_L7_set2 {p : Int} {h hs h2 : mH} (c : 7 ≤ mm_cX h ∧ mm_cX h ≤ 9) (s : mm_st7 h hs) (c2 : (mm_cX hs = 19 ∧ h2.1 63 9 = 2) ∨ (mm_cX hs ≠ 18 ∧ mm_cX hs ≠ 19 ∧ h2.1 63 9 = 1)) (e : h2.1 63 10 = hs.1 63 7) : mm_L7 11 p h h2 := by
  refine ⟨by omega, mm_St_tr (mm_St_1 (B := ⟨12, [], hs.1 63 7, mm_cX h - 7, p, 0, mm_PX h⟩) ?_) (mm_St_1 ?_)⟩
  · rw [s.2.2.1]
    refine mm_sp_11.trans ?_
    rw [if_neg (show ¬ 18 ≤ mm_tc (mm_UX h) (h.1 63 3) (h.1 63 7) from fun z => by unfold mm_cX at c; omega), if_neg (show ¬ ¬ (7 ≤ mm_tc (mm_UX h) (h.1 63 3) (h.1 63 7) ∧ mm_tc (mm_UX h) (h.1 63 3) (h.1 63 7) ≤ 9) from fun z => z c)]
    rfl
  · rw [e, ← mm_fX_eq s.1]
    refine mm_sp_12.trans ?_
    unfold mm_cX at c2
    rcases c2 with ⟨c2, q⟩ | ⟨c2, c3, q⟩
    · rw [if_neg (by omega), if_pos c2, q]
    · rw [if_neg c2, if_neg c3, q]
/-! one clause -/
theorem mm_L7_open {p : Int} {h h2 : mH} (n : mm_cX h ≠ 21) (c : (¬ (0 ≤ mm_cX h ∧ mm_cX h ≤ 2) ∧ h2.1 63 9 = 1) ∨ ((0 ≤ mm_cX h ∧ mm_cX h ≤ 2) ∧ 20 ≤ p ∧ h2.1 63 9 = 2)) (e : h2.1 63 10 = h.1 63 7) : mm_L7 10 p h h2 := by
  refine ⟨by omega, mm_St_1 (mm_sp_10.trans ?_)⟩
  rw [e]
  unfold mm_cX at c n
  rw [if_neg n]
  rcases c with ⟨c, q⟩ | ⟨c, c2, q⟩
  · rw [if_pos c, q]
  · rw [if_neg (fun z => z c), if_pos c2, q]
theorem mm_op_set {p : Int} {h hs : mH} (c : mm_cX h = 2) (hp : p ≤ 19) (s : mm_st7 h hs) (e : ∀ j, hs.2.1 65 j = h.2.1 65 j) : mm_St (mm_fX h) ⟨10, [], h.1 63 7, 0, p, 0, mm_PX h⟩ ⟨11, [], hs.1 63 7, 0, p, 0, mm_PX hs⟩ := by
  refine mm_St_1 (mm_sp_10.trans ?_)
  unfold mm_cX at c
  rw [if_neg (by omega), if_neg (by omega), if_neg (by omega), if_pos c, s.2.2.1, mm_PX_eq e]
  rfl
theorem mm_op_ex {p : Int} {h hs : mH} (c : mm_cX h = 0 ∨ mm_cX h = 1) (hp : p ≤ 19) (s : mm_st7 h hs) (e : ∀ j, hs.2.1 65 j = h.2.1 65 j) : mm_St (mm_fX h) ⟨10, [], h.1 63 7, 0, p, 0, mm_PX h⟩ ⟨0, [0], hs.1 63 7, 0, p, 0, mm_PX hs⟩ := by
  refine mm_St_1 (mm_sp_10.trans ?_)
  unfold mm_cX at c
  rw [if_neg (by omega), if_neg (by omega), if_neg (by omega), if_neg (by omega), s.2.2.1, mm_PX_eq e]
  rfl
theorem mm_w7_set {p : Int} {h hs h2 : mH} (c : mm_cX h = 2) (hp : p ≤ 19) (s : mm_st7 h hs) (e : ∀ j, hs.2.1 65 j = h.2.1 65 j) (k : mm_k7 11 p hs h2) : mm_w7 p h h2 := by
  have l := mm_st7_le s
  refine ⟨mm_ok7_tr ⟨s.1, s.2.1, s.2.2.2⟩ k.1, by have := k.2.1; omega, 0, mm_St_tr (mm_op_set c hp s e) ?_⟩
  have z := k.2.2
  rw [mm_fX_eq s.1] at z
  exact z
theorem mm_L7_set {p : Int} {h hs h2 : mH} (c : mm_cX h = 2) (hp : p ≤ 19) (s : mm_st7 h hs) (e : ∀ j, hs.2.1 65 j = h.2.1 65 j) (k : mm_L7 11 p hs h2) : mm_L7 10 p h h2 := by
  refine ⟨k.1, mm_St_tr (mm_op_set c hp s e) ?_⟩
  have z := k.2
  rw [mm_fX_eq s.1] at z
  exact z
theorem mm_nD_F {h : mH} {b : Int} (n : mm_nD h) (hb : b = 1 ∨ (mm_cX h ≠ 160 ∧ mm_cX h ≠ 161)) : mm_nF (mm_tc (mm_UX h) (h.1 63 3) (h.1 63 7)) b := by
  unfold mm_nD at n
  unfold mm_cX at n hb
  unfold mm_nF
  rcases hb with hb | hb
  · exact ⟨n.2.2.2.2.2, n.2.2.2.2.1, n.2.2.1, n.2.2.2.1, n.1, n.2.1, Or.inl (by omega)⟩
  · exact ⟨n.2.2.2.2.2, n.2.2.2.2.1, n.2.2.1, n.2.2.2.1, n.1, n.2.1, Or.inr hb⟩
/-- an expression from its first token on -/
theorem mm_ex7 {p r : Int} {P : Int → Int} {h h2 : mH} (q : mm_q7 0 0 h h2) (n : mm_nD h2) : mm_St (mm_fX h) ⟨0, [0], h.1 63 7, 0, p, r, P⟩ ⟨4, [], h2.1 63 7, 0, p, r, P⟩ := by
  obtain ⟨o, l, b, hb, z⟩ := q
  refine mm_St_tr (z [] p r P rfl) (mm_St_1 ?_)
  rw [← mm_fX_eq o.1]
  exact mm_sp_end (mm_nD_F n hb)
theorem mm_m7_1 {p : Int} {h hs h2 : mH} (c : mm_cX h = 0 ∨ mm_cX h = 1) (hp : p ≤ 19) (s : mm_st7 h hs) (e : ∀ j, hs.2.1 65 j = h.2.1 65 j) (q : mm_q7 0 0 hs h2) (n : mm_nD h2) (e2 : ∀ j, h2.2.1 65 j = hs.2.1 65 j) : mm_m7 p 0 h h2 := by
  have l := mm_st7_le s
  refine ⟨mm_ok7_tr ⟨s.1, s.2.1, s.2.2.2⟩ q.1, by have := q.2.1; omega, mm_St_tr (mm_op_ex c hp s e) ?_⟩
  have z := mm_ex7 (p := p) (r := 0) (P := mm_PX hs) q n
  rw [mm_fX_eq s.1] at z
  rw [mm_PX_eq e2]
  exact z
theorem mm_L7_1 {p : Int} {h hs h2 : mH} (c : mm_cX h = 0 ∨ mm_cX h = 1) (hp : p ≤ 19) (s : mm_st7 h hs) (e : ∀ j, hs.2.1 65 j = h.2.1 65 j) (q : mm_f7 0 0 hs h2) : mm_L7 10 p h h2 := by
  refine ⟨q.1, mm_St_tr (mm_op_ex c hp s e) ?_⟩
  have z := q.2 [] p 0 (mm_PX hs) rfl
  rw [mm_fX_eq s.1] at z
  exact z
theorem mm_m7_2 {p : Int} {h h1 hs h2 : mH} (m : mm_m7 p 0 h h1) (c : mm_cX h1 = 3) (s : mm_st7 h1 hs) (e : ∀ j, hs.2.1 65 j = h1.2.1 65 j) (q : mm_q7 0 0 hs h2) (n : mm_nD h2) (e2 : ∀ j, h2.2.1 65 j = hs.2.1 65 j) : mm_m7 p 1 h h2 := by
  have l := mm_st7_le s
  refine ⟨mm_ok7_tr (mm_ok7_st m.1 s) q.1, by have := q.2.1; have := m.2.1; omega, mm_St_tr m.2.2 (mm_St_tr (mm_St_1 (B := ⟨0, [0], hs.1 63 7, 0, p, 1, mm_PX h1⟩) ?_) ?_)⟩
  · rw [← mm_fX_eq m.1.1, s.2.2.1]
    exact mm_sp_4u c
  · have z := mm_ex7 (p := p) (r := 1) (P := mm_PX h1) q n
    rw [mm_fX_eq s.1, mm_fX_eq m.1.1] at z
    rw [mm_PX_eq e2, mm_PX_eq e]
    exact z
theorem mm_L7_2 {p : Int} {h h1 hs h2 : mH} (m : mm_m7 p 0 h h1) (c : mm_cX h1 = 3) (s : mm_st7 h1 hs) (q : mm_f7 0 0 hs h2) : mm_L7 10 p h h2 := by
  refine ⟨q.1, mm_St_tr m.2.2 (mm_St_tr (mm_St_1 (B := ⟨0, [0], hs.1 63 7, 0, p, 1, mm_PX h1⟩) ?_) ?_)⟩
  · rw [← mm_fX_eq m.1.1, s.2.2.1]
    exact mm_sp_4u c
  · have z := q.2 [] p 1 (mm_PX h1) rfl
    rw [mm_fX_eq s.1, mm_fX_eq m.1.1] at z
    exact z
theorem mm_w7_m {p r : Int} {h h2 h3 : mH} (m : mm_m7 p r h h2) (c : r = 1 ∨ mm_cX h2 ≠ 3) (e : mm_em h2 h3) (e65 : ∀ j, h3.2.1 65 j = h2.2.1 65 j) : mm_w7 p h h3 := by
  refine ⟨mm_ok7_em m.1 e, by rw [e.2.2.2.1]; exact m.2.1, r, mm_St_tr m.2.2 (mm_St_1 ?_)⟩
  rw [e.2.2.2.1, mm_PX_eq e65, ← mm_fX_eq m.1.1]
  exact mm_sp_4 c
theorem mm_K7_w {p : Int} {h h1 h2 h3 : mH} (w : mm_w7 p h h1) (hp : p ≤ 19) (c : mm_cX h1 = 159) (s : mm_st7 h1 h2) (e : ∀ j, h2.2.1 65 j = h1.2.1 65 j) (m : mm_em h2 h3) (e65 : ∀ j, h3.2.1 65 j = h2.2.1 65 j) : mm_K7 p h h3 := by
  have l := mm_st7_le s
  obtain ⟨o, l1, r, z⟩ := w
  refine ⟨mm_ok7_em (mm_ok7_st o s) m, by rw [m.2.2.2.1]; omega, hp, mm_St_tr z (mm_St_1 ?_)⟩
  rw [m.2.2.2.1, s.2.2.1, mm_PX_eq e65, mm_PX_eq e, ← mm_fX_eq o.1]
  exact mm_sp_13.trans (if_pos c)
theorem mm_L7_w {p : Int} {h h1 h2 : mH} (w : mm_w7 p h h1) (c : mm_cX h1 ≠ 159) (e : h2.1 63 9 = 1) (e2 : h2.1 63 10 = h1.1 63 7) : mm_L7 10 p h h2 := by
  obtain ⟨o, l1, r, z⟩ := w
  refine ⟨by omega, mm_St_tr z (mm_St_1 ?_)⟩
  rw [e, e2, ← mm_fX_eq o.1]
  exact mm_sp_13.trans (if_neg c)
/-! the whole text -/
def mm_fT (T : Int → Int) (n : Int) : mm_G9 → mm_G9 := mm_stp (mm_tc (mm_tr T n) n) (mm_tn (mm_tr T n) n) (mm_tv (mm_tr T n) n)
def mm_P0 : Int → Int := fun x => if x = 0 then 3600 else if x = 1 then 60 else if x = 2 then 900 else 0
def mm_A0 (T : Int → Int) (n : Int) : mm_G9 := ⟨10, [], mm_skp (mm_tr T n) n 0, 0, 0, 0, mm_P0⟩
def mm_R7 (T : Int → Int) (n i : Int) (h : mH) : Prop := mm_aX h ∧ ((∀ j, h.2.1 62 j = T j) ∧ h.1 63 3 = n) ∧ h.1 63 9 = 0 ∧ h.1 63 10 = -1 ∧ mm_St (mm_fT T n) (mm_A0 T n) ⟨10, [], h.1 63 7, 0, i, 0, mm_PX h⟩
theorem mm_fX_T {T : Int → Int} {n : Int} {h : mH} (t : (∀ j, h.2.1 62 j = T j) ∧ h.1 63 3 = n) : mm_fX h = mm_fT T n ∧ mm_UX h = mm_tr T n := by
  obtain ⟨t1, t2⟩ := t
  subst t2
  have e : h.2.1 62 = T := funext t1
  subst e
  exact ⟨rfl, rfl⟩
theorem mm_R7_0 {T : Int → Int} {n : Int} {h : mH} (a : mm_aX h) (t : (∀ j, h.2.1 62 j = T j) ∧ h.1 63 3 = n) (e9 : h.1 63 9 = 0) (e10 : h.1 63 10 = -1) (e : h.1 63 7 = mm_skp (mm_tr T n) n 0) (p0 : h.2.1 65 0 = 3600) (p1 : h.2.1 65 1 = 60) (p2 : h.2.1 65 2 = 900) : mm_R7 T n 0 h := by
  refine ⟨a, t, e9, e10, ?_⟩
  have hP : mm_PX h = mm_P0 := funext fun x => by
    unfold mm_PX mm_P0
    by_cases q0 : x = 0
    · rw [q0, p0]; rfl
    · by_cases q1 : x = 1
      · rw [q1, p1]; rfl
      · by_cases q2 : x = 2
        · rw [q2, p2]; rfl
        · rw [if_neg (by omega), if_neg q0, if_neg q1, if_neg q2]
  rw [e, hP]
  exact mm_St_rf
theorem mm_R7_s {T : Int → Int} {n i : Int} {h h2 : mH} (R : mm_R7 T n i h) (K : mm_K7 i h h2) : mm_R7 T n (i + 1) h2 := by
  obtain ⟨a, t, e9, e, z⟩ := R
  have k := K.2.2.2
  rw [(mm_fX_T t).1] at k
  exact ⟨K.1.2.1, ⟨fun j => (K.1.1.1 j).trans (t.1 j), K.1.1.2.trans t.2⟩, K.1.2.2.1.trans e9, K.1.2.2.2.trans e, mm_St_tr z k⟩
def mm_RDo (T : Int → Int) (n : Int) (P : Int → Int) : Prop := ∃ a i, mm_St (mm_fT T n) (mm_A0 T n) ⟨20, [], a, 0, i, 0, P⟩
def mm_RDf (T : Int → Int) (n f k : Int) : Prop := mm_St (mm_fT T n) (mm_A0 T n) (mm_F3 f k)
theorem mm_R7_end {T : Int → Int} {n i : Int} {h : mH} (R : mm_R7 T n i h) (c : mm_cX h = 21) : mm_RDo T n (mm_PX h) := by
  obtain ⟨a, t, e9, e, z⟩ := R
  refine ⟨h.1 63 7, i, mm_St_tr z (mm_St_1 ?_)⟩
  rw [← (mm_fX_T t).1]
  exact mm_sp_10.trans (if_pos c)
theorem mm_R7_bad {T : Int → Int} {n i : Int} {h h2 : mH} (R : mm_R7 T n i h) (L : mm_L7 10 i h h2) : mm_RDf T n (h2.1 63 10) (h2.1 63 9) := by
  obtain ⟨a, t, e9, e, z⟩ := R
  have k := L.2
  rw [(mm_fX_T t).1] at k
  exact mm_St_tr z k
theorem mm_RD_oo {T : Int → Int} {n : Int} {P P' : Int → Int} (A : mm_RDo T n P) (B : mm_RDo T n P') : P = P' := by
  obtain ⟨a, i, z⟩ := A
  obtain ⟨b, j, y⟩ := B
  exact congrArg (fun g : mm_G9 => g.2.2.2.2.2.2) (mm_St_un z y mm_sp_20 mm_sp_20)
theorem mm_RD_of {T : Int → Int} {n f k : Int} {P : Int → Int} (A : mm_RDo T n P) (B : mm_RDf T n f k) : False := by
  obtain ⟨a, i, z⟩ := A
  exact absurd (congrArg Prod.fst (mm_St_un z B mm_sp_20 mm_sp_3)) (show ¬ (20 : Int) = 3 by decide)
theorem mm_RD_ff {T : Int → Int} {n f k f' k' : Int} (A : mm_RDf T n f k) (B : mm_RDf T n f' k') : f = f' ∧ k = k' :=
  ⟨congrArg (fun g : mm_G9 => g.2.2.1) (mm_St_un A B mm_sp_3 mm_sp_3), congrArg (fun g : mm_G9 => g.2.2.2.1) (mm_St_un A B mm_sp_3 mm_sp_3)⟩
theorem mm_RD_cg {T T' : Int → Int} {n : Int} (e : ∀ j, 0 ≤ j → j < n → T j = T' j) : mm_fT T n = mm_fT T' n ∧ mm_A0 T n = mm_A0 T' n := by
  unfold mm_fT mm_A0
  rw [mm_tr_cg e]
  exact ⟨rfl, rfl⟩
/-! ===== words as numbers to the base 32 ===== -/
def mm_cde (d : Nat → Int) : Nat → Int
  | 0 => 0
  | l + 1 => 32 * mm_cde d l + (d l - 96)
theorem mm_cde_rg {d : Nat → Int} : ∀ l : Nat, (∀ i, i < l → 97 ≤ d i ∧ d i ≤ 122) → 0 ≤ mm_cde d l ∧ (l = 0 ∨ 1 ≤ mm_cde d l)
  | 0, _ => ⟨Int.le_refl _, Or.inl rfl⟩
  | l + 1, h => by
    have z := mm_cde_rg l (fun i hi => h i (by omega))
    have y := h l (by omega)
    show 0 ≤ 32 * mm_cde d l + (d l - 96) ∧ (l + 1 = 0 ∨ 1 ≤ 32 * mm_cde d l + (d l - 96))
    omega
theorem mm_cde_inj {d e : Nat → Int} : ∀ (l m : Nat), (∀ i, i < l → 97 ≤ d i ∧ d i ≤ 122) → (∀ i, i < m → 97 ≤ e i ∧ e i ≤ 122) → mm_cde d l = mm_cde e m → l = m ∧ ∀ i, i < l → d i = e i
  | 0, 0, _, _, _ => ⟨rfl, fun i hi => absurd hi (Nat.not_lt_zero i)⟩
  | 0, m + 1, _, he, q => by
    have z := (mm_cde_rg (m + 1) he).2
    have y : (0 : Int) = mm_cde e (m + 1) := q
    omega
  | l + 1, 0, hd, _, q => by
    have z := (mm_cde_rg (l + 1) hd).2
    have y : mm_cde d (l + 1) = 0 := q
    omega
  | l + 1, m + 1, hd, he, q => by
    have q' : 32 * mm_cde d l + (d l - 96) = 32 * mm_cde e m + (e m - 96) := q
    have a := hd l (by omega)
    have b := he m (by omega)
    have ih := mm_cde_inj l m (fun i hi => hd i (by omega)) (fun i hi => he i (by omega)) (by omega)
    refine ⟨by omega, fun i hi => ?_⟩
    by_cases w : i = l
    · have hm : l = m := ih.1
      subst hm
      rw [w]; omega
    · exact ih.2 i (by omega)
theorem mm_cde_cg {d e : Nat → Int} : ∀ l : Nat, (∀ i, i < l → d i = e i) → mm_cde d l = mm_cde e l
  | 0, _ => rfl
  | l + 1, h => by
    show 32 * mm_cde d l + (d l - 96) = 32 * mm_cde e l + (e l - 96)
    rw [mm_cde_cg l (fun i hi => h i (by omega)), h l (by omega)]
def mm_wd (w : List Int) : Int := mm_cde (fun i => w.getD i 0) w.length
def mm_wy : List (List Int) := [[112, 101, 110, 97, 108, 116, 121], [111, 117, 116], [117, 110, 108, 101, 115, 115], [115, 101, 116], [97, 110, 100], [111, 114], [110, 111, 116], [108, 105, 109, 105, 116], [103, 97, 112], [119, 105, 110, 100, 111, 119], [109, 105, 115, 115, 101, 100], [119, 114, 111, 110, 103], [114, 117, 110], [115, 99, 111, 114, 101], [112, 111, 115, 116, 115], [99, 108, 117, 98], [102, 114, 101, 101]]
def mm_pm (k : Nat) : Nat := if k = 2 then 3 else if k = 3 then 2 else if k = 4 then 5 else if k = 5 then 4 else k
theorem mm_wy_pm : ∀ k : Nat, k < 17 → mm_wy.getD k [] = mm_ws9.getD (mm_pm k) [] ∧ mm_pm k < 17 ∧ mm_pm (mm_pm k) = k := by decide
theorem mm_ws9_ok : ∀ k : Nat, k < 17 → (∀ i : Nat, i < (mm_ws9.getD k []).length → 97 ≤ (mm_ws9.getD k []).getD i 0 ∧ (mm_ws9.getD k []).getD i 0 ≤ 122) ∧ (mm_ws9.getD k []).length ≤ 7 := by decide
def mm_ky (k : Int) : Int := mm_wd (mm_wy.getD k.toNat [])
/-- what the reference calls the word c -/
def mm_kw9 (r c : Int) : Prop := (c = 0 ∧ r = 0) ∨ (c = 1 ∧ r = 1) ∨ (c = 2 ∧ r = 3) ∨ (c = 3 ∧ r = 2) ∨ (c = 4 ∧ r = 5) ∨ (c = 5 ∧ r = 4) ∨ (6 ≤ c ∧ c ≤ 16 ∧ r = c) ∨ (17 ≤ c ∧ r = -1)
theorem mm_kw9_of {k : Nat} (hk : k < 17) : mm_kw9 (k : Int) (mm_pm k : Int) := by
  unfold mm_kw9 mm_pm
  (repeat' split) <;> omega
theorem mm_kw9_no {c : Int} (h : 17 ≤ c) : mm_kw9 (-1) c := Or.inr (Or.inr (Or.inr (Or.inr (Or.inr (Or.inr (Or.inr ⟨h, rfl⟩))))))
theorem mm_kw9_x {r c : Int} (h : mm_kw9 r c) : (c = 0 ∧ r = 0) ∨ (c = 1 ∧ r = 1) ∨ (c = 2 ∧ r = 3) ∨ (c = 3 ∧ r = 2) ∨ (c = 4 ∧ r = 5) ∨ (c = 5 ∧ r = 4) ∨ (6 ≤ c ∧ c ≤ 16 ∧ r = c) ∨ (17 ≤ c ∧ r = -1) := h
/-- letters, read as a number -/
theorem mm_kw_at {U : Int → Int} {n a w k : Int} (t : mm_tkk U n a = 2) (l : mm_te U n a - a ≤ 8) (e : w = mm_cde (fun i => U (a + i)) (mm_te U n a - a).toNat) (k0 : 0 ≤ k ∧ k ≤ 16) : mm_ky k = w ↔ mm_mt U a (mm_te U n a) (mm_wy.getD k.toNat []) := by
  have y := mm_te_f U n a
  have hk : k.toNat < 17 := by omega
  have p := mm_wy_pm k.toNat hk
  have o := mm_ws9_ok (mm_pm k.toNat) p.2.1
  rw [← p.1] at o
  have hl : ∀ i : Nat, i < (mm_te U n a - a).toNat → 97 ≤ U (a + i) ∧ U (a + i) ≤ 122 := fun i hi => by
    have ha : a < n := by omega
    unfold mm_tkk at t
    rw [if_pos ha] at t
    have z : mm_kd (U (a + i)) = 2 := by
      by_cases q : i = 0
      · subst q
        rw [show a + ((0 : Nat) : Int) = a by omega]; exact t
      · have r := mm_runw_rg U n 2 (a + 1)
        have te : mm_te U n a = mm_runw U n 2 (a + 1) := by unfold mm_te; rw [if_pos ha, if_pos (Or.inl t), t]
        exact r.2.2 (a + i) (by omega) (by omega)
    have := mm_kd_f (U (a + i))
    omega
  unfold mm_ky mm_wd
  rw [e]
  constructor
  · intro q
    obtain ⟨q1, q2⟩ := mm_cde_inj _ _ o.1 hl q
    exact ⟨by omega, fun i hi => (q2 i hi).symm⟩
  · intro ⟨q1, q2⟩
    rw [show (mm_te U n a - a).toNat = (mm_wy.getD k.toNat []).length by omega]
    exact mm_cde_cg _ (fun i hi => (q2 i hi).symm)
theorem mm_kw_hit {U : Int → Int} {n a k : Int} (t : mm_tkk U n a = 2) (k0 : 0 ≤ k ∧ k ≤ 16) (m : mm_mt U a (mm_te U n a) (mm_wy.getD k.toNat [])) : mm_kw9 k (mm_tc U n a) := by
  have hk : k.toNat < 17 := by omega
  have p := mm_wy_pm k.toNat hk
  rw [p.1] at m
  rcases mm_tw_f U n a with ⟨i, h1, h2, h3, h4⟩ | ⟨h1, h2⟩
  · have e := mm_ws9_inj i h1 (mm_pm k.toNat) p.2.1 (mm_mt_eq h3 m)
    have c : mm_tc U n a = i := by unfold mm_tc; rw [if_pos t, if_neg (by omega)]; exact h4
    rw [c, e, show k = ((k.toNat : Nat) : Int) by omega]
    exact mm_kw9_of hk
  · exact absurd m (h1 t _ p.2.1)
theorem mm_kw_none {U : Int → Int} {n a : Int} (t : mm_tkk U n a = 2) (m : ∀ k : Int, 0 ≤ k → k ≤ 16 → ¬ mm_mt U a (mm_te U n a) (mm_wy.getD k.toNat [])) : mm_kw9 (-1) (mm_tc U n a) := by
  refine mm_kw9_no ?_
  rcases mm_tw_f U n a with ⟨i, h1, h2, h3, h4⟩ | ⟨h1, h2⟩
  · have p := mm_wy_pm i h1
    have p2 := mm_wy_pm (mm_pm i) p.2.1
    refine absurd ?_ (m (mm_pm i : Nat) (by omega) (by omega))
    rw [Int.toNat_natCast, p2.1, p.2.2]
    exact h3
  · unfold mm_tc
    rw [if_pos t, if_pos h2]; decide
theorem mm_kw_long {U : Int → Int} {n a : Int} (t : mm_tkk U n a = 2) (l : 8 < mm_te U n a - a) : mm_kw9 (-1) (mm_tc U n a) := by
  refine mm_kw_none t (fun k k0 k1 m => ?_)
  have p := mm_wy_pm k.toNat (by omega)
  have o := mm_ws9_ok (mm_pm k.toNat) p.2.1
  rw [← p.1] at o
  have := m.1
  omega
theorem mm_lor5 {v d y z : Int} (hv : 0 ≤ v ∧ v < 1125899906842624) (hd : 1 ≤ d ∧ d ≤ 31) (e : y = mm_vlshl v 5) (e2 : z = mm_vlor y d) : z = 32 * v + d := by
  obtain ⟨a, rfl⟩ := Int.eq_ofNat_of_zero_le hv.1
  obtain ⟨b, rfl⟩ := Int.eq_ofNat_of_zero_le (show 0 ≤ d by omega)
  subst e
  subst e2
  unfold mm_vlor mm_vlshl
  rw [Int64.ofInt_toInt, show ((Int32.ofInt 5).toInt64 &&& 63 : Int64) = 5 by decide]
  rw [← Int64.toInt_toBitVec, Int64.toBitVec_or, Int64.toBitVec_shiftLeft, Int64.toBitVec_ofInt, Int64.toBitVec_ofInt, show ((5 : Int64).toBitVec.smod 64) = 5#64 by decide]
  have k : (BitVec.ofInt 64 (a : Int) <<< 5#64 ||| BitVec.ofInt 64 (b : Int)).toNat = 32 * a + b := by
    rw [BitVec.toNat_or, BitVec.shiftLeft_eq', BitVec.toNat_shiftLeft, BitVec.ofInt_natCast, BitVec.ofInt_natCast, BitVec.toNat_ofNat, BitVec.toNat_ofNat, BitVec.toNat_ofNat]
    rw [Nat.mod_eq_of_lt (show a < 2 ^ 64 by omega), Nat.mod_eq_of_lt (show b < 2 ^ 64 by omega), show (5 % 2 ^ 64 : Nat) = 5 by decide]
    have s : a <<< 5 = 32 * a := by rw [Nat.shiftLeft_eq]; omega
    rw [Nat.mod_eq_of_lt (by rw [s]; omega), ← Nat.shiftLeft_add_eq_or_of_lt (show b < 2 ^ 5 by omega), s]
  rw [BitVec.toInt_eq_toNat_of_lt (by rw [k]; omega), k]
  omega
/-! spelled -/
def mm_s1 (v p : Int) : Int := if p ≠ 0 then 32 * v + (p - 96) else v
theorem mm_s1_y {v p x y z : Int} (hx : x = v) (hp : p ≠ 0) (hb : p = 0 ∨ (97 ≤ p ∧ p ≤ 122)) (hv : 0 ≤ v ∧ v < 1125899906842624) (e : y = mm_vlshl x 5) (e2 : z = mm_vlor y (p - 96)) : z = mm_s1 v p := by
  unfold mm_s1
  rw [if_pos hp]
  rw [hx] at e
  exact mm_lor5 hv (by omega) e e2
theorem mm_s1_n {v p x : Int} (hx : x = v) (hp : p = 0) : x = mm_s1 v p := by
  unfold mm_s1
  rw [if_neg (fun q => q hp)]; exact hx
theorem mm_s1_rg {v p b : Int} (hv : 0 ≤ v ∧ v < b) (hb : p = 0 ∨ (97 ≤ p ∧ p ≤ 122)) : 0 ≤ mm_s1 v p ∧ mm_s1 v p < 32 * b := by
  unfold mm_s1
  split <;> omega
/-! ===== the reference's reading ===== -/
def mm_UY (h : mH) : Int → Int := mm_tr (h.2.1 101) (h.1 66 59)
def mm_TYy (h h2 : mH) : Prop := (∀ j, h2.2.1 101 j = h.2.1 101 j) ∧ h2.1 66 59 = h.1 66 59
theorem mm_TYy_rf {h : mH} : mm_TYy h h := ⟨fun _ => rfl, rfl⟩
theorem mm_TYy_tr {h h1 h2 : mH} (p : mm_TYy h h1) (q : mm_TYy h1 h2) : mm_TYy h h2 := ⟨fun j => (q.1 j).trans (p.1 j), q.2.trans p.2⟩
theorem mm_TYy_fr {wf : List (Nat × Nat)} {wa : List Nat} {h h2 : mH} (f : mm_fr wf wa h h2) (hw : (66, 59) ∉ wf ∧ 101 ∉ wa) : mm_TYy h h2 := ⟨f.2 101 hw.2, f.1 66 59 hw.1⟩
theorem mm_TYy_U {h h2 : mH} (t : mm_TYy h h2) : mm_UY h2 = mm_UY h := by
  unfold mm_UY
  rw [funext t.1, t.2]
def mm_fY (h : mH) : mm_G9 → mm_G9 := mm_stp (mm_tc (mm_UY h) (h.1 66 59)) (mm_tn (mm_UY h) (h.1 66 59)) (mm_tv (mm_UY h) (h.1 66 59))
theorem mm_fY_eq {h h2 : mH} (t : mm_TYy h h2) : mm_fY h2 = mm_fY h := by
  unfold mm_fY
  rw [mm_TYy_U t, t.2]
def mm_cY (h : mH) : Int := mm_tc (mm_UY h) (h.1 66 59) (h.1 66 62)
def mm_nY9 (h : mH) : Int := mm_tn (mm_UY h) (h.1 66 59) (h.1 66 62)
def mm_so (s k : Int) : Prop := (s = 0 ∧ k = 0) ∨ (s = 1 ∧ k = 2) ∨ (s = 2 ∧ k = 3) ∨ (s = 3 ∧ k = 4) ∨ (s = 4 ∧ k = 1)
def mm_aY (h : mH) : Prop := mm_so (h.1 66 61) (mm_tkk (mm_UY h) (h.1 66 59) (h.1 66 62)) ∧ h.1 66 60 = mm_te (mm_UY h) (h.1 66 59) (h.1 66 62) ∧ h.1 66 63 = h.1 66 60 - h.1 66 62 ∧ (h.1 66 61 = 3 → h.1 66 65 = mm_UY h (h.1 66 62)) ∧ (h.1 66 61 = 2 → h.1 66 63 ≤ 5 → h.1 66 64 = mm_tv (mm_UY h) (h.1 66 59) (h.1 66 62)) ∧ (h.1 66 61 = 1 → h.1 66 63 ≤ 8 → h.1 66 66 = mm_cde (fun i => mm_UY h (h.1 66 62 + i)) (h.1 66 60 - h.1 66 62).toNat)
def mm_hd9 (h : mH) : Prop := (h.1 66 61 = 1 ∧ 0 ≤ mm_cY h ∧ mm_cY h ≤ 17) ∨ (h.1 66 61 = 2 ∧ h.1 66 63 ≤ 5 ∧ mm_cY h = 18) ∨ (h.1 66 61 = 2 ∧ 5 < h.1 66 63 ∧ mm_cY h = 19) ∨ (h.1 66 61 = 3 ∧ mm_cY h = 100 + h.1 66 65 ∧ 40 ≤ h.1 66 65 ∧ h.1 66 65 ≤ 61) ∨ (h.1 66 61 = 0 ∧ mm_cY h = 21) ∨ (h.1 66 61 = 4 ∧ mm_cY h = 20)
theorem mm_hd9x {h : mH} (t : mm_hd9 h) : (h.1 66 61 = 1 ∧ 0 ≤ mm_cY h ∧ mm_cY h ≤ 17) ∨ (h.1 66 61 = 2 ∧ h.1 66 63 ≤ 5 ∧ mm_cY h = 18) ∨ (h.1 66 61 = 2 ∧ 5 < h.1 66 63 ∧ mm_cY h = 19) ∨ (h.1 66 61 = 3 ∧ mm_cY h = 100 + h.1 66 65 ∧ 40 ≤ h.1 66 65 ∧ h.1 66 65 ≤ 61) ∨ (h.1 66 61 = 0 ∧ mm_cY h = 21) ∨ (h.1 66 61 = 4 ∧ mm_cY h = 20) := t
theorem mm_cY_h {h : mH} (a : mm_aY h) : mm_hd9 h := by
  obtain ⟨a1, a2, a3, a4, a5, a6⟩ := a
  have z := mm_tc_f (mm_UY h) (h.1 66 59) (h.1 66 62)
  unfold mm_hd9 mm_cY
  rw [a2] at a3
  rw [← a3] at z
  rcases a1 with ⟨s, k⟩ | ⟨s, k⟩ | ⟨s, k⟩ | ⟨s, k⟩ | ⟨s, k⟩
  · exact Or.inr (Or.inr (Or.inr (Or.inr (Or.inl ⟨s, by rcases z with z | z | z | z | z | z | z <;> first | exact z.2.1 | (have := z.1; omega)⟩))))
  · refine Or.inl ⟨s, ?_⟩
    rcases z with z | z | z | z | z | z | z
    · obtain ⟨z1, z2, z3, z4⟩ := z; omega
    · obtain ⟨z1, z2, z3⟩ := z; omega
    · have := z.1; omega
    · have := z.1; omega
    · have := z.1; omega
    · have := z.1; omega
    · have := z.1; omega
  · rcases z with z | z | z | z | z | z | z
    · have := z.1; omega
    · have := z.1; omega
    · exact Or.inr (Or.inl ⟨s, z.2.1, z.2.2.1⟩)
    · exact Or.inr (Or.inr (Or.inl ⟨s, z.2.1, z.2.2.1⟩))
    · have := z.1; omega
    · have := z.1; omega
    · have := z.1; omega
  · rcases z with z | z | z | z | z | z | z
    · have := z.1; omega
    · have := z.1; omega
    · have := z.1; omega
    · have := z.1; omega
    · obtain ⟨z1, z2, z3, z4, z5⟩ := z
      have e := a4 s
      exact Or.inr (Or.inr (Or.inr (Or.inl ⟨s, by omega, by omega, by omega⟩)))
    · have := z.1; omega
    · have := z.1; omega
  · rcases z with z | z | z | z | z | z | z
    · have := z.1; omega
    · have := z.1; omega
    · have := z.1; omega
    · have := z.1; omega
    · have := z.1; omega
    · have := z.1; omega
    · exact Or.inr (Or.inr (Or.inr (Or.inr (Or.inr ⟨s, z.2.1⟩))))
/-- the token stays -/
def mm_eY (h h2 : mH) : Prop := mm_TYy h h2 ∧ h2.1 66 60 = h.1 66 60 ∧ h2.1 66 61 = h.1 66 61 ∧ h2.1 66 62 = h.1 66 62 ∧ h2.1 66 63 = h.1 66 63 ∧ h2.1 66 64 = h.1 66 64 ∧ h2.1 66 65 = h.1 66 65 ∧ h2.1 66 66 = h.1 66 66
theorem mm_eY_rf {h : mH} : mm_eY h h := ⟨mm_TYy_rf, rfl, rfl, rfl, rfl, rfl, rfl, rfl⟩
theorem mm_eY_tr {h h1 h2 : mH} (p : mm_eY h h1) (q : mm_eY h1 h2) : mm_eY h h2 := by
  obtain ⟨p0, p1, p2, p3, p4, p5, p6, p7⟩ := p
  obtain ⟨q0, q1, q2, q3, q4, q5, q6, q7⟩ := q
  exact ⟨mm_TYy_tr p0 q0, q1.trans p1, q2.trans p2, q3.trans p3, q4.trans p4, q5.trans p5, q6.trans p6, q7.trans p7⟩
theorem mm_eY_fr {wf : List (Nat × Nat)} {wa : List Nat} {h h2 : mH} (f : mm_fr wf wa h h2) (hw : ((66, 59) ∉ wf ∧ 101 ∉ wa) ∧ (66, 60) ∉ wf ∧ (66, 61) ∉ wf ∧ (66, 62) ∉ wf ∧ (66, 63) ∉ wf ∧ (66, 64) ∉ wf ∧ (66, 65) ∉ wf ∧ (66, 66) ∉ wf) : mm_eY h h2 :=
  ⟨mm_TYy_fr f hw.1, f.1 66 60 hw.2.1, f.1 66 61 hw.2.2.1, f.1 66 62 hw.2.2.2.1, f.1 66 63 hw.2.2.2.2.1, f.1 66 64 hw.2.2.2.2.2.1, f.1 66 65 hw.2.2.2.2.2.2.1, f.1 66 66 hw.2.2.2.2.2.2.2⟩
theorem mm_eY_pa {h h2 : mH} {o : Nat} {i v : Int} (e : h2 = mm_pa h o i v) (ho : 101 ≠ o) : mm_eY h h2 := by
  subst e
  exact ⟨⟨fun j => mm_pa_o 101 o ho j, rfl⟩, rfl, rfl, rfl, rfl, rfl, rfl, rfl⟩
theorem mm_eY_pf {h h2 : mH} {k : Nat} {v : Int} (e : h2 = mm_pf h 66 k v) (hk : k ≠ 59 ∧ k ≠ 60 ∧ k ≠ 61 ∧ k ≠ 62 ∧ k ≠ 63 ∧ k ≠ 64 ∧ k ≠ 65 ∧ k ≠ 66) : mm_eY h h2 := by
  subst e
  have w : ∀ a, a ≠ k → (mm_pf h 66 k v).1 66 a = h.1 66 a := fun a ha => mm_pf_ne _ _ (fun q => ha q.2)
  exact ⟨⟨fun _ => rfl, w 59 (fun q => hk.1 q.symm)⟩, w 60 (fun q => hk.2.1 q.symm), w 61 (fun q => hk.2.2.1 q.symm), w 62 (fun q => hk.2.2.2.1 q.symm), w 63 (fun q => hk.2.2.2.2.1 q.symm), w 64 (fun q => hk.2.2.2.2.2.1 q.symm), w 65 (fun q => hk.2.2.2.2.2.2.1 q.symm), w 66 (fun q => hk.2.2.2.2.2.2.2 q.symm)⟩
theorem mm_eY_c {h h2 : mH} (e : mm_eY h h2) : mm_cY h2 = mm_cY h ∧ mm_nY9 h2 = mm_nY9 h := by
  unfold mm_cY mm_nY9
  rw [mm_TYy_U e.1, e.1.2, e.2.2.2.1]
  exact ⟨rfl, rfl⟩
theorem mm_eY_a {h h2 : mH} (e : mm_eY h h2) (a : mm_aY h) : mm_aY h2 := by
  obtain ⟨t, e0, e1, e2, e3, e4, e5, e6⟩ := e
  unfold mm_aY
  rw [mm_TYy_U t, t.2, e0, e1, e2, e3, e4, e5, e6]
  exact a
theorem mm_eY_tv {h h2 : mH} (e : mm_eY h h2) : mm_tv (mm_UY h2) (h2.1 66 59) (h2.1 66 62) = mm_tv (mm_UY h) (h.1 66 59) (h.1 66 62) := by
  rw [mm_TYy_U e.1, e.1.2, e.2.2.2.1]
/-- on to the next token -/
def mm_st9 (h h2 : mH) : Prop := mm_TYy h h2 ∧ mm_aY h2 ∧ h2.1 66 62 = mm_nY9 h
theorem mm_st9_of {wf : List (Nat × Nat)} {wa : List Nat} {h h2 : mH} (a : mm_aY h) (a2 : mm_aY h2) (e : h2.1 66 62 = mm_skp (mm_UY h) (h.1 66 59) (h.1 66 60)) (f : mm_fr wf wa h h2) (hw : (66, 59) ∉ wf ∧ 101 ∉ wa) : mm_st9 h h2 :=
  ⟨mm_TYy_fr f hw, a2, by rw [e, a.2.1]; rfl⟩
theorem mm_st9_e {h h1 h2 : mH} (e : mm_eY h h1) (s : mm_st9 h1 h2) : mm_st9 h h2 := ⟨mm_TYy_tr e.1 s.1, s.2.1, by rw [s.2.2, (mm_eY_c e).2]⟩
/-! the tests so far, by depth -/
def mm_stk (t : Int → Int) : Nat → List Int
  | 0 => []
  | d + 1 => t ((d : Int) + 1) :: mm_stk t d
theorem mm_stk_cg {t t' : Int → Int} : ∀ d : Nat, (∀ j : Int, 1 ≤ j → j ≤ d → t j = t' j) → mm_stk t d = mm_stk t' d
  | 0, _ => rfl
  | d + 1, h => by
    unfold mm_stk
    rw [h ((d : Int) + 1) (by omega) (by omega), mm_stk_cg d (fun j a b => h j a (by omega))]
theorem mm_stk_len (t : Int → Int) : ∀ d : Nat, (mm_stk t d).length = d
  | 0 => rfl
  | d + 1 => by unfold mm_stk; rw [List.length_cons, mm_stk_len t d]
def mm_kY (h : mH) : List Int := mm_stk (h.2.1 109) (h.1 66 71).toNat
theorem mm_kY_len {h : mH} (d : 0 ≤ h.1 66 71) : ((mm_kY h).length : Int) = h.1 66 71 := by unfold mm_kY; rw [mm_stk_len]; omega
theorem mm_kY_eq {h h2 : mH} (e : ∀ j, h2.2.1 109 j = h.2.1 109 j) (d : h2.1 66 71 = h.1 66 71) : mm_kY h2 = mm_kY h := by
  unfold mm_kY
  rw [show h2.2.1 109 = h.2.1 109 from funext e, d]
theorem mm_kY_c {h : mH} (d : 1 ≤ h.1 66 71) : mm_kY h = h.2.1 109 (h.1 66 71) :: mm_stk (h.2.1 109) (h.1 66 71 - 1).toNat := by
  unfold mm_kY
  rw [show (h.1 66 71).toNat = (h.1 66 71 - 1).toNat + 1 by omega]
  show h.2.1 109 (((h.1 66 71 - 1).toNat : Int) + 1) :: _ = _
  rw [show (((h.1 66 71 - 1).toNat : Int) + 1) = h.1 66 71 by omega]
theorem mm_kY_in {h h2 : mH} {v : Int} (u : mm_up h h2 109 (h.1 66 71 + 1) v 1) (d : h2.1 66 71 = h.1 66 71 + 1) (d0 : 0 ≤ h.1 66 71) : mm_kY h2 = v :: mm_kY h := by
  rw [mm_kY_c (by omega), d]
  have k := u (h.1 66 71 + 1)
  rw [if_pos ⟨rfl, rfl⟩] at k
  rw [k, show h.1 66 71 + 1 - 1 = h.1 66 71 by omega]
  unfold mm_kY
  rw [mm_stk_cg (t := h2.2.1 109) (t' := h.2.1 109) _ (fun j a b => by rw [u j, if_neg (fun w => by omega)])]
theorem mm_kY_set {h h2 : mH} {v : Int} (u : mm_up h h2 109 (h.1 66 71) v 1) (d : h2.1 66 71 = h.1 66 71) (d0 : 1 ≤ h.1 66 71) : ∃ s, mm_kY h = h.2.1 109 (h.1 66 71) :: s ∧ mm_kY h2 = v :: s := by
  refine ⟨_, mm_kY_c d0, ?_⟩
  rw [mm_kY_c (by omega), d]
  have k := u (h.1 66 71)
  rw [if_pos ⟨rfl, rfl⟩] at k
  rw [k, mm_stk_cg (t := h2.2.1 109) (t' := h.2.1 109) _ (fun j a b => by rw [u j, if_neg (fun w => by omega)])]
theorem mm_kY_out {h h2 : mH} (e : ∀ j, h2.2.1 109 j = h.2.1 109 j) (d : h2.1 66 71 = h.1 66 71 - 1) (d0 : 1 ≤ h.1 66 71) : mm_kY h = h.2.1 109 (h.1 66 71) :: mm_kY h2 := by
  rw [mm_kY_c d0]
  unfold mm_kY
  rw [d, show h2.2.1 109 = h.2.1 109 from funext e]
/-! faults -/
def mm_bd (h h2 : mH) : Prop := h2.1 66 57 = h.1 66 57 ∧ h2.1 66 58 = h.1 66 58
/-! operands -/
def mm_W9 (M : Int) (h h2 : mH) (m j : Int) : Prop := ∀ (i r : Int) (P : Int → Int), mm_St (mm_fY h) ⟨M, mm_kY h, h.1 66 62, 0, i, r, P⟩ ⟨m, mm_kY h2, h2.1 66 62, j, i, r, P⟩
def mm_V9 (M : Int) (h h2 : mH) : Prop := ∀ (i r : Int) (P : Int → Int), mm_St (mm_fY h) ⟨M, mm_kY h, h.1 66 62, 0, i, r, P⟩ (mm_F3 (h2.1 66 58) (h2.1 66 57))
def mm_O9 (M : Int) (h h2 : mH) (R : Prop) : Prop := mm_TYy h h2 ∧ mm_aY h2 ∧ (h.1 66 57 ≠ 0 → mm_bd h h2) ∧ (h.1 66 57 = 0 → h2.1 66 57 ≠ 0 → mm_V9 M h h2) ∧ (h.1 66 57 = 0 → h2.1 66 57 = 0 → R)
def mm_I4 (M : Int) (h h2 : mH) (n x : Int) : Prop := mm_O9 M h h2 ((x = 1 → mm_W9 M h h2 (1 - n) 0) ∧ (x = 0 → ∃ m j, mm_W9 M h h2 m j ∧ (m = 1 ∨ (m = 0 ∧ mm_cY h2 ≠ 6)) ∧ mm_cY h2 ≠ 140))
def mm_I8 (M : Int) (h h2 : mH) (n j : Int) : Prop := mm_O9 M h h2 (mm_W9 M h h2 (1 - n) j ∧ (n = 0 → j = 0))
theorem mm_I4_0 {n M : Int} {h : mH} (a : mm_aY h) (hM : M = 1 - n) : mm_I4 M h h n 1 :=
  ⟨mm_TYy_rf, a, fun _ => ⟨rfl, rfl⟩, fun p q => absurd p q, fun _ _ => ⟨fun _ => by subst hM; exact fun _ _ _ => mm_St_rf, fun q => absurd q (by decide)⟩⟩
theorem mm_I8_4 {M n x : Int} {h h2 : mH} (I : mm_I4 M h h2 n x) (hx : x = 1) : mm_I8 M h h2 n 0 :=
  ⟨I.1, I.2.1, I.2.2.1, I.2.2.2.1, fun p q => ⟨(I.2.2.2.2 p q).1 hx, fun _ => rfl⟩⟩
theorem mm_I8_bad {M n j j' : Int} {h h1 h2 : mH} (I : mm_I8 M h h1 n j) (g : h1.1 66 57 = 0) (hn : n = 1) (hj : j = 6) (c : mm_cY h1 = 6) (e : mm_eY h1 h2) (e7 : h2.1 66 57 = 2) (e8 : h2.1 66 58 = h1.1 66 62) : mm_I8 M h h2 n j' := by
  obtain ⟨t, a, b, v, w⟩ := I
  refine ⟨mm_TYy_tr t e.1, mm_eY_a e a, fun q => absurd ((b q).1.symm.trans g) q, fun p _ i r P => ?_, fun p q => absurd q (by omega)⟩
  refine mm_St_tr ((w p g).1 i r P) (mm_St_1 ?_)
  rw [e7, e8, ← mm_fY_eq t, show 1 - n = 0 by omega, hj]
  exact mm_sp_nots c
theorem mm_I8_s {M n j : Int} {h h1 h2 : mH} (I : mm_I8 M h h1 n j) (g : h1.1 66 57 = 0) (hn : n = 1) (hj : j ≠ 6) (c : mm_cY h1 = 6) (s : mm_st9 h1 h2) (b2 : mm_bd h1 h2) (k : mm_kY h2 = mm_kY h1) : mm_I8 M h h2 n (j + 1) := by
  obtain ⟨t, a, b, v, w⟩ := I
  refine ⟨mm_TYy_tr t s.1, s.2.1, fun q => absurd ((b q).1.symm.trans g) q, fun p q => absurd (b2.1.trans g) q, fun p q => ⟨fun i r P => ?_, fun q => by omega⟩⟩
  refine mm_St_tr ((w p g).1 i r P) (mm_St_1 ?_)
  rw [k, s.2.2, ← mm_fY_eq t, show 1 - n = 0 by omega]
  exact mm_sp_not c hj
theorem mm_I4_end {M n j : Int} {h h1 : mH} (I : mm_I8 M h h1 n j) (hn : n = 0 ∨ n = 1) (c : h1.1 66 57 ≠ 0 ∨ ((n = 0 ∨ mm_cY h1 ≠ 6) ∧ mm_cY h1 ≠ 140)) : mm_I4 M h h1 n 0 := by
  obtain ⟨t, a, b, v, w⟩ := I
  refine ⟨t, a, b, v, fun p q => ⟨fun z => absurd z (by decide), fun _ => ⟨1 - n, j, (w p q).1, ?_⟩⟩⟩
  rcases c with c | ⟨c, c2⟩
  · exact absurd q c
  · exact ⟨by omega, c2⟩
/-- a parenthesis is opened -/
def mm_bg (h h2 : mH) : Prop := mm_eY h h2 ∧ ((h.1 66 71 ≤ 5 ∧ h2.1 66 71 = h.1 66 71 + 1 ∧ mm_bd h h2 ∧ mm_up h h2 109 (h.1 66 71 + 1) 0 1) ∨ (6 ≤ h.1 66 71 ∧ h2.1 66 71 = h.1 66 71 ∧ (h.1 66 57 = 0 → h2.1 66 58 = h.1 66 62 ∧ h2.1 66 57 = (if mm_cY h ≤ 19 ∨ mm_cY h = 140 then 2 else 1))))
theorem mm_I4_open {M n j x : Int} {h h1 hs h2 : mH} (I : mm_I8 M h h1 n j) (g : h1.1 66 57 = 0) (hn : n = 0 ∨ n = 1) (c : mm_cY h1 = 140) (s : mm_st9 h1 hs) (b2 : mm_bd h1 hs) (k : mm_kY hs = mm_kY h1) (d : 0 ≤ hs.1 66 71) (B : mm_bg hs h2) (hx : x = 1) : mm_I4 M h h2 1 x := by
  obtain ⟨t, a, b, v, w⟩ := I
  obtain ⟨e, B⟩ := B
  have t2 := mm_TYy_tr (mm_TYy_tr t s.1) e.1
  have l := mm_kY_len d
  have gs : hs.1 66 57 = 0 := b2.1.trans g
  have step : ∀ (i r : Int) (P : Int → Int) (X : mm_G9), mm_stp (mm_tc (mm_UY h1) (h1.1 66 59)) (mm_tn (mm_UY h1) (h1.1 66 59)) (mm_tv (mm_UY h1) (h1.1 66 59)) ⟨1, mm_kY h1, h1.1 66 62, 0, i, r, P⟩ = X → h.1 66 57 = 0 → mm_St (mm_fY h) ⟨M, mm_kY h, h.1 66 62, 0, i, r, P⟩ X := fun i r P X hX p => by
    refine mm_St_tr ((w p g).1 i r P) (mm_St_1 ?_)
    rw [← mm_fY_eq t, ← hX]
    rcases hn with hn | hn
    · rw [hn, (w p g).2 hn]; rfl
    · rw [hn]
      exact mm_sp_0 (by unfold mm_cY at c; omega)
  refine ⟨t2, mm_eY_a e s.2.1, fun q => absurd ((b q).1.symm.trans g) q, fun p q i r P => ?_, fun p q => ⟨fun _ i r P => ?_, fun z => absurd z (by omega)⟩⟩
  · rcases B with ⟨B1, B2, B3, B4⟩ | ⟨B1, B2, B3⟩
    · exact absurd (B3.1.trans gs) q
    · obtain ⟨B4, B5⟩ := B3 gs
      refine step i r P _ ?_ p
      rw [B4, B5, s.2.2]
      refine mm_sp_deep c (by rw [← k]; omega) ?_
      unfold mm_cY
      rw [mm_TYy_U s.1, s.1.2, s.2.2]; rfl
  · rcases B with ⟨B1, B2, B3, B4⟩ | ⟨B1, B2, B3⟩
    · refine step i r P _ ?_ p
      rw [mm_kY_in B4 B2 d, e.2.2.2.1, s.2.2, k]
      exact mm_sp_open c (by rw [← k]; omega)
    · obtain ⟨B4, B5⟩ := B3 gs
      rw [B5] at q
      split at q <;> exact absurd q (by decide)
/-- a part -/
def mm_pY9 (h h2 : mH) : Prop := mm_TYy h h2 ∧ mm_aY h2 ∧ ((h.1 66 57 ≠ 0 ∧ mm_bd h h2) ∨ (h.1 66 57 = 0 ∧ h2.1 66 57 = 0 ∧ (mm_cY h = 18 ∨ (7 ≤ mm_cY h ∧ mm_cY h ≤ 16)) ∧ h2.1 66 62 = mm_nY9 h) ∨ (h.1 66 57 = 0 ∧ h2.1 66 58 = h.1 66 62 ∧ ((mm_cY h = 19 ∧ h2.1 66 57 = 2) ∨ (mm_cY h ≤ 6 ∧ h2.1 66 57 = 3) ∨ (mm_cY h = 17 ∧ h2.1 66 57 = 3) ∨ (20 ≤ mm_cY h ∧ h2.1 66 57 = 1))))
theorem mm_O9_part {M n x : Int} {h h1 h2 : mH} (I : mm_I4 M h h1 n x) (hx : x = 0 ∨ h1.1 66 57 ≠ 0) (p : mm_pY9 h1 h2) (k : mm_kY h2 = mm_kY h1) : mm_O9 M h h2 (mm_W9 M h h2 2 0) := by
  obtain ⟨t, a, b, v, w⟩ := I
  obtain ⟨t2, a2, p⟩ := p
  have step : h.1 66 57 = 0 → h1.1 66 57 = 0 → ∀ (i r : Int) (P : Int → Int) (X : mm_G9), (∀ j, mm_stp (mm_tc (mm_UY h1) (h1.1 66 59)) (mm_tn (mm_UY h1) (h1.1 66 59)) (mm_tv (mm_UY h1) (h1.1 66 59)) ⟨1, mm_kY h1, h1.1 66 62, j, i, r, P⟩ = X) → mm_St (mm_fY h) ⟨M, mm_kY h, h.1 66 62, 0, i, r, P⟩ X := fun q g i r P X hX => by
    obtain ⟨m, j, w1, w2, w3⟩ := (w q g).2 (hx.resolve_right (fun z => z g))
    refine mm_St_tr (w1 i r P) (mm_St_1 ?_)
    rw [← mm_fY_eq t]
    rcases w2 with w2 | ⟨w2, w4⟩
    · rw [w2]; exact hX j
    · rw [w2, ← hX 0]; exact mm_sp_0 w4
  have n140 : h.1 66 57 = 0 → h1.1 66 57 = 0 → mm_cY h1 ≠ 140 := fun q g => by
    obtain ⟨m, j, w1, w2, w3⟩ := (w q g).2 (hx.resolve_right (fun z => z g))
    exact w3
  refine ⟨mm_TYy_tr t t2, a2, fun q => ?_, fun q g => ?_, fun q g => ?_⟩
  · have := b q
    rcases p with ⟨p1, p2⟩ | ⟨p1, p2, p3⟩ | ⟨p1, p2, p3⟩
    · exact ⟨p2.1.trans this.1, p2.2.trans this.2⟩
    · exact absurd (this.1.symm.trans p1) q
    · exact absurd (this.1.symm.trans p1) q
  · rcases p with ⟨p1, p2⟩ | ⟨p1, p2, p3⟩ | ⟨p1, p2, p3⟩
    · intro i r P
      rw [p2.1, p2.2]
      exact v q p1 i r P
    · exact absurd p2 g
    · intro i r P
      have n := n140 q p1
      refine step q p1 i r P _ (fun j => ?_)
      rw [p2]
      refine mm_sp_bad ?_
      unfold mm_cY at p3 n
      rcases p3 with p3 | p3 | p3 | p3
      · exact Or.inl p3
      · exact Or.inr (Or.inl p3)
      · exact Or.inr (Or.inr (Or.inl p3))
      · exact Or.inr (Or.inr (Or.inr ⟨p3.1, n, p3.2⟩))
  · rcases p with ⟨p1, p2⟩ | ⟨p1, p2, p3, p4⟩ | ⟨p1, p2, p3⟩
    · exact absurd (p2.1.symm.trans g) p1
    · intro i r P
      refine step q p1 i r P _ (fun j => ?_)
      rw [k, p4]
      exact mm_sp_part p3
    · rcases p3 with p3 | p3 | p3 | p3 <;> (have := p3.2; omega)
/-! ===== expressions of the reference ===== -/
def mm_E9 (h h2 : mH) (R : Prop) : Prop := mm_TYy h h2 ∧ mm_aY h2 ∧ (h2.1 66 57 ≠ 0 → ∀ (i r : Int) (P : Int → Int), mm_St (mm_fY h) ⟨0, [0], h.1 66 62, 0, i, r, P⟩ (mm_F3 (h2.1 66 58) (h2.1 66 57))) ∧ (h2.1 66 57 = 0 → R)
def mm_I35 (h h2 : mH) (x : Int) : Prop := mm_E9 h h2 (1 ≤ h2.1 66 71 ∧ (∀ (i r : Int) (P : Int → Int), mm_St (mm_fY h) ⟨0, [0], h.1 66 62, 0, i, r, P⟩ ⟨2, mm_kY h2, h2.1 66 62, 0, i, r, P⟩) ∧ (x = 0 → mm_nF (mm_cY h2) (h2.2.1 109 (h2.1 66 71)) ∧ (mm_cY h2 ≠ 141 ∨ h2.1 66 71 ≤ 1)))
theorem mm_I35_0 {h h2 hb ho : mH} {x : Int} (g : h.1 66 57 = 0) (e : mm_eY h h2) (b : mm_bd h h2) (d : h2.1 66 71 = 0) (B : mm_bg h2 hb) (O : mm_O9 0 hb ho (mm_W9 0 hb ho 2 0)) (hd : ho.1 66 57 = 0 → 1 ≤ ho.1 66 71) (hx : x = 1) : mm_I35 h ho x := by
  obtain ⟨e2, B⟩ := B
  have e3 := mm_eY_tr e e2
  obtain ⟨B1, B2, B3, B4⟩ := B.resolve_right (fun q => by omega)
  have k : mm_kY hb = [0] := by
    rw [mm_kY_in B4 B2 (by omega)]
    unfold mm_kY
    rw [d]; rfl
  have gb : hb.1 66 57 = 0 := B3.1.trans (b.1.trans g)
  obtain ⟨t, a, o1, o2, o3⟩ := O
  refine ⟨mm_TYy_tr e3.1 t, a, fun q i r P => ?_, fun q => ⟨hd q, fun i r P => ?_, fun z => absurd z (by omega)⟩⟩
  · have z := o2 gb q i r P
    rw [k, mm_fY_eq e3.1, e3.2.2.2.1] at z
    exact z
  · have z := o3 gb q i r P
    rw [k, mm_fY_eq e3.1, e3.2.2.2.1] at z
    exact z
theorem mm_I35_op {M x : Int} {h h1 hp hg ho : mH} (I : mm_I35 h h1 1) (g : h1.1 66 57 = 0) (e : mm_eY h1 hp) (b : mm_bd h1 hp) (s : mm_st9 hp hg) (b2 : mm_bd hp hg) (k : mm_kY hg = mm_kY hp) (st : ∀ (i r : Int) (P : Int → Int), mm_fY h1 ⟨2, mm_kY h1, h1.1 66 62, 0, i, r, P⟩ = ⟨M, mm_kY hp, mm_nY9 h1, 0, i, r, P⟩) (O : mm_O9 M hg ho (mm_W9 M hg ho 2 0)) (hd : ho.1 66 57 = 0 → 1 ≤ ho.1 66 71) (hx : x = 1) : mm_I35 h ho x := by
  obtain ⟨t, a, i1, i2⟩ := I
  obtain ⟨d, w, _⟩ := i2 g
  have s2 := mm_st9_e e s
  have gg : hg.1 66 57 = 0 := b2.1.trans (b.1.trans g)
  obtain ⟨t3, a3, o1, o2, o3⟩ := O
  have t4 := mm_TYy_tr t s2.1
  have go : ∀ (i r : Int) (P : Int → Int) (X : mm_G9), mm_St (mm_fY hg) ⟨M, mm_kY hg, hg.1 66 62, 0, i, r, P⟩ X → mm_St (mm_fY h) ⟨0, [0], h.1 66 62, 0, i, r, P⟩ X := fun i r P X z => by
    refine mm_St_tr (w i r P) (mm_St_tr (mm_St_1 ?_) (by rw [mm_fY_eq t4] at z; exact z))
    rw [← mm_fY_eq t, st, k, s2.2.2]
  exact ⟨mm_TYy_tr t4 t3, a3, fun q i r P => go i r P _ (o2 gg q i r P), fun q => ⟨hd q, fun i r P => go i r P _ (o3 gg q i r P), fun z => absurd z (by omega)⟩⟩
theorem mm_st_and {h1 hp : mH} {i r : Int} {P : Int → Int} (c : mm_cY h1 = 4 ∨ mm_cY h1 = 5) (u : mm_up h1 hp 109 (h1.1 66 71) 0 1) (d : hp.1 66 71 = h1.1 66 71) (d0 : 1 ≤ h1.1 66 71) : mm_fY h1 ⟨2, mm_kY h1, h1.1 66 62, 0, i, r, P⟩ = ⟨0, mm_kY hp, mm_nY9 h1, 0, i, r, P⟩ := by
  obtain ⟨s, k1, k2⟩ := mm_kY_set u d d0
  rw [k1, k2]
  exact mm_sp_and c
theorem mm_st_lt {h1 hp : mH} {i r : Int} {P : Int → Int} (c : mm_cY h1 = 160 ∨ mm_cY h1 = 161) (z : h1.2.1 109 (h1.1 66 71) = 0) (u : mm_up h1 hp 109 (h1.1 66 71) 1 1) (d : hp.1 66 71 = h1.1 66 71) (d0 : 1 ≤ h1.1 66 71) : mm_fY h1 ⟨2, mm_kY h1, h1.1 66 62, 0, i, r, P⟩ = ⟨1, mm_kY hp, mm_nY9 h1, 0, i, r, P⟩ := by
  obtain ⟨s, k1, k2⟩ := mm_kY_set u d d0
  rw [k1, k2, z]
  exact mm_sp_lt c
theorem mm_st_op {h1 hp : mH} {i r : Int} {P : Int → Int} (c : mm_cY h1 = 142 ∨ mm_cY h1 = 147 ∨ mm_cY h1 = 143 ∨ mm_cY h1 = 145) (k : mm_kY hp = mm_kY h1) (d0 : 1 ≤ h1.1 66 71) : mm_fY h1 ⟨2, mm_kY h1, h1.1 66 62, 0, i, r, P⟩ = ⟨1, mm_kY hp, mm_nY9 h1, 0, i, r, P⟩ := by
  rw [k, mm_kY_c d0]
  exact mm_sp_op c
theorem mm_I35_close {x : Int} {h h1 hc ho : mH} (I : mm_I35 h h1 1) (g : h1.1 66 57 = 0) (c : mm_cY h1 = 141) (e : mm_eY h1 hc) (b : mm_bd h1 hc) (e9 : ∀ j, hc.2.1 109 j = h1.2.1 109 j) (d : hc.1 66 71 = h1.1 66 71 - 1) (d1 : 1 < h1.1 66 71) (s : mm_st9 hc ho) (b2 : mm_bd hc ho) (k : mm_kY ho = mm_kY hc) (dd : ho.1 66 71 = hc.1 66 71) (hx : x = 1) : mm_I35 h ho x := by
  obtain ⟨t, a, i1, i2⟩ := I
  obtain ⟨d0, w, _⟩ := i2 g
  have s2 := mm_st9_e e s
  refine ⟨mm_TYy_tr t s2.1, s2.2.1, fun q => absurd (b2.1.trans (b.1.trans g)) q, fun q => ⟨by omega, fun i r P => ?_, fun z => absurd z (by omega)⟩⟩
  refine mm_St_tr (w i r P) (mm_St_1 ?_)
  rw [← mm_fY_eq t, mm_kY_out e9 d d0, s2.2.2, k]
  have l := mm_kY_len (h := hc) (by omega)
  exact mm_sp_close c (fun z => by rw [z] at l; simp at l; omega)
theorem mm_I35_out {h h1 : mH} (I : mm_I35 h h1 1) (c : h1.1 66 57 = 0 → mm_nF (mm_cY h1) (h1.2.1 109 (h1.1 66 71)) ∧ (mm_cY h1 ≠ 141 ∨ h1.1 66 71 ≤ 1)) : mm_I35 h h1 0 :=
  ⟨I.1, I.2.1, I.2.2.1, fun q => ⟨(I.2.2.2 q).1, (I.2.2.2 q).2.1, fun _ => c q⟩⟩
def mm_X9 (h h2 : mH) : Prop := mm_E9 h h2 (∀ (i r : Int) (P : Int → Int), mm_St (mm_fY h) ⟨0, [0], h.1 66 62, 0, i, r, P⟩ ⟨4, [], h2.1 66 62, 0, i, r, P⟩)
theorem mm_X9_end {x : Int} {h h1 hw h2 : mH} (I : mm_I35 h h1 x) (hx : x = 0 ∨ h1.1 66 57 ≠ 0) (e : mm_eY h1 hw) (v : (h1.1 66 57 = 0 ∧ 1 < h1.1 66 71 ∧ hw.1 66 57 = 1 ∧ hw.1 66 58 = h1.1 66 62) ∨ ((h1.1 66 57 ≠ 0 ∨ h1.1 66 71 ≤ 1) ∧ mm_bd h1 hw)) (e2 : mm_eY hw h2) (b2 : mm_bd hw h2) : mm_X9 h h2 := by
  obtain ⟨t, a, i1, i2⟩ := I
  have e3 := mm_eY_tr e e2
  refine ⟨mm_TYy_tr t e3.1, mm_eY_a e3 a, fun q i r P => ?_, fun q i r P => ?_⟩
  · rw [b2.1, b2.2]
    rw [b2.1] at q
    rcases v with ⟨v1, v2, v3, v4⟩ | ⟨v1, v2⟩
    · obtain ⟨d0, w, f⟩ := i2 v1
      obtain ⟨f1, f2⟩ := f (hx.resolve_right (fun z => z v1))
      refine mm_St_tr (w i r P) (mm_St_1 ?_)
      rw [v3, v4, ← mm_fY_eq t, mm_kY_c d0]
      have l := mm_stk_len (h1.2.1 109) (h1.1 66 71 - 1).toNat
      exact mm_sp_shut f1 (by unfold mm_cY at f2; omega) (fun z => by rw [z] at l; simp at l; omega)
    · rw [v2.1] at q ⊢
      rw [v2.2]
      exact i1 q i r P
  · rw [b2.1] at q
    rcases v with ⟨v1, v2, v3, v4⟩ | ⟨v1, v2⟩
    · exact absurd (v3.symm.trans q) (by decide)
    · have g := v2.1.symm.trans q
      obtain ⟨d0, w, f⟩ := i2 g
      obtain ⟨f1, f2⟩ := f (hx.resolve_right (fun z => z g))
      refine mm_St_tr (w i r P) (mm_St_1 ?_)
      have dz : h1.1 66 71 = 1 := by have := v1.resolve_left (fun z => z g); omega
      rw [e3.2.2.2.1, ← mm_fY_eq t, mm_kY_c d0, show (h1.1 66 71 - 1).toNat = 0 by omega]
      exact mm_sp_end f1
/-! clauses of the reference -/
def mm_PY (b : Int) (h : mH) : Int → Int := fun x => if 0 ≤ x ∧ x ≤ 2 then h.2.1 102 (3 * b + x) else 0
def mm_ot (b : Int) (h h2 : mH) : Prop := ∀ j, (j < 3 * b ∨ 3 * b + 2 < j) → h2.2.1 102 j = h.2.1 102 j
theorem mm_ot_rf {b : Int} {h h2 : mH} (e : ∀ j, h2.2.1 102 j = h.2.1 102 j) : mm_ot b h h2 := fun j _ => e j
theorem mm_ot_tr {b : Int} {h h1 h2 : mH} (p : mm_ot b h h1) (q : mm_ot b h1 h2) : mm_ot b h h2 := fun j w => (q j w).trans (p j w)
theorem mm_PY_eq {b : Int} {h h2 : mH} (e : ∀ j, h2.2.1 102 j = h.2.1 102 j) : mm_PY b h2 = mm_PY b h := by
  unfold mm_PY
  rw [show h2.2.1 102 = h.2.1 102 from funext e]
theorem mm_PY_put {b : Int} {h h2 : mH} {x v : Int} (u : mm_up h h2 102 (3 * b + x) v 1) (hx : 0 ≤ x ∧ x ≤ 2) : (mm_PY b h2 = fun y => if y = x then v else mm_PY b h y) ∧ mm_ot b h h2 := by
  refine ⟨funext fun y => ?_, fun j w => by rw [u j, if_neg (fun z => by omega)]⟩
  unfold mm_PY
  have k := u (3 * b + y)
  by_cases q : y = x
  · rw [if_pos ⟨by omega, rfl⟩] at k
    rw [if_pos q, if_pos (by omega)]; exact k
  · rw [if_neg (fun z => by omega)] at k
    rw [if_neg q, k]
def mm_D9 (m b : Int) (h h2 : mH) : Prop := mm_TYy h h2 ∧ mm_aY h2 ∧ mm_ot b h h2 ∧ (h2.1 66 57 ≠ 0 → ∀ p, mm_St (mm_fY h) ⟨m, [], h.1 66 62, 0, p, 0, mm_PY b h⟩ (mm_F3 (h2.1 66 58) (h2.1 66 57))) ∧ (h2.1 66 57 = 0 → ∀ p, mm_St (mm_fY h) ⟨m, [], h.1 66 62, 0, p, 0, mm_PY b h⟩ ⟨13, [], h2.1 66 62, 0, p, 0, mm_PY b h2⟩)
/-- set: what isn't a name -/
theorem mm_D9_1 {b : Int} {h h2 : mH} (a : mm_aY h) (e : mm_eY h h2) (o : mm_ot b h h2) (c : (18 ≤ mm_cY h ∧ h2.1 66 57 = 1) ∨ (mm_cY h ≤ 17 ∧ ¬ (7 ≤ mm_cY h ∧ mm_cY h ≤ 9) ∧ h2.1 66 57 = 3)) (e8 : h2.1 66 58 = h.1 66 62) : mm_D9 11 b h h2 := by
  refine ⟨e.1, mm_eY_a e a, o, fun _ p => mm_St_1 (mm_sp_11.trans ?_), fun q => by omega⟩
  rw [e8]
  unfold mm_cY at c
  rcases c with ⟨c, q⟩ | ⟨c, c2, q⟩
  · rw [if_pos c, q]
  · rw [if_neg (by omega), if_pos c2, q]
theorem mm_op_11 {p : Int} {P : Int → Int} {h hs : mH} (c : 7 ≤ mm_cY h ∧ mm_cY h ≤ 9) (s : mm_st9 h hs) : mm_St (mm_fY h) ⟨11, [], h.1 66 62, 0, p, 0, P⟩ ⟨12, [], hs.1 66 62, mm_cY h - 7, p, 0, P⟩ := by
  refine mm_St_1 ?_
  rw [s.2.2]
  refine mm_sp_11.trans ?_
  rw [if_neg (show ¬ 18 ≤ mm_tc (mm_UY h) (h.1 66 59) (h.1 66 62) from fun z => by unfold mm_cY at c; omega), if_neg (show ¬ ¬ (7 ≤ mm_tc (mm_UY h) (h.1 66 59) (h.1 66 62) ∧ mm_tc (mm_UY h) (h.1 66 59) (h.1 66 62) ≤ 9) from fun z => z c)]
  rfl
theorem mm_D9_2 {b : Int} {h hs h2 : mH} (c : 7 ≤ mm_cY h ∧ mm_cY h ≤ 9) (s : mm_st9 h hs) (e : mm_eY hs h2) (o : mm_ot b h h2) (c2 : (mm_cY hs = 19 ∧ h2.1 66 57 = 2) ∨ (mm_cY hs ≠ 18 ∧ mm_cY hs ≠ 19 ∧ h2.1 66 57 = 1)) (e8 : h2.1 66 58 = hs.1 66 62) : mm_D9 11 b h h2 := by
  refine ⟨mm_TYy_tr s.1 e.1, mm_eY_a e s.2.1, o, fun _ p => mm_St_tr (mm_op_11 c s) (mm_St_1 ?_), fun q => by omega⟩
  rw [e8, ← mm_fY_eq s.1]
  refine mm_sp_12.trans ?_
  unfold mm_cY at c2
  rcases c2 with ⟨c2, q⟩ | ⟨c2, c3, q⟩
  · rw [if_neg (by omega), if_pos c2, q]
  · rw [if_neg c2, if_neg c3, q]
theorem mm_D9_3 {b v : Int} {h hs h1 h2 : mH} (c : 7 ≤ mm_cY h ∧ mm_cY h ≤ 9) (s : mm_st9 h hs) (g : h2.1 66 57 = 0) (c2 : mm_cY hs = 18) (e : mm_eY hs h1) (e102 : ∀ j, hs.2.1 102 j = h.2.1 102 j) (u : mm_up hs h1 102 (3 * b + (mm_cY h - 7)) v 1) (hv : v = mm_tv (mm_UY hs) (hs.1 66 59) (hs.1 66 62)) (s2 : mm_st9 h1 h2) (e2 : ∀ j, h2.2.1 102 j = h1.2.1 102 j) : mm_D9 11 b h h2 := by
  have k := mm_PY_put (b := b) (x := mm_cY h - 7) u (by omega)
  have t1 := mm_TYy_tr s.1 e.1
  refine ⟨mm_TYy_tr t1 s2.1, s2.2.1, mm_ot_tr (mm_ot_tr (mm_ot_rf e102) k.2) (mm_ot_rf e2), fun q => absurd g q, fun _ p => mm_St_tr (mm_op_11 c s) (mm_St_1 ?_)⟩
  rw [s2.2.2, (mm_eY_c e).2, mm_PY_eq e2, k.1, hv, mm_PY_eq e102, ← mm_fY_eq s.1]
  exact mm_sp_12.trans (if_pos c2)
/-! one clause -/
def mm_C9 (b : Int) (h h2 : mH) : Prop := mm_TYy h h2 ∧ mm_aY h2 ∧ mm_ot b h h2 ∧ (h2.1 66 57 ≠ 0 → mm_St (mm_fY h) ⟨10, [], h.1 66 62, 0, h.2.1 103 b, 0, mm_PY b h⟩ (mm_F3 (h2.1 66 58) (h2.1 66 57))) ∧ (h2.1 66 57 = 0 → h2.2.1 103 b = h.2.1 103 b + 1 ∧ mm_St (mm_fY h) ⟨10, [], h.1 66 62, 0, h.2.1 103 b, 0, mm_PY b h⟩ ⟨10, [], h2.1 66 62, 0, h.2.1 103 b + 1, 0, mm_PY b h2⟩)
/-- before its ; -/
def mm_B9 (b : Int) (h h2 : mH) : Prop := mm_TYy h h2 ∧ mm_aY h2 ∧ mm_ot b h h2 ∧ h2.2.1 103 b = h.2.1 103 b + 1 ∧ (h2.1 66 57 ≠ 0 → mm_St (mm_fY h) ⟨10, [], h.1 66 62, 0, h.2.1 103 b, 0, mm_PY b h⟩ (mm_F3 (h2.1 66 58) (h2.1 66 57))) ∧ (h2.1 66 57 = 0 → ∃ r, mm_St (mm_fY h) ⟨10, [], h.1 66 62, 0, h.2.1 103 b, 0, mm_PY b h⟩ ⟨13, [], h2.1 66 62, 0, h.2.1 103 b, r, mm_PY b h2⟩)
theorem mm_C9_no {b : Int} {h h2 : mH} (a : mm_aY h) (n : mm_cY h ≠ 21) (e : mm_eY h h2) (e102 : ∀ j, h2.2.1 102 j = h.2.1 102 j) (g : h2.1 66 57 ≠ 0) (c : (¬ (0 ≤ mm_cY h ∧ mm_cY h ≤ 2) ∧ h2.1 66 57 = 1) ∨ ((0 ≤ mm_cY h ∧ mm_cY h ≤ 2) ∧ 20 ≤ h.2.1 103 b ∧ h2.1 66 57 = 2)) (e8 : h2.1 66 58 = h.1 66 62) : mm_C9 b h h2 := by
  refine ⟨e.1, mm_eY_a e a, mm_ot_rf e102, fun _ => mm_St_1 (mm_sp_10.trans ?_), fun q => absurd q g⟩
  rw [e8]
  unfold mm_cY at c n
  rw [if_neg n]
  rcases c with ⟨c, q⟩ | ⟨c, c2, q⟩
  · rw [if_pos c, q]
  · rw [if_neg (fun z => z c), if_pos c2, q]
theorem mm_o9_set {p b : Int} {h hs : mH} (c : mm_cY h = 2) (hp : p ≤ 19) (s : mm_st9 h hs) (e : ∀ j, hs.2.1 102 j = h.2.1 102 j) : mm_St (mm_fY h) ⟨10, [], h.1 66 62, 0, p, 0, mm_PY b h⟩ ⟨11, [], hs.1 66 62, 0, p, 0, mm_PY b hs⟩ := by
  refine mm_St_1 (mm_sp_10.trans ?_)
  unfold mm_cY at c
  rw [if_neg (by omega), if_neg (by omega), if_neg (by omega), if_pos c, s.2.2, mm_PY_eq e]
  rfl
theorem mm_o9_ex {p b : Int} {h hs : mH} (c : mm_cY h = 0 ∨ mm_cY h = 1) (hp : p ≤ 19) (s : mm_st9 h hs) (e : ∀ j, hs.2.1 102 j = h.2.1 102 j) : mm_St (mm_fY h) ⟨10, [], h.1 66 62, 0, p, 0, mm_PY b h⟩ ⟨0, [0], hs.1 66 62, 0, p, 0, mm_PY b hs⟩ := by
  refine mm_St_1 (mm_sp_10.trans ?_)
  unfold mm_cY at c
  rw [if_neg (by omega), if_neg (by omega), if_neg (by omega), if_neg (by omega), s.2.2, mm_PY_eq e]
  rfl
theorem mm_B9_set {b : Int} {h hs h2 : mH} (c : mm_cY h = 2) (hp : h.2.1 103 b ≤ 19) (s : mm_st9 h hs) (e : ∀ j, hs.2.1 102 j = h.2.1 102 j) (D : mm_D9 11 b hs h2) (e3 : h2.2.1 103 b = h.2.1 103 b + 1) : mm_B9 b h h2 := by
  obtain ⟨t, a, o, d1, d2⟩ := D
  have z := mm_o9_set (b := b) c hp s e
  refine ⟨mm_TYy_tr s.1 t, a, mm_ot_tr (mm_ot_rf e) o, e3, fun q => mm_St_tr z ?_, fun q => ⟨0, mm_St_tr z ?_⟩⟩
  · have y := d1 q (h.2.1 103 b)
    rw [mm_fY_eq s.1] at y; exact y
  · have y := d2 q (h.2.1 103 b)
    rw [mm_fY_eq s.1] at y; exact y
/-- an expression behind penalty or out -/
def mm_A9 (b r : Int) (h h2 : mH) : Prop := mm_TYy h h2 ∧ mm_aY h2 ∧ mm_ot b h h2 ∧ h2.2.1 103 b = h.2.1 103 b + 1 ∧ (h2.1 66 57 ≠ 0 → mm_St (mm_fY h) ⟨10, [], h.1 66 62, 0, h.2.1 103 b, 0, mm_PY b h⟩ (mm_F3 (h2.1 66 58) (h2.1 66 57))) ∧ (h2.1 66 57 = 0 → mm_St (mm_fY h) ⟨10, [], h.1 66 62, 0, h.2.1 103 b, 0, mm_PY b h⟩ ⟨4, [], h2.1 66 62, 0, h.2.1 103 b, r, mm_PY b h2⟩)
theorem mm_A9_1 {b : Int} {h hs hx h2 : mH} (c : mm_cY h = 0 ∨ mm_cY h = 1) (hp : h.2.1 103 b ≤ 19) (s : mm_st9 h hs) (e : ∀ j, hs.2.1 102 j = h.2.1 102 j) (X : mm_X9 hs hx) (ex : ∀ j, hx.2.1 102 j = hs.2.1 102 j) (e2 : mm_eY hx h2) (bd : mm_bd hx h2) (e22 : ∀ j, h2.2.1 102 j = hx.2.1 102 j) (e3 : h2.2.1 103 b = h.2.1 103 b + 1) : mm_A9 b 0 h h2 := by
  obtain ⟨t, a, x1, x2⟩ := X
  have z := mm_o9_ex (b := b) c hp s e
  refine ⟨mm_TYy_tr s.1 (mm_TYy_tr t e2.1), mm_eY_a e2 a, mm_ot_rf (fun j => (e22 j).trans ((ex j).trans (e j))), e3, fun q => mm_St_tr z ?_, fun q => mm_St_tr z ?_⟩
  · rw [bd.1] at q ⊢
    rw [bd.2]
    have y := x1 q (h.2.1 103 b) 0 (mm_PY b hs)
    rw [mm_fY_eq s.1] at y; exact y
  · rw [bd.1] at q
    have y := x2 q (h.2.1 103 b) 0 (mm_PY b hs)
    rw [mm_fY_eq s.1] at y
    rw [e2.2.2.2.1, mm_PY_eq e22, mm_PY_eq ex]; exact y
theorem mm_A9_2 {b : Int} {h h1 hs hx h2 : mH} (A : mm_A9 b 0 h h1) (g : h1.1 66 57 = 0) (c : mm_cY h1 = 3) (s : mm_st9 h1 hs) (e : ∀ j, hs.2.1 102 j = h1.2.1 102 j) (X : mm_X9 hs hx) (ex : ∀ j, hx.2.1 102 j = hs.2.1 102 j) (e2 : mm_eY hx h2) (bd : mm_bd hx h2) (e22 : ∀ j, h2.2.1 102 j = hx.2.1 102 j) (e3 : h2.2.1 103 b = h1.2.1 103 b) : mm_A9 b 1 h h2 := by
  obtain ⟨t0, a0, o0, k0, f0, z0⟩ := A
  obtain ⟨t, a, x1, x2⟩ := X
  have z : mm_St (mm_fY h) ⟨10, [], h.1 66 62, 0, h.2.1 103 b, 0, mm_PY b h⟩ ⟨0, [0], hs.1 66 62, 0, h.2.1 103 b, 1, mm_PY b h1⟩ := by
    refine mm_St_tr (z0 g) (mm_St_1 ?_)
    rw [← mm_fY_eq t0, s.2.2]
    exact mm_sp_4u c
  have t1 := mm_TYy_tr t0 s.1
  refine ⟨mm_TYy_tr t1 (mm_TYy_tr t e2.1), mm_eY_a e2 a, mm_ot_tr o0 (mm_ot_rf (fun j => (e22 j).trans ((ex j).trans (e j)))), e3.trans k0, fun q => mm_St_tr z ?_, fun q => mm_St_tr z ?_⟩
  · rw [bd.1] at q ⊢
    rw [bd.2]
    have y := x1 q (h.2.1 103 b) 1 (mm_PY b h1)
    rw [mm_fY_eq t1] at y; exact y
  · rw [bd.1] at q
    have y := x2 q (h.2.1 103 b) 1 (mm_PY b h1)
    rw [mm_fY_eq t1] at y
    rw [e2.2.2.2.1, mm_PY_eq e22, mm_PY_eq ex, mm_PY_eq e]; exact y
theorem mm_B9_A {b r : Int} {h h2 : mH} (A : mm_A9 b r h h2) (c : r = 1 ∨ h2.1 66 57 ≠ 0 ∨ mm_cY h2 ≠ 3) : mm_B9 b h h2 := by
  obtain ⟨t0, a0, o0, k0, f0, z0⟩ := A
  refine ⟨t0, a0, o0, k0, f0, fun q => ⟨r, mm_St_tr (z0 q) (mm_St_1 ?_)⟩⟩
  rw [← mm_fY_eq t0]
  refine mm_sp_4 ?_
  unfold mm_cY at c
  rcases c with c | c | c
  · exact Or.inl c
  · exact absurd q c
  · exact Or.inr c
theorem mm_C9_B {b : Int} {h h1 h2 : mH} (B : mm_B9 b h h1) (g : h1.1 66 57 ≠ 0) (e : h2 = h1) : mm_C9 b h h2 := by
  subst e
  obtain ⟨t0, a0, o0, k0, f0, z0⟩ := B
  exact ⟨t0, a0, o0, f0, fun q => absurd q g⟩
theorem mm_C9_sc {b : Int} {h h1 h2 : mH} (B : mm_B9 b h h1) (g : h1.1 66 57 = 0) (c : mm_cY h1 = 159) (s : mm_st9 h1 h2) (bd : mm_bd h1 h2) (e : ∀ j, h2.2.1 102 j = h1.2.1 102 j) (e3 : h2.2.1 103 b = h1.2.1 103 b) : mm_C9 b h h2 := by
  obtain ⟨t0, a0, o0, k0, f0, z0⟩ := B
  obtain ⟨r, z⟩ := z0 g
  refine ⟨mm_TYy_tr t0 s.1, s.2.1, mm_ot_tr o0 (mm_ot_rf e), fun q => absurd (bd.1.trans g) q, fun _ => ⟨e3.trans k0, mm_St_tr z (mm_St_1 ?_)⟩⟩
  rw [← mm_fY_eq t0, s.2.2, mm_PY_eq e]
  exact mm_sp_13.trans (if_pos c)
theorem mm_C9_ns {b : Int} {h h1 h2 : mH} (B : mm_B9 b h h1) (g : h1.1 66 57 = 0) (c : mm_cY h1 ≠ 159) (e : mm_eY h1 h2) (e102 : ∀ j, h2.2.1 102 j = h1.2.1 102 j) (e7 : h2.1 66 57 = 1) (e8 : h2.1 66 58 = h1.1 66 62) : mm_C9 b h h2 := by
  obtain ⟨t0, a0, o0, k0, f0, z0⟩ := B
  obtain ⟨r, z⟩ := z0 g
  refine ⟨mm_TYy_tr t0 e.1, mm_eY_a e a0, mm_ot_tr o0 (mm_ot_rf e102), fun _ => mm_St_tr z (mm_St_1 ?_), fun q => absurd (e7.symm.trans q) (by decide)⟩
  rw [← mm_fY_eq t0, e7, e8]
  exact mm_sp_13.trans (if_neg c)
/-! the whole text -/
def mm_R9 (T : Int → Int) (n b : Int) (h0 h : mH) : Prop := mm_aY h ∧ ((∀ j, h.2.1 101 j = T j) ∧ h.1 66 59 = n) ∧ mm_ot b h0 h ∧ (h.1 66 57 = 0 → h.1 66 58 = -1 ∧ mm_St (mm_fT T n) (mm_A0 T n) ⟨10, [], h.1 66 62, 0, h.2.1 103 b, 0, mm_PY b h⟩) ∧ (h.1 66 57 ≠ 0 → mm_RDf T n (h.1 66 58) (h.1 66 57))
theorem mm_fY_T {T : Int → Int} {n : Int} {h : mH} (t : (∀ j, h.2.1 101 j = T j) ∧ h.1 66 59 = n) : mm_fY h = mm_fT T n ∧ mm_UY h = mm_tr T n := by
  obtain ⟨t1, t2⟩ := t
  subst t2
  have e : h.2.1 101 = T := funext t1
  subst e
  exact ⟨rfl, rfl⟩
theorem mm_R9_0 {T : Int → Int} {n b : Int} {h0 h : mH} (a : mm_aY h) (t : (∀ j, h.2.1 101 j = T j) ∧ h.1 66 59 = n) (o : mm_ot b h0 h) (e7 : h.1 66 57 = 0) (e8 : h.1 66 58 = -1) (e : h.1 66 62 = mm_skp (mm_tr T n) n 0) (c : h.2.1 103 b = 0) (p0 : h.2.1 102 (3 * b) = 3600) (p1 : h.2.1 102 (3 * b + 1) = 60) (p2 : h.2.1 102 (3 * b + 2) = 900) : mm_R9 T n b h0 h := by
  refine ⟨a, t, o, fun _ => ⟨e8, ?_⟩, fun q => absurd e7 q⟩
  have hP : mm_PY b h = mm_P0 := funext fun x => by
    unfold mm_PY mm_P0
    by_cases q0 : x = 0
    · rw [q0, Int.add_zero, p0]; rfl
    · by_cases q1 : x = 1
      · rw [q1, p1]; rfl
      · by_cases q2 : x = 2
        · rw [q2, p2]; rfl
        · rw [if_neg (by omega), if_neg q0, if_neg q1, if_neg q2]
  rw [e, hP, c]
  exact mm_St_rf
theorem mm_R9_s {T : Int → Int} {n b : Int} {h0 h h2 : mH} (R : mm_R9 T n b h0 h) (g : h.1 66 57 = 0) (C : mm_C9 b h h2) (e8 : h2.1 66 57 = 0 → h2.1 66 58 = h.1 66 58) : mm_R9 T n b h0 h2 := by
  obtain ⟨a, t, o, r1, r2⟩ := R
  obtain ⟨ct, ca, co, c1, c2⟩ := C
  obtain ⟨q8, z⟩ := r1 g
  have t2 : (∀ j, h2.2.1 101 j = T j) ∧ h2.1 66 59 = n := ⟨fun j => (ct.1 j).trans (t.1 j), ct.2.trans t.2⟩
  rw [(mm_fY_T t).1] at c1 c2
  refine ⟨ca, t2, mm_ot_tr o co, fun q => ?_, fun q => mm_St_tr z (c1 q)⟩
  obtain ⟨k1, k2⟩ := c2 q
  exact ⟨(e8 q).trans q8, by rw [k1]; exact mm_St_tr z k2⟩
theorem mm_R9_end {T : Int → Int} {n b : Int} {h0 h : mH} (R : mm_R9 T n b h0 h) (g : h.1 66 57 = 0) (c : mm_cY h = 21) : mm_RDo T n (mm_PY b h) := by
  obtain ⟨a, t, o, r1, r2⟩ := R
  obtain ⟨q8, z⟩ := r1 g
  refine ⟨h.1 66 62, h.2.1 103 b, mm_St_tr z (mm_St_1 ?_)⟩
  rw [← (mm_fY_T t).1]
  exact mm_sp_10.trans (if_pos c)
/-- the params that count -/
def mm_pr (h : mH) (w : Int) : Int := if h.1 66 67 = 0 then mm_P0 w else h.2.1 102 (3 * h.1 66 68 + w)
theorem mm_pr_new {h : mH} {w : Int} (e : h.1 66 67 = 1) (w0 : 0 ≤ w ∧ w ≤ 2) : mm_pr h w = mm_PY (h.1 66 68) h w := by
  unfold mm_pr mm_PY
  rw [if_neg (by omega), if_pos w0]
theorem mm_pr_old {b w : Int} {h h2 : mH} (o : mm_ot b h h2) (e7 : h2.1 66 67 = h.1 66 67) (e8 : h2.1 66 68 = h.1 66 68) (hb : h.1 66 67 = 0 ∨ b = 1 - h.1 66 68) (w0 : 0 ≤ w ∧ w ≤ 2) : mm_pr h2 w = mm_pr h w := by
  unfold mm_pr
  rw [e7, e8]
  by_cases q : h.1 66 67 = 0
  · rw [if_pos q, if_pos q]
  · rw [if_neg q, if_neg q]
    exact o _ (by have := hb.resolve_left q; omega)
theorem mm_pr_sm {w : Int} {h h2 : mH} (o : ∀ j, h2.2.1 102 j = h.2.1 102 j) (e7 : h2.1 66 67 = h.1 66 67) (e8 : h2.1 66 68 = h.1 66 68) : mm_pr h2 w = mm_pr h w := by
  unfold mm_pr
  rw [e7, e8, o]
/-! ===== the reference's tokens ===== -/
theorem mm_cde_lt {d : Nat → Int} : ∀ l : Nat, (∀ i, i < l → 97 ≤ d i ∧ d i ≤ 122) → mm_cde d l + 1 ≤ 32 ^ l
  | 0, _ => by show (0 : Int) + 1 ≤ 32 ^ 0; decide
  | l + 1, h => by
    have z := mm_cde_lt l (fun i hi => h i (by omega))
    have y := h l (by omega)
    show 32 * mm_cde d l + (d l - 96) + 1 ≤ 32 ^ (l + 1)
    rw [Int.pow_succ]
    omega
theorem mm_cde_l8 {d : Nat → Int} {l : Nat} (hl : l ≤ 8) (h : ∀ i, i < l → 97 ≤ d i ∧ d i ≤ 122) : 0 ≤ mm_cde d l ∧ mm_cde d l < 1125899906842624 := by
  have a := (mm_cde_rg l h).1
  have b := mm_cde_lt l h
  refine ⟨a, ?_⟩
  have c : (32 : Int) ^ l ≤ 1125899906842624 := by
    rcases (by omega : l = 0 ∨ l = 1 ∨ l = 2 ∨ l = 3 ∨ l = 4 ∨ l = 5 ∨ l = 6 ∨ l = 7 ∨ l = 8) with q | q | q | q | q | q | q | q | q <;> subst q <;> decide
  omega
theorem mm_cde_s {U : Int → Int} {a p w z : Int} (h : a ≤ p) (e : w = mm_cde (fun i => U (a + i)) (p - a).toNat) (ez : z = 32 * w + (U p - 96)) : z = mm_cde (fun i => U (a + i)) (p + 1 - a).toNat := by
  rw [show (p + 1 - a).toNat = (p - a).toNat + 1 by omega]
  show z = 32 * mm_cde (fun i => U (a + i)) (p - a).toNat + (U (a + ((p - a).toNat : Int)) - 96)
  rw [← e, show a + ((p - a).toNat : Int) = p by omega]
  exact ez
theorem mm_cde_b {U : Int → Int} {a p w : Int} (h : a ≤ p) (l : p - a ≤ 8) (H : ∀ j, a ≤ j → j < p → mm_kd (U j) = 2) (e : w = mm_cde (fun i => U (a + i)) (p - a).toNat) : 0 ≤ w ∧ w < 1125899906842624 := by
  rw [e]
  refine mm_cde_l8 (by omega) (fun i hi => ?_)
  have z := H (a + i) (by omega) (by omega)
  have y := mm_kd_f (U (a + i))
  omega
theorem mm_ndig {v b : Int} (hv : 0 ≤ v ∧ v ≤ 9999) (hb : 48 ≤ b ∧ b ≤ 57) : mm_w (mm_w (mm_w (10 * v) + b) - 48) = v * 10 + b - 48 := by
  rw [mm_w_id (z := 10 * v) ⟨by omega, by omega⟩, mm_w_id (z := 10 * v + b) ⟨by omega, by omega⟩, mm_w_id ⟨by omega, by omega⟩]
  omega
def mm_aY0 (U : Int → Int) (n : Int) (h : mH) : Prop := mm_so (h.1 66 61) (mm_tkk U n (h.1 66 62)) ∧ h.1 66 60 = mm_te U n (h.1 66 62) ∧ (h.1 66 61 = 3 → h.1 66 65 = U (h.1 66 62)) ∧ (h.1 66 61 = 2 → h.1 66 60 - h.1 66 62 ≤ 5 → h.1 66 64 = mm_tv U n (h.1 66 62)) ∧ (h.1 66 61 = 1 → h.1 66 60 - h.1 66 62 ≤ 8 → h.1 66 66 = mm_cde (fun i => U (h.1 66 62 + i)) (h.1 66 60 - h.1 66 62).toNat)
theorem mm_aY_of {h h1 h2 : mH} (t : mm_TYy h h2) (A : mm_aY0 (mm_UY h) (h.1 66 59) h1) (e0 : h2.1 66 60 = h1.1 66 60) (e1 : h2.1 66 61 = h1.1 66 61) (e2 : h2.1 66 62 = h1.1 66 62) (e3 : h2.1 66 63 = h1.1 66 60 - h1.1 66 62) (e4 : h2.1 66 64 = h1.1 66 64) (e5 : h2.1 66 65 = h1.1 66 65) (e6 : h2.1 66 66 = h1.1 66 66) : mm_aY h2 := by
  obtain ⟨A1, A2, A3, A4, A5⟩ := A
  unfold mm_aY
  rw [mm_TYy_U t, t.2, e0, e1, e2, e3, e4, e5, e6]
  exact ⟨A1, A2, rfl, A3, A4, A5⟩
theorem mm_aY0_end {U : Int → Int} {n : Int} {h : mH} (a : n ≤ h.1 66 62) (k : h.1 66 61 = 0) (e : h.1 66 60 = h.1 66 62) : mm_aY0 U n h := by
  refine ⟨Or.inl ⟨k, if_neg (by omega)⟩, ?_, fun q => by omega, fun q => by omega, fun q => by omega⟩
  unfold mm_te
  rw [if_neg (by omega)]; exact e
theorem mm_aY0_let {U : Int → Int} {n : Int} {h : mH} (a : h.1 66 62 < n) (k : mm_kd (U (h.1 66 62)) = 2) (s : h.1 66 61 = 1) (r : mm_runw U n 2 (h.1 66 60) = mm_runw U n 2 (h.1 66 62 + 1)) (x : n ≤ h.1 66 60 ∨ mm_kd (U (h.1 66 60)) ≠ 2) (w : h.1 66 60 - h.1 66 62 ≤ 9 → h.1 66 66 = mm_cde (fun i => U (h.1 66 62 + i)) (h.1 66 60 - h.1 66 62).toNat) : mm_aY0 U n h :=
  ⟨Or.inr (Or.inl ⟨s, (if_pos a).trans k⟩), mm_te_1 a k.symm (Or.inl rfl) r x, fun q => by omega, fun q => by omega, fun _ q => w (by omega)⟩
theorem mm_aY0_dig {U : Int → Int} {n : Int} {h : mH} (a : h.1 66 62 < n) (k : mm_kd (U (h.1 66 62)) = 3) (s : h.1 66 61 = 2) (r : mm_runw U n 3 (h.1 66 60) = mm_runw U n 3 (h.1 66 62 + 1)) (x : n ≤ h.1 66 60 ∨ mm_kd (U (h.1 66 60)) ≠ 3) (w : h.1 66 60 - h.1 66 62 ≤ 5 → h.1 66 64 = mm_nv U (h.1 66 62) (h.1 66 60 - h.1 66 62).toNat) : mm_aY0 U n h := by
  have e := mm_te_1 a k.symm (Or.inr rfl) r x
  exact ⟨Or.inr (Or.inr (Or.inl ⟨s, (if_pos a).trans k⟩)), e, fun q => by omega, fun _ q => by unfold mm_tv; rw [← e]; exact w q, fun q => by omega⟩
theorem mm_aY0_sgn {U : Int → Int} {n : Int} {h : mH} (a : h.1 66 62 < n) (s : (h.1 66 61 = 3 ∧ mm_kd (U (h.1 66 62)) = 4) ∨ (h.1 66 61 = 4 ∧ mm_kd (U (h.1 66 62)) = 1)) (e : h.1 66 60 = h.1 66 62 + 1) (g : h.1 66 65 = U (h.1 66 62)) : mm_aY0 U n h := by
  refine ⟨?_, mm_te_0 a (by omega) (by omega) e, fun _ => g, fun q => by omega, fun q => by omega⟩
  rcases s with ⟨s1, s2⟩ | ⟨s1, s2⟩
  · exact Or.inr (Or.inr (Or.inr (Or.inl ⟨s1, (if_pos a).trans s2⟩)))
  · exact Or.inr (Or.inr (Or.inr (Or.inr ⟨s1, (if_pos a).trans s2⟩)))
/-! ===== where a track fails ===== -/
def mm_WX (h : mH) : Nat → Int × Int := mm_wk (mm_bx h) (mm_sx h) (h.2.1 62) (h.1 1 7)
def mm_WY (h : mH) : Nat → Int × Int := mm_wk (mm_by h) (mm_sy h) (h.2.1 101) (20 * h.1 66 10 + h.1 66 9)
def mm_fp (W : Nat → Int × Int) (n f : Int) : Prop := (f = -1 ∧ 0 ≤ (W n.toNat).1) ∨ (0 ≤ f ∧ f < n ∧ 0 ≤ (W f.toNat).1 ∧ (W (f + 1).toNat).1 < 0)
theorem mm_fp_un {nx sc : Int → Int → Int} {tp : Int → Int} {c0 n f g : Int} (X : mm_fp (mm_wk nx sc tp c0) n f) (Y : mm_fp (mm_wk nx sc tp c0) n g) : f = g := by
  have st : ∀ a b : Int, (mm_wk nx sc tp c0 a.toNat).1 < 0 → a ≤ b → (mm_wk nx sc tp c0 b.toNat).1 < 0 := fun a b q l => by
    rw [mm_wk_stay q (show a.toNat ≤ b.toNat by omega)]; exact q
  rcases X with ⟨x1, x2⟩ | ⟨x1, x2, x3, x4⟩
  · rcases Y with ⟨y1, y2⟩ | ⟨y1, y2, y3, y4⟩
    · omega
    · have := st _ n y4 (by omega); omega
  · rcases Y with ⟨y1, y2⟩ | ⟨y1, y2, y3, y4⟩
    · have := st _ n x4 (by omega); omega
    · by_cases q : f < g
      · have := st _ g x4 (by omega); omega
      · by_cases q2 : g < f
        · have := st _ f y4 (by omega); omega
        · omega
theorem mm_fp_cg {W W' : Nat → Int × Int} {n f : Int} (e : ∀ k : Nat, k ≤ n.toNat → W k = W' k) (X : mm_fp W n f) : mm_fp W' n f := by
  rcases X with ⟨x1, x2⟩ | ⟨x1, x2, x3, x4⟩
  · exact Or.inl ⟨x1, by rw [← e _ (Nat.le_refl _)]; exact x2⟩
  · exact Or.inr ⟨x1, x2, by rw [← e _ (by omega)]; exact x3, by rw [← e _ (by omega)]; exact x4⟩
theorem mm_wk_fn {nx sc : Int → Int → Int} {tp : Int → Int} {c0 i c s m : Int} (w : mm_wk nx sc tp c0 i.toNat = (c, s)) (h0 : 0 ≤ i) (hc : 0 ≤ c) (hm : mm_mv (tp i) = m) (m2 : m ≠ -2) (q : m = -1 ∨ (m ≠ -1 ∧ nx c m = -1)) : (mm_wk nx sc tp c0 (i + 1).toNat).1 < 0 := by
  rw [mm_wk_s h0, w, hm]
  unfold mm_wt
  rw [if_neg (show ¬ c < 0 by omega), if_neg m2]
  rcases q with q | ⟨q, q2⟩
  · rw [if_pos q]; show (-2 : Int) < 0; decide
  · rw [if_neg q, if_pos q2]; show (-3 : Int) < 0; decide
theorem mm_WX_fr {h h' : mH} (w5 : h'.1 1 5 = h.1 1 5) (w6 : h'.1 1 6 = h.1 1 6) (w7 : h'.1 1 7 = h.1 1 7) (e2 : ∀ j, h'.2.1 2 j = h.2.1 2 j) (e3 : ∀ j, h'.2.1 3 j = h.2.1 3 j) (e4 : ∀ j, h'.2.1 4 j = h.2.1 4 j) (e5 : ∀ j, h'.2.1 5 j = h.2.1 5 j) (e6 : ∀ j, h'.2.1 6 j = h.2.1 6 j) (e62 : ∀ j, h'.2.1 62 j = h.2.1 62 j) : mm_WX h' = mm_WX h := by
  have a : mm_bx h' = mm_bx h := by
    funext c m
    unfold mm_bx
    rw [mm_bes_fr w5 w6 e4 e5, e2, e6]
  have b : mm_sx h' = mm_sx h := by
    funext c m
    unfold mm_sx
    rw [e2, e6, e6, e3, e3]
  have c : h'.2.1 62 = h.2.1 62 := funext e62
  unfold mm_WX
  rw [a, b, c, w7]
theorem mm_WY_fr {h h' : mH} (w1 : h'.1 66 1 = h.1 66 1) (w2 : h'.1 66 2 = h.1 66 2) (w3 : h'.1 66 3 = h.1 66 3) (w4 : h'.1 66 9 = h.1 66 9) (w5 : h'.1 66 10 = h.1 66 10) (e2 : ∀ j, h'.2.1 67 j = h.2.1 67 j) (e3 : ∀ j, h'.2.1 68 j = h.2.1 68 j) (e6 : ∀ j, h'.2.1 69 j = h.2.1 69 j) (e4 : ∀ j, h'.2.1 70 j = h.2.1 70 j) (e5 : ∀ j, h'.2.1 71 j = h.2.1 71 j) (e62 : ∀ j, h'.2.1 101 j = h.2.1 101 j) : mm_WY h' = mm_WY h := by
  have a : mm_by h' = mm_by h := by
    funext c m
    unfold mm_by mm_bz mm_wl
    rw [w1, w2, e2, e6, e4, e4, e5, e5]
  have b : mm_sy h' = mm_sy h := by
    funext c m
    unfold mm_sy
    rw [e2, e6, w3, e3, e3]
  have c : h'.2.1 101 = h.2.1 101 := funext e62
  unfold mm_WY
  rw [a, b, c, w4, w5]
theorem mm_WXY {h : mH} {n : Int} (hn : n ≤ h.1 0 12) (hw : h.1 66 1 = h.1 1 5) (hh : h.1 66 2 = h.1 1 6) (w20 : h.1 1 5 ≤ 20) (h20 : h.1 1 6 ≤ 20) (s0 : 0 ≤ h.1 66 9) (s1 : 0 ≤ h.1 66 10) (E2 : mm_eq h 2 67 399) (E6 : mm_eq h 6 69 7) (E3 : mm_eq h 3 68 399) (E4 : mm_eq h 4 70 399) (E5 : mm_eq h 5 71 399) (ET : mm_eq h 62 101 (h.1 0 12 - 1)) (G : mm_go h) (b2 : ∀ j, 0 ≤ h.2.1 2 j ∧ h.2.1 2 j ≤ 7) (b6 : ∀ j, 0 ≤ h.2.1 6 j) (k : Nat) (hk : k ≤ n.toNat) : mm_WY h k = mm_WX h k := by
  unfold mm_WY mm_WX
  rw [← G.1]
  have inb : ∀ c, mm_inl h c → 0 ≤ c ∧ c ≤ 399 := fun c i => by
    obtain ⟨c0, c1, c2⟩ := i
    omega
  exact (mm_wk_eq (nx := mm_bx h) (sc := mm_sx h) (tp := h.2.1 62) (c0 := h.1 1 7) (nx' := mm_by h) (sc' := mm_sy h) (tp' := h.2.1 101) (n := k) (mm_inl h) (by
      have g := G
      unfold mm_go at g
      refine ⟨?_, ?_, ?_⟩ <;> omega)
    (fun c m i m0 m3 q => (mm_bxy i m0 m3 hw hh w20 h20 E2 E6 E4 E5 b2 b6).2 q)
    (fun c m i m0 m3 => (mm_bxy i m0 m3 hw hh w20 h20 E2 E6 E4 E5 b2 b6).1)
    (fun a b ia ib => by
      have x := inb a ia
      have y := inb b ib
      unfold mm_sy mm_sx
      rw [← E3 a x.1 x.2, ← E3 b y.1 y.2, ← E2 b y.1 y.2, ← E6 _ (b2 b).1 (b2 b).2, G.2.2.2])
    (fun j a b => (ET j a (by omega)).symm)).1
/-! ===== what rules told, on both sides ===== -/
def mm_RC (h h2 : mH) (n k f : Int) : Prop := (k = 0 ∧ f = -1 ∧ ∃ P, mm_RDo (h.2.1 62) n P ∧ ∀ w, 0 ≤ w → w ≤ 2 → h2.2.1 44 w = P w) ∨ (k ≠ 0 ∧ mm_RDf (h.2.1 62) n f k ∧ ∀ w, h2.2.1 44 w = h.2.1 44 w)
theorem mm_RC_pa {h hc : mH} {n r : Int} (y : mm_RC h hc n r (hc.1 0 14)) : mm_RC h (mm_pa hc 124 0 r) n ((mm_pa hc 124 0 r).2.1 124 0) ((mm_pa hc 124 0 r).1 0 14) := by
  rw [mm_pa_same]
  rcases y with ⟨a, b, P, c, d⟩ | ⟨a, b, c⟩
  · exact Or.inl ⟨a, b, P, c, fun w x y => (mm_pa_o 44 124 (by decide) w).trans (d w x y)⟩
  · exact Or.inr ⟨a, b, fun w => (mm_pa_o 44 124 (by decide) w).trans (c w)⟩
def mm_RE (h h2 : mH) (n r : Int) : Prop := (r = 0 ∧ h2.1 66 58 = -1 ∧ ∃ P, mm_RDo (h.2.1 101) n P ∧ ∀ w, 0 ≤ w → w ≤ 2 → mm_pr h2 w = P w) ∨ (r ≠ 0 ∧ mm_RDf (h.2.1 101) n (h2.1 66 58) r ∧ ∀ w, 0 ≤ w → w ≤ 2 → mm_pr h2 w = mm_pr h w)
theorem mm_rules_eq {h hc hy h2 : mH} {n k f r : Int} (e : ∀ j, 0 ≤ j → j < n → h.2.1 62 j = hy.2.1 101 j) (X : mm_RC h hc n k f) (Y : mm_RE hy h2 n r) : k = r ∧ f = h2.1 66 58 ∧ ((∀ w, 0 ≤ w → w ≤ 2 → hc.2.1 44 w = mm_pr h2 w) ∨ ((∀ w, hc.2.1 44 w = h.2.1 44 w) ∧ ∀ w, 0 ≤ w → w ≤ 2 → mm_pr h2 w = mm_pr hy w)) := by
  have c := mm_RD_cg e
  rcases X with ⟨x1, x2, P, x3, x4⟩ | ⟨x1, x2, x3⟩
  · rcases Y with ⟨y1, y2, Q, y3, y4⟩ | ⟨y1, y2, y3⟩
    · unfold mm_RDo at y3
      rw [← c.1, ← c.2] at y3
      have z := mm_RD_oo x3 y3
      exact ⟨x1.trans y1.symm, x2.trans y2.symm, Or.inl (fun w a b => by rw [x4 w a b, y4 w a b, z])⟩
    · unfold mm_RDf at y2
      rw [← c.1, ← c.2] at y2
      exact (mm_RD_of x3 y2).elim
  · rcases Y with ⟨y1, y2, Q, y3, y4⟩ | ⟨y1, y2, y3⟩
    · unfold mm_RDo at y3
      rw [← c.1, ← c.2] at y3
      exact (mm_RD_of y3 x2).elim
    · unfold mm_RDf at y2
      rw [← c.1, ← c.2] at y2
      have z := mm_RD_ff x2 y2
      exact ⟨z.2, z.1, Or.inr ⟨x3, y3⟩⟩
/-! ===== while the objects are made: the fields of the first ===== -/
def mm_kf (h h2 : mH) : Prop := ∀ k, h2.1 0 k = h.1 0 k
theorem mm_kf_rf {h : mH} : mm_kf h h := fun _ => rfl
theorem mm_kf_pf {h h1 : mH} {o k : Nat} {v : Int} (K : mm_kf h h1) (ho : o ≠ 0) : mm_kf h (mm_pf h1 o k v) := fun q => (mm_pf_ne _ _ (fun w => ho w.1.symm)).trans (K q)
theorem mm_kf_pa {h h1 : mH} {o : Nat} {i v : Int} (K : mm_kf h h1) : mm_kf h (mm_pa h1 o i v) := K
theorem mm_kf_nw {S : List (Nat × Nat)} {n : Nat} {h h1 : mH} (K : mm_kf h h1) (i : mm_inp S n h1) (hn : 0 ≠ n) : mm_kf h (mm_nw h1) := fun q => mm_fi_nw (K q) i hn
theorem mm_kf_fr {wf : List (Nat × Nat)} {wa : List Nat} {h h1 h2 : mH} (K : mm_kf h h1) (g : mm_fr wf wa h1 h2) (hw : wf.all (fun q => decide (q.1 ≠ 0)) = true) : mm_kf h h2 := fun q => by
  rw [g.1 0 q (fun w => absurd (of_decide_eq_true (List.all_eq_true.mp hw _ w)) (fun z => z rfl)), K q]

/-! ===== the params while the objects are made ===== -/
def mm_rk9 (h h2 : mH) : Prop := ∀ j, h2.2.1 44 j = h.2.1 44 j
def mm_r49 (h : mH) : Prop := h.2.1 44 0 = 3600 ∧ h.2.1 44 1 = 60 ∧ h.2.1 44 2 = 900

set_option maxRecDepth 100000 in
set_option maxHeartbeats 4000000 in
theorem c_J7_fill_53178_2_w (l : Launch) (hl : l.stackTraces = false) (d : Nat) (hd : 0 ≤ d) (h : mH) (i0 : mm_in0 h) (p1 : Int) (bp1 : 0 ≤ p1 ∧ p1 ≤ 7) : mm_Met l d yJ7_fill_53178 cJ7_fill_53178 4 none [mR 2, mI p1] h (mm_pv fun h2 => mm_in0 h2 ∧ mm_fr [] [2] h h2 ∧ mm_al h2 2 399 p1) mm_nx 0 0 := by
  refine mm_ofW (ls := [mR 2, mI p1, mU, mU]) hl (by decide) rfl (Nat.le_of_ble_eq_true rfl) ?_
  intro x hxl C T hnm htb
  subst hxl
  refine mm_rng (fun hr _ => ?_)
  have ap1 : -2147483648 ≤ p1 ∧ p1 < 2147483648 := mm_ok_at hr (i := 1) rfl
  have f0 : mm_fr [] [2] h h := mm_fr_rf
  refine mm_iconst C (mm_dec dk_J7_fill_53178 0 rfl) ⟨by decide, by decide⟩ ?_
  refine mm_istore_nL (ls2 := [mR 2, mI p1, mI 0, mU]) C (mm_dec dk_J7_fill_53178 1 rfl) (by decide) rfl ?_
  refine mm_aload_n C (mm_dec dk_J7_fill_53178 2 rfl) rfl ?_
  refine mm_alenz (z := 400) C (mm_dec dk_J7_fill_53178 3 rfl) rfl (by decide) (by decide) rfl ?_
  have J5 : ∀ (n : Nat) (x5_2 : Int) (bx5_2 : 0 ≤ x5_2 ∧ x5_2 ≤ 400) (x5_3 : Int) (bx5_3 : 400 ≤ x5_3 ∧ x5_3 ≤ 400) (h5_ : mH) (i5_ : mm_in0 h5_) (f5_ : mm_fr [] [2] h h5_) (w5_0 : mm_al h5_ 2 (x5_2 - 1) p1), (400 - x5_2 : Int) < n → mm_W x 0 0 5 [mR 2, mI p1, mI x5_2, mI x5_3] [] h5_ := by
    intro n
    induction n with
    | zero =>
      intro x5_2 bx5_2 x5_3 bx5_3 h5_ i5_ f5_ w5_0 hm
      exfalso; omega
    | succ n ih5 =>
      intro x5_2 bx5_2 x5_3 bx5_3 h5_ i5_ f5_ w5_0 hm5
      refine mm_iload_n C (mm_dec dk_J7_fill_53178 5 rfl) rfl ?_
      refine mm_iload_n C (mm_dec dk_J7_fill_53178 6 rfl) rfl ?_
      refine mm_icmp_ge (tgt := 20) C (mm_dec dk_J7_fill_53178 7 rfl) (by decide) (fun c7 => ?_) (fun c7 => ?_)
      · skip
        exact mm_vret C T (mm_dec dk_J7_fill_53178 14 rfl) (by decide : 0 ≤ 0) (by decide : 0 ≤ 0) ⟨rfl, ⟨i5_, f5_, by exact mm_al_le w5_0 (by omega)⟩⟩
      · skip
        refine mm_aload_n C (mm_dec dk_J7_fill_53178 8 rfl) rfl ?_
        refine mm_iload_n C (mm_dec dk_J7_fill_53178 9 rfl) rfl ?_
        refine mm_iload_n C (mm_dec dk_J7_fill_53178 10 rfl) rfl ?_
        refine mm_iast C (mm_dec dk_J7_fill_53178 11 rfl) rfl (by omega) (by omega) ?_
        have i1 : mm_in0 (mm_pa h5_ 2 x5_2 p1) := mm_inp_pa i5_ (show 0 ≤ p1 ∧ p1 ≤ 7 from ⟨by omega, by omega⟩)
        have f1 : mm_fr [] [2] h (mm_pa h5_ 2 x5_2 p1) := mm_fr_pa f5_ (by decide)
        obtain ⟨h1, eh1⟩ : ∃ z, z = mm_pa h5_ 2 x5_2 p1 := ⟨_, rfl⟩
        rw [← eh1] at i1 f1 ⊢
        refine mm_iincL (ls2 := [mR 2, mI p1, mI (x5_2 + 1), mI x5_3]) C (mm_dec dk_J7_fill_53178 12 rfl) rfl (by decide) ⟨by omega, by omega⟩ rfl ?_
        refine mm_goto (tgt := 5) C (mm_dec dk_J7_fill_53178 13 rfl) (by decide) ?_
        exact ih5 (x5_2 + 1) ⟨by omega, by omega⟩ x5_3 ⟨by omega, by omega⟩ h1 i1 f1 (by first | exact mm_al_nil (by omega) | (rw [show x5_2 + 1 - 1 = x5_2 by omega]; exact mm_al_put w5_0 eh1)) (by omega)
  refine mm_istore_nL (ls2 := [mR 2, mI p1, mI 0, mI 400]) C (mm_dec dk_J7_fill_53178 4 rfl) (by decide) rfl ?_
  exact J5 (((400 - 0) : Int) + 1).toNat 0 ⟨by omega, by omega⟩ 400 ⟨by omega, by omega⟩ h i0 f0 (by first | exact mm_al_nil (by omega) | (rw [show x5_2 + 1 - 1 = x5_2 by omega]; exact mm_al_put w5_0 eh)) (by omega)
set_option maxRecDepth 100000 in
set_option maxHeartbeats 4000000 in
theorem c_J7_fill_53178_6_w (l : Launch) (hl : l.stackTraces = false) (d : Nat) (hd : 0 ≤ d) (h : mH) (i0 : mm_in0 h) (p1 : Int) (bp1 : 0 ≤ p1 ∧ p1 ≤ 99) : mm_Met l d yJ7_fill_53178 cJ7_fill_53178 4 none [mR 6, mI p1] h (mm_pv fun h2 => mm_in0 h2 ∧ mm_fr [] [6] h h2 ∧ mm_al h2 6 8 p1) mm_nx 0 0 := by
  refine mm_ofW (ls := [mR 6, mI p1, mU, mU]) hl (by decide) rfl (Nat.le_of_ble_eq_true rfl) ?_
  intro x hxl C T hnm htb
  subst hxl
  refine mm_rng (fun hr _ => ?_)
  have ap1 : -2147483648 ≤ p1 ∧ p1 < 2147483648 := mm_ok_at hr (i := 1) rfl
  have f0 : mm_fr [] [6] h h := mm_fr_rf
  refine mm_iconst C (mm_dec dk_J7_fill_53178 0 rfl) ⟨by decide, by decide⟩ ?_
  refine mm_istore_nL (ls2 := [mR 6, mI p1, mI 0, mU]) C (mm_dec dk_J7_fill_53178 1 rfl) (by decide) rfl ?_
  refine mm_aload_n C (mm_dec dk_J7_fill_53178 2 rfl) rfl ?_
  refine mm_alenz (z := 9) C (mm_dec dk_J7_fill_53178 3 rfl) rfl (by decide) (by decide) rfl ?_
  have J5 : ∀ (n : Nat) (x5_2 : Int) (bx5_2 : 0 ≤ x5_2 ∧ x5_2 ≤ 9) (x5_3 : Int) (bx5_3 : 9 ≤ x5_3 ∧ x5_3 ≤ 9) (h5_ : mH) (i5_ : mm_in0 h5_) (f5_ : mm_fr [] [6] h h5_) (w5_0 : mm_al h5_ 6 (x5_2 - 1) p1), (9 - x5_2 : Int) < n → mm_W x 0 0 5 [mR 6, mI p1, mI x5_2, mI x5_3] [] h5_ := by
    intro n
    induction n with
    | zero =>
      intro x5_2 bx5_2 x5_3 bx5_3 h5_ i5_ f5_ w5_0 hm
      exfalso; omega
    | succ n ih5 =>
      intro x5_2 bx5_2 x5_3 bx5_3 h5_ i5_ f5_ w5_0 hm5
      refine mm_iload_n C (mm_dec dk_J7_fill_53178 5 rfl) rfl ?_
      refine mm_iload_n C (mm_dec dk_J7_fill_53178 6 rfl) rfl ?_
      refine mm_icmp_ge (tgt := 20) C (mm_dec dk_J7_fill_53178 7 rfl) (by decide) (fun c7 => ?_) (fun c7 => ?_)
      · skip
        exact mm_vret C T (mm_dec dk_J7_fill_53178 14 rfl) (by decide : 0 ≤ 0) (by decide : 0 ≤ 0) ⟨rfl, ⟨i5_, f5_, by exact mm_al_le w5_0 (by omega)⟩⟩
      · skip
        refine mm_aload_n C (mm_dec dk_J7_fill_53178 8 rfl) rfl ?_
        refine mm_iload_n C (mm_dec dk_J7_fill_53178 9 rfl) rfl ?_
        refine mm_iload_n C (mm_dec dk_J7_fill_53178 10 rfl) rfl ?_
        refine mm_iast C (mm_dec dk_J7_fill_53178 11 rfl) rfl (by omega) (by omega) ?_
        have i1 : mm_in0 (mm_pa h5_ 6 x5_2 p1) := mm_inp_pa i5_ (show 0 ≤ p1 ∧ p1 ≤ 99 from ⟨by omega, by omega⟩)
        have f1 : mm_fr [] [6] h (mm_pa h5_ 6 x5_2 p1) := mm_fr_pa f5_ (by decide)
        obtain ⟨h1, eh1⟩ : ∃ z, z = mm_pa h5_ 6 x5_2 p1 := ⟨_, rfl⟩
        rw [← eh1] at i1 f1 ⊢
        refine mm_iincL (ls2 := [mR 6, mI p1, mI (x5_2 + 1), mI x5_3]) C (mm_dec dk_J7_fill_53178 12 rfl) rfl (by decide) ⟨by omega, by omega⟩ rfl ?_
        refine mm_goto (tgt := 5) C (mm_dec dk_J7_fill_53178 13 rfl) (by decide) ?_
        exact ih5 (x5_2 + 1) ⟨by omega, by omega⟩ x5_3 ⟨by omega, by omega⟩ h1 i1 f1 (by first | exact mm_al_nil (by omega) | (rw [show x5_2 + 1 - 1 = x5_2 by omega]; exact mm_al_put w5_0 eh1)) (by omega)
  refine mm_istore_nL (ls2 := [mR 6, mI p1, mI 0, mI 9]) C (mm_dec dk_J7_fill_53178 4 rfl) (by decide) rfl ?_
  exact J5 (((9 - 0) : Int) + 1).toNat 0 ⟨by omega, by omega⟩ 9 ⟨by omega, by omega⟩ h i0 f0 (by first | exact mm_al_nil (by omega) | (rw [show x5_2 + 1 - 1 = x5_2 by omega]; exact mm_al_put w5_0 eh)) (by omega)
set_option maxRecDepth 100000 in
set_option maxHeartbeats 4000000 in
theorem c_J7_fill_53178_3_w (l : Launch) (hl : l.stackTraces = false) (d : Nat) (hd : 0 ≤ d) (h : mH) (i0 : mm_in0 h) (p1 : Int) (bp1 : 0 ≤ p1 ∧ p1 ≤ 99) : mm_Met l d yJ7_fill_53178 cJ7_fill_53178 4 none [mR 3, mI p1] h (mm_pv fun h2 => mm_in0 h2 ∧ mm_fr [] [3] h h2 ∧ mm_al h2 3 399 p1) mm_nx 0 0 := by
  refine mm_ofW (ls := [mR 3, mI p1, mU, mU]) hl (by decide) rfl (Nat.le_of_ble_eq_true rfl) ?_
  intro x hxl C T hnm htb
  subst hxl
  refine mm_rng (fun hr _ => ?_)
  have ap1 : -2147483648 ≤ p1 ∧ p1 < 2147483648 := mm_ok_at hr (i := 1) rfl
  have f0 : mm_fr [] [3] h h := mm_fr_rf
  refine mm_iconst C (mm_dec dk_J7_fill_53178 0 rfl) ⟨by decide, by decide⟩ ?_
  refine mm_istore_nL (ls2 := [mR 3, mI p1, mI 0, mU]) C (mm_dec dk_J7_fill_53178 1 rfl) (by decide) rfl ?_
  refine mm_aload_n C (mm_dec dk_J7_fill_53178 2 rfl) rfl ?_
  refine mm_alenz (z := 400) C (mm_dec dk_J7_fill_53178 3 rfl) rfl (by decide) (by decide) rfl ?_
  have J5 : ∀ (n : Nat) (x5_2 : Int) (bx5_2 : 0 ≤ x5_2 ∧ x5_2 ≤ 400) (x5_3 : Int) (bx5_3 : 400 ≤ x5_3 ∧ x5_3 ≤ 400) (h5_ : mH) (i5_ : mm_in0 h5_) (f5_ : mm_fr [] [3] h h5_) (w5_0 : mm_al h5_ 3 (x5_2 - 1) p1), (400 - x5_2 : Int) < n → mm_W x 0 0 5 [mR 3, mI p1, mI x5_2, mI x5_3] [] h5_ := by
    intro n
    induction n with
    | zero =>
      intro x5_2 bx5_2 x5_3 bx5_3 h5_ i5_ f5_ w5_0 hm
      exfalso; omega
    | succ n ih5 =>
      intro x5_2 bx5_2 x5_3 bx5_3 h5_ i5_ f5_ w5_0 hm5
      refine mm_iload_n C (mm_dec dk_J7_fill_53178 5 rfl) rfl ?_
      refine mm_iload_n C (mm_dec dk_J7_fill_53178 6 rfl) rfl ?_
      refine mm_icmp_ge (tgt := 20) C (mm_dec dk_J7_fill_53178 7 rfl) (by decide) (fun c7 => ?_) (fun c7 => ?_)
      · skip
        exact mm_vret C T (mm_dec dk_J7_fill_53178 14 rfl) (by decide : 0 ≤ 0) (by decide : 0 ≤ 0) ⟨rfl, ⟨i5_, f5_, by exact mm_al_le w5_0 (by omega)⟩⟩
      · skip
        refine mm_aload_n C (mm_dec dk_J7_fill_53178 8 rfl) rfl ?_
        refine mm_iload_n C (mm_dec dk_J7_fill_53178 9 rfl) rfl ?_
        refine mm_iload_n C (mm_dec dk_J7_fill_53178 10 rfl) rfl ?_
        refine mm_iast C (mm_dec dk_J7_fill_53178 11 rfl) rfl (by omega) (by omega) ?_
        have i1 : mm_in0 (mm_pa h5_ 3 x5_2 p1) := mm_inp_pa i5_ (show 0 ≤ p1 ∧ p1 ≤ 99 from ⟨by omega, by omega⟩)
        have f1 : mm_fr [] [3] h (mm_pa h5_ 3 x5_2 p1) := mm_fr_pa f5_ (by decide)
        obtain ⟨h1, eh1⟩ : ∃ z, z = mm_pa h5_ 3 x5_2 p1 := ⟨_, rfl⟩
        rw [← eh1] at i1 f1 ⊢
        refine mm_iincL (ls2 := [mR 3, mI p1, mI (x5_2 + 1), mI x5_3]) C (mm_dec dk_J7_fill_53178 12 rfl) rfl (by decide) ⟨by omega, by omega⟩ rfl ?_
        refine mm_goto (tgt := 5) C (mm_dec dk_J7_fill_53178 13 rfl) (by decide) ?_
        exact ih5 (x5_2 + 1) ⟨by omega, by omega⟩ x5_3 ⟨by omega, by omega⟩ h1 i1 f1 (by first | exact mm_al_nil (by omega) | (rw [show x5_2 + 1 - 1 = x5_2 by omega]; exact mm_al_put w5_0 eh1)) (by omega)
  refine mm_istore_nL (ls2 := [mR 3, mI p1, mI 0, mI 400]) C (mm_dec dk_J7_fill_53178 4 rfl) (by decide) rfl ?_
  exact J5 (((400 - 0) : Int) + 1).toNat 0 ⟨by omega, by omega⟩ 400 ⟨by omega, by omega⟩ h i0 f0 (by first | exact mm_al_nil (by omega) | (rw [show x5_2 + 1 - 1 = x5_2 by omega]; exact mm_al_put w5_0 eh)) (by omega)
set_option maxRecDepth 100000 in
set_option maxHeartbeats 4000000 in
theorem c_X5_renew_w (l : Launch) (hl : l.stackTraces = false) (d : Nat) (hd : 1 ≤ d) (h : mH) (i0 : mm_in0 h) (p1 : Int) (p2 : Int) (bp1 : 1 ≤ p1 ∧ p1 ≤ 1) (bp2 : 1 ≤ p2 ∧ p2 ≤ 1) : mm_Met l d yX5_renew cX5_renew 4 none [mR 1, mI p1, mI p2] h (mm_pv fun h2 => mm_in0 h2 ∧ mm_fr [(1, 5), (1, 6), (1, 7), (1, 8)] [2, 3, 4, 5, 6] h h2 ∧ h2.1 1 5 = p1 ∧ h2.1 1 6 = p2 ∧ mm_al h2 2 399 0 ∧ mm_al h2 6 7 5 ∧ mm_al h2 3 399 0 ∧ mm_al h2 4 399 0 ∧ mm_al h2 5 399 0 ∧ h2.2.1 6 8 = 2 ∧ h2.1 1 7 = 0) mm_nx 0 0 := by
  refine mm_ofW (ls := [mR 1, mI p1, mI p2, mU]) hl (by decide) rfl (Nat.le_of_ble_eq_true rfl) ?_
  intro x hxl C T hnm htb
  subst hxl
  have C1 := mm_OK_le (d' := d - 1 + 1) (by omega) C
  refine mm_rng (fun hr _ => ?_)
  have ap1 : -2147483648 ≤ p1 ∧ p1 < 2147483648 := mm_ok_at hr (i := 1) rfl
  have ap2 : -2147483648 ≤ p2 ∧ p2 < 2147483648 := mm_ok_at hr (i := 2) rfl
  have f0 : mm_fr [(1, 5), (1, 6), (1, 7), (1, 8)] [2, 3, 4, 5, 6] h h := mm_fr_rf
  have g1 : 1 ≤ h.1 1 5 ∧ h.1 1 5 ≤ 1 := i0.1 1 5
  have g2 : 1 ≤ h.1 1 6 ∧ h.1 1 6 ≤ 1 := i0.1 1 6
  have g3 : 0 ≤ h.1 1 7 ∧ h.1 1 7 ≤ 0 := i0.1 1 7
  refine mm_aload_n C (mm_dec dk_X5_renew 0 rfl) rfl ?_
  refine mm_iload_n C (mm_dec dk_X5_renew 1 rfl) rfl ?_
  refine mm_puti C fl_X5_28 (mm_dec dk_X5_renew 2 rfl) rfl rfl rfl (Or.inl ⟨rfl, rfl⟩) ?_
  have i1 : mm_in0 (mm_pf h 1 5 p1) := mm_inp_put i0 (show 1 ≤ p1 ∧ p1 ≤ 1 from ⟨by omega, by omega⟩) (by decide)
  have f1 : mm_fr [(1, 5), (1, 6), (1, 7), (1, 8)] [2, 3, 4, 5, 6] h (mm_pf h 1 5 p1) := mm_fr_pf f0 (by decide)
  obtain ⟨h1, eh1⟩ : ∃ z, z = mm_pf h 1 5 p1 := ⟨_, rfl⟩
  rw [← eh1] at i1 f1 ⊢
  have qh1 : h1.1 1 5 = p1 := by rw [eh1]; exact mm_pf_same _ _ _ _
  have qh1_4 : h1.1 1 6 = h.1 1 6 := by rw [eh1]; exact mm_pf_ne _ _ (by decide)
  have qh1_5 : h1.1 1 7 = h.1 1 7 := by rw [eh1]; exact mm_pf_ne _ _ (by decide)
  refine mm_aload_n C (mm_dec dk_X5_renew 3 rfl) rfl ?_
  refine mm_iload_n C (mm_dec dk_X5_renew 4 rfl) rfl ?_
  refine mm_puti C fl_X5_32 (mm_dec dk_X5_renew 5 rfl) rfl rfl rfl (Or.inl ⟨rfl, rfl⟩) ?_
  have i2 : mm_in0 (mm_pf h1 1 6 p2) := mm_inp_put i1 (show 1 ≤ p2 ∧ p2 ≤ 1 from ⟨by omega, by omega⟩) (by decide)
  have f2 : mm_fr [(1, 5), (1, 6), (1, 7), (1, 8)] [2, 3, 4, 5, 6] h (mm_pf h1 1 6 p2) := mm_fr_pf f1 (by decide)
  obtain ⟨h2, eh2⟩ : ∃ z, z = mm_pf h1 1 6 p2 := ⟨_, rfl⟩
  rw [← eh2] at i2 f2 ⊢
  have qh2 : h2.1 1 6 = p2 := by rw [eh2]; exact mm_pf_same _ _ _ _
  have qh2_6 : h2.1 1 5 = h1.1 1 5 := by rw [eh2]; exact mm_pf_ne _ _ (by decide)
  have qh2_7 : h2.1 1 7 = h1.1 1 7 := by rw [eh2]; exact mm_pf_ne _ _ (by decide)
  refine mm_aload_n C (mm_dec dk_X5_renew 6 rfl) rfl ?_
  refine mm_iconst C (mm_dec dk_X5_renew 7 rfl) ⟨by decide, by decide⟩ ?_
  refine mm_puti C fl_X5_35 (mm_dec dk_X5_renew 8 rfl) rfl rfl rfl (Or.inl ⟨rfl, rfl⟩) ?_
  have i3 : mm_in0 (mm_pf h2 1 7 0) := mm_inp_put i2 (show 0 ≤ 0 ∧ 0 ≤ 0 from ⟨by omega, by omega⟩) (by decide)
  have f3 : mm_fr [(1, 5), (1, 6), (1, 7), (1, 8)] [2, 3, 4, 5, 6] h (mm_pf h2 1 7 0) := mm_fr_pf f2 (by decide)
  obtain ⟨h3, eh3⟩ : ∃ z, z = mm_pf h2 1 7 0 := ⟨_, rfl⟩
  rw [← eh3] at i3 f3 ⊢
  have qh3 : h3.1 1 7 = 0 := by rw [eh3]; exact mm_pf_same _ _ _ _
  have qh3_8 : h3.1 1 5 = h2.1 1 5 := by rw [eh3]; exact mm_pf_ne _ _ (by decide)
  have qh3_9 : h3.1 1 6 = h2.1 1 6 := by rw [eh3]; exact mm_pf_ne _ _ (by decide)
  refine mm_aload_n C (mm_dec dk_X5_renew 9 rfl) rfl ?_
  refine mm_iconst C (mm_dec dk_X5_renew 10 rfl) ⟨by decide, by decide⟩ ?_
  refine mm_puti C fl_X5_38 (mm_dec dk_X5_renew 11 rfl) rfl rfl rfl (Or.inl ⟨rfl, rfl⟩) ?_
  have i4 : mm_in0 (mm_pf h3 1 8 0) := mm_inp_put i3 (show 0 ≤ 0 ∧ 0 ≤ 0 from ⟨by omega, by omega⟩) (by decide)
  have f4 : mm_fr [(1, 5), (1, 6), (1, 7), (1, 8)] [2, 3, 4, 5, 6] h (mm_pf h3 1 8 0) := mm_fr_pf f3 (by decide)
  obtain ⟨h4, eh4⟩ : ∃ z, z = mm_pf h3 1 8 0 := ⟨_, rfl⟩
  rw [← eh4] at i4 f4 ⊢
  have qh4 : h4.1 1 8 = 0 := by rw [eh4]; exact mm_pf_same _ _ _ _
  have qh4_10 : h4.1 1 5 = h3.1 1 5 := by rw [eh4]; exact mm_pf_ne _ _ (by decide)
  have qh4_11 : h4.1 1 6 = h3.1 1 6 := by rw [eh4]; exact mm_pf_ne _ _ (by decide)
  have qh4_12 : h4.1 1 7 = h3.1 1 7 := by rw [eh4]; exact mm_pf_ne _ _ (by decide)
  refine mm_aload_n C (mm_dec dk_X5_renew 12 rfl) rfl ?_
  refine mm_getr (t := 2) C fl_X5_9 (mm_dec dk_X5_renew 13 rfl) rfl rfl (mm_inp_ref i4 rfl) ?_
  refine mm_iconst C (mm_dec dk_X5_renew 14 rfl) ⟨by decide, by decide⟩ ?_
  refine mm_cSv (rest := []) C1 es_X5_41 (mm_dec dk_X5_renew 15 rfl) (c_J7_fill_53178_2_w x.2.1 hl (d - 1) (by omega) h4 i4 0 ⟨by omega, by omega⟩) rfl (Nat.le_of_ble_eq_true rfl) ⟨by decide, by decide⟩ rfl (fun h25c hp25 => ?_) (fun _ _ q => q.elim)
  obtain ⟨i25c, g25c, y25_0⟩ := hp25
  have f25c : mm_fr [(1, 5), (1, 6), (1, 7), (1, 8)] [2, 3, 4, 5, 6] h h25c := mm_fr_tr f4 g25c (by decide +kernel)
  have q25c_14 : h25c.1 1 5 = h4.1 1 5 := g25c.1 1 5 (by decide)
  have q25c_15 : h25c.1 1 6 = h4.1 1 6 := g25c.1 1 6 (by decide)
  have q25c_16 : h25c.1 1 7 = h4.1 1 7 := g25c.1 1 7 (by decide)
  have q25c_17 : h25c.1 1 8 = h4.1 1 8 := g25c.1 1 8 (by decide)
  refine mm_aload_n C (mm_dec dk_X5_renew 16 rfl) rfl ?_
  refine mm_getr (t := 3) C fl_X5_15 (mm_dec dk_X5_renew 17 rfl) rfl rfl (mm_inp_ref i25c rfl) ?_
  refine mm_iconst C (mm_dec dk_X5_renew 18 rfl) ⟨by decide, by decide⟩ ?_
  refine mm_cSv (rest := []) C1 es_X5_41 (mm_dec dk_X5_renew 19 rfl) (c_J7_fill_53178_3_w x.2.1 hl (d - 1) (by omega) h25c i25c 0 ⟨by omega, by omega⟩) rfl (Nat.le_of_ble_eq_true rfl) ⟨by decide, by decide⟩ rfl (fun h33c hp33 => ?_) (fun _ _ q => q.elim)
  obtain ⟨i33c, g33c, y33_0⟩ := hp33
  have f33c : mm_fr [(1, 5), (1, 6), (1, 7), (1, 8)] [2, 3, 4, 5, 6] h h33c := mm_fr_tr f25c g33c (by decide +kernel)
  have q33c_19 : h33c.1 1 5 = h25c.1 1 5 := g33c.1 1 5 (by decide)
  have q33c_20 : h33c.1 1 6 = h25c.1 1 6 := g33c.1 1 6 (by decide)
  have q33c_21 : h33c.1 1 7 = h25c.1 1 7 := g33c.1 1 7 (by decide)
  have q33c_22 : h33c.1 1 8 = h25c.1 1 8 := g33c.1 1 8 (by decide)
  refine mm_iconst C (mm_dec dk_X5_renew 20 rfl) ⟨by decide, by decide⟩ ?_
  have J38 : ∀ (n : Nat) (x38_3 : Int) (bx38_3 : 0 ≤ x38_3 ∧ x38_3 ≤ 400) (h38_ : mH) (i38_ : mm_in0 h38_) (f38_ : mm_fr [(1, 5), (1, 6), (1, 7), (1, 8)] [2, 3, 4, 5, 6] h h38_) (w38_0 : mm_al h38_ 2 399 0) (w38_1 : mm_al h38_ 3 399 0) (w38_2 : mm_al h38_ 4 (x38_3 - 1) 0) (w38_3 : mm_al h38_ 5 (x38_3 - 1) 0) (w38_4 : h38_.1 1 7 = 0) (w38_5 : h38_.1 1 5 = p1) (w38_6 : h38_.1 1 6 = p2), (400 - x38_3 : Int) < n → mm_W x 0 0 38 [mR 1, mU, mU, mI x38_3] [] h38_ := by
    intro n
    induction n with
    | zero =>
      intro x38_3 bx38_3 h38_ i38_ f38_ w38_0 w38_1 w38_2 w38_3 w38_4 w38_5 w38_6 hm
      have g23 : 1 ≤ h38_.1 1 5 ∧ h38_.1 1 5 ≤ 1 := i38_.1 1 5
      have g24 : 1 ≤ h38_.1 1 6 ∧ h38_.1 1 6 ≤ 1 := i38_.1 1 6
      have g25 : 0 ≤ h38_.1 1 7 ∧ h38_.1 1 7 ≤ 0 := i38_.1 1 7
      exfalso; omega
    | succ n ih38 =>
      intro x38_3 bx38_3 h38_ i38_ f38_ w38_0 w38_1 w38_2 w38_3 w38_4 w38_5 w38_6 hm38
      have g26 : 1 ≤ h38_.1 1 5 ∧ h38_.1 1 5 ≤ 1 := i38_.1 1 5
      have g27 : 1 ≤ h38_.1 1 6 ∧ h38_.1 1 6 ≤ 1 := i38_.1 1 6
      have g28 : 0 ≤ h38_.1 1 7 ∧ h38_.1 1 7 ≤ 0 := i38_.1 1 7
      refine mm_iload_n C (mm_dec dk_X5_renew 22 rfl) rfl ?_
      refine mm_sipush C (mm_dec dk_X5_renew 23 rfl) ⟨by decide, by decide⟩ ?_
      refine mm_icmp_ge (tgt := 65) C (mm_dec dk_X5_renew 24 rfl) (by decide) (fun c42 => ?_) (fun c42 => ?_)
      · skip
        refine mm_aload_n C (mm_dec dk_X5_renew 37 rfl) rfl ?_
        refine mm_getr (t := 6) C fl_X5_25 (mm_dec dk_X5_renew 38 rfl) rfl rfl (mm_inp_ref i38_ rfl) ?_
        refine mm_iconst C (mm_dec dk_X5_renew 39 rfl) ⟨by decide, by decide⟩ ?_
        refine mm_cSv (rest := []) C1 es_X5_41 (mm_dec dk_X5_renew 40 rfl) (c_J7_fill_53178_6_w x.2.1 hl (d - 1) (by omega) h38_ i38_ 5 ⟨by omega, by omega⟩) rfl (Nat.le_of_ble_eq_true rfl) ⟨by decide, by decide⟩ rfl (fun h70c hp70 => ?_) (fun _ _ q => q.elim)
        obtain ⟨i70c, g70c, y70_0⟩ := hp70
        have f70c : mm_fr [(1, 5), (1, 6), (1, 7), (1, 8)] [2, 3, 4, 5, 6] h h70c := mm_fr_tr f38_ g70c (by decide +kernel)
        have q70c_30 : h70c.1 1 5 = h38_.1 1 5 := g70c.1 1 5 (by decide)
        have q70c_31 : h70c.1 1 6 = h38_.1 1 6 := g70c.1 1 6 (by decide)
        have q70c_32 : h70c.1 1 7 = h38_.1 1 7 := g70c.1 1 7 (by decide)
        refine mm_aload_n C (mm_dec dk_X5_renew 41 rfl) rfl ?_
        refine mm_getr (t := 6) C fl_X5_25 (mm_dec dk_X5_renew 42 rfl) rfl rfl (mm_inp_ref i70c rfl) ?_
        refine mm_bipush C (mm_dec dk_X5_renew 43 rfl) ⟨by decide, by decide⟩ ?_
        refine mm_iconst C (mm_dec dk_X5_renew 44 rfl) ⟨by decide, by decide⟩ ?_
        refine mm_iast C (mm_dec dk_X5_renew 45 rfl) rfl (by omega) (by omega) ?_
        have i8 : mm_in0 (mm_pa h70c 6 8 2) := mm_inp_pa i70c (show 0 ≤ 2 ∧ 2 ≤ 99 from ⟨by omega, by omega⟩)
        have f8 : mm_fr [(1, 5), (1, 6), (1, 7), (1, 8)] [2, 3, 4, 5, 6] h (mm_pa h70c 6 8 2) := mm_fr_pa f70c (by decide)
        obtain ⟨h8, eh8⟩ : ∃ z, z = mm_pa h70c 6 8 2 := ⟨_, rfl⟩
        rw [← eh8] at i8 f8 ⊢
        have qh8_33 : h8.1 1 5 = h70c.1 1 5 := by rw [eh8]; rfl
        have qh8_34 : h8.1 1 6 = h70c.1 1 6 := by rw [eh8]; rfl
        have qh8_35 : h8.1 1 7 = h70c.1 1 7 := by rw [eh8]; rfl
        exact mm_vret C T (mm_dec dk_X5_renew 46 rfl) (by decide : 0 ≤ 0) (by decide : 0 ≤ 0) ⟨rfl, ⟨i8, f8, by omega, by omega, by exact mm_al_sm (mm_al_fr w38_0 g70c (by decide)) (fun _ => (mm_sm_pa 2 eh8 (by decide) _)), by exact mm_al_hi y70_0 eh8 (by decide) (by decide), by exact mm_al_sm (mm_al_fr w38_1 g70c (by decide)) (fun _ => (mm_sm_pa 3 eh8 (by decide) _)), by exact mm_al_sm (mm_al_fr (mm_al_le w38_2 (by omega)) g70c (by decide)) (fun _ => (mm_sm_pa 4 eh8 (by decide) _)), by exact mm_al_sm (mm_al_fr (mm_al_le w38_3 (by omega)) g70c (by decide)) (fun _ => (mm_sm_pa 5 eh8 (by decide) _)), by exact mm_pa_is eh8 rfl, by omega⟩⟩
      · skip
        refine mm_aload_n C (mm_dec dk_X5_renew 25 rfl) rfl ?_
        refine mm_getr (t := 4) C fl_X5_18 (mm_dec dk_X5_renew 26 rfl) rfl rfl (mm_inp_ref i38_ rfl) ?_
        refine mm_iload_n C (mm_dec dk_X5_renew 27 rfl) rfl ?_
        refine mm_iconst C (mm_dec dk_X5_renew 28 rfl) ⟨by decide, by decide⟩ ?_
        refine mm_zast C (mm_dec dk_X5_renew 29 rfl) rfl (by omega) (by omega) (by omega) ?_
        have i9 : mm_in0 (mm_pa h38_ 4 x38_3 0) := mm_inp_pa i38_ (show 0 ≤ 0 ∧ 0 ≤ 1 from ⟨by omega, by omega⟩)
        have f9 : mm_fr [(1, 5), (1, 6), (1, 7), (1, 8)] [2, 3, 4, 5, 6] h (mm_pa h38_ 4 x38_3 0) := mm_fr_pa f38_ (by decide)
        obtain ⟨h9, eh9⟩ : ∃ z, z = mm_pa h38_ 4 x38_3 0 := ⟨_, rfl⟩
        rw [← eh9] at i9 f9 ⊢
        have qh9_36 : h9.1 1 5 = h38_.1 1 5 := by rw [eh9]; rfl
        have qh9_37 : h9.1 1 6 = h38_.1 1 6 := by rw [eh9]; rfl
        have qh9_38 : h9.1 1 7 = h38_.1 1 7 := by rw [eh9]; rfl
        refine mm_aload_n C (mm_dec dk_X5_renew 30 rfl) rfl ?_
        refine mm_getr (t := 5) C fl_X5_22 (mm_dec dk_X5_renew 31 rfl) rfl rfl (mm_inp_ref i9 rfl) ?_
        refine mm_iload_n C (mm_dec dk_X5_renew 32 rfl) rfl ?_
        refine mm_iconst C (mm_dec dk_X5_renew 33 rfl) ⟨by decide, by decide⟩ ?_
        refine mm_zast C (mm_dec dk_X5_renew 34 rfl) rfl (by omega) (by omega) (by omega) ?_
        have i10 : mm_in0 (mm_pa h9 5 x38_3 0) := mm_inp_pa i9 (show 0 ≤ 0 ∧ 0 ≤ 1 from ⟨by omega, by omega⟩)
        have f10 : mm_fr [(1, 5), (1, 6), (1, 7), (1, 8)] [2, 3, 4, 5, 6] h (mm_pa h9 5 x38_3 0) := mm_fr_pa f9 (by decide)
        obtain ⟨h10, eh10⟩ : ∃ z, z = mm_pa h9 5 x38_3 0 := ⟨_, rfl⟩
        rw [← eh10] at i10 f10 ⊢
        have qh10_39 : h10.1 1 5 = h9.1 1 5 := by rw [eh10]; rfl
        have qh10_40 : h10.1 1 6 = h9.1 1 6 := by rw [eh10]; rfl
        have qh10_41 : h10.1 1 7 = h9.1 1 7 := by rw [eh10]; rfl
        refine mm_iincL (ls2 := [mR 1, mU, mU, mI (x38_3 + 1)]) C (mm_dec dk_X5_renew 35 rfl) rfl (by decide) ⟨by omega, by omega⟩ rfl ?_
        refine mm_goto (tgt := 38) C (mm_dec dk_X5_renew 36 rfl) (by decide) ?_
        exact ih38 (x38_3 + 1) ⟨by omega, by omega⟩ h10 i10 f10 (by first | exact mm_al_fr y25_0 g33c (by decide) | exact mm_al_sm w38_0 (fun _ => ((mm_sm_pa 2 eh10 (by decide) _).trans (mm_sm_pa 2 eh9 (by decide) _)))) (by first | exact y33_0 | exact mm_al_sm w38_1 (fun _ => ((mm_sm_pa 3 eh10 (by decide) _).trans (mm_sm_pa 3 eh9 (by decide) _)))) (by first | exact mm_al_nil (by omega) | (rw [show x38_3 + 1 - 1 = x38_3 by omega]; exact mm_al_sm (mm_al_put w38_2 eh9) (fun _ => (mm_sm_pa 4 eh10 (by decide) _)))) (by first | exact mm_al_nil (by omega) | (rw [show x38_3 + 1 - 1 = x38_3 by omega]; exact mm_al_put (mm_al_sm w38_3 (fun _ => (mm_sm_pa 5 eh9 (by decide) _))) eh10)) (by omega) (by omega) (by omega) (by omega)
  refine mm_istore_nL (ls2 := [mR 1, mI p1, mI p2, mI 0]) C (mm_dec dk_X5_renew 21 rfl) (by decide) rfl ?_
  refine mm_fgt 1 ?_
  refine mm_fgt 2 ?_
  exact J38 (((400 - 0) : Int) + 1).toNat 0 ⟨by omega, by omega⟩ h33c i33c f33c (by first | exact mm_al_fr y25_0 g33c (by decide) | exact mm_al_sm w38_0 (fun _ => ((mm_sm_pa 2 eh10 (by decide) _).trans (mm_sm_pa 2 eh9 (by decide) _)))) (by first | exact y33_0 | exact mm_al_sm w38_1 (fun _ => ((mm_sm_pa 3 eh10 (by decide) _).trans (mm_sm_pa 3 eh9 (by decide) _)))) (by first | exact mm_al_nil (by omega) | (rw [show x38_3 + 1 - 1 = x38_3 by omega]; exact mm_al_sm (mm_al_put w38_2 eh9) (fun _ => (mm_sm_pa 4 eh10 (by decide) _)))) (by first | exact mm_al_nil (by omega) | (rw [show x38_3 + 1 - 1 = x38_3 by omega]; exact mm_al_put (mm_al_sm w38_3 (fun _ => (mm_sm_pa 5 eh9 (by decide) _))) eh10)) (by omega) (by omega) (by omega) (by omega)
set_option maxRecDepth 100000 in
set_option maxHeartbeats 4000000 in
theorem c_X12_anew_w (l : Launch) (hl : l.stackTraces = false) (d : Nat) (hd : 0 ≤ d) (h : mH) (i0 : mm_in2 h) (p1 : Int) (p2 : Int) (bp1 : 1 ≤ p1 ∧ p1 ≤ 1) (bp2 : 1 ≤ p2 ∧ p2 ≤ 1) : mm_Met l d yX12_anew cX12_anew 4 none [mR 66, mI p1, mI p2] h (mm_pv fun h2 => mm_in2 h2 ∧ mm_fr [(66, 1), (66, 2), (66, 3), (66, 9), (66, 10), (66, 11), (66, 12), (66, 19), (66, 21), (66, 22), (66, 23), (66, 24), (66, 40), (66, 41), (66, 58), (66, 67), (66, 82), (66, 95)] [67, 68, 69, 70, 71] h h2 ∧ h2.1 66 1 = 1 ∧ h2.1 66 2 = 1 ∧ h2.1 66 67 = 0 ∧ h2.1 66 21 = 0 ∧ mm_al h2 67 399 0 ∧ mm_al h2 69 7 5 ∧ mm_al h2 68 399 0 ∧ mm_al h2 70 399 0 ∧ mm_al h2 71 399 0 ∧ h2.1 66 3 = 2 ∧ h2.1 66 9 = 0 ∧ h2.1 66 10 = 0 ∧ h2.1 66 58 = -1) mm_nx 0 0 := by
  refine mm_ofW (ls := [mR 66, mI p1, mI p2, mU]) hl (by decide) rfl (Nat.le_of_ble_eq_true rfl) ?_
  intro x hxl C T hnm htb
  subst hxl
  refine mm_rng (fun hr _ => ?_)
  have ap1 : -2147483648 ≤ p1 ∧ p1 < 2147483648 := mm_ok_at hr (i := 1) rfl
  have ap2 : -2147483648 ≤ p2 ∧ p2 < 2147483648 := mm_ok_at hr (i := 2) rfl
  have f0 : mm_fr [(66, 1), (66, 2), (66, 3), (66, 9), (66, 10), (66, 11), (66, 12), (66, 19), (66, 21), (66, 22), (66, 23), (66, 24), (66, 40), (66, 41), (66, 58), (66, 67), (66, 82), (66, 95)] [67, 68, 69, 70, 71] h h := mm_fr_rf
  have g1 : 0 ≤ h.1 66 1 ∧ h.1 66 1 ≤ 1 := i0.1 66 1
  have g2 : 0 ≤ h.1 66 2 ∧ h.1 66 2 ≤ 1 := i0.1 66 2
  have g3 : 0 ≤ h.1 66 67 ∧ h.1 66 67 ≤ 1 := i0.1 66 67
  have g4 : 0 ≤ h.1 66 3 ∧ h.1 66 3 ≤ 9 := i0.1 66 3
  have g5 : 0 ≤ h.1 66 9 ∧ h.1 66 9 ≤ 0 := i0.1 66 9
  have g6 : 0 ≤ h.1 66 10 ∧ h.1 66 10 ≤ 0 := i0.1 66 10
  have g7 : -2147483648 ≤ h.1 66 58 ∧ h.1 66 58 ≤ 2147483647 := i0.1 66 58
  refine mm_aload_n C (mm_dec dk_X12_anew 0 rfl) rfl ?_
  refine mm_iload_n C (mm_dec dk_X12_anew 1 rfl) rfl ?_
  refine mm_puti C fl_X12_192 (mm_dec dk_X12_anew 2 rfl) rfl rfl rfl (Or.inl ⟨rfl, rfl⟩) ?_
  have i1 : mm_in2 (mm_pf h 66 1 p1) := mm_inp_put i0 (show 0 ≤ p1 ∧ p1 ≤ 1 from ⟨by omega, by omega⟩) (by decide)
  have f1 : mm_fr [(66, 1), (66, 2), (66, 3), (66, 9), (66, 10), (66, 11), (66, 12), (66, 19), (66, 21), (66, 22), (66, 23), (66, 24), (66, 40), (66, 41), (66, 58), (66, 67), (66, 82), (66, 95)] [67, 68, 69, 70, 71] h (mm_pf h 66 1 p1) := mm_fr_pf f0 (by decide)
  obtain ⟨h1, eh1⟩ : ∃ z, z = mm_pf h 66 1 p1 := ⟨_, rfl⟩
  rw [← eh1] at i1 f1 ⊢
  have qh1 : h1.1 66 1 = p1 := by rw [eh1]; exact mm_pf_same _ _ _ _
  have qh1_8 : h1.1 66 2 = h.1 66 2 := by rw [eh1]; exact mm_pf_ne _ _ (by decide)
  have qh1_9 : h1.1 66 3 = h.1 66 3 := by rw [eh1]; exact mm_pf_ne _ _ (by decide)
  have qh1_10 : h1.1 66 9 = h.1 66 9 := by rw [eh1]; exact mm_pf_ne _ _ (by decide)
  have qh1_11 : h1.1 66 10 = h.1 66 10 := by rw [eh1]; exact mm_pf_ne _ _ (by decide)
  have qh1_12 : h1.1 66 58 = h.1 66 58 := by rw [eh1]; exact mm_pf_ne _ _ (by decide)
  have qh1_13 : h1.1 66 67 = h.1 66 67 := by rw [eh1]; exact mm_pf_ne _ _ (by decide)
  refine mm_aload_n C (mm_dec dk_X12_anew 3 rfl) rfl ?_
  refine mm_iload_n C (mm_dec dk_X12_anew 4 rfl) rfl ?_
  refine mm_puti C fl_X12_195 (mm_dec dk_X12_anew 5 rfl) rfl rfl rfl (Or.inl ⟨rfl, rfl⟩) ?_
  have i2 : mm_in2 (mm_pf h1 66 2 p2) := mm_inp_put i1 (show 0 ≤ p2 ∧ p2 ≤ 1 from ⟨by omega, by omega⟩) (by decide)
  have f2 : mm_fr [(66, 1), (66, 2), (66, 3), (66, 9), (66, 10), (66, 11), (66, 12), (66, 19), (66, 21), (66, 22), (66, 23), (66, 24), (66, 40), (66, 41), (66, 58), (66, 67), (66, 82), (66, 95)] [67, 68, 69, 70, 71] h (mm_pf h1 66 2 p2) := mm_fr_pf f1 (by decide)
  obtain ⟨h2, eh2⟩ : ∃ z, z = mm_pf h1 66 2 p2 := ⟨_, rfl⟩
  rw [← eh2] at i2 f2 ⊢
  have qh2 : h2.1 66 2 = p2 := by rw [eh2]; exact mm_pf_same _ _ _ _
  have qh2_14 : h2.1 66 1 = h1.1 66 1 := by rw [eh2]; exact mm_pf_ne _ _ (by decide)
  have qh2_15 : h2.1 66 3 = h1.1 66 3 := by rw [eh2]; exact mm_pf_ne _ _ (by decide)
  have qh2_16 : h2.1 66 9 = h1.1 66 9 := by rw [eh2]; exact mm_pf_ne _ _ (by decide)
  have qh2_17 : h2.1 66 10 = h1.1 66 10 := by rw [eh2]; exact mm_pf_ne _ _ (by decide)
  have qh2_18 : h2.1 66 58 = h1.1 66 58 := by rw [eh2]; exact mm_pf_ne _ _ (by decide)
  have qh2_19 : h2.1 66 67 = h1.1 66 67 := by rw [eh2]; exact mm_pf_ne _ _ (by decide)
  refine mm_aload_n C (mm_dec dk_X12_anew 6 rfl) rfl ?_
  refine mm_iconst C (mm_dec dk_X12_anew 7 rfl) ⟨by decide, by decide⟩ ?_
  refine mm_puti C fl_X12_198 (mm_dec dk_X12_anew 8 rfl) rfl rfl rfl (Or.inl ⟨rfl, rfl⟩) ?_
  have i3 : mm_in2 (mm_pf h2 66 3 2) := mm_inp_put i2 (show 0 ≤ 2 ∧ 2 ≤ 9 from ⟨by omega, by omega⟩) (by decide)
  have f3 : mm_fr [(66, 1), (66, 2), (66, 3), (66, 9), (66, 10), (66, 11), (66, 12), (66, 19), (66, 21), (66, 22), (66, 23), (66, 24), (66, 40), (66, 41), (66, 58), (66, 67), (66, 82), (66, 95)] [67, 68, 69, 70, 71] h (mm_pf h2 66 3 2) := mm_fr_pf f2 (by decide)
  obtain ⟨h3, eh3⟩ : ∃ z, z = mm_pf h2 66 3 2 := ⟨_, rfl⟩
  rw [← eh3] at i3 f3 ⊢
  have qh3 : h3.1 66 3 = 2 := by rw [eh3]; exact mm_pf_same _ _ _ _
  have qh3_20 : h3.1 66 1 = h2.1 66 1 := by rw [eh3]; exact mm_pf_ne _ _ (by decide)
  have qh3_21 : h3.1 66 2 = h2.1 66 2 := by rw [eh3]; exact mm_pf_ne _ _ (by decide)
  have qh3_22 : h3.1 66 9 = h2.1 66 9 := by rw [eh3]; exact mm_pf_ne _ _ (by decide)
  have qh3_23 : h3.1 66 10 = h2.1 66 10 := by rw [eh3]; exact mm_pf_ne _ _ (by decide)
  have qh3_24 : h3.1 66 58 = h2.1 66 58 := by rw [eh3]; exact mm_pf_ne _ _ (by decide)
  have qh3_25 : h3.1 66 67 = h2.1 66 67 := by rw [eh3]; exact mm_pf_ne _ _ (by decide)
  refine mm_iconst C (mm_dec dk_X12_anew 9 rfl) ⟨by decide, by decide⟩ ?_
  have J17 : ∀ (n : Nat) (x17_3 : Int) (bx17_3 : 0 ≤ x17_3 ∧ x17_3 ≤ 400) (h17_ : mH) (i17_ : mm_in2 h17_) (f17_ : mm_fr [(66, 1), (66, 2), (66, 3), (66, 9), (66, 10), (66, 11), (66, 12), (66, 19), (66, 21), (66, 22), (66, 23), (66, 24), (66, 40), (66, 41), (66, 58), (66, 67), (66, 82), (66, 95)] [67, 68, 69, 70, 71] h h17_) (w17_0 : mm_al h17_ 67 (x17_3 - 1) 0) (w17_1 : mm_al h17_ 68 (x17_3 - 1) 0) (w17_2 : mm_al h17_ 70 (x17_3 - 1) 0) (w17_3 : mm_al h17_ 71 (x17_3 - 1) 0) (w17_4 : h17_.1 66 3 = 2) (w17_5 : h17_.1 66 1 = 1) (w17_6 : h17_.1 66 2 = 1), (400 - x17_3 : Int) < n → mm_W x 0 0 17 [mR 66, mU, mU, mI x17_3] [] h17_ := by
    intro n
    induction n with
    | zero =>
      intro x17_3 bx17_3 h17_ i17_ f17_ w17_0 w17_1 w17_2 w17_3 w17_4 w17_5 w17_6 hm
      have g26 : 0 ≤ h17_.1 66 1 ∧ h17_.1 66 1 ≤ 1 := i17_.1 66 1
      have g27 : 0 ≤ h17_.1 66 2 ∧ h17_.1 66 2 ≤ 1 := i17_.1 66 2
      have g28 : 0 ≤ h17_.1 66 67 ∧ h17_.1 66 67 ≤ 1 := i17_.1 66 67
      have g29 : 0 ≤ h17_.1 66 3 ∧ h17_.1 66 3 ≤ 9 := i17_.1 66 3
      have g30 : 0 ≤ h17_.1 66 9 ∧ h17_.1 66 9 ≤ 0 := i17_.1 66 9
      have g31 : 0 ≤ h17_.1 66 10 ∧ h17_.1 66 10 ≤ 0 := i17_.1 66 10
      have g32 : -2147483648 ≤ h17_.1 66 58 ∧ h17_.1 66 58 ≤ 2147483647 := i17_.1 66 58
      exfalso; omega
    | succ n ih17 =>
      intro x17_3 bx17_3 h17_ i17_ f17_ w17_0 w17_1 w17_2 w17_3 w17_4 w17_5 w17_6 hm17
      have g33 : 0 ≤ h17_.1 66 1 ∧ h17_.1 66 1 ≤ 1 := i17_.1 66 1
      have g34 : 0 ≤ h17_.1 66 2 ∧ h17_.1 66 2 ≤ 1 := i17_.1 66 2
      have g35 : 0 ≤ h17_.1 66 67 ∧ h17_.1 66 67 ≤ 1 := i17_.1 66 67
      have g36 : 0 ≤ h17_.1 66 3 ∧ h17_.1 66 3 ≤ 9 := i17_.1 66 3
      have g37 : 0 ≤ h17_.1 66 9 ∧ h17_.1 66 9 ≤ 0 := i17_.1 66 9
      have g38 : 0 ≤ h17_.1 66 10 ∧ h17_.1 66 10 ≤ 0 := i17_.1 66 10
      have g39 : -2147483648 ≤ h17_.1 66 58 ∧ h17_.1 66 58 ≤ 2147483647 := i17_.1 66 58
      refine mm_iload_n C (mm_dec dk_X12_anew 11 rfl) rfl ?_
      refine mm_sipush C (mm_dec dk_X12_anew 12 rfl) ⟨by decide, by decide⟩ ?_
      refine mm_icmp_ge (tgt := 58) C (mm_dec dk_X12_anew 13 rfl) (by decide) (fun c21 => ?_) (fun c21 => ?_)
      · skip
        refine mm_iconst C (mm_dec dk_X12_anew 36 rfl) ⟨by decide, by decide⟩ ?_
        have J60 : ∀ (n : Nat) (x60_3 : Int) (bx60_3 : 0 ≤ x60_3 ∧ x60_3 ≤ 8) (h60_ : mH) (i60_ : mm_in2 h60_) (f60_ : mm_fr [(66, 1), (66, 2), (66, 3), (66, 9), (66, 10), (66, 11), (66, 12), (66, 19), (66, 21), (66, 22), (66, 23), (66, 24), (66, 40), (66, 41), (66, 58), (66, 67), (66, 82), (66, 95)] [67, 68, 69, 70, 71] h h60_) (w60_0 : mm_al h60_ 67 399 0) (w60_1 : mm_al h60_ 69 (x60_3 - 1) 5) (w60_2 : mm_al h60_ 68 399 0) (w60_3 : mm_al h60_ 70 399 0) (w60_4 : mm_al h60_ 71 399 0) (w60_5 : h60_.1 66 3 = 2) (w60_6 : h60_.1 66 1 = 1) (w60_7 : h60_.1 66 2 = 1), (8 - x60_3 : Int) < n → mm_W x 0 0 60 [mR 66, mU, mU, mI x60_3] [] h60_ := by
          intro n
          induction n with
          | zero =>
            intro x60_3 bx60_3 h60_ i60_ f60_ w60_0 w60_1 w60_2 w60_3 w60_4 w60_5 w60_6 w60_7 hm
            have g40 : 0 ≤ h60_.1 66 1 ∧ h60_.1 66 1 ≤ 1 := i60_.1 66 1
            have g41 : 0 ≤ h60_.1 66 2 ∧ h60_.1 66 2 ≤ 1 := i60_.1 66 2
            have g42 : 0 ≤ h60_.1 66 67 ∧ h60_.1 66 67 ≤ 1 := i60_.1 66 67
            have g43 : 0 ≤ h60_.1 66 3 ∧ h60_.1 66 3 ≤ 9 := i60_.1 66 3
            have g44 : 0 ≤ h60_.1 66 9 ∧ h60_.1 66 9 ≤ 0 := i60_.1 66 9
            have g45 : 0 ≤ h60_.1 66 10 ∧ h60_.1 66 10 ≤ 0 := i60_.1 66 10
            have g46 : -2147483648 ≤ h60_.1 66 58 ∧ h60_.1 66 58 ≤ 2147483647 := i60_.1 66 58
            exfalso; omega
          | succ n ih60 =>
            intro x60_3 bx60_3 h60_ i60_ f60_ w60_0 w60_1 w60_2 w60_3 w60_4 w60_5 w60_6 w60_7 hm60
            have g47 : 0 ≤ h60_.1 66 1 ∧ h60_.1 66 1 ≤ 1 := i60_.1 66 1
            have g48 : 0 ≤ h60_.1 66 2 ∧ h60_.1 66 2 ≤ 1 := i60_.1 66 2
            have g49 : 0 ≤ h60_.1 66 67 ∧ h60_.1 66 67 ≤ 1 := i60_.1 66 67
            have g50 : 0 ≤ h60_.1 66 3 ∧ h60_.1 66 3 ≤ 9 := i60_.1 66 3
            have g51 : 0 ≤ h60_.1 66 9 ∧ h60_.1 66 9 ≤ 0 := i60_.1 66 9
            have g52 : 0 ≤ h60_.1 66 10 ∧ h60_.1 66 10 ≤ 0 := i60_.1 66 10
            have g53 : -2147483648 ≤ h60_.1 66 58 ∧ h60_.1 66 58 ≤ 2147483647 := i60_.1 66 58
            refine mm_iload_n C (mm_dec dk_X12_anew 38 rfl) rfl ?_
            refine mm_bipush C (mm_dec dk_X12_anew 39 rfl) ⟨by decide, by decide⟩ ?_
            refine mm_icmp_ge (tgt := 79) C (mm_dec dk_X12_anew 40 rfl) (by decide) (fun c63 => ?_) (fun c63 => ?_)
            · skip
              refine mm_aload_n C (mm_dec dk_X12_anew 48 rfl) rfl ?_
              refine mm_iconst C (mm_dec dk_X12_anew 49 rfl) ⟨by decide, by decide⟩ ?_
              refine mm_puti C fl_X12_201 (mm_dec dk_X12_anew 50 rfl) rfl rfl rfl (Or.inl ⟨rfl, rfl⟩) ?_
              have i4 : mm_in2 (mm_pf h60_ 66 9 0) := mm_inp_put i60_ (show 0 ≤ 0 ∧ 0 ≤ 0 from ⟨by omega, by omega⟩) (by decide)
              have f4 : mm_fr [(66, 1), (66, 2), (66, 3), (66, 9), (66, 10), (66, 11), (66, 12), (66, 19), (66, 21), (66, 22), (66, 23), (66, 24), (66, 40), (66, 41), (66, 58), (66, 67), (66, 82), (66, 95)] [67, 68, 69, 70, 71] h (mm_pf h60_ 66 9 0) := mm_fr_pf f60_ (by decide)
              obtain ⟨h4, eh4⟩ : ∃ z, z = mm_pf h60_ 66 9 0 := ⟨_, rfl⟩
              rw [← eh4] at i4 f4 ⊢
              have qh4 : h4.1 66 9 = 0 := by rw [eh4]; exact mm_pf_same _ _ _ _
              have qh4_54 : h4.1 66 1 = h60_.1 66 1 := by rw [eh4]; exact mm_pf_ne _ _ (by decide)
              have qh4_55 : h4.1 66 2 = h60_.1 66 2 := by rw [eh4]; exact mm_pf_ne _ _ (by decide)
              have qh4_56 : h4.1 66 3 = h60_.1 66 3 := by rw [eh4]; exact mm_pf_ne _ _ (by decide)
              have qh4_57 : h4.1 66 10 = h60_.1 66 10 := by rw [eh4]; exact mm_pf_ne _ _ (by decide)
              have qh4_58 : h4.1 66 58 = h60_.1 66 58 := by rw [eh4]; exact mm_pf_ne _ _ (by decide)
              have qh4_59 : h4.1 66 67 = h60_.1 66 67 := by rw [eh4]; exact mm_pf_ne _ _ (by decide)
              refine mm_aload_n C (mm_dec dk_X12_anew 51 rfl) rfl ?_
              refine mm_iconst C (mm_dec dk_X12_anew 52 rfl) ⟨by decide, by decide⟩ ?_
              refine mm_puti C fl_X12_204 (mm_dec dk_X12_anew 53 rfl) rfl rfl rfl (Or.inl ⟨rfl, rfl⟩) ?_
              have i5 : mm_in2 (mm_pf h4 66 10 0) := mm_inp_put i4 (show 0 ≤ 0 ∧ 0 ≤ 0 from ⟨by omega, by omega⟩) (by decide)
              have f5 : mm_fr [(66, 1), (66, 2), (66, 3), (66, 9), (66, 10), (66, 11), (66, 12), (66, 19), (66, 21), (66, 22), (66, 23), (66, 24), (66, 40), (66, 41), (66, 58), (66, 67), (66, 82), (66, 95)] [67, 68, 69, 70, 71] h (mm_pf h4 66 10 0) := mm_fr_pf f4 (by decide)
              obtain ⟨h5, eh5⟩ : ∃ z, z = mm_pf h4 66 10 0 := ⟨_, rfl⟩
              rw [← eh5] at i5 f5 ⊢
              have qh5 : h5.1 66 10 = 0 := by rw [eh5]; exact mm_pf_same _ _ _ _
              have qh5_60 : h5.1 66 1 = h4.1 66 1 := by rw [eh5]; exact mm_pf_ne _ _ (by decide)
              have qh5_61 : h5.1 66 2 = h4.1 66 2 := by rw [eh5]; exact mm_pf_ne _ _ (by decide)
              have qh5_62 : h5.1 66 3 = h4.1 66 3 := by rw [eh5]; exact mm_pf_ne _ _ (by decide)
              have qh5_63 : h5.1 66 9 = h4.1 66 9 := by rw [eh5]; exact mm_pf_ne _ _ (by decide)
              have qh5_64 : h5.1 66 58 = h4.1 66 58 := by rw [eh5]; exact mm_pf_ne _ _ (by decide)
              have qh5_65 : h5.1 66 67 = h4.1 66 67 := by rw [eh5]; exact mm_pf_ne _ _ (by decide)
              refine mm_aload_n C (mm_dec dk_X12_anew 54 rfl) rfl ?_
              refine mm_iconst C (mm_dec dk_X12_anew 55 rfl) ⟨by decide, by decide⟩ ?_
              refine mm_puti C fl_X12_207 (mm_dec dk_X12_anew 56 rfl) rfl rfl rfl (Or.inl ⟨rfl, rfl⟩) ?_
              have i6 : mm_in2 (mm_pf h5 66 11 0) := mm_inp_put i5 (show 0 ≤ 0 ∧ 0 ≤ 0 from ⟨by omega, by omega⟩) (by decide)
              have f6 : mm_fr [(66, 1), (66, 2), (66, 3), (66, 9), (66, 10), (66, 11), (66, 12), (66, 19), (66, 21), (66, 22), (66, 23), (66, 24), (66, 40), (66, 41), (66, 58), (66, 67), (66, 82), (66, 95)] [67, 68, 69, 70, 71] h (mm_pf h5 66 11 0) := mm_fr_pf f5 (by decide)
              obtain ⟨h6, eh6⟩ : ∃ z, z = mm_pf h5 66 11 0 := ⟨_, rfl⟩
              rw [← eh6] at i6 f6 ⊢
              have qh6 : h6.1 66 11 = 0 := by rw [eh6]; exact mm_pf_same _ _ _ _
              have qh6_66 : h6.1 66 1 = h5.1 66 1 := by rw [eh6]; exact mm_pf_ne _ _ (by decide)
              have qh6_67 : h6.1 66 2 = h5.1 66 2 := by rw [eh6]; exact mm_pf_ne _ _ (by decide)
              have qh6_68 : h6.1 66 3 = h5.1 66 3 := by rw [eh6]; exact mm_pf_ne _ _ (by decide)
              have qh6_69 : h6.1 66 9 = h5.1 66 9 := by rw [eh6]; exact mm_pf_ne _ _ (by decide)
              have qh6_70 : h6.1 66 10 = h5.1 66 10 := by rw [eh6]; exact mm_pf_ne _ _ (by decide)
              have qh6_71 : h6.1 66 58 = h5.1 66 58 := by rw [eh6]; exact mm_pf_ne _ _ (by decide)
              have qh6_72 : h6.1 66 67 = h5.1 66 67 := by rw [eh6]; exact mm_pf_ne _ _ (by decide)
              refine mm_aload_n C (mm_dec dk_X12_anew 57 rfl) rfl ?_
              refine mm_iconst C (mm_dec dk_X12_anew 58 rfl) ⟨by decide, by decide⟩ ?_
              refine mm_puti C fl_X12_210 (mm_dec dk_X12_anew 59 rfl) rfl rfl rfl (Or.inl ⟨rfl, rfl⟩) ?_
              have i7 : mm_in2 (mm_pf h6 66 12 0) := mm_inp_put i6 (show 0 ≤ 0 ∧ 0 ≤ 0 from ⟨by omega, by omega⟩) (by decide)
              have f7 : mm_fr [(66, 1), (66, 2), (66, 3), (66, 9), (66, 10), (66, 11), (66, 12), (66, 19), (66, 21), (66, 22), (66, 23), (66, 24), (66, 40), (66, 41), (66, 58), (66, 67), (66, 82), (66, 95)] [67, 68, 69, 70, 71] h (mm_pf h6 66 12 0) := mm_fr_pf f6 (by decide)
              obtain ⟨h7, eh7⟩ : ∃ z, z = mm_pf h6 66 12 0 := ⟨_, rfl⟩
              rw [← eh7] at i7 f7 ⊢
              have qh7 : h7.1 66 12 = 0 := by rw [eh7]; exact mm_pf_same _ _ _ _
              have qh7_73 : h7.1 66 1 = h6.1 66 1 := by rw [eh7]; exact mm_pf_ne _ _ (by decide)
              have qh7_74 : h7.1 66 2 = h6.1 66 2 := by rw [eh7]; exact mm_pf_ne _ _ (by decide)
              have qh7_75 : h7.1 66 3 = h6.1 66 3 := by rw [eh7]; exact mm_pf_ne _ _ (by decide)
              have qh7_76 : h7.1 66 9 = h6.1 66 9 := by rw [eh7]; exact mm_pf_ne _ _ (by decide)
              have qh7_77 : h7.1 66 10 = h6.1 66 10 := by rw [eh7]; exact mm_pf_ne _ _ (by decide)
              have qh7_78 : h7.1 66 11 = h6.1 66 11 := by rw [eh7]; exact mm_pf_ne _ _ (by decide)
              have qh7_79 : h7.1 66 58 = h6.1 66 58 := by rw [eh7]; exact mm_pf_ne _ _ (by decide)
              have qh7_80 : h7.1 66 67 = h6.1 66 67 := by rw [eh7]; exact mm_pf_ne _ _ (by decide)
              refine mm_aload_n C (mm_dec dk_X12_anew 60 rfl) rfl ?_
              refine mm_iconst C (mm_dec dk_X12_anew 61 rfl) ⟨by decide, by decide⟩ ?_
              refine mm_puti C fl_X12_213 (mm_dec dk_X12_anew 62 rfl) rfl rfl rfl (Or.inl ⟨rfl, rfl⟩) ?_
              have i8 : mm_in2 (mm_pf h7 66 19 (-1)) := mm_inp_put i7 (show -1 ≤ (-1) ∧ (-1) ≤ 400 from ⟨by omega, by omega⟩) (by decide)
              have f8 : mm_fr [(66, 1), (66, 2), (66, 3), (66, 9), (66, 10), (66, 11), (66, 12), (66, 19), (66, 21), (66, 22), (66, 23), (66, 24), (66, 40), (66, 41), (66, 58), (66, 67), (66, 82), (66, 95)] [67, 68, 69, 70, 71] h (mm_pf h7 66 19 (-1)) := mm_fr_pf f7 (by decide)
              obtain ⟨h8, eh8⟩ : ∃ z, z = mm_pf h7 66 19 (-1) := ⟨_, rfl⟩
              rw [← eh8] at i8 f8 ⊢
              have qh8 : h8.1 66 19 = (-1) := by rw [eh8]; exact mm_pf_same _ _ _ _
              have qh8_81 : h8.1 66 1 = h7.1 66 1 := by rw [eh8]; exact mm_pf_ne _ _ (by decide)
              have qh8_82 : h8.1 66 2 = h7.1 66 2 := by rw [eh8]; exact mm_pf_ne _ _ (by decide)
              have qh8_83 : h8.1 66 3 = h7.1 66 3 := by rw [eh8]; exact mm_pf_ne _ _ (by decide)
              have qh8_84 : h8.1 66 9 = h7.1 66 9 := by rw [eh8]; exact mm_pf_ne _ _ (by decide)
              have qh8_85 : h8.1 66 10 = h7.1 66 10 := by rw [eh8]; exact mm_pf_ne _ _ (by decide)
              have qh8_86 : h8.1 66 11 = h7.1 66 11 := by rw [eh8]; exact mm_pf_ne _ _ (by decide)
              have qh8_87 : h8.1 66 12 = h7.1 66 12 := by rw [eh8]; exact mm_pf_ne _ _ (by decide)
              have qh8_88 : h8.1 66 58 = h7.1 66 58 := by rw [eh8]; exact mm_pf_ne _ _ (by decide)
              have qh8_89 : h8.1 66 67 = h7.1 66 67 := by rw [eh8]; exact mm_pf_ne _ _ (by decide)
              refine mm_aload_n C (mm_dec dk_X12_anew 63 rfl) rfl ?_
              refine mm_iconst C (mm_dec dk_X12_anew 64 rfl) ⟨by decide, by decide⟩ ?_
              refine mm_puti C fl_X12_216 (mm_dec dk_X12_anew 65 rfl) rfl rfl rfl (Or.inl ⟨rfl, rfl⟩) ?_
              have i9 : mm_in2 (mm_pf h8 66 21 0) := mm_inp_put i8 (show 0 ≤ 0 ∧ 0 ≤ 0 from ⟨by omega, by omega⟩) (by decide)
              have f9 : mm_fr [(66, 1), (66, 2), (66, 3), (66, 9), (66, 10), (66, 11), (66, 12), (66, 19), (66, 21), (66, 22), (66, 23), (66, 24), (66, 40), (66, 41), (66, 58), (66, 67), (66, 82), (66, 95)] [67, 68, 69, 70, 71] h (mm_pf h8 66 21 0) := mm_fr_pf f8 (by decide)
              obtain ⟨h9, eh9⟩ : ∃ z, z = mm_pf h8 66 21 0 := ⟨_, rfl⟩
              rw [← eh9] at i9 f9 ⊢
              have qh9 : h9.1 66 21 = 0 := by rw [eh9]; exact mm_pf_same _ _ _ _
              have qh9_90 : h9.1 66 1 = h8.1 66 1 := by rw [eh9]; exact mm_pf_ne _ _ (by decide)
              have qh9_91 : h9.1 66 2 = h8.1 66 2 := by rw [eh9]; exact mm_pf_ne _ _ (by decide)
              have qh9_92 : h9.1 66 3 = h8.1 66 3 := by rw [eh9]; exact mm_pf_ne _ _ (by decide)
              have qh9_93 : h9.1 66 9 = h8.1 66 9 := by rw [eh9]; exact mm_pf_ne _ _ (by decide)
              have qh9_94 : h9.1 66 10 = h8.1 66 10 := by rw [eh9]; exact mm_pf_ne _ _ (by decide)
              have qh9_95 : h9.1 66 11 = h8.1 66 11 := by rw [eh9]; exact mm_pf_ne _ _ (by decide)
              have qh9_96 : h9.1 66 12 = h8.1 66 12 := by rw [eh9]; exact mm_pf_ne _ _ (by decide)
              have qh9_97 : h9.1 66 19 = h8.1 66 19 := by rw [eh9]; exact mm_pf_ne _ _ (by decide)
              have qh9_98 : h9.1 66 58 = h8.1 66 58 := by rw [eh9]; exact mm_pf_ne _ _ (by decide)
              have qh9_99 : h9.1 66 67 = h8.1 66 67 := by rw [eh9]; exact mm_pf_ne _ _ (by decide)
              refine mm_aload_n C (mm_dec dk_X12_anew 66 rfl) rfl ?_
              refine mm_iconst C (mm_dec dk_X12_anew 67 rfl) ⟨by decide, by decide⟩ ?_
              refine mm_puti C fl_X12_219 (mm_dec dk_X12_anew 68 rfl) rfl rfl rfl (Or.inl ⟨rfl, rfl⟩) ?_
              have i10 : mm_in2 (mm_pf h9 66 22 0) := mm_inp_put i9 (show 0 ≤ 0 ∧ 0 ≤ 0 from ⟨by omega, by omega⟩) (by decide)
              have f10 : mm_fr [(66, 1), (66, 2), (66, 3), (66, 9), (66, 10), (66, 11), (66, 12), (66, 19), (66, 21), (66, 22), (66, 23), (66, 24), (66, 40), (66, 41), (66, 58), (66, 67), (66, 82), (66, 95)] [67, 68, 69, 70, 71] h (mm_pf h9 66 22 0) := mm_fr_pf f9 (by decide)
              obtain ⟨h10, eh10⟩ : ∃ z, z = mm_pf h9 66 22 0 := ⟨_, rfl⟩
              rw [← eh10] at i10 f10 ⊢
              have qh10 : h10.1 66 22 = 0 := by rw [eh10]; exact mm_pf_same _ _ _ _
              have qh10_100 : h10.1 66 1 = h9.1 66 1 := by rw [eh10]; exact mm_pf_ne _ _ (by decide)
              have qh10_101 : h10.1 66 2 = h9.1 66 2 := by rw [eh10]; exact mm_pf_ne _ _ (by decide)
              have qh10_102 : h10.1 66 3 = h9.1 66 3 := by rw [eh10]; exact mm_pf_ne _ _ (by decide)
              have qh10_103 : h10.1 66 9 = h9.1 66 9 := by rw [eh10]; exact mm_pf_ne _ _ (by decide)
              have qh10_104 : h10.1 66 10 = h9.1 66 10 := by rw [eh10]; exact mm_pf_ne _ _ (by decide)
              have qh10_105 : h10.1 66 11 = h9.1 66 11 := by rw [eh10]; exact mm_pf_ne _ _ (by decide)
              have qh10_106 : h10.1 66 12 = h9.1 66 12 := by rw [eh10]; exact mm_pf_ne _ _ (by decide)
              have qh10_107 : h10.1 66 19 = h9.1 66 19 := by rw [eh10]; exact mm_pf_ne _ _ (by decide)
              have qh10_108 : h10.1 66 21 = h9.1 66 21 := by rw [eh10]; exact mm_pf_ne _ _ (by decide)
              have qh10_109 : h10.1 66 58 = h9.1 66 58 := by rw [eh10]; exact mm_pf_ne _ _ (by decide)
              have qh10_110 : h10.1 66 67 = h9.1 66 67 := by rw [eh10]; exact mm_pf_ne _ _ (by decide)
              refine mm_aload_n C (mm_dec dk_X12_anew 69 rfl) rfl ?_
              refine mm_iconst C (mm_dec dk_X12_anew 70 rfl) ⟨by decide, by decide⟩ ?_
              refine mm_puti C fl_X12_222 (mm_dec dk_X12_anew 71 rfl) rfl rfl rfl (Or.inl ⟨rfl, rfl⟩) ?_
              have i11 : mm_in2 (mm_pf h10 66 23 0) := mm_inp_put i10 (show 0 ≤ 0 ∧ 0 ≤ 0 from ⟨by omega, by omega⟩) (by decide)
              have f11 : mm_fr [(66, 1), (66, 2), (66, 3), (66, 9), (66, 10), (66, 11), (66, 12), (66, 19), (66, 21), (66, 22), (66, 23), (66, 24), (66, 40), (66, 41), (66, 58), (66, 67), (66, 82), (66, 95)] [67, 68, 69, 70, 71] h (mm_pf h10 66 23 0) := mm_fr_pf f10 (by decide)
              obtain ⟨h11, eh11⟩ : ∃ z, z = mm_pf h10 66 23 0 := ⟨_, rfl⟩
              rw [← eh11] at i11 f11 ⊢
              have qh11 : h11.1 66 23 = 0 := by rw [eh11]; exact mm_pf_same _ _ _ _
              have qh11_111 : h11.1 66 1 = h10.1 66 1 := by rw [eh11]; exact mm_pf_ne _ _ (by decide)
              have qh11_112 : h11.1 66 2 = h10.1 66 2 := by rw [eh11]; exact mm_pf_ne _ _ (by decide)
              have qh11_113 : h11.1 66 3 = h10.1 66 3 := by rw [eh11]; exact mm_pf_ne _ _ (by decide)
              have qh11_114 : h11.1 66 9 = h10.1 66 9 := by rw [eh11]; exact mm_pf_ne _ _ (by decide)
              have qh11_115 : h11.1 66 10 = h10.1 66 10 := by rw [eh11]; exact mm_pf_ne _ _ (by decide)
              have qh11_116 : h11.1 66 11 = h10.1 66 11 := by rw [eh11]; exact mm_pf_ne _ _ (by decide)
              have qh11_117 : h11.1 66 12 = h10.1 66 12 := by rw [eh11]; exact mm_pf_ne _ _ (by decide)
              have qh11_118 : h11.1 66 19 = h10.1 66 19 := by rw [eh11]; exact mm_pf_ne _ _ (by decide)
              have qh11_119 : h11.1 66 21 = h10.1 66 21 := by rw [eh11]; exact mm_pf_ne _ _ (by decide)
              have qh11_120 : h11.1 66 22 = h10.1 66 22 := by rw [eh11]; exact mm_pf_ne _ _ (by decide)
              have qh11_121 : h11.1 66 58 = h10.1 66 58 := by rw [eh11]; exact mm_pf_ne _ _ (by decide)
              have qh11_122 : h11.1 66 67 = h10.1 66 67 := by rw [eh11]; exact mm_pf_ne _ _ (by decide)
              refine mm_aload_n C (mm_dec dk_X12_anew 72 rfl) rfl ?_
              refine mm_iconst C (mm_dec dk_X12_anew 73 rfl) ⟨by decide, by decide⟩ ?_
              refine mm_puti C fl_X12_225 (mm_dec dk_X12_anew 74 rfl) rfl rfl rfl (Or.inl ⟨rfl, rfl⟩) ?_
              have i12 : mm_in2 (mm_pf h11 66 24 0) := mm_inp_put i11 (show 0 ≤ 0 ∧ 0 ≤ 0 from ⟨by omega, by omega⟩) (by decide)
              have f12 : mm_fr [(66, 1), (66, 2), (66, 3), (66, 9), (66, 10), (66, 11), (66, 12), (66, 19), (66, 21), (66, 22), (66, 23), (66, 24), (66, 40), (66, 41), (66, 58), (66, 67), (66, 82), (66, 95)] [67, 68, 69, 70, 71] h (mm_pf h11 66 24 0) := mm_fr_pf f11 (by decide)
              obtain ⟨h12, eh12⟩ : ∃ z, z = mm_pf h11 66 24 0 := ⟨_, rfl⟩
              rw [← eh12] at i12 f12 ⊢
              have qh12 : h12.1 66 24 = 0 := by rw [eh12]; exact mm_pf_same _ _ _ _
              have qh12_123 : h12.1 66 1 = h11.1 66 1 := by rw [eh12]; exact mm_pf_ne _ _ (by decide)
              have qh12_124 : h12.1 66 2 = h11.1 66 2 := by rw [eh12]; exact mm_pf_ne _ _ (by decide)
              have qh12_125 : h12.1 66 3 = h11.1 66 3 := by rw [eh12]; exact mm_pf_ne _ _ (by decide)
              have qh12_126 : h12.1 66 9 = h11.1 66 9 := by rw [eh12]; exact mm_pf_ne _ _ (by decide)
              have qh12_127 : h12.1 66 10 = h11.1 66 10 := by rw [eh12]; exact mm_pf_ne _ _ (by decide)
              have qh12_128 : h12.1 66 11 = h11.1 66 11 := by rw [eh12]; exact mm_pf_ne _ _ (by decide)
              have qh12_129 : h12.1 66 12 = h11.1 66 12 := by rw [eh12]; exact mm_pf_ne _ _ (by decide)
              have qh12_130 : h12.1 66 19 = h11.1 66 19 := by rw [eh12]; exact mm_pf_ne _ _ (by decide)
              have qh12_131 : h12.1 66 21 = h11.1 66 21 := by rw [eh12]; exact mm_pf_ne _ _ (by decide)
              have qh12_132 : h12.1 66 22 = h11.1 66 22 := by rw [eh12]; exact mm_pf_ne _ _ (by decide)
              have qh12_133 : h12.1 66 23 = h11.1 66 23 := by rw [eh12]; exact mm_pf_ne _ _ (by decide)
              have qh12_134 : h12.1 66 58 = h11.1 66 58 := by rw [eh12]; exact mm_pf_ne _ _ (by decide)
              have qh12_135 : h12.1 66 67 = h11.1 66 67 := by rw [eh12]; exact mm_pf_ne _ _ (by decide)
              refine mm_aload_n C (mm_dec dk_X12_anew 75 rfl) rfl ?_
              refine mm_iconst C (mm_dec dk_X12_anew 76 rfl) ⟨by decide, by decide⟩ ?_
              refine mm_puti C fl_X12_228 (mm_dec dk_X12_anew 77 rfl) rfl rfl rfl (Or.inl ⟨rfl, rfl⟩) ?_
              have i13 : mm_in2 (mm_pf h12 66 40 0) := mm_inp_put i12 (show 0 ≤ 0 ∧ 0 ≤ 0 from ⟨by omega, by omega⟩) (by decide)
              have f13 : mm_fr [(66, 1), (66, 2), (66, 3), (66, 9), (66, 10), (66, 11), (66, 12), (66, 19), (66, 21), (66, 22), (66, 23), (66, 24), (66, 40), (66, 41), (66, 58), (66, 67), (66, 82), (66, 95)] [67, 68, 69, 70, 71] h (mm_pf h12 66 40 0) := mm_fr_pf f12 (by decide)
              obtain ⟨h13, eh13⟩ : ∃ z, z = mm_pf h12 66 40 0 := ⟨_, rfl⟩
              rw [← eh13] at i13 f13 ⊢
              have qh13 : h13.1 66 40 = 0 := by rw [eh13]; exact mm_pf_same _ _ _ _
              have qh13_136 : h13.1 66 1 = h12.1 66 1 := by rw [eh13]; exact mm_pf_ne _ _ (by decide)
              have qh13_137 : h13.1 66 2 = h12.1 66 2 := by rw [eh13]; exact mm_pf_ne _ _ (by decide)
              have qh13_138 : h13.1 66 3 = h12.1 66 3 := by rw [eh13]; exact mm_pf_ne _ _ (by decide)
              have qh13_139 : h13.1 66 9 = h12.1 66 9 := by rw [eh13]; exact mm_pf_ne _ _ (by decide)
              have qh13_140 : h13.1 66 10 = h12.1 66 10 := by rw [eh13]; exact mm_pf_ne _ _ (by decide)
              have qh13_141 : h13.1 66 11 = h12.1 66 11 := by rw [eh13]; exact mm_pf_ne _ _ (by decide)
              have qh13_142 : h13.1 66 12 = h12.1 66 12 := by rw [eh13]; exact mm_pf_ne _ _ (by decide)
              have qh13_143 : h13.1 66 19 = h12.1 66 19 := by rw [eh13]; exact mm_pf_ne _ _ (by decide)
              have qh13_144 : h13.1 66 21 = h12.1 66 21 := by rw [eh13]; exact mm_pf_ne _ _ (by decide)
              have qh13_145 : h13.1 66 22 = h12.1 66 22 := by rw [eh13]; exact mm_pf_ne _ _ (by decide)
              have qh13_146 : h13.1 66 23 = h12.1 66 23 := by rw [eh13]; exact mm_pf_ne _ _ (by decide)
              have qh13_147 : h13.1 66 24 = h12.1 66 24 := by rw [eh13]; exact mm_pf_ne _ _ (by decide)
              have qh13_148 : h13.1 66 58 = h12.1 66 58 := by rw [eh13]; exact mm_pf_ne _ _ (by decide)
              have qh13_149 : h13.1 66 67 = h12.1 66 67 := by rw [eh13]; exact mm_pf_ne _ _ (by decide)
              refine mm_aload_n C (mm_dec dk_X12_anew 78 rfl) rfl ?_
              refine mm_iconst C (mm_dec dk_X12_anew 79 rfl) ⟨by decide, by decide⟩ ?_
              refine mm_puti C fl_X12_231 (mm_dec dk_X12_anew 80 rfl) rfl rfl rfl (Or.inl ⟨rfl, rfl⟩) ?_
              have i14 : mm_in2 (mm_pf h13 66 82 0) := mm_inp_put i13 (show 0 ≤ 0 ∧ 0 ≤ 0 from ⟨by omega, by omega⟩) (by decide)
              have f14 : mm_fr [(66, 1), (66, 2), (66, 3), (66, 9), (66, 10), (66, 11), (66, 12), (66, 19), (66, 21), (66, 22), (66, 23), (66, 24), (66, 40), (66, 41), (66, 58), (66, 67), (66, 82), (66, 95)] [67, 68, 69, 70, 71] h (mm_pf h13 66 82 0) := mm_fr_pf f13 (by decide)
              obtain ⟨h14, eh14⟩ : ∃ z, z = mm_pf h13 66 82 0 := ⟨_, rfl⟩
              rw [← eh14] at i14 f14 ⊢
              have qh14 : h14.1 66 82 = 0 := by rw [eh14]; exact mm_pf_same _ _ _ _
              have qh14_150 : h14.1 66 1 = h13.1 66 1 := by rw [eh14]; exact mm_pf_ne _ _ (by decide)
              have qh14_151 : h14.1 66 2 = h13.1 66 2 := by rw [eh14]; exact mm_pf_ne _ _ (by decide)
              have qh14_152 : h14.1 66 3 = h13.1 66 3 := by rw [eh14]; exact mm_pf_ne _ _ (by decide)
              have qh14_153 : h14.1 66 9 = h13.1 66 9 := by rw [eh14]; exact mm_pf_ne _ _ (by decide)
              have qh14_154 : h14.1 66 10 = h13.1 66 10 := by rw [eh14]; exact mm_pf_ne _ _ (by decide)
              have qh14_155 : h14.1 66 11 = h13.1 66 11 := by rw [eh14]; exact mm_pf_ne _ _ (by decide)
              have qh14_156 : h14.1 66 12 = h13.1 66 12 := by rw [eh14]; exact mm_pf_ne _ _ (by decide)
              have qh14_157 : h14.1 66 19 = h13.1 66 19 := by rw [eh14]; exact mm_pf_ne _ _ (by decide)
              have qh14_158 : h14.1 66 21 = h13.1 66 21 := by rw [eh14]; exact mm_pf_ne _ _ (by decide)
              have qh14_159 : h14.1 66 22 = h13.1 66 22 := by rw [eh14]; exact mm_pf_ne _ _ (by decide)
              have qh14_160 : h14.1 66 23 = h13.1 66 23 := by rw [eh14]; exact mm_pf_ne _ _ (by decide)
              have qh14_161 : h14.1 66 24 = h13.1 66 24 := by rw [eh14]; exact mm_pf_ne _ _ (by decide)
              have qh14_162 : h14.1 66 40 = h13.1 66 40 := by rw [eh14]; exact mm_pf_ne _ _ (by decide)
              have qh14_163 : h14.1 66 58 = h13.1 66 58 := by rw [eh14]; exact mm_pf_ne _ _ (by decide)
              have qh14_164 : h14.1 66 67 = h13.1 66 67 := by rw [eh14]; exact mm_pf_ne _ _ (by decide)
              refine mm_aload_n C (mm_dec dk_X12_anew 81 rfl) rfl ?_
              refine mm_iconst C (mm_dec dk_X12_anew 82 rfl) ⟨by decide, by decide⟩ ?_
              refine mm_puti C fl_X12_234 (mm_dec dk_X12_anew 83 rfl) rfl rfl rfl (Or.inl ⟨rfl, rfl⟩) ?_
              have i15 : mm_in2 (mm_pf h14 66 41 0) := mm_inp_put i14 (show 0 ≤ 0 ∧ 0 ≤ 0 from ⟨by omega, by omega⟩) (by decide)
              have f15 : mm_fr [(66, 1), (66, 2), (66, 3), (66, 9), (66, 10), (66, 11), (66, 12), (66, 19), (66, 21), (66, 22), (66, 23), (66, 24), (66, 40), (66, 41), (66, 58), (66, 67), (66, 82), (66, 95)] [67, 68, 69, 70, 71] h (mm_pf h14 66 41 0) := mm_fr_pf f14 (by decide)
              obtain ⟨h15, eh15⟩ : ∃ z, z = mm_pf h14 66 41 0 := ⟨_, rfl⟩
              rw [← eh15] at i15 f15 ⊢
              have qh15 : h15.1 66 41 = 0 := by rw [eh15]; exact mm_pf_same _ _ _ _
              have qh15_165 : h15.1 66 1 = h14.1 66 1 := by rw [eh15]; exact mm_pf_ne _ _ (by decide)
              have qh15_166 : h15.1 66 2 = h14.1 66 2 := by rw [eh15]; exact mm_pf_ne _ _ (by decide)
              have qh15_167 : h15.1 66 3 = h14.1 66 3 := by rw [eh15]; exact mm_pf_ne _ _ (by decide)
              have qh15_168 : h15.1 66 9 = h14.1 66 9 := by rw [eh15]; exact mm_pf_ne _ _ (by decide)
              have qh15_169 : h15.1 66 10 = h14.1 66 10 := by rw [eh15]; exact mm_pf_ne _ _ (by decide)
              have qh15_170 : h15.1 66 11 = h14.1 66 11 := by rw [eh15]; exact mm_pf_ne _ _ (by decide)
              have qh15_171 : h15.1 66 12 = h14.1 66 12 := by rw [eh15]; exact mm_pf_ne _ _ (by decide)
              have qh15_172 : h15.1 66 19 = h14.1 66 19 := by rw [eh15]; exact mm_pf_ne _ _ (by decide)
              have qh15_173 : h15.1 66 21 = h14.1 66 21 := by rw [eh15]; exact mm_pf_ne _ _ (by decide)
              have qh15_174 : h15.1 66 22 = h14.1 66 22 := by rw [eh15]; exact mm_pf_ne _ _ (by decide)
              have qh15_175 : h15.1 66 23 = h14.1 66 23 := by rw [eh15]; exact mm_pf_ne _ _ (by decide)
              have qh15_176 : h15.1 66 24 = h14.1 66 24 := by rw [eh15]; exact mm_pf_ne _ _ (by decide)
              have qh15_177 : h15.1 66 40 = h14.1 66 40 := by rw [eh15]; exact mm_pf_ne _ _ (by decide)
              have qh15_178 : h15.1 66 58 = h14.1 66 58 := by rw [eh15]; exact mm_pf_ne _ _ (by decide)
              have qh15_179 : h15.1 66 67 = h14.1 66 67 := by rw [eh15]; exact mm_pf_ne _ _ (by decide)
              have qh15_180 : h15.1 66 82 = h14.1 66 82 := by rw [eh15]; exact mm_pf_ne _ _ (by decide)
              refine mm_aload_n C (mm_dec dk_X12_anew 84 rfl) rfl ?_
              refine mm_iconst C (mm_dec dk_X12_anew 85 rfl) ⟨by decide, by decide⟩ ?_
              refine mm_puti C fl_X12_237 (mm_dec dk_X12_anew 86 rfl) rfl rfl rfl (Or.inl ⟨rfl, rfl⟩) ?_
              have i16 : mm_in2 (mm_pf h15 66 58 (-1)) := mm_inp_put i15 (show -2147483648 ≤ (-1) ∧ (-1) ≤ 2147483647 from ⟨by omega, by omega⟩) (by decide)
              have f16 : mm_fr [(66, 1), (66, 2), (66, 3), (66, 9), (66, 10), (66, 11), (66, 12), (66, 19), (66, 21), (66, 22), (66, 23), (66, 24), (66, 40), (66, 41), (66, 58), (66, 67), (66, 82), (66, 95)] [67, 68, 69, 70, 71] h (mm_pf h15 66 58 (-1)) := mm_fr_pf f15 (by decide)
              obtain ⟨h16, eh16⟩ : ∃ z, z = mm_pf h15 66 58 (-1) := ⟨_, rfl⟩
              rw [← eh16] at i16 f16 ⊢
              have qh16 : h16.1 66 58 = (-1) := by rw [eh16]; exact mm_pf_same _ _ _ _
              have qh16_181 : h16.1 66 1 = h15.1 66 1 := by rw [eh16]; exact mm_pf_ne _ _ (by decide)
              have qh16_182 : h16.1 66 2 = h15.1 66 2 := by rw [eh16]; exact mm_pf_ne _ _ (by decide)
              have qh16_183 : h16.1 66 3 = h15.1 66 3 := by rw [eh16]; exact mm_pf_ne _ _ (by decide)
              have qh16_184 : h16.1 66 9 = h15.1 66 9 := by rw [eh16]; exact mm_pf_ne _ _ (by decide)
              have qh16_185 : h16.1 66 10 = h15.1 66 10 := by rw [eh16]; exact mm_pf_ne _ _ (by decide)
              have qh16_186 : h16.1 66 11 = h15.1 66 11 := by rw [eh16]; exact mm_pf_ne _ _ (by decide)
              have qh16_187 : h16.1 66 12 = h15.1 66 12 := by rw [eh16]; exact mm_pf_ne _ _ (by decide)
              have qh16_188 : h16.1 66 19 = h15.1 66 19 := by rw [eh16]; exact mm_pf_ne _ _ (by decide)
              have qh16_189 : h16.1 66 21 = h15.1 66 21 := by rw [eh16]; exact mm_pf_ne _ _ (by decide)
              have qh16_190 : h16.1 66 22 = h15.1 66 22 := by rw [eh16]; exact mm_pf_ne _ _ (by decide)
              have qh16_191 : h16.1 66 23 = h15.1 66 23 := by rw [eh16]; exact mm_pf_ne _ _ (by decide)
              have qh16_192 : h16.1 66 24 = h15.1 66 24 := by rw [eh16]; exact mm_pf_ne _ _ (by decide)
              have qh16_193 : h16.1 66 40 = h15.1 66 40 := by rw [eh16]; exact mm_pf_ne _ _ (by decide)
              have qh16_194 : h16.1 66 41 = h15.1 66 41 := by rw [eh16]; exact mm_pf_ne _ _ (by decide)
              have qh16_195 : h16.1 66 67 = h15.1 66 67 := by rw [eh16]; exact mm_pf_ne _ _ (by decide)
              have qh16_196 : h16.1 66 82 = h15.1 66 82 := by rw [eh16]; exact mm_pf_ne _ _ (by decide)
              refine mm_aload_n C (mm_dec dk_X12_anew 87 rfl) rfl ?_
              refine mm_iconst C (mm_dec dk_X12_anew 88 rfl) ⟨by decide, by decide⟩ ?_
              refine mm_puti C fl_X12_240 (mm_dec dk_X12_anew 89 rfl) rfl rfl rfl (Or.inr ⟨rfl, rfl, by omega⟩) ?_
              have i17 : mm_in2 (mm_pf h16 66 67 0) := mm_inp_put i16 (show 0 ≤ 0 ∧ 0 ≤ 1 from ⟨by omega, by omega⟩) (by decide)
              have f17 : mm_fr [(66, 1), (66, 2), (66, 3), (66, 9), (66, 10), (66, 11), (66, 12), (66, 19), (66, 21), (66, 22), (66, 23), (66, 24), (66, 40), (66, 41), (66, 58), (66, 67), (66, 82), (66, 95)] [67, 68, 69, 70, 71] h (mm_pf h16 66 67 0) := mm_fr_pf f16 (by decide)
              obtain ⟨h17, eh17⟩ : ∃ z, z = mm_pf h16 66 67 0 := ⟨_, rfl⟩
              rw [← eh17] at i17 f17 ⊢
              have qh17 : h17.1 66 67 = 0 := by rw [eh17]; exact mm_pf_same _ _ _ _
              have qh17_197 : h17.1 66 1 = h16.1 66 1 := by rw [eh17]; exact mm_pf_ne _ _ (by decide)
              have qh17_198 : h17.1 66 2 = h16.1 66 2 := by rw [eh17]; exact mm_pf_ne _ _ (by decide)
              have qh17_199 : h17.1 66 3 = h16.1 66 3 := by rw [eh17]; exact mm_pf_ne _ _ (by decide)
              have qh17_200 : h17.1 66 9 = h16.1 66 9 := by rw [eh17]; exact mm_pf_ne _ _ (by decide)
              have qh17_201 : h17.1 66 10 = h16.1 66 10 := by rw [eh17]; exact mm_pf_ne _ _ (by decide)
              have qh17_202 : h17.1 66 11 = h16.1 66 11 := by rw [eh17]; exact mm_pf_ne _ _ (by decide)
              have qh17_203 : h17.1 66 12 = h16.1 66 12 := by rw [eh17]; exact mm_pf_ne _ _ (by decide)
              have qh17_204 : h17.1 66 19 = h16.1 66 19 := by rw [eh17]; exact mm_pf_ne _ _ (by decide)
              have qh17_205 : h17.1 66 21 = h16.1 66 21 := by rw [eh17]; exact mm_pf_ne _ _ (by decide)
              have qh17_206 : h17.1 66 22 = h16.1 66 22 := by rw [eh17]; exact mm_pf_ne _ _ (by decide)
              have qh17_207 : h17.1 66 23 = h16.1 66 23 := by rw [eh17]; exact mm_pf_ne _ _ (by decide)
              have qh17_208 : h17.1 66 24 = h16.1 66 24 := by rw [eh17]; exact mm_pf_ne _ _ (by decide)
              have qh17_209 : h17.1 66 40 = h16.1 66 40 := by rw [eh17]; exact mm_pf_ne _ _ (by decide)
              have qh17_210 : h17.1 66 41 = h16.1 66 41 := by rw [eh17]; exact mm_pf_ne _ _ (by decide)
              have qh17_211 : h17.1 66 58 = h16.1 66 58 := by rw [eh17]; exact mm_pf_ne _ _ (by decide)
              have qh17_212 : h17.1 66 82 = h16.1 66 82 := by rw [eh17]; exact mm_pf_ne _ _ (by decide)
              refine mm_aload_n C (mm_dec dk_X12_anew 90 rfl) rfl ?_
              refine mm_iconst C (mm_dec dk_X12_anew 91 rfl) ⟨by decide, by decide⟩ ?_
              refine mm_puti C fl_X12_244 (mm_dec dk_X12_anew 92 rfl) rfl rfl rfl (Or.inr ⟨rfl, rfl, by omega⟩) ?_
              have i18 : mm_in2 (mm_pf h17 66 95 0) := mm_inp_put i17 (show 0 ≤ 0 ∧ 0 ≤ 1 from ⟨by omega, by omega⟩) (by decide)
              have f18 : mm_fr [(66, 1), (66, 2), (66, 3), (66, 9), (66, 10), (66, 11), (66, 12), (66, 19), (66, 21), (66, 22), (66, 23), (66, 24), (66, 40), (66, 41), (66, 58), (66, 67), (66, 82), (66, 95)] [67, 68, 69, 70, 71] h (mm_pf h17 66 95 0) := mm_fr_pf f17 (by decide)
              obtain ⟨h18, eh18⟩ : ∃ z, z = mm_pf h17 66 95 0 := ⟨_, rfl⟩
              rw [← eh18] at i18 f18 ⊢
              have qh18 : h18.1 66 95 = 0 := by rw [eh18]; exact mm_pf_same _ _ _ _
              have qh18_213 : h18.1 66 1 = h17.1 66 1 := by rw [eh18]; exact mm_pf_ne _ _ (by decide)
              have qh18_214 : h18.1 66 2 = h17.1 66 2 := by rw [eh18]; exact mm_pf_ne _ _ (by decide)
              have qh18_215 : h18.1 66 3 = h17.1 66 3 := by rw [eh18]; exact mm_pf_ne _ _ (by decide)
              have qh18_216 : h18.1 66 9 = h17.1 66 9 := by rw [eh18]; exact mm_pf_ne _ _ (by decide)
              have qh18_217 : h18.1 66 10 = h17.1 66 10 := by rw [eh18]; exact mm_pf_ne _ _ (by decide)
              have qh18_218 : h18.1 66 11 = h17.1 66 11 := by rw [eh18]; exact mm_pf_ne _ _ (by decide)
              have qh18_219 : h18.1 66 12 = h17.1 66 12 := by rw [eh18]; exact mm_pf_ne _ _ (by decide)
              have qh18_220 : h18.1 66 19 = h17.1 66 19 := by rw [eh18]; exact mm_pf_ne _ _ (by decide)
              have qh18_221 : h18.1 66 21 = h17.1 66 21 := by rw [eh18]; exact mm_pf_ne _ _ (by decide)
              have qh18_222 : h18.1 66 22 = h17.1 66 22 := by rw [eh18]; exact mm_pf_ne _ _ (by decide)
              have qh18_223 : h18.1 66 23 = h17.1 66 23 := by rw [eh18]; exact mm_pf_ne _ _ (by decide)
              have qh18_224 : h18.1 66 24 = h17.1 66 24 := by rw [eh18]; exact mm_pf_ne _ _ (by decide)
              have qh18_225 : h18.1 66 40 = h17.1 66 40 := by rw [eh18]; exact mm_pf_ne _ _ (by decide)
              have qh18_226 : h18.1 66 41 = h17.1 66 41 := by rw [eh18]; exact mm_pf_ne _ _ (by decide)
              have qh18_227 : h18.1 66 58 = h17.1 66 58 := by rw [eh18]; exact mm_pf_ne _ _ (by decide)
              have qh18_228 : h18.1 66 67 = h17.1 66 67 := by rw [eh18]; exact mm_pf_ne _ _ (by decide)
              have qh18_229 : h18.1 66 82 = h17.1 66 82 := by rw [eh18]; exact mm_pf_ne _ _ (by decide)
              exact mm_vret C T (mm_dec dk_X12_anew 93 rfl) (by decide : 0 ≤ 0) (by decide : 0 ≤ 0) ⟨rfl, ⟨i18, f18, by omega, by omega, by omega, by omega, by rw [eh18, eh17, eh16, eh15, eh14, eh13, eh12, eh11, eh10, eh9, eh8, eh7, eh6, eh5, eh4]; exact w60_0, by rw [eh18, eh17, eh16, eh15, eh14, eh13, eh12, eh11, eh10, eh9, eh8, eh7, eh6, eh5, eh4]; exact mm_al_le w60_1 (by omega), by rw [eh18, eh17, eh16, eh15, eh14, eh13, eh12, eh11, eh10, eh9, eh8, eh7, eh6, eh5, eh4]; exact w60_2, by rw [eh18, eh17, eh16, eh15, eh14, eh13, eh12, eh11, eh10, eh9, eh8, eh7, eh6, eh5, eh4]; exact w60_3, by rw [eh18, eh17, eh16, eh15, eh14, eh13, eh12, eh11, eh10, eh9, eh8, eh7, eh6, eh5, eh4]; exact w60_4, by omega, by omega, by omega, by omega⟩⟩
            · skip
              refine mm_aload_n C (mm_dec dk_X12_anew 41 rfl) rfl ?_
              refine mm_getr (t := 69) C fl_X12_16 (mm_dec dk_X12_anew 42 rfl) rfl rfl (mm_inp_ref i60_ rfl) ?_
              refine mm_iload_n C (mm_dec dk_X12_anew 43 rfl) rfl ?_
              refine mm_iconst C (mm_dec dk_X12_anew 44 rfl) ⟨by decide, by decide⟩ ?_
              refine mm_iast C (mm_dec dk_X12_anew 45 rfl) rfl (by omega) (by omega) ?_
              have i19 : mm_in2 (mm_pa h60_ 69 x60_3 5) := mm_inp_pa i60_ (show 0 ≤ 5 ∧ 5 ≤ 99 from ⟨by omega, by omega⟩)
              have f19 : mm_fr [(66, 1), (66, 2), (66, 3), (66, 9), (66, 10), (66, 11), (66, 12), (66, 19), (66, 21), (66, 22), (66, 23), (66, 24), (66, 40), (66, 41), (66, 58), (66, 67), (66, 82), (66, 95)] [67, 68, 69, 70, 71] h (mm_pa h60_ 69 x60_3 5) := mm_fr_pa f60_ (by decide)
              obtain ⟨h19, eh19⟩ : ∃ z, z = mm_pa h60_ 69 x60_3 5 := ⟨_, rfl⟩
              rw [← eh19] at i19 f19 ⊢
              have qh19_230 : h19.1 66 1 = h60_.1 66 1 := by rw [eh19]; rfl
              have qh19_231 : h19.1 66 2 = h60_.1 66 2 := by rw [eh19]; rfl
              have qh19_232 : h19.1 66 3 = h60_.1 66 3 := by rw [eh19]; rfl
              have qh19_233 : h19.1 66 9 = h60_.1 66 9 := by rw [eh19]; rfl
              have qh19_234 : h19.1 66 10 = h60_.1 66 10 := by rw [eh19]; rfl
              have qh19_235 : h19.1 66 58 = h60_.1 66 58 := by rw [eh19]; rfl
              have qh19_236 : h19.1 66 67 = h60_.1 66 67 := by rw [eh19]; rfl
              refine mm_iincL (ls2 := [mR 66, mU, mU, mI (x60_3 + 1)]) C (mm_dec dk_X12_anew 46 rfl) rfl (by decide) ⟨by omega, by omega⟩ rfl ?_
              refine mm_goto (tgt := 60) C (mm_dec dk_X12_anew 47 rfl) (by decide) ?_
              exact ih60 (x60_3 + 1) ⟨by omega, by omega⟩ h19 i19 f19 (by first | exact mm_al_le w17_0 (by omega) | exact mm_al_sm w60_0 (fun _ => (mm_sm_pa 67 eh19 (by decide) _))) (by first | exact mm_al_nil (by omega) | (rw [show x60_3 + 1 - 1 = x60_3 by omega]; exact mm_al_put w60_1 eh19)) (by first | exact mm_al_le w17_1 (by omega) | exact mm_al_sm w60_2 (fun _ => (mm_sm_pa 68 eh19 (by decide) _))) (by first | exact mm_al_le w17_2 (by omega) | exact mm_al_sm w60_3 (fun _ => (mm_sm_pa 70 eh19 (by decide) _))) (by first | exact mm_al_le w17_3 (by omega) | exact mm_al_sm w60_4 (fun _ => (mm_sm_pa 71 eh19 (by decide) _))) (by omega) (by omega) (by omega) (by omega)
        refine mm_istore_nL (ls2 := [mR 66, mU, mU, mI 0]) C (mm_dec dk_X12_anew 37 rfl) (by decide) rfl ?_
        exact J60 (((8 - 0) : Int) + 1).toNat 0 ⟨by omega, by omega⟩ h17_ i17_ f17_ (by first | exact mm_al_le w17_0 (by omega) | exact mm_al_sm w60_0 (fun _ => (mm_sm_pa 67 eh19 (by decide) _))) (by first | exact mm_al_nil (by omega) | (rw [show x60_3 + 1 - 1 = x60_3 by omega]; exact mm_al_put w60_1 eh19)) (by first | exact mm_al_le w17_1 (by omega) | exact mm_al_sm w60_2 (fun _ => (mm_sm_pa 68 eh19 (by decide) _))) (by first | exact mm_al_le w17_2 (by omega) | exact mm_al_sm w60_3 (fun _ => (mm_sm_pa 70 eh19 (by decide) _))) (by first | exact mm_al_le w17_3 (by omega) | exact mm_al_sm w60_4 (fun _ => (mm_sm_pa 71 eh19 (by decide) _))) (by omega) (by omega) (by omega) (by omega)
      · skip
        refine mm_aload_n C (mm_dec dk_X12_anew 14 rfl) rfl ?_
        refine mm_getr (t := 67) C fl_X12_7 (mm_dec dk_X12_anew 15 rfl) rfl rfl (mm_inp_ref i17_ rfl) ?_
        refine mm_iload_n C (mm_dec dk_X12_anew 16 rfl) rfl ?_
        refine mm_iconst C (mm_dec dk_X12_anew 17 rfl) ⟨by decide, by decide⟩ ?_
        refine mm_iast C (mm_dec dk_X12_anew 18 rfl) rfl (by omega) (by omega) ?_
        have i20 : mm_in2 (mm_pa h17_ 67 x17_3 0) := mm_inp_pa i17_ (show 0 ≤ 0 ∧ 0 ≤ 7 from ⟨by omega, by omega⟩)
        have f20 : mm_fr [(66, 1), (66, 2), (66, 3), (66, 9), (66, 10), (66, 11), (66, 12), (66, 19), (66, 21), (66, 22), (66, 23), (66, 24), (66, 40), (66, 41), (66, 58), (66, 67), (66, 82), (66, 95)] [67, 68, 69, 70, 71] h (mm_pa h17_ 67 x17_3 0) := mm_fr_pa f17_ (by decide)
        obtain ⟨h20, eh20⟩ : ∃ z, z = mm_pa h17_ 67 x17_3 0 := ⟨_, rfl⟩
        rw [← eh20] at i20 f20 ⊢
        have qh20_237 : h20.1 66 1 = h17_.1 66 1 := by rw [eh20]; rfl
        have qh20_238 : h20.1 66 2 = h17_.1 66 2 := by rw [eh20]; rfl
        have qh20_239 : h20.1 66 3 = h17_.1 66 3 := by rw [eh20]; rfl
        have qh20_240 : h20.1 66 9 = h17_.1 66 9 := by rw [eh20]; rfl
        have qh20_241 : h20.1 66 10 = h17_.1 66 10 := by rw [eh20]; rfl
        have qh20_242 : h20.1 66 58 = h17_.1 66 58 := by rw [eh20]; rfl
        have qh20_243 : h20.1 66 67 = h17_.1 66 67 := by rw [eh20]; rfl
        refine mm_aload_n C (mm_dec dk_X12_anew 19 rfl) rfl ?_
        refine mm_getr (t := 68) C fl_X12_13 (mm_dec dk_X12_anew 20 rfl) rfl rfl (mm_inp_ref i20 rfl) ?_
        refine mm_iload_n C (mm_dec dk_X12_anew 21 rfl) rfl ?_
        refine mm_iconst C (mm_dec dk_X12_anew 22 rfl) ⟨by decide, by decide⟩ ?_
        refine mm_iast C (mm_dec dk_X12_anew 23 rfl) rfl (by omega) (by omega) ?_
        have i21 : mm_in2 (mm_pa h20 68 x17_3 0) := mm_inp_pa i20 (show 0 ≤ 0 ∧ 0 ≤ 99 from ⟨by omega, by omega⟩)
        have f21 : mm_fr [(66, 1), (66, 2), (66, 3), (66, 9), (66, 10), (66, 11), (66, 12), (66, 19), (66, 21), (66, 22), (66, 23), (66, 24), (66, 40), (66, 41), (66, 58), (66, 67), (66, 82), (66, 95)] [67, 68, 69, 70, 71] h (mm_pa h20 68 x17_3 0) := mm_fr_pa f20 (by decide)
        obtain ⟨h21, eh21⟩ : ∃ z, z = mm_pa h20 68 x17_3 0 := ⟨_, rfl⟩
        rw [← eh21] at i21 f21 ⊢
        have qh21_244 : h21.1 66 1 = h20.1 66 1 := by rw [eh21]; rfl
        have qh21_245 : h21.1 66 2 = h20.1 66 2 := by rw [eh21]; rfl
        have qh21_246 : h21.1 66 3 = h20.1 66 3 := by rw [eh21]; rfl
        have qh21_247 : h21.1 66 9 = h20.1 66 9 := by rw [eh21]; rfl
        have qh21_248 : h21.1 66 10 = h20.1 66 10 := by rw [eh21]; rfl
        have qh21_249 : h21.1 66 58 = h20.1 66 58 := by rw [eh21]; rfl
        have qh21_250 : h21.1 66 67 = h20.1 66 67 := by rw [eh21]; rfl
        refine mm_aload_n C (mm_dec dk_X12_anew 24 rfl) rfl ?_
        refine mm_getr (t := 70) C fl_X12_19 (mm_dec dk_X12_anew 25 rfl) rfl rfl (mm_inp_ref i21 rfl) ?_
        refine mm_iload_n C (mm_dec dk_X12_anew 26 rfl) rfl ?_
        refine mm_iconst C (mm_dec dk_X12_anew 27 rfl) ⟨by decide, by decide⟩ ?_
        refine mm_zast C (mm_dec dk_X12_anew 28 rfl) rfl (by omega) (by omega) (by omega) ?_
        have i22 : mm_in2 (mm_pa h21 70 x17_3 0) := mm_inp_pa i21 (show 0 ≤ 0 ∧ 0 ≤ 1 from ⟨by omega, by omega⟩)
        have f22 : mm_fr [(66, 1), (66, 2), (66, 3), (66, 9), (66, 10), (66, 11), (66, 12), (66, 19), (66, 21), (66, 22), (66, 23), (66, 24), (66, 40), (66, 41), (66, 58), (66, 67), (66, 82), (66, 95)] [67, 68, 69, 70, 71] h (mm_pa h21 70 x17_3 0) := mm_fr_pa f21 (by decide)
        obtain ⟨h22, eh22⟩ : ∃ z, z = mm_pa h21 70 x17_3 0 := ⟨_, rfl⟩
        rw [← eh22] at i22 f22 ⊢
        have qh22_251 : h22.1 66 1 = h21.1 66 1 := by rw [eh22]; rfl
        have qh22_252 : h22.1 66 2 = h21.1 66 2 := by rw [eh22]; rfl
        have qh22_253 : h22.1 66 3 = h21.1 66 3 := by rw [eh22]; rfl
        have qh22_254 : h22.1 66 9 = h21.1 66 9 := by rw [eh22]; rfl
        have qh22_255 : h22.1 66 10 = h21.1 66 10 := by rw [eh22]; rfl
        have qh22_256 : h22.1 66 58 = h21.1 66 58 := by rw [eh22]; rfl
        have qh22_257 : h22.1 66 67 = h21.1 66 67 := by rw [eh22]; rfl
        refine mm_aload_n C (mm_dec dk_X12_anew 29 rfl) rfl ?_
        refine mm_getr (t := 71) C fl_X12_23 (mm_dec dk_X12_anew 30 rfl) rfl rfl (mm_inp_ref i22 rfl) ?_
        refine mm_iload_n C (mm_dec dk_X12_anew 31 rfl) rfl ?_
        refine mm_iconst C (mm_dec dk_X12_anew 32 rfl) ⟨by decide, by decide⟩ ?_
        refine mm_zast C (mm_dec dk_X12_anew 33 rfl) rfl (by omega) (by omega) (by omega) ?_
        have i23 : mm_in2 (mm_pa h22 71 x17_3 0) := mm_inp_pa i22 (show 0 ≤ 0 ∧ 0 ≤ 1 from ⟨by omega, by omega⟩)
        have f23 : mm_fr [(66, 1), (66, 2), (66, 3), (66, 9), (66, 10), (66, 11), (66, 12), (66, 19), (66, 21), (66, 22), (66, 23), (66, 24), (66, 40), (66, 41), (66, 58), (66, 67), (66, 82), (66, 95)] [67, 68, 69, 70, 71] h (mm_pa h22 71 x17_3 0) := mm_fr_pa f22 (by decide)
        obtain ⟨h23, eh23⟩ : ∃ z, z = mm_pa h22 71 x17_3 0 := ⟨_, rfl⟩
        rw [← eh23] at i23 f23 ⊢
        have qh23_258 : h23.1 66 1 = h22.1 66 1 := by rw [eh23]; rfl
        have qh23_259 : h23.1 66 2 = h22.1 66 2 := by rw [eh23]; rfl
        have qh23_260 : h23.1 66 3 = h22.1 66 3 := by rw [eh23]; rfl
        have qh23_261 : h23.1 66 9 = h22.1 66 9 := by rw [eh23]; rfl
        have qh23_262 : h23.1 66 10 = h22.1 66 10 := by rw [eh23]; rfl
        have qh23_263 : h23.1 66 58 = h22.1 66 58 := by rw [eh23]; rfl
        have qh23_264 : h23.1 66 67 = h22.1 66 67 := by rw [eh23]; rfl
        refine mm_iincL (ls2 := [mR 66, mU, mU, mI (x17_3 + 1)]) C (mm_dec dk_X12_anew 34 rfl) rfl (by decide) ⟨by omega, by omega⟩ rfl ?_
        refine mm_goto (tgt := 17) C (mm_dec dk_X12_anew 35 rfl) (by decide) ?_
        exact ih17 (x17_3 + 1) ⟨by omega, by omega⟩ h23 i23 f23 (by first | exact mm_al_nil (by omega) | (rw [show x17_3 + 1 - 1 = x17_3 by omega]; exact mm_al_sm (mm_al_put w17_0 eh20) (fun _ => ((mm_sm_pa 67 eh23 (by decide) _).trans ((mm_sm_pa 67 eh22 (by decide) _).trans (mm_sm_pa 67 eh21 (by decide) _)))))) (by first | exact mm_al_nil (by omega) | (rw [show x17_3 + 1 - 1 = x17_3 by omega]; exact mm_al_sm (mm_al_put (mm_al_sm w17_1 (fun _ => (mm_sm_pa 68 eh20 (by decide) _))) eh21) (fun _ => ((mm_sm_pa 68 eh23 (by decide) _).trans (mm_sm_pa 68 eh22 (by decide) _))))) (by first | exact mm_al_nil (by omega) | (rw [show x17_3 + 1 - 1 = x17_3 by omega]; exact mm_al_sm (mm_al_put (mm_al_sm w17_2 (fun _ => ((mm_sm_pa 70 eh21 (by decide) _).trans (mm_sm_pa 70 eh20 (by decide) _)))) eh22) (fun _ => (mm_sm_pa 70 eh23 (by decide) _)))) (by first | exact mm_al_nil (by omega) | (rw [show x17_3 + 1 - 1 = x17_3 by omega]; exact mm_al_sm (mm_al_put (mm_al_sm w17_3 (fun _ => ((mm_sm_pa 71 eh22 (by decide) _).trans ((mm_sm_pa 71 eh21 (by decide) _).trans (mm_sm_pa 71 eh20 (by decide) _))))) eh23) (fun _ => rfl))) (by omega) (by omega) (by omega) (by omega)
  refine mm_istore_nL (ls2 := [mR 66, mI p1, mI p2, mI 0]) C (mm_dec dk_X12_anew 10 rfl) (by decide) rfl ?_
  refine mm_fgt 1 ?_
  refine mm_fgt 2 ?_
  exact J17 (((400 - 0) : Int) + 1).toNat 0 ⟨by omega, by omega⟩ h3 i3 f3 (by first | exact mm_al_nil (by omega) | (rw [show x17_3 + 1 - 1 = x17_3 by omega]; exact mm_al_sm (mm_al_put w17_0 eh20) (fun _ => ((mm_sm_pa 67 eh23 (by decide) _).trans ((mm_sm_pa 67 eh22 (by decide) _).trans (mm_sm_pa 67 eh21 (by decide) _)))))) (by first | exact mm_al_nil (by omega) | (rw [show x17_3 + 1 - 1 = x17_3 by omega]; exact mm_al_sm (mm_al_put (mm_al_sm w17_1 (fun _ => (mm_sm_pa 68 eh20 (by decide) _))) eh21) (fun _ => ((mm_sm_pa 68 eh23 (by decide) _).trans (mm_sm_pa 68 eh22 (by decide) _))))) (by first | exact mm_al_nil (by omega) | (rw [show x17_3 + 1 - 1 = x17_3 by omega]; exact mm_al_sm (mm_al_put (mm_al_sm w17_2 (fun _ => ((mm_sm_pa 70 eh21 (by decide) _).trans (mm_sm_pa 70 eh20 (by decide) _)))) eh22) (fun _ => (mm_sm_pa 70 eh23 (by decide) _)))) (by first | exact mm_al_nil (by omega) | (rw [show x17_3 + 1 - 1 = x17_3 by omega]; exact mm_al_sm (mm_al_put (mm_al_sm w17_3 (fun _ => ((mm_sm_pa 71 eh22 (by decide) _).trans ((mm_sm_pa 71 eh21 (by decide) _).trans (mm_sm_pa 71 eh20 (by decide) _))))) eh23) (fun _ => rfl))) (by omega) (by omega) (by omega) (by omega)
set_option maxRecDepth 100000 in
set_option maxHeartbeats 4000000 in
theorem c_X12_anew_x (l : Launch) (hl : l.stackTraces = false) (d : Nat) (hd : 0 ≤ d) (h : mH) (i0 : mm_inv h) (p1 : Int) (p2 : Int) (bp1 : 1 ≤ p1 ∧ p1 ≤ 20) (bp2 : 1 ≤ p2 ∧ p2 ≤ 20) : mm_Met l d yX12_anew cX12_anew 4 none [mR 66, mI p1, mI p2] h (mm_pv fun h2 => mm_inv h2 ∧ mm_fr [(66, 1), (66, 2), (66, 3), (66, 9), (66, 10), (66, 11), (66, 12), (66, 19), (66, 21), (66, 22), (66, 23), (66, 24), (66, 40), (66, 41), (66, 58), (66, 67), (66, 82), (66, 95)] [67, 68, 69, 70, 71] h h2 ∧ h2.1 66 67 = 0) mm_nx 0 0 := by
  refine mm_ofW (ls := [mR 66, mI p1, mI p2, mU]) hl (by decide) rfl (Nat.le_of_ble_eq_true rfl) ?_
  intro x hxl C T hnm htb
  subst hxl
  refine mm_rng (fun hr _ => ?_)
  have ap1 : -2147483648 ≤ p1 ∧ p1 < 2147483648 := mm_ok_at hr (i := 1) rfl
  have ap2 : -2147483648 ≤ p2 ∧ p2 < 2147483648 := mm_ok_at hr (i := 2) rfl
  have f0 : mm_fr [(66, 1), (66, 2), (66, 3), (66, 9), (66, 10), (66, 11), (66, 12), (66, 19), (66, 21), (66, 22), (66, 23), (66, 24), (66, 40), (66, 41), (66, 58), (66, 67), (66, 82), (66, 95)] [67, 68, 69, 70, 71] h h := mm_fr_rf
  have g1 : 0 ≤ h.1 66 67 ∧ h.1 66 67 ≤ 1 := i0.1 66 67
  refine mm_aload_n C (mm_dec dk_X12_anew 0 rfl) rfl ?_
  refine mm_iload_n C (mm_dec dk_X12_anew 1 rfl) rfl ?_
  refine mm_puti C fl_X12_192 (mm_dec dk_X12_anew 2 rfl) rfl rfl rfl (Or.inl ⟨rfl, rfl⟩) ?_
  have i1 : mm_inv (mm_pf h 66 1 p1) := mm_inv_pf i0 (show 1 ≤ p1 ∧ p1 ≤ 20 from ⟨by omega, by omega⟩) (by decide)
  have f1 : mm_fr [(66, 1), (66, 2), (66, 3), (66, 9), (66, 10), (66, 11), (66, 12), (66, 19), (66, 21), (66, 22), (66, 23), (66, 24), (66, 40), (66, 41), (66, 58), (66, 67), (66, 82), (66, 95)] [67, 68, 69, 70, 71] h (mm_pf h 66 1 p1) := mm_fr_pf f0 (by decide)
  obtain ⟨h1, eh1⟩ : ∃ z, z = mm_pf h 66 1 p1 := ⟨_, rfl⟩
  rw [← eh1] at i1 f1 ⊢
  have qh1 : h1.1 66 1 = p1 := by rw [eh1]; exact mm_pf_same _ _ _ _
  have qh1_2 : h1.1 66 67 = h.1 66 67 := by rw [eh1]; exact mm_pf_ne _ _ (by decide)
  refine mm_aload_n C (mm_dec dk_X12_anew 3 rfl) rfl ?_
  refine mm_iload_n C (mm_dec dk_X12_anew 4 rfl) rfl ?_
  refine mm_puti C fl_X12_195 (mm_dec dk_X12_anew 5 rfl) rfl rfl rfl (Or.inl ⟨rfl, rfl⟩) ?_
  have i2 : mm_inv (mm_pf h1 66 2 p2) := mm_inv_pf i1 (show 1 ≤ p2 ∧ p2 ≤ 20 from ⟨by omega, by omega⟩) (by decide)
  have f2 : mm_fr [(66, 1), (66, 2), (66, 3), (66, 9), (66, 10), (66, 11), (66, 12), (66, 19), (66, 21), (66, 22), (66, 23), (66, 24), (66, 40), (66, 41), (66, 58), (66, 67), (66, 82), (66, 95)] [67, 68, 69, 70, 71] h (mm_pf h1 66 2 p2) := mm_fr_pf f1 (by decide)
  obtain ⟨h2, eh2⟩ : ∃ z, z = mm_pf h1 66 2 p2 := ⟨_, rfl⟩
  rw [← eh2] at i2 f2 ⊢
  have qh2 : h2.1 66 2 = p2 := by rw [eh2]; exact mm_pf_same _ _ _ _
  have qh2_3 : h2.1 66 1 = h1.1 66 1 := by rw [eh2]; exact mm_pf_ne _ _ (by decide)
  have qh2_4 : h2.1 66 67 = h1.1 66 67 := by rw [eh2]; exact mm_pf_ne _ _ (by decide)
  refine mm_aload_n C (mm_dec dk_X12_anew 6 rfl) rfl ?_
  refine mm_iconst C (mm_dec dk_X12_anew 7 rfl) ⟨by decide, by decide⟩ ?_
  refine mm_puti C fl_X12_198 (mm_dec dk_X12_anew 8 rfl) rfl rfl rfl (Or.inl ⟨rfl, rfl⟩) ?_
  have i3 : mm_inv (mm_pf h2 66 3 2) := mm_inv_pf i2 (show 0 ≤ 2 ∧ 2 ≤ 9 from ⟨by omega, by omega⟩) (by decide)
  have f3 : mm_fr [(66, 1), (66, 2), (66, 3), (66, 9), (66, 10), (66, 11), (66, 12), (66, 19), (66, 21), (66, 22), (66, 23), (66, 24), (66, 40), (66, 41), (66, 58), (66, 67), (66, 82), (66, 95)] [67, 68, 69, 70, 71] h (mm_pf h2 66 3 2) := mm_fr_pf f2 (by decide)
  obtain ⟨h3, eh3⟩ : ∃ z, z = mm_pf h2 66 3 2 := ⟨_, rfl⟩
  rw [← eh3] at i3 f3 ⊢
  have qh3 : h3.1 66 3 = 2 := by rw [eh3]; exact mm_pf_same _ _ _ _
  have qh3_5 : h3.1 66 1 = h2.1 66 1 := by rw [eh3]; exact mm_pf_ne _ _ (by decide)
  have qh3_6 : h3.1 66 2 = h2.1 66 2 := by rw [eh3]; exact mm_pf_ne _ _ (by decide)
  have qh3_7 : h3.1 66 67 = h2.1 66 67 := by rw [eh3]; exact mm_pf_ne _ _ (by decide)
  refine mm_iconst C (mm_dec dk_X12_anew 9 rfl) ⟨by decide, by decide⟩ ?_
  have J17 : ∀ (n : Nat) (x17_3 : Int) (bx17_3 : 0 ≤ x17_3 ∧ x17_3 ≤ 400) (h17_ : mH) (i17_ : mm_inv h17_) (f17_ : mm_fr [(66, 1), (66, 2), (66, 3), (66, 9), (66, 10), (66, 11), (66, 12), (66, 19), (66, 21), (66, 22), (66, 23), (66, 24), (66, 40), (66, 41), (66, 58), (66, 67), (66, 82), (66, 95)] [67, 68, 69, 70, 71] h h17_), (400 - x17_3 : Int) < n → mm_W x 0 0 17 [mR 66, mU, mU, mI x17_3] [] h17_ := by
    intro n
    induction n with
    | zero =>
      intro x17_3 bx17_3 h17_ i17_ f17_ hm
      have g8 : 0 ≤ h17_.1 66 67 ∧ h17_.1 66 67 ≤ 1 := i17_.1 66 67
      exfalso; omega
    | succ n ih17 =>
      intro x17_3 bx17_3 h17_ i17_ f17_ hm17
      have g9 : 0 ≤ h17_.1 66 67 ∧ h17_.1 66 67 ≤ 1 := i17_.1 66 67
      refine mm_iload_n C (mm_dec dk_X12_anew 11 rfl) rfl ?_
      refine mm_sipush C (mm_dec dk_X12_anew 12 rfl) ⟨by decide, by decide⟩ ?_
      refine mm_icmp_ge (tgt := 58) C (mm_dec dk_X12_anew 13 rfl) (by decide) (fun c21 => ?_) (fun c21 => ?_)
      · skip
        refine mm_iconst C (mm_dec dk_X12_anew 36 rfl) ⟨by decide, by decide⟩ ?_
        have J60 : ∀ (n : Nat) (x60_3 : Int) (bx60_3 : 0 ≤ x60_3 ∧ x60_3 ≤ 8) (h60_ : mH) (i60_ : mm_inv h60_) (f60_ : mm_fr [(66, 1), (66, 2), (66, 3), (66, 9), (66, 10), (66, 11), (66, 12), (66, 19), (66, 21), (66, 22), (66, 23), (66, 24), (66, 40), (66, 41), (66, 58), (66, 67), (66, 82), (66, 95)] [67, 68, 69, 70, 71] h h60_), (8 - x60_3 : Int) < n → mm_W x 0 0 60 [mR 66, mU, mU, mI x60_3] [] h60_ := by
          intro n
          induction n with
          | zero =>
            intro x60_3 bx60_3 h60_ i60_ f60_ hm
            have g10 : 0 ≤ h60_.1 66 67 ∧ h60_.1 66 67 ≤ 1 := i60_.1 66 67
            exfalso; omega
          | succ n ih60 =>
            intro x60_3 bx60_3 h60_ i60_ f60_ hm60
            have g11 : 0 ≤ h60_.1 66 67 ∧ h60_.1 66 67 ≤ 1 := i60_.1 66 67
            refine mm_iload_n C (mm_dec dk_X12_anew 38 rfl) rfl ?_
            refine mm_bipush C (mm_dec dk_X12_anew 39 rfl) ⟨by decide, by decide⟩ ?_
            refine mm_icmp_ge (tgt := 79) C (mm_dec dk_X12_anew 40 rfl) (by decide) (fun c63 => ?_) (fun c63 => ?_)
            · skip
              refine mm_aload_n C (mm_dec dk_X12_anew 48 rfl) rfl ?_
              refine mm_iconst C (mm_dec dk_X12_anew 49 rfl) ⟨by decide, by decide⟩ ?_
              refine mm_puti C fl_X12_201 (mm_dec dk_X12_anew 50 rfl) rfl rfl rfl (Or.inl ⟨rfl, rfl⟩) ?_
              have i4 : mm_inv (mm_pf h60_ 66 9 0) := mm_inv_pf i60_ (show 0 ≤ 0 ∧ 0 ≤ 19 from ⟨by omega, by omega⟩) (by decide)
              have f4 : mm_fr [(66, 1), (66, 2), (66, 3), (66, 9), (66, 10), (66, 11), (66, 12), (66, 19), (66, 21), (66, 22), (66, 23), (66, 24), (66, 40), (66, 41), (66, 58), (66, 67), (66, 82), (66, 95)] [67, 68, 69, 70, 71] h (mm_pf h60_ 66 9 0) := mm_fr_pf f60_ (by decide)
              obtain ⟨h4, eh4⟩ : ∃ z, z = mm_pf h60_ 66 9 0 := ⟨_, rfl⟩
              rw [← eh4] at i4 f4 ⊢
              have qh4 : h4.1 66 9 = 0 := by rw [eh4]; exact mm_pf_same _ _ _ _
              have qh4_12 : h4.1 66 67 = h60_.1 66 67 := by rw [eh4]; exact mm_pf_ne _ _ (by decide)
              refine mm_aload_n C (mm_dec dk_X12_anew 51 rfl) rfl ?_
              refine mm_iconst C (mm_dec dk_X12_anew 52 rfl) ⟨by decide, by decide⟩ ?_
              refine mm_puti C fl_X12_204 (mm_dec dk_X12_anew 53 rfl) rfl rfl rfl (Or.inl ⟨rfl, rfl⟩) ?_
              have i5 : mm_inv (mm_pf h4 66 10 0) := mm_inv_pf i4 (show 0 ≤ 0 ∧ 0 ≤ 19 from ⟨by omega, by omega⟩) (by decide)
              have f5 : mm_fr [(66, 1), (66, 2), (66, 3), (66, 9), (66, 10), (66, 11), (66, 12), (66, 19), (66, 21), (66, 22), (66, 23), (66, 24), (66, 40), (66, 41), (66, 58), (66, 67), (66, 82), (66, 95)] [67, 68, 69, 70, 71] h (mm_pf h4 66 10 0) := mm_fr_pf f4 (by decide)
              obtain ⟨h5, eh5⟩ : ∃ z, z = mm_pf h4 66 10 0 := ⟨_, rfl⟩
              rw [← eh5] at i5 f5 ⊢
              have qh5 : h5.1 66 10 = 0 := by rw [eh5]; exact mm_pf_same _ _ _ _
              have qh5_13 : h5.1 66 9 = h4.1 66 9 := by rw [eh5]; exact mm_pf_ne _ _ (by decide)
              have qh5_14 : h5.1 66 67 = h4.1 66 67 := by rw [eh5]; exact mm_pf_ne _ _ (by decide)
              refine mm_aload_n C (mm_dec dk_X12_anew 54 rfl) rfl ?_
              refine mm_iconst C (mm_dec dk_X12_anew 55 rfl) ⟨by decide, by decide⟩ ?_
              refine mm_puti C fl_X12_207 (mm_dec dk_X12_anew 56 rfl) rfl rfl rfl (Or.inl ⟨rfl, rfl⟩) ?_
              have i6 : mm_inv (mm_pf h5 66 11 0) := mm_inv_pf i5 (show 0 ≤ 0 ∧ 0 ≤ 19 from ⟨by omega, by omega⟩) (by decide)
              have f6 : mm_fr [(66, 1), (66, 2), (66, 3), (66, 9), (66, 10), (66, 11), (66, 12), (66, 19), (66, 21), (66, 22), (66, 23), (66, 24), (66, 40), (66, 41), (66, 58), (66, 67), (66, 82), (66, 95)] [67, 68, 69, 70, 71] h (mm_pf h5 66 11 0) := mm_fr_pf f5 (by decide)
              obtain ⟨h6, eh6⟩ : ∃ z, z = mm_pf h5 66 11 0 := ⟨_, rfl⟩
              rw [← eh6] at i6 f6 ⊢
              have qh6 : h6.1 66 11 = 0 := by rw [eh6]; exact mm_pf_same _ _ _ _
              have qh6_15 : h6.1 66 9 = h5.1 66 9 := by rw [eh6]; exact mm_pf_ne _ _ (by decide)
              have qh6_16 : h6.1 66 10 = h5.1 66 10 := by rw [eh6]; exact mm_pf_ne _ _ (by decide)
              have qh6_17 : h6.1 66 67 = h5.1 66 67 := by rw [eh6]; exact mm_pf_ne _ _ (by decide)
              refine mm_aload_n C (mm_dec dk_X12_anew 57 rfl) rfl ?_
              refine mm_iconst C (mm_dec dk_X12_anew 58 rfl) ⟨by decide, by decide⟩ ?_
              refine mm_puti C fl_X12_210 (mm_dec dk_X12_anew 59 rfl) rfl rfl rfl (Or.inl ⟨rfl, rfl⟩) ?_
              have i7 : mm_inv (mm_pf h6 66 12 0) := mm_inv_pf i6 (show 0 ≤ 0 ∧ 0 ≤ 19 from ⟨by omega, by omega⟩) (by decide)
              have f7 : mm_fr [(66, 1), (66, 2), (66, 3), (66, 9), (66, 10), (66, 11), (66, 12), (66, 19), (66, 21), (66, 22), (66, 23), (66, 24), (66, 40), (66, 41), (66, 58), (66, 67), (66, 82), (66, 95)] [67, 68, 69, 70, 71] h (mm_pf h6 66 12 0) := mm_fr_pf f6 (by decide)
              obtain ⟨h7, eh7⟩ : ∃ z, z = mm_pf h6 66 12 0 := ⟨_, rfl⟩
              rw [← eh7] at i7 f7 ⊢
              have qh7 : h7.1 66 12 = 0 := by rw [eh7]; exact mm_pf_same _ _ _ _
              have qh7_18 : h7.1 66 9 = h6.1 66 9 := by rw [eh7]; exact mm_pf_ne _ _ (by decide)
              have qh7_19 : h7.1 66 10 = h6.1 66 10 := by rw [eh7]; exact mm_pf_ne _ _ (by decide)
              have qh7_20 : h7.1 66 11 = h6.1 66 11 := by rw [eh7]; exact mm_pf_ne _ _ (by decide)
              have qh7_21 : h7.1 66 67 = h6.1 66 67 := by rw [eh7]; exact mm_pf_ne _ _ (by decide)
              refine mm_aload_n C (mm_dec dk_X12_anew 60 rfl) rfl ?_
              refine mm_iconst C (mm_dec dk_X12_anew 61 rfl) ⟨by decide, by decide⟩ ?_
              refine mm_puti C fl_X12_213 (mm_dec dk_X12_anew 62 rfl) rfl rfl rfl (Or.inl ⟨rfl, rfl⟩) ?_
              have i8 : mm_inv (mm_pf h7 66 19 (-1)) := mm_inv_pf i7 (show -1 ≤ (-1) ∧ (-1) ≤ 400 from ⟨by omega, by omega⟩) (by decide)
              have f8 : mm_fr [(66, 1), (66, 2), (66, 3), (66, 9), (66, 10), (66, 11), (66, 12), (66, 19), (66, 21), (66, 22), (66, 23), (66, 24), (66, 40), (66, 41), (66, 58), (66, 67), (66, 82), (66, 95)] [67, 68, 69, 70, 71] h (mm_pf h7 66 19 (-1)) := mm_fr_pf f7 (by decide)
              obtain ⟨h8, eh8⟩ : ∃ z, z = mm_pf h7 66 19 (-1) := ⟨_, rfl⟩
              rw [← eh8] at i8 f8 ⊢
              have qh8 : h8.1 66 19 = (-1) := by rw [eh8]; exact mm_pf_same _ _ _ _
              have qh8_22 : h8.1 66 9 = h7.1 66 9 := by rw [eh8]; exact mm_pf_ne _ _ (by decide)
              have qh8_23 : h8.1 66 10 = h7.1 66 10 := by rw [eh8]; exact mm_pf_ne _ _ (by decide)
              have qh8_24 : h8.1 66 11 = h7.1 66 11 := by rw [eh8]; exact mm_pf_ne _ _ (by decide)
              have qh8_25 : h8.1 66 12 = h7.1 66 12 := by rw [eh8]; exact mm_pf_ne _ _ (by decide)
              have qh8_26 : h8.1 66 67 = h7.1 66 67 := by rw [eh8]; exact mm_pf_ne _ _ (by decide)
              refine mm_aload_n C (mm_dec dk_X12_anew 63 rfl) rfl ?_
              refine mm_iconst C (mm_dec dk_X12_anew 64 rfl) ⟨by decide, by decide⟩ ?_
              refine mm_puti C fl_X12_216 (mm_dec dk_X12_anew 65 rfl) rfl rfl rfl (Or.inl ⟨rfl, rfl⟩) ?_
              have i9 : mm_inv (mm_pf h8 66 21 0) := mm_inv_pf i8 (show 0 ≤ 0 ∧ 0 ≤ 20 from ⟨by omega, by omega⟩) (by decide)
              have f9 : mm_fr [(66, 1), (66, 2), (66, 3), (66, 9), (66, 10), (66, 11), (66, 12), (66, 19), (66, 21), (66, 22), (66, 23), (66, 24), (66, 40), (66, 41), (66, 58), (66, 67), (66, 82), (66, 95)] [67, 68, 69, 70, 71] h (mm_pf h8 66 21 0) := mm_fr_pf f8 (by decide)
              obtain ⟨h9, eh9⟩ : ∃ z, z = mm_pf h8 66 21 0 := ⟨_, rfl⟩
              rw [← eh9] at i9 f9 ⊢
              have qh9 : h9.1 66 21 = 0 := by rw [eh9]; exact mm_pf_same _ _ _ _
              have qh9_27 : h9.1 66 9 = h8.1 66 9 := by rw [eh9]; exact mm_pf_ne _ _ (by decide)
              have qh9_28 : h9.1 66 10 = h8.1 66 10 := by rw [eh9]; exact mm_pf_ne _ _ (by decide)
              have qh9_29 : h9.1 66 11 = h8.1 66 11 := by rw [eh9]; exact mm_pf_ne _ _ (by decide)
              have qh9_30 : h9.1 66 12 = h8.1 66 12 := by rw [eh9]; exact mm_pf_ne _ _ (by decide)
              have qh9_31 : h9.1 66 19 = h8.1 66 19 := by rw [eh9]; exact mm_pf_ne _ _ (by decide)
              have qh9_32 : h9.1 66 67 = h8.1 66 67 := by rw [eh9]; exact mm_pf_ne _ _ (by decide)
              refine mm_aload_n C (mm_dec dk_X12_anew 66 rfl) rfl ?_
              refine mm_iconst C (mm_dec dk_X12_anew 67 rfl) ⟨by decide, by decide⟩ ?_
              refine mm_puti C fl_X12_219 (mm_dec dk_X12_anew 68 rfl) rfl rfl rfl (Or.inl ⟨rfl, rfl⟩) ?_
              have i10 : mm_inv (mm_pf h9 66 22 0) := mm_inv_pf i9 (show 0 ≤ 0 ∧ 0 ≤ 8 from ⟨by omega, by omega⟩) (by decide)
              have f10 : mm_fr [(66, 1), (66, 2), (66, 3), (66, 9), (66, 10), (66, 11), (66, 12), (66, 19), (66, 21), (66, 22), (66, 23), (66, 24), (66, 40), (66, 41), (66, 58), (66, 67), (66, 82), (66, 95)] [67, 68, 69, 70, 71] h (mm_pf h9 66 22 0) := mm_fr_pf f9 (by decide)
              obtain ⟨h10, eh10⟩ : ∃ z, z = mm_pf h9 66 22 0 := ⟨_, rfl⟩
              rw [← eh10] at i10 f10 ⊢
              have qh10 : h10.1 66 22 = 0 := by rw [eh10]; exact mm_pf_same _ _ _ _
              have qh10_33 : h10.1 66 9 = h9.1 66 9 := by rw [eh10]; exact mm_pf_ne _ _ (by decide)
              have qh10_34 : h10.1 66 10 = h9.1 66 10 := by rw [eh10]; exact mm_pf_ne _ _ (by decide)
              have qh10_35 : h10.1 66 11 = h9.1 66 11 := by rw [eh10]; exact mm_pf_ne _ _ (by decide)
              have qh10_36 : h10.1 66 12 = h9.1 66 12 := by rw [eh10]; exact mm_pf_ne _ _ (by decide)
              have qh10_37 : h10.1 66 19 = h9.1 66 19 := by rw [eh10]; exact mm_pf_ne _ _ (by decide)
              have qh10_38 : h10.1 66 21 = h9.1 66 21 := by rw [eh10]; exact mm_pf_ne _ _ (by decide)
              have qh10_39 : h10.1 66 67 = h9.1 66 67 := by rw [eh10]; exact mm_pf_ne _ _ (by decide)
              refine mm_aload_n C (mm_dec dk_X12_anew 69 rfl) rfl ?_
              refine mm_iconst C (mm_dec dk_X12_anew 70 rfl) ⟨by decide, by decide⟩ ?_
              refine mm_puti C fl_X12_222 (mm_dec dk_X12_anew 71 rfl) rfl rfl rfl (Or.inl ⟨rfl, rfl⟩) ?_
              have i11 : mm_inv (mm_pf h10 66 23 0) := mm_inv_pf i10 (show 0 ≤ 0 ∧ 0 ≤ 40 from ⟨by omega, by omega⟩) (by decide)
              have f11 : mm_fr [(66, 1), (66, 2), (66, 3), (66, 9), (66, 10), (66, 11), (66, 12), (66, 19), (66, 21), (66, 22), (66, 23), (66, 24), (66, 40), (66, 41), (66, 58), (66, 67), (66, 82), (66, 95)] [67, 68, 69, 70, 71] h (mm_pf h10 66 23 0) := mm_fr_pf f10 (by decide)
              obtain ⟨h11, eh11⟩ : ∃ z, z = mm_pf h10 66 23 0 := ⟨_, rfl⟩
              rw [← eh11] at i11 f11 ⊢
              have qh11 : h11.1 66 23 = 0 := by rw [eh11]; exact mm_pf_same _ _ _ _
              have qh11_40 : h11.1 66 9 = h10.1 66 9 := by rw [eh11]; exact mm_pf_ne _ _ (by decide)
              have qh11_41 : h11.1 66 10 = h10.1 66 10 := by rw [eh11]; exact mm_pf_ne _ _ (by decide)
              have qh11_42 : h11.1 66 11 = h10.1 66 11 := by rw [eh11]; exact mm_pf_ne _ _ (by decide)
              have qh11_43 : h11.1 66 12 = h10.1 66 12 := by rw [eh11]; exact mm_pf_ne _ _ (by decide)
              have qh11_44 : h11.1 66 19 = h10.1 66 19 := by rw [eh11]; exact mm_pf_ne _ _ (by decide)
              have qh11_45 : h11.1 66 21 = h10.1 66 21 := by rw [eh11]; exact mm_pf_ne _ _ (by decide)
              have qh11_46 : h11.1 66 22 = h10.1 66 22 := by rw [eh11]; exact mm_pf_ne _ _ (by decide)
              have qh11_47 : h11.1 66 67 = h10.1 66 67 := by rw [eh11]; exact mm_pf_ne _ _ (by decide)
              refine mm_aload_n C (mm_dec dk_X12_anew 72 rfl) rfl ?_
              refine mm_iconst C (mm_dec dk_X12_anew 73 rfl) ⟨by decide, by decide⟩ ?_
              refine mm_puti C fl_X12_225 (mm_dec dk_X12_anew 74 rfl) rfl rfl rfl (Or.inl ⟨rfl, rfl⟩) ?_
              have i12 : mm_inv (mm_pf h11 66 24 0) := mm_inv_pf i11 (show 0 ≤ 0 ∧ 0 ≤ 10 from ⟨by omega, by omega⟩) (by decide)
              have f12 : mm_fr [(66, 1), (66, 2), (66, 3), (66, 9), (66, 10), (66, 11), (66, 12), (66, 19), (66, 21), (66, 22), (66, 23), (66, 24), (66, 40), (66, 41), (66, 58), (66, 67), (66, 82), (66, 95)] [67, 68, 69, 70, 71] h (mm_pf h11 66 24 0) := mm_fr_pf f11 (by decide)
              obtain ⟨h12, eh12⟩ : ∃ z, z = mm_pf h11 66 24 0 := ⟨_, rfl⟩
              rw [← eh12] at i12 f12 ⊢
              have qh12 : h12.1 66 24 = 0 := by rw [eh12]; exact mm_pf_same _ _ _ _
              have qh12_48 : h12.1 66 9 = h11.1 66 9 := by rw [eh12]; exact mm_pf_ne _ _ (by decide)
              have qh12_49 : h12.1 66 10 = h11.1 66 10 := by rw [eh12]; exact mm_pf_ne _ _ (by decide)
              have qh12_50 : h12.1 66 11 = h11.1 66 11 := by rw [eh12]; exact mm_pf_ne _ _ (by decide)
              have qh12_51 : h12.1 66 12 = h11.1 66 12 := by rw [eh12]; exact mm_pf_ne _ _ (by decide)
              have qh12_52 : h12.1 66 19 = h11.1 66 19 := by rw [eh12]; exact mm_pf_ne _ _ (by decide)
              have qh12_53 : h12.1 66 21 = h11.1 66 21 := by rw [eh12]; exact mm_pf_ne _ _ (by decide)
              have qh12_54 : h12.1 66 22 = h11.1 66 22 := by rw [eh12]; exact mm_pf_ne _ _ (by decide)
              have qh12_55 : h12.1 66 23 = h11.1 66 23 := by rw [eh12]; exact mm_pf_ne _ _ (by decide)
              have qh12_56 : h12.1 66 67 = h11.1 66 67 := by rw [eh12]; exact mm_pf_ne _ _ (by decide)
              refine mm_aload_n C (mm_dec dk_X12_anew 75 rfl) rfl ?_
              refine mm_iconst C (mm_dec dk_X12_anew 76 rfl) ⟨by decide, by decide⟩ ?_
              refine mm_puti C fl_X12_228 (mm_dec dk_X12_anew 77 rfl) rfl rfl rfl (Or.inl ⟨rfl, rfl⟩) ?_
              have i13 : mm_inv (mm_pf h12 66 40 0) := mm_inv_pf i12 (show 0 ≤ 0 ∧ 0 ≤ 500 from ⟨by omega, by omega⟩) (by decide)
              have f13 : mm_fr [(66, 1), (66, 2), (66, 3), (66, 9), (66, 10), (66, 11), (66, 12), (66, 19), (66, 21), (66, 22), (66, 23), (66, 24), (66, 40), (66, 41), (66, 58), (66, 67), (66, 82), (66, 95)] [67, 68, 69, 70, 71] h (mm_pf h12 66 40 0) := mm_fr_pf f12 (by decide)
              obtain ⟨h13, eh13⟩ : ∃ z, z = mm_pf h12 66 40 0 := ⟨_, rfl⟩
              rw [← eh13] at i13 f13 ⊢
              have qh13 : h13.1 66 40 = 0 := by rw [eh13]; exact mm_pf_same _ _ _ _
              have qh13_57 : h13.1 66 9 = h12.1 66 9 := by rw [eh13]; exact mm_pf_ne _ _ (by decide)
              have qh13_58 : h13.1 66 10 = h12.1 66 10 := by rw [eh13]; exact mm_pf_ne _ _ (by decide)
              have qh13_59 : h13.1 66 11 = h12.1 66 11 := by rw [eh13]; exact mm_pf_ne _ _ (by decide)
              have qh13_60 : h13.1 66 12 = h12.1 66 12 := by rw [eh13]; exact mm_pf_ne _ _ (by decide)
              have qh13_61 : h13.1 66 19 = h12.1 66 19 := by rw [eh13]; exact mm_pf_ne _ _ (by decide)
              have qh13_62 : h13.1 66 21 = h12.1 66 21 := by rw [eh13]; exact mm_pf_ne _ _ (by decide)
              have qh13_63 : h13.1 66 22 = h12.1 66 22 := by rw [eh13]; exact mm_pf_ne _ _ (by decide)
              have qh13_64 : h13.1 66 23 = h12.1 66 23 := by rw [eh13]; exact mm_pf_ne _ _ (by decide)
              have qh13_65 : h13.1 66 24 = h12.1 66 24 := by rw [eh13]; exact mm_pf_ne _ _ (by decide)
              have qh13_66 : h13.1 66 67 = h12.1 66 67 := by rw [eh13]; exact mm_pf_ne _ _ (by decide)
              refine mm_aload_n C (mm_dec dk_X12_anew 78 rfl) rfl ?_
              refine mm_iconst C (mm_dec dk_X12_anew 79 rfl) ⟨by decide, by decide⟩ ?_
              refine mm_puti C fl_X12_231 (mm_dec dk_X12_anew 80 rfl) rfl rfl rfl (Or.inl ⟨rfl, rfl⟩) ?_
              have i14 : mm_inv (mm_pf h13 66 82 0) := mm_inv_pf i13 (show 0 ≤ 0 ∧ 0 ≤ 40 from ⟨by omega, by omega⟩) (by decide)
              have f14 : mm_fr [(66, 1), (66, 2), (66, 3), (66, 9), (66, 10), (66, 11), (66, 12), (66, 19), (66, 21), (66, 22), (66, 23), (66, 24), (66, 40), (66, 41), (66, 58), (66, 67), (66, 82), (66, 95)] [67, 68, 69, 70, 71] h (mm_pf h13 66 82 0) := mm_fr_pf f13 (by decide)
              obtain ⟨h14, eh14⟩ : ∃ z, z = mm_pf h13 66 82 0 := ⟨_, rfl⟩
              rw [← eh14] at i14 f14 ⊢
              have qh14 : h14.1 66 82 = 0 := by rw [eh14]; exact mm_pf_same _ _ _ _
              have qh14_67 : h14.1 66 9 = h13.1 66 9 := by rw [eh14]; exact mm_pf_ne _ _ (by decide)
              have qh14_68 : h14.1 66 10 = h13.1 66 10 := by rw [eh14]; exact mm_pf_ne _ _ (by decide)
              have qh14_69 : h14.1 66 11 = h13.1 66 11 := by rw [eh14]; exact mm_pf_ne _ _ (by decide)
              have qh14_70 : h14.1 66 12 = h13.1 66 12 := by rw [eh14]; exact mm_pf_ne _ _ (by decide)
              have qh14_71 : h14.1 66 19 = h13.1 66 19 := by rw [eh14]; exact mm_pf_ne _ _ (by decide)
              have qh14_72 : h14.1 66 21 = h13.1 66 21 := by rw [eh14]; exact mm_pf_ne _ _ (by decide)
              have qh14_73 : h14.1 66 22 = h13.1 66 22 := by rw [eh14]; exact mm_pf_ne _ _ (by decide)
              have qh14_74 : h14.1 66 23 = h13.1 66 23 := by rw [eh14]; exact mm_pf_ne _ _ (by decide)
              have qh14_75 : h14.1 66 24 = h13.1 66 24 := by rw [eh14]; exact mm_pf_ne _ _ (by decide)
              have qh14_76 : h14.1 66 40 = h13.1 66 40 := by rw [eh14]; exact mm_pf_ne _ _ (by decide)
              have qh14_77 : h14.1 66 67 = h13.1 66 67 := by rw [eh14]; exact mm_pf_ne _ _ (by decide)
              refine mm_aload_n C (mm_dec dk_X12_anew 81 rfl) rfl ?_
              refine mm_iconst C (mm_dec dk_X12_anew 82 rfl) ⟨by decide, by decide⟩ ?_
              refine mm_puti C fl_X12_234 (mm_dec dk_X12_anew 83 rfl) rfl rfl rfl (Or.inl ⟨rfl, rfl⟩) ?_
              have i15 : mm_inv (mm_pf h14 66 41 0) := mm_inv_pf i14 (show 0 ≤ 0 ∧ 0 ≤ 99999 from ⟨by omega, by omega⟩) (by decide)
              have f15 : mm_fr [(66, 1), (66, 2), (66, 3), (66, 9), (66, 10), (66, 11), (66, 12), (66, 19), (66, 21), (66, 22), (66, 23), (66, 24), (66, 40), (66, 41), (66, 58), (66, 67), (66, 82), (66, 95)] [67, 68, 69, 70, 71] h (mm_pf h14 66 41 0) := mm_fr_pf f14 (by decide)
              obtain ⟨h15, eh15⟩ : ∃ z, z = mm_pf h14 66 41 0 := ⟨_, rfl⟩
              rw [← eh15] at i15 f15 ⊢
              have qh15 : h15.1 66 41 = 0 := by rw [eh15]; exact mm_pf_same _ _ _ _
              have qh15_78 : h15.1 66 9 = h14.1 66 9 := by rw [eh15]; exact mm_pf_ne _ _ (by decide)
              have qh15_79 : h15.1 66 10 = h14.1 66 10 := by rw [eh15]; exact mm_pf_ne _ _ (by decide)
              have qh15_80 : h15.1 66 11 = h14.1 66 11 := by rw [eh15]; exact mm_pf_ne _ _ (by decide)
              have qh15_81 : h15.1 66 12 = h14.1 66 12 := by rw [eh15]; exact mm_pf_ne _ _ (by decide)
              have qh15_82 : h15.1 66 19 = h14.1 66 19 := by rw [eh15]; exact mm_pf_ne _ _ (by decide)
              have qh15_83 : h15.1 66 21 = h14.1 66 21 := by rw [eh15]; exact mm_pf_ne _ _ (by decide)
              have qh15_84 : h15.1 66 22 = h14.1 66 22 := by rw [eh15]; exact mm_pf_ne _ _ (by decide)
              have qh15_85 : h15.1 66 23 = h14.1 66 23 := by rw [eh15]; exact mm_pf_ne _ _ (by decide)
              have qh15_86 : h15.1 66 24 = h14.1 66 24 := by rw [eh15]; exact mm_pf_ne _ _ (by decide)
              have qh15_87 : h15.1 66 40 = h14.1 66 40 := by rw [eh15]; exact mm_pf_ne _ _ (by decide)
              have qh15_88 : h15.1 66 67 = h14.1 66 67 := by rw [eh15]; exact mm_pf_ne _ _ (by decide)
              have qh15_89 : h15.1 66 82 = h14.1 66 82 := by rw [eh15]; exact mm_pf_ne _ _ (by decide)
              refine mm_aload_n C (mm_dec dk_X12_anew 84 rfl) rfl ?_
              refine mm_iconst C (mm_dec dk_X12_anew 85 rfl) ⟨by decide, by decide⟩ ?_
              refine mm_puti C fl_X12_237 (mm_dec dk_X12_anew 86 rfl) rfl rfl rfl (Or.inl ⟨rfl, rfl⟩) ?_
              have i16 : mm_inv (mm_pf h15 66 58 (-1)) := mm_inv_pf i15 (show -2147483648 ≤ (-1) ∧ (-1) ≤ 2147483647 from ⟨by omega, by omega⟩) (by decide)
              have f16 : mm_fr [(66, 1), (66, 2), (66, 3), (66, 9), (66, 10), (66, 11), (66, 12), (66, 19), (66, 21), (66, 22), (66, 23), (66, 24), (66, 40), (66, 41), (66, 58), (66, 67), (66, 82), (66, 95)] [67, 68, 69, 70, 71] h (mm_pf h15 66 58 (-1)) := mm_fr_pf f15 (by decide)
              obtain ⟨h16, eh16⟩ : ∃ z, z = mm_pf h15 66 58 (-1) := ⟨_, rfl⟩
              rw [← eh16] at i16 f16 ⊢
              have qh16 : h16.1 66 58 = (-1) := by rw [eh16]; exact mm_pf_same _ _ _ _
              have qh16_90 : h16.1 66 9 = h15.1 66 9 := by rw [eh16]; exact mm_pf_ne _ _ (by decide)
              have qh16_91 : h16.1 66 10 = h15.1 66 10 := by rw [eh16]; exact mm_pf_ne _ _ (by decide)
              have qh16_92 : h16.1 66 11 = h15.1 66 11 := by rw [eh16]; exact mm_pf_ne _ _ (by decide)
              have qh16_93 : h16.1 66 12 = h15.1 66 12 := by rw [eh16]; exact mm_pf_ne _ _ (by decide)
              have qh16_94 : h16.1 66 19 = h15.1 66 19 := by rw [eh16]; exact mm_pf_ne _ _ (by decide)
              have qh16_95 : h16.1 66 21 = h15.1 66 21 := by rw [eh16]; exact mm_pf_ne _ _ (by decide)
              have qh16_96 : h16.1 66 22 = h15.1 66 22 := by rw [eh16]; exact mm_pf_ne _ _ (by decide)
              have qh16_97 : h16.1 66 23 = h15.1 66 23 := by rw [eh16]; exact mm_pf_ne _ _ (by decide)
              have qh16_98 : h16.1 66 24 = h15.1 66 24 := by rw [eh16]; exact mm_pf_ne _ _ (by decide)
              have qh16_99 : h16.1 66 40 = h15.1 66 40 := by rw [eh16]; exact mm_pf_ne _ _ (by decide)
              have qh16_100 : h16.1 66 41 = h15.1 66 41 := by rw [eh16]; exact mm_pf_ne _ _ (by decide)
              have qh16_101 : h16.1 66 67 = h15.1 66 67 := by rw [eh16]; exact mm_pf_ne _ _ (by decide)
              have qh16_102 : h16.1 66 82 = h15.1 66 82 := by rw [eh16]; exact mm_pf_ne _ _ (by decide)
              refine mm_aload_n C (mm_dec dk_X12_anew 87 rfl) rfl ?_
              refine mm_iconst C (mm_dec dk_X12_anew 88 rfl) ⟨by decide, by decide⟩ ?_
              refine mm_puti C fl_X12_240 (mm_dec dk_X12_anew 89 rfl) rfl rfl rfl (Or.inr ⟨rfl, rfl, by omega⟩) ?_
              have i17 : mm_inv (mm_pf h16 66 67 0) := mm_inv_pf i16 (show 0 ≤ 0 ∧ 0 ≤ 1 from ⟨by omega, by omega⟩) (by decide)
              have f17 : mm_fr [(66, 1), (66, 2), (66, 3), (66, 9), (66, 10), (66, 11), (66, 12), (66, 19), (66, 21), (66, 22), (66, 23), (66, 24), (66, 40), (66, 41), (66, 58), (66, 67), (66, 82), (66, 95)] [67, 68, 69, 70, 71] h (mm_pf h16 66 67 0) := mm_fr_pf f16 (by decide)
              obtain ⟨h17, eh17⟩ : ∃ z, z = mm_pf h16 66 67 0 := ⟨_, rfl⟩
              rw [← eh17] at i17 f17 ⊢
              have qh17 : h17.1 66 67 = 0 := by rw [eh17]; exact mm_pf_same _ _ _ _
              have qh17_103 : h17.1 66 9 = h16.1 66 9 := by rw [eh17]; exact mm_pf_ne _ _ (by decide)
              have qh17_104 : h17.1 66 10 = h16.1 66 10 := by rw [eh17]; exact mm_pf_ne _ _ (by decide)
              have qh17_105 : h17.1 66 11 = h16.1 66 11 := by rw [eh17]; exact mm_pf_ne _ _ (by decide)
              have qh17_106 : h17.1 66 12 = h16.1 66 12 := by rw [eh17]; exact mm_pf_ne _ _ (by decide)
              have qh17_107 : h17.1 66 19 = h16.1 66 19 := by rw [eh17]; exact mm_pf_ne _ _ (by decide)
              have qh17_108 : h17.1 66 21 = h16.1 66 21 := by rw [eh17]; exact mm_pf_ne _ _ (by decide)
              have qh17_109 : h17.1 66 22 = h16.1 66 22 := by rw [eh17]; exact mm_pf_ne _ _ (by decide)
              have qh17_110 : h17.1 66 23 = h16.1 66 23 := by rw [eh17]; exact mm_pf_ne _ _ (by decide)
              have qh17_111 : h17.1 66 24 = h16.1 66 24 := by rw [eh17]; exact mm_pf_ne _ _ (by decide)
              have qh17_112 : h17.1 66 40 = h16.1 66 40 := by rw [eh17]; exact mm_pf_ne _ _ (by decide)
              have qh17_113 : h17.1 66 41 = h16.1 66 41 := by rw [eh17]; exact mm_pf_ne _ _ (by decide)
              have qh17_114 : h17.1 66 58 = h16.1 66 58 := by rw [eh17]; exact mm_pf_ne _ _ (by decide)
              have qh17_115 : h17.1 66 82 = h16.1 66 82 := by rw [eh17]; exact mm_pf_ne _ _ (by decide)
              refine mm_aload_n C (mm_dec dk_X12_anew 90 rfl) rfl ?_
              refine mm_iconst C (mm_dec dk_X12_anew 91 rfl) ⟨by decide, by decide⟩ ?_
              refine mm_puti C fl_X12_244 (mm_dec dk_X12_anew 92 rfl) rfl rfl rfl (Or.inr ⟨rfl, rfl, by omega⟩) ?_
              have i18 : mm_inv (mm_pf h17 66 95 0) := mm_inv_pf i17 (show 0 ≤ 0 ∧ 0 ≤ 1 from ⟨by omega, by omega⟩) (by decide)
              have f18 : mm_fr [(66, 1), (66, 2), (66, 3), (66, 9), (66, 10), (66, 11), (66, 12), (66, 19), (66, 21), (66, 22), (66, 23), (66, 24), (66, 40), (66, 41), (66, 58), (66, 67), (66, 82), (66, 95)] [67, 68, 69, 70, 71] h (mm_pf h17 66 95 0) := mm_fr_pf f17 (by decide)
              obtain ⟨h18, eh18⟩ : ∃ z, z = mm_pf h17 66 95 0 := ⟨_, rfl⟩
              rw [← eh18] at i18 f18 ⊢
              have qh18 : h18.1 66 95 = 0 := by rw [eh18]; exact mm_pf_same _ _ _ _
              have qh18_116 : h18.1 66 9 = h17.1 66 9 := by rw [eh18]; exact mm_pf_ne _ _ (by decide)
              have qh18_117 : h18.1 66 10 = h17.1 66 10 := by rw [eh18]; exact mm_pf_ne _ _ (by decide)
              have qh18_118 : h18.1 66 11 = h17.1 66 11 := by rw [eh18]; exact mm_pf_ne _ _ (by decide)
              have qh18_119 : h18.1 66 12 = h17.1 66 12 := by rw [eh18]; exact mm_pf_ne _ _ (by decide)
              have qh18_120 : h18.1 66 19 = h17.1 66 19 := by rw [eh18]; exact mm_pf_ne _ _ (by decide)
              have qh18_121 : h18.1 66 21 = h17.1 66 21 := by rw [eh18]; exact mm_pf_ne _ _ (by decide)
              have qh18_122 : h18.1 66 22 = h17.1 66 22 := by rw [eh18]; exact mm_pf_ne _ _ (by decide)
              have qh18_123 : h18.1 66 23 = h17.1 66 23 := by rw [eh18]; exact mm_pf_ne _ _ (by decide)
              have qh18_124 : h18.1 66 24 = h17.1 66 24 := by rw [eh18]; exact mm_pf_ne _ _ (by decide)
              have qh18_125 : h18.1 66 40 = h17.1 66 40 := by rw [eh18]; exact mm_pf_ne _ _ (by decide)
              have qh18_126 : h18.1 66 41 = h17.1 66 41 := by rw [eh18]; exact mm_pf_ne _ _ (by decide)
              have qh18_127 : h18.1 66 58 = h17.1 66 58 := by rw [eh18]; exact mm_pf_ne _ _ (by decide)
              have qh18_128 : h18.1 66 67 = h17.1 66 67 := by rw [eh18]; exact mm_pf_ne _ _ (by decide)
              have qh18_129 : h18.1 66 82 = h17.1 66 82 := by rw [eh18]; exact mm_pf_ne _ _ (by decide)
              exact mm_vret C T (mm_dec dk_X12_anew 93 rfl) (by decide : 0 ≤ 0) (by decide : 0 ≤ 0) ⟨rfl, ⟨i18, f18, by omega⟩⟩
            · skip
              refine mm_aload_n C (mm_dec dk_X12_anew 41 rfl) rfl ?_
              refine mm_getr (t := 69) C fl_X12_16 (mm_dec dk_X12_anew 42 rfl) rfl rfl (mm_ref i60_ rfl) ?_
              refine mm_iload_n C (mm_dec dk_X12_anew 43 rfl) rfl ?_
              refine mm_iconst C (mm_dec dk_X12_anew 44 rfl) ⟨by decide, by decide⟩ ?_
              refine mm_iast C (mm_dec dk_X12_anew 45 rfl) rfl (by omega) (by omega) ?_
              have i19 : mm_inv (mm_pa h60_ 69 x60_3 5) := mm_inv_pa i60_ (show 0 ≤ 5 ∧ 5 ≤ 99 from ⟨by omega, by omega⟩)
              have f19 : mm_fr [(66, 1), (66, 2), (66, 3), (66, 9), (66, 10), (66, 11), (66, 12), (66, 19), (66, 21), (66, 22), (66, 23), (66, 24), (66, 40), (66, 41), (66, 58), (66, 67), (66, 82), (66, 95)] [67, 68, 69, 70, 71] h (mm_pa h60_ 69 x60_3 5) := mm_fr_pa f60_ (by decide)
              obtain ⟨h19, eh19⟩ : ∃ z, z = mm_pa h60_ 69 x60_3 5 := ⟨_, rfl⟩
              rw [← eh19] at i19 f19 ⊢
              have qh19_130 : h19.1 66 67 = h60_.1 66 67 := by rw [eh19]; rfl
              refine mm_iincL (ls2 := [mR 66, mU, mU, mI (x60_3 + 1)]) C (mm_dec dk_X12_anew 46 rfl) rfl (by decide) ⟨by omega, by omega⟩ rfl ?_
              refine mm_goto (tgt := 60) C (mm_dec dk_X12_anew 47 rfl) (by decide) ?_
              exact ih60 (x60_3 + 1) ⟨by omega, by omega⟩ h19 i19 f19 (by omega)
        refine mm_istore_nL (ls2 := [mR 66, mU, mU, mI 0]) C (mm_dec dk_X12_anew 37 rfl) (by decide) rfl ?_
        exact J60 (((8 - 0) : Int) + 1).toNat 0 ⟨by omega, by omega⟩ h17_ i17_ f17_ (by omega)
      · skip
        refine mm_aload_n C (mm_dec dk_X12_anew 14 rfl) rfl ?_
        refine mm_getr (t := 67) C fl_X12_7 (mm_dec dk_X12_anew 15 rfl) rfl rfl (mm_ref i17_ rfl) ?_
        refine mm_iload_n C (mm_dec dk_X12_anew 16 rfl) rfl ?_
        refine mm_iconst C (mm_dec dk_X12_anew 17 rfl) ⟨by decide, by decide⟩ ?_
        refine mm_iast C (mm_dec dk_X12_anew 18 rfl) rfl (by omega) (by omega) ?_
        have i20 : mm_inv (mm_pa h17_ 67 x17_3 0) := mm_inv_pa i17_ (show 0 ≤ 0 ∧ 0 ≤ 7 from ⟨by omega, by omega⟩)
        have f20 : mm_fr [(66, 1), (66, 2), (66, 3), (66, 9), (66, 10), (66, 11), (66, 12), (66, 19), (66, 21), (66, 22), (66, 23), (66, 24), (66, 40), (66, 41), (66, 58), (66, 67), (66, 82), (66, 95)] [67, 68, 69, 70, 71] h (mm_pa h17_ 67 x17_3 0) := mm_fr_pa f17_ (by decide)
        obtain ⟨h20, eh20⟩ : ∃ z, z = mm_pa h17_ 67 x17_3 0 := ⟨_, rfl⟩
        rw [← eh20] at i20 f20 ⊢
        have qh20_131 : h20.1 66 67 = h17_.1 66 67 := by rw [eh20]; rfl
        refine mm_aload_n C (mm_dec dk_X12_anew 19 rfl) rfl ?_
        refine mm_getr (t := 68) C fl_X12_13 (mm_dec dk_X12_anew 20 rfl) rfl rfl (mm_ref i20 rfl) ?_
        refine mm_iload_n C (mm_dec dk_X12_anew 21 rfl) rfl ?_
        refine mm_iconst C (mm_dec dk_X12_anew 22 rfl) ⟨by decide, by decide⟩ ?_
        refine mm_iast C (mm_dec dk_X12_anew 23 rfl) rfl (by omega) (by omega) ?_
        have i21 : mm_inv (mm_pa h20 68 x17_3 0) := mm_inv_pa i20 (show 0 ≤ 0 ∧ 0 ≤ 99 from ⟨by omega, by omega⟩)
        have f21 : mm_fr [(66, 1), (66, 2), (66, 3), (66, 9), (66, 10), (66, 11), (66, 12), (66, 19), (66, 21), (66, 22), (66, 23), (66, 24), (66, 40), (66, 41), (66, 58), (66, 67), (66, 82), (66, 95)] [67, 68, 69, 70, 71] h (mm_pa h20 68 x17_3 0) := mm_fr_pa f20 (by decide)
        obtain ⟨h21, eh21⟩ : ∃ z, z = mm_pa h20 68 x17_3 0 := ⟨_, rfl⟩
        rw [← eh21] at i21 f21 ⊢
        have qh21_132 : h21.1 66 67 = h20.1 66 67 := by rw [eh21]; rfl
        refine mm_aload_n C (mm_dec dk_X12_anew 24 rfl) rfl ?_
        refine mm_getr (t := 70) C fl_X12_19 (mm_dec dk_X12_anew 25 rfl) rfl rfl (mm_ref i21 rfl) ?_
        refine mm_iload_n C (mm_dec dk_X12_anew 26 rfl) rfl ?_
        refine mm_iconst C (mm_dec dk_X12_anew 27 rfl) ⟨by decide, by decide⟩ ?_
        refine mm_zast C (mm_dec dk_X12_anew 28 rfl) rfl (by omega) (by omega) (by omega) ?_
        have i22 : mm_inv (mm_pa h21 70 x17_3 0) := mm_inv_pa i21 (show 0 ≤ 0 ∧ 0 ≤ 1 from ⟨by omega, by omega⟩)
        have f22 : mm_fr [(66, 1), (66, 2), (66, 3), (66, 9), (66, 10), (66, 11), (66, 12), (66, 19), (66, 21), (66, 22), (66, 23), (66, 24), (66, 40), (66, 41), (66, 58), (66, 67), (66, 82), (66, 95)] [67, 68, 69, 70, 71] h (mm_pa h21 70 x17_3 0) := mm_fr_pa f21 (by decide)
        obtain ⟨h22, eh22⟩ : ∃ z, z = mm_pa h21 70 x17_3 0 := ⟨_, rfl⟩
        rw [← eh22] at i22 f22 ⊢
        have qh22_133 : h22.1 66 67 = h21.1 66 67 := by rw [eh22]; rfl
        refine mm_aload_n C (mm_dec dk_X12_anew 29 rfl) rfl ?_
        refine mm_getr (t := 71) C fl_X12_23 (mm_dec dk_X12_anew 30 rfl) rfl rfl (mm_ref i22 rfl) ?_
        refine mm_iload_n C (mm_dec dk_X12_anew 31 rfl) rfl ?_
        refine mm_iconst C (mm_dec dk_X12_anew 32 rfl) ⟨by decide, by decide⟩ ?_
        refine mm_zast C (mm_dec dk_X12_anew 33 rfl) rfl (by omega) (by omega) (by omega) ?_
        have i23 : mm_inv (mm_pa h22 71 x17_3 0) := mm_inv_pa i22 (show 0 ≤ 0 ∧ 0 ≤ 1 from ⟨by omega, by omega⟩)
        have f23 : mm_fr [(66, 1), (66, 2), (66, 3), (66, 9), (66, 10), (66, 11), (66, 12), (66, 19), (66, 21), (66, 22), (66, 23), (66, 24), (66, 40), (66, 41), (66, 58), (66, 67), (66, 82), (66, 95)] [67, 68, 69, 70, 71] h (mm_pa h22 71 x17_3 0) := mm_fr_pa f22 (by decide)
        obtain ⟨h23, eh23⟩ : ∃ z, z = mm_pa h22 71 x17_3 0 := ⟨_, rfl⟩
        rw [← eh23] at i23 f23 ⊢
        have qh23_134 : h23.1 66 67 = h22.1 66 67 := by rw [eh23]; rfl
        refine mm_iincL (ls2 := [mR 66, mU, mU, mI (x17_3 + 1)]) C (mm_dec dk_X12_anew 34 rfl) rfl (by decide) ⟨by omega, by omega⟩ rfl ?_
        refine mm_goto (tgt := 17) C (mm_dec dk_X12_anew 35 rfl) (by decide) ?_
        exact ih17 (x17_3 + 1) ⟨by omega, by omega⟩ h23 i23 f23 (by omega)
  refine mm_istore_nL (ls2 := [mR 66, mI p1, mI p2, mI 0]) C (mm_dec dk_X12_anew 10 rfl) (by decide) rfl ?_
  refine mm_fgt 1 ?_
  refine mm_fgt 2 ?_
  exact J17 (((400 - 0) : Int) + 1).toNat 0 ⟨by omega, by omega⟩ h3 i3 f3 (by omega)
set_option maxRecDepth 100000 in
set_option maxHeartbeats 4000000 in
theorem c_X12_land_x (l : Launch) (hl : l.stackTraces = false) (d : Nat) (hd : 1 ≤ d) (h : mH) (i0 : mm_inv h) (p1 : Int) (p2 : Int) (t0 : mm_RO h) : mm_Met l d yX12_land cX12_land 3 (some .boolean) [mR 66, mI p1, mI p2] h (mm_pi fun r h2 => (0 ≤ r ∧ r ≤ 1) ∧ mm_inv h2 ∧ mm_fr [(66, 0), (66, 1), (66, 2), (66, 3), (66, 9), (66, 10), (66, 11), (66, 12), (66, 19), (66, 21), (66, 22), (66, 23), (66, 24), (66, 40), (66, 41), (66, 58), (66, 67), (66, 82), (66, 95)] [67, 68, 69, 70, 71] h h2 ∧ ((r = 1 ∧ 1 ≤ p1 ∧ p1 ≤ 20 ∧ 1 ≤ p2 ∧ p2 ≤ 20) ∨ (r = 0 ∧ (p1 < 1 ∨ 20 < p1 ∨ p2 < 1 ∨ 20 < p2))) ∧ mm_RO h2) mm_nx 0 0 := by
  refine mm_ofW (ls := [mR 66, mI p1, mI p2]) hl (by decide) rfl (Nat.le_of_ble_eq_true rfl) ?_
  intro x hxl C T hnm htb
  subst hxl
  have C1 := mm_OK_le (d' := d - 1 + 1) (by omega) C
  refine mm_rng (fun hr _ => ?_)
  have ap1 : -2147483648 ≤ p1 ∧ p1 < 2147483648 := mm_ok_at hr (i := 1) rfl
  have ap2 : -2147483648 ≤ p2 ∧ p2 < 2147483648 := mm_ok_at hr (i := 2) rfl
  have f0 : mm_fr [(66, 0), (66, 1), (66, 2), (66, 3), (66, 9), (66, 10), (66, 11), (66, 12), (66, 19), (66, 21), (66, 22), (66, 23), (66, 24), (66, 40), (66, 41), (66, 58), (66, 67), (66, 82), (66, 95)] [67, 68, 69, 70, 71] h h := mm_fr_rf
  have g1 : 0 ≤ h.1 66 67 ∧ h.1 66 67 ≤ 1 := i0.1 66 67
  refine mm_aload_n C (mm_dec dk_X12_land 0 rfl) rfl ?_
  refine mm_iconst C (mm_dec dk_X12_land 1 rfl) ⟨by decide, by decide⟩ ?_
  refine mm_puti C fl_X12_188 (mm_dec dk_X12_land 2 rfl) rfl rfl rfl (Or.inl ⟨rfl, rfl⟩) ?_
  have i1 : mm_inv (mm_pf h 66 0 0) := mm_inv_pf i0 (show -2147483648 ≤ 0 ∧ 0 ≤ 2147483647 from ⟨by omega, by omega⟩) (by decide)
  have f1 : mm_fr [(66, 0), (66, 1), (66, 2), (66, 3), (66, 9), (66, 10), (66, 11), (66, 12), (66, 19), (66, 21), (66, 22), (66, 23), (66, 24), (66, 40), (66, 41), (66, 58), (66, 67), (66, 82), (66, 95)] [67, 68, 69, 70, 71] h (mm_pf h 66 0 0) := mm_fr_pf f0 (by decide)
  obtain ⟨h1, eh1⟩ : ∃ z, z = mm_pf h 66 0 0 := ⟨_, rfl⟩
  rw [← eh1] at i1 f1 ⊢
  have qh1 : h1.1 66 0 = 0 := by rw [eh1]; exact mm_pf_same _ _ _ _
  have qh1_2 : h1.1 66 67 = h.1 66 67 := by rw [eh1]; exact mm_pf_ne _ _ (by decide)
  refine mm_iload_n C (mm_dec dk_X12_land 3 rfl) rfl ?_
  refine mm_iconst C (mm_dec dk_X12_land 4 rfl) ⟨by decide, by decide⟩ ?_
  have J27 : ∀ (w27_0 : (p1 < 1 ∨ 20 < p1 ∨ p2 < 1 ∨ 20 < p2)), mm_W x 0 0 27 [mU, mU, mU] [] h1 := by
    intro w27_0
    refine mm_iconst C (mm_dec dk_X12_land 15 rfl) ⟨by decide, by decide⟩ ?_
    exact mm_zret C T (mm_dec dk_X12_land 16 rfl) (by decide : 0 ≤ 0) (by decide : 0 ≤ 0) (by omega) ⟨_, rfl, ⟨⟨by omega, by omega⟩, i1, f1, by omega, by first | exact Or.inl (by omega) | exact mm_RO_fr (wf := [(66, 0)]) (wa := []) t0 (by rw [eh1]; exact mm_fr_pf mm_fr_rf (by decide)) (by decide)⟩⟩
  refine mm_icmp_lt (tgt := 27) C (mm_dec dk_X12_land 5 rfl) (by decide) (fun c7 => ?_) (fun c7 => ?_)
  · skip
    refine mm_fgt 0 ?_
    refine mm_fgt 1 ?_
    refine mm_fgt 2 ?_
    exact J27 (by omega)
  · skip
    refine mm_iload_n C (mm_dec dk_X12_land 6 rfl) rfl ?_
    refine mm_bipush C (mm_dec dk_X12_land 7 rfl) ⟨by decide, by decide⟩ ?_
    refine mm_icmp_gt (tgt := 27) C (mm_dec dk_X12_land 8 rfl) (by decide) (fun c13 => ?_) (fun c13 => ?_)
    · skip
      refine mm_fgt 0 ?_
      refine mm_fgt 1 ?_
      refine mm_fgt 2 ?_
      exact J27 (by omega)
    · skip
      refine mm_iload_n C (mm_dec dk_X12_land 9 rfl) rfl ?_
      refine mm_iconst C (mm_dec dk_X12_land 10 rfl) ⟨by decide, by decide⟩ ?_
      refine mm_icmp_lt (tgt := 27) C (mm_dec dk_X12_land 11 rfl) (by decide) (fun c18 => ?_) (fun c18 => ?_)
      · skip
        refine mm_fgt 0 ?_
        refine mm_fgt 1 ?_
        refine mm_fgt 2 ?_
        exact J27 (by omega)
      · skip
        refine mm_iload_n C (mm_dec dk_X12_land 12 rfl) rfl ?_
        refine mm_bipush C (mm_dec dk_X12_land 13 rfl) ⟨by decide, by decide⟩ ?_
        refine mm_icmp_le (tgt := 29) C (mm_dec dk_X12_land 14 rfl) (by decide) (fun c24 => ?_) (fun c24 => ?_)
        · skip
          refine mm_aload_n C (mm_dec dk_X12_land 17 rfl) rfl ?_
          refine mm_iload_n C (mm_dec dk_X12_land 18 rfl) rfl ?_
          refine mm_iload_n C (mm_dec dk_X12_land 19 rfl) rfl ?_
          refine mm_cVv (rest := []) C1 ev_X12_184 (mm_dec dk_X12_land 20 rfl) (c_X12_anew_x x.2.1 hl (d - 1) (by omega) h1 i1 p1 p2 ⟨by omega, by omega⟩ ⟨by omega, by omega⟩) rfl rfl (Nat.le_of_ble_eq_true rfl) ⟨by decide, by decide⟩ rfl (fun h32c hp32 => ?_) (fun _ _ q => q.elim)
          obtain ⟨i32c, g32c, y32_0⟩ := hp32
          have f32c : mm_fr [(66, 0), (66, 1), (66, 2), (66, 3), (66, 9), (66, 10), (66, 11), (66, 12), (66, 19), (66, 21), (66, 22), (66, 23), (66, 24), (66, 40), (66, 41), (66, 58), (66, 67), (66, 82), (66, 95)] [67, 68, 69, 70, 71] h h32c := mm_fr_tr f1 g32c (by decide +kernel)
          have q32c_4 : h32c.1 66 0 = h1.1 66 0 := g32c.1 66 0 (by decide)
          have g5 : 0 ≤ (h32c.1 66 67) ∧ (h32c.1 66 67) ≤ 1 := i32c.1 66 67
          refine mm_iconst C (mm_dec dk_X12_land 21 rfl) ⟨by decide, by decide⟩ ?_
          exact mm_zret C T (mm_dec dk_X12_land 22 rfl) (by decide : 0 ≤ 0) (by decide : 0 ≤ 0) (by omega) ⟨_, rfl, ⟨⟨by omega, by omega⟩, i32c, f32c, by omega, by first | exact Or.inl (by omega) | exact mm_RO_fr (wf := [(66, 0)]) (wa := []) t0 (by rw [eh1]; exact mm_fr_pf mm_fr_rf (by decide)) (by decide)⟩⟩
        · skip
          refine mm_fgt 0 ?_
          refine mm_fgt 1 ?_
          refine mm_fgt 2 ?_
          exact J27 (by omega)
set_option maxRecDepth 100000 in
set_option maxHeartbeats 4000000 in
theorem c_X11_land_x (l : Launch) (hl : l.stackTraces = false) (d : Nat) (hd : 2 ≤ d) (h : mH) (i0 : mm_inv h) (p1 : Int) (p2 : Int) : mm_Met l d yX11_land cX11_land 3 (some .boolean) [mR 0, mI p1, mI p2] h (mm_pi fun r h2 => (0 ≤ r ∧ r ≤ 1) ∧ mm_inv h2 ∧ mm_fr [(0, 13), (0, 14), (1, 5), (1, 6), (1, 7), (1, 8), (7, 9), (14, 7), (14, 8), (22, 8), (22, 9), (30, 6), (30, 12), (30, 13), (42, 3), (58, 10)] [2, 3, 4, 5, 6, 44] h h2 ∧ ((r = 1 ∧ 1 ≤ p1 ∧ p1 ≤ 20 ∧ 1 ≤ p2 ∧ p2 ≤ 20) ∨ (r = 0 ∧ (p1 < 1 ∨ 20 < p1 ∨ p2 < 1 ∨ 20 < p2)))) mm_nx 0 0 := by
  refine mm_ofW (ls := [mR 0, mI p1, mI p2]) hl (by decide) rfl (Nat.le_of_ble_eq_true rfl) ?_
  intro x hxl C T hnm htb
  subst hxl
  have C1 := mm_OK_le (d' := d - 1 + 1) (by omega) C
  refine mm_rng (fun hr _ => ?_)
  have ap1 : -2147483648 ≤ p1 ∧ p1 < 2147483648 := mm_ok_at hr (i := 1) rfl
  have ap2 : -2147483648 ≤ p2 ∧ p2 < 2147483648 := mm_ok_at hr (i := 2) rfl
  have f0 : mm_fr [(0, 13), (0, 14), (1, 5), (1, 6), (1, 7), (1, 8), (7, 9), (14, 7), (14, 8), (22, 8), (22, 9), (30, 6), (30, 12), (30, 13), (42, 3), (58, 10)] [2, 3, 4, 5, 6, 44] h h := mm_fr_rf
  refine mm_iload_n C (mm_dec dk_X11_land 0 rfl) rfl ?_
  refine mm_iconst C (mm_dec dk_X11_land 1 rfl) ⟨by decide, by decide⟩ ?_
  have J22 : ∀ (w22_0 : (p1 < 1 ∨ 20 < p1 ∨ p2 < 1 ∨ 20 < p2)), mm_W x 0 0 22 [mU, mU, mU] [] h := by
    intro w22_0
    refine mm_iconst C (mm_dec dk_X11_land 12 rfl) ⟨by decide, by decide⟩ ?_
    exact mm_zret C T (mm_dec dk_X11_land 13 rfl) (by decide : 0 ≤ 0) (by decide : 0 ≤ 0) (by omega) ⟨_, rfl, ⟨⟨by omega, by omega⟩, i0, f0, by omega⟩⟩
  refine mm_icmp_lt (tgt := 22) C (mm_dec dk_X11_land 2 rfl) (by decide) (fun c2 => ?_) (fun c2 => ?_)
  · skip
    refine mm_fgt 0 ?_
    refine mm_fgt 1 ?_
    refine mm_fgt 2 ?_
    exact J22 (by omega)
  · skip
    refine mm_iload_n C (mm_dec dk_X11_land 3 rfl) rfl ?_
    refine mm_bipush C (mm_dec dk_X11_land 4 rfl) ⟨by decide, by decide⟩ ?_
    refine mm_icmp_gt (tgt := 22) C (mm_dec dk_X11_land 5 rfl) (by decide) (fun c8 => ?_) (fun c8 => ?_)
    · skip
      refine mm_fgt 0 ?_
      refine mm_fgt 1 ?_
      refine mm_fgt 2 ?_
      exact J22 (by omega)
    · skip
      refine mm_iload_n C (mm_dec dk_X11_land 6 rfl) rfl ?_
      refine mm_iconst C (mm_dec dk_X11_land 7 rfl) ⟨by decide, by decide⟩ ?_
      refine mm_icmp_lt (tgt := 22) C (mm_dec dk_X11_land 8 rfl) (by decide) (fun c13 => ?_) (fun c13 => ?_)
      · skip
        refine mm_fgt 0 ?_
        refine mm_fgt 1 ?_
        refine mm_fgt 2 ?_
        exact J22 (by omega)
      · skip
        refine mm_iload_n C (mm_dec dk_X11_land 9 rfl) rfl ?_
        refine mm_bipush C (mm_dec dk_X11_land 10 rfl) ⟨by decide, by decide⟩ ?_
        refine mm_icmp_le (tgt := 24) C (mm_dec dk_X11_land 11 rfl) (by decide) (fun c19 => ?_) (fun c19 => ?_)
        · skip
          refine mm_aload_n C (mm_dec dk_X11_land 14 rfl) rfl ?_
          refine mm_getr (t := 1) C fl_X11_12 (mm_dec dk_X11_land 15 rfl) rfl rfl (mm_ref i0 rfl) ?_
          refine mm_iload_n C (mm_dec dk_X11_land 16 rfl) rfl ?_
          refine mm_iload_n C (mm_dec dk_X11_land 17 rfl) rfl ?_
          refine mm_cVv (rest := []) C1 ev_X11_108 (mm_dec dk_X11_land 18 rfl) (c_X5_renew x.2.1 hl (d - 1) (by omega) h i0 p1 p2 ⟨by omega, by omega⟩ ⟨by omega, by omega⟩) rfl rfl (Nat.le_of_ble_eq_true rfl) ⟨by decide, by decide⟩ rfl (fun h30c hp30 => ?_) (fun _ _ q => q.elim)
          obtain ⟨i30c, g30c⟩ := hp30
          have f30c : mm_fr [(0, 13), (0, 14), (1, 5), (1, 6), (1, 7), (1, 8), (7, 9), (14, 7), (14, 8), (22, 8), (22, 9), (30, 6), (30, 12), (30, 13), (42, 3), (58, 10)] [2, 3, 4, 5, 6, 44] h h30c := mm_fr_tr f0 g30c (by decide +kernel)
          refine mm_aload_n C (mm_dec dk_X11_land 19 rfl) rfl ?_
          refine mm_getr (t := 7) C fl_X11_21 (mm_dec dk_X11_land 20 rfl) rfl rfl (mm_ref i30c rfl) ?_
          refine mm_cVv (rest := []) C1 ev_X11_112 (mm_dec dk_X11_land 21 rfl) (c_X10_forget x.2.1 hl (d - 1) (by omega) h30c i30c ) rfl rfl (Nat.le_of_ble_eq_true rfl) ⟨by decide, by decide⟩ rfl (fun h37c hp37 => ?_) (fun _ _ q => q.elim)
          obtain ⟨i37c, g37c⟩ := hp37
          have f37c : mm_fr [(0, 13), (0, 14), (1, 5), (1, 6), (1, 7), (1, 8), (7, 9), (14, 7), (14, 8), (22, 8), (22, 9), (30, 6), (30, 12), (30, 13), (42, 3), (58, 10)] [2, 3, 4, 5, 6, 44] h h37c := mm_fr_tr f30c g37c (by decide +kernel)
          refine mm_aload_n C (mm_dec dk_X11_land 22 rfl) rfl ?_
          refine mm_getr (t := 14) C fl_X11_28 (mm_dec dk_X11_land 23 rfl) rfl rfl (mm_ref i37c rfl) ?_
          refine mm_cVv (rest := []) C1 ev_X11_115 (mm_dec dk_X11_land 24 rfl) (c_X2_clear x.2.1 hl (d - 1) (by omega) h37c i37c ) rfl rfl (Nat.le_of_ble_eq_true rfl) ⟨by decide, by decide⟩ rfl (fun h44c hp44 => ?_) (fun _ _ q => q.elim)
          obtain ⟨i44c, g44c⟩ := hp44
          have f44c : mm_fr [(0, 13), (0, 14), (1, 5), (1, 6), (1, 7), (1, 8), (7, 9), (14, 7), (14, 8), (22, 8), (22, 9), (30, 6), (30, 12), (30, 13), (42, 3), (58, 10)] [2, 3, 4, 5, 6, 44] h h44c := mm_fr_tr f37c g44c (by decide +kernel)
          refine mm_aload_n C (mm_dec dk_X11_land 25 rfl) rfl ?_
          refine mm_getr (t := 22) C fl_X11_37 (mm_dec dk_X11_land 26 rfl) rfl rfl (mm_ref i44c rfl) ?_
          refine mm_cVv (rest := []) C1 ev_X11_118 (mm_dec dk_X11_land 27 rfl) (c_X9_clear x.2.1 hl (d - 1) (by omega) h44c i44c ) rfl rfl (Nat.le_of_ble_eq_true rfl) ⟨by decide, by decide⟩ rfl (fun h51c hp51 => ?_) (fun _ _ q => q.elim)
          obtain ⟨i51c, g51c⟩ := hp51
          have f51c : mm_fr [(0, 13), (0, 14), (1, 5), (1, 6), (1, 7), (1, 8), (7, 9), (14, 7), (14, 8), (22, 8), (22, 9), (30, 6), (30, 12), (30, 13), (42, 3), (58, 10)] [2, 3, 4, 5, 6, 44] h h51c := mm_fr_tr f44c g51c (by decide +kernel)
          refine mm_aload_n C (mm_dec dk_X11_land 28 rfl) rfl ?_
          refine mm_getr (t := 30) C fl_X11_44 (mm_dec dk_X11_land 29 rfl) rfl rfl (mm_ref i51c rfl) ?_
          refine mm_cVv (rest := []) C1 ev_X11_119 (mm_dec dk_X11_land 30 rfl) (c_X6_clear x.2.1 hl (d - 1) (by omega) h51c i51c ) rfl rfl (Nat.le_of_ble_eq_true rfl) ⟨by decide, by decide⟩ rfl (fun h58c hp58 => ?_) (fun _ _ q => q.elim)
          obtain ⟨i58c, g58c⟩ := hp58
          have f58c : mm_fr [(0, 13), (0, 14), (1, 5), (1, 6), (1, 7), (1, 8), (7, 9), (14, 7), (14, 8), (22, 8), (22, 9), (30, 6), (30, 12), (30, 13), (42, 3), (58, 10)] [2, 3, 4, 5, 6, 44] h h58c := mm_fr_tr f51c g58c (by decide +kernel)
          refine mm_aload_n C (mm_dec dk_X11_land 31 rfl) rfl ?_
          refine mm_getr (t := 42) C fl_X11_51 (mm_dec dk_X11_land 32 rfl) rfl rfl (mm_ref i58c rfl) ?_
          refine mm_cVv (rest := []) C1 ev_X11_120 (mm_dec dk_X11_land 33 rfl) (c_X8_clear x.2.1 hl (d - 1) (by omega) h58c i58c ) rfl rfl (Nat.le_of_ble_eq_true rfl) ⟨by decide, by decide⟩ rfl (fun h65c hp65 => ?_) (fun _ _ q => q.elim)
          obtain ⟨i65c, g65c⟩ := hp65
          have f65c : mm_fr [(0, 13), (0, 14), (1, 5), (1, 6), (1, 7), (1, 8), (7, 9), (14, 7), (14, 8), (22, 8), (22, 9), (30, 6), (30, 12), (30, 13), (42, 3), (58, 10)] [2, 3, 4, 5, 6, 44] h h65c := mm_fr_tr f58c g65c (by decide +kernel)
          refine mm_aload_n C (mm_dec dk_X11_land 34 rfl) rfl ?_
          refine mm_getr (t := 58) C fl_X11_78 (mm_dec dk_X11_land 35 rfl) rfl rfl (mm_ref i65c rfl) ?_
          refine mm_cVv (rest := []) C1 ev_X11_121 (mm_dec dk_X11_land 36 rfl) (c_X0_forget x.2.1 hl (d - 1) (by omega) h65c i65c ) rfl rfl (Nat.le_of_ble_eq_true rfl) ⟨by decide, by decide⟩ rfl (fun h72c hp72 => ?_) (fun _ _ q => q.elim)
          obtain ⟨i72c, g72c⟩ := hp72
          have f72c : mm_fr [(0, 13), (0, 14), (1, 5), (1, 6), (1, 7), (1, 8), (7, 9), (14, 7), (14, 8), (22, 8), (22, 9), (30, 6), (30, 12), (30, 13), (42, 3), (58, 10)] [2, 3, 4, 5, 6, 44] h h72c := mm_fr_tr f65c g72c (by decide +kernel)
          refine mm_aload_n C (mm_dec dk_X11_land 37 rfl) rfl ?_
          refine mm_iconst C (mm_dec dk_X11_land 38 rfl) ⟨by decide, by decide⟩ ?_
          refine mm_puti C fl_X11_102 (mm_dec dk_X11_land 39 rfl) rfl rfl rfl (Or.inl ⟨rfl, rfl⟩) ?_
          have i8 : mm_inv (mm_pf h72c 0 13 0) := mm_inv_pf i72c (show 0 ≤ 0 ∧ 0 ≤ 99999 from ⟨by omega, by omega⟩) (by decide)
          have f8 : mm_fr [(0, 13), (0, 14), (1, 5), (1, 6), (1, 7), (1, 8), (7, 9), (14, 7), (14, 8), (22, 8), (22, 9), (30, 6), (30, 12), (30, 13), (42, 3), (58, 10)] [2, 3, 4, 5, 6, 44] h (mm_pf h72c 0 13 0) := mm_fr_pf f72c (by decide)
          obtain ⟨h8, eh8⟩ : ∃ z, z = mm_pf h72c 0 13 0 := ⟨_, rfl⟩
          rw [← eh8] at i8 f8 ⊢
          have qh8 : h8.1 0 13 = 0 := by rw [eh8]; exact mm_pf_same _ _ _ _
          refine mm_aload_n C (mm_dec dk_X11_land 40 rfl) rfl ?_
          refine mm_iconst C (mm_dec dk_X11_land 41 rfl) ⟨by decide, by decide⟩ ?_
          refine mm_puti C fl_X11_105 (mm_dec dk_X11_land 42 rfl) rfl rfl rfl (Or.inl ⟨rfl, rfl⟩) ?_
          have i9 : mm_inv (mm_pf h8 0 14 (-1)) := mm_inv_pf i8 (show -2147483648 ≤ (-1) ∧ (-1) ≤ 2147483647 from ⟨by omega, by omega⟩) (by decide)
          have f9 : mm_fr [(0, 13), (0, 14), (1, 5), (1, 6), (1, 7), (1, 8), (7, 9), (14, 7), (14, 8), (22, 8), (22, 9), (30, 6), (30, 12), (30, 13), (42, 3), (58, 10)] [2, 3, 4, 5, 6, 44] h (mm_pf h8 0 14 (-1)) := mm_fr_pf f8 (by decide)
          obtain ⟨h9, eh9⟩ : ∃ z, z = mm_pf h8 0 14 (-1) := ⟨_, rfl⟩
          rw [← eh9] at i9 f9 ⊢
          have qh9 : h9.1 0 14 = (-1) := by rw [eh9]; exact mm_pf_same _ _ _ _
          have qh9_8 : h9.1 0 13 = h8.1 0 13 := by rw [eh9]; exact mm_pf_ne _ _ (by decide)
          refine mm_iconst C (mm_dec dk_X11_land 43 rfl) ⟨by decide, by decide⟩ ?_
          exact mm_zret C T (mm_dec dk_X11_land 44 rfl) (by decide : 0 ≤ 0) (by decide : 0 ≤ 0) (by omega) ⟨_, rfl, ⟨⟨by omega, by omega⟩, i9, f9, by omega⟩⟩
        · skip
          refine mm_fgt 0 ?_
          refine mm_fgt 1 ?_
          refine mm_fgt 2 ?_
          exact J22 (by omega)
