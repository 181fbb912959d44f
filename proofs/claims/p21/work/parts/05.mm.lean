def mm_shl : List (Nat × Nat × List Nat) := [(0, 11, [11, 17, 24, 32, 40, 52, 56, 64, 68, 71, 72, 73, 0, 0, 0]), (0, 5, [12, 13, 14, 15, 16, 0, 0, 0, 0]), (1, 400, []), (1, 400, []), (2, 400, []), (2, 400, []), (1, 9, []), (0, 10, [11, 18, 19, 20, 21, 22, 23, 0, 0, 0, 0, 2]), (1, 400, []), (1, 400, []), (1, 400, []), (1, 400, []), (3, 400, []), (1, 400, []), (0, 2, [25, 26, 27, 28, 29, 30, 31, 0, 0]), (1, 20, []), (1, 20, []), (2, 8, []), (2, 8, []), (1, 8, []), (1, 8, []), (1, 288, []), (0, 9, [24, 33, 34, 35, 36, 37, 38, 39, 0, 0]), (1, 40, []), (1, 40, []), (1, 40, []), (1, 40, []), (1, 40, []), (2, 40, []), (1, 30, []), (0, 6, [41, 42, 43, 44, 45, 46, 0, 47, 48, 49, 50, 51, 0, 0]), (1, 500, []), (1, 500, []), (1, 500, []), (1, 500, []), (1, 500, []), (1, 500, []), (1, 40, []), (1, 40, []), (1, 40, []), (1, 40, []), (1, 40, []), (0, 8, [53, 54, 55, 0, 0, 0, 2]), (1, 500, []), (1, 3, []), (1, 64, []), (0, 4, [32, 40, 52, 58, 57, 0, 0, 0, 0, 0, 0, 0]), (1, 7, []), (0, 1, [24, 32, 40, 59, 60, 61, 62, 63, 0, 0]), (1, 12, []), (1, 500, []), (1, 500, []), (1, 12, []), (1, 169, []), (0, 3, [32, 40, 65, 66, 67, 0]), (1, 40, []), (1, 40, []), (1, 10, []), (0, 0, [11, 17, 24, 69, 70, 135, 0, 0, 0, 0, 2]), (1, 169, []), (1, 12, []), (1, 12, []), (1, 500, []), (0, 7, [72, 74, 75, 0, 0, 0, 0, 0, 0, 0, 0]), (1, 500, []), (1, 3, []), (0, 12, [0, 0, 0, 0, 77, 78, 79, 80, 81, 0, 0, 0, 0, 82, 83, 84, 85, 86, 0, 0, 87, 0, 0, 0, 0, 88, 89, 90, 91, 92, 93, 94, 95, 96, 97, 98, 99, 100, 101, 0, 0, 0, 102, 103, 104, 105, 106, 107, 0, 108, 109, 110, 0, 0, 0, 111, 0, 0, 0, 0, 0, 0, 0, 0, 0, 0, 1, 2, 0, 0, 0, 0, 112, 113, 114, 115, 116, 117, 118, 119, 120, 121, 0, 122, 123, 124, 125, 0, 2, 2, 126, 0, 127, 128, 129, 2, 0, 0, 130, 131, 132, 133]), (1, 400, []), (1, 400, []), (1, 8, []), (2, 400, []), (2, 400, []), (1, 400, []), (1, 400, []), (1, 400, []), (3, 400, []), (2, 400, []), (1, 400, []), (1, 20, []), (1, 20, []), (1, 8, []), (1, 8, []), (1, 288, []), (2, 8, []), (2, 96, []), (1, 40, []), (1, 40, []), (1, 40, []), (1, 40, []), (1, 40, []), (1, 30, []), (1, 12, []), (1, 500, []), (1, 500, []), (1, 500, []), (1, 500, []), (1, 500, []), (1, 500, []), (1, 500, []), (1, 6513, []), (1, 12, []), (1, 500, []), (1, 6, []), (1, 2, []), (1, 40, []), (1, 40, []), (1, 40, []), (1, 2400, []), (1, 520, []), (2, 9, []), (1, 7, []), (1, 520, []), (1, 40, []), (1, 40, []), (1, 40, []), (1, 40, []), (1, 40, []), (1, 40, []), (1, 10, []), (2, 40, []), (1, 196, []), (1, 49152, []), (1, 40, []), (2, 40, []), (3, 1, []), (1, 49152, [])]
abbrev mm_N : Nat := 125
/-! ===== THE SMALL MACHINE: values are pairs (0 an int, 1 a long, 2 an object by its number, 3 null, 4 nothing); a heap is its numbers (fields, elements) and how many objects there are; what an object is never changes (mm_sh) ===== -/
abbrev mV : Type := Nat × Int
abbrev mH : Type := (Nat → Nat → Int) × (Nat → Int → Int) × Nat
abbrev mI (x : Int) : mV := (0, x)
abbrev mL (x : Int) : mV := (1, x)
abbrev mR (o : Nat) : mV := (2, (o : Int))
abbrev mN : mV := (3, 0)
abbrev mU : mV := (4, 0)
abbrev mG : Type := (Nat → ClassId) × (Nat → Nat → Nat) × ClassId × ClassId × ClassId
def mm_j (ad : Nat → Nat) (v : mV) : Value := match v.1 with
  | 0 => .int (Int32.ofInt v.2)
  | 1 => .long (Int64.ofInt v.2)
  | 2 => .ref (ad v.2.toNat)
  | _ => .null
def mm_i32 (x : Int) : Prop := -2147483648 ≤ x ∧ x < 2147483648
def mm_i64 (x : Int) : Prop := -9223372036854775808 ≤ x ∧ x < 9223372036854775808
def mm_sh (o : Nat) : Nat × Nat × List Nat := mm_shl.getD o (9, 0, [])
def mm_okv (h : mH) (v : mV) : Prop := match v.1 with
  | 0 => mm_i32 v.2
  | 1 => mm_i64 v.2
  | 2 => v.2.toNat < h.2.2 ∨ 1000 ≤ v.2.toNat
  | _ => True
def mm_okl (h : mH) (l : List mV) : Prop := ∀ v ∈ l, mm_okv h v
def mm_fv (ad : Nat → Nat) (h : mH) (o k fk : Nat) : Value := match fk with
  | 0 => .int (Int32.ofInt (h.1 o k))
  | 1 => .long (Int64.ofInt (h.1 o k))
  | 2 => .int (Int32.ofInt (h.1 o k))
  | q => if h.1 o k = 0 then .null else .ref (ad (q - 10))
def mm_e (G : mG) (ad : Nat → Nat) (h : mH) (o : Nat) : va_E := match (mm_sh o).1 with
  | 0 => .inr ((mm_sh o).2.1, (mm_sh o).2.2.mapIdx (fun k fk => mm_fv ad h o k fk))
  | 1 => .inl (G.2.2.1, (mm_sh o).2.1, .inl (fun j => Int32.ofInt (h.2.1 o j)))
  | 2 => .inl (G.2.2.2.1, (mm_sh o).2.1, .inl (fun j => Int32.ofInt (h.2.1 o j)))
  | _ => .inl (G.2.2.2.2, (mm_sh o).2.1, .inr (.inl (fun j => Int64.ofInt (h.2.1 o j))))
def mm_ws (G : mG) (ad : Nat → Nat) (h : mH) : va_W := (List.range h.2.2).map (fun o => (ad o, mm_e G ad h o))
/-- numbers fit, references point at what is there -/
def mm_rg (h : mH) : Prop := (∀ o k, mm_i64 (h.1 o k)) ∧ (∀ o k, (mm_sh o).2.2[k]? ≠ some 1 → mm_i32 (h.1 o k)) ∧ (∀ o j, (mm_sh o).1 ≠ 3 → mm_i32 (h.2.1 o j)) ∧ (∀ o j, mm_i64 (h.2.1 o j)) ∧ (∀ o k t, o < h.2.2 → (mm_sh o).2.2[k]? = some (10 + t) → h.1 o k ≠ 0 → t < h.2.2)
def mm_pf (h : mH) (o k : Nat) (v : Int) : mH := (fun a b => if a = o ∧ b = k then v else h.1 a b, h.2.1, h.2.2)
def mm_pa (h : mH) (o : Nat) (i v : Int) : mH := (h.1, fun a b => if a = o ∧ b = i then v else h.2.1 a b, h.2.2)
def mm_nw (h : mH) : mH := (fun a b => if a = h.2.2 then 0 else h.1 a b, fun a b => if a = h.2.2 then 0 else h.2.1 a b, h.2.2 + 1)
def mm_lv (ad : Nat → Nat) : Nat → List mV → List (Nat × Value)
  | _, [] => []
  | i, v :: r => if v.1 < 4 then (i, mm_j ad v) :: mm_lv ad (i + 1) r else mm_lv ad (i + 1) r
theorem mm_lv_mem {ad : Nat → Nat} (ls : List mV) (i : Nat) (q : Nat × Value) : q ∈ mm_lv ad i ls ↔ ∃ (j : Nat) (v : mV), ls[j]? = some v ∧ v.1 < 4 ∧ q = (i + j, mm_j ad v) := by
  induction ls generalizing i with
  | nil => simp [mm_lv]
  | cons v r ih0 =>
    have ih := ih0 (i + 1)
    constructor
    · intro h
      unfold mm_lv at h
      split at h
      next hv =>
        rcases List.mem_cons.mp h with h | h
        · exact ⟨0, v, rfl, hv, by rw [h]; rfl⟩
        · obtain ⟨j, w, h1, h2, h3⟩ := ih.mp h
          exact ⟨j + 1, w, by simpa using h1, h2, by rw [h3, Nat.add_assoc, Nat.add_comm 1 j]⟩
      next hv =>
        obtain ⟨j, w, h1, h2, h3⟩ := ih.mp h
        exact ⟨j + 1, w, by simpa using h1, h2, by rw [h3, Nat.add_assoc, Nat.add_comm 1 j]⟩
    · rintro ⟨j, w, h1, h2, h3⟩
      unfold mm_lv
      cases j with
      | zero =>
        have e : v = w := by simpa using h1
        subst e
        rw [if_pos h2, h3]
        exact List.mem_cons_self
      | succ j =>
        have h4 : q ∈ mm_lv ad (i + 1) r := ih.mpr ⟨j, w, by simpa using h1, h2, by rw [h3, Nat.add_assoc, Nat.add_comm 1 j]⟩
        split
        · exact List.mem_cons_of_mem _ h4
        · exact h4
theorem mm_lv_at {ad : Nat → Nat} {jl : Array Slot} {nL : Nat} {ls : List mV} (h : lv_has jl nL (mm_lv ad 0 ls)) {i : Nat} {v : mV} (hi : ls[i]? = some v) (hv : v.1 < 4) : jl[i]? = some (.val (mm_j ad v)) :=
  h.2.2 (i, mm_j ad v) ((mm_lv_mem ls 0 _).mpr ⟨i, v, hi, hv, by rw [Nat.zero_add]⟩)
theorem mm_j_cat (ad : Nat → Nat) (v : mV) : ((mm_j ad v).category = 2 ↔ v.1 = 1) := by
  obtain ⟨t, x⟩ := v
  match t with
  | 0 => simp [mm_j, Value.category]
  | 1 => simp [mm_j, Value.category]
  | 2 => simp [mm_j, Value.category]
  | n + 3 => simp [mm_j, Value.category]
/-- a local gets a value of one word -/
def mm_st (ls : List mV) (i : Nat) (v : mV) : List mV :=
  if 0 < i ∧ (ls[i - 1]?).map (·.1) = some 1 then (ls.set i v).set (i - 1) mU else ls.set i v
def mm_st2 (ls : List mV) (i : Nat) (v : mV) : List mV := (mm_st ls i v).set (i + 1) mU
theorem mm_set_get {ls : List mV} {i j : Nat} {v w : mV} (h : (ls.set i v)[j]? = some w) : (j = i ∧ w = v) ∨ (j ≠ i ∧ ls[j]? = some w) := by
  by_cases e : j = i
  · subst e
    rw [List.getElem?_set_self'] at h
    cases hj : ls[j]? with
    | none => rw [hj] at h; simp at h
    | some z => rw [hj] at h; simp at h; exact Or.inl ⟨rfl, h.symm⟩
  · rw [List.getElem?_set_ne (fun h => e h.symm)] at h
    exact Or.inr ⟨e, h⟩
theorem mm_st_get {ls : List mV} {i j : Nat} {v w : mV} (h : (mm_st ls i v)[j]? = some w) (hw : w.1 < 4) : (j = i ∧ w = v) ∨ (j ≠ i ∧ ls[j]? = some w ∧ ¬ (j + 1 = i ∧ w.1 = 1)) := by
  unfold mm_st at h
  split at h
  next c =>
    rcases mm_set_get h with ⟨e1, e2⟩ | ⟨e1, h⟩
    · rw [e2] at hw; exact absurd hw (by decide)
    · rcases mm_set_get h with ⟨e3, e4⟩ | ⟨e3, h⟩
      · exact Or.inl ⟨e3, e4⟩
      · exact Or.inr ⟨e3, h, fun q => e1 (by omega)⟩
  next c =>
    rcases mm_set_get h with ⟨e3, e4⟩ | ⟨e3, h⟩
    · exact Or.inl ⟨e3, e4⟩
    · refine Or.inr ⟨e3, h, fun q => c ⟨by omega, ?_⟩⟩
      rw [show i - 1 = j by omega, h]
      simp [q.2]
theorem mm_st_has {ad : Nat → Nat} {jl : Array Slot} {nL : Nat} {ls : List mV} {i : Nat} {v : mV} (h : lv_has jl nL ((i, mm_j ad v) :: (mm_lv ad 0 ls).filter (fun q => !(q.1 == i) && !(q.1 + 1 == i && q.2.category == 2)))) : lv_has jl nL (mm_lv ad 0 (mm_st ls i v)) := by
  refine ⟨h.1, h.2.1, fun q hq => h.2.2 q ?_⟩
  obtain ⟨j, w, h1, h2, h3⟩ := (mm_lv_mem _ 0 q).mp hq
  rw [Nat.zero_add] at h3
  rcases mm_st_get h1 h2 with ⟨e1, e2⟩ | ⟨e1, e2, e3⟩
  · rw [h3, e1, e2]; exact List.mem_cons_self
  · refine List.mem_cons_of_mem _ (List.mem_filter.mpr ⟨(mm_lv_mem _ 0 q).mpr ⟨j, w, e2, h2, by rw [Nat.zero_add]; exact h3⟩, ?_⟩)
    rw [h3]
    have k1 : (j == i) = false := by simpa using e1
    have k2 : (j + 1 == i && (mm_j ad w).category == 2) = false := by
      cases hc : (j + 1 == i && (mm_j ad w).category == 2)
      · rfl
      · simp only [Bool.and_eq_true, beq_iff_eq] at hc
        exact absurd ⟨hc.1, (mm_j_cat ad w).mp hc.2⟩ e3
    show (!(j == i) && !(j + 1 == i && (mm_j ad w).category == 2)) = true
    rw [k1, k2]
    rfl
theorem mm_st2_has {ad : Nat → Nat} {jl : Array Slot} {nL : Nat} {ls : List mV} {i : Nat} {v : mV} (h : lv_has jl nL ((i, mm_j ad v) :: (mm_lv ad 0 ls).filter (fun q => !(q.1 == i) && (!(q.1 == i + 1) && !(q.1 + 1 == i && q.2.category == 2))))) : lv_has jl nL (mm_lv ad 0 (mm_st2 ls i v)) := by
  refine ⟨h.1, h.2.1, fun q hq => h.2.2 q ?_⟩
  obtain ⟨j, w, h1, h2, h3⟩ := (mm_lv_mem _ 0 q).mp hq
  rw [Nat.zero_add] at h3
  unfold mm_st2 at h1
  rcases mm_set_get h1 with ⟨e1, e2⟩ | ⟨e0, h1⟩
  · rw [e2] at h2; exact absurd h2 (by decide)
  · rcases mm_st_get h1 h2 with ⟨e1, e2⟩ | ⟨e1, e2, e3⟩
    · rw [h3, e1, e2]; exact List.mem_cons_self
    · refine List.mem_cons_of_mem _ (List.mem_filter.mpr ⟨(mm_lv_mem _ 0 q).mpr ⟨j, w, e2, h2, by rw [Nat.zero_add]; exact h3⟩, ?_⟩)
      rw [h3]
      have k1 : (j == i) = false := by simpa using e1
      have k0 : (j == i + 1) = false := by simpa using e0
      have k2 : (j + 1 == i && (mm_j ad w).category == 2) = false := by
        cases hc : (j + 1 == i && (mm_j ad w).category == 2)
        · rfl
        · simp only [Bool.and_eq_true, beq_iff_eq] at hc
          exact absurd ⟨hc.1, (mm_j_cat ad w).mp hc.2⟩ e3
      show (!(j == i) && (!(j == i + 1) && !(j + 1 == i && (mm_j ad w).category == 2))) = true
      rw [k1, k0, k2]
      rfl
theorem mm_st_ok {h : mH} {ls : List mV} {i : Nat} {v : mV} (hl : mm_okl h ls) (hv : mm_okv h v) : mm_okl h (mm_st ls i v) := by
  intro w hw
  obtain ⟨j, hj⟩ := List.mem_iff_getElem?.mp hw
  by_cases h4 : w.1 < 4
  · rcases mm_st_get hj h4 with ⟨-, e⟩ | ⟨-, e, -⟩
    · rw [e]; exact hv
    · exact hl w (List.mem_of_getElem? e)
  · obtain ⟨t, x⟩ := w
    match t with
    | 0 => exact absurd (show (0 : Nat) < 4 by decide) h4
    | 1 => exact absurd (show (1 : Nat) < 4 by decide) h4
    | 2 => exact absurd (show (2 : Nat) < 4 by decide) h4
    | n + 3 => trivial
theorem mm_st2_ok {h : mH} {ls : List mV} {i : Nat} {v : mV} (hl : mm_okl h ls) (hv : mm_okv h v) : mm_okl h (mm_st2 ls i v) := by
  intro w hw
  obtain ⟨j, hj⟩ := List.mem_iff_getElem?.mp hw
  unfold mm_st2 at hj
  rcases mm_set_get hj with ⟨-, e⟩ | ⟨-, e⟩
  · rw [e]; trivial
  · exact mm_st_ok hl hv w (List.mem_of_getElem? e)
theorem mm_ok_cons {h : mH} {l : List mV} {v : mV} (hv : mm_okv h v) (hl : mm_okl h l) : mm_okl h (v :: l) := fun w hw => (List.mem_cons.mp hw).elim (fun e => by rw [e]; exact hv) (hl w)
theorem mm_ok_tl {h : mH} {l : List mV} {v : mV} (hl : mm_okl h (v :: l)) : mm_okl h l := fun w hw => hl w (List.mem_cons_of_mem _ hw)
theorem mm_ok_hd {h : mH} {l : List mV} {v : mV} (hl : mm_okl h (v :: l)) : mm_okv h v := hl v List.mem_cons_self
theorem mm_ok_at {h : mH} {l : List mV} {v : mV} {i : Nat} (hl : mm_okl h l) (hi : l[i]? = some v) : mm_okv h v := hl v (List.mem_of_getElem? hi)
theorem mm_ok_mono {h h' : mH} (e : h.2.2 ≤ h'.2.2) {l : List mV} (hl : mm_okl h l) : mm_okl h' l := by
  intro v hv
  have h1 := hl v hv
  obtain ⟨t, x⟩ := v
  match t with
  | 0 => exact h1
  | 1 => exact h1
  | 2 => exact h1.elim (fun q => Or.inl (Nat.lt_of_lt_of_le q e)) Or.inr
  | n + 3 => trivial
theorem mm_ws_len (G : mG) (ad : Nat → Nat) (h : mH) : (mm_ws G ad h).length = h.2.2 := by simp [mm_ws]
theorem mm_ws_get (G : mG) (ad : Nat → Nat) {h : mH} {o : Nat} (ho : o < h.2.2) : (mm_ws G ad h)[o]? = some (ad o, mm_e G ad h o) := by
  simp [mm_ws, List.getElem?_range ho]
theorem mm_ws_some {G : mG} {ad : Nat → Nat} {h : mH} {o : Nat} {q : Nat × va_E} (hq : (mm_ws G ad h)[o]? = some q) : o < h.2.2 ∧ q = (ad o, mm_e G ad h o) := by
  have h1 : o < (mm_ws G ad h).length := (List.getElem?_eq_some_iff.mp hq).1
  rw [mm_ws_len] at h1
  exact ⟨h1, Option.some.inj (hq.symm.trans (mm_ws_get G ad h1))⟩
/-- a change of one object is a change of the world's one cell -/
theorem mm_ws_set {G : mG} {ad : Nat → Nat} {h h' : mH} {o : Nat} {e : va_E} (hn : h'.2.2 = h.2.2) (ho : o < h.2.2) (he : mm_e G ad h' o = e) (hr : ∀ q, q ≠ o → mm_e G ad h' q = mm_e G ad h q) : (mm_ws G ad h).set o (ad o, e) = mm_ws G ad h' := by
  apply List.ext_getElem?
  intro j
  by_cases hj : j = o
  · subst hj
    rw [List.getElem?_set_self (by rw [mm_ws_len]; exact ho), mm_ws_get G ad (by rw [hn]; exact ho), he]
  · rw [List.getElem?_set_ne (fun q => hj q.symm)]
    by_cases hl : j < h.2.2
    · rw [mm_ws_get G ad hl, mm_ws_get G ad (by rw [hn]; exact hl), hr j hj]
    · rw [List.getElem?_eq_none (by rw [mm_ws_len]; omega), List.getElem?_eq_none (by rw [mm_ws_len]; omega)]
theorem mm_e_obj {G : mG} {ad : Nat → Nat} {h : mH} {o ci : Nat} {fks : List Nat} (hs : mm_sh o = (0, ci, fks)) : mm_e G ad h o = .inr (ci, fks.mapIdx (fun k fk => mm_fv ad h o k fk)) := by
  unfold mm_e; rw [hs]; rfl
theorem mm_e_int {G : mG} {ad : Nat → Nat} {h : mH} {o n : Nat} {r : List Nat} (hs : mm_sh o = (1, n, r)) : mm_e G ad h o = .inl (G.2.2.1, n, .inl (fun j => Int32.ofInt (h.2.1 o j))) := by
  unfold mm_e; rw [hs]; rfl
theorem mm_e_bool {G : mG} {ad : Nat → Nat} {h : mH} {o n : Nat} {r : List Nat} (hs : mm_sh o = (2, n, r)) : mm_e G ad h o = .inl (G.2.2.2.1, n, .inl (fun j => Int32.ofInt (h.2.1 o j))) := by
  unfold mm_e; rw [hs]; rfl
theorem mm_e_long {G : mG} {ad : Nat → Nat} {h : mH} {o n : Nat} {r : List Nat} (hs : mm_sh o = (3, n, r)) : mm_e G ad h o = .inl (G.2.2.2.2, n, .inr (.inl (fun j => Int64.ofInt (h.2.1 o j)))) := by
  unfold mm_e; rw [hs]; rfl
/-- an object's cell speaks of its own numbers alone -/
theorem mm_e_same {G : mG} {ad : Nat → Nat} {h h' : mH} {q : Nat} (h1 : ∀ k, h'.1 q k = h.1 q k) (h2 : ∀ j, h'.2.1 q j = h.2.1 q j) : mm_e G ad h' q = mm_e G ad h q := by
  have e1 : ∀ k fk, mm_fv ad h' q k fk = mm_fv ad h q k fk := by
    intro k fk
    unfold mm_fv
    rw [h1]
  unfold mm_e
  simp only [h2, e1]
theorem mm_e_ad {G : mG} {ad ad' : Nat → Nat} {h : mH} {q : Nat} (hr : mm_rg h) (hq : q < h.2.2) (ha : ∀ o, o < h.2.2 → ad' o = ad o) : mm_e G ad' h q = mm_e G ad h q := by
  have e1 : ∀ k fk, (mm_sh q).2.2[k]? = some fk → mm_fv ad' h q k fk = mm_fv ad h q k fk := by
    intro k fk hk
    unfold mm_fv
    split
    · rfl
    · rfl
    · rfl
    · split
      · rfl
      next hz =>
        by_cases h10 : 10 ≤ fk
        · have := hr.2.2.2.2 q k (fk - 10) hq (by rw [hk]; congr 1; omega) hz
          rw [ha _ this]
        · have e0 : fk - 10 = 0 := by omega
          rw [e0, ha 0 (by omega)]
  unfold mm_e
  split
  · congr 2
    apply List.ext_getElem?
    intro k
    rw [List.getElem?_mapIdx, List.getElem?_mapIdx]
    cases hk : (mm_sh q).2.2[k]? with
    | none => rfl
    | some fk => simp only [Option.map_some, e1 k fk hk]
  · rfl
  · rfl
  · rfl
