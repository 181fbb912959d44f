section MMH
variable {x : mX} {d cs ss : Nat} {cc : ByteArray} {own : String} {nL : Nat} {ret : Option FieldType} {a b pc : Nat} {ls st : List mV} {h : mH}
def mm_CL (ci : Nat) (C : String) (T : u_T) (N : Nat) (ty0 : Nat → FieldType) : Prop := vwCl[ci]? = some (C, T, N) ∧ (∀ w ∈ u_ws C T N, w ∈ mm_T) ∧ (∀ k, k < N → parseFieldDescriptor (T k).2.2.1 = some (ty0 k)) ∧ (∀ a, a < N → ∀ b, b < N → a ≠ b → (T a).2.1 ≠ (T b).2.1)
/-- a field's entry in a class's pool: field k of class ci -/
def mm_FL (own : String) (index ci k : Nat) (C : String) (T : u_T) (N : Nat) (ty0 : Nat → FieldType) : Prop := mm_CL ci C T N ty0 ∧ k < N ∧ Cond.fieldLink own index (T k).1 (T k).2.1 (T k).2.2.1 ∈ mm_T
theorem mm_sh_lt {o : Nat} (hs : (mm_sh o).1 ≠ 9) : o < 1000 := by
  rcases Nat.lt_or_ge o 1000 with q | q
  · exact q
  · exfalso
    apply hs
    unfold mm_sh
    rw [List.getD_eq_getElem?_getD, List.getElem?_eq_none (Nat.le_trans (show mm_shl.length ≤ 1000 by decide +kernel) q)]
    rfl
theorem mm_ok_lt {o kd nn : Nat} {r : List Nat} {h : mH} (hv : mm_okv h (mR o)) (hs : mm_sh o = (kd, nn, r)) (hk : kd ≠ 9) : o < h.2.2 := by
  have h1 : o < h.2.2 ∨ 1000 ≤ o := hv
  have h2 := mm_sh_lt (o := o) (by rw [hs]; exact hk)
  omega
theorem mm_e_fld {G : mG} {ad : Nat → Nat} {h : mH} {o ci k fk : Nat} {fks : List Nat} (hk : fks[k]? = some fk) : (fks.mapIdx (fun k fk => mm_fv ad h o k fk))[k]? = some (mm_fv ad h o k fk) := by
  rw [List.getElem?_mapIdx, hk]; rfl
theorem mm_geti {index ci k N fk o : Nat} {CN : String} {T : u_T} {ty0 : Nat → FieldType} {fks : List Nat} (C : mm_OK d cs ss cc own nL ret x) (F : mm_FL own index ci k CN T N ty0) (hd : decode cc pc = .ok (.getfield index, 3)) (hs : mm_sh o = (0, ci, fks)) (hk : fks[k]? = some fk) (hf : fk = 0 ∨ fk = 2) (kk : mm_W x a b (pc + 3) ls (mI (h.1 o k) :: st) h) : mm_W x a b pc ls (mR o :: st) h := by
  obtain ⟨p, l, e, R, s, m, args, below, meth, c, G, ad0, A, n0, Q⟩ := x
  intro ad H locs jl h3 h4 h5 h6
  have ho := mm_ok_lt (mm_ok_hd h6) hs (by decide)
  have he := mm_ws_get G ad ho
  rw [mm_e_obj hs] at he
  have hv : mm_fv ad h o k fk = .int (Int32.ofInt (h.1 o k)) := by rcases hf with rfl | rfl <;> rfl
  refine va_get C.1 C.2.1 C.2.2.2.2.1 F.1.2.1 C.2.2.2.1 C.2.2.2.2.2.1 h3.1 o he F.1.1 k F.2.1 (C.2.2.2.2.1 _ F.2.2) (fun _ q => q) (mm_e_fld (G := G) (ci := ci) hk) hd ?_
  rw [hv]
  refine kk ad H locs jl h3 h4 h5 (mm_ok_cons (h3.2.2.1.2.1 o k ?_) (mm_ok_tl h6))
  rw [hs]
  show fks[k]? ≠ some 1
  rw [hk]
  rcases hf with rfl | rfl <;> decide
theorem mm_getl {index ci k N o : Nat} {CN : String} {T : u_T} {ty0 : Nat → FieldType} {fks : List Nat} (C : mm_OK d cs ss cc own nL ret x) (F : mm_FL own index ci k CN T N ty0) (hd : decode cc pc = .ok (.getfield index, 3)) (hs : mm_sh o = (0, ci, fks)) (hk : fks[k]? = some 1) (kk : mm_W x a b (pc + 3) ls (mL (h.1 o k) :: st) h) : mm_W x a b pc ls (mR o :: st) h := by
  obtain ⟨p, l, e, R, s, m, args, below, meth, c, G, ad0, A, n0, Q⟩ := x
  intro ad H locs jl h3 h4 h5 h6
  have ho := mm_ok_lt (mm_ok_hd h6) hs (by decide)
  have he := mm_ws_get G ad ho
  rw [mm_e_obj hs] at he
  exact va_get C.1 C.2.1 C.2.2.2.2.1 F.1.2.1 C.2.2.2.1 C.2.2.2.2.2.1 h3.1 o he F.1.1 k F.2.1 (C.2.2.2.2.1 _ F.2.2) (fun _ q => q) (mm_e_fld (G := G) (ci := ci) hk) hd (kk ad H locs jl h3 h4 h5 (mm_ok_cons (h3.2.2.1.1 o k) (mm_ok_tl h6)))
theorem mm_getr {index ci k N o t : Nat} {CN : String} {T : u_T} {ty0 : Nat → FieldType} {fks : List Nat} (C : mm_OK d cs ss cc own nL ret x) (F : mm_FL own index ci k CN T N ty0) (hd : decode cc pc = .ok (.getfield index, 3)) (hs : mm_sh o = (0, ci, fks)) (hk : fks[k]? = some (10 + t)) (hnz : h.1 o k ≠ 0) (kk : mm_W x a b (pc + 3) ls (mR t :: st) h) : mm_W x a b pc ls (mR o :: st) h := by
  obtain ⟨p, l, e, R, s, m, args, below, meth, c, G, ad0, A, n0, Q⟩ := x
  intro ad H locs jl h3 h4 h5 h6
  have ho := mm_ok_lt (mm_ok_hd h6) hs (by decide)
  have he := mm_ws_get G ad ho
  rw [mm_e_obj hs] at he
  have hv : mm_fv ad h o k (10 + t) = .ref (ad t) := by
    rw [Nat.add_comm]
    show (if h.1 o k = 0 then Value.null else .ref (ad (t + 10 - 10))) = _
    rw [if_neg hnz, Nat.add_sub_cancel]
  refine va_get C.1 C.2.1 C.2.2.2.2.1 F.1.2.1 C.2.2.2.1 C.2.2.2.2.2.1 h3.1 o he F.1.1 k F.2.1 (C.2.2.2.2.1 _ F.2.2) (fun _ q => q) (mm_e_fld (G := G) (ci := ci) hk) hd ?_
  rw [hv]
  exact kk ad H locs jl h3 h4 h5 (mm_ok_cons (Or.inl (h3.2.2.1.2.2.2.2 o k t ho (by rw [hs]; exact hk) hnz)) (mm_ok_tl h6))
theorem mm_getn {index ci k N o t : Nat} {CN : String} {T : u_T} {ty0 : Nat → FieldType} {fks : List Nat} (C : mm_OK d cs ss cc own nL ret x) (F : mm_FL own index ci k CN T N ty0) (hd : decode cc pc = .ok (.getfield index, 3)) (hs : mm_sh o = (0, ci, fks)) (hk : fks[k]? = some (10 + t)) (hz : h.1 o k = 0) (kk : mm_W x a b (pc + 3) ls (mN :: st) h) : mm_W x a b pc ls (mR o :: st) h := by
  obtain ⟨p, l, e, R, s, m, args, below, meth, c, G, ad0, A, n0, Q⟩ := x
  intro ad H locs jl h3 h4 h5 h6
  have ho := mm_ok_lt (mm_ok_hd h6) hs (by decide)
  have he := mm_ws_get G ad ho
  rw [mm_e_obj hs] at he
  have hv : mm_fv ad h o k (10 + t) = .null := by
    rw [Nat.add_comm]
    show (if h.1 o k = 0 then Value.null else .ref (ad (t + 10 - 10))) = _
    rw [if_pos hz]
  refine va_get C.1 C.2.1 C.2.2.2.2.1 F.1.2.1 C.2.2.2.1 C.2.2.2.2.2.1 h3.1 o he F.1.1 k F.2.1 (C.2.2.2.2.1 _ F.2.2) (fun _ q => q) (mm_e_fld (G := G) (ci := ci) hk) hd ?_
  rw [hv]
  exact kk ad H locs jl h3 h4 h5 (mm_ok_cons trivial (mm_ok_tl h6))
theorem mm_pf_same (h : mH) (o k : Nat) (v : Int) : (mm_pf h o k v).1 o k = v := by simp [mm_pf]
theorem mm_pf_ne (h : mH) {o k o' k' : Nat} (v : Int) (hn : ¬ (o' = o ∧ k' = k)) : (mm_pf h o k v).1 o' k' = h.1 o' k' := by simp [mm_pf, hn]
theorem mm_pf_e {G : mG} {ad : Nat → Nat} {h : mH} {o ci k fk : Nat} {fks : List Nat} {v : Int} (hs : mm_sh o = (0, ci, fks)) (hk : fks[k]? = some fk) : mm_e G ad (mm_pf h o k v) o = .inr (ci, (fks.mapIdx (fun k fk => mm_fv ad h o k fk)).set k (mm_fv ad (mm_pf h o k v) o k fk)) := by
  rw [mm_e_obj hs]
  congr 2
  apply List.ext_getElem?
  intro j
  by_cases hj : j = k
  · subst hj
    rw [mm_e_fld (G := G) (ci := ci) hk, List.getElem?_set_self (by rw [List.length_mapIdx]; exact (List.getElem?_eq_some_iff.mp hk).1)]
  · rw [List.getElem?_set_ne (fun q => hj q.symm), List.getElem?_mapIdx, List.getElem?_mapIdx]
    cases hz : fks[j]? with
    | none => rfl
    | some z =>
      have e1 : mm_fv ad (mm_pf h o k v) o j z = mm_fv ad h o j z := by
        unfold mm_fv
        rw [mm_pf_ne h v (fun q => hj q.2)]
      simp only [Option.map_some, e1]
theorem mm_pf_ws {G : mG} {ad : Nat → Nat} {h : mH} {o ci k fk : Nat} {fks : List Nat} {v : Int} (ho : o < h.2.2) (hs : mm_sh o = (0, ci, fks)) (hk : fks[k]? = some fk) : (mm_ws G ad h).set o (ad o, .inr (ci, (fks.mapIdx (fun k fk => mm_fv ad h o k fk)).set k (mm_fv ad (mm_pf h o k v) o k fk))) = mm_ws G ad (mm_pf h o k v) :=
  mm_ws_set (h' := mm_pf h o k v) rfl ho (mm_pf_e hs hk) (fun q hq => mm_e_same (fun k' => mm_pf_ne h v (fun z => hq z.1)) (fun _ => rfl))
theorem mm_pf_rg {h : mH} {o k : Nat} {v : Int} (hr : mm_rg h) (h64 : mm_i64 v) (h32 : (mm_sh o).2.2[k]? ≠ some 1 → mm_i32 v) (ht : ∀ t, (mm_sh o).2.2[k]? = some (10 + t) → v ≠ 0 → t < h.2.2) : mm_rg (mm_pf h o k v) := by
  refine ⟨fun o' k' => ?_, fun o' k' hn => ?_, hr.2.2.1, hr.2.2.2.1, fun o' k' t h1 h2 h3 => ?_⟩
  · by_cases hq : o' = o ∧ k' = k
    · rw [hq.1, hq.2, mm_pf_same]; exact h64
    · rw [mm_pf_ne h v hq]; exact hr.1 o' k'
  · by_cases hq : o' = o ∧ k' = k
    · rw [hq.1, hq.2, mm_pf_same]; rw [hq.1, hq.2] at hn; exact h32 hn
    · rw [mm_pf_ne h v hq]; exact hr.2.1 o' k' hn
  · by_cases hq : o' = o ∧ k' = k
    · rw [hq.1, hq.2] at h2 h3; rw [mm_pf_same] at h3; exact ht t h2 h3
    · rw [mm_pf_ne h v hq] at h3; exact hr.2.2.2.2 o' k' t h1 h2 h3
/-- a number into a field that isn't final -/
theorem mm_puti {index ci k N fk o : Nat} {v : Int} {CN : String} {T : u_T} {ty0 : Nat → FieldType} {fks : List Nat} (C : mm_OK d cs ss cc own nL ret x) (F : mm_FL own index ci k CN T N ty0) (hd : decode cc pc = .ok (.putfield index, 3)) (hs : mm_sh o = (0, ci, fks)) (hk : fks[k]? = some fk) (hfin : (T k).2.2.2 = false) (hf : (fk = 0 ∧ ty0 k = .int) ∨ (fk = 2 ∧ ty0 k = .boolean ∧ (v = 0 ∨ v = 1))) (kk : mm_W x a b (pc + 3) ls st (mm_pf h o k v)) : mm_W x a b pc ls (mI v :: mR o :: st) h := by
  obtain ⟨p, l, e, R, s, m, args, below, meth, c, G, ad0, A, n0, Q⟩ := x
  intro ad H locs jl h3 h4 h5 h6
  have hv := mm_ok_hd h6
  have ho := mm_ok_lt (mm_ok_hd (mm_ok_tl h6)) hs (by decide)
  have he := mm_ws_get G ad ho
  rw [mm_e_obj hs] at he
  have hv1 : mm_fv ad (mm_pf h o k v) o k fk = mm_j ad (mI v) := by
    rcases hf with ⟨rfl, -⟩ | ⟨rfl, -⟩ <;> (show Value.int (Int32.ofInt ((mm_pf h o k v).1 o k)) = _; rw [mm_pf_same]; rfl)
  have hn1 : narrow (ty0 k) (.int (Int32.ofInt v)) = .int (Int32.ofInt v) ∧ fits (ty0 k) (.int (Int32.ofInt v)) = true := by
    rcases hf with ⟨-, q⟩ | ⟨-, q, rfl | rfl⟩ <;> rw [q] <;> exact ⟨rfl, rfl⟩
  have hne : (mm_sh o).2.2[k]? ≠ some 1 := by
    rw [hs]; show fks[k]? ≠ some 1; rw [hk]; rcases hf with ⟨rfl, -⟩ | ⟨rfl, -⟩ <;> decide
  have hnt : ∀ t, (mm_sh o).2.2[k]? = some (10 + t) → v ≠ 0 → t < h.2.2 := by
    intro t ht
    rw [hs] at ht
    have ht' : fks[k]? = some (10 + t) := ht
    rw [hk] at ht'
    have := Option.some.inj ht'
    rcases hf with ⟨rfl, -⟩ | ⟨rfl, -⟩ <;> omega
  refine va_put C.1 C.2.1 C.2.2.2.2.1 F.1.2.1 ty0 F.1.2.2.1 F.1.2.2.2 C.2.2.2.1 C.2.2.2.2.2.1 h3.1 h3.2.1 h3.2.2.2.1 o he F.1.1 k F.2.1 (C.2.2.2.2.1 _ F.2.2) (fun _ q => q) hfin (F.1.2.2.1 k F.2.1) hn1.1 hn1.2 (by rw [List.length_mapIdx]; exact (List.getElem?_eq_some_iff.mp hk).1) hd (fun H1 locs1 g1 g2 g3 => ?_)
  rw [← hv1, mm_pf_ws ho hs hk] at g1 g2
  have hv32 : mm_i32 v := hv
  exact kk ad H1 locs1 jl ⟨g1, g2, mm_pf_rg h3.2.2.1 ⟨by have := hv32.1; omega, by have := hv32.2; omega⟩ (fun _ => hv32) hnt, g3, h3.2.2.2.2.1, h3.2.2.2.2.2⟩ h4 h5 (mm_ok_tl (mm_ok_tl h6))
theorem mm_putl {index ci k N o : Nat} {v : Int} {CN : String} {T : u_T} {ty0 : Nat → FieldType} {fks : List Nat} (C : mm_OK d cs ss cc own nL ret x) (F : mm_FL own index ci k CN T N ty0) (hd : decode cc pc = .ok (.putfield index, 3)) (hs : mm_sh o = (0, ci, fks)) (hk : fks[k]? = some 1) (hfin : (T k).2.2.2 = false) (hf : ty0 k = .long) (kk : mm_W x a b (pc + 3) ls st (mm_pf h o k v)) : mm_W x a b pc ls (mL v :: mR o :: st) h := by
  obtain ⟨p, l, e, R, s, m, args, below, meth, c, G, ad0, A, n0, Q⟩ := x
  intro ad H locs jl h3 h4 h5 h6
  have hv := mm_ok_hd h6
  have ho := mm_ok_lt (mm_ok_hd (mm_ok_tl h6)) hs (by decide)
  have he := mm_ws_get G ad ho
  rw [mm_e_obj hs] at he
  have hv1 : mm_fv ad (mm_pf h o k v) o k 1 = mm_j ad (mL v) := by
    show Value.long (Int64.ofInt ((mm_pf h o k v).1 o k)) = _
    rw [mm_pf_same]; rfl
  have hn1 : narrow (ty0 k) (.long (Int64.ofInt v)) = .long (Int64.ofInt v) ∧ fits (ty0 k) (.long (Int64.ofInt v)) = true := by
    rw [hf]; exact ⟨rfl, rfl⟩
  refine va_put C.1 C.2.1 C.2.2.2.2.1 F.1.2.1 ty0 F.1.2.2.1 F.1.2.2.2 C.2.2.2.1 C.2.2.2.2.2.1 h3.1 h3.2.1 h3.2.2.2.1 o he F.1.1 k F.2.1 (C.2.2.2.2.1 _ F.2.2) (fun _ q => q) hfin (F.1.2.2.1 k F.2.1) hn1.1 hn1.2 (by rw [List.length_mapIdx]; exact (List.getElem?_eq_some_iff.mp hk).1) hd (fun H1 locs1 g1 g2 g3 => ?_)
  rw [← hv1, mm_pf_ws ho hs hk] at g1 g2
  exact kk ad H1 locs1 jl ⟨g1, g2, mm_pf_rg h3.2.2.1 hv (fun q => absurd (by rw [hs]; exact hk) q) (fun t ht => by rw [hs] at ht; have ht' : fks[k]? = some (10 + t) := ht; rw [hk] at ht'; have := Option.some.inj ht'; omega), g3, h3.2.2.2.2.1, h3.2.2.2.2.2⟩ h4 h5 (mm_ok_tl (mm_ok_tl h6))
/-- null into a field that isn't final -/
theorem mm_putn {index ci k N o t : Nat} {CN : String} {T : u_T} {ty0 : Nat → FieldType} {fks : List Nat} (C : mm_OK d cs ss cc own nL ret x) (F : mm_FL own index ci k CN T N ty0) (hd : decode cc pc = .ok (.putfield index, 3)) (hs : mm_sh o = (0, ci, fks)) (hk : fks[k]? = some (10 + t)) (hfin : (T k).2.2.2 = false) (hn1 : narrow (ty0 k) .null = .null ∧ fits (ty0 k) .null = true) (kk : mm_W x a b (pc + 3) ls st (mm_pf h o k 0)) : mm_W x a b pc ls (mN :: mR o :: st) h := by
  obtain ⟨p, l, e, R, s, m, args, below, meth, c, G, ad0, A, n0, Q⟩ := x
  intro ad H locs jl h3 h4 h5 h6
  have ho := mm_ok_lt (mm_ok_hd (mm_ok_tl h6)) hs (by decide)
  have he := mm_ws_get G ad ho
  rw [mm_e_obj hs] at he
  have hv1 : mm_fv ad (mm_pf h o k 0) o k (10 + t) = mm_j ad mN := by
    rw [Nat.add_comm]
    show (if (mm_pf h o k 0).1 o k = 0 then Value.null else .ref (ad (t + 10 - 10))) = _
    rw [mm_pf_same, if_pos rfl]; rfl
  refine va_put C.1 C.2.1 C.2.2.2.2.1 F.1.2.1 ty0 F.1.2.2.1 F.1.2.2.2 C.2.2.2.1 C.2.2.2.2.2.1 h3.1 h3.2.1 h3.2.2.2.1 o he F.1.1 k F.2.1 (C.2.2.2.2.1 _ F.2.2) (fun _ q => q) hfin (F.1.2.2.1 k F.2.1) hn1.1 hn1.2 (by rw [List.length_mapIdx]; exact (List.getElem?_eq_some_iff.mp hk).1) hd (fun H1 locs1 g1 g2 g3 => ?_)
  rw [← hv1, mm_pf_ws ho hs hk] at g1 g2
  exact kk ad H1 locs1 jl ⟨g1, g2, mm_pf_rg h3.2.2.1 ⟨by decide, by decide⟩ (fun _ => mm_0) (fun t _ q => absurd rfl q), g3, h3.2.2.2.2.1, h3.2.2.2.2.2⟩ h4 h5 (mm_ok_tl (mm_ok_tl h6))
/-- an object into a field: final ones in the constructor, or not final -/
theorem mm_putr {index ci k N o t : Nat} {CN : String} {T : u_T} {ty0 : Nat → FieldType} {fks : List Nat} (C : mm_OK d cs ss cc own nL ret x) (F : mm_FL own index ci k CN T N ty0) (hd : decode cc pc = .ok (.putfield index, 3)) (hs : mm_sh o = (0, ci, fks)) (hk : fks[k]? = some (10 + t)) (hfin : (T k).2.2.2 = false) (hn1 : ∀ q, narrow (ty0 k) (.ref q) = .ref q ∧ fits (ty0 k) (.ref q) = true) (hts : t < 1000) (kk : mm_W x a b (pc + 3) ls st (mm_pf h o k 1)) : mm_W x a b pc ls (mR t :: mR o :: st) h := by
  obtain ⟨p, l, e, R, s, m, args, below, meth, c, G, ad0, A, n0, Q⟩ := x
  intro ad H locs jl h3 h4 h5 h6
  have hv := mm_ok_hd h6
  have htl : t < h.2.2 := by
    have h1 : t < h.2.2 ∨ 1000 ≤ t := hv
    omega
  have ho := mm_ok_lt (mm_ok_hd (mm_ok_tl h6)) hs (by decide)
  have he := mm_ws_get G ad ho
  rw [mm_e_obj hs] at he
  have hv1 : mm_fv ad (mm_pf h o k 1) o k (10 + t) = mm_j ad (mR t) := by
    rw [Nat.add_comm]
    show (if (mm_pf h o k 1).1 o k = 0 then Value.null else .ref (ad (t + 10 - 10))) = _
    rw [mm_pf_same, if_neg (by decide), Nat.add_sub_cancel]; rfl
  refine va_put C.1 C.2.1 C.2.2.2.2.1 F.1.2.1 ty0 F.1.2.2.1 F.1.2.2.2 C.2.2.2.1 C.2.2.2.2.2.1 h3.1 h3.2.1 h3.2.2.2.1 o he F.1.1 k F.2.1 (C.2.2.2.2.1 _ F.2.2) (fun _ q => q) hfin (F.1.2.2.1 k F.2.1) (hn1 _).1 (hn1 _).2 (by rw [List.length_mapIdx]; exact (List.getElem?_eq_some_iff.mp hk).1) hd (fun H1 locs1 g1 g2 g3 => ?_)
  rw [← hv1, mm_pf_ws ho hs hk] at g1 g2
  exact kk ad H1 locs1 jl ⟨g1, g2, mm_pf_rg h3.2.2.1 ⟨by decide, by decide⟩ (fun _ => ⟨by decide, by decide⟩) (fun t' ht' _ => by rw [hs] at ht'; have h9 : fks[k]? = some (10 + t') := ht'; rw [hk] at h9; have := Option.some.inj h9; omega), g3, h3.2.2.2.2.1, h3.2.2.2.2.2⟩ h4 h5 (mm_ok_tl (mm_ok_tl h6))
def mm_nm (x : mX) : String := match x with
  | (_, _, _, _, _, _, _, _, meth, _) => meth.name
theorem mm_putrF {index ci k N o t : Nat} {CN : String} {T : u_T} {ty0 : Nat → FieldType} {fks : List Nat} (C : mm_OK d cs ss cc own nL ret x) (F : mm_FL own index ci k CN T N ty0) (hd : decode cc pc = .ok (.putfield index, 3)) (hs : mm_sh o = (0, ci, fks)) (hk : fks[k]? = some (10 + t)) (hfin : (T k).2.2.2 = true) (hin : mm_nm x = "<init>") (hdecl : (T k).1 = own) (hn1 : ∀ q, narrow (ty0 k) (.ref q) = .ref q ∧ fits (ty0 k) (.ref q) = true) (hts : t < 1000) (kk : mm_W x a b (pc + 3) ls st (mm_pf h o k 1)) : mm_W x a b pc ls (mR t :: mR o :: st) h := by
  obtain ⟨p, l, e, R, s, m, args, below, meth, c, G, ad0, A, n0, Q⟩ := x
  intro ad H locs jl h3 h4 h5 h6
  have hv := mm_ok_hd h6
  have htl : t < h.2.2 := by
    have h1 : t < h.2.2 ∨ 1000 ≤ t := hv
    omega
  have ho := mm_ok_lt (mm_ok_hd (mm_ok_tl h6)) hs (by decide)
  have he := mm_ws_get G ad ho
  rw [mm_e_obj hs] at he
  have hv1 : mm_fv ad (mm_pf h o k 1) o k (10 + t) = mm_j ad (mR t) := by
    rw [Nat.add_comm]
    show (if (mm_pf h o k 1).1 o k = 0 then Value.null else .ref (ad (t + 10 - 10))) = _
    rw [mm_pf_same, if_neg (by decide), Nat.add_sub_cancel]; rfl
  refine va_putF C.1 C.2.1 C.2.2.2.2.1 F.1.2.1 ty0 F.1.2.2.1 F.1.2.2.2 C.2.2.2.1 C.2.2.2.2.2.1 h3.1 h3.2.1 h3.2.2.2.1 o he F.1.1 k F.2.1 (C.2.2.2.2.1 _ F.2.2) (fun _ q => q) hfin (show meth.name = "<init>" from hin) hdecl (F.1.2.2.1 k F.2.1) (hn1 _).1 (hn1 _).2 (by rw [List.length_mapIdx]; exact (List.getElem?_eq_some_iff.mp hk).1) hd (fun H1 locs1 g1 g2 g3 => ?_)
  rw [← hv1, mm_pf_ws ho hs hk] at g1 g2
  exact kk ad H1 locs1 jl ⟨g1, g2, mm_pf_rg h3.2.2.1 ⟨by decide, by decide⟩ (fun _ => ⟨by decide, by decide⟩) (fun t' ht' _ => by rw [hs] at ht'; have h9 : fks[k]? = some (10 + t') := ht'; rw [hk] at h9; have := Option.some.inj h9; omega), g3, h3.2.2.2.2.1, h3.2.2.2.2.2⟩ h4 h5 (mm_ok_tl (mm_ok_tl h6))
/-! arrays -/
theorem mm_clamp {i : Int} (h0 : 0 ≤ i) (h1 : i < 2147483648) : (Int32.ofInt i).toNatClampNeg = i.toNat := by
  show (Int32.ofInt i).toInt.toNat = i.toNat
  rw [mm_t i ⟨by omega, h1⟩]
theorem mm_vin {i : Int} {n : Nat} (h0 : 0 ≤ i) (h1 : i < n) (h2 : i < 2147483648) : vp_in (Int32.ofInt i) n := by
  intro q
  rcases q with q | q
  · have := (mm_ltI (u := i) (v := 0) ⟨by omega, h2⟩ mm_0).mp q
    omega
  · rw [mm_clamp h0 h2] at q
    omega
theorem mm_pa_same (h : mH) (o : Nat) (i v : Int) : (mm_pa h o i v).2.1 o i = v := by simp [mm_pa]
theorem mm_pa_ne (h : mH) {o o' : Nat} {i j : Int} (v : Int) (hn : ¬ (o' = o ∧ j = i)) : (mm_pa h o i v).2.1 o' j = h.2.1 o' j := by simp [mm_pa, hn]
theorem mm_pa_rg {h : mH} {o : Nat} {i v : Int} (hr : mm_rg h) (h64 : mm_i64 v) (h32 : (mm_sh o).1 ≠ 3 → mm_i32 v) : mm_rg (mm_pa h o i v) := by
  refine ⟨hr.1, hr.2.1, fun o' j hn => ?_, fun o' j => ?_, hr.2.2.2.2⟩
  · by_cases hq : o' = o ∧ j = i
    · rw [hq.1, hq.2, mm_pa_same]; rw [hq.1] at hn; exact h32 hn
    · rw [mm_pa_ne h v hq]; exact hr.2.2.1 o' j hn
  · by_cases hq : o' = o ∧ j = i
    · rw [hq.1, hq.2, mm_pa_same]; exact h64
    · rw [mm_pa_ne h v hq]; exact hr.2.2.2.1 o' j
theorem mm_pa_upd {h : mH} {o : Nat} {i v : Int} (h0 : 0 ≤ i) : upd (fun j => Int32.ofInt (h.2.1 o j)) i.toNat (Int32.ofInt v) = fun j : Nat => Int32.ofInt ((mm_pa h o i v).2.1 o j) := by
  funext j
  by_cases hj : j = i.toNat
  · have e : (j : Int) = i := by omega
    show (if j = i.toNat then Int32.ofInt v else Int32.ofInt (h.2.1 o j)) = _
    rw [if_pos hj, e, mm_pa_same]
  · have e : ¬ ((j : Int) = i) := by omega
    show (if j = i.toNat then Int32.ofInt v else Int32.ofInt (h.2.1 o j)) = _
    rw [if_neg hj, mm_pa_ne h v (fun q => e q.2)]
theorem mm_pa_updL {h : mH} {o : Nat} {i v : Int} (h0 : 0 ≤ i) : vp_updL (fun j => Int64.ofInt (h.2.1 o j)) i.toNat (Int64.ofInt v) = fun j : Nat => Int64.ofInt ((mm_pa h o i v).2.1 o j) := by
  funext j
  by_cases hj : j = i.toNat
  · have e : (j : Int) = i := by omega
    show (if j = i.toNat then Int64.ofInt v else Int64.ofInt (h.2.1 o j)) = _
    rw [if_pos hj, e, mm_pa_same]
  · have e : ¬ ((j : Int) = i) := by omega
    show (if j = i.toNat then Int64.ofInt v else Int64.ofInt (h.2.1 o j)) = _
    rw [if_neg hj, mm_pa_ne h v (fun q => e q.2)]
theorem mm_pa_ws {G : mG} {ad : Nat → Nat} {h : mH} {o : Nat} {i v : Int} (ho : o < h.2.2) : (mm_ws G ad h).set o (ad o, mm_e G ad (mm_pa h o i v) o) = mm_ws G ad (mm_pa h o i v) :=
  mm_ws_set (h := h) (h' := mm_pa h o i v) rfl ho rfl (fun q hq => mm_e_same (fun _ => rfl) (fun j => mm_pa_ne h v (fun z => hq z.1)))
theorem mm_alen {o n kd : Nat} {r : List Nat} (C : mm_OK d cs ss cc own nL ret x) (hd : decode cc pc = .ok (.arraylength, 1)) (hs : mm_sh o = (kd, n, r)) (hk : kd = 1 ∨ kd = 2 ∨ kd = 3) (hn : n < 2147483648) (kk : mm_W x a b (pc + 1) ls (mI n :: st) h) : mm_W x a b pc ls (mR o :: st) h := by
  obtain ⟨p, l, e, R, s, m, args, below, meth, c, G, ad0, A, n0, Q⟩ := x
  intro ad H locs jl h3 h4 h5 h6
  have ho := mm_ok_lt (mm_ok_hd h6) hs (by rcases hk with rfl | rfl | rfl <;> decide)
  have he := mm_ws_get G ad ho
  have k := kk ad H locs jl h3 h4 h5 (mm_ok_cons (show mm_i32 n from ⟨by omega, by omega⟩) (mm_ok_tl h6))
  rcases hk with rfl | rfl | rfl
  · rw [mm_e_int hs] at he
    exact va_alen C.1 C.2.1 C.2.2.2.2.2.1 h3.1 o 0 he rfl (by rw [← Int32.ofInt_eq_ofNat]) hd k
  · rw [mm_e_bool hs] at he
    exact va_alen C.1 C.2.1 C.2.2.2.2.2.1 h3.1 o 1 he rfl (by rw [← Int32.ofInt_eq_ofNat]) hd k
  · rw [mm_e_long hs] at he
    exact va_alen C.1 C.2.1 C.2.2.2.2.2.1 h3.1 o 2 he rfl (by rw [← Int32.ofInt_eq_ofNat]) hd k
theorem mm_iald {o n : Nat} {i : Int} {r : List Nat} (C : mm_OK d cs ss cc own nL ret x) (hd : decode cc pc = .ok (.iaload, 1)) (hs : mm_sh o = (1, n, r)) (h0 : 0 ≤ i) (h1 : i < n) (kk : mm_W x a b (pc + 1) ls (mI (h.2.1 o i) :: st) h) : mm_W x a b pc ls (mI i :: mR o :: st) h := by
  obtain ⟨p, l, e, R, s, m, args, below, meth, c, G, ad0, A, n0, Q⟩ := x
  intro ad H locs jl h3 h4 h5 h6
  have hi := mm_ok_hd h6
  have h2 : i < 2147483648 := hi.2
  have ho := mm_ok_lt (mm_ok_hd (mm_ok_tl h6)) hs (by decide)
  have he := mm_ws_get G ad ho
  rw [mm_e_int hs] at he
  refine va_iald C.1 C.2.1 C.2.2.2.2.2.1 h3.1 o 0 he rfl (mm_vin h0 h1 h2) hd ?_
  rw [mm_clamp h0 h2, Int.toNat_of_nonneg h0]
  exact kk ad H locs jl h3 h4 h5 (mm_ok_cons (h3.2.2.1.2.2.1 o i (by rw [hs]; exact (show (1 : Nat) ≠ 3 by decide))) (mm_ok_tl (mm_ok_tl h6)))
theorem mm_zald {o n : Nat} {i : Int} {r : List Nat} (C : mm_OK d cs ss cc own nL ret x) (hd : decode cc pc = .ok (.baload, 1)) (hs : mm_sh o = (2, n, r)) (h0 : 0 ≤ i) (h1 : i < n) (kk : mm_W x a b (pc + 1) ls (mI (h.2.1 o i) :: st) h) : mm_W x a b pc ls (mI i :: mR o :: st) h := by
  obtain ⟨p, l, e, R, s, m, args, below, meth, c, G, ad0, A, n0, Q⟩ := x
  intro ad H locs jl h3 h4 h5 h6
  have hi := mm_ok_hd h6
  have h2 : i < 2147483648 := hi.2
  have ho := mm_ok_lt (mm_ok_hd (mm_ok_tl h6)) hs (by decide)
  have he := mm_ws_get G ad ho
  rw [mm_e_bool hs] at he
  refine va_zald C.1 C.2.1 C.2.2.2.2.2.1 h3.1 o 1 he rfl (mm_vin h0 h1 h2) hd ?_
  rw [mm_clamp h0 h2, Int.toNat_of_nonneg h0]
  exact kk ad H locs jl h3 h4 h5 (mm_ok_cons (h3.2.2.1.2.2.1 o i (by rw [hs]; exact (show (2 : Nat) ≠ 3 by decide))) (mm_ok_tl (mm_ok_tl h6)))
theorem mm_lald {o n : Nat} {i : Int} {r : List Nat} (C : mm_OK d cs ss cc own nL ret x) (hd : decode cc pc = .ok (.laload, 1)) (hs : mm_sh o = (3, n, r)) (h0 : 0 ≤ i) (h1 : i < n) (kk : mm_W x a b (pc + 1) ls (mL (h.2.1 o i) :: st) h) : mm_W x a b pc ls (mI i :: mR o :: st) h := by
  obtain ⟨p, l, e, R, s, m, args, below, meth, c, G, ad0, A, n0, Q⟩ := x
  intro ad H locs jl h3 h4 h5 h6
  have hi := mm_ok_hd h6
  have h2 : i < 2147483648 := hi.2
  have ho := mm_ok_lt (mm_ok_hd (mm_ok_tl h6)) hs (by decide)
  have he := mm_ws_get G ad ho
  rw [mm_e_long hs] at he
  refine va_lald C.1 C.2.1 C.2.2.2.2.2.1 h3.1 o 2 he rfl (mm_vin h0 h1 h2) hd ?_
  rw [mm_clamp h0 h2, Int.toNat_of_nonneg h0]
  exact kk ad H locs jl h3 h4 h5 (mm_ok_cons (h3.2.2.1.2.2.2.1 o i) (mm_ok_tl (mm_ok_tl h6)))
theorem mm_iast {o n : Nat} {i v : Int} {r : List Nat} (C : mm_OK d cs ss cc own nL ret x) (hd : decode cc pc = .ok (.iastore, 1)) (hs : mm_sh o = (1, n, r)) (h0 : 0 ≤ i) (h1 : i < n) (kk : mm_W x a b (pc + 1) ls st (mm_pa h o i v)) : mm_W x a b pc ls (mI v :: mI i :: mR o :: st) h := by
  obtain ⟨p, l, e, R, s, m, args, below, meth, c, G, ad0, A, n0, Q⟩ := x
  intro ad H locs jl h3 h4 h5 h6
  have hv : mm_i32 v := mm_ok_hd h6
  have hi := mm_ok_hd (mm_ok_tl h6)
  have h2 : i < 2147483648 := hi.2
  have ho := mm_ok_lt (mm_ok_hd (mm_ok_tl (mm_ok_tl h6))) hs (by decide)
  have he := mm_ws_get G ad ho
  rw [mm_e_int hs] at he
  refine va_iast C.1 C.2.1 C.2.2.2.2.2.1 h3.1 h3.2.1 h3.2.2.2.1 o 0 he rfl (mm_vin h0 h1 h2) hd (fun H1 locs1 g1 g2 g3 => ?_)
  rw [mm_clamp h0 h2, mm_pa_upd h0, ← mm_e_int (ad := ad) hs, mm_pa_ws ho] at g1 g2
  exact kk ad H1 locs1 jl ⟨g1, g2, mm_pa_rg h3.2.2.1 ⟨by have := hv.1; omega, by have := hv.2; omega⟩ (fun _ => hv), g3, h3.2.2.2.2.1, h3.2.2.2.2.2⟩ h4 h5 (mm_ok_tl (mm_ok_tl (mm_ok_tl h6)))
theorem mm_zast {o n : Nat} {i v : Int} {r : List Nat} (C : mm_OK d cs ss cc own nL ret x) (hd : decode cc pc = .ok (.bastore, 1)) (hs : mm_sh o = (2, n, r)) (h0 : 0 ≤ i) (h1 : i < n) (hb : v = 0 ∨ v = 1) (kk : mm_W x a b (pc + 1) ls st (mm_pa h o i v)) : mm_W x a b pc ls (mI v :: mI i :: mR o :: st) h := by
  obtain ⟨p, l, e, R, s, m, args, below, meth, c, G, ad0, A, n0, Q⟩ := x
  intro ad H locs jl h3 h4 h5 h6
  have hv : mm_i32 v := mm_ok_hd h6
  have hi := mm_ok_hd (mm_ok_tl h6)
  have h2 : i < 2147483648 := hi.2
  have ho := mm_ok_lt (mm_ok_hd (mm_ok_tl (mm_ok_tl h6))) hs (by decide)
  have he := mm_ws_get G ad ho
  rw [mm_e_bool hs] at he
  have hnar : vp_nar .boolean (Int32.ofInt v) = Int32.ofInt v := by rcases hb with rfl | rfl <;> rfl
  refine va_zast C.1 C.2.1 C.2.2.2.2.2.1 h3.1 h3.2.1 h3.2.2.2.1 o 1 he rfl (mm_vin h0 h1 h2) hd (fun H1 locs1 g1 g2 g3 => ?_)
  rw [hnar, mm_clamp h0 h2, mm_pa_upd h0, ← mm_e_bool (ad := ad) hs, mm_pa_ws ho] at g1 g2
  exact kk ad H1 locs1 jl ⟨g1, g2, mm_pa_rg h3.2.2.1 ⟨by have := hv.1; omega, by have := hv.2; omega⟩ (fun _ => hv), g3, h3.2.2.2.2.1, h3.2.2.2.2.2⟩ h4 h5 (mm_ok_tl (mm_ok_tl (mm_ok_tl h6)))
theorem mm_last {o n : Nat} {i v : Int} {r : List Nat} (C : mm_OK d cs ss cc own nL ret x) (hd : decode cc pc = .ok (.lastore, 1)) (hs : mm_sh o = (3, n, r)) (h0 : 0 ≤ i) (h1 : i < n) (kk : mm_W x a b (pc + 1) ls st (mm_pa h o i v)) : mm_W x a b pc ls (mL v :: mI i :: mR o :: st) h := by
  obtain ⟨p, l, e, R, s, m, args, below, meth, c, G, ad0, A, n0, Q⟩ := x
  intro ad H locs jl h3 h4 h5 h6
  have hv : mm_i64 v := mm_ok_hd h6
  have hi := mm_ok_hd (mm_ok_tl h6)
  have h2 : i < 2147483648 := hi.2
  have ho := mm_ok_lt (mm_ok_hd (mm_ok_tl (mm_ok_tl h6))) hs (by decide)
  have he := mm_ws_get G ad ho
  rw [mm_e_long hs] at he
  refine va_last C.1 C.2.1 C.2.2.2.2.2.1 h3.1 h3.2.1 h3.2.2.2.1 o 2 he rfl (mm_vin h0 h1 h2) hd (fun H1 locs1 g1 g2 g3 => ?_)
  rw [mm_clamp h0 h2, mm_pa_updL h0, ← mm_e_long (ad := ad) hs, mm_pa_ws ho] at g1 g2
  exact kk ad H1 locs1 jl ⟨g1, g2, mm_pa_rg h3.2.2.1 hv (fun q => absurd (by rw [hs]) q), g3, h3.2.2.2.2.1, h3.2.2.2.2.2⟩ h4 h5 (mm_ok_tl (mm_ok_tl (mm_ok_tl h6)))
end MMH
