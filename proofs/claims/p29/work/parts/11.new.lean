/-! ===== exceptions thrown and caught, new objects and arrays ===== -/
def mm_TH (own : String) (ik ic : Nat) (cls : String) (names : List String) : Prop := Bundle.fit cls = true ∧ (∀ n ∈ names, Bundle.fit n = true) ∧ Cond.classLink own ik cls ∈ mm_T ∧ Cond.initialized cls ∈ mm_T ∧ (∀ w ∈ vx_atS own ic cls names, w ∈ mm_T ∨ (∃ q ∈ mm_cast, w = .castable q.1 q.2) ∨ ∃ q ∈ mm_decl, w = .declares q) ∧ (∀ w ∈ Cond.classLink own ik cls :: Cond.initialized cls :: vx_atS own ic cls names, vx_ot w = true) ∧ names.length ≤ 3
theorem mm_thEnd {G : mG} {ad0 ad : Nat → Nat} {A : Nat → Prop} {n0 : Nat} {s t : State} {h : mH} {H : Heap} {locs : List Loc} (h3 : mm_at G ad0 A n0 s h ad H locs) (hz : H.size ≤ t.heap.size) (hk : ∀ q : Nat, q < H.size → t.heap[q]? = H[q]?) : mm_end G ad0 A n0 h ad s t := by
  obtain ⟨g1, g2, g3, g4, g5, g6⟩ := h3
  exact ⟨g1.kept (fun k q hq => hk q.1 ((g1 k q hq).lt)), g2, g3, g5, g6, Nat.le_trans g4.1 hz, fun q h1 h2 => (hk q (Nat.lt_of_lt_of_le h1 g4.1)).trans (g4.2.1 q h1 h2)⟩
section MMT
variable {x : mX} {d cs ss : Nat} {cc : ByteArray} {own : String} {nL : Nat} {ret : Option FieldType} {a b pc : Nat} {ls st : List mV} {h : mH} {post : Option mV → mH → Prop} {xp : String → mH → Prop} {mc ms : Nat}
set_option maxHeartbeats 4000000 in
theorem mm_throwS {ik is ic i : Nat} {cls text : String} {names : List String} (C : mm_OK (d + 8) cs ss cc own nL ret x) (T : mm_RT post xp mc ms x) (ht : mm_tb x = []) (K : mm_TH own ik ic cls names) (hstr : mm_str[i]? = some (own, is, text))
    (d0 : decode cc pc = .ok (.new ik, 3)) (d3 : decode cc (pc + 3) = .ok (.dup, 1)) (d4 : decode cc (pc + 4) = .ok (.ldc is, 2)) (d6 : decode cc (pc + 6) = .ok (.invokespecial ic, 3)) (d9 : decode cc (pc + 9) = .ok (.athrow, 1))
    (hcat : mm_cats st ≤ 8) (ha : a + 1 ≤ mc ∧ a + 1 ≤ cs) (hb : b + 6 ≤ ms ∧ b + 6 ≤ ss) (hp : xp cls h) : mm_W x a b pc ls st h := by
  obtain ⟨p, l, e, R, s, m, args, below, meth, c, G, ad0, A, n0, Q⟩ := x
  intro ad H locs jl h3 h4 h5 h6
  obtain ⟨c1, c2, c3, c4, c5, c6, c7, c8, c9, c10, c11, c12, c13, c14, c15⟩ := C
  obtain ⟨k1, k2, k3, k4, k5, k6, k7⟩ := K
  have hQ : Q = vx_MQ below (mm_Qc G ad0 A n0 post) (mm_XC G ad0 A n0 xp) args s mc ms A := T
  subst hQ
  have ht' : c.exceptionTable.toList = [] := ht
  refine vx_throwS (names := names) (A := A) c1 c2 c9 c4 k1 k2 (c5 _ k3) (c5 _ k4) (c10.2.2.1 i _ hstr) (fun w hw => ?_) k6 c10.1 c10.2.1 h3.2.2.2.1 h4.1 d0 d3 d4 d6 d9 (fun z hz => by rw [ht'] at hz; cases hz) (by omega) ?_ (by omega) (by omega) c8 (fun t _ hz hk => ⟨h, ad, hp, mm_thEnd h3 hz hk⟩) h3.2.2.2.1.2.2 ha.1 hb.1
  · rcases k5 w hw with q | ⟨q, hq, rfl⟩ | ⟨q, hq, rfl⟩
    · exact c5 w q
    · exact va_Nw.use rfl (c10.2.2.2.2.1 q hq)
    · exact va_Nw.use rfl (c10.2.2.2.2.2.2.2.2.1 q hq)
  · rw [mm_cats_j]
    omega
set_option maxHeartbeats 4000000 in
theorem mm_throwSW {ik is ic i : Nat} {cls text : String} {names : List String} (C : mm_OK (d + 8) cs ss cc own nL ret x) (T : mm_RT post xp mc ms x) (ht : mm_tb x = []) (K : mm_TH own ik ic cls names) (hstr : mm_str[i]? = some (own, is, text))
    (d0 : decode cc pc = .ok (.new ik, 3)) (d3 : decode cc (pc + 3) = .ok (.dup, 1)) (d4 : decode cc (pc + 4) = .ok (.ldc_w is, 3)) (d7 : decode cc (pc + 7) = .ok (.invokespecial ic, 3)) (d10 : decode cc (pc + 10) = .ok (.athrow, 1))
    (hcat : mm_cats st ≤ 8) (ha : a + 1 ≤ mc ∧ a + 1 ≤ cs) (hb : b + 6 ≤ ms ∧ b + 6 ≤ ss) (hp : xp cls h) : mm_W x a b pc ls st h := by
  obtain ⟨p, l, e, R, s, m, args, below, meth, c, G, ad0, A, n0, Q⟩ := x
  intro ad H locs jl h3 h4 h5 h6
  obtain ⟨c1, c2, c3, c4, c5, c6, c7, c8, c9, c10, c11, c12, c13, c14, c15⟩ := C
  obtain ⟨k1, k2, k3, k4, k5, k6, k7⟩ := K
  have hQ : Q = vx_MQ below (mm_Qc G ad0 A n0 post) (mm_XC G ad0 A n0 xp) args s mc ms A := T
  subst hQ
  have ht' : c.exceptionTable.toList = [] := ht
  refine vx_throwSW (names := names) (A := A) c1 c2 c9 c4 k1 k2 (c5 _ k3) (c5 _ k4) (c10.2.2.1 i _ hstr) (fun w hw => ?_) k6 c10.1 c10.2.1 h3.2.2.2.1 h4.1 d0 d3 d4 d7 d10 (fun z hz => by rw [ht'] at hz; cases hz) (by omega) ?_ (by omega) (by omega) c8 (fun t _ hz hk => ⟨h, ad, hp, mm_thEnd h3 hz hk⟩) h3.2.2.2.1.2.2 ha.1 hb.1
  · rcases k5 w hw with q | ⟨q, hq, rfl⟩ | ⟨q, hq, rfl⟩
    · exact c5 w q
    · exact va_Nw.use rfl (c10.2.2.2.2.1 q hq)
    · exact va_Nw.use rfl (c10.2.2.2.2.2.2.2.2.1 q hq)
  · rw [mm_cats_j]
    omega
/-- caught by the row z of this method's table: the exception itself is of no further use -/
theorem mm_catch {E nm : String} (pre : List ExceptionTableEntry) (z : ExceptionTableEntry) (suf : List ExceptionTableEntry) (C : mm_OK d cs ss cc own nL ret x) (ht : mm_tb x = pre ++ z :: suf) (hpre : ∀ y ∈ pre, covers y pc = false ∨ (y.catchType ≠ 0 ∧ ∃ n2 : String, Cond.classLink own y.catchType n2 ∈ mm_T ∧ (E, n2) ∈ mm_ncast)) (hz : covers z pc = true) (h0 : z.catchType ≠ 0) (hl : Cond.classLink own z.catchType nm ∈ mm_T) (hc : (E, nm) ∈ mm_cast) {k : Nat} (hk : k < nL) (hd : decode cc z.handlerPc = .ok (.astore k, 2) ∨ ∃ q : Fin 4, (q : Nat) = k ∧ decode cc z.handlerPc = .ok (.astore_n q, 1)) {pc2 : Nat} (hpc : (decode cc z.handlerPc = .ok (.astore k, 2) → pc2 = z.handlerPc + 2) ∧ ((∃ q : Fin 4, (q : Nat) = k ∧ decode cc z.handlerPc = .ok (.astore_n q, 1)) → pc2 = z.handlerPc + 1))
    (kk : mm_W x a b pc2 (mm_st ls k mU) [] h) : mm_Wx x a b pc ls E h := by
  obtain ⟨p, l, e, R, s, m, args, below, meth, c, G, ad0, A, n0, Q⟩ := x
  intro ad H locs jl q ce st h3 h4 h5 h6 h7 h8
  obtain ⟨c1, c2, c3, c4, c5, c6, c7, c8, c9, c10, c11, c12, c13, c14, c15⟩ := C
  refine vx_catch (name := nm) c4 pre z suf ht (fun y hy => (hpre y hy).imp id (fun ⟨w1, n2, w2, w3⟩ => ⟨w1, n2, c5 _ w2, c10.2.2.2.2.2.1 _ w3⟩)) hz h0 (c5 _ hl) (va_Nw.use rfl (c10.2.2.2.2.1 _ hc)) h6 h7 h8 ?_
  have hst : ∀ jl' : Array Slot, lv_has jl' c.maxLocals ((k, Value.ref q) :: (mm_lv ad 0 ls).filter (fun q => !(q.1 == k) && !(q.1 + 1 == k && q.2.category == 2))) → lv_has jl' c.maxLocals (mm_lv ad 0 (mm_st ls k mU)) := by
    intro jl' hl'
    refine ⟨hl'.1, hl'.2.1, fun w hw => hl'.2.2 w ?_⟩
    obtain ⟨j, v, g1, g2, g3⟩ := (mm_lv_mem _ 0 w).mp hw
    rw [Nat.zero_add] at g3
    rcases mm_st_get g1 g2 with ⟨-, e2⟩ | ⟨e1, e2, e3⟩
    · rw [e2] at g2; exact absurd g2 (by decide)
    · refine List.mem_cons_of_mem _ (List.mem_filter.mpr ⟨(mm_lv_mem _ 0 w).mpr ⟨j, v, e2, g2, by rw [Nat.zero_add]; exact g3⟩, ?_⟩)
      rw [g3]
      have k1 : (j == k) = false := by simpa using e1
      have k2 : (j + 1 == k && (mm_j ad v).category == 2) = false := by
        cases hc : (j + 1 == k && (mm_j ad v).category == 2)
        · rfl
        · simp only [Bool.and_eq_true, beq_iff_eq] at hc
          exact absurd ⟨hc.1, (mm_j_cat ad v).mp hc.2⟩ e3
      show (!(j == k) && !(j + 1 == k && (mm_j ad v).category == 2)) = true
      rw [k1, k2]
      rfl
  rcases hd with hd | ⟨f, hf, hd⟩
  · refine lv_astore c1 c2 hd h4 (by rw [c3]; exact hk) rfl (fun jl' hl' => ?_)
    have k := kk ad H locs jl' h3 (hst jl' hl') (mm_st_ok h5 trivial) (fun _ q => by cases q)
    rw [hpc.1 hd] at k
    exact k
  · refine lv_astore_n c1 c2 hd hf h4 (by rw [c3]; exact hk) rfl (fun jl' hl' => ?_)
    have k := kk ad H locs jl' h3 (hst jl' hl') (mm_st_ok h5 trivial) (fun _ q => by cases q)
    rw [hpc.2 ⟨f, hf, hd⟩] at k
    exact k
/-! new -/
def mm_df (fk : Nat) : Value := match fk with
  | 0 => .int 0
  | 1 => .long 0
  | 2 => .int 0
  | _ => .null
theorem mm_nw_rg {h : mH} (hr : mm_rg h) : mm_rg (mm_nw h) := by
  refine ⟨fun o k => ?_, fun o k hn => ?_, fun o j hn => ?_, fun o j => ?_, fun o k t h1 h2 h3 => ?_⟩
  · show mm_i64 (if o = h.2.2 then 0 else h.1 o k)
    split
    · exact ⟨by decide, by decide⟩
    · exact hr.1 o k
  · show mm_i32 (if o = h.2.2 then 0 else h.1 o k)
    split
    · exact mm_0
    · exact hr.2.1 o k hn
  · show mm_i32 (if o = h.2.2 then 0 else h.2.1 o j)
    split
    · exact mm_0
    · exact hr.2.2.1 o j hn
  · show mm_i64 (if o = h.2.2 then 0 else h.2.1 o j)
    split
    · exact ⟨by decide, by decide⟩
    · exact hr.2.2.2.1 o j
  · have h3' : (if o = h.2.2 then 0 else h.1 o k) ≠ 0 := h3
    have h1' : o < h.2.2 + 1 := h1
    by_cases he : o = h.2.2
    · rw [if_pos he] at h3'; exact absurd rfl h3'
    · rw [if_neg he] at h3'
      have := hr.2.2.2.2 o k t (by omega) h2 h3'
      show t < h.2.2 + 1
      omega
theorem mm_nw_ws {G : mG} {ad : Nat → Nat} {h : mH} {q : Nat} {e : va_E} (hr : mm_rg h) (he : mm_e G (fun o => if o = h.2.2 then q else ad o) (mm_nw h) h.2.2 = e) : mm_ws G ad h ++ [(q, e)] = mm_ws G (fun o => if o = h.2.2 then q else ad o) (mm_nw h) := by
  apply List.ext_getElem?
  intro j
  rcases Nat.lt_trichotomy j h.2.2 with hj | hj | hj
  · rw [List.getElem?_append_left (by rw [mm_ws_len]; exact hj), mm_ws_get G ad hj, mm_ws_get G _ (h := mm_nw h) (show j < h.2.2 + 1 by omega)]
    have e1 : mm_e G (fun o => if o = h.2.2 then q else ad o) (mm_nw h) j = mm_e G ad h j := by
      rw [← mm_e_ad (ad' := fun o => if o = h.2.2 then q else ad o) hr hj (fun o ho => by rw [if_neg (by omega)])]
      exact mm_e_same (fun k => by show (if j = h.2.2 then 0 else h.1 j k) = _; rw [if_neg (by omega)]) (fun k => by show (if j = h.2.2 then 0 else h.2.1 j k) = _; rw [if_neg (by omega)])
    rw [e1]
    show some (ad j, _) = some (if j = h.2.2 then q else ad j, _)
    rw [if_neg (by omega)]
  · subst hj
    rw [List.getElem?_append_right (by rw [mm_ws_len]; exact Nat.le_refl _), mm_ws_len, Nat.sub_self, mm_ws_get G _ (h := mm_nw h) (show h.2.2 < h.2.2 + 1 by omega), he]
    show some (q, e) = some (if h.2.2 = h.2.2 then q else ad h.2.2, e)
    rw [if_pos rfl]
  · rw [List.getElem?_eq_none (by rw [List.length_append, mm_ws_len]; exact hj), List.getElem?_eq_none (by rw [mm_ws_len]; exact hj)]
theorem mm_nw_at {G : mG} {ad0 ad : Nat → Nat} {A : Nat → Prop} {n0 q : Nat} {s : State} {h : mH} {H H1 : Heap} {locs : List Loc} {e : va_E} (h3 : mm_at G ad0 A n0 s h ad H locs) (hN : h.2.2 < 1000) (he : mm_e G (fun o => if o = h.2.2 then q else ad o) (mm_nw h) h.2.2 = e) (g1 : va_P (G.1, G.2.1) vwCl (mm_ws G ad h ++ [(q, e)]) H1) (g2 : va_D A (mm_ws G ad h ++ [(q, e)])) (g3 : va_S A s.heap H1 locs) : mm_at G ad0 A n0 s (mm_nw h) (fun o => if o = h.2.2 then q else ad o) H1 locs := by
  rw [mm_nw_ws h3.2.2.1 he] at g1 g2
  refine ⟨g1, g2, mm_nw_rg h3.2.2.1, g3, fun o ho => ?_, Nat.le_trans h3.2.2.2.2.2 (Nat.le_succ _)⟩
  show (if o = h.2.2 then q else ad o) = ad0 o
  rw [if_neg (by have := h3.2.2.2.2.2; omega)]
  exact h3.2.2.2.2.1 o ho
theorem mm_nw_ag {ad : Nat → Nat} {h : mH} {q : Nat} (hN : h.2.2 < 1000) : ∀ o, (o < h.2.2 ∨ 1000 ≤ o) → (fun o => if o = h.2.2 then q else ad o) o = ad o := fun o ho => by
  show (if o = h.2.2 then q else ad o) = ad o
  rw [if_neg (by omega)]
set_option maxHeartbeats 4000000 in
theorem mm_new {index ci N n : Nat} {CN : String} {T : u_T} {ty0 : Nat → FieldType} {fks : List Nat} (C : mm_OK d cs ss cc own nL ret x) (L : mm_CL ci CN T N ty0) (hw : Cond.classLink own index CN ∈ mm_T) (hi : Cond.instantiable CN N ∈ mm_T) (hini : Cond.initialized CN ∈ mm_T) (hd : decode cc pc = .ok (.new index, 3)) (hn : h.2.2 = n) (hN : n < 1000) (hs : mm_sh n = (0, ci, fks)) (hdf : ∀ j, j < N → defaultValue (ty0 j) = vp_V (fks.map mm_df) j) (hc : a + 1 ≤ cs) (hb : b + N ≤ ss) (kk : mm_W x (a + 1) (b + N) (pc + 3) ls (mR n :: st) (mm_nw h)) : mm_W x a b pc ls st h := by
  obtain ⟨p, l, e, R, s, m, args, below, meth, c, G, ad0, A, n0, Q⟩ := x
  intro ad H locs jl h3 h4 h5 h6
  obtain ⟨c1, c2, c3, c4, c5, c6, c7, c8, c9, c10, c11, c12, c13, c14, c15⟩ := C
  subst hn
  refine va_new (ci := ci) (fs := fks.map mm_df) c1 c2 c5 L.2.1 ty0 L.2.2.1 c4 (c5 _ hw) (c5 _ hi) (c5 _ hini) c6 h3.1 h3.2.1 h3.2.2.2.1 c7 L.1 hdf (by omega) (by omega) hd (fun q H1 g1 g2 g3 => ?_)
  have he : mm_e G (fun o => if o = h.2.2 then q else ad o) (mm_nw h) h.2.2 = .inr (ci, fks.map mm_df) := by
    rw [mm_e_obj hs]
    congr 2
    apply List.ext_getElem?
    intro j
    rw [List.getElem?_mapIdx, List.getElem?_map]
    cases fks[j]? with
    | none => rfl
    | some fk =>
      have e0 : (mm_nw h).1 h.2.2 j = 0 := by show (if h.2.2 = h.2.2 then (0 : Int) else _) = 0; rw [if_pos rfl]
      simp only [Option.map_some]
      congr 1
      match fk with
      | 0 => show Value.int (Int32.ofInt ((mm_nw h).1 h.2.2 j)) = .int 0; rw [e0]; rfl
      | 1 => show Value.long (Int64.ofInt ((mm_nw h).1 h.2.2 j)) = .long 0; rw [e0]; rfl
      | 2 => show Value.int (Int32.ofInt ((mm_nw h).1 h.2.2 j)) = .int 0; rw [e0]; rfl
      | n + 3 =>
        show (if (mm_nw h).1 h.2.2 j = 0 then Value.null else .ref ((fun o => if o = h.2.2 then q else ad o) (n + 3 - 10))) = .null
        rw [e0, if_pos rfl]
  have k := kk (fun o => if o = h.2.2 then q else ad o) H1 locs jl (mm_nw_at h3 hN he g1 g2 g3) (by rw [mm_lv_agree (mm_nw_ag hN) ls 0 h5]; exact h4) (mm_ok_mono (Nat.le_succ _) h5) (mm_ok_cons (Or.inl (show h.2.2 < h.2.2 + 1 by omega)) (mm_ok_mono (Nat.le_succ _) h6))
  rw [List.map_cons, mm_map_agree (mm_nw_ag hN) h6, show mm_j (fun o => if o = h.2.2 then q else ad o) (mR h.2.2) = .ref q from by show Value.ref (if h.2.2 = h.2.2 then q else ad h.2.2) = _; rw [if_pos rfl]] at k
  exact k
set_option maxHeartbeats 4000000 in
theorem mm_newa {atype : ArrayType} {kd n len : Nat} {z : Int} {r : List Nat} (C : mm_OK d cs ss cc own nL ret x) (hw : Cond.arrayClass (newarray.typeOf atype) ∈ mm_T) (hd : decode cc pc = .ok (.newarray atype, 2)) (hn : h.2.2 = n) (hN : n < 1000) (hs : mm_sh n = (kd, len, r)) (hk : (kd = 1 ∧ newarray.typeOf atype = .int) ∨ (kd = 2 ∧ newarray.typeOf atype = .boolean) ∨ (kd = 3 ∧ newarray.typeOf atype = .long)) (hz : z = len) (hlen : len ≤ 1000000) (hc : a + 1 ≤ cs) (hb : b + len ≤ ss) (kk : mm_W x (a + 1) (b + len) (pc + 2) ls (mR n :: st) (mm_nw h)) : mm_W x a b pc ls (mI z :: st) h := by
  obtain ⟨p, l, e, R, s, m, args, below, meth, c, G, ad0, A, n0, Q⟩ := x
  intro ad H locs jl h3 h4 h5 h6
  obtain ⟨c1, c2, c3, c4, c5, c6, c7, c8, c9, c10, c11, c12, c13, c14, c15⟩ := C
  subst hn
  subst hz
  have hz1 : ¬ Int32.ofInt (len : Int) < 0 := fun q => by
    have := (mm_ltI (u := (len : Int)) (v := 0) ⟨by omega, by omega⟩ mm_0).mp q
    omega
  have hz2 : (Int32.ofInt (len : Int)).toNatClampNeg = len := by rw [mm_clamp (by omega) (by omega)]; omega
  have h7 := mm_ok_tl h6
  have fin : ∀ (q : Nat) (H1 : Heap) (e1 : va_E), mm_e G (fun o => if o = h.2.2 then q else ad o) (mm_nw h) h.2.2 = e1 → va_P (G.1, G.2.1) vwCl (mm_ws G ad h ++ [(q, e1)]) H1 → va_D A (mm_ws G ad h ++ [(q, e1)]) → va_S A s.heap H1 locs → W p l e R s m args below meth c H1 locs (a + 1) (b + len) Q (F0 m (pc + 2) jl (.ref q :: st.map (mm_j ad))) := by
    intro q H1 e1 he g1 g2 g3
    have k := kk (fun o => if o = h.2.2 then q else ad o) H1 locs jl (mm_nw_at h3 hN he g1 g2 g3) (by rw [mm_lv_agree (mm_nw_ag hN) ls 0 h5]; exact h4) (mm_ok_mono (Nat.le_succ _) h5) (mm_ok_cons (Or.inl (show h.2.2 < h.2.2 + 1 by omega)) (mm_ok_mono (Nat.le_succ _) h7))
    rw [List.map_cons, mm_map_agree (mm_nw_ag hN) h7, show mm_j (fun o => if o = h.2.2 then q else ad o) (mR h.2.2) = .ref q from by show Value.ref (if h.2.2 = h.2.2 then q else ad h.2.2) = _; rw [if_pos rfl]] at k
    exact k
  have ez : ∀ j : Int, (mm_nw h).2.1 h.2.2 j = 0 := fun j => by show (if h.2.2 = h.2.2 then (0 : Int) else _) = 0; rw [if_pos rfl]
  rcases hk with ⟨rfl, hty⟩ | ⟨rfl, hty⟩ | ⟨rfl, hty⟩
  · refine va_newa (ty := .int) (a0 := (len, .inl (fun _ => 0))) c1 c2 (c5 _ hw) hty c6 h3.1 h3.2.1 h3.2.2.2.1 c7 (fun cA => rfl) hz1 hz2 (by show len * 4 ≤ 536870912; omega) (by omega) (by omega) hd (fun q cA H1 gk g1 g2 g3 => ?_)
    have hcA : cA = G.2.2.1 := by
      have q1 := (gk.2 3 (cA, .int) rfl).2
      have q2 := (c6.2 0 (G.2.2.1, .int) rfl).2
      exact Option.some.inj (q1.symm.trans q2)
    subst hcA
    refine fin q H1 _ ?_ g1 g2 g3
    rw [mm_e_int hs]
    simp only [ez]
    rfl
  · refine va_newa (ty := .boolean) (a0 := (len, .inl (fun _ => 0))) c1 c2 (c5 _ hw) hty c6 h3.1 h3.2.1 h3.2.2.2.1 c7 (fun cA => rfl) hz1 hz2 (by show len * 1 ≤ 536870912; omega) (by omega) (by omega) hd (fun q cA H1 gk g1 g2 g3 => ?_)
    have hcA : cA = G.2.2.2.1 := by
      have q1 := (gk.2 3 (cA, .boolean) rfl).2
      have q2 := (c6.2 1 (G.2.2.2.1, .boolean) rfl).2
      exact Option.some.inj (q1.symm.trans q2)
    subst hcA
    refine fin q H1 _ ?_ g1 g2 g3
    rw [mm_e_bool hs]
    simp only [ez]
    rfl
  · refine va_newa (ty := .long) (a0 := (len, .inr (.inl (fun _ => 0)))) c1 c2 (c5 _ hw) hty c6 h3.1 h3.2.1 h3.2.2.2.1 c7 (fun cA => rfl) hz1 hz2 (by show len * 8 ≤ 536870912; omega) (by omega) (by omega) hd (fun q cA H1 gk g1 g2 g3 => ?_)
    have hcA : cA = G.2.2.2.2 := by
      have q1 := (gk.2 3 (cA, .long) rfl).2
      have q2 := (c6.2 2 (G.2.2.2.2, .long) rfl).2
      exact Option.some.inj (q1.symm.trans q2)
    subst hcA
    refine fin q H1 _ ?_ g1 g2 g3
    rw [mm_e_long hs]
    simp only [ez]
    rfl
end MMT
