/-! ===== methods with a table of handlers; sizes of the heap as they are ===== -/
def mm_MetH (l : Launch) (d : Nat) (y : MethodName) (bytes : ByteArray) (maxL : Nat) (ret : Option FieldType) (hh : List (Nat × Nat × Nat × Nat)) (As : List mV) (h : mH) (post : Option mV → mH → Prop) (xp : String → mH → Prop) (mc ms : Nat) : Prop :=
  ∀ (G : mG) (ad0 : Nat → Nat) (sz : Nat), vx_Met l y (Cond.codeWith y bytes maxL ret hh :: mm_T) (mm_rm d mc ms) (mm_Pc G ad0 h sz As) (mm_Qc G ad0 (va_A (mm_ws G ad0 h) sz) h.2.2 post) (mm_XC G ad0 (va_A (mm_ws G ad0 h) sz) h.2.2 xp) mc ms (va_A (mm_ws G ad0 h) sz)
set_option maxHeartbeats 4000000 in
theorem mm_ofWH {l : Launch} {d mc ms maxL : Nat} {y : MethodName} {bytes : ByteArray} {ret : Option FieldType} {hh : List (Nat × Nat × Nat × Nat)} {As ls : List mV} {h : mH} {post : Option mV → mH → Prop} {xp : String → mH → Prop} (hl : l.stackTraces = false) (hy : plainName y.cls = true) (hls : mm_ini As maxL = ls) (hsl : (mm_sl As).length ≤ maxL)
    (body : ∀ x : mX, x.2.1 = l → mm_OK d mc ms bytes y.cls maxL ret x → mm_RT post xp mc ms x → mm_tb x = tableOf hh → mm_W x 0 0 0 ls [] h) : mm_MetH l d y bytes maxL ret hh As h post xp mc ms := by
  intro G ad0 sz
  refine vx_ofWH (cc := bytes) (maxL := maxL) (ret := ret) (hh := hh) hy rfl ?_
  intro p e s m args below meth c s₁ B hml hv
  obtain ⟨rfl, hsz, hP, hD, hrg, hK, hZ, hok⟩ := hv
  subst hsz
  have hts := atoms_spec (ws := Cond.codeWith y bytes maxL ret hh :: mm_T) B.pre
  have k := body (p, l, e, mm_rm d mc ms, s, m, (As.map (mm_j ad0)).toArray, below, meth, c, G, ad0, va_A (mm_ws G ad0 h) s.heap.size, h.2.2, vx_MQ below (mm_Qc G ad0 (va_A (mm_ws G ad0 h) s.heap.size) h.2.2 post) (mm_XC G ad0 (va_A (mm_ws G ad0 h) s.heap.size) h.2.2 xp) (As.map (mm_j ad0)).toArray s mc ms (va_A (mm_ws G ad0 h) s.heap.size)) rfl
    ⟨B.exec, B.bytes, hml, findClass_of_methodNamed B.named, fun w hw => hts w (List.mem_cons_of_mem _ hw), hK, fun q hq => Or.inr hq, B.notSynchronized, hl, hZ, B.returns, Nat.le_refl _, Nat.le_refl _, Nat.le_refl _, Nat.le_refl _⟩ rfl (vx_table (x := y) B (hts _ List.mem_cons_self))
  rw [lg_entry_eq]
  have hl0 := lv_entry (As.map (mm_j ad0)) (n := maxL) (by rw [mm_sl_len]; exact hsl)
  refine k ad0 s.heap [] _ ⟨hP, hD.self, hrg, va_S.rf, fun _ _ => rfl, Nat.le_refl _⟩ ?_ (by rw [← hls]; exact mm_ini_ok hok) (fun _ q => by cases q)
  rw [hml]
  refine ⟨hl0.1, hl0.2.1, fun q hq => hl0.2.2 q ?_⟩
  rw [← hls] at hq
  exact mm_ini_args _ As 0 q hq
def mm_MWH (y : MethodName) (bytes : ByteArray) (maxL : Nat) (ret : Option FieldType) (hh : List (Nat × Nat × Nat × Nat)) (n : Nat) : Prop :=
  Cond.codeWith y bytes maxL ret hh ∈ mm_T ∧ Cond.initialized y.cls ∈ mm_T ∧ (y.cls ≠ "java/lang/invoke/MethodHandle" ∧ y.cls ≠ "java/lang/invoke/VarHandle" ∧ (parseMethodDescriptor y.desc).map (fun d => d.parameters.length) = some n) ∧ maxL ≤ 45
section MMH
variable {x : mX} {d cs ss : Nat} {cc : ByteArray} {own : String} {nL : Nat} {ret : Option FieldType} {a b pc : Nat} {ls st : List mV} {h : mH} {post : Option mV → mH → Prop} {xp : String → mH → Prop} {mc ms : Nat}
theorem mm_cwH {R : Room} {s : State} {args : Array Value} {index n maxL : Nat} {y : MethodName} {bytes : ByteArray} {rt : Option FieldType} {hh : List (Nat × Nat × Nat × Nat)} (hts : ∀ w ∈ mm_T, w.before args s = true) (M : mm_MWH y bytes maxL rt hh n) (hw : Cond.methodLink own index y ∈ mm_T) (hst : Cond.static y ∈ mm_T) (hR : d + 1 ≤ R.frames ∧ 64 * (d + 1) ≤ R.locals) : vx_CSW R s args own index y bytes maxL rt hh (Cond.codeWith y bytes maxL rt hh :: mm_T) (mm_rm d mc ms) mc ms n := by
  refine vx_cwSW n hts ?_ rfl rfl rfl M.2.2.1 ⟨hR.1, by have := M.2.2.2; show 8 + (maxL + 11) + 64 * d ≤ R.locals; omega⟩
  intro w hm
  have hin : w ∈ mm_T := by
    unfold va_wsS at hm
    simp only [List.cons_append, List.nil_append, List.mem_cons] at hm
    rcases hm with rfl | rfl | rfl | rfl | q
    · exact hw
    · exact hst
    · exact M.2.1
    · exact M.1
    · exact q
  exact ⟨hin, good_of_word (List.mem_filter.mp hin).2⟩
set_option maxHeartbeats 4000000 in
theorem mm_callSH {index n maxL : Nat} {y : MethodName} {bytes : ByteArray} {rt : Option FieldType} {hh : List (Nat × Nat × Nat × Nat)} {As rest : List mV} (C : mm_OK (d + 1) cs ss cc own nL ret x) (M : mm_MWH y bytes maxL rt hh n) (hw : Cond.methodLink own index y ∈ mm_T) (hst : Cond.static y ∈ mm_T)
    (hM : mm_MetH x.2.1 d y bytes maxL rt hh As h post xp mc ms) (hd : decode cc pc = .ok (.invokestatic index, 3)) (hn : As.length = n) (hcat : mm_cats rest ≤ 8) (hf : a + mc ≤ cs ∧ b + ms ≤ ss) {stk : List mV} (hstk : stk = As.reverse ++ rest)
    (kr : ∀ (v : Option mV) (h' : mH), post v h' → mm_W x (a + mc) (b + ms) (pc + 3) ls (v.toList ++ rest) h') (kx : ∀ (E : String) (h' : mH), xp E h' → mm_Wx x (a + mc) (b + ms) pc ls E h') : mm_W x a b pc ls stk h := by
  refine mm_after C (rest := rest) (Aa := fun ad => (As.map (mm_j ad)).toArray) (fun v hv => by rw [hstk]; exact List.mem_append_right _ hv) ?_ kr kx
  obtain ⟨p, l, e, R, s, m, args, below, meth, c, G, ad0, A, n0, Q⟩ := x
  intro ad H locs jl h3 h4 h5 h6
  obtain ⟨c1, c2, c3, c4, c5, c6, c7, c8, c9, c10, c11, c12, c13, c14, c15⟩ := C
  have hokA : mm_okl h As := fun v hv => h6 v (by rw [hstk]; exact List.mem_append_left _ (List.mem_reverse.mpr hv))
  refine vx_runSX (As := As.map (mm_j ad)) (n := n) (Ts := mm_T) ⟨c1, c2, c3, c4, c5⟩ (hM G ad H.size) (mm_cwH c5 M hw hst ⟨c12, c13⟩) ⟨mm_blind, fun U hU hW => ?_⟩ rfl (by rw [List.length_map]; exact hn) (h4.1.trans c3) ?_ ?_ hd ⟨Nat.le_trans hf.1 c14, Nat.le_trans hf.2 c15⟩
  · exact mm_pre c6 c10 c7 h3 hokA hU hW
  · show stk.map (mm_j ad) = _
    rw [hstk, List.map_append, List.map_reverse]
  · show 2 * 0 + _ ≤ 8
    rw [mm_cats_j]
    omega
theorem mm_cHi {index n maxL : Nat} {y : MethodName} {bytes : ByteArray} {rt : Option FieldType} {hh : List (Nat × Nat × Nat × Nat)} {As rest : List mV} {P : Int → mH → Prop} (C : mm_OK (d + 1) cs ss cc own nL ret x) (M : mm_MWH y bytes maxL rt hh n) (hw : Cond.methodLink own index y ∈ mm_T) (hst : Cond.static y ∈ mm_T) (hd : decode cc pc = .ok (.invokestatic index, 3)) (hM : mm_MetH x.2.1 d y bytes maxL rt hh As h (mm_pi P) mm_nx mc ms) (hn : As.length = n) (hcat : mm_cats rest ≤ 8) (hf : a + mc ≤ cs ∧ b + ms ≤ ss) {stk : List mV} (hstk : stk = As.reverse ++ rest)
    (kr : ∀ (r : Int) (h1 : mH), P r h1 → mm_W x (a + mc) (b + ms) (pc + 3) ls (mI r :: rest) h1) : mm_W x a b pc ls stk h :=
  mm_callSH C M hw hst hM hd hn hcat hf hstk (fun v h1 ⟨r, hv, hp⟩ => by subst hv; exact kr r h1 hp) (fun _ _ q => q.elim)
end MMH
/-! the heap's size -/
def mm_hs (H : Heap) : Nat := (H.toList.map (·.slots.size)).sum
def mm_sz (H0 H : Heap) (C S : Nat) : Prop := H.size ≤ H0.size + C ∧ mm_hs H ≤ mm_hs H0 + S
theorem mm_hs_same {s s' : State} {locs : List Loc} {k n : Nat} (h : s.sameButNew s' locs k n) : mm_hs s'.heap = mm_hs s.heap + ((s'.heap.toList.drop s.heap.size).map (·.slots.size)).sum := by
  obtain ⟨-, h1, -, -, -, h6⟩ := h
  have e : (s'.heap.toList.take s.heap.size).map (·.slots.size) = s.heap.toList.map (·.slots.size) := by
    apply List.ext_getElem?
    intro i
    rw [List.getElem?_map, List.getElem?_map, List.getElem?_take]
    by_cases q : i < s.heap.size
    · rw [if_pos q, Array.getElem?_toList, Array.getElem?_toList]
      obtain ⟨cx, hc⟩ : ∃ cx, s.heap[i]? = some cx := ⟨_, Array.getElem?_eq_getElem q⟩
      obtain ⟨c', hc', -, hsz, -⟩ := h6 i cx hc
      rw [hc, hc']
      simp [hsz]
    · rw [if_neg q, Array.getElem?_toList, Array.getElem?_eq_none (by omega)]
  unfold mm_hs
  conv => lhs; rw [← List.take_append_drop s.heap.size s'.heap.toList]
  rw [List.map_append, List.sum_append, e]
theorem mm_sz_of {s s' : State} {locs : List Loc} {k n : Nat} (h : s.sameButNew s' locs k n) : mm_sz s.heap s'.heap k n := by
  have e := mm_hs_same h
  exact ⟨h.2.2.1, by rw [e]; have := h.2.2.2.2.1; omega⟩
theorem mm_sz_tr {H0 H1 H2 : Heap} {C S C' S' : Nat} (p : mm_sz H0 H1 C S) (q : mm_sz H1 H2 C' S') : mm_sz H0 H2 (C + C') (S + S') := ⟨by have := p.1; have := q.1; omega, by have := p.2; have := q.2; omega⟩
theorem mm_tight {p : Program} {l : Launch} {e : Env} {R : Room} {s : State} {m : MethodId} {args : Array Value} {below : List Frame} {meth : Method} {c : Code} {T : State} {locs : List Loc} {k n k' n' : Nat} (X : Stand p l e R s m args below meth c T locs k n) (z : mm_sz s.heap T.heap k' n') : Stand p l e R s m args below meth c T locs k' n' := by
  have e := mm_hs_same X.same
  obtain ⟨h1, h2, h3, h4, h5, h6⟩ := X.same
  refine ⟨X.admits, X.cas, X.clock, X.frames, X.room, X.hears, X.method, X.code, X.here, X.tail, X.warmed, X.limits, X.bytes, h1, h2, z.1, h4, ?_, h6⟩
  have e2 : mm_hs T.heap = mm_hs s.heap + (((T.setVm s.vm).heap.toList.drop s.heap.size).map (·.slots.size)).sum := e
  have := z.2
  omega
theorem mm_knows {p : Program} {l : Launch} {e : Env} {R : Room} {s : State} {m : MethodId} {args : Array Value} {below : List Frame} {meth : Method} {c : Code} {H : Heap} {locs : List Loc} {k n : Nat} {Q : State → Prop} {g : JFrame} (kk : mm_sz s.heap H k n → W p l e R s m args below meth c H locs k n Q g) : W p l e R s m args below meth c H locs k n Q g := by
  intro T hT X
  have z : mm_sz s.heap (T.setVm s.vm).heap k n := mm_sz_of X.same
  subst hT
  exact kk z T rfl X

theorem mh_L_cell : mm_MWH yL_cell cL_cell 7 (some .int) [(0, 21, 24, 13)] 6 := ⟨mm_T_at 3 84 (by decide +kernel) rfl, mm_T_at 1 0 (by decide +kernel) rfl, ⟨by decide +kernel, by decide +kernel, by decide +kernel⟩, by decide⟩
set_option maxRecDepth 100000 in
set_option maxHeartbeats 4000000 in
theorem c_L_cell (l : Launch) (hl : l.stackTraces = false) (d : Nat) (hd : 10 ≤ d) (h : mH) (i0 : mm_inv h) (p1 : Int) (p2 : Int) (p3 : Int) (p4 : Int) : mm_MetH l d yL_cell cL_cell 7 (some .int) [(0, 21, 24, 13)] [mR 0, mI p1, mI p2, mI p3, mI p4, mR 124] h (mm_pi fun r h2 => (0 ≤ r ∧ r ≤ 2) ∧ mm_inv h2 ∧ mm_fr [] [2, 3, 124] h h2) mm_nx 1 6 := by
  refine mm_ofWH (ls := [mR 0, mI p1, mI p2, mI p3, mI p4, mR 124, mU]) hl (by decide) rfl (Nat.le_of_ble_eq_true rfl) ?_
  intro x hxl C T htb
  subst hxl
  have C1 := mm_OK_le (d' := d - 1 + 1) (by omega) C
  refine mm_aload C (mm_dec dk_L_cell 0 rfl) rfl ?_
  refine mm_iconst C (mm_dec dk_L_cell 1 rfl) ⟨by decide, by decide⟩ ?_
  refine mm_aload_n C (mm_dec dk_L_cell 2 rfl) rfl ?_
  refine mm_iload_n C (mm_dec dk_L_cell 3 rfl) rfl ?_
  refine mm_iload_n C (mm_dec dk_L_cell 4 rfl) rfl ?_
  refine mm_iload_n C (mm_dec dk_L_cell 5 rfl) rfl ?_
  refine mm_iload C (mm_dec dk_L_cell 6 rfl) rfl ?_
  refine mm_cVi (rest := [mI 0, mR 124]) C1 ev_L_7 (mm_dec dk_L_cell 7 rfl) (c_X11_cell_e x.2.1 hl (d - 1) (by omega) h i0 p1 p2 p3 p4) rfl rfl (Nat.le_of_ble_eq_true rfl) ⟨by decide, by decide⟩ rfl (fun r hc hp => ?_) (fun E hx q => ?_)
  · obtain ⟨b, ic, gc⟩ := hp
    have fc : mm_fr [] [2, 3, 124] h hc := mm_fr_tr (mm_fr_rf (h := h)) gc (by decide +kernel)
    refine mm_if_eq (tgt := 19) C (mm_dec dk_L_cell 8 rfl) (by decide) (fun cr => ?_) (fun cr => ?_)
    · refine mm_lconst (z := 0) C (mm_dec dk_L_cell 11 rfl) rfl ?_
      refine mm_last C (mm_dec dk_L_cell 12 rfl) rfl (by omega) (by omega) ?_
      refine mm_goto (tgt := 28) C (mm_dec dk_L_cell 13 rfl) (by decide) ?_
      refine mm_iconst C (mm_dec dk_L_cell 17 rfl) ⟨by decide, by decide⟩ ?_
      exact mm_iret C T (mm_dec dk_L_cell 18 rfl) (by decide) (by decide) ⟨_, rfl, ⟨by decide, by decide⟩, mm_inv_pa ic (show -9223372036854775808 ≤ (0 : Int) ∧ (0 : Int) ≤ 9223372036854775807 from ⟨by omega, by omega⟩), mm_fr_pa fc (by decide)⟩
    · refine mm_lconst (z := 1) C (mm_dec dk_L_cell 9 rfl) rfl ?_
      refine mm_goto (tgt := 20) C (mm_dec dk_L_cell 10 rfl) (by decide) ?_
      refine mm_last C (mm_dec dk_L_cell 12 rfl) rfl (by omega) (by omega) ?_
      refine mm_goto (tgt := 28) C (mm_dec dk_L_cell 13 rfl) (by decide) ?_
      refine mm_iconst C (mm_dec dk_L_cell 17 rfl) ⟨by decide, by decide⟩ ?_
      exact mm_iret C T (mm_dec dk_L_cell 18 rfl) (by decide) (by decide) ⟨_, rfl, ⟨by decide, by decide⟩, mm_inv_pa ic (show -9223372036854775808 ≤ (1 : Int) ∧ (1 : Int) ≤ 9223372036854775807 from ⟨by omega, by omega⟩), mm_fr_pa fc (by decide)⟩
  · rw [q.1, q.2]
    refine mm_catch (nm := "java/util/NoSuchElementException") [] (⟨0, 21, 24, 13⟩ : ExceptionTableEntry) [] C htb (fun y hy => absurd hy List.not_mem_nil) (by decide) (by decide) ck_L_13 (by decide) (k := 6) (by decide) (Or.inl (mm_dec dk_L_cell 14 rfl)) (pc2 := 26) ⟨fun _ => rfl, fun ⟨_, _, z⟩ => (by have w := z.symm.trans (mm_dec dk_L_cell 14 rfl); cases w)⟩ ?_
    refine mm_iconst C (mm_dec dk_L_cell 15 rfl) ⟨by decide, by decide⟩ ?_
    exact mm_iret C T (mm_dec dk_L_cell 16 rfl) (by decide) (by decide) ⟨_, rfl, ⟨by decide, by decide⟩, i0, mm_fr_rf⟩
theorem mh_L_takes : mm_MWH yL_takes cL_takes 5 (some .int) [(0, 17, 20, 13)] 4 := ⟨mm_T_at 3 190 (by decide +kernel) rfl, mm_T_at 1 0 (by decide +kernel) rfl, ⟨by decide +kernel, by decide +kernel, by decide +kernel⟩, by decide⟩
set_option maxRecDepth 100000 in
set_option maxHeartbeats 4000000 in
theorem c_L_takes (l : Launch) (hl : l.stackTraces = false) (d : Nat) (hd : 9 ≤ d) (h : mH) (i0 : mm_inv h) (p1 : Int) (p2 : Int) : mm_MetH l d yL_takes cL_takes 5 (some .int) [(0, 17, 20, 13)] [mR 0, mI p1, mI p2, mR 124] h (mm_pi fun r h2 => (0 ≤ r ∧ r ≤ 2) ∧ mm_inv h2 ∧ mm_fr [] [6, 124] h h2) mm_nx 1 6 := by
  refine mm_ofWH (ls := [mR 0, mI p1, mI p2, mR 124, mU]) hl (by decide) rfl (Nat.le_of_ble_eq_true rfl) ?_
  intro x hxl C T htb
  subst hxl
  have C1 := mm_OK_le (d' := d - 1 + 1) (by omega) C
  refine mm_aload_n C (mm_dec dk_L_takes 0 rfl) rfl ?_
  refine mm_iconst C (mm_dec dk_L_takes 1 rfl) ⟨by decide, by decide⟩ ?_
  refine mm_aload_n C (mm_dec dk_L_takes 2 rfl) rfl ?_
  refine mm_iload_n C (mm_dec dk_L_takes 3 rfl) rfl ?_
  refine mm_iload_n C (mm_dec dk_L_takes 4 rfl) rfl ?_
  refine mm_cVi (rest := [mI 0, mR 124]) C1 ev_L_15 (mm_dec dk_L_takes 5 rfl) (c_X11_takes_e x.2.1 hl (d - 1) (by omega) h i0 p1 p2) rfl rfl (Nat.le_of_ble_eq_true rfl) ⟨by decide, by decide⟩ rfl (fun r hc hp => ?_) (fun E hx q => ?_)
  · obtain ⟨b, ic, gc⟩ := hp
    have fc : mm_fr [] [6, 124] h hc := mm_fr_tr (mm_fr_rf (h := h)) gc (by decide +kernel)
    refine mm_if_eq (tgt := 15) C (mm_dec dk_L_takes 6 rfl) (by decide) (fun cr => ?_) (fun cr => ?_)
    · refine mm_lconst (z := 0) C (mm_dec dk_L_takes 9 rfl) rfl ?_
      refine mm_last C (mm_dec dk_L_takes 10 rfl) rfl (by omega) (by omega) ?_
      refine mm_goto (tgt := 24) C (mm_dec dk_L_takes 11 rfl) (by decide) ?_
      refine mm_iconst C (mm_dec dk_L_takes 15 rfl) ⟨by decide, by decide⟩ ?_
      exact mm_iret C T (mm_dec dk_L_takes 16 rfl) (by decide) (by decide) ⟨_, rfl, ⟨by decide, by decide⟩, mm_inv_pa ic (show -9223372036854775808 ≤ (0 : Int) ∧ (0 : Int) ≤ 9223372036854775807 from ⟨by omega, by omega⟩), mm_fr_pa fc (by decide)⟩
    · refine mm_lconst (z := 1) C (mm_dec dk_L_takes 7 rfl) rfl ?_
      refine mm_goto (tgt := 16) C (mm_dec dk_L_takes 8 rfl) (by decide) ?_
      refine mm_last C (mm_dec dk_L_takes 10 rfl) rfl (by omega) (by omega) ?_
      refine mm_goto (tgt := 24) C (mm_dec dk_L_takes 11 rfl) (by decide) ?_
      refine mm_iconst C (mm_dec dk_L_takes 15 rfl) ⟨by decide, by decide⟩ ?_
      exact mm_iret C T (mm_dec dk_L_takes 16 rfl) (by decide) (by decide) ⟨_, rfl, ⟨by decide, by decide⟩, mm_inv_pa ic (show -9223372036854775808 ≤ (1 : Int) ∧ (1 : Int) ≤ 9223372036854775807 from ⟨by omega, by omega⟩), mm_fr_pa fc (by decide)⟩
  · rw [q.1, q.2]
    refine mm_catch (nm := "java/util/NoSuchElementException") [] (⟨0, 17, 20, 13⟩ : ExceptionTableEntry) [] C htb (fun y hy => absurd hy List.not_mem_nil) (by decide) (by decide) ck_L_13 (by decide) (k := 4) (by decide) (Or.inl (mm_dec dk_L_takes 12 rfl)) (pc2 := 22) ⟨fun _ => rfl, fun ⟨_, _, z⟩ => (by have w := z.symm.trans (mm_dec dk_L_takes 12 rfl); cases w)⟩ ?_
    refine mm_iconst C (mm_dec dk_L_takes 13 rfl) ⟨by decide, by decide⟩ ?_
    exact mm_iret C T (mm_dec dk_L_takes 14 rfl) (by decide) (by decide) ⟨_, rfl, ⟨by decide, by decide⟩, i0, mm_fr_rf⟩
theorem mh_L_wall : mm_MWH yL_wall cL_wall 7 (some .int) [(0, 21, 24, 13)] 6 := ⟨mm_T_at 3 218 (by decide +kernel) rfl, mm_T_at 1 0 (by decide +kernel) rfl, ⟨by decide +kernel, by decide +kernel, by decide +kernel⟩, by decide⟩
set_option maxRecDepth 100000 in
set_option maxHeartbeats 4000000 in
theorem c_L_wall (l : Launch) (hl : l.stackTraces = false) (d : Nat) (hd : 10 ≤ d) (h : mH) (i0 : mm_inv h) (p1 : Int) (p2 : Int) (p3 : Int) (p4 : Int) (bp4 : 0 ≤ p4 ∧ p4 ≤ 1) : mm_MetH l d yL_wall cL_wall 7 (some .int) [(0, 21, 24, 13)] [mR 0, mI p1, mI p2, mI p3, mI p4, mR 124] h (mm_pi fun r h2 => (0 ≤ r ∧ r ≤ 2) ∧ mm_inv h2 ∧ mm_fr [] [4, 5, 124] h h2) mm_nx 1 6 := by
  refine mm_ofWH (ls := [mR 0, mI p1, mI p2, mI p3, mI p4, mR 124, mU]) hl (by decide) rfl (Nat.le_of_ble_eq_true rfl) ?_
  intro x hxl C T htb
  subst hxl
  have C1 := mm_OK_le (d' := d - 1 + 1) (by omega) C
  refine mm_aload C (mm_dec dk_L_wall 0 rfl) rfl ?_
  refine mm_iconst C (mm_dec dk_L_wall 1 rfl) ⟨by decide, by decide⟩ ?_
  refine mm_aload_n C (mm_dec dk_L_wall 2 rfl) rfl ?_
  refine mm_iload_n C (mm_dec dk_L_wall 3 rfl) rfl ?_
  refine mm_iload_n C (mm_dec dk_L_wall 4 rfl) rfl ?_
  refine mm_iload_n C (mm_dec dk_L_wall 5 rfl) rfl ?_
  refine mm_iload C (mm_dec dk_L_wall 6 rfl) rfl ?_
  refine mm_cVi (rest := [mI 0, mR 124]) C1 ev_L_19 (mm_dec dk_L_wall 7 rfl) (c_X11_wall_e x.2.1 hl (d - 1) (by omega) h i0 p1 p2 p3 p4 ⟨by omega, by omega⟩) rfl rfl (Nat.le_of_ble_eq_true rfl) ⟨by decide, by decide⟩ rfl (fun r hc hp => ?_) (fun E hx q => ?_)
  · obtain ⟨b, ic, gc⟩ := hp
    have fc : mm_fr [] [4, 5, 124] h hc := mm_fr_tr (mm_fr_rf (h := h)) gc (by decide +kernel)
    refine mm_if_eq (tgt := 19) C (mm_dec dk_L_wall 8 rfl) (by decide) (fun cr => ?_) (fun cr => ?_)
    · refine mm_lconst (z := 0) C (mm_dec dk_L_wall 11 rfl) rfl ?_
      refine mm_last C (mm_dec dk_L_wall 12 rfl) rfl (by omega) (by omega) ?_
      refine mm_goto (tgt := 28) C (mm_dec dk_L_wall 13 rfl) (by decide) ?_
      refine mm_iconst C (mm_dec dk_L_wall 17 rfl) ⟨by decide, by decide⟩ ?_
      exact mm_iret C T (mm_dec dk_L_wall 18 rfl) (by decide) (by decide) ⟨_, rfl, ⟨by decide, by decide⟩, mm_inv_pa ic (show -9223372036854775808 ≤ (0 : Int) ∧ (0 : Int) ≤ 9223372036854775807 from ⟨by omega, by omega⟩), mm_fr_pa fc (by decide)⟩
    · refine mm_lconst (z := 1) C (mm_dec dk_L_wall 9 rfl) rfl ?_
      refine mm_goto (tgt := 20) C (mm_dec dk_L_wall 10 rfl) (by decide) ?_
      refine mm_last C (mm_dec dk_L_wall 12 rfl) rfl (by omega) (by omega) ?_
      refine mm_goto (tgt := 28) C (mm_dec dk_L_wall 13 rfl) (by decide) ?_
      refine mm_iconst C (mm_dec dk_L_wall 17 rfl) ⟨by decide, by decide⟩ ?_
      exact mm_iret C T (mm_dec dk_L_wall 18 rfl) (by decide) (by decide) ⟨_, rfl, ⟨by decide, by decide⟩, mm_inv_pa ic (show -9223372036854775808 ≤ (1 : Int) ∧ (1 : Int) ≤ 9223372036854775807 from ⟨by omega, by omega⟩), mm_fr_pa fc (by decide)⟩
  · rw [q.1, q.2]
    refine mm_catch (nm := "java/util/NoSuchElementException") [] (⟨0, 21, 24, 13⟩ : ExceptionTableEntry) [] C htb (fun y hy => absurd hy List.not_mem_nil) (by decide) (by decide) ck_L_13 (by decide) (k := 6) (by decide) (Or.inl (mm_dec dk_L_wall 14 rfl)) (pc2 := 26) ⟨fun _ => rfl, fun ⟨_, _, z⟩ => (by have w := z.symm.trans (mm_dec dk_L_wall 14 rfl); cases w)⟩ ?_
    refine mm_iconst C (mm_dec dk_L_wall 15 rfl) ⟨by decide, by decide⟩ ?_
    exact mm_iret C T (mm_dec dk_L_wall 16 rfl) (by decide) (by decide) ⟨_, rfl, ⟨by decide, by decide⟩, i0, mm_fr_rf⟩
theorem mh_L_gates : mm_MWH yL_gates cL_gates 7 (some .int) [(0, 21, 24, 13)] 6 := ⟨mm_T_at 3 229 (by decide +kernel) rfl, mm_T_at 1 0 (by decide +kernel) rfl, ⟨by decide +kernel, by decide +kernel, by decide +kernel⟩, by decide⟩
set_option maxRecDepth 100000 in
set_option maxHeartbeats 4000000 in
theorem c_L_gates (l : Launch) (hl : l.stackTraces = false) (d : Nat) (hd : 10 ≤ d) (h : mH) (i0 : mm_inv h) (p1 : Int) (p2 : Int) (p3 : Int) (p4 : Int) : mm_MetH l d yL_gates cL_gates 7 (some .int) [(0, 21, 24, 13)] [mR 0, mI p1, mI p2, mI p3, mI p4, mR 124] h (mm_pi fun r h2 => (0 ≤ r ∧ r ≤ 2) ∧ mm_inv h2 ∧ mm_fr [(1, 7), (1, 8)] [124] h h2) mm_nx 2 12 := by
  refine mm_ofWH (ls := [mR 0, mI p1, mI p2, mI p3, mI p4, mR 124, mU]) hl (by decide) rfl (Nat.le_of_ble_eq_true rfl) ?_
  intro x hxl C T htb
  subst hxl
  have C1 := mm_OK_le (d' := d - 1 + 1) (by omega) C
  refine mm_aload C (mm_dec dk_L_gates 0 rfl) rfl ?_
  refine mm_iconst C (mm_dec dk_L_gates 1 rfl) ⟨by decide, by decide⟩ ?_
  refine mm_aload_n C (mm_dec dk_L_gates 2 rfl) rfl ?_
  refine mm_iload_n C (mm_dec dk_L_gates 3 rfl) rfl ?_
  refine mm_iload_n C (mm_dec dk_L_gates 4 rfl) rfl ?_
  refine mm_iload_n C (mm_dec dk_L_gates 5 rfl) rfl ?_
  refine mm_iload C (mm_dec dk_L_gates 6 rfl) rfl ?_
  refine mm_cVi (rest := [mI 0, mR 124]) C1 ev_L_23 (mm_dec dk_L_gates 7 rfl) (c_X11_gates_e x.2.1 hl (d - 1) (by omega) h i0 p1 p2 p3 p4) rfl rfl (Nat.le_of_ble_eq_true rfl) ⟨by decide, by decide⟩ rfl (fun r hc hp => ?_) (fun E hx q => ?_)
  · obtain ⟨b, ic, gc⟩ := hp
    have fc : mm_fr [(1, 7), (1, 8)] [124] h hc := mm_fr_tr (mm_fr_rf (h := h)) gc (by decide +kernel)
    refine mm_if_eq (tgt := 19) C (mm_dec dk_L_gates 8 rfl) (by decide) (fun cr => ?_) (fun cr => ?_)
    · refine mm_lconst (z := 0) C (mm_dec dk_L_gates 11 rfl) rfl ?_
      refine mm_last C (mm_dec dk_L_gates 12 rfl) rfl (by omega) (by omega) ?_
      refine mm_goto (tgt := 28) C (mm_dec dk_L_gates 13 rfl) (by decide) ?_
      refine mm_iconst C (mm_dec dk_L_gates 17 rfl) ⟨by decide, by decide⟩ ?_
      exact mm_iret C T (mm_dec dk_L_gates 18 rfl) (by decide) (by decide) ⟨_, rfl, ⟨by decide, by decide⟩, mm_inv_pa ic (show -9223372036854775808 ≤ (0 : Int) ∧ (0 : Int) ≤ 9223372036854775807 from ⟨by omega, by omega⟩), mm_fr_pa fc (by decide)⟩
    · refine mm_lconst (z := 1) C (mm_dec dk_L_gates 9 rfl) rfl ?_
      refine mm_goto (tgt := 20) C (mm_dec dk_L_gates 10 rfl) (by decide) ?_
      refine mm_last C (mm_dec dk_L_gates 12 rfl) rfl (by omega) (by omega) ?_
      refine mm_goto (tgt := 28) C (mm_dec dk_L_gates 13 rfl) (by decide) ?_
      refine mm_iconst C (mm_dec dk_L_gates 17 rfl) ⟨by decide, by decide⟩ ?_
      exact mm_iret C T (mm_dec dk_L_gates 18 rfl) (by decide) (by decide) ⟨_, rfl, ⟨by decide, by decide⟩, mm_inv_pa ic (show -9223372036854775808 ≤ (1 : Int) ∧ (1 : Int) ≤ 9223372036854775807 from ⟨by omega, by omega⟩), mm_fr_pa fc (by decide)⟩
  · rw [q.1, q.2]
    refine mm_catch (nm := "java/util/NoSuchElementException") [] (⟨0, 21, 24, 13⟩ : ExceptionTableEntry) [] C htb (fun y hy => absurd hy List.not_mem_nil) (by decide) (by decide) ck_L_13 (by decide) (k := 6) (by decide) (Or.inl (mm_dec dk_L_gates 14 rfl)) (pc2 := 26) ⟨fun _ => rfl, fun ⟨_, _, z⟩ => (by have w := z.symm.trans (mm_dec dk_L_gates 14 rfl); cases w)⟩ ?_
    refine mm_iconst C (mm_dec dk_L_gates 15 rfl) ⟨by decide, by decide⟩ ?_
    exact mm_iret C T (mm_dec dk_L_gates 16 rfl) (by decide) (by decide) ⟨_, rfl, ⟨by decide, by decide⟩, i0, mm_fr_rf⟩
theorem mh_L_way : mm_MWH yL_way cL_way 7 (some .int) [(0, 14, 17, 13)] 6 := ⟨mm_T_at 3 236 (by decide +kernel) rfl, mm_T_at 1 0 (by decide +kernel) rfl, ⟨by decide +kernel, by decide +kernel, by decide +kernel⟩, by decide⟩
set_option maxRecDepth 100000 in
set_option maxHeartbeats 4000000 in
theorem c_L_way (l : Launch) (hl : l.stackTraces = false) (d : Nat) (hd : 10 ≤ d) (h : mH) (i0 : mm_inv h) (p1 : Int) (p2 : Int) (p3 : Int) (p4 : Int) : mm_MetH l d yL_way cL_way 7 (some .int) [(0, 14, 17, 13)] [mR 0, mI p1, mI p2, mI p3, mI p4, mR 124] h (mm_pi fun r h2 => (0 ≤ r ∧ r ≤ 2) ∧ mm_inv h2 ∧ mm_fr [(7, 7), (7, 8), (7, 9)] [8, 9, 10, 11, 13, 124] h h2) mm_nx 2 12 := by
  refine mm_ofWH (ls := [mR 0, mI p1, mI p2, mI p3, mI p4, mR 124, mU]) hl (by decide) rfl (Nat.le_of_ble_eq_true rfl) ?_
  intro x hxl C T htb
  subst hxl
  have C1 := mm_OK_le (d' := d - 1 + 1) (by omega) C
  refine mm_aload C (mm_dec dk_L_way 0 rfl) rfl ?_
  refine mm_iconst C (mm_dec dk_L_way 1 rfl) ⟨by decide, by decide⟩ ?_
  refine mm_aload_n C (mm_dec dk_L_way 2 rfl) rfl ?_
  refine mm_iload_n C (mm_dec dk_L_way 3 rfl) rfl ?_
  refine mm_iload_n C (mm_dec dk_L_way 4 rfl) rfl ?_
  refine mm_iload_n C (mm_dec dk_L_way 5 rfl) rfl ?_
  refine mm_iload C (mm_dec dk_L_way 6 rfl) rfl ?_
  refine mm_cVi (rest := [mI 0, mR 124]) C1 ev_L_26 (mm_dec dk_L_way 7 rfl) (c_X11_way_e x.2.1 hl (d - 1) (by omega) h i0 p1 p2 p3 p4) rfl rfl (Nat.le_of_ble_eq_true rfl) ⟨by decide, by decide⟩ rfl (fun r hc hp => ?_) (fun E hx q => ?_)
  · obtain ⟨b, ic, gc⟩ := hp
    have fc : mm_fr [(7, 7), (7, 8), (7, 9)] [8, 9, 10, 11, 13, 124] h hc := mm_fr_tr (mm_fr_rf (h := h)) gc (by decide +kernel)
    refine mm_rng (fun _ ho => ?_)
    have br : -2147483648 ≤ r ∧ r < 2147483648 := mm_ok_hd ho
    refine mm_i2l C (mm_dec dk_L_way 8 rfl) ?_
    refine mm_last C (mm_dec dk_L_way 9 rfl) rfl (by omega) (by omega) ?_
    refine mm_goto (tgt := 21) C (mm_dec dk_L_way 10 rfl) (by decide) ?_
    refine mm_iconst C (mm_dec dk_L_way 14 rfl) ⟨by decide, by decide⟩ ?_
    exact mm_iret C T (mm_dec dk_L_way 15 rfl) (by decide) (by decide) ⟨_, rfl, ⟨by decide, by decide⟩, mm_inv_pa ic (show -9223372036854775808 ≤ r ∧ r ≤ 9223372036854775807 from ⟨by omega, by omega⟩), mm_fr_pa fc (by decide)⟩
  · rw [q.1, q.2]
    refine mm_catch (nm := "java/util/NoSuchElementException") [] (⟨0, 14, 17, 13⟩ : ExceptionTableEntry) [] C htb (fun y hy => absurd hy List.not_mem_nil) (by decide) (by decide) ck_L_13 (by decide) (k := 6) (by decide) (Or.inl (mm_dec dk_L_way 11 rfl)) (pc2 := 19) ⟨fun _ => rfl, fun ⟨_, _, z⟩ => (by have w := z.symm.trans (mm_dec dk_L_way 11 rfl); cases w)⟩ ?_
    refine mm_iconst C (mm_dec dk_L_way 12 rfl) ⟨by decide, by decide⟩ ?_
    exact mm_iret C T (mm_dec dk_L_way 13 rfl) (by decide) (by decide) ⟨_, rfl, ⟨by decide, by decide⟩, i0, mm_fr_rf⟩
theorem mh_L_move : mm_MWH yL_move cL_move 4 (some .int) [(0, 9, 12, 13)] 3 := ⟨mm_T_at 4 58 (by decide +kernel) rfl, mm_T_at 1 0 (by decide +kernel) rfl, ⟨by decide +kernel, by decide +kernel, by decide +kernel⟩, by decide⟩
set_option maxRecDepth 100000 in
set_option maxHeartbeats 4000000 in
theorem c_L_move (l : Launch) (hl : l.stackTraces = false) (d : Nat) (hd : 9 ≤ d) (h : mH) (i0 : mm_inv h) (p1 : Int) : mm_MetH l d yL_move cL_move 4 (some .int) [(0, 9, 12, 13)] [mR 0, mI p1, mR 124] h (mm_pi fun r h2 => (0 ≤ r ∧ r ≤ 2) ∧ mm_inv h2 ∧ mm_fr [] [124] h h2) mm_nx 1 6 := by
  refine mm_ofWH (ls := [mR 0, mI p1, mR 124, mU]) hl (by decide) rfl (Nat.le_of_ble_eq_true rfl) ?_
  intro x hxl C T htb
  subst hxl
  have C1 := mm_OK_le (d' := d - 1 + 1) (by omega) C
  refine mm_aload_n C (mm_dec dk_L_move 0 rfl) rfl ?_
  refine mm_iconst C (mm_dec dk_L_move 1 rfl) ⟨by decide, by decide⟩ ?_
  refine mm_aload_n C (mm_dec dk_L_move 2 rfl) rfl ?_
  refine mm_iload_n C (mm_dec dk_L_move 3 rfl) rfl ?_
  refine mm_cVi (rest := [mI 0, mR 124]) C1 ev_L_30 (mm_dec dk_L_move 4 rfl) (c_X11_move_e x.2.1 hl (d - 1) (by omega) h i0 p1) rfl rfl (Nat.le_of_ble_eq_true rfl) ⟨by decide, by decide⟩ rfl (fun r hc hp => ?_) (fun E hx q => ?_)
  · have zc := hp.1
    have ic : mm_inv hc := by rw [zc]; exact i0
    have fc : mm_fr [] [124] h hc := by rw [zc]; exact mm_fr_rf
    refine mm_rng (fun _ ho => ?_)
    have br : -2147483648 ≤ r ∧ r < 2147483648 := mm_ok_hd ho
    refine mm_i2l C (mm_dec dk_L_move 5 rfl) ?_
    refine mm_last C (mm_dec dk_L_move 6 rfl) rfl (by omega) (by omega) ?_
    refine mm_goto (tgt := 15) C (mm_dec dk_L_move 7 rfl) (by decide) ?_
    refine mm_iconst C (mm_dec dk_L_move 11 rfl) ⟨by decide, by decide⟩ ?_
    exact mm_iret C T (mm_dec dk_L_move 12 rfl) (by decide) (by decide) ⟨_, rfl, ⟨by decide, by decide⟩, mm_inv_pa ic (show -9223372036854775808 ≤ r ∧ r ≤ 9223372036854775807 from ⟨by omega, by omega⟩), mm_fr_pa fc (by decide)⟩
  · rw [q.1, q.2]
    refine mm_catch (nm := "java/util/NoSuchElementException") [] (⟨0, 9, 12, 13⟩ : ExceptionTableEntry) [] C htb (fun y hy => absurd hy List.not_mem_nil) (by decide) (by decide) ck_L_13 (by decide) (k := 3) (by decide) (Or.inr ⟨3, rfl, (mm_dec dk_L_move 8 rfl)⟩) (pc2 := 13) ⟨fun z => (by have w := z.symm.trans (mm_dec dk_L_move 8 rfl); cases w), fun _ => rfl⟩ ?_
    refine mm_iconst C (mm_dec dk_L_move 9 rfl) ⟨by decide, by decide⟩ ?_
    exact mm_iret C T (mm_dec dk_L_move 10 rfl) (by decide) (by decide) ⟨_, rfl, ⟨by decide, by decide⟩, i0, mm_fr_rf⟩
theorem mh_L_many : mm_MWH yL_many cL_many 7 (some .int) [(0, 13, 16, 13)] 6 := ⟨mm_T_at 4 75 (by decide +kernel) rfl, mm_T_at 1 0 (by decide +kernel) rfl, ⟨by decide +kernel, by decide +kernel, by decide +kernel⟩, by decide⟩
set_option maxRecDepth 100000 in
set_option maxHeartbeats 4000000 in
theorem c_L_many (l : Launch) (hl : l.stackTraces = false) (d : Nat) (hd : 10 ≤ d) (h : mH) (i0 : mm_inv h) (p1 : Int) (p2 : Int) (p3 : Int) (p4 : Int) : mm_MetH l d yL_many cL_many 7 (some .int) [(0, 13, 16, 13)] [mR 0, mI p1, mI p2, mI p3, mI p4, mR 124] h (mm_pi fun r h2 => (0 ≤ r ∧ r ≤ 2) ∧ mm_inv h2 ∧ mm_fr [(7, 7), (7, 8)] [8, 9, 10, 11, 12, 124] h h2) mm_nx 2 12 := by
  refine mm_ofWH (ls := [mR 0, mI p1, mI p2, mI p3, mI p4, mR 124, mU]) hl (by decide) rfl (Nat.le_of_ble_eq_true rfl) ?_
  intro x hxl C T htb
  subst hxl
  have C1 := mm_OK_le (d' := d - 1 + 1) (by omega) C
  refine mm_aload C (mm_dec dk_L_many 0 rfl) rfl ?_
  refine mm_iconst C (mm_dec dk_L_many 1 rfl) ⟨by decide, by decide⟩ ?_
  refine mm_aload_n C (mm_dec dk_L_many 2 rfl) rfl ?_
  refine mm_iload_n C (mm_dec dk_L_many 3 rfl) rfl ?_
  refine mm_iload_n C (mm_dec dk_L_many 4 rfl) rfl ?_
  refine mm_iload_n C (mm_dec dk_L_many 5 rfl) rfl ?_
  refine mm_iload C (mm_dec dk_L_many 6 rfl) rfl ?_
  refine mm_cVl (rest := [mI 0, mR 124]) C1 ev_L_34 (mm_dec dk_L_many 7 rfl) (c_X11_many_e x.2.1 hl (d - 1) (by omega) h i0 p1 p2 p3 p4) rfl rfl (Nat.le_of_ble_eq_true rfl) ⟨by decide, by decide⟩ rfl (fun r hc hp => ?_) (fun E hx q => ?_)
  · obtain ⟨ic, gc⟩ := hp
    have fc : mm_fr [(7, 7), (7, 8)] [8, 9, 10, 11, 12, 124] h hc := mm_fr_tr (mm_fr_rf (h := h)) gc (by decide +kernel)
    refine mm_rng (fun _ ho => ?_)
    have br : -9223372036854775808 ≤ r ∧ r < 9223372036854775808 := mm_ok_hd ho
    refine mm_last C (mm_dec dk_L_many 8 rfl) rfl (by omega) (by omega) ?_
    refine mm_goto (tgt := 20) C (mm_dec dk_L_many 9 rfl) (by decide) ?_
    refine mm_iconst C (mm_dec dk_L_many 13 rfl) ⟨by decide, by decide⟩ ?_
    exact mm_iret C T (mm_dec dk_L_many 14 rfl) (by decide) (by decide) ⟨_, rfl, ⟨by decide, by decide⟩, mm_inv_pa ic (show -9223372036854775808 ≤ r ∧ r ≤ 9223372036854775807 from ⟨by omega, by omega⟩), mm_fr_pa fc (by decide)⟩
  · rw [q.1, q.2]
    refine mm_catch (nm := "java/util/NoSuchElementException") [] (⟨0, 13, 16, 13⟩ : ExceptionTableEntry) [] C htb (fun y hy => absurd hy List.not_mem_nil) (by decide) (by decide) ck_L_13 (by decide) (k := 6) (by decide) (Or.inl (mm_dec dk_L_many 10 rfl)) (pc2 := 18) ⟨fun _ => rfl, fun ⟨_, _, z⟩ => (by have w := z.symm.trans (mm_dec dk_L_many 10 rfl); cases w)⟩ ?_
    refine mm_iconst C (mm_dec dk_L_many 11 rfl) ⟨by decide, by decide⟩ ?_
    exact mm_iret C T (mm_dec dk_L_many 12 rfl) (by decide) (by decide) ⟨_, rfl, ⟨by decide, by decide⟩, i0, mm_fr_rf⟩
theorem mh_L_post : mm_MWH yL_post cL_post 6 (some .int) [(0, 12, 15, 13)] 5 := ⟨mm_T_at 4 94 (by decide +kernel) rfl, mm_T_at 1 0 (by decide +kernel) rfl, ⟨by decide +kernel, by decide +kernel, by decide +kernel⟩, by decide⟩
set_option maxRecDepth 100000 in
set_option maxHeartbeats 4000000 in
theorem c_L_post (l : Launch) (hl : l.stackTraces = false) (d : Nat) (hd : 10 ≤ d) (h : mH) (i0 : mm_inv h) (p1 : Int) (p2 : Int) (p3 : Int) : mm_MetH l d yL_post cL_post 6 (some .int) [(0, 12, 15, 13)] [mR 0, mI p1, mI p2, mI p3, mR 124] h (mm_pi fun r h2 => (0 ≤ r ∧ r ≤ 2) ∧ mm_inv h2 ∧ mm_fr [(14, 7)] [15, 16, 124] h h2) mm_nx 1 6 := by
  refine mm_ofWH (ls := [mR 0, mI p1, mI p2, mI p3, mR 124, mU]) hl (by decide) rfl (Nat.le_of_ble_eq_true rfl) ?_
  intro x hxl C T htb
  subst hxl
  have C1 := mm_OK_le (d' := d - 1 + 1) (by omega) C
  refine mm_aload C (mm_dec dk_L_post 0 rfl) rfl ?_
  refine mm_iconst C (mm_dec dk_L_post 1 rfl) ⟨by decide, by decide⟩ ?_
  refine mm_aload_n C (mm_dec dk_L_post 2 rfl) rfl ?_
  refine mm_iload_n C (mm_dec dk_L_post 3 rfl) rfl ?_
  refine mm_iload_n C (mm_dec dk_L_post 4 rfl) rfl ?_
  refine mm_iload_n C (mm_dec dk_L_post 5 rfl) rfl ?_
  refine mm_cVi (rest := [mI 0, mR 124]) C1 ev_L_38 (mm_dec dk_L_post 6 rfl) (c_X11_post_e x.2.1 hl (d - 1) (by omega) h i0 p1 p2 p3) rfl rfl (Nat.le_of_ble_eq_true rfl) ⟨by decide, by decide⟩ rfl (fun r hc hp => ?_) (fun E hx q => ?_)
  · obtain ⟨b, ic, gc⟩ := hp
    have fc : mm_fr [(14, 7)] [15, 16, 124] h hc := mm_fr_tr (mm_fr_rf (h := h)) gc (by decide +kernel)
    refine mm_rng (fun _ ho => ?_)
    have br : -2147483648 ≤ r ∧ r < 2147483648 := mm_ok_hd ho
    refine mm_i2l C (mm_dec dk_L_post 7 rfl) ?_
    refine mm_last C (mm_dec dk_L_post 8 rfl) rfl (by omega) (by omega) ?_
    refine mm_goto (tgt := 19) C (mm_dec dk_L_post 9 rfl) (by decide) ?_
    refine mm_iconst C (mm_dec dk_L_post 13 rfl) ⟨by decide, by decide⟩ ?_
    exact mm_iret C T (mm_dec dk_L_post 14 rfl) (by decide) (by decide) ⟨_, rfl, ⟨by decide, by decide⟩, mm_inv_pa ic (show -9223372036854775808 ≤ r ∧ r ≤ 9223372036854775807 from ⟨by omega, by omega⟩), mm_fr_pa fc (by decide)⟩
  · rw [q.1, q.2]
    refine mm_catch (nm := "java/util/NoSuchElementException") [] (⟨0, 12, 15, 13⟩ : ExceptionTableEntry) [] C htb (fun y hy => absurd hy List.not_mem_nil) (by decide) (by decide) ck_L_13 (by decide) (k := 5) (by decide) (Or.inl (mm_dec dk_L_post 10 rfl)) (pc2 := 17) ⟨fun _ => rfl, fun ⟨_, _, z⟩ => (by have w := z.symm.trans (mm_dec dk_L_post 10 rfl); cases w)⟩ ?_
    refine mm_iconst C (mm_dec dk_L_post 11 rfl) ⟨by decide, by decide⟩ ?_
    exact mm_iret C T (mm_dec dk_L_post 12 rfl) (by decide) (by decide) ⟨_, rfl, ⟨by decide, by decide⟩, i0, mm_fr_rf⟩
theorem mh_L_add : mm_MWH yL_add cL_add 7 (some .int) [(0, 14, 17, 13)] 6 := ⟨mm_T_at 4 106 (by decide +kernel) rfl, mm_T_at 1 0 (by decide +kernel) rfl, ⟨by decide +kernel, by decide +kernel, by decide +kernel⟩, by decide⟩
set_option maxRecDepth 100000 in
set_option maxHeartbeats 4000000 in
theorem c_L_add (l : Launch) (hl : l.stackTraces = false) (d : Nat) (hd : 10 ≤ d) (h : mH) (i0 : mm_inv h) (p1 : Int) (p2 : Int) (p3 : Int) (p4 : Int) : mm_MetH l d yL_add cL_add 7 (some .int) [(0, 14, 17, 13)] [mR 0, mI p1, mI p2, mI p3, mI p4, mR 124] h (mm_pi fun r h2 => (0 ≤ r ∧ r ≤ 2) ∧ mm_inv h2 ∧ mm_fr [] [19, 20, 21, 124] h h2) mm_nx 4 24 := by
  refine mm_ofWH (ls := [mR 0, mI p1, mI p2, mI p3, mI p4, mR 124, mU]) hl (by decide) rfl (Nat.le_of_ble_eq_true rfl) ?_
  intro x hxl C T htb
  subst hxl
  have C1 := mm_OK_le (d' := d - 1 + 1) (by omega) C
  refine mm_aload C (mm_dec dk_L_add 0 rfl) rfl ?_
  refine mm_iconst C (mm_dec dk_L_add 1 rfl) ⟨by decide, by decide⟩ ?_
  refine mm_aload_n C (mm_dec dk_L_add 2 rfl) rfl ?_
  refine mm_iload_n C (mm_dec dk_L_add 3 rfl) rfl ?_
  refine mm_iload_n C (mm_dec dk_L_add 4 rfl) rfl ?_
  refine mm_iload_n C (mm_dec dk_L_add 5 rfl) rfl ?_
  refine mm_iload C (mm_dec dk_L_add 6 rfl) rfl ?_
  refine mm_cVi (rest := [mI 0, mR 124]) C1 ev_L_42 (mm_dec dk_L_add 7 rfl) (c_X11_add_e x.2.1 hl (d - 1) (by omega) h i0 p1 p2 p3 p4) rfl rfl (Nat.le_of_ble_eq_true rfl) ⟨by decide, by decide⟩ rfl (fun r hc hp => ?_) (fun E hx q => ?_)
  · obtain ⟨b, ic, gc⟩ := hp
    have fc : mm_fr [] [19, 20, 21, 124] h hc := mm_fr_tr (mm_fr_rf (h := h)) gc (by decide +kernel)
    refine mm_rng (fun _ ho => ?_)
    have br : -2147483648 ≤ r ∧ r < 2147483648 := mm_ok_hd ho
    refine mm_i2l C (mm_dec dk_L_add 8 rfl) ?_
    refine mm_last C (mm_dec dk_L_add 9 rfl) rfl (by omega) (by omega) ?_
    refine mm_goto (tgt := 21) C (mm_dec dk_L_add 10 rfl) (by decide) ?_
    refine mm_iconst C (mm_dec dk_L_add 14 rfl) ⟨by decide, by decide⟩ ?_
    exact mm_iret C T (mm_dec dk_L_add 15 rfl) (by decide) (by decide) ⟨_, rfl, ⟨by decide, by decide⟩, mm_inv_pa ic (show -9223372036854775808 ≤ r ∧ r ≤ 9223372036854775807 from ⟨by omega, by omega⟩), mm_fr_pa fc (by decide)⟩
  · rw [q.1, q.2]
    refine mm_catch (nm := "java/util/NoSuchElementException") [] (⟨0, 14, 17, 13⟩ : ExceptionTableEntry) [] C htb (fun y hy => absurd hy List.not_mem_nil) (by decide) (by decide) ck_L_13 (by decide) (k := 6) (by decide) (Or.inl (mm_dec dk_L_add 11 rfl)) (pc2 := 19) ⟨fun _ => rfl, fun ⟨_, _, z⟩ => (by have w := z.symm.trans (mm_dec dk_L_add 11 rfl); cases w)⟩ ?_
    refine mm_iconst C (mm_dec dk_L_add 12 rfl) ⟨by decide, by decide⟩ ?_
    exact mm_iret C T (mm_dec dk_L_add 13 rfl) (by decide) (by decide) ⟨_, rfl, ⟨by decide, by decide⟩, i0, mm_fr_rf⟩
theorem mh_L_runner : mm_MWH yL_runner cL_runner 6 (some .int) [(0, 12, 15, 13)] 5 := ⟨mm_T_at 4 143 (by decide +kernel) rfl, mm_T_at 1 0 (by decide +kernel) rfl, ⟨by decide +kernel, by decide +kernel, by decide +kernel⟩, by decide⟩
set_option maxRecDepth 100000 in
set_option maxHeartbeats 4000000 in
theorem c_L_runner (l : Launch) (hl : l.stackTraces = false) (d : Nat) (hd : 10 ≤ d) (h : mH) (i0 : mm_inv h) (p1 : Int) (p2 : Int) (p3 : Int) : mm_MetH l d yL_runner cL_runner 6 (some .int) [(0, 12, 15, 13)] [mR 0, mI p1, mI p2, mI p3, mR 124] h (mm_pi fun r h2 => (0 ≤ r ∧ r ≤ 2) ∧ mm_inv h2 ∧ mm_fr [(22, 8)] [18, 23, 24, 25, 26, 27, 28, 124] h h2) mm_nx 1 6 := by
  refine mm_ofWH (ls := [mR 0, mI p1, mI p2, mI p3, mR 124, mU]) hl (by decide) rfl (Nat.le_of_ble_eq_true rfl) ?_
  intro x hxl C T htb
  subst hxl
  have C1 := mm_OK_le (d' := d - 1 + 1) (by omega) C
  refine mm_aload C (mm_dec dk_L_runner 0 rfl) rfl ?_
  refine mm_iconst C (mm_dec dk_L_runner 1 rfl) ⟨by decide, by decide⟩ ?_
  refine mm_aload_n C (mm_dec dk_L_runner 2 rfl) rfl ?_
  refine mm_iload_n C (mm_dec dk_L_runner 3 rfl) rfl ?_
  refine mm_iload_n C (mm_dec dk_L_runner 4 rfl) rfl ?_
  refine mm_iload_n C (mm_dec dk_L_runner 5 rfl) rfl ?_
  refine mm_cVi (rest := [mI 0, mR 124]) C1 ev_L_45 (mm_dec dk_L_runner 6 rfl) (c_X11_runner_e x.2.1 hl (d - 1) (by omega) h i0 p1 p2 p3) rfl rfl (Nat.le_of_ble_eq_true rfl) ⟨by decide, by decide⟩ rfl (fun r hc hp => ?_) (fun E hx q => ?_)
  · obtain ⟨b, ic, gc⟩ := hp
    have fc : mm_fr [(22, 8)] [18, 23, 24, 25, 26, 27, 28, 124] h hc := mm_fr_tr (mm_fr_rf (h := h)) gc (by decide +kernel)
    refine mm_rng (fun _ ho => ?_)
    have br : -2147483648 ≤ r ∧ r < 2147483648 := mm_ok_hd ho
    refine mm_i2l C (mm_dec dk_L_runner 7 rfl) ?_
    refine mm_last C (mm_dec dk_L_runner 8 rfl) rfl (by omega) (by omega) ?_
    refine mm_goto (tgt := 19) C (mm_dec dk_L_runner 9 rfl) (by decide) ?_
    refine mm_iconst C (mm_dec dk_L_runner 13 rfl) ⟨by decide, by decide⟩ ?_
    exact mm_iret C T (mm_dec dk_L_runner 14 rfl) (by decide) (by decide) ⟨_, rfl, ⟨by decide, by decide⟩, mm_inv_pa ic (show -9223372036854775808 ≤ r ∧ r ≤ 9223372036854775807 from ⟨by omega, by omega⟩), mm_fr_pa fc (by decide)⟩
  · rw [q.1, q.2]
    refine mm_catch (nm := "java/util/NoSuchElementException") [] (⟨0, 12, 15, 13⟩ : ExceptionTableEntry) [] C htb (fun y hy => absurd hy List.not_mem_nil) (by decide) (by decide) ck_L_13 (by decide) (k := 5) (by decide) (Or.inl (mm_dec dk_L_runner 10 rfl)) (pc2 := 17) ⟨fun _ => rfl, fun ⟨_, _, z⟩ => (by have w := z.symm.trans (mm_dec dk_L_runner 10 rfl); cases w)⟩ ?_
    refine mm_iconst C (mm_dec dk_L_runner 11 rfl) ⟨by decide, by decide⟩ ?_
    exact mm_iret C T (mm_dec dk_L_runner 12 rfl) (by decide) (by decide) ⟨_, rfl, ⟨by decide, by decide⟩, i0, mm_fr_rf⟩
theorem mh_L_row : mm_MWH yL_row cL_row 5 (some .int) [(0, 10, 13, 13)] 4 := ⟨mm_T_at 4 158 (by decide +kernel) rfl, mm_T_at 1 0 (by decide +kernel) rfl, ⟨by decide +kernel, by decide +kernel, by decide +kernel⟩, by decide⟩
set_option maxRecDepth 100000 in
set_option maxHeartbeats 4000000 in
theorem c_L_row (l : Launch) (hl : l.stackTraces = false) (d : Nat) (hd : 10 ≤ d) (h : mH) (i0 : mm_inv h) (p1 : Int) (p2 : Int) : mm_MetH l d yL_row cL_row 5 (some .int) [(0, 10, 13, 13)] [mR 0, mI p1, mI p2, mR 124] h (mm_pi fun r h2 => (0 ≤ r ∧ r ≤ 2) ∧ mm_inv h2 ∧ mm_fr [(7, 7), (7, 8)] [8, 9, 10, 11, 61, 124] h h2) mm_nx 2 12 := by
  refine mm_ofWH (ls := [mR 0, mI p1, mI p2, mR 124, mU]) hl (by decide) rfl (Nat.le_of_ble_eq_true rfl) ?_
  intro x hxl C T htb
  subst hxl
  have C1 := mm_OK_le (d' := d - 1 + 1) (by omega) C
  refine mm_aload_n C (mm_dec dk_L_row 0 rfl) rfl ?_
  refine mm_iconst C (mm_dec dk_L_row 1 rfl) ⟨by decide, by decide⟩ ?_
  refine mm_aload_n C (mm_dec dk_L_row 2 rfl) rfl ?_
  refine mm_iload_n C (mm_dec dk_L_row 3 rfl) rfl ?_
  refine mm_iload_n C (mm_dec dk_L_row 4 rfl) rfl ?_
  refine mm_cVi (rest := [mI 0, mR 124]) C1 ev_L_48 (mm_dec dk_L_row 5 rfl) (c_X11_row_e x.2.1 hl (d - 1) (by omega) h i0 p1 p2) rfl rfl (Nat.le_of_ble_eq_true rfl) ⟨by decide, by decide⟩ rfl (fun r hc hp => ?_) (fun E hx q => ?_)
  · obtain ⟨b, ic, gc⟩ := hp
    have fc : mm_fr [(7, 7), (7, 8)] [8, 9, 10, 11, 61, 124] h hc := mm_fr_tr (mm_fr_rf (h := h)) gc (by decide +kernel)
    refine mm_rng (fun _ ho => ?_)
    have br : -2147483648 ≤ r ∧ r < 2147483648 := mm_ok_hd ho
    refine mm_i2l C (mm_dec dk_L_row 6 rfl) ?_
    refine mm_last C (mm_dec dk_L_row 7 rfl) rfl (by omega) (by omega) ?_
    refine mm_goto (tgt := 17) C (mm_dec dk_L_row 8 rfl) (by decide) ?_
    refine mm_iconst C (mm_dec dk_L_row 12 rfl) ⟨by decide, by decide⟩ ?_
    exact mm_iret C T (mm_dec dk_L_row 13 rfl) (by decide) (by decide) ⟨_, rfl, ⟨by decide, by decide⟩, mm_inv_pa ic (show -9223372036854775808 ≤ r ∧ r ≤ 9223372036854775807 from ⟨by omega, by omega⟩), mm_fr_pa fc (by decide)⟩
  · rw [q.1, q.2]
    refine mm_catch (nm := "java/util/NoSuchElementException") [] (⟨0, 10, 13, 13⟩ : ExceptionTableEntry) [] C htb (fun y hy => absurd hy List.not_mem_nil) (by decide) (by decide) ck_L_13 (by decide) (k := 4) (by decide) (Or.inl (mm_dec dk_L_row 9 rfl)) (pc2 := 15) ⟨fun _ => rfl, fun ⟨_, _, z⟩ => (by have w := z.symm.trans (mm_dec dk_L_row 9 rfl); cases w)⟩ ?_
    refine mm_iconst C (mm_dec dk_L_row 10 rfl) ⟨by decide, by decide⟩ ?_
    exact mm_iret C T (mm_dec dk_L_row 11 rfl) (by decide) (by decide) ⟨_, rfl, ⟨by decide, by decide⟩, i0, mm_fr_rf⟩
theorem mh_L_team : mm_MWH yL_team cL_team 6 (some .int) [(0, 12, 15, 13)] 5 := ⟨mm_T_at 4 200 (by decide +kernel) rfl, mm_T_at 1 0 (by decide +kernel) rfl, ⟨by decide +kernel, by decide +kernel, by decide +kernel⟩, by decide⟩
set_option maxRecDepth 100000 in
set_option maxHeartbeats 4000000 in
theorem c_L_team (l : Launch) (hl : l.stackTraces = false) (d : Nat) (hd : 10 ≤ d) (h : mH) (i0 : mm_inv h) (p1 : Int) (p2 : Int) (p3 : Int) : mm_MetH l d yL_team cL_team 6 (some .int) [(0, 12, 15, 13)] [mR 0, mI p1, mI p2, mI p3, mR 124] h (mm_pi fun r h2 => (0 ≤ r ∧ r ≤ 2) ∧ mm_inv h2 ∧ mm_fr [(22, 9)] [27, 28, 29, 124] h h2) mm_nx 3 18 := by
  refine mm_ofWH (ls := [mR 0, mI p1, mI p2, mI p3, mR 124, mU]) hl (by decide) rfl (Nat.le_of_ble_eq_true rfl) ?_
  intro x hxl C T htb
  subst hxl
  have C1 := mm_OK_le (d' := d - 1 + 1) (by omega) C
  refine mm_aload C (mm_dec dk_L_team 0 rfl) rfl ?_
  refine mm_iconst C (mm_dec dk_L_team 1 rfl) ⟨by decide, by decide⟩ ?_
  refine mm_aload_n C (mm_dec dk_L_team 2 rfl) rfl ?_
  refine mm_iload_n C (mm_dec dk_L_team 3 rfl) rfl ?_
  refine mm_iload_n C (mm_dec dk_L_team 4 rfl) rfl ?_
  refine mm_iload_n C (mm_dec dk_L_team 5 rfl) rfl ?_
  refine mm_cVi (rest := [mI 0, mR 124]) C1 ev_L_52 (mm_dec dk_L_team 6 rfl) (c_X11_team_e x.2.1 hl (d - 1) (by omega) h i0 p1 p2 p3) rfl rfl (Nat.le_of_ble_eq_true rfl) ⟨by decide, by decide⟩ rfl (fun r hc hp => ?_) (fun E hx q => ?_)
  · obtain ⟨b, ic, gc⟩ := hp
    have fc : mm_fr [(22, 9)] [27, 28, 29, 124] h hc := mm_fr_tr (mm_fr_rf (h := h)) gc (by decide +kernel)
    refine mm_rng (fun _ ho => ?_)
    have br : -2147483648 ≤ r ∧ r < 2147483648 := mm_ok_hd ho
    refine mm_i2l C (mm_dec dk_L_team 7 rfl) ?_
    refine mm_last C (mm_dec dk_L_team 8 rfl) rfl (by omega) (by omega) ?_
    refine mm_goto (tgt := 19) C (mm_dec dk_L_team 9 rfl) (by decide) ?_
    refine mm_iconst C (mm_dec dk_L_team 13 rfl) ⟨by decide, by decide⟩ ?_
    exact mm_iret C T (mm_dec dk_L_team 14 rfl) (by decide) (by decide) ⟨_, rfl, ⟨by decide, by decide⟩, mm_inv_pa ic (show -9223372036854775808 ≤ r ∧ r ≤ 9223372036854775807 from ⟨by omega, by omega⟩), mm_fr_pa fc (by decide)⟩
  · rw [q.1, q.2]
    refine mm_catch (nm := "java/util/NoSuchElementException") [] (⟨0, 12, 15, 13⟩ : ExceptionTableEntry) [] C htb (fun y hy => absurd hy List.not_mem_nil) (by decide) (by decide) ck_L_13 (by decide) (k := 5) (by decide) (Or.inl (mm_dec dk_L_team 10 rfl)) (pc2 := 17) ⟨fun _ => rfl, fun ⟨_, _, z⟩ => (by have w := z.symm.trans (mm_dec dk_L_team 10 rfl); cases w)⟩ ?_
    refine mm_iconst C (mm_dec dk_L_team 11 rfl) ⟨by decide, by decide⟩ ?_
    exact mm_iret C T (mm_dec dk_L_team 12 rfl) (by decide) (by decide) ⟨_, rfl, ⟨by decide, by decide⟩, i0, mm_fr_rf⟩
theorem mh_L_go : mm_MWH yL_go cL_go 4 (some .int) [(0, 9, 12, 58)] 3 := ⟨mm_T_at 4 225 (by decide +kernel) rfl, mm_T_at 1 0 (by decide +kernel) rfl, ⟨by decide +kernel, by decide +kernel, by decide +kernel⟩, by decide⟩
set_option maxRecDepth 100000 in
set_option maxHeartbeats 4000000 in
theorem c_L_go (l : Launch) (hl : l.stackTraces = false) (d : Nat) (hd : 9 ≤ d) (h : mH) (i0 : mm_inv h) (p1 : Int) : mm_MetH l d yL_go cL_go 4 (some .int) [(0, 9, 12, 58)] [mR 0, mI p1, mR 124] h (mm_pi fun r h2 => (0 ≤ r ∧ r ≤ 2) ∧ mm_inv h2 ∧ mm_fr [(0, 13)] [124] h h2) mm_nx 1 6 := by
  refine mm_ofWH (ls := [mR 0, mI p1, mR 124, mU]) hl (by decide) rfl (Nat.le_of_ble_eq_true rfl) ?_
  intro x hxl C T htb
  subst hxl
  have C1 := mm_OK_le (d' := d - 1 + 1) (by omega) C
  refine mm_aload_n C (mm_dec dk_L_go 0 rfl) rfl ?_
  refine mm_iconst C (mm_dec dk_L_go 1 rfl) ⟨by decide, by decide⟩ ?_
  refine mm_aload_n C (mm_dec dk_L_go 2 rfl) rfl ?_
  refine mm_iload_n C (mm_dec dk_L_go 3 rfl) rfl ?_
  refine mm_cVi (rest := [mI 0, mR 124]) C1 ev_L_55 (mm_dec dk_L_go 4 rfl) (c_X11_go_e x.2.1 hl (d - 1) (by omega) h i0 p1) rfl rfl (Nat.le_of_ble_eq_true rfl) ⟨by decide, by decide⟩ rfl (fun r hc hp => ?_) (fun E hx q => ?_)
  · obtain ⟨b, ic, gc⟩ := hp
    have fc : mm_fr [(0, 13)] [124] h hc := mm_fr_tr (mm_fr_rf (h := h)) gc (by decide +kernel)
    refine mm_rng (fun _ ho => ?_)
    have br : -2147483648 ≤ r ∧ r < 2147483648 := mm_ok_hd ho
    refine mm_i2l C (mm_dec dk_L_go 5 rfl) ?_
    refine mm_last C (mm_dec dk_L_go 6 rfl) rfl (by omega) (by omega) ?_
    refine mm_goto (tgt := 15) C (mm_dec dk_L_go 7 rfl) (by decide) ?_
    refine mm_iconst C (mm_dec dk_L_go 11 rfl) ⟨by decide, by decide⟩ ?_
    exact mm_iret C T (mm_dec dk_L_go 12 rfl) (by decide) (by decide) ⟨_, rfl, ⟨by decide, by decide⟩, mm_inv_pa ic (show -9223372036854775808 ≤ r ∧ r ≤ 9223372036854775807 from ⟨by omega, by omega⟩), mm_fr_pa fc (by decide)⟩
  · rw [q.1, q.2]
    refine mm_catch (nm := "java/lang/IllegalArgumentException") [] (⟨0, 9, 12, 58⟩ : ExceptionTableEntry) [] C htb (fun y hy => absurd hy List.not_mem_nil) (by decide) (by decide) ck_L_58 (by decide) (k := 3) (by decide) (Or.inr ⟨3, rfl, (mm_dec dk_L_go 8 rfl)⟩) (pc2 := 13) ⟨fun z => (by have w := z.symm.trans (mm_dec dk_L_go 8 rfl); cases w), fun _ => rfl⟩ ?_
    refine mm_iconst C (mm_dec dk_L_go 9 rfl) ⟨by decide, by decide⟩ ?_
    exact mm_iret C T (mm_dec dk_L_go 10 rfl) (by decide) (by decide) ⟨_, rfl, ⟨by decide, by decide⟩, i0, mm_fr_rf⟩
theorem mh_L_event : mm_MWH yL_event cL_event 7 (some .int) [(0, 14, 17, 13)] 6 := ⟨mm_T_at 5 10 (by decide +kernel) rfl, mm_T_at 1 0 (by decide +kernel) rfl, ⟨by decide +kernel, by decide +kernel, by decide +kernel⟩, by decide⟩
set_option maxRecDepth 100000 in
set_option maxHeartbeats 4000000 in
theorem c_L_event (l : Launch) (hl : l.stackTraces = false) (d : Nat) (hd : 10 ≤ d) (h : mH) (i0 : mm_inv h) (p1 : Int) (p2 : Int) (p3 : Int) (p4 : Int) : mm_MetH l d yL_event cL_event 7 (some .int) [(0, 14, 17, 13)] [mR 0, mI p1, mI p2, mI p3, mI p4, mR 124] h (mm_pi fun r h2 => (0 ≤ r ∧ r ≤ 2) ∧ mm_inv h2 ∧ mm_fr [(30, 6)] [31, 32, 33, 34, 35, 36, 124] h h2) mm_nx 2 12 := by
  refine mm_ofWH (ls := [mR 0, mI p1, mI p2, mI p3, mI p4, mR 124, mU]) hl (by decide) rfl (Nat.le_of_ble_eq_true rfl) ?_
  intro x hxl C T htb
  subst hxl
  have C1 := mm_OK_le (d' := d - 1 + 1) (by omega) C
  refine mm_aload C (mm_dec dk_L_event 0 rfl) rfl ?_
  refine mm_iconst C (mm_dec dk_L_event 1 rfl) ⟨by decide, by decide⟩ ?_
  refine mm_aload_n C (mm_dec dk_L_event 2 rfl) rfl ?_
  refine mm_iload_n C (mm_dec dk_L_event 3 rfl) rfl ?_
  refine mm_iload_n C (mm_dec dk_L_event 4 rfl) rfl ?_
  refine mm_iload_n C (mm_dec dk_L_event 5 rfl) rfl ?_
  refine mm_iload C (mm_dec dk_L_event 6 rfl) rfl ?_
  refine mm_cVi (rest := [mI 0, mR 124]) C1 ev_L_60 (mm_dec dk_L_event 7 rfl) (c_X11_event_e x.2.1 hl (d - 1) (by omega) h i0 p1 p2 p3 p4) rfl rfl (Nat.le_of_ble_eq_true rfl) ⟨by decide, by decide⟩ rfl (fun r hc hp => ?_) (fun E hx q => ?_)
  · obtain ⟨b, ic, gc⟩ := hp
    have fc : mm_fr [(30, 6)] [31, 32, 33, 34, 35, 36, 124] h hc := mm_fr_tr (mm_fr_rf (h := h)) gc (by decide +kernel)
    refine mm_rng (fun _ ho => ?_)
    have br : -2147483648 ≤ r ∧ r < 2147483648 := mm_ok_hd ho
    refine mm_i2l C (mm_dec dk_L_event 8 rfl) ?_
    refine mm_last C (mm_dec dk_L_event 9 rfl) rfl (by omega) (by omega) ?_
    refine mm_goto (tgt := 21) C (mm_dec dk_L_event 10 rfl) (by decide) ?_
    refine mm_iconst C (mm_dec dk_L_event 14 rfl) ⟨by decide, by decide⟩ ?_
    exact mm_iret C T (mm_dec dk_L_event 15 rfl) (by decide) (by decide) ⟨_, rfl, ⟨by decide, by decide⟩, mm_inv_pa ic (show -9223372036854775808 ≤ r ∧ r ≤ 9223372036854775807 from ⟨by omega, by omega⟩), mm_fr_pa fc (by decide)⟩
  · rw [q.1, q.2]
    refine mm_catch (nm := "java/util/NoSuchElementException") [] (⟨0, 14, 17, 13⟩ : ExceptionTableEntry) [] C htb (fun y hy => absurd hy List.not_mem_nil) (by decide) (by decide) ck_L_13 (by decide) (k := 6) (by decide) (Or.inl (mm_dec dk_L_event 11 rfl)) (pc2 := 19) ⟨fun _ => rfl, fun ⟨_, _, z⟩ => (by have w := z.symm.trans (mm_dec dk_L_event 11 rfl); cases w)⟩ ?_
    refine mm_iconst C (mm_dec dk_L_event 12 rfl) ⟨by decide, by decide⟩ ?_
    exact mm_iret C T (mm_dec dk_L_event 13 rfl) (by decide) (by decide) ⟨_, rfl, ⟨by decide, by decide⟩, i0, mm_fr_rf⟩
theorem mh_L_back : mm_MWH yL_back cL_back 4 (some .int) [(0, 16, 19, 13)] 3 := ⟨mm_T_at 5 26 (by decide +kernel) rfl, mm_T_at 1 0 (by decide +kernel) rfl, ⟨by decide +kernel, by decide +kernel, by decide +kernel⟩, by decide⟩
set_option maxRecDepth 100000 in
set_option maxHeartbeats 4000000 in
theorem c_L_back (l : Launch) (hl : l.stackTraces = false) (d : Nat) (hd : 9 ≤ d) (h : mH) (i0 : mm_inv h) (p1 : Int) : mm_MetH l d yL_back cL_back 4 (some .int) [(0, 16, 19, 13)] [mR 0, mI p1, mR 124] h (mm_pi fun r h2 => (0 ≤ r ∧ r ≤ 2) ∧ mm_inv h2 ∧ mm_fr [] [36, 124] h h2) mm_nx 1 6 := by
  refine mm_ofWH (ls := [mR 0, mI p1, mR 124, mU]) hl (by decide) rfl (Nat.le_of_ble_eq_true rfl) ?_
  intro x hxl C T htb
  subst hxl
  have C1 := mm_OK_le (d' := d - 1 + 1) (by omega) C
  refine mm_aload_n C (mm_dec dk_L_back 0 rfl) rfl ?_
  refine mm_iconst C (mm_dec dk_L_back 1 rfl) ⟨by decide, by decide⟩ ?_
  refine mm_aload_n C (mm_dec dk_L_back 2 rfl) rfl ?_
  refine mm_iload_n C (mm_dec dk_L_back 3 rfl) rfl ?_
  refine mm_cVi (rest := [mI 0, mR 124]) C1 ev_L_63 (mm_dec dk_L_back 4 rfl) (c_X11_back_e x.2.1 hl (d - 1) (by omega) h i0 p1) rfl rfl (Nat.le_of_ble_eq_true rfl) ⟨by decide, by decide⟩ rfl (fun r hc hp => ?_) (fun E hx q => ?_)
  · obtain ⟨b, ic, gc⟩ := hp
    have fc : mm_fr [] [36, 124] h hc := mm_fr_tr (mm_fr_rf (h := h)) gc (by decide +kernel)
    refine mm_if_eq (tgt := 14) C (mm_dec dk_L_back 5 rfl) (by decide) (fun cr => ?_) (fun cr => ?_)
    · refine mm_lconst (z := 0) C (mm_dec dk_L_back 8 rfl) rfl ?_
      refine mm_last C (mm_dec dk_L_back 9 rfl) rfl (by omega) (by omega) ?_
      refine mm_goto (tgt := 22) C (mm_dec dk_L_back 10 rfl) (by decide) ?_
      refine mm_iconst C (mm_dec dk_L_back 14 rfl) ⟨by decide, by decide⟩ ?_
      exact mm_iret C T (mm_dec dk_L_back 15 rfl) (by decide) (by decide) ⟨_, rfl, ⟨by decide, by decide⟩, mm_inv_pa ic (show -9223372036854775808 ≤ (0 : Int) ∧ (0 : Int) ≤ 9223372036854775807 from ⟨by omega, by omega⟩), mm_fr_pa fc (by decide)⟩
    · refine mm_lconst (z := 1) C (mm_dec dk_L_back 6 rfl) rfl ?_
      refine mm_goto (tgt := 15) C (mm_dec dk_L_back 7 rfl) (by decide) ?_
      refine mm_last C (mm_dec dk_L_back 9 rfl) rfl (by omega) (by omega) ?_
      refine mm_goto (tgt := 22) C (mm_dec dk_L_back 10 rfl) (by decide) ?_
      refine mm_iconst C (mm_dec dk_L_back 14 rfl) ⟨by decide, by decide⟩ ?_
      exact mm_iret C T (mm_dec dk_L_back 15 rfl) (by decide) (by decide) ⟨_, rfl, ⟨by decide, by decide⟩, mm_inv_pa ic (show -9223372036854775808 ≤ (1 : Int) ∧ (1 : Int) ≤ 9223372036854775807 from ⟨by omega, by omega⟩), mm_fr_pa fc (by decide)⟩
  · rw [q.1, q.2]
    refine mm_catch (nm := "java/util/NoSuchElementException") [] (⟨0, 16, 19, 13⟩ : ExceptionTableEntry) [] C htb (fun y hy => absurd hy List.not_mem_nil) (by decide) (by decide) ck_L_13 (by decide) (k := 3) (by decide) (Or.inr ⟨3, rfl, (mm_dec dk_L_back 11 rfl)⟩) (pc2 := 20) ⟨fun z => (by have w := z.symm.trans (mm_dec dk_L_back 11 rfl); cases w), fun _ => rfl⟩ ?_
    refine mm_iconst C (mm_dec dk_L_back 12 rfl) ⟨by decide, by decide⟩ ?_
    exact mm_iret C T (mm_dec dk_L_back 13 rfl) (by decide) (by decide) ⟨_, rfl, ⟨by decide, by decide⟩, i0, mm_fr_rf⟩
theorem mh_L_judged : mm_MWH yL_judged cL_judged 6 (some .int) [(0, 12, 15, 13), (0, 12, 19, 58)] 5 := ⟨mm_T_at 5 38 (by decide +kernel) rfl, mm_T_at 1 0 (by decide +kernel) rfl, ⟨by decide +kernel, by decide +kernel, by decide +kernel⟩, by decide⟩
set_option maxRecDepth 100000 in
set_option maxHeartbeats 4000000 in
theorem c_L_judged (l : Launch) (hl : l.stackTraces = false) (d : Nat) (hd : 10 ≤ d) (h : mH) (i0 : mm_inv h) (p1 : Int) (p2 : Int) (p3 : Int) : mm_MetH l d yL_judged cL_judged 6 (some .int) [(0, 12, 15, 13), (0, 12, 19, 58)] [mR 0, mI p1, mI p2, mI p3, mR 124] h (mm_pi fun r h2 => (0 ≤ r ∧ r ≤ 2) ∧ mm_inv h2 ∧ mm_fr [(42, 4), (42, 5), (42, 6), (46, 5), (46, 6), (46, 7), (46, 8), (46, 9), (46, 10), (48, 8), (48, 9)] [45, 47, 49, 50, 51, 52, 53, 124] h h2) mm_nx 2 12 := by
  refine mm_ofWH (ls := [mR 0, mI p1, mI p2, mI p3, mR 124, mU]) hl (by decide) rfl (Nat.le_of_ble_eq_true rfl) ?_
  intro x hxl C T htb
  subst hxl
  have C1 := mm_OK_le (d' := d - 1 + 1) (by omega) C
  refine mm_aload C (mm_dec dk_L_judged 0 rfl) rfl ?_
  refine mm_iconst C (mm_dec dk_L_judged 1 rfl) ⟨by decide, by decide⟩ ?_
  refine mm_aload_n C (mm_dec dk_L_judged 2 rfl) rfl ?_
  refine mm_iload_n C (mm_dec dk_L_judged 3 rfl) rfl ?_
  refine mm_iload_n C (mm_dec dk_L_judged 4 rfl) rfl ?_
  refine mm_iload_n C (mm_dec dk_L_judged 5 rfl) rfl ?_
  refine mm_cVi (rest := [mI 0, mR 124]) C1 ev_L_67 (mm_dec dk_L_judged 6 rfl) (c_X11_judged_e x.2.1 hl (d - 1) (by omega) h i0 p1 p2 p3) rfl rfl (Nat.le_of_ble_eq_true rfl) ⟨by decide, by decide⟩ rfl (fun r hc hp => ?_) (fun E hx q => ?_)
  · obtain ⟨b, ic, gc⟩ := hp
    have fc : mm_fr [(42, 4), (42, 5), (42, 6), (46, 5), (46, 6), (46, 7), (46, 8), (46, 9), (46, 10), (48, 8), (48, 9)] [45, 47, 49, 50, 51, 52, 53, 124] h hc := mm_fr_tr (mm_fr_rf (h := h)) gc (by decide +kernel)
    refine mm_rng (fun _ ho => ?_)
    have br : -2147483648 ≤ r ∧ r < 2147483648 := mm_ok_hd ho
    refine mm_i2l C (mm_dec dk_L_judged 7 rfl) ?_
    refine mm_last C (mm_dec dk_L_judged 8 rfl) rfl (by omega) (by omega) ?_
    refine mm_goto (tgt := 23) C (mm_dec dk_L_judged 9 rfl) (by decide) ?_
    refine mm_iconst C (mm_dec dk_L_judged 16 rfl) ⟨by decide, by decide⟩ ?_
    exact mm_iret C T (mm_dec dk_L_judged 17 rfl) (by decide) (by decide) ⟨_, rfl, ⟨by decide, by decide⟩, mm_inv_pa ic (show -9223372036854775808 ≤ r ∧ r ≤ 9223372036854775807 from ⟨by omega, by omega⟩), mm_fr_pa fc (by decide)⟩
  · rcases q with ⟨q1, q2⟩ | ⟨q1, q2⟩
    · rw [q1, q2]
      refine mm_catch (nm := "java/util/NoSuchElementException") [] (⟨0, 12, 15, 13⟩ : ExceptionTableEntry) [(⟨0, 12, 19, 58⟩ : ExceptionTableEntry)] C htb (fun y hy => absurd hy List.not_mem_nil) (by decide) (by decide) ck_L_13 (by decide) (k := 5) (by decide) (Or.inl (mm_dec dk_L_judged 10 rfl)) (pc2 := 17) ⟨fun _ => rfl, fun ⟨_, _, z⟩ => (by have w := z.symm.trans (mm_dec dk_L_judged 10 rfl); cases w)⟩ ?_
      refine mm_iconst C (mm_dec dk_L_judged 11 rfl) ⟨by decide, by decide⟩ ?_
      exact mm_iret C T (mm_dec dk_L_judged 12 rfl) (by decide) (by decide) ⟨_, rfl, ⟨by decide, by decide⟩, i0, mm_fr_rf⟩
    · rw [q1, q2]
      refine mm_catch (nm := "java/lang/IllegalArgumentException") [(⟨0, 12, 15, 13⟩ : ExceptionTableEntry)] (⟨0, 12, 19, 58⟩ : ExceptionTableEntry) [] C htb (fun y hy => by rw [List.mem_singleton.mp hy]; exact Or.inr ⟨by decide, _, ck_L_13, by decide⟩) (by decide) (by decide) ck_L_58 (by decide) (k := 5) (by decide) (Or.inl (mm_dec dk_L_judged 13 rfl)) (pc2 := 21) ⟨fun _ => rfl, fun ⟨_, _, z⟩ => (by have w := z.symm.trans (mm_dec dk_L_judged 13 rfl); cases w)⟩ ?_
      refine mm_iconst C (mm_dec dk_L_judged 14 rfl) ⟨by decide, by decide⟩ ?_
      exact mm_iret C T (mm_dec dk_L_judged 15 rfl) (by decide) (by decide) ⟨_, rfl, ⟨by decide, by decide⟩, i0, mm_fr_rf⟩
theorem mh_L_split : mm_MWH yL_split cL_split 6 (some .int) [(0, 12, 15, 13), (0, 12, 19, 58)] 5 := ⟨mm_T_at 5 224 (by decide +kernel) rfl, mm_T_at 1 0 (by decide +kernel) rfl, ⟨by decide +kernel, by decide +kernel, by decide +kernel⟩, by decide⟩
set_option maxRecDepth 100000 in
set_option maxHeartbeats 4000000 in
theorem c_L_split (l : Launch) (hl : l.stackTraces = false) (d : Nat) (hd : 10 ≤ d) (h : mH) (i0 : mm_inv h) (p1 : Int) (p2 : Int) (p3 : Int) : mm_MetH l d yL_split cL_split 6 (some .int) [(0, 12, 15, 13), (0, 12, 19, 58)] [mR 0, mI p1, mI p2, mI p3, mR 124] h (mm_pi fun r h2 => (0 ≤ r ∧ r ≤ 2) ∧ mm_inv h2 ∧ mm_fr [(48, 8), (48, 9)] [49, 50, 51, 52, 53, 124] h h2) mm_nx 3 18 := by
  refine mm_ofWH (ls := [mR 0, mI p1, mI p2, mI p3, mR 124, mU]) hl (by decide) rfl (Nat.le_of_ble_eq_true rfl) ?_
  intro x hxl C T htb
  subst hxl
  have C1 := mm_OK_le (d' := d - 1 + 1) (by omega) C
  refine mm_aload C (mm_dec dk_L_split 0 rfl) rfl ?_
  refine mm_iconst C (mm_dec dk_L_split 1 rfl) ⟨by decide, by decide⟩ ?_
  refine mm_aload_n C (mm_dec dk_L_split 2 rfl) rfl ?_
  refine mm_iload_n C (mm_dec dk_L_split 3 rfl) rfl ?_
  refine mm_iload_n C (mm_dec dk_L_split 4 rfl) rfl ?_
  refine mm_iload_n C (mm_dec dk_L_split 5 rfl) rfl ?_
  refine mm_cVi (rest := [mI 0, mR 124]) C1 ev_L_70 (mm_dec dk_L_split 6 rfl) (c_X11_split_e x.2.1 hl (d - 1) (by omega) h i0 p1 p2 p3) rfl rfl (Nat.le_of_ble_eq_true rfl) ⟨by decide, by decide⟩ rfl (fun r hc hp => ?_) (fun E hx q => ?_)
  · obtain ⟨b, ic, gc⟩ := hp
    have fc : mm_fr [(48, 8), (48, 9)] [49, 50, 51, 52, 53, 124] h hc := mm_fr_tr (mm_fr_rf (h := h)) gc (by decide +kernel)
    refine mm_rng (fun _ ho => ?_)
    have br : -2147483648 ≤ r ∧ r < 2147483648 := mm_ok_hd ho
    refine mm_i2l C (mm_dec dk_L_split 7 rfl) ?_
    refine mm_last C (mm_dec dk_L_split 8 rfl) rfl (by omega) (by omega) ?_
    refine mm_goto (tgt := 23) C (mm_dec dk_L_split 9 rfl) (by decide) ?_
    refine mm_iconst C (mm_dec dk_L_split 16 rfl) ⟨by decide, by decide⟩ ?_
    exact mm_iret C T (mm_dec dk_L_split 17 rfl) (by decide) (by decide) ⟨_, rfl, ⟨by decide, by decide⟩, mm_inv_pa ic (show -9223372036854775808 ≤ r ∧ r ≤ 9223372036854775807 from ⟨by omega, by omega⟩), mm_fr_pa fc (by decide)⟩
  · rcases q with ⟨q1, q2⟩ | ⟨q1, q2⟩
    · rw [q1, q2]
      refine mm_catch (nm := "java/util/NoSuchElementException") [] (⟨0, 12, 15, 13⟩ : ExceptionTableEntry) [(⟨0, 12, 19, 58⟩ : ExceptionTableEntry)] C htb (fun y hy => absurd hy List.not_mem_nil) (by decide) (by decide) ck_L_13 (by decide) (k := 5) (by decide) (Or.inl (mm_dec dk_L_split 10 rfl)) (pc2 := 17) ⟨fun _ => rfl, fun ⟨_, _, z⟩ => (by have w := z.symm.trans (mm_dec dk_L_split 10 rfl); cases w)⟩ ?_
      refine mm_iconst C (mm_dec dk_L_split 11 rfl) ⟨by decide, by decide⟩ ?_
      exact mm_iret C T (mm_dec dk_L_split 12 rfl) (by decide) (by decide) ⟨_, rfl, ⟨by decide, by decide⟩, i0, mm_fr_rf⟩
    · rw [q1, q2]
      refine mm_catch (nm := "java/lang/IllegalArgumentException") [(⟨0, 12, 15, 13⟩ : ExceptionTableEntry)] (⟨0, 12, 19, 58⟩ : ExceptionTableEntry) [] C htb (fun y hy => by rw [List.mem_singleton.mp hy]; exact Or.inr ⟨by decide, _, ck_L_13, by decide⟩) (by decide) (by decide) ck_L_58 (by decide) (k := 5) (by decide) (Or.inl (mm_dec dk_L_split 13 rfl)) (pc2 := 21) ⟨fun _ => rfl, fun ⟨_, _, z⟩ => (by have w := z.symm.trans (mm_dec dk_L_split 13 rfl); cases w)⟩ ?_
      refine mm_iconst C (mm_dec dk_L_split 14 rfl) ⟨by decide, by decide⟩ ?_
      exact mm_iret C T (mm_dec dk_L_split 15 rfl) (by decide) (by decide) ⟨_, rfl, ⟨by decide, by decide⟩, i0, mm_fr_rf⟩
theorem mh_L_ofTeam : mm_MWH yL_ofTeam cL_ofTeam 6 (some .int) [(0, 12, 15, 13), (0, 12, 19, 58)] 5 := ⟨mm_T_at 6 3 (by decide +kernel) rfl, mm_T_at 1 0 (by decide +kernel) rfl, ⟨by decide +kernel, by decide +kernel, by decide +kernel⟩, by decide⟩
set_option maxRecDepth 100000 in
set_option maxHeartbeats 4000000 in
theorem c_L_ofTeam (l : Launch) (hl : l.stackTraces = false) (d : Nat) (hd : 10 ≤ d) (h : mH) (i0 : mm_inv h) (p1 : Int) (p2 : Int) (p3 : Int) : mm_MetH l d yL_ofTeam cL_ofTeam 6 (some .int) [(0, 12, 15, 13), (0, 12, 19, 58)] [mR 0, mI p1, mI p2, mI p3, mR 124] h (mm_pi fun r h2 => (0 ≤ r ∧ r ≤ 2) ∧ mm_inv h2 ∧ mm_fr [(42, 4), (42, 5), (42, 6), (46, 5), (46, 6), (46, 7), (46, 8), (46, 9), (46, 10), (46, 11), (48, 8), (48, 9)] [45, 47, 49, 50, 51, 52, 53, 124] h h2) mm_nx 1 6 := by
  refine mm_ofWH (ls := [mR 0, mI p1, mI p2, mI p3, mR 124, mU]) hl (by decide) rfl (Nat.le_of_ble_eq_true rfl) ?_
  intro x hxl C T htb
  subst hxl
  have C1 := mm_OK_le (d' := d - 1 + 1) (by omega) C
  refine mm_aload C (mm_dec dk_L_ofTeam 0 rfl) rfl ?_
  refine mm_iconst C (mm_dec dk_L_ofTeam 1 rfl) ⟨by decide, by decide⟩ ?_
  refine mm_aload_n C (mm_dec dk_L_ofTeam 2 rfl) rfl ?_
  refine mm_iload_n C (mm_dec dk_L_ofTeam 3 rfl) rfl ?_
  refine mm_iload_n C (mm_dec dk_L_ofTeam 4 rfl) rfl ?_
  refine mm_iload_n C (mm_dec dk_L_ofTeam 5 rfl) rfl ?_
  refine mm_cVi (rest := [mI 0, mR 124]) C1 ev_L_73 (mm_dec dk_L_ofTeam 6 rfl) (c_X11_ofTeam_e x.2.1 hl (d - 1) (by omega) h i0 p1 p2 p3) rfl rfl (Nat.le_of_ble_eq_true rfl) ⟨by decide, by decide⟩ rfl (fun r hc hp => ?_) (fun E hx q => ?_)
  · obtain ⟨b, ic, gc⟩ := hp
    have fc : mm_fr [(42, 4), (42, 5), (42, 6), (46, 5), (46, 6), (46, 7), (46, 8), (46, 9), (46, 10), (46, 11), (48, 8), (48, 9)] [45, 47, 49, 50, 51, 52, 53, 124] h hc := mm_fr_tr (mm_fr_rf (h := h)) gc (by decide +kernel)
    refine mm_rng (fun _ ho => ?_)
    have br : -2147483648 ≤ r ∧ r < 2147483648 := mm_ok_hd ho
    refine mm_i2l C (mm_dec dk_L_ofTeam 7 rfl) ?_
    refine mm_last C (mm_dec dk_L_ofTeam 8 rfl) rfl (by omega) (by omega) ?_
    refine mm_goto (tgt := 23) C (mm_dec dk_L_ofTeam 9 rfl) (by decide) ?_
    refine mm_iconst C (mm_dec dk_L_ofTeam 16 rfl) ⟨by decide, by decide⟩ ?_
    exact mm_iret C T (mm_dec dk_L_ofTeam 17 rfl) (by decide) (by decide) ⟨_, rfl, ⟨by decide, by decide⟩, mm_inv_pa ic (show -9223372036854775808 ≤ r ∧ r ≤ 9223372036854775807 from ⟨by omega, by omega⟩), mm_fr_pa fc (by decide)⟩
  · rcases q with ⟨q1, q2⟩ | ⟨q1, q2⟩
    · rw [q1, q2]
      refine mm_catch (nm := "java/util/NoSuchElementException") [] (⟨0, 12, 15, 13⟩ : ExceptionTableEntry) [(⟨0, 12, 19, 58⟩ : ExceptionTableEntry)] C htb (fun y hy => absurd hy List.not_mem_nil) (by decide) (by decide) ck_L_13 (by decide) (k := 5) (by decide) (Or.inl (mm_dec dk_L_ofTeam 10 rfl)) (pc2 := 17) ⟨fun _ => rfl, fun ⟨_, _, z⟩ => (by have w := z.symm.trans (mm_dec dk_L_ofTeam 10 rfl); cases w)⟩ ?_
      refine mm_iconst C (mm_dec dk_L_ofTeam 11 rfl) ⟨by decide, by decide⟩ ?_
      exact mm_iret C T (mm_dec dk_L_ofTeam 12 rfl) (by decide) (by decide) ⟨_, rfl, ⟨by decide, by decide⟩, i0, mm_fr_rf⟩
    · rw [q1, q2]
      refine mm_catch (nm := "java/lang/IllegalArgumentException") [(⟨0, 12, 15, 13⟩ : ExceptionTableEntry)] (⟨0, 12, 19, 58⟩ : ExceptionTableEntry) [] C htb (fun y hy => by rw [List.mem_singleton.mp hy]; exact Or.inr ⟨by decide, _, ck_L_13, by decide⟩) (by decide) (by decide) ck_L_58 (by decide) (k := 5) (by decide) (Or.inl (mm_dec dk_L_ofTeam 13 rfl)) (pc2 := 21) ⟨fun _ => rfl, fun ⟨_, _, z⟩ => (by have w := z.symm.trans (mm_dec dk_L_ofTeam 13 rfl); cases w)⟩ ?_
      refine mm_iconst C (mm_dec dk_L_ofTeam 14 rfl) ⟨by decide, by decide⟩ ?_
      exact mm_iret C T (mm_dec dk_L_ofTeam 15 rfl) (by decide) (by decide) ⟨_, rfl, ⟨by decide, by decide⟩, i0, mm_fr_rf⟩
theorem mh_L_rules : mm_MWH yL_rules cL_rules 4 (some .int) [(0, 9, 12, 58)] 3 := ⟨mm_T_at 6 35 (by decide +kernel) rfl, mm_T_at 1 0 (by decide +kernel) rfl, ⟨by decide +kernel, by decide +kernel, by decide +kernel⟩, by decide⟩
set_option maxRecDepth 100000 in
set_option maxHeartbeats 4000000 in
theorem c_L_rules (l : Launch) (hl : l.stackTraces = false) (d : Nat) (hd : 51 ≤ d) (h : mH) (i0 : mm_inv h) (p1 : Int) : mm_MetH l d yL_rules cL_rules 4 (some .int) [(0, 9, 12, 58)] [mR 0, mI p1, mR 124] h (mm_pi fun r h2 => (0 ≤ r ∧ r ≤ 2) ∧ mm_inv h2 ∧ mm_fr [(0, 12), (0, 14), (42, 3), (63, 3), (63, 4), (63, 5), (63, 6), (63, 7), (63, 8), (63, 9), (63, 10)] [43, 44, 64, 65, 124] h h2) mm_nx 1 6 := by
  refine mm_ofWH (ls := [mR 0, mI p1, mR 124, mU]) hl (by decide) rfl (Nat.le_of_ble_eq_true rfl) ?_
  intro x hxl C T htb
  subst hxl
  have C1 := mm_OK_le (d' := d - 1 + 1) (by omega) C
  refine mm_aload_n C (mm_dec dk_L_rules 0 rfl) rfl ?_
  refine mm_iconst C (mm_dec dk_L_rules 1 rfl) ⟨by decide, by decide⟩ ?_
  refine mm_aload_n C (mm_dec dk_L_rules 2 rfl) rfl ?_
  refine mm_iload_n C (mm_dec dk_L_rules 3 rfl) rfl ?_
  refine mm_cVi (rest := [mI 0, mR 124]) C1 ev_L_76 (mm_dec dk_L_rules 4 rfl) (c_X11_rules_e x.2.1 hl (d - 1) (by omega) h i0 p1) rfl rfl (Nat.le_of_ble_eq_true rfl) ⟨by decide, by decide⟩ rfl (fun r hc hp => ?_) (fun E hx q => ?_)
  · obtain ⟨b, ic, gc⟩ := hp
    have fc : mm_fr [(0, 12), (0, 14), (42, 3), (63, 3), (63, 4), (63, 5), (63, 6), (63, 7), (63, 8), (63, 9), (63, 10)] [43, 44, 64, 65, 124] h hc := mm_fr_tr (mm_fr_rf (h := h)) gc (by decide +kernel)
    refine mm_rng (fun _ ho => ?_)
    have br : -2147483648 ≤ r ∧ r < 2147483648 := mm_ok_hd ho
    refine mm_i2l C (mm_dec dk_L_rules 5 rfl) ?_
    refine mm_last C (mm_dec dk_L_rules 6 rfl) rfl (by omega) (by omega) ?_
    refine mm_goto (tgt := 15) C (mm_dec dk_L_rules 7 rfl) (by decide) ?_
    refine mm_iconst C (mm_dec dk_L_rules 11 rfl) ⟨by decide, by decide⟩ ?_
    exact mm_iret C T (mm_dec dk_L_rules 12 rfl) (by decide) (by decide) ⟨_, rfl, ⟨by decide, by decide⟩, mm_inv_pa ic (show -9223372036854775808 ≤ r ∧ r ≤ 9223372036854775807 from ⟨by omega, by omega⟩), mm_fr_pa fc (by decide)⟩
  · rw [q.1, q.2]
    refine mm_catch (nm := "java/lang/IllegalArgumentException") [] (⟨0, 9, 12, 58⟩ : ExceptionTableEntry) [] C htb (fun y hy => absurd hy List.not_mem_nil) (by decide) (by decide) ck_L_58 (by decide) (k := 3) (by decide) (Or.inr ⟨3, rfl, (mm_dec dk_L_rules 8 rfl)⟩) (pc2 := 13) ⟨fun z => (by have w := z.symm.trans (mm_dec dk_L_rules 8 rfl); cases w), fun _ => rfl⟩ ?_
    refine mm_iconst C (mm_dec dk_L_rules 9 rfl) ⟨by decide, by decide⟩ ?_
    exact mm_iret C T (mm_dec dk_L_rules 10 rfl) (by decide) (by decide) ⟨_, rfl, ⟨by decide, by decide⟩, i0, mm_fr_rf⟩
theorem mh_L_protest : mm_MWH yL_protest cL_protest 4 (some .int) [(0, 9, 12, 13)] 3 := ⟨mm_T_at 6 205 (by decide +kernel) rfl, mm_T_at 1 0 (by decide +kernel) rfl, ⟨by decide +kernel, by decide +kernel, by decide +kernel⟩, by decide⟩
set_option maxRecDepth 100000 in
set_option maxHeartbeats 4000000 in
theorem c_L_protest (l : Launch) (hl : l.stackTraces = false) (d : Nat) (hd : 10 ≤ d) (h : mH) (i0 : mm_inv h) (p1 : Int) : mm_MetH l d yL_protest cL_protest 4 (some .int) [(0, 9, 12, 13)] [mR 0, mI p1, mR 124] h (mm_pi fun r h2 => (0 ≤ r ∧ r ≤ 2) ∧ mm_inv h2 ∧ mm_fr [(30, 12)] [37, 40, 124] h h2) mm_nx 1 6 := by
  refine mm_ofWH (ls := [mR 0, mI p1, mR 124, mU]) hl (by decide) rfl (Nat.le_of_ble_eq_true rfl) ?_
  intro x hxl C T htb
  subst hxl
  have C1 := mm_OK_le (d' := d - 1 + 1) (by omega) C
  refine mm_aload_n C (mm_dec dk_L_protest 0 rfl) rfl ?_
  refine mm_iconst C (mm_dec dk_L_protest 1 rfl) ⟨by decide, by decide⟩ ?_
  refine mm_aload_n C (mm_dec dk_L_protest 2 rfl) rfl ?_
  refine mm_iload_n C (mm_dec dk_L_protest 3 rfl) rfl ?_
  refine mm_cVi (rest := [mI 0, mR 124]) C1 ev_L_79 (mm_dec dk_L_protest 4 rfl) (c_X11_protest_e x.2.1 hl (d - 1) (by omega) h i0 p1) rfl rfl (Nat.le_of_ble_eq_true rfl) ⟨by decide, by decide⟩ rfl (fun r hc hp => ?_) (fun E hx q => ?_)
  · obtain ⟨b, ic, gc⟩ := hp
    have fc : mm_fr [(30, 12)] [37, 40, 124] h hc := mm_fr_tr (mm_fr_rf (h := h)) gc (by decide +kernel)
    refine mm_rng (fun _ ho => ?_)
    have br : -2147483648 ≤ r ∧ r < 2147483648 := mm_ok_hd ho
    refine mm_i2l C (mm_dec dk_L_protest 5 rfl) ?_
    refine mm_last C (mm_dec dk_L_protest 6 rfl) rfl (by omega) (by omega) ?_
    refine mm_goto (tgt := 15) C (mm_dec dk_L_protest 7 rfl) (by decide) ?_
    refine mm_iconst C (mm_dec dk_L_protest 11 rfl) ⟨by decide, by decide⟩ ?_
    exact mm_iret C T (mm_dec dk_L_protest 12 rfl) (by decide) (by decide) ⟨_, rfl, ⟨by decide, by decide⟩, mm_inv_pa ic (show -9223372036854775808 ≤ r ∧ r ≤ 9223372036854775807 from ⟨by omega, by omega⟩), mm_fr_pa fc (by decide)⟩
  · rw [q.1, q.2]
    refine mm_catch (nm := "java/util/NoSuchElementException") [] (⟨0, 9, 12, 13⟩ : ExceptionTableEntry) [] C htb (fun y hy => absurd hy List.not_mem_nil) (by decide) (by decide) ck_L_13 (by decide) (k := 3) (by decide) (Or.inr ⟨3, rfl, (mm_dec dk_L_protest 8 rfl)⟩) (pc2 := 13) ⟨fun z => (by have w := z.symm.trans (mm_dec dk_L_protest 8 rfl); cases w), fun _ => rfl⟩ ?_
    refine mm_iconst C (mm_dec dk_L_protest 9 rfl) ⟨by decide, by decide⟩ ?_
    exact mm_iret C T (mm_dec dk_L_protest 10 rfl) (by decide) (by decide) ⟨_, rfl, ⟨by decide, by decide⟩, i0, mm_fr_rf⟩
theorem mh_L_decide : mm_MWH yL_decide cL_decide 6 (some .int) [(0, 19, 22, 13)] 5 := ⟨mm_T_at 6 229 (by decide +kernel) rfl, mm_T_at 1 0 (by decide +kernel) rfl, ⟨by decide +kernel, by decide +kernel, by decide +kernel⟩, by decide⟩
set_option maxRecDepth 100000 in
set_option maxHeartbeats 4000000 in
theorem c_L_decide (l : Launch) (hl : l.stackTraces = false) (d : Nat) (hd : 9 ≤ d) (h : mH) (i0 : mm_inv h) (p1 : Int) (p2 : Int) (p3 : Int) : mm_MetH l d yL_decide cL_decide 6 (some .int) [(0, 19, 22, 13)] [mR 0, mI p1, mI p2, mI p3, mR 124] h (mm_pi fun r h2 => (0 ≤ r ∧ r ≤ 2) ∧ mm_inv h2 ∧ mm_fr [(30, 13)] [38, 39, 40, 41, 124] h h2) mm_nx 1 6 := by
  refine mm_ofWH (ls := [mR 0, mI p1, mI p2, mI p3, mR 124, mU]) hl (by decide) rfl (Nat.le_of_ble_eq_true rfl) ?_
  intro x hxl C T htb
  subst hxl
  have C1 := mm_OK_le (d' := d - 1 + 1) (by omega) C
  refine mm_aload C (mm_dec dk_L_decide 0 rfl) rfl ?_
  refine mm_iconst C (mm_dec dk_L_decide 1 rfl) ⟨by decide, by decide⟩ ?_
  refine mm_aload_n C (mm_dec dk_L_decide 2 rfl) rfl ?_
  refine mm_iload_n C (mm_dec dk_L_decide 3 rfl) rfl ?_
  refine mm_iload_n C (mm_dec dk_L_decide 4 rfl) rfl ?_
  refine mm_iload_n C (mm_dec dk_L_decide 5 rfl) rfl ?_
  refine mm_cVi (rest := [mI 0, mR 124]) C1 ev_L_82 (mm_dec dk_L_decide 6 rfl) (c_X11_decide_e x.2.1 hl (d - 1) (by omega) h i0 p1 p2 p3) rfl rfl (Nat.le_of_ble_eq_true rfl) ⟨by decide, by decide⟩ rfl (fun r hc hp => ?_) (fun E hx q => ?_)
  · obtain ⟨b, ic, gc⟩ := hp
    have fc : mm_fr [(30, 13)] [38, 39, 40, 41, 124] h hc := mm_fr_tr (mm_fr_rf (h := h)) gc (by decide +kernel)
    refine mm_if_eq (tgt := 17) C (mm_dec dk_L_decide 7 rfl) (by decide) (fun cr => ?_) (fun cr => ?_)
    · refine mm_lconst (z := 0) C (mm_dec dk_L_decide 10 rfl) rfl ?_
      refine mm_last C (mm_dec dk_L_decide 11 rfl) rfl (by omega) (by omega) ?_
      refine mm_goto (tgt := 26) C (mm_dec dk_L_decide 12 rfl) (by decide) ?_
      refine mm_iconst C (mm_dec dk_L_decide 16 rfl) ⟨by decide, by decide⟩ ?_
      exact mm_iret C T (mm_dec dk_L_decide 17 rfl) (by decide) (by decide) ⟨_, rfl, ⟨by decide, by decide⟩, mm_inv_pa ic (show -9223372036854775808 ≤ (0 : Int) ∧ (0 : Int) ≤ 9223372036854775807 from ⟨by omega, by omega⟩), mm_fr_pa fc (by decide)⟩
    · refine mm_lconst (z := 1) C (mm_dec dk_L_decide 8 rfl) rfl ?_
      refine mm_goto (tgt := 18) C (mm_dec dk_L_decide 9 rfl) (by decide) ?_
      refine mm_last C (mm_dec dk_L_decide 11 rfl) rfl (by omega) (by omega) ?_
      refine mm_goto (tgt := 26) C (mm_dec dk_L_decide 12 rfl) (by decide) ?_
      refine mm_iconst C (mm_dec dk_L_decide 16 rfl) ⟨by decide, by decide⟩ ?_
      exact mm_iret C T (mm_dec dk_L_decide 17 rfl) (by decide) (by decide) ⟨_, rfl, ⟨by decide, by decide⟩, mm_inv_pa ic (show -9223372036854775808 ≤ (1 : Int) ∧ (1 : Int) ≤ 9223372036854775807 from ⟨by omega, by omega⟩), mm_fr_pa fc (by decide)⟩
  · rw [q.1, q.2]
    refine mm_catch (nm := "java/util/NoSuchElementException") [] (⟨0, 19, 22, 13⟩ : ExceptionTableEntry) [] C htb (fun y hy => absurd hy List.not_mem_nil) (by decide) (by decide) ck_L_13 (by decide) (k := 5) (by decide) (Or.inl (mm_dec dk_L_decide 13 rfl)) (pc2 := 24) ⟨fun _ => rfl, fun ⟨_, _, z⟩ => (by have w := z.symm.trans (mm_dec dk_L_decide 13 rfl); cases w)⟩ ?_
    refine mm_iconst C (mm_dec dk_L_decide 14 rfl) ⟨by decide, by decide⟩ ?_
    exact mm_iret C T (mm_dec dk_L_decide 15 rfl) (by decide) (by decide) ⟨_, rfl, ⟨by decide, by decide⟩, i0, mm_fr_rf⟩
theorem mh_L_draw : mm_MWH yL_draw cL_draw 7 (some .int) [(0, 13, 16, 13)] 5 := ⟨mm_T_at 7 1 (by decide +kernel) rfl, mm_T_at 1 0 (by decide +kernel) rfl, ⟨by decide +kernel, by decide +kernel, by decide +kernel⟩, by decide⟩
set_option maxRecDepth 100000 in
set_option maxHeartbeats 4000000 in
theorem c_L_draw (l : Launch) (hl : l.stackTraces = false) (d : Nat) (hd : 10 ≤ d) (h : mH) (i0 : mm_inv h) (p1 : Int) (p2 : Int) (p4 : Int) : mm_MetH l d yL_draw cL_draw 7 (some .int) [(0, 13, 16, 13)] [mR 0, mI p1, mL p2, mI p4, mR 124] h (mm_pi fun r h2 => (0 ≤ r ∧ r ≤ 2) ∧ mm_inv h2 ∧ mm_fr [(30, 6), (54, 5)] [31, 32, 33, 34, 35, 36, 55, 56, 57, 124] h h2) mm_nx 1 6 := by
  refine mm_ofWH (ls := [mR 0, mI p1, mL p2, mU, mI p4, mR 124, mU]) hl (by decide) rfl (Nat.le_of_ble_eq_true rfl) ?_
  intro x hxl C T htb
  subst hxl
  have C1 := mm_OK_le (d' := d - 1 + 1) (by omega) C
  refine mm_aload C (mm_dec dk_L_draw 0 rfl) rfl ?_
  refine mm_iconst C (mm_dec dk_L_draw 1 rfl) ⟨by decide, by decide⟩ ?_
  refine mm_aload_n C (mm_dec dk_L_draw 2 rfl) rfl ?_
  refine mm_iload_n C (mm_dec dk_L_draw 3 rfl) rfl ?_
  refine mm_lload_n C (mm_dec dk_L_draw 4 rfl) rfl ?_
  refine mm_iload C (mm_dec dk_L_draw 5 rfl) rfl ?_
  refine mm_cVi (rest := [mI 0, mR 124]) C1 ev_L_86 (mm_dec dk_L_draw 6 rfl) (c_X11_draw_e x.2.1 hl (d - 1) (by omega) h i0 p1 p2 p4) rfl rfl (Nat.le_of_ble_eq_true rfl) ⟨by decide, by decide⟩ rfl (fun r hc hp => ?_) (fun E hx q => ?_)
  · obtain ⟨b, ic, gc⟩ := hp
    have fc : mm_fr [(30, 6), (54, 5)] [31, 32, 33, 34, 35, 36, 55, 56, 57, 124] h hc := mm_fr_tr (mm_fr_rf (h := h)) gc (by decide +kernel)
    refine mm_rng (fun _ ho => ?_)
    have br : -2147483648 ≤ r ∧ r < 2147483648 := mm_ok_hd ho
    refine mm_i2l C (mm_dec dk_L_draw 7 rfl) ?_
    refine mm_last C (mm_dec dk_L_draw 8 rfl) rfl (by omega) (by omega) ?_
    refine mm_goto (tgt := 20) C (mm_dec dk_L_draw 9 rfl) (by decide) ?_
    refine mm_iconst C (mm_dec dk_L_draw 13 rfl) ⟨by decide, by decide⟩ ?_
    exact mm_iret C T (mm_dec dk_L_draw 14 rfl) (by decide) (by decide) ⟨_, rfl, ⟨by decide, by decide⟩, mm_inv_pa ic (show -9223372036854775808 ≤ r ∧ r ≤ 9223372036854775807 from ⟨by omega, by omega⟩), mm_fr_pa fc (by decide)⟩
  · rw [q.1, q.2]
    refine mm_catch (nm := "java/util/NoSuchElementException") [] (⟨0, 13, 16, 13⟩ : ExceptionTableEntry) [] C htb (fun y hy => absurd hy List.not_mem_nil) (by decide) (by decide) ck_L_13 (by decide) (k := 6) (by decide) (Or.inl (mm_dec dk_L_draw 10 rfl)) (pc2 := 18) ⟨fun _ => rfl, fun ⟨_, _, z⟩ => (by have w := z.symm.trans (mm_dec dk_L_draw 10 rfl); cases w)⟩ ?_
    refine mm_iconst C (mm_dec dk_L_draw 11 rfl) ⟨by decide, by decide⟩ ?_
    exact mm_iret C T (mm_dec dk_L_draw 12 rfl) (by decide) (by decide) ⟨_, rfl, ⟨by decide, by decide⟩, i0, mm_fr_rf⟩
theorem mh_L_best : mm_MWH yL_best cL_best 5 (some .int) [(0, 10, 13, 13), (0, 10, 17, 58)] 4 := ⟨mm_T_at 7 40 (by decide +kernel) rfl, mm_T_at 1 0 (by decide +kernel) rfl, ⟨by decide +kernel, by decide +kernel, by decide +kernel⟩, by decide⟩
theorem mh_L_bestOf : mm_MWH yL_bestOf cL_bestOf 4 (some .int) [(0, 9, 12, 13)] 3 := ⟨mm_T_at 7 84 (by decide +kernel) rfl, mm_T_at 1 0 (by decide +kernel) rfl, ⟨by decide +kernel, by decide +kernel, by decide +kernel⟩, by decide⟩
set_option maxRecDepth 100000 in
set_option maxHeartbeats 4000000 in
theorem c_L_bestOf (l : Launch) (hl : l.stackTraces = false) (d : Nat) (hd : 9 ≤ d) (h : mH) (i0 : mm_inv h) (p1 : Int) : mm_MetH l d yL_bestOf cL_bestOf 4 (some .int) [(0, 9, 12, 13)] [mR 0, mI p1, mR 124] h (mm_pi fun r h2 => (0 ≤ r ∧ r ≤ 2) ∧ mm_inv h2 ∧ mm_fr [] [124] h h2) mm_nx 1 6 := by
  refine mm_ofWH (ls := [mR 0, mI p1, mR 124, mU]) hl (by decide) rfl (Nat.le_of_ble_eq_true rfl) ?_
  intro x hxl C T htb
  subst hxl
  have C1 := mm_OK_le (d' := d - 1 + 1) (by omega) C
  refine mm_aload_n C (mm_dec dk_L_bestOf 0 rfl) rfl ?_
  refine mm_iconst C (mm_dec dk_L_bestOf 1 rfl) ⟨by decide, by decide⟩ ?_
  refine mm_aload_n C (mm_dec dk_L_bestOf 2 rfl) rfl ?_
  refine mm_iload_n C (mm_dec dk_L_bestOf 3 rfl) rfl ?_
  refine mm_cVi (rest := [mI 0, mR 124]) C1 ev_L_93 (mm_dec dk_L_bestOf 4 rfl) (c_X11_bestOf_e x.2.1 hl (d - 1) (by omega) h i0 p1) rfl rfl (Nat.le_of_ble_eq_true rfl) ⟨by decide, by decide⟩ rfl (fun r hc hp => ?_) (fun E hx q => ?_)
  · have zc := hp.1
    have ic : mm_inv hc := by rw [zc]; exact i0
    have fc : mm_fr [] [124] h hc := by rw [zc]; exact mm_fr_rf
    refine mm_rng (fun _ ho => ?_)
    have br : -2147483648 ≤ r ∧ r < 2147483648 := mm_ok_hd ho
    refine mm_i2l C (mm_dec dk_L_bestOf 5 rfl) ?_
    refine mm_last C (mm_dec dk_L_bestOf 6 rfl) rfl (by omega) (by omega) ?_
    refine mm_goto (tgt := 15) C (mm_dec dk_L_bestOf 7 rfl) (by decide) ?_
    refine mm_iconst C (mm_dec dk_L_bestOf 11 rfl) ⟨by decide, by decide⟩ ?_
    exact mm_iret C T (mm_dec dk_L_bestOf 12 rfl) (by decide) (by decide) ⟨_, rfl, ⟨by decide, by decide⟩, mm_inv_pa ic (show -9223372036854775808 ≤ r ∧ r ≤ 9223372036854775807 from ⟨by omega, by omega⟩), mm_fr_pa fc (by decide)⟩
  · rw [q.1, q.2]
    refine mm_catch (nm := "java/util/NoSuchElementException") [] (⟨0, 9, 12, 13⟩ : ExceptionTableEntry) [] C htb (fun y hy => absurd hy List.not_mem_nil) (by decide) (by decide) ck_L_13 (by decide) (k := 3) (by decide) (Or.inr ⟨3, rfl, (mm_dec dk_L_bestOf 8 rfl)⟩) (pc2 := 13) ⟨fun z => (by have w := z.symm.trans (mm_dec dk_L_bestOf 8 rfl); cases w), fun _ => rfl⟩ ?_
    refine mm_iconst C (mm_dec dk_L_bestOf 9 rfl) ⟨by decide, by decide⟩ ?_
    exact mm_iret C T (mm_dec dk_L_bestOf 10 rfl) (by decide) (by decide) ⟨_, rfl, ⟨by decide, by decide⟩, i0, mm_fr_rf⟩
theorem mh_L_track : mm_MWH yL_track cL_track 5 (some .int) [(0, 10, 13, 13), (0, 10, 17, 58)] 4 := ⟨mm_T_at 7 104 (by decide +kernel) rfl, mm_T_at 1 0 (by decide +kernel) rfl, ⟨by decide +kernel, by decide +kernel, by decide +kernel⟩, by decide⟩
set_option maxRecDepth 100000 in
set_option maxHeartbeats 4000000 in
theorem c_L_track (l : Launch) (hl : l.stackTraces = false) (d : Nat) (hd : 10 ≤ d) (h : mH) (i0 : mm_inv h) (p1 : Int) (p2 : Int) : mm_MetH l d yL_track cL_track 5 (some .int) [(0, 10, 13, 13), (0, 10, 17, 58)] [mR 0, mI p1, mI p2, mR 124] h (mm_pi fun r h2 => (0 ≤ r ∧ r ≤ 2) ∧ mm_inv h2 ∧ mm_fr [(0, 12), (0, 14), (7, 10), (7, 11)] [26, 61, 124] h h2) mm_nx 2 12 := by
  refine mm_ofWH (ls := [mR 0, mI p1, mI p2, mR 124, mU]) hl (by decide) rfl (Nat.le_of_ble_eq_true rfl) ?_
  intro x hxl C T htb
  subst hxl
  have C1 := mm_OK_le (d' := d - 1 + 1) (by omega) C
  refine mm_aload_n C (mm_dec dk_L_track 0 rfl) rfl ?_
  refine mm_iconst C (mm_dec dk_L_track 1 rfl) ⟨by decide, by decide⟩ ?_
  refine mm_aload_n C (mm_dec dk_L_track 2 rfl) rfl ?_
  refine mm_iload_n C (mm_dec dk_L_track 3 rfl) rfl ?_
  refine mm_iload_n C (mm_dec dk_L_track 4 rfl) rfl ?_
  refine mm_cVi (rest := [mI 0, mR 124]) C1 ev_L_96 (mm_dec dk_L_track 5 rfl) (c_X11_track_e x.2.1 hl (d - 1) (by omega) h i0 p1 p2) rfl rfl (Nat.le_of_ble_eq_true rfl) ⟨by decide, by decide⟩ rfl (fun r hc hp => ?_) (fun E hx q => ?_)
  · obtain ⟨b, ic, gc⟩ := hp
    have fc : mm_fr [(0, 12), (0, 14), (7, 10), (7, 11)] [26, 61, 124] h hc := mm_fr_tr (mm_fr_rf (h := h)) gc (by decide +kernel)
    refine mm_rng (fun _ ho => ?_)
    have br : -2147483648 ≤ r ∧ r < 2147483648 := mm_ok_hd ho
    refine mm_i2l C (mm_dec dk_L_track 6 rfl) ?_
    refine mm_last C (mm_dec dk_L_track 7 rfl) rfl (by omega) (by omega) ?_
    refine mm_goto (tgt := 21) C (mm_dec dk_L_track 8 rfl) (by decide) ?_
    refine mm_iconst C (mm_dec dk_L_track 15 rfl) ⟨by decide, by decide⟩ ?_
    exact mm_iret C T (mm_dec dk_L_track 16 rfl) (by decide) (by decide) ⟨_, rfl, ⟨by decide, by decide⟩, mm_inv_pa ic (show -9223372036854775808 ≤ r ∧ r ≤ 9223372036854775807 from ⟨by omega, by omega⟩), mm_fr_pa fc (by decide)⟩
  · rcases q with ⟨q1, q2⟩ | ⟨q1, q2⟩
    · rw [q1, q2]
      refine mm_catch (nm := "java/util/NoSuchElementException") [] (⟨0, 10, 13, 13⟩ : ExceptionTableEntry) [(⟨0, 10, 17, 58⟩ : ExceptionTableEntry)] C htb (fun y hy => absurd hy List.not_mem_nil) (by decide) (by decide) ck_L_13 (by decide) (k := 4) (by decide) (Or.inl (mm_dec dk_L_track 9 rfl)) (pc2 := 15) ⟨fun _ => rfl, fun ⟨_, _, z⟩ => (by have w := z.symm.trans (mm_dec dk_L_track 9 rfl); cases w)⟩ ?_
      refine mm_iconst C (mm_dec dk_L_track 10 rfl) ⟨by decide, by decide⟩ ?_
      exact mm_iret C T (mm_dec dk_L_track 11 rfl) (by decide) (by decide) ⟨_, rfl, ⟨by decide, by decide⟩, i0, mm_fr_rf⟩
    · rw [q1, q2]
      refine mm_catch (nm := "java/lang/IllegalArgumentException") [(⟨0, 10, 13, 13⟩ : ExceptionTableEntry)] (⟨0, 10, 17, 58⟩ : ExceptionTableEntry) [] C htb (fun y hy => by rw [List.mem_singleton.mp hy]; exact Or.inr ⟨by decide, _, ck_L_13, by decide⟩) (by decide) (by decide) ck_L_58 (by decide) (k := 4) (by decide) (Or.inl (mm_dec dk_L_track 12 rfl)) (pc2 := 19) ⟨fun _ => rfl, fun ⟨_, _, z⟩ => (by have w := z.symm.trans (mm_dec dk_L_track 12 rfl); cases w)⟩ ?_
      refine mm_iconst C (mm_dec dk_L_track 13 rfl) ⟨by decide, by decide⟩ ?_
      exact mm_iret C T (mm_dec dk_L_track 14 rfl) (by decide) (by decide) ⟨_, rfl, ⟨by decide, by decide⟩, i0, mm_fr_rf⟩
theorem mh_L_lost : mm_MWH yL_lost cL_lost 4 (some .int) [(0, 9, 12, 13)] 3 := ⟨mm_T_at 7 133 (by decide +kernel) rfl, mm_T_at 1 0 (by decide +kernel) rfl, ⟨by decide +kernel, by decide +kernel, by decide +kernel⟩, by decide⟩
set_option maxRecDepth 100000 in
set_option maxHeartbeats 4000000 in
theorem c_L_lost (l : Launch) (hl : l.stackTraces = false) (d : Nat) (hd : 10 ≤ d) (h : mH) (i0 : mm_inv h) (p1 : Int) : mm_MetH l d yL_lost cL_lost 4 (some .int) [(0, 9, 12, 13)] [mR 0, mI p1, mR 124] h (mm_pi fun r h2 => (0 ≤ r ∧ r ≤ 2) ∧ mm_inv h2 ∧ mm_fr [(7, 7), (7, 8)] [8, 9, 10, 11, 61, 124] h h2) mm_nx 1 6 := by
  refine mm_ofWH (ls := [mR 0, mI p1, mR 124, mU]) hl (by decide) rfl (Nat.le_of_ble_eq_true rfl) ?_
  intro x hxl C T htb
  subst hxl
  have C1 := mm_OK_le (d' := d - 1 + 1) (by omega) C
  refine mm_aload_n C (mm_dec dk_L_lost 0 rfl) rfl ?_
  refine mm_iconst C (mm_dec dk_L_lost 1 rfl) ⟨by decide, by decide⟩ ?_
  refine mm_aload_n C (mm_dec dk_L_lost 2 rfl) rfl ?_
  refine mm_iload_n C (mm_dec dk_L_lost 3 rfl) rfl ?_
  refine mm_cVi (rest := [mI 0, mR 124]) C1 ev_L_99 (mm_dec dk_L_lost 4 rfl) (c_X11_lost_e x.2.1 hl (d - 1) (by omega) h i0 p1) rfl rfl (Nat.le_of_ble_eq_true rfl) ⟨by decide, by decide⟩ rfl (fun r hc hp => ?_) (fun E hx q => ?_)
  · obtain ⟨b, ic, gc⟩ := hp
    have fc : mm_fr [(7, 7), (7, 8)] [8, 9, 10, 11, 61, 124] h hc := mm_fr_tr (mm_fr_rf (h := h)) gc (by decide +kernel)
    refine mm_rng (fun _ ho => ?_)
    have br : -2147483648 ≤ r ∧ r < 2147483648 := mm_ok_hd ho
    refine mm_i2l C (mm_dec dk_L_lost 5 rfl) ?_
    refine mm_last C (mm_dec dk_L_lost 6 rfl) rfl (by omega) (by omega) ?_
    refine mm_goto (tgt := 15) C (mm_dec dk_L_lost 7 rfl) (by decide) ?_
    refine mm_iconst C (mm_dec dk_L_lost 11 rfl) ⟨by decide, by decide⟩ ?_
    exact mm_iret C T (mm_dec dk_L_lost 12 rfl) (by decide) (by decide) ⟨_, rfl, ⟨by decide, by decide⟩, mm_inv_pa ic (show -9223372036854775808 ≤ r ∧ r ≤ 9223372036854775807 from ⟨by omega, by omega⟩), mm_fr_pa fc (by decide)⟩
  · rw [q.1, q.2]
    refine mm_catch (nm := "java/util/NoSuchElementException") [] (⟨0, 9, 12, 13⟩ : ExceptionTableEntry) [] C htb (fun y hy => absurd hy List.not_mem_nil) (by decide) (by decide) ck_L_13 (by decide) (k := 3) (by decide) (Or.inr ⟨3, rfl, (mm_dec dk_L_lost 8 rfl)⟩) (pc2 := 13) ⟨fun z => (by have w := z.symm.trans (mm_dec dk_L_lost 8 rfl); cases w), fun _ => rfl⟩ ?_
    refine mm_iconst C (mm_dec dk_L_lost 9 rfl) ⟨by decide, by decide⟩ ?_
    exact mm_iret C T (mm_dec dk_L_lost 10 rfl) (by decide) (by decide) ⟨_, rfl, ⟨by decide, by decide⟩, i0, mm_fr_rf⟩
theorem mh_L_count : mm_MWH yL_count cL_count 4 (some .int) [(0, 9, 12, 13)] 3 := ⟨mm_T_at 7 144 (by decide +kernel) rfl, mm_T_at 1 0 (by decide +kernel) rfl, ⟨by decide +kernel, by decide +kernel, by decide +kernel⟩, by decide⟩
set_option maxRecDepth 100000 in
set_option maxHeartbeats 4000000 in
theorem c_L_count (l : Launch) (hl : l.stackTraces = false) (d : Nat) (hd : 9 ≤ d) (h : mH) (i0 : mm_inv h) (p1 : Int) : mm_MetH l d yL_count cL_count 4 (some .int) [(0, 9, 12, 13)] [mR 0, mI p1, mR 124] h (mm_pi fun r h2 => (0 ≤ r ∧ r ≤ 2) ∧ mm_inv h2 ∧ mm_fr [] [124] h h2) mm_nx 1 6 := by
  refine mm_ofWH (ls := [mR 0, mI p1, mR 124, mU]) hl (by decide) rfl (Nat.le_of_ble_eq_true rfl) ?_
  intro x hxl C T htb
  subst hxl
  have C1 := mm_OK_le (d' := d - 1 + 1) (by omega) C
  refine mm_aload_n C (mm_dec dk_L_count 0 rfl) rfl ?_
  refine mm_iconst C (mm_dec dk_L_count 1 rfl) ⟨by decide, by decide⟩ ?_
  refine mm_aload_n C (mm_dec dk_L_count 2 rfl) rfl ?_
  refine mm_iload_n C (mm_dec dk_L_count 3 rfl) rfl ?_
  refine mm_cVi (rest := [mI 0, mR 124]) C1 ev_L_102 (mm_dec dk_L_count 4 rfl) (c_X11_count_e x.2.1 hl (d - 1) (by omega) h i0 p1) rfl rfl (Nat.le_of_ble_eq_true rfl) ⟨by decide, by decide⟩ rfl (fun r hc hp => ?_) (fun E hx q => ?_)
  · have zc := hp.2
    have ic : mm_inv hc := by rw [zc]; exact i0
    have fc : mm_fr [] [124] h hc := by rw [zc]; exact mm_fr_rf
    refine mm_rng (fun _ ho => ?_)
    have br : -2147483648 ≤ r ∧ r < 2147483648 := mm_ok_hd ho
    refine mm_i2l C (mm_dec dk_L_count 5 rfl) ?_
    refine mm_last C (mm_dec dk_L_count 6 rfl) rfl (by omega) (by omega) ?_
    refine mm_goto (tgt := 15) C (mm_dec dk_L_count 7 rfl) (by decide) ?_
    refine mm_iconst C (mm_dec dk_L_count 11 rfl) ⟨by decide, by decide⟩ ?_
    exact mm_iret C T (mm_dec dk_L_count 12 rfl) (by decide) (by decide) ⟨_, rfl, ⟨by decide, by decide⟩, mm_inv_pa ic (show -9223372036854775808 ≤ r ∧ r ≤ 9223372036854775807 from ⟨by omega, by omega⟩), mm_fr_pa fc (by decide)⟩
  · rw [q.1, q.2]
    refine mm_catch (nm := "java/util/NoSuchElementException") [] (⟨0, 9, 12, 13⟩ : ExceptionTableEntry) [] C htb (fun y hy => absurd hy List.not_mem_nil) (by decide) (by decide) ck_L_13 (by decide) (k := 3) (by decide) (Or.inr ⟨3, rfl, (mm_dec dk_L_count 8 rfl)⟩) (pc2 := 13) ⟨fun z => (by have w := z.symm.trans (mm_dec dk_L_count 8 rfl); cases w), fun _ => rfl⟩ ?_
    refine mm_iconst C (mm_dec dk_L_count 9 rfl) ⟨by decide, by decide⟩ ?_
    exact mm_iret C T (mm_dec dk_L_count 10 rfl) (by decide) (by decide) ⟨_, rfl, ⟨by decide, by decide⟩, i0, mm_fr_rf⟩
set_option maxRecDepth 100000 in
set_option maxHeartbeats 4000000 in
theorem c_L_best_t (l : Launch) (hl : l.stackTraces = false) (d : Nat) (hd : 10 ≤ d) (h : mH) (i0 : mm_inv h) (p1 : Int) (p2 : Int) (t0 : h.1 58 5 = 1) : mm_MetH l d yL_best cL_best 5 (some .int) [(0, 10, 13, 13), (0, 10, 17, 58)] [mR 0, mI p1, mI p2, mR 124] h (mm_pi fun r h2 => (0 ≤ r ∧ r ≤ 2) ∧ mm_inv h2 ∧ mm_fr [(7, 7), (7, 8), (58, 6), (58, 7), (58, 8), (58, 9), (58, 10)] [8, 9, 10, 11, 59, 60, 124, 125] h h2) mm_nx 2 12 := by
  refine mm_ofWH (ls := [mR 0, mI p1, mI p2, mR 124, mU]) hl (by decide) rfl (Nat.le_of_ble_eq_true rfl) ?_
  intro x hxl C T htb
  subst hxl
  have C1 := mm_OK_le (d' := d - 1 + 1) (by omega) C
  refine mm_aload_n C (mm_dec dk_L_best 0 rfl) rfl ?_
  refine mm_iconst C (mm_dec dk_L_best 1 rfl) ⟨by decide, by decide⟩ ?_
  refine mm_aload_n C (mm_dec dk_L_best 2 rfl) rfl ?_
  refine mm_iload_n C (mm_dec dk_L_best 3 rfl) rfl ?_
  refine mm_iload_n C (mm_dec dk_L_best 4 rfl) rfl ?_
  refine mm_cVi (rest := [mI 0, mR 124]) C1 ev_L_90 (mm_dec dk_L_best 5 rfl) (c_X11_best_te x.2.1 hl (d - 1) (by omega) h i0 p1 p2 (by omega)) rfl rfl (Nat.le_of_ble_eq_true rfl) ⟨by decide, by decide⟩ rfl (fun r hc hp => ?_) (fun E hx q => ?_)
  · obtain ⟨b, ic, gc⟩ := hp
    have fc : mm_fr [(7, 7), (7, 8), (58, 6), (58, 7), (58, 8), (58, 9), (58, 10)] [8, 9, 10, 11, 59, 60, 124, 125] h hc := mm_fr_tr (mm_fr_rf (h := h)) gc (by decide +kernel)
    refine mm_rng (fun _ ho => ?_)
    have br : -2147483648 ≤ r ∧ r < 2147483648 := mm_ok_hd ho
    refine mm_i2l C (mm_dec dk_L_best 6 rfl) ?_
    refine mm_last C (mm_dec dk_L_best 7 rfl) rfl (by omega) (by omega) ?_
    refine mm_goto (tgt := 21) C (mm_dec dk_L_best 8 rfl) (by decide) ?_
    refine mm_iconst C (mm_dec dk_L_best 15 rfl) ⟨by decide, by decide⟩ ?_
    exact mm_iret C T (mm_dec dk_L_best 16 rfl) (by decide) (by decide) ⟨_, rfl, ⟨by decide, by decide⟩, mm_inv_pa ic (show -9223372036854775808 ≤ r ∧ r ≤ 9223372036854775807 from ⟨by omega, by omega⟩), mm_fr_pa fc (by decide)⟩
  · rcases q with ⟨q1, q2⟩ | ⟨q1, q2⟩
    · rw [q1, q2]
      refine mm_catch (nm := "java/util/NoSuchElementException") [] (⟨0, 10, 13, 13⟩ : ExceptionTableEntry) [(⟨0, 10, 17, 58⟩ : ExceptionTableEntry)] C htb (fun y hy => absurd hy List.not_mem_nil) (by decide) (by decide) ck_L_13 (by decide) (k := 4) (by decide) (Or.inl (mm_dec dk_L_best 9 rfl)) (pc2 := 15) ⟨fun _ => rfl, fun ⟨_, _, z⟩ => (by have w := z.symm.trans (mm_dec dk_L_best 9 rfl); cases w)⟩ ?_
      refine mm_iconst C (mm_dec dk_L_best 10 rfl) ⟨by decide, by decide⟩ ?_
      exact mm_iret C T (mm_dec dk_L_best 11 rfl) (by decide) (by decide) ⟨_, rfl, ⟨by decide, by decide⟩, i0, mm_fr_rf⟩
    · rw [q1, q2]
      refine mm_catch (nm := "java/lang/IllegalArgumentException") [(⟨0, 10, 13, 13⟩ : ExceptionTableEntry)] (⟨0, 10, 17, 58⟩ : ExceptionTableEntry) [] C htb (fun y hy => by rw [List.mem_singleton.mp hy]; exact Or.inr ⟨by decide, _, ck_L_13, by decide⟩) (by decide) (by decide) ck_L_58 (by decide) (k := 4) (by decide) (Or.inl (mm_dec dk_L_best 12 rfl)) (pc2 := 19) ⟨fun _ => rfl, fun ⟨_, _, z⟩ => (by have w := z.symm.trans (mm_dec dk_L_best 12 rfl); cases w)⟩ ?_
      refine mm_iconst C (mm_dec dk_L_best 13 rfl) ⟨by decide, by decide⟩ ?_
      exact mm_iret C T (mm_dec dk_L_best 14 rfl) (by decide) (by decide) ⟨_, rfl, ⟨by decide, by decide⟩, i0, mm_fr_rf⟩
