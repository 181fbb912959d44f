def mm_str : List (String × Nat × String) := [("MapRun", 402, "no such cell"), ("MapRun", 147, "no such ground"), ("MapRun", 179, "no way is kept"), ("MapRun", 181, "no such move"), ("MapRun", 404, "no such course"), ("MapRun", 406, "no such post"), ("MapRun", 408, "no such runner"), ("MapRun", 410, "no such place"), ("MapRun", 263, "no such time"), ("MapRun", 266, "no such kind"), ("MapRun", 275, "no such event"), ("MapRun", 280, "no such question"), ("MapRun", 412, "no such second"), ("MapRun", 297, "no such team"), ("MapRun", 414, "the tape has not so many bytes"), ("MapRun$Reader", 138, "penalty out set unless or and not limit gap window missed wrong run score posts club free "), ("MapRun", 339, "no such protest"), ("MapRun", 355, "seconds below 0"), ("MapRun", 363, "no such answer"), ("MapRun", 390, "no such count")]
def mm_nest : List (String × Nat × MethodName × String) := [("MapRun", 11, ⟨"MapRun$Land", "<init>", "()V"⟩, "MapRun"), ("MapRun", 27, ⟨"MapRun$Courses", "<init>", "()V"⟩, "MapRun"), ("MapRun", 43, ⟨"MapRun$Log", "<init>", "()V"⟩, "MapRun"), ("MapRun", 50, ⟨"MapRun$Rules", "<init>", "()V"⟩, "MapRun"), ("MapRun$Reader", 85, ⟨"MapRun", "within", "(III)Z"⟩, "MapRun")]
def mm_cast : List (String × String) := [("java/util/NoSuchElementException", "java/util/NoSuchElementException"), ("java/lang/IllegalArgumentException", "java/lang/IllegalArgumentException")]
def mm_ncast : List (String × String) := [("java/lang/IllegalArgumentException", "java/util/NoSuchElementException")]
def mm_decl : List MethodName := [⟨"java/lang/RuntimeException", "<init>", "()V"⟩, ⟨"java/lang/RuntimeException", "<init>", "(Ljava/lang/String;)V"⟩, ⟨"java/lang/Exception", "<init>", "()V"⟩, ⟨"java/lang/Exception", "<init>", "(Ljava/lang/String;)V"⟩, ⟨"java/lang/Throwable", "<init>", "()V"⟩, ⟨"java/lang/Throwable", "<init>", "(Ljava/lang/String;)V"⟩]
abbrev mm_wordsAt : Nat := 15
def mm_words : List Int32 := [112, 101, 110, 97, 108, 116, 121, 32, 111, 117, 116, 32, 115, 101, 116, 32, 117, 110, 108, 101, 115, 115, 32, 111, 114, 32, 97, 110, 100, 32, 110, 111, 116, 32, 108, 105, 109, 105, 116, 32, 103, 97, 112, 32, 119, 105, 110, 100, 111, 119, 32, 109, 105, 115, 115, 101, 100, 32, 119, 114, 111, 110, 103, 32, 114, 117, 110, 32, 115, 99, 111, 114, 101, 32, 112, 111, 115, 116, 115, 32, 99, 108, 117, 98, 32, 102, 114, 101, 101, 32]
/-! ===== the judgement over the small machine, and its rows ===== -/
/-- the words that every method may lean on -/
def mm_T : List Cond := lw_tbl.filter goodWord
theorem mm_T_in {w : Cond} (i : Nat) (h : lw_tbl[i]? = some w) (g : goodWord w = true) : w ∈ mm_T := List.mem_filter.mpr ⟨List.mem_of_getElem? h, g⟩
abbrev mX : Type := Program × Launch × Env × Room × State × MethodId × Array Value × List Frame × Method × Code × mG × (Nat → Nat) × (Nat → Prop) × Nat × (State → Prop)
def mm_at (G : mG) (ad0 : Nat → Nat) (A : Nat → Prop) (n0 : Nat) (s : State) (h : mH) (ad : Nat → Nat) (H : Heap) (locs : List Loc) : Prop :=
  va_P (G.1, G.2.1) vwCl (mm_ws G ad h) H ∧ va_D A (mm_ws G ad h) ∧ mm_rg h ∧ va_S A s.heap H locs ∧ (∀ o, (o < n0 ∨ 1000 ≤ o) → ad o = ad0 o) ∧ n0 ≤ h.2.2
def mm_W (x : mX) (a b pc : Nat) (ls st : List mV) (h : mH) : Prop := match x with
  | (p, l, e, R, s, m, args, below, meth, c, G, ad0, A, n0, Q) => ∀ (ad : Nat → Nat) (H : Heap) (locs : List Loc) (jl : Array Slot), mm_at G ad0 A n0 s h ad H locs → lv_has jl c.maxLocals (mm_lv ad 0 ls) → mm_okl h ls → mm_okl h st →
      W p l e R s m args below meth c H locs a b Q (F0 m pc jl (st.map (mm_j ad)))
abbrev mm_tys (G : mG) : List (ClassId × FieldType) := [(G.2.2.1, .int), (G.2.2.2.1, .boolean), (G.2.2.2.2, .long)]
abbrev mm_preC : String := "jdk/internal/util/Preconditions"
abbrev mm_preN : String := "SIOOBE_FORMATTER"
abbrev mm_preD : String := "Ljava/util/function/BiFunction;"
/-- what stays as it is: statics of Throwable, texts, links between nest mates, casts -/
def mm_Z (A : Nat → Prop) (ad : Nat → Nat) (U : State) (H : Heap) : Prop :=
  vx_Zq Bundle.tN "UNASSIGNED_STACK" Bundle.steD A U H ∧ vx_Zq Bundle.tN "SUPPRESSED_SENTINEL" Bundle.listD A U H ∧ (∀ (i : Nat) (q : String × Nat × String), mm_str[i]? = some q → vk_R q.1 q.2.1 q.2.2 (ad (1000 + i)) U) ∧ (∀ q ∈ mm_nest, va_Nw (.methodLinkNest q.1 q.2.1 q.2.2.1 q.2.2.2) U) ∧ (∀ q ∈ mm_cast, va_Nw (.castable q.1 q.2) U) ∧ (∀ q ∈ mm_ncast, va_Nc q.1 q.2 U) ∧ vk_S 1 [mm_words.length] [mm_words] (fun _ => ad (1000 + mm_wordsAt)) (fun _ => ad 2000) A U H ∧ va_Z "java/lang/String" "COMPACT_STRINGS" "Z" (.int 1) A U H ∧ (∀ q ∈ mm_decl, va_Nw (.declares q) U) ∧ (va_Z mm_preC mm_preN mm_preD .null A U H ∨ va_Z mm_preC mm_preN mm_preD (.ref (ad 2001)) A U H)
theorem mm_Z.blind {A : Nat → Prop} {ad : Nat → Nat} {U : State} {H : Heap} (h : mm_Z A ad U H) (g : JFrame) (mk : MethodId) (a : Array Value) : mm_Z A ad (U.calling g mk a) H := by
  obtain ⟨h1, h2, h3, h4, h5, h6, h7, h8, h9, h10⟩ := h
  have e : U.vm = (U.calling g mk a).vm := rfl
  exact ⟨h1.moved (Vm.Alike.refl U.vm), h2.moved (Vm.Alike.refl U.vm), fun i q hq => vk_R.same e.symm (h3 i q hq), fun q hq => va_Nw.same rfl e (h4 q hq), fun q hq => va_Nw.same rfl e (h5 q hq), h6, h7.moved (Vm.Alike.refl U.vm), h8.moved (Vm.Alike.refl U.vm), fun q hq => va_Nw.same rfl e (h9 q hq), h10.imp (fun z => z.moved (Vm.Alike.refl U.vm)) (fun z => z.moved (Vm.Alike.refl U.vm))⟩
theorem mm_Z.call {A A' : Nat → Prop} {ad ad' : Nat → Nat} {s U : State} {H : Heap} {locs : List Loc} (h : mm_Z A ad s s.heap) (hS : va_S A s.heap H locs) (hW : s.WarmedH U.vm) (hA : ∀ q, A' q → A q) (had : ∀ o, 1000 ≤ o → ad' o = ad o) : mm_Z A' ad' U H := by
  obtain ⟨h1, h2, h3, h4, h5, h6, h7, h8, h9, h10⟩ := h
  refine ⟨(h1.kept hS.2.1).narrow hA |>.moved hW.alike, (h2.kept hS.2.1).narrow hA |>.moved hW.alike, fun i q hq => ?_, fun q hq => va_Nw.warmM hW (h4 q hq), fun q hq => va_Nw.warmC hW (h5 q hq), fun q hq => ?_, ?_, (h8.kept hS.2.1).narrow hA |>.moved hW.alike, fun q hq => va_Nw.warmD hW (h9 q hq), h10.imp (fun z => ((z.kept hS.2.1).narrow hA).moved hW.alike) (fun z => by rw [had 2001 (by omega)]; exact ((z.kept hS.2.1).narrow hA).moved hW.alike)⟩
  · rw [had _ (by omega)]; exact (h3 i q hq).warm hW
  · obtain ⟨c, t, g1, g2, g3⟩ := h6 q hq
    exact ⟨c, t, by rw [hW.alike.findClass]; exact g1, by rw [hW.alike.findClass]; exact g2, by rw [hW.alike.assignable]; exact g3⟩
  · have e : (fun _ : Nat => ad' (1000 + mm_wordsAt)) = fun _ => ad (1000 + mm_wordsAt) := by
      funext _
      exact had _ (by omega)
    have e2 : (fun _ : Nat => ad' 2000) = fun _ => ad 2000 := by
      funext _
      exact had _ (by omega)
    rw [e, e2]
    exact ((h7.kept hS.2.1).narrow hA).moved hW.alike
def mm_OK (d cs ss : Nat) (cc : ByteArray) (own : String) (nL : Nat) (ret : Option FieldType) (x : mX) : Prop := match x with
  | (p, l, e, R, s, m, args, below, meth, c, G, ad0, A, n0, Q) => p.tables.exec = Jvm.exec ∧ c.code = cc ∧ c.maxLocals = nL ∧ s.vm.findClass own = some m.cls ∧ (∀ w ∈ mm_T, w.before args s = true) ∧ va_K (G.1, G.2.1) vwCl (mm_tys G) s ∧ (∀ q, s.heap.size ≤ q → A q) ∧ meth.locks = false ∧ l.stackTraces = false ∧ mm_Z A ad0 s s.heap ∧ meth.sig.returnType = ret ∧ (d ≤ R.frames ∧ 64 * d ≤ R.locals ∧ cs ≤ R.cells ∧ ss ≤ R.slots)
section MMR
variable {x : mX} {d cs ss : Nat} {cc : ByteArray} {own : String} {nL : Nat} {ret : Option FieldType} {a b pc : Nat} {ls st : List mV} {h : mH}
theorem mm_widen {k n : Nat} (h1 : a ≤ k) (h2 : b ≤ n) (kk : mm_W x k n pc ls st h) : mm_W x a b pc ls st h := by
  obtain ⟨p, l, e, R, s, m, args, below, meth, c, G, ad0, A, n0, Q⟩ := x
  intro ad H locs jl h3 h4 h5 h6
  exact W.widen h1 h2 (kk ad H locs jl h3 h4 h5 h6)
theorem mm_iconst {z : Int} (C : mm_OK d cs ss cc own nL ret x) (hd : decode cc pc = .ok (.iconst z, 1)) (hz : mm_i32 z) (kk : mm_W x a b (pc + 1) ls (mI z :: st) h) : mm_W x a b pc ls st h := by
  obtain ⟨p, l, e, R, s, m, args, below, meth, c, G, ad0, A, n0, Q⟩ := x
  intro ad H locs jl h3 h4 h5 h6
  exact lv_iconst C.1 C.2.1 hd rfl (kk ad H locs jl h3 h4 h5 (mm_ok_cons hz h6))
theorem mm_bipush {z : Int} (C : mm_OK d cs ss cc own nL ret x) (hd : decode cc pc = .ok (.bipush z, 2)) (hz : -128 ≤ z ∧ z < 128) (kk : mm_W x a b (pc + 2) ls (mI z :: st) h) : mm_W x a b pc ls st h := by
  obtain ⟨p, l, e, R, s, m, args, below, meth, c, G, ad0, A, n0, Q⟩ := x
  intro ad H locs jl h3 h4 h5 h6
  refine lv_bipush C.1 C.2.1 hd (v := Int32.ofInt z) ?_ (kk ad H locs jl h3 h4 h5 (mm_ok_cons ⟨by show (-2147483648 : Int) ≤ z; omega, by show z < 2147483648; omega⟩ h6))
  rw [← Int32.ofInt_int8ToInt, Int8.toInt_ofInt_of_le (by omega) (by omega)]
theorem mm_sipush {z : Int} (C : mm_OK d cs ss cc own nL ret x) (hd : decode cc pc = .ok (.sipush z, 3)) (hz : -32768 ≤ z ∧ z < 32768) (kk : mm_W x a b (pc + 3) ls (mI z :: st) h) : mm_W x a b pc ls st h := by
  obtain ⟨p, l, e, R, s, m, args, below, meth, c, G, ad0, A, n0, Q⟩ := x
  intro ad H locs jl h3 h4 h5 h6
  refine lv_sipush C.1 C.2.1 hd (v := Int32.ofInt z) ?_ (kk ad H locs jl h3 h4 h5 (mm_ok_cons ⟨by show (-2147483648 : Int) ≤ z; omega, by show z < 2147483648; omega⟩ h6))
  rw [← Int32.ofInt_int16ToInt, Int16.toInt_ofInt_of_le (by omega) (by omega)]
theorem mm_ldc {index : Nat} {z : Int} {v : Int32} (C : mm_OK d cs ss cc own nL ret x) (hd : decode cc pc = .ok (.ldc index, 2)) (hw : Cond.constant own index v ∈ mm_T) (hz : v.toInt = z) (kk : mm_W x a b (pc + 2) ls (mI z :: st) h) : mm_W x a b pc ls st h := by
  obtain ⟨p, l, e, R, s, m, args, below, meth, c, G, ad0, A, n0, Q⟩ := x
  intro ad H locs jl h3 h4 h5 h6
  subst hz
  have hr := fb_rng v
  have k := kk ad H locs jl h3 h4 h5 (mm_ok_cons hr h6)
  rw [List.map_cons, show mm_j ad (mI v.toInt) = .int v from by show Value.int (Int32.ofInt v.toInt) = _; rw [Int32.ofInt_toInt]] at k
  exact lv_ldc C.1 C.2.1 C.2.2.2.1 (C.2.2.2.2.1 _ hw) hd k
theorem mm_ldcw {index : Nat} {z : Int} {v : Int32} (C : mm_OK d cs ss cc own nL ret x) (hd : decode cc pc = .ok (.ldc_w index, 3)) (hw : Cond.constant own index v ∈ mm_T) (hz : v.toInt = z) (kk : mm_W x a b (pc + 3) ls (mI z :: st) h) : mm_W x a b pc ls st h := by
  obtain ⟨p, l, e, R, s, m, args, below, meth, c, G, ad0, A, n0, Q⟩ := x
  intro ad H locs jl h3 h4 h5 h6
  subst hz
  have hr := fb_rng v
  have k := kk ad H locs jl h3 h4 h5 (mm_ok_cons hr h6)
  rw [List.map_cons, show mm_j ad (mI v.toInt) = .int v from by show Value.int (Int32.ofInt v.toInt) = _; rw [Int32.ofInt_toInt]] at k
  exact lv_ldcw C.1 C.2.1 C.2.2.2.1 (C.2.2.2.2.1 _ hw) hd k
theorem mm_lconst {n : Fin 2} {z : Int} (C : mm_OK d cs ss cc own nL ret x) (hd : decode cc pc = .ok (.lconst n, 1)) (hz : ((n : Nat) : Int) = z) (kk : mm_W x a b (pc + 1) ls (mL z :: st) h) : mm_W x a b pc ls st h := by
  obtain ⟨p, l, e, R, s, m, args, below, meth, c, G, ad0, A, n0, Q⟩ := x
  intro ad H locs jl h3 h4 h5 h6
  subst hz
  refine lv_lconst C.1 C.2.1 hd (v := Int64.ofInt (n : Nat)) (by rw [Int64.ofInt_eq_ofNat]) (kk ad H locs jl h3 h4 h5 (mm_ok_cons ⟨by show (-9223372036854775808 : Int) ≤ (n : Nat); omega, by show ((n : Nat) : Int) < 9223372036854775808; omega⟩ h6))
theorem mm_iload_n {k : Fin 4} {z : Int} (C : mm_OK d cs ss cc own nL ret x) (hd : decode cc pc = .ok (.iload_n k, 1)) (hl : ls[(k : Nat)]? = some (mI z)) (kk : mm_W x a b (pc + 1) ls (mI z :: st) h) : mm_W x a b pc ls st h := by
  obtain ⟨p, l, e, R, s, m, args, below, meth, c, G, ad0, A, n0, Q⟩ := x
  intro ad H locs jl h3 h4 h5 h6
  exact lv_iload_n C.1 C.2.1 hd rfl (mm_lv_at h4 hl (show (0 : Nat) < 4 by decide)) (kk ad H locs jl h3 h4 h5 (mm_ok_cons (mm_ok_at h5 hl) h6))
theorem mm_iload {i : Nat} {z : Int} (C : mm_OK d cs ss cc own nL ret x) (hd : decode cc pc = .ok (.iload i, 2)) (hl : ls[i]? = some (mI z)) (kk : mm_W x a b (pc + 2) ls (mI z :: st) h) : mm_W x a b pc ls st h := by
  obtain ⟨p, l, e, R, s, m, args, below, meth, c, G, ad0, A, n0, Q⟩ := x
  intro ad H locs jl h3 h4 h5 h6
  exact lv_iload C.1 C.2.1 hd (mm_lv_at h4 hl (show (0 : Nat) < 4 by decide)) (kk ad H locs jl h3 h4 h5 (mm_ok_cons (mm_ok_at h5 hl) h6))
theorem mm_lload_n {k : Fin 4} {z : Int} (C : mm_OK d cs ss cc own nL ret x) (hd : decode cc pc = .ok (.lload_n k, 1)) (hl : ls[(k : Nat)]? = some (mL z)) (kk : mm_W x a b (pc + 1) ls (mL z :: st) h) : mm_W x a b pc ls st h := by
  obtain ⟨p, l, e, R, s, m, args, below, meth, c, G, ad0, A, n0, Q⟩ := x
  intro ad H locs jl h3 h4 h5 h6
  exact lv_lload_n C.1 C.2.1 hd rfl (mm_lv_at h4 hl (show (1 : Nat) < 4 by decide)) (kk ad H locs jl h3 h4 h5 (mm_ok_cons (mm_ok_at h5 hl) h6))
theorem mm_lload {i : Nat} {z : Int} (C : mm_OK d cs ss cc own nL ret x) (hd : decode cc pc = .ok (.lload i, 2)) (hl : ls[i]? = some (mL z)) (kk : mm_W x a b (pc + 2) ls (mL z :: st) h) : mm_W x a b pc ls st h := by
  obtain ⟨p, l, e, R, s, m, args, below, meth, c, G, ad0, A, n0, Q⟩ := x
  intro ad H locs jl h3 h4 h5 h6
  exact lv_lload C.1 C.2.1 hd (mm_lv_at h4 hl (show (1 : Nat) < 4 by decide)) (kk ad H locs jl h3 h4 h5 (mm_ok_cons (mm_ok_at h5 hl) h6))
theorem mm_aload_n {k : Fin 4} {o : Nat} (C : mm_OK d cs ss cc own nL ret x) (hd : decode cc pc = .ok (.aload_n k, 1)) (hl : ls[(k : Nat)]? = some (mR o)) (kk : mm_W x a b (pc + 1) ls (mR o :: st) h) : mm_W x a b pc ls st h := by
  obtain ⟨p, l, e, R, s, m, args, below, meth, c, G, ad0, A, n0, Q⟩ := x
  intro ad H locs jl h3 h4 h5 h6
  exact lv_aload_n C.1 C.2.1 hd rfl (mm_lv_at h4 hl (show (2 : Nat) < 4 by decide)) (kk ad H locs jl h3 h4 h5 (mm_ok_cons (mm_ok_at h5 hl) h6))
theorem mm_aload {i o : Nat} (C : mm_OK d cs ss cc own nL ret x) (hd : decode cc pc = .ok (.aload i, 2)) (hl : ls[i]? = some (mR o)) (kk : mm_W x a b (pc + 2) ls (mR o :: st) h) : mm_W x a b pc ls st h := by
  obtain ⟨p, l, e, R, s, m, args, below, meth, c, G, ad0, A, n0, Q⟩ := x
  intro ad H locs jl h3 h4 h5 h6
  exact lv_aload C.1 C.2.1 hd (mm_lv_at h4 hl (show (2 : Nat) < 4 by decide)) (kk ad H locs jl h3 h4 h5 (mm_ok_cons (mm_ok_at h5 hl) h6))
theorem mm_istore_n {k : Fin 4} {z : Int} (C : mm_OK d cs ss cc own nL ret x) (hd : decode cc pc = .ok (.istore_n k, 1)) (hn : (k : Nat) < nL) (kk : mm_W x a b (pc + 1) (mm_st ls (k : Nat) (mI z)) st h) : mm_W x a b pc ls (mI z :: st) h := by
  obtain ⟨p, l, e, R, s, m, args, below, meth, c, G, ad0, A, n0, Q⟩ := x
  intro ad H locs jl h3 h4 h5 h6
  exact lv_istore_n C.1 C.2.1 hd rfl h4 (by rw [C.2.2.1]; exact hn) rfl (fun jl' hl' => kk ad H locs jl' h3 (mm_st_has hl') (mm_st_ok h5 (mm_ok_hd h6)) (mm_ok_tl h6))
theorem mm_istore {i : Nat} {z : Int} (C : mm_OK d cs ss cc own nL ret x) (hd : decode cc pc = .ok (.istore i, 2)) (hn : i < nL) (kk : mm_W x a b (pc + 2) (mm_st ls i (mI z)) st h) : mm_W x a b pc ls (mI z :: st) h := by
  obtain ⟨p, l, e, R, s, m, args, below, meth, c, G, ad0, A, n0, Q⟩ := x
  intro ad H locs jl h3 h4 h5 h6
  exact lv_istore C.1 C.2.1 hd h4 (by rw [C.2.2.1]; exact hn) rfl (fun jl' hl' => kk ad H locs jl' h3 (mm_st_has hl') (mm_st_ok h5 (mm_ok_hd h6)) (mm_ok_tl h6))
theorem mm_lstore_n {k : Fin 4} {z : Int} (C : mm_OK d cs ss cc own nL ret x) (hd : decode cc pc = .ok (.lstore_n k, 1)) (hn : (k : Nat) + 1 < nL) (kk : mm_W x a b (pc + 1) (mm_st2 ls (k : Nat) (mL z)) st h) : mm_W x a b pc ls (mL z :: st) h := by
  obtain ⟨p, l, e, R, s, m, args, below, meth, c, G, ad0, A, n0, Q⟩ := x
  intro ad H locs jl h3 h4 h5 h6
  exact lv_lstore_n C.1 C.2.1 hd rfl h4 (by rw [C.2.2.1]; exact hn) rfl (fun jl' hl' => kk ad H locs jl' h3 (mm_st2_has hl') (mm_st2_ok h5 (mm_ok_hd h6)) (mm_ok_tl h6))
theorem mm_lstore {i : Nat} {z : Int} (C : mm_OK d cs ss cc own nL ret x) (hd : decode cc pc = .ok (.lstore i, 2)) (hn : i + 1 < nL) (kk : mm_W x a b (pc + 2) (mm_st2 ls i (mL z)) st h) : mm_W x a b pc ls (mL z :: st) h := by
  obtain ⟨p, l, e, R, s, m, args, below, meth, c, G, ad0, A, n0, Q⟩ := x
  intro ad H locs jl h3 h4 h5 h6
  exact lv_lstore C.1 C.2.1 hd h4 (by rw [C.2.2.1]; exact hn) rfl (fun jl' hl' => kk ad H locs jl' h3 (mm_st2_has hl') (mm_st2_ok h5 (mm_ok_hd h6)) (mm_ok_tl h6))
theorem mm_astore_n {k : Fin 4} {o : Nat} (C : mm_OK d cs ss cc own nL ret x) (hd : decode cc pc = .ok (.astore_n k, 1)) (hn : (k : Nat) < nL) (kk : mm_W x a b (pc + 1) (mm_st ls (k : Nat) (mR o)) st h) : mm_W x a b pc ls (mR o :: st) h := by
  obtain ⟨p, l, e, R, s, m, args, below, meth, c, G, ad0, A, n0, Q⟩ := x
  intro ad H locs jl h3 h4 h5 h6
  exact lv_astore_n C.1 C.2.1 hd rfl h4 (by rw [C.2.2.1]; exact hn) rfl (fun jl' hl' => kk ad H locs jl' h3 (mm_st_has hl') (mm_st_ok h5 (mm_ok_hd h6)) (mm_ok_tl h6))
theorem mm_iinc {i : Nat} {n z : Int} (C : mm_OK d cs ss cc own nL ret x) (hd : decode cc pc = .ok (.iinc i n, 3)) (hl : ls[i]? = some (mI z)) (hn : i < nL) (hr : mm_i32 (z + n)) (kk : mm_W x a b (pc + 3) (mm_st ls i (mI (z + n))) st h) : mm_W x a b pc ls st h := by
  obtain ⟨p, l, e, R, s, m, args, below, meth, c, G, ad0, A, n0, Q⟩ := x
  intro ad H locs jl h3 h4 h5 h6
  have hm : (i, mm_j ad (mI z)) ∈ mm_lv ad 0 ls := (mm_lv_mem ls 0 _).mpr ⟨i, mI z, hl, (show (0 : Nat) < 4 by decide), by rw [Nat.zero_add]⟩
  obtain ⟨k, hk⟩ := List.mem_iff_getElem?.mp hm
  exact lv_iinc C.1 C.2.1 (v := Int32.ofInt (z + n)) hd h4 hk (by rw [Int32.ofInt_add]) (by rw [C.2.2.1]; exact hn) rfl (fun jl' hl' => kk ad H locs jl' h3 (mm_st_has hl') (mm_st_ok h5 hr) h6)
theorem mm_iadd {u v : Int} (C : mm_OK d cs ss cc own nL ret x) (hd : decode cc pc = .ok (.iadd, 1)) (hr : mm_i32 (u + v)) (kk : mm_W x a b (pc + 1) ls (mI (u + v) :: st) h) : mm_W x a b pc ls (mI v :: mI u :: st) h := by
  obtain ⟨p, l, e, R, s, m, args, below, meth, c, G, ad0, A, n0, Q⟩ := x
  intro ad H locs jl h3 h4 h5 h6
  refine lv_iadd C.1 C.2.1 hd ?_
  rw [← Int32.ofInt_add]
  exact kk ad H locs jl h3 h4 h5 (mm_ok_cons hr (mm_ok_tl (mm_ok_tl h6)))
theorem mm_isub {u v : Int} (C : mm_OK d cs ss cc own nL ret x) (hd : decode cc pc = .ok (.isub, 1)) (hr : mm_i32 (u - v)) (kk : mm_W x a b (pc + 1) ls (mI (u - v) :: st) h) : mm_W x a b pc ls (mI v :: mI u :: st) h := by
  obtain ⟨p, l, e, R, s, m, args, below, meth, c, G, ad0, A, n0, Q⟩ := x
  intro ad H locs jl h3 h4 h5 h6
  refine lv_isub C.1 C.2.1 hd ?_
  rw [← Int32.ofInt_sub]
  exact kk ad H locs jl h3 h4 h5 (mm_ok_cons hr (mm_ok_tl (mm_ok_tl h6)))
theorem mm_imul {u v : Int} (C : mm_OK d cs ss cc own nL ret x) (hd : decode cc pc = .ok (.imul, 1)) (hr : mm_i32 (u * v)) (kk : mm_W x a b (pc + 1) ls (mI (u * v) :: st) h) : mm_W x a b pc ls (mI v :: mI u :: st) h := by
  obtain ⟨p, l, e, R, s, m, args, below, meth, c, G, ad0, A, n0, Q⟩ := x
  intro ad H locs jl h3 h4 h5 h6
  refine lv_imul C.1 C.2.1 hd ?_
  rw [← Int32.ofInt_mul]
  exact kk ad H locs jl h3 h4 h5 (mm_ok_cons hr (mm_ok_tl (mm_ok_tl h6)))
/-- wrap-around -/
def mm_w (z : Int) : Int := z.bmod 4294967296
theorem mm_w_rg (z : Int) : mm_i32 (mm_w z) := by
  unfold mm_w mm_i32
  have h1 := Int.le_bmod (x := z) (m := 4294967296) (by decide)
  have h2 := Int.bmod_lt (x := z) (m := 4294967296) (by decide)
  exact ⟨by omega, by omega⟩
theorem mm_w_id {z : Int} (hz : mm_i32 z) : mm_w z = z := fb_bmod hz.1 hz.2
theorem mm_w_of (z : Int) : Int32.ofInt (mm_w z) = Int32.ofInt z := by
  apply Int32.toInt_inj.mp
  rw [Int32.toInt_ofInt, Int32.toInt_ofInt]
  show (z.bmod 4294967296).bmod 4294967296 = z.bmod 4294967296
  exact Int.bmod_bmod
theorem mm_iaddw {u v : Int} (C : mm_OK d cs ss cc own nL ret x) (hd : decode cc pc = .ok (.iadd, 1)) (kk : mm_W x a b (pc + 1) ls (mI (mm_w (u + v)) :: st) h) : mm_W x a b pc ls (mI v :: mI u :: st) h := by
  obtain ⟨p, l, e, R, s, m, args, below, meth, c, G, ad0, A, n0, Q⟩ := x
  intro ad H locs jl h3 h4 h5 h6
  refine lv_iadd C.1 C.2.1 hd ?_
  rw [← Int32.ofInt_add, ← mm_w_of]
  exact kk ad H locs jl h3 h4 h5 (mm_ok_cons (mm_w_rg _) (mm_ok_tl (mm_ok_tl h6)))
theorem mm_isubw {u v : Int} (C : mm_OK d cs ss cc own nL ret x) (hd : decode cc pc = .ok (.isub, 1)) (kk : mm_W x a b (pc + 1) ls (mI (mm_w (u - v)) :: st) h) : mm_W x a b pc ls (mI v :: mI u :: st) h := by
  obtain ⟨p, l, e, R, s, m, args, below, meth, c, G, ad0, A, n0, Q⟩ := x
  intro ad H locs jl h3 h4 h5 h6
  refine lv_isub C.1 C.2.1 hd ?_
  rw [← Int32.ofInt_sub, ← mm_w_of]
  exact kk ad H locs jl h3 h4 h5 (mm_ok_cons (mm_w_rg _) (mm_ok_tl (mm_ok_tl h6)))
theorem mm_imulw {u v : Int} (C : mm_OK d cs ss cc own nL ret x) (hd : decode cc pc = .ok (.imul, 1)) (kk : mm_W x a b (pc + 1) ls (mI (mm_w (u * v)) :: st) h) : mm_W x a b pc ls (mI v :: mI u :: st) h := by
  obtain ⟨p, l, e, R, s, m, args, below, meth, c, G, ad0, A, n0, Q⟩ := x
  intro ad H locs jl h3 h4 h5 h6
  refine lv_imul C.1 C.2.1 hd ?_
  rw [← Int32.ofInt_mul, ← mm_w_of]
  exact kk ad H locs jl h3 h4 h5 (mm_ok_cons (mm_w_rg _) (mm_ok_tl (mm_ok_tl h6)))
theorem mm_iincw {i : Nat} {n z : Int} (C : mm_OK d cs ss cc own nL ret x) (hd : decode cc pc = .ok (.iinc i n, 3)) (hl : ls[i]? = some (mI z)) (hn : i < nL) (kk : mm_W x a b (pc + 3) (mm_st ls i (mI (mm_w (z + n)))) st h) : mm_W x a b pc ls st h := by
  obtain ⟨p, l, e, R, s, m, args, below, meth, c, G, ad0, A, n0, Q⟩ := x
  intro ad H locs jl h3 h4 h5 h6
  have hm : (i, mm_j ad (mI z)) ∈ mm_lv ad 0 ls := (mm_lv_mem ls 0 _).mpr ⟨i, mI z, hl, (show (0 : Nat) < 4 by decide), by rw [Nat.zero_add]⟩
  obtain ⟨k, hk⟩ := List.mem_iff_getElem?.mp hm
  exact lv_iinc C.1 C.2.1 (v := Int32.ofInt (mm_w (z + n))) hd h4 hk (by rw [mm_w_of, Int32.ofInt_add]) (by rw [C.2.2.1]; exact hn) rfl (fun jl' hl' => kk ad H locs jl' h3 (mm_st_has hl') (mm_st_ok h5 (mm_w_rg _)) h6)
end MMR
