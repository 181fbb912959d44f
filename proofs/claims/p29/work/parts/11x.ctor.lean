/-! ===== 'throw new E("..")' where E's own constructor calls the next one by another entry than 7 ===== -/
section MMX
def mm_ownW (own : String) (ic : Nat) (X Y : String) (iy : Nat) (by6 : ByteArray) (names : List String) : List Cond :=
  Bundle.throwableAtoms ++ Bundle.throwableSAtoms ++ (Bundle.passSAtoms X Y iy by6 ++ Bundle.chainSAtoms Y names) ++
  [.methodLink own ic (Bundle.initS X), .instantiable X 6, .castable X X, .selects X Bundle.tFill0 Bundle.tFill0, .selects X Bundle.tFill Bundle.tFill,
   .lays X Bundle.tN "cause" "Ljava/lang/Throwable;", .lays X Bundle.tN "stackTrace" Bundle.steD, .lays X Bundle.tN "suppressedExceptions" Bundle.listD, .lays X Bundle.tN "detailMessage" "Ljava/lang/String;",
   .isRef (.static Bundle.tN "UNASSIGNED_STACK" Bundle.steD), .isRef (.static Bundle.tN "SUPPRESSED_SENTINEL" Bundle.listD),
   .fieldLink Bundle.tN 198 Bundle.tN "backtrace" "Ljava/lang/Object;", .lays Bundle.tN Bundle.tN "backtrace" "Ljava/lang/Object;", .lays X Bundle.tN "backtrace" "Ljava/lang/Object;"]
variable {p : Program} {l : Launch} {e : Env} {R : Room} {s : State} {m₀ : MethodId} {args : Array Value} {below : List Frame} {meth : Method} {c : Code} {V : State} {locs : List Loc} {cells slots : Nat}
set_option maxHeartbeats 4000000 in
theorem mm_ctorThrow (X : Stand p l e R s m₀ args below meth c V locs cells slots) (hexec : p.tables.exec = Jvm.exec) (htr : e.platform.stackTraces = false) {own cls Y : String} {names : List String} {ic iy : Nat} {by6 : ByteArray}
    (hown : s.vm.findClass own = some m₀.cls) (hcls : Bundle.fit cls = true) (hY : Bundle.fit Y = true) (hnames : ∀ n ∈ names, Bundle.fit n = true)
    (q0 : decode by6 0 = .ok (.aload_n 0, 1)) (q1 : decode by6 1 = .ok (.aload_n 1, 1)) (q2 : decode by6 2 = .ok (.invokespecial iy, 3)) (q5 : decode by6 5 = .ok (.return_, 1))
    (h : ∀ a ∈ mm_ownW own ic cls Y iy by6 names, a.before args s = true)
    (hlocs : ∀ x ∈ locs, ∀ cell, s.heap[x.base]? = some cell → cell.vm.isStatics = false)
    {a : Addr} {cX : ClassId} {kX : Class} (hfoundX : s.vm.findClass cls = some cX) (hkX : s.vm.classes[cX]? = some kX) (hcell : V.heap[a]? = some (freshCell cX kX)) (hnew : s.heap.size ≤ a)
    {msg : Value} (hmsg : msg.isRef = true)
    {g : JFrame} (hg : g.method = m₀) (hsize : g.locals.size = c.maxLocals) (hlocked : g.locked = none) (hentered : g.entered = []) {rest : List Value} (hstack : g.stack = msg :: .ref a :: .ref a :: rest)
    (hd6 : decode c.code g.pc = .ok (.invokespecial ic, 3)) (hd9 : decode c.code (g.pc + 3) = .ok (.athrow, 1)) (hout : ∀ x ∈ c.exceptionTable.toList, covers x (g.pc + 3) = false)
    (hRframes : names.length + 4 < R.frames) (hRlocals : 2 * g.monitorRoom + ((Value.ref a :: rest).map fun v => v.category).sum + (13 * (names.length + 2) + 42) ≤ R.locals) (hlocks : meth.locks = false) :
    ∃ U : State, Steps p.tables e below (V.setTop g) U ∧ U.status = .running ∧ Ended U below (.threw a) ∧ s.WarmedH U.vm ∧ s.sameButNew ({ U with vm := s.vm } : State) locs cells slots ∧
      ∃ ce, U.heap[a]? = some ce ∧ ce.vm = .none ∧ s.vm.findClass cls = some ce.cls := by
  have howns : e.platform.frameOwnsMonitors = true := by rw [X.admits.platform]
  have hfin : e.platform.finalization = false := by rw [X.admits.platform]
  have hpl : e.platform.magicAccessors = ({} : Platform).magicAccessors := by rw [X.admits.platform]
  have a' : ∀ x, x ∈ mm_ownW own ic cls Y iy by6 names → x.holds args s none s [] = true := fun x hx => h x hx
  obtain ⟨T, Z0, L, -, K⟩ := ThrowableC.of_atoms (args := args) howns hfin hpl (fun x hx => h x (by simp [mm_ownW, hx]))
  obtain ⟨Z, M, LZ, LM, hnZ⟩ := Init0T.ofS_atoms (args := args) hpl L K (fun x hx => h x (by simp [mm_ownW, hx]))
  obtain ⟨P1, L1, hP1m, hP1s⟩ := PassC.ofS_atoms (args := args) (s := s) hpl (X := cls) (Y := Y) (Bundle.fit_spec hcls).1 (Bundle.fit_spec hY).2 q0 q1 q2 q5 (fun x hx => h x (by simp [mm_ownW, hx]))
  obtain ⟨P2, Ps, hlen, L2, hL, hP2m, hlink2, hlink⟩ := Bundle.chainS (args := args) hpl hnZ names Y hY hnames (fun x hx => h x (by simp [mm_ownW, hx]))
  have hlink1 : P1.sup = P2.m := Option.some.inj (hP1s.symm.trans hP2m)
  have hfound : s.vm.findClass cls = some P1.m.cls := findClass_of_methodNamed hP1m
  cases Option.some.inj (hfoundX.symm.trans hfound)
  obtain ⟨c1, kX', hc1, hk, hord, -, -, hn6⟩ := Cond.instantiable_spec (a' (.instantiable cls 6) (by simp [mm_ownW]))
  cases Option.some.inj (hc1.symm.trans hfound)
  cases Option.some.inj (hkX.symm.trans hk)
  have hsel : ∀ (y : MethodName) (k : MethodId), s.methodNamed? y = some k → (y.cls ≠ "java/lang/invoke/MethodHandle" ∧ y.cls ≠ "java/lang/invoke/VarHandle") → (Cond.selects cls y y).before args s = true → selectMethod e.platform s.vm P1.m.cls k = .method k := by
    intro y k hy hne hs
    obtain ⟨c2, r2, m2, z1, z2, z3, z4, -⟩ := Cond.selects_spec hs
    cases Option.some.inj (z1.symm.trans hfound)
    cases Option.some.inj (z2.symm.trans (State.methodFound?_of_named hy hne))
    cases Option.some.inj (z3.symm.trans hy)
    rw [Launch.admits_selectMethod X.admits]; exact z4
  have hsel0 := hsel _ _ K.fill0 (by decide) (h _ (by simp [mm_ownW]))
  have hselF := hsel _ _ K.fill (by decide) (h _ (by simp [mm_ownW]))
  obtain ⟨cellS0, hcS0, hiss⟩ := K.statics
  obtain ⟨u0, hu0⟩ := Cond.staticRefV K.unassigned L.unassignedStatic L.statics hcS0 hiss (a' (.isRef (.static Bundle.tN "UNASSIGNED_STACK" Bundle.steD)) (by simp [mm_ownW]))
  obtain ⟨sen, hsen⟩ := Cond.staticRefV K.sentinel L.sentinelStatic L.statics hcS0 hiss (a' (.isRef (.static Bundle.tN "SUPPRESSED_SENTINEL" Bundle.listD)) (by simp [mm_ownW]))
  obtain ⟨ci198, i198, fB, hk198, hg198, ha198, hsB, -, hnB, htB, hffB⟩ := Cond.ownField (t := .object "java/lang/Object") K.found L.cls (by decide +kernel) (a' (.fieldLink Bundle.tN 198 Bundle.tN "backtrace" "Ljava/lang/Object;") (by simp [mm_ownW])) (a' (.lays Bundle.tN Bundle.tN "backtrace" "Ljava/lang/Object;") (by simp [mm_ownW])) e.platform hpl
  obtain ⟨cellS, hcS', heS, -, hkeep⟩ := X.same.2.2.2.2.2 T.aS cellS0 hcS0
  have hcellS : V.heap[T.aS]? = some cellS := hcS'
  have hout' : ∀ i, (⟨T.aS, i⟩ : Loc) ∉ locs := fun i hmem => by
    have := hlocs _ hmem cellS0 hcS0
    rw [hiss] at this; cases this
  have hknownS : cellS.vm ≠ .unknown := by
    rw [heS]; intro hu
    rw [show cellS0.vm = .unknown from hu] at hiss
    cases hiss
  have hneS : T.aS ≠ a := Nat.ne_of_lt (Nat.lt_of_lt_of_le (Array.getElem?_eq_some_iff.mp hcS0).1 hnew)
  obtain ⟨iM, hffM⟩ := K.msg
  obtain ⟨tyC, dC, hdC, hdnC⟩ := Cond.laysAt hfound hk K.cause (a' (.lays cls Bundle.tN "cause" "Ljava/lang/Throwable;") (by simp [mm_ownW]))
  obtain ⟨tyS, dS, hdS, hdnS⟩ := Cond.laysAt hfound hk K.stack (a' (.lays cls Bundle.tN "stackTrace" Bundle.steD) (by simp [mm_ownW]))
  obtain ⟨tyP, dP, hdP, hdnP⟩ := Cond.laysAt hfound hk K.supp (a' (.lays cls Bundle.tN "suppressedExceptions" Bundle.listD) (by simp [mm_ownW]))
  obtain ⟨tyM, dM, hdM, hdnM⟩ := Cond.laysAt hfound hk hffM (a' (.lays cls Bundle.tN "detailMessage" "Ljava/lang/String;") (by simp [mm_ownW]))
  obtain ⟨tyB, dB, hdB, hdnB⟩ := Cond.laysAt hfound hk hffB (a' (.lays cls Bundle.tN "backtrace" "Ljava/lang/Object;") (by simp [mm_ownW]))
  have bC := Cond.laysApart hdB hdC hdnB hdnC (by rw [hnB, K.causeName]; decide)
  have bS := Cond.laysApart hdB hdS hdnB hdnS (by rw [hnB, K.stackName]; decide)
  have bP := Cond.laysApart hdB hdP hdnB hdnP (by rw [hnB, K.suppName]; decide)
  have hskip : SkipFacts T e.platform s (fun u => u) u0 ((preparedCellV T.toThrowableT (freshCell P1.m.cls kX) a u0 sen).withEntry V.cur) :=
    ⟨{ ci198 := ci198, i198 := i198, fBack := fB }, ⟨hk198, hg198, ha198, hsB⟩, by
      have := fresh_default (c := P1.m.cls) tyB
      rw [htB] at this
      simpa [preparedCellV, Cell.setSlot, Cell.withEntry, Array.getElem?_setIfInBounds, bC, bS, bP, bC.symm, bS.symm, bP.symm, defaultValue] using this, fun _ _ => rfl⟩
  obtain ⟨tm, methC, cdC, kC, vm₁, hnC, -, -, -, -, -, -, -, hW₁, st1⟩ := Steps.initColdS (tb := p.tables) (e := e) (below := below) (s := s) (U := V) X.here hexec X.warmed hpl hown (t := Bundle.initS cls) rfl rfl (Bundle.fit_spec hcls).2
    (a' (.methodLink own ic (Bundle.initS cls)) (by simp [mm_ownW])) (h (.instanceMethod (Bundle.initS cls)) (by simp [mm_ownW, Bundle.passSAtoms])) (bytes := by6) (maxL := 2) (h (.code (Bundle.initS cls) by6 2 none) (by simp [mm_ownW, Bundle.passSAtoms]))
    (f := g) hg (a := a) (msg := msg) (rest := .ref a :: rest) hstack hd6
  cases Option.some.inj (hnC.symm.trans hP1m)
  have X₁ := X.noted hW₁
  obtain ⟨vm₂, X₂, st2⟩ := X₁.ctorMessageOffV hexec (g := { g with stack := .ref a :: rest }) hg hsize T L Z LZ M LM (P1 :: P2 :: Ps)
    (fun P hP => by
      rcases List.mem_cons.mp hP with rfl | hP
      · exact L1
      · rcases List.mem_cons.mp hP with rfl | hP
        · exact L2
        · exact hL P hP) ⟨hlink1, hlink2, hlink⟩ (u0 := u0) (sen := sen) (self := a) hmsg (cell := freshCell P1.m.cls kX) (cellS := cellS)
    hcell (fun _ => by simp) (by simp) rfl rfl hsel0 hselF hcellS hneS hknownS (by rw [hkeep _ (hout' _)]; exact hu0) (by rw [hkeep _ (hout' _)]; exact hsen)
    (Takes.of_laid hk hord tyC (by rw [K.causeType]; rfl)) (Takes.of_laid hk hord tyS (by rw [K.stackType]; exact fits_refV_array _ u0)) (Takes.of_laid hk hord tyP (by rw [K.suppType]; exact fits_refV_object _ sen))
    (Takes.of_laid hk hord tyM (by rw [K.msgType]; exact fits_refV_object _ ⟨msg, hmsg⟩)) K.objLocals hskip htr [] hd6
    (by simp only [List.length_cons, hlen]; omega) (by simp only [List.length_cons, hlen]; exact hRlocals)
  obtain ⟨hwalk, hrun, hended, hWU, hsame⟩ := X₂.athrowLeaves hexec (g := { g with stack := .ref a :: rest, pc := g.pc + 3 }) hg hlocked hentered hout (a := a) (rest := rest) rfl hd9
  have hlt : a < ((V.setVm vm₁).setVm vm₂).heap.size := (Array.getElem?_eq_some_iff.mp hcell).1
  have hU := heapAt_setCell_self (s := (V.setVm vm₁).setVm vm₂) (plainBareV T.toThrowableT (freshCell P1.m.cls kX) a u0 sen msg) hlt
  refine ⟨_, st1 _ (fun acts => ?_), hrun, hended, hWU, hsame.weaken (fun y hy hlt' => ?_) (Nat.le_refl _) (Nat.le_refl _), _, hU, rfl, hfound⟩
  · rw [doInvoke_state]
    exact st2 _ hwalk
  · rcases List.mem_append.mp hy with h1 | h1
    · exact h1
    · exfalso
      have hb : y.base = a := by
        simp only [List.mem_cons, List.not_mem_nil, or_false] at h1
        rcases h1 with rfl | rfl | rfl | rfl | rfl <;> rfl
      rw [hb] at hlt'
      exact Nat.not_lt.mpr hnew hlt'
end MMX
def mm_TX (own : String) (ik ic : Nat) (cls Y : String) (iy : Nat) (by6 : ByteArray) (names : List String) : Prop := Bundle.fit cls = true ∧ Bundle.fit Y = true ∧ (∀ n ∈ names, Bundle.fit n = true) ∧ Cond.classLink own ik cls ∈ mm_T ∧ Cond.initialized cls ∈ mm_T ∧ (∀ w ∈ (mm_ownW own ic cls Y iy by6 names).filter vx_no, w ∈ mm_T ∨ (∃ q ∈ mm_cast, w = .castable q.1 q.2) ∨ ∃ q ∈ mm_decl, w = .declares q) ∧ (∀ w ∈ Cond.classLink own ik cls :: Cond.initialized cls :: (mm_ownW own ic cls Y iy by6 names).filter vx_no, vx_ot w = true) ∧ (decode by6 0 = .ok (.aload_n 0, 1) ∧ decode by6 1 = .ok (.aload_n 1, 1) ∧ decode by6 2 = .ok (.invokespecial iy, 3) ∧ decode by6 5 = .ok (.return_, 1)) ∧ names.length ≤ 2
section MMY
variable {x : mX} {d cs ss : Nat} {cc : ByteArray} {own : String} {nL : Nat} {ret : Option FieldType} {a b pc : Nat} {ls st : List mV} {h : mH} {post : Option mV → mH → Prop} {xp : String → mH → Prop} {mc ms : Nat}
set_option maxHeartbeats 4000000 in
theorem mm_throwX {ik is ic iy i : Nat} {cls Y text : String} {by6 : ByteArray} {names : List String} (C : mm_OK (d + 8) cs ss cc own nL ret x) (T : mm_RT post xp mc ms x) (ht : mm_tb x = []) (K : mm_TX own ik ic cls Y iy by6 names) (hstr : mm_str[i]? = some (own, is, text))
    (d0 : decode cc pc = .ok (.new ik, 3)) (d3 : decode cc (pc + 3) = .ok (.dup, 1)) (d4 : decode cc (pc + 4) = .ok (.ldc is, 2)) (d6 : decode cc (pc + 6) = .ok (.invokespecial ic, 3)) (d9 : decode cc (pc + 9) = .ok (.athrow, 1))
    (hcat : mm_cats st ≤ 8) (ha : a + 1 ≤ mc ∧ a + 1 ≤ cs) (hb : b + 6 ≤ ms ∧ b + 6 ≤ ss) (hp : xp cls h) : mm_W x a b pc ls st h := by
  obtain ⟨p, l, e, R, s, m, args, below, meth, c, G, ad0, A, n0, Q⟩ := x
  intro ad H locs jl h3 h4 h5 h6
  obtain ⟨c1, c2, c3, c4, c5, c6, c7, c8, c9, c10, c11, c12, c13, c14, c15⟩ := C
  obtain ⟨k1, kY, k2, k3, k4, k5, k6, ⟨b0, b1, b2, b5⟩, k7⟩ := K
  have hQ : Q = vx_MQ below (mm_Qc G ad0 A n0 post) (mm_XC G ad0 A n0 xp) args s mc ms A := T
  subst hQ
  have ht' : c.exceptionTable.toList = [] := ht
  have hat : ∀ w ∈ (mm_ownW own ic cls Y iy by6 names).filter vx_no, w.before args s = true := by
    intro w hw
    rcases k5 w hw with q | ⟨q, hq, rfl⟩ | ⟨q, hq, rfl⟩
    · exact c5 w q
    · exact va_Nw.use rfl (c10.2.2.2.2.1 q hq)
    · exact va_Nw.use rfl (c10.2.2.2.2.2.2.2.2.1 q hq)
  have hstr := c10.2.2.1 i _ hstr
  generalize ad0 (1000 + i) = sa at hstr
  intro T hT X
  have htr : e.platform.stackTraces = false := (show e.platform.stackTraces = l.stackTraces by rw [X.admits.platform]).trans c9
  have Z := vx_rebase X (R' := { frames := R.frames, locals := R.locals, cells := 1, slots := 6 }) (Nat.le_refl _) (Nat.le_refl _) (show a + 1 ≤ R.cells by omega) (show b + 6 ≤ R.slots by omega)
  obtain ⟨s', hA⟩ : ∃ z, z = (T.setVm s.vm).setFrames (.invoking m args :: below) := ⟨_, rfl⟩
  rw [← hA] at Z
  have hvm : s'.vm = s.vm := by rw [hA]; rfl
  have hhp : s'.heap = H := by rw [hA]; exact hT
  have hW0 : s.WarmedH s'.vm := by rw [hvm]; exact State.WarmedH.refl s
  have hat' : ∀ w ∈ (mm_ownW own ic cls Y iy by6 names).filter vx_no, w.before args s' = true := fun w hw => vx_ot_at hW0 hvm.symm (k6 w (List.mem_cons_of_mem _ (List.mem_cons_of_mem _ hw))) (hat w hw)
  have hk' : (Cond.classLink own ik cls).before args s' = true := vx_ot_at hW0 hvm.symm (k6 _ List.mem_cons_self) (c5 _ k3)
  have hini' : (Cond.initialized cls).before args s' = true := vx_ot_at hW0 hvm.symm (k6 _ (List.mem_cons_of_mem _ List.mem_cons_self)) (c5 _ k4)
  have hU' : vx_Zq Bundle.tN "UNASSIGNED_STACK" Bundle.steD A s' s'.heap := by rw [hhp]; exact vx_Zq.moved hW0.alike (c10.1.kept h3.2.2.2.1.2.1)
  have hN' : vx_Zq Bundle.tN "SUPPRESSED_SENTINEL" Bundle.listD A s' s'.heap := by rw [hhp]; exact vx_Zq.moved hW0.alike (c10.2.1.kept h3.2.2.2.1.2.1)
  have hw : ∀ w ∈ mm_ownW own ic cls Y iy by6 names, w.before args s' = true := vx_own hat' (vx_isRefq hU'.1) (vx_isRefq hN'.1) hU'.2.word hN'.2.word
  have hown' : s'.vm.findClass own = some m.cls := by rw [hvm]; exact c4
  have hins : (Cond.instantiable cls 6).before args s' = true := hw _ (by simp [mm_ownW])
  obtain ⟨vm₁, cX, kX, hfX, hkX, -, -, X₁, st1⟩ := Z.newCold c1 (own := own) (C := cls) (index := ik) (n := 6) hown' hk' hins hini'
    (g := F0 m pc jl (st.map (mm_j ad))) rfl (by rw [c2]; exact d0) (Nat.le_refl _) (Nat.le_refl _)
  generalize hT1 : (T.setVm vm₁).pushCell { cls := cX, slots := kX.instanceTypes.map defaultValue, vm := .none } = T1 at X₁ st1
  have hcat1 : (Value.ref T.heap.size).category = 1 := rfl
  have hcellA : T1.heap[T.heap.size]? = some (freshCell cX kX) := by rw [← hT1]; exact State.heap_pushCell_size _ _
  have d3' : decode c.code (pc + 3) = .ok (.dup, 1) := by rw [c2]; exact d3
  have d4' : decode c.code (pc + 4) = .ok (.ldc is, 2) := by rw [c2]; exact d4
  have hstr' : vk_R own is text sa s' := vk_R.warm hW0 hstr
  obtain ⟨U, hsteps, hrun, hend, hW, hsame, ce, hce, hcv, hcc⟩ := mm_ctorThrow X₁ c1 htr (own := own) (cls := cls) (Y := Y) (names := names) (ic := ic) hown' k1 kY k2 b0 b1 b2 b5 hw (fun x hx => nomatch hx) hfX hkX hcellA (by rw [hhp, hT]; exact Nat.le_refl _) (msg := .ref sa) rfl
    (g := { method := m, pc := pc + 6, locals := jl, stack := .ref sa :: .ref T.heap.size :: .ref T.heap.size :: st.map (mm_j ad), locked := none }) rfl h4.1 rfl rfl (rest := st.map (mm_j ad)) rfl
    (by rw [c2]; exact d6) (by rw [c2]; exact d9) (fun z hz => by rw [ht'] at hz; cases hz) (by show names.length + 4 < R.frames; omega) (by
      show 2 * 0 + ((Value.ref T.heap.size :: st.map (mm_j ad)).map fun v => v.category).sum + (13 * (names.length + 2) + 42) ≤ R.locals
      rw [List.map_cons, List.sum_cons, hcat1, mm_cats_j]
      omega) c8
  obtain ⟨f1, f2⟩ := vx_frame hsame
  rw [hhp] at f1 f2
  have hWs : s.WarmedH U.vm := State.WarmedH.trans hW0 hW
  have hcl : s.vm.findClass cls = some ce.cls := by rw [hvm] at hcc; exact hcc
  have hall : s.sameButNew ({ U with vm := s.vm } : State) locs mc ms := by
    subst hA
    obtain ⟨e1, e2⟩ := hsame
    rw [State.setFrames_setFrames] at e1
    have h2 : (T.setVm s.vm).sameButNew ({ U with vm := s.vm } : State) [] (0 + 1) (0 + 6) := ⟨e1, e2⟩
    have h3 := X.same.trans h2
    rw [List.append_nil] at h3
    exact h3.mono ha.1 hb.1
  refine ⟨U, ?_, .threw T.heap.size, hrun, hend, Or.inr ⟨T.heap.size, rfl, cls, ce, locs, ⟨h, ad, hp, mm_thEnd h3 f1 (fun q hq => f2 q hq (fun z hz => nomatch hz))⟩, hce, hcv, hcl, hWs, hall, h3.2.2.2.1.2.2⟩⟩
  refine st1 _ ?_
  show Steps p.tables e below (T1.setTop { method := m, pc := pc + 3, locals := jl, stack := .ref T.heap.size :: st.map (mm_j ad), locked := none }) _
  jvm_step X₁.here [X₁.here.top, c1, d3', Value.category]
  exact X₁.ldcString c1 (own := own) (text := text) (index := is) (a := sa) hown' hstr'.1 hstr'.2
    (g := { method := m, pc := pc + 4, locals := jl, stack := .ref T.heap.size :: .ref T.heap.size :: st.map (mm_j ad), locked := none }) rfl d4' _ hsteps
set_option maxHeartbeats 4000000 in
theorem mm_throwXW {ik is ic iy i : Nat} {cls Y text : String} {by6 : ByteArray} {names : List String} (C : mm_OK (d + 8) cs ss cc own nL ret x) (T : mm_RT post xp mc ms x) (ht : mm_tb x = []) (K : mm_TX own ik ic cls Y iy by6 names) (hstr : mm_str[i]? = some (own, is, text))
    (d0 : decode cc pc = .ok (.new ik, 3)) (d3 : decode cc (pc + 3) = .ok (.dup, 1)) (d4 : decode cc (pc + 4) = .ok (.ldc_w is, 3)) (d6 : decode cc (pc + 7) = .ok (.invokespecial ic, 3)) (d9 : decode cc (pc + 10) = .ok (.athrow, 1))
    (hcat : mm_cats st ≤ 8) (ha : a + 1 ≤ mc ∧ a + 1 ≤ cs) (hb : b + 6 ≤ ms ∧ b + 6 ≤ ss) (hp : xp cls h) : mm_W x a b pc ls st h := by
  obtain ⟨p, l, e, R, s, m, args, below, meth, c, G, ad0, A, n0, Q⟩ := x
  intro ad H locs jl h3 h4 h5 h6
  obtain ⟨c1, c2, c3, c4, c5, c6, c7, c8, c9, c10, c11, c12, c13, c14, c15⟩ := C
  obtain ⟨k1, kY, k2, k3, k4, k5, k6, ⟨b0, b1, b2, b5⟩, k7⟩ := K
  have hQ : Q = vx_MQ below (mm_Qc G ad0 A n0 post) (mm_XC G ad0 A n0 xp) args s mc ms A := T
  subst hQ
  have ht' : c.exceptionTable.toList = [] := ht
  have hat : ∀ w ∈ (mm_ownW own ic cls Y iy by6 names).filter vx_no, w.before args s = true := by
    intro w hw
    rcases k5 w hw with q | ⟨q, hq, rfl⟩ | ⟨q, hq, rfl⟩
    · exact c5 w q
    · exact va_Nw.use rfl (c10.2.2.2.2.1 q hq)
    · exact va_Nw.use rfl (c10.2.2.2.2.2.2.2.2.1 q hq)
  have hstr := c10.2.2.1 i _ hstr
  generalize ad0 (1000 + i) = sa at hstr
  intro T hT X
  have htr : e.platform.stackTraces = false := (show e.platform.stackTraces = l.stackTraces by rw [X.admits.platform]).trans c9
  have Z := vx_rebase X (R' := { frames := R.frames, locals := R.locals, cells := 1, slots := 6 }) (Nat.le_refl _) (Nat.le_refl _) (show a + 1 ≤ R.cells by omega) (show b + 6 ≤ R.slots by omega)
  obtain ⟨s', hA⟩ : ∃ z, z = (T.setVm s.vm).setFrames (.invoking m args :: below) := ⟨_, rfl⟩
  rw [← hA] at Z
  have hvm : s'.vm = s.vm := by rw [hA]; rfl
  have hhp : s'.heap = H := by rw [hA]; exact hT
  have hW0 : s.WarmedH s'.vm := by rw [hvm]; exact State.WarmedH.refl s
  have hat' : ∀ w ∈ (mm_ownW own ic cls Y iy by6 names).filter vx_no, w.before args s' = true := fun w hw => vx_ot_at hW0 hvm.symm (k6 w (List.mem_cons_of_mem _ (List.mem_cons_of_mem _ hw))) (hat w hw)
  have hk' : (Cond.classLink own ik cls).before args s' = true := vx_ot_at hW0 hvm.symm (k6 _ List.mem_cons_self) (c5 _ k3)
  have hini' : (Cond.initialized cls).before args s' = true := vx_ot_at hW0 hvm.symm (k6 _ (List.mem_cons_of_mem _ List.mem_cons_self)) (c5 _ k4)
  have hU' : vx_Zq Bundle.tN "UNASSIGNED_STACK" Bundle.steD A s' s'.heap := by rw [hhp]; exact vx_Zq.moved hW0.alike (c10.1.kept h3.2.2.2.1.2.1)
  have hN' : vx_Zq Bundle.tN "SUPPRESSED_SENTINEL" Bundle.listD A s' s'.heap := by rw [hhp]; exact vx_Zq.moved hW0.alike (c10.2.1.kept h3.2.2.2.1.2.1)
  have hw : ∀ w ∈ mm_ownW own ic cls Y iy by6 names, w.before args s' = true := vx_own hat' (vx_isRefq hU'.1) (vx_isRefq hN'.1) hU'.2.word hN'.2.word
  have hown' : s'.vm.findClass own = some m.cls := by rw [hvm]; exact c4
  have hins : (Cond.instantiable cls 6).before args s' = true := hw _ (by simp [mm_ownW])
  obtain ⟨vm₁, cX, kX, hfX, hkX, -, -, X₁, st1⟩ := Z.newCold c1 (own := own) (C := cls) (index := ik) (n := 6) hown' hk' hins hini'
    (g := F0 m pc jl (st.map (mm_j ad))) rfl (by rw [c2]; exact d0) (Nat.le_refl _) (Nat.le_refl _)
  generalize hT1 : (T.setVm vm₁).pushCell { cls := cX, slots := kX.instanceTypes.map defaultValue, vm := .none } = T1 at X₁ st1
  have hcat1 : (Value.ref T.heap.size).category = 1 := rfl
  have hcellA : T1.heap[T.heap.size]? = some (freshCell cX kX) := by rw [← hT1]; exact State.heap_pushCell_size _ _
  have d3' : decode c.code (pc + 3) = .ok (.dup, 1) := by rw [c2]; exact d3
  have d4' : decode c.code (pc + 4) = .ok (.ldc_w is, 3) := by rw [c2]; exact d4
  have hstr' : vk_R own is text sa s' := vk_R.warm hW0 hstr
  obtain ⟨U, hsteps, hrun, hend, hW, hsame, ce, hce, hcv, hcc⟩ := mm_ctorThrow X₁ c1 htr (own := own) (cls := cls) (Y := Y) (names := names) (ic := ic) hown' k1 kY k2 b0 b1 b2 b5 hw (fun x hx => nomatch hx) hfX hkX hcellA (by rw [hhp, hT]; exact Nat.le_refl _) (msg := .ref sa) rfl
    (g := { method := m, pc := pc + 7, locals := jl, stack := .ref sa :: .ref T.heap.size :: .ref T.heap.size :: st.map (mm_j ad), locked := none }) rfl h4.1 rfl rfl (rest := st.map (mm_j ad)) rfl
    (by rw [c2]; exact d6) (by rw [c2]; exact d9) (fun z hz => by rw [ht'] at hz; cases hz) (by show names.length + 4 < R.frames; omega) (by
      show 2 * 0 + ((Value.ref T.heap.size :: st.map (mm_j ad)).map fun v => v.category).sum + (13 * (names.length + 2) + 42) ≤ R.locals
      rw [List.map_cons, List.sum_cons, hcat1, mm_cats_j]
      omega) c8
  obtain ⟨f1, f2⟩ := vx_frame hsame
  rw [hhp] at f1 f2
  have hWs : s.WarmedH U.vm := State.WarmedH.trans hW0 hW
  have hcl : s.vm.findClass cls = some ce.cls := by rw [hvm] at hcc; exact hcc
  have hall : s.sameButNew ({ U with vm := s.vm } : State) locs mc ms := by
    subst hA
    obtain ⟨e1, e2⟩ := hsame
    rw [State.setFrames_setFrames] at e1
    have h2 : (T.setVm s.vm).sameButNew ({ U with vm := s.vm } : State) [] (0 + 1) (0 + 6) := ⟨e1, e2⟩
    have h3 := X.same.trans h2
    rw [List.append_nil] at h3
    exact h3.mono ha.1 hb.1
  refine ⟨U, ?_, .threw T.heap.size, hrun, hend, Or.inr ⟨T.heap.size, rfl, cls, ce, locs, ⟨h, ad, hp, mm_thEnd h3 f1 (fun q hq => f2 q hq (fun z hz => nomatch hz))⟩, hce, hcv, hcl, hWs, hall, h3.2.2.2.1.2.2⟩⟩
  refine st1 _ ?_
  show Steps p.tables e below (T1.setTop { method := m, pc := pc + 3, locals := jl, stack := .ref T.heap.size :: st.map (mm_j ad), locked := none }) _
  jvm_step X₁.here [X₁.here.top, c1, d3', Value.category]
  exact X₁.ldcStringW c1 (own := own) (text := text) (index := is) (a := sa) hown' hstr'.1 hstr'.2
    (g := { method := m, pc := pc + 4, locals := jl, stack := .ref T.heap.size :: .ref T.heap.size :: st.map (mm_j ad), locked := none }) rfl d4' _ hsteps
end MMY
