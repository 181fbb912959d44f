/-! ===== calls ===== -/
theorem mm_j_agree {ad ad' : Nat → Nat} {h : mH} {v : mV} (hv : mm_okv h v) (ha : ∀ o, (o < h.2.2 ∨ 1000 ≤ o) → ad' o = ad o) : mm_j ad' v = mm_j ad v := by
  obtain ⟨t, z⟩ := v
  match t with
  | 0 => rfl
  | 1 => rfl
  | 2 =>
    show Value.ref (ad' z.toNat) = .ref (ad z.toNat)
    rw [ha _ hv]
  | n + 3 => rfl
theorem mm_lv_agree {ad ad' : Nat → Nat} {h : mH} (ha : ∀ o, (o < h.2.2 ∨ 1000 ≤ o) → ad' o = ad o) : ∀ (ls : List mV) (i : Nat), mm_okl h ls → mm_lv ad' i ls = mm_lv ad i ls := by
  intro ls
  induction ls with
  | nil => intro i _; rfl
  | cons v r ih =>
    intro i hl
    unfold mm_lv
    rw [mm_j_agree (mm_ok_hd hl) ha, ih (i + 1) (mm_ok_tl hl)]
theorem mm_map_agree {ad ad' : Nat → Nat} {h : mH} (ha : ∀ o, (o < h.2.2 ∨ 1000 ≤ o) → ad' o = ad o) {ls : List mV} (hl : mm_okl h ls) : ls.map (mm_j ad') = ls.map (mm_j ad) :=
  List.map_congr_left (fun v hv => mm_j_agree (hl v hv) ha)
theorem mm_blind {G : mG} {ad0 : Nat → Nat} {h : mH} {sz : Nat} {As : List mV} : FrameBlind (mm_Pc G ad0 h sz As) := by
  intro a U g mk ⟨h1, h2, h3, h4, h5, h6, h7, h8⟩
  exact ⟨h1, h2, h3, h4, h5, va_K.moved (u := U) (Vm.Alike.refl U.vm) h6, h7.blind g mk a, h8⟩
/-- the callee's start, where the caller stands -/
theorem mm_pre {G : mG} {ad0 ad : Nat → Nat} {A : Nat → Prop} {n0 : Nat} {s U : State} {h : mH} {H : Heap} {locs : List Loc} {As : List mV} (hK : va_K (G.1, G.2.1) vwCl (mm_tys G) s) (hZ : mm_Z A ad0 s s.heap) (hA : ∀ q, s.heap.size ≤ q → A q) (h3 : mm_at G ad0 A n0 s h ad H locs) (hok : mm_okl h As) (hU : U.heap = H) (hW : s.WarmedH U.vm) : mm_Pc G ad h H.size As (As.map (mm_j ad)).toArray U := by
  obtain ⟨g1, g2, g3, g4, g5, g6⟩ := h3
  refine ⟨rfl, by rw [hU], by rw [hU]; exact g1, g2.weaken (fun _ _ _ _ => trivial), g3, va_K.moved hW.alike hK, ?_, hok⟩
  rw [hU]
  refine hZ.call g4 hW (fun q hq => ?_) (fun o ho => g5 o (Or.inr ho))
  rcases hq with ⟨k, e, hk⟩ | hq
  · exact g2.2 k (q, e) hk
  · exact hA q (Nat.le_trans g4.1 hq)
theorem mm_sub {G : mG} {ad0 ad : Nat → Nat} {A : Nat → Prop} {n0 : Nat} {s : State} {h : mH} {H : Heap} {locs : List Loc} (hA : ∀ q, s.heap.size ≤ q → A q) (h3 : mm_at G ad0 A n0 s h ad H locs) : ∀ q, va_A (mm_ws G ad h) H.size q → A q := by
  intro q hq
  rcases hq with ⟨k, e, hk⟩ | hq
  · exact h3.2.1.2 k (q, e) hk
  · exact hA q (Nat.le_trans h3.2.2.2.1.1 hq)
/-- behind a call: the caller's view of the callee's end -/
theorem mm_back {G : mG} {ad0 ad ad' : Nat → Nat} {A : Nat → Prop} {n0 : Nat} {s st₀ t T' : State} {h h' : mH} {H : Heap} {locs L : List Loc} (hA : ∀ q, s.heap.size ≤ q → A q) (h3 : mm_at G ad0 A n0 s h ad H locs) (h0 : st₀.heap = H) (e1 : T'.heap = t.heap) (hL : ∀ q ∈ L, va_A (mm_ws G ad h) H.size q.base) (hE : mm_end G ad (va_A (mm_ws G ad h) H.size) h.2.2 h' ad' st₀ t) : mm_at G ad0 A n0 s h' ad' T'.heap (locs ++ L) := by
  obtain ⟨k1, k2, k3, k4, k5, k6⟩ := hE
  have hs := mm_sub hA h3
  obtain ⟨-, -, hS⟩ := vx_keep h0 e1 h3.2.2.2.1 (fun q _ hq => hs q hq) hs hL k6
  exact ⟨by rw [e1]; exact k1, k2.weaken (fun _ _ _ hq => hs _ hq), k3, hS, fun o ho => by
    rw [k4 o (ho.elim (fun z => Or.inl (Nat.lt_of_lt_of_le z h3.2.2.2.2.2)) Or.inr)]
    exact h3.2.2.2.2.1 o ho, Nat.le_trans h3.2.2.2.2.2 k5⟩
def mm_run (x : mX) (a b mc ms pc : Nat) (ls stk rest : List mV) (h : mH) (post : Option mV → mH → Prop) (xp : String → mH → Prop) (Aa : (Nat → Nat) → Array Value) : Prop := match x with
  | (p, l, e, R, s, m, args, below, meth, c, G, ad0, A, n0, Q) => ∀ (ad : Nat → Nat) (H : Heap) (locs : List Loc) (jl : Array Slot), mm_at G ad0 A n0 s h ad H locs → lv_has jl c.maxLocals (mm_lv ad 0 ls) → mm_okl h ls → mm_okl h stk →
      vx_Run p l e R s m args below meth c H locs a b mc ms (F0 m pc jl (stk.map (mm_j ad))) (rest.map (mm_j ad)) (mm_Qc G ad (va_A (mm_ws G ad h) H.size) h.2.2 post (Aa ad)) (mm_XC G ad (va_A (mm_ws G ad h) H.size) h.2.2 xp) (va_A (mm_ws G ad h) H.size)
section MMC
variable {x : mX} {d cs ss : Nat} {cc : ByteArray} {own : String} {nL : Nat} {ret : Option FieldType} {a b pc : Nat} {ls st : List mV} {h : mH} {post : Option mV → mH → Prop} {xp : String → mH → Prop} {mc ms : Nat}
set_option maxHeartbeats 4000000 in
theorem mm_after {stk rest : List mV} {Aa : (Nat → Nat) → Array Value} (C : mm_OK d cs ss cc own nL ret x) (hrest : ∀ v ∈ rest, v ∈ stk) (hr : mm_run x a b mc ms pc ls stk rest h post xp Aa)
    (kr : ∀ (v : Option mV) (h' : mH), post v h' → mm_W x (a + mc) (b + ms) (pc + 3) ls (v.toList ++ rest) h') (kx : ∀ (E : String) (h' : mH), xp E h' → mm_Wx x (a + mc) (b + ms) pc ls E h') : mm_W x a b pc ls stk h := by
  obtain ⟨p, l, e, R, s, m, args, below, meth, c, G, ad0, A, n0, Q⟩ := x
  intro ad H locs jl h3 h4 h5 h6
  have hok : mm_okl h rest := fun v hv => h6 v (hrest v hv)
  have hA : ∀ q, s.heap.size ≤ q → A q := C.2.2.2.2.2.2.1
  intro T hT X
  rcases hr ad H locs jl h3 h4 h5 h6 T hT X with ⟨v, st₀, t, T', L, h0, X', hL, e1, e2, ⟨v', h', ad', hv, hp, hvo, hE⟩, go⟩ | ⟨q, st₀, t, T', L, E, ce, h0, X', hL, e1, e2, ⟨h', ad', hp, hE⟩, hce, hcv, hcl, go⟩
  · have hv' : v = v'.map (mm_j ad') := by cases hv; rfl
    have hat := mm_back hA h3 h0 e1 hL hE
    have hn : h.2.2 ≤ h'.2.2 := hE.2.2.2.2.1
    have hag : ∀ o, (o < h.2.2 ∨ 1000 ≤ o) → ad' o = ad o := hE.2.2.2.1
    obtain ⟨t2, a1, b1⟩ := kr v' h' hp ad' T'.heap (locs ++ L) jl hat (by rw [mm_lv_agree hag ls 0 h5]; exact h4) (mm_ok_mono hn h5) (fun w hw => by
      rcases List.mem_append.mp hw with z | z
      · exact hvo w z
      · exact mm_ok_mono hn hok w z) T' rfl X'
    refine ⟨t2, go t2 ?_, b1⟩
    have e3 : (v'.toList ++ rest).map (mm_j ad') = v.toList ++ rest.map (mm_j ad) := by
      rw [List.map_append, mm_map_agree hag hok, hv']
      cases v' <;> rfl
    rw [e3] at a1
    exact a1
  · have hat := mm_back hA h3 h0 e1 hL hE
    have hn : h.2.2 ≤ h'.2.2 := hE.2.2.2.2.1
    have hag : ∀ o, (o < h.2.2 ∨ 1000 ≤ o) → ad' o = ad o := hE.2.2.2.1
    obtain ⟨t2, a1, b1⟩ := kx E h' hp ad' T'.heap (locs ++ L) jl q ce (rest.map (mm_j ad)) hat (by rw [mm_lv_agree hag ls 0 h5]; exact h4) (mm_ok_mono hn h5) (by rw [e1]; exact hce) hcv hcl T' rfl X'
    exact ⟨t2, go.trans a1, b1⟩
/-- a method by its words: its code, that its class is there, how many parameters -/
def mm_MW (y : MethodName) (bytes : ByteArray) (maxL : Nat) (ret : Option FieldType) (n : Nat) : Prop :=
  Cond.code y bytes maxL ret ∈ mm_T ∧ Cond.initialized y.cls ∈ mm_T ∧ (y.cls ≠ "java/lang/invoke/MethodHandle" ∧ y.cls ≠ "java/lang/invoke/VarHandle" ∧ (parseMethodDescriptor y.desc).map (fun d => d.parameters.length) = some n) ∧ maxL ≤ 45
theorem mm_T_good {y : MethodName} {bytes : ByteArray} {maxL : Nat} {ret : Option FieldType} (h : Cond.code y bytes maxL ret ∈ mm_T) : GoodIn mm_T (Cond.code y bytes maxL ret :: mm_T) := by
  intro w hw
  have hm : w ∈ mm_T := (List.mem_cons.mp hw).elim (fun e => by rw [e]; exact h) id
  exact ⟨hm, good_of_word (List.mem_filter.mp hm).2⟩
theorem mm_callB {R : Room} {s : State} {args : Array Value} {own : String} {index n d maxL mc ms : Nat} {y : MethodName} {bytes : ByteArray} {ret : Option FieldType} (hts : ∀ w ∈ mm_T, w.before args s = true) (M : mm_MW y bytes maxL ret n) (hl : Cond.methodLink own index y ∈ mm_T) (hR : d + 1 ≤ R.frames ∧ 64 * (d + 1) ≤ R.locals) : CallB R s args own index y bytes maxL ret (Cond.code y bytes maxL ret :: mm_T) (mm_rm d mc ms) mc ms n :=
  callB_of n hts (mm_T_good M.1) rfl rfl rfl (hts _ M.2.1) (hts _ hl) M.2.2.1 ⟨hR.1, by have := M.2.2.2; show 8 + (maxL + 11) + 64 * d ≤ R.locals; omega⟩
theorem mm_callN {R : Room} {s : State} {args : Array Value} {own host : String} {index n d maxL mc ms : Nat} {y : MethodName} {bytes : ByteArray} {ret : Option FieldType} (hts : ∀ w ∈ mm_T, w.before args s = true) (M : mm_MW y bytes maxL ret n) (hl : va_Nw (.methodLinkNest own index y host) s) (hR : d + 1 ≤ R.frames ∧ 64 * (d + 1) ≤ R.locals) : va_CN R s args own index y host bytes maxL ret (Cond.code y bytes maxL ret :: mm_T) (mm_rm d mc ms) mc ms n :=
  va_cnB n hts (mm_T_good M.1) rfl rfl rfl hl (hts _ M.2.1) M.2.2.1 ⟨hR.1, by have := M.2.2.2; show 8 + (maxL + 11) + 64 * d ≤ R.locals; omega⟩
/-- the words of the values below the arguments -/
def mm_cats (l : List mV) : Nat := (l.map fun v => if v.1 = 1 then 2 else 1).sum
theorem mm_cats_j (ad : Nat → Nat) (l : List mV) : ((l.map (mm_j ad)).map fun v => v.category).sum = mm_cats l := by
  unfold mm_cats
  rw [List.map_map]
  congr 1
  apply List.map_congr_left
  intro v _
  show (mm_j ad v).category = _
  by_cases hv : v.1 = 1
  · rw [if_pos hv]; exact (mm_j_cat ad v).mpr hv
  · rw [if_neg hv]; exact mm_cat1 hv
set_option maxHeartbeats 4000000 in
theorem mm_callV {index n o ci maxL : Nat} {y : MethodName} {bytes : ByteArray} {rt : Option FieldType} {As rest : List mV} {fks : List Nat} {CN : String} {T : u_T} {N : Nat} {ty0 : Nat → FieldType} (C : mm_OK (d + 1) cs ss cc own nL ret x) (M : mm_MW y bytes maxL rt n) (L : mm_CL ci CN T N ty0) (hC : y.cls = CN) (hw : Cond.methodLink own index y ∈ mm_T) (hi : Cond.instanceMethod y ∈ mm_T) (hse : Cond.selects y.cls y y ∈ mm_T)
    (hM : mm_Met x.2.1 d y bytes maxL rt (mR o :: As) h post xp mc ms) (hd : decode cc pc = .ok (.invokevirtual index, 3)) (hs : mm_sh o = (0, ci, fks)) (hn : As.length = n) (hcat : mm_cats rest ≤ 8) (hf : a + mc ≤ cs ∧ b + ms ≤ ss) {stk : List mV} (hstk : stk = As.reverse ++ mR o :: rest)
    (kr : ∀ (v : Option mV) (h' : mH), post v h' → mm_W x (a + mc) (b + ms) (pc + 3) ls (v.toList ++ rest) h') (kx : ∀ (E : String) (h' : mH), xp E h' → mm_Wx x (a + mc) (b + ms) pc ls E h') : mm_W x a b pc ls stk h := by
  refine mm_after C (rest := rest) (Aa := fun ad => ((mR o :: As).map (mm_j ad)).toArray) (fun v hv => by rw [hstk]; exact List.mem_append_right _ (List.mem_cons_of_mem _ hv)) ?_ kr kx
  obtain ⟨p, l, e, R, s, m, args, below, meth, c, G, ad0, A, n0, Q⟩ := x
  intro ad H locs jl h3 h4 h5 h6
  obtain ⟨c1, c2, c3, c4, c5, c6, c7, c8, c9, c10, c11, c12, c13, c14, c15⟩ := C
  have hoko : mm_okv h (mR o) := h6 _ (by rw [hstk]; exact List.mem_append_right _ List.mem_cons_self)
  have hokA : mm_okl h (mR o :: As) := mm_ok_cons hoko (fun v hv => h6 v (by rw [hstk]; exact List.mem_append_left _ (List.mem_reverse.mpr hv)))
  have ho := mm_ok_lt hoko hs (by decide)
  have he := mm_ws_get G ad ho
  rw [mm_e_obj hs] at he
  refine vx_runV (C := y.cls) (b := ad o) (As := As.map (mm_j ad)) (n := n) (Ts := mm_T) ⟨c1, c2, c3, c4, c5⟩ (hM G ad H.size) ⟨mm_callB c5 M hw ⟨c12, c13⟩, c5 _ hi, c5 _ hse⟩ ⟨mm_blind, ?_, fun U hU hW => ?_⟩ rfl (by rw [List.length_map]; exact hn) (h4.1.trans c3) ?_ ?_ hd ⟨Nat.le_trans hf.1 c14, Nat.le_trans hf.2 c15⟩
  · have := va_recv c6 h3.1 L.1 he
    rw [hC]
    exact this
  · exact mm_pre (As := mR o :: As) c6 c10 c7 h3 hokA hU hW
  · show stk.map (mm_j ad) = _
    rw [hstk, List.map_append, List.map_reverse]
    rfl
  · show 2 * 0 + _ ≤ 8
    rw [mm_cats_j]
    omega
set_option maxHeartbeats 4000000 in
theorem mm_callS {index n maxL : Nat} {y : MethodName} {bytes : ByteArray} {rt : Option FieldType} {As rest : List mV} (C : mm_OK (d + 1) cs ss cc own nL ret x) (M : mm_MW y bytes maxL rt n) (hw : Cond.methodLink own index y ∈ mm_T) (hst : Cond.static y ∈ mm_T)
    (hM : mm_Met x.2.1 d y bytes maxL rt As h post xp mc ms) (hd : decode cc pc = .ok (.invokestatic index, 3)) (hn : As.length = n) (hcat : mm_cats rest ≤ 8) (hf : a + mc ≤ cs ∧ b + ms ≤ ss) {stk : List mV} (hstk : stk = As.reverse ++ rest)
    (kr : ∀ (v : Option mV) (h' : mH), post v h' → mm_W x (a + mc) (b + ms) (pc + 3) ls (v.toList ++ rest) h') (kx : ∀ (E : String) (h' : mH), xp E h' → mm_Wx x (a + mc) (b + ms) pc ls E h') : mm_W x a b pc ls stk h := by
  refine mm_after C (rest := rest) (Aa := fun ad => (As.map (mm_j ad)).toArray) (fun v hv => by rw [hstk]; exact List.mem_append_right _ hv) ?_ kr kx
  obtain ⟨p, l, e, R, s, m, args, below, meth, c, G, ad0, A, n0, Q⟩ := x
  intro ad H locs jl h3 h4 h5 h6
  obtain ⟨c1, c2, c3, c4, c5, c6, c7, c8, c9, c10, c11, c12, c13, c14, c15⟩ := C
  have hokA : mm_okl h As := fun v hv => h6 v (by rw [hstk]; exact List.mem_append_left _ (List.mem_reverse.mpr hv))
  refine vx_runS (As := As.map (mm_j ad)) (n := n) (Ts := mm_T) ⟨c1, c2, c3, c4, c5⟩ (hM G ad H.size) ⟨mm_callB c5 M hw ⟨c12, c13⟩, c5 _ hst⟩ ⟨mm_blind, fun U hU hW => ?_⟩ rfl (by rw [List.length_map]; exact hn) (h4.1.trans c3) ?_ ?_ hd ⟨Nat.le_trans hf.1 c14, Nat.le_trans hf.2 c15⟩
  · exact mm_pre c6 c10 c7 h3 hokA hU hW
  · show stk.map (mm_j ad) = _
    rw [hstk, List.map_append, List.map_reverse]
  · show 2 * 0 + _ ≤ 8
    rw [mm_cats_j]
    omega
/-- who never throws -/
theorem mm_noX {l : Launch} {y : MethodName} {ws : List Cond} {rm : Room} {Pc : Array Value → State → Prop} {Qc : Array Value → State → Outcome → State → Prop} {XC : String → State → State → Prop} {mc ms : Nat} {free : Addr → Prop} (h : vx_Met l y ws rm Pc Qc XC mc ms free) (hX : ∀ E st t, ¬ XC E st t) : Met l y ws rm Pc Qc mc ms free := by
  intro p e ha hc hk s m args below hf happ hP hK
  obtain ⟨k, o, h1, h2, h3, hQ⟩ := h p e ha hc hk s m args below hf happ hP hK
  refine ⟨k, o, h1, h2, h3, ?_⟩
  rcases hQ with hQ | ⟨q, -, E, ce, L, hx, -⟩
  · exact hQ
  · exact absurd hx (hX _ _ _)
theorem mm_vaX {p : Program} {l : Launch} {e : Env} {R : Room} {s : State} {m : MethodId} {args : Array Value} {below : List Frame} {meth : Method} {c : Code} {H : Heap} {locs : List Loc} {cells slots mc ms : Nat} {g : JFrame} {rest : List Value} {Qa : State → Outcome → State → Prop} {XC : String → State → State → Prop} {free : Addr → Prop} (h : va_Run p l e R s m args below meth c H locs cells slots mc ms g rest Qa free) : vx_Run p l e R s m args below meth c H locs cells slots mc ms g rest Qa XC free := fun T hT X => Or.inl (h T hT X)
set_option maxHeartbeats 4000000 in
theorem mm_callSN {index n maxL : Nat} {y : MethodName} {host : String} {bytes : ByteArray} {rt : Option FieldType} {As rest : List mV} (C : mm_OK (d + 1) cs ss cc own nL ret x) (M : mm_MW y bytes maxL rt n) (hw : (own, index, y, host) ∈ mm_nest) (hst : Cond.static y ∈ mm_T)
    (hM : mm_Met x.2.1 d y bytes maxL rt As h post (fun _ _ => False) mc ms) (hd : decode cc pc = .ok (.invokestatic index, 3)) (hn : As.length = n) (hcat : mm_cats rest ≤ 8) (hf : a + mc ≤ cs ∧ b + ms ≤ ss) {stk : List mV} (hstk : stk = As.reverse ++ rest)
    (kr : ∀ (v : Option mV) (h' : mH), post v h' → mm_W x (a + mc) (b + ms) (pc + 3) ls (v.toList ++ rest) h') : mm_W x a b pc ls stk h := by
  refine mm_after C (rest := rest) (xp := fun _ _ => False) (Aa := fun ad => (As.map (mm_j ad)).toArray) (fun v hv => by rw [hstk]; exact List.mem_append_right _ hv) ?_ kr (fun _ _ q => q.elim)
  obtain ⟨p, l, e, R, s, m, args, below, meth, c, G, ad0, A, n0, Q⟩ := x
  intro ad H locs jl h3 h4 h5 h6
  obtain ⟨c1, c2, c3, c4, c5, c6, c7, c8, c9, c10, c11, c12, c13, c14, c15⟩ := C
  have hokA : mm_okl h As := fun v hv => h6 v (by rw [hstk]; exact List.mem_append_left _ (List.mem_reverse.mpr hv))
  refine mm_vaX (va_runSN (As := As.map (mm_j ad)) (n := n) (Ts := mm_T) ⟨c1, c2, c3, c4, c5⟩ (mm_noX (hM G ad H.size) (fun E st t ⟨_, _, q, _⟩ => q)) ⟨mm_callN c5 M (c10.2.2.2.1 _ hw) ⟨c12, c13⟩, c5 _ hst, trivial⟩ ⟨mm_blind, fun U hU hW => ?_⟩ rfl (by rw [List.length_map]; exact hn) (h4.1.trans c3) ?_ ?_ hd ⟨Nat.le_trans hf.1 c14, Nat.le_trans hf.2 c15⟩)
  · exact mm_pre c6 c10 c7 h3 hokA hU hW
  · show stk.map (mm_j ad) = _
    rw [hstk, List.map_append, List.map_reverse]
  · show 2 * 0 + _ ≤ 8
    rw [mm_cats_j]
    omega
set_option maxHeartbeats 4000000 in
theorem mm_callI {index n o maxL : Nat} {y : MethodName} {bytes : ByteArray} {As rest : List mV} (C : mm_OK (d + 1) cs ss cc own nL ret x) (M : mm_MW y bytes maxL none n) (hw : Cond.methodLink own index y ∈ mm_T) (hi : Cond.instanceMethod y ∈ mm_T) (hy : y.name = "<init>")
    (hM : mm_Met x.2.1 d y bytes maxL none (mR o :: As) h post (fun _ _ => False) mc ms) (hd : decode cc pc = .ok (.invokespecial index, 3)) (hn : As.length = n) (hcat : mm_cats rest ≤ 8) (hf : a + mc ≤ cs ∧ b + ms ≤ ss) {stk : List mV} (hstk : stk = As.reverse ++ mR o :: rest)
    (kr : ∀ (v : Option mV) (h' : mH), post v h' → mm_W x (a + mc) (b + ms) (pc + 3) ls (v.toList ++ rest) h') : mm_W x a b pc ls stk h := by
  refine mm_after C (rest := rest) (xp := fun _ _ => False) (Aa := fun ad => ((mR o :: As).map (mm_j ad)).toArray) (fun v hv => by rw [hstk]; exact List.mem_append_right _ (List.mem_cons_of_mem _ hv)) ?_ kr (fun _ _ q => q.elim)
  obtain ⟨p, l, e, R, s, m, args, below, meth, c, G, ad0, A, n0, Q⟩ := x
  intro ad H locs jl h3 h4 h5 h6
  obtain ⟨c1, c2, c3, c4, c5, c6, c7, c8, c9, c10, c11, c12, c13, c14, c15⟩ := C
  have hoko : mm_okv h (mR o) := h6 _ (by rw [hstk]; exact List.mem_append_right _ List.mem_cons_self)
  have hokA : mm_okl h (mR o :: As) := mm_ok_cons hoko (fun v hv => h6 v (by rw [hstk]; exact List.mem_append_left _ (List.mem_reverse.mpr hv)))
  refine mm_vaX (va_runI (b := ad o) (As := As.map (mm_j ad)) (n := n) (Ts := mm_T) ⟨c1, c2, c3, c4, c5⟩ (mm_noX (hM G ad H.size) (fun E st t ⟨_, _, q, _⟩ => q)) ⟨mm_callB c5 M hw ⟨c12, c13⟩, hy, c5 _ hi⟩ ⟨mm_blind, fun U hU hW => ?_⟩ rfl (by rw [List.length_map]; exact hn) (h4.1.trans c3) ?_ ?_ hd ⟨Nat.le_trans hf.1 c14, Nat.le_trans hf.2 c15⟩)
  · exact mm_pre (As := mR o :: As) c6 c10 c7 h3 hokA hU hW
  · show stk.map (mm_j ad) = _
    rw [hstk, List.map_append, List.map_reverse]
    rfl
  · show 2 * 0 + _ ≤ 8
    rw [mm_cats_j]
    omega
set_option maxHeartbeats 4000000 in
theorem mm_callIN {index n o maxL : Nat} {y : MethodName} {host : String} {bytes : ByteArray} {As rest : List mV} (C : mm_OK (d + 1) cs ss cc own nL ret x) (M : mm_MW y bytes maxL none n) (hw : (own, index, y, host) ∈ mm_nest) (hi : Cond.instanceMethod y ∈ mm_T) (hy : y.name = "<init>")
    (hM : mm_Met x.2.1 d y bytes maxL none (mR o :: As) h post (fun _ _ => False) mc ms) (hd : decode cc pc = .ok (.invokespecial index, 3)) (hn : As.length = n) (hcat : mm_cats rest ≤ 8) (hf : a + mc ≤ cs ∧ b + ms ≤ ss) {stk : List mV} (hstk : stk = As.reverse ++ mR o :: rest)
    (kr : ∀ (v : Option mV) (h' : mH), post v h' → mm_W x (a + mc) (b + ms) (pc + 3) ls (v.toList ++ rest) h') : mm_W x a b pc ls stk h := by
  refine mm_after C (rest := rest) (xp := fun _ _ => False) (Aa := fun ad => ((mR o :: As).map (mm_j ad)).toArray) (fun v hv => by rw [hstk]; exact List.mem_append_right _ (List.mem_cons_of_mem _ hv)) ?_ kr (fun _ _ q => q.elim)
  obtain ⟨p, l, e, R, s, m, args, below, meth, c, G, ad0, A, n0, Q⟩ := x
  intro ad H locs jl h3 h4 h5 h6
  obtain ⟨c1, c2, c3, c4, c5, c6, c7, c8, c9, c10, c11, c12, c13, c14, c15⟩ := C
  have hoko : mm_okv h (mR o) := h6 _ (by rw [hstk]; exact List.mem_append_right _ List.mem_cons_self)
  have hokA : mm_okl h (mR o :: As) := mm_ok_cons hoko (fun v hv => h6 v (by rw [hstk]; exact List.mem_append_left _ (List.mem_reverse.mpr hv)))
  refine mm_vaX (va_runIN (b := ad o) (As := As.map (mm_j ad)) (n := n) (Ts := mm_T) ⟨c1, c2, c3, c4, c5⟩ (mm_noX (hM G ad H.size) (fun E st t ⟨_, _, q, _⟩ => q)) ⟨mm_callN c5 M (c10.2.2.2.1 _ hw) ⟨c12, c13⟩, hy, c5 _ hi⟩ ⟨mm_blind, fun U hU hW => ?_⟩ rfl (by rw [List.length_map]; exact hn) (h4.1.trans c3) ?_ ?_ hd ⟨Nat.le_trans hf.1 c14, Nat.le_trans hf.2 c15⟩)
  · exact mm_pre (As := mR o :: As) c6 c10 c7 h3 hokA hU hW
  · show stk.map (mm_j ad) = _
    rw [hstk, List.map_append, List.map_reverse]
    rfl
  · show 2 * 0 + _ ≤ 8
    rw [mm_cats_j]
    omega
theorem mm_objInit {index o : Nat} (C : mm_OK (d + 1) cs ss cc own nL ret x) (hw : Cond.methodLink own index objectInit ∈ mm_T) (hi : Cond.instanceMethod objectInit ∈ mm_T) (hc : Cond.code objectInit ⟨#[0xb1]⟩ 1 none ∈ mm_T) (hd : decode cc pc = .ok (.invokespecial index, 3)) (hcat : mm_cats st ≤ 8) (kk : mm_W x a b (pc + 3) ls st h) : mm_W x a b pc ls (mR o :: st) h := by
  obtain ⟨p, l, e, R, s, m, args, below, meth, c, G, ad0, A, n0, Q⟩ := x
  intro ad H locs jl h3 h4 h5 h6
  obtain ⟨c1, c2, c3, c4, c5, c6, c7, c8, c9, c10, c11, c12, c13, c14, c15⟩ := C
  refine W.objInit c1 c2 c4 (c5 _ hw) (c5 _ hi) (c5 _ hc) rfl h4.1 rfl hd (by omega) ?_ (kk ad H locs jl h3 h4 h5 (mm_ok_tl h6))
  show 2 * 0 + ((st.map (mm_j ad)).map fun v => v.category).sum + 12 ≤ R.locals
  rw [mm_cats_j]
  omega
end MMC
