/-! ===== a method's contract, its start and its end, calls, exceptions ===== -/
def mm_end (G : mG) (ad0 : Nat → Nat) (A : Nat → Prop) (n0 : Nat) (h' : mH) (ad' : Nat → Nat) (st t : State) : Prop :=
  va_P (G.1, G.2.1) vwCl (mm_ws G ad' h') t.heap ∧ va_D A (mm_ws G ad' h') ∧ mm_rg h' ∧ (∀ o, (o < n0 ∨ 1000 ≤ o) → ad' o = ad0 o) ∧ n0 ≤ h'.2.2 ∧ va_F A st t
def mm_Qc (G : mG) (ad0 : Nat → Nat) (A : Nat → Prop) (n0 : Nat) (post : Option mV → mH → Prop) : Array Value → State → Outcome → State → Prop := fun _ st o t =>
  ∃ (v : Option mV) (h' : mH) (ad' : Nat → Nat), o = .returned (v.map (mm_j ad')) ∧ post v h' ∧ mm_okl h' v.toList ∧ mm_end G ad0 A n0 h' ad' st t
def mm_XC (G : mG) (ad0 : Nat → Nat) (A : Nat → Prop) (n0 : Nat) (xp : String → mH → Prop) : String → State → State → Prop := fun E st t => ∃ (h' : mH) (ad' : Nat → Nat), xp E h' ∧ mm_end G ad0 A n0 h' ad' st t
def mm_RT (post : Option mV → mH → Prop) (xp : String → mH → Prop) (mc ms : Nat) (x : mX) : Prop := match x with
  | (_, _, _, _, s, _, args, below, _, _, G, ad0, A, n0, Q) => Q = vx_MQ below (mm_Qc G ad0 A n0 post) (mm_XC G ad0 A n0 xp) args s mc ms A
def mm_tb (x : mX) : List ExceptionTableEntry := match x with
  | (_, _, _, _, _, _, _, _, _, c, _) => c.exceptionTable.toList
def mm_Pc (G : mG) (ad0 : Nat → Nat) (h : mH) (sz : Nat) (As : List mV) : Array Value → State → Prop := fun v U =>
  v = (As.map (mm_j ad0)).toArray ∧ U.heap.size = sz ∧ va_P (G.1, G.2.1) vwCl (mm_ws G ad0 h) U.heap ∧ va_D (fun _ => True) (mm_ws G ad0 h) ∧ mm_rg h ∧ va_K (G.1, G.2.1) vwCl (mm_tys G) U ∧ mm_Z (va_A (mm_ws G ad0 h) sz) ad0 U U.heap ∧ mm_okl h As
abbrev mm_rm (d mc ms : Nat) : Room := { frames := d, cells := mc, slots := ms, locals := 64 * d }
def mm_Met (l : Launch) (d : Nat) (y : MethodName) (bytes : ByteArray) (maxL : Nat) (ret : Option FieldType) (As : List mV) (h : mH) (post : Option mV → mH → Prop) (xp : String → mH → Prop) (mc ms : Nat) : Prop :=
  ∀ (G : mG) (ad0 : Nat → Nat) (sz : Nat), vx_Met l y (Cond.code y bytes maxL ret :: mm_T) (mm_rm d mc ms) (mm_Pc G ad0 h sz As) (mm_Qc G ad0 (va_A (mm_ws G ad0 h) sz) h.2.2 post) (mm_XC G ad0 (va_A (mm_ws G ad0 h) sz) h.2.2 xp) mc ms (va_A (mm_ws G ad0 h) sz)
/-! the start -/
def mm_sl (As : List mV) : List mV := As.flatMap fun v => if v.1 = 1 then [v, mU] else [v]
def mm_ini (As : List mV) (n : Nat) : List mV := mm_sl As ++ List.replicate (n - (mm_sl As).length) mU
theorem mm_ini_args {ad : Nat → Nat} (k : Nat) : ∀ (As : List mV) (i : Nat) (q : Nat × Value), q ∈ mm_lv ad i (mm_sl As ++ List.replicate k mU) → q ∈ lv_args i (As.map (mm_j ad)) := by
  intro As
  induction As with
  | nil =>
    intro i q hq
    exfalso
    obtain ⟨j, v, h1, h2, -⟩ := (mm_lv_mem _ i q).mp hq
    have h3 : v = mU := List.eq_of_mem_replicate (List.mem_of_getElem? (by simpa [mm_sl] using h1))
    rw [h3] at h2
    exact absurd h2 (by decide)
  | cons v r ih =>
    intro i q hq
    have hc := mm_j_cat ad v
    by_cases hv : v.1 = 1
    · have e : mm_sl (v :: r) ++ List.replicate k mU = v :: mU :: (mm_sl r ++ List.replicate k mU) := by simp [mm_sl, hv]
      rw [e] at hq
      have e2 : lv_args i ((v :: r).map (mm_j ad)) = (i, mm_j ad v) :: lv_args (i + 2) (r.map (mm_j ad)) := by
        show (i, mm_j ad v) :: lv_args (if (mm_j ad v).category = 2 then i + 2 else i + 1) (r.map (mm_j ad)) = _
        rw [if_pos (hc.mpr hv)]
      rw [e2]
      have e3 : mm_lv ad i (v :: mU :: (mm_sl r ++ List.replicate k mU)) = (i, mm_j ad v) :: mm_lv ad (i + 2) (mm_sl r ++ List.replicate k mU) := by
        rw [mm_lv, if_pos (by rw [hv]; decide), mm_lv, if_neg (by decide)]
      rw [e3] at hq
      rcases List.mem_cons.mp hq with h | h
      · rw [h]; exact List.mem_cons_self
      · exact List.mem_cons_of_mem _ (ih (i + 2) q h)
    · have e : mm_sl (v :: r) ++ List.replicate k mU = v :: (mm_sl r ++ List.replicate k mU) := by simp [mm_sl, hv]
      rw [e] at hq
      have e2 : lv_args i ((v :: r).map (mm_j ad)) = (i, mm_j ad v) :: lv_args (i + 1) (r.map (mm_j ad)) := by
        show (i, mm_j ad v) :: lv_args (if (mm_j ad v).category = 2 then i + 2 else i + 1) (r.map (mm_j ad)) = _
        rw [if_neg (fun z => hv (hc.mp z))]
      rw [e2]
      rw [mm_lv] at hq
      split at hq
      · rcases List.mem_cons.mp hq with h | h
        · rw [h]; exact List.mem_cons_self
        · exact List.mem_cons_of_mem _ (ih (i + 1) q h)
      · exact List.mem_cons_of_mem _ (ih (i + 1) q hq)
theorem mm_sl_len {ad : Nat → Nat} (As : List mV) : (lg_sl (As.map (mm_j ad))).length = (mm_sl As).length := by
  induction As with
  | nil => rfl
  | cons v r ih =>
    have hc := mm_j_cat ad v
    have e1 : lg_sl ((v :: r).map (mm_j ad)) = (if (mm_j ad v).category = 2 then [Slot.val (mm_j ad v), .second] else [.val (mm_j ad v)]) ++ lg_sl (r.map (mm_j ad)) := by simp [lg_sl]
    have e2 : mm_sl (v :: r) = (if v.1 = 1 then [v, mU] else [v]) ++ mm_sl r := by simp [mm_sl]
    rw [e1, e2, List.length_append, List.length_append, ih]
    by_cases hv : v.1 = 1
    · rw [if_pos hv, if_pos (hc.mpr hv)]; rfl
    · rw [if_neg hv, if_neg (fun z => hv (hc.mp z))]; rfl
theorem mm_ini_ok {h : mH} {As : List mV} {n : Nat} (hA : mm_okl h As) : mm_okl h (mm_ini As n) := by
  intro v hv
  rcases List.mem_append.mp hv with q | q
  · obtain ⟨w, hw, h2⟩ := List.mem_flatMap.mp q
    by_cases h1 : w.1 = 1
    · rw [if_pos h1] at h2
      rcases List.mem_cons.mp h2 with e | e
      · rw [e]; exact hA w hw
      · rw [List.mem_singleton.mp e]; trivial
    · rw [if_neg h1] at h2
      rw [List.mem_singleton.mp h2]; exact hA w hw
  · rw [List.eq_of_mem_replicate q]; trivial
set_option maxHeartbeats 4000000 in
theorem mm_ofW {l : Launch} {d mc ms maxL : Nat} {y : MethodName} {bytes : ByteArray} {ret : Option FieldType} {As ls : List mV} {h : mH} {post : Option mV → mH → Prop} {xp : String → mH → Prop} (hl : l.stackTraces = false) (hy : plainName y.cls = true) (hls : mm_ini As maxL = ls) (hsl : (mm_sl As).length ≤ maxL)
    (body : ∀ x : mX, x.2.1 = l → mm_OK d mc ms bytes y.cls maxL ret x → mm_RT post xp mc ms x → mm_nm x = y.name → mm_tb x = [] → mm_W x 0 0 0 ls [] h) : mm_Met l d y bytes maxL ret As h post xp mc ms := by
  intro G ad0 sz
  refine vx_ofW (cc := bytes) (maxL := maxL) (ret := ret) hy rfl ?_
  intro p e s m args below meth c s₁ B hml het hv
  obtain ⟨rfl, hsz, hP, hD, hrg, hK, hZ, hok⟩ := hv
  subst hsz
  have hts := atoms_spec (ws := Cond.code y bytes maxL ret :: mm_T) B.pre
  have k := body (p, l, e, mm_rm d mc ms, s, m, (As.map (mm_j ad0)).toArray, below, meth, c, G, ad0, va_A (mm_ws G ad0 h) s.heap.size, h.2.2, vx_MQ below (mm_Qc G ad0 (va_A (mm_ws G ad0 h) s.heap.size) h.2.2 post) (mm_XC G ad0 (va_A (mm_ws G ad0 h) s.heap.size) h.2.2 xp) (As.map (mm_j ad0)).toArray s mc ms (va_A (mm_ws G ad0 h) s.heap.size)) rfl
    ⟨B.exec, B.bytes, hml, findClass_of_methodNamed B.named, fun w hw => hts w (List.mem_cons_of_mem _ hw), hK, fun q hq => Or.inr hq, B.notSynchronized, hl, hZ, B.returns, Nat.le_refl _, Nat.le_refl _, Nat.le_refl _, Nat.le_refl _⟩ rfl (name_of_methodNamed B.named B.method).1 (List.eq_nil_iff_forall_not_mem.mpr fun z hz => het z hz)
  rw [lg_entry_eq]
  have hl0 := lv_entry (As.map (mm_j ad0)) (n := maxL) (by rw [mm_sl_len]; exact hsl)
  refine k ad0 s.heap [] _ ⟨hP, hD.self, hrg, va_S.rf, fun _ _ => rfl, Nat.le_refl _⟩ ?_ (by rw [← hls]; exact mm_ini_ok hok) (fun _ q => by cases q)
  rw [hml]
  refine ⟨hl0.1, hl0.2.1, fun q hq => hl0.2.2 q ?_⟩
  rw [← hls] at hq
  exact mm_ini_args _ As 0 q hq
section MME
variable {x : mX} {d cs ss : Nat} {cc : ByteArray} {own : String} {nL : Nat} {ret : Option FieldType} {a b pc : Nat} {ls st : List mV} {h : mH} {post : Option mV → mH → Prop} {xp : String → mH → Prop} {mc ms : Nat}
theorem mm_iret {v : Int} (C : mm_OK d cs ss cc own nL (some .int) x) (T : mm_RT post xp mc ms x) (hd : decode cc pc = .ok (.ireturn, 1)) (ha : a ≤ mc) (hb : b ≤ ms) (hp : post (some (mI v)) h) : mm_W x a b pc ls [mI v] h := by
  obtain ⟨p, l, e, R, s, m, args, below, meth, c, G, ad0, A, n0, Q⟩ := x
  intro ad H locs jl h3 h4 h5 h6
  have hQ : Q = vx_MQ below (mm_Qc G ad0 A n0 post) (mm_XC G ad0 A n0 xp) args s mc ms A := T
  subst hQ
  refine W.widen ha hb (vx_ret (W.iret (v := Int32.ofInt v) C.1 C.2.1 C.2.2.2.2.2.2.2.2.2.2.1 (fun t ht hW => ?_) h3.2.2.2.1.2.2 hd C.2.2.2.2.2.2.2.1))
  exact ⟨some (mI v), h, ad, rfl, hp, h6, by rw [ht]; exact h3.1, h3.2.1, h3.2.2.1, h3.2.2.2.2.1, h3.2.2.2.2.2, h3.2.2.2.1.F ht⟩
theorem mm_zret {v : Int} (C : mm_OK d cs ss cc own nL (some .boolean) x) (T : mm_RT post xp mc ms x) (hd : decode cc pc = .ok (.ireturn, 1)) (ha : a ≤ mc) (hb : b ≤ ms) (hv : v = 0 ∨ v = 1) (hp : post (some (mI v)) h) : mm_W x a b pc ls [mI v] h := by
  obtain ⟨p, l, e, R, s, m, args, below, meth, c, G, ad0, A, n0, Q⟩ := x
  intro ad H locs jl h3 h4 h5 h6
  have hQ : Q = vx_MQ below (mm_Qc G ad0 A n0 post) (mm_XC G ad0 A n0 xp) args s mc ms A := T
  subst hQ
  refine W.widen ha hb (vx_ret (W.zret (v := Int32.ofInt v) C.1 C.2.1 C.2.2.2.2.2.2.2.2.2.2.1 (by rcases hv with rfl | rfl <;> rfl) (fun t ht hW => ?_) h3.2.2.2.1.2.2 hd C.2.2.2.2.2.2.2.1))
  exact ⟨some (mI v), h, ad, rfl, hp, h6, by rw [ht]; exact h3.1, h3.2.1, h3.2.2.1, h3.2.2.2.2.1, h3.2.2.2.2.2, h3.2.2.2.1.F ht⟩
theorem mm_lret {v : Int} (C : mm_OK d cs ss cc own nL (some .long) x) (T : mm_RT post xp mc ms x) (hd : decode cc pc = .ok (.lreturn, 1)) (ha : a ≤ mc) (hb : b ≤ ms) (hp : post (some (mL v)) h) : mm_W x a b pc ls [mL v] h := by
  obtain ⟨p, l, e, R, s, m, args, below, meth, c, G, ad0, A, n0, Q⟩ := x
  intro ad H locs jl h3 h4 h5 h6
  have hQ : Q = vx_MQ below (mm_Qc G ad0 A n0 post) (mm_XC G ad0 A n0 xp) args s mc ms A := T
  subst hQ
  refine W.widen ha hb (vx_ret (W.lret (v := Int64.ofInt v) C.1 C.2.1 C.2.2.2.2.2.2.2.2.2.2.1 (fun t ht hW => ?_) h3.2.2.2.1.2.2 hd C.2.2.2.2.2.2.2.1))
  exact ⟨some (mL v), h, ad, rfl, hp, h6, by rw [ht]; exact h3.1, h3.2.1, h3.2.2.1, h3.2.2.2.2.1, h3.2.2.2.2.2, h3.2.2.2.1.F ht⟩
theorem mm_vret (C : mm_OK d cs ss cc own nL none x) (T : mm_RT post xp mc ms x) (hd : decode cc pc = .ok (.return_, 1)) (ha : a ≤ mc) (hb : b ≤ ms) (hp : post none h) : mm_W x a b pc ls [] h := by
  obtain ⟨p, l, e, R, s, m, args, below, meth, c, G, ad0, A, n0, Q⟩ := x
  intro ad H locs jl h3 h4 h5 h6
  have hQ : Q = vx_MQ below (mm_Qc G ad0 A n0 post) (mm_XC G ad0 A n0 xp) args s mc ms A := T
  subst hQ
  refine W.widen ha hb (vx_ret (W.vret C.1 C.2.1 C.2.2.2.2.2.2.2.2.2.2.1 (fun t ht hW => ?_) h3.2.2.2.1.2.2 hd C.2.2.2.2.2.2.2.1))
  exact ⟨none, h, ad, rfl, hp, h6, by rw [ht]; exact h3.1, h3.2.1, h3.2.2.1, h3.2.2.2.2.1, h3.2.2.2.2.2, h3.2.2.2.1.F ht⟩
/-! something thrown lies over the frame -/
def mm_Wx (x : mX) (a b pc : Nat) (ls : List mV) (E : String) (h : mH) : Prop := match x with
  | (p, l, e, R, s, m, args, below, meth, c, G, ad0, A, n0, Q) => ∀ (ad : Nat → Nat) (H : Heap) (locs : List Loc) (jl : Array Slot) (q : Nat) (ce : Cell) (st : List Value), mm_at G ad0 A n0 s h ad H locs → lv_has jl c.maxLocals (mm_lv ad 0 ls) → mm_okl h ls → H[q]? = some ce → ce.vm = .none → s.vm.findClass E = some ce.cls →
      vx_W p l e R s m args below meth c H locs a b Q (F0 m pc jl st) q
theorem mm_out {E : String} (C : mm_OK d cs ss cc own nL ret x) (T : mm_RT post xp mc ms x) (ht : mm_tb x = []) (ha : a ≤ mc) (hb : b ≤ ms) (hp : xp E h) : mm_Wx x a b pc ls E h := by
  obtain ⟨p, l, e, R, s, m, args, below, meth, c, G, ad0, A, n0, Q⟩ := x
  intro ad H locs jl q ce st h3 h4 h5 h6 h7 h8
  have hQ : Q = vx_MQ below (mm_Qc G ad0 A n0 post) (mm_XC G ad0 A n0 xp) args s mc ms A := T
  subst hQ
  have ht' : c.exceptionTable.toList = [] := ht
  refine vx_out (fun z hz => by rw [ht'] at hz; cases hz) C.2.2.2.2.2.2.2.1 h6 h7 h8 (fun t e1 e2 => ⟨h, ad, hp, ?_⟩) h3.2.2.2.1.2.2 ha hb
  exact ⟨by rw [e1]; exact h3.1, h3.2.1, h3.2.2.1, h3.2.2.2.2.1, h3.2.2.2.2.2, h3.2.2.2.1.F e1⟩
end MME
