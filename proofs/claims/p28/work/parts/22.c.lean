/-! ===== a method that makes the table, or doesn't: its room by what it left behind ===== -/
def mm_zf (h : mH) : Nat × Nat := if h.1 58 5 = 0 then (0, 0) else (1, 49152)
theorem mm_zf_1 {h : mH} (hf : h.1 58 5 = 1) : 1 ≤ (mm_zf h).1 ∧ 49152 ≤ (mm_zf h).2 := by
  unfold mm_zf
  rw [if_neg (by omega)]
  exact ⟨Nat.le_refl _, Nat.le_refl _⟩
theorem mm_zf_le (h : mH) : (mm_zf h).1 ≤ 1 ∧ (mm_zf h).2 ≤ 49152 := by
  unfold mm_zf
  split <;> decide
def mm_QcZ (G : mG) (ad0 : Nat → Nat) (A : Nat → Prop) (n0 : Nat) (post : Option mV → mH → Prop) : Array Value → State → Outcome → State → Prop := fun _ st o t =>
  ∃ (v : Option mV) (h' : mH) (ad' : Nat → Nat), o = .returned (v.map (mm_j ad')) ∧ post v h' ∧ mm_okl h' v.toList ∧ mm_end G ad0 A n0 h' ad' st t ∧ mm_sz st.heap t.heap (mm_zf h').1 (mm_zf h').2
def mm_RTZ (post : Option mV → mH → Prop) (mc ms : Nat) (x : mX) : Prop := match x with
  | (_, _, _, _, s, _, args, below, _, _, G, ad0, A, n0, Q) => Q = vx_MQ below (mm_QcZ G ad0 A n0 post) (mm_XC G ad0 A n0 mm_nx) args s mc ms A
def mm_MetZ (l : Launch) (d : Nat) (y : MethodName) (bytes : ByteArray) (maxL : Nat) (ret : Option FieldType) (As : List mV) (h : mH) (post : Option mV → mH → Prop) (mc ms : Nat) : Prop :=
  ∀ (G : mG) (ad0 : Nat → Nat) (sz : Nat), vx_Met l y (Cond.code y bytes maxL ret :: mm_T) (mm_rm d mc ms) (mm_Pc G ad0 h sz As) (mm_QcZ G ad0 (va_A (mm_ws G ad0 h) sz) h.2.2 post) (mm_XC G ad0 (va_A (mm_ws G ad0 h) sz) h.2.2 mm_nx) mc ms (va_A (mm_ws G ad0 h) sz)
def mm_MetHZ (l : Launch) (d : Nat) (y : MethodName) (bytes : ByteArray) (maxL : Nat) (ret : Option FieldType) (hh : List (Nat × Nat × Nat × Nat)) (As : List mV) (h : mH) (post : Option mV → mH → Prop) (mc ms : Nat) : Prop :=
  ∀ (G : mG) (ad0 : Nat → Nat) (sz : Nat), vx_Met l y (Cond.codeWith y bytes maxL ret hh :: mm_T) (mm_rm d mc ms) (mm_Pc G ad0 h sz As) (mm_QcZ G ad0 (va_A (mm_ws G ad0 h) sz) h.2.2 post) (mm_XC G ad0 (va_A (mm_ws G ad0 h) sz) h.2.2 mm_nx) mc ms (va_A (mm_ws G ad0 h) sz)
set_option maxHeartbeats 4000000 in
theorem mm_ofWZ {l : Launch} {d mc ms maxL : Nat} {y : MethodName} {bytes : ByteArray} {ret : Option FieldType} {As ls : List mV} {h : mH} {post : Option mV → mH → Prop} (hl : l.stackTraces = false) (hy : plainName y.cls = true) (hls : mm_ini As maxL = ls) (hsl : (mm_sl As).length ≤ maxL)
    (body : ∀ x : mX, x.2.1 = l → mm_OK d mc ms bytes y.cls maxL ret x → mm_RTZ post mc ms x → mm_W x 0 0 0 ls [] h) : mm_MetZ l d y bytes maxL ret As h post mc ms := by
  intro G ad0 sz
  refine vx_ofW (cc := bytes) (maxL := maxL) (ret := ret) hy rfl ?_
  intro p e s m args below meth c s₁ B hml het hv
  obtain ⟨rfl, hsz, hP, hD, hrg, hK, hZ, hok⟩ := hv
  subst hsz
  have hts := atoms_spec (ws := Cond.code y bytes maxL ret :: mm_T) B.pre
  have k := body (p, l, e, mm_rm d mc ms, s, m, (As.map (mm_j ad0)).toArray, below, meth, c, G, ad0, va_A (mm_ws G ad0 h) s.heap.size, h.2.2, vx_MQ below (mm_QcZ G ad0 (va_A (mm_ws G ad0 h) s.heap.size) h.2.2 post) (mm_XC G ad0 (va_A (mm_ws G ad0 h) s.heap.size) h.2.2 mm_nx) (As.map (mm_j ad0)).toArray s mc ms (va_A (mm_ws G ad0 h) s.heap.size)) rfl
    ⟨B.exec, B.bytes, hml, findClass_of_methodNamed B.named, fun w hw => hts w (List.mem_cons_of_mem _ hw), hK, fun q hq => Or.inr hq, B.notSynchronized, hl, hZ, B.returns, Nat.le_refl _, Nat.le_refl _, Nat.le_refl _, Nat.le_refl _⟩ rfl
  rw [lg_entry_eq]
  have hl0 := lv_entry (As.map (mm_j ad0)) (n := maxL) (by rw [mm_sl_len]; exact hsl)
  refine k ad0 s.heap [] _ ⟨hP, hD.self, hrg, va_S.rf, fun _ _ => rfl, Nat.le_refl _⟩ ?_ (by rw [← hls]; exact mm_ini_ok hok) (fun _ q => by cases q)
  rw [hml]
  refine ⟨hl0.1, hl0.2.1, fun q hq => hl0.2.2 q ?_⟩
  rw [← hls] at hq
  exact mm_ini_args _ As 0 q hq
set_option maxHeartbeats 4000000 in
theorem mm_ofWHZ {l : Launch} {d mc ms maxL : Nat} {y : MethodName} {bytes : ByteArray} {ret : Option FieldType} {hh : List (Nat × Nat × Nat × Nat)} {As ls : List mV} {h : mH} {post : Option mV → mH → Prop} (hl : l.stackTraces = false) (hy : plainName y.cls = true) (hls : mm_ini As maxL = ls) (hsl : (mm_sl As).length ≤ maxL)
    (body : ∀ x : mX, x.2.1 = l → mm_OK d mc ms bytes y.cls maxL ret x → mm_RTZ post mc ms x → mm_W x 0 0 0 ls [] h) : mm_MetHZ l d y bytes maxL ret hh As h post mc ms := by
  intro G ad0 sz
  refine vx_ofWH (cc := bytes) (maxL := maxL) (ret := ret) (hh := hh) hy rfl ?_
  intro p e s m args below meth c s₁ B hml hv
  obtain ⟨rfl, hsz, hP, hD, hrg, hK, hZ, hok⟩ := hv
  subst hsz
  have hts := atoms_spec (ws := Cond.codeWith y bytes maxL ret hh :: mm_T) B.pre
  have k := body (p, l, e, mm_rm d mc ms, s, m, (As.map (mm_j ad0)).toArray, below, meth, c, G, ad0, va_A (mm_ws G ad0 h) s.heap.size, h.2.2, vx_MQ below (mm_QcZ G ad0 (va_A (mm_ws G ad0 h) s.heap.size) h.2.2 post) (mm_XC G ad0 (va_A (mm_ws G ad0 h) s.heap.size) h.2.2 mm_nx) (As.map (mm_j ad0)).toArray s mc ms (va_A (mm_ws G ad0 h) s.heap.size)) rfl
    ⟨B.exec, B.bytes, hml, findClass_of_methodNamed B.named, fun w hw => hts w (List.mem_cons_of_mem _ hw), hK, fun q hq => Or.inr hq, B.notSynchronized, hl, hZ, B.returns, Nat.le_refl _, Nat.le_refl _, Nat.le_refl _, Nat.le_refl _⟩ rfl
  rw [lg_entry_eq]
  have hl0 := lv_entry (As.map (mm_j ad0)) (n := maxL) (by rw [mm_sl_len]; exact hsl)
  refine k ad0 s.heap [] _ ⟨hP, hD.self, hrg, va_S.rf, fun _ _ => rfl, Nat.le_refl _⟩ ?_ (by rw [← hls]; exact mm_ini_ok hok) (fun _ q => by cases q)
  rw [hml]
  refine ⟨hl0.1, hl0.2.1, fun q hq => hl0.2.2 q ?_⟩
  rw [← hls] at hq
  exact mm_ini_args _ As 0 q hq
def mm_runZ (x : mX) (a b mc ms pc : Nat) (ls stk rest : List mV) (h : mH) (post : Option mV → mH → Prop) (Aa : (Nat → Nat) → Array Value) : Prop := match x with
  | (p, l, e, R, s, m, args, below, meth, c, G, ad0, A, n0, Q) => ∀ (ad : Nat → Nat) (H : Heap) (locs : List Loc) (jl : Array Slot), mm_at G ad0 A n0 s h ad H locs → lv_has jl c.maxLocals (mm_lv ad 0 ls) → mm_okl h ls → mm_okl h stk →
      vx_Run p l e R s m args below meth c H locs a b mc ms (F0 m pc jl (stk.map (mm_j ad))) (rest.map (mm_j ad)) (mm_QcZ G ad (va_A (mm_ws G ad h) H.size) h.2.2 post (Aa ad)) (mm_XC G ad (va_A (mm_ws G ad h) H.size) h.2.2 mm_nx) (va_A (mm_ws G ad h) H.size)
section MMZ
variable {x : mX} {d cs ss : Nat} {cc : ByteArray} {own : String} {nL : Nat} {ret : Option FieldType} {a b pc : Nat} {ls st : List mV} {h : mH} {post : Option mV → mH → Prop} {mc ms : Nat}
theorem mm_iretZ {v : Int} (C : mm_OK d cs ss cc own nL (some .int) x) (T : mm_RTZ post mc ms x) (hd : decode cc pc = .ok (.ireturn, 1)) (ha : a ≤ mc) (hb : b ≤ ms) (hz : a ≤ (mm_zf h).1 ∧ b ≤ (mm_zf h).2) (hp : post (some (mI v)) h) : mm_W x a b pc ls [mI v] h := by
  obtain ⟨p, l, e, R, s, m, args, below, meth, c, G, ad0, A, n0, Q⟩ := x
  intro ad H locs jl h3 h4 h5 h6
  have hQ : Q = vx_MQ below (mm_QcZ G ad0 A n0 post) (mm_XC G ad0 A n0 mm_nx) args s mc ms A := T
  subst hQ
  refine mm_knows (fun z => ?_)
  refine W.widen ha hb (vx_ret (W.iret (v := Int32.ofInt v) C.1 C.2.1 C.2.2.2.2.2.2.2.2.2.2.1 (fun t ht hW => ?_) h3.2.2.2.1.2.2 hd C.2.2.2.2.2.2.2.1))
  exact ⟨some (mI v), h, ad, rfl, hp, h6, ⟨by rw [ht]; exact h3.1, h3.2.1, h3.2.2.1, h3.2.2.2.2.1, h3.2.2.2.2.2, h3.2.2.2.1.F ht⟩, by rw [ht]; have := z.1; omega, by rw [ht]; have := z.2; omega⟩
set_option maxHeartbeats 4000000 in
theorem mm_afterZ {stk rest : List mV} {Aa : (Nat → Nat) → Array Value} (C : mm_OK d cs ss cc own nL ret x) (hrest : ∀ v ∈ rest, v ∈ stk) (hr : mm_runZ x a b mc ms pc ls stk rest h post Aa)
    (kr : ∀ (v : Option mV) (h' : mH), post v h' → mm_W x (a + (mm_zf h').1) (b + (mm_zf h').2) (pc + 3) ls (v.toList ++ rest) h') : mm_W x a b pc ls stk h := by
  obtain ⟨p, l, e, R, s, m, args, below, meth, c, G, ad0, A, n0, Q⟩ := x
  intro ad H locs jl h3 h4 h5 h6
  have hok : mm_okl h rest := fun v hv => h6 v (hrest v hv)
  have hA : ∀ q, s.heap.size ≤ q → A q := C.2.2.2.2.2.2.1
  intro T hT X
  rcases hr ad H locs jl h3 h4 h5 h6 T hT X with ⟨v, st₀, t, T', L, h0, X', hL, e1, e2, ⟨v', h', ad', hv, hp, hvo, hE, hz⟩, go⟩ | ⟨q, st₀, t, T', L, E, ce, h0, X', hL, e1, e2, ⟨h', ad', hp, hE⟩, hce, hcv, hcl, go⟩
  · have hv' : v = v'.map (mm_j ad') := by cases hv; rfl
    have hat := mm_back hA h3 h0 e1 hL hE
    have hn : h.2.2 ≤ h'.2.2 := hE.2.2.2.2.1
    have hag : ∀ o, (o < h.2.2 ∨ 1000 ≤ o) → ad' o = ad o := hE.2.2.2.1
    have z1 : mm_sz s.heap T.heap a b := (mm_sz_of X.same : mm_sz s.heap (T.setVm s.vm).heap a b)
    have z2 : mm_sz T.heap T'.heap (mm_zf h').1 (mm_zf h').2 := by rw [hT, e1, ← h0]; exact hz
    obtain ⟨t2, a1, b1⟩ := kr v' h' hp ad' T'.heap (locs ++ L) jl hat (by rw [mm_lv_agree hag ls 0 h5]; exact h4) (mm_ok_mono hn h5) (fun w hw => by
      rcases List.mem_append.mp hw with z | z
      · exact hvo w z
      · exact mm_ok_mono hn hok w z) T' rfl (mm_tight X' (mm_sz_tr z1 z2))
    refine ⟨t2, go t2 ?_, b1⟩
    have e3 : (v'.toList ++ rest).map (mm_j ad') = v.toList ++ rest.map (mm_j ad) := by
      rw [List.map_append, mm_map_agree hag hok, hv']
      cases v' <;> rfl
    rw [e3] at a1
    exact a1
  · exact hp.elim
set_option maxHeartbeats 4000000 in
theorem mm_cViZ {index n o ci maxL : Nat} {y : MethodName} {bytes : ByteArray} {rt : Option FieldType} {As rest : List mV} {fks : List Nat} {P : Int → mH → Prop} (C : mm_OK (d + 1) cs ss cc own nL ret x) (E : mm_EV own index y bytes maxL rt n ci) (hd : decode cc pc = .ok (.invokevirtual index, 3)) (hM : mm_MetZ x.2.1 d y bytes maxL rt (mR o :: As) h (mm_pi P) mc ms) (hs : mm_sh o = (0, ci, fks)) (hn : As.length = n) (hcat : mm_cats rest ≤ 8) (hf : a + mc ≤ cs ∧ b + ms ≤ ss) {stk : List mV} (hstk : stk = As.reverse ++ mR o :: rest)
    (kr : ∀ (r : Int) (h1 : mH), P r h1 → mm_W x (a + (mm_zf h1).1) (b + (mm_zf h1).2) (pc + 3) ls (mI r :: rest) h1) : mm_W x a b pc ls stk h := by
  obtain ⟨M, ⟨CN, T, N, ty0, L, hC⟩, hw, hi, hse⟩ := E
  refine mm_afterZ (mc := mc) (ms := ms) (post := mm_pi P) C (rest := rest) (Aa := fun ad => ((mR o :: As).map (mm_j ad)).toArray) (fun v hv => by rw [hstk]; exact List.mem_append_right _ (List.mem_cons_of_mem _ hv)) ?_ (fun v h1 ⟨r, hv, hp⟩ => by subst hv; exact kr r h1 hp)
  obtain ⟨p, l, e, R, s, m, args, below, meth, c, G, ad0, A, n0, Q⟩ := x
  intro ad H locs jl h3 h4 h5 h6
  obtain ⟨c1, c2, c3, c4, c5, c6, c7, c8, c9, c10, c11, c12, c13, c14, c15⟩ := C
  have hoko : mm_okv h (mR o) := h6 _ (by rw [hstk]; exact List.mem_append_right _ List.mem_cons_self)
  have hokA : mm_okl h (mR o :: As) := mm_ok_cons hoko (fun v hv => h6 v (by rw [hstk]; exact List.mem_append_left _ (List.mem_reverse.mpr hv)))
  have ho := mm_ok_lt hoko hs (by decide)
  have he := mm_ws_get G ad ho
  rw [mm_e_obj hs] at he
  refine vx_runV (C := y.cls) (b := ad o) (As := As.map (mm_j ad)) (n := n) (Ts := mm_T) ⟨c1, c2, c3, c4, c5⟩ (hM G ad H.size) ⟨mm_callB c5 M hw ⟨c12, c13⟩, c5 _ hi, c5 _ hse⟩ ⟨mm_blind, ?_, fun U hU hW => ?_⟩ rfl (by rw [List.length_map]; exact hn) (h4.1.trans c3) ?_ ?_ hd ⟨Nat.le_trans hf.1 c14, Nat.le_trans hf.2 c15⟩
  · have := va_recv c6 h3.1 L.1 he
    rw [hC]
    exact this
  · exact mm_pre (As := mR o :: As) c6 c10 c7 h3 hokA hU hW
  · show stk.map (mm_j ad) = _
    rw [hstk, List.map_append, List.map_reverse]
    rfl
  · show 2 * 0 + _ ≤ 8
    rw [mm_cats_j]
    omega
set_option maxHeartbeats 4000000 in
theorem mm_cHiZ {index n maxL : Nat} {y : MethodName} {bytes : ByteArray} {rt : Option FieldType} {hh : List (Nat × Nat × Nat × Nat)} {As rest : List mV} {P : Int → mH → Prop} (C : mm_OK (d + 1) cs ss cc own nL ret x) (M : mm_MWH y bytes maxL rt hh n) (hw : Cond.methodLink own index y ∈ mm_T) (hst : Cond.static y ∈ mm_T) (hd : decode cc pc = .ok (.invokestatic index, 3)) (hM : mm_MetHZ x.2.1 d y bytes maxL rt hh As h (mm_pi P) mc ms) (hn : As.length = n) (hcat : mm_cats rest ≤ 8) (hf : a + mc ≤ cs ∧ b + ms ≤ ss) {stk : List mV} (hstk : stk = As.reverse ++ rest)
    (kr : ∀ (r : Int) (h1 : mH), P r h1 → mm_W x (a + (mm_zf h1).1) (b + (mm_zf h1).2) (pc + 3) ls (mI r :: rest) h1) : mm_W x a b pc ls stk h := by
  refine mm_afterZ (mc := mc) (ms := ms) (post := mm_pi P) C (rest := rest) (Aa := fun ad => (As.map (mm_j ad)).toArray) (fun v hv => by rw [hstk]; exact List.mem_append_right _ hv) ?_ (fun v h1 ⟨r, hv, hp⟩ => by subst hv; exact kr r h1 hp)
  obtain ⟨p, l, e, R, s, m, args, below, meth, c, G, ad0, A, n0, Q⟩ := x
  intro ad H locs jl h3 h4 h5 h6
  obtain ⟨c1, c2, c3, c4, c5, c6, c7, c8, c9, c10, c11, c12, c13, c14, c15⟩ := C
  have hokA : mm_okl h As := fun v hv => h6 v (by rw [hstk]; exact List.mem_append_left _ (List.mem_reverse.mpr hv))
  refine vx_runSX (As := As.map (mm_j ad)) (n := n) (Ts := mm_T) ⟨c1, c2, c3, c4, c5⟩ (hM G ad H.size) (mm_cwH c5 M hw hst ⟨c12, c13⟩) ⟨mm_blind, fun U hU hW => ?_⟩ rfl (by rw [List.length_map]; exact hn) (h4.1.trans c3) ?_ ?_ hd ⟨Nat.le_trans hf.1 c14, Nat.le_trans hf.2 c15⟩
  · exact mm_pre c6 c10 c7 h3 hokA hU hW
  · show stk.map (mm_j ad) = _
    rw [hstk, List.map_append, List.map_reverse]
  · show 2 * 0 + _ ≤ 8
    rw [mm_cats_j]
    omega
end MMZ

set_option maxRecDepth 100000 in
set_option maxHeartbeats 4000000 in
theorem c_X11_best_xe (l : Launch) (hl : l.stackTraces = false) (d : Nat) (hd : 9 ≤ d) (h : mH) (i0 : mm_inv h) (p1 : Int) (p2 : Int) (t0 : (p1 < 0 ∨ h.1 14 8 ≤ p1 ∨ p2 < 0)) : mm_Met l d yX11_best cX11_best 3 (some .int) [mR 0, mI p1, mI p2] h (mm_pi fun r h2 => (-2147483648 ≤ r ∧ r ≤ 2147483647) ∧ h2 = h) (mm_xp h) 2 12 := by
  refine mm_ofW (ls := [mR 0, mI p1, mI p2]) hl (by decide) rfl (Nat.le_of_ble_eq_true rfl) ?_
  intro x hxl C T hnm htb
  subst hxl
  have C1 := mm_OK_le (d' := d - 1 + 1) (by omega) C
  have C8 := mm_OK_le (d' := d - 8 + 8) (by omega) C
  refine mm_rng (fun hr _ => ?_)
  have ap1 : -2147483648 ≤ p1 ∧ p1 < 2147483648 := mm_ok_at hr (i := 1) rfl
  have ap2 : -2147483648 ≤ p2 ∧ p2 < 2147483648 := mm_ok_at hr (i := 2) rfl
  have f0 : mm_fr [] [] h h := mm_fr_rf
  have g1 : 0 ≤ h.1 14 8 ∧ h.1 14 8 ≤ 8 := i0.1 14 8
  refine mm_aload_n C (mm_dec dk_X11_best 0 rfl) rfl ?_
  refine mm_iload_n C (mm_dec dk_X11_best 1 rfl) rfl ?_
  refine mm_cVv (rest := []) C1 ev_X11_207 (mm_dec dk_X11_best 2 rfl) (c_X11_needCourse_e x.2.1 hl (d - 1) (by omega) h i0 p1) rfl rfl (Nat.le_of_ble_eq_true rfl) ⟨by decide, by decide⟩ rfl (fun h2c hp2 => ?_) (fun E hx q => mm_out C T htb (by decide) (by decide) (by exact Or.inl q))
  obtain ⟨z2, k2_0, k2_1⟩ := hp2
  rw [z2]
  refine mm_iload_n C (mm_dec dk_X11_best 3 rfl) rfl ?_
  refine mm_if_ge (tgt := 20) C (mm_dec dk_X11_best 4 rfl) (by decide) (fun c6 => ?_) (fun c6 => ?_)
  · skip
    exfalso; omega
  · skip
    exact mm_throwXW C8 T htb th_iae (i := 17) rfl (mm_dec dk_X11_best 5 rfl) (mm_dec dk_X11_best 6 rfl) (mm_dec dk_X11_best 7 rfl) (mm_dec dk_X11_best 8 rfl) (mm_dec dk_X11_best 9 rfl) (Nat.le_of_ble_eq_true rfl) ⟨by decide, by decide⟩ ⟨by decide, by decide⟩ (Or.inr ⟨rfl, rfl⟩)
set_option maxRecDepth 100000 in
set_option maxHeartbeats 4000000 in
theorem c_X11_needCourse_ok (l : Launch) (hl : l.stackTraces = false) (d : Nat) (hd : 1 ≤ d) (h : mH) (i0 : mm_inv h) (p1 : Int) (t0 : 0 ≤ p1) (t1 : p1 < h.1 14 8) : mm_Met l d yX11_needCourse cX11_needCourse 2 none [mR 0, mI p1] h (mm_pv fun h2 => h2 = h ∧ 0 ≤ p1 ∧ p1 < (h.1 14 8)) mm_nx 0 0 := by
  refine mm_ofW (ls := [mR 0, mI p1]) hl (by decide) rfl (Nat.le_of_ble_eq_true rfl) ?_
  intro x hxl C T hnm htb
  subst hxl
  have C1 := mm_OK_le (d' := d - 1 + 1) (by omega) C
  refine mm_rng (fun hr _ => ?_)
  have ap1 : -2147483648 ≤ p1 ∧ p1 < 2147483648 := mm_ok_at hr (i := 1) rfl
  have f0 : mm_fr [] [] h h := mm_fr_rf
  have g1 : 0 ≤ h.1 14 8 ∧ h.1 14 8 ≤ 8 := i0.1 14 8
  refine mm_iload_n C (mm_dec dk_X11_needCourse 0 rfl) rfl ?_
  refine mm_if_lt (tgt := 15) C (mm_dec dk_X11_needCourse 1 rfl) (by decide) (fun c1 => ?_) (fun c1 => ?_)
  · skip
    exfalso; omega
  · skip
    refine mm_iload_n C (mm_dec dk_X11_needCourse 2 rfl) rfl ?_
    refine mm_aload_n C (mm_dec dk_X11_needCourse 3 rfl) rfl ?_
    refine mm_getr (t := 14) C fl_X11_28 (mm_dec dk_X11_needCourse 4 rfl) rfl rfl (mm_ref i0 rfl) ?_
    refine mm_cVi (rest := [mI p1]) C1 ev_X11_200 (mm_dec dk_X11_needCourse 5 rfl) (c_X2_size x.2.1 hl (d - 1) (by omega) h i0 ) rfl rfl (Nat.le_of_ble_eq_true rfl) ⟨by decide, by decide⟩ rfl (fun r9 h9c hp9 => ?_) (fun _ _ q => q.elim)
    obtain ⟨z9, y9⟩ := hp9
    rw [z9, y9]
    refine mm_icmp_lt (tgt := 26) C (mm_dec dk_X11_needCourse 6 rfl) (by decide) (fun c12 => ?_) (fun c12 => ?_)
    · skip
      exact mm_vret C T (mm_dec dk_X11_needCourse 12 rfl) (by decide : 0 ≤ 0) (by decide : 0 ≤ 0) ⟨rfl, ⟨rfl, by omega, by omega⟩⟩
    · skip
      exfalso; omega
set_option maxRecDepth 100000 in
set_option maxHeartbeats 4000000 in
theorem c_X0_goThroughSets_z (l : Launch) (hl : l.stackTraces = false) (d : Nat) (hd : 2 ≤ d) (h : mH) (i0 : mm_inv h) (p1 : Int) : mm_Met l d yX0_goThroughSets cX0_goThroughSets 5 none [mR 58, mI p1] h (mm_pv fun h2 => mm_inv h2 ∧ mm_fr [(58, 5), (58, 7), (58, 8), (58, 9)] [125] h h2 ∧ h2.1 58 5 = 1) mm_nx 1 49152 := by
  refine mm_ofW (ls := [mR 58, mI p1, mU, mU, mU]) hl (by decide) rfl (Nat.le_of_ble_eq_true rfl) ?_
  intro x hxl C T hnm htb
  subst hxl
  have C1 := mm_OK_le (d' := d - 1 + 1) (by omega) C
  refine mm_rng (fun hr _ => ?_)
  have ap1 : -2147483648 ≤ p1 ∧ p1 < 2147483648 := mm_ok_at hr (i := 1) rfl
  have f0 : mm_fr [(58, 5), (58, 7), (58, 8), (58, 9)] [125] h h := mm_fr_rf
  have g1 : 0 ≤ h.1 58 5 ∧ h.1 58 5 ≤ 1 := i0.1 58 5
  refine mm_iconst C (mm_dec dk_X0_goThroughSets 0 rfl) ⟨by decide, by decide⟩ ?_
  refine mm_aload_n C (mm_dec dk_X0_goThroughSets 1 rfl) rfl ?_
  refine mm_geti C fl_X0_21 (mm_dec dk_X0_goThroughSets 2 rfl) rfl rfl (Or.inl rfl) ?_
  have g2 : 0 ≤ (h.1 58 6) ∧ (h.1 58 6) ≤ 12 := i0.1 58 6
  refine mm_ishl C (mm_dec dk_X0_goThroughSets 3 rfl) ?_
  have g3 : 1 ≤ (mm_vishl 1 (h.1 58 6)) ∧ (mm_vishl 1 (h.1 58 6)) ≤ 4096 := mm_shl1 ⟨by omega, by omega⟩
  refine mm_istore_nL (ls2 := [mR 58, mI p1, mI (mm_vishl 1 (h.1 58 6)), mU, mU]) C (mm_dec dk_X0_goThroughSets 4 rfl) (by decide) rfl ?_
  refine mm_aload_n C (mm_dec dk_X0_goThroughSets 5 rfl) rfl ?_
  have J22 : ∀ (h22_ : mH) (i22_ : mm_inv h22_) (f22_ : mm_fr [(58, 5), (58, 7), (58, 8), (58, 9)] [125] h h22_) (w22_0 : h22_.1 58 5 = 1), mm_W x 1 49152 22 [mR 58, mI p1, mI (mm_vishl 1 (h.1 58 6)), mU, mU] [] h22_ := by
    intro h22_ i22_ f22_ w22_0
    have g4 : 0 ≤ h22_.1 58 5 ∧ h22_.1 58 5 ≤ 1 := i22_.1 58 5
    refine mm_iconst C (mm_dec dk_X0_goThroughSets 12 rfl) ⟨by decide, by decide⟩ ?_
    have J24 : ∀ (n : Nat) (x24_3 : Int) (bx24_3 : 0 ≤ x24_3 ∧ x24_3 ≤ 49152) (h24_ : mH) (i24_ : mm_inv h24_) (f24_ : mm_fr [(58, 5), (58, 7), (58, 8), (58, 9)] [125] h h24_) (w24_0 : h24_.1 58 5 = 1), (49152 - x24_3 : Int) < n → mm_W x 1 49152 24 [mR 58, mI p1, mI (mm_vishl 1 (h.1 58 6)), mI x24_3, mU] [] h24_ := by
      intro n
      induction n with
      | zero =>
        intro x24_3 bx24_3 h24_ i24_ f24_ w24_0 hm
        have g5 : 0 ≤ h24_.1 58 5 ∧ h24_.1 58 5 ≤ 1 := i24_.1 58 5
        exfalso; omega
      | succ n ih24 =>
        intro x24_3 bx24_3 h24_ i24_ f24_ w24_0 hm24
        have g6 : 0 ≤ h24_.1 58 5 ∧ h24_.1 58 5 ≤ 1 := i24_.1 58 5
        refine mm_iload_n C (mm_dec dk_X0_goThroughSets 14 rfl) rfl ?_
        refine mm_iload_n C (mm_dec dk_X0_goThroughSets 15 rfl) rfl ?_
        refine mm_bipush C (mm_dec dk_X0_goThroughSets 16 rfl) ⟨by decide, by decide⟩ ?_
        refine mm_imul C (mm_dec dk_X0_goThroughSets 17 rfl) ⟨by omega, by omega⟩ ?_
        refine mm_icmp_ge (tgt := 46) C (mm_dec dk_X0_goThroughSets 18 rfl) (by decide) (fun c29 => ?_) (fun c29 => ?_)
        · skip
          refine mm_iconst C (mm_dec dk_X0_goThroughSets 26 rfl) ⟨by decide, by decide⟩ ?_
          have J48 : ∀ (n : Nat) (x48_3 : Int) (bx48_3 : 0 ≤ x48_3 ∧ x48_3 ≤ 12) (h48_ : mH) (i48_ : mm_inv h48_) (f48_ : mm_fr [(58, 5), (58, 7), (58, 8), (58, 9)] [125] h h48_) (w48_0 : h48_.1 58 5 = 1), (12 - x48_3 : Int) < n → mm_W x 1 49152 48 [mR 58, mI p1, mI (mm_vishl 1 (h.1 58 6)), mI x48_3, mU] [] h48_ := by
            intro n
            induction n with
            | zero =>
              intro x48_3 bx48_3 h48_ i48_ f48_ w48_0 hm
              have g7 : 0 ≤ h48_.1 58 5 ∧ h48_.1 58 5 ≤ 1 := i48_.1 58 5
              exfalso; omega
            | succ n ih48 =>
              intro x48_3 bx48_3 h48_ i48_ f48_ w48_0 hm48
              have g8 : 0 ≤ h48_.1 58 5 ∧ h48_.1 58 5 ≤ 1 := i48_.1 58 5
              refine mm_iload_n C (mm_dec dk_X0_goThroughSets 28 rfl) rfl ?_
              refine mm_aload_n C (mm_dec dk_X0_goThroughSets 29 rfl) rfl ?_
              refine mm_geti C fl_X0_21 (mm_dec dk_X0_goThroughSets 30 rfl) rfl rfl (Or.inl rfl) ?_
              have g9 : 0 ≤ (h48_.1 58 6) ∧ (h48_.1 58 6) ≤ 12 := i48_.1 58 6
              refine mm_icmp_ge (tgt := 82) C (mm_dec dk_X0_goThroughSets 31 rfl) (by decide) (fun c53 => ?_) (fun c53 => ?_)
              · skip
                refine mm_iconst C (mm_dec dk_X0_goThroughSets 48 rfl) ⟨by decide, by decide⟩ ?_
                have J84 : ∀ (n : Nat) (x84_3 : Int) (bx84_3 : 1 ≤ x84_3 ∧ x84_3 ≤ 4096) (h84_ : mH) (i84_ : mm_inv h84_) (f84_ : mm_fr [(58, 5), (58, 7), (58, 8), (58, 9)] [125] h h84_) (w84_0 : h84_.1 58 5 = 1), (4096 - x84_3 : Int) < n → mm_W x 1 49152 84 [mR 58, mI p1, mI (mm_vishl 1 (h.1 58 6)), mI x84_3, mU] [] h84_ := by
                  intro n
                  induction n with
                  | zero =>
                    intro x84_3 bx84_3 h84_ i84_ f84_ w84_0 hm
                    have g10 : 0 ≤ h84_.1 58 5 ∧ h84_.1 58 5 ≤ 1 := i84_.1 58 5
                    exfalso; omega
                  | succ n ih84 =>
                    intro x84_3 bx84_3 h84_ i84_ f84_ w84_0 hm84
                    have g11 : 0 ≤ h84_.1 58 5 ∧ h84_.1 58 5 ≤ 1 := i84_.1 58 5
                    refine mm_iload_n C (mm_dec dk_X0_goThroughSets 50 rfl) rfl ?_
                    refine mm_iload_n C (mm_dec dk_X0_goThroughSets 51 rfl) rfl ?_
                    refine mm_icmp_ge (tgt := 123) C (mm_dec dk_X0_goThroughSets 52 rfl) (by decide) (fun c86 => ?_) (fun c86 => ?_)
                    · skip
                      exact mm_vret C T (mm_dec dk_X0_goThroughSets 70 rfl) (by decide : 1 ≤ 1) (by decide : 49152 ≤ 49152) ⟨rfl, ⟨i84_, f84_, by omega⟩⟩
                    · skip
                      refine mm_aload_n C (mm_dec dk_X0_goThroughSets 53 rfl) rfl ?_
                      refine mm_iload_n C (mm_dec dk_X0_goThroughSets 54 rfl) rfl ?_
                      refine mm_iload_n C (mm_dec dk_X0_goThroughSets 55 rfl) rfl ?_
                      refine mm_cVi (rest := []) C1 ev_X0_93 (mm_dec dk_X0_goThroughSets 56 rfl) (c_X0_closeAndExtend x.2.1 hl (d - 1) (by omega) h84_ i84_ x84_3 p1 ⟨by omega, by omega⟩ (by omega)) rfl rfl (Nat.le_of_ble_eq_true rfl) ⟨by decide, by decide⟩ rfl (fun r92 h92c hp92 => ?_) (fun _ _ q => q.elim)
                      obtain ⟨b92, i92c, g92c⟩ := hp92
                      have f92c : mm_fr [(58, 5), (58, 7), (58, 8), (58, 9)] [125] h h92c := mm_fr_tr f84_ g92c (by decide +kernel)
                      have q92c_13 : h92c.1 58 5 = h84_.1 58 5 := g92c.1 58 5 (by decide)
                      refine mm_istoreL (ls2 := [mR 58, mI p1, mI (mm_vishl 1 (h.1 58 6)), mI x84_3, mI r92]) C (mm_dec dk_X0_goThroughSets 57 rfl) (by decide) rfl ?_
                      refine mm_iload C (mm_dec dk_X0_goThroughSets 58 rfl) rfl ?_
                      refine mm_iload_n C (mm_dec dk_X0_goThroughSets 59 rfl) rfl ?_
                      have J117 : ∀ (h117_ : mH) (i117_ : mm_inv h117_) (f117_ : mm_fr [(58, 5), (58, 7), (58, 8), (58, 9)] [125] h h117_) (w117_0 : h117_.1 58 5 = 1), mm_W x 1 49152 117 [mR 58, mI p1, mI (mm_vishl 1 (h.1 58 6)), mI x84_3, mU] [] h117_ := by
                        intro h117_ i117_ f117_ w117_0
                        have g14 : 0 ≤ h117_.1 58 5 ∧ h117_.1 58 5 ≤ 1 := i117_.1 58 5
                        refine mm_iincL (ls2 := [mR 58, mI p1, mI (mm_vishl 1 (h.1 58 6)), mI (x84_3 + 1), mU]) C (mm_dec dk_X0_goThroughSets 68 rfl) rfl (by decide) ⟨by omega, by omega⟩ rfl ?_
                        refine mm_goto (tgt := 84) C (mm_dec dk_X0_goThroughSets 69 rfl) (by decide) ?_
                        exact ih84 (x84_3 + 1) ⟨by omega, by omega⟩ h117_ i117_ f117_ (by omega) (by omega)
                      refine mm_icmp_gt (tgt := 117) C (mm_dec dk_X0_goThroughSets 60 rfl) (by decide) (fun c100 => ?_) (fun c100 => ?_)
                      · skip
                        refine mm_fgt 4 ?_
                        exact J117 h92c i92c f92c (by omega)
                      · skip
                        refine mm_iload C (mm_dec dk_X0_goThroughSets 61 rfl) rfl ?_
                        refine mm_ldc (z := 2000000000) C (mm_dec dk_X0_goThroughSets 62 rfl) kc_X0_88 (by decide) ?_
                        refine mm_icmp_eq (tgt := 117) C (mm_dec dk_X0_goThroughSets 63 rfl) (by decide) (fun c107 => ?_) (fun c107 => ?_)
                        · skip
                          refine mm_fgt 4 ?_
                          exact J117 h92c i92c f92c (by omega)
                        · skip
                          refine mm_aload_n C (mm_dec dk_X0_goThroughSets 64 rfl) rfl ?_
                          refine mm_iload_n C (mm_dec dk_X0_goThroughSets 65 rfl) rfl ?_
                          refine mm_iload C (mm_dec dk_X0_goThroughSets 66 rfl) rfl ?_
                          refine mm_cVv (rest := []) C1 ev_X0_97 (mm_dec dk_X0_goThroughSets 67 rfl) (c_X0_compare x.2.1 hl (d - 1) (by omega) h92c i92c x84_3 r92) rfl rfl (Nat.le_of_ble_eq_true rfl) ⟨by decide, by decide⟩ rfl (fun h114c hp114 => ?_) (fun _ _ q => q.elim)
                          obtain ⟨i114c, g114c⟩ := hp114
                          have f114c : mm_fr [(58, 5), (58, 7), (58, 8), (58, 9)] [125] h h114c := mm_fr_tr f92c g114c (by decide +kernel)
                          have q114c_16 : h114c.1 58 5 = h92c.1 58 5 := g114c.1 58 5 (by decide)
                          refine mm_fgt 4 ?_
                          exact J117 h114c i114c f114c (by omega)
                refine mm_istore_nL (ls2 := [mR 58, mI p1, mI (mm_vishl 1 (h.1 58 6)), mI 1, mU]) C (mm_dec dk_X0_goThroughSets 49 rfl) (by decide) rfl ?_
                exact J84 (((4096 - 1) : Int) + 1).toNat 1 ⟨by omega, by omega⟩ h48_ i48_ f48_ (by omega) (by omega)
              · skip
                refine mm_aload_n C (mm_dec dk_X0_goThroughSets 32 rfl) rfl ?_
                refine mm_iconst C (mm_dec dk_X0_goThroughSets 33 rfl) ⟨by decide, by decide⟩ ?_
                refine mm_iload_n C (mm_dec dk_X0_goThroughSets 34 rfl) rfl ?_
                refine mm_ishl C (mm_dec dk_X0_goThroughSets 35 rfl) ?_
                have g17 : 1 ≤ (mm_vishl 1 x48_3) ∧ (mm_vishl 1 x48_3) ≤ 2048 := mm_shl1b ⟨by omega, by omega⟩
                refine mm_iload_n C (mm_dec dk_X0_goThroughSets 36 rfl) rfl ?_
                refine mm_iconst C (mm_dec dk_X0_goThroughSets 37 rfl) ⟨by decide, by decide⟩ ?_
                refine mm_aload_n C (mm_dec dk_X0_goThroughSets 38 rfl) rfl ?_
                refine mm_getr (t := 59) C fl_X0_11 (mm_dec dk_X0_goThroughSets 39 rfl) rfl rfl (mm_ref i48_ rfl) ?_
                refine mm_sipush C (mm_dec dk_X0_goThroughSets 40 rfl) ⟨by decide, by decide⟩ ?_
                refine mm_iload_n C (mm_dec dk_X0_goThroughSets 41 rfl) rfl ?_
                refine mm_iadd C (mm_dec dk_X0_goThroughSets 42 rfl) ⟨by omega, by omega⟩ ?_
                refine mm_iald C (mm_dec dk_X0_goThroughSets 43 rfl) rfl (by omega) (by omega) ?_
                have g18 : -2147483648 ≤ (h48_.2.1 59 (156 + x48_3)) ∧ (h48_.2.1 59 (156 + x48_3)) ≤ 2147483647 := i48_.2.1 59 (156 + x48_3)
                refine mm_iload_n C (mm_dec dk_X0_goThroughSets 44 rfl) rfl ?_
                refine mm_cVv (rest := []) C1 ev_X0_89 (mm_dec dk_X0_goThroughSets 45 rfl) (c_X0_reach x.2.1 hl (d - 1) (by omega) h48_ i48_ (mm_vishl 1 x48_3) x48_3 0 (h48_.2.1 59 (156 + x48_3)) p1 ⟨by omega, by omega⟩ ⟨by omega, by omega⟩ (by omega)) rfl rfl (Nat.le_of_ble_eq_true rfl) ⟨by decide, by decide⟩ rfl (fun h73c hp73 => ?_) (fun _ _ q => q.elim)
                obtain ⟨i73c, g73c⟩ := hp73
                have f73c : mm_fr [(58, 5), (58, 7), (58, 8), (58, 9)] [125] h h73c := mm_fr_tr f48_ g73c (by decide +kernel)
                have q73c_20 : h73c.1 58 5 = h48_.1 58 5 := g73c.1 58 5 (by decide)
                have q73c_21 : h73c.1 58 6 = h48_.1 58 6 := g73c.1 58 6 (by decide)
                refine mm_iincL (ls2 := [mR 58, mI p1, mI (mm_vishl 1 (h.1 58 6)), mI (x48_3 + 1), mU]) C (mm_dec dk_X0_goThroughSets 46 rfl) rfl (by decide) ⟨by omega, by omega⟩ rfl ?_
                refine mm_goto (tgt := 48) C (mm_dec dk_X0_goThroughSets 47 rfl) (by decide) ?_
                exact ih48 (x48_3 + 1) ⟨by omega, by omega⟩ h73c i73c f73c (by omega) (by omega)
          refine mm_istore_nL (ls2 := [mR 58, mI p1, mI (mm_vishl 1 (h.1 58 6)), mI 0, mU]) C (mm_dec dk_X0_goThroughSets 27 rfl) (by decide) rfl ?_
          exact J48 (((12 - 0) : Int) + 1).toNat 0 ⟨by omega, by omega⟩ h24_ i24_ f24_ (by omega) (by omega)
        · skip
          refine mm_aload_n C (mm_dec dk_X0_goThroughSets 19 rfl) rfl ?_
          refine mm_getr (t := 125) C fl_X0_18 (mm_dec dk_X0_goThroughSets 20 rfl) rfl rfl (by omega) ?_
          refine mm_iload_n C (mm_dec dk_X0_goThroughSets 21 rfl) rfl ?_
          refine mm_ldc (z := 2000000000) C (mm_dec dk_X0_goThroughSets 22 rfl) kc_X0_88 (by decide) ?_
          refine mm_iast C (mm_dec dk_X0_goThroughSets 23 rfl) rfl (by omega) (by omega) ?_
          have i4 : mm_inv (mm_pa h24_ 125 x24_3 2000000000) := mm_inv_pa i24_ (show -2147483648 ≤ 2000000000 ∧ 2000000000 ≤ 2147483647 from ⟨by omega, by omega⟩)
          have f4 : mm_fr [(58, 5), (58, 7), (58, 8), (58, 9)] [125] h (mm_pa h24_ 125 x24_3 2000000000) := mm_fr_pa f24_ (by decide)
          obtain ⟨h4, eh4⟩ : ∃ z, z = mm_pa h24_ 125 x24_3 2000000000 := ⟨_, rfl⟩
          rw [← eh4] at i4 f4 ⊢
          have qh4_22 : h4.1 58 5 = h24_.1 58 5 := by rw [eh4]; rfl
          refine mm_iincL (ls2 := [mR 58, mI p1, mI (mm_vishl 1 (h.1 58 6)), mI (x24_3 + 1), mU]) C (mm_dec dk_X0_goThroughSets 24 rfl) rfl (by decide) ⟨by omega, by omega⟩ rfl ?_
          refine mm_goto (tgt := 24) C (mm_dec dk_X0_goThroughSets 25 rfl) (by decide) ?_
          exact ih24 (x24_3 + 1) ⟨by omega, by omega⟩ h4 i4 f4 (by omega) (by omega)
    refine mm_istore_nL (ls2 := [mR 58, mI p1, mI (mm_vishl 1 (h.1 58 6)), mI 0, mU]) C (mm_dec dk_X0_goThroughSets 13 rfl) (by decide) rfl ?_
    exact J24 (((49152 - 0) : Int) + 1).toNat 0 ⟨by omega, by omega⟩ h22_ i22_ f22_ (by omega) (by omega)
  by_cases ct : h.1 58 5 = 0
  · refine mm_getn (t := 125) C fl_X0_18 (mm_dec dk_X0_goThroughSets 6 rfl) rfl rfl ct ?_
    refine mm_ifnonnullN C (mm_dec dk_X0_goThroughSets 7 rfl) ?_
    refine mm_aload_n C (mm_dec dk_X0_goThroughSets 8 rfl) rfl ?_
    refine mm_ldc (z := 49152) C (mm_dec dk_X0_goThroughSets 9 rfl) kc_X0_87 (by decide) ?_
    refine mm_newa (atype := .int) (n := 125) (len := 49152) C ac_int (mm_dec dk_X0_goThroughSets 10 rfl) (mm_tb_n i0 ct) (by decide) rfl (Or.inl ⟨rfl, rfl⟩) rfl (by decide) (by decide) (by decide) ?_
    refine mm_putr C fl_X0_18 (mm_dec dk_X0_goThroughSets 11 rfl) rfl rfl rfl (fun q => ⟨rfl, rfl⟩) (by decide) ?_
    have i5 : mm_inv (mm_tb1 h) := mm_inv_tb i0 ct
    have f5 : mm_fr [(58, 5), (58, 7), (58, 8), (58, 9)] [125] h (mm_tb1 h) := mm_fr_tb f0 i0 ct i0 (by decide) (by decide)
    have qh5 : (mm_tb1 h).1 58 5 = 1 := mm_tb1_at _
    change mm_W _ _ _ _ _ _ (mm_tb1 h)
    obtain ⟨h5, eh5⟩ : ∃ z, z = mm_tb1 h := ⟨_, rfl⟩
    rw [← eh5] at i5 f5 qh5 ⊢
    exact J22 h5 i5 f5 (by omega)
  · have ct2 : 0 ≤ h.1 58 5 ∧ h.1 58 5 ≤ 1 := i0.1 58 5
    refine mm_getr (t := 125) C fl_X0_18 (mm_dec dk_X0_goThroughSets 6 rfl) rfl rfl ct ?_
    refine mm_ifnonnull (tgt := 22) C (mm_dec dk_X0_goThroughSets 7 rfl) (by decide) ?_
    refine mm_widen (k := 1) (n := 49152) (by decide) (by decide) ?_
    exact J22 h i0 f0 (by omega)
set_option maxRecDepth 100000 in
set_option maxHeartbeats 4000000 in
theorem c_X0_search_z (l : Launch) (hl : l.stackTraces = false) (d : Nat) (hd : 5 ≤ d) (h : mH) (i0 : mm_inv h) (p1 : Int) (p2 : Int) (bp1 : 0 ≤ p1 ∧ p1 ≤ 7) : mm_MetZ l d yX0_search cX0_search 4 (some .int) [mR 58, mI p1, mI p2] h (mm_pi fun r h2 => (-2147483648 ≤ r ∧ r ≤ 2147483647) ∧ mm_inv h2 ∧ mm_fr [(7, 7), (7, 8), (58, 5), (58, 6), (58, 7), (58, 8), (58, 9), (58, 10)] [8, 9, 10, 11, 59, 60, 125] h h2) 1 49152 := by
  refine mm_ofWZ (ls := [mR 58, mI p1, mI p2, mU]) hl (by decide) rfl (Nat.le_of_ble_eq_true rfl) ?_
  intro x hxl C T
  subst hxl
  have C1 := mm_OK_le (d' := d - 1 + 1) (by omega) C
  refine mm_rng (fun hr _ => ?_)
  have ap1 : -2147483648 ≤ p1 ∧ p1 < 2147483648 := mm_ok_at hr (i := 1) rfl
  have ap2 : -2147483648 ≤ p2 ∧ p2 < 2147483648 := mm_ok_at hr (i := 2) rfl
  have f0 : mm_fr [(7, 7), (7, 8), (58, 5), (58, 6), (58, 7), (58, 8), (58, 9), (58, 10)] [8, 9, 10, 11, 59, 60, 125] h h := mm_fr_rf
  have g1 : 0 ≤ h.1 58 5 ∧ h.1 58 5 ≤ 1 := i0.1 58 5
  refine mm_aload_n C (mm_dec dk_X0_search 0 rfl) rfl ?_
  refine mm_aload_n C (mm_dec dk_X0_search 1 rfl) rfl ?_
  refine mm_getr (t := 14) C fl_X0_46 (mm_dec dk_X0_search 2 rfl) rfl rfl (mm_ref i0 rfl) ?_
  refine mm_iload_n C (mm_dec dk_X0_search 3 rfl) rfl ?_
  refine mm_iconst C (mm_dec dk_X0_search 4 rfl) ⟨by decide, by decide⟩ ?_
  refine mm_aload_n C (mm_dec dk_X0_search 5 rfl) rfl ?_
  refine mm_getr (t := 60) C fl_X0_15 (mm_dec dk_X0_search 6 rfl) rfl rfl (mm_ref i0 rfl) ?_
  refine mm_cVi (rest := [mR 58]) C1 ev_X0_50 (mm_dec dk_X0_search 7 rfl) (c_X2_fillRow_60 x.2.1 hl (d - 1) (by omega) h i0 p1 0 ⟨by omega, by omega⟩ ⟨by omega, by omega⟩) rfl rfl (Nat.le_of_ble_eq_true rfl) ⟨by decide, by decide⟩ rfl (fun r11 h11c hp11 => ?_) (fun _ _ q => q.elim)
  obtain ⟨b11, i11c, g11c⟩ := hp11
  have f11c : mm_fr [(7, 7), (7, 8), (58, 5), (58, 6), (58, 7), (58, 8), (58, 9), (58, 10)] [8, 9, 10, 11, 59, 60, 125] h h11c := mm_fr_tr f0 g11c (by decide +kernel)
  have q11c_3 : h11c.1 58 5 = h.1 58 5 := g11c.1 58 5 (by decide)
  refine mm_puti C fl_X0_21 (mm_dec dk_X0_search 8 rfl) rfl rfl rfl (Or.inl ⟨rfl, rfl⟩) ?_
  have i2 : mm_inv (mm_pf h11c 58 6 r11) := mm_inv_pf i11c (show 0 ≤ r11 ∧ r11 ≤ 12 from ⟨by omega, by omega⟩) (by decide)
  have f2 : mm_fr [(7, 7), (7, 8), (58, 5), (58, 6), (58, 7), (58, 8), (58, 9), (58, 10)] [8, 9, 10, 11, 59, 60, 125] h (mm_pf h11c 58 6 r11) := mm_fr_pf f11c (by decide)
  obtain ⟨h2, eh2⟩ : ∃ z, z = mm_pf h11c 58 6 r11 := ⟨_, rfl⟩
  rw [← eh2] at i2 f2 ⊢
  have qh2 : h2.1 58 6 = r11 := by rw [eh2]; exact mm_pf_same _ _ _ _
  have qh2_4 : h2.1 58 5 = h11c.1 58 5 := by rw [eh2]; exact mm_pf_ne _ _ (by decide)
  refine mm_aload_n C (mm_dec dk_X0_search 9 rfl) rfl ?_
  refine mm_cVv (rest := []) C1 ev_X0_56 (mm_dec dk_X0_search 10 rfl) (c_X0_measureLegs x.2.1 hl (d - 1) (by omega) h2 i2 ) rfl rfl (Nat.le_of_ble_eq_true rfl) ⟨by decide, by decide⟩ rfl (fun h18c hp18 => ?_) (fun _ _ q => q.elim)
  obtain ⟨i18c, g18c⟩ := hp18
  have f18c : mm_fr [(7, 7), (7, 8), (58, 5), (58, 6), (58, 7), (58, 8), (58, 9), (58, 10)] [8, 9, 10, 11, 59, 60, 125] h h18c := mm_fr_tr f2 g18c (by decide +kernel)
  have q18c_6 : h18c.1 58 5 = h2.1 58 5 := g18c.1 58 5 (by decide)
  have q18c_7 : h18c.1 58 6 = h2.1 58 6 := g18c.1 58 6 (by decide)
  refine mm_aload_n C (mm_dec dk_X0_search 11 rfl) rfl ?_
  refine mm_getr (t := 59) C fl_X0_11 (mm_dec dk_X0_search 12 rfl) rfl rfl (mm_ref i18c rfl) ?_
  refine mm_sipush C (mm_dec dk_X0_search 13 rfl) ⟨by decide, by decide⟩ ?_
  refine mm_iald C (mm_dec dk_X0_search 14 rfl) rfl (by omega) (by omega) ?_
  have g8 : -2147483648 ≤ (h18c.2.1 59 168) ∧ (h18c.2.1 59 168) ≤ 2147483647 := i18c.2.1 59 168
  refine mm_istore_nL (ls2 := [mR 58, mI p1, mI p2, mI (h18c.2.1 59 168)]) C (mm_dec dk_X0_search 15 rfl) (by decide) rfl ?_
  refine mm_iload_n C (mm_dec dk_X0_search 16 rfl) rfl ?_
  refine mm_iconst C (mm_dec dk_X0_search 17 rfl) ⟨by decide, by decide⟩ ?_
  have J40 : mm_W x 0 0 40 [mU, mU, mU, mU] [] h18c := by
    refine mm_iconst C (mm_dec dk_X0_search 22 rfl) ⟨by decide, by decide⟩ ?_
    exact mm_iretZ C T (mm_dec dk_X0_search 23 rfl) (by decide : 0 ≤ 1) (by decide : 0 ≤ 49152) (⟨Nat.zero_le _, Nat.zero_le _⟩) ⟨_, rfl, ⟨⟨by omega, by omega⟩, i18c, f18c⟩⟩
  refine mm_icmp_eq (tgt := 40) C (mm_dec dk_X0_search 18 rfl) (by decide) (fun c32 => ?_) (fun c32 => ?_)
  · skip
    refine mm_fgt 0 ?_
    refine mm_fgt 1 ?_
    refine mm_fgt 2 ?_
    refine mm_fgt 3 ?_
    exact J40
  · skip
    refine mm_iload_n C (mm_dec dk_X0_search 19 rfl) rfl ?_
    refine mm_iload_n C (mm_dec dk_X0_search 20 rfl) rfl ?_
    refine mm_icmp_le (tgt := 42) C (mm_dec dk_X0_search 21 rfl) (by decide) (fun c37 => ?_) (fun c37 => ?_)
    · skip
      refine mm_aload_n C (mm_dec dk_X0_search 24 rfl) rfl ?_
      refine mm_iconst C (mm_dec dk_X0_search 25 rfl) ⟨by decide, by decide⟩ ?_
      refine mm_puti C fl_X0_34 (mm_dec dk_X0_search 26 rfl) rfl rfl rfl (Or.inr ⟨rfl, rfl, by omega⟩) ?_
      have i4 : mm_inv (mm_pf h18c 58 10 1) := mm_inv_pf i18c (show 0 ≤ 1 ∧ 1 ≤ 1 from ⟨by omega, by omega⟩) (by decide)
      have f4 : mm_fr [(7, 7), (7, 8), (58, 5), (58, 6), (58, 7), (58, 8), (58, 9), (58, 10)] [8, 9, 10, 11, 59, 60, 125] h (mm_pf h18c 58 10 1) := mm_fr_pf f18c (by decide)
      obtain ⟨h4, eh4⟩ : ∃ z, z = mm_pf h18c 58 10 1 := ⟨_, rfl⟩
      rw [← eh4] at i4 f4 ⊢
      have qh4 : h4.1 58 10 = 1 := by rw [eh4]; exact mm_pf_same _ _ _ _
      have qh4_9 : h4.1 58 5 = h18c.1 58 5 := by rw [eh4]; exact mm_pf_ne _ _ (by decide)
      have qh4_10 : h4.1 58 6 = h18c.1 58 6 := by rw [eh4]; exact mm_pf_ne _ _ (by decide)
      refine mm_aload_n C (mm_dec dk_X0_search 27 rfl) rfl ?_
      refine mm_iconst C (mm_dec dk_X0_search 28 rfl) ⟨by decide, by decide⟩ ?_
      refine mm_puti C fl_X0_31 (mm_dec dk_X0_search 29 rfl) rfl rfl rfl (Or.inl ⟨rfl, rfl⟩) ?_
      have i5 : mm_inv (mm_pf h4 58 9 0) := mm_inv_pf i4 (show -2147483648 ≤ 0 ∧ 0 ≤ 2147483647 from ⟨by omega, by omega⟩) (by decide)
      have f5 : mm_fr [(7, 7), (7, 8), (58, 5), (58, 6), (58, 7), (58, 8), (58, 9), (58, 10)] [8, 9, 10, 11, 59, 60, 125] h (mm_pf h4 58 9 0) := mm_fr_pf f4 (by decide)
      obtain ⟨h5, eh5⟩ : ∃ z, z = mm_pf h4 58 9 0 := ⟨_, rfl⟩
      rw [← eh5] at i5 f5 ⊢
      have qh5 : h5.1 58 9 = 0 := by rw [eh5]; exact mm_pf_same _ _ _ _
      have qh5_11 : h5.1 58 5 = h4.1 58 5 := by rw [eh5]; exact mm_pf_ne _ _ (by decide)
      have qh5_12 : h5.1 58 6 = h4.1 58 6 := by rw [eh5]; exact mm_pf_ne _ _ (by decide)
      have qh5_13 : h5.1 58 10 = h4.1 58 10 := by rw [eh5]; exact mm_pf_ne _ _ (by decide)
      refine mm_aload_n C (mm_dec dk_X0_search 30 rfl) rfl ?_
      refine mm_iconst C (mm_dec dk_X0_search 31 rfl) ⟨by decide, by decide⟩ ?_
      refine mm_puti C fl_X0_25 (mm_dec dk_X0_search 32 rfl) rfl rfl rfl (Or.inl ⟨rfl, rfl⟩) ?_
      have i6 : mm_inv (mm_pf h5 58 7 0) := mm_inv_pf i5 (show -2147483648 ≤ 0 ∧ 0 ≤ 2147483647 from ⟨by omega, by omega⟩) (by decide)
      have f6 : mm_fr [(7, 7), (7, 8), (58, 5), (58, 6), (58, 7), (58, 8), (58, 9), (58, 10)] [8, 9, 10, 11, 59, 60, 125] h (mm_pf h5 58 7 0) := mm_fr_pf f5 (by decide)
      obtain ⟨h6, eh6⟩ : ∃ z, z = mm_pf h5 58 7 0 := ⟨_, rfl⟩
      rw [← eh6] at i6 f6 ⊢
      have qh6 : h6.1 58 7 = 0 := by rw [eh6]; exact mm_pf_same _ _ _ _
      have qh6_14 : h6.1 58 5 = h5.1 58 5 := by rw [eh6]; exact mm_pf_ne _ _ (by decide)
      have qh6_15 : h6.1 58 6 = h5.1 58 6 := by rw [eh6]; exact mm_pf_ne _ _ (by decide)
      have qh6_16 : h6.1 58 9 = h5.1 58 9 := by rw [eh6]; exact mm_pf_ne _ _ (by decide)
      have qh6_17 : h6.1 58 10 = h5.1 58 10 := by rw [eh6]; exact mm_pf_ne _ _ (by decide)
      refine mm_aload_n C (mm_dec dk_X0_search 33 rfl) rfl ?_
      refine mm_iload_n C (mm_dec dk_X0_search 34 rfl) rfl ?_
      refine mm_puti C fl_X0_28 (mm_dec dk_X0_search 35 rfl) rfl rfl rfl (Or.inl ⟨rfl, rfl⟩) ?_
      have i7 : mm_inv (mm_pf h6 58 8 (h18c.2.1 59 168)) := mm_inv_pf i6 (show -2147483648 ≤ (h18c.2.1 59 168) ∧ (h18c.2.1 59 168) ≤ 2147483647 from ⟨by omega, by omega⟩) (by decide)
      have f7 : mm_fr [(7, 7), (7, 8), (58, 5), (58, 6), (58, 7), (58, 8), (58, 9), (58, 10)] [8, 9, 10, 11, 59, 60, 125] h (mm_pf h6 58 8 (h18c.2.1 59 168)) := mm_fr_pf f6 (by decide)
      obtain ⟨h7, eh7⟩ : ∃ z, z = mm_pf h6 58 8 (h18c.2.1 59 168) := ⟨_, rfl⟩
      rw [← eh7] at i7 f7 ⊢
      have qh7 : h7.1 58 8 = (h18c.2.1 59 168) := by rw [eh7]; exact mm_pf_same _ _ _ _
      have qh7_18 : h7.1 58 5 = h6.1 58 5 := by rw [eh7]; exact mm_pf_ne _ _ (by decide)
      have qh7_19 : h7.1 58 6 = h6.1 58 6 := by rw [eh7]; exact mm_pf_ne _ _ (by decide)
      have qh7_20 : h7.1 58 7 = h6.1 58 7 := by rw [eh7]; exact mm_pf_ne _ _ (by decide)
      have qh7_21 : h7.1 58 9 = h6.1 58 9 := by rw [eh7]; exact mm_pf_ne _ _ (by decide)
      have qh7_22 : h7.1 58 10 = h6.1 58 10 := by rw [eh7]; exact mm_pf_ne _ _ (by decide)
      refine mm_aload_n C (mm_dec dk_X0_search 36 rfl) rfl ?_
      refine mm_iload_n C (mm_dec dk_X0_search 37 rfl) rfl ?_
      refine mm_cVv (rest := []) C1 ev_X0_59 (mm_dec dk_X0_search 38 rfl) (c_X0_goThroughSets_z x.2.1 hl (d - 1) (by omega) h7 i7 p2) rfl rfl (Nat.le_of_ble_eq_true rfl) ⟨by decide, by decide⟩ rfl (fun h64c hp64 => ?_) (fun _ _ q => q.elim)
      obtain ⟨i64c, g64c, y64_0⟩ := hp64
      have f64c : mm_fr [(7, 7), (7, 8), (58, 5), (58, 6), (58, 7), (58, 8), (58, 9), (58, 10)] [8, 9, 10, 11, 59, 60, 125] h h64c := mm_fr_tr f7 g64c (by decide +kernel)
      have q64c_24 : h64c.1 58 6 = h7.1 58 6 := g64c.1 58 6 (by decide)
      have q64c_25 : h64c.1 58 10 = h7.1 58 10 := g64c.1 58 10 (by decide)
      have g26 : 0 ≤ (h64c.1 58 5) ∧ (h64c.1 58 5) ≤ 1 := i64c.1 58 5
      refine mm_aload_n C (mm_dec dk_X0_search 39 rfl) rfl ?_
      refine mm_geti C fl_X0_25 (mm_dec dk_X0_search 40 rfl) rfl rfl (Or.inl rfl) ?_
      have g27 : -2147483648 ≤ (h64c.1 58 7) ∧ (h64c.1 58 7) ≤ 2147483647 := i64c.1 58 7
      exact mm_iretZ C T (mm_dec dk_X0_search 41 rfl) (by decide : 1 ≤ 1) (by decide : 49152 ≤ 49152) (mm_zf_1 (by omega)) ⟨_, rfl, ⟨⟨by omega, by omega⟩, i64c, f64c⟩⟩
    · skip
      refine mm_fgt 0 ?_
      refine mm_fgt 1 ?_
      refine mm_fgt 2 ?_
      refine mm_fgt 3 ?_
      exact J40
set_option maxRecDepth 100000 in
set_option maxHeartbeats 4000000 in
theorem c_X11_best_ok (l : Launch) (hl : l.stackTraces = false) (d : Nat) (hd : 6 ≤ d) (h : mH) (i0 : mm_inv h) (p1 : Int) (p2 : Int) (t0 : 0 ≤ p1) (t1 : p1 < h.1 14 8) (t2 : 0 ≤ p2) : mm_MetZ l d yX11_best cX11_best 3 (some .int) [mR 0, mI p1, mI p2] h (mm_pi fun r h2 => (-2147483648 ≤ r ∧ r ≤ 2147483647) ∧ mm_inv h2 ∧ mm_fr [(7, 7), (7, 8), (58, 5), (58, 6), (58, 7), (58, 8), (58, 9), (58, 10)] [8, 9, 10, 11, 59, 60, 125] h h2) 1 49152 := by
  refine mm_ofWZ (ls := [mR 0, mI p1, mI p2]) hl (by decide) rfl (Nat.le_of_ble_eq_true rfl) ?_
  intro x hxl C T
  subst hxl
  have C1 := mm_OK_le (d' := d - 1 + 1) (by omega) C
  refine mm_rng (fun hr _ => ?_)
  have ap1 : -2147483648 ≤ p1 ∧ p1 < 2147483648 := mm_ok_at hr (i := 1) rfl
  have ap2 : -2147483648 ≤ p2 ∧ p2 < 2147483648 := mm_ok_at hr (i := 2) rfl
  have f0 : mm_fr [(7, 7), (7, 8), (58, 5), (58, 6), (58, 7), (58, 8), (58, 9), (58, 10)] [8, 9, 10, 11, 59, 60, 125] h h := mm_fr_rf
  have g1 : 0 ≤ h.1 14 8 ∧ h.1 14 8 ≤ 8 := i0.1 14 8
  refine mm_aload_n C (mm_dec dk_X11_best 0 rfl) rfl ?_
  refine mm_iload_n C (mm_dec dk_X11_best 1 rfl) rfl ?_
  refine mm_cVv (rest := []) C1 ev_X11_207 (mm_dec dk_X11_best 2 rfl) (c_X11_needCourse_ok x.2.1 hl (d - 1) (by omega) h i0 p1 (by omega) (by omega)) rfl rfl (Nat.le_of_ble_eq_true rfl) ⟨by decide, by decide⟩ rfl (fun h2c hp2 => ?_) (fun _ _ q => q.elim)
  obtain ⟨z2, k2_0, k2_1⟩ := hp2
  rw [z2]
  refine mm_iload_n C (mm_dec dk_X11_best 3 rfl) rfl ?_
  refine mm_if_ge (tgt := 20) C (mm_dec dk_X11_best 4 rfl) (by decide) (fun c6 => ?_) (fun c6 => ?_)
  · skip
    refine mm_aload_n C (mm_dec dk_X11_best 10 rfl) rfl ?_
    refine mm_getr (t := 14) C fl_X11_28 (mm_dec dk_X11_best 11 rfl) rfl rfl (mm_ref i0 rfl) ?_
    refine mm_iload_n C (mm_dec dk_X11_best 12 rfl) rfl ?_
    refine mm_cVi (rest := []) C1 ev_X11_220 (mm_dec dk_X11_best 13 rfl) (c_X2_isFree x.2.1 hl (d - 1) (by omega) h i0 p1 ⟨by omega, by omega⟩) rfl rfl (Nat.le_of_ble_eq_true rfl) ⟨by decide, by decide⟩ rfl (fun r25 h25c hp25 => ?_) (fun _ _ q => q.elim)
    obtain ⟨z25, y25⟩ := hp25
    rw [z25, y25]
    have g4 : 0 ≤ (h.2.1 17 p1) ∧ (h.2.1 17 p1) ≤ 1 := i0.2.1 17 p1
    refine mm_if_ne (tgt := 33) C (mm_dec dk_X11_best 14 rfl) (by decide) (fun c28 => ?_) (fun c28 => ?_)
    · skip
      refine mm_aload_n C (mm_dec dk_X11_best 17 rfl) rfl ?_
      refine mm_getr (t := 58) C fl_X11_78 (mm_dec dk_X11_best 18 rfl) rfl rfl (mm_ref i0 rfl) ?_
      refine mm_iload_n C (mm_dec dk_X11_best 19 rfl) rfl ?_
      refine mm_iload_n C (mm_dec dk_X11_best 20 rfl) rfl ?_
      refine mm_cViZ (rest := []) C1 ev_X11_357 (mm_dec dk_X11_best 21 rfl) (c_X0_search_z x.2.1 hl (d - 1) (by omega) h i0 p1 p2 ⟨by omega, by omega⟩) rfl rfl (Nat.le_of_ble_eq_true rfl) ⟨by decide, by decide⟩ rfl (fun r39 h39c hp39 => ?_)
      obtain ⟨b39, i39c, g39c⟩ := hp39
      have f39c : mm_fr [(7, 7), (7, 8), (58, 5), (58, 6), (58, 7), (58, 8), (58, 9), (58, 10)] [8, 9, 10, 11, 59, 60, 125] h h39c := mm_fr_tr f0 g39c (by decide +kernel)
      have q39c_6 : h39c.1 14 8 = h.1 14 8 := g39c.1 14 8 (by decide)
      exact mm_iretZ C T (mm_dec dk_X11_best 22 rfl) (by have := (mm_zf_le h39c).1; omega) (by have := (mm_zf_le h39c).2; omega) ⟨by omega, by omega⟩ ⟨_, rfl, ⟨⟨by omega, by omega⟩, i39c, f39c⟩⟩
    · skip
      refine mm_iconst C (mm_dec dk_X11_best 15 rfl) ⟨by decide, by decide⟩ ?_
      exact mm_iretZ C T (mm_dec dk_X11_best 16 rfl) (by decide : 0 ≤ 1) (by decide : 0 ≤ 49152) (⟨Nat.zero_le _, Nat.zero_le _⟩) ⟨_, rfl, ⟨⟨by omega, by omega⟩, i0, f0⟩⟩
  · skip
    exfalso; omega
set_option maxRecDepth 100000 in
set_option maxHeartbeats 4000000 in
theorem c_L_best_ok (l : Launch) (hl : l.stackTraces = false) (d : Nat) (hd : 7 ≤ d) (h : mH) (i0 : mm_inv h) (p1 : Int) (p2 : Int) (t0 : 0 ≤ p1) (t1 : p1 < h.1 14 8) (t2 : 0 ≤ p2) : mm_MetHZ l d yL_best cL_best 5 (some .int) [(0, 10, 13, 13), (0, 10, 17, 58)] [mR 0, mI p1, mI p2, mR 124] h (mm_pi fun r h2 => (0 ≤ r ∧ r ≤ 2) ∧ mm_inv h2 ∧ mm_fr [(7, 7), (7, 8), (58, 5), (58, 6), (58, 7), (58, 8), (58, 9), (58, 10)] [8, 9, 10, 11, 59, 60, 124, 125] h h2) 1 49152 := by
  refine mm_ofWHZ (ls := [mR 0, mI p1, mI p2, mR 124, mU]) hl (by decide) rfl (Nat.le_of_ble_eq_true rfl) ?_
  intro x hxl C T
  subst hxl
  have C1 := mm_OK_le (d' := d - 1 + 1) (by omega) C
  refine mm_aload_n C (mm_dec dk_L_best 0 rfl) rfl ?_
  refine mm_iconst C (mm_dec dk_L_best 1 rfl) ⟨by decide, by decide⟩ ?_
  refine mm_aload_n C (mm_dec dk_L_best 2 rfl) rfl ?_
  refine mm_iload_n C (mm_dec dk_L_best 3 rfl) rfl ?_
  refine mm_iload_n C (mm_dec dk_L_best 4 rfl) rfl ?_
  refine mm_cViZ (rest := [mI 0, mR 124]) C1 ev_L_90 (mm_dec dk_L_best 5 rfl) (c_X11_best_ok x.2.1 hl (d - 1) (by omega) h i0 p1 p2 t0 t1 t2) rfl rfl (Nat.le_of_ble_eq_true rfl) ⟨by decide, by decide⟩ rfl (fun r hc hp => ?_)
  obtain ⟨b, ic, gc⟩ := hp
  have fc : mm_fr [(7, 7), (7, 8), (58, 5), (58, 6), (58, 7), (58, 8), (58, 9), (58, 10)] [8, 9, 10, 11, 59, 60, 124, 125] h hc := mm_fr_tr (mm_fr_rf (h := h)) gc (by decide +kernel)
  have zl := mm_zf_le hc
  refine mm_i2l C (mm_dec dk_L_best 6 rfl) ?_
  refine mm_last C (mm_dec dk_L_best 7 rfl) rfl (by omega) (by omega) ?_
  refine mm_goto (tgt := 21) C (mm_dec dk_L_best 8 rfl) (by decide) ?_
  refine mm_iconst C (mm_dec dk_L_best 15 rfl) ⟨by decide, by decide⟩ ?_
  exact mm_iretZ C T (mm_dec dk_L_best 16 rfl) (by omega) (by omega) (show 0 + (mm_zf hc).1 ≤ (mm_zf hc).1 ∧ 0 + (mm_zf hc).2 ≤ (mm_zf hc).2 from ⟨by omega, by omega⟩) ⟨_, rfl, ⟨by decide, by decide⟩, mm_inv_pa ic (show -9223372036854775808 ≤ r ∧ r ≤ 9223372036854775807 from ⟨by omega, by omega⟩), mm_fr_pa fc (by decide)⟩
set_option maxRecDepth 100000 in
set_option maxHeartbeats 4000000 in
theorem c_L_best_x (l : Launch) (hl : l.stackTraces = false) (d : Nat) (hd : 10 ≤ d) (h : mH) (i0 : mm_inv h) (p1 : Int) (p2 : Int) (t0 : (p1 < 0 ∨ h.1 14 8 ≤ p1 ∨ p2 < 0)) : mm_MetH l d yL_best cL_best 5 (some .int) [(0, 10, 13, 13), (0, 10, 17, 58)] [mR 0, mI p1, mI p2, mR 124] h (mm_pi fun r h2 => (0 ≤ r ∧ r ≤ 2) ∧ mm_inv h2 ∧ mm_fr [] [124] h h2) mm_nx 2 12 := by
  refine mm_ofWH (ls := [mR 0, mI p1, mI p2, mR 124, mU]) hl (by decide) rfl (Nat.le_of_ble_eq_true rfl) ?_
  intro x hxl C T htb
  subst hxl
  have C1 := mm_OK_le (d' := d - 1 + 1) (by omega) C
  refine mm_aload_n C (mm_dec dk_L_best 0 rfl) rfl ?_
  refine mm_iconst C (mm_dec dk_L_best 1 rfl) ⟨by decide, by decide⟩ ?_
  refine mm_aload_n C (mm_dec dk_L_best 2 rfl) rfl ?_
  refine mm_iload_n C (mm_dec dk_L_best 3 rfl) rfl ?_
  refine mm_iload_n C (mm_dec dk_L_best 4 rfl) rfl ?_
  refine mm_cVi (rest := [mI 0, mR 124]) C1 ev_L_90 (mm_dec dk_L_best 5 rfl) (c_X11_best_xe x.2.1 hl (d - 1) (by omega) h i0 p1 p2 (by omega)) rfl rfl (Nat.le_of_ble_eq_true rfl) ⟨by decide, by decide⟩ rfl (fun r hc hp => ?_) (fun E hx q => ?_)
  · have zc := hp.2
    have ic : mm_inv hc := by rw [zc]; exact i0
    have fc : mm_fr [] [124] h hc := by rw [zc]; exact mm_fr_rf
    refine mm_rng (fun _ ho => ?_)
    have br : -2147483648 ≤ r ∧ r < 2147483648 := mm_ok_hd ho
    refine mm_i2l C (mm_dec dk_L_best 6 rfl) ?_
    refine mm_last C (mm_dec dk_L_best 7 rfl) rfl (by omega) (by omega) ?_
    refine mm_goto (tgt := 21) C (mm_dec dk_L_best 8 rfl) (by decide) ?_
    refine mm_iconst C (mm_dec dk_L_best 15 rfl) ⟨by decide, by decide⟩ ?_
    exact mm_iret C T (mm_dec dk_L_best 16 rfl) (by decide) (by decide) ⟨_, rfl, ⟨by decide, by decide⟩, mm_inv_pa ic (show -9223372036854775808 ≤ r ∧ r ≤ 9223372036854775807 from ⟨by omega, by omega⟩), mm_fr_pa fc (by decide)⟩
  · rcases q with ⟨q1, q2⟩ | ⟨q1, q2⟩
    · rw [q1, q2]
      refine mm_catch (nm := "java/util/NoSuchElementException") [] (⟨0, 10, 13, 13⟩ : ExceptionTableEntry) [(⟨0, 10, 17, 58⟩ : ExceptionTableEntry)] C htb (fun y hy => absurd hy List.not_mem_nil) (by decide) (by decide) ck_L_13 (by decide) (k := 4) (by decide) (Or.inl (mm_dec dk_L_best 9 rfl)) (pc2 := 15) ⟨fun _ => rfl, fun ⟨_, _, z⟩ => (by have w := z.symm.trans (mm_dec dk_L_best 9 rfl); cases w)⟩ ?_
      refine mm_iconst C (mm_dec dk_L_best 10 rfl) ⟨by decide, by decide⟩ ?_
      exact mm_iret C T (mm_dec dk_L_best 11 rfl) (by decide) (by decide) ⟨_, rfl, ⟨by decide, by decide⟩, i0, mm_fr_rf⟩
    · rw [q1, q2]
      refine mm_catch (nm := "java/lang/IllegalArgumentException") [(⟨0, 10, 13, 13⟩ : ExceptionTableEntry)] (⟨0, 10, 17, 58⟩ : ExceptionTableEntry) [] C htb (fun y hy => by rw [List.mem_singleton.mp hy]; exact Or.inr ⟨by decide, _, ck_L_13, by decide⟩) (by decide) (by decide) ck_L_58 (by decide) (k := 4) (by decide) (Or.inl (mm_dec dk_L_best 12 rfl)) (pc2 := 19) ⟨fun _ => rfl, fun ⟨_, _, z⟩ => (by have w := z.symm.trans (mm_dec dk_L_best 12 rfl); cases w)⟩ ?_
      refine mm_iconst C (mm_dec dk_L_best 13 rfl) ⟨by decide, by decide⟩ ?_
      exact mm_iret C T (mm_dec dk_L_best 14 rfl) (by decide) (by decide) ⟨_, rfl, ⟨by decide, by decide⟩, i0, mm_fr_rf⟩
