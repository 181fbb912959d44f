/-! ===== texts: the words of the class's Reader, by their place among the constants; their bytes; what String asks of itself ===== -/
abbrev mm_tx : Nat := 1000 + mm_wordsAt
section MMS
variable {x : mX} {d cs ss : Nat} {cc : ByteArray} {own : String} {nL : Nat} {ret : Option FieldType} {a b pc : Nat} {ls st : List mV} {h : mH} {post : Option mV → mH → Prop} {xp : String → mH → Prop} {mc ms : Nat}
theorem mm_adc {G : mG} {ad0 ad : Nat → Nat} {A : Nat → Prop} {n0 : Nat} {s : State} {H : Heap} {locs : List Loc} (h3 : mm_at G ad0 A n0 s h ad H locs) {o : Nat} (ho : 1000 ≤ o) : ad o = ad0 o := h3.2.2.2.2.1 o (Or.inr ho)
theorem mm_jc {G : mG} {ad0 ad : Nat → Nat} {A : Nat → Prop} {n0 : Nat} {s : State} {H : Heap} {locs : List Loc} (h3 : mm_at G ad0 A n0 s h ad H locs) {o : Nat} (ho : 1000 ≤ o) : mm_j ad (mR o) = .ref (ad0 o) := by
  rw [← mm_adc h3 ho]
  rfl
theorem mm_okc (h : mH) {o : Nat} (ho : 1000 ≤ o) : mm_okv h (mR o) := Or.inr (show 1000 ≤ ((o : Nat) : Int).toNat by omega)
theorem mm_ldcS {index i : Nat} {text : String} (C : mm_OK d cs ss cc own nL ret x) (hs : mm_str[i]? = some (own, index, text)) (hd : decode cc pc = .ok (.ldc index, 2)) (kk : mm_W x a b (pc + 2) ls (mR (1000 + i) :: st) h) : mm_W x a b pc ls st h := by
  obtain ⟨p, l, e, R, s, m, args, below, meth, c, G, ad0, A, n0, Q⟩ := x
  intro ad H locs jl h3 h4 h5 h6
  obtain ⟨c1, c2, c3, c4, c5, c6, c7, c8, c9, c10, c11, c12, c13, c14, c15⟩ := C
  have k := kk ad H locs jl h3 h4 h5 (mm_ok_cons (mm_okc h (by omega)) h6)
  rw [List.map_cons, mm_jc h3 (by omega)] at k
  exact va_ldcS c1 c2 c4 (c10.2.2.1 i _ hs) hd k
theorem mm_getV {index : Nat} (C : mm_OK d cs ss cc own nL ret x) (hw : Cond.fieldLink own index "java/lang/String" "value" "[B" ∈ mm_T) (hd : decode cc pc = .ok (.getfield index, 3)) (kk : mm_W x a b (pc + 3) ls (mR 2000 :: st) h) : mm_W x a b pc ls (mR mm_tx :: st) h := by
  obtain ⟨p, l, e, R, s, m, args, below, meth, c, G, ad0, A, n0, Q⟩ := x
  intro ad H locs jl h3 h4 h5 h6
  obtain ⟨c1, c2, c3, c4, c5, c6, c7, c8, c9, c10, c11, c12, c13, c14, c15⟩ := C
  have k := kk ad H locs jl h3 h4 h5 (mm_ok_cons (mm_okc h (by omega)) (mm_ok_tl h6))
  rw [List.map_cons, mm_jc h3 (by omega)] at k
  rw [List.map_cons, mm_jc h3 (show 1000 ≤ mm_tx by decide)]
  exact vk_getf c1 c2 (c10.2.2.2.2.2.2.1.1 0 (by decide)).2.2.1 h3.2.2.2.1 c4 (c5 _ hw) (fun _ q => q) hd k
theorem mm_getCo {index : Nat} (C : mm_OK d cs ss cc own nL ret x) (hw : Cond.fieldLink own index "java/lang/String" "coder" "B" ∈ mm_T) (hd : decode cc pc = .ok (.getfield index, 3)) (kk : mm_W x a b (pc + 3) ls (mI 0 :: st) h) : mm_W x a b pc ls (mR mm_tx :: st) h := by
  obtain ⟨p, l, e, R, s, m, args, below, meth, c, G, ad0, A, n0, Q⟩ := x
  intro ad H locs jl h3 h4 h5 h6
  obtain ⟨c1, c2, c3, c4, c5, c6, c7, c8, c9, c10, c11, c12, c13, c14, c15⟩ := C
  have k := kk ad H locs jl h3 h4 h5 (mm_ok_cons mm_0 (mm_ok_tl h6))
  rw [List.map_cons] at k
  rw [List.map_cons, mm_jc h3 (show 1000 ≤ mm_tx by decide)]
  exact vk_getf c1 c2 (c10.2.2.2.2.2.2.1.1 0 (by decide)).2.1 h3.2.2.2.1 c4 (c5 _ hw) (fun _ q => q) hd k
theorem mm_getsC {index : Nat} (C : mm_OK d cs ss cc own nL ret x) (hw : Cond.fieldLink own index "java/lang/String" "COMPACT_STRINGS" "Z" ∈ mm_T) (hd : decode cc pc = .ok (.getstatic index, 3)) (kk : mm_W x a b (pc + 3) ls (mI 1 :: st) h) : mm_W x a b pc ls st h := by
  obtain ⟨p, l, e, R, s, m, args, below, meth, c, G, ad0, A, n0, Q⟩ := x
  intro ad H locs jl h3 h4 h5 h6
  obtain ⟨c1, c2, c3, c4, c5, c6, c7, c8, c9, c10, c11, c12, c13, c14, c15⟩ := C
  have k := kk ad H locs jl h3 h4 h5 (mm_ok_cons (show mm_i32 1 from ⟨by decide, by decide⟩) h6)
  rw [List.map_cons] at k
  exact va_gets c1 c2 c10.2.2.2.2.2.2.2.1 h3.2.2.2.1 c4 (c5 _ hw) (fun _ q => q) hd k
theorem mm_getsF {index : Nat} (C : mm_OK d cs ss cc own nL ret x) (hw : Cond.fieldLink own index mm_preC mm_preN mm_preD ∈ mm_T) (hd : decode cc pc = .ok (.getstatic index, 3)) (kk : ∀ v : mV, v = mN ∨ v = mR 2001 → mm_W x a b (pc + 3) ls (v :: st) h) : mm_W x a b pc ls st h := by
  obtain ⟨p, l, e, R, s, m, args, below, meth, c, G, ad0, A, n0, Q⟩ := x
  intro ad H locs jl h3 h4 h5 h6
  obtain ⟨c1, c2, c3, c4, c5, c6, c7, c8, c9, c10, c11, c12, c13, c14, c15⟩ := C
  rcases c10.2.2.2.2.2.2.2.2.2 with z | z
  · have k := kk mN (Or.inl rfl) ad H locs jl h3 h4 h5 (mm_ok_cons trivial h6)
    rw [List.map_cons] at k
    exact va_gets c1 c2 z h3.2.2.2.1 c4 (c5 _ hw) (fun _ q => q) hd k
  · have k := kk (mR 2001) (Or.inr rfl) ad H locs jl h3 h4 h5 (mm_ok_cons (mm_okc h (by omega)) h6)
    rw [List.map_cons, mm_jc h3 (by omega)] at k
    exact va_gets c1 c2 z h3.2.2.2.1 c4 (c5 _ hw) (fun _ q => q) hd k
theorem mm_wlen : mm_words.length = 90 := by decide
theorem mm_tlen (C : mm_OK d cs ss cc own nL ret x) (hd : decode cc pc = .ok (.arraylength, 1)) (kk : mm_W x a b (pc + 1) ls (mI 90 :: st) h) : mm_W x a b pc ls (mR 2000 :: st) h := by
  obtain ⟨p, l, e, R, s, m, args, below, meth, c, G, ad0, A, n0, Q⟩ := x
  intro ad H locs jl h3 h4 h5 h6
  obtain ⟨c1, c2, c3, c4, c5, c6, c7, c8, c9, c10, c11, c12, c13, c14, c15⟩ := C
  have k := kk ad H locs jl h3 h4 h5 (mm_ok_cons (show mm_i32 90 from ⟨by decide, by decide⟩) (mm_ok_tl h6))
  rw [List.map_cons] at k
  rw [List.map_cons, mm_jc h3 (show 1000 ≤ 2000 by decide)]
  exact va_tlen c1 c2 (c10.2.2.2.2.2.2.1.1 0 (by decide)).2.2.2 h3.2.2.2.1 (v := Int32.ofInt 90) (by decide) hd k
theorem mm_tb8 {i : Int} (C : mm_OK d cs ss cc own nL ret x) (hd : decode cc pc = .ok (.baload, 1)) (h0 : 0 ≤ i) (h1 : i < 90) (kk : ∀ w : Int, mm_W x a b (pc + 1) ls (mI w :: st) h) : mm_W x a b pc ls (mI i :: mR 2000 :: st) h := by
  obtain ⟨p, l, e, R, s, m, args, below, meth, c, G, ad0, A, n0, Q⟩ := x
  intro ad H locs jl h3 h4 h5 h6
  obtain ⟨c1, c2, c3, c4, c5, c6, c7, c8, c9, c10, c11, c12, c13, c14, c15⟩ := C
  have hw := fb_rng (mm_words.getD i.toNat 0)
  have k := kk (mm_words.getD i.toNat 0).toInt ad H locs jl h3 h4 h5 (mm_ok_cons hw (mm_ok_tl (mm_ok_tl h6)))
  rw [List.map_cons, show mm_j ad (mI (mm_words.getD i.toNat 0).toInt) = .int (mm_words.getD i.toNat 0) from by show Value.int (Int32.ofInt _) = _; rw [Int32.ofInt_toInt]] at k
  rw [List.map_cons, List.map_cons, mm_jc h3 (show 1000 ≤ 2000 by decide)]
  refine va_tb c1 c2 (c10.2.2.2.2.2.2.1.1 0 (by decide)).2.2.2 h3.2.2.2.1 (i := Int32.ofInt i) (mm_vin h0 (by show i < ((mm_words.length : Nat) : Int); rw [mm_wlen]; omega) (by omega)) (v := .int (mm_words.getD i.toNat 0)) ?_ hd k
  rw [mm_clamp h0 (by omega)]
  rfl
theorem mm_i2cA {u : Int} (C : mm_OK d cs ss cc own nL ret x) (hd : decode cc pc = .ok (.i2c, 1)) (kk : mm_W x a b (pc + 1) ls (mI (mm_viand u 255) :: st) h) : mm_W x a b pc ls (mI (mm_viand u 255) :: st) h := by
  obtain ⟨p, l, e, R, s, m, args, below, meth, c, G, ad0, A, n0, Q⟩ := x
  intro ad H locs jl h3 h4 h5 h6
  have k := kk ad H locs jl h3 h4 h5 h6
  rw [List.map_cons, show mm_j ad (mI (mm_viand u 255)) = .int (Int32.ofInt u &&& 255) from by show Value.int (Int32.ofInt (mm_viand u 255)) = _; rw [mm_viand, Int32.ofInt_toInt]; rfl] at k ⊢
  exact lv_i2c C.1 C.2.1 hd (sc_c2 _) k
theorem mm_zretT {v : Int} {ty : FieldType} (C : mm_OK d cs ss cc own nL (some ty) x) (T : mm_RT post xp mc ms x) (hd : decode cc pc = .ok (.ireturn, 1)) (ha : a ≤ mc) (hb : b ≤ ms) (hn : narrow ty (.int (Int32.ofInt v)) = .int (Int32.ofInt v)) (hp : post (some (mI v)) h) : mm_W x a b pc ls [mI v] h := by
  obtain ⟨p, l, e, R, s, m, args, below, meth, c, G, ad0, A, n0, Q⟩ := x
  intro ad H locs jl h3 h4 h5 h6
  have hQ : Q = vx_MQ below (mm_Qc G ad0 A n0 post) (mm_XC G ad0 A n0 xp) args s mc ms A := T
  subst hQ
  refine W.widen ha hb (vx_ret (W.zret (v := Int32.ofInt v) C.1 C.2.1 C.2.2.2.2.2.2.2.2.2.2.1 hn (fun t ht hW => ?_) h3.2.2.2.1.2.2 hd C.2.2.2.2.2.2.2.1))
  exact ⟨some (mI v), h, ad, rfl, hp, h6, by rw [ht]; exact h3.1, h3.2.1, h3.2.2.1, h3.2.2.2.2.1, h3.2.2.2.2.2, h3.2.2.2.1.F ht⟩
set_option maxHeartbeats 4000000 in
/-- a call of a text's own method -/
theorem mm_callT {index n maxL : Nat} {y : MethodName} {bytes : ByteArray} {rt : Option FieldType} {As rest : List mV} (C : mm_OK (d + 1) cs ss cc own nL ret x) (M : mm_MW y bytes maxL rt n) (hC : y.cls = "java/lang/String") (hw : Cond.methodLink own index y ∈ mm_T) (hi : Cond.instanceMethod y ∈ mm_T) (hse : Cond.selects y.cls y y ∈ mm_T)
    (hM : mm_Met x.2.1 d y bytes maxL rt (mR mm_tx :: As) h post xp mc ms) (hd : decode cc pc = .ok (.invokevirtual index, 3)) (hn : As.length = n) (hcat : mm_cats rest ≤ 8) (hf : a + mc ≤ cs ∧ b + ms ≤ ss) {stk : List mV} (hstk : stk = As.reverse ++ mR mm_tx :: rest)
    (kr : ∀ (v : Option mV) (h' : mH), post v h' → mm_W x (a + mc) (b + ms) (pc + 3) ls (v.toList ++ rest) h') (kx : ∀ (E : String) (h' : mH), xp E h' → mm_Wx x (a + mc) (b + ms) pc ls E h') : mm_W x a b pc ls stk h := by
  refine mm_after C (rest := rest) (Aa := fun ad => ((mR mm_tx :: As).map (mm_j ad)).toArray) (fun v hv => by rw [hstk]; exact List.mem_append_right _ (List.mem_cons_of_mem _ hv)) ?_ kr kx
  obtain ⟨p, l, e, R, s, m, args, below, meth, c, G, ad0, A, n0, Q⟩ := x
  intro ad H locs jl h3 h4 h5 h6
  obtain ⟨c1, c2, c3, c4, c5, c6, c7, c8, c9, c10, c11, c12, c13, c14, c15⟩ := C
  have hoko : mm_okv h (mR mm_tx) := h6 _ (by rw [hstk]; exact List.mem_append_right _ List.mem_cons_self)
  have hokA : mm_okl h (mR mm_tx :: As) := mm_ok_cons hoko (fun v hv => h6 v (by rw [hstk]; exact List.mem_append_left _ (List.mem_reverse.mpr hv)))
  refine vx_runV (C := y.cls) (b := ad mm_tx) (As := As.map (mm_j ad)) (n := n) (Ts := mm_T) ⟨c1, c2, c3, c4, c5⟩ (hM G ad H.size) ⟨mm_callB c5 M hw ⟨c12, c13⟩, c5 _ hi, c5 _ hse⟩ ⟨mm_blind, ?_, fun U hU hW => ?_⟩ rfl (by rw [List.length_map]; exact hn) (h4.1.trans c3) ?_ ?_ hd ⟨Nat.le_trans hf.1 c14, Nat.le_trans hf.2 c15⟩
  · rw [hC, mm_adc h3 (show 1000 ≤ mm_tx by decide)]
    exact vk_recv (i := 0) c10.2.2.2.2.2.2.1 (by decide) h3.2.2.2.1
  · exact mm_pre (As := mR mm_tx :: As) c6 c10 c7 h3 hokA hU hW
  · show stk.map (mm_j ad) = _
    rw [hstk, List.map_append, List.map_reverse]
    rfl
  · show 2 * 0 + _ ≤ 8
    rw [mm_cats_j]
    omega
theorem mm_cTi {index n maxL : Nat} {y : MethodName} {bytes : ByteArray} {rt : Option FieldType} {As rest : List mV} {P : Int → mH → Prop} (C : mm_OK (d + 1) cs ss cc own nL ret x) (M : mm_MW y bytes maxL rt n) (hC : y.cls = "java/lang/String") (hw : Cond.methodLink own index y ∈ mm_T) (hi : Cond.instanceMethod y ∈ mm_T) (hse : Cond.selects y.cls y y ∈ mm_T) (hd : decode cc pc = .ok (.invokevirtual index, 3)) (hM : mm_Met x.2.1 d y bytes maxL rt (mR mm_tx :: As) h (mm_pi P) mm_nx mc ms) (hn : As.length = n) (hcat : mm_cats rest ≤ 8) (hf : a + mc ≤ cs ∧ b + ms ≤ ss) {stk : List mV} (hstk : stk = As.reverse ++ mR mm_tx :: rest)
    (kr : ∀ (r : Int) (h1 : mH), P r h1 → mm_W x (a + mc) (b + ms) (pc + 3) ls (mI r :: rest) h1) : mm_W x a b pc ls stk h :=
  mm_callT C M hC hw hi hse hM hd hn hcat hf hstk (fun v h1 ⟨r, hv, hp⟩ => by subst hv; exact kr r h1 hp) (fun _ _ q => q.elim)
/-- a row copied into another of its kind -/
theorem mm_copy {index o0 o1 n0 n1 : Nat} {n : Int} {r0 r1 : List Nat} (C : mm_OK (d + 1) cs ss cc own nL ret x) (h1 : Cond.methodLink own index arraycopyName ∈ mm_T) (h2 : Cond.native arraycopyName ∈ mm_T) (h3' : Cond.static arraycopyName ∈ mm_T) (h4' : Cond.initialized "java/lang/System" ∈ mm_T) (hs0 : mm_sh o0 = (1, n0, r0)) (hs1 : mm_sh o1 = (1, n1, r1)) (hn : 0 ≤ n) (hn0 : n ≤ n0) (hn1 : n ≤ n1) (hcat : mm_cats st ≤ 8) (hd : decode cc pc = .ok (.invokestatic index, 3))
    (kk : mm_W x a b (pc + 3) ls st (h.1, fun o j => if o = o1 ∧ 0 ≤ j ∧ j < n then h.2.1 o0 j else h.2.1 o j, h.2.2)) : mm_W x a b pc ls (mI n :: mI 0 :: mR o1 :: mI 0 :: mR o0 :: st) h := by
  obtain ⟨p, l, e, R, s, m, args, below, meth, c, G, ad0, A, n0', Q⟩ := x
  intro ad H locs jl h3 h4 h5 h6
  obtain ⟨c1, c2, c3, c4, c5, c6, c7, c8, c9, c10, c11, c12, c13, c14, c15⟩ := C
  have hi := mm_ok_hd h6
  have hn2 : n < 2147483648 := hi.2
  have ho1 := mm_ok_lt (mm_ok_hd (mm_ok_tl (mm_ok_tl h6))) hs1 (by decide)
  have ho0 := mm_ok_lt (mm_ok_hd (mm_ok_tl (mm_ok_tl (mm_ok_tl (mm_ok_tl h6))))) hs0 (by decide)
  have h7 := mm_ok_tl (mm_ok_tl (mm_ok_tl (mm_ok_tl (mm_ok_tl h6))))
  have he0 := mm_ws_get G ad ho0
  have he1 := mm_ws_get G ad ho1
  rw [mm_e_int hs0] at he0
  rw [mm_e_int hs1] at he1
  have cn : (Int32.ofInt n).toNatClampNeg = n.toNat := mm_clamp hn hn2
  have c0 : (Int32.ofInt 0).toNatClampNeg = 0 := by decide
  have hneg : ∀ z : Int, 0 ≤ z → z < 2147483648 → ¬ Int32.ofInt z < 0 := fun z z0 z1 q => by
    have := (mm_ltI (u := z) (v := 0) ⟨by omega, z1⟩ mm_0).mp q
    omega
  refine va_copyi (sp := Int32.ofInt 0) (dp := Int32.ofInt 0) (n := Int32.ofInt n) (H0 := s.heap) c1 c2 (c3.trans (h4.1.trans c3).symm) c4 (c5 _ h1) (c5 _ h2) (c5 _ h3') (c5 _ h4') c6 h3.1 h3.2.1 h3.2.2.2.1 o0 o1 0 0 he0 he1 rfl rfl rfl (hneg 0 (by omega) (by omega)) (hneg 0 (by omega) (by omega)) (hneg n hn hn2) (by rw [cn, c0]; omega) (by rw [cn, c0]; omega) (fun i _ => rfl) (by omega) ?_ hd (fun H1 locs1 g1 g2 g3 => ?_)
  · rw [mm_cats_j]
    have : nativeFrameWords "java/lang/System" "arraycopy" 5 + 11 ≤ 56 := by decide
    omega
  · rw [cn, c0] at g1 g2
    have hw : (mm_ws G ad h).set o1 (ad o1, .inl (G.2.2.1, n1, .inl (va_cpy (fun j => Int32.ofInt (h.2.1 o0 j)) (fun j => Int32.ofInt (h.2.1 o1 j)) 0 0 n.toNat))) = mm_ws G ad (h.1, fun o j => if o = o1 ∧ 0 ≤ j ∧ j < n then h.2.1 o0 j else h.2.1 o j, h.2.2) := by
      refine mm_ws_set rfl ho1 ?_ (fun q hq => mm_e_same (fun _ => rfl) (fun j => if_neg (fun w => hq w.1)))
      rw [mm_e_int hs1]
      congr 3
      congr 1
      funext j
      show Int32.ofInt (if o1 = o1 ∧ 0 ≤ (j : Int) ∧ (j : Int) < n then h.2.1 o0 j else h.2.1 o1 j) = (if 0 ≤ j ∧ j < 0 + n.toNat then Int32.ofInt (h.2.1 o0 ((0 + (j - 0) : Nat) : Int)) else Int32.ofInt (h.2.1 o1 j))
      by_cases q : j < n.toNat
      · rw [if_pos ⟨rfl, by omega, by omega⟩, if_pos (by omega), Nat.zero_add, Nat.sub_zero]
      · rw [if_neg (by omega), if_neg (by omega)]
    rw [hw] at g1 g2
    refine kk ad H1 locs1 jl ⟨g1, g2, ?_, g3, h3.2.2.2.2.1, h3.2.2.2.2.2⟩ h4 h5 h7
    obtain ⟨r1', r2', r3', r4', r5'⟩ := h3.2.2.1
    refine ⟨r1', r2', fun o j ho => ?_, fun o j => ?_, r5'⟩
    · show mm_i32 (if o = o1 ∧ 0 ≤ j ∧ j < n then h.2.1 o0 j else h.2.1 o j)
      split
      · exact r3' o0 j (by rw [hs0]; exact (show (1 : Nat) ≠ 3 by decide))
      · exact r3' o j ho
    · show mm_i64 (if o = o1 ∧ 0 ≤ j ∧ j < n then h.2.1 o0 j else h.2.1 o j)
      split
      · exact r4' o0 j
      · exact r4' o j
end MMS
theorem mm_nchar {v : Int} (h0 : 0 ≤ v) (h1 : v ≤ 65535) : narrow .char (.int (Int32.ofInt v)) = .int (Int32.ofInt v) := by
  obtain ⟨q, rfl⟩ := Int.eq_ofNat_of_zero_le h0
  rw [show Int32.ofInt ((q : Nat) : Int) = nI q from by rw [Int32.ofInt_eq_ofNat]; rfl]
  exact (pk_charN (by omega)).1
def mm_cp (h : mH) (o0 o1 : Nat) (n : Int) : mH := (h.1, fun o j => if o = o1 ∧ 0 ≤ j ∧ j < n then h.2.1 o0 j else h.2.1 o j, h.2.2)
theorem mm_inv_cp {h : mH} {o0 o1 : Nat} {n : Int} (i : mm_inv h) (h1 : (mm_bA o1).1 ≤ (mm_bA o0).1) (h2 : (mm_bA o0).2 ≤ (mm_bA o1).2) : mm_inv (mm_cp h o0 o1 n) := by
  refine ⟨i.1, fun o j => ?_, i.2.2⟩
  show (mm_bA o).1 ≤ (if o = o1 ∧ 0 ≤ j ∧ j < n then h.2.1 o0 j else h.2.1 o j) ∧ (if o = o1 ∧ 0 ≤ j ∧ j < n then h.2.1 o0 j else h.2.1 o j) ≤ (mm_bA o).2
  split
  next q =>
    have := i.2.1 o0 j
    rw [q.1]
    exact ⟨Int.le_trans h1 this.1, Int.le_trans this.2 h2⟩
  · exact i.2.1 o j
theorem mm_fr_cp {wf : List (Nat × Nat)} {wa : List Nat} {h h' : mH} {o0 o1 : Nat} {n : Int} (f : mm_fr wf wa h h') (hm : o1 ∈ wa) : mm_fr wf wa h (mm_cp h' o0 o1 n) := by
  refine ⟨f.1, fun o hn j => ?_⟩
  show (if o = o1 ∧ 0 ≤ j ∧ j < n then h'.2.1 o0 j else h'.2.1 o j) = _
  rw [if_neg (fun q => hn (by rw [q.1]; exact hm))]
  exact f.2 o hn j

def dl_J0_length_8abf5 : List (Nat × Instr × Nat) := [(0, .aload_n 0, 1), (1, .getfield 9, 3), (4, .arraylength, 1), (5, .aload_n 0, 1), (6, .invokevirtual 335, 3), (9, .ishr, 1), (10, .ireturn, 1)]
theorem dk_J0_length_8abf5 : dl_J0_length_8abf5.all (fun q => decide (decode cJ0_length_8abf5 q.1 = .ok (q.2.1, q.2.2))) = true := by decide +kernel
def dl_J0_coder_7d493 : List (Nat × Instr × Nat) := [(0, .getstatic 38, 3), (3, .ifCond .eq 10, 3), (6, .aload_n 0, 1), (7, .getfield 15, 3), (10, .goto 4, 3), (13, .iconst 1, 1), (14, .ireturn, 1)]
theorem dk_J0_coder_7d493 : dl_J0_coder_7d493.all (fun q => decide (decode cJ0_coder_7d493 q.1 = .ok (q.2.1, q.2.2))) = true := by decide +kernel
def dl_J0_charAt_5068e : List (Nat × Instr × Nat) := [(0, .aload_n 0, 1), (1, .invokevirtual 492, 3), (4, .ifCond .eq 12, 3), (7, .aload_n 0, 1), (8, .getfield 9, 3), (11, .iload_n 1, 1), (12, .invokestatic 495, 3), (15, .ireturn, 1), (16, .aload_n 0, 1), (17, .getfield 9, 3), (20, .iload_n 1, 1), (21, .invokestatic 498, 3), (24, .ireturn, 1)]
theorem dk_J0_charAt_5068e : dl_J0_charAt_5068e.all (fun q => decide (decode cJ0_charAt_5068e q.1 = .ok (q.2.1, q.2.2))) = true := by decide +kernel
def dl_J0_isLatin1_aae02 : List (Nat × Instr × Nat) := [(0, .getstatic 38, 3), (3, .ifCond .eq 14, 3), (6, .aload_n 0, 1), (7, .getfield 15, 3), (10, .ifCond .ne 7, 3), (13, .iconst 1, 1), (14, .goto 4, 3), (17, .iconst 0, 1), (18, .ireturn, 1)]
theorem dk_J0_isLatin1_aae02 : dl_J0_isLatin1_aae02.all (fun q => decide (decode cJ0_isLatin1_aae02 q.1 = .ok (q.2.1, q.2.2))) = true := by decide +kernel
def dl_J0_checkIndex_df160 : List (Nat × Instr × Nat) := [(0, .iload_n 0, 1), (1, .iload_n 1, 1), (2, .getstatic 1053, 3), (5, .invokestatic 1059, 3), (8, .pop, 1), (9, .return_, 1)]
theorem dk_J0_checkIndex_df160 : dl_J0_checkIndex_df160.all (fun q => decide (decode cJ0_checkIndex_df160 q.1 = .ok (q.2.1, q.2.2))) = true := by decide +kernel
def dl_J1_charAt_3b067 : List (Nat × Instr × Nat) := [(0, .iload_n 1, 1), (1, .aload_n 0, 1), (2, .arraylength, 1), (3, .invokestatic 9, 3), (6, .aload_n 0, 1), (7, .iload_n 1, 1), (8, .baload, 1), (9, .sipush 255, 3), (12, .iand, 1), (13, .i2c, 1), (14, .ireturn, 1)]
theorem dk_J1_charAt_3b067 : dl_J1_charAt_3b067.all (fun q => decide (decode cJ1_charAt_3b067 q.1 = .ok (q.2.1, q.2.2))) = true := by decide +kernel
def dl_J3_checkIndex_8e157 : List (Nat × Instr × Nat) := [(0, .iload_n 0, 1), (1, .ifCond .lt 8, 3), (4, .iload_n 0, 1), (5, .iload_n 1, 1), (6, .if_icmp .lt 10, 3), (9, .aload_n 2, 1), (10, .iload_n 0, 1), (11, .iload_n 1, 1), (12, .invokestatic 95, 3), (15, .athrow, 1), (16, .iload_n 0, 1), (17, .ireturn, 1)]
theorem dk_J3_checkIndex_8e157 : dl_J3_checkIndex_8e157.all (fun q => decide (decode cJ3_checkIndex_8e157 q.1 = .ok (q.2.1, q.2.2))) = true := by decide +kernel
theorem fs_38 : Cond.fieldLink "java/lang/String" 38 "java/lang/String" "COMPACT_STRINGS" "Z" ∈ mm_T := mm_T_at 6 73 (by decide +kernel) rfl
theorem fs_9 : Cond.fieldLink "java/lang/String" 9 "java/lang/String" "value" "[B" ∈ mm_T := mm_T_at 10 151 (by decide +kernel) rfl
theorem fs_15 : Cond.fieldLink "java/lang/String" 15 "java/lang/String" "coder" "B" ∈ mm_T := mm_T_at 10 152 (by decide +kernel) rfl
theorem fs_1053 : Cond.fieldLink "java/lang/String" 1053 "jdk/internal/util/Preconditions" "SIOOBE_FORMATTER" "Ljava/util/function/BiFunction;" ∈ mm_T := mm_T_at 6 89 (by decide +kernel) rfl
theorem ms_335 : Cond.methodLink "java/lang/String" 335 yJ0_coder_7d493 ∈ mm_T := mm_T_at 6 69 (by decide +kernel) rfl
theorem ms_492 : Cond.methodLink "java/lang/String" 492 yJ0_isLatin1_aae02 ∈ mm_T := mm_T_at 6 79 (by decide +kernel) rfl
theorem ms_495 : Cond.methodLink "java/lang/String" 495 yJ1_charAt_3b067 ∈ mm_T := mm_T_at 6 83 (by decide +kernel) rfl
theorem ms_9 : Cond.methodLink "java/lang/StringLatin1" 9 yJ0_checkIndex_df160 ∈ mm_T := mm_T_at 6 86 (by decide +kernel) rfl
theorem ms_1059 : Cond.methodLink "java/lang/String" 1059 yJ3_checkIndex_8e157 ∈ mm_T := mm_T_at 6 91 (by decide +kernel) rfl
theorem ml_ac : Cond.methodLink RX7 59 arraycopyName ∈ mm_T := mm_T_at 6 200 (by decide +kernel) rfl
theorem nt_ac : Cond.native arraycopyName ∈ mm_T := mm_T_at 6 202 (by decide +kernel) rfl
theorem sm_ac : Cond.static arraycopyName ∈ mm_T := mm_T_at 6 201 (by decide +kernel) rfl
theorem cn_sys : Cond.initialized "java/lang/System" ∈ mm_T := mm_T_at 1 25 (by decide +kernel) rfl
set_option maxRecDepth 100000 in
set_option maxHeartbeats 4000000 in
theorem c_J0_coder_7d493 (l : Launch) (hl : l.stackTraces = false) (d : Nat) (hd : 0 ≤ d) (h : mH) : mm_Met l d yJ0_coder_7d493 cJ0_coder_7d493 1 (some .byte) [mR mm_tx] h (mm_pi fun r h2 => h2 = h ∧ r = 0) mm_nx 0 0 := by
  refine mm_ofW (ls := [mR mm_tx]) hl (by decide) rfl (Nat.le_of_ble_eq_true rfl) ?_
  intro x hxl C T hnm htb
  subst hxl
  refine mm_getsC C fs_38 (mm_dec dk_J0_coder_7d493 0 rfl) ?_
  refine mm_if_eq (tgt := 13) C (mm_dec dk_J0_coder_7d493 1 rfl) (by decide) (fun c3 => ?_) (fun c3 => ?_)
  · exfalso; omega
  · refine mm_aload_n C (mm_dec dk_J0_coder_7d493 2 rfl) rfl ?_
    refine mm_getCo C fs_15 (mm_dec dk_J0_coder_7d493 3 rfl) ?_
    refine mm_goto (tgt := 14) C (mm_dec dk_J0_coder_7d493 4 rfl) (by decide) ?_
    exact mm_zretT C T (mm_dec dk_J0_coder_7d493 6 rfl) (by decide : 0 ≤ 0) (by decide : 0 ≤ 0) (by decide) ⟨_, rfl, rfl, rfl⟩
set_option maxRecDepth 100000 in
set_option maxHeartbeats 4000000 in
theorem c_J0_isLatin1_aae02 (l : Launch) (hl : l.stackTraces = false) (d : Nat) (hd : 0 ≤ d) (h : mH) : mm_Met l d yJ0_isLatin1_aae02 cJ0_isLatin1_aae02 1 (some .boolean) [mR mm_tx] h (mm_pi fun r h2 => h2 = h ∧ r = 1) mm_nx 0 0 := by
  refine mm_ofW (ls := [mR mm_tx]) hl (by decide) rfl (Nat.le_of_ble_eq_true rfl) ?_
  intro x hxl C T hnm htb
  subst hxl
  refine mm_getsC C fs_38 (mm_dec dk_J0_isLatin1_aae02 0 rfl) ?_
  refine mm_if_eq (tgt := 17) C (mm_dec dk_J0_isLatin1_aae02 1 rfl) (by decide) (fun c3 => ?_) (fun c3 => ?_)
  · exfalso; omega
  · refine mm_aload_n C (mm_dec dk_J0_isLatin1_aae02 2 rfl) rfl ?_
    refine mm_getCo C fs_15 (mm_dec dk_J0_isLatin1_aae02 3 rfl) ?_
    refine mm_if_ne (tgt := 17) C (mm_dec dk_J0_isLatin1_aae02 4 rfl) (by decide) (fun c10 => ?_) (fun c10 => ?_)
    · exfalso; omega
    · refine mm_iconst C (mm_dec dk_J0_isLatin1_aae02 5 rfl) ⟨by decide, by decide⟩ ?_
      refine mm_goto (tgt := 18) C (mm_dec dk_J0_isLatin1_aae02 6 rfl) (by decide) ?_
      exact mm_zret C T (mm_dec dk_J0_isLatin1_aae02 8 rfl) (by decide : 0 ≤ 0) (by decide : 0 ≤ 0) (by omega) ⟨_, rfl, rfl, rfl⟩
set_option maxRecDepth 100000 in
set_option maxHeartbeats 4000000 in
theorem c_J0_length_8abf5 (l : Launch) (hl : l.stackTraces = false) (d : Nat) (hd : 1 ≤ d) (h : mH) : mm_Met l d yJ0_length_8abf5 cJ0_length_8abf5 1 (some .int) [mR mm_tx] h (mm_pi fun r h2 => h2 = h ∧ r = 90) mm_nx 0 0 := by
  refine mm_ofW (ls := [mR mm_tx]) hl (by decide) rfl (Nat.le_of_ble_eq_true rfl) ?_
  intro x hxl C T hnm htb
  subst hxl
  have C1 := mm_OK_le (d' := d - 1 + 1) (by omega) C
  refine mm_aload_n C (mm_dec dk_J0_length_8abf5 0 rfl) rfl ?_
  refine mm_getV C fs_9 (mm_dec dk_J0_length_8abf5 1 rfl) ?_
  refine mm_tlen C (mm_dec dk_J0_length_8abf5 2 rfl) ?_
  refine mm_aload_n C (mm_dec dk_J0_length_8abf5 3 rfl) rfl ?_
  refine mm_cTi (rest := [mI 90]) C1 mw_J0_coder_7d493 rfl ms_335 im_J0_coder_7d493 se_J0_coder_7d493 (mm_dec dk_J0_length_8abf5 4 rfl) (c_J0_coder_7d493 x.2.1 hl (d - 1) (by omega) h) rfl (Nat.le_of_ble_eq_true rfl) ⟨by decide, by decide⟩ rfl (fun r6 h6c hp6 => ?_)
  obtain ⟨z6, y6⟩ := hp6
  rw [z6, y6]
  refine mm_ishr C (mm_dec dk_J0_length_8abf5 5 rfl) ?_
  exact mm_iret C T (mm_dec dk_J0_length_8abf5 6 rfl) (by decide : 0 ≤ 0) (by decide : 0 ≤ 0) ⟨_, rfl, rfl, by decide +kernel⟩
set_option maxRecDepth 100000 in
set_option maxHeartbeats 4000000 in
theorem c_J3_checkIndex_8e157_n (l : Launch) (hl : l.stackTraces = false) (d : Nat) (h : mH) (p0 p1 : Int) (u0 : 0 ≤ p0) (u1 : p0 < p1) : mm_Met l d yJ3_checkIndex_8e157 cJ3_checkIndex_8e157 3 (some .int) [mI p0, mI p1, mN] h (mm_pi fun r h2 => h2 = h) mm_nx 0 0 := by
  refine mm_ofW (ls := [mI p0, mI p1, mN]) hl (by decide) rfl (Nat.le_of_ble_eq_true rfl) ?_
  intro x hxl C T hnm htb
  subst hxl
  refine mm_iload_n C (mm_dec dk_J3_checkIndex_8e157 0 rfl) rfl ?_
  refine mm_if_lt (tgt := 9) C (mm_dec dk_J3_checkIndex_8e157 1 rfl) (by decide) (fun c1 => ?_) (fun c1 => ?_)
  · exfalso; omega
  · refine mm_iload_n C (mm_dec dk_J3_checkIndex_8e157 2 rfl) rfl ?_
    refine mm_iload_n C (mm_dec dk_J3_checkIndex_8e157 3 rfl) rfl ?_
    refine mm_icmp_lt (tgt := 16) C (mm_dec dk_J3_checkIndex_8e157 4 rfl) (by decide) (fun c6 => ?_) (fun c6 => ?_)
    · refine mm_iload_n C (mm_dec dk_J3_checkIndex_8e157 10 rfl) rfl ?_
      exact mm_iret C T (mm_dec dk_J3_checkIndex_8e157 11 rfl) (by decide : 0 ≤ 0) (by decide : 0 ≤ 0) ⟨_, rfl, rfl⟩
    · exfalso; omega
set_option maxRecDepth 100000 in
set_option maxHeartbeats 4000000 in
theorem c_J3_checkIndex_8e157_r (l : Launch) (hl : l.stackTraces = false) (d : Nat) (h : mH) (p0 p1 : Int) (u0 : 0 ≤ p0) (u1 : p0 < p1) : mm_Met l d yJ3_checkIndex_8e157 cJ3_checkIndex_8e157 3 (some .int) [mI p0, mI p1, mR 2001] h (mm_pi fun r h2 => h2 = h) mm_nx 0 0 := by
  refine mm_ofW (ls := [mI p0, mI p1, mR 2001]) hl (by decide) rfl (Nat.le_of_ble_eq_true rfl) ?_
  intro x hxl C T hnm htb
  subst hxl
  refine mm_iload_n C (mm_dec dk_J3_checkIndex_8e157 0 rfl) rfl ?_
  refine mm_if_lt (tgt := 9) C (mm_dec dk_J3_checkIndex_8e157 1 rfl) (by decide) (fun c1 => ?_) (fun c1 => ?_)
  · exfalso; omega
  · refine mm_iload_n C (mm_dec dk_J3_checkIndex_8e157 2 rfl) rfl ?_
    refine mm_iload_n C (mm_dec dk_J3_checkIndex_8e157 3 rfl) rfl ?_
    refine mm_icmp_lt (tgt := 16) C (mm_dec dk_J3_checkIndex_8e157 4 rfl) (by decide) (fun c6 => ?_) (fun c6 => ?_)
    · refine mm_iload_n C (mm_dec dk_J3_checkIndex_8e157 10 rfl) rfl ?_
      exact mm_iret C T (mm_dec dk_J3_checkIndex_8e157 11 rfl) (by decide : 0 ≤ 0) (by decide : 0 ≤ 0) ⟨_, rfl, rfl⟩
    · exfalso; omega
set_option maxRecDepth 100000 in
set_option maxHeartbeats 4000000 in
theorem c_J0_checkIndex_df160 (l : Launch) (hl : l.stackTraces = false) (d : Nat) (hd : 1 ≤ d) (h : mH) (p0 p1 : Int) (u0 : 0 ≤ p0) (u1 : p0 < p1) : mm_Met l d yJ0_checkIndex_df160 cJ0_checkIndex_df160 2 none [mI p0, mI p1] h (mm_pv fun h2 => h2 = h) mm_nx 0 0 := by
  refine mm_ofW (ls := [mI p0, mI p1]) hl (by decide) rfl (Nat.le_of_ble_eq_true rfl) ?_
  intro x hxl C T hnm htb
  subst hxl
  have C1 := mm_OK_le (d' := d - 1 + 1) (by omega) C
  refine mm_iload_n C (mm_dec dk_J0_checkIndex_df160 0 rfl) rfl ?_
  refine mm_iload_n C (mm_dec dk_J0_checkIndex_df160 1 rfl) rfl ?_
  refine mm_getsF C fs_1053 (mm_dec dk_J0_checkIndex_df160 2 rfl) (fun v hv => ?_)
  rcases hv with rfl | rfl
  · refine mm_cSi (rest := []) C1 ⟨mw_J3_checkIndex_8e157, ms_1059, sm_J3_checkIndex_8e157⟩ (mm_dec dk_J0_checkIndex_df160 3 rfl) (c_J3_checkIndex_8e157_n x.2.1 hl (d - 1) h p0 p1 u0 u1) rfl (Nat.le_of_ble_eq_true rfl) ⟨by decide, by decide⟩ rfl (fun r5 h5c hp5 => ?_) (fun _ _ q => q.elim)
    rw [hp5]
    refine mm_pop C (mm_dec dk_J0_checkIndex_df160 4 rfl) (show (0 : Nat) ≠ 1 by decide) ?_
    exact mm_vret C T (mm_dec dk_J0_checkIndex_df160 5 rfl) (by decide : 0 ≤ 0) (by decide : 0 ≤ 0) ⟨rfl, rfl⟩
  · refine mm_cSi (rest := []) C1 ⟨mw_J3_checkIndex_8e157, ms_1059, sm_J3_checkIndex_8e157⟩ (mm_dec dk_J0_checkIndex_df160 3 rfl) (c_J3_checkIndex_8e157_r x.2.1 hl (d - 1) h p0 p1 u0 u1) rfl (Nat.le_of_ble_eq_true rfl) ⟨by decide, by decide⟩ rfl (fun r5 h5c hp5 => ?_) (fun _ _ q => q.elim)
    rw [hp5]
    refine mm_pop C (mm_dec dk_J0_checkIndex_df160 4 rfl) (show (0 : Nat) ≠ 1 by decide) ?_
    exact mm_vret C T (mm_dec dk_J0_checkIndex_df160 5 rfl) (by decide : 0 ≤ 0) (by decide : 0 ≤ 0) ⟨rfl, rfl⟩
set_option maxRecDepth 100000 in
set_option maxHeartbeats 4000000 in
theorem c_J1_charAt_3b067 (l : Launch) (hl : l.stackTraces = false) (d : Nat) (hd : 2 ≤ d) (h : mH) (p1 : Int) (u0 : 0 ≤ p1) (u1 : p1 < 90) : mm_Met l d yJ1_charAt_3b067 cJ1_charAt_3b067 2 (some .char) [mR 2000, mI p1] h (mm_pi fun r h2 => (0 ≤ r ∧ r ≤ 65535) ∧ h2 = h) mm_nx 0 0 := by
  refine mm_ofW (ls := [mR 2000, mI p1]) hl (by decide) rfl (Nat.le_of_ble_eq_true rfl) ?_
  intro x hxl C T hnm htb
  subst hxl
  have C1 := mm_OK_le (d' := d - 1 + 1) (by omega) C
  refine mm_iload_n C (mm_dec dk_J1_charAt_3b067 0 rfl) rfl ?_
  refine mm_aload_n C (mm_dec dk_J1_charAt_3b067 1 rfl) rfl ?_
  refine mm_tlen C (mm_dec dk_J1_charAt_3b067 2 rfl) ?_
  refine mm_cSv (rest := []) C1 ⟨mw_J0_checkIndex_df160, ms_9, sm_J0_checkIndex_df160⟩ (mm_dec dk_J1_charAt_3b067 3 rfl) (c_J0_checkIndex_df160 x.2.1 hl (d - 1) (by omega) h p1 90 u0 u1) rfl (Nat.le_of_ble_eq_true rfl) ⟨by decide, by decide⟩ rfl (fun h3c hp3 => ?_) (fun _ _ q => q.elim)
  rw [hp3]
  refine mm_aload_n C (mm_dec dk_J1_charAt_3b067 4 rfl) rfl ?_
  refine mm_iload_n C (mm_dec dk_J1_charAt_3b067 5 rfl) rfl ?_
  refine mm_tb8 C (mm_dec dk_J1_charAt_3b067 6 rfl) u0 u1 (fun w => ?_)
  refine mm_sipush C (mm_dec dk_J1_charAt_3b067 7 rfl) ⟨by decide, by decide⟩ ?_
  refine mm_iand C (mm_dec dk_J1_charAt_3b067 8 rfl) ?_
  refine mm_i2cA C (mm_dec dk_J1_charAt_3b067 9 rfl) ?_
  refine mm_zretT C T (mm_dec dk_J1_charAt_3b067 10 rfl) (by decide : 0 ≤ 0) (by decide : 0 ≤ 0) ?_ ⟨_, rfl, (by have := mm_and_rg2 (u := w) (v := 255) (by decide) (by decide); omega), rfl⟩
  rw [show Int32.ofInt (mm_viand w 255) = Int32.ofInt w &&& 255 from by rw [mm_viand, Int32.ofInt_toInt]; rfl]
  exact sc_nar _
set_option maxRecDepth 100000 in
set_option maxHeartbeats 4000000 in
theorem c_J0_charAt_5068e (l : Launch) (hl : l.stackTraces = false) (d : Nat) (hd : 3 ≤ d) (h : mH) (p1 : Int) (u0 : 0 ≤ p1) (u1 : p1 < 90) : mm_Met l d yJ0_charAt_5068e cJ0_charAt_5068e 2 (some .char) [mR mm_tx, mI p1] h (mm_pi fun r h2 => (0 ≤ r ∧ r ≤ 65535) ∧ h2 = h) mm_nx 0 0 := by
  refine mm_ofW (ls := [mR mm_tx, mI p1]) hl (by decide) rfl (Nat.le_of_ble_eq_true rfl) ?_
  intro x hxl C T hnm htb
  subst hxl
  have C1 := mm_OK_le (d' := d - 1 + 1) (by omega) C
  refine mm_aload_n C (mm_dec dk_J0_charAt_5068e 0 rfl) rfl ?_
  refine mm_cTi (rest := []) C1 mw_J0_isLatin1_aae02 rfl ms_492 im_J0_isLatin1_aae02 se_J0_isLatin1_aae02 (mm_dec dk_J0_charAt_5068e 1 rfl) (c_J0_isLatin1_aae02 x.2.1 hl (d - 1) (by omega) h) rfl (Nat.le_of_ble_eq_true rfl) ⟨by decide, by decide⟩ rfl (fun r1 h1c hp1 => ?_)
  obtain ⟨z1, y1⟩ := hp1
  rw [z1, y1]
  refine mm_if_eq (tgt := 16) C (mm_dec dk_J0_charAt_5068e 2 rfl) (by decide) (fun c4 => ?_) (fun c4 => ?_)
  · exfalso; omega
  · refine mm_aload_n C (mm_dec dk_J0_charAt_5068e 3 rfl) rfl ?_
    refine mm_getV C fs_9 (mm_dec dk_J0_charAt_5068e 4 rfl) ?_
    refine mm_iload_n C (mm_dec dk_J0_charAt_5068e 5 rfl) rfl ?_
    refine mm_cSi (rest := []) C1 ⟨mw_J1_charAt_3b067, ms_495, sm_J1_charAt_3b067⟩ (mm_dec dk_J0_charAt_5068e 6 rfl) (c_J1_charAt_3b067 x.2.1 hl (d - 1) (by omega) h p1 u0 u1) rfl (Nat.le_of_ble_eq_true rfl) ⟨by decide, by decide⟩ rfl (fun r12 h12c hp12 => ?_) (fun _ _ q => q.elim)
    obtain ⟨b12, z12⟩ := hp12
    rw [z12]
    refine mm_zretT C T (mm_dec dk_J0_charAt_5068e 7 rfl) (by decide : 0 ≤ 0) (by decide : 0 ≤ 0) ?_ ⟨_, rfl, b12, rfl⟩
    exact mm_nchar b12.1 b12.2
