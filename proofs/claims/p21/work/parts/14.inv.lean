def mm_bf : List (List (Int × Int)) := [[(1, 1), (1, 1), (1, 1), (1, 1), (1, 1), (1, 1), (1, 1), (1, 1), (1, 1), (1, 1), (1, 1), (1, 1), (0, 500), (0, 99999), (-2147483648, 2147483647)], [(1, 1), (1, 1), (1, 1), (1, 1), (1, 1), (1, 20), (1, 20), (0, 399), (0, 399)], [], [], [], [], [], [(1, 1), (1, 1), (1, 1), (1, 1), (1, 1), (1, 1), (1, 1), (0, 400), (0, 400), (-1, 400), (-2147483648, 2147483647), (0, 1)], [], [], [], [], [], [], [(1, 1), (1, 1), (1, 1), (1, 1), (1, 1), (1, 1), (1, 1), (0, 20), (0, 8)], [], [], [], [], [], [], [], [(1, 1), (1, 1), (1, 1), (1, 1), (1, 1), (1, 1), (1, 1), (1, 1), (0, 40), (0, 10)], [], [], [], [], [], [], [], [(1, 1), (1, 1), (1, 1), (1, 1), (1, 1), (1, 1), (0, 500), (1, 1), (1, 1), (1, 1), (1, 1), (1, 1), (0, 40), (-2147483648, 2147483647)], [], [], [], [], [], [], [], [], [], [], [], [(1, 1), (1, 1), (1, 1), (0, 500), (0, 64), (-2147483648, 2147483647), (0, 1)], [], [], [], [(1, 1), (1, 1), (1, 1), (1, 1), (1, 1), (-2147483648, 2147483647), (-2147483648, 2147483647), (-2147483648, 2147483647), (-2147483648, 2147483647), (-2147483648, 2147483647), (-2147483648, 2147483647), (-2147483648, 2147483647)], [], [(1, 1), (1, 1), (1, 1), (1, 1), (1, 1), (1, 1), (1, 1), (1, 1), (0, 12), (0, 500)], [], [], [], [], [], [(1, 1), (1, 1), (1, 1), (1, 1), (1, 1), (0, 40)], [], [], [], [(1, 1), (1, 1), (1, 1), (1, 1), (1, 1), (0, 1), (0, 12), (-2147483648, 2147483647), (-2147483648, 2147483647), (-2147483648, 2147483647), (0, 1)], [], [], [], [], [(1, 1), (1, 1), (1, 1), (0, 500), (0, 500), (-2147483648, 2147483647), (-2147483648, 2147483647), (0, 500), (0, 500), (-2147483648, 2147483647), (-2147483648, 2147483647)], [], [], [(-2147483648, 2147483647), (1, 20), (1, 20), (0, 9), (1, 1), (1, 1), (1, 1), (1, 1), (1, 1), (0, 19), (0, 19), (0, 19), (0, 19), (1, 1), (1, 1), (1, 1), (1, 1), (1, 1), (-2147483648, 2147483647), (-1, 400), (1, 1), (0, 20), (0, 8), (0, 40), (0, 10), (1, 1), (1, 1), (1, 1), (1, 1), (1, 1), (1, 1), (1, 1), (1, 1), (1, 1), (1, 1), (1, 1), (1, 1), (1, 1), (1, 1), (0, 12), (0, 500), (0, 99999), (1, 1), (1, 1), (1, 1), (1, 1), (1, 1), (1, 1), (0, 500), (1, 1), (1, 1), (1, 1), (-2147483648, 2147483647), (-2147483648, 2147483647), (-2147483648, 2147483647), (1, 1), (0, 500), (-2147483648, 2147483647), (-2147483648, 2147483647), (0, 500), (0, 500), (-2147483648, 2147483647), (0, 500), (-2147483648, 2147483647), (-2147483648, 2147483647), (-2147483648, 2147483647), (-9223372036854775808, 9223372036854775807), (0, 1), (0, 1), (0, 2400), (0, 520), (0, 6), (1, 1), (1, 1), (1, 1), (1, 1), (1, 1), (1, 1), (1, 1), (1, 1), (1, 1), (1, 1), (0, 40), (1, 1), (1, 1), (1, 1), (1, 1), (-2147483648, 2147483647), (0, 1), (0, 1), (1, 1), (-2147483648, 2147483647), (1, 1), (1, 1), (1, 1), (0, 1), (-2147483648, 2147483647), (-2147483648, 2147483647), (1, 1), (1, 1), (1, 1), (1, 1)], [], [], [], [], [], [], [], [], [], [], [], [], [], [], [], [], [], [], [], [], [], [], [], [], [], [], [], [], [], [], [], [], [], [], [], [], [], [], [], [], [], [], [], [], [], [], [], [], [], [], [], [], [], [], [], [], [], [], []]
def mm_ba : List (Int × Int) := [(-9223372036854775808, 9223372036854775807), (-9223372036854775808, 9223372036854775807), (0, 7), (0, 99), (0, 1), (0, 1), (0, 99), (-9223372036854775808, 9223372036854775807), (-2147483648, 2147483647), (0, 399), (-1, 399), (0, 399), (-9223372036854775808, 9223372036854775807), (-2147483648, 2147483647), (-9223372036854775808, 9223372036854775807), (0, 399), (0, 99), (0, 1), (0, 1), (0, 12), (-2147483648, 2147483647), (0, 19), (-9223372036854775808, 9223372036854775807), (0, 7), (0, 9), (0, 80), (-2147483648, 2147483647), (-1, 39), (0, 1), (0, 39), (-9223372036854775808, 9223372036854775807), (-2147483648, 2147483647), (-2147483648, 2147483647), (-2147483648, 2147483647), (-2147483648, 2147483647), (-2147483648, 2147483647), (-2147483648, 2147483647), (-2147483648, 2147483647), (-2147483648, 2147483647), (-2147483648, 2147483647), (-2147483648, 2147483647), (-2147483648, 2147483647), (-9223372036854775808, 9223372036854775807), (-2147483648, 2147483647), (-2147483648, 2147483647), (-2147483648, 2147483647), (-9223372036854775808, 9223372036854775807), (-2147483648, 2147483647), (-9223372036854775808, 9223372036854775807), (0, 19), (-2147483648, 2147483647), (-2147483648, 2147483647), (-1, 499), (-1, 500), (-9223372036854775808, 9223372036854775807), (-1, 39), (0, 39), (-2147483648, 2147483647), (-9223372036854775808, 9223372036854775807), (-2147483648, 2147483647), (0, 19), (0, 399), (-2147483648, 2147483647), (-9223372036854775808, 9223372036854775807), (-2147483648, 2147483647), (-2147483648, 2147483647), (-9223372036854775808, 9223372036854775807), (0, 7), (0, 99), (0, 99), (0, 1), (0, 1), (0, 1000000000), (0, 400), (-2147483648, 2147483647), (-9223372036854775808, 9223372036854775807), (0, 1), (-2147483648, 2147483647), (0, 399), (-2147483648, 2147483647), (0, 12), (-2147483648, 2147483647), (0, 19), (0, 1), (0, 1), (0, 7), (0, 9), (0, 80), (-1, 9), (0, 2), (0, 39), (0, 19), (-2147483648, 2147483647), (-2147483648, 2147483647), (-2147483648, 2147483647), (-2147483648, 2147483647), (-2147483648, 2147483647), (-2147483648, 2147483647), (0, 499), (-2147483648, 2147483647), (-1, 499), (-2147483648, 2147483647), (-2147483648, 2147483647), (0, 20), (-2147483648, 2147483647), (0, 2399), (-1, 2399), (-2147483648, 2147483647), (-2147483648, 2147483647), (0, 1), (-2147483648, 2147483647), (-2147483648, 2147483647), (-2147483648, 2147483647), (-2147483648, 2147483647), (-2147483648, 2147483647), (-2147483648, 2147483647), (-2147483648, 2147483647), (0, 39), (-2147483648, 2147483647), (0, 1), (-2147483648, 2147483647), (-2147483648, 2147483647), (-2147483648, 2147483647), (0, 1), (-9223372036854775808, 9223372036854775807), (-2147483648, 2147483647)]

/-! ===== what always holds of the heap (bounds), what a method leaves alone, and rows in the form in which a program lays them ===== -/
def mm_bF (o k : Nat) : Int × Int := if o = 125 then (0, 0) else (mm_bf.getD o []).getD k (-2147483648, 2147483647)
def mm_bA (o : Nat) : Int × Int := mm_ba.getD o (-9223372036854775808, 9223372036854775807)
def mm_inv (h : mH) : Prop := (∀ o k, (mm_bF o k).1 ≤ h.1 o k ∧ h.1 o k ≤ (mm_bF o k).2) ∧ (∀ (o : Nat) (j : Int), (mm_bA o).1 ≤ h.2.1 o j ∧ h.2.1 o j ≤ (mm_bA o).2) ∧ h.2.2 = 125 + (h.1 58 5).toNat
theorem mm_inv_pf {h : mH} {o k : Nat} {v : Int} (i : mm_inv h) (hb : (mm_bF o k).1 ≤ v ∧ v ≤ (mm_bF o k).2) (ht : ¬ (58 = o ∧ 5 = k)) : mm_inv (mm_pf h o k v) := by
  refine ⟨fun o' k' => ?_, i.2.1, ?_⟩
  · by_cases hq : o' = o ∧ k' = k
    · rw [hq.1, hq.2, mm_pf_same]; exact hb
    · rw [mm_pf_ne h v hq]; exact i.1 o' k'
  · rw [mm_pf_ne h v ht]; exact i.2.2
theorem mm_inv_pa {h : mH} {o : Nat} {j v : Int} (i : mm_inv h) (hb : (mm_bA o).1 ≤ v ∧ v ≤ (mm_bA o).2) : mm_inv (mm_pa h o j v) := by
  refine ⟨i.1, fun o' j' => ?_, i.2.2⟩
  by_cases hq : o' = o ∧ j' = j
  · rw [hq.1, hq.2, mm_pa_same]; exact hb
  · rw [mm_pa_ne h v hq]; exact i.2.1 o' j'
def mm_fr (wf : List (Nat × Nat)) (wa : List Nat) (h h' : mH) : Prop := (∀ o k, (o, k) ∉ wf → h'.1 o k = h.1 o k) ∧ (∀ o, o ∉ wa → ∀ j, h'.2.1 o j = h.2.1 o j)
theorem mm_fr_rf {wf : List (Nat × Nat)} {wa : List Nat} {h : mH} : mm_fr wf wa h h := ⟨fun _ _ _ => rfl, fun _ _ _ => rfl⟩
theorem mm_fr_pf {wf : List (Nat × Nat)} {wa : List Nat} {h h' : mH} {o k : Nat} {v : Int} (f : mm_fr wf wa h h') (hm : (o, k) ∈ wf) : mm_fr wf wa h (mm_pf h' o k v) := by
  refine ⟨fun o' k' hn => ?_, f.2⟩
  rw [mm_pf_ne h' v (fun q => hn (by rw [q.1, q.2]; exact hm))]
  exact f.1 o' k' hn
theorem mm_fr_pa {wf : List (Nat × Nat)} {wa : List Nat} {h h' : mH} {o : Nat} {i v : Int} (f : mm_fr wf wa h h') (hm : o ∈ wa) : mm_fr wf wa h (mm_pa h' o i v) := by
  refine ⟨f.1, fun o' hn j => ?_⟩
  rw [mm_pa_ne h' v (fun q => hn (by rw [q.1]; exact hm))]
  exact f.2 o' hn j
theorem mm_fr_tr {wf wf' : List (Nat × Nat)} {wa wa' : List Nat} {h h1 h2 : mH} (f : mm_fr wf wa h h1) (g : mm_fr wf' wa' h1 h2) (hs : (wf'.all (fun q => wf.contains q) && wa'.all (fun q => wa.contains q)) = true) : mm_fr wf wa h h2 := by
  simp only [Bool.and_eq_true, List.all_eq_true] at hs
  refine ⟨fun o k hn => ?_, fun o hn j => ?_⟩
  · rw [g.1 o k (fun q => hn (List.contains_iff_mem.mp (hs.1 _ q)))]
    exact f.1 o k hn
  · rw [g.2 o (fun q => hn (List.contains_iff_mem.mp (hs.2 _ q))) j]
    exact f.2 o hn j
def mm_pi (P : Int → mH → Prop) : Option mV → mH → Prop := fun v h' => ∃ r : Int, v = some (mI r) ∧ P r h'
def mm_pl (P : Int → mH → Prop) : Option mV → mH → Prop := fun v h' => ∃ r : Int, v = some (mL r) ∧ P r h'
def mm_pv (P : mH → Prop) : Option mV → mH → Prop := fun v h' => v = none ∧ P h'
abbrev mm_nx : String → mH → Prop := fun _ _ => False
theorem mm_OK_le {x : mX} {d d' cs ss : Nat} {cc : ByteArray} {own : String} {nL : Nat} {ret : Option FieldType} (h : d' ≤ d) (C : mm_OK d cs ss cc own nL ret x) : mm_OK d' cs ss cc own nL ret x := by
  obtain ⟨p, l, e, R, s, m, args, below, meth, c, G, ad0, A, n0, Q⟩ := x
  obtain ⟨c1, c2, c3, c4, c5, c6, c7, c8, c9, c10, c11, c12, c13, c14, c15⟩ := C
  exact ⟨c1, c2, c3, c4, c5, c6, c7, c8, c9, c10, c11, by omega, by omega, c14, c15⟩
/-- what a virtual call of entry 'index' of class 'own' leads to -/
def mm_EV (own : String) (index : Nat) (y : MethodName) (bytes : ByteArray) (maxL : Nat) (rt : Option FieldType) (n ci : Nat) : Prop := mm_MW y bytes maxL rt n ∧ (∃ (CN : String) (T : u_T) (N : Nat) (ty0 : Nat → FieldType), mm_CL ci CN T N ty0 ∧ y.cls = CN) ∧ Cond.methodLink own index y ∈ mm_T ∧ Cond.instanceMethod y ∈ mm_T ∧ Cond.selects y.cls y y ∈ mm_T
def mm_ES (own : String) (index : Nat) (y : MethodName) (bytes : ByteArray) (maxL : Nat) (rt : Option FieldType) (n : Nat) : Prop := mm_MW y bytes maxL rt n ∧ Cond.methodLink own index y ∈ mm_T ∧ Cond.static y ∈ mm_T
section MML
variable {x : mX} {d cs ss : Nat} {cc : ByteArray} {own : String} {nL : Nat} {ret : Option FieldType} {a b pc : Nat} {ls st : List mV} {h : mH} {xp : String → mH → Prop} {mc ms : Nat}
theorem mm_rng (kk : mm_okl h ls → mm_okl h st → mm_W x a b pc ls st h) : mm_W x a b pc ls st h := by
  obtain ⟨p, l, e, R, s, m, args, below, meth, c, G, ad0, A, n0, Q⟩ := x
  intro ad H locs jl h3 h4 h5 h6
  exact kk h5 h6 ad H locs jl h3 h4 h5 h6
theorem mm_fgt (i : Nat) (kk : mm_W x a b pc (ls.set i mU) st h) : mm_W x a b pc ls st h := by
  obtain ⟨p, l, e, R, s, m, args, below, meth, c, G, ad0, A, n0, Q⟩ := x
  intro ad H locs jl h3 h4 h5 h6
  refine kk ad H locs jl h3 ⟨h4.1, h4.2.1, fun q hq => h4.2.2 q ?_⟩ (fun v hv => ?_) h6
  · obtain ⟨j, v, g1, g2, g3⟩ := (mm_lv_mem _ 0 q).mp hq
    rcases mm_set_get g1 with ⟨-, e2⟩ | ⟨-, e2⟩
    · rw [e2] at g2; exact absurd g2 (by decide)
    · exact (mm_lv_mem _ 0 q).mpr ⟨j, v, e2, g2, g3⟩
  · obtain ⟨j, hj⟩ := List.mem_iff_getElem?.mp hv
    rcases mm_set_get hj with ⟨-, e2⟩ | ⟨-, e2⟩
    · rw [e2]; trivial
    · exact h5 v (List.mem_of_getElem? e2)
theorem mm_alenz {o n kd : Nat} {z : Int} {r : List Nat} (C : mm_OK d cs ss cc own nL ret x) (hd : decode cc pc = .ok (.arraylength, 1)) (hs : mm_sh o = (kd, n, r)) (hk : kd = 1 ∨ kd = 2 ∨ kd = 3) (hn : n < 2147483648) (hz : (n : Int) = z) (kk : mm_W x a b (pc + 1) ls (mI z :: st) h) : mm_W x a b pc ls (mR o :: st) h := by
  subst hz
  exact mm_alen C hd hs hk hn kk

theorem mm_cVi {index n o ci maxL : Nat} {y : MethodName} {bytes : ByteArray} {rt : Option FieldType} {As rest : List mV} {fks : List Nat} {P : Int → mH → Prop} (C : mm_OK (d + 1) cs ss cc own nL ret x) (E : mm_EV own index y bytes maxL rt n ci) (hd : decode cc pc = .ok (.invokevirtual index, 3)) (hM : mm_Met x.2.1 d y bytes maxL rt (mR o :: As) h (mm_pi P) xp mc ms) (hs : mm_sh o = (0, ci, fks)) (hn : As.length = n) (hcat : mm_cats rest ≤ 8) (hf : a + mc ≤ cs ∧ b + ms ≤ ss) {stk : List mV} (hstk : stk = As.reverse ++ mR o :: rest)
    (kr : ∀ (r : Int) (h1 : mH), P r h1 → mm_W x (a + mc) (b + ms) (pc + 3) ls (mI r :: rest) h1) (kx : ∀ (E : String) (h1 : mH), xp E h1 → mm_Wx x (a + mc) (b + ms) pc ls E h1) : mm_W x a b pc ls stk h := by
  obtain ⟨M, ⟨CN, T, N, ty0, L, hC⟩, hw, hi, hse⟩ := E
  exact mm_callV C M L hC hw hi hse hM hd hs hn hcat hf hstk (fun v h1 ⟨r, hv, hp⟩ => by subst hv; exact kr r h1 hp) kx
theorem mm_cVl {index n o ci maxL : Nat} {y : MethodName} {bytes : ByteArray} {rt : Option FieldType} {As rest : List mV} {fks : List Nat} {P : Int → mH → Prop} (C : mm_OK (d + 1) cs ss cc own nL ret x) (E : mm_EV own index y bytes maxL rt n ci) (hd : decode cc pc = .ok (.invokevirtual index, 3)) (hM : mm_Met x.2.1 d y bytes maxL rt (mR o :: As) h (mm_pl P) xp mc ms) (hs : mm_sh o = (0, ci, fks)) (hn : As.length = n) (hcat : mm_cats rest ≤ 8) (hf : a + mc ≤ cs ∧ b + ms ≤ ss) {stk : List mV} (hstk : stk = As.reverse ++ mR o :: rest)
    (kr : ∀ (r : Int) (h1 : mH), P r h1 → mm_W x (a + mc) (b + ms) (pc + 3) ls (mL r :: rest) h1) (kx : ∀ (E : String) (h1 : mH), xp E h1 → mm_Wx x (a + mc) (b + ms) pc ls E h1) : mm_W x a b pc ls stk h := by
  obtain ⟨M, ⟨CN, T, N, ty0, L, hC⟩, hw, hi, hse⟩ := E
  exact mm_callV C M L hC hw hi hse hM hd hs hn hcat hf hstk (fun v h1 ⟨r, hv, hp⟩ => by subst hv; exact kr r h1 hp) kx
theorem mm_cVv {index n o ci maxL : Nat} {y : MethodName} {bytes : ByteArray} {rt : Option FieldType} {As rest : List mV} {fks : List Nat} {P : mH → Prop} (C : mm_OK (d + 1) cs ss cc own nL ret x) (E : mm_EV own index y bytes maxL rt n ci) (hd : decode cc pc = .ok (.invokevirtual index, 3)) (hM : mm_Met x.2.1 d y bytes maxL rt (mR o :: As) h (mm_pv P) xp mc ms) (hs : mm_sh o = (0, ci, fks)) (hn : As.length = n) (hcat : mm_cats rest ≤ 8) (hf : a + mc ≤ cs ∧ b + ms ≤ ss) {stk : List mV} (hstk : stk = As.reverse ++ mR o :: rest)
    (kr : ∀ (h1 : mH), P h1 → mm_W x (a + mc) (b + ms) (pc + 3) ls rest h1) (kx : ∀ (E : String) (h1 : mH), xp E h1 → mm_Wx x (a + mc) (b + ms) pc ls E h1) : mm_W x a b pc ls stk h := by
  obtain ⟨M, ⟨CN, T, N, ty0, L, hC⟩, hw, hi, hse⟩ := E
  exact mm_callV C M L hC hw hi hse hM hd hs hn hcat hf hstk (fun v h1 ⟨hv, hp⟩ => by subst hv; exact kr h1 hp) kx
theorem mm_cSi {index n maxL : Nat} {y : MethodName} {bytes : ByteArray} {rt : Option FieldType} {As rest : List mV} {P : Int → mH → Prop} (C : mm_OK (d + 1) cs ss cc own nL ret x) (E : mm_ES own index y bytes maxL rt n) (hd : decode cc pc = .ok (.invokestatic index, 3)) (hM : mm_Met x.2.1 d y bytes maxL rt As h (mm_pi P) xp mc ms) (hn : As.length = n) (hcat : mm_cats rest ≤ 8) (hf : a + mc ≤ cs ∧ b + ms ≤ ss) {stk : List mV} (hstk : stk = As.reverse ++ rest)
    (kr : ∀ (r : Int) (h1 : mH), P r h1 → mm_W x (a + mc) (b + ms) (pc + 3) ls (mI r :: rest) h1) (kx : ∀ (E : String) (h1 : mH), xp E h1 → mm_Wx x (a + mc) (b + ms) pc ls E h1) : mm_W x a b pc ls stk h := by
  exact mm_callS C E.1 E.2.1 E.2.2 hM hd hn hcat hf hstk (fun v h1 ⟨r, hv, hp⟩ => by subst hv; exact kr r h1 hp) kx
theorem mm_cSl {index n maxL : Nat} {y : MethodName} {bytes : ByteArray} {rt : Option FieldType} {As rest : List mV} {P : Int → mH → Prop} (C : mm_OK (d + 1) cs ss cc own nL ret x) (E : mm_ES own index y bytes maxL rt n) (hd : decode cc pc = .ok (.invokestatic index, 3)) (hM : mm_Met x.2.1 d y bytes maxL rt As h (mm_pl P) xp mc ms) (hn : As.length = n) (hcat : mm_cats rest ≤ 8) (hf : a + mc ≤ cs ∧ b + ms ≤ ss) {stk : List mV} (hstk : stk = As.reverse ++ rest)
    (kr : ∀ (r : Int) (h1 : mH), P r h1 → mm_W x (a + mc) (b + ms) (pc + 3) ls (mL r :: rest) h1) (kx : ∀ (E : String) (h1 : mH), xp E h1 → mm_Wx x (a + mc) (b + ms) pc ls E h1) : mm_W x a b pc ls stk h := by
  exact mm_callS C E.1 E.2.1 E.2.2 hM hd hn hcat hf hstk (fun v h1 ⟨r, hv, hp⟩ => by subst hv; exact kr r h1 hp) kx
theorem mm_cSv {index n maxL : Nat} {y : MethodName} {bytes : ByteArray} {rt : Option FieldType} {As rest : List mV} {P : mH → Prop} (C : mm_OK (d + 1) cs ss cc own nL ret x) (E : mm_ES own index y bytes maxL rt n) (hd : decode cc pc = .ok (.invokestatic index, 3)) (hM : mm_Met x.2.1 d y bytes maxL rt As h (mm_pv P) xp mc ms) (hn : As.length = n) (hcat : mm_cats rest ≤ 8) (hf : a + mc ≤ cs ∧ b + ms ≤ ss) {stk : List mV} (hstk : stk = As.reverse ++ rest)
    (kr : ∀ (h1 : mH), P h1 → mm_W x (a + mc) (b + ms) (pc + 3) ls rest h1) (kx : ∀ (E : String) (h1 : mH), xp E h1 → mm_Wx x (a + mc) (b + ms) pc ls E h1) : mm_W x a b pc ls stk h := by
  exact mm_callS C E.1 E.2.1 E.2.2 hM hd hn hcat hf hstk (fun v h1 ⟨hv, hp⟩ => by subst hv; exact kr h1 hp) kx
theorem mm_cNi {index n maxL : Nat} {y : MethodName} {host : String} {bytes : ByteArray} {rt : Option FieldType} {As rest : List mV} {P : Int → mH → Prop} (C : mm_OK (d + 1) cs ss cc own nL ret x) (M : mm_MW y bytes maxL rt n) (hw : (own, index, y, host) ∈ mm_nest) (hst : Cond.static y ∈ mm_T) (hd : decode cc pc = .ok (.invokestatic index, 3)) (hM : mm_Met x.2.1 d y bytes maxL rt As h (mm_pi P) mm_nx mc ms) (hn : As.length = n) (hcat : mm_cats rest ≤ 8) (hf : a + mc ≤ cs ∧ b + ms ≤ ss) {stk : List mV} (hstk : stk = As.reverse ++ rest)
    (kr : ∀ (r : Int) (h1 : mH), P r h1 → mm_W x (a + mc) (b + ms) (pc + 3) ls (mI r :: rest) h1) : mm_W x a b pc ls stk h :=
  mm_callSN C M hw hst hM hd hn hcat hf hstk (fun v h1 ⟨r, hv, hp⟩ => by subst hv; exact kr r h1 hp)
end MML
theorem mm_and_rg {u v : Int} (hu : 0 ≤ u) (hu2 : u < 2147483648) : 0 ≤ mm_viand u v ∧ mm_viand u v ≤ u := by
  have e : mm_viand u v = ((Int32.ofInt u).toBitVec &&& (Int32.ofInt v).toBitVec).toInt := rfl
  have h1 : (Int32.ofInt u).toBitVec.toNat = u.toNat := by
    have h2 : (Int32.ofInt u).toBitVec.toInt = u := mm_t u ⟨by omega, hu2⟩
    have h3 := BitVec.toInt_eq_toNat_cond (Int32.ofInt u).toBitVec
    rw [h2] at h3
    split at h3 <;> omega
  have h4 : ((Int32.ofInt u).toBitVec &&& (Int32.ofInt v).toBitVec).toNat ≤ u.toNat := by
    rw [BitVec.toNat_and, h1]; exact Nat.and_le_left
  have h5 : ((Int32.ofInt u).toBitVec &&& (Int32.ofInt v).toBitVec).toInt = (((Int32.ofInt u).toBitVec &&& (Int32.ofInt v).toBitVec).toNat : Int) := by
    rw [BitVec.toInt_eq_toNat_cond, if_pos (by omega)]
  rw [e, h5]
  exact ⟨by omega, by omega⟩
theorem mm_and_rg2 {u v : Int} (hv : 0 ≤ v) (hv2 : v < 2147483648) : 0 ≤ mm_viand u v ∧ mm_viand u v ≤ v := by
  have e : mm_viand u v = mm_viand v u := by
    show ((Int32.ofInt u) &&& (Int32.ofInt v)).toInt = ((Int32.ofInt v) &&& (Int32.ofInt u)).toInt
    rw [Int32.and_comm]
  rw [e]
  exact mm_and_rg hv hv2
theorem mm_or_rg {u v : Int} (k : Nat) (hk : k ≤ 30) (hu : 0 ≤ u ∧ u < 2 ^ k) (hv : 0 ≤ v ∧ v < 2 ^ k) : 0 ≤ mm_vior u v ∧ mm_vior u v < 2 ^ k := by
  have hk2 : (2 : Nat) ^ k ≤ 2 ^ 30 := Nat.pow_le_pow_right (by decide) hk
  have hk3 : ((2 ^ k : Nat) : Int) = (2 : Int) ^ k := by norm_cast
  have e : mm_vior u v = ((Int32.ofInt u).toBitVec ||| (Int32.ofInt v).toBitVec).toInt := rfl
  have h1 : ∀ w : Int, 0 ≤ w → w < 2147483648 → (Int32.ofInt w).toBitVec.toNat = w.toNat := by
    intro w hw hw2
    have h2 : (Int32.ofInt w).toBitVec.toInt = w := mm_t w ⟨by omega, hw2⟩
    have h3 := BitVec.toInt_eq_toNat_cond (Int32.ofInt w).toBitVec
    rw [h2] at h3
    split at h3 <;> omega
  have h4 : ((Int32.ofInt u).toBitVec ||| (Int32.ofInt v).toBitVec).toNat < 2 ^ k := by
    rw [BitVec.toNat_or, h1 u hu.1 (by omega), h1 v hv.1 (by omega)]
    exact Nat.or_lt_two_pow (by omega) (by omega)
  have h5 : ((Int32.ofInt u).toBitVec ||| (Int32.ofInt v).toBitVec).toInt = (((Int32.ofInt u).toBitVec ||| (Int32.ofInt v).toBitVec).toNat : Int) := by
    rw [BitVec.toInt_eq_toNat_cond, if_pos (by omega)]
  rw [e, h5]
  exact ⟨by omega, by omega⟩
theorem mm_shl1_all : ∀ n : Nat, n < 13 → mm_vishl 1 (n : Int) = 2 ^ n := by decide +kernel
theorem mm_shl1 {v : Int} (hv : 0 ≤ v ∧ v ≤ 12) : 1 ≤ mm_vishl 1 v ∧ mm_vishl 1 v ≤ 4096 := by
  have h := mm_shl1_all v.toNat (by omega)
  rw [Int.toNat_of_nonneg hv.1] at h
  have h2 : v.toNat ≤ 12 := by omega
  have h3 : (2 : Nat) ^ v.toNat ≤ 2 ^ 12 := Nat.pow_le_pow_right (by decide) h2
  have h4 : 1 ≤ (2 : Nat) ^ v.toNat := Nat.one_le_two_pow
  have h5 : ((2 ^ v.toNat : Nat) : Int) = (2 : Int) ^ v.toNat := by norm_cast
  rw [h]
  exact ⟨by omega, by omega⟩

section MML2
variable {x : mX} {d cs ss : Nat} {cc : ByteArray} {own : String} {nL : Nat} {ret : Option FieldType} {a b pc : Nat} {ls ls2 st : List mV} {h : mH} {xp : String → mH → Prop} {mc ms : Nat}
theorem mm_istore_nL {k : Fin 4} {z : Int} (C : mm_OK d cs ss cc own nL ret x) (hd : decode cc pc = .ok (.istore_n k, 1)) (hn : (k : Nat) < nL) (hl : mm_st ls (k : Nat) (mI z) = ls2) (kk : mm_W x a b (pc + 1) ls2 st h) : mm_W x a b pc ls (mI z :: st) h := by
  subst hl; exact mm_istore_n C hd hn kk
theorem mm_istoreL {k : Nat} {z : Int} (C : mm_OK d cs ss cc own nL ret x) (hd : decode cc pc = .ok (.istore k, 2)) (hn : k < nL) (hl : mm_st ls k (mI z) = ls2) (kk : mm_W x a b (pc + 2) ls2 st h) : mm_W x a b pc ls (mI z :: st) h := by
  subst hl; exact mm_istore C hd hn kk
theorem mm_lstore_nL {k : Fin 4} {z : Int} (C : mm_OK d cs ss cc own nL ret x) (hd : decode cc pc = .ok (.lstore_n k, 1)) (hn : (k : Nat) + 1 < nL) (hl : mm_st2 ls (k : Nat) (mL z) = ls2) (kk : mm_W x a b (pc + 1) ls2 st h) : mm_W x a b pc ls (mL z :: st) h := by
  subst hl; exact mm_lstore_n C hd hn kk
theorem mm_lstoreL {k : Nat} {z : Int} (C : mm_OK d cs ss cc own nL ret x) (hd : decode cc pc = .ok (.lstore k, 2)) (hn : k + 1 < nL) (hl : mm_st2 ls k (mL z) = ls2) (kk : mm_W x a b (pc + 2) ls2 st h) : mm_W x a b pc ls (mL z :: st) h := by
  subst hl; exact mm_lstore C hd hn kk
theorem mm_astore_nL {k : Fin 4} {o : Nat} (C : mm_OK d cs ss cc own nL ret x) (hd : decode cc pc = .ok (.astore_n k, 1)) (hn : (k : Nat) < nL) (hl : mm_st ls (k : Nat) (mR o) = ls2) (kk : mm_W x a b (pc + 1) ls2 st h) : mm_W x a b pc ls (mR o :: st) h := by
  subst hl; exact mm_astore_n C hd hn kk
theorem mm_iincL {i : Nat} {n z : Int} (C : mm_OK d cs ss cc own nL ret x) (hd : decode cc pc = .ok (.iinc i n, 3)) (hl : ls[i]? = some (mI z)) (hn : i < nL) (hr : mm_i32 (z + n)) (h2 : mm_st ls i (mI (z + n)) = ls2) (kk : mm_W x a b (pc + 3) ls2 st h) : mm_W x a b pc ls st h := by
  subst h2; exact mm_iinc C hd hl hn hr kk
theorem mm_iincwL {i : Nat} {n z : Int} (C : mm_OK d cs ss cc own nL ret x) (hd : decode cc pc = .ok (.iinc i n, 3)) (hl : ls[i]? = some (mI z)) (hn : i < nL) (h2 : mm_st ls i (mI (mm_w (z + n))) = ls2) (kk : mm_W x a b (pc + 3) ls2 st h) : mm_W x a b pc ls st h := by
  subst h2; exact mm_iincw C hd hl hn kk
end MML2
theorem mm_ref {h : mH} {o k : Nat} (i : mm_inv h) (hb : mm_bF o k = (1, 1)) : h.1 o k ≠ 0 := by
  have := i.1 o k
  rw [hb] at this
  omega
def mm_xp (h : mH) : String → mH → Prop := fun E h' => (E = "java/util/NoSuchElementException" ∧ h' = h) ∨ (E = "java/lang/IllegalArgumentException" ∧ h' = h)
theorem mm_mul_rg {u v A B : Int} (hu : 0 ≤ u ∧ u ≤ A) (hv : 0 ≤ v ∧ v ≤ B) : 0 ≤ u * v ∧ u * v ≤ A * B :=
  ⟨Int.mul_nonneg hu.1 hv.1, Int.mul_le_mul hu.2 hv.2 hv.1 (by omega)⟩
def mm_bes (h : mH) (c m : Int) : Int :=
  if m = 0 then (if 0 < c / 20 ∧ h.2.1 5 (c - 20) = 0 then c - 20 else -1)
  else if m = 1 then (if c % 20 < h.1 1 5 - 1 ∧ h.2.1 4 c = 0 then c + 1 else -1)
  else if m = 2 then (if c / 20 < h.1 1 6 - 1 ∧ h.2.1 5 c = 0 then c + 20 else -1)
  else if m = 3 then (if 0 < c % 20 ∧ h.2.1 4 (c - 1) = 0 then c - 1 else -1)
  else -1
theorem mm_bes_fr {h h' : mH} {c m : Int} (h1 : h'.1 1 5 = h.1 1 5) (h2 : h'.1 1 6 = h.1 1 6) (h3 : ∀ j, h'.2.1 4 j = h.2.1 4 j) (h4 : ∀ j, h'.2.1 5 j = h.2.1 5 j) : mm_bes h' c m = mm_bes h c m := by
  unfold mm_bes
  rw [h1, h2, h3, h3, h4, h4]
theorem mm_rng64 (z : Int64) : -9223372036854775808 ≤ z.toInt ∧ z.toInt < 9223372036854775808 := ⟨Int64.le_toInt z, Int64.toInt_lt z⟩

theorem mm_okcons {h : mH} {v : mV} {l : List mV} (hv : mm_okv h v) (hl : mm_okl h l) : mm_okl h (v :: l) := by
  intro w hw
  rcases List.mem_cons.mp hw with rfl | hw
  · exact hv
  · exact hl w hw
section MMX
variable {x : mX} {d cs ss : Nat} {cc : ByteArray} {own : String} {nL : Nat} {ret : Option FieldType} {a b pc : Nat} {ls st : List mV} {h : mH}
theorem mm_mmin {index : Nat} {u v : Int} (C : mm_OK (d + 1) cs ss cc own nL ret x) (h1 : Cond.methodLink own index Lib.Math.min.name ∈ mm_T) (h2 : Cond.static Lib.Math.min.name ∈ mm_T) (h3 : Cond.initialized "java/lang/Math" ∈ mm_T) (h4 : Cond.code Lib.Math.min.name Lib.Math.min.code 2 (some .int) ∈ mm_T) (hd : decode cc pc = .ok (.invokestatic index, 3)) (hcat : mm_cats st ≤ 8) (hf : a ≤ cs ∧ b ≤ ss)
    (kk : ∀ z : Int, z ≤ u ∧ z ≤ v ∧ (z = u ∨ z = v) → mm_W x a b (pc + 3) ls (mI z :: st) h) : mm_W x a b pc ls (mI v :: mI u :: st) h := by
  obtain ⟨p, l, e, R, s, m, args, below, meth, c, G, ad0, A, n0, Q⟩ := x
  intro ad H locs jl h5 h6 h7 h8
  obtain ⟨c1, c2, c3, c4, c5, c6, c7, c8, c9, c10, c11, c12, c13, c14, c15⟩ := C
  have hv := mm_ok_hd h8
  have hu := mm_ok_hd (mm_ok_tl h8)
  have h9 := mm_ok_tl (mm_ok_tl h8)
  refine va_mmin c1 c2 h6.1.symm c4 (c5 _ h1) (c5 _ h2) (c5 _ h3) (c5 _ h4) (by omega) (by rw [mm_cats_j]; omega) (Nat.le_trans hf.1 c14) (Nat.le_trans hf.2 c15) hd ?_
  by_cases q : v < u
  · rw [if_pos ((mm_ltI hv hu).mpr q)]
    exact kk v ⟨by omega, by omega, Or.inr rfl⟩ ad H locs jl h5 h6 h7 (mm_okcons hv h9)
  · rw [if_neg (fun z => q ((mm_ltI hv hu).mp z))]
    exact kk u ⟨by omega, by omega, Or.inl rfl⟩ ad H locs jl h5 h6 h7 (mm_okcons hu h9)
theorem mm_mmax {index : Nat} {u v : Int} (C : mm_OK (d + 1) cs ss cc own nL ret x) (h1 : Cond.methodLink own index Lib.Math.max.name ∈ mm_T) (h2 : Cond.static Lib.Math.max.name ∈ mm_T) (h3 : Cond.initialized "java/lang/Math" ∈ mm_T) (h4 : Cond.code Lib.Math.max.name Lib.Math.max.code 2 (some .int) ∈ mm_T) (hd : decode cc pc = .ok (.invokestatic index, 3)) (hcat : mm_cats st ≤ 8) (hf : a ≤ cs ∧ b ≤ ss)
    (kk : ∀ z : Int, u ≤ z ∧ v ≤ z ∧ (z = u ∨ z = v) → mm_W x a b (pc + 3) ls (mI z :: st) h) : mm_W x a b pc ls (mI v :: mI u :: st) h := by
  obtain ⟨p, l, e, R, s, m, args, below, meth, c, G, ad0, A, n0, Q⟩ := x
  intro ad H locs jl h5 h6 h7 h8
  obtain ⟨c1, c2, c3, c4, c5, c6, c7, c8, c9, c10, c11, c12, c13, c14, c15⟩ := C
  have hv := mm_ok_hd h8
  have hu := mm_ok_hd (mm_ok_tl h8)
  have h9 := mm_ok_tl (mm_ok_tl h8)
  refine va_mmax c1 c2 h6.1.symm c4 (c5 _ h1) (c5 _ h2) (c5 _ h3) (c5 _ h4) (by omega) (by rw [mm_cats_j]; omega) (Nat.le_trans hf.1 c14) (Nat.le_trans hf.2 c15) hd ?_
  by_cases q : u < v
  · rw [if_pos ((mm_ltI hu hv).mpr q)]
    exact kk v ⟨by omega, by omega, Or.inr rfl⟩ ad H locs jl h5 h6 h7 (mm_okcons hv h9)
  · rw [if_neg (fun z => q ((mm_ltI hu hv).mp z))]
    exact kk u ⟨by omega, by omega, Or.inl rfl⟩ ad H locs jl h5 h6 h7 (mm_okcons hu h9)
theorem mm_mminl {index : Nat} {u v : Int} (C : mm_OK (d + 1) cs ss cc own nL ret x) (h1 : Cond.methodLink own index Lib.MathLoose.min_long.x ∈ mm_T) (h2 : Cond.static Lib.MathLoose.min_long.x ∈ mm_T) (h3 : Cond.initialized "java/lang/Math" ∈ mm_T) (h4 : Cond.code Lib.MathLoose.min_long.x Lib.MathLoose.min_long.code 4 (some .long) ∈ mm_T) (hd : decode cc pc = .ok (.invokestatic index, 3)) (hcat : mm_cats st ≤ 8) (hf : a ≤ cs ∧ b ≤ ss)
    (kk : ∀ z : Int, z ≤ u ∧ z ≤ v ∧ (z = u ∨ z = v) → mm_W x a b (pc + 3) ls (mL z :: st) h) : mm_W x a b pc ls (mL v :: mL u :: st) h := by
  obtain ⟨p, l, e, R, s, m, args, below, meth, c, G, ad0, A, n0, Q⟩ := x
  intro ad H locs jl h5 h6 h7 h8
  obtain ⟨c1, c2, c3, c4, c5, c6, c7, c8, c9, c10, c11, c12, c13, c14, c15⟩ := C
  have hv := mm_ok_hd h8
  have hu := mm_ok_hd (mm_ok_tl h8)
  have h9 := mm_ok_tl (mm_ok_tl h8)
  refine va_mmin_long c1 c2 h6.1.symm c4 (c5 _ h1) (c5 _ h2) (c5 _ h3) (c5 _ h4) (by omega) (by rw [mm_cats_j]; omega) (Nat.le_trans hf.1 c14) (Nat.le_trans hf.2 c15) hd ?_
  by_cases q : v < u
  · rw [if_pos ((mm_ltL hv hu).mpr q)]
    exact kk v ⟨by omega, by omega, Or.inr rfl⟩ ad H locs jl h5 h6 h7 (mm_okcons hv h9)
  · rw [if_neg (fun z => q ((mm_ltL hv hu).mp z))]
    exact kk u ⟨by omega, by omega, Or.inl rfl⟩ ad H locs jl h5 h6 h7 (mm_okcons hu h9)
end MMX

def mm_cn (A : Int → Int) : Nat → Nat
  | 0 => 0
  | n + 1 => mm_cn A n + (if A (n : Int) = -1 then 0 else 1)
theorem mm_cn_le (A : Int → Int) : ∀ n, mm_cn A n ≤ n
  | 0 => Nat.le_refl _
  | n + 1 => by
    have := mm_cn_le A n
    unfold mm_cn
    split <;> omega
theorem mm_cn_free (A : Int → Int) (k : Nat) (hk : A (k : Int) = -1) : ∀ n, k < n → mm_cn A n + 1 ≤ n
  | 0, h => absurd h (by omega)
  | n + 1, h => by
    have h1 := mm_cn_le A n
    unfold mm_cn
    by_cases q : k = n
    · subst q; rw [if_pos hk]; omega
    · have := mm_cn_free A k hk n (by omega)
      split <;> omega
theorem mm_cn_mono {A B : Int → Int} (h : ∀ j, A j ≠ -1 → B j ≠ -1) : ∀ n, mm_cn A n ≤ mm_cn B n
  | 0 => Nat.le_refl _
  | n + 1 => by
    have h1 := mm_cn_mono h n
    have h2 := h (n : Int)
    unfold mm_cn
    by_cases q : A (n : Int) = -1
    · rw [if_pos q]; omega
    · rw [if_neg q, if_neg (h2 q)]; omega
theorem mm_cn_more {A B : Int → Int} (h : ∀ j, A j ≠ -1 → B j ≠ -1) (k : Nat) (hk : A (k : Int) = -1) (hb : B (k : Int) ≠ -1) : ∀ n, k < n → mm_cn A n + 1 ≤ mm_cn B n
  | 0, z => absurd z (by omega)
  | n + 1, z => by
    have h2 := h (n : Int)
    unfold mm_cn
    by_cases q : k = n
    · subst q
      have h1 := mm_cn_mono h k
      rw [if_pos hk, if_neg hb]; omega
    · have h1 := mm_cn_more h k hk hb n (by omega)
      by_cases q : A (n : Int) = -1
      · rw [if_pos q]; omega
      · rw [if_neg q, if_neg (h2 q)]; omega
def mm_cnt (h : mH) : Nat := mm_cn (fun j => h.2.1 10 j) 400
theorem mm_cnt_free {h : mH} {j : Int} (hj : 0 ≤ j ∧ j ≤ 399) (hs : h.2.1 10 j = -1) : mm_cnt h ≤ 399 := by
  have h1 := mm_cn_free (fun j => h.2.1 10 j) j.toNat (by rw [Int.toNat_of_nonneg hj.1]; exact hs) 400 (by omega)
  unfold mm_cnt
  omega
theorem mm_cnt_put {h : mH} {j v : Int} (hj : 0 ≤ j ∧ j ≤ 399) (hv : v ≠ -1) : mm_cnt h ≤ mm_cnt (mm_pa h 10 j v) ∧ (h.2.1 10 j ≠ -1 ∨ mm_cnt h + 1 ≤ mm_cnt (mm_pa h 10 j v)) := by
  have h0 : ∀ z, h.2.1 10 z ≠ -1 → (mm_pa h 10 j v).2.1 10 z ≠ -1 := by
    intro z hz
    by_cases q : z = j
    · rw [q, mm_pa_same]; exact hv
    · rw [mm_pa_ne h v (fun w => q w.2)]; exact hz
  refine ⟨mm_cn_mono h0 400, ?_⟩
  by_cases q : h.2.1 10 j = -1
  · refine Or.inr (mm_cn_more h0 j.toNat ?_ ?_ 400 (by omega))
    · rw [Int.toNat_of_nonneg hj.1]; exact q
    · rw [Int.toNat_of_nonneg hj.1, mm_pa_same]; exact hv
  · exact Or.inl q
theorem mm_cnt_eq {h h' : mH} (he : ∀ j, h'.2.1 10 j = h.2.1 10 j) : mm_cnt h' = mm_cnt h := by
  unfold mm_cnt
  rw [show (fun j => h'.2.1 10 j) = (fun j => h.2.1 10 j) from funext he]

theorem fb_bm64 {z : Int} (h : -9223372036854775808 ≤ z ∧ z < 9223372036854775808) : z.bmod (2 ^ 64) = z := by
  rw [Int.bmod_def]
  split <;> omega
theorem mm_i64_0 (z : Int) (h : 0 ≤ z ∧ z < 9223372036854775808) : (Int64.ofInt z).toInt = z := mm_t64 z ⟨by omega, h.2⟩
theorem mm_ushr33 (u : Int) : 0 ≤ mm_vlushr u 33 ∧ mm_vlushr u 33 < 2147483648 := by
  have e : mm_vlushr u 33 = ((Int64.ofInt u).toBitVec >>> (33 : Nat)).toInt := by
    show (((Int64.ofInt u).toUInt64 >>> ((Int32.ofInt 33).toInt64.toUInt64 &&& Int64.toUInt64 63)).toInt64).toInt = _
    have h1 : ((Int32.ofInt 33).toInt64.toUInt64 &&& Int64.toUInt64 63) = (33 : UInt64) := by decide
    rw [h1]
    rfl
  have h2 : ((Int64.ofInt u).toBitVec >>> (33 : Nat)).toNat < 2147483648 := by
    rw [BitVec.toNat_ushiftRight, Nat.shiftRight_eq_div_pow]
    have := (Int64.ofInt u).toBitVec.isLt
    omega
  rw [e, BitVec.toInt_eq_toNat_cond, if_pos (by omega)]
  omega
theorem mm_lrem_pos {u v : Int} (hu : 0 ≤ u ∧ u < 2147483648) (hv : 1 ≤ v ∧ v < 2147483648) : mm_vlrem u v = u % v := by
  have h1 := mm_i64_0 u ⟨hu.1, by omega⟩
  have h2 := mm_i64_0 v ⟨by omega, by omega⟩
  have hq : 0 ≤ u / v := Int.ediv_nonneg hu.1 (by omega)
  have hq2 : u / v ≤ u := Int.ediv_le_self v hu.1
  have hm := Int.mul_ediv_add_emod u v
  have hm1 := Int.emod_nonneg u (show v ≠ 0 by omega)
  have hm2 := Int.emod_lt_of_pos u (show 0 < v by omega)
  have hc : u / v * v = v * (u / v) := Int.mul_comm _ _
  unfold mm_vlrem
  rw [Int64.toInt_sub, Int64.toInt_mul, Int64.toInt_div, h1, h2, Int.tdiv_eq_ediv_of_nonneg hu.1]
  rw [show (u / v).bmod (2 ^ 64) = u / v from fb_bm64 ⟨by omega, by omega⟩, show (u / v * v).bmod (2 ^ 64) = u / v * v from fb_bm64 ⟨by omega, by omega⟩, show (u - u / v * v).bmod (2 ^ 64) = u - u / v * v from fb_bm64 ⟨by omega, by omega⟩]
  omega
theorem mm_l2i_pos {u : Int} (hu : 0 ≤ u ∧ u < 2147483648) : mm_vl2i u = u := by
  unfold mm_vl2i
  rw [Int64.toInt_toInt32, mm_i64_0 u ⟨hu.1, by omega⟩]
  exact fb_bmod (by omega) (by omega)
theorem mm_lot {u b : Int} (hb : 1 ≤ b ∧ b ≤ 2147483647) : 0 ≤ mm_vl2i (mm_vlrem (mm_vlushr u 33) b) ∧ mm_vl2i (mm_vlrem (mm_vlushr u 33) b) < b := by
  have h1 := mm_ushr33 u
  have hm1 := Int.emod_nonneg (mm_vlushr u 33) (show b ≠ 0 by omega)
  have hm2 := Int.emod_lt_of_pos (mm_vlushr u 33) (show 0 < b by omega)
  rw [mm_lrem_pos h1 ⟨hb.1, by omega⟩, mm_l2i_pos ⟨hm1, by omega⟩]
  exact ⟨hm1, hm2⟩

/-- places of a row from a on, below b, lie between lo and hi -/
def mm_rb (h : mH) (o : Nat) (a b lo hi : Int) : Prop := ∀ j, a ≤ j → j < b → lo ≤ h.2.1 o j ∧ h.2.1 o j ≤ hi
theorem mm_rb_put {h : mH} {o : Nat} {a b lo hi i v : Int} (H : mm_rb h o a b lo hi) (hv : lo ≤ v ∧ v ≤ hi) : mm_rb (mm_pa h o i v) o a b lo hi := by
  intro j h1 h2
  by_cases q : j = i
  · rw [q, mm_pa_same]; exact hv
  · rw [mm_pa_ne h v (fun w => q w.2)]; exact H j h1 h2
theorem mm_rb_add {h : mH} {o : Nat} {a b lo hi v : Int} (H : mm_rb h o a b lo hi) (hv : lo ≤ v ∧ v ≤ hi) : mm_rb (mm_pa h o b v) o a (b + 1) lo hi := by
  intro j h1 h2
  by_cases q : j = b
  · rw [q, mm_pa_same]; exact hv
  · rw [mm_pa_ne h v (fun w => q w.2)]; exact H j h1 (by omega)
theorem mm_rb_rest {h : mH} {o : Nat} {a b lo hi v : Int} (H : mm_rb h o a b lo hi) : mm_rb (mm_pa h o a v) o (a + 1) b lo hi := by
  intro j h1 h2
  rw [mm_pa_ne h v (fun w => absurd w.2 (by omega))]
  exact H j (by omega) h2
theorem mm_rb_nil {h : mH} {o : Nat} {a b lo hi : Int} (hb : b ≤ a) : mm_rb h o a b lo hi := fun j h1 h2 => absurd h2 (by omega)
theorem mm_rb_sub {h : mH} {o : Nat} {a b a' b' lo hi : Int} (H : mm_rb h o a b lo hi) (h1 : a ≤ a') (h2 : b' ≤ b) : mm_rb h o a' b' lo hi := fun j g1 g2 => H j (by omega) (by omega)
theorem mm_shl1b {v : Int} (hv : 0 ≤ v ∧ v ≤ 11) : 1 ≤ mm_vishl 1 v ∧ mm_vishl 1 v ≤ 2048 := by
  have h := mm_shl1_all v.toNat (by omega)
  rw [Int.toNat_of_nonneg hv.1] at h
  have h2 : v.toNat ≤ 11 := by omega
  have h3 : (2 : Nat) ^ v.toNat ≤ 2 ^ 11 := Nat.pow_le_pow_right (by decide) h2
  have h4 : 1 ≤ (2 : Nat) ^ v.toNat := Nat.one_le_two_pow
  have h5 : ((2 ^ v.toNat : Nat) : Int) = (2 : Int) ^ v.toNat := by norm_cast
  rw [h]
  exact ⟨by omega, by omega⟩
/-- the one row that is made late -/
def mm_tb1 (h : mH) : mH := mm_pf (mm_nw h) 58 5 1
theorem mm_tb_n {h : mH} (i : mm_inv h) (c : h.1 58 5 = 0) : h.2.2 = 125 := by
  have := i.2.2
  rw [c] at this
  exact this
theorem mm_inv_tb {h : mH} (i : mm_inv h) (c : h.1 58 5 = 0) : mm_inv (mm_tb1 h) := by
  have hn := mm_tb_n i c
  refine ⟨fun o k => ?_, fun o j => ?_, ?_⟩
  · by_cases q : o = 58 ∧ k = 5
    · rw [q.1, q.2]
      show (mm_bF 58 5).1 ≤ (mm_pf (mm_nw h) 58 5 1).1 58 5 ∧ (mm_pf (mm_nw h) 58 5 1).1 58 5 ≤ (mm_bF 58 5).2
      rw [mm_pf_same]
      decide
    · show (mm_bF o k).1 ≤ (mm_pf (mm_nw h) 58 5 1).1 o k ∧ (mm_pf (mm_nw h) 58 5 1).1 o k ≤ (mm_bF o k).2
      rw [mm_pf_ne _ _ q]
      show (mm_bF o k).1 ≤ (if o = h.2.2 then 0 else h.1 o k) ∧ (if o = h.2.2 then 0 else h.1 o k) ≤ (mm_bF o k).2
      rw [hn]
      by_cases z : o = 125
      · rw [if_pos z, z]
        show (0 : Int) ≤ 0 ∧ (0 : Int) ≤ 0
        decide
      · rw [if_neg z]; exact i.1 o k
  · show (mm_bA o).1 ≤ (if o = h.2.2 then 0 else h.2.1 o j) ∧ (if o = h.2.2 then 0 else h.2.1 o j) ≤ (mm_bA o).2
    rw [hn]
    by_cases z : o = 125
    · rw [if_pos z, z]; decide
    · rw [if_neg z]; exact i.2.1 o j
  · show h.2.2 + 1 = 125 + ((mm_pf (mm_nw h) 58 5 1).1 58 5).toNat
    rw [mm_pf_same, hn]
    rfl
theorem mm_tb1_at (h : mH) : (mm_tb1 h).1 58 5 = 1 := mm_pf_same _ _ _ _
theorem mm_125 {h : mH} (i : mm_inv h) (k : Nat) : h.1 125 k = 0 := by
  have h1 : (0 : Int) ≤ h.1 125 k ∧ h.1 125 k ≤ 0 := i.1 125 k
  omega
theorem mm_fr_tb {wf : List (Nat × Nat)} {wa : List Nat} {h h' : mH} (f : mm_fr wf wa h h') (i : mm_inv h') (c : h'.1 58 5 = 0) (hi : mm_inv h) (hm : (58, 5) ∈ wf) (ha : 125 ∈ wa) : mm_fr wf wa h (mm_tb1 h') := by
  have hn2 := mm_tb_n i c
  refine ⟨fun o k hn => ?_, fun o hn j => ?_⟩
  · show (mm_pf (mm_nw h') 58 5 1).1 o k = _
    rw [mm_pf_ne _ _ (fun q => hn (by rw [q.1, q.2]; exact hm))]
    show (if o = h'.2.2 then 0 else h'.1 o k) = _
    rw [hn2]
    by_cases z : o = 125
    · rw [if_pos z, z, mm_125 hi]
    · rw [if_neg z]; exact f.1 o k hn
  · show (if o = h'.2.2 then 0 else h'.2.1 o j) = _
    rw [hn2, if_neg (fun z => hn (by rw [z]; exact ha))]
    exact f.2 o hn j

theorem ev_L_7 : mm_EV RL 7 yX11_cell cX11_cell 6 (some .boolean) 4 11 := ⟨mw_X11_cell, ⟨RX11, TX11, 15, tyX11, mm_cl_11, rfl⟩, ml_L_7, im_X11_cell, se_X11_cell⟩
theorem ev_L_15 : mm_EV RL 15 yX11_takes cX11_takes 4 (some .boolean) 2 11 := ⟨mw_X11_takes, ⟨RX11, TX11, 15, tyX11, mm_cl_11, rfl⟩, ml_L_15, im_X11_takes, se_X11_takes⟩
theorem ev_L_19 : mm_EV RL 19 yX11_wall cX11_wall 6 (some .boolean) 4 11 := ⟨mw_X11_wall, ⟨RX11, TX11, 15, tyX11, mm_cl_11, rfl⟩, ml_L_19, im_X11_wall, se_X11_wall⟩
theorem ev_L_23 : mm_EV RL 23 yX11_gates cX11_gates 7 (some .boolean) 4 11 := ⟨mw_X11_gates, ⟨RX11, TX11, 15, tyX11, mm_cl_11, rfl⟩, ml_L_23, im_X11_gates, se_X11_gates⟩
theorem ev_L_26 : mm_EV RL 26 yX11_way cX11_way 7 (some .int) 4 11 := ⟨mw_X11_way, ⟨RX11, TX11, 15, tyX11, mm_cl_11, rfl⟩, ml_L_26, im_X11_way, se_X11_way⟩
theorem ev_L_30 : mm_EV RL 30 yX11_move cX11_move 3 (some .int) 1 11 := ⟨mw_X11_move, ⟨RX11, TX11, 15, tyX11, mm_cl_11, rfl⟩, ml_L_30, im_X11_move, se_X11_move⟩
theorem ev_L_34 : mm_EV RL 34 yX11_many cX11_many 7 (some .long) 4 11 := ⟨mw_X11_many, ⟨RX11, TX11, 15, tyX11, mm_cl_11, rfl⟩, ml_L_34, im_X11_many, se_X11_many⟩
theorem ev_L_38 : mm_EV RL 38 yX11_post cX11_post 5 (some .int) 3 11 := ⟨mw_X11_post, ⟨RX11, TX11, 15, tyX11, mm_cl_11, rfl⟩, ml_L_38, im_X11_post, se_X11_post⟩
theorem ev_L_42 : mm_EV RL 42 yX11_add cX11_add 5 (some .int) 4 11 := ⟨mw_X11_add, ⟨RX11, TX11, 15, tyX11, mm_cl_11, rfl⟩, ml_L_42, im_X11_add, se_X11_add⟩
theorem ev_L_45 : mm_EV RL 45 yX11_runner cX11_runner 4 (some .int) 3 11 := ⟨mw_X11_runner, ⟨RX11, TX11, 15, tyX11, mm_cl_11, rfl⟩, ml_L_45, im_X11_runner, se_X11_runner⟩
theorem ev_L_48 : mm_EV RL 48 yX11_row cX11_row 3 (some .int) 2 11 := ⟨mw_X11_row, ⟨RX11, TX11, 15, tyX11, mm_cl_11, rfl⟩, ml_L_48, im_X11_row, se_X11_row⟩
theorem ev_L_52 : mm_EV RL 52 yX11_team cX11_team 4 (some .int) 3 11 := ⟨mw_X11_team, ⟨RX11, TX11, 15, tyX11, mm_cl_11, rfl⟩, ml_L_52, im_X11_team, se_X11_team⟩
theorem ev_L_55 : mm_EV RL 55 yX11_go cX11_go 2 (some .int) 1 11 := ⟨mw_X11_go, ⟨RX11, TX11, 15, tyX11, mm_cl_11, rfl⟩, ml_L_55, im_X11_go, se_X11_go⟩
theorem ev_L_60 : mm_EV RL 60 yX11_event cX11_event 6 (some .int) 4 11 := ⟨mw_X11_event, ⟨RX11, TX11, 15, tyX11, mm_cl_11, rfl⟩, ml_L_60, im_X11_event, se_X11_event⟩
theorem ev_L_63 : mm_EV RL 63 yX11_back cX11_back 2 (some .boolean) 1 11 := ⟨mw_X11_back, ⟨RX11, TX11, 15, tyX11, mm_cl_11, rfl⟩, ml_L_63, im_X11_back, se_X11_back⟩
theorem ev_L_67 : mm_EV RL 67 yX11_judged cX11_judged 4 (some .int) 3 11 := ⟨mw_X11_judged, ⟨RX11, TX11, 15, tyX11, mm_cl_11, rfl⟩, ml_L_67, im_X11_judged, se_X11_judged⟩
theorem ev_L_70 : mm_EV RL 70 yX11_split cX11_split 4 (some .int) 3 11 := ⟨mw_X11_split, ⟨RX11, TX11, 15, tyX11, mm_cl_11, rfl⟩, ml_L_70, im_X11_split, se_X11_split⟩
theorem ev_L_73 : mm_EV RL 73 yX11_ofTeam cX11_ofTeam 4 (some .int) 3 11 := ⟨mw_X11_ofTeam, ⟨RX11, TX11, 15, tyX11, mm_cl_11, rfl⟩, ml_L_73, im_X11_ofTeam, se_X11_ofTeam⟩
theorem ev_L_76 : mm_EV RL 76 yX11_rules cX11_rules 3 (some .int) 1 11 := ⟨mw_X11_rules, ⟨RX11, TX11, 15, tyX11, mm_cl_11, rfl⟩, ml_L_76, im_X11_rules, se_X11_rules⟩
theorem ev_L_79 : mm_EV RL 79 yX11_protest cX11_protest 3 (some .int) 1 11 := ⟨mw_X11_protest, ⟨RX11, TX11, 15, tyX11, mm_cl_11, rfl⟩, ml_L_79, im_X11_protest, se_X11_protest⟩
theorem ev_L_82 : mm_EV RL 82 yX11_decide cX11_decide 4 (some .boolean) 3 11 := ⟨mw_X11_decide, ⟨RX11, TX11, 15, tyX11, mm_cl_11, rfl⟩, ml_L_82, im_X11_decide, se_X11_decide⟩
theorem ev_L_86 : mm_EV RL 86 yX11_draw cX11_draw 8 (some .int) 3 11 := ⟨mw_X11_draw, ⟨RX11, TX11, 15, tyX11, mm_cl_11, rfl⟩, ml_L_86, im_X11_draw, se_X11_draw⟩
theorem ev_L_90 : mm_EV RL 90 yX11_best cX11_best 3 (some .int) 2 11 := ⟨mw_X11_best, ⟨RX11, TX11, 15, tyX11, mm_cl_11, rfl⟩, ml_L_90, im_X11_best, se_X11_best⟩
theorem ev_L_93 : mm_EV RL 93 yX11_bestOf cX11_bestOf 2 (some .int) 1 11 := ⟨mw_X11_bestOf, ⟨RX11, TX11, 15, tyX11, mm_cl_11, rfl⟩, ml_L_93, im_X11_bestOf, se_X11_bestOf⟩
theorem ev_L_96 : mm_EV RL 96 yX11_track cX11_track 5 (some .int) 2 11 := ⟨mw_X11_track, ⟨RX11, TX11, 15, tyX11, mm_cl_11, rfl⟩, ml_L_96, im_X11_track, se_X11_track⟩
theorem ev_L_99 : mm_EV RL 99 yX11_lost cX11_lost 4 (some .int) 1 11 := ⟨mw_X11_lost, ⟨RX11, TX11, 15, tyX11, mm_cl_11, rfl⟩, ml_L_99, im_X11_lost, se_X11_lost⟩
theorem ev_L_102 : mm_EV RL 102 yX11_count cX11_count 2 (some .int) 1 11 := ⟨mw_X11_count, ⟨RX11, TX11, 15, tyX11, mm_cl_11, rfl⟩, ml_L_102, im_X11_count, se_X11_count⟩
theorem ev_L_109 : mm_EV RL 109 yX11_land cX11_land 3 (some .boolean) 2 11 := ⟨mw_X11_land, ⟨RX11, TX11, 15, tyX11, mm_cl_11, rfl⟩, ml_L_109, im_X11_land, se_X11_land⟩
theorem ev_L_112 : mm_EV RL 112 yX12_land cX12_land 3 (some .boolean) 2 12 := ⟨mw_X12_land, ⟨RX12, TX12, 102, tyX12, mm_cl_12, rfl⟩, ml_L_112, im_X12_land, se_X12_land⟩
theorem ev_L_118 : mm_EV RL 118 yX12_cell cX12_cell 6 (some .boolean) 4 12 := ⟨mw_X12_cell, ⟨RX12, TX12, 102, tyX12, mm_cl_12, rfl⟩, ml_L_118, im_X12_cell, se_X12_cell⟩
theorem ev_L_122 : mm_EV RL 122 yX12_takes cX12_takes 4 (some .boolean) 2 12 := ⟨mw_X12_takes, ⟨RX12, TX12, 102, tyX12, mm_cl_12, rfl⟩, ml_L_122, im_X12_takes, se_X12_takes⟩
theorem ev_L_126 : mm_EV RL 126 yX12_wall cX12_wall 5 (some .boolean) 4 12 := ⟨mw_X12_wall, ⟨RX12, TX12, 102, tyX12, mm_cl_12, rfl⟩, ml_L_126, im_X12_wall, se_X12_wall⟩
theorem ev_L_129 : mm_EV RL 129 yX12_gates cX12_gates 5 (some .boolean) 4 12 := ⟨mw_X12_gates, ⟨RX12, TX12, 102, tyX12, mm_cl_12, rfl⟩, ml_L_129, im_X12_gates, se_X12_gates⟩
theorem ev_L_132 : mm_EV RL 132 yX12_way cX12_way 9 (some .int) 4 12 := ⟨mw_X12_way, ⟨RX12, TX12, 102, tyX12, mm_cl_12, rfl⟩, ml_L_132, im_X12_way, se_X12_way⟩
theorem ev_L_136 : mm_EV RL 136 yX12_move cX12_move 3 (some .int) 1 12 := ⟨mw_X12_move, ⟨RX12, TX12, 102, tyX12, mm_cl_12, rfl⟩, ml_L_136, im_X12_move, se_X12_move⟩
theorem ev_L_139 : mm_EV RL 139 yX12_many cX12_many 5 (some .long) 4 12 := ⟨mw_X12_many, ⟨RX12, TX12, 102, tyX12, mm_cl_12, rfl⟩, ml_L_139, im_X12_many, se_X12_many⟩
theorem ev_L_143 : mm_EV RL 143 yX12_post cX12_post 4 (some .int) 3 12 := ⟨mw_X12_post, ⟨RX12, TX12, 102, tyX12, mm_cl_12, rfl⟩, ml_L_143, im_X12_post, se_X12_post⟩
theorem ev_L_144 : mm_EV RL 144 yX11_course cX11_course 2 (some .int) 1 11 := ⟨mw_X11_course, ⟨RX11, TX11, 15, tyX11, mm_cl_11, rfl⟩, ml_L_144, im_X11_course, se_X11_course⟩
theorem ev_L_148 : mm_EV RL 148 yX12_course cX12_course 2 (some .int) 1 12 := ⟨mw_X12_course, ⟨RX12, TX12, 102, tyX12, mm_cl_12, rfl⟩, ml_L_148, im_X12_course, se_X12_course⟩
theorem ev_L_151 : mm_EV RL 151 yX12_add cX12_add 7 (some .int) 4 12 := ⟨mw_X12_add, ⟨RX12, TX12, 102, tyX12, mm_cl_12, rfl⟩, ml_L_151, im_X12_add, se_X12_add⟩
theorem ev_L_154 : mm_EV RL 154 yX12_runner cX12_runner 4 (some .int) 3 12 := ⟨mw_X12_runner, ⟨RX12, TX12, 102, tyX12, mm_cl_12, rfl⟩, ml_L_154, im_X12_runner, se_X12_runner⟩
theorem ev_L_157 : mm_EV RL 157 yX12_row cX12_row 3 (some .int) 2 12 := ⟨mw_X12_row, ⟨RX12, TX12, 102, tyX12, mm_cl_12, rfl⟩, ml_L_157, im_X12_row, se_X12_row⟩
theorem ev_L_160 : mm_EV RL 160 yX12_team cX12_team 6 (some .int) 3 12 := ⟨mw_X12_team, ⟨RX12, TX12, 102, tyX12, mm_cl_12, rfl⟩, ml_L_160, im_X12_team, se_X12_team⟩
theorem ev_L_163 : mm_EV RL 163 yX12_go cX12_go 2 (some .int) 1 12 := ⟨mw_X12_go, ⟨RX12, TX12, 102, tyX12, mm_cl_12, rfl⟩, ml_L_163, im_X12_go, se_X12_go⟩
theorem ev_L_166 : mm_EV RL 166 yX12_event cX12_event 5 (some .int) 4 12 := ⟨mw_X12_event, ⟨RX12, TX12, 102, tyX12, mm_cl_12, rfl⟩, ml_L_166, im_X12_event, se_X12_event⟩
theorem ev_L_169 : mm_EV RL 169 yX12_back cX12_back 2 (some .boolean) 1 12 := ⟨mw_X12_back, ⟨RX12, TX12, 102, tyX12, mm_cl_12, rfl⟩, ml_L_169, im_X12_back, se_X12_back⟩
theorem ev_L_172 : mm_EV RL 172 yX12_judged cX12_judged 4 (some .int) 3 12 := ⟨mw_X12_judged, ⟨RX12, TX12, 102, tyX12, mm_cl_12, rfl⟩, ml_L_172, im_X12_judged, se_X12_judged⟩
theorem ev_L_175 : mm_EV RL 175 yX12_split cX12_split 5 (some .int) 3 12 := ⟨mw_X12_split, ⟨RX12, TX12, 102, tyX12, mm_cl_12, rfl⟩, ml_L_175, im_X12_split, se_X12_split⟩
theorem ev_L_178 : mm_EV RL 178 yX12_ofTeam cX12_ofTeam 8 (some .int) 3 12 := ⟨mw_X12_ofTeam, ⟨RX12, TX12, 102, tyX12, mm_cl_12, rfl⟩, ml_L_178, im_X12_ofTeam, se_X12_ofTeam⟩
theorem ev_L_179 : mm_EV RL 179 yX12_thrown cX12_thrown 1 (some .int) 0 12 := ⟨mw_X12_thrown, ⟨RX12, TX12, 102, tyX12, mm_cl_12, rfl⟩, ml_L_179, im_X12_thrown, se_X12_thrown⟩
theorem ev_L_183 : mm_EV RL 183 yX11_feed cX11_feed 6 (some .int) 5 11 := ⟨mw_X11_feed, ⟨RX11, TX11, 15, tyX11, mm_cl_11, rfl⟩, ml_L_183, im_X11_feed, se_X11_feed⟩
theorem ev_L_187 : mm_EV RL 187 yX12_feed cX12_feed 6 (some .int) 5 12 := ⟨mw_X12_feed, ⟨RX12, TX12, 102, tyX12, mm_cl_12, rfl⟩, ml_L_187, im_X12_feed, se_X12_feed⟩
theorem ev_L_190 : mm_EV RL 190 yX12_rules cX12_rules 3 (some .int) 1 12 := ⟨mw_X12_rules, ⟨RX12, TX12, 102, tyX12, mm_cl_12, rfl⟩, ml_L_190, im_X12_rules, se_X12_rules⟩
theorem ev_L_191 : mm_EV RL 191 yX11_fault cX11_fault 1 (some .int) 0 11 := ⟨mw_X11_fault, ⟨RX11, TX11, 15, tyX11, mm_cl_11, rfl⟩, ml_L_191, im_X11_fault, se_X11_fault⟩
theorem ev_L_194 : mm_EV RL 194 yX12_fault cX12_fault 1 (some .int) 0 12 := ⟨mw_X12_fault, ⟨RX12, TX12, 102, tyX12, mm_cl_12, rfl⟩, ml_L_194, im_X12_fault, se_X12_fault⟩
theorem ev_L_197 : mm_EV RL 197 yX12_protest cX12_protest 3 (some .int) 1 12 := ⟨mw_X12_protest, ⟨RX12, TX12, 102, tyX12, mm_cl_12, rfl⟩, ml_L_197, im_X12_protest, se_X12_protest⟩
theorem ev_L_200 : mm_EV RL 200 yX12_decide cX12_decide 4 (some .boolean) 3 12 := ⟨mw_X12_decide, ⟨RX12, TX12, 102, tyX12, mm_cl_12, rfl⟩, ml_L_200, im_X12_decide, se_X12_decide⟩
theorem ev_L_206 : mm_EV RL 206 yX12_draw cX12_draw 11 (some .int) 3 12 := ⟨mw_X12_draw, ⟨RX12, TX12, 102, tyX12, mm_cl_12, rfl⟩, ml_L_206, im_X12_draw, se_X12_draw⟩
theorem ev_L_209 : mm_EV RL 209 yX12_best cX12_best 12 (some .int) 2 12 := ⟨mw_X12_best, ⟨RX12, TX12, 102, tyX12, mm_cl_12, rfl⟩, ml_L_209, im_X12_best, se_X12_best⟩
theorem ev_L_212 : mm_EV RL 212 yX12_bestOf cX12_bestOf 2 (some .int) 1 12 := ⟨mw_X12_bestOf, ⟨RX12, TX12, 102, tyX12, mm_cl_12, rfl⟩, ml_L_212, im_X12_bestOf, se_X12_bestOf⟩
theorem ev_L_215 : mm_EV RL 215 yX12_track cX12_track 10 (some .int) 2 12 := ⟨mw_X12_track, ⟨RX12, TX12, 102, tyX12, mm_cl_12, rfl⟩, ml_L_215, im_X12_track, se_X12_track⟩
theorem ev_L_218 : mm_EV RL 218 yX12_lost cX12_lost 3 (some .int) 1 12 := ⟨mw_X12_lost, ⟨RX12, TX12, 102, tyX12, mm_cl_12, rfl⟩, ml_L_218, im_X12_lost, se_X12_lost⟩
theorem ev_L_221 : mm_EV RL 221 yX12_count cX12_count 2 (some .int) 1 12 := ⟨mw_X12_count, ⟨RX12, TX12, 102, tyX12, mm_cl_12, rfl⟩, ml_L_221, im_X12_count, se_X12_count⟩
theorem ev_X0_50 : mm_EV RX0 50 yX2_fillRow cX2_fillRow 7 (some .int) 3 2 := ⟨mw_X2_fillRow, ⟨RX2, TX2, 9, tyX2, mm_cl_2, rfl⟩, ml_X0_50, im_X2_fillRow, se_X2_fillRow⟩
theorem ev_X0_56 : mm_EV RX0 56 yX0_measureLegs cX0_measureLegs 2 none 0 0 := ⟨mw_X0_measureLegs, ⟨RX0, TX0, 11, tyX0, mm_cl_0, rfl⟩, ml_X0_56, im_X0_measureLegs, se_X0_measureLegs⟩
theorem ev_X0_59 : mm_EV RX0 59 yX0_goThroughSets cX0_goThroughSets 5 none 1 0 := ⟨mw_X0_goThroughSets, ⟨RX0, TX0, 11, tyX0, mm_cl_0, rfl⟩, ml_X0_59, im_X0_goThroughSets, se_X0_goThroughSets⟩
theorem ev_X0_68 : mm_EV RX0 68 yX10_measure cX10_measure 4 none 2 10 := ⟨mw_X10_measure, ⟨RX10, TX10, 12, tyX10, mm_cl_10, rfl⟩, ml_X0_68, im_X10_measure, se_X10_measure⟩
theorem ev_X0_74 : mm_EV RX0 74 yX0_fillLegsTo cX0_fillLegsTo 3 none 1 0 := ⟨mw_X0_fillLegsTo, ⟨RX0, TX0, 11, tyX0, mm_cl_0, rfl⟩, ml_X0_74, im_X0_fillLegsTo, se_X0_fillLegsTo⟩
theorem ev_X0_77 : mm_EV RX0 77 yX2_cellOf cX2_cellOf 2 (some .int) 1 2 := ⟨mw_X2_cellOf, ⟨RX2, TX2, 9, tyX2, mm_cl_2, rfl⟩, ml_X0_77, im_X2_cellOf, se_X2_cellOf⟩
theorem ev_X0_84 : mm_EV RX0 84 yX10_secondsFrom cX10_secondsFrom 2 (some .int) 1 10 := ⟨mw_X10_secondsFrom, ⟨RX10, TX10, 12, tyX10, mm_cl_10, rfl⟩, ml_X0_84, im_X10_secondsFrom, se_X10_secondsFrom⟩
theorem ev_X0_89 : mm_EV RX0 89 yX0_reach cX0_reach 7 none 5 0 := ⟨mw_X0_reach, ⟨RX0, TX0, 11, tyX0, mm_cl_0, rfl⟩, ml_X0_89, im_X0_reach, se_X0_reach⟩
theorem ev_X0_93 : mm_EV RX0 93 yX0_closeAndExtend cX0_closeAndExtend 8 (some .int) 2 0 := ⟨mw_X0_closeAndExtend, ⟨RX0, TX0, 11, tyX0, mm_cl_0, rfl⟩, ml_X0_93, im_X0_closeAndExtend, se_X0_closeAndExtend⟩
theorem ev_X0_97 : mm_EV RX0 97 yX0_compare cX0_compare 5 none 2 0 := ⟨mw_X0_compare, ⟨RX0, TX0, 11, tyX0, mm_cl_0, rfl⟩, ml_X0_97, im_X0_compare, se_X0_compare⟩
theorem es_X0_100 : mm_ES RX0 100 yJ9_min_7cf53 cJ9_min_7cf53 2 (some .int) 2 := ⟨mw_J9_min_7cf53, ml_X0_100, sm_J9_min_7cf53⟩
theorem ev_X0_105 : mm_EV RX0 105 yX2_pointsOf cX2_pointsOf 2 (some .int) 1 2 := ⟨mw_X2_pointsOf, ⟨RX2, TX2, 9, tyX2, mm_cl_2, rfl⟩, ml_X0_105, im_X2_pointsOf, se_X2_pointsOf⟩
theorem ev_X1_46 : mm_EV RX1 46 yX9_fillPosts cX9_fillPosts 3 (some .int) 2 9 := ⟨mw_X9_fillPosts, ⟨RX9, TX9, 10, tyX9, mm_cl_9, rfl⟩, ml_X1_46, im_X9_fillPosts, se_X9_fillPosts⟩
theorem ev_X1_52 : mm_EV RX1 52 yX1_collect cX1_collect 4 none 2 1 := ⟨mw_X1_collect, ⟨RX1, TX1, 10, tyX1, mm_cl_1, rfl⟩, ml_X1_52, im_X1_collect, se_X1_collect⟩
theorem es_X1_56 : mm_ES RX1 56 yJ7_fill_53178 cJ7_fill_53178 4 none 2 := ⟨mw_J7_fill_53178, ml_X1_56, sm_J7_fill_53178⟩
theorem ev_X1_62 : mm_EV RX1 62 yX9_runsFree cX9_runsFree 2 (some .boolean) 1 9 := ⟨mw_X9_runsFree, ⟨RX9, TX9, 10, tyX9, mm_cl_9, rfl⟩, ml_X1_62, im_X9_runsFree, se_X9_runsFree⟩
theorem ev_X1_66 : mm_EV RX1 66 yX1_keepPunched cX1_keepPunched 2 none 0 1 := ⟨mw_X1_keepPunched, ⟨RX1, TX1, 10, tyX1, mm_cl_1, rfl⟩, ml_X1_66, im_X1_keepPunched, se_X1_keepPunched⟩
theorem ev_X1_69 : mm_EV RX1 69 yX1_measureRests cX1_measureRests 3 none 0 1 := ⟨mw_X1_measureRests, ⟨RX1, TX1, 10, tyX1, mm_cl_1, rfl⟩, ml_X1_69, im_X1_measureRests, se_X1_measureRests⟩
theorem ev_X1_72 : mm_EV RX1 72 yX1_keepLongest cX1_keepLongest 5 none 0 1 := ⟨mw_X1_keepLongest, ⟨RX1, TX1, 10, tyX1, mm_cl_1, rfl⟩, ml_X1_72, im_X1_keepLongest, se_X1_keepLongest⟩
theorem ev_X1_75 : mm_EV RX1 75 yX1_isInRow cX1_isInRow 3 (some .boolean) 1 1 := ⟨mw_X1_isInRow, ⟨RX1, TX1, 10, tyX1, mm_cl_1, rfl⟩, ml_X1_75, im_X1_isInRow, se_X1_isInRow⟩
theorem ev_X1_78 : mm_EV RX1 78 yX2_pointsOf cX2_pointsOf 2 (some .int) 1 2 := ⟨mw_X2_pointsOf, ⟨RX2, TX2, 9, tyX2, mm_cl_2, rfl⟩, ml_X1_78, im_X2_pointsOf, se_X2_pointsOf⟩
theorem ev_X1_84 : mm_EV RX1 84 yX6_events cX6_events 1 (some .int) 0 6 := ⟨mw_X6_events, ⟨RX6, TX6, 14, tyX6, mm_cl_6, rfl⟩, ml_X1_84, im_X6_events, se_X6_events⟩
theorem ev_X1_90 : mm_EV RX1 90 yX6_isKnown cX6_isKnown 5 (some .boolean) 4 6 := ⟨mw_X6_isKnown, ⟨RX6, TX6, 14, tyX6, mm_cl_6, rfl⟩, ml_X1_90, im_X6_isKnown, se_X6_isKnown⟩
theorem ev_X1_94 : mm_EV RX1 94 yX6_postOf cX6_postOf 2 (some .int) 1 6 := ⟨mw_X6_postOf, ⟨RX6, TX6, 14, tyX6, mm_cl_6, rfl⟩, ml_X1_94, im_X6_postOf, se_X6_postOf⟩
theorem ev_X1_97 : mm_EV RX1 97 yX6_timeOf cX6_timeOf 2 (some .int) 1 6 := ⟨mw_X6_timeOf, ⟨RX6, TX6, 14, tyX6, mm_cl_6, rfl⟩, ml_X1_97, im_X6_timeOf, se_X6_timeOf⟩
theorem ev_X1_100 : mm_EV RX1 100 yX1_insert cX1_insert 4 none 2 1 := ⟨mw_X1_insert, ⟨RX1, TX1, 10, tyX1, mm_cl_1, rfl⟩, ml_X1_100, im_X1_insert, se_X1_insert⟩
theorem ev_X1_103 : mm_EV RX1 103 yX1_firstPunch cX1_firstPunch 4 (some .int) 2 1 := ⟨mw_X1_firstPunch, ⟨RX1, TX1, 10, tyX1, mm_cl_1, rfl⟩, ml_X1_103, im_X1_firstPunch, se_X1_firstPunch⟩
theorem ev_X1_107 : mm_EV RX1 107 yX1_latestWith cX1_latestWith 6 (some .int) 2 1 := ⟨mw_X1_latestWith, ⟨RX1, TX1, 10, tyX1, mm_cl_1, rfl⟩, ml_X1_107, im_X1_latestWith, se_X1_latestWith⟩
theorem ev_X10_52 : mm_EV RX10 52 yX10_measure cX10_measure 4 none 2 10 := ⟨mw_X10_measure, ⟨RX10, TX10, 12, tyX10, mm_cl_10, rfl⟩, ml_X10_52, im_X10_measure, se_X10_measure⟩
theorem ev_X10_57 : mm_EV RX10 57 yX10_firstLeastMove cX10_firstLeastMove 4 (some .int) 1 10 := ⟨mw_X10_firstLeastMove, ⟨RX10, TX10, 12, tyX10, mm_cl_10, rfl⟩, ml_X10_57, im_X10_firstLeastMove, se_X10_firstLeastMove⟩
theorem ev_X10_61 : mm_EV RX10 61 yX5_beside cX5_beside 5 (some .int) 2 5 := ⟨mw_X5_beside, ⟨RX5, TX5, 9, tyX5, mm_cl_5, rfl⟩, ml_X10_61, im_X5_beside, se_X5_beside⟩
theorem ev_X10_67 : mm_EV RX10 67 yX10_secondsFrom cX10_secondsFrom 2 (some .int) 1 10 := ⟨mw_X10_secondsFrom, ⟨RX10, TX10, 12, tyX10, mm_cl_10, rfl⟩, ml_X10_67, im_X10_secondsFrom, se_X10_secondsFrom⟩
theorem ev_X10_70 : mm_EV RX10 70 yX10_manyBy cX10_manyBy 6 (some .long) 1 10 := ⟨mw_X10_manyBy, ⟨RX10, TX10, 12, tyX10, mm_cl_10, rfl⟩, ml_X10_70, im_X10_manyBy, se_X10_manyBy⟩
theorem es_X10_80 : mm_ES RX10 80 yX10_passed cX10_passed 5 (some .int) 4 := ⟨mw_X10_passed, ml_X10_80, sm_X10_passed⟩
theorem es_X10_84 : mm_ES RX10 84 yX10_moveOf cX10_moveOf 1 (some .int) 1 := ⟨mw_X10_moveOf, ml_X10_84, sm_X10_moveOf⟩
theorem ev_X10_87 : mm_EV RX10 87 yX5_canEnter cX5_canEnter 2 (some .boolean) 1 5 := ⟨mw_X5_canEnter, ⟨RX5, TX5, 9, tyX5, mm_cl_5, rfl⟩, ml_X10_87, im_X5_canEnter, se_X5_canEnter⟩
theorem ev_X10_91 : mm_EV RX10 91 yX5_secondsOf cX5_secondsOf 4 (some .int) 2 5 := ⟨mw_X5_secondsOf, ⟨RX5, TX5, 9, tyX5, mm_cl_5, rfl⟩, ml_X10_91, im_X5_secondsOf, se_X5_secondsOf⟩
theorem es_X10_94 : mm_ES RX10 94 yJ7_fill_53178 cJ7_fill_53178 4 none 2 := ⟨mw_J7_fill_53178, ml_X10_94, sm_J7_fill_53178⟩
theorem ev_X10_100 : mm_EV RX10 100 yX10_offer cX10_offer 3 none 2 10 := ⟨mw_X10_offer, ⟨RX10, TX10, 12, tyX10, mm_cl_10, rfl⟩, ml_X10_100, im_X10_offer, se_X10_offer⟩
theorem ev_X10_103 : mm_EV RX10 103 yX10_takeNearest cX10_takeNearest 2 (some .int) 0 10 := ⟨mw_X10_takeNearest, ⟨RX10, TX10, 12, tyX10, mm_cl_10, rfl⟩, ml_X10_103, im_X10_takeNearest, se_X10_takeNearest⟩
theorem ev_X10_107 : mm_EV RX10 107 yX10_offerAround cX10_offerAround 4 none 1 10 := ⟨mw_X10_offerAround, ⟨RX10, TX10, 12, tyX10, mm_cl_10, rfl⟩, ml_X10_107, im_X10_offerAround, se_X10_offerAround⟩
theorem es_X10_113 : mm_ES RX10 113 yJ9_min_f86c9 cJ9_min_f86c9 4 (some .long) 2 := ⟨mw_J9_min_f86c9, ml_X10_113, sm_J9_min_f86c9⟩
theorem ev_X10_119 : mm_EV RX10 119 yX10_rise cX10_rise 5 none 2 10 := ⟨mw_X10_rise, ⟨RX10, TX10, 12, tyX10, mm_cl_10, rfl⟩, ml_X10_119, im_X10_rise, se_X10_rise⟩
theorem ev_X10_122 : mm_EV RX10 122 yX10_sink cX10_sink 4 none 1 10 := ⟨mw_X10_sink, ⟨RX10, TX10, 12, tyX10, mm_cl_10, rfl⟩, ml_X10_122, im_X10_sink, se_X10_sink⟩
theorem ev_X10_125 : mm_EV RX10 125 yX10_lesserChild cX10_lesserChild 3 (some .int) 1 10 := ⟨mw_X10_lesserChild, ⟨RX10, TX10, 12, tyX10, mm_cl_10, rfl⟩, ml_X10_125, im_X10_lesserChild, se_X10_lesserChild⟩
theorem ev_X11_108 : mm_EV RX11 108 yX5_renew cX5_renew 4 none 2 5 := ⟨mw_X5_renew, ⟨RX5, TX5, 9, tyX5, mm_cl_5, rfl⟩, ml_X11_108, im_X5_renew, se_X5_renew⟩
theorem ev_X11_112 : mm_EV RX11 112 yX10_forget cX10_forget 1 none 0 10 := ⟨mw_X10_forget, ⟨RX10, TX10, 12, tyX10, mm_cl_10, rfl⟩, ml_X11_112, im_X10_forget, se_X10_forget⟩
theorem ev_X11_115 : mm_EV RX11 115 yX2_clear cX2_clear 1 none 0 2 := ⟨mw_X2_clear, ⟨RX2, TX2, 9, tyX2, mm_cl_2, rfl⟩, ml_X11_115, im_X2_clear, se_X2_clear⟩
theorem ev_X11_118 : mm_EV RX11 118 yX9_clear cX9_clear 1 none 0 9 := ⟨mw_X9_clear, ⟨RX9, TX9, 10, tyX9, mm_cl_9, rfl⟩, ml_X11_118, im_X9_clear, se_X9_clear⟩
theorem ev_X11_119 : mm_EV RX11 119 yX6_clear cX6_clear 1 none 0 6 := ⟨mw_X6_clear, ⟨RX6, TX6, 14, tyX6, mm_cl_6, rfl⟩, ml_X11_119, im_X6_clear, se_X6_clear⟩
theorem ev_X11_120 : mm_EV RX11 120 yX8_clear cX8_clear 1 none 0 8 := ⟨mw_X8_clear, ⟨RX8, TX8, 7, tyX8, mm_cl_8, rfl⟩, ml_X11_120, im_X8_clear, se_X8_clear⟩
theorem ev_X11_121 : mm_EV RX11 121 yX0_forget cX0_forget 1 none 0 0 := ⟨mw_X0_forget, ⟨RX0, TX0, 11, tyX0, mm_cl_0, rfl⟩, ml_X11_121, im_X0_forget, se_X0_forget⟩
theorem ev_X11_122 : mm_EV RX11 122 yX11_needCell cX11_needCell 3 (some .int) 2 11 := ⟨mw_X11_needCell, ⟨RX11, TX11, 15, tyX11, mm_cl_11, rfl⟩, ml_X11_122, im_X11_needCell, se_X11_needCell⟩
theorem ev_X11_126 : mm_EV RX11 126 yX11_landIsFixed cX11_landIsFixed 1 (some .boolean) 0 11 := ⟨mw_X11_landIsFixed, ⟨RX11, TX11, 15, tyX11, mm_cl_11, rfl⟩, ml_X11_126, im_X11_landIsFixed, se_X11_landIsFixed⟩
theorem es_X11_130 : mm_ES RX11 130 yX11_within cX11_within 3 (some .boolean) 3 := ⟨mw_X11_within, ml_X11_130, sm_X11_within⟩
theorem ev_X11_134 : mm_EV RX11 134 yX5_letsIn cX5_letsIn 2 (some .boolean) 1 5 := ⟨mw_X5_letsIn, ⟨RX5, TX5, 9, tyX5, mm_cl_5, rfl⟩, ml_X11_134, im_X5_letsIn, se_X5_letsIn⟩
theorem ev_X11_138 : mm_EV RX11 138 yX2_postStandsAt cX2_postStandsAt 3 (some .boolean) 1 2 := ⟨mw_X2_postStandsAt, ⟨RX2, TX2, 9, tyX2, mm_cl_2, rfl⟩, ml_X11_138, im_X2_postStandsAt, se_X2_postStandsAt⟩
theorem ev_X11_141 : mm_EV RX11 141 yX5_shape cX5_shape 4 none 3 5 := ⟨mw_X5_shape, ⟨RX5, TX5, 9, tyX5, mm_cl_5, rfl⟩, ml_X11_141, im_X5_shape, se_X5_shape⟩
theorem ev_X11_152 : mm_EV RX11 152 yX11_postStandsOn cX11_postStandsOn 3 (some .boolean) 1 11 := ⟨mw_X11_postStandsOn, ⟨RX11, TX11, 15, tyX11, mm_cl_11, rfl⟩, ml_X11_152, im_X11_postStandsOn, se_X11_postStandsOn⟩
theorem ev_X11_155 : mm_EV RX11 155 yX5_price cX5_price 3 none 2 5 := ⟨mw_X5_price, ⟨RX5, TX5, 9, tyX5, mm_cl_5, rfl⟩, ml_X11_155, im_X5_price, se_X5_price⟩
theorem ev_X11_158 : mm_EV RX11 158 yX5_holds cX5_holds 3 (some .boolean) 2 5 := ⟨mw_X5_holds, ⟨RX5, TX5, 9, tyX5, mm_cl_5, rfl⟩, ml_X11_158, im_X5_holds, se_X5_holds⟩
theorem ev_X11_162 : mm_EV RX11 162 yX5_build cX5_build 4 none 3 5 := ⟨mw_X5_build, ⟨RX5, TX5, 9, tyX5, mm_cl_5, rfl⟩, ml_X11_162, im_X5_build, se_X5_build⟩
theorem ev_X11_172 : mm_EV RX11 172 yX10_keepLeast cX10_keepLeast 6 (some .int) 2 10 := ⟨mw_X10_keepLeast, ⟨RX10, TX10, 12, tyX10, mm_cl_10, rfl⟩, ml_X11_172, im_X10_keepLeast, se_X10_keepLeast⟩
theorem ev_X11_175 : mm_EV RX11 175 yX10_keptMoves cX10_keptMoves 1 (some .int) 0 10 := ⟨mw_X10_keptMoves, ⟨RX10, TX10, 12, tyX10, mm_cl_10, rfl⟩, ml_X11_175, im_X10_keptMoves, se_X10_keptMoves⟩
theorem ev_X11_183 : mm_EV RX11 183 yX10_keptMove cX10_keptMove 2 (some .int) 1 10 := ⟨mw_X10_keptMove, ⟨RX10, TX10, 12, tyX10, mm_cl_10, rfl⟩, ml_X11_183, im_X10_keptMove, se_X10_keptMove⟩
theorem ev_X11_187 : mm_EV RX11 187 yX10_howMany cX10_howMany 4 (some .long) 2 10 := ⟨mw_X10_howMany, ⟨RX10, TX10, 12, tyX10, mm_cl_10, rfl⟩, ml_X11_187, im_X10_howMany, se_X10_howMany⟩
theorem ev_X11_191 : mm_EV RX11 191 yX2_posts cX2_posts 1 (some .int) 0 2 := ⟨mw_X2_posts, ⟨RX2, TX2, 9, tyX2, mm_cl_2, rfl⟩, ml_X11_191, im_X2_posts, se_X2_posts⟩
theorem ev_X11_194 : mm_EV RX11 194 yX5_canEnter cX5_canEnter 2 (some .boolean) 1 5 := ⟨mw_X5_canEnter, ⟨RX5, TX5, 9, tyX5, mm_cl_5, rfl⟩, ml_X11_194, im_X5_canEnter, se_X5_canEnter⟩
theorem ev_X11_197 : mm_EV RX11 197 yX2_setPost cX2_setPost 3 (some .int) 2 2 := ⟨mw_X2_setPost, ⟨RX2, TX2, 9, tyX2, mm_cl_2, rfl⟩, ml_X11_197, im_X2_setPost, se_X2_setPost⟩
theorem ev_X11_200 : mm_EV RX11 200 yX2_size cX2_size 1 (some .int) 0 2 := ⟨mw_X2_size, ⟨RX2, TX2, 9, tyX2, mm_cl_2, rfl⟩, ml_X11_200, im_X2_size, se_X2_size⟩
theorem ev_X11_203 : mm_EV RX11 203 yX2_open cX2_open 2 (some .int) 1 2 := ⟨mw_X2_open, ⟨RX2, TX2, 9, tyX2, mm_cl_2, rfl⟩, ml_X11_203, im_X2_open, se_X2_open⟩
theorem ev_X11_207 : mm_EV RX11 207 yX11_needCourse cX11_needCourse 2 none 1 11 := ⟨mw_X11_needCourse, ⟨RX11, TX11, 15, tyX11, mm_cl_11, rfl⟩, ml_X11_207, im_X11_needCourse, se_X11_needCourse⟩
theorem ev_X11_211 : mm_EV RX11 211 yX11_needPost cX11_needPost 2 none 1 11 := ⟨mw_X11_needPost, ⟨RX11, TX11, 15, tyX11, mm_cl_11, rfl⟩, ml_X11_211, im_X11_needPost, se_X11_needPost⟩
theorem ev_X11_214 : mm_EV RX11 214 yX2_elements cX2_elements 2 (some .int) 1 2 := ⟨mw_X2_elements, ⟨RX2, TX2, 9, tyX2, mm_cl_2, rfl⟩, ml_X11_214, im_X2_elements, se_X2_elements⟩
theorem ev_X11_217 : mm_EV RX11 217 yX2_isTaken cX2_isTaken 2 (some .boolean) 1 2 := ⟨mw_X2_isTaken, ⟨RX2, TX2, 9, tyX2, mm_cl_2, rfl⟩, ml_X11_217, im_X2_isTaken, se_X2_isTaken⟩
theorem ev_X11_220 : mm_EV RX11 220 yX2_isFree cX2_isFree 2 (some .boolean) 1 2 := ⟨mw_X2_isFree, ⟨RX2, TX2, 9, tyX2, mm_cl_2, rfl⟩, ml_X11_220, im_X2_isFree, se_X2_isFree⟩
theorem ev_X11_223 : mm_EV RX11 223 yX2_forks cX2_forks 2 (some .int) 1 2 := ⟨mw_X2_forks, ⟨RX2, TX2, 9, tyX2, mm_cl_2, rfl⟩, ml_X11_223, im_X2_forks, se_X2_forks⟩
theorem ev_X11_226 : mm_EV RX11 226 yX2_lengthen cX2_lengthen 6 (some .int) 4 2 := ⟨mw_X2_lengthen, ⟨RX2, TX2, 9, tyX2, mm_cl_2, rfl⟩, ml_X11_226, im_X2_lengthen, se_X2_lengthen⟩
theorem ev_X11_230 : mm_EV RX11 230 yX9_size cX9_size 1 (some .int) 0 9 := ⟨mw_X9_size, ⟨RX9, TX9, 10, tyX9, mm_cl_9, rfl⟩, ml_X11_230, im_X9_size, se_X9_size⟩
theorem ev_X11_231 : mm_EV RX11 231 yX9_enter cX9_enter 4 (some .int) 3 9 := ⟨mw_X9_enter, ⟨RX9, TX9, 10, tyX9, mm_cl_9, rfl⟩, ml_X11_231, im_X9_enter, se_X9_enter⟩
theorem ev_X11_235 : mm_EV RX11 235 yX11_needRunner cX11_needRunner 2 none 1 11 := ⟨mw_X11_needRunner, ⟨RX11, TX11, 15, tyX11, mm_cl_11, rfl⟩, ml_X11_235, im_X11_needRunner, se_X11_needRunner⟩
theorem ev_X11_238 : mm_EV RX11 238 yX9_rowSize cX9_rowSize 2 (some .int) 1 9 := ⟨mw_X9_rowSize, ⟨RX9, TX9, 10, tyX9, mm_cl_9, rfl⟩, ml_X11_238, im_X9_rowSize, se_X9_rowSize⟩
theorem ev_X11_241 : mm_EV RX11 241 yX11_lengthOf cX11_lengthOf 3 (some .int) 1 11 := ⟨mw_X11_lengthOf, ⟨RX11, TX11, 15, tyX11, mm_cl_11, rfl⟩, ml_X11_241, im_X11_lengthOf, se_X11_lengthOf⟩
theorem ev_X11_244 : mm_EV RX11 244 yX11_needPlace cX11_needPlace 3 none 2 11 := ⟨mw_X11_needPlace, ⟨RX11, TX11, 15, tyX11, mm_cl_11, rfl⟩, ml_X11_244, im_X11_needPlace, se_X11_needPlace⟩
theorem ev_X11_247 : mm_EV RX11 247 yX9_fillPosts cX9_fillPosts 3 (some .int) 2 9 := ⟨mw_X9_fillPosts, ⟨RX9, TX9, 10, tyX9, mm_cl_9, rfl⟩, ml_X11_247, im_X9_fillPosts, se_X9_fillPosts⟩
theorem ev_X11_251 : mm_EV RX11 251 yX9_teams cX9_teams 1 (some .int) 0 9 := ⟨mw_X9_teams, ⟨RX9, TX9, 10, tyX9, mm_cl_9, rfl⟩, ml_X11_251, im_X9_teams, se_X9_teams⟩
theorem ev_X11_254 : mm_EV RX11 254 yX9_canBeTeam cX9_canBeTeam 12 (some .boolean) 3 9 := ⟨mw_X9_canBeTeam, ⟨RX9, TX9, 10, tyX9, mm_cl_9, rfl⟩, ml_X11_254, im_X9_canBeTeam, se_X9_canBeTeam⟩
theorem ev_X11_257 : mm_EV RX11 257 yX9_join cX9_join 4 (some .int) 3 9 := ⟨mw_X9_join, ⟨RX9, TX9, 10, tyX9, mm_cl_9, rfl⟩, ml_X11_257, im_X9_join, se_X9_join⟩
theorem ev_X11_268 : mm_EV RX11 268 yX6_events cX6_events 1 (some .int) 0 6 := ⟨mw_X6_events, ⟨RX6, TX6, 14, tyX6, mm_cl_6, rfl⟩, ml_X11_268, im_X6_events, se_X6_events⟩
theorem ev_X11_271 : mm_EV RX11 271 yX6_tell cX6_tell 6 (some .int) 5 6 := ⟨mw_X6_tell, ⟨RX6, TX6, 14, tyX6, mm_cl_6, rfl⟩, ml_X11_271, im_X6_tell, se_X6_tell⟩
theorem ev_X11_277 : mm_EV RX11 277 yX6_takeBack cX6_takeBack 3 (some .boolean) 2 6 := ⟨mw_X6_takeBack, ⟨RX6, TX6, 14, tyX6, mm_cl_6, rfl⟩, ml_X11_277, im_X6_takeBack, se_X6_takeBack⟩
theorem ev_X11_282 : mm_EV RX11 282 yX11_needSecond cX11_needSecond 2 none 1 11 := ⟨mw_X11_needSecond, ⟨RX11, TX11, 15, tyX11, mm_cl_11, rfl⟩, ml_X11_282, im_X11_needSecond, se_X11_needSecond⟩
theorem ev_X11_285 : mm_EV RX11 285 yX4_placeOf cX4_placeOf 8 (some .int) 2 4 := ⟨mw_X4_placeOf, ⟨RX4, TX4, 12, tyX4, mm_cl_4, rfl⟩, ml_X11_285, im_X4_placeOf, se_X4_placeOf⟩
theorem ev_X11_288 : mm_EV RX11 288 yX4_look cX4_look 4 none 2 4 := ⟨mw_X4_look, ⟨RX4, TX4, 12, tyX4, mm_cl_4, rfl⟩, ml_X11_288, im_X4_look, se_X4_look⟩
theorem ev_X11_291 : mm_EV RX11 291 yX4_answer cX4_answer 2 (some .int) 1 4 := ⟨mw_X4_answer, ⟨RX4, TX4, 12, tyX4, mm_cl_4, rfl⟩, ml_X11_291, im_X4_answer, se_X4_answer⟩
theorem ev_X11_294 : mm_EV RX11 294 yX4_splitOf cX4_splitOf 5 (some .int) 3 4 := ⟨mw_X4_splitOf, ⟨RX4, TX4, 12, tyX4, mm_cl_4, rfl⟩, ml_X11_294, im_X4_splitOf, se_X4_splitOf⟩
theorem ev_X11_299 : mm_EV RX11 299 yX4_placeOfTeam cX4_placeOfTeam 6 (some .int) 2 4 := ⟨mw_X4_placeOfTeam, ⟨RX4, TX4, 12, tyX4, mm_cl_4, rfl⟩, ml_X11_299, im_X4_placeOfTeam, se_X4_placeOfTeam⟩
theorem ev_X11_302 : mm_EV RX11 302 yX4_lookAtTeam cX4_lookAtTeam 5 (some .boolean) 2 4 := ⟨mw_X4_lookAtTeam, ⟨RX4, TX4, 12, tyX4, mm_cl_4, rfl⟩, ml_X11_302, im_X4_lookAtTeam, se_X4_lookAtTeam⟩
theorem ev_X11_305 : mm_EV RX11 305 yX4_teamTime cX4_teamTime 1 (some .int) 0 4 := ⟨mw_X4_teamTime, ⟨RX4, TX4, 12, tyX4, mm_cl_4, rfl⟩, ml_X11_305, im_X4_teamTime, se_X4_teamTime⟩
theorem ev_X11_309 : mm_EV RX11 309 yX11_putOnTape cX11_putOnTape 3 none 1 11 := ⟨mw_X11_putOnTape, ⟨RX11, TX11, 15, tyX11, mm_cl_11, rfl⟩, ml_X11_309, im_X11_putOnTape, se_X11_putOnTape⟩
theorem ev_X11_312 : mm_EV RX11 312 yX11_needBytes cX11_needBytes 2 none 1 11 := ⟨mw_X11_needBytes, ⟨RX11, TX11, 15, tyX11, mm_cl_11, rfl⟩, ml_X11_312, im_X11_needBytes, se_X11_needBytes⟩
theorem ev_X11_315 : mm_EV RX11 315 yX7_read cX7_read 3 (some .int) 1 7 := ⟨mw_X7_read, ⟨RX7, TX7, 11, tyX7, mm_cl_7, rfl⟩, ml_X11_315, im_X7_read, se_X7_read⟩
theorem ev_X11_318 : mm_EV RX11 318 yX7_faultAt cX7_faultAt 1 (some .int) 0 7 := ⟨mw_X7_faultAt, ⟨RX7, TX7, 11, tyX7, mm_cl_7, rfl⟩, ml_X11_318, im_X7_faultAt, se_X7_faultAt⟩
theorem ev_X11_320 : mm_EV RX11 320 yX8_adopt cX8_adopt 2 none 1 8 := ⟨mw_X8_adopt, ⟨RX8, TX8, 7, tyX8, mm_cl_8, rfl⟩, ml_X11_320, im_X8_adopt, se_X8_adopt⟩
theorem ev_X11_324 : mm_EV RX11 324 yX6_latest cX6_latest 5 (some .int) 3 6 := ⟨mw_X6_latest, ⟨RX6, TX6, 14, tyX6, mm_cl_6, rfl⟩, ml_X11_324, im_X6_latest, se_X6_latest⟩
theorem ev_X11_327 : mm_EV RX11 327 yX6_protests cX6_protests 1 (some .int) 0 6 := ⟨mw_X6_protests, ⟨RX6, TX6, 14, tyX6, mm_cl_6, rfl⟩, ml_X11_327, im_X6_protests, se_X6_protests⟩
theorem ev_X11_330 : mm_EV RX11 330 yX6_toldAt cX6_toldAt 2 (some .int) 1 6 := ⟨mw_X6_toldAt, ⟨RX6, TX6, 14, tyX6, mm_cl_6, rfl⟩, ml_X11_330, im_X6_toldAt, se_X6_toldAt⟩
theorem ev_X11_333 : mm_EV RX11 333 yX8_param cX8_param 2 (some .int) 1 8 := ⟨mw_X8_param, ⟨RX8, TX8, 7, tyX8, mm_cl_8, rfl⟩, ml_X11_333, im_X8_param, se_X8_param⟩
theorem ev_X11_336 : mm_EV RX11 336 yX6_accuse cX6_accuse 2 (some .int) 1 6 := ⟨mw_X6_accuse, ⟨RX6, TX6, 14, tyX6, mm_cl_6, rfl⟩, ml_X11_336, im_X6_accuse, se_X6_accuse⟩
theorem ev_X11_341 : mm_EV RX11 341 yX6_settle cX6_settle 5 (some .boolean) 4 6 := ⟨mw_X6_settle, ⟨RX6, TX6, 14, tyX6, mm_cl_6, rfl⟩, ml_X11_341, im_X6_settle, se_X6_settle⟩
theorem ev_X11_345 : mm_EV RX11 345 yX3_gather cX3_gather 4 (some .int) 2 3 := ⟨mw_X3_gather, ⟨RX3, TX3, 6, tyX3, mm_cl_3, rfl⟩, ml_X11_345, im_X3_gather, se_X3_gather⟩
theorem ev_X11_348 : mm_EV RX11 348 yX3_arrange cX3_arrange 6 (some .boolean) 1 3 := ⟨mw_X3_arrange, ⟨RX3, TX3, 6, tyX3, mm_cl_3, rfl⟩, ml_X11_348, im_X3_arrange, se_X3_arrange⟩
theorem ev_X11_352 : mm_EV RX11 352 yX3_drawn cX3_drawn 2 (some .int) 1 3 := ⟨mw_X3_drawn, ⟨RX3, TX3, 6, tyX3, mm_cl_3, rfl⟩, ml_X11_352, im_X3_drawn, se_X3_drawn⟩
theorem ev_X11_357 : mm_EV RX11 357 yX0_search cX0_search 4 (some .int) 2 0 := ⟨mw_X0_search, ⟨RX0, TX0, 11, tyX0, mm_cl_0, rfl⟩, ml_X11_357, im_X0_search, se_X0_search⟩
theorem ev_X11_360 : mm_EV RX11 360 yX0_isKept cX0_isKept 1 (some .boolean) 0 0 := ⟨mw_X0_isKept, ⟨RX0, TX0, 11, tyX0, mm_cl_0, rfl⟩, ml_X11_360, im_X0_isKept, se_X0_isKept⟩
theorem ev_X11_365 : mm_EV RX11 365 yX0_keptSet cX0_keptSet 1 (some .int) 0 0 := ⟨mw_X0_keptSet, ⟨RX0, TX0, 11, tyX0, mm_cl_0, rfl⟩, ml_X11_365, im_X0_keptSet, se_X0_keptSet⟩
theorem ev_X11_368 : mm_EV RX11 368 yX0_keptSeconds cX0_keptSeconds 1 (some .int) 0 0 := ⟨mw_X0_keptSeconds, ⟨RX0, TX0, 11, tyX0, mm_cl_0, rfl⟩, ml_X11_368, im_X0_keptSeconds, se_X0_keptSeconds⟩
theorem ev_X11_371 : mm_EV RX11 371 yX11_fillStops cX11_fillStops 4 (some .int) 1 11 := ⟨mw_X11_fillStops, ⟨RX11, TX11, 15, tyX11, mm_cl_11, rfl⟩, ml_X11_371, im_X11_fillStops, se_X11_fillStops⟩
theorem ev_X11_374 : mm_EV RX11 374 yX10_walk cX10_walk 11 (some .int) 4 10 := ⟨mw_X10_walk, ⟨RX10, TX10, 12, tyX10, mm_cl_10, rfl⟩, ml_X11_374, im_X10_walk, se_X10_walk⟩
theorem ev_X11_378 : mm_EV RX11 378 yX10_walkFaultAt cX10_walkFaultAt 1 (some .int) 0 10 := ⟨mw_X10_walkFaultAt, ⟨RX10, TX10, 12, tyX10, mm_cl_10, rfl⟩, ml_X11_378, im_X10_walkFaultAt, se_X10_walkFaultAt⟩
theorem ev_X11_381 : mm_EV RX11 381 yX10_walkCameBy cX10_walkCameBy 1 (some .boolean) 0 10 := ⟨mw_X10_walkCameBy, ⟨RX10, TX10, 12, tyX10, mm_cl_10, rfl⟩, ml_X11_381, im_X10_walkCameBy, se_X10_walkCameBy⟩
theorem ev_X11_384 : mm_EV RX11 384 yX9_keepTrack cX9_keepTrack 3 none 2 9 := ⟨mw_X9_keepTrack, ⟨RX9, TX9, 10, tyX9, mm_cl_9, rfl⟩, ml_X11_384, im_X9_keepTrack, se_X9_keepTrack⟩
theorem ev_X11_387 : mm_EV RX11 387 yX9_trackSeconds cX9_trackSeconds 2 (some .int) 1 9 := ⟨mw_X9_trackSeconds, ⟨RX9, TX9, 10, tyX9, mm_cl_9, rfl⟩, ml_X11_387, im_X9_trackSeconds, se_X9_trackSeconds⟩
theorem ev_X11_392 : mm_EV RX11 392 yX2_cellOf cX2_cellOf 2 (some .int) 1 2 := ⟨mw_X2_cellOf, ⟨RX2, TX2, 9, tyX2, mm_cl_2, rfl⟩, ml_X11_392, im_X2_cellOf, se_X2_cellOf⟩
theorem ev_X11_395 : mm_EV RX11 395 yX5_groundAt cX5_groundAt 2 (some .int) 1 5 := ⟨mw_X5_groundAt, ⟨RX5, TX5, 9, tyX5, mm_cl_5, rfl⟩, ml_X11_395, im_X5_groundAt, se_X5_groundAt⟩
theorem ev_X11_398 : mm_EV RX11 398 yX10_through cX10_through 8 (some .int) 2 10 := ⟨mw_X10_through, ⟨RX10, TX10, 12, tyX10, mm_cl_10, rfl⟩, ml_X11_398, im_X10_through, se_X10_through⟩
theorem ev_X12_184 : mm_EV RX12 184 yX12_anew cX12_anew 4 none 2 12 := ⟨mw_X12_anew, ⟨RX12, TX12, 102, tyX12, mm_cl_12, rfl⟩, ml_X12_184, im_X12_anew, se_X12_anew⟩
theorem ev_X12_247 : mm_EV RX12 247 yX12_inside cX12_inside 3 (some .boolean) 2 12 := ⟨mw_X12_inside, ⟨RX12, TX12, 102, tyX12, mm_cl_12, rfl⟩, ml_X12_247, im_X12_inside, se_X12_inside⟩
theorem ev_X12_251 : mm_EV RX12 251 yX12_right cX12_right 3 (some .boolean) 2 12 := ⟨mw_X12_right, ⟨RX12, TX12, 102, tyX12, mm_cl_12, rfl⟩, ml_X12_251, im_X12_right, se_X12_right⟩
theorem ev_X12_255 : mm_EV RX12 255 yX12_isCell cX12_isCell 3 (some .boolean) 2 12 := ⟨mw_X12_isCell, ⟨RX12, TX12, 102, tyX12, mm_cl_12, rfl⟩, ml_X12_255, im_X12_isCell, se_X12_isCell⟩
theorem ev_X12_262 : mm_EV RX12 262 yX12_isLess cX12_isLess 3 (some .boolean) 2 12 := ⟨mw_X12_isLess, ⟨RX12, TX12, 102, tyX12, mm_cl_12, rfl⟩, ml_X12_262, im_X12_isLess, se_X12_isLess⟩
theorem ev_X12_265 : mm_EV RX12 265 yX12_counts cX12_counts 7 none 2 12 := ⟨mw_X12_counts, ⟨RX12, TX12, 102, tyX12, mm_cl_12, rfl⟩, ml_X12_265, im_X12_counts, se_X12_counts⟩
theorem ev_X12_268 : mm_EV RX12 268 yX12_comes cX12_comes 8 none 2 12 := ⟨mw_X12_comes, ⟨RX12, TX12, 102, tyX12, mm_cl_12, rfl⟩, ml_X12_268, im_X12_comes, se_X12_comes⟩
theorem ev_X12_271 : mm_EV RX12 271 yX12_leads cX12_leads 7 (some .int) 2 12 := ⟨mw_X12_leads, ⟨RX12, TX12, 102, tyX12, mm_cl_12, rfl⟩, ml_X12_271, im_X12_leads, se_X12_leads⟩
theorem ev_X12_275 : mm_EV RX12 275 yX12_seconds cX12_seconds 4 (some .int) 2 12 := ⟨mw_X12_seconds, ⟨RX12, TX12, 102, tyX12, mm_cl_12, rfl⟩, ml_X12_275, im_X12_seconds, se_X12_seconds⟩
theorem ev_X12_280 : mm_EV RX12 280 yX12_towards cX12_towards 5 none 1 12 := ⟨mw_X12_towards, ⟨RX12, TX12, 102, tyX12, mm_cl_12, rfl⟩, ml_X12_280, im_X12_towards, se_X12_towards⟩
theorem ev_X12_284 : mm_EV RX12 284 yX12_firstMove cX12_firstMove 4 (some .int) 1 12 := ⟨mw_X12_firstMove, ⟨RX12, TX12, 102, tyX12, mm_cl_12, rfl⟩, ml_X12_284, im_X12_firstMove, se_X12_firstMove⟩
theorem ev_X12_288 : mm_EV RX12 288 yX12_isCourse cX12_isCourse 2 (some .boolean) 1 12 := ⟨mw_X12_isCourse, ⟨RX12, TX12, 102, tyX12, mm_cl_12, rfl⟩, ml_X12_288, im_X12_isCourse, se_X12_isCourse⟩
theorem ev_X12_292 : mm_EV RX12 292 yX12_isPost cX12_isPost 2 (some .boolean) 1 12 := ⟨mw_X12_isPost, ⟨RX12, TX12, 102, tyX12, mm_cl_12, rfl⟩, ml_X12_292, im_X12_isPost, se_X12_isPost⟩
theorem es_X12_299 : mm_ES RX12 299 yX12_digit cX12_digit 4 (some .int) 2 := ⟨mw_X12_digit, ml_X12_299, sm_X12_digit⟩
theorem ev_X12_302 : mm_EV RX12 302 yX12_rows cX12_rows 6 none 1 12 := ⟨mw_X12_rows, ⟨RX12, TX12, 102, tyX12, mm_cl_12, rfl⟩, ml_X12_302, im_X12_rows, se_X12_rows⟩
theorem ev_X12_305 : mm_EV RX12 305 yX12_between cX12_between 3 (some .int) 2 12 := ⟨mw_X12_between, ⟨RX12, TX12, 102, tyX12, mm_cl_12, rfl⟩, ml_X12_305, im_X12_between, se_X12_between⟩
theorem ev_X12_308 : mm_EV RX12 308 yX12_isRunner cX12_isRunner 2 (some .boolean) 1 12 := ⟨mw_X12_isRunner, ⟨RX12, TX12, 102, tyX12, mm_cl_12, rfl⟩, ml_X12_308, im_X12_isRunner, se_X12_isRunner⟩
theorem ev_X12_311 : mm_EV RX12 311 yX12_lengthOf cX12_lengthOf 7 (some .int) 1 12 := ⟨mw_X12_lengthOf, ⟨RX12, TX12, 102, tyX12, mm_cl_12, rfl⟩, ml_X12_311, im_X12_lengthOf, se_X12_lengthOf⟩
theorem ev_X12_315 : mm_EV RX12 315 yX12_tells cX12_tells 5 (some .int) 4 12 := ⟨mw_X12_tells, ⟨RX12, TX12, 102, tyX12, mm_cl_12, rfl⟩, ml_X12_315, im_X12_tells, se_X12_tells⟩
theorem ev_X12_319 : mm_EV RX12 319 yX12_isKnown cX12_isKnown 3 (some .boolean) 2 12 := ⟨mw_X12_isKnown, ⟨RX12, TX12, 102, tyX12, mm_cl_12, rfl⟩, ml_X12_319, im_X12_isKnown, se_X12_isKnown⟩
theorem ev_X12_322 : mm_EV RX12 322 yX12_latest cX12_latest 6 (some .int) 3 12 := ⟨mw_X12_latest, ⟨RX12, TX12, 102, tyX12, mm_cl_12, rfl⟩, ml_X12_322, im_X12_latest, se_X12_latest⟩
theorem ev_X12_326 : mm_EV RX12 326 yX12_finishOf cX12_finishOf 4 (some .int) 2 12 := ⟨mw_X12_finishOf, ⟨RX12, TX12, 102, tyX12, mm_cl_12, rfl⟩, ml_X12_326, im_X12_finishOf, se_X12_finishOf⟩
theorem ev_X12_335 : mm_EV RX12 335 yX12_finds cX12_finds 7 none 2 12 := ⟨mw_X12_finds, ⟨RX12, TX12, 102, tyX12, mm_cl_12, rfl⟩, ml_X12_335, im_X12_finds, se_X12_finds⟩
theorem ev_X12_338 : mm_EV RX12 338 yX12_nextPunch cX12_nextPunch 4 (some .int) 2 12 := ⟨mw_X12_nextPunch, ⟨RX12, TX12, 102, tyX12, mm_cl_12, rfl⟩, ml_X12_338, im_X12_nextPunch, se_X12_nextPunch⟩
theorem ev_X12_344 : mm_EV RX12 344 yX12_inOrder cX12_inOrder 6 none 0 12 := ⟨mw_X12_inOrder, ⟨RX12, TX12, 102, tyX12, mm_cl_12, rfl⟩, ml_X12_344, im_X12_inOrder, se_X12_inOrder⟩
theorem ev_X12_353 : mm_EV RX12 353 yX12_lays cX12_lays 3 none 1 12 := ⟨mw_X12_lays, ⟨RX12, TX12, 102, tyX12, mm_cl_12, rfl⟩, ml_X12_353, im_X12_lays, se_X12_lays⟩
theorem ev_X12_362 : mm_EV RX12 362 yX12_byteAt cX12_byteAt 2 (some .int) 1 12 := ⟨mw_X12_byteAt, ⟨RX12, TX12, 102, tyX12, mm_cl_12, rfl⟩, ml_X12_362, im_X12_byteAt, se_X12_byteAt⟩
theorem es_X12_381 : mm_ES RX12 381 yX12_isLetter cX12_isLetter 1 (some .boolean) 1 := ⟨mw_X12_isLetter, ml_X12_381, sm_X12_isLetter⟩
theorem es_X12_384 : mm_ES RX12 384 yX12_isDigit cX12_isDigit 1 (some .boolean) 1 := ⟨mw_X12_isDigit, ml_X12_384, sm_X12_isDigit⟩
theorem es_X12_390 : mm_ES RX12 390 yX12_spelled cX12_spelled 9 (some .long) 7 := ⟨mw_X12_spelled, ml_X12_390, sm_X12_spelled⟩
theorem es_X12_394 : mm_ES RX12 394 yX12_known cX12_known 1 (some .long) 1 := ⟨mw_X12_known, ml_X12_394, sm_X12_known⟩
theorem es_X12_407 : mm_ES RX12 407 yX12_strength cX12_strength 1 (some .int) 1 := ⟨mw_X12_strength, ml_X12_407, sm_X12_strength⟩
theorem ev_X12_410 : mm_EV RX12 410 yX12_puts cX12_puts 2 none 1 12 := ⟨mw_X12_puts, ⟨RX12, TX12, 102, tyX12, mm_cl_12, rfl⟩, ml_X12_410, im_X12_puts, se_X12_puts⟩
theorem ev_X12_413 : mm_EV RX12 413 yX12_isGood cX12_isGood 1 (some .boolean) 0 12 := ⟨mw_X12_isGood, ⟨RX12, TX12, 102, tyX12, mm_cl_12, rfl⟩, ml_X12_413, im_X12_isGood, se_X12_isGood⟩
theorem ev_X12_417 : mm_EV RX12 417 yX12_wrong cX12_wrong 2 none 1 12 := ⟨mw_X12_wrong, ⟨RX12, TX12, 102, tyX12, mm_cl_12, rfl⟩, ml_X12_417, im_X12_wrong, se_X12_wrong⟩
theorem ev_X12_419 : mm_EV RX12 419 yX12_knownWord cX12_knownWord 2 (some .int) 0 12 := ⟨mw_X12_knownWord, ⟨RX12, TX12, 102, tyX12, mm_cl_12, rfl⟩, ml_X12_419, im_X12_knownWord, se_X12_knownWord⟩
theorem ev_X12_423 : mm_EV RX12 423 yX12_goes cX12_goes 2 none 0 12 := ⟨mw_X12_goes, ⟨RX12, TX12, 102, tyX12, mm_cl_12, rfl⟩, ml_X12_423, im_X12_goes, se_X12_goes⟩
theorem ev_X12_429 : mm_EV RX12 429 yX12_isSign cX12_isSign 2 (some .boolean) 1 12 := ⟨mw_X12_isSign, ⟨RX12, TX12, 102, tyX12, mm_cl_12, rfl⟩, ml_X12_429, im_X12_isSign, se_X12_isSign⟩
theorem ev_X12_432 : mm_EV RX12 432 yX12_waitsFor cX12_waitsFor 2 none 1 12 := ⟨mw_X12_waitsFor, ⟨RX12, TX12, 102, tyX12, mm_cl_12, rfl⟩, ml_X12_432, im_X12_waitsFor, se_X12_waitsFor⟩
theorem ev_X12_435 : mm_EV RX12 435 yX12_begins cX12_begins 1 none 0 12 := ⟨mw_X12_begins, ⟨RX12, TX12, 102, tyX12, mm_cl_12, rfl⟩, ml_X12_435, im_X12_begins, se_X12_begins⟩
theorem ev_X12_438 : mm_EV RX12 438 yX12_part cX12_part 2 none 0 12 := ⟨mw_X12_part, ⟨RX12, TX12, 102, tyX12, mm_cl_12, rfl⟩, ml_X12_438, im_X12_part, se_X12_part⟩
theorem ev_X12_441 : mm_EV RX12 441 yX12_operand cX12_operand 5 none 1 12 := ⟨mw_X12_operand, ⟨RX12, TX12, 102, tyX12, mm_cl_12, rfl⟩, ml_X12_441, im_X12_operand, se_X12_operand⟩
theorem ev_X12_445 : mm_EV RX12 445 yX12_drops cX12_drops 2 none 1 12 := ⟨mw_X12_drops, ⟨RX12, TX12, 102, tyX12, mm_cl_12, rfl⟩, ml_X12_445, im_X12_drops, se_X12_drops⟩
theorem ev_X12_448 : mm_EV RX12 448 yX12_sets cX12_sets 3 none 1 12 := ⟨mw_X12_sets, ⟨RX12, TX12, 102, tyX12, mm_cl_12, rfl⟩, ml_X12_448, im_X12_sets, se_X12_sets⟩
theorem ev_X12_451 : mm_EV RX12 451 yX12_expression cX12_expression 4 (some .int) 0 12 := ⟨mw_X12_expression, ⟨RX12, TX12, 102, tyX12, mm_cl_12, rfl⟩, ml_X12_451, im_X12_expression, se_X12_expression⟩
theorem ev_X12_457 : mm_EV RX12 457 yX12_clause cX12_clause 4 none 1 12 := ⟨mw_X12_clause, ⟨RX12, TX12, 102, tyX12, mm_cl_12, rfl⟩, ml_X12_457, im_X12_clause, se_X12_clause⟩
theorem ev_X12_460 : mm_EV RX12 460 yX12_paramOf cX12_paramOf 2 (some .int) 1 12 := ⟨mw_X12_paramOf, ⟨RX12, TX12, 102, tyX12, mm_cl_12, rfl⟩, ml_X12_460, im_X12_paramOf, se_X12_paramOf⟩
theorem es_X12_463 : mm_ES RX12 463 yX12_works cX12_works 3 (some .int) 3 := ⟨mw_X12_works, ml_X12_463, sm_X12_works⟩
theorem ev_X12_466 : mm_EV RX12 466 yX12_worth cX12_worth 6 (some .int) 1 12 := ⟨mw_X12_worth, ⟨RX12, TX12, 102, tyX12, mm_cl_12, rfl⟩, ml_X12_466, im_X12_worth, se_X12_worth⟩
theorem ev_X12_469 : mm_EV RX12 469 yX12_judges cX12_judges 4 none 2 12 := ⟨mw_X12_judges, ⟨RX12, TX12, 102, tyX12, mm_cl_12, rfl⟩, ml_X12_469, im_X12_judges, se_X12_judges⟩
theorem ev_X12_472 : mm_EV RX12 472 yX12_startOf cX12_startOf 4 (some .int) 2 12 := ⟨mw_X12_startOf, ⟨RX12, TX12, 102, tyX12, mm_cl_12, rfl⟩, ml_X12_472, im_X12_startOf, se_X12_startOf⟩
theorem ev_X12_481 : mm_EV RX12 481 yX12_clauseWorth cX12_clauseWorth 2 (some .int) 1 12 := ⟨mw_X12_clauseWorth, ⟨RX12, TX12, 102, tyX12, mm_cl_12, rfl⟩, ml_X12_481, im_X12_clauseWorth, se_X12_clauseWorth⟩
theorem ev_X12_484 : mm_EV RX12 484 yX12_protested cX12_protested 6 (some .int) 2 12 := ⟨mw_X12_protested, ⟨RX12, TX12, 102, tyX12, mm_cl_12, rfl⟩, ml_X12_484, im_X12_protested, se_X12_protested⟩
theorem ev_X12_487 : mm_EV RX12 487 yX12_asks cX12_asks 8 none 2 12 := ⟨mw_X12_asks, ⟨RX12, TX12, 102, tyX12, mm_cl_12, rfl⟩, ml_X12_487, im_X12_asks, se_X12_asks⟩
theorem ev_X12_490 : mm_EV RX12 490 yX12_stateOf cX12_stateOf 6 (some .int) 2 12 := ⟨mw_X12_stateOf, ⟨RX12, TX12, 102, tyX12, mm_cl_12, rfl⟩, ml_X12_490, im_X12_stateOf, se_X12_stateOf⟩
theorem ev_X12_493 : mm_EV RX12 493 yX12_added cX12_added 5 (some .int) 2 12 := ⟨mw_X12_added, ⟨RX12, TX12, 102, tyX12, mm_cl_12, rfl⟩, ml_X12_493, im_X12_added, se_X12_added⟩
theorem ev_X12_496 : mm_EV RX12 496 yX12_totalOf cX12_totalOf 3 (some .int) 2 12 := ⟨mw_X12_totalOf, ⟨RX12, TX12, 102, tyX12, mm_cl_12, rfl⟩, ml_X12_496, im_X12_totalOf, se_X12_totalOf⟩
theorem ev_X12_499 : mm_EV RX12 499 yX12_isSecond cX12_isSecond 2 (some .boolean) 1 12 := ⟨mw_X12_isSecond, ⟨RX12, TX12, 102, tyX12, mm_cl_12, rfl⟩, ml_X12_499, im_X12_isSecond, se_X12_isSecond⟩
theorem ev_X12_502 : mm_EV RX12 502 yX12_placeOf cX12_placeOf 9 (some .int) 2 12 := ⟨mw_X12_placeOf, ⟨RX12, TX12, 102, tyX12, mm_cl_12, rfl⟩, ml_X12_502, im_X12_placeOf, se_X12_placeOf⟩
theorem ev_X12_508 : mm_EV RX12 508 yX12_timeOf cX12_timeOf 6 (some .int) 2 12 := ⟨mw_X12_timeOf, ⟨RX12, TX12, 102, tyX12, mm_cl_12, rfl⟩, ml_X12_508, im_X12_timeOf, se_X12_timeOf⟩
theorem ev_X12_518 : mm_EV RX12 518 yX12_canFollow cX12_canFollow 5 (some .boolean) 2 12 := ⟨mw_X12_canFollow, ⟨RX12, TX12, 102, tyX12, mm_cl_12, rfl⟩, ml_X12_518, im_X12_canFollow, se_X12_canFollow⟩
theorem ev_X12_523 : mm_EV RX12 523 yX12_isNext cX12_isNext 6 (some .boolean) 3 12 := ⟨mw_X12_isNext, ⟨RX12, TX12, 102, tyX12, mm_cl_12, rfl⟩, ml_X12_523, im_X12_isNext, se_X12_isNext⟩
theorem ev_X12_527 : mm_EV RX12 527 yX12_cellOf cX12_cellOf 4 (some .int) 3 12 := ⟨mw_X12_cellOf, ⟨RX12, TX12, 102, tyX12, mm_cl_12, rfl⟩, ml_X12_527, im_X12_cellOf, se_X12_cellOf⟩
theorem ev_X12_530 : mm_EV RX12 530 yX12_comesTo cX12_comesTo 7 (some .int) 3 12 := ⟨mw_X12_comesTo, ⟨RX12, TX12, 102, tyX12, mm_cl_12, rfl⟩, ml_X12_530, im_X12_comesTo, se_X12_comesTo⟩
theorem ev_X12_539 : mm_EV RX12 539 yX12_comesBy cX12_comesBy 4 (some .int) 2 12 := ⟨mw_X12_comesBy, ⟨RX12, TX12, 102, tyX12, mm_cl_12, rfl⟩, ml_X12_539, im_X12_comesBy, se_X12_comesBy⟩
theorem es_X3_33 : mm_ES RX3 33 yJ7_fill_53178 cJ7_fill_53178 4 none 2 := ⟨mw_J7_fill_53178, ml_X3_33, sm_J7_fill_53178⟩
theorem ev_X3_39 : mm_EV RX3 39 yX9_size cX9_size 1 (some .int) 0 9 := ⟨mw_X9_size, ⟨RX9, TX9, 10, tyX9, mm_cl_9, rfl⟩, ml_X3_39, im_X9_size, se_X9_size⟩
theorem ev_X3_44 : mm_EV RX3 44 yX9_courseOf cX9_courseOf 2 (some .int) 1 9 := ⟨mw_X9_courseOf, ⟨RX9, TX9, 10, tyX9, mm_cl_9, rfl⟩, ml_X3_44, im_X9_courseOf, se_X9_courseOf⟩
theorem ev_X3_48 : mm_EV RX3 48 yX9_aheadOf cX9_aheadOf 2 (some .int) 1 9 := ⟨mw_X9_aheadOf, ⟨RX9, TX9, 10, tyX9, mm_cl_9, rfl⟩, ml_X3_48, im_X9_aheadOf, se_X9_aheadOf⟩
theorem ev_X3_51 : mm_EV RX3 51 yX6_latest cX6_latest 5 (some .int) 3 6 := ⟨mw_X6_latest, ⟨RX6, TX6, 14, tyX6, mm_cl_6, rfl⟩, ml_X3_51, im_X6_latest, se_X6_latest⟩
theorem ev_X3_57 : mm_EV RX3 57 yX9_clubOf cX9_clubOf 2 (some .int) 1 9 := ⟨mw_X9_clubOf, ⟨RX9, TX9, 10, tyX9, mm_cl_9, rfl⟩, ml_X3_57, im_X9_clubOf, se_X9_clubOf⟩
theorem ev_X3_60 : mm_EV RX3 60 yX3_shuffle cX3_shuffle 8 none 1 3 := ⟨mw_X3_shuffle, ⟨RX3, TX3, 6, tyX3, mm_cl_3, rfl⟩, ml_X3_60, im_X3_shuffle, se_X3_shuffle⟩
theorem ev_X3_64 : mm_EV RX3 64 yX3_nextAfter cX3_nextAfter 4 (some .int) 2 3 := ⟨mw_X3_nextAfter, ⟨RX3, TX3, 6, tyX3, mm_cl_3, rfl⟩, ml_X3_64, im_X3_nextAfter, se_X3_nextAfter⟩
theorem ev_X3_72 : mm_EV RX3 72 yX3_restCanFollow cX3_restCanFollow 4 (some .boolean) 2 3 := ⟨mw_X3_restCanFollow, ⟨RX3, TX3, 6, tyX3, mm_cl_3, rfl⟩, ml_X3_72, im_X3_restCanFollow, se_X3_restCanFollow⟩
theorem ev_X4_59 : mm_EV RX4 59 yX1_fill cX1_fill 3 none 2 1 := ⟨mw_X1_fill, ⟨RX1, TX1, 10, tyX1, mm_cl_1, rfl⟩, ml_X4_59, im_X1_fill, se_X1_fill⟩
theorem ev_X4_63 : mm_EV RX4 63 yX4_startOf cX4_startOf 4 (some .int) 2 4 := ⟨mw_X4_startOf, ⟨RX4, TX4, 12, tyX4, mm_cl_4, rfl⟩, ml_X4_63, im_X4_startOf, se_X4_startOf⟩
theorem ev_X4_67 : mm_EV RX4 67 yX6_latest cX6_latest 5 (some .int) 3 6 := ⟨mw_X6_latest, ⟨RX6, TX6, 14, tyX6, mm_cl_6, rfl⟩, ml_X4_67, im_X6_latest, se_X6_latest⟩
theorem ev_X4_73 : mm_EV RX4 73 yX6_timeOf cX6_timeOf 2 (some .int) 1 6 := ⟨mw_X6_timeOf, ⟨RX6, TX6, 14, tyX6, mm_cl_6, rfl⟩, ml_X4_73, im_X6_timeOf, se_X6_timeOf⟩
theorem ev_X4_77 : mm_EV RX4 77 yX4_fillValues cX4_fillValues 3 none 1 4 := ⟨mw_X4_fillValues, ⟨RX4, TX4, 12, tyX4, mm_cl_4, rfl⟩, ml_X4_77, im_X4_fillValues, se_X4_fillValues⟩
theorem ev_X4_81 : mm_EV RX4 81 yX8_apply cX8_apply 5 none 1 8 := ⟨mw_X8_apply, ⟨RX8, TX8, 7, tyX8, mm_cl_8, rfl⟩, ml_X4_81, im_X8_apply, se_X8_apply⟩
theorem ev_X4_87 : mm_EV RX4 87 yX8_penalty cX8_penalty 1 (some .int) 0 8 := ⟨mw_X8_penalty, ⟨RX8, TX8, 7, tyX8, mm_cl_8, rfl⟩, ml_X4_87, im_X8_penalty, se_X8_penalty⟩
theorem ev_X4_90 : mm_EV RX4 90 yX6_addedTo cX6_addedTo 5 (some .int) 2 6 := ⟨mw_X6_addedTo, ⟨RX6, TX6, 14, tyX6, mm_cl_6, rfl⟩, ml_X4_90, im_X6_addedTo, se_X6_addedTo⟩
theorem ev_X4_93 : mm_EV RX4 93 yX6_verdictOn cX6_verdictOn 6 (some .int) 2 6 := ⟨mw_X6_verdictOn, ⟨RX6, TX6, 14, tyX6, mm_cl_6, rfl⟩, ml_X4_93, im_X6_verdictOn, se_X6_verdictOn⟩
theorem ev_X4_96 : mm_EV RX4 96 yX4_stateAt cX4_stateAt 3 (some .int) 2 4 := ⟨mw_X4_stateAt, ⟨RX4, TX4, 12, tyX4, mm_cl_4, rfl⟩, ml_X4_96, im_X4_stateAt, se_X4_stateAt⟩
theorem ev_X4_99 : mm_EV RX4 99 yX9_runsFree cX9_runsFree 2 (some .boolean) 1 9 := ⟨mw_X9_runsFree, ⟨RX9, TX9, 10, tyX9, mm_cl_9, rfl⟩, ml_X4_99, im_X9_runsFree, se_X9_runsFree⟩
theorem ev_X4_105 : mm_EV RX4 105 yX1_isKept cX1_isKept 2 (some .boolean) 1 1 := ⟨mw_X1_isKept, ⟨RX1, TX1, 10, tyX1, mm_cl_1, rfl⟩, ml_X4_105, im_X1_isKept, se_X1_isKept⟩
theorem ev_X4_108 : mm_EV RX4 108 yX1_timeOf cX1_timeOf 2 (some .int) 1 1 := ⟨mw_X1_timeOf, ⟨RX1, TX1, 10, tyX1, mm_cl_1, rfl⟩, ml_X4_108, im_X1_timeOf, se_X1_timeOf⟩
theorem ev_X4_109 : mm_EV RX4 109 yX4_look cX4_look 4 none 2 4 := ⟨mw_X4_look, ⟨RX4, TX4, 12, tyX4, mm_cl_4, rfl⟩, ml_X4_109, im_X4_look, se_X4_look⟩
theorem ev_X4_112 : mm_EV RX4 112 yX9_size cX9_size 1 (some .int) 0 9 := ⟨mw_X9_size, ⟨RX9, TX9, 10, tyX9, mm_cl_9, rfl⟩, ml_X4_112, im_X9_size, se_X9_size⟩
theorem ev_X4_115 : mm_EV RX4 115 yX9_courseOf cX9_courseOf 2 (some .int) 1 9 := ⟨mw_X9_courseOf, ⟨RX9, TX9, 10, tyX9, mm_cl_9, rfl⟩, ml_X4_115, im_X9_courseOf, se_X9_courseOf⟩
theorem ev_X4_118 : mm_EV RX4 118 yX4_isBetterFree cX4_isBetterFree 3 (some .boolean) 2 4 := ⟨mw_X4_isBetterFree, ⟨RX4, TX4, 12, tyX4, mm_cl_4, rfl⟩, ml_X4_118, im_X4_isBetterFree, se_X4_isBetterFree⟩
theorem ev_X4_122 : mm_EV RX4 122 yX9_member cX9_member 3 (some .int) 2 9 := ⟨mw_X9_member, ⟨RX9, TX9, 10, tyX9, mm_cl_9, rfl⟩, ml_X4_122, im_X9_member, se_X9_member⟩
theorem ev_X4_125 : mm_EV RX4 125 yX4_lookAtTeam cX4_lookAtTeam 5 (some .boolean) 2 4 := ⟨mw_X4_lookAtTeam, ⟨RX4, TX4, 12, tyX4, mm_cl_4, rfl⟩, ml_X4_125, im_X4_lookAtTeam, se_X4_lookAtTeam⟩
theorem ev_X4_128 : mm_EV RX4 128 yX9_teams cX9_teams 1 (some .int) 0 9 := ⟨mw_X9_teams, ⟨RX9, TX9, 10, tyX9, mm_cl_9, rfl⟩, ml_X4_128, im_X9_teams, se_X9_teams⟩
theorem ev_X4_131 : mm_EV RX4 131 yX9_courseOfTeam cX9_courseOfTeam 2 (some .int) 1 9 := ⟨mw_X9_courseOfTeam, ⟨RX9, TX9, 10, tyX9, mm_cl_9, rfl⟩, ml_X4_131, im_X9_courseOfTeam, se_X9_courseOfTeam⟩
theorem ev_X4_134 : mm_EV RX4 134 yX9_aheadOf cX9_aheadOf 2 (some .int) 1 9 := ⟨mw_X9_aheadOf, ⟨RX9, TX9, 10, tyX9, mm_cl_9, rfl⟩, ml_X4_134, im_X9_aheadOf, se_X9_aheadOf⟩
theorem ev_X4_137 : mm_EV RX4 137 yX1_unkept cX1_unkept 3 (some .int) 0 1 := ⟨mw_X1_unkept, ⟨RX1, TX1, 10, tyX1, mm_cl_1, rfl⟩, ml_X4_137, im_X1_unkept, se_X1_unkept⟩
theorem ev_X4_140 : mm_EV RX4 140 yX1_wrong cX1_wrong 3 (some .int) 0 1 := ⟨mw_X1_wrong, ⟨RX1, TX1, 10, tyX1, mm_cl_1, rfl⟩, ml_X4_140, im_X1_wrong, se_X1_wrong⟩
theorem ev_X4_143 : mm_EV RX4 143 yX1_score cX1_score 3 (some .int) 0 1 := ⟨mw_X1_score, ⟨RX1, TX1, 10, tyX1, mm_cl_1, rfl⟩, ml_X4_143, im_X1_score, se_X1_score⟩
theorem ev_X4_146 : mm_EV RX4 146 yX1_rowSize cX1_rowSize 1 (some .int) 0 1 := ⟨mw_X1_rowSize, ⟨RX1, TX1, 10, tyX1, mm_cl_1, rfl⟩, ml_X4_146, im_X1_rowSize, se_X1_rowSize⟩
theorem ev_X4_149 : mm_EV RX4 149 yX9_clubOf cX9_clubOf 2 (some .int) 1 9 := ⟨mw_X9_clubOf, ⟨RX9, TX9, 10, tyX9, mm_cl_9, rfl⟩, ml_X4_149, im_X9_clubOf, se_X9_clubOf⟩
theorem ev_X4_152 : mm_EV RX4 152 yX8_out cX8_out 1 (some .boolean) 0 8 := ⟨mw_X8_out, ⟨RX8, TX8, 7, tyX8, mm_cl_8, rfl⟩, ml_X4_152, im_X8_out, se_X8_out⟩
theorem es_X5_41 : mm_ES RX5 41 yJ7_fill_53178 cJ7_fill_53178 4 none 2 := ⟨mw_J7_fill_53178, ml_X5_41, sm_J7_fill_53178⟩
theorem ev_X5_47 : mm_EV RX5 47 yX5_letsIn cX5_letsIn 2 (some .boolean) 1 5 := ⟨mw_X5_letsIn, ⟨RX5, TX5, 9, tyX5, mm_cl_5, rfl⟩, ml_X5_47, im_X5_letsIn, se_X5_letsIn⟩
theorem ev_X6_55 : mm_EV RX6 55 yX6_isKnown cX6_isKnown 5 (some .boolean) 4 6 := ⟨mw_X6_isKnown, ⟨RX6, TX6, 14, tyX6, mm_cl_6, rfl⟩, ml_X6_55, im_X6_isKnown, se_X6_isKnown⟩
theorem ev_X6_59 : mm_EV RX6 59 yX6_isUpheld cX6_isUpheld 4 (some .boolean) 3 6 := ⟨mw_X6_isUpheld, ⟨RX6, TX6, 14, tyX6, mm_cl_6, rfl⟩, ml_X6_59, im_X6_isUpheld, se_X6_isUpheld⟩
theorem es_X7_46 : mm_ES RX7 46 yX8_setDefaults cX8_setDefaults 1 none 1 := ⟨mw_X8_setDefaults, ml_X7_46, sm_X8_setDefaults⟩
theorem ev_X7_52 : mm_EV RX7 52 yX7_step cX7_step 2 none 0 7 := ⟨mw_X7_step, ⟨RX7, TX7, 11, tyX7, mm_cl_7, rfl⟩, ml_X7_52, im_X7_step, se_X7_step⟩
theorem ev_X7_55 : mm_EV RX7 55 yX7_readClause cX7_readClause 3 (some .boolean) 1 7 := ⟨mw_X7_readClause, ⟨RX7, TX7, 11, tyX7, mm_cl_7, rfl⟩, ml_X7_55, im_X7_readClause, se_X7_readClause⟩
theorem ev_X7_65 : mm_EV RX7 65 yX7_refuse cX7_refuse 2 (some .boolean) 1 7 := ⟨mw_X7_refuse, ⟨RX7, TX7, 11, tyX7, mm_cl_7, rfl⟩, ml_X7_65, im_X7_refuse, se_X7_refuse⟩
theorem ev_X7_68 : mm_EV RX7 68 yX7_readSetting cX7_readSetting 2 (some .boolean) 0 7 := ⟨mw_X7_readSetting, ⟨RX7, TX7, 11, tyX7, mm_cl_7, rfl⟩, ml_X7_68, im_X7_readSetting, se_X7_readSetting⟩
theorem ev_X7_72 : mm_EV RX7 72 yX7_readSign cX7_readSign 2 (some .boolean) 1 7 := ⟨mw_X7_readSign, ⟨RX7, TX7, 11, tyX7, mm_cl_7, rfl⟩, ml_X7_72, im_X7_readSign, se_X7_readSign⟩
theorem ev_X7_75 : mm_EV RX7 75 yX7_readOr cX7_readOr 3 (some .boolean) 1 7 := ⟨mw_X7_readOr, ⟨RX7, TX7, 11, tyX7, mm_cl_7, rfl⟩, ml_X7_75, im_X7_readOr, se_X7_readOr⟩
theorem ev_X7_79 : mm_EV RX7 79 yX7_emit cX7_emit 2 none 1 7 := ⟨mw_X7_emit, ⟨RX7, TX7, 11, tyX7, mm_cl_7, rfl⟩, ml_X7_79, im_X7_emit, se_X7_emit⟩
theorem ev_X7_89 : mm_EV RX7 89 yX7_isNumber cX7_isNumber 1 (some .boolean) 0 7 := ⟨mw_X7_isNumber, ⟨RX7, TX7, 11, tyX7, mm_cl_7, rfl⟩, ml_X7_89, im_X7_isNumber, se_X7_isNumber⟩
theorem ev_X7_92 : mm_EV RX7 92 yX7_numberOfToken cX7_numberOfToken 3 (some .int) 0 7 := ⟨mw_X7_numberOfToken, ⟨RX7, TX7, 11, tyX7, mm_cl_7, rfl⟩, ml_X7_92, im_X7_numberOfToken, se_X7_numberOfToken⟩
theorem ev_X7_96 : mm_EV RX7 96 yX7_isSign cX7_isSign 2 (some .boolean) 1 7 := ⟨mw_X7_isSign, ⟨RX7, TX7, 11, tyX7, mm_cl_7, rfl⟩, ml_X7_96, im_X7_isSign, se_X7_isSign⟩
theorem ev_X7_99 : mm_EV RX7 99 yX7_readAnd cX7_readAnd 3 (some .boolean) 1 7 := ⟨mw_X7_readAnd, ⟨RX7, TX7, 11, tyX7, mm_cl_7, rfl⟩, ml_X7_99, im_X7_readAnd, se_X7_readAnd⟩
theorem ev_X7_103 : mm_EV RX7 103 yX7_readNot cX7_readNot 4 (some .boolean) 1 7 := ⟨mw_X7_readNot, ⟨RX7, TX7, 11, tyX7, mm_cl_7, rfl⟩, ml_X7_103, im_X7_readNot, se_X7_readNot⟩
theorem ev_X7_107 : mm_EV RX7 107 yX7_readTest cX7_readTest 3 (some .boolean) 1 7 := ⟨mw_X7_readTest, ⟨RX7, TX7, 11, tyX7, mm_cl_7, rfl⟩, ml_X7_107, im_X7_readTest, se_X7_readTest⟩
theorem ev_X7_111 : mm_EV RX7 111 yX7_readSum cX7_readSum 4 (some .boolean) 1 7 := ⟨mw_X7_readSum, ⟨RX7, TX7, 11, tyX7, mm_cl_7, rfl⟩, ml_X7_111, im_X7_readSum, se_X7_readSum⟩
theorem ev_X7_116 : mm_EV RX7 116 yX7_readProduct cX7_readProduct 4 (some .boolean) 1 7 := ⟨mw_X7_readProduct, ⟨RX7, TX7, 11, tyX7, mm_cl_7, rfl⟩, ml_X7_116, im_X7_readProduct, se_X7_readProduct⟩
theorem ev_X7_121 : mm_EV RX7 121 yX7_readPart cX7_readPart 2 (some .boolean) 1 7 := ⟨mw_X7_readPart, ⟨RX7, TX7, 11, tyX7, mm_cl_7, rfl⟩, ml_X7_121, im_X7_readPart, se_X7_readPart⟩
theorem es_X7_128 : mm_ES RX7 128 yX7_isBlank cX7_isBlank 1 (some .boolean) 1 := ⟨mw_X7_isBlank, ml_X7_128, sm_X7_isBlank⟩
theorem es_X7_131 : mm_ES RX7 131 yX7_kindOf cX7_kindOf 1 (some .int) 1 := ⟨mw_X7_kindOf, ml_X7_131, sm_X7_kindOf⟩
theorem ev_X7_135 : mm_EV RX7 135 yX7_wordOfToken cX7_wordOfToken 6 (some .int) 0 7 := ⟨mw_X7_wordOfToken, ⟨RX7, TX7, 11, tyX7, mm_cl_7, rfl⟩, ml_X7_135, im_X7_wordOfToken, se_X7_wordOfToken⟩
theorem es_X8_35 : mm_ES RX8 35 yX8_setDefaults cX8_setDefaults 1 none 1 := ⟨mw_X8_setDefaults, ml_X8_35, sm_X8_setDefaults⟩
theorem ev_X8_39 : mm_EV RX8 39 yX7_copyTo cX7_copyTo 3 (some .int) 2 7 := ⟨mw_X7_copyTo, ⟨RX7, TX7, 11, tyX7, mm_cl_7, rfl⟩, ml_X8_39, im_X7_copyTo, se_X7_copyTo⟩
theorem ev_X8_46 : mm_EV RX8 46 yX8_push cX8_push 2 none 1 8 := ⟨mw_X8_push, ⟨RX8, TX8, 7, tyX8, mm_cl_8, rfl⟩, ml_X8_46, im_X8_push, se_X8_push⟩
theorem ev_X8_52 : mm_EV RX8 52 yX8_pop cX8_pop 1 (some .int) 0 8 := ⟨mw_X8_pop, ⟨RX8, TX8, 7, tyX8, mm_cl_8, rfl⟩, ml_X8_52, im_X8_pop, se_X8_pop⟩
theorem es_X8_56 : mm_ES RX8 56 yX8_truth cX8_truth 1 (some .int) 1 := ⟨mw_X8_truth, ml_X8_56, sm_X8_truth⟩
theorem ev_X8_61 : mm_EV RX8 61 yX8_endClause cX8_endClause 3 none 2 8 := ⟨mw_X8_endClause, ⟨RX8, TX8, 7, tyX8, mm_cl_8, rfl⟩, ml_X8_61, im_X8_endClause, se_X8_endClause⟩
theorem es_X8_65 : mm_ES RX8 65 yX8_joined cX8_joined 3 (some .int) 3 := ⟨mw_X8_joined, ml_X8_65, sm_X8_joined⟩
theorem es_X8_69 : mm_ES RX8 69 yJ9_min_7cf53 cJ9_min_7cf53 2 (some .int) 2 := ⟨mw_J9_min_7cf53, ml_X8_69, sm_J9_min_7cf53⟩
theorem es_X8_75 : mm_ES RX8 75 yJ9_max_7cf53 cJ9_max_7cf53 2 (some .int) 2 := ⟨mw_J9_max_7cf53, ml_X8_75, sm_J9_max_7cf53⟩
theorem ev_X9_45 : mm_EV RX9 45 yX2_take cX2_take 2 none 1 2 := ⟨mw_X2_take, ⟨RX2, TX2, 9, tyX2, mm_cl_2, rfl⟩, ml_X9_45, im_X2_take, se_X2_take⟩
theorem ev_X9_51 : mm_EV RX9 51 yX2_isFree cX2_isFree 2 (some .boolean) 1 2 := ⟨mw_X2_isFree, ⟨RX2, TX2, 9, tyX2, mm_cl_2, rfl⟩, ml_X9_51, im_X2_isFree, se_X2_isFree⟩
theorem ev_X9_55 : mm_EV RX9 55 yX2_elements cX2_elements 2 (some .int) 1 2 := ⟨mw_X2_elements, ⟨RX2, TX2, 9, tyX2, mm_cl_2, rfl⟩, ml_X9_55, im_X2_elements, se_X2_elements⟩
theorem ev_X9_59 : mm_EV RX9 59 yX2_fillRow cX2_fillRow 7 (some .int) 3 2 := ⟨mw_X2_fillRow, ⟨RX2, TX2, 9, tyX2, mm_cl_2, rfl⟩, ml_X9_59, im_X2_fillRow, se_X2_fillRow⟩
theorem ev_X9_63 : mm_EV RX9 63 yX9_member cX9_member 3 (some .int) 2 9 := ⟨mw_X9_member, ⟨RX9, TX9, 10, tyX9, mm_cl_9, rfl⟩, ml_X9_63, im_X9_member, se_X9_member⟩
theorem ev_X9_67 : mm_EV RX9 67 yX9_runsFree cX9_runsFree 2 (some .boolean) 1 9 := ⟨mw_X9_runsFree, ⟨RX9, TX9, 10, tyX9, mm_cl_9, rfl⟩, ml_X9_67, im_X9_runsFree, se_X9_runsFree⟩
theorem ev_X9_70 : mm_EV RX9 70 yX2_forks cX2_forks 2 (some .int) 1 2 := ⟨mw_X2_forks, ⟨RX2, TX2, 9, tyX2, mm_cl_2, rfl⟩, ml_X9_70, im_X2_forks, se_X2_forks⟩
