section MMA
variable {x : mX} {d cs ss : Nat} {cc : ByteArray} {own : String} {nL : Nat} {ret : Option FieldType} {a b pc : Nat} {ls st : List mV} {h : mH}
theorem mm_t (u : Int) (hu : mm_i32 u) : (Int32.ofInt u).toInt = u := fb_ofI hu.1 hu.2
theorem mm_t64 (u : Int) (hu : mm_i64 u) : (Int64.ofInt u).toInt = u := by
  rw [Int64.toInt_ofInt]; exact fb_bmodL hu.1 hu.2
theorem mm_eqI {u v : Int} (hu : mm_i32 u) (hv : mm_i32 v) : Int32.ofInt u = Int32.ofInt v ↔ u = v := by
  rw [← Int32.toInt_inj, mm_t u hu, mm_t v hv]
theorem mm_ltI {u v : Int} (hu : mm_i32 u) (hv : mm_i32 v) : Int32.ofInt u < Int32.ofInt v ↔ u < v := by
  rw [Int32.lt_iff_toInt_lt, mm_t u hu, mm_t v hv]
theorem mm_leI {u v : Int} (hu : mm_i32 u) (hv : mm_i32 v) : Int32.ofInt u ≤ Int32.ofInt v ↔ u ≤ v := by
  rw [Int32.le_iff_toInt_le, mm_t u hu, mm_t v hv]
theorem mm_0 : mm_i32 0 := ⟨by decide, by decide⟩
theorem mm_z : (0 : Int32) = Int32.ofInt 0 := rfl
theorem mm_eqL {u v : Int} (hu : mm_i64 u) (hv : mm_i64 v) : Int64.ofInt u = Int64.ofInt v ↔ u = v := by
  rw [← Int64.toInt_inj, mm_t64 u hu, mm_t64 v hv]
theorem mm_ltL {u v : Int} (hu : mm_i64 u) (hv : mm_i64 v) : Int64.ofInt u < Int64.ofInt v ↔ u < v := by
  rw [Int64.lt_iff_toInt_lt, mm_t64 u hu, mm_t64 v hv]
theorem mm_divI {u v : Int} (hu : mm_i32 u) (hv : mm_i32 v) : Int32.ofInt u / Int32.ofInt v = Int32.ofInt (u.tdiv v) := by
  apply Int32.toInt_inj.mp
  rw [Int32.toInt_div, mm_t u hu, mm_t v hv, Int32.toInt_ofInt]
theorem mm_remI {u v : Int} (hu : mm_i32 u) (hv : mm_i32 v) : Int32.ofInt u - Int32.ofInt u / Int32.ofInt v * Int32.ofInt v = Int32.ofInt (u.tmod v) := by
  rw [mm_divI hu hv, ← Int32.ofInt_mul, ← Int32.ofInt_sub]
  congr 1
  have := Int.tdiv_mul_add_tmod u v
  omega
theorem mm_tmod_rg {u v : Int} (hu : mm_i32 u) : mm_i32 (u.tmod v) := by
  have h1 := Int.natAbs_tmod u v
  have h2 := Nat.mod_le u.natAbs v.natAbs
  have h3 : u.natAbs ≤ 2147483648 := by
    have := hu.1; have := hu.2; omega
  by_cases hn : 0 ≤ u
  · have h4 : 0 ≤ u.tmod v := Int.tmod_nonneg v hn
    have h5 : u.natAbs < 2147483648 := by have := hu.2; omega
    exact ⟨by omega, by omega⟩
  · have h4 : (u.tmod v) ≤ 0 := by
      have h6 : 0 ≤ (-u).tmod v := Int.tmod_nonneg v (by omega)
      rw [Int.neg_tmod] at h6
      omega
    exact ⟨by omega, by omega⟩
theorem mm_idivw {u v : Int} (C : mm_OK d cs ss cc own nL ret x) (hd : decode cc pc = .ok (.idiv, 1)) (hne : v ≠ 0) (kk : mm_W x a b (pc + 1) ls (mI (mm_w (u.tdiv v)) :: st) h) : mm_W x a b pc ls (mI v :: mI u :: st) h := by
  obtain ⟨p, l, e, R, s, m, args, below, meth, c, G, ad0, A, n0, Q⟩ := x
  intro ad H locs jl h3 h4 h5 h6
  have hv := mm_ok_hd h6
  have hu := mm_ok_hd (mm_ok_tl h6)
  refine lv_idiv C.1 C.2.1 hd (fun q => hne ((mm_eqI hv mm_0).mp q)) ?_
  rw [mm_divI hu hv, ← mm_w_of]
  exact kk ad H locs jl h3 h4 h5 (mm_ok_cons (mm_w_rg _) (mm_ok_tl (mm_ok_tl h6)))
theorem mm_idiv {u v : Int} (C : mm_OK d cs ss cc own nL ret x) (hd : decode cc pc = .ok (.idiv, 1)) (hu : 0 ≤ u ∧ u < 2147483648) (hv : 0 < v) (kk : mm_W x a b (pc + 1) ls (mI (u / v) :: st) h) : mm_W x a b pc ls (mI v :: mI u :: st) h := by
  refine mm_idivw C hd (by omega) ?_
  rw [Int.tdiv_eq_ediv_of_nonneg hu.1]
  have h1 : 0 ≤ u / v := Int.ediv_nonneg hu.1 (by omega)
  have h2 : u / v ≤ u := Int.ediv_le_self _ hu.1
  rw [mm_w_id ⟨by omega, by omega⟩]
  exact kk
theorem mm_iremw {u v : Int} (C : mm_OK d cs ss cc own nL ret x) (hd : decode cc pc = .ok (.irem, 1)) (hne : v ≠ 0) (kk : mm_W x a b (pc + 1) ls (mI (u.tmod v) :: st) h) : mm_W x a b pc ls (mI v :: mI u :: st) h := by
  obtain ⟨p, l, e, R, s, m, args, below, meth, c, G, ad0, A, n0, Q⟩ := x
  intro ad H locs jl h3 h4 h5 h6
  have hv := mm_ok_hd h6
  have hu := mm_ok_hd (mm_ok_tl h6)
  refine lv_irem C.1 C.2.1 hd (fun q => hne ((mm_eqI hv mm_0).mp q)) ?_
  rw [mm_remI hu hv]
  exact kk ad H locs jl h3 h4 h5 (mm_ok_cons (mm_tmod_rg hu) (mm_ok_tl (mm_ok_tl h6)))
theorem mm_irem {u v : Int} (C : mm_OK d cs ss cc own nL ret x) (hd : decode cc pc = .ok (.irem, 1)) (hu : 0 ≤ u) (hv : 0 < v) (kk : mm_W x a b (pc + 1) ls (mI (u % v) :: st) h) : mm_W x a b pc ls (mI v :: mI u :: st) h := by
  refine mm_iremw C hd (by omega) ?_
  rw [Int.tmod_eq_emod_of_nonneg hu]
  exact kk
def mm_viand (u v : Int) : Int := (Int32.ofInt u &&& Int32.ofInt v).toInt
theorem mm_iand {u v : Int} (C : mm_OK d cs ss cc own nL ret x) (hd : decode cc pc = .ok (.iand, 1)) (kk : mm_W x a b (pc + 1) ls (mI (mm_viand u v) :: st) h) : mm_W x a b pc ls (mI v :: mI u :: st) h := by
  obtain ⟨p, l, e, R, s, m, args, below, meth, c, G, ad0, A, n0, Q⟩ := x
  intro ad H locs jl h3 h4 h5 h6
  have k := kk ad H locs jl h3 h4 h5 (mm_ok_cons (fb_rng _) (mm_ok_tl (mm_ok_tl h6)))
  rw [List.map_cons, show mm_j ad (mI (mm_viand u v)) = .int ((Int32.ofInt u &&& Int32.ofInt v)) from by show Value.int (Int32.ofInt (mm_viand u v)) = _; rw [mm_viand, Int32.ofInt_toInt]] at k
  exact lv_iand C.1 C.2.1 hd k
def mm_vior (u v : Int) : Int := (Int32.ofInt u ||| Int32.ofInt v).toInt
theorem mm_ior {u v : Int} (C : mm_OK d cs ss cc own nL ret x) (hd : decode cc pc = .ok (.ior, 1)) (kk : mm_W x a b (pc + 1) ls (mI (mm_vior u v) :: st) h) : mm_W x a b pc ls (mI v :: mI u :: st) h := by
  obtain ⟨p, l, e, R, s, m, args, below, meth, c, G, ad0, A, n0, Q⟩ := x
  intro ad H locs jl h3 h4 h5 h6
  have k := kk ad H locs jl h3 h4 h5 (mm_ok_cons (fb_rng _) (mm_ok_tl (mm_ok_tl h6)))
  rw [List.map_cons, show mm_j ad (mI (mm_vior u v)) = .int ((Int32.ofInt u ||| Int32.ofInt v)) from by show Value.int (Int32.ofInt (mm_vior u v)) = _; rw [mm_vior, Int32.ofInt_toInt]] at k
  exact lv_ior C.1 C.2.1 hd k
def mm_vixor (u v : Int) : Int := (Int32.ofInt u ^^^ Int32.ofInt v).toInt
theorem mm_ixor {u v : Int} (C : mm_OK d cs ss cc own nL ret x) (hd : decode cc pc = .ok (.ixor, 1)) (kk : mm_W x a b (pc + 1) ls (mI (mm_vixor u v) :: st) h) : mm_W x a b pc ls (mI v :: mI u :: st) h := by
  obtain ⟨p, l, e, R, s, m, args, below, meth, c, G, ad0, A, n0, Q⟩ := x
  intro ad H locs jl h3 h4 h5 h6
  have k := kk ad H locs jl h3 h4 h5 (mm_ok_cons (fb_rng _) (mm_ok_tl (mm_ok_tl h6)))
  rw [List.map_cons, show mm_j ad (mI (mm_vixor u v)) = .int ((Int32.ofInt u ^^^ Int32.ofInt v)) from by show Value.int (Int32.ofInt (mm_vixor u v)) = _; rw [mm_vixor, Int32.ofInt_toInt]] at k
  exact lv_ixor C.1 C.2.1 hd k
def mm_vishl (u v : Int) : Int := (Int32.ofInt u <<< (Int32.ofInt v &&& 31)).toInt
theorem mm_ishl {u v : Int} (C : mm_OK d cs ss cc own nL ret x) (hd : decode cc pc = .ok (.ishl, 1)) (kk : mm_W x a b (pc + 1) ls (mI (mm_vishl u v) :: st) h) : mm_W x a b pc ls (mI v :: mI u :: st) h := by
  obtain ⟨p, l, e, R, s, m, args, below, meth, c, G, ad0, A, n0, Q⟩ := x
  intro ad H locs jl h3 h4 h5 h6
  have k := kk ad H locs jl h3 h4 h5 (mm_ok_cons (fb_rng _) (mm_ok_tl (mm_ok_tl h6)))
  rw [List.map_cons, show mm_j ad (mI (mm_vishl u v)) = .int ((Int32.ofInt u <<< (Int32.ofInt v &&& 31))) from by show Value.int (Int32.ofInt (mm_vishl u v)) = _; rw [mm_vishl, Int32.ofInt_toInt]] at k
  exact lv_ishl C.1 C.2.1 hd k
def mm_vishr (u v : Int) : Int := (Int32.ofInt u >>> (Int32.ofInt v &&& 31)).toInt
theorem mm_ishr {u v : Int} (C : mm_OK d cs ss cc own nL ret x) (hd : decode cc pc = .ok (.ishr, 1)) (kk : mm_W x a b (pc + 1) ls (mI (mm_vishr u v) :: st) h) : mm_W x a b pc ls (mI v :: mI u :: st) h := by
  obtain ⟨p, l, e, R, s, m, args, below, meth, c, G, ad0, A, n0, Q⟩ := x
  intro ad H locs jl h3 h4 h5 h6
  have k := kk ad H locs jl h3 h4 h5 (mm_ok_cons (fb_rng _) (mm_ok_tl (mm_ok_tl h6)))
  rw [List.map_cons, show mm_j ad (mI (mm_vishr u v)) = .int ((Int32.ofInt u >>> (Int32.ofInt v &&& 31))) from by show Value.int (Int32.ofInt (mm_vishr u v)) = _; rw [mm_vishr, Int32.ofInt_toInt]] at k
  exact lv_ishr C.1 C.2.1 hd k
def mm_viushr (u v : Int) : Int := ((Int32.ofInt u).toUInt32 >>> ((Int32.ofInt v).toUInt32 &&& Int32.toUInt32 31)).toInt32.toInt
theorem mm_iushr {u v : Int} (C : mm_OK d cs ss cc own nL ret x) (hd : decode cc pc = .ok (.iushr, 1)) (kk : mm_W x a b (pc + 1) ls (mI (mm_viushr u v) :: st) h) : mm_W x a b pc ls (mI v :: mI u :: st) h := by
  obtain ⟨p, l, e, R, s, m, args, below, meth, c, G, ad0, A, n0, Q⟩ := x
  intro ad H locs jl h3 h4 h5 h6
  have k := kk ad H locs jl h3 h4 h5 (mm_ok_cons (fb_rng _) (mm_ok_tl (mm_ok_tl h6)))
  rw [List.map_cons, show mm_j ad (mI (mm_viushr u v)) = .int (((Int32.ofInt u).toUInt32 >>> ((Int32.ofInt v).toUInt32 &&& Int32.toUInt32 31)).toInt32) from by show Value.int (Int32.ofInt (mm_viushr u v)) = _; rw [mm_viushr, Int32.ofInt_toInt]] at k
  exact lv_iushr C.1 C.2.1 hd rfl k
def mm_vladd (u v : Int) : Int := (Int64.ofInt u + Int64.ofInt v).toInt
theorem mm_ladd {u v : Int} (C : mm_OK d cs ss cc own nL ret x) (hd : decode cc pc = .ok (.ladd, 1)) (kk : mm_W x a b (pc + 1) ls (mL (mm_vladd u v) :: st) h) : mm_W x a b pc ls (mL v :: mL u :: st) h := by
  obtain ⟨p, l, e, R, s, m, args, below, meth, c, G, ad0, A, n0, Q⟩ := x
  intro ad H locs jl h3 h4 h5 h6
  have k := kk ad H locs jl h3 h4 h5 (mm_ok_cons (fb_rngL _) (mm_ok_tl (mm_ok_tl h6)))
  rw [List.map_cons, show mm_j ad (mL (mm_vladd u v)) = .long ((Int64.ofInt u + Int64.ofInt v)) from by show Value.long (Int64.ofInt (mm_vladd u v)) = _; rw [mm_vladd, Int64.ofInt_toInt]] at k
  exact lv_ladd C.1 C.2.1 hd k
def mm_vlsub (u v : Int) : Int := (Int64.ofInt u - Int64.ofInt v).toInt
theorem mm_lsub {u v : Int} (C : mm_OK d cs ss cc own nL ret x) (hd : decode cc pc = .ok (.lsub, 1)) (kk : mm_W x a b (pc + 1) ls (mL (mm_vlsub u v) :: st) h) : mm_W x a b pc ls (mL v :: mL u :: st) h := by
  obtain ⟨p, l, e, R, s, m, args, below, meth, c, G, ad0, A, n0, Q⟩ := x
  intro ad H locs jl h3 h4 h5 h6
  have k := kk ad H locs jl h3 h4 h5 (mm_ok_cons (fb_rngL _) (mm_ok_tl (mm_ok_tl h6)))
  rw [List.map_cons, show mm_j ad (mL (mm_vlsub u v)) = .long ((Int64.ofInt u - Int64.ofInt v)) from by show Value.long (Int64.ofInt (mm_vlsub u v)) = _; rw [mm_vlsub, Int64.ofInt_toInt]] at k
  exact lv_lsub C.1 C.2.1 hd k
def mm_vlmul (u v : Int) : Int := (Int64.ofInt u * Int64.ofInt v).toInt
theorem mm_lmul {u v : Int} (C : mm_OK d cs ss cc own nL ret x) (hd : decode cc pc = .ok (.lmul, 1)) (kk : mm_W x a b (pc + 1) ls (mL (mm_vlmul u v) :: st) h) : mm_W x a b pc ls (mL v :: mL u :: st) h := by
  obtain ⟨p, l, e, R, s, m, args, below, meth, c, G, ad0, A, n0, Q⟩ := x
  intro ad H locs jl h3 h4 h5 h6
  have k := kk ad H locs jl h3 h4 h5 (mm_ok_cons (fb_rngL _) (mm_ok_tl (mm_ok_tl h6)))
  rw [List.map_cons, show mm_j ad (mL (mm_vlmul u v)) = .long ((Int64.ofInt u * Int64.ofInt v)) from by show Value.long (Int64.ofInt (mm_vlmul u v)) = _; rw [mm_vlmul, Int64.ofInt_toInt]] at k
  exact lv_lmul C.1 C.2.1 hd k
def mm_vlor (u v : Int) : Int := (Int64.ofInt u ||| Int64.ofInt v).toInt
theorem mm_lor {u v : Int} (C : mm_OK d cs ss cc own nL ret x) (hd : decode cc pc = .ok (.lor, 1)) (kk : mm_W x a b (pc + 1) ls (mL (mm_vlor u v) :: st) h) : mm_W x a b pc ls (mL v :: mL u :: st) h := by
  obtain ⟨p, l, e, R, s, m, args, below, meth, c, G, ad0, A, n0, Q⟩ := x
  intro ad H locs jl h3 h4 h5 h6
  have k := kk ad H locs jl h3 h4 h5 (mm_ok_cons (fb_rngL _) (mm_ok_tl (mm_ok_tl h6)))
  rw [List.map_cons, show mm_j ad (mL (mm_vlor u v)) = .long ((Int64.ofInt u ||| Int64.ofInt v)) from by show Value.long (Int64.ofInt (mm_vlor u v)) = _; rw [mm_vlor, Int64.ofInt_toInt]] at k
  exact lv_lor C.1 C.2.1 hd k
def mm_vland (u v : Int) : Int := (Int64.ofInt u &&& Int64.ofInt v).toInt
theorem mm_land {u v : Int} (C : mm_OK d cs ss cc own nL ret x) (hd : decode cc pc = .ok (.land, 1)) (kk : mm_W x a b (pc + 1) ls (mL (mm_vland u v) :: st) h) : mm_W x a b pc ls (mL v :: mL u :: st) h := by
  obtain ⟨p, l, e, R, s, m, args, below, meth, c, G, ad0, A, n0, Q⟩ := x
  intro ad H locs jl h3 h4 h5 h6
  have k := kk ad H locs jl h3 h4 h5 (mm_ok_cons (fb_rngL _) (mm_ok_tl (mm_ok_tl h6)))
  rw [List.map_cons, show mm_j ad (mL (mm_vland u v)) = .long ((Int64.ofInt u &&& Int64.ofInt v)) from by show Value.long (Int64.ofInt (mm_vland u v)) = _; rw [mm_vland, Int64.ofInt_toInt]] at k
  exact lv_land C.1 C.2.1 hd k
def mm_vlrem (u v : Int) : Int := (Int64.ofInt u - Int64.ofInt u / Int64.ofInt v * Int64.ofInt v).toInt
theorem mm_lrem {u v : Int} (C : mm_OK d cs ss cc own nL ret x) (hd : decode cc pc = .ok (.lrem, 1)) (hne : v ≠ 0) (kk : mm_W x a b (pc + 1) ls (mL (mm_vlrem u v) :: st) h) : mm_W x a b pc ls (mL v :: mL u :: st) h := by
  obtain ⟨p, l, e, R, s, m, args, below, meth, c, G, ad0, A, n0, Q⟩ := x
  intro ad H locs jl h3 h4 h5 h6
  have hv := mm_ok_hd h6
  have k := kk ad H locs jl h3 h4 h5 (mm_ok_cons (fb_rngL _) (mm_ok_tl (mm_ok_tl h6)))
  rw [List.map_cons, show mm_j ad (mL (mm_vlrem u v)) = .long (Int64.ofInt u - Int64.ofInt u / Int64.ofInt v * Int64.ofInt v) from by show Value.long (Int64.ofInt (mm_vlrem u v)) = _; rw [mm_vlrem, Int64.ofInt_toInt]] at k
  exact lv_lrem C.1 C.2.1 hd (fun q => hne ((mm_eqL hv (show mm_i64 0 from ⟨by decide, by decide⟩)).mp q)) k
def mm_vlshl (u v : Int) : Int := (Int64.ofInt u <<< ((Int32.ofInt v).toInt64 &&& 63)).toInt
theorem mm_lshl {u v : Int} (C : mm_OK d cs ss cc own nL ret x) (hd : decode cc pc = .ok (.lshl, 1)) (kk : mm_W x a b (pc + 1) ls (mL (mm_vlshl u v) :: st) h) : mm_W x a b pc ls (mI v :: mL u :: st) h := by
  obtain ⟨p, l, e, R, s, m, args, below, meth, c, G, ad0, A, n0, Q⟩ := x
  intro ad H locs jl h3 h4 h5 h6
  have k := kk ad H locs jl h3 h4 h5 (mm_ok_cons (fb_rngL _) (mm_ok_tl (mm_ok_tl h6)))
  rw [List.map_cons, show mm_j ad (mL (mm_vlshl u v)) = .long ((Int64.ofInt u <<< ((Int32.ofInt v).toInt64 &&& 63))) from by show Value.long (Int64.ofInt (mm_vlshl u v)) = _; rw [mm_vlshl, Int64.ofInt_toInt]] at k
  exact lv_lshl C.1 C.2.1 hd rfl k
def mm_vlushr (u v : Int) : Int := ((Int64.ofInt u).toUInt64 >>> ((Int32.ofInt v).toInt64.toUInt64 &&& Int64.toUInt64 63)).toInt64.toInt
theorem mm_lushr {u v : Int} (C : mm_OK d cs ss cc own nL ret x) (hd : decode cc pc = .ok (.lushr, 1)) (kk : mm_W x a b (pc + 1) ls (mL (mm_vlushr u v) :: st) h) : mm_W x a b pc ls (mI v :: mL u :: st) h := by
  obtain ⟨p, l, e, R, s, m, args, below, meth, c, G, ad0, A, n0, Q⟩ := x
  intro ad H locs jl h3 h4 h5 h6
  have k := kk ad H locs jl h3 h4 h5 (mm_ok_cons (fb_rngL _) (mm_ok_tl (mm_ok_tl h6)))
  rw [List.map_cons, show mm_j ad (mL (mm_vlushr u v)) = .long (((Int64.ofInt u).toUInt64 >>> ((Int32.ofInt v).toInt64.toUInt64 &&& Int64.toUInt64 63)).toInt64) from by show Value.long (Int64.ofInt (mm_vlushr u v)) = _; rw [mm_vlushr, Int64.ofInt_toInt]] at k
  exact lv_lushr C.1 C.2.1 hd rfl k
theorem mm_i2l {u : Int} (C : mm_OK d cs ss cc own nL ret x) (hd : decode cc pc = .ok (.i2l, 1)) (kk : mm_W x a b (pc + 1) ls (mL u :: st) h) : mm_W x a b pc ls (mI u :: st) h := by
  obtain ⟨p, l, e, R, s, m, args, below, meth, c, G, ad0, A, n0, Q⟩ := x
  intro ad H locs jl h3 h4 h5 h6
  have hu := mm_ok_hd h6
  have hu1 : -2147483648 ≤ u := hu.1
  have hu2 : u < 2147483648 := hu.2
  refine lv_i2l C.1 C.2.1 hd (v := Int64.ofInt u) ?_ (kk ad H locs jl h3 h4 h5 (mm_ok_cons (show mm_i64 u from ⟨by omega, by omega⟩) (mm_ok_tl h6)))
  rw [← Int64.ofInt_int32ToInt, mm_t u hu]
def mm_vl2i (u : Int) : Int := (Int64.ofInt u).toInt32.toInt
theorem mm_l2i {u : Int} (C : mm_OK d cs ss cc own nL ret x) (hd : decode cc pc = .ok (.l2i, 1)) (kk : mm_W x a b (pc + 1) ls (mI (mm_vl2i u) :: st) h) : mm_W x a b pc ls (mL u :: st) h := by
  obtain ⟨p, l, e, R, s, m, args, below, meth, c, G, ad0, A, n0, Q⟩ := x
  intro ad H locs jl h3 h4 h5 h6
  have k := kk ad H locs jl h3 h4 h5 (mm_ok_cons (fb_rng _) (mm_ok_tl h6))
  rw [List.map_cons, show mm_j ad (mI (mm_vl2i u)) = .int (Int64.ofInt u).toInt32 from by show Value.int (Int32.ofInt (mm_vl2i u)) = _; rw [mm_vl2i, Int32.ofInt_toInt]] at k
  exact lv_l2i C.1 C.2.1 hd rfl k
theorem mm_ldc2 {index : Nat} {z : Int} {v : Int64} (C : mm_OK d cs ss cc own nL ret x) (hd : decode cc pc = .ok (.ldc2_w index, 3)) (hw : Cond.constantLong own index v ∈ mm_T) (hz : v.toInt = z) (kk : mm_W x a b (pc + 3) ls (mL z :: st) h) : mm_W x a b pc ls st h := by
  obtain ⟨p, l, e, R, s, m, args, below, meth, c, G, ad0, A, n0, Q⟩ := x
  intro ad H locs jl h3 h4 h5 h6
  subst hz
  have k := kk ad H locs jl h3 h4 h5 (mm_ok_cons (fb_rngL v) h6)
  rw [List.map_cons, show mm_j ad (mL v.toInt) = .long v from by show Value.long (Int64.ofInt v.toInt) = _; rw [Int64.ofInt_toInt]] at k
  exact lv_ldc2 C.1 C.2.1 C.2.2.2.1 (C.2.2.2.2.1 _ hw) hd k
theorem mm_lcmp {u v : Int} (C : mm_OK d cs ss cc own nL ret x) (hd : decode cc pc = .ok (.lcmp, 1)) (kg : v < u → mm_W x a b (pc + 1) ls (mI 1 :: st) h) (ke : u = v → mm_W x a b (pc + 1) ls (mI 0 :: st) h) (kl : u < v → mm_W x a b (pc + 1) ls (mI (-1) :: st) h) : mm_W x a b pc ls (mL v :: mL u :: st) h := by
  obtain ⟨p, l, e, R, s, m, args, below, meth, c, G, ad0, A, n0, Q⟩ := x
  intro ad H locs jl h3 h4 h5 h6
  have hv := mm_ok_hd h6
  have hu := mm_ok_hd (mm_ok_tl h6)
  have h7 := mm_ok_tl (mm_ok_tl h6)
  refine W.lcmp C.1 C.2.1 hd ?_
  have e0 : ∀ q : Int32, lg_cmp (Int64.ofInt u) (Int64.ofInt v) = q → W p l e R s m args below meth c H locs a b Q (F0 m (pc + 1) jl (.int q :: st.map (mm_j ad))) → W p l e R s m args below meth c H locs a b Q (F0 m (pc + 1) jl (.int (lg_cmp (Int64.ofInt u) (Int64.ofInt v)) :: st.map (mm_j ad))) := fun q e k => by rw [e]; exact k
  by_cases h8 : v < u
  · refine e0 1 (by simp [lg_cmp, (mm_ltL hv hu).mpr h8]) (kg h8 ad H locs jl h3 h4 h5 (mm_ok_cons (show mm_i32 1 from ⟨by decide, by decide⟩) h7))
  · by_cases h9 : u = v
    · refine e0 0 (by subst h9; simp [lg_cmp]) (ke h9 ad H locs jl h3 h4 h5 (mm_ok_cons mm_0 h7))
    · refine e0 (-1) ?_ (kl (by omega) ad H locs jl h3 h4 h5 (mm_ok_cons (show mm_i32 (-1) from ⟨by decide, by decide⟩) h7))
      have k1 : ¬ Int64.ofInt v < Int64.ofInt u := fun q => h8 ((mm_ltL hv hu).mp q)
      have k2 : ¬ Int64.ofInt u = Int64.ofInt v := fun q => h9 ((mm_eqL hu hv).mp q)
      simp [lg_cmp, k1, k2]
theorem mm_cat1 {ad : Nat → Nat} {v : mV} (hv : v.1 ≠ 1) : (mm_j ad v).category = 1 := by
  rcases lv_cat (mm_j ad v) with q | q
  · exact q
  · exact absurd ((mm_j_cat ad v).mp q) hv
theorem mm_dup {v : mV} (C : mm_OK d cs ss cc own nL ret x) (hd : decode cc pc = .ok (.dup, 1)) (hv : v.1 ≠ 1) (kk : mm_W x a b (pc + 1) ls (v :: v :: st) h) : mm_W x a b pc ls (v :: st) h := by
  obtain ⟨p, l, e, R, s, m, args, below, meth, c, G, ad0, A, n0, Q⟩ := x
  intro ad H locs jl h3 h4 h5 h6
  exact lv_dup C.1 C.2.1 hd (mm_cat1 hv) (kk ad H locs jl h3 h4 h5 (mm_ok_cons (mm_ok_hd h6) h6))
theorem mm_dup2 {v w : mV} (C : mm_OK d cs ss cc own nL ret x) (hd : decode cc pc = .ok (.dup2, 1)) (hv : v.1 ≠ 1) (hw : w.1 ≠ 1) (kk : mm_W x a b (pc + 1) ls (v :: w :: v :: w :: st) h) : mm_W x a b pc ls (v :: w :: st) h := by
  obtain ⟨p, l, e, R, s, m, args, below, meth, c, G, ad0, A, n0, Q⟩ := x
  intro ad H locs jl h3 h4 h5 h6
  exact lv_dup2_11 C.1 C.2.1 hd (mm_cat1 hv) (mm_cat1 hw) (kk ad H locs jl h3 h4 h5 (mm_ok_cons (mm_ok_hd h6) (mm_ok_cons (mm_ok_hd (mm_ok_tl h6)) h6)))
theorem mm_pop {v : mV} (C : mm_OK d cs ss cc own nL ret x) (hd : decode cc pc = .ok (.pop, 1)) (hv : v.1 ≠ 1) (kk : mm_W x a b (pc + 1) ls st h) : mm_W x a b pc ls (v :: st) h := by
  obtain ⟨p, l, e, R, s, m, args, below, meth, c, G, ad0, A, n0, Q⟩ := x
  intro ad H locs jl h3 h4 h5 h6
  exact lv_pop C.1 C.2.1 hd (mm_cat1 hv) (kk ad H locs jl h3 h4 h5 (mm_ok_tl h6))
theorem mm_null (C : mm_OK d cs ss cc own nL ret x) (hd : decode cc pc = .ok (.aconst_null, 1)) (kk : mm_W x a b (pc + 1) ls (mN :: st) h) : mm_W x a b pc ls st h := by
  obtain ⟨p, l, e, R, s, m, args, below, meth, c, G, ad0, A, n0, Q⟩ := x
  intro ad H locs jl h3 h4 h5 h6
  exact lv_null C.1 C.2.1 hd (kk ad H locs jl h3 h4 h5 (mm_ok_cons trivial h6))
theorem mm_ifnonnull {o : Nat} {off : Int} {tgt : Nat} (C : mm_OK d cs ss cc own nL ret x) (hd : decode cc pc = .ok (.ifnonnull off, 3)) (ht : (pc : Int) + off = (tgt : Int)) (kk : mm_W x a b tgt ls st h) : mm_W x a b pc ls (mR o :: st) h := by
  obtain ⟨p, l, e, R, s, m, args, below, meth, c, G, ad0, A, n0, Q⟩ := x
  intro ad H locs jl h3 h4 h5 h6
  exact lv_ifnonnull C.1 C.2.1 hd ht (kk ad H locs jl h3 h4 h5 (mm_ok_tl h6))
theorem mm_ifnonnullN {off : Int} (C : mm_OK d cs ss cc own nL ret x) (hd : decode cc pc = .ok (.ifnonnull off, 3)) (kk : mm_W x a b (pc + 3) ls st h) : mm_W x a b pc ls (mN :: st) h := by
  obtain ⟨p, l, e, R, s, m, args, below, meth, c, G, ad0, A, n0, Q⟩ := x
  intro ad H locs jl h3 h4 h5 h6
  exact lv_ifnonnullN C.1 C.2.1 hd (kk ad H locs jl h3 h4 h5 (mm_ok_tl h6))
theorem mm_goto {off : Int} {tgt : Nat} (C : mm_OK d cs ss cc own nL ret x) (hd : decode cc pc = .ok (.goto off, 3)) (ht : (pc : Int) + off = (tgt : Int)) (kk : mm_W x a b tgt ls st h) : mm_W x a b pc ls st h := by
  obtain ⟨p, l, e, R, s, m, args, below, meth, c, G, ad0, A, n0, Q⟩ := x
  intro ad H locs jl h3 h4 h5 h6
  exact lv_goto C.1 C.2.1 hd ht (kk ad H locs jl h3 h4 h5 h6)
theorem mm_icmp_eq {u v : Int} {off : Int} {tgt : Nat} (C : mm_OK d cs ss cc own nL ret x) (hd : decode cc pc = .ok (.if_icmp .eq off, 3)) (ht : (pc : Int) + off = (tgt : Int)) (kt : u = v → mm_W x a b tgt ls st h) (kf : u ≠ v → mm_W x a b (pc + 3) ls st h) : mm_W x a b pc ls (mI v :: mI u :: st) h := by
  obtain ⟨p, l, e, R, s, m, args, below, meth, c, G, ad0, A, n0, Q⟩ := x
  intro ad H locs jl h3 h4 h5 h6
  have hv := mm_ok_hd h6
  have hu := mm_ok_hd (mm_ok_tl h6)
  have h7 := mm_ok_tl (mm_ok_tl h6)
  exact lv_icmp_eq C.1 C.2.1 hd ht (fun q => kt ((mm_eqI hu hv).mp q) ad H locs jl h3 h4 h5 h7) (fun q => kf (fun z => q ((mm_eqI hu hv).mpr z)) ad H locs jl h3 h4 h5 h7)
theorem mm_icmp_ne {u v : Int} {off : Int} {tgt : Nat} (C : mm_OK d cs ss cc own nL ret x) (hd : decode cc pc = .ok (.if_icmp .ne off, 3)) (ht : (pc : Int) + off = (tgt : Int)) (kt : u ≠ v → mm_W x a b tgt ls st h) (kf : u = v → mm_W x a b (pc + 3) ls st h) : mm_W x a b pc ls (mI v :: mI u :: st) h := by
  obtain ⟨p, l, e, R, s, m, args, below, meth, c, G, ad0, A, n0, Q⟩ := x
  intro ad H locs jl h3 h4 h5 h6
  have hv := mm_ok_hd h6
  have hu := mm_ok_hd (mm_ok_tl h6)
  have h7 := mm_ok_tl (mm_ok_tl h6)
  exact lv_icmp_ne C.1 C.2.1 hd ht (fun q => kt (fun z => q ((mm_eqI hu hv).mpr z)) ad H locs jl h3 h4 h5 h7) (fun q => kf ((mm_eqI hu hv).mp q) ad H locs jl h3 h4 h5 h7)
theorem mm_icmp_lt {u v : Int} {off : Int} {tgt : Nat} (C : mm_OK d cs ss cc own nL ret x) (hd : decode cc pc = .ok (.if_icmp .lt off, 3)) (ht : (pc : Int) + off = (tgt : Int)) (kt : u < v → mm_W x a b tgt ls st h) (kf : v ≤ u → mm_W x a b (pc + 3) ls st h) : mm_W x a b pc ls (mI v :: mI u :: st) h := by
  obtain ⟨p, l, e, R, s, m, args, below, meth, c, G, ad0, A, n0, Q⟩ := x
  intro ad H locs jl h3 h4 h5 h6
  have hv := mm_ok_hd h6
  have hu := mm_ok_hd (mm_ok_tl h6)
  have h7 := mm_ok_tl (mm_ok_tl h6)
  exact lv_icmp_lt C.1 C.2.1 hd ht (fun q => kt ((mm_ltI hu hv).mp q) ad H locs jl h3 h4 h5 h7) (fun q => kf (Int.not_lt.mp fun z => q ((mm_ltI hu hv).mpr z)) ad H locs jl h3 h4 h5 h7)
theorem mm_icmp_ge {u v : Int} {off : Int} {tgt : Nat} (C : mm_OK d cs ss cc own nL ret x) (hd : decode cc pc = .ok (.if_icmp .ge off, 3)) (ht : (pc : Int) + off = (tgt : Int)) (kt : v ≤ u → mm_W x a b tgt ls st h) (kf : u < v → mm_W x a b (pc + 3) ls st h) : mm_W x a b pc ls (mI v :: mI u :: st) h := by
  obtain ⟨p, l, e, R, s, m, args, below, meth, c, G, ad0, A, n0, Q⟩ := x
  intro ad H locs jl h3 h4 h5 h6
  have hv := mm_ok_hd h6
  have hu := mm_ok_hd (mm_ok_tl h6)
  have h7 := mm_ok_tl (mm_ok_tl h6)
  exact lv_icmp_ge C.1 C.2.1 hd ht (fun q => kt ((mm_leI hv hu).mp q) ad H locs jl h3 h4 h5 h7) (fun q => kf (Int.not_le.mp fun z => q ((mm_leI hv hu).mpr z)) ad H locs jl h3 h4 h5 h7)
theorem mm_icmp_gt {u v : Int} {off : Int} {tgt : Nat} (C : mm_OK d cs ss cc own nL ret x) (hd : decode cc pc = .ok (.if_icmp .gt off, 3)) (ht : (pc : Int) + off = (tgt : Int)) (kt : v < u → mm_W x a b tgt ls st h) (kf : u ≤ v → mm_W x a b (pc + 3) ls st h) : mm_W x a b pc ls (mI v :: mI u :: st) h := by
  obtain ⟨p, l, e, R, s, m, args, below, meth, c, G, ad0, A, n0, Q⟩ := x
  intro ad H locs jl h3 h4 h5 h6
  have hv := mm_ok_hd h6
  have hu := mm_ok_hd (mm_ok_tl h6)
  have h7 := mm_ok_tl (mm_ok_tl h6)
  exact lv_icmp_gt C.1 C.2.1 hd ht (fun q => kt ((mm_ltI hv hu).mp q) ad H locs jl h3 h4 h5 h7) (fun q => kf (Int.not_lt.mp fun z => q ((mm_ltI hv hu).mpr z)) ad H locs jl h3 h4 h5 h7)
theorem mm_icmp_le {u v : Int} {off : Int} {tgt : Nat} (C : mm_OK d cs ss cc own nL ret x) (hd : decode cc pc = .ok (.if_icmp .le off, 3)) (ht : (pc : Int) + off = (tgt : Int)) (kt : u ≤ v → mm_W x a b tgt ls st h) (kf : v < u → mm_W x a b (pc + 3) ls st h) : mm_W x a b pc ls (mI v :: mI u :: st) h := by
  obtain ⟨p, l, e, R, s, m, args, below, meth, c, G, ad0, A, n0, Q⟩ := x
  intro ad H locs jl h3 h4 h5 h6
  have hv := mm_ok_hd h6
  have hu := mm_ok_hd (mm_ok_tl h6)
  have h7 := mm_ok_tl (mm_ok_tl h6)
  exact lv_icmp_le C.1 C.2.1 hd ht (fun q => kt ((mm_leI hu hv).mp q) ad H locs jl h3 h4 h5 h7) (fun q => kf (Int.not_le.mp fun z => q ((mm_leI hu hv).mpr z)) ad H locs jl h3 h4 h5 h7)
theorem mm_if_eq {u : Int} {off : Int} {tgt : Nat} (C : mm_OK d cs ss cc own nL ret x) (hd : decode cc pc = .ok (.ifCond .eq off, 3)) (ht : (pc : Int) + off = (tgt : Int)) (kt : u = 0 → mm_W x a b tgt ls st h) (kf : u ≠ 0 → mm_W x a b (pc + 3) ls st h) : mm_W x a b pc ls (mI u :: st) h := by
  obtain ⟨p, l, e, R, s, m, args, below, meth, c, G, ad0, A, n0, Q⟩ := x
  intro ad H locs jl h3 h4 h5 h6
  have hu := mm_ok_hd h6
  have h7 := mm_ok_tl h6
  exact lv_if_eq C.1 C.2.1 hd ht (fun q => kt ((mm_eqI hu mm_0).mp q) ad H locs jl h3 h4 h5 h7) (fun q => kf (fun z => q ((mm_eqI hu mm_0).mpr z)) ad H locs jl h3 h4 h5 h7)
theorem mm_if_ne {u : Int} {off : Int} {tgt : Nat} (C : mm_OK d cs ss cc own nL ret x) (hd : decode cc pc = .ok (.ifCond .ne off, 3)) (ht : (pc : Int) + off = (tgt : Int)) (kt : u ≠ 0 → mm_W x a b tgt ls st h) (kf : u = 0 → mm_W x a b (pc + 3) ls st h) : mm_W x a b pc ls (mI u :: st) h := by
  obtain ⟨p, l, e, R, s, m, args, below, meth, c, G, ad0, A, n0, Q⟩ := x
  intro ad H locs jl h3 h4 h5 h6
  have hu := mm_ok_hd h6
  have h7 := mm_ok_tl h6
  exact lv_if_ne C.1 C.2.1 hd ht (fun q => kt (fun z => q ((mm_eqI hu mm_0).mpr z)) ad H locs jl h3 h4 h5 h7) (fun q => kf ((mm_eqI hu mm_0).mp q) ad H locs jl h3 h4 h5 h7)
theorem mm_if_lt {u : Int} {off : Int} {tgt : Nat} (C : mm_OK d cs ss cc own nL ret x) (hd : decode cc pc = .ok (.ifCond .lt off, 3)) (ht : (pc : Int) + off = (tgt : Int)) (kt : u < 0 → mm_W x a b tgt ls st h) (kf : 0 ≤ u → mm_W x a b (pc + 3) ls st h) : mm_W x a b pc ls (mI u :: st) h := by
  obtain ⟨p, l, e, R, s, m, args, below, meth, c, G, ad0, A, n0, Q⟩ := x
  intro ad H locs jl h3 h4 h5 h6
  have hu := mm_ok_hd h6
  have h7 := mm_ok_tl h6
  exact lv_if_lt C.1 C.2.1 hd ht (fun q => kt ((mm_ltI hu mm_0).mp q) ad H locs jl h3 h4 h5 h7) (fun q => kf (Int.not_lt.mp fun z => q ((mm_ltI hu mm_0).mpr z)) ad H locs jl h3 h4 h5 h7)
theorem mm_if_ge {u : Int} {off : Int} {tgt : Nat} (C : mm_OK d cs ss cc own nL ret x) (hd : decode cc pc = .ok (.ifCond .ge off, 3)) (ht : (pc : Int) + off = (tgt : Int)) (kt : 0 ≤ u → mm_W x a b tgt ls st h) (kf : u < 0 → mm_W x a b (pc + 3) ls st h) : mm_W x a b pc ls (mI u :: st) h := by
  obtain ⟨p, l, e, R, s, m, args, below, meth, c, G, ad0, A, n0, Q⟩ := x
  intro ad H locs jl h3 h4 h5 h6
  have hu := mm_ok_hd h6
  have h7 := mm_ok_tl h6
  exact lv_if_ge C.1 C.2.1 hd ht (fun q => kt ((mm_leI mm_0 hu).mp q) ad H locs jl h3 h4 h5 h7) (fun q => kf (Int.not_le.mp fun z => q ((mm_leI mm_0 hu).mpr z)) ad H locs jl h3 h4 h5 h7)
theorem mm_if_gt {u : Int} {off : Int} {tgt : Nat} (C : mm_OK d cs ss cc own nL ret x) (hd : decode cc pc = .ok (.ifCond .gt off, 3)) (ht : (pc : Int) + off = (tgt : Int)) (kt : 0 < u → mm_W x a b tgt ls st h) (kf : u ≤ 0 → mm_W x a b (pc + 3) ls st h) : mm_W x a b pc ls (mI u :: st) h := by
  obtain ⟨p, l, e, R, s, m, args, below, meth, c, G, ad0, A, n0, Q⟩ := x
  intro ad H locs jl h3 h4 h5 h6
  have hu := mm_ok_hd h6
  have h7 := mm_ok_tl h6
  exact lv_if_gt C.1 C.2.1 hd ht (fun q => kt ((mm_ltI mm_0 hu).mp q) ad H locs jl h3 h4 h5 h7) (fun q => kf (Int.not_lt.mp fun z => q ((mm_ltI mm_0 hu).mpr z)) ad H locs jl h3 h4 h5 h7)
theorem mm_if_le {u : Int} {off : Int} {tgt : Nat} (C : mm_OK d cs ss cc own nL ret x) (hd : decode cc pc = .ok (.ifCond .le off, 3)) (ht : (pc : Int) + off = (tgt : Int)) (kt : u ≤ 0 → mm_W x a b tgt ls st h) (kf : 0 < u → mm_W x a b (pc + 3) ls st h) : mm_W x a b pc ls (mI u :: st) h := by
  obtain ⟨p, l, e, R, s, m, args, below, meth, c, G, ad0, A, n0, Q⟩ := x
  intro ad H locs jl h3 h4 h5 h6
  have hu := mm_ok_hd h6
  have h7 := mm_ok_tl h6
  exact lv_if_le C.1 C.2.1 hd ht (fun q => kt ((mm_leI hu mm_0).mp q) ad H locs jl h3 h4 h5 h7) (fun q => kf (Int.not_le.mp fun z => q ((mm_leI hu mm_0).mpr z)) ad H locs jl h3 h4 h5 h7)
theorem mm_table {u : Int} {dflt lo hi : Int} {offs : Array Int} {len t0 : Nat} (tg : List Nat) (C : mm_OK d cs ss cc own nL ret x) (hd : decode cc pc = .ok (.tableswitch dflt lo hi offs, len)) (hn : lo + (tg.length : Int) = hi + 1) (ht0 : (pc : Int) + dflt = (t0 : Int)) (ht : (List.range tg.length).all (fun k => decide ((pc : Int) + (offs[k]?).getD 0 = ((tg[k]?).getD 0 : Nat)) && decide (offs[k]? ≠ none)) = true)
    (ko : u < lo ∨ hi < u → mm_W x a b t0 ls st h) (ki : ∀ k : Nat, k < tg.length → u = lo + (k : Int) → mm_W x a b ((tg[k]?).getD 0) ls st h) : mm_W x a b pc ls (mI u :: st) h := by
  obtain ⟨p, l, e, R, s, m, args, below, meth, c, G, ad0, A, n0, Q⟩ := x
  intro ad H locs jl h3 h4 h5 h6
  have hu := mm_ok_hd h6
  have h7 := mm_ok_tl h6
  by_cases h8 : u < lo ∨ hi < u
  · exact lv_tableOut C.1 C.2.1 hd (by rw [mm_t u hu]; exact h8) ht0 (ko h8 ad H locs jl h3 h4 h5 h7)
  · have h9 : lo ≤ u := by omega
    have h10 : u ≤ hi := by omega
    have hk : (u - lo).toNat < tg.length := by omega
    have q := List.all_eq_true.mp ht _ (List.mem_range.mpr hk)
    simp only [Bool.and_eq_true, decide_eq_true_eq] at q
    obtain ⟨off, ho⟩ := Option.ne_none_iff_exists'.mp q.2
    have q1 := q.1
    rw [ho] at q1
    exact lv_tableIn C.1 C.2.1 hd (by rw [mm_t u hu]; omega) (by rw [mm_t u hu]; omega) (by rw [mm_t u hu]; exact ho) q1 (ki _ hk (by omega) ad H locs jl h3 h4 h5 h7)
theorem mm_lookup {u : Int} {dflt : Int} {ps : Array (Int × Int)} {len : Nat} (tgt : Nat) (C : mm_OK d cs ss cc own nL ret x) (hd : decode cc pc = .ok (.lookupswitch dflt ps, len)) (hp : (ps.toList.zip (ps.toList.drop 1)).all (fun (a, next) => a.1 < next.1) = true) (ht : (pc : Int) + Op.lookupswitch.offset ps.toList dflt u = (tgt : Int)) (kk : mm_W x a b tgt ls st h) : mm_W x a b pc ls (mI u :: st) h := by
  obtain ⟨p, l, e, R, s, m, args, below, meth, c, G, ad0, A, n0, Q⟩ := x
  intro ad H locs jl h3 h4 h5 h6
  have hu := mm_ok_hd h6
  exact lv_lookup C.1 C.2.1 hd hp (by rw [mm_t u hu]) ht (kk ad H locs jl h3 h4 h5 (mm_ok_tl h6))
end MMA
