/-! ===== the law: its script, its loop ===== -/
def mm_scr (x : mX) (L : Nat) (xs : Nat → Int32) : Prop := match x with
  | (_, _, _, _, s, _, _, _, _, _, _, ad0, A, _, _) => va_X (ad0 3000) L xs s s.heap ∧ ad0 3000 < s.heap.size ∧ ¬ A (ad0 3000)
def mm_sc (xs : Nat → Int32) (j : Int) : Int := (xs j.toNat).toInt
section MMJ
variable {x : mX} {d cs ss : Nat} {cc : ByteArray} {own : String} {nL : Nat} {ret : Option FieldType} {a b pc : Nat} {ls st : List mV} {h : mH} {L : Nat} {xs : Nat → Int32}
theorem mm_sld {i : Int} (C : mm_OK d cs ss cc own nL ret x) (X : mm_scr x L xs) (hd : decode cc pc = .ok (.iaload, 1)) (h0 : 0 ≤ i) (h1 : i < L) (kk : mm_W x a b (pc + 1) ls (mI (mm_sc xs i) :: st) h) : mm_W x a b pc ls (mI i :: mR 3000 :: st) h := by
  obtain ⟨p, l, e, R, s, m, args, below, meth, c, G, ad0, A, n0, Q⟩ := x
  intro ad H locs jl h3 h4 h5 h6
  obtain ⟨c1, c2, c3, c4, c5, c6, c7, c8, c9, c10, c11, c12, c13, c14, c15⟩ := C
  have hi := mm_ok_hd h6
  have h2 : i < 2147483648 := hi.2
  have k := kk ad H locs jl h3 h4 h5 (mm_ok_cons (fb_rng (xs i.toNat)) (mm_ok_tl (mm_ok_tl h6)))
  rw [List.map_cons, show mm_j ad (mI (mm_sc xs i)) = .int (xs i.toNat) from by show Value.int (Int32.ofInt (xs i.toNat).toInt) = _; rw [Int32.ofInt_toInt]] at k
  rw [List.map_cons, List.map_cons, mm_jc h3 (show 1000 ≤ 3000 by decide)]
  refine va_sld c1 c2 X.1 X.2.1 X.2.2 h3.2.2.2.1 (i := Int32.ofInt i) (mm_vin h0 h1 h2) hd ?_
  rw [mm_clamp h0 h2]
  exact k
theorem mm_slen (C : mm_OK d cs ss cc own nL ret x) (X : mm_scr x L xs) (hL : L ≤ 3072) (hd : decode cc pc = .ok (.arraylength, 1)) (kk : mm_W x a b (pc + 1) ls (mI (L : Int) :: st) h) : mm_W x a b pc ls (mR 3000 :: st) h := by
  obtain ⟨p, l, e, R, s, m, args, below, meth, c, G, ad0, A, n0, Q⟩ := x
  intro ad H locs jl h3 h4 h5 h6
  obtain ⟨c1, c2, c3, c4, c5, c6, c7, c8, c9, c10, c11, c12, c13, c14, c15⟩ := C
  have k := kk ad H locs jl h3 h4 h5 (mm_ok_cons (show mm_i32 (L : Int) from ⟨by omega, by omega⟩) (mm_ok_tl h6))
  rw [List.map_cons, show mm_j ad (mI (L : Int)) = .int (Int32.ofNat L) from by show Value.int (Int32.ofInt (L : Int)) = _; rw [Int32.ofInt_eq_ofNat]] at k
  rw [List.map_cons, mm_jc h3 (show 1000 ≤ 3000 by decide)]
  exact va_slen c1 c2 X.1 X.2.1 X.2.2 h3.2.2.2.1 hd k
end MMJ
theorem mm_zf_eq {h h2 : mH} (e : h2.1 58 5 = h.1 58 5) : mm_zf h2 = mm_zf h := by unfold mm_zf; rw [e]
theorem mm_zf_0 {h : mH} (e : h.1 58 5 = 0) : mm_zf h = (0, 0) := by unfold mm_zf; rw [if_pos e]
abbrev mm_aA (i : Int) (h : mH) : Nat := 200 + i.toNat + (mm_zf h).1
abbrev mm_bB (i : Int) (h : mH) : Nat := 90000 + 6 * i.toNat + (mm_zf h).2
abbrev mm_lls (i : Int) : List mV := [mR 3000, mR 0, mR 66, mR 124, mI i, mU, mU, mU]
def mm_Rl (i : Int) (h : mH) : Prop := h.1 1 5 = h.1 66 1 ∧ h.1 1 6 = h.1 66 2 ∧ h.1 14 8 = h.1 66 22 ∧ h.1 22 8 = h.1 66 23 ∧ h.1 14 7 = h.1 66 21 ∧ h.1 22 9 = h.1 66 24 ∧ h.1 0 12 = h.1 66 56 ∧ h.1 0 14 = h.1 66 58 ∧ h.1 30 6 = h.1 66 40 ∧ h.1 30 12 = h.1 66 82 ∧ h.1 0 13 = h.1 66 41 ∧ 0 ≤ h.1 66 91 ∧ h.1 66 91 ≤ i ∧ mm_eq h 2 67 399 ∧ mm_eq h 6 69 7 ∧ mm_eq h 15 78 (h.1 14 7 - 1) ∧ mm_eq h 17 83 (h.1 14 8 - 1) ∧ mm_eq h 19 80 (h.1 14 8 - 1) ∧ mm_eq h 20 81 (h.1 14 8 - 1) ∧ mm_tk h ∧ mm_cb h ∧ mm_fb h ∧ mm_eq h 3 68 399 ∧ mm_eq h 4 70 399 ∧ mm_eq h 5 71 399 ∧ mm_eq h 62 101 (h.1 0 12 - 1) ∧ mm_go h ∧ mm_eq h 23 85 (h.1 22 8 - 1) ∧ mm_eq h 25 87 (h.1 22 8 - 1) ∧ mm_it h ∧ mm_br h ∧ mm_gn h ∧ mm_pc h ∧ mm_bv h ∧ mm_eq h 31 92 (h.1 30 6 - 1) ∧ mm_eq h 32 93 (h.1 30 6 - 1) ∧ mm_eq h 35 96 (h.1 30 6 - 1) ∧ mm_eq h 36 97 (h.1 30 6 - 1) ∧ mm_eq h 40 113 (h.1 30 12 - 1) ∧ mm_eq h 24 86 (h.1 22 8 - 1) ∧ mm_ah h ∧ mm_pw9 h ∧ mm_eq h 34 95 (h.1 30 6 - 1) ∧ mm_ep8 h ∧ mm_ab8 h ∧ mm_eq h 16 79 (h.1 14 7 - 1) ∧ mm_cJ h ∧ mm_pt9 h ∧ mm_tm9 h
/-- what is behind a call: the loop's end, from any heap that holds what always holds -/
def mm_K (x : mX) (i : Int) : Prop := ∀ h2 : mH, mm_inv h2 → mm_RO h2 → mm_Rl (i + 6) h2 → mm_W x (mm_aA (i + 6) h2) (mm_bB (i + 6) h2) 1668 (mm_lls i) [] h2

theorem sm_L_cell : Cond.static yL_cell ∈ mm_T := mm_T_at 3 83 (by decide +kernel) rfl
theorem sm_L_takes : Cond.static yL_takes ∈ mm_T := mm_T_at 3 189 (by decide +kernel) rfl
theorem sm_L_wall : Cond.static yL_wall ∈ mm_T := mm_T_at 3 217 (by decide +kernel) rfl
theorem sm_L_gates : Cond.static yL_gates ∈ mm_T := mm_T_at 3 228 (by decide +kernel) rfl
theorem sm_L_way : Cond.static yL_way ∈ mm_T := mm_T_at 3 235 (by decide +kernel) rfl
theorem sm_L_move : Cond.static yL_move ∈ mm_T := mm_T_at 4 57 (by decide +kernel) rfl
theorem sm_L_many : Cond.static yL_many ∈ mm_T := mm_T_at 4 74 (by decide +kernel) rfl
theorem sm_L_post : Cond.static yL_post ∈ mm_T := mm_T_at 4 93 (by decide +kernel) rfl
theorem sm_L_add : Cond.static yL_add ∈ mm_T := mm_T_at 4 105 (by decide +kernel) rfl
theorem sm_L_runner : Cond.static yL_runner ∈ mm_T := mm_T_at 4 142 (by decide +kernel) rfl
theorem sm_L_row : Cond.static yL_row ∈ mm_T := mm_T_at 4 157 (by decide +kernel) rfl
theorem sm_L_team : Cond.static yL_team ∈ mm_T := mm_T_at 4 199 (by decide +kernel) rfl
theorem sm_L_go : Cond.static yL_go ∈ mm_T := mm_T_at 4 224 (by decide +kernel) rfl
theorem sm_L_event : Cond.static yL_event ∈ mm_T := mm_T_at 5 9 (by decide +kernel) rfl
theorem sm_L_back : Cond.static yL_back ∈ mm_T := mm_T_at 5 25 (by decide +kernel) rfl
theorem sm_L_judged : Cond.static yL_judged ∈ mm_T := mm_T_at 5 37 (by decide +kernel) rfl
theorem sm_L_split : Cond.static yL_split ∈ mm_T := mm_T_at 5 223 (by decide +kernel) rfl
theorem sm_L_ofTeam : Cond.static yL_ofTeam ∈ mm_T := mm_T_at 6 2 (by decide +kernel) rfl
theorem sm_L_rules : Cond.static yL_rules ∈ mm_T := mm_T_at 6 34 (by decide +kernel) rfl
theorem sm_L_protest : Cond.static yL_protest ∈ mm_T := mm_T_at 6 204 (by decide +kernel) rfl
theorem sm_L_decide : Cond.static yL_decide ∈ mm_T := mm_T_at 6 228 (by decide +kernel) rfl
theorem sm_L_draw : Cond.static yL_draw ∈ mm_T := mm_T_at 7 0 (by decide +kernel) rfl
theorem sm_L_best : Cond.static yL_best ∈ mm_T := mm_T_at 7 39 (by decide +kernel) rfl
theorem sm_L_bestOf : Cond.static yL_bestOf ∈ mm_T := mm_T_at 7 83 (by decide +kernel) rfl
theorem sm_L_track : Cond.static yL_track ∈ mm_T := mm_T_at 7 103 (by decide +kernel) rfl
theorem sm_L_lost : Cond.static yL_lost ∈ mm_T := mm_T_at 7 132 (by decide +kernel) rfl
theorem sm_L_count : Cond.static yL_count ∈ mm_T := mm_T_at 7 143 (by decide +kernel) rfl
