/-! THE CLAIM OUT OF ONE WALK OF THE LAW'S BODY. Your part is whole_start (and what it stands on); all else here is the same for every law, but numbers. -/
def R_law : String := "MapRunLaw"
def lw_P (b : Addr) (xs : List Int32) (args : Array Value) (s : State) : Prop := args = #[.ref b] ∧ s.IntsAt b xs ∧ xs.length ≤ 3072 ∧ (Jvm.Cond.and given_1 narrow_1).before args s = true
def lw_Q (_ : Array Value) (s : State) (o : Outcome) (t : State) : Prop := o = .returned (some (.int 1)) ∧ Framed s o t [] 601024 7293034
def lw_Z (below : List Frame) (a : Array Value) (s : State) : State → Prop := fun t => ∃ o, t.status = .running ∧ Ended t below o ∧ lw_Q a s o t
/-- the law's own end, with 1 on the stack, nothing written that was there before, its room as the claim has it -/
theorem lw_ret {p : Program} {l : Launch} {e : Env} {s : State} {m : MethodId} {below : List Frame} {meth : Method} {c : Code} {b : Nat} (hx : p.tables.exec = Jvm.exec) (hb : c.code = code) (hr : meth.sig.returnType = ret) (hlocks : meth.locks = false) {pc : Nat} {H : Heap} {ls : Array Slot} (hdg : decode code pc = .ok (.ireturn, 1)) : W p l e room_1 s m #[Value.ref b] below meth c H [] 601024 7293034 (lw_Z below #[Value.ref b] s) (F0 m pc ls [.int 1]) := by
  intro T hT X
  obtain ⟨fs, hret, hrun, hended, hW, hframe⟩ := X.leave (v := some (.int 1)) (hlocks := hlocks) (fun h => by rw [hr] at h; cases h)
  have hmeth' : T.vm.method? m = some meth := X.method'
  refine ⟨T.setFrames fs, ?_, .returned (some (.int 1)), hrun, hended, rfl, ⟨_, rfl⟩, hW, hframe⟩
  jvm_step X.here [X.here.top, hx, hb, hdg, hmeth', hr, ret, narrow_b1]
  (try refine ⟨rfl, ?_⟩); (try refine ⟨rfl, ?_⟩)
  first | (intro acts; rw [hret _ acts rfl rfl rfl]) | rw [hret _ _ rfl rfl rfl]
  exact Steps.refl _
/-- what holds at the law's entry: the machine, the code, the tables' words (any of lw_tbl by 'hts w (by decide +kernel)'), the script of L ints xs at the cell b, what the Statement gives of the start (any of its parts by flat_of_before) -/
def lw_At (p : Program) (s : State) (m : MethodId) (meth : Method) (c : Code) (b L : Nat) (xs : Nat → Int32) : Prop :=
  p.tables.exec = Jvm.exec ∧ c.code = code ∧ meth.sig.returnType = ret ∧ c.maxLocals = 8 ∧ s.vm.findClass R_law = some m.cls ∧ (∀ w ∈ lw_tbl, w.before #[Value.ref b] s = true) ∧ va_X b L xs s s.heap ∧ b < s.heap.size ∧ meth.locks = false ∧ (Jvm.Cond.and given_1 narrow_1).before #[Value.ref b] s = true

def nn_fl : List Cond := flatC (Jvm.Cond.and given_1 narrow_1)
theorem nn_exact : mm_str.all (fun q => decide (Cond.exactly (.string q.1 q.2.1) "java/lang/String" ∈ nn_fl)) = true := by decide +kernel
theorem nn_ncast : mm_ncast.all (fun q => decide (Cond.not (.castable q.1 q.2) ∈ nn_fl)) = true := by decide +kernel
theorem nn_co : Cond.eq (.field (.string "MapRun$Reader" 138) "java/lang/String" "coder" "B") (.int 0) ∈ nn_fl := by decide +kernel
theorem nn_ar : Cond.arrayOf (.field (.string "MapRun$Reader" 138) "java/lang/String" "value" "[B") .byte ∈ nn_fl := by decide +kernel
theorem nn_le : Cond.eq (.length (.field (.string "MapRun$Reader" 138) "java/lang/String" "value" "[B")) (.int (Int32.ofNat 90)) ∈ nn_fl := by decide +kernel
theorem nn_el0 : (List.range 10).all (fun j => decide (Cond.eq (.elem (.field (.string "MapRun$Reader" 138) "java/lang/String" "value" "[B") (.int (Int32.ofNat (0 + j)))) (.int (mm_words.getD (0 + j) 0)) ∈ nn_fl)) = true := by decide +kernel
theorem nn_el1 : (List.range 10).all (fun j => decide (Cond.eq (.elem (.field (.string "MapRun$Reader" 138) "java/lang/String" "value" "[B") (.int (Int32.ofNat (10 + j)))) (.int (mm_words.getD (10 + j) 0)) ∈ nn_fl)) = true := by decide +kernel
theorem nn_el2 : (List.range 10).all (fun j => decide (Cond.eq (.elem (.field (.string "MapRun$Reader" 138) "java/lang/String" "value" "[B") (.int (Int32.ofNat (20 + j)))) (.int (mm_words.getD (20 + j) 0)) ∈ nn_fl)) = true := by decide +kernel
theorem nn_el3 : (List.range 10).all (fun j => decide (Cond.eq (.elem (.field (.string "MapRun$Reader" 138) "java/lang/String" "value" "[B") (.int (Int32.ofNat (30 + j)))) (.int (mm_words.getD (30 + j) 0)) ∈ nn_fl)) = true := by decide +kernel
theorem nn_el4 : (List.range 10).all (fun j => decide (Cond.eq (.elem (.field (.string "MapRun$Reader" 138) "java/lang/String" "value" "[B") (.int (Int32.ofNat (40 + j)))) (.int (mm_words.getD (40 + j) 0)) ∈ nn_fl)) = true := by decide +kernel
theorem nn_el5 : (List.range 10).all (fun j => decide (Cond.eq (.elem (.field (.string "MapRun$Reader" 138) "java/lang/String" "value" "[B") (.int (Int32.ofNat (50 + j)))) (.int (mm_words.getD (50 + j) 0)) ∈ nn_fl)) = true := by decide +kernel
theorem nn_el6 : (List.range 10).all (fun j => decide (Cond.eq (.elem (.field (.string "MapRun$Reader" 138) "java/lang/String" "value" "[B") (.int (Int32.ofNat (60 + j)))) (.int (mm_words.getD (60 + j) 0)) ∈ nn_fl)) = true := by decide +kernel
theorem nn_el7 : (List.range 10).all (fun j => decide (Cond.eq (.elem (.field (.string "MapRun$Reader" 138) "java/lang/String" "value" "[B") (.int (Int32.ofNat (70 + j)))) (.int (mm_words.getD (70 + j) 0)) ∈ nn_fl)) = true := by decide +kernel
theorem nn_el8 : (List.range 10).all (fun j => decide (Cond.eq (.elem (.field (.string "MapRun$Reader" 138) "java/lang/String" "value" "[B") (.int (Int32.ofNat (80 + j)))) (.int (mm_words.getD (80 + j) 0)) ∈ nn_fl)) = true := by decide +kernel
theorem nn_el (j : Nat) (hj : j < 90) : Cond.eq (.elem (.field (.string "MapRun$Reader" 138) "java/lang/String" "value" "[B") (.int (Int32.ofNat j))) (.int (mm_words.getD j 0)) ∈ nn_fl := by
  have key : ∀ c r : Nat, r < 10 → j = 10 * c + r → (List.range 10).all (fun j => decide (Cond.eq (.elem (.field (.string "MapRun$Reader" 138) "java/lang/String" "value" "[B") (.int (Int32.ofNat (10 * c + j)))) (.int (mm_words.getD (10 * c + j) 0)) ∈ nn_fl)) = true → Cond.eq (.elem (.field (.string "MapRun$Reader" 138) "java/lang/String" "value" "[B") (.int (Int32.ofNat j))) (.int (mm_words.getD j 0)) ∈ nn_fl := by
    intro c r hr e h
    rw [e]
    exact of_decide_eq_true (List.all_eq_true.mp h r (List.mem_range.mpr hr))
  rcases (by omega : j / 10 = 0 ∨ j / 10 = 1 ∨ j / 10 = 2 ∨ j / 10 = 3 ∨ j / 10 = 4 ∨ j / 10 = 5 ∨ j / 10 = 6 ∨ j / 10 = 7 ∨ j / 10 = 8) with h | h | h | h | h | h | h | h | h
  · exact key 0 (j % 10) (by omega) (by omega) nn_el0
  · exact key 1 (j % 10) (by omega) (by omega) nn_el1
  · exact key 2 (j % 10) (by omega) (by omega) nn_el2
  · exact key 3 (j % 10) (by omega) (by omega) nn_el3
  · exact key 4 (j % 10) (by omega) (by omega) nn_el4
  · exact key 5 (j % 10) (by omega) (by omega) nn_el5
  · exact key 6 (j % 10) (by omega) (by omega) nn_el6
  · exact key 7 (j % 10) (by omega) (by omega) nn_el7
  · exact key 8 (j % 10) (by omega) (by omega) nn_el8
theorem nn_s1 : Cond.isRef (.static "java/lang/Throwable" "UNASSIGNED_STACK" "[Ljava/lang/StackTraceElement;") ∈ nn_fl := by decide +kernel
theorem nn_s2 : Cond.isRef (.static "java/lang/Throwable" "SUPPRESSED_SENTINEL" "Ljava/util/List;") ∈ nn_fl := by decide +kernel
theorem nn_s3 : Cond.eq (.static "java/lang/String" "COMPACT_STRINGS" "Z") (.int 1) ∈ nn_fl := by decide +kernel
theorem nn_s4 : Cond.isRef (.static mm_preC mm_preN mm_preD) ∈ nn_fl := by decide +kernel
theorem nl_1 : Cond.laysStatic "java/lang/Throwable" "UNASSIGNED_STACK" "[Ljava/lang/StackTraceElement;" ∈ lw_tbl := mm_ch_in 3 (List.mem_of_getElem? (i := 125) (by decide +kernel))
theorem nl_2 : Cond.laysStatic "java/lang/Throwable" "SUPPRESSED_SENTINEL" "Ljava/util/List;" ∈ lw_tbl := mm_ch_in 3 (List.mem_of_getElem? (i := 127) (by decide +kernel))
theorem nl_3 : Cond.laysStatic "java/lang/String" "COMPACT_STRINGS" "Z" ∈ lw_tbl := mm_ch_in 6 (List.mem_of_getElem? (i := 74) (by decide +kernel))
theorem nl_4 : Cond.laysStatic "jdk/internal/util/Preconditions" "SIOOBE_FORMATTER" "Ljava/util/function/BiFunction;" ∈ lw_tbl := mm_ch_in 6 (List.mem_of_getElem? (i := 90) (by decide +kernel))
theorem ni_1 : Cond.initialized "java/lang/Throwable" ∈ lw_tbl := mm_ch_in 1 (List.mem_of_getElem? (i := 15) (by decide +kernel))
theorem ni_3 : Cond.initialized "java/lang/String" ∈ lw_tbl := mm_ch_in 1 (List.mem_of_getElem? (i := 21) (by decide +kernel))
theorem ni_4 : Cond.initialized "jdk/internal/util/Preconditions" ∈ lw_tbl := mm_ch_in 1 (List.mem_of_getElem? (i := 23) (by decide +kernel))
theorem nr_0 : Cond.stringRef "MapRun" 402 "no such cell" ∈ lw_tbl := mm_ch_in 3 (List.mem_of_getElem? (i := 138) (by decide +kernel))
theorem nr_1 : Cond.stringRef "MapRun" 147 "no such ground" ∈ lw_tbl := mm_ch_in 3 (List.mem_of_getElem? (i := 195) (by decide +kernel))
theorem nr_2 : Cond.stringRef "MapRun" 179 "no way is kept" ∈ lw_tbl := mm_ch_in 4 (List.mem_of_getElem? (i := 67) (by decide +kernel))
theorem nr_3 : Cond.stringRef "MapRun" 181 "no such move" ∈ lw_tbl := mm_ch_in 4 (List.mem_of_getElem? (i := 68) (by decide +kernel))
theorem nr_4 : Cond.stringRef "MapRun" 404 "no such course" ∈ lw_tbl := mm_ch_in 4 (List.mem_of_getElem? (i := 115) (by decide +kernel))
theorem nr_5 : Cond.stringRef "MapRun" 406 "no such post" ∈ lw_tbl := mm_ch_in 4 (List.mem_of_getElem? (i := 120) (by decide +kernel))
theorem nr_6 : Cond.stringRef "MapRun" 408 "no such runner" ∈ lw_tbl := mm_ch_in 4 (List.mem_of_getElem? (i := 167) (by decide +kernel))
theorem nr_7 : Cond.stringRef "MapRun" 410 "no such place" ∈ lw_tbl := mm_ch_in 4 (List.mem_of_getElem? (i := 197) (by decide +kernel))
theorem nr_8 : Cond.stringRef "MapRun" 263 "no such time" ∈ lw_tbl := mm_ch_in 5 (List.mem_of_getElem? (i := 1) (by decide +kernel))
theorem nr_9 : Cond.stringRef "MapRun" 266 "no such kind" ∈ lw_tbl := mm_ch_in 5 (List.mem_of_getElem? (i := 15) (by decide +kernel))
theorem nr_10 : Cond.stringRef "MapRun" 275 "no such event" ∈ lw_tbl := mm_ch_in 5 (List.mem_of_getElem? (i := 31) (by decide +kernel))
theorem nr_11 : Cond.stringRef "MapRun" 280 "no such question" ∈ lw_tbl := mm_ch_in 5 (List.mem_of_getElem? (i := 43) (by decide +kernel))
theorem nr_12 : Cond.stringRef "MapRun" 412 "no such second" ∈ lw_tbl := mm_ch_in 5 (List.mem_of_getElem? (i := 48) (by decide +kernel))
theorem nr_13 : Cond.stringRef "MapRun" 297 "no such team" ∈ lw_tbl := mm_ch_in 6 (List.mem_of_getElem? (i := 8) (by decide +kernel))
theorem nr_14 : Cond.stringRef "MapRun" 414 "the tape has not so many bytes" ∈ lw_tbl := mm_ch_in 6 (List.mem_of_getElem? (i := 44) (by decide +kernel))
theorem nr_15 : Cond.stringRef "MapRun$Reader" 138 "penalty out set unless or and not limit gap window missed wrong run score posts club free " ∈ lw_tbl := mm_ch_in 6 (List.mem_of_getElem? (i := 64) (by decide +kernel))
theorem nr_16 : Cond.stringRef "MapRun" 339 "no such protest" ∈ lw_tbl := mm_ch_in 6 (List.mem_of_getElem? (i := 234) (by decide +kernel))
theorem nr_17 : Cond.stringRef "MapRun" 355 "seconds below 0" ∈ lw_tbl := mm_ch_in 7 (List.mem_of_getElem? (i := 45) (by decide +kernel))
theorem nr_18 : Cond.stringRef "MapRun" 363 "no such answer" ∈ lw_tbl := mm_ch_in 7 (List.mem_of_getElem? (i := 93) (by decide +kernel))
theorem nr_19 : Cond.stringRef "MapRun" 390 "no such count" ∈ lw_tbl := mm_ch_in 7 (List.mem_of_getElem? (i := 149) (by decide +kernel))
theorem nr_all : ∀ (i : Nat) (q : String × Nat × String), mm_str[i]? = some q → Cond.stringRef q.1 q.2.1 q.2.2 ∈ lw_tbl := by
  intro i q hq
  match i, hq with
  | 0, hq => cases hq; exact nr_0
  | 1, hq => cases hq; exact nr_1
  | 2, hq => cases hq; exact nr_2
  | 3, hq => cases hq; exact nr_3
  | 4, hq => cases hq; exact nr_4
  | 5, hq => cases hq; exact nr_5
  | 6, hq => cases hq; exact nr_6
  | 7, hq => cases hq; exact nr_7
  | 8, hq => cases hq; exact nr_8
  | 9, hq => cases hq; exact nr_9
  | 10, hq => cases hq; exact nr_10
  | 11, hq => cases hq; exact nr_11
  | 12, hq => cases hq; exact nr_12
  | 13, hq => cases hq; exact nr_13
  | 14, hq => cases hq; exact nr_14
  | 15, hq => cases hq; exact nr_15
  | 16, hq => cases hq; exact nr_16
  | 17, hq => cases hq; exact nr_17
  | 18, hq => cases hq; exact nr_18
  | 19, hq => cases hq; exact nr_19
  | i + 20, hq => exact absurd hq (by simp [mm_str])
theorem nn_nest : mm_nest.all (fun q => decide (Cond.methodLinkNest q.1 q.2.1 q.2.2.1 q.2.2.2 ∈ lw_tbl)) = true := by decide +kernel
theorem nn_cast : mm_cast.all (fun q => decide (Cond.castable q.1 q.2 ∈ lw_tbl)) = true := by decide +kernel
theorem nn_decl : mm_decl.all (fun q => decide (Cond.declares q ∈ lw_tbl)) = true := by decide +kernel
