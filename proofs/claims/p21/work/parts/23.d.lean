theorem mm_Rl_6 {i : Int} {h : mH} (r : mm_Rl i h) : mm_Rl (i + 6) h := by
  unfold mm_Rl at r ⊢
  obtain ⟨a0, a1, a2, a3, a4, a5, a6, a7, a8, a9, a10, b0, b1, z⟩ := r
  exact ⟨a0, a1, a2, a3, a4, a5, a6, a7, a8, a9, a10, b0, by omega, z⟩
theorem lw_back {x : mX} {L : Nat} {xs : Nat → Int32} (C : mm_OK 60 601024 7293034 code RL 8 ret x) (X : mm_scr x L xs) (hl : x.2.1.stackTraces = false) (hL : L ≤ 3072) (i : Int) (hi : 0 ≤ i ∧ i + 6 ≤ L) (J : ∀ h2 : mH, mm_inv h2 → mm_RO h2 → mm_Rl (i + 6) h2 → mm_W x (mm_aA (i + 6) h2) (mm_bB (i + 6) h2) 23 (mm_lls (i + 6)) [] h2) : mm_K x i := by
  intro h2 i2 r2 rl2
  refine mm_iincL (ls2 := mm_lls (i + 6)) C (mm_dec dk_law18 6 rfl) rfl (by decide) ⟨by omega, by omega⟩ rfl ?_
  refine mm_goto (tgt := 23) C (mm_dec dk_law18 7 rfl) (by decide) ?_
  exact J h2 i2 r2 rl2
set_option maxRecDepth 100000 in
set_option maxHeartbeats 4000000 in
theorem lw_loop {x : mX} {L : Nat} {xs : Nat → Int32} (C : mm_OK 60 601024 7293034 code RL 8 ret x) (X : mm_scr x L xs) (hl : x.2.1.stackTraces = false) (hL : L ≤ 3072) (E : ∀ (a b : Nat) (ls : List mV) (h : mH), a ≤ 601024 → b ≤ 7293034 → mm_W x a b 1674 ls [] h) : ∀ (n : Nat) (i : Int) (h : mH), 0 ≤ i → i ≤ L → (L : Int) - i < n → mm_inv h → mm_RO h → mm_Rl i h → mm_W x (mm_aA i h) (mm_bB i h) 23 (mm_lls i) [] h := by
  intro n
  induction n with
  | zero => intro i h h0 h1 h2; omega
  | succ n ih =>
    intro i h h0 h1 h2 i0 r0 rl
    have zl := mm_zf_le h
    have ea : mm_aA i h = 200 + i.toNat + (mm_zf h).1 := rfl
    have eb : mm_bB i h = 90000 + 6 * i.toNat + (mm_zf h).2 := rfl
    refine mm_iload C (mm_dec dk_law0 13 rfl) rfl ?_
    refine mm_aload_n C (mm_dec dk_law0 14 rfl) rfl ?_
    refine mm_slen C X hL (mm_dec dk_law0 15 rfl) ?_
    refine mm_bipush C (mm_dec dk_law0 16 rfl) ⟨by decide, by decide⟩ ?_
    refine mm_isub C (mm_dec dk_law0 17 rfl) ⟨by omega, by omega⟩ ?_
    refine mm_icmp_gt (tgt := 1674) C (mm_dec dk_law0 18 rfl) (by decide) (fun c30 => ?_) (fun c30 => ?_)
    · exact E _ _ _ _ (by omega) (by omega)
    · have hi : 0 ≤ i ∧ i + 6 ≤ (L : Int) := ⟨h0, by omega⟩
      have K := lw_back C X hl hL i hi (fun h2 i2 r2 rl2 => ih (i + 6) h2 (by omega) (by omega) (by omega) i2 r2 rl2)
      refine mm_aload_n C (mm_dec dk_law0 19 rfl) rfl ?_
      refine mm_iload C (mm_dec dk_law0 20 rfl) rfl ?_
      refine mm_sld C X (mm_dec dk_law0 21 rfl) (by omega) (by omega) ?_
      refine mm_bipush C (mm_dec dk_law0 22 rfl) ⟨by decide, by decide⟩ ?_
      refine mm_iand C (mm_dec dk_law0 23 rfl) ?_
      refine mm_table (t0 := 1668) [180, 217, 281, 321, 401, 465, 529, 557, 621, 673, 714, 778, 830, 870, 922, 950, 1014, 1042, 1094, 1146, 1226, 1299, 1327, 1340, 1368, 1420, 1504, 1544, 1572, 1612, 1640] C (mm_dec dk_law0 24 rfl) (by decide) (by decide) (by decide +kernel) (fun c40 => ?_) (fun k40 hk40 c40 => ?_)
      · have ea6 : mm_aA (i + 6) h = 200 + (i + 6).toNat + (mm_zf h).1 := rfl
        have eb6 : mm_bB (i + 6) h = 90000 + 6 * (i + 6).toNat + (mm_zf h).2 := rfl
        exact mm_widen (by omega) (by omega) (K h i0 r0 (mm_Rl_6 rl))
      · have hq40 : k40 < 31 := hk40
        rcases (by omega : k40 = 0 ∨ k40 = 1 ∨ k40 = 2 ∨ k40 = 3 ∨ k40 = 4 ∨ k40 = 5 ∨ k40 = 6 ∨ k40 = 7 ∨ k40 = 8 ∨ k40 = 9 ∨ k40 = 10 ∨ k40 = 11 ∨ k40 = 12 ∨ k40 = 13 ∨ k40 = 14 ∨ k40 = 15 ∨ k40 = 16 ∨ k40 = 17 ∨ k40 = 18 ∨ k40 = 19 ∨ k40 = 20 ∨ k40 = 21 ∨ k40 = 22 ∨ k40 = 23 ∨ k40 = 24 ∨ k40 = 25 ∨ k40 = 26 ∨ k40 = 27 ∨ k40 = 28 ∨ k40 = 29 ∨ k40 = 30) with rfl | rfl | rfl | rfl | rfl | rfl | rfl | rfl | rfl | rfl | rfl | rfl | rfl | rfl | rfl | rfl | rfl | rfl | rfl | rfl | rfl | rfl | rfl | rfl | rfl | rfl | rfl | rfl | rfl | rfl | rfl
        · show mm_W x _ _ 180 _ _ _; exact lw_c0 C X hl hL i hi h i0 r0 rl K
        · show mm_W x _ _ 217 _ _ _; exact lw_c1 C X hl hL i hi h i0 r0 rl K
        · show mm_W x _ _ 281 _ _ _; exact lw_c2 C X hl hL i hi h i0 r0 rl K
        · show mm_W x _ _ 321 _ _ _; exact lw_c3 C X hl hL i hi h i0 r0 rl K
        · show mm_W x _ _ 401 _ _ _; exact lw_c4 C X hl hL i hi h i0 r0 rl K
        · show mm_W x _ _ 465 _ _ _; exact lw_c5 C X hl hL i hi h i0 r0 rl K
        · show mm_W x _ _ 529 _ _ _; exact lw_c6 C X hl hL i hi h i0 r0 rl K
        · show mm_W x _ _ 557 _ _ _; exact lw_c7 C X hl hL i hi h i0 r0 rl K
        · show mm_W x _ _ 621 _ _ _; exact lw_c8 C X hl hL i hi h i0 r0 rl K
        · show mm_W x _ _ 673 _ _ _; exact lw_c9 C X hl hL i hi h i0 r0 rl K
        · show mm_W x _ _ 714 _ _ _; exact lw_c10 C X hl hL i hi h i0 r0 rl K
        · show mm_W x _ _ 778 _ _ _; exact lw_c11 C X hl hL i hi h i0 r0 rl K
        · show mm_W x _ _ 830 _ _ _; exact lw_c12 C X hl hL i hi h i0 r0 rl K
        · show mm_W x _ _ 870 _ _ _; exact lw_c13 C X hl hL i hi h i0 r0 rl K
        · show mm_W x _ _ 922 _ _ _; exact lw_c14 C X hl hL i hi h i0 r0 rl K
        · show mm_W x _ _ 950 _ _ _; exact lw_c15 C X hl hL i hi h i0 r0 rl K
        · show mm_W x _ _ 1014 _ _ _; exact lw_c16 C X hl hL i hi h i0 r0 rl K
        · show mm_W x _ _ 1042 _ _ _; exact lw_c17 C X hl hL i hi h i0 r0 rl K
        · show mm_W x _ _ 1094 _ _ _; exact lw_c18 C X hl hL i hi h i0 r0 rl K
        · show mm_W x _ _ 1146 _ _ _; exact lw_c19 C X hl hL i hi h i0 r0 rl K
        · show mm_W x _ _ 1226 _ _ _; exact lw_c20 C X hl hL i hi h i0 r0 rl K
        · show mm_W x _ _ 1299 _ _ _; exact lw_c21 C X hl hL i hi h i0 r0 rl K
        · show mm_W x _ _ 1327 _ _ _; exact lw_c22 C X hl hL i hi h i0 r0 rl K
        · show mm_W x _ _ 1340 _ _ _; exact lw_c23 C X hl hL i hi h i0 r0 rl K
        · show mm_W x _ _ 1368 _ _ _; exact lw_c24 C X hl hL i hi h i0 r0 rl K
        · show mm_W x _ _ 1420 _ _ _; exact lw_c25 C X hl hL i hi h i0 r0 rl K
        · show mm_W x _ _ 1504 _ _ _; exact lw_c26 C X hl hL i hi h i0 r0 rl K
        · show mm_W x _ _ 1544 _ _ _; exact lw_c27 C X hl hL i hi h i0 r0 rl K
        · show mm_W x _ _ 1572 _ _ _; exact lw_c28 C X hl hL i hi h i0 r0 rl K
        · show mm_W x _ _ 1612 _ _ _; exact lw_c29 C X hl hL i hi h i0 r0 rl K
        · show mm_W x _ _ 1640 _ _ _; exact lw_c30 C X hl hL i hi h i0 r0 rl K
