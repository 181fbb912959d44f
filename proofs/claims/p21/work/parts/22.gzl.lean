/-! ===== what is known of a runner ===== -/
def mm_rn9 (s f : Int) : Int := if s = -1 ∨ f = -1 then 0 else mm_w (f - s)
def mm_vv9 (a b c d e f g : Int) : Int → Int := fun j => if j = 0 then a else if j = 1 then b else if j = 2 then c else if j = 3 then d else if j = 4 then e else if j = 5 then f else g
theorem mm_vv9_at {v : Int → Int} {a b c d e f g : Int} (h0 : v 0 = a) (h1 : v 1 = b) (h2 : v 2 = c) (h3 : v 3 = d) (h4 : v 4 = e) (h5 : v 5 = f) (h6 : v 6 = g) : ∀ j, 0 ≤ j → j ≤ 6 → v j = mm_vv9 a b c d e f g j := fun j j0 j1 => by
  have k : j = 0 ∨ j = 1 ∨ j = 2 ∨ j = 3 ∨ j = 4 ∨ j = 5 ∨ j = 6 := by omega
  rcases k with k | k | k | k | k | k | k <;> subst k
  · exact h0
  · exact h1
  · exact h2
  · exact h3
  · exact h4
  · exact h5
  · exact h6
theorem mm_y1_cg {v v' p : Int → Int} {c : Int} {s : mm_Y9} (e : ∀ j, 0 ≤ j → j ≤ 6 → v' j = v j) : mm_y1 v' p c s = mm_y1 v p c s := by
  unfold mm_y1
  by_cases q1 : c < 100000
  · rw [if_pos q1, if_pos q1]
  · by_cases q2 : c < 100007
    · rw [if_neg q1, if_pos q2, if_neg q1, if_pos q2, e (c - 100000) (by omega) (by omega)]
    · rw [if_neg q1, if_neg q2, if_neg q1, if_neg q2]
theorem mm_yf_cg {v v' p f : Int → Int} (e : ∀ j, 0 ≤ j → j ≤ 6 → v' j = v j) : ∀ n : Nat, mm_yf v' p f n = mm_yf v p f n
  | 0 => rfl
  | n + 1 => by
    show mm_y1 v' p (f (n : Int)) (mm_yf v' p f n) = mm_y1 v p (f (n : Int)) (mm_yf v p f n)
    rw [mm_yf_cg e n, mm_y1_cg e]
def mm_sa9 (s f ve ou mi k : Int) : Int := if s = -1 ∨ k < s then 0 else if f = -1 ∨ f < s then 1 else if ve = 1 then 4 else if ve = 2 ∨ ou ≠ 0 then 2 else if 0 < mi then 3 else 4
def mm_to9 (fr sc ru pe ad : Int) : Int := if fr ≠ 0 then mm_w (sc - mm_w (pe + ad)) else mm_w (ru + mm_w (pe + ad))
def mm_FX (h : mH) (p k s f mi wr sc pe ou : Int) : Prop := mm_sX8 h p k s ∧ mm_tm8 (h.2.1 34) (mm_k1 h 2 p k) (h.1 30 6) f ∧ (∃ (K Q : Int → Int) (m : Int), mm_jX8 h p k K Q m ∧ ((h.2.1 17 (h.2.1 23 p) ≠ 0 ∧ mi = 0) ∨ (h.2.1 17 (h.2.1 23 p) = 0 ∧ mi = mm_uk9 K (mm_nX h p).toNat)) ∧ wr = mm_wg9 (mm_rX h p) (mm_nX h p).toNat (fun j => h.2.1 33 (Q j)) m.toNat ∧ sc = mm_sc9 K (mm_rX h p) (h.2.1 16) (mm_nX h p).toNat) ∧ (pe, ou) = (mm_yf (mm_vv9 mi wr (mm_rn9 s f) sc (mm_nX h p) (h.2.1 24 p) (if h.2.1 17 (h.2.1 23 p) ≠ 0 then 1 else 0)) (h.2.1 44) (h.2.1 43) (h.1 42 3).toNat).2
theorem mm_cd8_q {h h2 : mH} {p k : Int} (C : mm_cd8 h h2 p k) : ∃ Q : Int → Int, mm_jX8 h p k (h2.2.1 52) Q (h2.1 48 9) ∧ ∀ j, 0 ≤ j → j < h2.1 48 9 → h2.2.1 50 j = h.2.1 33 (Q j) := by
  obtain ⟨en, R, ⟨Q, S, q⟩, c⟩ := C
  refine ⟨Q, ⟨S, ?_⟩, fun j a b => (q j a b).1⟩
  rcases c with ⟨a, b⟩ | ⟨a, b⟩
  · refine Or.inl ⟨a, fun j j0 j1 => ?_⟩
    have z := b j j0 (by rw [en]; exact j1)
    rw [R j j0 j1] at z
    exact mm_ff8_cg z (by omega) (fun i i0 i1 => (q i i0 i1).1.symm)
  · refine Or.inr ⟨fun z => z a, fun L LS => ?_⟩
    have S2 : mm_S8 h2 L := by
      unfold mm_S8
      rw [en]
      exact mm_LS8_cg LS (fun j j0 j1 => R j j0 j1) (fun j j0 j1 => (q j j0 j1).1)
    obtain ⟨f, l, z⟩ := b L S2
    rw [en] at z
    refine ⟨f, l, ?_⟩
    by_cases n0 : 0 ≤ mm_nX h p
    · exact (mm_kp8_w (n := mm_nX h p) (fun j j0 j1 => (R j j0 j1).symm) (fun j j0 j1 => (q j j0 j1).1.symm) _ f l (by omega) z).2
    · exact (mm_kp8_w (n := 0) (fun j j0 j1 => absurd j1 (by omega)) (fun j j0 j1 => (q j j0 j1).1.symm) _ f l (by omega) z).2
theorem mm_FX_of {h hf hq ha : mH} {p k s f pe ou : Int} (C : mm_cd8 h hf p k) (S : mm_sX8 h p k s) (T : mm_tm8 (h.2.1 34) (mm_k1 h 2 p k) (h.1 30 6) f)
    (F : mm_fr [(48, 8), (48, 9)] [49, 50, 51, 52, 53] h hf) (e2 : hq.2.1 = hf.2.1) (e8 : hq.1 48 8 = hf.1 48 8) (e9 : hq.1 48 9 = hf.1 48 9) (e6 : hq.1 46 6 = s) (e7 : hq.1 46 7 = f) (n0 : 0 ≤ hf.1 48 8) (m0 : 0 ≤ hf.1 48 9)
    (v0 : (hq.2.1 17 (hq.2.1 23 p) ≠ 0 ∧ ha.2.1 47 0 = 0) ∨ (hq.2.1 17 (hq.2.1 23 p) = 0 ∧ ha.2.1 47 0 = mm_uk9 (hq.2.1 52) (hq.1 48 8).toNat))
    (v1 : ha.2.1 47 1 = mm_wg9 (hq.2.1 49) (hq.1 48 8).toNat (hq.2.1 50) (hq.1 48 9).toNat) (v2 : ha.2.1 47 2 = mm_rn9 (hq.1 46 6) (hq.1 46 7)) (v3 : ha.2.1 47 3 = mm_sc9 (hq.2.1 52) (hq.2.1 49) (hq.2.1 16) (hq.1 48 8).toNat) (v4 : ha.2.1 47 4 = hq.1 48 8) (v5 : ha.2.1 47 5 = hq.2.1 24 p) (v6 : ha.2.1 47 6 = if hq.2.1 17 (hq.2.1 23 p) ≠ 0 then 1 else 0)
    (A : (pe, ou) = (mm_yf (ha.2.1 47) (ha.2.1 44) (ha.2.1 43) (ha.1 42 3).toNat).2) (e44 : ∀ j, ha.2.1 44 j = h.2.1 44 j) (e43 : ∀ j, ha.2.1 43 j = h.2.1 43 j) (e42 : ha.1 42 3 = h.1 42 3) :
    mm_FX h p k s f (ha.2.1 47 0) (ha.2.1 47 1) (ha.2.1 47 3) pe ou ∧ ha.2.1 47 2 = mm_rn9 s f := by
  rw [e2, F.2 17 (by decide), F.2 23 (by decide)] at v0 v6
  rw [e2, e8, e9] at v1
  rw [e6, e7] at v2
  rw [e2, e8, show hf.2.1 16 = h.2.1 16 from funext (F.2 16 (by decide))] at v3
  rw [e2, F.2 24 (by decide)] at v5
  rw [e8] at v4 v0
  obtain ⟨Q, J, q⟩ := mm_cd8_q C
  have en : hf.1 48 8 = mm_nX h p := C.1
  have R : mm_rw hf 49 (mm_rX h p) (mm_nX h p) := C.2.1
  have Rn : ∀ j, 0 ≤ j → j < ((mm_nX h p).toNat : Int) → hf.2.1 49 j = mm_rX h p j := fun j a b => R j a (by omega)
  rw [en] at v0 v1 v3 v4
  refine ⟨⟨S, T, ⟨hf.2.1 52, Q, hf.1 48 9, J, v0, ?_, ?_⟩, ?_⟩, v2⟩
  · rw [v1]
    exact mm_wg9_cg Rn _ (fun j a b => q j a (by omega))
  · rw [v3]
    exact mm_sc9_cg _ (fun _ _ _ => rfl) (fun j a b => by rw [Rn j a b])
  · rw [A, mm_yf_cg (mm_vv9_at rfl rfl v2 rfl v4 v5 v6), show ha.2.1 44 = h.2.1 44 from funext e44, show ha.2.1 43 = h.2.1 43 from funext e43, e42]
def mm_aX9 (h : mH) (p k : Int) : Int := mm_ad9 (h.2.1 37) (h.2.1 40) (h.2.1 38) (h.2.1 39) p k (h.1 30 12).toNat
def mm_vX9 (h : mH) (p k : Int) : Int := (mm_ve9 (h.2.1 37) (h.2.1 40) (h.2.1 38) (h.2.1 41) p k (h.1 30 12).toNat).2
def mm_LX0 (h b : mH) (p k : Int) : Prop := mm_FX h p k (b.1 46 6) (b.1 46 7) (b.2.1 47 0) (b.2.1 47 1) (b.2.1 47 3) (b.1 46 8) (b.1 42 6) ∧ b.2.1 47 2 = mm_rn9 (b.1 46 6) (b.1 46 7) ∧ b.1 46 9 = mm_aX9 h p k ∧ b.1 46 5 = mm_sa9 (b.1 46 6) (b.1 46 7) (mm_vX9 h p k) (b.1 42 6) (b.2.1 47 0) k
def mm_LX (h b : mH) (p k : Int) : Prop := mm_LX0 h b p k ∧ ((b.1 46 5 ≠ 4 ∧ b.1 46 10 = -100000) ∨ (b.1 46 5 = 4 ∧ b.1 46 10 = mm_to9 (h.2.1 17 (h.2.1 23 p)) (b.2.1 47 3) (b.2.1 47 2) (b.1 46 8) (b.1 46 9)))
theorem mm_LX0_of {h b a : mH} {p k s f pe ou : Int} (F : mm_FX h p k s f (a.2.1 47 0) (a.2.1 47 1) (a.2.1 47 3) pe ou ∧ a.2.1 47 2 = mm_rn9 s f) (e6 : b.1 46 6 = s) (e7 : b.1 46 7 = f) (r : ∀ j, b.2.1 47 j = a.2.1 47 j) (e8 : b.1 46 8 = pe) (eo : b.1 42 6 = ou) (e9 : b.1 46 9 = mm_aX9 h p k) (e5 : b.1 46 5 = mm_sa9 s f (mm_vX9 h p k) ou (a.2.1 47 0) k) : mm_LX0 h b p k := by
  unfold mm_LX0
  rw [e6, e7, r, r, r, r, e8, eo, e9, e5]
  exact ⟨F.1, F.2, rfl, rfl⟩
theorem mm_adX_fr {h a : mH} {p k r : Int} (y : r = mm_ad9 (a.2.1 37) (a.2.1 40) (a.2.1 38) (a.2.1 39) p k (a.1 30 12).toNat) (e37 : ∀ j, a.2.1 37 j = h.2.1 37 j) (e40 : ∀ j, a.2.1 40 j = h.2.1 40 j) (e38 : ∀ j, a.2.1 38 j = h.2.1 38 j) (e39 : ∀ j, a.2.1 39 j = h.2.1 39 j) (n : a.1 30 12 = h.1 30 12) : r = mm_aX9 h p k := by
  rw [y, show a.2.1 37 = h.2.1 37 from funext e37, show a.2.1 40 = h.2.1 40 from funext e40, show a.2.1 38 = h.2.1 38 from funext e38, show a.2.1 39 = h.2.1 39 from funext e39, n]
  rfl
theorem mm_veX_fr {h a : mH} {p k r : Int} (y : r = (mm_ve9 (a.2.1 37) (a.2.1 40) (a.2.1 38) (a.2.1 41) p k (a.1 30 12).toNat).2) (e37 : ∀ j, a.2.1 37 j = h.2.1 37 j) (e40 : ∀ j, a.2.1 40 j = h.2.1 40 j) (e38 : ∀ j, a.2.1 38 j = h.2.1 38 j) (e41 : ∀ j, a.2.1 41 j = h.2.1 41 j) (n : a.1 30 12 = h.1 30 12) : r = mm_vX9 h p k := by
  rw [y, show a.2.1 37 = h.2.1 37 from funext e37, show a.2.1 40 = h.2.1 40 from funext e40, show a.2.1 38 = h.2.1 38 from funext e38, show a.2.1 41 = h.2.1 41 from funext e41, n]
  rfl
theorem mm_LX0_pf {h a b : mH} {p k v : Int} (X : mm_LX0 h a p k) (e : b = mm_pf a 46 10 v) : mm_LX0 h b p k := by
  have n : ∀ x y, (46, 10) ≠ (x, y) → b.1 x y = a.1 x y := fun x y hxy => by rw [e]; exact mm_pf_ne _ _ (fun z => hxy (by rw [z.1, z.2]))
  have r : ∀ o j, b.2.1 o j = a.2.1 o j := fun o j => by rw [e]; rfl
  unfold mm_LX0 at X ⊢
  rw [n 46 6 (by decide), n 46 7 (by decide), n 46 8 (by decide), n 42 6 (by decide), n 46 9 (by decide), n 46 5 (by decide), r, r, r, r]
  exact X
theorem mm_to9_pf {a b : mH} {fr v : Int} (e : b = mm_pf a 46 10 v) (w : v = mm_to9 fr (a.2.1 47 3) (a.2.1 47 2) (a.1 46 8) (a.1 46 9)) : b.1 46 10 = mm_to9 fr (b.2.1 47 3) (b.2.1 47 2) (b.1 46 8) (b.1 46 9) := by
  rw [e, mm_pf_same, w]
  rfl

set_option maxRecDepth 100000 in
set_option maxHeartbeats 4000000 in
theorem c_X4_fillValues_q (l : Launch) (hl : l.stackTraces = false) (d : Nat) (hd : 2 ≤ d) (h : mH) (i0 : mm_inv h) (p1 : Int) (bp1 : 0 ≤ p1 ∧ p1 ≤ 39) : mm_Met l d yX4_fillValues cX4_fillValues 3 none [mR 46, mI p1] h (mm_pv fun h2 => mm_inv h2 ∧ mm_fr [] [47] h h2 ∧ ((h.2.1 17 (h.2.1 23 p1) ≠ 0 ∧ h2.2.1 47 0 = 0) ∨ (h.2.1 17 (h.2.1 23 p1) = 0 ∧ h2.2.1 47 0 = mm_uk9 (h.2.1 52) (h.1 48 8).toNat)) ∧ h2.2.1 47 1 = mm_wg9 (h.2.1 49) (h.1 48 8).toNat (h.2.1 50) (h.1 48 9).toNat ∧ h2.2.1 47 2 = mm_rn9 (h.1 46 6) (h.1 46 7) ∧ h2.2.1 47 3 = mm_sc9 (h.2.1 52) (h.2.1 49) (h.2.1 16) (h.1 48 8).toNat ∧ h2.2.1 47 4 = h.1 48 8 ∧ h2.2.1 47 5 = h.2.1 24 p1 ∧ h2.2.1 47 6 = (if h.2.1 17 (h.2.1 23 p1) ≠ 0 then (1 : Int) else 0)) mm_nx 0 0 := by
  refine mm_ofW (ls := [mR 46, mI p1, mU]) hl (by decide) rfl (Nat.le_of_ble_eq_true rfl) ?_
  intro x hxl C T hnm htb
  subst hxl
  have C1 := mm_OK_le (d' := d - 1 + 1) (by omega) C
  refine mm_rng (fun hr _ => ?_)
  have ap1 : -2147483648 ≤ p1 ∧ p1 < 2147483648 := mm_ok_at hr (i := 1) rfl
  have f0 : mm_fr [] [47] h h := mm_fr_rf
  have g1 : -2147483648 ≤ h.1 46 6 ∧ h.1 46 6 ≤ 2147483647 := i0.1 46 6
  have g2 : -2147483648 ≤ h.1 46 7 ∧ h.1 46 7 ≤ 2147483647 := i0.1 46 7
  have g3 : 0 ≤ h.1 48 8 ∧ h.1 48 8 ≤ 12 := i0.1 48 8
  have g4 : 0 ≤ h.1 48 9 ∧ h.1 48 9 ≤ 500 := i0.1 48 9
  refine mm_aload_n C (mm_dec dk_X4_fillValues 0 rfl) rfl ?_
  refine mm_getr (t := 22) C fl_X4_38 (mm_dec dk_X4_fillValues 1 rfl) rfl rfl (mm_ref i0 rfl) ?_
  refine mm_iload_n C (mm_dec dk_X4_fillValues 2 rfl) rfl ?_
  refine mm_cVi (rest := []) C1 ev_X4_99 (mm_dec dk_X4_fillValues 3 rfl) (c_X9_runsFree x.2.1 hl (d - 1) (by omega) h i0 p1 ⟨by omega, by omega⟩) rfl rfl (Nat.le_of_ble_eq_true rfl) ⟨by decide, by decide⟩ rfl (fun r5 h5c hp5 => ?_) (fun _ _ q => q.elim)
  obtain ⟨z5, y5⟩ := hp5
  rw [z5, y5]
  have g6 : 0 ≤ (h.2.1 17 (h.2.1 23 p1)) ∧ (h.2.1 17 (h.2.1 23 p1)) ≤ 1 := i0.2.1 17 (h.2.1 23 p1)
  have g7 : 0 ≤ (h.2.1 23 p1) ∧ (h.2.1 23 p1) ≤ 7 := i0.2.1 23 p1
  refine mm_istore_nL (ls2 := [mR 46, mI p1, mI (h.2.1 17 (h.2.1 23 p1))]) C (mm_dec dk_X4_fillValues 4 rfl) (by decide) rfl ?_
  refine mm_aload_n C (mm_dec dk_X4_fillValues 5 rfl) rfl ?_
  refine mm_getr (t := 47) C fl_X4_9 (mm_dec dk_X4_fillValues 6 rfl) rfl rfl (mm_ref i0 rfl) ?_
  refine mm_iconst C (mm_dec dk_X4_fillValues 7 rfl) ⟨by decide, by decide⟩ ?_
  refine mm_iload_n C (mm_dec dk_X4_fillValues 8 rfl) rfl ?_
  have J29 : ∀ (s29_2 : Int) (bs29_2 : 0 ≤ s29_2 ∧ s29_2 ≤ 12) (w29_0 : ((h.2.1 17 (h.2.1 23 p1) ≠ 0 ∧ s29_2 = 0) ∨ (h.2.1 17 (h.2.1 23 p1) = 0 ∧ s29_2 = mm_uk9 (h.2.1 52) (h.1 48 8).toNat))), mm_W x 0 0 29 [mR 46, mI p1, mI (h.2.1 17 (h.2.1 23 p1))] [mI s29_2, mI 0, mR 47] h := by
    intro s29_2 bs29_2 w29_0
    have g8 : -2147483648 ≤ h.1 46 6 ∧ h.1 46 6 ≤ 2147483647 := i0.1 46 6
    have g9 : -2147483648 ≤ h.1 46 7 ∧ h.1 46 7 ≤ 2147483647 := i0.1 46 7
    have g10 : 0 ≤ h.1 48 8 ∧ h.1 48 8 ≤ 12 := i0.1 48 8
    have g11 : 0 ≤ h.1 48 9 ∧ h.1 48 9 ≤ 500 := i0.1 48 9
    refine mm_iast C (mm_dec dk_X4_fillValues 15 rfl) rfl (by omega) (by omega) ?_
    have i1 : mm_inv (mm_pa h 47 0 s29_2) := mm_inv_pa i0 (show -2147483648 ≤ s29_2 ∧ s29_2 ≤ 2147483647 from ⟨by omega, by omega⟩)
    have f1 : mm_fr [] [47] h (mm_pa h 47 0 s29_2) := mm_fr_pa f0 (by decide)
    obtain ⟨h1, eh1⟩ : ∃ z, z = mm_pa h 47 0 s29_2 := ⟨_, rfl⟩
    rw [← eh1] at i1 f1 ⊢
    have qh1_12 : h1.1 46 6 = h.1 46 6 := by rw [eh1]; rfl
    have qh1_13 : h1.1 46 7 = h.1 46 7 := by rw [eh1]; rfl
    have qh1_14 : h1.1 48 8 = h.1 48 8 := by rw [eh1]; rfl
    have qh1_15 : h1.1 48 9 = h.1 48 9 := by rw [eh1]; rfl
    refine mm_aload_n C (mm_dec dk_X4_fillValues 16 rfl) rfl ?_
    refine mm_getr (t := 47) C fl_X4_9 (mm_dec dk_X4_fillValues 17 rfl) rfl rfl (mm_ref i1 rfl) ?_
    refine mm_iconst C (mm_dec dk_X4_fillValues 18 rfl) ⟨by decide, by decide⟩ ?_
    refine mm_aload_n C (mm_dec dk_X4_fillValues 19 rfl) rfl ?_
    refine mm_getr (t := 48) C fl_X4_55 (mm_dec dk_X4_fillValues 20 rfl) rfl rfl (mm_ref i1 rfl) ?_
    refine mm_cVi (rest := [mI 1, mR 47]) C1 ev_X4_140 (mm_dec dk_X4_fillValues 21 rfl) (c_X1_wrong_q x.2.1 hl (d - 1) (by omega) h1 i1 ) rfl rfl (Nat.le_of_ble_eq_true rfl) ⟨by decide, by decide⟩ rfl (fun r39 h39c hp39 => ?_) (fun _ _ q => q.elim)
    obtain ⟨b39, z39, y39_0⟩ := hp39
    rw [z39]
    have z39 : r39 = mm_wg9 (h.2.1 49) (h.1 48 8).toNat (h.2.1 50) (h.1 48 9).toNat := y39_0.trans (by rw [show h1.2.1 49 = h.2.1 49 from funext (f1.2 49 (by decide)), show h1.2.1 50 = h.2.1 50 from funext (f1.2 50 (by decide)), show h1.1 48 8 = h.1 48 8 from f1.1 48 8 (by decide), show h1.1 48 9 = h.1 48 9 from f1.1 48 9 (by decide)])
    refine mm_iast C (mm_dec dk_X4_fillValues 22 rfl) rfl (by omega) (by omega) ?_
    have i2 : mm_inv (mm_pa h1 47 1 r39) := mm_inv_pa i1 (show -2147483648 ≤ r39 ∧ r39 ≤ 2147483647 from ⟨by omega, by omega⟩)
    have f2 : mm_fr [] [47] h (mm_pa h1 47 1 r39) := mm_fr_pa f1 (by decide)
    obtain ⟨h2, eh2⟩ : ∃ z, z = mm_pa h1 47 1 r39 := ⟨_, rfl⟩
    rw [← eh2] at i2 f2 ⊢
    have qh2_17 : h2.1 46 6 = h1.1 46 6 := by rw [eh2]; rfl
    have qh2_18 : h2.1 46 7 = h1.1 46 7 := by rw [eh2]; rfl
    have qh2_19 : h2.1 48 8 = h1.1 48 8 := by rw [eh2]; rfl
    have qh2_20 : h2.1 48 9 = h1.1 48 9 := by rw [eh2]; rfl
    refine mm_aload_n C (mm_dec dk_X4_fillValues 23 rfl) rfl ?_
    refine mm_getr (t := 47) C fl_X4_9 (mm_dec dk_X4_fillValues 24 rfl) rfl rfl (mm_ref i2 rfl) ?_
    refine mm_iconst C (mm_dec dk_X4_fillValues 25 rfl) ⟨by decide, by decide⟩ ?_
    refine mm_aload_n C (mm_dec dk_X4_fillValues 26 rfl) rfl ?_
    refine mm_geti C fl_X4_19 (mm_dec dk_X4_fillValues 27 rfl) rfl rfl (Or.inl rfl) ?_
    refine mm_iconst C (mm_dec dk_X4_fillValues 28 rfl) ⟨by decide, by decide⟩ ?_
    have J77 : ∀ (s77_2 : Int) (bs77_2 : -2147483648 ≤ s77_2 ∧ s77_2 ≤ 2147483647) (w77_0 : s77_2 = mm_rn9 (h.1 46 6) (h.1 46 7)), mm_W x 0 0 77 [mR 46, mI p1, mI (h.2.1 17 (h.2.1 23 p1))] [mI s77_2, mI 2, mR 47] h2 := by
      intro s77_2 bs77_2 w77_0
      refine mm_iast C (mm_dec dk_X4_fillValues 41 rfl) rfl (by omega) (by omega) ?_
      have i3 : mm_inv (mm_pa h2 47 2 s77_2) := mm_inv_pa i2 (show -2147483648 ≤ s77_2 ∧ s77_2 ≤ 2147483647 from ⟨by omega, by omega⟩)
      have f3 : mm_fr [] [47] h (mm_pa h2 47 2 s77_2) := mm_fr_pa f2 (by decide)
      obtain ⟨h3, eh3⟩ : ∃ z, z = mm_pa h2 47 2 s77_2 := ⟨_, rfl⟩
      rw [← eh3] at i3 f3 ⊢
      have qh3_21 : h3.1 46 6 = h2.1 46 6 := by rw [eh3]; rfl
      have qh3_22 : h3.1 46 7 = h2.1 46 7 := by rw [eh3]; rfl
      have qh3_23 : h3.1 48 8 = h2.1 48 8 := by rw [eh3]; rfl
      have qh3_24 : h3.1 48 9 = h2.1 48 9 := by rw [eh3]; rfl
      refine mm_aload_n C (mm_dec dk_X4_fillValues 42 rfl) rfl ?_
      refine mm_getr (t := 47) C fl_X4_9 (mm_dec dk_X4_fillValues 43 rfl) rfl rfl (mm_ref i3 rfl) ?_
      refine mm_iconst C (mm_dec dk_X4_fillValues 44 rfl) ⟨by decide, by decide⟩ ?_
      refine mm_aload_n C (mm_dec dk_X4_fillValues 45 rfl) rfl ?_
      refine mm_getr (t := 48) C fl_X4_55 (mm_dec dk_X4_fillValues 46 rfl) rfl rfl (mm_ref i3 rfl) ?_
      refine mm_cVi (rest := [mI 3, mR 47]) C1 ev_X4_143 (mm_dec dk_X4_fillValues 47 rfl) (c_X1_score_q x.2.1 hl (d - 1) (by omega) h3 i3 ) rfl rfl (Nat.le_of_ble_eq_true rfl) ⟨by decide, by decide⟩ rfl (fun r87 h87c hp87 => ?_) (fun _ _ q => q.elim)
      obtain ⟨b87, z87, y87_0⟩ := hp87
      rw [z87]
      have z87 : r87 = mm_sc9 (h.2.1 52) (h.2.1 49) (h.2.1 16) (h.1 48 8).toNat := y87_0.trans (by rw [show h3.2.1 52 = h.2.1 52 from funext (f3.2 52 (by decide)), show h3.2.1 49 = h.2.1 49 from funext (f3.2 49 (by decide)), show h3.2.1 16 = h.2.1 16 from funext (f3.2 16 (by decide)), show h3.1 48 8 = h.1 48 8 from f3.1 48 8 (by decide)])
      refine mm_iast C (mm_dec dk_X4_fillValues 48 rfl) rfl (by omega) (by omega) ?_
      have i4 : mm_inv (mm_pa h3 47 3 r87) := mm_inv_pa i3 (show -2147483648 ≤ r87 ∧ r87 ≤ 2147483647 from ⟨by omega, by omega⟩)
      have f4 : mm_fr [] [47] h (mm_pa h3 47 3 r87) := mm_fr_pa f3 (by decide)
      obtain ⟨h4, eh4⟩ : ∃ z, z = mm_pa h3 47 3 r87 := ⟨_, rfl⟩
      rw [← eh4] at i4 f4 ⊢
      have qh4_26 : h4.1 46 6 = h3.1 46 6 := by rw [eh4]; rfl
      have qh4_27 : h4.1 46 7 = h3.1 46 7 := by rw [eh4]; rfl
      have qh4_28 : h4.1 48 8 = h3.1 48 8 := by rw [eh4]; rfl
      have qh4_29 : h4.1 48 9 = h3.1 48 9 := by rw [eh4]; rfl
      refine mm_aload_n C (mm_dec dk_X4_fillValues 49 rfl) rfl ?_
      refine mm_getr (t := 47) C fl_X4_9 (mm_dec dk_X4_fillValues 50 rfl) rfl rfl (mm_ref i4 rfl) ?_
      refine mm_iconst C (mm_dec dk_X4_fillValues 51 rfl) ⟨by decide, by decide⟩ ?_
      refine mm_aload_n C (mm_dec dk_X4_fillValues 52 rfl) rfl ?_
      refine mm_getr (t := 48) C fl_X4_55 (mm_dec dk_X4_fillValues 53 rfl) rfl rfl (mm_ref i4 rfl) ?_
      refine mm_cVi (rest := [mI 4, mR 47]) C1 ev_X4_146 (mm_dec dk_X4_fillValues 54 rfl) (c_X1_rowSize x.2.1 hl (d - 1) (by omega) h4 i4 ) rfl rfl (Nat.le_of_ble_eq_true rfl) ⟨by decide, by decide⟩ rfl (fun r100 h100c hp100 => ?_) (fun _ _ q => q.elim)
      obtain ⟨z100, y100⟩ := hp100
      rw [z100, y100]
      refine mm_iast C (mm_dec dk_X4_fillValues 55 rfl) rfl (by omega) (by omega) ?_
      have i5 : mm_inv (mm_pa h4 47 4 (h4.1 48 8)) := mm_inv_pa i4 (show -2147483648 ≤ (h4.1 48 8) ∧ (h4.1 48 8) ≤ 2147483647 from ⟨by omega, by omega⟩)
      have f5 : mm_fr [] [47] h (mm_pa h4 47 4 (h4.1 48 8)) := mm_fr_pa f4 (by decide)
      obtain ⟨h5, eh5⟩ : ∃ z, z = mm_pa h4 47 4 (h4.1 48 8) := ⟨_, rfl⟩
      rw [← eh5] at i5 f5 ⊢
      have qh5_31 : h5.1 46 6 = h4.1 46 6 := by rw [eh5]; rfl
      have qh5_32 : h5.1 46 7 = h4.1 46 7 := by rw [eh5]; rfl
      have qh5_33 : h5.1 48 8 = h4.1 48 8 := by rw [eh5]; rfl
      have qh5_34 : h5.1 48 9 = h4.1 48 9 := by rw [eh5]; rfl
      refine mm_aload_n C (mm_dec dk_X4_fillValues 56 rfl) rfl ?_
      refine mm_getr (t := 47) C fl_X4_9 (mm_dec dk_X4_fillValues 57 rfl) rfl rfl (mm_ref i5 rfl) ?_
      refine mm_iconst C (mm_dec dk_X4_fillValues 58 rfl) ⟨by decide, by decide⟩ ?_
      refine mm_aload_n C (mm_dec dk_X4_fillValues 59 rfl) rfl ?_
      refine mm_getr (t := 22) C fl_X4_38 (mm_dec dk_X4_fillValues 60 rfl) rfl rfl (mm_ref i5 rfl) ?_
      refine mm_iload_n C (mm_dec dk_X4_fillValues 61 rfl) rfl ?_
      refine mm_cVi (rest := [mI 5, mR 47]) C1 ev_X4_149 (mm_dec dk_X4_fillValues 62 rfl) (c_X9_clubOf x.2.1 hl (d - 1) (by omega) h5 i5 p1 ⟨by omega, by omega⟩) rfl rfl (Nat.le_of_ble_eq_true rfl) ⟨by decide, by decide⟩ rfl (fun r114 h114c hp114 => ?_) (fun _ _ q => q.elim)
      obtain ⟨z114, y114⟩ := hp114
      rw [z114, y114]
      have g36 : 0 ≤ (h5.2.1 24 p1) ∧ (h5.2.1 24 p1) ≤ 9 := i5.2.1 24 p1
      have z24 : h5.2.1 24 p1 = h.2.1 24 p1 := f5.2 24 (by decide) _
      refine mm_iast C (mm_dec dk_X4_fillValues 63 rfl) rfl (by omega) (by omega) ?_
      have i6 : mm_inv (mm_pa h5 47 5 (h5.2.1 24 p1)) := mm_inv_pa i5 (show -2147483648 ≤ (h5.2.1 24 p1) ∧ (h5.2.1 24 p1) ≤ 2147483647 from ⟨by omega, by omega⟩)
      have f6 : mm_fr [] [47] h (mm_pa h5 47 5 (h5.2.1 24 p1)) := mm_fr_pa f5 (by decide)
      obtain ⟨h6, eh6⟩ : ∃ z, z = mm_pa h5 47 5 (h5.2.1 24 p1) := ⟨_, rfl⟩
      rw [← eh6] at i6 f6 ⊢
      have qh6_37 : h6.1 46 6 = h5.1 46 6 := by rw [eh6]; rfl
      have qh6_38 : h6.1 46 7 = h5.1 46 7 := by rw [eh6]; rfl
      have qh6_39 : h6.1 48 8 = h5.1 48 8 := by rw [eh6]; rfl
      have qh6_40 : h6.1 48 9 = h5.1 48 9 := by rw [eh6]; rfl
      refine mm_aload_n C (mm_dec dk_X4_fillValues 64 rfl) rfl ?_
      refine mm_getr (t := 47) C fl_X4_9 (mm_dec dk_X4_fillValues 65 rfl) rfl rfl (mm_ref i6 rfl) ?_
      refine mm_bipush C (mm_dec dk_X4_fillValues 66 rfl) ⟨by decide, by decide⟩ ?_
      refine mm_iload_n C (mm_dec dk_X4_fillValues 67 rfl) rfl ?_
      have J133 : ∀ (s133_2 : Int) (bs133_2 : 0 ≤ s133_2 ∧ s133_2 ≤ 1) (w133_0 : s133_2 = (if h.2.1 17 (h.2.1 23 p1) ≠ 0 then (1 : Int) else 0)), mm_W x 0 0 133 [mU, mU, mU] [mI s133_2, mI 6, mR 47] h6 := by
        intro s133_2 bs133_2 w133_0
        refine mm_iast C (mm_dec dk_X4_fillValues 72 rfl) rfl (by omega) (by omega) ?_
        have i7 : mm_inv (mm_pa h6 47 6 s133_2) := mm_inv_pa i6 (show -2147483648 ≤ s133_2 ∧ s133_2 ≤ 2147483647 from ⟨by omega, by omega⟩)
        have f7 : mm_fr [] [47] h (mm_pa h6 47 6 s133_2) := mm_fr_pa f6 (by decide)
        obtain ⟨h7, eh7⟩ : ∃ z, z = mm_pa h6 47 6 s133_2 := ⟨_, rfl⟩
        rw [← eh7] at i7 f7 ⊢
        have qh7_41 : h7.1 46 6 = h6.1 46 6 := by rw [eh7]; rfl
        have qh7_42 : h7.1 46 7 = h6.1 46 7 := by rw [eh7]; rfl
        have qh7_43 : h7.1 48 8 = h6.1 48 8 := by rw [eh7]; rfl
        have qh7_44 : h7.1 48 9 = h6.1 48 9 := by rw [eh7]; rfl
        exact mm_vret C T (mm_dec dk_X4_fillValues 73 rfl) (by decide : 0 ≤ 0) (by decide : 0 ≤ 0) ⟨rfl, ⟨i7, f7, by (rw [show h7.2.1 47 0 = _ from (mm_pa_off eh7 (by omega)).trans ((mm_pa_off eh6 (by omega)).trans ((mm_pa_off eh5 (by omega)).trans ((mm_pa_off eh4 (by omega)).trans ((mm_pa_off eh3 (by omega)).trans ((mm_pa_off eh2 (by omega)).trans (mm_pa_at eh1 (by omega)))))))]; exact w29_0), by exact ((mm_pa_off eh7 (by omega)).trans ((mm_pa_off eh6 (by omega)).trans ((mm_pa_off eh5 (by omega)).trans ((mm_pa_off eh4 (by omega)).trans ((mm_pa_off eh3 (by omega)).trans (mm_pa_at eh2 (by omega))))))).trans z39, by exact ((mm_pa_off eh7 (by omega)).trans ((mm_pa_off eh6 (by omega)).trans ((mm_pa_off eh5 (by omega)).trans ((mm_pa_off eh4 (by omega)).trans (mm_pa_at eh3 (by omega)))))).trans w77_0, by exact ((mm_pa_off eh7 (by omega)).trans ((mm_pa_off eh6 (by omega)).trans ((mm_pa_off eh5 (by omega)).trans (mm_pa_at eh4 (by omega))))).trans z87, by exact ((mm_pa_off eh7 (by omega)).trans ((mm_pa_off eh6 (by omega)).trans (mm_pa_at eh5 (by omega)))).trans (by omega), by exact ((mm_pa_off eh7 (by omega)).trans (mm_pa_at eh6 (by omega))).trans z24, by exact (mm_pa_at eh7 (by omega)).trans w133_0⟩⟩
      refine mm_if_eq (tgt := 132) C (mm_dec dk_X4_fillValues 68 rfl) (by decide) (fun c125 => ?_) (fun c125 => ?_)
      · skip
        refine mm_iconst C (mm_dec dk_X4_fillValues 71 rfl) ⟨by decide, by decide⟩ ?_
        refine mm_fgt 0 ?_
        refine mm_fgt 1 ?_
        refine mm_fgt 2 ?_
        exact J133 0 ⟨by omega, by omega⟩ (by first | exact (if_pos (by omega)).symm | exact (if_neg (by omega)).symm)
      · skip
        refine mm_iconst C (mm_dec dk_X4_fillValues 69 rfl) ⟨by decide, by decide⟩ ?_
        refine mm_goto (tgt := 133) C (mm_dec dk_X4_fillValues 70 rfl) (by decide) ?_
        refine mm_fgt 0 ?_
        refine mm_fgt 1 ?_
        refine mm_fgt 2 ?_
        exact J133 1 ⟨by omega, by omega⟩ (by first | exact (if_pos (by omega)).symm | exact (if_neg (by omega)).symm)
    have J64 : ∀ (w64_0 : (h.1 46 6 = -1 ∨ h.1 46 7 = -1)), mm_W x 0 0 64 [mR 46, mI p1, mI (h.2.1 17 (h.2.1 23 p1))] [mI 2, mR 47] h2 := by
      intro w64_0
      refine mm_iconst C (mm_dec dk_X4_fillValues 34 rfl) ⟨by decide, by decide⟩ ?_
      refine mm_goto (tgt := 77) C (mm_dec dk_X4_fillValues 35 rfl) (by decide) ?_
      exact J77 0 ⟨by omega, by omega⟩ (by first | exact (if_pos w64_0).symm | exact (congrArg mm_w (show _ = h.1 46 7 - h.1 46 6 by omega)).trans (if_neg (by omega)).symm)
    refine mm_icmp_eq (tgt := 64) C (mm_dec dk_X4_fillValues 29 rfl) (by decide) (fun c53 => ?_) (fun c53 => ?_)
    · skip
      exact J64 (by omega)
    · skip
      refine mm_aload_n C (mm_dec dk_X4_fillValues 30 rfl) rfl ?_
      refine mm_geti C fl_X4_22 (mm_dec dk_X4_fillValues 31 rfl) rfl rfl (Or.inl rfl) ?_
      refine mm_iconst C (mm_dec dk_X4_fillValues 32 rfl) ⟨by decide, by decide⟩ ?_
      refine mm_icmp_ne (tgt := 68) C (mm_dec dk_X4_fillValues 33 rfl) (by decide) (fun c61 => ?_) (fun c61 => ?_)
      · skip
        refine mm_aload_n C (mm_dec dk_X4_fillValues 36 rfl) rfl ?_
        refine mm_geti C fl_X4_22 (mm_dec dk_X4_fillValues 37 rfl) rfl rfl (Or.inl rfl) ?_
        refine mm_aload_n C (mm_dec dk_X4_fillValues 38 rfl) rfl ?_
        refine mm_geti C fl_X4_19 (mm_dec dk_X4_fillValues 39 rfl) rfl rfl (Or.inl rfl) ?_
        refine mm_isubw C (mm_dec dk_X4_fillValues 40 rfl) ?_
        have g45 : -2147483648 ≤ (mm_w ((h2.1 46 7) - (h2.1 46 6))) ∧ (mm_w ((h2.1 46 7) - (h2.1 46 6))) < 2147483648 := mm_w_rg _
        exact J77 (mm_w ((h2.1 46 7) - (h2.1 46 6))) ⟨by omega, by omega⟩ (by first | exact (if_pos w64_0).symm | exact (congrArg mm_w (show _ = h.1 46 7 - h.1 46 6 by omega)).trans (if_neg (by omega)).symm)
      · skip
        exact J64 (by omega)
  refine mm_if_eq (tgt := 22) C (mm_dec dk_X4_fillValues 9 rfl) (by decide) (fun c15 => ?_) (fun c15 => ?_)
  · skip
    refine mm_aload_n C (mm_dec dk_X4_fillValues 12 rfl) rfl ?_
    refine mm_getr (t := 48) C fl_X4_55 (mm_dec dk_X4_fillValues 13 rfl) rfl rfl (mm_ref i0 rfl) ?_
    refine mm_cVi (rest := [mI 0, mR 47]) C1 ev_X4_137 (mm_dec dk_X4_fillValues 14 rfl) (c_X1_unkept_q x.2.1 hl (d - 1) (by omega) h i0 ) rfl rfl (Nat.le_of_ble_eq_true rfl) ⟨by decide, by decide⟩ rfl (fun r26 h26c hp26 => ?_) (fun _ _ q => q.elim)
    obtain ⟨b26, z26, y26_0⟩ := hp26
    rw [z26]
    exact J29 r26 ⟨by omega, by omega⟩ (by omega)
  · skip
    refine mm_iconst C (mm_dec dk_X4_fillValues 10 rfl) ⟨by decide, by decide⟩ ?_
    refine mm_goto (tgt := 29) C (mm_dec dk_X4_fillValues 11 rfl) (by decide) ?_
    exact J29 0 ⟨by omega, by omega⟩ (by omega)
set_option maxRecDepth 100000 in
set_option maxHeartbeats 4000000 in
theorem c_X4_stateAt_q (l : Launch) (hl : l.stackTraces = false) (d : Nat) (hd : 1 ≤ d) (h : mH) (i0 : mm_inv h) (p1 : Int) (p2 : Int) : mm_Met l d yX4_stateAt cX4_stateAt 3 (some .int) [mR 46, mI p1, mI p2] h (mm_pi fun r h2 => (0 ≤ r ∧ r ≤ 4) ∧ h2 = h ∧ r = mm_sa9 (h.1 46 6) (h.1 46 7) p2 (h.1 42 6) (h.2.1 47 0) p1) mm_nx 0 0 := by
  refine mm_ofW (ls := [mR 46, mI p1, mI p2]) hl (by decide) rfl (Nat.le_of_ble_eq_true rfl) ?_
  intro x hxl C T hnm htb
  subst hxl
  have C1 := mm_OK_le (d' := d - 1 + 1) (by omega) C
  refine mm_rng (fun hr _ => ?_)
  have ap1 : -2147483648 ≤ p1 ∧ p1 < 2147483648 := mm_ok_at hr (i := 1) rfl
  have ap2 : -2147483648 ≤ p2 ∧ p2 < 2147483648 := mm_ok_at hr (i := 2) rfl
  have f0 : mm_fr [] [] h h := mm_fr_rf
  refine mm_aload_n C (mm_dec dk_X4_stateAt 0 rfl) rfl ?_
  refine mm_geti C fl_X4_19 (mm_dec dk_X4_stateAt 1 rfl) rfl rfl (Or.inl rfl) ?_
  have g1 : -2147483648 ≤ (h.1 46 6) ∧ (h.1 46 6) ≤ 2147483647 := i0.1 46 6
  refine mm_iconst C (mm_dec dk_X4_stateAt 2 rfl) ⟨by decide, by decide⟩ ?_
  have J16 : ∀ (w16_0 : (h.1 46 6 = -1 ∨ p1 < h.1 46 6)), mm_W x 0 0 16 [mU, mU, mU] [] h := by
    intro w16_0
    refine mm_iconst C (mm_dec dk_X4_stateAt 8 rfl) ⟨by decide, by decide⟩ ?_
    exact mm_iret C T (mm_dec dk_X4_stateAt 9 rfl) (by decide : 0 ≤ 0) (by decide : 0 ≤ 0) ⟨_, rfl, ⟨⟨by omega, by omega⟩, rfl, by first | exact w77_0 | (unfold mm_sa9; (repeat' split) <;> omega)⟩⟩
  refine mm_icmp_eq (tgt := 16) C (mm_dec dk_X4_stateAt 3 rfl) (by decide) (fun c5 => ?_) (fun c5 => ?_)
  · skip
    refine mm_fgt 0 ?_
    refine mm_fgt 1 ?_
    refine mm_fgt 2 ?_
    exact J16 (by omega)
  · skip
    refine mm_aload_n C (mm_dec dk_X4_stateAt 4 rfl) rfl ?_
    refine mm_geti C fl_X4_19 (mm_dec dk_X4_stateAt 5 rfl) rfl rfl (Or.inl rfl) ?_
    refine mm_iload_n C (mm_dec dk_X4_stateAt 6 rfl) rfl ?_
    refine mm_icmp_le (tgt := 18) C (mm_dec dk_X4_stateAt 7 rfl) (by decide) (fun c13 => ?_) (fun c13 => ?_)
    · skip
      refine mm_aload_n C (mm_dec dk_X4_stateAt 10 rfl) rfl ?_
      refine mm_geti C fl_X4_22 (mm_dec dk_X4_stateAt 11 rfl) rfl rfl (Or.inl rfl) ?_
      have g2 : -2147483648 ≤ (h.1 46 7) ∧ (h.1 46 7) ≤ 2147483647 := i0.1 46 7
      refine mm_iconst C (mm_dec dk_X4_stateAt 12 rfl) ⟨by decide, by decide⟩ ?_
      have J37 : ∀ (w37_0 : (h.1 46 7 = -1 ∨ h.1 46 7 < h.1 46 6)) (w37_1 : h.1 46 6 ≠ -1) (w37_2 : h.1 46 6 ≤ p1), mm_W x 0 0 37 [mU, mU, mU] [] h := by
        intro w37_0 w37_1 w37_2
        refine mm_iconst C (mm_dec dk_X4_stateAt 19 rfl) ⟨by decide, by decide⟩ ?_
        exact mm_iret C T (mm_dec dk_X4_stateAt 20 rfl) (by decide : 0 ≤ 0) (by decide : 0 ≤ 0) ⟨_, rfl, ⟨⟨by omega, by omega⟩, rfl, by first | exact w77_0 | (unfold mm_sa9; (repeat' split) <;> omega)⟩⟩
      refine mm_icmp_eq (tgt := 37) C (mm_dec dk_X4_stateAt 13 rfl) (by decide) (fun c23 => ?_) (fun c23 => ?_)
      · skip
        refine mm_fgt 0 ?_
        refine mm_fgt 1 ?_
        refine mm_fgt 2 ?_
        exact J37 (by omega) (by omega) (by omega)
      · skip
        refine mm_aload_n C (mm_dec dk_X4_stateAt 14 rfl) rfl ?_
        refine mm_geti C fl_X4_22 (mm_dec dk_X4_stateAt 15 rfl) rfl rfl (Or.inl rfl) ?_
        refine mm_aload_n C (mm_dec dk_X4_stateAt 16 rfl) rfl ?_
        refine mm_geti C fl_X4_19 (mm_dec dk_X4_stateAt 17 rfl) rfl rfl (Or.inl rfl) ?_
        refine mm_icmp_ge (tgt := 39) C (mm_dec dk_X4_stateAt 18 rfl) (by decide) (fun c34 => ?_) (fun c34 => ?_)
        · skip
          refine mm_iload_n C (mm_dec dk_X4_stateAt 21 rfl) rfl ?_
          refine mm_iconst C (mm_dec dk_X4_stateAt 22 rfl) ⟨by decide, by decide⟩ ?_
          refine mm_icmp_ne (tgt := 46) C (mm_dec dk_X4_stateAt 23 rfl) (by decide) (fun c41 => ?_) (fun c41 => ?_)
          · skip
            refine mm_iload_n C (mm_dec dk_X4_stateAt 26 rfl) rfl ?_
            refine mm_iconst C (mm_dec dk_X4_stateAt 27 rfl) ⟨by decide, by decide⟩ ?_
            have J61 : ∀ (w61_0 : (p2 = 2 ∨ h.1 42 6 ≠ 0)) (w61_1 : h.1 46 6 ≠ -1) (w61_2 : h.1 46 6 ≤ p1) (w61_3 : h.1 46 7 ≠ -1) (w61_4 : h.1 46 6 ≤ h.1 46 7) (w61_5 : p2 ≠ 1), mm_W x 0 0 61 [mU, mU, mU] [] h := by
              intro w61_0 w61_1 w61_2 w61_3 w61_4 w61_5
              refine mm_iconst C (mm_dec dk_X4_stateAt 33 rfl) ⟨by decide, by decide⟩ ?_
              exact mm_iret C T (mm_dec dk_X4_stateAt 34 rfl) (by decide : 0 ≤ 0) (by decide : 0 ≤ 0) ⟨_, rfl, ⟨⟨by omega, by omega⟩, rfl, by first | exact w77_0 | (unfold mm_sa9; (repeat' split) <;> omega)⟩⟩
            refine mm_icmp_eq (tgt := 61) C (mm_dec dk_X4_stateAt 28 rfl) (by decide) (fun c48 => ?_) (fun c48 => ?_)
            · skip
              refine mm_fgt 0 ?_
              refine mm_fgt 1 ?_
              refine mm_fgt 2 ?_
              exact J61 (by omega) (by omega) (by omega) (by omega) (by omega) (by omega)
            · skip
              refine mm_aload_n C (mm_dec dk_X4_stateAt 29 rfl) rfl ?_
              refine mm_getr (t := 42) C fl_X4_46 (mm_dec dk_X4_stateAt 30 rfl) rfl rfl (mm_ref i0 rfl) ?_
              refine mm_cVi (rest := []) C1 ev_X4_152 (mm_dec dk_X4_stateAt 31 rfl) (c_X8_out x.2.1 hl (d - 1) (by omega) h i0 ) rfl rfl (Nat.le_of_ble_eq_true rfl) ⟨by decide, by decide⟩ rfl (fun r55 h55c hp55 => ?_) (fun _ _ q => q.elim)
              obtain ⟨z55, y55⟩ := hp55
              rw [z55, y55]
              have g4 : 0 ≤ (h.1 42 6) ∧ (h.1 42 6) ≤ 1 := i0.1 42 6
              refine mm_if_eq (tgt := 63) C (mm_dec dk_X4_stateAt 32 rfl) (by decide) (fun c58 => ?_) (fun c58 => ?_)
              · skip
                refine mm_aload_n C (mm_dec dk_X4_stateAt 35 rfl) rfl ?_
                refine mm_getr (t := 47) C fl_X4_9 (mm_dec dk_X4_stateAt 36 rfl) rfl rfl (mm_ref i0 rfl) ?_
                refine mm_iconst C (mm_dec dk_X4_stateAt 37 rfl) ⟨by decide, by decide⟩ ?_
                refine mm_iald C (mm_dec dk_X4_stateAt 38 rfl) rfl (by omega) (by omega) ?_
                have g5 : -2147483648 ≤ (h.2.1 47 0) ∧ (h.2.1 47 0) ≤ 2147483647 := i0.2.1 47 0
                have J77 : ∀ (s77_0 : Int) (bs77_0 : 3 ≤ s77_0 ∧ s77_0 ≤ 4) (w77_0 : s77_0 = mm_sa9 (h.1 46 6) (h.1 46 7) p2 (h.1 42 6) (h.2.1 47 0) p1) (vs77_0 : (0 < (h.2.1 47 0) ∧ s77_0 = 3) ∨ ((h.2.1 47 0) ≤ 0 ∧ s77_0 = 4)), mm_W x 0 0 77 [mU, mU, mU] [mI s77_0] h := by
                  intro s77_0 bs77_0 w77_0 vs77_0
                  exact mm_iret C T (mm_dec dk_X4_stateAt 43 rfl) (by decide : 0 ≤ 0) (by decide : 0 ≤ 0) ⟨_, rfl, ⟨⟨by omega, by omega⟩, rfl, by first | exact w77_0 | (unfold mm_sa9; (repeat' split) <;> omega)⟩⟩
                refine mm_if_le (tgt := 76) C (mm_dec dk_X4_stateAt 39 rfl) (by decide) (fun c69 => ?_) (fun c69 => ?_)
                · skip
                  refine mm_iconst C (mm_dec dk_X4_stateAt 42 rfl) ⟨by decide, by decide⟩ ?_
                  refine mm_fgt 0 ?_
                  refine mm_fgt 1 ?_
                  refine mm_fgt 2 ?_
                  exact J77 4 ⟨by omega, by omega⟩ (by (unfold mm_sa9; (repeat' split) <;> omega)) (Or.inr (⟨by omega, rfl⟩))
                · skip
                  refine mm_iconst C (mm_dec dk_X4_stateAt 40 rfl) ⟨by decide, by decide⟩ ?_
                  refine mm_goto (tgt := 77) C (mm_dec dk_X4_stateAt 41 rfl) (by decide) ?_
                  refine mm_fgt 0 ?_
                  refine mm_fgt 1 ?_
                  refine mm_fgt 2 ?_
                  exact J77 3 ⟨by omega, by omega⟩ (by (unfold mm_sa9; (repeat' split) <;> omega)) (Or.inl ⟨by omega, rfl⟩)
              · skip
                refine mm_fgt 0 ?_
                refine mm_fgt 1 ?_
                refine mm_fgt 2 ?_
                exact J61 (by omega) (by omega) (by omega) (by omega) (by omega) (by omega)
          · skip
            refine mm_iconst C (mm_dec dk_X4_stateAt 24 rfl) ⟨by decide, by decide⟩ ?_
            exact mm_iret C T (mm_dec dk_X4_stateAt 25 rfl) (by decide : 0 ≤ 0) (by decide : 0 ≤ 0) ⟨_, rfl, ⟨⟨by omega, by omega⟩, rfl, by first | exact w77_0 | (unfold mm_sa9; (repeat' split) <;> omega)⟩⟩
        · skip
          refine mm_fgt 0 ?_
          refine mm_fgt 1 ?_
          refine mm_fgt 2 ?_
          exact J37 (by omega) (by omega) (by omega)
    · skip
      refine mm_fgt 0 ?_
      refine mm_fgt 1 ?_
      refine mm_fgt 2 ?_
      exact J16 (by omega)
